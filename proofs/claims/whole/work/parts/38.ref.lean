set_option maxHeartbeats 4000000 in
set_option maxRecDepth 100000 in
theorem c_X6_save (l : Launch) (dC : Nat → ClassId) (dI : Nat → Nat → Nat) (cI : ClassId) (sz : Nat) (oM : Nat) (rz : Nat) (r2 : Nat) (rb : Nat) (rq : Nat) (km : Nat) (n : Nat) (th : Int32) (tp : Int32) (lf : Int32) (hg : Int32) (wd : Int32) (pm : Int32) (stt : Int32) (hh : Int64) (z : Nat → Int32) (zs : Nat → Int32) (bf : Nat → Int32) (pt : Nat → Int32) (v : Nat → Int32) (hkm : km ≤ 6) : Met l yX6_save wsX6_save ({ frames := 0, cells := 0, slots := 0, locals := 0 }) (kq_M dC dI cI [.ref oM] sz [(oM, .inr (6, [.int th, .ref rz, .ref r2, .int (nI km), .ref rb, .int (nI n), .int tp, .int lf, .int hg, .int wd, .ref rq, .int pm, .int stt, .long hh])), (rz, .inl (cI, 389, .inl z)), (r2, .inl (cI, 2334, .inl zs))]) (va_Qv (fun (u : (Nat → Int32)) => n_sv zs z u km) (kq_B dC dI (va_A [(oM, .inr (6, [.int th, .ref rz, .ref r2, .int (nI km), .ref rb, .int (nI n), .int tp, .int lf, .int hg, .int wd, .ref rq, .int pm, .int stt, .long hh])), (rz, .inl (cI, 389, .inl z)), (r2, .inl (cI, 2334, .inl zs))] sz) (fun u : (Nat → Int32) => [(oM, .inr (6, [.int th, .ref rz, .ref r2, .int (nI (min (km + 1) 6)), .ref rb, .int (nI n), .int tp, .int lf, .int hg, .int wd, .ref rq, .int pm, .int stt, .long hh])), (rz, .inl (cI, 389, .inl z)), (r2, .inl (cI, 2334, .inl u))])) (va_A [(oM, .inr (6, [.int th, .ref rz, .ref r2, .int (nI km), .ref rb, .int (nI n), .int tp, .int lf, .int hg, .int wd, .ref rq, .int pm, .int stt, .long hh])), (rz, .inl (cI, 389, .inl z)), (r2, .inl (cI, 2334, .inl zs))] sz)) 0 0 (va_A [(oM, .inr (6, [.int th, .ref rz, .ref r2, .int (nI km), .ref rb, .int (nI n), .int tp, .int lf, .int hg, .int wd, .ref rq, .int pm, .int stt, .long hh])), (rz, .inl (cI, 389, .inl z)), (r2, .inl (cI, 2334, .inl zs))] sz) := by
  refine kq_startM (cc := cX6_save) (maxL := 2) (ret := none) (by decide) rfl (Nat.le_of_ble_eq_true rfl) ?_
  intro p e s m below meth c hx hb hr hml hown hlocks hts hsz hA hP hD hS hK hnm ls hl
  subst hsz
  generalize hAe : va_A [(oM, .inr (6, [.int th, .ref rz, .ref r2, .int (nI km), .ref rb, .int (nI n), .int tp, .int lf, .int hg, .int wd, .ref rq, .int pm, .int stt, .long hh])), (rz, .inl (cI, 389, .inl z)), (r2, .inl (cI, 2334, .inl zs))] s.heap.size = A at hA hD hS ⊢
  have hown : s.vm.findClass RX6 = some m.cls := hown
  have hl : lv_has ls 2 [(0, .ref oM)] := hl
  refine lv_aload_n hx hb dX6_save_0 rfl (lv_at hl 0 rfl) ?_
  refine va_get (D := (dC, dI)) (ci := 6) (v := .int (nI km)) (C := RX6) (T := TX6) (N := 14) hx hb hts (by decide +kernel) hown hK.1 hP 0 rfl rfl 3 (by decide) (hts (.fieldLink RX6 34 "NoteWatermarksModel" "savedMany" "I") (by decide +kernel)) (fun _ h9 => h9) rfl dX6_save_1 ?_
  refine lv_bipush (v := 6) hx hb dX6_save_4 (by decide) ?_
  refine lv_icmp_ne (tgt := 50) hx hb dX6_save_6 (by decide) (fun c_1 => ?_) (fun c_1 => ?_)
  · skip
    have c_1 := kq_neN (a := km) (b := 6) c_1 (by omega) (by omega)
    refine lv_iconst (v := 0) hx hb dX6_save_50 (by decide) ?_
    refine lv_istore_n (lv' := [(1, .int 0), (0, .ref oM)]) hx hb dX6_save_51 rfl hl (by decide) rfl (fun ls hl => ?_)
    refine kq_loopM3 (A1 := Nat) (A2 := Nat) (A3 := Nat → Int32) (fun (k : Nat) (m9 : Nat) (g : Nat → Int32) => 389 - k) (fun (k : Nat) (m9 : Nat) (g : Nat → Int32) => (k ≤ 389) ∧ (m9 + 1 = min (km + 1) 6 ∧ m9 ≤ km) ∧ (∀ i, i < m9 → ∀ q, q < 389 → g (i * 389 + q) = zs ((i + (km - m9)) * 389 + q)) ∧ (∀ q, q < k → g (m9 * 389 + q) = z q)) (fun (k : Nat) (m9 : Nat) (g : Nat → Int32) => [(0, .ref oM), (1, .int (nI k))]) (fun (k : Nat) (m9 : Nat) (g : Nat → Int32) => [(oM, .inr (6, [.int th, .ref rz, .ref r2, .int (nI m9), .ref rb, .int (nI n), .int tp, .int lf, .int hg, .int wd, .ref rq, .int pm, .int stt, .long hh])), (rz, .inl (cI, 389, .inl z)), (r2, .inl (cI, 2334, .inl g))]) (nL := 2) hK ?_ 0 km zs ⟨(by omega), (by omega), (by intro i hi q hq; first | (rw [show i + (km - km) = i by omega]; done) | (rw [ig, if_pos (by omega)]; exact congrArg zs (by omega))), (by intro q hq; omega)⟩ hP hD hS _ (lv_sub hl [1, 0] rfl)
    intro k m9 g hi_3 ih_2 H locs hP hD hS ls hl
    obtain ⟨ik, im, ig, ih9⟩ := hi_3
    have hl : lv_has ls 2 [(0, .ref oM), (1, .int (nI k))] := hl
    have hP : va_P (dC, dI) vwCl [(oM, .inr (6, [.int th, .ref rz, .ref r2, .int (nI m9), .ref rb, .int (nI n), .int tp, .int lf, .int hg, .int wd, .ref rq, .int pm, .int stt, .long hh])), (rz, .inl (cI, 389, .inl z)), (r2, .inl (cI, 2334, .inl g))] H := hP
    have hD : va_D A [(oM, .inr (6, [.int th, .ref rz, .ref r2, .int (nI m9), .ref rb, .int (nI n), .int tp, .int lf, .int hg, .int wd, .ref rq, .int pm, .int stt, .long hh])), (rz, .inl (cI, 389, .inl z)), (r2, .inl (cI, 2334, .inl g))] := hD
    refine lv_iload_n hx hb dX6_save_52 rfl (lv_at hl 1 rfl) ?_
    refine lv_sipush (v := 389) hx hb dX6_save_53 (by decide) ?_
    refine lv_icmp_ge (tgt := 86) hx hb dX6_save_56 (by decide) (fun c_4 => ?_) (fun c_4 => ?_)
    · skip
      have c_4 := kq_leN (a := 389) (b := k) c_4 (by omega) (by omega)
      refine lv_aload_n hx hb dX6_save_86 rfl (lv_at hl 0 rfl) ?_
      refine lv_dup hx hb dX6_save_87 rfl ?_
      refine va_get (D := (dC, dI)) (ci := 6) (v := .int (nI m9)) (C := RX6) (T := TX6) (N := 14) hx hb hts (by decide +kernel) hown hK.1 hP 0 rfl rfl 3 (by decide) (hts (.fieldLink RX6 34 "NoteWatermarksModel" "savedMany" "I") (by decide +kernel)) (fun _ h9 => h9) rfl dX6_save_88 ?_
      refine lv_iconst (v := 1) hx hb dX6_save_91 (by decide) ?_
      refine lv_iadd hx hb dX6_save_92 ?_
      refine kq_top (z := nI (m9 + 1)) (nI_add m9 1) ?_
      refine va_put (D := (dC, dI)) (ci := 6) (v := .int (nI (m9 + 1))) (ty := .int) (C := RX6) (T := TX6) (N := 14) hx hb hts (by decide +kernel) tyX6 tyX6_ok nmX6 hown hK.1 hP hD hS 0 rfl rfl 3 (by decide) (hts (.fieldLink RX6 34 "NoteWatermarksModel" "savedMany" "I") (by decide +kernel)) (fun _ h9 => h9) rfl (by decide +kernel) rfl rfl (Nat.le_of_ble_eq_true rfl) dX6_save_93 (fun H locs hP hD hS => ?_)
      have hP : va_P (dC, dI) vwCl [(oM, .inr (6, [.int th, .ref rz, .ref r2, .int (nI (m9 + 1)), .ref rb, .int (nI n), .int tp, .int lf, .int hg, .int wd, .ref rq, .int pm, .int stt, .long hh])), (rz, .inl (cI, 389, .inl z)), (r2, .inl (cI, 2334, .inl g))] H := hP
      have hD : va_D A [(oM, .inr (6, [.int th, .ref rz, .ref r2, .int (nI (m9 + 1)), .ref rb, .int (nI n), .int tp, .int lf, .int hg, .int wd, .ref rq, .int pm, .int stt, .long hh])), (rz, .inl (cI, 389, .inl z)), (r2, .inl (cI, 2334, .inl g))] := hD
      have em : m9 + 1 = min (km + 1) 6 := im.1
      rw [em] at hP hD
      exact kq_retMv (g) hx hb hr hlocks hP hD hS dX6_save_96 (by exact ⟨fun i hi q hq => by rw [ig i (by omega) q hq, show km + 1 - min (km + 1) 6 = km - m9 by omega], fun q hq => by rw [show min (km + 1) 6 - 1 = m9 by omega]; exact ih9 q (by omega)⟩)
    · skip
      have c_4 := kq_nleN (a := 389) (b := k) c_4 (by omega) (by omega)
      refine lv_aload_n hx hb dX6_save_59 rfl (lv_at hl 0 rfl) ?_
      refine va_get (D := (dC, dI)) (ci := 6) (v := .ref r2) (C := RX6) (T := TX6) (N := 14) hx hb hts (by decide +kernel) hown hK.1 hP 0 rfl rfl 2 (by decide) (hts (.fieldLink RX6 13 "NoteWatermarksModel" "saved" "[I") (by decide +kernel)) (fun _ h9 => h9) rfl dX6_save_60 ?_
      refine lv_aload_n hx hb dX6_save_63 rfl (lv_at hl 0 rfl) ?_
      refine va_get (D := (dC, dI)) (ci := 6) (v := .int (nI m9)) (C := RX6) (T := TX6) (N := 14) hx hb hts (by decide +kernel) hown hK.1 hP 0 rfl rfl 3 (by decide) (hts (.fieldLink RX6 34 "NoteWatermarksModel" "savedMany" "I") (by decide +kernel)) (fun _ h9 => h9) rfl dX6_save_64 ?_
      refine lv_sipush (v := 389) hx hb dX6_save_67 (by decide) ?_
      refine lv_imul hx hb dX6_save_70 ?_
      refine kq_top (z := nI (m9 * 389)) (pk_mul m9 389) ?_
      refine lv_iload_n hx hb dX6_save_71 rfl (lv_at hl 1 rfl) ?_
      refine lv_iadd hx hb dX6_save_72 ?_
      refine kq_top (z := nI ((m9 * 389) + k)) (nI_add (m9 * 389) k) ?_
      refine lv_aload_n hx hb dX6_save_73 rfl (lv_at hl 0 rfl) ?_
      refine va_get (D := (dC, dI)) (ci := 6) (v := .ref rz) (C := RX6) (T := TX6) (N := 14) hx hb hts (by decide +kernel) hown hK.1 hP 0 rfl rfl 1 (by decide) (hts (.fieldLink RX6 7 "NoteWatermarksModel" "z" "[I") (by decide +kernel)) (fun _ h9 => h9) rfl dX6_save_74 ?_
      refine lv_iload_n hx hb dX6_save_77 rfl (lv_at hl 1 rfl) ?_
      refine va_iald hx hb hK.1 hP 1 0 rfl rfl (vp_in_nI (show k < 389 from by omega) (by omega)) dX6_save_78 ?_
      refine kq_top (z := z k) (congrArg z (nI_clamp (Nat.lt_trans (show k < 389 from by omega) (by omega)))) ?_
      refine va_iast hx hb hK.1 hP hD hS 2 0 rfl rfl (vp_in_nI (show (m9 * 389) + k < 2334 from by omega) (by omega)) dX6_save_79 (fun H locs hP hD hS => ?_)
      rw [nI_clamp (Nat.lt_trans (show (m9 * 389) + k < 2334 from by omega) (by omega))] at hP hD
      have hP : va_P (dC, dI) vwCl [(oM, .inr (6, [.int th, .ref rz, .ref r2, .int (nI m9), .ref rb, .int (nI n), .int tp, .int lf, .int hg, .int wd, .ref rq, .int pm, .int stt, .long hh])), (rz, .inl (cI, 389, .inl z)), (r2, .inl (cI, 2334, .inl (upd g ((m9 * 389) + k) (z k))))] H := hP
      have hD : va_D A [(oM, .inr (6, [.int th, .ref rz, .ref r2, .int (nI m9), .ref rb, .int (nI n), .int tp, .int lf, .int hg, .int wd, .ref rq, .int pm, .int stt, .long hh])), (rz, .inl (cI, 389, .inl z)), (r2, .inl (cI, 2334, .inl (upd g ((m9 * 389) + k) (z k))))] := hD
      refine lv_iinc (v := nI (k + 1)) (lv' := [(1, .int (nI (k + 1))), (0, .ref oM)]) hx hb dX6_save_80 hl (k := 1) rfl (nI_1 k) (by decide) rfl (fun ls hl => ?_)
      refine lv_goto (tgt := 52) hx hb dX6_save_83 (by decide) ?_
      exact ih_2 (k + 1) m9 (upd g ((m9 * 389) + k) (z k)) ⟨(by omega), (by omega), (by intro i hi q hq; rw [pk_un (by omega)]; exact ig i hi q hq), (by intro q hq; by_cases q2 : q = k; (rw [q2, pk_us]); (rw [pk_un (by omega)]; exact ih9 q (by omega)))⟩ (by show 389 - (k + 1) < 389 - k; omega) _ _ hP hD hS _ (lv_sub hl [1, 0] rfl)
  · skip
    have c_1 := kq_eqN (a := km) (b := 6) c_1 (by omega) (by omega)
    refine lv_iconst (v := 0) hx hb dX6_save_9 (by decide) ?_
    refine lv_istore_n (lv' := [(1, .int 0), (0, .ref oM)]) hx hb dX6_save_10 rfl hl (by decide) rfl (fun ls hl => ?_)
    refine kq_loopM2 (A1 := Nat) (A2 := Nat → Int32) (fun (k : Nat) (g : Nat → Int32) => 1945 - k) (fun (k : Nat) (g : Nat → Int32) => (k ≤ 1945) ∧ (∀ j, g j = if j < k then zs (j + 389) else zs j)) (fun (k : Nat) (g : Nat → Int32) => [(0, .ref oM), (1, .int (nI k))]) (fun (k : Nat) (g : Nat → Int32) => [(oM, .inr (6, [.int th, .ref rz, .ref r2, .int (nI km), .ref rb, .int (nI n), .int tp, .int lf, .int hg, .int wd, .ref rq, .int pm, .int stt, .long hh])), (rz, .inl (cI, 389, .inl z)), (r2, .inl (cI, 2334, .inl g))]) (nL := 2) hK ?_ 0 zs ⟨(by omega), (by intro j; rw [if_neg (by omega)])⟩ hP hD hS _ (lv_sub hl [1, 0] rfl)
    intro k g hi_6 ih_5 H locs hP hD hS ls hl
    obtain ⟨ik, ig⟩ := hi_6
    have hl : lv_has ls 2 [(0, .ref oM), (1, .int (nI k))] := hl
    have hP : va_P (dC, dI) vwCl [(oM, .inr (6, [.int th, .ref rz, .ref r2, .int (nI km), .ref rb, .int (nI n), .int tp, .int lf, .int hg, .int wd, .ref rq, .int pm, .int stt, .long hh])), (rz, .inl (cI, 389, .inl z)), (r2, .inl (cI, 2334, .inl g))] H := hP
    have hD : va_D A [(oM, .inr (6, [.int th, .ref rz, .ref r2, .int (nI km), .ref rb, .int (nI n), .int tp, .int lf, .int hg, .int wd, .ref rq, .int pm, .int stt, .long hh])), (rz, .inl (cI, 389, .inl z)), (r2, .inl (cI, 2334, .inl g))] := hD
    refine lv_iload_n hx hb dX6_save_11 rfl (lv_at hl 1 rfl) ?_
    refine lv_sipush (v := 1945) hx hb dX6_save_12 (by decide) ?_
    refine lv_icmp_ge (tgt := 40) hx hb dX6_save_15 (by decide) (fun c_7 => ?_) (fun c_7 => ?_)
    · skip
      have c_7 := kq_leN (a := 1945) (b := k) c_7 (by omega) (by omega)
      refine lv_aload_n hx hb dX6_save_40 rfl (lv_at hl 0 rfl) ?_
      refine lv_dup hx hb dX6_save_41 rfl ?_
      refine va_get (D := (dC, dI)) (ci := 6) (v := .int (nI km)) (C := RX6) (T := TX6) (N := 14) hx hb hts (by decide +kernel) hown hK.1 hP 0 rfl rfl 3 (by decide) (hts (.fieldLink RX6 34 "NoteWatermarksModel" "savedMany" "I") (by decide +kernel)) (fun _ h9 => h9) rfl dX6_save_42 ?_
      refine lv_iconst (v := 1) hx hb dX6_save_45 (by decide) ?_
      refine lv_isub hx hb dX6_save_46 ?_
      refine kq_top (z := nI (km - 1)) (pk_sub (a := km) (b := 1) (by omega)) ?_
      refine va_put (D := (dC, dI)) (ci := 6) (v := .int (nI (km - 1))) (ty := .int) (C := RX6) (T := TX6) (N := 14) hx hb hts (by decide +kernel) tyX6 tyX6_ok nmX6 hown hK.1 hP hD hS 0 rfl rfl 3 (by decide) (hts (.fieldLink RX6 34 "NoteWatermarksModel" "savedMany" "I") (by decide +kernel)) (fun _ h9 => h9) rfl (by decide +kernel) rfl rfl (Nat.le_of_ble_eq_true rfl) dX6_save_47 (fun H locs hP hD hS => ?_)
      have hP : va_P (dC, dI) vwCl [(oM, .inr (6, [.int th, .ref rz, .ref r2, .int (nI (km - 1)), .ref rb, .int (nI n), .int tp, .int lf, .int hg, .int wd, .ref rq, .int pm, .int stt, .long hh])), (rz, .inl (cI, 389, .inl z)), (r2, .inl (cI, 2334, .inl g))] H := hP
      have hD : va_D A [(oM, .inr (6, [.int th, .ref rz, .ref r2, .int (nI (km - 1)), .ref rb, .int (nI n), .int tp, .int lf, .int hg, .int wd, .ref rq, .int pm, .int stt, .long hh])), (rz, .inl (cI, 389, .inl z)), (r2, .inl (cI, 2334, .inl g))] := hD
      refine lv_iconst (v := 0) hx hb dX6_save_50 (by decide) ?_
      refine lv_istore_n (lv' := [(1, .int 0), (0, .ref oM)]) hx hb dX6_save_51 rfl hl (by decide) rfl (fun ls hl => ?_)
      refine kq_loopM3 (A1 := Nat) (A2 := Nat) (A3 := Nat → Int32) (fun (k : Nat) (m9 : Nat) (g : Nat → Int32) => 389 - k) (fun (k : Nat) (m9 : Nat) (g : Nat → Int32) => (k ≤ 389) ∧ (m9 + 1 = min (km + 1) 6 ∧ m9 ≤ km) ∧ (∀ i, i < m9 → ∀ q, q < 389 → g (i * 389 + q) = zs ((i + (km - m9)) * 389 + q)) ∧ (∀ q, q < k → g (m9 * 389 + q) = z q)) (fun (k : Nat) (m9 : Nat) (g : Nat → Int32) => [(0, .ref oM), (1, .int (nI k))]) (fun (k : Nat) (m9 : Nat) (g : Nat → Int32) => [(oM, .inr (6, [.int th, .ref rz, .ref r2, .int (nI m9), .ref rb, .int (nI n), .int tp, .int lf, .int hg, .int wd, .ref rq, .int pm, .int stt, .long hh])), (rz, .inl (cI, 389, .inl z)), (r2, .inl (cI, 2334, .inl g))]) (nL := 2) hK ?_ 0 (km - 1) g ⟨(by omega), (by omega), (by intro i hi q hq; first | (rw [show i + (km - km) = i by omega]; done) | (rw [ig, if_pos (by omega)]; exact congrArg zs (by omega))), (by intro q hq; omega)⟩ hP hD hS _ (lv_sub hl [1, 0] rfl)
      intro k m9 g hi_9 ih_8 H locs hP hD hS ls hl
      obtain ⟨ik, im, ig, ih9⟩ := hi_9
      have hl : lv_has ls 2 [(0, .ref oM), (1, .int (nI k))] := hl
      have hP : va_P (dC, dI) vwCl [(oM, .inr (6, [.int th, .ref rz, .ref r2, .int (nI m9), .ref rb, .int (nI n), .int tp, .int lf, .int hg, .int wd, .ref rq, .int pm, .int stt, .long hh])), (rz, .inl (cI, 389, .inl z)), (r2, .inl (cI, 2334, .inl g))] H := hP
      have hD : va_D A [(oM, .inr (6, [.int th, .ref rz, .ref r2, .int (nI m9), .ref rb, .int (nI n), .int tp, .int lf, .int hg, .int wd, .ref rq, .int pm, .int stt, .long hh])), (rz, .inl (cI, 389, .inl z)), (r2, .inl (cI, 2334, .inl g))] := hD
      refine lv_iload_n hx hb dX6_save_52 rfl (lv_at hl 1 rfl) ?_
      refine lv_sipush (v := 389) hx hb dX6_save_53 (by decide) ?_
      refine lv_icmp_ge (tgt := 86) hx hb dX6_save_56 (by decide) (fun c_10 => ?_) (fun c_10 => ?_)
      · skip
        have c_10 := kq_leN (a := 389) (b := k) c_10 (by omega) (by omega)
        refine lv_aload_n hx hb dX6_save_86 rfl (lv_at hl 0 rfl) ?_
        refine lv_dup hx hb dX6_save_87 rfl ?_
        refine va_get (D := (dC, dI)) (ci := 6) (v := .int (nI m9)) (C := RX6) (T := TX6) (N := 14) hx hb hts (by decide +kernel) hown hK.1 hP 0 rfl rfl 3 (by decide) (hts (.fieldLink RX6 34 "NoteWatermarksModel" "savedMany" "I") (by decide +kernel)) (fun _ h9 => h9) rfl dX6_save_88 ?_
        refine lv_iconst (v := 1) hx hb dX6_save_91 (by decide) ?_
        refine lv_iadd hx hb dX6_save_92 ?_
        refine kq_top (z := nI (m9 + 1)) (nI_add m9 1) ?_
        refine va_put (D := (dC, dI)) (ci := 6) (v := .int (nI (m9 + 1))) (ty := .int) (C := RX6) (T := TX6) (N := 14) hx hb hts (by decide +kernel) tyX6 tyX6_ok nmX6 hown hK.1 hP hD hS 0 rfl rfl 3 (by decide) (hts (.fieldLink RX6 34 "NoteWatermarksModel" "savedMany" "I") (by decide +kernel)) (fun _ h9 => h9) rfl (by decide +kernel) rfl rfl (Nat.le_of_ble_eq_true rfl) dX6_save_93 (fun H locs hP hD hS => ?_)
        have hP : va_P (dC, dI) vwCl [(oM, .inr (6, [.int th, .ref rz, .ref r2, .int (nI (m9 + 1)), .ref rb, .int (nI n), .int tp, .int lf, .int hg, .int wd, .ref rq, .int pm, .int stt, .long hh])), (rz, .inl (cI, 389, .inl z)), (r2, .inl (cI, 2334, .inl g))] H := hP
        have hD : va_D A [(oM, .inr (6, [.int th, .ref rz, .ref r2, .int (nI (m9 + 1)), .ref rb, .int (nI n), .int tp, .int lf, .int hg, .int wd, .ref rq, .int pm, .int stt, .long hh])), (rz, .inl (cI, 389, .inl z)), (r2, .inl (cI, 2334, .inl g))] := hD
        have em : m9 + 1 = min (km + 1) 6 := im.1
        rw [em] at hP hD
        exact kq_retMv (g) hx hb hr hlocks hP hD hS dX6_save_96 (by exact ⟨fun i hi q hq => by rw [ig i (by omega) q hq, show km + 1 - min (km + 1) 6 = km - m9 by omega], fun q hq => by rw [show min (km + 1) 6 - 1 = m9 by omega]; exact ih9 q (by omega)⟩)
      · skip
        have c_10 := kq_nleN (a := 389) (b := k) c_10 (by omega) (by omega)
        refine lv_aload_n hx hb dX6_save_59 rfl (lv_at hl 0 rfl) ?_
        refine va_get (D := (dC, dI)) (ci := 6) (v := .ref r2) (C := RX6) (T := TX6) (N := 14) hx hb hts (by decide +kernel) hown hK.1 hP 0 rfl rfl 2 (by decide) (hts (.fieldLink RX6 13 "NoteWatermarksModel" "saved" "[I") (by decide +kernel)) (fun _ h9 => h9) rfl dX6_save_60 ?_
        refine lv_aload_n hx hb dX6_save_63 rfl (lv_at hl 0 rfl) ?_
        refine va_get (D := (dC, dI)) (ci := 6) (v := .int (nI m9)) (C := RX6) (T := TX6) (N := 14) hx hb hts (by decide +kernel) hown hK.1 hP 0 rfl rfl 3 (by decide) (hts (.fieldLink RX6 34 "NoteWatermarksModel" "savedMany" "I") (by decide +kernel)) (fun _ h9 => h9) rfl dX6_save_64 ?_
        refine lv_sipush (v := 389) hx hb dX6_save_67 (by decide) ?_
        refine lv_imul hx hb dX6_save_70 ?_
        refine kq_top (z := nI (m9 * 389)) (pk_mul m9 389) ?_
        refine lv_iload_n hx hb dX6_save_71 rfl (lv_at hl 1 rfl) ?_
        refine lv_iadd hx hb dX6_save_72 ?_
        refine kq_top (z := nI ((m9 * 389) + k)) (nI_add (m9 * 389) k) ?_
        refine lv_aload_n hx hb dX6_save_73 rfl (lv_at hl 0 rfl) ?_
        refine va_get (D := (dC, dI)) (ci := 6) (v := .ref rz) (C := RX6) (T := TX6) (N := 14) hx hb hts (by decide +kernel) hown hK.1 hP 0 rfl rfl 1 (by decide) (hts (.fieldLink RX6 7 "NoteWatermarksModel" "z" "[I") (by decide +kernel)) (fun _ h9 => h9) rfl dX6_save_74 ?_
        refine lv_iload_n hx hb dX6_save_77 rfl (lv_at hl 1 rfl) ?_
        refine va_iald hx hb hK.1 hP 1 0 rfl rfl (vp_in_nI (show k < 389 from by omega) (by omega)) dX6_save_78 ?_
        refine kq_top (z := z k) (congrArg z (nI_clamp (Nat.lt_trans (show k < 389 from by omega) (by omega)))) ?_
        refine va_iast hx hb hK.1 hP hD hS 2 0 rfl rfl (vp_in_nI (show (m9 * 389) + k < 2334 from by omega) (by omega)) dX6_save_79 (fun H locs hP hD hS => ?_)
        rw [nI_clamp (Nat.lt_trans (show (m9 * 389) + k < 2334 from by omega) (by omega))] at hP hD
        have hP : va_P (dC, dI) vwCl [(oM, .inr (6, [.int th, .ref rz, .ref r2, .int (nI m9), .ref rb, .int (nI n), .int tp, .int lf, .int hg, .int wd, .ref rq, .int pm, .int stt, .long hh])), (rz, .inl (cI, 389, .inl z)), (r2, .inl (cI, 2334, .inl (upd g ((m9 * 389) + k) (z k))))] H := hP
        have hD : va_D A [(oM, .inr (6, [.int th, .ref rz, .ref r2, .int (nI m9), .ref rb, .int (nI n), .int tp, .int lf, .int hg, .int wd, .ref rq, .int pm, .int stt, .long hh])), (rz, .inl (cI, 389, .inl z)), (r2, .inl (cI, 2334, .inl (upd g ((m9 * 389) + k) (z k))))] := hD
        refine lv_iinc (v := nI (k + 1)) (lv' := [(1, .int (nI (k + 1))), (0, .ref oM)]) hx hb dX6_save_80 hl (k := 1) rfl (nI_1 k) (by decide) rfl (fun ls hl => ?_)
        refine lv_goto (tgt := 52) hx hb dX6_save_83 (by decide) ?_
        exact ih_8 (k + 1) m9 (upd g ((m9 * 389) + k) (z k)) ⟨(by omega), (by omega), (by intro i hi q hq; rw [pk_un (by omega)]; exact ig i hi q hq), (by intro q hq; by_cases q2 : q = k; (rw [q2, pk_us]); (rw [pk_un (by omega)]; exact ih9 q (by omega)))⟩ (by show 389 - (k + 1) < 389 - k; omega) _ _ hP hD hS _ (lv_sub hl [1, 0] rfl)
    · skip
      have c_7 := kq_nleN (a := 1945) (b := k) c_7 (by omega) (by omega)
      refine lv_aload_n hx hb dX6_save_18 rfl (lv_at hl 0 rfl) ?_
      refine va_get (D := (dC, dI)) (ci := 6) (v := .ref r2) (C := RX6) (T := TX6) (N := 14) hx hb hts (by decide +kernel) hown hK.1 hP 0 rfl rfl 2 (by decide) (hts (.fieldLink RX6 13 "NoteWatermarksModel" "saved" "[I") (by decide +kernel)) (fun _ h9 => h9) rfl dX6_save_19 ?_
      refine lv_iload_n hx hb dX6_save_22 rfl (lv_at hl 1 rfl) ?_
      refine lv_aload_n hx hb dX6_save_23 rfl (lv_at hl 0 rfl) ?_
      refine va_get (D := (dC, dI)) (ci := 6) (v := .ref r2) (C := RX6) (T := TX6) (N := 14) hx hb hts (by decide +kernel) hown hK.1 hP 0 rfl rfl 2 (by decide) (hts (.fieldLink RX6 13 "NoteWatermarksModel" "saved" "[I") (by decide +kernel)) (fun _ h9 => h9) rfl dX6_save_24 ?_
      refine lv_iload_n hx hb dX6_save_27 rfl (lv_at hl 1 rfl) ?_
      refine lv_sipush (v := 389) hx hb dX6_save_28 (by decide) ?_
      refine lv_iadd hx hb dX6_save_31 ?_
      refine kq_top (z := nI (k + 389)) (nI_add k 389) ?_
      refine va_iald hx hb hK.1 hP 2 0 rfl rfl (vp_in_nI (show k + 389 < 2334 from by omega) (by omega)) dX6_save_32 ?_
      refine kq_top (z := g (k + 389)) (congrArg g (nI_clamp (Nat.lt_trans (show k + 389 < 2334 from by omega) (by omega)))) ?_
      refine va_iast hx hb hK.1 hP hD hS 2 0 rfl rfl (vp_in_nI (show k < 2334 from by omega) (by omega)) dX6_save_33 (fun H locs hP hD hS => ?_)
      rw [nI_clamp (Nat.lt_trans (show k < 2334 from by omega) (by omega))] at hP hD
      have hP : va_P (dC, dI) vwCl [(oM, .inr (6, [.int th, .ref rz, .ref r2, .int (nI km), .ref rb, .int (nI n), .int tp, .int lf, .int hg, .int wd, .ref rq, .int pm, .int stt, .long hh])), (rz, .inl (cI, 389, .inl z)), (r2, .inl (cI, 2334, .inl (upd g k (g (k + 389)))))] H := hP
      have hD : va_D A [(oM, .inr (6, [.int th, .ref rz, .ref r2, .int (nI km), .ref rb, .int (nI n), .int tp, .int lf, .int hg, .int wd, .ref rq, .int pm, .int stt, .long hh])), (rz, .inl (cI, 389, .inl z)), (r2, .inl (cI, 2334, .inl (upd g k (g (k + 389)))))] := hD
      refine lv_iinc (v := nI (k + 1)) (lv' := [(1, .int (nI (k + 1))), (0, .ref oM)]) hx hb dX6_save_34 hl (k := 1) rfl (nI_1 k) (by decide) rfl (fun ls hl => ?_)
      refine lv_goto (tgt := 11) hx hb dX6_save_37 (by decide) ?_
      exact ih_5 (k + 1) (upd g k (g (k + 389))) ⟨(by omega), (by intro j; by_cases q : j = k; (subst q; rw [pk_us, if_pos (by omega), ig, if_neg (by omega)]); (rw [pk_un q, ig j]; by_cases q2 : j < k; rw [if_pos q2, if_pos (by omega)]; rw [if_neg q2, if_neg (by omega)]))⟩ (by show 1945 - (k + 1) < 1945 - k; omega) _ _ hP hD hS _ (lv_sub hl [1, 0] rfl)
set_option maxHeartbeats 4000000 in
set_option maxRecDepth 100000 in
theorem c_X6_undo (l : Launch) (dC : Nat → ClassId) (dI : Nat → Nat → Nat) (cI : ClassId) (sz : Nat) (oM : Nat) (rz : Nat) (r2 : Nat) (rb : Nat) (rq : Nat) (km : Nat) (n : Nat) (th : Int32) (tp : Int32) (lf : Int32) (hg : Int32) (wd : Int32) (pm : Int32) (stt : Int32) (hh : Int64) (z : Nat → Int32) (zs : Nat → Int32) (bf : Nat → Int32) (pt : Nat → Int32) (v : Nat → Int32) (hkm : km ≤ 6) (hk0 : 0 < km) : Met l yX6_undo wsX6_undo ({ frames := 0, cells := 0, slots := 0, locals := 0 }) (kq_M dC dI cI [.ref oM] sz [(oM, .inr (6, [.int th, .ref rz, .ref r2, .int (nI km), .ref rb, .int (nI n), .int tp, .int lf, .int hg, .int wd, .ref rq, .int pm, .int stt, .long hh])), (rz, .inl (cI, 389, .inl z)), (r2, .inl (cI, 2334, .inl zs))]) (va_Qi (fun (r : Int32) (u : (Nat → Int32)) => r = nI (km - 1) ∧ ∀ k, k < 389 → u k = zs ((km - 1) * 389 + k)) (kq_B dC dI (va_A [(oM, .inr (6, [.int th, .ref rz, .ref r2, .int (nI km), .ref rb, .int (nI n), .int tp, .int lf, .int hg, .int wd, .ref rq, .int pm, .int stt, .long hh])), (rz, .inl (cI, 389, .inl z)), (r2, .inl (cI, 2334, .inl zs))] sz) (fun u : (Nat → Int32) => [(oM, .inr (6, [.int 0, .ref rz, .ref r2, .int (nI (km - 1)), .ref rb, .int (nI n), .int tp, .int lf, .int hg, .int wd, .ref rq, .int pm, .int stt, .long hh])), (rz, .inl (cI, 389, .inl u)), (r2, .inl (cI, 2334, .inl zs))])) (va_A [(oM, .inr (6, [.int th, .ref rz, .ref r2, .int (nI km), .ref rb, .int (nI n), .int tp, .int lf, .int hg, .int wd, .ref rq, .int pm, .int stt, .long hh])), (rz, .inl (cI, 389, .inl z)), (r2, .inl (cI, 2334, .inl zs))] sz)) 0 0 (va_A [(oM, .inr (6, [.int th, .ref rz, .ref r2, .int (nI km), .ref rb, .int (nI n), .int tp, .int lf, .int hg, .int wd, .ref rq, .int pm, .int stt, .long hh])), (rz, .inl (cI, 389, .inl z)), (r2, .inl (cI, 2334, .inl zs))] sz) := by
  refine kq_startM (cc := cX6_undo) (maxL := 2) (ret := (some .int)) (by decide) rfl (Nat.le_of_ble_eq_true rfl) ?_
  intro p e s m below meth c hx hb hr hml hown hlocks hts hsz hA hP hD hS hK hnm ls hl
  subst hsz
  generalize hAe : va_A [(oM, .inr (6, [.int th, .ref rz, .ref r2, .int (nI km), .ref rb, .int (nI n), .int tp, .int lf, .int hg, .int wd, .ref rq, .int pm, .int stt, .long hh])), (rz, .inl (cI, 389, .inl z)), (r2, .inl (cI, 2334, .inl zs))] s.heap.size = A at hA hD hS ⊢
  have hown : s.vm.findClass RX6 = some m.cls := hown
  have hl : lv_has ls 2 [(0, .ref oM)] := hl
  refine lv_aload_n hx hb dX6_undo_0 rfl (lv_at hl 0 rfl) ?_
  refine lv_aload_n hx hb dX6_undo_1 rfl (lv_at hl 0 rfl) ?_
  refine va_get (D := (dC, dI)) (ci := 6) (v := .int (nI km)) (C := RX6) (T := TX6) (N := 14) hx hb hts (by decide +kernel) hown hK.1 hP 0 rfl rfl 3 (by decide) (hts (.fieldLink RX6 34 "NoteWatermarksModel" "savedMany" "I") (by decide +kernel)) (fun _ h9 => h9) rfl dX6_undo_2 ?_
  refine lv_if_ne (tgt := 12) hx hb dX6_undo_5 (by decide) (fun c_1 => ?_) (fun c_1 => ?_)
  · skip
    have c_1 := kq_neN (a := km) (b := 0) c_1 (by omega) (by omega)
    refine lv_iconst (v := 0) hx hb dX6_undo_12 (by decide) ?_
    refine va_put (D := (dC, dI)) (ci := 6) (v := .int 0) (ty := .int) (C := RX6) (T := TX6) (N := 14) hx hb hts (by decide +kernel) tyX6 tyX6_ok nmX6 hown hK.1 hP hD hS 0 rfl rfl 0 (by decide) (hts (.fieldLink RX6 22 "NoteWatermarksModel" "thrown" "I") (by decide +kernel)) (fun _ h9 => h9) rfl (by decide +kernel) rfl rfl (Nat.le_of_ble_eq_true rfl) dX6_undo_13 (fun H locs hP hD hS => ?_)
    have hP : va_P (dC, dI) vwCl [(oM, .inr (6, [.int 0, .ref rz, .ref r2, .int (nI km), .ref rb, .int (nI n), .int tp, .int lf, .int hg, .int wd, .ref rq, .int pm, .int stt, .long hh])), (rz, .inl (cI, 389, .inl z)), (r2, .inl (cI, 2334, .inl zs))] H := hP
    have hD : va_D A [(oM, .inr (6, [.int 0, .ref rz, .ref r2, .int (nI km), .ref rb, .int (nI n), .int tp, .int lf, .int hg, .int wd, .ref rq, .int pm, .int stt, .long hh])), (rz, .inl (cI, 389, .inl z)), (r2, .inl (cI, 2334, .inl zs))] := hD
    refine lv_aload_n hx hb dX6_undo_16 rfl (lv_at hl 0 rfl) ?_
    refine va_get (D := (dC, dI)) (ci := 6) (v := .int 0) (C := RX6) (T := TX6) (N := 14) hx hb hts (by decide +kernel) hown hK.1 hP 0 rfl rfl 0 (by decide) (hts (.fieldLink RX6 22 "NoteWatermarksModel" "thrown" "I") (by decide +kernel)) (fun _ h9 => h9) rfl dX6_undo_17 ?_
    refine lv_if_le (tgt := 25) hx hb dX6_undo_20 (by decide) (fun _ => ?_) (fun q => absurd q (by decide))
    refine lv_aload_n hx hb dX6_undo_25 rfl (lv_at hl 0 rfl) ?_
    refine lv_dup hx hb dX6_undo_26 rfl ?_
    refine va_get (D := (dC, dI)) (ci := 6) (v := .int (nI km)) (C := RX6) (T := TX6) (N := 14) hx hb hts (by decide +kernel) hown hK.1 hP 0 rfl rfl 3 (by decide) (hts (.fieldLink RX6 34 "NoteWatermarksModel" "savedMany" "I") (by decide +kernel)) (fun _ h9 => h9) rfl dX6_undo_27 ?_
    refine lv_iconst (v := 1) hx hb dX6_undo_30 (by decide) ?_
    refine lv_isub hx hb dX6_undo_31 ?_
    refine kq_top (z := nI (km - 1)) (pk_sub (a := km) (b := 1) (by omega)) ?_
    refine va_put (D := (dC, dI)) (ci := 6) (v := .int (nI (km - 1))) (ty := .int) (C := RX6) (T := TX6) (N := 14) hx hb hts (by decide +kernel) tyX6 tyX6_ok nmX6 hown hK.1 hP hD hS 0 rfl rfl 3 (by decide) (hts (.fieldLink RX6 34 "NoteWatermarksModel" "savedMany" "I") (by decide +kernel)) (fun _ h9 => h9) rfl (by decide +kernel) rfl rfl (Nat.le_of_ble_eq_true rfl) dX6_undo_32 (fun H locs hP hD hS => ?_)
    have hP : va_P (dC, dI) vwCl [(oM, .inr (6, [.int 0, .ref rz, .ref r2, .int (nI (km - 1)), .ref rb, .int (nI n), .int tp, .int lf, .int hg, .int wd, .ref rq, .int pm, .int stt, .long hh])), (rz, .inl (cI, 389, .inl z)), (r2, .inl (cI, 2334, .inl zs))] H := hP
    have hD : va_D A [(oM, .inr (6, [.int 0, .ref rz, .ref r2, .int (nI (km - 1)), .ref rb, .int (nI n), .int tp, .int lf, .int hg, .int wd, .ref rq, .int pm, .int stt, .long hh])), (rz, .inl (cI, 389, .inl z)), (r2, .inl (cI, 2334, .inl zs))] := hD
    refine lv_iconst (v := 0) hx hb dX6_undo_35 (by decide) ?_
    refine lv_istore_n (lv' := [(1, .int 0), (0, .ref oM)]) hx hb dX6_undo_36 rfl hl (by decide) rfl (fun ls hl => ?_)
    refine kq_loopM2 (A1 := Nat) (A2 := Nat → Int32) (fun (k : Nat) (g : Nat → Int32) => 389 - k) (fun (k : Nat) (g : Nat → Int32) => (k ≤ 389) ∧ (∀ q, q < k → g q = zs ((km - 1) * 389 + q))) (fun (k : Nat) (g : Nat → Int32) => [(0, .ref oM), (1, .int (nI k))]) (fun (k : Nat) (g : Nat → Int32) => [(oM, .inr (6, [.int 0, .ref rz, .ref r2, .int (nI (km - 1)), .ref rb, .int (nI n), .int tp, .int lf, .int hg, .int wd, .ref rq, .int pm, .int stt, .long hh])), (rz, .inl (cI, 389, .inl g)), (r2, .inl (cI, 2334, .inl zs))]) (nL := 2) hK ?_ 0 z ⟨(by omega), (by intro q hq; omega)⟩ hP hD hS _ (lv_sub hl [1, 0] rfl)
    intro k g hi_4 ih_3 H locs hP hD hS ls hl
    obtain ⟨ik, ig⟩ := hi_4
    have hl : lv_has ls 2 [(0, .ref oM), (1, .int (nI k))] := hl
    have hP : va_P (dC, dI) vwCl [(oM, .inr (6, [.int 0, .ref rz, .ref r2, .int (nI (km - 1)), .ref rb, .int (nI n), .int tp, .int lf, .int hg, .int wd, .ref rq, .int pm, .int stt, .long hh])), (rz, .inl (cI, 389, .inl g)), (r2, .inl (cI, 2334, .inl zs))] H := hP
    have hD : va_D A [(oM, .inr (6, [.int 0, .ref rz, .ref r2, .int (nI (km - 1)), .ref rb, .int (nI n), .int tp, .int lf, .int hg, .int wd, .ref rq, .int pm, .int stt, .long hh])), (rz, .inl (cI, 389, .inl g)), (r2, .inl (cI, 2334, .inl zs))] := hD
    refine lv_iload_n hx hb dX6_undo_37 rfl (lv_at hl 1 rfl) ?_
    refine lv_sipush (v := 389) hx hb dX6_undo_38 (by decide) ?_
    refine lv_icmp_ge (tgt := 71) hx hb dX6_undo_41 (by decide) (fun c_5 => ?_) (fun c_5 => ?_)
    · skip
      have c_5 := kq_leN (a := 389) (b := k) c_5 (by omega) (by omega)
      refine lv_aload_n hx hb dX6_undo_71 rfl (lv_at hl 0 rfl) ?_
      refine va_get (D := (dC, dI)) (ci := 6) (v := .int (nI (km - 1))) (C := RX6) (T := TX6) (N := 14) hx hb hts (by decide +kernel) hown hK.1 hP 0 rfl rfl 3 (by decide) (hts (.fieldLink RX6 34 "NoteWatermarksModel" "savedMany" "I") (by decide +kernel)) (fun _ h9 => h9) rfl dX6_undo_72 ?_
      exact kq_retMi (g) hx hb hr hlocks hP hD hS dX6_undo_75 (by exact ⟨rfl, fun q hq => ig q (by omega)⟩)
    · skip
      have c_5 := kq_nleN (a := 389) (b := k) c_5 (by omega) (by omega)
      refine lv_aload_n hx hb dX6_undo_44 rfl (lv_at hl 0 rfl) ?_
      refine va_get (D := (dC, dI)) (ci := 6) (v := .ref rz) (C := RX6) (T := TX6) (N := 14) hx hb hts (by decide +kernel) hown hK.1 hP 0 rfl rfl 1 (by decide) (hts (.fieldLink RX6 7 "NoteWatermarksModel" "z" "[I") (by decide +kernel)) (fun _ h9 => h9) rfl dX6_undo_45 ?_
      refine lv_iload_n hx hb dX6_undo_48 rfl (lv_at hl 1 rfl) ?_
      refine lv_aload_n hx hb dX6_undo_49 rfl (lv_at hl 0 rfl) ?_
      refine va_get (D := (dC, dI)) (ci := 6) (v := .ref r2) (C := RX6) (T := TX6) (N := 14) hx hb hts (by decide +kernel) hown hK.1 hP 0 rfl rfl 2 (by decide) (hts (.fieldLink RX6 13 "NoteWatermarksModel" "saved" "[I") (by decide +kernel)) (fun _ h9 => h9) rfl dX6_undo_50 ?_
      refine lv_aload_n hx hb dX6_undo_53 rfl (lv_at hl 0 rfl) ?_
      refine va_get (D := (dC, dI)) (ci := 6) (v := .int (nI (km - 1))) (C := RX6) (T := TX6) (N := 14) hx hb hts (by decide +kernel) hown hK.1 hP 0 rfl rfl 3 (by decide) (hts (.fieldLink RX6 34 "NoteWatermarksModel" "savedMany" "I") (by decide +kernel)) (fun _ h9 => h9) rfl dX6_undo_54 ?_
      refine lv_sipush (v := 389) hx hb dX6_undo_57 (by decide) ?_
      refine lv_imul hx hb dX6_undo_60 ?_
      refine kq_top (z := nI ((km - 1) * 389)) (pk_mul (km - 1) 389) ?_
      refine lv_iload_n hx hb dX6_undo_61 rfl (lv_at hl 1 rfl) ?_
      refine lv_iadd hx hb dX6_undo_62 ?_
      refine kq_top (z := nI (((km - 1) * 389) + k)) (nI_add ((km - 1) * 389) k) ?_
      refine va_iald hx hb hK.1 hP 2 0 rfl rfl (vp_in_nI (show ((km - 1) * 389) + k < 2334 from by omega) (by omega)) dX6_undo_63 ?_
      refine kq_top (z := zs (((km - 1) * 389) + k)) (congrArg zs (nI_clamp (Nat.lt_trans (show ((km - 1) * 389) + k < 2334 from by omega) (by omega)))) ?_
      refine va_iast hx hb hK.1 hP hD hS 1 0 rfl rfl (vp_in_nI (show k < 389 from by omega) (by omega)) dX6_undo_64 (fun H locs hP hD hS => ?_)
      rw [nI_clamp (Nat.lt_trans (show k < 389 from by omega) (by omega))] at hP hD
      have hP : va_P (dC, dI) vwCl [(oM, .inr (6, [.int 0, .ref rz, .ref r2, .int (nI (km - 1)), .ref rb, .int (nI n), .int tp, .int lf, .int hg, .int wd, .ref rq, .int pm, .int stt, .long hh])), (rz, .inl (cI, 389, .inl (upd g k (zs (((km - 1) * 389) + k))))), (r2, .inl (cI, 2334, .inl zs))] H := hP
      have hD : va_D A [(oM, .inr (6, [.int 0, .ref rz, .ref r2, .int (nI (km - 1)), .ref rb, .int (nI n), .int tp, .int lf, .int hg, .int wd, .ref rq, .int pm, .int stt, .long hh])), (rz, .inl (cI, 389, .inl (upd g k (zs (((km - 1) * 389) + k))))), (r2, .inl (cI, 2334, .inl zs))] := hD
      refine lv_iinc (v := nI (k + 1)) (lv' := [(1, .int (nI (k + 1))), (0, .ref oM)]) hx hb dX6_undo_65 hl (k := 1) rfl (nI_1 k) (by decide) rfl (fun ls hl => ?_)
      refine lv_goto (tgt := 37) hx hb dX6_undo_68 (by decide) ?_
      exact ih_3 (k + 1) (upd g k (zs (((km - 1) * 389) + k))) ⟨(by omega), (by intro q hq; by_cases q2 : q = k; (rw [q2, pk_us]); (rw [pk_un q2]; exact ig q (by omega)))⟩ (by show 389 - (k + 1) < 389 - k; omega) _ _ hP hD hS _ (lv_sub hl [1, 0] rfl)
  · skip
    have c_1 := kq_eqN (a := km) (b := 0) c_1 (by omega) (by omega)
    exact absurd c_1 (by omega)
set_option maxHeartbeats 4000000 in
set_option maxRecDepth 100000 in
theorem c_X6_wire (l : Launch) (dC : Nat → ClassId) (dI : Nat → Nat → Nat) (cI : ClassId) (sz : Nat) (oM : Nat) (rz : Nat) (r2 : Nat) (rb : Nat) (rq : Nat) (km : Nat) (n : Nat) (th : Int32) (tp : Int32) (lf : Int32) (hg : Int32) (wd : Int32) (pm : Int32) (stt : Int32) (hh : Int64) (z : Nat → Int32) (zs : Nat → Int32) (bf : Nat → Int32) (pt : Nat → Int32) (v : Nat → Int32) (a : Nat) (b : Nat) (d : Nat) (x : Int32) (hkm : km ≤ 6) (hz : n_Z v z) (ha : a < 3) (hb9 : b < 6) (hd : d < 16) (hx9 : -3 ≤ x ∧ x ≤ 3) : Met l yX6_wire wsX6_wire ({ frames := 2, cells := 0, slots := 0, locals := 42 }) (kq_M dC dI cI [.ref oM, .int (nI a), .int (nI b), .int (nI d), .int x] sz [(oM, .inr (6, [.int th, .ref rz, .ref r2, .int (nI km), .ref rb, .int (nI n), .int tp, .int lf, .int hg, .int wd, .ref rq, .int pm, .int stt, .long hh])), (rz, .inl (cI, 389, .inl z)), (r2, .inl (cI, 2334, .inl zs))]) (va_Qi (fun (r : Int32) (u : (Nat → Int32)) => r = v ((a * 6 + b) * 16 + d) + 100 ∧ n_sv zs z u km) (kq_B dC dI (va_A [(oM, .inr (6, [.int th, .ref rz, .ref r2, .int (nI km), .ref rb, .int (nI n), .int tp, .int lf, .int hg, .int wd, .ref rq, .int pm, .int stt, .long hh])), (rz, .inl (cI, 389, .inl z)), (r2, .inl (cI, 2334, .inl zs))] sz) (fun u : (Nat → Int32) => [(oM, .inr (6, [.int 0, .ref rz, .ref r2, .int (nI (min (km + 1) 6)), .ref rb, .int (nI n), .int tp, .int lf, .int hg, .int wd, .ref rq, .int pm, .int stt, .long hh])), (rz, .inl (cI, 389, .inl (upd z (9 + (6 * a + b) * 16 + d) x))), (r2, .inl (cI, 2334, .inl u))])) (va_A [(oM, .inr (6, [.int th, .ref rz, .ref r2, .int (nI km), .ref rb, .int (nI n), .int tp, .int lf, .int hg, .int wd, .ref rq, .int pm, .int stt, .long hh])), (rz, .inl (cI, 389, .inl z)), (r2, .inl (cI, 2334, .inl zs))] sz)) 0 0 (va_A [(oM, .inr (6, [.int th, .ref rz, .ref r2, .int (nI km), .ref rb, .int (nI n), .int tp, .int lf, .int hg, .int wd, .ref rq, .int pm, .int stt, .long hh])), (rz, .inl (cI, 389, .inl z)), (r2, .inl (cI, 2334, .inl zs))] sz) := by
  refine kq_startM (cc := cX6_wire) (maxL := 6) (ret := (some .int)) (by decide) rfl (Nat.le_of_ble_eq_true rfl) ?_
  intro p e s m below meth c hx hb hr hml hown hlocks hts hsz hA hP hD hS hK hnm ls hl
  subst hsz
  generalize hAe : va_A [(oM, .inr (6, [.int th, .ref rz, .ref r2, .int (nI km), .ref rb, .int (nI n), .int tp, .int lf, .int hg, .int wd, .ref rq, .int pm, .int stt, .long hh])), (rz, .inl (cI, 389, .inl z)), (r2, .inl (cI, 2334, .inl zs))] s.heap.size = A at hA hD hS ⊢
  have hown : s.vm.findClass RX6 = some m.cls := hown
  have hl : lv_has ls 6 [(0, .ref oM), (1, .int (nI a)), (2, .int (nI b)), (3, .int (nI d)), (4, .int x)] := hl
  refine lv_aload_n hx hb dX6_wire_0 rfl (lv_at hl 0 rfl) ?_
  refine lv_iload_n hx hb dX6_wire_1 rfl (lv_at hl 1 rfl) ?_
  refine kq_cS (As := [.int (nI a)]) (rest := [.ref oM]) ⟨hx, hb, hml, hown, hts⟩ (c_X6_isRoll_n l dC dI cI a (by first | assumption | omega)) (va_cwS 1 hts gX6_wire_X6_isRoll rfl rfl rfl (by decide +kernel) ⟨Nat.le_of_ble_eq_true rfl, Nat.le_of_ble_eq_true rfl⟩) (hP.sub [] rfl) hK rfl hl.1 rfl (Nat.le_of_ble_eq_true rfl) dX6_wire_2 ⟨Nat.le_of_ble_eq_true rfl, Nat.le_of_ble_eq_true rfl⟩ ?_
  refine lv_if_eq (tgt := 27) hx hb dX6_wire_5 (by decide) (fun c_1 => ?_) (fun c_1 => ?_)
  · skip
    have c_1 := kq_bf c_1
    exact absurd c_1 (by omega)
  · skip
    have c_1 := kq_bt c_1
    refine lv_iload_n hx hb dX6_wire_8 rfl (lv_at hl 2 rfl) ?_
    refine lv_iconst (v := 0) hx hb dX6_wire_9 (by decide) ?_
    refine lv_iconst (v := 5) hx hb dX6_wire_10 (by decide) ?_
    refine kq_cS (As := [.int (nI b), .int 0, .int 5]) (rest := [.ref oM]) ⟨hx, hb, hml, hown, hts⟩ (c_X6_in_n l dC dI cI b 0 5 (by first | assumption | omega) (by first | assumption | omega) (by first | assumption | omega)) (va_cwS 3 hts gX6_wire_X6_in rfl rfl rfl (by decide +kernel) ⟨Nat.le_of_ble_eq_true rfl, Nat.le_of_ble_eq_true rfl⟩) (hP.sub [] rfl) hK rfl hl.1 rfl (Nat.le_of_ble_eq_true rfl) dX6_wire_11 ⟨Nat.le_of_ble_eq_true rfl, Nat.le_of_ble_eq_true rfl⟩ ?_
    refine lv_if_eq (tgt := 27) hx hb dX6_wire_14 (by decide) (fun c_2 => ?_) (fun c_2 => ?_)
    · skip
      have c_2 := kq_bf c_2
      exact absurd c_2 (by omega)
    · skip
      have c_2 := kq_bt c_2
      refine lv_iload_n hx hb dX6_wire_17 rfl (lv_at hl 3 rfl) ?_
      refine lv_iconst (v := 0) hx hb dX6_wire_18 (by decide) ?_
      refine lv_bipush (v := 15) hx hb dX6_wire_19 (by decide) ?_
      refine kq_cS (As := [.int (nI d), .int 0, .int 15]) (rest := [.ref oM]) ⟨hx, hb, hml, hown, hts⟩ (c_X6_in_n l dC dI cI d 0 15 (by first | assumption | omega) (by first | assumption | omega) (by first | assumption | omega)) (va_cwS 3 hts gX6_wire_X6_in rfl rfl rfl (by decide +kernel) ⟨Nat.le_of_ble_eq_true rfl, Nat.le_of_ble_eq_true rfl⟩) (hP.sub [] rfl) hK rfl hl.1 rfl (Nat.le_of_ble_eq_true rfl) dX6_wire_21 ⟨Nat.le_of_ble_eq_true rfl, Nat.le_of_ble_eq_true rfl⟩ ?_
      refine lv_if_ne (tgt := 31) hx hb dX6_wire_24 (by decide) (fun c_3 => ?_) (fun c_3 => ?_)
      · skip
        have c_3 := kq_bt c_3
        refine lv_iload hx hb dX6_wire_31 (lv_at hl 4 rfl) ?_
        refine lv_bipush (v := (-3)) hx hb dX6_wire_33 (by decide) ?_
        refine lv_iconst (v := 3) hx hb dX6_wire_35 (by decide) ?_
        refine kq_cS (As := [.int x, .int (-3), .int 3]) (rest := [.ref oM]) ⟨hx, hb, hml, hown, hts⟩ (c_X6_in l dC dI cI x (-3) 3 ) (va_cwS 3 hts gX6_wire_X6_in rfl rfl rfl (by decide +kernel) ⟨Nat.le_of_ble_eq_true rfl, Nat.le_of_ble_eq_true rfl⟩) (hP.sub [] rfl) hK rfl hl.1 rfl (Nat.le_of_ble_eq_true rfl) dX6_wire_36 ⟨Nat.le_of_ble_eq_true rfl, Nat.le_of_ble_eq_true rfl⟩ ?_
        refine lv_if_eq (tgt := 46) hx hb dX6_wire_39 (by decide) (fun c_4 => ?_) (fun c_4 => ?_)
        · skip
          have c_4 := kq_bf c_4
          exact absurd hx9 c_4
        · skip
          have c_4 := kq_bt c_4
          refine lv_iconst (v := 0) hx hb dX6_wire_42 (by decide) ?_
          refine lv_goto (tgt := 47) hx hb dX6_wire_43 (by decide) ?_
          refine va_put (D := (dC, dI)) (ci := 6) (v := .int 0) (ty := .int) (C := RX6) (T := TX6) (N := 14) hx hb hts (by decide +kernel) tyX6 tyX6_ok nmX6 hown hK.1 hP hD hS 0 rfl rfl 0 (by decide) (hts (.fieldLink RX6 22 "NoteWatermarksModel" "thrown" "I") (by decide +kernel)) (fun _ h9 => h9) rfl (by decide +kernel) rfl rfl (Nat.le_of_ble_eq_true rfl) dX6_wire_47 (fun H locs hP hD hS => ?_)
          have hP : va_P (dC, dI) vwCl [(oM, .inr (6, [.int 0, .ref rz, .ref r2, .int (nI km), .ref rb, .int (nI n), .int tp, .int lf, .int hg, .int wd, .ref rq, .int pm, .int stt, .long hh])), (rz, .inl (cI, 389, .inl z)), (r2, .inl (cI, 2334, .inl zs))] H := hP
          have hD : va_D A [(oM, .inr (6, [.int 0, .ref rz, .ref r2, .int (nI km), .ref rb, .int (nI n), .int tp, .int lf, .int hg, .int wd, .ref rq, .int pm, .int stt, .long hh])), (rz, .inl (cI, 389, .inl z)), (r2, .inl (cI, 2334, .inl zs))] := hD
          refine lv_aload_n hx hb dX6_wire_50 rfl (lv_at hl 0 rfl) ?_
          refine va_get (D := (dC, dI)) (ci := 6) (v := .int 0) (C := RX6) (T := TX6) (N := 14) hx hb hts (by decide +kernel) hown hK.1 hP 0 rfl rfl 0 (by decide) (hts (.fieldLink RX6 22 "NoteWatermarksModel" "thrown" "I") (by decide +kernel)) (fun _ h9 => h9) rfl dX6_wire_51 ?_
          refine lv_if_le (tgt := 59) hx hb dX6_wire_54 (by decide) (fun _ => ?_) (fun q => absurd q (by decide))
          refine lv_aload_n hx hb dX6_wire_59 rfl (lv_at hl 0 rfl) ?_
          refine kq_callMv (wr := []) (va_runV (As := []) (rest := []) ⟨hx, hb, hml, hown, hts⟩ (c_X6_save l dC dI cI H.size oM rz r2 rb rq km n 0 tp lf hg wd pm stt hh z zs bf pt v (by first | assumption | omega)) (cwV 0 hts gX6_wire_X6_save rfl rfl rfl (by decide +kernel) ⟨Nat.le_of_ble_eq_true rfl, Nat.le_of_ble_eq_true rfl⟩) (kq_preV (ci := 6) (q0 := 0) (hP.sub [0, 1, 2] rfl) (hD.sub [0, 1, 2] (by decide) rfl) hK rfl rfl) rfl rfl hl.1 rfl (lv_room (Nat.le_of_ble_eq_true rfl)) dX6_wire_60 ⟨Nat.le_of_ble_eq_true rfl, Nat.le_of_ble_eq_true rfl⟩) hP hD hS hA [0, 1, 2] [] rfl rfl (by decide) (by decide) (fun u_7 H locs hw_8 hP hD hS => ?_)
          obtain ⟨ys_9, rfl⟩ : ∃ z, z = u_7 := ⟨_, rfl⟩
          have hP : va_P (dC, dI) vwCl [(oM, .inr (6, [.int 0, .ref rz, .ref r2, .int (nI (min (km + 1) 6)), .ref rb, .int (nI n), .int tp, .int lf, .int hg, .int wd, .ref rq, .int pm, .int stt, .long hh])), (rz, .inl (cI, 389, .inl z)), (r2, .inl (cI, 2334, .inl ys_9))] H := hP
          have hD : va_D A [(oM, .inr (6, [.int 0, .ref rz, .ref r2, .int (nI (min (km + 1) 6)), .ref rb, .int (nI n), .int tp, .int lf, .int hg, .int wd, .ref rq, .int pm, .int stt, .long hh])), (rz, .inl (cI, 389, .inl z)), (r2, .inl (cI, 2334, .inl ys_9))] := hD
          have hsv := hw_8
          refine lv_aload_n hx hb dX6_wire_63 rfl (lv_at hl 0 rfl) ?_
          refine lv_iload_n hx hb dX6_wire_64 rfl (lv_at hl 1 rfl) ?_
          refine lv_iload_n hx hb dX6_wire_65 rfl (lv_at hl 2 rfl) ?_
          refine lv_iload_n hx hb dX6_wire_66 rfl (lv_at hl 3 rfl) ?_
          refine kq_cV (As := [.int (nI a), .int (nI b), .int (nI d)]) (rest := []) ⟨hx, hb, hml, hown, hts⟩ (c_X6_wireAt l dC dI cI oM rz r2 rb rq (min (km + 1) 6) n 0 tp lf hg wd pm stt hh z v a b d (by first | assumption | omega) (by first | assumption | omega) (by first | assumption | omega) (by first | assumption | omega)) (cwV 3 hts gX6_wire_X6_wireAt rfl rfl rfl (by decide +kernel) ⟨Nat.le_of_ble_eq_true rfl, Nat.le_of_ble_eq_true rfl⟩) (hP.sub [0, 1] rfl) hK (ci := 6) (q0 := 0) rfl rfl rfl rfl hl.1 rfl (Nat.le_of_ble_eq_true rfl) dX6_wire_67 ⟨Nat.le_of_ble_eq_true rfl, Nat.le_of_ble_eq_true rfl⟩ ?_
          refine lv_istore (lv' := [(5, .int (v ((a * 6 + b) * 16 + d))), (0, .ref oM), (1, .int (nI a)), (2, .int (nI b)), (3, .int (nI d)), (4, .int x)]) hx hb dX6_wire_70 hl (by decide) rfl (fun ls hl => ?_)
          refine lv_aload_n hx hb dX6_wire_72 rfl (lv_at hl 1 rfl) ?_
          refine va_get (D := (dC, dI)) (ci := 6) (v := .ref rz) (C := RX6) (T := TX6) (N := 14) hx hb hts (by decide +kernel) hown hK.1 hP 0 rfl rfl 1 (by decide) (hts (.fieldLink RX6 7 "NoteWatermarksModel" "z" "[I") (by decide +kernel)) (fun _ h9 => h9) rfl dX6_wire_73 ?_
          refine lv_bipush (v := 9) hx hb dX6_wire_76 (by decide) ?_
          refine lv_bipush (v := 6) hx hb dX6_wire_78 (by decide) ?_
          refine lv_iload_n hx hb dX6_wire_80 rfl (lv_at hl 2 rfl) ?_
          refine lv_imul hx hb dX6_wire_81 ?_
          refine kq_top (z := nI (6 * a)) (pk_mul 6 a) ?_
          refine lv_iload_n hx hb dX6_wire_82 rfl (lv_at hl 3 rfl) ?_
          refine lv_iadd hx hb dX6_wire_83 ?_
          refine kq_top (z := nI ((6 * a) + b)) (nI_add (6 * a) b) ?_
          refine lv_bipush (v := 16) hx hb dX6_wire_84 (by decide) ?_
          refine lv_imul hx hb dX6_wire_86 ?_
          refine kq_top (z := nI (((6 * a) + b) * 16)) (pk_mul ((6 * a) + b) 16) ?_
          refine lv_iadd hx hb dX6_wire_87 ?_
          refine kq_top (z := nI (9 + (((6 * a) + b) * 16))) (nI_add 9 (((6 * a) + b) * 16)) ?_
          refine lv_iload_n hx hb dX6_wire_88 rfl (lv_at hl 4 rfl) ?_
          refine lv_iadd hx hb dX6_wire_89 ?_
          refine kq_top (z := nI ((9 + (((6 * a) + b) * 16)) + d)) (nI_add (9 + (((6 * a) + b) * 16)) d) ?_
          refine lv_iload hx hb dX6_wire_90 (lv_at hl 5 rfl) ?_
          refine va_iast hx hb hK.1 hP hD hS 1 0 rfl rfl (vp_in_nI (show (9 + (((6 * a) + b) * 16)) + d < 389 from by omega) (by omega)) dX6_wire_92 (fun H locs hP hD hS => ?_)
          rw [nI_clamp (Nat.lt_trans (show (9 + (((6 * a) + b) * 16)) + d < 389 from by omega) (by omega))] at hP hD
          have hP : va_P (dC, dI) vwCl [(oM, .inr (6, [.int 0, .ref rz, .ref r2, .int (nI (min (km + 1) 6)), .ref rb, .int (nI n), .int tp, .int lf, .int hg, .int wd, .ref rq, .int pm, .int stt, .long hh])), (rz, .inl (cI, 389, .inl (upd z ((9 + (((6 * a) + b) * 16)) + d) x))), (r2, .inl (cI, 2334, .inl ys_9))] H := hP
          have hD : va_D A [(oM, .inr (6, [.int 0, .ref rz, .ref r2, .int (nI (min (km + 1) 6)), .ref rb, .int (nI n), .int tp, .int lf, .int hg, .int wd, .ref rq, .int pm, .int stt, .long hh])), (rz, .inl (cI, 389, .inl (upd z ((9 + (((6 * a) + b) * 16)) + d) x))), (r2, .inl (cI, 2334, .inl ys_9))] := hD
          refine lv_iload hx hb dX6_wire_93 (lv_at hl 0 rfl) ?_
          refine lv_bipush (v := 100) hx hb dX6_wire_95 (by decide) ?_
          refine lv_iadd hx hb dX6_wire_97 ?_
          exact kq_retMi (ys_9) hx hb hr hlocks hP hD hS dX6_wire_98 (by exact ⟨rfl, hsv⟩)
      · skip
        have c_3 := kq_bf c_3
        exact absurd c_3 (by omega)
set_option maxHeartbeats 4000000 in
set_option maxRecDepth 100000 in
theorem c_X6_size (l : Launch) (dC : Nat → ClassId) (dI : Nat → Nat → Nat) (cI : ClassId) (sz : Nat) (oM : Nat) (rz : Nat) (r2 : Nat) (rb : Nat) (rq : Nat) (km : Nat) (n : Nat) (th : Int32) (tp : Int32) (lf : Int32) (hg : Int32) (wd : Int32) (pm : Int32) (stt : Int32) (hh : Int64) (z : Nat → Int32) (zs : Nat → Int32) (bf : Nat → Int32) (pt : Nat → Int32) (v : Nat → Int32) (a : Nat) (k : Nat) (hkm : km ≤ 6) (hz : n_Z v z) (hI : n_I v) (ha : a < 3) (hk : 4 ≤ k ∧ k ≤ 16) : Met l yX6_size wsX6_size ({ frames := 2, cells := 0, slots := 0, locals := 42 }) (kq_M dC dI cI [.ref oM, .int (nI a), .int (nI k)] sz [(oM, .inr (6, [.int th, .ref rz, .ref r2, .int (nI km), .ref rb, .int (nI n), .int tp, .int lf, .int hg, .int wd, .ref rq, .int pm, .int stt, .long hh])), (rz, .inl (cI, 389, .inl z)), (r2, .inl (cI, 2334, .inl zs))]) (va_Qi (fun (r : Int32) (u : (Nat → Int32)) => r = nI (n_c v a) ∧ n_sv zs z u km) (kq_B dC dI (va_A [(oM, .inr (6, [.int th, .ref rz, .ref r2, .int (nI km), .ref rb, .int (nI n), .int tp, .int lf, .int hg, .int wd, .ref rq, .int pm, .int stt, .long hh])), (rz, .inl (cI, 389, .inl z)), (r2, .inl (cI, 2334, .inl zs))] sz) (fun u : (Nat → Int32) => [(oM, .inr (6, [.int 0, .ref rz, .ref r2, .int (nI (min (km + 1) 6)), .ref rb, .int (nI n), .int tp, .int lf, .int hg, .int wd, .ref rq, .int pm, .int stt, .long hh])), (rz, .inl (cI, 389, .inl (upd (upd z (3 + a) (nI k)) (6 + a) (nI (n_p v a % k))))), (r2, .inl (cI, 2334, .inl u))])) (va_A [(oM, .inr (6, [.int th, .ref rz, .ref r2, .int (nI km), .ref rb, .int (nI n), .int tp, .int lf, .int hg, .int wd, .ref rq, .int pm, .int stt, .long hh])), (rz, .inl (cI, 389, .inl z)), (r2, .inl (cI, 2334, .inl zs))] sz)) 0 0 (va_A [(oM, .inr (6, [.int th, .ref rz, .ref r2, .int (nI km), .ref rb, .int (nI n), .int tp, .int lf, .int hg, .int wd, .ref rq, .int pm, .int stt, .long hh])), (rz, .inl (cI, 389, .inl z)), (r2, .inl (cI, 2334, .inl zs))] sz) := by
  refine kq_startM (cc := cX6_size) (maxL := 4) (ret := (some .int)) (by decide) rfl (Nat.le_of_ble_eq_true rfl) ?_
  intro p e s m below meth c hx hb hr hml hown hlocks hts hsz hA hP hD hS hK hnm ls hl
  subst hsz
  generalize hAe : va_A [(oM, .inr (6, [.int th, .ref rz, .ref r2, .int (nI km), .ref rb, .int (nI n), .int tp, .int lf, .int hg, .int wd, .ref rq, .int pm, .int stt, .long hh])), (rz, .inl (cI, 389, .inl z)), (r2, .inl (cI, 2334, .inl zs))] s.heap.size = A at hA hD hS ⊢
  have hown : s.vm.findClass RX6 = some m.cls := hown
  have hl : lv_has ls 4 [(0, .ref oM), (1, .int (nI a)), (2, .int (nI k))] := hl
  have h4 := n_I_c4 hI ha
  have h16 := n_I_c16 hI ha
  have hpc := n_I_pc hI ha
  have hmd := Nat.mod_lt (n_p v a) (show 0 < k by omega)
  refine lv_aload_n hx hb dX6_size_0 rfl (lv_at hl 0 rfl) ?_
  refine lv_iload_n hx hb dX6_size_1 rfl (lv_at hl 1 rfl) ?_
  refine kq_cS (As := [.int (nI a)]) (rest := [.ref oM]) ⟨hx, hb, hml, hown, hts⟩ (c_X6_isRoll_n l dC dI cI a (by first | assumption | omega)) (va_cwS 1 hts gX6_size_X6_isRoll rfl rfl rfl (by decide +kernel) ⟨Nat.le_of_ble_eq_true rfl, Nat.le_of_ble_eq_true rfl⟩) (hP.sub [] rfl) hK rfl hl.1 rfl (Nat.le_of_ble_eq_true rfl) dX6_size_2 ⟨Nat.le_of_ble_eq_true rfl, Nat.le_of_ble_eq_true rfl⟩ ?_
  refine lv_if_ne (tgt := 12) hx hb dX6_size_5 (by decide) (fun c_1 => ?_) (fun c_1 => ?_)
  · skip
    have c_1 := kq_bt c_1
    refine lv_iload_n hx hb dX6_size_12 rfl (lv_at hl 2 rfl) ?_
    refine lv_iconst (v := 4) hx hb dX6_size_13 (by decide) ?_
    refine lv_bipush (v := 16) hx hb dX6_size_14 (by decide) ?_
    refine kq_cS (As := [.int (nI k), .int 4, .int 16]) (rest := [.ref oM]) ⟨hx, hb, hml, hown, hts⟩ (c_X6_in_n l dC dI cI k 4 16 (by first | assumption | omega) (by first | assumption | omega) (by first | assumption | omega)) (va_cwS 3 hts gX6_size_X6_in rfl rfl rfl (by decide +kernel) ⟨Nat.le_of_ble_eq_true rfl, Nat.le_of_ble_eq_true rfl⟩) (hP.sub [] rfl) hK rfl hl.1 rfl (Nat.le_of_ble_eq_true rfl) dX6_size_16 ⟨Nat.le_of_ble_eq_true rfl, Nat.le_of_ble_eq_true rfl⟩ ?_
    refine lv_if_eq (tgt := 26) hx hb dX6_size_19 (by decide) (fun c_2 => ?_) (fun c_2 => ?_)
    · skip
      have c_2 := kq_bf c_2
      exact absurd hk c_2
    · skip
      have c_2 := kq_bt c_2
      refine lv_iconst (v := 0) hx hb dX6_size_22 (by decide) ?_
      refine lv_goto (tgt := 27) hx hb dX6_size_23 (by decide) ?_
      refine va_put (D := (dC, dI)) (ci := 6) (v := .int 0) (ty := .int) (C := RX6) (T := TX6) (N := 14) hx hb hts (by decide +kernel) tyX6 tyX6_ok nmX6 hown hK.1 hP hD hS 0 rfl rfl 0 (by decide) (hts (.fieldLink RX6 22 "NoteWatermarksModel" "thrown" "I") (by decide +kernel)) (fun _ h9 => h9) rfl (by decide +kernel) rfl rfl (Nat.le_of_ble_eq_true rfl) dX6_size_27 (fun H locs hP hD hS => ?_)
      have hP : va_P (dC, dI) vwCl [(oM, .inr (6, [.int 0, .ref rz, .ref r2, .int (nI km), .ref rb, .int (nI n), .int tp, .int lf, .int hg, .int wd, .ref rq, .int pm, .int stt, .long hh])), (rz, .inl (cI, 389, .inl z)), (r2, .inl (cI, 2334, .inl zs))] H := hP
      have hD : va_D A [(oM, .inr (6, [.int 0, .ref rz, .ref r2, .int (nI km), .ref rb, .int (nI n), .int tp, .int lf, .int hg, .int wd, .ref rq, .int pm, .int stt, .long hh])), (rz, .inl (cI, 389, .inl z)), (r2, .inl (cI, 2334, .inl zs))] := hD
      refine lv_aload_n hx hb dX6_size_30 rfl (lv_at hl 0 rfl) ?_
      refine va_get (D := (dC, dI)) (ci := 6) (v := .int 0) (C := RX6) (T := TX6) (N := 14) hx hb hts (by decide +kernel) hown hK.1 hP 0 rfl rfl 0 (by decide) (hts (.fieldLink RX6 22 "NoteWatermarksModel" "thrown" "I") (by decide +kernel)) (fun _ h9 => h9) rfl dX6_size_31 ?_
      refine lv_if_le (tgt := 39) hx hb dX6_size_34 (by decide) (fun _ => ?_) (fun q => absurd q (by decide))
      refine lv_aload_n hx hb dX6_size_39 rfl (lv_at hl 0 rfl) ?_
      refine kq_callMv (wr := []) (va_runV (As := []) (rest := []) ⟨hx, hb, hml, hown, hts⟩ (c_X6_save l dC dI cI H.size oM rz r2 rb rq km n 0 tp lf hg wd pm stt hh z zs bf pt v (by first | assumption | omega)) (cwV 0 hts gX6_size_X6_save rfl rfl rfl (by decide +kernel) ⟨Nat.le_of_ble_eq_true rfl, Nat.le_of_ble_eq_true rfl⟩) (kq_preV (ci := 6) (q0 := 0) (hP.sub [0, 1, 2] rfl) (hD.sub [0, 1, 2] (by decide) rfl) hK rfl rfl) rfl rfl hl.1 rfl (lv_room (Nat.le_of_ble_eq_true rfl)) dX6_size_40 ⟨Nat.le_of_ble_eq_true rfl, Nat.le_of_ble_eq_true rfl⟩) hP hD hS hA [0, 1, 2] [] rfl rfl (by decide) (by decide) (fun u_5 H locs hw_6 hP hD hS => ?_)
      obtain ⟨ys_7, rfl⟩ : ∃ z, z = u_5 := ⟨_, rfl⟩
      have hP : va_P (dC, dI) vwCl [(oM, .inr (6, [.int 0, .ref rz, .ref r2, .int (nI (min (km + 1) 6)), .ref rb, .int (nI n), .int tp, .int lf, .int hg, .int wd, .ref rq, .int pm, .int stt, .long hh])), (rz, .inl (cI, 389, .inl z)), (r2, .inl (cI, 2334, .inl ys_7))] H := hP
      have hD : va_D A [(oM, .inr (6, [.int 0, .ref rz, .ref r2, .int (nI (min (km + 1) 6)), .ref rb, .int (nI n), .int tp, .int lf, .int hg, .int wd, .ref rq, .int pm, .int stt, .long hh])), (rz, .inl (cI, 389, .inl z)), (r2, .inl (cI, 2334, .inl ys_7))] := hD
      have hsv := hw_6
      refine lv_aload_n hx hb dX6_size_43 rfl (lv_at hl 0 rfl) ?_
      refine va_get (D := (dC, dI)) (ci := 6) (v := .ref rz) (C := RX6) (T := TX6) (N := 14) hx hb hts (by decide +kernel) hown hK.1 hP 0 rfl rfl 1 (by decide) (hts (.fieldLink RX6 7 "NoteWatermarksModel" "z" "[I") (by decide +kernel)) (fun _ h9 => h9) rfl dX6_size_44 ?_
      refine lv_iconst (v := 3) hx hb dX6_size_47 (by decide) ?_
      refine lv_iload_n hx hb dX6_size_48 rfl (lv_at hl 1 rfl) ?_
      refine lv_iadd hx hb dX6_size_49 ?_
      refine kq_top (z := nI (3 + a)) (nI_add 3 a) ?_
      refine va_iald hx hb hK.1 hP 1 0 rfl rfl (vp_in_nI (show 3 + a < 389 from by omega) (by omega)) dX6_size_50 ?_
      refine kq_top (z := z (3 + a)) (congrArg z (nI_clamp (Nat.lt_trans (show 3 + a < 389 from by omega) (by omega)))) ?_
      refine kq_top (z := nI (n_c v a)) ((hz.2.1 a ha).trans (n_I_c hI ha)) ?_
      refine lv_istore_n (lv' := [(3, .int (nI (n_c v a))), (0, .ref oM), (1, .int (nI a)), (2, .int (nI k))]) hx hb dX6_size_51 rfl hl (by decide) rfl (fun ls hl => ?_)
      refine lv_aload_n hx hb dX6_size_52 rfl (lv_at hl 1 rfl) ?_
      refine va_get (D := (dC, dI)) (ci := 6) (v := .ref rz) (C := RX6) (T := TX6) (N := 14) hx hb hts (by decide +kernel) hown hK.1 hP 0 rfl rfl 1 (by decide) (hts (.fieldLink RX6 7 "NoteWatermarksModel" "z" "[I") (by decide +kernel)) (fun _ h9 => h9) rfl dX6_size_53 ?_
      refine lv_iconst (v := 3) hx hb dX6_size_56 (by decide) ?_
      refine lv_iload_n hx hb dX6_size_57 rfl (lv_at hl 2 rfl) ?_
      refine lv_iadd hx hb dX6_size_58 ?_
      refine kq_top (z := nI (3 + a)) (nI_add 3 a) ?_
      refine lv_iload_n hx hb dX6_size_59 rfl (lv_at hl 3 rfl) ?_
      refine va_iast hx hb hK.1 hP hD hS 1 0 rfl rfl (vp_in_nI (show 3 + a < 389 from by omega) (by omega)) dX6_size_60 (fun H locs hP hD hS => ?_)
      rw [nI_clamp (Nat.lt_trans (show 3 + a < 389 from by omega) (by omega))] at hP hD
      have hP : va_P (dC, dI) vwCl [(oM, .inr (6, [.int 0, .ref rz, .ref r2, .int (nI (min (km + 1) 6)), .ref rb, .int (nI n), .int tp, .int lf, .int hg, .int wd, .ref rq, .int pm, .int stt, .long hh])), (rz, .inl (cI, 389, .inl (upd z (3 + a) (nI k)))), (r2, .inl (cI, 2334, .inl ys_7))] H := hP
      have hD : va_D A [(oM, .inr (6, [.int 0, .ref rz, .ref r2, .int (nI (min (km + 1) 6)), .ref rb, .int (nI n), .int tp, .int lf, .int hg, .int wd, .ref rq, .int pm, .int stt, .long hh])), (rz, .inl (cI, 389, .inl (upd z (3 + a) (nI k)))), (r2, .inl (cI, 2334, .inl ys_7))] := hD
      refine lv_aload_n hx hb dX6_size_61 rfl (lv_at hl 1 rfl) ?_
      refine va_get (D := (dC, dI)) (ci := 6) (v := .ref rz) (C := RX6) (T := TX6) (N := 14) hx hb hts (by decide +kernel) hown hK.1 hP 0 rfl rfl 1 (by decide) (hts (.fieldLink RX6 7 "NoteWatermarksModel" "z" "[I") (by decide +kernel)) (fun _ h9 => h9) rfl dX6_size_62 ?_
      refine lv_bipush (v := 6) hx hb dX6_size_65 (by decide) ?_
      refine lv_iload_n hx hb dX6_size_67 rfl (lv_at hl 2 rfl) ?_
      refine lv_iadd hx hb dX6_size_68 ?_
      refine kq_top (z := nI (6 + a)) (nI_add 6 a) ?_
      refine lv_dup2_11 hx hb dX6_size_69 rfl rfl ?_
      refine va_iald hx hb hK.1 hP 1 0 rfl rfl (vp_in_nI (show 6 + a < 389 from by omega) (by omega)) dX6_size_70 ?_
      refine kq_top (z := (upd z (3 + a) (nI k)) (6 + a)) (congrArg (upd z (3 + a) (nI k)) (nI_clamp (Nat.lt_trans (show 6 + a < 389 from by omega) (by omega)))) ?_
      refine kq_top (z := nI (n_p v a)) ((pk_un (by omega)).trans ((hz.2.2.1 a ha).trans (n_I_p hI ha))) ?_
      refine lv_iload_n hx hb dX6_size_71 rfl (lv_at hl 3 rfl) ?_
      refine lv_irem hx hb dX6_size_72 (nI_ne0 (n := k) (by omega) (by omega)) ?_
      refine kq_top (z := nI ((n_p v a) % k)) (pk_rem (a := (n_p v a)) (d := k) (by omega) (by omega) (by omega)) ?_
      refine va_iast hx hb hK.1 hP hD hS 1 0 rfl rfl (vp_in_nI (show 6 + a < 389 from by omega) (by omega)) dX6_size_73 (fun H locs hP hD hS => ?_)
      rw [nI_clamp (Nat.lt_trans (show 6 + a < 389 from by omega) (by omega))] at hP hD
      have hP : va_P (dC, dI) vwCl [(oM, .inr (6, [.int 0, .ref rz, .ref r2, .int (nI (min (km + 1) 6)), .ref rb, .int (nI n), .int tp, .int lf, .int hg, .int wd, .ref rq, .int pm, .int stt, .long hh])), (rz, .inl (cI, 389, .inl (upd (upd z (3 + a) (nI k)) (6 + a) (nI ((n_p v a) % k))))), (r2, .inl (cI, 2334, .inl ys_7))] H := hP
      have hD : va_D A [(oM, .inr (6, [.int 0, .ref rz, .ref r2, .int (nI (min (km + 1) 6)), .ref rb, .int (nI n), .int tp, .int lf, .int hg, .int wd, .ref rq, .int pm, .int stt, .long hh])), (rz, .inl (cI, 389, .inl (upd (upd z (3 + a) (nI k)) (6 + a) (nI ((n_p v a) % k))))), (r2, .inl (cI, 2334, .inl ys_7))] := hD
      refine lv_iload_n hx hb dX6_size_74 rfl (lv_at hl 0 rfl) ?_
      exact kq_retMi (ys_7) hx hb hr hlocks hP hD hS dX6_size_75 (by exact ⟨rfl, hsv⟩)
  · skip
    have c_1 := kq_bf c_1
    exact absurd c_1 (by omega)
set_option maxHeartbeats 4000000 in
set_option maxRecDepth 100000 in
theorem c_X6_turn (l : Launch) (dC : Nat → ClassId) (dI : Nat → Nat → Nat) (cI : ClassId) (sz : Nat) (oM : Nat) (rz : Nat) (r2 : Nat) (rb : Nat) (rq : Nat) (km : Nat) (n : Nat) (th : Int32) (tp : Int32) (lf : Int32) (hg : Int32) (wd : Int32) (pm : Int32) (stt : Int32) (hh : Int64) (z : Nat → Int32) (zs : Nat → Int32) (bf : Nat → Int32) (pt : Nat → Int32) (v : Nat → Int32) (a : Nat) (k9 : Nat) (x : Int32) (hkm : km ≤ 6) (hz : n_Z v z) (hI : n_I v) (ha : a < 3) (hu : k9 ≤ 198) (hx9 : x = nI k9 - 99) (hx8 : -99 ≤ x ∧ x ≤ 99) : Met l yX6_turn wsX6_turn ({ frames := 2, cells := 0, slots := 0, locals := 42 }) (kq_M dC dI cI [.ref oM, .int (nI a), .int x] sz [(oM, .inr (6, [.int th, .ref rz, .ref r2, .int (nI km), .ref rb, .int (nI n), .int tp, .int lf, .int hg, .int wd, .ref rq, .int pm, .int stt, .long hh])), (rz, .inl (cI, 389, .inl z)), (r2, .inl (cI, 2334, .inl zs))]) (va_Qi (fun (r : Int32) (u : (Nat → Int32)) => r = nI ((n_p v a + k9 + 100 * n_c v a - 99) % n_c v a) ∧ n_sv zs z u km) (kq_B dC dI (va_A [(oM, .inr (6, [.int th, .ref rz, .ref r2, .int (nI km), .ref rb, .int (nI n), .int tp, .int lf, .int hg, .int wd, .ref rq, .int pm, .int stt, .long hh])), (rz, .inl (cI, 389, .inl z)), (r2, .inl (cI, 2334, .inl zs))] sz) (fun u : (Nat → Int32) => [(oM, .inr (6, [.int 0, .ref rz, .ref r2, .int (nI (min (km + 1) 6)), .ref rb, .int (nI n), .int tp, .int lf, .int hg, .int wd, .ref rq, .int pm, .int stt, .long hh])), (rz, .inl (cI, 389, .inl (upd z (6 + a) (nI ((n_p v a + k9 + 100 * n_c v a - 99) % n_c v a))))), (r2, .inl (cI, 2334, .inl u))])) (va_A [(oM, .inr (6, [.int th, .ref rz, .ref r2, .int (nI km), .ref rb, .int (nI n), .int tp, .int lf, .int hg, .int wd, .ref rq, .int pm, .int stt, .long hh])), (rz, .inl (cI, 389, .inl z)), (r2, .inl (cI, 2334, .inl zs))] sz)) 0 0 (va_A [(oM, .inr (6, [.int th, .ref rz, .ref r2, .int (nI km), .ref rb, .int (nI n), .int tp, .int lf, .int hg, .int wd, .ref rq, .int pm, .int stt, .long hh])), (rz, .inl (cI, 389, .inl z)), (r2, .inl (cI, 2334, .inl zs))] sz) := by
  refine kq_startM (cc := cX6_turn) (maxL := 4) (ret := (some .int)) (by decide) rfl (Nat.le_of_ble_eq_true rfl) ?_
  intro p e s m below meth c hx hb hr hml hown hlocks hts hsz hA hP hD hS hK hnm ls hl
  subst hsz
  generalize hAe : va_A [(oM, .inr (6, [.int th, .ref rz, .ref r2, .int (nI km), .ref rb, .int (nI n), .int tp, .int lf, .int hg, .int wd, .ref rq, .int pm, .int stt, .long hh])), (rz, .inl (cI, 389, .inl z)), (r2, .inl (cI, 2334, .inl zs))] s.heap.size = A at hA hD hS ⊢
  have hown : s.vm.findClass RX6 = some m.cls := hown
  have hl : lv_has ls 4 [(0, .ref oM), (1, .int (nI a)), (2, .int x)] := hl
  have h4 := n_I_c4 hI ha
  have h16 := n_I_c16 hI ha
  have hpc := n_I_pc hI ha
  have hmd := Nat.mod_lt (n_p v a + k9 + 100 * n_c v a - 99) (show 0 < n_c v a by omega)
  refine lv_aload_n hx hb dX6_turn_0 rfl (lv_at hl 0 rfl) ?_
  refine lv_iload_n hx hb dX6_turn_1 rfl (lv_at hl 1 rfl) ?_
  refine kq_cS (As := [.int (nI a)]) (rest := [.ref oM]) ⟨hx, hb, hml, hown, hts⟩ (c_X6_isRoll_n l dC dI cI a (by first | assumption | omega)) (va_cwS 1 hts gX6_turn_X6_isRoll rfl rfl rfl (by decide +kernel) ⟨Nat.le_of_ble_eq_true rfl, Nat.le_of_ble_eq_true rfl⟩) (hP.sub [] rfl) hK rfl hl.1 rfl (Nat.le_of_ble_eq_true rfl) dX6_turn_2 ⟨Nat.le_of_ble_eq_true rfl, Nat.le_of_ble_eq_true rfl⟩ ?_
  refine lv_if_ne (tgt := 12) hx hb dX6_turn_5 (by decide) (fun c_1 => ?_) (fun c_1 => ?_)
  · skip
    have c_1 := kq_bt c_1
    refine lv_iload_n hx hb dX6_turn_12 rfl (lv_at hl 2 rfl) ?_
    refine lv_bipush (v := (-99)) hx hb dX6_turn_13 (by decide) ?_
    refine lv_bipush (v := 99) hx hb dX6_turn_15 (by decide) ?_
    refine kq_cS (As := [.int x, .int (-99), .int 99]) (rest := [.ref oM]) ⟨hx, hb, hml, hown, hts⟩ (c_X6_in l dC dI cI x (-99) 99 ) (va_cwS 3 hts gX6_turn_X6_in rfl rfl rfl (by decide +kernel) ⟨Nat.le_of_ble_eq_true rfl, Nat.le_of_ble_eq_true rfl⟩) (hP.sub [] rfl) hK rfl hl.1 rfl (Nat.le_of_ble_eq_true rfl) dX6_turn_17 ⟨Nat.le_of_ble_eq_true rfl, Nat.le_of_ble_eq_true rfl⟩ ?_
    refine lv_if_eq (tgt := 27) hx hb dX6_turn_20 (by decide) (fun c_2 => ?_) (fun c_2 => ?_)
    · skip
      have c_2 := kq_bf c_2
      exact absurd hx8 c_2
    · skip
      have c_2 := kq_bt c_2
      refine lv_iconst (v := 0) hx hb dX6_turn_23 (by decide) ?_
      refine lv_goto (tgt := 28) hx hb dX6_turn_24 (by decide) ?_
      refine va_put (D := (dC, dI)) (ci := 6) (v := .int 0) (ty := .int) (C := RX6) (T := TX6) (N := 14) hx hb hts (by decide +kernel) tyX6 tyX6_ok nmX6 hown hK.1 hP hD hS 0 rfl rfl 0 (by decide) (hts (.fieldLink RX6 22 "NoteWatermarksModel" "thrown" "I") (by decide +kernel)) (fun _ h9 => h9) rfl (by decide +kernel) rfl rfl (Nat.le_of_ble_eq_true rfl) dX6_turn_28 (fun H locs hP hD hS => ?_)
      have hP : va_P (dC, dI) vwCl [(oM, .inr (6, [.int 0, .ref rz, .ref r2, .int (nI km), .ref rb, .int (nI n), .int tp, .int lf, .int hg, .int wd, .ref rq, .int pm, .int stt, .long hh])), (rz, .inl (cI, 389, .inl z)), (r2, .inl (cI, 2334, .inl zs))] H := hP
      have hD : va_D A [(oM, .inr (6, [.int 0, .ref rz, .ref r2, .int (nI km), .ref rb, .int (nI n), .int tp, .int lf, .int hg, .int wd, .ref rq, .int pm, .int stt, .long hh])), (rz, .inl (cI, 389, .inl z)), (r2, .inl (cI, 2334, .inl zs))] := hD
      refine lv_aload_n hx hb dX6_turn_31 rfl (lv_at hl 0 rfl) ?_
      refine va_get (D := (dC, dI)) (ci := 6) (v := .int 0) (C := RX6) (T := TX6) (N := 14) hx hb hts (by decide +kernel) hown hK.1 hP 0 rfl rfl 0 (by decide) (hts (.fieldLink RX6 22 "NoteWatermarksModel" "thrown" "I") (by decide +kernel)) (fun _ h9 => h9) rfl dX6_turn_32 ?_
      refine lv_if_le (tgt := 40) hx hb dX6_turn_35 (by decide) (fun _ => ?_) (fun q => absurd q (by decide))
      refine lv_aload_n hx hb dX6_turn_40 rfl (lv_at hl 0 rfl) ?_
      refine kq_callMv (wr := []) (va_runV (As := []) (rest := []) ⟨hx, hb, hml, hown, hts⟩ (c_X6_save l dC dI cI H.size oM rz r2 rb rq km n 0 tp lf hg wd pm stt hh z zs bf pt v (by first | assumption | omega)) (cwV 0 hts gX6_turn_X6_save rfl rfl rfl (by decide +kernel) ⟨Nat.le_of_ble_eq_true rfl, Nat.le_of_ble_eq_true rfl⟩) (kq_preV (ci := 6) (q0 := 0) (hP.sub [0, 1, 2] rfl) (hD.sub [0, 1, 2] (by decide) rfl) hK rfl rfl) rfl rfl hl.1 rfl (lv_room (Nat.le_of_ble_eq_true rfl)) dX6_turn_41 ⟨Nat.le_of_ble_eq_true rfl, Nat.le_of_ble_eq_true rfl⟩) hP hD hS hA [0, 1, 2] [] rfl rfl (by decide) (by decide) (fun u_5 H locs hw_6 hP hD hS => ?_)
      obtain ⟨ys_7, rfl⟩ : ∃ z, z = u_5 := ⟨_, rfl⟩
      have hP : va_P (dC, dI) vwCl [(oM, .inr (6, [.int 0, .ref rz, .ref r2, .int (nI (min (km + 1) 6)), .ref rb, .int (nI n), .int tp, .int lf, .int hg, .int wd, .ref rq, .int pm, .int stt, .long hh])), (rz, .inl (cI, 389, .inl z)), (r2, .inl (cI, 2334, .inl ys_7))] H := hP
      have hD : va_D A [(oM, .inr (6, [.int 0, .ref rz, .ref r2, .int (nI (min (km + 1) 6)), .ref rb, .int (nI n), .int tp, .int lf, .int hg, .int wd, .ref rq, .int pm, .int stt, .long hh])), (rz, .inl (cI, 389, .inl z)), (r2, .inl (cI, 2334, .inl ys_7))] := hD
      have hsv := hw_6
      refine lv_aload_n hx hb dX6_turn_44 rfl (lv_at hl 0 rfl) ?_
      refine va_get (D := (dC, dI)) (ci := 6) (v := .ref rz) (C := RX6) (T := TX6) (N := 14) hx hb hts (by decide +kernel) hown hK.1 hP 0 rfl rfl 1 (by decide) (hts (.fieldLink RX6 7 "NoteWatermarksModel" "z" "[I") (by decide +kernel)) (fun _ h9 => h9) rfl dX6_turn_45 ?_
      refine lv_iconst (v := 3) hx hb dX6_turn_48 (by decide) ?_
      refine lv_iload_n hx hb dX6_turn_49 rfl (lv_at hl 1 rfl) ?_
      refine lv_iadd hx hb dX6_turn_50 ?_
      refine kq_top (z := nI (3 + a)) (nI_add 3 a) ?_
      refine va_iald hx hb hK.1 hP 1 0 rfl rfl (vp_in_nI (show 3 + a < 389 from by omega) (by omega)) dX6_turn_51 ?_
      refine kq_top (z := z (3 + a)) (congrArg z (nI_clamp (Nat.lt_trans (show 3 + a < 389 from by omega) (by omega)))) ?_
      refine kq_top (z := nI (n_c v a)) ((hz.2.1 a ha).trans (n_I_c hI ha)) ?_
      refine lv_istore_n (lv' := [(3, .int (nI (n_c v a))), (0, .ref oM), (1, .int (nI a)), (2, .int x)]) hx hb dX6_turn_52 rfl hl (by decide) rfl (fun ls hl => ?_)
      refine lv_aload_n hx hb dX6_turn_53 rfl (lv_at hl 1 rfl) ?_
      refine va_get (D := (dC, dI)) (ci := 6) (v := .ref rz) (C := RX6) (T := TX6) (N := 14) hx hb hts (by decide +kernel) hown hK.1 hP 0 rfl rfl 1 (by decide) (hts (.fieldLink RX6 7 "NoteWatermarksModel" "z" "[I") (by decide +kernel)) (fun _ h9 => h9) rfl dX6_turn_54 ?_
      refine lv_bipush (v := 6) hx hb dX6_turn_57 (by decide) ?_
      refine lv_iload_n hx hb dX6_turn_59 rfl (lv_at hl 2 rfl) ?_
      refine lv_iadd hx hb dX6_turn_60 ?_
      refine kq_top (z := nI (6 + a)) (nI_add 6 a) ?_
      refine lv_aload_n hx hb dX6_turn_61 rfl (lv_at hl 1 rfl) ?_
      refine va_get (D := (dC, dI)) (ci := 6) (v := .ref rz) (C := RX6) (T := TX6) (N := 14) hx hb hts (by decide +kernel) hown hK.1 hP 0 rfl rfl 1 (by decide) (hts (.fieldLink RX6 7 "NoteWatermarksModel" "z" "[I") (by decide +kernel)) (fun _ h9 => h9) rfl dX6_turn_62 ?_
      refine lv_bipush (v := 6) hx hb dX6_turn_65 (by decide) ?_
      refine lv_iload_n hx hb dX6_turn_67 rfl (lv_at hl 2 rfl) ?_
      refine lv_iadd hx hb dX6_turn_68 ?_
      refine kq_top (z := nI (6 + a)) (nI_add 6 a) ?_
      refine va_iald hx hb hK.1 hP 1 0 rfl rfl (vp_in_nI (show 6 + a < 389 from by omega) (by omega)) dX6_turn_69 ?_
      refine kq_top (z := z (6 + a)) (congrArg z (nI_clamp (Nat.lt_trans (show 6 + a < 389 from by omega) (by omega)))) ?_
      refine kq_top (z := nI (n_p v a)) ((hz.2.2.1 a ha).trans (n_I_p hI ha)) ?_
      refine lv_iload_n hx hb dX6_turn_70 rfl (lv_at hl 3 rfl) ?_
      refine lv_iadd hx hb dX6_turn_71 ?_
      refine lv_bipush (v := 100) hx hb dX6_turn_72 (by decide) ?_
      refine lv_iload_n hx hb dX6_turn_74 rfl (lv_at hl 0 rfl) ?_
      refine lv_imul hx hb dX6_turn_75 ?_
      refine kq_top (z := nI (100 * (n_c v a))) (pk_mul 100 (n_c v a)) ?_
      refine lv_iadd hx hb dX6_turn_76 ?_
      refine kq_top (z := nI (n_p v a + k9 + 100 * n_c v a - 99)) (kq_turn hx9 (by omega)) ?_
      refine lv_iload_n hx hb dX6_turn_77 rfl (lv_at hl 0 rfl) ?_
      refine lv_irem hx hb dX6_turn_78 (nI_ne0 (n := (n_c v a)) (by omega) (by omega)) ?_
      refine kq_top (z := nI ((n_p v a + k9 + 100 * n_c v a - 99) % (n_c v a))) (pk_rem (a := (n_p v a + k9 + 100 * n_c v a - 99)) (d := (n_c v a)) (by omega) (by omega) (by omega)) ?_
      refine va_iast hx hb hK.1 hP hD hS 1 0 rfl rfl (vp_in_nI (show 6 + a < 389 from by omega) (by omega)) dX6_turn_79 (fun H locs hP hD hS => ?_)
      rw [nI_clamp (Nat.lt_trans (show 6 + a < 389 from by omega) (by omega))] at hP hD
      have hP : va_P (dC, dI) vwCl [(oM, .inr (6, [.int 0, .ref rz, .ref r2, .int (nI (min (km + 1) 6)), .ref rb, .int (nI n), .int tp, .int lf, .int hg, .int wd, .ref rq, .int pm, .int stt, .long hh])), (rz, .inl (cI, 389, .inl (upd z (6 + a) (nI ((n_p v a + k9 + 100 * n_c v a - 99) % (n_c v a)))))), (r2, .inl (cI, 2334, .inl ys_7))] H := hP
      have hD : va_D A [(oM, .inr (6, [.int 0, .ref rz, .ref r2, .int (nI (min (km + 1) 6)), .ref rb, .int (nI n), .int tp, .int lf, .int hg, .int wd, .ref rq, .int pm, .int stt, .long hh])), (rz, .inl (cI, 389, .inl (upd z (6 + a) (nI ((n_p v a + k9 + 100 * n_c v a - 99) % (n_c v a)))))), (r2, .inl (cI, 2334, .inl ys_7))] := hD
      refine lv_aload_n hx hb dX6_turn_80 rfl (lv_at hl 1 rfl) ?_
      refine va_get (D := (dC, dI)) (ci := 6) (v := .ref rz) (C := RX6) (T := TX6) (N := 14) hx hb hts (by decide +kernel) hown hK.1 hP 0 rfl rfl 1 (by decide) (hts (.fieldLink RX6 7 "NoteWatermarksModel" "z" "[I") (by decide +kernel)) (fun _ h9 => h9) rfl dX6_turn_81 ?_
      refine lv_bipush (v := 6) hx hb dX6_turn_84 (by decide) ?_
      refine lv_iload_n hx hb dX6_turn_86 rfl (lv_at hl 2 rfl) ?_
      refine lv_iadd hx hb dX6_turn_87 ?_
      refine kq_top (z := nI (6 + a)) (nI_add 6 a) ?_
      refine va_iald hx hb hK.1 hP 1 0 rfl rfl (vp_in_nI (show 6 + a < 389 from by omega) (by omega)) dX6_turn_88 ?_
      refine kq_top (z := (upd z (6 + a) (nI ((n_p v a + k9 + 100 * n_c v a - 99) % (n_c v a)))) (6 + a)) (congrArg (upd z (6 + a) (nI ((n_p v a + k9 + 100 * n_c v a - 99) % (n_c v a)))) (nI_clamp (Nat.lt_trans (show 6 + a < 389 from by omega) (by omega)))) ?_
      refine kq_top (z := nI ((n_p v a + k9 + 100 * n_c v a - 99) % n_c v a)) (pk_us) ?_
      exact kq_retMi (ys_7) hx hb hr hlocks hP hD hS dX6_turn_89 (by exact ⟨rfl, hsv⟩)
  · skip
    have c_1 := kq_bf c_1
    exact absurd c_1 (by omega)
set_option maxHeartbeats 4000000 in
set_option maxRecDepth 100000 in
theorem c_X6_clear (l : Launch) (dC : Nat → ClassId) (dI : Nat → Nat → Nat) (cI : ClassId) (sz : Nat) (oM : Nat) (rz : Nat) (r2 : Nat) (rb : Nat) (rq : Nat) (km : Nat) (n : Nat) (th : Int32) (tp : Int32) (lf : Int32) (hg : Int32) (wd : Int32) (pm : Int32) (stt : Int32) (hh : Int64) (z : Nat → Int32) (zs : Nat → Int32) (bf : Nat → Int32) (pt : Nat → Int32) (v : Nat → Int32) (a : Nat) (hkm : km ≤ 6) (hz : n_Z v z) (ha : a < 3) : Met l yX6_clear wsX6_clear ({ frames := 2, cells := 0, slots := 0, locals := 48 }) (kq_M dC dI cI [.ref oM, .int (nI a)] sz [(oM, .inr (6, [.int th, .ref rz, .ref r2, .int (nI km), .ref rb, .int (nI n), .int tp, .int lf, .int hg, .int wd, .ref rq, .int pm, .int stt, .long hh])), (rz, .inl (cI, 389, .inl z)), (r2, .inl (cI, 2334, .inl zs))]) (va_Qi (fun (r : Int32) (u : (Nat → Int32)) => r = n_cw v a 16 ∧ n_sv zs z u km) (kq_B dC dI (va_A [(oM, .inr (6, [.int th, .ref rz, .ref r2, .int (nI km), .ref rb, .int (nI n), .int tp, .int lf, .int hg, .int wd, .ref rq, .int pm, .int stt, .long hh])), (rz, .inl (cI, 389, .inl z)), (r2, .inl (cI, 2334, .inl zs))] sz) (fun u : (Nat → Int32) => [(oM, .inr (6, [.int 0, .ref rz, .ref r2, .int (nI (min (km + 1) 6)), .ref rb, .int (nI n), .int tp, .int lf, .int hg, .int wd, .ref rq, .int pm, .int stt, .long hh])), (rz, .inl (cI, 389, .inl (n_flatZ z a))), (r2, .inl (cI, 2334, .inl u))])) (va_A [(oM, .inr (6, [.int th, .ref rz, .ref r2, .int (nI km), .ref rb, .int (nI n), .int tp, .int lf, .int hg, .int wd, .ref rq, .int pm, .int stt, .long hh])), (rz, .inl (cI, 389, .inl z)), (r2, .inl (cI, 2334, .inl zs))] sz)) 0 0 (va_A [(oM, .inr (6, [.int th, .ref rz, .ref r2, .int (nI km), .ref rb, .int (nI n), .int tp, .int lf, .int hg, .int wd, .ref rq, .int pm, .int stt, .long hh])), (rz, .inl (cI, 389, .inl z)), (r2, .inl (cI, 2334, .inl zs))] sz) := by
  refine kq_startM (cc := cX6_clear) (maxL := 4) (ret := (some .int)) (by decide) rfl (Nat.le_of_ble_eq_true rfl) ?_
  intro p e s m below meth c hx hb hr hml hown hlocks hts hsz hA hP hD hS hK hnm ls hl
  subst hsz
  generalize hAe : va_A [(oM, .inr (6, [.int th, .ref rz, .ref r2, .int (nI km), .ref rb, .int (nI n), .int tp, .int lf, .int hg, .int wd, .ref rq, .int pm, .int stt, .long hh])), (rz, .inl (cI, 389, .inl z)), (r2, .inl (cI, 2334, .inl zs))] s.heap.size = A at hA hD hS ⊢
  have hown : s.vm.findClass RX6 = some m.cls := hown
  have hl : lv_has ls 4 [(0, .ref oM), (1, .int (nI a))] := hl
  refine lv_aload_n hx hb dX6_clear_0 rfl (lv_at hl 0 rfl) ?_
  refine lv_iload_n hx hb dX6_clear_1 rfl (lv_at hl 1 rfl) ?_
  refine kq_cS (As := [.int (nI a)]) (rest := [.ref oM]) ⟨hx, hb, hml, hown, hts⟩ (c_X6_isRoll_n l dC dI cI a (by first | assumption | omega)) (va_cwS 1 hts gX6_clear_X6_isRoll rfl rfl rfl (by decide +kernel) ⟨Nat.le_of_ble_eq_true rfl, Nat.le_of_ble_eq_true rfl⟩) (hP.sub [] rfl) hK rfl hl.1 rfl (Nat.le_of_ble_eq_true rfl) dX6_clear_2 ⟨Nat.le_of_ble_eq_true rfl, Nat.le_of_ble_eq_true rfl⟩ ?_
  refine lv_if_eq (tgt := 12) hx hb dX6_clear_5 (by decide) (fun c_1 => ?_) (fun c_1 => ?_)
  · skip
    have c_1 := kq_bf c_1
    exact absurd c_1 (by omega)
  · skip
    have c_1 := kq_bt c_1
    refine lv_iconst (v := 0) hx hb dX6_clear_8 (by decide) ?_
    refine lv_goto (tgt := 13) hx hb dX6_clear_9 (by decide) ?_
    refine va_put (D := (dC, dI)) (ci := 6) (v := .int 0) (ty := .int) (C := RX6) (T := TX6) (N := 14) hx hb hts (by decide +kernel) tyX6 tyX6_ok nmX6 hown hK.1 hP hD hS 0 rfl rfl 0 (by decide) (hts (.fieldLink RX6 22 "NoteWatermarksModel" "thrown" "I") (by decide +kernel)) (fun _ h9 => h9) rfl (by decide +kernel) rfl rfl (Nat.le_of_ble_eq_true rfl) dX6_clear_13 (fun H locs hP hD hS => ?_)
    have hP : va_P (dC, dI) vwCl [(oM, .inr (6, [.int 0, .ref rz, .ref r2, .int (nI km), .ref rb, .int (nI n), .int tp, .int lf, .int hg, .int wd, .ref rq, .int pm, .int stt, .long hh])), (rz, .inl (cI, 389, .inl z)), (r2, .inl (cI, 2334, .inl zs))] H := hP
    have hD : va_D A [(oM, .inr (6, [.int 0, .ref rz, .ref r2, .int (nI km), .ref rb, .int (nI n), .int tp, .int lf, .int hg, .int wd, .ref rq, .int pm, .int stt, .long hh])), (rz, .inl (cI, 389, .inl z)), (r2, .inl (cI, 2334, .inl zs))] := hD
    refine lv_aload_n hx hb dX6_clear_16 rfl (lv_at hl 0 rfl) ?_
    refine va_get (D := (dC, dI)) (ci := 6) (v := .int 0) (C := RX6) (T := TX6) (N := 14) hx hb hts (by decide +kernel) hown hK.1 hP 0 rfl rfl 0 (by decide) (hts (.fieldLink RX6 22 "NoteWatermarksModel" "thrown" "I") (by decide +kernel)) (fun _ h9 => h9) rfl dX6_clear_17 ?_
    refine lv_if_le (tgt := 25) hx hb dX6_clear_20 (by decide) (fun _ => ?_) (fun q => absurd q (by decide))
    refine lv_aload_n hx hb dX6_clear_25 rfl (lv_at hl 0 rfl) ?_
    refine kq_callMv (wr := []) (va_runV (As := []) (rest := []) ⟨hx, hb, hml, hown, hts⟩ (c_X6_save l dC dI cI H.size oM rz r2 rb rq km n 0 tp lf hg wd pm stt hh z zs bf pt v (by first | assumption | omega)) (cwV 0 hts gX6_clear_X6_save rfl rfl rfl (by decide +kernel) ⟨Nat.le_of_ble_eq_true rfl, Nat.le_of_ble_eq_true rfl⟩) (kq_preV (ci := 6) (q0 := 0) (hP.sub [0, 1, 2] rfl) (hD.sub [0, 1, 2] (by decide) rfl) hK rfl rfl) rfl rfl hl.1 rfl (lv_room (Nat.le_of_ble_eq_true rfl)) dX6_clear_26 ⟨Nat.le_of_ble_eq_true rfl, Nat.le_of_ble_eq_true rfl⟩) hP hD hS hA [0, 1, 2] [] rfl rfl (by decide) (by decide) (fun u_4 H locs hw_5 hP hD hS => ?_)
    obtain ⟨ys_6, rfl⟩ : ∃ z, z = u_4 := ⟨_, rfl⟩
    have hP : va_P (dC, dI) vwCl [(oM, .inr (6, [.int 0, .ref rz, .ref r2, .int (nI (min (km + 1) 6)), .ref rb, .int (nI n), .int tp, .int lf, .int hg, .int wd, .ref rq, .int pm, .int stt, .long hh])), (rz, .inl (cI, 389, .inl z)), (r2, .inl (cI, 2334, .inl ys_6))] H := hP
    have hD : va_D A [(oM, .inr (6, [.int 0, .ref rz, .ref r2, .int (nI (min (km + 1) 6)), .ref rb, .int (nI n), .int tp, .int lf, .int hg, .int wd, .ref rq, .int pm, .int stt, .long hh])), (rz, .inl (cI, 389, .inl z)), (r2, .inl (cI, 2334, .inl ys_6))] := hD
    have hsv := hw_5
    refine lv_aload_n hx hb dX6_clear_29 rfl (lv_at hl 0 rfl) ?_
    refine lv_iload_n hx hb dX6_clear_30 rfl (lv_at hl 1 rfl) ?_
    refine lv_bipush (v := 16) hx hb dX6_clear_31 (by decide) ?_
    refine kq_cV (As := [.int (nI a), .int 16]) (rest := []) ⟨hx, hb, hml, hown, hts⟩ (c_X6_bent l dC dI cI oM rz r2 rb rq (min (km + 1) 6) n 0 tp lf hg wd pm stt hh z v a 16 (by first | assumption | omega) (by first | assumption | omega) (by first | assumption | omega)) (cwV 2 hts gX6_clear_X6_bent rfl rfl rfl (by decide +kernel) ⟨Nat.le_of_ble_eq_true rfl, Nat.le_of_ble_eq_true rfl⟩) (hP.sub [0, 1] rfl) hK (ci := 6) (q0 := 0) rfl rfl rfl rfl hl.1 rfl (Nat.le_of_ble_eq_true rfl) dX6_clear_33 ⟨Nat.le_of_ble_eq_true rfl, Nat.le_of_ble_eq_true rfl⟩ ?_
    refine lv_istore_n (lv' := [(2, .int (n_cw v a 16)), (0, .ref oM), (1, .int (nI a))]) hx hb dX6_clear_36 rfl hl (by decide) rfl (fun ls hl => ?_)
    refine lv_iconst (v := 0) hx hb dX6_clear_37 (by decide) ?_
    refine lv_istore_n (lv' := [(3, .int 0), (2, .int (n_cw v a 16)), (0, .ref oM), (1, .int (nI a))]) hx hb dX6_clear_38 rfl hl (by decide) rfl (fun ls hl => ?_)
    refine kq_loopM2 (A1 := Nat) (A2 := Nat → Int32) (fun (k : Nat) (g : Nat → Int32) => 96 - k) (fun (k : Nat) (g : Nat → Int32) => (k ≤ 96) ∧ (∀ j, g j = if 9 + 96 * a ≤ j ∧ j < 9 + 96 * a + k then 0 else z j)) (fun (k : Nat) (g : Nat → Int32) => [(0, .ref oM), (1, .int (nI a)), (2, .int (n_cw v a 16)), (3, .int (nI k))]) (fun (k : Nat) (g : Nat → Int32) => [(oM, .inr (6, [.int 0, .ref rz, .ref r2, .int (nI (min (km + 1) 6)), .ref rb, .int (nI n), .int tp, .int lf, .int hg, .int wd, .ref rq, .int pm, .int stt, .long hh])), (rz, .inl (cI, 389, .inl g)), (r2, .inl (cI, 2334, .inl ys_6))]) (nL := 4) hK ?_ 0 z ⟨(by omega), (by intro j; rw [if_neg (by omega)])⟩ hP hD hS _ (lv_sub hl [2, 3, 1, 0] rfl)
    intro k g hi_8 ih_7 H locs hP hD hS ls hl
    obtain ⟨ik, ig⟩ := hi_8
    have hl : lv_has ls 4 [(0, .ref oM), (1, .int (nI a)), (2, .int (n_cw v a 16)), (3, .int (nI k))] := hl
    have hP : va_P (dC, dI) vwCl [(oM, .inr (6, [.int 0, .ref rz, .ref r2, .int (nI (min (km + 1) 6)), .ref rb, .int (nI n), .int tp, .int lf, .int hg, .int wd, .ref rq, .int pm, .int stt, .long hh])), (rz, .inl (cI, 389, .inl g)), (r2, .inl (cI, 2334, .inl ys_6))] H := hP
    have hD : va_D A [(oM, .inr (6, [.int 0, .ref rz, .ref r2, .int (nI (min (km + 1) 6)), .ref rb, .int (nI n), .int tp, .int lf, .int hg, .int wd, .ref rq, .int pm, .int stt, .long hh])), (rz, .inl (cI, 389, .inl g)), (r2, .inl (cI, 2334, .inl ys_6))] := hD
    refine lv_iload_n hx hb dX6_clear_39 rfl (lv_at hl 3 rfl) ?_
    refine lv_bipush (v := 96) hx hb dX6_clear_40 (by decide) ?_
    refine lv_icmp_ge (tgt := 66) hx hb dX6_clear_42 (by decide) (fun c_9 => ?_) (fun c_9 => ?_)
    · skip
      have c_9 := kq_leN (a := 96) (b := k) c_9 (by omega) (by omega)
      refine lv_iload_n hx hb dX6_clear_66 rfl (lv_at hl 2 rfl) ?_
      have hgg : g = n_flatZ z a := by funext j; rw [ig j, n_flatZ, show k = 96 by omega]
      rw [hgg] at hP hD
      have hP : va_P (dC, dI) vwCl [(oM, .inr (6, [.int 0, .ref rz, .ref r2, .int (nI (min (km + 1) 6)), .ref rb, .int (nI n), .int tp, .int lf, .int hg, .int wd, .ref rq, .int pm, .int stt, .long hh])), (rz, .inl (cI, 389, .inl (n_flatZ z a))), (r2, .inl (cI, 2334, .inl ys_6))] H := hP
      have hD : va_D A [(oM, .inr (6, [.int 0, .ref rz, .ref r2, .int (nI (min (km + 1) 6)), .ref rb, .int (nI n), .int tp, .int lf, .int hg, .int wd, .ref rq, .int pm, .int stt, .long hh])), (rz, .inl (cI, 389, .inl (n_flatZ z a))), (r2, .inl (cI, 2334, .inl ys_6))] := hD
      exact kq_retMi (ys_6) hx hb hr hlocks hP hD hS dX6_clear_67 (by exact ⟨rfl, hsv⟩)
    · skip
      have c_9 := kq_nleN (a := 96) (b := k) c_9 (by omega) (by omega)
      refine lv_aload_n hx hb dX6_clear_45 rfl (lv_at hl 0 rfl) ?_
      refine va_get (D := (dC, dI)) (ci := 6) (v := .ref rz) (C := RX6) (T := TX6) (N := 14) hx hb hts (by decide +kernel) hown hK.1 hP 0 rfl rfl 1 (by decide) (hts (.fieldLink RX6 7 "NoteWatermarksModel" "z" "[I") (by decide +kernel)) (fun _ h9 => h9) rfl dX6_clear_46 ?_
      refine lv_bipush (v := 9) hx hb dX6_clear_49 (by decide) ?_
      refine lv_bipush (v := 96) hx hb dX6_clear_51 (by decide) ?_
      refine lv_iload_n hx hb dX6_clear_53 rfl (lv_at hl 1 rfl) ?_
      refine lv_imul hx hb dX6_clear_54 ?_
      refine kq_top (z := nI (96 * a)) (pk_mul 96 a) ?_
      refine lv_iadd hx hb dX6_clear_55 ?_
      refine kq_top (z := nI (9 + (96 * a))) (nI_add 9 (96 * a)) ?_
      refine lv_iload_n hx hb dX6_clear_56 rfl (lv_at hl 3 rfl) ?_
      refine lv_iadd hx hb dX6_clear_57 ?_
      refine kq_top (z := nI ((9 + (96 * a)) + k)) (nI_add (9 + (96 * a)) k) ?_
      refine lv_iconst (v := 0) hx hb dX6_clear_58 (by decide) ?_
      refine va_iast hx hb hK.1 hP hD hS 1 0 rfl rfl (vp_in_nI (show (9 + (96 * a)) + k < 389 from by omega) (by omega)) dX6_clear_59 (fun H locs hP hD hS => ?_)
      rw [nI_clamp (Nat.lt_trans (show (9 + (96 * a)) + k < 389 from by omega) (by omega))] at hP hD
      have hP : va_P (dC, dI) vwCl [(oM, .inr (6, [.int 0, .ref rz, .ref r2, .int (nI (min (km + 1) 6)), .ref rb, .int (nI n), .int tp, .int lf, .int hg, .int wd, .ref rq, .int pm, .int stt, .long hh])), (rz, .inl (cI, 389, .inl (upd g ((9 + (96 * a)) + k) 0))), (r2, .inl (cI, 2334, .inl ys_6))] H := hP
      have hD : va_D A [(oM, .inr (6, [.int 0, .ref rz, .ref r2, .int (nI (min (km + 1) 6)), .ref rb, .int (nI n), .int tp, .int lf, .int hg, .int wd, .ref rq, .int pm, .int stt, .long hh])), (rz, .inl (cI, 389, .inl (upd g ((9 + (96 * a)) + k) 0))), (r2, .inl (cI, 2334, .inl ys_6))] := hD
      refine lv_iinc (v := nI (k + 1)) (lv' := [(3, .int (nI (k + 1))), (0, .ref oM), (1, .int (nI a)), (2, .int (n_cw v a 16))]) hx hb dX6_clear_60 hl (k := 3) rfl (nI_1 k) (by decide) rfl (fun ls hl => ?_)
      refine lv_goto (tgt := 39) hx hb dX6_clear_63 (by decide) ?_
      exact ih_7 (k + 1) (upd g ((9 + (96 * a)) + k) 0) ⟨(by omega), (by intro j; by_cases q : j = 9 + 96 * a + k; (subst q; rw [pk_us, if_pos (by omega)]); (rw [pk_un q, ig j]; by_cases q2 : 9 + 96 * a ≤ j ∧ j < 9 + 96 * a + k; rw [if_pos q2, if_pos (by omega)]; rw [if_neg q2, if_neg (by omega)]))⟩ (by show 96 - (k + 1) < 96 - k; omega) _ _ hP hD hS _ (lv_sub hl [1, 2, 3, 0] rfl)
set_option maxHeartbeats 4000000 in
set_option maxRecDepth 100000 in
theorem c_X6_ink (l : Launch) (dC : Nat → ClassId) (dI : Nat → Nat → Nat) (cI : ClassId) (sz : Nat) (oM : Nat) (rz : Nat) (r2 : Nat) (rb : Nat) (rq : Nat) (km : Nat) (n : Nat) (th : Int32) (tp : Int32) (lf : Int32) (hg : Int32) (wd : Int32) (pm : Int32) (stt : Int32) (hh : Int64) (z : Nat → Int32) (zs : Nat → Int32) (bf : Nat → Int32) (pt : Nat → Int32) (v : Nat → Int32) (b : Nat) (d : Nat) (h : Nat) (w : Nat) (x : Int32) (hkm : km ≤ 6) (hz : n_Z v z) (hb8 : b < 6) (hd : d < 12) (hh9 : 1 ≤ h ∧ h ≤ 6 - b) (hw9 : 1 ≤ w ∧ w ≤ 12 - d) (hx9 : 0 ≤ x ∧ x ≤ 9) : Met l yX6_ink wsX6_ink ({ frames := 2, cells := 0, slots := 0, locals := 45 }) (kq_M dC dI cI [.ref oM, .int (nI b), .int (nI d), .int (nI h), .int (nI w), .int x] sz [(oM, .inr (6, [.int th, .ref rz, .ref r2, .int (nI km), .ref rb, .int (nI n), .int tp, .int lf, .int hg, .int wd, .ref rq, .int pm, .int stt, .long hh])), (rz, .inl (cI, 389, .inl z)), (r2, .inl (cI, 2334, .inl zs))]) (va_Qi (fun (r : Int32) (u : (Nat → Int32)) => r = n_inkm v b d h w x 72 ∧ n_sv zs z u km) (kq_B dC dI (va_A [(oM, .inr (6, [.int th, .ref rz, .ref r2, .int (nI km), .ref rb, .int (nI n), .int tp, .int lf, .int hg, .int wd, .ref rq, .int pm, .int stt, .long hh])), (rz, .inl (cI, 389, .inl z)), (r2, .inl (cI, 2334, .inl zs))] sz) (fun u : (Nat → Int32) => [(oM, .inr (6, [.int 0, .ref rz, .ref r2, .int (nI (min (km + 1) 6)), .ref rb, .int (nI n), .int (nI b), .int (nI d), .int (nI h), .int (nI w), .ref rq, .int pm, .int stt, .long hh])), (rz, .inl (cI, 389, .inl (n_inkZ z b d h w x))), (r2, .inl (cI, 2334, .inl u))])) (va_A [(oM, .inr (6, [.int th, .ref rz, .ref r2, .int (nI km), .ref rb, .int (nI n), .int tp, .int lf, .int hg, .int wd, .ref rq, .int pm, .int stt, .long hh])), (rz, .inl (cI, 389, .inl z)), (r2, .inl (cI, 2334, .inl zs))] sz)) 0 0 (va_A [(oM, .inr (6, [.int th, .ref rz, .ref r2, .int (nI km), .ref rb, .int (nI n), .int tp, .int lf, .int hg, .int wd, .ref rq, .int pm, .int stt, .long hh])), (rz, .inl (cI, 389, .inl z)), (r2, .inl (cI, 2334, .inl zs))] sz) := by
  refine kq_startM (cc := cX6_ink) (maxL := 8) (ret := (some .int)) (by decide) rfl (Nat.le_of_ble_eq_true rfl) ?_
  intro p e s m below meth c hx hb hr hml hown hlocks hts hsz hA hP hD hS hK hnm ls hl
  subst hsz
  generalize hAe : va_A [(oM, .inr (6, [.int th, .ref rz, .ref r2, .int (nI km), .ref rb, .int (nI n), .int tp, .int lf, .int hg, .int wd, .ref rq, .int pm, .int stt, .long hh])), (rz, .inl (cI, 389, .inl z)), (r2, .inl (cI, 2334, .inl zs))] s.heap.size = A at hA hD hS ⊢
  have hown : s.vm.findClass RX6 = some m.cls := hown
  have hl : lv_has ls 8 [(0, .ref oM), (1, .int (nI b)), (2, .int (nI d)), (3, .int (nI h)), (4, .int (nI w)), (5, .int x)] := hl
  refine lv_aload_n hx hb dX6_ink_0 rfl (lv_at hl 0 rfl) ?_
  refine lv_iload_n hx hb dX6_ink_1 rfl (lv_at hl 1 rfl) ?_
  refine lv_iload_n hx hb dX6_ink_2 rfl (lv_at hl 2 rfl) ?_
  refine kq_cS (As := [.int (nI b), .int (nI d)]) (rest := [.ref oM]) ⟨hx, hb, hml, hown, hts⟩ (c_X6_isCell_n l dC dI cI b d (by first | assumption | omega) (by first | assumption | omega)) (va_cwS 2 hts gX6_ink_X6_isCell rfl rfl rfl (by decide +kernel) ⟨Nat.le_of_ble_eq_true rfl, Nat.le_of_ble_eq_true rfl⟩) (hP.sub [] rfl) hK rfl hl.1 rfl (Nat.le_of_ble_eq_true rfl) dX6_ink_3 ⟨Nat.le_of_ble_eq_true rfl, Nat.le_of_ble_eq_true rfl⟩ ?_
  refine lv_if_ne (tgt := 13) hx hb dX6_ink_6 (by decide) (fun c_1 => ?_) (fun c_1 => ?_)
  · skip
    have c_1 := kq_bt c_1
    refine lv_iload_n hx hb dX6_ink_13 rfl (lv_at hl 1 rfl) ?_
    refine lv_iload_n hx hb dX6_ink_14 rfl (lv_at hl 2 rfl) ?_
    refine lv_iload_n hx hb dX6_ink_15 rfl (lv_at hl 3 rfl) ?_
    refine lv_iload hx hb dX6_ink_16 (lv_at hl 4 rfl) ?_
    refine kq_cS (As := [.int (nI b), .int (nI d), .int (nI h), .int (nI w)]) (rest := [.ref oM]) ⟨hx, hb, hml, hown, hts⟩ (c_X6_areThere_n l dC dI cI b d h w (by first | assumption | omega) (by first | assumption | omega) (by first | assumption | omega) (by first | assumption | omega)) (va_cwS 4 hts gX6_ink_X6_areThere rfl rfl rfl (by decide +kernel) ⟨Nat.le_of_ble_eq_true rfl, Nat.le_of_ble_eq_true rfl⟩) (hP.sub [] rfl) hK rfl hl.1 rfl (Nat.le_of_ble_eq_true rfl) dX6_ink_18 ⟨Nat.le_of_ble_eq_true rfl, Nat.le_of_ble_eq_true rfl⟩ ?_
    refine lv_if_eq (tgt := 39) hx hb dX6_ink_21 (by decide) (fun c_2 => ?_) (fun c_2 => ?_)
    · skip
      have c_2 := kq_bf c_2
      exact absurd ⟨hh9, hw9⟩ c_2
    · skip
      have c_2 := kq_bt c_2
      refine lv_iload hx hb dX6_ink_24 (lv_at hl 5 rfl) ?_
      refine lv_iconst (v := 0) hx hb dX6_ink_26 (by decide) ?_
      refine lv_bipush (v := 9) hx hb dX6_ink_27 (by decide) ?_
      refine kq_cS (As := [.int x, .int 0, .int 9]) (rest := [.ref oM]) ⟨hx, hb, hml, hown, hts⟩ (c_X6_in l dC dI cI x 0 9 ) (va_cwS 3 hts gX6_ink_X6_in rfl rfl rfl (by decide +kernel) ⟨Nat.le_of_ble_eq_true rfl, Nat.le_of_ble_eq_true rfl⟩) (hP.sub [] rfl) hK rfl hl.1 rfl (Nat.le_of_ble_eq_true rfl) dX6_ink_29 ⟨Nat.le_of_ble_eq_true rfl, Nat.le_of_ble_eq_true rfl⟩ ?_
      refine lv_if_eq (tgt := 39) hx hb dX6_ink_32 (by decide) (fun c_3 => ?_) (fun c_3 => ?_)
      · skip
        have c_3 := kq_bf c_3
        exact absurd hx9 c_3
      · skip
        have c_3 := kq_bt c_3
        refine lv_iconst (v := 0) hx hb dX6_ink_35 (by decide) ?_
        refine lv_goto (tgt := 40) hx hb dX6_ink_36 (by decide) ?_
        refine va_put (D := (dC, dI)) (ci := 6) (v := .int 0) (ty := .int) (C := RX6) (T := TX6) (N := 14) hx hb hts (by decide +kernel) tyX6 tyX6_ok nmX6 hown hK.1 hP hD hS 0 rfl rfl 0 (by decide) (hts (.fieldLink RX6 22 "NoteWatermarksModel" "thrown" "I") (by decide +kernel)) (fun _ h9 => h9) rfl (by decide +kernel) rfl rfl (Nat.le_of_ble_eq_true rfl) dX6_ink_40 (fun H locs hP hD hS => ?_)
        have hP : va_P (dC, dI) vwCl [(oM, .inr (6, [.int 0, .ref rz, .ref r2, .int (nI km), .ref rb, .int (nI n), .int tp, .int lf, .int hg, .int wd, .ref rq, .int pm, .int stt, .long hh])), (rz, .inl (cI, 389, .inl z)), (r2, .inl (cI, 2334, .inl zs))] H := hP
        have hD : va_D A [(oM, .inr (6, [.int 0, .ref rz, .ref r2, .int (nI km), .ref rb, .int (nI n), .int tp, .int lf, .int hg, .int wd, .ref rq, .int pm, .int stt, .long hh])), (rz, .inl (cI, 389, .inl z)), (r2, .inl (cI, 2334, .inl zs))] := hD
        refine lv_aload_n hx hb dX6_ink_43 rfl (lv_at hl 0 rfl) ?_
        refine va_get (D := (dC, dI)) (ci := 6) (v := .int 0) (C := RX6) (T := TX6) (N := 14) hx hb hts (by decide +kernel) hown hK.1 hP 0 rfl rfl 0 (by decide) (hts (.fieldLink RX6 22 "NoteWatermarksModel" "thrown" "I") (by decide +kernel)) (fun _ h9 => h9) rfl dX6_ink_44 ?_
        refine lv_if_le (tgt := 52) hx hb dX6_ink_47 (by decide) (fun _ => ?_) (fun q => absurd q (by decide))
        refine lv_aload_n hx hb dX6_ink_52 rfl (lv_at hl 0 rfl) ?_
        refine kq_callMv (wr := []) (va_runV (As := []) (rest := []) ⟨hx, hb, hml, hown, hts⟩ (c_X6_save l dC dI cI H.size oM rz r2 rb rq km n 0 tp lf hg wd pm stt hh z zs bf pt v (by first | assumption | omega)) (cwV 0 hts gX6_ink_X6_save rfl rfl rfl (by decide +kernel) ⟨Nat.le_of_ble_eq_true rfl, Nat.le_of_ble_eq_true rfl⟩) (kq_preV (ci := 6) (q0 := 0) (hP.sub [0, 1, 2] rfl) (hD.sub [0, 1, 2] (by decide) rfl) hK rfl rfl) rfl rfl hl.1 rfl (lv_room (Nat.le_of_ble_eq_true rfl)) dX6_ink_53 ⟨Nat.le_of_ble_eq_true rfl, Nat.le_of_ble_eq_true rfl⟩) hP hD hS hA [0, 1, 2] [] rfl rfl (by decide) (by decide) (fun u_6 H locs hw_7 hP hD hS => ?_)
        obtain ⟨ys_8, rfl⟩ : ∃ z, z = u_6 := ⟨_, rfl⟩
        have hP : va_P (dC, dI) vwCl [(oM, .inr (6, [.int 0, .ref rz, .ref r2, .int (nI (min (km + 1) 6)), .ref rb, .int (nI n), .int tp, .int lf, .int hg, .int wd, .ref rq, .int pm, .int stt, .long hh])), (rz, .inl (cI, 389, .inl z)), (r2, .inl (cI, 2334, .inl ys_8))] H := hP
        have hD : va_D A [(oM, .inr (6, [.int 0, .ref rz, .ref r2, .int (nI (min (km + 1) 6)), .ref rb, .int (nI n), .int tp, .int lf, .int hg, .int wd, .ref rq, .int pm, .int stt, .long hh])), (rz, .inl (cI, 389, .inl z)), (r2, .inl (cI, 2334, .inl ys_8))] := hD
        have hsv := hw_7
        refine lv_iconst (v := 0) hx hb dX6_ink_56 (by decide) ?_
        refine lv_istore (lv' := [(6, .int 0), (0, .ref oM), (1, .int (nI b)), (2, .int (nI d)), (3, .int (nI h)), (4, .int (nI w)), (5, .int x)]) hx hb dX6_ink_57 hl (by decide) rfl (fun ls hl => ?_)
        refine lv_aload_n hx hb dX6_ink_59 rfl (lv_at hl 1 rfl) ?_
        refine lv_iload_n hx hb dX6_ink_60 rfl (lv_at hl 2 rfl) ?_
        refine lv_iload_n hx hb dX6_ink_61 rfl (lv_at hl 3 rfl) ?_
        refine lv_iload_n hx hb dX6_ink_62 rfl (lv_at hl 4 rfl) ?_
        refine lv_iload hx hb dX6_ink_63 (lv_at hl 5 rfl) ?_
        refine kq_callMv (wr := [(rz, .inl (cI, 389, .inl z)), (r2, .inl (cI, 2334, .inl ys_8))]) (va_runV (As := [.int (nI b), .int (nI d), .int (nI h), .int (nI w)]) (rest := []) ⟨hx, hb, hml, hown, hts⟩ (c_X6_rectangle l dC dI cI H.size oM rz r2 rb rq (min (km + 1) 6) n 0 tp lf hg wd pm stt hh z v b d h w ) (cwV 4 hts gX6_ink_X6_rectangle rfl rfl rfl (by decide +kernel) ⟨Nat.le_of_ble_eq_true rfl, Nat.le_of_ble_eq_true rfl⟩) (kq_preV (ci := 6) (q0 := 0) (hP.sub [0] rfl) (hD.sub [0] (by decide) rfl) hK rfl rfl) rfl rfl hl.1 rfl (lv_room (Nat.le_of_ble_eq_true rfl)) dX6_ink_65 ⟨Nat.le_of_ble_eq_true rfl, Nat.le_of_ble_eq_true rfl⟩) hP hD hS hA [0] [1, 2] rfl rfl (by decide) (by decide) (fun u_10 H locs hw_11 hP hD hS => ?_)
        have hP : va_P (dC, dI) vwCl [(rz, .inl (cI, 389, .inl z)), (r2, .inl (cI, 2334, .inl ys_8)), (oM, .inr (6, [.int 0, .ref rz, .ref r2, .int (nI (min (km + 1) 6)), .ref rb, .int (nI n), .int (nI b), .int (nI d), .int (nI h), .int (nI w), .ref rq, .int pm, .int stt, .long hh]))] H := hP
        have hD : va_D A [(rz, .inl (cI, 389, .inl z)), (r2, .inl (cI, 2334, .inl ys_8)), (oM, .inr (6, [.int 0, .ref rz, .ref r2, .int (nI (min (km + 1) 6)), .ref rb, .int (nI n), .int (nI b), .int (nI d), .int (nI h), .int (nI w), .ref rq, .int pm, .int stt, .long hh]))] := hD
        refine lv_iconst (v := 0) hx hb dX6_ink_68 (by decide) ?_
        refine lv_istore (lv' := [(7, .int 0), (6, .int 0), (0, .ref oM), (1, .int (nI b)), (2, .int (nI d)), (3, .int (nI h)), (4, .int (nI w)), (5, .int x)]) hx hb dX6_ink_69 hl (by decide) rfl (fun ls hl => ?_)
        refine kq_loopM3 (A1 := Nat) (A2 := Int32) (A3 := Nat → Int32) (fun (k : Nat) (j9 : Int32) (g : Nat → Int32) => 72 - k) (fun (k : Nat) (j9 : Int32) (g : Nat → Int32) => (k ≤ 72) ∧ (j9 = n_inkm v b d h w x k) ∧ (∀ j, g j = if (297 ≤ j ∧ j < 297 + k) ∧ (b ≤ (j - 297) / 12 ∧ (j - 297) / 12 < b + h) ∧ (d ≤ (j - 297) % 12 ∧ (j - 297) % 12 < d + w) then x else z j)) (fun (k : Nat) (j9 : Int32) (g : Nat → Int32) => [(0, .ref oM), (1, .int (nI b)), (2, .int (nI d)), (3, .int (nI h)), (4, .int (nI w)), (5, .int x), (6, .int j9), (7, .int (nI k))]) (fun (k : Nat) (j9 : Int32) (g : Nat → Int32) => [(rz, .inl (cI, 389, .inl g)), (r2, .inl (cI, 2334, .inl ys_8)), (oM, .inr (6, [.int 0, .ref rz, .ref r2, .int (nI (min (km + 1) 6)), .ref rb, .int (nI n), .int (nI b), .int (nI d), .int (nI h), .int (nI w), .ref rq, .int pm, .int stt, .long hh]))]) (nL := 8) hK ?_ 0 0 z ⟨(by omega), (by rfl), (by intro j; rw [if_neg (by omega)])⟩ hP hD hS _ (lv_sub hl [2, 3, 4, 5, 6, 7, 1, 0] rfl)
        intro k j9 g hi_13 ih_12 H locs hP hD hS ls hl
        obtain ⟨ik, ij, ig⟩ := hi_13
        have hl : lv_has ls 8 [(0, .ref oM), (1, .int (nI b)), (2, .int (nI d)), (3, .int (nI h)), (4, .int (nI w)), (5, .int x), (6, .int j9), (7, .int (nI k))] := hl
        have hP : va_P (dC, dI) vwCl [(rz, .inl (cI, 389, .inl g)), (r2, .inl (cI, 2334, .inl ys_8)), (oM, .inr (6, [.int 0, .ref rz, .ref r2, .int (nI (min (km + 1) 6)), .ref rb, .int (nI n), .int (nI b), .int (nI d), .int (nI h), .int (nI w), .ref rq, .int pm, .int stt, .long hh]))] H := hP
        have hD : va_D A [(rz, .inl (cI, 389, .inl g)), (r2, .inl (cI, 2334, .inl ys_8)), (oM, .inr (6, [.int 0, .ref rz, .ref r2, .int (nI (min (km + 1) 6)), .ref rb, .int (nI n), .int (nI b), .int (nI d), .int (nI h), .int (nI w), .ref rq, .int pm, .int stt, .long hh]))] := hD
        refine lv_iload hx hb dX6_ink_71 (lv_at hl 7 rfl) ?_
        refine lv_bipush (v := 72) hx hb dX6_ink_73 (by decide) ?_
        refine lv_icmp_ge (tgt := 140) hx hb dX6_ink_75 (by decide) (fun c_14 => ?_) (fun c_14 => ?_)
        · skip
          have c_14 := kq_leN (a := 72) (b := k) c_14 (by omega) (by omega)
          refine lv_iload hx hb dX6_ink_140 (lv_at hl 6 rfl) ?_
          have hgg : g = n_inkZ z b d h w x := by funext j; rw [ig j, n_inkZ, show k = 72 by omega]
          rw [hgg] at hP hD
          have hP : va_P (dC, dI) vwCl [(rz, .inl (cI, 389, .inl (n_inkZ z b d h w x))), (r2, .inl (cI, 2334, .inl ys_8)), (oM, .inr (6, [.int 0, .ref rz, .ref r2, .int (nI (min (km + 1) 6)), .ref rb, .int (nI n), .int (nI b), .int (nI d), .int (nI h), .int (nI w), .ref rq, .int pm, .int stt, .long hh]))] H := hP
          have hD : va_D A [(rz, .inl (cI, 389, .inl (n_inkZ z b d h w x))), (r2, .inl (cI, 2334, .inl ys_8)), (oM, .inr (6, [.int 0, .ref rz, .ref r2, .int (nI (min (km + 1) 6)), .ref rb, .int (nI n), .int (nI b), .int (nI d), .int (nI h), .int (nI w), .ref rq, .int pm, .int stt, .long hh]))] := hD
          exact kq_retMi (ys_8) hx hb hr hlocks (hP.sub [2, 0, 1] rfl) (hD.sub [2, 0, 1] (by decide) rfl) hS dX6_ink_142 (by exact ⟨by rw [ij, show k = 72 by omega], hsv⟩)
        · skip
          have c_14 := kq_nleN (a := 72) (b := k) c_14 (by omega) (by omega)
          refine lv_aload_n hx hb dX6_ink_78 rfl (lv_at hl 0 rfl) ?_
          refine lv_iload hx hb dX6_ink_79 (lv_at hl 7 rfl) ?_
          refine lv_bipush (v := 12) hx hb dX6_ink_81 (by decide) ?_
          refine lv_idiv hx hb dX6_ink_83 (nI_ne0 (n := 12) (by omega) (by omega)) ?_
          refine kq_top (z := nI (k / 12)) (pk_div (a := k) (d := 12) (by omega) (by omega) (by omega)) ?_
          refine lv_iload hx hb dX6_ink_84 (lv_at hl 7 rfl) ?_
          refine lv_bipush (v := 12) hx hb dX6_ink_86 (by decide) ?_
          refine lv_irem hx hb dX6_ink_88 (nI_ne0 (n := 12) (by omega) (by omega)) ?_
          refine kq_top (z := nI (k % 12)) (pk_rem (a := k) (d := 12) (by omega) (by omega) (by omega)) ?_
          refine kq_cV (As := [.int (nI (k / 12)), .int (nI (k % 12))]) (rest := []) ⟨hx, hb, hml, hown, hts⟩ (c_X6_isInside l dC dI cI oM rz r2 rb rq (min (km + 1) 6) n b d h w 0 pm stt hh z v (k / 12) (k % 12) (by first | assumption | omega) (by first | assumption | omega) (by first | assumption | omega) (by first | assumption | omega) (by first | assumption | omega) (by first | assumption | omega)) (cwV 2 hts gX6_ink_X6_isInside rfl rfl rfl (by decide +kernel) ⟨Nat.le_of_ble_eq_true rfl, Nat.le_of_ble_eq_true rfl⟩) (hP.sub [2] rfl) hK (ci := 6) (q0 := 0) rfl rfl rfl rfl hl.1 rfl (Nat.le_of_ble_eq_true rfl) dX6_ink_89 ⟨Nat.le_of_ble_eq_true rfl, Nat.le_of_ble_eq_true rfl⟩ ?_
          refine lv_if_eq (tgt := 134) hx hb dX6_ink_92 (by decide) (fun c_15 => ?_) (fun c_15 => ?_)
          · skip
            have c_15 := kq_bf c_15
            refine lv_iinc (v := nI (k + 1)) (lv' := [(7, .int (nI (k + 1))), (0, .ref oM), (1, .int (nI b)), (2, .int (nI d)), (3, .int (nI h)), (4, .int (nI w)), (5, .int x), (6, .int j9)]) hx hb dX6_ink_134 hl (k := 7) rfl (nI_1 k) (by decide) rfl (fun ls hl => ?_)
            refine lv_goto (tgt := 71) hx hb dX6_ink_137 (by decide) ?_
            exact ih_12 (k + 1) j9 g ⟨(by omega), (by rw [n_inkm, n_sum, ← n_inkm, ← ij]; first | rw [if_neg (by assumption), Int32.add_zero] | (rw [if_pos hin]; first | rw [if_pos (by assumption)] | rw [if_neg (by assumption)])), (by intro j; first | (rw [ig j]; by_cases q2 : (297 ≤ j ∧ j < 297 + k) ∧ (b ≤ (j - 297) / 12 ∧ (j - 297) / 12 < b + h) ∧ (d ≤ (j - 297) % 12 ∧ (j - 297) % 12 < d + w); rw [if_pos q2, if_pos (by omega)]; rw [if_neg q2, if_neg (by omega)]; done) | (by_cases q : j = 297 + k; (subst q; rw [pk_us, if_pos (by omega)]); (rw [pk_un q, ig j]; by_cases q2 : (297 ≤ j ∧ j < 297 + k) ∧ (b ≤ (j - 297) / 12 ∧ (j - 297) / 12 < b + h) ∧ (d ≤ (j - 297) % 12 ∧ (j - 297) % 12 < d + w); rw [if_pos q2, if_pos (by omega)]; rw [if_neg q2, if_neg (by omega)])))⟩ (by show 72 - (k + 1) < 72 - k; omega) _ _ hP hD hS _ (lv_sub hl [1, 2, 3, 4, 5, 6, 7, 0] rfl)
          · skip
            have c_15 := kq_bt c_15
            have hin := c_15
            refine lv_iload hx hb dX6_ink_95 (lv_at hl 6 rfl) ?_
            refine lv_aload_n hx hb dX6_ink_97 rfl (lv_at hl 0 rfl) ?_
            refine va_get (D := (dC, dI)) (ci := 6) (v := .ref rz) (C := RX6) (T := TX6) (N := 14) hx hb hts (by decide +kernel) hown hK.1 hP 2 rfl rfl 1 (by decide) (hts (.fieldLink RX6 7 "NoteWatermarksModel" "z" "[I") (by decide +kernel)) (fun _ h9 => h9) rfl dX6_ink_98 ?_
            refine lv_sipush (v := 297) hx hb dX6_ink_101 (by decide) ?_
            refine lv_iload hx hb dX6_ink_104 (lv_at hl 7 rfl) ?_
            refine lv_iadd hx hb dX6_ink_106 ?_
            refine kq_top (z := nI (297 + k)) (nI_add 297 k) ?_
            refine va_iald hx hb hK.1 hP 0 0 rfl rfl (vp_in_nI (show 297 + k < 389 from by omega) (by omega)) dX6_ink_107 ?_
            refine kq_top (z := g (297 + k)) (congrArg g (nI_clamp (Nat.lt_trans (show 297 + k < 389 from by omega) (by omega)))) ?_
            refine kq_top (z := v (294 + k)) (((ig (297 + k)).trans (if_neg (by omega))).trans (hz.2.2.2.2.1 k (by omega))) ?_
            refine lv_iload hx hb dX6_ink_108 (lv_at hl 5 rfl) ?_
            refine lv_icmp_ne (tgt := 117) hx hb dX6_ink_110 (by decide) (fun c_16 => ?_) (fun c_16 => ?_)
            · skip
              refine lv_iconst (v := 1) hx hb dX6_ink_117 (by decide) ?_
              refine lv_iadd hx hb dX6_ink_118 ?_
              refine lv_istore (lv' := [(6, .int (j9 + 1)), (0, .ref oM), (1, .int (nI b)), (2, .int (nI d)), (3, .int (nI h)), (4, .int (nI w)), (5, .int x), (7, .int (nI k))]) hx hb dX6_ink_119 hl (by decide) rfl (fun ls hl => ?_)
              refine lv_aload_n hx hb dX6_ink_121 rfl (lv_at hl 1 rfl) ?_
              refine va_get (D := (dC, dI)) (ci := 6) (v := .ref rz) (C := RX6) (T := TX6) (N := 14) hx hb hts (by decide +kernel) hown hK.1 hP 2 rfl rfl 1 (by decide) (hts (.fieldLink RX6 7 "NoteWatermarksModel" "z" "[I") (by decide +kernel)) (fun _ h9 => h9) rfl dX6_ink_122 ?_
              refine lv_sipush (v := 297) hx hb dX6_ink_125 (by decide) ?_
              refine lv_iload hx hb dX6_ink_128 (lv_at hl 7 rfl) ?_
              refine lv_iadd hx hb dX6_ink_130 ?_
              refine kq_top (z := nI (297 + k)) (nI_add 297 k) ?_
              refine lv_iload hx hb dX6_ink_131 (lv_at hl 6 rfl) ?_
              refine va_iast hx hb hK.1 hP hD hS 0 0 rfl rfl (vp_in_nI (show 297 + k < 389 from by omega) (by omega)) dX6_ink_133 (fun H locs hP hD hS => ?_)
              rw [nI_clamp (Nat.lt_trans (show 297 + k < 389 from by omega) (by omega))] at hP hD
              have hP : va_P (dC, dI) vwCl [(rz, .inl (cI, 389, .inl (upd g (297 + k) x))), (r2, .inl (cI, 2334, .inl ys_8)), (oM, .inr (6, [.int 0, .ref rz, .ref r2, .int (nI (min (km + 1) 6)), .ref rb, .int (nI n), .int (nI b), .int (nI d), .int (nI h), .int (nI w), .ref rq, .int pm, .int stt, .long hh]))] H := hP
              have hD : va_D A [(rz, .inl (cI, 389, .inl (upd g (297 + k) x))), (r2, .inl (cI, 2334, .inl ys_8)), (oM, .inr (6, [.int 0, .ref rz, .ref r2, .int (nI (min (km + 1) 6)), .ref rb, .int (nI n), .int (nI b), .int (nI d), .int (nI h), .int (nI w), .ref rq, .int pm, .int stt, .long hh]))] := hD
              refine lv_iinc (v := nI (k + 1)) (lv' := [(7, .int (nI (k + 1))), (6, .int (j9 + 1)), (0, .ref oM), (1, .int (nI b)), (2, .int (nI d)), (3, .int (nI h)), (4, .int (nI w)), (5, .int x)]) hx hb dX6_ink_134 hl (k := 7) rfl (nI_1 k) (by decide) rfl (fun ls hl => ?_)
              refine lv_goto (tgt := 71) hx hb dX6_ink_137 (by decide) ?_
              exact ih_12 (k + 1) (j9 + 1) (upd g (297 + k) x) ⟨(by omega), (by rw [n_inkm, n_sum, ← n_inkm, ← ij]; first | rw [if_neg (by assumption), Int32.add_zero] | (rw [if_pos hin]; first | rw [if_pos (by assumption)] | rw [if_neg (by assumption)])), (by intro j; first | (rw [ig j]; by_cases q2 : (297 ≤ j ∧ j < 297 + k) ∧ (b ≤ (j - 297) / 12 ∧ (j - 297) / 12 < b + h) ∧ (d ≤ (j - 297) % 12 ∧ (j - 297) % 12 < d + w); rw [if_pos q2, if_pos (by omega)]; rw [if_neg q2, if_neg (by omega)]; done) | (by_cases q : j = 297 + k; (subst q; rw [pk_us, if_pos (by omega)]); (rw [pk_un q, ig j]; by_cases q2 : (297 ≤ j ∧ j < 297 + k) ∧ (b ≤ (j - 297) / 12 ∧ (j - 297) / 12 < b + h) ∧ (d ≤ (j - 297) % 12 ∧ (j - 297) % 12 < d + w); rw [if_pos q2, if_pos (by omega)]; rw [if_neg q2, if_neg (by omega)])))⟩ (by show 72 - (k + 1) < 72 - k; omega) _ _ hP hD hS _ (lv_sub hl [2, 3, 4, 5, 6, 7, 1, 0] rfl)
            · skip
              refine lv_iconst (v := 0) hx hb dX6_ink_113 (by decide) ?_
              refine lv_goto (tgt := 118) hx hb dX6_ink_114 (by decide) ?_
              refine lv_iadd hx hb dX6_ink_118 ?_
              refine lv_istore (lv' := [(6, .int (j9 + 0)), (0, .ref oM), (1, .int (nI b)), (2, .int (nI d)), (3, .int (nI h)), (4, .int (nI w)), (5, .int x), (7, .int (nI k))]) hx hb dX6_ink_119 hl (by decide) rfl (fun ls hl => ?_)
              refine lv_aload_n hx hb dX6_ink_121 rfl (lv_at hl 1 rfl) ?_
              refine va_get (D := (dC, dI)) (ci := 6) (v := .ref rz) (C := RX6) (T := TX6) (N := 14) hx hb hts (by decide +kernel) hown hK.1 hP 2 rfl rfl 1 (by decide) (hts (.fieldLink RX6 7 "NoteWatermarksModel" "z" "[I") (by decide +kernel)) (fun _ h9 => h9) rfl dX6_ink_122 ?_
              refine lv_sipush (v := 297) hx hb dX6_ink_125 (by decide) ?_
              refine lv_iload hx hb dX6_ink_128 (lv_at hl 7 rfl) ?_
              refine lv_iadd hx hb dX6_ink_130 ?_
              refine kq_top (z := nI (297 + k)) (nI_add 297 k) ?_
              refine lv_iload hx hb dX6_ink_131 (lv_at hl 6 rfl) ?_
              refine va_iast hx hb hK.1 hP hD hS 0 0 rfl rfl (vp_in_nI (show 297 + k < 389 from by omega) (by omega)) dX6_ink_133 (fun H locs hP hD hS => ?_)
              rw [nI_clamp (Nat.lt_trans (show 297 + k < 389 from by omega) (by omega))] at hP hD
              have hP : va_P (dC, dI) vwCl [(rz, .inl (cI, 389, .inl (upd g (297 + k) x))), (r2, .inl (cI, 2334, .inl ys_8)), (oM, .inr (6, [.int 0, .ref rz, .ref r2, .int (nI (min (km + 1) 6)), .ref rb, .int (nI n), .int (nI b), .int (nI d), .int (nI h), .int (nI w), .ref rq, .int pm, .int stt, .long hh]))] H := hP
              have hD : va_D A [(rz, .inl (cI, 389, .inl (upd g (297 + k) x))), (r2, .inl (cI, 2334, .inl ys_8)), (oM, .inr (6, [.int 0, .ref rz, .ref r2, .int (nI (min (km + 1) 6)), .ref rb, .int (nI n), .int (nI b), .int (nI d), .int (nI h), .int (nI w), .ref rq, .int pm, .int stt, .long hh]))] := hD
              refine lv_iinc (v := nI (k + 1)) (lv' := [(7, .int (nI (k + 1))), (6, .int (j9 + 0)), (0, .ref oM), (1, .int (nI b)), (2, .int (nI d)), (3, .int (nI h)), (4, .int (nI w)), (5, .int x)]) hx hb dX6_ink_134 hl (k := 7) rfl (nI_1 k) (by decide) rfl (fun ls hl => ?_)
              refine lv_goto (tgt := 71) hx hb dX6_ink_137 (by decide) ?_
              exact ih_12 (k + 1) (j9 + 0) (upd g (297 + k) x) ⟨(by omega), (by rw [n_inkm, n_sum, ← n_inkm, ← ij]; first | rw [if_neg (by assumption), Int32.add_zero] | (rw [if_pos hin]; first | rw [if_pos (by assumption)] | rw [if_neg (by assumption)])), (by intro j; first | (rw [ig j]; by_cases q2 : (297 ≤ j ∧ j < 297 + k) ∧ (b ≤ (j - 297) / 12 ∧ (j - 297) / 12 < b + h) ∧ (d ≤ (j - 297) % 12 ∧ (j - 297) % 12 < d + w); rw [if_pos q2, if_pos (by omega)]; rw [if_neg q2, if_neg (by omega)]; done) | (by_cases q : j = 297 + k; (subst q; rw [pk_us, if_pos (by omega)]); (rw [pk_un q, ig j]; by_cases q2 : (297 ≤ j ∧ j < 297 + k) ∧ (b ≤ (j - 297) / 12 ∧ (j - 297) / 12 < b + h) ∧ (d ≤ (j - 297) % 12 ∧ (j - 297) % 12 < d + w); rw [if_pos q2, if_pos (by omega)]; rw [if_neg q2, if_neg (by omega)])))⟩ (by show 72 - (k + 1) < 72 - k; omega) _ _ hP hD hS _ (lv_sub hl [2, 3, 4, 5, 6, 7, 1, 0] rfl)
  · skip
    have c_1 := kq_bf c_1
    exact absurd c_1 (by omega)
set_option maxHeartbeats 4000000 in
set_option maxRecDepth 100000 in
theorem c_X6_figure (l : Launch) (dC : Nat → ClassId) (dI : Nat → Nat → Nat) (cI : ClassId) (sz : Nat) (oM : Nat) (rz : Nat) (r2 : Nat) (rb : Nat) (rq : Nat) (km : Nat) (n : Nat) (th : Int32) (tp : Int32) (lf : Int32) (hg : Int32) (wd : Int32) (pm : Int32) (stt : Int32) (hh : Int64) (z : Nat → Int32) (zs : Nat → Int32) (bf : Nat → Int32) (pt : Nat → Int32) (v : Nat → Int32) (f : Nat) (b : Nat) (d : Nat) (h : Nat) (w : Nat) (hkm : km ≤ 6) (hz : n_Z v z) (hI : n_I v) (hf : f < 4) (hb8 : b < 6) (hd : d < 12) (hh9 : 1 ≤ h ∧ h ≤ 6 - b) (hw9 : 1 ≤ w ∧ w ≤ 12 - d) : Met l yX6_figure wsX6_figure ({ frames := 3, cells := 0, slots := 0, locals := 66 }) (kq_M dC dI cI [.ref oM, .int (nI f), .int (nI b), .int (nI d), .int (nI h), .int (nI w)] sz [(oM, .inr (6, [.int th, .ref rz, .ref r2, .int (nI km), .ref rb, .int (nI n), .int tp, .int lf, .int hg, .int wd, .ref rq, .int pm, .int stt, .long hh])), (rz, .inl (cI, 389, .inl z)), (r2, .inl (cI, 2334, .inl zs))]) (va_Qi (fun (r : Int32) (u : (Nat → Int32)) => r = nI (n_fr b d h w) ∧ n_sv zs z u km) (kq_B dC dI (va_A [(oM, .inr (6, [.int th, .ref rz, .ref r2, .int (nI km), .ref rb, .int (nI n), .int tp, .int lf, .int hg, .int wd, .ref rq, .int pm, .int stt, .long hh])), (rz, .inl (cI, 389, .inl z)), (r2, .inl (cI, 2334, .inl zs))] sz) (fun u : (Nat → Int32) => [(oM, .inr (6, [.int 0, .ref rz, .ref r2, .int (nI (min (km + 1) 6)), .ref rb, .int (nI n), .int (nI b), .int (nI d), .int (nI h), .int (nI w), .ref rq, .int pm, .int stt, .long hh])), (rz, .inl (cI, 389, .inl (n_figZ z f 1 b d h w))), (r2, .inl (cI, 2334, .inl u))])) (va_A [(oM, .inr (6, [.int th, .ref rz, .ref r2, .int (nI km), .ref rb, .int (nI n), .int tp, .int lf, .int hg, .int wd, .ref rq, .int pm, .int stt, .long hh])), (rz, .inl (cI, 389, .inl z)), (r2, .inl (cI, 2334, .inl zs))] sz)) 0 0 (va_A [(oM, .inr (6, [.int th, .ref rz, .ref r2, .int (nI km), .ref rb, .int (nI n), .int tp, .int lf, .int hg, .int wd, .ref rq, .int pm, .int stt, .long hh])), (rz, .inl (cI, 389, .inl z)), (r2, .inl (cI, 2334, .inl zs))] sz) := by
  refine kq_startM (cc := cX6_figure) (maxL := 7) (ret := (some .int)) (by decide) rfl (Nat.le_of_ble_eq_true rfl) ?_
  intro p e s m below meth c hx hb hr hml hown hlocks hts hsz hA hP hD hS hK hnm ls hl
  subst hsz
  generalize hAe : va_A [(oM, .inr (6, [.int th, .ref rz, .ref r2, .int (nI km), .ref rb, .int (nI n), .int tp, .int lf, .int hg, .int wd, .ref rq, .int pm, .int stt, .long hh])), (rz, .inl (cI, 389, .inl z)), (r2, .inl (cI, 2334, .inl zs))] s.heap.size = A at hA hD hS ⊢
  have hown : s.vm.findClass RX6 = some m.cls := hown
  have hl : lv_has ls 7 [(0, .ref oM), (1, .int (nI f)), (2, .int (nI b)), (3, .int (nI d)), (4, .int (nI h)), (5, .int (nI w))] := hl
  refine lv_aload_n hx hb dX6_figure_0 rfl (lv_at hl 0 rfl) ?_
  refine lv_iload_n hx hb dX6_figure_1 rfl (lv_at hl 1 rfl) ?_
  refine kq_cS (As := [.int (nI f)]) (rest := [.ref oM]) ⟨hx, hb, hml, hown, hts⟩ (c_X6_isFigure_n l dC dI cI f (by first | assumption | omega)) (va_cwS 1 hts gX6_figure_X6_isFigure rfl rfl rfl (by decide +kernel) ⟨Nat.le_of_ble_eq_true rfl, Nat.le_of_ble_eq_true rfl⟩) (hP.sub [] rfl) hK rfl hl.1 rfl (Nat.le_of_ble_eq_true rfl) dX6_figure_2 ⟨Nat.le_of_ble_eq_true rfl, Nat.le_of_ble_eq_true rfl⟩ ?_
  refine lv_if_eq (tgt := 16) hx hb dX6_figure_5 (by decide) (fun c_1 => ?_) (fun c_1 => ?_)
  · skip
    have c_1 := kq_bf c_1
    exact absurd c_1 (by omega)
  · skip
    have c_1 := kq_bt c_1
    refine lv_iload_n hx hb dX6_figure_8 rfl (lv_at hl 2 rfl) ?_
    refine lv_iload_n hx hb dX6_figure_9 rfl (lv_at hl 3 rfl) ?_
    refine kq_cS (As := [.int (nI b), .int (nI d)]) (rest := [.ref oM]) ⟨hx, hb, hml, hown, hts⟩ (c_X6_isCell_n l dC dI cI b d (by first | assumption | omega) (by first | assumption | omega)) (va_cwS 2 hts gX6_figure_X6_isCell rfl rfl rfl (by decide +kernel) ⟨Nat.le_of_ble_eq_true rfl, Nat.le_of_ble_eq_true rfl⟩) (hP.sub [] rfl) hK rfl hl.1 rfl (Nat.le_of_ble_eq_true rfl) dX6_figure_10 ⟨Nat.le_of_ble_eq_true rfl, Nat.le_of_ble_eq_true rfl⟩ ?_
    refine lv_if_ne (tgt := 20) hx hb dX6_figure_13 (by decide) (fun c_2 => ?_) (fun c_2 => ?_)
    · skip
      have c_2 := kq_bt c_2
      refine lv_iload_n hx hb dX6_figure_20 rfl (lv_at hl 2 rfl) ?_
      refine lv_iload_n hx hb dX6_figure_21 rfl (lv_at hl 3 rfl) ?_
      refine lv_iload hx hb dX6_figure_22 (lv_at hl 4 rfl) ?_
      refine lv_iload hx hb dX6_figure_24 (lv_at hl 5 rfl) ?_
      refine kq_cS (As := [.int (nI b), .int (nI d), .int (nI h), .int (nI w)]) (rest := [.ref oM]) ⟨hx, hb, hml, hown, hts⟩ (c_X6_areThere_n l dC dI cI b d h w (by first | assumption | omega) (by first | assumption | omega) (by first | assumption | omega) (by first | assumption | omega)) (va_cwS 4 hts gX6_figure_X6_areThere rfl rfl rfl (by decide +kernel) ⟨Nat.le_of_ble_eq_true rfl, Nat.le_of_ble_eq_true rfl⟩) (hP.sub [] rfl) hK rfl hl.1 rfl (Nat.le_of_ble_eq_true rfl) dX6_figure_26 ⟨Nat.le_of_ble_eq_true rfl, Nat.le_of_ble_eq_true rfl⟩ ?_
      refine lv_if_eq (tgt := 36) hx hb dX6_figure_29 (by decide) (fun c_3 => ?_) (fun c_3 => ?_)
      · skip
        have c_3 := kq_bf c_3
        exact absurd ⟨hh9, hw9⟩ c_3
      · skip
        have c_3 := kq_bt c_3
        refine lv_iconst (v := 0) hx hb dX6_figure_32 (by decide) ?_
        refine lv_goto (tgt := 37) hx hb dX6_figure_33 (by decide) ?_
        refine va_put (D := (dC, dI)) (ci := 6) (v := .int 0) (ty := .int) (C := RX6) (T := TX6) (N := 14) hx hb hts (by decide +kernel) tyX6 tyX6_ok nmX6 hown hK.1 hP hD hS 0 rfl rfl 0 (by decide) (hts (.fieldLink RX6 22 "NoteWatermarksModel" "thrown" "I") (by decide +kernel)) (fun _ h9 => h9) rfl (by decide +kernel) rfl rfl (Nat.le_of_ble_eq_true rfl) dX6_figure_37 (fun H locs hP hD hS => ?_)
        have hP : va_P (dC, dI) vwCl [(oM, .inr (6, [.int 0, .ref rz, .ref r2, .int (nI km), .ref rb, .int (nI n), .int tp, .int lf, .int hg, .int wd, .ref rq, .int pm, .int stt, .long hh])), (rz, .inl (cI, 389, .inl z)), (r2, .inl (cI, 2334, .inl zs))] H := hP
        have hD : va_D A [(oM, .inr (6, [.int 0, .ref rz, .ref r2, .int (nI km), .ref rb, .int (nI n), .int tp, .int lf, .int hg, .int wd, .ref rq, .int pm, .int stt, .long hh])), (rz, .inl (cI, 389, .inl z)), (r2, .inl (cI, 2334, .inl zs))] := hD
        refine lv_aload_n hx hb dX6_figure_40 rfl (lv_at hl 0 rfl) ?_
        refine va_get (D := (dC, dI)) (ci := 6) (v := .int 0) (C := RX6) (T := TX6) (N := 14) hx hb hts (by decide +kernel) hown hK.1 hP 0 rfl rfl 0 (by decide) (hts (.fieldLink RX6 22 "NoteWatermarksModel" "thrown" "I") (by decide +kernel)) (fun _ h9 => h9) rfl dX6_figure_41 ?_
        refine lv_if_le (tgt := 49) hx hb dX6_figure_44 (by decide) (fun _ => ?_) (fun q => absurd q (by decide))
        refine lv_aload_n hx hb dX6_figure_49 rfl (lv_at hl 0 rfl) ?_
        refine kq_callMv (wr := []) (va_runV (As := []) (rest := []) ⟨hx, hb, hml, hown, hts⟩ (c_X6_save l dC dI cI H.size oM rz r2 rb rq km n 0 tp lf hg wd pm stt hh z zs bf pt v (by first | assumption | omega)) (cwV 0 hts gX6_figure_X6_save rfl rfl rfl (by decide +kernel) ⟨Nat.le_of_ble_eq_true rfl, Nat.le_of_ble_eq_true rfl⟩) (kq_preV (ci := 6) (q0 := 0) (hP.sub [0, 1, 2] rfl) (hD.sub [0, 1, 2] (by decide) rfl) hK rfl rfl) rfl rfl hl.1 rfl (lv_room (Nat.le_of_ble_eq_true rfl)) dX6_figure_50 ⟨Nat.le_of_ble_eq_true rfl, Nat.le_of_ble_eq_true rfl⟩) hP hD hS hA [0, 1, 2] [] rfl rfl (by decide) (by decide) (fun u_6 H locs hw_7 hP hD hS => ?_)
        obtain ⟨ys_8, rfl⟩ : ∃ z, z = u_6 := ⟨_, rfl⟩
        have hP : va_P (dC, dI) vwCl [(oM, .inr (6, [.int 0, .ref rz, .ref r2, .int (nI (min (km + 1) 6)), .ref rb, .int (nI n), .int tp, .int lf, .int hg, .int wd, .ref rq, .int pm, .int stt, .long hh])), (rz, .inl (cI, 389, .inl z)), (r2, .inl (cI, 2334, .inl ys_8))] H := hP
        have hD : va_D A [(oM, .inr (6, [.int 0, .ref rz, .ref r2, .int (nI (min (km + 1) 6)), .ref rb, .int (nI n), .int tp, .int lf, .int hg, .int wd, .ref rq, .int pm, .int stt, .long hh])), (rz, .inl (cI, 389, .inl z)), (r2, .inl (cI, 2334, .inl ys_8))] := hD
        have hsv := hw_7
        refine lv_sipush (v := 369) hx hb dX6_figure_53 (by decide) ?_
        refine lv_iconst (v := 5) hx hb dX6_figure_56 (by decide) ?_
        refine lv_iload_n hx hb dX6_figure_57 rfl (lv_at hl 1 rfl) ?_
        refine lv_imul hx hb dX6_figure_58 ?_
        refine kq_top (z := nI (5 * f)) (pk_mul 5 f) ?_
        refine lv_iadd hx hb dX6_figure_59 ?_
        refine kq_top (z := nI (369 + (5 * f))) (nI_add 369 (5 * f)) ?_
        refine lv_istore (lv' := [(6, .int (nI (369 + (5 * f)))), (0, .ref oM), (1, .int (nI f)), (2, .int (nI b)), (3, .int (nI d)), (4, .int (nI h)), (5, .int (nI w))]) hx hb dX6_figure_60 hl (by decide) rfl (fun ls hl => ?_)
        refine lv_aload_n hx hb dX6_figure_62 rfl (lv_at hl 1 rfl) ?_
        refine va_get (D := (dC, dI)) (ci := 6) (v := .ref rz) (C := RX6) (T := TX6) (N := 14) hx hb hts (by decide +kernel) hown hK.1 hP 0 rfl rfl 1 (by decide) (hts (.fieldLink RX6 7 "NoteWatermarksModel" "z" "[I") (by decide +kernel)) (fun _ h9 => h9) rfl dX6_figure_63 ?_
        refine lv_iload hx hb dX6_figure_66 (lv_at hl 0 rfl) ?_
        refine lv_iconst (v := 1) hx hb dX6_figure_68 (by decide) ?_
        refine va_iast hx hb hK.1 hP hD hS 1 0 rfl rfl (vp_in_nI (show 369 + (5 * f) < 389 from by omega) (by omega)) dX6_figure_69 (fun H locs hP hD hS => ?_)
        rw [nI_clamp (Nat.lt_trans (show 369 + (5 * f) < 389 from by omega) (by omega))] at hP hD
        have hP : va_P (dC, dI) vwCl [(oM, .inr (6, [.int 0, .ref rz, .ref r2, .int (nI (min (km + 1) 6)), .ref rb, .int (nI n), .int tp, .int lf, .int hg, .int wd, .ref rq, .int pm, .int stt, .long hh])), (rz, .inl (cI, 389, .inl (upd z (369 + (5 * f)) 1))), (r2, .inl (cI, 2334, .inl ys_8))] H := hP
        have hD : va_D A [(oM, .inr (6, [.int 0, .ref rz, .ref r2, .int (nI (min (km + 1) 6)), .ref rb, .int (nI n), .int tp, .int lf, .int hg, .int wd, .ref rq, .int pm, .int stt, .long hh])), (rz, .inl (cI, 389, .inl (upd z (369 + (5 * f)) 1))), (r2, .inl (cI, 2334, .inl ys_8))] := hD
        refine lv_aload_n hx hb dX6_figure_70 rfl (lv_at hl 1 rfl) ?_
        refine va_get (D := (dC, dI)) (ci := 6) (v := .ref rz) (C := RX6) (T := TX6) (N := 14) hx hb hts (by decide +kernel) hown hK.1 hP 0 rfl rfl 1 (by decide) (hts (.fieldLink RX6 7 "NoteWatermarksModel" "z" "[I") (by decide +kernel)) (fun _ h9 => h9) rfl dX6_figure_71 ?_
        refine lv_iload hx hb dX6_figure_74 (lv_at hl 0 rfl) ?_
        refine lv_iconst (v := 1) hx hb dX6_figure_76 (by decide) ?_
        refine lv_iadd hx hb dX6_figure_77 ?_
        refine kq_top (z := nI ((369 + (5 * f)) + 1)) (nI_add (369 + (5 * f)) 1) ?_
        refine lv_iload_n hx hb dX6_figure_78 rfl (lv_at hl 3 rfl) ?_
        refine va_iast hx hb hK.1 hP hD hS 1 0 rfl rfl (vp_in_nI (show (369 + (5 * f)) + 1 < 389 from by omega) (by omega)) dX6_figure_79 (fun H locs hP hD hS => ?_)
        rw [nI_clamp (Nat.lt_trans (show (369 + (5 * f)) + 1 < 389 from by omega) (by omega))] at hP hD
        have hP : va_P (dC, dI) vwCl [(oM, .inr (6, [.int 0, .ref rz, .ref r2, .int (nI (min (km + 1) 6)), .ref rb, .int (nI n), .int tp, .int lf, .int hg, .int wd, .ref rq, .int pm, .int stt, .long hh])), (rz, .inl (cI, 389, .inl (upd (upd z (369 + (5 * f)) 1) ((369 + (5 * f)) + 1) (nI b)))), (r2, .inl (cI, 2334, .inl ys_8))] H := hP
        have hD : va_D A [(oM, .inr (6, [.int 0, .ref rz, .ref r2, .int (nI (min (km + 1) 6)), .ref rb, .int (nI n), .int tp, .int lf, .int hg, .int wd, .ref rq, .int pm, .int stt, .long hh])), (rz, .inl (cI, 389, .inl (upd (upd z (369 + (5 * f)) 1) ((369 + (5 * f)) + 1) (nI b)))), (r2, .inl (cI, 2334, .inl ys_8))] := hD
        refine lv_aload_n hx hb dX6_figure_80 rfl (lv_at hl 1 rfl) ?_
        refine va_get (D := (dC, dI)) (ci := 6) (v := .ref rz) (C := RX6) (T := TX6) (N := 14) hx hb hts (by decide +kernel) hown hK.1 hP 0 rfl rfl 1 (by decide) (hts (.fieldLink RX6 7 "NoteWatermarksModel" "z" "[I") (by decide +kernel)) (fun _ h9 => h9) rfl dX6_figure_81 ?_
        refine lv_iload hx hb dX6_figure_84 (lv_at hl 0 rfl) ?_
        refine lv_iconst (v := 2) hx hb dX6_figure_86 (by decide) ?_
        refine lv_iadd hx hb dX6_figure_87 ?_
        refine kq_top (z := nI ((369 + (5 * f)) + 2)) (nI_add (369 + (5 * f)) 2) ?_
        refine lv_iload_n hx hb dX6_figure_88 rfl (lv_at hl 4 rfl) ?_
        refine va_iast hx hb hK.1 hP hD hS 1 0 rfl rfl (vp_in_nI (show (369 + (5 * f)) + 2 < 389 from by omega) (by omega)) dX6_figure_89 (fun H locs hP hD hS => ?_)
        rw [nI_clamp (Nat.lt_trans (show (369 + (5 * f)) + 2 < 389 from by omega) (by omega))] at hP hD
        have hP : va_P (dC, dI) vwCl [(oM, .inr (6, [.int 0, .ref rz, .ref r2, .int (nI (min (km + 1) 6)), .ref rb, .int (nI n), .int tp, .int lf, .int hg, .int wd, .ref rq, .int pm, .int stt, .long hh])), (rz, .inl (cI, 389, .inl (upd (upd (upd z (369 + (5 * f)) 1) ((369 + (5 * f)) + 1) (nI b)) ((369 + (5 * f)) + 2) (nI d)))), (r2, .inl (cI, 2334, .inl ys_8))] H := hP
        have hD : va_D A [(oM, .inr (6, [.int 0, .ref rz, .ref r2, .int (nI (min (km + 1) 6)), .ref rb, .int (nI n), .int tp, .int lf, .int hg, .int wd, .ref rq, .int pm, .int stt, .long hh])), (rz, .inl (cI, 389, .inl (upd (upd (upd z (369 + (5 * f)) 1) ((369 + (5 * f)) + 1) (nI b)) ((369 + (5 * f)) + 2) (nI d)))), (r2, .inl (cI, 2334, .inl ys_8))] := hD
        refine lv_aload_n hx hb dX6_figure_90 rfl (lv_at hl 1 rfl) ?_
        refine va_get (D := (dC, dI)) (ci := 6) (v := .ref rz) (C := RX6) (T := TX6) (N := 14) hx hb hts (by decide +kernel) hown hK.1 hP 0 rfl rfl 1 (by decide) (hts (.fieldLink RX6 7 "NoteWatermarksModel" "z" "[I") (by decide +kernel)) (fun _ h9 => h9) rfl dX6_figure_91 ?_
        refine lv_iload hx hb dX6_figure_94 (lv_at hl 0 rfl) ?_
        refine lv_iconst (v := 3) hx hb dX6_figure_96 (by decide) ?_
        refine lv_iadd hx hb dX6_figure_97 ?_
        refine kq_top (z := nI ((369 + (5 * f)) + 3)) (nI_add (369 + (5 * f)) 3) ?_
        refine lv_iload hx hb dX6_figure_98 (lv_at hl 5 rfl) ?_
        refine va_iast hx hb hK.1 hP hD hS 1 0 rfl rfl (vp_in_nI (show (369 + (5 * f)) + 3 < 389 from by omega) (by omega)) dX6_figure_100 (fun H locs hP hD hS => ?_)
        rw [nI_clamp (Nat.lt_trans (show (369 + (5 * f)) + 3 < 389 from by omega) (by omega))] at hP hD
        have hP : va_P (dC, dI) vwCl [(oM, .inr (6, [.int 0, .ref rz, .ref r2, .int (nI (min (km + 1) 6)), .ref rb, .int (nI n), .int tp, .int lf, .int hg, .int wd, .ref rq, .int pm, .int stt, .long hh])), (rz, .inl (cI, 389, .inl (upd (upd (upd (upd z (369 + (5 * f)) 1) ((369 + (5 * f)) + 1) (nI b)) ((369 + (5 * f)) + 2) (nI d)) ((369 + (5 * f)) + 3) (nI h)))), (r2, .inl (cI, 2334, .inl ys_8))] H := hP
        have hD : va_D A [(oM, .inr (6, [.int 0, .ref rz, .ref r2, .int (nI (min (km + 1) 6)), .ref rb, .int (nI n), .int tp, .int lf, .int hg, .int wd, .ref rq, .int pm, .int stt, .long hh])), (rz, .inl (cI, 389, .inl (upd (upd (upd (upd z (369 + (5 * f)) 1) ((369 + (5 * f)) + 1) (nI b)) ((369 + (5 * f)) + 2) (nI d)) ((369 + (5 * f)) + 3) (nI h)))), (r2, .inl (cI, 2334, .inl ys_8))] := hD
        refine lv_aload_n hx hb dX6_figure_101 rfl (lv_at hl 1 rfl) ?_
        refine va_get (D := (dC, dI)) (ci := 6) (v := .ref rz) (C := RX6) (T := TX6) (N := 14) hx hb hts (by decide +kernel) hown hK.1 hP 0 rfl rfl 1 (by decide) (hts (.fieldLink RX6 7 "NoteWatermarksModel" "z" "[I") (by decide +kernel)) (fun _ h9 => h9) rfl dX6_figure_102 ?_
        refine lv_iload hx hb dX6_figure_105 (lv_at hl 0 rfl) ?_
        refine lv_iconst (v := 4) hx hb dX6_figure_107 (by decide) ?_
        refine lv_iadd hx hb dX6_figure_108 ?_
        refine kq_top (z := nI ((369 + (5 * f)) + 4)) (nI_add (369 + (5 * f)) 4) ?_
        refine lv_iload hx hb dX6_figure_109 (lv_at hl 6 rfl) ?_
        refine va_iast hx hb hK.1 hP hD hS 1 0 rfl rfl (vp_in_nI (show (369 + (5 * f)) + 4 < 389 from by omega) (by omega)) dX6_figure_111 (fun H locs hP hD hS => ?_)
        rw [nI_clamp (Nat.lt_trans (show (369 + (5 * f)) + 4 < 389 from by omega) (by omega))] at hP hD
        have hP : va_P (dC, dI) vwCl [(oM, .inr (6, [.int 0, .ref rz, .ref r2, .int (nI (min (km + 1) 6)), .ref rb, .int (nI n), .int tp, .int lf, .int hg, .int wd, .ref rq, .int pm, .int stt, .long hh])), (rz, .inl (cI, 389, .inl (upd (upd (upd (upd (upd z (369 + (5 * f)) 1) ((369 + (5 * f)) + 1) (nI b)) ((369 + (5 * f)) + 2) (nI d)) ((369 + (5 * f)) + 3) (nI h)) ((369 + (5 * f)) + 4) (nI w)))), (r2, .inl (cI, 2334, .inl ys_8))] H := hP
        have hD : va_D A [(oM, .inr (6, [.int 0, .ref rz, .ref r2, .int (nI (min (km + 1) 6)), .ref rb, .int (nI n), .int tp, .int lf, .int hg, .int wd, .ref rq, .int pm, .int stt, .long hh])), (rz, .inl (cI, 389, .inl (upd (upd (upd (upd (upd z (369 + (5 * f)) 1) ((369 + (5 * f)) + 1) (nI b)) ((369 + (5 * f)) + 2) (nI d)) ((369 + (5 * f)) + 3) (nI h)) ((369 + (5 * f)) + 4) (nI w)))), (r2, .inl (cI, 2334, .inl ys_8))] := hD
        have hP : va_P (dC, dI) vwCl [(oM, .inr (6, [.int 0, .ref rz, .ref r2, .int (nI (min (km + 1) 6)), .ref rb, .int (nI n), .int tp, .int lf, .int hg, .int wd, .ref rq, .int pm, .int stt, .long hh])), (rz, .inl (cI, 389, .inl (n_figZ z f 1 b d h w))), (r2, .inl (cI, 2334, .inl ys_8))] H := hP
        have hD : va_D A [(oM, .inr (6, [.int 0, .ref rz, .ref r2, .int (nI (min (km + 1) 6)), .ref rb, .int (nI n), .int tp, .int lf, .int hg, .int wd, .ref rq, .int pm, .int stt, .long hh])), (rz, .inl (cI, 389, .inl (n_figZ z f 1 b d h w))), (r2, .inl (cI, 2334, .inl ys_8))] := hD
        obtain ⟨e0, e1, e2, e3⟩ := n_fig_f (v := v) (f := f) (show b + h ≤ 6 by omega) (show d + w ≤ 12 by omega)
        refine lv_aload_n hx hb dX6_figure_112 rfl (lv_at hl 1 rfl) ?_
        refine lv_iload_n hx hb dX6_figure_113 rfl (lv_at hl 2 rfl) ?_
        refine kq_callMv (wr := [(r2, .inl (cI, 2334, .inl ys_8))]) (va_runV (As := [.int (nI f)]) (rest := []) ⟨hx, hb, hml, hown, hts⟩ (c_X6_take l dC dI cI H.size oM rz r2 rb rq (min (km + 1) 6) n 0 tp lf hg wd pm stt hh (n_figZ z f 1 b d h w) (n_fig v f b d h w) f (n_Z_fig hz hf (by omega) (by omega) (if_pos (by omega)).symm) (n_I_fig hI hf (by omega) (by omega) (by omega) (by omega)) (by first | assumption | omega)) (cwV 1 hts gX6_figure_X6_take rfl rfl rfl (by decide +kernel) ⟨Nat.le_of_ble_eq_true rfl, Nat.le_of_ble_eq_true rfl⟩) (kq_preV (ci := 6) (q0 := 0) (hP.sub [0, 1] rfl) (hD.sub [0, 1] (by decide) rfl) hK rfl rfl) rfl rfl hl.1 rfl (lv_room (Nat.le_of_ble_eq_true rfl)) dX6_figure_114 ⟨Nat.le_of_ble_eq_true rfl, Nat.le_of_ble_eq_true rfl⟩) hP hD hS hA [0, 1] [2] rfl rfl (by decide) (by decide) (fun u_10 H locs hw_11 hP hD hS => ?_)
        have hP : va_P (dC, dI) vwCl [(r2, .inl (cI, 2334, .inl ys_8)), (oM, .inr (6, [.int 0, .ref rz, .ref r2, .int (nI (min (km + 1) 6)), .ref rb, .int (nI n), .int (nI (n_f (n_fig v f b d h w) f 0)), .int (nI (n_f (n_fig v f b d h w) f 1)), .int (nI (n_f (n_fig v f b d h w) f 2)), .int (nI (n_f (n_fig v f b d h w) f 3)), .ref rq, .int pm, .int stt, .long hh])), (rz, .inl (cI, 389, .inl (n_figZ z f 1 b d h w)))] H := hP
        have hD : va_D A [(r2, .inl (cI, 2334, .inl ys_8)), (oM, .inr (6, [.int 0, .ref rz, .ref r2, .int (nI (min (km + 1) 6)), .ref rb, .int (nI n), .int (nI (n_f (n_fig v f b d h w) f 0)), .int (nI (n_f (n_fig v f b d h w) f 1)), .int (nI (n_f (n_fig v f b d h w) f 2)), .int (nI (n_f (n_fig v f b d h w) f 3)), .ref rq, .int pm, .int stt, .long hh])), (rz, .inl (cI, 389, .inl (n_figZ z f 1 b d h w)))] := hD
        rw [e0, e1, e2, e3] at hP hD
        have hP : va_P (dC, dI) vwCl [(r2, .inl (cI, 2334, .inl ys_8)), (oM, .inr (6, [.int 0, .ref rz, .ref r2, .int (nI (min (km + 1) 6)), .ref rb, .int (nI n), .int (nI b), .int (nI d), .int (nI h), .int (nI w), .ref rq, .int pm, .int stt, .long hh])), (rz, .inl (cI, 389, .inl (n_figZ z f 1 b d h w)))] H := hP
        have hD : va_D A [(r2, .inl (cI, 2334, .inl ys_8)), (oM, .inr (6, [.int 0, .ref rz, .ref r2, .int (nI (min (km + 1) 6)), .ref rb, .int (nI n), .int (nI b), .int (nI d), .int (nI h), .int (nI w), .ref rq, .int pm, .int stt, .long hh])), (rz, .inl (cI, 389, .inl (n_figZ z f 1 b d h w)))] := hD
        refine lv_aload_n hx hb dX6_figure_117 rfl (lv_at hl 1 rfl) ?_
        refine kq_cV (As := []) (rest := []) ⟨hx, hb, hml, hown, hts⟩ (c_X6_frame l dC dI cI oM rz r2 rb rq (min (km + 1) 6) n b d h w 0 pm stt hh z v (by first | assumption | omega) (by first | assumption | omega) (by first | assumption | omega) (by first | assumption | omega)) (cwV 0 hts gX6_figure_X6_frame rfl rfl rfl (by decide +kernel) ⟨Nat.le_of_ble_eq_true rfl, Nat.le_of_ble_eq_true rfl⟩) (hP.sub [1] rfl) hK (ci := 6) (q0 := 0) rfl rfl rfl rfl hl.1 rfl (Nat.le_of_ble_eq_true rfl) dX6_figure_118 ⟨Nat.le_of_ble_eq_true rfl, Nat.le_of_ble_eq_true rfl⟩ ?_
        exact kq_retMi (ys_8) hx hb hr hlocks (hP.sub [1, 2, 0] rfl) (hD.sub [1, 2, 0] (by decide) rfl) hS dX6_figure_121 (by exact ⟨rfl, hsv⟩)
    · skip
      have c_2 := kq_bf c_2
      exact absurd c_2 (by omega)
set_option maxHeartbeats 4000000 in
set_option maxRecDepth 100000 in
theorem c_X6_drop (l : Launch) (dC : Nat → ClassId) (dI : Nat → Nat → Nat) (cI : ClassId) (sz : Nat) (oM : Nat) (rz : Nat) (r2 : Nat) (rb : Nat) (rq : Nat) (km : Nat) (n : Nat) (th : Int32) (tp : Int32) (lf : Int32) (hg : Int32) (wd : Int32) (pm : Int32) (stt : Int32) (hh : Int64) (z : Nat → Int32) (zs : Nat → Int32) (bf : Nat → Int32) (pt : Nat → Int32) (v : Nat → Int32) (f : Nat) (hkm : km ≤ 6) (hz : n_Z v z) (hf : f < 4) : Met l yX6_drop wsX6_drop ({ frames := 2, cells := 0, slots := 0, locals := 42 }) (kq_M dC dI cI [.ref oM, .int (nI f)] sz [(oM, .inr (6, [.int th, .ref rz, .ref r2, .int (nI km), .ref rb, .int (nI n), .int tp, .int lf, .int hg, .int wd, .ref rq, .int pm, .int stt, .long hh])), (rz, .inl (cI, 389, .inl z)), (r2, .inl (cI, 2334, .inl zs))]) (va_Qi (fun (r : Int32) (u : (Nat → Int32)) => r = (if 0 < n_f v f 2 then (1:Int32) else 0) ∧ n_sv zs z u km) (kq_B dC dI (va_A [(oM, .inr (6, [.int th, .ref rz, .ref r2, .int (nI km), .ref rb, .int (nI n), .int tp, .int lf, .int hg, .int wd, .ref rq, .int pm, .int stt, .long hh])), (rz, .inl (cI, 389, .inl z)), (r2, .inl (cI, 2334, .inl zs))] sz) (fun u : (Nat → Int32) => [(oM, .inr (6, [.int 0, .ref rz, .ref r2, .int (nI (min (km + 1) 6)), .ref rb, .int (nI n), .int tp, .int lf, .int hg, .int wd, .ref rq, .int pm, .int stt, .long hh])), (rz, .inl (cI, 389, .inl (n_figZ z f 0 0 0 0 0))), (r2, .inl (cI, 2334, .inl u))])) (va_A [(oM, .inr (6, [.int th, .ref rz, .ref r2, .int (nI km), .ref rb, .int (nI n), .int tp, .int lf, .int hg, .int wd, .ref rq, .int pm, .int stt, .long hh])), (rz, .inl (cI, 389, .inl z)), (r2, .inl (cI, 2334, .inl zs))] sz)) 0 0 (va_A [(oM, .inr (6, [.int th, .ref rz, .ref r2, .int (nI km), .ref rb, .int (nI n), .int tp, .int lf, .int hg, .int wd, .ref rq, .int pm, .int stt, .long hh])), (rz, .inl (cI, 389, .inl z)), (r2, .inl (cI, 2334, .inl zs))] sz) := by
  refine kq_startM (cc := cX6_drop) (maxL := 4) (ret := (some .int)) (by decide) rfl (Nat.le_of_ble_eq_true rfl) ?_
  intro p e s m below meth c hx hb hr hml hown hlocks hts hsz hA hP hD hS hK hnm ls hl
  subst hsz
  generalize hAe : va_A [(oM, .inr (6, [.int th, .ref rz, .ref r2, .int (nI km), .ref rb, .int (nI n), .int tp, .int lf, .int hg, .int wd, .ref rq, .int pm, .int stt, .long hh])), (rz, .inl (cI, 389, .inl z)), (r2, .inl (cI, 2334, .inl zs))] s.heap.size = A at hA hD hS ⊢
  have hown : s.vm.findClass RX6 = some m.cls := hown
  have hl : lv_has ls 4 [(0, .ref oM), (1, .int (nI f))] := hl
  refine lv_aload_n hx hb dX6_drop_0 rfl (lv_at hl 0 rfl) ?_
  refine lv_iload_n hx hb dX6_drop_1 rfl (lv_at hl 1 rfl) ?_
  refine kq_cS (As := [.int (nI f)]) (rest := [.ref oM]) ⟨hx, hb, hml, hown, hts⟩ (c_X6_isFigure_n l dC dI cI f (by first | assumption | omega)) (va_cwS 1 hts gX6_drop_X6_isFigure rfl rfl rfl (by decide +kernel) ⟨Nat.le_of_ble_eq_true rfl, Nat.le_of_ble_eq_true rfl⟩) (hP.sub [] rfl) hK rfl hl.1 rfl (Nat.le_of_ble_eq_true rfl) dX6_drop_2 ⟨Nat.le_of_ble_eq_true rfl, Nat.le_of_ble_eq_true rfl⟩ ?_
  refine lv_if_eq (tgt := 12) hx hb dX6_drop_5 (by decide) (fun c_1 => ?_) (fun c_1 => ?_)
  · skip
    have c_1 := kq_bf c_1
    exact absurd c_1 (by omega)
  · skip
    have c_1 := kq_bt c_1
    refine lv_iconst (v := 0) hx hb dX6_drop_8 (by decide) ?_
    refine lv_goto (tgt := 13) hx hb dX6_drop_9 (by decide) ?_
    refine va_put (D := (dC, dI)) (ci := 6) (v := .int 0) (ty := .int) (C := RX6) (T := TX6) (N := 14) hx hb hts (by decide +kernel) tyX6 tyX6_ok nmX6 hown hK.1 hP hD hS 0 rfl rfl 0 (by decide) (hts (.fieldLink RX6 22 "NoteWatermarksModel" "thrown" "I") (by decide +kernel)) (fun _ h9 => h9) rfl (by decide +kernel) rfl rfl (Nat.le_of_ble_eq_true rfl) dX6_drop_13 (fun H locs hP hD hS => ?_)
    have hP : va_P (dC, dI) vwCl [(oM, .inr (6, [.int 0, .ref rz, .ref r2, .int (nI km), .ref rb, .int (nI n), .int tp, .int lf, .int hg, .int wd, .ref rq, .int pm, .int stt, .long hh])), (rz, .inl (cI, 389, .inl z)), (r2, .inl (cI, 2334, .inl zs))] H := hP
    have hD : va_D A [(oM, .inr (6, [.int 0, .ref rz, .ref r2, .int (nI km), .ref rb, .int (nI n), .int tp, .int lf, .int hg, .int wd, .ref rq, .int pm, .int stt, .long hh])), (rz, .inl (cI, 389, .inl z)), (r2, .inl (cI, 2334, .inl zs))] := hD
    refine lv_aload_n hx hb dX6_drop_16 rfl (lv_at hl 0 rfl) ?_
    refine va_get (D := (dC, dI)) (ci := 6) (v := .int 0) (C := RX6) (T := TX6) (N := 14) hx hb hts (by decide +kernel) hown hK.1 hP 0 rfl rfl 0 (by decide) (hts (.fieldLink RX6 22 "NoteWatermarksModel" "thrown" "I") (by decide +kernel)) (fun _ h9 => h9) rfl dX6_drop_17 ?_
    refine lv_if_le (tgt := 25) hx hb dX6_drop_20 (by decide) (fun _ => ?_) (fun q => absurd q (by decide))
    refine lv_aload_n hx hb dX6_drop_25 rfl (lv_at hl 0 rfl) ?_
    refine kq_callMv (wr := []) (va_runV (As := []) (rest := []) ⟨hx, hb, hml, hown, hts⟩ (c_X6_save l dC dI cI H.size oM rz r2 rb rq km n 0 tp lf hg wd pm stt hh z zs bf pt v (by first | assumption | omega)) (cwV 0 hts gX6_drop_X6_save rfl rfl rfl (by decide +kernel) ⟨Nat.le_of_ble_eq_true rfl, Nat.le_of_ble_eq_true rfl⟩) (kq_preV (ci := 6) (q0 := 0) (hP.sub [0, 1, 2] rfl) (hD.sub [0, 1, 2] (by decide) rfl) hK rfl rfl) rfl rfl hl.1 rfl (lv_room (Nat.le_of_ble_eq_true rfl)) dX6_drop_26 ⟨Nat.le_of_ble_eq_true rfl, Nat.le_of_ble_eq_true rfl⟩) hP hD hS hA [0, 1, 2] [] rfl rfl (by decide) (by decide) (fun u_4 H locs hw_5 hP hD hS => ?_)
    obtain ⟨ys_6, rfl⟩ : ∃ z, z = u_4 := ⟨_, rfl⟩
    have hP : va_P (dC, dI) vwCl [(oM, .inr (6, [.int 0, .ref rz, .ref r2, .int (nI (min (km + 1) 6)), .ref rb, .int (nI n), .int tp, .int lf, .int hg, .int wd, .ref rq, .int pm, .int stt, .long hh])), (rz, .inl (cI, 389, .inl z)), (r2, .inl (cI, 2334, .inl ys_6))] H := hP
    have hD : va_D A [(oM, .inr (6, [.int 0, .ref rz, .ref r2, .int (nI (min (km + 1) 6)), .ref rb, .int (nI n), .int tp, .int lf, .int hg, .int wd, .ref rq, .int pm, .int stt, .long hh])), (rz, .inl (cI, 389, .inl z)), (r2, .inl (cI, 2334, .inl ys_6))] := hD
    have hsv := hw_5
    refine lv_aload_n hx hb dX6_drop_29 rfl (lv_at hl 0 rfl) ?_
    refine lv_iload_n hx hb dX6_drop_30 rfl (lv_at hl 1 rfl) ?_
    refine lv_iconst (v := 0) hx hb dX6_drop_31 (by decide) ?_
    refine kq_cV (As := [.int (nI f), .int 0]) (rest := []) ⟨hx, hb, hml, hown, hts⟩ (c_X6_of_0 l dC dI cI oM rz r2 rb rq (min (km + 1) 6) n 0 tp lf hg wd pm stt hh z v f (by first | assumption | omega) (by first | assumption | omega)) (cwV 2 hts gX6_drop_X6_of rfl rfl rfl (by decide +kernel) ⟨Nat.le_of_ble_eq_true rfl, Nat.le_of_ble_eq_true rfl⟩) (hP.sub [0, 1] rfl) hK (ci := 6) (q0 := 0) rfl rfl rfl rfl hl.1 rfl (Nat.le_of_ble_eq_true rfl) dX6_drop_32 ⟨Nat.le_of_ble_eq_true rfl, Nat.le_of_ble_eq_true rfl⟩ ?_
    refine lv_istore_n (lv' := [(2, .int (if 0 < n_f v f 2 then (1:Int32) else 0)), (0, .ref oM), (1, .int (nI f))]) hx hb dX6_drop_35 rfl hl (by decide) rfl (fun ls hl => ?_)
    refine lv_iconst (v := 0) hx hb dX6_drop_36 (by decide) ?_
    refine lv_istore_n (lv' := [(3, .int 0), (2, .int (if 0 < n_f v f 2 then (1:Int32) else 0)), (0, .ref oM), (1, .int (nI f))]) hx hb dX6_drop_37 rfl hl (by decide) rfl (fun ls hl => ?_)
    refine kq_loopM2 (A1 := Nat) (A2 := Nat → Int32) (fun (k : Nat) (g : Nat → Int32) => 5 - k) (fun (k : Nat) (g : Nat → Int32) => (k ≤ 5) ∧ (∀ j, g j = if 369 + 5 * f ≤ j ∧ j < 369 + 5 * f + k then 0 else z j)) (fun (k : Nat) (g : Nat → Int32) => [(0, .ref oM), (1, .int (nI f)), (2, .int (if 0 < n_f v f 2 then (1:Int32) else 0)), (3, .int (nI k))]) (fun (k : Nat) (g : Nat → Int32) => [(oM, .inr (6, [.int 0, .ref rz, .ref r2, .int (nI (min (km + 1) 6)), .ref rb, .int (nI n), .int tp, .int lf, .int hg, .int wd, .ref rq, .int pm, .int stt, .long hh])), (rz, .inl (cI, 389, .inl g)), (r2, .inl (cI, 2334, .inl ys_6))]) (nL := 4) hK ?_ 0 z ⟨(by omega), (by intro j; rw [if_neg (by omega)])⟩ hP hD hS _ (lv_sub hl [2, 3, 1, 0] rfl)
    intro k g hi_8 ih_7 H locs hP hD hS ls hl
    obtain ⟨ik, ig⟩ := hi_8
    have hl : lv_has ls 4 [(0, .ref oM), (1, .int (nI f)), (2, .int (if 0 < n_f v f 2 then (1:Int32) else 0)), (3, .int (nI k))] := hl
    have hP : va_P (dC, dI) vwCl [(oM, .inr (6, [.int 0, .ref rz, .ref r2, .int (nI (min (km + 1) 6)), .ref rb, .int (nI n), .int tp, .int lf, .int hg, .int wd, .ref rq, .int pm, .int stt, .long hh])), (rz, .inl (cI, 389, .inl g)), (r2, .inl (cI, 2334, .inl ys_6))] H := hP
    have hD : va_D A [(oM, .inr (6, [.int 0, .ref rz, .ref r2, .int (nI (min (km + 1) 6)), .ref rb, .int (nI n), .int tp, .int lf, .int hg, .int wd, .ref rq, .int pm, .int stt, .long hh])), (rz, .inl (cI, 389, .inl g)), (r2, .inl (cI, 2334, .inl ys_6))] := hD
    refine lv_iload_n hx hb dX6_drop_38 rfl (lv_at hl 3 rfl) ?_
    refine lv_iconst (v := 5) hx hb dX6_drop_39 (by decide) ?_
    refine lv_icmp_ge (tgt := 64) hx hb dX6_drop_40 (by decide) (fun c_9 => ?_) (fun c_9 => ?_)
    · skip
      have c_9 := kq_leN (a := 5) (b := k) c_9 (by omega) (by omega)
      refine lv_iload_n hx hb dX6_drop_64 rfl (lv_at hl 2 rfl) ?_
      have hgg : g = n_figZ z f 0 0 0 0 0 := by funext j; rw [ig j, show k = 5 by omega]; by_cases q : 369 + 5 * f ≤ j ∧ j < 369 + 5 * f + 5; (rw [if_pos q]; obtain ⟨e0, e1, e2, e3, e4⟩ := n_figZ_0 (z := z) (f := f) (b := 0) (d := 0) (h := 0) (w := 0) (t := 0); rcases (show j = 369 + 5 * f ∨ j = 369 + 5 * f + 1 ∨ j = 369 + 5 * f + 2 ∨ j = 369 + 5 * f + 3 ∨ j = 369 + 5 * f + 4 by omega) with rfl | rfl | rfl | rfl | rfl; exact e0.symm; exact e1.symm; exact e2.symm; exact e3.symm; exact e4.symm); (rw [if_neg q, n_figZ_o (by omega)])
      rw [hgg] at hP hD
      have hP : va_P (dC, dI) vwCl [(oM, .inr (6, [.int 0, .ref rz, .ref r2, .int (nI (min (km + 1) 6)), .ref rb, .int (nI n), .int tp, .int lf, .int hg, .int wd, .ref rq, .int pm, .int stt, .long hh])), (rz, .inl (cI, 389, .inl (n_figZ z f 0 0 0 0 0))), (r2, .inl (cI, 2334, .inl ys_6))] H := hP
      have hD : va_D A [(oM, .inr (6, [.int 0, .ref rz, .ref r2, .int (nI (min (km + 1) 6)), .ref rb, .int (nI n), .int tp, .int lf, .int hg, .int wd, .ref rq, .int pm, .int stt, .long hh])), (rz, .inl (cI, 389, .inl (n_figZ z f 0 0 0 0 0))), (r2, .inl (cI, 2334, .inl ys_6))] := hD
      exact kq_retMi (ys_6) hx hb hr hlocks hP hD hS dX6_drop_65 (by exact ⟨rfl, hsv⟩)
    · skip
      have c_9 := kq_nleN (a := 5) (b := k) c_9 (by omega) (by omega)
      refine lv_aload_n hx hb dX6_drop_43 rfl (lv_at hl 0 rfl) ?_
      refine va_get (D := (dC, dI)) (ci := 6) (v := .ref rz) (C := RX6) (T := TX6) (N := 14) hx hb hts (by decide +kernel) hown hK.1 hP 0 rfl rfl 1 (by decide) (hts (.fieldLink RX6 7 "NoteWatermarksModel" "z" "[I") (by decide +kernel)) (fun _ h9 => h9) rfl dX6_drop_44 ?_
      refine lv_sipush (v := 369) hx hb dX6_drop_47 (by decide) ?_
      refine lv_iconst (v := 5) hx hb dX6_drop_50 (by decide) ?_
      refine lv_iload_n hx hb dX6_drop_51 rfl (lv_at hl 1 rfl) ?_
      refine lv_imul hx hb dX6_drop_52 ?_
      refine kq_top (z := nI (5 * f)) (pk_mul 5 f) ?_
      refine lv_iadd hx hb dX6_drop_53 ?_
      refine kq_top (z := nI (369 + (5 * f))) (nI_add 369 (5 * f)) ?_
      refine lv_iload_n hx hb dX6_drop_54 rfl (lv_at hl 3 rfl) ?_
      refine lv_iadd hx hb dX6_drop_55 ?_
      refine kq_top (z := nI ((369 + (5 * f)) + k)) (nI_add (369 + (5 * f)) k) ?_
      refine lv_iconst (v := 0) hx hb dX6_drop_56 (by decide) ?_
      refine va_iast hx hb hK.1 hP hD hS 1 0 rfl rfl (vp_in_nI (show (369 + (5 * f)) + k < 389 from by omega) (by omega)) dX6_drop_57 (fun H locs hP hD hS => ?_)
      rw [nI_clamp (Nat.lt_trans (show (369 + (5 * f)) + k < 389 from by omega) (by omega))] at hP hD
      have hP : va_P (dC, dI) vwCl [(oM, .inr (6, [.int 0, .ref rz, .ref r2, .int (nI (min (km + 1) 6)), .ref rb, .int (nI n), .int tp, .int lf, .int hg, .int wd, .ref rq, .int pm, .int stt, .long hh])), (rz, .inl (cI, 389, .inl (upd g ((369 + (5 * f)) + k) 0))), (r2, .inl (cI, 2334, .inl ys_6))] H := hP
      have hD : va_D A [(oM, .inr (6, [.int 0, .ref rz, .ref r2, .int (nI (min (km + 1) 6)), .ref rb, .int (nI n), .int tp, .int lf, .int hg, .int wd, .ref rq, .int pm, .int stt, .long hh])), (rz, .inl (cI, 389, .inl (upd g ((369 + (5 * f)) + k) 0))), (r2, .inl (cI, 2334, .inl ys_6))] := hD
      refine lv_iinc (v := nI (k + 1)) (lv' := [(3, .int (nI (k + 1))), (0, .ref oM), (1, .int (nI f)), (2, .int (if 0 < n_f v f 2 then (1:Int32) else 0))]) hx hb dX6_drop_58 hl (k := 3) rfl (nI_1 k) (by decide) rfl (fun ls hl => ?_)
      refine lv_goto (tgt := 38) hx hb dX6_drop_61 (by decide) ?_
      exact ih_7 (k + 1) (upd g ((369 + (5 * f)) + k) 0) ⟨(by omega), (by intro j; by_cases q : j = 369 + 5 * f + k; (subst q; rw [pk_us, if_pos (by omega)]); (rw [pk_un q, ig j]; by_cases q2 : 369 + 5 * f ≤ j ∧ j < 369 + 5 * f + k; rw [if_pos q2, if_pos (by omega)]; rw [if_neg q2, if_neg (by omega)]))⟩ (by show 5 - (k + 1) < 5 - k; omega) _ _ hP hD hS _ (lv_sub hl [1, 2, 3, 0] rfl)
set_option maxHeartbeats 4000000 in
set_option maxRecDepth 100000 in
theorem c_X6_set (l : Launch) (dC : Nat → ClassId) (dI : Nat → Nat → Nat) (cI : ClassId) (sz : Nat) (oM : Nat) (rz : Nat) (r2 : Nat) (rb : Nat) (rq : Nat) (km : Nat) (n : Nat) (th : Int32) (tp : Int32) (lf : Int32) (hg : Int32) (wd : Int32) (pm : Int32) (stt : Int32) (hh : Int64) (z : Nat → Int32) (zs : Nat → Int32) (bf : Nat → Int32) (pt : Nat → Int32) (v : Nat → Int32) (k : Nat) (x : Int32) (hkm : km ≤ 6) (hz : n_Z v z) (hk : k < 3) (hx9 : n_lo k ≤ x ∧ x ≤ n_hi k) : Met l yX6_set wsX6_set ({ frames := 1, cells := 0, slots := 0, locals := 22 }) (kq_M dC dI cI [.ref oM, .int (nI k), .int x] sz [(oM, .inr (6, [.int th, .ref rz, .ref r2, .int (nI km), .ref rb, .int (nI n), .int tp, .int lf, .int hg, .int wd, .ref rq, .int pm, .int stt, .long hh])), (rz, .inl (cI, 389, .inl z)), (r2, .inl (cI, 2334, .inl zs))]) (va_Qi (fun (r : Int32) (u : (Nat → Int32)) => r = v (382 + k) ∧ n_sv zs z u km) (kq_B dC dI (va_A [(oM, .inr (6, [.int th, .ref rz, .ref r2, .int (nI km), .ref rb, .int (nI n), .int tp, .int lf, .int hg, .int wd, .ref rq, .int pm, .int stt, .long hh])), (rz, .inl (cI, 389, .inl z)), (r2, .inl (cI, 2334, .inl zs))] sz) (fun u : (Nat → Int32) => [(oM, .inr (6, [.int 0, .ref rz, .ref r2, .int (nI (min (km + 1) 6)), .ref rb, .int (nI n), .int tp, .int lf, .int hg, .int wd, .ref rq, .int pm, .int stt, .long hh])), (rz, .inl (cI, 389, .inl (upd z (0 + k) x))), (r2, .inl (cI, 2334, .inl u))])) (va_A [(oM, .inr (6, [.int th, .ref rz, .ref r2, .int (nI km), .ref rb, .int (nI n), .int tp, .int lf, .int hg, .int wd, .ref rq, .int pm, .int stt, .long hh])), (rz, .inl (cI, 389, .inl z)), (r2, .inl (cI, 2334, .inl zs))] sz)) 0 0 (va_A [(oM, .inr (6, [.int th, .ref rz, .ref r2, .int (nI km), .ref rb, .int (nI n), .int tp, .int lf, .int hg, .int wd, .ref rq, .int pm, .int stt, .long hh])), (rz, .inl (cI, 389, .inl z)), (r2, .inl (cI, 2334, .inl zs))] sz) := by
  refine kq_startM (cc := cX6_set) (maxL := 4) (ret := (some .int)) (by decide) rfl (Nat.le_of_ble_eq_true rfl) ?_
  intro p e s m below meth c hx hb hr hml hown hlocks hts hsz hA hP hD hS hK hnm ls hl
  subst hsz
  generalize hAe : va_A [(oM, .inr (6, [.int th, .ref rz, .ref r2, .int (nI km), .ref rb, .int (nI n), .int tp, .int lf, .int hg, .int wd, .ref rq, .int pm, .int stt, .long hh])), (rz, .inl (cI, 389, .inl z)), (r2, .inl (cI, 2334, .inl zs))] s.heap.size = A at hA hD hS ⊢
  have hown : s.vm.findClass RX6 = some m.cls := hown
  have hl : lv_has ls 4 [(0, .ref oM), (1, .int (nI k)), (2, .int x)] := hl
  refine lv_aload_n hx hb dX6_set_0 rfl (lv_at hl 0 rfl) ?_
  refine lv_iload_n hx hb dX6_set_1 rfl (lv_at hl 1 rfl) ?_
  refine lv_iconst (v := 0) hx hb dX6_set_2 (by decide) ?_
  refine lv_iconst (v := 2) hx hb dX6_set_3 (by decide) ?_
  refine kq_cS (As := [.int (nI k), .int 0, .int 2]) (rest := [.ref oM]) ⟨hx, hb, hml, hown, hts⟩ (c_X6_in_n l dC dI cI k 0 2 (by first | assumption | omega) (by first | assumption | omega) (by first | assumption | omega)) (va_cwS 3 hts gX6_set_X6_in rfl rfl rfl (by decide +kernel) ⟨Nat.le_of_ble_eq_true rfl, Nat.le_of_ble_eq_true rfl⟩) (hP.sub [] rfl) hK rfl hl.1 rfl (Nat.le_of_ble_eq_true rfl) dX6_set_4 ⟨Nat.le_of_ble_eq_true rfl, Nat.le_of_ble_eq_true rfl⟩ ?_
  refine lv_if_ne (tgt := 14) hx hb dX6_set_7 (by decide) (fun c_1 => ?_) (fun c_1 => ?_)
  · skip
    have c_1 := kq_bt c_1
    refine lv_iload_n hx hb dX6_set_14 rfl (lv_at hl 2 rfl) ?_
    refine lv_iload_n hx hb dX6_set_15 rfl (lv_at hl 1 rfl) ?_
    refine kq_cS (As := [.int (nI k)]) (rest := [.int x, .ref oM]) ⟨hx, hb, hml, hown, hts⟩ (c_X6_leastOf l dC dI cI k (by first | assumption | omega)) (va_cwS 1 hts gX6_set_X6_leastOf rfl rfl rfl (by decide +kernel) ⟨Nat.le_of_ble_eq_true rfl, Nat.le_of_ble_eq_true rfl⟩) (hP.sub [] rfl) hK rfl hl.1 rfl (Nat.le_of_ble_eq_true rfl) dX6_set_16 ⟨Nat.le_of_ble_eq_true rfl, Nat.le_of_ble_eq_true rfl⟩ ?_
    refine lv_iload_n hx hb dX6_set_19 rfl (lv_at hl 1 rfl) ?_
    refine kq_cS (As := [.int (nI k)]) (rest := [.int (n_lo k), .int x, .ref oM]) ⟨hx, hb, hml, hown, hts⟩ (c_X6_mostOf l dC dI cI k (by first | assumption | omega)) (va_cwS 1 hts gX6_set_X6_mostOf rfl rfl rfl (by decide +kernel) ⟨Nat.le_of_ble_eq_true rfl, Nat.le_of_ble_eq_true rfl⟩) (hP.sub [] rfl) hK rfl hl.1 rfl (Nat.le_of_ble_eq_true rfl) dX6_set_20 ⟨Nat.le_of_ble_eq_true rfl, Nat.le_of_ble_eq_true rfl⟩ ?_
    refine kq_cS (As := [.int x, .int (n_lo k), .int (n_hi k)]) (rest := [.ref oM]) ⟨hx, hb, hml, hown, hts⟩ (c_X6_in l dC dI cI x (n_lo k) (n_hi k) ) (va_cwS 3 hts gX6_set_X6_in rfl rfl rfl (by decide +kernel) ⟨Nat.le_of_ble_eq_true rfl, Nat.le_of_ble_eq_true rfl⟩) (hP.sub [] rfl) hK rfl hl.1 rfl (Nat.le_of_ble_eq_true rfl) dX6_set_23 ⟨Nat.le_of_ble_eq_true rfl, Nat.le_of_ble_eq_true rfl⟩ ?_
    refine lv_if_eq (tgt := 33) hx hb dX6_set_26 (by decide) (fun c_2 => ?_) (fun c_2 => ?_)
    · skip
      have c_2 := kq_bf c_2
      exact absurd hx9 c_2
    · skip
      have c_2 := kq_bt c_2
      refine lv_iconst (v := 0) hx hb dX6_set_29 (by decide) ?_
      refine lv_goto (tgt := 34) hx hb dX6_set_30 (by decide) ?_
      refine va_put (D := (dC, dI)) (ci := 6) (v := .int 0) (ty := .int) (C := RX6) (T := TX6) (N := 14) hx hb hts (by decide +kernel) tyX6 tyX6_ok nmX6 hown hK.1 hP hD hS 0 rfl rfl 0 (by decide) (hts (.fieldLink RX6 22 "NoteWatermarksModel" "thrown" "I") (by decide +kernel)) (fun _ h9 => h9) rfl (by decide +kernel) rfl rfl (Nat.le_of_ble_eq_true rfl) dX6_set_34 (fun H locs hP hD hS => ?_)
      have hP : va_P (dC, dI) vwCl [(oM, .inr (6, [.int 0, .ref rz, .ref r2, .int (nI km), .ref rb, .int (nI n), .int tp, .int lf, .int hg, .int wd, .ref rq, .int pm, .int stt, .long hh])), (rz, .inl (cI, 389, .inl z)), (r2, .inl (cI, 2334, .inl zs))] H := hP
      have hD : va_D A [(oM, .inr (6, [.int 0, .ref rz, .ref r2, .int (nI km), .ref rb, .int (nI n), .int tp, .int lf, .int hg, .int wd, .ref rq, .int pm, .int stt, .long hh])), (rz, .inl (cI, 389, .inl z)), (r2, .inl (cI, 2334, .inl zs))] := hD
      refine lv_aload_n hx hb dX6_set_37 rfl (lv_at hl 0 rfl) ?_
      refine va_get (D := (dC, dI)) (ci := 6) (v := .int 0) (C := RX6) (T := TX6) (N := 14) hx hb hts (by decide +kernel) hown hK.1 hP 0 rfl rfl 0 (by decide) (hts (.fieldLink RX6 22 "NoteWatermarksModel" "thrown" "I") (by decide +kernel)) (fun _ h9 => h9) rfl dX6_set_38 ?_
      refine lv_if_le (tgt := 46) hx hb dX6_set_41 (by decide) (fun _ => ?_) (fun q => absurd q (by decide))
      refine lv_aload_n hx hb dX6_set_46 rfl (lv_at hl 0 rfl) ?_
      refine kq_callMv (wr := []) (va_runV (As := []) (rest := []) ⟨hx, hb, hml, hown, hts⟩ (c_X6_save l dC dI cI H.size oM rz r2 rb rq km n 0 tp lf hg wd pm stt hh z zs bf pt v (by first | assumption | omega)) (cwV 0 hts gX6_set_X6_save rfl rfl rfl (by decide +kernel) ⟨Nat.le_of_ble_eq_true rfl, Nat.le_of_ble_eq_true rfl⟩) (kq_preV (ci := 6) (q0 := 0) (hP.sub [0, 1, 2] rfl) (hD.sub [0, 1, 2] (by decide) rfl) hK rfl rfl) rfl rfl hl.1 rfl (lv_room (Nat.le_of_ble_eq_true rfl)) dX6_set_47 ⟨Nat.le_of_ble_eq_true rfl, Nat.le_of_ble_eq_true rfl⟩) hP hD hS hA [0, 1, 2] [] rfl rfl (by decide) (by decide) (fun u_5 H locs hw_6 hP hD hS => ?_)
      obtain ⟨ys_7, rfl⟩ : ∃ z, z = u_5 := ⟨_, rfl⟩
      have hP : va_P (dC, dI) vwCl [(oM, .inr (6, [.int 0, .ref rz, .ref r2, .int (nI (min (km + 1) 6)), .ref rb, .int (nI n), .int tp, .int lf, .int hg, .int wd, .ref rq, .int pm, .int stt, .long hh])), (rz, .inl (cI, 389, .inl z)), (r2, .inl (cI, 2334, .inl ys_7))] H := hP
      have hD : va_D A [(oM, .inr (6, [.int 0, .ref rz, .ref r2, .int (nI (min (km + 1) 6)), .ref rb, .int (nI n), .int tp, .int lf, .int hg, .int wd, .ref rq, .int pm, .int stt, .long hh])), (rz, .inl (cI, 389, .inl z)), (r2, .inl (cI, 2334, .inl ys_7))] := hD
      have hsv := hw_6
      refine lv_aload_n hx hb dX6_set_50 rfl (lv_at hl 0 rfl) ?_
      refine va_get (D := (dC, dI)) (ci := 6) (v := .ref rz) (C := RX6) (T := TX6) (N := 14) hx hb hts (by decide +kernel) hown hK.1 hP 0 rfl rfl 1 (by decide) (hts (.fieldLink RX6 7 "NoteWatermarksModel" "z" "[I") (by decide +kernel)) (fun _ h9 => h9) rfl dX6_set_51 ?_
      refine lv_iconst (v := 0) hx hb dX6_set_54 (by decide) ?_
      refine lv_iload_n hx hb dX6_set_55 rfl (lv_at hl 1 rfl) ?_
      refine lv_iadd hx hb dX6_set_56 ?_
      refine kq_top (z := nI (0 + k)) (nI_add 0 k) ?_
      refine va_iald hx hb hK.1 hP 1 0 rfl rfl (vp_in_nI (show 0 + k < 389 from by omega) (by omega)) dX6_set_57 ?_
      refine kq_top (z := z (0 + k)) (congrArg z (nI_clamp (Nat.lt_trans (show 0 + k < 389 from by omega) (by omega)))) ?_
      refine kq_top (z := v (382 + k)) ((congrArg z (Nat.zero_add k)).trans (hz.1 k hk)) ?_
      refine lv_istore_n (lv' := [(3, .int (v (382 + k))), (0, .ref oM), (1, .int (nI k)), (2, .int x)]) hx hb dX6_set_58 rfl hl (by decide) rfl (fun ls hl => ?_)
      refine lv_aload_n hx hb dX6_set_59 rfl (lv_at hl 1 rfl) ?_
      refine va_get (D := (dC, dI)) (ci := 6) (v := .ref rz) (C := RX6) (T := TX6) (N := 14) hx hb hts (by decide +kernel) hown hK.1 hP 0 rfl rfl 1 (by decide) (hts (.fieldLink RX6 7 "NoteWatermarksModel" "z" "[I") (by decide +kernel)) (fun _ h9 => h9) rfl dX6_set_60 ?_
      refine lv_iconst (v := 0) hx hb dX6_set_63 (by decide) ?_
      refine lv_iload_n hx hb dX6_set_64 rfl (lv_at hl 2 rfl) ?_
      refine lv_iadd hx hb dX6_set_65 ?_
      refine kq_top (z := nI (0 + k)) (nI_add 0 k) ?_
      refine lv_iload_n hx hb dX6_set_66 rfl (lv_at hl 3 rfl) ?_
      refine va_iast hx hb hK.1 hP hD hS 1 0 rfl rfl (vp_in_nI (show 0 + k < 389 from by omega) (by omega)) dX6_set_67 (fun H locs hP hD hS => ?_)
      rw [nI_clamp (Nat.lt_trans (show 0 + k < 389 from by omega) (by omega))] at hP hD
      have hP : va_P (dC, dI) vwCl [(oM, .inr (6, [.int 0, .ref rz, .ref r2, .int (nI (min (km + 1) 6)), .ref rb, .int (nI n), .int tp, .int lf, .int hg, .int wd, .ref rq, .int pm, .int stt, .long hh])), (rz, .inl (cI, 389, .inl (upd z (0 + k) x))), (r2, .inl (cI, 2334, .inl ys_7))] H := hP
      have hD : va_D A [(oM, .inr (6, [.int 0, .ref rz, .ref r2, .int (nI (min (km + 1) 6)), .ref rb, .int (nI n), .int tp, .int lf, .int hg, .int wd, .ref rq, .int pm, .int stt, .long hh])), (rz, .inl (cI, 389, .inl (upd z (0 + k) x))), (r2, .inl (cI, 2334, .inl ys_7))] := hD
      refine lv_iload_n hx hb dX6_set_68 rfl (lv_at hl 0 rfl) ?_
      exact kq_retMi (ys_7) hx hb hr hlocks hP hD hS dX6_set_69 (by exact ⟨rfl, hsv⟩)
  · skip
    have c_1 := kq_bf c_1
    exact absurd c_1 (by omega)
set_option maxHeartbeats 4000000 in
set_option maxRecDepth 100000 in
theorem c_X6_append (l : Launch) (dC : Nat → ClassId) (dI : Nat → Nat → Nat) (cI : ClassId) (sz : Nat) (oM : Nat) (rz : Nat) (r2 : Nat) (rb : Nat) (rq : Nat) (km : Nat) (n : Nat) (th : Int32) (tp : Int32) (lf : Int32) (hg : Int32) (wd : Int32) (pm : Int32) (stt : Int32) (hh : Int64) (z : Nat → Int32) (zs : Nat → Int32) (bf : Nat → Int32) (pt : Nat → Int32) (v : Nat → Int32) (x : Int32) (hn : n < 60) (hx9 : 33 ≤ x ∧ x ≤ 126) : Met l yX6_append wsX6_append ({ frames := 1, cells := 0, slots := 0, locals := 22 }) (kq_M dC dI cI [.ref oM, .int x] sz [(oM, .inr (6, [.int th, .ref rz, .ref r2, .int (nI km), .ref rb, .int (nI n), .int tp, .int lf, .int hg, .int wd, .ref rq, .int pm, .int stt, .long hh])), (rb, .inl (cI, 60, .inl bf))]) (va_Qi (fun (r : Int32) (u : Unit) => r = nI (n + 1)) (kq_B dC dI (va_A [(oM, .inr (6, [.int th, .ref rz, .ref r2, .int (nI km), .ref rb, .int (nI n), .int tp, .int lf, .int hg, .int wd, .ref rq, .int pm, .int stt, .long hh])), (rb, .inl (cI, 60, .inl bf))] sz) (fun u : Unit => [(oM, .inr (6, [.int 0, .ref rz, .ref r2, .int (nI km), .ref rb, .int (nI (n + 1)), .int tp, .int lf, .int hg, .int wd, .ref rq, .int pm, .int stt, .long hh])), (rb, .inl (cI, 60, .inl (upd bf n x)))])) (va_A [(oM, .inr (6, [.int th, .ref rz, .ref r2, .int (nI km), .ref rb, .int (nI n), .int tp, .int lf, .int hg, .int wd, .ref rq, .int pm, .int stt, .long hh])), (rb, .inl (cI, 60, .inl bf))] sz)) 0 0 (va_A [(oM, .inr (6, [.int th, .ref rz, .ref r2, .int (nI km), .ref rb, .int (nI n), .int tp, .int lf, .int hg, .int wd, .ref rq, .int pm, .int stt, .long hh])), (rb, .inl (cI, 60, .inl bf))] sz) := by
  refine kq_startM (cc := cX6_append) (maxL := 2) (ret := (some .int)) (by decide) rfl (Nat.le_of_ble_eq_true rfl) ?_
  intro p e s m below meth c hx hb hr hml hown hlocks hts hsz hA hP hD hS hK hnm ls hl
  subst hsz
  generalize hAe : va_A [(oM, .inr (6, [.int th, .ref rz, .ref r2, .int (nI km), .ref rb, .int (nI n), .int tp, .int lf, .int hg, .int wd, .ref rq, .int pm, .int stt, .long hh])), (rb, .inl (cI, 60, .inl bf))] s.heap.size = A at hA hD hS ⊢
  have hown : s.vm.findClass RX6 = some m.cls := hown
  have hl : lv_has ls 2 [(0, .ref oM), (1, .int x)] := hl
  refine lv_aload_n hx hb dX6_append_0 rfl (lv_at hl 0 rfl) ?_
  refine lv_iload_n hx hb dX6_append_1 rfl (lv_at hl 1 rfl) ?_
  refine lv_bipush (v := 33) hx hb dX6_append_2 (by decide) ?_
  refine lv_bipush (v := 126) hx hb dX6_append_4 (by decide) ?_
  refine kq_cS (As := [.int x, .int 33, .int 126]) (rest := [.ref oM]) ⟨hx, hb, hml, hown, hts⟩ (c_X6_in l dC dI cI x 33 126 ) (va_cwS 3 hts gX6_append_X6_in rfl rfl rfl (by decide +kernel) ⟨Nat.le_of_ble_eq_true rfl, Nat.le_of_ble_eq_true rfl⟩) (hP.sub [] rfl) hK rfl hl.1 rfl (Nat.le_of_ble_eq_true rfl) dX6_append_6 ⟨Nat.le_of_ble_eq_true rfl, Nat.le_of_ble_eq_true rfl⟩ ?_
  refine lv_if_ne (tgt := 16) hx hb dX6_append_9 (by decide) (fun c_1 => ?_) (fun c_1 => ?_)
  · skip
    have c_1 := kq_bt c_1
    refine lv_aload_n hx hb dX6_append_16 rfl (lv_at hl 0 rfl) ?_
    refine va_get (D := (dC, dI)) (ci := 6) (v := .int (nI n)) (C := RX6) (T := TX6) (N := 14) hx hb hts (by decide +kernel) hown hK.1 hP 0 rfl rfl 5 (by decide) (hts (.fieldLink RX6 126 "NoteWatermarksModel" "typed" "I") (by decide +kernel)) (fun _ h9 => h9) rfl dX6_append_17 ?_
    refine lv_bipush (v := 60) hx hb dX6_append_20 (by decide) ?_
    refine lv_icmp_ne (tgt := 29) hx hb dX6_append_22 (by decide) (fun c_2 => ?_) (fun c_2 => ?_)
    · skip
      have c_2 := kq_neN (a := n) (b := 60) c_2 (by omega) (by omega)
      refine lv_iconst (v := 0) hx hb dX6_append_29 (by decide) ?_
      refine va_put (D := (dC, dI)) (ci := 6) (v := .int 0) (ty := .int) (C := RX6) (T := TX6) (N := 14) hx hb hts (by decide +kernel) tyX6 tyX6_ok nmX6 hown hK.1 hP hD hS 0 rfl rfl 0 (by decide) (hts (.fieldLink RX6 22 "NoteWatermarksModel" "thrown" "I") (by decide +kernel)) (fun _ h9 => h9) rfl (by decide +kernel) rfl rfl (Nat.le_of_ble_eq_true rfl) dX6_append_30 (fun H locs hP hD hS => ?_)
      have hP : va_P (dC, dI) vwCl [(oM, .inr (6, [.int 0, .ref rz, .ref r2, .int (nI km), .ref rb, .int (nI n), .int tp, .int lf, .int hg, .int wd, .ref rq, .int pm, .int stt, .long hh])), (rb, .inl (cI, 60, .inl bf))] H := hP
      have hD : va_D A [(oM, .inr (6, [.int 0, .ref rz, .ref r2, .int (nI km), .ref rb, .int (nI n), .int tp, .int lf, .int hg, .int wd, .ref rq, .int pm, .int stt, .long hh])), (rb, .inl (cI, 60, .inl bf))] := hD
      refine lv_aload_n hx hb dX6_append_33 rfl (lv_at hl 0 rfl) ?_
      refine va_get (D := (dC, dI)) (ci := 6) (v := .int 0) (C := RX6) (T := TX6) (N := 14) hx hb hts (by decide +kernel) hown hK.1 hP 0 rfl rfl 0 (by decide) (hts (.fieldLink RX6 22 "NoteWatermarksModel" "thrown" "I") (by decide +kernel)) (fun _ h9 => h9) rfl dX6_append_34 ?_
      refine lv_if_le (tgt := 42) hx hb dX6_append_37 (by decide) (fun _ => ?_) (fun q => absurd q (by decide))
      refine lv_aload_n hx hb dX6_append_42 rfl (lv_at hl 0 rfl) ?_
      refine va_get (D := (dC, dI)) (ci := 6) (v := .ref rb) (C := RX6) (T := TX6) (N := 14) hx hb hts (by decide +kernel) hown hK.1 hP 0 rfl rfl 4 (by decide) (hts (.fieldLink RX6 16 "NoteWatermarksModel" "buffer" "[I") (by decide +kernel)) (fun _ h9 => h9) rfl dX6_append_43 ?_
      refine lv_aload_n hx hb dX6_append_46 rfl (lv_at hl 0 rfl) ?_
      refine va_get (D := (dC, dI)) (ci := 6) (v := .int (nI n)) (C := RX6) (T := TX6) (N := 14) hx hb hts (by decide +kernel) hown hK.1 hP 0 rfl rfl 5 (by decide) (hts (.fieldLink RX6 126 "NoteWatermarksModel" "typed" "I") (by decide +kernel)) (fun _ h9 => h9) rfl dX6_append_47 ?_
      refine lv_iload_n hx hb dX6_append_50 rfl (lv_at hl 1 rfl) ?_
      refine va_iast hx hb hK.1 hP hD hS 1 0 rfl rfl (vp_in_nI (show n < 60 from by omega) (by omega)) dX6_append_51 (fun H locs hP hD hS => ?_)
      rw [nI_clamp (Nat.lt_trans (show n < 60 from by omega) (by omega))] at hP hD
      have hP : va_P (dC, dI) vwCl [(oM, .inr (6, [.int 0, .ref rz, .ref r2, .int (nI km), .ref rb, .int (nI n), .int tp, .int lf, .int hg, .int wd, .ref rq, .int pm, .int stt, .long hh])), (rb, .inl (cI, 60, .inl (upd bf n x)))] H := hP
      have hD : va_D A [(oM, .inr (6, [.int 0, .ref rz, .ref r2, .int (nI km), .ref rb, .int (nI n), .int tp, .int lf, .int hg, .int wd, .ref rq, .int pm, .int stt, .long hh])), (rb, .inl (cI, 60, .inl (upd bf n x)))] := hD
      refine lv_aload_n hx hb dX6_append_52 rfl (lv_at hl 0 rfl) ?_
      refine lv_dup hx hb dX6_append_53 rfl ?_
      refine va_get (D := (dC, dI)) (ci := 6) (v := .int (nI n)) (C := RX6) (T := TX6) (N := 14) hx hb hts (by decide +kernel) hown hK.1 hP 0 rfl rfl 5 (by decide) (hts (.fieldLink RX6 126 "NoteWatermarksModel" "typed" "I") (by decide +kernel)) (fun _ h9 => h9) rfl dX6_append_54 ?_
      refine lv_iconst (v := 1) hx hb dX6_append_57 (by decide) ?_
      refine lv_iadd hx hb dX6_append_58 ?_
      refine kq_top (z := nI (n + 1)) (nI_add n 1) ?_
      refine va_put (D := (dC, dI)) (ci := 6) (v := .int (nI (n + 1))) (ty := .int) (C := RX6) (T := TX6) (N := 14) hx hb hts (by decide +kernel) tyX6 tyX6_ok nmX6 hown hK.1 hP hD hS 0 rfl rfl 5 (by decide) (hts (.fieldLink RX6 126 "NoteWatermarksModel" "typed" "I") (by decide +kernel)) (fun _ h9 => h9) rfl (by decide +kernel) rfl rfl (Nat.le_of_ble_eq_true rfl) dX6_append_59 (fun H locs hP hD hS => ?_)
      have hP : va_P (dC, dI) vwCl [(oM, .inr (6, [.int 0, .ref rz, .ref r2, .int (nI km), .ref rb, .int (nI (n + 1)), .int tp, .int lf, .int hg, .int wd, .ref rq, .int pm, .int stt, .long hh])), (rb, .inl (cI, 60, .inl (upd bf n x)))] H := hP
      have hD : va_D A [(oM, .inr (6, [.int 0, .ref rz, .ref r2, .int (nI km), .ref rb, .int (nI (n + 1)), .int tp, .int lf, .int hg, .int wd, .ref rq, .int pm, .int stt, .long hh])), (rb, .inl (cI, 60, .inl (upd bf n x)))] := hD
      refine lv_aload_n hx hb dX6_append_62 rfl (lv_at hl 0 rfl) ?_
      refine va_get (D := (dC, dI)) (ci := 6) (v := .int (nI (n + 1))) (C := RX6) (T := TX6) (N := 14) hx hb hts (by decide +kernel) hown hK.1 hP 0 rfl rfl 5 (by decide) (hts (.fieldLink RX6 126 "NoteWatermarksModel" "typed" "I") (by decide +kernel)) (fun _ h9 => h9) rfl dX6_append_63 ?_
      exact kq_retMi () hx hb hr hlocks hP hD hS dX6_append_66 (by rfl)
    · skip
      have c_2 := kq_eqN (a := n) (b := 60) c_2 (by omega) (by omega)
      exact absurd c_2 (by omega)
  · skip
    have c_1 := kq_bf c_1
    exact absurd hx9 c_1
set_option maxHeartbeats 4000000 in
set_option maxRecDepth 100000 in
theorem c_X6_clearBuffer (l : Launch) (dC : Nat → ClassId) (dI : Nat → Nat → Nat) (cI : ClassId) (sz : Nat) (oM : Nat) (rz : Nat) (r2 : Nat) (rb : Nat) (rq : Nat) (km : Nat) (n : Nat) (th : Int32) (tp : Int32) (lf : Int32) (hg : Int32) (wd : Int32) (pm : Int32) (stt : Int32) (hh : Int64) (z : Nat → Int32) (zs : Nat → Int32) (bf : Nat → Int32) (pt : Nat → Int32) (v : Nat → Int32)  : Met l yX6_clearBuffer wsX6_clearBuffer ({ frames := 0, cells := 0, slots := 0, locals := 0 }) (kq_M dC dI cI [.ref oM] sz [(oM, .inr (6, [.int th, .ref rz, .ref r2, .int (nI km), .ref rb, .int (nI n), .int tp, .int lf, .int hg, .int wd, .ref rq, .int pm, .int stt, .long hh]))]) (va_Qi (fun (r : Int32) (u : Unit) => r = nI n) (kq_B dC dI (va_A [(oM, .inr (6, [.int th, .ref rz, .ref r2, .int (nI km), .ref rb, .int (nI n), .int tp, .int lf, .int hg, .int wd, .ref rq, .int pm, .int stt, .long hh]))] sz) (fun u : Unit => [(oM, .inr (6, [.int 0, .ref rz, .ref r2, .int (nI km), .ref rb, .int (nI 0), .int tp, .int lf, .int hg, .int wd, .ref rq, .int pm, .int stt, .long hh]))])) (va_A [(oM, .inr (6, [.int th, .ref rz, .ref r2, .int (nI km), .ref rb, .int (nI n), .int tp, .int lf, .int hg, .int wd, .ref rq, .int pm, .int stt, .long hh]))] sz)) 0 0 (va_A [(oM, .inr (6, [.int th, .ref rz, .ref r2, .int (nI km), .ref rb, .int (nI n), .int tp, .int lf, .int hg, .int wd, .ref rq, .int pm, .int stt, .long hh]))] sz) := by
  refine kq_startM (cc := cX6_clearBuffer) (maxL := 2) (ret := (some .int)) (by decide) rfl (Nat.le_of_ble_eq_true rfl) ?_
  intro p e s m below meth c hx hb hr hml hown hlocks hts hsz hA hP hD hS hK hnm ls hl
  subst hsz
  generalize hAe : va_A [(oM, .inr (6, [.int th, .ref rz, .ref r2, .int (nI km), .ref rb, .int (nI n), .int tp, .int lf, .int hg, .int wd, .ref rq, .int pm, .int stt, .long hh]))] s.heap.size = A at hA hD hS ⊢
  have hown : s.vm.findClass RX6 = some m.cls := hown
  have hl : lv_has ls 2 [(0, .ref oM)] := hl
  refine lv_aload_n hx hb dX6_clearBuffer_0 rfl (lv_at hl 0 rfl) ?_
  refine lv_iconst (v := 0) hx hb dX6_clearBuffer_1 (by decide) ?_
  refine va_put (D := (dC, dI)) (ci := 6) (v := .int 0) (ty := .int) (C := RX6) (T := TX6) (N := 14) hx hb hts (by decide +kernel) tyX6 tyX6_ok nmX6 hown hK.1 hP hD hS 0 rfl rfl 0 (by decide) (hts (.fieldLink RX6 22 "NoteWatermarksModel" "thrown" "I") (by decide +kernel)) (fun _ h9 => h9) rfl (by decide +kernel) rfl rfl (Nat.le_of_ble_eq_true rfl) dX6_clearBuffer_2 (fun H locs hP hD hS => ?_)
  have hP : va_P (dC, dI) vwCl [(oM, .inr (6, [.int 0, .ref rz, .ref r2, .int (nI km), .ref rb, .int (nI n), .int tp, .int lf, .int hg, .int wd, .ref rq, .int pm, .int stt, .long hh]))] H := hP
  have hD : va_D A [(oM, .inr (6, [.int 0, .ref rz, .ref r2, .int (nI km), .ref rb, .int (nI n), .int tp, .int lf, .int hg, .int wd, .ref rq, .int pm, .int stt, .long hh]))] := hD
  refine lv_aload_n hx hb dX6_clearBuffer_5 rfl (lv_at hl 0 rfl) ?_
  refine va_get (D := (dC, dI)) (ci := 6) (v := .int (nI n)) (C := RX6) (T := TX6) (N := 14) hx hb hts (by decide +kernel) hown hK.1 hP 0 rfl rfl 5 (by decide) (hts (.fieldLink RX6 126 "NoteWatermarksModel" "typed" "I") (by decide +kernel)) (fun _ h9 => h9) rfl dX6_clearBuffer_6 ?_
  refine lv_istore_n (lv' := [(1, .int (nI n)), (0, .ref oM)]) hx hb dX6_clearBuffer_9 rfl hl (by decide) rfl (fun ls hl => ?_)
  refine lv_aload_n hx hb dX6_clearBuffer_10 rfl (lv_at hl 1 rfl) ?_
  refine lv_iconst (v := 0) hx hb dX6_clearBuffer_11 (by decide) ?_
  refine va_put (D := (dC, dI)) (ci := 6) (v := .int 0) (ty := .int) (C := RX6) (T := TX6) (N := 14) hx hb hts (by decide +kernel) tyX6 tyX6_ok nmX6 hown hK.1 hP hD hS 0 rfl rfl 5 (by decide) (hts (.fieldLink RX6 126 "NoteWatermarksModel" "typed" "I") (by decide +kernel)) (fun _ h9 => h9) rfl (by decide +kernel) rfl rfl (Nat.le_of_ble_eq_true rfl) dX6_clearBuffer_12 (fun H locs hP hD hS => ?_)
  have hP : va_P (dC, dI) vwCl [(oM, .inr (6, [.int 0, .ref rz, .ref r2, .int (nI km), .ref rb, .int 0, .int tp, .int lf, .int hg, .int wd, .ref rq, .int pm, .int stt, .long hh]))] H := hP
  have hD : va_D A [(oM, .inr (6, [.int 0, .ref rz, .ref r2, .int (nI km), .ref rb, .int 0, .int tp, .int lf, .int hg, .int wd, .ref rq, .int pm, .int stt, .long hh]))] := hD
  refine lv_iload_n hx hb dX6_clearBuffer_15 rfl (lv_at hl 0 rfl) ?_
  exact kq_retMi () hx hb hr hlocks hP hD hS dX6_clearBuffer_16 (by rfl)
set_option maxHeartbeats 4000000 in
set_option maxRecDepth 100000 in
theorem c_X6_setting (l : Launch) (dC : Nat → ClassId) (dI : Nat → Nat → Nat) (cI : ClassId) (sz : Nat) (oM : Nat) (rz : Nat) (r2 : Nat) (rb : Nat) (rq : Nat) (km : Nat) (n : Nat) (th : Int32) (tp : Int32) (lf : Int32) (hg : Int32) (wd : Int32) (pm : Int32) (stt : Int32) (hh : Int64) (z : Nat → Int32) (zs : Nat → Int32) (bf : Nat → Int32) (pt : Nat → Int32) (v : Nat → Int32) (k : Nat) (hz : n_Z v z) (hk : k < 3) : Met l yX6_setting wsX6_setting ({ frames := 1, cells := 0, slots := 0, locals := 22 }) (kq_M dC dI cI [.ref oM, .int (nI k)] sz [(oM, .inr (6, [.int th, .ref rz, .ref r2, .int (nI km), .ref rb, .int (nI n), .int tp, .int lf, .int hg, .int wd, .ref rq, .int pm, .int stt, .long hh])), (rz, .inl (cI, 389, .inl z))]) (va_Qi (fun (r : Int32) (u : Unit) => r = v (382 + k)) (kq_B dC dI (va_A [(oM, .inr (6, [.int th, .ref rz, .ref r2, .int (nI km), .ref rb, .int (nI n), .int tp, .int lf, .int hg, .int wd, .ref rq, .int pm, .int stt, .long hh])), (rz, .inl (cI, 389, .inl z))] sz) (fun u : Unit => [(oM, .inr (6, [.int 0, .ref rz, .ref r2, .int (nI km), .ref rb, .int (nI n), .int tp, .int lf, .int hg, .int wd, .ref rq, .int pm, .int stt, .long hh])), (rz, .inl (cI, 389, .inl z))])) (va_A [(oM, .inr (6, [.int th, .ref rz, .ref r2, .int (nI km), .ref rb, .int (nI n), .int tp, .int lf, .int hg, .int wd, .ref rq, .int pm, .int stt, .long hh])), (rz, .inl (cI, 389, .inl z))] sz)) 0 0 (va_A [(oM, .inr (6, [.int th, .ref rz, .ref r2, .int (nI km), .ref rb, .int (nI n), .int tp, .int lf, .int hg, .int wd, .ref rq, .int pm, .int stt, .long hh])), (rz, .inl (cI, 389, .inl z))] sz) := by
  refine kq_startM (cc := cX6_setting) (maxL := 2) (ret := (some .int)) (by decide) rfl (Nat.le_of_ble_eq_true rfl) ?_
  intro p e s m below meth c hx hb hr hml hown hlocks hts hsz hA hP hD hS hK hnm ls hl
  subst hsz
  generalize hAe : va_A [(oM, .inr (6, [.int th, .ref rz, .ref r2, .int (nI km), .ref rb, .int (nI n), .int tp, .int lf, .int hg, .int wd, .ref rq, .int pm, .int stt, .long hh])), (rz, .inl (cI, 389, .inl z))] s.heap.size = A at hA hD hS ⊢
  have hown : s.vm.findClass RX6 = some m.cls := hown
  have hl : lv_has ls 2 [(0, .ref oM), (1, .int (nI k))] := hl
  refine lv_aload_n hx hb dX6_setting_0 rfl (lv_at hl 0 rfl) ?_
  refine lv_iload_n hx hb dX6_setting_1 rfl (lv_at hl 1 rfl) ?_
  refine lv_iconst (v := 0) hx hb dX6_setting_2 (by decide) ?_
  refine lv_iconst (v := 2) hx hb dX6_setting_3 (by decide) ?_
  refine kq_cS (As := [.int (nI k), .int 0, .int 2]) (rest := [.ref oM]) ⟨hx, hb, hml, hown, hts⟩ (c_X6_in_n l dC dI cI k 0 2 (by first | assumption | omega) (by first | assumption | omega) (by first | assumption | omega)) (va_cwS 3 hts gX6_setting_X6_in rfl rfl rfl (by decide +kernel) ⟨Nat.le_of_ble_eq_true rfl, Nat.le_of_ble_eq_true rfl⟩) (hP.sub [] rfl) hK rfl hl.1 rfl (Nat.le_of_ble_eq_true rfl) dX6_setting_4 ⟨Nat.le_of_ble_eq_true rfl, Nat.le_of_ble_eq_true rfl⟩ ?_
  refine lv_if_eq (tgt := 14) hx hb dX6_setting_7 (by decide) (fun c_1 => ?_) (fun c_1 => ?_)
  · skip
    have c_1 := kq_bf c_1
    exact absurd c_1 (by omega)
  · skip
    have c_1 := kq_bt c_1
    refine lv_iconst (v := 0) hx hb dX6_setting_10 (by decide) ?_
    refine lv_goto (tgt := 15) hx hb dX6_setting_11 (by decide) ?_
    refine va_put (D := (dC, dI)) (ci := 6) (v := .int 0) (ty := .int) (C := RX6) (T := TX6) (N := 14) hx hb hts (by decide +kernel) tyX6 tyX6_ok nmX6 hown hK.1 hP hD hS 0 rfl rfl 0 (by decide) (hts (.fieldLink RX6 22 "NoteWatermarksModel" "thrown" "I") (by decide +kernel)) (fun _ h9 => h9) rfl (by decide +kernel) rfl rfl (Nat.le_of_ble_eq_true rfl) dX6_setting_15 (fun H locs hP hD hS => ?_)
    have hP : va_P (dC, dI) vwCl [(oM, .inr (6, [.int 0, .ref rz, .ref r2, .int (nI km), .ref rb, .int (nI n), .int tp, .int lf, .int hg, .int wd, .ref rq, .int pm, .int stt, .long hh])), (rz, .inl (cI, 389, .inl z))] H := hP
    have hD : va_D A [(oM, .inr (6, [.int 0, .ref rz, .ref r2, .int (nI km), .ref rb, .int (nI n), .int tp, .int lf, .int hg, .int wd, .ref rq, .int pm, .int stt, .long hh])), (rz, .inl (cI, 389, .inl z))] := hD
    refine lv_aload_n hx hb dX6_setting_18 rfl (lv_at hl 0 rfl) ?_
    refine va_get (D := (dC, dI)) (ci := 6) (v := .int 0) (C := RX6) (T := TX6) (N := 14) hx hb hts (by decide +kernel) hown hK.1 hP 0 rfl rfl 0 (by decide) (hts (.fieldLink RX6 22 "NoteWatermarksModel" "thrown" "I") (by decide +kernel)) (fun _ h9 => h9) rfl dX6_setting_19 ?_
    refine lv_if_le (tgt := 29) hx hb dX6_setting_22 (by decide) (fun _ => ?_) (fun q => absurd q (by decide))
    refine lv_aload_n hx hb dX6_setting_29 rfl (lv_at hl 0 rfl) ?_
    refine va_get (D := (dC, dI)) (ci := 6) (v := .ref rz) (C := RX6) (T := TX6) (N := 14) hx hb hts (by decide +kernel) hown hK.1 hP 0 rfl rfl 1 (by decide) (hts (.fieldLink RX6 7 "NoteWatermarksModel" "z" "[I") (by decide +kernel)) (fun _ h9 => h9) rfl dX6_setting_30 ?_
    refine lv_iconst (v := 0) hx hb dX6_setting_33 (by decide) ?_
    refine lv_iload_n hx hb dX6_setting_34 rfl (lv_at hl 1 rfl) ?_
    refine lv_iadd hx hb dX6_setting_35 ?_
    refine kq_top (z := nI (0 + k)) (nI_add 0 k) ?_
    refine va_iald hx hb hK.1 hP 1 0 rfl rfl (vp_in_nI (show 0 + k < 389 from by omega) (by omega)) dX6_setting_36 ?_
    refine kq_top (z := z (0 + k)) (congrArg z (nI_clamp (Nat.lt_trans (show 0 + k < 389 from by omega) (by omega)))) ?_
    refine kq_top (z := v (382 + k)) ((congrArg z (Nat.zero_add k)).trans (hz.1 k hk)) ?_
    exact kq_retMi () hx hb hr hlocks hP hD hS dX6_setting_37 (by rfl)
