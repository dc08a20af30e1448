/-! The two that throw. -/
theorem c_X5_needPlace_x (l : Launch) (hls : l.stackTraces = false) (dC : Nat → ClassId) (dI : Nat → Nat → Nat) (cI : ClassId) (s1 s2 s3 s4 sz : Nat) : vx_Met l yX5_needPlace wsX5_needPlace ({ frames := 6, cells := 1, slots := 6, locals := 82 }) (kq_X dC dI cI s1 s2 s3 s4 [.int 0] sz []) kq_no (kq_XC dC dI (fun E => E = "java/lang/IndexOutOfBoundsException") [] (va_A [] sz)) 1 6 (va_A [] sz) := by
  refine kq_startX (cc := cX5_needPlace) (maxL := 1) (ret := none) (by decide) rfl (Nat.le_of_ble_eq_true rfl) ?_
  intro p e s m below meth c hx hb hr hml hown hlocks hts hsz hA hP hD hS hK hnm hnt hT ls hl
  subst hsz
  generalize hAe : va_A [] s.heap.size = A at hA hD hS hT ⊢
  have hown : s.vm.findClass RX5 = some m.cls := hown
  have hl : lv_has ls 1 [(0, .int 0)] := hl
  refine lv_iload_n hx hb dX5_needPlace_0 rfl (lv_at hl 0 rfl) ?_
  refine lv_if_ne (tgt := 15) hx hb dX5_needPlace_1 (by decide) (fun q => absurd rfl q) (fun _ => ?_)
  exact vx_throwSW hx hb hls (own := RX5) (cls := "java/lang/IndexOutOfBoundsException") (text := _) (names := ["java/lang/RuntimeException", "java/lang/Exception"]) (ik := 279) (is := 281) (ic := 283) (sa := s1) (A := A) hown (by decide +kernel) (by decide +kernel)
    (hts _ (by decide +kernel)) (hts _ (by decide +kernel)) hT.2.2.1 (vx_hat (B := [.castable "java/lang/IndexOutOfBoundsException" "java/lang/IndexOutOfBoundsException", .declares (Bundle.initS "java/lang/RuntimeException"), .declares (Bundle.initS "java/lang/Exception"), .declares (Bundle.initS Bundle.tN)]) (fun w h => hts w (List.mem_cons_of_mem _ (List.mem_append_right _ h))) (by decide +kernel) (vx_c (va_Nw.use rfl hT.2.2.2.2.2.2.1) (vx_c (va_Nw.use rfl hT.2.2.2.2.2.2.2.2.2.2.2.1) (vx_c (va_Nw.use rfl hT.2.2.2.2.2.2.2.2.2.2.2.2.1) (vx_c (va_Nw.use rfl hT.2.2.2.2.2.2.2.2.2.2.2.2.2) vx_n))))) (by decide +kernel) hT.1 hT.2.1 hS (hl.1.trans hml.symm) dX5_needPlace_4 dX5_needPlace_7 dX5_needPlace_8 dX5_needPlace_11 dX5_needPlace_14 (fun x hx9 => (hnt x hx9).elim)
    (Nat.le_of_ble_eq_true rfl) (Nat.le_of_ble_eq_true rfl) (Nat.le_of_ble_eq_true rfl) (Nat.le_of_ble_eq_true rfl) hlocks (fun t _ h1 h2 => kq_xc (wl := []) [] hP hD hS hA rfl rfl h1 h2 rfl) hS.2.2 (Nat.le_refl _) (Nat.le_refl _)
theorem c_X5_needArgument_x (l : Launch) (hls : l.stackTraces = false) (dC : Nat → ClassId) (dI : Nat → Nat → Nat) (cI : ClassId) (s1 s2 s3 s4 sz : Nat) : vx_Met l yX5_needArgument wsX5_needArgument ({ frames := 6, cells := 1, slots := 6, locals := 82 }) (kq_X dC dI cI s1 s2 s3 s4 [.int 0] sz []) kq_no (kq_XC dC dI (fun E => E = "java/lang/IllegalArgumentException") [] (va_A [] sz)) 1 6 (va_A [] sz) := by
  refine kq_startX (cc := cX5_needArgument) (maxL := 1) (ret := none) (by decide) rfl (Nat.le_of_ble_eq_true rfl) ?_
  intro p e s m below meth c hx hb hr hml hown hlocks hts hsz hA hP hD hS hK hnm hnt hT ls hl
  subst hsz
  generalize hAe : va_A [] s.heap.size = A at hA hD hS hT ⊢
  have hown : s.vm.findClass RX5 = some m.cls := hown
  have hl : lv_has ls 1 [(0, .int 0)] := hl
  refine lv_iload_n hx hb dX5_needArgument_0 rfl (lv_at hl 0 rfl) ?_
  refine lv_if_ne (tgt := 15) hx hb dX5_needArgument_1 (by decide) (fun q => absurd rfl q) (fun _ => ?_)
  exact vx_throwSW hx hb hls (own := RX5) (cls := "java/lang/IllegalArgumentException") (text := _) (names := ["java/lang/RuntimeException", "java/lang/Exception"]) (ik := 284) (is := 286) (ic := 288) (sa := s2) (A := A) hown (by decide +kernel) (by decide +kernel)
    (hts _ (by decide +kernel)) (hts _ (by decide +kernel)) hT.2.2.2.1 (vx_hat (B := [.castable "java/lang/IllegalArgumentException" "java/lang/IllegalArgumentException", .declares (Bundle.initS "java/lang/RuntimeException"), .declares (Bundle.initS "java/lang/Exception"), .declares (Bundle.initS Bundle.tN)]) (fun w h => hts w (List.mem_cons_of_mem _ (List.mem_append_right _ h))) (by decide +kernel) (vx_c (va_Nw.use rfl hT.2.2.2.2.2.2.2.1) (vx_c (va_Nw.use rfl hT.2.2.2.2.2.2.2.2.2.2.2.1) (vx_c (va_Nw.use rfl hT.2.2.2.2.2.2.2.2.2.2.2.2.1) (vx_c (va_Nw.use rfl hT.2.2.2.2.2.2.2.2.2.2.2.2.2) vx_n))))) (by decide +kernel) hT.1 hT.2.1 hS (hl.1.trans hml.symm) dX5_needArgument_4 dX5_needArgument_7 dX5_needArgument_8 dX5_needArgument_11 dX5_needArgument_14 (fun x hx9 => (hnt x hx9).elim)
    (Nat.le_of_ble_eq_true rfl) (Nat.le_of_ble_eq_true rfl) (Nat.le_of_ble_eq_true rfl) (Nat.le_of_ble_eq_true rfl) hlocks (fun t _ h1 h2 => kq_xc (wl := []) [] hP hD hS hA rfl rfl h1 h2 rfl) hS.2.2 (Nat.le_refl _) (Nat.le_refl _)
