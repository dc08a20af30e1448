set_option maxHeartbeats 4000000 in
set_option maxRecDepth 100000 in
theorem c_X5_isBetween_n (l : Launch) (dC : Nat → ClassId) (dI : Nat → Nat → Nat) (cI : ClassId) (a : Nat) (b : Nat) (d : Nat) (ha : a < 2 ^ 31) (hb9 : b < 2 ^ 31) (hd9 : d < 2 ^ 31) : Met l yX5_isBetween wsX5_isBetween ({ frames := 0, cells := 0, slots := 0, locals := 0 }) (kq_R dC dI cI [.int (nI a), .int (nI b), .int (nI d)] []) (QcRead (if b ≤ a ∧ a ≤ d then (1:Int32) else 0)) 0 0 (fun _ => False) := by
  refine kq_start (cc := cX5_isBetween) (maxL := 3) (ret := (some .boolean)) (plainFor_of_name (by decide)) rfl (Nat.le_of_ble_eq_true rfl) ?_
  intro p e s m below meth c hx hb hr hml hown hlocks hts hP hK ls hl
  have hown : s.vm.findClass RX5 = some m.cls := hown
  have hl : lv_has ls 3 [(0, .int (nI a)), (1, .int (nI b)), (2, .int (nI d))] := hl
  refine lv_iload_n hx hb dX5_isBetween_0 rfl (lv_at hl 0 rfl) ?_
  refine lv_iload_n hx hb dX5_isBetween_1 rfl (lv_at hl 1 rfl) ?_
  refine lv_icmp_lt (tgt := 14) hx hb dX5_isBetween_2 (by decide) (fun c_1 => ?_) (fun c_1 => ?_)
  · skip
    have c_1 := kq_ltN (a := a) (b := b) c_1 (by omega) (by omega)
    refine lv_iconst (v := 0) hx hb dX5_isBetween_14 (by decide) ?_
    exact kq_retz hx hb hr hlocks dX5_isBetween_15 (Or.inl rfl) (by first | rw [if_pos (by omega)] | rw [if_neg (by omega)])
  · skip
    have c_1 := kq_nltN (a := a) (b := b) c_1 (by omega) (by omega)
    refine lv_iload_n hx hb dX5_isBetween_5 rfl (lv_at hl 0 rfl) ?_
    refine lv_iload_n hx hb dX5_isBetween_6 rfl (lv_at hl 2 rfl) ?_
    refine lv_icmp_gt (tgt := 14) hx hb dX5_isBetween_7 (by decide) (fun c_2 => ?_) (fun c_2 => ?_)
    · skip
      have c_2 := kq_ltN (a := d) (b := a) c_2 (by omega) (by omega)
      refine lv_iconst (v := 0) hx hb dX5_isBetween_14 (by decide) ?_
      exact kq_retz hx hb hr hlocks dX5_isBetween_15 (Or.inl rfl) (by first | rw [if_pos (by omega)] | rw [if_neg (by omega)])
    · skip
      have c_2 := kq_nltN (a := d) (b := a) c_2 (by omega) (by omega)
      refine lv_iconst (v := 1) hx hb dX5_isBetween_10 (by decide) ?_
      refine lv_goto (tgt := 15) hx hb dX5_isBetween_11 (by decide) ?_
      exact kq_retz hx hb hr hlocks dX5_isBetween_15 (Or.inr rfl) (by first | rw [if_pos (by omega)] | rw [if_neg (by omega)])
set_option maxHeartbeats 4000000 in
set_option maxRecDepth 100000 in
theorem c_X5_isBetween (l : Launch) (dC : Nat → ClassId) (dI : Nat → Nat → Nat) (cI : ClassId) (x : Int32) (lo : Int32) (up : Int32)  : Met l yX5_isBetween wsX5_isBetween ({ frames := 0, cells := 0, slots := 0, locals := 0 }) (kq_R dC dI cI [.int x, .int lo, .int up] []) (QcRead (if lo ≤ x ∧ x ≤ up then (1:Int32) else 0)) 0 0 (fun _ => False) := by
  refine kq_start (cc := cX5_isBetween) (maxL := 3) (ret := (some .boolean)) (plainFor_of_name (by decide)) rfl (Nat.le_of_ble_eq_true rfl) ?_
  intro p e s m below meth c hx hb hr hml hown hlocks hts hP hK ls hl
  have hown : s.vm.findClass RX5 = some m.cls := hown
  have hl : lv_has ls 3 [(0, .int x), (1, .int lo), (2, .int up)] := hl
  refine lv_iload_n hx hb dX5_isBetween_0 rfl (lv_at hl 0 rfl) ?_
  refine lv_iload_n hx hb dX5_isBetween_1 rfl (lv_at hl 1 rfl) ?_
  refine lv_icmp_lt (tgt := 14) hx hb dX5_isBetween_2 (by decide) (fun c_1 => ?_) (fun c_1 => ?_)
  · skip
    refine lv_iconst (v := 0) hx hb dX5_isBetween_14 (by decide) ?_
    exact kq_retz hx hb hr hlocks dX5_isBetween_15 (Or.inl rfl) (by grind)
  · skip
    refine lv_iload_n hx hb dX5_isBetween_5 rfl (lv_at hl 0 rfl) ?_
    refine lv_iload_n hx hb dX5_isBetween_6 rfl (lv_at hl 2 rfl) ?_
    refine lv_icmp_gt (tgt := 14) hx hb dX5_isBetween_7 (by decide) (fun c_2 => ?_) (fun c_2 => ?_)
    · skip
      refine lv_iconst (v := 0) hx hb dX5_isBetween_14 (by decide) ?_
      exact kq_retz hx hb hr hlocks dX5_isBetween_15 (Or.inl rfl) (by grind)
    · skip
      refine lv_iconst (v := 1) hx hb dX5_isBetween_10 (by decide) ?_
      refine lv_goto (tgt := 15) hx hb dX5_isBetween_11 (by decide) ?_
      exact kq_retz hx hb hr hlocks dX5_isBetween_15 (Or.inr rfl) (by grind)
set_option maxHeartbeats 4000000 in
set_option maxRecDepth 100000 in
theorem c_X5_isIndex_n (l : Launch) (dC : Nat → ClassId) (dI : Nat → Nat → Nat) (cI : ClassId) (a : Nat) (b : Nat) (ha : a < 2 ^ 31) (hb9 : b < 2 ^ 31) : Met l yX5_isIndex wsX5_isIndex ({ frames := 0, cells := 0, slots := 0, locals := 0 }) (kq_R dC dI cI [.int (nI a), .int (nI b)] []) (QcRead (if a < b then (1:Int32) else 0)) 0 0 (fun _ => False) := by
  refine kq_start (cc := cX5_isIndex) (maxL := 2) (ret := (some .boolean)) (plainFor_of_name (by decide)) rfl (Nat.le_of_ble_eq_true rfl) ?_
  intro p e s m below meth c hx hb hr hml hown hlocks hts hP hK ls hl
  have hown : s.vm.findClass RX5 = some m.cls := hown
  have hl : lv_has ls 2 [(0, .int (nI a)), (1, .int (nI b))] := hl
  refine lv_iload_n hx hb dX5_isIndex_0 rfl (lv_at hl 0 rfl) ?_
  refine lv_if_lt (tgt := 13) hx hb dX5_isIndex_1 (by decide) (fun c_1 => ?_) (fun c_1 => ?_)
  · skip
    have c_1 := kq_ltN (a := a) (b := 0) c_1 (by omega) (by omega)
    exact absurd c_1 (by omega)
  · skip
    have c_1 := kq_nltN (a := a) (b := 0) c_1 (by omega) (by omega)
    refine lv_iload_n hx hb dX5_isIndex_4 rfl (lv_at hl 0 rfl) ?_
    refine lv_iload_n hx hb dX5_isIndex_5 rfl (lv_at hl 1 rfl) ?_
    refine lv_icmp_ge (tgt := 13) hx hb dX5_isIndex_6 (by decide) (fun c_2 => ?_) (fun c_2 => ?_)
    · skip
      have c_2 := kq_leN (a := b) (b := a) c_2 (by omega) (by omega)
      refine lv_iconst (v := 0) hx hb dX5_isIndex_13 (by decide) ?_
      exact kq_retz hx hb hr hlocks dX5_isIndex_14 (Or.inl rfl) (by first | rw [if_pos (by omega)] | rw [if_neg (by omega)])
    · skip
      have c_2 := kq_nleN (a := b) (b := a) c_2 (by omega) (by omega)
      refine lv_iconst (v := 1) hx hb dX5_isIndex_9 (by decide) ?_
      refine lv_goto (tgt := 14) hx hb dX5_isIndex_10 (by decide) ?_
      exact kq_retz hx hb hr hlocks dX5_isIndex_14 (Or.inr rfl) (by first | rw [if_pos (by omega)] | rw [if_neg (by omega)])
set_option maxHeartbeats 4000000 in
set_option maxRecDepth 100000 in
theorem c_X5_isIndex (l : Launch) (dC : Nat → ClassId) (dI : Nat → Nat → Nat) (cI : ClassId) (x : Int32) (b : Int32)  : Met l yX5_isIndex wsX5_isIndex ({ frames := 0, cells := 0, slots := 0, locals := 0 }) (kq_R dC dI cI [.int x, .int b] []) (QcRead (if 0 ≤ x ∧ x < b then (1:Int32) else 0)) 0 0 (fun _ => False) := by
  refine kq_start (cc := cX5_isIndex) (maxL := 2) (ret := (some .boolean)) (plainFor_of_name (by decide)) rfl (Nat.le_of_ble_eq_true rfl) ?_
  intro p e s m below meth c hx hb hr hml hown hlocks hts hP hK ls hl
  have hown : s.vm.findClass RX5 = some m.cls := hown
  have hl : lv_has ls 2 [(0, .int x), (1, .int b)] := hl
  refine lv_iload_n hx hb dX5_isIndex_0 rfl (lv_at hl 0 rfl) ?_
  refine lv_if_lt (tgt := 13) hx hb dX5_isIndex_1 (by decide) (fun c_1 => ?_) (fun c_1 => ?_)
  · skip
    refine lv_iconst (v := 0) hx hb dX5_isIndex_13 (by decide) ?_
    exact kq_retz hx hb hr hlocks dX5_isIndex_14 (Or.inl rfl) (by grind)
  · skip
    refine lv_iload_n hx hb dX5_isIndex_4 rfl (lv_at hl 0 rfl) ?_
    refine lv_iload_n hx hb dX5_isIndex_5 rfl (lv_at hl 1 rfl) ?_
    refine lv_icmp_ge (tgt := 13) hx hb dX5_isIndex_6 (by decide) (fun c_2 => ?_) (fun c_2 => ?_)
    · skip
      refine lv_iconst (v := 0) hx hb dX5_isIndex_13 (by decide) ?_
      exact kq_retz hx hb hr hlocks dX5_isIndex_14 (Or.inl rfl) (by grind)
    · skip
      refine lv_iconst (v := 1) hx hb dX5_isIndex_9 (by decide) ?_
      refine lv_goto (tgt := 14) hx hb dX5_isIndex_10 (by decide) ?_
      exact kq_retz hx hb hr hlocks dX5_isIndex_14 (Or.inr rfl) (by grind)
set_option maxHeartbeats 4000000 in
set_option maxRecDepth 100000 in
theorem c_X5_modulo_n (l : Launch) (dC : Nat → ClassId) (dI : Nat → Nat → Nat) (cI : ClassId) (a : Nat) (d : Nat) (ha : a < 2 ^ 31) (hd0 : 0 < d) (hd9 : d < 2 ^ 31) : Met l yX5_modulo wsX5_modulo ({ frames := 0, cells := 0, slots := 0, locals := 0 }) (kq_R dC dI cI [.int (nI a), .int (nI d)] []) (QcRead (nI (a % d))) 0 0 (fun _ => False) := by
  refine kq_start (cc := cX5_modulo) (maxL := 3) (ret := (some .int)) (plainFor_of_name (by decide)) rfl (Nat.le_of_ble_eq_true rfl) ?_
  intro p e s m below meth c hx hb hr hml hown hlocks hts hP hK ls hl
  have hown : s.vm.findClass RX5 = some m.cls := hown
  have hl : lv_has ls 3 [(0, .int (nI a)), (1, .int (nI d))] := hl
  have hmd := Nat.mod_lt a hd0
  refine lv_iload_n hx hb dX5_modulo_0 rfl (lv_at hl 1 rfl) ?_
  refine lv_iconst (v := 1) hx hb dX5_modulo_1 (by decide) ?_
  refine lv_icmp_ge (tgt := 7) hx hb dX5_modulo_2 (by decide) (fun c_1 => ?_) (fun c_1 => ?_)
  · skip
    have c_1 := kq_leN (a := 1) (b := d) c_1 (by omega) (by omega)
    refine lv_iload_n hx hb dX5_modulo_7 rfl (lv_at hl 0 rfl) ?_
    refine lv_iload_n hx hb dX5_modulo_8 rfl (lv_at hl 1 rfl) ?_
    refine lv_irem hx hb dX5_modulo_9 (nI_ne0 (n := d) (by omega) (by omega)) ?_
    refine kq_top (z := nI (a % d)) (pk_rem (a := a) (d := d) (by omega) (by omega) (by omega)) ?_
    refine lv_istore_n (lv' := [(2, .int (nI (a % d))), (0, .int (nI a)), (1, .int (nI d))]) hx hb dX5_modulo_10 rfl hl (by decide) rfl (fun ls hl => ?_)
    refine lv_iload_n hx hb dX5_modulo_11 rfl (lv_at hl 0 rfl) ?_
    refine lv_if_ge (tgt := 21) hx hb dX5_modulo_12 (by decide) (fun c_2 => ?_) (fun c_2 => ?_)
    · skip
      have c_2 := kq_leN (a := 0) (b := (a % d)) c_2 (by omega) (by omega)
      refine lv_iload_n hx hb dX5_modulo_21 rfl (lv_at hl 0 rfl) ?_
      exact kq_ret hx hb hr hlocks dX5_modulo_22 (by rfl)
    · skip
      have c_2 := kq_nleN (a := 0) (b := (a % d)) c_2 (by omega) (by omega)
      exact absurd c_2 (by omega)
  · skip
    have c_1 := kq_nleN (a := 1) (b := d) c_1 (by omega) (by omega)
    exact absurd c_1 (by omega)
set_option maxHeartbeats 4000000 in
set_option maxRecDepth 100000 in
theorem c_X3_wirePlace (l : Launch) (dC : Nat → ClassId) (dI : Nat → Nat → Nat) (cI : ClassId) (a : Nat) (b : Nat) (d : Nat)  : Met l yX3_wirePlace wsX3_wirePlace ({ frames := 0, cells := 0, slots := 0, locals := 0 }) (kq_R dC dI cI [.int (nI a), .int (nI b), .int (nI d)] []) (QcRead (nI ((a * 6 + b) * 16 + d))) 0 0 (fun _ => False) := by
  refine kq_start (cc := cX3_wirePlace) (maxL := 3) (ret := (some .int)) (plainFor_of_name (by decide)) rfl (Nat.le_of_ble_eq_true rfl) ?_
  intro p e s m below meth c hx hb hr hml hown hlocks hts hP hK ls hl
  have hown : s.vm.findClass RX3 = some m.cls := hown
  have hl : lv_has ls 3 [(0, .int (nI a)), (1, .int (nI b)), (2, .int (nI d))] := hl
  refine lv_iload_n hx hb dX3_wirePlace_0 rfl (lv_at hl 0 rfl) ?_
  refine lv_bipush (v := 6) hx hb dX3_wirePlace_1 (by decide) ?_
  refine lv_imul hx hb dX3_wirePlace_3 ?_
  refine kq_top (z := nI (a * 6)) (pk_mul a 6) ?_
  refine lv_iload_n hx hb dX3_wirePlace_4 rfl (lv_at hl 1 rfl) ?_
  refine lv_iadd hx hb dX3_wirePlace_5 ?_
  refine kq_top (z := nI ((a * 6) + b)) (nI_add (a * 6) b) ?_
  refine lv_bipush (v := 16) hx hb dX3_wirePlace_6 (by decide) ?_
  refine lv_imul hx hb dX3_wirePlace_8 ?_
  refine kq_top (z := nI (((a * 6) + b) * 16)) (pk_mul ((a * 6) + b) 16) ?_
  refine lv_iload_n hx hb dX3_wirePlace_9 rfl (lv_at hl 2 rfl) ?_
  refine lv_iadd hx hb dX3_wirePlace_10 ?_
  refine kq_top (z := nI ((((a * 6) + b) * 16) + d)) (nI_add (((a * 6) + b) * 16) d) ?_
  exact kq_ret hx hb hr hlocks dX3_wirePlace_11 (by rfl)
set_option maxHeartbeats 4000000 in
set_option maxRecDepth 100000 in
theorem c_X3_circumferencePlace (l : Launch) (dC : Nat → ClassId) (dI : Nat → Nat → Nat) (cI : ClassId) (a : Nat)  : Met l yX3_circumferencePlace wsX3_circumferencePlace ({ frames := 0, cells := 0, slots := 0, locals := 0 }) (kq_R dC dI cI [.int (nI a)] []) (QcRead (nI (288 + a))) 0 0 (fun _ => False) := by
  refine kq_start (cc := cX3_circumferencePlace) (maxL := 1) (ret := (some .int)) (plainFor_of_name (by decide)) rfl (Nat.le_of_ble_eq_true rfl) ?_
  intro p e s m below meth c hx hb hr hml hown hlocks hts hP hK ls hl
  have hown : s.vm.findClass RX3 = some m.cls := hown
  have hl : lv_has ls 1 [(0, .int (nI a))] := hl
  refine lv_sipush (v := 288) hx hb dX3_circumferencePlace_0 (by decide) ?_
  refine lv_iload_n hx hb dX3_circumferencePlace_3 rfl (lv_at hl 0 rfl) ?_
  refine lv_iadd hx hb dX3_circumferencePlace_4 ?_
  refine kq_top (z := nI (288 + a)) (nI_add 288 a) ?_
  exact kq_ret hx hb hr hlocks dX3_circumferencePlace_5 (by rfl)
set_option maxHeartbeats 4000000 in
set_option maxRecDepth 100000 in
theorem c_X3_phasePlace (l : Launch) (dC : Nat → ClassId) (dI : Nat → Nat → Nat) (cI : ClassId) (a : Nat)  : Met l yX3_phasePlace wsX3_phasePlace ({ frames := 0, cells := 0, slots := 0, locals := 0 }) (kq_R dC dI cI [.int (nI a)] []) (QcRead (nI (291 + a))) 0 0 (fun _ => False) := by
  refine kq_start (cc := cX3_phasePlace) (maxL := 1) (ret := (some .int)) (plainFor_of_name (by decide)) rfl (Nat.le_of_ble_eq_true rfl) ?_
  intro p e s m below meth c hx hb hr hml hown hlocks hts hP hK ls hl
  have hown : s.vm.findClass RX3 = some m.cls := hown
  have hl : lv_has ls 1 [(0, .int (nI a))] := hl
  refine lv_sipush (v := 291) hx hb dX3_phasePlace_0 (by decide) ?_
  refine lv_iload_n hx hb dX3_phasePlace_3 rfl (lv_at hl 0 rfl) ?_
  refine lv_iadd hx hb dX3_phasePlace_4 ?_
  refine kq_top (z := nI (291 + a)) (nI_add 291 a) ?_
  exact kq_ret hx hb hr hlocks dX3_phasePlace_5 (by rfl)
set_option maxHeartbeats 4000000 in
set_option maxRecDepth 100000 in
theorem c_X3_inkPlace (l : Launch) (dC : Nat → ClassId) (dI : Nat → Nat → Nat) (cI : ClassId) (a : Nat) (b : Nat)  : Met l yX3_inkPlace wsX3_inkPlace ({ frames := 0, cells := 0, slots := 0, locals := 0 }) (kq_R dC dI cI [.int (nI a), .int (nI b)] []) (QcRead (nI (294 + a * 12 + b))) 0 0 (fun _ => False) := by
  refine kq_start (cc := cX3_inkPlace) (maxL := 2) (ret := (some .int)) (plainFor_of_name (by decide)) rfl (Nat.le_of_ble_eq_true rfl) ?_
  intro p e s m below meth c hx hb hr hml hown hlocks hts hP hK ls hl
  have hown : s.vm.findClass RX3 = some m.cls := hown
  have hl : lv_has ls 2 [(0, .int (nI a)), (1, .int (nI b))] := hl
  refine lv_sipush (v := 294) hx hb dX3_inkPlace_0 (by decide) ?_
  refine lv_iload_n hx hb dX3_inkPlace_3 rfl (lv_at hl 0 rfl) ?_
  refine lv_bipush (v := 12) hx hb dX3_inkPlace_4 (by decide) ?_
  refine lv_imul hx hb dX3_inkPlace_6 ?_
  refine kq_top (z := nI (a * 12)) (pk_mul a 12) ?_
  refine lv_iadd hx hb dX3_inkPlace_7 ?_
  refine kq_top (z := nI (294 + (a * 12))) (nI_add 294 (a * 12)) ?_
  refine lv_iload_n hx hb dX3_inkPlace_8 rfl (lv_at hl 1 rfl) ?_
  refine lv_iadd hx hb dX3_inkPlace_9 ?_
  refine kq_top (z := nI ((294 + (a * 12)) + b)) (nI_add (294 + (a * 12)) b) ?_
  exact kq_ret hx hb hr hlocks dX3_inkPlace_10 (by rfl)
set_option maxHeartbeats 4000000 in
set_option maxRecDepth 100000 in
theorem c_X3_figurePlace (l : Launch) (dC : Nat → ClassId) (dI : Nat → Nat → Nat) (cI : ClassId) (a : Nat) (b : Nat)  : Met l yX3_figurePlace wsX3_figurePlace ({ frames := 0, cells := 0, slots := 0, locals := 0 }) (kq_R dC dI cI [.int (nI a), .int (nI b)] []) (QcRead (nI (366 + a * 4 + b))) 0 0 (fun _ => False) := by
  refine kq_start (cc := cX3_figurePlace) (maxL := 2) (ret := (some .int)) (plainFor_of_name (by decide)) rfl (Nat.le_of_ble_eq_true rfl) ?_
  intro p e s m below meth c hx hb hr hml hown hlocks hts hP hK ls hl
  have hown : s.vm.findClass RX3 = some m.cls := hown
  have hl : lv_has ls 2 [(0, .int (nI a)), (1, .int (nI b))] := hl
  refine lv_sipush (v := 366) hx hb dX3_figurePlace_0 (by decide) ?_
  refine lv_iload_n hx hb dX3_figurePlace_3 rfl (lv_at hl 0 rfl) ?_
  refine lv_iconst (v := 4) hx hb dX3_figurePlace_4 (by decide) ?_
  refine lv_imul hx hb dX3_figurePlace_5 ?_
  refine kq_top (z := nI (a * 4)) (pk_mul a 4) ?_
  refine lv_iadd hx hb dX3_figurePlace_6 ?_
  refine kq_top (z := nI (366 + (a * 4))) (nI_add 366 (a * 4)) ?_
  refine lv_iload_n hx hb dX3_figurePlace_7 rfl (lv_at hl 1 rfl) ?_
  refine lv_iadd hx hb dX3_figurePlace_8 ?_
  refine kq_top (z := nI ((366 + (a * 4)) + b)) (nI_add (366 + (a * 4)) b) ?_
  exact kq_ret hx hb hr hlocks dX3_figurePlace_9 (by rfl)
set_option maxHeartbeats 4000000 in
set_option maxRecDepth 100000 in
theorem c_X3_settingPlace (l : Launch) (dC : Nat → ClassId) (dI : Nat → Nat → Nat) (cI : ClassId) (a : Nat)  : Met l yX3_settingPlace wsX3_settingPlace ({ frames := 0, cells := 0, slots := 0, locals := 0 }) (kq_R dC dI cI [.int (nI a)] []) (QcRead (nI (382 + a))) 0 0 (fun _ => False) := by
  refine kq_start (cc := cX3_settingPlace) (maxL := 1) (ret := (some .int)) (plainFor_of_name (by decide)) rfl (Nat.le_of_ble_eq_true rfl) ?_
  intro p e s m below meth c hx hb hr hml hown hlocks hts hP hK ls hl
  have hown : s.vm.findClass RX3 = some m.cls := hown
  have hl : lv_has ls 1 [(0, .int (nI a))] := hl
  refine lv_sipush (v := 382) hx hb dX3_settingPlace_0 (by decide) ?_
  refine lv_iload_n hx hb dX3_settingPlace_3 rfl (lv_at hl 0 rfl) ?_
  refine lv_iadd hx hb dX3_settingPlace_4 ?_
  refine kq_top (z := nI (382 + a)) (nI_add 382 a) ?_
  exact kq_ret hx hb hr hlocks dX3_settingPlace_5 (by rfl)
set_option maxHeartbeats 4000000 in
set_option maxRecDepth 100000 in
theorem c_X3_at (l : Launch) (dC : Nat → ClassId) (dI : Nat → Nat → Nat) (cI : ClassId) (oS : Nat) (rv : Nat) (rs : Nat) (cnt : Int32) (v : Nat → Int32) (k : Nat) (hk : k < 385) : Met l yX3_at wsX3_at ({ frames := 0, cells := 0, slots := 0, locals := 0 }) (kq_R dC dI cI [.ref oS, .int (nI k)] [(oS, .inr (3, [.ref rv, .ref rs, .int cnt])), (rv, .inl (cI, 385, .inl v))]) (QcRead (v k)) 0 0 (fun _ => False) := by
  refine kq_start (cc := cX3_at) (maxL := 2) (ret := (some .int)) (plainFor_of_name (by decide)) rfl (Nat.le_of_ble_eq_true rfl) ?_
  intro p e s m below meth c hx hb hr hml hown hlocks hts hP hK ls hl
  have hown : s.vm.findClass RX3 = some m.cls := hown
  have hl : lv_has ls 2 [(0, .ref oS), (1, .int (nI k))] := hl
  refine lv_iload_n hx hb dX3_at_0 rfl (lv_at hl 1 rfl) ?_
  refine lv_if_lt (tgt := 22) hx hb dX3_at_1 (by decide) (fun c_1 => ?_) (fun c_1 => ?_)
  · skip
    have c_1 := kq_ltN (a := k) (b := 0) c_1 (by omega) (by omega)
    exact absurd c_1 (by omega)
  · skip
    have c_1 := kq_nltN (a := k) (b := 0) c_1 (by omega) (by omega)
    refine lv_iload_n hx hb dX3_at_4 rfl (lv_at hl 1 rfl) ?_
    refine lv_aload_n hx hb dX3_at_5 rfl (lv_at hl 0 rfl) ?_
    refine va_get (D := (dC, dI)) (ci := 3) (v := .ref rv) (C := RX3) (T := TX3) (N := 3) hx hb hts (by decide +kernel) hown hK.1 hP 0 rfl rfl 0 (by decide) (hts (.fieldLink RX3 11 "NoteWatermarks$State" "values" "[I") (by decide +kernel)) (fun _ h9 => h9) rfl dX3_at_6 ?_
    refine va_alen (v := 385) hx hb hK.1 hP 1 0 rfl rfl rfl dX3_at_9 ?_
    refine lv_icmp_ge (tgt := 22) hx hb dX3_at_10 (by decide) (fun c_2 => ?_) (fun c_2 => ?_)
    · skip
      have c_2 := kq_leN (a := 385) (b := k) c_2 (by omega) (by omega)
      exact absurd c_2 (by omega)
    · skip
      have c_2 := kq_nleN (a := 385) (b := k) c_2 (by omega) (by omega)
      refine lv_aload_n hx hb dX3_at_13 rfl (lv_at hl 0 rfl) ?_
      refine va_get (D := (dC, dI)) (ci := 3) (v := .ref rv) (C := RX3) (T := TX3) (N := 3) hx hb hts (by decide +kernel) hown hK.1 hP 0 rfl rfl 0 (by decide) (hts (.fieldLink RX3 11 "NoteWatermarks$State" "values" "[I") (by decide +kernel)) (fun _ h9 => h9) rfl dX3_at_14 ?_
      refine lv_iload_n hx hb dX3_at_17 rfl (lv_at hl 1 rfl) ?_
      refine va_iald hx hb hK.1 hP 1 0 rfl rfl (vp_in_nI (show k < 385 from by omega) (by omega)) dX3_at_18 ?_
      refine kq_top (z := v k) (congrArg v (nI_clamp (Nat.lt_trans (show k < 385 from by omega) (by omega)))) ?_
      refine lv_goto (tgt := 23) hx hb dX3_at_19 (by decide) ?_
      exact kq_ret hx hb hr hlocks dX3_at_23 (by rfl)
set_option maxHeartbeats 4000000 in
set_option maxRecDepth 100000 in
theorem c_X3_put (l : Launch) (dC : Nat → ClassId) (dI : Nat → Nat → Nat) (cI : ClassId) (sz : Nat) (oS : Nat) (rv : Nat) (rs : Nat) (cnt : Int32) (v : Nat → Int32) (k : Nat) (x : Int32) (hk : k < 385) : Met l yX3_put wsX3_put ({ frames := 0, cells := 0, slots := 0, locals := 0 }) (kq_M dC dI cI [.ref oS, .int (nI k), .int x] sz [(oS, .inr (3, [.ref rv, .ref rs, .int cnt])), (rv, .inl (cI, 385, .inl v))]) (va_Qv (fun (u : Unit) => True) (kq_B dC dI (va_A [(oS, .inr (3, [.ref rv, .ref rs, .int cnt])), (rv, .inl (cI, 385, .inl v))] sz) (fun u : Unit => [(oS, .inr (3, [.ref rv, .ref rs, .int cnt])), (rv, .inl (cI, 385, .inl (upd v k x)))])) (va_A [(oS, .inr (3, [.ref rv, .ref rs, .int cnt])), (rv, .inl (cI, 385, .inl v))] sz)) 0 0 (va_A [(oS, .inr (3, [.ref rv, .ref rs, .int cnt])), (rv, .inl (cI, 385, .inl v))] sz) := by
  refine kq_startM (cc := cX3_put) (maxL := 3) (ret := none) (by decide) rfl (Nat.le_of_ble_eq_true rfl) ?_
  intro p e s m below meth c hx hb hr hml hown hlocks hts hsz hA hP hD hS hK hnm ls hl
  subst hsz
  generalize hAe : va_A [(oS, .inr (3, [.ref rv, .ref rs, .int cnt])), (rv, .inl (cI, 385, .inl v))] s.heap.size = A at hA hD hS ⊢
  have hown : s.vm.findClass RX3 = some m.cls := hown
  have hl : lv_has ls 3 [(0, .ref oS), (1, .int (nI k)), (2, .int x)] := hl
  refine lv_iload_n hx hb dX3_put_0 rfl (lv_at hl 1 rfl) ?_
  refine lv_if_lt (tgt := 20) hx hb dX3_put_1 (by decide) (fun c_1 => ?_) (fun c_1 => ?_)
  · skip
    have c_1 := kq_ltN (a := k) (b := 0) c_1 (by omega) (by omega)
    exact absurd c_1 (by omega)
  · skip
    have c_1 := kq_nltN (a := k) (b := 0) c_1 (by omega) (by omega)
    refine lv_iload_n hx hb dX3_put_4 rfl (lv_at hl 1 rfl) ?_
    refine lv_aload_n hx hb dX3_put_5 rfl (lv_at hl 0 rfl) ?_
    refine va_get (D := (dC, dI)) (ci := 3) (v := .ref rv) (C := RX3) (T := TX3) (N := 3) hx hb hts (by decide +kernel) hown hK.1 hP 0 rfl rfl 0 (by decide) (hts (.fieldLink RX3 11 "NoteWatermarks$State" "values" "[I") (by decide +kernel)) (fun _ h9 => h9) rfl dX3_put_6 ?_
    refine va_alen (v := 385) hx hb hK.1 hP 1 0 rfl rfl rfl dX3_put_9 ?_
    refine lv_icmp_ge (tgt := 20) hx hb dX3_put_10 (by decide) (fun c_2 => ?_) (fun c_2 => ?_)
    · skip
      have c_2 := kq_leN (a := 385) (b := k) c_2 (by omega) (by omega)
      exact absurd c_2 (by omega)
    · skip
      have c_2 := kq_nleN (a := 385) (b := k) c_2 (by omega) (by omega)
      refine lv_aload_n hx hb dX3_put_13 rfl (lv_at hl 0 rfl) ?_
      refine va_get (D := (dC, dI)) (ci := 3) (v := .ref rv) (C := RX3) (T := TX3) (N := 3) hx hb hts (by decide +kernel) hown hK.1 hP 0 rfl rfl 0 (by decide) (hts (.fieldLink RX3 11 "NoteWatermarks$State" "values" "[I") (by decide +kernel)) (fun _ h9 => h9) rfl dX3_put_14 ?_
      refine lv_iload_n hx hb dX3_put_17 rfl (lv_at hl 1 rfl) ?_
      refine lv_iload_n hx hb dX3_put_18 rfl (lv_at hl 2 rfl) ?_
      refine va_iast hx hb hK.1 hP hD hS 1 0 rfl rfl (vp_in_nI (show k < 385 from by omega) (by omega)) dX3_put_19 (fun H locs hP hD hS => ?_)
      rw [nI_clamp (Nat.lt_trans (show k < 385 from by omega) (by omega))] at hP hD
      have hP : va_P (dC, dI) vwCl [(oS, .inr (3, [.ref rv, .ref rs, .int cnt])), (rv, .inl (cI, 385, .inl (upd v k x)))] H := hP
      have hD : va_D A [(oS, .inr (3, [.ref rv, .ref rs, .int cnt])), (rv, .inl (cI, 385, .inl (upd v k x)))] := hD
      exact kq_retMv () hx hb hr hlocks hP hD hS dX3_put_20 (by trivial)
set_option maxHeartbeats 4000000 in
set_option maxRecDepth 100000 in
theorem c_X3_savedStates (l : Launch) (dC : Nat → ClassId) (dI : Nat → Nat → Nat) (cI : ClassId) (oS : Nat) (rv : Nat) (rs : Nat) (cnt : Int32) (v : Nat → Int32)  : Met l yX3_savedStates wsX3_savedStates ({ frames := 0, cells := 0, slots := 0, locals := 0 }) (kq_R dC dI cI [.ref oS] [(oS, .inr (3, [.ref rv, .ref rs, .int cnt]))]) (QcRead (cnt)) 0 0 (fun _ => False) := by
  refine kq_start (cc := cX3_savedStates) (maxL := 1) (ret := (some .int)) (plainFor_of_name (by decide)) rfl (Nat.le_of_ble_eq_true rfl) ?_
  intro p e s m below meth c hx hb hr hml hown hlocks hts hP hK ls hl
  have hown : s.vm.findClass RX3 = some m.cls := hown
  have hl : lv_has ls 1 [(0, .ref oS)] := hl
  refine lv_aload_n hx hb dX3_savedStates_0 rfl (lv_at hl 0 rfl) ?_
  refine va_get (D := (dC, dI)) (ci := 3) (v := .int cnt) (C := RX3) (T := TX3) (N := 3) hx hb hts (by decide +kernel) hown hK.1 hP 0 rfl rfl 2 (by decide) (hts (.fieldLink RX3 18 "NoteWatermarks$State" "savedCount" "I") (by decide +kernel)) (fun _ h9 => h9) rfl dX3_savedStates_1 ?_
  exact kq_ret hx hb hr hlocks dX3_savedStates_4 (by rfl)
