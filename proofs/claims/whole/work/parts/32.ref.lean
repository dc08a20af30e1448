set_option maxHeartbeats 4000000 in
set_option maxRecDepth 100000 in
theorem c_X6_in_n (l : Launch) (dC : Nat → ClassId) (dI : Nat → Nat → Nat) (cI : ClassId) (a : Nat) (b : Nat) (d : Nat) (ha : a < 2 ^ 31) (hb9 : b < 2 ^ 31) (hd9 : d < 2 ^ 31) : Met l yX6_in wsX6_in ({ frames := 0, cells := 0, slots := 0, locals := 0 }) (kq_R dC dI cI [.int (nI a), .int (nI b), .int (nI d)] []) (QcRead (if b ≤ a ∧ a ≤ d then (1:Int32) else 0)) 0 0 (fun _ => False) := by
  refine kq_start (cc := cX6_in) (maxL := 3) (ret := (some .boolean)) (plainFor_of_name (by decide)) rfl (Nat.le_of_ble_eq_true rfl) ?_
  intro p e s m below meth c hx hb hr hml hown hlocks hts hP hK ls hl
  have hown : s.vm.findClass RX6 = some m.cls := hown
  have hl : lv_has ls 3 [(0, .int (nI a)), (1, .int (nI b)), (2, .int (nI d))] := hl
  refine lv_iload_n hx hb dX6_in_0 rfl (lv_at hl 0 rfl) ?_
  refine lv_iload_n hx hb dX6_in_1 rfl (lv_at hl 1 rfl) ?_
  refine lv_icmp_lt (tgt := 14) hx hb dX6_in_2 (by decide) (fun c_1 => ?_) (fun c_1 => ?_)
  · skip
    have c_1 := kq_ltN (a := a) (b := b) c_1 (by omega) (by omega)
    refine lv_iconst (v := 0) hx hb dX6_in_14 (by decide) ?_
    exact kq_retz hx hb hr hlocks dX6_in_15 (Or.inl rfl) (by first | rw [if_pos (by omega)] | rw [if_neg (by omega)])
  · skip
    have c_1 := kq_nltN (a := a) (b := b) c_1 (by omega) (by omega)
    refine lv_iload_n hx hb dX6_in_5 rfl (lv_at hl 0 rfl) ?_
    refine lv_iload_n hx hb dX6_in_6 rfl (lv_at hl 2 rfl) ?_
    refine lv_icmp_gt (tgt := 14) hx hb dX6_in_7 (by decide) (fun c_2 => ?_) (fun c_2 => ?_)
    · skip
      have c_2 := kq_ltN (a := d) (b := a) c_2 (by omega) (by omega)
      refine lv_iconst (v := 0) hx hb dX6_in_14 (by decide) ?_
      exact kq_retz hx hb hr hlocks dX6_in_15 (Or.inl rfl) (by first | rw [if_pos (by omega)] | rw [if_neg (by omega)])
    · skip
      have c_2 := kq_nltN (a := d) (b := a) c_2 (by omega) (by omega)
      refine lv_iconst (v := 1) hx hb dX6_in_10 (by decide) ?_
      refine lv_goto (tgt := 15) hx hb dX6_in_11 (by decide) ?_
      exact kq_retz hx hb hr hlocks dX6_in_15 (Or.inr rfl) (by first | rw [if_pos (by omega)] | rw [if_neg (by omega)])
set_option maxHeartbeats 4000000 in
set_option maxRecDepth 100000 in
theorem c_X6_in (l : Launch) (dC : Nat → ClassId) (dI : Nat → Nat → Nat) (cI : ClassId) (x : Int32) (lo : Int32) (up : Int32)  : Met l yX6_in wsX6_in ({ frames := 0, cells := 0, slots := 0, locals := 0 }) (kq_R dC dI cI [.int x, .int lo, .int up] []) (QcRead (if lo ≤ x ∧ x ≤ up then (1:Int32) else 0)) 0 0 (fun _ => False) := by
  refine kq_start (cc := cX6_in) (maxL := 3) (ret := (some .boolean)) (plainFor_of_name (by decide)) rfl (Nat.le_of_ble_eq_true rfl) ?_
  intro p e s m below meth c hx hb hr hml hown hlocks hts hP hK ls hl
  have hown : s.vm.findClass RX6 = some m.cls := hown
  have hl : lv_has ls 3 [(0, .int x), (1, .int lo), (2, .int up)] := hl
  refine lv_iload_n hx hb dX6_in_0 rfl (lv_at hl 0 rfl) ?_
  refine lv_iload_n hx hb dX6_in_1 rfl (lv_at hl 1 rfl) ?_
  refine lv_icmp_lt (tgt := 14) hx hb dX6_in_2 (by decide) (fun c_1 => ?_) (fun c_1 => ?_)
  · skip
    refine lv_iconst (v := 0) hx hb dX6_in_14 (by decide) ?_
    exact kq_retz hx hb hr hlocks dX6_in_15 (Or.inl rfl) (by grind)
  · skip
    refine lv_iload_n hx hb dX6_in_5 rfl (lv_at hl 0 rfl) ?_
    refine lv_iload_n hx hb dX6_in_6 rfl (lv_at hl 2 rfl) ?_
    refine lv_icmp_gt (tgt := 14) hx hb dX6_in_7 (by decide) (fun c_2 => ?_) (fun c_2 => ?_)
    · skip
      refine lv_iconst (v := 0) hx hb dX6_in_14 (by decide) ?_
      exact kq_retz hx hb hr hlocks dX6_in_15 (Or.inl rfl) (by grind)
    · skip
      refine lv_iconst (v := 1) hx hb dX6_in_10 (by decide) ?_
      refine lv_goto (tgt := 15) hx hb dX6_in_11 (by decide) ?_
      exact kq_retz hx hb hr hlocks dX6_in_15 (Or.inr rfl) (by grind)
set_option maxHeartbeats 4000000 in
set_option maxRecDepth 100000 in
theorem c_X6_isRoll_n (l : Launch) (dC : Nat → ClassId) (dI : Nat → Nat → Nat) (cI : ClassId) (a : Nat) (ha : a < 2 ^ 31) : Met l yX6_isRoll wsX6_isRoll ({ frames := 1, cells := 0, slots := 0, locals := 22 }) (kq_R dC dI cI [.int (nI a)] []) (QcRead (if 0 ≤ a ∧ a ≤ 2 then (1:Int32) else 0)) 0 0 (fun _ => False) := by
  refine kq_start (cc := cX6_isRoll) (maxL := 1) (ret := (some .boolean)) (plainFor_of_name (by decide)) rfl (Nat.le_of_ble_eq_true rfl) ?_
  intro p e s m below meth c hx hb hr hml hown hlocks hts hP hK ls hl
  have hown : s.vm.findClass RX6 = some m.cls := hown
  have hl : lv_has ls 1 [(0, .int (nI a))] := hl
  refine lv_iload_n hx hb dX6_isRoll_0 rfl (lv_at hl 0 rfl) ?_
  refine lv_iconst (v := 0) hx hb dX6_isRoll_1 (by decide) ?_
  refine lv_iconst (v := 2) hx hb dX6_isRoll_2 (by decide) ?_
  refine kq_cS (As := [.int (nI a), .int 0, .int 2]) (rest := []) ⟨hx, hb, hml, hown, hts⟩ (c_X6_in_n l dC dI cI a 0 2 (by first | assumption | omega) (by first | assumption | omega) (by first | assumption | omega)) (va_cwS 3 hts gX6_isRoll_X6_in rfl rfl rfl (by decide +kernel) ⟨Nat.le_of_ble_eq_true rfl, Nat.le_of_ble_eq_true rfl⟩) (hP.sub [] rfl) hK rfl hl.1 rfl (Nat.le_of_ble_eq_true rfl) dX6_isRoll_3 ⟨Nat.le_of_ble_eq_true rfl, Nat.le_of_ble_eq_true rfl⟩ ?_
  exact kq_retz hx hb hr hlocks dX6_isRoll_6 (by first | exact Or.inl rfl | exact Or.inr rfl | (split <;> simp)) (by rfl)
set_option maxHeartbeats 4000000 in
set_option maxRecDepth 100000 in
theorem c_X6_isRoll (l : Launch) (dC : Nat → ClassId) (dI : Nat → Nat → Nat) (cI : ClassId) (x : Int32)  : Met l yX6_isRoll wsX6_isRoll ({ frames := 1, cells := 0, slots := 0, locals := 22 }) (kq_R dC dI cI [.int x] []) (QcRead (if 0 ≤ x ∧ x ≤ 2 then (1:Int32) else 0)) 0 0 (fun _ => False) := by
  refine kq_start (cc := cX6_isRoll) (maxL := 1) (ret := (some .boolean)) (plainFor_of_name (by decide)) rfl (Nat.le_of_ble_eq_true rfl) ?_
  intro p e s m below meth c hx hb hr hml hown hlocks hts hP hK ls hl
  have hown : s.vm.findClass RX6 = some m.cls := hown
  have hl : lv_has ls 1 [(0, .int x)] := hl
  refine lv_iload_n hx hb dX6_isRoll_0 rfl (lv_at hl 0 rfl) ?_
  refine lv_iconst (v := 0) hx hb dX6_isRoll_1 (by decide) ?_
  refine lv_iconst (v := 2) hx hb dX6_isRoll_2 (by decide) ?_
  refine kq_cS (As := [.int x, .int 0, .int 2]) (rest := []) ⟨hx, hb, hml, hown, hts⟩ (c_X6_in l dC dI cI x 0 2 ) (va_cwS 3 hts gX6_isRoll_X6_in rfl rfl rfl (by decide +kernel) ⟨Nat.le_of_ble_eq_true rfl, Nat.le_of_ble_eq_true rfl⟩) (hP.sub [] rfl) hK rfl hl.1 rfl (Nat.le_of_ble_eq_true rfl) dX6_isRoll_3 ⟨Nat.le_of_ble_eq_true rfl, Nat.le_of_ble_eq_true rfl⟩ ?_
  exact kq_retz hx hb hr hlocks dX6_isRoll_6 (by first | exact Or.inl rfl | exact Or.inr rfl | (split <;> simp)) (by rfl)
set_option maxHeartbeats 4000000 in
set_option maxRecDepth 100000 in
theorem c_X6_isFigure_n (l : Launch) (dC : Nat → ClassId) (dI : Nat → Nat → Nat) (cI : ClassId) (a : Nat) (ha : a < 2 ^ 31) : Met l yX6_isFigure wsX6_isFigure ({ frames := 1, cells := 0, slots := 0, locals := 22 }) (kq_R dC dI cI [.int (nI a)] []) (QcRead (if 0 ≤ a ∧ a ≤ 3 then (1:Int32) else 0)) 0 0 (fun _ => False) := by
  refine kq_start (cc := cX6_isFigure) (maxL := 1) (ret := (some .boolean)) (plainFor_of_name (by decide)) rfl (Nat.le_of_ble_eq_true rfl) ?_
  intro p e s m below meth c hx hb hr hml hown hlocks hts hP hK ls hl
  have hown : s.vm.findClass RX6 = some m.cls := hown
  have hl : lv_has ls 1 [(0, .int (nI a))] := hl
  refine lv_iload_n hx hb dX6_isFigure_0 rfl (lv_at hl 0 rfl) ?_
  refine lv_iconst (v := 0) hx hb dX6_isFigure_1 (by decide) ?_
  refine lv_iconst (v := 3) hx hb dX6_isFigure_2 (by decide) ?_
  refine kq_cS (As := [.int (nI a), .int 0, .int 3]) (rest := []) ⟨hx, hb, hml, hown, hts⟩ (c_X6_in_n l dC dI cI a 0 3 (by first | assumption | omega) (by first | assumption | omega) (by first | assumption | omega)) (va_cwS 3 hts gX6_isFigure_X6_in rfl rfl rfl (by decide +kernel) ⟨Nat.le_of_ble_eq_true rfl, Nat.le_of_ble_eq_true rfl⟩) (hP.sub [] rfl) hK rfl hl.1 rfl (Nat.le_of_ble_eq_true rfl) dX6_isFigure_3 ⟨Nat.le_of_ble_eq_true rfl, Nat.le_of_ble_eq_true rfl⟩ ?_
  exact kq_retz hx hb hr hlocks dX6_isFigure_6 (by first | exact Or.inl rfl | exact Or.inr rfl | (split <;> simp)) (by rfl)
set_option maxHeartbeats 4000000 in
set_option maxRecDepth 100000 in
theorem c_X6_isFigure (l : Launch) (dC : Nat → ClassId) (dI : Nat → Nat → Nat) (cI : ClassId) (x : Int32)  : Met l yX6_isFigure wsX6_isFigure ({ frames := 1, cells := 0, slots := 0, locals := 22 }) (kq_R dC dI cI [.int x] []) (QcRead (if 0 ≤ x ∧ x ≤ 3 then (1:Int32) else 0)) 0 0 (fun _ => False) := by
  refine kq_start (cc := cX6_isFigure) (maxL := 1) (ret := (some .boolean)) (plainFor_of_name (by decide)) rfl (Nat.le_of_ble_eq_true rfl) ?_
  intro p e s m below meth c hx hb hr hml hown hlocks hts hP hK ls hl
  have hown : s.vm.findClass RX6 = some m.cls := hown
  have hl : lv_has ls 1 [(0, .int x)] := hl
  refine lv_iload_n hx hb dX6_isFigure_0 rfl (lv_at hl 0 rfl) ?_
  refine lv_iconst (v := 0) hx hb dX6_isFigure_1 (by decide) ?_
  refine lv_iconst (v := 3) hx hb dX6_isFigure_2 (by decide) ?_
  refine kq_cS (As := [.int x, .int 0, .int 3]) (rest := []) ⟨hx, hb, hml, hown, hts⟩ (c_X6_in l dC dI cI x 0 3 ) (va_cwS 3 hts gX6_isFigure_X6_in rfl rfl rfl (by decide +kernel) ⟨Nat.le_of_ble_eq_true rfl, Nat.le_of_ble_eq_true rfl⟩) (hP.sub [] rfl) hK rfl hl.1 rfl (Nat.le_of_ble_eq_true rfl) dX6_isFigure_3 ⟨Nat.le_of_ble_eq_true rfl, Nat.le_of_ble_eq_true rfl⟩ ?_
  exact kq_retz hx hb hr hlocks dX6_isFigure_6 (by first | exact Or.inl rfl | exact Or.inr rfl | (split <;> simp)) (by rfl)
set_option maxHeartbeats 4000000 in
set_option maxRecDepth 100000 in
theorem c_X6_isNote_n (l : Launch) (dC : Nat → ClassId) (dI : Nat → Nat → Nat) (cI : ClassId) (a : Nat) (ha : a < 2 ^ 31) : Met l yX6_isNote wsX6_isNote ({ frames := 1, cells := 0, slots := 0, locals := 22 }) (kq_R dC dI cI [.int (nI a)] []) (QcRead (if 0 ≤ a ∧ a ≤ 999 then (1:Int32) else 0)) 0 0 (fun _ => False) := by
  refine kq_start (cc := cX6_isNote) (maxL := 1) (ret := (some .boolean)) (plainFor_of_name (by decide)) rfl (Nat.le_of_ble_eq_true rfl) ?_
  intro p e s m below meth c hx hb hr hml hown hlocks hts hP hK ls hl
  have hown : s.vm.findClass RX6 = some m.cls := hown
  have hl : lv_has ls 1 [(0, .int (nI a))] := hl
  refine lv_iload_n hx hb dX6_isNote_0 rfl (lv_at hl 0 rfl) ?_
  refine lv_iconst (v := 0) hx hb dX6_isNote_1 (by decide) ?_
  refine lv_sipush (v := 999) hx hb dX6_isNote_2 (by decide) ?_
  refine kq_cS (As := [.int (nI a), .int 0, .int 999]) (rest := []) ⟨hx, hb, hml, hown, hts⟩ (c_X6_in_n l dC dI cI a 0 999 (by first | assumption | omega) (by first | assumption | omega) (by first | assumption | omega)) (va_cwS 3 hts gX6_isNote_X6_in rfl rfl rfl (by decide +kernel) ⟨Nat.le_of_ble_eq_true rfl, Nat.le_of_ble_eq_true rfl⟩) (hP.sub [] rfl) hK rfl hl.1 rfl (Nat.le_of_ble_eq_true rfl) dX6_isNote_5 ⟨Nat.le_of_ble_eq_true rfl, Nat.le_of_ble_eq_true rfl⟩ ?_
  exact kq_retz hx hb hr hlocks dX6_isNote_8 (by first | exact Or.inl rfl | exact Or.inr rfl | (split <;> simp)) (by rfl)
set_option maxHeartbeats 4000000 in
set_option maxRecDepth 100000 in
theorem c_X6_isNote (l : Launch) (dC : Nat → ClassId) (dI : Nat → Nat → Nat) (cI : ClassId) (x : Int32)  : Met l yX6_isNote wsX6_isNote ({ frames := 1, cells := 0, slots := 0, locals := 22 }) (kq_R dC dI cI [.int x] []) (QcRead (if 0 ≤ x ∧ x ≤ 999 then (1:Int32) else 0)) 0 0 (fun _ => False) := by
  refine kq_start (cc := cX6_isNote) (maxL := 1) (ret := (some .boolean)) (plainFor_of_name (by decide)) rfl (Nat.le_of_ble_eq_true rfl) ?_
  intro p e s m below meth c hx hb hr hml hown hlocks hts hP hK ls hl
  have hown : s.vm.findClass RX6 = some m.cls := hown
  have hl : lv_has ls 1 [(0, .int x)] := hl
  refine lv_iload_n hx hb dX6_isNote_0 rfl (lv_at hl 0 rfl) ?_
  refine lv_iconst (v := 0) hx hb dX6_isNote_1 (by decide) ?_
  refine lv_sipush (v := 999) hx hb dX6_isNote_2 (by decide) ?_
  refine kq_cS (As := [.int x, .int 0, .int 999]) (rest := []) ⟨hx, hb, hml, hown, hts⟩ (c_X6_in l dC dI cI x 0 999 ) (va_cwS 3 hts gX6_isNote_X6_in rfl rfl rfl (by decide +kernel) ⟨Nat.le_of_ble_eq_true rfl, Nat.le_of_ble_eq_true rfl⟩) (hP.sub [] rfl) hK rfl hl.1 rfl (Nat.le_of_ble_eq_true rfl) dX6_isNote_5 ⟨Nat.le_of_ble_eq_true rfl, Nat.le_of_ble_eq_true rfl⟩ ?_
  exact kq_retz hx hb hr hlocks dX6_isNote_8 (by first | exact Or.inl rfl | exact Or.inr rfl | (split <;> simp)) (by rfl)
set_option maxHeartbeats 4000000 in
set_option maxRecDepth 100000 in
theorem c_X6_isCell_n (l : Launch) (dC : Nat → ClassId) (dI : Nat → Nat → Nat) (cI : ClassId) (a : Nat) (b : Nat) (ha : a < 2 ^ 31) (hb9 : b < 2 ^ 31) : Met l yX6_isCell wsX6_isCell ({ frames := 1, cells := 0, slots := 0, locals := 22 }) (kq_R dC dI cI [.int (nI a), .int (nI b)] []) (QcRead (if a ≤ 5 ∧ b ≤ 11 then (1:Int32) else 0)) 0 0 (fun _ => False) := by
  refine kq_start (cc := cX6_isCell) (maxL := 2) (ret := (some .boolean)) (plainFor_of_name (by decide)) rfl (Nat.le_of_ble_eq_true rfl) ?_
  intro p e s m below meth c hx hb hr hml hown hlocks hts hP hK ls hl
  have hown : s.vm.findClass RX6 = some m.cls := hown
  have hl : lv_has ls 2 [(0, .int (nI a)), (1, .int (nI b))] := hl
  refine lv_iload_n hx hb dX6_isCell_0 rfl (lv_at hl 0 rfl) ?_
  refine lv_iconst (v := 0) hx hb dX6_isCell_1 (by decide) ?_
  refine lv_iconst (v := 5) hx hb dX6_isCell_2 (by decide) ?_
  refine kq_cS (As := [.int (nI a), .int 0, .int 5]) (rest := []) ⟨hx, hb, hml, hown, hts⟩ (c_X6_in_n l dC dI cI a 0 5 (by first | assumption | omega) (by first | assumption | omega) (by first | assumption | omega)) (va_cwS 3 hts gX6_isCell_X6_in rfl rfl rfl (by decide +kernel) ⟨Nat.le_of_ble_eq_true rfl, Nat.le_of_ble_eq_true rfl⟩) (hP.sub [] rfl) hK rfl hl.1 rfl (Nat.le_of_ble_eq_true rfl) dX6_isCell_3 ⟨Nat.le_of_ble_eq_true rfl, Nat.le_of_ble_eq_true rfl⟩ ?_
  refine lv_if_eq (tgt := 23) hx hb dX6_isCell_6 (by decide) (fun c_1 => ?_) (fun c_1 => ?_)
  · skip
    have c_1 := kq_bf c_1
    refine lv_iconst (v := 0) hx hb dX6_isCell_23 (by decide) ?_
    exact kq_retz hx hb hr hlocks dX6_isCell_24 (Or.inl rfl) (by first | rw [if_pos (by omega)] | rw [if_neg (by omega)])
  · skip
    have c_1 := kq_bt c_1
    refine lv_iload_n hx hb dX6_isCell_9 rfl (lv_at hl 1 rfl) ?_
    refine lv_iconst (v := 0) hx hb dX6_isCell_10 (by decide) ?_
    refine lv_bipush (v := 11) hx hb dX6_isCell_11 (by decide) ?_
    refine kq_cS (As := [.int (nI b), .int 0, .int 11]) (rest := []) ⟨hx, hb, hml, hown, hts⟩ (c_X6_in_n l dC dI cI b 0 11 (by first | assumption | omega) (by first | assumption | omega) (by first | assumption | omega)) (va_cwS 3 hts gX6_isCell_X6_in rfl rfl rfl (by decide +kernel) ⟨Nat.le_of_ble_eq_true rfl, Nat.le_of_ble_eq_true rfl⟩) (hP.sub [] rfl) hK rfl hl.1 rfl (Nat.le_of_ble_eq_true rfl) dX6_isCell_13 ⟨Nat.le_of_ble_eq_true rfl, Nat.le_of_ble_eq_true rfl⟩ ?_
    refine lv_if_eq (tgt := 23) hx hb dX6_isCell_16 (by decide) (fun c_2 => ?_) (fun c_2 => ?_)
    · skip
      have c_2 := kq_bf c_2
      refine lv_iconst (v := 0) hx hb dX6_isCell_23 (by decide) ?_
      exact kq_retz hx hb hr hlocks dX6_isCell_24 (Or.inl rfl) (by first | rw [if_pos (by omega)] | rw [if_neg (by omega)])
    · skip
      have c_2 := kq_bt c_2
      refine lv_iconst (v := 1) hx hb dX6_isCell_19 (by decide) ?_
      refine lv_goto (tgt := 24) hx hb dX6_isCell_20 (by decide) ?_
      exact kq_retz hx hb hr hlocks dX6_isCell_24 (Or.inr rfl) (by first | rw [if_pos (by omega)] | rw [if_neg (by omega)])
set_option maxHeartbeats 4000000 in
set_option maxRecDepth 100000 in
theorem c_X6_isCell (l : Launch) (dC : Nat → ClassId) (dI : Nat → Nat → Nat) (cI : ClassId) (x : Int32) (y : Int32)  : Met l yX6_isCell wsX6_isCell ({ frames := 1, cells := 0, slots := 0, locals := 22 }) (kq_R dC dI cI [.int x, .int y] []) (QcRead (if (0 ≤ x ∧ x ≤ 5) ∧ (0 ≤ y ∧ y ≤ 11) then (1:Int32) else 0)) 0 0 (fun _ => False) := by
  refine kq_start (cc := cX6_isCell) (maxL := 2) (ret := (some .boolean)) (plainFor_of_name (by decide)) rfl (Nat.le_of_ble_eq_true rfl) ?_
  intro p e s m below meth c hx hb hr hml hown hlocks hts hP hK ls hl
  have hown : s.vm.findClass RX6 = some m.cls := hown
  have hl : lv_has ls 2 [(0, .int x), (1, .int y)] := hl
  refine lv_iload_n hx hb dX6_isCell_0 rfl (lv_at hl 0 rfl) ?_
  refine lv_iconst (v := 0) hx hb dX6_isCell_1 (by decide) ?_
  refine lv_iconst (v := 5) hx hb dX6_isCell_2 (by decide) ?_
  refine kq_cS (As := [.int x, .int 0, .int 5]) (rest := []) ⟨hx, hb, hml, hown, hts⟩ (c_X6_in l dC dI cI x 0 5 ) (va_cwS 3 hts gX6_isCell_X6_in rfl rfl rfl (by decide +kernel) ⟨Nat.le_of_ble_eq_true rfl, Nat.le_of_ble_eq_true rfl⟩) (hP.sub [] rfl) hK rfl hl.1 rfl (Nat.le_of_ble_eq_true rfl) dX6_isCell_3 ⟨Nat.le_of_ble_eq_true rfl, Nat.le_of_ble_eq_true rfl⟩ ?_
  refine lv_if_eq (tgt := 23) hx hb dX6_isCell_6 (by decide) (fun c_1 => ?_) (fun c_1 => ?_)
  · skip
    have c_1 := kq_bf c_1
    refine lv_iconst (v := 0) hx hb dX6_isCell_23 (by decide) ?_
    exact kq_retz hx hb hr hlocks dX6_isCell_24 (Or.inl rfl) (by first | rw [if_pos ⟨by assumption, by assumption⟩] | rw [if_neg (fun q => absurd q.1 (by assumption))] | rw [if_neg (fun q => absurd q.2 (by assumption))])
  · skip
    have c_1 := kq_bt c_1
    refine lv_iload_n hx hb dX6_isCell_9 rfl (lv_at hl 1 rfl) ?_
    refine lv_iconst (v := 0) hx hb dX6_isCell_10 (by decide) ?_
    refine lv_bipush (v := 11) hx hb dX6_isCell_11 (by decide) ?_
    refine kq_cS (As := [.int y, .int 0, .int 11]) (rest := []) ⟨hx, hb, hml, hown, hts⟩ (c_X6_in l dC dI cI y 0 11 ) (va_cwS 3 hts gX6_isCell_X6_in rfl rfl rfl (by decide +kernel) ⟨Nat.le_of_ble_eq_true rfl, Nat.le_of_ble_eq_true rfl⟩) (hP.sub [] rfl) hK rfl hl.1 rfl (Nat.le_of_ble_eq_true rfl) dX6_isCell_13 ⟨Nat.le_of_ble_eq_true rfl, Nat.le_of_ble_eq_true rfl⟩ ?_
    refine lv_if_eq (tgt := 23) hx hb dX6_isCell_16 (by decide) (fun c_2 => ?_) (fun c_2 => ?_)
    · skip
      have c_2 := kq_bf c_2
      refine lv_iconst (v := 0) hx hb dX6_isCell_23 (by decide) ?_
      exact kq_retz hx hb hr hlocks dX6_isCell_24 (Or.inl rfl) (by first | rw [if_pos ⟨by assumption, by assumption⟩] | rw [if_neg (fun q => absurd q.1 (by assumption))] | rw [if_neg (fun q => absurd q.2 (by assumption))])
    · skip
      have c_2 := kq_bt c_2
      refine lv_iconst (v := 1) hx hb dX6_isCell_19 (by decide) ?_
      refine lv_goto (tgt := 24) hx hb dX6_isCell_20 (by decide) ?_
      exact kq_retz hx hb hr hlocks dX6_isCell_24 (Or.inr rfl) (by first | rw [if_pos ⟨by assumption, by assumption⟩] | rw [if_neg (fun q => absurd q.1 (by assumption))] | rw [if_neg (fun q => absurd q.2 (by assumption))])
set_option maxHeartbeats 4000000 in
set_option maxRecDepth 100000 in
theorem c_X6_areThere_n (l : Launch) (dC : Nat → ClassId) (dI : Nat → Nat → Nat) (cI : ClassId) (a : Nat) (b : Nat) (h : Nat) (w : Nat) (ha : a ≤ 6) (hb9 : b ≤ 12) (hh9 : h < 2 ^ 31) (hw9 : w < 2 ^ 31) : Met l yX6_areThere wsX6_areThere ({ frames := 1, cells := 0, slots := 0, locals := 22 }) (kq_R dC dI cI [.int (nI a), .int (nI b), .int (nI h), .int (nI w)] []) (QcRead (if (1 ≤ h ∧ h ≤ 6 - a) ∧ (1 ≤ w ∧ w ≤ 12 - b) then (1:Int32) else 0)) 0 0 (fun _ => False) := by
  refine kq_start (cc := cX6_areThere) (maxL := 4) (ret := (some .boolean)) (plainFor_of_name (by decide)) rfl (Nat.le_of_ble_eq_true rfl) ?_
  intro p e s m below meth c hx hb hr hml hown hlocks hts hP hK ls hl
  have hown : s.vm.findClass RX6 = some m.cls := hown
  have hl : lv_has ls 4 [(0, .int (nI a)), (1, .int (nI b)), (2, .int (nI h)), (3, .int (nI w))] := hl
  refine lv_iload_n hx hb dX6_areThere_0 rfl (lv_at hl 2 rfl) ?_
  refine lv_iconst (v := 1) hx hb dX6_areThere_1 (by decide) ?_
  refine lv_bipush (v := 6) hx hb dX6_areThere_2 (by decide) ?_
  refine lv_iload_n hx hb dX6_areThere_4 rfl (lv_at hl 0 rfl) ?_
  refine lv_isub hx hb dX6_areThere_5 ?_
  refine kq_top (z := nI (6 - a)) (pk_sub (a := 6) (b := a) (by omega)) ?_
  refine kq_cS (As := [.int (nI h), .int 1, .int (nI (6 - a))]) (rest := []) ⟨hx, hb, hml, hown, hts⟩ (c_X6_in_n l dC dI cI h 1 (6 - a) (by first | assumption | omega) (by first | assumption | omega) (by first | assumption | omega)) (va_cwS 3 hts gX6_areThere_X6_in rfl rfl rfl (by decide +kernel) ⟨Nat.le_of_ble_eq_true rfl, Nat.le_of_ble_eq_true rfl⟩) (hP.sub [] rfl) hK rfl hl.1 rfl (Nat.le_of_ble_eq_true rfl) dX6_areThere_6 ⟨Nat.le_of_ble_eq_true rfl, Nat.le_of_ble_eq_true rfl⟩ ?_
  refine lv_if_eq (tgt := 28) hx hb dX6_areThere_9 (by decide) (fun c_1 => ?_) (fun c_1 => ?_)
  · skip
    have c_1 := kq_bf c_1
    refine lv_iconst (v := 0) hx hb dX6_areThere_28 (by decide) ?_
    exact kq_retz hx hb hr hlocks dX6_areThere_29 (Or.inl rfl) (by first | rw [if_pos ⟨by assumption, by assumption⟩] | rw [if_neg (fun q => absurd q.1 (by assumption))] | rw [if_neg (fun q => absurd q.2 (by assumption))])
  · skip
    have c_1 := kq_bt c_1
    refine lv_iload_n hx hb dX6_areThere_12 rfl (lv_at hl 3 rfl) ?_
    refine lv_iconst (v := 1) hx hb dX6_areThere_13 (by decide) ?_
    refine lv_bipush (v := 12) hx hb dX6_areThere_14 (by decide) ?_
    refine lv_iload_n hx hb dX6_areThere_16 rfl (lv_at hl 1 rfl) ?_
    refine lv_isub hx hb dX6_areThere_17 ?_
    refine kq_top (z := nI (12 - b)) (pk_sub (a := 12) (b := b) (by omega)) ?_
    refine kq_cS (As := [.int (nI w), .int 1, .int (nI (12 - b))]) (rest := []) ⟨hx, hb, hml, hown, hts⟩ (c_X6_in_n l dC dI cI w 1 (12 - b) (by first | assumption | omega) (by first | assumption | omega) (by first | assumption | omega)) (va_cwS 3 hts gX6_areThere_X6_in rfl rfl rfl (by decide +kernel) ⟨Nat.le_of_ble_eq_true rfl, Nat.le_of_ble_eq_true rfl⟩) (hP.sub [] rfl) hK rfl hl.1 rfl (Nat.le_of_ble_eq_true rfl) dX6_areThere_18 ⟨Nat.le_of_ble_eq_true rfl, Nat.le_of_ble_eq_true rfl⟩ ?_
    refine lv_if_eq (tgt := 28) hx hb dX6_areThere_21 (by decide) (fun c_2 => ?_) (fun c_2 => ?_)
    · skip
      have c_2 := kq_bf c_2
      refine lv_iconst (v := 0) hx hb dX6_areThere_28 (by decide) ?_
      exact kq_retz hx hb hr hlocks dX6_areThere_29 (Or.inl rfl) (by first | rw [if_pos ⟨by assumption, by assumption⟩] | rw [if_neg (fun q => absurd q.1 (by assumption))] | rw [if_neg (fun q => absurd q.2 (by assumption))])
    · skip
      have c_2 := kq_bt c_2
      refine lv_iconst (v := 1) hx hb dX6_areThere_24 (by decide) ?_
      refine lv_goto (tgt := 29) hx hb dX6_areThere_25 (by decide) ?_
      exact kq_retz hx hb hr hlocks dX6_areThere_29 (Or.inr rfl) (by first | rw [if_pos ⟨by assumption, by assumption⟩] | rw [if_neg (fun q => absurd q.1 (by assumption))] | rw [if_neg (fun q => absurd q.2 (by assumption))])
set_option maxHeartbeats 4000000 in
set_option maxRecDepth 100000 in
theorem c_X6_wireAt (l : Launch) (dC : Nat → ClassId) (dI : Nat → Nat → Nat) (cI : ClassId) (oM : Nat) (rz : Nat) (r2 : Nat) (rb : Nat) (rq : Nat) (km : Nat) (n : Nat) (th : Int32) (tp : Int32) (lf : Int32) (hg : Int32) (wd : Int32) (pm : Int32) (stt : Int32) (hh : Int64) (z : Nat → Int32) (v : Nat → Int32) (a : Nat) (b : Nat) (d : Nat) (hz : n_Z v z) (ha : a < 3) (hb9 : b < 6) (hd : d < 16) : Met l yX6_wireAt wsX6_wireAt ({ frames := 0, cells := 0, slots := 0, locals := 0 }) (kq_R dC dI cI [.ref oM, .int (nI a), .int (nI b), .int (nI d)] [(oM, .inr (6, [.int th, .ref rz, .ref r2, .int (nI km), .ref rb, .int (nI n), .int tp, .int lf, .int hg, .int wd, .ref rq, .int pm, .int stt, .long hh])), (rz, .inl (cI, 389, .inl z))]) (QcRead (v ((a * 6 + b) * 16 + d))) 0 0 (fun _ => False) := by
  refine kq_start (cc := cX6_wireAt) (maxL := 4) (ret := (some .int)) (plainFor_of_name (by decide)) rfl (Nat.le_of_ble_eq_true rfl) ?_
  intro p e s m below meth c hx hb hr hml hown hlocks hts hP hK ls hl
  have hown : s.vm.findClass RX6 = some m.cls := hown
  have hl : lv_has ls 4 [(0, .ref oM), (1, .int (nI a)), (2, .int (nI b)), (3, .int (nI d))] := hl
  refine lv_aload_n hx hb dX6_wireAt_0 rfl (lv_at hl 0 rfl) ?_
  refine va_get (D := (dC, dI)) (ci := 6) (v := .ref rz) (C := RX6) (T := TX6) (N := 14) hx hb hts (by decide +kernel) hown hK.1 hP 0 rfl rfl 1 (by decide) (hts (.fieldLink RX6 7 "NoteWatermarksModel" "z" "[I") (by decide +kernel)) (fun _ h9 => h9) rfl dX6_wireAt_1 ?_
  refine lv_bipush (v := 9) hx hb dX6_wireAt_4 (by decide) ?_
  refine lv_bipush (v := 6) hx hb dX6_wireAt_6 (by decide) ?_
  refine lv_iload_n hx hb dX6_wireAt_8 rfl (lv_at hl 1 rfl) ?_
  refine lv_imul hx hb dX6_wireAt_9 ?_
  refine kq_top (z := nI (6 * a)) (pk_mul 6 a) ?_
  refine lv_iload_n hx hb dX6_wireAt_10 rfl (lv_at hl 2 rfl) ?_
  refine lv_iadd hx hb dX6_wireAt_11 ?_
  refine kq_top (z := nI ((6 * a) + b)) (nI_add (6 * a) b) ?_
  refine lv_bipush (v := 16) hx hb dX6_wireAt_12 (by decide) ?_
  refine lv_imul hx hb dX6_wireAt_14 ?_
  refine kq_top (z := nI (((6 * a) + b) * 16)) (pk_mul ((6 * a) + b) 16) ?_
  refine lv_iadd hx hb dX6_wireAt_15 ?_
  refine kq_top (z := nI (9 + (((6 * a) + b) * 16))) (nI_add 9 (((6 * a) + b) * 16)) ?_
  refine lv_iload_n hx hb dX6_wireAt_16 rfl (lv_at hl 3 rfl) ?_
  refine lv_iadd hx hb dX6_wireAt_17 ?_
  refine kq_top (z := nI ((9 + (((6 * a) + b) * 16)) + d)) (nI_add (9 + (((6 * a) + b) * 16)) d) ?_
  refine va_iald hx hb hK.1 hP 1 0 rfl rfl (vp_in_nI (show (9 + (((6 * a) + b) * 16)) + d < 389 from by omega) (by omega)) dX6_wireAt_18 ?_
  refine kq_top (z := z ((9 + (((6 * a) + b) * 16)) + d)) (congrArg z (nI_clamp (Nat.lt_trans (show (9 + (((6 * a) + b) * 16)) + d < 389 from by omega) (by omega)))) ?_
  refine kq_top (z := v ((a * 6 + b) * 16 + d)) ((congrArg z (show 9 + (6 * a + b) * 16 + d = 9 + ((a * 6 + b) * 16 + d) by omega)).trans (hz.2.2.2.1 _ (by omega))) ?_
  exact kq_ret hx hb hr hlocks dX6_wireAt_19 (by rfl)
set_option maxHeartbeats 4000000 in
set_option maxRecDepth 100000 in
theorem c_X6_inkAt (l : Launch) (dC : Nat → ClassId) (dI : Nat → Nat → Nat) (cI : ClassId) (oM : Nat) (rz : Nat) (r2 : Nat) (rb : Nat) (rq : Nat) (km : Nat) (n : Nat) (th : Int32) (tp : Int32) (lf : Int32) (hg : Int32) (wd : Int32) (pm : Int32) (stt : Int32) (hh : Int64) (z : Nat → Int32) (v : Nat → Int32) (a : Nat) (b : Nat) (hz : n_Z v z) (ha : a < 6) (hb9 : b < 12) : Met l yX6_inkAt wsX6_inkAt ({ frames := 0, cells := 0, slots := 0, locals := 0 }) (kq_R dC dI cI [.ref oM, .int (nI a), .int (nI b)] [(oM, .inr (6, [.int th, .ref rz, .ref r2, .int (nI km), .ref rb, .int (nI n), .int tp, .int lf, .int hg, .int wd, .ref rq, .int pm, .int stt, .long hh])), (rz, .inl (cI, 389, .inl z))]) (QcRead (v (294 + a * 12 + b))) 0 0 (fun _ => False) := by
  refine kq_start (cc := cX6_inkAt) (maxL := 3) (ret := (some .int)) (plainFor_of_name (by decide)) rfl (Nat.le_of_ble_eq_true rfl) ?_
  intro p e s m below meth c hx hb hr hml hown hlocks hts hP hK ls hl
  have hown : s.vm.findClass RX6 = some m.cls := hown
  have hl : lv_has ls 3 [(0, .ref oM), (1, .int (nI a)), (2, .int (nI b))] := hl
  refine lv_aload_n hx hb dX6_inkAt_0 rfl (lv_at hl 0 rfl) ?_
  refine va_get (D := (dC, dI)) (ci := 6) (v := .ref rz) (C := RX6) (T := TX6) (N := 14) hx hb hts (by decide +kernel) hown hK.1 hP 0 rfl rfl 1 (by decide) (hts (.fieldLink RX6 7 "NoteWatermarksModel" "z" "[I") (by decide +kernel)) (fun _ h9 => h9) rfl dX6_inkAt_1 ?_
  refine lv_sipush (v := 297) hx hb dX6_inkAt_4 (by decide) ?_
  refine lv_bipush (v := 12) hx hb dX6_inkAt_7 (by decide) ?_
  refine lv_iload_n hx hb dX6_inkAt_9 rfl (lv_at hl 1 rfl) ?_
  refine lv_imul hx hb dX6_inkAt_10 ?_
  refine kq_top (z := nI (12 * a)) (pk_mul 12 a) ?_
  refine lv_iadd hx hb dX6_inkAt_11 ?_
  refine kq_top (z := nI (297 + (12 * a))) (nI_add 297 (12 * a)) ?_
  refine lv_iload_n hx hb dX6_inkAt_12 rfl (lv_at hl 2 rfl) ?_
  refine lv_iadd hx hb dX6_inkAt_13 ?_
  refine kq_top (z := nI ((297 + (12 * a)) + b)) (nI_add (297 + (12 * a)) b) ?_
  refine va_iald hx hb hK.1 hP 1 0 rfl rfl (vp_in_nI (show (297 + (12 * a)) + b < 389 from by omega) (by omega)) dX6_inkAt_14 ?_
  refine kq_top (z := z ((297 + (12 * a)) + b)) (congrArg z (nI_clamp (Nat.lt_trans (show (297 + (12 * a)) + b < 389 from by omega) (by omega)))) ?_
  refine kq_top (z := v (294 + a * 12 + b)) ((congrArg z (show 297 + 12 * a + b = 297 + (a * 12 + b) by omega)).trans ((hz.2.2.2.2.1 _ (by omega)).trans (congrArg v (by omega)))) ?_
  exact kq_ret hx hb hr hlocks dX6_inkAt_15 (by rfl)
set_option maxHeartbeats 4000000 in
set_option maxRecDepth 100000 in
theorem c_X6_of_0 (l : Launch) (dC : Nat → ClassId) (dI : Nat → Nat → Nat) (cI : ClassId) (oM : Nat) (rz : Nat) (r2 : Nat) (rb : Nat) (rq : Nat) (km : Nat) (n : Nat) (th : Int32) (tp : Int32) (lf : Int32) (hg : Int32) (wd : Int32) (pm : Int32) (stt : Int32) (hh : Int64) (z : Nat → Int32) (v : Nat → Int32) (f : Nat) (hz : n_Z v z) (hf : f < 4) : Met l yX6_of wsX6_of ({ frames := 0, cells := 0, slots := 0, locals := 0 }) (kq_R dC dI cI [.ref oM, .int (nI f), .int 0] [(oM, .inr (6, [.int th, .ref rz, .ref r2, .int (nI km), .ref rb, .int (nI n), .int tp, .int lf, .int hg, .int wd, .ref rq, .int pm, .int stt, .long hh])), (rz, .inl (cI, 389, .inl z))]) (QcRead (if 0 < n_f v f 2 then (1:Int32) else 0)) 0 0 (fun _ => False) := by
  refine kq_start (cc := cX6_of) (maxL := 3) (ret := (some .int)) (plainFor_of_name (by decide)) rfl (Nat.le_of_ble_eq_true rfl) ?_
  intro p e s m below meth c hx hb hr hml hown hlocks hts hP hK ls hl
  have hown : s.vm.findClass RX6 = some m.cls := hown
  have hl : lv_has ls 3 [(0, .ref oM), (1, .int (nI f)), (2, .int 0)] := hl
  refine lv_aload_n hx hb dX6_of_0 rfl (lv_at hl 0 rfl) ?_
  refine va_get (D := (dC, dI)) (ci := 6) (v := .ref rz) (C := RX6) (T := TX6) (N := 14) hx hb hts (by decide +kernel) hown hK.1 hP 0 rfl rfl 1 (by decide) (hts (.fieldLink RX6 7 "NoteWatermarksModel" "z" "[I") (by decide +kernel)) (fun _ h9 => h9) rfl dX6_of_1 ?_
  refine lv_sipush (v := 369) hx hb dX6_of_4 (by decide) ?_
  refine lv_iconst (v := 5) hx hb dX6_of_7 (by decide) ?_
  refine lv_iload_n hx hb dX6_of_8 rfl (lv_at hl 1 rfl) ?_
  refine lv_imul hx hb dX6_of_9 ?_
  refine kq_top (z := nI (5 * f)) (pk_mul 5 f) ?_
  refine lv_iadd hx hb dX6_of_10 ?_
  refine kq_top (z := nI (369 + (5 * f))) (nI_add 369 (5 * f)) ?_
  refine lv_iload_n hx hb dX6_of_11 rfl (lv_at hl 2 rfl) ?_
  refine lv_iadd hx hb dX6_of_12 ?_
  refine kq_top (z := nI ((369 + (5 * f)) + 0)) (nI_add (369 + (5 * f)) 0) ?_
  refine va_iald hx hb hK.1 hP 1 0 rfl rfl (vp_in_nI (show (369 + (5 * f)) + 0 < 389 from by omega) (by omega)) dX6_of_13 ?_
  refine kq_top (z := z ((369 + (5 * f)) + 0)) (congrArg z (nI_clamp (Nat.lt_trans (show (369 + (5 * f)) + 0 < 389 from by omega) (by omega)))) ?_
  refine kq_top (z := if 0 < n_f v f 2 then (1:Int32) else 0) ((hz.2.2.2.2.2 f hf).1) ?_
  exact kq_ret hx hb hr hlocks dX6_of_14 (by rfl)
set_option maxHeartbeats 4000000 in
set_option maxRecDepth 100000 in
theorem c_X6_of_1 (l : Launch) (dC : Nat → ClassId) (dI : Nat → Nat → Nat) (cI : ClassId) (oM : Nat) (rz : Nat) (r2 : Nat) (rb : Nat) (rq : Nat) (km : Nat) (n : Nat) (th : Int32) (tp : Int32) (lf : Int32) (hg : Int32) (wd : Int32) (pm : Int32) (stt : Int32) (hh : Int64) (z : Nat → Int32) (v : Nat → Int32) (f : Nat) (hz : n_Z v z) (hI : n_I v) (hf : f < 4) : Met l yX6_of wsX6_of ({ frames := 0, cells := 0, slots := 0, locals := 0 }) (kq_R dC dI cI [.ref oM, .int (nI f), .int 1] [(oM, .inr (6, [.int th, .ref rz, .ref r2, .int (nI km), .ref rb, .int (nI n), .int tp, .int lf, .int hg, .int wd, .ref rq, .int pm, .int stt, .long hh])), (rz, .inl (cI, 389, .inl z))]) (QcRead (nI (n_f v f 0))) 0 0 (fun _ => False) := by
  refine kq_start (cc := cX6_of) (maxL := 3) (ret := (some .int)) (plainFor_of_name (by decide)) rfl (Nat.le_of_ble_eq_true rfl) ?_
  intro p e s m below meth c hx hb hr hml hown hlocks hts hP hK ls hl
  have hown : s.vm.findClass RX6 = some m.cls := hown
  have hl : lv_has ls 3 [(0, .ref oM), (1, .int (nI f)), (2, .int 1)] := hl
  refine lv_aload_n hx hb dX6_of_0 rfl (lv_at hl 0 rfl) ?_
  refine va_get (D := (dC, dI)) (ci := 6) (v := .ref rz) (C := RX6) (T := TX6) (N := 14) hx hb hts (by decide +kernel) hown hK.1 hP 0 rfl rfl 1 (by decide) (hts (.fieldLink RX6 7 "NoteWatermarksModel" "z" "[I") (by decide +kernel)) (fun _ h9 => h9) rfl dX6_of_1 ?_
  refine lv_sipush (v := 369) hx hb dX6_of_4 (by decide) ?_
  refine lv_iconst (v := 5) hx hb dX6_of_7 (by decide) ?_
  refine lv_iload_n hx hb dX6_of_8 rfl (lv_at hl 1 rfl) ?_
  refine lv_imul hx hb dX6_of_9 ?_
  refine kq_top (z := nI (5 * f)) (pk_mul 5 f) ?_
  refine lv_iadd hx hb dX6_of_10 ?_
  refine kq_top (z := nI (369 + (5 * f))) (nI_add 369 (5 * f)) ?_
  refine lv_iload_n hx hb dX6_of_11 rfl (lv_at hl 2 rfl) ?_
  refine lv_iadd hx hb dX6_of_12 ?_
  refine kq_top (z := nI ((369 + (5 * f)) + 1)) (nI_add (369 + (5 * f)) 1) ?_
  refine va_iald hx hb hK.1 hP 1 0 rfl rfl (vp_in_nI (show (369 + (5 * f)) + 1 < 389 from by omega) (by omega)) dX6_of_13 ?_
  refine kq_top (z := z ((369 + (5 * f)) + 1)) (congrArg z (nI_clamp (Nat.lt_trans (show (369 + (5 * f)) + 1 < 389 from by omega) (by omega)))) ?_
  refine kq_top (z := nI (n_f v f 0)) (((hz.2.2.2.2.2 f hf).2 0 (by decide)).trans (n_I_f hI hf (by decide))) ?_
  exact kq_ret hx hb hr hlocks dX6_of_14 (by rfl)
set_option maxHeartbeats 4000000 in
set_option maxRecDepth 100000 in
theorem c_X6_of_2 (l : Launch) (dC : Nat → ClassId) (dI : Nat → Nat → Nat) (cI : ClassId) (oM : Nat) (rz : Nat) (r2 : Nat) (rb : Nat) (rq : Nat) (km : Nat) (n : Nat) (th : Int32) (tp : Int32) (lf : Int32) (hg : Int32) (wd : Int32) (pm : Int32) (stt : Int32) (hh : Int64) (z : Nat → Int32) (v : Nat → Int32) (f : Nat) (hz : n_Z v z) (hI : n_I v) (hf : f < 4) : Met l yX6_of wsX6_of ({ frames := 0, cells := 0, slots := 0, locals := 0 }) (kq_R dC dI cI [.ref oM, .int (nI f), .int 2] [(oM, .inr (6, [.int th, .ref rz, .ref r2, .int (nI km), .ref rb, .int (nI n), .int tp, .int lf, .int hg, .int wd, .ref rq, .int pm, .int stt, .long hh])), (rz, .inl (cI, 389, .inl z))]) (QcRead (nI (n_f v f 1))) 0 0 (fun _ => False) := by
  refine kq_start (cc := cX6_of) (maxL := 3) (ret := (some .int)) (plainFor_of_name (by decide)) rfl (Nat.le_of_ble_eq_true rfl) ?_
  intro p e s m below meth c hx hb hr hml hown hlocks hts hP hK ls hl
  have hown : s.vm.findClass RX6 = some m.cls := hown
  have hl : lv_has ls 3 [(0, .ref oM), (1, .int (nI f)), (2, .int 2)] := hl
  refine lv_aload_n hx hb dX6_of_0 rfl (lv_at hl 0 rfl) ?_
  refine va_get (D := (dC, dI)) (ci := 6) (v := .ref rz) (C := RX6) (T := TX6) (N := 14) hx hb hts (by decide +kernel) hown hK.1 hP 0 rfl rfl 1 (by decide) (hts (.fieldLink RX6 7 "NoteWatermarksModel" "z" "[I") (by decide +kernel)) (fun _ h9 => h9) rfl dX6_of_1 ?_
  refine lv_sipush (v := 369) hx hb dX6_of_4 (by decide) ?_
  refine lv_iconst (v := 5) hx hb dX6_of_7 (by decide) ?_
  refine lv_iload_n hx hb dX6_of_8 rfl (lv_at hl 1 rfl) ?_
  refine lv_imul hx hb dX6_of_9 ?_
  refine kq_top (z := nI (5 * f)) (pk_mul 5 f) ?_
  refine lv_iadd hx hb dX6_of_10 ?_
  refine kq_top (z := nI (369 + (5 * f))) (nI_add 369 (5 * f)) ?_
  refine lv_iload_n hx hb dX6_of_11 rfl (lv_at hl 2 rfl) ?_
  refine lv_iadd hx hb dX6_of_12 ?_
  refine kq_top (z := nI ((369 + (5 * f)) + 2)) (nI_add (369 + (5 * f)) 2) ?_
  refine va_iald hx hb hK.1 hP 1 0 rfl rfl (vp_in_nI (show (369 + (5 * f)) + 2 < 389 from by omega) (by omega)) dX6_of_13 ?_
  refine kq_top (z := z ((369 + (5 * f)) + 2)) (congrArg z (nI_clamp (Nat.lt_trans (show (369 + (5 * f)) + 2 < 389 from by omega) (by omega)))) ?_
  refine kq_top (z := nI (n_f v f 1)) (((hz.2.2.2.2.2 f hf).2 1 (by decide)).trans (n_I_f hI hf (by decide))) ?_
  exact kq_ret hx hb hr hlocks dX6_of_14 (by rfl)
set_option maxHeartbeats 4000000 in
set_option maxRecDepth 100000 in
theorem c_X6_of_3 (l : Launch) (dC : Nat → ClassId) (dI : Nat → Nat → Nat) (cI : ClassId) (oM : Nat) (rz : Nat) (r2 : Nat) (rb : Nat) (rq : Nat) (km : Nat) (n : Nat) (th : Int32) (tp : Int32) (lf : Int32) (hg : Int32) (wd : Int32) (pm : Int32) (stt : Int32) (hh : Int64) (z : Nat → Int32) (v : Nat → Int32) (f : Nat) (hz : n_Z v z) (hI : n_I v) (hf : f < 4) : Met l yX6_of wsX6_of ({ frames := 0, cells := 0, slots := 0, locals := 0 }) (kq_R dC dI cI [.ref oM, .int (nI f), .int 3] [(oM, .inr (6, [.int th, .ref rz, .ref r2, .int (nI km), .ref rb, .int (nI n), .int tp, .int lf, .int hg, .int wd, .ref rq, .int pm, .int stt, .long hh])), (rz, .inl (cI, 389, .inl z))]) (QcRead (nI (n_f v f 2))) 0 0 (fun _ => False) := by
  refine kq_start (cc := cX6_of) (maxL := 3) (ret := (some .int)) (plainFor_of_name (by decide)) rfl (Nat.le_of_ble_eq_true rfl) ?_
  intro p e s m below meth c hx hb hr hml hown hlocks hts hP hK ls hl
  have hown : s.vm.findClass RX6 = some m.cls := hown
  have hl : lv_has ls 3 [(0, .ref oM), (1, .int (nI f)), (2, .int 3)] := hl
  refine lv_aload_n hx hb dX6_of_0 rfl (lv_at hl 0 rfl) ?_
  refine va_get (D := (dC, dI)) (ci := 6) (v := .ref rz) (C := RX6) (T := TX6) (N := 14) hx hb hts (by decide +kernel) hown hK.1 hP 0 rfl rfl 1 (by decide) (hts (.fieldLink RX6 7 "NoteWatermarksModel" "z" "[I") (by decide +kernel)) (fun _ h9 => h9) rfl dX6_of_1 ?_
  refine lv_sipush (v := 369) hx hb dX6_of_4 (by decide) ?_
  refine lv_iconst (v := 5) hx hb dX6_of_7 (by decide) ?_
  refine lv_iload_n hx hb dX6_of_8 rfl (lv_at hl 1 rfl) ?_
  refine lv_imul hx hb dX6_of_9 ?_
  refine kq_top (z := nI (5 * f)) (pk_mul 5 f) ?_
  refine lv_iadd hx hb dX6_of_10 ?_
  refine kq_top (z := nI (369 + (5 * f))) (nI_add 369 (5 * f)) ?_
  refine lv_iload_n hx hb dX6_of_11 rfl (lv_at hl 2 rfl) ?_
  refine lv_iadd hx hb dX6_of_12 ?_
  refine kq_top (z := nI ((369 + (5 * f)) + 3)) (nI_add (369 + (5 * f)) 3) ?_
  refine va_iald hx hb hK.1 hP 1 0 rfl rfl (vp_in_nI (show (369 + (5 * f)) + 3 < 389 from by omega) (by omega)) dX6_of_13 ?_
  refine kq_top (z := z ((369 + (5 * f)) + 3)) (congrArg z (nI_clamp (Nat.lt_trans (show (369 + (5 * f)) + 3 < 389 from by omega) (by omega)))) ?_
  refine kq_top (z := nI (n_f v f 2)) (((hz.2.2.2.2.2 f hf).2 2 (by decide)).trans (n_I_f hI hf (by decide))) ?_
  exact kq_ret hx hb hr hlocks dX6_of_14 (by rfl)
set_option maxHeartbeats 4000000 in
set_option maxRecDepth 100000 in
theorem c_X6_of_4 (l : Launch) (dC : Nat → ClassId) (dI : Nat → Nat → Nat) (cI : ClassId) (oM : Nat) (rz : Nat) (r2 : Nat) (rb : Nat) (rq : Nat) (km : Nat) (n : Nat) (th : Int32) (tp : Int32) (lf : Int32) (hg : Int32) (wd : Int32) (pm : Int32) (stt : Int32) (hh : Int64) (z : Nat → Int32) (v : Nat → Int32) (f : Nat) (hz : n_Z v z) (hI : n_I v) (hf : f < 4) : Met l yX6_of wsX6_of ({ frames := 0, cells := 0, slots := 0, locals := 0 }) (kq_R dC dI cI [.ref oM, .int (nI f), .int 4] [(oM, .inr (6, [.int th, .ref rz, .ref r2, .int (nI km), .ref rb, .int (nI n), .int tp, .int lf, .int hg, .int wd, .ref rq, .int pm, .int stt, .long hh])), (rz, .inl (cI, 389, .inl z))]) (QcRead (nI (n_f v f 3))) 0 0 (fun _ => False) := by
  refine kq_start (cc := cX6_of) (maxL := 3) (ret := (some .int)) (plainFor_of_name (by decide)) rfl (Nat.le_of_ble_eq_true rfl) ?_
  intro p e s m below meth c hx hb hr hml hown hlocks hts hP hK ls hl
  have hown : s.vm.findClass RX6 = some m.cls := hown
  have hl : lv_has ls 3 [(0, .ref oM), (1, .int (nI f)), (2, .int 4)] := hl
  refine lv_aload_n hx hb dX6_of_0 rfl (lv_at hl 0 rfl) ?_
  refine va_get (D := (dC, dI)) (ci := 6) (v := .ref rz) (C := RX6) (T := TX6) (N := 14) hx hb hts (by decide +kernel) hown hK.1 hP 0 rfl rfl 1 (by decide) (hts (.fieldLink RX6 7 "NoteWatermarksModel" "z" "[I") (by decide +kernel)) (fun _ h9 => h9) rfl dX6_of_1 ?_
  refine lv_sipush (v := 369) hx hb dX6_of_4 (by decide) ?_
  refine lv_iconst (v := 5) hx hb dX6_of_7 (by decide) ?_
  refine lv_iload_n hx hb dX6_of_8 rfl (lv_at hl 1 rfl) ?_
  refine lv_imul hx hb dX6_of_9 ?_
  refine kq_top (z := nI (5 * f)) (pk_mul 5 f) ?_
  refine lv_iadd hx hb dX6_of_10 ?_
  refine kq_top (z := nI (369 + (5 * f))) (nI_add 369 (5 * f)) ?_
  refine lv_iload_n hx hb dX6_of_11 rfl (lv_at hl 2 rfl) ?_
  refine lv_iadd hx hb dX6_of_12 ?_
  refine kq_top (z := nI ((369 + (5 * f)) + 4)) (nI_add (369 + (5 * f)) 4) ?_
  refine va_iald hx hb hK.1 hP 1 0 rfl rfl (vp_in_nI (show (369 + (5 * f)) + 4 < 389 from by omega) (by omega)) dX6_of_13 ?_
  refine kq_top (z := z ((369 + (5 * f)) + 4)) (congrArg z (nI_clamp (Nat.lt_trans (show (369 + (5 * f)) + 4 < 389 from by omega) (by omega)))) ?_
  refine kq_top (z := nI (n_f v f 3)) (((hz.2.2.2.2.2 f hf).2 3 (by decide)).trans (n_I_f hI hf (by decide))) ?_
  exact kq_ret hx hb hr hlocks dX6_of_14 (by rfl)
set_option maxHeartbeats 4000000 in
set_option maxRecDepth 100000 in
theorem c_X6_isThere (l : Launch) (dC : Nat → ClassId) (dI : Nat → Nat → Nat) (cI : ClassId) (oM : Nat) (rz : Nat) (r2 : Nat) (rb : Nat) (rq : Nat) (km : Nat) (n : Nat) (th : Int32) (tp : Int32) (lf : Int32) (hg : Int32) (wd : Int32) (pm : Int32) (stt : Int32) (hh : Int64) (z : Nat → Int32) (v : Nat → Int32) (f : Nat) (hz : n_Z v z) (hf : f < 4) : Met l yX6_isThere wsX6_isThere ({ frames := 1, cells := 0, slots := 0, locals := 22 }) (kq_R dC dI cI [.ref oM, .int (nI f)] [(oM, .inr (6, [.int th, .ref rz, .ref r2, .int (nI km), .ref rb, .int (nI n), .int tp, .int lf, .int hg, .int wd, .ref rq, .int pm, .int stt, .long hh])), (rz, .inl (cI, 389, .inl z))]) (QcRead (if 0 < n_f v f 2 then (1:Int32) else 0)) 0 0 (fun _ => False) := by
  refine kq_start (cc := cX6_isThere) (maxL := 2) (ret := (some .boolean)) (plainFor_of_name (by decide)) rfl (Nat.le_of_ble_eq_true rfl) ?_
  intro p e s m below meth c hx hb hr hml hown hlocks hts hP hK ls hl
  have hown : s.vm.findClass RX6 = some m.cls := hown
  have hl : lv_has ls 2 [(0, .ref oM), (1, .int (nI f))] := hl
  refine lv_aload_n hx hb dX6_isThere_0 rfl (lv_at hl 0 rfl) ?_
  refine lv_iload_n hx hb dX6_isThere_1 rfl (lv_at hl 1 rfl) ?_
  refine lv_iconst (v := 0) hx hb dX6_isThere_2 (by decide) ?_
  refine kq_cV (As := [.int (nI f), .int 0]) (rest := []) ⟨hx, hb, hml, hown, hts⟩ (c_X6_of_0 l dC dI cI oM rz r2 rb rq km n th tp lf hg wd pm stt hh z v f (by first | assumption | omega) (by first | assumption | omega)) (cwV 2 hts gX6_isThere_X6_of rfl rfl rfl (by decide +kernel) ⟨Nat.le_of_ble_eq_true rfl, Nat.le_of_ble_eq_true rfl⟩) (hP.sub [0, 1] rfl) hK (ci := 6) (q0 := 0) rfl rfl rfl rfl hl.1 rfl (Nat.le_of_ble_eq_true rfl) dX6_isThere_3 ⟨Nat.le_of_ble_eq_true rfl, Nat.le_of_ble_eq_true rfl⟩ ?_
  refine lv_iconst (v := 1) hx hb dX6_isThere_6 (by decide) ?_
  refine lv_icmp_ne (tgt := 14) hx hb dX6_isThere_7 (by decide) (fun c_1 => ?_) (fun c_1 => ?_)
  · skip
    have c_1 := kq_b1f c_1
    refine lv_iconst (v := 0) hx hb dX6_isThere_14 (by decide) ?_
    exact kq_retz hx hb hr hlocks dX6_isThere_15 (Or.inl rfl) (by first | rw [if_pos (by assumption)] | rw [if_neg (by assumption)])
  · skip
    have c_1 := kq_b1t c_1
    refine lv_iconst (v := 1) hx hb dX6_isThere_10 (by decide) ?_
    refine lv_goto (tgt := 15) hx hb dX6_isThere_11 (by decide) ?_
    exact kq_retz hx hb hr hlocks dX6_isThere_15 (Or.inr rfl) (by first | rw [if_pos (by assumption)] | rw [if_neg (by assumption)])
set_option maxHeartbeats 4000000 in
set_option maxRecDepth 100000 in
theorem c_X6_firstColumn (l : Launch) (dC : Nat → ClassId) (dI : Nat → Nat → Nat) (cI : ClassId) (oM : Nat) (rz : Nat) (r2 : Nat) (rb : Nat) (rq : Nat) (km : Nat) (n : Nat) (th : Int32) (tp : Int32) (lf : Int32) (hg : Int32) (wd : Int32) (pm : Int32) (stt : Int32) (hh : Int64) (z : Nat → Int32) (v : Nat → Int32) (k : Nat) (hz : n_Z v z) (hI : n_I v) : Met l yX6_firstColumn wsX6_firstColumn ({ frames := 0, cells := 0, slots := 0, locals := 0 }) (kq_R dC dI cI [.ref oM, .int (nI k)] [(oM, .inr (6, [.int th, .ref rz, .ref r2, .int (nI km), .ref rb, .int (nI n), .int tp, .int lf, .int hg, .int wd, .ref rq, .int pm, .int stt, .long hh])), (rz, .inl (cI, 389, .inl z))]) (QcRead (nI (n_s v 0 + k * n_s v 1))) 0 0 (fun _ => False) := by
  refine kq_start (cc := cX6_firstColumn) (maxL := 2) (ret := (some .int)) (plainFor_of_name (by decide)) rfl (Nat.le_of_ble_eq_true rfl) ?_
  intro p e s m below meth c hx hb hr hml hown hlocks hts hP hK ls hl
  have hown : s.vm.findClass RX6 = some m.cls := hown
  have hl : lv_has ls 2 [(0, .ref oM), (1, .int (nI k))] := hl
  refine lv_aload_n hx hb dX6_firstColumn_0 rfl (lv_at hl 0 rfl) ?_
  refine va_get (D := (dC, dI)) (ci := 6) (v := .ref rz) (C := RX6) (T := TX6) (N := 14) hx hb hts (by decide +kernel) hown hK.1 hP 0 rfl rfl 1 (by decide) (hts (.fieldLink RX6 7 "NoteWatermarksModel" "z" "[I") (by decide +kernel)) (fun _ h9 => h9) rfl dX6_firstColumn_1 ?_
  refine lv_iconst (v := 0) hx hb dX6_firstColumn_4 (by decide) ?_
  refine va_iald hx hb hK.1 hP 1 0 rfl rfl (vp_in_nI (show 0 < 389 from by omega) (by omega)) dX6_firstColumn_5 ?_
  refine kq_top (z := z 0) (congrArg z (nI_clamp (Nat.lt_trans (show 0 < 389 from by omega) (by omega)))) ?_
  refine kq_top (z := nI (n_s v 0)) ((hz.1 0 (by decide)).trans (n_I_s hI).1) ?_
  refine lv_iload_n hx hb dX6_firstColumn_6 rfl (lv_at hl 1 rfl) ?_
  refine lv_aload_n hx hb dX6_firstColumn_7 rfl (lv_at hl 0 rfl) ?_
  refine va_get (D := (dC, dI)) (ci := 6) (v := .ref rz) (C := RX6) (T := TX6) (N := 14) hx hb hts (by decide +kernel) hown hK.1 hP 0 rfl rfl 1 (by decide) (hts (.fieldLink RX6 7 "NoteWatermarksModel" "z" "[I") (by decide +kernel)) (fun _ h9 => h9) rfl dX6_firstColumn_8 ?_
  refine lv_iconst (v := 1) hx hb dX6_firstColumn_11 (by decide) ?_
  refine va_iald hx hb hK.1 hP 1 0 rfl rfl (vp_in_nI (show 1 < 389 from by omega) (by omega)) dX6_firstColumn_12 ?_
  refine kq_top (z := z 1) (congrArg z (nI_clamp (Nat.lt_trans (show 1 < 389 from by omega) (by omega)))) ?_
  refine kq_top (z := nI (n_s v 1)) ((hz.1 1 (by decide)).trans (n_I_s hI).2.2.1) ?_
  refine lv_imul hx hb dX6_firstColumn_13 ?_
  refine kq_top (z := nI (k * (n_s v 1))) (pk_mul k (n_s v 1)) ?_
  refine lv_iadd hx hb dX6_firstColumn_14 ?_
  refine kq_top (z := nI ((n_s v 0) + (k * (n_s v 1)))) (nI_add (n_s v 0) (k * (n_s v 1))) ?_
  exact kq_ret hx hb hr hlocks dX6_firstColumn_15 (by rfl)
set_option maxHeartbeats 4000000 in
set_option maxRecDepth 100000 in
theorem c_X6_wiresAt (l : Launch) (dC : Nat → ClassId) (dI : Nat → Nat → Nat) (cI : ClassId) (oM : Nat) (rz : Nat) (r2 : Nat) (rb : Nat) (rq : Nat) (km : Nat) (n : Nat) (th : Int32) (tp : Int32) (lf : Int32) (hg : Int32) (wd : Int32) (pm : Int32) (stt : Int32) (hh : Int64) (z : Nat → Int32) (v : Nat → Int32) (k : Nat) (a : Nat) (b : Nat) (hz : n_Z v z) (hI : n_I v) (hk : k < 1000) (ha : a < 6) (hb9 : b < 12) : Met l yX6_wiresAt wsX6_wiresAt ({ frames := 1, cells := 0, slots := 0, locals := 23 }) (kq_R dC dI cI [.ref oM, .int (nI k), .int (nI a), .int (nI b)] [(oM, .inr (6, [.int th, .ref rz, .ref r2, .int (nI km), .ref rb, .int (nI n), .int tp, .int lf, .int hg, .int wd, .ref rq, .int pm, .int stt, .long hh])), (rz, .inl (cI, 389, .inl z))]) (QcRead (n_pr v (n_x v k b) a)) 0 0 (fun _ => False) := by
  refine kq_start (cc := cX6_wiresAt) (maxL := 7) (ret := (some .int)) (plainFor_of_name (by decide)) rfl (Nat.le_of_ble_eq_true rfl) ?_
  intro p e s m below meth c hx hb hr hml hown hlocks hts hP hK ls hl
  have hown : s.vm.findClass RX6 = some m.cls := hown
  have hl : lv_has ls 7 [(0, .ref oM), (1, .int (nI k)), (2, .int (nI a)), (3, .int (nI b))] := hl
  obtain ⟨hs0, hs1, hs2, hs3, hs4, hs5, hs6, hs7⟩ := n_I_s hI
  have hnm : k * n_s v 1 ≤ 999 * 30 := Nat.mul_le_mul (by omega) (by omega)
  have hnx : n_x v k b = n_s v 0 + k * n_s v 1 + b := rfl
  refine lv_aload_n hx hb dX6_wiresAt_0 rfl (lv_at hl 0 rfl) ?_
  refine lv_iload_n hx hb dX6_wiresAt_1 rfl (lv_at hl 1 rfl) ?_
  refine kq_cV (As := [.int (nI k)]) (rest := []) ⟨hx, hb, hml, hown, hts⟩ (c_X6_firstColumn l dC dI cI oM rz r2 rb rq km n th tp lf hg wd pm stt hh z v k (by first | assumption | omega) (by first | assumption | omega)) (cwV 1 hts gX6_wiresAt_X6_firstColumn rfl rfl rfl (by decide +kernel) ⟨Nat.le_of_ble_eq_true rfl, Nat.le_of_ble_eq_true rfl⟩) (hP.sub [0, 1] rfl) hK (ci := 6) (q0 := 0) rfl rfl rfl rfl hl.1 rfl (Nat.le_of_ble_eq_true rfl) dX6_wiresAt_2 ⟨Nat.le_of_ble_eq_true rfl, Nat.le_of_ble_eq_true rfl⟩ ?_
  refine lv_iload_n hx hb dX6_wiresAt_5 rfl (lv_at hl 3 rfl) ?_
  refine lv_iadd hx hb dX6_wiresAt_6 ?_
  refine kq_top (z := nI ((n_s v 0 + k * n_s v 1) + b)) (nI_add (n_s v 0 + k * n_s v 1) b) ?_
  refine kq_top (z := nI (n_x v k b)) (rfl) ?_
  refine lv_istore (lv' := [(4, .int (nI (n_x v k b))), (0, .ref oM), (1, .int (nI k)), (2, .int (nI a)), (3, .int (nI b))]) hx hb dX6_wiresAt_7 hl (by decide) rfl (fun ls hl => ?_)
  refine lv_iconst (v := 0) hx hb dX6_wiresAt_9 (by decide) ?_
  refine lv_istore (lv' := [(5, .int 0), (4, .int (nI (n_x v k b))), (0, .ref oM), (1, .int (nI k)), (2, .int (nI a)), (3, .int (nI b))]) hx hb dX6_wiresAt_10 hl (by decide) rfl (fun ls hl => ?_)
  refine lv_iconst (v := 0) hx hb dX6_wiresAt_12 (by decide) ?_
  refine lv_istore (lv' := [(6, .int 0), (5, .int 0), (4, .int (nI (n_x v k b))), (0, .ref oM), (1, .int (nI k)), (2, .int (nI a)), (3, .int (nI b))]) hx hb dX6_wiresAt_13 hl (by decide) rfl (fun ls hl => ?_)
  refine kq_loop2 (A1 := Nat) (A2 := Int32) (fun (r : Nat) (x : Int32) => 3 - r) (fun (r : Nat) (x : Int32) => (r ≤ 3) ∧ (x = n_sum (fun q => n_wr v (n_x v k b) q a) r)) (fun (r : Nat) (x : Int32) => [(0, .ref oM), (1, .int (nI k)), (2, .int (nI a)), (3, .int (nI b)), (4, .int (nI (n_x v k b))), (5, .int x), (6, .int (nI r))]) (nL := 7) ?_ 0 0 ⟨(by omega), (by rfl)⟩ _ (lv_sub hl [3, 4, 5, 6, 2, 1, 0] rfl)
  intro r x hi_2 ih_1 ls hl
  obtain ⟨ir, ix⟩ := hi_2
  have hl : lv_has ls 7 [(0, .ref oM), (1, .int (nI k)), (2, .int (nI a)), (3, .int (nI b)), (4, .int (nI (n_x v k b))), (5, .int x), (6, .int (nI r))] := hl
  refine lv_iload hx hb dX6_wiresAt_15 (lv_at hl 6 rfl) ?_
  refine lv_iconst (v := 3) hx hb dX6_wiresAt_17 (by decide) ?_
  refine lv_icmp_ge (tgt := 62) hx hb dX6_wiresAt_18 (by decide) (fun c_3 => ?_) (fun c_3 => ?_)
  · skip
    have c_3 := kq_leN (a := 3) (b := r) c_3 (by omega) (by omega)
    refine lv_iload hx hb dX6_wiresAt_62 (lv_at hl 5 rfl) ?_
    exact kq_ret hx hb hr hlocks dX6_wiresAt_64 (by rw [ix, show r = 3 by omega]; rfl)
  · skip
    have c_3 := kq_nleN (a := 3) (b := r) c_3 (by omega) (by omega)
    have hrr : r < 3 := by omega
    have h4 := n_I_c4 hI hrr
    have h16 := n_I_c16 hI hrr
    have hpc := n_I_pc hI hrr
    have hmd := Nat.mod_lt (n_x v k b + n_p v r) (show 0 < n_c v r by omega)
    refine lv_iload hx hb dX6_wiresAt_21 (lv_at hl 5 rfl) ?_
    refine lv_aload_n hx hb dX6_wiresAt_23 rfl (lv_at hl 0 rfl) ?_
    refine lv_iload hx hb dX6_wiresAt_24 (lv_at hl 6 rfl) ?_
    refine lv_iload_n hx hb dX6_wiresAt_26 rfl (lv_at hl 2 rfl) ?_
    refine lv_iload hx hb dX6_wiresAt_27 (lv_at hl 4 rfl) ?_
    refine lv_aload_n hx hb dX6_wiresAt_29 rfl (lv_at hl 0 rfl) ?_
    refine va_get (D := (dC, dI)) (ci := 6) (v := .ref rz) (C := RX6) (T := TX6) (N := 14) hx hb hts (by decide +kernel) hown hK.1 hP 0 rfl rfl 1 (by decide) (hts (.fieldLink RX6 7 "NoteWatermarksModel" "z" "[I") (by decide +kernel)) (fun _ h9 => h9) rfl dX6_wiresAt_30 ?_
    refine lv_bipush (v := 6) hx hb dX6_wiresAt_33 (by decide) ?_
    refine lv_iload hx hb dX6_wiresAt_35 (lv_at hl 6 rfl) ?_
    refine lv_iadd hx hb dX6_wiresAt_37 ?_
    refine kq_top (z := nI (6 + r)) (nI_add 6 r) ?_
    refine va_iald hx hb hK.1 hP 1 0 rfl rfl (vp_in_nI (show 6 + r < 389 from by omega) (by omega)) dX6_wiresAt_38 ?_
    refine kq_top (z := z (6 + r)) (congrArg z (nI_clamp (Nat.lt_trans (show 6 + r < 389 from by omega) (by omega)))) ?_
    refine kq_top (z := nI (n_p v r)) ((hz.2.2.1 r (by omega)).trans (n_I_p hI (by omega))) ?_
    refine lv_iadd hx hb dX6_wiresAt_39 ?_
    refine kq_top (z := nI ((n_x v k b) + (n_p v r))) (nI_add (n_x v k b) (n_p v r)) ?_
    refine lv_aload_n hx hb dX6_wiresAt_40 rfl (lv_at hl 0 rfl) ?_
    refine va_get (D := (dC, dI)) (ci := 6) (v := .ref rz) (C := RX6) (T := TX6) (N := 14) hx hb hts (by decide +kernel) hown hK.1 hP 0 rfl rfl 1 (by decide) (hts (.fieldLink RX6 7 "NoteWatermarksModel" "z" "[I") (by decide +kernel)) (fun _ h9 => h9) rfl dX6_wiresAt_41 ?_
    refine lv_iconst (v := 3) hx hb dX6_wiresAt_44 (by decide) ?_
    refine lv_iload hx hb dX6_wiresAt_45 (lv_at hl 6 rfl) ?_
    refine lv_iadd hx hb dX6_wiresAt_47 ?_
    refine kq_top (z := nI (3 + r)) (nI_add 3 r) ?_
    refine va_iald hx hb hK.1 hP 1 0 rfl rfl (vp_in_nI (show 3 + r < 389 from by omega) (by omega)) dX6_wiresAt_48 ?_
    refine kq_top (z := z (3 + r)) (congrArg z (nI_clamp (Nat.lt_trans (show 3 + r < 389 from by omega) (by omega)))) ?_
    refine kq_top (z := nI (n_c v r)) ((hz.2.1 r (by omega)).trans (n_I_c hI (by omega))) ?_
    refine lv_irem hx hb dX6_wiresAt_49 (nI_ne0 (n := (n_c v r)) (by omega) (by omega)) ?_
    refine kq_top (z := nI (((n_x v k b) + (n_p v r)) % (n_c v r))) (pk_rem (a := ((n_x v k b) + (n_p v r))) (d := (n_c v r)) (by omega) (by omega) (by omega)) ?_
    refine kq_cV (As := [.int (nI r), .int (nI a), .int (nI (((n_x v k b) + (n_p v r)) % (n_c v r)))]) (rest := [.int x]) ⟨hx, hb, hml, hown, hts⟩ (c_X6_wireAt l dC dI cI oM rz r2 rb rq km n th tp lf hg wd pm stt hh z v r a (((n_x v k b) + (n_p v r)) % (n_c v r)) (by first | assumption | omega) (by first | assumption | omega) (by first | assumption | omega) (by first | assumption | omega)) (cwV 3 hts gX6_wiresAt_X6_wireAt rfl rfl rfl (by decide +kernel) ⟨Nat.le_of_ble_eq_true rfl, Nat.le_of_ble_eq_true rfl⟩) (hP.sub [0, 1] rfl) hK (ci := 6) (q0 := 0) rfl rfl rfl rfl hl.1 rfl (Nat.le_of_ble_eq_true rfl) dX6_wiresAt_50 ⟨Nat.le_of_ble_eq_true rfl, Nat.le_of_ble_eq_true rfl⟩ ?_
    refine lv_iadd hx hb dX6_wiresAt_53 ?_
    refine lv_istore (lv' := [(5, .int (x + (v ((r * 6 + a) * 16 + (((n_x v k b) + (n_p v r)) % (n_c v r)))))), (0, .ref oM), (1, .int (nI k)), (2, .int (nI a)), (3, .int (nI b)), (4, .int (nI (n_x v k b))), (6, .int (nI r))]) hx hb dX6_wiresAt_54 hl (by decide) rfl (fun ls hl => ?_)
    refine lv_iinc (v := nI (r + 1)) (lv' := [(6, .int (nI (r + 1))), (5, .int (x + (v ((r * 6 + a) * 16 + (((n_x v k b) + (n_p v r)) % (n_c v r)))))), (0, .ref oM), (1, .int (nI k)), (2, .int (nI a)), (3, .int (nI b)), (4, .int (nI (n_x v k b)))]) hx hb dX6_wiresAt_56 hl (k := 6) rfl (nI_1 r) (by decide) rfl (fun ls hl => ?_)
    refine lv_goto (tgt := 15) hx hb dX6_wiresAt_59 (by decide) ?_
    exact ih_1 (r + 1) (x + (v ((r * 6 + a) * 16 + (((n_x v k b) + (n_p v r)) % (n_c v r))))) ⟨(by omega), (by rw [n_sum, ← ix]; rfl)⟩ (by show 3 - (r + 1) < 3 - r; omega) _ (lv_sub hl [2, 3, 4, 5, 6, 1, 0] rfl)
set_option maxHeartbeats 4000000 in
set_option maxRecDepth 100000 in
theorem c_X6_tone (l : Launch) (dC : Nat → ClassId) (dI : Nat → Nat → Nat) (cI : ClassId) (oM : Nat) (rz : Nat) (r2 : Nat) (rb : Nat) (rq : Nat) (km : Nat) (n : Nat) (th : Int32) (tp : Int32) (lf : Int32) (hg : Int32) (wd : Int32) (pm : Int32) (stt : Int32) (hh : Int64) (z : Nat → Int32) (v : Nat → Int32) (k : Nat) (a : Nat) (b : Nat) (hz : n_Z v z) (hI : n_I v) (hk : k < 1000) (ha : a < 6) (hb9 : b < 12) : Met l yX6_tone wsX6_tone ({ frames := 2, cells := 0, slots := 0, locals := 49 }) (kq_R dC dI cI [.ref oM, .int (nI k), .int (nI a), .int (nI b)] [(oM, .inr (6, [.int th, .ref rz, .ref r2, .int (nI km), .ref rb, .int (nI n), .int tp, .int lf, .int hg, .int wd, .ref rq, .int pm, .int stt, .long hh])), (rz, .inl (cI, 389, .inl z))]) (QcRead (n_to v k a b)) 0 0 (fun _ => False) := by
  refine kq_start (cc := cX6_tone) (maxL := 5) (ret := (some .int)) (plainFor_of_name (by decide)) rfl (Nat.le_of_ble_eq_true rfl) ?_
  intro p e s m below meth c hx hb hr hml hown hlocks hts hP hK ls hl
  have hown : s.vm.findClass RX6 = some m.cls := hown
  have hl : lv_has ls 5 [(0, .ref oM), (1, .int (nI k)), (2, .int (nI a)), (3, .int (nI b))] := hl
  refine lv_bipush (v := 10) hx hb dX6_tone_0 (by decide) ?_
  refine lv_aload_n hx hb dX6_tone_2 rfl (lv_at hl 0 rfl) ?_
  refine lv_iload_n hx hb dX6_tone_3 rfl (lv_at hl 1 rfl) ?_
  refine lv_iload_n hx hb dX6_tone_4 rfl (lv_at hl 2 rfl) ?_
  refine lv_iload_n hx hb dX6_tone_5 rfl (lv_at hl 3 rfl) ?_
  refine kq_cV (As := [.int (nI k), .int (nI a), .int (nI b)]) (rest := [.int 10]) ⟨hx, hb, hml, hown, hts⟩ (c_X6_wiresAt l dC dI cI oM rz r2 rb rq km n th tp lf hg wd pm stt hh z v k a b (by first | assumption | omega) (by first | assumption | omega) (by first | assumption | omega) (by first | assumption | omega) (by first | assumption | omega)) (cwV 3 hts gX6_tone_X6_wiresAt rfl rfl rfl (by decide +kernel) ⟨Nat.le_of_ble_eq_true rfl, Nat.le_of_ble_eq_true rfl⟩) (hP.sub [0, 1] rfl) hK (ci := 6) (q0 := 0) rfl rfl rfl rfl hl.1 rfl (Nat.le_of_ble_eq_true rfl) dX6_tone_6 ⟨Nat.le_of_ble_eq_true rfl, Nat.le_of_ble_eq_true rfl⟩ ?_
  refine lv_iadd hx hb dX6_tone_9 ?_
  refine lv_istore (lv' := [(4, .int (10 + (n_pr v (n_x v k b) a))), (0, .ref oM), (1, .int (nI k)), (2, .int (nI a)), (3, .int (nI b))]) hx hb dX6_tone_10 hl (by decide) rfl (fun ls hl => ?_)
  refine lv_iload hx hb dX6_tone_12 (lv_at hl 0 rfl) ?_
  refine lv_if_ge (tgt := 21) hx hb dX6_tone_14 (by decide) (fun c_1 => ?_) (fun c_1 => ?_)
  · skip
    refine lv_iload hx hb dX6_tone_21 (lv_at hl 0 rfl) ?_
    refine lv_bipush (v := 19) hx hb dX6_tone_23 (by decide) ?_
    refine lv_icmp_le (tgt := 33) hx hb dX6_tone_25 (by decide) (fun c_2 => ?_) (fun c_2 => ?_)
    · skip
      refine lv_iload hx hb dX6_tone_33 (lv_at hl 0 rfl) ?_
      exact kq_ret hx hb hr hlocks dX6_tone_35 (by unfold n_to n_tn; grind)
    · skip
      refine lv_bipush (v := 19) hx hb dX6_tone_28 (by decide) ?_
      refine lv_goto (tgt := 35) hx hb dX6_tone_30 (by decide) ?_
      exact kq_ret hx hb hr hlocks dX6_tone_35 (by unfold n_to n_tn; grind)
  · skip
    refine lv_iconst (v := 0) hx hb dX6_tone_17 (by decide) ?_
    refine lv_goto (tgt := 35) hx hb dX6_tone_18 (by decide) ?_
    exact kq_ret hx hb hr hlocks dX6_tone_35 (by unfold n_to n_tn; grind)
set_option maxHeartbeats 4000000 in
set_option maxRecDepth 100000 in
theorem c_X6_light (l : Launch) (dC : Nat → ClassId) (dI : Nat → Nat → Nat) (cI : ClassId) (oM : Nat) (rz : Nat) (r2 : Nat) (rb : Nat) (rq : Nat) (km : Nat) (n : Nat) (th : Int32) (tp : Int32) (lf : Int32) (hg : Int32) (wd : Int32) (pm : Int32) (stt : Int32) (hh : Int64) (z : Nat → Int32) (v : Nat → Int32) (k : Nat) (a : Nat) (b : Nat) (hz : n_Z v z) (hI : n_I v) (hk : k < 1000) (ha : a < 6) (hb9 : b < 12) : Met l yX6_light wsX6_light ({ frames := 3, cells := 0, slots := 0, locals := 73 }) (kq_R dC dI cI [.ref oM, .int (nI k), .int (nI a), .int (nI b)] [(oM, .inr (6, [.int th, .ref rz, .ref r2, .int (nI km), .ref rb, .int (nI n), .int tp, .int lf, .int hg, .int wd, .ref rq, .int pm, .int stt, .long hh])), (rz, .inl (cI, 389, .inl z))]) (QcRead (n_li v k a b)) 0 0 (fun _ => False) := by
  refine kq_start (cc := cX6_light) (maxL := 4) (ret := (some .int)) (plainFor_of_name (by decide)) rfl (Nat.le_of_ble_eq_true rfl) ?_
  intro p e s m below meth c hx hb hr hml hown hlocks hts hP hK ls hl
  have hown : s.vm.findClass RX6 = some m.cls := hown
  have hl : lv_has ls 4 [(0, .ref oM), (1, .int (nI k)), (2, .int (nI a)), (3, .int (nI b))] := hl
  refine lv_aload_n hx hb dX6_light_0 rfl (lv_at hl 0 rfl) ?_
  refine lv_iload_n hx hb dX6_light_1 rfl (lv_at hl 1 rfl) ?_
  refine lv_iload_n hx hb dX6_light_2 rfl (lv_at hl 2 rfl) ?_
  refine lv_iload_n hx hb dX6_light_3 rfl (lv_at hl 3 rfl) ?_
  refine kq_cV (As := [.int (nI k), .int (nI a), .int (nI b)]) (rest := []) ⟨hx, hb, hml, hown, hts⟩ (c_X6_tone l dC dI cI oM rz r2 rb rq km n th tp lf hg wd pm stt hh z v k a b (by first | assumption | omega) (by first | assumption | omega) (by first | assumption | omega) (by first | assumption | omega) (by first | assumption | omega)) (cwV 3 hts gX6_light_X6_tone rfl rfl rfl (by decide +kernel) ⟨Nat.le_of_ble_eq_true rfl, Nat.le_of_ble_eq_true rfl⟩) (hP.sub [0, 1] rfl) hK (ci := 6) (q0 := 0) rfl rfl rfl rfl hl.1 rfl (Nat.le_of_ble_eq_true rfl) dX6_light_4 ⟨Nat.le_of_ble_eq_true rfl, Nat.le_of_ble_eq_true rfl⟩ ?_
  refine lv_aload_n hx hb dX6_light_7 rfl (lv_at hl 0 rfl) ?_
  refine lv_iload_n hx hb dX6_light_8 rfl (lv_at hl 2 rfl) ?_
  refine lv_iload_n hx hb dX6_light_9 rfl (lv_at hl 3 rfl) ?_
  refine kq_cV (As := [.int (nI a), .int (nI b)]) (rest := [.int (n_to v k a b)]) ⟨hx, hb, hml, hown, hts⟩ (c_X6_inkAt l dC dI cI oM rz r2 rb rq km n th tp lf hg wd pm stt hh z v a b (by first | assumption | omega) (by first | assumption | omega) (by first | assumption | omega)) (cwV 2 hts gX6_light_X6_inkAt rfl rfl rfl (by decide +kernel) ⟨Nat.le_of_ble_eq_true rfl, Nat.le_of_ble_eq_true rfl⟩) (hP.sub [0, 1] rfl) hK (ci := 6) (q0 := 0) rfl rfl rfl rfl hl.1 rfl (Nat.le_of_ble_eq_true rfl) dX6_light_10 ⟨Nat.le_of_ble_eq_true rfl, Nat.le_of_ble_eq_true rfl⟩ ?_
  refine lv_isub hx hb dX6_light_13 ?_
  exact kq_ret hx hb hr hlocks dX6_light_14 (by rfl)
set_option maxHeartbeats 4000000 in
set_option maxRecDepth 100000 in
theorem c_X6_rectangle (l : Launch) (dC : Nat → ClassId) (dI : Nat → Nat → Nat) (cI : ClassId) (sz : Nat) (oM : Nat) (rz : Nat) (r2 : Nat) (rb : Nat) (rq : Nat) (km : Nat) (n : Nat) (th : Int32) (tp : Int32) (lf : Int32) (hg : Int32) (wd : Int32) (pm : Int32) (stt : Int32) (hh : Int64) (z : Nat → Int32) (v : Nat → Int32) (i : Nat) (j : Nat) (h : Nat) (w : Nat)  : Met l yX6_rectangle wsX6_rectangle ({ frames := 0, cells := 0, slots := 0, locals := 0 }) (kq_M dC dI cI [.ref oM, .int (nI i), .int (nI j), .int (nI h), .int (nI w)] sz [(oM, .inr (6, [.int th, .ref rz, .ref r2, .int (nI km), .ref rb, .int (nI n), .int tp, .int lf, .int hg, .int wd, .ref rq, .int pm, .int stt, .long hh]))]) (va_Qv (fun (u : Unit) => True) (kq_B dC dI (va_A [(oM, .inr (6, [.int th, .ref rz, .ref r2, .int (nI km), .ref rb, .int (nI n), .int tp, .int lf, .int hg, .int wd, .ref rq, .int pm, .int stt, .long hh]))] sz) (fun u : Unit => [(oM, .inr (6, [.int th, .ref rz, .ref r2, .int (nI km), .ref rb, .int (nI n), .int (nI i), .int (nI j), .int (nI h), .int (nI w), .ref rq, .int pm, .int stt, .long hh]))])) (va_A [(oM, .inr (6, [.int th, .ref rz, .ref r2, .int (nI km), .ref rb, .int (nI n), .int tp, .int lf, .int hg, .int wd, .ref rq, .int pm, .int stt, .long hh]))] sz)) 0 0 (va_A [(oM, .inr (6, [.int th, .ref rz, .ref r2, .int (nI km), .ref rb, .int (nI n), .int tp, .int lf, .int hg, .int wd, .ref rq, .int pm, .int stt, .long hh]))] sz) := by
  refine kq_startM (cc := cX6_rectangle) (maxL := 5) (ret := none) (by decide) rfl (Nat.le_of_ble_eq_true rfl) ?_
  intro p e s m below meth c hx hb hr hml hown hlocks hts hsz hA hP hD hS hK hnm ls hl
  subst hsz
  generalize hAe : va_A [(oM, .inr (6, [.int th, .ref rz, .ref r2, .int (nI km), .ref rb, .int (nI n), .int tp, .int lf, .int hg, .int wd, .ref rq, .int pm, .int stt, .long hh]))] s.heap.size = A at hA hD hS ⊢
  have hown : s.vm.findClass RX6 = some m.cls := hown
  have hl : lv_has ls 5 [(0, .ref oM), (1, .int (nI i)), (2, .int (nI j)), (3, .int (nI h)), (4, .int (nI w))] := hl
  refine lv_aload_n hx hb dX6_rectangle_0 rfl (lv_at hl 0 rfl) ?_
  refine lv_iload_n hx hb dX6_rectangle_1 rfl (lv_at hl 1 rfl) ?_
  refine va_put (D := (dC, dI)) (ci := 6) (v := .int (nI i)) (ty := .int) (C := RX6) (T := TX6) (N := 14) hx hb hts (by decide +kernel) tyX6 tyX6_ok nmX6 hown hK.1 hP hD hS 0 rfl rfl 6 (by decide) (hts (.fieldLink RX6 54 "NoteWatermarksModel" "top" "I") (by decide +kernel)) (fun _ h9 => h9) rfl (by decide +kernel) rfl rfl (Nat.le_of_ble_eq_true rfl) dX6_rectangle_2 (fun H locs hP hD hS => ?_)
  have hP : va_P (dC, dI) vwCl [(oM, .inr (6, [.int th, .ref rz, .ref r2, .int (nI km), .ref rb, .int (nI n), .int (nI i), .int lf, .int hg, .int wd, .ref rq, .int pm, .int stt, .long hh]))] H := hP
  have hD : va_D A [(oM, .inr (6, [.int th, .ref rz, .ref r2, .int (nI km), .ref rb, .int (nI n), .int (nI i), .int lf, .int hg, .int wd, .ref rq, .int pm, .int stt, .long hh]))] := hD
  refine lv_aload_n hx hb dX6_rectangle_5 rfl (lv_at hl 0 rfl) ?_
  refine lv_iload_n hx hb dX6_rectangle_6 rfl (lv_at hl 2 rfl) ?_
  refine va_put (D := (dC, dI)) (ci := 6) (v := .int (nI j)) (ty := .int) (C := RX6) (T := TX6) (N := 14) hx hb hts (by decide +kernel) tyX6 tyX6_ok nmX6 hown hK.1 hP hD hS 0 rfl rfl 7 (by decide) (hts (.fieldLink RX6 57 "NoteWatermarksModel" "left" "I") (by decide +kernel)) (fun _ h9 => h9) rfl (by decide +kernel) rfl rfl (Nat.le_of_ble_eq_true rfl) dX6_rectangle_7 (fun H locs hP hD hS => ?_)
  have hP : va_P (dC, dI) vwCl [(oM, .inr (6, [.int th, .ref rz, .ref r2, .int (nI km), .ref rb, .int (nI n), .int (nI i), .int (nI j), .int hg, .int wd, .ref rq, .int pm, .int stt, .long hh]))] H := hP
  have hD : va_D A [(oM, .inr (6, [.int th, .ref rz, .ref r2, .int (nI km), .ref rb, .int (nI n), .int (nI i), .int (nI j), .int hg, .int wd, .ref rq, .int pm, .int stt, .long hh]))] := hD
  refine lv_aload_n hx hb dX6_rectangle_10 rfl (lv_at hl 0 rfl) ?_
  refine lv_iload_n hx hb dX6_rectangle_11 rfl (lv_at hl 3 rfl) ?_
  refine va_put (D := (dC, dI)) (ci := 6) (v := .int (nI h)) (ty := .int) (C := RX6) (T := TX6) (N := 14) hx hb hts (by decide +kernel) tyX6 tyX6_ok nmX6 hown hK.1 hP hD hS 0 rfl rfl 8 (by decide) (hts (.fieldLink RX6 60 "NoteWatermarksModel" "high" "I") (by decide +kernel)) (fun _ h9 => h9) rfl (by decide +kernel) rfl rfl (Nat.le_of_ble_eq_true rfl) dX6_rectangle_12 (fun H locs hP hD hS => ?_)
  have hP : va_P (dC, dI) vwCl [(oM, .inr (6, [.int th, .ref rz, .ref r2, .int (nI km), .ref rb, .int (nI n), .int (nI i), .int (nI j), .int (nI h), .int wd, .ref rq, .int pm, .int stt, .long hh]))] H := hP
  have hD : va_D A [(oM, .inr (6, [.int th, .ref rz, .ref r2, .int (nI km), .ref rb, .int (nI n), .int (nI i), .int (nI j), .int (nI h), .int wd, .ref rq, .int pm, .int stt, .long hh]))] := hD
  refine lv_aload_n hx hb dX6_rectangle_15 rfl (lv_at hl 0 rfl) ?_
  refine lv_iload hx hb dX6_rectangle_16 (lv_at hl 4 rfl) ?_
  refine va_put (D := (dC, dI)) (ci := 6) (v := .int (nI w)) (ty := .int) (C := RX6) (T := TX6) (N := 14) hx hb hts (by decide +kernel) tyX6 tyX6_ok nmX6 hown hK.1 hP hD hS 0 rfl rfl 9 (by decide) (hts (.fieldLink RX6 63 "NoteWatermarksModel" "wide" "I") (by decide +kernel)) (fun _ h9 => h9) rfl (by decide +kernel) rfl rfl (Nat.le_of_ble_eq_true rfl) dX6_rectangle_18 (fun H locs hP hD hS => ?_)
  have hP : va_P (dC, dI) vwCl [(oM, .inr (6, [.int th, .ref rz, .ref r2, .int (nI km), .ref rb, .int (nI n), .int (nI i), .int (nI j), .int (nI h), .int (nI w), .ref rq, .int pm, .int stt, .long hh]))] H := hP
  have hD : va_D A [(oM, .inr (6, [.int th, .ref rz, .ref r2, .int (nI km), .ref rb, .int (nI n), .int (nI i), .int (nI j), .int (nI h), .int (nI w), .ref rq, .int pm, .int stt, .long hh]))] := hD
  exact kq_retMv () hx hb hr hlocks hP hD hS dX6_rectangle_21 (by trivial)
set_option maxHeartbeats 4000000 in
set_option maxRecDepth 100000 in
theorem c_X6_take (l : Launch) (dC : Nat → ClassId) (dI : Nat → Nat → Nat) (cI : ClassId) (sz : Nat) (oM : Nat) (rz : Nat) (r2 : Nat) (rb : Nat) (rq : Nat) (km : Nat) (n : Nat) (th : Int32) (tp : Int32) (lf : Int32) (hg : Int32) (wd : Int32) (pm : Int32) (stt : Int32) (hh : Int64) (z : Nat → Int32) (v : Nat → Int32) (f : Nat) (hz : n_Z v z) (hI : n_I v) (hf : f < 4) : Met l yX6_take wsX6_take ({ frames := 1, cells := 0, slots := 0, locals := 24 }) (kq_M dC dI cI [.ref oM, .int (nI f)] sz [(oM, .inr (6, [.int th, .ref rz, .ref r2, .int (nI km), .ref rb, .int (nI n), .int tp, .int lf, .int hg, .int wd, .ref rq, .int pm, .int stt, .long hh])), (rz, .inl (cI, 389, .inl z))]) (va_Qv (fun (u : Unit) => True) (kq_B dC dI (va_A [(oM, .inr (6, [.int th, .ref rz, .ref r2, .int (nI km), .ref rb, .int (nI n), .int tp, .int lf, .int hg, .int wd, .ref rq, .int pm, .int stt, .long hh])), (rz, .inl (cI, 389, .inl z))] sz) (fun u : Unit => [(oM, .inr (6, [.int th, .ref rz, .ref r2, .int (nI km), .ref rb, .int (nI n), .int (nI (n_f v f 0)), .int (nI (n_f v f 1)), .int (nI (n_f v f 2)), .int (nI (n_f v f 3)), .ref rq, .int pm, .int stt, .long hh])), (rz, .inl (cI, 389, .inl z))])) (va_A [(oM, .inr (6, [.int th, .ref rz, .ref r2, .int (nI km), .ref rb, .int (nI n), .int tp, .int lf, .int hg, .int wd, .ref rq, .int pm, .int stt, .long hh])), (rz, .inl (cI, 389, .inl z))] sz)) 0 0 (va_A [(oM, .inr (6, [.int th, .ref rz, .ref r2, .int (nI km), .ref rb, .int (nI n), .int tp, .int lf, .int hg, .int wd, .ref rq, .int pm, .int stt, .long hh])), (rz, .inl (cI, 389, .inl z))] sz) := by
  refine kq_startM (cc := cX6_take) (maxL := 2) (ret := none) (by decide) rfl (Nat.le_of_ble_eq_true rfl) ?_
  intro p e s m below meth c hx hb hr hml hown hlocks hts hsz hA hP hD hS hK hnm ls hl
  subst hsz
  generalize hAe : va_A [(oM, .inr (6, [.int th, .ref rz, .ref r2, .int (nI km), .ref rb, .int (nI n), .int tp, .int lf, .int hg, .int wd, .ref rq, .int pm, .int stt, .long hh])), (rz, .inl (cI, 389, .inl z))] s.heap.size = A at hA hD hS ⊢
  have hown : s.vm.findClass RX6 = some m.cls := hown
  have hl : lv_has ls 2 [(0, .ref oM), (1, .int (nI f))] := hl
  refine lv_aload_n hx hb dX6_take_0 rfl (lv_at hl 0 rfl) ?_
  refine lv_aload_n hx hb dX6_take_1 rfl (lv_at hl 0 rfl) ?_
  refine lv_iload_n hx hb dX6_take_2 rfl (lv_at hl 1 rfl) ?_
  refine lv_iconst (v := 1) hx hb dX6_take_3 (by decide) ?_
  refine kq_cV (As := [.int (nI f), .int 1]) (rest := [.ref oM]) ⟨hx, hb, hml, hown, hts⟩ (c_X6_of_1 l dC dI cI oM rz r2 rb rq km n th tp lf hg wd pm stt hh z v f (by first | assumption | omega) (by first | assumption | omega) (by first | assumption | omega)) (cwV 2 hts gX6_take_X6_of rfl rfl rfl (by decide +kernel) ⟨Nat.le_of_ble_eq_true rfl, Nat.le_of_ble_eq_true rfl⟩) (hP.sub [0, 1] rfl) hK (ci := 6) (q0 := 0) rfl rfl rfl rfl hl.1 rfl (Nat.le_of_ble_eq_true rfl) dX6_take_4 ⟨Nat.le_of_ble_eq_true rfl, Nat.le_of_ble_eq_true rfl⟩ ?_
  refine lv_aload_n hx hb dX6_take_7 rfl (lv_at hl 0 rfl) ?_
  refine lv_iload_n hx hb dX6_take_8 rfl (lv_at hl 1 rfl) ?_
  refine lv_iconst (v := 2) hx hb dX6_take_9 (by decide) ?_
  refine kq_cV (As := [.int (nI f), .int 2]) (rest := [.int (nI (n_f v f 0)), .ref oM]) ⟨hx, hb, hml, hown, hts⟩ (c_X6_of_2 l dC dI cI oM rz r2 rb rq km n th tp lf hg wd pm stt hh z v f (by first | assumption | omega) (by first | assumption | omega) (by first | assumption | omega)) (cwV 2 hts gX6_take_X6_of rfl rfl rfl (by decide +kernel) ⟨Nat.le_of_ble_eq_true rfl, Nat.le_of_ble_eq_true rfl⟩) (hP.sub [0, 1] rfl) hK (ci := 6) (q0 := 0) rfl rfl rfl rfl hl.1 rfl (Nat.le_of_ble_eq_true rfl) dX6_take_10 ⟨Nat.le_of_ble_eq_true rfl, Nat.le_of_ble_eq_true rfl⟩ ?_
  refine lv_aload_n hx hb dX6_take_13 rfl (lv_at hl 0 rfl) ?_
  refine lv_iload_n hx hb dX6_take_14 rfl (lv_at hl 1 rfl) ?_
  refine lv_iconst (v := 3) hx hb dX6_take_15 (by decide) ?_
  refine kq_cV (As := [.int (nI f), .int 3]) (rest := [.int (nI (n_f v f 1)), .int (nI (n_f v f 0)), .ref oM]) ⟨hx, hb, hml, hown, hts⟩ (c_X6_of_3 l dC dI cI oM rz r2 rb rq km n th tp lf hg wd pm stt hh z v f (by first | assumption | omega) (by first | assumption | omega) (by first | assumption | omega)) (cwV 2 hts gX6_take_X6_of rfl rfl rfl (by decide +kernel) ⟨Nat.le_of_ble_eq_true rfl, Nat.le_of_ble_eq_true rfl⟩) (hP.sub [0, 1] rfl) hK (ci := 6) (q0 := 0) rfl rfl rfl rfl hl.1 rfl (Nat.le_of_ble_eq_true rfl) dX6_take_16 ⟨Nat.le_of_ble_eq_true rfl, Nat.le_of_ble_eq_true rfl⟩ ?_
  refine lv_aload_n hx hb dX6_take_19 rfl (lv_at hl 0 rfl) ?_
  refine lv_iload_n hx hb dX6_take_20 rfl (lv_at hl 1 rfl) ?_
  refine lv_iconst (v := 4) hx hb dX6_take_21 (by decide) ?_
  refine kq_cV (As := [.int (nI f), .int 4]) (rest := [.int (nI (n_f v f 2)), .int (nI (n_f v f 1)), .int (nI (n_f v f 0)), .ref oM]) ⟨hx, hb, hml, hown, hts⟩ (c_X6_of_4 l dC dI cI oM rz r2 rb rq km n th tp lf hg wd pm stt hh z v f (by first | assumption | omega) (by first | assumption | omega) (by first | assumption | omega)) (cwV 2 hts gX6_take_X6_of rfl rfl rfl (by decide +kernel) ⟨Nat.le_of_ble_eq_true rfl, Nat.le_of_ble_eq_true rfl⟩) (hP.sub [0, 1] rfl) hK (ci := 6) (q0 := 0) rfl rfl rfl rfl hl.1 rfl (Nat.le_of_ble_eq_true rfl) dX6_take_22 ⟨Nat.le_of_ble_eq_true rfl, Nat.le_of_ble_eq_true rfl⟩ ?_
  refine kq_callMv (wr := [(rz, .inl (cI, 389, .inl z))]) (va_runV (As := [.int (nI (n_f v f 0)), .int (nI (n_f v f 1)), .int (nI (n_f v f 2)), .int (nI (n_f v f 3))]) (rest := []) ⟨hx, hb, hml, hown, hts⟩ (c_X6_rectangle l dC dI cI s.heap.size oM rz r2 rb rq km n th tp lf hg wd pm stt hh z v (n_f v f 0) (n_f v f 1) (n_f v f 2) (n_f v f 3) ) (cwV 4 hts gX6_take_X6_rectangle rfl rfl rfl (by decide +kernel) ⟨Nat.le_of_ble_eq_true rfl, Nat.le_of_ble_eq_true rfl⟩) (kq_preV (ci := 6) (q0 := 0) (hP.sub [0] rfl) (hD.sub [0] (by decide) rfl) hK rfl rfl) rfl rfl hl.1 rfl (lv_room (Nat.le_of_ble_eq_true rfl)) dX6_take_25 ⟨Nat.le_of_ble_eq_true rfl, Nat.le_of_ble_eq_true rfl⟩) hP hD hS hA [0] [1] rfl rfl (by decide) (by decide) (fun u_2 H locs hw_3 hP hD hS => ?_)
  have hP : va_P (dC, dI) vwCl [(rz, .inl (cI, 389, .inl z)), (oM, .inr (6, [.int th, .ref rz, .ref r2, .int (nI km), .ref rb, .int (nI n), .int (nI (n_f v f 0)), .int (nI (n_f v f 1)), .int (nI (n_f v f 2)), .int (nI (n_f v f 3)), .ref rq, .int pm, .int stt, .long hh]))] H := hP
  have hD : va_D A [(rz, .inl (cI, 389, .inl z)), (oM, .inr (6, [.int th, .ref rz, .ref r2, .int (nI km), .ref rb, .int (nI n), .int (nI (n_f v f 0)), .int (nI (n_f v f 1)), .int (nI (n_f v f 2)), .int (nI (n_f v f 3)), .ref rq, .int pm, .int stt, .long hh]))] := hD
  exact kq_retMv () hx hb hr hlocks (hP.sub [1, 0] rfl) (hD.sub [1, 0] (by decide) rfl) hS dX6_take_28 (by trivial)
set_option maxHeartbeats 4000000 in
set_option maxRecDepth 100000 in
theorem c_X6_isInside (l : Launch) (dC : Nat → ClassId) (dI : Nat → Nat → Nat) (cI : ClassId) (oM : Nat) (rz : Nat) (r2 : Nat) (rb : Nat) (rq : Nat) (km : Nat) (n : Nat) (tp : Nat) (lf : Nat) (hg : Nat) (wd : Nat) (th : Int32) (pm : Int32) (stt : Int32) (hh : Int64) (z : Nat → Int32) (v : Nat → Int32) (i : Nat) (j : Nat) (h1 : tp + hg ≤ 6) (h2 : lf + wd ≤ 12) (h3 : 0 < hg) (h4 : 0 < wd) (hi : i < 100) (hj : j < 100) : Met l yX6_isInside wsX6_isInside ({ frames := 1, cells := 0, slots := 0, locals := 22 }) (kq_R dC dI cI [.ref oM, .int (nI i), .int (nI j)] [(oM, .inr (6, [.int th, .ref rz, .ref r2, .int (nI km), .ref rb, .int (nI n), .int (nI tp), .int (nI lf), .int (nI hg), .int (nI wd), .ref rq, .int pm, .int stt, .long hh]))]) (QcRead (if (tp ≤ i ∧ i < tp + hg) ∧ (lf ≤ j ∧ j < lf + wd) then (1:Int32) else 0)) 0 0 (fun _ => False) := by
  refine kq_start (cc := cX6_isInside) (maxL := 3) (ret := (some .boolean)) (plainFor_of_name (by decide)) rfl (Nat.le_of_ble_eq_true rfl) ?_
  intro p e s m below meth c hx hb hr hml hown hlocks hts hP hK ls hl
  have hown : s.vm.findClass RX6 = some m.cls := hown
  have hl : lv_has ls 3 [(0, .ref oM), (1, .int (nI i)), (2, .int (nI j))] := hl
  refine lv_iload_n hx hb dX6_isInside_0 rfl (lv_at hl 1 rfl) ?_
  refine lv_aload_n hx hb dX6_isInside_1 rfl (lv_at hl 0 rfl) ?_
  refine va_get (D := (dC, dI)) (ci := 6) (v := .int (nI tp)) (C := RX6) (T := TX6) (N := 14) hx hb hts (by decide +kernel) hown hK.1 hP 0 rfl rfl 6 (by decide) (hts (.fieldLink RX6 54 "NoteWatermarksModel" "top" "I") (by decide +kernel)) (fun _ h9 => h9) rfl dX6_isInside_2 ?_
  refine lv_aload_n hx hb dX6_isInside_5 rfl (lv_at hl 0 rfl) ?_
  refine va_get (D := (dC, dI)) (ci := 6) (v := .int (nI tp)) (C := RX6) (T := TX6) (N := 14) hx hb hts (by decide +kernel) hown hK.1 hP 0 rfl rfl 6 (by decide) (hts (.fieldLink RX6 54 "NoteWatermarksModel" "top" "I") (by decide +kernel)) (fun _ h9 => h9) rfl dX6_isInside_6 ?_
  refine lv_aload_n hx hb dX6_isInside_9 rfl (lv_at hl 0 rfl) ?_
  refine va_get (D := (dC, dI)) (ci := 6) (v := .int (nI hg)) (C := RX6) (T := TX6) (N := 14) hx hb hts (by decide +kernel) hown hK.1 hP 0 rfl rfl 8 (by decide) (hts (.fieldLink RX6 60 "NoteWatermarksModel" "high" "I") (by decide +kernel)) (fun _ h9 => h9) rfl dX6_isInside_10 ?_
  refine lv_iadd hx hb dX6_isInside_13 ?_
  refine kq_top (z := nI (tp + hg)) (nI_add tp hg) ?_
  refine lv_iconst (v := 1) hx hb dX6_isInside_14 (by decide) ?_
  refine lv_isub hx hb dX6_isInside_15 ?_
  refine kq_top (z := nI ((tp + hg) - 1)) (pk_sub (a := (tp + hg)) (b := 1) (by omega)) ?_
  refine kq_cS (As := [.int (nI i), .int (nI tp), .int (nI ((tp + hg) - 1))]) (rest := []) ⟨hx, hb, hml, hown, hts⟩ (c_X6_in_n l dC dI cI i tp ((tp + hg) - 1) (by first | assumption | omega) (by first | assumption | omega) (by first | assumption | omega)) (va_cwS 3 hts gX6_isInside_X6_in rfl rfl rfl (by decide +kernel) ⟨Nat.le_of_ble_eq_true rfl, Nat.le_of_ble_eq_true rfl⟩) (hP.sub [] rfl) hK rfl hl.1 rfl (Nat.le_of_ble_eq_true rfl) dX6_isInside_16 ⟨Nat.le_of_ble_eq_true rfl, Nat.le_of_ble_eq_true rfl⟩ ?_
  refine lv_if_eq (tgt := 48) hx hb dX6_isInside_19 (by decide) (fun c_1 => ?_) (fun c_1 => ?_)
  · skip
    have c_1 := kq_bf c_1
    refine lv_iconst (v := 0) hx hb dX6_isInside_48 (by decide) ?_
    exact kq_retz hx hb hr hlocks dX6_isInside_49 (Or.inl rfl) (by first | rw [if_pos (by omega)] | rw [if_neg (by omega)])
  · skip
    have c_1 := kq_bt c_1
    refine lv_iload_n hx hb dX6_isInside_22 rfl (lv_at hl 2 rfl) ?_
    refine lv_aload_n hx hb dX6_isInside_23 rfl (lv_at hl 0 rfl) ?_
    refine va_get (D := (dC, dI)) (ci := 6) (v := .int (nI lf)) (C := RX6) (T := TX6) (N := 14) hx hb hts (by decide +kernel) hown hK.1 hP 0 rfl rfl 7 (by decide) (hts (.fieldLink RX6 57 "NoteWatermarksModel" "left" "I") (by decide +kernel)) (fun _ h9 => h9) rfl dX6_isInside_24 ?_
    refine lv_aload_n hx hb dX6_isInside_27 rfl (lv_at hl 0 rfl) ?_
    refine va_get (D := (dC, dI)) (ci := 6) (v := .int (nI lf)) (C := RX6) (T := TX6) (N := 14) hx hb hts (by decide +kernel) hown hK.1 hP 0 rfl rfl 7 (by decide) (hts (.fieldLink RX6 57 "NoteWatermarksModel" "left" "I") (by decide +kernel)) (fun _ h9 => h9) rfl dX6_isInside_28 ?_
    refine lv_aload_n hx hb dX6_isInside_31 rfl (lv_at hl 0 rfl) ?_
    refine va_get (D := (dC, dI)) (ci := 6) (v := .int (nI wd)) (C := RX6) (T := TX6) (N := 14) hx hb hts (by decide +kernel) hown hK.1 hP 0 rfl rfl 9 (by decide) (hts (.fieldLink RX6 63 "NoteWatermarksModel" "wide" "I") (by decide +kernel)) (fun _ h9 => h9) rfl dX6_isInside_32 ?_
    refine lv_iadd hx hb dX6_isInside_35 ?_
    refine kq_top (z := nI (lf + wd)) (nI_add lf wd) ?_
    refine lv_iconst (v := 1) hx hb dX6_isInside_36 (by decide) ?_
    refine lv_isub hx hb dX6_isInside_37 ?_
    refine kq_top (z := nI ((lf + wd) - 1)) (pk_sub (a := (lf + wd)) (b := 1) (by omega)) ?_
    refine kq_cS (As := [.int (nI j), .int (nI lf), .int (nI ((lf + wd) - 1))]) (rest := []) ⟨hx, hb, hml, hown, hts⟩ (c_X6_in_n l dC dI cI j lf ((lf + wd) - 1) (by first | assumption | omega) (by first | assumption | omega) (by first | assumption | omega)) (va_cwS 3 hts gX6_isInside_X6_in rfl rfl rfl (by decide +kernel) ⟨Nat.le_of_ble_eq_true rfl, Nat.le_of_ble_eq_true rfl⟩) (hP.sub [] rfl) hK rfl hl.1 rfl (Nat.le_of_ble_eq_true rfl) dX6_isInside_38 ⟨Nat.le_of_ble_eq_true rfl, Nat.le_of_ble_eq_true rfl⟩ ?_
    refine lv_if_eq (tgt := 48) hx hb dX6_isInside_41 (by decide) (fun c_2 => ?_) (fun c_2 => ?_)
    · skip
      have c_2 := kq_bf c_2
      refine lv_iconst (v := 0) hx hb dX6_isInside_48 (by decide) ?_
      exact kq_retz hx hb hr hlocks dX6_isInside_49 (Or.inl rfl) (by first | rw [if_pos (by omega)] | rw [if_neg (by omega)])
    · skip
      have c_2 := kq_bt c_2
      refine lv_iconst (v := 1) hx hb dX6_isInside_44 (by decide) ?_
      refine lv_goto (tgt := 49) hx hb dX6_isInside_45 (by decide) ?_
      exact kq_retz hx hb hr hlocks dX6_isInside_49 (Or.inr rfl) (by first | rw [if_pos (by omega)] | rw [if_neg (by omega)])
set_option maxHeartbeats 4000000 in
set_option maxRecDepth 100000 in
theorem c_X6_isNear (l : Launch) (dC : Nat → ClassId) (dI : Nat → Nat → Nat) (cI : ClassId) (oM : Nat) (rz : Nat) (r2 : Nat) (rb : Nat) (rq : Nat) (km : Nat) (n : Nat) (tp : Nat) (lf : Nat) (hg : Nat) (wd : Nat) (th : Int32) (pm : Int32) (stt : Int32) (hh : Int64) (z : Nat → Int32) (v : Nat → Int32) (i : Nat) (j : Nat) (h1 : tp + hg ≤ 6) (h2 : lf + wd ≤ 12) (h3 : 0 < hg) (h4 : 0 < wd) (hi : i < 100) (hj : j < 100) : Met l yX6_isNear wsX6_isNear ({ frames := 1, cells := 0, slots := 0, locals := 22 }) (kq_R dC dI cI [.ref oM, .int (nI i), .int (nI j)] [(oM, .inr (6, [.int th, .ref rz, .ref r2, .int (nI km), .ref rb, .int (nI n), .int (nI tp), .int (nI lf), .int (nI hg), .int (nI wd), .ref rq, .int pm, .int stt, .long hh]))]) (QcRead (if (tp ≤ i + 1 ∧ i ≤ tp + hg) ∧ (lf ≤ j + 1 ∧ j ≤ lf + wd) then (1:Int32) else 0)) 0 0 (fun _ => False) := by
  refine kq_start (cc := cX6_isNear) (maxL := 3) (ret := (some .boolean)) (plainFor_of_name (by decide)) rfl (Nat.le_of_ble_eq_true rfl) ?_
  intro p e s m below meth c hx hb hr hml hown hlocks hts hP hK ls hl
  have hown : s.vm.findClass RX6 = some m.cls := hown
  have hl : lv_has ls 3 [(0, .ref oM), (1, .int (nI i)), (2, .int (nI j))] := hl
  refine lv_iload_n hx hb dX6_isNear_0 rfl (lv_at hl 1 rfl) ?_
  refine lv_aload_n hx hb dX6_isNear_1 rfl (lv_at hl 0 rfl) ?_
  refine va_get (D := (dC, dI)) (ci := 6) (v := .int (nI tp)) (C := RX6) (T := TX6) (N := 14) hx hb hts (by decide +kernel) hown hK.1 hP 0 rfl rfl 6 (by decide) (hts (.fieldLink RX6 54 "NoteWatermarksModel" "top" "I") (by decide +kernel)) (fun _ h9 => h9) rfl dX6_isNear_2 ?_
  refine lv_iconst (v := 1) hx hb dX6_isNear_5 (by decide) ?_
  refine lv_isub hx hb dX6_isNear_6 ?_
  refine lv_aload_n hx hb dX6_isNear_7 rfl (lv_at hl 0 rfl) ?_
  refine va_get (D := (dC, dI)) (ci := 6) (v := .int (nI tp)) (C := RX6) (T := TX6) (N := 14) hx hb hts (by decide +kernel) hown hK.1 hP 0 rfl rfl 6 (by decide) (hts (.fieldLink RX6 54 "NoteWatermarksModel" "top" "I") (by decide +kernel)) (fun _ h9 => h9) rfl dX6_isNear_8 ?_
  refine lv_aload_n hx hb dX6_isNear_11 rfl (lv_at hl 0 rfl) ?_
  refine va_get (D := (dC, dI)) (ci := 6) (v := .int (nI hg)) (C := RX6) (T := TX6) (N := 14) hx hb hts (by decide +kernel) hown hK.1 hP 0 rfl rfl 8 (by decide) (hts (.fieldLink RX6 60 "NoteWatermarksModel" "high" "I") (by decide +kernel)) (fun _ h9 => h9) rfl dX6_isNear_12 ?_
  refine lv_iadd hx hb dX6_isNear_15 ?_
  refine kq_top (z := nI (tp + hg)) (nI_add tp hg) ?_
  refine kq_cS (As := [.int (nI i), .int ((nI tp) - 1), .int (nI (tp + hg))]) (rest := []) ⟨hx, hb, hml, hown, hts⟩ (c_X6_in l dC dI cI (nI i) ((nI tp) - 1) (nI (tp + hg)) ) (va_cwS 3 hts gX6_isNear_X6_in rfl rfl rfl (by decide +kernel) ⟨Nat.le_of_ble_eq_true rfl, Nat.le_of_ble_eq_true rfl⟩) (hP.sub [] rfl) hK rfl hl.1 rfl (Nat.le_of_ble_eq_true rfl) dX6_isNear_16 ⟨Nat.le_of_ble_eq_true rfl, Nat.le_of_ble_eq_true rfl⟩ ?_
  refine kq_top (z := if tp ≤ i + 1 ∧ i ≤ tp + hg then (1:Int32) else 0) (kq_ifc (kq_near (by omega) (by omega) (by omega))) ?_
  refine lv_if_eq (tgt := 48) hx hb dX6_isNear_19 (by decide) (fun c_1 => ?_) (fun c_1 => ?_)
  · skip
    have c_1 := kq_bf c_1
    refine lv_iconst (v := 0) hx hb dX6_isNear_48 (by decide) ?_
    exact kq_retz hx hb hr hlocks dX6_isNear_49 (Or.inl rfl) (by first | rw [if_pos (by omega)] | rw [if_neg (by omega)])
  · skip
    have c_1 := kq_bt c_1
    refine lv_iload_n hx hb dX6_isNear_22 rfl (lv_at hl 2 rfl) ?_
    refine lv_aload_n hx hb dX6_isNear_23 rfl (lv_at hl 0 rfl) ?_
    refine va_get (D := (dC, dI)) (ci := 6) (v := .int (nI lf)) (C := RX6) (T := TX6) (N := 14) hx hb hts (by decide +kernel) hown hK.1 hP 0 rfl rfl 7 (by decide) (hts (.fieldLink RX6 57 "NoteWatermarksModel" "left" "I") (by decide +kernel)) (fun _ h9 => h9) rfl dX6_isNear_24 ?_
    refine lv_iconst (v := 1) hx hb dX6_isNear_27 (by decide) ?_
    refine lv_isub hx hb dX6_isNear_28 ?_
    refine lv_aload_n hx hb dX6_isNear_29 rfl (lv_at hl 0 rfl) ?_
    refine va_get (D := (dC, dI)) (ci := 6) (v := .int (nI lf)) (C := RX6) (T := TX6) (N := 14) hx hb hts (by decide +kernel) hown hK.1 hP 0 rfl rfl 7 (by decide) (hts (.fieldLink RX6 57 "NoteWatermarksModel" "left" "I") (by decide +kernel)) (fun _ h9 => h9) rfl dX6_isNear_30 ?_
    refine lv_aload_n hx hb dX6_isNear_33 rfl (lv_at hl 0 rfl) ?_
    refine va_get (D := (dC, dI)) (ci := 6) (v := .int (nI wd)) (C := RX6) (T := TX6) (N := 14) hx hb hts (by decide +kernel) hown hK.1 hP 0 rfl rfl 9 (by decide) (hts (.fieldLink RX6 63 "NoteWatermarksModel" "wide" "I") (by decide +kernel)) (fun _ h9 => h9) rfl dX6_isNear_34 ?_
    refine lv_iadd hx hb dX6_isNear_37 ?_
    refine kq_top (z := nI (lf + wd)) (nI_add lf wd) ?_
    refine kq_cS (As := [.int (nI j), .int ((nI lf) - 1), .int (nI (lf + wd))]) (rest := []) ⟨hx, hb, hml, hown, hts⟩ (c_X6_in l dC dI cI (nI j) ((nI lf) - 1) (nI (lf + wd)) ) (va_cwS 3 hts gX6_isNear_X6_in rfl rfl rfl (by decide +kernel) ⟨Nat.le_of_ble_eq_true rfl, Nat.le_of_ble_eq_true rfl⟩) (hP.sub [] rfl) hK rfl hl.1 rfl (Nat.le_of_ble_eq_true rfl) dX6_isNear_38 ⟨Nat.le_of_ble_eq_true rfl, Nat.le_of_ble_eq_true rfl⟩ ?_
    refine kq_top (z := if lf ≤ j + 1 ∧ j ≤ lf + wd then (1:Int32) else 0) (kq_ifc (kq_near (by omega) (by omega) (by omega))) ?_
    refine lv_if_eq (tgt := 48) hx hb dX6_isNear_41 (by decide) (fun c_2 => ?_) (fun c_2 => ?_)
    · skip
      have c_2 := kq_bf c_2
      refine lv_iconst (v := 0) hx hb dX6_isNear_48 (by decide) ?_
      exact kq_retz hx hb hr hlocks dX6_isNear_49 (Or.inl rfl) (by first | rw [if_pos (by omega)] | rw [if_neg (by omega)])
    · skip
      have c_2 := kq_bt c_2
      refine lv_iconst (v := 1) hx hb dX6_isNear_44 (by decide) ?_
      refine lv_goto (tgt := 49) hx hb dX6_isNear_45 (by decide) ?_
      exact kq_retz hx hb hr hlocks dX6_isNear_49 (Or.inr rfl) (by first | rw [if_pos (by omega)] | rw [if_neg (by omega)])
set_option maxHeartbeats 4000000 in
set_option maxRecDepth 100000 in
theorem c_X6_cells (l : Launch) (dC : Nat → ClassId) (dI : Nat → Nat → Nat) (cI : ClassId) (oM : Nat) (rz : Nat) (r2 : Nat) (rb : Nat) (rq : Nat) (km : Nat) (n : Nat) (tp : Nat) (lf : Nat) (hg : Nat) (wd : Nat) (th : Int32) (pm : Int32) (stt : Int32) (hh : Int64) (z : Nat → Int32) (v : Nat → Int32)  : Met l yX6_cells wsX6_cells ({ frames := 0, cells := 0, slots := 0, locals := 0 }) (kq_R dC dI cI [.ref oM] [(oM, .inr (6, [.int th, .ref rz, .ref r2, .int (nI km), .ref rb, .int (nI n), .int (nI tp), .int (nI lf), .int (nI hg), .int (nI wd), .ref rq, .int pm, .int stt, .long hh]))]) (QcRead (nI (hg * wd))) 0 0 (fun _ => False) := by
  refine kq_start (cc := cX6_cells) (maxL := 1) (ret := (some .int)) (plainFor_of_name (by decide)) rfl (Nat.le_of_ble_eq_true rfl) ?_
  intro p e s m below meth c hx hb hr hml hown hlocks hts hP hK ls hl
  have hown : s.vm.findClass RX6 = some m.cls := hown
  have hl : lv_has ls 1 [(0, .ref oM)] := hl
  refine lv_aload_n hx hb dX6_cells_0 rfl (lv_at hl 0 rfl) ?_
  refine va_get (D := (dC, dI)) (ci := 6) (v := .int (nI hg)) (C := RX6) (T := TX6) (N := 14) hx hb hts (by decide +kernel) hown hK.1 hP 0 rfl rfl 8 (by decide) (hts (.fieldLink RX6 60 "NoteWatermarksModel" "high" "I") (by decide +kernel)) (fun _ h9 => h9) rfl dX6_cells_1 ?_
  refine lv_aload_n hx hb dX6_cells_4 rfl (lv_at hl 0 rfl) ?_
  refine va_get (D := (dC, dI)) (ci := 6) (v := .int (nI wd)) (C := RX6) (T := TX6) (N := 14) hx hb hts (by decide +kernel) hown hK.1 hP 0 rfl rfl 9 (by decide) (hts (.fieldLink RX6 63 "NoteWatermarksModel" "wide" "I") (by decide +kernel)) (fun _ h9 => h9) rfl dX6_cells_5 ?_
  refine lv_imul hx hb dX6_cells_8 ?_
  refine kq_top (z := nI (hg * wd)) (pk_mul hg wd) ?_
  exact kq_ret hx hb hr hlocks dX6_cells_9 (by rfl)
set_option maxHeartbeats 4000000 in
set_option maxRecDepth 100000 in
theorem c_X6_frame (l : Launch) (dC : Nat → ClassId) (dI : Nat → Nat → Nat) (cI : ClassId) (oM : Nat) (rz : Nat) (r2 : Nat) (rb : Nat) (rq : Nat) (km : Nat) (n : Nat) (tp : Nat) (lf : Nat) (hg : Nat) (wd : Nat) (th : Int32) (pm : Int32) (stt : Int32) (hh : Int64) (z : Nat → Int32) (v : Nat → Int32) (h1 : tp + hg ≤ 6) (h2 : lf + wd ≤ 12) (h3 : 0 < hg) (h4 : 0 < wd) : Met l yX6_frame wsX6_frame ({ frames := 2, cells := 0, slots := 0, locals := 44 }) (kq_R dC dI cI [.ref oM] [(oM, .inr (6, [.int th, .ref rz, .ref r2, .int (nI km), .ref rb, .int (nI n), .int (nI tp), .int (nI lf), .int (nI hg), .int (nI wd), .ref rq, .int pm, .int stt, .long hh]))]) (QcRead (nI (n_fr tp lf hg wd))) 0 0 (fun _ => False) := by
  refine kq_start (cc := cX6_frame) (maxL := 3) (ret := (some .int)) (plainFor_of_name (by decide)) rfl (Nat.le_of_ble_eq_true rfl) ?_
  intro p e s m below meth c hx hb hr hml hown hlocks hts hP hK ls hl
  have hown : s.vm.findClass RX6 = some m.cls := hown
  have hl : lv_has ls 3 [(0, .ref oM)] := hl
  refine lv_iconst (v := 0) hx hb dX6_frame_0 (by decide) ?_
  refine lv_istore_n (lv' := [(1, .int 0), (0, .ref oM)]) hx hb dX6_frame_1 rfl hl (by decide) rfl (fun ls hl => ?_)
  refine lv_iconst (v := 0) hx hb dX6_frame_2 (by decide) ?_
  refine lv_istore_n (lv' := [(2, .int 0), (1, .int 0), (0, .ref oM)]) hx hb dX6_frame_3 rfl hl (by decide) rfl (fun ls hl => ?_)
  refine kq_loop2 (A1 := Nat) (A2 := Nat) (fun (k : Nat) (x : Nat) => 72 - k) (fun (k : Nat) (x : Nat) => (k ≤ 72) ∧ (x = n_fc tp hg lf wd k) ∧ (x ≤ k)) (fun (k : Nat) (x : Nat) => [(0, .ref oM), (1, .int (nI x)), (2, .int (nI k))]) (nL := 3) ?_ 0 0 ⟨(by omega), (by rfl), (by omega)⟩ _ (lv_sub hl [2, 1, 0] rfl)
  intro k x hi_2 ih_1 ls hl
  obtain ⟨ik, ix, iy⟩ := hi_2
  have hl : lv_has ls 3 [(0, .ref oM), (1, .int (nI x)), (2, .int (nI k))] := hl
  refine lv_iload_n hx hb dX6_frame_4 rfl (lv_at hl 2 rfl) ?_
  refine lv_bipush (v := 72) hx hb dX6_frame_5 (by decide) ?_
  refine lv_icmp_ge (tgt := 54) hx hb dX6_frame_7 (by decide) (fun c_3 => ?_) (fun c_3 => ?_)
  · skip
    have c_3 := kq_leN (a := 72) (b := k) c_3 (by omega) (by omega)
    refine lv_iload_n hx hb dX6_frame_54 rfl (lv_at hl 1 rfl) ?_
    exact kq_ret hx hb hr hlocks dX6_frame_55 (by rw [ix, show k = 72 by omega, n_fc_eq h1 h2 h3 h4])
  · skip
    have c_3 := kq_nleN (a := 72) (b := k) c_3 (by omega) (by omega)
    refine lv_iload_n hx hb dX6_frame_10 rfl (lv_at hl 1 rfl) ?_
    refine lv_aload_n hx hb dX6_frame_11 rfl (lv_at hl 0 rfl) ?_
    refine lv_iload_n hx hb dX6_frame_12 rfl (lv_at hl 2 rfl) ?_
    refine lv_bipush (v := 12) hx hb dX6_frame_13 (by decide) ?_
    refine lv_idiv hx hb dX6_frame_15 (nI_ne0 (n := 12) (by omega) (by omega)) ?_
    refine kq_top (z := nI (k / 12)) (pk_div (a := k) (d := 12) (by omega) (by omega) (by omega)) ?_
    refine lv_iload_n hx hb dX6_frame_16 rfl (lv_at hl 2 rfl) ?_
    refine lv_bipush (v := 12) hx hb dX6_frame_17 (by decide) ?_
    refine lv_irem hx hb dX6_frame_19 (nI_ne0 (n := 12) (by omega) (by omega)) ?_
    refine kq_top (z := nI (k % 12)) (pk_rem (a := k) (d := 12) (by omega) (by omega) (by omega)) ?_
    refine kq_cV (As := [.int (nI (k / 12)), .int (nI (k % 12))]) (rest := [.int (nI x)]) ⟨hx, hb, hml, hown, hts⟩ (c_X6_isNear l dC dI cI oM rz r2 rb rq km n tp lf hg wd th pm stt hh z v (k / 12) (k % 12) (by first | assumption | omega) (by first | assumption | omega) (by first | assumption | omega) (by first | assumption | omega) (by first | assumption | omega) (by first | assumption | omega)) (cwV 2 hts gX6_frame_X6_isNear rfl rfl rfl (by decide +kernel) ⟨Nat.le_of_ble_eq_true rfl, Nat.le_of_ble_eq_true rfl⟩) (hP.sub [0] rfl) hK (ci := 6) (q0 := 0) rfl rfl rfl rfl hl.1 rfl (Nat.le_of_ble_eq_true rfl) dX6_frame_20 ⟨Nat.le_of_ble_eq_true rfl, Nat.le_of_ble_eq_true rfl⟩ ?_
    refine lv_if_eq (tgt := 45) hx hb dX6_frame_23 (by decide) (fun c_4 => ?_) (fun c_4 => ?_)
    · skip
      have c_4 := kq_bf c_4
      refine lv_iconst (v := 0) hx hb dX6_frame_45 (by decide) ?_
      refine lv_iadd hx hb dX6_frame_46 ?_
      refine kq_top (z := nI (x + 0)) (nI_add x 0) ?_
      refine lv_istore_n (lv' := [(1, .int (nI (x + 0))), (0, .ref oM), (2, .int (nI k))]) hx hb dX6_frame_47 rfl hl (by decide) rfl (fun ls hl => ?_)
      refine lv_iinc (v := nI (k + 1)) (lv' := [(2, .int (nI (k + 1))), (1, .int (nI (x + 0))), (0, .ref oM)]) hx hb dX6_frame_48 hl (k := 2) rfl (nI_1 k) (by decide) rfl (fun ls hl => ?_)
      refine lv_goto (tgt := 4) hx hb dX6_frame_51 (by decide) ?_
      exact ih_1 (k + 1) (x + 0) ⟨(by omega), (by rw [n_fc_s, ← ix]; first | rw [if_pos (by omega)] | rw [if_neg (by omega)]), (by omega)⟩ (by show 72 - (k + 1) < 72 - k; omega) _ (lv_sub hl [2, 1, 0] rfl)
    · skip
      have c_4 := kq_bt c_4
      refine lv_aload_n hx hb dX6_frame_26 rfl (lv_at hl 0 rfl) ?_
      refine lv_iload_n hx hb dX6_frame_27 rfl (lv_at hl 2 rfl) ?_
      refine lv_bipush (v := 12) hx hb dX6_frame_28 (by decide) ?_
      refine lv_idiv hx hb dX6_frame_30 (nI_ne0 (n := 12) (by omega) (by omega)) ?_
      refine kq_top (z := nI (k / 12)) (pk_div (a := k) (d := 12) (by omega) (by omega) (by omega)) ?_
      refine lv_iload_n hx hb dX6_frame_31 rfl (lv_at hl 2 rfl) ?_
      refine lv_bipush (v := 12) hx hb dX6_frame_32 (by decide) ?_
      refine lv_irem hx hb dX6_frame_34 (nI_ne0 (n := 12) (by omega) (by omega)) ?_
      refine kq_top (z := nI (k % 12)) (pk_rem (a := k) (d := 12) (by omega) (by omega) (by omega)) ?_
      refine kq_cV (As := [.int (nI (k / 12)), .int (nI (k % 12))]) (rest := [.int (nI x)]) ⟨hx, hb, hml, hown, hts⟩ (c_X6_isInside l dC dI cI oM rz r2 rb rq km n tp lf hg wd th pm stt hh z v (k / 12) (k % 12) (by first | assumption | omega) (by first | assumption | omega) (by first | assumption | omega) (by first | assumption | omega) (by first | assumption | omega) (by first | assumption | omega)) (cwV 2 hts gX6_frame_X6_isInside rfl rfl rfl (by decide +kernel) ⟨Nat.le_of_ble_eq_true rfl, Nat.le_of_ble_eq_true rfl⟩) (hP.sub [0] rfl) hK (ci := 6) (q0 := 0) rfl rfl rfl rfl hl.1 rfl (Nat.le_of_ble_eq_true rfl) dX6_frame_35 ⟨Nat.le_of_ble_eq_true rfl, Nat.le_of_ble_eq_true rfl⟩ ?_
      refine lv_if_ne (tgt := 45) hx hb dX6_frame_38 (by decide) (fun c_5 => ?_) (fun c_5 => ?_)
      · skip
        have c_5 := kq_bt c_5
        refine lv_iconst (v := 0) hx hb dX6_frame_45 (by decide) ?_
        refine lv_iadd hx hb dX6_frame_46 ?_
        refine kq_top (z := nI (x + 0)) (nI_add x 0) ?_
        refine lv_istore_n (lv' := [(1, .int (nI (x + 0))), (0, .ref oM), (2, .int (nI k))]) hx hb dX6_frame_47 rfl hl (by decide) rfl (fun ls hl => ?_)
        refine lv_iinc (v := nI (k + 1)) (lv' := [(2, .int (nI (k + 1))), (1, .int (nI (x + 0))), (0, .ref oM)]) hx hb dX6_frame_48 hl (k := 2) rfl (nI_1 k) (by decide) rfl (fun ls hl => ?_)
        refine lv_goto (tgt := 4) hx hb dX6_frame_51 (by decide) ?_
        exact ih_1 (k + 1) (x + 0) ⟨(by omega), (by rw [n_fc_s, ← ix]; first | rw [if_pos (by omega)] | rw [if_neg (by omega)]), (by omega)⟩ (by show 72 - (k + 1) < 72 - k; omega) _ (lv_sub hl [2, 1, 0] rfl)
      · skip
        have c_5 := kq_bf c_5
        refine lv_iconst (v := 1) hx hb dX6_frame_41 (by decide) ?_
        refine lv_goto (tgt := 46) hx hb dX6_frame_42 (by decide) ?_
        refine lv_iadd hx hb dX6_frame_46 ?_
        refine kq_top (z := nI (x + 1)) (nI_add x 1) ?_
        refine lv_istore_n (lv' := [(1, .int (nI (x + 1))), (0, .ref oM), (2, .int (nI k))]) hx hb dX6_frame_47 rfl hl (by decide) rfl (fun ls hl => ?_)
        refine lv_iinc (v := nI (k + 1)) (lv' := [(2, .int (nI (k + 1))), (1, .int (nI (x + 1))), (0, .ref oM)]) hx hb dX6_frame_48 hl (k := 2) rfl (nI_1 k) (by decide) rfl (fun ls hl => ?_)
        refine lv_goto (tgt := 4) hx hb dX6_frame_51 (by decide) ?_
        exact ih_1 (k + 1) (x + 1) ⟨(by omega), (by rw [n_fc_s, ← ix]; first | rw [if_pos (by omega)] | rw [if_neg (by omega)]), (by omega)⟩ (by show 72 - (k + 1) < 72 - k; omega) _ (lv_sub hl [2, 1, 0] rfl)
set_option maxHeartbeats 4000000 in
set_option maxRecDepth 100000 in
theorem c_X6_isHidden (l : Launch) (dC : Nat → ClassId) (dI : Nat → Nat → Nat) (cI : ClassId) (oM : Nat) (rz : Nat) (r2 : Nat) (rb : Nat) (rq : Nat) (km : Nat) (n : Nat) (tp : Nat) (lf : Nat) (hg : Nat) (wd : Nat) (th : Int32) (pm : Int32) (stt : Int32) (hh : Int64) (z : Nat → Int32) (v : Nat → Int32) (f : Nat) (hz : n_Z v z) (h1 : tp + hg ≤ 6) (h2 : lf + wd ≤ 12) (h3 : 0 < hg) (h4 : 0 < wd) (f0 : tp = n_f v f 0) (f1 : lf = n_f v f 1) (f2 : hg = n_f v f 2) (f3 : wd = n_f v f 3) : Met l yX6_isHidden wsX6_isHidden ({ frames := 2, cells := 0, slots := 0, locals := 44 }) (kq_R dC dI cI [.ref oM] [(oM, .inr (6, [.int th, .ref rz, .ref r2, .int (nI km), .ref rb, .int (nI n), .int (nI tp), .int (nI lf), .int (nI hg), .int (nI wd), .ref rq, .int pm, .int stt, .long hh])), (rz, .inl (cI, 389, .inl z))]) (QcRead (if n_hid v f then (1:Int32) else 0)) 0 0 (fun _ => False) := by
  refine kq_start (cc := cX6_isHidden) (maxL := 4) (ret := (some .boolean)) (plainFor_of_name (by decide)) rfl (Nat.le_of_ble_eq_true rfl) ?_
  intro p e s m below meth c hx hb hr hml hown hlocks hts hP hK ls hl
  have hown : s.vm.findClass RX6 = some m.cls := hown
  have hl : lv_has ls 4 [(0, .ref oM)] := hl
  refine lv_aload_n hx hb dX6_isHidden_0 rfl (lv_at hl 0 rfl) ?_
  refine lv_aload_n hx hb dX6_isHidden_1 rfl (lv_at hl 0 rfl) ?_
  refine va_get (D := (dC, dI)) (ci := 6) (v := .int (nI tp)) (C := RX6) (T := TX6) (N := 14) hx hb hts (by decide +kernel) hown hK.1 hP 0 rfl rfl 6 (by decide) (hts (.fieldLink RX6 54 "NoteWatermarksModel" "top" "I") (by decide +kernel)) (fun _ h9 => h9) rfl dX6_isHidden_2 ?_
  refine lv_aload_n hx hb dX6_isHidden_5 rfl (lv_at hl 0 rfl) ?_
  refine va_get (D := (dC, dI)) (ci := 6) (v := .int (nI lf)) (C := RX6) (T := TX6) (N := 14) hx hb hts (by decide +kernel) hown hK.1 hP 0 rfl rfl 7 (by decide) (hts (.fieldLink RX6 57 "NoteWatermarksModel" "left" "I") (by decide +kernel)) (fun _ h9 => h9) rfl dX6_isHidden_6 ?_
  refine kq_cV (As := [.int (nI tp), .int (nI lf)]) (rest := []) ⟨hx, hb, hml, hown, hts⟩ (c_X6_inkAt l dC dI cI oM rz r2 rb rq km n th (nI tp) (nI lf) (nI hg) (nI wd) pm stt hh z v tp lf (by first | assumption | omega) (by first | assumption | omega) (by first | assumption | omega)) (cwV 2 hts gX6_isHidden_X6_inkAt rfl rfl rfl (by decide +kernel) ⟨Nat.le_of_ble_eq_true rfl, Nat.le_of_ble_eq_true rfl⟩) (hP.sub [0, 1] rfl) hK (ci := 6) (q0 := 0) rfl rfl rfl rfl hl.1 rfl (Nat.le_of_ble_eq_true rfl) dX6_isHidden_9 ⟨Nat.le_of_ble_eq_true rfl, Nat.le_of_ble_eq_true rfl⟩ ?_
  refine lv_istore_n (lv' := [(1, .int (v (294 + tp * 12 + lf))), (0, .ref oM)]) hx hb dX6_isHidden_12 rfl hl (by decide) rfl (fun ls hl => ?_)
  refine lv_iconst (v := 1) hx hb dX6_isHidden_13 (by decide) ?_
  refine lv_istore_n (lv' := [(2, .int 1), (1, .int (v (294 + tp * 12 + lf))), (0, .ref oM)]) hx hb dX6_isHidden_14 rfl hl (by decide) rfl (fun ls hl => ?_)
  refine lv_iconst (v := 0) hx hb dX6_isHidden_15 (by decide) ?_
  refine lv_istore_n (lv' := [(3, .int 0), (2, .int 1), (1, .int (v (294 + tp * 12 + lf))), (0, .ref oM)]) hx hb dX6_isHidden_16 rfl hl (by decide) rfl (fun ls hl => ?_)
  refine kq_loop2 (A1 := Nat) (A2 := Bool) (fun (k : Nat) (b9 : Bool) => 72 - k) (fun (k : Nat) (b9 : Bool) => (k ≤ 72) ∧ (b9 = true ↔ ∀ j, j < k → n_hidP v f j)) (fun (k : Nat) (b9 : Bool) => [(0, .ref oM), (1, .int (v (294 + tp * 12 + lf))), (2, .int (if b9 = true then (1:Int32) else 0)), (3, .int (nI k))]) (nL := 4) ?_ 0 true ⟨(by omega), (by exact ⟨fun _ j hj => by omega, fun _ => rfl⟩)⟩ _ (lv_sub hl [3, 2, 1, 0] rfl)
  intro k b9 hi_2 ih_1 ls hl
  obtain ⟨ik, ib⟩ := hi_2
  have hl : lv_has ls 4 [(0, .ref oM), (1, .int (v (294 + tp * 12 + lf))), (2, .int (if b9 = true then (1:Int32) else 0)), (3, .int (nI k))] := hl
  refine lv_iload_n hx hb dX6_isHidden_17 rfl (lv_at hl 3 rfl) ?_
  refine lv_bipush (v := 72) hx hb dX6_isHidden_18 (by decide) ?_
  refine lv_icmp_ge (tgt := 70) hx hb dX6_isHidden_20 (by decide) (fun c_3 => ?_) (fun c_3 => ?_)
  · skip
    have c_3 := kq_leN (a := 72) (b := k) c_3 (by omega) (by omega)
    refine lv_iload_n hx hb dX6_isHidden_70 rfl (lv_at hl 2 rfl) ?_
    exact kq_retz hx hb hr hlocks dX6_isHidden_71 (by cases b9 <;> simp) (by have hbb : b9 = n_hid v f := (by rw [Bool.eq_iff_iff, ib, show k = 72 by omega, n_hid_iff]); rw [hbb])
  · skip
    have c_3 := kq_nleN (a := 72) (b := k) c_3 (by omega) (by omega)
    refine lv_iload_n hx hb dX6_isHidden_23 rfl (lv_at hl 2 rfl) ?_
    refine lv_if_eq (tgt := 62) hx hb dX6_isHidden_24 (by decide) (fun c_4 => ?_) (fun c_4 => ?_)
    · skip
      have c_4 := kq_bf c_4
      refine lv_iconst (v := 0) hx hb dX6_isHidden_62 (by decide) ?_
      refine lv_istore_n (lv' := [(2, .int 0), (0, .ref oM), (1, .int (v (294 + tp * 12 + lf))), (3, .int (nI k))]) hx hb dX6_isHidden_63 rfl hl (by decide) rfl (fun ls hl => ?_)
      refine lv_iinc (v := nI (k + 1)) (lv' := [(3, .int (nI (k + 1))), (2, .int 0), (0, .ref oM), (1, .int (v (294 + tp * 12 + lf)))]) hx hb dX6_isHidden_64 hl (k := 3) rfl (nI_1 k) (by decide) rfl (fun ls hl => ?_)
      refine lv_goto (tgt := 17) hx hb dX6_isHidden_67 (by decide) ?_
      exact ih_1 (k + 1) false ⟨(by omega), (by first | exact ⟨fun _ j hj => by rcases Nat.lt_or_ge j k with q | q; exact ib.mp (by assumption) j q; rw [show j = k by omega]; exact hpk, fun _ => rfl⟩ | exact ⟨fun q => absurd q (by decide), fun q => absurd (ib.mpr (fun j hj => q j (by omega))) (by assumption)⟩ | exact ⟨fun q => absurd q (by decide), fun q => absurd (q k (by omega)) hpk⟩)⟩ (by show 72 - (k + 1) < 72 - k; omega) _ (lv_sub hl [2, 3, 1, 0] rfl)
    · skip
      have c_4 := kq_bt c_4
      have hka : k / 12 * 12 + k % 12 = k := by omega
      refine lv_aload_n hx hb dX6_isHidden_27 rfl (lv_at hl 0 rfl) ?_
      refine lv_iload_n hx hb dX6_isHidden_28 rfl (lv_at hl 3 rfl) ?_
      refine lv_bipush (v := 12) hx hb dX6_isHidden_29 (by decide) ?_
      refine lv_idiv hx hb dX6_isHidden_31 (nI_ne0 (n := 12) (by omega) (by omega)) ?_
      refine kq_top (z := nI (k / 12)) (pk_div (a := k) (d := 12) (by omega) (by omega) (by omega)) ?_
      refine lv_iload_n hx hb dX6_isHidden_32 rfl (lv_at hl 3 rfl) ?_
      refine lv_bipush (v := 12) hx hb dX6_isHidden_33 (by decide) ?_
      refine lv_irem hx hb dX6_isHidden_35 (nI_ne0 (n := 12) (by omega) (by omega)) ?_
      refine kq_top (z := nI (k % 12)) (pk_rem (a := k) (d := 12) (by omega) (by omega) (by omega)) ?_
      refine kq_cV (As := [.int (nI (k / 12)), .int (nI (k % 12))]) (rest := []) ⟨hx, hb, hml, hown, hts⟩ (c_X6_isNear l dC dI cI oM rz r2 rb rq km n tp lf hg wd th pm stt hh z v (k / 12) (k % 12) (by first | assumption | omega) (by first | assumption | omega) (by first | assumption | omega) (by first | assumption | omega) (by first | assumption | omega) (by first | assumption | omega)) (cwV 2 hts gX6_isHidden_X6_isNear rfl rfl rfl (by decide +kernel) ⟨Nat.le_of_ble_eq_true rfl, Nat.le_of_ble_eq_true rfl⟩) (hP.sub [0] rfl) hK (ci := 6) (q0 := 0) rfl rfl rfl rfl hl.1 rfl (Nat.le_of_ble_eq_true rfl) dX6_isHidden_36 ⟨Nat.le_of_ble_eq_true rfl, Nat.le_of_ble_eq_true rfl⟩ ?_
      refine lv_if_eq (tgt := 58) hx hb dX6_isHidden_39 (by decide) (fun c_5 => ?_) (fun c_5 => ?_)
      · skip
        have c_5 := kq_bf c_5
        have hpk : n_hidP v f k := fun q => absurd (by rw [f0, f1, f2, f3]; exact q) c_5
        refine lv_iconst (v := 1) hx hb dX6_isHidden_58 (by decide) ?_
        refine lv_goto (tgt := 63) hx hb dX6_isHidden_59 (by decide) ?_
        refine lv_istore_n (lv' := [(2, .int 1), (0, .ref oM), (1, .int (v (294 + tp * 12 + lf))), (3, .int (nI k))]) hx hb dX6_isHidden_63 rfl hl (by decide) rfl (fun ls hl => ?_)
        refine lv_iinc (v := nI (k + 1)) (lv' := [(3, .int (nI (k + 1))), (2, .int 1), (0, .ref oM), (1, .int (v (294 + tp * 12 + lf)))]) hx hb dX6_isHidden_64 hl (k := 3) rfl (nI_1 k) (by decide) rfl (fun ls hl => ?_)
        refine lv_goto (tgt := 17) hx hb dX6_isHidden_67 (by decide) ?_
        exact ih_1 (k + 1) true ⟨(by omega), (by first | exact ⟨fun _ j hj => by rcases Nat.lt_or_ge j k with q | q; exact ib.mp (by assumption) j q; rw [show j = k by omega]; exact hpk, fun _ => rfl⟩ | exact ⟨fun q => absurd q (by decide), fun q => absurd (ib.mpr (fun j hj => q j (by omega))) (by assumption)⟩ | exact ⟨fun q => absurd q (by decide), fun q => absurd (q k (by omega)) hpk⟩)⟩ (by show 72 - (k + 1) < 72 - k; omega) _ (lv_sub hl [2, 3, 1, 0] rfl)
      · skip
        have c_5 := kq_bt c_5
        refine lv_aload_n hx hb dX6_isHidden_42 rfl (lv_at hl 0 rfl) ?_
        refine lv_iload_n hx hb dX6_isHidden_43 rfl (lv_at hl 3 rfl) ?_
        refine lv_bipush (v := 12) hx hb dX6_isHidden_44 (by decide) ?_
        refine lv_idiv hx hb dX6_isHidden_46 (nI_ne0 (n := 12) (by omega) (by omega)) ?_
        refine kq_top (z := nI (k / 12)) (pk_div (a := k) (d := 12) (by omega) (by omega) (by omega)) ?_
        refine lv_iload_n hx hb dX6_isHidden_47 rfl (lv_at hl 3 rfl) ?_
        refine lv_bipush (v := 12) hx hb dX6_isHidden_48 (by decide) ?_
        refine lv_irem hx hb dX6_isHidden_50 (nI_ne0 (n := 12) (by omega) (by omega)) ?_
        refine kq_top (z := nI (k % 12)) (pk_rem (a := k) (d := 12) (by omega) (by omega) (by omega)) ?_
        refine kq_cV (As := [.int (nI (k / 12)), .int (nI (k % 12))]) (rest := []) ⟨hx, hb, hml, hown, hts⟩ (c_X6_inkAt l dC dI cI oM rz r2 rb rq km n th (nI tp) (nI lf) (nI hg) (nI wd) pm stt hh z v (k / 12) (k % 12) (by first | assumption | omega) (by first | assumption | omega) (by first | assumption | omega)) (cwV 2 hts gX6_isHidden_X6_inkAt rfl rfl rfl (by decide +kernel) ⟨Nat.le_of_ble_eq_true rfl, Nat.le_of_ble_eq_true rfl⟩) (hP.sub [0, 1] rfl) hK (ci := 6) (q0 := 0) rfl rfl rfl rfl hl.1 rfl (Nat.le_of_ble_eq_true rfl) dX6_isHidden_51 ⟨Nat.le_of_ble_eq_true rfl, Nat.le_of_ble_eq_true rfl⟩ ?_
        refine lv_iload_n hx hb dX6_isHidden_54 rfl (lv_at hl 1 rfl) ?_
        refine lv_icmp_ne (tgt := 62) hx hb dX6_isHidden_55 (by decide) (fun c_6 => ?_) (fun c_6 => ?_)
        · skip
          have hpk : ¬ n_hidP v f k := fun q => c_6 (by rw [show 294 + k / 12 * 12 + k % 12 = 294 + k by omega, show 294 + tp * 12 + lf = 294 + (n_f v f 0 * 12 + n_f v f 1) by omega]; exact q (by rw [← f0, ← f1, ← f2, ← f3]; assumption))
          refine lv_iconst (v := 0) hx hb dX6_isHidden_62 (by decide) ?_
          refine lv_istore_n (lv' := [(2, .int 0), (0, .ref oM), (1, .int (v (294 + tp * 12 + lf))), (3, .int (nI k))]) hx hb dX6_isHidden_63 rfl hl (by decide) rfl (fun ls hl => ?_)
          refine lv_iinc (v := nI (k + 1)) (lv' := [(3, .int (nI (k + 1))), (2, .int 0), (0, .ref oM), (1, .int (v (294 + tp * 12 + lf)))]) hx hb dX6_isHidden_64 hl (k := 3) rfl (nI_1 k) (by decide) rfl (fun ls hl => ?_)
          refine lv_goto (tgt := 17) hx hb dX6_isHidden_67 (by decide) ?_
          exact ih_1 (k + 1) false ⟨(by omega), (by first | exact ⟨fun _ j hj => by rcases Nat.lt_or_ge j k with q | q; exact ib.mp (by assumption) j q; rw [show j = k by omega]; exact hpk, fun _ => rfl⟩ | exact ⟨fun q => absurd q (by decide), fun q => absurd (ib.mpr (fun j hj => q j (by omega))) (by assumption)⟩ | exact ⟨fun q => absurd q (by decide), fun q => absurd (q k (by omega)) hpk⟩)⟩ (by show 72 - (k + 1) < 72 - k; omega) _ (lv_sub hl [2, 3, 1, 0] rfl)
        · skip
          have hpk : n_hidP v f k := fun _ => by have h9 := c_6; rw [show 294 + k / 12 * 12 + k % 12 = 294 + k by omega, show 294 + tp * 12 + lf = 294 + (n_f v f 0 * 12 + n_f v f 1) by omega] at h9; exact h9
          refine lv_iconst (v := 1) hx hb dX6_isHidden_58 (by decide) ?_
          refine lv_goto (tgt := 63) hx hb dX6_isHidden_59 (by decide) ?_
          refine lv_istore_n (lv' := [(2, .int 1), (0, .ref oM), (1, .int (v (294 + tp * 12 + lf))), (3, .int (nI k))]) hx hb dX6_isHidden_63 rfl hl (by decide) rfl (fun ls hl => ?_)
          refine lv_iinc (v := nI (k + 1)) (lv' := [(3, .int (nI (k + 1))), (2, .int 1), (0, .ref oM), (1, .int (v (294 + tp * 12 + lf)))]) hx hb dX6_isHidden_64 hl (k := 3) rfl (nI_1 k) (by decide) rfl (fun ls hl => ?_)
          refine lv_goto (tgt := 17) hx hb dX6_isHidden_67 (by decide) ?_
          exact ih_1 (k + 1) true ⟨(by omega), (by first | exact ⟨fun _ j hj => by rcases Nat.lt_or_ge j k with q | q; exact ib.mp (by assumption) j q; rw [show j = k by omega]; exact hpk, fun _ => rfl⟩ | exact ⟨fun q => absurd q (by decide), fun q => absurd (ib.mpr (fun j hj => q j (by omega))) (by assumption)⟩ | exact ⟨fun q => absurd q (by decide), fun q => absurd (q k (by omega)) hpk⟩)⟩ (by show 72 - (k + 1) < 72 - k; omega) _ (lv_sub hl [2, 3, 1, 0] rfl)
set_option maxHeartbeats 4000000 in
set_option maxRecDepth 100000 in
theorem c_X6_divided (l : Launch) (dC : Nat → ClassId) (dI : Nat → Nat → Nat) (cI : ClassId) (x : Int32) (d : Nat) (hd0 : 0 < d) (hd9 : d < 2 ^ 31) : Met l yX6_divided wsX6_divided ({ frames := 0, cells := 0, slots := 0, locals := 0 }) (kq_R dC dI cI [.int x, .int (nI d)] []) (QcRead (n_div x (nI d))) 0 0 (fun _ => False) := by
  refine kq_start (cc := cX6_divided) (maxL := 3) (ret := (some .int)) (plainFor_of_name (by decide)) rfl (Nat.le_of_ble_eq_true rfl) ?_
  intro p e s m below meth c hx hb hr hml hown hlocks hts hP hK ls hl
  have hown : s.vm.findClass RX6 = some m.cls := hown
  have hl : lv_has ls 3 [(0, .int x), (1, .int (nI d))] := hl
  refine lv_iload_n hx hb dX6_divided_0 rfl (lv_at hl 0 rfl) ?_
  refine lv_iload_n hx hb dX6_divided_1 rfl (lv_at hl 1 rfl) ?_
  refine lv_idiv hx hb dX6_divided_2 (nI_ne0 hd0 hd9) ?_
  refine lv_istore_n (lv' := [(2, .int (x / (nI d))), (0, .int x), (1, .int (nI d))]) hx hb dX6_divided_3 rfl hl (by decide) rfl (fun ls hl => ?_)
  refine lv_iload_n hx hb dX6_divided_4 rfl (lv_at hl 1 rfl) ?_
  refine lv_iload_n hx hb dX6_divided_5 rfl (lv_at hl 2 rfl) ?_
  refine lv_irem hx hb dX6_divided_6 (nI_ne0 hd0 hd9) ?_
  refine lv_if_ge (tgt := 16) hx hb dX6_divided_7 (by decide) (fun c_1 => ?_) (fun c_1 => ?_)
  · skip
    refine lv_iload_n hx hb dX6_divided_16 rfl (lv_at hl 0 rfl) ?_
    exact kq_ret hx hb hr hlocks dX6_divided_17 (by first | rw [n_div, if_pos (Int32.not_le.mp (by assumption))] | rw [n_div, if_neg (Int32.not_lt.mpr (by assumption))])
  · skip
    refine lv_iload_n hx hb dX6_divided_10 rfl (lv_at hl 0 rfl) ?_
    refine lv_iconst (v := 1) hx hb dX6_divided_11 (by decide) ?_
    refine lv_isub hx hb dX6_divided_12 ?_
    refine lv_goto (tgt := 17) hx hb dX6_divided_13 (by decide) ?_
    exact kq_ret hx hb hr hlocks dX6_divided_17 (by first | rw [n_div, if_pos (Int32.not_le.mp (by assumption))] | rw [n_div, if_neg (Int32.not_lt.mpr (by assumption))])
set_option maxHeartbeats 4000000 in
set_option maxRecDepth 100000 in
theorem c_X6_contrastOn (l : Launch) (dC : Nat → ClassId) (dI : Nat → Nat → Nat) (cI : ClassId) (oM : Nat) (rz : Nat) (r2 : Nat) (rb : Nat) (rq : Nat) (km : Nat) (n : Nat) (tp : Nat) (lf : Nat) (hg : Nat) (wd : Nat) (th : Int32) (pm : Int32) (stt : Int32) (hh : Int64) (z : Nat → Int32) (v : Nat → Int32) (k : Nat) (hz : n_Z v z) (hI : n_I v) (h1 : tp + hg ≤ 6) (h2 : lf + wd ≤ 12) (h3 : 0 < hg) (h4 : 0 < wd) (hk : k < 1000) : Met l yX6_contrastOn wsX6_contrastOn ({ frames := 4, cells := 0, slots := 0, locals := 96 }) (kq_R dC dI cI [.ref oM, .int (nI k)] [(oM, .inr (6, [.int th, .ref rz, .ref r2, .int (nI km), .ref rb, .int (nI n), .int (nI tp), .int (nI lf), .int (nI hg), .int (nI wd), .ref rq, .int pm, .int stt, .long hh])), (rz, .inl (cI, 389, .inl z))]) (QcRead (n_cr v k tp lf hg wd)) 0 0 (fun _ => False) := by
  refine kq_start (cc := cX6_contrastOn) (maxL := 7) (ret := (some .int)) (plainFor_of_name (by decide)) rfl (Nat.le_of_ble_eq_true rfl) ?_
  intro p e s m below meth c hx hb hr hml hown hlocks hts hP hK ls hl
  have hown : s.vm.findClass RX6 = some m.cls := hown
  have hl : lv_has ls 7 [(0, .ref oM), (1, .int (nI k))] := hl
  have hcw : 0 < hg * wd := Nat.mul_pos h3 h4
  have hcw9 : hg * wd ≤ 6 * 12 := Nat.mul_le_mul (by omega) (by omega)
  have hf9 : n_fr tp lf hg wd ≤ 72 := Nat.le_trans (Nat.sub_le _ _) (Nat.mul_le_mul (show min (tp + hg + 1) 6 - (tp - 1) ≤ 6 by omega) (show min (lf + wd + 1) 12 - (lf - 1) ≤ 12 by omega))
  have hp9 : n_fr tp lf hg wd * (hg * wd) ≤ 72 * 72 := Nat.mul_le_mul hf9 hcw9
  refine lv_iconst (v := 0) hx hb dX6_contrastOn_0 (by decide) ?_
  refine lv_istore_n (lv' := [(2, .int 0), (0, .ref oM), (1, .int (nI k))]) hx hb dX6_contrastOn_1 rfl hl (by decide) rfl (fun ls hl => ?_)
  refine lv_iconst (v := 0) hx hb dX6_contrastOn_2 (by decide) ?_
  refine lv_istore_n (lv' := [(3, .int 0), (2, .int 0), (0, .ref oM), (1, .int (nI k))]) hx hb dX6_contrastOn_3 rfl hl (by decide) rfl (fun ls hl => ?_)
  refine lv_iconst (v := 0) hx hb dX6_contrastOn_4 (by decide) ?_
  refine lv_istore (lv' := [(4, .int 0), (3, .int 0), (2, .int 0), (0, .ref oM), (1, .int (nI k))]) hx hb dX6_contrastOn_5 hl (by decide) rfl (fun ls hl => ?_)
  refine kq_loop3 (A1 := Nat) (A2 := Int32) (A3 := Int32) (fun (q : Nat) (x : Int32) (y : Int32) => 72 - q) (fun (q : Nat) (x : Int32) (y : Int32) => (q ≤ 72) ∧ (x = n_mi (fun q => n_li v k (q / 12) (q % 12)) tp hg lf wd q) ∧ (y = n_ma (fun q => n_li v k (q / 12) (q % 12)) tp hg lf wd q)) (fun (q : Nat) (x : Int32) (y : Int32) => [(0, .ref oM), (1, .int (nI k)), (2, .int x), (3, .int y), (4, .int (nI q))]) (nL := 7) ?_ 0 0 0 ⟨(by omega), (by rfl), (by rfl)⟩ _ (lv_sub hl [3, 4, 2, 1, 0] rfl)
  intro q x y hi_2 ih_1 ls hl
  obtain ⟨iq, ix, iy⟩ := hi_2
  have hl : lv_has ls 7 [(0, .ref oM), (1, .int (nI k)), (2, .int x), (3, .int y), (4, .int (nI q))] := hl
  refine lv_iload hx hb dX6_contrastOn_7 (lv_at hl 4 rfl) ?_
  refine lv_bipush (v := 72) hx hb dX6_contrastOn_9 (by decide) ?_
  refine lv_icmp_ge (tgt := 83) hx hb dX6_contrastOn_11 (by decide) (fun c_3 => ?_) (fun c_3 => ?_)
  · skip
    have c_3 := kq_leN (a := 72) (b := q) c_3 (by omega) (by omega)
    refine lv_aload_n hx hb dX6_contrastOn_83 rfl (lv_at hl 0 rfl) ?_
    refine kq_cV (As := []) (rest := []) ⟨hx, hb, hml, hown, hts⟩ (c_X6_frame l dC dI cI oM rz r2 rb rq km n tp lf hg wd th pm stt hh z v (by first | assumption | omega) (by first | assumption | omega) (by first | assumption | omega) (by first | assumption | omega)) (cwV 0 hts gX6_contrastOn_X6_frame rfl rfl rfl (by decide +kernel) ⟨Nat.le_of_ble_eq_true rfl, Nat.le_of_ble_eq_true rfl⟩) (hP.sub [0] rfl) hK (ci := 6) (q0 := 0) rfl rfl rfl rfl hl.1 rfl (Nat.le_of_ble_eq_true rfl) dX6_contrastOn_84 ⟨Nat.le_of_ble_eq_true rfl, Nat.le_of_ble_eq_true rfl⟩ ?_
    refine lv_istore (lv' := [(4, .int (nI (n_fr tp lf hg wd))), (0, .ref oM), (1, .int (nI k)), (2, .int x), (3, .int y)]) hx hb dX6_contrastOn_87 hl (by decide) rfl (fun ls hl => ?_)
    refine lv_iload hx hb dX6_contrastOn_89 (lv_at hl 0 rfl) ?_
    refine lv_if_ne (tgt := 98) hx hb dX6_contrastOn_91 (by decide) (fun c_4 => ?_) (fun c_4 => ?_)
    · skip
      have c_4 := kq_neN (a := (n_fr tp lf hg wd)) (b := 0) c_4 (by omega) (by omega)
      have hpos : 0 < n_fr tp lf hg wd * (hg * wd) := Nat.mul_pos (by omega) hcw
      refine lv_iload_n hx hb dX6_contrastOn_98 rfl (lv_at hl 3 rfl) ?_
      refine lv_iload hx hb dX6_contrastOn_99 (lv_at hl 0 rfl) ?_
      refine lv_imul hx hb dX6_contrastOn_101 ?_
      refine lv_iload_n hx hb dX6_contrastOn_102 rfl (lv_at hl 4 rfl) ?_
      refine lv_aload_n hx hb dX6_contrastOn_103 rfl (lv_at hl 1 rfl) ?_
      refine kq_cV (As := []) (rest := [.int y, .int (x * (nI (n_fr tp lf hg wd)))]) ⟨hx, hb, hml, hown, hts⟩ (c_X6_cells l dC dI cI oM rz r2 rb rq km n tp lf hg wd th pm stt hh z v ) (cwV 0 hts gX6_contrastOn_X6_cells rfl rfl rfl (by decide +kernel) ⟨Nat.le_of_ble_eq_true rfl, Nat.le_of_ble_eq_true rfl⟩) (hP.sub [0] rfl) hK (ci := 6) (q0 := 0) rfl rfl rfl rfl hl.1 rfl (Nat.le_of_ble_eq_true rfl) dX6_contrastOn_104 ⟨Nat.le_of_ble_eq_true rfl, Nat.le_of_ble_eq_true rfl⟩ ?_
      refine lv_imul hx hb dX6_contrastOn_107 ?_
      refine lv_isub hx hb dX6_contrastOn_108 ?_
      refine lv_iload hx hb dX6_contrastOn_109 (lv_at hl 0 rfl) ?_
      refine lv_aload_n hx hb dX6_contrastOn_111 rfl (lv_at hl 1 rfl) ?_
      refine kq_cV (As := []) (rest := [.int (nI (n_fr tp lf hg wd)), .int ((x * (nI (n_fr tp lf hg wd))) - (y * (nI (hg * wd))))]) ⟨hx, hb, hml, hown, hts⟩ (c_X6_cells l dC dI cI oM rz r2 rb rq km n tp lf hg wd th pm stt hh z v ) (cwV 0 hts gX6_contrastOn_X6_cells rfl rfl rfl (by decide +kernel) ⟨Nat.le_of_ble_eq_true rfl, Nat.le_of_ble_eq_true rfl⟩) (hP.sub [0] rfl) hK (ci := 6) (q0 := 0) rfl rfl rfl rfl hl.1 rfl (Nat.le_of_ble_eq_true rfl) dX6_contrastOn_112 ⟨Nat.le_of_ble_eq_true rfl, Nat.le_of_ble_eq_true rfl⟩ ?_
      refine lv_imul hx hb dX6_contrastOn_115 ?_
      refine kq_top (z := nI ((n_fr tp lf hg wd) * (hg * wd))) (pk_mul (n_fr tp lf hg wd) (hg * wd)) ?_
      refine kq_cS (As := [.int ((x * (nI (n_fr tp lf hg wd))) - (y * (nI (hg * wd)))), .int (nI ((n_fr tp lf hg wd) * (hg * wd)))]) (rest := []) ⟨hx, hb, hml, hown, hts⟩ (c_X6_divided l dC dI cI ((x * (nI (n_fr tp lf hg wd))) - (y * (nI (hg * wd)))) ((n_fr tp lf hg wd) * (hg * wd)) (by first | assumption | omega) (by first | assumption | omega)) (va_cwS 2 hts gX6_contrastOn_X6_divided rfl rfl rfl (by decide +kernel) ⟨Nat.le_of_ble_eq_true rfl, Nat.le_of_ble_eq_true rfl⟩) (hP.sub [] rfl) hK rfl hl.1 rfl (Nat.le_of_ble_eq_true rfl) dX6_contrastOn_116 ⟨Nat.le_of_ble_eq_true rfl, Nat.le_of_ble_eq_true rfl⟩ ?_
      exact kq_ret hx hb hr hlocks dX6_contrastOn_119 (by rw [n_cr, n_con_m h1 h2, if_neg (by omega), ix, iy, show q = 72 by omega, Nat.mul_comm (n_fr tp lf hg wd)])
    · skip
      have c_4 := kq_eqN (a := (n_fr tp lf hg wd)) (b := 0) c_4 (by omega) (by omega)
      refine lv_iconst (v := 0) hx hb dX6_contrastOn_94 (by decide) ?_
      refine lv_goto (tgt := 119) hx hb dX6_contrastOn_95 (by decide) ?_
      exact kq_ret hx hb hr hlocks dX6_contrastOn_119 (by rw [n_cr, n_con_m h1 h2, if_pos (by omega)])
  · skip
    have c_3 := kq_nleN (a := 72) (b := q) c_3 (by omega) (by omega)
    refine lv_iload hx hb dX6_contrastOn_14 (lv_at hl 4 rfl) ?_
    refine lv_bipush (v := 12) hx hb dX6_contrastOn_16 (by decide) ?_
    refine lv_idiv hx hb dX6_contrastOn_18 (nI_ne0 (n := 12) (by omega) (by omega)) ?_
    refine kq_top (z := nI (q / 12)) (pk_div (a := q) (d := 12) (by omega) (by omega) (by omega)) ?_
    refine lv_istore (lv' := [(5, .int (nI (q / 12))), (0, .ref oM), (1, .int (nI k)), (2, .int x), (3, .int y), (4, .int (nI q))]) hx hb dX6_contrastOn_19 hl (by decide) rfl (fun ls hl => ?_)
    refine lv_iload hx hb dX6_contrastOn_21 (lv_at hl 5 rfl) ?_
    refine lv_bipush (v := 12) hx hb dX6_contrastOn_23 (by decide) ?_
    refine lv_irem hx hb dX6_contrastOn_25 (nI_ne0 (n := 12) (by omega) (by omega)) ?_
    refine kq_top (z := nI (q % 12)) (pk_rem (a := q) (d := 12) (by omega) (by omega) (by omega)) ?_
    refine lv_istore (lv' := [(6, .int (nI (q % 12))), (5, .int (nI (q / 12))), (0, .ref oM), (1, .int (nI k)), (2, .int x), (3, .int y), (4, .int (nI q))]) hx hb dX6_contrastOn_26 hl (by decide) rfl (fun ls hl => ?_)
    refine lv_aload_n hx hb dX6_contrastOn_28 rfl (lv_at hl 2 rfl) ?_
    refine lv_iload hx hb dX6_contrastOn_29 (lv_at hl 1 rfl) ?_
    refine lv_iload hx hb dX6_contrastOn_31 (lv_at hl 0 rfl) ?_
    refine kq_cV (As := [.int (nI (q / 12)), .int (nI (q % 12))]) (rest := []) ⟨hx, hb, hml, hown, hts⟩ (c_X6_isInside l dC dI cI oM rz r2 rb rq km n tp lf hg wd th pm stt hh z v (q / 12) (q % 12) (by first | assumption | omega) (by first | assumption | omega) (by first | assumption | omega) (by first | assumption | omega) (by first | assumption | omega) (by first | assumption | omega)) (cwV 2 hts gX6_contrastOn_X6_isInside rfl rfl rfl (by decide +kernel) ⟨Nat.le_of_ble_eq_true rfl, Nat.le_of_ble_eq_true rfl⟩) (hP.sub [0] rfl) hK (ci := 6) (q0 := 0) rfl rfl rfl rfl hl.1 rfl (Nat.le_of_ble_eq_true rfl) dX6_contrastOn_33 ⟨Nat.le_of_ble_eq_true rfl, Nat.le_of_ble_eq_true rfl⟩ ?_
    refine lv_if_eq (tgt := 54) hx hb dX6_contrastOn_36 (by decide) (fun c_5 => ?_) (fun c_5 => ?_)
    · skip
      have c_5 := kq_bf c_5
      refine lv_aload_n hx hb dX6_contrastOn_54 rfl (lv_at hl 2 rfl) ?_
      refine lv_iload hx hb dX6_contrastOn_55 (lv_at hl 1 rfl) ?_
      refine lv_iload hx hb dX6_contrastOn_57 (lv_at hl 0 rfl) ?_
      refine kq_cV (As := [.int (nI (q / 12)), .int (nI (q % 12))]) (rest := []) ⟨hx, hb, hml, hown, hts⟩ (c_X6_isNear l dC dI cI oM rz r2 rb rq km n tp lf hg wd th pm stt hh z v (q / 12) (q % 12) (by first | assumption | omega) (by first | assumption | omega) (by first | assumption | omega) (by first | assumption | omega) (by first | assumption | omega) (by first | assumption | omega)) (cwV 2 hts gX6_contrastOn_X6_isNear rfl rfl rfl (by decide +kernel) ⟨Nat.le_of_ble_eq_true rfl, Nat.le_of_ble_eq_true rfl⟩) (hP.sub [0] rfl) hK (ci := 6) (q0 := 0) rfl rfl rfl rfl hl.1 rfl (Nat.le_of_ble_eq_true rfl) dX6_contrastOn_59 ⟨Nat.le_of_ble_eq_true rfl, Nat.le_of_ble_eq_true rfl⟩ ?_
      refine lv_if_eq (tgt := 77) hx hb dX6_contrastOn_62 (by decide) (fun c_6 => ?_) (fun c_6 => ?_)
      · skip
        have c_6 := kq_bf c_6
        refine lv_iinc (v := nI (q + 1)) (lv' := [(4, .int (nI (q + 1))), (6, .int (nI (q % 12))), (5, .int (nI (q / 12))), (0, .ref oM), (1, .int (nI k)), (2, .int x), (3, .int y)]) hx hb dX6_contrastOn_77 hl (k := 6) rfl (nI_1 q) (by decide) rfl (fun ls hl => ?_)
        refine lv_goto (tgt := 7) hx hb dX6_contrastOn_80 (by decide) ?_
        exact ih_1 (q + 1) x y ⟨(by omega), (by rw [n_mi, n_sum, ← n_mi, ← ix]; first | rw [if_pos (by assumption)] | rw [if_neg (by assumption), Int32.add_zero]), (by rw [n_ma, n_sum, ← n_ma, ← iy]; first | rw [if_pos (by assumption), Int32.add_zero] | rw [if_neg (by assumption), if_pos (by assumption)] | rw [if_neg (by assumption), if_neg (by assumption), Int32.add_zero])⟩ (by show 72 - (q + 1) < 72 - q; omega) _ (lv_sub hl [3, 4, 5, 6, 0] rfl)
      · skip
        have c_6 := kq_bt c_6
        refine lv_iload_n hx hb dX6_contrastOn_65 rfl (lv_at hl 5 rfl) ?_
        refine lv_aload_n hx hb dX6_contrastOn_66 rfl (lv_at hl 2 rfl) ?_
        refine lv_iload_n hx hb dX6_contrastOn_67 rfl (lv_at hl 3 rfl) ?_
        refine lv_iload hx hb dX6_contrastOn_68 (lv_at hl 1 rfl) ?_
        refine lv_iload hx hb dX6_contrastOn_70 (lv_at hl 0 rfl) ?_
        refine kq_cV (As := [.int (nI k), .int (nI (q / 12)), .int (nI (q % 12))]) (rest := [.int y]) ⟨hx, hb, hml, hown, hts⟩ (c_X6_light l dC dI cI oM rz r2 rb rq km n th (nI tp) (nI lf) (nI hg) (nI wd) pm stt hh z v k (q / 12) (q % 12) (by first | assumption | omega) (by first | assumption | omega) (by first | assumption | omega) (by first | assumption | omega) (by first | assumption | omega)) (cwV 3 hts gX6_contrastOn_X6_light rfl rfl rfl (by decide +kernel) ⟨Nat.le_of_ble_eq_true rfl, Nat.le_of_ble_eq_true rfl⟩) (hP.sub [0, 1] rfl) hK (ci := 6) (q0 := 0) rfl rfl rfl rfl hl.1 rfl (Nat.le_of_ble_eq_true rfl) dX6_contrastOn_72 ⟨Nat.le_of_ble_eq_true rfl, Nat.le_of_ble_eq_true rfl⟩ ?_
        refine lv_iadd hx hb dX6_contrastOn_75 ?_
        refine lv_istore_n (lv' := [(3, .int (y + (n_li v k (q / 12) (q % 12)))), (6, .int (nI (q % 12))), (5, .int (nI (q / 12))), (0, .ref oM), (1, .int (nI k)), (2, .int x), (4, .int (nI q))]) hx hb dX6_contrastOn_76 rfl hl (by decide) rfl (fun ls hl => ?_)
        refine lv_iinc (v := nI (q + 1)) (lv' := [(4, .int (nI (q + 1))), (3, .int (y + (n_li v k (q / 12) (q % 12)))), (6, .int (nI (q % 12))), (5, .int (nI (q / 12))), (0, .ref oM), (1, .int (nI k)), (2, .int x)]) hx hb dX6_contrastOn_77 hl (k := 6) rfl (nI_1 q) (by decide) rfl (fun ls hl => ?_)
        refine lv_goto (tgt := 7) hx hb dX6_contrastOn_80 (by decide) ?_
        exact ih_1 (q + 1) x (y + (n_li v k (q / 12) (q % 12))) ⟨(by omega), (by rw [n_mi, n_sum, ← n_mi, ← ix]; first | rw [if_pos (by assumption)] | rw [if_neg (by assumption), Int32.add_zero]), (by rw [n_ma, n_sum, ← n_ma, ← iy]; first | rw [if_pos (by assumption), Int32.add_zero] | rw [if_neg (by assumption), if_pos (by assumption)] | rw [if_neg (by assumption), if_neg (by assumption), Int32.add_zero])⟩ (by show 72 - (q + 1) < 72 - q; omega) _ (lv_sub hl [4, 5, 6, 1, 0] rfl)
    · skip
      have c_5 := kq_bt c_5
      refine lv_iload_n hx hb dX6_contrastOn_39 rfl (lv_at hl 4 rfl) ?_
      refine lv_aload_n hx hb dX6_contrastOn_40 rfl (lv_at hl 2 rfl) ?_
      refine lv_iload_n hx hb dX6_contrastOn_41 rfl (lv_at hl 3 rfl) ?_
      refine lv_iload hx hb dX6_contrastOn_42 (lv_at hl 1 rfl) ?_
      refine lv_iload hx hb dX6_contrastOn_44 (lv_at hl 0 rfl) ?_
      refine kq_cV (As := [.int (nI k), .int (nI (q / 12)), .int (nI (q % 12))]) (rest := [.int x]) ⟨hx, hb, hml, hown, hts⟩ (c_X6_light l dC dI cI oM rz r2 rb rq km n th (nI tp) (nI lf) (nI hg) (nI wd) pm stt hh z v k (q / 12) (q % 12) (by first | assumption | omega) (by first | assumption | omega) (by first | assumption | omega) (by first | assumption | omega) (by first | assumption | omega)) (cwV 3 hts gX6_contrastOn_X6_light rfl rfl rfl (by decide +kernel) ⟨Nat.le_of_ble_eq_true rfl, Nat.le_of_ble_eq_true rfl⟩) (hP.sub [0, 1] rfl) hK (ci := 6) (q0 := 0) rfl rfl rfl rfl hl.1 rfl (Nat.le_of_ble_eq_true rfl) dX6_contrastOn_46 ⟨Nat.le_of_ble_eq_true rfl, Nat.le_of_ble_eq_true rfl⟩ ?_
      refine lv_iadd hx hb dX6_contrastOn_49 ?_
      refine lv_istore_n (lv' := [(2, .int (x + (n_li v k (q / 12) (q % 12)))), (6, .int (nI (q % 12))), (5, .int (nI (q / 12))), (0, .ref oM), (1, .int (nI k)), (3, .int y), (4, .int (nI q))]) hx hb dX6_contrastOn_50 rfl hl (by decide) rfl (fun ls hl => ?_)
      refine lv_goto (tgt := 77) hx hb dX6_contrastOn_51 (by decide) ?_
      refine lv_iinc (v := nI (q + 1)) (lv' := [(4, .int (nI (q + 1))), (2, .int (x + (n_li v k (q / 12) (q % 12)))), (6, .int (nI (q % 12))), (5, .int (nI (q / 12))), (0, .ref oM), (1, .int (nI k)), (3, .int y)]) hx hb dX6_contrastOn_77 hl (k := 6) rfl (nI_1 q) (by decide) rfl (fun ls hl => ?_)
      refine lv_goto (tgt := 7) hx hb dX6_contrastOn_80 (by decide) ?_
      exact ih_1 (q + 1) (x + (n_li v k (q / 12) (q % 12))) y ⟨(by omega), (by rw [n_mi, n_sum, ← n_mi, ← ix]; first | rw [if_pos (by assumption)] | rw [if_neg (by assumption), Int32.add_zero]), (by rw [n_ma, n_sum, ← n_ma, ← iy]; first | rw [if_pos (by assumption), Int32.add_zero] | rw [if_neg (by assumption), if_pos (by assumption)] | rw [if_neg (by assumption), if_neg (by assumption), Int32.add_zero])⟩ (by show 72 - (q + 1) < 72 - q; omega) _ (lv_sub hl [4, 5, 1, 6, 0] rfl)
set_option maxHeartbeats 4000000 in
set_option maxRecDepth 100000 in
theorem c_X6_sizeOn (l : Launch) (dC : Nat → ClassId) (dI : Nat → Nat → Nat) (cI : ClassId) (oM : Nat) (rz : Nat) (r2 : Nat) (rb : Nat) (rq : Nat) (km : Nat) (n : Nat) (tp : Nat) (lf : Nat) (hg : Nat) (wd : Nat) (th : Int32) (pm : Int32) (stt : Int32) (hh : Int64) (z : Nat → Int32) (v : Nat → Int32) (k : Nat) (hz : n_Z v z) (hI : n_I v) (h1 : tp + hg ≤ 6) (h2 : lf + wd ≤ 12) (h3 : 0 < hg) (h4 : 0 < wd) (hk : k < 1000) : Met l yX6_sizeOn wsX6_sizeOn ({ frames := 5, cells := 0, slots := 0, locals := 122 }) (kq_R dC dI cI [.ref oM, .int (nI k)] [(oM, .inr (6, [.int th, .ref rz, .ref r2, .int (nI km), .ref rb, .int (nI n), .int (nI tp), .int (nI lf), .int (nI hg), .int (nI wd), .ref rq, .int pm, .int stt, .long hh])), (rz, .inl (cI, 389, .inl z))]) (QcRead (n_abs (n_cr v k tp lf hg wd))) 0 0 (fun _ => False) := by
  refine kq_start (cc := cX6_sizeOn) (maxL := 3) (ret := (some .int)) (plainFor_of_name (by decide)) rfl (Nat.le_of_ble_eq_true rfl) ?_
  intro p e s m below meth c hx hb hr hml hown hlocks hts hP hK ls hl
  have hown : s.vm.findClass RX6 = some m.cls := hown
  have hl : lv_has ls 3 [(0, .ref oM), (1, .int (nI k))] := hl
  refine lv_aload_n hx hb dX6_sizeOn_0 rfl (lv_at hl 0 rfl) ?_
  refine lv_iload_n hx hb dX6_sizeOn_1 rfl (lv_at hl 1 rfl) ?_
  refine kq_cV (As := [.int (nI k)]) (rest := []) ⟨hx, hb, hml, hown, hts⟩ (c_X6_contrastOn l dC dI cI oM rz r2 rb rq km n tp lf hg wd th pm stt hh z v k (by first | assumption | omega) (by first | assumption | omega) (by first | assumption | omega) (by first | assumption | omega) (by first | assumption | omega) (by first | assumption | omega) (by first | assumption | omega)) (cwV 1 hts gX6_sizeOn_X6_contrastOn rfl rfl rfl (by decide +kernel) ⟨Nat.le_of_ble_eq_true rfl, Nat.le_of_ble_eq_true rfl⟩) (hP.sub [0, 1] rfl) hK (ci := 6) (q0 := 0) rfl rfl rfl rfl hl.1 rfl (Nat.le_of_ble_eq_true rfl) dX6_sizeOn_2 ⟨Nat.le_of_ble_eq_true rfl, Nat.le_of_ble_eq_true rfl⟩ ?_
  refine lv_istore_n (lv' := [(2, .int (n_cr v k tp lf hg wd)), (0, .ref oM), (1, .int (nI k))]) hx hb dX6_sizeOn_5 rfl hl (by decide) rfl (fun ls hl => ?_)
  refine lv_iload_n hx hb dX6_sizeOn_6 rfl (lv_at hl 0 rfl) ?_
  refine lv_if_ge (tgt := 15) hx hb dX6_sizeOn_7 (by decide) (fun c_1 => ?_) (fun c_1 => ?_)
  · skip
    refine lv_iload_n hx hb dX6_sizeOn_15 rfl (lv_at hl 0 rfl) ?_
    exact kq_ret hx hb hr hlocks dX6_sizeOn_16 (by first | rw [n_abs, if_pos (by assumption)] | rw [n_abs, if_neg (by assumption), Int32.zero_sub])
  · skip
    refine lv_iload_n hx hb dX6_sizeOn_10 rfl (lv_at hl 0 rfl) ?_
    refine lv_ineg hx hb dX6_sizeOn_11 ?_
    refine lv_goto (tgt := 16) hx hb dX6_sizeOn_12 (by decide) ?_
    exact kq_ret hx hb hr hlocks dX6_sizeOn_16 (by first | rw [n_abs, if_pos (by assumption)] | rw [n_abs, if_neg (by assumption), Int32.zero_sub])
set_option maxHeartbeats 4000000 in
set_option maxRecDepth 100000 in
theorem c_X6_isSeen (l : Launch) (dC : Nat → ClassId) (dI : Nat → Nat → Nat) (cI : ClassId) (oM : Nat) (rz : Nat) (r2 : Nat) (rb : Nat) (rq : Nat) (km : Nat) (n : Nat) (tp : Nat) (lf : Nat) (hg : Nat) (wd : Nat) (th : Int32) (pm : Int32) (stt : Int32) (hh : Int64) (z : Nat → Int32) (v : Nat → Int32) (k : Nat) (f : Nat) (hz : n_Z v z) (hI : n_I v) (h1 : tp + hg ≤ 6) (h2 : lf + wd ≤ 12) (h3 : 0 < hg) (h4 : 0 < wd) (f0 : tp = n_f v f 0) (f1 : lf = n_f v f 1) (f2 : hg = n_f v f 2) (f3 : wd = n_f v f 3) (hk : k < 1000) : Met l yX6_isSeen wsX6_isSeen ({ frames := 6, cells := 0, slots := 0, locals := 144 }) (kq_R dC dI cI [.ref oM, .int (nI k)] [(oM, .inr (6, [.int th, .ref rz, .ref r2, .int (nI km), .ref rb, .int (nI n), .int (nI tp), .int (nI lf), .int (nI hg), .int (nI wd), .ref rq, .int pm, .int stt, .long hh])), (rz, .inl (cI, 389, .inl z))]) (QcRead (if n_seen v f k then (1:Int32) else 0)) 0 0 (fun _ => False) := by
  refine kq_start (cc := cX6_isSeen) (maxL := 2) (ret := (some .boolean)) (plainFor_of_name (by decide)) rfl (Nat.le_of_ble_eq_true rfl) ?_
  intro p e s m below meth c hx hb hr hml hown hlocks hts hP hK ls hl
  have hown : s.vm.findClass RX6 = some m.cls := hown
  have hl : lv_has ls 2 [(0, .ref oM), (1, .int (nI k))] := hl
  have hct : n_ct v f k = n_cr v k tp lf hg wd := by rw [n_ct, f0, f1, f2, f3]
  refine lv_aload_n hx hb dX6_isSeen_0 rfl (lv_at hl 0 rfl) ?_
  refine lv_iload_n hx hb dX6_isSeen_1 rfl (lv_at hl 1 rfl) ?_
  refine kq_cV (As := [.int (nI k)]) (rest := []) ⟨hx, hb, hml, hown, hts⟩ (c_X6_sizeOn l dC dI cI oM rz r2 rb rq km n tp lf hg wd th pm stt hh z v k (by first | assumption | omega) (by first | assumption | omega) (by first | assumption | omega) (by first | assumption | omega) (by first | assumption | omega) (by first | assumption | omega) (by first | assumption | omega)) (cwV 1 hts gX6_isSeen_X6_sizeOn rfl rfl rfl (by decide +kernel) ⟨Nat.le_of_ble_eq_true rfl, Nat.le_of_ble_eq_true rfl⟩) (hP.sub [0, 1] rfl) hK (ci := 6) (q0 := 0) rfl rfl rfl rfl hl.1 rfl (Nat.le_of_ble_eq_true rfl) dX6_isSeen_2 ⟨Nat.le_of_ble_eq_true rfl, Nat.le_of_ble_eq_true rfl⟩ ?_
  refine lv_aload_n hx hb dX6_isSeen_5 rfl (lv_at hl 0 rfl) ?_
  refine va_get (D := (dC, dI)) (ci := 6) (v := .ref rz) (C := RX6) (T := TX6) (N := 14) hx hb hts (by decide +kernel) hown hK.1 hP 0 rfl rfl 1 (by decide) (hts (.fieldLink RX6 7 "NoteWatermarksModel" "z" "[I") (by decide +kernel)) (fun _ h9 => h9) rfl dX6_isSeen_6 ?_
  refine lv_iconst (v := 2) hx hb dX6_isSeen_9 (by decide) ?_
  refine va_iald hx hb hK.1 hP 1 0 rfl rfl (vp_in_nI (show 2 < 389 from by omega) (by omega)) dX6_isSeen_10 ?_
  refine kq_top (z := z 2) (congrArg z (nI_clamp (Nat.lt_trans (show 2 < 389 from by omega) (by omega)))) ?_
  refine kq_top (z := nI (n_s v 2)) ((hz.1 2 (by decide)).trans (n_I_s hI).2.2.2.2.2.1) ?_
  refine lv_icmp_lt (tgt := 18) hx hb dX6_isSeen_11 (by decide) (fun c_1 => ?_) (fun c_1 => ?_)
  · skip
    refine lv_iconst (v := 0) hx hb dX6_isSeen_18 (by decide) ?_
    exact kq_retz hx hb hr hlocks dX6_isSeen_19 (Or.inl rfl) (by first | rw [if_neg (fun q : n_seen v f k = true => absurd (of_decide_eq_true (p := nI (n_s v 2) ≤ n_abs (n_ct v f k)) q) (by rw [hct]; exact Int32.not_le.mpr (by assumption)))] | rw [if_pos (show n_seen v f k = true from decide_eq_true (by rw [hct]; exact Int32.not_lt.mp (by assumption)))])
  · skip
    refine lv_iconst (v := 1) hx hb dX6_isSeen_14 (by decide) ?_
    refine lv_goto (tgt := 19) hx hb dX6_isSeen_15 (by decide) ?_
    exact kq_retz hx hb hr hlocks dX6_isSeen_19 (Or.inr rfl) (by first | rw [if_neg (fun q : n_seen v f k = true => absurd (of_decide_eq_true (p := nI (n_s v 2) ≤ n_abs (n_ct v f k)) q) (by rw [hct]; exact Int32.not_le.mpr (by assumption)))] | rw [if_pos (show n_seen v f k = true from decide_eq_true (by rw [hct]; exact Int32.not_lt.mp (by assumption)))])
