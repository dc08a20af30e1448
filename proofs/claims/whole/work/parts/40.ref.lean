set_option maxHeartbeats 4000000 in
set_option maxRecDepth 100000 in
theorem c_X6_valueOf (l : Launch) (dC : Nat → ClassId) (dI : Nat → Nat → Nat) (cI : ClassId) (k : Nat) (x : Int32) (hk : k < 6) : Met l yX6_valueOf wsX6_valueOf ({ frames := 0, cells := 0, slots := 0, locals := 0 }) (kq_R dC dI cI [.int (nI k), .int x] []) (QcRead (n_vl k x)) 0 0 (fun _ => False) := by
  refine kq_start (cc := cX6_valueOf) (maxL := 2) (ret := (some .int)) (plainFor_of_name (by decide)) rfl (Nat.le_of_ble_eq_true rfl) ?_
  intro p e s m below meth c hx hb hr hml hown hlocks hts hP hK ls hl
  have hown : s.vm.findClass RX6 = some m.cls := hown
  have hl : lv_has ls 2 [(0, .int (nI k)), (1, .int x)] := hl
  refine lv_iload_n hx hb dX6_valueOf_0 rfl (lv_at hl 0 rfl) ?_
  refine lv_iconst (v := 2) hx hb dX6_valueOf_1 (by decide) ?_
  refine lv_icmp_ne (tgt := 12) hx hb dX6_valueOf_2 (by decide) (fun c_1 => ?_) (fun c_1 => ?_)
  · skip
    have c_1 := kq_neN (a := k) (b := 2) c_1 (by omega) (by omega)
    refine lv_iload_n hx hb dX6_valueOf_12 rfl (lv_at hl 0 rfl) ?_
    refine lv_iconst (v := 3) hx hb dX6_valueOf_13 (by decide) ?_
    refine lv_icmp_ne (tgt := 31) hx hb dX6_valueOf_14 (by decide) (fun c_2 => ?_) (fun c_2 => ?_)
    · skip
      have c_2 := kq_neN (a := k) (b := 3) c_2 (by omega) (by omega)
      refine lv_iload_n hx hb dX6_valueOf_31 rfl (lv_at hl 1 rfl) ?_
      refine lv_bipush (v := 48) hx hb dX6_valueOf_32 (by decide) ?_
      refine lv_isub hx hb dX6_valueOf_34 ?_
      exact kq_ret hx hb hr hlocks dX6_valueOf_35 (by first | (rw [n_vl, if_pos (by omega)]; done) | (rw [n_vl, if_neg (by omega), if_pos (by omega), if_pos (by assumption)]; done) | (rw [n_vl, if_neg (by omega), if_pos (by omega), if_neg (by assumption)]; done) | (rw [n_vl, if_neg (by omega), if_neg (by omega)]; done))
    · skip
      have c_2 := kq_eqN (a := k) (b := 3) c_2 (by omega) (by omega)
      refine lv_iload_n hx hb dX6_valueOf_17 rfl (lv_at hl 1 rfl) ?_
      refine lv_bipush (v := 45) hx hb dX6_valueOf_18 (by decide) ?_
      refine lv_icmp_ne (tgt := 27) hx hb dX6_valueOf_20 (by decide) (fun c_3 => ?_) (fun c_3 => ?_)
      · skip
        refine lv_iconst (v := 1) hx hb dX6_valueOf_27 (by decide) ?_
        refine lv_goto (tgt := 35) hx hb dX6_valueOf_28 (by decide) ?_
        exact kq_ret hx hb hr hlocks dX6_valueOf_35 (by first | (rw [n_vl, if_pos (by omega)]; done) | (rw [n_vl, if_neg (by omega), if_pos (by omega), if_pos (by assumption)]; done) | (rw [n_vl, if_neg (by omega), if_pos (by omega), if_neg (by assumption)]; done) | (rw [n_vl, if_neg (by omega), if_neg (by omega)]; done))
      · skip
        refine lv_iconst (v := (-1)) hx hb dX6_valueOf_23 (by decide) ?_
        refine lv_goto (tgt := 35) hx hb dX6_valueOf_24 (by decide) ?_
        exact kq_ret hx hb hr hlocks dX6_valueOf_35 (by first | (rw [n_vl, if_pos (by omega)]; done) | (rw [n_vl, if_neg (by omega), if_pos (by omega), if_pos (by assumption)]; done) | (rw [n_vl, if_neg (by omega), if_pos (by omega), if_neg (by assumption)]; done) | (rw [n_vl, if_neg (by omega), if_neg (by omega)]; done))
  · skip
    have c_1 := kq_eqN (a := k) (b := 2) c_1 (by omega) (by omega)
    refine lv_iload_n hx hb dX6_valueOf_5 rfl (lv_at hl 1 rfl) ?_
    refine lv_bipush (v := 97) hx hb dX6_valueOf_6 (by decide) ?_
    refine lv_isub hx hb dX6_valueOf_8 ?_
    refine lv_goto (tgt := 35) hx hb dX6_valueOf_9 (by decide) ?_
    exact kq_ret hx hb hr hlocks dX6_valueOf_35 (by first | (rw [n_vl, if_pos (by omega)]; done) | (rw [n_vl, if_neg (by omega), if_pos (by omega), if_pos (by assumption)]; done) | (rw [n_vl, if_neg (by omega), if_pos (by omega), if_neg (by assumption)]; done) | (rw [n_vl, if_neg (by omega), if_neg (by omega)]; done))
set_option maxHeartbeats 4000000 in
set_option maxRecDepth 100000 in
theorem c_X6_isGood (l : Launch) (dC : Nat → ClassId) (dI : Nat → Nat → Nat) (cI : ClassId) (k : Nat) (x : Int32) (hk : k < 6) : Met l yX6_isGood wsX6_isGood ({ frames := 1, cells := 0, slots := 0, locals := 22 }) (kq_R dC dI cI [.int (nI k), .int x] []) (QcRead (if ¬ n_nx (n_gq k) x = 8 then (1:Int32) else 0)) 0 0 (fun _ => False) := by
  refine kq_start (cc := cX6_isGood) (maxL := 2) (ret := (some .boolean)) (plainFor_of_name (by decide)) rfl (Nat.le_of_ble_eq_true rfl) ?_
  intro p e s m below meth c hx hb hr hml hown hlocks hts hP hK ls hl
  have hown : s.vm.findClass RX6 = some m.cls := hown
  have hl : lv_has ls 2 [(0, .int (nI k)), (1, .int x)] := hl
  refine lv_iload_n hx hb dX6_isGood_0 rfl (lv_at hl 0 rfl) ?_
  rcases (show k = 0 ∨ k = 1 ∨ k = 2 ∨ k = 3 ∨ k = 4 ∨ k = 5 from by omega) with rfl | rfl | rfl | rfl | rfl | rfl
  · skip
    refine lv_tableIn (off := 35) (tgt := 36) hx hb dX6_isGood_1 (by decide) (by decide) (by decide) (by decide) ?_
    refine lv_iload_n hx hb dX6_isGood_36 rfl (lv_at hl 1 rfl) ?_
    refine lv_bipush (v := 48) hx hb dX6_isGood_37 (by decide) ?_
    refine lv_bipush (v := 50) hx hb dX6_isGood_39 (by decide) ?_
    refine kq_cS (As := [.int x, .int 48, .int 50]) (rest := []) ⟨hx, hb, hml, hown, hts⟩ (c_X6_in l dC dI cI x 48 50 ) (va_cwS 3 hts gX6_isGood_X6_in rfl rfl rfl (by decide +kernel) ⟨Nat.le_of_ble_eq_true rfl, Nat.le_of_ble_eq_true rfl⟩) (hP.sub [] rfl) hK rfl hl.1 rfl (Nat.le_of_ble_eq_true rfl) dX6_isGood_41 ⟨Nat.le_of_ble_eq_true rfl, Nat.le_of_ble_eq_true rfl⟩ ?_
    exact kq_retz hx hb hr hlocks dX6_isGood_44 (by first | exact Or.inl rfl | exact Or.inr rfl | (split <;> simp)) (by refine kq_ifc ?_; show _ ↔ ¬ (ite (48 ≤ x ∧ x ≤ 50) _ 8) = 8; constructor; (intro q; rw [if_pos q]; decide); (intro q; rcases Classical.em (48 ≤ x ∧ x ≤ 50) with w | w; exact w; rw [if_neg w] at q; exact absurd rfl q))
  · skip
    refine lv_tableIn (off := 44) (tgt := 45) hx hb dX6_isGood_1 (by decide) (by decide) (by decide) (by decide) ?_
    refine lv_iload_n hx hb dX6_isGood_45 rfl (lv_at hl 1 rfl) ?_
    refine lv_bipush (v := 48) hx hb dX6_isGood_46 (by decide) ?_
    refine lv_bipush (v := 53) hx hb dX6_isGood_48 (by decide) ?_
    refine kq_cS (As := [.int x, .int 48, .int 53]) (rest := []) ⟨hx, hb, hml, hown, hts⟩ (c_X6_in l dC dI cI x 48 53 ) (va_cwS 3 hts gX6_isGood_X6_in rfl rfl rfl (by decide +kernel) ⟨Nat.le_of_ble_eq_true rfl, Nat.le_of_ble_eq_true rfl⟩) (hP.sub [] rfl) hK rfl hl.1 rfl (Nat.le_of_ble_eq_true rfl) dX6_isGood_50 ⟨Nat.le_of_ble_eq_true rfl, Nat.le_of_ble_eq_true rfl⟩ ?_
    exact kq_retz hx hb hr hlocks dX6_isGood_53 (by first | exact Or.inl rfl | exact Or.inr rfl | (split <;> simp)) (by refine kq_ifc ?_; show _ ↔ ¬ (ite (48 ≤ x ∧ x ≤ 53) _ 8) = 8; constructor; (intro q; rw [if_pos q]; decide); (intro q; rcases Classical.em (48 ≤ x ∧ x ≤ 53) with w | w; exact w; rw [if_neg w] at q; exact absurd rfl q))
  · skip
    refine lv_tableIn (off := 53) (tgt := 54) hx hb dX6_isGood_1 (by decide) (by decide) (by decide) (by decide) ?_
    refine lv_iload_n hx hb dX6_isGood_54 rfl (lv_at hl 1 rfl) ?_
    refine lv_bipush (v := 97) hx hb dX6_isGood_55 (by decide) ?_
    refine lv_bipush (v := 112) hx hb dX6_isGood_57 (by decide) ?_
    refine kq_cS (As := [.int x, .int 97, .int 112]) (rest := []) ⟨hx, hb, hml, hown, hts⟩ (c_X6_in l dC dI cI x 97 112 ) (va_cwS 3 hts gX6_isGood_X6_in rfl rfl rfl (by decide +kernel) ⟨Nat.le_of_ble_eq_true rfl, Nat.le_of_ble_eq_true rfl⟩) (hP.sub [] rfl) hK rfl hl.1 rfl (Nat.le_of_ble_eq_true rfl) dX6_isGood_59 ⟨Nat.le_of_ble_eq_true rfl, Nat.le_of_ble_eq_true rfl⟩ ?_
    exact kq_retz hx hb hr hlocks dX6_isGood_62 (by first | exact Or.inl rfl | exact Or.inr rfl | (split <;> simp)) (by refine kq_ifc ?_; show _ ↔ ¬ (ite (97 ≤ x ∧ x ≤ 112) _ 8) = 8; constructor; (intro q; rw [if_pos q]; decide); (intro q; rcases Classical.em (97 ≤ x ∧ x ≤ 112) with w | w; exact w; rw [if_neg w] at q; exact absurd rfl q))
  · skip
    refine lv_tableIn (off := 62) (tgt := 63) hx hb dX6_isGood_1 (by decide) (by decide) (by decide) (by decide) ?_
    refine lv_iload_n hx hb dX6_isGood_63 rfl (lv_at hl 1 rfl) ?_
    refine lv_bipush (v := 43) hx hb dX6_isGood_64 (by decide) ?_
    refine lv_icmp_eq (tgt := 75) hx hb dX6_isGood_66 (by decide) (fun c_1 => ?_) (fun c_1 => ?_)
    · skip
      refine lv_iconst (v := 1) hx hb dX6_isGood_75 (by decide) ?_
      refine lv_goto (tgt := 80) hx hb dX6_isGood_76 (by decide) ?_
      exact kq_retz hx hb hr hlocks dX6_isGood_80 (Or.inr rfl) (by first | (rw [if_pos (by show ¬ (ite (x = 43 ∨ x = 45) 4 8) = 8; rw [if_pos (by first | exact Or.inl (by assumption) | exact Or.inr (by assumption))]; decide)]; done) | (rw [if_neg (fun q => q (by show (ite (x = 43 ∨ x = 45) 4 8) = 8; rw [if_neg (fun z => z.elim (by assumption) (by assumption))]))]; done))
    · skip
      refine lv_iload_n hx hb dX6_isGood_69 rfl (lv_at hl 1 rfl) ?_
      refine lv_bipush (v := 45) hx hb dX6_isGood_70 (by decide) ?_
      refine lv_icmp_ne (tgt := 79) hx hb dX6_isGood_72 (by decide) (fun c_2 => ?_) (fun c_2 => ?_)
      · skip
        refine lv_iconst (v := 0) hx hb dX6_isGood_79 (by decide) ?_
        exact kq_retz hx hb hr hlocks dX6_isGood_80 (Or.inl rfl) (by first | (rw [if_pos (by show ¬ (ite (x = 43 ∨ x = 45) 4 8) = 8; rw [if_pos (by first | exact Or.inl (by assumption) | exact Or.inr (by assumption))]; decide)]; done) | (rw [if_neg (fun q => q (by show (ite (x = 43 ∨ x = 45) 4 8) = 8; rw [if_neg (fun z => z.elim (by assumption) (by assumption))]))]; done))
      · skip
        refine lv_iconst (v := 1) hx hb dX6_isGood_75 (by decide) ?_
        refine lv_goto (tgt := 80) hx hb dX6_isGood_76 (by decide) ?_
        exact kq_retz hx hb hr hlocks dX6_isGood_80 (Or.inr rfl) (by first | (rw [if_pos (by show ¬ (ite (x = 43 ∨ x = 45) 4 8) = 8; rw [if_pos (by first | exact Or.inl (by assumption) | exact Or.inr (by assumption))]; decide)]; done) | (rw [if_neg (fun q => q (by show (ite (x = 43 ∨ x = 45) 4 8) = 8; rw [if_neg (fun z => z.elim (by assumption) (by assumption))]))]; done))
  · skip
    refine lv_tableIn (off := 80) (tgt := 81) hx hb dX6_isGood_1 (by decide) (by decide) (by decide) (by decide) ?_
    refine lv_iload_n hx hb dX6_isGood_81 rfl (lv_at hl 1 rfl) ?_
    refine lv_bipush (v := 48) hx hb dX6_isGood_82 (by decide) ?_
    refine lv_bipush (v := 51) hx hb dX6_isGood_84 (by decide) ?_
    refine kq_cS (As := [.int x, .int 48, .int 51]) (rest := []) ⟨hx, hb, hml, hown, hts⟩ (c_X6_in l dC dI cI x 48 51 ) (va_cwS 3 hts gX6_isGood_X6_in rfl rfl rfl (by decide +kernel) ⟨Nat.le_of_ble_eq_true rfl, Nat.le_of_ble_eq_true rfl⟩) (hP.sub [] rfl) hK rfl hl.1 rfl (Nat.le_of_ble_eq_true rfl) dX6_isGood_86 ⟨Nat.le_of_ble_eq_true rfl, Nat.le_of_ble_eq_true rfl⟩ ?_
    exact kq_retz hx hb hr hlocks dX6_isGood_89 (by first | exact Or.inl rfl | exact Or.inr rfl | (split <;> simp)) (by refine kq_ifc ?_; show _ ↔ ¬ (ite (48 ≤ x ∧ x ≤ 51) _ 8) = 8; constructor; (intro q; rw [if_pos q]; decide); (intro q; rcases Classical.em (48 ≤ x ∧ x ≤ 51) with w | w; exact w; rw [if_neg w] at q; exact absurd rfl q))
  · skip
    refine lv_tableOut (tgt := 90) hx hb dX6_isGood_1 (by decide) (by decide) ?_
    refine lv_iload_n hx hb dX6_isGood_90 rfl (lv_at hl 1 rfl) ?_
    refine lv_bipush (v := 50) hx hb dX6_isGood_91 (by decide) ?_
    refine lv_bipush (v := 57) hx hb dX6_isGood_93 (by decide) ?_
    refine kq_cS (As := [.int x, .int 50, .int 57]) (rest := []) ⟨hx, hb, hml, hown, hts⟩ (c_X6_in l dC dI cI x 50 57 ) (va_cwS 3 hts gX6_isGood_X6_in rfl rfl rfl (by decide +kernel) ⟨Nat.le_of_ble_eq_true rfl, Nat.le_of_ble_eq_true rfl⟩) (hP.sub [] rfl) hK rfl hl.1 rfl (Nat.le_of_ble_eq_true rfl) dX6_isGood_95 ⟨Nat.le_of_ble_eq_true rfl, Nat.le_of_ble_eq_true rfl⟩ ?_
    exact kq_retz hx hb hr hlocks dX6_isGood_98 (by first | exact Or.inl rfl | exact Or.inr rfl | (split <;> simp)) (by refine kq_ifc ?_; show _ ↔ ¬ (ite (50 ≤ x ∧ x ≤ 57) _ 8) = 8; constructor; (intro q; rw [if_pos q]; decide); (intro q; rcases Classical.em (50 ≤ x ∧ x ≤ 57) with w | w; exact w; rw [if_neg w] at q; exact absurd rfl q))
set_option maxHeartbeats 4000000 in
set_option maxRecDepth 100000 in
theorem c_X6_stands (l : Launch) (dC : Nat → ClassId) (dI : Nat → Nat → Nat) (cI : ClassId) (sz : Nat) (oM : Nat) (rz : Nat) (r2 : Nat) (rb : Nat) (rq : Nat) (km : Nat) (n : Nat) (y : Nat) (q : Nat) (th : Int32) (tp : Int32) (lf : Int32) (hg : Int32) (wd : Int32) (hh : Int64) (pt : Nat → Int32) (x : Int32) (hq : q < 8) (hy : y ≤ 10) : Met l yX6_stands wsX6_stands ({ frames := 2, cells := 0, slots := 0, locals := 43 }) (kq_M dC dI cI [.ref oM, .int x] sz [(oM, .inr (6, [.int th, .ref rz, .ref r2, .int (nI km), .ref rb, .int (nI n), .int tp, .int lf, .int hg, .int wd, .ref rq, .int (nI y), .int (nI q), .long hh])), (rq, .inl (cI, 72, .inl pt))]) (va_Qi (fun (r : Int32) (u : Nat × Nat × (Nat → Int32)) => r = (if n_nx q x = 8 then (0:Int32) else 1) ∧ u.2.2 = n_pu pt y q x ∧ (¬ n_nx q x = 8 → u.1 = n_nx q x ∧ u.2.1 = y + n_sc q x) ∧ u.1 < 9 ∧ u.2.1 ≤ y + 1) (kq_B dC dI (va_A [(oM, .inr (6, [.int th, .ref rz, .ref r2, .int (nI km), .ref rb, .int (nI n), .int tp, .int lf, .int hg, .int wd, .ref rq, .int (nI y), .int (nI q), .long hh])), (rq, .inl (cI, 72, .inl pt))] sz) (fun u : Nat × Nat × (Nat → Int32) => [(oM, .inr (6, [.int th, .ref rz, .ref r2, .int (nI km), .ref rb, .int (nI n), .int tp, .int lf, .int hg, .int wd, .ref rq, .int (nI u.2.1), .int (nI u.1), .long hh])), (rq, .inl (cI, 72, .inl u.2.2))])) (va_A [(oM, .inr (6, [.int th, .ref rz, .ref r2, .int (nI km), .ref rb, .int (nI n), .int tp, .int lf, .int hg, .int wd, .ref rq, .int (nI y), .int (nI q), .long hh])), (rq, .inl (cI, 72, .inl pt))] sz)) 0 0 (va_A [(oM, .inr (6, [.int th, .ref rz, .ref r2, .int (nI km), .ref rb, .int (nI n), .int tp, .int lf, .int hg, .int wd, .ref rq, .int (nI y), .int (nI q), .long hh])), (rq, .inl (cI, 72, .inl pt))] sz) := by
  refine kq_startM (cc := cX6_stands) (maxL := 4) (ret := (some .boolean)) (by decide) rfl (Nat.le_of_ble_eq_true rfl) ?_
  intro p e s m below meth c hx hb hr hml hown hlocks hts hsz hA hP hD hS hK hnm ls hl
  subst hsz
  generalize hAe : va_A [(oM, .inr (6, [.int th, .ref rz, .ref r2, .int (nI km), .ref rb, .int (nI n), .int tp, .int lf, .int hg, .int wd, .ref rq, .int (nI y), .int (nI q), .long hh])), (rq, .inl (cI, 72, .inl pt))] s.heap.size = A at hA hD hS ⊢
  have hown : s.vm.findClass RX6 = some m.cls := hown
  have hl : lv_has ls 4 [(0, .ref oM), (1, .int x)] := hl
  rcases (show q = 0 ∨ q = 1 ∨ q = 2 ∨ q = 3 ∨ q = 4 ∨ q = 5 ∨ q = 6 ∨ q = 7 from by omega) with rfl | rfl | rfl | rfl | rfl | rfl | rfl | rfl
  · skip
    refine lv_aload_n hx hb dX6_stands_0 rfl (lv_at hl 0 rfl) ?_
    refine va_get (D := (dC, dI)) (ci := 6) (v := .int 0) (C := RX6) (T := TX6) (N := 14) hx hb hts (by decide +kernel) hown hK.1 hP 0 rfl rfl 12 (by decide) (hts (.fieldLink RX6 129 "NoteWatermarksModel" "state" "I") (by decide +kernel)) (fun _ h9 => h9) rfl dX6_stands_1 ?_
    refine lv_iconst (v := 5) hx hb dX6_stands_4 (by decide) ?_
    refine lv_icmp_eq (tgt := 17) hx hb dX6_stands_5 (by decide) (fun q => absurd q (by decide)) (fun _ => ?_)
    refine lv_aload_n hx hb dX6_stands_8 rfl (lv_at hl 0 rfl) ?_
    refine va_get (D := (dC, dI)) (ci := 6) (v := .int 0) (C := RX6) (T := TX6) (N := 14) hx hb hts (by decide +kernel) hown hK.1 hP 0 rfl rfl 12 (by decide) (hts (.fieldLink RX6 129 "NoteWatermarksModel" "state" "I") (by decide +kernel)) (fun _ h9 => h9) rfl dX6_stands_9 ?_
    refine lv_bipush (v := 7) hx hb dX6_stands_12 (by decide) ?_
    refine lv_icmp_ne (tgt := 95) hx hb dX6_stands_14 (by decide) (fun _ => ?_) (fun q => absurd q (by decide))
    refine lv_aload_n hx hb dX6_stands_95 rfl (lv_at hl 0 rfl) ?_
    refine va_get (D := (dC, dI)) (ci := 6) (v := .int 0) (C := RX6) (T := TX6) (N := 14) hx hb hts (by decide +kernel) hown hK.1 hP 0 rfl rfl 12 (by decide) (hts (.fieldLink RX6 129 "NoteWatermarksModel" "state" "I") (by decide +kernel)) (fun _ h9 => h9) rfl dX6_stands_96 ?_
    refine lv_bipush (v := 6) hx hb dX6_stands_99 (by decide) ?_
    refine lv_icmp_ne (tgt := 108) hx hb dX6_stands_101 (by decide) (fun _ => ?_) (fun q => absurd q (by decide))
    refine lv_aload_n hx hb dX6_stands_108 rfl (lv_at hl 0 rfl) ?_
    refine va_get (D := (dC, dI)) (ci := 6) (v := .int 0) (C := RX6) (T := TX6) (N := 14) hx hb hts (by decide +kernel) hown hK.1 hP 0 rfl rfl 12 (by decide) (hts (.fieldLink RX6 129 "NoteWatermarksModel" "state" "I") (by decide +kernel)) (fun _ h9 => h9) rfl dX6_stands_109 ?_
    refine lv_istore_n (lv' := [(2, .int 0), (0, .ref oM), (1, .int x)]) hx hb dX6_stands_112 rfl hl (by decide) rfl (fun ls hl => ?_)
    refine lv_aload_n hx hb dX6_stands_113 rfl (lv_at hl 1 rfl) ?_
    refine va_get (D := (dC, dI)) (ci := 6) (v := .ref rq) (C := RX6) (T := TX6) (N := 14) hx hb hts (by decide +kernel) hown hK.1 hP 0 rfl rfl 10 (by decide) (hts (.fieldLink RX6 19 "NoteWatermarksModel" "parts" "[I") (by decide +kernel)) (fun _ h9 => h9) rfl dX6_stands_114 ?_
    refine lv_bipush (v := 6) hx hb dX6_stands_117 (by decide) ?_
    refine lv_aload_n hx hb dX6_stands_119 rfl (lv_at hl 1 rfl) ?_
    refine va_get (D := (dC, dI)) (ci := 6) (v := .int (nI y)) (C := RX6) (T := TX6) (N := 14) hx hb hts (by decide +kernel) hown hK.1 hP 0 rfl rfl 11 (by decide) (hts (.fieldLink RX6 132 "NoteWatermarksModel" "partMany" "I") (by decide +kernel)) (fun _ h9 => h9) rfl dX6_stands_120 ?_
    refine lv_imul hx hb dX6_stands_123 ?_
    refine kq_top (z := nI (6 * y)) (pk_mul 6 y) ?_
    refine lv_iload_n hx hb dX6_stands_124 rfl (lv_at hl 0 rfl) ?_
    refine lv_iadd hx hb dX6_stands_125 ?_
    refine kq_top (z := nI ((6 * y) + 0)) (nI_add (6 * y) 0) ?_
    refine lv_iload_n hx hb dX6_stands_126 rfl (lv_at hl 0 rfl) ?_
    refine lv_iload_n hx hb dX6_stands_127 rfl (lv_at hl 2 rfl) ?_
    refine kq_cS (As := [.int 0, .int x]) (rest := [.int (nI ((6 * y) + 0)), .ref rq]) ⟨hx, hb, hml, hown, hts⟩ (c_X6_valueOf l dC dI cI 0 x (by first | assumption | omega)) (va_cwS 2 hts gX6_stands_X6_valueOf rfl rfl rfl (by decide +kernel) ⟨Nat.le_of_ble_eq_true rfl, Nat.le_of_ble_eq_true rfl⟩) (hP.sub [] rfl) hK rfl hl.1 rfl (Nat.le_of_ble_eq_true rfl) dX6_stands_128 ⟨Nat.le_of_ble_eq_true rfl, Nat.le_of_ble_eq_true rfl⟩ ?_
    refine va_iast hx hb hK.1 hP hD hS 1 0 rfl rfl (vp_in_nI (show (6 * y) + 0 < 72 from by omega) (by omega)) dX6_stands_131 (fun H locs hP hD hS => ?_)
    rw [nI_clamp (Nat.lt_trans (show (6 * y) + 0 < 72 from by omega) (by omega))] at hP hD
    have hP : va_P (dC, dI) vwCl [(oM, .inr (6, [.int th, .ref rz, .ref r2, .int (nI km), .ref rb, .int (nI n), .int tp, .int lf, .int hg, .int wd, .ref rq, .int (nI y), .int 0, .long hh])), (rq, .inl (cI, 72, .inl (upd pt ((6 * y) + 0) (n_vl 0 x))))] H := hP
    have hD : va_D A [(oM, .inr (6, [.int th, .ref rz, .ref r2, .int (nI km), .ref rb, .int (nI n), .int tp, .int lf, .int hg, .int wd, .ref rq, .int (nI y), .int 0, .long hh])), (rq, .inl (cI, 72, .inl (upd pt ((6 * y) + 0) (n_vl 0 x))))] := hD
    refine lv_iload_n hx hb dX6_stands_132 rfl (lv_at hl 0 rfl) ?_
    refine lv_iconst (v := 4) hx hb dX6_stands_133 (by decide) ?_
    refine lv_icmp_ne (tgt := 152) hx hb dX6_stands_134 (by decide) (fun _ => ?_) (fun q => absurd q (by decide))
    refine lv_aload_n hx hb dX6_stands_152 rfl (lv_at hl 1 rfl) ?_
    refine lv_dup hx hb dX6_stands_153 rfl ?_
    refine va_get (D := (dC, dI)) (ci := 6) (v := .int 0) (C := RX6) (T := TX6) (N := 14) hx hb hts (by decide +kernel) hown hK.1 hP 0 rfl rfl 12 (by decide) (hts (.fieldLink RX6 129 "NoteWatermarksModel" "state" "I") (by decide +kernel)) (fun _ h9 => h9) rfl dX6_stands_154 ?_
    refine lv_iconst (v := 1) hx hb dX6_stands_157 (by decide) ?_
    refine lv_iadd hx hb dX6_stands_158 ?_
    refine kq_top (z := nI (0 + 1)) (nI_add 0 1) ?_
    refine va_put (D := (dC, dI)) (ci := 6) (v := .int (nI (0 + 1))) (ty := .int) (C := RX6) (T := TX6) (N := 14) hx hb hts (by decide +kernel) tyX6 tyX6_ok nmX6 hown hK.1 hP hD hS 0 rfl rfl 12 (by decide) (hts (.fieldLink RX6 129 "NoteWatermarksModel" "state" "I") (by decide +kernel)) (fun _ h9 => h9) rfl (by decide +kernel) rfl rfl (Nat.le_of_ble_eq_true rfl) dX6_stands_159 (fun H locs hP hD hS => ?_)
    have hP : va_P (dC, dI) vwCl [(oM, .inr (6, [.int th, .ref rz, .ref r2, .int (nI km), .ref rb, .int (nI n), .int tp, .int lf, .int hg, .int wd, .ref rq, .int (nI y), .int (nI (0 + 1)), .long hh])), (rq, .inl (cI, 72, .inl (upd pt ((6 * y) + 0) (n_vl 0 x))))] H := hP
    have hD : va_D A [(oM, .inr (6, [.int th, .ref rz, .ref r2, .int (nI km), .ref rb, .int (nI n), .int tp, .int lf, .int hg, .int wd, .ref rq, .int (nI y), .int (nI (0 + 1)), .long hh])), (rq, .inl (cI, 72, .inl (upd pt ((6 * y) + 0) (n_vl 0 x))))] := hD
    refine lv_iload_n hx hb dX6_stands_162 rfl (lv_at hl 0 rfl) ?_
    refine lv_iload_n hx hb dX6_stands_163 rfl (lv_at hl 2 rfl) ?_
    refine kq_cS (As := [.int 0, .int x]) (rest := []) ⟨hx, hb, hml, hown, hts⟩ (c_X6_isGood l dC dI cI 0 x (by first | assumption | omega)) (va_cwS 2 hts gX6_stands_X6_isGood rfl rfl rfl (by decide +kernel) ⟨Nat.le_of_ble_eq_true rfl, Nat.le_of_ble_eq_true rfl⟩) (hP.sub [] rfl) hK rfl hl.1 rfl (Nat.le_of_ble_eq_true rfl) dX6_stands_164 ⟨Nat.le_of_ble_eq_true rfl, Nat.le_of_ble_eq_true rfl⟩ ?_
    exact kq_retMz (0 + 1, y, upd pt ((6 * y) + 0) (n_vl 0 x)) hx hb hr hlocks hP hD hS dX6_stands_167 (by first | exact Or.inl rfl | exact Or.inr rfl | (split <;> simp)) (by dsimp only; exact ⟨by rw [ite_not]; rfl, rfl, fun h9 => ⟨((n_nx_8 h9 (by decide)).1 (by decide)).symm, by simp [n_sc]⟩, by decide, by omega⟩)
  · skip
    refine lv_aload_n hx hb dX6_stands_0 rfl (lv_at hl 0 rfl) ?_
    refine va_get (D := (dC, dI)) (ci := 6) (v := .int 1) (C := RX6) (T := TX6) (N := 14) hx hb hts (by decide +kernel) hown hK.1 hP 0 rfl rfl 12 (by decide) (hts (.fieldLink RX6 129 "NoteWatermarksModel" "state" "I") (by decide +kernel)) (fun _ h9 => h9) rfl dX6_stands_1 ?_
    refine lv_iconst (v := 5) hx hb dX6_stands_4 (by decide) ?_
    refine lv_icmp_eq (tgt := 17) hx hb dX6_stands_5 (by decide) (fun q => absurd q (by decide)) (fun _ => ?_)
    refine lv_aload_n hx hb dX6_stands_8 rfl (lv_at hl 0 rfl) ?_
    refine va_get (D := (dC, dI)) (ci := 6) (v := .int 1) (C := RX6) (T := TX6) (N := 14) hx hb hts (by decide +kernel) hown hK.1 hP 0 rfl rfl 12 (by decide) (hts (.fieldLink RX6 129 "NoteWatermarksModel" "state" "I") (by decide +kernel)) (fun _ h9 => h9) rfl dX6_stands_9 ?_
    refine lv_bipush (v := 7) hx hb dX6_stands_12 (by decide) ?_
    refine lv_icmp_ne (tgt := 95) hx hb dX6_stands_14 (by decide) (fun _ => ?_) (fun q => absurd q (by decide))
    refine lv_aload_n hx hb dX6_stands_95 rfl (lv_at hl 0 rfl) ?_
    refine va_get (D := (dC, dI)) (ci := 6) (v := .int 1) (C := RX6) (T := TX6) (N := 14) hx hb hts (by decide +kernel) hown hK.1 hP 0 rfl rfl 12 (by decide) (hts (.fieldLink RX6 129 "NoteWatermarksModel" "state" "I") (by decide +kernel)) (fun _ h9 => h9) rfl dX6_stands_96 ?_
    refine lv_bipush (v := 6) hx hb dX6_stands_99 (by decide) ?_
    refine lv_icmp_ne (tgt := 108) hx hb dX6_stands_101 (by decide) (fun _ => ?_) (fun q => absurd q (by decide))
    refine lv_aload_n hx hb dX6_stands_108 rfl (lv_at hl 0 rfl) ?_
    refine va_get (D := (dC, dI)) (ci := 6) (v := .int 1) (C := RX6) (T := TX6) (N := 14) hx hb hts (by decide +kernel) hown hK.1 hP 0 rfl rfl 12 (by decide) (hts (.fieldLink RX6 129 "NoteWatermarksModel" "state" "I") (by decide +kernel)) (fun _ h9 => h9) rfl dX6_stands_109 ?_
    refine lv_istore_n (lv' := [(2, .int 1), (0, .ref oM), (1, .int x)]) hx hb dX6_stands_112 rfl hl (by decide) rfl (fun ls hl => ?_)
    refine lv_aload_n hx hb dX6_stands_113 rfl (lv_at hl 1 rfl) ?_
    refine va_get (D := (dC, dI)) (ci := 6) (v := .ref rq) (C := RX6) (T := TX6) (N := 14) hx hb hts (by decide +kernel) hown hK.1 hP 0 rfl rfl 10 (by decide) (hts (.fieldLink RX6 19 "NoteWatermarksModel" "parts" "[I") (by decide +kernel)) (fun _ h9 => h9) rfl dX6_stands_114 ?_
    refine lv_bipush (v := 6) hx hb dX6_stands_117 (by decide) ?_
    refine lv_aload_n hx hb dX6_stands_119 rfl (lv_at hl 1 rfl) ?_
    refine va_get (D := (dC, dI)) (ci := 6) (v := .int (nI y)) (C := RX6) (T := TX6) (N := 14) hx hb hts (by decide +kernel) hown hK.1 hP 0 rfl rfl 11 (by decide) (hts (.fieldLink RX6 132 "NoteWatermarksModel" "partMany" "I") (by decide +kernel)) (fun _ h9 => h9) rfl dX6_stands_120 ?_
    refine lv_imul hx hb dX6_stands_123 ?_
    refine kq_top (z := nI (6 * y)) (pk_mul 6 y) ?_
    refine lv_iload_n hx hb dX6_stands_124 rfl (lv_at hl 0 rfl) ?_
    refine lv_iadd hx hb dX6_stands_125 ?_
    refine kq_top (z := nI ((6 * y) + 1)) (nI_add (6 * y) 1) ?_
    refine lv_iload_n hx hb dX6_stands_126 rfl (lv_at hl 0 rfl) ?_
    refine lv_iload_n hx hb dX6_stands_127 rfl (lv_at hl 2 rfl) ?_
    refine kq_cS (As := [.int 1, .int x]) (rest := [.int (nI ((6 * y) + 1)), .ref rq]) ⟨hx, hb, hml, hown, hts⟩ (c_X6_valueOf l dC dI cI 1 x (by first | assumption | omega)) (va_cwS 2 hts gX6_stands_X6_valueOf rfl rfl rfl (by decide +kernel) ⟨Nat.le_of_ble_eq_true rfl, Nat.le_of_ble_eq_true rfl⟩) (hP.sub [] rfl) hK rfl hl.1 rfl (Nat.le_of_ble_eq_true rfl) dX6_stands_128 ⟨Nat.le_of_ble_eq_true rfl, Nat.le_of_ble_eq_true rfl⟩ ?_
    refine va_iast hx hb hK.1 hP hD hS 1 0 rfl rfl (vp_in_nI (show (6 * y) + 1 < 72 from by omega) (by omega)) dX6_stands_131 (fun H locs hP hD hS => ?_)
    rw [nI_clamp (Nat.lt_trans (show (6 * y) + 1 < 72 from by omega) (by omega))] at hP hD
    have hP : va_P (dC, dI) vwCl [(oM, .inr (6, [.int th, .ref rz, .ref r2, .int (nI km), .ref rb, .int (nI n), .int tp, .int lf, .int hg, .int wd, .ref rq, .int (nI y), .int 1, .long hh])), (rq, .inl (cI, 72, .inl (upd pt ((6 * y) + 1) (n_vl 1 x))))] H := hP
    have hD : va_D A [(oM, .inr (6, [.int th, .ref rz, .ref r2, .int (nI km), .ref rb, .int (nI n), .int tp, .int lf, .int hg, .int wd, .ref rq, .int (nI y), .int 1, .long hh])), (rq, .inl (cI, 72, .inl (upd pt ((6 * y) + 1) (n_vl 1 x))))] := hD
    refine lv_iload_n hx hb dX6_stands_132 rfl (lv_at hl 0 rfl) ?_
    refine lv_iconst (v := 4) hx hb dX6_stands_133 (by decide) ?_
    refine lv_icmp_ne (tgt := 152) hx hb dX6_stands_134 (by decide) (fun _ => ?_) (fun q => absurd q (by decide))
    refine lv_aload_n hx hb dX6_stands_152 rfl (lv_at hl 1 rfl) ?_
    refine lv_dup hx hb dX6_stands_153 rfl ?_
    refine va_get (D := (dC, dI)) (ci := 6) (v := .int 1) (C := RX6) (T := TX6) (N := 14) hx hb hts (by decide +kernel) hown hK.1 hP 0 rfl rfl 12 (by decide) (hts (.fieldLink RX6 129 "NoteWatermarksModel" "state" "I") (by decide +kernel)) (fun _ h9 => h9) rfl dX6_stands_154 ?_
    refine lv_iconst (v := 1) hx hb dX6_stands_157 (by decide) ?_
    refine lv_iadd hx hb dX6_stands_158 ?_
    refine kq_top (z := nI (1 + 1)) (nI_add 1 1) ?_
    refine va_put (D := (dC, dI)) (ci := 6) (v := .int (nI (1 + 1))) (ty := .int) (C := RX6) (T := TX6) (N := 14) hx hb hts (by decide +kernel) tyX6 tyX6_ok nmX6 hown hK.1 hP hD hS 0 rfl rfl 12 (by decide) (hts (.fieldLink RX6 129 "NoteWatermarksModel" "state" "I") (by decide +kernel)) (fun _ h9 => h9) rfl (by decide +kernel) rfl rfl (Nat.le_of_ble_eq_true rfl) dX6_stands_159 (fun H locs hP hD hS => ?_)
    have hP : va_P (dC, dI) vwCl [(oM, .inr (6, [.int th, .ref rz, .ref r2, .int (nI km), .ref rb, .int (nI n), .int tp, .int lf, .int hg, .int wd, .ref rq, .int (nI y), .int (nI (1 + 1)), .long hh])), (rq, .inl (cI, 72, .inl (upd pt ((6 * y) + 1) (n_vl 1 x))))] H := hP
    have hD : va_D A [(oM, .inr (6, [.int th, .ref rz, .ref r2, .int (nI km), .ref rb, .int (nI n), .int tp, .int lf, .int hg, .int wd, .ref rq, .int (nI y), .int (nI (1 + 1)), .long hh])), (rq, .inl (cI, 72, .inl (upd pt ((6 * y) + 1) (n_vl 1 x))))] := hD
    refine lv_iload_n hx hb dX6_stands_162 rfl (lv_at hl 0 rfl) ?_
    refine lv_iload_n hx hb dX6_stands_163 rfl (lv_at hl 2 rfl) ?_
    refine kq_cS (As := [.int 1, .int x]) (rest := []) ⟨hx, hb, hml, hown, hts⟩ (c_X6_isGood l dC dI cI 1 x (by first | assumption | omega)) (va_cwS 2 hts gX6_stands_X6_isGood rfl rfl rfl (by decide +kernel) ⟨Nat.le_of_ble_eq_true rfl, Nat.le_of_ble_eq_true rfl⟩) (hP.sub [] rfl) hK rfl hl.1 rfl (Nat.le_of_ble_eq_true rfl) dX6_stands_164 ⟨Nat.le_of_ble_eq_true rfl, Nat.le_of_ble_eq_true rfl⟩ ?_
    exact kq_retMz (1 + 1, y, upd pt ((6 * y) + 1) (n_vl 1 x)) hx hb hr hlocks hP hD hS dX6_stands_167 (by first | exact Or.inl rfl | exact Or.inr rfl | (split <;> simp)) (by dsimp only; exact ⟨by rw [ite_not]; rfl, rfl, fun h9 => ⟨((n_nx_8 h9 (by decide)).1 (by decide)).symm, by simp [n_sc]⟩, by decide, by omega⟩)
  · skip
    refine lv_aload_n hx hb dX6_stands_0 rfl (lv_at hl 0 rfl) ?_
    refine va_get (D := (dC, dI)) (ci := 6) (v := .int 2) (C := RX6) (T := TX6) (N := 14) hx hb hts (by decide +kernel) hown hK.1 hP 0 rfl rfl 12 (by decide) (hts (.fieldLink RX6 129 "NoteWatermarksModel" "state" "I") (by decide +kernel)) (fun _ h9 => h9) rfl dX6_stands_1 ?_
    refine lv_iconst (v := 5) hx hb dX6_stands_4 (by decide) ?_
    refine lv_icmp_eq (tgt := 17) hx hb dX6_stands_5 (by decide) (fun q => absurd q (by decide)) (fun _ => ?_)
    refine lv_aload_n hx hb dX6_stands_8 rfl (lv_at hl 0 rfl) ?_
    refine va_get (D := (dC, dI)) (ci := 6) (v := .int 2) (C := RX6) (T := TX6) (N := 14) hx hb hts (by decide +kernel) hown hK.1 hP 0 rfl rfl 12 (by decide) (hts (.fieldLink RX6 129 "NoteWatermarksModel" "state" "I") (by decide +kernel)) (fun _ h9 => h9) rfl dX6_stands_9 ?_
    refine lv_bipush (v := 7) hx hb dX6_stands_12 (by decide) ?_
    refine lv_icmp_ne (tgt := 95) hx hb dX6_stands_14 (by decide) (fun _ => ?_) (fun q => absurd q (by decide))
    refine lv_aload_n hx hb dX6_stands_95 rfl (lv_at hl 0 rfl) ?_
    refine va_get (D := (dC, dI)) (ci := 6) (v := .int 2) (C := RX6) (T := TX6) (N := 14) hx hb hts (by decide +kernel) hown hK.1 hP 0 rfl rfl 12 (by decide) (hts (.fieldLink RX6 129 "NoteWatermarksModel" "state" "I") (by decide +kernel)) (fun _ h9 => h9) rfl dX6_stands_96 ?_
    refine lv_bipush (v := 6) hx hb dX6_stands_99 (by decide) ?_
    refine lv_icmp_ne (tgt := 108) hx hb dX6_stands_101 (by decide) (fun _ => ?_) (fun q => absurd q (by decide))
    refine lv_aload_n hx hb dX6_stands_108 rfl (lv_at hl 0 rfl) ?_
    refine va_get (D := (dC, dI)) (ci := 6) (v := .int 2) (C := RX6) (T := TX6) (N := 14) hx hb hts (by decide +kernel) hown hK.1 hP 0 rfl rfl 12 (by decide) (hts (.fieldLink RX6 129 "NoteWatermarksModel" "state" "I") (by decide +kernel)) (fun _ h9 => h9) rfl dX6_stands_109 ?_
    refine lv_istore_n (lv' := [(2, .int 2), (0, .ref oM), (1, .int x)]) hx hb dX6_stands_112 rfl hl (by decide) rfl (fun ls hl => ?_)
    refine lv_aload_n hx hb dX6_stands_113 rfl (lv_at hl 1 rfl) ?_
    refine va_get (D := (dC, dI)) (ci := 6) (v := .ref rq) (C := RX6) (T := TX6) (N := 14) hx hb hts (by decide +kernel) hown hK.1 hP 0 rfl rfl 10 (by decide) (hts (.fieldLink RX6 19 "NoteWatermarksModel" "parts" "[I") (by decide +kernel)) (fun _ h9 => h9) rfl dX6_stands_114 ?_
    refine lv_bipush (v := 6) hx hb dX6_stands_117 (by decide) ?_
    refine lv_aload_n hx hb dX6_stands_119 rfl (lv_at hl 1 rfl) ?_
    refine va_get (D := (dC, dI)) (ci := 6) (v := .int (nI y)) (C := RX6) (T := TX6) (N := 14) hx hb hts (by decide +kernel) hown hK.1 hP 0 rfl rfl 11 (by decide) (hts (.fieldLink RX6 132 "NoteWatermarksModel" "partMany" "I") (by decide +kernel)) (fun _ h9 => h9) rfl dX6_stands_120 ?_
    refine lv_imul hx hb dX6_stands_123 ?_
    refine kq_top (z := nI (6 * y)) (pk_mul 6 y) ?_
    refine lv_iload_n hx hb dX6_stands_124 rfl (lv_at hl 0 rfl) ?_
    refine lv_iadd hx hb dX6_stands_125 ?_
    refine kq_top (z := nI ((6 * y) + 2)) (nI_add (6 * y) 2) ?_
    refine lv_iload_n hx hb dX6_stands_126 rfl (lv_at hl 0 rfl) ?_
    refine lv_iload_n hx hb dX6_stands_127 rfl (lv_at hl 2 rfl) ?_
    refine kq_cS (As := [.int 2, .int x]) (rest := [.int (nI ((6 * y) + 2)), .ref rq]) ⟨hx, hb, hml, hown, hts⟩ (c_X6_valueOf l dC dI cI 2 x (by first | assumption | omega)) (va_cwS 2 hts gX6_stands_X6_valueOf rfl rfl rfl (by decide +kernel) ⟨Nat.le_of_ble_eq_true rfl, Nat.le_of_ble_eq_true rfl⟩) (hP.sub [] rfl) hK rfl hl.1 rfl (Nat.le_of_ble_eq_true rfl) dX6_stands_128 ⟨Nat.le_of_ble_eq_true rfl, Nat.le_of_ble_eq_true rfl⟩ ?_
    refine va_iast hx hb hK.1 hP hD hS 1 0 rfl rfl (vp_in_nI (show (6 * y) + 2 < 72 from by omega) (by omega)) dX6_stands_131 (fun H locs hP hD hS => ?_)
    rw [nI_clamp (Nat.lt_trans (show (6 * y) + 2 < 72 from by omega) (by omega))] at hP hD
    have hP : va_P (dC, dI) vwCl [(oM, .inr (6, [.int th, .ref rz, .ref r2, .int (nI km), .ref rb, .int (nI n), .int tp, .int lf, .int hg, .int wd, .ref rq, .int (nI y), .int 2, .long hh])), (rq, .inl (cI, 72, .inl (upd pt ((6 * y) + 2) (n_vl 2 x))))] H := hP
    have hD : va_D A [(oM, .inr (6, [.int th, .ref rz, .ref r2, .int (nI km), .ref rb, .int (nI n), .int tp, .int lf, .int hg, .int wd, .ref rq, .int (nI y), .int 2, .long hh])), (rq, .inl (cI, 72, .inl (upd pt ((6 * y) + 2) (n_vl 2 x))))] := hD
    refine lv_iload_n hx hb dX6_stands_132 rfl (lv_at hl 0 rfl) ?_
    refine lv_iconst (v := 4) hx hb dX6_stands_133 (by decide) ?_
    refine lv_icmp_ne (tgt := 152) hx hb dX6_stands_134 (by decide) (fun _ => ?_) (fun q => absurd q (by decide))
    refine lv_aload_n hx hb dX6_stands_152 rfl (lv_at hl 1 rfl) ?_
    refine lv_dup hx hb dX6_stands_153 rfl ?_
    refine va_get (D := (dC, dI)) (ci := 6) (v := .int 2) (C := RX6) (T := TX6) (N := 14) hx hb hts (by decide +kernel) hown hK.1 hP 0 rfl rfl 12 (by decide) (hts (.fieldLink RX6 129 "NoteWatermarksModel" "state" "I") (by decide +kernel)) (fun _ h9 => h9) rfl dX6_stands_154 ?_
    refine lv_iconst (v := 1) hx hb dX6_stands_157 (by decide) ?_
    refine lv_iadd hx hb dX6_stands_158 ?_
    refine kq_top (z := nI (2 + 1)) (nI_add 2 1) ?_
    refine va_put (D := (dC, dI)) (ci := 6) (v := .int (nI (2 + 1))) (ty := .int) (C := RX6) (T := TX6) (N := 14) hx hb hts (by decide +kernel) tyX6 tyX6_ok nmX6 hown hK.1 hP hD hS 0 rfl rfl 12 (by decide) (hts (.fieldLink RX6 129 "NoteWatermarksModel" "state" "I") (by decide +kernel)) (fun _ h9 => h9) rfl (by decide +kernel) rfl rfl (Nat.le_of_ble_eq_true rfl) dX6_stands_159 (fun H locs hP hD hS => ?_)
    have hP : va_P (dC, dI) vwCl [(oM, .inr (6, [.int th, .ref rz, .ref r2, .int (nI km), .ref rb, .int (nI n), .int tp, .int lf, .int hg, .int wd, .ref rq, .int (nI y), .int (nI (2 + 1)), .long hh])), (rq, .inl (cI, 72, .inl (upd pt ((6 * y) + 2) (n_vl 2 x))))] H := hP
    have hD : va_D A [(oM, .inr (6, [.int th, .ref rz, .ref r2, .int (nI km), .ref rb, .int (nI n), .int tp, .int lf, .int hg, .int wd, .ref rq, .int (nI y), .int (nI (2 + 1)), .long hh])), (rq, .inl (cI, 72, .inl (upd pt ((6 * y) + 2) (n_vl 2 x))))] := hD
    refine lv_iload_n hx hb dX6_stands_162 rfl (lv_at hl 0 rfl) ?_
    refine lv_iload_n hx hb dX6_stands_163 rfl (lv_at hl 2 rfl) ?_
    refine kq_cS (As := [.int 2, .int x]) (rest := []) ⟨hx, hb, hml, hown, hts⟩ (c_X6_isGood l dC dI cI 2 x (by first | assumption | omega)) (va_cwS 2 hts gX6_stands_X6_isGood rfl rfl rfl (by decide +kernel) ⟨Nat.le_of_ble_eq_true rfl, Nat.le_of_ble_eq_true rfl⟩) (hP.sub [] rfl) hK rfl hl.1 rfl (Nat.le_of_ble_eq_true rfl) dX6_stands_164 ⟨Nat.le_of_ble_eq_true rfl, Nat.le_of_ble_eq_true rfl⟩ ?_
    exact kq_retMz (2 + 1, y, upd pt ((6 * y) + 2) (n_vl 2 x)) hx hb hr hlocks hP hD hS dX6_stands_167 (by first | exact Or.inl rfl | exact Or.inr rfl | (split <;> simp)) (by dsimp only; exact ⟨by rw [ite_not]; rfl, rfl, fun h9 => ⟨((n_nx_8 h9 (by decide)).1 (by decide)).symm, by simp [n_sc]⟩, by decide, by omega⟩)
  · skip
    refine lv_aload_n hx hb dX6_stands_0 rfl (lv_at hl 0 rfl) ?_
    refine va_get (D := (dC, dI)) (ci := 6) (v := .int 3) (C := RX6) (T := TX6) (N := 14) hx hb hts (by decide +kernel) hown hK.1 hP 0 rfl rfl 12 (by decide) (hts (.fieldLink RX6 129 "NoteWatermarksModel" "state" "I") (by decide +kernel)) (fun _ h9 => h9) rfl dX6_stands_1 ?_
    refine lv_iconst (v := 5) hx hb dX6_stands_4 (by decide) ?_
    refine lv_icmp_eq (tgt := 17) hx hb dX6_stands_5 (by decide) (fun q => absurd q (by decide)) (fun _ => ?_)
    refine lv_aload_n hx hb dX6_stands_8 rfl (lv_at hl 0 rfl) ?_
    refine va_get (D := (dC, dI)) (ci := 6) (v := .int 3) (C := RX6) (T := TX6) (N := 14) hx hb hts (by decide +kernel) hown hK.1 hP 0 rfl rfl 12 (by decide) (hts (.fieldLink RX6 129 "NoteWatermarksModel" "state" "I") (by decide +kernel)) (fun _ h9 => h9) rfl dX6_stands_9 ?_
    refine lv_bipush (v := 7) hx hb dX6_stands_12 (by decide) ?_
    refine lv_icmp_ne (tgt := 95) hx hb dX6_stands_14 (by decide) (fun _ => ?_) (fun q => absurd q (by decide))
    refine lv_aload_n hx hb dX6_stands_95 rfl (lv_at hl 0 rfl) ?_
    refine va_get (D := (dC, dI)) (ci := 6) (v := .int 3) (C := RX6) (T := TX6) (N := 14) hx hb hts (by decide +kernel) hown hK.1 hP 0 rfl rfl 12 (by decide) (hts (.fieldLink RX6 129 "NoteWatermarksModel" "state" "I") (by decide +kernel)) (fun _ h9 => h9) rfl dX6_stands_96 ?_
    refine lv_bipush (v := 6) hx hb dX6_stands_99 (by decide) ?_
    refine lv_icmp_ne (tgt := 108) hx hb dX6_stands_101 (by decide) (fun _ => ?_) (fun q => absurd q (by decide))
    refine lv_aload_n hx hb dX6_stands_108 rfl (lv_at hl 0 rfl) ?_
    refine va_get (D := (dC, dI)) (ci := 6) (v := .int 3) (C := RX6) (T := TX6) (N := 14) hx hb hts (by decide +kernel) hown hK.1 hP 0 rfl rfl 12 (by decide) (hts (.fieldLink RX6 129 "NoteWatermarksModel" "state" "I") (by decide +kernel)) (fun _ h9 => h9) rfl dX6_stands_109 ?_
    refine lv_istore_n (lv' := [(2, .int 3), (0, .ref oM), (1, .int x)]) hx hb dX6_stands_112 rfl hl (by decide) rfl (fun ls hl => ?_)
    refine lv_aload_n hx hb dX6_stands_113 rfl (lv_at hl 1 rfl) ?_
    refine va_get (D := (dC, dI)) (ci := 6) (v := .ref rq) (C := RX6) (T := TX6) (N := 14) hx hb hts (by decide +kernel) hown hK.1 hP 0 rfl rfl 10 (by decide) (hts (.fieldLink RX6 19 "NoteWatermarksModel" "parts" "[I") (by decide +kernel)) (fun _ h9 => h9) rfl dX6_stands_114 ?_
    refine lv_bipush (v := 6) hx hb dX6_stands_117 (by decide) ?_
    refine lv_aload_n hx hb dX6_stands_119 rfl (lv_at hl 1 rfl) ?_
    refine va_get (D := (dC, dI)) (ci := 6) (v := .int (nI y)) (C := RX6) (T := TX6) (N := 14) hx hb hts (by decide +kernel) hown hK.1 hP 0 rfl rfl 11 (by decide) (hts (.fieldLink RX6 132 "NoteWatermarksModel" "partMany" "I") (by decide +kernel)) (fun _ h9 => h9) rfl dX6_stands_120 ?_
    refine lv_imul hx hb dX6_stands_123 ?_
    refine kq_top (z := nI (6 * y)) (pk_mul 6 y) ?_
    refine lv_iload_n hx hb dX6_stands_124 rfl (lv_at hl 0 rfl) ?_
    refine lv_iadd hx hb dX6_stands_125 ?_
    refine kq_top (z := nI ((6 * y) + 3)) (nI_add (6 * y) 3) ?_
    refine lv_iload_n hx hb dX6_stands_126 rfl (lv_at hl 0 rfl) ?_
    refine lv_iload_n hx hb dX6_stands_127 rfl (lv_at hl 2 rfl) ?_
    refine kq_cS (As := [.int 3, .int x]) (rest := [.int (nI ((6 * y) + 3)), .ref rq]) ⟨hx, hb, hml, hown, hts⟩ (c_X6_valueOf l dC dI cI 3 x (by first | assumption | omega)) (va_cwS 2 hts gX6_stands_X6_valueOf rfl rfl rfl (by decide +kernel) ⟨Nat.le_of_ble_eq_true rfl, Nat.le_of_ble_eq_true rfl⟩) (hP.sub [] rfl) hK rfl hl.1 rfl (Nat.le_of_ble_eq_true rfl) dX6_stands_128 ⟨Nat.le_of_ble_eq_true rfl, Nat.le_of_ble_eq_true rfl⟩ ?_
    refine va_iast hx hb hK.1 hP hD hS 1 0 rfl rfl (vp_in_nI (show (6 * y) + 3 < 72 from by omega) (by omega)) dX6_stands_131 (fun H locs hP hD hS => ?_)
    rw [nI_clamp (Nat.lt_trans (show (6 * y) + 3 < 72 from by omega) (by omega))] at hP hD
    have hP : va_P (dC, dI) vwCl [(oM, .inr (6, [.int th, .ref rz, .ref r2, .int (nI km), .ref rb, .int (nI n), .int tp, .int lf, .int hg, .int wd, .ref rq, .int (nI y), .int 3, .long hh])), (rq, .inl (cI, 72, .inl (upd pt ((6 * y) + 3) (n_vl 3 x))))] H := hP
    have hD : va_D A [(oM, .inr (6, [.int th, .ref rz, .ref r2, .int (nI km), .ref rb, .int (nI n), .int tp, .int lf, .int hg, .int wd, .ref rq, .int (nI y), .int 3, .long hh])), (rq, .inl (cI, 72, .inl (upd pt ((6 * y) + 3) (n_vl 3 x))))] := hD
    refine lv_iload_n hx hb dX6_stands_132 rfl (lv_at hl 0 rfl) ?_
    refine lv_iconst (v := 4) hx hb dX6_stands_133 (by decide) ?_
    refine lv_icmp_ne (tgt := 152) hx hb dX6_stands_134 (by decide) (fun _ => ?_) (fun q => absurd q (by decide))
    refine lv_aload_n hx hb dX6_stands_152 rfl (lv_at hl 1 rfl) ?_
    refine lv_dup hx hb dX6_stands_153 rfl ?_
    refine va_get (D := (dC, dI)) (ci := 6) (v := .int 3) (C := RX6) (T := TX6) (N := 14) hx hb hts (by decide +kernel) hown hK.1 hP 0 rfl rfl 12 (by decide) (hts (.fieldLink RX6 129 "NoteWatermarksModel" "state" "I") (by decide +kernel)) (fun _ h9 => h9) rfl dX6_stands_154 ?_
    refine lv_iconst (v := 1) hx hb dX6_stands_157 (by decide) ?_
    refine lv_iadd hx hb dX6_stands_158 ?_
    refine kq_top (z := nI (3 + 1)) (nI_add 3 1) ?_
    refine va_put (D := (dC, dI)) (ci := 6) (v := .int (nI (3 + 1))) (ty := .int) (C := RX6) (T := TX6) (N := 14) hx hb hts (by decide +kernel) tyX6 tyX6_ok nmX6 hown hK.1 hP hD hS 0 rfl rfl 12 (by decide) (hts (.fieldLink RX6 129 "NoteWatermarksModel" "state" "I") (by decide +kernel)) (fun _ h9 => h9) rfl (by decide +kernel) rfl rfl (Nat.le_of_ble_eq_true rfl) dX6_stands_159 (fun H locs hP hD hS => ?_)
    have hP : va_P (dC, dI) vwCl [(oM, .inr (6, [.int th, .ref rz, .ref r2, .int (nI km), .ref rb, .int (nI n), .int tp, .int lf, .int hg, .int wd, .ref rq, .int (nI y), .int (nI (3 + 1)), .long hh])), (rq, .inl (cI, 72, .inl (upd pt ((6 * y) + 3) (n_vl 3 x))))] H := hP
    have hD : va_D A [(oM, .inr (6, [.int th, .ref rz, .ref r2, .int (nI km), .ref rb, .int (nI n), .int tp, .int lf, .int hg, .int wd, .ref rq, .int (nI y), .int (nI (3 + 1)), .long hh])), (rq, .inl (cI, 72, .inl (upd pt ((6 * y) + 3) (n_vl 3 x))))] := hD
    refine lv_iload_n hx hb dX6_stands_162 rfl (lv_at hl 0 rfl) ?_
    refine lv_iload_n hx hb dX6_stands_163 rfl (lv_at hl 2 rfl) ?_
    refine kq_cS (As := [.int 3, .int x]) (rest := []) ⟨hx, hb, hml, hown, hts⟩ (c_X6_isGood l dC dI cI 3 x (by first | assumption | omega)) (va_cwS 2 hts gX6_stands_X6_isGood rfl rfl rfl (by decide +kernel) ⟨Nat.le_of_ble_eq_true rfl, Nat.le_of_ble_eq_true rfl⟩) (hP.sub [] rfl) hK rfl hl.1 rfl (Nat.le_of_ble_eq_true rfl) dX6_stands_164 ⟨Nat.le_of_ble_eq_true rfl, Nat.le_of_ble_eq_true rfl⟩ ?_
    exact kq_retMz (3 + 1, y, upd pt ((6 * y) + 3) (n_vl 3 x)) hx hb hr hlocks hP hD hS dX6_stands_167 (by first | exact Or.inl rfl | exact Or.inr rfl | (split <;> simp)) (by dsimp only; exact ⟨by rw [ite_not]; rfl, rfl, fun h9 => ⟨((n_nx_8 h9 (by decide)).1 (by decide)).symm, by simp [n_sc]⟩, by decide, by omega⟩)
  · skip
    refine lv_aload_n hx hb dX6_stands_0 rfl (lv_at hl 0 rfl) ?_
    refine va_get (D := (dC, dI)) (ci := 6) (v := .int 4) (C := RX6) (T := TX6) (N := 14) hx hb hts (by decide +kernel) hown hK.1 hP 0 rfl rfl 12 (by decide) (hts (.fieldLink RX6 129 "NoteWatermarksModel" "state" "I") (by decide +kernel)) (fun _ h9 => h9) rfl dX6_stands_1 ?_
    refine lv_iconst (v := 5) hx hb dX6_stands_4 (by decide) ?_
    refine lv_icmp_eq (tgt := 17) hx hb dX6_stands_5 (by decide) (fun q => absurd q (by decide)) (fun _ => ?_)
    refine lv_aload_n hx hb dX6_stands_8 rfl (lv_at hl 0 rfl) ?_
    refine va_get (D := (dC, dI)) (ci := 6) (v := .int 4) (C := RX6) (T := TX6) (N := 14) hx hb hts (by decide +kernel) hown hK.1 hP 0 rfl rfl 12 (by decide) (hts (.fieldLink RX6 129 "NoteWatermarksModel" "state" "I") (by decide +kernel)) (fun _ h9 => h9) rfl dX6_stands_9 ?_
    refine lv_bipush (v := 7) hx hb dX6_stands_12 (by decide) ?_
    refine lv_icmp_ne (tgt := 95) hx hb dX6_stands_14 (by decide) (fun _ => ?_) (fun q => absurd q (by decide))
    refine lv_aload_n hx hb dX6_stands_95 rfl (lv_at hl 0 rfl) ?_
    refine va_get (D := (dC, dI)) (ci := 6) (v := .int 4) (C := RX6) (T := TX6) (N := 14) hx hb hts (by decide +kernel) hown hK.1 hP 0 rfl rfl 12 (by decide) (hts (.fieldLink RX6 129 "NoteWatermarksModel" "state" "I") (by decide +kernel)) (fun _ h9 => h9) rfl dX6_stands_96 ?_
    refine lv_bipush (v := 6) hx hb dX6_stands_99 (by decide) ?_
    refine lv_icmp_ne (tgt := 108) hx hb dX6_stands_101 (by decide) (fun _ => ?_) (fun q => absurd q (by decide))
    refine lv_aload_n hx hb dX6_stands_108 rfl (lv_at hl 0 rfl) ?_
    refine va_get (D := (dC, dI)) (ci := 6) (v := .int 4) (C := RX6) (T := TX6) (N := 14) hx hb hts (by decide +kernel) hown hK.1 hP 0 rfl rfl 12 (by decide) (hts (.fieldLink RX6 129 "NoteWatermarksModel" "state" "I") (by decide +kernel)) (fun _ h9 => h9) rfl dX6_stands_109 ?_
    refine lv_istore_n (lv' := [(2, .int 4), (0, .ref oM), (1, .int x)]) hx hb dX6_stands_112 rfl hl (by decide) rfl (fun ls hl => ?_)
    refine lv_aload_n hx hb dX6_stands_113 rfl (lv_at hl 1 rfl) ?_
    refine va_get (D := (dC, dI)) (ci := 6) (v := .ref rq) (C := RX6) (T := TX6) (N := 14) hx hb hts (by decide +kernel) hown hK.1 hP 0 rfl rfl 10 (by decide) (hts (.fieldLink RX6 19 "NoteWatermarksModel" "parts" "[I") (by decide +kernel)) (fun _ h9 => h9) rfl dX6_stands_114 ?_
    refine lv_bipush (v := 6) hx hb dX6_stands_117 (by decide) ?_
    refine lv_aload_n hx hb dX6_stands_119 rfl (lv_at hl 1 rfl) ?_
    refine va_get (D := (dC, dI)) (ci := 6) (v := .int (nI y)) (C := RX6) (T := TX6) (N := 14) hx hb hts (by decide +kernel) hown hK.1 hP 0 rfl rfl 11 (by decide) (hts (.fieldLink RX6 132 "NoteWatermarksModel" "partMany" "I") (by decide +kernel)) (fun _ h9 => h9) rfl dX6_stands_120 ?_
    refine lv_imul hx hb dX6_stands_123 ?_
    refine kq_top (z := nI (6 * y)) (pk_mul 6 y) ?_
    refine lv_iload_n hx hb dX6_stands_124 rfl (lv_at hl 0 rfl) ?_
    refine lv_iadd hx hb dX6_stands_125 ?_
    refine kq_top (z := nI ((6 * y) + 4)) (nI_add (6 * y) 4) ?_
    refine lv_iload_n hx hb dX6_stands_126 rfl (lv_at hl 0 rfl) ?_
    refine lv_iload_n hx hb dX6_stands_127 rfl (lv_at hl 2 rfl) ?_
    refine kq_cS (As := [.int 4, .int x]) (rest := [.int (nI ((6 * y) + 4)), .ref rq]) ⟨hx, hb, hml, hown, hts⟩ (c_X6_valueOf l dC dI cI 4 x (by first | assumption | omega)) (va_cwS 2 hts gX6_stands_X6_valueOf rfl rfl rfl (by decide +kernel) ⟨Nat.le_of_ble_eq_true rfl, Nat.le_of_ble_eq_true rfl⟩) (hP.sub [] rfl) hK rfl hl.1 rfl (Nat.le_of_ble_eq_true rfl) dX6_stands_128 ⟨Nat.le_of_ble_eq_true rfl, Nat.le_of_ble_eq_true rfl⟩ ?_
    refine va_iast hx hb hK.1 hP hD hS 1 0 rfl rfl (vp_in_nI (show (6 * y) + 4 < 72 from by omega) (by omega)) dX6_stands_131 (fun H locs hP hD hS => ?_)
    rw [nI_clamp (Nat.lt_trans (show (6 * y) + 4 < 72 from by omega) (by omega))] at hP hD
    have hP : va_P (dC, dI) vwCl [(oM, .inr (6, [.int th, .ref rz, .ref r2, .int (nI km), .ref rb, .int (nI n), .int tp, .int lf, .int hg, .int wd, .ref rq, .int (nI y), .int 4, .long hh])), (rq, .inl (cI, 72, .inl (upd pt ((6 * y) + 4) (n_vl 4 x))))] H := hP
    have hD : va_D A [(oM, .inr (6, [.int th, .ref rz, .ref r2, .int (nI km), .ref rb, .int (nI n), .int tp, .int lf, .int hg, .int wd, .ref rq, .int (nI y), .int 4, .long hh])), (rq, .inl (cI, 72, .inl (upd pt ((6 * y) + 4) (n_vl 4 x))))] := hD
    refine lv_iload_n hx hb dX6_stands_132 rfl (lv_at hl 0 rfl) ?_
    refine lv_iconst (v := 4) hx hb dX6_stands_133 (by decide) ?_
    refine lv_icmp_ne (tgt := 152) hx hb dX6_stands_134 (by decide) (fun q => absurd q (by decide)) (fun _ => ?_)
    refine lv_aload_n hx hb dX6_stands_137 rfl (lv_at hl 1 rfl) ?_
    refine va_get (D := (dC, dI)) (ci := 6) (v := .ref rq) (C := RX6) (T := TX6) (N := 14) hx hb hts (by decide +kernel) hown hK.1 hP 0 rfl rfl 10 (by decide) (hts (.fieldLink RX6 19 "NoteWatermarksModel" "parts" "[I") (by decide +kernel)) (fun _ h9 => h9) rfl dX6_stands_138 ?_
    refine lv_bipush (v := 6) hx hb dX6_stands_141 (by decide) ?_
    refine lv_aload_n hx hb dX6_stands_143 rfl (lv_at hl 1 rfl) ?_
    refine va_get (D := (dC, dI)) (ci := 6) (v := .int (nI y)) (C := RX6) (T := TX6) (N := 14) hx hb hts (by decide +kernel) hown hK.1 hP 0 rfl rfl 11 (by decide) (hts (.fieldLink RX6 132 "NoteWatermarksModel" "partMany" "I") (by decide +kernel)) (fun _ h9 => h9) rfl dX6_stands_144 ?_
    refine lv_imul hx hb dX6_stands_147 ?_
    refine kq_top (z := nI (6 * y)) (pk_mul 6 y) ?_
    refine lv_iconst (v := 5) hx hb dX6_stands_148 (by decide) ?_
    refine lv_iadd hx hb dX6_stands_149 ?_
    refine kq_top (z := nI ((6 * y) + 5)) (nI_add (6 * y) 5) ?_
    refine lv_iconst (v := 1) hx hb dX6_stands_150 (by decide) ?_
    refine va_iast hx hb hK.1 hP hD hS 1 0 rfl rfl (vp_in_nI (show (6 * y) + 5 < 72 from by omega) (by omega)) dX6_stands_151 (fun H locs hP hD hS => ?_)
    rw [nI_clamp (Nat.lt_trans (show (6 * y) + 5 < 72 from by omega) (by omega))] at hP hD
    have hP : va_P (dC, dI) vwCl [(oM, .inr (6, [.int th, .ref rz, .ref r2, .int (nI km), .ref rb, .int (nI n), .int tp, .int lf, .int hg, .int wd, .ref rq, .int (nI y), .int 4, .long hh])), (rq, .inl (cI, 72, .inl (upd (upd pt ((6 * y) + 4) (n_vl 4 x)) ((6 * y) + 5) 1)))] H := hP
    have hD : va_D A [(oM, .inr (6, [.int th, .ref rz, .ref r2, .int (nI km), .ref rb, .int (nI n), .int tp, .int lf, .int hg, .int wd, .ref rq, .int (nI y), .int 4, .long hh])), (rq, .inl (cI, 72, .inl (upd (upd pt ((6 * y) + 4) (n_vl 4 x)) ((6 * y) + 5) 1)))] := hD
    refine lv_aload_n hx hb dX6_stands_152 rfl (lv_at hl 1 rfl) ?_
    refine lv_dup hx hb dX6_stands_153 rfl ?_
    refine va_get (D := (dC, dI)) (ci := 6) (v := .int 4) (C := RX6) (T := TX6) (N := 14) hx hb hts (by decide +kernel) hown hK.1 hP 0 rfl rfl 12 (by decide) (hts (.fieldLink RX6 129 "NoteWatermarksModel" "state" "I") (by decide +kernel)) (fun _ h9 => h9) rfl dX6_stands_154 ?_
    refine lv_iconst (v := 1) hx hb dX6_stands_157 (by decide) ?_
    refine lv_iadd hx hb dX6_stands_158 ?_
    refine kq_top (z := nI (4 + 1)) (nI_add 4 1) ?_
    refine va_put (D := (dC, dI)) (ci := 6) (v := .int (nI (4 + 1))) (ty := .int) (C := RX6) (T := TX6) (N := 14) hx hb hts (by decide +kernel) tyX6 tyX6_ok nmX6 hown hK.1 hP hD hS 0 rfl rfl 12 (by decide) (hts (.fieldLink RX6 129 "NoteWatermarksModel" "state" "I") (by decide +kernel)) (fun _ h9 => h9) rfl (by decide +kernel) rfl rfl (Nat.le_of_ble_eq_true rfl) dX6_stands_159 (fun H locs hP hD hS => ?_)
    have hP : va_P (dC, dI) vwCl [(oM, .inr (6, [.int th, .ref rz, .ref r2, .int (nI km), .ref rb, .int (nI n), .int tp, .int lf, .int hg, .int wd, .ref rq, .int (nI y), .int (nI (4 + 1)), .long hh])), (rq, .inl (cI, 72, .inl (upd (upd pt ((6 * y) + 4) (n_vl 4 x)) ((6 * y) + 5) 1)))] H := hP
    have hD : va_D A [(oM, .inr (6, [.int th, .ref rz, .ref r2, .int (nI km), .ref rb, .int (nI n), .int tp, .int lf, .int hg, .int wd, .ref rq, .int (nI y), .int (nI (4 + 1)), .long hh])), (rq, .inl (cI, 72, .inl (upd (upd pt ((6 * y) + 4) (n_vl 4 x)) ((6 * y) + 5) 1)))] := hD
    refine lv_iload_n hx hb dX6_stands_162 rfl (lv_at hl 0 rfl) ?_
    refine lv_iload_n hx hb dX6_stands_163 rfl (lv_at hl 2 rfl) ?_
    refine kq_cS (As := [.int 4, .int x]) (rest := []) ⟨hx, hb, hml, hown, hts⟩ (c_X6_isGood l dC dI cI 4 x (by first | assumption | omega)) (va_cwS 2 hts gX6_stands_X6_isGood rfl rfl rfl (by decide +kernel) ⟨Nat.le_of_ble_eq_true rfl, Nat.le_of_ble_eq_true rfl⟩) (hP.sub [] rfl) hK rfl hl.1 rfl (Nat.le_of_ble_eq_true rfl) dX6_stands_164 ⟨Nat.le_of_ble_eq_true rfl, Nat.le_of_ble_eq_true rfl⟩ ?_
    exact kq_retMz (4 + 1, y, upd (upd pt ((6 * y) + 4) (n_vl 4 x)) ((6 * y) + 5) 1) hx hb hr hlocks hP hD hS dX6_stands_167 (by first | exact Or.inl rfl | exact Or.inr rfl | (split <;> simp)) (by dsimp only; exact ⟨by rw [ite_not]; rfl, rfl, fun h9 => ⟨((n_nx_8 h9 (by decide)).1 (by decide)).symm, by simp [n_sc]⟩, by decide, by omega⟩)
  · skip
    refine lv_aload_n hx hb dX6_stands_0 rfl (lv_at hl 0 rfl) ?_
    refine va_get (D := (dC, dI)) (ci := 6) (v := .int 5) (C := RX6) (T := TX6) (N := 14) hx hb hts (by decide +kernel) hown hK.1 hP 0 rfl rfl 12 (by decide) (hts (.fieldLink RX6 129 "NoteWatermarksModel" "state" "I") (by decide +kernel)) (fun _ h9 => h9) rfl dX6_stands_1 ?_
    refine lv_iconst (v := 5) hx hb dX6_stands_4 (by decide) ?_
    refine lv_icmp_eq (tgt := 17) hx hb dX6_stands_5 (by decide) (fun _ => ?_) (fun q => absurd q (by decide))
    refine lv_iload_n hx hb dX6_stands_17 rfl (lv_at hl 1 rfl) ?_
    refine lv_bipush (v := 42) hx hb dX6_stands_18 (by decide) ?_
    refine lv_icmp_ne (tgt := 35) hx hb dX6_stands_20 (by decide) (fun c_22 => ?_) (fun c_22 => ?_)
    · skip
      have n42 := c_22
      refine lv_iconst (v := 0) hx hb dX6_stands_35 (by decide) ?_
      refine lv_istore_n (lv' := [(2, .int 0), (0, .ref oM), (1, .int x)]) hx hb dX6_stands_36 rfl hl (by decide) rfl (fun ls hl => ?_)
      refine lv_iload_n hx hb dX6_stands_37 rfl (lv_at hl 2 rfl) ?_
      refine lv_bipush (v := 59) hx hb dX6_stands_38 (by decide) ?_
      refine lv_icmp_ne (tgt := 47) hx hb dX6_stands_40 (by decide) (fun c_23 => ?_) (fun c_23 => ?_)
      · skip
        have n59 := c_23
        refine lv_iconst (v := 0) hx hb dX6_stands_47 (by decide) ?_
        refine lv_istore_n (lv' := [(3, .int 0), (2, .int 0), (0, .ref oM), (1, .int x)]) hx hb dX6_stands_48 rfl hl (by decide) rfl (fun ls hl => ?_)
        refine lv_aload_n hx hb dX6_stands_49 rfl (lv_at hl 2 rfl) ?_
        refine lv_dup hx hb dX6_stands_50 rfl ?_
        refine va_get (D := (dC, dI)) (ci := 6) (v := .int (nI y)) (C := RX6) (T := TX6) (N := 14) hx hb hts (by decide +kernel) hown hK.1 hP 0 rfl rfl 11 (by decide) (hts (.fieldLink RX6 132 "NoteWatermarksModel" "partMany" "I") (by decide +kernel)) (fun _ h9 => h9) rfl dX6_stands_51 ?_
        refine lv_iload_n hx hb dX6_stands_54 rfl (lv_at hl 0 rfl) ?_
        refine lv_if_eq (tgt := 62) hx hb dX6_stands_55 (by decide) (fun _ => ?_) (fun q => absurd q (by decide))
        refine lv_iconst (v := 0) hx hb dX6_stands_62 (by decide) ?_
        refine lv_iadd hx hb dX6_stands_63 ?_
        refine kq_top (z := nI (y + 0)) (nI_add y 0) ?_
        refine va_put (D := (dC, dI)) (ci := 6) (v := .int (nI (y + 0))) (ty := .int) (C := RX6) (T := TX6) (N := 14) hx hb hts (by decide +kernel) tyX6 tyX6_ok nmX6 hown hK.1 hP hD hS 0 rfl rfl 11 (by decide) (hts (.fieldLink RX6 132 "NoteWatermarksModel" "partMany" "I") (by decide +kernel)) (fun _ h9 => h9) rfl (by decide +kernel) rfl rfl (Nat.le_of_ble_eq_true rfl) dX6_stands_64 (fun H locs hP hD hS => ?_)
        have hP : va_P (dC, dI) vwCl [(oM, .inr (6, [.int th, .ref rz, .ref r2, .int (nI km), .ref rb, .int (nI n), .int tp, .int lf, .int hg, .int wd, .ref rq, .int (nI (y + 0)), .int 5, .long hh])), (rq, .inl (cI, 72, .inl pt))] H := hP
        have hD : va_D A [(oM, .inr (6, [.int th, .ref rz, .ref r2, .int (nI km), .ref rb, .int (nI n), .int tp, .int lf, .int hg, .int wd, .ref rq, .int (nI (y + 0)), .int 5, .long hh])), (rq, .inl (cI, 72, .inl pt))] := hD
        refine lv_aload_n hx hb dX6_stands_67 rfl (lv_at hl 2 rfl) ?_
        refine lv_iload_n hx hb dX6_stands_68 rfl (lv_at hl 0 rfl) ?_
        refine lv_if_eq (tgt := 76) hx hb dX6_stands_69 (by decide) (fun _ => ?_) (fun q => absurd q (by decide))
        refine lv_bipush (v := 6) hx hb dX6_stands_76 (by decide) ?_
        refine va_put (D := (dC, dI)) (ci := 6) (v := .int 6) (ty := .int) (C := RX6) (T := TX6) (N := 14) hx hb hts (by decide +kernel) tyX6 tyX6_ok nmX6 hown hK.1 hP hD hS 0 rfl rfl 12 (by decide) (hts (.fieldLink RX6 129 "NoteWatermarksModel" "state" "I") (by decide +kernel)) (fun _ h9 => h9) rfl (by decide +kernel) rfl rfl (Nat.le_of_ble_eq_true rfl) dX6_stands_78 (fun H locs hP hD hS => ?_)
        have hP : va_P (dC, dI) vwCl [(oM, .inr (6, [.int th, .ref rz, .ref r2, .int (nI km), .ref rb, .int (nI n), .int tp, .int lf, .int hg, .int wd, .ref rq, .int (nI (y + 0)), .int 6, .long hh])), (rq, .inl (cI, 72, .inl pt))] H := hP
        have hD : va_D A [(oM, .inr (6, [.int th, .ref rz, .ref r2, .int (nI km), .ref rb, .int (nI n), .int tp, .int lf, .int hg, .int wd, .ref rq, .int (nI (y + 0)), .int 6, .long hh])), (rq, .inl (cI, 72, .inl pt))] := hD
        refine lv_iload_n hx hb dX6_stands_81 rfl (lv_at hl 1 rfl) ?_
        refine lv_if_ne (tgt := 89) hx hb dX6_stands_82 (by decide) (fun q => absurd q (by decide)) (fun _ => ?_)
        refine lv_iload_n hx hb dX6_stands_85 rfl (lv_at hl 0 rfl) ?_
        refine lv_if_eq (tgt := 93) hx hb dX6_stands_86 (by decide) (fun _ => ?_) (fun q => absurd q (by decide))
        refine lv_iconst (v := 0) hx hb dX6_stands_93 (by decide) ?_
        exact kq_retMz (6, y + 0, pt) hx hb hr hlocks hP hD hS dX6_stands_94 (Or.inl rfl) (by dsimp only; first | exact absurd (h42.symm.trans h59) (by decide) | (have e : n_nx 5 x = 6 := (by simp [n_nx, h42]); exact ⟨by rw [e]; rfl, rfl, fun _ => ⟨e.symm, by simp [n_sc, n59]⟩, by decide, by omega⟩) | (have e : n_nx 5 x = 0 := (by simp [n_nx, n42, h59]); exact ⟨by rw [e]; rfl, rfl, fun _ => ⟨e.symm, by simp [n_sc, h59]⟩, by decide, by omega⟩) | (have e : n_nx 5 x = 8 := (by simp [n_nx, n42, n59]); exact ⟨by rw [e]; rfl, rfl, fun q => absurd e q, by decide, by omega⟩))
      · skip
        have h59 := c_23
        refine lv_iconst (v := 1) hx hb dX6_stands_43 (by decide) ?_
        refine lv_goto (tgt := 48) hx hb dX6_stands_44 (by decide) ?_
        refine lv_istore_n (lv' := [(3, .int 1), (2, .int 0), (0, .ref oM), (1, .int x)]) hx hb dX6_stands_48 rfl hl (by decide) rfl (fun ls hl => ?_)
        refine lv_aload_n hx hb dX6_stands_49 rfl (lv_at hl 2 rfl) ?_
        refine lv_dup hx hb dX6_stands_50 rfl ?_
        refine va_get (D := (dC, dI)) (ci := 6) (v := .int (nI y)) (C := RX6) (T := TX6) (N := 14) hx hb hts (by decide +kernel) hown hK.1 hP 0 rfl rfl 11 (by decide) (hts (.fieldLink RX6 132 "NoteWatermarksModel" "partMany" "I") (by decide +kernel)) (fun _ h9 => h9) rfl dX6_stands_51 ?_
        refine lv_iload_n hx hb dX6_stands_54 rfl (lv_at hl 0 rfl) ?_
        refine lv_if_eq (tgt := 62) hx hb dX6_stands_55 (by decide) (fun q => absurd q (by decide)) (fun _ => ?_)
        refine lv_iconst (v := 1) hx hb dX6_stands_58 (by decide) ?_
        refine lv_goto (tgt := 63) hx hb dX6_stands_59 (by decide) ?_
        refine lv_iadd hx hb dX6_stands_63 ?_
        refine kq_top (z := nI (y + 1)) (nI_add y 1) ?_
        refine va_put (D := (dC, dI)) (ci := 6) (v := .int (nI (y + 1))) (ty := .int) (C := RX6) (T := TX6) (N := 14) hx hb hts (by decide +kernel) tyX6 tyX6_ok nmX6 hown hK.1 hP hD hS 0 rfl rfl 11 (by decide) (hts (.fieldLink RX6 132 "NoteWatermarksModel" "partMany" "I") (by decide +kernel)) (fun _ h9 => h9) rfl (by decide +kernel) rfl rfl (Nat.le_of_ble_eq_true rfl) dX6_stands_64 (fun H locs hP hD hS => ?_)
        have hP : va_P (dC, dI) vwCl [(oM, .inr (6, [.int th, .ref rz, .ref r2, .int (nI km), .ref rb, .int (nI n), .int tp, .int lf, .int hg, .int wd, .ref rq, .int (nI (y + 1)), .int 5, .long hh])), (rq, .inl (cI, 72, .inl pt))] H := hP
        have hD : va_D A [(oM, .inr (6, [.int th, .ref rz, .ref r2, .int (nI km), .ref rb, .int (nI n), .int tp, .int lf, .int hg, .int wd, .ref rq, .int (nI (y + 1)), .int 5, .long hh])), (rq, .inl (cI, 72, .inl pt))] := hD
        refine lv_aload_n hx hb dX6_stands_67 rfl (lv_at hl 2 rfl) ?_
        refine lv_iload_n hx hb dX6_stands_68 rfl (lv_at hl 0 rfl) ?_
        refine lv_if_eq (tgt := 76) hx hb dX6_stands_69 (by decide) (fun q => absurd q (by decide)) (fun _ => ?_)
        refine lv_iconst (v := 0) hx hb dX6_stands_72 (by decide) ?_
        refine lv_goto (tgt := 78) hx hb dX6_stands_73 (by decide) ?_
        refine va_put (D := (dC, dI)) (ci := 6) (v := .int 0) (ty := .int) (C := RX6) (T := TX6) (N := 14) hx hb hts (by decide +kernel) tyX6 tyX6_ok nmX6 hown hK.1 hP hD hS 0 rfl rfl 12 (by decide) (hts (.fieldLink RX6 129 "NoteWatermarksModel" "state" "I") (by decide +kernel)) (fun _ h9 => h9) rfl (by decide +kernel) rfl rfl (Nat.le_of_ble_eq_true rfl) dX6_stands_78 (fun H locs hP hD hS => ?_)
        have hP : va_P (dC, dI) vwCl [(oM, .inr (6, [.int th, .ref rz, .ref r2, .int (nI km), .ref rb, .int (nI n), .int tp, .int lf, .int hg, .int wd, .ref rq, .int (nI (y + 1)), .int 0, .long hh])), (rq, .inl (cI, 72, .inl pt))] H := hP
        have hD : va_D A [(oM, .inr (6, [.int th, .ref rz, .ref r2, .int (nI km), .ref rb, .int (nI n), .int tp, .int lf, .int hg, .int wd, .ref rq, .int (nI (y + 1)), .int 0, .long hh])), (rq, .inl (cI, 72, .inl pt))] := hD
        refine lv_iload_n hx hb dX6_stands_81 rfl (lv_at hl 1 rfl) ?_
        refine lv_if_ne (tgt := 89) hx hb dX6_stands_82 (by decide) (fun q => absurd q (by decide)) (fun _ => ?_)
        refine lv_iload_n hx hb dX6_stands_85 rfl (lv_at hl 0 rfl) ?_
        refine lv_if_eq (tgt := 93) hx hb dX6_stands_86 (by decide) (fun q => absurd q (by decide)) (fun _ => ?_)
        refine lv_iconst (v := 1) hx hb dX6_stands_89 (by decide) ?_
        refine lv_goto (tgt := 94) hx hb dX6_stands_90 (by decide) ?_
        exact kq_retMz (0, y + 1, pt) hx hb hr hlocks hP hD hS dX6_stands_94 (Or.inr rfl) (by dsimp only; first | exact absurd (h42.symm.trans h59) (by decide) | (have e : n_nx 5 x = 6 := (by simp [n_nx, h42]); exact ⟨by rw [e]; rfl, rfl, fun _ => ⟨e.symm, by simp [n_sc, n59]⟩, by decide, by omega⟩) | (have e : n_nx 5 x = 0 := (by simp [n_nx, n42, h59]); exact ⟨by rw [e]; rfl, rfl, fun _ => ⟨e.symm, by simp [n_sc, h59]⟩, by decide, by omega⟩) | (have e : n_nx 5 x = 8 := (by simp [n_nx, n42, n59]); exact ⟨by rw [e]; rfl, rfl, fun q => absurd e q, by decide, by omega⟩))
    · skip
      have h42 := c_22
      refine lv_aload_n hx hb dX6_stands_23 rfl (lv_at hl 0 rfl) ?_
      refine va_get (D := (dC, dI)) (ci := 6) (v := .int 5) (C := RX6) (T := TX6) (N := 14) hx hb hts (by decide +kernel) hown hK.1 hP 0 rfl rfl 12 (by decide) (hts (.fieldLink RX6 129 "NoteWatermarksModel" "state" "I") (by decide +kernel)) (fun _ h9 => h9) rfl dX6_stands_24 ?_
      refine lv_iconst (v := 5) hx hb dX6_stands_27 (by decide) ?_
      refine lv_icmp_ne (tgt := 35) hx hb dX6_stands_28 (by decide) (fun q => absurd q (by decide)) (fun _ => ?_)
      refine lv_iconst (v := 1) hx hb dX6_stands_31 (by decide) ?_
      refine lv_goto (tgt := 36) hx hb dX6_stands_32 (by decide) ?_
      refine lv_istore_n (lv' := [(2, .int 1), (0, .ref oM), (1, .int x)]) hx hb dX6_stands_36 rfl hl (by decide) rfl (fun ls hl => ?_)
      refine lv_iload_n hx hb dX6_stands_37 rfl (lv_at hl 2 rfl) ?_
      refine lv_bipush (v := 59) hx hb dX6_stands_38 (by decide) ?_
      refine lv_icmp_ne (tgt := 47) hx hb dX6_stands_40 (by decide) (fun c_33 => ?_) (fun c_33 => ?_)
      · skip
        have n59 := c_33
        refine lv_iconst (v := 0) hx hb dX6_stands_47 (by decide) ?_
        refine lv_istore_n (lv' := [(3, .int 0), (2, .int 1), (0, .ref oM), (1, .int x)]) hx hb dX6_stands_48 rfl hl (by decide) rfl (fun ls hl => ?_)
        refine lv_aload_n hx hb dX6_stands_49 rfl (lv_at hl 2 rfl) ?_
        refine lv_dup hx hb dX6_stands_50 rfl ?_
        refine va_get (D := (dC, dI)) (ci := 6) (v := .int (nI y)) (C := RX6) (T := TX6) (N := 14) hx hb hts (by decide +kernel) hown hK.1 hP 0 rfl rfl 11 (by decide) (hts (.fieldLink RX6 132 "NoteWatermarksModel" "partMany" "I") (by decide +kernel)) (fun _ h9 => h9) rfl dX6_stands_51 ?_
        refine lv_iload_n hx hb dX6_stands_54 rfl (lv_at hl 0 rfl) ?_
        refine lv_if_eq (tgt := 62) hx hb dX6_stands_55 (by decide) (fun _ => ?_) (fun q => absurd q (by decide))
        refine lv_iconst (v := 0) hx hb dX6_stands_62 (by decide) ?_
        refine lv_iadd hx hb dX6_stands_63 ?_
        refine kq_top (z := nI (y + 0)) (nI_add y 0) ?_
        refine va_put (D := (dC, dI)) (ci := 6) (v := .int (nI (y + 0))) (ty := .int) (C := RX6) (T := TX6) (N := 14) hx hb hts (by decide +kernel) tyX6 tyX6_ok nmX6 hown hK.1 hP hD hS 0 rfl rfl 11 (by decide) (hts (.fieldLink RX6 132 "NoteWatermarksModel" "partMany" "I") (by decide +kernel)) (fun _ h9 => h9) rfl (by decide +kernel) rfl rfl (Nat.le_of_ble_eq_true rfl) dX6_stands_64 (fun H locs hP hD hS => ?_)
        have hP : va_P (dC, dI) vwCl [(oM, .inr (6, [.int th, .ref rz, .ref r2, .int (nI km), .ref rb, .int (nI n), .int tp, .int lf, .int hg, .int wd, .ref rq, .int (nI (y + 0)), .int 5, .long hh])), (rq, .inl (cI, 72, .inl pt))] H := hP
        have hD : va_D A [(oM, .inr (6, [.int th, .ref rz, .ref r2, .int (nI km), .ref rb, .int (nI n), .int tp, .int lf, .int hg, .int wd, .ref rq, .int (nI (y + 0)), .int 5, .long hh])), (rq, .inl (cI, 72, .inl pt))] := hD
        refine lv_aload_n hx hb dX6_stands_67 rfl (lv_at hl 2 rfl) ?_
        refine lv_iload_n hx hb dX6_stands_68 rfl (lv_at hl 0 rfl) ?_
        refine lv_if_eq (tgt := 76) hx hb dX6_stands_69 (by decide) (fun _ => ?_) (fun q => absurd q (by decide))
        refine lv_bipush (v := 6) hx hb dX6_stands_76 (by decide) ?_
        refine va_put (D := (dC, dI)) (ci := 6) (v := .int 6) (ty := .int) (C := RX6) (T := TX6) (N := 14) hx hb hts (by decide +kernel) tyX6 tyX6_ok nmX6 hown hK.1 hP hD hS 0 rfl rfl 12 (by decide) (hts (.fieldLink RX6 129 "NoteWatermarksModel" "state" "I") (by decide +kernel)) (fun _ h9 => h9) rfl (by decide +kernel) rfl rfl (Nat.le_of_ble_eq_true rfl) dX6_stands_78 (fun H locs hP hD hS => ?_)
        have hP : va_P (dC, dI) vwCl [(oM, .inr (6, [.int th, .ref rz, .ref r2, .int (nI km), .ref rb, .int (nI n), .int tp, .int lf, .int hg, .int wd, .ref rq, .int (nI (y + 0)), .int 6, .long hh])), (rq, .inl (cI, 72, .inl pt))] H := hP
        have hD : va_D A [(oM, .inr (6, [.int th, .ref rz, .ref r2, .int (nI km), .ref rb, .int (nI n), .int tp, .int lf, .int hg, .int wd, .ref rq, .int (nI (y + 0)), .int 6, .long hh])), (rq, .inl (cI, 72, .inl pt))] := hD
        refine lv_iload_n hx hb dX6_stands_81 rfl (lv_at hl 1 rfl) ?_
        refine lv_if_ne (tgt := 89) hx hb dX6_stands_82 (by decide) (fun _ => ?_) (fun q => absurd q (by decide))
        refine lv_iconst (v := 1) hx hb dX6_stands_89 (by decide) ?_
        refine lv_goto (tgt := 94) hx hb dX6_stands_90 (by decide) ?_
        exact kq_retMz (6, y + 0, pt) hx hb hr hlocks hP hD hS dX6_stands_94 (Or.inr rfl) (by dsimp only; first | exact absurd (h42.symm.trans h59) (by decide) | (have e : n_nx 5 x = 6 := (by simp [n_nx, h42]); exact ⟨by rw [e]; rfl, rfl, fun _ => ⟨e.symm, by simp [n_sc, n59]⟩, by decide, by omega⟩) | (have e : n_nx 5 x = 0 := (by simp [n_nx, n42, h59]); exact ⟨by rw [e]; rfl, rfl, fun _ => ⟨e.symm, by simp [n_sc, h59]⟩, by decide, by omega⟩) | (have e : n_nx 5 x = 8 := (by simp [n_nx, n42, n59]); exact ⟨by rw [e]; rfl, rfl, fun q => absurd e q, by decide, by omega⟩))
      · skip
        have h59 := c_33
        refine lv_iconst (v := 1) hx hb dX6_stands_43 (by decide) ?_
        refine lv_goto (tgt := 48) hx hb dX6_stands_44 (by decide) ?_
        refine lv_istore_n (lv' := [(3, .int 1), (2, .int 1), (0, .ref oM), (1, .int x)]) hx hb dX6_stands_48 rfl hl (by decide) rfl (fun ls hl => ?_)
        refine lv_aload_n hx hb dX6_stands_49 rfl (lv_at hl 2 rfl) ?_
        refine lv_dup hx hb dX6_stands_50 rfl ?_
        refine va_get (D := (dC, dI)) (ci := 6) (v := .int (nI y)) (C := RX6) (T := TX6) (N := 14) hx hb hts (by decide +kernel) hown hK.1 hP 0 rfl rfl 11 (by decide) (hts (.fieldLink RX6 132 "NoteWatermarksModel" "partMany" "I") (by decide +kernel)) (fun _ h9 => h9) rfl dX6_stands_51 ?_
        refine lv_iload_n hx hb dX6_stands_54 rfl (lv_at hl 0 rfl) ?_
        refine lv_if_eq (tgt := 62) hx hb dX6_stands_55 (by decide) (fun q => absurd q (by decide)) (fun _ => ?_)
        refine lv_iconst (v := 1) hx hb dX6_stands_58 (by decide) ?_
        refine lv_goto (tgt := 63) hx hb dX6_stands_59 (by decide) ?_
        refine lv_iadd hx hb dX6_stands_63 ?_
        refine kq_top (z := nI (y + 1)) (nI_add y 1) ?_
        refine va_put (D := (dC, dI)) (ci := 6) (v := .int (nI (y + 1))) (ty := .int) (C := RX6) (T := TX6) (N := 14) hx hb hts (by decide +kernel) tyX6 tyX6_ok nmX6 hown hK.1 hP hD hS 0 rfl rfl 11 (by decide) (hts (.fieldLink RX6 132 "NoteWatermarksModel" "partMany" "I") (by decide +kernel)) (fun _ h9 => h9) rfl (by decide +kernel) rfl rfl (Nat.le_of_ble_eq_true rfl) dX6_stands_64 (fun H locs hP hD hS => ?_)
        have hP : va_P (dC, dI) vwCl [(oM, .inr (6, [.int th, .ref rz, .ref r2, .int (nI km), .ref rb, .int (nI n), .int tp, .int lf, .int hg, .int wd, .ref rq, .int (nI (y + 1)), .int 5, .long hh])), (rq, .inl (cI, 72, .inl pt))] H := hP
        have hD : va_D A [(oM, .inr (6, [.int th, .ref rz, .ref r2, .int (nI km), .ref rb, .int (nI n), .int tp, .int lf, .int hg, .int wd, .ref rq, .int (nI (y + 1)), .int 5, .long hh])), (rq, .inl (cI, 72, .inl pt))] := hD
        refine lv_aload_n hx hb dX6_stands_67 rfl (lv_at hl 2 rfl) ?_
        refine lv_iload_n hx hb dX6_stands_68 rfl (lv_at hl 0 rfl) ?_
        refine lv_if_eq (tgt := 76) hx hb dX6_stands_69 (by decide) (fun q => absurd q (by decide)) (fun _ => ?_)
        refine lv_iconst (v := 0) hx hb dX6_stands_72 (by decide) ?_
        refine lv_goto (tgt := 78) hx hb dX6_stands_73 (by decide) ?_
        refine va_put (D := (dC, dI)) (ci := 6) (v := .int 0) (ty := .int) (C := RX6) (T := TX6) (N := 14) hx hb hts (by decide +kernel) tyX6 tyX6_ok nmX6 hown hK.1 hP hD hS 0 rfl rfl 12 (by decide) (hts (.fieldLink RX6 129 "NoteWatermarksModel" "state" "I") (by decide +kernel)) (fun _ h9 => h9) rfl (by decide +kernel) rfl rfl (Nat.le_of_ble_eq_true rfl) dX6_stands_78 (fun H locs hP hD hS => ?_)
        have hP : va_P (dC, dI) vwCl [(oM, .inr (6, [.int th, .ref rz, .ref r2, .int (nI km), .ref rb, .int (nI n), .int tp, .int lf, .int hg, .int wd, .ref rq, .int (nI (y + 1)), .int 0, .long hh])), (rq, .inl (cI, 72, .inl pt))] H := hP
        have hD : va_D A [(oM, .inr (6, [.int th, .ref rz, .ref r2, .int (nI km), .ref rb, .int (nI n), .int tp, .int lf, .int hg, .int wd, .ref rq, .int (nI (y + 1)), .int 0, .long hh])), (rq, .inl (cI, 72, .inl pt))] := hD
        refine lv_iload_n hx hb dX6_stands_81 rfl (lv_at hl 1 rfl) ?_
        refine lv_if_ne (tgt := 89) hx hb dX6_stands_82 (by decide) (fun _ => ?_) (fun q => absurd q (by decide))
        refine lv_iconst (v := 1) hx hb dX6_stands_89 (by decide) ?_
        refine lv_goto (tgt := 94) hx hb dX6_stands_90 (by decide) ?_
        exact kq_retMz (0, y + 1, pt) hx hb hr hlocks hP hD hS dX6_stands_94 (Or.inr rfl) (by dsimp only; first | exact absurd (h42.symm.trans h59) (by decide) | (have e : n_nx 5 x = 6 := (by simp [n_nx, h42]); exact ⟨by rw [e]; rfl, rfl, fun _ => ⟨e.symm, by simp [n_sc, n59]⟩, by decide, by omega⟩) | (have e : n_nx 5 x = 0 := (by simp [n_nx, n42, h59]); exact ⟨by rw [e]; rfl, rfl, fun _ => ⟨e.symm, by simp [n_sc, h59]⟩, by decide, by omega⟩) | (have e : n_nx 5 x = 8 := (by simp [n_nx, n42, n59]); exact ⟨by rw [e]; rfl, rfl, fun q => absurd e q, by decide, by omega⟩))
  · skip
    refine lv_aload_n hx hb dX6_stands_0 rfl (lv_at hl 0 rfl) ?_
    refine va_get (D := (dC, dI)) (ci := 6) (v := .int 6) (C := RX6) (T := TX6) (N := 14) hx hb hts (by decide +kernel) hown hK.1 hP 0 rfl rfl 12 (by decide) (hts (.fieldLink RX6 129 "NoteWatermarksModel" "state" "I") (by decide +kernel)) (fun _ h9 => h9) rfl dX6_stands_1 ?_
    refine lv_iconst (v := 5) hx hb dX6_stands_4 (by decide) ?_
    refine lv_icmp_eq (tgt := 17) hx hb dX6_stands_5 (by decide) (fun q => absurd q (by decide)) (fun _ => ?_)
    refine lv_aload_n hx hb dX6_stands_8 rfl (lv_at hl 0 rfl) ?_
    refine va_get (D := (dC, dI)) (ci := 6) (v := .int 6) (C := RX6) (T := TX6) (N := 14) hx hb hts (by decide +kernel) hown hK.1 hP 0 rfl rfl 12 (by decide) (hts (.fieldLink RX6 129 "NoteWatermarksModel" "state" "I") (by decide +kernel)) (fun _ h9 => h9) rfl dX6_stands_9 ?_
    refine lv_bipush (v := 7) hx hb dX6_stands_12 (by decide) ?_
    refine lv_icmp_ne (tgt := 95) hx hb dX6_stands_14 (by decide) (fun _ => ?_) (fun q => absurd q (by decide))
    refine lv_aload_n hx hb dX6_stands_95 rfl (lv_at hl 0 rfl) ?_
    refine va_get (D := (dC, dI)) (ci := 6) (v := .int 6) (C := RX6) (T := TX6) (N := 14) hx hb hts (by decide +kernel) hown hK.1 hP 0 rfl rfl 12 (by decide) (hts (.fieldLink RX6 129 "NoteWatermarksModel" "state" "I") (by decide +kernel)) (fun _ h9 => h9) rfl dX6_stands_96 ?_
    refine lv_bipush (v := 6) hx hb dX6_stands_99 (by decide) ?_
    refine lv_icmp_ne (tgt := 108) hx hb dX6_stands_101 (by decide) (fun q => absurd q (by decide)) (fun _ => ?_)
    refine lv_iconst (v := 5) hx hb dX6_stands_104 (by decide) ?_
    refine lv_goto (tgt := 112) hx hb dX6_stands_105 (by decide) ?_
    refine lv_istore_n (lv' := [(2, .int 5), (0, .ref oM), (1, .int x)]) hx hb dX6_stands_112 rfl hl (by decide) rfl (fun ls hl => ?_)
    refine lv_aload_n hx hb dX6_stands_113 rfl (lv_at hl 1 rfl) ?_
    refine va_get (D := (dC, dI)) (ci := 6) (v := .ref rq) (C := RX6) (T := TX6) (N := 14) hx hb hts (by decide +kernel) hown hK.1 hP 0 rfl rfl 10 (by decide) (hts (.fieldLink RX6 19 "NoteWatermarksModel" "parts" "[I") (by decide +kernel)) (fun _ h9 => h9) rfl dX6_stands_114 ?_
    refine lv_bipush (v := 6) hx hb dX6_stands_117 (by decide) ?_
    refine lv_aload_n hx hb dX6_stands_119 rfl (lv_at hl 1 rfl) ?_
    refine va_get (D := (dC, dI)) (ci := 6) (v := .int (nI y)) (C := RX6) (T := TX6) (N := 14) hx hb hts (by decide +kernel) hown hK.1 hP 0 rfl rfl 11 (by decide) (hts (.fieldLink RX6 132 "NoteWatermarksModel" "partMany" "I") (by decide +kernel)) (fun _ h9 => h9) rfl dX6_stands_120 ?_
    refine lv_imul hx hb dX6_stands_123 ?_
    refine kq_top (z := nI (6 * y)) (pk_mul 6 y) ?_
    refine lv_iload_n hx hb dX6_stands_124 rfl (lv_at hl 0 rfl) ?_
    refine lv_iadd hx hb dX6_stands_125 ?_
    refine kq_top (z := nI ((6 * y) + 5)) (nI_add (6 * y) 5) ?_
    refine lv_iload_n hx hb dX6_stands_126 rfl (lv_at hl 0 rfl) ?_
    refine lv_iload_n hx hb dX6_stands_127 rfl (lv_at hl 2 rfl) ?_
    refine kq_cS (As := [.int 5, .int x]) (rest := [.int (nI ((6 * y) + 5)), .ref rq]) ⟨hx, hb, hml, hown, hts⟩ (c_X6_valueOf l dC dI cI 5 x (by first | assumption | omega)) (va_cwS 2 hts gX6_stands_X6_valueOf rfl rfl rfl (by decide +kernel) ⟨Nat.le_of_ble_eq_true rfl, Nat.le_of_ble_eq_true rfl⟩) (hP.sub [] rfl) hK rfl hl.1 rfl (Nat.le_of_ble_eq_true rfl) dX6_stands_128 ⟨Nat.le_of_ble_eq_true rfl, Nat.le_of_ble_eq_true rfl⟩ ?_
    refine va_iast hx hb hK.1 hP hD hS 1 0 rfl rfl (vp_in_nI (show (6 * y) + 5 < 72 from by omega) (by omega)) dX6_stands_131 (fun H locs hP hD hS => ?_)
    rw [nI_clamp (Nat.lt_trans (show (6 * y) + 5 < 72 from by omega) (by omega))] at hP hD
    have hP : va_P (dC, dI) vwCl [(oM, .inr (6, [.int th, .ref rz, .ref r2, .int (nI km), .ref rb, .int (nI n), .int tp, .int lf, .int hg, .int wd, .ref rq, .int (nI y), .int 6, .long hh])), (rq, .inl (cI, 72, .inl (upd pt ((6 * y) + 5) (n_vl 5 x))))] H := hP
    have hD : va_D A [(oM, .inr (6, [.int th, .ref rz, .ref r2, .int (nI km), .ref rb, .int (nI n), .int tp, .int lf, .int hg, .int wd, .ref rq, .int (nI y), .int 6, .long hh])), (rq, .inl (cI, 72, .inl (upd pt ((6 * y) + 5) (n_vl 5 x))))] := hD
    refine lv_iload_n hx hb dX6_stands_132 rfl (lv_at hl 0 rfl) ?_
    refine lv_iconst (v := 4) hx hb dX6_stands_133 (by decide) ?_
    refine lv_icmp_ne (tgt := 152) hx hb dX6_stands_134 (by decide) (fun _ => ?_) (fun q => absurd q (by decide))
    refine lv_aload_n hx hb dX6_stands_152 rfl (lv_at hl 1 rfl) ?_
    refine lv_dup hx hb dX6_stands_153 rfl ?_
    refine va_get (D := (dC, dI)) (ci := 6) (v := .int 6) (C := RX6) (T := TX6) (N := 14) hx hb hts (by decide +kernel) hown hK.1 hP 0 rfl rfl 12 (by decide) (hts (.fieldLink RX6 129 "NoteWatermarksModel" "state" "I") (by decide +kernel)) (fun _ h9 => h9) rfl dX6_stands_154 ?_
    refine lv_iconst (v := 1) hx hb dX6_stands_157 (by decide) ?_
    refine lv_iadd hx hb dX6_stands_158 ?_
    refine kq_top (z := nI (6 + 1)) (nI_add 6 1) ?_
    refine va_put (D := (dC, dI)) (ci := 6) (v := .int (nI (6 + 1))) (ty := .int) (C := RX6) (T := TX6) (N := 14) hx hb hts (by decide +kernel) tyX6 tyX6_ok nmX6 hown hK.1 hP hD hS 0 rfl rfl 12 (by decide) (hts (.fieldLink RX6 129 "NoteWatermarksModel" "state" "I") (by decide +kernel)) (fun _ h9 => h9) rfl (by decide +kernel) rfl rfl (Nat.le_of_ble_eq_true rfl) dX6_stands_159 (fun H locs hP hD hS => ?_)
    have hP : va_P (dC, dI) vwCl [(oM, .inr (6, [.int th, .ref rz, .ref r2, .int (nI km), .ref rb, .int (nI n), .int tp, .int lf, .int hg, .int wd, .ref rq, .int (nI y), .int (nI (6 + 1)), .long hh])), (rq, .inl (cI, 72, .inl (upd pt ((6 * y) + 5) (n_vl 5 x))))] H := hP
    have hD : va_D A [(oM, .inr (6, [.int th, .ref rz, .ref r2, .int (nI km), .ref rb, .int (nI n), .int tp, .int lf, .int hg, .int wd, .ref rq, .int (nI y), .int (nI (6 + 1)), .long hh])), (rq, .inl (cI, 72, .inl (upd pt ((6 * y) + 5) (n_vl 5 x))))] := hD
    refine lv_iload_n hx hb dX6_stands_162 rfl (lv_at hl 0 rfl) ?_
    refine lv_iload_n hx hb dX6_stands_163 rfl (lv_at hl 2 rfl) ?_
    refine kq_cS (As := [.int 5, .int x]) (rest := []) ⟨hx, hb, hml, hown, hts⟩ (c_X6_isGood l dC dI cI 5 x (by first | assumption | omega)) (va_cwS 2 hts gX6_stands_X6_isGood rfl rfl rfl (by decide +kernel) ⟨Nat.le_of_ble_eq_true rfl, Nat.le_of_ble_eq_true rfl⟩) (hP.sub [] rfl) hK rfl hl.1 rfl (Nat.le_of_ble_eq_true rfl) dX6_stands_164 ⟨Nat.le_of_ble_eq_true rfl, Nat.le_of_ble_eq_true rfl⟩ ?_
    exact kq_retMz (6 + 1, y, upd pt ((6 * y) + 5) (n_vl 5 x)) hx hb hr hlocks hP hD hS dX6_stands_167 (by first | exact Or.inl rfl | exact Or.inr rfl | (split <;> simp)) (by dsimp only; exact ⟨by rw [ite_not]; rfl, rfl, fun h9 => ⟨((n_nx_8 h9 (by decide)).2.2.1 rfl).symm, by simp [n_sc]⟩, by decide, by omega⟩)
  · skip
    refine lv_aload_n hx hb dX6_stands_0 rfl (lv_at hl 0 rfl) ?_
    refine va_get (D := (dC, dI)) (ci := 6) (v := .int 7) (C := RX6) (T := TX6) (N := 14) hx hb hts (by decide +kernel) hown hK.1 hP 0 rfl rfl 12 (by decide) (hts (.fieldLink RX6 129 "NoteWatermarksModel" "state" "I") (by decide +kernel)) (fun _ h9 => h9) rfl dX6_stands_1 ?_
    refine lv_iconst (v := 5) hx hb dX6_stands_4 (by decide) ?_
    refine lv_icmp_eq (tgt := 17) hx hb dX6_stands_5 (by decide) (fun q => absurd q (by decide)) (fun _ => ?_)
    refine lv_aload_n hx hb dX6_stands_8 rfl (lv_at hl 0 rfl) ?_
    refine va_get (D := (dC, dI)) (ci := 6) (v := .int 7) (C := RX6) (T := TX6) (N := 14) hx hb hts (by decide +kernel) hown hK.1 hP 0 rfl rfl 12 (by decide) (hts (.fieldLink RX6 129 "NoteWatermarksModel" "state" "I") (by decide +kernel)) (fun _ h9 => h9) rfl dX6_stands_9 ?_
    refine lv_bipush (v := 7) hx hb dX6_stands_12 (by decide) ?_
    refine lv_icmp_ne (tgt := 95) hx hb dX6_stands_14 (by decide) (fun q => absurd q (by decide)) (fun _ => ?_)
    refine lv_iload_n hx hb dX6_stands_17 rfl (lv_at hl 1 rfl) ?_
    refine lv_bipush (v := 42) hx hb dX6_stands_18 (by decide) ?_
    refine lv_icmp_ne (tgt := 35) hx hb dX6_stands_20 (by decide) (fun c_46 => ?_) (fun c_46 => ?_)
    · skip
      have n42 := c_46
      refine lv_iconst (v := 0) hx hb dX6_stands_35 (by decide) ?_
      refine lv_istore_n (lv' := [(2, .int 0), (0, .ref oM), (1, .int x)]) hx hb dX6_stands_36 rfl hl (by decide) rfl (fun ls hl => ?_)
      refine lv_iload_n hx hb dX6_stands_37 rfl (lv_at hl 2 rfl) ?_
      refine lv_bipush (v := 59) hx hb dX6_stands_38 (by decide) ?_
      refine lv_icmp_ne (tgt := 47) hx hb dX6_stands_40 (by decide) (fun c_47 => ?_) (fun c_47 => ?_)
      · skip
        have n59 := c_47
        refine lv_iconst (v := 0) hx hb dX6_stands_47 (by decide) ?_
        refine lv_istore_n (lv' := [(3, .int 0), (2, .int 0), (0, .ref oM), (1, .int x)]) hx hb dX6_stands_48 rfl hl (by decide) rfl (fun ls hl => ?_)
        refine lv_aload_n hx hb dX6_stands_49 rfl (lv_at hl 2 rfl) ?_
        refine lv_dup hx hb dX6_stands_50 rfl ?_
        refine va_get (D := (dC, dI)) (ci := 6) (v := .int (nI y)) (C := RX6) (T := TX6) (N := 14) hx hb hts (by decide +kernel) hown hK.1 hP 0 rfl rfl 11 (by decide) (hts (.fieldLink RX6 132 "NoteWatermarksModel" "partMany" "I") (by decide +kernel)) (fun _ h9 => h9) rfl dX6_stands_51 ?_
        refine lv_iload_n hx hb dX6_stands_54 rfl (lv_at hl 0 rfl) ?_
        refine lv_if_eq (tgt := 62) hx hb dX6_stands_55 (by decide) (fun _ => ?_) (fun q => absurd q (by decide))
        refine lv_iconst (v := 0) hx hb dX6_stands_62 (by decide) ?_
        refine lv_iadd hx hb dX6_stands_63 ?_
        refine kq_top (z := nI (y + 0)) (nI_add y 0) ?_
        refine va_put (D := (dC, dI)) (ci := 6) (v := .int (nI (y + 0))) (ty := .int) (C := RX6) (T := TX6) (N := 14) hx hb hts (by decide +kernel) tyX6 tyX6_ok nmX6 hown hK.1 hP hD hS 0 rfl rfl 11 (by decide) (hts (.fieldLink RX6 132 "NoteWatermarksModel" "partMany" "I") (by decide +kernel)) (fun _ h9 => h9) rfl (by decide +kernel) rfl rfl (Nat.le_of_ble_eq_true rfl) dX6_stands_64 (fun H locs hP hD hS => ?_)
        have hP : va_P (dC, dI) vwCl [(oM, .inr (6, [.int th, .ref rz, .ref r2, .int (nI km), .ref rb, .int (nI n), .int tp, .int lf, .int hg, .int wd, .ref rq, .int (nI (y + 0)), .int 7, .long hh])), (rq, .inl (cI, 72, .inl pt))] H := hP
        have hD : va_D A [(oM, .inr (6, [.int th, .ref rz, .ref r2, .int (nI km), .ref rb, .int (nI n), .int tp, .int lf, .int hg, .int wd, .ref rq, .int (nI (y + 0)), .int 7, .long hh])), (rq, .inl (cI, 72, .inl pt))] := hD
        refine lv_aload_n hx hb dX6_stands_67 rfl (lv_at hl 2 rfl) ?_
        refine lv_iload_n hx hb dX6_stands_68 rfl (lv_at hl 0 rfl) ?_
        refine lv_if_eq (tgt := 76) hx hb dX6_stands_69 (by decide) (fun _ => ?_) (fun q => absurd q (by decide))
        refine lv_bipush (v := 6) hx hb dX6_stands_76 (by decide) ?_
        refine va_put (D := (dC, dI)) (ci := 6) (v := .int 6) (ty := .int) (C := RX6) (T := TX6) (N := 14) hx hb hts (by decide +kernel) tyX6 tyX6_ok nmX6 hown hK.1 hP hD hS 0 rfl rfl 12 (by decide) (hts (.fieldLink RX6 129 "NoteWatermarksModel" "state" "I") (by decide +kernel)) (fun _ h9 => h9) rfl (by decide +kernel) rfl rfl (Nat.le_of_ble_eq_true rfl) dX6_stands_78 (fun H locs hP hD hS => ?_)
        have hP : va_P (dC, dI) vwCl [(oM, .inr (6, [.int th, .ref rz, .ref r2, .int (nI km), .ref rb, .int (nI n), .int tp, .int lf, .int hg, .int wd, .ref rq, .int (nI (y + 0)), .int 6, .long hh])), (rq, .inl (cI, 72, .inl pt))] H := hP
        have hD : va_D A [(oM, .inr (6, [.int th, .ref rz, .ref r2, .int (nI km), .ref rb, .int (nI n), .int tp, .int lf, .int hg, .int wd, .ref rq, .int (nI (y + 0)), .int 6, .long hh])), (rq, .inl (cI, 72, .inl pt))] := hD
        refine lv_iload_n hx hb dX6_stands_81 rfl (lv_at hl 1 rfl) ?_
        refine lv_if_ne (tgt := 89) hx hb dX6_stands_82 (by decide) (fun q => absurd q (by decide)) (fun _ => ?_)
        refine lv_iload_n hx hb dX6_stands_85 rfl (lv_at hl 0 rfl) ?_
        refine lv_if_eq (tgt := 93) hx hb dX6_stands_86 (by decide) (fun _ => ?_) (fun q => absurd q (by decide))
        refine lv_iconst (v := 0) hx hb dX6_stands_93 (by decide) ?_
        exact kq_retMz (6, y + 0, pt) hx hb hr hlocks hP hD hS dX6_stands_94 (Or.inl rfl) (by dsimp only; first | (have e : n_nx 7 x = 0 := (by simp [n_nx, h59]); exact ⟨by rw [e]; rfl, rfl, fun _ => ⟨e.symm, by simp [n_sc, h59]⟩, by decide, by omega⟩) | (have e : n_nx 7 x = 8 := (by simp [n_nx, n59]); exact ⟨by rw [e]; rfl, rfl, fun q => absurd e q, by decide, by omega⟩))
      · skip
        have h59 := c_47
        refine lv_iconst (v := 1) hx hb dX6_stands_43 (by decide) ?_
        refine lv_goto (tgt := 48) hx hb dX6_stands_44 (by decide) ?_
        refine lv_istore_n (lv' := [(3, .int 1), (2, .int 0), (0, .ref oM), (1, .int x)]) hx hb dX6_stands_48 rfl hl (by decide) rfl (fun ls hl => ?_)
        refine lv_aload_n hx hb dX6_stands_49 rfl (lv_at hl 2 rfl) ?_
        refine lv_dup hx hb dX6_stands_50 rfl ?_
        refine va_get (D := (dC, dI)) (ci := 6) (v := .int (nI y)) (C := RX6) (T := TX6) (N := 14) hx hb hts (by decide +kernel) hown hK.1 hP 0 rfl rfl 11 (by decide) (hts (.fieldLink RX6 132 "NoteWatermarksModel" "partMany" "I") (by decide +kernel)) (fun _ h9 => h9) rfl dX6_stands_51 ?_
        refine lv_iload_n hx hb dX6_stands_54 rfl (lv_at hl 0 rfl) ?_
        refine lv_if_eq (tgt := 62) hx hb dX6_stands_55 (by decide) (fun q => absurd q (by decide)) (fun _ => ?_)
        refine lv_iconst (v := 1) hx hb dX6_stands_58 (by decide) ?_
        refine lv_goto (tgt := 63) hx hb dX6_stands_59 (by decide) ?_
        refine lv_iadd hx hb dX6_stands_63 ?_
        refine kq_top (z := nI (y + 1)) (nI_add y 1) ?_
        refine va_put (D := (dC, dI)) (ci := 6) (v := .int (nI (y + 1))) (ty := .int) (C := RX6) (T := TX6) (N := 14) hx hb hts (by decide +kernel) tyX6 tyX6_ok nmX6 hown hK.1 hP hD hS 0 rfl rfl 11 (by decide) (hts (.fieldLink RX6 132 "NoteWatermarksModel" "partMany" "I") (by decide +kernel)) (fun _ h9 => h9) rfl (by decide +kernel) rfl rfl (Nat.le_of_ble_eq_true rfl) dX6_stands_64 (fun H locs hP hD hS => ?_)
        have hP : va_P (dC, dI) vwCl [(oM, .inr (6, [.int th, .ref rz, .ref r2, .int (nI km), .ref rb, .int (nI n), .int tp, .int lf, .int hg, .int wd, .ref rq, .int (nI (y + 1)), .int 7, .long hh])), (rq, .inl (cI, 72, .inl pt))] H := hP
        have hD : va_D A [(oM, .inr (6, [.int th, .ref rz, .ref r2, .int (nI km), .ref rb, .int (nI n), .int tp, .int lf, .int hg, .int wd, .ref rq, .int (nI (y + 1)), .int 7, .long hh])), (rq, .inl (cI, 72, .inl pt))] := hD
        refine lv_aload_n hx hb dX6_stands_67 rfl (lv_at hl 2 rfl) ?_
        refine lv_iload_n hx hb dX6_stands_68 rfl (lv_at hl 0 rfl) ?_
        refine lv_if_eq (tgt := 76) hx hb dX6_stands_69 (by decide) (fun q => absurd q (by decide)) (fun _ => ?_)
        refine lv_iconst (v := 0) hx hb dX6_stands_72 (by decide) ?_
        refine lv_goto (tgt := 78) hx hb dX6_stands_73 (by decide) ?_
        refine va_put (D := (dC, dI)) (ci := 6) (v := .int 0) (ty := .int) (C := RX6) (T := TX6) (N := 14) hx hb hts (by decide +kernel) tyX6 tyX6_ok nmX6 hown hK.1 hP hD hS 0 rfl rfl 12 (by decide) (hts (.fieldLink RX6 129 "NoteWatermarksModel" "state" "I") (by decide +kernel)) (fun _ h9 => h9) rfl (by decide +kernel) rfl rfl (Nat.le_of_ble_eq_true rfl) dX6_stands_78 (fun H locs hP hD hS => ?_)
        have hP : va_P (dC, dI) vwCl [(oM, .inr (6, [.int th, .ref rz, .ref r2, .int (nI km), .ref rb, .int (nI n), .int tp, .int lf, .int hg, .int wd, .ref rq, .int (nI (y + 1)), .int 0, .long hh])), (rq, .inl (cI, 72, .inl pt))] H := hP
        have hD : va_D A [(oM, .inr (6, [.int th, .ref rz, .ref r2, .int (nI km), .ref rb, .int (nI n), .int tp, .int lf, .int hg, .int wd, .ref rq, .int (nI (y + 1)), .int 0, .long hh])), (rq, .inl (cI, 72, .inl pt))] := hD
        refine lv_iload_n hx hb dX6_stands_81 rfl (lv_at hl 1 rfl) ?_
        refine lv_if_ne (tgt := 89) hx hb dX6_stands_82 (by decide) (fun q => absurd q (by decide)) (fun _ => ?_)
        refine lv_iload_n hx hb dX6_stands_85 rfl (lv_at hl 0 rfl) ?_
        refine lv_if_eq (tgt := 93) hx hb dX6_stands_86 (by decide) (fun q => absurd q (by decide)) (fun _ => ?_)
        refine lv_iconst (v := 1) hx hb dX6_stands_89 (by decide) ?_
        refine lv_goto (tgt := 94) hx hb dX6_stands_90 (by decide) ?_
        exact kq_retMz (0, y + 1, pt) hx hb hr hlocks hP hD hS dX6_stands_94 (Or.inr rfl) (by dsimp only; first | (have e : n_nx 7 x = 0 := (by simp [n_nx, h59]); exact ⟨by rw [e]; rfl, rfl, fun _ => ⟨e.symm, by simp [n_sc, h59]⟩, by decide, by omega⟩) | (have e : n_nx 7 x = 8 := (by simp [n_nx, n59]); exact ⟨by rw [e]; rfl, rfl, fun q => absurd e q, by decide, by omega⟩))
    · skip
      have h42 := c_46
      refine lv_aload_n hx hb dX6_stands_23 rfl (lv_at hl 0 rfl) ?_
      refine va_get (D := (dC, dI)) (ci := 6) (v := .int 7) (C := RX6) (T := TX6) (N := 14) hx hb hts (by decide +kernel) hown hK.1 hP 0 rfl rfl 12 (by decide) (hts (.fieldLink RX6 129 "NoteWatermarksModel" "state" "I") (by decide +kernel)) (fun _ h9 => h9) rfl dX6_stands_24 ?_
      refine lv_iconst (v := 5) hx hb dX6_stands_27 (by decide) ?_
      refine lv_icmp_ne (tgt := 35) hx hb dX6_stands_28 (by decide) (fun _ => ?_) (fun q => absurd q (by decide))
      refine lv_iconst (v := 0) hx hb dX6_stands_35 (by decide) ?_
      refine lv_istore_n (lv' := [(2, .int 0), (0, .ref oM), (1, .int x)]) hx hb dX6_stands_36 rfl hl (by decide) rfl (fun ls hl => ?_)
      refine lv_iload_n hx hb dX6_stands_37 rfl (lv_at hl 2 rfl) ?_
      refine lv_bipush (v := 59) hx hb dX6_stands_38 (by decide) ?_
      refine lv_icmp_ne (tgt := 47) hx hb dX6_stands_40 (by decide) (fun c_57 => ?_) (fun c_57 => ?_)
      · skip
        have n59 := c_57
        refine lv_iconst (v := 0) hx hb dX6_stands_47 (by decide) ?_
        refine lv_istore_n (lv' := [(3, .int 0), (2, .int 0), (0, .ref oM), (1, .int x)]) hx hb dX6_stands_48 rfl hl (by decide) rfl (fun ls hl => ?_)
        refine lv_aload_n hx hb dX6_stands_49 rfl (lv_at hl 2 rfl) ?_
        refine lv_dup hx hb dX6_stands_50 rfl ?_
        refine va_get (D := (dC, dI)) (ci := 6) (v := .int (nI y)) (C := RX6) (T := TX6) (N := 14) hx hb hts (by decide +kernel) hown hK.1 hP 0 rfl rfl 11 (by decide) (hts (.fieldLink RX6 132 "NoteWatermarksModel" "partMany" "I") (by decide +kernel)) (fun _ h9 => h9) rfl dX6_stands_51 ?_
        refine lv_iload_n hx hb dX6_stands_54 rfl (lv_at hl 0 rfl) ?_
        refine lv_if_eq (tgt := 62) hx hb dX6_stands_55 (by decide) (fun _ => ?_) (fun q => absurd q (by decide))
        refine lv_iconst (v := 0) hx hb dX6_stands_62 (by decide) ?_
        refine lv_iadd hx hb dX6_stands_63 ?_
        refine kq_top (z := nI (y + 0)) (nI_add y 0) ?_
        refine va_put (D := (dC, dI)) (ci := 6) (v := .int (nI (y + 0))) (ty := .int) (C := RX6) (T := TX6) (N := 14) hx hb hts (by decide +kernel) tyX6 tyX6_ok nmX6 hown hK.1 hP hD hS 0 rfl rfl 11 (by decide) (hts (.fieldLink RX6 132 "NoteWatermarksModel" "partMany" "I") (by decide +kernel)) (fun _ h9 => h9) rfl (by decide +kernel) rfl rfl (Nat.le_of_ble_eq_true rfl) dX6_stands_64 (fun H locs hP hD hS => ?_)
        have hP : va_P (dC, dI) vwCl [(oM, .inr (6, [.int th, .ref rz, .ref r2, .int (nI km), .ref rb, .int (nI n), .int tp, .int lf, .int hg, .int wd, .ref rq, .int (nI (y + 0)), .int 7, .long hh])), (rq, .inl (cI, 72, .inl pt))] H := hP
        have hD : va_D A [(oM, .inr (6, [.int th, .ref rz, .ref r2, .int (nI km), .ref rb, .int (nI n), .int tp, .int lf, .int hg, .int wd, .ref rq, .int (nI (y + 0)), .int 7, .long hh])), (rq, .inl (cI, 72, .inl pt))] := hD
        refine lv_aload_n hx hb dX6_stands_67 rfl (lv_at hl 2 rfl) ?_
        refine lv_iload_n hx hb dX6_stands_68 rfl (lv_at hl 0 rfl) ?_
        refine lv_if_eq (tgt := 76) hx hb dX6_stands_69 (by decide) (fun _ => ?_) (fun q => absurd q (by decide))
        refine lv_bipush (v := 6) hx hb dX6_stands_76 (by decide) ?_
        refine va_put (D := (dC, dI)) (ci := 6) (v := .int 6) (ty := .int) (C := RX6) (T := TX6) (N := 14) hx hb hts (by decide +kernel) tyX6 tyX6_ok nmX6 hown hK.1 hP hD hS 0 rfl rfl 12 (by decide) (hts (.fieldLink RX6 129 "NoteWatermarksModel" "state" "I") (by decide +kernel)) (fun _ h9 => h9) rfl (by decide +kernel) rfl rfl (Nat.le_of_ble_eq_true rfl) dX6_stands_78 (fun H locs hP hD hS => ?_)
        have hP : va_P (dC, dI) vwCl [(oM, .inr (6, [.int th, .ref rz, .ref r2, .int (nI km), .ref rb, .int (nI n), .int tp, .int lf, .int hg, .int wd, .ref rq, .int (nI (y + 0)), .int 6, .long hh])), (rq, .inl (cI, 72, .inl pt))] H := hP
        have hD : va_D A [(oM, .inr (6, [.int th, .ref rz, .ref r2, .int (nI km), .ref rb, .int (nI n), .int tp, .int lf, .int hg, .int wd, .ref rq, .int (nI (y + 0)), .int 6, .long hh])), (rq, .inl (cI, 72, .inl pt))] := hD
        refine lv_iload_n hx hb dX6_stands_81 rfl (lv_at hl 1 rfl) ?_
        refine lv_if_ne (tgt := 89) hx hb dX6_stands_82 (by decide) (fun q => absurd q (by decide)) (fun _ => ?_)
        refine lv_iload_n hx hb dX6_stands_85 rfl (lv_at hl 0 rfl) ?_
        refine lv_if_eq (tgt := 93) hx hb dX6_stands_86 (by decide) (fun _ => ?_) (fun q => absurd q (by decide))
        refine lv_iconst (v := 0) hx hb dX6_stands_93 (by decide) ?_
        exact kq_retMz (6, y + 0, pt) hx hb hr hlocks hP hD hS dX6_stands_94 (Or.inl rfl) (by dsimp only; first | (have e : n_nx 7 x = 0 := (by simp [n_nx, h59]); exact ⟨by rw [e]; rfl, rfl, fun _ => ⟨e.symm, by simp [n_sc, h59]⟩, by decide, by omega⟩) | (have e : n_nx 7 x = 8 := (by simp [n_nx, n59]); exact ⟨by rw [e]; rfl, rfl, fun q => absurd e q, by decide, by omega⟩))
      · skip
        have h59 := c_57
        refine lv_iconst (v := 1) hx hb dX6_stands_43 (by decide) ?_
        refine lv_goto (tgt := 48) hx hb dX6_stands_44 (by decide) ?_
        refine lv_istore_n (lv' := [(3, .int 1), (2, .int 0), (0, .ref oM), (1, .int x)]) hx hb dX6_stands_48 rfl hl (by decide) rfl (fun ls hl => ?_)
        refine lv_aload_n hx hb dX6_stands_49 rfl (lv_at hl 2 rfl) ?_
        refine lv_dup hx hb dX6_stands_50 rfl ?_
        refine va_get (D := (dC, dI)) (ci := 6) (v := .int (nI y)) (C := RX6) (T := TX6) (N := 14) hx hb hts (by decide +kernel) hown hK.1 hP 0 rfl rfl 11 (by decide) (hts (.fieldLink RX6 132 "NoteWatermarksModel" "partMany" "I") (by decide +kernel)) (fun _ h9 => h9) rfl dX6_stands_51 ?_
        refine lv_iload_n hx hb dX6_stands_54 rfl (lv_at hl 0 rfl) ?_
        refine lv_if_eq (tgt := 62) hx hb dX6_stands_55 (by decide) (fun q => absurd q (by decide)) (fun _ => ?_)
        refine lv_iconst (v := 1) hx hb dX6_stands_58 (by decide) ?_
        refine lv_goto (tgt := 63) hx hb dX6_stands_59 (by decide) ?_
        refine lv_iadd hx hb dX6_stands_63 ?_
        refine kq_top (z := nI (y + 1)) (nI_add y 1) ?_
        refine va_put (D := (dC, dI)) (ci := 6) (v := .int (nI (y + 1))) (ty := .int) (C := RX6) (T := TX6) (N := 14) hx hb hts (by decide +kernel) tyX6 tyX6_ok nmX6 hown hK.1 hP hD hS 0 rfl rfl 11 (by decide) (hts (.fieldLink RX6 132 "NoteWatermarksModel" "partMany" "I") (by decide +kernel)) (fun _ h9 => h9) rfl (by decide +kernel) rfl rfl (Nat.le_of_ble_eq_true rfl) dX6_stands_64 (fun H locs hP hD hS => ?_)
        have hP : va_P (dC, dI) vwCl [(oM, .inr (6, [.int th, .ref rz, .ref r2, .int (nI km), .ref rb, .int (nI n), .int tp, .int lf, .int hg, .int wd, .ref rq, .int (nI (y + 1)), .int 7, .long hh])), (rq, .inl (cI, 72, .inl pt))] H := hP
        have hD : va_D A [(oM, .inr (6, [.int th, .ref rz, .ref r2, .int (nI km), .ref rb, .int (nI n), .int tp, .int lf, .int hg, .int wd, .ref rq, .int (nI (y + 1)), .int 7, .long hh])), (rq, .inl (cI, 72, .inl pt))] := hD
        refine lv_aload_n hx hb dX6_stands_67 rfl (lv_at hl 2 rfl) ?_
        refine lv_iload_n hx hb dX6_stands_68 rfl (lv_at hl 0 rfl) ?_
        refine lv_if_eq (tgt := 76) hx hb dX6_stands_69 (by decide) (fun q => absurd q (by decide)) (fun _ => ?_)
        refine lv_iconst (v := 0) hx hb dX6_stands_72 (by decide) ?_
        refine lv_goto (tgt := 78) hx hb dX6_stands_73 (by decide) ?_
        refine va_put (D := (dC, dI)) (ci := 6) (v := .int 0) (ty := .int) (C := RX6) (T := TX6) (N := 14) hx hb hts (by decide +kernel) tyX6 tyX6_ok nmX6 hown hK.1 hP hD hS 0 rfl rfl 12 (by decide) (hts (.fieldLink RX6 129 "NoteWatermarksModel" "state" "I") (by decide +kernel)) (fun _ h9 => h9) rfl (by decide +kernel) rfl rfl (Nat.le_of_ble_eq_true rfl) dX6_stands_78 (fun H locs hP hD hS => ?_)
        have hP : va_P (dC, dI) vwCl [(oM, .inr (6, [.int th, .ref rz, .ref r2, .int (nI km), .ref rb, .int (nI n), .int tp, .int lf, .int hg, .int wd, .ref rq, .int (nI (y + 1)), .int 0, .long hh])), (rq, .inl (cI, 72, .inl pt))] H := hP
        have hD : va_D A [(oM, .inr (6, [.int th, .ref rz, .ref r2, .int (nI km), .ref rb, .int (nI n), .int tp, .int lf, .int hg, .int wd, .ref rq, .int (nI (y + 1)), .int 0, .long hh])), (rq, .inl (cI, 72, .inl pt))] := hD
        refine lv_iload_n hx hb dX6_stands_81 rfl (lv_at hl 1 rfl) ?_
        refine lv_if_ne (tgt := 89) hx hb dX6_stands_82 (by decide) (fun q => absurd q (by decide)) (fun _ => ?_)
        refine lv_iload_n hx hb dX6_stands_85 rfl (lv_at hl 0 rfl) ?_
        refine lv_if_eq (tgt := 93) hx hb dX6_stands_86 (by decide) (fun q => absurd q (by decide)) (fun _ => ?_)
        refine lv_iconst (v := 1) hx hb dX6_stands_89 (by decide) ?_
        refine lv_goto (tgt := 94) hx hb dX6_stands_90 (by decide) ?_
        exact kq_retMz (0, y + 1, pt) hx hb hr hlocks hP hD hS dX6_stands_94 (Or.inr rfl) (by dsimp only; first | (have e : n_nx 7 x = 0 := (by simp [n_nx, h59]); exact ⟨by rw [e]; rfl, rfl, fun _ => ⟨e.symm, by simp [n_sc, h59]⟩, by decide, by omega⟩) | (have e : n_nx 7 x = 8 := (by simp [n_nx, n59]); exact ⟨by rw [e]; rfl, rfl, fun q => absurd e q, by decide, by omega⟩))
