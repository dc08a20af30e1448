/-! When all comes round; what is told of the whole. -/
theorem n_r1 {R : Nat → Nat} {b r n : Nat} (h : b = r ↔ ∀ j, j < r → R j ∣ n) (hd : R r ∣ n) : b + 1 = r + 1 ↔ ∀ j, j < r + 1 → R j ∣ n := by
  constructor
  · intro e j hj
    rcases Nat.lt_or_ge j r with q | q
    · exact h.mp (by omega) j q
    · rw [show j = r by omega]; exact hd
  · intro g
    have := h.mpr (fun j hj => g j (by omega))
    omega
theorem n_r0 {R : Nat → Nat} {b r n : Nat} (hb : b ≤ r) (hd : ¬ R r ∣ n) : b + 0 = r + 1 ↔ ∀ j, j < r + 1 → R j ∣ n :=
  ⟨fun e => by omega, fun g => absurd (g r (Nat.lt_succ_self r)) hd⟩
theorem n_r3 {v : Nat → Int32} (hI : n_I v) {q b n : Nat} (hn : 1 ≤ n ∧ n ≤ n_all v q 3) (h : b = 3 ↔ ∀ j, j < 3 → n_stm q (n_c v j) ∣ n) : (b < 3 → n + 1 ≤ n_all v q 3) ∧ (b = 3 → n = n_all v q 3) := by
  have hd := n_all_dvd hI (q := q) (n := n) 3 (Nat.le_refl _)
  refine ⟨fun hb => ?_, fun hb => ?_⟩
  · rcases Nat.lt_or_ge n (n_all v q 3) with z | z
    · exact z
    · have e : n = n_all v q 3 := by omega
      have := h.mpr (hd.mp (by rw [← e]; exact Nat.dvd_refl n))
      omega
  · have := Nat.le_of_dvd (by omega) (hd.mpr (h.mp hb))
    omega
theorem n_rm {n q d : Nat} (hd : 0 < d) : (n * q) % d = 0 ↔ n % n_stm q d = 0 :=
  ⟨fun h => Nat.mod_eq_zero_of_dvd ((n_stm_iff hd).mp h), fun h => (n_stm_iff hd).mpr (Nat.dvd_of_mod_eq_zero h)⟩
theorem n_roll_2 {v : Nat → Int32} {a : Nat} : n_roll v a 2 = n_cw v a (n_c v a) := by rw [n_roll]
theorem n_roll_3 {v : Nat → Int32} {a : Nat} : n_roll v a 3 = n_hw v a (n_c v a) + 1000 := by rw [n_roll]
theorem n_roll_4 {v : Nat → Int32} {a : Nat} : n_roll v a 4 = nI (n_stm (n_s v 1) (n_c v a)) := by simp [n_roll]
theorem n_cnt_3 {v : Nat → Int32} {kc : Nat} : n_cnt v kc 3 = nI (n_all v (n_s v 1) 3) := by rw [n_cnt]
theorem n_cnt_6 {v : Nat → Int32} {kc : Nat} : n_cnt v kc 6 = n_min (fun k => n_to v 0 (k / 12) (k % 12)) 72 := by rw [n_cnt]
theorem n_cnt_7 {v : Nat → Int32} {kc : Nat} : n_cnt v kc 7 = n_max (fun k => n_to v 0 (k / 12) (k % 12)) 72 := by rw [n_cnt]

set_option maxHeartbeats 4000000 in
set_option maxRecDepth 100000 in
theorem c_L_rounds (l : Launch) (dC : Nat → ClassId) (dI : Nat → Nat → Nat) (cI : ClassId) (sz : Nat) (oX : Nat) (oS : Nat) (oR : Nat) (oN : Nat) (o2 : Nat) (oF : Nat) (oT : Nat) (rv : Nat) (rs : Nat) (kc : Nat) (rp : Nat) (rt : Nat) (rl : Nat) (q1 : Nat) (q2 : Nat) (q3 : Nat) (v : Nat → Int32) (fp : Nat → Int32) (ft : Nat → Int32) (fl : Nat → Int32) (z1 : Nat → Int32) (z2 : Nat → Int32) (z3 : Nat → Int32) (pa : Nat) (pf : Nat → Int32) (hI : n_I v) (hp : n_pp v pf) : Met l yL_rounds wsL_rounds ({ frames := 6, cells := 0, slots := 0, locals := 142 }) (kq_M dC dI cI [.ref oX, .ref pa] sz [(oX, .inr (5, [.ref oS, .ref oR, .ref oN, .ref o2, .ref oF, .ref oT])), (oS, .inr (3, [.ref rv, .ref rs, .int (nI kc)])), (rv, .inl (cI, 385, .inl v)), (oR, .inr (2, [.ref oS])), (oF, .inr (0, [.ref oS, .ref oN])), (oN, .inr (1, [.ref oS, .ref rp, .ref rt, .ref rl])), (rp, .inl (cI, 72, .inl fp)), (rt, .inl (cI, 72, .inl ft)), (rl, .inl (cI, 72, .inl fl)), (o2, .inr (1, [.ref oS, .ref q1, .ref q2, .ref q3])), (q1, .inl (cI, 72, .inl z1)), (q2, .inl (cI, 72, .inl z2)), (q3, .inl (cI, 72, .inl z3)), (pa, .inl (cI, 8, .inl pf))]) (va_Qi (fun (r : Int32) (u : (Nat → Int32) × (Nat → Int32) × (Nat → Int32) × (Nat → Int32) × (Nat → Int32) × (Nat → Int32)) => r = 1) (kq_B dC dI (va_A [(oX, .inr (5, [.ref oS, .ref oR, .ref oN, .ref o2, .ref oF, .ref oT])), (oS, .inr (3, [.ref rv, .ref rs, .int (nI kc)])), (rv, .inl (cI, 385, .inl v)), (oR, .inr (2, [.ref oS])), (oF, .inr (0, [.ref oS, .ref oN])), (oN, .inr (1, [.ref oS, .ref rp, .ref rt, .ref rl])), (rp, .inl (cI, 72, .inl fp)), (rt, .inl (cI, 72, .inl ft)), (rl, .inl (cI, 72, .inl fl)), (o2, .inr (1, [.ref oS, .ref q1, .ref q2, .ref q3])), (q1, .inl (cI, 72, .inl z1)), (q2, .inl (cI, 72, .inl z2)), (q3, .inl (cI, 72, .inl z3)), (pa, .inl (cI, 8, .inl pf))] sz) (fun u : (Nat → Int32) × (Nat → Int32) × (Nat → Int32) × (Nat → Int32) × (Nat → Int32) × (Nat → Int32) => [(oX, .inr (5, [.ref oS, .ref oR, .ref oN, .ref o2, .ref oF, .ref oT])), (oS, .inr (3, [.ref rv, .ref rs, .int (nI kc)])), (rv, .inl (cI, 385, .inl v)), (oR, .inr (2, [.ref oS])), (oF, .inr (0, [.ref oS, .ref oN])), (oN, .inr (1, [.ref oS, .ref rp, .ref rt, .ref rl])), (rp, .inl (cI, 72, .inl u.1)), (rt, .inl (cI, 72, .inl u.2.1)), (rl, .inl (cI, 72, .inl u.2.2.1)), (o2, .inr (1, [.ref oS, .ref q1, .ref q2, .ref q3])), (q1, .inl (cI, 72, .inl u.2.2.2.1)), (q2, .inl (cI, 72, .inl u.2.2.2.2.1)), (q3, .inl (cI, 72, .inl u.2.2.2.2.2)), (pa, .inl (cI, 8, .inl pf))])) (va_A [(oX, .inr (5, [.ref oS, .ref oR, .ref oN, .ref o2, .ref oF, .ref oT])), (oS, .inr (3, [.ref rv, .ref rs, .int (nI kc)])), (rv, .inl (cI, 385, .inl v)), (oR, .inr (2, [.ref oS])), (oF, .inr (0, [.ref oS, .ref oN])), (oN, .inr (1, [.ref oS, .ref rp, .ref rt, .ref rl])), (rp, .inl (cI, 72, .inl fp)), (rt, .inl (cI, 72, .inl ft)), (rl, .inl (cI, 72, .inl fl)), (o2, .inr (1, [.ref oS, .ref q1, .ref q2, .ref q3])), (q1, .inl (cI, 72, .inl z1)), (q2, .inl (cI, 72, .inl z2)), (q3, .inl (cI, 72, .inl z3)), (pa, .inl (cI, 8, .inl pf))] sz)) 0 0 (va_A [(oX, .inr (5, [.ref oS, .ref oR, .ref oN, .ref o2, .ref oF, .ref oT])), (oS, .inr (3, [.ref rv, .ref rs, .int (nI kc)])), (rv, .inl (cI, 385, .inl v)), (oR, .inr (2, [.ref oS])), (oF, .inr (0, [.ref oS, .ref oN])), (oN, .inr (1, [.ref oS, .ref rp, .ref rt, .ref rl])), (rp, .inl (cI, 72, .inl fp)), (rt, .inl (cI, 72, .inl ft)), (rl, .inl (cI, 72, .inl fl)), (o2, .inr (1, [.ref oS, .ref q1, .ref q2, .ref q3])), (q1, .inl (cI, 72, .inl z1)), (q2, .inl (cI, 72, .inl z2)), (q3, .inl (cI, 72, .inl z3)), (pa, .inl (cI, 8, .inl pf))] sz) := by
  refine kq_startM (cc := cL_rounds) (maxL := 7) (ret := (some .boolean)) (by decide) rfl (Nat.le_of_ble_eq_true rfl) ?_
  intro p e s m below meth c hx hb hr hml hown hlocks hts hsz hA hP hD hS hK hnm ls hl
  subst hsz
  generalize hAe : va_A [(oX, .inr (5, [.ref oS, .ref oR, .ref oN, .ref o2, .ref oF, .ref oT])), (oS, .inr (3, [.ref rv, .ref rs, .int (nI kc)])), (rv, .inl (cI, 385, .inl v)), (oR, .inr (2, [.ref oS])), (oF, .inr (0, [.ref oS, .ref oN])), (oN, .inr (1, [.ref oS, .ref rp, .ref rt, .ref rl])), (rp, .inl (cI, 72, .inl fp)), (rt, .inl (cI, 72, .inl ft)), (rl, .inl (cI, 72, .inl fl)), (o2, .inr (1, [.ref oS, .ref q1, .ref q2, .ref q3])), (q1, .inl (cI, 72, .inl z1)), (q2, .inl (cI, 72, .inl z2)), (q3, .inl (cI, 72, .inl z3)), (pa, .inl (cI, 8, .inl pf))] s.heap.size = A at hA hD hS ⊢
  have hown : s.vm.findClass RL = some m.cls := hown
  have hl : lv_has ls 7 [(0, .ref oX), (1, .ref pa)] := hl
  obtain ⟨hs0, hs1, hs2, hs3, hs4, hs5, hs6, hs7⟩ := n_I_s hI
  obtain ⟨hM0, hM8⟩ := n_all_pos hI (q := n_s v 1) 3 (Nat.le_refl _)
  have hM9 : n_all v (n_s v 1) 3 ≤ 4096 := hM8
  refine lv_iconst (v := 0) hx hb dL_rounds_0 (by decide) ?_
  refine lv_istore_n (lv' := [(2, .int 0), (0, .ref oX), (1, .ref pa)]) hx hb dL_rounds_1 rfl hl (by decide) rfl (fun ls hl => ?_)
  refine lv_iconst (v := 0) hx hb dL_rounds_2 (by decide) ?_
  refine lv_istore_n (lv' := [(3, .int 0), (2, .int 0), (0, .ref oX), (1, .ref pa)]) hx hb dL_rounds_3 rfl hl (by decide) rfl (fun ls hl => ?_)
  refine lv_iconst (v := 1) hx hb dL_rounds_4 (by decide) ?_
  refine lv_istore (lv' := [(4, .int 1), (3, .int 0), (2, .int 0), (0, .ref oX), (1, .ref pa)]) hx hb dL_rounds_5 hl (by decide) rfl (fun ls hl => ?_)
  refine kq_loopM3 (A1 := Nat) (A2 := Nat) (A3 := Nat) (fun (a0 : Nat) (m0 : Nat) (n0 : Nat) => n_all v (n_s v 1) 3 + 1 - m0 + (3 - a0) * 0) (fun (a0 : Nat) (m0 : Nat) (n0 : Nat) => (1 ≤ n0 ∧ a0 ≤ 3 ∧ m0 = n0 - 1) ∧ (a0 < 3 → n0 ≤ n_all v (n_s v 1) 3) ∧ (a0 = 3 → m0 = n_all v (n_s v 1) 3)) (fun (a0 : Nat) (m0 : Nat) (n0 : Nat) => [(0, .ref oX), (1, .ref pa), (2, .int (nI a0)), (3, .int (nI m0)), (4, .int (nI n0))]) (fun (a0 : Nat) (m0 : Nat) (n0 : Nat) => [(oX, .inr (5, [.ref oS, .ref oR, .ref oN, .ref o2, .ref oF, .ref oT])), (oS, .inr (3, [.ref rv, .ref rs, .int (nI kc)])), (rv, .inl (cI, 385, .inl v)), (oR, .inr (2, [.ref oS])), (oF, .inr (0, [.ref oS, .ref oN])), (oN, .inr (1, [.ref oS, .ref rp, .ref rt, .ref rl])), (rp, .inl (cI, 72, .inl fp)), (rt, .inl (cI, 72, .inl ft)), (rl, .inl (cI, 72, .inl fl)), (o2, .inr (1, [.ref oS, .ref q1, .ref q2, .ref q3])), (q1, .inl (cI, 72, .inl z1)), (q2, .inl (cI, 72, .inl z2)), (q3, .inl (cI, 72, .inl z3)), (pa, .inl (cI, 8, .inl pf))]) (nL := 7) hK ?_ 0 0 1 ⟨(by omega), (by intro _; exact hM0), (by intro q; exact absurd q (by decide))⟩ hP hD hS _ (lv_sub hl [3, 4, 2, 1, 0] rfl)
  intro a0 m0 n0 hi_2 ih_1 H locs hP hD hS ls hl
  obtain ⟨i0, i1, i2⟩ := hi_2
  have hl : lv_has ls 7 [(0, .ref oX), (1, .ref pa), (2, .int (nI a0)), (3, .int (nI m0)), (4, .int (nI n0))] := hl
  have hP : va_P (dC, dI) vwCl [(oX, .inr (5, [.ref oS, .ref oR, .ref oN, .ref o2, .ref oF, .ref oT])), (oS, .inr (3, [.ref rv, .ref rs, .int (nI kc)])), (rv, .inl (cI, 385, .inl v)), (oR, .inr (2, [.ref oS])), (oF, .inr (0, [.ref oS, .ref oN])), (oN, .inr (1, [.ref oS, .ref rp, .ref rt, .ref rl])), (rp, .inl (cI, 72, .inl fp)), (rt, .inl (cI, 72, .inl ft)), (rl, .inl (cI, 72, .inl fl)), (o2, .inr (1, [.ref oS, .ref q1, .ref q2, .ref q3])), (q1, .inl (cI, 72, .inl z1)), (q2, .inl (cI, 72, .inl z2)), (q3, .inl (cI, 72, .inl z3)), (pa, .inl (cI, 8, .inl pf))] H := hP
  have hD : va_D A [(oX, .inr (5, [.ref oS, .ref oR, .ref oN, .ref o2, .ref oF, .ref oT])), (oS, .inr (3, [.ref rv, .ref rs, .int (nI kc)])), (rv, .inl (cI, 385, .inl v)), (oR, .inr (2, [.ref oS])), (oF, .inr (0, [.ref oS, .ref oN])), (oN, .inr (1, [.ref oS, .ref rp, .ref rt, .ref rl])), (rp, .inl (cI, 72, .inl fp)), (rt, .inl (cI, 72, .inl ft)), (rl, .inl (cI, 72, .inl fl)), (o2, .inr (1, [.ref oS, .ref q1, .ref q2, .ref q3])), (q1, .inl (cI, 72, .inl z1)), (q2, .inl (cI, 72, .inl z2)), (q3, .inl (cI, 72, .inl z3)), (pa, .inl (cI, 8, .inl pf))] := hD
  refine lv_iload_n hx hb dL_rounds_7 rfl (lv_at hl 2 rfl) ?_
  refine lv_iconst (v := 3) hx hb dL_rounds_8 (by decide) ?_
  refine lv_icmp_ge (tgt := 106) hx hb dL_rounds_9 (by decide) (fun c_3 => ?_) (fun c_3 => ?_)
  · skip
    have c_3 := kq_leN (a := 3) (b := a0) c_3 (by omega) (by omega)
    have hm0 : m0 = n_all v (n_s v 1) 3 := i2 (by omega)
    refine lv_aload_n hx hb dL_rounds_106 rfl (lv_at hl 0 rfl) ?_
    refine lv_iconst (v := 3) hx hb dL_rounds_107 (by decide) ?_
    refine kq_callMi (wr := [(pa, .inl (cI, 8, .inl pf))]) (va_runV (As := [.int 3]) (rest := []) ⟨hx, hb, hml, hown, hts⟩ (c_X5_count l dC dI cI H.size oX oS oR oN o2 oF oT rv rs kc rp rt rl q1 q2 q3 v fp ft fl z1 z2 z3 3 (by first | assumption | omega) (by first | assumption | omega)) (cwV 1 hts gL_rounds_X5_count rfl rfl rfl (by decide +kernel) ⟨Nat.le_of_ble_eq_true rfl, Nat.le_of_ble_eq_true rfl⟩) (kq_preV (ci := 5) (q0 := 0) (hP.sub [0, 1, 2, 3, 4, 5, 6, 7, 8, 9, 10, 11, 12] rfl) (hD.sub [0, 1, 2, 3, 4, 5, 6, 7, 8, 9, 10, 11, 12] (by decide) rfl) hK rfl rfl) rfl rfl hl.1 rfl (lv_room (Nat.le_of_ble_eq_true rfl)) dL_rounds_108 ⟨Nat.le_of_ble_eq_true rfl, Nat.le_of_ble_eq_true rfl⟩) hP hD hS hA [0, 1, 2, 3, 4, 5, 6, 7, 8, 9, 10, 11, 12] [13] rfl rfl (by decide) (by decide) (fun r_4 u_5 H locs hw_6 hP hD hS => ?_)
    obtain ⟨gp_7, gt_8, gl_9, y1_10, y2_11, y3_12⟩ := u_5
    have hP : va_P (dC, dI) vwCl [(pa, .inl (cI, 8, .inl pf)), (oX, .inr (5, [.ref oS, .ref oR, .ref oN, .ref o2, .ref oF, .ref oT])), (oS, .inr (3, [.ref rv, .ref rs, .int (nI kc)])), (rv, .inl (cI, 385, .inl v)), (oR, .inr (2, [.ref oS])), (oF, .inr (0, [.ref oS, .ref oN])), (oN, .inr (1, [.ref oS, .ref rp, .ref rt, .ref rl])), (rp, .inl (cI, 72, .inl gp_7)), (rt, .inl (cI, 72, .inl gt_8)), (rl, .inl (cI, 72, .inl gl_9)), (o2, .inr (1, [.ref oS, .ref q1, .ref q2, .ref q3])), (q1, .inl (cI, 72, .inl y1_10)), (q2, .inl (cI, 72, .inl y2_11)), (q3, .inl (cI, 72, .inl y3_12))] H := hP
    have hD : va_D A [(pa, .inl (cI, 8, .inl pf)), (oX, .inr (5, [.ref oS, .ref oR, .ref oN, .ref o2, .ref oF, .ref oT])), (oS, .inr (3, [.ref rv, .ref rs, .int (nI kc)])), (rv, .inl (cI, 385, .inl v)), (oR, .inr (2, [.ref oS])), (oF, .inr (0, [.ref oS, .ref oN])), (oN, .inr (1, [.ref oS, .ref rp, .ref rt, .ref rl])), (rp, .inl (cI, 72, .inl gp_7)), (rt, .inl (cI, 72, .inl gt_8)), (rl, .inl (cI, 72, .inl gl_9)), (o2, .inr (1, [.ref oS, .ref q1, .ref q2, .ref q3])), (q1, .inl (cI, 72, .inl y1_10)), (q2, .inl (cI, 72, .inl y2_11)), (q3, .inl (cI, 72, .inl y3_12))] := hD
    obtain rfl := hw_6
    refine kq_top (z := nI (n_all v (n_s v 1) 3)) (n_cnt_3) ?_
    refine lv_iload_n hx hb dL_rounds_111 rfl (lv_at hl 3 rfl) ?_
    refine lv_icmp_ne (tgt := 119) hx hb dL_rounds_112 (by decide) (fun c_13 => ?_) (fun c_13 => ?_)
    · skip
      have c_13 := kq_neN (a := (n_all v (n_s v 1) 3)) (b := m0) c_13 (by omega) (by omega)
      exact absurd hm0.symm c_13
    · skip
      have c_13 := kq_eqN (a := (n_all v (n_s v 1) 3)) (b := m0) c_13 (by omega) (by omega)
      refine lv_iconst (v := 1) hx hb dL_rounds_115 (by decide) ?_
      refine lv_goto (tgt := 120) hx hb dL_rounds_116 (by decide) ?_
      exact kq_retMz (gp_7, gt_8, gl_9, y1_10, y2_11, y3_12) hx hb hr hlocks (hP.sub [1, 2, 3, 4, 5, 6, 7, 8, 9, 10, 11, 12, 13, 0] rfl) (hD.sub [1, 2, 3, 4, 5, 6, 7, 8, 9, 10, 11, 12, 13, 0] (by decide) rfl) hS dL_rounds_120 (Or.inr rfl) (by rfl)
  · skip
    have c_3 := kq_nleN (a := 3) (b := a0) c_3 (by omega) (by omega)
    refine lv_iload hx hb dL_rounds_12 (lv_at hl 4 rfl) ?_
    refine lv_sipush (v := 20000) hx hb dL_rounds_14 (by decide) ?_
    refine lv_icmp_ge (tgt := 106) hx hb dL_rounds_17 (by decide) (fun c_14 => ?_) (fun c_14 => ?_)
    · skip
      have c_14 := kq_leN (a := 20000) (b := n0) c_14 (by omega) (by omega)
      exact absurd c_14 (by omega)
    · skip
      have c_14 := kq_nleN (a := 20000) (b := n0) c_14 (by omega) (by omega)
      have hnM : n0 ≤ n_all v (n_s v 1) 3 := i1 (by omega)
      refine lv_iconst (v := 0) hx hb dL_rounds_20 (by decide) ?_
      refine lv_istore_n (lv' := [(2, .int 0), (0, .ref oX), (1, .ref pa), (3, .int (nI m0)), (4, .int (nI n0))]) hx hb dL_rounds_21 rfl hl (by decide) rfl (fun ls hl => ?_)
      refine lv_iload hx hb dL_rounds_22 (lv_at hl 4 rfl) ?_
      refine lv_istore_n (lv' := [(3, .int (nI n0)), (2, .int 0), (0, .ref oX), (1, .ref pa), (4, .int (nI n0))]) hx hb dL_rounds_24 rfl hl (by decide) rfl (fun ls hl => ?_)
      refine lv_iconst (v := 0) hx hb dL_rounds_25 (by decide) ?_
      refine lv_istore (lv' := [(5, .int 0), (3, .int (nI n0)), (2, .int 0), (0, .ref oX), (1, .ref pa), (4, .int (nI n0))]) hx hb dL_rounds_26 hl (by decide) rfl (fun ls hl => ?_)
      refine kq_loopM2 (A1 := Nat) (A2 := Nat) (fun (r : Nat) (b0 : Nat) => 3 - r) (fun (r : Nat) (b0 : Nat) => (r ≤ 3 ∧ b0 ≤ r) ∧ (b0 = r ↔ ∀ j, j < r → n_stm (n_s v 1) (n_c v j) ∣ n0)) (fun (r : Nat) (b0 : Nat) => [(0, .ref oX), (1, .ref pa), (2, .int (nI b0)), (3, .int (nI n0)), (4, .int (nI n0)), (5, .int (nI r))]) (fun (r : Nat) (b0 : Nat) => [(oX, .inr (5, [.ref oS, .ref oR, .ref oN, .ref o2, .ref oF, .ref oT])), (oS, .inr (3, [.ref rv, .ref rs, .int (nI kc)])), (rv, .inl (cI, 385, .inl v)), (oR, .inr (2, [.ref oS])), (oF, .inr (0, [.ref oS, .ref oN])), (oN, .inr (1, [.ref oS, .ref rp, .ref rt, .ref rl])), (rp, .inl (cI, 72, .inl fp)), (rt, .inl (cI, 72, .inl ft)), (rl, .inl (cI, 72, .inl fl)), (o2, .inr (1, [.ref oS, .ref q1, .ref q2, .ref q3])), (q1, .inl (cI, 72, .inl z1)), (q2, .inl (cI, 72, .inl z2)), (q3, .inl (cI, 72, .inl z3)), (pa, .inl (cI, 8, .inl pf))]) (nL := 7) hK ?_ 0 0 ⟨(by omega), (by exact ⟨fun _ j hj => absurd hj (Nat.not_lt_zero j), fun _ => rfl⟩)⟩ hP hD hS _ (lv_sub hl [3, 4, 2, 1, 5, 0] rfl)
      intro r b0 hi_16 ih_15 H locs hP hD hS ls hl
      obtain ⟨ir, ib⟩ := hi_16
      have hl : lv_has ls 7 [(0, .ref oX), (1, .ref pa), (2, .int (nI b0)), (3, .int (nI n0)), (4, .int (nI n0)), (5, .int (nI r))] := hl
      have hP : va_P (dC, dI) vwCl [(oX, .inr (5, [.ref oS, .ref oR, .ref oN, .ref o2, .ref oF, .ref oT])), (oS, .inr (3, [.ref rv, .ref rs, .int (nI kc)])), (rv, .inl (cI, 385, .inl v)), (oR, .inr (2, [.ref oS])), (oF, .inr (0, [.ref oS, .ref oN])), (oN, .inr (1, [.ref oS, .ref rp, .ref rt, .ref rl])), (rp, .inl (cI, 72, .inl fp)), (rt, .inl (cI, 72, .inl ft)), (rl, .inl (cI, 72, .inl fl)), (o2, .inr (1, [.ref oS, .ref q1, .ref q2, .ref q3])), (q1, .inl (cI, 72, .inl z1)), (q2, .inl (cI, 72, .inl z2)), (q3, .inl (cI, 72, .inl z3)), (pa, .inl (cI, 8, .inl pf))] H := hP
      have hD : va_D A [(oX, .inr (5, [.ref oS, .ref oR, .ref oN, .ref o2, .ref oF, .ref oT])), (oS, .inr (3, [.ref rv, .ref rs, .int (nI kc)])), (rv, .inl (cI, 385, .inl v)), (oR, .inr (2, [.ref oS])), (oF, .inr (0, [.ref oS, .ref oN])), (oN, .inr (1, [.ref oS, .ref rp, .ref rt, .ref rl])), (rp, .inl (cI, 72, .inl fp)), (rt, .inl (cI, 72, .inl ft)), (rl, .inl (cI, 72, .inl fl)), (o2, .inr (1, [.ref oS, .ref q1, .ref q2, .ref q3])), (q1, .inl (cI, 72, .inl z1)), (q2, .inl (cI, 72, .inl z2)), (q3, .inl (cI, 72, .inl z3)), (pa, .inl (cI, 8, .inl pf))] := hD
      refine lv_iload hx hb dL_rounds_28 (lv_at hl 5 rfl) ?_
      refine lv_iconst (v := 3) hx hb dL_rounds_30 (by decide) ?_
      refine lv_icmp_ge (tgt := 100) hx hb dL_rounds_31 (by decide) (fun c_17 => ?_) (fun c_17 => ?_)
      · skip
        have c_17 := kq_leN (a := 3) (b := r) c_17 (by omega) (by omega)
        refine lv_iinc (v := nI (n0 + 1)) (lv' := [(4, .int (nI (n0 + 1))), (0, .ref oX), (1, .ref pa), (2, .int (nI b0)), (3, .int (nI n0)), (5, .int (nI r))]) hx hb dL_rounds_100 hl (k := 4) rfl (nI_1 n0) (by decide) rfl (fun ls hl => ?_)
        refine lv_goto (tgt := 7) hx hb dL_rounds_103 (by decide) ?_
        exact ih_1 b0 n0 (n0 + 1) ⟨(by omega), (by exact (n_r3 hI ⟨i0.1, hnM⟩ (by rw [show r = 3 by omega] at ib; exact ib)).1), (by exact (n_r3 hI ⟨i0.1, hnM⟩ (by rw [show r = 3 by omega] at ib; exact ib)).2)⟩ (by show n_all v (n_s v 1) 3 + 1 - n0 + (3 - b0) * 0 < n_all v (n_s v 1) 3 + 1 - m0 + (3 - a0) * 0; omega) _ _ hP hD hS _ (lv_sub hl [1, 2, 3, 4, 0] rfl)
      · skip
        have c_17 := kq_nleN (a := 3) (b := r) c_17 (by omega) (by omega)
        have hrr : r < 3 := by omega
        have h4 := n_I_c4 hI hrr
        have h16 := n_I_c16 hI hrr
        have hq0 : 0 < n_stm (n_s v 1) (n_c v r) := n_stm_pos (by omega)
        have hq9 : n_stm (n_s v 1) (n_c v r) ≤ n_c v r := n_stm_le
        have hnp : n0 * n_s v 1 ≤ 4096 * 30 := Nat.mul_le_mul (by omega) (by omega)
        have hmd := Nat.mod_lt (n0 * n_s v 1) (show 0 < n_c v r by omega)
        have hmd2 := Nat.mod_lt n0 hq0
        have hiff := n_rm (n := n0) (q := n_s v 1) (d := n_c v r) (by omega)
        refine lv_iload hx hb dL_rounds_34 (lv_at hl 4 rfl) ?_
        refine lv_aload_n hx hb dL_rounds_36 rfl (lv_at hl 1 rfl) ?_
        refine lv_bipush (v := 7) hx hb dL_rounds_37 (by decide) ?_
        refine va_iald hx hb hK.1 hP 13 0 rfl rfl (vp_in_nI (show 7 < 8 from by omega) (by omega)) dL_rounds_39 ?_
        refine kq_top (z := pf 7) (congrArg pf (nI_clamp (Nat.lt_trans (show 7 < 8 from by omega) (by omega)))) ?_
        refine kq_top (z := nI (n_s v 1)) (hp.2.2.trans hs2) ?_
        refine lv_imul hx hb dL_rounds_40 ?_
        refine kq_top (z := nI (n0 * (n_s v 1))) (pk_mul n0 (n_s v 1)) ?_
        refine lv_aload_n hx hb dL_rounds_41 rfl (lv_at hl 1 rfl) ?_
        refine lv_iload hx hb dL_rounds_42 (lv_at hl 5 rfl) ?_
        refine va_iald hx hb hK.1 hP 13 0 rfl rfl (vp_in_nI (show r < 8 from by omega) (by omega)) dL_rounds_44 ?_
        refine kq_top (z := pf r) (congrArg pf (nI_clamp (Nat.lt_trans (show r < 8 from by omega) (by omega)))) ?_
        refine kq_top (z := nI (n_c v r)) ((hp.1 r hrr).1.trans (n_I_c hI hrr)) ?_
        refine lv_irem hx hb dL_rounds_45 (nI_ne0 (n := (n_c v r)) (by omega) (by omega)) ?_
        refine kq_top (z := nI ((n0 * (n_s v 1)) % (n_c v r))) (pk_rem (a := (n0 * (n_s v 1))) (d := (n_c v r)) (by omega) (by omega) (by omega)) ?_
        refine lv_if_ne (tgt := 53) hx hb dL_rounds_46 (by decide) (fun c_18 => ?_) (fun c_18 => ?_)
        · skip
          have c_18 := kq_neN (a := ((n0 * (n_s v 1)) % (n_c v r))) (b := 0) c_18 (by omega) (by omega)
          refine lv_iconst (v := 0) hx hb dL_rounds_53 (by decide) ?_
          refine lv_istore (lv' := [(6, .int 0), (0, .ref oX), (1, .ref pa), (2, .int (nI b0)), (3, .int (nI n0)), (4, .int (nI n0)), (5, .int (nI r))]) hx hb dL_rounds_54 hl (by decide) rfl (fun ls hl => ?_)
          refine lv_iload_n hx hb dL_rounds_56 rfl (lv_at hl 3 rfl) ?_
          refine lv_iload hx hb dL_rounds_57 (lv_at hl 0 rfl) ?_
          refine lv_if_eq (tgt := 66) hx hb dL_rounds_59 (by decide) (fun _ => ?_) (fun q => absurd q (by decide))
          refine lv_iconst (v := 0) hx hb dL_rounds_66 (by decide) ?_
          refine lv_iadd hx hb dL_rounds_67 ?_
          refine kq_top (z := nI (b0 + 0)) (nI_add b0 0) ?_
          refine lv_istore_n (lv' := [(2, .int (nI (b0 + 0))), (6, .int 0), (0, .ref oX), (1, .ref pa), (3, .int (nI n0)), (4, .int (nI n0)), (5, .int (nI r))]) hx hb dL_rounds_68 rfl hl (by decide) rfl (fun ls hl => ?_)
          refine lv_iload hx hb dL_rounds_69 (lv_at hl 1 rfl) ?_
          refine lv_iload hx hb dL_rounds_71 (lv_at hl 5 rfl) ?_
          refine lv_aload_n hx hb dL_rounds_73 rfl (lv_at hl 2 rfl) ?_
          refine lv_iload hx hb dL_rounds_74 (lv_at hl 6 rfl) ?_
          refine lv_iconst (v := 4) hx hb dL_rounds_76 (by decide) ?_
          refine kq_callMi (wr := [(oF, .inr (0, [.ref oS, .ref oN])), (oN, .inr (1, [.ref oS, .ref rp, .ref rt, .ref rl])), (rp, .inl (cI, 72, .inl fp)), (rt, .inl (cI, 72, .inl ft)), (rl, .inl (cI, 72, .inl fl)), (o2, .inr (1, [.ref oS, .ref q1, .ref q2, .ref q3])), (q1, .inl (cI, 72, .inl z1)), (q2, .inl (cI, 72, .inl z2)), (q3, .inl (cI, 72, .inl z3)), (pa, .inl (cI, 8, .inl pf))]) (va_runV (As := [.int (nI r), .int 4]) (rest := [.int (nI n0), .int 0]) ⟨hx, hb, hml, hown, hts⟩ (c_X5_roll l dC dI cI H.size oX oS oR oN o2 oF oT rv rs kc v r 4 (by first | assumption | omega) (by first | assumption | omega) (by first | assumption | omega)) (cwV 2 hts gL_rounds_X5_roll rfl rfl rfl (by decide +kernel) ⟨Nat.le_of_ble_eq_true rfl, Nat.le_of_ble_eq_true rfl⟩) (kq_preV (ci := 5) (q0 := 0) (hP.sub [0, 1, 2, 3] rfl) (hD.sub [0, 1, 2, 3] (by decide) rfl) hK rfl rfl) rfl rfl hl.1 rfl (lv_room (Nat.le_of_ble_eq_true rfl)) dL_rounds_77 ⟨Nat.le_of_ble_eq_true rfl, Nat.le_of_ble_eq_true rfl⟩) hP hD hS hA [0, 1, 2, 3] [4, 5, 6, 7, 8, 9, 10, 11, 12, 13] rfl rfl (by decide) (by decide) (fun r_20 u_21 H locs hw_22 hP hD hS => ?_)
          have hP : va_P (dC, dI) vwCl [(oF, .inr (0, [.ref oS, .ref oN])), (oN, .inr (1, [.ref oS, .ref rp, .ref rt, .ref rl])), (rp, .inl (cI, 72, .inl fp)), (rt, .inl (cI, 72, .inl ft)), (rl, .inl (cI, 72, .inl fl)), (o2, .inr (1, [.ref oS, .ref q1, .ref q2, .ref q3])), (q1, .inl (cI, 72, .inl z1)), (q2, .inl (cI, 72, .inl z2)), (q3, .inl (cI, 72, .inl z3)), (pa, .inl (cI, 8, .inl pf)), (oX, .inr (5, [.ref oS, .ref oR, .ref oN, .ref o2, .ref oF, .ref oT])), (oS, .inr (3, [.ref rv, .ref rs, .int (nI kc)])), (rv, .inl (cI, 385, .inl v)), (oR, .inr (2, [.ref oS]))] H := hP
          have hD : va_D A [(oF, .inr (0, [.ref oS, .ref oN])), (oN, .inr (1, [.ref oS, .ref rp, .ref rt, .ref rl])), (rp, .inl (cI, 72, .inl fp)), (rt, .inl (cI, 72, .inl ft)), (rl, .inl (cI, 72, .inl fl)), (o2, .inr (1, [.ref oS, .ref q1, .ref q2, .ref q3])), (q1, .inl (cI, 72, .inl z1)), (q2, .inl (cI, 72, .inl z2)), (q3, .inl (cI, 72, .inl z3)), (pa, .inl (cI, 8, .inl pf)), (oX, .inr (5, [.ref oS, .ref oR, .ref oN, .ref o2, .ref oF, .ref oT])), (oS, .inr (3, [.ref rv, .ref rs, .int (nI kc)])), (rv, .inl (cI, 385, .inl v)), (oR, .inr (2, [.ref oS]))] := hD
          obtain rfl := hw_22
          refine kq_top (z := nI (n_stm (n_s v 1) (n_c v r))) (n_roll_4) ?_
          refine lv_irem hx hb dL_rounds_80 (nI_ne0 (n := (n_stm (n_s v 1) (n_c v r))) (by omega) (by omega)) ?_
          refine kq_top (z := nI (n0 % (n_stm (n_s v 1) (n_c v r)))) (pk_rem (a := n0) (d := (n_stm (n_s v 1) (n_c v r))) (by omega) (by omega) (by omega)) ?_
          refine lv_if_ne (tgt := 88) hx hb dL_rounds_81 (by decide) (fun c_23 => ?_) (fun c_23 => ?_)
          · skip
            have c_23 := kq_neN (a := (n0 % (n_stm (n_s v 1) (n_c v r)))) (b := 0) c_23 (by omega) (by omega)
            refine lv_iconst (v := 0) hx hb dL_rounds_88 (by decide) ?_
            refine lv_icmp_eq (tgt := 94) hx hb dL_rounds_89 (by decide) (fun _ => ?_) (fun q => absurd q (by decide))
            refine lv_iinc (v := nI (r + 1)) (lv' := [(5, .int (nI (r + 1))), (2, .int (nI (b0 + 0))), (6, .int 0), (0, .ref oX), (1, .ref pa), (3, .int (nI n0)), (4, .int (nI n0))]) hx hb dL_rounds_94 hl (k := 6) rfl (nI_1 r) (by decide) rfl (fun ls hl => ?_)
            refine lv_goto (tgt := 28) hx hb dL_rounds_97 (by decide) ?_
            exact ih_15 (r + 1) (b0 + 0) ⟨(by omega), (by first | exact n_r1 (R := fun j => n_stm (n_s v 1) (n_c v j)) ib ((n_stm_iff (by omega)).mp (by assumption)) | exact n_r0 (R := fun j => n_stm (n_s v 1) (n_c v j)) ir.2 (fun q => absurd ((n_stm_iff (by omega)).mpr q) (by assumption)))⟩ (by show 3 - (r + 1) < 3 - r; omega) _ _ (hP.sub [10, 11, 12, 13, 0, 1, 2, 3, 4, 5, 6, 7, 8, 9] rfl) (hD.sub [10, 11, 12, 13, 0, 1, 2, 3, 4, 5, 6, 7, 8, 9] (by decide) rfl) hS _ (lv_sub hl [3, 4, 1, 5, 6, 0] rfl)
          · skip
            have c_23 := kq_eqN (a := (n0 % (n_stm (n_s v 1) (n_c v r)))) (b := 0) c_23 (by omega) (by omega)
            refine lv_iconst (v := 1) hx hb dL_rounds_84 (by decide) ?_
            refine lv_goto (tgt := 89) hx hb dL_rounds_85 (by decide) ?_
            refine lv_icmp_eq (tgt := 94) hx hb dL_rounds_89 (by decide) (fun q => absurd q (by decide)) (fun _ => ?_)
            first | exact absurd (hiff.mp (by assumption)) (by assumption) | exact absurd (hiff.mpr (by assumption)) (by assumption)
        · skip
          have c_18 := kq_eqN (a := ((n0 * (n_s v 1)) % (n_c v r))) (b := 0) c_18 (by omega) (by omega)
          refine lv_iconst (v := 1) hx hb dL_rounds_49 (by decide) ?_
          refine lv_goto (tgt := 54) hx hb dL_rounds_50 (by decide) ?_
          refine lv_istore (lv' := [(6, .int 1), (0, .ref oX), (1, .ref pa), (2, .int (nI b0)), (3, .int (nI n0)), (4, .int (nI n0)), (5, .int (nI r))]) hx hb dL_rounds_54 hl (by decide) rfl (fun ls hl => ?_)
          refine lv_iload_n hx hb dL_rounds_56 rfl (lv_at hl 3 rfl) ?_
          refine lv_iload hx hb dL_rounds_57 (lv_at hl 0 rfl) ?_
          refine lv_if_eq (tgt := 66) hx hb dL_rounds_59 (by decide) (fun q => absurd q (by decide)) (fun _ => ?_)
          refine lv_iconst (v := 1) hx hb dL_rounds_62 (by decide) ?_
          refine lv_goto (tgt := 67) hx hb dL_rounds_63 (by decide) ?_
          refine lv_iadd hx hb dL_rounds_67 ?_
          refine kq_top (z := nI (b0 + 1)) (nI_add b0 1) ?_
          refine lv_istore_n (lv' := [(2, .int (nI (b0 + 1))), (6, .int 1), (0, .ref oX), (1, .ref pa), (3, .int (nI n0)), (4, .int (nI n0)), (5, .int (nI r))]) hx hb dL_rounds_68 rfl hl (by decide) rfl (fun ls hl => ?_)
          refine lv_iload hx hb dL_rounds_69 (lv_at hl 1 rfl) ?_
          refine lv_iload hx hb dL_rounds_71 (lv_at hl 5 rfl) ?_
          refine lv_aload_n hx hb dL_rounds_73 rfl (lv_at hl 2 rfl) ?_
          refine lv_iload hx hb dL_rounds_74 (lv_at hl 6 rfl) ?_
          refine lv_iconst (v := 4) hx hb dL_rounds_76 (by decide) ?_
          refine kq_callMi (wr := [(oF, .inr (0, [.ref oS, .ref oN])), (oN, .inr (1, [.ref oS, .ref rp, .ref rt, .ref rl])), (rp, .inl (cI, 72, .inl fp)), (rt, .inl (cI, 72, .inl ft)), (rl, .inl (cI, 72, .inl fl)), (o2, .inr (1, [.ref oS, .ref q1, .ref q2, .ref q3])), (q1, .inl (cI, 72, .inl z1)), (q2, .inl (cI, 72, .inl z2)), (q3, .inl (cI, 72, .inl z3)), (pa, .inl (cI, 8, .inl pf))]) (va_runV (As := [.int (nI r), .int 4]) (rest := [.int (nI n0), .int 1]) ⟨hx, hb, hml, hown, hts⟩ (c_X5_roll l dC dI cI H.size oX oS oR oN o2 oF oT rv rs kc v r 4 (by first | assumption | omega) (by first | assumption | omega) (by first | assumption | omega)) (cwV 2 hts gL_rounds_X5_roll rfl rfl rfl (by decide +kernel) ⟨Nat.le_of_ble_eq_true rfl, Nat.le_of_ble_eq_true rfl⟩) (kq_preV (ci := 5) (q0 := 0) (hP.sub [0, 1, 2, 3] rfl) (hD.sub [0, 1, 2, 3] (by decide) rfl) hK rfl rfl) rfl rfl hl.1 rfl (lv_room (Nat.le_of_ble_eq_true rfl)) dL_rounds_77 ⟨Nat.le_of_ble_eq_true rfl, Nat.le_of_ble_eq_true rfl⟩) hP hD hS hA [0, 1, 2, 3] [4, 5, 6, 7, 8, 9, 10, 11, 12, 13] rfl rfl (by decide) (by decide) (fun r_27 u_28 H locs hw_29 hP hD hS => ?_)
          have hP : va_P (dC, dI) vwCl [(oF, .inr (0, [.ref oS, .ref oN])), (oN, .inr (1, [.ref oS, .ref rp, .ref rt, .ref rl])), (rp, .inl (cI, 72, .inl fp)), (rt, .inl (cI, 72, .inl ft)), (rl, .inl (cI, 72, .inl fl)), (o2, .inr (1, [.ref oS, .ref q1, .ref q2, .ref q3])), (q1, .inl (cI, 72, .inl z1)), (q2, .inl (cI, 72, .inl z2)), (q3, .inl (cI, 72, .inl z3)), (pa, .inl (cI, 8, .inl pf)), (oX, .inr (5, [.ref oS, .ref oR, .ref oN, .ref o2, .ref oF, .ref oT])), (oS, .inr (3, [.ref rv, .ref rs, .int (nI kc)])), (rv, .inl (cI, 385, .inl v)), (oR, .inr (2, [.ref oS]))] H := hP
          have hD : va_D A [(oF, .inr (0, [.ref oS, .ref oN])), (oN, .inr (1, [.ref oS, .ref rp, .ref rt, .ref rl])), (rp, .inl (cI, 72, .inl fp)), (rt, .inl (cI, 72, .inl ft)), (rl, .inl (cI, 72, .inl fl)), (o2, .inr (1, [.ref oS, .ref q1, .ref q2, .ref q3])), (q1, .inl (cI, 72, .inl z1)), (q2, .inl (cI, 72, .inl z2)), (q3, .inl (cI, 72, .inl z3)), (pa, .inl (cI, 8, .inl pf)), (oX, .inr (5, [.ref oS, .ref oR, .ref oN, .ref o2, .ref oF, .ref oT])), (oS, .inr (3, [.ref rv, .ref rs, .int (nI kc)])), (rv, .inl (cI, 385, .inl v)), (oR, .inr (2, [.ref oS]))] := hD
          obtain rfl := hw_29
          refine kq_top (z := nI (n_stm (n_s v 1) (n_c v r))) (n_roll_4) ?_
          refine lv_irem hx hb dL_rounds_80 (nI_ne0 (n := (n_stm (n_s v 1) (n_c v r))) (by omega) (by omega)) ?_
          refine kq_top (z := nI (n0 % (n_stm (n_s v 1) (n_c v r)))) (pk_rem (a := n0) (d := (n_stm (n_s v 1) (n_c v r))) (by omega) (by omega) (by omega)) ?_
          refine lv_if_ne (tgt := 88) hx hb dL_rounds_81 (by decide) (fun c_30 => ?_) (fun c_30 => ?_)
          · skip
            have c_30 := kq_neN (a := (n0 % (n_stm (n_s v 1) (n_c v r)))) (b := 0) c_30 (by omega) (by omega)
            refine lv_iconst (v := 0) hx hb dL_rounds_88 (by decide) ?_
            refine lv_icmp_eq (tgt := 94) hx hb dL_rounds_89 (by decide) (fun q => absurd q (by decide)) (fun _ => ?_)
            first | exact absurd (hiff.mp (by assumption)) (by assumption) | exact absurd (hiff.mpr (by assumption)) (by assumption)
          · skip
            have c_30 := kq_eqN (a := (n0 % (n_stm (n_s v 1) (n_c v r)))) (b := 0) c_30 (by omega) (by omega)
            refine lv_iconst (v := 1) hx hb dL_rounds_84 (by decide) ?_
            refine lv_goto (tgt := 89) hx hb dL_rounds_85 (by decide) ?_
            refine lv_icmp_eq (tgt := 94) hx hb dL_rounds_89 (by decide) (fun _ => ?_) (fun q => absurd q (by decide))
            refine lv_iinc (v := nI (r + 1)) (lv' := [(5, .int (nI (r + 1))), (2, .int (nI (b0 + 1))), (6, .int 1), (0, .ref oX), (1, .ref pa), (3, .int (nI n0)), (4, .int (nI n0))]) hx hb dL_rounds_94 hl (k := 6) rfl (nI_1 r) (by decide) rfl (fun ls hl => ?_)
            refine lv_goto (tgt := 28) hx hb dL_rounds_97 (by decide) ?_
            exact ih_15 (r + 1) (b0 + 1) ⟨(by omega), (by first | exact n_r1 (R := fun j => n_stm (n_s v 1) (n_c v j)) ib ((n_stm_iff (by omega)).mp (by assumption)) | exact n_r0 (R := fun j => n_stm (n_s v 1) (n_c v j)) ir.2 (fun q => absurd ((n_stm_iff (by omega)).mpr q) (by assumption)))⟩ (by show 3 - (r + 1) < 3 - r; omega) _ _ (hP.sub [10, 11, 12, 13, 0, 1, 2, 3, 4, 5, 6, 7, 8, 9] rfl) (hD.sub [10, 11, 12, 13, 0, 1, 2, 3, 4, 5, 6, 7, 8, 9] (by decide) rfl) hS _ (lv_sub hl [3, 4, 1, 5, 6, 0] rfl)
