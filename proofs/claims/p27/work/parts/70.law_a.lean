/-! The law's body: names, numbers, the end. -/
def kl_C (p : Program) (s : State) (m : MethodId) (meth : Method) (c : Code) (sb sL : Nat) (xs : Nat → Int32) (dC : Nat → ClassId) (dI : Nat → Nat → Nat) (cI : ClassId) : Prop := lw_At p s m meth c sb sL xs ∧ sL ≤ 260 ∧ kq_K dC dI cI s
theorem kl_room {a b : Nat} (h1 : a ≤ 106) (h2 : b ≤ 3921) : a ≤ room_1.cells ∧ b ≤ room_1.slots := ⟨h1, h2⟩
theorem n_cnt_4 {v : Nat → Int32} {kc : Nat} : n_cnt v kc 4 = n_lk v := by rw [n_cnt]
def n_ik9 (h : Int32) : Nat := if n_lw (h >>> (14 &&& 31)) 4 = 0 then n_lw (h >>> (16 &&& 31)) 10 else 0
theorem n_ik9_b (h : Int32) : n_ik9 h ≤ 9 := by
  have := n_lw_lt (x := h >>> (16 &&& 31)) (n := 10) (by decide)
  unfold n_ik9; split <;> omega
theorem n_inkm_s {v : Nat → Int32} {r d h w k : Nat} {x : Int32} : n_inkm v r d h w x (k + 1) = n_inkm v r d h w x k + (if (r ≤ k / 12 ∧ k / 12 < r + h) ∧ (d ≤ k % 12 ∧ k % 12 < d + w) then (if v (294 + k) = x then 0 else 1) else 0) := rfl
theorem kq_i9 {a : Nat} (h : a ≤ 9) : 0 ≤ nI a ∧ nI a ≤ 9 := ⟨nI_pos' (by omega), nI_le (b := 9) h (by decide)⟩
theorem n_ink_at {v : Nat → Int32} {r d h w i j : Nat} {q : Int32} (h1 : r ≤ i ∧ i < r + h) (h2 : d ≤ j ∧ j < d + w) (hi : i < 6) (hj : j < 12) : n_ink v r d h w q (294 + i * 12 + j) = q := by
  rw [n_ink, if_pos]
  have e1 : (294 + i * 12 + j - 294) / 12 = i := by omega
  have e2 : (294 + i * 12 + j - 294) % 12 = j := by omega
  rw [e1, e2]
  exact ⟨by omega, h1, h2⟩
theorem n_ink_o {v : Nat → Int32} {r d h w k : Nat} {q : Int32} (hk : k < 294 ∨ 366 ≤ k) : n_ink v r d h w q k = v k := by rw [n_ink, if_neg (by omega)]
theorem n_ww_as {L : Nat} {xs v w : Nat → Int32} (h : n_ww L xs v) (e : ∀ k, k < 288 → w k = v k) : n_ww L xs w := fun k hk => (e k hk).trans (h k hk)
theorem n_pp_as {v w pf : Nat → Int32} (h : n_pp v pf) (e : ∀ k, 288 ≤ k → k < 294 ∨ 382 ≤ k → w k = v k) : n_pp w pf := by
  refine ⟨fun r hr => ?_, ?_, ?_⟩
  · rw [e _ (by omega) (by omega), e _ (by omega) (by omega)]; exact h.1 r hr
  · rw [e _ (by omega) (by omega)]; exact h.2.1
  · rw [e _ (by omega) (by omega)]; exact h.2.2
theorem kq_te (e : Nat) : nI (1 + e) = nI (100 + e) - 99 := by
  have h := pk_sub (a := 100 + e) (b := 99) (by omega)
  rw [show 1 + e = 100 + e - 99 by omega]
  exact h.symm
theorem kq_te9 {e : Nat} (h : e < 5) : -99 ≤ nI (1 + e) ∧ nI (1 + e) ≤ 99 := by
  have key : ∀ e, e < 5 → -99 ≤ nI (1 + e) ∧ nI (1 + e) ≤ 99 := by decide +kernel
  exact key e h
theorem kq_tm (a e k : Nat) : (a + (100 + e) + 100 * k - 99) % k = (a + 1 + e) % k := by
  rw [show a + (100 + e) + 100 * k - 99 = a + 1 + e + 100 * k by omega, Nat.add_mul_mod_self_right]
theorem n_pp_t {v pf : Nat → Int32} {r : Nat} {x : Int32} (h : n_pp v pf) (hr : r < 3) : n_pp (upd v (291 + r) x) (upd pf (3 + r) x) := by
  refine ⟨fun j hj => ?_, ?_, ?_⟩
  · obtain ⟨e1, e2⟩ := h.1 j hj
    refine ⟨?_, ?_⟩
    · rw [pk_un (by omega), pk_un (by omega)]; exact e1
    · by_cases q : j = r
      · rw [q, pk_us, pk_us]
      · rw [pk_un (by omega), pk_un (by omega)]; exact e2
  · rw [pk_un (by omega), pk_un (by omega)]; exact h.2.1
  · rw [pk_un (by omega), pk_un (by omega)]; exact h.2.2
theorem n_pp_z {v pf : Nat → Int32} {r : Nat} {x y : Int32} (h : n_pp v pf) (hr : r < 3) : n_pp (upd (upd v (288 + r) x) (291 + r) y) (upd (upd pf r x) (3 + r) y) := by
  refine ⟨fun j hj => ?_, ?_, ?_⟩
  · obtain ⟨e1, e2⟩ := h.1 j hj
    refine ⟨?_, ?_⟩
    · by_cases q : j = r
      · rw [q, pk_un (by omega), pk_us, pk_un (by omega), pk_us]
      · rw [pk_un (by omega), pk_un (by omega), pk_un (by omega), pk_un (by omega)]; exact e1
    · by_cases q : j = r
      · rw [q, pk_us, pk_us]
      · rw [pk_un (by omega), pk_un (by omega), pk_un (by omega), pk_un (by omega)]; exact e2
  · rw [pk_un (by omega), pk_un (by omega), pk_un (by omega), pk_un (by omega)]; exact h.2.1
  · rw [pk_un (by omega), pk_un (by omega), pk_un (by omega), pk_un (by omega)]; exact h.2.2
theorem n_f_o {v : Nat → Int32} {k f j : Nat} {x : Int32} (h : k < 366) : n_f (upd v k x) f j = n_f v f j := n_f_as (pk_un (by omega))
/-- a figure's numbers stay -/
theorem n_qf_as {v w qf : Nat → Int32} {f : Nat} (h : n_qq qf (n_f v f 0) (n_f v f 1) (n_f v f 2) (n_f v f 3)) (e : ∀ j, n_f w f j = n_f v f j) : n_qq qf (n_f w f 0) (n_f w f 1) (n_f w f 2) (n_f w f 3) := by rw [e, e, e, e]; exact h
theorem n_I0 : n_I n_v0 := by
  have hf : ∀ f j, f < 4 → j < 4 → n_v0 (366 + f * 4 + j) = 0 := fun f j hf hj => by rw [n_v0, if_neg (by omega), if_neg (by omega), if_neg (by omega)]
  refine n_I_mk (fun r hr => ⟨12, 0, ?_, by decide, by decide, ?_, by decide⟩) (fun k hk => ⟨0, ?_, by decide⟩) (fun f h => ⟨0, 0, 0, 0, hf f 0 h (by decide), hf f 1 h (by decide), hf f 2 h (by decide), hf f 3 h (by decide), fun _ => ⟨rfl, rfl, rfl⟩, fun q => absurd q (by decide), by decide, by decide⟩) ⟨0, 12, 2, rfl, by decide, rfl, by decide, by decide, rfl, by decide, by decide⟩
  · rw [n_v0, if_pos (by omega)]; rfl
  · rw [n_v0, if_neg (by omega), if_neg (by omega), if_neg (by omega)]; rfl
  · rw [n_v0, if_neg (by omega), if_neg (by omega), if_neg (by omega)]; rfl
theorem n_v0_w : ∀ j, j < 288 → n_v0 j = 0 := fun j hj => by rw [n_v0, if_neg (by omega), if_neg (by omega), if_neg (by omega)]
theorem n_v0_r : ∀ r, r < 3 → n_v0 (288 + r) = 12 ∧ n_v0 (291 + r) = 0 := fun r hr => ⟨by rw [n_v0, if_pos (by omega)], by rw [n_v0, if_neg (by omega), if_neg (by omega), if_neg (by omega)]⟩
theorem n_v0_s : n_v0 382 = 0 ∧ n_v0 383 = 12 ∧ n_v0 384 = 2 := ⟨rfl, rfl, rfl⟩

set_option maxHeartbeats 16000000 in
set_option maxRecDepth 100000 in
theorem kl_tail {p : Program} {l : Launch} {e : Env} {s : State} {m : MethodId} {below : List Frame} {meth : Method} {c : Code} {sb sL : Nat} {xs : Nat → Int32} {dC : Nat → ClassId} {dI : Nat → Nat → Nat} {cI : ClassId} {oX oS oR oN o2 oF oT rv rs rp rt rl q1 q2 q3 pa qa : Nat} (C0 : kl_C p s m meth c sb sL xs dC dI cI) : ∀ (kc : Nat) (v : Nat → Int32) (sv : Nat → Int32) (fp : Nat → Int32) (ft : Nat → Int32) (fl : Nat → Int32) (z1 : Nat → Int32) (z2 : Nat → Int32) (z3 : Nat → Int32) (pf : Nat → Int32) (qf : Nat → Int32), kc ≤ 6 → n_I v → n_ww sL xs v → n_pp v pf → ∀ (H : Heap) (locs : List Loc), va_P (dC, dI) vwCl [(oX, .inr (5, [.ref oS, .ref oR, .ref oN, .ref o2, .ref oF, .ref oT])), (oS, .inr (3, [.ref rv, .ref rs, .int (nI kc)])), (rv, .inl (cI, 385, .inl v)), (rs, .inl (cI, 2310, .inl sv)), (oR, .inr (2, [.ref oS])), (oF, .inr (0, [.ref oS, .ref oN])), (oN, .inr (1, [.ref oS, .ref rp, .ref rt, .ref rl])), (rp, .inl (cI, 72, .inl fp)), (rt, .inl (cI, 72, .inl ft)), (rl, .inl (cI, 72, .inl fl)), (o2, .inr (1, [.ref oS, .ref q1, .ref q2, .ref q3])), (q1, .inl (cI, 72, .inl z1)), (q2, .inl (cI, 72, .inl z2)), (q3, .inl (cI, 72, .inl z3)), (pa, .inl (cI, 8, .inl pf)), (qa, .inl (cI, 4, .inl qf))] H → va_D (fun q => s.heap.size ≤ q) [(oX, .inr (5, [.ref oS, .ref oR, .ref oN, .ref o2, .ref oF, .ref oT])), (oS, .inr (3, [.ref rv, .ref rs, .int (nI kc)])), (rv, .inl (cI, 385, .inl v)), (rs, .inl (cI, 2310, .inl sv)), (oR, .inr (2, [.ref oS])), (oF, .inr (0, [.ref oS, .ref oN])), (oN, .inr (1, [.ref oS, .ref rp, .ref rt, .ref rl])), (rp, .inl (cI, 72, .inl fp)), (rt, .inl (cI, 72, .inl ft)), (rl, .inl (cI, 72, .inl fl)), (o2, .inr (1, [.ref oS, .ref q1, .ref q2, .ref q3])), (q1, .inl (cI, 72, .inl z1)), (q2, .inl (cI, 72, .inl z2)), (q3, .inl (cI, 72, .inl z3)), (pa, .inl (cI, 8, .inl pf)), (qa, .inl (cI, 4, .inl qf))] → va_S (fun q => s.heap.size ≤ q) s.heap H locs → ∀ ls : Array Slot, lv_has ls 16 [(0, .ref sb), (1, .ref oX), (2, .ref pa)] → W p l e room_1 s m #[Value.ref sb] below meth c H locs 24 3221 (lw_Z below #[Value.ref sb] s) (F0 m 629 ls []) := by
  intro kc v sv fp ft fl z1 z2 z3 pf qf hkc hI hW hp H locs hP hD hS ls hl
  obtain ⟨⟨hx, hb, hr, hml, hown, hts0, hX, hbl, hlocks, hgv⟩, hL, hK⟩ := id C0
  have hown : s.vm.findClass RL = some m.cls := hown
  have hb : c.code = cL_law := hb
  have hts : ∀ w ∈ wsL_law, w.before #[Value.ref sb] s = true := fun w h => hts0 w (wsL_law_in w h)
  have hA : ∀ q : Nat, s.heap.size ≤ q → (fun q => s.heap.size ≤ q) q := fun _ h => h
  have hbA : ¬ (fun q => s.heap.size ≤ q) sb := Nat.not_le.mpr hbl
  generalize hAe : (fun q => s.heap.size ≤ q) = A at hP hD hS hA hbA
  refine lv_iconst (v := 0) hx hb dL_law_629 (by decide) ?_
  refine lv_istore (lv' := [(4, .int 0), (0, .ref sb), (1, .ref oX), (2, .ref pa)]) hx hb dL_law_630 hl (by decide) rfl (fun ls hl => ?_)
  refine lv_iconst (v := 1) hx hb dL_law_632 (by decide) ?_
  refine lv_istore (lv' := [(5, .int 1), (4, .int 0), (0, .ref sb), (1, .ref oX), (2, .ref pa)]) hx hb dL_law_633 hl (by decide) rfl (fun ls hl => ?_)
  refine kq_loopM2 (A1 := Nat) (A2 := Int32) (fun (n : Nat) (x : Int32) => 100 - n) (fun (n : Nat) (x : Int32) => (1 ≤ n ∧ n ≤ 100) ∧ (x = n_iv (fun n => if n_lkb v n then 1 else 0) 1 n)) (fun (n : Nat) (x : Int32) => [(0, .ref sb), (1, .ref oX), (2, .ref pa), (4, .int x), (5, .int (nI n))]) (fun (n : Nat) (x : Int32) => [(oX, .inr (5, [.ref oS, .ref oR, .ref oN, .ref o2, .ref oF, .ref oT])), (oS, .inr (3, [.ref rv, .ref rs, .int (nI kc)])), (rv, .inl (cI, 385, .inl v)), (rs, .inl (cI, 2310, .inl sv)), (oR, .inr (2, [.ref oS])), (oF, .inr (0, [.ref oS, .ref oN])), (oN, .inr (1, [.ref oS, .ref rp, .ref rt, .ref rl])), (rp, .inl (cI, 72, .inl fp)), (rt, .inl (cI, 72, .inl ft)), (rl, .inl (cI, 72, .inl fl)), (o2, .inr (1, [.ref oS, .ref q1, .ref q2, .ref q3])), (q1, .inl (cI, 72, .inl z1)), (q2, .inl (cI, 72, .inl z2)), (q3, .inl (cI, 72, .inl z3)), (pa, .inl (cI, 8, .inl pf)), (qa, .inl (cI, 4, .inl qf))]) (nL := 16) hK ?_ 1 0 ⟨(by omega), (by exact n_iv_0.symm)⟩ hP hD hS _ (lv_sub hl [2, 3, 4, 1, 0] rfl)
  intro n x hi_2 ih_1 H locs hP hD hS ls hl
  obtain ⟨in_, ix⟩ := hi_2
  have hl : lv_has ls 16 [(0, .ref sb), (1, .ref oX), (2, .ref pa), (4, .int x), (5, .int (nI n))] := hl
  have hP : va_P (dC, dI) vwCl [(oX, .inr (5, [.ref oS, .ref oR, .ref oN, .ref o2, .ref oF, .ref oT])), (oS, .inr (3, [.ref rv, .ref rs, .int (nI kc)])), (rv, .inl (cI, 385, .inl v)), (rs, .inl (cI, 2310, .inl sv)), (oR, .inr (2, [.ref oS])), (oF, .inr (0, [.ref oS, .ref oN])), (oN, .inr (1, [.ref oS, .ref rp, .ref rt, .ref rl])), (rp, .inl (cI, 72, .inl fp)), (rt, .inl (cI, 72, .inl ft)), (rl, .inl (cI, 72, .inl fl)), (o2, .inr (1, [.ref oS, .ref q1, .ref q2, .ref q3])), (q1, .inl (cI, 72, .inl z1)), (q2, .inl (cI, 72, .inl z2)), (q3, .inl (cI, 72, .inl z3)), (pa, .inl (cI, 8, .inl pf)), (qa, .inl (cI, 4, .inl qf))] H := hP
  have hD : va_D A [(oX, .inr (5, [.ref oS, .ref oR, .ref oN, .ref o2, .ref oF, .ref oT])), (oS, .inr (3, [.ref rv, .ref rs, .int (nI kc)])), (rv, .inl (cI, 385, .inl v)), (rs, .inl (cI, 2310, .inl sv)), (oR, .inr (2, [.ref oS])), (oF, .inr (0, [.ref oS, .ref oN])), (oN, .inr (1, [.ref oS, .ref rp, .ref rt, .ref rl])), (rp, .inl (cI, 72, .inl fp)), (rt, .inl (cI, 72, .inl ft)), (rl, .inl (cI, 72, .inl fl)), (o2, .inr (1, [.ref oS, .ref q1, .ref q2, .ref q3])), (q1, .inl (cI, 72, .inl z1)), (q2, .inl (cI, 72, .inl z2)), (q3, .inl (cI, 72, .inl z3)), (pa, .inl (cI, 8, .inl pf)), (qa, .inl (cI, 4, .inl qf))] := hD
  refine lv_iload hx hb dL_law_635 (lv_at hl 4 rfl) ?_
  refine lv_bipush (v := 100) hx hb dL_law_637 (by decide) ?_
  refine lv_icmp_ge (tgt := 730) hx hb dL_law_639 (by decide) (fun c_3 => ?_) (fun c_3 => ?_)
  · skip
    have c_3 := kq_leN (a := 100) (b := n) c_3 (by omega) (by omega)
    refine lv_aload_n hx hb dL_law_730 rfl (lv_at hl 1 rfl) ?_
    refine lv_iconst (v := 4) hx hb dL_law_731 (by decide) ?_
    refine kq_callMi (wr := [(rs, .inl (cI, 2310, .inl sv)), (pa, .inl (cI, 8, .inl pf)), (qa, .inl (cI, 4, .inl qf))]) (va_runV (As := [.int 4]) (rest := []) ⟨hx, hb, hml, hown, hts⟩ (c_X5_count l dC dI cI H.size oX oS oR oN o2 oF oT rv rs kc rp rt rl q1 q2 q3 v fp ft fl z1 z2 z3 4 (by first | assumption | omega) (by first | assumption | omega)) (cwV 1 hts gL_law_X5_count rfl rfl rfl (by decide +kernel) ⟨Nat.le_of_ble_eq_true rfl, Nat.le_of_ble_eq_true rfl⟩) (kq_preV (ci := 5) (q0 := 0) (hP.sub [0, 1, 2, 4, 5, 6, 7, 8, 9, 10, 11, 12, 13] rfl) (hD.sub [0, 1, 2, 4, 5, 6, 7, 8, 9, 10, 11, 12, 13] (by decide) rfl) hK rfl rfl) rfl rfl hl.1 rfl (lv_room (Nat.le_of_ble_eq_true rfl)) dL_law_732 (kl_room (Nat.le_of_ble_eq_true rfl) (Nat.le_of_ble_eq_true rfl))) hP hD hS hA [0, 1, 2, 4, 5, 6, 7, 8, 9, 10, 11, 12, 13] [3, 14, 15] rfl rfl (by decide) (by decide) (fun r_4 u_5 H locs hw_6 hP hD hS => ?_)
    obtain ⟨gp_7, gt_8, gl_9, y1_10, y2_11, y3_12⟩ := u_5
    have hP : va_P (dC, dI) vwCl [(rs, .inl (cI, 2310, .inl sv)), (pa, .inl (cI, 8, .inl pf)), (qa, .inl (cI, 4, .inl qf)), (oX, .inr (5, [.ref oS, .ref oR, .ref oN, .ref o2, .ref oF, .ref oT])), (oS, .inr (3, [.ref rv, .ref rs, .int (nI kc)])), (rv, .inl (cI, 385, .inl v)), (oR, .inr (2, [.ref oS])), (oF, .inr (0, [.ref oS, .ref oN])), (oN, .inr (1, [.ref oS, .ref rp, .ref rt, .ref rl])), (rp, .inl (cI, 72, .inl gp_7)), (rt, .inl (cI, 72, .inl gt_8)), (rl, .inl (cI, 72, .inl gl_9)), (o2, .inr (1, [.ref oS, .ref q1, .ref q2, .ref q3])), (q1, .inl (cI, 72, .inl y1_10)), (q2, .inl (cI, 72, .inl y2_11)), (q3, .inl (cI, 72, .inl y3_12))] H := hP
    have hD : va_D A [(rs, .inl (cI, 2310, .inl sv)), (pa, .inl (cI, 8, .inl pf)), (qa, .inl (cI, 4, .inl qf)), (oX, .inr (5, [.ref oS, .ref oR, .ref oN, .ref o2, .ref oF, .ref oT])), (oS, .inr (3, [.ref rv, .ref rs, .int (nI kc)])), (rv, .inl (cI, 385, .inl v)), (oR, .inr (2, [.ref oS])), (oF, .inr (0, [.ref oS, .ref oN])), (oN, .inr (1, [.ref oS, .ref rp, .ref rt, .ref rl])), (rp, .inl (cI, 72, .inl gp_7)), (rt, .inl (cI, 72, .inl gt_8)), (rl, .inl (cI, 72, .inl gl_9)), (o2, .inr (1, [.ref oS, .ref q1, .ref q2, .ref q3])), (q1, .inl (cI, 72, .inl y1_10)), (q2, .inl (cI, 72, .inl y2_11)), (q3, .inl (cI, 72, .inl y3_12))] := hD
    have h4c := hw_6
    refine lv_iload hx hb dL_law_735 (lv_at hl 3 rfl) ?_
    refine lv_icmp_ne (tgt := 744) hx hb dL_law_737 (by decide) (fun c_13 => ?_) (fun c_13 => ?_)
    · skip
      exact absurd (by rw [h4c, n_cnt_4, n_lk, ix, show n = 100 by omega]) c_13
    · skip
      refine lv_iconst (v := 1) hx hb dL_law_740 (by decide) ?_
      refine lv_goto (tgt := 745) hx hb dL_law_741 (by decide) ?_
      subst hAe
      refine va_forget (fun q hq => hS.2.2 q hq) ?_
      refine W.widen (k := 106) (n := 3921) (by omega) (by omega) ?_
      exact lw_ret hx hb hr hlocks dL_law_745
  · skip
    have c_3 := kq_nleN (a := 100) (b := n) c_3 (by omega) (by omega)
    refine lv_iconst (v := 1) hx hb dL_law_642 (by decide) ?_
    refine lv_istore (lv' := [(6, .int 1), (0, .ref sb), (1, .ref oX), (2, .ref pa), (4, .int x), (5, .int (nI n))]) hx hb dL_law_643 hl (by decide) rfl (fun ls hl => ?_)
    refine lv_iconst (v := 0) hx hb dL_law_645 (by decide) ?_
    refine lv_istore (lv' := [(7, .int 0), (6, .int 1), (0, .ref sb), (1, .ref oX), (2, .ref pa), (4, .int x), (5, .int (nI n))]) hx hb dL_law_646 hl (by decide) rfl (fun ls hl => ?_)
    refine kq_loopM2 (A1 := Nat) (A2 := Int32) (fun (k : Nat) (y : Int32) => 72 - k) (fun (k : Nat) (y : Int32) => (k ≤ 72) ∧ ((y = 1 ∧ ∀ j, j < k → n_to v n (j / 12) (j % 12) = n_to v 0 (j / 12) (j % 12)) ∨ (y = 0 ∧ ¬ n_lkb v n = true))) (fun (k : Nat) (y : Int32) => [(0, .ref sb), (1, .ref oX), (2, .ref pa), (4, .int x), (5, .int (nI n)), (6, .int y), (7, .int (nI k))]) (fun (k : Nat) (y : Int32) => [(oX, .inr (5, [.ref oS, .ref oR, .ref oN, .ref o2, .ref oF, .ref oT])), (oS, .inr (3, [.ref rv, .ref rs, .int (nI kc)])), (rv, .inl (cI, 385, .inl v)), (rs, .inl (cI, 2310, .inl sv)), (oR, .inr (2, [.ref oS])), (oF, .inr (0, [.ref oS, .ref oN])), (oN, .inr (1, [.ref oS, .ref rp, .ref rt, .ref rl])), (rp, .inl (cI, 72, .inl fp)), (rt, .inl (cI, 72, .inl ft)), (rl, .inl (cI, 72, .inl fl)), (o2, .inr (1, [.ref oS, .ref q1, .ref q2, .ref q3])), (q1, .inl (cI, 72, .inl z1)), (q2, .inl (cI, 72, .inl z2)), (q3, .inl (cI, 72, .inl z3)), (pa, .inl (cI, 8, .inl pf)), (qa, .inl (cI, 4, .inl qf))]) (nL := 16) hK ?_ 0 1 ⟨(by omega), (by exact Or.inl ⟨rfl, fun j hj => absurd hj (Nat.not_lt_zero j)⟩)⟩ hP hD hS _ (lv_sub hl [2, 3, 4, 5, 6, 1, 0] rfl)
    intro k y hi_15 ih_14 H locs hP hD hS ls hl
    obtain ⟨ik, iy⟩ := hi_15
    have hl : lv_has ls 16 [(0, .ref sb), (1, .ref oX), (2, .ref pa), (4, .int x), (5, .int (nI n)), (6, .int y), (7, .int (nI k))] := hl
    have hP : va_P (dC, dI) vwCl [(oX, .inr (5, [.ref oS, .ref oR, .ref oN, .ref o2, .ref oF, .ref oT])), (oS, .inr (3, [.ref rv, .ref rs, .int (nI kc)])), (rv, .inl (cI, 385, .inl v)), (rs, .inl (cI, 2310, .inl sv)), (oR, .inr (2, [.ref oS])), (oF, .inr (0, [.ref oS, .ref oN])), (oN, .inr (1, [.ref oS, .ref rp, .ref rt, .ref rl])), (rp, .inl (cI, 72, .inl fp)), (rt, .inl (cI, 72, .inl ft)), (rl, .inl (cI, 72, .inl fl)), (o2, .inr (1, [.ref oS, .ref q1, .ref q2, .ref q3])), (q1, .inl (cI, 72, .inl z1)), (q2, .inl (cI, 72, .inl z2)), (q3, .inl (cI, 72, .inl z3)), (pa, .inl (cI, 8, .inl pf)), (qa, .inl (cI, 4, .inl qf))] H := hP
    have hD : va_D A [(oX, .inr (5, [.ref oS, .ref oR, .ref oN, .ref o2, .ref oF, .ref oT])), (oS, .inr (3, [.ref rv, .ref rs, .int (nI kc)])), (rv, .inl (cI, 385, .inl v)), (rs, .inl (cI, 2310, .inl sv)), (oR, .inr (2, [.ref oS])), (oF, .inr (0, [.ref oS, .ref oN])), (oN, .inr (1, [.ref oS, .ref rp, .ref rt, .ref rl])), (rp, .inl (cI, 72, .inl fp)), (rt, .inl (cI, 72, .inl ft)), (rl, .inl (cI, 72, .inl fl)), (o2, .inr (1, [.ref oS, .ref q1, .ref q2, .ref q3])), (q1, .inl (cI, 72, .inl z1)), (q2, .inl (cI, 72, .inl z2)), (q3, .inl (cI, 72, .inl z3)), (pa, .inl (cI, 8, .inl pf)), (qa, .inl (cI, 4, .inl qf))] := hD
    refine lv_iload hx hb dL_law_648 (lv_at hl 6 rfl) ?_
    refine lv_bipush (v := 72) hx hb dL_law_650 (by decide) ?_
    refine lv_icmp_ge (tgt := 709) hx hb dL_law_652 (by decide) (fun c_16 => ?_) (fun c_16 => ?_)
    · skip
      have c_16 := kq_leN (a := 72) (b := k) c_16 (by omega) (by omega)
      refine lv_iload hx hb dL_law_709 (lv_at hl 3 rfl) ?_
      refine lv_iload hx hb dL_law_711 (lv_at hl 5 rfl) ?_
      refine lv_if_eq (tgt := 720) hx hb dL_law_713 (by decide) (fun c_17 => ?_) (fun c_17 => ?_)
      · skip
        have hlk : ¬ n_lkb v n = true := by rcases iy with q | q; exact absurd (q.1.symm.trans c_17) (by decide); exact q.2
        refine lv_iconst (v := 0) hx hb dL_law_720 (by decide) ?_
        refine lv_iadd hx hb dL_law_721 ?_
        refine lv_istore (lv' := [(4, .int (x + 0)), (0, .ref sb), (1, .ref oX), (2, .ref pa), (5, .int (nI n)), (6, .int y), (7, .int (nI k))]) hx hb dL_law_722 hl (by decide) rfl (fun ls hl => ?_)
        refine lv_iinc (v := nI (n + 1)) (lv' := [(5, .int (nI (n + 1))), (4, .int (x + 0)), (0, .ref sb), (1, .ref oX), (2, .ref pa), (6, .int y), (7, .int (nI k))]) hx hb dL_law_724 hl (k := 4) rfl (nI_1 n) (by decide) rfl (fun ls hl => ?_)
        refine lv_goto (tgt := 635) hx hb dL_law_727 (by decide) ?_
        exact ih_1 (n + 1) (x + 0) ⟨(by omega), (by rw [n_iv_s (by omega), ← ix]; first | rw [if_pos hlk] | rw [if_neg hlk])⟩ (by show 100 - (n + 1) < 100 - n; omega) _ _ hP hD hS _ (lv_sub hl [2, 3, 4, 1, 0] rfl)
      · skip
        have hlk : n_lkb v n = true := by first | exact absurd h0y c_17 | (rcases iy with q | q; exact n_lkb_iff.mpr (fun j hj => (q.2 j (by omega)).symm); exact absurd q.1 c_17)
        refine lv_iconst (v := 1) hx hb dL_law_716 (by decide) ?_
        refine lv_goto (tgt := 721) hx hb dL_law_717 (by decide) ?_
        refine lv_iadd hx hb dL_law_721 ?_
        refine lv_istore (lv' := [(4, .int (x + 1)), (0, .ref sb), (1, .ref oX), (2, .ref pa), (5, .int (nI n)), (6, .int y), (7, .int (nI k))]) hx hb dL_law_722 hl (by decide) rfl (fun ls hl => ?_)
        refine lv_iinc (v := nI (n + 1)) (lv' := [(5, .int (nI (n + 1))), (4, .int (x + 1)), (0, .ref sb), (1, .ref oX), (2, .ref pa), (6, .int y), (7, .int (nI k))]) hx hb dL_law_724 hl (k := 4) rfl (nI_1 n) (by decide) rfl (fun ls hl => ?_)
        refine lv_goto (tgt := 635) hx hb dL_law_727 (by decide) ?_
        exact ih_1 (n + 1) (x + 1) ⟨(by omega), (by rw [n_iv_s (by omega), ← ix]; first | rw [if_pos hlk] | rw [if_neg hlk])⟩ (by show 100 - (n + 1) < 100 - n; omega) _ _ hP hD hS _ (lv_sub hl [2, 3, 4, 1, 0] rfl)
    · skip
      have c_16 := kq_nleN (a := 72) (b := k) c_16 (by omega) (by omega)
      refine lv_iload hx hb dL_law_655 (lv_at hl 5 rfl) ?_
      refine lv_if_eq (tgt := 709) hx hb dL_law_657 (by decide) (fun c_18 => ?_) (fun c_18 => ?_)
      · skip
        have h0y := c_18
        refine lv_iload hx hb dL_law_709 (lv_at hl 3 rfl) ?_
        refine lv_iload hx hb dL_law_711 (lv_at hl 5 rfl) ?_
        refine lv_if_eq (tgt := 720) hx hb dL_law_713 (by decide) (fun c_19 => ?_) (fun c_19 => ?_)
        · skip
          have hlk : ¬ n_lkb v n = true := by rcases iy with q | q; exact absurd (q.1.symm.trans c_19) (by decide); exact q.2
          refine lv_iconst (v := 0) hx hb dL_law_720 (by decide) ?_
          refine lv_iadd hx hb dL_law_721 ?_
          refine lv_istore (lv' := [(4, .int (x + 0)), (0, .ref sb), (1, .ref oX), (2, .ref pa), (5, .int (nI n)), (6, .int y), (7, .int (nI k))]) hx hb dL_law_722 hl (by decide) rfl (fun ls hl => ?_)
          refine lv_iinc (v := nI (n + 1)) (lv' := [(5, .int (nI (n + 1))), (4, .int (x + 0)), (0, .ref sb), (1, .ref oX), (2, .ref pa), (6, .int y), (7, .int (nI k))]) hx hb dL_law_724 hl (k := 4) rfl (nI_1 n) (by decide) rfl (fun ls hl => ?_)
          refine lv_goto (tgt := 635) hx hb dL_law_727 (by decide) ?_
          exact ih_1 (n + 1) (x + 0) ⟨(by omega), (by rw [n_iv_s (by omega), ← ix]; first | rw [if_pos hlk] | rw [if_neg hlk])⟩ (by show 100 - (n + 1) < 100 - n; omega) _ _ hP hD hS _ (lv_sub hl [2, 3, 4, 1, 0] rfl)
        · skip
          have hlk : n_lkb v n = true := by first | exact absurd h0y c_19 | (rcases iy with q | q; exact n_lkb_iff.mpr (fun j hj => (q.2 j (by omega)).symm); exact absurd q.1 c_19)
          refine lv_iconst (v := 1) hx hb dL_law_716 (by decide) ?_
          refine lv_goto (tgt := 721) hx hb dL_law_717 (by decide) ?_
          refine lv_iadd hx hb dL_law_721 ?_
          refine lv_istore (lv' := [(4, .int (x + 1)), (0, .ref sb), (1, .ref oX), (2, .ref pa), (5, .int (nI n)), (6, .int y), (7, .int (nI k))]) hx hb dL_law_722 hl (by decide) rfl (fun ls hl => ?_)
          refine lv_iinc (v := nI (n + 1)) (lv' := [(5, .int (nI (n + 1))), (4, .int (x + 1)), (0, .ref sb), (1, .ref oX), (2, .ref pa), (6, .int y), (7, .int (nI k))]) hx hb dL_law_724 hl (k := 4) rfl (nI_1 n) (by decide) rfl (fun ls hl => ?_)
          refine lv_goto (tgt := 635) hx hb dL_law_727 (by decide) ?_
          exact ih_1 (n + 1) (x + 1) ⟨(by omega), (by rw [n_iv_s (by omega), ← ix]; first | rw [if_pos hlk] | rw [if_neg hlk])⟩ (by show 100 - (n + 1) < 100 - n; omega) _ _ hP hD hS _ (lv_sub hl [2, 3, 4, 1, 0] rfl)
      · skip
        have hz : ∀ j, j < k → n_to v n (j / 12) (j % 12) = n_to v 0 (j / 12) (j % 12) := by rcases iy with q | q; exact q.2; exact absurd q.1 c_18
        refine lv_aload_n hx hb dL_law_660 rfl (lv_at hl 0 rfl) ?_
        refine lv_aload_n hx hb dL_law_661 rfl (lv_at hl 2 rfl) ?_
        refine lv_iload hx hb dL_law_662 (lv_at hl 4 rfl) ?_
        refine lv_iload hx hb dL_law_664 (lv_at hl 6 rfl) ?_
        refine lv_bipush (v := 12) hx hb dL_law_666 (by decide) ?_
        refine lv_idiv hx hb dL_law_668 (nI_ne0 (n := 12) (by omega) (by omega)) ?_
        refine kq_top (z := nI (k / 12)) (pk_div (a := k) (d := 12) (by omega) (by omega) (by omega)) ?_
        refine lv_iload hx hb dL_law_669 (lv_at hl 6 rfl) ?_
        refine lv_bipush (v := 12) hx hb dL_law_671 (by decide) ?_
        refine lv_irem hx hb dL_law_673 (nI_ne0 (n := 12) (by omega) (by omega)) ?_
        refine kq_top (z := nI (k % 12)) (pk_rem (a := k) (d := 12) (by omega) (by omega) (by omega)) ?_
        refine kq_cSX (As := [.ref sb, .ref pa, .int (nI n), .int (nI (k / 12)), .int (nI (k % 12))]) (rest := []) ⟨hx, hb, hml, hown, hts⟩ (c_L_tone l dC dI cI sb sL xs pa v pf n (k / 12) (k % 12) (by first | assumption | omega) (by first | assumption | omega) (by first | assumption | omega) (by first | assumption | omega) (by first | assumption | omega) (by first | assumption | omega) (by first | assumption | omega)) (va_cwS 5 hts gL_law_L_tone rfl rfl rfl (by decide +kernel) ⟨Nat.le_of_ble_eq_true rfl, Nat.le_of_ble_eq_true rfl⟩) (hP.sub [14] rfl) (kq_xk hX hbl hbA hS) hK rfl hl.1 rfl (Nat.le_of_ble_eq_true rfl) dL_law_674 (kl_room (Nat.le_of_ble_eq_true rfl) (Nat.le_of_ble_eq_true rfl)) ?_
        refine lv_aload_n hx hb dL_law_677 rfl (lv_at hl 0 rfl) ?_
        refine lv_aload_n hx hb dL_law_678 rfl (lv_at hl 2 rfl) ?_
        refine lv_iconst (v := 0) hx hb dL_law_679 (by decide) ?_
        refine lv_iload hx hb dL_law_680 (lv_at hl 6 rfl) ?_
        refine lv_bipush (v := 12) hx hb dL_law_682 (by decide) ?_
        refine lv_idiv hx hb dL_law_684 (nI_ne0 (n := 12) (by omega) (by omega)) ?_
        refine kq_top (z := nI (k / 12)) (pk_div (a := k) (d := 12) (by omega) (by omega) (by omega)) ?_
        refine lv_iload hx hb dL_law_685 (lv_at hl 6 rfl) ?_
        refine lv_bipush (v := 12) hx hb dL_law_687 (by decide) ?_
        refine lv_irem hx hb dL_law_689 (nI_ne0 (n := 12) (by omega) (by omega)) ?_
        refine kq_top (z := nI (k % 12)) (pk_rem (a := k) (d := 12) (by omega) (by omega) (by omega)) ?_
        refine kq_cSX (As := [.ref sb, .ref pa, .int 0, .int (nI (k / 12)), .int (nI (k % 12))]) (rest := [.int (n_to v n (k / 12) (k % 12))]) ⟨hx, hb, hml, hown, hts⟩ (c_L_tone l dC dI cI sb sL xs pa v pf 0 (k / 12) (k % 12) (by first | assumption | omega) (by first | assumption | omega) (by first | assumption | omega) (by first | assumption | omega) (by first | assumption | omega) (by first | assumption | omega) (by first | assumption | omega)) (va_cwS 5 hts gL_law_L_tone rfl rfl rfl (by decide +kernel) ⟨Nat.le_of_ble_eq_true rfl, Nat.le_of_ble_eq_true rfl⟩) (hP.sub [14] rfl) (kq_xk hX hbl hbA hS) hK rfl hl.1 rfl (Nat.le_of_ble_eq_true rfl) dL_law_690 (kl_room (Nat.le_of_ble_eq_true rfl) (Nat.le_of_ble_eq_true rfl)) ?_
        refine lv_icmp_ne (tgt := 700) hx hb dL_law_693 (by decide) (fun c_20 => ?_) (fun c_20 => ?_)
        · skip
          have hz2 : ¬ n_lkb v n = true := fun q => c_20 (n_lkb_iff.mp q k (by omega)).symm
          refine lv_iconst (v := 0) hx hb dL_law_700 (by decide) ?_
          refine lv_istore (lv' := [(6, .int 0), (0, .ref sb), (1, .ref oX), (2, .ref pa), (4, .int x), (5, .int (nI n)), (7, .int (nI k))]) hx hb dL_law_701 hl (by decide) rfl (fun ls hl => ?_)
          refine lv_iinc (v := nI (k + 1)) (lv' := [(7, .int (nI (k + 1))), (6, .int 0), (0, .ref sb), (1, .ref oX), (2, .ref pa), (4, .int x), (5, .int (nI n))]) hx hb dL_law_703 hl (k := 6) rfl (nI_1 k) (by decide) rfl (fun ls hl => ?_)
          refine lv_goto (tgt := 648) hx hb dL_law_706 (by decide) ?_
          exact ih_14 (k + 1) 0 ⟨(by omega), (by first | exact Or.inl ⟨rfl, fun j hj => by rcases Nat.lt_or_ge j k with q | q; exact hz j q; rw [show j = k by omega]; exact hz2⟩ | exact Or.inr ⟨rfl, hz2⟩)⟩ (by show 72 - (k + 1) < 72 - k; omega) _ _ hP hD hS _ (lv_sub hl [2, 3, 4, 5, 6, 1, 0] rfl)
        · skip
          have hz2 := c_20
          refine lv_iconst (v := 1) hx hb dL_law_696 (by decide) ?_
          refine lv_goto (tgt := 701) hx hb dL_law_697 (by decide) ?_
          refine lv_istore (lv' := [(6, .int 1), (0, .ref sb), (1, .ref oX), (2, .ref pa), (4, .int x), (5, .int (nI n)), (7, .int (nI k))]) hx hb dL_law_701 hl (by decide) rfl (fun ls hl => ?_)
          refine lv_iinc (v := nI (k + 1)) (lv' := [(7, .int (nI (k + 1))), (6, .int 1), (0, .ref sb), (1, .ref oX), (2, .ref pa), (4, .int x), (5, .int (nI n))]) hx hb dL_law_703 hl (k := 6) rfl (nI_1 k) (by decide) rfl (fun ls hl => ?_)
          refine lv_goto (tgt := 648) hx hb dL_law_706 (by decide) ?_
          exact ih_14 (k + 1) 1 ⟨(by omega), (by first | exact Or.inl ⟨rfl, fun j hj => by rcases Nat.lt_or_ge j k with q | q; exact hz j q; rw [show j = k by omega]; exact hz2⟩ | exact Or.inr ⟨rfl, hz2⟩)⟩ (by show 72 - (k + 1) < 72 - k; omega) _ _ hP hD hS _ (lv_sub hl [2, 3, 4, 5, 6, 1, 0] rfl)
