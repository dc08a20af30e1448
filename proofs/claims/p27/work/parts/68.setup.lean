/-! The law's wires, and how it sets up. -/
def n_cc (h : Int32) : Nat := if n_lw h 3 = 0 then 12 else 4 + n_lw (h >>> (2 &&& 31)) 13
theorem n_cc_b (h : Int32) : 4 ≤ n_cc h ∧ n_cc h ≤ 16 := by
  have := n_lw_lt (x := h >>> (2 &&& 31)) (n := 13) (by decide)
  unfold n_cc; split <;> omega
def n_cq (h : Int32) : Nat := if n_lw (h >>> (7 &&& 31)) 2 = 0 then 12 else 12 + n_lw (h >>> (8 &&& 31)) 19
theorem n_cq_b (h : Int32) : 12 ≤ n_cq h ∧ n_cq h ≤ 30 := by
  have := n_lw_lt (x := h >>> (8 &&& 31)) (n := 19) (by decide)
  unfold n_cq; split <;> omega
theorem kq_99b : ∀ u, u < 199 → -99 ≤ nI u - 99 ∧ nI u - 99 ≤ 99 := by decide +kernel
theorem n_set0 {a : Nat} (h : a ≤ 99) : n_lo 0 ≤ nI a ∧ nI a ≤ n_hi 0 := ⟨nI_pos' (by omega), nI_le h (by decide)⟩
theorem n_set1 {a : Nat} (h : 12 ≤ a ∧ a ≤ 30) : n_lo 1 ≤ nI a ∧ nI a ≤ n_hi 1 := ⟨nI_le h.1 (by omega), nI_le h.2 (by decide)⟩
theorem n_set2 {a : Nat} (h : 1 ≤ a ∧ a ≤ 9) : n_lo 2 ≤ nI a ∧ nI a ≤ n_hi 2 := ⟨nI_le h.1 (by omega), nI_le h.2 (by decide)⟩
theorem n_roll_0 {v : Nat → Int32} {a : Nat} : n_roll v a 0 = v (288 + a) := by rw [n_roll]
theorem n_roll_1 {v : Nat → Int32} {a : Nat} : n_roll v a 1 = v (291 + a) := by rw [n_roll]
theorem n_size_c {g : Nat → Int32} {r k : Nat} {y : Int32} (hk : k < 2 ^ 31) : n_c (upd (upd g (288 + r) (nI k)) (291 + r) y) r = k := by
  rw [n_c, pk_un (by omega), pk_us, nI_clamp hk]
theorem n_size_p {g : Nat → Int32} {r k : Nat} {x : Int32} (hk : k < 2 ^ 31) : n_p (upd (upd g (288 + r) x) (291 + r) (nI k)) r = k := by
  rw [n_p, pk_us, nI_clamp hk]
theorem n_p_0 {g : Nat → Int32} {r : Nat} (h : g (291 + r) = 0) : n_p g r = 0 := by rw [n_p, h]; rfl
/-- a roll set up -/
theorem n_pp_s {pg g : Nat → Int32} {r : Nat} {c y ph : Int32} (hr : r < 3) (ip : ∀ j, j < r → pg j = g (288 + j) ∧ pg (3 + j) = g (291 + j)) : ∀ j, j < r + 1 → upd (upd pg r c) (3 + r) ph j = upd (upd (upd g (288 + r) c) (291 + r) y) (291 + r) ph (288 + j) ∧ upd (upd pg r c) (3 + r) ph (3 + j) = upd (upd (upd g (288 + r) c) (291 + r) y) (291 + r) ph (291 + j) := by
  intro j hj
  by_cases q : j = r
  · subst q
    refine ⟨?_, ?_⟩
    · rw [pk_un (by omega), pk_us, pk_un (by omega), pk_un (by omega), pk_us]
    · rw [pk_us, pk_us]
  · obtain ⟨e1, e2⟩ := ip j (by omega)
    refine ⟨?_, ?_⟩
    · rw [pk_un (by omega), pk_un (by omega), pk_un (by omega), pk_un (by omega), pk_un (by omega)]; exact e1
    · rw [pk_un (by omega), pk_un (by omega), pk_un (by omega), pk_un (by omega), pk_un (by omega)]; exact e2
theorem n_pp_o {g : Nat → Int32} {r k : Nat} {c y ph : Int32} (h1 : ¬ k = 288 + r) (h2 : ¬ k = 291 + r) : upd (upd (upd g (288 + r) c) (291 + r) y) (291 + r) ph k = g k := by
  rw [pk_un h2, pk_un h2, pk_un h1]
theorem n_pp_e {pg g : Nat → Int32} {x y z : Int32} (ip : ∀ j, j < 3 → pg j = g (288 + j) ∧ pg (3 + j) = g (291 + j)) : n_pp (upd (upd (upd g (382 + 0) x) (382 + 1) y) (382 + 2) z) (upd (upd pg 6 x) 7 y) := by
  refine ⟨fun r hr => ?_, ?_, ?_⟩
  · obtain ⟨e1, e2⟩ := ip r hr
    refine ⟨?_, ?_⟩
    · rw [pk_un (by omega), pk_un (by omega), pk_un (by omega), pk_un (by omega), pk_un (by omega)]; exact e1
    · rw [pk_un (by omega), pk_un (by omega), pk_un (by omega), pk_un (by omega), pk_un (by omega)]; exact e2
  · rw [pk_un (by decide), pk_us, pk_un (by decide), pk_un (by decide), pk_us]
  · rw [pk_us, pk_un (by decide), pk_us]
theorem n_set_o {g : Nat → Int32} {x y z : Int32} {k : Nat} (h : k < 382) : upd (upd (upd g (382 + 0) x) (382 + 1) y) (382 + 2) z k = g k := by
  rw [pk_un (by omega), pk_un (by omega), pk_un (by omega)]

set_option maxHeartbeats 4000000 in
set_option maxRecDepth 100000 in
theorem c_L_wires (l : Launch) (dC : Nat → ClassId) (dI : Nat → Nat → Nat) (cI : ClassId) (sb sL : Nat) (xs : Nat → Int32) (sz : Nat) (oX : Nat) (oS : Nat) (oR : Nat) (oN : Nat) (o2 : Nat) (oF : Nat) (oT : Nat) (rv : Nat) (rs : Nat) (kc : Nat) (v : Nat → Int32) (sv : Nat → Int32) (h0 : ∀ j, j < 288 → v j = 0) (hkc : kc ≤ 6) (hL : sL ≤ 260) : Met l yL_wires wsL_wires ({ frames := 3, cells := 0, slots := 0, locals := 85 }) (kq_MX dC dI cI sb sL xs [.ref oX, .ref sb] sz [(oX, .inr (5, [.ref oS, .ref oR, .ref oN, .ref o2, .ref oF, .ref oT])), (oS, .inr (3, [.ref rv, .ref rs, .int (nI kc)])), (rv, .inl (cI, 385, .inl v)), (rs, .inl (cI, 2310, .inl sv))]) (va_Qi (fun (r : Int32) (u : (Nat → Int32) × (Nat → Int32) × Nat) => r = 1 ∧ u.2.2 ≤ 6 ∧ ∀ j, u.1 j = if j < 288 then n_w sL xs j else v j) (kq_B dC dI (va_A [(oX, .inr (5, [.ref oS, .ref oR, .ref oN, .ref o2, .ref oF, .ref oT])), (oS, .inr (3, [.ref rv, .ref rs, .int (nI kc)])), (rv, .inl (cI, 385, .inl v)), (rs, .inl (cI, 2310, .inl sv))] sz) (fun u : (Nat → Int32) × (Nat → Int32) × Nat => [(oX, .inr (5, [.ref oS, .ref oR, .ref oN, .ref o2, .ref oF, .ref oT])), (oS, .inr (3, [.ref rv, .ref rs, .int (nI u.2.2)])), (rv, .inl (cI, 385, .inl u.1)), (rs, .inl (cI, 2310, .inl u.2.1))])) (va_A [(oX, .inr (5, [.ref oS, .ref oR, .ref oN, .ref o2, .ref oF, .ref oT])), (oS, .inr (3, [.ref rv, .ref rs, .int (nI kc)])), (rv, .inl (cI, 385, .inl v)), (rs, .inl (cI, 2310, .inl sv))] sz)) 0 0 (va_A [(oX, .inr (5, [.ref oS, .ref oR, .ref oN, .ref o2, .ref oF, .ref oT])), (oS, .inr (3, [.ref rv, .ref rs, .int (nI kc)])), (rv, .inl (cI, 385, .inl v)), (rs, .inl (cI, 2310, .inl sv))] sz) := by
  refine kq_startMX (cc := cL_wires) (maxL := 7) (ret := (some .boolean)) (by decide) rfl (Nat.le_of_ble_eq_true rfl) ?_
  intro p e s m below meth c hx hb hr hml hown hlocks hts hsz hA hP hD hS hK hnm hX hbl hbA ls hl
  subst hsz
  generalize hAe : va_A [(oX, .inr (5, [.ref oS, .ref oR, .ref oN, .ref o2, .ref oF, .ref oT])), (oS, .inr (3, [.ref rv, .ref rs, .int (nI kc)])), (rv, .inl (cI, 385, .inl v)), (rs, .inl (cI, 2310, .inl sv))] s.heap.size = A at hA hD hS hbA ⊢
  have hown : s.vm.findClass RL = some m.cls := hown
  have hl : lv_has ls 7 [(0, .ref oX), (1, .ref sb)] := hl
  refine lv_iconst (v := 0) hx hb dL_wires_0 (by decide) ?_
  refine lv_istore_n (lv' := [(2, .int 0), (0, .ref oX), (1, .ref sb)]) hx hb dL_wires_1 rfl hl (by decide) rfl (fun ls hl => ?_)
  refine kq_loopM4 (A1 := Nat) (A2 := Nat → Int32) (A3 := Nat → Int32) (A4 := Nat) (fun (k : Nat) (g : Nat → Int32) (sg : Nat → Int32) (kn : Nat) => 288 - k) (fun (k : Nat) (g : Nat → Int32) (sg : Nat → Int32) (kn : Nat) => (k ≤ 288 ∧ kn ≤ 6) ∧ (∀ j, g j = if j < k then n_w sL xs j else v j)) (fun (k : Nat) (g : Nat → Int32) (sg : Nat → Int32) (kn : Nat) => [(0, .ref oX), (1, .ref sb), (2, .int (nI k))]) (fun (k : Nat) (g : Nat → Int32) (sg : Nat → Int32) (kn : Nat) => [(oX, .inr (5, [.ref oS, .ref oR, .ref oN, .ref o2, .ref oF, .ref oT])), (oS, .inr (3, [.ref rv, .ref rs, .int (nI kn)])), (rv, .inl (cI, 385, .inl g)), (rs, .inl (cI, 2310, .inl sg))]) (nL := 7) hK ?_ 0 v sv kc ⟨(by omega), (by intro j; rw [if_neg (by omega)])⟩ hP hD hS _ (lv_sub hl [1, 2, 0] rfl)
  intro k g sg kn hi_2 ih_1 H locs hP hD hS ls hl
  obtain ⟨ik, ig⟩ := hi_2
  have hl : lv_has ls 7 [(0, .ref oX), (1, .ref sb), (2, .int (nI k))] := hl
  have hP : va_P (dC, dI) vwCl [(oX, .inr (5, [.ref oS, .ref oR, .ref oN, .ref o2, .ref oF, .ref oT])), (oS, .inr (3, [.ref rv, .ref rs, .int (nI kn)])), (rv, .inl (cI, 385, .inl g)), (rs, .inl (cI, 2310, .inl sg))] H := hP
  have hD : va_D A [(oX, .inr (5, [.ref oS, .ref oR, .ref oN, .ref o2, .ref oF, .ref oT])), (oS, .inr (3, [.ref rv, .ref rs, .int (nI kn)])), (rv, .inl (cI, 385, .inl g)), (rs, .inl (cI, 2310, .inl sg))] := hD
  refine lv_iload_n hx hb dL_wires_2 rfl (lv_at hl 2 rfl) ?_
  refine lv_sipush (v := 288) hx hb dL_wires_3 (by decide) ?_
  refine lv_icmp_ge (tgt := 69) hx hb dL_wires_6 (by decide) (fun c_3 => ?_) (fun c_3 => ?_)
  · skip
    have c_3 := kq_leN (a := 288) (b := k) c_3 (by omega) (by omega)
    refine lv_iconst (v := 1) hx hb dL_wires_69 (by decide) ?_
    exact kq_retMz (g, sg, kn) hx hb hr hlocks hP hD hS dL_wires_70 (Or.inr rfl) (by dsimp only; exact ⟨rfl, ik.2, fun j => by rw [ig j, show k = 288 by omega]⟩)
  · skip
    have c_3 := kq_nleN (a := 288) (b := k) c_3 (by omega) (by omega)
    have hkk : (k / 96 * 6 + k / 16 % 6) * 16 + k % 16 = k := by omega
    refine lv_iload_n hx hb dL_wires_9 rfl (lv_at hl 2 rfl) ?_
    refine lv_bipush (v := 96) hx hb dL_wires_10 (by decide) ?_
    refine lv_idiv hx hb dL_wires_12 (nI_ne0 (n := 96) (by omega) (by omega)) ?_
    refine kq_top (z := nI (k / 96)) (pk_div (a := k) (d := 96) (by omega) (by omega) (by omega)) ?_
    refine lv_istore_n (lv' := [(3, .int (nI (k / 96))), (0, .ref oX), (1, .ref sb), (2, .int (nI k))]) hx hb dL_wires_13 rfl hl (by decide) rfl (fun ls hl => ?_)
    refine lv_iload_n hx hb dL_wires_14 rfl (lv_at hl 3 rfl) ?_
    refine lv_bipush (v := 16) hx hb dL_wires_15 (by decide) ?_
    refine lv_idiv hx hb dL_wires_17 (nI_ne0 (n := 16) (by omega) (by omega)) ?_
    refine kq_top (z := nI (k / 16)) (pk_div (a := k) (d := 16) (by omega) (by omega) (by omega)) ?_
    refine lv_bipush (v := 6) hx hb dL_wires_18 (by decide) ?_
    refine lv_irem hx hb dL_wires_20 (nI_ne0 (n := 6) (by omega) (by omega)) ?_
    refine kq_top (z := nI ((k / 16) % 6)) (pk_rem (a := (k / 16)) (d := 6) (by omega) (by omega) (by omega)) ?_
    refine lv_istore (lv' := [(4, .int (nI ((k / 16) % 6))), (3, .int (nI (k / 96))), (0, .ref oX), (1, .ref sb), (2, .int (nI k))]) hx hb dL_wires_21 hl (by decide) rfl (fun ls hl => ?_)
    refine lv_iload_n hx hb dL_wires_23 rfl (lv_at hl 4 rfl) ?_
    refine lv_bipush (v := 16) hx hb dL_wires_24 (by decide) ?_
    refine lv_irem hx hb dL_wires_26 (nI_ne0 (n := 16) (by omega) (by omega)) ?_
    refine kq_top (z := nI (k % 16)) (pk_rem (a := k) (d := 16) (by omega) (by omega) (by omega)) ?_
    refine lv_istore (lv' := [(5, .int (nI (k % 16))), (4, .int (nI ((k / 16) % 6))), (3, .int (nI (k / 96))), (0, .ref oX), (1, .ref sb), (2, .int (nI k))]) hx hb dL_wires_27 hl (by decide) rfl (fun ls hl => ?_)
    refine lv_aload_n hx hb dL_wires_29 rfl (lv_at hl 4 rfl) ?_
    refine lv_iload_n hx hb dL_wires_30 rfl (lv_at hl 2 rfl) ?_
    refine lv_iload hx hb dL_wires_31 (lv_at hl 1 rfl) ?_
    refine lv_iload hx hb dL_wires_33 (lv_at hl 0 rfl) ?_
    refine kq_cSX (As := [.ref sb, .int (nI (k / 96)), .int (nI ((k / 16) % 6)), .int (nI (k % 16))]) (rest := []) ⟨hx, hb, hml, hown, hts⟩ (c_L_height l dC dI cI sb sL xs (k / 96) ((k / 16) % 6) (k % 16) (by first | assumption | omega) (by first | assumption | omega) (by first | assumption | omega) (by first | assumption | omega)) (va_cwS 4 hts gL_wires_L_height rfl rfl rfl (by decide +kernel) ⟨Nat.le_of_ble_eq_true rfl, Nat.le_of_ble_eq_true rfl⟩) (hP.sub [] rfl) (kq_xk hX hbl hbA hS) hK rfl hl.1 rfl (Nat.le_of_ble_eq_true rfl) dL_wires_35 ⟨Nat.le_of_ble_eq_true rfl, Nat.le_of_ble_eq_true rfl⟩ ?_
    refine kq_top (z := n_w sL xs k) (by rw [hkk]) ?_
    refine lv_istore (lv' := [(6, .int (n_w sL xs k)), (5, .int (nI (k % 16))), (4, .int (nI ((k / 16) % 6))), (3, .int (nI (k / 96))), (0, .ref oX), (1, .ref sb), (2, .int (nI k))]) hx hb dL_wires_38 hl (by decide) rfl (fun ls hl => ?_)
    refine lv_iload hx hb dL_wires_40 (lv_at hl 0 rfl) ?_
    refine lv_if_eq (tgt := 63) hx hb dL_wires_42 (by decide) (fun c_4 => ?_) (fun c_4 => ?_)
    · skip
      have hz9 := c_4
      refine lv_iinc (v := nI (k + 1)) (lv' := [(2, .int (nI (k + 1))), (6, .int (n_w sL xs k)), (5, .int (nI (k % 16))), (4, .int (nI ((k / 16) % 6))), (3, .int (nI (k / 96))), (0, .ref oX), (1, .ref sb)]) hx hb dL_wires_63 hl (k := 6) rfl (nI_1 k) (by decide) rfl (fun ls hl => ?_)
      refine lv_goto (tgt := 2) hx hb dL_wires_66 (by decide) ?_
      exact ih_1 (k + 1) g sg kn ⟨(by omega), (by intro j; by_cases q : j = k; (subst q; rw [if_pos (by omega)]; first | exact pk_us | (rw [ig j, if_neg (by omega), hz9]; exact h0 j (by omega))); (first | rw [pk_un q, ig j] | rw [ig j]); by_cases q2 : j < k; rw [if_pos q2, if_pos (by omega)]; rw [if_neg q2, if_neg (by omega)])⟩ (by show 288 - (k + 1) < 288 - k; omega) _ _ hP hD hS _ (lv_sub hl [5, 6, 0] rfl)
    · skip
      refine lv_aload_n hx hb dL_wires_45 rfl (lv_at hl 4 rfl) ?_
      refine lv_iload_n hx hb dL_wires_46 rfl (lv_at hl 3 rfl) ?_
      refine lv_iload hx hb dL_wires_47 (lv_at hl 2 rfl) ?_
      refine lv_iload hx hb dL_wires_49 (lv_at hl 1 rfl) ?_
      refine lv_iload hx hb dL_wires_51 (lv_at hl 0 rfl) ?_
      refine kq_callMi (wr := []) (va_runV (As := [.int (nI (k / 96)), .int (nI ((k / 16) % 6)), .int (nI (k % 16)), .int (n_w sL xs k)]) (rest := []) ⟨hx, hb, hml, hown, hts⟩ (c_X5_wire l dC dI cI H.size oX oS oR oN o2 oF oT rv rs kn g sg (k / 96) ((k / 16) % 6) (k % 16) (n_w sL xs k) (by first | assumption | omega) (by first | assumption | omega) (by first | assumption | omega) (by first | assumption | omega) (n_w_b k)) (cwV 4 hts gL_wires_X5_wire rfl rfl rfl (by decide +kernel) ⟨Nat.le_of_ble_eq_true rfl, Nat.le_of_ble_eq_true rfl⟩) (kq_preV (ci := 5) (q0 := 0) (hP.sub [0, 1, 2, 3] rfl) (hD.sub [0, 1, 2, 3] (by decide) rfl) hK rfl rfl) rfl rfl hl.1 rfl (lv_room (Nat.le_of_ble_eq_true rfl)) dL_wires_53 ⟨Nat.le_of_ble_eq_true rfl, Nat.le_of_ble_eq_true rfl⟩) hP hD hS hA [0, 1, 2, 3] [] rfl rfl (by decide) (by decide) (fun r_5 u_6 H locs hw_7 hP hD hS => ?_)
      have hP : va_P (dC, dI) vwCl [(oX, .inr (5, [.ref oS, .ref oR, .ref oN, .ref o2, .ref oF, .ref oT])), (oS, .inr (3, [.ref rv, .ref rs, .int (nI (min (kn + 1) 6))])), (rv, .inl (cI, 385, .inl (upd g (((k / 96) * 6 + ((k / 16) % 6)) * 16 + (k % 16)) (n_w sL xs k)))), (rs, .inl (cI, 2310, .inl (n_push g sg)))] H := hP
      have hD : va_D A [(oX, .inr (5, [.ref oS, .ref oR, .ref oN, .ref o2, .ref oF, .ref oT])), (oS, .inr (3, [.ref rv, .ref rs, .int (nI (min (kn + 1) 6))])), (rv, .inl (cI, 385, .inl (upd g (((k / 96) * 6 + ((k / 16) % 6)) * 16 + (k % 16)) (n_w sL xs k)))), (rs, .inl (cI, 2310, .inl (n_push g sg)))] := hD
      obtain rfl := hw_7
      rw [hkk] at hP hD
      have hP : va_P (dC, dI) vwCl [(oX, .inr (5, [.ref oS, .ref oR, .ref oN, .ref o2, .ref oF, .ref oT])), (oS, .inr (3, [.ref rv, .ref rs, .int (nI (min (kn + 1) 6))])), (rv, .inl (cI, 385, .inl (upd g k (n_w sL xs k)))), (rs, .inl (cI, 2310, .inl (n_push g sg)))] H := hP
      have hD : va_D A [(oX, .inr (5, [.ref oS, .ref oR, .ref oN, .ref o2, .ref oF, .ref oT])), (oS, .inr (3, [.ref rv, .ref rs, .int (nI (min (kn + 1) 6))])), (rv, .inl (cI, 385, .inl (upd g k (n_w sL xs k)))), (rs, .inl (cI, 2310, .inl (n_push g sg)))] := hD
      refine lv_bipush (v := 100) hx hb dL_wires_56 (by decide) ?_
      refine lv_icmp_eq (tgt := 63) hx hb dL_wires_58 (by decide) (fun c_8 => ?_) (fun c_8 => ?_)
      · skip
        refine lv_iinc (v := nI (k + 1)) (lv' := [(2, .int (nI (k + 1))), (6, .int (n_w sL xs k)), (5, .int (nI (k % 16))), (4, .int (nI ((k / 16) % 6))), (3, .int (nI (k / 96))), (0, .ref oX), (1, .ref sb)]) hx hb dL_wires_63 hl (k := 6) rfl (nI_1 k) (by decide) rfl (fun ls hl => ?_)
        refine lv_goto (tgt := 2) hx hb dL_wires_66 (by decide) ?_
        exact ih_1 (k + 1) (upd g k (n_w sL xs k)) (n_push g sg) (min (kn + 1) 6) ⟨(by omega), (by intro j; by_cases q : j = k; (subst q; rw [if_pos (by omega)]; first | exact pk_us | (rw [ig j, if_neg (by omega), hz9]; exact h0 j (by omega))); (first | rw [pk_un q, ig j] | rw [ig j]); by_cases q2 : j < k; rw [if_pos q2, if_pos (by omega)]; rw [if_neg q2, if_neg (by omega)])⟩ (by show 288 - (k + 1) < 288 - k; omega) _ _ hP hD hS _ (lv_sub hl [5, 6, 0] rfl)
      · skip
        exact absurd (by rw [hkk, ig k, if_neg (Nat.lt_irrefl k), h0 k (by omega)]; rfl) c_8
set_option maxHeartbeats 8000000 in
set_option maxRecDepth 100000 in
theorem c_L_setUp (l : Launch) (dC : Nat → ClassId) (dI : Nat → Nat → Nat) (cI : ClassId) (sb sL : Nat) (xs : Nat → Int32) (sz : Nat) (oX : Nat) (oS : Nat) (oR : Nat) (oN : Nat) (o2 : Nat) (oF : Nat) (oT : Nat) (rv : Nat) (rs : Nat) (kc : Nat) (v : Nat → Int32) (sv : Nat → Int32) (pa : Nat) (pf : Nat → Int32) (hI : n_I v) (h12 : ∀ r, r < 3 → v (288 + r) = 12 ∧ v (291 + r) = 0) (hse : v 382 = 0 ∧ v 383 = 12 ∧ v 384 = 2) (hkc : kc ≤ 6) (hL : sL ≤ 260) : Met l yL_setUp wsL_setUp ({ frames := 4, cells := 0, slots := 0, locals := 89 }) (kq_MX dC dI cI sb sL xs [.ref oX, .ref sb, .ref pa] sz [(oX, .inr (5, [.ref oS, .ref oR, .ref oN, .ref o2, .ref oF, .ref oT])), (oS, .inr (3, [.ref rv, .ref rs, .int (nI kc)])), (rv, .inl (cI, 385, .inl v)), (rs, .inl (cI, 2310, .inl sv)), (oR, .inr (2, [.ref oS])), (pa, .inl (cI, 8, .inl pf))]) (va_Qi (fun (r : Int32) (u : (Nat → Int32) × (Nat → Int32) × Nat × (Nat → Int32)) => r = 1 ∧ u.2.2.1 ≤ 6 ∧ n_I u.1 ∧ n_pp u.1 u.2.2.2 ∧ ∀ j, j < 288 → u.1 j = v j) (kq_B dC dI (va_A [(oX, .inr (5, [.ref oS, .ref oR, .ref oN, .ref o2, .ref oF, .ref oT])), (oS, .inr (3, [.ref rv, .ref rs, .int (nI kc)])), (rv, .inl (cI, 385, .inl v)), (rs, .inl (cI, 2310, .inl sv)), (oR, .inr (2, [.ref oS])), (pa, .inl (cI, 8, .inl pf))] sz) (fun u : (Nat → Int32) × (Nat → Int32) × Nat × (Nat → Int32) => [(oX, .inr (5, [.ref oS, .ref oR, .ref oN, .ref o2, .ref oF, .ref oT])), (oS, .inr (3, [.ref rv, .ref rs, .int (nI u.2.2.1)])), (rv, .inl (cI, 385, .inl u.1)), (rs, .inl (cI, 2310, .inl u.2.1)), (oR, .inr (2, [.ref oS])), (pa, .inl (cI, 8, .inl u.2.2.2))])) (va_A [(oX, .inr (5, [.ref oS, .ref oR, .ref oN, .ref o2, .ref oF, .ref oT])), (oS, .inr (3, [.ref rv, .ref rs, .int (nI kc)])), (rv, .inl (cI, 385, .inl v)), (rs, .inl (cI, 2310, .inl sv)), (oR, .inr (2, [.ref oS])), (pa, .inl (cI, 8, .inl pf))] sz)) 0 0 (va_A [(oX, .inr (5, [.ref oS, .ref oR, .ref oN, .ref o2, .ref oF, .ref oT])), (oS, .inr (3, [.ref rv, .ref rs, .int (nI kc)])), (rv, .inl (cI, 385, .inl v)), (rs, .inl (cI, 2310, .inl sv)), (oR, .inr (2, [.ref oS])), (pa, .inl (cI, 8, .inl pf))] sz) := by
  refine kq_startMX (cc := cL_setUp) (maxL := 7) (ret := (some .boolean)) (by decide) rfl (Nat.le_of_ble_eq_true rfl) ?_
  intro p e s m below meth c hx hb hr hml hown hlocks hts hsz hA hP hD hS hK hnm hX hbl hbA ls hl
  subst hsz
  generalize hAe : va_A [(oX, .inr (5, [.ref oS, .ref oR, .ref oN, .ref o2, .ref oF, .ref oT])), (oS, .inr (3, [.ref rv, .ref rs, .int (nI kc)])), (rv, .inl (cI, 385, .inl v)), (rs, .inl (cI, 2310, .inl sv)), (oR, .inr (2, [.ref oS])), (pa, .inl (cI, 8, .inl pf))] s.heap.size = A at hA hD hS hbA ⊢
  have hown : s.vm.findClass RL = some m.cls := hown
  have hl : lv_has ls 7 [(0, .ref oX), (1, .ref sb), (2, .ref pa)] := hl
  refine lv_iconst (v := 1) hx hb dL_setUp_0 (by decide) ?_
  refine lv_istore_n (lv' := [(3, .int 1), (0, .ref oX), (1, .ref sb), (2, .ref pa)]) hx hb dL_setUp_1 rfl hl (by decide) rfl (fun ls hl => ?_)
  refine lv_iconst (v := 0) hx hb dL_setUp_2 (by decide) ?_
  refine lv_istore (lv' := [(4, .int 0), (3, .int 1), (0, .ref oX), (1, .ref sb), (2, .ref pa)]) hx hb dL_setUp_3 hl (by decide) rfl (fun ls hl => ?_)
  refine kq_loopM5 (A1 := Nat) (A2 := Nat → Int32) (A3 := Nat → Int32) (A4 := Nat) (A5 := Nat → Int32) (fun (r : Nat) (g : Nat → Int32) (sg : Nat → Int32) (kn : Nat) (pg : Nat → Int32) => 3 - r) (fun (r : Nat) (g : Nat → Int32) (sg : Nat → Int32) (kn : Nat) (pg : Nat → Int32) => (r ≤ 3 ∧ kn ≤ 6) ∧ (n_I g) ∧ (∀ j, j < 288 → g j = v j) ∧ (∀ j, r ≤ j → j < 3 → g (288 + j) = 12 ∧ g (291 + j) = 0) ∧ (∀ j, j < r → pg j = g (288 + j) ∧ pg (3 + j) = g (291 + j)) ∧ (g 382 = 0 ∧ g 383 = 12 ∧ g 384 = 2)) (fun (r : Nat) (g : Nat → Int32) (sg : Nat → Int32) (kn : Nat) (pg : Nat → Int32) => [(0, .ref oX), (1, .ref sb), (2, .ref pa), (3, .int 1), (4, .int (nI r))]) (fun (r : Nat) (g : Nat → Int32) (sg : Nat → Int32) (kn : Nat) (pg : Nat → Int32) => [(oX, .inr (5, [.ref oS, .ref oR, .ref oN, .ref o2, .ref oF, .ref oT])), (oS, .inr (3, [.ref rv, .ref rs, .int (nI kn)])), (rv, .inl (cI, 385, .inl g)), (rs, .inl (cI, 2310, .inl sg)), (oR, .inr (2, [.ref oS])), (pa, .inl (cI, 8, .inl pg))]) (nL := 7) hK ?_ 0 v sv kc pf ⟨(by omega), (by exact hI), (by intro j _; rfl), (by intro j _ hj; exact h12 j hj), (by intro j hj; exact absurd hj (Nat.not_lt_zero j)), (by exact hse)⟩ hP hD hS _ (lv_sub hl [2, 3, 4, 1, 0] rfl)
  intro r g sg kn pg hi_2 ih_1 H locs hP hD hS ls hl
  obtain ⟨ir, iI, iw, i0, ip, is⟩ := hi_2
  have hl : lv_has ls 7 [(0, .ref oX), (1, .ref sb), (2, .ref pa), (3, .int 1), (4, .int (nI r))] := hl
  have hP : va_P (dC, dI) vwCl [(oX, .inr (5, [.ref oS, .ref oR, .ref oN, .ref o2, .ref oF, .ref oT])), (oS, .inr (3, [.ref rv, .ref rs, .int (nI kn)])), (rv, .inl (cI, 385, .inl g)), (rs, .inl (cI, 2310, .inl sg)), (oR, .inr (2, [.ref oS])), (pa, .inl (cI, 8, .inl pg))] H := hP
  have hD : va_D A [(oX, .inr (5, [.ref oS, .ref oR, .ref oN, .ref o2, .ref oF, .ref oT])), (oS, .inr (3, [.ref rv, .ref rs, .int (nI kn)])), (rv, .inl (cI, 385, .inl g)), (rs, .inl (cI, 2310, .inl sg)), (oR, .inr (2, [.ref oS])), (pa, .inl (cI, 8, .inl pg))] := hD
  refine lv_iload hx hb dL_setUp_5 (lv_at hl 4 rfl) ?_
  refine lv_iconst (v := 3) hx hb dL_setUp_7 (by decide) ?_
  refine lv_icmp_ge (tgt := 178) hx hb dL_setUp_8 (by decide) (fun c_3 => ?_) (fun c_3 => ?_)
  · skip
    have c_3 := kq_leN (a := 3) (b := r) c_3 (by omega) (by omega)
    refine lv_aload_n hx hb dL_setUp_178 rfl (lv_at hl 1 rfl) ?_
    refine lv_bipush (v := 66) hx hb dL_setUp_179 (by decide) ?_
    refine kq_cSX (As := [.ref sb, .int 66]) (rest := []) ⟨hx, hb, hml, hown, hts⟩ (c_L_cell l dC dI cI sb sL xs 66 (by first | assumption | omega) (by first | assumption | omega)) (va_cwS 2 hts gL_setUp_L_cell rfl rfl rfl (by decide +kernel) ⟨Nat.le_of_ble_eq_true rfl, Nat.le_of_ble_eq_true rfl⟩) (hP.sub [] rfl) (kq_xk hX hbl hbA hS) hK rfl hl.1 rfl (Nat.le_of_ble_eq_true rfl) dL_setUp_181 ⟨Nat.le_of_ble_eq_true rfl, Nat.le_of_ble_eq_true rfl⟩ ?_
    have hA9 : (n_lw (n_ce sL xs 66) 100) < 100 := n_lw_lt (by decide)
    have hB9 := n_cq_b (n_ce sL xs 66)
    have hl2 : n_lw ((n_ce sL xs 66) >>> (7 &&& 31)) 2 < 2 := n_lw_lt (by decide)
    have hl4 : n_lw ((n_ce sL xs 66) >>> (17 &&& 31)) 2 < 2 := n_lw_lt (by decide)
    have hq3 : n_lw ((n_ce sL xs 66) >>> (13 &&& 31)) 3 < 3 := n_lw_lt (by decide)
    have hq9 : n_lw ((n_ce sL xs 66) >>> (13 &&& 31)) 9 < 9 := n_lw_lt (by decide)
    have hsA := n_set0 (a := (n_lw (n_ce sL xs 66) 100)) (by omega)
    have hsB := n_set1 hB9
    have hI3 := n_I_set iI (k := 0) (by decide) hsA
    have hI4 := n_I_set hI3 (k := 1) (by decide) hsB
    refine lv_istore (lv' := [(4, .int (n_ce sL xs 66)), (0, .ref oX), (1, .ref sb), (2, .ref pa), (3, .int 1)]) hx hb dL_setUp_184 hl (by decide) rfl (fun ls hl => ?_)
    refine lv_aload_n hx hb dL_setUp_186 rfl (lv_at hl 3 rfl) ?_
    refine lv_bipush (v := 6) hx hb dL_setUp_187 (by decide) ?_
    refine lv_iload hx hb dL_setUp_189 (lv_at hl 0 rfl) ?_
    refine lv_bipush (v := 100) hx hb dL_setUp_191 (by decide) ?_
    refine kq_cS (As := [.int (n_ce sL xs 66), .int 100]) (rest := [.int 6, .ref pa]) ⟨hx, hb, hml, hown, hts⟩ (c_L_low l dC dI cI (n_ce sL xs 66) 100 (by first | assumption | omega) (by first | assumption | omega)) (va_cwS 2 hts gL_setUp_L_low rfl rfl rfl (by decide +kernel) ⟨Nat.le_of_ble_eq_true rfl, Nat.le_of_ble_eq_true rfl⟩) (hP.sub [] rfl) hK rfl hl.1 rfl (Nat.le_of_ble_eq_true rfl) dL_setUp_193 ⟨Nat.le_of_ble_eq_true rfl, Nat.le_of_ble_eq_true rfl⟩ ?_
    refine va_iast hx hb hK.1 hP hD hS 5 0 rfl rfl (vp_in_nI (show 6 < 8 from by omega) (by omega)) dL_setUp_196 (fun H locs hP hD hS => ?_)
    rw [show Int32.toNatClampNeg 6 = 6 by decide] at hP hD
    have hP : va_P (dC, dI) vwCl [(oX, .inr (5, [.ref oS, .ref oR, .ref oN, .ref o2, .ref oF, .ref oT])), (oS, .inr (3, [.ref rv, .ref rs, .int (nI kn)])), (rv, .inl (cI, 385, .inl g)), (rs, .inl (cI, 2310, .inl sg)), (oR, .inr (2, [.ref oS])), (pa, .inl (cI, 8, .inl (upd pg 6 (nI (n_lw (n_ce sL xs 66) 100)))))] H := hP
    have hD : va_D A [(oX, .inr (5, [.ref oS, .ref oR, .ref oN, .ref o2, .ref oF, .ref oT])), (oS, .inr (3, [.ref rv, .ref rs, .int (nI kn)])), (rv, .inl (cI, 385, .inl g)), (rs, .inl (cI, 2310, .inl sg)), (oR, .inr (2, [.ref oS])), (pa, .inl (cI, 8, .inl (upd pg 6 (nI (n_lw (n_ce sL xs 66) 100)))))] := hD
    refine lv_aload_n hx hb dL_setUp_197 rfl (lv_at hl 3 rfl) ?_
    refine lv_bipush (v := 7) hx hb dL_setUp_198 (by decide) ?_
    refine lv_iload hx hb dL_setUp_200 (lv_at hl 0 rfl) ?_
    refine lv_bipush (v := 7) hx hb dL_setUp_202 (by decide) ?_
    refine lv_ishr hx hb dL_setUp_204 ?_
    refine lv_iconst (v := 2) hx hb dL_setUp_205 (by decide) ?_
    refine kq_cS (As := [.int ((n_ce sL xs 66) >>> (7 &&& 31)), .int 2]) (rest := [.int 7, .ref pa]) ⟨hx, hb, hml, hown, hts⟩ (c_L_low l dC dI cI ((n_ce sL xs 66) >>> (7 &&& 31)) 2 (by first | assumption | omega) (by first | assumption | omega)) (va_cwS 2 hts gL_setUp_L_low rfl rfl rfl (by decide +kernel) ⟨Nat.le_of_ble_eq_true rfl, Nat.le_of_ble_eq_true rfl⟩) (hP.sub [] rfl) hK rfl hl.1 rfl (Nat.le_of_ble_eq_true rfl) dL_setUp_206 ⟨Nat.le_of_ble_eq_true rfl, Nat.le_of_ble_eq_true rfl⟩ ?_
    refine kq_join (nL := 7) (L := [(4, .int (n_ce sL xs 66)), (0, .ref oX), (1, .ref sb), (2, .ref pa), (3, .int 1)]) (st := [.int (nI (n_cq (n_ce sL xs 66))), .int 7, .ref pa]) (J := 230) ?_ (fun hJ_4 => ?_)
    · intro ls hl
      have hl : lv_has ls 7 [(4, .int (n_ce sL xs 66)), (0, .ref oX), (1, .ref sb), (2, .ref pa), (3, .int 1)] := hl
      refine va_iast hx hb hK.1 hP hD hS 5 0 rfl rfl (vp_in_nI (show 7 < 8 from by omega) (by omega)) dL_setUp_230 (fun H locs hP hD hS => ?_)
      rw [show Int32.toNatClampNeg 7 = 7 by decide] at hP hD
      have hP : va_P (dC, dI) vwCl [(oX, .inr (5, [.ref oS, .ref oR, .ref oN, .ref o2, .ref oF, .ref oT])), (oS, .inr (3, [.ref rv, .ref rs, .int (nI kn)])), (rv, .inl (cI, 385, .inl g)), (rs, .inl (cI, 2310, .inl sg)), (oR, .inr (2, [.ref oS])), (pa, .inl (cI, 8, .inl (upd (upd pg 6 (nI (n_lw (n_ce sL xs 66) 100))) 7 (nI (n_cq (n_ce sL xs 66))))))] H := hP
      have hD : va_D A [(oX, .inr (5, [.ref oS, .ref oR, .ref oN, .ref o2, .ref oF, .ref oT])), (oS, .inr (3, [.ref rv, .ref rs, .int (nI kn)])), (rv, .inl (cI, 385, .inl g)), (rs, .inl (cI, 2310, .inl sg)), (oR, .inr (2, [.ref oS])), (pa, .inl (cI, 8, .inl (upd (upd pg 6 (nI (n_lw (n_ce sL xs 66) 100))) 7 (nI (n_cq (n_ce sL xs 66))))))] := hD
      refine lv_iload_n hx hb dL_setUp_231 rfl (lv_at hl 4 rfl) ?_
      refine lv_if_eq (tgt := 302) hx hb dL_setUp_232 (by decide) (fun q => absurd q (by decide)) (fun _ => ?_)
      refine lv_aload_n hx hb dL_setUp_235 rfl (lv_at hl 1 rfl) ?_
      refine lv_iconst (v := 0) hx hb dL_setUp_236 (by decide) ?_
      refine lv_aload_n hx hb dL_setUp_237 rfl (lv_at hl 3 rfl) ?_
      refine lv_bipush (v := 6) hx hb dL_setUp_238 (by decide) ?_
      refine va_iald hx hb hK.1 hP 5 0 rfl rfl (vp_in_nI (show 6 < 8 from by omega) (by omega)) dL_setUp_240 ?_
      refine kq_top (z := (upd (upd pg 6 (nI (n_lw (n_ce sL xs 66) 100))) 7 (nI (n_cq (n_ce sL xs 66)))) 6) (congrArg (upd (upd pg 6 (nI (n_lw (n_ce sL xs 66) 100))) 7 (nI (n_cq (n_ce sL xs 66)))) (nI_clamp (Nat.lt_trans (show 6 < 8 from by omega) (by omega)))) ?_
      refine kq_top (z := nI (n_lw (n_ce sL xs 66) 100)) ((pk_un (by decide)).trans pk_us) ?_
      refine kq_callMi (wr := [(oR, .inr (2, [.ref oS])), (pa, .inl (cI, 8, .inl (upd (upd pg 6 (nI (n_lw (n_ce sL xs 66) 100))) 7 (nI (n_cq (n_ce sL xs 66))))))]) (va_runV (As := [.int 0, .int (nI (n_lw (n_ce sL xs 66) 100))]) (rest := []) ⟨hx, hb, hml, hown, hts⟩ (c_X5_set l dC dI cI H.size oX oS oR oN o2 oF oT rv rs kn g sg 0 (nI (n_lw (n_ce sL xs 66) 100)) (by first | assumption | omega) (by first | assumption | omega) (hsA)) (cwV 2 hts gL_setUp_X5_set rfl rfl rfl (by decide +kernel) ⟨Nat.le_of_ble_eq_true rfl, Nat.le_of_ble_eq_true rfl⟩) (kq_preV (ci := 5) (q0 := 0) (hP.sub [0, 1, 2, 3] rfl) (hD.sub [0, 1, 2, 3] (by decide) rfl) hK rfl rfl) rfl rfl hl.1 rfl (lv_room (Nat.le_of_ble_eq_true rfl)) dL_setUp_241 ⟨Nat.le_of_ble_eq_true rfl, Nat.le_of_ble_eq_true rfl⟩) hP hD hS hA [0, 1, 2, 3] [4, 5] rfl rfl (by decide) (by decide) (fun r_6 u_7 H locs hw_8 hP hD hS => ?_)
      have hP : va_P (dC, dI) vwCl [(oR, .inr (2, [.ref oS])), (pa, .inl (cI, 8, .inl (upd (upd pg 6 (nI (n_lw (n_ce sL xs 66) 100))) 7 (nI (n_cq (n_ce sL xs 66)))))), (oX, .inr (5, [.ref oS, .ref oR, .ref oN, .ref o2, .ref oF, .ref oT])), (oS, .inr (3, [.ref rv, .ref rs, .int (nI (min (kn + 1) 6))])), (rv, .inl (cI, 385, .inl (upd g (382 + 0) (nI (n_lw (n_ce sL xs 66) 100))))), (rs, .inl (cI, 2310, .inl (n_push g sg)))] H := hP
      have hD : va_D A [(oR, .inr (2, [.ref oS])), (pa, .inl (cI, 8, .inl (upd (upd pg 6 (nI (n_lw (n_ce sL xs 66) 100))) 7 (nI (n_cq (n_ce sL xs 66)))))), (oX, .inr (5, [.ref oS, .ref oR, .ref oN, .ref o2, .ref oF, .ref oT])), (oS, .inr (3, [.ref rv, .ref rs, .int (nI (min (kn + 1) 6))])), (rv, .inl (cI, 385, .inl (upd g (382 + 0) (nI (n_lw (n_ce sL xs 66) 100))))), (rs, .inl (cI, 2310, .inl (n_push g sg)))] := hD
      obtain rfl := hw_8
      refine lv_if_ne (tgt := 302) hx hb dL_setUp_244 (by decide) (fun c_9 => ?_) (fun c_9 => ?_)
      · skip
        exact absurd is.1 c_9
      · skip
        refine lv_aload_n hx hb dL_setUp_247 rfl (lv_at hl 1 rfl) ?_
        refine lv_iconst (v := 1) hx hb dL_setUp_248 (by decide) ?_
        refine lv_aload_n hx hb dL_setUp_249 rfl (lv_at hl 3 rfl) ?_
        refine lv_bipush (v := 7) hx hb dL_setUp_250 (by decide) ?_
        refine va_iald hx hb hK.1 hP 1 0 rfl rfl (vp_in_nI (show 7 < 8 from by omega) (by omega)) dL_setUp_252 ?_
        refine kq_top (z := (upd (upd pg 6 (nI (n_lw (n_ce sL xs 66) 100))) 7 (nI (n_cq (n_ce sL xs 66)))) 7) (congrArg (upd (upd pg 6 (nI (n_lw (n_ce sL xs 66) 100))) 7 (nI (n_cq (n_ce sL xs 66)))) (nI_clamp (Nat.lt_trans (show 7 < 8 from by omega) (by omega)))) ?_
        refine kq_top (z := nI (n_cq (n_ce sL xs 66))) (pk_us) ?_
        refine kq_callMi (wr := [(oR, .inr (2, [.ref oS])), (pa, .inl (cI, 8, .inl (upd (upd pg 6 (nI (n_lw (n_ce sL xs 66) 100))) 7 (nI (n_cq (n_ce sL xs 66))))))]) (va_runV (As := [.int 1, .int (nI (n_cq (n_ce sL xs 66)))]) (rest := []) ⟨hx, hb, hml, hown, hts⟩ (c_X5_set l dC dI cI H.size oX oS oR oN o2 oF oT rv rs (min (kn + 1) 6) (upd g (382 + 0) (nI (n_lw (n_ce sL xs 66) 100))) (n_push g sg) 1 (nI (n_cq (n_ce sL xs 66))) (by first | assumption | omega) (by first | assumption | omega) (hsB)) (cwV 2 hts gL_setUp_X5_set rfl rfl rfl (by decide +kernel) ⟨Nat.le_of_ble_eq_true rfl, Nat.le_of_ble_eq_true rfl⟩) (kq_preV (ci := 5) (q0 := 0) (hP.sub [2, 3, 4, 5] rfl) (hD.sub [2, 3, 4, 5] (by decide) rfl) hK rfl rfl) rfl rfl hl.1 rfl (lv_room (Nat.le_of_ble_eq_true rfl)) dL_setUp_253 ⟨Nat.le_of_ble_eq_true rfl, Nat.le_of_ble_eq_true rfl⟩) hP hD hS hA [2, 3, 4, 5] [0, 1] rfl rfl (by decide) (by decide) (fun r_10 u_11 H locs hw_12 hP hD hS => ?_)
        have hP : va_P (dC, dI) vwCl [(oR, .inr (2, [.ref oS])), (pa, .inl (cI, 8, .inl (upd (upd pg 6 (nI (n_lw (n_ce sL xs 66) 100))) 7 (nI (n_cq (n_ce sL xs 66)))))), (oX, .inr (5, [.ref oS, .ref oR, .ref oN, .ref o2, .ref oF, .ref oT])), (oS, .inr (3, [.ref rv, .ref rs, .int (nI (min ((min (kn + 1) 6) + 1) 6))])), (rv, .inl (cI, 385, .inl (upd (upd g (382 + 0) (nI (n_lw (n_ce sL xs 66) 100))) (382 + 1) (nI (n_cq (n_ce sL xs 66)))))), (rs, .inl (cI, 2310, .inl (n_push (upd g (382 + 0) (nI (n_lw (n_ce sL xs 66) 100))) (n_push g sg))))] H := hP
        have hD : va_D A [(oR, .inr (2, [.ref oS])), (pa, .inl (cI, 8, .inl (upd (upd pg 6 (nI (n_lw (n_ce sL xs 66) 100))) 7 (nI (n_cq (n_ce sL xs 66)))))), (oX, .inr (5, [.ref oS, .ref oR, .ref oN, .ref o2, .ref oF, .ref oT])), (oS, .inr (3, [.ref rv, .ref rs, .int (nI (min ((min (kn + 1) 6) + 1) 6))])), (rv, .inl (cI, 385, .inl (upd (upd g (382 + 0) (nI (n_lw (n_ce sL xs 66) 100))) (382 + 1) (nI (n_cq (n_ce sL xs 66)))))), (rs, .inl (cI, 2310, .inl (n_push (upd g (382 + 0) (nI (n_lw (n_ce sL xs 66) 100))) (n_push g sg))))] := hD
        obtain rfl := hw_12
        refine lv_bipush (v := 12) hx hb dL_setUp_256 (by decide) ?_
        refine lv_icmp_ne (tgt := 302) hx hb dL_setUp_258 (by decide) (fun c_13 => ?_) (fun c_13 => ?_)
        · skip
          exact absurd ((pk_un (by decide)).trans is.2.1) c_13
        · skip
          refine lv_aload_n hx hb dL_setUp_261 rfl (lv_at hl 1 rfl) ?_
          refine lv_iconst (v := 2) hx hb dL_setUp_262 (by decide) ?_
          refine lv_iconst (v := 1) hx hb dL_setUp_263 (by decide) ?_
          refine lv_iload hx hb dL_setUp_264 (lv_at hl 0 rfl) ?_
          refine lv_bipush (v := 13) hx hb dL_setUp_266 (by decide) ?_
          refine lv_ishr hx hb dL_setUp_268 ?_
          refine lv_iload hx hb dL_setUp_269 (lv_at hl 0 rfl) ?_
          refine lv_bipush (v := 17) hx hb dL_setUp_271 (by decide) ?_
          refine lv_ishr hx hb dL_setUp_273 ?_
          refine lv_iconst (v := 2) hx hb dL_setUp_274 (by decide) ?_
          refine kq_cS (As := [.int ((n_ce sL xs 66) >>> (17 &&& 31)), .int 2]) (rest := [.int ((n_ce sL xs 66) >>> (13 &&& 31)), .int 1, .int 2, .ref oX]) ⟨hx, hb, hml, hown, hts⟩ (c_L_low l dC dI cI ((n_ce sL xs 66) >>> (17 &&& 31)) 2 (by first | assumption | omega) (by first | assumption | omega)) (va_cwS 2 hts gL_setUp_L_low rfl rfl rfl (by decide +kernel) ⟨Nat.le_of_ble_eq_true rfl, Nat.le_of_ble_eq_true rfl⟩) (hP.sub [] rfl) hK rfl hl.1 rfl (Nat.le_of_ble_eq_true rfl) dL_setUp_275 ⟨Nat.le_of_ble_eq_true rfl, Nat.le_of_ble_eq_true rfl⟩ ?_
          refine lv_if_ne (tgt := 285) hx hb dL_setUp_278 (by decide) (fun c_14 => ?_) (fun c_14 => ?_)
          · skip
            have c_14 := kq_neN (a := (n_lw ((n_ce sL xs 66) >>> (17 &&& 31)) 2)) (b := 0) c_14 (by omega) (by omega)
            refine lv_bipush (v := 9) hx hb dL_setUp_285 (by decide) ?_
            refine kq_cS (As := [.int ((n_ce sL xs 66) >>> (13 &&& 31)), .int 9]) (rest := [.int 1, .int 2, .ref oX]) ⟨hx, hb, hml, hown, hts⟩ (c_L_low l dC dI cI ((n_ce sL xs 66) >>> (13 &&& 31)) 9 (by first | assumption | omega) (by first | assumption | omega)) (va_cwS 2 hts gL_setUp_L_low rfl rfl rfl (by decide +kernel) ⟨Nat.le_of_ble_eq_true rfl, Nat.le_of_ble_eq_true rfl⟩) (hP.sub [] rfl) hK rfl hl.1 rfl (Nat.le_of_ble_eq_true rfl) dL_setUp_287 ⟨Nat.le_of_ble_eq_true rfl, Nat.le_of_ble_eq_true rfl⟩ ?_
            refine lv_iadd hx hb dL_setUp_290 ?_
            refine kq_top (z := nI (1 + (n_lw ((n_ce sL xs 66) >>> (13 &&& 31)) 9))) (nI_add 1 (n_lw ((n_ce sL xs 66) >>> (13 &&& 31)) 9)) ?_
            refine kq_callMi (wr := [(oR, .inr (2, [.ref oS])), (pa, .inl (cI, 8, .inl (upd (upd pg 6 (nI (n_lw (n_ce sL xs 66) 100))) 7 (nI (n_cq (n_ce sL xs 66))))))]) (va_runV (As := [.int 2, .int (nI (1 + (n_lw ((n_ce sL xs 66) >>> (13 &&& 31)) 9)))]) (rest := []) ⟨hx, hb, hml, hown, hts⟩ (c_X5_set l dC dI cI H.size oX oS oR oN o2 oF oT rv rs (min ((min (kn + 1) 6) + 1) 6) (upd (upd g (382 + 0) (nI (n_lw (n_ce sL xs 66) 100))) (382 + 1) (nI (n_cq (n_ce sL xs 66)))) (n_push (upd g (382 + 0) (nI (n_lw (n_ce sL xs 66) 100))) (n_push g sg)) 2 (nI (1 + (n_lw ((n_ce sL xs 66) >>> (13 &&& 31)) 9))) (by first | assumption | omega) (by first | assumption | omega) (n_set2 (by omega))) (cwV 2 hts gL_setUp_X5_set rfl rfl rfl (by decide +kernel) ⟨Nat.le_of_ble_eq_true rfl, Nat.le_of_ble_eq_true rfl⟩) (kq_preV (ci := 5) (q0 := 0) (hP.sub [2, 3, 4, 5] rfl) (hD.sub [2, 3, 4, 5] (by decide) rfl) hK rfl rfl) rfl rfl hl.1 rfl (lv_room (Nat.le_of_ble_eq_true rfl)) dL_setUp_291 ⟨Nat.le_of_ble_eq_true rfl, Nat.le_of_ble_eq_true rfl⟩) hP hD hS hA [2, 3, 4, 5] [0, 1] rfl rfl (by decide) (by decide) (fun r_15 u_16 H locs hw_17 hP hD hS => ?_)
            have hP : va_P (dC, dI) vwCl [(oR, .inr (2, [.ref oS])), (pa, .inl (cI, 8, .inl (upd (upd pg 6 (nI (n_lw (n_ce sL xs 66) 100))) 7 (nI (n_cq (n_ce sL xs 66)))))), (oX, .inr (5, [.ref oS, .ref oR, .ref oN, .ref o2, .ref oF, .ref oT])), (oS, .inr (3, [.ref rv, .ref rs, .int (nI (min ((min ((min (kn + 1) 6) + 1) 6) + 1) 6))])), (rv, .inl (cI, 385, .inl (upd (upd (upd g (382 + 0) (nI (n_lw (n_ce sL xs 66) 100))) (382 + 1) (nI (n_cq (n_ce sL xs 66)))) (382 + 2) (nI (1 + (n_lw ((n_ce sL xs 66) >>> (13 &&& 31)) 9)))))), (rs, .inl (cI, 2310, .inl (n_push (upd (upd g (382 + 0) (nI (n_lw (n_ce sL xs 66) 100))) (382 + 1) (nI (n_cq (n_ce sL xs 66)))) (n_push (upd g (382 + 0) (nI (n_lw (n_ce sL xs 66) 100))) (n_push g sg)))))] H := hP
            have hD : va_D A [(oR, .inr (2, [.ref oS])), (pa, .inl (cI, 8, .inl (upd (upd pg 6 (nI (n_lw (n_ce sL xs 66) 100))) 7 (nI (n_cq (n_ce sL xs 66)))))), (oX, .inr (5, [.ref oS, .ref oR, .ref oN, .ref o2, .ref oF, .ref oT])), (oS, .inr (3, [.ref rv, .ref rs, .int (nI (min ((min ((min (kn + 1) 6) + 1) 6) + 1) 6))])), (rv, .inl (cI, 385, .inl (upd (upd (upd g (382 + 0) (nI (n_lw (n_ce sL xs 66) 100))) (382 + 1) (nI (n_cq (n_ce sL xs 66)))) (382 + 2) (nI (1 + (n_lw ((n_ce sL xs 66) >>> (13 &&& 31)) 9)))))), (rs, .inl (cI, 2310, .inl (n_push (upd (upd g (382 + 0) (nI (n_lw (n_ce sL xs 66) 100))) (382 + 1) (nI (n_cq (n_ce sL xs 66)))) (n_push (upd g (382 + 0) (nI (n_lw (n_ce sL xs 66) 100))) (n_push g sg)))))] := hD
            obtain rfl := hw_17
            refine lv_iconst (v := 2) hx hb dL_setUp_294 (by decide) ?_
            refine lv_icmp_ne (tgt := 302) hx hb dL_setUp_295 (by decide) (fun c_18 => ?_) (fun c_18 => ?_)
            · skip
              exact absurd ((pk_un (by decide)).trans ((pk_un (by decide)).trans is.2.2)) c_18
            · skip
              refine lv_iconst (v := 1) hx hb dL_setUp_298 (by decide) ?_
              refine lv_goto (tgt := 303) hx hb dL_setUp_299 (by decide) ?_
              exact kq_retMz (upd (upd (upd g (382 + 0) (nI (n_lw (n_ce sL xs 66) 100))) (382 + 1) (nI (n_cq (n_ce sL xs 66)))) (382 + 2) (nI (1 + (n_lw ((n_ce sL xs 66) >>> (13 &&& 31)) 9))), n_push (upd (upd g (382 + 0) (nI (n_lw (n_ce sL xs 66) 100))) (382 + 1) (nI (n_cq (n_ce sL xs 66)))) (n_push (upd g (382 + 0) (nI (n_lw (n_ce sL xs 66) 100))) (n_push g sg)), min ((min ((min (kn + 1) 6) + 1) 6) + 1) 6, upd (upd pg 6 (nI (n_lw (n_ce sL xs 66) 100))) 7 (nI (n_cq (n_ce sL xs 66)))) hx hb hr hlocks (hP.sub [2, 3, 4, 5, 0, 1] rfl) (hD.sub [2, 3, 4, 5, 0, 1] (by decide) rfl) hS dL_setUp_303 (Or.inr rfl) (by dsimp only; exact ⟨rfl, by omega, n_I_set hI4 (k := 2) (by decide) (n_set2 (by omega)), n_pp_e (fun j hj => ip j (by omega)), fun j hj => (n_set_o (by omega)).trans (iw j hj)⟩)
          · skip
            have c_14 := kq_eqN (a := (n_lw ((n_ce sL xs 66) >>> (17 &&& 31)) 2)) (b := 0) c_14 (by omega) (by omega)
            refine lv_iconst (v := 3) hx hb dL_setUp_281 (by decide) ?_
            refine lv_goto (tgt := 287) hx hb dL_setUp_282 (by decide) ?_
            refine kq_cS (As := [.int ((n_ce sL xs 66) >>> (13 &&& 31)), .int 3]) (rest := [.int 1, .int 2, .ref oX]) ⟨hx, hb, hml, hown, hts⟩ (c_L_low l dC dI cI ((n_ce sL xs 66) >>> (13 &&& 31)) 3 (by first | assumption | omega) (by first | assumption | omega)) (va_cwS 2 hts gL_setUp_L_low rfl rfl rfl (by decide +kernel) ⟨Nat.le_of_ble_eq_true rfl, Nat.le_of_ble_eq_true rfl⟩) (hP.sub [] rfl) hK rfl hl.1 rfl (Nat.le_of_ble_eq_true rfl) dL_setUp_287 ⟨Nat.le_of_ble_eq_true rfl, Nat.le_of_ble_eq_true rfl⟩ ?_
            refine lv_iadd hx hb dL_setUp_290 ?_
            refine kq_top (z := nI (1 + (n_lw ((n_ce sL xs 66) >>> (13 &&& 31)) 3))) (nI_add 1 (n_lw ((n_ce sL xs 66) >>> (13 &&& 31)) 3)) ?_
            refine kq_callMi (wr := [(oR, .inr (2, [.ref oS])), (pa, .inl (cI, 8, .inl (upd (upd pg 6 (nI (n_lw (n_ce sL xs 66) 100))) 7 (nI (n_cq (n_ce sL xs 66))))))]) (va_runV (As := [.int 2, .int (nI (1 + (n_lw ((n_ce sL xs 66) >>> (13 &&& 31)) 3)))]) (rest := []) ⟨hx, hb, hml, hown, hts⟩ (c_X5_set l dC dI cI H.size oX oS oR oN o2 oF oT rv rs (min ((min (kn + 1) 6) + 1) 6) (upd (upd g (382 + 0) (nI (n_lw (n_ce sL xs 66) 100))) (382 + 1) (nI (n_cq (n_ce sL xs 66)))) (n_push (upd g (382 + 0) (nI (n_lw (n_ce sL xs 66) 100))) (n_push g sg)) 2 (nI (1 + (n_lw ((n_ce sL xs 66) >>> (13 &&& 31)) 3))) (by first | assumption | omega) (by first | assumption | omega) (n_set2 (by omega))) (cwV 2 hts gL_setUp_X5_set rfl rfl rfl (by decide +kernel) ⟨Nat.le_of_ble_eq_true rfl, Nat.le_of_ble_eq_true rfl⟩) (kq_preV (ci := 5) (q0 := 0) (hP.sub [2, 3, 4, 5] rfl) (hD.sub [2, 3, 4, 5] (by decide) rfl) hK rfl rfl) rfl rfl hl.1 rfl (lv_room (Nat.le_of_ble_eq_true rfl)) dL_setUp_291 ⟨Nat.le_of_ble_eq_true rfl, Nat.le_of_ble_eq_true rfl⟩) hP hD hS hA [2, 3, 4, 5] [0, 1] rfl rfl (by decide) (by decide) (fun r_19 u_20 H locs hw_21 hP hD hS => ?_)
            have hP : va_P (dC, dI) vwCl [(oR, .inr (2, [.ref oS])), (pa, .inl (cI, 8, .inl (upd (upd pg 6 (nI (n_lw (n_ce sL xs 66) 100))) 7 (nI (n_cq (n_ce sL xs 66)))))), (oX, .inr (5, [.ref oS, .ref oR, .ref oN, .ref o2, .ref oF, .ref oT])), (oS, .inr (3, [.ref rv, .ref rs, .int (nI (min ((min ((min (kn + 1) 6) + 1) 6) + 1) 6))])), (rv, .inl (cI, 385, .inl (upd (upd (upd g (382 + 0) (nI (n_lw (n_ce sL xs 66) 100))) (382 + 1) (nI (n_cq (n_ce sL xs 66)))) (382 + 2) (nI (1 + (n_lw ((n_ce sL xs 66) >>> (13 &&& 31)) 3)))))), (rs, .inl (cI, 2310, .inl (n_push (upd (upd g (382 + 0) (nI (n_lw (n_ce sL xs 66) 100))) (382 + 1) (nI (n_cq (n_ce sL xs 66)))) (n_push (upd g (382 + 0) (nI (n_lw (n_ce sL xs 66) 100))) (n_push g sg)))))] H := hP
            have hD : va_D A [(oR, .inr (2, [.ref oS])), (pa, .inl (cI, 8, .inl (upd (upd pg 6 (nI (n_lw (n_ce sL xs 66) 100))) 7 (nI (n_cq (n_ce sL xs 66)))))), (oX, .inr (5, [.ref oS, .ref oR, .ref oN, .ref o2, .ref oF, .ref oT])), (oS, .inr (3, [.ref rv, .ref rs, .int (nI (min ((min ((min (kn + 1) 6) + 1) 6) + 1) 6))])), (rv, .inl (cI, 385, .inl (upd (upd (upd g (382 + 0) (nI (n_lw (n_ce sL xs 66) 100))) (382 + 1) (nI (n_cq (n_ce sL xs 66)))) (382 + 2) (nI (1 + (n_lw ((n_ce sL xs 66) >>> (13 &&& 31)) 3)))))), (rs, .inl (cI, 2310, .inl (n_push (upd (upd g (382 + 0) (nI (n_lw (n_ce sL xs 66) 100))) (382 + 1) (nI (n_cq (n_ce sL xs 66)))) (n_push (upd g (382 + 0) (nI (n_lw (n_ce sL xs 66) 100))) (n_push g sg)))))] := hD
            obtain rfl := hw_21
            refine lv_iconst (v := 2) hx hb dL_setUp_294 (by decide) ?_
            refine lv_icmp_ne (tgt := 302) hx hb dL_setUp_295 (by decide) (fun c_22 => ?_) (fun c_22 => ?_)
            · skip
              exact absurd ((pk_un (by decide)).trans ((pk_un (by decide)).trans is.2.2)) c_22
            · skip
              refine lv_iconst (v := 1) hx hb dL_setUp_298 (by decide) ?_
              refine lv_goto (tgt := 303) hx hb dL_setUp_299 (by decide) ?_
              exact kq_retMz (upd (upd (upd g (382 + 0) (nI (n_lw (n_ce sL xs 66) 100))) (382 + 1) (nI (n_cq (n_ce sL xs 66)))) (382 + 2) (nI (1 + (n_lw ((n_ce sL xs 66) >>> (13 &&& 31)) 3))), n_push (upd (upd g (382 + 0) (nI (n_lw (n_ce sL xs 66) 100))) (382 + 1) (nI (n_cq (n_ce sL xs 66)))) (n_push (upd g (382 + 0) (nI (n_lw (n_ce sL xs 66) 100))) (n_push g sg)), min ((min ((min (kn + 1) 6) + 1) 6) + 1) 6, upd (upd pg 6 (nI (n_lw (n_ce sL xs 66) 100))) 7 (nI (n_cq (n_ce sL xs 66)))) hx hb hr hlocks (hP.sub [2, 3, 4, 5, 0, 1] rfl) (hD.sub [2, 3, 4, 5, 0, 1] (by decide) rfl) hS dL_setUp_303 (Or.inr rfl) (by dsimp only; exact ⟨rfl, by omega, n_I_set hI4 (k := 2) (by decide) (n_set2 (by omega)), n_pp_e (fun j hj => ip j (by omega)), fun j hj => (n_set_o (by omega)).trans (iw j hj)⟩)
    · skip
      refine lv_if_ne (tgt := 217) hx hb dL_setUp_209 (by decide) (fun c_23 => ?_) (fun c_23 => ?_)
      · skip
        have c_23 := kq_neN (a := (n_lw ((n_ce sL xs 66) >>> (7 &&& 31)) 2)) (b := 0) c_23 (by omega) (by omega)
        refine lv_bipush (v := 12) hx hb dL_setUp_217 (by decide) ?_
        refine lv_iload hx hb dL_setUp_219 (lv_at hl 0 rfl) ?_
        refine lv_bipush (v := 8) hx hb dL_setUp_221 (by decide) ?_
        refine lv_ishr hx hb dL_setUp_223 ?_
        refine lv_bipush (v := 19) hx hb dL_setUp_224 (by decide) ?_
        refine kq_cS (As := [.int ((n_ce sL xs 66) >>> (8 &&& 31)), .int 19]) (rest := [.int 12, .int 7, .ref pa]) ⟨hx, hb, hml, hown, hts⟩ (c_L_low l dC dI cI ((n_ce sL xs 66) >>> (8 &&& 31)) 19 (by first | assumption | omega) (by first | assumption | omega)) (va_cwS 2 hts gL_setUp_L_low rfl rfl rfl (by decide +kernel) ⟨Nat.le_of_ble_eq_true rfl, Nat.le_of_ble_eq_true rfl⟩) (hP.sub [] rfl) hK rfl hl.1 rfl (Nat.le_of_ble_eq_true rfl) dL_setUp_226 ⟨Nat.le_of_ble_eq_true rfl, Nat.le_of_ble_eq_true rfl⟩ ?_
        refine lv_iadd hx hb dL_setUp_229 ?_
        refine kq_top (z := nI (12 + (n_lw ((n_ce sL xs 66) >>> (8 &&& 31)) 19))) (nI_add 12 (n_lw ((n_ce sL xs 66) >>> (8 &&& 31)) 19)) ?_
        refine kq_top (z := nI (n_cq (n_ce sL xs 66))) (by rw [n_cq]; first | exact congrArg nI (if_pos (by assumption)).symm | exact congrArg nI (if_neg (by assumption)).symm) ?_
        exact hJ_4 _ (lv_sub hl [0, 1, 2, 3, 4] rfl)
      · skip
        have c_23 := kq_eqN (a := (n_lw ((n_ce sL xs 66) >>> (7 &&& 31)) 2)) (b := 0) c_23 (by omega) (by omega)
        refine lv_bipush (v := 12) hx hb dL_setUp_212 (by decide) ?_
        refine lv_goto (tgt := 230) hx hb dL_setUp_214 (by decide) ?_
        refine kq_top (z := nI (n_cq (n_ce sL xs 66))) (by rw [n_cq]; first | exact congrArg nI (if_pos (by assumption)).symm | exact congrArg nI (if_neg (by assumption)).symm) ?_
        exact hJ_4 _ (lv_sub hl [0, 1, 2, 3, 4] rfl)
  · skip
    have c_3 := kq_nleN (a := 3) (b := r) c_3 (by omega) (by omega)
    have hrr : r < 3 := by omega
    have hcc := n_cc_b (n_ce sL xs (63 + r))
    have hU : (n_lw ((n_ce sL xs (63 + r)) >>> (7 &&& 31)) 199) < 199 := n_lw_lt (by decide)
    have hl3 : n_lw (n_ce sL xs (63 + r)) 3 < 3 := n_lw_lt (by decide)
    have hI1 : n_I (upd (upd g (288 + r) (nI (n_cc (n_ce sL xs (63 + r))))) (291 + r) (nI (n_p g r % (n_cc (n_ce sL xs (63 + r)))))) := n_I_size iI hrr hcc
    have hnc : n_c (upd (upd g (288 + r) (nI (n_cc (n_ce sL xs (63 + r))))) (291 + r) (nI (n_p g r % (n_cc (n_ce sL xs (63 + r)))))) r = (n_cc (n_ce sL xs (63 + r))) := n_size_c (by omega)
    have hnp : n_p (upd (upd g (288 + r) (nI (n_cc (n_ce sL xs (63 + r))))) (291 + r) (nI (n_p g r % (n_cc (n_ce sL xs (63 + r)))))) r = 0 := by rw [n_size_p (by rw [n_p_0 (i0 r (Nat.le_refl r) hrr).2, Nat.zero_mod]; decide), n_p_0 (i0 r (Nat.le_refl r) hrr).2, Nat.zero_mod]
    have hph : (((n_lw ((n_ce sL xs (63 + r)) >>> (7 &&& 31)) 199) + 100 * (n_cc (n_ce sL xs (63 + r))) - 99) % (n_cc (n_ce sL xs (63 + r)))) < (n_cc (n_ce sL xs (63 + r))) := Nat.mod_lt _ (by omega)
    have hI2 : n_I (upd (upd (upd g (288 + r) (nI (n_cc (n_ce sL xs (63 + r))))) (291 + r) (nI (n_p g r % (n_cc (n_ce sL xs (63 + r)))))) (291 + r) (nI (((n_lw ((n_ce sL xs (63 + r)) >>> (7 &&& 31)) 199) + 100 * (n_cc (n_ce sL xs (63 + r))) - 99) % (n_cc (n_ce sL xs (63 + r)))))) := n_I_phase hI1 hrr (by rw [hnc]; exact hph)
    refine lv_aload_n hx hb dL_setUp_11 rfl (lv_at hl 1 rfl) ?_
    refine lv_bipush (v := 63) hx hb dL_setUp_12 (by decide) ?_
    refine lv_iload hx hb dL_setUp_14 (lv_at hl 4 rfl) ?_
    refine lv_iadd hx hb dL_setUp_16 ?_
    refine kq_top (z := nI (63 + r)) (nI_add 63 r) ?_
    refine kq_cSX (As := [.ref sb, .int (nI (63 + r))]) (rest := []) ⟨hx, hb, hml, hown, hts⟩ (c_L_cell l dC dI cI sb sL xs (63 + r) (by first | assumption | omega) (by first | assumption | omega)) (va_cwS 2 hts gL_setUp_L_cell rfl rfl rfl (by decide +kernel) ⟨Nat.le_of_ble_eq_true rfl, Nat.le_of_ble_eq_true rfl⟩) (hP.sub [] rfl) (kq_xk hX hbl hbA hS) hK rfl hl.1 rfl (Nat.le_of_ble_eq_true rfl) dL_setUp_17 ⟨Nat.le_of_ble_eq_true rfl, Nat.le_of_ble_eq_true rfl⟩ ?_
    refine lv_istore (lv' := [(5, .int (n_ce sL xs (63 + r))), (0, .ref oX), (1, .ref sb), (2, .ref pa), (3, .int 1), (4, .int (nI r))]) hx hb dL_setUp_20 hl (by decide) rfl (fun ls hl => ?_)
    refine lv_aload_n hx hb dL_setUp_22 rfl (lv_at hl 3 rfl) ?_
    refine lv_iload hx hb dL_setUp_23 (lv_at hl 5 rfl) ?_
    refine lv_iload hx hb dL_setUp_25 (lv_at hl 0 rfl) ?_
    refine lv_iconst (v := 3) hx hb dL_setUp_27 (by decide) ?_
    refine kq_cS (As := [.int (n_ce sL xs (63 + r)), .int 3]) (rest := [.int (nI r), .ref pa]) ⟨hx, hb, hml, hown, hts⟩ (c_L_low l dC dI cI (n_ce sL xs (63 + r)) 3 (by first | assumption | omega) (by first | assumption | omega)) (va_cwS 2 hts gL_setUp_L_low rfl rfl rfl (by decide +kernel) ⟨Nat.le_of_ble_eq_true rfl, Nat.le_of_ble_eq_true rfl⟩) (hP.sub [] rfl) hK rfl hl.1 rfl (Nat.le_of_ble_eq_true rfl) dL_setUp_28 ⟨Nat.le_of_ble_eq_true rfl, Nat.le_of_ble_eq_true rfl⟩ ?_
    refine kq_join (nL := 7) (L := [(5, .int (n_ce sL xs (63 + r))), (0, .ref oX), (1, .ref sb), (2, .ref pa), (3, .int 1), (4, .int (nI r))]) (st := [.int (nI (n_cc (n_ce sL xs (63 + r)))), .int (nI r), .ref pa]) (J := 50) ?_ (fun hJ_24 => ?_)
    · intro ls hl
      have hl : lv_has ls 7 [(5, .int (n_ce sL xs (63 + r))), (0, .ref oX), (1, .ref sb), (2, .ref pa), (3, .int 1), (4, .int (nI r))] := hl
      refine va_iast hx hb hK.1 hP hD hS 5 0 rfl rfl (vp_in_nI (show r < 8 from by omega) (by omega)) dL_setUp_50 (fun H locs hP hD hS => ?_)
      rw [nI_clamp (Nat.lt_trans (show r < 8 from by omega) (by omega))] at hP hD
      have hP : va_P (dC, dI) vwCl [(oX, .inr (5, [.ref oS, .ref oR, .ref oN, .ref o2, .ref oF, .ref oT])), (oS, .inr (3, [.ref rv, .ref rs, .int (nI kn)])), (rv, .inl (cI, 385, .inl g)), (rs, .inl (cI, 2310, .inl sg)), (oR, .inr (2, [.ref oS])), (pa, .inl (cI, 8, .inl (upd pg r (nI (n_cc (n_ce sL xs (63 + r)))))))] H := hP
      have hD : va_D A [(oX, .inr (5, [.ref oS, .ref oR, .ref oN, .ref o2, .ref oF, .ref oT])), (oS, .inr (3, [.ref rv, .ref rs, .int (nI kn)])), (rv, .inl (cI, 385, .inl g)), (rs, .inl (cI, 2310, .inl sg)), (oR, .inr (2, [.ref oS])), (pa, .inl (cI, 8, .inl (upd pg r (nI (n_cc (n_ce sL xs (63 + r)))))))] := hD
      refine lv_iload_n hx hb dL_setUp_51 rfl (lv_at hl 4 rfl) ?_
      refine lv_if_eq (tgt := 88) hx hb dL_setUp_52 (by decide) (fun q => absurd q (by decide)) (fun _ => ?_)
      refine lv_aload_n hx hb dL_setUp_55 rfl (lv_at hl 1 rfl) ?_
      refine lv_iload hx hb dL_setUp_56 (lv_at hl 5 rfl) ?_
      refine lv_aload_n hx hb dL_setUp_58 rfl (lv_at hl 3 rfl) ?_
      refine lv_iload hx hb dL_setUp_59 (lv_at hl 5 rfl) ?_
      refine va_iald hx hb hK.1 hP 5 0 rfl rfl (vp_in_nI (show r < 8 from by omega) (by omega)) dL_setUp_61 ?_
      refine kq_top (z := (upd pg r (nI (n_cc (n_ce sL xs (63 + r))))) r) (congrArg (upd pg r (nI (n_cc (n_ce sL xs (63 + r))))) (nI_clamp (Nat.lt_trans (show r < 8 from by omega) (by omega)))) ?_
      refine kq_top (z := nI (n_cc (n_ce sL xs (63 + r)))) (pk_us) ?_
      refine kq_callMi (wr := [(pa, .inl (cI, 8, .inl (upd pg r (nI (n_cc (n_ce sL xs (63 + r)))))))]) (va_runV (As := [.int (nI r), .int (nI (n_cc (n_ce sL xs (63 + r))))]) (rest := []) ⟨hx, hb, hml, hown, hts⟩ (c_X5_size l dC dI cI H.size oX oS oR oN o2 oF oT rv rs kn g sg r (n_cc (n_ce sL xs (63 + r))) (by first | assumption | omega) (by first | assumption | omega) (by first | assumption | omega) (by first | assumption | omega)) (cwV 2 hts gL_setUp_X5_size rfl rfl rfl (by decide +kernel) ⟨Nat.le_of_ble_eq_true rfl, Nat.le_of_ble_eq_true rfl⟩) (kq_preV (ci := 5) (q0 := 0) (hP.sub [0, 1, 2, 3, 4] rfl) (hD.sub [0, 1, 2, 3, 4] (by decide) rfl) hK rfl rfl) rfl rfl hl.1 rfl (lv_room (Nat.le_of_ble_eq_true rfl)) dL_setUp_62 ⟨Nat.le_of_ble_eq_true rfl, Nat.le_of_ble_eq_true rfl⟩) hP hD hS hA [0, 1, 2, 3, 4] [5] rfl rfl (by decide) (by decide) (fun r_26 u_27 H locs hw_28 hP hD hS => ?_)
      have hP : va_P (dC, dI) vwCl [(pa, .inl (cI, 8, .inl (upd pg r (nI (n_cc (n_ce sL xs (63 + r))))))), (oX, .inr (5, [.ref oS, .ref oR, .ref oN, .ref o2, .ref oF, .ref oT])), (oS, .inr (3, [.ref rv, .ref rs, .int (nI (min (kn + 1) 6))])), (rv, .inl (cI, 385, .inl (upd (upd g (288 + r) (nI (n_cc (n_ce sL xs (63 + r))))) (291 + r) (nI (n_p g r % (n_cc (n_ce sL xs (63 + r)))))))), (rs, .inl (cI, 2310, .inl (n_push g sg))), (oR, .inr (2, [.ref oS]))] H := hP
      have hD : va_D A [(pa, .inl (cI, 8, .inl (upd pg r (nI (n_cc (n_ce sL xs (63 + r))))))), (oX, .inr (5, [.ref oS, .ref oR, .ref oN, .ref o2, .ref oF, .ref oT])), (oS, .inr (3, [.ref rv, .ref rs, .int (nI (min (kn + 1) 6))])), (rv, .inl (cI, 385, .inl (upd (upd g (288 + r) (nI (n_cc (n_ce sL xs (63 + r))))) (291 + r) (nI (n_p g r % (n_cc (n_ce sL xs (63 + r)))))))), (rs, .inl (cI, 2310, .inl (n_push g sg))), (oR, .inr (2, [.ref oS]))] := hD
      obtain rfl := hw_28
      refine lv_bipush (v := 12) hx hb dL_setUp_65 (by decide) ?_
      refine lv_icmp_ne (tgt := 88) hx hb dL_setUp_67 (by decide) (fun c_29 => ?_) (fun c_29 => ?_)
      · skip
        exact absurd (i0 r (Nat.le_refl r) hrr).1 c_29
      · skip
        refine lv_aload_n hx hb dL_setUp_70 rfl (lv_at hl 1 rfl) ?_
        refine lv_iload hx hb dL_setUp_71 (lv_at hl 5 rfl) ?_
        refine lv_iconst (v := 0) hx hb dL_setUp_73 (by decide) ?_
        refine kq_callMi (wr := [(pa, .inl (cI, 8, .inl (upd pg r (nI (n_cc (n_ce sL xs (63 + r))))))), (rs, .inl (cI, 2310, .inl (n_push g sg)))]) (va_runV (As := [.int (nI r), .int 0]) (rest := []) ⟨hx, hb, hml, hown, hts⟩ (c_X5_roll l dC dI cI H.size oX oS oR oN o2 oF oT rv rs (min (kn + 1) 6) (upd (upd g (288 + r) (nI (n_cc (n_ce sL xs (63 + r))))) (291 + r) (nI (n_p g r % (n_cc (n_ce sL xs (63 + r)))))) r 0 (by first | assumption | omega) (by first | assumption | omega) (by first | assumption | omega)) (cwV 2 hts gL_setUp_X5_roll rfl rfl rfl (by decide +kernel) ⟨Nat.le_of_ble_eq_true rfl, Nat.le_of_ble_eq_true rfl⟩) (kq_preV (ci := 5) (q0 := 0) (hP.sub [1, 2, 3, 5] rfl) (hD.sub [1, 2, 3, 5] (by decide) rfl) hK rfl rfl) rfl rfl hl.1 rfl (lv_room (Nat.le_of_ble_eq_true rfl)) dL_setUp_74 ⟨Nat.le_of_ble_eq_true rfl, Nat.le_of_ble_eq_true rfl⟩) hP hD hS hA [1, 2, 3, 5] [0, 4] rfl rfl (by decide) (by decide) (fun r_30 u_31 H locs hw_32 hP hD hS => ?_)
        have hP : va_P (dC, dI) vwCl [(pa, .inl (cI, 8, .inl (upd pg r (nI (n_cc (n_ce sL xs (63 + r))))))), (rs, .inl (cI, 2310, .inl (n_push g sg))), (oX, .inr (5, [.ref oS, .ref oR, .ref oN, .ref o2, .ref oF, .ref oT])), (oS, .inr (3, [.ref rv, .ref rs, .int (nI (min (kn + 1) 6))])), (rv, .inl (cI, 385, .inl (upd (upd g (288 + r) (nI (n_cc (n_ce sL xs (63 + r))))) (291 + r) (nI (n_p g r % (n_cc (n_ce sL xs (63 + r)))))))), (oR, .inr (2, [.ref oS]))] H := hP
        have hD : va_D A [(pa, .inl (cI, 8, .inl (upd pg r (nI (n_cc (n_ce sL xs (63 + r))))))), (rs, .inl (cI, 2310, .inl (n_push g sg))), (oX, .inr (5, [.ref oS, .ref oR, .ref oN, .ref o2, .ref oF, .ref oT])), (oS, .inr (3, [.ref rv, .ref rs, .int (nI (min (kn + 1) 6))])), (rv, .inl (cI, 385, .inl (upd (upd g (288 + r) (nI (n_cc (n_ce sL xs (63 + r))))) (291 + r) (nI (n_p g r % (n_cc (n_ce sL xs (63 + r)))))))), (oR, .inr (2, [.ref oS]))] := hD
        obtain rfl := hw_32
        refine kq_top (z := nI (n_cc (n_ce sL xs (63 + r)))) (n_roll_0.trans ((pk_un (by omega)).trans pk_us)) ?_
        refine lv_aload_n hx hb dL_setUp_77 rfl (lv_at hl 3 rfl) ?_
        refine lv_iload hx hb dL_setUp_78 (lv_at hl 5 rfl) ?_
        refine va_iald hx hb hK.1 hP 0 0 rfl rfl (vp_in_nI (show r < 8 from by omega) (by omega)) dL_setUp_80 ?_
        refine kq_top (z := (upd pg r (nI (n_cc (n_ce sL xs (63 + r))))) r) (congrArg (upd pg r (nI (n_cc (n_ce sL xs (63 + r))))) (nI_clamp (Nat.lt_trans (show r < 8 from by omega) (by omega)))) ?_
        refine kq_top (z := nI (n_cc (n_ce sL xs (63 + r)))) (pk_us) ?_
        refine lv_icmp_ne (tgt := 88) hx hb dL_setUp_81 (by decide) (fun c_33 => ?_) (fun c_33 => ?_)
        · skip
          have c_33 := kq_neN (a := (n_cc (n_ce sL xs (63 + r)))) (b := (n_cc (n_ce sL xs (63 + r)))) c_33 (by omega) (by omega)
          exact absurd c_33 (by omega)
        · skip
          have c_33 := kq_eqN (a := (n_cc (n_ce sL xs (63 + r)))) (b := (n_cc (n_ce sL xs (63 + r)))) c_33 (by omega) (by omega)
          refine lv_iconst (v := 1) hx hb dL_setUp_84 (by decide) ?_
          refine lv_goto (tgt := 89) hx hb dL_setUp_85 (by decide) ?_
          refine lv_istore_n (lv' := [(3, .int 1), (5, .int (n_ce sL xs (63 + r))), (0, .ref oX), (1, .ref sb), (2, .ref pa), (4, .int (nI r))]) hx hb dL_setUp_89 rfl hl (by decide) rfl (fun ls hl => ?_)
          refine lv_iload hx hb dL_setUp_90 (lv_at hl 1 rfl) ?_
          refine lv_bipush (v := 7) hx hb dL_setUp_92 (by decide) ?_
          refine lv_ishr hx hb dL_setUp_94 ?_
          refine lv_sipush (v := 199) hx hb dL_setUp_95 (by decide) ?_
          refine kq_cS (As := [.int ((n_ce sL xs (63 + r)) >>> (7 &&& 31)), .int 199]) (rest := []) ⟨hx, hb, hml, hown, hts⟩ (c_L_low l dC dI cI ((n_ce sL xs (63 + r)) >>> (7 &&& 31)) 199 (by first | assumption | omega) (by first | assumption | omega)) (va_cwS 2 hts gL_setUp_L_low rfl rfl rfl (by decide +kernel) ⟨Nat.le_of_ble_eq_true rfl, Nat.le_of_ble_eq_true rfl⟩) (hP.sub [] rfl) hK rfl hl.1 rfl (Nat.le_of_ble_eq_true rfl) dL_setUp_98 ⟨Nat.le_of_ble_eq_true rfl, Nat.le_of_ble_eq_true rfl⟩ ?_
          refine lv_bipush (v := 99) hx hb dL_setUp_101 (by decide) ?_
          refine lv_isub hx hb dL_setUp_103 ?_
          refine lv_istore (lv' := [(6, .int ((nI (n_lw ((n_ce sL xs (63 + r)) >>> (7 &&& 31)) 199)) - 99)), (3, .int 1), (5, .int (n_ce sL xs (63 + r))), (0, .ref oX), (1, .ref sb), (2, .ref pa), (4, .int (nI r))]) hx hb dL_setUp_104 hl (by decide) rfl (fun ls hl => ?_)
          refine lv_aload_n hx hb dL_setUp_106 rfl (lv_at hl 5 rfl) ?_
          refine lv_iconst (v := 3) hx hb dL_setUp_107 (by decide) ?_
          refine lv_iload hx hb dL_setUp_108 (lv_at hl 6 rfl) ?_
          refine lv_iadd hx hb dL_setUp_110 ?_
          refine kq_top (z := nI (3 + r)) (nI_add 3 r) ?_
          refine lv_iload hx hb dL_setUp_111 (lv_at hl 0 rfl) ?_
          refine lv_aload_n hx hb dL_setUp_113 rfl (lv_at hl 5 rfl) ?_
          refine lv_iload hx hb dL_setUp_114 (lv_at hl 6 rfl) ?_
          refine va_iald hx hb hK.1 hP 0 0 rfl rfl (vp_in_nI (show r < 8 from by omega) (by omega)) dL_setUp_116 ?_
          refine kq_top (z := (upd pg r (nI (n_cc (n_ce sL xs (63 + r))))) r) (congrArg (upd pg r (nI (n_cc (n_ce sL xs (63 + r))))) (nI_clamp (Nat.lt_trans (show r < 8 from by omega) (by omega)))) ?_
          refine kq_top (z := nI (n_cc (n_ce sL xs (63 + r)))) (pk_us) ?_
          refine lv_irem hx hb dL_setUp_117 (nI_ne0 (by omega) (by omega)) ?_
          refine lv_aload_n hx hb dL_setUp_118 rfl (lv_at hl 5 rfl) ?_
          refine lv_iload hx hb dL_setUp_119 (lv_at hl 6 rfl) ?_
          refine va_iald hx hb hK.1 hP 0 0 rfl rfl (vp_in_nI (show r < 8 from by omega) (by omega)) dL_setUp_121 ?_
          refine kq_top (z := (upd pg r (nI (n_cc (n_ce sL xs (63 + r))))) r) (congrArg (upd pg r (nI (n_cc (n_ce sL xs (63 + r))))) (nI_clamp (Nat.lt_trans (show r < 8 from by omega) (by omega)))) ?_
          refine kq_top (z := nI (n_cc (n_ce sL xs (63 + r)))) (pk_us) ?_
          refine lv_iadd hx hb dL_setUp_122 ?_
          refine lv_aload_n hx hb dL_setUp_123 rfl (lv_at hl 5 rfl) ?_
          refine lv_iload hx hb dL_setUp_124 (lv_at hl 6 rfl) ?_
          refine va_iald hx hb hK.1 hP 0 0 rfl rfl (vp_in_nI (show r < 8 from by omega) (by omega)) dL_setUp_126 ?_
          refine kq_top (z := (upd pg r (nI (n_cc (n_ce sL xs (63 + r))))) r) (congrArg (upd pg r (nI (n_cc (n_ce sL xs (63 + r))))) (nI_clamp (Nat.lt_trans (show r < 8 from by omega) (by omega)))) ?_
          refine kq_top (z := nI (n_cc (n_ce sL xs (63 + r)))) (pk_us) ?_
          refine lv_irem hx hb dL_setUp_127 (nI_ne0 (by omega) (by omega)) ?_
          refine kq_top (z := nI (((n_lw ((n_ce sL xs (63 + r)) >>> (7 &&& 31)) 199) + 100 * (n_cc (n_ce sL xs (63 + r))) - 99) % (n_cc (n_ce sL xs (63 + r))))) (kq_byc _ hU _ (by omega) hcc.1) ?_
          refine va_iast hx hb hK.1 hP hD hS 0 0 rfl rfl (vp_in_nI (show 3 + r < 8 from by omega) (by omega)) dL_setUp_128 (fun H locs hP hD hS => ?_)
          rw [nI_clamp (Nat.lt_trans (show 3 + r < 8 from by omega) (by omega))] at hP hD
          have hP : va_P (dC, dI) vwCl [(pa, .inl (cI, 8, .inl (upd (upd pg r (nI (n_cc (n_ce sL xs (63 + r))))) (3 + r) (nI (((n_lw ((n_ce sL xs (63 + r)) >>> (7 &&& 31)) 199) + 100 * (n_cc (n_ce sL xs (63 + r))) - 99) % (n_cc (n_ce sL xs (63 + r)))))))), (rs, .inl (cI, 2310, .inl (n_push g sg))), (oX, .inr (5, [.ref oS, .ref oR, .ref oN, .ref o2, .ref oF, .ref oT])), (oS, .inr (3, [.ref rv, .ref rs, .int (nI (min (kn + 1) 6))])), (rv, .inl (cI, 385, .inl (upd (upd g (288 + r) (nI (n_cc (n_ce sL xs (63 + r))))) (291 + r) (nI (n_p g r % (n_cc (n_ce sL xs (63 + r)))))))), (oR, .inr (2, [.ref oS]))] H := hP
          have hD : va_D A [(pa, .inl (cI, 8, .inl (upd (upd pg r (nI (n_cc (n_ce sL xs (63 + r))))) (3 + r) (nI (((n_lw ((n_ce sL xs (63 + r)) >>> (7 &&& 31)) 199) + 100 * (n_cc (n_ce sL xs (63 + r))) - 99) % (n_cc (n_ce sL xs (63 + r)))))))), (rs, .inl (cI, 2310, .inl (n_push g sg))), (oX, .inr (5, [.ref oS, .ref oR, .ref oN, .ref o2, .ref oF, .ref oT])), (oS, .inr (3, [.ref rv, .ref rs, .int (nI (min (kn + 1) 6))])), (rv, .inl (cI, 385, .inl (upd (upd g (288 + r) (nI (n_cc (n_ce sL xs (63 + r))))) (291 + r) (nI (n_p g r % (n_cc (n_ce sL xs (63 + r)))))))), (oR, .inr (2, [.ref oS]))] := hD
          refine lv_iload_n hx hb dL_setUp_129 rfl (lv_at hl 1 rfl) ?_
          refine lv_if_eq (tgt := 170) hx hb dL_setUp_130 (by decide) (fun q => absurd q (by decide)) (fun _ => ?_)
          refine lv_aload_n hx hb dL_setUp_133 rfl (lv_at hl 3 rfl) ?_
          refine lv_iload hx hb dL_setUp_134 (lv_at hl 6 rfl) ?_
          refine lv_iload hx hb dL_setUp_136 (lv_at hl 0 rfl) ?_
          refine kq_callMi (wr := [(pa, .inl (cI, 8, .inl (upd (upd pg r (nI (n_cc (n_ce sL xs (63 + r))))) (3 + r) (nI (((n_lw ((n_ce sL xs (63 + r)) >>> (7 &&& 31)) 199) + 100 * (n_cc (n_ce sL xs (63 + r))) - 99) % (n_cc (n_ce sL xs (63 + r))))))))]) (va_runV (As := [.int (nI r), .int ((nI (n_lw ((n_ce sL xs (63 + r)) >>> (7 &&& 31)) 199)) - 99)]) (rest := []) ⟨hx, hb, hml, hown, hts⟩ (c_X5_turn l dC dI cI H.size oX oS oR oN o2 oF oT rv rs (min (kn + 1) 6) (upd (upd g (288 + r) (nI (n_cc (n_ce sL xs (63 + r))))) (291 + r) (nI (n_p g r % (n_cc (n_ce sL xs (63 + r)))))) (n_push g sg) r (n_lw ((n_ce sL xs (63 + r)) >>> (7 &&& 31)) 199) ((nI (n_lw ((n_ce sL xs (63 + r)) >>> (7 &&& 31)) 199)) - 99) (by first | assumption | omega) (by first | assumption | omega) (by omega) (rfl) (kq_99b _ hU) (by first | assumption | omega)) (cwV 2 hts gL_setUp_X5_turn rfl rfl rfl (by decide +kernel) ⟨Nat.le_of_ble_eq_true rfl, Nat.le_of_ble_eq_true rfl⟩) (kq_preV (ci := 5) (q0 := 0) (hP.sub [2, 3, 4, 1, 5] rfl) (hD.sub [2, 3, 4, 1, 5] (by decide) rfl) hK rfl rfl) rfl rfl hl.1 rfl (lv_room (Nat.le_of_ble_eq_true rfl)) dL_setUp_138 ⟨Nat.le_of_ble_eq_true rfl, Nat.le_of_ble_eq_true rfl⟩) hP hD hS hA [2, 3, 4, 1, 5] [0] rfl rfl (by decide) (by decide) (fun r_35 u_36 H locs hw_37 hP hD hS => ?_)
          have hP : va_P (dC, dI) vwCl [(pa, .inl (cI, 8, .inl (upd (upd pg r (nI (n_cc (n_ce sL xs (63 + r))))) (3 + r) (nI (((n_lw ((n_ce sL xs (63 + r)) >>> (7 &&& 31)) 199) + 100 * (n_cc (n_ce sL xs (63 + r))) - 99) % (n_cc (n_ce sL xs (63 + r)))))))), (oX, .inr (5, [.ref oS, .ref oR, .ref oN, .ref o2, .ref oF, .ref oT])), (oS, .inr (3, [.ref rv, .ref rs, .int (nI (min ((min (kn + 1) 6) + 1) 6))])), (rv, .inl (cI, 385, .inl (upd (upd (upd g (288 + r) (nI (n_cc (n_ce sL xs (63 + r))))) (291 + r) (nI (n_p g r % (n_cc (n_ce sL xs (63 + r)))))) (291 + r) (nI ((n_p (upd (upd g (288 + r) (nI (n_cc (n_ce sL xs (63 + r))))) (291 + r) (nI (n_p g r % (n_cc (n_ce sL xs (63 + r)))))) r + (n_lw ((n_ce sL xs (63 + r)) >>> (7 &&& 31)) 199) + 100 * n_c (upd (upd g (288 + r) (nI (n_cc (n_ce sL xs (63 + r))))) (291 + r) (nI (n_p g r % (n_cc (n_ce sL xs (63 + r)))))) r - 99) % n_c (upd (upd g (288 + r) (nI (n_cc (n_ce sL xs (63 + r))))) (291 + r) (nI (n_p g r % (n_cc (n_ce sL xs (63 + r)))))) r))))), (rs, .inl (cI, 2310, .inl (n_push (upd (upd g (288 + r) (nI (n_cc (n_ce sL xs (63 + r))))) (291 + r) (nI (n_p g r % (n_cc (n_ce sL xs (63 + r)))))) (n_push g sg)))), (oR, .inr (2, [.ref oS]))] H := hP
          have hD : va_D A [(pa, .inl (cI, 8, .inl (upd (upd pg r (nI (n_cc (n_ce sL xs (63 + r))))) (3 + r) (nI (((n_lw ((n_ce sL xs (63 + r)) >>> (7 &&& 31)) 199) + 100 * (n_cc (n_ce sL xs (63 + r))) - 99) % (n_cc (n_ce sL xs (63 + r)))))))), (oX, .inr (5, [.ref oS, .ref oR, .ref oN, .ref o2, .ref oF, .ref oT])), (oS, .inr (3, [.ref rv, .ref rs, .int (nI (min ((min (kn + 1) 6) + 1) 6))])), (rv, .inl (cI, 385, .inl (upd (upd (upd g (288 + r) (nI (n_cc (n_ce sL xs (63 + r))))) (291 + r) (nI (n_p g r % (n_cc (n_ce sL xs (63 + r)))))) (291 + r) (nI ((n_p (upd (upd g (288 + r) (nI (n_cc (n_ce sL xs (63 + r))))) (291 + r) (nI (n_p g r % (n_cc (n_ce sL xs (63 + r)))))) r + (n_lw ((n_ce sL xs (63 + r)) >>> (7 &&& 31)) 199) + 100 * n_c (upd (upd g (288 + r) (nI (n_cc (n_ce sL xs (63 + r))))) (291 + r) (nI (n_p g r % (n_cc (n_ce sL xs (63 + r)))))) r - 99) % n_c (upd (upd g (288 + r) (nI (n_cc (n_ce sL xs (63 + r))))) (291 + r) (nI (n_p g r % (n_cc (n_ce sL xs (63 + r)))))) r))))), (rs, .inl (cI, 2310, .inl (n_push (upd (upd g (288 + r) (nI (n_cc (n_ce sL xs (63 + r))))) (291 + r) (nI (n_p g r % (n_cc (n_ce sL xs (63 + r)))))) (n_push g sg)))), (oR, .inr (2, [.ref oS]))] := hD
          obtain rfl := hw_37
          rw [hnc, hnp, Nat.zero_add] at hP hD
          have hP : va_P (dC, dI) vwCl [(pa, .inl (cI, 8, .inl (upd (upd pg r (nI (n_cc (n_ce sL xs (63 + r))))) (3 + r) (nI (((n_lw ((n_ce sL xs (63 + r)) >>> (7 &&& 31)) 199) + 100 * (n_cc (n_ce sL xs (63 + r))) - 99) % (n_cc (n_ce sL xs (63 + r)))))))), (oX, .inr (5, [.ref oS, .ref oR, .ref oN, .ref o2, .ref oF, .ref oT])), (oS, .inr (3, [.ref rv, .ref rs, .int (nI (min ((min (kn + 1) 6) + 1) 6))])), (rv, .inl (cI, 385, .inl (upd (upd (upd g (288 + r) (nI (n_cc (n_ce sL xs (63 + r))))) (291 + r) (nI (n_p g r % (n_cc (n_ce sL xs (63 + r)))))) (291 + r) (nI (((n_lw ((n_ce sL xs (63 + r)) >>> (7 &&& 31)) 199) + 100 * (n_cc (n_ce sL xs (63 + r))) - 99) % (n_cc (n_ce sL xs (63 + r)))))))), (rs, .inl (cI, 2310, .inl (n_push (upd (upd g (288 + r) (nI (n_cc (n_ce sL xs (63 + r))))) (291 + r) (nI (n_p g r % (n_cc (n_ce sL xs (63 + r)))))) (n_push g sg)))), (oR, .inr (2, [.ref oS]))] H := hP
          have hD : va_D A [(pa, .inl (cI, 8, .inl (upd (upd pg r (nI (n_cc (n_ce sL xs (63 + r))))) (3 + r) (nI (((n_lw ((n_ce sL xs (63 + r)) >>> (7 &&& 31)) 199) + 100 * (n_cc (n_ce sL xs (63 + r))) - 99) % (n_cc (n_ce sL xs (63 + r)))))))), (oX, .inr (5, [.ref oS, .ref oR, .ref oN, .ref o2, .ref oF, .ref oT])), (oS, .inr (3, [.ref rv, .ref rs, .int (nI (min ((min (kn + 1) 6) + 1) 6))])), (rv, .inl (cI, 385, .inl (upd (upd (upd g (288 + r) (nI (n_cc (n_ce sL xs (63 + r))))) (291 + r) (nI (n_p g r % (n_cc (n_ce sL xs (63 + r)))))) (291 + r) (nI (((n_lw ((n_ce sL xs (63 + r)) >>> (7 &&& 31)) 199) + 100 * (n_cc (n_ce sL xs (63 + r))) - 99) % (n_cc (n_ce sL xs (63 + r)))))))), (rs, .inl (cI, 2310, .inl (n_push (upd (upd g (288 + r) (nI (n_cc (n_ce sL xs (63 + r))))) (291 + r) (nI (n_p g r % (n_cc (n_ce sL xs (63 + r)))))) (n_push g sg)))), (oR, .inr (2, [.ref oS]))] := hD
          refine kq_top (z := nI (((n_lw ((n_ce sL xs (63 + r)) >>> (7 &&& 31)) 199) + 100 * (n_cc (n_ce sL xs (63 + r))) - 99) % (n_cc (n_ce sL xs (63 + r))))) (by rw [hnc, hnp, Nat.zero_add]) ?_
          refine lv_aload_n hx hb dL_setUp_141 rfl (lv_at hl 5 rfl) ?_
          refine lv_iconst (v := 3) hx hb dL_setUp_142 (by decide) ?_
          refine lv_iload hx hb dL_setUp_143 (lv_at hl 6 rfl) ?_
          refine lv_iadd hx hb dL_setUp_145 ?_
          refine kq_top (z := nI (3 + r)) (nI_add 3 r) ?_
          refine va_iald hx hb hK.1 hP 0 0 rfl rfl (vp_in_nI (show 3 + r < 8 from by omega) (by omega)) dL_setUp_146 ?_
          refine kq_top (z := (upd (upd pg r (nI (n_cc (n_ce sL xs (63 + r))))) (3 + r) (nI (((n_lw ((n_ce sL xs (63 + r)) >>> (7 &&& 31)) 199) + 100 * (n_cc (n_ce sL xs (63 + r))) - 99) % (n_cc (n_ce sL xs (63 + r)))))) (3 + r)) (congrArg (upd (upd pg r (nI (n_cc (n_ce sL xs (63 + r))))) (3 + r) (nI (((n_lw ((n_ce sL xs (63 + r)) >>> (7 &&& 31)) 199) + 100 * (n_cc (n_ce sL xs (63 + r))) - 99) % (n_cc (n_ce sL xs (63 + r)))))) (nI_clamp (Nat.lt_trans (show 3 + r < 8 from by omega) (by omega)))) ?_
          refine kq_top (z := nI (((n_lw ((n_ce sL xs (63 + r)) >>> (7 &&& 31)) 199) + 100 * (n_cc (n_ce sL xs (63 + r))) - 99) % (n_cc (n_ce sL xs (63 + r))))) (pk_us) ?_
          refine lv_icmp_ne (tgt := 170) hx hb dL_setUp_147 (by decide) (fun c_38 => ?_) (fun c_38 => ?_)
          · skip
            have c_38 := kq_neN (a := (((n_lw ((n_ce sL xs (63 + r)) >>> (7 &&& 31)) 199) + 100 * (n_cc (n_ce sL xs (63 + r))) - 99) % (n_cc (n_ce sL xs (63 + r))))) (b := (((n_lw ((n_ce sL xs (63 + r)) >>> (7 &&& 31)) 199) + 100 * (n_cc (n_ce sL xs (63 + r))) - 99) % (n_cc (n_ce sL xs (63 + r))))) c_38 (by omega) (by omega)
            exact absurd c_38 (by omega)
          · skip
            have c_38 := kq_eqN (a := (((n_lw ((n_ce sL xs (63 + r)) >>> (7 &&& 31)) 199) + 100 * (n_cc (n_ce sL xs (63 + r))) - 99) % (n_cc (n_ce sL xs (63 + r))))) (b := (((n_lw ((n_ce sL xs (63 + r)) >>> (7 &&& 31)) 199) + 100 * (n_cc (n_ce sL xs (63 + r))) - 99) % (n_cc (n_ce sL xs (63 + r))))) c_38 (by omega) (by omega)
            refine lv_aload_n hx hb dL_setUp_150 rfl (lv_at hl 3 rfl) ?_
            refine lv_iload hx hb dL_setUp_151 (lv_at hl 6 rfl) ?_
            refine lv_iconst (v := 1) hx hb dL_setUp_153 (by decide) ?_
            refine kq_callMi (wr := [(pa, .inl (cI, 8, .inl (upd (upd pg r (nI (n_cc (n_ce sL xs (63 + r))))) (3 + r) (nI (((n_lw ((n_ce sL xs (63 + r)) >>> (7 &&& 31)) 199) + 100 * (n_cc (n_ce sL xs (63 + r))) - 99) % (n_cc (n_ce sL xs (63 + r)))))))), (rs, .inl (cI, 2310, .inl (n_push (upd (upd g (288 + r) (nI (n_cc (n_ce sL xs (63 + r))))) (291 + r) (nI (n_p g r % (n_cc (n_ce sL xs (63 + r)))))) (n_push g sg))))]) (va_runV (As := [.int (nI r), .int 1]) (rest := []) ⟨hx, hb, hml, hown, hts⟩ (c_X5_roll l dC dI cI H.size oX oS oR oN o2 oF oT rv rs (min ((min (kn + 1) 6) + 1) 6) (upd (upd (upd g (288 + r) (nI (n_cc (n_ce sL xs (63 + r))))) (291 + r) (nI (n_p g r % (n_cc (n_ce sL xs (63 + r)))))) (291 + r) (nI (((n_lw ((n_ce sL xs (63 + r)) >>> (7 &&& 31)) 199) + 100 * (n_cc (n_ce sL xs (63 + r))) - 99) % (n_cc (n_ce sL xs (63 + r)))))) r 1 (by first | assumption | omega) (by first | assumption | omega) (by first | assumption | omega)) (cwV 2 hts gL_setUp_X5_roll rfl rfl rfl (by decide +kernel) ⟨Nat.le_of_ble_eq_true rfl, Nat.le_of_ble_eq_true rfl⟩) (kq_preV (ci := 5) (q0 := 0) (hP.sub [1, 2, 3, 5] rfl) (hD.sub [1, 2, 3, 5] (by decide) rfl) hK rfl rfl) rfl rfl hl.1 rfl (lv_room (Nat.le_of_ble_eq_true rfl)) dL_setUp_154 ⟨Nat.le_of_ble_eq_true rfl, Nat.le_of_ble_eq_true rfl⟩) hP hD hS hA [1, 2, 3, 5] [0, 4] rfl rfl (by decide) (by decide) (fun r_39 u_40 H locs hw_41 hP hD hS => ?_)
            have hP : va_P (dC, dI) vwCl [(pa, .inl (cI, 8, .inl (upd (upd pg r (nI (n_cc (n_ce sL xs (63 + r))))) (3 + r) (nI (((n_lw ((n_ce sL xs (63 + r)) >>> (7 &&& 31)) 199) + 100 * (n_cc (n_ce sL xs (63 + r))) - 99) % (n_cc (n_ce sL xs (63 + r)))))))), (rs, .inl (cI, 2310, .inl (n_push (upd (upd g (288 + r) (nI (n_cc (n_ce sL xs (63 + r))))) (291 + r) (nI (n_p g r % (n_cc (n_ce sL xs (63 + r)))))) (n_push g sg)))), (oX, .inr (5, [.ref oS, .ref oR, .ref oN, .ref o2, .ref oF, .ref oT])), (oS, .inr (3, [.ref rv, .ref rs, .int (nI (min ((min (kn + 1) 6) + 1) 6))])), (rv, .inl (cI, 385, .inl (upd (upd (upd g (288 + r) (nI (n_cc (n_ce sL xs (63 + r))))) (291 + r) (nI (n_p g r % (n_cc (n_ce sL xs (63 + r)))))) (291 + r) (nI (((n_lw ((n_ce sL xs (63 + r)) >>> (7 &&& 31)) 199) + 100 * (n_cc (n_ce sL xs (63 + r))) - 99) % (n_cc (n_ce sL xs (63 + r)))))))), (oR, .inr (2, [.ref oS]))] H := hP
            have hD : va_D A [(pa, .inl (cI, 8, .inl (upd (upd pg r (nI (n_cc (n_ce sL xs (63 + r))))) (3 + r) (nI (((n_lw ((n_ce sL xs (63 + r)) >>> (7 &&& 31)) 199) + 100 * (n_cc (n_ce sL xs (63 + r))) - 99) % (n_cc (n_ce sL xs (63 + r)))))))), (rs, .inl (cI, 2310, .inl (n_push (upd (upd g (288 + r) (nI (n_cc (n_ce sL xs (63 + r))))) (291 + r) (nI (n_p g r % (n_cc (n_ce sL xs (63 + r)))))) (n_push g sg)))), (oX, .inr (5, [.ref oS, .ref oR, .ref oN, .ref o2, .ref oF, .ref oT])), (oS, .inr (3, [.ref rv, .ref rs, .int (nI (min ((min (kn + 1) 6) + 1) 6))])), (rv, .inl (cI, 385, .inl (upd (upd (upd g (288 + r) (nI (n_cc (n_ce sL xs (63 + r))))) (291 + r) (nI (n_p g r % (n_cc (n_ce sL xs (63 + r)))))) (291 + r) (nI (((n_lw ((n_ce sL xs (63 + r)) >>> (7 &&& 31)) 199) + 100 * (n_cc (n_ce sL xs (63 + r))) - 99) % (n_cc (n_ce sL xs (63 + r)))))))), (oR, .inr (2, [.ref oS]))] := hD
            obtain rfl := hw_41
            refine kq_top (z := nI (((n_lw ((n_ce sL xs (63 + r)) >>> (7 &&& 31)) 199) + 100 * (n_cc (n_ce sL xs (63 + r))) - 99) % (n_cc (n_ce sL xs (63 + r))))) (n_roll_1.trans pk_us) ?_
            refine lv_aload_n hx hb dL_setUp_157 rfl (lv_at hl 5 rfl) ?_
            refine lv_iconst (v := 3) hx hb dL_setUp_158 (by decide) ?_
            refine lv_iload hx hb dL_setUp_159 (lv_at hl 6 rfl) ?_
            refine lv_iadd hx hb dL_setUp_161 ?_
            refine kq_top (z := nI (3 + r)) (nI_add 3 r) ?_
            refine va_iald hx hb hK.1 hP 0 0 rfl rfl (vp_in_nI (show 3 + r < 8 from by omega) (by omega)) dL_setUp_162 ?_
            refine kq_top (z := (upd (upd pg r (nI (n_cc (n_ce sL xs (63 + r))))) (3 + r) (nI (((n_lw ((n_ce sL xs (63 + r)) >>> (7 &&& 31)) 199) + 100 * (n_cc (n_ce sL xs (63 + r))) - 99) % (n_cc (n_ce sL xs (63 + r)))))) (3 + r)) (congrArg (upd (upd pg r (nI (n_cc (n_ce sL xs (63 + r))))) (3 + r) (nI (((n_lw ((n_ce sL xs (63 + r)) >>> (7 &&& 31)) 199) + 100 * (n_cc (n_ce sL xs (63 + r))) - 99) % (n_cc (n_ce sL xs (63 + r)))))) (nI_clamp (Nat.lt_trans (show 3 + r < 8 from by omega) (by omega)))) ?_
            refine kq_top (z := nI (((n_lw ((n_ce sL xs (63 + r)) >>> (7 &&& 31)) 199) + 100 * (n_cc (n_ce sL xs (63 + r))) - 99) % (n_cc (n_ce sL xs (63 + r))))) (pk_us) ?_
            refine lv_icmp_ne (tgt := 170) hx hb dL_setUp_163 (by decide) (fun c_42 => ?_) (fun c_42 => ?_)
            · skip
              have c_42 := kq_neN (a := (((n_lw ((n_ce sL xs (63 + r)) >>> (7 &&& 31)) 199) + 100 * (n_cc (n_ce sL xs (63 + r))) - 99) % (n_cc (n_ce sL xs (63 + r))))) (b := (((n_lw ((n_ce sL xs (63 + r)) >>> (7 &&& 31)) 199) + 100 * (n_cc (n_ce sL xs (63 + r))) - 99) % (n_cc (n_ce sL xs (63 + r))))) c_42 (by omega) (by omega)
              exact absurd c_42 (by omega)
            · skip
              have c_42 := kq_eqN (a := (((n_lw ((n_ce sL xs (63 + r)) >>> (7 &&& 31)) 199) + 100 * (n_cc (n_ce sL xs (63 + r))) - 99) % (n_cc (n_ce sL xs (63 + r))))) (b := (((n_lw ((n_ce sL xs (63 + r)) >>> (7 &&& 31)) 199) + 100 * (n_cc (n_ce sL xs (63 + r))) - 99) % (n_cc (n_ce sL xs (63 + r))))) c_42 (by omega) (by omega)
              refine lv_iconst (v := 1) hx hb dL_setUp_166 (by decide) ?_
              refine lv_goto (tgt := 171) hx hb dL_setUp_167 (by decide) ?_
              refine lv_istore_n (lv' := [(3, .int 1), (6, .int ((nI (n_lw ((n_ce sL xs (63 + r)) >>> (7 &&& 31)) 199)) - 99)), (5, .int (n_ce sL xs (63 + r))), (0, .ref oX), (1, .ref sb), (2, .ref pa), (4, .int (nI r))]) hx hb dL_setUp_171 rfl hl (by decide) rfl (fun ls hl => ?_)
              refine lv_iinc (v := nI (r + 1)) (lv' := [(4, .int (nI (r + 1))), (3, .int 1), (6, .int ((nI (n_lw ((n_ce sL xs (63 + r)) >>> (7 &&& 31)) 199)) - 99)), (5, .int (n_ce sL xs (63 + r))), (0, .ref oX), (1, .ref sb), (2, .ref pa)]) hx hb dL_setUp_172 hl (k := 6) rfl (nI_1 r) (by decide) rfl (fun ls hl => ?_)
              refine lv_goto (tgt := 5) hx hb dL_setUp_175 (by decide) ?_
              exact ih_1 (r + 1) (upd (upd (upd g (288 + r) (nI (n_cc (n_ce sL xs (63 + r))))) (291 + r) (nI (n_p g r % (n_cc (n_ce sL xs (63 + r)))))) (291 + r) (nI (((n_lw ((n_ce sL xs (63 + r)) >>> (7 &&& 31)) 199) + 100 * (n_cc (n_ce sL xs (63 + r))) - 99) % (n_cc (n_ce sL xs (63 + r)))))) (n_push (upd (upd g (288 + r) (nI (n_cc (n_ce sL xs (63 + r))))) (291 + r) (nI (n_p g r % (n_cc (n_ce sL xs (63 + r)))))) (n_push g sg)) (min ((min (kn + 1) 6) + 1) 6) (upd (upd pg r (nI (n_cc (n_ce sL xs (63 + r))))) (3 + r) (nI (((n_lw ((n_ce sL xs (63 + r)) >>> (7 &&& 31)) 199) + 100 * (n_cc (n_ce sL xs (63 + r))) - 99) % (n_cc (n_ce sL xs (63 + r)))))) ⟨(by omega), (by exact hI2), (by intro j hj; rw [n_pp_o (by omega) (by omega)]; exact iw j hj), (by intro j h1 h2; rw [n_pp_o (by omega) (by omega), n_pp_o (by omega) (by omega)]; exact i0 j (by omega) h2), (by exact n_pp_s hrr ip), (by rw [n_pp_o (by omega) (by omega), n_pp_o (by omega) (by omega), n_pp_o (by omega) (by omega)]; exact is)⟩ (by show 3 - (r + 1) < 3 - r; omega) _ _ (hP.sub [2, 3, 4, 1, 5, 0] rfl) (hD.sub [2, 3, 4, 1, 5, 0] (by decide) rfl) hS _ (lv_sub hl [4, 5, 6, 1, 0] rfl)
    · skip
      refine lv_if_ne (tgt := 39) hx hb dL_setUp_31 (by decide) (fun c_43 => ?_) (fun c_43 => ?_)
      · skip
        have c_43 := kq_neN (a := (n_lw (n_ce sL xs (63 + r)) 3)) (b := 0) c_43 (by omega) (by omega)
        refine lv_iconst (v := 4) hx hb dL_setUp_39 (by decide) ?_
        refine lv_iload hx hb dL_setUp_40 (lv_at hl 0 rfl) ?_
        refine lv_iconst (v := 2) hx hb dL_setUp_42 (by decide) ?_
        refine lv_ishr hx hb dL_setUp_43 ?_
        refine lv_bipush (v := 13) hx hb dL_setUp_44 (by decide) ?_
        refine kq_cS (As := [.int ((n_ce sL xs (63 + r)) >>> (2 &&& 31)), .int 13]) (rest := [.int 4, .int (nI r), .ref pa]) ⟨hx, hb, hml, hown, hts⟩ (c_L_low l dC dI cI ((n_ce sL xs (63 + r)) >>> (2 &&& 31)) 13 (by first | assumption | omega) (by first | assumption | omega)) (va_cwS 2 hts gL_setUp_L_low rfl rfl rfl (by decide +kernel) ⟨Nat.le_of_ble_eq_true rfl, Nat.le_of_ble_eq_true rfl⟩) (hP.sub [] rfl) hK rfl hl.1 rfl (Nat.le_of_ble_eq_true rfl) dL_setUp_46 ⟨Nat.le_of_ble_eq_true rfl, Nat.le_of_ble_eq_true rfl⟩ ?_
        refine lv_iadd hx hb dL_setUp_49 ?_
        refine kq_top (z := nI (4 + (n_lw ((n_ce sL xs (63 + r)) >>> (2 &&& 31)) 13))) (nI_add 4 (n_lw ((n_ce sL xs (63 + r)) >>> (2 &&& 31)) 13)) ?_
        refine kq_top (z := nI (n_cc (n_ce sL xs (63 + r)))) (by rw [n_cc]; first | exact congrArg nI (if_pos (by assumption)).symm | exact congrArg nI (if_neg (by assumption)).symm) ?_
        exact hJ_24 _ (lv_sub hl [0, 1, 2, 3, 4, 5] rfl)
      · skip
        have c_43 := kq_eqN (a := (n_lw (n_ce sL xs (63 + r)) 3)) (b := 0) c_43 (by omega) (by omega)
        refine lv_bipush (v := 12) hx hb dL_setUp_34 (by decide) ?_
        refine lv_goto (tgt := 50) hx hb dL_setUp_36 (by decide) ?_
        refine kq_top (z := nI (n_cc (n_ce sL xs (63 + r)))) (by rw [n_cc]; first | exact congrArg nI (if_pos (by assumption)).symm | exact congrArg nI (if_neg (by assumption)).symm) ?_
        exact hJ_24 _ (lv_sub hl [0, 1, 2, 3, 4, 5] rfl)
