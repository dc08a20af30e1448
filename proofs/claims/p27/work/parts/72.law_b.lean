/-! The law's loop. -/
/-! Loops of many variables. -/
section KQL2
variable {p : Program} {l : Launch} {e : Env} {R : Room} {s : State} {m : MethodId} {args : Array Value} {below : List Frame} {meth : Method} {c : Code} {H : Heap} {locs : List Loc} {cells slots : Nat} {Q : State → Prop} {nL pc : Nat} {dC : Nat → ClassId} {dI : Nat → Nat → Nat} {cI : ClassId} {A : Nat → Prop}
theorem kq_loopM12 {A1 A2 A3 A4 A5 A6 A7 A8 A9 A10 A11 A12 : Type} (μ : A1 → A2 → A3 → A4 → A5 → A6 → A7 → A8 → A9 → A10 → A11 → A12 → Nat) (I : A1 → A2 → A3 → A4 → A5 → A6 → A7 → A8 → A9 → A10 → A11 → A12 → Prop) (L : A1 → A2 → A3 → A4 → A5 → A6 → A7 → A8 → A9 → A10 → A11 → A12 → List (Nat × Value)) (Wd : A1 → A2 → A3 → A4 → A5 → A6 → A7 → A8 → A9 → A10 → A11 → A12 → va_W) (hK : kq_K dC dI cI s) (step : ∀ (a1 : A1) (a2 : A2) (a3 : A3) (a4 : A4) (a5 : A5) (a6 : A6) (a7 : A7) (a8 : A8) (a9 : A9) (a10 : A10) (a11 : A11) (a12 : A12), I a1 a2 a3 a4 a5 a6 a7 a8 a9 a10 a11 a12 → (∀ (b1 : A1) (b2 : A2) (b3 : A3) (b4 : A4) (b5 : A5) (b6 : A6) (b7 : A7) (b8 : A8) (b9 : A9) (b10 : A10) (b11 : A11) (b12 : A12), I b1 b2 b3 b4 b5 b6 b7 b8 b9 b10 b11 b12 → μ b1 b2 b3 b4 b5 b6 b7 b8 b9 b10 b11 b12 < μ a1 a2 a3 a4 a5 a6 a7 a8 a9 a10 a11 a12 → ∀ (H : Heap) (locs : List Loc), va_P (dC, dI) vwCl (Wd b1 b2 b3 b4 b5 b6 b7 b8 b9 b10 b11 b12) H → va_D A (Wd b1 b2 b3 b4 b5 b6 b7 b8 b9 b10 b11 b12) → va_S A s.heap H locs → ∀ ls : Array Slot, lv_has ls nL (L b1 b2 b3 b4 b5 b6 b7 b8 b9 b10 b11 b12) → W p l e R s m args below meth c H locs cells slots Q (F0 m pc ls [])) → ∀ (H : Heap) (locs : List Loc), va_P (dC, dI) vwCl (Wd a1 a2 a3 a4 a5 a6 a7 a8 a9 a10 a11 a12) H → va_D A (Wd a1 a2 a3 a4 a5 a6 a7 a8 a9 a10 a11 a12) → va_S A s.heap H locs → ∀ ls : Array Slot, lv_has ls nL (L a1 a2 a3 a4 a5 a6 a7 a8 a9 a10 a11 a12) → W p l e R s m args below meth c H locs cells slots Q (F0 m pc ls [])) (a1 : A1) (a2 : A2) (a3 : A3) (a4 : A4) (a5 : A5) (a6 : A6) (a7 : A7) (a8 : A8) (a9 : A9) (a10 : A10) (a11 : A11) (a12 : A12) (h0 : I a1 a2 a3 a4 a5 a6 a7 a8 a9 a10 a11 a12) (hP : va_P (dC, dI) vwCl (Wd a1 a2 a3 a4 a5 a6 a7 a8 a9 a10 a11 a12) H) (hD : va_D A (Wd a1 a2 a3 a4 a5 a6 a7 a8 a9 a10 a11 a12)) (hS : va_S A s.heap H locs) (ls : Array Slot) (hl : lv_has ls nL (L a1 a2 a3 a4 a5 a6 a7 a8 a9 a10 a11 a12)) : W p l e R s m args below meth c H locs cells slots Q (F0 m pc ls []) := by
  have key : ∀ (n : Nat) (a1 : A1) (a2 : A2) (a3 : A3) (a4 : A4) (a5 : A5) (a6 : A6) (a7 : A7) (a8 : A8) (a9 : A9) (a10 : A10) (a11 : A11) (a12 : A12), μ a1 a2 a3 a4 a5 a6 a7 a8 a9 a10 a11 a12 < n → I a1 a2 a3 a4 a5 a6 a7 a8 a9 a10 a11 a12 → ∀ (H : Heap) (locs : List Loc), va_P (dC, dI) vwCl (Wd a1 a2 a3 a4 a5 a6 a7 a8 a9 a10 a11 a12) H → va_D A (Wd a1 a2 a3 a4 a5 a6 a7 a8 a9 a10 a11 a12) → va_S A s.heap H locs → ∀ ls : Array Slot, lv_has ls nL (L a1 a2 a3 a4 a5 a6 a7 a8 a9 a10 a11 a12) → W p l e R s m args below meth c H locs cells slots Q (F0 m pc ls []) := by
    intro n
    induction n with
    | zero => intro a1 a2 a3 a4 a5 a6 a7 a8 a9 a10 a11 a12 h; exact absurd h (Nat.not_lt_zero _)
    | succ n ih =>
      intro a1 a2 a3 a4 a5 a6 a7 a8 a9 a10 a11 a12 h hi H locs hP hD hS ls hl
      exact step a1 a2 a3 a4 a5 a6 a7 a8 a9 a10 a11 a12 hi (fun b1 b2 b3 b4 b5 b6 b7 b8 b9 b10 b11 b12 hb hm H locs hP hD hS ls hl => ih b1 b2 b3 b4 b5 b6 b7 b8 b9 b10 b11 b12 (Nat.lt_of_lt_of_le hm (Nat.le_of_lt_succ h)) hb H locs hP hD hS ls hl) H locs hP hD hS ls hl
  exact key (μ a1 a2 a3 a4 a5 a6 a7 a8 a9 a10 a11 a12 + 1) a1 a2 a3 a4 a5 a6 a7 a8 a9 a10 a11 a12 (Nat.lt_succ_self _) h0 H locs hP hD hS ls hl
end KQL2
set_option maxHeartbeats 32000000 in
set_option maxRecDepth 100000 in
theorem kl_loop {p : Program} {l : Launch} {e : Env} {s : State} {m : MethodId} {below : List Frame} {meth : Method} {c : Code} {sb sL : Nat} {xs : Nat → Int32} {dC : Nat → ClassId} {dI : Nat → Nat → Nat} {cI : ClassId} {oX oS oR oN o2 oF oT rv rs rp rt rl q1 q2 q3 pa qa : Nat} (C0 : kl_C p s m meth c sb sL xs dC dI cI) : ∀ (e9 : Nat) (kc : Nat) (v : Nat → Int32) (sv : Nat → Int32) (fp : Nat → Int32) (ft : Nat → Int32) (fl : Nat → Int32) (z1 : Nat → Int32) (z2 : Nat → Int32) (z3 : Nat → Int32) (pf : Nat → Int32) (qf : Nat → Int32), e9 ≤ 5 → kc ≤ 6 → n_I v → n_ww sL xs v → n_pp v pf → ∀ (H : Heap) (locs : List Loc), va_P (dC, dI) vwCl [(oX, .inr (5, [.ref oS, .ref oR, .ref oN, .ref o2, .ref oF, .ref oT])), (oS, .inr (3, [.ref rv, .ref rs, .int (nI kc)])), (rv, .inl (cI, 385, .inl v)), (rs, .inl (cI, 2310, .inl sv)), (oR, .inr (2, [.ref oS])), (oF, .inr (0, [.ref oS, .ref oN])), (oN, .inr (1, [.ref oS, .ref rp, .ref rt, .ref rl])), (rp, .inl (cI, 72, .inl fp)), (rt, .inl (cI, 72, .inl ft)), (rl, .inl (cI, 72, .inl fl)), (o2, .inr (1, [.ref oS, .ref q1, .ref q2, .ref q3])), (q1, .inl (cI, 72, .inl z1)), (q2, .inl (cI, 72, .inl z2)), (q3, .inl (cI, 72, .inl z3)), (pa, .inl (cI, 8, .inl pf)), (qa, .inl (cI, 4, .inl qf))] H → va_D (fun q => s.heap.size ≤ q) [(oX, .inr (5, [.ref oS, .ref oR, .ref oN, .ref o2, .ref oF, .ref oT])), (oS, .inr (3, [.ref rv, .ref rs, .int (nI kc)])), (rv, .inl (cI, 385, .inl v)), (rs, .inl (cI, 2310, .inl sv)), (oR, .inr (2, [.ref oS])), (oF, .inr (0, [.ref oS, .ref oN])), (oN, .inr (1, [.ref oS, .ref rp, .ref rt, .ref rl])), (rp, .inl (cI, 72, .inl fp)), (rt, .inl (cI, 72, .inl ft)), (rl, .inl (cI, 72, .inl fl)), (o2, .inr (1, [.ref oS, .ref q1, .ref q2, .ref q3])), (q1, .inl (cI, 72, .inl z1)), (q2, .inl (cI, 72, .inl z2)), (q3, .inl (cI, 72, .inl z3)), (pa, .inl (cI, 8, .inl pf)), (qa, .inl (cI, 4, .inl qf))] → va_S (fun q => s.heap.size ≤ q) s.heap H locs → ∀ ls : Array Slot, lv_has ls 16 [(0, .ref sb), (1, .ref oX), (2, .ref pa), (3, .ref qa), (4, .int (nI e9))] → W p l e room_1 s m #[Value.ref sb] below meth c H locs 24 3221 (lw_Z below #[Value.ref sb] s) (F0 m 54 ls []) := by
  intro e9 kc v sv fp ft fl z1 z2 z3 pf qf he9 hkc hI hW hp H locs hP hD hS ls hl
  obtain ⟨⟨hx, hb, hr, hml, hown, hts0, hX, hbl, hlocks, hgv⟩, hL, hK⟩ := id C0
  have hown : s.vm.findClass RL = some m.cls := hown
  have hb : c.code = cL_law := hb
  have hts : ∀ w ∈ wsL_law, w.before #[Value.ref sb] s = true := fun w h => hts0 w (wsL_law_in w h)
  have hA : ∀ q : Nat, s.heap.size ≤ q → (fun q => s.heap.size ≤ q) q := fun _ h => h
  have hbA : ¬ (fun q => s.heap.size ≤ q) sb := Nat.not_le.mpr hbl
  generalize hAe : (fun q => s.heap.size ≤ q) = A at hP hD hS hA hbA
  refine kq_loopM12 (A1 := Nat) (A2 := Nat) (A3 := Nat → Int32) (A4 := Nat → Int32) (A5 := Nat → Int32) (A6 := Nat → Int32) (A7 := Nat → Int32) (A8 := Nat → Int32) (A9 := Nat → Int32) (A10 := Nat → Int32) (A11 := Nat → Int32) (A12 := Nat → Int32) (fun (e9 : Nat) (kc : Nat) (v : Nat → Int32) (sv : Nat → Int32) (fp : Nat → Int32) (ft : Nat → Int32) (fl : Nat → Int32) (z1 : Nat → Int32) (z2 : Nat → Int32) (z3 : Nat → Int32) (pf : Nat → Int32) (qf : Nat → Int32) => 5 - e9) (fun (e9 : Nat) (kc : Nat) (v : Nat → Int32) (sv : Nat → Int32) (fp : Nat → Int32) (ft : Nat → Int32) (fl : Nat → Int32) (z1 : Nat → Int32) (z2 : Nat → Int32) (z3 : Nat → Int32) (pf : Nat → Int32) (qf : Nat → Int32) => (e9 ≤ 5) ∧ (kc ≤ 6) ∧ (n_I v) ∧ (n_ww sL xs v) ∧ (n_pp v pf)) (fun (e9 : Nat) (kc : Nat) (v : Nat → Int32) (sv : Nat → Int32) (fp : Nat → Int32) (ft : Nat → Int32) (fl : Nat → Int32) (z1 : Nat → Int32) (z2 : Nat → Int32) (z3 : Nat → Int32) (pf : Nat → Int32) (qf : Nat → Int32) => [(0, .ref sb), (1, .ref oX), (2, .ref pa), (3, .ref qa), (4, .int (nI e9))]) (fun (e9 : Nat) (kc : Nat) (v : Nat → Int32) (sv : Nat → Int32) (fp : Nat → Int32) (ft : Nat → Int32) (fl : Nat → Int32) (z1 : Nat → Int32) (z2 : Nat → Int32) (z3 : Nat → Int32) (pf : Nat → Int32) (qf : Nat → Int32) => [(oX, .inr (5, [.ref oS, .ref oR, .ref oN, .ref o2, .ref oF, .ref oT])), (oS, .inr (3, [.ref rv, .ref rs, .int (nI kc)])), (rv, .inl (cI, 385, .inl v)), (rs, .inl (cI, 2310, .inl sv)), (oR, .inr (2, [.ref oS])), (oF, .inr (0, [.ref oS, .ref oN])), (oN, .inr (1, [.ref oS, .ref rp, .ref rt, .ref rl])), (rp, .inl (cI, 72, .inl fp)), (rt, .inl (cI, 72, .inl ft)), (rl, .inl (cI, 72, .inl fl)), (o2, .inr (1, [.ref oS, .ref q1, .ref q2, .ref q3])), (q1, .inl (cI, 72, .inl z1)), (q2, .inl (cI, 72, .inl z2)), (q3, .inl (cI, 72, .inl z3)), (pa, .inl (cI, 8, .inl pf)), (qa, .inl (cI, 4, .inl qf))]) (nL := 16) hK ?_ e9 kc v sv fp ft fl z1 z2 z3 pf qf ⟨(by exact he9), (by exact hkc), (by exact hI), (by exact hW), (by exact hp)⟩ hP hD hS _ (lv_sub hl [0, 1, 2, 3, 4] rfl)
  intro e9 kc v sv fp ft fl z1 z2 z3 pf qf hi_2 ih_1 H locs hP hD hS ls hl
  obtain ⟨he9, hkc, hI, hW, hp⟩ := hi_2
  have hl : lv_has ls 16 [(0, .ref sb), (1, .ref oX), (2, .ref pa), (3, .ref qa), (4, .int (nI e9))] := hl
  have hP : va_P (dC, dI) vwCl [(oX, .inr (5, [.ref oS, .ref oR, .ref oN, .ref o2, .ref oF, .ref oT])), (oS, .inr (3, [.ref rv, .ref rs, .int (nI kc)])), (rv, .inl (cI, 385, .inl v)), (rs, .inl (cI, 2310, .inl sv)), (oR, .inr (2, [.ref oS])), (oF, .inr (0, [.ref oS, .ref oN])), (oN, .inr (1, [.ref oS, .ref rp, .ref rt, .ref rl])), (rp, .inl (cI, 72, .inl fp)), (rt, .inl (cI, 72, .inl ft)), (rl, .inl (cI, 72, .inl fl)), (o2, .inr (1, [.ref oS, .ref q1, .ref q2, .ref q3])), (q1, .inl (cI, 72, .inl z1)), (q2, .inl (cI, 72, .inl z2)), (q3, .inl (cI, 72, .inl z3)), (pa, .inl (cI, 8, .inl pf)), (qa, .inl (cI, 4, .inl qf))] H := hP
  have hD : va_D A [(oX, .inr (5, [.ref oS, .ref oR, .ref oN, .ref o2, .ref oF, .ref oT])), (oS, .inr (3, [.ref rv, .ref rs, .int (nI kc)])), (rv, .inl (cI, 385, .inl v)), (rs, .inl (cI, 2310, .inl sv)), (oR, .inr (2, [.ref oS])), (oF, .inr (0, [.ref oS, .ref oN])), (oN, .inr (1, [.ref oS, .ref rp, .ref rt, .ref rl])), (rp, .inl (cI, 72, .inl fp)), (rt, .inl (cI, 72, .inl ft)), (rl, .inl (cI, 72, .inl fl)), (o2, .inr (1, [.ref oS, .ref q1, .ref q2, .ref q3])), (q1, .inl (cI, 72, .inl z1)), (q2, .inl (cI, 72, .inl z2)), (q3, .inl (cI, 72, .inl z3)), (pa, .inl (cI, 8, .inl pf)), (qa, .inl (cI, 4, .inl qf))] := hD
  refine lv_iload hx hb dL_law_54 (lv_at hl 4 rfl) ?_
  refine lv_iconst (v := 5) hx hb dL_law_56 (by decide) ?_
  refine lv_icmp_ge (tgt := 629) hx hb dL_law_57 (by decide) (fun c_3 => ?_) (fun c_3 => ?_)
  · skip
    have c_3 := kq_leN (a := 5) (b := e9) c_3 (by omega) (by omega)
    subst hAe
    exact kl_tail C0 kc v sv fp ft fl z1 z2 z3 pf qf hkc hI hW hp _ _ (hP.sub [0, 1, 2, 3, 4, 5, 6, 7, 8, 9, 10, 11, 12, 13, 14, 15] rfl) (hD.sub [0, 1, 2, 3, 4, 5, 6, 7, 8, 9, 10, 11, 12, 13, 14, 15] (by decide) rfl) hS ls (lv_sub hl [0, 1, 2] rfl)
  · skip
    have c_3 := kq_nleN (a := 5) (b := e9) c_3 (by omega) (by omega)
    refine lv_aload_n hx hb dL_law_60 rfl (lv_at hl 0 rfl) ?_
    refine lv_bipush (v := 68) hx hb dL_law_61 (by decide) ?_
    refine lv_iload hx hb dL_law_63 (lv_at hl 4 rfl) ?_
    refine lv_iadd hx hb dL_law_65 ?_
    refine kq_top (z := nI (68 + e9)) (nI_add 68 e9) ?_
    refine kq_cSX (As := [.ref sb, .int (nI (68 + e9))]) (rest := []) ⟨hx, hb, hml, hown, hts⟩ (c_L_cell l dC dI cI sb sL xs (68 + e9) (by first | assumption | omega) (by first | assumption | omega)) (va_cwS 2 hts gL_law_L_cell rfl rfl rfl (by decide +kernel) ⟨Nat.le_of_ble_eq_true rfl, Nat.le_of_ble_eq_true rfl⟩) (hP.sub [] rfl) (kq_xk hX hbl hbA hS) hK rfl hl.1 rfl (Nat.le_of_ble_eq_true rfl) dL_law_66 (kl_room (Nat.le_of_ble_eq_true rfl) (Nat.le_of_ble_eq_true rfl)) ?_
    obtain ⟨h8, eh8⟩ : ∃ z, z = n_ce sL xs (68 + e9) := ⟨_, rfl⟩
    refine kq_top (z := h8) (eh8.symm) ?_
    refine lv_istore (lv' := [(5, .int h8), (0, .ref sb), (1, .ref oX), (2, .ref pa), (3, .ref qa), (4, .int (nI e9))]) hx hb dL_law_69 hl (by decide) rfl (fun ls hl => ?_)
    refine lv_iload hx hb dL_law_71 (lv_at hl 0 rfl) ?_
    refine lv_bipush (v := 6) hx hb dL_law_73 (by decide) ?_
    refine kq_cS (As := [.int h8, .int 6]) (rest := []) ⟨hx, hb, hml, hown, hts⟩ (c_L_low l dC dI cI h8 6 (by first | assumption | omega) (by first | assumption | omega)) (va_cwS 2 hts gL_law_L_low rfl rfl rfl (by decide +kernel) ⟨Nat.le_of_ble_eq_true rfl, Nat.le_of_ble_eq_true rfl⟩) (hP.sub [] rfl) hK rfl hl.1 rfl (Nat.le_of_ble_eq_true rfl) dL_law_75 (kl_room (Nat.le_of_ble_eq_true rfl) (Nat.le_of_ble_eq_true rfl)) ?_
    have hb_r8 : (n_lw h8 6) < 6 := n_lw_lt (by decide)
    obtain ⟨r8, er8⟩ : ∃ z, z = n_lw h8 6 := ⟨_, rfl⟩
    rw [← er8] at hb_r8
    refine kq_top (z := nI r8) (congrArg nI er8.symm) ?_
    refine lv_istore (lv' := [(6, .int (nI r8)), (5, .int h8), (0, .ref sb), (1, .ref oX), (2, .ref pa), (3, .ref qa), (4, .int (nI e9))]) hx hb dL_law_78 hl (by decide) rfl (fun ls hl => ?_)
    refine lv_iload hx hb dL_law_80 (lv_at hl 1 rfl) ?_
    refine lv_iconst (v := 3) hx hb dL_law_82 (by decide) ?_
    refine lv_ishr hx hb dL_law_83 ?_
    refine lv_bipush (v := 12) hx hb dL_law_84 (by decide) ?_
    refine kq_cS (As := [.int (h8 >>> (3 &&& 31)), .int 12]) (rest := []) ⟨hx, hb, hml, hown, hts⟩ (c_L_low l dC dI cI (h8 >>> (3 &&& 31)) 12 (by first | assumption | omega) (by first | assumption | omega)) (va_cwS 2 hts gL_law_L_low rfl rfl rfl (by decide +kernel) ⟨Nat.le_of_ble_eq_true rfl, Nat.le_of_ble_eq_true rfl⟩) (hP.sub [] rfl) hK rfl hl.1 rfl (Nat.le_of_ble_eq_true rfl) dL_law_86 (kl_room (Nat.le_of_ble_eq_true rfl) (Nat.le_of_ble_eq_true rfl)) ?_
    have hb_c8 : (n_lw (h8 >>> (3 &&& 31)) 12) < 12 := n_lw_lt (by decide)
    obtain ⟨c8, ec8⟩ : ∃ z, z = n_lw (h8 >>> (3 &&& 31)) 12 := ⟨_, rfl⟩
    rw [← ec8] at hb_c8
    refine kq_top (z := nI c8) (congrArg nI ec8.symm) ?_
    refine lv_istore (lv' := [(7, .int (nI c8)), (6, .int (nI r8)), (5, .int h8), (0, .ref sb), (1, .ref oX), (2, .ref pa), (3, .ref qa), (4, .int (nI e9))]) hx hb dL_law_89 hl (by decide) rfl (fun ls hl => ?_)
    refine lv_iconst (v := 1) hx hb dL_law_91 (by decide) ?_
    refine lv_iload hx hb dL_law_92 (lv_at hl 2 rfl) ?_
    refine lv_bipush (v := 7) hx hb dL_law_94 (by decide) ?_
    refine lv_ishr hx hb dL_law_96 ?_
    refine lv_bipush (v := 6) hx hb dL_law_97 (by decide) ?_
    refine lv_iload hx hb dL_law_99 (lv_at hl 1 rfl) ?_
    refine lv_isub hx hb dL_law_101 ?_
    refine kq_top (z := nI (6 - r8)) (pk_sub (a := 6) (b := r8) (by omega)) ?_
    refine kq_cS (As := [.int (h8 >>> (7 &&& 31)), .int (nI (6 - r8))]) (rest := [.int 1]) ⟨hx, hb, hml, hown, hts⟩ (c_L_low l dC dI cI (h8 >>> (7 &&& 31)) (6 - r8) (by first | assumption | omega) (by first | assumption | omega)) (va_cwS 2 hts gL_law_L_low rfl rfl rfl (by decide +kernel) ⟨Nat.le_of_ble_eq_true rfl, Nat.le_of_ble_eq_true rfl⟩) (hP.sub [] rfl) hK rfl hl.1 rfl (Nat.le_of_ble_eq_true rfl) dL_law_102 (kl_room (Nat.le_of_ble_eq_true rfl) (Nat.le_of_ble_eq_true rfl)) ?_
    refine lv_iadd hx hb dL_law_105 ?_
    refine kq_top (z := nI (1 + (n_lw (h8 >>> (7 &&& 31)) (6 - r8)))) (nI_add 1 (n_lw (h8 >>> (7 &&& 31)) (6 - r8))) ?_
    have hb_u8 : 1 ≤ (1 + (n_lw (h8 >>> (7 &&& 31)) (6 - r8))) ∧ (1 + (n_lw (h8 >>> (7 &&& 31)) (6 - r8))) ≤ 6 - r8 := ⟨by omega, by have hz := n_lw_lt (x := h8 >>> (7 &&& 31)) (n := 6 - r8) (by omega); omega⟩
    obtain ⟨u8, eu8⟩ : ∃ z, z = 1 + (n_lw (h8 >>> (7 &&& 31)) (6 - r8)) := ⟨_, rfl⟩
    rw [← eu8] at hb_u8
    refine kq_top (z := nI u8) (congrArg nI eu8.symm) ?_
    refine lv_istore (lv' := [(8, .int (nI u8)), (7, .int (nI c8)), (6, .int (nI r8)), (5, .int h8), (0, .ref sb), (1, .ref oX), (2, .ref pa), (3, .ref qa), (4, .int (nI e9))]) hx hb dL_law_106 hl (by decide) rfl (fun ls hl => ?_)
    refine lv_iconst (v := 1) hx hb dL_law_108 (by decide) ?_
    refine lv_iload hx hb dL_law_109 (lv_at hl 3 rfl) ?_
    refine lv_bipush (v := 10) hx hb dL_law_111 (by decide) ?_
    refine lv_ishr hx hb dL_law_113 ?_
    refine lv_bipush (v := 12) hx hb dL_law_114 (by decide) ?_
    refine lv_iload hx hb dL_law_116 (lv_at hl 1 rfl) ?_
    refine lv_isub hx hb dL_law_118 ?_
    refine kq_top (z := nI (12 - c8)) (pk_sub (a := 12) (b := c8) (by omega)) ?_
    refine kq_cS (As := [.int (h8 >>> (10 &&& 31)), .int (nI (12 - c8))]) (rest := [.int 1]) ⟨hx, hb, hml, hown, hts⟩ (c_L_low l dC dI cI (h8 >>> (10 &&& 31)) (12 - c8) (by first | assumption | omega) (by first | assumption | omega)) (va_cwS 2 hts gL_law_L_low rfl rfl rfl (by decide +kernel) ⟨Nat.le_of_ble_eq_true rfl, Nat.le_of_ble_eq_true rfl⟩) (hP.sub [] rfl) hK rfl hl.1 rfl (Nat.le_of_ble_eq_true rfl) dL_law_119 (kl_room (Nat.le_of_ble_eq_true rfl) (Nat.le_of_ble_eq_true rfl)) ?_
    refine lv_iadd hx hb dL_law_122 ?_
    refine kq_top (z := nI (1 + (n_lw (h8 >>> (10 &&& 31)) (12 - c8)))) (nI_add 1 (n_lw (h8 >>> (10 &&& 31)) (12 - c8))) ?_
    have hb_w8 : 1 ≤ (1 + (n_lw (h8 >>> (10 &&& 31)) (12 - c8))) ∧ (1 + (n_lw (h8 >>> (10 &&& 31)) (12 - c8))) ≤ 12 - c8 := ⟨by omega, by have hz := n_lw_lt (x := h8 >>> (10 &&& 31)) (n := 12 - c8) (by omega); omega⟩
    obtain ⟨w8, ew8⟩ : ∃ z, z = 1 + (n_lw (h8 >>> (10 &&& 31)) (12 - c8)) := ⟨_, rfl⟩
    rw [← ew8] at hb_w8
    refine kq_top (z := nI w8) (congrArg nI ew8.symm) ?_
    refine lv_istore (lv' := [(9, .int (nI w8)), (8, .int (nI u8)), (7, .int (nI c8)), (6, .int (nI r8)), (5, .int h8), (0, .ref sb), (1, .ref oX), (2, .ref pa), (3, .ref qa), (4, .int (nI e9))]) hx hb dL_law_123 hl (by decide) rfl (fun ls hl => ?_)
    refine lv_iload hx hb dL_law_125 (lv_at hl 4 rfl) ?_
    refine lv_bipush (v := 14) hx hb dL_law_127 (by decide) ?_
    refine lv_ishr hx hb dL_law_129 ?_
    refine lv_iconst (v := 4) hx hb dL_law_130 (by decide) ?_
    refine kq_cS (As := [.int (h8 >>> (14 &&& 31)), .int 4]) (rest := []) ⟨hx, hb, hml, hown, hts⟩ (c_L_low l dC dI cI (h8 >>> (14 &&& 31)) 4 (by first | assumption | omega) (by first | assumption | omega)) (va_cwS 2 hts gL_law_L_low rfl rfl rfl (by decide +kernel) ⟨Nat.le_of_ble_eq_true rfl, Nat.le_of_ble_eq_true rfl⟩) (hP.sub [] rfl) hK rfl hl.1 rfl (Nat.le_of_ble_eq_true rfl) dL_law_131 (kl_room (Nat.le_of_ble_eq_true rfl) (Nat.le_of_ble_eq_true rfl)) ?_
    have hl4 : n_lw (h8 >>> (14 &&& 31)) 4 < 4 := n_lw_lt (by decide)
    refine kq_join (nL := 16) (L := [(9, .int (nI w8)), (8, .int (nI u8)), (7, .int (nI c8)), (6, .int (nI r8)), (5, .int h8), (0, .ref sb), (1, .ref oX), (2, .ref pa), (3, .ref qa), (4, .int (nI e9))]) (st := [.int (nI (n_ik9 h8))]) (J := 151) ?_ (fun hJ_4 => ?_)
    · intro ls hl
      have hl : lv_has ls 16 [(9, .int (nI w8)), (8, .int (nI u8)), (7, .int (nI c8)), (6, .int (nI r8)), (5, .int h8), (0, .ref sb), (1, .ref oX), (2, .ref pa), (3, .ref qa), (4, .int (nI e9))] := hl
      have hb_i8 : (n_ik9 h8) ≤ 9 := n_ik9_b h8
      obtain ⟨i8, ei8⟩ : ∃ z, z = n_ik9 h8 := ⟨_, rfl⟩
      rw [← ei8] at hb_i8
      refine kq_top (z := nI i8) (congrArg nI ei8.symm) ?_
      refine lv_istore (lv' := [(10, .int (nI i8)), (9, .int (nI w8)), (8, .int (nI u8)), (7, .int (nI c8)), (6, .int (nI r8)), (5, .int h8), (0, .ref sb), (1, .ref oX), (2, .ref pa), (3, .ref qa), (4, .int (nI e9))]) hx hb dL_law_151 hl (by decide) rfl (fun ls hl => ?_)
      refine lv_iconst (v := 0) hx hb dL_law_153 (by decide) ?_
      refine lv_istore (lv' := [(11, .int 0), (10, .int (nI i8)), (9, .int (nI w8)), (8, .int (nI u8)), (7, .int (nI c8)), (6, .int (nI r8)), (5, .int h8), (0, .ref sb), (1, .ref oX), (2, .ref pa), (3, .ref qa), (4, .int (nI e9))]) hx hb dL_law_154 hl (by decide) rfl (fun ls hl => ?_)
      refine lv_iconst (v := 0) hx hb dL_law_156 (by decide) ?_
      refine lv_istore (lv' := [(12, .int 0), (11, .int 0), (10, .int (nI i8)), (9, .int (nI w8)), (8, .int (nI u8)), (7, .int (nI c8)), (6, .int (nI r8)), (5, .int h8), (0, .ref sb), (1, .ref oX), (2, .ref pa), (3, .ref qa), (4, .int (nI e9))]) hx hb dL_law_157 hl (by decide) rfl (fun ls hl => ?_)
      refine kq_loopM5 (A1 := Nat) (A2 := Int32) (A3 := Nat → Int32) (A4 := Nat → Int32) (A5 := Nat → Int32) (fun (k : Nat) (x : Int32) (fp : Nat → Int32) (ft : Nat → Int32) (fl : Nat → Int32) => 72 - k) (fun (k : Nat) (x : Int32) (fp : Nat → Int32) (ft : Nat → Int32) (fl : Nat → Int32) => (k ≤ 72) ∧ (x = n_inkm v r8 c8 u8 w8 (nI i8) k)) (fun (k : Nat) (x : Int32) (fp : Nat → Int32) (ft : Nat → Int32) (fl : Nat → Int32) => [(0, .ref sb), (1, .ref oX), (2, .ref pa), (3, .ref qa), (4, .int (nI e9)), (5, .int h8), (6, .int (nI r8)), (7, .int (nI c8)), (8, .int (nI u8)), (9, .int (nI w8)), (10, .int (nI i8)), (11, .int x), (12, .int (nI k))]) (fun (k : Nat) (x : Int32) (fp : Nat → Int32) (ft : Nat → Int32) (fl : Nat → Int32) => [(oX, .inr (5, [.ref oS, .ref oR, .ref oN, .ref o2, .ref oF, .ref oT])), (oS, .inr (3, [.ref rv, .ref rs, .int (nI kc)])), (rv, .inl (cI, 385, .inl v)), (rs, .inl (cI, 2310, .inl sv)), (oR, .inr (2, [.ref oS])), (oF, .inr (0, [.ref oS, .ref oN])), (oN, .inr (1, [.ref oS, .ref rp, .ref rt, .ref rl])), (rp, .inl (cI, 72, .inl fp)), (rt, .inl (cI, 72, .inl ft)), (rl, .inl (cI, 72, .inl fl)), (o2, .inr (1, [.ref oS, .ref q1, .ref q2, .ref q3])), (q1, .inl (cI, 72, .inl z1)), (q2, .inl (cI, 72, .inl z2)), (q3, .inl (cI, 72, .inl z3)), (pa, .inl (cI, 8, .inl pf)), (qa, .inl (cI, 4, .inl qf))]) (nL := 16) hK ?_ 0 0 fp ft fl ⟨(by omega), (by rfl)⟩ hP hD hS _ (lv_sub hl [8, 9, 10, 11, 12, 7, 6, 5, 4, 3, 2, 1, 0] rfl)
      intro k x fp ft fl hi_6 ih_5 H locs hP hD hS ls hl
      obtain ⟨ik, ix⟩ := hi_6
      have hl : lv_has ls 16 [(0, .ref sb), (1, .ref oX), (2, .ref pa), (3, .ref qa), (4, .int (nI e9)), (5, .int h8), (6, .int (nI r8)), (7, .int (nI c8)), (8, .int (nI u8)), (9, .int (nI w8)), (10, .int (nI i8)), (11, .int x), (12, .int (nI k))] := hl
      have hP : va_P (dC, dI) vwCl [(oX, .inr (5, [.ref oS, .ref oR, .ref oN, .ref o2, .ref oF, .ref oT])), (oS, .inr (3, [.ref rv, .ref rs, .int (nI kc)])), (rv, .inl (cI, 385, .inl v)), (rs, .inl (cI, 2310, .inl sv)), (oR, .inr (2, [.ref oS])), (oF, .inr (0, [.ref oS, .ref oN])), (oN, .inr (1, [.ref oS, .ref rp, .ref rt, .ref rl])), (rp, .inl (cI, 72, .inl fp)), (rt, .inl (cI, 72, .inl ft)), (rl, .inl (cI, 72, .inl fl)), (o2, .inr (1, [.ref oS, .ref q1, .ref q2, .ref q3])), (q1, .inl (cI, 72, .inl z1)), (q2, .inl (cI, 72, .inl z2)), (q3, .inl (cI, 72, .inl z3)), (pa, .inl (cI, 8, .inl pf)), (qa, .inl (cI, 4, .inl qf))] H := hP
      have hD : va_D A [(oX, .inr (5, [.ref oS, .ref oR, .ref oN, .ref o2, .ref oF, .ref oT])), (oS, .inr (3, [.ref rv, .ref rs, .int (nI kc)])), (rv, .inl (cI, 385, .inl v)), (rs, .inl (cI, 2310, .inl sv)), (oR, .inr (2, [.ref oS])), (oF, .inr (0, [.ref oS, .ref oN])), (oN, .inr (1, [.ref oS, .ref rp, .ref rt, .ref rl])), (rp, .inl (cI, 72, .inl fp)), (rt, .inl (cI, 72, .inl ft)), (rl, .inl (cI, 72, .inl fl)), (o2, .inr (1, [.ref oS, .ref q1, .ref q2, .ref q3])), (q1, .inl (cI, 72, .inl z1)), (q2, .inl (cI, 72, .inl z2)), (q3, .inl (cI, 72, .inl z3)), (pa, .inl (cI, 8, .inl pf)), (qa, .inl (cI, 4, .inl qf))] := hD
      refine lv_iload hx hb dL_law_159 (lv_at hl 12 rfl) ?_
      refine lv_bipush (v := 72) hx hb dL_law_161 (by decide) ?_
      refine lv_icmp_ge (tgt := 261) hx hb dL_law_163 (by decide) (fun c_7 => ?_) (fun c_7 => ?_)
      · skip
        have c_7 := kq_leN (a := 72) (b := k) c_7 (by omega) (by omega)
        refine lv_aload_n hx hb dL_law_261 rfl (lv_at hl 1 rfl) ?_
        refine lv_iload hx hb dL_law_262 (lv_at hl 6 rfl) ?_
        refine lv_iload hx hb dL_law_264 (lv_at hl 7 rfl) ?_
        refine lv_iload hx hb dL_law_266 (lv_at hl 8 rfl) ?_
        refine lv_iload hx hb dL_law_268 (lv_at hl 9 rfl) ?_
        refine lv_iload hx hb dL_law_270 (lv_at hl 10 rfl) ?_
        refine kq_callMi (wr := [(oR, .inr (2, [.ref oS])), (oF, .inr (0, [.ref oS, .ref oN])), (oN, .inr (1, [.ref oS, .ref rp, .ref rt, .ref rl])), (rp, .inl (cI, 72, .inl fp)), (rt, .inl (cI, 72, .inl ft)), (rl, .inl (cI, 72, .inl fl)), (o2, .inr (1, [.ref oS, .ref q1, .ref q2, .ref q3])), (q1, .inl (cI, 72, .inl z1)), (q2, .inl (cI, 72, .inl z2)), (q3, .inl (cI, 72, .inl z3)), (pa, .inl (cI, 8, .inl pf)), (qa, .inl (cI, 4, .inl qf))]) (va_runV (As := [.int (nI r8), .int (nI c8), .int (nI u8), .int (nI w8), .int (nI i8)]) (rest := []) ⟨hx, hb, hml, hown, hts⟩ (c_X5_ink l dC dI cI H.size oX oS oR oN o2 oF oT rv rs kc v sv r8 c8 u8 w8 (nI i8) (by first | assumption | omega) (by first | assumption | omega) (by first | assumption | omega) (by first | assumption | omega) (by first | assumption | omega) (kq_i9 hb_i8)) (cwV 5 hts gL_law_X5_ink rfl rfl rfl (by decide +kernel) ⟨Nat.le_of_ble_eq_true rfl, Nat.le_of_ble_eq_true rfl⟩) (kq_preV (ci := 5) (q0 := 0) (hP.sub [0, 1, 2, 3] rfl) (hD.sub [0, 1, 2, 3] (by decide) rfl) hK rfl rfl) rfl rfl hl.1 rfl (lv_room (Nat.le_of_ble_eq_true rfl)) dL_law_272 (kl_room (Nat.le_of_ble_eq_true rfl) (Nat.le_of_ble_eq_true rfl))) hP hD hS hA [0, 1, 2, 3] [4, 5, 6, 7, 8, 9, 10, 11, 12, 13, 14, 15] rfl rfl (by decide) (by decide) (fun r_8 u_9 H locs hw_10 hP hD hS => ?_)
        have hP : va_P (dC, dI) vwCl [(oR, .inr (2, [.ref oS])), (oF, .inr (0, [.ref oS, .ref oN])), (oN, .inr (1, [.ref oS, .ref rp, .ref rt, .ref rl])), (rp, .inl (cI, 72, .inl fp)), (rt, .inl (cI, 72, .inl ft)), (rl, .inl (cI, 72, .inl fl)), (o2, .inr (1, [.ref oS, .ref q1, .ref q2, .ref q3])), (q1, .inl (cI, 72, .inl z1)), (q2, .inl (cI, 72, .inl z2)), (q3, .inl (cI, 72, .inl z3)), (pa, .inl (cI, 8, .inl pf)), (qa, .inl (cI, 4, .inl qf)), (oX, .inr (5, [.ref oS, .ref oR, .ref oN, .ref o2, .ref oF, .ref oT])), (oS, .inr (3, [.ref rv, .ref rs, .int (nI (min (kc + 1) 6))])), (rv, .inl (cI, 385, .inl (n_ink v r8 c8 u8 w8 (nI i8)))), (rs, .inl (cI, 2310, .inl (n_push v sv)))] H := hP
        have hD : va_D A [(oR, .inr (2, [.ref oS])), (oF, .inr (0, [.ref oS, .ref oN])), (oN, .inr (1, [.ref oS, .ref rp, .ref rt, .ref rl])), (rp, .inl (cI, 72, .inl fp)), (rt, .inl (cI, 72, .inl ft)), (rl, .inl (cI, 72, .inl fl)), (o2, .inr (1, [.ref oS, .ref q1, .ref q2, .ref q3])), (q1, .inl (cI, 72, .inl z1)), (q2, .inl (cI, 72, .inl z2)), (q3, .inl (cI, 72, .inl z3)), (pa, .inl (cI, 8, .inl pf)), (qa, .inl (cI, 4, .inl qf)), (oX, .inr (5, [.ref oS, .ref oR, .ref oN, .ref o2, .ref oF, .ref oT])), (oS, .inr (3, [.ref rv, .ref rs, .int (nI (min (kc + 1) 6))])), (rv, .inl (cI, 385, .inl (n_ink v r8 c8 u8 w8 (nI i8)))), (rs, .inl (cI, 2310, .inl (n_push v sv)))] := hD
        obtain rfl := hw_10
        refine lv_iload hx hb dL_law_275 (lv_at hl 11 rfl) ?_
        refine lv_icmp_ne (tgt := 321) hx hb dL_law_277 (by decide) (fun c_11 => ?_) (fun c_11 => ?_)
        · skip
          exact absurd (by rw [n_inkm_eq (by omega) (by omega), ix, show k = 72 by omega]) c_11
        · skip
          refine lv_aload_n hx hb dL_law_280 rfl (lv_at hl 1 rfl) ?_
          refine lv_bipush (v := 9) hx hb dL_law_281 (by decide) ?_
          refine lv_iload hx hb dL_law_283 (lv_at hl 6 rfl) ?_
          refine lv_iload hx hb dL_law_285 (lv_at hl 7 rfl) ?_
          refine lv_iconst (v := 1) hx hb dL_law_287 (by decide) ?_
          refine kq_callMi (wr := [(oR, .inr (2, [.ref oS])), (oF, .inr (0, [.ref oS, .ref oN])), (o2, .inr (1, [.ref oS, .ref q1, .ref q2, .ref q3])), (q1, .inl (cI, 72, .inl z1)), (q2, .inl (cI, 72, .inl z2)), (q3, .inl (cI, 72, .inl z3)), (pa, .inl (cI, 8, .inl pf)), (qa, .inl (cI, 4, .inl qf)), (rs, .inl (cI, 2310, .inl (n_push v sv)))]) (va_runV (As := [.int 9, .int (nI r8), .int (nI c8), .int 1]) (rest := []) ⟨hx, hb, hml, hown, hts⟩ (c_X5_cell l dC dI cI H.size oX oS oR oN o2 oF oT rv rs (min (kc + 1) 6) rp rt rl (n_ink v r8 c8 u8 w8 (nI i8)) fp ft fl 9 r8 c8 1 (n_I_ink hI hb_i8) (by first | assumption | omega) (by first | assumption | omega) (by first | assumption | omega) (by first | assumption | omega)) (cwV 4 hts gL_law_X5_cell rfl rfl rfl (by decide +kernel) ⟨Nat.le_of_ble_eq_true rfl, Nat.le_of_ble_eq_true rfl⟩) (kq_preV (ci := 5) (q0 := 0) (hP.sub [12, 13, 14, 2, 3, 4, 5] rfl) (hD.sub [12, 13, 14, 2, 3, 4, 5] (by decide) rfl) hK rfl rfl) rfl rfl hl.1 rfl (lv_room (Nat.le_of_ble_eq_true rfl)) dL_law_288 (kl_room (Nat.le_of_ble_eq_true rfl) (Nat.le_of_ble_eq_true rfl))) hP hD hS hA [12, 13, 14, 2, 3, 4, 5] [0, 1, 6, 7, 8, 9, 10, 11, 15] rfl rfl (by decide) (by decide) (fun r_12 u_13 H locs hw_14 hP hD hS => ?_)
          obtain ⟨gp_15, gt_16, gl_17⟩ := u_13
          have hP : va_P (dC, dI) vwCl [(oR, .inr (2, [.ref oS])), (oF, .inr (0, [.ref oS, .ref oN])), (o2, .inr (1, [.ref oS, .ref q1, .ref q2, .ref q3])), (q1, .inl (cI, 72, .inl z1)), (q2, .inl (cI, 72, .inl z2)), (q3, .inl (cI, 72, .inl z3)), (pa, .inl (cI, 8, .inl pf)), (qa, .inl (cI, 4, .inl qf)), (rs, .inl (cI, 2310, .inl (n_push v sv))), (oX, .inr (5, [.ref oS, .ref oR, .ref oN, .ref o2, .ref oF, .ref oT])), (oS, .inr (3, [.ref rv, .ref rs, .int (nI (min (kc + 1) 6))])), (rv, .inl (cI, 385, .inl (n_ink v r8 c8 u8 w8 (nI i8)))), (oN, .inr (1, [.ref oS, .ref rp, .ref rt, .ref rl])), (rp, .inl (cI, 72, .inl gp_15)), (rt, .inl (cI, 72, .inl gt_16)), (rl, .inl (cI, 72, .inl gl_17))] H := hP
          have hD : va_D A [(oR, .inr (2, [.ref oS])), (oF, .inr (0, [.ref oS, .ref oN])), (o2, .inr (1, [.ref oS, .ref q1, .ref q2, .ref q3])), (q1, .inl (cI, 72, .inl z1)), (q2, .inl (cI, 72, .inl z2)), (q3, .inl (cI, 72, .inl z3)), (pa, .inl (cI, 8, .inl pf)), (qa, .inl (cI, 4, .inl qf)), (rs, .inl (cI, 2310, .inl (n_push v sv))), (oX, .inr (5, [.ref oS, .ref oR, .ref oN, .ref o2, .ref oF, .ref oT])), (oS, .inr (3, [.ref rv, .ref rs, .int (nI (min (kc + 1) 6))])), (rv, .inl (cI, 385, .inl (n_ink v r8 c8 u8 w8 (nI i8)))), (oN, .inr (1, [.ref oS, .ref rp, .ref rt, .ref rl])), (rp, .inl (cI, 72, .inl gp_15)), (rt, .inl (cI, 72, .inl gt_16)), (rl, .inl (cI, 72, .inl gl_17))] := hD
          obtain rfl := hw_14
          refine lv_iload hx hb dL_law_291 (lv_at hl 10 rfl) ?_
          refine lv_icmp_ne (tgt := 321) hx hb dL_law_293 (by decide) (fun c_18 => ?_) (fun c_18 => ?_)
          · skip
            exact absurd (n_cell_1.trans (n_ink_at (by omega) (by omega) (by omega) (by omega))) c_18
          · skip
            refine lv_aload_n hx hb dL_law_296 rfl (lv_at hl 1 rfl) ?_
            refine lv_iconst (v := 0) hx hb dL_law_297 (by decide) ?_
            refine lv_iload hx hb dL_law_298 (lv_at hl 6 rfl) ?_
            refine lv_iload hx hb dL_law_300 (lv_at hl 8 rfl) ?_
            refine lv_iadd hx hb dL_law_302 ?_
            refine kq_top (z := nI (r8 + u8)) (nI_add r8 u8) ?_
            refine lv_iconst (v := 1) hx hb dL_law_303 (by decide) ?_
            refine lv_isub hx hb dL_law_304 ?_
            refine kq_top (z := nI ((r8 + u8) - 1)) (pk_sub (a := (r8 + u8)) (b := 1) (by omega)) ?_
            refine lv_iload hx hb dL_law_305 (lv_at hl 7 rfl) ?_
            refine lv_iload hx hb dL_law_307 (lv_at hl 9 rfl) ?_
            refine lv_iadd hx hb dL_law_309 ?_
            refine kq_top (z := nI (c8 + w8)) (nI_add c8 w8) ?_
            refine lv_iconst (v := 1) hx hb dL_law_310 (by decide) ?_
            refine lv_isub hx hb dL_law_311 ?_
            refine kq_top (z := nI ((c8 + w8) - 1)) (pk_sub (a := (c8 + w8)) (b := 1) (by omega)) ?_
            refine lv_iconst (v := 1) hx hb dL_law_312 (by decide) ?_
            refine kq_callMi (wr := [(oR, .inr (2, [.ref oS])), (oF, .inr (0, [.ref oS, .ref oN])), (o2, .inr (1, [.ref oS, .ref q1, .ref q2, .ref q3])), (q1, .inl (cI, 72, .inl z1)), (q2, .inl (cI, 72, .inl z2)), (q3, .inl (cI, 72, .inl z3)), (pa, .inl (cI, 8, .inl pf)), (qa, .inl (cI, 4, .inl qf)), (rs, .inl (cI, 2310, .inl (n_push v sv)))]) (va_runV (As := [.int 0, .int (nI ((r8 + u8) - 1)), .int (nI ((c8 + w8) - 1)), .int 1]) (rest := []) ⟨hx, hb, hml, hown, hts⟩ (c_X5_cell l dC dI cI H.size oX oS oR oN o2 oF oT rv rs (min (kc + 1) 6) rp rt rl (n_ink v r8 c8 u8 w8 (nI i8)) gp_15 gt_16 gl_17 0 ((r8 + u8) - 1) ((c8 + w8) - 1) 1 (n_I_ink hI hb_i8) (by first | assumption | omega) (by first | assumption | omega) (by first | assumption | omega) (by first | assumption | omega)) (cwV 4 hts gL_law_X5_cell rfl rfl rfl (by decide +kernel) ⟨Nat.le_of_ble_eq_true rfl, Nat.le_of_ble_eq_true rfl⟩) (kq_preV (ci := 5) (q0 := 0) (hP.sub [9, 10, 11, 12, 13, 14, 15] rfl) (hD.sub [9, 10, 11, 12, 13, 14, 15] (by decide) rfl) hK rfl rfl) rfl rfl hl.1 rfl (lv_room (Nat.le_of_ble_eq_true rfl)) dL_law_313 (kl_room (Nat.le_of_ble_eq_true rfl) (Nat.le_of_ble_eq_true rfl))) hP hD hS hA [9, 10, 11, 12, 13, 14, 15] [0, 1, 2, 3, 4, 5, 6, 7, 8] rfl rfl (by decide) (by decide) (fun r_19 u_20 H locs hw_21 hP hD hS => ?_)
            obtain ⟨gp_22, gt_23, gl_24⟩ := u_20
            have hP : va_P (dC, dI) vwCl [(oR, .inr (2, [.ref oS])), (oF, .inr (0, [.ref oS, .ref oN])), (o2, .inr (1, [.ref oS, .ref q1, .ref q2, .ref q3])), (q1, .inl (cI, 72, .inl z1)), (q2, .inl (cI, 72, .inl z2)), (q3, .inl (cI, 72, .inl z3)), (pa, .inl (cI, 8, .inl pf)), (qa, .inl (cI, 4, .inl qf)), (rs, .inl (cI, 2310, .inl (n_push v sv))), (oX, .inr (5, [.ref oS, .ref oR, .ref oN, .ref o2, .ref oF, .ref oT])), (oS, .inr (3, [.ref rv, .ref rs, .int (nI (min (kc + 1) 6))])), (rv, .inl (cI, 385, .inl (n_ink v r8 c8 u8 w8 (nI i8)))), (oN, .inr (1, [.ref oS, .ref rp, .ref rt, .ref rl])), (rp, .inl (cI, 72, .inl gp_22)), (rt, .inl (cI, 72, .inl gt_23)), (rl, .inl (cI, 72, .inl gl_24))] H := hP
            have hD : va_D A [(oR, .inr (2, [.ref oS])), (oF, .inr (0, [.ref oS, .ref oN])), (o2, .inr (1, [.ref oS, .ref q1, .ref q2, .ref q3])), (q1, .inl (cI, 72, .inl z1)), (q2, .inl (cI, 72, .inl z2)), (q3, .inl (cI, 72, .inl z3)), (pa, .inl (cI, 8, .inl pf)), (qa, .inl (cI, 4, .inl qf)), (rs, .inl (cI, 2310, .inl (n_push v sv))), (oX, .inr (5, [.ref oS, .ref oR, .ref oN, .ref o2, .ref oF, .ref oT])), (oS, .inr (3, [.ref rv, .ref rs, .int (nI (min (kc + 1) 6))])), (rv, .inl (cI, 385, .inl (n_ink v r8 c8 u8 w8 (nI i8)))), (oN, .inr (1, [.ref oS, .ref rp, .ref rt, .ref rl])), (rp, .inl (cI, 72, .inl gp_22)), (rt, .inl (cI, 72, .inl gt_23)), (rl, .inl (cI, 72, .inl gl_24))] := hD
            obtain rfl := hw_21
            refine lv_iload hx hb dL_law_316 (lv_at hl 10 rfl) ?_
            refine lv_icmp_eq (tgt := 323) hx hb dL_law_318 (by decide) (fun c_25 => ?_) (fun c_25 => ?_)
            · skip
              have hI1 : n_I (n_ink v r8 c8 u8 w8 (nI i8)) := n_I_ink hI hb_i8
              have hW1 : n_ww sL xs (n_ink v r8 c8 u8 w8 (nI i8)) := n_ww_as hW (fun k hk => n_ink_o (by omega))
              have hp1 : n_pp (n_ink v r8 c8 u8 w8 (nI i8)) pf := n_pp_as hp (fun k hk hk2 => n_ink_o (by omega))
              generalize hgn_v1 : (n_ink v r8 c8 u8 w8 (nI i8)) = v1 at hP hD hI1 hW1 hp1
              have hP : va_P (dC, dI) vwCl [(oR, .inr (2, [.ref oS])), (oF, .inr (0, [.ref oS, .ref oN])), (o2, .inr (1, [.ref oS, .ref q1, .ref q2, .ref q3])), (q1, .inl (cI, 72, .inl z1)), (q2, .inl (cI, 72, .inl z2)), (q3, .inl (cI, 72, .inl z3)), (pa, .inl (cI, 8, .inl pf)), (qa, .inl (cI, 4, .inl qf)), (rs, .inl (cI, 2310, .inl (n_push v sv))), (oX, .inr (5, [.ref oS, .ref oR, .ref oN, .ref o2, .ref oF, .ref oT])), (oS, .inr (3, [.ref rv, .ref rs, .int (nI (min (kc + 1) 6))])), (rv, .inl (cI, 385, .inl v1)), (oN, .inr (1, [.ref oS, .ref rp, .ref rt, .ref rl])), (rp, .inl (cI, 72, .inl gp_22)), (rt, .inl (cI, 72, .inl gt_23)), (rl, .inl (cI, 72, .inl gl_24))] H := hP
              have hD : va_D A [(oR, .inr (2, [.ref oS])), (oF, .inr (0, [.ref oS, .ref oN])), (o2, .inr (1, [.ref oS, .ref q1, .ref q2, .ref q3])), (q1, .inl (cI, 72, .inl z1)), (q2, .inl (cI, 72, .inl z2)), (q3, .inl (cI, 72, .inl z3)), (pa, .inl (cI, 8, .inl pf)), (qa, .inl (cI, 4, .inl qf)), (rs, .inl (cI, 2310, .inl (n_push v sv))), (oX, .inr (5, [.ref oS, .ref oR, .ref oN, .ref o2, .ref oF, .ref oT])), (oS, .inr (3, [.ref rv, .ref rs, .int (nI (min (kc + 1) 6))])), (rv, .inl (cI, 385, .inl v1)), (oN, .inr (1, [.ref oS, .ref rp, .ref rt, .ref rl])), (rp, .inl (cI, 72, .inl gp_22)), (rt, .inl (cI, 72, .inl gt_23)), (rl, .inl (cI, 72, .inl gl_24))] := hD
              refine lv_iload hx hb dL_law_323 (lv_at hl 5 rfl) ?_
              refine lv_bipush (v := 20) hx hb dL_law_325 (by decide) ?_
              refine lv_ishr hx hb dL_law_327 ?_
              refine lv_iconst (v := 4) hx hb dL_law_328 (by decide) ?_
              refine kq_cS (As := [.int (h8 >>> (20 &&& 31)), .int 4]) (rest := []) ⟨hx, hb, hml, hown, hts⟩ (c_L_low l dC dI cI (h8 >>> (20 &&& 31)) 4 (by first | assumption | omega) (by first | assumption | omega)) (va_cwS 2 hts gL_law_L_low rfl rfl rfl (by decide +kernel) ⟨Nat.le_of_ble_eq_true rfl, Nat.le_of_ble_eq_true rfl⟩) (hP.sub [] rfl) hK rfl hl.1 rfl (Nat.le_of_ble_eq_true rfl) dL_law_329 (kl_room (Nat.le_of_ble_eq_true rfl) (Nat.le_of_ble_eq_true rfl)) ?_
              have hb_f8 : (n_lw (h8 >>> (20 &&& 31)) 4) < 4 := n_lw_lt (by decide)
              obtain ⟨f8, ef8⟩ : ∃ z, z = n_lw (h8 >>> (20 &&& 31)) 4 := ⟨_, rfl⟩
              rw [← ef8] at hb_f8
              refine kq_top (z := nI f8) (congrArg nI ef8.symm) ?_
              refine lv_istore (lv' := [(12, .int (nI f8)), (0, .ref sb), (1, .ref oX), (2, .ref pa), (3, .ref qa), (4, .int (nI e9)), (5, .int h8), (6, .int (nI r8)), (7, .int (nI c8)), (8, .int (nI u8)), (9, .int (nI w8)), (10, .int (nI i8)), (11, .int x)]) hx hb dL_law_332 hl (by decide) rfl (fun ls hl => ?_)
              refine lv_iload hx hb dL_law_334 (lv_at hl 6 rfl) ?_
              refine lv_bipush (v := 6) hx hb dL_law_336 (by decide) ?_
              refine lv_ishr hx hb dL_law_338 ?_
              obtain ⟨g8, eg8⟩ : ∃ z, z = h8 >>> (6 &&& 31) := ⟨_, rfl⟩
              refine kq_top (z := g8) (eg8.symm) ?_
              refine lv_istore (lv' := [(13, .int g8), (12, .int (nI f8)), (0, .ref sb), (1, .ref oX), (2, .ref pa), (3, .ref qa), (4, .int (nI e9)), (5, .int h8), (6, .int (nI r8)), (7, .int (nI c8)), (8, .int (nI u8)), (9, .int (nI w8)), (10, .int (nI i8)), (11, .int x)]) hx hb dL_law_339 hl (by decide) rfl (fun ls hl => ?_)
              refine lv_aload_n hx hb dL_law_341 rfl (lv_at hl 5 rfl) ?_
              refine lv_iconst (v := 0) hx hb dL_law_342 (by decide) ?_
              refine lv_iload hx hb dL_law_343 (lv_at hl 0 rfl) ?_
              refine lv_bipush (v := 6) hx hb dL_law_345 (by decide) ?_
              refine kq_cS (As := [.int g8, .int 6]) (rest := [.int 0, .ref qa]) ⟨hx, hb, hml, hown, hts⟩ (c_L_low l dC dI cI g8 6 (by first | assumption | omega) (by first | assumption | omega)) (va_cwS 2 hts gL_law_L_low rfl rfl rfl (by decide +kernel) ⟨Nat.le_of_ble_eq_true rfl, Nat.le_of_ble_eq_true rfl⟩) (hP.sub [] rfl) hK rfl hl.1 rfl (Nat.le_of_ble_eq_true rfl) dL_law_347 (kl_room (Nat.le_of_ble_eq_true rfl) (Nat.le_of_ble_eq_true rfl)) ?_
              have hb_a8 : (n_lw g8 6) < 6 := n_lw_lt (by decide)
              obtain ⟨a8, ea8⟩ : ∃ z, z = n_lw g8 6 := ⟨_, rfl⟩
              rw [← ea8] at hb_a8
              refine kq_top (z := nI a8) (congrArg nI ea8.symm) ?_
              refine va_iast hx hb hK.1 hP hD hS 7 0 rfl rfl (vp_in_nI (show 0 < 4 from by omega) (by omega)) dL_law_350 (fun H locs hP hD hS => ?_)
              rw [show Int32.toNatClampNeg 0 = 0 by decide] at hP hD
              have hP : va_P (dC, dI) vwCl [(oR, .inr (2, [.ref oS])), (oF, .inr (0, [.ref oS, .ref oN])), (o2, .inr (1, [.ref oS, .ref q1, .ref q2, .ref q3])), (q1, .inl (cI, 72, .inl z1)), (q2, .inl (cI, 72, .inl z2)), (q3, .inl (cI, 72, .inl z3)), (pa, .inl (cI, 8, .inl pf)), (qa, .inl (cI, 4, .inl (upd qf 0 (nI a8)))), (rs, .inl (cI, 2310, .inl (n_push v sv))), (oX, .inr (5, [.ref oS, .ref oR, .ref oN, .ref o2, .ref oF, .ref oT])), (oS, .inr (3, [.ref rv, .ref rs, .int (nI (min (kc + 1) 6))])), (rv, .inl (cI, 385, .inl v1)), (oN, .inr (1, [.ref oS, .ref rp, .ref rt, .ref rl])), (rp, .inl (cI, 72, .inl gp_22)), (rt, .inl (cI, 72, .inl gt_23)), (rl, .inl (cI, 72, .inl gl_24))] H := hP
              have hD : va_D A [(oR, .inr (2, [.ref oS])), (oF, .inr (0, [.ref oS, .ref oN])), (o2, .inr (1, [.ref oS, .ref q1, .ref q2, .ref q3])), (q1, .inl (cI, 72, .inl z1)), (q2, .inl (cI, 72, .inl z2)), (q3, .inl (cI, 72, .inl z3)), (pa, .inl (cI, 8, .inl pf)), (qa, .inl (cI, 4, .inl (upd qf 0 (nI a8)))), (rs, .inl (cI, 2310, .inl (n_push v sv))), (oX, .inr (5, [.ref oS, .ref oR, .ref oN, .ref o2, .ref oF, .ref oT])), (oS, .inr (3, [.ref rv, .ref rs, .int (nI (min (kc + 1) 6))])), (rv, .inl (cI, 385, .inl v1)), (oN, .inr (1, [.ref oS, .ref rp, .ref rt, .ref rl])), (rp, .inl (cI, 72, .inl gp_22)), (rt, .inl (cI, 72, .inl gt_23)), (rl, .inl (cI, 72, .inl gl_24))] := hD
              refine lv_aload_n hx hb dL_law_351 rfl (lv_at hl 5 rfl) ?_
              refine lv_iconst (v := 1) hx hb dL_law_352 (by decide) ?_
              refine lv_iload hx hb dL_law_353 (lv_at hl 0 rfl) ?_
              refine lv_iconst (v := 3) hx hb dL_law_355 (by decide) ?_
              refine lv_ishr hx hb dL_law_356 ?_
              refine lv_bipush (v := 12) hx hb dL_law_357 (by decide) ?_
              refine kq_cS (As := [.int (g8 >>> (3 &&& 31)), .int 12]) (rest := [.int 1, .ref qa]) ⟨hx, hb, hml, hown, hts⟩ (c_L_low l dC dI cI (g8 >>> (3 &&& 31)) 12 (by first | assumption | omega) (by first | assumption | omega)) (va_cwS 2 hts gL_law_L_low rfl rfl rfl (by decide +kernel) ⟨Nat.le_of_ble_eq_true rfl, Nat.le_of_ble_eq_true rfl⟩) (hP.sub [] rfl) hK rfl hl.1 rfl (Nat.le_of_ble_eq_true rfl) dL_law_359 (kl_room (Nat.le_of_ble_eq_true rfl) (Nat.le_of_ble_eq_true rfl)) ?_
              have hb_b8 : (n_lw (g8 >>> (3 &&& 31)) 12) < 12 := n_lw_lt (by decide)
              obtain ⟨b8, eb8⟩ : ∃ z, z = n_lw (g8 >>> (3 &&& 31)) 12 := ⟨_, rfl⟩
              rw [← eb8] at hb_b8
              refine kq_top (z := nI b8) (congrArg nI eb8.symm) ?_
              refine va_iast hx hb hK.1 hP hD hS 7 0 rfl rfl (vp_in_nI (show 1 < 4 from by omega) (by omega)) dL_law_362 (fun H locs hP hD hS => ?_)
              rw [show Int32.toNatClampNeg 1 = 1 by decide] at hP hD
              have hP : va_P (dC, dI) vwCl [(oR, .inr (2, [.ref oS])), (oF, .inr (0, [.ref oS, .ref oN])), (o2, .inr (1, [.ref oS, .ref q1, .ref q2, .ref q3])), (q1, .inl (cI, 72, .inl z1)), (q2, .inl (cI, 72, .inl z2)), (q3, .inl (cI, 72, .inl z3)), (pa, .inl (cI, 8, .inl pf)), (qa, .inl (cI, 4, .inl (upd (upd qf 0 (nI a8)) 1 (nI b8)))), (rs, .inl (cI, 2310, .inl (n_push v sv))), (oX, .inr (5, [.ref oS, .ref oR, .ref oN, .ref o2, .ref oF, .ref oT])), (oS, .inr (3, [.ref rv, .ref rs, .int (nI (min (kc + 1) 6))])), (rv, .inl (cI, 385, .inl v1)), (oN, .inr (1, [.ref oS, .ref rp, .ref rt, .ref rl])), (rp, .inl (cI, 72, .inl gp_22)), (rt, .inl (cI, 72, .inl gt_23)), (rl, .inl (cI, 72, .inl gl_24))] H := hP
              have hD : va_D A [(oR, .inr (2, [.ref oS])), (oF, .inr (0, [.ref oS, .ref oN])), (o2, .inr (1, [.ref oS, .ref q1, .ref q2, .ref q3])), (q1, .inl (cI, 72, .inl z1)), (q2, .inl (cI, 72, .inl z2)), (q3, .inl (cI, 72, .inl z3)), (pa, .inl (cI, 8, .inl pf)), (qa, .inl (cI, 4, .inl (upd (upd qf 0 (nI a8)) 1 (nI b8)))), (rs, .inl (cI, 2310, .inl (n_push v sv))), (oX, .inr (5, [.ref oS, .ref oR, .ref oN, .ref o2, .ref oF, .ref oT])), (oS, .inr (3, [.ref rv, .ref rs, .int (nI (min (kc + 1) 6))])), (rv, .inl (cI, 385, .inl v1)), (oN, .inr (1, [.ref oS, .ref rp, .ref rt, .ref rl])), (rp, .inl (cI, 72, .inl gp_22)), (rt, .inl (cI, 72, .inl gt_23)), (rl, .inl (cI, 72, .inl gl_24))] := hD
              refine lv_aload_n hx hb dL_law_363 rfl (lv_at hl 5 rfl) ?_
              refine lv_iconst (v := 2) hx hb dL_law_364 (by decide) ?_
              refine lv_iconst (v := 1) hx hb dL_law_365 (by decide) ?_
              refine lv_iload hx hb dL_law_366 (lv_at hl 0 rfl) ?_
              refine lv_bipush (v := 7) hx hb dL_law_368 (by decide) ?_
              refine lv_ishr hx hb dL_law_370 ?_
              refine lv_bipush (v := 6) hx hb dL_law_371 (by decide) ?_
              refine lv_aload_n hx hb dL_law_373 rfl (lv_at hl 5 rfl) ?_
              refine lv_iconst (v := 0) hx hb dL_law_374 (by decide) ?_
              refine va_iald hx hb hK.1 hP 7 0 rfl rfl (vp_in_nI (show 0 < 4 from by omega) (by omega)) dL_law_375 ?_
              refine kq_top (z := (upd (upd qf 0 (nI a8)) 1 (nI b8)) 0) (congrArg (upd (upd qf 0 (nI a8)) 1 (nI b8)) (nI_clamp (Nat.lt_trans (show 0 < 4 from by omega) (by omega)))) ?_
              refine kq_top (z := nI a8) ((pk_un (by decide)).trans pk_us) ?_
              refine lv_isub hx hb dL_law_376 ?_
              refine kq_top (z := nI (6 - a8)) (pk_sub (a := 6) (b := a8) (by omega)) ?_
              refine kq_cS (As := [.int (g8 >>> (7 &&& 31)), .int (nI (6 - a8))]) (rest := [.int 1, .int 2, .ref qa]) ⟨hx, hb, hml, hown, hts⟩ (c_L_low l dC dI cI (g8 >>> (7 &&& 31)) (6 - a8) (by first | assumption | omega) (by first | assumption | omega)) (va_cwS 2 hts gL_law_L_low rfl rfl rfl (by decide +kernel) ⟨Nat.le_of_ble_eq_true rfl, Nat.le_of_ble_eq_true rfl⟩) (hP.sub [] rfl) hK rfl hl.1 rfl (Nat.le_of_ble_eq_true rfl) dL_law_377 (kl_room (Nat.le_of_ble_eq_true rfl) (Nat.le_of_ble_eq_true rfl)) ?_
              refine lv_iadd hx hb dL_law_380 ?_
              refine kq_top (z := nI (1 + (n_lw (g8 >>> (7 &&& 31)) (6 - a8)))) (nI_add 1 (n_lw (g8 >>> (7 &&& 31)) (6 - a8))) ?_
              have hb_h7 : 1 ≤ (1 + (n_lw (g8 >>> (7 &&& 31)) (6 - a8))) ∧ (1 + (n_lw (g8 >>> (7 &&& 31)) (6 - a8))) ≤ 6 - a8 := ⟨by omega, by have hz := n_lw_lt (x := g8 >>> (7 &&& 31)) (n := 6 - a8) (by omega); omega⟩
              obtain ⟨h7, eh7⟩ : ∃ z, z = 1 + (n_lw (g8 >>> (7 &&& 31)) (6 - a8)) := ⟨_, rfl⟩
              rw [← eh7] at hb_h7
              refine kq_top (z := nI h7) (congrArg nI eh7.symm) ?_
              refine va_iast hx hb hK.1 hP hD hS 7 0 rfl rfl (vp_in_nI (show 2 < 4 from by omega) (by omega)) dL_law_381 (fun H locs hP hD hS => ?_)
              rw [show Int32.toNatClampNeg 2 = 2 by decide] at hP hD
              have hP : va_P (dC, dI) vwCl [(oR, .inr (2, [.ref oS])), (oF, .inr (0, [.ref oS, .ref oN])), (o2, .inr (1, [.ref oS, .ref q1, .ref q2, .ref q3])), (q1, .inl (cI, 72, .inl z1)), (q2, .inl (cI, 72, .inl z2)), (q3, .inl (cI, 72, .inl z3)), (pa, .inl (cI, 8, .inl pf)), (qa, .inl (cI, 4, .inl (upd (upd (upd qf 0 (nI a8)) 1 (nI b8)) 2 (nI h7)))), (rs, .inl (cI, 2310, .inl (n_push v sv))), (oX, .inr (5, [.ref oS, .ref oR, .ref oN, .ref o2, .ref oF, .ref oT])), (oS, .inr (3, [.ref rv, .ref rs, .int (nI (min (kc + 1) 6))])), (rv, .inl (cI, 385, .inl v1)), (oN, .inr (1, [.ref oS, .ref rp, .ref rt, .ref rl])), (rp, .inl (cI, 72, .inl gp_22)), (rt, .inl (cI, 72, .inl gt_23)), (rl, .inl (cI, 72, .inl gl_24))] H := hP
              have hD : va_D A [(oR, .inr (2, [.ref oS])), (oF, .inr (0, [.ref oS, .ref oN])), (o2, .inr (1, [.ref oS, .ref q1, .ref q2, .ref q3])), (q1, .inl (cI, 72, .inl z1)), (q2, .inl (cI, 72, .inl z2)), (q3, .inl (cI, 72, .inl z3)), (pa, .inl (cI, 8, .inl pf)), (qa, .inl (cI, 4, .inl (upd (upd (upd qf 0 (nI a8)) 1 (nI b8)) 2 (nI h7)))), (rs, .inl (cI, 2310, .inl (n_push v sv))), (oX, .inr (5, [.ref oS, .ref oR, .ref oN, .ref o2, .ref oF, .ref oT])), (oS, .inr (3, [.ref rv, .ref rs, .int (nI (min (kc + 1) 6))])), (rv, .inl (cI, 385, .inl v1)), (oN, .inr (1, [.ref oS, .ref rp, .ref rt, .ref rl])), (rp, .inl (cI, 72, .inl gp_22)), (rt, .inl (cI, 72, .inl gt_23)), (rl, .inl (cI, 72, .inl gl_24))] := hD
              refine lv_aload_n hx hb dL_law_382 rfl (lv_at hl 5 rfl) ?_
              refine lv_iconst (v := 3) hx hb dL_law_383 (by decide) ?_
              refine lv_iconst (v := 1) hx hb dL_law_384 (by decide) ?_
              refine lv_iload hx hb dL_law_385 (lv_at hl 0 rfl) ?_
              refine lv_bipush (v := 10) hx hb dL_law_387 (by decide) ?_
              refine lv_ishr hx hb dL_law_389 ?_
              refine lv_bipush (v := 12) hx hb dL_law_390 (by decide) ?_
              refine lv_aload_n hx hb dL_law_392 rfl (lv_at hl 5 rfl) ?_
              refine lv_iconst (v := 1) hx hb dL_law_393 (by decide) ?_
              refine va_iald hx hb hK.1 hP 7 0 rfl rfl (vp_in_nI (show 1 < 4 from by omega) (by omega)) dL_law_394 ?_
              refine kq_top (z := (upd (upd (upd qf 0 (nI a8)) 1 (nI b8)) 2 (nI h7)) 1) (congrArg (upd (upd (upd qf 0 (nI a8)) 1 (nI b8)) 2 (nI h7)) (nI_clamp (Nat.lt_trans (show 1 < 4 from by omega) (by omega)))) ?_
              refine kq_top (z := nI b8) ((pk_un (by decide)).trans pk_us) ?_
              refine lv_isub hx hb dL_law_395 ?_
              refine kq_top (z := nI (12 - b8)) (pk_sub (a := 12) (b := b8) (by omega)) ?_
              refine kq_cS (As := [.int (g8 >>> (10 &&& 31)), .int (nI (12 - b8))]) (rest := [.int 1, .int 3, .ref qa]) ⟨hx, hb, hml, hown, hts⟩ (c_L_low l dC dI cI (g8 >>> (10 &&& 31)) (12 - b8) (by first | assumption | omega) (by first | assumption | omega)) (va_cwS 2 hts gL_law_L_low rfl rfl rfl (by decide +kernel) ⟨Nat.le_of_ble_eq_true rfl, Nat.le_of_ble_eq_true rfl⟩) (hP.sub [] rfl) hK rfl hl.1 rfl (Nat.le_of_ble_eq_true rfl) dL_law_396 (kl_room (Nat.le_of_ble_eq_true rfl) (Nat.le_of_ble_eq_true rfl)) ?_
              refine lv_iadd hx hb dL_law_399 ?_
              refine kq_top (z := nI (1 + (n_lw (g8 >>> (10 &&& 31)) (12 - b8)))) (nI_add 1 (n_lw (g8 >>> (10 &&& 31)) (12 - b8))) ?_
              have hb_w7 : 1 ≤ (1 + (n_lw (g8 >>> (10 &&& 31)) (12 - b8))) ∧ (1 + (n_lw (g8 >>> (10 &&& 31)) (12 - b8))) ≤ 12 - b8 := ⟨by omega, by have hz := n_lw_lt (x := g8 >>> (10 &&& 31)) (n := 12 - b8) (by omega); omega⟩
              obtain ⟨w7, ew7⟩ : ∃ z, z = 1 + (n_lw (g8 >>> (10 &&& 31)) (12 - b8)) := ⟨_, rfl⟩
              rw [← ew7] at hb_w7
              refine kq_top (z := nI w7) (congrArg nI ew7.symm) ?_
              refine va_iast hx hb hK.1 hP hD hS 7 0 rfl rfl (vp_in_nI (show 3 < 4 from by omega) (by omega)) dL_law_400 (fun H locs hP hD hS => ?_)
              rw [show Int32.toNatClampNeg 3 = 3 by decide] at hP hD
              have hP : va_P (dC, dI) vwCl [(oR, .inr (2, [.ref oS])), (oF, .inr (0, [.ref oS, .ref oN])), (o2, .inr (1, [.ref oS, .ref q1, .ref q2, .ref q3])), (q1, .inl (cI, 72, .inl z1)), (q2, .inl (cI, 72, .inl z2)), (q3, .inl (cI, 72, .inl z3)), (pa, .inl (cI, 8, .inl pf)), (qa, .inl (cI, 4, .inl (upd (upd (upd (upd qf 0 (nI a8)) 1 (nI b8)) 2 (nI h7)) 3 (nI w7)))), (rs, .inl (cI, 2310, .inl (n_push v sv))), (oX, .inr (5, [.ref oS, .ref oR, .ref oN, .ref o2, .ref oF, .ref oT])), (oS, .inr (3, [.ref rv, .ref rs, .int (nI (min (kc + 1) 6))])), (rv, .inl (cI, 385, .inl v1)), (oN, .inr (1, [.ref oS, .ref rp, .ref rt, .ref rl])), (rp, .inl (cI, 72, .inl gp_22)), (rt, .inl (cI, 72, .inl gt_23)), (rl, .inl (cI, 72, .inl gl_24))] H := hP
              have hD : va_D A [(oR, .inr (2, [.ref oS])), (oF, .inr (0, [.ref oS, .ref oN])), (o2, .inr (1, [.ref oS, .ref q1, .ref q2, .ref q3])), (q1, .inl (cI, 72, .inl z1)), (q2, .inl (cI, 72, .inl z2)), (q3, .inl (cI, 72, .inl z3)), (pa, .inl (cI, 8, .inl pf)), (qa, .inl (cI, 4, .inl (upd (upd (upd (upd qf 0 (nI a8)) 1 (nI b8)) 2 (nI h7)) 3 (nI w7)))), (rs, .inl (cI, 2310, .inl (n_push v sv))), (oX, .inr (5, [.ref oS, .ref oR, .ref oN, .ref o2, .ref oF, .ref oT])), (oS, .inr (3, [.ref rv, .ref rs, .int (nI (min (kc + 1) 6))])), (rv, .inl (cI, 385, .inl v1)), (oN, .inr (1, [.ref oS, .ref rp, .ref rt, .ref rl])), (rp, .inl (cI, 72, .inl gp_22)), (rt, .inl (cI, 72, .inl gt_23)), (rl, .inl (cI, 72, .inl gl_24))] := hD
              refine lv_aload_n hx hb dL_law_401 rfl (lv_at hl 3 rfl) ?_
              refine lv_iload hx hb dL_law_402 (lv_at hl 1 rfl) ?_
              refine lv_aload_n hx hb dL_law_404 rfl (lv_at hl 5 rfl) ?_
              refine lv_iconst (v := 0) hx hb dL_law_405 (by decide) ?_
              refine va_iald hx hb hK.1 hP 7 0 rfl rfl (vp_in_nI (show 0 < 4 from by omega) (by omega)) dL_law_406 ?_
              refine kq_top (z := (upd (upd (upd (upd qf 0 (nI a8)) 1 (nI b8)) 2 (nI h7)) 3 (nI w7)) 0) (congrArg (upd (upd (upd (upd qf 0 (nI a8)) 1 (nI b8)) 2 (nI h7)) 3 (nI w7)) (nI_clamp (Nat.lt_trans (show 0 < 4 from by omega) (by omega)))) ?_
              refine kq_top (z := nI a8) ((pk_un (by decide)).trans ((pk_un (by decide)).trans ((pk_un (by decide)).trans pk_us))) ?_
              refine lv_aload_n hx hb dL_law_407 rfl (lv_at hl 5 rfl) ?_
              refine lv_iconst (v := 1) hx hb dL_law_408 (by decide) ?_
              refine va_iald hx hb hK.1 hP 7 0 rfl rfl (vp_in_nI (show 1 < 4 from by omega) (by omega)) dL_law_409 ?_
              refine kq_top (z := (upd (upd (upd (upd qf 0 (nI a8)) 1 (nI b8)) 2 (nI h7)) 3 (nI w7)) 1) (congrArg (upd (upd (upd (upd qf 0 (nI a8)) 1 (nI b8)) 2 (nI h7)) 3 (nI w7)) (nI_clamp (Nat.lt_trans (show 1 < 4 from by omega) (by omega)))) ?_
              refine kq_top (z := nI b8) ((pk_un (by decide)).trans ((pk_un (by decide)).trans pk_us)) ?_
              refine lv_aload_n hx hb dL_law_410 rfl (lv_at hl 5 rfl) ?_
              refine lv_iconst (v := 2) hx hb dL_law_411 (by decide) ?_
              refine va_iald hx hb hK.1 hP 7 0 rfl rfl (vp_in_nI (show 2 < 4 from by omega) (by omega)) dL_law_412 ?_
              refine kq_top (z := (upd (upd (upd (upd qf 0 (nI a8)) 1 (nI b8)) 2 (nI h7)) 3 (nI w7)) 2) (congrArg (upd (upd (upd (upd qf 0 (nI a8)) 1 (nI b8)) 2 (nI h7)) 3 (nI w7)) (nI_clamp (Nat.lt_trans (show 2 < 4 from by omega) (by omega)))) ?_
              refine kq_top (z := nI h7) ((pk_un (by decide)).trans pk_us) ?_
              refine lv_aload_n hx hb dL_law_413 rfl (lv_at hl 5 rfl) ?_
              refine lv_iconst (v := 3) hx hb dL_law_414 (by decide) ?_
              refine va_iald hx hb hK.1 hP 7 0 rfl rfl (vp_in_nI (show 3 < 4 from by omega) (by omega)) dL_law_415 ?_
              refine kq_top (z := (upd (upd (upd (upd qf 0 (nI a8)) 1 (nI b8)) 2 (nI h7)) 3 (nI w7)) 3) (congrArg (upd (upd (upd (upd qf 0 (nI a8)) 1 (nI b8)) 2 (nI h7)) 3 (nI w7)) (nI_clamp (Nat.lt_trans (show 3 < 4 from by omega) (by omega)))) ?_
              refine kq_top (z := nI w7) (pk_us) ?_
              refine kq_callMi (wr := [(oR, .inr (2, [.ref oS])), (o2, .inr (1, [.ref oS, .ref q1, .ref q2, .ref q3])), (q1, .inl (cI, 72, .inl z1)), (q2, .inl (cI, 72, .inl z2)), (q3, .inl (cI, 72, .inl z3)), (pa, .inl (cI, 8, .inl pf)), (qa, .inl (cI, 4, .inl (upd (upd (upd (upd qf 0 (nI a8)) 1 (nI b8)) 2 (nI h7)) 3 (nI w7)))), (oN, .inr (1, [.ref oS, .ref rp, .ref rt, .ref rl])), (rp, .inl (cI, 72, .inl gp_22)), (rt, .inl (cI, 72, .inl gt_23)), (rl, .inl (cI, 72, .inl gl_24))]) (va_runV (As := [.int (nI f8), .int (nI a8), .int (nI b8), .int (nI h7), .int (nI w7)]) (rest := []) ⟨hx, hb, hml, hown, hts⟩ (c_X5_figure l dC dI cI H.size oX oS oR oN o2 oF oT rv rs (min (kc + 1) 6) v1 (n_push v sv) f8 a8 b8 h7 w7 (by first | assumption | omega) (by first | assumption | omega) (by first | assumption | omega) (by first | assumption | omega) (by first | assumption | omega) (by first | assumption | omega) (hI1)) (cwV 5 hts gL_law_X5_figure rfl rfl rfl (by decide +kernel) ⟨Nat.le_of_ble_eq_true rfl, Nat.le_of_ble_eq_true rfl⟩) (kq_preV (ci := 5) (q0 := 0) (hP.sub [9, 10, 11, 8, 1] rfl) (hD.sub [9, 10, 11, 8, 1] (by decide) rfl) hK rfl rfl) rfl rfl hl.1 rfl (lv_room (Nat.le_of_ble_eq_true rfl)) dL_law_416 (kl_room (Nat.le_of_ble_eq_true rfl) (Nat.le_of_ble_eq_true rfl))) hP hD hS hA [9, 10, 11, 8, 1] [0, 2, 3, 4, 5, 6, 7, 12, 13, 14, 15] rfl rfl (by decide) (by decide) (fun r_26 u_27 H locs hw_28 hP hD hS => ?_)
              have hP : va_P (dC, dI) vwCl [(oR, .inr (2, [.ref oS])), (o2, .inr (1, [.ref oS, .ref q1, .ref q2, .ref q3])), (q1, .inl (cI, 72, .inl z1)), (q2, .inl (cI, 72, .inl z2)), (q3, .inl (cI, 72, .inl z3)), (pa, .inl (cI, 8, .inl pf)), (qa, .inl (cI, 4, .inl (upd (upd (upd (upd qf 0 (nI a8)) 1 (nI b8)) 2 (nI h7)) 3 (nI w7)))), (oN, .inr (1, [.ref oS, .ref rp, .ref rt, .ref rl])), (rp, .inl (cI, 72, .inl gp_22)), (rt, .inl (cI, 72, .inl gt_23)), (rl, .inl (cI, 72, .inl gl_24)), (oX, .inr (5, [.ref oS, .ref oR, .ref oN, .ref o2, .ref oF, .ref oT])), (oS, .inr (3, [.ref rv, .ref rs, .int (nI (min ((min (kc + 1) 6) + 1) 6))])), (rv, .inl (cI, 385, .inl (n_fig v1 f8 a8 b8 h7 w7))), (rs, .inl (cI, 2310, .inl (n_push v1 (n_push v sv)))), (oF, .inr (0, [.ref oS, .ref oN]))] H := hP
              have hD : va_D A [(oR, .inr (2, [.ref oS])), (o2, .inr (1, [.ref oS, .ref q1, .ref q2, .ref q3])), (q1, .inl (cI, 72, .inl z1)), (q2, .inl (cI, 72, .inl z2)), (q3, .inl (cI, 72, .inl z3)), (pa, .inl (cI, 8, .inl pf)), (qa, .inl (cI, 4, .inl (upd (upd (upd (upd qf 0 (nI a8)) 1 (nI b8)) 2 (nI h7)) 3 (nI w7)))), (oN, .inr (1, [.ref oS, .ref rp, .ref rt, .ref rl])), (rp, .inl (cI, 72, .inl gp_22)), (rt, .inl (cI, 72, .inl gt_23)), (rl, .inl (cI, 72, .inl gl_24)), (oX, .inr (5, [.ref oS, .ref oR, .ref oN, .ref o2, .ref oF, .ref oT])), (oS, .inr (3, [.ref rv, .ref rs, .int (nI (min ((min (kc + 1) 6) + 1) 6))])), (rv, .inl (cI, 385, .inl (n_fig v1 f8 a8 b8 h7 w7))), (rs, .inl (cI, 2310, .inl (n_push v1 (n_push v sv)))), (oF, .inr (0, [.ref oS, .ref oN]))] := hD
              obtain rfl := hw_28
              have hfr9 : n_fr a8 b8 h7 w7 ≤ 72 := Nat.le_trans (Nat.sub_le _ _) (Nat.mul_le_mul (show min (a8 + h7 + 1) 6 - (a8 - 1) ≤ 6 by omega) (show min (b8 + w7 + 1) 12 - (b8 - 1) ≤ 12 by omega))
              have hqq : n_qq (upd (upd (upd (upd qf 0 (nI a8)) 1 (nI b8)) 2 (nI h7)) 3 (nI w7)) a8 b8 h7 w7 := ⟨(pk_un (by decide)).trans ((pk_un (by decide)).trans ((pk_un (by decide)).trans pk_us)), (pk_un (by decide)).trans ((pk_un (by decide)).trans pk_us), (pk_un (by decide)).trans pk_us, pk_us⟩
              have hI2 : n_I (n_fig v1 f8 a8 b8 h7 w7) := n_I_fig hI1 (by omega) (by omega) (by omega) (by omega) (by omega)
              have hW2 : n_ww sL xs (n_fig v1 f8 a8 b8 h7 w7) := n_ww_as hW1 (fun k hk => n_fig_o (by omega))
              have hp2 : n_pp (n_fig v1 f8 a8 b8 h7 w7) pf := n_pp_as hp1 (fun k hk hk2 => n_fig_o (by omega))
              obtain ⟨hf0, hf1, hf2, hf3⟩ := n_fig_f (v := v1) (f := f8) (b := a8) (d := b8) (h := h7) (w := w7) (by omega) (by omega)
              have ht2 : 0 < n_f (n_fig v1 f8 a8 b8 h7 w7) f8 2 := by rw [hf2]; omega
              have hq2 : n_qq (upd (upd (upd (upd qf 0 (nI a8)) 1 (nI b8)) 2 (nI h7)) 3 (nI w7)) (n_f (n_fig v1 f8 a8 b8 h7 w7) f8 0) (n_f (n_fig v1 f8 a8 b8 h7 w7) f8 1) (n_f (n_fig v1 f8 a8 b8 h7 w7) f8 2) (n_f (n_fig v1 f8 a8 b8 h7 w7) f8 3) := by rw [hf0, hf1, hf2, hf3]; exact hqq
              clear hf0 hf1 hf2 hf3
              generalize hgn_v2 : n_fig v1 f8 a8 b8 h7 w7 = v2 at hP hD hI2 hW2 hp2 ht2 hq2
              have hP : va_P (dC, dI) vwCl [(oR, .inr (2, [.ref oS])), (o2, .inr (1, [.ref oS, .ref q1, .ref q2, .ref q3])), (q1, .inl (cI, 72, .inl z1)), (q2, .inl (cI, 72, .inl z2)), (q3, .inl (cI, 72, .inl z3)), (pa, .inl (cI, 8, .inl pf)), (qa, .inl (cI, 4, .inl (upd (upd (upd (upd qf 0 (nI a8)) 1 (nI b8)) 2 (nI h7)) 3 (nI w7)))), (oN, .inr (1, [.ref oS, .ref rp, .ref rt, .ref rl])), (rp, .inl (cI, 72, .inl gp_22)), (rt, .inl (cI, 72, .inl gt_23)), (rl, .inl (cI, 72, .inl gl_24)), (oX, .inr (5, [.ref oS, .ref oR, .ref oN, .ref o2, .ref oF, .ref oT])), (oS, .inr (3, [.ref rv, .ref rs, .int (nI (min ((min (kc + 1) 6) + 1) 6))])), (rv, .inl (cI, 385, .inl v2)), (rs, .inl (cI, 2310, .inl (n_push v1 (n_push v sv)))), (oF, .inr (0, [.ref oS, .ref oN]))] H := hP
              have hD : va_D A [(oR, .inr (2, [.ref oS])), (o2, .inr (1, [.ref oS, .ref q1, .ref q2, .ref q3])), (q1, .inl (cI, 72, .inl z1)), (q2, .inl (cI, 72, .inl z2)), (q3, .inl (cI, 72, .inl z3)), (pa, .inl (cI, 8, .inl pf)), (qa, .inl (cI, 4, .inl (upd (upd (upd (upd qf 0 (nI a8)) 1 (nI b8)) 2 (nI h7)) 3 (nI w7)))), (oN, .inr (1, [.ref oS, .ref rp, .ref rt, .ref rl])), (rp, .inl (cI, 72, .inl gp_22)), (rt, .inl (cI, 72, .inl gt_23)), (rl, .inl (cI, 72, .inl gl_24)), (oX, .inr (5, [.ref oS, .ref oR, .ref oN, .ref o2, .ref oF, .ref oT])), (oS, .inr (3, [.ref rv, .ref rs, .int (nI (min ((min (kc + 1) 6) + 1) 6))])), (rv, .inl (cI, 385, .inl v2)), (rs, .inl (cI, 2310, .inl (n_push v1 (n_push v sv)))), (oF, .inr (0, [.ref oS, .ref oN]))] := hD
              generalize hgn_qg : upd (upd (upd (upd qf 0 (nI a8)) 1 (nI b8)) 2 (nI h7)) 3 (nI w7) = qg at hP hD hqq hq2
              have hP : va_P (dC, dI) vwCl [(oR, .inr (2, [.ref oS])), (o2, .inr (1, [.ref oS, .ref q1, .ref q2, .ref q3])), (q1, .inl (cI, 72, .inl z1)), (q2, .inl (cI, 72, .inl z2)), (q3, .inl (cI, 72, .inl z3)), (pa, .inl (cI, 8, .inl pf)), (qa, .inl (cI, 4, .inl qg)), (oN, .inr (1, [.ref oS, .ref rp, .ref rt, .ref rl])), (rp, .inl (cI, 72, .inl gp_22)), (rt, .inl (cI, 72, .inl gt_23)), (rl, .inl (cI, 72, .inl gl_24)), (oX, .inr (5, [.ref oS, .ref oR, .ref oN, .ref o2, .ref oF, .ref oT])), (oS, .inr (3, [.ref rv, .ref rs, .int (nI (min ((min (kc + 1) 6) + 1) 6))])), (rv, .inl (cI, 385, .inl v2)), (rs, .inl (cI, 2310, .inl (n_push v1 (n_push v sv)))), (oF, .inr (0, [.ref oS, .ref oN]))] H := hP
              have hD : va_D A [(oR, .inr (2, [.ref oS])), (o2, .inr (1, [.ref oS, .ref q1, .ref q2, .ref q3])), (q1, .inl (cI, 72, .inl z1)), (q2, .inl (cI, 72, .inl z2)), (q3, .inl (cI, 72, .inl z3)), (pa, .inl (cI, 8, .inl pf)), (qa, .inl (cI, 4, .inl qg)), (oN, .inr (1, [.ref oS, .ref rp, .ref rt, .ref rl])), (rp, .inl (cI, 72, .inl gp_22)), (rt, .inl (cI, 72, .inl gt_23)), (rl, .inl (cI, 72, .inl gl_24)), (oX, .inr (5, [.ref oS, .ref oR, .ref oN, .ref o2, .ref oF, .ref oT])), (oS, .inr (3, [.ref rv, .ref rs, .int (nI (min ((min (kc + 1) 6) + 1) 6))])), (rv, .inl (cI, 385, .inl v2)), (rs, .inl (cI, 2310, .inl (n_push v1 (n_push v sv)))), (oF, .inr (0, [.ref oS, .ref oN]))] := hD
              refine lv_aload_n hx hb dL_law_419 rfl (lv_at hl 5 rfl) ?_
              refine kq_cS (As := [.ref qa]) (rest := [.int (nI (n_fr a8 b8 h7 w7))]) ⟨hx, hb, hml, hown, hts⟩ (c_L_frame l dC dI cI qa qg a8 b8 h7 w7 (by first | assumption | omega) (by first | assumption | omega) (by first | assumption | omega) (by first | assumption | omega) (by first | assumption | omega)) (va_cwS 1 hts gL_law_L_frame rfl rfl rfl (by decide +kernel) ⟨Nat.le_of_ble_eq_true rfl, Nat.le_of_ble_eq_true rfl⟩) (hP.sub [6] rfl) hK rfl hl.1 rfl (Nat.le_of_ble_eq_true rfl) dL_law_420 (kl_room (Nat.le_of_ble_eq_true rfl) (Nat.le_of_ble_eq_true rfl)) ?_
              refine lv_icmp_ne (tgt := 447) hx hb dL_law_423 (by decide) (fun c_29 => ?_) (fun c_29 => ?_)
              · skip
                have c_29 := kq_neN (a := (n_fr a8 b8 h7 w7)) (b := (n_fr a8 b8 h7 w7)) c_29 (by omega) (by omega)
                exact absurd c_29 (by omega)
              · skip
                have c_29 := kq_eqN (a := (n_fr a8 b8 h7 w7)) (b := (n_fr a8 b8 h7 w7)) c_29 (by omega) (by omega)
                refine lv_aload_n hx hb dL_law_426 rfl (lv_at hl 3 rfl) ?_
                refine lv_aload_n hx hb dL_law_427 rfl (lv_at hl 2 rfl) ?_
                refine lv_aload_n hx hb dL_law_428 rfl (lv_at hl 4 rfl) ?_
                refine lv_iload hx hb dL_law_429 (lv_at hl 1 rfl) ?_
                refine lv_aload_n hx hb dL_law_431 rfl (lv_at hl 5 rfl) ?_
                refine lv_aload_n hx hb dL_law_432 rfl (lv_at hl 2 rfl) ?_
                refine lv_bipush (v := 73) hx hb dL_law_433 (by decide) ?_
                refine lv_iload hx hb dL_law_435 (lv_at hl 6 rfl) ?_
                refine lv_iadd hx hb dL_law_437 ?_
                refine kq_top (z := nI (73 + e9)) (nI_add 73 e9) ?_
                refine kq_cSX (As := [.ref sb, .int (nI (73 + e9))]) (rest := [.ref qa, .int (nI f8), .ref pa, .ref sb, .ref oX]) ⟨hx, hb, hml, hown, hts⟩ (c_L_cell l dC dI cI sb sL xs (73 + e9) (by first | assumption | omega) (by first | assumption | omega)) (va_cwS 2 hts gL_law_L_cell rfl rfl rfl (by decide +kernel) ⟨Nat.le_of_ble_eq_true rfl, Nat.le_of_ble_eq_true rfl⟩) (hP.sub [] rfl) (kq_xk hX hbl hbA hS) hK rfl hl.1 rfl (Nat.le_of_ble_eq_true rfl) dL_law_438 (kl_room (Nat.le_of_ble_eq_true rfl) (Nat.le_of_ble_eq_true rfl)) ?_
                refine kq_callMi (wr := [(oR, .inr (2, [.ref oS])), (o2, .inr (1, [.ref oS, .ref q1, .ref q2, .ref q3])), (q1, .inl (cI, 72, .inl z1)), (q2, .inl (cI, 72, .inl z2)), (q3, .inl (cI, 72, .inl z3)), (rs, .inl (cI, 2310, .inl (n_push v1 (n_push v sv))))]) (va_runS (As := [.ref oX, .ref sb, .ref pa, .int (nI f8), .ref qa, .int (n_ce sL xs (73 + e9))]) (rest := []) ⟨hx, hb, hml, hown, hts⟩ (c_L_isFigure l dC dI cI sb sL xs H.size oX oS oR oN o2 oF oT rv rs (min ((min (kc + 1) 6) + 1) 6) rp rt rl v2 gp_22 gt_23 gl_24 pa pf qa f8 qg (n_ce sL xs (73 + e9)) (hI2) (hW2) (hp2) (by first | assumption | omega) (ht2) (hq2) (by first | assumption | omega)) (va_cwS 6 hts gL_law_L_isFigure rfl rfl rfl (by decide +kernel) ⟨Nat.le_of_ble_eq_true rfl, Nat.le_of_ble_eq_true rfl⟩) (kq_preSX (hP.sub [11, 12, 13, 15, 7, 8, 9, 10, 5, 6] rfl) (hD.sub [11, 12, 13, 15, 7, 8, 9, 10, 5, 6] (by decide) rfl) hK (kq_xk hX hbl hbA hS) (fun q => hbA (va_free (wc := [(oX, .inr (5, [.ref oS, .ref oR, .ref oN, .ref o2, .ref oF, .ref oT])), (oS, .inr (3, [.ref rv, .ref rs, .int (nI (min ((min (kc + 1) 6) + 1) 6))])), (rv, .inl (cI, 385, .inl v2)), (oF, .inr (0, [.ref oS, .ref oN])), (oN, .inr (1, [.ref oS, .ref rp, .ref rt, .ref rl])), (rp, .inl (cI, 72, .inl gp_22)), (rt, .inl (cI, 72, .inl gt_23)), (rl, .inl (cI, 72, .inl gl_24)), (pa, .inl (cI, 8, .inl pf)), (qa, .inl (cI, 4, .inl qg))]) hD hS hA [11, 12, 13, 15, 7, 8, 9, 10, 5, 6] rfl _ q))) rfl rfl hl.1 rfl (lv_room (Nat.le_of_ble_eq_true rfl)) dL_law_441 (kl_room (Nat.le_of_ble_eq_true rfl) (Nat.le_of_ble_eq_true rfl))) hP hD hS hA [11, 12, 13, 15, 7, 8, 9, 10, 5, 6] [0, 1, 2, 3, 4, 14] rfl rfl (by decide) (by decide) (fun r_30 u_31 H locs hw_32 hP hD hS => ?_)
                obtain ⟨gp_33, gt_34, gl_35⟩ := u_31
                have hP : va_P (dC, dI) vwCl [(oR, .inr (2, [.ref oS])), (o2, .inr (1, [.ref oS, .ref q1, .ref q2, .ref q3])), (q1, .inl (cI, 72, .inl z1)), (q2, .inl (cI, 72, .inl z2)), (q3, .inl (cI, 72, .inl z3)), (rs, .inl (cI, 2310, .inl (n_push v1 (n_push v sv)))), (oX, .inr (5, [.ref oS, .ref oR, .ref oN, .ref o2, .ref oF, .ref oT])), (oS, .inr (3, [.ref rv, .ref rs, .int (nI (min ((min (kc + 1) 6) + 1) 6))])), (rv, .inl (cI, 385, .inl v2)), (oF, .inr (0, [.ref oS, .ref oN])), (oN, .inr (1, [.ref oS, .ref rp, .ref rt, .ref rl])), (rp, .inl (cI, 72, .inl gp_33)), (rt, .inl (cI, 72, .inl gt_34)), (rl, .inl (cI, 72, .inl gl_35)), (pa, .inl (cI, 8, .inl pf)), (qa, .inl (cI, 4, .inl qg))] H := hP
                have hD : va_D A [(oR, .inr (2, [.ref oS])), (o2, .inr (1, [.ref oS, .ref q1, .ref q2, .ref q3])), (q1, .inl (cI, 72, .inl z1)), (q2, .inl (cI, 72, .inl z2)), (q3, .inl (cI, 72, .inl z3)), (rs, .inl (cI, 2310, .inl (n_push v1 (n_push v sv)))), (oX, .inr (5, [.ref oS, .ref oR, .ref oN, .ref o2, .ref oF, .ref oT])), (oS, .inr (3, [.ref rv, .ref rs, .int (nI (min ((min (kc + 1) 6) + 1) 6))])), (rv, .inl (cI, 385, .inl v2)), (oF, .inr (0, [.ref oS, .ref oN])), (oN, .inr (1, [.ref oS, .ref rp, .ref rt, .ref rl])), (rp, .inl (cI, 72, .inl gp_33)), (rt, .inl (cI, 72, .inl gt_34)), (rl, .inl (cI, 72, .inl gl_35)), (pa, .inl (cI, 8, .inl pf)), (qa, .inl (cI, 4, .inl qg))] := hD
                obtain rfl := hw_32
                refine lv_if_ne (tgt := 449) hx hb dL_law_444 (by decide) (fun _ => ?_) (fun q => absurd q (by decide))
                refine lv_iload hx hb dL_law_449 (lv_at hl 7 rfl) ?_
                refine lv_bipush (v := 22) hx hb dL_law_451 (by decide) ?_
                refine lv_ishr hx hb dL_law_453 ?_
                refine lv_iconst (v := 3) hx hb dL_law_454 (by decide) ?_
                refine kq_cS (As := [.int (h8 >>> (22 &&& 31)), .int 3]) (rest := []) ⟨hx, hb, hml, hown, hts⟩ (c_L_low l dC dI cI (h8 >>> (22 &&& 31)) 3 (by first | assumption | omega) (by first | assumption | omega)) (va_cwS 2 hts gL_law_L_low rfl rfl rfl (by decide +kernel) ⟨Nat.le_of_ble_eq_true rfl, Nat.le_of_ble_eq_true rfl⟩) (hP.sub [] rfl) hK rfl hl.1 rfl (Nat.le_of_ble_eq_true rfl) dL_law_455 (kl_room (Nat.le_of_ble_eq_true rfl) (Nat.le_of_ble_eq_true rfl)) ?_
                have hb_t8 : (n_lw (h8 >>> (22 &&& 31)) 3) < 3 := n_lw_lt (by decide)
                obtain ⟨t8, et8⟩ : ∃ z, z = n_lw (h8 >>> (22 &&& 31)) 3 := ⟨_, rfl⟩
                rw [← et8] at hb_t8
                refine kq_top (z := nI t8) (congrArg nI et8.symm) ?_
                refine lv_istore (lv' := [(14, .int (nI t8)), (13, .int g8), (12, .int (nI f8)), (0, .ref sb), (1, .ref oX), (2, .ref pa), (3, .ref qa), (4, .int (nI e9)), (5, .int h8), (6, .int (nI r8)), (7, .int (nI c8)), (8, .int (nI u8)), (9, .int (nI w8)), (10, .int (nI i8)), (11, .int x)]) hx hb dL_law_458 hl (by decide) rfl (fun ls hl => ?_)
                have h4 := n_I_c4 hI2 hb_t8
                have h16 := n_I_c16 hI2 hb_t8
                have hpc := n_I_pc hI2 hb_t8
                refine lv_iload hx hb dL_law_460 (lv_at hl 7 rfl) ?_
                refine lv_iconst (v := 2) hx hb dL_law_462 (by decide) ?_
                refine lv_irem hx hb dL_law_463 (nI_ne0 (n := 2) (by omega) (by omega)) ?_
                refine kq_top (z := nI (e9 % 2)) (pk_rem (a := e9) (d := 2) (by omega) (by omega) (by omega)) ?_
                refine lv_if_ne (tgt := 510) hx hb dL_law_464 (by decide) (fun c_37 => ?_) (fun c_37 => ?_)
                · skip
                  have c_37 := kq_neN (a := (e9 % 2)) (b := 0) c_37 (by omega) (by omega)
                  refine lv_aload_n hx hb dL_law_510 rfl (lv_at hl 5 rfl) ?_
                  refine lv_iload hx hb dL_law_511 (lv_at hl 0 rfl) ?_
                  refine va_iald hx hb hK.1 hP 14 0 rfl rfl (vp_in_nI (show t8 < 8 from by omega) (by omega)) dL_law_513 ?_
                  refine kq_top (z := pf t8) (congrArg pf (nI_clamp (Nat.lt_trans (show t8 < 8 from by omega) (by omega)))) ?_
                  refine kq_top (z := nI (n_c v2 t8)) ((hp2.1 t8 hb_t8).1.trans (n_I_c hI2 hb_t8)) ?_
                  refine lv_istore (lv' := [(15, .int (nI (n_c v2 t8))), (14, .int (nI t8)), (13, .int g8), (12, .int (nI f8)), (0, .ref sb), (1, .ref oX), (2, .ref pa), (3, .ref qa), (4, .int (nI e9)), (5, .int h8), (6, .int (nI r8)), (7, .int (nI c8)), (8, .int (nI u8)), (9, .int (nI w8)), (10, .int (nI i8)), (11, .int x)]) hx hb dL_law_514 hl (by decide) rfl (fun ls hl => ?_)
                  refine lv_aload_n hx hb dL_law_516 rfl (lv_at hl 6 rfl) ?_
                  refine lv_iload hx hb dL_law_517 (lv_at hl 1 rfl) ?_
                  refine lv_iconst (v := 4) hx hb dL_law_519 (by decide) ?_
                  refine lv_iload hx hb dL_law_520 (lv_at hl 9 rfl) ?_
                  refine lv_bipush (v := 24) hx hb dL_law_522 (by decide) ?_
                  refine lv_ishr hx hb dL_law_524 ?_
                  refine lv_bipush (v := 13) hx hb dL_law_525 (by decide) ?_
                  refine kq_cS (As := [.int (h8 >>> (24 &&& 31)), .int 13]) (rest := [.int 4, .int (nI t8), .ref pa]) ⟨hx, hb, hml, hown, hts⟩ (c_L_low l dC dI cI (h8 >>> (24 &&& 31)) 13 (by first | assumption | omega) (by first | assumption | omega)) (va_cwS 2 hts gL_law_L_low rfl rfl rfl (by decide +kernel) ⟨Nat.le_of_ble_eq_true rfl, Nat.le_of_ble_eq_true rfl⟩) (hP.sub [] rfl) hK rfl hl.1 rfl (Nat.le_of_ble_eq_true rfl) dL_law_527 (kl_room (Nat.le_of_ble_eq_true rfl) (Nat.le_of_ble_eq_true rfl)) ?_
                  refine lv_iadd hx hb dL_law_530 ?_
                  refine kq_top (z := nI (4 + (n_lw (h8 >>> (24 &&& 31)) 13))) (nI_add 4 (n_lw (h8 >>> (24 &&& 31)) 13)) ?_
                  have hb_s8 : 4 ≤ (4 + (n_lw (h8 >>> (24 &&& 31)) 13)) ∧ (4 + (n_lw (h8 >>> (24 &&& 31)) 13)) ≤ 16 := ⟨by omega, by have hz := n_lw_lt (x := h8 >>> (24 &&& 31)) (n := 13) (by decide); omega⟩
                  obtain ⟨s8, es8⟩ : ∃ z, z = 4 + (n_lw (h8 >>> (24 &&& 31)) 13) := ⟨_, rfl⟩
                  rw [← es8] at hb_s8
                  refine kq_top (z := nI s8) (congrArg nI es8.symm) ?_
                  refine va_iast hx hb hK.1 hP hD hS 14 0 rfl rfl (vp_in_nI (show t8 < 8 from by omega) (by omega)) dL_law_531 (fun H locs hP hD hS => ?_)
                  rw [nI_clamp (Nat.lt_trans (show t8 < 8 from by omega) (by omega))] at hP hD
                  have hP : va_P (dC, dI) vwCl [(oR, .inr (2, [.ref oS])), (o2, .inr (1, [.ref oS, .ref q1, .ref q2, .ref q3])), (q1, .inl (cI, 72, .inl z1)), (q2, .inl (cI, 72, .inl z2)), (q3, .inl (cI, 72, .inl z3)), (rs, .inl (cI, 2310, .inl (n_push v1 (n_push v sv)))), (oX, .inr (5, [.ref oS, .ref oR, .ref oN, .ref o2, .ref oF, .ref oT])), (oS, .inr (3, [.ref rv, .ref rs, .int (nI (min ((min (kc + 1) 6) + 1) 6))])), (rv, .inl (cI, 385, .inl v2)), (oF, .inr (0, [.ref oS, .ref oN])), (oN, .inr (1, [.ref oS, .ref rp, .ref rt, .ref rl])), (rp, .inl (cI, 72, .inl gp_33)), (rt, .inl (cI, 72, .inl gt_34)), (rl, .inl (cI, 72, .inl gl_35)), (pa, .inl (cI, 8, .inl (upd pf t8 (nI s8)))), (qa, .inl (cI, 4, .inl qg))] H := hP
                  have hD : va_D A [(oR, .inr (2, [.ref oS])), (o2, .inr (1, [.ref oS, .ref q1, .ref q2, .ref q3])), (q1, .inl (cI, 72, .inl z1)), (q2, .inl (cI, 72, .inl z2)), (q3, .inl (cI, 72, .inl z3)), (rs, .inl (cI, 2310, .inl (n_push v1 (n_push v sv)))), (oX, .inr (5, [.ref oS, .ref oR, .ref oN, .ref o2, .ref oF, .ref oT])), (oS, .inr (3, [.ref rv, .ref rs, .int (nI (min ((min (kc + 1) 6) + 1) 6))])), (rv, .inl (cI, 385, .inl v2)), (oF, .inr (0, [.ref oS, .ref oN])), (oN, .inr (1, [.ref oS, .ref rp, .ref rt, .ref rl])), (rp, .inl (cI, 72, .inl gp_33)), (rt, .inl (cI, 72, .inl gt_34)), (rl, .inl (cI, 72, .inl gl_35)), (pa, .inl (cI, 8, .inl (upd pf t8 (nI s8)))), (qa, .inl (cI, 4, .inl qg))] := hD
                  refine lv_aload_n hx hb dL_law_532 rfl (lv_at hl 6 rfl) ?_
                  refine lv_iconst (v := 3) hx hb dL_law_533 (by decide) ?_
                  refine lv_iload hx hb dL_law_534 (lv_at hl 1 rfl) ?_
                  refine lv_iadd hx hb dL_law_536 ?_
                  refine kq_top (z := nI (3 + t8)) (nI_add 3 t8) ?_
                  refine lv_aload_n hx hb dL_law_537 rfl (lv_at hl 6 rfl) ?_
                  refine lv_iconst (v := 3) hx hb dL_law_538 (by decide) ?_
                  refine lv_iload hx hb dL_law_539 (lv_at hl 1 rfl) ?_
                  refine lv_iadd hx hb dL_law_541 ?_
                  refine kq_top (z := nI (3 + t8)) (nI_add 3 t8) ?_
                  refine va_iald hx hb hK.1 hP 14 0 rfl rfl (vp_in_nI (show 3 + t8 < 8 from by omega) (by omega)) dL_law_542 ?_
                  refine kq_top (z := (upd pf t8 (nI s8)) (3 + t8)) (congrArg (upd pf t8 (nI s8)) (nI_clamp (Nat.lt_trans (show 3 + t8 < 8 from by omega) (by omega)))) ?_
                  refine kq_top (z := nI (n_p v2 t8)) ((pk_un (by omega)).trans ((hp2.1 t8 hb_t8).2.trans (n_I_p hI2 hb_t8))) ?_
                  refine lv_aload_n hx hb dL_law_543 rfl (lv_at hl 6 rfl) ?_
                  refine lv_iload hx hb dL_law_544 (lv_at hl 1 rfl) ?_
                  refine va_iald hx hb hK.1 hP 14 0 rfl rfl (vp_in_nI (show t8 < 8 from by omega) (by omega)) dL_law_546 ?_
                  refine kq_top (z := (upd pf t8 (nI s8)) t8) (congrArg (upd pf t8 (nI s8)) (nI_clamp (Nat.lt_trans (show t8 < 8 from by omega) (by omega)))) ?_
                  refine kq_top (z := nI s8) (pk_us) ?_
                  refine lv_irem hx hb dL_law_547 (nI_ne0 (n := s8) (by omega) (by omega)) ?_
                  refine kq_top (z := nI ((n_p v2 t8) % s8)) (pk_rem (a := (n_p v2 t8)) (d := s8) (by omega) (by omega) (by omega)) ?_
                  have hms := Nat.mod_lt (n_p v2 t8) (show 0 < s8 by omega)
                  refine va_iast hx hb hK.1 hP hD hS 14 0 rfl rfl (vp_in_nI (show 3 + t8 < 8 from by omega) (by omega)) dL_law_548 (fun H locs hP hD hS => ?_)
                  rw [nI_clamp (Nat.lt_trans (show 3 + t8 < 8 from by omega) (by omega))] at hP hD
                  have hP : va_P (dC, dI) vwCl [(oR, .inr (2, [.ref oS])), (o2, .inr (1, [.ref oS, .ref q1, .ref q2, .ref q3])), (q1, .inl (cI, 72, .inl z1)), (q2, .inl (cI, 72, .inl z2)), (q3, .inl (cI, 72, .inl z3)), (rs, .inl (cI, 2310, .inl (n_push v1 (n_push v sv)))), (oX, .inr (5, [.ref oS, .ref oR, .ref oN, .ref o2, .ref oF, .ref oT])), (oS, .inr (3, [.ref rv, .ref rs, .int (nI (min ((min (kc + 1) 6) + 1) 6))])), (rv, .inl (cI, 385, .inl v2)), (oF, .inr (0, [.ref oS, .ref oN])), (oN, .inr (1, [.ref oS, .ref rp, .ref rt, .ref rl])), (rp, .inl (cI, 72, .inl gp_33)), (rt, .inl (cI, 72, .inl gt_34)), (rl, .inl (cI, 72, .inl gl_35)), (pa, .inl (cI, 8, .inl (upd (upd pf t8 (nI s8)) (3 + t8) (nI ((n_p v2 t8) % s8))))), (qa, .inl (cI, 4, .inl qg))] H := hP
                  have hD : va_D A [(oR, .inr (2, [.ref oS])), (o2, .inr (1, [.ref oS, .ref q1, .ref q2, .ref q3])), (q1, .inl (cI, 72, .inl z1)), (q2, .inl (cI, 72, .inl z2)), (q3, .inl (cI, 72, .inl z3)), (rs, .inl (cI, 2310, .inl (n_push v1 (n_push v sv)))), (oX, .inr (5, [.ref oS, .ref oR, .ref oN, .ref o2, .ref oF, .ref oT])), (oS, .inr (3, [.ref rv, .ref rs, .int (nI (min ((min (kc + 1) 6) + 1) 6))])), (rv, .inl (cI, 385, .inl v2)), (oF, .inr (0, [.ref oS, .ref oN])), (oN, .inr (1, [.ref oS, .ref rp, .ref rt, .ref rl])), (rp, .inl (cI, 72, .inl gp_33)), (rt, .inl (cI, 72, .inl gt_34)), (rl, .inl (cI, 72, .inl gl_35)), (pa, .inl (cI, 8, .inl (upd (upd pf t8 (nI s8)) (3 + t8) (nI ((n_p v2 t8) % s8))))), (qa, .inl (cI, 4, .inl qg))] := hD
                  refine lv_aload_n hx hb dL_law_549 rfl (lv_at hl 5 rfl) ?_
                  refine lv_iload hx hb dL_law_550 (lv_at hl 1 rfl) ?_
                  refine lv_aload_n hx hb dL_law_552 rfl (lv_at hl 6 rfl) ?_
                  refine lv_iload hx hb dL_law_553 (lv_at hl 1 rfl) ?_
                  refine va_iald hx hb hK.1 hP 14 0 rfl rfl (vp_in_nI (show t8 < 8 from by omega) (by omega)) dL_law_555 ?_
                  refine kq_top (z := (upd (upd pf t8 (nI s8)) (3 + t8) (nI ((n_p v2 t8) % s8))) t8) (congrArg (upd (upd pf t8 (nI s8)) (3 + t8) (nI ((n_p v2 t8) % s8))) (nI_clamp (Nat.lt_trans (show t8 < 8 from by omega) (by omega)))) ?_
                  refine kq_top (z := nI s8) ((pk_un (by omega)).trans pk_us) ?_
                  refine kq_callMi (wr := [(o2, .inr (1, [.ref oS, .ref q1, .ref q2, .ref q3])), (q1, .inl (cI, 72, .inl z1)), (q2, .inl (cI, 72, .inl z2)), (q3, .inl (cI, 72, .inl z3)), (oF, .inr (0, [.ref oS, .ref oN])), (oN, .inr (1, [.ref oS, .ref rp, .ref rt, .ref rl])), (rp, .inl (cI, 72, .inl gp_33)), (rt, .inl (cI, 72, .inl gt_34)), (rl, .inl (cI, 72, .inl gl_35)), (pa, .inl (cI, 8, .inl (upd (upd pf t8 (nI s8)) (3 + t8) (nI ((n_p v2 t8) % s8))))), (qa, .inl (cI, 4, .inl qg))]) (va_runV (As := [.int (nI t8), .int (nI s8)]) (rest := []) ⟨hx, hb, hml, hown, hts⟩ (c_X5_size l dC dI cI H.size oX oS oR oN o2 oF oT rv rs (min ((min (kc + 1) 6) + 1) 6) v2 (n_push v1 (n_push v sv)) t8 s8 (by first | assumption | omega) (by first | assumption | omega) (by first | assumption | omega) (hI2)) (cwV 2 hts gL_law_X5_size rfl rfl rfl (by decide +kernel) ⟨Nat.le_of_ble_eq_true rfl, Nat.le_of_ble_eq_true rfl⟩) (kq_preV (ci := 5) (q0 := 0) (hP.sub [6, 7, 8, 5, 0] rfl) (hD.sub [6, 7, 8, 5, 0] (by decide) rfl) hK rfl rfl) rfl rfl hl.1 rfl (lv_room (Nat.le_of_ble_eq_true rfl)) dL_law_556 (kl_room (Nat.le_of_ble_eq_true rfl) (Nat.le_of_ble_eq_true rfl))) hP hD hS hA [6, 7, 8, 5, 0] [1, 2, 3, 4, 9, 10, 11, 12, 13, 14, 15] rfl rfl (by decide) (by decide) (fun r_38 u_39 H locs hw_40 hP hD hS => ?_)
                  have hP : va_P (dC, dI) vwCl [(o2, .inr (1, [.ref oS, .ref q1, .ref q2, .ref q3])), (q1, .inl (cI, 72, .inl z1)), (q2, .inl (cI, 72, .inl z2)), (q3, .inl (cI, 72, .inl z3)), (oF, .inr (0, [.ref oS, .ref oN])), (oN, .inr (1, [.ref oS, .ref rp, .ref rt, .ref rl])), (rp, .inl (cI, 72, .inl gp_33)), (rt, .inl (cI, 72, .inl gt_34)), (rl, .inl (cI, 72, .inl gl_35)), (pa, .inl (cI, 8, .inl (upd (upd pf t8 (nI s8)) (3 + t8) (nI ((n_p v2 t8) % s8))))), (qa, .inl (cI, 4, .inl qg)), (oX, .inr (5, [.ref oS, .ref oR, .ref oN, .ref o2, .ref oF, .ref oT])), (oS, .inr (3, [.ref rv, .ref rs, .int (nI (min ((min ((min (kc + 1) 6) + 1) 6) + 1) 6))])), (rv, .inl (cI, 385, .inl (upd (upd v2 (288 + t8) (nI s8)) (291 + t8) (nI (n_p v2 t8 % s8))))), (rs, .inl (cI, 2310, .inl (n_push v2 (n_push v1 (n_push v sv))))), (oR, .inr (2, [.ref oS]))] H := hP
                  have hD : va_D A [(o2, .inr (1, [.ref oS, .ref q1, .ref q2, .ref q3])), (q1, .inl (cI, 72, .inl z1)), (q2, .inl (cI, 72, .inl z2)), (q3, .inl (cI, 72, .inl z3)), (oF, .inr (0, [.ref oS, .ref oN])), (oN, .inr (1, [.ref oS, .ref rp, .ref rt, .ref rl])), (rp, .inl (cI, 72, .inl gp_33)), (rt, .inl (cI, 72, .inl gt_34)), (rl, .inl (cI, 72, .inl gl_35)), (pa, .inl (cI, 8, .inl (upd (upd pf t8 (nI s8)) (3 + t8) (nI ((n_p v2 t8) % s8))))), (qa, .inl (cI, 4, .inl qg)), (oX, .inr (5, [.ref oS, .ref oR, .ref oN, .ref o2, .ref oF, .ref oT])), (oS, .inr (3, [.ref rv, .ref rs, .int (nI (min ((min ((min (kc + 1) 6) + 1) 6) + 1) 6))])), (rv, .inl (cI, 385, .inl (upd (upd v2 (288 + t8) (nI s8)) (291 + t8) (nI (n_p v2 t8 % s8))))), (rs, .inl (cI, 2310, .inl (n_push v2 (n_push v1 (n_push v sv))))), (oR, .inr (2, [.ref oS]))] := hD
                  obtain rfl := hw_40
                  refine kq_top (z := nI (n_c v2 t8)) (n_I_c hI2 hb_t8) ?_
                  refine lv_iload hx hb dL_law_559 (lv_at hl 0 rfl) ?_
                  refine lv_icmp_ne (tgt := 580) hx hb dL_law_561 (by decide) (fun c_41 => ?_) (fun c_41 => ?_)
                  · skip
                    have c_41 := kq_neN (a := (n_c v2 t8)) (b := (n_c v2 t8)) c_41 (by omega) (by omega)
                    exact absurd c_41 (by omega)
                  · skip
                    have c_41 := kq_eqN (a := (n_c v2 t8)) (b := (n_c v2 t8)) c_41 (by omega) (by omega)
                    refine lv_aload_n hx hb dL_law_564 rfl (lv_at hl 5 rfl) ?_
                    refine lv_iload hx hb dL_law_565 (lv_at hl 1 rfl) ?_
                    refine lv_iconst (v := 1) hx hb dL_law_567 (by decide) ?_
                    refine kq_callMi (wr := [(o2, .inr (1, [.ref oS, .ref q1, .ref q2, .ref q3])), (q1, .inl (cI, 72, .inl z1)), (q2, .inl (cI, 72, .inl z2)), (q3, .inl (cI, 72, .inl z3)), (oF, .inr (0, [.ref oS, .ref oN])), (oN, .inr (1, [.ref oS, .ref rp, .ref rt, .ref rl])), (rp, .inl (cI, 72, .inl gp_33)), (rt, .inl (cI, 72, .inl gt_34)), (rl, .inl (cI, 72, .inl gl_35)), (pa, .inl (cI, 8, .inl (upd (upd pf t8 (nI s8)) (3 + t8) (nI ((n_p v2 t8) % s8))))), (qa, .inl (cI, 4, .inl qg)), (rs, .inl (cI, 2310, .inl (n_push v2 (n_push v1 (n_push v sv)))))]) (va_runV (As := [.int (nI t8), .int 1]) (rest := []) ⟨hx, hb, hml, hown, hts⟩ (c_X5_roll l dC dI cI H.size oX oS oR oN o2 oF oT rv rs (min ((min ((min (kc + 1) 6) + 1) 6) + 1) 6) (upd (upd v2 (288 + t8) (nI s8)) (291 + t8) (nI (n_p v2 t8 % s8))) t8 1 (n_I_size hI2 hb_t8 hb_s8) (by first | assumption | omega) (by first | assumption | omega)) (cwV 2 hts gL_law_X5_roll rfl rfl rfl (by decide +kernel) ⟨Nat.le_of_ble_eq_true rfl, Nat.le_of_ble_eq_true rfl⟩) (kq_preV (ci := 5) (q0 := 0) (hP.sub [11, 12, 13, 15] rfl) (hD.sub [11, 12, 13, 15] (by decide) rfl) hK rfl rfl) rfl rfl hl.1 rfl (lv_room (Nat.le_of_ble_eq_true rfl)) dL_law_568 (kl_room (Nat.le_of_ble_eq_true rfl) (Nat.le_of_ble_eq_true rfl))) hP hD hS hA [11, 12, 13, 15] [0, 1, 2, 3, 4, 5, 6, 7, 8, 9, 10, 14] rfl rfl (by decide) (by decide) (fun r_42 u_43 H locs hw_44 hP hD hS => ?_)
                    have hP : va_P (dC, dI) vwCl [(o2, .inr (1, [.ref oS, .ref q1, .ref q2, .ref q3])), (q1, .inl (cI, 72, .inl z1)), (q2, .inl (cI, 72, .inl z2)), (q3, .inl (cI, 72, .inl z3)), (oF, .inr (0, [.ref oS, .ref oN])), (oN, .inr (1, [.ref oS, .ref rp, .ref rt, .ref rl])), (rp, .inl (cI, 72, .inl gp_33)), (rt, .inl (cI, 72, .inl gt_34)), (rl, .inl (cI, 72, .inl gl_35)), (pa, .inl (cI, 8, .inl (upd (upd pf t8 (nI s8)) (3 + t8) (nI ((n_p v2 t8) % s8))))), (qa, .inl (cI, 4, .inl qg)), (rs, .inl (cI, 2310, .inl (n_push v2 (n_push v1 (n_push v sv))))), (oX, .inr (5, [.ref oS, .ref oR, .ref oN, .ref o2, .ref oF, .ref oT])), (oS, .inr (3, [.ref rv, .ref rs, .int (nI (min ((min ((min (kc + 1) 6) + 1) 6) + 1) 6))])), (rv, .inl (cI, 385, .inl (upd (upd v2 (288 + t8) (nI s8)) (291 + t8) (nI (n_p v2 t8 % s8))))), (oR, .inr (2, [.ref oS]))] H := hP
                    have hD : va_D A [(o2, .inr (1, [.ref oS, .ref q1, .ref q2, .ref q3])), (q1, .inl (cI, 72, .inl z1)), (q2, .inl (cI, 72, .inl z2)), (q3, .inl (cI, 72, .inl z3)), (oF, .inr (0, [.ref oS, .ref oN])), (oN, .inr (1, [.ref oS, .ref rp, .ref rt, .ref rl])), (rp, .inl (cI, 72, .inl gp_33)), (rt, .inl (cI, 72, .inl gt_34)), (rl, .inl (cI, 72, .inl gl_35)), (pa, .inl (cI, 8, .inl (upd (upd pf t8 (nI s8)) (3 + t8) (nI ((n_p v2 t8) % s8))))), (qa, .inl (cI, 4, .inl qg)), (rs, .inl (cI, 2310, .inl (n_push v2 (n_push v1 (n_push v sv))))), (oX, .inr (5, [.ref oS, .ref oR, .ref oN, .ref o2, .ref oF, .ref oT])), (oS, .inr (3, [.ref rv, .ref rs, .int (nI (min ((min ((min (kc + 1) 6) + 1) 6) + 1) 6))])), (rv, .inl (cI, 385, .inl (upd (upd v2 (288 + t8) (nI s8)) (291 + t8) (nI (n_p v2 t8 % s8))))), (oR, .inr (2, [.ref oS]))] := hD
                    obtain rfl := hw_44
                    refine kq_top (z := nI (n_p v2 t8 % s8)) (n_roll_1.trans pk_us) ?_
                    refine lv_aload_n hx hb dL_law_571 rfl (lv_at hl 6 rfl) ?_
                    refine lv_iconst (v := 3) hx hb dL_law_572 (by decide) ?_
                    refine lv_iload hx hb dL_law_573 (lv_at hl 1 rfl) ?_
                    refine lv_iadd hx hb dL_law_575 ?_
                    refine kq_top (z := nI (3 + t8)) (nI_add 3 t8) ?_
                    refine va_iald hx hb hK.1 hP 9 0 rfl rfl (vp_in_nI (show 3 + t8 < 8 from by omega) (by omega)) dL_law_576 ?_
                    refine kq_top (z := (upd (upd pf t8 (nI s8)) (3 + t8) (nI ((n_p v2 t8) % s8))) (3 + t8)) (congrArg (upd (upd pf t8 (nI s8)) (3 + t8) (nI ((n_p v2 t8) % s8))) (nI_clamp (Nat.lt_trans (show 3 + t8 < 8 from by omega) (by omega)))) ?_
                    refine kq_top (z := nI (n_p v2 t8 % s8)) (pk_us) ?_
                    refine lv_icmp_eq (tgt := 582) hx hb dL_law_577 (by decide) (fun c_45 => ?_) (fun c_45 => ?_)
                    · skip
                      have c_45 := kq_eqN (a := (n_p v2 t8 % s8)) (b := (n_p v2 t8 % s8)) c_45 (by omega) (by omega)
                      have hI3 : n_I ((upd (upd v2 (288 + t8) (nI s8)) (291 + t8) (nI (n_p v2 t8 % s8)))) := n_I_size hI2 hb_t8 hb_s8
                      have hW3 : n_ww sL xs ((upd (upd v2 (288 + t8) (nI s8)) (291 + t8) (nI (n_p v2 t8 % s8)))) := n_ww_as hW2 (fun k hk => (pk_un (by omega)).trans (pk_un (by omega)))
                      have hp3 : n_pp ((upd (upd v2 (288 + t8) (nI s8)) (291 + t8) (nI (n_p v2 t8 % s8)))) (upd (upd pf t8 (nI s8)) (3 + t8) (nI ((n_p v2 t8) % s8))) := n_pp_z hp2 hb_t8
                      have hf3 : ∀ j, n_f ((upd (upd v2 (288 + t8) (nI s8)) (291 + t8) (nI (n_p v2 t8 % s8)))) f8 j = n_f v2 f8 j := fun j => (n_f_o (by omega)).trans (n_f_o (by omega))
                      have hq3 := n_qf_as hq2 hf3
                      have ht3 : 0 < n_f ((upd (upd v2 (288 + t8) (nI s8)) (291 + t8) (nI (n_p v2 t8 % s8)))) f8 2 := by rw [hf3]; exact ht2
                      clear hf3
                      generalize hgn_v3 : (upd (upd v2 (288 + t8) (nI s8)) (291 + t8) (nI (n_p v2 t8 % s8))) = v3 at hP hD hI3 hW3 hp3 hq3 ht3
                      have hP : va_P (dC, dI) vwCl [(o2, .inr (1, [.ref oS, .ref q1, .ref q2, .ref q3])), (q1, .inl (cI, 72, .inl z1)), (q2, .inl (cI, 72, .inl z2)), (q3, .inl (cI, 72, .inl z3)), (oF, .inr (0, [.ref oS, .ref oN])), (oN, .inr (1, [.ref oS, .ref rp, .ref rt, .ref rl])), (rp, .inl (cI, 72, .inl gp_33)), (rt, .inl (cI, 72, .inl gt_34)), (rl, .inl (cI, 72, .inl gl_35)), (pa, .inl (cI, 8, .inl (upd (upd pf t8 (nI s8)) (3 + t8) (nI ((n_p v2 t8) % s8))))), (qa, .inl (cI, 4, .inl qg)), (rs, .inl (cI, 2310, .inl (n_push v2 (n_push v1 (n_push v sv))))), (oX, .inr (5, [.ref oS, .ref oR, .ref oN, .ref o2, .ref oF, .ref oT])), (oS, .inr (3, [.ref rv, .ref rs, .int (nI (min ((min ((min (kc + 1) 6) + 1) 6) + 1) 6))])), (rv, .inl (cI, 385, .inl v3)), (oR, .inr (2, [.ref oS]))] H := hP
                      have hD : va_D A [(o2, .inr (1, [.ref oS, .ref q1, .ref q2, .ref q3])), (q1, .inl (cI, 72, .inl z1)), (q2, .inl (cI, 72, .inl z2)), (q3, .inl (cI, 72, .inl z3)), (oF, .inr (0, [.ref oS, .ref oN])), (oN, .inr (1, [.ref oS, .ref rp, .ref rt, .ref rl])), (rp, .inl (cI, 72, .inl gp_33)), (rt, .inl (cI, 72, .inl gt_34)), (rl, .inl (cI, 72, .inl gl_35)), (pa, .inl (cI, 8, .inl (upd (upd pf t8 (nI s8)) (3 + t8) (nI ((n_p v2 t8) % s8))))), (qa, .inl (cI, 4, .inl qg)), (rs, .inl (cI, 2310, .inl (n_push v2 (n_push v1 (n_push v sv))))), (oX, .inr (5, [.ref oS, .ref oR, .ref oN, .ref o2, .ref oF, .ref oT])), (oS, .inr (3, [.ref rv, .ref rs, .int (nI (min ((min ((min (kc + 1) 6) + 1) 6) + 1) 6))])), (rv, .inl (cI, 385, .inl v3)), (oR, .inr (2, [.ref oS]))] := hD
                      generalize hgn_pg : upd (upd pf t8 (nI s8)) (3 + t8) (nI ((n_p v2 t8) % s8)) = pg at hP hD hp3
                      have hP : va_P (dC, dI) vwCl [(o2, .inr (1, [.ref oS, .ref q1, .ref q2, .ref q3])), (q1, .inl (cI, 72, .inl z1)), (q2, .inl (cI, 72, .inl z2)), (q3, .inl (cI, 72, .inl z3)), (oF, .inr (0, [.ref oS, .ref oN])), (oN, .inr (1, [.ref oS, .ref rp, .ref rt, .ref rl])), (rp, .inl (cI, 72, .inl gp_33)), (rt, .inl (cI, 72, .inl gt_34)), (rl, .inl (cI, 72, .inl gl_35)), (pa, .inl (cI, 8, .inl pg)), (qa, .inl (cI, 4, .inl qg)), (rs, .inl (cI, 2310, .inl (n_push v2 (n_push v1 (n_push v sv))))), (oX, .inr (5, [.ref oS, .ref oR, .ref oN, .ref o2, .ref oF, .ref oT])), (oS, .inr (3, [.ref rv, .ref rs, .int (nI (min ((min ((min (kc + 1) 6) + 1) 6) + 1) 6))])), (rv, .inl (cI, 385, .inl v3)), (oR, .inr (2, [.ref oS]))] H := hP
                      have hD : va_D A [(o2, .inr (1, [.ref oS, .ref q1, .ref q2, .ref q3])), (q1, .inl (cI, 72, .inl z1)), (q2, .inl (cI, 72, .inl z2)), (q3, .inl (cI, 72, .inl z3)), (oF, .inr (0, [.ref oS, .ref oN])), (oN, .inr (1, [.ref oS, .ref rp, .ref rt, .ref rl])), (rp, .inl (cI, 72, .inl gp_33)), (rt, .inl (cI, 72, .inl gt_34)), (rl, .inl (cI, 72, .inl gl_35)), (pa, .inl (cI, 8, .inl pg)), (qa, .inl (cI, 4, .inl qg)), (rs, .inl (cI, 2310, .inl (n_push v2 (n_push v1 (n_push v sv))))), (oX, .inr (5, [.ref oS, .ref oR, .ref oN, .ref o2, .ref oF, .ref oT])), (oS, .inr (3, [.ref rv, .ref rs, .int (nI (min ((min ((min (kc + 1) 6) + 1) 6) + 1) 6))])), (rv, .inl (cI, 385, .inl v3)), (oR, .inr (2, [.ref oS]))] := hD
                      refine lv_aload_n hx hb dL_law_582 rfl (lv_at hl 5 rfl) ?_
                      refine lv_aload_n hx hb dL_law_583 rfl (lv_at hl 4 rfl) ?_
                      refine lv_aload_n hx hb dL_law_584 rfl (lv_at hl 6 rfl) ?_
                      refine lv_aload_n hx hb dL_law_585 rfl (lv_at hl 4 rfl) ?_
                      refine lv_bipush (v := 78) hx hb dL_law_586 (by decide) ?_
                      refine lv_iload hx hb dL_law_588 (lv_at hl 8 rfl) ?_
                      refine lv_iadd hx hb dL_law_590 ?_
                      refine kq_top (z := nI (78 + e9)) (nI_add 78 e9) ?_
                      refine kq_cSX (As := [.ref sb, .int (nI (78 + e9))]) (rest := [.ref pa, .ref sb, .ref oX]) ⟨hx, hb, hml, hown, hts⟩ (c_L_cell l dC dI cI sb sL xs (78 + e9) (by first | assumption | omega) (by first | assumption | omega)) (va_cwS 2 hts gL_law_L_cell rfl rfl rfl (by decide +kernel) ⟨Nat.le_of_ble_eq_true rfl, Nat.le_of_ble_eq_true rfl⟩) (hP.sub [] rfl) (kq_xk hX hbl hbA hS) hK rfl hl.1 rfl (Nat.le_of_ble_eq_true rfl) dL_law_591 (kl_room (Nat.le_of_ble_eq_true rfl) (Nat.le_of_ble_eq_true rfl)) ?_
                      refine kq_callMi (wr := [(qa, .inl (cI, 4, .inl qg)), (rs, .inl (cI, 2310, .inl (n_push v2 (n_push v1 (n_push v sv)))))]) (va_runS (As := [.ref oX, .ref sb, .ref pa, .int (n_ce sL xs (78 + e9))]) (rest := []) ⟨hx, hb, hml, hown, hts⟩ (c_L_tells l dC dI cI sb sL xs H.size oX oS oR oN o2 oF oT rv rs (min ((min ((min (kc + 1) 6) + 1) 6) + 1) 6) rp rt rl q1 q2 q3 v3 gp_33 gt_34 gl_35 z1 z2 z3 pa pg (n_ce sL xs (78 + e9)) (hI3) (hW3) (hp3) (by first | assumption | omega)) (va_cwS 4 hts gL_law_L_tells rfl rfl rfl (by decide +kernel) ⟨Nat.le_of_ble_eq_true rfl, Nat.le_of_ble_eq_true rfl⟩) (kq_preSX (hP.sub [12, 13, 14, 15, 4, 5, 6, 7, 8, 0, 1, 2, 3, 9] rfl) (hD.sub [12, 13, 14, 15, 4, 5, 6, 7, 8, 0, 1, 2, 3, 9] (by decide) rfl) hK (kq_xk hX hbl hbA hS) (fun q => hbA (va_free (wc := [(oX, .inr (5, [.ref oS, .ref oR, .ref oN, .ref o2, .ref oF, .ref oT])), (oS, .inr (3, [.ref rv, .ref rs, .int (nI (min ((min ((min (kc + 1) 6) + 1) 6) + 1) 6))])), (rv, .inl (cI, 385, .inl v3)), (oR, .inr (2, [.ref oS])), (oF, .inr (0, [.ref oS, .ref oN])), (oN, .inr (1, [.ref oS, .ref rp, .ref rt, .ref rl])), (rp, .inl (cI, 72, .inl gp_33)), (rt, .inl (cI, 72, .inl gt_34)), (rl, .inl (cI, 72, .inl gl_35)), (o2, .inr (1, [.ref oS, .ref q1, .ref q2, .ref q3])), (q1, .inl (cI, 72, .inl z1)), (q2, .inl (cI, 72, .inl z2)), (q3, .inl (cI, 72, .inl z3)), (pa, .inl (cI, 8, .inl pg))]) hD hS hA [12, 13, 14, 15, 4, 5, 6, 7, 8, 0, 1, 2, 3, 9] rfl _ q))) rfl rfl hl.1 rfl (lv_room (Nat.le_of_ble_eq_true rfl)) dL_law_594 (kl_room (Nat.le_of_ble_eq_true rfl) (Nat.le_of_ble_eq_true rfl))) hP hD hS hA [12, 13, 14, 15, 4, 5, 6, 7, 8, 0, 1, 2, 3, 9] [10, 11] rfl rfl (by decide) (by decide) (fun r_46 u_47 H locs hw_48 hP hD hS => ?_)
                      obtain ⟨gp_49, gt_50, gl_51, y1_52, y2_53, y3_54⟩ := u_47
                      have hP : va_P (dC, dI) vwCl [(qa, .inl (cI, 4, .inl qg)), (rs, .inl (cI, 2310, .inl (n_push v2 (n_push v1 (n_push v sv))))), (oX, .inr (5, [.ref oS, .ref oR, .ref oN, .ref o2, .ref oF, .ref oT])), (oS, .inr (3, [.ref rv, .ref rs, .int (nI (min ((min ((min (kc + 1) 6) + 1) 6) + 1) 6))])), (rv, .inl (cI, 385, .inl v3)), (oR, .inr (2, [.ref oS])), (oF, .inr (0, [.ref oS, .ref oN])), (oN, .inr (1, [.ref oS, .ref rp, .ref rt, .ref rl])), (rp, .inl (cI, 72, .inl gp_49)), (rt, .inl (cI, 72, .inl gt_50)), (rl, .inl (cI, 72, .inl gl_51)), (o2, .inr (1, [.ref oS, .ref q1, .ref q2, .ref q3])), (q1, .inl (cI, 72, .inl y1_52)), (q2, .inl (cI, 72, .inl y2_53)), (q3, .inl (cI, 72, .inl y3_54)), (pa, .inl (cI, 8, .inl pg))] H := hP
                      have hD : va_D A [(qa, .inl (cI, 4, .inl qg)), (rs, .inl (cI, 2310, .inl (n_push v2 (n_push v1 (n_push v sv))))), (oX, .inr (5, [.ref oS, .ref oR, .ref oN, .ref o2, .ref oF, .ref oT])), (oS, .inr (3, [.ref rv, .ref rs, .int (nI (min ((min ((min (kc + 1) 6) + 1) 6) + 1) 6))])), (rv, .inl (cI, 385, .inl v3)), (oR, .inr (2, [.ref oS])), (oF, .inr (0, [.ref oS, .ref oN])), (oN, .inr (1, [.ref oS, .ref rp, .ref rt, .ref rl])), (rp, .inl (cI, 72, .inl gp_49)), (rt, .inl (cI, 72, .inl gt_50)), (rl, .inl (cI, 72, .inl gl_51)), (o2, .inr (1, [.ref oS, .ref q1, .ref q2, .ref q3])), (q1, .inl (cI, 72, .inl y1_52)), (q2, .inl (cI, 72, .inl y2_53)), (q3, .inl (cI, 72, .inl y3_54)), (pa, .inl (cI, 8, .inl pg))] := hD
                      obtain rfl := hw_48
                      refine lv_if_eq (tgt := 621) hx hb dL_law_597 (by decide) (fun q => absurd q (by decide)) (fun _ => ?_)
                      refine lv_aload_n hx hb dL_law_600 rfl (lv_at hl 5 rfl) ?_
                      refine lv_aload_n hx hb dL_law_601 rfl (lv_at hl 4 rfl) ?_
                      refine lv_aload_n hx hb dL_law_602 rfl (lv_at hl 6 rfl) ?_
                      refine lv_iload hx hb dL_law_603 (lv_at hl 3 rfl) ?_
                      refine lv_aload_n hx hb dL_law_605 rfl (lv_at hl 7 rfl) ?_
                      refine lv_aload_n hx hb dL_law_606 rfl (lv_at hl 4 rfl) ?_
                      refine lv_bipush (v := 83) hx hb dL_law_607 (by decide) ?_
                      refine lv_iload hx hb dL_law_609 (lv_at hl 8 rfl) ?_
                      refine lv_iadd hx hb dL_law_611 ?_
                      refine kq_top (z := nI (83 + e9)) (nI_add 83 e9) ?_
                      refine kq_cSX (As := [.ref sb, .int (nI (83 + e9))]) (rest := [.ref qa, .int (nI f8), .ref pa, .ref sb, .ref oX]) ⟨hx, hb, hml, hown, hts⟩ (c_L_cell l dC dI cI sb sL xs (83 + e9) (by first | assumption | omega) (by first | assumption | omega)) (va_cwS 2 hts gL_law_L_cell rfl rfl rfl (by decide +kernel) ⟨Nat.le_of_ble_eq_true rfl, Nat.le_of_ble_eq_true rfl⟩) (hP.sub [] rfl) (kq_xk hX hbl hbA hS) hK rfl hl.1 rfl (Nat.le_of_ble_eq_true rfl) dL_law_612 (kl_room (Nat.le_of_ble_eq_true rfl) (Nat.le_of_ble_eq_true rfl)) ?_
                      refine kq_callMi (wr := [(rs, .inl (cI, 2310, .inl (n_push v2 (n_push v1 (n_push v sv))))), (oR, .inr (2, [.ref oS])), (o2, .inr (1, [.ref oS, .ref q1, .ref q2, .ref q3])), (q1, .inl (cI, 72, .inl y1_52)), (q2, .inl (cI, 72, .inl y2_53)), (q3, .inl (cI, 72, .inl y3_54))]) (va_runS (As := [.ref oX, .ref sb, .ref pa, .int (nI f8), .ref qa, .int (n_ce sL xs (83 + e9))]) (rest := []) ⟨hx, hb, hml, hown, hts⟩ (c_L_isFigure l dC dI cI sb sL xs H.size oX oS oR oN o2 oF oT rv rs (min ((min ((min (kc + 1) 6) + 1) 6) + 1) 6) rp rt rl v3 gp_49 gt_50 gl_51 pa pg qa f8 qg (n_ce sL xs (83 + e9)) (hI3) (hW3) (hp3) (by first | assumption | omega) (ht3) (hq3) (by first | assumption | omega)) (va_cwS 6 hts gL_law_L_isFigure rfl rfl rfl (by decide +kernel) ⟨Nat.le_of_ble_eq_true rfl, Nat.le_of_ble_eq_true rfl⟩) (kq_preSX (hP.sub [2, 3, 4, 6, 7, 8, 9, 10, 15, 0] rfl) (hD.sub [2, 3, 4, 6, 7, 8, 9, 10, 15, 0] (by decide) rfl) hK (kq_xk hX hbl hbA hS) (fun q => hbA (va_free (wc := [(oX, .inr (5, [.ref oS, .ref oR, .ref oN, .ref o2, .ref oF, .ref oT])), (oS, .inr (3, [.ref rv, .ref rs, .int (nI (min ((min ((min (kc + 1) 6) + 1) 6) + 1) 6))])), (rv, .inl (cI, 385, .inl v3)), (oF, .inr (0, [.ref oS, .ref oN])), (oN, .inr (1, [.ref oS, .ref rp, .ref rt, .ref rl])), (rp, .inl (cI, 72, .inl gp_49)), (rt, .inl (cI, 72, .inl gt_50)), (rl, .inl (cI, 72, .inl gl_51)), (pa, .inl (cI, 8, .inl pg)), (qa, .inl (cI, 4, .inl qg))]) hD hS hA [2, 3, 4, 6, 7, 8, 9, 10, 15, 0] rfl _ q))) rfl rfl hl.1 rfl (lv_room (Nat.le_of_ble_eq_true rfl)) dL_law_615 (kl_room (Nat.le_of_ble_eq_true rfl) (Nat.le_of_ble_eq_true rfl))) hP hD hS hA [2, 3, 4, 6, 7, 8, 9, 10, 15, 0] [1, 5, 11, 12, 13, 14] rfl rfl (by decide) (by decide) (fun r_56 u_57 H locs hw_58 hP hD hS => ?_)
                      obtain ⟨gp_59, gt_60, gl_61⟩ := u_57
                      have hP : va_P (dC, dI) vwCl [(rs, .inl (cI, 2310, .inl (n_push v2 (n_push v1 (n_push v sv))))), (oR, .inr (2, [.ref oS])), (o2, .inr (1, [.ref oS, .ref q1, .ref q2, .ref q3])), (q1, .inl (cI, 72, .inl y1_52)), (q2, .inl (cI, 72, .inl y2_53)), (q3, .inl (cI, 72, .inl y3_54)), (oX, .inr (5, [.ref oS, .ref oR, .ref oN, .ref o2, .ref oF, .ref oT])), (oS, .inr (3, [.ref rv, .ref rs, .int (nI (min ((min ((min (kc + 1) 6) + 1) 6) + 1) 6))])), (rv, .inl (cI, 385, .inl v3)), (oF, .inr (0, [.ref oS, .ref oN])), (oN, .inr (1, [.ref oS, .ref rp, .ref rt, .ref rl])), (rp, .inl (cI, 72, .inl gp_59)), (rt, .inl (cI, 72, .inl gt_60)), (rl, .inl (cI, 72, .inl gl_61)), (pa, .inl (cI, 8, .inl pg)), (qa, .inl (cI, 4, .inl qg))] H := hP
                      have hD : va_D A [(rs, .inl (cI, 2310, .inl (n_push v2 (n_push v1 (n_push v sv))))), (oR, .inr (2, [.ref oS])), (o2, .inr (1, [.ref oS, .ref q1, .ref q2, .ref q3])), (q1, .inl (cI, 72, .inl y1_52)), (q2, .inl (cI, 72, .inl y2_53)), (q3, .inl (cI, 72, .inl y3_54)), (oX, .inr (5, [.ref oS, .ref oR, .ref oN, .ref o2, .ref oF, .ref oT])), (oS, .inr (3, [.ref rv, .ref rs, .int (nI (min ((min ((min (kc + 1) 6) + 1) 6) + 1) 6))])), (rv, .inl (cI, 385, .inl v3)), (oF, .inr (0, [.ref oS, .ref oN])), (oN, .inr (1, [.ref oS, .ref rp, .ref rt, .ref rl])), (rp, .inl (cI, 72, .inl gp_59)), (rt, .inl (cI, 72, .inl gt_60)), (rl, .inl (cI, 72, .inl gl_61)), (pa, .inl (cI, 8, .inl pg)), (qa, .inl (cI, 4, .inl qg))] := hD
                      obtain rfl := hw_58
                      refine lv_if_ne (tgt := 623) hx hb dL_law_618 (by decide) (fun _ => ?_) (fun q => absurd q (by decide))
                      refine lv_iinc (v := nI (e9 + 1)) (lv' := [(4, .int (nI (e9 + 1))), (15, .int (nI (n_c v2 t8))), (14, .int (nI t8)), (13, .int g8), (12, .int (nI f8)), (0, .ref sb), (1, .ref oX), (2, .ref pa), (3, .ref qa), (5, .int h8), (6, .int (nI r8)), (7, .int (nI c8)), (8, .int (nI u8)), (9, .int (nI w8)), (10, .int (nI i8)), (11, .int x)]) hx hb dL_law_623 hl (k := 8) rfl (nI_1 e9) (by decide) rfl (fun ls hl => ?_)
                      refine lv_goto (tgt := 54) hx hb dL_law_626 (by decide) ?_
                      exact ih_1 (e9 + 1) (min ((min ((min (kc + 1) 6) + 1) 6) + 1) 6) v3 (n_push v2 (n_push v1 (n_push v sv))) gp_59 gt_60 gl_61 y1_52 y2_53 y3_54 pg qg ⟨(by omega), (by omega), (by exact hI3), (by exact hW3), (by exact hp3)⟩ (by show 5 - (e9 + 1) < 5 - e9; omega) _ _ (hP.sub [6, 7, 8, 0, 1, 9, 10, 11, 12, 13, 2, 3, 4, 5, 14, 15] rfl) (hD.sub [6, 7, 8, 0, 1, 9, 10, 11, 12, 13, 2, 3, 4, 5, 14, 15] (by decide) rfl) hS _ (lv_sub hl [5, 6, 7, 8, 0] rfl)
                    · skip
                      have c_45 := kq_neN (a := (n_p v2 t8 % s8)) (b := (n_p v2 t8 % s8)) c_45 (by omega) (by omega)
                      exact absurd c_45 (by omega)
                · skip
                  have c_37 := kq_eqN (a := (e9 % 2)) (b := 0) c_37 (by omega) (by omega)
                  refine lv_aload_n hx hb dL_law_467 rfl (lv_at hl 5 rfl) ?_
                  refine lv_iconst (v := 3) hx hb dL_law_468 (by decide) ?_
                  refine lv_iload hx hb dL_law_469 (lv_at hl 0 rfl) ?_
                  refine lv_iadd hx hb dL_law_471 ?_
                  refine kq_top (z := nI (3 + t8)) (nI_add 3 t8) ?_
                  refine lv_aload_n hx hb dL_law_472 rfl (lv_at hl 5 rfl) ?_
                  refine lv_iconst (v := 3) hx hb dL_law_473 (by decide) ?_
                  refine lv_iload hx hb dL_law_474 (lv_at hl 0 rfl) ?_
                  refine lv_iadd hx hb dL_law_476 ?_
                  refine kq_top (z := nI (3 + t8)) (nI_add 3 t8) ?_
                  refine va_iald hx hb hK.1 hP 14 0 rfl rfl (vp_in_nI (show 3 + t8 < 8 from by omega) (by omega)) dL_law_477 ?_
                  refine kq_top (z := pf (3 + t8)) (congrArg pf (nI_clamp (Nat.lt_trans (show 3 + t8 < 8 from by omega) (by omega)))) ?_
                  refine kq_top (z := nI (n_p v2 t8)) ((hp2.1 t8 hb_t8).2.trans (n_I_p hI2 hb_t8)) ?_
                  refine lv_iconst (v := 1) hx hb dL_law_478 (by decide) ?_
                  refine lv_iadd hx hb dL_law_479 ?_
                  refine kq_top (z := nI ((n_p v2 t8) + 1)) (nI_add (n_p v2 t8) 1) ?_
                  refine lv_iload hx hb dL_law_480 (lv_at hl 7 rfl) ?_
                  refine lv_iadd hx hb dL_law_482 ?_
                  refine kq_top (z := nI (((n_p v2 t8) + 1) + e9)) (nI_add ((n_p v2 t8) + 1) e9) ?_
                  refine lv_aload_n hx hb dL_law_483 rfl (lv_at hl 5 rfl) ?_
                  refine lv_iload hx hb dL_law_484 (lv_at hl 0 rfl) ?_
                  refine va_iald hx hb hK.1 hP 14 0 rfl rfl (vp_in_nI (show t8 < 8 from by omega) (by omega)) dL_law_486 ?_
                  refine kq_top (z := pf t8) (congrArg pf (nI_clamp (Nat.lt_trans (show t8 < 8 from by omega) (by omega)))) ?_
                  refine kq_top (z := nI (n_c v2 t8)) ((hp2.1 t8 hb_t8).1.trans (n_I_c hI2 hb_t8)) ?_
                  refine lv_irem hx hb dL_law_487 (nI_ne0 (n := (n_c v2 t8)) (by omega) (by omega)) ?_
                  refine kq_top (z := nI ((((n_p v2 t8) + 1) + e9) % (n_c v2 t8))) (pk_rem (a := (((n_p v2 t8) + 1) + e9)) (d := (n_c v2 t8)) (by omega) (by omega) (by omega)) ?_
                  have hmt := Nat.mod_lt (n_p v2 t8 + 1 + e9) (show 0 < n_c v2 t8 by omega)
                  refine va_iast hx hb hK.1 hP hD hS 14 0 rfl rfl (vp_in_nI (show 3 + t8 < 8 from by omega) (by omega)) dL_law_488 (fun H locs hP hD hS => ?_)
                  rw [nI_clamp (Nat.lt_trans (show 3 + t8 < 8 from by omega) (by omega))] at hP hD
                  have hP : va_P (dC, dI) vwCl [(oR, .inr (2, [.ref oS])), (o2, .inr (1, [.ref oS, .ref q1, .ref q2, .ref q3])), (q1, .inl (cI, 72, .inl z1)), (q2, .inl (cI, 72, .inl z2)), (q3, .inl (cI, 72, .inl z3)), (rs, .inl (cI, 2310, .inl (n_push v1 (n_push v sv)))), (oX, .inr (5, [.ref oS, .ref oR, .ref oN, .ref o2, .ref oF, .ref oT])), (oS, .inr (3, [.ref rv, .ref rs, .int (nI (min ((min (kc + 1) 6) + 1) 6))])), (rv, .inl (cI, 385, .inl v2)), (oF, .inr (0, [.ref oS, .ref oN])), (oN, .inr (1, [.ref oS, .ref rp, .ref rt, .ref rl])), (rp, .inl (cI, 72, .inl gp_33)), (rt, .inl (cI, 72, .inl gt_34)), (rl, .inl (cI, 72, .inl gl_35)), (pa, .inl (cI, 8, .inl (upd pf (3 + t8) (nI ((((n_p v2 t8) + 1) + e9) % (n_c v2 t8)))))), (qa, .inl (cI, 4, .inl qg))] H := hP
                  have hD : va_D A [(oR, .inr (2, [.ref oS])), (o2, .inr (1, [.ref oS, .ref q1, .ref q2, .ref q3])), (q1, .inl (cI, 72, .inl z1)), (q2, .inl (cI, 72, .inl z2)), (q3, .inl (cI, 72, .inl z3)), (rs, .inl (cI, 2310, .inl (n_push v1 (n_push v sv)))), (oX, .inr (5, [.ref oS, .ref oR, .ref oN, .ref o2, .ref oF, .ref oT])), (oS, .inr (3, [.ref rv, .ref rs, .int (nI (min ((min (kc + 1) 6) + 1) 6))])), (rv, .inl (cI, 385, .inl v2)), (oF, .inr (0, [.ref oS, .ref oN])), (oN, .inr (1, [.ref oS, .ref rp, .ref rt, .ref rl])), (rp, .inl (cI, 72, .inl gp_33)), (rt, .inl (cI, 72, .inl gt_34)), (rl, .inl (cI, 72, .inl gl_35)), (pa, .inl (cI, 8, .inl (upd pf (3 + t8) (nI ((((n_p v2 t8) + 1) + e9) % (n_c v2 t8)))))), (qa, .inl (cI, 4, .inl qg))] := hD
                  refine lv_aload_n hx hb dL_law_489 rfl (lv_at hl 4 rfl) ?_
                  refine lv_iload hx hb dL_law_490 (lv_at hl 0 rfl) ?_
                  refine lv_iconst (v := 1) hx hb dL_law_492 (by decide) ?_
                  refine lv_iload hx hb dL_law_493 (lv_at hl 7 rfl) ?_
                  refine lv_iadd hx hb dL_law_495 ?_
                  refine kq_top (z := nI (1 + e9)) (nI_add 1 e9) ?_
                  refine kq_callMi (wr := [(o2, .inr (1, [.ref oS, .ref q1, .ref q2, .ref q3])), (q1, .inl (cI, 72, .inl z1)), (q2, .inl (cI, 72, .inl z2)), (q3, .inl (cI, 72, .inl z3)), (oF, .inr (0, [.ref oS, .ref oN])), (oN, .inr (1, [.ref oS, .ref rp, .ref rt, .ref rl])), (rp, .inl (cI, 72, .inl gp_33)), (rt, .inl (cI, 72, .inl gt_34)), (rl, .inl (cI, 72, .inl gl_35)), (pa, .inl (cI, 8, .inl (upd pf (3 + t8) (nI ((((n_p v2 t8) + 1) + e9) % (n_c v2 t8)))))), (qa, .inl (cI, 4, .inl qg))]) (va_runV (As := [.int (nI t8), .int (nI (1 + e9))]) (rest := []) ⟨hx, hb, hml, hown, hts⟩ (c_X5_turn l dC dI cI H.size oX oS oR oN o2 oF oT rv rs (min ((min (kc + 1) 6) + 1) 6) v2 (n_push v1 (n_push v sv)) t8 (100 + e9) (nI (1 + e9)) (by first | assumption | omega) (by first | assumption | omega) (by omega) (kq_te e9) (kq_te9 (by omega)) (hI2)) (cwV 2 hts gL_law_X5_turn rfl rfl rfl (by decide +kernel) ⟨Nat.le_of_ble_eq_true rfl, Nat.le_of_ble_eq_true rfl⟩) (kq_preV (ci := 5) (q0 := 0) (hP.sub [6, 7, 8, 5, 0] rfl) (hD.sub [6, 7, 8, 5, 0] (by decide) rfl) hK rfl rfl) rfl rfl hl.1 rfl (lv_room (Nat.le_of_ble_eq_true rfl)) dL_law_496 (kl_room (Nat.le_of_ble_eq_true rfl) (Nat.le_of_ble_eq_true rfl))) hP hD hS hA [6, 7, 8, 5, 0] [1, 2, 3, 4, 9, 10, 11, 12, 13, 14, 15] rfl rfl (by decide) (by decide) (fun r_63 u_64 H locs hw_65 hP hD hS => ?_)
                  have hP : va_P (dC, dI) vwCl [(o2, .inr (1, [.ref oS, .ref q1, .ref q2, .ref q3])), (q1, .inl (cI, 72, .inl z1)), (q2, .inl (cI, 72, .inl z2)), (q3, .inl (cI, 72, .inl z3)), (oF, .inr (0, [.ref oS, .ref oN])), (oN, .inr (1, [.ref oS, .ref rp, .ref rt, .ref rl])), (rp, .inl (cI, 72, .inl gp_33)), (rt, .inl (cI, 72, .inl gt_34)), (rl, .inl (cI, 72, .inl gl_35)), (pa, .inl (cI, 8, .inl (upd pf (3 + t8) (nI ((((n_p v2 t8) + 1) + e9) % (n_c v2 t8)))))), (qa, .inl (cI, 4, .inl qg)), (oX, .inr (5, [.ref oS, .ref oR, .ref oN, .ref o2, .ref oF, .ref oT])), (oS, .inr (3, [.ref rv, .ref rs, .int (nI (min ((min ((min (kc + 1) 6) + 1) 6) + 1) 6))])), (rv, .inl (cI, 385, .inl (upd v2 (291 + t8) (nI ((n_p v2 t8 + (100 + e9) + 100 * n_c v2 t8 - 99) % n_c v2 t8))))), (rs, .inl (cI, 2310, .inl (n_push v2 (n_push v1 (n_push v sv))))), (oR, .inr (2, [.ref oS]))] H := hP
                  have hD : va_D A [(o2, .inr (1, [.ref oS, .ref q1, .ref q2, .ref q3])), (q1, .inl (cI, 72, .inl z1)), (q2, .inl (cI, 72, .inl z2)), (q3, .inl (cI, 72, .inl z3)), (oF, .inr (0, [.ref oS, .ref oN])), (oN, .inr (1, [.ref oS, .ref rp, .ref rt, .ref rl])), (rp, .inl (cI, 72, .inl gp_33)), (rt, .inl (cI, 72, .inl gt_34)), (rl, .inl (cI, 72, .inl gl_35)), (pa, .inl (cI, 8, .inl (upd pf (3 + t8) (nI ((((n_p v2 t8) + 1) + e9) % (n_c v2 t8)))))), (qa, .inl (cI, 4, .inl qg)), (oX, .inr (5, [.ref oS, .ref oR, .ref oN, .ref o2, .ref oF, .ref oT])), (oS, .inr (3, [.ref rv, .ref rs, .int (nI (min ((min ((min (kc + 1) 6) + 1) 6) + 1) 6))])), (rv, .inl (cI, 385, .inl (upd v2 (291 + t8) (nI ((n_p v2 t8 + (100 + e9) + 100 * n_c v2 t8 - 99) % n_c v2 t8))))), (rs, .inl (cI, 2310, .inl (n_push v2 (n_push v1 (n_push v sv))))), (oR, .inr (2, [.ref oS]))] := hD
                  obtain rfl := hw_65
                  rw [kq_tm] at hP hD
                  have hP : va_P (dC, dI) vwCl [(o2, .inr (1, [.ref oS, .ref q1, .ref q2, .ref q3])), (q1, .inl (cI, 72, .inl z1)), (q2, .inl (cI, 72, .inl z2)), (q3, .inl (cI, 72, .inl z3)), (oF, .inr (0, [.ref oS, .ref oN])), (oN, .inr (1, [.ref oS, .ref rp, .ref rt, .ref rl])), (rp, .inl (cI, 72, .inl gp_33)), (rt, .inl (cI, 72, .inl gt_34)), (rl, .inl (cI, 72, .inl gl_35)), (pa, .inl (cI, 8, .inl (upd pf (3 + t8) (nI ((((n_p v2 t8) + 1) + e9) % (n_c v2 t8)))))), (qa, .inl (cI, 4, .inl qg)), (oX, .inr (5, [.ref oS, .ref oR, .ref oN, .ref o2, .ref oF, .ref oT])), (oS, .inr (3, [.ref rv, .ref rs, .int (nI (min ((min ((min (kc + 1) 6) + 1) 6) + 1) 6))])), (rv, .inl (cI, 385, .inl (upd v2 (291 + t8) (nI ((n_p v2 t8 + 1 + e9) % n_c v2 t8))))), (rs, .inl (cI, 2310, .inl (n_push v2 (n_push v1 (n_push v sv))))), (oR, .inr (2, [.ref oS]))] H := hP
                  have hD : va_D A [(o2, .inr (1, [.ref oS, .ref q1, .ref q2, .ref q3])), (q1, .inl (cI, 72, .inl z1)), (q2, .inl (cI, 72, .inl z2)), (q3, .inl (cI, 72, .inl z3)), (oF, .inr (0, [.ref oS, .ref oN])), (oN, .inr (1, [.ref oS, .ref rp, .ref rt, .ref rl])), (rp, .inl (cI, 72, .inl gp_33)), (rt, .inl (cI, 72, .inl gt_34)), (rl, .inl (cI, 72, .inl gl_35)), (pa, .inl (cI, 8, .inl (upd pf (3 + t8) (nI ((((n_p v2 t8) + 1) + e9) % (n_c v2 t8)))))), (qa, .inl (cI, 4, .inl qg)), (oX, .inr (5, [.ref oS, .ref oR, .ref oN, .ref o2, .ref oF, .ref oT])), (oS, .inr (3, [.ref rv, .ref rs, .int (nI (min ((min ((min (kc + 1) 6) + 1) 6) + 1) 6))])), (rv, .inl (cI, 385, .inl (upd v2 (291 + t8) (nI ((n_p v2 t8 + 1 + e9) % n_c v2 t8))))), (rs, .inl (cI, 2310, .inl (n_push v2 (n_push v1 (n_push v sv))))), (oR, .inr (2, [.ref oS]))] := hD
                  refine kq_top (z := nI ((n_p v2 t8 + 1 + e9) % n_c v2 t8)) (congrArg nI (kq_tm _ _ _)) ?_
                  refine lv_aload_n hx hb dL_law_499 rfl (lv_at hl 5 rfl) ?_
                  refine lv_iconst (v := 3) hx hb dL_law_500 (by decide) ?_
                  refine lv_iload hx hb dL_law_501 (lv_at hl 0 rfl) ?_
                  refine lv_iadd hx hb dL_law_503 ?_
                  refine kq_top (z := nI (3 + t8)) (nI_add 3 t8) ?_
                  refine va_iald hx hb hK.1 hP 9 0 rfl rfl (vp_in_nI (show 3 + t8 < 8 from by omega) (by omega)) dL_law_504 ?_
                  refine kq_top (z := (upd pf (3 + t8) (nI ((((n_p v2 t8) + 1) + e9) % (n_c v2 t8)))) (3 + t8)) (congrArg (upd pf (3 + t8) (nI ((((n_p v2 t8) + 1) + e9) % (n_c v2 t8)))) (nI_clamp (Nat.lt_trans (show 3 + t8 < 8 from by omega) (by omega)))) ?_
                  refine kq_top (z := nI ((n_p v2 t8 + 1 + e9) % n_c v2 t8)) (pk_us) ?_
                  refine lv_icmp_eq (tgt := 582) hx hb dL_law_505 (by decide) (fun c_66 => ?_) (fun c_66 => ?_)
                  · skip
                    have c_66 := kq_eqN (a := ((n_p v2 t8 + 1 + e9) % n_c v2 t8)) (b := ((n_p v2 t8 + 1 + e9) % n_c v2 t8)) c_66 (by omega) (by omega)
                    have hI3 : n_I (upd v2 (291 + t8) (nI ((n_p v2 t8 + 1 + e9) % n_c v2 t8))) := n_I_phase hI2 hb_t8 (Nat.mod_lt _ (by omega))
                    have hW3 : n_ww sL xs (upd v2 (291 + t8) (nI ((n_p v2 t8 + 1 + e9) % n_c v2 t8))) := n_ww_as hW2 (fun k hk => pk_un (by omega))
                    have hp3 : n_pp (upd v2 (291 + t8) (nI ((n_p v2 t8 + 1 + e9) % n_c v2 t8))) (upd pf (3 + t8) (nI ((((n_p v2 t8) + 1) + e9) % (n_c v2 t8)))) := n_pp_t hp2 hb_t8
                    have hf3 : ∀ j, n_f (upd v2 (291 + t8) (nI ((n_p v2 t8 + 1 + e9) % n_c v2 t8))) f8 j = n_f v2 f8 j := fun j => n_f_o (by omega)
                    have hq3 := n_qf_as hq2 hf3
                    have ht3 : 0 < n_f (upd v2 (291 + t8) (nI ((n_p v2 t8 + 1 + e9) % n_c v2 t8))) f8 2 := by rw [hf3]; exact ht2
                    clear hf3
                    generalize hgn_v3 : upd v2 (291 + t8) (nI ((n_p v2 t8 + 1 + e9) % n_c v2 t8)) = v3 at hP hD hI3 hW3 hp3 hq3 ht3
                    have hP : va_P (dC, dI) vwCl [(o2, .inr (1, [.ref oS, .ref q1, .ref q2, .ref q3])), (q1, .inl (cI, 72, .inl z1)), (q2, .inl (cI, 72, .inl z2)), (q3, .inl (cI, 72, .inl z3)), (oF, .inr (0, [.ref oS, .ref oN])), (oN, .inr (1, [.ref oS, .ref rp, .ref rt, .ref rl])), (rp, .inl (cI, 72, .inl gp_33)), (rt, .inl (cI, 72, .inl gt_34)), (rl, .inl (cI, 72, .inl gl_35)), (pa, .inl (cI, 8, .inl (upd pf (3 + t8) (nI ((((n_p v2 t8) + 1) + e9) % (n_c v2 t8)))))), (qa, .inl (cI, 4, .inl qg)), (oX, .inr (5, [.ref oS, .ref oR, .ref oN, .ref o2, .ref oF, .ref oT])), (oS, .inr (3, [.ref rv, .ref rs, .int (nI (min ((min ((min (kc + 1) 6) + 1) 6) + 1) 6))])), (rv, .inl (cI, 385, .inl v3)), (rs, .inl (cI, 2310, .inl (n_push v2 (n_push v1 (n_push v sv))))), (oR, .inr (2, [.ref oS]))] H := hP
                    have hD : va_D A [(o2, .inr (1, [.ref oS, .ref q1, .ref q2, .ref q3])), (q1, .inl (cI, 72, .inl z1)), (q2, .inl (cI, 72, .inl z2)), (q3, .inl (cI, 72, .inl z3)), (oF, .inr (0, [.ref oS, .ref oN])), (oN, .inr (1, [.ref oS, .ref rp, .ref rt, .ref rl])), (rp, .inl (cI, 72, .inl gp_33)), (rt, .inl (cI, 72, .inl gt_34)), (rl, .inl (cI, 72, .inl gl_35)), (pa, .inl (cI, 8, .inl (upd pf (3 + t8) (nI ((((n_p v2 t8) + 1) + e9) % (n_c v2 t8)))))), (qa, .inl (cI, 4, .inl qg)), (oX, .inr (5, [.ref oS, .ref oR, .ref oN, .ref o2, .ref oF, .ref oT])), (oS, .inr (3, [.ref rv, .ref rs, .int (nI (min ((min ((min (kc + 1) 6) + 1) 6) + 1) 6))])), (rv, .inl (cI, 385, .inl v3)), (rs, .inl (cI, 2310, .inl (n_push v2 (n_push v1 (n_push v sv))))), (oR, .inr (2, [.ref oS]))] := hD
                    generalize hgn_pg : upd pf (3 + t8) (nI ((((n_p v2 t8) + 1) + e9) % (n_c v2 t8))) = pg at hP hD hp3
                    have hP : va_P (dC, dI) vwCl [(o2, .inr (1, [.ref oS, .ref q1, .ref q2, .ref q3])), (q1, .inl (cI, 72, .inl z1)), (q2, .inl (cI, 72, .inl z2)), (q3, .inl (cI, 72, .inl z3)), (oF, .inr (0, [.ref oS, .ref oN])), (oN, .inr (1, [.ref oS, .ref rp, .ref rt, .ref rl])), (rp, .inl (cI, 72, .inl gp_33)), (rt, .inl (cI, 72, .inl gt_34)), (rl, .inl (cI, 72, .inl gl_35)), (pa, .inl (cI, 8, .inl pg)), (qa, .inl (cI, 4, .inl qg)), (oX, .inr (5, [.ref oS, .ref oR, .ref oN, .ref o2, .ref oF, .ref oT])), (oS, .inr (3, [.ref rv, .ref rs, .int (nI (min ((min ((min (kc + 1) 6) + 1) 6) + 1) 6))])), (rv, .inl (cI, 385, .inl v3)), (rs, .inl (cI, 2310, .inl (n_push v2 (n_push v1 (n_push v sv))))), (oR, .inr (2, [.ref oS]))] H := hP
                    have hD : va_D A [(o2, .inr (1, [.ref oS, .ref q1, .ref q2, .ref q3])), (q1, .inl (cI, 72, .inl z1)), (q2, .inl (cI, 72, .inl z2)), (q3, .inl (cI, 72, .inl z3)), (oF, .inr (0, [.ref oS, .ref oN])), (oN, .inr (1, [.ref oS, .ref rp, .ref rt, .ref rl])), (rp, .inl (cI, 72, .inl gp_33)), (rt, .inl (cI, 72, .inl gt_34)), (rl, .inl (cI, 72, .inl gl_35)), (pa, .inl (cI, 8, .inl pg)), (qa, .inl (cI, 4, .inl qg)), (oX, .inr (5, [.ref oS, .ref oR, .ref oN, .ref o2, .ref oF, .ref oT])), (oS, .inr (3, [.ref rv, .ref rs, .int (nI (min ((min ((min (kc + 1) 6) + 1) 6) + 1) 6))])), (rv, .inl (cI, 385, .inl v3)), (rs, .inl (cI, 2310, .inl (n_push v2 (n_push v1 (n_push v sv))))), (oR, .inr (2, [.ref oS]))] := hD
                    refine lv_aload_n hx hb dL_law_582 rfl (lv_at hl 4 rfl) ?_
                    refine lv_aload_n hx hb dL_law_583 rfl (lv_at hl 3 rfl) ?_
                    refine lv_aload_n hx hb dL_law_584 rfl (lv_at hl 5 rfl) ?_
                    refine lv_aload_n hx hb dL_law_585 rfl (lv_at hl 3 rfl) ?_
                    refine lv_bipush (v := 78) hx hb dL_law_586 (by decide) ?_
                    refine lv_iload hx hb dL_law_588 (lv_at hl 7 rfl) ?_
                    refine lv_iadd hx hb dL_law_590 ?_
                    refine kq_top (z := nI (78 + e9)) (nI_add 78 e9) ?_
                    refine kq_cSX (As := [.ref sb, .int (nI (78 + e9))]) (rest := [.ref pa, .ref sb, .ref oX]) ⟨hx, hb, hml, hown, hts⟩ (c_L_cell l dC dI cI sb sL xs (78 + e9) (by first | assumption | omega) (by first | assumption | omega)) (va_cwS 2 hts gL_law_L_cell rfl rfl rfl (by decide +kernel) ⟨Nat.le_of_ble_eq_true rfl, Nat.le_of_ble_eq_true rfl⟩) (hP.sub [] rfl) (kq_xk hX hbl hbA hS) hK rfl hl.1 rfl (Nat.le_of_ble_eq_true rfl) dL_law_591 (kl_room (Nat.le_of_ble_eq_true rfl) (Nat.le_of_ble_eq_true rfl)) ?_
                    refine kq_callMi (wr := [(qa, .inl (cI, 4, .inl qg)), (rs, .inl (cI, 2310, .inl (n_push v2 (n_push v1 (n_push v sv)))))]) (va_runS (As := [.ref oX, .ref sb, .ref pa, .int (n_ce sL xs (78 + e9))]) (rest := []) ⟨hx, hb, hml, hown, hts⟩ (c_L_tells l dC dI cI sb sL xs H.size oX oS oR oN o2 oF oT rv rs (min ((min ((min (kc + 1) 6) + 1) 6) + 1) 6) rp rt rl q1 q2 q3 v3 gp_33 gt_34 gl_35 z1 z2 z3 pa pg (n_ce sL xs (78 + e9)) (hI3) (hW3) (hp3) (by first | assumption | omega)) (va_cwS 4 hts gL_law_L_tells rfl rfl rfl (by decide +kernel) ⟨Nat.le_of_ble_eq_true rfl, Nat.le_of_ble_eq_true rfl⟩) (kq_preSX (hP.sub [11, 12, 13, 15, 4, 5, 6, 7, 8, 0, 1, 2, 3, 9] rfl) (hD.sub [11, 12, 13, 15, 4, 5, 6, 7, 8, 0, 1, 2, 3, 9] (by decide) rfl) hK (kq_xk hX hbl hbA hS) (fun q => hbA (va_free (wc := [(oX, .inr (5, [.ref oS, .ref oR, .ref oN, .ref o2, .ref oF, .ref oT])), (oS, .inr (3, [.ref rv, .ref rs, .int (nI (min ((min ((min (kc + 1) 6) + 1) 6) + 1) 6))])), (rv, .inl (cI, 385, .inl v3)), (oR, .inr (2, [.ref oS])), (oF, .inr (0, [.ref oS, .ref oN])), (oN, .inr (1, [.ref oS, .ref rp, .ref rt, .ref rl])), (rp, .inl (cI, 72, .inl gp_33)), (rt, .inl (cI, 72, .inl gt_34)), (rl, .inl (cI, 72, .inl gl_35)), (o2, .inr (1, [.ref oS, .ref q1, .ref q2, .ref q3])), (q1, .inl (cI, 72, .inl z1)), (q2, .inl (cI, 72, .inl z2)), (q3, .inl (cI, 72, .inl z3)), (pa, .inl (cI, 8, .inl pg))]) hD hS hA [11, 12, 13, 15, 4, 5, 6, 7, 8, 0, 1, 2, 3, 9] rfl _ q))) rfl rfl hl.1 rfl (lv_room (Nat.le_of_ble_eq_true rfl)) dL_law_594 (kl_room (Nat.le_of_ble_eq_true rfl) (Nat.le_of_ble_eq_true rfl))) hP hD hS hA [11, 12, 13, 15, 4, 5, 6, 7, 8, 0, 1, 2, 3, 9] [10, 14] rfl rfl (by decide) (by decide) (fun r_67 u_68 H locs hw_69 hP hD hS => ?_)
                    obtain ⟨gp_70, gt_71, gl_72, y1_73, y2_74, y3_75⟩ := u_68
                    have hP : va_P (dC, dI) vwCl [(qa, .inl (cI, 4, .inl qg)), (rs, .inl (cI, 2310, .inl (n_push v2 (n_push v1 (n_push v sv))))), (oX, .inr (5, [.ref oS, .ref oR, .ref oN, .ref o2, .ref oF, .ref oT])), (oS, .inr (3, [.ref rv, .ref rs, .int (nI (min ((min ((min (kc + 1) 6) + 1) 6) + 1) 6))])), (rv, .inl (cI, 385, .inl v3)), (oR, .inr (2, [.ref oS])), (oF, .inr (0, [.ref oS, .ref oN])), (oN, .inr (1, [.ref oS, .ref rp, .ref rt, .ref rl])), (rp, .inl (cI, 72, .inl gp_70)), (rt, .inl (cI, 72, .inl gt_71)), (rl, .inl (cI, 72, .inl gl_72)), (o2, .inr (1, [.ref oS, .ref q1, .ref q2, .ref q3])), (q1, .inl (cI, 72, .inl y1_73)), (q2, .inl (cI, 72, .inl y2_74)), (q3, .inl (cI, 72, .inl y3_75)), (pa, .inl (cI, 8, .inl pg))] H := hP
                    have hD : va_D A [(qa, .inl (cI, 4, .inl qg)), (rs, .inl (cI, 2310, .inl (n_push v2 (n_push v1 (n_push v sv))))), (oX, .inr (5, [.ref oS, .ref oR, .ref oN, .ref o2, .ref oF, .ref oT])), (oS, .inr (3, [.ref rv, .ref rs, .int (nI (min ((min ((min (kc + 1) 6) + 1) 6) + 1) 6))])), (rv, .inl (cI, 385, .inl v3)), (oR, .inr (2, [.ref oS])), (oF, .inr (0, [.ref oS, .ref oN])), (oN, .inr (1, [.ref oS, .ref rp, .ref rt, .ref rl])), (rp, .inl (cI, 72, .inl gp_70)), (rt, .inl (cI, 72, .inl gt_71)), (rl, .inl (cI, 72, .inl gl_72)), (o2, .inr (1, [.ref oS, .ref q1, .ref q2, .ref q3])), (q1, .inl (cI, 72, .inl y1_73)), (q2, .inl (cI, 72, .inl y2_74)), (q3, .inl (cI, 72, .inl y3_75)), (pa, .inl (cI, 8, .inl pg))] := hD
                    obtain rfl := hw_69
                    refine lv_if_eq (tgt := 621) hx hb dL_law_597 (by decide) (fun q => absurd q (by decide)) (fun _ => ?_)
                    refine lv_aload_n hx hb dL_law_600 rfl (lv_at hl 4 rfl) ?_
                    refine lv_aload_n hx hb dL_law_601 rfl (lv_at hl 3 rfl) ?_
                    refine lv_aload_n hx hb dL_law_602 rfl (lv_at hl 5 rfl) ?_
                    refine lv_iload hx hb dL_law_603 (lv_at hl 2 rfl) ?_
                    refine lv_aload_n hx hb dL_law_605 rfl (lv_at hl 6 rfl) ?_
                    refine lv_aload_n hx hb dL_law_606 rfl (lv_at hl 3 rfl) ?_
                    refine lv_bipush (v := 83) hx hb dL_law_607 (by decide) ?_
                    refine lv_iload hx hb dL_law_609 (lv_at hl 7 rfl) ?_
                    refine lv_iadd hx hb dL_law_611 ?_
                    refine kq_top (z := nI (83 + e9)) (nI_add 83 e9) ?_
                    refine kq_cSX (As := [.ref sb, .int (nI (83 + e9))]) (rest := [.ref qa, .int (nI f8), .ref pa, .ref sb, .ref oX]) ⟨hx, hb, hml, hown, hts⟩ (c_L_cell l dC dI cI sb sL xs (83 + e9) (by first | assumption | omega) (by first | assumption | omega)) (va_cwS 2 hts gL_law_L_cell rfl rfl rfl (by decide +kernel) ⟨Nat.le_of_ble_eq_true rfl, Nat.le_of_ble_eq_true rfl⟩) (hP.sub [] rfl) (kq_xk hX hbl hbA hS) hK rfl hl.1 rfl (Nat.le_of_ble_eq_true rfl) dL_law_612 (kl_room (Nat.le_of_ble_eq_true rfl) (Nat.le_of_ble_eq_true rfl)) ?_
                    refine kq_callMi (wr := [(rs, .inl (cI, 2310, .inl (n_push v2 (n_push v1 (n_push v sv))))), (oR, .inr (2, [.ref oS])), (o2, .inr (1, [.ref oS, .ref q1, .ref q2, .ref q3])), (q1, .inl (cI, 72, .inl y1_73)), (q2, .inl (cI, 72, .inl y2_74)), (q3, .inl (cI, 72, .inl y3_75))]) (va_runS (As := [.ref oX, .ref sb, .ref pa, .int (nI f8), .ref qa, .int (n_ce sL xs (83 + e9))]) (rest := []) ⟨hx, hb, hml, hown, hts⟩ (c_L_isFigure l dC dI cI sb sL xs H.size oX oS oR oN o2 oF oT rv rs (min ((min ((min (kc + 1) 6) + 1) 6) + 1) 6) rp rt rl v3 gp_70 gt_71 gl_72 pa pg qa f8 qg (n_ce sL xs (83 + e9)) (hI3) (hW3) (hp3) (by first | assumption | omega) (ht3) (hq3) (by first | assumption | omega)) (va_cwS 6 hts gL_law_L_isFigure rfl rfl rfl (by decide +kernel) ⟨Nat.le_of_ble_eq_true rfl, Nat.le_of_ble_eq_true rfl⟩) (kq_preSX (hP.sub [2, 3, 4, 6, 7, 8, 9, 10, 15, 0] rfl) (hD.sub [2, 3, 4, 6, 7, 8, 9, 10, 15, 0] (by decide) rfl) hK (kq_xk hX hbl hbA hS) (fun q => hbA (va_free (wc := [(oX, .inr (5, [.ref oS, .ref oR, .ref oN, .ref o2, .ref oF, .ref oT])), (oS, .inr (3, [.ref rv, .ref rs, .int (nI (min ((min ((min (kc + 1) 6) + 1) 6) + 1) 6))])), (rv, .inl (cI, 385, .inl v3)), (oF, .inr (0, [.ref oS, .ref oN])), (oN, .inr (1, [.ref oS, .ref rp, .ref rt, .ref rl])), (rp, .inl (cI, 72, .inl gp_70)), (rt, .inl (cI, 72, .inl gt_71)), (rl, .inl (cI, 72, .inl gl_72)), (pa, .inl (cI, 8, .inl pg)), (qa, .inl (cI, 4, .inl qg))]) hD hS hA [2, 3, 4, 6, 7, 8, 9, 10, 15, 0] rfl _ q))) rfl rfl hl.1 rfl (lv_room (Nat.le_of_ble_eq_true rfl)) dL_law_615 (kl_room (Nat.le_of_ble_eq_true rfl) (Nat.le_of_ble_eq_true rfl))) hP hD hS hA [2, 3, 4, 6, 7, 8, 9, 10, 15, 0] [1, 5, 11, 12, 13, 14] rfl rfl (by decide) (by decide) (fun r_77 u_78 H locs hw_79 hP hD hS => ?_)
                    obtain ⟨gp_80, gt_81, gl_82⟩ := u_78
                    have hP : va_P (dC, dI) vwCl [(rs, .inl (cI, 2310, .inl (n_push v2 (n_push v1 (n_push v sv))))), (oR, .inr (2, [.ref oS])), (o2, .inr (1, [.ref oS, .ref q1, .ref q2, .ref q3])), (q1, .inl (cI, 72, .inl y1_73)), (q2, .inl (cI, 72, .inl y2_74)), (q3, .inl (cI, 72, .inl y3_75)), (oX, .inr (5, [.ref oS, .ref oR, .ref oN, .ref o2, .ref oF, .ref oT])), (oS, .inr (3, [.ref rv, .ref rs, .int (nI (min ((min ((min (kc + 1) 6) + 1) 6) + 1) 6))])), (rv, .inl (cI, 385, .inl v3)), (oF, .inr (0, [.ref oS, .ref oN])), (oN, .inr (1, [.ref oS, .ref rp, .ref rt, .ref rl])), (rp, .inl (cI, 72, .inl gp_80)), (rt, .inl (cI, 72, .inl gt_81)), (rl, .inl (cI, 72, .inl gl_82)), (pa, .inl (cI, 8, .inl pg)), (qa, .inl (cI, 4, .inl qg))] H := hP
                    have hD : va_D A [(rs, .inl (cI, 2310, .inl (n_push v2 (n_push v1 (n_push v sv))))), (oR, .inr (2, [.ref oS])), (o2, .inr (1, [.ref oS, .ref q1, .ref q2, .ref q3])), (q1, .inl (cI, 72, .inl y1_73)), (q2, .inl (cI, 72, .inl y2_74)), (q3, .inl (cI, 72, .inl y3_75)), (oX, .inr (5, [.ref oS, .ref oR, .ref oN, .ref o2, .ref oF, .ref oT])), (oS, .inr (3, [.ref rv, .ref rs, .int (nI (min ((min ((min (kc + 1) 6) + 1) 6) + 1) 6))])), (rv, .inl (cI, 385, .inl v3)), (oF, .inr (0, [.ref oS, .ref oN])), (oN, .inr (1, [.ref oS, .ref rp, .ref rt, .ref rl])), (rp, .inl (cI, 72, .inl gp_80)), (rt, .inl (cI, 72, .inl gt_81)), (rl, .inl (cI, 72, .inl gl_82)), (pa, .inl (cI, 8, .inl pg)), (qa, .inl (cI, 4, .inl qg))] := hD
                    obtain rfl := hw_79
                    refine lv_if_ne (tgt := 623) hx hb dL_law_618 (by decide) (fun _ => ?_) (fun q => absurd q (by decide))
                    refine lv_iinc (v := nI (e9 + 1)) (lv' := [(4, .int (nI (e9 + 1))), (14, .int (nI t8)), (13, .int g8), (12, .int (nI f8)), (0, .ref sb), (1, .ref oX), (2, .ref pa), (3, .ref qa), (5, .int h8), (6, .int (nI r8)), (7, .int (nI c8)), (8, .int (nI u8)), (9, .int (nI w8)), (10, .int (nI i8)), (11, .int x)]) hx hb dL_law_623 hl (k := 7) rfl (nI_1 e9) (by decide) rfl (fun ls hl => ?_)
                    refine lv_goto (tgt := 54) hx hb dL_law_626 (by decide) ?_
                    exact ih_1 (e9 + 1) (min ((min ((min (kc + 1) 6) + 1) 6) + 1) 6) v3 (n_push v2 (n_push v1 (n_push v sv))) gp_80 gt_81 gl_82 y1_73 y2_74 y3_75 pg qg ⟨(by omega), (by omega), (by exact hI3), (by exact hW3), (by exact hp3)⟩ (by show 5 - (e9 + 1) < 5 - e9; omega) _ _ (hP.sub [6, 7, 8, 0, 1, 9, 10, 11, 12, 13, 2, 3, 4, 5, 14, 15] rfl) (hD.sub [6, 7, 8, 0, 1, 9, 10, 11, 12, 13, 2, 3, 4, 5, 14, 15] (by decide) rfl) hS _ (lv_sub hl [4, 5, 6, 7, 0] rfl)
                  · skip
                    have c_66 := kq_neN (a := ((n_p v2 t8 + 1 + e9) % n_c v2 t8)) (b := ((n_p v2 t8 + 1 + e9) % n_c v2 t8)) c_66 (by omega) (by omega)
                    exact absurd c_66 (by omega)
            · skip
              exact absurd (n_cell_1.trans (n_ink_at (by omega) (by omega) (by omega) (by omega))) c_25
      · skip
        have c_7 := kq_nleN (a := 72) (b := k) c_7 (by omega) (by omega)
        refine lv_iload hx hb dL_law_166 (lv_at hl 12 rfl) ?_
        refine lv_bipush (v := 12) hx hb dL_law_168 (by decide) ?_
        refine lv_idiv hx hb dL_law_170 (nI_ne0 (n := 12) (by omega) (by omega)) ?_
        refine kq_top (z := nI (k / 12)) (pk_div (a := k) (d := 12) (by omega) (by omega) (by omega)) ?_
        refine lv_iload hx hb dL_law_171 (lv_at hl 6 rfl) ?_
        refine lv_icmp_lt (tgt := 216) hx hb dL_law_173 (by decide) (fun c_84 => ?_) (fun c_84 => ?_)
        · skip
          have c_84 := kq_ltN (a := (k / 12)) (b := r8) c_84 (by omega) (by omega)
          refine lv_iconst (v := 0) hx hb dL_law_216 (by decide) ?_
          refine lv_istore (lv' := [(13, .int 0), (0, .ref sb), (1, .ref oX), (2, .ref pa), (3, .ref qa), (4, .int (nI e9)), (5, .int h8), (6, .int (nI r8)), (7, .int (nI c8)), (8, .int (nI u8)), (9, .int (nI w8)), (10, .int (nI i8)), (11, .int x), (12, .int (nI k))]) hx hb dL_law_217 hl (by decide) rfl (fun ls hl => ?_)
          refine lv_iload hx hb dL_law_219 (lv_at hl 12 rfl) ?_
          refine lv_iload hx hb dL_law_221 (lv_at hl 0 rfl) ?_
          refine lv_if_eq (tgt := 251) hx hb dL_law_223 (by decide) (fun _ => ?_) (fun q => absurd q (by decide))
          refine lv_iconst (v := 0) hx hb dL_law_251 (by decide) ?_
          refine lv_iadd hx hb dL_law_252 ?_
          refine lv_istore (lv' := [(11, .int (x + 0)), (13, .int 0), (0, .ref sb), (1, .ref oX), (2, .ref pa), (3, .ref qa), (4, .int (nI e9)), (5, .int h8), (6, .int (nI r8)), (7, .int (nI c8)), (8, .int (nI u8)), (9, .int (nI w8)), (10, .int (nI i8)), (12, .int (nI k))]) hx hb dL_law_253 hl (by decide) rfl (fun ls hl => ?_)
          refine lv_iinc (v := nI (k + 1)) (lv' := [(12, .int (nI (k + 1))), (11, .int (x + 0)), (13, .int 0), (0, .ref sb), (1, .ref oX), (2, .ref pa), (3, .ref qa), (4, .int (nI e9)), (5, .int h8), (6, .int (nI r8)), (7, .int (nI c8)), (8, .int (nI u8)), (9, .int (nI w8)), (10, .int (nI i8))]) hx hb dL_law_255 hl (k := 13) rfl (nI_1 k) (by decide) rfl (fun ls hl => ?_)
          refine lv_goto (tgt := 159) hx hb dL_law_258 (by decide) ?_
          exact ih_5 (k + 1) (x + 0) fp ft fl ⟨(by omega), (by rw [n_inkm_s, ← ix]; first | rw [if_neg (by omega), Int32.add_zero] | rw [if_pos (by omega), if_pos hk8, Int32.add_zero] | rw [if_pos (by omega), if_neg hk8])⟩ (by show 72 - (k + 1) < 72 - k; omega) _ _ hP hD hS _ (lv_sub hl [3, 4, 5, 6, 7, 8, 9, 10, 11, 12, 13, 1, 0] rfl)
        · skip
          have c_84 := kq_nltN (a := (k / 12)) (b := r8) c_84 (by omega) (by omega)
          refine lv_iload hx hb dL_law_176 (lv_at hl 12 rfl) ?_
          refine lv_bipush (v := 12) hx hb dL_law_178 (by decide) ?_
          refine lv_idiv hx hb dL_law_180 (nI_ne0 (n := 12) (by omega) (by omega)) ?_
          refine kq_top (z := nI (k / 12)) (pk_div (a := k) (d := 12) (by omega) (by omega) (by omega)) ?_
          refine lv_iload hx hb dL_law_181 (lv_at hl 6 rfl) ?_
          refine lv_iload hx hb dL_law_183 (lv_at hl 8 rfl) ?_
          refine lv_iadd hx hb dL_law_185 ?_
          refine kq_top (z := nI (r8 + u8)) (nI_add r8 u8) ?_
          refine lv_icmp_ge (tgt := 216) hx hb dL_law_186 (by decide) (fun c_86 => ?_) (fun c_86 => ?_)
          · skip
            have c_86 := kq_leN (a := (r8 + u8)) (b := (k / 12)) c_86 (by omega) (by omega)
            refine lv_iconst (v := 0) hx hb dL_law_216 (by decide) ?_
            refine lv_istore (lv' := [(13, .int 0), (0, .ref sb), (1, .ref oX), (2, .ref pa), (3, .ref qa), (4, .int (nI e9)), (5, .int h8), (6, .int (nI r8)), (7, .int (nI c8)), (8, .int (nI u8)), (9, .int (nI w8)), (10, .int (nI i8)), (11, .int x), (12, .int (nI k))]) hx hb dL_law_217 hl (by decide) rfl (fun ls hl => ?_)
            refine lv_iload hx hb dL_law_219 (lv_at hl 12 rfl) ?_
            refine lv_iload hx hb dL_law_221 (lv_at hl 0 rfl) ?_
            refine lv_if_eq (tgt := 251) hx hb dL_law_223 (by decide) (fun _ => ?_) (fun q => absurd q (by decide))
            refine lv_iconst (v := 0) hx hb dL_law_251 (by decide) ?_
            refine lv_iadd hx hb dL_law_252 ?_
            refine lv_istore (lv' := [(11, .int (x + 0)), (13, .int 0), (0, .ref sb), (1, .ref oX), (2, .ref pa), (3, .ref qa), (4, .int (nI e9)), (5, .int h8), (6, .int (nI r8)), (7, .int (nI c8)), (8, .int (nI u8)), (9, .int (nI w8)), (10, .int (nI i8)), (12, .int (nI k))]) hx hb dL_law_253 hl (by decide) rfl (fun ls hl => ?_)
            refine lv_iinc (v := nI (k + 1)) (lv' := [(12, .int (nI (k + 1))), (11, .int (x + 0)), (13, .int 0), (0, .ref sb), (1, .ref oX), (2, .ref pa), (3, .ref qa), (4, .int (nI e9)), (5, .int h8), (6, .int (nI r8)), (7, .int (nI c8)), (8, .int (nI u8)), (9, .int (nI w8)), (10, .int (nI i8))]) hx hb dL_law_255 hl (k := 13) rfl (nI_1 k) (by decide) rfl (fun ls hl => ?_)
            refine lv_goto (tgt := 159) hx hb dL_law_258 (by decide) ?_
            exact ih_5 (k + 1) (x + 0) fp ft fl ⟨(by omega), (by rw [n_inkm_s, ← ix]; first | rw [if_neg (by omega), Int32.add_zero] | rw [if_pos (by omega), if_pos hk8, Int32.add_zero] | rw [if_pos (by omega), if_neg hk8])⟩ (by show 72 - (k + 1) < 72 - k; omega) _ _ hP hD hS _ (lv_sub hl [3, 4, 5, 6, 7, 8, 9, 10, 11, 12, 13, 1, 0] rfl)
          · skip
            have c_86 := kq_nleN (a := (r8 + u8)) (b := (k / 12)) c_86 (by omega) (by omega)
            refine lv_iload hx hb dL_law_189 (lv_at hl 12 rfl) ?_
            refine lv_bipush (v := 12) hx hb dL_law_191 (by decide) ?_
            refine lv_irem hx hb dL_law_193 (nI_ne0 (n := 12) (by omega) (by omega)) ?_
            refine kq_top (z := nI (k % 12)) (pk_rem (a := k) (d := 12) (by omega) (by omega) (by omega)) ?_
            refine lv_iload hx hb dL_law_194 (lv_at hl 7 rfl) ?_
            refine lv_icmp_lt (tgt := 216) hx hb dL_law_196 (by decide) (fun c_88 => ?_) (fun c_88 => ?_)
            · skip
              have c_88 := kq_ltN (a := (k % 12)) (b := c8) c_88 (by omega) (by omega)
              refine lv_iconst (v := 0) hx hb dL_law_216 (by decide) ?_
              refine lv_istore (lv' := [(13, .int 0), (0, .ref sb), (1, .ref oX), (2, .ref pa), (3, .ref qa), (4, .int (nI e9)), (5, .int h8), (6, .int (nI r8)), (7, .int (nI c8)), (8, .int (nI u8)), (9, .int (nI w8)), (10, .int (nI i8)), (11, .int x), (12, .int (nI k))]) hx hb dL_law_217 hl (by decide) rfl (fun ls hl => ?_)
              refine lv_iload hx hb dL_law_219 (lv_at hl 12 rfl) ?_
              refine lv_iload hx hb dL_law_221 (lv_at hl 0 rfl) ?_
              refine lv_if_eq (tgt := 251) hx hb dL_law_223 (by decide) (fun _ => ?_) (fun q => absurd q (by decide))
              refine lv_iconst (v := 0) hx hb dL_law_251 (by decide) ?_
              refine lv_iadd hx hb dL_law_252 ?_
              refine lv_istore (lv' := [(11, .int (x + 0)), (13, .int 0), (0, .ref sb), (1, .ref oX), (2, .ref pa), (3, .ref qa), (4, .int (nI e9)), (5, .int h8), (6, .int (nI r8)), (7, .int (nI c8)), (8, .int (nI u8)), (9, .int (nI w8)), (10, .int (nI i8)), (12, .int (nI k))]) hx hb dL_law_253 hl (by decide) rfl (fun ls hl => ?_)
              refine lv_iinc (v := nI (k + 1)) (lv' := [(12, .int (nI (k + 1))), (11, .int (x + 0)), (13, .int 0), (0, .ref sb), (1, .ref oX), (2, .ref pa), (3, .ref qa), (4, .int (nI e9)), (5, .int h8), (6, .int (nI r8)), (7, .int (nI c8)), (8, .int (nI u8)), (9, .int (nI w8)), (10, .int (nI i8))]) hx hb dL_law_255 hl (k := 13) rfl (nI_1 k) (by decide) rfl (fun ls hl => ?_)
              refine lv_goto (tgt := 159) hx hb dL_law_258 (by decide) ?_
              exact ih_5 (k + 1) (x + 0) fp ft fl ⟨(by omega), (by rw [n_inkm_s, ← ix]; first | rw [if_neg (by omega), Int32.add_zero] | rw [if_pos (by omega), if_pos hk8, Int32.add_zero] | rw [if_pos (by omega), if_neg hk8])⟩ (by show 72 - (k + 1) < 72 - k; omega) _ _ hP hD hS _ (lv_sub hl [3, 4, 5, 6, 7, 8, 9, 10, 11, 12, 13, 1, 0] rfl)
            · skip
              have c_88 := kq_nltN (a := (k % 12)) (b := c8) c_88 (by omega) (by omega)
              refine lv_iload hx hb dL_law_199 (lv_at hl 12 rfl) ?_
              refine lv_bipush (v := 12) hx hb dL_law_201 (by decide) ?_
              refine lv_irem hx hb dL_law_203 (nI_ne0 (n := 12) (by omega) (by omega)) ?_
              refine kq_top (z := nI (k % 12)) (pk_rem (a := k) (d := 12) (by omega) (by omega) (by omega)) ?_
              refine lv_iload hx hb dL_law_204 (lv_at hl 7 rfl) ?_
              refine lv_iload hx hb dL_law_206 (lv_at hl 9 rfl) ?_
              refine lv_iadd hx hb dL_law_208 ?_
              refine kq_top (z := nI (c8 + w8)) (nI_add c8 w8) ?_
              refine lv_icmp_ge (tgt := 216) hx hb dL_law_209 (by decide) (fun c_90 => ?_) (fun c_90 => ?_)
              · skip
                have c_90 := kq_leN (a := (c8 + w8)) (b := (k % 12)) c_90 (by omega) (by omega)
                refine lv_iconst (v := 0) hx hb dL_law_216 (by decide) ?_
                refine lv_istore (lv' := [(13, .int 0), (0, .ref sb), (1, .ref oX), (2, .ref pa), (3, .ref qa), (4, .int (nI e9)), (5, .int h8), (6, .int (nI r8)), (7, .int (nI c8)), (8, .int (nI u8)), (9, .int (nI w8)), (10, .int (nI i8)), (11, .int x), (12, .int (nI k))]) hx hb dL_law_217 hl (by decide) rfl (fun ls hl => ?_)
                refine lv_iload hx hb dL_law_219 (lv_at hl 12 rfl) ?_
                refine lv_iload hx hb dL_law_221 (lv_at hl 0 rfl) ?_
                refine lv_if_eq (tgt := 251) hx hb dL_law_223 (by decide) (fun _ => ?_) (fun q => absurd q (by decide))
                refine lv_iconst (v := 0) hx hb dL_law_251 (by decide) ?_
                refine lv_iadd hx hb dL_law_252 ?_
                refine lv_istore (lv' := [(11, .int (x + 0)), (13, .int 0), (0, .ref sb), (1, .ref oX), (2, .ref pa), (3, .ref qa), (4, .int (nI e9)), (5, .int h8), (6, .int (nI r8)), (7, .int (nI c8)), (8, .int (nI u8)), (9, .int (nI w8)), (10, .int (nI i8)), (12, .int (nI k))]) hx hb dL_law_253 hl (by decide) rfl (fun ls hl => ?_)
                refine lv_iinc (v := nI (k + 1)) (lv' := [(12, .int (nI (k + 1))), (11, .int (x + 0)), (13, .int 0), (0, .ref sb), (1, .ref oX), (2, .ref pa), (3, .ref qa), (4, .int (nI e9)), (5, .int h8), (6, .int (nI r8)), (7, .int (nI c8)), (8, .int (nI u8)), (9, .int (nI w8)), (10, .int (nI i8))]) hx hb dL_law_255 hl (k := 13) rfl (nI_1 k) (by decide) rfl (fun ls hl => ?_)
                refine lv_goto (tgt := 159) hx hb dL_law_258 (by decide) ?_
                exact ih_5 (k + 1) (x + 0) fp ft fl ⟨(by omega), (by rw [n_inkm_s, ← ix]; first | rw [if_neg (by omega), Int32.add_zero] | rw [if_pos (by omega), if_pos hk8, Int32.add_zero] | rw [if_pos (by omega), if_neg hk8])⟩ (by show 72 - (k + 1) < 72 - k; omega) _ _ hP hD hS _ (lv_sub hl [3, 4, 5, 6, 7, 8, 9, 10, 11, 12, 13, 1, 0] rfl)
              · skip
                have c_90 := kq_nleN (a := (c8 + w8)) (b := (k % 12)) c_90 (by omega) (by omega)
                refine lv_iconst (v := 1) hx hb dL_law_212 (by decide) ?_
                refine lv_goto (tgt := 217) hx hb dL_law_213 (by decide) ?_
                refine lv_istore (lv' := [(13, .int 1), (0, .ref sb), (1, .ref oX), (2, .ref pa), (3, .ref qa), (4, .int (nI e9)), (5, .int h8), (6, .int (nI r8)), (7, .int (nI c8)), (8, .int (nI u8)), (9, .int (nI w8)), (10, .int (nI i8)), (11, .int x), (12, .int (nI k))]) hx hb dL_law_217 hl (by decide) rfl (fun ls hl => ?_)
                refine lv_iload hx hb dL_law_219 (lv_at hl 12 rfl) ?_
                refine lv_iload hx hb dL_law_221 (lv_at hl 0 rfl) ?_
                refine lv_if_eq (tgt := 251) hx hb dL_law_223 (by decide) (fun q => absurd q (by decide)) (fun _ => ?_)
                refine lv_aload_n hx hb dL_law_226 rfl (lv_at hl 2 rfl) ?_
                refine lv_iconst (v := 0) hx hb dL_law_227 (by decide) ?_
                refine lv_iload hx hb dL_law_228 (lv_at hl 13 rfl) ?_
                refine lv_bipush (v := 12) hx hb dL_law_230 (by decide) ?_
                refine lv_idiv hx hb dL_law_232 (nI_ne0 (n := 12) (by omega) (by omega)) ?_
                refine kq_top (z := nI (k / 12)) (pk_div (a := k) (d := 12) (by omega) (by omega) (by omega)) ?_
                refine lv_iload hx hb dL_law_233 (lv_at hl 13 rfl) ?_
                refine lv_bipush (v := 12) hx hb dL_law_235 (by decide) ?_
                refine lv_irem hx hb dL_law_237 (nI_ne0 (n := 12) (by omega) (by omega)) ?_
                refine kq_top (z := nI (k % 12)) (pk_rem (a := k) (d := 12) (by omega) (by omega) (by omega)) ?_
                refine lv_iconst (v := 1) hx hb dL_law_238 (by decide) ?_
                refine kq_callMi (wr := [(rs, .inl (cI, 2310, .inl sv)), (oR, .inr (2, [.ref oS])), (oF, .inr (0, [.ref oS, .ref oN])), (o2, .inr (1, [.ref oS, .ref q1, .ref q2, .ref q3])), (q1, .inl (cI, 72, .inl z1)), (q2, .inl (cI, 72, .inl z2)), (q3, .inl (cI, 72, .inl z3)), (pa, .inl (cI, 8, .inl pf)), (qa, .inl (cI, 4, .inl qf))]) (va_runV (As := [.int 0, .int (nI (k / 12)), .int (nI (k % 12)), .int 1]) (rest := [.int x]) ⟨hx, hb, hml, hown, hts⟩ (c_X5_cell l dC dI cI H.size oX oS oR oN o2 oF oT rv rs kc rp rt rl v fp ft fl 0 (k / 12) (k % 12) 1 (by first | assumption | omega) (by first | assumption | omega) (by first | assumption | omega) (by first | assumption | omega) (by first | assumption | omega)) (cwV 4 hts gL_law_X5_cell rfl rfl rfl (by decide +kernel) ⟨Nat.le_of_ble_eq_true rfl, Nat.le_of_ble_eq_true rfl⟩) (kq_preV (ci := 5) (q0 := 0) (hP.sub [0, 1, 2, 6, 7, 8, 9] rfl) (hD.sub [0, 1, 2, 6, 7, 8, 9] (by decide) rfl) hK rfl rfl) rfl rfl hl.1 rfl (lv_room (Nat.le_of_ble_eq_true rfl)) dL_law_239 (kl_room (Nat.le_of_ble_eq_true rfl) (Nat.le_of_ble_eq_true rfl))) hP hD hS hA [0, 1, 2, 6, 7, 8, 9] [3, 4, 5, 10, 11, 12, 13, 14, 15] rfl rfl (by decide) (by decide) (fun r_93 u_94 H locs hw_95 hP hD hS => ?_)
                obtain ⟨gp_96, gt_97, gl_98⟩ := u_94
                have hP : va_P (dC, dI) vwCl [(rs, .inl (cI, 2310, .inl sv)), (oR, .inr (2, [.ref oS])), (oF, .inr (0, [.ref oS, .ref oN])), (o2, .inr (1, [.ref oS, .ref q1, .ref q2, .ref q3])), (q1, .inl (cI, 72, .inl z1)), (q2, .inl (cI, 72, .inl z2)), (q3, .inl (cI, 72, .inl z3)), (pa, .inl (cI, 8, .inl pf)), (qa, .inl (cI, 4, .inl qf)), (oX, .inr (5, [.ref oS, .ref oR, .ref oN, .ref o2, .ref oF, .ref oT])), (oS, .inr (3, [.ref rv, .ref rs, .int (nI kc)])), (rv, .inl (cI, 385, .inl v)), (oN, .inr (1, [.ref oS, .ref rp, .ref rt, .ref rl])), (rp, .inl (cI, 72, .inl gp_96)), (rt, .inl (cI, 72, .inl gt_97)), (rl, .inl (cI, 72, .inl gl_98))] H := hP
                have hD : va_D A [(rs, .inl (cI, 2310, .inl sv)), (oR, .inr (2, [.ref oS])), (oF, .inr (0, [.ref oS, .ref oN])), (o2, .inr (1, [.ref oS, .ref q1, .ref q2, .ref q3])), (q1, .inl (cI, 72, .inl z1)), (q2, .inl (cI, 72, .inl z2)), (q3, .inl (cI, 72, .inl z3)), (pa, .inl (cI, 8, .inl pf)), (qa, .inl (cI, 4, .inl qf)), (oX, .inr (5, [.ref oS, .ref oR, .ref oN, .ref o2, .ref oF, .ref oT])), (oS, .inr (3, [.ref rv, .ref rs, .int (nI kc)])), (rv, .inl (cI, 385, .inl v)), (oN, .inr (1, [.ref oS, .ref rp, .ref rt, .ref rl])), (rp, .inl (cI, 72, .inl gp_96)), (rt, .inl (cI, 72, .inl gt_97)), (rl, .inl (cI, 72, .inl gl_98))] := hD
                obtain rfl := hw_95
                refine kq_top (z := v (294 + k)) (n_cell_1.trans (congrArg v (by omega))) ?_
                refine lv_iload hx hb dL_law_242 (lv_at hl 11 rfl) ?_
                refine lv_icmp_eq (tgt := 251) hx hb dL_law_244 (by decide) (fun c_99 => ?_) (fun c_99 => ?_)
                · skip
                  have hk8 := c_99
                  refine lv_iconst (v := 0) hx hb dL_law_251 (by decide) ?_
                  refine lv_iadd hx hb dL_law_252 ?_
                  refine lv_istore (lv' := [(11, .int (x + 0)), (13, .int 1), (0, .ref sb), (1, .ref oX), (2, .ref pa), (3, .ref qa), (4, .int (nI e9)), (5, .int h8), (6, .int (nI r8)), (7, .int (nI c8)), (8, .int (nI u8)), (9, .int (nI w8)), (10, .int (nI i8)), (12, .int (nI k))]) hx hb dL_law_253 hl (by decide) rfl (fun ls hl => ?_)
                  refine lv_iinc (v := nI (k + 1)) (lv' := [(12, .int (nI (k + 1))), (11, .int (x + 0)), (13, .int 1), (0, .ref sb), (1, .ref oX), (2, .ref pa), (3, .ref qa), (4, .int (nI e9)), (5, .int h8), (6, .int (nI r8)), (7, .int (nI c8)), (8, .int (nI u8)), (9, .int (nI w8)), (10, .int (nI i8))]) hx hb dL_law_255 hl (k := 13) rfl (nI_1 k) (by decide) rfl (fun ls hl => ?_)
                  refine lv_goto (tgt := 159) hx hb dL_law_258 (by decide) ?_
                  exact ih_5 (k + 1) (x + 0) gp_96 gt_97 gl_98 ⟨(by omega), (by rw [n_inkm_s, ← ix]; first | rw [if_neg (by omega), Int32.add_zero] | rw [if_pos (by omega), if_pos hk8, Int32.add_zero] | rw [if_pos (by omega), if_neg hk8])⟩ (by show 72 - (k + 1) < 72 - k; omega) _ _ (hP.sub [9, 10, 11, 0, 1, 2, 12, 13, 14, 15, 3, 4, 5, 6, 7, 8] rfl) (hD.sub [9, 10, 11, 0, 1, 2, 12, 13, 14, 15, 3, 4, 5, 6, 7, 8] (by decide) rfl) hS _ (lv_sub hl [3, 4, 5, 6, 7, 8, 9, 10, 11, 12, 13, 1, 0] rfl)
                · skip
                  have hk8 := c_99
                  refine lv_iconst (v := 1) hx hb dL_law_247 (by decide) ?_
                  refine lv_goto (tgt := 252) hx hb dL_law_248 (by decide) ?_
                  refine lv_iadd hx hb dL_law_252 ?_
                  refine lv_istore (lv' := [(11, .int (x + 1)), (13, .int 1), (0, .ref sb), (1, .ref oX), (2, .ref pa), (3, .ref qa), (4, .int (nI e9)), (5, .int h8), (6, .int (nI r8)), (7, .int (nI c8)), (8, .int (nI u8)), (9, .int (nI w8)), (10, .int (nI i8)), (12, .int (nI k))]) hx hb dL_law_253 hl (by decide) rfl (fun ls hl => ?_)
                  refine lv_iinc (v := nI (k + 1)) (lv' := [(12, .int (nI (k + 1))), (11, .int (x + 1)), (13, .int 1), (0, .ref sb), (1, .ref oX), (2, .ref pa), (3, .ref qa), (4, .int (nI e9)), (5, .int h8), (6, .int (nI r8)), (7, .int (nI c8)), (8, .int (nI u8)), (9, .int (nI w8)), (10, .int (nI i8))]) hx hb dL_law_255 hl (k := 13) rfl (nI_1 k) (by decide) rfl (fun ls hl => ?_)
                  refine lv_goto (tgt := 159) hx hb dL_law_258 (by decide) ?_
                  exact ih_5 (k + 1) (x + 1) gp_96 gt_97 gl_98 ⟨(by omega), (by rw [n_inkm_s, ← ix]; first | rw [if_neg (by omega), Int32.add_zero] | rw [if_pos (by omega), if_pos hk8, Int32.add_zero] | rw [if_pos (by omega), if_neg hk8])⟩ (by show 72 - (k + 1) < 72 - k; omega) _ _ (hP.sub [9, 10, 11, 0, 1, 2, 12, 13, 14, 15, 3, 4, 5, 6, 7, 8] rfl) (hD.sub [9, 10, 11, 0, 1, 2, 12, 13, 14, 15, 3, 4, 5, 6, 7, 8] (by decide) rfl) hS _ (lv_sub hl [3, 4, 5, 6, 7, 8, 9, 10, 11, 12, 13, 1, 0] rfl)
    · skip
      refine lv_if_ne (tgt := 150) hx hb dL_law_134 (by decide) (fun c_100 => ?_) (fun c_100 => ?_)
      · skip
        have c_100 := kq_neN (a := (n_lw (h8 >>> (14 &&& 31)) 4)) (b := 0) c_100 (by omega) (by omega)
        refine lv_iconst (v := 0) hx hb dL_law_150 (by decide) ?_
        refine kq_top (z := nI (n_ik9 h8)) (by rw [n_ik9]; first | exact congrArg nI (if_pos (by assumption)).symm | exact congrArg nI (if_neg (by assumption)).symm) ?_
        exact hJ_4 _ (lv_sub hl [0, 1, 2, 3, 4, 5, 6, 7, 8, 9] rfl)
      · skip
        have c_100 := kq_eqN (a := (n_lw (h8 >>> (14 &&& 31)) 4)) (b := 0) c_100 (by omega) (by omega)
        refine lv_iload hx hb dL_law_137 (lv_at hl 4 rfl) ?_
        refine lv_bipush (v := 16) hx hb dL_law_139 (by decide) ?_
        refine lv_ishr hx hb dL_law_141 ?_
        refine lv_bipush (v := 10) hx hb dL_law_142 (by decide) ?_
        refine kq_cS (As := [.int (h8 >>> (16 &&& 31)), .int 10]) (rest := []) ⟨hx, hb, hml, hown, hts⟩ (c_L_low l dC dI cI (h8 >>> (16 &&& 31)) 10 (by first | assumption | omega) (by first | assumption | omega)) (va_cwS 2 hts gL_law_L_low rfl rfl rfl (by decide +kernel) ⟨Nat.le_of_ble_eq_true rfl, Nat.le_of_ble_eq_true rfl⟩) (hP.sub [] rfl) hK rfl hl.1 rfl (Nat.le_of_ble_eq_true rfl) dL_law_144 (kl_room (Nat.le_of_ble_eq_true rfl) (Nat.le_of_ble_eq_true rfl)) ?_
        refine lv_goto (tgt := 151) hx hb dL_law_147 (by decide) ?_
        refine kq_top (z := nI (n_ik9 h8)) (by rw [n_ik9]; first | exact congrArg nI (if_pos (by assumption)).symm | exact congrArg nI (if_neg (by assumption)).symm) ?_
        exact hJ_4 _ (lv_sub hl [0, 1, 2, 3, 4, 5, 6, 7, 8, 9] rfl)
