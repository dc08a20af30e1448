/-! The share of good notes, its bits; the digest's steps. -/
theorem n_gn_n : ∀ h, h < 5 → 0 < h → vf_n64 (FP.dmul 4621819117588971520 (FP.i2d (nI h))) := by unfold vf_n64; decide +kernel
theorem n_gn_m : ∀ h, h < 5 → 0 < h → ∀ g, g < 41 → g ≤ 10 * h → vf_n64 (FP.ddiv (FP.i2d (nI g)) (FP.dmul 4621819117588971520 (FP.i2d (nI h)))) := by unfold vf_n64; decide +kernel
def n_dn (d : UInt64) : Nat → UInt64
  | 0 => d
  | k + 1 => FP.dmul (n_dn d k) 4611686018427387904
def n_ex : Nat → Int64
  | 0 => 1023
  | k + 1 => n_ex k - 1
def n_lt1 (d : UInt64) : Bool := decide (Op.cmpValue (FP.dcmp d FP.dconst1) .g < 0)
def n_tt (d : UInt64) : Nat := if n_lt1 (n_dn d 0) = false then 0 else if n_lt1 (n_dn d 1) = false then 1 else if n_lt1 (n_dn d 2) = false then 2 else if n_lt1 (n_dn d 3) = false then 3 else if n_lt1 (n_dn d 4) = false then 4 else if n_lt1 (n_dn d 5) = false then 5 else 6
def n_nn (d : UInt64) : Bool := decide (d &&& 0x7fffffffffffffff ≤ 0x7ff0000000000000)
theorem n_nn_e {d : UInt64} (h : n_nn d = true) : vf_n64 d := of_decide_eq_true (p := d &&& 0x7fffffffffffffff ≤ 0x7ff0000000000000) h
/-- a share above 0 -/
def n_OK (d : UInt64) : Bool := ((List.range (n_tt d + 1)).all (fun k => n_nn (n_dn d k) && (n_lt1 (n_dn d k) != (k == n_tt d)))) && n_nn (FP.dmul (n_dn d (n_tt d)) 4841369599423283200) && decide (n_tt d ≤ 6) && decide (0 < Op.cmpValue (FP.dcmp d FP.dconst0) .l) && decide (Op.cmpValue (FP.dcmp d 4611686018427387904) .l < 0)
def n_bs1 (d : UInt64) : Int64 := n_ex (n_tt d) <<< ((52 : Int32).toInt64 &&& 63) + (FP.d2l (FP.dmul (n_dn d (n_tt d)) 4841369599423283200) - 4503599627370496)
def n_bs (d : UInt64) : Int64 := if d = 0 then 0 else n_bs1 d
theorem n_gn_ok : ∀ h, h < 5 → 0 < h → ∀ g, g < 41 → g ≤ 10 * h → FP.ddiv (FP.i2d (nI g)) (FP.dmul 4621819117588971520 (FP.i2d (nI h))) = 0 ∨ n_OK (FP.ddiv (FP.i2d (nI g)) (FP.dmul 4621819117588971520 (FP.i2d (nI h)))) = true := by decide +kernel
theorem n_OK_e {d : UInt64} (h : n_OK d = true) : (∀ k, k ≤ n_tt d → vf_n64 (n_dn d k)) ∧ (∀ k, k < n_tt d → Op.cmpValue (FP.dcmp (n_dn d k) FP.dconst1) .g < 0) ∧ ¬ Op.cmpValue (FP.dcmp (n_dn d (n_tt d)) FP.dconst1) .g < 0 ∧ vf_n64 (FP.dmul (n_dn d (n_tt d)) 4841369599423283200) ∧ n_tt d ≤ 6 ∧ 0 < Op.cmpValue (FP.dcmp d FP.dconst0) .l ∧ Op.cmpValue (FP.dcmp d 4611686018427387904) .l < 0 := by
  simp only [n_OK, Bool.and_eq_true, List.all_eq_true, List.mem_range, decide_eq_true_eq] at h
  obtain ⟨⟨⟨⟨h1, h2⟩, h3⟩, h4⟩, h5⟩ := h
  refine ⟨fun k hk => n_nn_e (h1 k (by omega)).1, fun k hk => ?_, ?_, n_nn_e h2, h3, h4, h5⟩
  · have h9 := (h1 k (by omega)).2
    rw [show (k == n_tt d) = false from beq_false_of_ne (by omega)] at h9
    exact of_decide_eq_true (p := Op.cmpValue (FP.dcmp (n_dn d k) FP.dconst1) .g < 0) (show n_lt1 (n_dn d k) = true by revert h9; cases n_lt1 (n_dn d k) <;> simp)
  · have h9 := (h1 (n_tt d) (by omega)).2
    rw [show (n_tt d == n_tt d) = true from beq_self_eq_true _] at h9
    exact of_decide_eq_false (p := Op.cmpValue (FP.dcmp (n_dn d (n_tt d)) FP.dconst1) .g < 0) (show n_lt1 (n_dn d (n_tt d)) = false by revert h9; cases n_lt1 (n_dn d (n_tt d)) <;> simp)
theorem n_ex_1 : ∀ k, k < 7 → 0 < lg_cmp (n_ex k) 1 := by decide +kernel
/-- counts -/
theorem n_sum_1 {P : Nat → Prop} [DecidablePred P] : ∀ n, ∃ c, c ≤ n ∧ n_sum (fun k => if P k then (1 : Int32) else 0) n = nI c
  | 0 => ⟨0, Nat.le_refl _, rfl⟩
  | n + 1 => by
    obtain ⟨c, hc, e⟩ := n_sum_1 (P := P) n
    rw [n_sum, e]
    by_cases h : P n
    · exact ⟨c + 1, by omega, by rw [if_pos h]; exact nI_1 c⟩
    · exact ⟨c, by omega, by rw [if_neg h, Int32.add_zero]⟩
theorem n_gd_b (v : Nat → Int32) (f n : Nat) : ∃ c, c ≤ n ∧ n_gd v f n = nI c := by
  unfold n_gd
  split
  · exact n_sum_1 n
  · exact ⟨0, Nat.zero_le _, rfl⟩
theorem n_hg_b (v : Nat → Int32) : ∀ m, ∃ h g, h ≤ m ∧ g ≤ 10 * h ∧ n_sum (fun f => if 0 < n_f v f 2 then (1 : Int32) else 0) m = nI h ∧ n_sum (fun f => if 0 < n_f v f 2 then n_gd v f 10 else 0) m = nI g
  | 0 => ⟨0, 0, Nat.le_refl _, Nat.le_refl _, rfl, rfl⟩
  | m + 1 => by
    obtain ⟨h, g, h1, h2, h3, h4⟩ := n_hg_b v m
    rw [n_sum, n_sum, h3, h4]
    by_cases q : 0 < n_f v m 2
    · obtain ⟨c, hc, e⟩ := n_gd_b v m 10
      rw [if_pos q, if_pos q, e]
      exact ⟨h + 1, g + c, by omega, by omega, nI_1 h, nI_add g c⟩
    · rw [if_neg q, if_neg q, Int32.add_zero, Int32.add_zero]
      exact ⟨h, g, by omega, by omega, rfl, rfl⟩
theorem n_hmg (v : Nat → Int32) : ∃ h g, h ≤ 4 ∧ g ≤ 10 * h ∧ n_hm v = nI h ∧ n_go v 10 = nI g := n_hg_b v 4
noncomputable def n_gn (v : Nat → Int32) : UInt64 := if n_hm v = 0 then 0 else FP.ddiv (FP.i2d (n_go v 10)) (FP.dmul 4621819117588971520 (FP.i2d (n_hm v)))
theorem n_gn_1 {v : Nat → Int32} (h0 : ¬ n_hm v = 0) : vf_n64 (FP.dmul 4621819117588971520 (FP.i2d (n_hm v))) ∧ vf_n64 (FP.ddiv (FP.i2d (n_go v 10)) (FP.dmul 4621819117588971520 (FP.i2d (n_hm v)))) := by
  obtain ⟨h, g, h1, h2, h3, h4⟩ := n_hmg v
  rw [h3, h4]
  have hp : 0 < h := by
    rcases Nat.eq_zero_or_pos h with q | q
    · rw [h3, q] at h0; exact absurd rfl h0
    · exact q
  exact ⟨n_gn_n h (by omega) hp, n_gn_m h (by omega) hp g (by omega) h2⟩
theorem n_gn_2 (v : Nat → Int32) : n_gn v = 0 ∨ n_OK (n_gn v) = true := by
  unfold n_gn
  split
  · exact Or.inl rfl
  · rename_i h0
    obtain ⟨h, g, h1, h2, h3, h4⟩ := n_hmg v
    rw [h3, h4]
    have hp : 0 < h := by
      rcases Nat.eq_zero_or_pos h with q | q
      · rw [h3, q] at h0; exact absurd rfl h0
      · exact q
    exact n_gn_ok h (by omega) hp g (by omega) h2
/-- the digest's steps -/
def n_mx (h : Int64) (x : Int32) : Int64 := 31 * h + x.toInt64
def n_hf (f : Nat → Int32) (h : Int64) : Nat → Int64
  | 0 => h
  | k + 1 => n_mx (n_hf f h k) (f k)
def n_h3 (v : Nat → Int32) (h : Int64) : Nat → Int64
  | 0 => h
  | r + 1 => n_mx (n_hf (n_roll v r) (n_h3 v h r) 5) (n_bph v r 0)
def n_h4 (v : Nat → Int32) (h : Int64) : Nat → Int64
  | 0 => h
  | k + 1 => n_mx (n_mx (n_h4 v h k) (n_cell v 1 (k / 12) (k % 12) 0)) (n_cell v 1 (k / 12) (k % 12) 2)
noncomputable def n_h5 (v : Nat → Int32) (h : Int64) : Nat → Int64
  | 0 => h
  | f + 1 => n_hf (n_cn v f) (n_hf (n_fo v f) (n_h5 v h f) 5) 3
noncomputable def n_d1 (v : Nat → Int32) (kc : Nat) : Int64 := n_hf (fun k => v (382 + k)) (n_hf (n_cnt v kc) 2837 9) 3
noncomputable def n_d2 (v : Nat → Int32) (kc : Nat) : Int64 := n_h5 v (n_h4 v (n_h3 v (n_d1 v kc) 3) 72) 4
noncomputable def n_d3 (v : Nat → Int32) (kc : Nat) : Int64 := n_hf (n_so v 2 3) (n_mx (n_d2 v kc) (nI (n_pit v 18))) 3
noncomputable def n_d4 (v : Nat → Int32) (kc n : Nat) : Int64 := n_mx (31 * n_d3 v kc + n_bs (n_gn v)) (nI n)
noncomputable def n_dig2 (v : Nat → Int32) (kc n : Nat) (cd : Nat → Int32) : Int64 := n_hf cd (n_d4 v kc n) n
theorem n_hf_c {f g : Nat → Int32} {h : Int64} : ∀ {n : Nat}, (∀ k, k < n → f k = g k) → n_hf f h n = n_hf g h n
  | 0, _ => rfl
  | n + 1, e => by rw [n_hf, n_hf, n_hf_c (fun k hk => e k (by omega)), e n (by omega)]
