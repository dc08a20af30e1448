/-! A contrast is small, so that its size is one; the reference's row when a phase is tried. -/
theorem n_tn_b (q : Int32) : 0 ≤ n_tn q ∧ n_tn q ≤ 19 := by unfold n_tn; grind
theorem kq_add {x y : Int32} (h1 : -(2 ^ 30) ≤ x.toInt ∧ x.toInt ≤ 2 ^ 30) (h2 : -(2 ^ 29) ≤ y.toInt ∧ y.toInt ≤ 2 ^ 29) : (x + y).toInt = x.toInt + y.toInt := by
  rw [Int32.toInt_add]
  exact Int.bmod_eq_of_le_mul_two (by omega) (by omega)
theorem kq_sub {x y : Int32} (h1 : -(2 ^ 29) ≤ x.toInt ∧ x.toInt ≤ 2 ^ 29) (h2 : -(2 ^ 29) ≤ y.toInt ∧ y.toInt ≤ 2 ^ 29) : (x - y).toInt = x.toInt - y.toInt := by
  rw [Int32.toInt_sub]
  exact Int.bmod_eq_of_le_mul_two (by omega) (by omega)
theorem n_li_b {v : Nat → Int32} (hI : n_I v) {n k : Nat} (hk : k < 72) : -20 ≤ (n_li v n (k / 12) (k % 12)).toInt ∧ (n_li v n (k / 12) (k % 12)).toInt ≤ 20 := by
  have h1 := n_tn_b (n_pr v (n_x v n (k % 12)) (k / 12))
  have h2 := n_I_k hI hk
  have h3 := n_I_k9 hI hk
  rw [n_li, n_to, show 294 + k / 12 * 12 + k % 12 = 294 + k by omega, h2]
  rw [Int32.le_iff_toInt_le, Int32.le_iff_toInt_le] at h1
  have h1a : (0 : Int) ≤ (n_tn (n_pr v (n_x v n (k % 12)) (k / 12))).toInt := h1.1
  have h1b : (n_tn (n_pr v (n_x v n (k % 12)) (k / 12))).toInt ≤ 19 := h1.2
  have e := nI_toInt (n := n_k v k) (by omega)
  rw [kq_sub (by omega) (by omega), e]
  omega
theorem n_sum_b {f : Nat → Int32} : ∀ n, n ≤ 72 → (∀ k, k < n → -20 ≤ (f k).toInt ∧ (f k).toInt ≤ 20) → -(20 * n : Int) ≤ (n_sum f n).toInt ∧ (n_sum f n).toInt ≤ 20 * n
  | 0, _, _ => by simp [n_sum]
  | n + 1, hn, h => by
    have h1 := n_sum_b n (by omega) (fun k hk => h k (by omega))
    have h2 := h n (by omega)
    rw [n_sum, kq_add (by omega) (by omega)]
    omega
theorem kq_mulb {x : Int32} {d : Nat} (h1 : -1500 ≤ x.toInt ∧ x.toInt ≤ 1500) (hd : d ≤ 72) : (x * nI d).toInt = x.toInt * d ∧ -108000 ≤ x.toInt * d ∧ x.toInt * d ≤ 108000 := by
  have e := nI_toInt (n := d) (by omega)
  have h2 : -(1500 * (d : Int)) ≤ x.toInt * d := by
    have := Int.mul_le_mul_of_nonneg_right h1.1 (show (0 : Int) ≤ d by omega)
    rw [Int.neg_mul] at this
    exact this
  have h3 : x.toInt * d ≤ 1500 * (d : Int) := Int.mul_le_mul_of_nonneg_right h1.2 (by omega)
  refine ⟨?_, by omega, by omega⟩
  rw [Int32.toInt_mul, e]
  exact Int.bmod_eq_of_le_mul_two (by omega) (by omega)
theorem n_div_b {x : Int32} {d : Nat} (h0 : 0 < d) (hd : d < 2 ^ 30) (h1 : -300000 ≤ x.toInt ∧ x.toInt ≤ 300000) : -300001 ≤ (n_div x (nI d)).toInt ∧ (n_div x (nI d)).toInt ≤ 300000 := by
  have e := nI_toInt (n := d) (by omega)
  have hq : (x / nI d).toInt = x.toInt.tdiv d := by
    rw [Int32.toInt_div_of_ne_left _ _ (fun q => by rw [q] at h1; exact absurd h1.1 (by decide)), e]
  have hb : -300000 ≤ x.toInt.tdiv d ∧ x.toInt.tdiv d ≤ 300000 := by
    have hn : (x.toInt.tdiv d).natAbs ≤ x.toInt.natAbs := by rw [Int.natAbs_tdiv]; exact Nat.div_le_self _ _
    omega
  unfold n_div
  split
  · rw [kq_sub (by omega) (by decide), hq]
    show -300001 ≤ x.toInt.tdiv d - 1 ∧ x.toInt.tdiv d - 1 ≤ 300000
    omega
  · rw [hq]; omega
theorem n_cr_b {v : Nat → Int32} (hI : n_I v) {n r d h w : Nat} (h1 : r + h ≤ 6) (h2 : d + w ≤ 12) (h3 : 0 < h) (h4 : 0 < w) : -300001 ≤ (n_cr v n r d h w).toInt ∧ (n_cr v n r d h w).toInt ≤ 300000 := by
  have hcw9 : h * w ≤ 6 * 12 := Nat.mul_le_mul (by omega) (by omega)
  have hcw : 0 < h * w := Nat.mul_pos h3 h4
  have hf9 : n_fr r d h w ≤ 72 := Nat.le_trans (Nat.sub_le _ _) (Nat.mul_le_mul (show min (r + h + 1) 6 - (r - 1) ≤ 6 by omega) (show min (d + w + 1) 12 - (d - 1) ≤ 12 by omega))
  rw [n_cr, n_con_m h1 h2]
  split
  · decide
  · rename_i hf
    have a1 : -(20 * (72 : Nat) : Int) ≤ (n_mi (fun k => n_li v n (k / 12) (k % 12)) r h d w 72).toInt ∧ (n_mi (fun k => n_li v n (k / 12) (k % 12)) r h d w 72).toInt ≤ 20 * (72 : Nat) := n_sum_b 72 (Nat.le_refl _) (fun k hk => by
      show -20 ≤ (if _ then _ else (0:Int32)).toInt ∧ (if _ then _ else (0:Int32)).toInt ≤ 20
      split
      · exact n_li_b hI hk
      · decide)
    have a2 : -(20 * (72 : Nat) : Int) ≤ (n_ma (fun k => n_li v n (k / 12) (k % 12)) r h d w 72).toInt ∧ (n_ma (fun k => n_li v n (k / 12) (k % 12)) r h d w 72).toInt ≤ 20 * (72 : Nat) := n_sum_b 72 (Nat.le_refl _) (fun k hk => by
      show -20 ≤ (if _ then (0:Int32) else if _ then _ else (0:Int32)).toInt ∧ (if _ then (0:Int32) else if _ then _ else (0:Int32)).toInt ≤ 20
      split
      · decide
      · split
        · exact n_li_b hI hk
        · decide)
    have b1 := kq_mulb (x := n_mi (fun k => n_li v n (k / 12) (k % 12)) r h d w 72) (d := n_fr r d h w) (by omega) hf9
    have b2 := kq_mulb (x := n_ma (fun k => n_li v n (k / 12) (k % 12)) r h d w 72) (d := h * w) (by omega) hcw9
    have hpos : 0 < h * w * n_fr r d h w := Nat.mul_pos hcw (by omega)
    have hp9 : h * w * n_fr r d h w ≤ 72 * 72 := Nat.mul_le_mul hcw9 hf9
    refine n_div_b hpos (by omega) ?_
    rw [kq_sub (by rw [b1.1]; omega) (by rw [b2.1]; omega), b1.1, b2.1]
    omega
theorem n_abs_b {q : Int32} (h : -300001 ≤ q.toInt ∧ q.toInt ≤ 300000) : 0 ≤ n_abs q := by
  unfold n_abs
  split
  · assumption
  · rename_i hq
    rw [Int32.le_iff_toInt_le] at hq ⊢
    rw [kq_sub (by decide) (by omega)]
    have e : (0 : Int32).toInt = 0 := rfl
    rw [e] at hq ⊢
    omega
theorem n_pz_b {v : Nat → Int32} (hI : n_I v) {a f k : Nat} (ha : a < 3) (hf : f < 4) (ht : 0 < n_f v f 2) (hk : k < n_c v a) : 0 ≤ n_pz v a f k := by
  have hfr := n_I_fr hI hf
  rw [n_pz, n_ct, n_f_phase ha, n_f_phase ha, n_f_phase ha, n_f_phase ha]
  exact n_abs_b (n_cr_b (n_I_phase hI ha hk) (by omega) (by omega) ht (by omega))
theorem n_Z_phase {v z : Nat → Int32} (h : n_Z v z) {a : Nat} (ha : a < 3) {x : Int32} : n_Z (upd v (291 + a) x) (upd z (6 + a) x) := by
  obtain ⟨h0, h1, h2, h3, h4, h5⟩ := h
  refine ⟨fun k hk => ?_, fun r hr => ?_, fun r hr => ?_, fun k hk => ?_, fun k hk => ?_, fun f hf => ⟨?_, fun j hj => ?_⟩⟩
  · rw [pk_un (by omega), pk_un (by omega)]; exact h0 k hk
  · rw [pk_un (by omega), pk_un (by omega)]; exact h1 r hr
  · by_cases q : r = a
    · rw [q, pk_us, pk_us]
    · rw [pk_un (by omega), pk_un (by omega)]; exact h2 r hr
  · rw [pk_un (by omega), pk_un (by omega)]; exact h3 k hk
  · rw [pk_un (by omega), pk_un (by omega)]; exact h4 k hk
  · rw [pk_un (by omega), n_f_phase ha]; exact (h5 f hf).1
  · rw [pk_un (by omega), pk_un (by omega)]; exact (h5 f hf).2 j hj
