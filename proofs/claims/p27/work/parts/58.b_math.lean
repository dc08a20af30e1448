/-! The law's numbers: its script, its wires, what it says of a class's state. -/
def n_ce (L : Nat) (xs : Nat → Int32) (k : Nat) : Int32 := if k < L then xs k else nI (32452867 * k + 15485863)
def n_lw (x : Int32) (n : Nat) : Nat := x.toBitVec.toNat % 2 ^ 31 % n
theorem n_lw_lt {x : Int32} {n : Nat} (h : 0 < n) : n_lw x n < n := Nat.mod_lt _ h
def n_hs (L : Nat) (xs : Nat → Int32) (k : Nat) : Int32 := n_ce L xs (k / 5 % 60) >>> (nI (6 * (k % 5)) &&& 31)
def n_wv (x y : Int32) : Int32 := if n_lw x 3 = 0 ∧ 0 < n_lw y 8 then 0 else if n_lw x 3 = 1 ∧ 0 < n_lw y 3 then 0 else nI (n_lw (y >>> (2 &&& 31)) 7) - 3
def n_w (L : Nat) (xs : Nat → Int32) (k : Nat) : Int32 := n_wv (n_ce L xs (60 + k / 96)) (n_hs L xs k)
theorem n_wv_b (x y : Int32) : -3 ≤ n_wv x y ∧ n_wv x y ≤ 3 := by
  have key : ∀ t, t < 7 → (-3 ≤ nI t - 3 ∧ nI t - 3 ≤ 3) := by decide +kernel
  unfold n_wv
  split
  · decide
  · split
    · decide
    · exact key _ (n_lw_lt (by decide))
theorem n_w_b {L : Nat} {xs : Nat → Int32} (k : Nat) : -3 ≤ n_w L xs k ∧ n_w L xs k ≤ 3 := n_wv_b _ _
/-- the wires are the law's -/
def n_ww (L : Nat) (xs v : Nat → Int32) : Prop := ∀ k, k < 288 → v k = n_w L xs k
/-- the law's row p says of the class's state what it holds -/
def n_pp (v pf : Nat → Int32) : Prop := (∀ r, r < 3 → pf r = v (288 + r) ∧ pf (3 + r) = v (291 + r)) ∧ pf 6 = v 382 ∧ pf 7 = v 383
def n_qq (qf : Nat → Int32) (a b h w : Nat) : Prop := qf 0 = nI a ∧ qf 1 = nI b ∧ qf 2 = nI h ∧ qf 3 = nI w
theorem n_tn_0 {q : Int32} (h : ¬ 0 ≤ 10 + q) : n_tn q = 0 := by unfold n_tn; grind
theorem n_tn_19 {q : Int32} (h0 : 0 ≤ 10 + q) (h : ¬ 10 + q ≤ 19) : n_tn q = 19 := by unfold n_tn; grind
theorem n_tn_m {q : Int32} (h0 : 0 ≤ 10 + q) (h : 10 + q ≤ 19) : n_tn q = 10 + q := by unfold n_tn; grind
theorem kq_m1 {a : Nat} (ha : a < 2 ^ 30) : (nI a - 1).toInt = (a : Int) - 1 := by
  rw [Int32.toInt_sub, nI_toInt (by omega)]
  exact Int.bmod_eq_of_le_mul_two (by show _ ≤ ((a : Int) - 1) * 2; omega) (by show ((a : Int) - 1) * 2 < _; omega)
theorem kq_lt1 {r a : Nat} (hr : r < 1000) (ha : a < 1000) : nI r < nI a - 1 ↔ r + 1 < a := by
  rw [Int32.lt_iff_toInt_lt, kq_m1 (by omega), nI_toInt (by omega)]
  omega
theorem n_f_as {v w : Nat → Int32} {f j : Nat} (h : w (366 + f * 4 + j) = v (366 + f * 4 + j)) : n_f w f j = n_f v f j := by rw [n_f, n_f, h]
/-- the changed cells of a rectangle, one by one -/
def n_inkm (v : Nat → Int32) (r d h w : Nat) (x : Int32) (k : Nat) : Int32 := n_sum (fun j => if (r ≤ j / 12 ∧ j / 12 < r + h) ∧ (d ≤ j % 12 ∧ j % 12 < d + w) then (if v (294 + j) = x then 0 else 1) else 0) k
theorem n_inkm_eq {v : Nat → Int32} {r d h w : Nat} {x : Int32} (h1 : r + h ≤ 6) (h2 : d + w ≤ 12) : n_inkn v r d h w x = n_inkm v r d h w x 72 := by
  have e := n_ar_m (f := fun j => if v (294 + j) = x then 0 else 1) (a := r) (b := r + h) (c := d) (d := d + w) h1 h2
  exact e
/-! contrasts: bounds, and the two loops that look for the number rounded down -/
theorem n_tn_b (q : Int32) : 0 ≤ n_tn q ∧ n_tn q ≤ 19 := by unfold n_tn; grind
theorem kq_add {x y : Int32} (h1 : -(2 ^ 30) ≤ x.toInt ∧ x.toInt ≤ 2 ^ 30) (h2 : -(2 ^ 29) ≤ y.toInt ∧ y.toInt ≤ 2 ^ 29) : (x + y).toInt = x.toInt + y.toInt := by
  rw [Int32.toInt_add]
  exact Int.bmod_eq_of_le_mul_two (by omega) (by omega)
theorem kq_sub {x y : Int32} (h1 : -(2 ^ 29) ≤ x.toInt ∧ x.toInt ≤ 2 ^ 29) (h2 : -(2 ^ 29) ≤ y.toInt ∧ y.toInt ≤ 2 ^ 29) : (x - y).toInt = x.toInt - y.toInt := by
  rw [Int32.toInt_sub]
  exact Int.bmod_eq_of_le_mul_two (by omega) (by omega)
theorem n_li_b {v : Nat → Int32} (hI : n_I v) {n k : Nat} (hk : k < 72) : -20 ≤ (n_li v n (k / 12) (k % 12)).toInt ∧ (n_li v n (k / 12) (k % 12)).toInt ≤ 20 := by
  have h1 := n_tn_b (n_pr v (n_x v n (k % 12)) (k / 12))
  have h2 := n_I_k hI hk
  have h3 := n_I_k9 hI hk
  rw [n_li, n_to, show 294 + k / 12 * 12 + k % 12 = 294 + k by omega, h2]
  rw [Int32.le_iff_toInt_le, Int32.le_iff_toInt_le] at h1
  have h1a : (0 : Int) ≤ (n_tn (n_pr v (n_x v n (k % 12)) (k / 12))).toInt := h1.1
  have h1b : (n_tn (n_pr v (n_x v n (k % 12)) (k / 12))).toInt ≤ 19 := h1.2
  have e := nI_toInt (n := n_k v k) (by omega)
  rw [kq_sub (by omega) (by omega), e]
  omega
theorem n_sum_b {f : Nat → Int32} : ∀ n, n ≤ 72 → (∀ k, k < n → -20 ≤ (f k).toInt ∧ (f k).toInt ≤ 20) → -(20 * n : Int) ≤ (n_sum f n).toInt ∧ (n_sum f n).toInt ≤ 20 * n
  | 0, _, _ => by simp [n_sum]
  | n + 1, hn, h => by
    have h1 := n_sum_b n (by omega) (fun k hk => h k (by omega))
    have h2 := h n (by omega)
    rw [n_sum, kq_add (by omega) (by omega)]
    omega
theorem kq_mulb {x : Int32} {d : Nat} (h1 : -1500 ≤ x.toInt ∧ x.toInt ≤ 1500) (hd : d ≤ 72) : (x * nI d).toInt = x.toInt * d ∧ -108000 ≤ x.toInt * d ∧ x.toInt * d ≤ 108000 := by
  have e := nI_toInt (n := d) (by omega)
  have h2 : -(1500 * (d : Int)) ≤ x.toInt * d := by
    have := Int.mul_le_mul_of_nonneg_right h1.1 (show (0 : Int) ≤ d by omega)
    rw [Int.neg_mul] at this
    exact this
  have h3 : x.toInt * d ≤ 1500 * (d : Int) := Int.mul_le_mul_of_nonneg_right h1.2 (by omega)
  refine ⟨?_, by omega, by omega⟩
  rw [Int32.toInt_mul, e]
  exact Int.bmod_eq_of_le_mul_two (by omega) (by omega)
/-- the whole of a contrast, before it is divided -/
def n_wh (g : Nat → Int32) (r d h w : Nat) : Int32 := n_mi g r h d w 72 * nI (n_fr r d h w) - n_ma g r h d w 72 * nI (h * w)
theorem n_wh_b {v : Nat → Int32} (hI : n_I v) {n r d h w : Nat} (h1 : r + h ≤ 6) (h2 : d + w ≤ 12) : -216000 ≤ (n_wh (fun k => n_li v n (k / 12) (k % 12)) r d h w).toInt ∧ (n_wh (fun k => n_li v n (k / 12) (k % 12)) r d h w).toInt ≤ 216000 := by
  have hcw9 : h * w ≤ 6 * 12 := Nat.mul_le_mul (by omega) (by omega)
  have hf9 : n_fr r d h w ≤ 72 := Nat.le_trans (Nat.sub_le _ _) (Nat.mul_le_mul (show min (r + h + 1) 6 - (r - 1) ≤ 6 by omega) (show min (d + w + 1) 12 - (d - 1) ≤ 12 by omega))
  have a1 : -(20 * (72 : Nat) : Int) ≤ (n_mi (fun k => n_li v n (k / 12) (k % 12)) r h d w 72).toInt ∧ (n_mi (fun k => n_li v n (k / 12) (k % 12)) r h d w 72).toInt ≤ 20 * (72 : Nat) := n_sum_b 72 (Nat.le_refl _) (fun k hk => by
    show -20 ≤ (if _ then _ else (0:Int32)).toInt ∧ (if _ then _ else (0:Int32)).toInt ≤ 20
    split
    · exact n_li_b hI hk
    · decide)
  have a2 : -(20 * (72 : Nat) : Int) ≤ (n_ma (fun k => n_li v n (k / 12) (k % 12)) r h d w 72).toInt ∧ (n_ma (fun k => n_li v n (k / 12) (k % 12)) r h d w 72).toInt ≤ 20 * (72 : Nat) := n_sum_b 72 (Nat.le_refl _) (fun k hk => by
    show -20 ≤ (if _ then (0:Int32) else if _ then _ else (0:Int32)).toInt ∧ (if _ then (0:Int32) else if _ then _ else (0:Int32)).toInt ≤ 20
    split
    · decide
    · split
      · exact n_li_b hI hk
      · decide)
  have b1 := kq_mulb (x := n_mi (fun k => n_li v n (k / 12) (k % 12)) r h d w 72) (d := n_fr r d h w) (by omega) hf9
  have b2 := kq_mulb (x := n_ma (fun k => n_li v n (k / 12) (k % 12)) r h d w 72) (d := h * w) (by omega) hcw9
  rw [n_wh, kq_sub (by rw [b1.1]; omega) (by rw [b2.1]; omega), b1.1, b2.1]
  omega
theorem n_cr_0 {v : Nat → Int32} {n r d h w : Nat} (h1 : r + h ≤ 6) (h2 : d + w ≤ 12) (h0 : n_fr r d h w = 0) : n_cr v n r d h w = 0 := by
  rw [n_cr, n_con_m h1 h2, if_pos h0]
theorem n_cr_d {v : Nat → Int32} {n r d h w : Nat} (h1 : r + h ≤ 6) (h2 : d + w ≤ 12) (h0 : ¬ n_fr r d h w = 0) : n_cr v n r d h w = n_div (n_wh (fun k => n_li v n (k / 12) (k % 12)) r d h w) (nI (n_fr r d h w * (h * w))) := by
  rw [n_cr, n_con_m h1 h2, if_neg h0, Nat.mul_comm (h * w)]
  rfl
theorem kq_ym {y : Int32} {P : Nat} (hy : -300002 ≤ y.toInt ∧ y.toInt ≤ 300002) (hP : P ≤ 5184) : (y * nI P).toInt = y.toInt * P := by
  have e := nI_toInt (n := P) (by omega)
  have h2 : -300002 * (P : Int) ≤ y.toInt * P := Int.mul_le_mul_of_nonneg_right hy.1 (show (0 : Int) ≤ P by omega)
  have h3 : y.toInt * P ≤ 300002 * (P : Int) := Int.mul_le_mul_of_nonneg_right hy.2 (by omega)
  rw [Int32.toInt_mul, e]
  exact Int.bmod_eq_of_le_mul_two (by omega) (by omega)
theorem kq_d1 {y : Int32} (hy : -300002 ≤ y.toInt ∧ y.toInt ≤ 300002) : (y + (-1)).toInt = y.toInt - 1 := by
  rw [kq_add (by omega) (by decide)]
  rfl
theorem kq_u1 {y : Int32} (hy : -300002 ≤ y.toInt ∧ y.toInt ≤ 300002) : (y + 1).toInt = y.toInt + 1 := by
  rw [kq_add (by omega) (by decide)]
  rfl
theorem kq_dn {y X : Int32} {P : Nat} (hP : 1 ≤ P ∧ P ≤ 5184) (hX : -216000 ≤ X.toInt ∧ X.toInt ≤ 216000) (j1 : -216001 ≤ y.toInt ∧ y.toInt ≤ 0) (hc : ¬ y * nI P ≤ X) : (-216001 ≤ (y + (-1)).toInt ∧ (y + (-1)).toInt ≤ 0) ∧ X.toInt < ((y + (-1)).toInt + 1) * P ∧ ((y + (-1)).toInt + 216001).toNat < (y.toInt + 216001).toNat := by
  rw [Int32.le_iff_toInt_le, kq_ym (by omega) hP.2] at hc
  rw [kq_d1 (by omega), Int.sub_add_cancel]
  have h1 : y.toInt * P ≤ y.toInt * 1 := Int.mul_le_mul_of_nonpos_left j1.2 (by omega)
  rw [Int.mul_one] at h1
  exact ⟨by omega, by omega, by omega⟩
theorem kq_dx {y X : Int32} {P : Nat} (hP : P ≤ 5184) (j1 : -216001 ≤ y.toInt ∧ y.toInt ≤ 216001) (hc : y * nI P ≤ X) : y.toInt * P ≤ X.toInt := by
  rw [Int32.le_iff_toInt_le, kq_ym (by omega) hP] at hc
  exact hc
theorem kq_up {y X : Int32} {P : Nat} (hP : 1 ≤ P ∧ P ≤ 5184) (hX : -216000 ≤ X.toInt ∧ X.toInt ≤ 216000) (j1 : -216001 ≤ y.toInt ∧ y.toInt ≤ 216001) (hc : ¬ X < (y + 1) * nI P) : (-216001 ≤ (y + 1).toInt ∧ (y + 1).toInt ≤ 216001) ∧ (y + 1).toInt * P ≤ X.toInt ∧ (216001 - (y + 1).toInt).toNat < (216001 - y.toInt).toNat := by
  rw [Int32.lt_iff_toInt_lt, kq_ym (by rw [kq_u1 (by omega)]; omega) hP.2] at hc
  rw [kq_u1 (by omega)] at hc ⊢
  have h3 : y.toInt + 1 ≤ 216000 := by
    rcases Int.lt_or_le (y.toInt + 1) 0 with q | q
    · omega
    · have h1 : (y.toInt + 1) * 1 ≤ (y.toInt + 1) * P := Int.mul_le_mul_of_nonneg_left (by omega) q
      rw [Int.mul_one] at h1
      omega
  exact ⟨by omega, by omega, by omega⟩
theorem n_div_u {x : Int32} {d : Nat} {y : Int} (h0 : 0 < d) (hd : d < 2 ^ 30) (hx : -300000 ≤ x.toInt ∧ x.toInt ≤ 300000) (h1 : y * d ≤ x.toInt) (h2 : x.toInt < (y + 1) * d) : (n_div x (nI d)).toInt = y := by
  have e := nI_toInt (n := d) (by omega)
  have hq : (x / nI d).toInt = x.toInt.tdiv d := by
    rw [Int32.toInt_div_of_ne_left _ _ (fun q => by rw [q] at hx; exact absurd hx.1 (by decide)), e]
  have hb : -300000 ≤ x.toInt.tdiv d ∧ x.toInt.tdiv d ≤ 300000 := by
    have hn : (x.toInt.tdiv d).natAbs ≤ x.toInt.natAbs := by rw [Int.natAbs_tdiv]; exact Nat.div_le_self _ _
    omega
  have hr := kq_rem (x := x) h0 (by omega)
  have hs := Int.tdiv_mul_add_tmod x.toInt d
  have hd0 : (0 : Int) < d := by omega
  have hm := Int.tmod_lt_of_pos x.toInt hd0
  have hm2 : -(d : Int) < x.toInt.tmod d := by
    rcases Int.lt_or_le x.toInt 0 with q | q
    · have := Int.tmod_lt_of_pos (-x.toInt) hd0
      rw [Int.neg_tmod] at this
      omega
    · have := Int.tmod_nonneg (d : Int) q
      omega
  have un : ∀ z : Int, z * d ≤ x.toInt → x.toInt < (z + 1) * d → z = y := by
    intro z g1 g2
    have k1 : z * d < (y + 1) * d := Int.lt_of_le_of_lt g1 h2
    have k2 : y * d < (z + 1) * d := Int.lt_of_le_of_lt h1 g2
    have k3 := Int.lt_of_mul_lt_mul_right k1 (Int.le_of_lt hd0)
    have k4 := Int.lt_of_mul_lt_mul_right k2 (Int.le_of_lt hd0)
    omega
  unfold n_div
  split
  · rename_i hc
    rw [Int32.lt_iff_toInt_lt, hr] at hc
    have hc : x.toInt.tmod d < 0 := hc
    rw [kq_sub (by omega) (by decide), hq]
    show x.toInt.tdiv d - 1 = y
    refine un _ ?_ ?_
    · rw [Int.sub_mul]; omega
    · rw [Int.sub_add_cancel]; omega
  · rename_i hc
    rw [Int32.lt_iff_toInt_lt, hr] at hc
    have hc : ¬ x.toInt.tmod d < 0 := hc
    rw [hq]
    refine un _ ?_ ?_
    · omega
    · rw [Int.add_mul]; omega
theorem kq_dend {y X : Int32} {P : Nat} (hP : 1 ≤ P ∧ P ≤ 5184) (hX : -216000 ≤ X.toInt ∧ X.toInt ≤ 216000) (j1 : -216001 ≤ y.toInt ∧ y.toInt ≤ 216001) (h1 : y.toInt * P ≤ X.toInt) (hc : X < (y + 1) * nI P) : y = n_div X (nI P) := by
  rw [Int32.lt_iff_toInt_lt, kq_ym (by rw [kq_u1 (by omega)]; omega) hP.2, kq_u1 (by omega)] at hc
  exact (Int32.toInt_inj.mp (n_div_u (by omega) (by omega) (by omega) h1 hc)).symm
/-! figures: the first note on which one is seen, on how many -/
theorem n_ff_k {q : Nat → Bool} : ∀ k, k ≤ 100 → (n_ff q k = -1 ∧ ∀ m, 100 - k ≤ m → m < 100 → q m = false) ∨ ∃ sn, 100 - k ≤ sn ∧ sn < 100 ∧ n_ff q k = nI sn ∧ q sn = true ∧ ∀ m, 100 - k ≤ m → m < sn → q m = false
  | 0, _ => Or.inl ⟨rfl, fun m h1 h2 => by omega⟩
  | k + 1, hk => by
    rw [n_ff]
    by_cases h : q (100 - (k + 1)) = true
    · rw [if_pos h]
      exact Or.inr ⟨100 - (k + 1), Nat.le_refl _, by omega, rfl, h, fun m h1 h2 => by omega⟩
    · rw [if_neg h]
      have h' : q (100 - (k + 1)) = false := by cases hq : q (100 - (k + 1)) <;> simp_all
      have st : ∀ m, 100 - (k + 1) ≤ m → ¬ 100 - k ≤ m → q m = false := fun m g1 g2 => by rw [show m = 100 - (k + 1) by omega]; exact h'
      rcases n_ff_k (q := q) k (by omega) with ⟨g1, g2⟩ | ⟨sn, g0, g1, g2, g3, g4⟩
      · exact Or.inl ⟨g1, fun m z1 z2 => by
          by_cases z : 100 - k ≤ m
          · exact g2 m z z2
          · exact st m z1 z⟩
      · exact Or.inr ⟨sn, by omega, g1, g2, g3, fun m z1 z2 => by
          by_cases z : 100 - k ≤ m
          · exact g4 m z z2
          · exact st m z1 z⟩
theorem n_ff_spec (q : Nat → Bool) : (n_ff q 100 = -1 ∧ ∀ m, m < 100 → q m = false) ∨ ∃ sn, sn < 100 ∧ n_ff q 100 = nI sn ∧ q sn = true ∧ ∀ m, m < sn → q m = false := by
  rcases n_ff_k (q := q) 100 (Nat.le_refl _) with ⟨g1, g2⟩ | ⟨sn, g0, g1, g2, g3, g4⟩
  · exact Or.inl ⟨g1, fun m h => g2 m (by omega) h⟩
  · exact Or.inr ⟨sn, g1, g2, g3, fun m h => g4 m (by omega) h⟩
theorem n_co {q : Nat → Bool} : ∀ n, ∃ c, c ≤ n ∧ n_sum (fun k => if q k then 1 else 0) n = nI c ∧ ∀ m, m < n → q m = true → 0 < c
  | 0 => ⟨0, Nat.le_refl _, rfl, fun m h => absurd h (Nat.not_lt_zero m)⟩
  | n + 1 => by
    obtain ⟨c, h1, h2, h3⟩ := n_co (q := q) n
    rw [n_sum, h2]
    by_cases h : q n = true
    · rw [if_pos h]
      exact ⟨c + 1, by omega, nI_1 c, fun m _ _ => by omega⟩
    · rw [if_neg h, Int32.add_zero]
      refine ⟨c, by omega, rfl, fun m hm hq => ?_⟩
      rcases Nat.lt_or_ge m n with z | z
      · exact h3 m z hq
      · rw [show m = n by omega] at hq
        exact absurd hq h
theorem n_gd_h {v : Nat → Int32} {f : Nat} (h : n_hid v f = true) : ∃ c, c ≤ 100 ∧ n_gd v f 100 = nI c ∧ ∀ m, m < 100 → n_seen v f m = true → 0 < c := by
  rw [n_gd, if_pos h]
  exact n_co (q := n_seen v f) 100
theorem n_fo_p {v : Nat → Int32} {f q : Nat} (h : 0 < n_f v f 2) : n_fo v f q = n_fo1 v f q := if_pos h
theorem n_sn_t {v : Nat → Int32} {f n : Nat} (h : nI (n_s v 2) ≤ n_abs (n_ct v f n)) : n_seen v f n = true := decide_eq_true h
theorem n_sn_f {v : Nat → Int32} {f n : Nat} (h : ¬ nI (n_s v 2) ≤ n_abs (n_ct v f n)) : n_seen v f n = false := decide_eq_false h
theorem n_ineg (x : Int32) : -x = 0 - x := by rw [Int32.zero_sub]
/-! sums over two numbers, one after the other -/
theorem n_iv_00 {f : Nat → Int32} {n : Nat} : n_iv f 0 n = n_sum f n := by
  rw [n_iv, Nat.sub_zero]
  exact n_sum_c (fun k _ => by rw [Nat.zero_add])
theorem n_cw_f {v : Nat → Int32} {a d : Nat} (hd : 0 < d) : n_cw v a d = n_sum (fun k => if v ((a * 6 + k / d) * 16 + k % d) = 0 then 0 else 1) (6 * d) := by
  rw [n_cw, n_iv_00, ← n_sum_2 (g := fun i j => if v ((a * 6 + i) * 16 + j) = 0 then 0 else 1) hd 6]
  exact n_sum_c (fun k _ => by rw [n_cw1, n_iv_00])
theorem n_hw_f {v : Nat → Int32} {a d : Nat} (hd : 0 < d) : n_hw v a d = n_sum (fun k => v ((a * 6 + k / d) * 16 + k % d)) (6 * d) := by
  rw [n_hw, n_iv_00, ← n_sum_2 (g := fun i j => v ((a * 6 + i) * 16 + j)) hd 6]
  exact n_sum_c (fun k _ => by rw [n_hw1, n_iv_00])
set_option maxRecDepth 20000 in
theorem kq_byc : ∀ u, u < 199 → ∀ c, c < 17 → 4 ≤ c → (nI u - 99 - (nI u - 99) / nI c * nI c + nI c) - (nI u - 99 - (nI u - 99) / nI c * nI c + nI c) / nI c * nI c = nI ((u + 100 * c - 99) % c) := by decide +kernel
