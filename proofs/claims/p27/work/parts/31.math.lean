/-! The reference's row of numbers, beside the class's. -/
def n_Z (v z : Nat → Int32) : Prop :=
  (∀ k, k < 3 → z k = v (382 + k)) ∧ (∀ r, r < 3 → z (3 + r) = v (288 + r)) ∧ (∀ r, r < 3 → z (6 + r) = v (291 + r)) ∧ (∀ k, k < 288 → z (9 + k) = v k) ∧ (∀ k, k < 72 → z (297 + k) = v (294 + k)) ∧
  (∀ f, f < 4 → z (369 + 5 * f) = (if 0 < n_f v f 2 then 1 else 0) ∧ ∀ j, j < 4 → z (369 + 5 * f + (1 + j)) = v (366 + f * 4 + j))
theorem kq_b1t {q : Prop} [Decidable q] (h : (if q then (1:Int32) else 0) = 1) : q := by
  by_cases hp : q
  · exact hp
  · rw [if_neg hp] at h; exact absurd h (by decide)
theorem kq_b1f {q : Prop} [Decidable q] (h : ¬ (if q then (1:Int32) else 0) = 1) : ¬ q := fun hp => h (if_pos hp)
theorem kq_ifc {q w : Prop} [Decidable q] [Decidable w] (h : q ↔ w) : (if q then (1:Int32) else 0) = (if w then (1:Int32) else 0) := by
  by_cases hp : q
  · rw [if_pos hp, if_pos (h.mp hp)]
  · rw [if_neg hp, if_neg (fun z => hp (h.mpr z))]
theorem kq_near {a i b : Nat} (ha : a < 1000) (hi : i < 1000) (hb : b < 1000) : (nI a - 1 ≤ nI i ∧ nI i ≤ nI b) ↔ (a ≤ i + 1 ∧ i ≤ b) := by
  have e : (nI a - 1).toInt = (a : Int) - 1 := by
    rw [Int32.toInt_sub, nI_toInt (by omega)]
    exact Int.bmod_eq_of_le_mul_two (by show _ ≤ ((a : Int) - 1) * 2; omega) (by show ((a : Int) - 1) * 2 < _; omega)
  rw [Int32.le_iff_toInt_le, Int32.le_iff_toInt_le, e, nI_toInt (by omega), nI_toInt (by omega)]
  omega
/-- the cells of a frame, counted one by one -/
def n_nb (r h i : Nat) : Bool := Nat.ble r (i + 1) && Nat.ble i (r + h)
def n_ib (r h i : Nat) : Bool := Nat.ble r i && Nat.blt i (r + h)
def n_fc (r h d w : Nat) : Nat → Nat
  | 0 => 0
  | k + 1 => n_fc r h d w k + (if (n_nb r h (k / 12) && n_nb d w (k % 12)) && !(n_ib r h (k / 12) && n_ib d w (k % 12)) then 1 else 0)
theorem n_fc_all : (List.range 6).all (fun r => (List.range 7).all (fun h => (List.range 12).all (fun d => (List.range 13).all (fun w => !(Nat.ble (r + h) 6 && Nat.ble (d + w) 12 && Nat.blt 0 h && Nat.blt 0 w) || Nat.beq (n_fc r h d w 72) (n_fr r d h w))))) = true := by decide +kernel
theorem n_fc_eq {r h d w : Nat} (h1 : r + h ≤ 6) (h2 : d + w ≤ 12) (h3 : 0 < h) (h4 : 0 < w) : n_fc r h d w 72 = n_fr r d h w := by
  have q := n_fc_all
  rw [List.all_eq_true] at q
  have q1 := q r (List.mem_range.mpr (by omega))
  rw [List.all_eq_true] at q1
  have q2 := q1 h (List.mem_range.mpr (by omega))
  rw [List.all_eq_true] at q2
  have q3 := q2 d (List.mem_range.mpr (by omega))
  rw [List.all_eq_true] at q3
  have q4 := q3 w (List.mem_range.mpr (by omega))
  have e1 : Nat.ble (r + h) 6 = true := Nat.ble_eq_true_of_le h1
  have e2 : Nat.ble (d + w) 12 = true := Nat.ble_eq_true_of_le h2
  have e3 : Nat.blt 0 h = true := Nat.ble_eq_true_of_le h3
  have e4 : Nat.blt 0 w = true := Nat.ble_eq_true_of_le h4
  rw [e1, e2, e3, e4] at q4
  exact Nat.eq_of_beq_eq_true (by simpa using q4)
theorem n_fc_s {r h d w k : Nat} : n_fc r h d w (k + 1) = n_fc r h d w k + (if ((r ≤ k / 12 + 1 ∧ k / 12 ≤ r + h) ∧ (d ≤ k % 12 + 1 ∧ k % 12 ≤ d + w)) ∧ ¬ ((r ≤ k / 12 ∧ k / 12 < r + h) ∧ (d ≤ k % 12 ∧ k % 12 < d + w)) then 1 else 0) := by
  rw [n_fc]
  congr 1
  have e : ((n_nb r h (k / 12) && n_nb d w (k % 12)) && !(n_ib r h (k / 12) && n_ib d w (k % 12))) = true ↔ (((r ≤ k / 12 + 1 ∧ k / 12 ≤ r + h) ∧ (d ≤ k % 12 + 1 ∧ k % 12 ≤ d + w)) ∧ ¬ ((r ≤ k / 12 ∧ k / 12 < r + h) ∧ (d ≤ k % 12 ∧ k % 12 < d + w))) := by
    simp only [n_nb, n_ib, Nat.blt, Bool.and_eq_true, Bool.not_eq_true', Bool.and_eq_false_iff, Nat.ble_eq, Bool.not_eq_true, ← Bool.not_eq_true]
    omega
  by_cases q : (((n_nb r h (k / 12) && n_nb d w (k % 12)) && !(n_ib r h (k / 12) && n_ib d w (k % 12))) = true)
  · rw [if_pos q, if_pos (e.mp q)]
  · rw [if_neg q, if_neg (fun z => q (e.mpr z))]
/-- masked sums: inside a rectangle, in its frame -/
def n_mi (g : Nat → Int32) (r h d w : Nat) (k : Nat) : Int32 := n_sum (fun j => if (r ≤ j / 12 ∧ j / 12 < r + h) ∧ (d ≤ j % 12 ∧ j % 12 < d + w) then g j else 0) k
def n_ma (g : Nat → Int32) (r h d w : Nat) (k : Nat) : Int32 := n_sum (fun j => if (r ≤ j / 12 ∧ j / 12 < r + h) ∧ (d ≤ j % 12 ∧ j % 12 < d + w) then 0 else if (r ≤ j / 12 + 1 ∧ j / 12 ≤ r + h) ∧ (d ≤ j % 12 + 1 ∧ j % 12 ≤ d + w) then g j else 0) k
theorem n_sum_add {f g : Nat → Int32} : ∀ n, n_sum (fun k => f k + g k) n = n_sum f n + n_sum g n
  | 0 => by simp [n_sum]
  | n + 1 => by simp only [n_sum, n_sum_add n]; grind
theorem n_sum_z {f : Nat → Int32} {n : Nat} (h : ∀ k, k < n → f k = 0) : n_sum f n = 0 := by
  induction n with
  | zero => rfl
  | succ n ih => rw [n_sum, ih (fun k hk => h k (by omega)), h n (by omega)]; rfl
theorem n_iv_m {f : Nat → Int32} {a b : Nat} : ∀ n, b ≤ n → n_iv f a b = n_sum (fun k => if a ≤ k ∧ k < b then f k else 0) n
  | 0, hb => by rw [n_iv_e (by omega)]; rfl
  | n + 1, hb => by
    rcases Nat.lt_or_ge n b with q | q
    · have e : b = n + 1 := by omega
      subst e
      rcases Nat.lt_or_ge n a with q2 | q2
      · rw [n_iv_e (by omega), n_sum_z (fun k hk => if_neg (by omega))]
      · rw [n_iv_s q2, n_sum, if_pos ⟨q2, Nat.lt_succ_self n⟩, n_iv_m n (Nat.le_refl n)]
        congr 1
        exact n_sum_c (fun k hk => by
          by_cases z : a ≤ k
          · rw [if_pos ⟨z, hk⟩, if_pos ⟨z, by omega⟩]
          · rw [if_neg (fun y => z y.1), if_neg (fun y => z y.1)])
    · rw [n_sum, if_neg (by omega), n_iv_m n q, Int32.add_zero]
/-- rows and columns, one after the other -/
theorem n_sum_2 {g : Nat → Nat → Int32} {d : Nat} (hd : 0 < d) : ∀ n, n_sum (fun y => n_sum (fun x => g y x) d) n = n_sum (fun k => g (k / d) (k % d)) (n * d)
  | 0 => by rw [Nat.zero_mul]; rfl
  | n + 1 => by
    have h : ∀ m, m ≤ d → n_sum (fun k => g (k / d) (k % d)) (n * d + m) = n_sum (fun k => g (k / d) (k % d)) (n * d) + n_sum (fun x => g n x) m := by
      intro m
      induction m with
      | zero => intro _; simp [n_sum]
      | succ m ih =>
        intro hm
        rw [← Nat.add_assoc, n_sum, ih (by omega), n_sum, Int32.add_assoc]
        have e1 : (n * d + m) / d = n := by
          rw [Nat.mul_comm, Nat.mul_add_div hd, Nat.div_eq_of_lt (by omega), Nat.add_zero]
        have e2 : (n * d + m) % d = m := by
          rw [Nat.mul_comm, Nat.mul_add_mod, Nat.mod_eq_of_lt (by omega)]
        rw [e1, e2]
    rw [n_sum, n_sum_2 hd n, Nat.succ_mul, h d (Nat.le_refl d)]
theorem n_ar_m {f : Nat → Int32} {a b c d : Nat} (hb : b ≤ 6) (hd : d ≤ 12) : n_ar f a b c d = n_sum (fun k => if (a ≤ k / 12 ∧ k / 12 < b) ∧ (c ≤ k % 12 ∧ k % 12 < d) then f k else 0) 72 := by
  have e : n_ar f a b c d = n_sum (fun y => n_sum (fun x => if (a ≤ y ∧ y < b) ∧ (c ≤ x ∧ x < d) then f (y * 12 + x) else 0) 12) 6 := by
    rw [n_ar, n_iv_m 6 hb]
    refine n_sum_c (fun y _ => ?_)
    by_cases q : a ≤ y ∧ y < b
    · rw [if_pos q, n_iv_m 12 hd]
      refine n_sum_c (fun x _ => ?_)
      by_cases q2 : c ≤ x ∧ x < d
      · rw [if_pos q2, if_pos ⟨q, q2⟩]
      · rw [if_neg q2, if_neg (fun z => q2 z.2)]
    · rw [if_neg q, n_sum_z (fun x _ => if_neg (fun z => q z.1))]
  rw [e, n_sum_2 (g := fun y x => if (a ≤ y ∧ y < b) ∧ (c ≤ x ∧ x < d) then f (y * 12 + x) else 0) (by decide) 6]
  exact n_sum_c (fun k hk => by rw [show k / 12 * 12 + k % 12 = k by omega])
/-- the contrast, by masks -/
theorem n_con_m {g : Nat → Int32} {r d h w : Nat} (h1 : r + h ≤ 6) (h2 : d + w ≤ 12) : n_con g r d h w = if n_fr r d h w = 0 then 0 else n_div (n_mi g r h d w 72 * nI (n_fr r d h w) - n_ma g r h d w 72 * nI (h * w)) (nI (h * w * n_fr r d h w)) := by
  have a1 : n_ar g r (min (r + h) 6) d (min (d + w) 12) = n_mi g r h d w 72 := by
    rw [n_ar_m (Nat.min_le_right _ _) (Nat.min_le_right _ _), n_mi, show min (r + h) 6 = r + h by omega, show min (d + w) 12 = d + w by omega]
  have a2 : n_ar g (r - 1) (min (r + h + 1) 6) (d - 1) (min (d + w + 1) 12) = n_mi g r h d w 72 + n_ma g r h d w 72 := by
    rw [n_ar_m (Nat.min_le_right _ _) (Nat.min_le_right _ _), n_mi, n_ma, ← n_sum_add]
    refine n_sum_c (fun k hk => ?_)
    by_cases q : (r ≤ k / 12 ∧ k / 12 < r + h) ∧ (d ≤ k % 12 ∧ k % 12 < d + w)
    · rw [if_pos q, if_pos q, if_pos (by omega), Int32.add_zero]
    · rw [if_neg q, if_neg q, Int32.zero_add]
      by_cases q2 : (r ≤ k / 12 + 1 ∧ k / 12 ≤ r + h) ∧ (d ≤ k % 12 + 1 ∧ k % 12 ≤ d + w)
      · rw [if_pos q2, if_pos (by omega)]
      · rw [if_neg q2, if_neg (by omega)]
  rw [n_con, a1, a2]
  congr 2
  grind
/-- when all comes round -/
theorem n_stm_lcm {a d : Nat} (ha : 0 < a) (hd : 0 < d) : a * n_stm a d = Nat.lcm a d := by
  rw [n_stm, Nat.lcm, Nat.mul_div_assoc _ (Nat.gcd_dvd_right a d)]
theorem n_all_dvd {v : Nat → Int32} (h : n_I v) {q n : Nat} : ∀ r, r ≤ 3 → (n_all v q r ∣ n ↔ ∀ j, j < r → n_stm q (n_c v j) ∣ n)
  | 0, _ => by simp [n_all]
  | r + 1, hr => by
    have hc := n_I_c4 h (r := r) (by omega)
    have hd : 0 < n_stm q (n_c v r) := n_stm_pos (by omega)
    rw [n_all, n_stm_lcm (n_all_pos h r (by omega)).1 hd, Nat.lcm_dvd_iff, n_all_dvd h r (by omega)]
    constructor
    · rintro ⟨g1, g2⟩ j hj
      rcases Nat.lt_or_ge j r with z | z
      · exact g1 j z
      · rw [show j = r by omega]; exact g2
    · intro g
      exact ⟨fun j hj => g j (by omega), g r (by omega)⟩
