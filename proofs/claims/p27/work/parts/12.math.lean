/-! Sums, and the numbers of a state: v is the class's row of values. -/
def n_sum (f : Nat → Int32) : Nat → Int32
  | 0 => 0
  | n + 1 => n_sum f n + f n
def n_iv (f : Nat → Int32) (a b : Nat) : Int32 := n_sum (fun i => f (a + i)) (b - a)
theorem n_iv_0 {f : Nat → Int32} {a : Nat} : n_iv f a a = 0 := by simp [n_iv, n_sum]
theorem n_iv_e {f : Nat → Int32} {a b : Nat} (h : b ≤ a) : n_iv f a b = 0 := by simp [n_iv, n_sum, Nat.sub_eq_zero_of_le h]
theorem n_iv_s {f : Nat → Int32} {a b : Nat} (h : a ≤ b) : n_iv f a (b + 1) = n_iv f a b + f b := by
  have e : b + 1 - a = (b - a) + 1 := by omega
  have e2 : a + (b - a) = b := by omega
  simp only [n_iv, e, n_sum, e2]
theorem n_sum_c {f g : Nat → Int32} {n : Nat} (h : ∀ k, k < n → f k = g k) : n_sum f n = n_sum g n := by
  induction n with
  | zero => rfl
  | succ n ih => simp only [n_sum, ih (fun k hk => h k (Nat.lt_succ_of_lt hk)), h n (Nat.lt_succ_self n)]
theorem n_iv_c {f g : Nat → Int32} {a b : Nat} (h : ∀ k, a ≤ k → k < b → f k = g k) : n_iv f a b = n_iv g a b :=
  n_sum_c (fun k hk => h (a + k) (Nat.le_add_right _ _) (by omega))
/-- the wires that aren't 0 in a row of a roll, the wires' sum -/
def n_cw1 (v : Nat → Int32) (a i d : Nat) : Int32 := n_iv (fun j => if v ((a * 6 + i) * 16 + j) = 0 then 0 else 1) 0 d
def n_cw (v : Nat → Int32) (a d : Nat) : Int32 := n_iv (fun i => n_cw1 v a i d) 0 6
def n_hw1 (v : Nat → Int32) (a i d : Nat) : Int32 := n_iv (fun j => v ((a * 6 + i) * 16 + j)) 0 d
def n_hw (v : Nat → Int32) (a d : Nat) : Int32 := n_iv (fun i => n_hw1 v a i d) 0 6
/-- a roll made flat -/
def n_flat (v : Nat → Int32) (a : Nat) : Nat → Int32 := fun k => if a * 96 ≤ k ∧ k < a * 96 + 96 then 0 else v k
/-- the saved states behind a save -/
def n_push (v sv : Nat → Int32) : Nat → Int32 := va_cpy v (va_cpy sv sv 0 385 1925) 0 0 385
/-- steps until a multiple is reached -/
def n_stm (a d : Nat) : Nat := d / Nat.gcd a d
theorem n_stm_iff {a d k : Nat} (hd : 0 < d) : (k * a) % d = 0 ↔ n_stm a d ∣ k := by
  unfold n_stm
  have hg : 0 < Nat.gcd a d := Nat.gcd_pos_of_pos_right a hd
  obtain ⟨a', ha⟩ := Nat.gcd_dvd_left a d
  obtain ⟨d', hd'⟩ := Nat.gcd_dvd_right a d
  have hq : d / Nat.gcd a d = d' := by rw [Nat.div_eq_iff_eq_mul_right hg (Nat.gcd_dvd_right a d)]; exact hd'
  rw [hq]
  have hco : Nat.Coprime d' a' := by
    have h := Nat.coprime_div_gcd_div_gcd (m := a) (n := d) hg
    rw [hq] at h
    have h2 : a / Nat.gcd a d = a' := by rw [Nat.div_eq_iff_eq_mul_right hg (Nat.gcd_dvd_left a d)]; exact ha
    rw [h2] at h
    exact h.symm
  constructor
  · intro h
    have h1 : d ∣ k * a := Nat.dvd_of_mod_eq_zero h
    have h2 : Nat.gcd a d * d' ∣ Nat.gcd a d * (k * a') := by
      have e : Nat.gcd a d * (k * a') = k * a := by rw [Nat.mul_left_comm, ← ha]
      rw [e, ← hd']; exact h1
    exact hco.dvd_of_dvd_mul_right (Nat.dvd_of_mul_dvd_mul_left hg h2)
  · rintro ⟨q, hq2⟩
    refine Nat.mod_eq_zero_of_dvd ⟨q * a', ?_⟩
    calc k * a = d' * q * (Nat.gcd a d * a') := by rw [hq2, ← ha]
      _ = Nat.gcd a d * d' * (q * a') := by rw [Nat.mul_assoc, Nat.mul_left_comm q, Nat.mul_left_comm d', Nat.mul_assoc]
      _ = d * (q * a') := by rw [← hd']
theorem n_stm_pos {a d : Nat} (hd : 0 < d) : 0 < n_stm a d := Nat.div_pos (Nat.le_of_dvd hd (Nat.gcd_dvd_right a d)) (Nat.gcd_pos_of_pos_right a hd)
theorem n_stm_le {a d : Nat} : n_stm a d ≤ d := Nat.div_le_self _ _
/-- numbers of the state -/
def n_c (v : Nat → Int32) (r : Nat) : Nat := (v (288 + r)).toNatClampNeg
def n_p (v : Nat → Int32) (r : Nat) : Nat := (v (291 + r)).toNatClampNeg
def n_k (v : Nat → Int32) (k : Nat) : Nat := (v (294 + k)).toNatClampNeg
def n_f (v : Nat → Int32) (f j : Nat) : Nat := (v (366 + f * 4 + j)).toNatClampNeg
def n_s (v : Nat → Int32) (k : Nat) : Nat := (v (382 + k)).toNatClampNeg
/-- behind how many notes all comes round, with a pitch -/
def n_all (v : Nat → Int32) (q : Nat) : Nat → Nat
  | 0 => 1
  | r + 1 => n_all v q r * n_stm (n_all v q r) (n_stm q (n_c v r))
/-- what holds of every state of an object -/
def n_I (v : Nat → Int32) : Prop :=
  (∀ r, r < 3 → v (288 + r) = nI (n_c v r) ∧ 4 ≤ n_c v r ∧ n_c v r ≤ 16 ∧ v (291 + r) = nI (n_p v r) ∧ n_p v r < n_c v r) ∧
  (∀ k, k < 72 → v (294 + k) = nI (n_k v k) ∧ n_k v k ≤ 9) ∧
  (∀ f, f < 4 → (∀ j, j < 4 → v (366 + f * 4 + j) = nI (n_f v f j)) ∧ (n_f v f 2 = 0 → n_f v f 0 = 0 ∧ n_f v f 1 = 0 ∧ n_f v f 3 = 0) ∧ (0 < n_f v f 2 → 0 < n_f v f 3) ∧ n_f v f 0 + n_f v f 2 ≤ 6 ∧ n_f v f 1 + n_f v f 3 ≤ 12) ∧
  (v 382 = nI (n_s v 0) ∧ n_s v 0 ≤ 99 ∧ v 383 = nI (n_s v 1) ∧ 12 ≤ n_s v 1 ∧ n_s v 1 ≤ 30 ∧ v 384 = nI (n_s v 2) ∧ 1 ≤ n_s v 2 ∧ n_s v 2 ≤ 9)
theorem n_I_c {v : Nat → Int32} (h : n_I v) {r : Nat} (hr : r < 3) : v (288 + r) = nI (n_c v r) := (h.1 r hr).1
theorem n_I_c4 {v : Nat → Int32} (h : n_I v) {r : Nat} (hr : r < 3) : 4 ≤ n_c v r := (h.1 r hr).2.1
theorem n_I_c16 {v : Nat → Int32} (h : n_I v) {r : Nat} (hr : r < 3) : n_c v r ≤ 16 := (h.1 r hr).2.2.1
theorem n_I_p {v : Nat → Int32} (h : n_I v) {r : Nat} (hr : r < 3) : v (291 + r) = nI (n_p v r) := (h.1 r hr).2.2.2.1
theorem n_I_pc {v : Nat → Int32} (h : n_I v) {r : Nat} (hr : r < 3) : n_p v r < n_c v r := (h.1 r hr).2.2.2.2
theorem n_I_k {v : Nat → Int32} (h : n_I v) {k : Nat} (hk : k < 72) : v (294 + k) = nI (n_k v k) := (h.2.1 k hk).1
theorem n_I_k9 {v : Nat → Int32} (h : n_I v) {k : Nat} (hk : k < 72) : n_k v k ≤ 9 := (h.2.1 k hk).2
theorem n_I_f {v : Nat → Int32} (h : n_I v) {f j : Nat} (hf : f < 4) (hj : j < 4) : v (366 + f * 4 + j) = nI (n_f v f j) := (h.2.2.1 f hf).1 j hj
theorem n_I_fr {v : Nat → Int32} (h : n_I v) {f : Nat} (hf : f < 4) : (n_f v f 2 = 0 → n_f v f 0 = 0 ∧ n_f v f 1 = 0 ∧ n_f v f 3 = 0) ∧ (0 < n_f v f 2 → 0 < n_f v f 3) ∧ n_f v f 0 + n_f v f 2 ≤ 6 ∧ n_f v f 1 + n_f v f 3 ≤ 12 := (h.2.2.1 f hf).2
theorem n_I_s {v : Nat → Int32} (h : n_I v) : v 382 = nI (n_s v 0) ∧ n_s v 0 ≤ 99 ∧ v 383 = nI (n_s v 1) ∧ 12 ≤ n_s v 1 ∧ n_s v 1 ≤ 30 ∧ v 384 = nI (n_s v 2) ∧ 1 ≤ n_s v 2 ∧ n_s v 2 ≤ 9 := h.2.2.2
theorem n_all_pos {v : Nat → Int32} (h : n_I v) {q : Nat} : ∀ r, r ≤ 3 → 0 < n_all v q r ∧ n_all v q r ≤ 16 ^ r
  | 0, _ => by simp [n_all]
  | r + 1, hr => by
    obtain ⟨h1, h2⟩ := n_all_pos h (q := q) r (by omega)
    have hc := n_I_c4 h (r := r) (by omega)
    have hd : 0 < n_stm q (n_c v r) := n_stm_pos (by omega)
    have h3 := n_stm_pos (a := n_all v q r) hd
    have h4 : n_stm (n_all v q r) (n_stm q (n_c v r)) ≤ 16 := Nat.le_trans n_stm_le (Nat.le_trans n_stm_le (n_I_c16 h (by omega)))
    refine ⟨Nat.mul_pos h1 h3, ?_⟩
    rw [Nat.pow_succ]
    exact Nat.mul_le_mul h2 h4
