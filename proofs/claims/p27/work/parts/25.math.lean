/-! The remainder, for numbers below 0 too. -/
theorem kq_rem {x : Int32} {d : Nat} (h0 : 0 < d) (hd : d < 2 ^ 31) : (x - x / nI d * nI d).toInt = x.toInt.tmod d := by
  rw [Int32.toInt_sub, Int32.toInt_mul, Int32.toInt_div, nI_toInt hd, Int.bmod_mul_bmod, Int.sub_bmod_bmod, show x.toInt - x.toInt.tdiv d * d = x.toInt.tmod d by rw [Int.tmod_def, Int.mul_comm]]
  have h1 := Int.tmod_lt_of_pos x.toInt (b := (d : Int)) (by omega)
  have h2 := Int.lt_tmod_of_pos x.toInt (b := (d : Int)) (by omega)
  exact Int.bmod_eq_of_le_mul_two (by omega) (by omega)
theorem kq_mod1 {x : Int32} {d t : Nat} (h0 : 0 < d) (hd : d < 2 ^ 30) (ht : x.toInt % (d : Int) = t) (hc : 0 ≤ x - x / nI d * nI d) : x - x / nI d * nI d = nI t := by
  have hr := kq_rem (x := x) h0 (by omega)
  have htd : (t : Int) < d := by rw [← ht]; exact Int.emod_lt_of_pos _ (by omega)
  rw [Int32.le_iff_toInt_le, hr] at hc
  rw [← Int32.toInt_inj, hr, nI_toInt (by omega), ← ht]
  have hc' : 0 ≤ x.toInt.tmod d := hc
  rw [Int.tmod_eq_emod] at hc' ⊢
  split
  · omega
  · rename_i hq
    rw [if_neg hq] at hc'
    have h3 := Int.emod_lt_of_pos x.toInt (b := (d : Int)) (by omega)
    omega
theorem kq_mod2 {x : Int32} {d t : Nat} (h0 : 0 < d) (hd : d < 2 ^ 30) (ht : x.toInt % (d : Int) = t) (hc : ¬ 0 ≤ x - x / nI d * nI d) : x - x / nI d * nI d + nI d = nI t := by
  have hr := kq_rem (x := x) h0 (by omega)
  have htd : (t : Int) < d := by rw [← ht]; exact Int.emod_lt_of_pos _ (by omega)
  rw [Int32.le_iff_toInt_le, hr] at hc
  have hc' : ¬ 0 ≤ x.toInt.tmod d := hc
  have h1 := Int.lt_tmod_of_pos x.toInt (b := (d : Int)) (by omega)
  have h3 := Int.emod_nonneg x.toInt (b := (d : Int)) (by omega)
  have e : x.toInt.tmod d + d = t := by
    rw [← ht]
    rw [Int.tmod_eq_emod] at hc' ⊢
    split
    · rename_i hq
      rw [if_pos hq] at hc'
      omega
    · omega
  rw [← Int32.toInt_inj, Int32.toInt_add, hr, nI_toInt (by omega), nI_toInt (by omega), e]
  exact Int.bmod_eq_of_le_mul_two (by omega) (by omega)
theorem kq_99 {u b k : Nat} {x : Int32} (hx : x = nI u - 99) (hu : u ≤ 198) (hk : 4 ≤ k ∧ k ≤ 16) (hb : b < 100) : (nI b + x).toInt % (k : Int) = ((b + u + 100 * k - 99) % k : Nat) := by
  have e : (nI b + x).toInt = (b : Int) + u - 99 := by
    rw [hx, Int32.toInt_add, Int32.toInt_sub, nI_toInt (by omega), nI_toInt (by omega)]
    show ((b : Int) + ((u : Int) - 99).bmod (2 ^ 32)).bmod (2 ^ 32) = _
    rw [Int.add_bmod_bmod]
    exact (Int.bmod_eq_of_le_mul_two (by omega) (by omega)).trans (by omega)
  rw [e, Int.natCast_emod, show ((b + u + 100 * k - 99 : Nat) : Int) = ((b : Int) + u - 99) + (k : Int) * 100 by omega, Int.add_mul_emod_self_left]
/-- a rectangle inked -/
def n_ink (v : Nat → Int32) (r d h w : Nat) (q : Int32) : Nat → Int32 := fun k => if (294 ≤ k ∧ k < 366) ∧ (r ≤ (k - 294) / 12 ∧ (k - 294) / 12 < r + h) ∧ (d ≤ (k - 294) % 12 ∧ (k - 294) % 12 < d + w) then q else v k
def n_inkn (v : Nat → Int32) (r d h w : Nat) (q : Int32) : Int32 := n_iv (fun y => n_iv (fun z => if v (294 + (y * 12 + z)) = q then 0 else 1) d (d + w)) r (r + h)
