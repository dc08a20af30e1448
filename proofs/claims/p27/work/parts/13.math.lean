/-! Notes, figures: what they are as numbers. -/
def n_x (v : Nat → Int32) (n j : Nat) : Nat := n_s v 0 + n * n_s v 1 + j
def n_col (v : Nat → Int32) (x r : Nat) : Nat := (x + n_p v r) % n_c v r
def n_wr (v : Nat → Int32) (x r i : Nat) : Int32 := v ((r * 6 + i) * 16 + n_col v x r)
def n_pr (v : Nat → Int32) (x i : Nat) : Int32 := n_sum (fun r => n_wr v x r i) 3
def n_tn (q : Int32) : Int32 := if 0 < (if 10 + q < 19 then 10 + q else 19) then (if 10 + q < 19 then 10 + q else 19) else 0
def n_to (v : Nat → Int32) (n i j : Nat) : Int32 := n_tn (n_pr v (n_x v n j) i)
def n_li (v : Nat → Int32) (n i j : Nat) : Int32 := n_to v n i j - v (294 + i * 12 + j)
def n_min (f : Nat → Int32) : Nat → Int32
  | 0 => 19
  | k + 1 => if f k < n_min f k then f k else n_min f k
def n_max (f : Nat → Int32) : Nat → Int32
  | 0 => 0
  | k + 1 => if n_max f k < f k then f k else n_max f k
def n_abs (q : Int32) : Int32 := if 0 ≤ q then q else 0 - q
def n_div (a b : Int32) : Int32 := if a - a / b * b < 0 then a / b - 1 else a / b
def n_ar (f : Nat → Int32) (a b c d : Nat) : Int32 := n_iv (fun y => n_iv (fun z => f (y * 12 + z)) c d) a b
def n_fr (r c h w : Nat) : Nat := (min (r + h + 1) 6 - (r - 1)) * (min (c + w + 1) 12 - (c - 1)) - h * w
def n_con (f : Nat → Int32) (r c h w : Nat) : Int32 :=
  if n_fr r c h w = 0 then 0 else n_div (n_ar f r (min (r + h) 6) c (min (c + w) 12) * nI (n_fr r c h w) - (n_ar f (r - 1) (min (r + h + 1) 6) (c - 1) (min (c + w + 1) 12) - n_ar f r (min (r + h) 6) c (min (c + w) 12)) * nI (h * w)) (nI (h * w * n_fr r c h w))
/-- the contrast of a figure on a note, of a rectangle -/
def n_cr (v : Nat → Int32) (n r c h w : Nat) : Int32 := n_con (fun k => n_li v n (k / 12) (k % 12)) r c h w
def n_ct (v : Nat → Int32) (f n : Nat) : Int32 := n_cr v n (n_f v f 0) (n_f v f 1) (n_f v f 2) (n_f v f 3)
def n_seen (v : Nat → Int32) (f n : Nat) : Bool := decide (nI (n_s v 2) ≤ n_abs (n_ct v f n))
def n_nr (r h i : Nat) : Prop := r ≤ i + 1 ∧ i ≤ r + h
def n_hidP (v : Nat → Int32) (f k : Nat) : Prop := n_nr (n_f v f 0) (n_f v f 2) (k / 12) ∧ n_nr (n_f v f 1) (n_f v f 3) (k % 12) → v (294 + k) = v (294 + (n_f v f 0 * 12 + n_f v f 1))
noncomputable def n_hid (v : Nat → Int32) (f : Nat) : Bool := @decide (∀ k, k < 72 → n_hidP v f k) (Classical.propDecidable _)
theorem n_hid_iff {v : Nat → Int32} {f : Nat} : n_hid v f = true ↔ ∀ k, k < 72 → n_hidP v f k := @decide_eq_true_iff _ (Classical.propDecidable _)
def n_ff (q : Nat → Bool) : Nat → Int32
  | 0 => -1
  | k + 1 => if q (100 - (k + 1)) then nI (100 - (k + 1)) else n_ff q k
noncomputable def n_gd (v : Nat → Int32) (f n : Nat) : Int32 := if n_hid v f then n_sum (fun k => if n_seen v f k then 1 else 0) n else 0
def n_hm (v : Nat → Int32) : Int32 := n_sum (fun f => if 0 < n_f v f 2 then 1 else 0) 4
noncomputable def n_hh (v : Nat → Int32) : Int32 := n_sum (fun f => if 0 < n_f v f 2 ∧ n_hid v f then 1 else 0) 4
noncomputable def n_hg (v : Nat → Int32) (n : Nat) : Int32 := n_sum (fun f => if 0 < n_f v f 2 ∧ n_hid v f ∧ n_seen v f n then 1 else 0) 4
theorem kq_pm {a : Nat} (ha : a < 2 ^ 31) : (if nI a - 1 < 0 then 0 else nI a - 1) = nI (a - 1) := by
  rcases Nat.eq_zero_or_pos a with h | h
  · subst h; rfl
  · rw [show nI a - 1 = nI (a - 1) from pk_sub (a := a) (b := 1) h, if_neg (nI_pos (by omega))]
theorem kq_nneg {a : Nat} (ha : a < 2 ^ 31) : (if nI a < 0 then 0 else nI a) = nI a := if_neg (nI_pos ha)
theorem kq_p1 {a : Nat} (h : 0 < a) : nI a - 1 = nI (a - 1) := pk_sub (a := a) (b := 1) h
theorem n_ar_c {f g : Nat → Int32} {a b c d : Nat} (hb : b ≤ 6) (hd : d ≤ 12) (h : ∀ k, k < 72 → f k = g k) : n_ar f a b c d = n_ar g a b c d :=
  n_iv_c fun y _ hy => n_iv_c fun z _ hz => h _ (by omega)
theorem n_con_c {f g : Nat → Int32} {r c h w : Nat} (e : ∀ k, k < 72 → f k = g k) : n_con f r c h w = n_con g r c h w := by
  simp only [n_con]
  rw [n_ar_c (f := f) (g := g) (Nat.min_le_right _ _) (Nat.min_le_right _ _) e, n_ar_c (f := f) (g := g) (a := r - 1) (Nat.min_le_right _ _) (Nat.min_le_right _ _) e]
theorem n_min_c {f g : Nat → Int32} {n : Nat} (h : ∀ k, k < n → f k = g k) : n_min f n = n_min g n := by
  induction n with
  | zero => rfl
  | succ n ih => simp only [n_min, ih (fun k hk => h k (Nat.lt_succ_of_lt hk)), h n (Nat.lt_succ_self n)]
theorem n_max_c {f g : Nat → Int32} {n : Nat} (h : ∀ k, k < n → f k = g k) : n_max f n = n_max g n := by
  induction n with
  | zero => rfl
  | succ n ih => simp only [n_max, ih (fun k hk => h k (Nat.lt_succ_of_lt hk)), h n (Nat.lt_succ_self n)]
/-- the sign of a number, by its top bit -/
theorem kq_neg (x : Int32) : x < 0 ↔ x.toBitVec.msb = true := by
  rw [BitVec.msb_eq_toInt, decide_eq_true_iff, Int32.lt_iff_toInt_lt]
  rfl
theorem kq_fdiv (x : Int32) {d : Nat} (h0 : 0 < d) (hd : d < 2 ^ 31) : (if (x ^^^ nI d) < 0 ∧ ¬ x / nI d * nI d = x then x / nI d - 1 else x / nI d) = n_div x (nI d) := by
  have hs : (x ^^^ nI d) < 0 ↔ x < 0 := by
    rw [kq_neg, kq_neg, Int32.toBitVec_xor, BitVec.msb_xor]
    have : (nI d).toBitVec.msb = false := by
      have h := nI_pos hd
      rw [kq_neg] at h
      simpa using h
    rw [this, Bool.xor_false]
  have hr : (x - x / nI d * nI d).toInt = x.toInt.tmod d := by
    rw [Int32.toInt_sub, Int32.toInt_mul, Int32.toInt_div, nI_toInt hd, Int.bmod_mul_bmod, Int.sub_bmod_bmod, show x.toInt - x.toInt.tdiv d * d = x.toInt.tmod d by rw [Int.tmod_def, Int.mul_comm]]
    have h1 := Int.tmod_lt_of_pos x.toInt (b := (d : Int)) (by omega)
    have h2 := Int.lt_tmod_of_pos x.toInt (b := (d : Int)) (by omega)
    exact Int.bmod_eq_of_le_mul_two (by omega) (by omega)
  have hlt : x - x / nI d * nI d < 0 ↔ (x < 0 ∧ ¬ x / nI d * nI d = x) := by
    have e0 : (x / nI d * nI d = x) ↔ (x - x / nI d * nI d = 0) := by grind
    rw [e0, Int32.lt_iff_toInt_lt, Int32.lt_iff_toInt_lt, ← Int32.toInt_inj, hr]
    show x.toInt.tmod d < 0 ↔ x.toInt < 0 ∧ ¬ x.toInt.tmod d = 0
    constructor
    · intro h
      refine ⟨?_, by omega⟩
      rcases (show x.toInt < 0 ∨ 0 ≤ x.toInt by omega) with q | q
      · exact q
      · have := Int.tmod_nonneg (a := x.toInt) d q; omega
    · rintro ⟨h, h1⟩
      have : x.toInt.tmod d ≤ 0 := by
        have h2 := Int.tmod_nonneg (a := - x.toInt) d (by omega)
        rw [Int.neg_tmod] at h2; omega
      omega
  unfold n_div
  by_cases hc : x - x / nI d * nI d < 0
  · rw [if_pos hc, if_pos ⟨hs.mpr (hlt.mp hc).1, (hlt.mp hc).2⟩]
  · rw [if_neg hc, if_neg (fun q => hc (hlt.mpr ⟨hs.mp q.1, q.2⟩))]
