/-! The buffer, read as wires: the state behind a character; 8: an error. -/
def n_nx (q : Nat) (x : Int32) : Nat :=
  match q with
  | 0 => if 48 ≤ x ∧ x ≤ 50 then 1 else 8
  | 1 => if 48 ≤ x ∧ x ≤ 53 then 2 else 8
  | 2 => if 97 ≤ x ∧ x ≤ 112 then 3 else 8
  | 3 => if x = 43 ∨ x = 45 then 4 else 8
  | 4 => if 48 ≤ x ∧ x ≤ 51 then 5 else 8
  | 5 => if x = 42 then 6 else if x = 59 then 0 else 8
  | 6 => if 50 ≤ x ∧ x ≤ 57 then 7 else 8
  | 7 => if x = 59 then 0 else 8
  | _ => 8
def n_rt (t : Nat) : Int32 := if t = 8 then -1 else nI t
def n_q (cd : Nat → Int32) : Nat → Nat
  | 0 => 0
  | k + 1 => n_nx (n_q cd k) (cd k)
/-- how long the good beginning is -/
def n_fe (cd : Nat → Int32) : Nat → Nat
  | 0 => 0
  | k + 1 => if n_fe cd k = k ∧ ¬ n_q cd (k + 1) = 8 then k + 1 else n_fe cd k
theorem n_nx_le {q : Nat} {x : Int32} : n_nx q x ≤ 8 := by
  unfold n_nx
  split <;> (repeat' split) <;> omega
theorem n_q_le {cd : Nat → Int32} {k : Nat} : n_q cd k ≤ 8 := by
  cases k with
  | zero => exact Nat.zero_le _
  | succ k => exact n_nx_le
theorem n_q_8 {cd : Nat → Int32} {k : Nat} (h : n_q cd k = 8) {n : Nat} (hn : k ≤ n) : n_q cd n = 8 := by
  induction n with
  | zero => rw [show k = 0 by omega] at h; exact h
  | succ n ih =>
    rcases Nat.lt_or_ge n k with q | q
    · rw [show n + 1 = k by omega]; exact h
    · rw [n_q, ih q]; rfl
theorem n_q_lt {cd : Nat → Int32} {k n : Nat} (h : ¬ n_q cd n = 8) (hk : k ≤ n) : n_q cd k < 8 := by
  have h1 : ¬ n_q cd k = 8 := fun q => h (n_q_8 q hk)
  have h2 := n_q_le (cd := cd) (k := k)
  omega
theorem n_rt_n {t : Nat} (h : ¬ t = 8) : n_rt t = nI t := if_neg h
theorem n_rt_m {t : Nat} (h : t ≤ 8) : n_rt t = -1 ↔ t = 8 := by
  unfold n_rt
  split
  · exact ⟨fun _ => by assumption, fun _ => rfl⟩
  · rename_i h8
    refine ⟨fun q => ?_, fun q => absurd q h8⟩
    rcases (show t = 0 ∨ t = 1 ∨ t = 2 ∨ t = 3 ∨ t = 4 ∨ t = 5 ∨ t = 6 ∨ t = 7 by omega) with rfl | rfl | rfl | rfl | rfl | rfl | rfl | rfl <;> exact absurd q (by decide)
theorem n_fe_all {cd : Nat → Int32} {k : Nat} (h : ¬ n_q cd k = 8) : n_fe cd k = k := by
  induction k with
  | zero => rfl
  | succ k ih =>
    have h1 : ¬ n_q cd k = 8 := fun q => h (n_q_8 q (Nat.le_succ k))
    rw [n_fe, if_pos ⟨ih h1, h⟩]
theorem n_fe_at {cd : Nat → Int32} {k n : Nat} (h : ¬ n_q cd k = 8) (h8 : n_q cd (k + 1) = 8) (hn : k < n) : n_fe cd n = k := by
  induction n with
  | zero => omega
  | succ n ih =>
    rcases Nat.lt_or_ge k n with q | q
    · rw [n_fe, if_neg (by rw [ih q]; omega)]; exact ih q
    · rw [show n = k by omega, n_fe, if_neg (fun z => z.2 h8)]; exact n_fe_all h
/-- a part of the text done -/
def n_bp (v : Nat → Int32) (r i j t : Nat) (w : Int32) : Nat → Int32 := fun k => if (r * 6 + i) * 16 + j ≤ k ∧ k < (r * 6 + i) * 16 + min (j + t) 16 then w else v k
/-- what the characters of a part say -/
def n_dg (cd : Nat → Int32) (a : Nat) : Nat := (cd a - 48).toNatClampNeg
def n_dl (cd : Nat → Int32) (a : Nat) : Nat := (cd a - 97).toNatClampNeg
def n_dw (cd : Nat → Int32) (a : Nat) : Int32 := if cd (a + 3) = 45 then 0 - (cd (a + 4) - 48) else cd (a + 4) - 48
/-- the character there, 0 behind the end -/
def n_at (cd : Nat → Int32) (n k : Nat) : Int32 := if k < n then cd k else 0
def n_dt (cd : Nat → Int32) (n a : Nat) : Nat := if n_at cd n (a + 5) = 42 then n_dg cd (a + 6) else 1
/-- all parts from a place on done -/
def n_bw (cd : Nat → Int32) (n : Nat) : Nat → Nat → (Nat → Int32) → (Nat → Int32)
  | 0, _, v => v
  | k + 1, a, v => if a < n then n_bw cd n k (a + (if n_at cd n (a + 5) = 42 then 8 else 6)) (n_bp v (n_dg cd a) (n_dg cd (a + 1)) (n_dl cd (a + 2)) (n_dt cd n a) (n_dw cd a)) else v
theorem n_dig {x : Int32} {b d : Nat} (h0 : nI b ≤ x) (h1 : x ≤ nI (b + d)) (hb : b + d < 2 ^ 30) : x - nI b = nI (x - nI b).toNatClampNeg ∧ (x - nI b).toNatClampNeg ≤ d := by
  have e0 := nI_toInt (n := b) (by omega)
  have e1 := nI_toInt (n := b + d) (by omega)
  rw [Int32.le_iff_toInt_le, e0] at h0
  rw [Int32.le_iff_toInt_le, e1] at h1
  obtain ⟨z, hz⟩ : ∃ z : Nat, x.toInt = (b : Int) + z := ⟨(x.toInt - b).toNat, by omega⟩
  have hx : x = nI (b + z) := by
    rw [← Int32.toInt_inj, nI_toInt (by omega), hz]; push_cast; rfl
  have e : x - nI b = nI z := by
    rw [hx, pk_sub (a := b + z) (b := b) (by omega), Nat.add_sub_cancel_left]
  rw [e, nI_clamp (by omega)]
  exact ⟨rfl, by omega⟩
/-- what a part of a whole text is -/
theorem n_part {cd : Nat → Int32} {n a : Nat} (hn : n_q cd n = 5 ∨ n_q cd n = 7) (ha : a < n) (h0 : n_q cd a = 0) :
    a + 5 ≤ n ∧ (cd a - 48 = nI (n_dg cd a) ∧ n_dg cd a ≤ 2) ∧ (cd (a + 1) - 48 = nI (n_dg cd (a + 1)) ∧ n_dg cd (a + 1) ≤ 5) ∧ (cd (a + 2) - 97 = nI (n_dl cd (a + 2)) ∧ n_dl cd (a + 2) ≤ 15) ∧ n_q cd (a + 5) = 5 := by
  have h8 : ¬ n_q cd n = 8 := by omega
  have s0 : n_q cd (a + 1) = if 48 ≤ cd a ∧ cd a ≤ 50 then 1 else 8 := by rw [n_q, h0]; rfl
  have l1 := n_q_lt h8 (show a + 1 ≤ n by omega)
  have d0 : 48 ≤ cd a ∧ cd a ≤ 50 := by
    rcases Classical.em (48 ≤ cd a ∧ cd a ≤ 50) with q | q
    · exact q
    · rw [if_neg q] at s0; omega
  rw [if_pos d0] at s0
  have n1 : a + 1 < n := by
    rcases Nat.lt_or_ge (a + 1) n with q | q
    · exact q
    · rw [show n = a + 1 by omega, s0] at hn; omega
  have s1 : n_q cd (a + 2) = if 48 ≤ cd (a + 1) ∧ cd (a + 1) ≤ 53 then 2 else 8 := by rw [n_q, s0]; rfl
  have l2 := n_q_lt h8 (show a + 2 ≤ n by omega)
  have d1 : 48 ≤ cd (a + 1) ∧ cd (a + 1) ≤ 53 := by
    rcases Classical.em (48 ≤ cd (a + 1) ∧ cd (a + 1) ≤ 53) with q | q
    · exact q
    · rw [if_neg q] at s1; omega
  rw [if_pos d1] at s1
  have n2 : a + 2 < n := by
    rcases Nat.lt_or_ge (a + 2) n with q | q
    · exact q
    · rw [show n = a + 2 by omega, s1] at hn; omega
  have s2 : n_q cd (a + 3) = if 97 ≤ cd (a + 2) ∧ cd (a + 2) ≤ 112 then 3 else 8 := by rw [n_q, s1]; rfl
  have l3 := n_q_lt h8 (show a + 3 ≤ n by omega)
  have d2 : 97 ≤ cd (a + 2) ∧ cd (a + 2) ≤ 112 := by
    rcases Classical.em (97 ≤ cd (a + 2) ∧ cd (a + 2) ≤ 112) with q | q
    · exact q
    · rw [if_neg q] at s2; omega
  rw [if_pos d2] at s2
  have n3 : a + 3 < n := by
    rcases Nat.lt_or_ge (a + 3) n with q | q
    · exact q
    · rw [show n = a + 3 by omega, s2] at hn; omega
  have s3 : n_q cd (a + 4) = if cd (a + 3) = 43 ∨ cd (a + 3) = 45 then 4 else 8 := by rw [n_q, s2]; rfl
  have l4 := n_q_lt h8 (show a + 4 ≤ n by omega)
  have d3 : cd (a + 3) = 43 ∨ cd (a + 3) = 45 := by
    rcases Classical.em (cd (a + 3) = 43 ∨ cd (a + 3) = 45) with q | q
    · exact q
    · rw [if_neg q] at s3; omega
  rw [if_pos d3] at s3
  have n4 : a + 4 < n := by
    rcases Nat.lt_or_ge (a + 4) n with q | q
    · exact q
    · rw [show n = a + 4 by omega, s3] at hn; omega
  have s4 : n_q cd (a + 5) = if 48 ≤ cd (a + 4) ∧ cd (a + 4) ≤ 51 then 5 else 8 := by rw [n_q, s3]; rfl
  have l5 := n_q_lt h8 (show a + 5 ≤ n by omega)
  have d4 : 48 ≤ cd (a + 4) ∧ cd (a + 4) ≤ 51 := by
    rcases Classical.em (48 ≤ cd (a + 4) ∧ cd (a + 4) ≤ 51) with q | q
    · exact q
    · rw [if_neg q] at s4; omega
  rw [if_pos d4] at s4
  exact ⟨by omega, n_dig (b := 48) (d := 2) d0.1 d0.2 (by decide), n_dig (b := 48) (d := 5) d1.1 d1.2 (by decide), n_dig (b := 97) (d := 15) d2.1 d2.2 (by decide), s4⟩
/-- .. and what stands behind it -/
theorem n_part2 {cd : Nat → Int32} {n a : Nat} (hn : n_q cd n = 5 ∨ n_q cd n = 7) (h5 : n_q cd (a + 5) = 5) (ha : a + 5 ≤ n) :
    (n_at cd n (a + 5) = 42 → a + 7 ≤ n ∧ cd (a + 6) - 48 = nI (n_dg cd (a + 6)) ∧ n_dg cd (a + 6) ≤ 9 ∧ 2 ≤ n_dg cd (a + 6) ∧ n_q cd (a + 6) = 6 ∧ n_q cd (a + 7) = 7 ∧ (a + 7 < n → n_q cd (a + 8) = 0)) ∧
    (¬ n_at cd n (a + 5) = 42 → a + 5 < n → n_q cd (a + 6) = 0) := by
  have h8 : ¬ n_q cd n = 8 := by omega
  refine ⟨fun hs => ?_, fun hs hl => ?_⟩
  · have hl : a + 5 < n := by
      rcases Nat.lt_or_ge (a + 5) n with q | q
      · exact q
      · rw [n_at, if_neg (by omega)] at hs; exact absurd hs (by decide)
    rw [n_at, if_pos hl] at hs
    have s6 : n_q cd (a + 6) = 6 := by rw [n_q, h5, hs]; rfl
    have n6 : a + 6 < n := by
      rcases Nat.lt_or_ge (a + 6) n with q | q
      · exact q
      · rw [show n = a + 6 by omega, s6] at hn; omega
    have s7 : n_q cd (a + 7) = if 50 ≤ cd (a + 6) ∧ cd (a + 6) ≤ 57 then 7 else 8 := by rw [n_q, s6]; rfl
    have l7 := n_q_lt h8 (show a + 7 ≤ n by omega)
    have d6 : 50 ≤ cd (a + 6) ∧ cd (a + 6) ≤ 57 := by
      rcases Classical.em (50 ≤ cd (a + 6) ∧ cd (a + 6) ≤ 57) with q | q
      · exact q
      · rw [if_neg q] at s7; omega
    rw [if_pos d6] at s7
    have e := n_dig (b := 48) (d := 9) (x := cd (a + 6)) (show (48 : Int32) ≤ cd (a + 6) by grind) d6.2 (by decide)
    have e2 := n_dig (b := 50) (d := 7) (x := cd (a + 6)) d6.1 d6.2 (by decide)
    refine ⟨by omega, e.1, e.2, ?_, s6, s7, fun q => ?_⟩
    · have e3 : cd (a + 6) - 48 = (cd (a + 6) - 50) + 2 := by grind
      obtain ⟨k2, hk2⟩ : ∃ k2 : Nat, k2 = (cd (a + 6) - nI 50).toNatClampNeg := ⟨_, rfl⟩
      have e2a : cd (a + 6) - 50 = nI k2 := by rw [hk2]; exact e2.1
      have e4 : (cd (a + 6) - 48).toNatClampNeg = k2 + 2 := by
        rw [e3, e2a, show nI k2 + 2 = nI (k2 + 2) from nI_add k2 2, nI_clamp (by omega)]
      show 2 ≤ (cd (a + 6) - 48).toNatClampNeg
      omega
    · have s8 : n_q cd (a + 8) = if cd (a + 7) = 59 then 0 else 8 := by rw [n_q, s7]; rfl
      have l8 := n_q_lt h8 (show a + 8 ≤ n by omega)
      split at s8
      · exact s8
      · omega
  · rw [n_at, if_pos hl] at hs
    have s6 : n_q cd (a + 6) = if cd (a + 5) = 42 then 6 else if cd (a + 5) = 59 then 0 else 8 := by rw [n_q, h5]; rfl
    have l6 := n_q_lt h8 (show a + 6 ≤ n by omega)
    rw [if_neg hs] at s6
    split at s6
    · exact s6
    · omega
theorem n_cmp {cd : Nat → Int32} {k n : Nat} (hk : k ≤ n) (hx : k = n ∨ n_q cd k = 8) (t : Nat) (ht : t < 8) : n_rt (n_q cd k) = nI t ↔ n_q cd n = t := by
  rcases hx with rfl | h8
  · have h := n_q_le (cd := cd) (k := k)
    rcases Classical.em (n_q cd k = 8) with q | q
    · rw [q]
      refine ⟨fun z => ?_, fun z => by omega⟩
      have z2 : nI t = -1 := z.symm
      have := nI_pos (n := t) (by omega)
      rw [z2] at this
      exact absurd (by decide) this
    · rw [n_rt_n q]
      exact nI_eq (by omega) (by omega)
  · have h9 := n_q_8 h8 hk
    rw [h8, h9]
    refine ⟨fun z => ?_, fun z => by omega⟩
    have z2 : nI t = -1 := z.symm
    have := nI_pos (n := t) (by omega)
    rw [z2] at this
    exact absurd (by decide) this
