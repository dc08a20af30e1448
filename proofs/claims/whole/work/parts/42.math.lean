/-! The reference's bending, part by part. -/
def n_bpZ (z : Nat → Int32) (r i j t : Nat) (w : Int32) : Nat → Int32 := fun k => if 9 + (6 * r + i) * 16 + j ≤ k ∧ k < 9 + (6 * r + i) * 16 + min (j + t) 16 then w else z k
theorem n_Z_bp {v z : Nat → Int32} (hz : n_Z v z) {r i j t : Nat} {w : Int32} (hr : r < 3) (hi : i < 6) : n_Z (n_bp v r i j t w) (n_bpZ z r i j t w) := by
  obtain ⟨h0, h1, h2, h3, h4, h5⟩ := hz
  refine ⟨fun j hj => ?_, fun q hq => ?_, fun q hq => ?_, fun k hk => ?_, fun j hj => ?_, fun f hf => ⟨?_, fun j hj => ?_⟩⟩
  · rw [n_bpZ, n_bp, if_neg (by omega), if_neg (by omega)]; exact h0 j hj
  · rw [n_bpZ, n_bp, if_neg (by omega), if_neg (by omega)]; exact h1 q hq
  · rw [n_bpZ, n_bp, if_neg (by omega), if_neg (by omega)]; exact h2 q hq
  · by_cases q : (r * 6 + i) * 16 + j ≤ k ∧ k < (r * 6 + i) * 16 + min (j + t) 16
    · rw [n_bpZ, n_bp, if_pos (by omega), if_pos q]
    · rw [n_bpZ, n_bp, if_neg (by omega), if_neg q]; exact h3 k hk
  · rw [n_bpZ, n_bp, if_neg (by omega), if_neg (by omega)]; exact h4 j hj
  · rw [n_bpZ, if_neg (by omega), n_f_as (by rw [n_bp, if_neg (by omega)])]; exact (h5 f hf).1
  · rw [n_bpZ, n_bp, if_neg (by omega), if_neg (by omega)]; exact (h5 f hf).2 j hj
/-- the first k parts done -/
def n_bq (cd : Nat → Int32) (n : Nat) : Nat → (Nat → Int32) → (Nat → Int32)
  | 0, v => v
  | k + 1, v => n_bp (n_bq cd n k v) (n_dg cd (n_ps cd k)) (n_dg cd (n_ps cd k + 1)) (n_dl cd (n_ps cd k + 2)) (n_dt cd n (n_ps cd k)) (n_dw cd (n_ps cd k))
theorem n_ps_m {cd : Nat → Int32} {i : Nat} : ∀ {y : Nat}, i ≤ y → n_ps cd i ≤ n_ps cd y
  | 0, h => by rw [show i = 0 by omega]; exact Nat.le_refl _
  | y + 1, h => by
    rcases Nat.lt_or_ge y i with q | q
    · rw [show i = y + 1 by omega]; exact Nat.le_refl _
    · have := n_ps_m (cd := cd) q
      have e : n_ps cd (y + 1) = n_ps cd y + (if cd (n_ps cd y + 5) = 42 then 8 else 6) := rfl
      rw [e]; omega
theorem n_ps_s {cd : Nat → Int32} (i : Nat) : n_ps cd i + 6 ≤ n_ps cd (i + 1) := by
  have e : n_ps cd (i + 1) = n_ps cd i + (if cd (n_ps cd i + 5) = 42 then 8 else 6) := rfl
  rw [e]; split <;> omega
theorem n_PP_q {cd pt : Nat → Int32} {y n : Nat} (h : n_PP cd pt y n) (hn : n_q cd n = 5 ∨ n_q cd n = 7) : ∀ i, i ≤ y → n_ps cd i < n ∧ n_q cd (n_ps cd i) = 0
  | 0, _ => by
    refine ⟨?_, rfl⟩
    have e0 : n_q cd 0 = 0 := rfl
    have e1 : n_ps cd 0 = 0 := rfl
    rw [e1]
    rcases Nat.eq_zero_or_pos n with q | q
    · rw [q, e0] at hn; omega
    · exact q
  | i + 1, hi => by
    obtain ⟨l0, q0⟩ := n_PP_q h hn i (by omega)
    have hm := n_ps_m (cd := cd) hi
    have h1 := h.1
    have hs := n_ps_s (cd := cd) i
    obtain ⟨g5, _, _, _, q5⟩ := n_part hn l0 q0
    obtain ⟨g6, g7⟩ := n_part2 hn q5 g5
    have ea : n_at cd n (n_ps cd i + 5) = cd (n_ps cd i + 5) := if_pos (by omega)
    have e : n_ps cd (i + 1) = n_ps cd i + (if cd (n_ps cd i + 5) = 42 then 8 else 6) := rfl
    refine ⟨by omega, ?_⟩
    rw [e]
    split
    · rename_i q
      exact (g6 (ea.trans q)).2.2.2.2.2.2 (by rw [e, if_pos q] at hm; omega)
    · rename_i q
      exact g7 (by rw [ea]; exact q) (by omega)
/-- what the parts' numbers are -/
theorem n_PP_d {cd pt : Nat → Int32} {y n : Nat} (h : n_PP cd pt y n) (hn : n_q cd n = 5 ∨ n_q cd n = 7) {i : Nat} (hi : i ≤ y) :
    (pt (6 * i) = nI (n_dg cd (n_ps cd i)) ∧ n_dg cd (n_ps cd i) < 3) ∧ (pt (6 * i + 1) = nI (n_dg cd (n_ps cd i + 1)) ∧ n_dg cd (n_ps cd i + 1) < 6) ∧ (pt (6 * i + 2) = nI (n_dl cd (n_ps cd i + 2)) ∧ n_dl cd (n_ps cd i + 2) < 16) ∧ pt (6 * i + 3) * pt (6 * i + 4) = n_dw cd (n_ps cd i) ∧ (pt (6 * i + 5) = nI (n_dt cd n (n_ps cd i)) ∧ n_dt cd n (n_ps cd i) ≤ 9) := by
  obtain ⟨l0, q0⟩ := n_PP_q h hn i hi
  obtain ⟨h1, hp, he⟩ := h
  obtain ⟨g5, d0, d1, d2, q5⟩ := n_part hn l0 q0
  obtain ⟨g6, g7⟩ := n_part2 hn q5 g5
  have hs := n_ps_s (cd := cd) i
  have key : pt (6 * i) = cd (n_ps cd i) - 48 ∧ pt (6 * i + 1) = cd (n_ps cd i + 1) - 48 ∧ pt (6 * i + 2) = cd (n_ps cd i + 2) - 97 ∧ pt (6 * i + 3) = (if cd (n_ps cd i + 3) = 45 then -1 else 1) ∧ pt (6 * i + 4) = cd (n_ps cd i + 4) - 48 ∧ pt (6 * i + 5) = if n_at cd n (n_ps cd i + 5) = 42 then cd (n_ps cd i + 6) - 48 else 1 := by
    rcases Nat.lt_or_ge i y with q | q
    · have hm := n_ps_m (cd := cd) (show i + 1 ≤ y by omega)
      have ea : n_at cd n (n_ps cd i + 5) = cd (n_ps cd i + 5) := if_pos (by omega)
      rw [ea]
      exact he i q
    · have hiy : i = y := by omega
      subst hiy
      obtain ⟨p0, p1, p2, p3, p4, p5, p6, p7⟩ := hp
      refine ⟨p0 (by omega), p1 (by omega), p2 (by omega), p3 (by omega), p4 (by omega), ?_⟩
      rcases hn with w | w
      · have ea : n_at cd n (n_ps cd i + 5) = 0 := if_neg (by omega)
        rw [ea, if_neg (by decide)]; exact p5 (by omega) (by omega)
      · have ea : n_at cd n (n_ps cd i + 5) = cd (n_ps cd i + 5) := if_pos (by omega)
        rw [ea, if_pos (p6 (by omega))]; exact p7 w
  obtain ⟨k0, k1, k2, k3, k4, k5⟩ := key
  refine ⟨⟨k0.trans d0.1, by omega⟩, ⟨k1.trans d1.1, by omega⟩, ⟨k2.trans d2.1, by omega⟩, ?_, ?_⟩
  · rw [k3, k4, n_dw]
    split
    · grind
    · grind
  · rw [k5, n_dt]
    split
    · rename_i q
      have := g6 q
      exact ⟨this.2.1, this.2.2.1⟩
    · exact ⟨rfl, by decide⟩
theorem n_bw_bq {cd pt : Nat → Int32} {v : Nat → Int32} {y n : Nat} (h : n_PP cd pt y n) (hn : n_q cd n = 5 ∨ n_q cd n = 7) (h60 : n ≤ 60) : n_bw cd n 61 0 v = n_bq cd n (y + 1) v := by
  have hy := n_ps_6 (cd := cd) y
  have h1 := h.1
  have step : ∀ i, i ≤ y + 1 → n_bw cd n 61 0 v = n_bw cd n (61 - i) (n_ps cd i) (n_bq cd n i v) := by
    intro i
    induction i with
    | zero => intro _; rfl
    | succ i ih =>
      intro hi
      rw [ih (by omega)]
      obtain ⟨l0, q0⟩ := n_PP_q h hn i (by omega)
      have hs := n_ps_s (cd := cd) i
      obtain ⟨g5, _, _, _, q5⟩ := n_part hn l0 q0
      have e61 : 61 - i = (61 - (i + 1)) + 1 := by omega
      have e : n_ps cd (i + 1) = n_ps cd i + (if cd (n_ps cd i + 5) = 42 then 8 else 6) := rfl
      rw [e61, n_bw, if_pos l0]
      rcases Nat.lt_or_ge (n_ps cd i + 5) n with q | q
      · have ea : n_at cd n (n_ps cd i + 5) = cd (n_ps cd i + 5) := if_pos q
        rw [ea, e]; rfl
      · have ea : n_at cd n (n_ps cd i + 5) = 0 := if_neg (by omega)
        rw [ea, if_neg (by decide)]
        have e60 : ∃ m, 61 - (i + 1) = m + 1 := ⟨61 - (i + 1) - 1, by have := n_ps_6 (cd := cd) i; omega⟩
        obtain ⟨m, em⟩ := e60
        rw [em, n_bw, if_neg (by omega), n_bw, if_neg (by omega)]; rfl
  rw [step (y + 1) (Nat.le_refl _)]
  have hs := n_ps_s (cd := cd) y
  have hq : n ≤ n_ps cd (y + 1) := by
    have e : n_ps cd (y + 1) = n_ps cd y + (if cd (n_ps cd y + 5) = 42 then 8 else 6) := rfl
    rcases hn with w | w
    · omega
    · have h42 := h.2.1.2.2.2.2.2.2.1 (by omega)
      rw [e, if_pos h42]; omega
  have e60 : ∃ m, 61 - (y + 1) = m + 1 := ⟨61 - (y + 1) - 1, by omega⟩
  obtain ⟨m, em⟩ := e60
  rw [em, n_bw, if_neg (by omega)]
