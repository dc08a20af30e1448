/-! The reference's reading of the buffer. -/
def n_vl (k : Nat) (x : Int32) : Int32 := if k = 2 then x - 97 else if k = 3 then (if x = 45 then -1 else 1) else x - 48
def n_gq (k : Nat) : Nat := if k = 5 then 6 else k
def n_sc (q : Nat) (x : Int32) : Nat := if (q = 5 ∨ q = 7) ∧ x = 59 then 1 else 0
def n_pu (pt : Nat → Int32) (y q : Nat) (x : Int32) : Nat → Int32 :=
  if q = 5 ∨ q = 7 then pt else if q = 4 then upd (upd pt (6 * y + 4) (x - 48)) (6 * y + 5) 1 else if q = 6 then upd pt (6 * y + 5) (x - 48) else upd pt (6 * y + q) (n_vl q x)
/-- where a part begins -/
def n_ps (cd : Nat → Int32) : Nat → Nat
  | 0 => 0
  | k + 1 => n_ps cd k + (if cd (n_ps cd k + 5) = 42 then 8 else 6)
/-- the part that is being read: a its beginning, q characters of it read -/
def n_pp (cd pt : Nat → Int32) (y a q : Nat) : Prop :=
  (0 < q → pt (6 * y) = cd a - 48) ∧ (1 < q → pt (6 * y + 1) = cd (a + 1) - 48) ∧ (2 < q → pt (6 * y + 2) = cd (a + 2) - 97) ∧ (3 < q → pt (6 * y + 3) = if cd (a + 3) = 45 then -1 else 1) ∧ (4 < q → pt (6 * y + 4) = cd (a + 4) - 48) ∧ (4 < q → q < 7 → pt (6 * y + 5) = 1) ∧ (5 < q → cd (a + 5) = 42) ∧ (q = 7 → pt (6 * y + 5) = cd (a + 6) - 48)
/-- a part that has been read -/
def n_pe (cd pt : Nat → Int32) (i : Nat) : Prop :=
  pt (6 * i) = cd (n_ps cd i) - 48 ∧ pt (6 * i + 1) = cd (n_ps cd i + 1) - 48 ∧ pt (6 * i + 2) = cd (n_ps cd i + 2) - 97 ∧ pt (6 * i + 3) = (if cd (n_ps cd i + 3) = 45 then -1 else 1) ∧ pt (6 * i + 4) = cd (n_ps cd i + 4) - 48 ∧ pt (6 * i + 5) = if cd (n_ps cd i + 5) = 42 then cd (n_ps cd i + 6) - 48 else 1
def n_PP (cd pt : Nat → Int32) (y k : Nat) : Prop := n_ps cd y + n_q cd k = k ∧ n_pp cd pt y (n_ps cd y) (n_q cd k) ∧ ∀ i, i < y → n_pe cd pt i
theorem n_ps_6 {cd : Nat → Int32} : ∀ k, 6 * k ≤ n_ps cd k
  | 0 => Nat.le_refl _
  | k + 1 => by
    have := n_ps_6 (cd := cd) k
    unfold n_ps
    split <;> omega
theorem n_pp_0 {cd pt : Nat → Int32} {y a : Nat} : n_pp cd pt y a 0 := ⟨fun h => absurd h (by decide), fun h => absurd h (by decide), fun h => absurd h (by decide), fun h => absurd h (by decide), fun h => absurd h (by decide), fun h => absurd h (by decide), fun h => absurd h (by decide), fun h => absurd h (by decide)⟩
theorem n_PP_0 {cd pt : Nat → Int32} : n_PP cd pt 0 0 := ⟨rfl, n_pp_0, fun i hi => absurd hi (Nat.not_lt_zero _)⟩
theorem n_pe_as {cd pt p2 : Nat → Int32} {i y : Nat} (h : n_pe cd pt i) (hi : i < y) (e : ∀ j, j < 6 * y → p2 j = pt j) : n_pe cd p2 i := by
  obtain ⟨h0, h1, h2, h3, h4, h5⟩ := h
  refine ⟨?_, ?_, ?_, ?_, ?_, ?_⟩
  · rw [e _ (by omega)]; exact h0
  · rw [e _ (by omega)]; exact h1
  · rw [e _ (by omega)]; exact h2
  · rw [e _ (by omega)]; exact h3
  · rw [e _ (by omega)]; exact h4
  · rw [e _ (by omega)]; exact h5
theorem n_nx_8 {q : Nat} {x : Int32} (h : ¬ n_nx q x = 8) (hq : q < 8) : (q < 5 → n_nx q x = q + 1) ∧ (q = 5 → (x = 42 ∧ n_nx q x = 6) ∨ (¬ x = 42 ∧ x = 59 ∧ n_nx q x = 0)) ∧ (q = 6 → n_nx q x = 7) ∧ (q = 7 → x = 59 ∧ n_nx q x = 0) := by
  rcases (show q = 0 ∨ q = 1 ∨ q = 2 ∨ q = 3 ∨ q = 4 ∨ q = 5 ∨ q = 6 ∨ q = 7 by omega) with rfl | rfl | rfl | rfl | rfl | rfl | rfl | rfl <;> simp only [n_nx] at h ⊢ <;> (repeat' split at h) <;> simp_all
/-- one character more -/
theorem n_PP_s {cd pt : Nat → Int32} {y k : Nat} (h : n_PP cd pt y k) (hk : n_q cd k < 8) (h8 : ¬ n_nx (n_q cd k) (cd k) = 8) : n_PP cd (n_pu pt y (n_q cd k) (cd k)) (y + n_sc (n_q cd k) (cd k)) (k + 1) := by
  obtain ⟨e1, hp, he⟩ := h
  obtain ⟨s0, s5, s6, s7⟩ := n_nx_8 h8 hk
  have ek : n_q cd (k + 1) = n_nx (n_q cd k) (cd k) := rfl
  generalize hq : n_q cd k = q at *
  generalize ha : n_ps cd y = a at *
  obtain ⟨p0, p1, p2, p3, p4, p5, p6, p7⟩ := hp
  have hka : cd k = cd (a + q) := congrArg cd e1.symm
  by_cases c57 : q = 5 ∨ q = 7
  · -- a part ends, or a star stands
    have hpu : n_pu pt y q (cd k) = pt := if_pos c57
    rw [hpu]
    by_cases c59 : cd k = 59
    · have hsc : n_sc q (cd k) = 1 := if_pos ⟨c57, c59⟩
      have hz : n_q cd (k + 1) = 0 := by
        rw [ek]
        rcases c57 with z | z
        · rcases s5 z with w | w
          · rw [w.1] at c59; exact absurd c59 (by decide)
          · exact w.2.2
        · exact (s7 z).2
      have h42 : (cd (a + 5) = 42 ↔ q = 7) := by
        rcases c57 with z | z
        · rw [z] at hka
          constructor
          · intro w; rw [← hka, c59] at w; exact absurd w (by decide)
          · intro w; omega
        · exact ⟨fun _ => z, fun _ => p6 (by omega)⟩
      have hps : n_ps cd (y + 1) = k + 1 := by
        rw [n_ps, ha]
        rcases c57 with z | z
        · rw [if_neg (fun w => by have := h42.mp w; omega)]; omega
        · rw [if_pos (h42.mpr z)]; omega
      rw [hsc]
      refine ⟨by rw [hps, hz], ?_, fun i hi => ?_⟩
      · rw [hz]; exact ⟨fun h => absurd h (by decide), fun h => absurd h (by decide), fun h => absurd h (by decide), fun h => absurd h (by decide), fun h => absurd h (by decide), fun h => absurd h (by decide), fun h => absurd h (by decide), fun h => absurd h (by decide)⟩
      · rcases Nat.lt_or_ge i y with w | w
        · exact he i w
        · have hiy : i = y := by omega
          subst hiy
          refine ⟨by rw [ha]; exact p0 (by omega), by rw [ha]; exact p1 (by omega), by rw [ha]; exact p2 (by omega), by rw [ha]; exact p3 (by omega), by rw [ha]; exact p4 (by omega), ?_⟩
          rw [ha]
          rcases c57 with z | z
          · rw [if_neg (fun w => by have := h42.mp w; omega)]; exact p5 (by omega) (by omega)
          · rw [if_pos (h42.mpr z)]; exact p7 z
    · have hsc : n_sc q (cd k) = 0 := if_neg (fun w => c59 w.2)
      have hq5 : q = 5 := by
        rcases c57 with z | z
        · exact z
        · exact absurd (s7 z).1 c59
      have hz : cd k = 42 ∧ n_q cd (k + 1) = 6 := by
        rw [ek]
        rcases s5 hq5 with w | w
        · exact w
        · exact absurd w.2.1 c59
      rw [hsc, Nat.add_zero]
      refine ⟨by rw [ha, hz.2]; omega, ?_, he⟩
      rw [ha, hz.2]
      refine ⟨fun _ => p0 (by omega), fun _ => p1 (by omega), fun _ => p2 (by omega), fun _ => p3 (by omega), fun _ => p4 (by omega), fun _ _ => p5 (by omega) (by omega), fun _ => ?_, fun w => by omega⟩
      rw [← hz.1, hka, hq5]
  · have hsc : n_sc q (cd k) = 0 := if_neg (fun w => c57 w.1)
    rw [hsc, Nat.add_zero]
    have hnq : n_q cd (k + 1) = q + 1 := by
      rw [ek]
      rcases Nat.lt_or_ge q 5 with z | z
      · exact s0 z
      · rw [s6 (by omega)]; omega
    have hlow : ∀ j, j < 6 * y → n_pu pt y q (cd k) j = pt j := by
      intro j hj
      rw [n_pu, if_neg c57]
      split
      · rw [pk_un (by omega), pk_un (by omega)]
      · split
        · rw [pk_un (by omega)]
        · rw [pk_un (by omega)]
    refine ⟨by rw [ha, hnq]; omega, ?_, fun i hi => n_pe_as (he i hi) hi hlow⟩
    rw [ha, hnq]
    rcases (show q = 0 ∨ q = 1 ∨ q = 2 ∨ q = 3 ∨ q = 4 ∨ q = 6 by omega) with z | z | z | z | z | z
    · subst z
      have hu : n_pu pt y 0 (cd k) = upd pt (6 * y + 0) (cd k - 48) := rfl
      rw [hu]
      exact ⟨fun _ => by rw [hka]; exact pk_us, fun w => by omega, fun w => by omega, fun w => by omega, fun w => by omega, fun w => by omega, fun w => by omega, fun w => by omega⟩
    · subst z
      have hu : n_pu pt y 1 (cd k) = upd pt (6 * y + 1) (cd k - 48) := rfl
      rw [hu]
      exact ⟨fun _ => by rw [pk_un (by omega)]; exact p0 (by omega), fun _ => by rw [hka]; exact pk_us, fun w => by omega, fun w => by omega, fun w => by omega, fun w => by omega, fun w => by omega, fun w => by omega⟩
    · subst z
      have hu : n_pu pt y 2 (cd k) = upd pt (6 * y + 2) (cd k - 97) := rfl
      rw [hu]
      exact ⟨fun _ => by rw [pk_un (by omega)]; exact p0 (by omega), fun _ => by rw [pk_un (by omega)]; exact p1 (by omega), fun _ => by rw [hka]; exact pk_us, fun w => by omega, fun w => by omega, fun w => by omega, fun w => by omega, fun w => by omega⟩
    · subst z
      have hu : n_pu pt y 3 (cd k) = upd pt (6 * y + 3) (if cd k = 45 then -1 else 1) := rfl
      rw [hu]
      exact ⟨fun _ => by rw [pk_un (by omega)]; exact p0 (by omega), fun _ => by rw [pk_un (by omega)]; exact p1 (by omega), fun _ => by rw [pk_un (by omega)]; exact p2 (by omega), fun _ => by rw [hka]; exact pk_us, fun w => by omega, fun w => by omega, fun w => by omega, fun w => by omega⟩
    · subst z
      have hu : n_pu pt y 4 (cd k) = upd (upd pt (6 * y + 4) (cd k - 48)) (6 * y + 5) 1 := rfl
      rw [hu]
      exact ⟨fun _ => by rw [pk_un (by omega), pk_un (by omega)]; exact p0 (by omega), fun _ => by rw [pk_un (by omega), pk_un (by omega)]; exact p1 (by omega), fun _ => by rw [pk_un (by omega), pk_un (by omega)]; exact p2 (by omega), fun _ => by rw [pk_un (by omega), pk_un (by omega)]; exact p3 (by omega), fun _ => by rw [pk_un (by omega), hka]; exact pk_us, fun _ _ => pk_us, fun w => by omega, fun w => by omega⟩
    · subst z
      have hu : n_pu pt y 6 (cd k) = upd pt (6 * y + 5) (cd k - 48) := rfl
      rw [hu]
      exact ⟨fun _ => by rw [pk_un (by omega)]; exact p0 (by omega), fun _ => by rw [pk_un (by omega)]; exact p1 (by omega), fun _ => by rw [pk_un (by omega)]; exact p2 (by omega), fun _ => by rw [pk_un (by omega)]; exact p3 (by omega), fun _ => by rw [pk_un (by omega)]; exact p4 (by omega), fun _ w => by omega, fun _ => p6 (by omega), fun _ => by rw [hka]; exact pk_us⟩
theorem n_fe_lt {cd : Nat → Int32} {n : Nat} (h : n_q cd n = 8) : n_fe cd n < n := by
  induction n with
  | zero =>
    have h0 : n_q cd 0 = 0 := rfl
    omega
  | succ n ih =>
    rw [n_fe]
    rw [if_neg (fun z => z.2 h)]
    rcases Classical.em (n_q cd n = 8) with q | q
    · exact Nat.lt_succ_of_lt (ih q)
    · rw [n_fe_all q]; exact Nat.lt_succ_self n
