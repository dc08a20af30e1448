/-! What the reference sums up, beside what the class sums up. -/
noncomputable def n_go (v : Nat → Int32) (n : Nat) : Int32 := n_sum (fun f => if 0 < n_f v f 2 then n_gd v f n else 0) 4
def n_ik2 (v : Nat → Int32) : Int32 := n_sum (fun k => if v (294 + k) = 0 then 0 else 1) 72
theorem n_ik_eq (v : Nat → Int32) : n_ik v = n_ik2 v := by
  have h : n_ik v = n_sum (fun y => n_sum (fun x => if v (294 + (y * 12 + x)) = 0 then 0 else 1) 12) 6 := by
    rw [n_ik, n_iv_m 6 (Nat.le_refl _)]
    refine n_sum_c (fun y hy => ?_)
    rw [if_pos ⟨Nat.zero_le _, hy⟩, n_iv_m 12 (Nat.le_refl _)]
    exact n_sum_c (fun x hx => if_pos ⟨Nat.zero_le _, hx⟩)
  rw [h, n_sum_2 (g := fun y x => if v (294 + (y * 12 + x)) = 0 then 0 else 1) (by decide) 6, n_ik2]
  exact n_sum_c (fun k hk => by rw [show k / 12 * 12 + k % 12 = k by omega])
theorem n_go_1 (v : Nat → Int32) : n_go v 1 = n_hg v 0 := by
  rw [n_go, n_hg]
  refine n_sum_c (fun f _ => ?_)
  by_cases h1 : 0 < n_f v f 2
  · rw [if_pos h1, n_gd]
    by_cases h2 : n_hid v f = true
    · rw [if_pos h2]
      by_cases h3 : n_seen v f 0 = true
      · rw [if_pos ⟨h1, h2, h3⟩]; simp [n_sum, h3]
      · rw [if_neg (fun q => h3 q.2.2)]; simp [n_sum, h3]
    · rw [if_neg h2, if_neg (fun q => h2 q.2.1)]
  · rw [if_neg h1, if_neg (fun q => h1 q.1)]
theorem n_go_s (v : Nat → Int32) : ∀ n, n_go v n = n_sum (fun k => n_hg v k) n
  | 0 => by
    rw [n_go, n_sum_z (fun f _ => by rw [n_gd]; simp [n_sum])]; rfl
  | n + 1 => by
    rw [n_sum, ← n_go_s v n, n_go, n_go, n_hg, ← n_sum_add]
    refine n_sum_c (fun f _ => ?_)
    by_cases h1 : 0 < n_f v f 2
    · rw [if_pos h1, if_pos h1, n_gd, n_gd]
      by_cases h2 : n_hid v f = true
      · rw [if_pos h2, if_pos h2, n_sum]
        congr 1
        by_cases h3 : n_seen v f n = true
        · rw [if_pos h3, if_pos ⟨h1, h2, h3⟩]
        · rw [if_neg h3, if_neg (fun q => h3 q.2.2)]
      · rw [if_neg h2, if_neg h2, if_neg (fun q => h2 q.2.1)]; rfl
    · rw [if_neg h1, if_neg h1, if_neg (fun q => h1 q.1)]; rfl
