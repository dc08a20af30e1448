/-! The best phase; where a rectangle stands out. -/
theorem n_f_phase {v : Nat → Int32} {a : Nat} (ha : a < 3) {x : Int32} {f j : Nat} : n_f (upd v (291 + a) x) f j = n_f v f j := by rw [n_f, n_f, pk_un (by omega)]
def n_bph (v : Nat → Int32) (a f : Nat) : Int32 := if 0 < n_f v f 2 then nI (n_bb (n_pz v a f) (n_c v a)) else -1
def n_g6 (v : Nat → Int32) (h w k : Nat) : Int32 := n_abs (n_cr v 0 (k / 12) (k % 12) h w)
def n_sm (v : Nat → Int32) (h w : Nat) : Nat → Int32
  | 0 => -1
  | k + 1 => if (k / 12 + h ≤ 6 ∧ k % 12 + w ≤ 12) ∧ n_sm v h w k < n_g6 v h w k then n_g6 v h w k else n_sm v h w k
def n_sb (v : Nat → Int32) (h w : Nat) : Nat → Nat
  | 0 => 0
  | k + 1 => if (k / 12 + h ≤ 6 ∧ k % 12 + w ≤ 12) ∧ n_sm v h w k < n_g6 v h w k then k else n_sb v h w k
theorem n_s_skip {v : Nat → Int32} {h w a b : Nat} (hab : a ≤ b) (hs : ∀ k, a ≤ k → k < b → ¬ (k / 12 + h ≤ 6 ∧ k % 12 + w ≤ 12)) : n_sm v h w b = n_sm v h w a ∧ n_sb v h w b = n_sb v h w a := by
  induction b with
  | zero => rw [show a = 0 by omega]; exact ⟨rfl, rfl⟩
  | succ b ih =>
    rcases Nat.lt_or_ge b a with q | q
    · rw [show a = b + 1 by omega]; exact ⟨rfl, rfl⟩
    · obtain ⟨i1, i2⟩ := ih q (fun k h1 h2 => hs k h1 (by omega))
      rw [n_sm, n_sb, if_neg (fun z => hs b q (by omega) z.1), if_neg (fun z => hs b q (by omega) z.1)]
      exact ⟨i1, i2⟩
theorem n_sb_lt {v : Nat → Int32} {h w : Nat} : ∀ k, n_sb v h w k < k + 1
  | 0 => Nat.succ_pos _
  | k + 1 => by
    have := n_sb_lt (v := v) (h := h) (w := w) k
    unfold n_sb
    split <;> omega
def n_so (v : Nat → Int32) (h w : Nat) : Nat → Int32
  | 0 => nI (n_sb v h w 72 / 12)
  | 1 => nI (n_sb v h w 72 % 12)
  | _ => n_sm v h w 72
theorem n_pit_le {v : Nat → Int32} : ∀ k, 12 ≤ n_pit v k ∧ n_pit v k ≤ 12 + k
  | 0 => ⟨Nat.le_refl _, Nat.le_refl _⟩
  | k + 1 => by
    have := n_pit_le (v := v) k
    unfold n_pit
    split <;> omega
