/-! The two rows of numbers stay beside one another. -/
theorem n_f_as {v w : Nat → Int32} {f j : Nat} (h : w (366 + f * 4 + j) = v (366 + f * 4 + j)) : n_f w f j = n_f v f j := by rw [n_f, n_f, h]
theorem n_Z_wire {v z : Nat → Int32} (h : n_Z v z) {k : Nat} (hk : k < 288) {x : Int32} : n_Z (upd v k x) (upd z (9 + k) x) := by
  obtain ⟨h0, h1, h2, h3, h4, h5⟩ := h
  refine ⟨fun j hj => ?_, fun r hr => ?_, fun r hr => ?_, fun j hj => ?_, fun j hj => ?_, fun f hf => ⟨?_, fun j hj => ?_⟩⟩
  · rw [pk_un (by omega), pk_un (by omega)]; exact h0 j hj
  · rw [pk_un (by omega), pk_un (by omega)]; exact h1 r hr
  · rw [pk_un (by omega), pk_un (by omega)]; exact h2 r hr
  · by_cases q : j = k
    · rw [q, pk_us, pk_us]
    · rw [pk_un (by omega), pk_un (by omega)]; exact h3 j hj
  · rw [pk_un (by omega), pk_un (by omega)]; exact h4 j hj
  · rw [pk_un (by omega), n_f_as (pk_un (by omega))]; exact (h5 f hf).1
  · rw [pk_un (by omega), pk_un (by omega)]; exact (h5 f hf).2 j hj
theorem n_Z_circ {v z : Nat → Int32} (h : n_Z v z) {a : Nat} (ha : a < 3) {x : Int32} : n_Z (upd v (288 + a) x) (upd z (3 + a) x) := by
  obtain ⟨h0, h1, h2, h3, h4, h5⟩ := h
  refine ⟨fun j hj => ?_, fun r hr => ?_, fun r hr => ?_, fun j hj => ?_, fun j hj => ?_, fun f hf => ⟨?_, fun j hj => ?_⟩⟩
  · rw [pk_un (by omega), pk_un (by omega)]; exact h0 j hj
  · by_cases q : r = a
    · rw [q, pk_us, pk_us]
    · rw [pk_un (by omega), pk_un (by omega)]; exact h1 r hr
  · rw [pk_un (by omega), pk_un (by omega)]; exact h2 r hr
  · rw [pk_un (by omega), pk_un (by omega)]; exact h3 j hj
  · rw [pk_un (by omega), pk_un (by omega)]; exact h4 j hj
  · rw [pk_un (by omega), n_f_as (pk_un (by omega))]; exact (h5 f hf).1
  · rw [pk_un (by omega), pk_un (by omega)]; exact (h5 f hf).2 j hj
theorem n_Z_set {v z : Nat → Int32} (h : n_Z v z) {k : Nat} (hk : k < 3) {x : Int32} : n_Z (upd v (382 + k) x) (upd z (0 + k) x) := by
  obtain ⟨h0, h1, h2, h3, h4, h5⟩ := h
  refine ⟨fun j hj => ?_, fun r hr => ?_, fun r hr => ?_, fun j hj => ?_, fun j hj => ?_, fun f hf => ⟨?_, fun j hj => ?_⟩⟩
  · by_cases q : j = k
    · rw [q, pk_us, Nat.zero_add, pk_us]
    · rw [pk_un (by omega), pk_un (by omega)]; exact h0 j hj
  · rw [pk_un (by omega), pk_un (by omega)]; exact h1 r hr
  · rw [pk_un (by omega), pk_un (by omega)]; exact h2 r hr
  · rw [pk_un (by omega), pk_un (by omega)]; exact h3 j hj
  · rw [pk_un (by omega), pk_un (by omega)]; exact h4 j hj
  · rw [pk_un (by omega), n_f_as (pk_un (by omega))]; exact (h5 f hf).1
  · rw [pk_un (by omega), pk_un (by omega)]; exact (h5 f hf).2 j hj
def n_flatZ (z : Nat → Int32) (a : Nat) : Nat → Int32 := fun j => if 9 + 96 * a ≤ j ∧ j < 9 + 96 * a + 96 then 0 else z j
theorem n_Z_flat {v z : Nat → Int32} (h : n_Z v z) {a : Nat} (ha : a < 3) : n_Z (n_flat v a) (n_flatZ z a) := by
  obtain ⟨h0, h1, h2, h3, h4, h5⟩ := h
  refine ⟨fun j hj => ?_, fun r hr => ?_, fun r hr => ?_, fun j hj => ?_, fun j hj => ?_, fun f hf => ⟨?_, fun j hj => ?_⟩⟩
  · rw [n_flatZ, n_flat, if_neg (by omega), if_neg (by omega)]; exact h0 j hj
  · rw [n_flatZ, n_flat, if_neg (by omega), if_neg (by omega)]; exact h1 r hr
  · rw [n_flatZ, n_flat, if_neg (by omega), if_neg (by omega)]; exact h2 r hr
  · by_cases q : a * 96 ≤ j ∧ j < a * 96 + 96
    · rw [n_flatZ, n_flat, if_pos (by omega), if_pos q]
    · rw [n_flatZ, n_flat, if_neg (by omega), if_neg q]; exact h3 j hj
  · rw [n_flatZ, n_flat, if_neg (by omega), if_neg (by omega)]; exact h4 j hj
  · rw [n_flatZ, if_neg (by omega), n_f_as (by rw [n_flat, if_neg (by omega)])]; exact (h5 f hf).1
  · rw [n_flatZ, n_flat, if_neg (by omega), if_neg (by omega)]; exact (h5 f hf).2 j hj
def n_inkZ (z : Nat → Int32) (r d h w : Nat) (x : Int32) : Nat → Int32 := fun j => if (297 ≤ j ∧ j < 297 + 72) ∧ (r ≤ (j - 297) / 12 ∧ (j - 297) / 12 < r + h) ∧ (d ≤ (j - 297) % 12 ∧ (j - 297) % 12 < d + w) then x else z j
theorem n_Z_ink {v z : Nat → Int32} (hz : n_Z v z) {r d h w : Nat} {x : Int32} : n_Z (n_ink v r d h w x) (n_inkZ z r d h w x) := by
  obtain ⟨h0, h1, h2, h3, h4, h5⟩ := hz
  refine ⟨fun j hj => ?_, fun q hq => ?_, fun q hq => ?_, fun j hj => ?_, fun j hj => ?_, fun f hf => ⟨?_, fun j hj => ?_⟩⟩
  · rw [n_inkZ, n_ink, if_neg (by omega), if_neg (by omega)]; exact h0 j hj
  · rw [n_inkZ, n_ink, if_neg (by omega), if_neg (by omega)]; exact h1 q hq
  · rw [n_inkZ, n_ink, if_neg (by omega), if_neg (by omega)]; exact h2 q hq
  · rw [n_inkZ, n_ink, if_neg (by omega), if_neg (by omega)]; exact h3 j hj
  · by_cases q : (r ≤ j / 12 ∧ j / 12 < r + h) ∧ (d ≤ j % 12 ∧ j % 12 < d + w)
    · rw [n_inkZ, n_ink, if_pos (by omega), if_pos (by omega)]
    · rw [n_inkZ, n_ink, if_neg (by omega), if_neg (by omega)]; exact h4 j hj
  · rw [n_inkZ, if_neg (by omega), n_f_as (by rw [n_ink, if_neg (by omega)])]; exact (h5 f hf).1
  · rw [n_inkZ, n_ink, if_neg (by omega), if_neg (by omega)]; exact (h5 f hf).2 j hj
/-- a figure in the reference's row -/
def n_figZ (z : Nat → Int32) (f : Nat) (t : Int32) (b d h w : Nat) : Nat → Int32 := upd (upd (upd (upd (upd z (369 + 5 * f) t) (369 + 5 * f + 1) (nI b)) (369 + 5 * f + 2) (nI d)) (369 + 5 * f + 3) (nI h)) (369 + 5 * f + 4) (nI w)
theorem n_figZ_o {z : Nat → Int32} {f b d h w k : Nat} {t : Int32} (hk : k < 369 + 5 * f ∨ 369 + 5 * f + 4 < k) : n_figZ z f t b d h w k = z k := by
  rw [n_figZ, pk_un (by omega), pk_un (by omega), pk_un (by omega), pk_un (by omega), pk_un (by omega)]
theorem n_figZ_0 {z : Nat → Int32} {f b d h w : Nat} {t : Int32} : n_figZ z f t b d h w (369 + 5 * f) = t ∧ n_figZ z f t b d h w (369 + 5 * f + 1) = nI b ∧ n_figZ z f t b d h w (369 + 5 * f + 2) = nI d ∧ n_figZ z f t b d h w (369 + 5 * f + 3) = nI h ∧ n_figZ z f t b d h w (369 + 5 * f + 4) = nI w := by
  refine ⟨?_, ?_, ?_, ?_, ?_⟩
  · rw [n_figZ, pk_un (by omega), pk_un (by omega), pk_un (by omega), pk_un (by omega), pk_us]
  · rw [n_figZ, pk_un (by omega), pk_un (by omega), pk_un (by omega), pk_us]
  · rw [n_figZ, pk_un (by omega), pk_un (by omega), pk_us]
  · rw [n_figZ, pk_un (by omega), pk_us]
  · rw [n_figZ, pk_us]
theorem n_Z_fig {v z : Nat → Int32} (hz : n_Z v z) {f b d h w : Nat} {t : Int32} (hf : f < 4) (h3 : b + h ≤ 6) (h4 : d + w ≤ 12) (ht : t = if 0 < h then 1 else 0) : n_Z (n_fig v f b d h w) (n_figZ z f t b d h w) := by
  obtain ⟨g0, g1, g2, g3, g4, g5⟩ := hz
  refine ⟨fun j hj => ?_, fun q hq => ?_, fun q hq => ?_, fun j hj => ?_, fun j hj => ?_, fun g hg => ?_⟩
  · rw [n_figZ_o (by omega), n_fig_o (by omega)]; exact g0 j hj
  · rw [n_figZ_o (by omega), n_fig_o (by omega)]; exact g1 q hq
  · rw [n_figZ_o (by omega), n_fig_o (by omega)]; exact g2 q hq
  · rw [n_figZ_o (by omega), n_fig_o (by omega)]; exact g3 j hj
  · rw [n_figZ_o (by omega), n_fig_o (by omega)]; exact g4 j hj
  · by_cases q : g = f
    · subst q
      obtain ⟨e0, e1, e2, e3, e4⟩ := n_figZ_0 (z := z) (f := g) (b := b) (d := d) (h := h) (w := w) (t := t)
      obtain ⟨k0, k1, k2, k3⟩ := n_fig_0 (v := v) (f := g) (b := b) (d := d) (h := h) (w := w)
      refine ⟨by rw [e0, (n_fig_f h3 h4).2.2.1, ht], fun j hj => ?_⟩
      rcases (show j = 0 ∨ j = 1 ∨ j = 2 ∨ j = 3 by omega) with rfl | rfl | rfl | rfl
      · exact e1.trans k0.symm
      · exact e2.trans k1.symm
      · exact e3.trans k2.symm
      · exact e4.trans k3.symm
    · refine ⟨?_, fun j hj => ?_⟩
      · rw [n_figZ_o (by omega), n_f_as (n_fig_o (by omega))]; exact (g5 g hg).1
      · rw [n_figZ_o (by omega), n_fig_o (by omega)]; exact (g5 g hg).2 j hj
/-- a save, of the reference -/
def n_sv (zs z ys : Nat → Int32) (km : Nat) : Prop := (∀ i, i + 1 < min (km + 1) 6 → ∀ k, k < 389 → ys (i * 389 + k) = zs ((i + (km + 1 - min (km + 1) 6)) * 389 + k)) ∧ ∀ k, k < 389 → ys ((min (km + 1) 6 - 1) * 389 + k) = z k
theorem kq_turn {q y k : Nat} {x : Int32} (hx : x = nI y - 99) (hk : 4 ≤ k ∧ k ≤ 16) : nI q + x + nI (100 * k) = nI (q + y + 100 * k - 99) := by
  have e : nI (q + y + 100 * k - 99) = nI (q + y + 100 * k) - 99 := (pk_sub (a := q + y + 100 * k) (b := 99) (by omega)).symm
  rw [e, ← nI_add, ← nI_add, hx]
  grind
/-- the changed cells of a rectangle, by the reference's count -/
def n_inkm (v : Nat → Int32) (r d h w : Nat) (x : Int32) (k : Nat) : Int32 := n_sum (fun j => if (r ≤ j / 12 ∧ j / 12 < r + h) ∧ (d ≤ j % 12 ∧ j % 12 < d + w) then (if v (294 + j) = x then 0 else 1) else 0) k
theorem n_inkm_eq {v : Nat → Int32} {r d h w : Nat} {x : Int32} (h1 : r + h ≤ 6) (h2 : d + w ≤ 12) : n_inkn v r d h w x = n_inkm v r d h w x 72 := by
  have e := n_ar_m (f := fun j => if v (294 + j) = x then 0 else 1) (a := r) (b := r + h) (c := d) (d := d + w) h1 h2
  exact e
