/-! What the law's walk needs of numbers and states. -/
theorem kq_nat {x : Int32} {k : Nat} (h : 0 ≤ x ∧ x < nI k) (hk : k < 2 ^ 31) : ∃ a, a < k ∧ x = nI a := by
  have h0 := Int32.le_iff_toInt_le.mp h.1
  have h1 := Int32.lt_iff_toInt_lt.mp h.2
  rw [nI_toInt hk] at h1
  have e0 : (0 : Int32).toInt = 0 := by decide
  rw [e0] at h0
  refine ⟨x.toInt.toNat, by omega, ?_⟩
  rw [← Int32.toInt_inj, nI_toInt (by omega)]
  omega
theorem kq_nat2 {x : Int32} {lo up : Nat} (h : nI lo ≤ x ∧ x ≤ nI up) (hl : lo < 2 ^ 30) (hk : up < 2 ^ 30) : ∃ a, (lo ≤ a ∧ a ≤ up) ∧ x = nI a := by
  have h0 := Int32.le_iff_toInt_le.mp h.1
  have h1 := Int32.le_iff_toInt_le.mp h.2
  rw [nI_toInt (by omega)] at h0
  rw [nI_toInt (by omega)] at h1
  refine ⟨x.toInt.toNat, by omega, ?_⟩
  rw [← Int32.toInt_inj, nI_toInt (by omega)]
  omega
theorem kq_99x {x : Int32} (h : -99 ≤ x ∧ x ≤ 99) : ∃ k, k ≤ 198 ∧ x = nI k - 99 := by
  have h0 := Int32.le_iff_toInt_le.mp h.1
  have h1 := Int32.le_iff_toInt_le.mp h.2
  have e0 : (-99 : Int32).toInt = -99 := by decide
  have e1 : (99 : Int32).toInt = 99 := by decide
  rw [e0] at h0
  rw [e1] at h1
  refine ⟨(x.toInt + 99).toNat, by omega, ?_⟩
  rw [← Int32.toInt_inj, Int32.toInt_sub, nI_toInt (by omega), e1, Int.bmod_eq_of_le_mul_two (by omega) (by omega)]
  omega
theorem kq_6m {a : Nat} (ha : a ≤ 6) : (6 : Int32) - nI a = nI (6 - a) := pk_sub (a := 6) (b := a) ha
theorem kq_12m {a : Nat} (ha : a ≤ 12) : (12 : Int32) - nI a = nI (12 - a) := pk_sub (a := 12) (b := a) ha
theorem kq_lt {x : Int32} (k : Nat) (hk : k + 1 < 2 ^ 31) : x < nI (k + 1) ↔ x ≤ nI k := by
  rw [Int32.lt_iff_toInt_lt, Int32.le_iff_toInt_le, nI_toInt hk, nI_toInt (by omega)]
  omega
theorem kq_l3 (x : Int32) : x < 3 ↔ x ≤ 2 := kq_lt 2 (by decide)
theorem kq_l6 (x : Int32) : x < 6 ↔ x ≤ 5 := kq_lt 5 (by decide)
theorem kq_l16 (x : Int32) : x < 16 ↔ x ≤ 15 := kq_lt 15 (by decide)
theorem kq_l12 (x : Int32) : x < 12 ↔ x ≤ 11 := kq_lt 11 (by decide)
theorem kq_l4 (x : Int32) : x < 4 ↔ x ≤ 3 := kq_lt 3 (by decide)
theorem kq_lk (x : Int32) : x < 1000 ↔ x ≤ 999 := kq_lt 999 (by decide)
theorem kq_lce {x y : Int32} (h : x = y) : lg_cmp x.toInt64 y.toInt64 = 0 := by subst h; simp [lg_cmp]
theorem kq_lcl {x y : Int64} (h : x = y) : lg_cmp x y = 0 := by subst h; simp [lg_cmp]
theorem kq_tr {A B A' B' : Prop} {r t : Int32} (hA : A ↔ A') (hB : B ↔ B') (hbad : ¬ (A ∧ B)) (hr : (¬ A → r = 1) ∧ (A → ¬ B → r = 2)) (ht : (¬ A' → t = 1) ∧ (A' → ¬ B' → t = 2)) : t = r ∧ ¬ r = 0 := by
  by_cases q : A
  · have nb : ¬ B := fun w => hbad ⟨q, w⟩
    rw [hr.2 q nb, ht.2 (hA.mp q) (fun w => nb (hB.mpr w))]
    exact ⟨rfl, by decide⟩
  · rw [hr.1 q, ht.1 (fun w => q (hA.mpr w))]
    exact ⟨rfl, by decide⟩
theorem n_gn_c (v : Nat → Int32) : Op.cmpValue (FP.dcmp (n_gn v) (n_gn v)) .l = 0 := by
  have key : ∀ h, h < 5 → 0 < h → ∀ g, g < 41 → g ≤ 10 * h → Op.cmpValue (FP.dcmp (FP.ddiv (FP.i2d (nI g)) (FP.dmul 4621819117588971520 (FP.i2d (nI h)))) (FP.ddiv (FP.i2d (nI g)) (FP.dmul 4621819117588971520 (FP.i2d (nI h))))) .l = 0 := by decide +kernel
  unfold n_gn
  split
  · decide +kernel
  · rename_i h0
    obtain ⟨h, g, h1, h2, h3, h4⟩ := n_hmg v
    rw [h3, h4]
    have hp : 0 < h := by
      rcases Nat.eq_zero_or_pos h with q | q
      · rw [h3, q] at h0; exact absurd rfl h0
      · exact q
    exact key h (by omega) hp g (by omega) h2
/-- states that agree where they are read -/
theorem n_I_c9 {v w : Nat → Int32} (h : n_I v) (e : ∀ q, q < 385 → w q = v q) : n_I w := n_I_as h fun k _ hk => e k hk
theorem n_Z_c9 {v w z y : Nat → Int32} (h : n_Z v z) (e : ∀ q, q < 385 → w q = v q) (e2 : ∀ q, q < 389 → y q = z q) : n_Z w y := by
  obtain ⟨h0, h1, h2, h3, h4, h5⟩ := h
  refine ⟨fun j hj => ?_, fun q hq => ?_, fun q hq => ?_, fun k hk => ?_, fun j hj => ?_, fun f hf => ⟨?_, fun j hj => ?_⟩⟩
  · rw [e2 _ (by omega), e _ (by omega)]; exact h0 j hj
  · rw [e2 _ (by omega), e _ (by omega)]; exact h1 q hq
  · rw [e2 _ (by omega), e _ (by omega)]; exact h2 q hq
  · rw [e2 _ (by omega), e _ (by omega)]; exact h3 k hk
  · rw [e2 _ (by omega), e _ (by omega)]; exact h4 j hj
  · rw [e2 _ (by omega), n_f_as (v := v) (e _ (by omega))]; exact (h5 f hf).1
  · rw [e2 _ (by omega), e _ (by omega)]; exact (h5 f hf).2 j hj
/-- the saved states: here the latest one first, there the oldest one -/
def n_SV (kc : Nat) (sv zs : Nat → Int32) : Prop := ∀ i, i < kc → n_I (fun q => sv (i * 385 + q)) ∧ n_Z (fun q => sv (i * 385 + q)) (fun q => zs ((kc - 1 - i) * 389 + q))
theorem n_SV_push {kc : Nat} {v sv z zs ys : Nat → Int32} (hkc : kc ≤ 6) (h : n_SV kc sv zs) (hI : n_I v) (hz : n_Z v z) (hs : n_sv zs z ys kc) : n_SV (min (kc + 1) 6) (n_push v sv) ys := by
  intro i hi
  rcases Nat.eq_zero_or_pos i with q | q
  · subst q
    have e1 : ∀ q, q < 385 → n_push v sv (0 * 385 + q) = v q := by
      intro q hq
      rw [n_push, va_cpy, if_pos (by omega)]
      exact congrArg v (by omega)
    have e2 : ∀ q, q < 389 → ys ((min (kc + 1) 6 - 1 - 0) * 389 + q) = z q := by
      intro q hq
      rw [Nat.sub_zero]
      exact hs.2 q hq
    exact ⟨n_I_c9 hI e1, n_Z_c9 hz e1 e2⟩
  · obtain ⟨g1, g2⟩ := h (i - 1) (by omega)
    have e1 : ∀ q, q < 385 → n_push v sv (i * 385 + q) = sv ((i - 1) * 385 + q) := by
      intro q hq
      rw [n_push, va_cpy, if_neg (by omega), va_cpy, if_pos (by omega)]
      exact congrArg sv (by omega)
    have e2 : ∀ q, q < 389 → ys ((min (kc + 1) 6 - 1 - i) * 389 + q) = zs ((kc - 1 - (i - 1)) * 389 + q) := by
      intro q hq
      rw [hs.1 (min (kc + 1) 6 - 1 - i) (by omega) q hq]
      exact congrArg zs (by rw [show min (kc + 1) 6 - 1 - i + (kc + 1 - min (kc + 1) 6) = kc - 1 - (i - 1) by omega])
    exact ⟨n_I_c9 g1 e1, n_Z_c9 g2 e1 e2⟩
theorem n_SV_pop {kc : Nat} {v sv zs y : Nat → Int32} (hkc : kc ≤ 6) (h0 : 0 < kc) (h : n_SV kc sv zs) (hy : ∀ k, k < 389 → y k = zs ((kc - 1) * 389 + k)) : n_I (va_cpy sv v 0 0 385) ∧ n_Z (va_cpy sv v 0 0 385) y ∧ n_SV (kc - 1) (va_cpy sv sv 385 0 1925) zs := by
  obtain ⟨g1, g2⟩ := h 0 h0
  have e1 : ∀ q, q < 385 → va_cpy sv v 0 0 385 q = sv (0 * 385 + q) := by
    intro q hq
    rw [va_cpy, if_pos (by omega)]
    exact congrArg sv (by omega)
  refine ⟨n_I_c9 g1 e1, n_Z_c9 g2 e1 (fun q hq => by rw [hy q hq, Nat.sub_zero]), fun i hi => ?_⟩
  obtain ⟨k1, k2⟩ := h (i + 1) (by omega)
  have e2 : ∀ q, q < 385 → va_cpy sv sv 385 0 1925 (i * 385 + q) = sv ((i + 1) * 385 + q) := by
    intro q hq
    rw [va_cpy, if_pos (by omega)]
    exact congrArg sv (by omega)
  exact ⟨n_I_c9 k1 e2, n_Z_c9 k2 e2 (fun q _ => by rw [show kc - 1 - 1 - i = kc - 1 - (i + 1) by omega])⟩
/-- what a whole text leaves is a state -/
theorem n_I_bw {cd : Nat → Int32} {n : Nat} (hn : n_q cd n = 5 ∨ n_q cd n = 7) : ∀ (f a : Nat) (v : Nat → Int32), n_I v → (a < n → n_q cd a = 0) → n_I (n_bw cd n f a v)
  | 0, a, v, hI, _ => hI
  | f + 1, a, v, hI, h0 => by
    rw [n_bw]
    by_cases ha : a < n
    · rw [if_pos ha]
      obtain ⟨g5, d0, d1, d2, q5⟩ := n_part hn ha (h0 ha)
      obtain ⟨g6, g7⟩ := n_part2 hn q5 g5
      refine n_I_bw hn f _ _ (n_I_bp hI d0.2 d1.2) ?_
      split
      · rename_i w
        intro hl
        exact (g6 w).2.2.2.2.2.2 (by omega)
      · rename_i w
        intro hl
        exact g7 w (by omega)
    · rw [if_neg ha]; exact hI
/-- what holds of the two objects at the head of the law's loop -/
def kl_I (kc n : Nat) (v sv z zs : Nat → Int32) : Prop := kc ≤ 6 ∧ n ≤ 60 ∧ n_I v ∧ n_Z v z ∧ n_SV kc sv zs
theorem kl_I0 : kl_I 0 0 n_v0 (fun _ => 0) n_z0 (fun _ => 0) := by
  have e0 : ∀ k, 3 ≤ k → k < 288 → n_v0 k = 0 := fun k h1 h2 => by rw [n_v0, if_neg (by omega), if_neg (by omega), if_neg (by omega)]
  have hf : ∀ f j, f < 4 → j < 4 → n_v0 (366 + f * 4 + j) = 0 := fun f j hf hj => by rw [n_v0, if_neg (by omega), if_neg (by omega), if_neg (by omega)]
  have hf2 : ∀ f, f < 4 → n_f n_v0 f 2 = 0 := fun f h => by rw [n_f, hf f 2 h (by decide)]; rfl
  refine ⟨by decide, by decide, ?_, ?_, fun i hi => absurd hi (Nat.not_lt_zero _)⟩
  · refine n_I_mk (fun r hr => ⟨12, 0, ?_, by decide, by decide, ?_, by decide⟩) (fun k hk => ⟨0, ?_, by decide⟩) (fun f h => ⟨0, 0, 0, 0, hf f 0 h (by decide), hf f 1 h (by decide), hf f 2 h (by decide), hf f 3 h (by decide), fun _ => ⟨rfl, rfl, rfl⟩, fun q => absurd q (by decide), by decide, by decide⟩) ⟨0, 12, 2, rfl, by decide, rfl, by decide, by decide, rfl, by decide, by decide⟩
    · rw [n_v0, if_pos (by omega)]; rfl
    · rw [n_v0, if_neg (by omega), if_neg (by omega), if_neg (by omega)]; rfl
    · rw [n_v0, if_neg (by omega), if_neg (by omega), if_neg (by omega)]; rfl
  · refine ⟨fun j hj => ?_, fun q hq => ?_, fun q hq => ?_, fun k hk => ?_, fun j hj => ?_, fun f h => ⟨?_, fun j hj => ?_⟩⟩
    · rcases (show j = 0 ∨ j = 1 ∨ j = 2 by omega) with rfl | rfl | rfl <;> rfl
    · rw [n_z0, n_v0, if_pos (by omega), if_pos (by omega)]
    · rw [n_z0, n_v0, if_neg (by omega), if_neg (by omega), if_neg (by omega), if_neg (by omega), if_neg (by omega), if_neg (by omega)]
    · rw [n_z0, n_v0, if_neg (by omega), if_neg (by omega), if_neg (by omega), if_neg (by omega), if_neg (by omega), if_neg (by omega)]
    · rw [n_z0, n_v0, if_neg (by omega), if_neg (by omega), if_neg (by omega), if_neg (by omega), if_neg (by omega), if_neg (by omega)]
    · rw [hf2 f h, if_neg (by decide), n_z0, if_neg (by omega), if_neg (by omega), if_neg (by omega)]
    · rw [hf f j h hj, n_z0, if_neg (by omega), if_neg (by omega), if_neg (by omega)]
/-- the script's places -/
theorem kl_and (x : Int32) : ∃ t, t < 32 ∧ x &&& 31 = nI t := by
  refine ⟨(x &&& 31).toBitVec.toNat, ?_, ?_⟩
  · have : (x &&& 31).toBitVec.toNat = x.toBitVec.toNat &&& 31 := by
      rw [Int32.toBitVec_and, BitVec.toNat_and]; rfl
    rw [this]
    exact Nat.lt_of_le_of_lt Nat.and_le_right (by decide)
  · rw [← Int32.toBitVec_inj]
    show _ = BitVec.ofNat 32 _
    simp
theorem kl_len {L i : Nat} (hL : L ≤ 3072) (hi : i ≤ 3072) : (nI L - 6 < nI i) ↔ L < i + 6 := by
  rw [Int32.lt_iff_toInt_lt, Int32.toInt_sub, nI_toInt (by omega), nI_toInt (by omega), show (6 : Int32).toInt = 6 by decide, Int.bmod_eq_of_le_mul_two (by omega) (by omega)]
  omega
theorem kl_room {a b : Nat} (h1 : a ≤ 1050) (h2 : b ≤ 14295) : a ≤ room_1.cells ∧ b ≤ room_1.slots := ⟨h1, h2⟩
