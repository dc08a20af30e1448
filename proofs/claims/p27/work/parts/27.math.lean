/-! What a call leaves is a state again; and what the looks say. -/
theorem n_I_mk {v : Nat → Int32} (h1 : ∀ r, r < 3 → ∃ k q : Nat, v (288 + r) = nI k ∧ 4 ≤ k ∧ k ≤ 16 ∧ v (291 + r) = nI q ∧ q < k)
    (h2 : ∀ k, k < 72 → ∃ q : Nat, v (294 + k) = nI q ∧ q ≤ 9)
    (h3 : ∀ f, f < 4 → ∃ a b k d : Nat, v (366 + f * 4 + 0) = nI a ∧ v (366 + f * 4 + 1) = nI b ∧ v (366 + f * 4 + 2) = nI k ∧ v (366 + f * 4 + 3) = nI d ∧ (k = 0 → a = 0 ∧ b = 0 ∧ d = 0) ∧ (0 < k → 0 < d) ∧ a + k ≤ 6 ∧ b + d ≤ 12)
    (h4 : ∃ a b k : Nat, v 382 = nI a ∧ a ≤ 99 ∧ v 383 = nI b ∧ 12 ≤ b ∧ b ≤ 30 ∧ v 384 = nI k ∧ 1 ≤ k ∧ k ≤ 9) : n_I v := by
  refine ⟨fun r hr => ?_, fun k hk => ?_, fun f hf => ?_, ?_⟩
  · obtain ⟨k, q, e1, e2, e3, e4, e5⟩ := h1 r hr
    have a1 : n_c v r = k := by rw [n_c, e1, nI_clamp (by omega)]
    have a2 : n_p v r = q := by rw [n_p, e4, nI_clamp (by omega)]
    rw [a1, a2]
    exact ⟨e1, e2, e3, e4, e5⟩
  · obtain ⟨q, e1, e2⟩ := h2 k hk
    have a1 : n_k v k = q := by rw [n_k, e1, nI_clamp (by omega)]
    rw [a1]
    exact ⟨e1, e2⟩
  · obtain ⟨a, b, k, d, e0, e1, e2, e3, e4, e5, e6, e7⟩ := h3 f hf
    have hd : d ≤ 12 := by omega
    have a0 : n_f v f 0 = a := by rw [n_f, e0, nI_clamp (by omega)]
    have a1 : n_f v f 1 = b := by rw [n_f, e1, nI_clamp (by omega)]
    have a2 : n_f v f 2 = k := by rw [n_f, e2, nI_clamp (by omega)]
    have a3 : n_f v f 3 = d := by rw [n_f, e3, nI_clamp (by omega)]
    refine ⟨fun j hj => ?_, ?_⟩
    · rcases (show j = 0 ∨ j = 1 ∨ j = 2 ∨ j = 3 by omega) with rfl | rfl | rfl | rfl
      · rw [a0, e0]
      · rw [a1, e1]
      · rw [a2, e2]
      · rw [a3, e3]
    · rw [a0, a1, a2, a3]; exact ⟨e4, e5, e6, e7⟩
  · obtain ⟨a, b, k, e0, e1, e2, e3, e4, e5, e6, e7⟩ := h4
    have a0 : n_s v 0 = a := by rw [n_s, e0, nI_clamp (by omega)]
    have a1 : n_s v 1 = b := by rw [n_s, e2, nI_clamp (by omega)]
    have a2 : n_s v 2 = k := by rw [n_s, e5, nI_clamp (by omega)]
    rw [a0, a1, a2]
    exact ⟨e0, e1, e2, e3, e4, e5, e6, e7⟩
theorem n_I_1 {v : Nat → Int32} (h : n_I v) : ∀ r, r < 3 → ∃ k q : Nat, v (288 + r) = nI k ∧ 4 ≤ k ∧ k ≤ 16 ∧ v (291 + r) = nI q ∧ q < k := fun r hr => ⟨_, _, h.1 r hr⟩
theorem n_I_2 {v : Nat → Int32} (h : n_I v) : ∀ k, k < 72 → ∃ q : Nat, v (294 + k) = nI q ∧ q ≤ 9 := fun k hk => ⟨_, h.2.1 k hk⟩
theorem n_I_3 {v : Nat → Int32} (h : n_I v) : ∀ f, f < 4 → ∃ a b k d : Nat, v (366 + f * 4 + 0) = nI a ∧ v (366 + f * 4 + 1) = nI b ∧ v (366 + f * 4 + 2) = nI k ∧ v (366 + f * 4 + 3) = nI d ∧ (k = 0 → a = 0 ∧ b = 0 ∧ d = 0) ∧ (0 < k → 0 < d) ∧ a + k ≤ 6 ∧ b + d ≤ 12 :=
  fun f hf => ⟨_, _, _, _, n_I_f h hf (by decide), n_I_f h hf (by decide), n_I_f h hf (by decide), n_I_f h hf (by decide), n_I_fr h hf⟩
theorem n_I_4 {v : Nat → Int32} (h : n_I v) : ∃ a b k : Nat, v 382 = nI a ∧ a ≤ 99 ∧ v 383 = nI b ∧ 12 ≤ b ∧ b ≤ 30 ∧ v 384 = nI k ∧ 1 ≤ k ∧ k ≤ 9 := ⟨_, _, _, n_I_s h⟩
/-- the state but for some places -/
theorem n_I_as {v z : Nat → Int32} (h : n_I v) (e : ∀ k, 288 ≤ k → k < 385 → z k = v k) : n_I z := by
  refine n_I_mk (fun r hr => ?_) (fun k hk => ?_) (fun f hf => ?_) ?_
  · rw [e _ (by omega) (by omega), e _ (by omega) (by omega)]; exact n_I_1 h r hr
  · rw [e _ (by omega) (by omega)]; exact n_I_2 h k hk
  · rw [e _ (by omega) (by omega), e _ (by omega) (by omega), e _ (by omega) (by omega), e _ (by omega) (by omega)]; exact n_I_3 h f hf
  · rw [e _ (by omega) (by omega), e _ (by omega) (by omega), e _ (by omega) (by omega)]; exact n_I_4 h
theorem n_I_wire {v : Nat → Int32} (h : n_I v) {k : Nat} (hk : k < 288) (x : Int32) : n_I (upd v k x) := n_I_as h fun q hq _ => pk_un (by omega)
theorem n_I_flat {v : Nat → Int32} (h : n_I v) {a : Nat} (ha : a < 3) : n_I (n_flat v a) := n_I_as h fun q hq _ => by rw [n_flat, if_neg (by omega)]
theorem n_I_bp {v : Nat → Int32} (h : n_I v) {r i j t : Nat} {w : Int32} (hr : r ≤ 2) (hi : i ≤ 5) : n_I (n_bp v r i j t w) := n_I_as h fun q hq _ => by rw [n_bp, if_neg (by omega)]
theorem n_I_phase {v : Nat → Int32} (h : n_I v) {a t : Nat} (ha : a < 3) (ht : t < n_c v a) : n_I (upd v (291 + a) (nI t)) := by
  refine n_I_mk (fun r hr => ?_) (fun k hk => ?_) (fun f hf => ?_) ?_
  · by_cases q : r = a
    · subst q
      rw [pk_un (by omega), pk_us]
      exact ⟨n_c v r, t, n_I_c h hr, n_I_c4 h hr, n_I_c16 h hr, rfl, ht⟩
    · rw [pk_un (by omega), pk_un (by omega)]; exact n_I_1 h r hr
  · rw [pk_un (by omega)]; exact n_I_2 h k hk
  · rw [pk_un (by omega), pk_un (by omega), pk_un (by omega), pk_un (by omega)]; exact n_I_3 h f hf
  · rw [pk_un (by omega), pk_un (by omega), pk_un (by omega)]; exact n_I_4 h
theorem n_I_size {v : Nat → Int32} (h : n_I v) {a k : Nat} (ha : a < 3) (hk : 4 ≤ k ∧ k ≤ 16) : n_I (upd (upd v (288 + a) (nI k)) (291 + a) (nI (n_p v a % k))) := by
  have hm := Nat.mod_lt (n_p v a) (show 0 < k by omega)
  refine n_I_mk (fun r hr => ?_) (fun j hj => ?_) (fun f hf => ?_) ?_
  · by_cases q : r = a
    · subst q
      rw [pk_un (by omega), pk_us, pk_us]
      exact ⟨k, n_p v r % k, rfl, hk.1, hk.2, rfl, hm⟩
    · rw [pk_un (by omega), pk_un (by omega), pk_un (by omega), pk_un (by omega)]; exact n_I_1 h r hr
  · rw [pk_un (by omega), pk_un (by omega)]; exact n_I_2 h j hj
  · rw [pk_un (by omega), pk_un (by omega), pk_un (by omega), pk_un (by omega), pk_un (by omega), pk_un (by omega), pk_un (by omega), pk_un (by omega)]; exact n_I_3 h f hf
  · rw [pk_un (by omega), pk_un (by omega), pk_un (by omega), pk_un (by omega), pk_un (by omega), pk_un (by omega)]; exact n_I_4 h
theorem n_I_ink {v : Nat → Int32} (h : n_I v) {b d hh w x : Nat} (hx : x ≤ 9) : n_I (n_ink v b d hh w (nI x)) := by
  refine n_I_mk (fun r hr => ?_) (fun k hk => ?_) (fun f hf => ?_) ?_
  · rw [n_ink, n_ink, if_neg (by omega), if_neg (by omega)]; exact n_I_1 h r hr
  · rw [n_ink]; split
    · exact ⟨x, rfl, hx⟩
    · exact n_I_2 h k hk
  · rw [n_ink, n_ink, n_ink, n_ink, if_neg (by omega), if_neg (by omega), if_neg (by omega), if_neg (by omega)]; exact n_I_3 h f hf
  · rw [n_ink, n_ink, n_ink, if_neg (by omega), if_neg (by omega), if_neg (by omega)]; exact n_I_4 h
/-- a figure made -/
def n_fig (v : Nat → Int32) (f b d h w : Nat) : Nat → Int32 := upd (upd (upd (upd v (366 + f * 4 + 0) (nI b)) (366 + f * 4 + 1) (nI d)) (366 + f * 4 + 2) (nI h)) (366 + f * 4 + 3) (nI w)
theorem n_fig_o {v : Nat → Int32} {f b d h w k : Nat} (hk : k < 366 + f * 4 ∨ 366 + f * 4 + 3 < k) : n_fig v f b d h w k = v k := by
  rw [n_fig, pk_un (by omega), pk_un (by omega), pk_un (by omega), pk_un (by omega)]
theorem n_fig_0 {v : Nat → Int32} {f b d h w : Nat} : n_fig v f b d h w (366 + f * 4 + 0) = nI b ∧ n_fig v f b d h w (366 + f * 4 + 1) = nI d ∧ n_fig v f b d h w (366 + f * 4 + 2) = nI h ∧ n_fig v f b d h w (366 + f * 4 + 3) = nI w := by
  refine ⟨?_, ?_, ?_, ?_⟩
  · rw [n_fig, pk_un (by omega), pk_un (by omega), pk_un (by omega), pk_us]
  · rw [n_fig, pk_un (by omega), pk_un (by omega), pk_us]
  · rw [n_fig, pk_un (by omega), pk_us]
  · rw [n_fig, pk_us]
theorem n_I_fig {v : Nat → Int32} (hI : n_I v) {f b d h w : Nat} (hf : f < 4) (h1 : h = 0 → b = 0 ∧ d = 0 ∧ w = 0) (h2 : 0 < h → 0 < w) (h3 : b + h ≤ 6) (h4 : d + w ≤ 12) : n_I (n_fig v f b d h w) := by
  refine n_I_mk (fun r hr => ?_) (fun k hk => ?_) (fun g hg => ?_) ?_
  · rw [n_fig_o (by omega), n_fig_o (by omega)]; exact n_I_1 hI r hr
  · rw [n_fig_o (by omega)]; exact n_I_2 hI k hk
  · by_cases q : g = f
    · subst q
      exact ⟨b, d, h, w, n_fig_0.1, n_fig_0.2.1, n_fig_0.2.2.1, n_fig_0.2.2.2, h1, h2, h3, h4⟩
    · rw [n_fig_o (by omega), n_fig_o (by omega), n_fig_o (by omega), n_fig_o (by omega)]; exact n_I_3 hI g hg
  · rw [n_fig_o (by omega), n_fig_o (by omega), n_fig_o (by omega)]; exact n_I_4 hI
theorem n_fig_f {v : Nat → Int32} {f b d h w : Nat} (h3 : b + h ≤ 6) (h4 : d + w ≤ 12) : n_f (n_fig v f b d h w) f 0 = b ∧ n_f (n_fig v f b d h w) f 1 = d ∧ n_f (n_fig v f b d h w) f 2 = h ∧ n_f (n_fig v f b d h w) f 3 = w := by
  refine ⟨?_, ?_, ?_, ?_⟩
  · rw [n_f, n_fig_0.1, nI_clamp (by omega)]
  · rw [n_f, n_fig_0.2.1, nI_clamp (by omega)]
  · rw [n_f, n_fig_0.2.2.1, nI_clamp (by omega)]
  · rw [n_f, n_fig_0.2.2.2, nI_clamp (by omega)]
/-- the settings -/
def n_lo : Nat → Int32
  | 0 => 0
  | 1 => 12
  | _ => 1
def n_hi : Nat → Int32
  | 0 => 99
  | 1 => 30
  | _ => 9
theorem n_I_set {v : Nat → Int32} (h : n_I v) {k : Nat} (hk : k < 3) {x : Int32} (hx : n_lo k ≤ x ∧ x ≤ n_hi k) : n_I (upd v (382 + k) x) := by
  have e : ∃ q : Nat, x = nI q ∧ nI q = x ∧ (k = 0 → q ≤ 99) ∧ (k = 1 → 12 ≤ q ∧ q ≤ 30) ∧ (k = 2 → 1 ≤ q ∧ q ≤ 9) := by
    rcases (show k = 0 ∨ k = 1 ∨ k = 2 by omega) with rfl | rfl | rfl
    · obtain ⟨e1, e2⟩ := n_dig (b := 0) (d := 99) (x := x) hx.1 hx.2 (by decide)
      have e3 : x = nI (x - nI 0).toNatClampNeg := by rw [← e1]; show x = x - 0; grind
      exact ⟨_, e3, e3.symm, fun _ => e2, fun q => by omega, fun q => by omega⟩
    · obtain ⟨e1, e2⟩ := n_dig (b := 12) (d := 18) (x := x) hx.1 hx.2 (by decide)
      have e3 : x = nI ((x - nI 12).toNatClampNeg + 12) := by rw [← nI_add, ← e1]; grind
      exact ⟨_, e3, e3.symm, fun q => by omega, fun _ => by omega, fun q => by omega⟩
    · obtain ⟨e1, e2⟩ := n_dig (b := 1) (d := 8) (x := x) hx.1 hx.2 (by decide)
      have e3 : x = nI ((x - nI 1).toNatClampNeg + 1) := by rw [← nI_add, ← e1]; grind
      exact ⟨_, e3, e3.symm, fun q => by omega, fun q => by omega, fun _ => by omega⟩
  obtain ⟨q, rfl, -, q0, q1, q2⟩ := e
  refine n_I_mk (fun r hr => ?_) (fun j hj => ?_) (fun f hf => ?_) ?_
  · rw [pk_un (by omega), pk_un (by omega)]; exact n_I_1 h r hr
  · rw [pk_un (by omega)]; exact n_I_2 h j hj
  · rw [pk_un (by omega), pk_un (by omega), pk_un (by omega), pk_un (by omega)]; exact n_I_3 h f hf
  · obtain ⟨a, b, d, e0, e1, e2, e3, e4, e5, e6, e7⟩ := n_I_4 h
    rcases (show k = 0 ∨ k = 1 ∨ k = 2 by omega) with rfl | rfl | rfl
    · exact ⟨q, b, d, pk_us, q0 rfl, (pk_un (by omega)).trans e2, e3, e4, (pk_un (by omega)).trans e5, e6, e7⟩
    · exact ⟨a, q, d, (pk_un (by omega)).trans e0, e1, pk_us, (q1 rfl).1, (q1 rfl).2, (pk_un (by omega)).trans e5, e6, e7⟩
    · exact ⟨a, b, q, (pk_un (by omega)).trans e0, e1, (pk_un (by omega)).trans e2, e3, e4, pk_us, (q2 rfl).1, (q2 rfl).2⟩
/-- what the looks answer -/
def n_roll (v : Nat → Int32) (a : Nat) : Nat → Int32
  | 0 => v (288 + a)
  | 1 => v (291 + a)
  | 2 => n_cw v a (n_c v a)
  | 3 => n_hw v a (n_c v a) + 1000
  | _ => nI (n_stm (n_s v 1) (n_c v a))
def n_cell (v : Nat → Int32) (n a b : Nat) : Nat → Int32
  | 0 => n_to v n a b
  | 1 => v (294 + a * 12 + b)
  | 2 => n_li v n a b + 100
  | _ => n_pr v (n_x v n b) a + 100
noncomputable def n_fo1 (v : Nat → Int32) (f : Nat) : Nat → Int32
  | 0 => nI (n_f v f 2 * n_f v f 3)
  | 1 => nI (n_fr (n_f v f 0) (n_f v f 1) (n_f v f 2) (n_f v f 3))
  | 2 => if n_hid v f then 1 else 0
  | 3 => n_ff (n_seen v f) 100
  | _ => n_gd v f 100
noncomputable def n_fo (v : Nat → Int32) (f q : Nat) : Int32 := if 0 < n_f v f 2 then n_fo1 v f q else -1
def n_cn (v : Nat → Int32) (f n : Nat) : Int32 := if 0 < n_f v f 2 then n_ct v f n + 1000 else -1
noncomputable def n_lkb (v : Nat → Int32) (n : Nat) : Bool := @decide (∀ k, k < 72 → n_to v 0 (k / 12) (k % 12) = n_to v n (k / 12) (k % 12)) (Classical.propDecidable _)
theorem n_lkb_iff {v : Nat → Int32} {n : Nat} : n_lkb v n = true ↔ ∀ k, k < 72 → n_to v 0 (k / 12) (k % 12) = n_to v n (k / 12) (k % 12) := @decide_eq_true_iff _ (Classical.propDecidable _)
noncomputable def n_lk (v : Nat → Int32) : Int32 := n_iv (fun n => if n_lkb v n then 1 else 0) 1 100
def n_ik (v : Nat → Int32) : Int32 := n_iv (fun y => n_iv (fun z => if v (294 + (y * 12 + z)) = 0 then 0 else 1) 0 12) 0 6
noncomputable def n_cnt (v : Nat → Int32) (kc : Nat) : Nat → Int32
  | 0 => n_hm v
  | 1 => n_hh v
  | 2 => n_hg v 0
  | 3 => nI (n_all v (n_s v 1) 3)
  | 4 => n_lk v
  | 5 => n_ik v
  | 6 => n_min (fun k => n_to v 0 (k / 12) (k % 12)) 72
  | 7 => n_max (fun k => n_to v 0 (k / 12) (k % 12)) 72
  | _ => nI kc
/-- the greatest of some, and where it is -/
def n_bm (g : Nat → Int32) : Nat → Int32
  | 0 => -1
  | k + 1 => if n_bm g k < g k then g k else n_bm g k
def n_bb (g : Nat → Int32) : Nat → Nat
  | 0 => 0
  | k + 1 => if n_bm g k < g k then k else n_bb g k
theorem n_bb_lt {g : Nat → Int32} : ∀ k, n_bb g k < k + 1
  | 0 => Nat.succ_pos _
  | k + 1 => by
    have := n_bb_lt (g := g) k
    unfold n_bb
    split <;> omega
def n_pz (v : Nat → Int32) (a f : Nat) (k : Nat) : Int32 := n_abs (n_ct (upd v (291 + a) (nI k)) f 0)
def n_pit (v : Nat → Int32) : Nat → Nat
  | 0 => 12
  | k + 1 => if n_all v (13 + k) 3 < n_all v (n_pit v k) 3 then 13 + k else n_pit v k
