/-! Loops: a measure that falls, an invariant, the locals (and the world) as the numbers of a turn say; and numbers out of compares. -/
theorem kq_bt {P : Prop} [Decidable P] (h : ¬ (if P then (1:Int32) else 0) = 0) : P := by
  by_cases hp : P
  · exact hp
  · rw [if_neg hp] at h; exact absurd rfl h
theorem kq_bf {P : Prop} [Decidable P] (h : (if P then (1:Int32) else 0) = 0) : ¬ P := by
  intro hp
  rw [if_pos hp] at h
  exact absurd h (by decide)
theorem kq_eqN {a b : Nat} (h : nI a = nI b) (ha : a < 2 ^ 31) (hb : b < 2 ^ 31) : a = b := (nI_eq ha hb).mp h
theorem kq_neN {a b : Nat} (h : ¬ nI a = nI b) (ha : a < 2 ^ 31) (hb : b < 2 ^ 31) : ¬ a = b := fun q => h ((nI_eq ha hb).mpr q)
theorem kq_leN {a b : Nat} (h : nI a ≤ nI b) (ha : a < 2 ^ 31) (hb : b < 2 ^ 31) : a ≤ b := (nI_leI ha hb).mp h
theorem kq_nleN {a b : Nat} (h : ¬ nI a ≤ nI b) (ha : a < 2 ^ 31) (hb : b < 2 ^ 31) : b < a := Nat.lt_of_not_le fun q => h ((nI_leI ha hb).mpr q)
theorem kq_ltN {a b : Nat} (h : nI a < nI b) (ha : a < 2 ^ 31) (hb : b < 2 ^ 31) : a < b := (nI_ltI ha hb).mp h
theorem kq_nltN {a b : Nat} (h : ¬ nI a < nI b) (ha : a < 2 ^ 31) (hb : b < 2 ^ 31) : b ≤ a := Nat.le_of_not_lt fun q => h ((nI_ltI ha hb).mpr q)
theorem kq_max {a b : Nat} (ha : a < 2 ^ 31) (hb : b < 2 ^ 31) : (if nI a < nI b then nI b else nI a) = nI (max a b) := by
  by_cases h : a < b
  · rw [if_pos ((nI_ltI ha hb).mpr h), Nat.max_eq_right (Nat.le_of_lt h)]
  · rw [if_neg (fun q => h ((nI_ltI ha hb).mp q)), Nat.max_eq_left (Nat.le_of_not_lt h)]
theorem kq_min {a b : Nat} (ha : a < 2 ^ 31) (hb : b < 2 ^ 31) : (if nI b < nI a then nI b else nI a) = nI (min a b) := by
  by_cases h : b < a
  · rw [if_pos ((nI_ltI hb ha).mpr h), Nat.min_eq_right (Nat.le_of_lt h)]
  · rw [if_neg (fun q => h ((nI_ltI hb ha).mp q)), Nat.min_eq_left (Nat.le_of_not_lt h)]
section KQL
variable {p : Program} {l : Launch} {e : Env} {R : Room} {s : State} {m : MethodId} {args : Array Value} {below : List Frame} {meth : Method} {c : Code} {H : Heap} {locs : List Loc} {cells slots : Nat} {Q : State → Prop} {nL pc : Nat} {dC : Nat → ClassId} {dI : Nat → Nat → Nat} {cI : ClassId} {A : Nat → Prop}
theorem kq_loop1 {A1 : Type} (μ : A1 → Nat) (I : A1 → Prop) (L : A1 → List (Nat × Value)) (step : ∀ (a1 : A1), I a1 → (∀ (b1 : A1), I b1 → μ b1 < μ a1 → ∀ ls : Array Slot, lv_has ls nL (L b1) → W p l e R s m args below meth c H locs cells slots Q (F0 m pc ls [])) → ∀ ls : Array Slot, lv_has ls nL (L a1) → W p l e R s m args below meth c H locs cells slots Q (F0 m pc ls [])) (a1 : A1) (h0 : I a1) (ls : Array Slot) (hl : lv_has ls nL (L a1)) : W p l e R s m args below meth c H locs cells slots Q (F0 m pc ls []) := by
  have key : ∀ (n : Nat) (a1 : A1), μ a1 < n → I a1 → ∀ ls : Array Slot, lv_has ls nL (L a1) → W p l e R s m args below meth c H locs cells slots Q (F0 m pc ls []) := by
    intro n
    induction n with
    | zero => intro a1 h; exact absurd h (Nat.not_lt_zero _)
    | succ n ih =>
      intro a1 h hi ls hl
      exact step a1 hi (fun b1 hb hm ls hl => ih b1 (Nat.lt_of_lt_of_le hm (Nat.le_of_lt_succ h)) hb ls hl) ls hl
  exact key (μ a1 + 1) a1 (Nat.lt_succ_self _) h0 ls hl
theorem kq_loopM1 {A1 : Type} (μ : A1 → Nat) (I : A1 → Prop) (L : A1 → List (Nat × Value)) (Wd : A1 → va_W) (hK : kq_K dC dI cI s) (step : ∀ (a1 : A1), I a1 → (∀ (b1 : A1), I b1 → μ b1 < μ a1 → ∀ (H : Heap) (locs : List Loc), va_P (dC, dI) vwCl (Wd b1) H → va_D A (Wd b1) → va_S A s.heap H locs → ∀ ls : Array Slot, lv_has ls nL (L b1) → W p l e R s m args below meth c H locs cells slots Q (F0 m pc ls [])) → ∀ (H : Heap) (locs : List Loc), va_P (dC, dI) vwCl (Wd a1) H → va_D A (Wd a1) → va_S A s.heap H locs → ∀ ls : Array Slot, lv_has ls nL (L a1) → W p l e R s m args below meth c H locs cells slots Q (F0 m pc ls [])) (a1 : A1) (h0 : I a1) (hP : va_P (dC, dI) vwCl (Wd a1) H) (hD : va_D A (Wd a1)) (hS : va_S A s.heap H locs) (ls : Array Slot) (hl : lv_has ls nL (L a1)) : W p l e R s m args below meth c H locs cells slots Q (F0 m pc ls []) := by
  have key : ∀ (n : Nat) (a1 : A1), μ a1 < n → I a1 → ∀ (H : Heap) (locs : List Loc), va_P (dC, dI) vwCl (Wd a1) H → va_D A (Wd a1) → va_S A s.heap H locs → ∀ ls : Array Slot, lv_has ls nL (L a1) → W p l e R s m args below meth c H locs cells slots Q (F0 m pc ls []) := by
    intro n
    induction n with
    | zero => intro a1 h; exact absurd h (Nat.not_lt_zero _)
    | succ n ih =>
      intro a1 h hi H locs hP hD hS ls hl
      exact step a1 hi (fun b1 hb hm H locs hP hD hS ls hl => ih b1 (Nat.lt_of_lt_of_le hm (Nat.le_of_lt_succ h)) hb H locs hP hD hS ls hl) H locs hP hD hS ls hl
  exact key (μ a1 + 1) a1 (Nat.lt_succ_self _) h0 H locs hP hD hS ls hl
theorem kq_loop2 {A1 A2 : Type} (μ : A1 → A2 → Nat) (I : A1 → A2 → Prop) (L : A1 → A2 → List (Nat × Value)) (step : ∀ (a1 : A1) (a2 : A2), I a1 a2 → (∀ (b1 : A1) (b2 : A2), I b1 b2 → μ b1 b2 < μ a1 a2 → ∀ ls : Array Slot, lv_has ls nL (L b1 b2) → W p l e R s m args below meth c H locs cells slots Q (F0 m pc ls [])) → ∀ ls : Array Slot, lv_has ls nL (L a1 a2) → W p l e R s m args below meth c H locs cells slots Q (F0 m pc ls [])) (a1 : A1) (a2 : A2) (h0 : I a1 a2) (ls : Array Slot) (hl : lv_has ls nL (L a1 a2)) : W p l e R s m args below meth c H locs cells slots Q (F0 m pc ls []) := by
  have key : ∀ (n : Nat) (a1 : A1) (a2 : A2), μ a1 a2 < n → I a1 a2 → ∀ ls : Array Slot, lv_has ls nL (L a1 a2) → W p l e R s m args below meth c H locs cells slots Q (F0 m pc ls []) := by
    intro n
    induction n with
    | zero => intro a1 a2 h; exact absurd h (Nat.not_lt_zero _)
    | succ n ih =>
      intro a1 a2 h hi ls hl
      exact step a1 a2 hi (fun b1 b2 hb hm ls hl => ih b1 b2 (Nat.lt_of_lt_of_le hm (Nat.le_of_lt_succ h)) hb ls hl) ls hl
  exact key (μ a1 a2 + 1) a1 a2 (Nat.lt_succ_self _) h0 ls hl
theorem kq_loopM2 {A1 A2 : Type} (μ : A1 → A2 → Nat) (I : A1 → A2 → Prop) (L : A1 → A2 → List (Nat × Value)) (Wd : A1 → A2 → va_W) (hK : kq_K dC dI cI s) (step : ∀ (a1 : A1) (a2 : A2), I a1 a2 → (∀ (b1 : A1) (b2 : A2), I b1 b2 → μ b1 b2 < μ a1 a2 → ∀ (H : Heap) (locs : List Loc), va_P (dC, dI) vwCl (Wd b1 b2) H → va_D A (Wd b1 b2) → va_S A s.heap H locs → ∀ ls : Array Slot, lv_has ls nL (L b1 b2) → W p l e R s m args below meth c H locs cells slots Q (F0 m pc ls [])) → ∀ (H : Heap) (locs : List Loc), va_P (dC, dI) vwCl (Wd a1 a2) H → va_D A (Wd a1 a2) → va_S A s.heap H locs → ∀ ls : Array Slot, lv_has ls nL (L a1 a2) → W p l e R s m args below meth c H locs cells slots Q (F0 m pc ls [])) (a1 : A1) (a2 : A2) (h0 : I a1 a2) (hP : va_P (dC, dI) vwCl (Wd a1 a2) H) (hD : va_D A (Wd a1 a2)) (hS : va_S A s.heap H locs) (ls : Array Slot) (hl : lv_has ls nL (L a1 a2)) : W p l e R s m args below meth c H locs cells slots Q (F0 m pc ls []) := by
  have key : ∀ (n : Nat) (a1 : A1) (a2 : A2), μ a1 a2 < n → I a1 a2 → ∀ (H : Heap) (locs : List Loc), va_P (dC, dI) vwCl (Wd a1 a2) H → va_D A (Wd a1 a2) → va_S A s.heap H locs → ∀ ls : Array Slot, lv_has ls nL (L a1 a2) → W p l e R s m args below meth c H locs cells slots Q (F0 m pc ls []) := by
    intro n
    induction n with
    | zero => intro a1 a2 h; exact absurd h (Nat.not_lt_zero _)
    | succ n ih =>
      intro a1 a2 h hi H locs hP hD hS ls hl
      exact step a1 a2 hi (fun b1 b2 hb hm H locs hP hD hS ls hl => ih b1 b2 (Nat.lt_of_lt_of_le hm (Nat.le_of_lt_succ h)) hb H locs hP hD hS ls hl) H locs hP hD hS ls hl
  exact key (μ a1 a2 + 1) a1 a2 (Nat.lt_succ_self _) h0 H locs hP hD hS ls hl
theorem kq_loop3 {A1 A2 A3 : Type} (μ : A1 → A2 → A3 → Nat) (I : A1 → A2 → A3 → Prop) (L : A1 → A2 → A3 → List (Nat × Value)) (step : ∀ (a1 : A1) (a2 : A2) (a3 : A3), I a1 a2 a3 → (∀ (b1 : A1) (b2 : A2) (b3 : A3), I b1 b2 b3 → μ b1 b2 b3 < μ a1 a2 a3 → ∀ ls : Array Slot, lv_has ls nL (L b1 b2 b3) → W p l e R s m args below meth c H locs cells slots Q (F0 m pc ls [])) → ∀ ls : Array Slot, lv_has ls nL (L a1 a2 a3) → W p l e R s m args below meth c H locs cells slots Q (F0 m pc ls [])) (a1 : A1) (a2 : A2) (a3 : A3) (h0 : I a1 a2 a3) (ls : Array Slot) (hl : lv_has ls nL (L a1 a2 a3)) : W p l e R s m args below meth c H locs cells slots Q (F0 m pc ls []) := by
  have key : ∀ (n : Nat) (a1 : A1) (a2 : A2) (a3 : A3), μ a1 a2 a3 < n → I a1 a2 a3 → ∀ ls : Array Slot, lv_has ls nL (L a1 a2 a3) → W p l e R s m args below meth c H locs cells slots Q (F0 m pc ls []) := by
    intro n
    induction n with
    | zero => intro a1 a2 a3 h; exact absurd h (Nat.not_lt_zero _)
    | succ n ih =>
      intro a1 a2 a3 h hi ls hl
      exact step a1 a2 a3 hi (fun b1 b2 b3 hb hm ls hl => ih b1 b2 b3 (Nat.lt_of_lt_of_le hm (Nat.le_of_lt_succ h)) hb ls hl) ls hl
  exact key (μ a1 a2 a3 + 1) a1 a2 a3 (Nat.lt_succ_self _) h0 ls hl
theorem kq_loopM3 {A1 A2 A3 : Type} (μ : A1 → A2 → A3 → Nat) (I : A1 → A2 → A3 → Prop) (L : A1 → A2 → A3 → List (Nat × Value)) (Wd : A1 → A2 → A3 → va_W) (hK : kq_K dC dI cI s) (step : ∀ (a1 : A1) (a2 : A2) (a3 : A3), I a1 a2 a3 → (∀ (b1 : A1) (b2 : A2) (b3 : A3), I b1 b2 b3 → μ b1 b2 b3 < μ a1 a2 a3 → ∀ (H : Heap) (locs : List Loc), va_P (dC, dI) vwCl (Wd b1 b2 b3) H → va_D A (Wd b1 b2 b3) → va_S A s.heap H locs → ∀ ls : Array Slot, lv_has ls nL (L b1 b2 b3) → W p l e R s m args below meth c H locs cells slots Q (F0 m pc ls [])) → ∀ (H : Heap) (locs : List Loc), va_P (dC, dI) vwCl (Wd a1 a2 a3) H → va_D A (Wd a1 a2 a3) → va_S A s.heap H locs → ∀ ls : Array Slot, lv_has ls nL (L a1 a2 a3) → W p l e R s m args below meth c H locs cells slots Q (F0 m pc ls [])) (a1 : A1) (a2 : A2) (a3 : A3) (h0 : I a1 a2 a3) (hP : va_P (dC, dI) vwCl (Wd a1 a2 a3) H) (hD : va_D A (Wd a1 a2 a3)) (hS : va_S A s.heap H locs) (ls : Array Slot) (hl : lv_has ls nL (L a1 a2 a3)) : W p l e R s m args below meth c H locs cells slots Q (F0 m pc ls []) := by
  have key : ∀ (n : Nat) (a1 : A1) (a2 : A2) (a3 : A3), μ a1 a2 a3 < n → I a1 a2 a3 → ∀ (H : Heap) (locs : List Loc), va_P (dC, dI) vwCl (Wd a1 a2 a3) H → va_D A (Wd a1 a2 a3) → va_S A s.heap H locs → ∀ ls : Array Slot, lv_has ls nL (L a1 a2 a3) → W p l e R s m args below meth c H locs cells slots Q (F0 m pc ls []) := by
    intro n
    induction n with
    | zero => intro a1 a2 a3 h; exact absurd h (Nat.not_lt_zero _)
    | succ n ih =>
      intro a1 a2 a3 h hi H locs hP hD hS ls hl
      exact step a1 a2 a3 hi (fun b1 b2 b3 hb hm H locs hP hD hS ls hl => ih b1 b2 b3 (Nat.lt_of_lt_of_le hm (Nat.le_of_lt_succ h)) hb H locs hP hD hS ls hl) H locs hP hD hS ls hl
  exact key (μ a1 a2 a3 + 1) a1 a2 a3 (Nat.lt_succ_self _) h0 H locs hP hD hS ls hl
theorem kq_loop4 {A1 A2 A3 A4 : Type} (μ : A1 → A2 → A3 → A4 → Nat) (I : A1 → A2 → A3 → A4 → Prop) (L : A1 → A2 → A3 → A4 → List (Nat × Value)) (step : ∀ (a1 : A1) (a2 : A2) (a3 : A3) (a4 : A4), I a1 a2 a3 a4 → (∀ (b1 : A1) (b2 : A2) (b3 : A3) (b4 : A4), I b1 b2 b3 b4 → μ b1 b2 b3 b4 < μ a1 a2 a3 a4 → ∀ ls : Array Slot, lv_has ls nL (L b1 b2 b3 b4) → W p l e R s m args below meth c H locs cells slots Q (F0 m pc ls [])) → ∀ ls : Array Slot, lv_has ls nL (L a1 a2 a3 a4) → W p l e R s m args below meth c H locs cells slots Q (F0 m pc ls [])) (a1 : A1) (a2 : A2) (a3 : A3) (a4 : A4) (h0 : I a1 a2 a3 a4) (ls : Array Slot) (hl : lv_has ls nL (L a1 a2 a3 a4)) : W p l e R s m args below meth c H locs cells slots Q (F0 m pc ls []) := by
  have key : ∀ (n : Nat) (a1 : A1) (a2 : A2) (a3 : A3) (a4 : A4), μ a1 a2 a3 a4 < n → I a1 a2 a3 a4 → ∀ ls : Array Slot, lv_has ls nL (L a1 a2 a3 a4) → W p l e R s m args below meth c H locs cells slots Q (F0 m pc ls []) := by
    intro n
    induction n with
    | zero => intro a1 a2 a3 a4 h; exact absurd h (Nat.not_lt_zero _)
    | succ n ih =>
      intro a1 a2 a3 a4 h hi ls hl
      exact step a1 a2 a3 a4 hi (fun b1 b2 b3 b4 hb hm ls hl => ih b1 b2 b3 b4 (Nat.lt_of_lt_of_le hm (Nat.le_of_lt_succ h)) hb ls hl) ls hl
  exact key (μ a1 a2 a3 a4 + 1) a1 a2 a3 a4 (Nat.lt_succ_self _) h0 ls hl
theorem kq_loopM4 {A1 A2 A3 A4 : Type} (μ : A1 → A2 → A3 → A4 → Nat) (I : A1 → A2 → A3 → A4 → Prop) (L : A1 → A2 → A3 → A4 → List (Nat × Value)) (Wd : A1 → A2 → A3 → A4 → va_W) (hK : kq_K dC dI cI s) (step : ∀ (a1 : A1) (a2 : A2) (a3 : A3) (a4 : A4), I a1 a2 a3 a4 → (∀ (b1 : A1) (b2 : A2) (b3 : A3) (b4 : A4), I b1 b2 b3 b4 → μ b1 b2 b3 b4 < μ a1 a2 a3 a4 → ∀ (H : Heap) (locs : List Loc), va_P (dC, dI) vwCl (Wd b1 b2 b3 b4) H → va_D A (Wd b1 b2 b3 b4) → va_S A s.heap H locs → ∀ ls : Array Slot, lv_has ls nL (L b1 b2 b3 b4) → W p l e R s m args below meth c H locs cells slots Q (F0 m pc ls [])) → ∀ (H : Heap) (locs : List Loc), va_P (dC, dI) vwCl (Wd a1 a2 a3 a4) H → va_D A (Wd a1 a2 a3 a4) → va_S A s.heap H locs → ∀ ls : Array Slot, lv_has ls nL (L a1 a2 a3 a4) → W p l e R s m args below meth c H locs cells slots Q (F0 m pc ls [])) (a1 : A1) (a2 : A2) (a3 : A3) (a4 : A4) (h0 : I a1 a2 a3 a4) (hP : va_P (dC, dI) vwCl (Wd a1 a2 a3 a4) H) (hD : va_D A (Wd a1 a2 a3 a4)) (hS : va_S A s.heap H locs) (ls : Array Slot) (hl : lv_has ls nL (L a1 a2 a3 a4)) : W p l e R s m args below meth c H locs cells slots Q (F0 m pc ls []) := by
  have key : ∀ (n : Nat) (a1 : A1) (a2 : A2) (a3 : A3) (a4 : A4), μ a1 a2 a3 a4 < n → I a1 a2 a3 a4 → ∀ (H : Heap) (locs : List Loc), va_P (dC, dI) vwCl (Wd a1 a2 a3 a4) H → va_D A (Wd a1 a2 a3 a4) → va_S A s.heap H locs → ∀ ls : Array Slot, lv_has ls nL (L a1 a2 a3 a4) → W p l e R s m args below meth c H locs cells slots Q (F0 m pc ls []) := by
    intro n
    induction n with
    | zero => intro a1 a2 a3 a4 h; exact absurd h (Nat.not_lt_zero _)
    | succ n ih =>
      intro a1 a2 a3 a4 h hi H locs hP hD hS ls hl
      exact step a1 a2 a3 a4 hi (fun b1 b2 b3 b4 hb hm H locs hP hD hS ls hl => ih b1 b2 b3 b4 (Nat.lt_of_lt_of_le hm (Nat.le_of_lt_succ h)) hb H locs hP hD hS ls hl) H locs hP hD hS ls hl
  exact key (μ a1 a2 a3 a4 + 1) a1 a2 a3 a4 (Nat.lt_succ_self _) h0 H locs hP hD hS ls hl
theorem kq_loop5 {A1 A2 A3 A4 A5 : Type} (μ : A1 → A2 → A3 → A4 → A5 → Nat) (I : A1 → A2 → A3 → A4 → A5 → Prop) (L : A1 → A2 → A3 → A4 → A5 → List (Nat × Value)) (step : ∀ (a1 : A1) (a2 : A2) (a3 : A3) (a4 : A4) (a5 : A5), I a1 a2 a3 a4 a5 → (∀ (b1 : A1) (b2 : A2) (b3 : A3) (b4 : A4) (b5 : A5), I b1 b2 b3 b4 b5 → μ b1 b2 b3 b4 b5 < μ a1 a2 a3 a4 a5 → ∀ ls : Array Slot, lv_has ls nL (L b1 b2 b3 b4 b5) → W p l e R s m args below meth c H locs cells slots Q (F0 m pc ls [])) → ∀ ls : Array Slot, lv_has ls nL (L a1 a2 a3 a4 a5) → W p l e R s m args below meth c H locs cells slots Q (F0 m pc ls [])) (a1 : A1) (a2 : A2) (a3 : A3) (a4 : A4) (a5 : A5) (h0 : I a1 a2 a3 a4 a5) (ls : Array Slot) (hl : lv_has ls nL (L a1 a2 a3 a4 a5)) : W p l e R s m args below meth c H locs cells slots Q (F0 m pc ls []) := by
  have key : ∀ (n : Nat) (a1 : A1) (a2 : A2) (a3 : A3) (a4 : A4) (a5 : A5), μ a1 a2 a3 a4 a5 < n → I a1 a2 a3 a4 a5 → ∀ ls : Array Slot, lv_has ls nL (L a1 a2 a3 a4 a5) → W p l e R s m args below meth c H locs cells slots Q (F0 m pc ls []) := by
    intro n
    induction n with
    | zero => intro a1 a2 a3 a4 a5 h; exact absurd h (Nat.not_lt_zero _)
    | succ n ih =>
      intro a1 a2 a3 a4 a5 h hi ls hl
      exact step a1 a2 a3 a4 a5 hi (fun b1 b2 b3 b4 b5 hb hm ls hl => ih b1 b2 b3 b4 b5 (Nat.lt_of_lt_of_le hm (Nat.le_of_lt_succ h)) hb ls hl) ls hl
  exact key (μ a1 a2 a3 a4 a5 + 1) a1 a2 a3 a4 a5 (Nat.lt_succ_self _) h0 ls hl
theorem kq_loopM5 {A1 A2 A3 A4 A5 : Type} (μ : A1 → A2 → A3 → A4 → A5 → Nat) (I : A1 → A2 → A3 → A4 → A5 → Prop) (L : A1 → A2 → A3 → A4 → A5 → List (Nat × Value)) (Wd : A1 → A2 → A3 → A4 → A5 → va_W) (hK : kq_K dC dI cI s) (step : ∀ (a1 : A1) (a2 : A2) (a3 : A3) (a4 : A4) (a5 : A5), I a1 a2 a3 a4 a5 → (∀ (b1 : A1) (b2 : A2) (b3 : A3) (b4 : A4) (b5 : A5), I b1 b2 b3 b4 b5 → μ b1 b2 b3 b4 b5 < μ a1 a2 a3 a4 a5 → ∀ (H : Heap) (locs : List Loc), va_P (dC, dI) vwCl (Wd b1 b2 b3 b4 b5) H → va_D A (Wd b1 b2 b3 b4 b5) → va_S A s.heap H locs → ∀ ls : Array Slot, lv_has ls nL (L b1 b2 b3 b4 b5) → W p l e R s m args below meth c H locs cells slots Q (F0 m pc ls [])) → ∀ (H : Heap) (locs : List Loc), va_P (dC, dI) vwCl (Wd a1 a2 a3 a4 a5) H → va_D A (Wd a1 a2 a3 a4 a5) → va_S A s.heap H locs → ∀ ls : Array Slot, lv_has ls nL (L a1 a2 a3 a4 a5) → W p l e R s m args below meth c H locs cells slots Q (F0 m pc ls [])) (a1 : A1) (a2 : A2) (a3 : A3) (a4 : A4) (a5 : A5) (h0 : I a1 a2 a3 a4 a5) (hP : va_P (dC, dI) vwCl (Wd a1 a2 a3 a4 a5) H) (hD : va_D A (Wd a1 a2 a3 a4 a5)) (hS : va_S A s.heap H locs) (ls : Array Slot) (hl : lv_has ls nL (L a1 a2 a3 a4 a5)) : W p l e R s m args below meth c H locs cells slots Q (F0 m pc ls []) := by
  have key : ∀ (n : Nat) (a1 : A1) (a2 : A2) (a3 : A3) (a4 : A4) (a5 : A5), μ a1 a2 a3 a4 a5 < n → I a1 a2 a3 a4 a5 → ∀ (H : Heap) (locs : List Loc), va_P (dC, dI) vwCl (Wd a1 a2 a3 a4 a5) H → va_D A (Wd a1 a2 a3 a4 a5) → va_S A s.heap H locs → ∀ ls : Array Slot, lv_has ls nL (L a1 a2 a3 a4 a5) → W p l e R s m args below meth c H locs cells slots Q (F0 m pc ls []) := by
    intro n
    induction n with
    | zero => intro a1 a2 a3 a4 a5 h; exact absurd h (Nat.not_lt_zero _)
    | succ n ih =>
      intro a1 a2 a3 a4 a5 h hi H locs hP hD hS ls hl
      exact step a1 a2 a3 a4 a5 hi (fun b1 b2 b3 b4 b5 hb hm H locs hP hD hS ls hl => ih b1 b2 b3 b4 b5 (Nat.lt_of_lt_of_le hm (Nat.le_of_lt_succ h)) hb H locs hP hD hS ls hl) H locs hP hD hS ls hl
  exact key (μ a1 a2 a3 a4 a5 + 1) a1 a2 a3 a4 a5 (Nat.lt_succ_self _) h0 H locs hP hD hS ls hl
theorem kq_loop6 {A1 A2 A3 A4 A5 A6 : Type} (μ : A1 → A2 → A3 → A4 → A5 → A6 → Nat) (I : A1 → A2 → A3 → A4 → A5 → A6 → Prop) (L : A1 → A2 → A3 → A4 → A5 → A6 → List (Nat × Value)) (step : ∀ (a1 : A1) (a2 : A2) (a3 : A3) (a4 : A4) (a5 : A5) (a6 : A6), I a1 a2 a3 a4 a5 a6 → (∀ (b1 : A1) (b2 : A2) (b3 : A3) (b4 : A4) (b5 : A5) (b6 : A6), I b1 b2 b3 b4 b5 b6 → μ b1 b2 b3 b4 b5 b6 < μ a1 a2 a3 a4 a5 a6 → ∀ ls : Array Slot, lv_has ls nL (L b1 b2 b3 b4 b5 b6) → W p l e R s m args below meth c H locs cells slots Q (F0 m pc ls [])) → ∀ ls : Array Slot, lv_has ls nL (L a1 a2 a3 a4 a5 a6) → W p l e R s m args below meth c H locs cells slots Q (F0 m pc ls [])) (a1 : A1) (a2 : A2) (a3 : A3) (a4 : A4) (a5 : A5) (a6 : A6) (h0 : I a1 a2 a3 a4 a5 a6) (ls : Array Slot) (hl : lv_has ls nL (L a1 a2 a3 a4 a5 a6)) : W p l e R s m args below meth c H locs cells slots Q (F0 m pc ls []) := by
  have key : ∀ (n : Nat) (a1 : A1) (a2 : A2) (a3 : A3) (a4 : A4) (a5 : A5) (a6 : A6), μ a1 a2 a3 a4 a5 a6 < n → I a1 a2 a3 a4 a5 a6 → ∀ ls : Array Slot, lv_has ls nL (L a1 a2 a3 a4 a5 a6) → W p l e R s m args below meth c H locs cells slots Q (F0 m pc ls []) := by
    intro n
    induction n with
    | zero => intro a1 a2 a3 a4 a5 a6 h; exact absurd h (Nat.not_lt_zero _)
    | succ n ih =>
      intro a1 a2 a3 a4 a5 a6 h hi ls hl
      exact step a1 a2 a3 a4 a5 a6 hi (fun b1 b2 b3 b4 b5 b6 hb hm ls hl => ih b1 b2 b3 b4 b5 b6 (Nat.lt_of_lt_of_le hm (Nat.le_of_lt_succ h)) hb ls hl) ls hl
  exact key (μ a1 a2 a3 a4 a5 a6 + 1) a1 a2 a3 a4 a5 a6 (Nat.lt_succ_self _) h0 ls hl
theorem kq_loopM6 {A1 A2 A3 A4 A5 A6 : Type} (μ : A1 → A2 → A3 → A4 → A5 → A6 → Nat) (I : A1 → A2 → A3 → A4 → A5 → A6 → Prop) (L : A1 → A2 → A3 → A4 → A5 → A6 → List (Nat × Value)) (Wd : A1 → A2 → A3 → A4 → A5 → A6 → va_W) (hK : kq_K dC dI cI s) (step : ∀ (a1 : A1) (a2 : A2) (a3 : A3) (a4 : A4) (a5 : A5) (a6 : A6), I a1 a2 a3 a4 a5 a6 → (∀ (b1 : A1) (b2 : A2) (b3 : A3) (b4 : A4) (b5 : A5) (b6 : A6), I b1 b2 b3 b4 b5 b6 → μ b1 b2 b3 b4 b5 b6 < μ a1 a2 a3 a4 a5 a6 → ∀ (H : Heap) (locs : List Loc), va_P (dC, dI) vwCl (Wd b1 b2 b3 b4 b5 b6) H → va_D A (Wd b1 b2 b3 b4 b5 b6) → va_S A s.heap H locs → ∀ ls : Array Slot, lv_has ls nL (L b1 b2 b3 b4 b5 b6) → W p l e R s m args below meth c H locs cells slots Q (F0 m pc ls [])) → ∀ (H : Heap) (locs : List Loc), va_P (dC, dI) vwCl (Wd a1 a2 a3 a4 a5 a6) H → va_D A (Wd a1 a2 a3 a4 a5 a6) → va_S A s.heap H locs → ∀ ls : Array Slot, lv_has ls nL (L a1 a2 a3 a4 a5 a6) → W p l e R s m args below meth c H locs cells slots Q (F0 m pc ls [])) (a1 : A1) (a2 : A2) (a3 : A3) (a4 : A4) (a5 : A5) (a6 : A6) (h0 : I a1 a2 a3 a4 a5 a6) (hP : va_P (dC, dI) vwCl (Wd a1 a2 a3 a4 a5 a6) H) (hD : va_D A (Wd a1 a2 a3 a4 a5 a6)) (hS : va_S A s.heap H locs) (ls : Array Slot) (hl : lv_has ls nL (L a1 a2 a3 a4 a5 a6)) : W p l e R s m args below meth c H locs cells slots Q (F0 m pc ls []) := by
  have key : ∀ (n : Nat) (a1 : A1) (a2 : A2) (a3 : A3) (a4 : A4) (a5 : A5) (a6 : A6), μ a1 a2 a3 a4 a5 a6 < n → I a1 a2 a3 a4 a5 a6 → ∀ (H : Heap) (locs : List Loc), va_P (dC, dI) vwCl (Wd a1 a2 a3 a4 a5 a6) H → va_D A (Wd a1 a2 a3 a4 a5 a6) → va_S A s.heap H locs → ∀ ls : Array Slot, lv_has ls nL (L a1 a2 a3 a4 a5 a6) → W p l e R s m args below meth c H locs cells slots Q (F0 m pc ls []) := by
    intro n
    induction n with
    | zero => intro a1 a2 a3 a4 a5 a6 h; exact absurd h (Nat.not_lt_zero _)
    | succ n ih =>
      intro a1 a2 a3 a4 a5 a6 h hi H locs hP hD hS ls hl
      exact step a1 a2 a3 a4 a5 a6 hi (fun b1 b2 b3 b4 b5 b6 hb hm H locs hP hD hS ls hl => ih b1 b2 b3 b4 b5 b6 (Nat.lt_of_lt_of_le hm (Nat.le_of_lt_succ h)) hb H locs hP hD hS ls hl) H locs hP hD hS ls hl
  exact key (μ a1 a2 a3 a4 a5 a6 + 1) a1 a2 a3 a4 a5 a6 (Nat.lt_succ_self _) h0 H locs hP hD hS ls hl
theorem kq_loop7 {A1 A2 A3 A4 A5 A6 A7 : Type} (μ : A1 → A2 → A3 → A4 → A5 → A6 → A7 → Nat) (I : A1 → A2 → A3 → A4 → A5 → A6 → A7 → Prop) (L : A1 → A2 → A3 → A4 → A5 → A6 → A7 → List (Nat × Value)) (step : ∀ (a1 : A1) (a2 : A2) (a3 : A3) (a4 : A4) (a5 : A5) (a6 : A6) (a7 : A7), I a1 a2 a3 a4 a5 a6 a7 → (∀ (b1 : A1) (b2 : A2) (b3 : A3) (b4 : A4) (b5 : A5) (b6 : A6) (b7 : A7), I b1 b2 b3 b4 b5 b6 b7 → μ b1 b2 b3 b4 b5 b6 b7 < μ a1 a2 a3 a4 a5 a6 a7 → ∀ ls : Array Slot, lv_has ls nL (L b1 b2 b3 b4 b5 b6 b7) → W p l e R s m args below meth c H locs cells slots Q (F0 m pc ls [])) → ∀ ls : Array Slot, lv_has ls nL (L a1 a2 a3 a4 a5 a6 a7) → W p l e R s m args below meth c H locs cells slots Q (F0 m pc ls [])) (a1 : A1) (a2 : A2) (a3 : A3) (a4 : A4) (a5 : A5) (a6 : A6) (a7 : A7) (h0 : I a1 a2 a3 a4 a5 a6 a7) (ls : Array Slot) (hl : lv_has ls nL (L a1 a2 a3 a4 a5 a6 a7)) : W p l e R s m args below meth c H locs cells slots Q (F0 m pc ls []) := by
  have key : ∀ (n : Nat) (a1 : A1) (a2 : A2) (a3 : A3) (a4 : A4) (a5 : A5) (a6 : A6) (a7 : A7), μ a1 a2 a3 a4 a5 a6 a7 < n → I a1 a2 a3 a4 a5 a6 a7 → ∀ ls : Array Slot, lv_has ls nL (L a1 a2 a3 a4 a5 a6 a7) → W p l e R s m args below meth c H locs cells slots Q (F0 m pc ls []) := by
    intro n
    induction n with
    | zero => intro a1 a2 a3 a4 a5 a6 a7 h; exact absurd h (Nat.not_lt_zero _)
    | succ n ih =>
      intro a1 a2 a3 a4 a5 a6 a7 h hi ls hl
      exact step a1 a2 a3 a4 a5 a6 a7 hi (fun b1 b2 b3 b4 b5 b6 b7 hb hm ls hl => ih b1 b2 b3 b4 b5 b6 b7 (Nat.lt_of_lt_of_le hm (Nat.le_of_lt_succ h)) hb ls hl) ls hl
  exact key (μ a1 a2 a3 a4 a5 a6 a7 + 1) a1 a2 a3 a4 a5 a6 a7 (Nat.lt_succ_self _) h0 ls hl
theorem kq_loopM7 {A1 A2 A3 A4 A5 A6 A7 : Type} (μ : A1 → A2 → A3 → A4 → A5 → A6 → A7 → Nat) (I : A1 → A2 → A3 → A4 → A5 → A6 → A7 → Prop) (L : A1 → A2 → A3 → A4 → A5 → A6 → A7 → List (Nat × Value)) (Wd : A1 → A2 → A3 → A4 → A5 → A6 → A7 → va_W) (hK : kq_K dC dI cI s) (step : ∀ (a1 : A1) (a2 : A2) (a3 : A3) (a4 : A4) (a5 : A5) (a6 : A6) (a7 : A7), I a1 a2 a3 a4 a5 a6 a7 → (∀ (b1 : A1) (b2 : A2) (b3 : A3) (b4 : A4) (b5 : A5) (b6 : A6) (b7 : A7), I b1 b2 b3 b4 b5 b6 b7 → μ b1 b2 b3 b4 b5 b6 b7 < μ a1 a2 a3 a4 a5 a6 a7 → ∀ (H : Heap) (locs : List Loc), va_P (dC, dI) vwCl (Wd b1 b2 b3 b4 b5 b6 b7) H → va_D A (Wd b1 b2 b3 b4 b5 b6 b7) → va_S A s.heap H locs → ∀ ls : Array Slot, lv_has ls nL (L b1 b2 b3 b4 b5 b6 b7) → W p l e R s m args below meth c H locs cells slots Q (F0 m pc ls [])) → ∀ (H : Heap) (locs : List Loc), va_P (dC, dI) vwCl (Wd a1 a2 a3 a4 a5 a6 a7) H → va_D A (Wd a1 a2 a3 a4 a5 a6 a7) → va_S A s.heap H locs → ∀ ls : Array Slot, lv_has ls nL (L a1 a2 a3 a4 a5 a6 a7) → W p l e R s m args below meth c H locs cells slots Q (F0 m pc ls [])) (a1 : A1) (a2 : A2) (a3 : A3) (a4 : A4) (a5 : A5) (a6 : A6) (a7 : A7) (h0 : I a1 a2 a3 a4 a5 a6 a7) (hP : va_P (dC, dI) vwCl (Wd a1 a2 a3 a4 a5 a6 a7) H) (hD : va_D A (Wd a1 a2 a3 a4 a5 a6 a7)) (hS : va_S A s.heap H locs) (ls : Array Slot) (hl : lv_has ls nL (L a1 a2 a3 a4 a5 a6 a7)) : W p l e R s m args below meth c H locs cells slots Q (F0 m pc ls []) := by
  have key : ∀ (n : Nat) (a1 : A1) (a2 : A2) (a3 : A3) (a4 : A4) (a5 : A5) (a6 : A6) (a7 : A7), μ a1 a2 a3 a4 a5 a6 a7 < n → I a1 a2 a3 a4 a5 a6 a7 → ∀ (H : Heap) (locs : List Loc), va_P (dC, dI) vwCl (Wd a1 a2 a3 a4 a5 a6 a7) H → va_D A (Wd a1 a2 a3 a4 a5 a6 a7) → va_S A s.heap H locs → ∀ ls : Array Slot, lv_has ls nL (L a1 a2 a3 a4 a5 a6 a7) → W p l e R s m args below meth c H locs cells slots Q (F0 m pc ls []) := by
    intro n
    induction n with
    | zero => intro a1 a2 a3 a4 a5 a6 a7 h; exact absurd h (Nat.not_lt_zero _)
    | succ n ih =>
      intro a1 a2 a3 a4 a5 a6 a7 h hi H locs hP hD hS ls hl
      exact step a1 a2 a3 a4 a5 a6 a7 hi (fun b1 b2 b3 b4 b5 b6 b7 hb hm H locs hP hD hS ls hl => ih b1 b2 b3 b4 b5 b6 b7 (Nat.lt_of_lt_of_le hm (Nat.le_of_lt_succ h)) hb H locs hP hD hS ls hl) H locs hP hD hS ls hl
  exact key (μ a1 a2 a3 a4 a5 a6 a7 + 1) a1 a2 a3 a4 a5 a6 a7 (Nat.lt_succ_self _) h0 H locs hP hD hS ls hl
theorem kq_loop8 {A1 A2 A3 A4 A5 A6 A7 A8 : Type} (μ : A1 → A2 → A3 → A4 → A5 → A6 → A7 → A8 → Nat) (I : A1 → A2 → A3 → A4 → A5 → A6 → A7 → A8 → Prop) (L : A1 → A2 → A3 → A4 → A5 → A6 → A7 → A8 → List (Nat × Value)) (step : ∀ (a1 : A1) (a2 : A2) (a3 : A3) (a4 : A4) (a5 : A5) (a6 : A6) (a7 : A7) (a8 : A8), I a1 a2 a3 a4 a5 a6 a7 a8 → (∀ (b1 : A1) (b2 : A2) (b3 : A3) (b4 : A4) (b5 : A5) (b6 : A6) (b7 : A7) (b8 : A8), I b1 b2 b3 b4 b5 b6 b7 b8 → μ b1 b2 b3 b4 b5 b6 b7 b8 < μ a1 a2 a3 a4 a5 a6 a7 a8 → ∀ ls : Array Slot, lv_has ls nL (L b1 b2 b3 b4 b5 b6 b7 b8) → W p l e R s m args below meth c H locs cells slots Q (F0 m pc ls [])) → ∀ ls : Array Slot, lv_has ls nL (L a1 a2 a3 a4 a5 a6 a7 a8) → W p l e R s m args below meth c H locs cells slots Q (F0 m pc ls [])) (a1 : A1) (a2 : A2) (a3 : A3) (a4 : A4) (a5 : A5) (a6 : A6) (a7 : A7) (a8 : A8) (h0 : I a1 a2 a3 a4 a5 a6 a7 a8) (ls : Array Slot) (hl : lv_has ls nL (L a1 a2 a3 a4 a5 a6 a7 a8)) : W p l e R s m args below meth c H locs cells slots Q (F0 m pc ls []) := by
  have key : ∀ (n : Nat) (a1 : A1) (a2 : A2) (a3 : A3) (a4 : A4) (a5 : A5) (a6 : A6) (a7 : A7) (a8 : A8), μ a1 a2 a3 a4 a5 a6 a7 a8 < n → I a1 a2 a3 a4 a5 a6 a7 a8 → ∀ ls : Array Slot, lv_has ls nL (L a1 a2 a3 a4 a5 a6 a7 a8) → W p l e R s m args below meth c H locs cells slots Q (F0 m pc ls []) := by
    intro n
    induction n with
    | zero => intro a1 a2 a3 a4 a5 a6 a7 a8 h; exact absurd h (Nat.not_lt_zero _)
    | succ n ih =>
      intro a1 a2 a3 a4 a5 a6 a7 a8 h hi ls hl
      exact step a1 a2 a3 a4 a5 a6 a7 a8 hi (fun b1 b2 b3 b4 b5 b6 b7 b8 hb hm ls hl => ih b1 b2 b3 b4 b5 b6 b7 b8 (Nat.lt_of_lt_of_le hm (Nat.le_of_lt_succ h)) hb ls hl) ls hl
  exact key (μ a1 a2 a3 a4 a5 a6 a7 a8 + 1) a1 a2 a3 a4 a5 a6 a7 a8 (Nat.lt_succ_self _) h0 ls hl
theorem kq_loopM8 {A1 A2 A3 A4 A5 A6 A7 A8 : Type} (μ : A1 → A2 → A3 → A4 → A5 → A6 → A7 → A8 → Nat) (I : A1 → A2 → A3 → A4 → A5 → A6 → A7 → A8 → Prop) (L : A1 → A2 → A3 → A4 → A5 → A6 → A7 → A8 → List (Nat × Value)) (Wd : A1 → A2 → A3 → A4 → A5 → A6 → A7 → A8 → va_W) (hK : kq_K dC dI cI s) (step : ∀ (a1 : A1) (a2 : A2) (a3 : A3) (a4 : A4) (a5 : A5) (a6 : A6) (a7 : A7) (a8 : A8), I a1 a2 a3 a4 a5 a6 a7 a8 → (∀ (b1 : A1) (b2 : A2) (b3 : A3) (b4 : A4) (b5 : A5) (b6 : A6) (b7 : A7) (b8 : A8), I b1 b2 b3 b4 b5 b6 b7 b8 → μ b1 b2 b3 b4 b5 b6 b7 b8 < μ a1 a2 a3 a4 a5 a6 a7 a8 → ∀ (H : Heap) (locs : List Loc), va_P (dC, dI) vwCl (Wd b1 b2 b3 b4 b5 b6 b7 b8) H → va_D A (Wd b1 b2 b3 b4 b5 b6 b7 b8) → va_S A s.heap H locs → ∀ ls : Array Slot, lv_has ls nL (L b1 b2 b3 b4 b5 b6 b7 b8) → W p l e R s m args below meth c H locs cells slots Q (F0 m pc ls [])) → ∀ (H : Heap) (locs : List Loc), va_P (dC, dI) vwCl (Wd a1 a2 a3 a4 a5 a6 a7 a8) H → va_D A (Wd a1 a2 a3 a4 a5 a6 a7 a8) → va_S A s.heap H locs → ∀ ls : Array Slot, lv_has ls nL (L a1 a2 a3 a4 a5 a6 a7 a8) → W p l e R s m args below meth c H locs cells slots Q (F0 m pc ls [])) (a1 : A1) (a2 : A2) (a3 : A3) (a4 : A4) (a5 : A5) (a6 : A6) (a7 : A7) (a8 : A8) (h0 : I a1 a2 a3 a4 a5 a6 a7 a8) (hP : va_P (dC, dI) vwCl (Wd a1 a2 a3 a4 a5 a6 a7 a8) H) (hD : va_D A (Wd a1 a2 a3 a4 a5 a6 a7 a8)) (hS : va_S A s.heap H locs) (ls : Array Slot) (hl : lv_has ls nL (L a1 a2 a3 a4 a5 a6 a7 a8)) : W p l e R s m args below meth c H locs cells slots Q (F0 m pc ls []) := by
  have key : ∀ (n : Nat) (a1 : A1) (a2 : A2) (a3 : A3) (a4 : A4) (a5 : A5) (a6 : A6) (a7 : A7) (a8 : A8), μ a1 a2 a3 a4 a5 a6 a7 a8 < n → I a1 a2 a3 a4 a5 a6 a7 a8 → ∀ (H : Heap) (locs : List Loc), va_P (dC, dI) vwCl (Wd a1 a2 a3 a4 a5 a6 a7 a8) H → va_D A (Wd a1 a2 a3 a4 a5 a6 a7 a8) → va_S A s.heap H locs → ∀ ls : Array Slot, lv_has ls nL (L a1 a2 a3 a4 a5 a6 a7 a8) → W p l e R s m args below meth c H locs cells slots Q (F0 m pc ls []) := by
    intro n
    induction n with
    | zero => intro a1 a2 a3 a4 a5 a6 a7 a8 h; exact absurd h (Nat.not_lt_zero _)
    | succ n ih =>
      intro a1 a2 a3 a4 a5 a6 a7 a8 h hi H locs hP hD hS ls hl
      exact step a1 a2 a3 a4 a5 a6 a7 a8 hi (fun b1 b2 b3 b4 b5 b6 b7 b8 hb hm H locs hP hD hS ls hl => ih b1 b2 b3 b4 b5 b6 b7 b8 (Nat.lt_of_lt_of_le hm (Nat.le_of_lt_succ h)) hb H locs hP hD hS ls hl) H locs hP hD hS ls hl
  exact key (μ a1 a2 a3 a4 a5 a6 a7 a8 + 1) a1 a2 a3 a4 a5 a6 a7 a8 (Nat.lt_succ_self _) h0 H locs hP hD hS ls hl
end KQL
