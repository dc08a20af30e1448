/-! Where a call of the class is refused: what must stand, what is thrown, and that nothing of the world has changed. -/
def kq_C (U : State) : Prop := va_Nw (.castable "java/lang/IndexOutOfBoundsException" "java/lang/IndexOutOfBoundsException") U ∧ va_Nw (.castable "java/lang/IllegalArgumentException" "java/lang/IllegalArgumentException") U ∧ va_Nw (.castable "java/lang/IllegalStateException" "java/lang/IllegalStateException") U ∧ va_Nc "java/lang/IllegalArgumentException" "java/lang/IndexOutOfBoundsException" U ∧ va_Nc "java/lang/IllegalStateException" "java/lang/IllegalArgumentException" U ∧ va_Nw (.declares (Bundle.initS "java/lang/RuntimeException")) U ∧ va_Nw (.declares (Bundle.initS "java/lang/Exception")) U ∧ va_Nw (.declares (Bundle.initS Bundle.tN)) U
theorem kq_C.warm {s U : State} (hW : s.WarmedH U.vm) (h : kq_C s) : kq_C U := ⟨va_Nw.warmC hW h.1, va_Nw.warmC hW h.2.1, va_Nw.warmC hW h.2.2.1, va_Nc.moved hW.alike h.2.2.2.1, va_Nc.moved hW.alike h.2.2.2.2.1, va_Nw.warmD hW h.2.2.2.2.2.1, va_Nw.warmD hW h.2.2.2.2.2.2.1, va_Nw.warmD hW h.2.2.2.2.2.2.2⟩
def kq_T (s1 s2 s3 s4 : Nat) (A : Nat → Prop) (U : State) (H : Heap) : Prop := vx_Zq Bundle.tN "UNASSIGNED_STACK" Bundle.steD A U H ∧ vx_Zq Bundle.tN "SUPPRESSED_SENTINEL" Bundle.listD A U H ∧ vk_R RX5 281 "there is no such place" s1 U ∧ vk_R RX5 286 "an argument is not allowed" s2 U ∧ vk_R RX5 124 "the buffer is full" s3 U ∧ vk_R RX5 151 "no state is saved" s4 U ∧ kq_C U
theorem kq_T.warm {s1 s2 s3 s4 : Nat} {A : Nat → Prop} {s U : State} {H : Heap} (hW : s.WarmedH U.vm) (h : kq_T s1 s2 s3 s4 A s H) : kq_T s1 s2 s3 s4 A U H := ⟨vx_Zq.moved hW.alike h.1, vx_Zq.moved hW.alike h.2.1, vk_R.warm hW h.2.2.1, vk_R.warm hW h.2.2.2.1, vk_R.warm hW h.2.2.2.2.1, vk_R.warm hW h.2.2.2.2.2.1, kq_C.warm hW h.2.2.2.2.2.2⟩
theorem kq_T.kept {s1 s2 s3 s4 : Nat} {A : Nat → Prop} {U : State} {H H1 : Heap} (h : kq_T s1 s2 s3 s4 A U H) (hq : ∀ a : Nat, a < H.size → ¬ A a → H1[a]? = H[a]?) : kq_T s1 s2 s3 s4 A U H1 := ⟨h.1.kept hq, h.2.1.kept hq, h.2.2⟩
theorem kq_T.narrow {s1 s2 s3 s4 : Nat} {A B : Nat → Prop} {U : State} {H : Heap} (h : kq_T s1 s2 s3 s4 A U H) (hAB : ∀ q, B q → A q) : kq_T s1 s2 s3 s4 B U H := ⟨h.1.narrow hAB, h.2.1.narrow hAB, h.2.2⟩
def kq_X (dC : Nat → ClassId) (dI : Nat → Nat → Nat) (cI : ClassId) (s1 s2 s3 s4 : Nat) (as : List Value) (sz : Nat) (W0 : va_W) : Array Value → State → Prop := va_Pc as (fun U => U.heap.size = sz ∧ va_P (dC, dI) vwCl W0 U.heap ∧ kq_K dC dI cI U ∧ va_D (fun _ => True) W0 ∧ kq_T s1 s2 s3 s4 (va_A W0 sz) U U.heap)
theorem kq_X_blind {dC : Nat → ClassId} {dI : Nat → Nat → Nat} {cI : ClassId} {s1 s2 s3 s4 : Nat} {as : List Value} {sz : Nat} {W0 : va_W} : FrameBlind (kq_X dC dI cI s1 s2 s3 s4 as sz W0) := fun a U g mk q => ⟨q.1, q.2.1, q.2.2.1, kq_K.same (s := U) (U := U.calling g mk a) rfl q.2.2.2.1, q.2.2.2.2.1, q.2.2.2.2.2.warm (s := U) (U := U.calling g mk a) (State.WarmedH.refl U)⟩
def kq_XC (dC : Nat → ClassId) (dI : Nat → Nat → Nat) (BX : String → Prop) (W0 : va_W) (A : Nat → Prop) : String → State → State → Prop := vx_X (S := Unit) (fun _ => True) (fun E _ t => BX E ∧ va_P (dC, dI) vwCl W0 t.heap) A
def kq_no : Array Value → State → Outcome → State → Prop := fun _ _ _ _ => False
theorem kq_P0 {D : va_G} {H : Heap} : va_P D vwCl [] H := fun k q h => by cases k <;> cases h
theorem kq_D0 {A : Nat → Prop} : va_D A [] := ⟨fun i j p q h => (by cases i <;> cases h), fun k q h => (by cases k <;> cases h)⟩
section KX
variable {p : Program} {l : Launch} {e : Env} {R : Room} {s : State} {m : MethodId} {args : Array Value} {below : List Frame} {meth : Method} {c : Code} {H : Heap} {locs : List Loc} {cells slots : Nat} {Ts ws : List Cond} {cc bytes : ByteArray} {nL maxL index n pc mc ms : Nat} {own C : String} {y : MethodName} {ret : Option FieldType} {rm : Room} {b : Addr} {As rest st0 : List Value} {ls : Array Slot} {dC : Nat → ClassId} {dI : Nat → Nat → Nat} {cI : ClassId} {W0 wl : va_W} {A : Nat → Prop} {s1 s2 s3 s4 : Nat} {BX BX' : String → Prop} {Qc : Array Value → State → Outcome → State → Prop}
theorem kq_startX {ws' : List Cond} {sz : Nat} {XC : String → State → State → Prop} (hy : plainName y.cls = true) (hw : ws = Cond.code y cc maxL ret :: ws') (hlen : (lg_sl As).length ≤ maxL)
    (h : ∀ (p : Program) (e : Env) (s : State) (m : MethodId) (below : List Frame) (meth : Method) (c : Code), p.tables.exec = Jvm.exec → c.code = cc → meth.sig.returnType = ret → c.maxLocals = maxL → s.vm.findClass y.cls = some m.cls → meth.locks = false → (∀ w ∈ ws, w.before As.toArray s = true) → s.heap.size = sz → (∀ q : Nat, s.heap.size ≤ q → va_A W0 sz q) → va_P (dC, dI) vwCl W0 s.heap → va_D (va_A W0 sz) W0 → va_S (va_A W0 sz) s.heap s.heap [] → kq_K dC dI cI s → meth.name = y.name → (∀ x ∈ c.exceptionTable.toList, False) → kq_T s1 s2 s3 s4 (va_A W0 sz) s s.heap → ∀ ls : Array Slot, lv_has ls maxL (lv_args 0 As) → W p l e rm s m As.toArray below meth c s.heap [] 0 0 (vx_MQ below Qc XC As.toArray s mc ms (va_A W0 sz)) (F0 m 0 ls [])) :
    vx_Met l y ws rm (kq_X dC dI cI s1 s2 s3 s4 As sz W0) Qc XC mc ms (va_A W0 sz) := by
  refine vx_ofW (cc := cc) (maxL := maxL) (ret := ret) hy hw ?_
  intro p e s m args below meth c s₁ B hml hnt hv
  obtain ⟨rfl, hsz, hP, hK, hD0, hT⟩ := hv
  have hts := atoms_spec (ws := ws) B.pre
  have hl := lv_entry As (n := maxL) hlen
  rw [lg_entry_eq]
  exact h p e s m below meth c B.exec B.bytes B.returns hml (findClass_of_methodNamed B.named) B.notSynchronized hts hsz (fun q h => Or.inr (hsz ▸ h)) hP hD0.self va_S.rf hK (name_of_methodNamed B.named B.method).1 hnt hT _ hl
/-- what is thrown, told to the caller -/
theorem kq_xc {t : State} {E : String} (isR : List Nat) (hP : va_P (dC, dI) vwCl wl H) (hD : va_D A wl) (hS : va_S A s.heap H locs) (hA : ∀ q : Nat, s.heap.size ≤ q → A q) (hR : isR.map (fun i => wl[i]?) = W0.map some) (hn : va_nd isR = true) (h1 : H.size ≤ t.heap.size) (h2 : ∀ q : Nat, q < H.size → t.heap[q]? = H[q]?) (hE : BX E) : kq_XC dC dI BX W0 A E s t := by
  have hF := va_free (wc := []) hD hS hA [] rfl
  obtain ⟨hP2, -⟩ := va_join hP hD [] isR rfl hR hn (fun i _ h => nomatch h) (H1 := t.heap) (fun q hq _ => h2 q hq) hF kq_P0 kq_D0
  refine ⟨(), trivial, ⟨hE, by rw [List.append_nil] at hP2; exact hP2⟩, Nat.le_trans hS.1 h1, fun q hq ha => ?_⟩
  rw [h2 q (Nat.lt_of_lt_of_le hq hS.1)]
  exact hS.2.1 q hq ha
/-- a call that is refused, and so the caller's -/
theorem kq_xcall (isR : List Nat) (hr : vx_Run p l e R s m args below meth c H locs cells slots mc ms (F0 m pc ls st0) rest (fun _ _ _ => False) (kq_XC dC dI BX [] (va_A [] H.size)) (va_A [] H.size)) (hP : va_P (dC, dI) vwCl wl H) (hD : va_D A wl) (hS : va_S A s.heap H locs) (hA : ∀ q : Nat, s.heap.size ≤ q → A q) (hR : isR.map (fun i => wl[i]?) = W0.map some) (hn : va_nd isR = true) (hnt : ∀ x ∈ c.exceptionTable.toList, False) (hlocks : meth.locks = false) (hBX : ∀ E, BX E → BX' E) : W p l e R s m args below meth c H locs cells slots (vx_MQ below Qc (kq_XC dC dI BX' W0 A) args s (cells + mc) (slots + ms) A) (F0 m pc ls st0) := by
  have hF := va_free (wc := []) hD hS hA [] rfl
  intro T hT X
  rcases hr T hT X with ⟨v, st₀, t, T', L, h0, X', hL, e1, e2, hf, st⟩ | ⟨q, st₀, t, T', L, E, ce, h0, X', hL, e1, e2, ⟨u, -, ⟨hb, -⟩, hFF⟩, hce, hcv, hcl, st⟩
  · exact hf.elim
  · obtain ⟨k1, k2, k3⟩ := vx_keep (A0 := A) (A1 := va_A [] H.size) h0 e1 hS (fun q _ h => hF q h) hF hL hFF
    have k4 : ∀ q : Nat, q < H.size → T'.heap[q]? = H[q]? := fun q hq => k2 q hq (fun z => z.elim (fun ⟨k, e9, h9⟩ => (by cases k <;> cases h9)) (fun z => absurd hq (Nat.not_lt.mpr z)))
    obtain ⟨t2, a1, b1⟩ := vx_out (p := p) (l := l) (e := e) (R := R) (s := s) (m := m) (args := args) (below := below) (meth := meth) (c := c) (H := T'.heap) (pc := pc) (ls := ls) (rest := rest) (E := E) (ce := ce) (q := q) (mc := cells + mc) (ms := slots + ms) (free := A) (Qc := Qc) (XC := kq_XC dC dI BX' W0 A) (fun x hx => (hnt x hx).elim) hlocks (by rw [e1]; exact hce) hcv hcl (fun t9 h9 _ => kq_xc isR hP hD hS hA hR hn (by rw [h9]; exact k1) (by rw [h9]; exact k4) (hBX E hb)) k3.2.2 (Nat.le_refl _) (Nat.le_refl _) T' rfl X'
    exact ⟨t2, st.trans a1, b1⟩
theorem kq_preX (hS : va_S A s.heap H locs) (hA : ∀ q : Nat, s.heap.size ≤ q → A q) (hK : kq_K dC dI cI s) (hT : kq_T s1 s2 s3 s4 A s s.heap) : PreS s H (kq_X dC dI cI s1 s2 s3 s4 As H.size []) As := ⟨kq_X_blind, fun U hU hW' => ⟨rfl, by rw [hU], kq_P0, hK.warm hW', kq_D0, by rw [hU]; exact ((hT.kept hS.2.1).narrow (fun q z => z.elim (fun ⟨k, e9, h9⟩ => (by cases k <;> cases h9)) (fun z => hA q (Nat.le_trans hS.1 z)))).warm hW'⟩⟩
end KX
