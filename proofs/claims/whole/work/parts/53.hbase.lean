/-! The law's helpers: methods with a table of handlers, that return always. -/
def kq_L (dC : Nat → ClassId) (dI : Nat → Nat → Nat) (cL : ClassId) (U : State) : Prop := va_K (dC, dI) vwCl [(cL, .long)] U
def kq_H (dC : Nat → ClassId) (dI : Nat → Nat → Nat) (cI cL : ClassId) (s1 s2 s3 s4 : Nat) (as : List Value) (sz : Nat) (W0 : va_W) : Array Value → State → Prop := va_Pc as (fun U => U.heap.size = sz ∧ va_P (dC, dI) vwCl W0 U.heap ∧ kq_K dC dI cI U ∧ va_D (fun _ => True) W0 ∧ kq_T s1 s2 s3 s4 (va_A W0 sz) U U.heap ∧ kq_L dC dI cL U)
theorem kq_H_blind {dC : Nat → ClassId} {dI : Nat → Nat → Nat} {cI cL : ClassId} {s1 s2 s3 s4 : Nat} {as : List Value} {sz : Nat} {W0 : va_W} : FrameBlind (kq_H dC dI cI cL s1 s2 s3 s4 as sz W0) := fun a U g mk q => ⟨q.1, q.2.1, q.2.2.1, kq_K.same (s := U) (U := U.calling g mk a) rfl q.2.2.2.1, q.2.2.2.2.1, q.2.2.2.2.2.1.warm (s := U) (U := U.calling g mk a) (State.WarmedH.refl U), va_K.moved (u := U) (U := U.calling g mk a) (Vm.Alike.refl U.vm) q.2.2.2.2.2.2⟩
theorem kq_ofWH {l : Launch} {y : MethodName} {ws ws' : List Cond} {rm : Room} {Pc : Array Value → State → Prop} {Qc : Array Value → State → Outcome → State → Prop} {mc ms : Nat} {free : Addr → Prop} {cc : ByteArray} {maxL : Nat} {ret : Option FieldType} {hh : List (Nat × Nat × Nat × Nat)}
    (hy : plainName y.cls = true) (hw : ws = Cond.codeWith y cc maxL ret hh :: ws')
    (body : ∀ p e s m args below meth c s₁, BodyLoose p l y (headSpec ws rm) cc maxL ret e s m args below meth c s₁ → c.maxLocals = maxL → Pc args s →
      W p l e (headSpec ws rm).room s m args below meth c s.heap [] 0 0 (MQ below Qc args s mc ms free) (entryFrame m args maxL)) : Met l y ws rm Pc Qc mc ms free := by
  refine MetFree.of_bodyS (code := cc) (maxLocals := maxL) (ret := ret) hy ?_ ?_
  · intro args s m h hn
    obtain ⟨m9, meth, c, hn9, h1, h2, h3, h4, -, h5, h6, -⟩ := Cond.codeWith_spec (atoms_spec (ws := ws) h _ (by rw [hw]; exact List.mem_cons_self))
    cases hn.symm.trans hn9
    exact ⟨meth, c, h1, h2, h3, h4, h5, h6⟩
  · intro p e s m args below meth c s₁ B hml hP _
    have hh0 : s₁.heap = s.heap := by rw [B.state]; rfl
    obtain ⟨t, a1, o, b1, b2, b3⟩ := body p e s m args below meth c s₁ B hml hP s₁ hh0 (Stand.of_body B)
    exact ⟨t, o, a1, b1, b2, ⟨b3.1, b3.2⟩⟩
section KH
variable {p : Program} {l : Launch} {e : Env} {R : Room} {s : State} {m : MethodId} {args : Array Value} {below : List Frame} {meth : Method} {c : Code} {H : Heap} {locs : List Loc} {cells slots : Nat} {Q : State → Prop} {Ts ws : List Cond} {cc bytes : ByteArray} {nL maxL index n pc mc ms : Nat} {own C : String} {y : MethodName} {ret : Option FieldType} {rm : Room} {b : Addr} {As rest st0 : List Value} {ls : Array Slot} {dC : Nat → ClassId} {dI : Nat → Nat → Nat} {cI cL : ClassId} {W0 wl wr wc : va_W} {A : Nat → Prop} {s1 s2 s3 s4 : Nat} {BX : String → Prop}
theorem kq_startH {ws' : List Cond} {sz : Nat} {Qc : Array Value → State → Outcome → State → Prop} {hh : List (Nat × Nat × Nat × Nat)} (hy : plainName y.cls = true) (hw : ws = Cond.codeWith y cc maxL ret hh :: ws') (hlen : (lg_sl As).length ≤ maxL)
    (h : ∀ (p : Program) (e : Env) (s : State) (m : MethodId) (below : List Frame) (meth : Method) (c : Code), p.tables.exec = Jvm.exec → c.code = cc → meth.sig.returnType = ret → c.maxLocals = maxL → s.vm.findClass y.cls = some m.cls → meth.locks = false → (∀ w ∈ ws, w.before As.toArray s = true) → s.heap.size = sz → (∀ q : Nat, s.heap.size ≤ q → va_A W0 sz q) → va_P (dC, dI) vwCl W0 s.heap → va_D (va_A W0 sz) W0 → va_S (va_A W0 sz) s.heap s.heap [] → kq_K dC dI cI s → meth.name = y.name → c.exceptionTable.toList = tableOf hh → kq_T s1 s2 s3 s4 (va_A W0 sz) s s.heap → kq_L dC dI cL s → ∀ ls : Array Slot, lv_has ls maxL (lv_args 0 As) → W p l e rm s m As.toArray below meth c s.heap [] 0 0 (MQ below Qc As.toArray s mc ms (va_A W0 sz)) (F0 m 0 ls [])) :
    Met l y ws rm (kq_H dC dI cI cL s1 s2 s3 s4 As sz W0) Qc mc ms (va_A W0 sz) := by
  refine kq_ofWH (cc := cc) (maxL := maxL) (ret := ret) hy hw ?_
  intro p e s m args below meth c s₁ B hml hv
  obtain ⟨rfl, hsz, hP, hK, hD0, hT, hKL⟩ := hv
  have hts := atoms_spec (ws := ws) B.pre
  have hl := lv_entry As (n := maxL) hlen
  rw [lg_entry_eq]
  exact h p e s m below meth c B.exec B.bytes B.returns hml (findClass_of_methodNamed B.named) B.notSynchronized hts hsz (fun q h => Or.inr (hsz ▸ h)) hP hD0.self va_S.rf hK (name_of_methodNamed B.named B.method).1 (vx_table (x := y) B (hts _ (by rw [hw]; exact List.mem_cons_self))) hT hKL _ hl
theorem kq_An (hD : va_D A wc) (hS : va_S A s.heap H locs) (hA : ∀ q : Nat, s.heap.size ≤ q → A q) : ∀ q, va_A wc H.size q → A q := fun q z => z.elim (fun ⟨k, e9, h9⟩ => hD.2 k (q, e9) h9) (fun z => hA q (Nat.le_trans hS.1 z))
theorem kq_preVX {ci q0 : Nat} {qc : vw_C} {fs : List Value} (hP : va_P (dC, dI) vwCl wc H) (hD : va_D A wc) (hS : va_S A s.heap H locs) (hA : ∀ q : Nat, s.heap.size ≤ q → A q) (hK : kq_K dC dI cI s) (hT : kq_T s1 s2 s3 s4 A s s.heap) (hc : vwCl[ci]? = some qc) (he : wc[q0]? = some (b, .inr (ci, fs))) : PreV s H qc.1 b (kq_X dC dI cI s1 s2 s3 s4 (.ref b :: As) H.size wc) As :=
  ⟨kq_X_blind, va_recv hK.1 hP hc he, fun U hU hW' => ⟨rfl, by rw [hU], by rw [hU]; exact hP, hK.warm hW', hD.weaken (fun _ _ _ _ => trivial), by rw [hU]; exact ((hT.kept hS.2.1).narrow (kq_An hD hS hA)).warm hW'⟩⟩
theorem kq_preSH (hP : va_P (dC, dI) vwCl wc H) (hD : va_D A wc) (hS : va_S A s.heap H locs) (hA : ∀ q : Nat, s.heap.size ≤ q → A q) (hK : kq_K dC dI cI s) (hKL : kq_L dC dI cL s) (hT : kq_T s1 s2 s3 s4 A s s.heap) : PreS s H (kq_H dC dI cI cL s1 s2 s3 s4 As H.size wc) As :=
  ⟨kq_H_blind, fun U hU hW' => ⟨rfl, by rw [hU], by rw [hU]; exact hP, hK.warm hW', hD.weaken (fun _ _ _ _ => trivial), by rw [hU]; exact ((hT.kept hS.2.1).narrow (kq_An hD hS hA)).warm hW', va_K.moved hW'.alike hKL⟩⟩
/-- a call that throws: to the table of this method -/
theorem kq_xtry (hr : vx_Run p l e R s m args below meth c H locs cells slots mc ms (F0 m pc ls st0) rest (fun _ _ _ => False) (kq_XC dC dI BX wc (va_A wc H.size)) (va_A wc H.size)) (hP : va_P (dC, dI) vwCl wl H) (hD : va_D A wl) (hS : va_S A s.heap H locs) (hA : ∀ q : Nat, s.heap.size ≤ q → A q) (isC isR : List Nat) (hC : isC.map (fun i => wl[i]?) = wc.map some) (hR : isR.map (fun i => wl[i]?) = wr.map some) (hnC : va_nd isC = true) (hn : va_nd isR = true) (hdis : ∀ i ∈ isR, i ∉ isC)
    (kx : ∀ (E : String) (ce : Cell) (q9 : Addr) (H1 : Heap) (locs1 : List Loc), BX E → va_P (dC, dI) vwCl (wr ++ wc) H1 → va_D A (wr ++ wc) → va_S A s.heap H1 locs1 → H1[q9]? = some ce → ce.vm = .none → s.vm.findClass E = some ce.cls → vx_W p l e R s m args below meth c H1 locs1 (cells + mc) (slots + ms) Q (F0 m pc ls rest) q9) : W p l e R s m args below meth c H locs cells slots Q (F0 m pc ls st0) := by
  have hF := va_free (wc := wc) hD hS hA isC hC
  intro T hT X
  rcases hr T hT X with ⟨v, st₀, t, T', L, h0, X', hL, e1, e2, hf, st⟩ | ⟨q, st₀, t, T', L, E, ce, h0, X', hL, e1, e2, ⟨u, -, ⟨hb, hPw⟩, hFF⟩, hce, hcv, hcl, st⟩
  · exact hf.elim
  · obtain ⟨k1, k2, k3⟩ := vx_keep (A0 := A) (A1 := va_A wc H.size) h0 e1 hS (fun q _ h => hF q h) hF hL hFF
    have hDw : va_D (va_A wc H.size) wc := ((hD.sub isC hnC hC).weaken (fun _ _ _ _ => trivial) : va_D (fun _ => True) wc).self
    obtain ⟨hP2, hD2⟩ := va_join hP hD isC isR hC hR hn hdis (H1 := T'.heap) k2 hF (by rw [e1]; exact hPw) hDw
    obtain ⟨t2, a1, b1⟩ := kx E ce q T'.heap (locs ++ L) hb hP2 hD2 k3 (by rw [e1]; exact hce) hcv hcl T' rfl X'
    exact ⟨t2, st.trans a1, b1⟩
end KH
