/-! Contracts that read the law's script beside their world: kq_RX (reads only), kq_MX (writes its world). -/
def kq_RX (dC : Nat → ClassId) (dI : Nat → Nat → Nat) (cI : ClassId) (sb sL : Nat) (xs : Nat → Int32) (as : List Value) (W0 : va_W) : Array Value → State → Prop := va_Pc as (fun U => (va_P (dC, dI) vwCl W0 U.heap ∧ kq_K dC dI cI U) ∧ va_X sb sL xs U U.heap)
theorem kq_RX_blind {dC : Nat → ClassId} {dI : Nat → Nat → Nat} {cI : ClassId} {sb sL : Nat} {xs : Nat → Int32} {as : List Value} {W0 : va_W} : FrameBlind (kq_RX dC dI cI sb sL xs as W0) := fun a U g mk q => ⟨q.1, ⟨q.2.1.1, kq_K.same (s := U) (U := U.calling g mk a) rfl q.2.1.2⟩, va_X.moved (u := U) (U := U.calling g mk a) (Vm.Alike.refl U.vm) q.2.2⟩
def kq_MX (dC : Nat → ClassId) (dI : Nat → Nat → Nat) (cI : ClassId) (sb sL : Nat) (xs : Nat → Int32) (as : List Value) (sz : Nat) (W0 : va_W) : Array Value → State → Prop := va_Pc as (fun U => (U.heap.size = sz ∧ va_P (dC, dI) vwCl W0 U.heap ∧ kq_K dC dI cI U ∧ va_D (fun _ => True) W0) ∧ va_X sb sL xs U U.heap ∧ ¬ va_A W0 sz sb)
theorem kq_MX_blind {dC : Nat → ClassId} {dI : Nat → Nat → Nat} {cI : ClassId} {sb sL : Nat} {xs : Nat → Int32} {as : List Value} {sz : Nat} {W0 : va_W} : FrameBlind (kq_MX dC dI cI sb sL xs as sz W0) := fun a U g mk q => ⟨q.1, ⟨q.2.1.1, q.2.1.2.1, kq_K.same (s := U) (U := U.calling g mk a) rfl q.2.1.2.2.1, q.2.1.2.2.2⟩, va_X.moved (u := U) (U := U.calling g mk a) (Vm.Alike.refl U.vm) q.2.2.1, q.2.2.2⟩
theorem kq_xlt {sb sL : Nat} {xs : Nat → Int32} {U : State} {H : Heap} (h : va_X sb sL xs U H) : sb < H.size := by
  obtain ⟨scr, h1, -⟩ := h
  exact (Array.getElem?_eq_some_iff.mp h1).1
section KQX
variable {p : Program} {l : Launch} {e : Env} {R : Room} {s : State} {m : MethodId} {args : Array Value} {below : List Frame} {meth : Method} {c : Code} {H : Heap} {locs : List Loc} {cells slots : Nat} {Q : State → Prop} {Ts ws : List Cond} {cc bytes : ByteArray} {nL maxL index n pc mc ms : Nat} {own C host : String} {y : MethodName} {ret : Option FieldType} {rm : Room} {b : Addr} {As rest st0 : List Value} {ls : Array Slot} {dC : Nat → ClassId} {dI : Nat → Nat → Nat} {cI : ClassId} {W0 : va_W} {A : Nat → Prop} {sb sL : Nat} {xs : Nat → Int32} {wl wc : va_W}
theorem kq_xk (hX : va_X sb sL xs s s.heap) (hbl : sb < s.heap.size) (hbA : ¬ A sb) (hS : va_S A s.heap H locs) : va_X sb sL xs s H := hX.kept (hS.2.1 sb hbl hbA)
/-- a static method that reads, the script too -/
theorem kq_cSX {r : Int32} (S : CallFix p m c cc nL s args Ts own) (hM : Met l y ws rm (kq_RX dC dI cI sb sL xs As W0) (QcRead r) 0 0 (fun _ => False)) (cw : CallB R s args own index y bytes maxL ret ws rm 0 0 n ∧ (Cond.static y).before args s = true) (hP : va_P (dC, dI) vwCl W0 H) (hX : va_X sb sL xs s H) (hK : kq_K dC dI cI s) (hn : As.length = n) (hsize : ls.size = nL) (hstack : st0 = As.reverse ++ rest) (hW : (rest.map fun v => v.category).sum ≤ 8) (hdg : decode cc pc = .ok (.invokestatic index, 3)) (hf : cells ≤ R.cells ∧ slots ≤ R.slots) (kk : W p l e R s m args below meth c H locs cells slots Q (F0 m (pc + 3) ls (.int r :: rest))) : W p l e R s m args below meth c H locs cells slots Q (F0 m pc ls st0) :=
  kq_callR (va_runS S hM cw ⟨kq_RX_blind, fun U hU hW' => ⟨rfl, ⟨by rw [hU]; exact hP, hK.warm hW'⟩, by rw [hU]; exact va_X.moved hW'.alike hX⟩⟩ rfl hn hsize hstack (lv_room hW) hdg hf) kk
theorem kq_startRX {ws' : List Cond} {Qc : Array Value → State → Outcome → State → Prop} (hy : plainFor y = true) (hw : ws = Cond.code y cc maxL ret :: ws') (hlen : (lg_sl As).length ≤ maxL)
    (h : ∀ (p : Program) (e : Env) (s : State) (m : MethodId) (below : List Frame) (meth : Method) (c : Code), p.tables.exec = Jvm.exec → c.code = cc → meth.sig.returnType = ret → c.maxLocals = maxL → s.vm.findClass y.cls = some m.cls → meth.locks = false → (∀ w ∈ ws, w.before As.toArray s = true) → va_P (dC, dI) vwCl W0 s.heap → kq_K dC dI cI s → va_X sb sL xs s s.heap → sb < s.heap.size → ∀ ls : Array Slot, lv_has ls maxL (lv_args 0 As) → W p l e rm s m As.toArray below meth c s.heap [] 0 0 (MQ below Qc As.toArray s mc ms (fun _ => False)) (F0 m 0 ls [])) :
    Met l y ws rm (kq_RX dC dI cI sb sL xs As W0) Qc mc ms (fun _ => False) := by
  refine va_MetF (cc := cc) (maxL := maxL) (ret := ret) hy hw ?_
  intro p e s m args below meth c s₁ B hml hv
  obtain ⟨rfl, ⟨hP, hK⟩, hX⟩ := hv
  have hts := atoms_spec (ws := ws) B.pre
  have hl := lv_entry As (n := maxL) hlen
  rw [lg_entry_eq]
  exact h p e s m below meth c B.exec B.bytes B.returns hml (findClass_of_methodNamed B.named) B.notSynchronized hts hP hK hX (kq_xlt hX) _ hl
theorem kq_startMX {ws' : List Cond} {sz : Nat} {Qc : Array Value → State → Outcome → State → Prop} (hy : plainName y.cls = true) (hw : ws = Cond.code y cc maxL ret :: ws') (hlen : (lg_sl As).length ≤ maxL)
    (h : ∀ (p : Program) (e : Env) (s : State) (m : MethodId) (below : List Frame) (meth : Method) (c : Code), p.tables.exec = Jvm.exec → c.code = cc → meth.sig.returnType = ret → c.maxLocals = maxL → s.vm.findClass y.cls = some m.cls → meth.locks = false → (∀ w ∈ ws, w.before As.toArray s = true) → s.heap.size = sz → (∀ q : Nat, s.heap.size ≤ q → va_A W0 sz q) → va_P (dC, dI) vwCl W0 s.heap → va_D (va_A W0 sz) W0 → va_S (va_A W0 sz) s.heap s.heap [] → kq_K dC dI cI s → meth.name = y.name → va_X sb sL xs s s.heap → sb < s.heap.size → ¬ va_A W0 sz sb → ∀ ls : Array Slot, lv_has ls maxL (lv_args 0 As) → W p l e rm s m As.toArray below meth c s.heap [] 0 0 (MQ below Qc As.toArray s mc ms (va_A W0 sz)) (F0 m 0 ls [])) :
    Met l y ws rm (kq_MX dC dI cI sb sL xs As sz W0) Qc mc ms (va_A W0 sz) := by
  refine Met.ofW (cc := cc) (maxL := maxL) (ret := ret) hy hw ?_
  intro p e s m args below meth c s₁ B hml hv
  obtain ⟨rfl, ⟨hsz, hP, hK, hD0⟩, hX, hbA⟩ := hv
  have hts := atoms_spec (ws := ws) B.pre
  have hl := lv_entry As (n := maxL) hlen
  rw [lg_entry_eq]
  exact h p e s m below meth c B.exec B.bytes B.returns hml (findClass_of_methodNamed B.named) B.notSynchronized hts hsz (fun q h => Or.inr (hsz ▸ h)) hP hD0.self va_S.rf hK (name_of_methodNamed B.named B.method).1 hX (kq_xlt hX) hbA _ hl
/-- what a call of a method that writes and reads the script wants -/
theorem kq_preSX (hP : va_P (dC, dI) vwCl wc H) (hD : va_D A wc) (hK : kq_K dC dI cI s) (hX : va_X sb sL xs s H) (hn : ¬ va_A wc H.size sb) : PreS s H (kq_MX dC dI cI sb sL xs As H.size wc) As := ⟨kq_MX_blind, fun U hU hW' => ⟨rfl, ⟨by rw [hU], by rw [hU]; exact hP, hK.warm hW', hD.weaken (fun _ _ _ _ => trivial)⟩, by rw [hU]; exact va_X.moved hW'.alike hX, hn⟩⟩
/-- roads that meet again -/
theorem kq_join {L : List (Nat × Value)} {st : List Value} {J : Nat} {g : JFrame} (h : ∀ ls : Array Slot, lv_has ls nL L → W p l e R s m args below meth c H locs cells slots Q (F0 m J ls st)) (k : (∀ ls : Array Slot, lv_has ls nL L → W p l e R s m args below meth c H locs cells slots Q (F0 m J ls st)) → W p l e R s m args below meth c H locs cells slots Q g) : W p l e R s m args below meth c H locs cells slots Q g := k h
end KQX
