/-! rows for methods with a table of their own, for catching, for the law's script -/
section ZK4A
/-- the classes of exceptions that are not one another's -/
def zNc : List (String × String) := [("java/lang/IllegalStateException", "java/lang/IndexOutOfBoundsException")]
def zNcs (U : State) : Prop := ∀ q ∈ zNc, va_Nc q.1 q.2 U
theorem zNcs.moved {u U : State} (hvm : u.vm.Alike U.vm) (h : zNcs u) : zNcs U := fun q hq => va_Nc.moved hvm (h q hq)
def zPre2 (g : zG) (C : Nat → va_E) (av : List Value) : Array Value → State → Prop := va_Pc av (fun U => (zW g C U.heap ∧ zKK g U) ∧ zNcs U)
theorem zPre2_blind (g : zG) (C : Nat → va_E) (av : List Value) : FrameBlind (zPre2 g C av) := fun _ U f mk q => ⟨q.1, ⟨q.2.1.1, q.2.1.2.call⟩, zNcs.moved (u := U) (U := U.calling f mk _) (Vm.Alike.refl U.vm) q.2.2⟩
theorem z_enterT {l : Launch} {g : zG} {y : MethodName} {ws ws' : List Cond} {rm : Room} {av : List Value} {C : Nat → va_E} {cc : ByteArray} {nL mc ms : Nat} {ret : Option FieldType} {hh : List (Nat × Nat × Nat × Nat)} {Qc : Array Value → State → Outcome → State → Prop} (own : String) (hown : y.cls = own) (hy : plainName y.cls = true) (hw : ws = Cond.codeWith y cc nL ret hh :: ws') (hlen : (lg_sl av).length ≤ nL)
    (body : ∀ p e s m args below meth c, zF p m meth c cc nL ret s args ws own g → args = av.toArray → c.exceptionTable.toList = tableOf hh → zNcs s → Z p l e rm s m args below meth c (MQ below Qc args s mc ms (zA g)) g nL 0 0 C (lv_args 0 av) 0 []) : Met l y ws rm (zPre2 g C av) Qc mc ms (zA g) := by
  refine MetFree.of_bodyS (code := cc) (maxLocals := nL) (ret := ret) hy ?_ ?_
  · intro args s m h hn
    obtain ⟨m9, meth, c, hn9, h1, h2, h3, h4, -, h5, h6, -⟩ := Cond.codeWith_spec (atoms_spec (ws := ws) h _ (by rw [hw]; exact List.mem_cons_self))
    cases hn.symm.trans hn9
    exact ⟨meth, c, h1, h2, h3, h4, h5, h6⟩
  · intro p e s m args below meth c s₁ B hml hv _
    have hh0 : s₁.heap = s.heap := by rw [B.state]; rfl
    have hts := atoms_spec (ws := ws) B.pre
    have htab := vx_table (x := y) B (hts _ (by rw [hw]; exact List.mem_cons_self))
    have hfc : s.vm.findClass own = some m.cls := hown ▸ findClass_of_methodNamed B.named
    obtain ⟨rfl, ⟨hW, hK⟩, hN⟩ := hv
    have Kb := body p e s m _ below meth c ⟨⟨B.exec, B.bytes, hml, hfc, hts⟩, B.returns, B.notSynchronized, hK⟩ rfl htab hN s.heap [] _ hW va_S.rf (lv_entry av hlen)
    have Kc : W p l e rm s m av.toArray below meth c s.heap [] 0 0 (MQ below Qc av.toArray s mc ms (zA g)) (entryFrame m av.toArray nL) := by
      rw [lg_entry_eq]
      exact Kb
    obtain ⟨t, a1, o, b1, b2, b3⟩ := Kc s₁ hh0 (Stand.of_body B)
    exact ⟨t, o, a1, b1, b2, ⟨b3.1, b3.2⟩⟩
variable {p : Program} {l : Launch} {e : Env} {R : Room} {s : State} {m : MethodId} {args : Array Value} {below : List Frame} {meth : Method} {c : Code} {Q : State → Prop} {g : zG} {cc : ByteArray} {nL kc ks : Nat} {ret : Option FieldType} {Ts : List Cond} {own : String} {C : Nat → va_E} {lv : List (Nat × Value)} {pc : Nat} {st : List Value}
theorem z_catch (K : zF p m meth c cc nL ret s args Ts own g) (hN : zNcs s) {E : String} (pre : List ExceptionTableEntry) (x : ExceptionTableEntry) (suf : List ExceptionTableEntry) (hsplit : c.exceptionTable.toList = pre ++ x :: suf)
    (hpass : ∀ z ∈ pre, z.catchType ≠ 0 ∧ ∃ nm : String, Cond.classLink own z.catchType nm ∈ Ts ∧ (E, nm) ∈ zNc) (hx : covers x pc = true) (h0 : x.catchType ≠ 0) (hlink : Cond.classLink own x.catchType E ∈ Ts) (hcast : Cond.castable E E ∈ zBad) {n : Nat} (hn : x.handlerPc = n)
    (k : ∀ q : Nat, Z p l e R s m args below meth c Q g nL kc ks C lv n [.ref q]) : ZX p l e R s m args below meth c Q g nL kc ks C lv pc st E := by
  subst hn
  intro H locs ls ce q hW hS hl hq hv hcl
  have hts := K.1.2.2.2.2
  have hb : (Cond.castable E E).before args s = true := va_Nw.use (zBad_tab hcast) (K.2.2.2.2.2.2.2.2.2 _ hcast)
  exact vx_catch K.1.2.2.2.1 pre x suf hsplit (fun z hz => by
    obtain ⟨h1, nm, h2, h3⟩ := hpass z hz
    exact Or.inr ⟨h1, nm, hts _ h2, hN _ h3⟩) hx h0 (hts _ hlink) hb hq hv hcl (k q H locs ls hW hS hl)
/-- a call of a method with a table of its own -/
theorem z_vT (n : Nat) (K : zF p m meth c cc nL ret s args Ts own g) (hN : zNcs s) {y : MethodName} {bytes : ByteArray} {maxL mc ms na index : Nat} {rt : Option FieldType} {hh : List (Nat × Nat × Nat × Nat)} {ws : List Cond} {rm : Room} {As rest : List Value} {post : Int → (Nat → va_E) → Prop} (hM : Met l y ws rm (zPre2 g C As) (zQi g post) mc ms (zA g)) (cw : vx_CSW R s args own index y bytes maxL rt hh ws rm mc ms na) (hn : As.length = na) (hWd : (rest.map fun v => v.category).sum ≤ 8) (hdg : decode cc pc = .ok (.invokestatic index, 3)) (hpc : pc + 3 = n) (hf : kc + mc ≤ R.cells ∧ ks + ms ≤ R.slots) (hst : st = As.reverse ++ rest) (k : ∀ (z : Int) (C' : Nat → va_E), post z C' → Z p l e R s m args below meth c Q g nL (kc + mc) (ks + ms) C' lv n (.int (iZ z) :: rest)) : Z p l e R s m args below meth c Q g nL kc ks C lv pc st := by
  subst hpc
  subst hst
  intro H locs ls hW hS hl
  refine va_calli (vx_runSW (As := As) (rest := rest) K.1 hM cw ⟨zPre2_blind g C _, fun U hU hWm => ⟨rfl, ⟨by rw [hU]; exact hW, zKK.warm K.2.2.2 hS hU hWm⟩, zNcs.moved hWm.alike hN⟩⟩ rfl hn hl.1 rfl (lv_room hWd) hdg hf) hS (fun _ _ h => h) (fun _ h => h) (fun r C1 t H1 locs1 ht _ hw hB _ _ hS1 => ?_)
  obtain ⟨z, rfl, hw⟩ := hw
  exact k z C1 hw H1 locs1 ls (by rw [← ht]; exact hB) hS1 hl
def xI (xs : Nat → Int32) (i : Int) : Int := (xs i.toNat).toInt
theorem xI_rng (xs : Nat → Int32) (i : Int) : -2147483648 ≤ xI xs i ∧ xI xs i < 2147483648 := iZ_rng _
theorem z_sld (n : Nat) (K : zF p m meth c cc nL ret s args Ts own g) {b L : Nat} {xs : Nat → Int32} (hX : va_X b L xs s s.heap) (hbl : b < s.heap.size) (hbA : ¬ zA g b) (hL : (L : Int) < 2147483648) {i : Int} (h0 : 0 ≤ i) (h1 : i < L) (hdg : decode cc pc = .ok (.iaload, 1)) (hpc : pc + 1 = n) (k : Z p l e R s m args below meth c Q g nL kc ks C lv n (.int (iZ (xI xs i)) :: st)) : Z p l e R s m args below meth c Q g nL kc ks C lv pc (.int (iZ i) :: .ref b :: st) := by
  subst hpc
  intro H locs ls hW hS hl
  refine va_sld K.1.1 K.1.2.1 hX hbl hbA hS (iZ_in h0 h1 hL) hdg ?_
  rw [iZ_cl ⟨by omega, by omega⟩, iZ_of (xs i.toNat)]
  exact k H locs ls hW hS hl
theorem z_slen (n : Nat) (K : zF p m meth c cc nL ret s args Ts own g) {b L : Nat} {xs : Nat → Int32} (hX : va_X b L xs s s.heap) (hbl : b < s.heap.size) (hbA : ¬ zA g b) (hdg : decode cc pc = .ok (.arraylength, 1)) (hpc : pc + 1 = n) (k : Z p l e R s m args below meth c Q g nL kc ks C lv n (.int (iZ (L : Int)) :: st)) : Z p l e R s m args below meth c Q g nL kc ks C lv pc (.ref b :: st) := by
  subst hpc
  intro H locs ls hW hS hl
  refine va_slen K.1.1 K.1.2.1 hX hbl hbA hS hdg ?_
  exact k H locs ls hW hS hl
theorem vp_updL_0 (o : Nat → Int64) (v : Int64) : vp_updL o (Int.toNat 0) v 0 = v := by simp [vp_updL]
end ZK4A
