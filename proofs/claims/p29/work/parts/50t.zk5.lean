/-! p29: rows for the law's script where it is passed on; constants, shifts -/
section ZK5A
def zScr (g : zG) (b L : Nat) (xs : Nat → Int32) (U : State) : Prop := va_X b L xs U U.heap ∧ b < U.heap.size ∧ ¬ zA g b
def zPre3 (g : zG) (C : Nat → va_E) (av : List Value) (b L : Nat) (xs : Nat → Int32) : Array Value → State → Prop := va_Pc av (fun U => ((zW g C U.heap ∧ zKK g U) ∧ zNcs U) ∧ zScr g b L xs U)
theorem zPre3_blind (g : zG) (C : Nat → va_E) (av : List Value) (b L : Nat) (xs : Nat → Int32) : FrameBlind (zPre3 g C av b L xs) := fun _ U f mk q => ⟨q.1, ⟨⟨q.2.1.1.1, q.2.1.1.2.call⟩, zNcs.moved (u := U) (U := U.calling f mk _) (Vm.Alike.refl U.vm) q.2.1.2⟩, ⟨va_X.moved (u := U) (U := U.calling f mk _) (Vm.Alike.refl U.vm) q.2.2.1, q.2.2.2.1, q.2.2.2.2⟩⟩
theorem z_enterS {l : Launch} {g : zG} {y : MethodName} {ws ws' : List Cond} {rm : Room} {av : List Value} {C : Nat → va_E} {cc : ByteArray} {nL mc ms : Nat} {ret : Option FieldType} {b L : Nat} {xs : Nat → Int32} {Qc : Array Value → State → Outcome → State → Prop} (own : String) (hown : y.cls = own) (hy : plainName y.cls = true) (hw : ws = Cond.code y cc nL ret :: ws') (hlen : (lg_sl av).length ≤ nL)
    (body : ∀ p e s m args below meth c, zF p m meth c cc nL ret s args ws own g → args = av.toArray → zNcs s → va_X b L xs s s.heap → b < s.heap.size → ¬ zA g b → Z p l e rm s m args below meth c (MQ below Qc args s mc ms (zA g)) g nL 0 0 C (lv_args 0 av) 0 []) : Met l y ws rm (zPre3 g C av b L xs) Qc mc ms (zA g) := by
  refine Met.ofW hy hw ?_
  intro p e s m args below meth c s₁ B hml hv
  obtain ⟨rfl, ⟨⟨hW, hK⟩, hN⟩, hX, hbl, hbA⟩ := hv
  have hts := atoms_spec (ws := ws) B.pre
  have hfc : s.vm.findClass own = some m.cls := hown ▸ findClass_of_methodNamed B.named
  rw [lg_entry_eq]
  exact body p e s m _ below meth c ⟨⟨B.exec, B.bytes, hml, hfc, hts⟩, B.returns, B.notSynchronized, hK⟩ rfl hN hX hbl hbA s.heap [] _ hW va_S.rf (lv_entry av hlen)
variable {p : Program} {l : Launch} {e : Env} {R : Room} {s : State} {m : MethodId} {args : Array Value} {below : List Frame} {meth : Method} {c : Code} {Q : State → Prop} {g : zG} {cc : ByteArray} {nL kc ks : Nat} {ret : Option FieldType} {Ts : List Cond} {own : String} {C : Nat → va_E} {lv : List (Nat × Value)} {pc : Nat} {st : List Value}
theorem z_vS3i (n : Nat) (K : zF p m meth c cc nL ret s args Ts own g) (hN : zNcs s) {b L : Nat} {xs : Nat → Int32} (hX : va_X b L xs s s.heap) (hbl : b < s.heap.size) (hbA : ¬ zA g b) {y : MethodName} {bytes : ByteArray} {maxL mc ms na index : Nat} {rt : Option FieldType} {ws : List Cond} {rm : Room} {As rest : List Value} {post : Int → (Nat → va_E) → Prop} (hM : Met l y ws rm (zPre3 g C As b L xs) (zQi g post) mc ms (zA g)) (cw : CallB R s args own index y bytes maxL rt ws rm mc ms na ∧ (Cond.static y).before args s = true) (hn : As.length = na) (hWd : (rest.map fun v => v.category).sum ≤ 8) (hdg : decode cc pc = .ok (.invokestatic index, 3)) (hpc : pc + 3 = n) (hf : kc + mc ≤ R.cells ∧ ks + ms ≤ R.slots) (hst : st = As.reverse ++ rest) (k : ∀ (z : Int) (C' : Nat → va_E), post z C' → Z p l e R s m args below meth c Q g nL (kc + mc) (ks + ms) C' lv n (.int (iZ z) :: rest)) : Z p l e R s m args below meth c Q g nL kc ks C lv pc st := by
  subst hpc
  subst hst
  intro H locs ls hW hS hl
  refine va_calli (va_runS (As := As) (rest := rest) K.1 hM cw ⟨zPre3_blind g C _ _ _ _, fun U hU hWm => ⟨rfl, ⟨⟨by rw [hU]; exact hW, zKK.warm K.2.2.2 hS hU hWm⟩, zNcs.moved hWm.alike hN⟩, ⟨by rw [hU]; exact va_X.moved hWm.alike (hX.kept (hS.2.1 b hbl hbA)), by rw [hU]; exact Nat.lt_of_lt_of_le hbl hS.1, hbA⟩⟩⟩ rfl hn hl.1 rfl (lv_room hWd) hdg hf) hS (fun _ _ h => h) (fun _ h => h) (fun r C1 t H1 locs1 ht _ hw hB _ _ hS1 => ?_)
  obtain ⟨z, rfl, hw⟩ := hw
  exact k z C1 hw H1 locs1 ls (by rw [← ht]; exact hB) hS1 hl
theorem z_ldc (n : Nat) (K : zF p m meth c cc nL ret s args Ts own g) {index : Nat} (v : Int) {x : Int32} (hw : Cond.constant own index x ∈ Ts) (hx : x = iZ v) (hdg : decode cc pc = .ok (.ldc index, 2)) (hpc : pc + 2 = n) (k : Z p l e R s m args below meth c Q g nL kc ks C lv n (.int (iZ v) :: st)) : Z p l e R s m args below meth c Q g nL kc ks C lv pc st := by
  subst hpc
  subst hx
  intro H locs ls hW hS hl
  exact lv_ldc K.1.1 K.1.2.1 K.1.2.2.2.1 (K.1.2.2.2.2 _ hw) hdg (k H locs ls hW hS hl)
theorem z_ishr (n : Nat) (K : zF p m meth c cc nL ret s args Ts own g) {x y : Int32} (hdg : decode cc pc = .ok (.ishr, 1)) (hpc : pc + 1 = n) (k : Z p l e R s m args below meth c Q g nL kc ks C lv n (.int (x >>> (y &&& 31)) :: st)) : Z p l e R s m args below meth c Q g nL kc ks C lv pc (.int y :: .int x :: st) := by
  subst hpc
  intro H locs ls hW hS hl
  exact lv_ishr K.1.1 K.1.2.1 hdg (k H locs ls hW hS hl)
theorem z_monD {y : MethodName} {ws : List Cond} {rm : Room} {av : List Value} {mc ms : Nat} {post post' : UInt64 → (Nat → va_E) → Prop} (h : Met l y ws rm (zPre g C av) (zQd g post) mc ms (zA g)) (hp : ∀ z C', post z C' → post' z C') : Met l y ws rm (zPre g C av) (zQd g post') mc ms (zA g) :=
  Jvm.Free.MetFree.mono h (fun _ _ q => q) (fun _ _ _ _ _ q => q) (fun a s o t _ q => by
    obtain ⟨⟨⟨r, u, e1, e2, e3⟩, hF⟩, hL⟩ := q
    exact ⟨⟨⟨r, u, e1, hp r u e2, e3⟩, hF⟩, hL⟩)
theorem z_monI2 {l : Launch} {g : zG} {y : MethodName} {ws : List Cond} {rm : Room} {av : List Value} {C : Nat → va_E} {mc ms : Nat} {post post' : Int → (Nat → va_E) → Prop} (h : Met l y ws rm (zPre2 g C av) (zQi g post) mc ms (zA g)) (hp : ∀ z C', post z C' → post' z C') : Met l y ws rm (zPre2 g C av) (zQi g post') mc ms (zA g) :=
  Jvm.Free.MetFree.mono h (fun _ _ q => q) (fun _ _ _ _ _ q => q) (fun a s o t _ q => by
    obtain ⟨⟨⟨r, u, e1, ⟨z, e4, e2⟩, e3⟩, hF⟩, hL⟩ := q
    exact ⟨⟨⟨r, u, e1, ⟨z, e4, hp z u e2⟩, e3⟩, hF⟩, hL⟩)
theorem zlo31 (v : Int) : iZ v &&& iZ 2147483647 = iZ (v % 2147483648) := by
  apply Int32.toBitVec_inj.mp
  have e1 : ∀ z : Int, (iZ z).toBitVec = BitVec.ofInt 32 z := fun z => rfl
  rw [Int32.toBitVec_and, e1, e1, e1]
  apply BitVec.eq_of_toNat_eq
  rw [BitVec.toNat_and, BitVec.toNat_ofInt, BitVec.toNat_ofInt, BitVec.toNat_ofInt]
  have e2 : ((2147483647 : Int) % ((2 ^ 32 : Nat) : Int)).toNat = 2 ^ 31 - 1 := by decide
  rw [e2, Nat.and_two_pow_sub_one_eq_mod]
  have e3 : ((2 ^ 32 : Nat) : Int) = 4294967296 := by decide
  have e4 : (2 : Nat) ^ 31 = 2147483648 := by decide
  rw [e3, e4]
  omega
/-- the script, and what stands behind it -/
def cV (xs : Nat → Int32) (L : Nat) (i : Int) : Int := if i < L then xI xs i else 40503 * i + 977
/-- a call that may be refused -/
theorem act_if {f f2 : Int → Int} {k so a k2 z1 z2 K : Int} (h1 : K = 0 → ACT f k so a f2 k2 z1) (h2 : K ≠ 0 → ACT f k so a f k z2) : ACT f k so a (if K = 0 then f2 else f) (if K = 0 then k2 else k) (if K = 0 then z1 else z2) := by
  by_cases c : K = 0
  · rw [if_pos c, if_pos c, if_pos c]
    exact h1 c
  · rw [if_neg c, if_neg c, if_neg c]
    exact h2 c
end ZK5A
