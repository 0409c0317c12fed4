/-! Y: the machine over a world told by a list of cells that grows: for the constructors. Ints are written iZ z -/
section YKA
def yW (g : zG) (w : va_W) (H : Heap) : Prop := va_P g.1 vwCl w H ∧ va_D (zA g) w
/-- the words of the tables for a constructor of a nest mate -/
def yN (U : State) : Prop := va_Nw (.methodLinkNest RX8 11 yX4_init RX8) U ∧ va_Nw (.methodLinkNest RX4 9 yX1_init RX8) U ∧ va_Nw (.methodLinkNest RX4 18 yX0_init RX8) U ∧ va_Nw (.methodLinkNest RX8 18 yX7_init RX8) U ∧ va_Nw (.methodLinkNest RX8 25 yX6_init RX8) U ∧ va_Nw (.methodLinkNest RX2 24 yX4_init RX8) U ∧ va_Nw (.methodLinkNest RX8 39 yX5_init RX8) U
theorem yN.warm {s U : State} (hW : s.WarmedH U.vm) (h : yN s) : yN U := ⟨va_Nw.warmM hW h.1, va_Nw.warmM hW h.2.1, va_Nw.warmM hW h.2.2.1, va_Nw.warmM hW h.2.2.2.1, va_Nw.warmM hW h.2.2.2.2.1, va_Nw.warmM hW h.2.2.2.2.2.1, va_Nw.warmM hW h.2.2.2.2.2.2⟩
theorem yN.same {u U : State} (hv : u.vm = U.vm) (h : yN u) : yN U := ⟨va_Nw.same rfl hv h.1, va_Nw.same rfl hv h.2.1, va_Nw.same rfl hv h.2.2.1, va_Nw.same rfl hv h.2.2.2.1, va_Nw.same rfl hv h.2.2.2.2.1, va_Nw.same rfl hv h.2.2.2.2.2.1, va_Nw.same rfl hv h.2.2.2.2.2.2⟩
/-- what the constructors need of the start beside zF -/
def yH (g : zG) (s : State) : Prop := g.2.2.2 ≤ s.heap.size ∧ va_AO RX4 s ∧ yN s
def Y (p : Program) (l : Launch) (e : Env) (R : Room) (s : State) (m : MethodId) (args : Array Value) (below : List Frame) (meth : Method) (c : Code) (Q : State → Prop) (g : zG) (nL kc ks : Nat) (w : va_W) (lv : List (Nat × Value)) (pc : Nat) (st : List Value) : Prop :=
  ∀ (H : Heap) (locs : List Loc) (ls : Array Slot), yW g w H → va_S (zA g) s.heap H locs → lv_has ls nL lv → W p l e R s m args below meth c H locs kc ks Q (F0 m pc ls st)
def yPre (g : zG) (w : va_W) (av : List Value) : Array Value → State → Prop := va_Pc av (fun U => yW g w U.heap ∧ zKK g U ∧ yH g U)
def yQv (g : zG) (post : va_W → Prop) : Array Value → State → Outcome → State → Prop := va_Qv (S := va_W) post (fun w' t => yW g w' t.heap) (zA g)
theorem yH.call {g : zG} {U : State} {f : JFrame} {mk : MethodId} {a : Array Value} (h : yH g U) : yH g (U.calling f mk a) := ⟨h.1, va_AO.moved (u := U) (U := U.calling f mk a) (Vm.Alike.refl U.vm) h.2.1, yN.same (u := U) (U := U.calling f mk a) rfl h.2.2⟩
theorem yPre_blind (g : zG) (w : va_W) (av : List Value) : FrameBlind (yPre g w av) := fun _ _ _ _ q => ⟨q.1, q.2.1, q.2.2.1.call, q.2.2.2.call⟩
theorem y_enter {l : Launch} {g : zG} {y : MethodName} {ws ws' : List Cond} {rm : Room} {av : List Value} {w : va_W} {cc : ByteArray} {nL mc ms : Nat} {ret : Option FieldType} {Qc : Array Value → State → Outcome → State → Prop} (own : String) (hown : y.cls = own) (hy1 : y.name = "<init>") (hy : plainName y.cls = true) (hw : ws = Cond.code y cc nL ret :: ws') (hlen : (lg_sl av).length ≤ nL)
    (body : ∀ p e s m args below meth c, zF p m meth c cc nL ret s args ws own g → yH g s → meth.name = "<init>" → args = av.toArray → Y p l e rm s m args below meth c (MQ below Qc args s mc ms (zA g)) g nL 0 0 w (lv_args 0 av) 0 []) : Met l y ws rm (yPre g w av) Qc mc ms (zA g) := by
  refine Met.ofW hy hw ?_
  intro p e s m args below meth c s₁ B hml hv
  obtain ⟨rfl, hW, hK, hH⟩ := hv
  have hts := atoms_spec (ws := ws) B.pre
  have hfc : s.vm.findClass own = some m.cls := hown ▸ findClass_of_methodNamed B.named
  have hnm : meth.name = "<init>" := hy1 ▸ (name_of_methodNamed B.named B.method).1
  rw [lg_entry_eq]
  exact body p e s m _ below meth c ⟨⟨B.exec, B.bytes, hml, hfc, hts⟩, B.returns, B.notSynchronized, hK⟩ hH hnm rfl s.heap [] _ hW va_S.rf (lv_entry av hlen)
theorem yget {w0 L : va_W} (k : Nat) {x : Nat × va_E} (h : L[k]? = some x) : (w0 ++ L)[w0.length + k]? = some x := by
  rw [List.getElem?_append_right (by omega)]
  rw [show w0.length + k - w0.length = k by omega]
  exact h
theorem yset {w0 L L' : va_W} (k : Nat) {x : Nat × va_E} (h : L.set k x = L') : (w0 ++ L).set (w0.length + k) x = w0 ++ L' := by
  rw [← h, List.set_append_right _ _ (by omega)]
  rw [show w0.length + k - w0.length = k by omega]
theorem yapp {w0 L M L' : va_W} (h : L ++ M = L') : (w0 ++ L) ++ M = w0 ++ L' := by rw [List.append_assoc, h]
end YKA
section YKB
variable {p : Program} {l : Launch} {e : Env} {R : Room} {s : State} {m : MethodId} {args : Array Value} {below : List Frame} {meth : Method} {c : Code} {Q : State → Prop} {g : zG} {cc : ByteArray} {nL kc ks : Nat} {ret : Option FieldType} {Ts : List Cond} {own : String} {w : va_W} {lv : List (Nat × Value)} {pc : Nat} {st : List Value}
theorem y_w {w' : va_W} (h : w = w') (k : Y p l e R s m args below meth c Q g nL kc ks w' lv pc st) : Y p l e R s m args below meth c Q g nL kc ks w lv pc st := by subst h; exact k
theorem y_top {a : Int} (b : Int) (h : a = b) (k : Y p l e R s m args below meth c Q g nL kc ks w lv pc (.int (iZ b) :: st)) : Y p l e R s m args below meth c Q g nL kc ks w lv pc (.int (iZ a) :: st) := by subst h; exact k
theorem y_sub (is : List Nat) {lv' : List (Nat × Value)} (h : lv_pick lv is = lv') (k : Y p l e R s m args below meth c Q g nL kc ks w lv' pc st) : Y p l e R s m args below meth c Q g nL kc ks w lv pc st := fun H locs ls hW hS hl => k H locs ls hW hS (lv_sub hl is h)
theorem y_iconst (n : Nat) (K : zF p m meth c cc nL ret s args Ts own g) {a : Int} (hdg : decode cc pc = .ok (.iconst a, 1)) (hpc : pc + 1 = n)  (k : Y p l e R s m args below meth c Q g nL kc ks w lv n (.int (iZ a) :: st)) : Y p l e R s m args below meth c Q g nL kc ks w lv pc (st) := by
  subst hpc
  intro H locs ls hW hS hl
  exact lv_iconst K.1.1 K.1.2.1 hdg rfl (k H locs ls hW hS hl)
theorem y_bipush (n : Nat) (K : zF p m meth c cc nL ret s args Ts own g) {a : Int} (hdg : decode cc pc = .ok (.bipush a, 2)) (hpc : pc + 2 = n) (hv : (Int8.ofInt a).toInt32 = iZ a) (k : Y p l e R s m args below meth c Q g nL kc ks w lv n (.int (iZ a) :: st)) : Y p l e R s m args below meth c Q g nL kc ks w lv pc (st) := by
  subst hpc
  intro H locs ls hW hS hl
  exact lv_bipush K.1.1 K.1.2.1 hdg hv (k H locs ls hW hS hl)
theorem y_sipush (n : Nat) (K : zF p m meth c cc nL ret s args Ts own g) {a : Int} (hdg : decode cc pc = .ok (.sipush a, 3)) (hpc : pc + 3 = n) (hv : (Int16.ofInt a).toInt32 = iZ a) (k : Y p l e R s m args below meth c Q g nL kc ks w lv n (.int (iZ a) :: st)) : Y p l e R s m args below meth c Q g nL kc ks w lv pc (st) := by
  subst hpc
  intro H locs ls hW hS hl
  exact lv_sipush K.1.1 K.1.2.1 hdg hv (k H locs ls hW hS hl)
theorem y_iload_n (n : Nat) (K : zF p m meth c cc nL ret s args Ts own g) {kk : Fin 4} {i : Nat} {x : Int32} (hdg : decode cc pc = .ok (.iload_n kk, 1)) (hpc : pc + 1 = n) (hi : (kk : Nat) = i) (j : Nat) (hj : lv[j]? = some (i, .int x)) (k : Y p l e R s m args below meth c Q g nL kc ks w lv n (.int x :: st)) : Y p l e R s m args below meth c Q g nL kc ks w lv pc (st) := by
  subst hpc
  intro H locs ls hW hS hl
  exact lv_iload_n K.1.1 K.1.2.1 hdg hi (lv_at hl j hj) (k H locs ls hW hS hl)
theorem y_iload (n : Nat) (K : zF p m meth c cc nL ret s args Ts own g) {i : Nat} {x : Int32} (hdg : decode cc pc = .ok (.iload i, 2)) (hpc : pc + 2 = n) (j : Nat) (hj : lv[j]? = some (i, .int x)) (k : Y p l e R s m args below meth c Q g nL kc ks w lv n (.int x :: st)) : Y p l e R s m args below meth c Q g nL kc ks w lv pc (st) := by
  subst hpc
  intro H locs ls hW hS hl
  exact lv_iload K.1.1 K.1.2.1 hdg (lv_at hl j hj) (k H locs ls hW hS hl)
theorem y_aload_n (n : Nat) (K : zF p m meth c cc nL ret s args Ts own g) {kk : Fin 4} {i : Nat} {x : Nat} (hdg : decode cc pc = .ok (.aload_n kk, 1)) (hpc : pc + 1 = n) (hi : (kk : Nat) = i) (j : Nat) (hj : lv[j]? = some (i, .ref x)) (k : Y p l e R s m args below meth c Q g nL kc ks w lv n (.ref x :: st)) : Y p l e R s m args below meth c Q g nL kc ks w lv pc (st) := by
  subst hpc
  intro H locs ls hW hS hl
  exact lv_aload_n K.1.1 K.1.2.1 hdg hi (lv_at hl j hj) (k H locs ls hW hS hl)
theorem y_aload (n : Nat) (K : zF p m meth c cc nL ret s args Ts own g) {i : Nat} {x : Nat} (hdg : decode cc pc = .ok (.aload i, 2)) (hpc : pc + 2 = n) (j : Nat) (hj : lv[j]? = some (i, .ref x)) (k : Y p l e R s m args below meth c Q g nL kc ks w lv n (.ref x :: st)) : Y p l e R s m args below meth c Q g nL kc ks w lv pc (st) := by
  subst hpc
  intro H locs ls hW hS hl
  exact lv_aload K.1.1 K.1.2.1 hdg (lv_at hl j hj) (k H locs ls hW hS hl)
theorem y_istore_n (n : Nat) (K : zF p m meth c cc nL ret s args Ts own g) {kk : Fin 4} {i : Nat} {x : Int32} {lv' : List (Nat × Value)} (hdg : decode cc pc = .ok (.istore_n kk, 1)) (hpc : pc + 1 = n) (hi : (kk : Nat) = i) (hn : i < nL) (hl2 : (i, Value.int x) :: lv.filter (fun q => !(q.1 == i) && !(q.1 + 1 == i && q.2.category == 2)) = lv') (k : Y p l e R s m args below meth c Q g nL kc ks w lv' n (st)) : Y p l e R s m args below meth c Q g nL kc ks w lv pc (.int x :: st) := by
  subst hpc
  intro H locs ls hW hS hl
  exact lv_istore_n K.1.1 K.1.2.1 hdg hi hl hn hl2 (fun ls2 hl2 => k H locs ls2 hW hS hl2)
theorem y_istore (n : Nat) (K : zF p m meth c cc nL ret s args Ts own g) {i : Nat} {x : Int32} {lv' : List (Nat × Value)} (hdg : decode cc pc = .ok (.istore i, 2)) (hpc : pc + 2 = n) (hn : i < nL) (hl2 : (i, Value.int x) :: lv.filter (fun q => !(q.1 == i) && !(q.1 + 1 == i && q.2.category == 2)) = lv') (k : Y p l e R s m args below meth c Q g nL kc ks w lv' n (st)) : Y p l e R s m args below meth c Q g nL kc ks w lv pc (.int x :: st) := by
  subst hpc
  intro H locs ls hW hS hl
  exact lv_istore K.1.1 K.1.2.1 hdg hl hn hl2 (fun ls2 hl2 => k H locs ls2 hW hS hl2)
theorem y_astore_n (n : Nat) (K : zF p m meth c cc nL ret s args Ts own g) {kk : Fin 4} {i : Nat} {x : Nat} {lv' : List (Nat × Value)} (hdg : decode cc pc = .ok (.astore_n kk, 1)) (hpc : pc + 1 = n) (hi : (kk : Nat) = i) (hn : i < nL) (hl2 : (i, Value.ref x) :: lv.filter (fun q => !(q.1 == i) && !(q.1 + 1 == i && q.2.category == 2)) = lv') (k : Y p l e R s m args below meth c Q g nL kc ks w lv' n (st)) : Y p l e R s m args below meth c Q g nL kc ks w lv pc (.ref x :: st) := by
  subst hpc
  intro H locs ls hW hS hl
  exact lv_astore_n K.1.1 K.1.2.1 hdg hi hl hn hl2 (fun ls2 hl2 => k H locs ls2 hW hS hl2)
theorem y_astore (n : Nat) (K : zF p m meth c cc nL ret s args Ts own g) {i : Nat} {x : Nat} {lv' : List (Nat × Value)} (hdg : decode cc pc = .ok (.astore i, 2)) (hpc : pc + 2 = n) (hn : i < nL) (hl2 : (i, Value.ref x) :: lv.filter (fun q => !(q.1 == i) && !(q.1 + 1 == i && q.2.category == 2)) = lv') (k : Y p l e R s m args below meth c Q g nL kc ks w lv' n (st)) : Y p l e R s m args below meth c Q g nL kc ks w lv pc (.ref x :: st) := by
  subst hpc
  intro H locs ls hW hS hl
  exact lv_astore K.1.1 K.1.2.1 hdg hl hn hl2 (fun ls2 hl2 => k H locs ls2 hW hS hl2)
theorem y_dup (n : Nat) (K : zF p m meth c cc nL ret s args Ts own g) {va : Value} (hdg : decode cc pc = .ok (.dup, 1)) (hpc : pc + 1 = n) (hva : va.category = 1) (k : Y p l e R s m args below meth c Q g nL kc ks w lv n (va :: va :: st)) : Y p l e R s m args below meth c Q g nL kc ks w lv pc (va :: st) := by
  subst hpc
  intro H locs ls hW hS hl
  exact lv_dup K.1.1 K.1.2.1 hdg hva (k H locs ls hW hS hl)
theorem y_imul (n : Nat) (K : zF p m meth c cc nL ret s args Ts own g) {a b : Int} (hdg : decode cc pc = .ok (.imul, 1)) (hpc : pc + 1 = n)  (k : Y p l e R s m args below meth c Q g nL kc ks w lv n (.int (iZ (a * b)) :: st)) : Y p l e R s m args below meth c Q g nL kc ks w lv pc (.int (iZ b) :: .int (iZ a) :: st) := by
  subst hpc
  intro H locs ls hW hS hl
  refine lv_imul K.1.1 K.1.2.1 hdg ?_
  rw [iZ_mul]
  exact k H locs ls hW hS hl
theorem y_iadd (n : Nat) (K : zF p m meth c cc nL ret s args Ts own g) {a b : Int} (hdg : decode cc pc = .ok (.iadd, 1)) (hpc : pc + 1 = n)  (k : Y p l e R s m args below meth c Q g nL kc ks w lv n (.int (iZ (a + b)) :: st)) : Y p l e R s m args below meth c Q g nL kc ks w lv pc (.int (iZ b) :: .int (iZ a) :: st) := by
  subst hpc
  intro H locs ls hW hS hl
  refine lv_iadd K.1.1 K.1.2.1 hdg ?_
  rw [iZ_add]
  exact k H locs ls hW hS hl
theorem y_iinc (n : Nat) (K : zF p m meth c cc nL ret s args Ts own g) {i : Nat} {d a : Int} {lv' : List (Nat × Value)} (hdg : decode cc pc = .ok (.iinc i d, 3)) (hpc : pc + 3 = n) (b : Int) (hab : a + d = b) (j : Nat) (hj : lv[j]? = some (i, .int (iZ a))) (hn : i < nL) (hl2 : (i, Value.int (iZ b)) :: lv.filter (fun q => !(q.1 == i) && !(q.1 + 1 == i && q.2.category == 2)) = lv') (k : Y p l e R s m args below meth c Q g nL kc ks w lv' n (st)) : Y p l e R s m args below meth c Q g nL kc ks w lv pc (st) := by
  subst hpc
  intro H locs ls hW hS hl
  exact lv_iinc K.1.1 K.1.2.1 hdg hl hj (by rw [← hab]; exact iZ_add a d) hn hl2 (fun ls2 hl2 => k H locs ls2 hW hS hl2)
theorem y_icmp_ge (n : Nat) (K : zF p m meth c cc nL ret s args Ts own g) {a b off : Int} {tgt : Nat} (hdg : decode cc pc = .ok (.if_icmp .ge off, 3)) (hpc : pc + 3 = n) (ht : (pc : Int) + off = (tgt : Int)) (ha : -2147483648 ≤ a ∧ a < 2147483648) (hb : -2147483648 ≤ b ∧ b < 2147483648) (kt : b ≤ a → Y p l e R s m args below meth c Q g nL kc ks w lv tgt st) (kf : a < b → Y p l e R s m args below meth c Q g nL kc ks w lv n st) : Y p l e R s m args below meth c Q g nL kc ks w lv pc (.int (iZ b) :: .int (iZ a) :: st) := by
  subst hpc
  intro H locs ls hW hS hl
  exact lv_icmp_ge K.1.1 K.1.2.1 hdg ht (fun q => kt ((iZ_le hb ha).mp q) H locs ls hW hS hl) (fun q => kf (Int.not_le.mp (fun z => q ((iZ_le hb ha).mpr z))) H locs ls hW hS hl)
theorem y_goto (K : zF p m meth c cc nL ret s args Ts own g) {off : Int} {tgt : Nat} (hdg : decode cc pc = .ok (.goto off, 3)) (ht : (pc : Int) + off = (tgt : Int)) (k : Y p l e R s m args below meth c Q g nL kc ks w lv tgt st) : Y p l e R s m args below meth c Q g nL kc ks w lv pc st := by
  intro H locs ls hW hS hl
  exact lv_goto K.1.1 K.1.2.1 hdg ht (k H locs ls hW hS hl)
theorem y_obj (n : Nat) (K : zF p m meth c cc nL ret s args Ts own g) {index : Nat} (hlink : Cond.methodLink own index objectInit ∈ Ts) (hinst : Cond.instanceMethod objectInit ∈ Ts) (hcode : Cond.code objectInit ⟨#[0xb1]⟩ 1 none ∈ Ts) {a : Nat} (hdg : decode cc pc = .ok (.invokespecial index, 3)) (hpc : pc + 3 = n) (hframes : 1 ≤ R.frames) (hlocals : (st.map fun v => v.category).sum + 12 ≤ R.locals)
    (k : Y p l e R s m args below meth c Q g nL kc ks w lv n st) : Y p l e R s m args below meth c Q g nL kc ks w lv pc (.ref a :: st) := by
  subst hpc
  intro H locs ls hW hS hl
  refine W.objInit (a := a) (rest := st) K.1.1 K.1.2.1 K.1.2.2.2.1 (K.1.2.2.2.2 _ hlink) (K.1.2.2.2.2 _ hinst) (K.1.2.2.2.2 _ hcode) rfl (hl.1.trans K.1.2.2.1.symm) rfl hdg hframes (by show 2 * 0 + _ + 12 ≤ _; omega) ?_
  exact k H locs ls hW hS hl
theorem y_new (n : Nat) (K : zF p m meth c cc nL ret s args Ts own g) (hh : yH g s) {CC : String} {T : u_T} {N ci index : Nat} (hin : ∀ w ∈ u_ws CC T N, w ∈ Ts) (ty : Nat → FieldType) (hty : ∀ k, k < N → parseFieldDescriptor (T k).2.2.1 = some (ty k)) (hcl : Cond.classLink own index CC ∈ Ts) (hinst : Cond.instantiable CC N ∈ Ts) (hini : Cond.initialized CC ∈ Ts) (hc : vwCl[ci]? = some (CC, T, N)) (fs : List Value) (hfs : ∀ j, j < N → defaultValue (ty j) = vp_V fs j) {kc' ks' : Nat} (hkc : kc + 1 = kc') (hks : ks + N = ks') (hR : kc' ≤ R.cells ∧ ks' ≤ R.slots) (hdg : decode cc pc = .ok (.new index, 3)) (hpc : pc + 3 = n)
    (k : ∀ q : Nat, Y p l e R s m args below meth c Q g nL kc' ks' (w ++ [(q, .inr (ci, fs))]) lv n (.ref q :: st)) : Y p l e R s m args below meth c Q g nL kc ks w lv pc st := by
  subst hpc
  subst hkc
  subst hks
  intro H locs ls hW hS hl
  have hts := K.1.2.2.2.2
  exact va_new K.1.1 K.1.2.1 hts hin ty hty K.1.2.2.2.1 (hts _ hcl) (hts _ hinst) (hts _ hini) K.2.2.2.1 hW.1 hW.2 hS (fun q hq => Nat.le_trans hh.1 hq) hc hfs hR.1 hR.2 hdg (fun q H1 hP hD hS1 => k q H1 locs ls ⟨hP, hD⟩ hS1 hl)
theorem y_newi (n : Nat) (K : zF p m meth c cc nL ret s args Ts own g) (hh : yH g s) (harr : Cond.arrayClass .int ∈ Ts) {z : Int} (N : Nat) (hz : z = N) (hN : N ≤ 100000) {kc' ks' : Nat} (hkc : kc + 1 = kc') (hks : ks + N = ks') (hR : kc' ≤ R.cells ∧ ks' ≤ R.slots) (hdg : decode cc pc = .ok (.newarray .int, 2)) (hpc : pc + 2 = n)
    (k : ∀ q : Nat, Y p l e R s m args below meth c Q g nL kc' ks' (w ++ [(q, eI g N (fun _ => 0))]) lv n (.ref q :: st)) : Y p l e R s m args below meth c Q g nL kc ks w lv pc (.int (iZ z) :: st) := by
  subst hpc
  subst hkc
  subst hks
  intro H locs ls hW hS hl
  have r0 : -2147483648 ≤ (0 : Int) ∧ (0 : Int) < 2147483648 := by omega
  refine va_newa (atype := .int) (ty := .int) (a0 := (N, .inl (zAr fun _ => 0))) (N' := N) K.1.1 K.1.2.1 (K.1.2.2.2.2 _ harr) rfl K.2.2.2.1 hW.1 hW.2 hS (fun q hq => Nat.le_trans hh.1 hq) (fun cA => rfl) (fun hc => by have := (iZ_lt (a := z) (b := 0) (by omega) r0).mp hc; omega) (by rw [iZ_cl (by omega)]; omega) (by show N * 4 ≤ _; omega) hR.1 hR.2 hdg (fun q cA H1 hK2 hP hD hS1 => ?_)
  have e1 : s.vm.findClass ("[" ++ FieldType.int.toString) = some cA := (hK2.2 3 (cA, .int) rfl).2
  have e2 : s.vm.findClass ("[" ++ FieldType.int.toString) = some g.2.1.1 := (K.2.2.2.1.2 0 (g.2.1.1, .int) rfl).2
  obtain rfl : g.2.1.1 = cA := Option.some.inj (e2.symm.trans e1)
  exact k q H1 locs ls ⟨hP, hD⟩ hS1 hl
theorem y_newz (n : Nat) (K : zF p m meth c cc nL ret s args Ts own g) (hh : yH g s) (harr : Cond.arrayClass .boolean ∈ Ts) {z : Int} (N : Nat) (hz : z = N) (hN : N ≤ 100000) {kc' ks' : Nat} (hkc : kc + 1 = kc') (hks : ks + N = ks') (hR : kc' ≤ R.cells ∧ ks' ≤ R.slots) (hdg : decode cc pc = .ok (.newarray .boolean, 2)) (hpc : pc + 2 = n)
    (k : ∀ q : Nat, Y p l e R s m args below meth c Q g nL kc' ks' (w ++ [(q, eZ g N (fun _ => 0))]) lv n (.ref q :: st)) : Y p l e R s m args below meth c Q g nL kc ks w lv pc (.int (iZ z) :: st) := by
  subst hpc
  subst hkc
  subst hks
  intro H locs ls hW hS hl
  have r0 : -2147483648 ≤ (0 : Int) ∧ (0 : Int) < 2147483648 := by omega
  refine va_newa (atype := .boolean) (ty := .boolean) (a0 := (N, .inl (zAr fun _ => 0))) (N' := N) K.1.1 K.1.2.1 (K.1.2.2.2.2 _ harr) rfl K.2.2.2.1 hW.1 hW.2 hS (fun q hq => Nat.le_trans hh.1 hq) (fun cA => rfl) (fun hc => by have := (iZ_lt (a := z) (b := 0) (by omega) r0).mp hc; omega) (by rw [iZ_cl (by omega)]; omega) (by show N * 1 ≤ _; omega) hR.1 hR.2 hdg (fun q cA H1 hK2 hP hD hS1 => ?_)
  have e1 : s.vm.findClass ("[" ++ FieldType.boolean.toString) = some cA := (hK2.2 3 (cA, .boolean) rfl).2
  have e2 : s.vm.findClass ("[" ++ FieldType.boolean.toString) = some g.2.1.2.1 := (K.2.2.2.1.2 1 (g.2.1.2.1, .boolean) rfl).2
  obtain rfl : g.2.1.2.1 = cA := Option.some.inj (e2.symm.trans e1)
  exact k q H1 locs ls ⟨hP, hD⟩ hS1 hl
theorem y_newq (n : Nat) (K : zF p m meth c cc nL ret s args Ts own g) (hh : yH g s) {index : Nat} (hcl : Cond.classLink own index RX4 ∈ Ts) {z : Int} (N : Nat) (hz : z = N) (hN : N ≤ 100000) {kc' ks' : Nat} (hkc : kc + 1 = kc') (hks : ks + N = ks') (hR : kc' ≤ R.cells ∧ ks' ≤ R.slots) (hdg : decode cc pc = .ok (.anewarray index, 3)) (hpc : pc + 3 = n)
    (k : ∀ q : Nat, Y p l e R s m args below meth c Q g nL kc' ks' (w ++ [(q, eS g N (fun _ => none))]) lv n (.ref q :: st)) : Y p l e R s m args below meth c Q g nL kc ks w lv pc (.int (iZ z) :: st) := by
  subst hpc
  subst hkc
  subst hks
  intro H locs ls hW hS hl
  have r0 : -2147483648 ≤ (0 : Int) ∧ (0 : Int) < 2147483648 := by omega
  refine va_newq (N' := N) K.1.1 K.1.2.1 K.1.2.2.2.1 (K.1.2.2.2.2 _ hcl) hh.2.1 K.2.2.2.1 hW.1 hW.2 hS (fun q hq => Nat.le_trans hh.1 hq) (fun hc => by have := (iZ_lt (a := z) (b := 0) (by omega) r0).mp hc; omega) (by rw [iZ_cl (by omega)]; omega) (by omega) hR.1 hR.2 hdg (fun q cA H1 hK2 hP hD hS1 => ?_)
  obtain ⟨_, _, _, _, _, e1⟩ := (hK2.2 3 (cA, .object RX4) rfl).2
  obtain ⟨_, _, _, _, _, e2⟩ := (K.2.2.2.1.2 2 (g.2.1.2.2.1, .object RX4) rfl).2
  obtain rfl : g.2.1.2.2.1 = cA := Option.some.inj (e2.symm.trans e1)
  exact k q H1 locs ls ⟨hP, hD⟩ hS1 hl
theorem y_put (n : Nat) (K : zF p m meth c cc nL ret s args Ts own g) {ref CC : String} {T : u_T} {N ci index : Nat} (hin : ∀ w ∈ u_ws CC T N, w ∈ Ts) (ty0 : Nat → FieldType) (hty : ∀ k, k < N → parseFieldDescriptor (T k).2.2.1 = some (ty0 k)) (hnm : ∀ a, a < N → ∀ b, b < N → a ≠ b → (T a).2.1 ≠ (T b).2.1) {q0 a : Nat} {fs : List Value} (he : w[q0]? = some (a, .inr (ci, fs))) (hc : vwCl[ci]? = some (CC, T, N)) (kf : Nat) (hk : kf < N) (hlink : (Cond.fieldLink own index ref (T kf).2.1 (T kf).2.2.1) ∈ Ts) (hsame : ∀ x, s.fieldFound? (T kf).1 (T kf).2.1 (T kf).2.2.1 = some x → s.fieldFound? ref (T kf).2.1 (T kf).2.2.1 = some x) (hfin : (T kf).2.2.2 = false) {v : Value} (hn : narrow (ty0 kf) v = v) (hfit : fits (ty0 kf) v = true) (hl : kf < fs.length) {w' : va_W} (hdg : decode cc pc = .ok (.putfield index, 3)) (hpc : pc + 3 = n) (hw' : w.set q0 (a, .inr (ci, fs.set kf v)) = w')
    (k : Y p l e R s m args below meth c Q g nL kc ks w' lv n st) : Y p l e R s m args below meth c Q g nL kc ks w lv pc (v :: .ref a :: st) := by
  subst hpc
  subst hw'
  intro H locs ls hW hS hl0
  have hts := K.1.2.2.2.2
  exact va_put K.1.1 K.1.2.1 hts hin ty0 hty hnm K.1.2.2.2.1 K.2.2.2.1 hW.1 hW.2 hS q0 he hc kf hk (hts _ hlink) hsame hfin (hty kf hk) hn hfit hl hdg (fun H1 locs1 hP hD hS1 => k H1 locs1 ls ⟨hP, hD⟩ hS1 hl0)
theorem y_putF (n : Nat) (K : zF p m meth c cc nL ret s args Ts own g) (hin9 : meth.name = "<init>") {ref CC : String} {T : u_T} {N ci index : Nat} (hin : ∀ w ∈ u_ws CC T N, w ∈ Ts) (ty0 : Nat → FieldType) (hty : ∀ k, k < N → parseFieldDescriptor (T k).2.2.1 = some (ty0 k)) (hnm : ∀ a, a < N → ∀ b, b < N → a ≠ b → (T a).2.1 ≠ (T b).2.1) {q0 a : Nat} {fs : List Value} (he : w[q0]? = some (a, .inr (ci, fs))) (hc : vwCl[ci]? = some (CC, T, N)) (kf : Nat) (hk : kf < N) (hlink : (Cond.fieldLink own index ref (T kf).2.1 (T kf).2.2.1) ∈ Ts) (hsame : ∀ x, s.fieldFound? (T kf).1 (T kf).2.1 (T kf).2.2.1 = some x → s.fieldFound? ref (T kf).2.1 (T kf).2.2.1 = some x) (hfin : (T kf).2.2.2 = true) (hdecl : (T kf).1 = own) {v : Value} (hn : narrow (ty0 kf) v = v) (hfit : fits (ty0 kf) v = true) (hl : kf < fs.length) {w' : va_W} (hdg : decode cc pc = .ok (.putfield index, 3)) (hpc : pc + 3 = n) (hw' : w.set q0 (a, .inr (ci, fs.set kf v)) = w')
    (k : Y p l e R s m args below meth c Q g nL kc ks w' lv n st) : Y p l e R s m args below meth c Q g nL kc ks w lv pc (v :: .ref a :: st) := by
  subst hpc
  subst hw'
  intro H locs ls hW hS hl0
  have hts := K.1.2.2.2.2
  exact va_putF K.1.1 K.1.2.1 hts hin ty0 hty hnm K.1.2.2.2.1 K.2.2.2.1 hW.1 hW.2 hS q0 he hc kf hk (hts _ hlink) hsame hfin hin9 hdecl (hty kf hk) hn hfit hl hdg (fun H1 locs1 hP hD hS1 => k H1 locs1 ls ⟨hP, hD⟩ hS1 hl0)
theorem y_get (n : Nat) (K : zF p m meth c cc nL ret s args Ts own g) {ref CC : String} {T : u_T} {N ci index : Nat} (hin : ∀ w ∈ u_ws CC T N, w ∈ Ts) {q0 a : Nat} {fs : List Value} (he : w[q0]? = some (a, .inr (ci, fs))) (hc : vwCl[ci]? = some (CC, T, N)) (kf : Nat) (hk : kf < N) (hlink : (Cond.fieldLink own index ref (T kf).2.1 (T kf).2.2.1) ∈ Ts) (hsame : ∀ x, s.fieldFound? (T kf).1 (T kf).2.1 (T kf).2.2.1 = some x → s.fieldFound? ref (T kf).2.1 (T kf).2.2.1 = some x) {v : Value} (hv : fs[kf]? = some v) (hdg : decode cc pc = .ok (.getfield index, 3)) (hpc : pc + 3 = n)
    (k : Y p l e R s m args below meth c Q g nL kc ks w lv n (v :: st)) : Y p l e R s m args below meth c Q g nL kc ks w lv pc (.ref a :: st) := by
  subst hpc
  intro H locs ls hW hS hl0
  exact va_get K.1.1 K.1.2.1 K.1.2.2.2.2 hin K.1.2.2.2.1 K.2.2.2.1 hW.1 q0 he hc kf hk (K.1.2.2.2.2 _ hlink) hsame hv hdg (k H locs ls hW hS hl0)
theorem y_iast (n : Nat) (K : zF p m meth c cc nL ret s args Ts own g) {q0 a : Nat} {len : Nat} {f : Int → Int} (he : w[q0]? = some (a, eI g len f)) {i v : Int} (h0 : 0 ≤ i) (h1 : i < len) (hlen : (len : Int) < 2147483648) {w' : va_W} (hdg : decode cc pc = .ok (.iastore, 1)) (hpc : pc + 1 = n) (hw' : w.set q0 (a, eI g len (zu f i v)) = w')
    (k : Y p l e R s m args below meth c Q g nL kc ks w' lv n st) : Y p l e R s m args below meth c Q g nL kc ks w lv pc (.int (iZ v) :: .int (iZ i) :: .ref a :: st) := by
  subst hpc
  subst hw'
  intro H locs ls hW hS hl
  refine va_iast (tys := zTys g) K.1.1 K.1.2.1 K.2.2.2.1 hW.1 hW.2 hS q0 0 he rfl (iZ_in h0 h1 hlen) hdg (fun H1 locs1 hP hD hS1 => ?_)
  rw [iZ_cl ⟨by omega, by omega⟩, zAr_upd f v h0] at hP hD
  exact k H1 locs1 ls ⟨hP, hD⟩ hS1 hl
theorem y_aast (n : Nat) (K : zF p m meth c cc nL ret s args Ts own g) {q0 qk a v : Nat} {len : Nat} {f : Nat → Option Nat} (he : w[q0]? = some (a, eS g len f)) {vs : List Value} (hv : w[qk]? = some (v, .inr (4, vs))) {i : Int} (h0 : 0 ≤ i) (h1 : i < len) (hlen : (len : Int) < 2147483648) {w' : va_W} (hdg : decode cc pc = .ok (.aastore, 1)) (hpc : pc + 1 = n) (hw' : w.set q0 (a, eS g len (va_up f i.toNat (some v))) = w')
    (k : Y p l e R s m args below meth c Q g nL kc ks w' lv n st) : Y p l e R s m args below meth c Q g nL kc ks w lv pc (.ref v :: .int (iZ i) :: .ref a :: st) := by
  subst hpc
  subst hw'
  intro H locs ls hW hS hl
  refine va_astq (tys := zTys g) (cl := vwCl) (r := (RX4, TX4, 3)) K.1.1 K.1.2.1 K.2.2.2.1 hW.1 hW.2 hS q0 2 qk 4 he rfl hv rfl (iZ_in h0 h1 hlen) hdg (fun H1 locs1 hP hD hS1 => ?_)
  rw [iZ_cl ⟨by omega, by omega⟩] at hP hD
  exact k H1 locs1 ls ⟨hP, hD⟩ hS1 hl
theorem y_vret (K : zF p m meth c cc nL ret s args Ts own g) (hret : ret = none) {post : va_W → Prop} (hdg : decode cc pc = .ok (.return_, 1)) (h : post w) : Y p l e R s m args below meth c (MQ below (yQv g post) args s kc ks (zA g)) g nL kc ks w lv pc [] := by
  intro H locs ls hW hS hl
  exact W.vret K.1.1 K.1.2.1 (K.2.1.trans hret) (fun t ht _ => ⟨⟨w, rfl, h, by show yW g w t.heap; rw [ht]; exact hW⟩, hS.F ht⟩) hS.2.2 hdg K.2.2.1
theorem y_init (n : Nat) (K : zF p m meth c cc nL ret s args Ts own g) (hh : yH g s) {y : MethodName} {bytes : ByteArray} {maxL mc ms index : Nat} {ws : List Cond} {rm : Room} {a : Nat} {post : va_W → Prop} (hM : Met l y ws rm (yPre g w [.ref a]) (yQv g post) mc ms (zA g)) (cw : CallB R s args own index y bytes maxL none ws rm mc ms 0 ∧ y.name = "<init>" ∧ (Cond.instanceMethod y).before args s = true) (hWd : (st.map fun v => v.category).sum ≤ 8) {kc' ks' : Nat} (hkc : kc + mc = kc') (hks : ks + ms = ks') (hdg : decode cc pc = .ok (.invokespecial index, 3)) (hpc : pc + 3 = n) (hf : kc' ≤ R.cells ∧ ks' ≤ R.slots)
    (k : ∀ w' : va_W, post w' → Y p l e R s m args below meth c Q g nL kc' ks' w' lv n st) : Y p l e R s m args below meth c Q g nL kc ks w lv pc (.ref a :: st) := by
  subst hpc
  subst hkc
  subst hks
  intro H locs ls hW hS hl
  refine va_callv (va_runI (b := a) (As := []) (rest := st) K.1 hM cw ⟨yPre_blind g w _, fun U hU hWm => ⟨rfl, by rw [hU]; exact hW, zKK.warm K.2.2.2 hS hU hWm, by rw [hU]; exact Nat.le_trans hh.1 hS.1, va_AO.moved hWm.alike hh.2.1, yN.warm hWm hh.2.2⟩⟩ rfl rfl hl.1 rfl (lv_room hWd) hdg hf) hS (fun _ _ h => h) (fun _ h => h) (fun w1 t H1 locs1 ht _ hw hB _ _ hS1 => ?_)
  exact k w1 hw H1 locs1 ls (by rw [← ht]; exact hB) hS1 hl
theorem y_initN (n : Nat) (K : zF p m meth c cc nL ret s args Ts own g) (hh : yH g s) {y : MethodName} {bytes : ByteArray} {maxL mc ms index : Nat} {ws : List Cond} {rm : Room} {host : String} {a : Nat} {post : va_W → Prop} (hM : Met l y ws rm (yPre g w [.ref a]) (yQv g post) mc ms (zA g)) (cw : va_CN R s args own index y host bytes maxL none ws rm mc ms 0 ∧ y.name = "<init>" ∧ (Cond.instanceMethod y).before args s = true) (hWd : (st.map fun v => v.category).sum ≤ 8) {kc' ks' : Nat} (hkc : kc + mc = kc') (hks : ks + ms = ks') (hdg : decode cc pc = .ok (.invokespecial index, 3)) (hpc : pc + 3 = n) (hf : kc' ≤ R.cells ∧ ks' ≤ R.slots)
    (k : ∀ w' : va_W, post w' → Y p l e R s m args below meth c Q g nL kc' ks' w' lv n st) : Y p l e R s m args below meth c Q g nL kc ks w lv pc (.ref a :: st) := by
  subst hpc
  subst hkc
  subst hks
  intro H locs ls hW hS hl
  refine va_callv (va_runIN (b := a) (As := []) (rest := st) K.1 hM cw ⟨yPre_blind g w _, fun U hU hWm => ⟨rfl, by rw [hU]; exact hW, zKK.warm K.2.2.2 hS hU hWm, by rw [hU]; exact Nat.le_trans hh.1 hS.1, va_AO.moved hWm.alike hh.2.1, yN.warm hWm hh.2.2⟩⟩ rfl rfl hl.1 rfl (lv_room hWd) hdg hf) hS (fun _ _ h => h) (fun _ h => h) (fun w1 t H1 locs1 ht _ hw hB _ _ hS1 => ?_)
  exact k w1 hw H1 locs1 ls (by rw [← ht]; exact hB) hS1 hl
end YKB
