/-! more rows: doubles, longs, throws by a wide index; contracts made weaker -/
section ZK3A
variable {p : Program} {l : Launch} {e : Env} {R : Room} {s : State} {m : MethodId} {args : Array Value} {below : List Frame} {meth : Method} {c : Code} {Q : State → Prop} {g : zG} {cc : ByteArray} {nL kc ks : Nat} {ret : Option FieldType} {Ts : List Cond} {own : String} {C : Nat → va_E} {lv : List (Nat × Value)} {pc : Nat} {st : List Value}
theorem z_lconst (n : Nat) (K : zF p m meth c cc nL ret s args Ts own g) {kk : Fin 2} (v : Int64) (hdg : decode cc pc = .ok (.lconst kk, 1)) (hpc : pc + 1 = n) (hv : Int64.ofNat (kk : Nat) = v) (k : Z p l e R s m args below meth c Q g nL kc ks C lv n (.long v :: st)) : Z p l e R s m args below meth c Q g nL kc ks C lv pc st := by
  subst hpc
  intro H locs ls hW hS hl
  exact lv_lconst K.1.1 K.1.2.1 hdg hv (k H locs ls hW hS hl)
theorem z_dconst0 (n : Nat) (K : zF p m meth c cc nL ret s args Ts own g) (hdg : decode cc pc = .ok (.dconst 0, 1)) (hpc : pc + 1 = n) (k : Z p l e R s m args below meth c Q g nL kc ks C lv n (.double FP.dconst0 :: st)) : Z p l e R s m args below meth c Q g nL kc ks C lv pc st := by
  subst hpc
  intro H locs ls hW hS hl
  exact lv_dconst0 K.1.1 K.1.2.1 hdg (k H locs ls hW hS hl)
theorem z_dconst1 (n : Nat) (K : zF p m meth c cc nL ret s args Ts own g) (hdg : decode cc pc = .ok (.dconst 1, 1)) (hpc : pc + 1 = n) (k : Z p l e R s m args below meth c Q g nL kc ks C lv n (.double FP.dconst1 :: st)) : Z p l e R s m args below meth c Q g nL kc ks C lv pc st := by
  subst hpc
  intro H locs ls hW hS hl
  exact lv_dconst1 K.1.1 K.1.2.1 hdg (k H locs ls hW hS hl)
theorem z_ldc2l (n : Nat) (K : zF p m meth c cc nL ret s args Ts own g) {index : Nat} (v : Int64) (hw : Cond.constantLong own index v ∈ Ts) (hdg : decode cc pc = .ok (.ldc2_w index, 3)) (hpc : pc + 3 = n) (k : Z p l e R s m args below meth c Q g nL kc ks C lv n (.long v :: st)) : Z p l e R s m args below meth c Q g nL kc ks C lv pc st := by
  subst hpc
  intro H locs ls hW hS hl
  exact lv_ldc2 K.1.1 K.1.2.1 K.1.2.2.2.1 (K.1.2.2.2.2 _ hw) hdg (k H locs ls hW hS hl)
theorem z_ldc2d (n : Nat) (K : zF p m meth c cc nL ret s args Ts own g) {index : Nat} (v : UInt64) (hw : Cond.constantDouble own index v ∈ Ts) (hdg : decode cc pc = .ok (.ldc2_w index, 3)) (hpc : pc + 3 = n) (k : Z p l e R s m args below meth c Q g nL kc ks C lv n (.double v :: st)) : Z p l e R s m args below meth c Q g nL kc ks C lv pc st := by
  subst hpc
  intro H locs ls hW hS hl
  exact lv_ldc2d K.1.1 K.1.2.1 K.1.2.2.2.1 (K.1.2.2.2.2 _ hw) hdg (k H locs ls hW hS hl)
theorem z_ddiv (n : Nat) (K : zF p m meth c cc nL ret s args Ts own g) {x y : UInt64} (hdg : decode cc pc = .ok (.ddiv, 1)) (hpc : pc + 1 = n) (hne : vf_n64 (FP.ddiv x y)) (k : Z p l e R s m args below meth c Q g nL kc ks C lv n (.double (FP.ddiv x y) :: st)) : Z p l e R s m args below meth c Q g nL kc ks C lv pc (.double y :: .double x :: st) := by
  subst hpc
  intro H locs ls hW hS hl
  exact lv_ddiv K.1.1 K.1.2.1 hdg hne (k H locs ls hW hS hl)
theorem z_dmul (n : Nat) (K : zF p m meth c cc nL ret s args Ts own g) {x y : UInt64} (hdg : decode cc pc = .ok (.dmul, 1)) (hpc : pc + 1 = n) (hne : vf_n64 (FP.dmul x y)) (k : Z p l e R s m args below meth c Q g nL kc ks C lv n (.double (FP.dmul x y) :: st)) : Z p l e R s m args below meth c Q g nL kc ks C lv pc (.double y :: .double x :: st) := by
  subst hpc
  intro H locs ls hW hS hl
  exact lv_dmul K.1.1 K.1.2.1 hdg hne (k H locs ls hW hS hl)
theorem z_dsub (n : Nat) (K : zF p m meth c cc nL ret s args Ts own g) {x y : UInt64} (hdg : decode cc pc = .ok (.dsub, 1)) (hpc : pc + 1 = n) (hne : vf_n64 (FP.dsub x y)) (k : Z p l e R s m args below meth c Q g nL kc ks C lv n (.double (FP.dsub x y) :: st)) : Z p l e R s m args below meth c Q g nL kc ks C lv pc (.double y :: .double x :: st) := by
  subst hpc
  intro H locs ls hW hS hl
  exact lv_dsub K.1.1 K.1.2.1 hdg hne (k H locs ls hW hS hl)
theorem z_dcmp (n : Nat) (K : zF p m meth c cc nL ret s args Ts own g) {x y : UInt64} {op : CmpOp} (hdg : decode cc pc = .ok (.dcmp op, 1)) (hpc : pc + 1 = n) (v : Int) (hv : Op.cmpValue (FP.dcmp x y) op = iZ v) (k : Z p l e R s m args below meth c Q g nL kc ks C lv n (.int (iZ v) :: st)) : Z p l e R s m args below meth c Q g nL kc ks C lv pc (.double y :: .double x :: st) := by
  subst hpc
  intro H locs ls hW hS hl
  refine lv_dcmp K.1.1 K.1.2.1 hdg ?_
  rw [hv]
  exact k H locs ls hW hS hl
theorem z_d2l (n : Nat) (K : zF p m meth c cc nL ret s args Ts own g) {x : UInt64} (hdg : decode cc pc = .ok (.d2l, 1)) (hpc : pc + 1 = n) (k : Z p l e R s m args below meth c Q g nL kc ks C lv n (.long (FP.d2l x) :: st)) : Z p l e R s m args below meth c Q g nL kc ks C lv pc (.double x :: st) := by
  subst hpc
  intro H locs ls hW hS hl
  exact lv_d2l K.1.1 K.1.2.1 hdg (k H locs ls hW hS hl)
theorem z_lshl (n : Nat) (K : zF p m meth c cc nL ret s args Ts own g) {x : Int64} {y : Int32} (hdg : decode cc pc = .ok (.lshl, 1)) (hpc : pc + 1 = n) (k : Z p l e R s m args below meth c Q g nL kc ks C lv n (.long (x <<< (y.toInt64 &&& 63)) :: st)) : Z p l e R s m args below meth c Q g nL kc ks C lv pc (.int y :: .long x :: st) := by
  subst hpc
  intro H locs ls hW hS hl
  exact lv_lshl K.1.1 K.1.2.1 hdg rfl (k H locs ls hW hS hl)
theorem lcmp_eq {x y : Int64} (h : x = y) : lg_cmp x y = iZ 0 := by subst h; simp [lg_cmp, iZ]
theorem lcmp_ne {x y : Int64} (h : x ≠ y) : lg_cmp x y = iZ 1 ∨ lg_cmp x y = iZ (-1) := by
  unfold lg_cmp
  by_cases h1 : y < x
  · left; rw [if_pos h1]; rfl
  · right; rw [if_neg h1, if_neg h]; rfl
theorem z_lcmp (n : Nat) (K : zF p m meth c cc nL ret s args Ts own g) {x y : Int64} (hdg : decode cc pc = .ok (.lcmp, 1)) (hpc : pc + 1 = n) (k : ∀ v : Int, (v = 0 ↔ x = y) → (v = 0 ∨ v = 1 ∨ v = -1) → Z p l e R s m args below meth c Q g nL kc ks C lv n (.int (iZ v) :: st)) : Z p l e R s m args below meth c Q g nL kc ks C lv pc (.long y :: .long x :: st) := by
  subst hpc
  intro H locs ls hW hS hl
  refine W.lcmp K.1.1 K.1.2.1 hdg ?_
  by_cases h : x = y
  · rw [lcmp_eq h]
    exact k 0 (by simp [h]) (by omega) H locs ls hW hS hl
  · rcases lcmp_ne h with q | q
    · rw [q]
      exact k 1 (by simp [h]) (by omega) H locs ls hW hS hl
    · rw [q]
      exact k (-1) (by simp [h]) (by omega) H locs ls hW hS hl
theorem z_throwW (hne : ∀ x ∈ c.exceptionTable.toList, False) (K : zF p m meth c cc nL ret s args Ts own g) (hlt : l.stackTraces = false) {cls text : String} {names : List String} {ik is ic mc ms : Nat} (hcls : Bundle.fit cls = true) (hnames : ∀ n ∈ names, Bundle.fit n = true)
    (hk : Cond.classLink own ik cls ∈ Ts) (hini : Cond.initialized cls ∈ Ts) (hstr : (own, is, text) ∈ zStr) (hat1 : ∀ w ∈ (vx_atS own ic cls names).filter goodWord, w ∈ Ts) (hat2 : ∀ w ∈ (vx_atS own ic cls names).filter (fun w => !goodWord w), w ∈ zBad)
    (hgood : ∀ w ∈ Cond.classLink own ik cls :: Cond.initialized cls :: vx_atS own ic cls names, vx_ot w = true)
    (d0 : decode cc pc = .ok (.new ik, 3)) (d3 : decode cc (pc + 3) = .ok (.dup, 1)) (d4 : decode cc (pc + 4) = .ok (.ldc_w is, 3)) (d7 : decode cc (pc + 7) = .ok (.invokespecial ic, 3)) (d10 : decode cc (pc + 10) = .ok (.athrow, 1))
    (hRframes : names.length + 3 < R.frames) (hRlocals : (st.map fun v => v.category).sum + (13 * (names.length + 1) + 43) ≤ R.locals) (hRcells : kc + 1 ≤ R.cells) (hRslots : ks + 6 ≤ R.slots) (hc : kc + 1 ≤ mc) (hs : ks + 6 ≤ ms) {Qc : Array Value → State → Outcome → State → Prop} {px : String → (Nat → va_E) → Prop} (h : px cls C) :
    Z p l e R s m args below meth c (vx_MQ below Qc (zX g px) args s mc ms (zA g)) g nL kc ks C lv pc st := by
  intro H locs ls hW hS hl
  obtain ⟨sa, hsa⟩ := K.2.2.2.2.2.2.2.2.1 _ hstr
  have hts := K.1.2.2.2.2
  have hbad : ∀ w ∈ zBad, w.before args s = true := fun w hw => va_Nw.use (zBad_tab hw) (K.2.2.2.2.2.2.2.2.2 w hw)
  refine vx_throwSW K.1.1 K.1.2.1 hlt K.1.2.2.2.1 hcls hnames (hts _ hk) (hts _ hini) hsa (vx_hat (fun w hw => hts w (hat1 w hw)) hat2 hbad) hgood K.2.2.2.2.2.2.1 K.2.2.2.2.2.2.2.1 hS (hl.1.trans K.1.2.2.1.symm) d0 d3 d4 d7 d10 (fun x hx => (hne x hx).elim) hRframes hRlocals hRcells hRslots K.2.2.1 (fun t _ hsz hq => ?_) hS.2.2 hc hs
  refine ⟨C, trivial, ⟨h, hW.1.kept (fun k q hk => hq q.1 (hW.1 k q hk).lt), hW.2⟩, Nat.le_trans hS.1 hsz, fun q h1 h2 => ?_⟩
  rw [hq q (Nat.lt_of_lt_of_le h1 hS.1)]
  exact hS.2.1 q h1 h2
end ZK3A
section ZK3B
variable {l : Launch} {g : zG} {y : MethodName} {ws : List Cond} {rm : Room} {av : List Value} {C : Nat → va_E} {mc ms : Nat}
theorem z_monV {post post' : (Nat → va_E) → Prop} (h : Met l y ws rm (zPre g C av) (zQv g post) mc ms (zA g)) (hp : ∀ C', post C' → post' C') : Met l y ws rm (zPre g C av) (zQv g post') mc ms (zA g) :=
  Jvm.Free.MetFree.mono h (fun _ _ q => q) (fun _ _ _ _ _ q => q) (fun a s o t _ q => by
    obtain ⟨⟨⟨u, e1, e2, e3⟩, hF⟩, hL⟩ := q
    exact ⟨⟨⟨u, e1, hp u e2, e3⟩, hF⟩, hL⟩)
theorem z_monI {post post' : Int → (Nat → va_E) → Prop} (h : Met l y ws rm (zPre g C av) (zQi g post) mc ms (zA g)) (hp : ∀ z C', post z C' → post' z C') : Met l y ws rm (zPre g C av) (zQi g post') mc ms (zA g) :=
  Jvm.Free.MetFree.mono h (fun _ _ q => q) (fun _ _ _ _ _ q => q) (fun a s o t _ q => by
    obtain ⟨⟨⟨r, u, e1, ⟨z, e4, e2⟩, e3⟩, hF⟩, hL⟩ := q
    exact ⟨⟨⟨r, u, e1, ⟨z, e4, hp z u e2⟩, e3⟩, hF⟩, hL⟩)
end ZK3B
