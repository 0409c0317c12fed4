/-! more rows: a truth value that is tested and pushed again as 1 or 0 -/
section ZK2A
variable {p : Program} {l : Launch} {e : Env} {R : Room} {s : State} {m : MethodId} {args : Array Value} {below : List Frame} {meth : Method} {c : Code} {Q : State → Prop} {g : zG} {cc : ByteArray} {nL kc ks : Nat} {ret : Option FieldType} {Ts : List Cond} {own : String} {C : Nat → va_E} {lv : List (Nat × Value)} {pc : Nat} {st : List Value}
theorem z_bool01 (n1 n2 n3 n4 : Nat) (K : zF p m meth c cc nL ret s args Ts own g) {v off off2 : Int} (hv : v = 0 ∨ v = 1) (d0 : decode cc pc = .ok (.ifCond .eq off, 3)) (d1 : decode cc n1 = .ok (.iconst 1, 1)) (d2 : decode cc n2 = .ok (.goto off2, 3)) (d3 : decode cc n3 = .ok (.iconst 0, 1)) (h1 : pc + 3 = n1) (h2 : n1 + 1 = n2) (h3 : (pc : Int) + off = (n3 : Int)) (h4 : (n2 : Int) + off2 = (n4 : Int)) (h5 : n3 + 1 = n4) (k : Z p l e R s m args below meth c Q g nL kc ks C lv n4 (.int (iZ v) :: st)) : Z p l e R s m args below meth c Q g nL kc ks C lv pc (.int (iZ v) :: st) := by
  refine z_if_eq n1 K d0 h1 h3 (by omega) (fun q => ?_) (fun q => ?_)
  · subst q
    exact z_iconst n4 K d3 h5 k
  · have e1 : v = 1 := by omega
    subst e1
    exact z_iconst n2 K d1 h2 (z_goto K d2 h4 k)
end ZK2A
