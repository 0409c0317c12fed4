/-! more rows: a truth value that is tested and pushed again as 1 or 0 -/
section ZK2A
variable {p : Program} {l : Launch} {e : Env} {R : Room} {s : State} {m : MethodId} {args : Array Value} {below : List Frame} {meth : Method} {c : Code} {Q : State → Prop} {g : zG} {cc : ByteArray} {nL kc ks : Nat} {ret : Option FieldType} {Ts : List Cond} {own : String} {C : Nat → va_E} {lv : List (Nat × Value)} {pc : Nat} {st : List Value}
theorem z_bool01 (n1 n2 n3 n4 : Nat) (K : zF p m meth c cc nL ret s args Ts own g) {v off off2 : Int} (hv : v = 0 ∨ v = 1) (d0 : decode cc pc = .ok (.ifCond .eq off, 3)) (d1 : decode cc n1 = .ok (.iconst 1, 1)) (d2 : decode cc n2 = .ok (.goto off2, 3)) (d3 : decode cc n3 = .ok (.iconst 0, 1)) (h1 : pc + 3 = n1) (h2 : n1 + 1 = n2) (h3 : (pc : Int) + off = (n3 : Int)) (h4 : (n2 : Int) + off2 = (n4 : Int)) (h5 : n3 + 1 = n4) (k : Z p l e R s m args below meth c Q g nL kc ks C lv n4 (.int (iZ v) :: st)) : Z p l e R s m args below meth c Q g nL kc ks C lv pc (.int (iZ v) :: st) := by
  refine z_if_eq n1 K d0 h1 h3 (by omega) (fun q => ?_) (fun q => ?_)
  · subst q
    exact z_iconst n4 K d3 h5 k
  · have e1 : v = 1 := by omega
    subst e1
    exact z_iconst n2 K d1 h2 (z_goto K d2 h4 k)
end ZK2A
section ZK2B
theorem zWs_D {g : zG} {C C' : Nat → va_E} {A : Nat → Prop} (h : va_D A (zWs g C)) : va_D A (zWs g C') := by
  have key : ∀ (i : Nat) (x : Nat × va_E), (zWs g C')[i]? = some x → i < zN ∧ x.1 = aD g i := by
    intro i x hx
    by_cases hi : i < zN
    · rw [zWs_get g C' hi] at hx
      cases hx
      exact ⟨hi, rfl⟩
    · exfalso
      rw [List.getElem?_eq_none (by simp [zWs]; omega)] at hx
      cases hx
  refine ⟨fun i j x y hi hj hxy => ?_, fun k x hk => ?_⟩
  · obtain ⟨i1, i2⟩ := key i x hi
    obtain ⟨j1, j2⟩ := key j y hj
    exact h.1 i j (aD g i, C i) (aD g j, C j) (zWs_get g C i1) (zWs_get g C j1) (by rw [← i2, ← j2]; exact hxy)
  · obtain ⟨k1, k2⟩ := key k x hk
    rw [k2]
    exact h.2 k (aD g k, C k) (zWs_get g C k1)
theorem zcell_ag (cA : ClassId) {n : Nat} {f h : Int → Int} (hag : ∀ j : Int, 0 ≤ j → j < n → h j = f j) : vp_cell cA (n, .inl (zAr h)) = vp_cell cA (n, .inl (zAr f)) := by
  rw [vp_cell_i, vp_cell_i]
  unfold arrV
  have e : (Array.ofFn (n := n) fun j => Value.int (zAr h j.val)) = Array.ofFn (n := n) fun j => Value.int (zAr f j.val) := by
    congr 1
    funext j
    unfold zAr
    rw [hag j.val (by omega) (by have := j.isLt; omega)]
  rw [e]
/-- what a row holds beyond its length doesn't matter -/
theorem zW_ag {g : zG} {C : Nat → va_E} {q n : Nat} {f h : Int → Int} {H : Heap} (hag : ∀ j : Int, 0 ≤ j → j < n → h j = f j) (hW : zW g (va_up C q (eI g n h)) H) : zW g (va_up C q (eI g n f)) H := by
  refine ⟨fun k x hx => ?_, zWs_D hW.2⟩
  by_cases hk : k < zN
  · rw [zWs_get g _ hk] at hx
    cases hx
    have h0 := hW.1 k _ (zWs_get g _ hk)
    by_cases hq : k = q
    · subst hq
      rw [va_up_eq] at h0 ⊢
      show H[aD g k]? = some (vp_cell _ _)
      rw [← zcell_ag g.2.1.1 hag]
      exact h0
    · rw [va_up_ne _ _ hq] at h0 ⊢
      exact h0
  · exfalso
    rw [List.getElem?_eq_none (by simp [zWs]; omega)] at hx
    cases hx
variable {p : Program} {l : Launch} {e : Env} {R : Room} {s : State} {m : MethodId} {args : Array Value} {below : List Frame} {meth : Method} {c : Code} {Q : State → Prop} {g : zG} {nL kc ks : Nat} {C : Nat → va_E} {lv : List (Nat × Value)} {pc : Nat} {st : List Value}
theorem z_ag {q n : Nat} {h : Int → Int} (f : Int → Int) (hag : ∀ j : Int, 0 ≤ j → j < n → h j = f j) (k : Z p l e R s m args below meth c Q g nL kc ks (va_up C q (eI g n f)) lv pc st) : Z p l e R s m args below meth c Q g nL kc ks (va_up C q (eI g n h)) lv pc st := fun H locs ls hW hS hl => k H locs ls (zW_ag hag hW) hS hl
end ZK2B
section ZK2C
theorem iZ_nat0 {n : Nat} (h : n < 2147483648) : iZ (n : Int) = nI n := Int32.toInt_inj.mp (by rw [iZ_toInt (by omega)]; exact (toInt_of rfl (by omega)).symm)
theorem iZ_rem {a d : Int} (ha : 0 ≤ a ∧ a < 2147483648) (hd : 0 < d ∧ d < 2147483648) : iZ a - iZ a / iZ d * iZ d = iZ (a % d) := by
  obtain ⟨m, rfl⟩ : ∃ m : Nat, a = (m : Int) := ⟨a.toNat, by omega⟩
  obtain ⟨k, rfl⟩ : ∃ k : Nat, d = (k : Int) := ⟨d.toNat, by omega⟩
  have hm : m % k < k := Nat.mod_lt _ (by omega)
  have e : ((m : Int) % (k : Int)) = ((m % k : Nat) : Int) := by omega
  rw [iZ_nat0 (by omega), iZ_nat0 (by omega), e, iZ_nat0 (by omega)]
  exact pk_rem (by omega) (by omega) (by omega)
theorem iZ_div {a d : Int} (ha : 0 ≤ a ∧ a < 2147483648) (hd : 0 < d ∧ d < 2147483648) : iZ a / iZ d = iZ (a / d) := by
  obtain ⟨m, rfl⟩ : ∃ m : Nat, a = (m : Int) := ⟨a.toNat, by omega⟩
  obtain ⟨k, rfl⟩ : ∃ k : Nat, d = (k : Int) := ⟨d.toNat, by omega⟩
  have hm : m / k ≤ m := Nat.div_le_self _ _
  have e : ((m : Int) / (k : Int)) = ((m / k : Nat) : Int) := by omega
  rw [iZ_nat0 (by omega), iZ_nat0 (by omega), e, iZ_nat0 (by omega)]
  exact pk_div (by omega) (by omega) (by omega)
variable {p : Program} {l : Launch} {e : Env} {R : Room} {s : State} {m : MethodId} {args : Array Value} {below : List Frame} {meth : Method} {c : Code} {Q : State → Prop} {g : zG} {cc : ByteArray} {nL kc ks : Nat} {ret : Option FieldType} {Ts : List Cond} {own : String} {C : Nat → va_E} {lv : List (Nat × Value)} {pc : Nat} {st : List Value}
theorem z_topL {a : Int64} (b : Int64) (h : a = b) (k : Z p l e R s m args below meth c Q g nL kc ks C lv pc (.long b :: st)) : Z p l e R s m args below meth c Q g nL kc ks C lv pc (.long a :: st) := by subst h; exact k
theorem z_topD {a : UInt64} (b : UInt64) (h : a = b) (k : Z p l e R s m args below meth c Q g nL kc ks C lv pc (.double b :: st)) : Z p l e R s m args below meth c Q g nL kc ks C lv pc (.double a :: st) := by subst h; exact k
theorem z_irem (n : Nat) (K : zF p m meth c cc nL ret s args Ts own g) {a d : Int} (hdg : decode cc pc = .ok (.irem, 1)) (hpc : pc + 1 = n) (ha : 0 ≤ a ∧ a < 2147483648) (hd : 0 < d ∧ d < 2147483648) (k : Z p l e R s m args below meth c Q g nL kc ks C lv n (.int (iZ (a % d)) :: st)) : Z p l e R s m args below meth c Q g nL kc ks C lv pc (.int (iZ d) :: .int (iZ a) :: st) := by
  subst hpc
  intro H locs ls hW hS hl
  have z0r : -2147483648 ≤ (0 : Int) ∧ (0 : Int) < 2147483648 := by omega
  refine lv_irem K.1.1 K.1.2.1 hdg (fun h => by have := (iZ_eq (a := d) (b := 0) (by omega) z0r).mp h; omega) ?_
  rw [iZ_rem ha hd]
  exact k H locs ls hW hS hl
theorem z_idiv (n : Nat) (K : zF p m meth c cc nL ret s args Ts own g) {a d : Int} (hdg : decode cc pc = .ok (.idiv, 1)) (hpc : pc + 1 = n) (ha : 0 ≤ a ∧ a < 2147483648) (hd : 0 < d ∧ d < 2147483648) (k : Z p l e R s m args below meth c Q g nL kc ks C lv n (.int (iZ (a / d)) :: st)) : Z p l e R s m args below meth c Q g nL kc ks C lv pc (.int (iZ d) :: .int (iZ a) :: st) := by
  subst hpc
  intro H locs ls hW hS hl
  have z0r : -2147483648 ≤ (0 : Int) ∧ (0 : Int) < 2147483648 := by omega
  refine lv_idiv K.1.1 K.1.2.1 hdg (fun h => by have := (iZ_eq (a := d) (b := 0) (by omega) z0r).mp h; omega) ?_
  rw [iZ_div ha hd]
  exact k H locs ls hW hS hl
end ZK2C
theorem zu_zu (f : Int → Int) (i v w : Int) : zu (zu f i v) i w = zu f i w := by
  funext j
  simp only [zu]
  by_cases c : j = i
  · rw [if_pos c, if_pos c]
  · rw [if_neg c, if_neg c, if_neg c]
theorem b2i_ir (b : Bool) : -2147483648 ≤ b2i b ∧ b2i b < 2147483648 := by
  have := b2i_rng b
  omega
