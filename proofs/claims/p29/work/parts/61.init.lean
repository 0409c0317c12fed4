/-! the constructors: each lays its block of cells -/
section YIA
abbrev blk1 (g : zG) (b : Nat → Nat) : va_W := [(b 0, .inr (1, [.ref (b 1), .ref (b 2), .int (iZ 0), .int (iZ 0), .int (iZ 60)])), (b 1, eI g 30 (fun _ => 0)), (b 2, eI g 30 (fun _ => 0))]
abbrev blk0 (g : zG) (b : Nat → Nat) : va_W := [(b 0, .inr (0, [.ref (b 1), .ref (b 2), .ref (b 3)])), (b 1, eI g 12 (fun _ => 0)), (b 2, eI g 72 (fun _ => 0)), (b 3, eI g 72 (fun _ => 0))]
def n12 (i : Int) : Int → Int := fun j => if 0 ≤ j ∧ j < i then -1 else 0
def n30 (i : Int) : Int → Int := fun j => if 0 ≤ j ∧ j < i then j else 0
def n60 (i : Int) : Int → Int := fun j => if j = 0 then 60 else if 78 ≤ j ∧ j < 78 + 32 * i ∧ (j - 78) % 32 = 0 then -1 else 0
theorem n12_0 : (fun _ => 0 : Int → Int) = n12 0 := by
  funext j
  simp only [n12]
  rw [if_neg (by omega)]
theorem n30_0 : (fun _ => 0 : Int → Int) = n30 0 := by
  funext j
  simp only [n30]
  rw [if_neg (by omega)]
theorem n60_0 : zu (fun _ => 0 : Int → Int) 0 60 = n60 0 := by
  funext j
  simp only [n60, zu]
  by_cases h : j = 0
  · rw [if_pos h, if_pos h]
  · rw [if_neg h, if_neg h, if_neg (by omega)]
theorem n12_s {i : Int} (h : 0 ≤ i) : zu (n12 i) i (-1) = n12 (i + 1) := by
  funext j
  simp only [n12, zu]
  by_cases hj : j = i
  · rw [if_pos hj, if_pos (by omega)]
  · rw [if_neg hj]
    by_cases h2 : 0 ≤ j ∧ j < i
    · rw [if_pos h2, if_pos (by omega)]
    · rw [if_neg h2, if_neg (by omega)]
theorem n30_s {i : Int} (h : 0 ≤ i) : zu (n30 i) i i = n30 (i + 1) := by
  funext j
  simp only [n30, zu]
  by_cases hj : j = i
  · rw [if_pos hj, if_pos (by omega), hj]
  · rw [if_neg hj]
    by_cases h2 : 0 ≤ j ∧ j < i
    · rw [if_pos h2, if_pos (by omega)]
    · rw [if_neg h2, if_neg (by omega)]
theorem n60_s {i : Int} (h : 0 ≤ i) : zu (n60 i) (65 + 32 * i + 13) (-1) = n60 (i + 1) := by
  funext j
  simp only [n60, zu]
  by_cases hj : j = 65 + 32 * i + 13
  · rw [if_pos hj, if_neg (by omega), if_pos (by omega)]
  · rw [if_neg hj]
    by_cases h0 : j = 0
    · rw [if_pos h0, if_pos h0]
    · rw [if_neg h0, if_neg h0]
      by_cases h2 : 78 ≤ j ∧ j < 78 + 32 * i ∧ (j - 78) % 32 = 0
      · rw [if_pos h2, if_pos (by omega)]
      · rw [if_neg h2, if_neg (by omega)]
abbrev blk3 (g : zG) (b : Nat → Nat) : va_W := [(b 0, .inr (3, [.ref (b 1), .ref (b 2)])), (b 1, eI g 12 (n12 12)), (b 2, eI g 72 (fun _ => 0))]
abbrev blk4 (g : zG) (b : Nat → Nat) : va_W := (([(b 0, .inr (4, [.ref (b 1), .ref (b 4), .ref (b 8)]))] ++ blk1 g (fun i => b (i + 1))) ++ blk0 g (fun i => b (i + 4))) ++ blk3 g (fun i => b (i + 8))
abbrev blk7 (g : zG) (b : Nat → Nat) : va_W := [(b 0, .inr (7, [.ref (b 1), .ref (b 2), .ref (b 3), .ref (b 4), .ref (b 5), .int (iZ 0)])), (b 1, eI g 30 (fun _ => 0)), (b 2, eI g 30 (fun _ => 0)), (b 3, eI g 30 (fun _ => 0)), (b 4, eI g 72 (fun _ => 0)), (b 5, eZ g 72 (fun _ => 0))]
abbrev blk6 (g : zG) (b : Nat → Nat) : va_W := [(b 0, .inr (6, [.ref (b 1), .ref (b 2), .int (iZ 0)])), (b 1, eI g 30 (fun _ => 0)), (b 2, eI g 31 (fun _ => 0))]
abbrev blk5 (g : zG) (b : Nat → Nat) : va_W := [(b 0, .inr (5, [.ref (b 1), .int (iZ 0), .ref (b 2), .ref (b 3), .int (iZ 0), .int (iZ 1)])), (b 1, eI g 60 (fun _ => 0)), (b 2, eI g 6 (fun _ => 0)), (b 3, eI g 6 (fun _ => 0))]
abbrev s6 (b : Nat → Nat) : Nat → Option Nat := va_up (va_up (va_up (va_up (va_up (va_up (fun _ => none) (0 : Int).toNat (some (b 2))) (1 : Int).toNat (some (b 13))) (2 : Int).toNat (some (b 24))) (3 : Int).toNat (some (b 35))) (4 : Int).toNat (some (b 46))) (5 : Int).toNat (some (b 57))
abbrev blk2 (g : zG) (b : Nat → Nat) : va_W := (((((([(b 0, .inr (2, [.ref (b 1), .int (iZ 0), .int (iZ 0)])), (b 1, eS g 6 (s6 b))] ++ blk4 g (fun i => b (i + 2))) ++ blk4 g (fun i => b (i + 13))) ++ blk4 g (fun i => b (i + 24))) ++ blk4 g (fun i => b (i + 35))) ++ blk4 g (fun i => b (i + 46))) ++ blk4 g (fun i => b (i + 57)))
abbrev blk8 (g : zG) (b : Nat → Nat) : va_W := ((((([(b 0, .inr (8, [.ref (b 1), .ref (b 12), .ref (b 18), .ref (b 21), .ref (b 89), .ref (b 93)]))] ++ blk4 g (fun i => b (i + 1))) ++ blk7 g (fun i => b (i + 12))) ++ blk6 g (fun i => b (i + 18))) ++ blk2 g (fun i => b (i + 21))) ++ blk5 g (fun i => b (i + 89))) ++ [(b 93, eI g 30 (n30 30))]
abbrev blk9 (g : zG) (b : Nat → Nat) : va_W := [(b 0, .inr (9, [.ref (b 1), .ref (b 2), .ref (b 3), .int (iZ 0), .ref (b 4), .int (iZ 0), .int (iZ 0), .int (iZ 0), .int (iZ 0), .ref (b 5), .int (iZ 0)])), (b 1, eI g 449 (n60 12)), (b 2, eI g 449 (fun _ => 0)), (b 3, eI g 2694 (fun _ => 0)), (b 4, eI g 60 (fun _ => 0)), (b 5, eI g 12 (fun _ => 0))]
end YIA
section YIB
set_option maxRecDepth 20000 in
theorem hinI_X1_X1 : ∀ w ∈ wsX10, w ∈ wsX1_init := by decide +kernel
set_option maxHeartbeats 4000000 in
set_option maxRecDepth 100000 in
theorem I_X1 (l : Launch) (g : zG) (w0 : va_W) (a : Nat) : Met l yX1_init wsX1_init ({ frames := 1, cells := 2, slots := 60, locals := 12 } : Room) (yPre g (w0 ++ [(a, .inr (1, [.null, .null, .int (iZ 0), .int (iZ 0), .int (iZ 0)]))]) [.ref a]) (yQv g (fun w' => ∃ b : Nat → Nat, b 0 = a ∧ w' = w0 ++ blk1 g b)) 2 60 (zA g) := by
  refine y_enter RX1 rfl rfl (by decide) rfl (Nat.le_of_ble_eq_true rfl) ?_
  intro p e s m args below meth c K hh hnm harg
  refine y_sub (lv' := [(0, .ref a)]) [0] rfl ?_
  refine y_aload_n 1 K dX1_init_0 rfl rfl 0 rfl ?_
  refine y_obj 4 K (by decide +kernel : Cond.methodLink RX1 3 objectInit ∈ wsX1_init) (by decide +kernel : Cond.instanceMethod objectInit ∈ wsX1_init) (by decide +kernel : Cond.code objectInit ⟨#[0xb1]⟩ 1 none ∈ wsX1_init) dX1_init_1 rfl (Nat.le_of_ble_eq_true rfl) (Nat.le_of_ble_eq_true rfl) ?_
  refine y_aload_n 5 K dX1_init_4 rfl rfl 0 rfl ?_
  refine y_bipush 7 K dX1_init_5 rfl rfl ?_
  refine y_newi 9 K hh (by decide +kernel : Cond.arrayClass .int ∈ wsX1_init) 30 rfl (by decide) (kc' := 1) (ks' := 30) rfl rfl ⟨Nat.le_of_ble_eq_true rfl, Nat.le_of_ble_eq_true rfl⟩ dX1_init_7 rfl (fun q1 => ?_)
  refine y_w (w' := w0 ++ ([(a, .inr (1, [.null, .null, .int (iZ 0), .int (iZ 0), .int (iZ 0)]))] ++ [(q1, eI g 30 (fun _ => 0))])) (yapp rfl) ?_
  refine y_putF 12 K hnm hinI_X1_X1 tyX1 tyX1_ok nmX1 (yget 0 rfl) rfl 0 (by decide) (by decide +kernel : Cond.fieldLink RX1 9 "BriefBuilder$Exhibits" "numbers" "[I" ∈ wsX1_init) (fun _ h9 => h9) rfl rfl rfl rfl (Nat.le_of_ble_eq_true rfl) dX1_init_9 rfl (yset 0 (L' := ([(a, .inr (1, [.ref q1, .null, .int (iZ 0), .int (iZ 0), .int (iZ 0)]))] ++ [(q1, eI g 30 (fun _ => 0))])) rfl) ?_
  refine y_aload_n 13 K dX1_init_12 rfl rfl 0 rfl ?_
  refine y_bipush 15 K dX1_init_13 rfl rfl ?_
  refine y_newi 17 K hh (by decide +kernel : Cond.arrayClass .int ∈ wsX1_init) 30 rfl (by decide) (kc' := 2) (ks' := 60) rfl rfl ⟨Nat.le_of_ble_eq_true rfl, Nat.le_of_ble_eq_true rfl⟩ dX1_init_15 rfl (fun q2 => ?_)
  refine y_w (w' := w0 ++ (([(a, .inr (1, [.ref q1, .null, .int (iZ 0), .int (iZ 0), .int (iZ 0)]))] ++ [(q1, eI g 30 (fun _ => 0))]) ++ [(q2, eI g 30 (fun _ => 0))])) (yapp rfl) ?_
  refine y_putF 20 K hnm hinI_X1_X1 tyX1 tyX1_ok nmX1 (yget 0 rfl) rfl 1 (by decide) (by decide +kernel : Cond.fieldLink RX1 15 "BriefBuilder$Exhibits" "pages" "[I" ∈ wsX1_init) (fun _ h9 => h9) rfl rfl rfl rfl (Nat.le_of_ble_eq_true rfl) dX1_init_17 rfl (yset 0 (L' := (([(a, .inr (1, [.ref q1, .ref q2, .int (iZ 0), .int (iZ 0), .int (iZ 0)]))] ++ [(q1, eI g 30 (fun _ => 0))]) ++ [(q2, eI g 30 (fun _ => 0))])) rfl) ?_
  refine y_aload_n 21 K dX1_init_20 rfl rfl 0 rfl ?_
  refine y_iconst 22 K dX1_init_21 rfl ?_
  refine y_put 25 K hinI_X1_X1 tyX1 tyX1_ok nmX1 (yget 0 rfl) rfl 2 (by decide) (by decide +kernel : Cond.fieldLink RX1 18 "BriefBuilder$Exhibits" "count" "I" ∈ wsX1_init) (fun _ h9 => h9) rfl rfl rfl (Nat.le_of_ble_eq_true rfl) dX1_init_22 rfl (yset 0 (L' := (([(a, .inr (1, [.ref q1, .ref q2, .int (iZ 0), .int (iZ 0), .int (iZ 0)]))] ++ [(q1, eI g 30 (fun _ => 0))]) ++ [(q2, eI g 30 (fun _ => 0))])) rfl) ?_
  refine y_aload_n 26 K dX1_init_25 rfl rfl 0 rfl ?_
  refine y_iconst 27 K dX1_init_26 rfl ?_
  refine y_put 30 K hinI_X1_X1 tyX1 tyX1_ok nmX1 (yget 0 rfl) rfl 3 (by decide) (by decide +kernel : Cond.fieldLink RX1 22 "BriefBuilder$Exhibits" "nextNumber" "I" ∈ wsX1_init) (fun _ h9 => h9) rfl rfl rfl (Nat.le_of_ble_eq_true rfl) dX1_init_27 rfl (yset 0 (L' := (([(a, .inr (1, [.ref q1, .ref q2, .int (iZ 0), .int (iZ 0), .int (iZ 0)]))] ++ [(q1, eI g 30 (fun _ => 0))]) ++ [(q2, eI g 30 (fun _ => 0))])) rfl) ?_
  refine y_aload_n 31 K dX1_init_30 rfl rfl 0 rfl ?_
  refine y_bipush 33 K dX1_init_31 rfl rfl ?_
  refine y_put 36 K hinI_X1_X1 tyX1 tyX1_ok nmX1 (yget 0 rfl) rfl 4 (by decide) (by decide +kernel : Cond.fieldLink RX1 25 "BriefBuilder$Exhibits" "binderPages" "I" ∈ wsX1_init) (fun _ h9 => h9) rfl rfl rfl (Nat.le_of_ble_eq_true rfl) dX1_init_33 rfl (yset 0 (L' := (([(a, .inr (1, [.ref q1, .ref q2, .int (iZ 0), .int (iZ 0), .int (iZ 60)]))] ++ [(q1, eI g 30 (fun _ => 0))]) ++ [(q2, eI g 30 (fun _ => 0))])) rfl) ?_
  exact y_vret K rfl dX1_init_36 ⟨fun i => if i < 1 then a else if i < 2 then q1 else q2, rfl, rfl⟩
set_option maxRecDepth 20000 in
theorem hinI_X0_X0 : ∀ w ∈ wsX00, w ∈ wsX0_init := by decide +kernel
set_option maxHeartbeats 4000000 in
set_option maxRecDepth 100000 in
theorem I_X0 (l : Launch) (g : zG) (w0 : va_W) (a : Nat) : Met l yX0_init wsX0_init ({ frames := 1, cells := 3, slots := 156, locals := 12 } : Room) (yPre g (w0 ++ [(a, .inr (0, [.null, .null, .null]))]) [.ref a]) (yQv g (fun w' => ∃ b : Nat → Nat, b 0 = a ∧ w' = w0 ++ blk0 g b)) 3 156 (zA g) := by
  refine y_enter RX0 rfl rfl (by decide) rfl (Nat.le_of_ble_eq_true rfl) ?_
  intro p e s m args below meth c K hh hnm harg
  refine y_sub (lv' := [(0, .ref a)]) [0] rfl ?_
  refine y_aload_n 1 K dX0_init_0 rfl rfl 0 rfl ?_
  refine y_obj 4 K (by decide +kernel : Cond.methodLink RX0 3 objectInit ∈ wsX0_init) (by decide +kernel : Cond.instanceMethod objectInit ∈ wsX0_init) (by decide +kernel : Cond.code objectInit ⟨#[0xb1]⟩ 1 none ∈ wsX0_init) dX0_init_1 rfl (Nat.le_of_ble_eq_true rfl) (Nat.le_of_ble_eq_true rfl) ?_
  refine y_aload_n 5 K dX0_init_4 rfl rfl 0 rfl ?_
  refine y_bipush 7 K dX0_init_5 rfl rfl ?_
  refine y_newi 9 K hh (by decide +kernel : Cond.arrayClass .int ∈ wsX0_init) 12 rfl (by decide) (kc' := 1) (ks' := 12) rfl rfl ⟨Nat.le_of_ble_eq_true rfl, Nat.le_of_ble_eq_true rfl⟩ dX0_init_7 rfl (fun q1 => ?_)
  refine y_w (w' := w0 ++ ([(a, .inr (0, [.null, .null, .null]))] ++ [(q1, eI g 12 (fun _ => 0))])) (yapp rfl) ?_
  refine y_putF 12 K hnm hinI_X0_X0 tyX0 tyX0_ok nmX0 (yget 0 rfl) rfl 0 (by decide) (by decide +kernel : Cond.fieldLink RX0 9 "BriefBuilder$Citations" "counts" "[I" ∈ wsX0_init) (fun _ h9 => h9) rfl rfl rfl rfl (Nat.le_of_ble_eq_true rfl) dX0_init_9 rfl (yset 0 (L' := ([(a, .inr (0, [.ref q1, .null, .null]))] ++ [(q1, eI g 12 (fun _ => 0))])) rfl) ?_
  refine y_aload_n 13 K dX0_init_12 rfl rfl 0 rfl ?_
  refine y_bipush 15 K dX0_init_13 rfl rfl ?_
  refine y_newi 17 K hh (by decide +kernel : Cond.arrayClass .int ∈ wsX0_init) 72 rfl (by decide) (kc' := 2) (ks' := 84) rfl rfl ⟨Nat.le_of_ble_eq_true rfl, Nat.le_of_ble_eq_true rfl⟩ dX0_init_15 rfl (fun q2 => ?_)
  refine y_w (w' := w0 ++ (([(a, .inr (0, [.ref q1, .null, .null]))] ++ [(q1, eI g 12 (fun _ => 0))]) ++ [(q2, eI g 72 (fun _ => 0))])) (yapp rfl) ?_
  refine y_putF 20 K hnm hinI_X0_X0 tyX0 tyX0_ok nmX0 (yget 0 rfl) rfl 1 (by decide) (by decide +kernel : Cond.fieldLink RX0 15 "BriefBuilder$Citations" "numbers" "[I" ∈ wsX0_init) (fun _ h9 => h9) rfl rfl rfl rfl (Nat.le_of_ble_eq_true rfl) dX0_init_17 rfl (yset 0 (L' := (([(a, .inr (0, [.ref q1, .ref q2, .null]))] ++ [(q1, eI g 12 (fun _ => 0))]) ++ [(q2, eI g 72 (fun _ => 0))])) rfl) ?_
  refine y_aload_n 21 K dX0_init_20 rfl rfl 0 rfl ?_
  refine y_bipush 23 K dX0_init_21 rfl rfl ?_
  refine y_newi 25 K hh (by decide +kernel : Cond.arrayClass .int ∈ wsX0_init) 72 rfl (by decide) (kc' := 3) (ks' := 156) rfl rfl ⟨Nat.le_of_ble_eq_true rfl, Nat.le_of_ble_eq_true rfl⟩ dX0_init_23 rfl (fun q3 => ?_)
  refine y_w (w' := w0 ++ ((([(a, .inr (0, [.ref q1, .ref q2, .null]))] ++ [(q1, eI g 12 (fun _ => 0))]) ++ [(q2, eI g 72 (fun _ => 0))]) ++ [(q3, eI g 72 (fun _ => 0))])) (yapp rfl) ?_
  refine y_putF 28 K hnm hinI_X0_X0 tyX0 tyX0_ok nmX0 (yget 0 rfl) rfl 2 (by decide) (by decide +kernel : Cond.fieldLink RX0 18 "BriefBuilder$Citations" "pages" "[I" ∈ wsX0_init) (fun _ h9 => h9) rfl rfl rfl rfl (Nat.le_of_ble_eq_true rfl) dX0_init_25 rfl (yset 0 (L' := ((([(a, .inr (0, [.ref q1, .ref q2, .ref q3]))] ++ [(q1, eI g 12 (fun _ => 0))]) ++ [(q2, eI g 72 (fun _ => 0))]) ++ [(q3, eI g 72 (fun _ => 0))])) rfl) ?_
  exact y_vret K rfl dX0_init_28 ⟨fun i => if i < 1 then a else if i < 2 then q1 else if i < 3 then q2 else q3, rfl, rfl⟩
set_option maxRecDepth 20000 in
theorem hinI_X3_X3 : ∀ w ∈ wsX30, w ∈ wsX3_init := by decide +kernel
set_option maxHeartbeats 4000000 in
set_option maxRecDepth 100000 in
theorem I_X3 (l : Launch) (g : zG) (w0 : va_W) (a : Nat) : Met l yX3_init wsX3_init ({ frames := 1, cells := 2, slots := 84, locals := 12 } : Room) (yPre g (w0 ++ [(a, .inr (3, [.null, .null]))]) [.ref a]) (yQv g (fun w' => ∃ b : Nat → Nat, b 0 = a ∧ w' = w0 ++ blk3 g b)) 2 84 (zA g) := by
  refine y_enter RX3 rfl rfl (by decide) rfl (Nat.le_of_ble_eq_true rfl) ?_
  intro p e s m args below meth c K hh hnm harg
  refine y_sub (lv' := [(0, .ref a)]) [0] rfl ?_
  refine y_aload_n 1 K dX3_init_0 rfl rfl 0 rfl ?_
  refine y_obj 4 K (by decide +kernel : Cond.methodLink RX3 3 objectInit ∈ wsX3_init) (by decide +kernel : Cond.instanceMethod objectInit ∈ wsX3_init) (by decide +kernel : Cond.code objectInit ⟨#[0xb1]⟩ 1 none ∈ wsX3_init) dX3_init_1 rfl (Nat.le_of_ble_eq_true rfl) (Nat.le_of_ble_eq_true rfl) ?_
  refine y_aload_n 5 K dX3_init_4 rfl rfl 0 rfl ?_
  refine y_bipush 7 K dX3_init_5 rfl rfl ?_
  refine y_newi 9 K hh (by decide +kernel : Cond.arrayClass .int ∈ wsX3_init) 12 rfl (by decide) (kc' := 1) (ks' := 12) rfl rfl ⟨Nat.le_of_ble_eq_true rfl, Nat.le_of_ble_eq_true rfl⟩ dX3_init_7 rfl (fun q1 => ?_)
  refine y_w (w' := w0 ++ ([(a, .inr (3, [.null, .null]))] ++ [(q1, eI g 12 (fun _ => 0))])) (yapp rfl) ?_
  refine y_putF 12 K hnm hinI_X3_X3 tyX3 tyX3_ok nmX3 (yget 0 rfl) rfl 0 (by decide) (by decide +kernel : Cond.fieldLink RX3 9 "BriefBuilder$Prints" "counts" "[I" ∈ wsX3_init) (fun _ h9 => h9) rfl rfl rfl rfl (Nat.le_of_ble_eq_true rfl) dX3_init_9 rfl (yset 0 (L' := ([(a, .inr (3, [.ref q1, .null]))] ++ [(q1, eI g 12 (fun _ => 0))])) rfl) ?_
  refine y_aload_n 13 K dX3_init_12 rfl rfl 0 rfl ?_
  refine y_bipush 15 K dX3_init_13 rfl rfl ?_
  refine y_newi 17 K hh (by decide +kernel : Cond.arrayClass .int ∈ wsX3_init) 72 rfl (by decide) (kc' := 2) (ks' := 84) rfl rfl ⟨Nat.le_of_ble_eq_true rfl, Nat.le_of_ble_eq_true rfl⟩ dX3_init_15 rfl (fun q2 => ?_)
  refine y_w (w' := w0 ++ (([(a, .inr (3, [.ref q1, .null]))] ++ [(q1, eI g 12 (fun _ => 0))]) ++ [(q2, eI g 72 (fun _ => 0))])) (yapp rfl) ?_
  refine y_putF 20 K hnm hinI_X3_X3 tyX3 tyX3_ok nmX3 (yget 0 rfl) rfl 1 (by decide) (by decide +kernel : Cond.fieldLink RX3 15 "BriefBuilder$Prints" "marks" "[I" ∈ wsX3_init) (fun _ h9 => h9) rfl rfl rfl rfl (Nat.le_of_ble_eq_true rfl) dX3_init_17 rfl (yset 0 (L' := (([(a, .inr (3, [.ref q1, .ref q2]))] ++ [(q1, eI g 12 (fun _ => 0))]) ++ [(q2, eI g 72 (fun _ => 0))])) rfl) ?_
  refine y_iconst 21 K dX3_init_20 rfl ?_
  refine y_istore_n 22 K dX3_init_21 rfl rfl (by decide) (lv' := [(1, .int (iZ 0)), (0, .ref a)]) rfl ?_
  refine y_w (w' := w0 ++ (([(a, .inr (3, [.ref q1, .ref q2]))] ++ [(q1, eI g 12 (n12 0))]) ++ [(q2, eI g 72 (fun _ => 0))])) (by rw [n12_0]) ?_
  have hloop : ∀ (n : Nat) (i : Int), 0 ≤ i → i + n = 12 → Y p l e ({ frames := 1, cells := 2, slots := 84, locals := 12 } : Room) s m args below meth c (MQ below (yQv g (fun w' => ∃ b : Nat → Nat, b 0 = a ∧ w' = w0 ++ blk3 g b)) args s 2 84 (zA g)) g 2 2 84 (w0 ++ (([(a, .inr (3, [.ref q1, .ref q2]))] ++ [(q1, eI g 12 (n12 i))]) ++ [(q2, eI g 72 (fun _ => 0))])) [(1, .int (iZ i)), (0, .ref a)] 22 [] := by
    intro n
    induction n with
    | zero =>
      intro i h0 h1
      obtain rfl : i = 12 := by omega
      refine y_iload_n 23 K dX3_init_22 rfl rfl 0 rfl ?_
      refine y_bipush 25 K dX3_init_23 rfl rfl ?_
      refine y_icmp_ge 28 K dX3_init_25 rfl (tgt := 41) rfl (by omega) (by omega) (fun _ => ?_) (fun h9 => absurd h9 (by decide))
      exact y_vret K rfl dX3_init_41 ⟨fun i => if i < 1 then a else if i < 2 then q1 else q2, rfl, rfl⟩
    | succ n IH =>
      intro i h0 h1
      refine y_iload_n 23 K dX3_init_22 rfl rfl 0 rfl ?_
      refine y_bipush 25 K dX3_init_23 rfl rfl ?_
      refine y_icmp_ge 28 K dX3_init_25 rfl (tgt := 41) rfl (by omega) (by omega) (fun h9 => absurd h9 (by omega)) (fun h9 => ?_)
      refine y_aload_n 29 K dX3_init_28 rfl rfl 1 rfl ?_
      refine y_get 32 K hinI_X3_X3 (yget 0 rfl) rfl 0 (by decide) (by decide +kernel : Cond.fieldLink RX3 9 "BriefBuilder$Prints" "counts" "[I" ∈ wsX3_init) (fun _ h9 => h9) rfl dX3_init_29 rfl ?_
      refine y_iload_n 33 K dX3_init_32 rfl rfl 0 rfl ?_
      refine y_iconst 34 K dX3_init_33 rfl ?_
      refine y_iast 35 K (yget 1 rfl) (by omega) (by omega) (by decide) dX3_init_34 rfl (yset 1 (L' := (([(a, .inr (3, [.ref q1, .ref q2]))] ++ [(q1, eI g 12 (zu (n12 i) i (-1)))]) ++ [(q2, eI g 72 (fun _ => 0))])) rfl) ?_
      refine y_iinc 38 K dX3_init_35 rfl (i + 1) (by omega) 0 rfl (by decide) (lv' := [(1, .int (iZ (i + 1))), (0, .ref a)]) rfl ?_
      refine y_goto K dX3_init_38 (tgt := 22) rfl ?_
      refine y_w (w' := w0 ++ (([(a, .inr (3, [.ref q1, .ref q2]))] ++ [(q1, eI g 12 (n12 (i + 1)))]) ++ [(q2, eI g 72 (fun _ => 0))])) (by rw [n12_s h0]) ?_
      exact IH (i + 1) (by omega) (by omega)
  exact hloop 12 0 (by omega) (by omega)
set_option maxRecDepth 20000 in
theorem hinI_X4_X0 : ∀ w ∈ wsX00, w ∈ wsX4_init := by decide +kernel
set_option maxRecDepth 20000 in
theorem hinI_X4_X1 : ∀ w ∈ wsX10, w ∈ wsX4_init := by decide +kernel
set_option maxRecDepth 20000 in
theorem hinI_X4_X3 : ∀ w ∈ wsX30, w ∈ wsX4_init := by decide +kernel
set_option maxRecDepth 20000 in
theorem hinI_X4_X4 : ∀ w ∈ wsX40, w ∈ wsX4_init := by decide +kernel
set_option maxHeartbeats 4000000 in
set_option maxRecDepth 100000 in
theorem I_X4 (l : Launch) (g : zG) (w0 : va_W) (a : Nat) : Met l yX4_init wsX4_init ({ frames := 2, cells := 10, slots := 310, locals := 33 } : Room) (yPre g (w0 ++ [(a, .inr (4, [.null, .null, .null]))]) [.ref a]) (yQv g (fun w' => ∃ b : Nat → Nat, b 0 = a ∧ w' = w0 ++ blk4 g b)) 10 310 (zA g) := by
  refine y_enter RX4 rfl rfl (by decide) rfl (Nat.le_of_ble_eq_true rfl) ?_
  intro p e s m args below meth c K hh hnm harg
  refine y_sub (lv' := [(0, .ref a)]) [0] rfl ?_
  refine y_aload_n 1 K dX4_init_0 rfl rfl 0 rfl ?_
  refine y_obj 4 K (by decide +kernel : Cond.methodLink RX4 1 objectInit ∈ wsX4_init) (by decide +kernel : Cond.instanceMethod objectInit ∈ wsX4_init) (by decide +kernel : Cond.code objectInit ⟨#[0xb1]⟩ 1 none ∈ wsX4_init) dX4_init_1 rfl (Nat.le_of_ble_eq_true rfl) (Nat.le_of_ble_eq_true rfl) ?_
  refine y_aload_n 5 K dX4_init_4 rfl rfl 0 rfl ?_
  refine y_new 8 K hh hinI_X4_X1 tyX1 tyX1_ok (by decide +kernel : Cond.classLink RX4 7 RX1 ∈ wsX4_init) (by decide +kernel : Cond.instantiable RX1 5 ∈ wsX4_init) (by decide +kernel : Cond.initialized RX1 ∈ wsX4_init) (rfl : vwCl[1]? = some (RX1, TX1, 5)) [.null, .null, .int (iZ 0), .int (iZ 0), .int (iZ 0)] (fun j hj => by rcases (show j = 0 ∨ j = 1 ∨ j = 2 ∨ j = 3 ∨ j = 4 by omega) with rfl | rfl | rfl | rfl | rfl <;> rfl) (kc' := 1) (ks' := 5) rfl rfl ⟨Nat.le_of_ble_eq_true rfl, Nat.le_of_ble_eq_true rfl⟩ dX4_init_5 rfl (fun q1 => ?_)
  refine y_dup 9 K dX4_init_8 rfl rfl ?_
  refine y_initN 12 K hh (I_X1 l g _ q1) ⟨va_cnB 0 K.1.2.2.2.2 gX4_init_X1_init_n9 rfl rfl rfl hh.2.2.2.1 (K.1.2.2.2.2 _ (by decide +kernel)) (by decide +kernel) ⟨Nat.le_of_ble_eq_true rfl, Nat.le_of_ble_eq_true rfl⟩, rfl, K.1.2.2.2.2 _ (by decide +kernel)⟩ (Nat.le_of_ble_eq_true rfl) (kc' := 3) (ks' := 65) rfl rfl dX4_init_9 rfl ⟨Nat.le_of_ble_eq_true rfl, Nat.le_of_ble_eq_true rfl⟩ (fun w9 hw9 => ?_)
  obtain ⟨b2, rfl, rfl⟩ := hw9
  refine y_w (w' := w0 ++ ([(a, .inr (4, [.null, .null, .null]))] ++ blk1 g b2)) (yapp rfl) ?_
  refine y_putF 15 K hnm hinI_X4_X4 tyX4 tyX4_ok nmX4 (yget 0 rfl) rfl 0 (by decide) (by decide +kernel : Cond.fieldLink RX4 10 "BriefBuilder$State" "exhibits" "LBriefBuilder$Exhibits;" ∈ wsX4_init) (fun _ h9 => h9) rfl rfl rfl rfl (Nat.le_of_ble_eq_true rfl) dX4_init_12 rfl (yset 0 (L' := ([(a, .inr (4, [.ref (b2 0), .null, .null]))] ++ blk1 g b2)) rfl) ?_
  refine y_aload_n 16 K dX4_init_15 rfl rfl 0 rfl ?_
  refine y_new 19 K hh hinI_X4_X0 tyX0 tyX0_ok (by decide +kernel : Cond.classLink RX4 16 RX0 ∈ wsX4_init) (by decide +kernel : Cond.instantiable RX0 3 ∈ wsX4_init) (by decide +kernel : Cond.initialized RX0 ∈ wsX4_init) (rfl : vwCl[0]? = some (RX0, TX0, 3)) [.null, .null, .null] (fun j hj => by rcases (show j = 0 ∨ j = 1 ∨ j = 2 by omega) with rfl | rfl | rfl <;> rfl) (kc' := 4) (ks' := 68) rfl rfl ⟨Nat.le_of_ble_eq_true rfl, Nat.le_of_ble_eq_true rfl⟩ dX4_init_16 rfl (fun q3 => ?_)
  refine y_dup 20 K dX4_init_19 rfl rfl ?_
  refine y_initN 23 K hh (I_X0 l g _ q3) ⟨va_cnB 0 K.1.2.2.2.2 gX4_init_X0_init_n18 rfl rfl rfl hh.2.2.2.2.1 (K.1.2.2.2.2 _ (by decide +kernel)) (by decide +kernel) ⟨Nat.le_of_ble_eq_true rfl, Nat.le_of_ble_eq_true rfl⟩, rfl, K.1.2.2.2.2 _ (by decide +kernel)⟩ (Nat.le_of_ble_eq_true rfl) (kc' := 7) (ks' := 224) rfl rfl dX4_init_20 rfl ⟨Nat.le_of_ble_eq_true rfl, Nat.le_of_ble_eq_true rfl⟩ (fun w9 hw9 => ?_)
  obtain ⟨b4, rfl, rfl⟩ := hw9
  refine y_w (w' := w0 ++ (([(a, .inr (4, [.ref (b2 0), .null, .null]))] ++ blk1 g b2) ++ blk0 g b4)) (yapp rfl) ?_
  refine y_putF 26 K hnm hinI_X4_X4 tyX4 tyX4_ok nmX4 (yget 0 rfl) rfl 1 (by decide) (by decide +kernel : Cond.fieldLink RX4 19 "BriefBuilder$State" "citations" "LBriefBuilder$Citations;" ∈ wsX4_init) (fun _ h9 => h9) rfl rfl rfl rfl (Nat.le_of_ble_eq_true rfl) dX4_init_23 rfl (yset 0 (L' := (([(a, .inr (4, [.ref (b2 0), .ref (b4 0), .null]))] ++ blk1 g b2) ++ blk0 g b4)) rfl) ?_
  refine y_aload_n 27 K dX4_init_26 rfl rfl 0 rfl ?_
  refine y_new 30 K hh hinI_X4_X3 tyX3 tyX3_ok (by decide +kernel : Cond.classLink RX4 23 RX3 ∈ wsX4_init) (by decide +kernel : Cond.instantiable RX3 2 ∈ wsX4_init) (by decide +kernel : Cond.initialized RX3 ∈ wsX4_init) (rfl : vwCl[3]? = some (RX3, TX3, 2)) [.null, .null] (fun j hj => by rcases (show j = 0 ∨ j = 1 by omega) with rfl | rfl <;> rfl) (kc' := 8) (ks' := 226) rfl rfl ⟨Nat.le_of_ble_eq_true rfl, Nat.le_of_ble_eq_true rfl⟩ dX4_init_27 rfl (fun q5 => ?_)
  refine y_dup 31 K dX4_init_30 rfl rfl ?_
  refine y_init 34 K hh (I_X3 l g _ q5) (cwI 0 K.1.2.2.2.2 gX4_init_X3_init rfl rfl rfl (K.1.2.2.2.2 _ (by decide +kernel : Cond.initialized RX3 ∈ wsX4_init)) (K.1.2.2.2.2 _ (by decide +kernel : Cond.methodLink RX4 25 yX3_init ∈ wsX4_init)) (K.1.2.2.2.2 _ (by decide +kernel : Cond.instanceMethod yX3_init ∈ wsX4_init)) rfl (by decide +kernel) ⟨Nat.le_of_ble_eq_true rfl, Nat.le_of_ble_eq_true rfl⟩) (Nat.le_of_ble_eq_true rfl) (kc' := 10) (ks' := 310) rfl rfl dX4_init_31 rfl ⟨Nat.le_of_ble_eq_true rfl, Nat.le_of_ble_eq_true rfl⟩ (fun w9 hw9 => ?_)
  obtain ⟨b6, rfl, rfl⟩ := hw9
  refine y_w (w' := w0 ++ ((([(a, .inr (4, [.ref (b2 0), .ref (b4 0), .null]))] ++ blk1 g b2) ++ blk0 g b4) ++ blk3 g b6)) (yapp rfl) ?_
  refine y_putF 37 K hnm hinI_X4_X4 tyX4 tyX4_ok nmX4 (yget 0 rfl) rfl 2 (by decide) (by decide +kernel : Cond.fieldLink RX4 26 "BriefBuilder$State" "prints" "LBriefBuilder$Prints;" ∈ wsX4_init) (fun _ h9 => h9) rfl rfl rfl rfl (Nat.le_of_ble_eq_true rfl) dX4_init_34 rfl (yset 0 (L' := ((([(a, .inr (4, [.ref (b2 0), .ref (b4 0), .ref (b6 0)]))] ++ blk1 g b2) ++ blk0 g b4) ++ blk3 g b6)) rfl) ?_
  exact y_vret K rfl dX4_init_37 ⟨fun i => if i < 1 then a else if i < 4 then b2 (i - 1) else if i < 8 then b4 (i - 4) else b6 (i - 8), rfl, rfl⟩
set_option maxRecDepth 20000 in
theorem hinI_X7_X7 : ∀ w ∈ wsX70, w ∈ wsX7_init := by decide +kernel
set_option maxHeartbeats 4000000 in
set_option maxRecDepth 100000 in
theorem I_X7 (l : Launch) (g : zG) (w0 : va_W) (a : Nat) : Met l yX7_init wsX7_init ({ frames := 1, cells := 5, slots := 234, locals := 12 } : Room) (yPre g (w0 ++ [(a, .inr (7, [.null, .null, .null, .null, .null, .int (iZ 0)]))]) [.ref a]) (yQv g (fun w' => ∃ b : Nat → Nat, b 0 = a ∧ w' = w0 ++ blk7 g b)) 5 234 (zA g) := by
  refine y_enter RX7 rfl rfl (by decide) rfl (Nat.le_of_ble_eq_true rfl) ?_
  intro p e s m args below meth c K hh hnm harg
  refine y_sub (lv' := [(0, .ref a)]) [0] rfl ?_
  refine y_aload_n 1 K dX7_init_0 rfl rfl 0 rfl ?_
  refine y_obj 4 K (by decide +kernel : Cond.methodLink RX7 3 objectInit ∈ wsX7_init) (by decide +kernel : Cond.instanceMethod objectInit ∈ wsX7_init) (by decide +kernel : Cond.code objectInit ⟨#[0xb1]⟩ 1 none ∈ wsX7_init) dX7_init_1 rfl (Nat.le_of_ble_eq_true rfl) (Nat.le_of_ble_eq_true rfl) ?_
  refine y_aload_n 5 K dX7_init_4 rfl rfl 0 rfl ?_
  refine y_bipush 7 K dX7_init_5 rfl rfl ?_
  refine y_newi 9 K hh (by decide +kernel : Cond.arrayClass .int ∈ wsX7_init) 30 rfl (by decide) (kc' := 1) (ks' := 30) rfl rfl ⟨Nat.le_of_ble_eq_true rfl, Nat.le_of_ble_eq_true rfl⟩ dX7_init_7 rfl (fun q1 => ?_)
  refine y_w (w' := w0 ++ ([(a, .inr (7, [.null, .null, .null, .null, .null, .int (iZ 0)]))] ++ [(q1, eI g 30 (fun _ => 0))])) (yapp rfl) ?_
  refine y_putF 12 K hnm hinI_X7_X7 tyX7 tyX7_ok nmX7 (yget 0 rfl) rfl 0 (by decide) (by decide +kernel : Cond.fieldLink RX7 9 "BriefBuilder$View" "binders" "[I" ∈ wsX7_init) (fun _ h9 => h9) rfl rfl rfl rfl (Nat.le_of_ble_eq_true rfl) dX7_init_9 rfl (yset 0 (L' := ([(a, .inr (7, [.ref q1, .null, .null, .null, .null, .int (iZ 0)]))] ++ [(q1, eI g 30 (fun _ => 0))])) rfl) ?_
  refine y_aload_n 13 K dX7_init_12 rfl rfl 0 rfl ?_
  refine y_bipush 15 K dX7_init_13 rfl rfl ?_
  refine y_newi 17 K hh (by decide +kernel : Cond.arrayClass .int ∈ wsX7_init) 30 rfl (by decide) (kc' := 2) (ks' := 60) rfl rfl ⟨Nat.le_of_ble_eq_true rfl, Nat.le_of_ble_eq_true rfl⟩ dX7_init_15 rfl (fun q2 => ?_)
  refine y_w (w' := w0 ++ (([(a, .inr (7, [.ref q1, .null, .null, .null, .null, .int (iZ 0)]))] ++ [(q1, eI g 30 (fun _ => 0))]) ++ [(q2, eI g 30 (fun _ => 0))])) (yapp rfl) ?_
  refine y_putF 20 K hnm hinI_X7_X7 tyX7 tyX7_ok nmX7 (yget 0 rfl) rfl 1 (by decide) (by decide +kernel : Cond.fieldLink RX7 15 "BriefBuilder$View" "tabs" "[I" ∈ wsX7_init) (fun _ h9 => h9) rfl rfl rfl rfl (Nat.le_of_ble_eq_true rfl) dX7_init_17 rfl (yset 0 (L' := (([(a, .inr (7, [.ref q1, .ref q2, .null, .null, .null, .int (iZ 0)]))] ++ [(q1, eI g 30 (fun _ => 0))]) ++ [(q2, eI g 30 (fun _ => 0))])) rfl) ?_
  refine y_aload_n 21 K dX7_init_20 rfl rfl 0 rfl ?_
  refine y_bipush 23 K dX7_init_21 rfl rfl ?_
  refine y_newi 25 K hh (by decide +kernel : Cond.arrayClass .int ∈ wsX7_init) 30 rfl (by decide) (kc' := 3) (ks' := 90) rfl rfl ⟨Nat.le_of_ble_eq_true rfl, Nat.le_of_ble_eq_true rfl⟩ dX7_init_23 rfl (fun q3 => ?_)
  refine y_w (w' := w0 ++ ((([(a, .inr (7, [.ref q1, .ref q2, .null, .null, .null, .int (iZ 0)]))] ++ [(q1, eI g 30 (fun _ => 0))]) ++ [(q2, eI g 30 (fun _ => 0))]) ++ [(q3, eI g 30 (fun _ => 0))])) (yapp rfl) ?_
  refine y_putF 28 K hnm hinI_X7_X7 tyX7 tyX7_ok nmX7 (yget 0 rfl) rfl 2 (by decide) (by decide +kernel : Cond.fieldLink RX7 18 "BriefBuilder$View" "firstPages" "[I" ∈ wsX7_init) (fun _ h9 => h9) rfl rfl rfl rfl (Nat.le_of_ble_eq_true rfl) dX7_init_25 rfl (yset 0 (L' := ((([(a, .inr (7, [.ref q1, .ref q2, .ref q3, .null, .null, .int (iZ 0)]))] ++ [(q1, eI g 30 (fun _ => 0))]) ++ [(q2, eI g 30 (fun _ => 0))]) ++ [(q3, eI g 30 (fun _ => 0))])) rfl) ?_
  refine y_aload_n 29 K dX7_init_28 rfl rfl 0 rfl ?_
  refine y_bipush 31 K dX7_init_29 rfl rfl ?_
  refine y_newi 33 K hh (by decide +kernel : Cond.arrayClass .int ∈ wsX7_init) 72 rfl (by decide) (kc' := 4) (ks' := 162) rfl rfl ⟨Nat.le_of_ble_eq_true rfl, Nat.le_of_ble_eq_true rfl⟩ dX7_init_31 rfl (fun q4 => ?_)
  refine y_w (w' := w0 ++ (((([(a, .inr (7, [.ref q1, .ref q2, .ref q3, .null, .null, .int (iZ 0)]))] ++ [(q1, eI g 30 (fun _ => 0))]) ++ [(q2, eI g 30 (fun _ => 0))]) ++ [(q3, eI g 30 (fun _ => 0))]) ++ [(q4, eI g 72 (fun _ => 0))])) (yapp rfl) ?_
  refine y_putF 36 K hnm hinI_X7_X7 tyX7 tyX7_ok nmX7 (yget 0 rfl) rfl 3 (by decide) (by decide +kernel : Cond.fieldLink RX7 21 "BriefBuilder$View" "letters" "[I" ∈ wsX7_init) (fun _ h9 => h9) rfl rfl rfl rfl (Nat.le_of_ble_eq_true rfl) dX7_init_33 rfl (yset 0 (L' := (((([(a, .inr (7, [.ref q1, .ref q2, .ref q3, .ref q4, .null, .int (iZ 0)]))] ++ [(q1, eI g 30 (fun _ => 0))]) ++ [(q2, eI g 30 (fun _ => 0))]) ++ [(q3, eI g 30 (fun _ => 0))]) ++ [(q4, eI g 72 (fun _ => 0))])) rfl) ?_
  refine y_aload_n 37 K dX7_init_36 rfl rfl 0 rfl ?_
  refine y_bipush 39 K dX7_init_37 rfl rfl ?_
  refine y_newz 41 K hh (by decide +kernel : Cond.arrayClass .boolean ∈ wsX7_init) 72 rfl (by decide) (kc' := 5) (ks' := 234) rfl rfl ⟨Nat.le_of_ble_eq_true rfl, Nat.le_of_ble_eq_true rfl⟩ dX7_init_39 rfl (fun q5 => ?_)
  refine y_w (w' := w0 ++ ((((([(a, .inr (7, [.ref q1, .ref q2, .ref q3, .ref q4, .null, .int (iZ 0)]))] ++ [(q1, eI g 30 (fun _ => 0))]) ++ [(q2, eI g 30 (fun _ => 0))]) ++ [(q3, eI g 30 (fun _ => 0))]) ++ [(q4, eI g 72 (fun _ => 0))]) ++ [(q5, eZ g 72 (fun _ => 0))])) (yapp rfl) ?_
  refine y_putF 44 K hnm hinI_X7_X7 tyX7 tyX7_ok nmX7 (yget 0 rfl) rfl 4 (by decide) (by decide +kernel : Cond.fieldLink RX7 24 "BriefBuilder$View" "lost" "[Z" ∈ wsX7_init) (fun _ h9 => h9) rfl rfl rfl rfl (Nat.le_of_ble_eq_true rfl) dX7_init_41 rfl (yset 0 (L' := ((((([(a, .inr (7, [.ref q1, .ref q2, .ref q3, .ref q4, .ref q5, .int (iZ 0)]))] ++ [(q1, eI g 30 (fun _ => 0))]) ++ [(q2, eI g 30 (fun _ => 0))]) ++ [(q3, eI g 30 (fun _ => 0))]) ++ [(q4, eI g 72 (fun _ => 0))]) ++ [(q5, eZ g 72 (fun _ => 0))])) rfl) ?_
  refine y_aload_n 45 K dX7_init_44 rfl rfl 0 rfl ?_
  refine y_iconst 46 K dX7_init_45 rfl ?_
  refine y_put 49 K hinI_X7_X7 tyX7 tyX7_ok nmX7 (yget 0 rfl) rfl 5 (by decide) (by decide +kernel : Cond.fieldLink RX7 28 "BriefBuilder$View" "binderCount" "I" ∈ wsX7_init) (fun _ h9 => h9) rfl rfl rfl (Nat.le_of_ble_eq_true rfl) dX7_init_46 rfl (yset 0 (L' := ((((([(a, .inr (7, [.ref q1, .ref q2, .ref q3, .ref q4, .ref q5, .int (iZ 0)]))] ++ [(q1, eI g 30 (fun _ => 0))]) ++ [(q2, eI g 30 (fun _ => 0))]) ++ [(q3, eI g 30 (fun _ => 0))]) ++ [(q4, eI g 72 (fun _ => 0))]) ++ [(q5, eZ g 72 (fun _ => 0))])) rfl) ?_
  exact y_vret K rfl dX7_init_49 ⟨fun i => if i < 1 then a else if i < 2 then q1 else if i < 3 then q2 else if i < 4 then q3 else if i < 5 then q4 else q5, rfl, rfl⟩
set_option maxRecDepth 20000 in
theorem hinI_X6_X6 : ∀ w ∈ wsX60, w ∈ wsX6_init := by decide +kernel
set_option maxHeartbeats 4000000 in
set_option maxRecDepth 100000 in
theorem I_X6 (l : Launch) (g : zG) (w0 : va_W) (a : Nat) : Met l yX6_init wsX6_init ({ frames := 1, cells := 2, slots := 61, locals := 12 } : Room) (yPre g (w0 ++ [(a, .inr (6, [.null, .null, .int (iZ 0)]))]) [.ref a]) (yQv g (fun w' => ∃ b : Nat → Nat, b 0 = a ∧ w' = w0 ++ blk6 g b)) 2 61 (zA g) := by
  refine y_enter RX6 rfl rfl (by decide) rfl (Nat.le_of_ble_eq_true rfl) ?_
  intro p e s m args below meth c K hh hnm harg
  refine y_sub (lv' := [(0, .ref a)]) [0] rfl ?_
  refine y_aload_n 1 K dX6_init_0 rfl rfl 0 rfl ?_
  refine y_obj 4 K (by decide +kernel : Cond.methodLink RX6 3 objectInit ∈ wsX6_init) (by decide +kernel : Cond.instanceMethod objectInit ∈ wsX6_init) (by decide +kernel : Cond.code objectInit ⟨#[0xb1]⟩ 1 none ∈ wsX6_init) dX6_init_1 rfl (Nat.le_of_ble_eq_true rfl) (Nat.le_of_ble_eq_true rfl) ?_
  refine y_aload_n 5 K dX6_init_4 rfl rfl 0 rfl ?_
  refine y_bipush 7 K dX6_init_5 rfl rfl ?_
  refine y_newi 9 K hh (by decide +kernel : Cond.arrayClass .int ∈ wsX6_init) 30 rfl (by decide) (kc' := 1) (ks' := 30) rfl rfl ⟨Nat.le_of_ble_eq_true rfl, Nat.le_of_ble_eq_true rfl⟩ dX6_init_7 rfl (fun q1 => ?_)
  refine y_w (w' := w0 ++ ([(a, .inr (6, [.null, .null, .int (iZ 0)]))] ++ [(q1, eI g 30 (fun _ => 0))])) (yapp rfl) ?_
  refine y_putF 12 K hnm hinI_X6_X6 tyX6 tyX6_ok nmX6 (yget 0 rfl) rfl 0 (by decide) (by decide +kernel : Cond.fieldLink RX6 9 "BriefBuilder$Trial" "newPlaces" "[I" ∈ wsX6_init) (fun _ h9 => h9) rfl rfl rfl rfl (Nat.le_of_ble_eq_true rfl) dX6_init_9 rfl (yset 0 (L' := ([(a, .inr (6, [.ref q1, .null, .int (iZ 0)]))] ++ [(q1, eI g 30 (fun _ => 0))])) rfl) ?_
  refine y_aload_n 13 K dX6_init_12 rfl rfl 0 rfl ?_
  refine y_bipush 15 K dX6_init_13 rfl rfl ?_
  refine y_newi 17 K hh (by decide +kernel : Cond.arrayClass .int ∈ wsX6_init) 31 rfl (by decide) (kc' := 2) (ks' := 61) rfl rfl ⟨Nat.le_of_ble_eq_true rfl, Nat.le_of_ble_eq_true rfl⟩ dX6_init_15 rfl (fun q2 => ?_)
  refine y_w (w' := w0 ++ (([(a, .inr (6, [.ref q1, .null, .int (iZ 0)]))] ++ [(q1, eI g 30 (fun _ => 0))]) ++ [(q2, eI g 31 (fun _ => 0))])) (yapp rfl) ?_
  refine y_putF 20 K hnm hinI_X6_X6 tyX6 tyX6_ok nmX6 (yget 0 rfl) rfl 1 (by decide) (by decide +kernel : Cond.fieldLink RX6 15 "BriefBuilder$Trial" "pages" "[I" ∈ wsX6_init) (fun _ h9 => h9) rfl rfl rfl rfl (Nat.le_of_ble_eq_true rfl) dX6_init_17 rfl (yset 0 (L' := (([(a, .inr (6, [.ref q1, .ref q2, .int (iZ 0)]))] ++ [(q1, eI g 30 (fun _ => 0))]) ++ [(q2, eI g 31 (fun _ => 0))])) rfl) ?_
  refine y_aload_n 21 K dX6_init_20 rfl rfl 0 rfl ?_
  refine y_iconst 22 K dX6_init_21 rfl ?_
  refine y_put 25 K hinI_X6_X6 tyX6 tyX6_ok nmX6 (yget 0 rfl) rfl 2 (by decide) (by decide +kernel : Cond.fieldLink RX6 18 "BriefBuilder$Trial" "count" "I" ∈ wsX6_init) (fun _ h9 => h9) rfl rfl rfl (Nat.le_of_ble_eq_true rfl) dX6_init_22 rfl (yset 0 (L' := (([(a, .inr (6, [.ref q1, .ref q2, .int (iZ 0)]))] ++ [(q1, eI g 30 (fun _ => 0))]) ++ [(q2, eI g 31 (fun _ => 0))])) rfl) ?_
  exact y_vret K rfl dX6_init_25 ⟨fun i => if i < 1 then a else if i < 2 then q1 else q2, rfl, rfl⟩
set_option maxRecDepth 20000 in
theorem hinI_X5_X5 : ∀ w ∈ wsX50, w ∈ wsX5_init := by decide +kernel
set_option maxHeartbeats 4000000 in
set_option maxRecDepth 100000 in
theorem I_X5 (l : Launch) (g : zG) (w0 : va_W) (a : Nat) : Met l yX5_init wsX5_init ({ frames := 1, cells := 3, slots := 72, locals := 12 } : Room) (yPre g (w0 ++ [(a, .inr (5, [.null, .int (iZ 0), .null, .null, .int (iZ 0), .int (iZ 0)]))]) [.ref a]) (yQv g (fun w' => ∃ b : Nat → Nat, b 0 = a ∧ w' = w0 ++ blk5 g b)) 3 72 (zA g) := by
  refine y_enter RX5 rfl rfl (by decide) rfl (Nat.le_of_ble_eq_true rfl) ?_
  intro p e s m args below meth c K hh hnm harg
  refine y_sub (lv' := [(0, .ref a)]) [0] rfl ?_
  refine y_aload_n 1 K dX5_init_0 rfl rfl 0 rfl ?_
  refine y_obj 4 K (by decide +kernel : Cond.methodLink RX5 3 objectInit ∈ wsX5_init) (by decide +kernel : Cond.instanceMethod objectInit ∈ wsX5_init) (by decide +kernel : Cond.code objectInit ⟨#[0xb1]⟩ 1 none ∈ wsX5_init) dX5_init_1 rfl (Nat.le_of_ble_eq_true rfl) (Nat.le_of_ble_eq_true rfl) ?_
  refine y_aload_n 5 K dX5_init_4 rfl rfl 0 rfl ?_
  refine y_bipush 7 K dX5_init_5 rfl rfl ?_
  refine y_newi 9 K hh (by decide +kernel : Cond.arrayClass .int ∈ wsX5_init) 60 rfl (by decide) (kc' := 1) (ks' := 60) rfl rfl ⟨Nat.le_of_ble_eq_true rfl, Nat.le_of_ble_eq_true rfl⟩ dX5_init_7 rfl (fun q1 => ?_)
  refine y_w (w' := w0 ++ ([(a, .inr (5, [.null, .int (iZ 0), .null, .null, .int (iZ 0), .int (iZ 0)]))] ++ [(q1, eI g 60 (fun _ => 0))])) (yapp rfl) ?_
  refine y_putF 12 K hnm hinI_X5_X5 tyX5 tyX5_ok nmX5 (yget 0 rfl) rfl 0 (by decide) (by decide +kernel : Cond.fieldLink RX5 9 "BriefBuilder$Text" "codes" "[I" ∈ wsX5_init) (fun _ h9 => h9) rfl rfl rfl rfl (Nat.le_of_ble_eq_true rfl) dX5_init_9 rfl (yset 0 (L' := ([(a, .inr (5, [.ref q1, .int (iZ 0), .null, .null, .int (iZ 0), .int (iZ 0)]))] ++ [(q1, eI g 60 (fun _ => 0))])) rfl) ?_
  refine y_aload_n 13 K dX5_init_12 rfl rfl 0 rfl ?_
  refine y_iconst 14 K dX5_init_13 rfl ?_
  refine y_put 17 K hinI_X5_X5 tyX5 tyX5_ok nmX5 (yget 0 rfl) rfl 1 (by decide) (by decide +kernel : Cond.fieldLink RX5 15 "BriefBuilder$Text" "length" "I" ∈ wsX5_init) (fun _ h9 => h9) rfl rfl rfl (Nat.le_of_ble_eq_true rfl) dX5_init_14 rfl (yset 0 (L' := ([(a, .inr (5, [.ref q1, .int (iZ 0), .null, .null, .int (iZ 0), .int (iZ 0)]))] ++ [(q1, eI g 60 (fun _ => 0))])) rfl) ?_
  refine y_aload_n 18 K dX5_init_17 rfl rfl 0 rfl ?_
  refine y_bipush 20 K dX5_init_18 rfl rfl ?_
  refine y_newi 22 K hh (by decide +kernel : Cond.arrayClass .int ∈ wsX5_init) 6 rfl (by decide) (kc' := 2) (ks' := 66) rfl rfl ⟨Nat.le_of_ble_eq_true rfl, Nat.le_of_ble_eq_true rfl⟩ dX5_init_20 rfl (fun q2 => ?_)
  refine y_w (w' := w0 ++ (([(a, .inr (5, [.ref q1, .int (iZ 0), .null, .null, .int (iZ 0), .int (iZ 0)]))] ++ [(q1, eI g 60 (fun _ => 0))]) ++ [(q2, eI g 6 (fun _ => 0))])) (yapp rfl) ?_
  refine y_putF 25 K hnm hinI_X5_X5 tyX5 tyX5_ok nmX5 (yget 0 rfl) rfl 2 (by decide) (by decide +kernel : Cond.fieldLink RX5 19 "BriefBuilder$Text" "places" "[I" ∈ wsX5_init) (fun _ h9 => h9) rfl rfl rfl rfl (Nat.le_of_ble_eq_true rfl) dX5_init_22 rfl (yset 0 (L' := (([(a, .inr (5, [.ref q1, .int (iZ 0), .ref q2, .null, .int (iZ 0), .int (iZ 0)]))] ++ [(q1, eI g 60 (fun _ => 0))]) ++ [(q2, eI g 6 (fun _ => 0))])) rfl) ?_
  refine y_aload_n 26 K dX5_init_25 rfl rfl 0 rfl ?_
  refine y_bipush 28 K dX5_init_26 rfl rfl ?_
  refine y_newi 30 K hh (by decide +kernel : Cond.arrayClass .int ∈ wsX5_init) 6 rfl (by decide) (kc' := 3) (ks' := 72) rfl rfl ⟨Nat.le_of_ble_eq_true rfl, Nat.le_of_ble_eq_true rfl⟩ dX5_init_28 rfl (fun q3 => ?_)
  refine y_w (w' := w0 ++ ((([(a, .inr (5, [.ref q1, .int (iZ 0), .ref q2, .null, .int (iZ 0), .int (iZ 0)]))] ++ [(q1, eI g 60 (fun _ => 0))]) ++ [(q2, eI g 6 (fun _ => 0))]) ++ [(q3, eI g 6 (fun _ => 0))])) (yapp rfl) ?_
  refine y_putF 33 K hnm hinI_X5_X5 tyX5 tyX5_ok nmX5 (yget 0 rfl) rfl 3 (by decide) (by decide +kernel : Cond.fieldLink RX5 22 "BriefBuilder$Text" "pages" "[I" ∈ wsX5_init) (fun _ h9 => h9) rfl rfl rfl rfl (Nat.le_of_ble_eq_true rfl) dX5_init_30 rfl (yset 0 (L' := ((([(a, .inr (5, [.ref q1, .int (iZ 0), .ref q2, .ref q3, .int (iZ 0), .int (iZ 0)]))] ++ [(q1, eI g 60 (fun _ => 0))]) ++ [(q2, eI g 6 (fun _ => 0))]) ++ [(q3, eI g 6 (fun _ => 0))])) rfl) ?_
  refine y_aload_n 34 K dX5_init_33 rfl rfl 0 rfl ?_
  refine y_iconst 35 K dX5_init_34 rfl ?_
  refine y_put 38 K hinI_X5_X5 tyX5 tyX5_ok nmX5 (yget 0 rfl) rfl 4 (by decide) (by decide +kernel : Cond.fieldLink RX5 25 "BriefBuilder$Text" "current" "I" ∈ wsX5_init) (fun _ h9 => h9) rfl rfl rfl (Nat.le_of_ble_eq_true rfl) dX5_init_35 rfl (yset 0 (L' := ((([(a, .inr (5, [.ref q1, .int (iZ 0), .ref q2, .ref q3, .int (iZ 0), .int (iZ 0)]))] ++ [(q1, eI g 60 (fun _ => 0))]) ++ [(q2, eI g 6 (fun _ => 0))]) ++ [(q3, eI g 6 (fun _ => 0))])) rfl) ?_
  refine y_aload_n 39 K dX5_init_38 rfl rfl 0 rfl ?_
  refine y_iconst 40 K dX5_init_39 rfl ?_
  refine y_put 43 K hinI_X5_X5 tyX5 tyX5_ok nmX5 (yget 0 rfl) rfl 5 (by decide) (by decide +kernel : Cond.fieldLink RX5 28 "BriefBuilder$Text" "step" "I" ∈ wsX5_init) (fun _ h9 => h9) rfl rfl rfl (Nat.le_of_ble_eq_true rfl) dX5_init_40 rfl (yset 0 (L' := ((([(a, .inr (5, [.ref q1, .int (iZ 0), .ref q2, .ref q3, .int (iZ 0), .int (iZ 1)]))] ++ [(q1, eI g 60 (fun _ => 0))]) ++ [(q2, eI g 6 (fun _ => 0))]) ++ [(q3, eI g 6 (fun _ => 0))])) rfl) ?_
  exact y_vret K rfl dX5_init_43 ⟨fun i => if i < 1 then a else if i < 2 then q1 else if i < 3 then q2 else q3, rfl, rfl⟩
set_option maxRecDepth 20000 in
theorem hinI_X2_X2 : ∀ w ∈ wsX20, w ∈ wsX2_init := by decide +kernel
set_option maxRecDepth 20000 in
theorem hinI_X2_X4 : ∀ w ∈ wsX40, w ∈ wsX2_init := by decide +kernel
set_option maxHeartbeats 4000000 in
set_option maxRecDepth 100000 in
theorem I_X2 (l : Launch) (g : zG) (w0 : va_W) (a : Nat) : Met l yX2_init wsX2_init ({ frames := 3, cells := 67, slots := 1884, locals := 53 } : Room) (yPre g (w0 ++ [(a, .inr (2, [.null, .int (iZ 0), .int (iZ 0)]))]) [.ref a]) (yQv g (fun w' => ∃ b : Nat → Nat, b 0 = a ∧ w' = w0 ++ blk2 g b)) 67 1884 (zA g) := by
  refine y_enter RX2 rfl rfl (by decide) rfl (Nat.le_of_ble_eq_true rfl) ?_
  intro p e s m args below meth c K hh hnm harg
  refine y_sub (lv' := [(0, .ref a)]) [0] rfl ?_
  refine y_aload_n 1 K dX2_init_0 rfl rfl 0 rfl ?_
  refine y_obj 4 K (by decide +kernel : Cond.methodLink RX2 3 objectInit ∈ wsX2_init) (by decide +kernel : Cond.instanceMethod objectInit ∈ wsX2_init) (by decide +kernel : Cond.code objectInit ⟨#[0xb1]⟩ 1 none ∈ wsX2_init) dX2_init_1 rfl (Nat.le_of_ble_eq_true rfl) (Nat.le_of_ble_eq_true rfl) ?_
  refine y_aload_n 5 K dX2_init_4 rfl rfl 0 rfl ?_
  refine y_bipush 7 K dX2_init_5 rfl rfl ?_
  refine y_newq 10 K hh (by decide +kernel : Cond.classLink RX2 9 RX4 ∈ wsX2_init) 6 rfl (by decide) (kc' := 1) (ks' := 6) rfl rfl ⟨Nat.le_of_ble_eq_true rfl, Nat.le_of_ble_eq_true rfl⟩ dX2_init_7 rfl (fun q1 => ?_)
  refine y_w (w' := w0 ++ ([(a, .inr (2, [.null, .int (iZ 0), .int (iZ 0)]))] ++ [(q1, eS g 6 (fun _ => none))])) (yapp rfl) ?_
  refine y_putF 13 K hnm hinI_X2_X2 tyX2 tyX2_ok nmX2 (yget 0 rfl) rfl 0 (by decide) (by decide +kernel : Cond.fieldLink RX2 11 "BriefBuilder$History" "states" "[LBriefBuilder$State;" ∈ wsX2_init) (fun _ h9 => h9) rfl rfl rfl rfl (Nat.le_of_ble_eq_true rfl) dX2_init_10 rfl (yset 0 (L' := ([(a, .inr (2, [.ref q1, .int (iZ 0), .int (iZ 0)]))] ++ [(q1, eS g 6 (fun _ => none))])) rfl) ?_
  refine y_aload_n 14 K dX2_init_13 rfl rfl 0 rfl ?_
  refine y_iconst 15 K dX2_init_14 rfl ?_
  refine y_put 18 K hinI_X2_X2 tyX2 tyX2_ok nmX2 (yget 0 rfl) rfl 1 (by decide) (by decide +kernel : Cond.fieldLink RX2 17 "BriefBuilder$History" "oldest" "I" ∈ wsX2_init) (fun _ h9 => h9) rfl rfl rfl (Nat.le_of_ble_eq_true rfl) dX2_init_15 rfl (yset 0 (L' := ([(a, .inr (2, [.ref q1, .int (iZ 0), .int (iZ 0)]))] ++ [(q1, eS g 6 (fun _ => none))])) rfl) ?_
  refine y_aload_n 19 K dX2_init_18 rfl rfl 0 rfl ?_
  refine y_iconst 20 K dX2_init_19 rfl ?_
  refine y_put 23 K hinI_X2_X2 tyX2 tyX2_ok nmX2 (yget 0 rfl) rfl 2 (by decide) (by decide +kernel : Cond.fieldLink RX2 21 "BriefBuilder$History" "count" "I" ∈ wsX2_init) (fun _ h9 => h9) rfl rfl rfl (Nat.le_of_ble_eq_true rfl) dX2_init_20 rfl (yset 0 (L' := ([(a, .inr (2, [.ref q1, .int (iZ 0), .int (iZ 0)]))] ++ [(q1, eS g 6 (fun _ => none))])) rfl) ?_
  refine y_iconst 24 K dX2_init_23 rfl ?_
  refine y_istore_n 25 K dX2_init_24 rfl rfl (by decide) (lv' := [(1, .int (iZ 0)), (0, .ref a)]) rfl ?_
  refine y_iload_n 26 K dX2_init_25 rfl rfl 0 rfl ?_
  refine y_bipush 28 K dX2_init_26 rfl rfl ?_
  refine y_icmp_ge 31 K dX2_init_28 rfl (tgt := 50) rfl (by omega) (by omega) (fun h9 => absurd h9 (by decide)) (fun _ => ?_)
  refine y_aload_n 32 K dX2_init_31 rfl rfl 1 rfl ?_
  refine y_get 35 K hinI_X2_X2 (yget 0 rfl) rfl 0 (by decide) (by decide +kernel : Cond.fieldLink RX2 11 "BriefBuilder$History" "states" "[LBriefBuilder$State;" ∈ wsX2_init) (fun _ h9 => h9) rfl dX2_init_32 rfl ?_
  refine y_iload_n 36 K dX2_init_35 rfl rfl 0 rfl ?_
  refine y_new 39 K hh hinI_X2_X4 tyX4 tyX4_ok (by decide +kernel : Cond.classLink RX2 9 RX4 ∈ wsX2_init) (by decide +kernel : Cond.instantiable RX4 3 ∈ wsX2_init) (by decide +kernel : Cond.initialized RX4 ∈ wsX2_init) (rfl : vwCl[4]? = some (RX4, TX4, 3)) [.null, .null, .null] (fun j hj => by rcases (show j = 0 ∨ j = 1 ∨ j = 2 by omega) with rfl | rfl | rfl <;> rfl) (kc' := 2) (ks' := 9) rfl rfl ⟨Nat.le_of_ble_eq_true rfl, Nat.le_of_ble_eq_true rfl⟩ dX2_init_36 rfl (fun q2 => ?_)
  refine y_dup 40 K dX2_init_39 rfl rfl ?_
  refine y_initN 43 K hh (I_X4 l g _ q2) ⟨va_cnB 0 K.1.2.2.2.2 gX2_init_X4_init_n24 rfl rfl rfl hh.2.2.2.2.2.2.2.1 (K.1.2.2.2.2 _ (by decide +kernel)) (by decide +kernel) ⟨Nat.le_of_ble_eq_true rfl, Nat.le_of_ble_eq_true rfl⟩, rfl, K.1.2.2.2.2 _ (by decide +kernel)⟩ (Nat.le_of_ble_eq_true rfl) (kc' := 12) (ks' := 319) rfl rfl dX2_init_40 rfl ⟨Nat.le_of_ble_eq_true rfl, Nat.le_of_ble_eq_true rfl⟩ (fun w9 hw9 => ?_)
  obtain ⟨b3, rfl, rfl⟩ := hw9
  refine y_w (w' := w0 ++ (([(a, .inr (2, [.ref q1, .int (iZ 0), .int (iZ 0)]))] ++ [(q1, eS g 6 (fun _ => none))]) ++ blk4 g b3)) (yapp rfl) ?_
  refine y_aast 44 K (yget 1 rfl) (yget 2 rfl) (by decide) (by decide) (by decide) dX2_init_43 rfl (yset 1 (L' := (([(a, .inr (2, [.ref q1, .int (iZ 0), .int (iZ 0)]))] ++ [(q1, eS g 6 (va_up (fun _ => none) (0 : Int).toNat (some (b3 0))))]) ++ blk4 g b3)) rfl) ?_
  refine y_iinc 47 K dX2_init_44 rfl 1 (by omega) 0 rfl (by decide) (lv' := [(1, .int (iZ 1)), (0, .ref a)]) rfl ?_
  refine y_goto K dX2_init_47 (tgt := 25) rfl ?_
  refine y_iload_n 26 K dX2_init_25 rfl rfl 0 rfl ?_
  refine y_bipush 28 K dX2_init_26 rfl rfl ?_
  refine y_icmp_ge 31 K dX2_init_28 rfl (tgt := 50) rfl (by omega) (by omega) (fun h9 => absurd h9 (by decide)) (fun _ => ?_)
  refine y_aload_n 32 K dX2_init_31 rfl rfl 1 rfl ?_
  refine y_get 35 K hinI_X2_X2 (yget 0 rfl) rfl 0 (by decide) (by decide +kernel : Cond.fieldLink RX2 11 "BriefBuilder$History" "states" "[LBriefBuilder$State;" ∈ wsX2_init) (fun _ h9 => h9) rfl dX2_init_32 rfl ?_
  refine y_iload_n 36 K dX2_init_35 rfl rfl 0 rfl ?_
  refine y_new 39 K hh hinI_X2_X4 tyX4 tyX4_ok (by decide +kernel : Cond.classLink RX2 9 RX4 ∈ wsX2_init) (by decide +kernel : Cond.instantiable RX4 3 ∈ wsX2_init) (by decide +kernel : Cond.initialized RX4 ∈ wsX2_init) (rfl : vwCl[4]? = some (RX4, TX4, 3)) [.null, .null, .null] (fun j hj => by rcases (show j = 0 ∨ j = 1 ∨ j = 2 by omega) with rfl | rfl | rfl <;> rfl) (kc' := 13) (ks' := 322) rfl rfl ⟨Nat.le_of_ble_eq_true rfl, Nat.le_of_ble_eq_true rfl⟩ dX2_init_36 rfl (fun q4 => ?_)
  refine y_dup 40 K dX2_init_39 rfl rfl ?_
  refine y_initN 43 K hh (I_X4 l g _ q4) ⟨va_cnB 0 K.1.2.2.2.2 gX2_init_X4_init_n24 rfl rfl rfl hh.2.2.2.2.2.2.2.1 (K.1.2.2.2.2 _ (by decide +kernel)) (by decide +kernel) ⟨Nat.le_of_ble_eq_true rfl, Nat.le_of_ble_eq_true rfl⟩, rfl, K.1.2.2.2.2 _ (by decide +kernel)⟩ (Nat.le_of_ble_eq_true rfl) (kc' := 23) (ks' := 632) rfl rfl dX2_init_40 rfl ⟨Nat.le_of_ble_eq_true rfl, Nat.le_of_ble_eq_true rfl⟩ (fun w9 hw9 => ?_)
  obtain ⟨b5, rfl, rfl⟩ := hw9
  refine y_w (w' := w0 ++ ((([(a, .inr (2, [.ref q1, .int (iZ 0), .int (iZ 0)]))] ++ [(q1, eS g 6 (va_up (fun _ => none) (0 : Int).toNat (some (b3 0))))]) ++ blk4 g b3) ++ blk4 g b5)) (yapp rfl) ?_
  refine y_aast 44 K (yget 1 rfl) (yget 13 rfl) (by decide) (by decide) (by decide) dX2_init_43 rfl (yset 1 (L' := ((([(a, .inr (2, [.ref q1, .int (iZ 0), .int (iZ 0)]))] ++ [(q1, eS g 6 (va_up (va_up (fun _ => none) (0 : Int).toNat (some (b3 0))) (1 : Int).toNat (some (b5 0))))]) ++ blk4 g b3) ++ blk4 g b5)) rfl) ?_
  refine y_iinc 47 K dX2_init_44 rfl 2 (by omega) 0 rfl (by decide) (lv' := [(1, .int (iZ 2)), (0, .ref a)]) rfl ?_
  refine y_goto K dX2_init_47 (tgt := 25) rfl ?_
  refine y_iload_n 26 K dX2_init_25 rfl rfl 0 rfl ?_
  refine y_bipush 28 K dX2_init_26 rfl rfl ?_
  refine y_icmp_ge 31 K dX2_init_28 rfl (tgt := 50) rfl (by omega) (by omega) (fun h9 => absurd h9 (by decide)) (fun _ => ?_)
  refine y_aload_n 32 K dX2_init_31 rfl rfl 1 rfl ?_
  refine y_get 35 K hinI_X2_X2 (yget 0 rfl) rfl 0 (by decide) (by decide +kernel : Cond.fieldLink RX2 11 "BriefBuilder$History" "states" "[LBriefBuilder$State;" ∈ wsX2_init) (fun _ h9 => h9) rfl dX2_init_32 rfl ?_
  refine y_iload_n 36 K dX2_init_35 rfl rfl 0 rfl ?_
  refine y_new 39 K hh hinI_X2_X4 tyX4 tyX4_ok (by decide +kernel : Cond.classLink RX2 9 RX4 ∈ wsX2_init) (by decide +kernel : Cond.instantiable RX4 3 ∈ wsX2_init) (by decide +kernel : Cond.initialized RX4 ∈ wsX2_init) (rfl : vwCl[4]? = some (RX4, TX4, 3)) [.null, .null, .null] (fun j hj => by rcases (show j = 0 ∨ j = 1 ∨ j = 2 by omega) with rfl | rfl | rfl <;> rfl) (kc' := 24) (ks' := 635) rfl rfl ⟨Nat.le_of_ble_eq_true rfl, Nat.le_of_ble_eq_true rfl⟩ dX2_init_36 rfl (fun q6 => ?_)
  refine y_dup 40 K dX2_init_39 rfl rfl ?_
  refine y_initN 43 K hh (I_X4 l g _ q6) ⟨va_cnB 0 K.1.2.2.2.2 gX2_init_X4_init_n24 rfl rfl rfl hh.2.2.2.2.2.2.2.1 (K.1.2.2.2.2 _ (by decide +kernel)) (by decide +kernel) ⟨Nat.le_of_ble_eq_true rfl, Nat.le_of_ble_eq_true rfl⟩, rfl, K.1.2.2.2.2 _ (by decide +kernel)⟩ (Nat.le_of_ble_eq_true rfl) (kc' := 34) (ks' := 945) rfl rfl dX2_init_40 rfl ⟨Nat.le_of_ble_eq_true rfl, Nat.le_of_ble_eq_true rfl⟩ (fun w9 hw9 => ?_)
  obtain ⟨b7, rfl, rfl⟩ := hw9
  refine y_w (w' := w0 ++ (((([(a, .inr (2, [.ref q1, .int (iZ 0), .int (iZ 0)]))] ++ [(q1, eS g 6 (va_up (va_up (fun _ => none) (0 : Int).toNat (some (b3 0))) (1 : Int).toNat (some (b5 0))))]) ++ blk4 g b3) ++ blk4 g b5) ++ blk4 g b7)) (yapp rfl) ?_
  refine y_aast 44 K (yget 1 rfl) (yget 24 rfl) (by decide) (by decide) (by decide) dX2_init_43 rfl (yset 1 (L' := (((([(a, .inr (2, [.ref q1, .int (iZ 0), .int (iZ 0)]))] ++ [(q1, eS g 6 (va_up (va_up (va_up (fun _ => none) (0 : Int).toNat (some (b3 0))) (1 : Int).toNat (some (b5 0))) (2 : Int).toNat (some (b7 0))))]) ++ blk4 g b3) ++ blk4 g b5) ++ blk4 g b7)) rfl) ?_
  refine y_iinc 47 K dX2_init_44 rfl 3 (by omega) 0 rfl (by decide) (lv' := [(1, .int (iZ 3)), (0, .ref a)]) rfl ?_
  refine y_goto K dX2_init_47 (tgt := 25) rfl ?_
  refine y_iload_n 26 K dX2_init_25 rfl rfl 0 rfl ?_
  refine y_bipush 28 K dX2_init_26 rfl rfl ?_
  refine y_icmp_ge 31 K dX2_init_28 rfl (tgt := 50) rfl (by omega) (by omega) (fun h9 => absurd h9 (by decide)) (fun _ => ?_)
  refine y_aload_n 32 K dX2_init_31 rfl rfl 1 rfl ?_
  refine y_get 35 K hinI_X2_X2 (yget 0 rfl) rfl 0 (by decide) (by decide +kernel : Cond.fieldLink RX2 11 "BriefBuilder$History" "states" "[LBriefBuilder$State;" ∈ wsX2_init) (fun _ h9 => h9) rfl dX2_init_32 rfl ?_
  refine y_iload_n 36 K dX2_init_35 rfl rfl 0 rfl ?_
  refine y_new 39 K hh hinI_X2_X4 tyX4 tyX4_ok (by decide +kernel : Cond.classLink RX2 9 RX4 ∈ wsX2_init) (by decide +kernel : Cond.instantiable RX4 3 ∈ wsX2_init) (by decide +kernel : Cond.initialized RX4 ∈ wsX2_init) (rfl : vwCl[4]? = some (RX4, TX4, 3)) [.null, .null, .null] (fun j hj => by rcases (show j = 0 ∨ j = 1 ∨ j = 2 by omega) with rfl | rfl | rfl <;> rfl) (kc' := 35) (ks' := 948) rfl rfl ⟨Nat.le_of_ble_eq_true rfl, Nat.le_of_ble_eq_true rfl⟩ dX2_init_36 rfl (fun q8 => ?_)
  refine y_dup 40 K dX2_init_39 rfl rfl ?_
  refine y_initN 43 K hh (I_X4 l g _ q8) ⟨va_cnB 0 K.1.2.2.2.2 gX2_init_X4_init_n24 rfl rfl rfl hh.2.2.2.2.2.2.2.1 (K.1.2.2.2.2 _ (by decide +kernel)) (by decide +kernel) ⟨Nat.le_of_ble_eq_true rfl, Nat.le_of_ble_eq_true rfl⟩, rfl, K.1.2.2.2.2 _ (by decide +kernel)⟩ (Nat.le_of_ble_eq_true rfl) (kc' := 45) (ks' := 1258) rfl rfl dX2_init_40 rfl ⟨Nat.le_of_ble_eq_true rfl, Nat.le_of_ble_eq_true rfl⟩ (fun w9 hw9 => ?_)
  obtain ⟨b9, rfl, rfl⟩ := hw9
  refine y_w (w' := w0 ++ ((((([(a, .inr (2, [.ref q1, .int (iZ 0), .int (iZ 0)]))] ++ [(q1, eS g 6 (va_up (va_up (va_up (fun _ => none) (0 : Int).toNat (some (b3 0))) (1 : Int).toNat (some (b5 0))) (2 : Int).toNat (some (b7 0))))]) ++ blk4 g b3) ++ blk4 g b5) ++ blk4 g b7) ++ blk4 g b9)) (yapp rfl) ?_
  refine y_aast 44 K (yget 1 rfl) (yget 35 rfl) (by decide) (by decide) (by decide) dX2_init_43 rfl (yset 1 (L' := ((((([(a, .inr (2, [.ref q1, .int (iZ 0), .int (iZ 0)]))] ++ [(q1, eS g 6 (va_up (va_up (va_up (va_up (fun _ => none) (0 : Int).toNat (some (b3 0))) (1 : Int).toNat (some (b5 0))) (2 : Int).toNat (some (b7 0))) (3 : Int).toNat (some (b9 0))))]) ++ blk4 g b3) ++ blk4 g b5) ++ blk4 g b7) ++ blk4 g b9)) rfl) ?_
  refine y_iinc 47 K dX2_init_44 rfl 4 (by omega) 0 rfl (by decide) (lv' := [(1, .int (iZ 4)), (0, .ref a)]) rfl ?_
  refine y_goto K dX2_init_47 (tgt := 25) rfl ?_
  refine y_iload_n 26 K dX2_init_25 rfl rfl 0 rfl ?_
  refine y_bipush 28 K dX2_init_26 rfl rfl ?_
  refine y_icmp_ge 31 K dX2_init_28 rfl (tgt := 50) rfl (by omega) (by omega) (fun h9 => absurd h9 (by decide)) (fun _ => ?_)
  refine y_aload_n 32 K dX2_init_31 rfl rfl 1 rfl ?_
  refine y_get 35 K hinI_X2_X2 (yget 0 rfl) rfl 0 (by decide) (by decide +kernel : Cond.fieldLink RX2 11 "BriefBuilder$History" "states" "[LBriefBuilder$State;" ∈ wsX2_init) (fun _ h9 => h9) rfl dX2_init_32 rfl ?_
  refine y_iload_n 36 K dX2_init_35 rfl rfl 0 rfl ?_
  refine y_new 39 K hh hinI_X2_X4 tyX4 tyX4_ok (by decide +kernel : Cond.classLink RX2 9 RX4 ∈ wsX2_init) (by decide +kernel : Cond.instantiable RX4 3 ∈ wsX2_init) (by decide +kernel : Cond.initialized RX4 ∈ wsX2_init) (rfl : vwCl[4]? = some (RX4, TX4, 3)) [.null, .null, .null] (fun j hj => by rcases (show j = 0 ∨ j = 1 ∨ j = 2 by omega) with rfl | rfl | rfl <;> rfl) (kc' := 46) (ks' := 1261) rfl rfl ⟨Nat.le_of_ble_eq_true rfl, Nat.le_of_ble_eq_true rfl⟩ dX2_init_36 rfl (fun q10 => ?_)
  refine y_dup 40 K dX2_init_39 rfl rfl ?_
  refine y_initN 43 K hh (I_X4 l g _ q10) ⟨va_cnB 0 K.1.2.2.2.2 gX2_init_X4_init_n24 rfl rfl rfl hh.2.2.2.2.2.2.2.1 (K.1.2.2.2.2 _ (by decide +kernel)) (by decide +kernel) ⟨Nat.le_of_ble_eq_true rfl, Nat.le_of_ble_eq_true rfl⟩, rfl, K.1.2.2.2.2 _ (by decide +kernel)⟩ (Nat.le_of_ble_eq_true rfl) (kc' := 56) (ks' := 1571) rfl rfl dX2_init_40 rfl ⟨Nat.le_of_ble_eq_true rfl, Nat.le_of_ble_eq_true rfl⟩ (fun w9 hw9 => ?_)
  obtain ⟨b11, rfl, rfl⟩ := hw9
  refine y_w (w' := w0 ++ (((((([(a, .inr (2, [.ref q1, .int (iZ 0), .int (iZ 0)]))] ++ [(q1, eS g 6 (va_up (va_up (va_up (va_up (fun _ => none) (0 : Int).toNat (some (b3 0))) (1 : Int).toNat (some (b5 0))) (2 : Int).toNat (some (b7 0))) (3 : Int).toNat (some (b9 0))))]) ++ blk4 g b3) ++ blk4 g b5) ++ blk4 g b7) ++ blk4 g b9) ++ blk4 g b11)) (yapp rfl) ?_
  refine y_aast 44 K (yget 1 rfl) (yget 46 rfl) (by decide) (by decide) (by decide) dX2_init_43 rfl (yset 1 (L' := (((((([(a, .inr (2, [.ref q1, .int (iZ 0), .int (iZ 0)]))] ++ [(q1, eS g 6 (va_up (va_up (va_up (va_up (va_up (fun _ => none) (0 : Int).toNat (some (b3 0))) (1 : Int).toNat (some (b5 0))) (2 : Int).toNat (some (b7 0))) (3 : Int).toNat (some (b9 0))) (4 : Int).toNat (some (b11 0))))]) ++ blk4 g b3) ++ blk4 g b5) ++ blk4 g b7) ++ blk4 g b9) ++ blk4 g b11)) rfl) ?_
  refine y_iinc 47 K dX2_init_44 rfl 5 (by omega) 0 rfl (by decide) (lv' := [(1, .int (iZ 5)), (0, .ref a)]) rfl ?_
  refine y_goto K dX2_init_47 (tgt := 25) rfl ?_
  refine y_iload_n 26 K dX2_init_25 rfl rfl 0 rfl ?_
  refine y_bipush 28 K dX2_init_26 rfl rfl ?_
  refine y_icmp_ge 31 K dX2_init_28 rfl (tgt := 50) rfl (by omega) (by omega) (fun h9 => absurd h9 (by decide)) (fun _ => ?_)
  refine y_aload_n 32 K dX2_init_31 rfl rfl 1 rfl ?_
  refine y_get 35 K hinI_X2_X2 (yget 0 rfl) rfl 0 (by decide) (by decide +kernel : Cond.fieldLink RX2 11 "BriefBuilder$History" "states" "[LBriefBuilder$State;" ∈ wsX2_init) (fun _ h9 => h9) rfl dX2_init_32 rfl ?_
  refine y_iload_n 36 K dX2_init_35 rfl rfl 0 rfl ?_
  refine y_new 39 K hh hinI_X2_X4 tyX4 tyX4_ok (by decide +kernel : Cond.classLink RX2 9 RX4 ∈ wsX2_init) (by decide +kernel : Cond.instantiable RX4 3 ∈ wsX2_init) (by decide +kernel : Cond.initialized RX4 ∈ wsX2_init) (rfl : vwCl[4]? = some (RX4, TX4, 3)) [.null, .null, .null] (fun j hj => by rcases (show j = 0 ∨ j = 1 ∨ j = 2 by omega) with rfl | rfl | rfl <;> rfl) (kc' := 57) (ks' := 1574) rfl rfl ⟨Nat.le_of_ble_eq_true rfl, Nat.le_of_ble_eq_true rfl⟩ dX2_init_36 rfl (fun q12 => ?_)
  refine y_dup 40 K dX2_init_39 rfl rfl ?_
  refine y_initN 43 K hh (I_X4 l g _ q12) ⟨va_cnB 0 K.1.2.2.2.2 gX2_init_X4_init_n24 rfl rfl rfl hh.2.2.2.2.2.2.2.1 (K.1.2.2.2.2 _ (by decide +kernel)) (by decide +kernel) ⟨Nat.le_of_ble_eq_true rfl, Nat.le_of_ble_eq_true rfl⟩, rfl, K.1.2.2.2.2 _ (by decide +kernel)⟩ (Nat.le_of_ble_eq_true rfl) (kc' := 67) (ks' := 1884) rfl rfl dX2_init_40 rfl ⟨Nat.le_of_ble_eq_true rfl, Nat.le_of_ble_eq_true rfl⟩ (fun w9 hw9 => ?_)
  obtain ⟨b13, rfl, rfl⟩ := hw9
  refine y_w (w' := w0 ++ ((((((([(a, .inr (2, [.ref q1, .int (iZ 0), .int (iZ 0)]))] ++ [(q1, eS g 6 (va_up (va_up (va_up (va_up (va_up (fun _ => none) (0 : Int).toNat (some (b3 0))) (1 : Int).toNat (some (b5 0))) (2 : Int).toNat (some (b7 0))) (3 : Int).toNat (some (b9 0))) (4 : Int).toNat (some (b11 0))))]) ++ blk4 g b3) ++ blk4 g b5) ++ blk4 g b7) ++ blk4 g b9) ++ blk4 g b11) ++ blk4 g b13)) (yapp rfl) ?_
  refine y_aast 44 K (yget 1 rfl) (yget 57 rfl) (by decide) (by decide) (by decide) dX2_init_43 rfl (yset 1 (L' := ((((((([(a, .inr (2, [.ref q1, .int (iZ 0), .int (iZ 0)]))] ++ [(q1, eS g 6 (va_up (va_up (va_up (va_up (va_up (va_up (fun _ => none) (0 : Int).toNat (some (b3 0))) (1 : Int).toNat (some (b5 0))) (2 : Int).toNat (some (b7 0))) (3 : Int).toNat (some (b9 0))) (4 : Int).toNat (some (b11 0))) (5 : Int).toNat (some (b13 0))))]) ++ blk4 g b3) ++ blk4 g b5) ++ blk4 g b7) ++ blk4 g b9) ++ blk4 g b11) ++ blk4 g b13)) rfl) ?_
  refine y_iinc 47 K dX2_init_44 rfl 6 (by omega) 0 rfl (by decide) (lv' := [(1, .int (iZ 6)), (0, .ref a)]) rfl ?_
  refine y_goto K dX2_init_47 (tgt := 25) rfl ?_
  refine y_iload_n 26 K dX2_init_25 rfl rfl 0 rfl ?_
  refine y_bipush 28 K dX2_init_26 rfl rfl ?_
  refine y_icmp_ge 31 K dX2_init_28 rfl (tgt := 50) rfl (by omega) (by omega) (fun _ => ?_) (fun h9 => absurd h9 (by decide))
  exact y_vret K rfl dX2_init_50 ⟨fun i => if i < 1 then a else if i < 2 then q1 else if i < 13 then b3 (i - 2) else if i < 24 then b5 (i - 13) else if i < 35 then b7 (i - 24) else if i < 46 then b9 (i - 35) else if i < 57 then b11 (i - 46) else b13 (i - 57), rfl, rfl⟩
set_option maxRecDepth 20000 in
theorem hinI_X8_X2 : ∀ w ∈ wsX20, w ∈ wsX8_init := by decide +kernel
set_option maxRecDepth 20000 in
theorem hinI_X8_X4 : ∀ w ∈ wsX40, w ∈ wsX8_init := by decide +kernel
set_option maxRecDepth 20000 in
theorem hinI_X8_X5 : ∀ w ∈ wsX50, w ∈ wsX8_init := by decide +kernel
set_option maxRecDepth 20000 in
theorem hinI_X8_X6 : ∀ w ∈ wsX60, w ∈ wsX8_init := by decide +kernel
set_option maxRecDepth 20000 in
theorem hinI_X8_X7 : ∀ w ∈ wsX70, w ∈ wsX8_init := by decide +kernel
set_option maxRecDepth 20000 in
theorem hinI_X8_X8 : ∀ w ∈ wsX80, w ∈ wsX8_init := by decide +kernel
set_option maxHeartbeats 4000000 in
set_option maxRecDepth 100000 in
theorem I_X8 (l : Launch) (g : zG) (w0 : va_W) (a : Nat) : Met l yX8_init wsX8_init ({ frames := 4, cells := 93, slots := 2612, locals := 74 } : Room) (yPre g (w0 ++ [(a, .inr (8, [.null, .null, .null, .null, .null, .null]))]) [.ref a]) (yQv g (fun w' => ∃ b : Nat → Nat, b 0 = a ∧ w' = w0 ++ blk8 g b)) 93 2612 (zA g) := by
  refine y_enter RX8 rfl rfl (by decide) rfl (Nat.le_of_ble_eq_true rfl) ?_
  intro p e s m args below meth c K hh hnm harg
  refine y_sub (lv' := [(0, .ref a)]) [0] rfl ?_
  refine y_aload_n 1 K dX8_init_0 rfl rfl 0 rfl ?_
  refine y_obj 4 K (by decide +kernel : Cond.methodLink RX8 3 objectInit ∈ wsX8_init) (by decide +kernel : Cond.instanceMethod objectInit ∈ wsX8_init) (by decide +kernel : Cond.code objectInit ⟨#[0xb1]⟩ 1 none ∈ wsX8_init) dX8_init_1 rfl (Nat.le_of_ble_eq_true rfl) (Nat.le_of_ble_eq_true rfl) ?_
  refine y_aload_n 5 K dX8_init_4 rfl rfl 0 rfl ?_
  refine y_new 8 K hh hinI_X8_X4 tyX4 tyX4_ok (by decide +kernel : Cond.classLink RX8 9 RX4 ∈ wsX8_init) (by decide +kernel : Cond.instantiable RX4 3 ∈ wsX8_init) (by decide +kernel : Cond.initialized RX4 ∈ wsX8_init) (rfl : vwCl[4]? = some (RX4, TX4, 3)) [.null, .null, .null] (fun j hj => by rcases (show j = 0 ∨ j = 1 ∨ j = 2 by omega) with rfl | rfl | rfl <;> rfl) (kc' := 1) (ks' := 3) rfl rfl ⟨Nat.le_of_ble_eq_true rfl, Nat.le_of_ble_eq_true rfl⟩ dX8_init_5 rfl (fun q1 => ?_)
  refine y_dup 9 K dX8_init_8 rfl rfl ?_
  refine y_initN 12 K hh (I_X4 l g _ q1) ⟨va_cnB 0 K.1.2.2.2.2 gX8_init_X4_init_n11 rfl rfl rfl hh.2.2.1 (K.1.2.2.2.2 _ (by decide +kernel)) (by decide +kernel) ⟨Nat.le_of_ble_eq_true rfl, Nat.le_of_ble_eq_true rfl⟩, rfl, K.1.2.2.2.2 _ (by decide +kernel)⟩ (Nat.le_of_ble_eq_true rfl) (kc' := 11) (ks' := 313) rfl rfl dX8_init_9 rfl ⟨Nat.le_of_ble_eq_true rfl, Nat.le_of_ble_eq_true rfl⟩ (fun w9 hw9 => ?_)
  obtain ⟨b2, rfl, rfl⟩ := hw9
  refine y_w (w' := w0 ++ ([(a, .inr (8, [.null, .null, .null, .null, .null, .null]))] ++ blk4 g b2)) (yapp rfl) ?_
  refine y_putF 15 K hnm hinI_X8_X8 tyX8 tyX8_ok nmX8 (yget 0 rfl) rfl 0 (by decide) (by decide +kernel : Cond.fieldLink RX8 12 "BriefBuilder" "state" "LBriefBuilder$State;" ∈ wsX8_init) (fun _ h9 => h9) rfl rfl rfl rfl (Nat.le_of_ble_eq_true rfl) dX8_init_12 rfl (yset 0 (L' := ([(a, .inr (8, [.ref (b2 0), .null, .null, .null, .null, .null]))] ++ blk4 g b2)) rfl) ?_
  refine y_aload_n 16 K dX8_init_15 rfl rfl 0 rfl ?_
  refine y_new 19 K hh hinI_X8_X7 tyX7 tyX7_ok (by decide +kernel : Cond.classLink RX8 16 RX7 ∈ wsX8_init) (by decide +kernel : Cond.instantiable RX7 6 ∈ wsX8_init) (by decide +kernel : Cond.initialized RX7 ∈ wsX8_init) (rfl : vwCl[7]? = some (RX7, TX7, 6)) [.null, .null, .null, .null, .null, .int (iZ 0)] (fun j hj => by rcases (show j = 0 ∨ j = 1 ∨ j = 2 ∨ j = 3 ∨ j = 4 ∨ j = 5 by omega) with rfl | rfl | rfl | rfl | rfl | rfl <;> rfl) (kc' := 12) (ks' := 319) rfl rfl ⟨Nat.le_of_ble_eq_true rfl, Nat.le_of_ble_eq_true rfl⟩ dX8_init_16 rfl (fun q3 => ?_)
  refine y_dup 20 K dX8_init_19 rfl rfl ?_
  refine y_initN 23 K hh (I_X7 l g _ q3) ⟨va_cnB 0 K.1.2.2.2.2 gX8_init_X7_init_n18 rfl rfl rfl hh.2.2.2.2.2.1 (K.1.2.2.2.2 _ (by decide +kernel)) (by decide +kernel) ⟨Nat.le_of_ble_eq_true rfl, Nat.le_of_ble_eq_true rfl⟩, rfl, K.1.2.2.2.2 _ (by decide +kernel)⟩ (Nat.le_of_ble_eq_true rfl) (kc' := 17) (ks' := 553) rfl rfl dX8_init_20 rfl ⟨Nat.le_of_ble_eq_true rfl, Nat.le_of_ble_eq_true rfl⟩ (fun w9 hw9 => ?_)
  obtain ⟨b4, rfl, rfl⟩ := hw9
  refine y_w (w' := w0 ++ (([(a, .inr (8, [.ref (b2 0), .null, .null, .null, .null, .null]))] ++ blk4 g b2) ++ blk7 g b4)) (yapp rfl) ?_
  refine y_putF 26 K hnm hinI_X8_X8 tyX8 tyX8_ok nmX8 (yget 0 rfl) rfl 1 (by decide) (by decide +kernel : Cond.fieldLink RX8 19 "BriefBuilder" "view" "LBriefBuilder$View;" ∈ wsX8_init) (fun _ h9 => h9) rfl rfl rfl rfl (Nat.le_of_ble_eq_true rfl) dX8_init_23 rfl (yset 0 (L' := (([(a, .inr (8, [.ref (b2 0), .ref (b4 0), .null, .null, .null, .null]))] ++ blk4 g b2) ++ blk7 g b4)) rfl) ?_
  refine y_aload_n 27 K dX8_init_26 rfl rfl 0 rfl ?_
  refine y_new 30 K hh hinI_X8_X6 tyX6 tyX6_ok (by decide +kernel : Cond.classLink RX8 23 RX6 ∈ wsX8_init) (by decide +kernel : Cond.instantiable RX6 3 ∈ wsX8_init) (by decide +kernel : Cond.initialized RX6 ∈ wsX8_init) (rfl : vwCl[6]? = some (RX6, TX6, 3)) [.null, .null, .int (iZ 0)] (fun j hj => by rcases (show j = 0 ∨ j = 1 ∨ j = 2 by omega) with rfl | rfl | rfl <;> rfl) (kc' := 18) (ks' := 556) rfl rfl ⟨Nat.le_of_ble_eq_true rfl, Nat.le_of_ble_eq_true rfl⟩ dX8_init_27 rfl (fun q5 => ?_)
  refine y_dup 31 K dX8_init_30 rfl rfl ?_
  refine y_initN 34 K hh (I_X6 l g _ q5) ⟨va_cnB 0 K.1.2.2.2.2 gX8_init_X6_init_n25 rfl rfl rfl hh.2.2.2.2.2.2.1 (K.1.2.2.2.2 _ (by decide +kernel)) (by decide +kernel) ⟨Nat.le_of_ble_eq_true rfl, Nat.le_of_ble_eq_true rfl⟩, rfl, K.1.2.2.2.2 _ (by decide +kernel)⟩ (Nat.le_of_ble_eq_true rfl) (kc' := 20) (ks' := 617) rfl rfl dX8_init_31 rfl ⟨Nat.le_of_ble_eq_true rfl, Nat.le_of_ble_eq_true rfl⟩ (fun w9 hw9 => ?_)
  obtain ⟨b6, rfl, rfl⟩ := hw9
  refine y_w (w' := w0 ++ ((([(a, .inr (8, [.ref (b2 0), .ref (b4 0), .null, .null, .null, .null]))] ++ blk4 g b2) ++ blk7 g b4) ++ blk6 g b6)) (yapp rfl) ?_
  refine y_putF 37 K hnm hinI_X8_X8 tyX8 tyX8_ok nmX8 (yget 0 rfl) rfl 2 (by decide) (by decide +kernel : Cond.fieldLink RX8 26 "BriefBuilder" "trial" "LBriefBuilder$Trial;" ∈ wsX8_init) (fun _ h9 => h9) rfl rfl rfl rfl (Nat.le_of_ble_eq_true rfl) dX8_init_34 rfl (yset 0 (L' := ((([(a, .inr (8, [.ref (b2 0), .ref (b4 0), .ref (b6 0), .null, .null, .null]))] ++ blk4 g b2) ++ blk7 g b4) ++ blk6 g b6)) rfl) ?_
  refine y_aload_n 38 K dX8_init_37 rfl rfl 0 rfl ?_
  refine y_new 41 K hh hinI_X8_X2 tyX2 tyX2_ok (by decide +kernel : Cond.classLink RX8 30 RX2 ∈ wsX8_init) (by decide +kernel : Cond.instantiable RX2 3 ∈ wsX8_init) (by decide +kernel : Cond.initialized RX2 ∈ wsX8_init) (rfl : vwCl[2]? = some (RX2, TX2, 3)) [.null, .int (iZ 0), .int (iZ 0)] (fun j hj => by rcases (show j = 0 ∨ j = 1 ∨ j = 2 by omega) with rfl | rfl | rfl <;> rfl) (kc' := 21) (ks' := 620) rfl rfl ⟨Nat.le_of_ble_eq_true rfl, Nat.le_of_ble_eq_true rfl⟩ dX8_init_38 rfl (fun q7 => ?_)
  refine y_dup 42 K dX8_init_41 rfl rfl ?_
  refine y_init 45 K hh (I_X2 l g _ q7) (cwI 0 K.1.2.2.2.2 gX8_init_X2_init rfl rfl rfl (K.1.2.2.2.2 _ (by decide +kernel : Cond.initialized RX2 ∈ wsX8_init)) (K.1.2.2.2.2 _ (by decide +kernel : Cond.methodLink RX8 32 yX2_init ∈ wsX8_init)) (K.1.2.2.2.2 _ (by decide +kernel : Cond.instanceMethod yX2_init ∈ wsX8_init)) rfl (by decide +kernel) ⟨Nat.le_of_ble_eq_true rfl, Nat.le_of_ble_eq_true rfl⟩) (Nat.le_of_ble_eq_true rfl) (kc' := 88) (ks' := 2504) rfl rfl dX8_init_42 rfl ⟨Nat.le_of_ble_eq_true rfl, Nat.le_of_ble_eq_true rfl⟩ (fun w9 hw9 => ?_)
  obtain ⟨b8, rfl, rfl⟩ := hw9
  refine y_w (w' := w0 ++ (((([(a, .inr (8, [.ref (b2 0), .ref (b4 0), .ref (b6 0), .null, .null, .null]))] ++ blk4 g b2) ++ blk7 g b4) ++ blk6 g b6) ++ blk2 g b8)) (yapp rfl) ?_
  refine y_putF 48 K hnm hinI_X8_X8 tyX8 tyX8_ok nmX8 (yget 0 rfl) rfl 3 (by decide) (by decide +kernel : Cond.fieldLink RX8 33 "BriefBuilder" "history" "LBriefBuilder$History;" ∈ wsX8_init) (fun _ h9 => h9) rfl rfl rfl rfl (Nat.le_of_ble_eq_true rfl) dX8_init_45 rfl (yset 0 (L' := (((([(a, .inr (8, [.ref (b2 0), .ref (b4 0), .ref (b6 0), .ref (b8 0), .null, .null]))] ++ blk4 g b2) ++ blk7 g b4) ++ blk6 g b6) ++ blk2 g b8)) rfl) ?_
  refine y_aload_n 49 K dX8_init_48 rfl rfl 0 rfl ?_
  refine y_new 52 K hh hinI_X8_X5 tyX5 tyX5_ok (by decide +kernel : Cond.classLink RX8 37 RX5 ∈ wsX8_init) (by decide +kernel : Cond.instantiable RX5 6 ∈ wsX8_init) (by decide +kernel : Cond.initialized RX5 ∈ wsX8_init) (rfl : vwCl[5]? = some (RX5, TX5, 6)) [.null, .int (iZ 0), .null, .null, .int (iZ 0), .int (iZ 0)] (fun j hj => by rcases (show j = 0 ∨ j = 1 ∨ j = 2 ∨ j = 3 ∨ j = 4 ∨ j = 5 by omega) with rfl | rfl | rfl | rfl | rfl | rfl <;> rfl) (kc' := 89) (ks' := 2510) rfl rfl ⟨Nat.le_of_ble_eq_true rfl, Nat.le_of_ble_eq_true rfl⟩ dX8_init_49 rfl (fun q9 => ?_)
  refine y_dup 53 K dX8_init_52 rfl rfl ?_
  refine y_initN 56 K hh (I_X5 l g _ q9) ⟨va_cnB 0 K.1.2.2.2.2 gX8_init_X5_init_n39 rfl rfl rfl hh.2.2.2.2.2.2.2.2 (K.1.2.2.2.2 _ (by decide +kernel)) (by decide +kernel) ⟨Nat.le_of_ble_eq_true rfl, Nat.le_of_ble_eq_true rfl⟩, rfl, K.1.2.2.2.2 _ (by decide +kernel)⟩ (Nat.le_of_ble_eq_true rfl) (kc' := 92) (ks' := 2582) rfl rfl dX8_init_53 rfl ⟨Nat.le_of_ble_eq_true rfl, Nat.le_of_ble_eq_true rfl⟩ (fun w9 hw9 => ?_)
  obtain ⟨b10, rfl, rfl⟩ := hw9
  refine y_w (w' := w0 ++ ((((([(a, .inr (8, [.ref (b2 0), .ref (b4 0), .ref (b6 0), .ref (b8 0), .null, .null]))] ++ blk4 g b2) ++ blk7 g b4) ++ blk6 g b6) ++ blk2 g b8) ++ blk5 g b10)) (yapp rfl) ?_
  refine y_putF 59 K hnm hinI_X8_X8 tyX8 tyX8_ok nmX8 (yget 0 rfl) rfl 4 (by decide) (by decide +kernel : Cond.fieldLink RX8 40 "BriefBuilder" "text" "LBriefBuilder$Text;" ∈ wsX8_init) (fun _ h9 => h9) rfl rfl rfl rfl (Nat.le_of_ble_eq_true rfl) dX8_init_56 rfl (yset 0 (L' := ((((([(a, .inr (8, [.ref (b2 0), .ref (b4 0), .ref (b6 0), .ref (b8 0), .ref (b10 0), .null]))] ++ blk4 g b2) ++ blk7 g b4) ++ blk6 g b6) ++ blk2 g b8) ++ blk5 g b10)) rfl) ?_
  refine y_aload_n 60 K dX8_init_59 rfl rfl 0 rfl ?_
  refine y_bipush 62 K dX8_init_60 rfl rfl ?_
  refine y_newi 64 K hh (by decide +kernel : Cond.arrayClass .int ∈ wsX8_init) 30 rfl (by decide) (kc' := 93) (ks' := 2612) rfl rfl ⟨Nat.le_of_ble_eq_true rfl, Nat.le_of_ble_eq_true rfl⟩ dX8_init_62 rfl (fun q11 => ?_)
  refine y_w (w' := w0 ++ (((((([(a, .inr (8, [.ref (b2 0), .ref (b4 0), .ref (b6 0), .ref (b8 0), .ref (b10 0), .null]))] ++ blk4 g b2) ++ blk7 g b4) ++ blk6 g b6) ++ blk2 g b8) ++ blk5 g b10) ++ [(q11, eI g 30 (fun _ => 0))])) (yapp rfl) ?_
  refine y_putF 67 K hnm hinI_X8_X8 tyX8 tyX8_ok nmX8 (yget 0 rfl) rfl 5 (by decide) (by decide +kernel : Cond.fieldLink RX8 44 "BriefBuilder" "samePlaces" "[I" ∈ wsX8_init) (fun _ h9 => h9) rfl rfl rfl rfl (Nat.le_of_ble_eq_true rfl) dX8_init_64 rfl (yset 0 (L' := (((((([(a, .inr (8, [.ref (b2 0), .ref (b4 0), .ref (b6 0), .ref (b8 0), .ref (b10 0), .ref q11]))] ++ blk4 g b2) ++ blk7 g b4) ++ blk6 g b6) ++ blk2 g b8) ++ blk5 g b10) ++ [(q11, eI g 30 (fun _ => 0))])) rfl) ?_
  refine y_iconst 68 K dX8_init_67 rfl ?_
  refine y_istore_n 69 K dX8_init_68 rfl rfl (by decide) (lv' := [(1, .int (iZ 0)), (0, .ref a)]) rfl ?_
  refine y_w (w' := w0 ++ (((((([(a, .inr (8, [.ref (b2 0), .ref (b4 0), .ref (b6 0), .ref (b8 0), .ref (b10 0), .ref q11]))] ++ blk4 g b2) ++ blk7 g b4) ++ blk6 g b6) ++ blk2 g b8) ++ blk5 g b10) ++ [(q11, eI g 30 (n30 0))])) (by rw [n30_0]) ?_
  have hloop : ∀ (n : Nat) (i : Int), 0 ≤ i → i + n = 30 → Y p l e ({ frames := 4, cells := 93, slots := 2612, locals := 74 } : Room) s m args below meth c (MQ below (yQv g (fun w' => ∃ b : Nat → Nat, b 0 = a ∧ w' = w0 ++ blk8 g b)) args s 93 2612 (zA g)) g 2 93 2612 (w0 ++ (((((([(a, .inr (8, [.ref (b2 0), .ref (b4 0), .ref (b6 0), .ref (b8 0), .ref (b10 0), .ref q11]))] ++ blk4 g b2) ++ blk7 g b4) ++ blk6 g b6) ++ blk2 g b8) ++ blk5 g b10) ++ [(q11, eI g 30 (n30 i))])) [(1, .int (iZ i)), (0, .ref a)] 69 [] := by
    intro n
    induction n with
    | zero =>
      intro i h0 h1
      obtain rfl : i = 30 := by omega
      refine y_iload_n 70 K dX8_init_69 rfl rfl 0 rfl ?_
      refine y_bipush 72 K dX8_init_70 rfl rfl ?_
      refine y_icmp_ge 75 K dX8_init_72 rfl (tgt := 88) rfl (by omega) (by omega) (fun _ => ?_) (fun h9 => absurd h9 (by decide))
      exact y_vret K rfl dX8_init_88 ⟨fun i => if i < 1 then a else if i < 12 then b2 (i - 1) else if i < 18 then b4 (i - 12) else if i < 21 then b6 (i - 18) else if i < 89 then b8 (i - 21) else if i < 93 then b10 (i - 89) else q11, rfl, rfl⟩
    | succ n IH =>
      intro i h0 h1
      refine y_iload_n 70 K dX8_init_69 rfl rfl 0 rfl ?_
      refine y_bipush 72 K dX8_init_70 rfl rfl ?_
      refine y_icmp_ge 75 K dX8_init_72 rfl (tgt := 88) rfl (by omega) (by omega) (fun h9 => absurd h9 (by omega)) (fun h9 => ?_)
      refine y_aload_n 76 K dX8_init_75 rfl rfl 1 rfl ?_
      refine y_get 79 K hinI_X8_X8 (yget 0 rfl) rfl 5 (by decide) (by decide +kernel : Cond.fieldLink RX8 44 "BriefBuilder" "samePlaces" "[I" ∈ wsX8_init) (fun _ h9 => h9) rfl dX8_init_76 rfl ?_
      refine y_iload_n 80 K dX8_init_79 rfl rfl 0 rfl ?_
      refine y_iload_n 81 K dX8_init_80 rfl rfl 0 rfl ?_
      refine y_iast 82 K (yget 93 rfl) (by omega) (by omega) (by decide) dX8_init_81 rfl (yset 93 (L' := (((((([(a, .inr (8, [.ref (b2 0), .ref (b4 0), .ref (b6 0), .ref (b8 0), .ref (b10 0), .ref q11]))] ++ blk4 g b2) ++ blk7 g b4) ++ blk6 g b6) ++ blk2 g b8) ++ blk5 g b10) ++ [(q11, eI g 30 (zu (n30 i) i i))])) rfl) ?_
      refine y_iinc 85 K dX8_init_82 rfl (i + 1) (by omega) 0 rfl (by decide) (lv' := [(1, .int (iZ (i + 1))), (0, .ref a)]) rfl ?_
      refine y_goto K dX8_init_85 (tgt := 69) rfl ?_
      refine y_w (w' := w0 ++ (((((([(a, .inr (8, [.ref (b2 0), .ref (b4 0), .ref (b6 0), .ref (b8 0), .ref (b10 0), .ref q11]))] ++ blk4 g b2) ++ blk7 g b4) ++ blk6 g b6) ++ blk2 g b8) ++ blk5 g b10) ++ [(q11, eI g 30 (n30 (i + 1)))])) (by rw [n30_s h0]) ?_
      exact IH (i + 1) (by omega) (by omega)
  exact hloop 30 0 (by omega) (by omega)
end YIB
