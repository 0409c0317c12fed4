/-! the reference: its changing calls -/
section ZMC
set_option maxRecDepth 20000 in
theorem hin_X9_thrown_X9 : ∀ w ∈ wsX90, w ∈ wsX9_thrown := by decide +kernel
set_option maxHeartbeats 4000000 in
set_option maxRecDepth 100000 in
theorem m_X9_thrown (l : Launch) (g : zG) (C : Nat → va_E) (k : Int) (ty : Int) (th : Int) (pt : Int) (fl : Int) (to : Int) (hM : C 94 = .inr (9, [.ref (aD g 95), .ref (aD g 96), .ref (aD g 97), .int (iZ k), .ref (aD g 98), .int (iZ ty), .int (iZ th), .int (iZ pt), .int (iZ fl), .ref (aD g 99), .int (iZ to)])) : Met l yX9_thrown wsX9_thrown ({ frames := 0, cells := 0, slots := 0, locals := 0 } : Room) (zPre g C [.ref (aD g 94)]) (zQi g (fun z C' => C' = C ∧ z = th)) 0 0 (zA g) := by
  refine z_enter RX9 rfl (by decide) rfl (Nat.le_of_ble_eq_true rfl) ?_
  intro p e s m args below meth c K harg
  refine z_sub (lv' := [(0, .ref (aD g 94))]) [0] rfl ?_
  refine z_aload_n 1 K dX9_thrown_0 rfl rfl 0 rfl ?_
  refine z_get 4 K hin_X9_thrown_X9 94 (by decide) hM rfl 6 (by decide) (by decide +kernel : Cond.fieldLink RX9 25 "BriefBuilderModel" "thrown" "I" ∈ wsX9_thrown) (fun _ h9 => h9) rfl dX9_thrown_1 rfl ?_
  exact z_iret K rfl dX9_thrown_4 ⟨rfl, rfl⟩
set_option maxRecDepth 20000 in
theorem hin_X9_fails_X9 : ∀ w ∈ wsX90, w ∈ wsX9_fails := by decide +kernel
set_option maxHeartbeats 4000000 in
set_option maxRecDepth 100000 in
theorem m_X9_fails (l : Launch) (g : zG) (C : Nat → va_E) (x : Int) (k : Int) (ty : Int) (th : Int) (pt : Int) (fl : Int) (to : Int) (hM : C 94 = .inr (9, [.ref (aD g 95), .ref (aD g 96), .ref (aD g 97), .int (iZ k), .ref (aD g 98), .int (iZ ty), .int (iZ th), .int (iZ pt), .int (iZ fl), .ref (aD g 99), .int (iZ to)])) : Met l yX9_fails wsX9_fails ({ frames := 0, cells := 0, slots := 0, locals := 0 } : Room) (zPre g C [.ref (aD g 94), .int (iZ x)]) (zQi g (fun z C' => C' = va_up C 94 (.inr (9, [.ref (aD g 95), .ref (aD g 96), .ref (aD g 97), .int (iZ k), .ref (aD g 98), .int (iZ ty), .int (iZ x), .int (iZ pt), .int (iZ fl), .ref (aD g 99), .int (iZ to)])) ∧ z = 0)) 0 0 (zA g) := by
  refine z_enter RX9 rfl (by decide) rfl (Nat.le_of_ble_eq_true rfl) ?_
  intro p e s m args below meth c K harg
  refine z_sub (lv' := [(0, .ref (aD g 94)), (1, .int (iZ x))]) [0, 1] rfl ?_
  refine z_aload_n 1 K dX9_fails_0 rfl rfl 0 rfl ?_
  refine z_iload_n 2 K dX9_fails_1 rfl rfl 1 rfl ?_
  refine z_put (ty := .int) 5 K hin_X9_fails_X9 tyX9 tyX9_ok nmX9 94 (by decide) hM rfl 6 (by decide) (by decide +kernel : Cond.fieldLink RX9 25 "BriefBuilderModel" "thrown" "I" ∈ wsX9_fails) (fun _ h9 => h9) rfl (by decide +kernel) rfl rfl (Nat.le_of_ble_eq_true rfl) dX9_fails_2 rfl ?_
  show Z p l e (({ frames := 0, cells := 0, slots := 0, locals := 0 } : Room)) s m args below meth c (MQ below (zQi g (fun z C' => C' = va_up C 94 (.inr (9, [.ref (aD g 95), .ref (aD g 96), .ref (aD g 97), .int (iZ k), .ref (aD g 98), .int (iZ ty), .int (iZ x), .int (iZ pt), .int (iZ fl), .ref (aD g 99), .int (iZ to)])) ∧ z = 0)) args s 0 0 (zA g)) g _ _ _ (va_up C 94 (.inr (9, [.ref (aD g 95), .ref (aD g 96), .ref (aD g 97), .int (iZ k), .ref (aD g 98), .int (iZ ty), .int (iZ x), .int (iZ pt), .int (iZ fl), .ref (aD g 99), .int (iZ to)]))) [(0, .ref (aD g 94)), (1, .int (iZ x))] 5 []
  refine z_iconst 6 K dX9_fails_5 rfl ?_
  exact z_iret K rfl dX9_fails_6 ⟨rfl, rfl⟩
set_option maxRecDepth 20000 in
theorem hin_X9_isPlace_X9 : ∀ w ∈ wsX90, w ∈ wsX9_isPlace := by decide +kernel
set_option maxHeartbeats 4000000 in
set_option maxRecDepth 100000 in
theorem m_X9_isPlace (l : Launch) (g : zG) (C : Nat → va_E) (p0 : Int) (k : Int) (ty : Int) (th : Int) (pt : Int) (fl : Int) (to : Int) (f : Int → Int) (hM : C 94 = .inr (9, [.ref (aD g 95), .ref (aD g 96), .ref (aD g 97), .int (iZ k), .ref (aD g 98), .int (iZ ty), .int (iZ th), .int (iZ pt), .int (iZ fl), .ref (aD g 99), .int (iZ to)])) (hN : C 95 = eI g 449 f) (hn : 0 ≤ f 1 ∧ f 1 ≤ 30) (hp : -2147483648 ≤ p0 ∧ p0 < 2147483648) : Met l yX9_isPlace wsX9_isPlace ({ frames := 1, cells := 0, slots := 0, locals := 22 } : Room) (zPre g C [.ref (aD g 94), .int (iZ p0)]) (zQi g (fun z C' => C' = C ∧ z = b2i (decide (0 ≤ p0 ∧ p0 ≤ f 1 - 1)))) 0 0 (zA g) := by
  refine z_enter RX9 rfl (by decide) rfl (Nat.le_of_ble_eq_true rfl) ?_
  intro p e s m args below meth c K harg
  refine z_sub (lv' := [(0, .ref (aD g 94)), (1, .int (iZ p0))]) [0, 1] rfl ?_
  refine z_iload_n 1 K dX9_isPlace_0 rfl rfl 1 rfl ?_
  refine z_iconst 2 K dX9_isPlace_1 rfl ?_
  refine z_aload_n 3 K dX9_isPlace_2 rfl rfl 0 rfl ?_
  refine z_get 6 K hin_X9_isPlace_X9 94 (by decide) hM rfl 0 (by decide) (by decide +kernel : Cond.fieldLink RX9 7 "BriefBuilderModel" "now" "[I" ∈ wsX9_isPlace) (fun _ h9 => h9) rfl dX9_isPlace_3 rfl ?_
  refine z_iconst 7 K dX9_isPlace_6 rfl ?_
  refine z_iald (f := f) 8 K 95 (by decide) hN (by decide) (by decide) (by decide) dX9_isPlace_7 rfl ?_
  refine z_iconst 9 K dX9_isPlace_8 rfl ?_
  refine z_isub 10 K dX9_isPlace_9 rfl ?_
  refine z_vSi (As := [.int (iZ p0), .int (iZ 0), .int (iZ (f 1 - 1))]) (rest := []) 13 K (m_X9_in l g _ p0 0 (f 1 - 1) (by omega) (by omega) (by omega)) (va_cwS 3 K.1.2.2.2.2 gX9_isPlace_X9_in rfl rfl rfl (by decide +kernel) ⟨Nat.le_of_ble_eq_true rfl, Nat.le_of_ble_eq_true rfl⟩) rfl (Nat.le_of_ble_eq_true rfl) dX9_isPlace_10 rfl ⟨Nat.le_of_ble_eq_true rfl, Nat.le_of_ble_eq_true rfl⟩ rfl (fun z_1 C_2 hp_10 => ?_)
  refine z_C hp_10.1 ?_
  refine z_top (b2i (decide (0 ≤ p0 ∧ p0 ≤ (f 1 - 1)))) hp_10.2 ?_
  exact z_zret K rfl (b2i_rng _) dX9_isPlace_13 ⟨rfl, rfl⟩
set_option maxRecDepth 20000 in
theorem hin_X9_changes_X9 : ∀ w ∈ wsX90, w ∈ wsX9_changes := by decide +kernel
set_option maxHeartbeats 4000000 in
set_option maxRecDepth 100000 in
theorem m_X9_changes (l : Launch) (g : zG) (C : Nat → va_E) (j : Int) (v : Int) (k : Int) (ty : Int) (th : Int) (pt : Int) (fl : Int) (to : Int) (f : Int → Int) (hM : C 94 = .inr (9, [.ref (aD g 95), .ref (aD g 96), .ref (aD g 97), .int (iZ k), .ref (aD g 98), .int (iZ ty), .int (iZ th), .int (iZ pt), .int (iZ fl), .ref (aD g 99), .int (iZ to)])) (hN : C 95 = eI g 449 f) (hj : 0 ≤ j ∧ j < 449) : Met l yX9_changes wsX9_changes ({ frames := 0, cells := 0, slots := 0, locals := 0 } : Room) (zPre g C [.ref (aD g 94), .int (iZ j), .int (iZ v)]) (zQi g (fun z C' => C' = va_up C 95 (eI g 449 (zu f j v)) ∧ z = f j)) 0 0 (zA g) := by
  refine z_enter RX9 rfl (by decide) rfl (Nat.le_of_ble_eq_true rfl) ?_
  intro p e s m args below meth c K harg
  refine z_sub (lv' := [(0, .ref (aD g 94)), (1, .int (iZ j)), (2, .int (iZ v))]) [0, 1, 2] rfl ?_
  refine z_aload_n 1 K dX9_changes_0 rfl rfl 0 rfl ?_
  refine z_get 4 K hin_X9_changes_X9 94 (by decide) hM rfl 0 (by decide) (by decide +kernel : Cond.fieldLink RX9 7 "BriefBuilderModel" "now" "[I" ∈ wsX9_changes) (fun _ h9 => h9) rfl dX9_changes_1 rfl ?_
  refine z_iload_n 5 K dX9_changes_4 rfl rfl 1 rfl ?_
  refine z_iald (f := f) 6 K 95 (by decide) hN (by omega) (by omega) (by decide) dX9_changes_5 rfl ?_
  refine z_istore_n (lv' := [(3, .int (iZ (f j))), (0, .ref (aD g 94)), (1, .int (iZ j)), (2, .int (iZ v))]) 7 K dX9_changes_6 rfl rfl (by decide) rfl ?_
  refine z_aload_n 8 K dX9_changes_7 rfl rfl 1 rfl ?_
  refine z_get 11 K hin_X9_changes_X9 94 (by decide) hM rfl 0 (by decide) (by decide +kernel : Cond.fieldLink RX9 7 "BriefBuilderModel" "now" "[I" ∈ wsX9_changes) (fun _ h9 => h9) rfl dX9_changes_8 rfl ?_
  refine z_iload_n 12 K dX9_changes_11 rfl rfl 2 rfl ?_
  refine z_iload_n 13 K dX9_changes_12 rfl rfl 3 rfl ?_
  refine z_iast (f := f) 14 K 95 (by decide) hN (by omega) (by omega) (by decide) dX9_changes_13 rfl ?_
  refine z_iload_n 15 K dX9_changes_14 rfl rfl 0 rfl ?_
  exact z_iret K rfl dX9_changes_15 ⟨rfl, rfl⟩
set_option maxRecDepth 20000 in
theorem hin_X9_saves_X9 : ∀ w ∈ wsX90, w ∈ wsX9_saves := by decide +kernel
set_option maxHeartbeats 4000000 in
set_option maxRecDepth 100000 in
theorem m_X9_saves (l : Launch) (g : zG) (C : Nat → va_E) (k : Int) (ty : Int) (th : Int) (pt : Int) (fl : Int) (to : Int) (f : Int → Int) (past : Int → Int) (hM : C 94 = .inr (9, [.ref (aD g 95), .ref (aD g 96), .ref (aD g 97), .int (iZ k), .ref (aD g 98), .int (iZ ty), .int (iZ th), .int (iZ pt), .int (iZ fl), .ref (aD g 99), .int (iZ to)])) (hN : C 95 = eI g 449 f) (hPa : C 97 = eI g 2694 past) (hk : 0 ≤ k ∧ k ≤ 6) : Met l yX9_saves wsX9_saves ({ frames := 1, cells := 0, slots := 0, locals := 24 } : Room) (zPre g C [.ref (aD g 94)]) (zQv g (fun C' => C' = va_up (va_up C 97 (eI g 2694 (mSav f past k))) 94 (.inr (9, [.ref (aD g 95), .ref (aD g 96), .ref (aD g 97), .int (iZ (mKp k + 1)), .ref (aD g 98), .int (iZ ty), .int (iZ th), .int (iZ pt), .int (iZ fl), .ref (aD g 99), .int (iZ to)])))) 0 0 (zA g) := by
  refine z_enter RX9 rfl (by decide) rfl (Nat.le_of_ble_eq_true rfl) ?_
  intro p e s m args below meth c K harg
  refine z_sub (lv' := [(0, .ref (aD g 94))]) [0] rfl ?_
  refine z_aload_n 1 K dX9_saves_0 rfl rfl 0 rfl ?_
  refine z_get 4 K hin_X9_saves_X9 94 (by decide) hM rfl 3 (by decide) (by decide +kernel : Cond.fieldLink RX9 33 "BriefBuilderModel" "kept" "I" ∈ wsX9_saves) (fun _ h9 => h9) rfl dX9_saves_1 rfl ?_
  refine z_bipush 6 K dX9_saves_4 rfl rfl ?_
  refine z_icmp_ne (tgt := 50) 9 K dX9_saves_6 rfl (by decide) (by omega) (by decide) (fun c_6 => ?_) (fun c_6 => ?_)
  · skip
    refine z_aload_n 51 K dX9_saves_50 rfl rfl 0 rfl ?_
    refine z_get 54 K hin_X9_saves_X9 94 (by decide) hM rfl 0 (by decide) (by decide +kernel : Cond.fieldLink RX9 7 "BriefBuilderModel" "now" "[I" ∈ wsX9_saves) (fun _ h9 => h9) rfl dX9_saves_51 rfl ?_
    refine z_iconst 55 K dX9_saves_54 rfl ?_
    refine z_aload_n 56 K dX9_saves_55 rfl rfl 0 rfl ?_
    refine z_get 59 K hin_X9_saves_X9 94 (by decide) hM rfl 2 (by decide) (by decide +kernel : Cond.fieldLink RX9 16 "BriefBuilderModel" "past" "[I" ∈ wsX9_saves) (fun _ h9 => h9) rfl dX9_saves_56 rfl ?_
    refine z_sipush 62 K dX9_saves_59 rfl rfl ?_
    refine z_aload_n 63 K dX9_saves_62 rfl rfl 0 rfl ?_
    refine z_get 66 K hin_X9_saves_X9 94 (by decide) hM rfl 3 (by decide) (by decide +kernel : Cond.fieldLink RX9 33 "BriefBuilderModel" "kept" "I" ∈ wsX9_saves) (fun _ h9 => h9) rfl dX9_saves_63 rfl ?_
    refine z_imul 67 K dX9_saves_66 rfl ?_
    refine z_vSv (As := [.ref (aD g 95), .int (iZ 0), .ref (aD g 97), .int (iZ (449 * k))]) (rest := []) 70 K (m_X9_copies l g _ 95 0 97 (449 * k) f past 449 2694 (by decide) hN (by decide) hPa (by decide) (by omega) (by omega)) (va_cwS 4 K.1.2.2.2.2 gX9_saves_X9_copies rfl rfl rfl (by decide +kernel) ⟨Nat.le_of_ble_eq_true rfl, Nat.le_of_ble_eq_true rfl⟩) rfl (Nat.le_of_ble_eq_true rfl) dX9_saves_67 rfl ⟨Nat.le_of_ble_eq_true rfl, Nat.le_of_ble_eq_true rfl⟩ rfl (fun C_2 hp_67 => ?_)
    refine z_C hp_67 ?_
    refine z_aload_n 71 K dX9_saves_70 rfl rfl 0 rfl ?_
    refine z_dup 72 K dX9_saves_71 rfl rfl ?_
    refine z_get 75 K hin_X9_saves_X9 94 (by decide) ((va_up_ne _ _ (by decide)).trans hM) rfl 3 (by decide) (by decide +kernel : Cond.fieldLink RX9 33 "BriefBuilderModel" "kept" "I" ∈ wsX9_saves) (fun _ h9 => h9) rfl dX9_saves_72 rfl ?_
    refine z_iconst 76 K dX9_saves_75 rfl ?_
    refine z_iadd 77 K dX9_saves_76 rfl ?_
    refine z_put (ty := .int) 80 K hin_X9_saves_X9 tyX9 tyX9_ok nmX9 94 (by decide) ((va_up_ne _ _ (by decide)).trans hM) rfl 3 (by decide) (by decide +kernel : Cond.fieldLink RX9 33 "BriefBuilderModel" "kept" "I" ∈ wsX9_saves) (fun _ h9 => h9) rfl (by decide +kernel) rfl rfl (Nat.le_of_ble_eq_true rfl) dX9_saves_77 rfl ?_
    show Z p l e (({ frames := 1, cells := 0, slots := 0, locals := 24 } : Room)) s m args below meth c (MQ below (zQv g (fun C' => C' = va_up (va_up C 97 (eI g 2694 (mSav f past k))) 94 (.inr (9, [.ref (aD g 95), .ref (aD g 96), .ref (aD g 97), .int (iZ (mKp k + 1)), .ref (aD g 98), .int (iZ ty), .int (iZ th), .int (iZ pt), .int (iZ fl), .ref (aD g 99), .int (iZ to)])))) args s 0 0 (zA g)) g _ _ _ (va_up (va_up C 97 (eI g 2694 (zcpy f past 0 (449 * k) 449))) 94 (.inr (9, [.ref (aD g 95), .ref (aD g 96), .ref (aD g 97), .int (iZ (k + 1)), .ref (aD g 98), .int (iZ ty), .int (iZ th), .int (iZ pt), .int (iZ fl), .ref (aD g 99), .int (iZ to)]))) [(0, .ref (aD g 94))] 80 []
    exact z_vret K rfl dX9_saves_80 (by first | (rw [hh, ei, mSav_6 c_6, show mKp k + 1 = k by rw [mKp_6 c_6]; omega]) | (rw [mSav_no c_6, mKp_no c_6]))
  · skip
    refine z_iconst 10 K dX9_saves_9 rfl ?_
    refine z_istore_n (lv' := [(1, .int (iZ 0)), (0, .ref (aD g 94))]) 11 K dX9_saves_10 rfl rfl (by decide) rfl ?_
    have loop_11 : ∀ (n9 : Nat) (h : Int → Int) (i : Int), (0 ≤ i ∧ i ≤ 2245) → (h = zcpy past past 449 0 i) → (2245 - i < (n9 : Int)) → Z p l e (({ frames := 1, cells := 0, slots := 0, locals := 24 } : Room)) s m args below meth c (MQ below (zQv g (fun C' => C' = va_up (va_up C 97 (eI g 2694 (mSav f past k))) 94 (.inr (9, [.ref (aD g 95), .ref (aD g 96), .ref (aD g 97), .int (iZ (mKp k + 1)), .ref (aD g 98), .int (iZ ty), .int (iZ th), .int (iZ pt), .int (iZ fl), .ref (aD g 99), .int (iZ to)])))) args s 0 0 (zA g)) g 2 0 0 (va_up C 97 (eI g 2694 h)) [(0, .ref (aD g 94)), (1, .int (iZ i))] 11 [] := by
      intro n9
      induction n9 with
      | zero =>
        intro h i hii hh hm9
        exact absurd hm9 (by omega)
      | succ n9 ih9 =>
        intro h i hii hh hm_11
        have ih_11 := ih9
        clear ih9
        refine z_iload_n 12 K dX9_saves_11 rfl rfl 1 rfl ?_
        refine z_sipush 15 K dX9_saves_12 rfl rfl ?_
        refine z_icmp_ge (tgt := 40) 18 K dX9_saves_15 rfl (by decide) (by omega) (by decide) (fun c_15 => ?_) (fun c_15 => ?_)
        · skip
          have ei : i = 2245 := by omega
          refine z_aload_n 41 K dX9_saves_40 rfl rfl 0 rfl ?_
          refine z_dup 42 K dX9_saves_41 rfl rfl ?_
          refine z_get 45 K hin_X9_saves_X9 94 (by decide) ((va_up_ne _ _ (by decide)).trans hM) rfl 3 (by decide) (by decide +kernel : Cond.fieldLink RX9 33 "BriefBuilderModel" "kept" "I" ∈ wsX9_saves) (fun _ h9 => h9) rfl dX9_saves_42 rfl ?_
          refine z_iconst 46 K dX9_saves_45 rfl ?_
          refine z_isub 47 K dX9_saves_46 rfl ?_
          refine z_put (ty := .int) 50 K hin_X9_saves_X9 tyX9 tyX9_ok nmX9 94 (by decide) ((va_up_ne _ _ (by decide)).trans hM) rfl 3 (by decide) (by decide +kernel : Cond.fieldLink RX9 33 "BriefBuilderModel" "kept" "I" ∈ wsX9_saves) (fun _ h9 => h9) rfl (by decide +kernel) rfl rfl (Nat.le_of_ble_eq_true rfl) dX9_saves_47 rfl ?_
          show Z p l e (({ frames := 1, cells := 0, slots := 0, locals := 24 } : Room)) s m args below meth c (MQ below (zQv g (fun C' => C' = va_up (va_up C 97 (eI g 2694 (mSav f past k))) 94 (.inr (9, [.ref (aD g 95), .ref (aD g 96), .ref (aD g 97), .int (iZ (mKp k + 1)), .ref (aD g 98), .int (iZ ty), .int (iZ th), .int (iZ pt), .int (iZ fl), .ref (aD g 99), .int (iZ to)])))) args s 0 0 (zA g)) g _ _ _ (va_up (va_up C 97 (eI g 2694 h)) 94 (.inr (9, [.ref (aD g 95), .ref (aD g 96), .ref (aD g 97), .int (iZ (k - 1)), .ref (aD g 98), .int (iZ ty), .int (iZ th), .int (iZ pt), .int (iZ fl), .ref (aD g 99), .int (iZ to)]))) [(0, .ref (aD g 94)), (1, .int (iZ i))] 50 []
          refine z_aload_n 51 K dX9_saves_50 rfl rfl 0 rfl ?_
          refine z_get 54 K hin_X9_saves_X9 94 (by decide) (va_up_eq _ 94 _) rfl 0 (by decide) (by decide +kernel : Cond.fieldLink RX9 7 "BriefBuilderModel" "now" "[I" ∈ wsX9_saves) (fun _ h9 => h9) rfl dX9_saves_51 rfl ?_
          refine z_iconst 55 K dX9_saves_54 rfl ?_
          refine z_aload_n 56 K dX9_saves_55 rfl rfl 0 rfl ?_
          refine z_get 59 K hin_X9_saves_X9 94 (by decide) (va_up_eq _ 94 _) rfl 2 (by decide) (by decide +kernel : Cond.fieldLink RX9 16 "BriefBuilderModel" "past" "[I" ∈ wsX9_saves) (fun _ h9 => h9) rfl dX9_saves_56 rfl ?_
          refine z_sipush 62 K dX9_saves_59 rfl rfl ?_
          refine z_aload_n 63 K dX9_saves_62 rfl rfl 0 rfl ?_
          refine z_get 66 K hin_X9_saves_X9 94 (by decide) (va_up_eq _ 94 _) rfl 3 (by decide) (by decide +kernel : Cond.fieldLink RX9 33 "BriefBuilderModel" "kept" "I" ∈ wsX9_saves) (fun _ h9 => h9) rfl dX9_saves_63 rfl ?_
          refine z_imul 67 K dX9_saves_66 rfl ?_
          refine z_top (449 * k - 449) (by omega) ?_
          refine z_vSv (As := [.ref (aD g 95), .int (iZ 0), .ref (aD g 97), .int (iZ (449 * k - 449))]) (rest := []) 70 K (m_X9_copies l g _ 95 0 97 (449 * k - 449) f h 449 2694 (by decide) ((va_up_ne _ _ (by decide)).trans ((va_up_ne _ _ (by decide)).trans hN)) (by decide) ((va_up_ne _ _ (by decide)).trans (va_up_eq _ 97 _)) (by decide) (by omega) (by omega)) (va_cwS 4 K.1.2.2.2.2 gX9_saves_X9_copies rfl rfl rfl (by decide +kernel) ⟨Nat.le_of_ble_eq_true rfl, Nat.le_of_ble_eq_true rfl⟩) rfl (Nat.le_of_ble_eq_true rfl) dX9_saves_67 rfl ⟨Nat.le_of_ble_eq_true rfl, Nat.le_of_ble_eq_true rfl⟩ rfl (fun C_4 hp_67 => ?_)
          refine z_C hp_67 ?_
          refine z_C (va_uu1 (by decide)) ?_
          refine z_aload_n 71 K dX9_saves_70 rfl rfl 0 rfl ?_
          refine z_dup 72 K dX9_saves_71 rfl rfl ?_
          refine z_get 75 K hin_X9_saves_X9 94 (by decide) ((va_up_ne _ _ (by decide)).trans (va_up_eq _ 94 _)) rfl 3 (by decide) (by decide +kernel : Cond.fieldLink RX9 33 "BriefBuilderModel" "kept" "I" ∈ wsX9_saves) (fun _ h9 => h9) rfl dX9_saves_72 rfl ?_
          refine z_iconst 76 K dX9_saves_75 rfl ?_
          refine z_iadd 77 K dX9_saves_76 rfl ?_
          refine z_top (k) (by omega) ?_
          refine z_put (ty := .int) 80 K hin_X9_saves_X9 tyX9 tyX9_ok nmX9 94 (by decide) ((va_up_ne _ _ (by decide)).trans (va_up_eq _ 94 _)) rfl 3 (by decide) (by decide +kernel : Cond.fieldLink RX9 33 "BriefBuilderModel" "kept" "I" ∈ wsX9_saves) (fun _ h9 => h9) rfl (by decide +kernel) rfl rfl (Nat.le_of_ble_eq_true rfl) dX9_saves_77 rfl ?_
          show Z p l e (({ frames := 1, cells := 0, slots := 0, locals := 24 } : Room)) s m args below meth c (MQ below (zQv g (fun C' => C' = va_up (va_up C 97 (eI g 2694 (mSav f past k))) 94 (.inr (9, [.ref (aD g 95), .ref (aD g 96), .ref (aD g 97), .int (iZ (mKp k + 1)), .ref (aD g 98), .int (iZ ty), .int (iZ th), .int (iZ pt), .int (iZ fl), .ref (aD g 99), .int (iZ to)])))) args s 0 0 (zA g)) g _ _ _ (va_up (va_up (va_up C 94 (.inr (9, [.ref (aD g 95), .ref (aD g 96), .ref (aD g 97), .int (iZ (k - 1)), .ref (aD g 98), .int (iZ ty), .int (iZ th), .int (iZ pt), .int (iZ fl), .ref (aD g 99), .int (iZ to)]))) 97 (eI g 2694 (zcpy f h 0 (449 * k - 449) 449))) 94 (.inr (9, [.ref (aD g 95), .ref (aD g 96), .ref (aD g 97), .int (iZ k), .ref (aD g 98), .int (iZ ty), .int (iZ th), .int (iZ pt), .int (iZ fl), .ref (aD g 99), .int (iZ to)]))) [(0, .ref (aD g 94)), (1, .int (iZ i))] 80 []
          refine z_C (va_uu1 (by decide)) ?_
          exact z_vret K rfl dX9_saves_80 (by first | (rw [hh, ei, mSav_6 c_6, show mKp k + 1 = k by rw [mKp_6 c_6]; omega]) | (rw [mSav_no c_6, mKp_no c_6]))
        · skip
          refine z_aload_n 19 K dX9_saves_18 rfl rfl 0 rfl ?_
          refine z_get 22 K hin_X9_saves_X9 94 (by decide) ((va_up_ne _ _ (by decide)).trans hM) rfl 2 (by decide) (by decide +kernel : Cond.fieldLink RX9 16 "BriefBuilderModel" "past" "[I" ∈ wsX9_saves) (fun _ h9 => h9) rfl dX9_saves_19 rfl ?_
          refine z_iload_n 23 K dX9_saves_22 rfl rfl 1 rfl ?_
          refine z_aload_n 24 K dX9_saves_23 rfl rfl 0 rfl ?_
          refine z_get 27 K hin_X9_saves_X9 94 (by decide) ((va_up_ne _ _ (by decide)).trans hM) rfl 2 (by decide) (by decide +kernel : Cond.fieldLink RX9 16 "BriefBuilderModel" "past" "[I" ∈ wsX9_saves) (fun _ h9 => h9) rfl dX9_saves_24 rfl ?_
          refine z_iload_n 28 K dX9_saves_27 rfl rfl 1 rfl ?_
          refine z_sipush 31 K dX9_saves_28 rfl rfl ?_
          refine z_iadd 32 K dX9_saves_31 rfl ?_
          refine z_iald (f := h) 33 K 97 (by decide) (va_up_eq _ 97 _) (by omega) (by omega) (by decide) dX9_saves_32 rfl ?_
          refine z_iast (f := h) 34 K 97 (by decide) (va_up_eq _ 97 _) (by omega) (by omega) (by decide) dX9_saves_33 rfl ?_
          refine z_C (va_uu _ _ _ _) ?_
          refine z_iinc (lv' := [(1, .int (iZ (i + 1))), (0, .ref (aD g 94))]) 37 K dX9_saves_34 rfl (i + 1) rfl 1 rfl (by decide) rfl ?_
          refine z_goto (tgt := 11) K dX9_saves_37 (by decide) ?_
          refine z_sub [1, 0] rfl ?_
          exact ih_11 (zu h i (h (i + 449))) (i + 1) (by omega) (by rw [hh]; exact mSh_step past (by omega)) (by omega)
    refine z_sub [1, 0] rfl ?_
    refine z_C (va_us hPa).symm ?_
    exact loop_11 (Int.toNat (2245 - 0) + 1) past 0 (by omega) ((zcpy_0 _ _ _ _).symm) (by omega)
set_option maxRecDepth 20000 in
theorem hin_X9_insert_X9 : ∀ w ∈ wsX90, w ∈ wsX9_insert := by decide +kernel
set_option maxHeartbeats 4000000 in
set_option maxRecDepth 100000 in
theorem m_X9_insert (l : Launch) (g : zG) (C : Nat → va_E) (p0 : Int) (y : Int) (k : Int) (ty : Int) (th : Int) (pt : Int) (fl : Int) (to : Int) (f : Int → Int) (past : Int → Int) (cap : Int) (hM : C 94 = .inr (9, [.ref (aD g 95), .ref (aD g 96), .ref (aD g 97), .int (iZ k), .ref (aD g 98), .int (iZ ty), .int (iZ th), .int (iZ pt), .int (iZ fl), .ref (aD g 99), .int (iZ to)])) (hN : C 95 = eI g 449 f) (hPa : C 97 = eI g 2694 past) (hk : 0 ≤ k ∧ k ≤ 6) (hw : WF f cap) (h_p0 : -2147483648 ≤ p0 ∧ p0 < 2147483648) (h_y : -2147483648 ≤ y ∧ y < 2147483648) : Met l yX9_insert wsX9_insert ({ frames := 2, cells := 0, slots := 0, locals := 46 } : Room) (zPre g C [.ref (aD g 94), .int (iZ p0), .int (iZ y)]) (zQi g (fun z C' => C' = va_up (va_up (va_up C 97 (eI g 2694 (if kIns f p0 y = 0 then mSav f past k else past))) 94 (.inr (9, [.ref (aD g 95), .ref (aD g 96), .ref (aD g 97), .int (iZ (if kIns f p0 y = 0 then mKp k + 1 else k)), .ref (aD g 98), .int (iZ ty), .int (iZ (kIns f p0 y)), .int (iZ pt), .int (iZ fl), .ref (aD g 99), .int (iZ to)]))) 95 (eI g 449 (if kIns f p0 y = 0 then mCome f p0 y else f)) ∧ z = if kIns f p0 y = 0 then f 2 else 0)) 0 0 (zA g) := by
  refine z_enter RX9 rfl (by decide) rfl (Nat.le_of_ble_eq_true rfl) ?_
  intro p e s m args below meth c K harg
  refine z_sub (lv' := [(0, .ref (aD g 94)), (1, .int (iZ p0)), (2, .int (iZ y))]) [0, 1, 2] rfl ?_
  have hn := hw.n
  have hx := hw.nx
  refine z_aload_n 1 K dX9_insert_0 rfl rfl 0 rfl ?_
  refine z_iconst 2 K dX9_insert_1 rfl ?_
  refine z_put (ty := .int) 5 K hin_X9_insert_X9 tyX9 tyX9_ok nmX9 94 (by decide) hM rfl 6 (by decide) (by decide +kernel : Cond.fieldLink RX9 25 "BriefBuilderModel" "thrown" "I" ∈ wsX9_insert) (fun _ h9 => h9) rfl (by decide +kernel) rfl rfl (Nat.le_of_ble_eq_true rfl) dX9_insert_2 rfl ?_
  show Z p l e (({ frames := 2, cells := 0, slots := 0, locals := 46 } : Room)) s m args below meth c (MQ below (zQi g (fun z C' => C' = va_up (va_up (va_up C 97 (eI g 2694 (if kIns f p0 y = 0 then mSav f past k else past))) 94 (.inr (9, [.ref (aD g 95), .ref (aD g 96), .ref (aD g 97), .int (iZ (if kIns f p0 y = 0 then mKp k + 1 else k)), .ref (aD g 98), .int (iZ ty), .int (iZ (kIns f p0 y)), .int (iZ pt), .int (iZ fl), .ref (aD g 99), .int (iZ to)]))) 95 (eI g 449 (if kIns f p0 y = 0 then mCome f p0 y else f)) ∧ z = if kIns f p0 y = 0 then f 2 else 0)) args s 0 0 (zA g)) g _ _ _ (va_up C 94 (.inr (9, [.ref (aD g 95), .ref (aD g 96), .ref (aD g 97), .int (iZ k), .ref (aD g 98), .int (iZ ty), .int (iZ 0), .int (iZ pt), .int (iZ fl), .ref (aD g 99), .int (iZ to)]))) [(0, .ref (aD g 94)), (1, .int (iZ p0)), (2, .int (iZ y))] 5 []
  refine z_iload_n 6 K dX9_insert_5 rfl rfl 1 rfl ?_
  refine z_iconst 7 K dX9_insert_6 rfl ?_
  refine z_aload_n 8 K dX9_insert_7 rfl rfl 0 rfl ?_
  refine z_get 11 K hin_X9_insert_X9 94 (by decide) (va_up_eq _ 94 _) rfl 0 (by decide) (by decide +kernel : Cond.fieldLink RX9 7 "BriefBuilderModel" "now" "[I" ∈ wsX9_insert) (fun _ h9 => h9) rfl dX9_insert_8 rfl ?_
  refine z_iconst 12 K dX9_insert_11 rfl ?_
  refine z_iald (f := f) 13 K 95 (by decide) ((va_up_ne _ _ (by decide)).trans hN) (by decide) (by decide) (by decide) dX9_insert_12 rfl ?_
  have hr_12 := hw.rg 1
  refine z_vSi (As := [.int (iZ p0), .int (iZ 0), .int (iZ (f 1))]) (rest := []) 16 K (m_X9_in l g _ p0 0 (f 1) (by omega) (by omega) (by omega)) (va_cwS 3 K.1.2.2.2.2 gX9_insert_X9_in rfl rfl rfl (by decide +kernel) ⟨Nat.le_of_ble_eq_true rfl, Nat.le_of_ble_eq_true rfl⟩) rfl (Nat.le_of_ble_eq_true rfl) dX9_insert_13 rfl ⟨Nat.le_of_ble_eq_true rfl, Nat.le_of_ble_eq_true rfl⟩ rfl (fun z_1 C_2 hp_13 => ?_)
  refine z_C hp_13.1 ?_
  refine z_top (b2i (decide (0 ≤ p0 ∧ p0 ≤ (f 1)))) hp_13.2 ?_
  refine z_if_ne (tgt := 25) 19 K dX9_insert_16 rfl (by decide) (b2i_ir _) (fun c_16 => ?_) (fun c_16 => ?_)
  · have d_16 := b2i_decn.mp c_16
    refine z_iload_n 26 K dX9_insert_25 rfl rfl 2 rfl ?_
    refine z_vSi (As := [.int (iZ y)]) (rest := []) 29 K (m_X9_arePages l g _ y (by omega)) (va_cwS 1 K.1.2.2.2.2 gX9_insert_X9_arePages rfl rfl rfl (by decide +kernel) ⟨Nat.le_of_ble_eq_true rfl, Nat.le_of_ble_eq_true rfl⟩) rfl (Nat.le_of_ble_eq_true rfl) dX9_insert_26 rfl ⟨Nat.le_of_ble_eq_true rfl, Nat.le_of_ble_eq_true rfl⟩ rfl (fun z_3 C_4 hp_26 => ?_)
    refine z_C hp_26.1 ?_
    refine z_top (b2i (decide (1 ≤ y ∧ y ≤ 60))) hp_26.2 ?_
    refine z_if_ne (tgt := 38) 32 K dX9_insert_29 rfl (by decide) (b2i_ir _) (fun c_29 => ?_) (fun c_29 => ?_)
    · have d_29 := b2i_decn.mp c_29
      refine z_aload_n 39 K dX9_insert_38 rfl rfl 0 rfl ?_
      refine z_get 42 K hin_X9_insert_X9 94 (by decide) (va_up_eq _ 94 _) rfl 0 (by decide) (by decide +kernel : Cond.fieldLink RX9 7 "BriefBuilderModel" "now" "[I" ∈ wsX9_insert) (fun _ h9 => h9) rfl dX9_insert_39 rfl ?_
      refine z_iconst 43 K dX9_insert_42 rfl ?_
      refine z_iald (f := f) 44 K 95 (by decide) ((va_up_ne _ _ (by decide)).trans hN) (by decide) (by decide) (by decide) dX9_insert_43 rfl ?_
      have hr_43 := hw.rg 1
      refine z_bipush 46 K dX9_insert_44 rfl rfl ?_
      refine z_icmp_ne (tgt := 55) 49 K dX9_insert_46 rfl (by decide) (by omega) (by decide) (fun c_46 => ?_) (fun c_46 => ?_)
      · skip
        refine z_aload_n 56 K dX9_insert_55 rfl rfl 0 rfl ?_
        refine z_vVv (As := []) (rest := []) 59 K 94 (by decide) (va_up_eq _ 94 _) rfl rfl (m_X9_saves l g _ k ty 0 pt fl to f past (va_up_eq _ 94 _) ((va_up_ne _ _ (by decide)).trans hN) ((va_up_ne _ _ (by decide)).trans hPa) (by omega)) (cwV 0 K.1.2.2.2.2 gX9_insert_X9_saves rfl rfl rfl (by decide +kernel) ⟨Nat.le_of_ble_eq_true rfl, Nat.le_of_ble_eq_true rfl⟩) rfl (Nat.le_of_ble_eq_true rfl) dX9_insert_56 rfl ⟨Nat.le_of_ble_eq_true rfl, Nat.le_of_ble_eq_true rfl⟩ rfl (fun C_6 hp_56 => ?_)
        refine z_C hp_56 ?_
        refine z_C (va_uu1 (by decide)) ?_
        refine z_aload_n 60 K dX9_insert_59 rfl rfl 0 rfl ?_
        refine z_get 63 K hin_X9_insert_X9 94 (by decide) (va_up_eq _ 94 _) rfl 0 (by decide) (by decide +kernel : Cond.fieldLink RX9 7 "BriefBuilderModel" "now" "[I" ∈ wsX9_insert) (fun _ h9 => h9) rfl dX9_insert_60 rfl ?_
        refine z_iload_n 64 K dX9_insert_63 rfl rfl 1 rfl ?_
        refine z_iload_n 65 K dX9_insert_64 rfl rfl 2 rfl ?_
        refine z_vSv (As := [.ref (aD g 95), .int (iZ p0), .int (iZ y)]) (rest := []) 68 K (m_X9_comes l g _ 95 p0 y f (by decide) ((va_up_ne _ _ (by decide)).trans ((va_up_ne _ _ (by decide)).trans hN)) (by omega) (by omega)) (va_cwS 3 K.1.2.2.2.2 gX9_insert_X9_comes rfl rfl rfl (by decide +kernel) ⟨Nat.le_of_ble_eq_true rfl, Nat.le_of_ble_eq_true rfl⟩) rfl (Nat.le_of_ble_eq_true rfl) dX9_insert_65 rfl ⟨Nat.le_of_ble_eq_true rfl, Nat.le_of_ble_eq_true rfl⟩ rfl (fun C_8 hp_65 => ?_)
        refine z_C hp_65 ?_
        refine z_aload_n 69 K dX9_insert_68 rfl rfl 0 rfl ?_
        refine z_get 72 K hin_X9_insert_X9 94 (by decide) ((va_up_ne _ _ (by decide)).trans (va_up_eq _ 94 _)) rfl 0 (by decide) (by decide +kernel : Cond.fieldLink RX9 7 "BriefBuilderModel" "now" "[I" ∈ wsX9_insert) (fun _ h9 => h9) rfl dX9_insert_69 rfl ?_
        refine z_iconst 73 K dX9_insert_72 rfl ?_
        refine z_iald (f := (mCome f p0 y)) 74 K 95 (by decide) (va_up_eq _ 95 _) (by decide) (by decide) (by decide) dX9_insert_73 rfl ?_
        refine z_top (f 2 + 1) (by simp only [mCome, zu_eq]) ?_
        refine z_iconst 75 K dX9_insert_74 rfl ?_
        refine z_isub 76 K dX9_insert_75 rfl ?_
        refine z_top (f 2) (by omega) ?_
        have hK : kIns f p0 y = 0 := by unfold kIns; (repeat' split) <;> omega
        exact z_iret K rfl dX9_insert_76 ⟨by rw [hK] <;> rfl, by rw [hK] <;> rfl⟩
      · skip
        refine z_aload_n 50 K dX9_insert_49 rfl rfl 0 rfl ?_
        refine z_iconst 51 K dX9_insert_50 rfl ?_
        refine z_top (kIns f p0 y) (by unfold kIns; (repeat' split) <;> omega) ?_
        refine z_vVi (As := [.int (iZ (kIns f p0 y))]) (rest := []) 54 K 94 (by decide) (va_up_eq _ 94 _) rfl rfl (m_X9_fails l g _ (kIns f p0 y) k ty 0 pt fl to (va_up_eq _ 94 _)) (cwV 1 K.1.2.2.2.2 gX9_insert_X9_fails rfl rfl rfl (by decide +kernel) ⟨Nat.le_of_ble_eq_true rfl, Nat.le_of_ble_eq_true rfl⟩) rfl (Nat.le_of_ble_eq_true rfl) dX9_insert_51 rfl ⟨Nat.le_of_ble_eq_true rfl, Nat.le_of_ble_eq_true rfl⟩ rfl (fun z_9 C_10 hp_51 => ?_)
        refine z_C hp_51.1 ?_
        refine z_top (0) hp_51.2 ?_
        refine z_C (va_uu _ _ _ _) ?_
        refine z_C (va_us ((va_up_ne _ _ (by decide)).trans hPa)).symm ?_
        refine z_C (va_us ((va_up_ne _ _ (by decide)).trans ((va_up_ne _ _ (by decide)).trans hN))).symm ?_
        refine z_C (va_ur1 (by decide)) ?_
        refine z_C (va_ur2 (by decide) (by decide)) ?_
        refine z_C (va_ur2 (by decide) (by decide)) ?_
        have hK : ¬ kIns f p0 y = 0 := by unfold kIns; (repeat' split) <;> omega
        exact z_iret K rfl dX9_insert_54 ⟨by rw [if_neg hK, if_neg hK, if_neg hK], by rw [if_neg hK]⟩
    · have d_29 := b2i_dec0.mp c_29
      refine z_aload_n 33 K dX9_insert_32 rfl rfl 0 rfl ?_
      refine z_iconst 34 K dX9_insert_33 rfl ?_
      refine z_top (kIns f p0 y) (by unfold kIns; (repeat' split) <;> omega) ?_
      refine z_vVi (As := [.int (iZ (kIns f p0 y))]) (rest := []) 37 K 94 (by decide) (va_up_eq _ 94 _) rfl rfl (m_X9_fails l g _ (kIns f p0 y) k ty 0 pt fl to (va_up_eq _ 94 _)) (cwV 1 K.1.2.2.2.2 gX9_insert_X9_fails rfl rfl rfl (by decide +kernel) ⟨Nat.le_of_ble_eq_true rfl, Nat.le_of_ble_eq_true rfl⟩) rfl (Nat.le_of_ble_eq_true rfl) dX9_insert_34 rfl ⟨Nat.le_of_ble_eq_true rfl, Nat.le_of_ble_eq_true rfl⟩ rfl (fun z_11 C_12 hp_34 => ?_)
      refine z_C hp_34.1 ?_
      refine z_top (0) hp_34.2 ?_
      refine z_C (va_uu _ _ _ _) ?_
      refine z_C (va_us ((va_up_ne _ _ (by decide)).trans hPa)).symm ?_
      refine z_C (va_us ((va_up_ne _ _ (by decide)).trans ((va_up_ne _ _ (by decide)).trans hN))).symm ?_
      refine z_C (va_ur1 (by decide)) ?_
      refine z_C (va_ur2 (by decide) (by decide)) ?_
      refine z_C (va_ur2 (by decide) (by decide)) ?_
      have hK : ¬ kIns f p0 y = 0 := by unfold kIns; (repeat' split) <;> omega
      exact z_iret K rfl dX9_insert_37 ⟨by rw [if_neg hK, if_neg hK, if_neg hK], by rw [if_neg hK]⟩
  · have d_16 := b2i_dec0.mp c_16
    refine z_aload_n 20 K dX9_insert_19 rfl rfl 0 rfl ?_
    refine z_iconst 21 K dX9_insert_20 rfl ?_
    refine z_top (kIns f p0 y) (by unfold kIns; (repeat' split) <;> omega) ?_
    refine z_vVi (As := [.int (iZ (kIns f p0 y))]) (rest := []) 24 K 94 (by decide) (va_up_eq _ 94 _) rfl rfl (m_X9_fails l g _ (kIns f p0 y) k ty 0 pt fl to (va_up_eq _ 94 _)) (cwV 1 K.1.2.2.2.2 gX9_insert_X9_fails rfl rfl rfl (by decide +kernel) ⟨Nat.le_of_ble_eq_true rfl, Nat.le_of_ble_eq_true rfl⟩) rfl (Nat.le_of_ble_eq_true rfl) dX9_insert_21 rfl ⟨Nat.le_of_ble_eq_true rfl, Nat.le_of_ble_eq_true rfl⟩ rfl (fun z_13 C_14 hp_21 => ?_)
    refine z_C hp_21.1 ?_
    refine z_top (0) hp_21.2 ?_
    refine z_C (va_uu _ _ _ _) ?_
    refine z_C (va_us ((va_up_ne _ _ (by decide)).trans hPa)).symm ?_
    refine z_C (va_us ((va_up_ne _ _ (by decide)).trans ((va_up_ne _ _ (by decide)).trans hN))).symm ?_
    refine z_C (va_ur1 (by decide)) ?_
    refine z_C (va_ur2 (by decide) (by decide)) ?_
    refine z_C (va_ur2 (by decide) (by decide)) ?_
    have hK : ¬ kIns f p0 y = 0 := by unfold kIns; (repeat' split) <;> omega
    exact z_iret K rfl dX9_insert_24 ⟨by rw [if_neg hK, if_neg hK, if_neg hK], by rw [if_neg hK]⟩
set_option maxRecDepth 20000 in
theorem hin_X9_move_X9 : ∀ w ∈ wsX90, w ∈ wsX9_move := by decide +kernel
set_option maxHeartbeats 4000000 in
set_option maxRecDepth 100000 in
theorem m_X9_move (l : Launch) (g : zG) (C : Nat → va_E) (p0 : Int) (t0 : Int) (k : Int) (ty : Int) (th : Int) (pt : Int) (fl : Int) (to : Int) (f : Int → Int) (past : Int → Int) (cap : Int) (hM : C 94 = .inr (9, [.ref (aD g 95), .ref (aD g 96), .ref (aD g 97), .int (iZ k), .ref (aD g 98), .int (iZ ty), .int (iZ th), .int (iZ pt), .int (iZ fl), .ref (aD g 99), .int (iZ to)])) (hN : C 95 = eI g 449 f) (hPa : C 97 = eI g 2694 past) (hk : 0 ≤ k ∧ k ≤ 6) (hw : WF f cap) (h_p0 : -2147483648 ≤ p0 ∧ p0 < 2147483648) (h_t0 : -2147483648 ≤ t0 ∧ t0 < 2147483648) : Met l yX9_move wsX9_move ({ frames := 2, cells := 0, slots := 0, locals := 48 } : Room) (zPre g C [.ref (aD g 94), .int (iZ p0), .int (iZ t0)]) (zQi g (fun z C' => C' = va_up (va_up (va_up C 97 (eI g 2694 (if kMov f p0 t0 = 0 then mSav f past k else past))) 94 (.inr (9, [.ref (aD g 95), .ref (aD g 96), .ref (aD g 97), .int (iZ (if kMov f p0 t0 = 0 then mKp k + 1 else k)), .ref (aD g 98), .int (iZ ty), .int (iZ (kMov f p0 t0)), .int (iZ pt), .int (iZ fl), .ref (aD g 99), .int (iZ to)]))) 95 (eI g 449 (if kMov f p0 t0 = 0 then mMove f p0 t0 else f)) ∧ z = if kMov f p0 t0 = 0 then f (2 * p0 + 3) else 0)) 0 0 (zA g) := by
  refine z_enter RX9 rfl (by decide) rfl (Nat.le_of_ble_eq_true rfl) ?_
  intro p e s m args below meth c K harg
  refine z_sub (lv' := [(0, .ref (aD g 94)), (1, .int (iZ p0)), (2, .int (iZ t0))]) [0, 1, 2] rfl ?_
  have hn := hw.n
  have hx := hw.nx
  refine z_aload_n 1 K dX9_move_0 rfl rfl 0 rfl ?_
  refine z_iconst 2 K dX9_move_1 rfl ?_
  refine z_put (ty := .int) 5 K hin_X9_move_X9 tyX9 tyX9_ok nmX9 94 (by decide) hM rfl 6 (by decide) (by decide +kernel : Cond.fieldLink RX9 25 "BriefBuilderModel" "thrown" "I" ∈ wsX9_move) (fun _ h9 => h9) rfl (by decide +kernel) rfl rfl (Nat.le_of_ble_eq_true rfl) dX9_move_2 rfl ?_
  show Z p l e (({ frames := 2, cells := 0, slots := 0, locals := 48 } : Room)) s m args below meth c (MQ below (zQi g (fun z C' => C' = va_up (va_up (va_up C 97 (eI g 2694 (if kMov f p0 t0 = 0 then mSav f past k else past))) 94 (.inr (9, [.ref (aD g 95), .ref (aD g 96), .ref (aD g 97), .int (iZ (if kMov f p0 t0 = 0 then mKp k + 1 else k)), .ref (aD g 98), .int (iZ ty), .int (iZ (kMov f p0 t0)), .int (iZ pt), .int (iZ fl), .ref (aD g 99), .int (iZ to)]))) 95 (eI g 449 (if kMov f p0 t0 = 0 then mMove f p0 t0 else f)) ∧ z = if kMov f p0 t0 = 0 then f (2 * p0 + 3) else 0)) args s 0 0 (zA g)) g _ _ _ (va_up C 94 (.inr (9, [.ref (aD g 95), .ref (aD g 96), .ref (aD g 97), .int (iZ k), .ref (aD g 98), .int (iZ ty), .int (iZ 0), .int (iZ pt), .int (iZ fl), .ref (aD g 99), .int (iZ to)]))) [(0, .ref (aD g 94)), (1, .int (iZ p0)), (2, .int (iZ t0))] 5 []
  refine z_aload_n 6 K dX9_move_5 rfl rfl 0 rfl ?_
  refine z_iload_n 7 K dX9_move_6 rfl rfl 1 rfl ?_
  refine z_vVi (As := [.int (iZ p0)]) (rest := []) 10 K 94 (by decide) (va_up_eq _ 94 _) rfl rfl (m_X9_isPlace l g _ p0 k ty 0 pt fl to f (va_up_eq _ 94 _) ((va_up_ne _ _ (by decide)).trans hN) (by omega) (by omega)) (cwV 1 K.1.2.2.2.2 gX9_move_X9_isPlace rfl rfl rfl (by decide +kernel) ⟨Nat.le_of_ble_eq_true rfl, Nat.le_of_ble_eq_true rfl⟩) rfl (Nat.le_of_ble_eq_true rfl) dX9_move_7 rfl ⟨Nat.le_of_ble_eq_true rfl, Nat.le_of_ble_eq_true rfl⟩ rfl (fun z_1 C_2 hp_7 => ?_)
  refine z_C hp_7.1 ?_
  refine z_top (b2i (decide (0 ≤ p0 ∧ p0 ≤ f 1 - 1))) hp_7.2 ?_
  refine z_if_eq (tgt := 21) 13 K dX9_move_10 rfl (by decide) (b2i_ir _) (fun c_10 => ?_) (fun c_10 => ?_)
  · have d_10 := b2i_dec0.mp c_10
    refine z_aload_n 22 K dX9_move_21 rfl rfl 0 rfl ?_
    refine z_iconst 23 K dX9_move_22 rfl ?_
    refine z_top (kMov f p0 t0) (by unfold kMov; (repeat' split) <;> omega) ?_
    refine z_vVi (As := [.int (iZ (kMov f p0 t0))]) (rest := []) 26 K 94 (by decide) (va_up_eq _ 94 _) rfl rfl (m_X9_fails l g _ (kMov f p0 t0) k ty 0 pt fl to (va_up_eq _ 94 _)) (cwV 1 K.1.2.2.2.2 gX9_move_X9_fails rfl rfl rfl (by decide +kernel) ⟨Nat.le_of_ble_eq_true rfl, Nat.le_of_ble_eq_true rfl⟩) rfl (Nat.le_of_ble_eq_true rfl) dX9_move_23 rfl ⟨Nat.le_of_ble_eq_true rfl, Nat.le_of_ble_eq_true rfl⟩ rfl (fun z_3 C_4 hp_23 => ?_)
    refine z_C hp_23.1 ?_
    refine z_top (0) hp_23.2 ?_
    refine z_C (va_uu _ _ _ _) ?_
    refine z_C (va_us ((va_up_ne _ _ (by decide)).trans hPa)).symm ?_
    refine z_C (va_us ((va_up_ne _ _ (by decide)).trans ((va_up_ne _ _ (by decide)).trans hN))).symm ?_
    refine z_C (va_ur1 (by decide)) ?_
    refine z_C (va_ur2 (by decide) (by decide)) ?_
    refine z_C (va_ur2 (by decide) (by decide)) ?_
    have hK : ¬ kMov f p0 t0 = 0 := by unfold kMov; (repeat' split) <;> omega
    exact z_iret K rfl dX9_move_26 ⟨by rw [if_neg hK, if_neg hK, if_neg hK], by rw [if_neg hK]⟩
  · have d_10 := b2i_decn.mp c_10
    refine z_aload_n 14 K dX9_move_13 rfl rfl 0 rfl ?_
    refine z_iload_n 15 K dX9_move_14 rfl rfl 2 rfl ?_
    refine z_vVi (As := [.int (iZ t0)]) (rest := []) 18 K 94 (by decide) (va_up_eq _ 94 _) rfl rfl (m_X9_isPlace l g _ t0 k ty 0 pt fl to f (va_up_eq _ 94 _) ((va_up_ne _ _ (by decide)).trans hN) (by omega) (by omega)) (cwV 1 K.1.2.2.2.2 gX9_move_X9_isPlace rfl rfl rfl (by decide +kernel) ⟨Nat.le_of_ble_eq_true rfl, Nat.le_of_ble_eq_true rfl⟩) rfl (Nat.le_of_ble_eq_true rfl) dX9_move_15 rfl ⟨Nat.le_of_ble_eq_true rfl, Nat.le_of_ble_eq_true rfl⟩ rfl (fun z_5 C_6 hp_15 => ?_)
    refine z_C hp_15.1 ?_
    refine z_top (b2i (decide (0 ≤ t0 ∧ t0 ≤ f 1 - 1))) hp_15.2 ?_
    refine z_if_ne (tgt := 27) 21 K dX9_move_18 rfl (by decide) (b2i_ir _) (fun c_18 => ?_) (fun c_18 => ?_)
    · have d_18 := b2i_decn.mp c_18
      refine z_aload_n 28 K dX9_move_27 rfl rfl 0 rfl ?_
      refine z_vVv (As := []) (rest := []) 31 K 94 (by decide) (va_up_eq _ 94 _) rfl rfl (m_X9_saves l g _ k ty 0 pt fl to f past (va_up_eq _ 94 _) ((va_up_ne _ _ (by decide)).trans hN) ((va_up_ne _ _ (by decide)).trans hPa) (by omega)) (cwV 0 K.1.2.2.2.2 gX9_move_X9_saves rfl rfl rfl (by decide +kernel) ⟨Nat.le_of_ble_eq_true rfl, Nat.le_of_ble_eq_true rfl⟩) rfl (Nat.le_of_ble_eq_true rfl) dX9_move_28 rfl ⟨Nat.le_of_ble_eq_true rfl, Nat.le_of_ble_eq_true rfl⟩ rfl (fun C_8 hp_28 => ?_)
      refine z_C hp_28 ?_
      refine z_C (va_uu1 (by decide)) ?_
      refine z_aload_n 32 K dX9_move_31 rfl rfl 0 rfl ?_
      refine z_get 35 K hin_X9_move_X9 94 (by decide) (va_up_eq _ 94 _) rfl 0 (by decide) (by decide +kernel : Cond.fieldLink RX9 7 "BriefBuilderModel" "now" "[I" ∈ wsX9_move) (fun _ h9 => h9) rfl dX9_move_32 rfl ?_
      refine z_iload_n 36 K dX9_move_35 rfl rfl 1 rfl ?_
      refine z_iload_n 37 K dX9_move_36 rfl rfl 2 rfl ?_
      refine z_vSi (As := [.ref (aD g 95), .int (iZ p0), .int (iZ t0)]) (rest := []) 40 K (m_X9_moves l g _ 95 p0 t0 f (by decide) ((va_up_ne _ _ (by decide)).trans ((va_up_ne _ _ (by decide)).trans hN)) (by omega) (by omega) (by omega)) (va_cwS 3 K.1.2.2.2.2 gX9_move_X9_moves rfl rfl rfl (by decide +kernel) ⟨Nat.le_of_ble_eq_true rfl, Nat.le_of_ble_eq_true rfl⟩) rfl (Nat.le_of_ble_eq_true rfl) dX9_move_37 rfl ⟨Nat.le_of_ble_eq_true rfl, Nat.le_of_ble_eq_true rfl⟩ rfl (fun z_9 C_10 hp_37 => ?_)
      refine z_C hp_37.1 ?_
      refine z_top (f (2 * p0 + 3)) hp_37.2 ?_
      have hK : kMov f p0 t0 = 0 := by unfold kMov; (repeat' split) <;> omega
      exact z_iret K rfl dX9_move_40 ⟨by rw [hK] <;> rfl, by rw [hK] <;> rfl⟩
    · have d_18 := b2i_dec0.mp c_18
      refine z_aload_n 22 K dX9_move_21 rfl rfl 0 rfl ?_
      refine z_iconst 23 K dX9_move_22 rfl ?_
      refine z_top (kMov f p0 t0) (by unfold kMov; (repeat' split) <;> omega) ?_
      refine z_vVi (As := [.int (iZ (kMov f p0 t0))]) (rest := []) 26 K 94 (by decide) (va_up_eq _ 94 _) rfl rfl (m_X9_fails l g _ (kMov f p0 t0) k ty 0 pt fl to (va_up_eq _ 94 _)) (cwV 1 K.1.2.2.2.2 gX9_move_X9_fails rfl rfl rfl (by decide +kernel) ⟨Nat.le_of_ble_eq_true rfl, Nat.le_of_ble_eq_true rfl⟩) rfl (Nat.le_of_ble_eq_true rfl) dX9_move_23 rfl ⟨Nat.le_of_ble_eq_true rfl, Nat.le_of_ble_eq_true rfl⟩ rfl (fun z_11 C_12 hp_23 => ?_)
      refine z_C hp_23.1 ?_
      refine z_top (0) hp_23.2 ?_
      refine z_C (va_uu _ _ _ _) ?_
      refine z_C (va_us ((va_up_ne _ _ (by decide)).trans hPa)).symm ?_
      refine z_C (va_us ((va_up_ne _ _ (by decide)).trans ((va_up_ne _ _ (by decide)).trans hN))).symm ?_
      refine z_C (va_ur1 (by decide)) ?_
      refine z_C (va_ur2 (by decide) (by decide)) ?_
      refine z_C (va_ur2 (by decide) (by decide)) ?_
      have hK : ¬ kMov f p0 t0 = 0 := by unfold kMov; (repeat' split) <;> omega
      exact z_iret K rfl dX9_move_26 ⟨by rw [if_neg hK, if_neg hK, if_neg hK], by rw [if_neg hK]⟩
set_option maxRecDepth 20000 in
theorem hin_X9_drop_X9 : ∀ w ∈ wsX90, w ∈ wsX9_drop := by decide +kernel
set_option maxHeartbeats 4000000 in
set_option maxRecDepth 100000 in
theorem m_X9_drop (l : Launch) (g : zG) (C : Nat → va_E) (p0 : Int) (k : Int) (ty : Int) (th : Int) (pt : Int) (fl : Int) (to : Int) (f : Int → Int) (past : Int → Int) (cap : Int) (hM : C 94 = .inr (9, [.ref (aD g 95), .ref (aD g 96), .ref (aD g 97), .int (iZ k), .ref (aD g 98), .int (iZ ty), .int (iZ th), .int (iZ pt), .int (iZ fl), .ref (aD g 99), .int (iZ to)])) (hN : C 95 = eI g 449 f) (hPa : C 97 = eI g 2694 past) (hk : 0 ≤ k ∧ k ≤ 6) (hw : WF f cap) (h_p0 : -2147483648 ≤ p0 ∧ p0 < 2147483648) : Met l yX9_drop wsX9_drop ({ frames := 5, cells := 0, slots := 0, locals := 112 } : Room) (zPre g C [.ref (aD g 94), .int (iZ p0)]) (zQi g (fun z C' => C' = va_up (va_up (va_up C 97 (eI g 2694 (if kPl f p0 = 0 then mSav f past k else past))) 94 (.inr (9, [.ref (aD g 95), .ref (aD g 96), .ref (aD g 97), .int (iZ (if kPl f p0 = 0 then mKp k + 1 else k)), .ref (aD g 98), .int (iZ ty), .int (iZ (kPl f p0)), .int (iZ pt), .int (iZ fl), .ref (aD g 99), .int (iZ to)]))) 95 (eI g 449 (if kPl f p0 = 0 then mOut f p0 else f)) ∧ z = if kPl f p0 = 0 then sAllLost (mOut f p0) - sAllLost f else 0)) 0 0 (zA g) := by
  refine z_enter RX9 rfl (by decide) rfl (Nat.le_of_ble_eq_true rfl) ?_
  intro p e s m args below meth c K harg
  refine z_sub (lv' := [(0, .ref (aD g 94)), (1, .int (iZ p0))]) [0, 1] rfl ?_
  have hn := hw.n
  have hx := hw.nx
  refine z_aload_n 1 K dX9_drop_0 rfl rfl 0 rfl ?_
  refine z_iconst 2 K dX9_drop_1 rfl ?_
  refine z_put (ty := .int) 5 K hin_X9_drop_X9 tyX9 tyX9_ok nmX9 94 (by decide) hM rfl 6 (by decide) (by decide +kernel : Cond.fieldLink RX9 25 "BriefBuilderModel" "thrown" "I" ∈ wsX9_drop) (fun _ h9 => h9) rfl (by decide +kernel) rfl rfl (Nat.le_of_ble_eq_true rfl) dX9_drop_2 rfl ?_
  show Z p l e (({ frames := 5, cells := 0, slots := 0, locals := 112 } : Room)) s m args below meth c (MQ below (zQi g (fun z C' => C' = va_up (va_up (va_up C 97 (eI g 2694 (if kPl f p0 = 0 then mSav f past k else past))) 94 (.inr (9, [.ref (aD g 95), .ref (aD g 96), .ref (aD g 97), .int (iZ (if kPl f p0 = 0 then mKp k + 1 else k)), .ref (aD g 98), .int (iZ ty), .int (iZ (kPl f p0)), .int (iZ pt), .int (iZ fl), .ref (aD g 99), .int (iZ to)]))) 95 (eI g 449 (if kPl f p0 = 0 then mOut f p0 else f)) ∧ z = if kPl f p0 = 0 then sAllLost (mOut f p0) - sAllLost f else 0)) args s 0 0 (zA g)) g _ _ _ (va_up C 94 (.inr (9, [.ref (aD g 95), .ref (aD g 96), .ref (aD g 97), .int (iZ k), .ref (aD g 98), .int (iZ ty), .int (iZ 0), .int (iZ pt), .int (iZ fl), .ref (aD g 99), .int (iZ to)]))) [(0, .ref (aD g 94)), (1, .int (iZ p0))] 5 []
  refine z_aload_n 6 K dX9_drop_5 rfl rfl 0 rfl ?_
  refine z_iload_n 7 K dX9_drop_6 rfl rfl 1 rfl ?_
  refine z_vVi (As := [.int (iZ p0)]) (rest := []) 10 K 94 (by decide) (va_up_eq _ 94 _) rfl rfl (m_X9_isPlace l g _ p0 k ty 0 pt fl to f (va_up_eq _ 94 _) ((va_up_ne _ _ (by decide)).trans hN) (by omega) (by omega)) (cwV 1 K.1.2.2.2.2 gX9_drop_X9_isPlace rfl rfl rfl (by decide +kernel) ⟨Nat.le_of_ble_eq_true rfl, Nat.le_of_ble_eq_true rfl⟩) rfl (Nat.le_of_ble_eq_true rfl) dX9_drop_7 rfl ⟨Nat.le_of_ble_eq_true rfl, Nat.le_of_ble_eq_true rfl⟩ rfl (fun z_1 C_2 hp_7 => ?_)
  refine z_C hp_7.1 ?_
  refine z_top (b2i (decide (0 ≤ p0 ∧ p0 ≤ f 1 - 1))) hp_7.2 ?_
  refine z_if_ne (tgt := 19) 13 K dX9_drop_10 rfl (by decide) (b2i_ir _) (fun c_10 => ?_) (fun c_10 => ?_)
  · have d_10 := b2i_decn.mp c_10
    refine z_aload_n 20 K dX9_drop_19 rfl rfl 0 rfl ?_
    refine z_vVv (As := []) (rest := []) 23 K 94 (by decide) (va_up_eq _ 94 _) rfl rfl (m_X9_saves l g _ k ty 0 pt fl to f past (va_up_eq _ 94 _) ((va_up_ne _ _ (by decide)).trans hN) ((va_up_ne _ _ (by decide)).trans hPa) (by omega)) (cwV 0 K.1.2.2.2.2 gX9_drop_X9_saves rfl rfl rfl (by decide +kernel) ⟨Nat.le_of_ble_eq_true rfl, Nat.le_of_ble_eq_true rfl⟩) rfl (Nat.le_of_ble_eq_true rfl) dX9_drop_20 rfl ⟨Nat.le_of_ble_eq_true rfl, Nat.le_of_ble_eq_true rfl⟩ rfl (fun C_4 hp_20 => ?_)
    refine z_C hp_20 ?_
    refine z_C (va_uu1 (by decide)) ?_
    refine z_aload_n 24 K dX9_drop_23 rfl rfl 0 rfl ?_
    refine z_get 27 K hin_X9_drop_X9 94 (by decide) (va_up_eq _ 94 _) rfl 0 (by decide) (by decide +kernel : Cond.fieldLink RX9 7 "BriefBuilderModel" "now" "[I" ∈ wsX9_drop) (fun _ h9 => h9) rfl dX9_drop_24 rfl ?_
    refine z_vSi (As := [.ref (aD g 95)]) (rest := []) 30 K (m_X9_allLost l g _ 95 f (by decide) ((va_up_ne _ _ (by decide)).trans ((va_up_ne _ _ (by decide)).trans hN)) hw.wr) (va_cwS 1 K.1.2.2.2.2 gX9_drop_X9_allLost rfl rfl rfl (by decide +kernel) ⟨Nat.le_of_ble_eq_true rfl, Nat.le_of_ble_eq_true rfl⟩) rfl (Nat.le_of_ble_eq_true rfl) dX9_drop_27 rfl ⟨Nat.le_of_ble_eq_true rfl, Nat.le_of_ble_eq_true rfl⟩ rfl (fun z_5 C_6 hp_27 => ?_)
    refine z_C hp_27.1 ?_
    refine z_top (sAllLost f) hp_27.2 ?_
    refine z_istore_n (lv' := [(2, .int (iZ (sAllLost f))), (0, .ref (aD g 94)), (1, .int (iZ p0))]) 31 K dX9_drop_30 rfl rfl (by decide) rfl ?_
    refine z_aload_n 32 K dX9_drop_31 rfl rfl 1 rfl ?_
    refine z_get 35 K hin_X9_drop_X9 94 (by decide) (va_up_eq _ 94 _) rfl 0 (by decide) (by decide +kernel : Cond.fieldLink RX9 7 "BriefBuilderModel" "now" "[I" ∈ wsX9_drop) (fun _ h9 => h9) rfl dX9_drop_32 rfl ?_
    refine z_iload_n 36 K dX9_drop_35 rfl rfl 2 rfl ?_
    refine z_vSv (As := [.ref (aD g 95), .int (iZ p0)]) (rest := []) 39 K (m_X9_goesOut l g _ 95 p0 f (by decide) ((va_up_ne _ _ (by decide)).trans ((va_up_ne _ _ (by decide)).trans hN)) (by omega) (by omega)) (va_cwS 2 K.1.2.2.2.2 gX9_drop_X9_goesOut rfl rfl rfl (by decide +kernel) ⟨Nat.le_of_ble_eq_true rfl, Nat.le_of_ble_eq_true rfl⟩) rfl (Nat.le_of_ble_eq_true rfl) dX9_drop_36 rfl ⟨Nat.le_of_ble_eq_true rfl, Nat.le_of_ble_eq_true rfl⟩ rfl (fun C_8 hp_36 => ?_)
    refine z_C hp_36 ?_
    refine z_aload_n 40 K dX9_drop_39 rfl rfl 1 rfl ?_
    refine z_get 43 K hin_X9_drop_X9 94 (by decide) ((va_up_ne _ _ (by decide)).trans (va_up_eq _ 94 _)) rfl 0 (by decide) (by decide +kernel : Cond.fieldLink RX9 7 "BriefBuilderModel" "now" "[I" ∈ wsX9_drop) (fun _ h9 => h9) rfl dX9_drop_40 rfl ?_
    refine z_vSi (As := [.ref (aD g 95)]) (rest := []) 46 K (m_X9_allLost l g _ 95 (mOut f p0) (by decide) (va_up_eq _ 95 _) (mOut_wr hw.wr (by omega))) (va_cwS 1 K.1.2.2.2.2 gX9_drop_X9_allLost rfl rfl rfl (by decide +kernel) ⟨Nat.le_of_ble_eq_true rfl, Nat.le_of_ble_eq_true rfl⟩) rfl (Nat.le_of_ble_eq_true rfl) dX9_drop_43 rfl ⟨Nat.le_of_ble_eq_true rfl, Nat.le_of_ble_eq_true rfl⟩ rfl (fun z_9 C_10 hp_43 => ?_)
    refine z_C hp_43.1 ?_
    refine z_top (sAllLost (mOut f p0)) hp_43.2 ?_
    refine z_iload_n 47 K dX9_drop_46 rfl rfl 0 rfl ?_
    refine z_isub 48 K dX9_drop_47 rfl ?_
    have hK : kPl f p0 = 0 := by unfold kPl; (repeat' split) <;> omega
    exact z_iret K rfl dX9_drop_48 ⟨by rw [hK] <;> rfl, by rw [hK] <;> rfl⟩
  · have d_10 := b2i_dec0.mp c_10
    refine z_aload_n 14 K dX9_drop_13 rfl rfl 0 rfl ?_
    refine z_iconst 15 K dX9_drop_14 rfl ?_
    refine z_top (kPl f p0) (by unfold kPl; (repeat' split) <;> omega) ?_
    refine z_vVi (As := [.int (iZ (kPl f p0))]) (rest := []) 18 K 94 (by decide) (va_up_eq _ 94 _) rfl rfl (m_X9_fails l g _ (kPl f p0) k ty 0 pt fl to (va_up_eq _ 94 _)) (cwV 1 K.1.2.2.2.2 gX9_drop_X9_fails rfl rfl rfl (by decide +kernel) ⟨Nat.le_of_ble_eq_true rfl, Nat.le_of_ble_eq_true rfl⟩) rfl (Nat.le_of_ble_eq_true rfl) dX9_drop_15 rfl ⟨Nat.le_of_ble_eq_true rfl, Nat.le_of_ble_eq_true rfl⟩ rfl (fun z_11 C_12 hp_15 => ?_)
    refine z_C hp_15.1 ?_
    refine z_top (0) hp_15.2 ?_
    refine z_C (va_uu _ _ _ _) ?_
    refine z_C (va_us ((va_up_ne _ _ (by decide)).trans hPa)).symm ?_
    refine z_C (va_us ((va_up_ne _ _ (by decide)).trans ((va_up_ne _ _ (by decide)).trans hN))).symm ?_
    refine z_C (va_ur1 (by decide)) ?_
    refine z_C (va_ur2 (by decide) (by decide)) ?_
    refine z_C (va_ur2 (by decide) (by decide)) ?_
    have hK : ¬ kPl f p0 = 0 := by unfold kPl; (repeat' split) <;> omega
    exact z_iret K rfl dX9_drop_18 ⟨by rw [if_neg hK, if_neg hK, if_neg hK], by rw [if_neg hK]⟩
set_option maxRecDepth 20000 in
theorem hin_X9_pages_X9 : ∀ w ∈ wsX90, w ∈ wsX9_pages := by decide +kernel
set_option maxHeartbeats 4000000 in
set_option maxRecDepth 100000 in
theorem m_X9_pages (l : Launch) (g : zG) (C : Nat → va_E) (p0 : Int) (y : Int) (k : Int) (ty : Int) (th : Int) (pt : Int) (fl : Int) (to : Int) (f : Int → Int) (past : Int → Int) (cap : Int) (hM : C 94 = .inr (9, [.ref (aD g 95), .ref (aD g 96), .ref (aD g 97), .int (iZ k), .ref (aD g 98), .int (iZ ty), .int (iZ th), .int (iZ pt), .int (iZ fl), .ref (aD g 99), .int (iZ to)])) (hN : C 95 = eI g 449 f) (hPa : C 97 = eI g 2694 past) (hk : 0 ≤ k ∧ k ≤ 6) (hw : WF f cap) (h_p0 : -2147483648 ≤ p0 ∧ p0 < 2147483648) (h_y : -2147483648 ≤ y ∧ y < 2147483648) : Met l yX9_pages wsX9_pages ({ frames := 2, cells := 0, slots := 0, locals := 45 } : Room) (zPre g C [.ref (aD g 94), .int (iZ p0), .int (iZ y)]) (zQi g (fun z C' => C' = va_up (va_up (va_up C 97 (eI g 2694 (if kPgs f p0 y = 0 then mSav f past k else past))) 94 (.inr (9, [.ref (aD g 95), .ref (aD g 96), .ref (aD g 97), .int (iZ (if kPgs f p0 y = 0 then mKp k + 1 else k)), .ref (aD g 98), .int (iZ ty), .int (iZ (kPgs f p0 y)), .int (iZ pt), .int (iZ fl), .ref (aD g 99), .int (iZ to)]))) 95 (eI g 449 (if kPgs f p0 y = 0 then zu f (2 * p0 + 4) y else f)) ∧ z = if kPgs f p0 y = 0 then f (2 * p0 + 4) else 0)) 0 0 (zA g) := by
  refine z_enter RX9 rfl (by decide) rfl (Nat.le_of_ble_eq_true rfl) ?_
  intro p e s m args below meth c K harg
  refine z_sub (lv' := [(0, .ref (aD g 94)), (1, .int (iZ p0)), (2, .int (iZ y))]) [0, 1, 2] rfl ?_
  have hn := hw.n
  have hx := hw.nx
  refine z_aload_n 1 K dX9_pages_0 rfl rfl 0 rfl ?_
  refine z_iconst 2 K dX9_pages_1 rfl ?_
  refine z_put (ty := .int) 5 K hin_X9_pages_X9 tyX9 tyX9_ok nmX9 94 (by decide) hM rfl 6 (by decide) (by decide +kernel : Cond.fieldLink RX9 25 "BriefBuilderModel" "thrown" "I" ∈ wsX9_pages) (fun _ h9 => h9) rfl (by decide +kernel) rfl rfl (Nat.le_of_ble_eq_true rfl) dX9_pages_2 rfl ?_
  show Z p l e (({ frames := 2, cells := 0, slots := 0, locals := 45 } : Room)) s m args below meth c (MQ below (zQi g (fun z C' => C' = va_up (va_up (va_up C 97 (eI g 2694 (if kPgs f p0 y = 0 then mSav f past k else past))) 94 (.inr (9, [.ref (aD g 95), .ref (aD g 96), .ref (aD g 97), .int (iZ (if kPgs f p0 y = 0 then mKp k + 1 else k)), .ref (aD g 98), .int (iZ ty), .int (iZ (kPgs f p0 y)), .int (iZ pt), .int (iZ fl), .ref (aD g 99), .int (iZ to)]))) 95 (eI g 449 (if kPgs f p0 y = 0 then zu f (2 * p0 + 4) y else f)) ∧ z = if kPgs f p0 y = 0 then f (2 * p0 + 4) else 0)) args s 0 0 (zA g)) g _ _ _ (va_up C 94 (.inr (9, [.ref (aD g 95), .ref (aD g 96), .ref (aD g 97), .int (iZ k), .ref (aD g 98), .int (iZ ty), .int (iZ 0), .int (iZ pt), .int (iZ fl), .ref (aD g 99), .int (iZ to)]))) [(0, .ref (aD g 94)), (1, .int (iZ p0)), (2, .int (iZ y))] 5 []
  refine z_aload_n 6 K dX9_pages_5 rfl rfl 0 rfl ?_
  refine z_iload_n 7 K dX9_pages_6 rfl rfl 1 rfl ?_
  refine z_vVi (As := [.int (iZ p0)]) (rest := []) 10 K 94 (by decide) (va_up_eq _ 94 _) rfl rfl (m_X9_isPlace l g _ p0 k ty 0 pt fl to f (va_up_eq _ 94 _) ((va_up_ne _ _ (by decide)).trans hN) (by omega) (by omega)) (cwV 1 K.1.2.2.2.2 gX9_pages_X9_isPlace rfl rfl rfl (by decide +kernel) ⟨Nat.le_of_ble_eq_true rfl, Nat.le_of_ble_eq_true rfl⟩) rfl (Nat.le_of_ble_eq_true rfl) dX9_pages_7 rfl ⟨Nat.le_of_ble_eq_true rfl, Nat.le_of_ble_eq_true rfl⟩ rfl (fun z_1 C_2 hp_7 => ?_)
  refine z_C hp_7.1 ?_
  refine z_top (b2i (decide (0 ≤ p0 ∧ p0 ≤ f 1 - 1))) hp_7.2 ?_
  refine z_if_ne (tgt := 19) 13 K dX9_pages_10 rfl (by decide) (b2i_ir _) (fun c_10 => ?_) (fun c_10 => ?_)
  · have d_10 := b2i_decn.mp c_10
    refine z_iload_n 20 K dX9_pages_19 rfl rfl 2 rfl ?_
    refine z_vSi (As := [.int (iZ y)]) (rest := []) 23 K (m_X9_arePages l g _ y (by omega)) (va_cwS 1 K.1.2.2.2.2 gX9_pages_X9_arePages rfl rfl rfl (by decide +kernel) ⟨Nat.le_of_ble_eq_true rfl, Nat.le_of_ble_eq_true rfl⟩) rfl (Nat.le_of_ble_eq_true rfl) dX9_pages_20 rfl ⟨Nat.le_of_ble_eq_true rfl, Nat.le_of_ble_eq_true rfl⟩ rfl (fun z_3 C_4 hp_20 => ?_)
    refine z_C hp_20.1 ?_
    refine z_top (b2i (decide (1 ≤ y ∧ y ≤ 60))) hp_20.2 ?_
    refine z_if_ne (tgt := 32) 26 K dX9_pages_23 rfl (by decide) (b2i_ir _) (fun c_23 => ?_) (fun c_23 => ?_)
    · have d_23 := b2i_decn.mp c_23
      refine z_aload_n 33 K dX9_pages_32 rfl rfl 0 rfl ?_
      refine z_vVv (As := []) (rest := []) 36 K 94 (by decide) (va_up_eq _ 94 _) rfl rfl (m_X9_saves l g _ k ty 0 pt fl to f past (va_up_eq _ 94 _) ((va_up_ne _ _ (by decide)).trans hN) ((va_up_ne _ _ (by decide)).trans hPa) (by omega)) (cwV 0 K.1.2.2.2.2 gX9_pages_X9_saves rfl rfl rfl (by decide +kernel) ⟨Nat.le_of_ble_eq_true rfl, Nat.le_of_ble_eq_true rfl⟩) rfl (Nat.le_of_ble_eq_true rfl) dX9_pages_33 rfl ⟨Nat.le_of_ble_eq_true rfl, Nat.le_of_ble_eq_true rfl⟩ rfl (fun C_6 hp_33 => ?_)
      refine z_C hp_33 ?_
      refine z_C (va_uu1 (by decide)) ?_
      refine z_aload_n 37 K dX9_pages_36 rfl rfl 0 rfl ?_
      refine z_iconst 38 K dX9_pages_37 rfl ?_
      refine z_iconst 39 K dX9_pages_38 rfl ?_
      refine z_iload_n 40 K dX9_pages_39 rfl rfl 1 rfl ?_
      refine z_imul 41 K dX9_pages_40 rfl ?_
      refine z_iadd 42 K dX9_pages_41 rfl ?_
      refine z_top (2 * p0 + 3) (by omega) ?_
      refine z_iconst 43 K dX9_pages_42 rfl ?_
      refine z_iadd 44 K dX9_pages_43 rfl ?_
      refine z_top (2 * p0 + 4) (by omega) ?_
      refine z_iload_n 45 K dX9_pages_44 rfl rfl 2 rfl ?_
      refine z_vVi (As := [.int (iZ (2 * p0 + 4)), .int (iZ y)]) (rest := []) 48 K 94 (by decide) (va_up_eq _ 94 _) rfl rfl (m_X9_changes l g _ (2 * p0 + 4) y (mKp k + 1) ty 0 pt fl to f (va_up_eq _ 94 _) ((va_up_ne _ _ (by decide)).trans ((va_up_ne _ _ (by decide)).trans hN)) (by omega)) (cwV 2 K.1.2.2.2.2 gX9_pages_X9_changes rfl rfl rfl (by decide +kernel) ⟨Nat.le_of_ble_eq_true rfl, Nat.le_of_ble_eq_true rfl⟩) rfl (Nat.le_of_ble_eq_true rfl) dX9_pages_45 rfl ⟨Nat.le_of_ble_eq_true rfl, Nat.le_of_ble_eq_true rfl⟩ rfl (fun z_7 C_8 hp_45 => ?_)
      refine z_C hp_45.1 ?_
      refine z_top (f (2 * p0 + 4)) hp_45.2 ?_
      have hK : kPgs f p0 y = 0 := by unfold kPgs; (repeat' split) <;> omega
      exact z_iret K rfl dX9_pages_48 ⟨by rw [hK] <;> rfl, by rw [hK] <;> rfl⟩
    · have d_23 := b2i_dec0.mp c_23
      refine z_aload_n 27 K dX9_pages_26 rfl rfl 0 rfl ?_
      refine z_iconst 28 K dX9_pages_27 rfl ?_
      refine z_top (kPgs f p0 y) (by unfold kPgs; (repeat' split) <;> omega) ?_
      refine z_vVi (As := [.int (iZ (kPgs f p0 y))]) (rest := []) 31 K 94 (by decide) (va_up_eq _ 94 _) rfl rfl (m_X9_fails l g _ (kPgs f p0 y) k ty 0 pt fl to (va_up_eq _ 94 _)) (cwV 1 K.1.2.2.2.2 gX9_pages_X9_fails rfl rfl rfl (by decide +kernel) ⟨Nat.le_of_ble_eq_true rfl, Nat.le_of_ble_eq_true rfl⟩) rfl (Nat.le_of_ble_eq_true rfl) dX9_pages_28 rfl ⟨Nat.le_of_ble_eq_true rfl, Nat.le_of_ble_eq_true rfl⟩ rfl (fun z_9 C_10 hp_28 => ?_)
      refine z_C hp_28.1 ?_
      refine z_top (0) hp_28.2 ?_
      refine z_C (va_uu _ _ _ _) ?_
      refine z_C (va_us ((va_up_ne _ _ (by decide)).trans hPa)).symm ?_
      refine z_C (va_us ((va_up_ne _ _ (by decide)).trans ((va_up_ne _ _ (by decide)).trans hN))).symm ?_
      refine z_C (va_ur1 (by decide)) ?_
      refine z_C (va_ur2 (by decide) (by decide)) ?_
      refine z_C (va_ur2 (by decide) (by decide)) ?_
      have hK : ¬ kPgs f p0 y = 0 := by unfold kPgs; (repeat' split) <;> omega
      exact z_iret K rfl dX9_pages_31 ⟨by rw [if_neg hK, if_neg hK, if_neg hK], by rw [if_neg hK]⟩
  · have d_10 := b2i_dec0.mp c_10
    refine z_aload_n 14 K dX9_pages_13 rfl rfl 0 rfl ?_
    refine z_iconst 15 K dX9_pages_14 rfl ?_
    refine z_top (kPgs f p0 y) (by unfold kPgs; (repeat' split) <;> omega) ?_
    refine z_vVi (As := [.int (iZ (kPgs f p0 y))]) (rest := []) 18 K 94 (by decide) (va_up_eq _ 94 _) rfl rfl (m_X9_fails l g _ (kPgs f p0 y) k ty 0 pt fl to (va_up_eq _ 94 _)) (cwV 1 K.1.2.2.2.2 gX9_pages_X9_fails rfl rfl rfl (by decide +kernel) ⟨Nat.le_of_ble_eq_true rfl, Nat.le_of_ble_eq_true rfl⟩) rfl (Nat.le_of_ble_eq_true rfl) dX9_pages_15 rfl ⟨Nat.le_of_ble_eq_true rfl, Nat.le_of_ble_eq_true rfl⟩ rfl (fun z_11 C_12 hp_15 => ?_)
    refine z_C hp_15.1 ?_
    refine z_top (0) hp_15.2 ?_
    refine z_C (va_uu _ _ _ _) ?_
    refine z_C (va_us ((va_up_ne _ _ (by decide)).trans hPa)).symm ?_
    refine z_C (va_us ((va_up_ne _ _ (by decide)).trans ((va_up_ne _ _ (by decide)).trans hN))).symm ?_
    refine z_C (va_ur1 (by decide)) ?_
    refine z_C (va_ur2 (by decide) (by decide)) ?_
    refine z_C (va_ur2 (by decide) (by decide)) ?_
    have hK : ¬ kPgs f p0 y = 0 := by unfold kPgs; (repeat' split) <;> omega
    exact z_iret K rfl dX9_pages_18 ⟨by rw [if_neg hK, if_neg hK, if_neg hK], by rw [if_neg hK]⟩
set_option maxRecDepth 20000 in
theorem hin_X9_join_X9 : ∀ w ∈ wsX90, w ∈ wsX9_join := by decide +kernel
set_option maxHeartbeats 4000000 in
set_option maxRecDepth 100000 in
theorem m_X9_join (l : Launch) (g : zG) (C : Nat → va_E) (p0 : Int) (k : Int) (ty : Int) (th : Int) (pt : Int) (fl : Int) (to : Int) (f : Int → Int) (past : Int → Int) (cap : Int) (hM : C 94 = .inr (9, [.ref (aD g 95), .ref (aD g 96), .ref (aD g 97), .int (iZ k), .ref (aD g 98), .int (iZ ty), .int (iZ th), .int (iZ pt), .int (iZ fl), .ref (aD g 99), .int (iZ to)])) (hN : C 95 = eI g 449 f) (hPa : C 97 = eI g 2694 past) (hk : 0 ≤ k ∧ k ≤ 6) (hw : WF f cap) (h_p0 : -2147483648 ≤ p0 ∧ p0 < 2147483648) : Met l yX9_join wsX9_join ({ frames := 2, cells := 0, slots := 0, locals := 48 } : Room) (zPre g C [.ref (aD g 94), .int (iZ p0)]) (zQi g (fun z C' => C' = va_up (va_up (va_up C 97 (eI g 2694 (if kJoi f p0 = 0 then mSav f past k else past))) 94 (.inr (9, [.ref (aD g 95), .ref (aD g 96), .ref (aD g 97), .int (iZ (if kJoi f p0 = 0 then mKp k + 1 else k)), .ref (aD g 98), .int (iZ ty), .int (iZ (kJoi f p0)), .int (iZ pt), .int (iZ fl), .ref (aD g 99), .int (iZ to)]))) 95 (eI g 449 (if kJoi f p0 = 0 then mJoin f p0 else f)) ∧ z = if kJoi f p0 = 0 then f (2 * p0 + 4) + f (2 * p0 + 6) else 0)) 0 0 (zA g) := by
  refine z_enter RX9 rfl (by decide) rfl (Nat.le_of_ble_eq_true rfl) ?_
  intro p e s m args below meth c K harg
  refine z_sub (lv' := [(0, .ref (aD g 94)), (1, .int (iZ p0))]) [0, 1] rfl ?_
  have hn := hw.n
  have hx := hw.nx
  refine z_aload_n 1 K dX9_join_0 rfl rfl 0 rfl ?_
  refine z_iconst 2 K dX9_join_1 rfl ?_
  refine z_put (ty := .int) 5 K hin_X9_join_X9 tyX9 tyX9_ok nmX9 94 (by decide) hM rfl 6 (by decide) (by decide +kernel : Cond.fieldLink RX9 25 "BriefBuilderModel" "thrown" "I" ∈ wsX9_join) (fun _ h9 => h9) rfl (by decide +kernel) rfl rfl (Nat.le_of_ble_eq_true rfl) dX9_join_2 rfl ?_
  show Z p l e (({ frames := 2, cells := 0, slots := 0, locals := 48 } : Room)) s m args below meth c (MQ below (zQi g (fun z C' => C' = va_up (va_up (va_up C 97 (eI g 2694 (if kJoi f p0 = 0 then mSav f past k else past))) 94 (.inr (9, [.ref (aD g 95), .ref (aD g 96), .ref (aD g 97), .int (iZ (if kJoi f p0 = 0 then mKp k + 1 else k)), .ref (aD g 98), .int (iZ ty), .int (iZ (kJoi f p0)), .int (iZ pt), .int (iZ fl), .ref (aD g 99), .int (iZ to)]))) 95 (eI g 449 (if kJoi f p0 = 0 then mJoin f p0 else f)) ∧ z = if kJoi f p0 = 0 then f (2 * p0 + 4) + f (2 * p0 + 6) else 0)) args s 0 0 (zA g)) g _ _ _ (va_up C 94 (.inr (9, [.ref (aD g 95), .ref (aD g 96), .ref (aD g 97), .int (iZ k), .ref (aD g 98), .int (iZ ty), .int (iZ 0), .int (iZ pt), .int (iZ fl), .ref (aD g 99), .int (iZ to)]))) [(0, .ref (aD g 94)), (1, .int (iZ p0))] 5 []
  refine z_iload_n 6 K dX9_join_5 rfl rfl 1 rfl ?_
  refine z_if_lt (tgt := 21) 9 K dX9_join_6 rfl (by decide) (by omega) (fun c_6 => ?_) (fun c_6 => ?_)
  · skip
    refine z_aload_n 22 K dX9_join_21 rfl rfl 0 rfl ?_
    refine z_iconst 23 K dX9_join_22 rfl ?_
    refine z_top (kJoi f p0) (by unfold kJoi; (repeat' split) <;> omega) ?_
    refine z_vVi (As := [.int (iZ (kJoi f p0))]) (rest := []) 26 K 94 (by decide) (va_up_eq _ 94 _) rfl rfl (m_X9_fails l g _ (kJoi f p0) k ty 0 pt fl to (va_up_eq _ 94 _)) (cwV 1 K.1.2.2.2.2 gX9_join_X9_fails rfl rfl rfl (by decide +kernel) ⟨Nat.le_of_ble_eq_true rfl, Nat.le_of_ble_eq_true rfl⟩) rfl (Nat.le_of_ble_eq_true rfl) dX9_join_23 rfl ⟨Nat.le_of_ble_eq_true rfl, Nat.le_of_ble_eq_true rfl⟩ rfl (fun z_1 C_2 hp_23 => ?_)
    refine z_C hp_23.1 ?_
    refine z_top (0) hp_23.2 ?_
    refine z_C (va_uu _ _ _ _) ?_
    refine z_C (va_us ((va_up_ne _ _ (by decide)).trans hPa)).symm ?_
    refine z_C (va_us ((va_up_ne _ _ (by decide)).trans ((va_up_ne _ _ (by decide)).trans hN))).symm ?_
    refine z_C (va_ur1 (by decide)) ?_
    refine z_C (va_ur2 (by decide) (by decide)) ?_
    refine z_C (va_ur2 (by decide) (by decide)) ?_
    have hK : ¬ kJoi f p0 = 0 := by unfold kJoi; (repeat' split) <;> omega
    exact z_iret K rfl dX9_join_26 ⟨by rw [if_neg hK, if_neg hK, if_neg hK], by rw [if_neg hK]⟩
  · skip
    refine z_iload_n 10 K dX9_join_9 rfl rfl 1 rfl ?_
    refine z_aload_n 11 K dX9_join_10 rfl rfl 0 rfl ?_
    refine z_get 14 K hin_X9_join_X9 94 (by decide) (va_up_eq _ 94 _) rfl 0 (by decide) (by decide +kernel : Cond.fieldLink RX9 7 "BriefBuilderModel" "now" "[I" ∈ wsX9_join) (fun _ h9 => h9) rfl dX9_join_11 rfl ?_
    refine z_iconst 15 K dX9_join_14 rfl ?_
    refine z_iald (f := f) 16 K 95 (by decide) ((va_up_ne _ _ (by decide)).trans hN) (by decide) (by decide) (by decide) dX9_join_15 rfl ?_
    have hr_15 := hw.rg 1
    refine z_iconst 17 K dX9_join_16 rfl ?_
    refine z_isub 18 K dX9_join_17 rfl ?_
    refine z_icmp_le (tgt := 27) 21 K dX9_join_18 rfl (by decide) (by omega) (by omega) (fun c_18 => ?_) (fun c_18 => ?_)
    · skip
      refine z_aload_n 28 K dX9_join_27 rfl rfl 0 rfl ?_
      refine z_get 31 K hin_X9_join_X9 94 (by decide) (va_up_eq _ 94 _) rfl 0 (by decide) (by decide +kernel : Cond.fieldLink RX9 7 "BriefBuilderModel" "now" "[I" ∈ wsX9_join) (fun _ h9 => h9) rfl dX9_join_28 rfl ?_
      refine z_iload_n 32 K dX9_join_31 rfl rfl 1 rfl ?_
      refine z_vSi (As := [.ref (aD g 95), .int (iZ p0)]) (rest := []) 35 K (m_X9_pagesOf l g _ 95 p0 f (by decide) ((va_up_ne _ _ (by decide)).trans hN) (by omega)) (va_cwS 2 K.1.2.2.2.2 gX9_join_X9_pagesOf rfl rfl rfl (by decide +kernel) ⟨Nat.le_of_ble_eq_true rfl, Nat.le_of_ble_eq_true rfl⟩) rfl (Nat.le_of_ble_eq_true rfl) dX9_join_32 rfl ⟨Nat.le_of_ble_eq_true rfl, Nat.le_of_ble_eq_true rfl⟩ rfl (fun z_3 C_4 hp_32 => ?_)
      refine z_C hp_32.1 ?_
      refine z_top (f (2 * p0 + 4)) hp_32.2 ?_
      have hx32 := hw.ex p0 (by omega) (by omega)
      refine z_aload_n 36 K dX9_join_35 rfl rfl 0 rfl ?_
      refine z_get 39 K hin_X9_join_X9 94 (by decide) (va_up_eq _ 94 _) rfl 0 (by decide) (by decide +kernel : Cond.fieldLink RX9 7 "BriefBuilderModel" "now" "[I" ∈ wsX9_join) (fun _ h9 => h9) rfl dX9_join_36 rfl ?_
      refine z_iload_n 40 K dX9_join_39 rfl rfl 1 rfl ?_
      refine z_iconst 41 K dX9_join_40 rfl ?_
      refine z_iadd 42 K dX9_join_41 rfl ?_
      refine z_vSi (As := [.ref (aD g 95), .int (iZ (p0 + 1))]) (rest := [.int (iZ (f (2 * p0 + 4)))]) 45 K (m_X9_pagesOf l g _ 95 (p0 + 1) f (by decide) ((va_up_ne _ _ (by decide)).trans hN) (by omega)) (va_cwS 2 K.1.2.2.2.2 gX9_join_X9_pagesOf rfl rfl rfl (by decide +kernel) ⟨Nat.le_of_ble_eq_true rfl, Nat.le_of_ble_eq_true rfl⟩) rfl (Nat.le_of_ble_eq_true rfl) dX9_join_42 rfl ⟨Nat.le_of_ble_eq_true rfl, Nat.le_of_ble_eq_true rfl⟩ rfl (fun z_5 C_6 hp_42 => ?_)
      refine z_C hp_42.1 ?_
      refine z_top (f (2 * p0 + 6)) (hp_42.2.trans (by rw [show (2 * (p0 + 1) + 4 : Int) = 2 * p0 + 6 by omega])) ?_
      have hx42 := hw.ex (p0 + 1) (by omega) (by omega)
      rw [show 2 * (p0 + 1) + 4 = 2 * p0 + 6 by omega] at hx42
      refine z_iadd 46 K dX9_join_45 rfl ?_
      refine z_top (f (2 * p0 + 4) + f (2 * p0 + 6)) (by omega) ?_
      refine z_istore_n (lv' := [(2, .int (iZ (f (2 * p0 + 4) + f (2 * p0 + 6)))), (0, .ref (aD g 94)), (1, .int (iZ p0))]) 47 K dX9_join_46 rfl rfl (by decide) rfl ?_
      refine z_iload_n 48 K dX9_join_47 rfl rfl 0 rfl ?_
      refine z_bipush 50 K dX9_join_48 rfl rfl ?_
      refine z_icmp_le (tgt := 59) 53 K dX9_join_50 rfl (by decide) (by omega) (by decide) (fun c_50 => ?_) (fun c_50 => ?_)
      · skip
        refine z_aload_n 60 K dX9_join_59 rfl rfl 1 rfl ?_
        refine z_vVv (As := []) (rest := []) 63 K 94 (by decide) (va_up_eq _ 94 _) rfl rfl (m_X9_saves l g _ k ty 0 pt fl to f past (va_up_eq _ 94 _) ((va_up_ne _ _ (by decide)).trans hN) ((va_up_ne _ _ (by decide)).trans hPa) (by omega)) (cwV 0 K.1.2.2.2.2 gX9_join_X9_saves rfl rfl rfl (by decide +kernel) ⟨Nat.le_of_ble_eq_true rfl, Nat.le_of_ble_eq_true rfl⟩) rfl (Nat.le_of_ble_eq_true rfl) dX9_join_60 rfl ⟨Nat.le_of_ble_eq_true rfl, Nat.le_of_ble_eq_true rfl⟩ rfl (fun C_8 hp_60 => ?_)
        refine z_C hp_60 ?_
        refine z_C (va_uu1 (by decide)) ?_
        refine z_aload_n 64 K dX9_join_63 rfl rfl 1 rfl ?_
        refine z_get 67 K hin_X9_join_X9 94 (by decide) (va_up_eq _ 94 _) rfl 0 (by decide) (by decide +kernel : Cond.fieldLink RX9 7 "BriefBuilderModel" "now" "[I" ∈ wsX9_join) (fun _ h9 => h9) rfl dX9_join_64 rfl ?_
        refine z_aload_n 68 K dX9_join_67 rfl rfl 1 rfl ?_
        refine z_get 71 K hin_X9_join_X9 94 (by decide) (va_up_eq _ 94 _) rfl 0 (by decide) (by decide +kernel : Cond.fieldLink RX9 7 "BriefBuilderModel" "now" "[I" ∈ wsX9_join) (fun _ h9 => h9) rfl dX9_join_68 rfl ?_
        refine z_iload_n 72 K dX9_join_71 rfl rfl 2 rfl ?_
        refine z_iconst 73 K dX9_join_72 rfl ?_
        refine z_iadd 74 K dX9_join_73 rfl ?_
        refine z_vSi (As := [.ref (aD g 95), .int (iZ (p0 + 1))]) (rest := [.ref (aD g 95)]) 77 K (m_X9_number l g _ 95 (p0 + 1) f (by decide) ((va_up_ne _ _ (by decide)).trans ((va_up_ne _ _ (by decide)).trans hN)) (by omega)) (va_cwS 2 K.1.2.2.2.2 gX9_join_X9_number rfl rfl rfl (by decide +kernel) ⟨Nat.le_of_ble_eq_true rfl, Nat.le_of_ble_eq_true rfl⟩) rfl (Nat.le_of_ble_eq_true rfl) dX9_join_74 rfl ⟨Nat.le_of_ble_eq_true rfl, Nat.le_of_ble_eq_true rfl⟩ rfl (fun z_9 C_10 hp_74 => ?_)
        refine z_C hp_74.1 ?_
        refine z_top (f (2 * p0 + 5)) (hp_74.2.trans (by rw [show (2 * (p0 + 1) + 3 : Int) = 2 * p0 + 5 by omega])) ?_
        refine z_aload_n 78 K dX9_join_77 rfl rfl 1 rfl ?_
        refine z_get 81 K hin_X9_join_X9 94 (by decide) (va_up_eq _ 94 _) rfl 0 (by decide) (by decide +kernel : Cond.fieldLink RX9 7 "BriefBuilderModel" "now" "[I" ∈ wsX9_join) (fun _ h9 => h9) rfl dX9_join_78 rfl ?_
        refine z_iload_n 82 K dX9_join_81 rfl rfl 2 rfl ?_
        refine z_vSi (As := [.ref (aD g 95), .int (iZ p0)]) (rest := [.int (iZ (f (2 * p0 + 5))), .ref (aD g 95)]) 85 K (m_X9_number l g _ 95 p0 f (by decide) ((va_up_ne _ _ (by decide)).trans ((va_up_ne _ _ (by decide)).trans hN)) (by omega)) (va_cwS 2 K.1.2.2.2.2 gX9_join_X9_number rfl rfl rfl (by decide +kernel) ⟨Nat.le_of_ble_eq_true rfl, Nat.le_of_ble_eq_true rfl⟩) rfl (Nat.le_of_ble_eq_true rfl) dX9_join_82 rfl ⟨Nat.le_of_ble_eq_true rfl, Nat.le_of_ble_eq_true rfl⟩ rfl (fun z_11 C_12 hp_82 => ?_)
        refine z_C hp_82.1 ?_
        refine z_top (f (2 * p0 + 3)) hp_82.2 ?_
        refine z_iconst 86 K dX9_join_85 rfl ?_
        refine z_aload_n 87 K dX9_join_86 rfl rfl 1 rfl ?_
        refine z_get 90 K hin_X9_join_X9 94 (by decide) (va_up_eq _ 94 _) rfl 0 (by decide) (by decide +kernel : Cond.fieldLink RX9 7 "BriefBuilderModel" "now" "[I" ∈ wsX9_join) (fun _ h9 => h9) rfl dX9_join_87 rfl ?_
        refine z_iload_n 91 K dX9_join_90 rfl rfl 2 rfl ?_
        refine z_vSi (As := [.ref (aD g 95), .int (iZ p0)]) (rest := [.int (iZ 1), .int (iZ (f (2 * p0 + 3))), .int (iZ (f (2 * p0 + 5))), .ref (aD g 95)]) 94 K (m_X9_pagesOf l g _ 95 p0 f (by decide) ((va_up_ne _ _ (by decide)).trans ((va_up_ne _ _ (by decide)).trans hN)) (by omega)) (va_cwS 2 K.1.2.2.2.2 gX9_join_X9_pagesOf rfl rfl rfl (by decide +kernel) ⟨Nat.le_of_ble_eq_true rfl, Nat.le_of_ble_eq_true rfl⟩) rfl (Nat.le_of_ble_eq_true rfl) dX9_join_91 rfl ⟨Nat.le_of_ble_eq_true rfl, Nat.le_of_ble_eq_true rfl⟩ rfl (fun z_13 C_14 hp_91 => ?_)
        refine z_C hp_91.1 ?_
        refine z_top (f (2 * p0 + 4)) hp_91.2 ?_
        refine z_vSv (As := [.ref (aD g 95), .int (iZ (f (2 * p0 + 5))), .int (iZ (f (2 * p0 + 3))), .int (iZ 1), .int (iZ (f (2 * p0 + 4)))]) (rest := []) 97 K (m_X9_follow l g _ 95 (f (2 * p0 + 5)) (f (2 * p0 + 3)) 1 (f (2 * p0 + 4)) f (by decide) ((va_up_ne _ _ (by decide)).trans ((va_up_ne _ _ (by decide)).trans hN)) hw.rg (fun a h0 h1 => (by have := hw.pa a h0 h1; omega)) (hw.rg _) (by omega) (by omega) (fun a b h0 h1 h2 h3 => (by have := hw.ci a b h0 h1 h2 h3; omega))) (va_cwS 5 K.1.2.2.2.2 gX9_join_X9_follow rfl rfl rfl (by decide +kernel) ⟨Nat.le_of_ble_eq_true rfl, Nat.le_of_ble_eq_true rfl⟩) rfl (Nat.le_of_ble_eq_true rfl) dX9_join_94 rfl ⟨Nat.le_of_ble_eq_true rfl, Nat.le_of_ble_eq_true rfl⟩ rfl (fun C_16 hp_94 => ?_)
        refine z_C hp_94 ?_
        refine z_aload_n 98 K dX9_join_97 rfl rfl 1 rfl ?_
        refine z_get 101 K hin_X9_join_X9 94 (by decide) ((va_up_ne _ _ (by decide)).trans (va_up_eq _ 94 _)) rfl 0 (by decide) (by decide +kernel : Cond.fieldLink RX9 7 "BriefBuilderModel" "now" "[I" ∈ wsX9_join) (fun _ h9 => h9) rfl dX9_join_98 rfl ?_
        refine z_iload_n 102 K dX9_join_101 rfl rfl 2 rfl ?_
        refine z_iconst 103 K dX9_join_102 rfl ?_
        refine z_iadd 104 K dX9_join_103 rfl ?_
        have em : mFol f (f (2 * p0 + 5)) (f (2 * p0 + 3)) 1 (f (2 * p0 + 4)) 1 = f 1 := mFol_out (by omega)
        refine z_vSv (As := [.ref (aD g 95), .int (iZ (p0 + 1))]) (rest := []) 107 K (m_X9_goesOut l g _ 95 (p0 + 1) (mFol f (f (2 * p0 + 5)) (f (2 * p0 + 3)) 1 (f (2 * p0 + 4))) (by decide) (va_up_eq _ 95 _) (by omega) (by omega)) (va_cwS 2 K.1.2.2.2.2 gX9_join_X9_goesOut rfl rfl rfl (by decide +kernel) ⟨Nat.le_of_ble_eq_true rfl, Nat.le_of_ble_eq_true rfl⟩) rfl (Nat.le_of_ble_eq_true rfl) dX9_join_104 rfl ⟨Nat.le_of_ble_eq_true rfl, Nat.le_of_ble_eq_true rfl⟩ rfl (fun C_18 hp_104 => ?_)
        refine z_C hp_104 ?_
        refine z_C (va_uu _ _ _ _) ?_
        refine z_aload_n 108 K dX9_join_107 rfl rfl 1 rfl ?_
        refine z_get 111 K hin_X9_join_X9 94 (by decide) ((va_up_ne _ _ (by decide)).trans (va_up_eq _ 94 _)) rfl 0 (by decide) (by decide +kernel : Cond.fieldLink RX9 7 "BriefBuilderModel" "now" "[I" ∈ wsX9_join) (fun _ h9 => h9) rfl dX9_join_108 rfl ?_
        refine z_iconst 112 K dX9_join_111 rfl ?_
        refine z_iconst 113 K dX9_join_112 rfl ?_
        refine z_iload_n 114 K dX9_join_113 rfl rfl 2 rfl ?_
        refine z_imul 115 K dX9_join_114 rfl ?_
        refine z_iadd 116 K dX9_join_115 rfl ?_
        refine z_top (2 * p0 + 3) (by omega) ?_
        refine z_iconst 117 K dX9_join_116 rfl ?_
        refine z_iadd 118 K dX9_join_117 rfl ?_
        refine z_top (2 * p0 + 4) (by omega) ?_
        refine z_iload_n 119 K dX9_join_118 rfl rfl 0 rfl ?_
        refine z_iast (f := (mOut (mFol f (f (2 * p0 + 5)) (f (2 * p0 + 3)) 1 (f (2 * p0 + 4))) (p0 + 1))) 120 K 95 (by decide) (va_up_eq _ 95 _) (by omega) (by omega) (by decide) dX9_join_119 rfl ?_
        refine z_C (va_uu _ _ _ _) ?_
        refine z_iload_n 121 K dX9_join_120 rfl rfl 0 rfl ?_
        have hK : kJoi f p0 = 0 := by unfold kJoi; (repeat' split) <;> omega
        exact z_iret K rfl dX9_join_121 ⟨by rw [hK] <;> rfl, by rw [hK] <;> rfl⟩
      · skip
        refine z_aload_n 54 K dX9_join_53 rfl rfl 1 rfl ?_
        refine z_iconst 55 K dX9_join_54 rfl ?_
        refine z_top (kJoi f p0) (by unfold kJoi; (repeat' split) <;> omega) ?_
        refine z_vVi (As := [.int (iZ (kJoi f p0))]) (rest := []) 58 K 94 (by decide) (va_up_eq _ 94 _) rfl rfl (m_X9_fails l g _ (kJoi f p0) k ty 0 pt fl to (va_up_eq _ 94 _)) (cwV 1 K.1.2.2.2.2 gX9_join_X9_fails rfl rfl rfl (by decide +kernel) ⟨Nat.le_of_ble_eq_true rfl, Nat.le_of_ble_eq_true rfl⟩) rfl (Nat.le_of_ble_eq_true rfl) dX9_join_55 rfl ⟨Nat.le_of_ble_eq_true rfl, Nat.le_of_ble_eq_true rfl⟩ rfl (fun z_19 C_20 hp_55 => ?_)
        refine z_C hp_55.1 ?_
        refine z_top (0) hp_55.2 ?_
        refine z_C (va_uu _ _ _ _) ?_
        refine z_C (va_us ((va_up_ne _ _ (by decide)).trans hPa)).symm ?_
        refine z_C (va_us ((va_up_ne _ _ (by decide)).trans ((va_up_ne _ _ (by decide)).trans hN))).symm ?_
        refine z_C (va_ur1 (by decide)) ?_
        refine z_C (va_ur2 (by decide) (by decide)) ?_
        refine z_C (va_ur2 (by decide) (by decide)) ?_
        have hK : ¬ kJoi f p0 = 0 := by unfold kJoi; (repeat' split) <;> omega
        exact z_iret K rfl dX9_join_58 ⟨by rw [if_neg hK, if_neg hK, if_neg hK], by rw [if_neg hK]⟩
    · skip
      refine z_aload_n 22 K dX9_join_21 rfl rfl 0 rfl ?_
      refine z_iconst 23 K dX9_join_22 rfl ?_
      refine z_top (kJoi f p0) (by unfold kJoi; (repeat' split) <;> omega) ?_
      refine z_vVi (As := [.int (iZ (kJoi f p0))]) (rest := []) 26 K 94 (by decide) (va_up_eq _ 94 _) rfl rfl (m_X9_fails l g _ (kJoi f p0) k ty 0 pt fl to (va_up_eq _ 94 _)) (cwV 1 K.1.2.2.2.2 gX9_join_X9_fails rfl rfl rfl (by decide +kernel) ⟨Nat.le_of_ble_eq_true rfl, Nat.le_of_ble_eq_true rfl⟩) rfl (Nat.le_of_ble_eq_true rfl) dX9_join_23 rfl ⟨Nat.le_of_ble_eq_true rfl, Nat.le_of_ble_eq_true rfl⟩ rfl (fun z_21 C_22 hp_23 => ?_)
      refine z_C hp_23.1 ?_
      refine z_top (0) hp_23.2 ?_
      refine z_C (va_uu _ _ _ _) ?_
      refine z_C (va_us ((va_up_ne _ _ (by decide)).trans hPa)).symm ?_
      refine z_C (va_us ((va_up_ne _ _ (by decide)).trans ((va_up_ne _ _ (by decide)).trans hN))).symm ?_
      refine z_C (va_ur1 (by decide)) ?_
      refine z_C (va_ur2 (by decide) (by decide)) ?_
      refine z_C (va_ur2 (by decide) (by decide)) ?_
      have hK : ¬ kJoi f p0 = 0 := by unfold kJoi; (repeat' split) <;> omega
      exact z_iret K rfl dX9_join_26 ⟨by rw [if_neg hK, if_neg hK, if_neg hK], by rw [if_neg hK]⟩
set_option maxRecDepth 20000 in
theorem hin_X9_split_X9 : ∀ w ∈ wsX90, w ∈ wsX9_split := by decide +kernel
set_option maxHeartbeats 4000000 in
set_option maxRecDepth 100000 in
theorem m_X9_split (l : Launch) (g : zG) (C : Nat → va_E) (p0 : Int) (y : Int) (k : Int) (ty : Int) (th : Int) (pt : Int) (fl : Int) (to : Int) (f : Int → Int) (past : Int → Int) (cap : Int) (hM : C 94 = .inr (9, [.ref (aD g 95), .ref (aD g 96), .ref (aD g 97), .int (iZ k), .ref (aD g 98), .int (iZ ty), .int (iZ th), .int (iZ pt), .int (iZ fl), .ref (aD g 99), .int (iZ to)])) (hN : C 95 = eI g 449 f) (hPa : C 97 = eI g 2694 past) (hk : 0 ≤ k ∧ k ≤ 6) (hw : WF f cap) (h_p0 : -2147483648 ≤ p0 ∧ p0 < 2147483648) (h_y : -2147483648 ≤ y ∧ y < 2147483648) : Met l yX9_split wsX9_split ({ frames := 2, cells := 0, slots := 0, locals := 48 } : Room) (zPre g C [.ref (aD g 94), .int (iZ p0), .int (iZ y)]) (zQi g (fun z C' => C' = va_up (va_up (va_up C 97 (eI g 2694 (if kSpl f p0 y = 0 then mSav f past k else past))) 94 (.inr (9, [.ref (aD g 95), .ref (aD g 96), .ref (aD g 97), .int (iZ (if kSpl f p0 y = 0 then mKp k + 1 else k)), .ref (aD g 98), .int (iZ ty), .int (iZ (kSpl f p0 y)), .int (iZ pt), .int (iZ fl), .ref (aD g 99), .int (iZ to)]))) 95 (eI g 449 (if kSpl f p0 y = 0 then mSplit f p0 y else f)) ∧ z = if kSpl f p0 y = 0 then f 2 else 0)) 0 0 (zA g) := by
  refine z_enter RX9 rfl (by decide) rfl (Nat.le_of_ble_eq_true rfl) ?_
  intro p e s m args below meth c K harg
  refine z_sub (lv' := [(0, .ref (aD g 94)), (1, .int (iZ p0)), (2, .int (iZ y))]) [0, 1, 2] rfl ?_
  have hn := hw.n
  have hx := hw.nx
  refine z_aload_n 1 K dX9_split_0 rfl rfl 0 rfl ?_
  refine z_iconst 2 K dX9_split_1 rfl ?_
  refine z_put (ty := .int) 5 K hin_X9_split_X9 tyX9 tyX9_ok nmX9 94 (by decide) hM rfl 6 (by decide) (by decide +kernel : Cond.fieldLink RX9 25 "BriefBuilderModel" "thrown" "I" ∈ wsX9_split) (fun _ h9 => h9) rfl (by decide +kernel) rfl rfl (Nat.le_of_ble_eq_true rfl) dX9_split_2 rfl ?_
  show Z p l e (({ frames := 2, cells := 0, slots := 0, locals := 48 } : Room)) s m args below meth c (MQ below (zQi g (fun z C' => C' = va_up (va_up (va_up C 97 (eI g 2694 (if kSpl f p0 y = 0 then mSav f past k else past))) 94 (.inr (9, [.ref (aD g 95), .ref (aD g 96), .ref (aD g 97), .int (iZ (if kSpl f p0 y = 0 then mKp k + 1 else k)), .ref (aD g 98), .int (iZ ty), .int (iZ (kSpl f p0 y)), .int (iZ pt), .int (iZ fl), .ref (aD g 99), .int (iZ to)]))) 95 (eI g 449 (if kSpl f p0 y = 0 then mSplit f p0 y else f)) ∧ z = if kSpl f p0 y = 0 then f 2 else 0)) args s 0 0 (zA g)) g _ _ _ (va_up C 94 (.inr (9, [.ref (aD g 95), .ref (aD g 96), .ref (aD g 97), .int (iZ k), .ref (aD g 98), .int (iZ ty), .int (iZ 0), .int (iZ pt), .int (iZ fl), .ref (aD g 99), .int (iZ to)]))) [(0, .ref (aD g 94)), (1, .int (iZ p0)), (2, .int (iZ y))] 5 []
  refine z_aload_n 6 K dX9_split_5 rfl rfl 0 rfl ?_
  refine z_iload_n 7 K dX9_split_6 rfl rfl 1 rfl ?_
  refine z_vVi (As := [.int (iZ p0)]) (rest := []) 10 K 94 (by decide) (va_up_eq _ 94 _) rfl rfl (m_X9_isPlace l g _ p0 k ty 0 pt fl to f (va_up_eq _ 94 _) ((va_up_ne _ _ (by decide)).trans hN) (by omega) (by omega)) (cwV 1 K.1.2.2.2.2 gX9_split_X9_isPlace rfl rfl rfl (by decide +kernel) ⟨Nat.le_of_ble_eq_true rfl, Nat.le_of_ble_eq_true rfl⟩) rfl (Nat.le_of_ble_eq_true rfl) dX9_split_7 rfl ⟨Nat.le_of_ble_eq_true rfl, Nat.le_of_ble_eq_true rfl⟩ rfl (fun z_1 C_2 hp_7 => ?_)
  refine z_C hp_7.1 ?_
  refine z_top (b2i (decide (0 ≤ p0 ∧ p0 ≤ f 1 - 1))) hp_7.2 ?_
  refine z_if_ne (tgt := 19) 13 K dX9_split_10 rfl (by decide) (b2i_ir _) (fun c_10 => ?_) (fun c_10 => ?_)
  · have d_10 := b2i_decn.mp c_10
    refine z_iload_n 20 K dX9_split_19 rfl rfl 2 rfl ?_
    refine z_iconst 21 K dX9_split_20 rfl ?_
    refine z_aload_n 22 K dX9_split_21 rfl rfl 0 rfl ?_
    refine z_get 25 K hin_X9_split_X9 94 (by decide) (va_up_eq _ 94 _) rfl 0 (by decide) (by decide +kernel : Cond.fieldLink RX9 7 "BriefBuilderModel" "now" "[I" ∈ wsX9_split) (fun _ h9 => h9) rfl dX9_split_22 rfl ?_
    refine z_iload_n 26 K dX9_split_25 rfl rfl 1 rfl ?_
    refine z_vSi (As := [.ref (aD g 95), .int (iZ p0)]) (rest := [.int (iZ 1), .int (iZ y)]) 29 K (m_X9_pagesOf l g _ 95 p0 f (by decide) ((va_up_ne _ _ (by decide)).trans hN) (by omega)) (va_cwS 2 K.1.2.2.2.2 gX9_split_X9_pagesOf rfl rfl rfl (by decide +kernel) ⟨Nat.le_of_ble_eq_true rfl, Nat.le_of_ble_eq_true rfl⟩) rfl (Nat.le_of_ble_eq_true rfl) dX9_split_26 rfl ⟨Nat.le_of_ble_eq_true rfl, Nat.le_of_ble_eq_true rfl⟩ rfl (fun z_3 C_4 hp_26 => ?_)
    refine z_C hp_26.1 ?_
    refine z_top (f (2 * p0 + 4)) hp_26.2 ?_
    have hx26 := hw.ex p0 (by omega) (by omega)
    refine z_iconst 30 K dX9_split_29 rfl ?_
    refine z_isub 31 K dX9_split_30 rfl ?_
    refine z_vSi (As := [.int (iZ y), .int (iZ 1), .int (iZ (f (2 * p0 + 4) - 1))]) (rest := []) 34 K (m_X9_in l g _ y 1 (f (2 * p0 + 4) - 1) (by omega) (by omega) (by omega)) (va_cwS 3 K.1.2.2.2.2 gX9_split_X9_in rfl rfl rfl (by decide +kernel) ⟨Nat.le_of_ble_eq_true rfl, Nat.le_of_ble_eq_true rfl⟩) rfl (Nat.le_of_ble_eq_true rfl) dX9_split_31 rfl ⟨Nat.le_of_ble_eq_true rfl, Nat.le_of_ble_eq_true rfl⟩ rfl (fun z_5 C_6 hp_31 => ?_)
    refine z_C hp_31.1 ?_
    refine z_top (b2i (decide (1 ≤ y ∧ y ≤ (f (2 * p0 + 4) - 1)))) hp_31.2 ?_
    refine z_if_ne (tgt := 43) 37 K dX9_split_34 rfl (by decide) (b2i_ir _) (fun c_34 => ?_) (fun c_34 => ?_)
    · have d_34 := b2i_decn.mp c_34
      refine z_aload_n 44 K dX9_split_43 rfl rfl 0 rfl ?_
      refine z_get 47 K hin_X9_split_X9 94 (by decide) (va_up_eq _ 94 _) rfl 0 (by decide) (by decide +kernel : Cond.fieldLink RX9 7 "BriefBuilderModel" "now" "[I" ∈ wsX9_split) (fun _ h9 => h9) rfl dX9_split_44 rfl ?_
      refine z_iconst 48 K dX9_split_47 rfl ?_
      refine z_iald (f := f) 49 K 95 (by decide) ((va_up_ne _ _ (by decide)).trans hN) (by decide) (by decide) (by decide) dX9_split_48 rfl ?_
      have hr_48 := hw.rg 1
      refine z_bipush 51 K dX9_split_49 rfl rfl ?_
      refine z_icmp_ne (tgt := 60) 54 K dX9_split_51 rfl (by decide) (by omega) (by decide) (fun c_51 => ?_) (fun c_51 => ?_)
      · skip
        refine z_aload_n 61 K dX9_split_60 rfl rfl 0 rfl ?_
        refine z_vVv (As := []) (rest := []) 64 K 94 (by decide) (va_up_eq _ 94 _) rfl rfl (m_X9_saves l g _ k ty 0 pt fl to f past (va_up_eq _ 94 _) ((va_up_ne _ _ (by decide)).trans hN) ((va_up_ne _ _ (by decide)).trans hPa) (by omega)) (cwV 0 K.1.2.2.2.2 gX9_split_X9_saves rfl rfl rfl (by decide +kernel) ⟨Nat.le_of_ble_eq_true rfl, Nat.le_of_ble_eq_true rfl⟩) rfl (Nat.le_of_ble_eq_true rfl) dX9_split_61 rfl ⟨Nat.le_of_ble_eq_true rfl, Nat.le_of_ble_eq_true rfl⟩ rfl (fun C_8 hp_61 => ?_)
        refine z_C hp_61 ?_
        refine z_C (va_uu1 (by decide)) ?_
        refine z_aload_n 65 K dX9_split_64 rfl rfl 0 rfl ?_
        refine z_get 68 K hin_X9_split_X9 94 (by decide) (va_up_eq _ 94 _) rfl 0 (by decide) (by decide +kernel : Cond.fieldLink RX9 7 "BriefBuilderModel" "now" "[I" ∈ wsX9_split) (fun _ h9 => h9) rfl dX9_split_65 rfl ?_
        refine z_aload_n 69 K dX9_split_68 rfl rfl 0 rfl ?_
        refine z_get 72 K hin_X9_split_X9 94 (by decide) (va_up_eq _ 94 _) rfl 0 (by decide) (by decide +kernel : Cond.fieldLink RX9 7 "BriefBuilderModel" "now" "[I" ∈ wsX9_split) (fun _ h9 => h9) rfl dX9_split_69 rfl ?_
        refine z_iload_n 73 K dX9_split_72 rfl rfl 1 rfl ?_
        refine z_vSi (As := [.ref (aD g 95), .int (iZ p0)]) (rest := [.ref (aD g 95)]) 76 K (m_X9_number l g _ 95 p0 f (by decide) ((va_up_ne _ _ (by decide)).trans ((va_up_ne _ _ (by decide)).trans hN)) (by omega)) (va_cwS 2 K.1.2.2.2.2 gX9_split_X9_number rfl rfl rfl (by decide +kernel) ⟨Nat.le_of_ble_eq_true rfl, Nat.le_of_ble_eq_true rfl⟩) rfl (Nat.le_of_ble_eq_true rfl) dX9_split_73 rfl ⟨Nat.le_of_ble_eq_true rfl, Nat.le_of_ble_eq_true rfl⟩ rfl (fun z_9 C_10 hp_73 => ?_)
        refine z_C hp_73.1 ?_
        refine z_top (f (2 * p0 + 3)) hp_73.2 ?_
        refine z_aload_n 77 K dX9_split_76 rfl rfl 0 rfl ?_
        refine z_get 80 K hin_X9_split_X9 94 (by decide) (va_up_eq _ 94 _) rfl 0 (by decide) (by decide +kernel : Cond.fieldLink RX9 7 "BriefBuilderModel" "now" "[I" ∈ wsX9_split) (fun _ h9 => h9) rfl dX9_split_77 rfl ?_
        refine z_iconst 81 K dX9_split_80 rfl ?_
        refine z_iald (f := f) 82 K 95 (by decide) ((va_up_ne _ _ (by decide)).trans ((va_up_ne _ _ (by decide)).trans hN)) (by decide) (by decide) (by decide) dX9_split_81 rfl ?_
        have hr_81 := hw.rg 2
        refine z_iload_n 83 K dX9_split_82 rfl rfl 2 rfl ?_
        refine z_iconst 84 K dX9_split_83 rfl ?_
        refine z_iadd 85 K dX9_split_84 rfl ?_
        refine z_iload_n 86 K dX9_split_85 rfl rfl 2 rfl ?_
        refine z_ineg 87 K dX9_split_86 rfl ?_
        refine z_top (-y) (by omega) ?_
        refine z_vSv (As := [.ref (aD g 95), .int (iZ (f (2 * p0 + 3))), .int (iZ (f 2)), .int (iZ (y + 1)), .int (iZ (-y))]) (rest := []) 90 K (m_X9_follow l g _ 95 (f (2 * p0 + 3)) (f 2) (y + 1) (-y) f (by decide) ((va_up_ne _ _ (by decide)).trans ((va_up_ne _ _ (by decide)).trans hN)) hw.rg (fun a h0 h1 => (by have := hw.pa a h0 h1; omega)) (hw.rg _) (by omega) (by omega) (fun a b h0 h1 h2 h3 => (by have := hw.ci a b h0 h1 h2 h3; omega))) (va_cwS 5 K.1.2.2.2.2 gX9_split_X9_follow rfl rfl rfl (by decide +kernel) ⟨Nat.le_of_ble_eq_true rfl, Nat.le_of_ble_eq_true rfl⟩) rfl (Nat.le_of_ble_eq_true rfl) dX9_split_87 rfl ⟨Nat.le_of_ble_eq_true rfl, Nat.le_of_ble_eq_true rfl⟩ rfl (fun C_12 hp_87 => ?_)
        refine z_C hp_87 ?_
        have em : mFol f (f (2 * p0 + 3)) (f 2) (y + 1) (-y) 1 = f 1 := mFol_out (by omega)
        have em2 : mFol f (f (2 * p0 + 3)) (f 2) (y + 1) (-y) 2 = f 2 := mFol_out (by omega)
        have em4 : mFol f (f (2 * p0 + 3)) (f 2) (y + 1) (-y) (2 * p0 + 4) = f (2 * p0 + 4) := mFol_out (by omega)
        refine z_aload_n 91 K dX9_split_90 rfl rfl 0 rfl ?_
        refine z_get 94 K hin_X9_split_X9 94 (by decide) ((va_up_ne _ _ (by decide)).trans (va_up_eq _ 94 _)) rfl 0 (by decide) (by decide +kernel : Cond.fieldLink RX9 7 "BriefBuilderModel" "now" "[I" ∈ wsX9_split) (fun _ h9 => h9) rfl dX9_split_91 rfl ?_
        refine z_iload_n 95 K dX9_split_94 rfl rfl 1 rfl ?_
        refine z_iconst 96 K dX9_split_95 rfl ?_
        refine z_iadd 97 K dX9_split_96 rfl ?_
        refine z_aload_n 98 K dX9_split_97 rfl rfl 0 rfl ?_
        refine z_get 101 K hin_X9_split_X9 94 (by decide) ((va_up_ne _ _ (by decide)).trans (va_up_eq _ 94 _)) rfl 0 (by decide) (by decide +kernel : Cond.fieldLink RX9 7 "BriefBuilderModel" "now" "[I" ∈ wsX9_split) (fun _ h9 => h9) rfl dX9_split_98 rfl ?_
        refine z_iload_n 102 K dX9_split_101 rfl rfl 1 rfl ?_
        refine z_vSi (As := [.ref (aD g 95), .int (iZ p0)]) (rest := [.int (iZ (p0 + 1)), .ref (aD g 95)]) 105 K (m_X9_pagesOf l g _ 95 p0 (mFol f (f (2 * p0 + 3)) (f 2) (y + 1) (-y)) (by decide) (va_up_eq _ 95 _) (by omega)) (va_cwS 2 K.1.2.2.2.2 gX9_split_X9_pagesOf rfl rfl rfl (by decide +kernel) ⟨Nat.le_of_ble_eq_true rfl, Nat.le_of_ble_eq_true rfl⟩) rfl (Nat.le_of_ble_eq_true rfl) dX9_split_102 rfl ⟨Nat.le_of_ble_eq_true rfl, Nat.le_of_ble_eq_true rfl⟩ rfl (fun z_13 C_14 hp_102 => ?_)
        refine z_C hp_102.1 ?_
        refine z_top ((mFol f (f (2 * p0 + 3)) (f 2) (y + 1) (-y)) (2 * p0 + 4)) hp_102.2 ?_
        refine z_top (f (2 * p0 + 4)) em4 ?_
        refine z_iload_n 106 K dX9_split_105 rfl rfl 2 rfl ?_
        refine z_isub 107 K dX9_split_106 rfl ?_
        refine z_vSv (As := [.ref (aD g 95), .int (iZ (p0 + 1)), .int (iZ (f (2 * p0 + 4) - y))]) (rest := []) 110 K (m_X9_comes l g _ 95 (p0 + 1) (f (2 * p0 + 4) - y) (mFol f (f (2 * p0 + 3)) (f 2) (y + 1) (-y)) (by decide) (va_up_eq _ 95 _) (by omega) (by omega)) (va_cwS 3 K.1.2.2.2.2 gX9_split_X9_comes rfl rfl rfl (by decide +kernel) ⟨Nat.le_of_ble_eq_true rfl, Nat.le_of_ble_eq_true rfl⟩) rfl (Nat.le_of_ble_eq_true rfl) dX9_split_107 rfl ⟨Nat.le_of_ble_eq_true rfl, Nat.le_of_ble_eq_true rfl⟩ rfl (fun C_16 hp_107 => ?_)
        refine z_C hp_107 ?_
        refine z_C (va_uu _ _ _ _) ?_
        refine z_aload_n 111 K dX9_split_110 rfl rfl 0 rfl ?_
        refine z_get 114 K hin_X9_split_X9 94 (by decide) ((va_up_ne _ _ (by decide)).trans (va_up_eq _ 94 _)) rfl 0 (by decide) (by decide +kernel : Cond.fieldLink RX9 7 "BriefBuilderModel" "now" "[I" ∈ wsX9_split) (fun _ h9 => h9) rfl dX9_split_111 rfl ?_
        refine z_iconst 115 K dX9_split_114 rfl ?_
        refine z_iconst 116 K dX9_split_115 rfl ?_
        refine z_iload_n 117 K dX9_split_116 rfl rfl 1 rfl ?_
        refine z_imul 118 K dX9_split_117 rfl ?_
        refine z_iadd 119 K dX9_split_118 rfl ?_
        refine z_top (2 * p0 + 3) (by omega) ?_
        refine z_iconst 120 K dX9_split_119 rfl ?_
        refine z_iadd 121 K dX9_split_120 rfl ?_
        refine z_top (2 * p0 + 4) (by omega) ?_
        refine z_iload_n 122 K dX9_split_121 rfl rfl 2 rfl ?_
        refine z_iast (f := (mCome (mFol f (f (2 * p0 + 3)) (f 2) (y + 1) (-y)) (p0 + 1) (f (2 * p0 + 4) - y))) 123 K 95 (by decide) (va_up_eq _ 95 _) (by omega) (by omega) (by decide) dX9_split_122 rfl ?_
        refine z_C (va_uu _ _ _ _) ?_
        refine z_aload_n 124 K dX9_split_123 rfl rfl 0 rfl ?_
        refine z_get 127 K hin_X9_split_X9 94 (by decide) ((va_up_ne _ _ (by decide)).trans (va_up_eq _ 94 _)) rfl 0 (by decide) (by decide +kernel : Cond.fieldLink RX9 7 "BriefBuilderModel" "now" "[I" ∈ wsX9_split) (fun _ h9 => h9) rfl dX9_split_124 rfl ?_
        refine z_iconst 128 K dX9_split_127 rfl ?_
        refine z_iald (f := (zu (mCome (mFol f (f (2 * p0 + 3)) (f 2) (y + 1) (-y)) (p0 + 1) (f (2 * p0 + 4) - y)) (2 * p0 + 4) y)) 129 K 95 (by decide) (va_up_eq _ 95 _) (by decide) (by decide) (by decide) dX9_split_128 rfl ?_
        refine z_top (f 2 + 1) (by rw [zu_ne _ _ (by omega)]; simp only [mCome, zu_eq]; omega) ?_
        refine z_iconst 130 K dX9_split_129 rfl ?_
        refine z_isub 131 K dX9_split_130 rfl ?_
        refine z_top (f 2) (by omega) ?_
        have hK : kSpl f p0 y = 0 := by unfold kSpl; (repeat' split) <;> omega
        exact z_iret K rfl dX9_split_131 ⟨by rw [hK] <;> rfl, by rw [hK] <;> rfl⟩
      · skip
        refine z_aload_n 55 K dX9_split_54 rfl rfl 0 rfl ?_
        refine z_iconst 56 K dX9_split_55 rfl ?_
        refine z_top (kSpl f p0 y) (by unfold kSpl; (repeat' split) <;> omega) ?_
        refine z_vVi (As := [.int (iZ (kSpl f p0 y))]) (rest := []) 59 K 94 (by decide) (va_up_eq _ 94 _) rfl rfl (m_X9_fails l g _ (kSpl f p0 y) k ty 0 pt fl to (va_up_eq _ 94 _)) (cwV 1 K.1.2.2.2.2 gX9_split_X9_fails rfl rfl rfl (by decide +kernel) ⟨Nat.le_of_ble_eq_true rfl, Nat.le_of_ble_eq_true rfl⟩) rfl (Nat.le_of_ble_eq_true rfl) dX9_split_56 rfl ⟨Nat.le_of_ble_eq_true rfl, Nat.le_of_ble_eq_true rfl⟩ rfl (fun z_17 C_18 hp_56 => ?_)
        refine z_C hp_56.1 ?_
        refine z_top (0) hp_56.2 ?_
        refine z_C (va_uu _ _ _ _) ?_
        refine z_C (va_us ((va_up_ne _ _ (by decide)).trans hPa)).symm ?_
        refine z_C (va_us ((va_up_ne _ _ (by decide)).trans ((va_up_ne _ _ (by decide)).trans hN))).symm ?_
        refine z_C (va_ur1 (by decide)) ?_
        refine z_C (va_ur2 (by decide) (by decide)) ?_
        refine z_C (va_ur2 (by decide) (by decide)) ?_
        have hK : ¬ kSpl f p0 y = 0 := by unfold kSpl; (repeat' split) <;> omega
        exact z_iret K rfl dX9_split_59 ⟨by rw [if_neg hK, if_neg hK, if_neg hK], by rw [if_neg hK]⟩
    · have d_34 := b2i_dec0.mp c_34
      refine z_aload_n 38 K dX9_split_37 rfl rfl 0 rfl ?_
      refine z_iconst 39 K dX9_split_38 rfl ?_
      refine z_top (kSpl f p0 y) (by unfold kSpl; (repeat' split) <;> omega) ?_
      refine z_vVi (As := [.int (iZ (kSpl f p0 y))]) (rest := []) 42 K 94 (by decide) (va_up_eq _ 94 _) rfl rfl (m_X9_fails l g _ (kSpl f p0 y) k ty 0 pt fl to (va_up_eq _ 94 _)) (cwV 1 K.1.2.2.2.2 gX9_split_X9_fails rfl rfl rfl (by decide +kernel) ⟨Nat.le_of_ble_eq_true rfl, Nat.le_of_ble_eq_true rfl⟩) rfl (Nat.le_of_ble_eq_true rfl) dX9_split_39 rfl ⟨Nat.le_of_ble_eq_true rfl, Nat.le_of_ble_eq_true rfl⟩ rfl (fun z_19 C_20 hp_39 => ?_)
      refine z_C hp_39.1 ?_
      refine z_top (0) hp_39.2 ?_
      refine z_C (va_uu _ _ _ _) ?_
      refine z_C (va_us ((va_up_ne _ _ (by decide)).trans hPa)).symm ?_
      refine z_C (va_us ((va_up_ne _ _ (by decide)).trans ((va_up_ne _ _ (by decide)).trans hN))).symm ?_
      refine z_C (va_ur1 (by decide)) ?_
      refine z_C (va_ur2 (by decide) (by decide)) ?_
      refine z_C (va_ur2 (by decide) (by decide)) ?_
      have hK : ¬ kSpl f p0 y = 0 := by unfold kSpl; (repeat' split) <;> omega
      exact z_iret K rfl dX9_split_42 ⟨by rw [if_neg hK, if_neg hK, if_neg hK], by rw [if_neg hK]⟩
  · have d_10 := b2i_dec0.mp c_10
    refine z_aload_n 14 K dX9_split_13 rfl rfl 0 rfl ?_
    refine z_iconst 15 K dX9_split_14 rfl ?_
    refine z_top (kSpl f p0 y) (by unfold kSpl; (repeat' split) <;> omega) ?_
    refine z_vVi (As := [.int (iZ (kSpl f p0 y))]) (rest := []) 18 K 94 (by decide) (va_up_eq _ 94 _) rfl rfl (m_X9_fails l g _ (kSpl f p0 y) k ty 0 pt fl to (va_up_eq _ 94 _)) (cwV 1 K.1.2.2.2.2 gX9_split_X9_fails rfl rfl rfl (by decide +kernel) ⟨Nat.le_of_ble_eq_true rfl, Nat.le_of_ble_eq_true rfl⟩) rfl (Nat.le_of_ble_eq_true rfl) dX9_split_15 rfl ⟨Nat.le_of_ble_eq_true rfl, Nat.le_of_ble_eq_true rfl⟩ rfl (fun z_21 C_22 hp_15 => ?_)
    refine z_C hp_15.1 ?_
    refine z_top (0) hp_15.2 ?_
    refine z_C (va_uu _ _ _ _) ?_
    refine z_C (va_us ((va_up_ne _ _ (by decide)).trans hPa)).symm ?_
    refine z_C (va_us ((va_up_ne _ _ (by decide)).trans ((va_up_ne _ _ (by decide)).trans hN))).symm ?_
    refine z_C (va_ur1 (by decide)) ?_
    refine z_C (va_ur2 (by decide) (by decide)) ?_
    refine z_C (va_ur2 (by decide) (by decide)) ?_
    have hK : ¬ kSpl f p0 y = 0 := by unfold kSpl; (repeat' split) <;> omega
    exact z_iret K rfl dX9_split_18 ⟨by rw [if_neg hK, if_neg hK, if_neg hK], by rw [if_neg hK]⟩
set_option maxRecDepth 20000 in
theorem hin_X9_names_X9 : ∀ w ∈ wsX90, w ∈ wsX9_names := by decide +kernel
set_option maxHeartbeats 4000000 in
set_option maxRecDepth 100000 in
theorem m_X9_names (l : Launch) (g : zG) (C : Nat → va_E) (a : Int) (p0 : Int) (y : Int) (k : Int) (ty : Int) (th : Int) (pt : Int) (fl : Int) (to : Int) (f : Int → Int) (hM : C 94 = .inr (9, [.ref (aD g 95), .ref (aD g 96), .ref (aD g 97), .int (iZ k), .ref (aD g 98), .int (iZ ty), .int (iZ th), .int (iZ pt), .int (iZ fl), .ref (aD g 99), .int (iZ to)])) (hN : C 95 = eI g 449 f) (hw6 : 0 ≤ a ∧ a < 12 ∧ 0 ≤ f (32 * a + 65) ∧ f (32 * a + 65) ≤ 5) (hp : 0 ≤ p0 ∧ p0 < 31) : Met l yX9_names wsX9_names ({ frames := 1, cells := 0, slots := 0, locals := 21 } : Room) (zPre g C [.ref (aD g 94), .int (iZ a), .int (iZ p0), .int (iZ y)]) (zQv g (fun C' => C' = va_up C 95 (eI g 449 (mName f a p0 y)))) 0 0 (zA g) := by
  refine z_enter RX9 rfl (by decide) rfl (Nat.le_of_ble_eq_true rfl) ?_
  intro p e s m args below meth c K harg
  refine z_sub (lv' := [(0, .ref (aD g 94)), (1, .int (iZ a)), (2, .int (iZ p0)), (3, .int (iZ y))]) [0, 1, 2, 3] rfl ?_
  refine z_iload_n 1 K dX9_names_0 rfl rfl 1 rfl ?_
  refine z_aload_n 2 K dX9_names_1 rfl rfl 0 rfl ?_
  refine z_get 5 K hin_X9_names_X9 94 (by decide) hM rfl 0 (by decide) (by decide +kernel : Cond.fieldLink RX9 7 "BriefBuilderModel" "now" "[I" ∈ wsX9_names) (fun _ h9 => h9) rfl dX9_names_2 rfl ?_
  refine z_iload_n 6 K dX9_names_5 rfl rfl 1 rfl ?_
  refine z_vSi (As := [.ref (aD g 95), .int (iZ a)]) (rest := [.int (iZ a)]) 9 K (m_X9_cites l g _ 95 a f (by decide) hN (by omega)) (va_cwS 2 K.1.2.2.2.2 gX9_names_X9_cites rfl rfl rfl (by decide +kernel) ⟨Nat.le_of_ble_eq_true rfl, Nat.le_of_ble_eq_true rfl⟩) rfl (Nat.le_of_ble_eq_true rfl) dX9_names_6 rfl ⟨Nat.le_of_ble_eq_true rfl, Nat.le_of_ble_eq_true rfl⟩ rfl (fun z_1 C_2 hp_6 => ?_)
  refine z_C hp_6.1 ?_
  refine z_top (f (32 * a + 65)) hp_6.2 ?_
  refine z_vSi (As := [.int (iZ a), .int (iZ (f (32 * a + 65)))]) (rest := []) 12 K (m_X9_index l g _ a (f (32 * a + 65)) ) (va_cwS 2 K.1.2.2.2.2 gX9_names_X9_index rfl rfl rfl (by decide +kernel) ⟨Nat.le_of_ble_eq_true rfl, Nat.le_of_ble_eq_true rfl⟩) rfl (Nat.le_of_ble_eq_true rfl) dX9_names_9 rfl ⟨Nat.le_of_ble_eq_true rfl, Nat.le_of_ble_eq_true rfl⟩ rfl (fun z_3 C_4 hp_9 => ?_)
  refine z_C hp_9.1 ?_
  refine z_top (32 * a + 2 * (f (32 * a + 65)) + 66) hp_9.2 ?_
  refine z_istore (lv' := [(4, .int (iZ (32 * a + 2 * (f (32 * a + 65)) + 66))), (0, .ref (aD g 94)), (1, .int (iZ a)), (2, .int (iZ p0)), (3, .int (iZ y))]) 14 K dX9_names_12 rfl (by decide) rfl ?_
  refine z_aload_n 15 K dX9_names_14 rfl rfl 1 rfl ?_
  refine z_get 18 K hin_X9_names_X9 94 (by decide) hM rfl 0 (by decide) (by decide +kernel : Cond.fieldLink RX9 7 "BriefBuilderModel" "now" "[I" ∈ wsX9_names) (fun _ h9 => h9) rfl dX9_names_15 rfl ?_
  refine z_iload 20 K dX9_names_18 rfl 0 rfl ?_
  refine z_aload_n 21 K dX9_names_20 rfl rfl 1 rfl ?_
  refine z_get 24 K hin_X9_names_X9 94 (by decide) hM rfl 0 (by decide) (by decide +kernel : Cond.fieldLink RX9 7 "BriefBuilderModel" "now" "[I" ∈ wsX9_names) (fun _ h9 => h9) rfl dX9_names_21 rfl ?_
  refine z_iload_n 25 K dX9_names_24 rfl rfl 3 rfl ?_
  refine z_vSi (As := [.ref (aD g 95), .int (iZ p0)]) (rest := [.int (iZ (32 * a + 2 * (f (32 * a + 65)) + 66)), .ref (aD g 95)]) 28 K (m_X9_number l g _ 95 p0 f (by decide) hN (by omega)) (va_cwS 2 K.1.2.2.2.2 gX9_names_X9_number rfl rfl rfl (by decide +kernel) ⟨Nat.le_of_ble_eq_true rfl, Nat.le_of_ble_eq_true rfl⟩) rfl (Nat.le_of_ble_eq_true rfl) dX9_names_25 rfl ⟨Nat.le_of_ble_eq_true rfl, Nat.le_of_ble_eq_true rfl⟩ rfl (fun z_5 C_6 hp_25 => ?_)
  refine z_C hp_25.1 ?_
  refine z_top (f (2 * p0 + 3)) hp_25.2 ?_
  refine z_top (f (2 * p0 + 3)) rfl ?_
  refine z_iast (f := f) 29 K 95 (by decide) hN (by omega) (by omega) (by decide) dX9_names_28 rfl ?_
  refine z_aload_n 30 K dX9_names_29 rfl rfl 1 rfl ?_
  refine z_get 33 K hin_X9_names_X9 94 (by decide) ((va_up_ne _ _ (by decide)).trans hM) rfl 0 (by decide) (by decide +kernel : Cond.fieldLink RX9 7 "BriefBuilderModel" "now" "[I" ∈ wsX9_names) (fun _ h9 => h9) rfl dX9_names_30 rfl ?_
  refine z_iload 35 K dX9_names_33 rfl 0 rfl ?_
  refine z_iconst 36 K dX9_names_35 rfl ?_
  refine z_iadd 37 K dX9_names_36 rfl ?_
  refine z_top (32 * a + 2 * (f (32 * a + 65)) + 67) (by omega) ?_
  refine z_iload_n 38 K dX9_names_37 rfl rfl 4 rfl ?_
  refine z_iast (f := (zu f (32 * a + 2 * (f (32 * a + 65)) + 66) (f (2 * p0 + 3)))) 39 K 95 (by decide) (va_up_eq _ 95 _) (by omega) (by omega) (by decide) dX9_names_38 rfl ?_
  refine z_C (va_uu _ _ _ _) ?_
  refine z_aload_n 40 K dX9_names_39 rfl rfl 1 rfl ?_
  refine z_get 43 K hin_X9_names_X9 94 (by decide) ((va_up_ne _ _ (by decide)).trans hM) rfl 0 (by decide) (by decide +kernel : Cond.fieldLink RX9 7 "BriefBuilderModel" "now" "[I" ∈ wsX9_names) (fun _ h9 => h9) rfl dX9_names_40 rfl ?_
  refine z_bipush 45 K dX9_names_43 rfl rfl ?_
  refine z_bipush 47 K dX9_names_45 rfl rfl ?_
  refine z_iload_n 48 K dX9_names_47 rfl rfl 2 rfl ?_
  refine z_imul 49 K dX9_names_48 rfl ?_
  refine z_iadd 50 K dX9_names_49 rfl ?_
  refine z_top (32 * a + 65) (by omega) ?_
  refine z_dup2 51 K dX9_names_50 rfl rfl rfl ?_
  refine z_iald (f := (zu (zu f (32 * a + 2 * (f (32 * a + 65)) + 66) (f (2 * p0 + 3))) (32 * a + 2 * (f (32 * a + 65)) + 67) y)) 52 K 95 (by decide) (va_up_eq _ 95 _) (by omega) (by omega) (by decide) dX9_names_51 rfl ?_
  refine z_top (f (32 * a + 65)) (by rw [zu_ne _ _ (by omega), zu_ne _ _ (by omega)]) ?_
  refine z_iconst 53 K dX9_names_52 rfl ?_
  refine z_iadd 54 K dX9_names_53 rfl ?_
  refine z_iast (f := (zu (zu f (32 * a + 2 * (f (32 * a + 65)) + 66) (f (2 * p0 + 3))) (32 * a + 2 * (f (32 * a + 65)) + 67) y)) 55 K 95 (by decide) (va_up_eq _ 95 _) (by omega) (by omega) (by decide) dX9_names_54 rfl ?_
  refine z_C (va_uu _ _ _ _) ?_
  exact z_vret K rfl dX9_names_55 rfl
set_option maxRecDepth 20000 in
theorem hin_X9_cite_X9 : ∀ w ∈ wsX90, w ∈ wsX9_cite := by decide +kernel
set_option maxHeartbeats 4000000 in
set_option maxRecDepth 100000 in
theorem m_X9_cite (l : Launch) (g : zG) (C : Nat → va_E) (a : Int) (p0 : Int) (y : Int) (k : Int) (ty : Int) (th : Int) (pt : Int) (fl : Int) (to : Int) (f : Int → Int) (past : Int → Int) (cap : Int) (hM : C 94 = .inr (9, [.ref (aD g 95), .ref (aD g 96), .ref (aD g 97), .int (iZ k), .ref (aD g 98), .int (iZ ty), .int (iZ th), .int (iZ pt), .int (iZ fl), .ref (aD g 99), .int (iZ to)])) (hN : C 95 = eI g 449 f) (hPa : C 97 = eI g 2694 past) (hk : 0 ≤ k ∧ k ≤ 6) (hw : WF f cap) (h_a : -2147483648 ≤ a ∧ a < 2147483648) (h_p0 : -2147483648 ≤ p0 ∧ p0 < 2147483648) (h_y : -2147483648 ≤ y ∧ y < 2147483648) : Met l yX9_cite wsX9_cite ({ frames := 2, cells := 0, slots := 0, locals := 45 } : Room) (zPre g C [.ref (aD g 94), .int (iZ a), .int (iZ p0), .int (iZ y)]) (zQi g (fun z C' => C' = va_up (va_up (va_up C 97 (eI g 2694 (if kCit f a p0 y = 0 then mSav f past k else past))) 94 (.inr (9, [.ref (aD g 95), .ref (aD g 96), .ref (aD g 97), .int (iZ (if kCit f a p0 y = 0 then mKp k + 1 else k)), .ref (aD g 98), .int (iZ ty), .int (iZ (kCit f a p0 y)), .int (iZ pt), .int (iZ fl), .ref (aD g 99), .int (iZ to)]))) 95 (eI g 449 (if kCit f a p0 y = 0 then mName f a p0 y else f)) ∧ z = if kCit f a p0 y = 0 then f (32 * a + 65) + 1 else 0)) 0 0 (zA g) := by
  refine z_enter RX9 rfl (by decide) rfl (Nat.le_of_ble_eq_true rfl) ?_
  intro p e s m args below meth c K harg
  refine z_sub (lv' := [(0, .ref (aD g 94)), (1, .int (iZ a)), (2, .int (iZ p0)), (3, .int (iZ y))]) [0, 1, 2, 3] rfl ?_
  have hn := hw.n
  have hx := hw.nx
  refine z_aload_n 1 K dX9_cite_0 rfl rfl 0 rfl ?_
  refine z_iconst 2 K dX9_cite_1 rfl ?_
  refine z_put (ty := .int) 5 K hin_X9_cite_X9 tyX9 tyX9_ok nmX9 94 (by decide) hM rfl 6 (by decide) (by decide +kernel : Cond.fieldLink RX9 25 "BriefBuilderModel" "thrown" "I" ∈ wsX9_cite) (fun _ h9 => h9) rfl (by decide +kernel) rfl rfl (Nat.le_of_ble_eq_true rfl) dX9_cite_2 rfl ?_
  show Z p l e (({ frames := 2, cells := 0, slots := 0, locals := 45 } : Room)) s m args below meth c (MQ below (zQi g (fun z C' => C' = va_up (va_up (va_up C 97 (eI g 2694 (if kCit f a p0 y = 0 then mSav f past k else past))) 94 (.inr (9, [.ref (aD g 95), .ref (aD g 96), .ref (aD g 97), .int (iZ (if kCit f a p0 y = 0 then mKp k + 1 else k)), .ref (aD g 98), .int (iZ ty), .int (iZ (kCit f a p0 y)), .int (iZ pt), .int (iZ fl), .ref (aD g 99), .int (iZ to)]))) 95 (eI g 449 (if kCit f a p0 y = 0 then mName f a p0 y else f)) ∧ z = if kCit f a p0 y = 0 then f (32 * a + 65) + 1 else 0)) args s 0 0 (zA g)) g _ _ _ (va_up C 94 (.inr (9, [.ref (aD g 95), .ref (aD g 96), .ref (aD g 97), .int (iZ k), .ref (aD g 98), .int (iZ ty), .int (iZ 0), .int (iZ pt), .int (iZ fl), .ref (aD g 99), .int (iZ to)]))) [(0, .ref (aD g 94)), (1, .int (iZ a)), (2, .int (iZ p0)), (3, .int (iZ y))] 5 []
  refine z_iload_n 6 K dX9_cite_5 rfl rfl 1 rfl ?_
  refine z_vSi (As := [.int (iZ a)]) (rest := []) 9 K (m_X9_isParagraph l g _ a (by omega)) (va_cwS 1 K.1.2.2.2.2 gX9_cite_X9_isParagraph rfl rfl rfl (by decide +kernel) ⟨Nat.le_of_ble_eq_true rfl, Nat.le_of_ble_eq_true rfl⟩) rfl (Nat.le_of_ble_eq_true rfl) dX9_cite_6 rfl ⟨Nat.le_of_ble_eq_true rfl, Nat.le_of_ble_eq_true rfl⟩ rfl (fun z_1 C_2 hp_6 => ?_)
  refine z_C hp_6.1 ?_
  refine z_top (b2i (decide (0 ≤ a ∧ a ≤ 11))) hp_6.2 ?_
  refine z_if_eq (tgt := 20) 12 K dX9_cite_9 rfl (by decide) (b2i_ir _) (fun c_9 => ?_) (fun c_9 => ?_)
  · have d_9 := b2i_dec0.mp c_9
    refine z_aload_n 21 K dX9_cite_20 rfl rfl 0 rfl ?_
    refine z_iconst 22 K dX9_cite_21 rfl ?_
    refine z_top (kCit f a p0 y) (by unfold kCit; (repeat' split) <;> omega) ?_
    refine z_vVi (As := [.int (iZ (kCit f a p0 y))]) (rest := []) 25 K 94 (by decide) (va_up_eq _ 94 _) rfl rfl (m_X9_fails l g _ (kCit f a p0 y) k ty 0 pt fl to (va_up_eq _ 94 _)) (cwV 1 K.1.2.2.2.2 gX9_cite_X9_fails rfl rfl rfl (by decide +kernel) ⟨Nat.le_of_ble_eq_true rfl, Nat.le_of_ble_eq_true rfl⟩) rfl (Nat.le_of_ble_eq_true rfl) dX9_cite_22 rfl ⟨Nat.le_of_ble_eq_true rfl, Nat.le_of_ble_eq_true rfl⟩ rfl (fun z_3 C_4 hp_22 => ?_)
    refine z_C hp_22.1 ?_
    refine z_top (0) hp_22.2 ?_
    refine z_C (va_uu _ _ _ _) ?_
    refine z_C (va_us ((va_up_ne _ _ (by decide)).trans hPa)).symm ?_
    refine z_C (va_us ((va_up_ne _ _ (by decide)).trans ((va_up_ne _ _ (by decide)).trans hN))).symm ?_
    refine z_C (va_ur1 (by decide)) ?_
    refine z_C (va_ur2 (by decide) (by decide)) ?_
    refine z_C (va_ur2 (by decide) (by decide)) ?_
    have hK : ¬ kCit f a p0 y = 0 := by unfold kCit; (repeat' split) <;> omega
    exact z_iret K rfl dX9_cite_25 ⟨by rw [if_neg hK, if_neg hK, if_neg hK], by rw [if_neg hK]⟩
  · have d_9 := b2i_decn.mp c_9
    refine z_aload_n 13 K dX9_cite_12 rfl rfl 0 rfl ?_
    refine z_iload_n 14 K dX9_cite_13 rfl rfl 2 rfl ?_
    refine z_vVi (As := [.int (iZ p0)]) (rest := []) 17 K 94 (by decide) (va_up_eq _ 94 _) rfl rfl (m_X9_isPlace l g _ p0 k ty 0 pt fl to f (va_up_eq _ 94 _) ((va_up_ne _ _ (by decide)).trans hN) (by omega) (by omega)) (cwV 1 K.1.2.2.2.2 gX9_cite_X9_isPlace rfl rfl rfl (by decide +kernel) ⟨Nat.le_of_ble_eq_true rfl, Nat.le_of_ble_eq_true rfl⟩) rfl (Nat.le_of_ble_eq_true rfl) dX9_cite_14 rfl ⟨Nat.le_of_ble_eq_true rfl, Nat.le_of_ble_eq_true rfl⟩ rfl (fun z_5 C_6 hp_14 => ?_)
    refine z_C hp_14.1 ?_
    refine z_top (b2i (decide (0 ≤ p0 ∧ p0 ≤ f 1 - 1))) hp_14.2 ?_
    refine z_if_ne (tgt := 26) 20 K dX9_cite_17 rfl (by decide) (b2i_ir _) (fun c_17 => ?_) (fun c_17 => ?_)
    · have d_17 := b2i_decn.mp c_17
      refine z_iload_n 27 K dX9_cite_26 rfl rfl 3 rfl ?_
      refine z_vSi (As := [.int (iZ y)]) (rest := []) 30 K (m_X9_arePages l g _ y (by omega)) (va_cwS 1 K.1.2.2.2.2 gX9_cite_X9_arePages rfl rfl rfl (by decide +kernel) ⟨Nat.le_of_ble_eq_true rfl, Nat.le_of_ble_eq_true rfl⟩) rfl (Nat.le_of_ble_eq_true rfl) dX9_cite_27 rfl ⟨Nat.le_of_ble_eq_true rfl, Nat.le_of_ble_eq_true rfl⟩ rfl (fun z_7 C_8 hp_27 => ?_)
      refine z_C hp_27.1 ?_
      refine z_top (b2i (decide (1 ≤ y ∧ y ≤ 60))) hp_27.2 ?_
      refine z_if_ne (tgt := 39) 33 K dX9_cite_30 rfl (by decide) (b2i_ir _) (fun c_30 => ?_) (fun c_30 => ?_)
      · have d_30 := b2i_decn.mp c_30
        refine z_aload_n 40 K dX9_cite_39 rfl rfl 0 rfl ?_
        refine z_get 43 K hin_X9_cite_X9 94 (by decide) (va_up_eq _ 94 _) rfl 0 (by decide) (by decide +kernel : Cond.fieldLink RX9 7 "BriefBuilderModel" "now" "[I" ∈ wsX9_cite) (fun _ h9 => h9) rfl dX9_cite_40 rfl ?_
        refine z_iload_n 44 K dX9_cite_43 rfl rfl 1 rfl ?_
        refine z_vSi (As := [.ref (aD g 95), .int (iZ a)]) (rest := []) 47 K (m_X9_cites l g _ 95 a f (by decide) ((va_up_ne _ _ (by decide)).trans hN) (by omega)) (va_cwS 2 K.1.2.2.2.2 gX9_cite_X9_cites rfl rfl rfl (by decide +kernel) ⟨Nat.le_of_ble_eq_true rfl, Nat.le_of_ble_eq_true rfl⟩) rfl (Nat.le_of_ble_eq_true rfl) dX9_cite_44 rfl ⟨Nat.le_of_ble_eq_true rfl, Nat.le_of_ble_eq_true rfl⟩ rfl (fun z_9 C_10 hp_44 => ?_)
        refine z_C hp_44.1 ?_
        refine z_top (f (32 * a + 65)) hp_44.2 ?_
        have hp44 := hw.pa a (by omega) (by omega)
        refine z_bipush 49 K dX9_cite_47 rfl rfl ?_
        refine z_icmp_ne (tgt := 58) 52 K dX9_cite_49 rfl (by decide) (by omega) (by decide) (fun c_49 => ?_) (fun c_49 => ?_)
        · skip
          refine z_aload_n 59 K dX9_cite_58 rfl rfl 0 rfl ?_
          refine z_vVv (As := []) (rest := []) 62 K 94 (by decide) (va_up_eq _ 94 _) rfl rfl (m_X9_saves l g _ k ty 0 pt fl to f past (va_up_eq _ 94 _) ((va_up_ne _ _ (by decide)).trans hN) ((va_up_ne _ _ (by decide)).trans hPa) (by omega)) (cwV 0 K.1.2.2.2.2 gX9_cite_X9_saves rfl rfl rfl (by decide +kernel) ⟨Nat.le_of_ble_eq_true rfl, Nat.le_of_ble_eq_true rfl⟩) rfl (Nat.le_of_ble_eq_true rfl) dX9_cite_59 rfl ⟨Nat.le_of_ble_eq_true rfl, Nat.le_of_ble_eq_true rfl⟩ rfl (fun C_12 hp_59 => ?_)
          refine z_C hp_59 ?_
          refine z_C (va_uu1 (by decide)) ?_
          refine z_aload_n 63 K dX9_cite_62 rfl rfl 0 rfl ?_
          refine z_iload_n 64 K dX9_cite_63 rfl rfl 1 rfl ?_
          refine z_iload_n 65 K dX9_cite_64 rfl rfl 2 rfl ?_
          refine z_iload_n 66 K dX9_cite_65 rfl rfl 3 rfl ?_
          refine z_vVv (As := [.int (iZ a), .int (iZ p0), .int (iZ y)]) (rest := []) 69 K 94 (by decide) (va_up_eq _ 94 _) rfl rfl (m_X9_names l g _ a p0 y (mKp k + 1) ty 0 pt fl to f (va_up_eq _ 94 _) ((va_up_ne _ _ (by decide)).trans ((va_up_ne _ _ (by decide)).trans hN)) (by omega) (by omega)) (cwV 3 K.1.2.2.2.2 gX9_cite_X9_names rfl rfl rfl (by decide +kernel) ⟨Nat.le_of_ble_eq_true rfl, Nat.le_of_ble_eq_true rfl⟩) rfl (Nat.le_of_ble_eq_true rfl) dX9_cite_66 rfl ⟨Nat.le_of_ble_eq_true rfl, Nat.le_of_ble_eq_true rfl⟩ rfl (fun C_14 hp_66 => ?_)
          refine z_C hp_66 ?_
          refine z_aload_n 70 K dX9_cite_69 rfl rfl 0 rfl ?_
          refine z_get 73 K hin_X9_cite_X9 94 (by decide) ((va_up_ne _ _ (by decide)).trans (va_up_eq _ 94 _)) rfl 0 (by decide) (by decide +kernel : Cond.fieldLink RX9 7 "BriefBuilderModel" "now" "[I" ∈ wsX9_cite) (fun _ h9 => h9) rfl dX9_cite_70 rfl ?_
          refine z_iload_n 74 K dX9_cite_73 rfl rfl 1 rfl ?_
          refine z_vSi (As := [.ref (aD g 95), .int (iZ a)]) (rest := []) 77 K (m_X9_cites l g _ 95 a (mName f a p0 y) (by decide) (va_up_eq _ 95 _) (by omega)) (va_cwS 2 K.1.2.2.2.2 gX9_cite_X9_cites rfl rfl rfl (by decide +kernel) ⟨Nat.le_of_ble_eq_true rfl, Nat.le_of_ble_eq_true rfl⟩) rfl (Nat.le_of_ble_eq_true rfl) dX9_cite_74 rfl ⟨Nat.le_of_ble_eq_true rfl, Nat.le_of_ble_eq_true rfl⟩ rfl (fun z_15 C_16 hp_74 => ?_)
          refine z_C hp_74.1 ?_
          refine z_top ((mName f a p0 y) (32 * a + 65)) hp_74.2 ?_
          refine z_top (f (32 * a + 65) + 1) (by simp only [mName, zu_eq]) ?_
          have hK : kCit f a p0 y = 0 := by unfold kCit; (repeat' split) <;> omega
          exact z_iret K rfl dX9_cite_77 ⟨by rw [hK] <;> rfl, by rw [hK] <;> rfl⟩
        · skip
          refine z_aload_n 53 K dX9_cite_52 rfl rfl 0 rfl ?_
          refine z_iconst 54 K dX9_cite_53 rfl ?_
          refine z_top (kCit f a p0 y) (by unfold kCit; (repeat' split) <;> omega) ?_
          refine z_vVi (As := [.int (iZ (kCit f a p0 y))]) (rest := []) 57 K 94 (by decide) (va_up_eq _ 94 _) rfl rfl (m_X9_fails l g _ (kCit f a p0 y) k ty 0 pt fl to (va_up_eq _ 94 _)) (cwV 1 K.1.2.2.2.2 gX9_cite_X9_fails rfl rfl rfl (by decide +kernel) ⟨Nat.le_of_ble_eq_true rfl, Nat.le_of_ble_eq_true rfl⟩) rfl (Nat.le_of_ble_eq_true rfl) dX9_cite_54 rfl ⟨Nat.le_of_ble_eq_true rfl, Nat.le_of_ble_eq_true rfl⟩ rfl (fun z_17 C_18 hp_54 => ?_)
          refine z_C hp_54.1 ?_
          refine z_top (0) hp_54.2 ?_
          refine z_C (va_uu _ _ _ _) ?_
          refine z_C (va_us ((va_up_ne _ _ (by decide)).trans hPa)).symm ?_
          refine z_C (va_us ((va_up_ne _ _ (by decide)).trans ((va_up_ne _ _ (by decide)).trans hN))).symm ?_
          refine z_C (va_ur1 (by decide)) ?_
          refine z_C (va_ur2 (by decide) (by decide)) ?_
          refine z_C (va_ur2 (by decide) (by decide)) ?_
          have hK : ¬ kCit f a p0 y = 0 := by unfold kCit; (repeat' split) <;> omega
          exact z_iret K rfl dX9_cite_57 ⟨by rw [if_neg hK, if_neg hK, if_neg hK], by rw [if_neg hK]⟩
      · have d_30 := b2i_dec0.mp c_30
        refine z_aload_n 34 K dX9_cite_33 rfl rfl 0 rfl ?_
        refine z_iconst 35 K dX9_cite_34 rfl ?_
        refine z_top (kCit f a p0 y) (by unfold kCit; (repeat' split) <;> omega) ?_
        refine z_vVi (As := [.int (iZ (kCit f a p0 y))]) (rest := []) 38 K 94 (by decide) (va_up_eq _ 94 _) rfl rfl (m_X9_fails l g _ (kCit f a p0 y) k ty 0 pt fl to (va_up_eq _ 94 _)) (cwV 1 K.1.2.2.2.2 gX9_cite_X9_fails rfl rfl rfl (by decide +kernel) ⟨Nat.le_of_ble_eq_true rfl, Nat.le_of_ble_eq_true rfl⟩) rfl (Nat.le_of_ble_eq_true rfl) dX9_cite_35 rfl ⟨Nat.le_of_ble_eq_true rfl, Nat.le_of_ble_eq_true rfl⟩ rfl (fun z_19 C_20 hp_35 => ?_)
        refine z_C hp_35.1 ?_
        refine z_top (0) hp_35.2 ?_
        refine z_C (va_uu _ _ _ _) ?_
        refine z_C (va_us ((va_up_ne _ _ (by decide)).trans hPa)).symm ?_
        refine z_C (va_us ((va_up_ne _ _ (by decide)).trans ((va_up_ne _ _ (by decide)).trans hN))).symm ?_
        refine z_C (va_ur1 (by decide)) ?_
        refine z_C (va_ur2 (by decide) (by decide)) ?_
        refine z_C (va_ur2 (by decide) (by decide)) ?_
        have hK : ¬ kCit f a p0 y = 0 := by unfold kCit; (repeat' split) <;> omega
        exact z_iret K rfl dX9_cite_38 ⟨by rw [if_neg hK, if_neg hK, if_neg hK], by rw [if_neg hK]⟩
    · have d_17 := b2i_dec0.mp c_17
      refine z_aload_n 21 K dX9_cite_20 rfl rfl 0 rfl ?_
      refine z_iconst 22 K dX9_cite_21 rfl ?_
      refine z_top (kCit f a p0 y) (by unfold kCit; (repeat' split) <;> omega) ?_
      refine z_vVi (As := [.int (iZ (kCit f a p0 y))]) (rest := []) 25 K 94 (by decide) (va_up_eq _ 94 _) rfl rfl (m_X9_fails l g _ (kCit f a p0 y) k ty 0 pt fl to (va_up_eq _ 94 _)) (cwV 1 K.1.2.2.2.2 gX9_cite_X9_fails rfl rfl rfl (by decide +kernel) ⟨Nat.le_of_ble_eq_true rfl, Nat.le_of_ble_eq_true rfl⟩) rfl (Nat.le_of_ble_eq_true rfl) dX9_cite_22 rfl ⟨Nat.le_of_ble_eq_true rfl, Nat.le_of_ble_eq_true rfl⟩ rfl (fun z_21 C_22 hp_22 => ?_)
      refine z_C hp_22.1 ?_
      refine z_top (0) hp_22.2 ?_
      refine z_C (va_uu _ _ _ _) ?_
      refine z_C (va_us ((va_up_ne _ _ (by decide)).trans hPa)).symm ?_
      refine z_C (va_us ((va_up_ne _ _ (by decide)).trans ((va_up_ne _ _ (by decide)).trans hN))).symm ?_
      refine z_C (va_ur1 (by decide)) ?_
      refine z_C (va_ur2 (by decide) (by decide)) ?_
      refine z_C (va_ur2 (by decide) (by decide)) ?_
      have hK : ¬ kCit f a p0 y = 0 := by unfold kCit; (repeat' split) <;> omega
      exact z_iret K rfl dX9_cite_25 ⟨by rw [if_neg hK, if_neg hK, if_neg hK], by rw [if_neg hK]⟩
set_option maxRecDepth 20000 in
theorem hin_X9_set_X9 : ∀ w ∈ wsX90, w ∈ wsX9_set := by decide +kernel
set_option maxHeartbeats 4000000 in
set_option maxRecDepth 100000 in
theorem m_X9_set (l : Launch) (g : zG) (C : Nat → va_E) (y : Int) (k : Int) (ty : Int) (th : Int) (pt : Int) (fl : Int) (to : Int) (f : Int → Int) (past : Int → Int) (cap : Int) (hM : C 94 = .inr (9, [.ref (aD g 95), .ref (aD g 96), .ref (aD g 97), .int (iZ k), .ref (aD g 98), .int (iZ ty), .int (iZ th), .int (iZ pt), .int (iZ fl), .ref (aD g 99), .int (iZ to)])) (hN : C 95 = eI g 449 f) (hPa : C 97 = eI g 2694 past) (hk : 0 ≤ k ∧ k ≤ 6) (hw : WF f cap) (h_y : -2147483648 ≤ y ∧ y < 2147483648) : Met l yX9_set wsX9_set ({ frames := 2, cells := 0, slots := 0, locals := 45 } : Room) (zPre g C [.ref (aD g 94), .int (iZ y)]) (zQi g (fun z C' => C' = va_up (va_up (va_up C 97 (eI g 2694 (if kSet y = 0 then mSav f past k else past))) 94 (.inr (9, [.ref (aD g 95), .ref (aD g 96), .ref (aD g 97), .int (iZ (if kSet y = 0 then mKp k + 1 else k)), .ref (aD g 98), .int (iZ ty), .int (iZ (kSet y)), .int (iZ pt), .int (iZ fl), .ref (aD g 99), .int (iZ to)]))) 95 (eI g 449 (if kSet y = 0 then zu f 0 y else f)) ∧ z = if kSet y = 0 then f 0 else 0)) 0 0 (zA g) := by
  refine z_enter RX9 rfl (by decide) rfl (Nat.le_of_ble_eq_true rfl) ?_
  intro p e s m args below meth c K harg
  refine z_sub (lv' := [(0, .ref (aD g 94)), (1, .int (iZ y))]) [0, 1] rfl ?_
  have hn := hw.n
  have hx := hw.nx
  refine z_aload_n 1 K dX9_set_0 rfl rfl 0 rfl ?_
  refine z_iconst 2 K dX9_set_1 rfl ?_
  refine z_put (ty := .int) 5 K hin_X9_set_X9 tyX9 tyX9_ok nmX9 94 (by decide) hM rfl 6 (by decide) (by decide +kernel : Cond.fieldLink RX9 25 "BriefBuilderModel" "thrown" "I" ∈ wsX9_set) (fun _ h9 => h9) rfl (by decide +kernel) rfl rfl (Nat.le_of_ble_eq_true rfl) dX9_set_2 rfl ?_
  show Z p l e (({ frames := 2, cells := 0, slots := 0, locals := 45 } : Room)) s m args below meth c (MQ below (zQi g (fun z C' => C' = va_up (va_up (va_up C 97 (eI g 2694 (if kSet y = 0 then mSav f past k else past))) 94 (.inr (9, [.ref (aD g 95), .ref (aD g 96), .ref (aD g 97), .int (iZ (if kSet y = 0 then mKp k + 1 else k)), .ref (aD g 98), .int (iZ ty), .int (iZ (kSet y)), .int (iZ pt), .int (iZ fl), .ref (aD g 99), .int (iZ to)]))) 95 (eI g 449 (if kSet y = 0 then zu f 0 y else f)) ∧ z = if kSet y = 0 then f 0 else 0)) args s 0 0 (zA g)) g _ _ _ (va_up C 94 (.inr (9, [.ref (aD g 95), .ref (aD g 96), .ref (aD g 97), .int (iZ k), .ref (aD g 98), .int (iZ ty), .int (iZ 0), .int (iZ pt), .int (iZ fl), .ref (aD g 99), .int (iZ to)]))) [(0, .ref (aD g 94)), (1, .int (iZ y))] 5 []
  refine z_iload_n 6 K dX9_set_5 rfl rfl 1 rfl ?_
  refine z_bipush 8 K dX9_set_6 rfl rfl ?_
  refine z_sipush 11 K dX9_set_8 rfl rfl ?_
  refine z_vSi (As := [.int (iZ y), .int (iZ 10), .int (iZ 200)]) (rest := []) 14 K (m_X9_in l g _ y 10 200 (by omega) (by omega) (by omega)) (va_cwS 3 K.1.2.2.2.2 gX9_set_X9_in rfl rfl rfl (by decide +kernel) ⟨Nat.le_of_ble_eq_true rfl, Nat.le_of_ble_eq_true rfl⟩) rfl (Nat.le_of_ble_eq_true rfl) dX9_set_11 rfl ⟨Nat.le_of_ble_eq_true rfl, Nat.le_of_ble_eq_true rfl⟩ rfl (fun z_1 C_2 hp_11 => ?_)
  refine z_C hp_11.1 ?_
  refine z_top (b2i (decide (10 ≤ y ∧ y ≤ 200))) hp_11.2 ?_
  refine z_if_ne (tgt := 23) 17 K dX9_set_14 rfl (by decide) (b2i_ir _) (fun c_14 => ?_) (fun c_14 => ?_)
  · have d_14 := b2i_decn.mp c_14
    refine z_aload_n 24 K dX9_set_23 rfl rfl 0 rfl ?_
    refine z_vVv (As := []) (rest := []) 27 K 94 (by decide) (va_up_eq _ 94 _) rfl rfl (m_X9_saves l g _ k ty 0 pt fl to f past (va_up_eq _ 94 _) ((va_up_ne _ _ (by decide)).trans hN) ((va_up_ne _ _ (by decide)).trans hPa) (by omega)) (cwV 0 K.1.2.2.2.2 gX9_set_X9_saves rfl rfl rfl (by decide +kernel) ⟨Nat.le_of_ble_eq_true rfl, Nat.le_of_ble_eq_true rfl⟩) rfl (Nat.le_of_ble_eq_true rfl) dX9_set_24 rfl ⟨Nat.le_of_ble_eq_true rfl, Nat.le_of_ble_eq_true rfl⟩ rfl (fun C_4 hp_24 => ?_)
    refine z_C hp_24 ?_
    refine z_C (va_uu1 (by decide)) ?_
    refine z_aload_n 28 K dX9_set_27 rfl rfl 0 rfl ?_
    refine z_iconst 29 K dX9_set_28 rfl ?_
    refine z_iload_n 30 K dX9_set_29 rfl rfl 1 rfl ?_
    refine z_vVi (As := [.int (iZ 0), .int (iZ y)]) (rest := []) 33 K 94 (by decide) (va_up_eq _ 94 _) rfl rfl (m_X9_changes l g _ 0 y (mKp k + 1) ty 0 pt fl to f (va_up_eq _ 94 _) ((va_up_ne _ _ (by decide)).trans ((va_up_ne _ _ (by decide)).trans hN)) (by omega)) (cwV 2 K.1.2.2.2.2 gX9_set_X9_changes rfl rfl rfl (by decide +kernel) ⟨Nat.le_of_ble_eq_true rfl, Nat.le_of_ble_eq_true rfl⟩) rfl (Nat.le_of_ble_eq_true rfl) dX9_set_30 rfl ⟨Nat.le_of_ble_eq_true rfl, Nat.le_of_ble_eq_true rfl⟩ rfl (fun z_5 C_6 hp_30 => ?_)
    refine z_C hp_30.1 ?_
    refine z_top (f 0) hp_30.2 ?_
    have hK : kSet y = 0 := by unfold kSet; (repeat' split) <;> omega
    exact z_iret K rfl dX9_set_33 ⟨by rw [hK] <;> rfl, by rw [hK] <;> rfl⟩
  · have d_14 := b2i_dec0.mp c_14
    refine z_aload_n 18 K dX9_set_17 rfl rfl 0 rfl ?_
    refine z_iconst 19 K dX9_set_18 rfl ?_
    refine z_top (kSet y) (by unfold kSet; (repeat' split) <;> omega) ?_
    refine z_vVi (As := [.int (iZ (kSet y))]) (rest := []) 22 K 94 (by decide) (va_up_eq _ 94 _) rfl rfl (m_X9_fails l g _ (kSet y) k ty 0 pt fl to (va_up_eq _ 94 _)) (cwV 1 K.1.2.2.2.2 gX9_set_X9_fails rfl rfl rfl (by decide +kernel) ⟨Nat.le_of_ble_eq_true rfl, Nat.le_of_ble_eq_true rfl⟩) rfl (Nat.le_of_ble_eq_true rfl) dX9_set_19 rfl ⟨Nat.le_of_ble_eq_true rfl, Nat.le_of_ble_eq_true rfl⟩ rfl (fun z_7 C_8 hp_19 => ?_)
    refine z_C hp_19.1 ?_
    refine z_top (0) hp_19.2 ?_
    refine z_C (va_uu _ _ _ _) ?_
    refine z_C (va_us ((va_up_ne _ _ (by decide)).trans hPa)).symm ?_
    refine z_C (va_us ((va_up_ne _ _ (by decide)).trans ((va_up_ne _ _ (by decide)).trans hN))).symm ?_
    refine z_C (va_ur1 (by decide)) ?_
    refine z_C (va_ur2 (by decide) (by decide)) ?_
    refine z_C (va_ur2 (by decide) (by decide)) ?_
    have hK : ¬ kSet y = 0 := by unfold kSet; (repeat' split) <;> omega
    exact z_iret K rfl dX9_set_22 ⟨by rw [if_neg hK, if_neg hK, if_neg hK], by rw [if_neg hK]⟩
end ZMC
