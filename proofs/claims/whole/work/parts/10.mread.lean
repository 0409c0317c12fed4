/-! the reference: what only reads a row -/
section ZMR
set_option maxHeartbeats 4000000 in
set_option maxRecDepth 100000 in
theorem m_X9_in (l : Launch) (g : zG) (C : Nat → va_E) (v : Int) (lo : Int) (hii : Int) (hv : -2147483648 ≤ v ∧ v < 2147483648) (hlo : -2147483648 ≤ lo ∧ lo < 2147483648) (hhi : -2147483648 ≤ hii ∧ hii < 2147483648) : Met l yX9_in wsX9_in ({ frames := 0, cells := 0, slots := 0, locals := 0 } : Room) (zPre g C [.int (iZ v), .int (iZ lo), .int (iZ hii)]) (zQi g (fun z C' => C' = C ∧ z = b2i (decide (lo ≤ v ∧ v ≤ hii)))) 0 0 (zA g) := by
  refine z_enter RX9 rfl (by decide) rfl (Nat.le_of_ble_eq_true rfl) ?_
  intro p e s m args below meth c K harg
  refine z_sub (lv' := [(0, .int (iZ v)), (1, .int (iZ lo)), (2, .int (iZ hii))]) [0, 1, 2] rfl ?_
  refine z_iload_n 1 K dX9_in_0 rfl rfl 0 rfl ?_
  refine z_iload_n 2 K dX9_in_1 rfl rfl 1 rfl ?_
  refine z_icmp_lt (tgt := 14) 5 K dX9_in_2 rfl (by decide) (by omega) (by omega) (fun c_2 => ?_) (fun c_2 => ?_)
  · skip
    refine z_iconst 15 K dX9_in_14 rfl ?_
    exact z_zret K rfl (by decide) dX9_in_15 ⟨rfl, by first | exact (b2i_1 (by omega)).symm | exact (b2i_0 (by omega)).symm⟩
  · skip
    refine z_iload_n 6 K dX9_in_5 rfl rfl 0 rfl ?_
    refine z_iload_n 7 K dX9_in_6 rfl rfl 2 rfl ?_
    refine z_icmp_gt (tgt := 14) 10 K dX9_in_7 rfl (by decide) (by omega) (by omega) (fun c_7 => ?_) (fun c_7 => ?_)
    · skip
      refine z_iconst 15 K dX9_in_14 rfl ?_
      exact z_zret K rfl (by decide) dX9_in_15 ⟨rfl, by first | exact (b2i_1 (by omega)).symm | exact (b2i_0 (by omega)).symm⟩
    · skip
      refine z_iconst 11 K dX9_in_10 rfl ?_
      refine z_goto (tgt := 15) K dX9_in_11 (by decide) ?_
      exact z_zret K rfl (by decide) dX9_in_15 ⟨rfl, by first | exact (b2i_1 (by omega)).symm | exact (b2i_0 (by omega)).symm⟩
set_option maxHeartbeats 4000000 in
set_option maxRecDepth 100000 in
theorem m_X9_arePages (l : Launch) (g : zG) (C : Nat → va_E) (v : Int) (hv : -2147483648 ≤ v ∧ v < 2147483648) : Met l yX9_arePages wsX9_arePages ({ frames := 1, cells := 0, slots := 0, locals := 22 } : Room) (zPre g C [.int (iZ v)]) (zQi g (fun z C' => C' = C ∧ z = b2i (decide (1 ≤ v ∧ v ≤ 60)))) 0 0 (zA g) := by
  refine z_enter RX9 rfl (by decide) rfl (Nat.le_of_ble_eq_true rfl) ?_
  intro p e s m args below meth c K harg
  refine z_sub (lv' := [(0, .int (iZ v))]) [0] rfl ?_
  refine z_iload_n 1 K dX9_arePages_0 rfl rfl 0 rfl ?_
  refine z_iconst 2 K dX9_arePages_1 rfl ?_
  refine z_bipush 4 K dX9_arePages_2 rfl rfl ?_
  refine z_vSi (As := [.int (iZ v), .int (iZ 1), .int (iZ 60)]) (rest := []) 7 K (m_X9_in l g _ v 1 60 (by omega) (by omega) (by omega)) (va_cwS 3 K.1.2.2.2.2 gX9_arePages_X9_in rfl rfl rfl (by decide +kernel) ⟨Nat.le_of_ble_eq_true rfl, Nat.le_of_ble_eq_true rfl⟩) rfl (Nat.le_of_ble_eq_true rfl) dX9_arePages_4 rfl ⟨Nat.le_of_ble_eq_true rfl, Nat.le_of_ble_eq_true rfl⟩ rfl (fun z_1 C_2 hp_4 => ?_)
  refine z_C hp_4.1 ?_
  refine z_top (b2i (decide (1 ≤ v ∧ v ≤ 60))) hp_4.2 ?_
  exact z_zret K rfl (b2i_rng _) dX9_arePages_7 ⟨rfl, rfl⟩
set_option maxHeartbeats 4000000 in
set_option maxRecDepth 100000 in
theorem m_X9_isParagraph (l : Launch) (g : zG) (C : Nat → va_E) (v : Int) (hv : -2147483648 ≤ v ∧ v < 2147483648) : Met l yX9_isParagraph wsX9_isParagraph ({ frames := 1, cells := 0, slots := 0, locals := 22 } : Room) (zPre g C [.int (iZ v)]) (zQi g (fun z C' => C' = C ∧ z = b2i (decide (0 ≤ v ∧ v ≤ 11)))) 0 0 (zA g) := by
  refine z_enter RX9 rfl (by decide) rfl (Nat.le_of_ble_eq_true rfl) ?_
  intro p e s m args below meth c K harg
  refine z_sub (lv' := [(0, .int (iZ v))]) [0] rfl ?_
  refine z_iload_n 1 K dX9_isParagraph_0 rfl rfl 0 rfl ?_
  refine z_iconst 2 K dX9_isParagraph_1 rfl ?_
  refine z_bipush 4 K dX9_isParagraph_2 rfl rfl ?_
  refine z_vSi (As := [.int (iZ v), .int (iZ 0), .int (iZ 11)]) (rest := []) 7 K (m_X9_in l g _ v 0 11 (by omega) (by omega) (by omega)) (va_cwS 3 K.1.2.2.2.2 gX9_isParagraph_X9_in rfl rfl rfl (by decide +kernel) ⟨Nat.le_of_ble_eq_true rfl, Nat.le_of_ble_eq_true rfl⟩) rfl (Nat.le_of_ble_eq_true rfl) dX9_isParagraph_4 rfl ⟨Nat.le_of_ble_eq_true rfl, Nat.le_of_ble_eq_true rfl⟩ rfl (fun z_1 C_2 hp_4 => ?_)
  refine z_C hp_4.1 ?_
  refine z_top (b2i (decide (0 ≤ v ∧ v ≤ 11))) hp_4.2 ?_
  exact z_zret K rfl (b2i_rng _) dX9_isParagraph_7 ⟨rfl, rfl⟩
set_option maxHeartbeats 4000000 in
set_option maxRecDepth 100000 in
theorem m_X9_number (l : Launch) (g : zG) (C : Nat → va_E) (q : Nat) (k : Int) (f : Int → Int) (hz_hC : q < zN) (hC : C q = eI g 449 f) (hk : 0 ≤ k ∧ k < 200) : Met l yX9_number wsX9_number ({ frames := 0, cells := 0, slots := 0, locals := 0 } : Room) (zPre g C [.ref (aD g q), .int (iZ k)]) (zQi g (fun z C' => C' = C ∧ z = f (2 * k + 3))) 0 0 (zA g) := by
  refine z_enter RX9 rfl (by decide) rfl (Nat.le_of_ble_eq_true rfl) ?_
  intro p e s m args below meth c K harg
  refine z_sub (lv' := [(0, .ref (aD g q)), (1, .int (iZ k))]) [0, 1] rfl ?_
  refine z_aload_n 1 K dX9_number_0 rfl rfl 0 rfl ?_
  refine z_iconst 2 K dX9_number_1 rfl ?_
  refine z_iconst 3 K dX9_number_2 rfl ?_
  refine z_iload_n 4 K dX9_number_3 rfl rfl 1 rfl ?_
  refine z_imul 5 K dX9_number_4 rfl ?_
  refine z_iadd 6 K dX9_number_5 rfl ?_
  refine z_top (2 * k + 3) (by omega) ?_
  refine z_iald (f := f) 7 K q hz_hC hC (by omega) (by omega) (by decide) dX9_number_6 rfl ?_
  exact z_iret K rfl dX9_number_7 ⟨rfl, rfl⟩
set_option maxHeartbeats 4000000 in
set_option maxRecDepth 100000 in
theorem m_X9_pagesOf (l : Launch) (g : zG) (C : Nat → va_E) (q : Nat) (k : Int) (f : Int → Int) (hz_hC : q < zN) (hC : C q = eI g 449 f) (hk : 0 ≤ k ∧ k < 200) : Met l yX9_pagesOf wsX9_pagesOf ({ frames := 0, cells := 0, slots := 0, locals := 0 } : Room) (zPre g C [.ref (aD g q), .int (iZ k)]) (zQi g (fun z C' => C' = C ∧ z = f (2 * k + 4))) 0 0 (zA g) := by
  refine z_enter RX9 rfl (by decide) rfl (Nat.le_of_ble_eq_true rfl) ?_
  intro p e s m args below meth c K harg
  refine z_sub (lv' := [(0, .ref (aD g q)), (1, .int (iZ k))]) [0, 1] rfl ?_
  refine z_aload_n 1 K dX9_pagesOf_0 rfl rfl 0 rfl ?_
  refine z_iconst 2 K dX9_pagesOf_1 rfl ?_
  refine z_iconst 3 K dX9_pagesOf_2 rfl ?_
  refine z_iload_n 4 K dX9_pagesOf_3 rfl rfl 1 rfl ?_
  refine z_imul 5 K dX9_pagesOf_4 rfl ?_
  refine z_iadd 6 K dX9_pagesOf_5 rfl ?_
  refine z_top (2 * k + 3) (by omega) ?_
  refine z_iconst 7 K dX9_pagesOf_6 rfl ?_
  refine z_iadd 8 K dX9_pagesOf_7 rfl ?_
  refine z_top (2 * k + 4) (by omega) ?_
  refine z_iald (f := f) 9 K q hz_hC hC (by omega) (by omega) (by decide) dX9_pagesOf_8 rfl ?_
  exact z_iret K rfl dX9_pagesOf_9 ⟨rfl, rfl⟩
set_option maxHeartbeats 4000000 in
set_option maxRecDepth 100000 in
theorem m_X9_index (l : Launch) (g : zG) (C : Nat → va_E) (a : Int) (b : Int)  : Met l yX9_index wsX9_index ({ frames := 0, cells := 0, slots := 0, locals := 0 } : Room) (zPre g C [.int (iZ a), .int (iZ b)]) (zQi g (fun z C' => C' = C ∧ z = 32 * a + 2 * b + 66)) 0 0 (zA g) := by
  refine z_enter RX9 rfl (by decide) rfl (Nat.le_of_ble_eq_true rfl) ?_
  intro p e s m args below meth c K harg
  refine z_sub (lv' := [(0, .int (iZ a)), (1, .int (iZ b))]) [0, 1] rfl ?_
  refine z_bipush 2 K dX9_index_0 rfl rfl ?_
  refine z_bipush 4 K dX9_index_2 rfl rfl ?_
  refine z_iload_n 5 K dX9_index_4 rfl rfl 0 rfl ?_
  refine z_imul 6 K dX9_index_5 rfl ?_
  refine z_iadd 7 K dX9_index_6 rfl ?_
  refine z_top (32 * a + 65) (by omega) ?_
  refine z_iconst 8 K dX9_index_7 rfl ?_
  refine z_iadd 9 K dX9_index_8 rfl ?_
  refine z_top (32 * a + 66) (by omega) ?_
  refine z_iconst 10 K dX9_index_9 rfl ?_
  refine z_iload_n 11 K dX9_index_10 rfl rfl 1 rfl ?_
  refine z_imul 12 K dX9_index_11 rfl ?_
  refine z_iadd 13 K dX9_index_12 rfl ?_
  refine z_top (32 * a + 2 * b + 66) (by omega) ?_
  exact z_iret K rfl dX9_index_13 ⟨rfl, rfl⟩
set_option maxHeartbeats 4000000 in
set_option maxRecDepth 100000 in
theorem m_X9_cites (l : Launch) (g : zG) (C : Nat → va_E) (q : Nat) (a : Int) (f : Int → Int) (hz_hC : q < zN) (hC : C q = eI g 449 f) (hpa : 0 ≤ a ∧ a < 12) : Met l yX9_cites wsX9_cites ({ frames := 0, cells := 0, slots := 0, locals := 0 } : Room) (zPre g C [.ref (aD g q), .int (iZ a)]) (zQi g (fun z C' => C' = C ∧ z = f (32 * a + 65))) 0 0 (zA g) := by
  refine z_enter RX9 rfl (by decide) rfl (Nat.le_of_ble_eq_true rfl) ?_
  intro p e s m args below meth c K harg
  refine z_sub (lv' := [(0, .ref (aD g q)), (1, .int (iZ a))]) [0, 1] rfl ?_
  refine z_aload_n 1 K dX9_cites_0 rfl rfl 0 rfl ?_
  refine z_bipush 3 K dX9_cites_1 rfl rfl ?_
  refine z_bipush 5 K dX9_cites_3 rfl rfl ?_
  refine z_iload_n 6 K dX9_cites_5 rfl rfl 1 rfl ?_
  refine z_imul 7 K dX9_cites_6 rfl ?_
  refine z_iadd 8 K dX9_cites_7 rfl ?_
  refine z_top (32 * a + 65) (by omega) ?_
  refine z_iald (f := f) 9 K q hz_hC hC (by omega) (by omega) (by decide) dX9_cites_8 rfl ?_
  exact z_iret K rfl dX9_cites_9 ⟨rfl, rfl⟩
set_option maxHeartbeats 4000000 in
set_option maxRecDepth 100000 in
theorem m_X9_placeOf (l : Launch) (g : zG) (C : Nat → va_E) (q : Nat) (x : Int) (f : Int → Int) (hz_hC : q < zN) (hC : C q = eI g 449 f) (hw : WR f) (hx : -2147483648 ≤ x ∧ x < 2147483648) : Met l yX9_placeOf wsX9_placeOf ({ frames := 0, cells := 0, slots := 0, locals := 0 } : Room) (zPre g C [.ref (aD g q), .int (iZ x)]) (zQi g (fun z C' => C' = C ∧ z = sPl f x)) 0 0 (zA g) := by
  refine z_enter RX9 rfl (by decide) rfl (Nat.le_of_ble_eq_true rfl) ?_
  intro p e s m args below meth c K harg
  refine z_sub (lv' := [(0, .ref (aD g q)), (1, .int (iZ x))]) [0, 1] rfl ?_
  have hn := hw.2.1
  refine z_iconst 1 K dX9_placeOf_0 rfl ?_
  refine z_istore_n (lv' := [(2, .int (iZ 0)), (0, .ref (aD g q)), (1, .int (iZ x))]) 2 K dX9_placeOf_1 rfl rfl (by decide) rfl ?_
  have loop_2 : ∀ (n9 : Nat) (k : Int), (0 ≤ k ∧ k ≤ f 1) → (∀ j, 0 ≤ j → j < k → f (2 * j + 3) ≠ x) → (f 1 - k < (n9 : Int)) → Z p l e (({ frames := 0, cells := 0, slots := 0, locals := 0 } : Room)) s m args below meth c (MQ below (zQi g (fun z C' => C' = C ∧ z = sPl f x)) args s 0 0 (zA g)) g 3 0 0 (C) [(0, .ref (aD g q)), (1, .int (iZ x)), (2, .int (iZ k))] 2 [] := by
    intro n9
    induction n9 with
    | zero =>
      intro k hk hno hm9
      exact absurd hm9 (by omega)
    | succ n9 ih9 =>
      intro k hk hno hm_2
      have ih_2 := ih9
      clear ih9
      refine z_iload_n 3 K dX9_placeOf_2 rfl rfl 2 rfl ?_
      refine z_aload_n 4 K dX9_placeOf_3 rfl rfl 0 rfl ?_
      refine z_iconst 5 K dX9_placeOf_4 rfl ?_
      refine z_iald (f := f) 6 K q hz_hC hC (by decide) (by decide) (by decide) dX9_placeOf_5 rfl ?_
      have hr_5 := hw.1 1
      refine z_icmp_ge (tgt := 28) 9 K dX9_placeOf_6 rfl (by decide) (by omega) (by omega) (fun c_6 => ?_) (fun c_6 => ?_)
      · skip
        refine z_iconst 29 K dX9_placeOf_28 rfl ?_
        exact z_iret K rfl dX9_placeOf_29 ⟨rfl, (zfind_no (fun j h0 h1 => hno j h0 (by omega))).symm⟩
      · skip
        refine z_aload_n 10 K dX9_placeOf_9 rfl rfl 0 rfl ?_
        refine z_iconst 11 K dX9_placeOf_10 rfl ?_
        refine z_iconst 12 K dX9_placeOf_11 rfl ?_
        refine z_iload_n 13 K dX9_placeOf_12 rfl rfl 2 rfl ?_
        refine z_imul 14 K dX9_placeOf_13 rfl ?_
        refine z_iadd 15 K dX9_placeOf_14 rfl ?_
        refine z_top (2 * k + 3) (by omega) ?_
        refine z_iald (f := f) 16 K q hz_hC hC (by omega) (by omega) (by decide) dX9_placeOf_15 rfl ?_
        have hr_15 := hw.1 (2 * k + 3)
        refine z_iload_n 17 K dX9_placeOf_16 rfl rfl 1 rfl ?_
        refine z_icmp_ne (tgt := 22) 20 K dX9_placeOf_17 rfl (by decide) (by omega) (by omega) (fun c_17 => ?_) (fun c_17 => ?_)
        · skip
          refine z_iinc (lv' := [(2, .int (iZ (k + 1))), (0, .ref (aD g q)), (1, .int (iZ x))]) 25 K dX9_placeOf_22 rfl (k + 1) rfl 2 rfl (by decide) rfl ?_
          refine z_goto (tgt := 2) K dX9_placeOf_25 (by decide) ?_
          refine z_sub [1, 2, 0] rfl ?_
          exact ih_2 (k + 1) (by omega) (lt_step hno c_17) (by omega)
        · skip
          refine z_iload_n 21 K dX9_placeOf_20 rfl rfl 2 rfl ?_
          exact z_iret K rfl dX9_placeOf_21 ⟨rfl, (zfind_at (by omega) (by omega) hno c_17).symm⟩
  refine z_sub [1, 2, 0] rfl ?_
  exact loop_2 (Int.toNat (f 1 - 0) + 1) 0 (by omega) (fun j h0 h1 => absurd h1 (by omega)) (by omega)
set_option maxHeartbeats 4000000 in
set_option maxRecDepth 100000 in
theorem m_X9_letter (l : Launch) (g : zG) (C : Nat → va_E) (q : Nat) (a : Int) (b : Int) (f : Int → Int) (hz_hC : q < zN) (hC : C q = eI g 449 f) (hw : WR f) (hpa : 0 ≤ a ∧ a < 12) (hpb : 0 ≤ b ∧ b < 6) : Met l yX9_letter wsX9_letter ({ frames := 1, cells := 0, slots := 0, locals := 22 } : Room) (zPre g C [.ref (aD g q), .int (iZ a), .int (iZ b)]) (zQi g (fun z C' => C' = C ∧ z = sLet f a b)) 0 0 (zA g) := by
  refine z_enter RX9 rfl (by decide) rfl (Nat.le_of_ble_eq_true rfl) ?_
  intro p e s m args below meth c K harg
  refine z_sub (lv' := [(0, .ref (aD g q)), (1, .int (iZ a)), (2, .int (iZ b))]) [0, 1, 2] rfl ?_
  refine z_aload_n 1 K dX9_letter_0 rfl rfl 0 rfl ?_
  refine z_aload_n 2 K dX9_letter_1 rfl rfl 0 rfl ?_
  refine z_iload_n 3 K dX9_letter_2 rfl rfl 1 rfl ?_
  refine z_iload_n 4 K dX9_letter_3 rfl rfl 2 rfl ?_
  refine z_vSi (As := [.int (iZ a), .int (iZ b)]) (rest := [.ref (aD g q), .ref (aD g q)]) 7 K (m_X9_index l g _ a b ) (va_cwS 2 K.1.2.2.2.2 gX9_letter_X9_index rfl rfl rfl (by decide +kernel) ⟨Nat.le_of_ble_eq_true rfl, Nat.le_of_ble_eq_true rfl⟩) rfl (Nat.le_of_ble_eq_true rfl) dX9_letter_4 rfl ⟨Nat.le_of_ble_eq_true rfl, Nat.le_of_ble_eq_true rfl⟩ rfl (fun z_1 C_2 hp_4 => ?_)
  refine z_C hp_4.1 ?_
  refine z_top (32 * a + 2 * b + 66) hp_4.2 ?_
  refine z_iald (f := f) 8 K q hz_hC hC (by omega) (by omega) (by decide) dX9_letter_7 rfl ?_
  have hr_7 := hw.1 (32 * a + 2 * b + 66)
  refine z_vSi (As := [.ref (aD g q), .int (iZ (f (32 * a + 2 * b + 66)))]) (rest := []) 11 K (m_X9_placeOf l g _ q (f (32 * a + 2 * b + 66)) f hz_hC hC hw (by omega)) (va_cwS 2 K.1.2.2.2.2 gX9_letter_X9_placeOf rfl rfl rfl (by decide +kernel) ⟨Nat.le_of_ble_eq_true rfl, Nat.le_of_ble_eq_true rfl⟩) rfl (Nat.le_of_ble_eq_true rfl) dX9_letter_8 rfl ⟨Nat.le_of_ble_eq_true rfl, Nat.le_of_ble_eq_true rfl⟩ rfl (fun z_3 C_4 hp_8 => ?_)
  refine z_C hp_8.1 ?_
  refine z_top (sPl f (f (32 * a + 2 * b + 66))) hp_8.2 ?_
  exact z_iret K rfl dX9_letter_11 ⟨rfl, rfl⟩
set_option maxHeartbeats 4000000 in
set_option maxRecDepth 100000 in
theorem m_X9_isLost (l : Launch) (g : zG) (C : Nat → va_E) (q : Nat) (a : Int) (b : Int) (f : Int → Int) (hz_hC : q < zN) (hC : C q = eI g 449 f) (hw : WR f) (hpa : 0 ≤ a ∧ a < 12) (hpb : 0 ≤ b ∧ b < 6) : Met l yX9_isLost wsX9_isLost ({ frames := 2, cells := 0, slots := 0, locals := 44 } : Room) (zPre g C [.ref (aD g q), .int (iZ a), .int (iZ b)]) (zQi g (fun z C' => C' = C ∧ z = b2i (sLost f a b))) 0 0 (zA g) := by
  refine z_enter RX9 rfl (by decide) rfl (Nat.le_of_ble_eq_true rfl) ?_
  intro p e s m args below meth c K harg
  refine z_sub (lv' := [(0, .ref (aD g q)), (1, .int (iZ a)), (2, .int (iZ b))]) [0, 1, 2] rfl ?_
  refine z_aload_n 1 K dX9_isLost_0 rfl rfl 0 rfl ?_
  refine z_iload_n 2 K dX9_isLost_1 rfl rfl 1 rfl ?_
  refine z_iload_n 3 K dX9_isLost_2 rfl rfl 2 rfl ?_
  refine z_vSi (As := [.ref (aD g q), .int (iZ a), .int (iZ b)]) (rest := []) 6 K (m_X9_letter l g _ q a b f hz_hC hC hw (by omega) (by omega)) (va_cwS 3 K.1.2.2.2.2 gX9_isLost_X9_letter rfl rfl rfl (by decide +kernel) ⟨Nat.le_of_ble_eq_true rfl, Nat.le_of_ble_eq_true rfl⟩) rfl (Nat.le_of_ble_eq_true rfl) dX9_isLost_3 rfl ⟨Nat.le_of_ble_eq_true rfl, Nat.le_of_ble_eq_true rfl⟩ rfl (fun z_1 C_2 hp_3 => ?_)
  refine z_C hp_3.1 ?_
  refine z_top (sLet f a b) hp_3.2 ?_
  have hl := sLet_rng hw a b
  have hn := hw.2.1
  refine z_istore_n (lv' := [(3, .int (iZ (sLet f a b))), (0, .ref (aD g q)), (1, .int (iZ a)), (2, .int (iZ b))]) 7 K dX9_isLost_6 rfl rfl (by decide) rfl ?_
  refine z_iload_n 8 K dX9_isLost_7 rfl rfl 0 rfl ?_
  refine z_iconst 9 K dX9_isLost_8 rfl ?_
  refine z_icmp_eq (tgt := 29) 12 K dX9_isLost_9 rfl (by decide) (by omega) (by decide) (fun c_9 => ?_) (fun c_9 => ?_)
  · skip
    refine z_iconst 30 K dX9_isLost_29 rfl ?_
    refine z_goto (tgt := 34) K dX9_isLost_30 (by decide) ?_
    exact z_zret K rfl (by decide) dX9_isLost_34 ⟨rfl, by unfold sLost; first | exact (b2i_1 (by omega)).symm | exact (b2i_0 (by omega)).symm⟩
  · skip
    refine z_aload_n 13 K dX9_isLost_12 rfl rfl 1 rfl ?_
    refine z_iload_n 14 K dX9_isLost_13 rfl rfl 2 rfl ?_
    refine z_iload_n 15 K dX9_isLost_14 rfl rfl 3 rfl ?_
    refine z_vSi (As := [.int (iZ a), .int (iZ b)]) (rest := [.ref (aD g q)]) 18 K (m_X9_index l g _ a b ) (va_cwS 2 K.1.2.2.2.2 gX9_isLost_X9_index rfl rfl rfl (by decide +kernel) ⟨Nat.le_of_ble_eq_true rfl, Nat.le_of_ble_eq_true rfl⟩) rfl (Nat.le_of_ble_eq_true rfl) dX9_isLost_15 rfl ⟨Nat.le_of_ble_eq_true rfl, Nat.le_of_ble_eq_true rfl⟩ rfl (fun z_3 C_4 hp_15 => ?_)
    refine z_C hp_15.1 ?_
    refine z_top (32 * a + 2 * b + 66) hp_15.2 ?_
    refine z_iconst 19 K dX9_isLost_18 rfl ?_
    refine z_iadd 20 K dX9_isLost_19 rfl ?_
    refine z_top (32 * a + 2 * b + 67) (by omega) ?_
    refine z_iald (f := f) 21 K q hz_hC hC (by omega) (by omega) (by decide) dX9_isLost_20 rfl ?_
    have hr_20 := hw.1 (32 * a + 2 * b + 67)
    refine z_aload_n 22 K dX9_isLost_21 rfl rfl 1 rfl ?_
    refine z_iload_n 23 K dX9_isLost_22 rfl rfl 0 rfl ?_
    refine z_vSi (As := [.ref (aD g q), .int (iZ (sLet f a b))]) (rest := [.int (iZ (f (32 * a + 2 * b + 67)))]) 26 K (m_X9_pagesOf l g _ q (sLet f a b) f hz_hC hC (by omega)) (va_cwS 2 K.1.2.2.2.2 gX9_isLost_X9_pagesOf rfl rfl rfl (by decide +kernel) ⟨Nat.le_of_ble_eq_true rfl, Nat.le_of_ble_eq_true rfl⟩) rfl (Nat.le_of_ble_eq_true rfl) dX9_isLost_23 rfl ⟨Nat.le_of_ble_eq_true rfl, Nat.le_of_ble_eq_true rfl⟩ rfl (fun z_5 C_6 hp_23 => ?_)
    refine z_C hp_23.1 ?_
    refine z_top (f (2 * (sLet f a b) + 4)) hp_23.2 ?_
    have hr23 := hw.1 (2 * sLet f a b + 4)
    refine z_icmp_le (tgt := 33) 29 K dX9_isLost_26 rfl (by decide) (by omega) (by omega) (fun c_26 => ?_) (fun c_26 => ?_)
    · skip
      refine z_iconst 34 K dX9_isLost_33 rfl ?_
      exact z_zret K rfl (by decide) dX9_isLost_34 ⟨rfl, by unfold sLost; first | exact (b2i_1 (by omega)).symm | exact (b2i_0 (by omega)).symm⟩
    · skip
      refine z_iconst 30 K dX9_isLost_29 rfl ?_
      refine z_goto (tgt := 34) K dX9_isLost_30 (by decide) ?_
      exact z_zret K rfl (by decide) dX9_isLost_34 ⟨rfl, by unfold sLost; first | exact (b2i_1 (by omega)).symm | exact (b2i_0 (by omega)).symm⟩
set_option maxHeartbeats 4000000 in
set_option maxRecDepth 100000 in
theorem m_X9_lost (l : Launch) (g : zG) (C : Nat → va_E) (q : Nat) (a : Int) (f : Int → Int) (hz_hC : q < zN) (hC : C q = eI g 449 f) (hw : WR f) (hpa : 0 ≤ a ∧ a < 12) : Met l yX9_lost wsX9_lost ({ frames := 3, cells := 0, slots := 0, locals := 67 } : Room) (zPre g C [.ref (aD g q), .int (iZ a)]) (zQi g (fun z C' => C' = C ∧ z = sLostN f a)) 0 0 (zA g) := by
  refine z_enter RX9 rfl (by decide) rfl (Nat.le_of_ble_eq_true rfl) ?_
  intro p e s m args below meth c K harg
  refine z_sub (lv' := [(0, .ref (aD g q)), (1, .int (iZ a))]) [0, 1] rfl ?_
  have hpc := hw.2.2.1 a hpa.1 hpa.2
  refine z_iconst 1 K dX9_lost_0 rfl ?_
  refine z_istore_n (lv' := [(2, .int (iZ 0)), (0, .ref (aD g q)), (1, .int (iZ a))]) 2 K dX9_lost_1 rfl rfl (by decide) rfl ?_
  refine z_iconst 3 K dX9_lost_2 rfl ?_
  refine z_istore_n (lv' := [(3, .int (iZ 0)), (2, .int (iZ 0)), (0, .ref (aD g q)), (1, .int (iZ a))]) 4 K dX9_lost_3 rfl rfl (by decide) rfl ?_
  have loop_4 : ∀ (n9 : Nat) (n k : Int), (0 ≤ k ∧ k ≤ f (32 * a + 65)) → (n = zsum (fun b => b2i (sLost f a b)) k) → (f (32 * a + 65) - k < (n9 : Int)) → Z p l e (({ frames := 3, cells := 0, slots := 0, locals := 67 } : Room)) s m args below meth c (MQ below (zQi g (fun z C' => C' = C ∧ z = sLostN f a)) args s 0 0 (zA g)) g 4 0 0 (C) [(0, .ref (aD g q)), (1, .int (iZ a)), (2, .int (iZ n)), (3, .int (iZ k))] 4 [] := by
    intro n9
    induction n9 with
    | zero =>
      intro n k hk hn hm9
      exact absurd hm9 (by omega)
    | succ n9 ih9 =>
      intro n k hk hn hm_4
      have ih_4 := ih9
      clear ih9
      refine z_iload_n 5 K dX9_lost_4 rfl rfl 3 rfl ?_
      refine z_aload_n 6 K dX9_lost_5 rfl rfl 0 rfl ?_
      refine z_iload_n 7 K dX9_lost_6 rfl rfl 1 rfl ?_
      refine z_vSi (As := [.ref (aD g q), .int (iZ a)]) (rest := [.int (iZ k)]) 10 K (m_X9_cites l g _ q a f hz_hC hC (by omega)) (va_cwS 2 K.1.2.2.2.2 gX9_lost_X9_cites rfl rfl rfl (by decide +kernel) ⟨Nat.le_of_ble_eq_true rfl, Nat.le_of_ble_eq_true rfl⟩) rfl (Nat.le_of_ble_eq_true rfl) dX9_lost_7 rfl ⟨Nat.le_of_ble_eq_true rfl, Nat.le_of_ble_eq_true rfl⟩ rfl (fun z_1 C_2 hp_7 => ?_)
      refine z_C hp_7.1 ?_
      refine z_top (f (32 * a + 65)) hp_7.2 ?_
      refine z_icmp_ge (tgt := 36) 13 K dX9_lost_10 rfl (by decide) (by omega) (by omega) (fun c_10 => ?_) (fun c_10 => ?_)
      · skip
        refine z_iload_n 37 K dX9_lost_36 rfl rfl 2 rfl ?_
        exact z_iret K rfl dX9_lost_37 ⟨rfl, by rw [hn, show k = f (32 * a + 65) by omega]; rfl⟩
      · skip
        refine z_iload_n 14 K dX9_lost_13 rfl rfl 2 rfl ?_
        refine z_aload_n 15 K dX9_lost_14 rfl rfl 0 rfl ?_
        refine z_iload_n 16 K dX9_lost_15 rfl rfl 1 rfl ?_
        refine z_iload_n 17 K dX9_lost_16 rfl rfl 3 rfl ?_
        refine z_vSi (As := [.ref (aD g q), .int (iZ a), .int (iZ k)]) (rest := [.int (iZ n)]) 20 K (m_X9_isLost l g _ q a k f hz_hC hC hw (by omega) (by omega)) (va_cwS 3 K.1.2.2.2.2 gX9_lost_X9_isLost rfl rfl rfl (by decide +kernel) ⟨Nat.le_of_ble_eq_true rfl, Nat.le_of_ble_eq_true rfl⟩) rfl (Nat.le_of_ble_eq_true rfl) dX9_lost_17 rfl ⟨Nat.le_of_ble_eq_true rfl, Nat.le_of_ble_eq_true rfl⟩ rfl (fun z_3 C_4 hp_17 => ?_)
        refine z_C hp_17.1 ?_
        refine z_top (b2i (sLost f a k)) hp_17.2 ?_
        refine z_bool01 23 24 27 28 K (b2i_rng _) dX9_lost_20 dX9_lost_23 dX9_lost_24 dX9_lost_27 rfl rfl (by decide) (by decide) rfl ?_
        refine z_iadd 29 K dX9_lost_28 rfl ?_
        refine z_top (b2i (sLost f a k) + n) (by omega) ?_
        refine z_istore_n (lv' := [(2, .int (iZ (b2i (sLost f a k) + n))), (0, .ref (aD g q)), (1, .int (iZ a)), (3, .int (iZ k))]) 30 K dX9_lost_29 rfl rfl (by decide) rfl ?_
        refine z_iinc (lv' := [(3, .int (iZ (k + 1))), (2, .int (iZ (b2i (sLost f a k) + n))), (0, .ref (aD g q)), (1, .int (iZ a))]) 33 K dX9_lost_30 rfl (k + 1) rfl 3 rfl (by decide) rfl ?_
        refine z_goto (tgt := 4) K dX9_lost_33 (by decide) ?_
        refine z_sub [2, 3, 1, 0] rfl ?_
        exact ih_4 (b2i (sLost f a k) + n) (k + 1) (by omega) (by rw [zsum_1 _ (by omega)]; omega) (by omega)
  refine z_sub [2, 3, 1, 0] rfl ?_
  exact loop_4 (Int.toNat (f (32 * a + 65) - 0) + 1) 0 0 (by omega) rfl (by omega)
set_option maxHeartbeats 4000000 in
set_option maxRecDepth 100000 in
theorem m_X9_allLost (l : Launch) (g : zG) (C : Nat → va_E) (q : Nat) (f : Int → Int) (hz_hC : q < zN) (hC : C q = eI g 449 f) (hw : WR f) : Met l yX9_allLost wsX9_allLost ({ frames := 4, cells := 0, slots := 0, locals := 90 } : Room) (zPre g C [.ref (aD g q)]) (zQi g (fun z C' => C' = C ∧ z = sAllLost f)) 0 0 (zA g) := by
  refine z_enter RX9 rfl (by decide) rfl (Nat.le_of_ble_eq_true rfl) ?_
  intro p e s m args below meth c K harg
  refine z_sub (lv' := [(0, .ref (aD g q))]) [0] rfl ?_
  refine z_iconst 1 K dX9_allLost_0 rfl ?_
  refine z_istore_n (lv' := [(1, .int (iZ 0)), (0, .ref (aD g q))]) 2 K dX9_allLost_1 rfl rfl (by decide) rfl ?_
  refine z_iconst 3 K dX9_allLost_2 rfl ?_
  refine z_istore_n (lv' := [(2, .int (iZ 0)), (1, .int (iZ 0)), (0, .ref (aD g q))]) 4 K dX9_allLost_3 rfl rfl (by decide) rfl ?_
  have loop_4 : ∀ (n9 : Nat) (n k : Int), (0 ≤ k ∧ k ≤ 12) → (n = zsum (fun a => sLostN f a) k) → (12 - k < (n9 : Int)) → Z p l e (({ frames := 4, cells := 0, slots := 0, locals := 90 } : Room)) s m args below meth c (MQ below (zQi g (fun z C' => C' = C ∧ z = sAllLost f)) args s 0 0 (zA g)) g 3 0 0 (C) [(0, .ref (aD g q)), (1, .int (iZ n)), (2, .int (iZ k))] 4 [] := by
    intro n9
    induction n9 with
    | zero =>
      intro n k hk hn hm9
      exact absurd hm9 (by omega)
    | succ n9 ih9 =>
      intro n k hk hn hm_4
      have ih_4 := ih9
      clear ih9
      refine z_iload_n 5 K dX9_allLost_4 rfl rfl 2 rfl ?_
      refine z_bipush 7 K dX9_allLost_5 rfl rfl ?_
      refine z_icmp_ge (tgt := 24) 10 K dX9_allLost_7 rfl (by decide) (by omega) (by decide) (fun c_7 => ?_) (fun c_7 => ?_)
      · skip
        refine z_iload_n 25 K dX9_allLost_24 rfl rfl 1 rfl ?_
        exact z_iret K rfl dX9_allLost_25 ⟨rfl, by rw [hn, show k = 12 by omega]; rfl⟩
      · skip
        refine z_iload_n 11 K dX9_allLost_10 rfl rfl 1 rfl ?_
        refine z_aload_n 12 K dX9_allLost_11 rfl rfl 0 rfl ?_
        refine z_iload_n 13 K dX9_allLost_12 rfl rfl 2 rfl ?_
        refine z_vSi (As := [.ref (aD g q), .int (iZ k)]) (rest := [.int (iZ n)]) 16 K (m_X9_lost l g _ q k f hz_hC hC hw (by omega)) (va_cwS 2 K.1.2.2.2.2 gX9_allLost_X9_lost rfl rfl rfl (by decide +kernel) ⟨Nat.le_of_ble_eq_true rfl, Nat.le_of_ble_eq_true rfl⟩) rfl (Nat.le_of_ble_eq_true rfl) dX9_allLost_13 rfl ⟨Nat.le_of_ble_eq_true rfl, Nat.le_of_ble_eq_true rfl⟩ rfl (fun z_1 C_2 hp_13 => ?_)
        refine z_C hp_13.1 ?_
        refine z_top (sLostN f k) hp_13.2 ?_
        refine z_iadd 17 K dX9_allLost_16 rfl ?_
        refine z_top (n + sLostN f k) (by omega) ?_
        refine z_istore_n (lv' := [(1, .int (iZ (n + sLostN f k))), (0, .ref (aD g q)), (2, .int (iZ k))]) 18 K dX9_allLost_17 rfl rfl (by decide) rfl ?_
        refine z_iinc (lv' := [(2, .int (iZ (k + 1))), (1, .int (iZ (n + sLostN f k))), (0, .ref (aD g q))]) 21 K dX9_allLost_18 rfl (k + 1) rfl 2 rfl (by decide) rfl ?_
        refine z_goto (tgt := 4) K dX9_allLost_21 (by decide) ?_
        refine z_sub [2, 1, 0] rfl ?_
        exact ih_4 (n + sLostN f k) (k + 1) (by omega) (by rw [zsum_1 _ (by omega)]; omega) (by omega)
  refine z_sub [2, 1, 0] rfl ?_
  exact loop_4 (Int.toNat (12 - 0) + 1) 0 0 (by omega) rfl (by omega)
set_option maxHeartbeats 4000000 in
set_option maxRecDepth 100000 in
theorem m_X9_isStale (l : Launch) (g : zG) (C : Nat → va_E) (q : Nat) (a : Int) (f : Int → Int) (hz_hC : q < zN) (hC : C q = eI g 449 f) (hw : WR f) (hpa : 0 ≤ a ∧ a < 12) : Met l yX9_isStale wsX9_isStale ({ frames := 3, cells := 0, slots := 0, locals := 67 } : Room) (zPre g C [.ref (aD g q), .int (iZ a)]) (zQi g (fun z C' => C' = C ∧ z = b2i (sStale f a))) 0 0 (zA g) := by
  refine z_enter RX9 rfl (by decide) rfl (Nat.le_of_ble_eq_true rfl) ?_
  intro p e s m args below meth c K harg
  refine z_sub (lv' := [(0, .ref (aD g q)), (1, .int (iZ a))]) [0, 1] rfl ?_
  have hpc := hw.2.2.1 a hpa.1 hpa.2
  refine z_bipush 2 K dX9_isStale_0 rfl rfl ?_
  refine z_bipush 4 K dX9_isStale_2 rfl rfl ?_
  refine z_iload_n 5 K dX9_isStale_4 rfl rfl 1 rfl ?_
  refine z_imul 6 K dX9_isStale_5 rfl ?_
  refine z_iadd 7 K dX9_isStale_6 rfl ?_
  refine z_top (32 * a + 65) (by omega) ?_
  refine z_bipush 9 K dX9_isStale_7 rfl rfl ?_
  refine z_iadd 10 K dX9_isStale_9 rfl ?_
  refine z_top (32 * a + 78) (by omega) ?_
  refine z_istore_n (lv' := [(2, .int (iZ (32 * a + 78))), (0, .ref (aD g q)), (1, .int (iZ a))]) 11 K dX9_isStale_10 rfl rfl (by decide) rfl ?_
  refine z_aload_n 12 K dX9_isStale_11 rfl rfl 1 rfl ?_
  refine z_iload_n 13 K dX9_isStale_12 rfl rfl 0 rfl ?_
  refine z_iald (f := f) 14 K q hz_hC hC (by omega) (by omega) (by decide) dX9_isStale_13 rfl ?_
  have hr_13 := hw.1 (32 * a + 78)
  refine z_aload_n 15 K dX9_isStale_14 rfl rfl 1 rfl ?_
  refine z_iload_n 16 K dX9_isStale_15 rfl rfl 2 rfl ?_
  refine z_vSi (As := [.ref (aD g q), .int (iZ a)]) (rest := [.int (iZ (f (32 * a + 78)))]) 19 K (m_X9_cites l g _ q a f hz_hC hC (by omega)) (va_cwS 2 K.1.2.2.2.2 gX9_isStale_X9_cites rfl rfl rfl (by decide +kernel) ⟨Nat.le_of_ble_eq_true rfl, Nat.le_of_ble_eq_true rfl⟩) rfl (Nat.le_of_ble_eq_true rfl) dX9_isStale_16 rfl ⟨Nat.le_of_ble_eq_true rfl, Nat.le_of_ble_eq_true rfl⟩ rfl (fun z_1 C_2 hp_16 => ?_)
  refine z_C hp_16.1 ?_
  refine z_top (f (32 * a + 65)) hp_16.2 ?_
  have join_27_j_3 : ∀ (v : Int), (v = b2i (decide (f (32 * a + 78) ≠ f (32 * a + 65)))) → Z p l e (({ frames := 3, cells := 0, slots := 0, locals := 67 } : Room)) s m args below meth c (MQ below (zQi g (fun z C' => C' = C ∧ z = b2i (sStale f a))) args s 0 0 (zA g)) g 6 0 0 (C) [(2, .int (iZ (32 * a + 78))), (0, .ref (aD g q)), (1, .int (iZ a))] 27 [.int (iZ v)] := by
    intro v  hv
    refine z_istore_n (lv' := [(3, .int (iZ v)), (2, .int (iZ (32 * a + 78))), (0, .ref (aD g q)), (1, .int (iZ a))]) 28 K dX9_isStale_27 rfl rfl (by decide) rfl ?_
    refine z_iconst 29 K dX9_isStale_28 rfl ?_
    refine z_istore (lv' := [(4, .int (iZ 0)), (3, .int (iZ v)), (2, .int (iZ (32 * a + 78))), (0, .ref (aD g q)), (1, .int (iZ a))]) 31 K dX9_isStale_29 rfl (by decide) rfl ?_
    have loop_31 : ∀ (n9 : Nat) (v k : Int), (0 ≤ k ∧ k ≤ f (32 * a + 65)) → (v = b2i (decide (f (32 * a + 78) ≠ f (32 * a + 65)) || zany (fun b => sMis f a b) k)) → (f (32 * a + 65) - k < (n9 : Int)) → Z p l e (({ frames := 3, cells := 0, slots := 0, locals := 67 } : Room)) s m args below meth c (MQ below (zQi g (fun z C' => C' = C ∧ z = b2i (sStale f a))) args s 0 0 (zA g)) g 6 0 0 (C) [(0, .ref (aD g q)), (1, .int (iZ a)), (2, .int (iZ (32 * a + 78))), (3, .int (iZ v)), (4, .int (iZ k))] 31 [] := by
      intro n9
      induction n9 with
      | zero =>
        intro v k hk hv hm9
        exact absurd hm9 (by omega)
      | succ n9 ih9 =>
        intro v k hk hv hm_31
        have ih_31 := ih9
        clear ih9
        refine z_iload 33 K dX9_isStale_31 rfl 4 rfl ?_
        refine z_aload_n 34 K dX9_isStale_33 rfl rfl 0 rfl ?_
        refine z_iload_n 35 K dX9_isStale_34 rfl rfl 1 rfl ?_
        refine z_vSi (As := [.ref (aD g q), .int (iZ a)]) (rest := [.int (iZ k)]) 38 K (m_X9_cites l g _ q a f hz_hC hC (by omega)) (va_cwS 2 K.1.2.2.2.2 gX9_isStale_X9_cites rfl rfl rfl (by decide +kernel) ⟨Nat.le_of_ble_eq_true rfl, Nat.le_of_ble_eq_true rfl⟩) rfl (Nat.le_of_ble_eq_true rfl) dX9_isStale_35 rfl ⟨Nat.le_of_ble_eq_true rfl, Nat.le_of_ble_eq_true rfl⟩ rfl (fun z_4 C_5 hp_35 => ?_)
        refine z_C hp_35.1 ?_
        refine z_top (f (32 * a + 65)) hp_35.2 ?_
        refine z_icmp_ge (tgt := 124) 41 K dX9_isStale_38 rfl (by decide) (by omega) (by omega) (fun c_38 => ?_) (fun c_38 => ?_)
        · skip
          refine z_iload_n 125 K dX9_isStale_124 rfl rfl 3 rfl ?_
          have hfin : v = b2i (sStale f a) := by
            first
            | exact sStale_up hv (by omega) c_42
            | (unfold sStale; rw [hv, show k = f (32 * a + 65) by omega]; done)
          exact z_zret K rfl (by rw [hv]; exact b2i_rng _) dX9_isStale_125 ⟨rfl, hfin⟩
        · skip
          refine z_iload_n 42 K dX9_isStale_41 rfl rfl 3 rfl ?_
          refine z_if_ne (tgt := 124) 45 K dX9_isStale_42 rfl (by decide) (by have := b2i_rng (decide (f (32 * a + 78) ≠ f (32 * a + 65)) || zany (fun b => sMis f a b) k); omega) (fun c_42 => ?_) (fun c_42 => ?_)
          · skip
            refine z_iload_n 125 K dX9_isStale_124 rfl rfl 3 rfl ?_
            have hfin : v = b2i (sStale f a) := by
              first
              | exact sStale_up hv (by omega) c_42
              | (unfold sStale; rw [hv, show k = f (32 * a + 65) by omega]; done)
            exact z_zret K rfl (by rw [hv]; exact b2i_rng _) dX9_isStale_125 ⟨rfl, hfin⟩
          · skip
            refine z_iload_n 46 K dX9_isStale_45 rfl rfl 2 rfl ?_
            refine z_iconst 47 K dX9_isStale_46 rfl ?_
            refine z_iadd 48 K dX9_isStale_47 rfl ?_
            refine z_top (32 * a + 79) (by omega) ?_
            refine z_iconst 49 K dX9_isStale_48 rfl ?_
            refine z_iload 51 K dX9_isStale_49 rfl 4 rfl ?_
            refine z_imul 52 K dX9_isStale_51 rfl ?_
            refine z_iadd 53 K dX9_isStale_52 rfl ?_
            refine z_top (32 * a + 3 * k + 79) (by omega) ?_
            refine z_istore (lv' := [(5, .int (iZ (32 * a + 3 * k + 79))), (0, .ref (aD g q)), (1, .int (iZ a)), (2, .int (iZ (32 * a + 78))), (3, .int (iZ v)), (4, .int (iZ k))]) 55 K dX9_isStale_53 rfl (by decide) rfl ?_
            refine z_aload_n 56 K dX9_isStale_55 rfl rfl 1 rfl ?_
            refine z_iload 58 K dX9_isStale_56 rfl 0 rfl ?_
            refine z_iald (f := f) 59 K q hz_hC hC (by omega) (by omega) (by decide) dX9_isStale_58 rfl ?_
            have hr_58 := hw.1 (32 * a + 3 * k + 79)
            refine z_aload_n 60 K dX9_isStale_59 rfl rfl 1 rfl ?_
            refine z_iload_n 61 K dX9_isStale_60 rfl rfl 2 rfl ?_
            refine z_iload 63 K dX9_isStale_61 rfl 5 rfl ?_
            refine z_vSi (As := [.ref (aD g q), .int (iZ a), .int (iZ k)]) (rest := [.int (iZ (f (32 * a + 3 * k + 79)))]) 66 K (m_X9_letter l g _ q a k f hz_hC hC hw (by omega) (by omega)) (va_cwS 3 K.1.2.2.2.2 gX9_isStale_X9_letter rfl rfl rfl (by decide +kernel) ⟨Nat.le_of_ble_eq_true rfl, Nat.le_of_ble_eq_true rfl⟩) rfl (Nat.le_of_ble_eq_true rfl) dX9_isStale_63 rfl ⟨Nat.le_of_ble_eq_true rfl, Nat.le_of_ble_eq_true rfl⟩ rfl (fun z_6 C_7 hp_63 => ?_)
            refine z_C hp_63.1 ?_
            refine z_top (sLet f a k) hp_63.2 ?_
            have hl := sLet_rng hw a k
            have hn := hw.2.1
            have join_117_j_8 : ∀ (w : Int), (w = b2i (sMis f a k)) → Z p l e (({ frames := 3, cells := 0, slots := 0, locals := 67 } : Room)) s m args below meth c (MQ below (zQi g (fun z C' => C' = C ∧ z = b2i (sStale f a))) args s 0 0 (zA g)) g 6 0 0 (C) [(5, .int (iZ (32 * a + 3 * k + 79))), (0, .ref (aD g q)), (1, .int (iZ a)), (2, .int (iZ (32 * a + 78))), (3, .int (iZ v)), (4, .int (iZ k))] 117 [.int (iZ w)] := by
              intro w  hw2
              refine z_istore_n (lv' := [(3, .int (iZ w)), (5, .int (iZ (32 * a + 3 * k + 79))), (0, .ref (aD g q)), (1, .int (iZ a)), (2, .int (iZ (32 * a + 78))), (4, .int (iZ k))]) 118 K dX9_isStale_117 rfl rfl (by decide) rfl ?_
              refine z_iinc (lv' := [(4, .int (iZ (k + 1))), (3, .int (iZ w)), (5, .int (iZ (32 * a + 3 * k + 79))), (0, .ref (aD g q)), (1, .int (iZ a)), (2, .int (iZ (32 * a + 78)))]) 121 K dX9_isStale_118 rfl (k + 1) rfl 5 rfl (by decide) rfl ?_
              refine z_goto (tgt := 31) K dX9_isStale_121 (by decide) ?_
              refine z_sub [3, 4, 5, 1, 0] rfl ?_
              exact ih_31 w (k + 1) (by omega) (by rw [zany_1 _ (by omega), ← Bool.or_assoc, b2i_eq0.mp (hv.symm.trans c_42), Bool.false_or]; exact hw2) (by omega)
            refine z_icmp_ne (tgt := 112) 69 K dX9_isStale_66 rfl (by decide) (by omega) (by omega) (fun c_66 => ?_) (fun c_66 => ?_)
            · skip
              refine z_iconst 113 K dX9_isStale_112 rfl ?_
              refine z_goto (tgt := 117) K dX9_isStale_113 (by decide) ?_
              exact join_117_j_8 1 (by unfold sMis; first | exact (b2i_1 (by omega)).symm | exact (b2i_0 (by omega)).symm)
            · skip
              refine z_aload_n 70 K dX9_isStale_69 rfl rfl 1 rfl ?_
              refine z_iload 72 K dX9_isStale_70 rfl 0 rfl ?_
              refine z_iconst 73 K dX9_isStale_72 rfl ?_
              refine z_iadd 74 K dX9_isStale_73 rfl ?_
              refine z_top (32 * a + 3 * k + 80) (by omega) ?_
              refine z_iald (f := f) 75 K q hz_hC hC (by omega) (by omega) (by decide) dX9_isStale_74 rfl ?_
              have hr_74 := hw.1 (32 * a + 3 * k + 80)
              refine z_aload_n 76 K dX9_isStale_75 rfl rfl 1 rfl ?_
              refine z_iload_n 77 K dX9_isStale_76 rfl rfl 2 rfl ?_
              refine z_iload 79 K dX9_isStale_77 rfl 5 rfl ?_
              refine z_vSi (As := [.int (iZ a), .int (iZ k)]) (rest := [.ref (aD g q), .int (iZ (f (32 * a + 3 * k + 80)))]) 82 K (m_X9_index l g _ a k ) (va_cwS 2 K.1.2.2.2.2 gX9_isStale_X9_index rfl rfl rfl (by decide +kernel) ⟨Nat.le_of_ble_eq_true rfl, Nat.le_of_ble_eq_true rfl⟩) rfl (Nat.le_of_ble_eq_true rfl) dX9_isStale_79 rfl ⟨Nat.le_of_ble_eq_true rfl, Nat.le_of_ble_eq_true rfl⟩ rfl (fun z_9 C_10 hp_79 => ?_)
              refine z_C hp_79.1 ?_
              refine z_top (32 * a + 2 * k + 66) hp_79.2 ?_
              refine z_iconst 83 K dX9_isStale_82 rfl ?_
              refine z_iadd 84 K dX9_isStale_83 rfl ?_
              refine z_top (32 * a + 2 * k + 67) (by omega) ?_
              refine z_iald (f := f) 85 K q hz_hC hC (by omega) (by omega) (by decide) dX9_isStale_84 rfl ?_
              have hr_84 := hw.1 (32 * a + 2 * k + 67)
              refine z_icmp_ne (tgt := 112) 88 K dX9_isStale_85 rfl (by decide) (by omega) (by omega) (fun c_85 => ?_) (fun c_85 => ?_)
              · skip
                refine z_iconst 113 K dX9_isStale_112 rfl ?_
                refine z_goto (tgt := 117) K dX9_isStale_113 (by decide) ?_
                exact join_117_j_8 1 (by unfold sMis; first | exact (b2i_1 (by omega)).symm | exact (b2i_0 (by omega)).symm)
              · skip
                refine z_aload_n 89 K dX9_isStale_88 rfl rfl 1 rfl ?_
                refine z_iload 91 K dX9_isStale_89 rfl 0 rfl ?_
                refine z_iconst 92 K dX9_isStale_91 rfl ?_
                refine z_iadd 93 K dX9_isStale_92 rfl ?_
                refine z_top (32 * a + 3 * k + 81) (by omega) ?_
                refine z_iald (f := f) 94 K q hz_hC hC (by omega) (by omega) (by decide) dX9_isStale_93 rfl ?_
                have hr_93 := hw.1 (32 * a + 3 * k + 81)
                refine z_aload_n 95 K dX9_isStale_94 rfl rfl 1 rfl ?_
                refine z_iload_n 96 K dX9_isStale_95 rfl rfl 2 rfl ?_
                refine z_iload 98 K dX9_isStale_96 rfl 5 rfl ?_
                refine z_vSi (As := [.ref (aD g q), .int (iZ a), .int (iZ k)]) (rest := [.int (iZ (f (32 * a + 3 * k + 81)))]) 101 K (m_X9_isLost l g _ q a k f hz_hC hC hw (by omega) (by omega)) (va_cwS 3 K.1.2.2.2.2 gX9_isStale_X9_isLost rfl rfl rfl (by decide +kernel) ⟨Nat.le_of_ble_eq_true rfl, Nat.le_of_ble_eq_true rfl⟩) rfl (Nat.le_of_ble_eq_true rfl) dX9_isStale_98 rfl ⟨Nat.le_of_ble_eq_true rfl, Nat.le_of_ble_eq_true rfl⟩ rfl (fun z_11 C_12 hp_98 => ?_)
                refine z_C hp_98.1 ?_
                refine z_top (b2i (sLost f a k)) hp_98.2 ?_
                have hb98 := b2i_rng (sLost f a k)
                refine z_bool01 104 105 108 109 K (b2i_rng _) dX9_isStale_101 dX9_isStale_104 dX9_isStale_105 dX9_isStale_108 rfl rfl (by decide) (by decide) rfl ?_
                refine z_icmp_eq (tgt := 116) 112 K dX9_isStale_109 rfl (by decide) (by omega) (b2i_ir _) (fun c_109 => ?_) (fun c_109 => ?_)
                · skip
                  refine z_iconst 117 K dX9_isStale_116 rfl ?_
                  exact join_117_j_8 0 (by unfold sMis; first | exact (b2i_1 (by omega)).symm | exact (b2i_0 (by omega)).symm)
                · skip
                  refine z_iconst 113 K dX9_isStale_112 rfl ?_
                  refine z_goto (tgt := 117) K dX9_isStale_113 (by decide) ?_
                  exact join_117_j_8 1 (by unfold sMis; first | exact (b2i_1 (by omega)).symm | exact (b2i_0 (by omega)).symm)
    refine z_sub [3, 4, 2, 1, 0] rfl ?_
    exact loop_31 (Int.toNat (f (32 * a + 65) - 0) + 1) v 0 (by omega) (by rw [hv, zany_0, Bool.or_false]) (by omega)
  refine z_icmp_eq (tgt := 26) 22 K dX9_isStale_19 rfl (by decide) (by omega) (by omega) (fun c_19 => ?_) (fun c_19 => ?_)
  · skip
    refine z_iconst 27 K dX9_isStale_26 rfl ?_
    exact join_27_j_3 0 (by first | exact (b2i_1 (by omega)).symm | exact (b2i_0 (by omega)).symm)
  · skip
    refine z_iconst 23 K dX9_isStale_22 rfl ?_
    refine z_goto (tgt := 27) K dX9_isStale_23 (by decide) ?_
    exact join_27_j_3 1 (by first | exact (b2i_1 (by omega)).symm | exact (b2i_0 (by omega)).symm)
set_option maxHeartbeats 4000000 in
set_option maxRecDepth 100000 in
theorem m_X9_stale (l : Launch) (g : zG) (C : Nat → va_E) (q : Nat) (f : Int → Int) (hz_hC : q < zN) (hC : C q = eI g 449 f) (hw : WR f) : Met l yX9_stale wsX9_stale ({ frames := 4, cells := 0, slots := 0, locals := 92 } : Room) (zPre g C [.ref (aD g q)]) (zQi g (fun z C' => C' = C ∧ z = sStaleN f)) 0 0 (zA g) := by
  refine z_enter RX9 rfl (by decide) rfl (Nat.le_of_ble_eq_true rfl) ?_
  intro p e s m args below meth c K harg
  refine z_sub (lv' := [(0, .ref (aD g q))]) [0] rfl ?_
  refine z_iconst 1 K dX9_stale_0 rfl ?_
  refine z_istore_n (lv' := [(1, .int (iZ 0)), (0, .ref (aD g q))]) 2 K dX9_stale_1 rfl rfl (by decide) rfl ?_
  refine z_iconst 3 K dX9_stale_2 rfl ?_
  refine z_istore_n (lv' := [(2, .int (iZ 0)), (1, .int (iZ 0)), (0, .ref (aD g q))]) 4 K dX9_stale_3 rfl rfl (by decide) rfl ?_
  have loop_4 : ∀ (n9 : Nat) (n k : Int), (0 ≤ k ∧ k ≤ 12) → (n = zsum (fun a => b2i (sStale f a)) k) → (12 - k < (n9 : Int)) → Z p l e (({ frames := 4, cells := 0, slots := 0, locals := 92 } : Room)) s m args below meth c (MQ below (zQi g (fun z C' => C' = C ∧ z = sStaleN f)) args s 0 0 (zA g)) g 3 0 0 (C) [(0, .ref (aD g q)), (1, .int (iZ n)), (2, .int (iZ k))] 4 [] := by
    intro n9
    induction n9 with
    | zero =>
      intro n k hk hn hm9
      exact absurd hm9 (by omega)
    | succ n9 ih9 =>
      intro n k hk hn hm_4
      have ih_4 := ih9
      clear ih9
      refine z_iload_n 5 K dX9_stale_4 rfl rfl 2 rfl ?_
      refine z_bipush 7 K dX9_stale_5 rfl rfl ?_
      refine z_icmp_ge (tgt := 32) 10 K dX9_stale_7 rfl (by decide) (by omega) (by decide) (fun c_7 => ?_) (fun c_7 => ?_)
      · skip
        refine z_iload_n 33 K dX9_stale_32 rfl rfl 1 rfl ?_
        exact z_iret K rfl dX9_stale_33 ⟨rfl, by rw [hn, show k = 12 by omega]; rfl⟩
      · skip
        refine z_iload_n 11 K dX9_stale_10 rfl rfl 1 rfl ?_
        refine z_aload_n 12 K dX9_stale_11 rfl rfl 0 rfl ?_
        refine z_iload_n 13 K dX9_stale_12 rfl rfl 2 rfl ?_
        refine z_vSi (As := [.ref (aD g q), .int (iZ k)]) (rest := [.int (iZ n)]) 16 K (m_X9_isStale l g _ q k f hz_hC hC hw (by omega)) (va_cwS 2 K.1.2.2.2.2 gX9_stale_X9_isStale rfl rfl rfl (by decide +kernel) ⟨Nat.le_of_ble_eq_true rfl, Nat.le_of_ble_eq_true rfl⟩) rfl (Nat.le_of_ble_eq_true rfl) dX9_stale_13 rfl ⟨Nat.le_of_ble_eq_true rfl, Nat.le_of_ble_eq_true rfl⟩ rfl (fun z_1 C_2 hp_13 => ?_)
        refine z_C hp_13.1 ?_
        refine z_top (b2i (sStale f k)) hp_13.2 ?_
        refine z_bool01 19 20 23 24 K (b2i_rng _) dX9_stale_16 dX9_stale_19 dX9_stale_20 dX9_stale_23 rfl rfl (by decide) (by decide) rfl ?_
        refine z_iadd 25 K dX9_stale_24 rfl ?_
        refine z_top (b2i (sStale f k) + n) (by omega) ?_
        refine z_istore_n (lv' := [(1, .int (iZ (b2i (sStale f k) + n))), (0, .ref (aD g q)), (2, .int (iZ k))]) 26 K dX9_stale_25 rfl rfl (by decide) rfl ?_
        refine z_iinc (lv' := [(2, .int (iZ (k + 1))), (1, .int (iZ (b2i (sStale f k) + n))), (0, .ref (aD g q))]) 29 K dX9_stale_26 rfl (k + 1) rfl 2 rfl (by decide) rfl ?_
        refine z_goto (tgt := 4) K dX9_stale_29 (by decide) ?_
        refine z_sub [2, 1, 0] rfl ?_
        exact ih_4 (b2i (sStale f k) + n) (k + 1) (by omega) (by rw [zsum_1 _ (by omega)]; omega) (by omega)
  refine z_sub [2, 1, 0] rfl ?_
  exact loop_4 (Int.toNat (12 - 0) + 1) 0 0 (by omega) rfl (by omega)
set_option maxHeartbeats 4000000 in
set_option maxRecDepth 100000 in
theorem m_X9_lies (l : Launch) (g : zG) (C : Nat → va_E) (q : Nat) (k0 : Int) (w : Int) (f : Int → Int) (hz_hC : q < zN) (hC : C q = eI g 449 f) (hw : WR f) (hk0 : 0 ≤ k0 ∧ k0 < f 1) (hwr : 0 ≤ w ∧ w ≤ 4) : Met l yX9_lies wsX9_lies ({ frames := 1, cells := 0, slots := 0, locals := 21 } : Room) (zPre g C [.ref (aD g q), .int (iZ k0), .int (iZ w)]) (zQi g (fun z C' => C' = C ∧ z = zLies (sPg f) (f 0) k0 w)) 0 0 (zA g) := by
  refine z_enter RX9 rfl (by decide) rfl (Nat.le_of_ble_eq_true rfl) ?_
  intro p e s m args below meth c K harg
  refine z_sub (lv' := [(0, .ref (aD g q)), (1, .int (iZ k0)), (2, .int (iZ w))]) [0, 1, 2] rfl ?_
  have hn := hw.2.1
  have hpb := hw.2.2.2.2
  refine z_iconst 1 K dX9_lies_0 rfl ?_
  refine z_istore_n (lv' := [(3, .int (iZ 0)), (0, .ref (aD g q)), (1, .int (iZ k0)), (2, .int (iZ w))]) 2 K dX9_lies_1 rfl rfl (by decide) rfl ?_
  refine z_iconst 3 K dX9_lies_2 rfl ?_
  refine z_istore (lv' := [(4, .int (iZ 0)), (3, .int (iZ 0)), (0, .ref (aD g q)), (1, .int (iZ k0)), (2, .int (iZ w))]) 5 K dX9_lies_3 rfl (by decide) rfl ?_
  refine z_aload_n 6 K dX9_lies_5 rfl rfl 2 rfl ?_
  refine z_iconst 7 K dX9_lies_6 rfl ?_
  refine z_iald (f := f) 8 K q hz_hC hC (by decide) (by decide) (by decide) dX9_lies_7 rfl ?_
  have hr_7 := hw.1 1
  refine z_if_ne (tgt := 15) 11 K dX9_lies_8 rfl (by decide) (by omega) (fun c_8 => ?_) (fun c_8 => ?_)
  · skip
    refine z_aload_n 16 K dX9_lies_15 rfl rfl 2 rfl ?_
    refine z_iconst 17 K dX9_lies_16 rfl ?_
    refine z_vSi (As := [.ref (aD g q), .int (iZ 0)]) (rest := []) 20 K (m_X9_pagesOf l g _ q 0 f hz_hC hC (by omega)) (va_cwS 2 K.1.2.2.2.2 gX9_lies_X9_pagesOf rfl rfl rfl (by decide +kernel) ⟨Nat.le_of_ble_eq_true rfl, Nat.le_of_ble_eq_true rfl⟩) rfl (Nat.le_of_ble_eq_true rfl) dX9_lies_17 rfl ⟨Nat.le_of_ble_eq_true rfl, Nat.le_of_ble_eq_true rfl⟩ rfl (fun z_1 C_2 hp_17 => ?_)
    refine z_C hp_17.1 ?_
    refine z_top (f 4) (hp_17.2.trans (by rw [show (2 * 0 + 4 : Int) = 4 by omega])) ?_
    refine z_istore (lv' := [(5, .int (iZ (f 4))), (4, .int (iZ 0)), (3, .int (iZ 0)), (0, .ref (aD g q)), (1, .int (iZ k0)), (2, .int (iZ w))]) 22 K dX9_lies_20 rfl (by decide) rfl ?_
    refine z_iconst 23 K dX9_lies_22 rfl ?_
    refine z_istore (lv' := [(6, .int (iZ 0)), (5, .int (iZ (f 4))), (4, .int (iZ 0)), (3, .int (iZ 0)), (0, .ref (aD g q)), (1, .int (iZ k0)), (2, .int (iZ w))]) 25 K dX9_lies_23 rfl (by decide) rfl ?_
    refine z_iconst 26 K dX9_lies_25 rfl ?_
    refine z_istore (lv' := [(7, .int (iZ 1)), (6, .int (iZ 0)), (5, .int (iZ (f 4))), (4, .int (iZ 0)), (3, .int (iZ 0)), (0, .ref (aD g q)), (1, .int (iZ k0)), (2, .int (iZ w))]) 28 K dX9_lies_26 rfl (by decide) rfl ?_
    have loop_28 : ∀ (n9 : Nat) (x3 x4 x5 x6 k : Int), (1 ≤ k ∧ k ≤ k0 + 1) → (x3 = zBn (sPg f) (f 0) (k - 1)) → (x4 = zTb (sPg f) (f 0) (k - 1)) → (x5 = zPg (sPg f) (f 0) (k - 1)) → (x6 = zSm (sPg f) (f 0) (k - 1)) → (k0 + 1 - k < (n9 : Int)) → Z p l e (({ frames := 1, cells := 0, slots := 0, locals := 21 } : Room)) s m args below meth c (MQ below (zQi g (fun z C' => C' = C ∧ z = zLies (sPg f) (f 0) k0 w)) args s 0 0 (zA g)) g 9 0 0 (C) [(0, .ref (aD g q)), (1, .int (iZ k0)), (2, .int (iZ w)), (3, .int (iZ x3)), (4, .int (iZ x4)), (5, .int (iZ x5)), (6, .int (iZ x6)), (7, .int (iZ k))] 28 [] := by
      intro n9
      induction n9 with
      | zero =>
        intro x3 x4 x5 x6 k hk h3 h4 h5 h6 hm9
        exact absurd hm9 (by omega)
      | succ n9 ih9 =>
        intro x3 x4 x5 x6 k hk h3 h4 h5 h6 hm_28
        have ih_28 := ih9
        clear ih9
        refine z_iload 30 K dX9_lies_28 rfl 7 rfl ?_
        refine z_iload_n 31 K dX9_lies_30 rfl rfl 1 rfl ?_
        refine z_icmp_gt (tgt := 128) 34 K dX9_lies_31 rfl (by decide) (by omega) (by omega) (fun c_31 => ?_) (fun c_31 => ?_)
        · skip
          have ek : k - 1 = k0 := by omega
          rw [ek] at h3 h4 h5 h6
          refine z_iload_n 129 K dX9_lies_128 rfl rfl 2 rfl ?_
          refine z_if_ne (tgt := 136) 132 K dX9_lies_129 rfl (by decide) (by omega) (fun c_129 => ?_) (fun c_129 => ?_)
          · skip
            refine z_iload_n 137 K dX9_lies_136 rfl rfl 2 rfl ?_
            refine z_iconst 138 K dX9_lies_137 rfl ?_
            refine z_icmp_ne (tgt := 146) 141 K dX9_lies_138 rfl (by decide) (by omega) (by decide) (fun c_138 => ?_) (fun c_138 => ?_)
            · skip
              refine z_iload 148 K dX9_lies_146 rfl 6 rfl ?_
              refine z_iload_n 149 K dX9_lies_148 rfl rfl 1 rfl ?_
              refine z_iadd 150 K dX9_lies_149 rfl ?_
              refine z_top (k0 + x6) (by omega) ?_
              refine z_iconst 151 K dX9_lies_150 rfl ?_
              refine z_iadd 152 K dX9_lies_151 rfl ?_
              refine z_iconst 153 K dX9_lies_152 rfl ?_
              refine z_iload_n 154 K dX9_lies_153 rfl rfl 3 rfl ?_
              refine z_imul 155 K dX9_lies_154 rfl ?_
              refine z_iadd 156 K dX9_lies_155 rfl ?_
              refine z_top (2 * x3 + k0 + x6 + 1) (by omega) ?_
              have hfin : 2 * x3 + k0 + x6 + 1 = zLies (sPg f) (f 0) k0 w := by
                unfold zLies zFp
                first
                | (rw [if_pos c_129]; omega)
                | (rw [if_neg c_129, if_pos c_138]; omega)
                | (rw [if_neg c_129, if_neg c_138]; omega)
              exact z_iret K rfl dX9_lies_156 ⟨rfl, hfin⟩
            · skip
              refine z_iload 143 K dX9_lies_141 rfl 4 rfl ?_
              refine z_goto (tgt := 156) K dX9_lies_143 (by decide) ?_
              have hfin : x4 = zLies (sPg f) (f 0) k0 w := by
                unfold zLies zFp
                first
                | (rw [if_pos c_129]; omega)
                | (rw [if_neg c_129, if_pos c_138]; omega)
                | (rw [if_neg c_129, if_neg c_138]; omega)
              exact z_iret K rfl dX9_lies_156 ⟨rfl, hfin⟩
          · skip
            refine z_iload_n 133 K dX9_lies_132 rfl rfl 3 rfl ?_
            refine z_goto (tgt := 156) K dX9_lies_133 (by decide) ?_
            have hfin : x3 = zLies (sPg f) (f 0) k0 w := by
              unfold zLies zFp
              first
              | (rw [if_pos c_129]; omega)
              | (rw [if_neg c_129, if_pos c_138]; omega)
              | (rw [if_neg c_129, if_neg c_138]; omega)
            exact z_iret K rfl dX9_lies_156 ⟨rfl, hfin⟩
        · skip
          refine z_iload 36 K dX9_lies_34 rfl 5 rfl ?_
          refine z_aload_n 37 K dX9_lies_36 rfl rfl 0 rfl ?_
          refine z_iload 39 K dX9_lies_37 rfl 7 rfl ?_
          refine z_vSi (As := [.ref (aD g q), .int (iZ k)]) (rest := [.int (iZ x5)]) 42 K (m_X9_pagesOf l g _ q k f hz_hC hC (by omega)) (va_cwS 2 K.1.2.2.2.2 gX9_lies_X9_pagesOf rfl rfl rfl (by decide +kernel) ⟨Nat.le_of_ble_eq_true rfl, Nat.le_of_ble_eq_true rfl⟩) rfl (Nat.le_of_ble_eq_true rfl) dX9_lies_39 rfl ⟨Nat.le_of_ble_eq_true rfl, Nat.le_of_ble_eq_true rfl⟩ rfl (fun z_3 C_4 hp_39 => ?_)
          refine z_C hp_39.1 ?_
          refine z_top (f (2 * k + 4)) hp_39.2 ?_
          have ee1 : f (2 * k + 4) = sPg f (k - 1 + 1) := by rw [show k - 1 + 1 = k by omega]; rfl
          have hp1 := hw.2.2.2.1 k (by omega) (by omega)
          have hpg := zPg_rng' (h := sPg f) (lim := f 0) (c := 60) (n := f 1) (k := k - 1) (fun j h0 h1 => by have := hw.2.2.2.1 j h0 h1; show 0 ≤ f (2 * j + 4) ∧ f (2 * j + 4) ≤ 60; omega) (by omega) (by omega) (by omega) (by omega)
          refine z_iadd 43 K dX9_lies_42 rfl ?_
          refine z_top (f (2 * k + 4) + x5) (by omega) ?_
          refine z_aload_n 44 K dX9_lies_43 rfl rfl 0 rfl ?_
          refine z_iconst 45 K dX9_lies_44 rfl ?_
          refine z_iald (f := f) 46 K q hz_hC hC (by decide) (by decide) (by decide) dX9_lies_45 rfl ?_
          have hr_45 := hw.1 0
          refine z_icmp_le (tgt := 53) 49 K dX9_lies_46 rfl (by decide) (by omega) (by omega) (fun c_46 => ?_) (fun c_46 => ?_)
          · skip
            have hs := zlie_goes (h := sPg f) (lim := f 0) (k := k - 1) (by omega) (by omega)
            refine z_iconst 54 K dX9_lies_53 rfl ?_
            refine z_istore (lv' := [(8, .int (iZ 0)), (0, .ref (aD g q)), (1, .int (iZ k0)), (2, .int (iZ w)), (3, .int (iZ x3)), (4, .int (iZ x4)), (5, .int (iZ x5)), (6, .int (iZ x6)), (7, .int (iZ k))]) 56 K dX9_lies_54 rfl (by decide) rfl ?_
            refine z_iload 58 K dX9_lies_56 rfl 7 rfl ?_
            refine z_aload_n 59 K dX9_lies_58 rfl rfl 1 rfl ?_
            refine z_iload 61 K dX9_lies_59 rfl 8 rfl ?_
            refine z_iconst 62 K dX9_lies_61 rfl ?_
            refine z_isub 63 K dX9_lies_62 rfl ?_
            refine z_vSi (As := [.ref (aD g q), .int (iZ (k - 1))]) (rest := [.int (iZ x6)]) 66 K (m_X9_pagesOf l g _ q (k - 1) f hz_hC hC (by omega)) (va_cwS 2 K.1.2.2.2.2 gX9_lies_X9_pagesOf rfl rfl rfl (by decide +kernel) ⟨Nat.le_of_ble_eq_true rfl, Nat.le_of_ble_eq_true rfl⟩) rfl (Nat.le_of_ble_eq_true rfl) dX9_lies_63 rfl ⟨Nat.le_of_ble_eq_true rfl, Nat.le_of_ble_eq_true rfl⟩ rfl (fun z_5 C_6 hp_63 => ?_)
            refine z_C hp_63.1 ?_
            refine z_top (f (2 * k + 2)) (hp_63.2.trans (by rw [show (2 * (k - 1) + 4 : Int) = 2 * k + 2 by omega])) ?_
            have ee2 : f (2 * k + 2) = sPg f (k - 1) := by show f (2 * k + 2) = f (2 * (k - 1) + 4); congr 1; omega
            refine z_iadd 67 K dX9_lies_66 rfl ?_
            refine z_top (f (2 * k + 2) + x6) (by omega) ?_
            refine z_istore (lv' := [(6, .int (iZ (f (2 * k + 2) + x6))), (8, .int (iZ 0)), (0, .ref (aD g q)), (1, .int (iZ k0)), (2, .int (iZ w)), (3, .int (iZ x3)), (4, .int (iZ x4)), (5, .int (iZ x5)), (7, .int (iZ k))]) 69 K dX9_lies_67 rfl (by decide) rfl ?_
            refine z_iload_n 70 K dX9_lies_69 rfl rfl 5 rfl ?_
            refine z_iload 72 K dX9_lies_70 rfl 1 rfl ?_
            refine z_if_eq (tgt := 79) 75 K dX9_lies_72 rfl (by decide) (by decide) (fun c_72 => ?_) (fun c_72 => ?_)
            rotate_left 1
            · exact absurd c_72 (by decide)
            refine z_iconst 80 K dX9_lies_79 rfl ?_
            refine z_iadd 81 K dX9_lies_80 rfl ?_
            refine z_top (x3) (by omega) ?_
            refine z_istore_n (lv' := [(3, .int (iZ x3)), (6, .int (iZ (f (2 * k + 2) + x6))), (8, .int (iZ 0)), (0, .ref (aD g q)), (1, .int (iZ k0)), (2, .int (iZ w)), (4, .int (iZ x4)), (5, .int (iZ x5)), (7, .int (iZ k))]) 82 K dX9_lies_81 rfl rfl (by decide) rfl ?_
            refine z_iload 84 K dX9_lies_82 rfl 2 rfl ?_
            refine z_if_eq (tgt := 91) 87 K dX9_lies_84 rfl (by decide) (by decide) (fun c_84 => ?_) (fun c_84 => ?_)
            rotate_left 1
            · exact absurd c_84 (by decide)
            refine z_iload 93 K dX9_lies_91 rfl 6 rfl ?_
            refine z_iconst 94 K dX9_lies_93 rfl ?_
            refine z_iadd 95 K dX9_lies_94 rfl ?_
            refine z_istore (lv' := [(4, .int (iZ (x4 + 1))), (3, .int (iZ x3)), (6, .int (iZ (f (2 * k + 2) + x6))), (8, .int (iZ 0)), (0, .ref (aD g q)), (1, .int (iZ k0)), (2, .int (iZ w)), (5, .int (iZ x5)), (7, .int (iZ k))]) 97 K dX9_lies_95 rfl (by decide) rfl ?_
            refine z_iload 99 K dX9_lies_97 rfl 3 rfl ?_
            refine z_if_eq (tgt := 111) 102 K dX9_lies_99 rfl (by decide) (by decide) (fun c_99 => ?_) (fun c_99 => ?_)
            rotate_left 1
            · exact absurd c_99 (by decide)
            refine z_iload 113 K dX9_lies_111 rfl 7 rfl ?_
            refine z_aload_n 114 K dX9_lies_113 rfl rfl 4 rfl ?_
            refine z_iload 116 K dX9_lies_114 rfl 8 rfl ?_
            refine z_vSi (As := [.ref (aD g q), .int (iZ k)]) (rest := [.int (iZ x5)]) 119 K (m_X9_pagesOf l g _ q k f hz_hC hC (by omega)) (va_cwS 2 K.1.2.2.2.2 gX9_lies_X9_pagesOf rfl rfl rfl (by decide +kernel) ⟨Nat.le_of_ble_eq_true rfl, Nat.le_of_ble_eq_true rfl⟩) rfl (Nat.le_of_ble_eq_true rfl) dX9_lies_116 rfl ⟨Nat.le_of_ble_eq_true rfl, Nat.le_of_ble_eq_true rfl⟩ rfl (fun z_7 C_8 hp_116 => ?_)
            refine z_C hp_116.1 ?_
            refine z_top (f (2 * k + 4)) hp_116.2 ?_
            refine z_iadd 120 K dX9_lies_119 rfl ?_
            refine z_top (f (2 * k + 4) + x5) (by omega) ?_
            refine z_istore (lv' := [(5, .int (iZ (f (2 * k + 4) + x5))), (4, .int (iZ (x4 + 1))), (3, .int (iZ x3)), (6, .int (iZ (f (2 * k + 2) + x6))), (8, .int (iZ 0)), (0, .ref (aD g q)), (1, .int (iZ k0)), (2, .int (iZ w)), (7, .int (iZ k))]) 122 K dX9_lies_120 rfl (by decide) rfl ?_
            refine z_iinc (lv' := [(7, .int (iZ (k + 1))), (5, .int (iZ (f (2 * k + 4) + x5))), (4, .int (iZ (x4 + 1))), (3, .int (iZ x3)), (6, .int (iZ (f (2 * k + 2) + x6))), (8, .int (iZ 0)), (0, .ref (aD g q)), (1, .int (iZ k0)), (2, .int (iZ w))]) 125 K dX9_lies_122 rfl (k + 1) rfl 8 rfl (by decide) rfl ?_
            refine z_goto (tgt := 28) K dX9_lies_125 (by decide) ?_
            refine z_sub [6, 7, 8, 3, 2, 1, 4, 0] rfl ?_
            exact ih_28 x3 (x4 + 1) (f (2 * k + 4) + x5) (f (2 * k + 2) + x6) (k + 1) (by omega) (by rw [show k + 1 - 1 = k - 1 + 1 by omega]; omega) (by rw [show k + 1 - 1 = k - 1 + 1 by omega]; omega) (by rw [show k + 1 - 1 = k - 1 + 1 by omega]; omega) (by rw [show k + 1 - 1 = k - 1 + 1 by omega]; omega) (by omega)
          · skip
            have hs := zlie_opens (h := sPg f) (lim := f 0) (k := k - 1) (by omega) (by omega)
            refine z_iconst 50 K dX9_lies_49 rfl ?_
            refine z_goto (tgt := 54) K dX9_lies_50 (by decide) ?_
            refine z_istore (lv' := [(8, .int (iZ 1)), (0, .ref (aD g q)), (1, .int (iZ k0)), (2, .int (iZ w)), (3, .int (iZ x3)), (4, .int (iZ x4)), (5, .int (iZ x5)), (6, .int (iZ x6)), (7, .int (iZ k))]) 56 K dX9_lies_54 rfl (by decide) rfl ?_
            refine z_iload 58 K dX9_lies_56 rfl 7 rfl ?_
            refine z_aload_n 59 K dX9_lies_58 rfl rfl 1 rfl ?_
            refine z_iload 61 K dX9_lies_59 rfl 8 rfl ?_
            refine z_iconst 62 K dX9_lies_61 rfl ?_
            refine z_isub 63 K dX9_lies_62 rfl ?_
            refine z_vSi (As := [.ref (aD g q), .int (iZ (k - 1))]) (rest := [.int (iZ x6)]) 66 K (m_X9_pagesOf l g _ q (k - 1) f hz_hC hC (by omega)) (va_cwS 2 K.1.2.2.2.2 gX9_lies_X9_pagesOf rfl rfl rfl (by decide +kernel) ⟨Nat.le_of_ble_eq_true rfl, Nat.le_of_ble_eq_true rfl⟩) rfl (Nat.le_of_ble_eq_true rfl) dX9_lies_63 rfl ⟨Nat.le_of_ble_eq_true rfl, Nat.le_of_ble_eq_true rfl⟩ rfl (fun z_9 C_10 hp_63 => ?_)
            refine z_C hp_63.1 ?_
            refine z_top (f (2 * k + 2)) (hp_63.2.trans (by rw [show (2 * (k - 1) + 4 : Int) = 2 * k + 2 by omega])) ?_
            have ee2 : f (2 * k + 2) = sPg f (k - 1) := by show f (2 * k + 2) = f (2 * (k - 1) + 4); congr 1; omega
            refine z_iadd 67 K dX9_lies_66 rfl ?_
            refine z_top (f (2 * k + 2) + x6) (by omega) ?_
            refine z_istore (lv' := [(6, .int (iZ (f (2 * k + 2) + x6))), (8, .int (iZ 1)), (0, .ref (aD g q)), (1, .int (iZ k0)), (2, .int (iZ w)), (3, .int (iZ x3)), (4, .int (iZ x4)), (5, .int (iZ x5)), (7, .int (iZ k))]) 69 K dX9_lies_67 rfl (by decide) rfl ?_
            refine z_iload_n 70 K dX9_lies_69 rfl rfl 5 rfl ?_
            refine z_iload 72 K dX9_lies_70 rfl 1 rfl ?_
            refine z_if_eq (tgt := 79) 75 K dX9_lies_72 rfl (by decide) (by decide) (fun c_72 => ?_) (fun c_72 => ?_)
            · exact absurd c_72 (by decide)
            refine z_iconst 76 K dX9_lies_75 rfl ?_
            refine z_goto (tgt := 80) K dX9_lies_76 (by decide) ?_
            refine z_iadd 81 K dX9_lies_80 rfl ?_
            refine z_istore_n (lv' := [(3, .int (iZ (x3 + 1))), (6, .int (iZ (f (2 * k + 2) + x6))), (8, .int (iZ 1)), (0, .ref (aD g q)), (1, .int (iZ k0)), (2, .int (iZ w)), (4, .int (iZ x4)), (5, .int (iZ x5)), (7, .int (iZ k))]) 82 K dX9_lies_81 rfl rfl (by decide) rfl ?_
            refine z_iload 84 K dX9_lies_82 rfl 2 rfl ?_
            refine z_if_eq (tgt := 91) 87 K dX9_lies_84 rfl (by decide) (by decide) (fun c_84 => ?_) (fun c_84 => ?_)
            · exact absurd c_84 (by decide)
            refine z_iconst 88 K dX9_lies_87 rfl ?_
            refine z_goto (tgt := 95) K dX9_lies_88 (by decide) ?_
            refine z_istore (lv' := [(4, .int (iZ 0)), (3, .int (iZ (x3 + 1))), (6, .int (iZ (f (2 * k + 2) + x6))), (8, .int (iZ 1)), (0, .ref (aD g q)), (1, .int (iZ k0)), (2, .int (iZ w)), (5, .int (iZ x5)), (7, .int (iZ k))]) 97 K dX9_lies_95 rfl (by decide) rfl ?_
            refine z_iload 99 K dX9_lies_97 rfl 3 rfl ?_
            refine z_if_eq (tgt := 111) 102 K dX9_lies_99 rfl (by decide) (by decide) (fun c_99 => ?_) (fun c_99 => ?_)
            · exact absurd c_99 (by decide)
            refine z_aload_n 103 K dX9_lies_102 rfl rfl 4 rfl ?_
            refine z_iload 105 K dX9_lies_103 rfl 8 rfl ?_
            refine z_vSi (As := [.ref (aD g q), .int (iZ k)]) (rest := []) 108 K (m_X9_pagesOf l g _ q k f hz_hC hC (by omega)) (va_cwS 2 K.1.2.2.2.2 gX9_lies_X9_pagesOf rfl rfl rfl (by decide +kernel) ⟨Nat.le_of_ble_eq_true rfl, Nat.le_of_ble_eq_true rfl⟩) rfl (Nat.le_of_ble_eq_true rfl) dX9_lies_105 rfl ⟨Nat.le_of_ble_eq_true rfl, Nat.le_of_ble_eq_true rfl⟩ rfl (fun z_11 C_12 hp_105 => ?_)
            refine z_C hp_105.1 ?_
            refine z_top (f (2 * k + 4)) hp_105.2 ?_
            refine z_goto (tgt := 120) K dX9_lies_108 (by decide) ?_
            refine z_istore (lv' := [(5, .int (iZ (f (2 * k + 4)))), (4, .int (iZ 0)), (3, .int (iZ (x3 + 1))), (6, .int (iZ (f (2 * k + 2) + x6))), (8, .int (iZ 1)), (0, .ref (aD g q)), (1, .int (iZ k0)), (2, .int (iZ w)), (7, .int (iZ k))]) 122 K dX9_lies_120 rfl (by decide) rfl ?_
            refine z_iinc (lv' := [(7, .int (iZ (k + 1))), (5, .int (iZ (f (2 * k + 4)))), (4, .int (iZ 0)), (3, .int (iZ (x3 + 1))), (6, .int (iZ (f (2 * k + 2) + x6))), (8, .int (iZ 1)), (0, .ref (aD g q)), (1, .int (iZ k0)), (2, .int (iZ w))]) 125 K dX9_lies_122 rfl (k + 1) rfl 8 rfl (by decide) rfl ?_
            refine z_goto (tgt := 28) K dX9_lies_125 (by decide) ?_
            refine z_sub [6, 7, 8, 3, 2, 1, 4, 0] rfl ?_
            exact ih_28 (x3 + 1) 0 (f (2 * k + 4)) (f (2 * k + 2) + x6) (k + 1) (by omega) (by rw [show k + 1 - 1 = k - 1 + 1 by omega]; omega) (by rw [show k + 1 - 1 = k - 1 + 1 by omega]; omega) (by rw [show k + 1 - 1 = k - 1 + 1 by omega]; omega) (by rw [show k + 1 - 1 = k - 1 + 1 by omega]; omega) (by omega)
    refine z_sub [5, 6, 7, 4, 3, 2, 1, 0] rfl ?_
    exact loop_28 (Int.toNat (k0 + 1 - 1) + 1) 0 0 (f 4) 0 1 (by omega) rfl rfl rfl rfl (by omega)
  · exact absurd c_8 (by omega)
set_option maxHeartbeats 4000000 in
set_option maxRecDepth 100000 in
theorem m_X9_binders (l : Launch) (g : zG) (C : Nat → va_E) (q : Nat) (f : Int → Int) (hz_hC : q < zN) (hC : C q = eI g 449 f) (hw : WR f) : Met l yX9_binders wsX9_binders ({ frames := 2, cells := 0, slots := 0, locals := 49 } : Room) (zPre g C [.ref (aD g q)]) (zQi g (fun z C' => C' = C ∧ z = zBnd (sPg f) (f 0) (f 1))) 0 0 (zA g) := by
  refine z_enter RX9 rfl (by decide) rfl (Nat.le_of_ble_eq_true rfl) ?_
  intro p e s m args below meth c K harg
  refine z_sub (lv' := [(0, .ref (aD g q))]) [0] rfl ?_
  have hn := hw.2.1
  refine z_aload_n 1 K dX9_binders_0 rfl rfl 0 rfl ?_
  refine z_iconst 2 K dX9_binders_1 rfl ?_
  refine z_iald (f := f) 3 K q hz_hC hC (by decide) (by decide) (by decide) dX9_binders_2 rfl ?_
  have hr_2 := hw.1 1
  refine z_if_ne (tgt := 10) 6 K dX9_binders_3 rfl (by decide) (by omega) (fun c_3 => ?_) (fun c_3 => ?_)
  · skip
    refine z_aload_n 11 K dX9_binders_10 rfl rfl 0 rfl ?_
    refine z_aload_n 12 K dX9_binders_11 rfl rfl 0 rfl ?_
    refine z_iconst 13 K dX9_binders_12 rfl ?_
    refine z_iald (f := f) 14 K q hz_hC hC (by decide) (by decide) (by decide) dX9_binders_13 rfl ?_
    have hr_13 := hw.1 1
    refine z_iconst 15 K dX9_binders_14 rfl ?_
    refine z_isub 16 K dX9_binders_15 rfl ?_
    refine z_iconst 17 K dX9_binders_16 rfl ?_
    refine z_vSi (As := [.ref (aD g q), .int (iZ (f 1 - 1)), .int (iZ 0)]) (rest := []) 20 K (m_X9_lies l g _ q (f 1 - 1) 0 f hz_hC hC hw (by omega) (by omega)) (va_cwS 3 K.1.2.2.2.2 gX9_binders_X9_lies rfl rfl rfl (by decide +kernel) ⟨Nat.le_of_ble_eq_true rfl, Nat.le_of_ble_eq_true rfl⟩) rfl (Nat.le_of_ble_eq_true rfl) dX9_binders_17 rfl ⟨Nat.le_of_ble_eq_true rfl, Nat.le_of_ble_eq_true rfl⟩ rfl (fun z_1 C_2 hp_17 => ?_)
    refine z_C hp_17.1 ?_
    refine z_top (zLies (sPg f) (f 0) (f 1 - 1) 0) hp_17.2 ?_
    refine z_iconst 21 K dX9_binders_20 rfl ?_
    refine z_iadd 22 K dX9_binders_21 rfl ?_
    have hfin : zLies (sPg f) (f 0) (f 1 - 1) 0 + 1 = zBnd (sPg f) (f 0) (f 1) := by
      unfold zBnd
      first
      | (rw [if_pos c_3]; done)
      | (rw [if_neg c_3]; unfold zLies; rw [if_pos rfl]; done)
    exact z_iret K rfl dX9_binders_22 ⟨rfl, hfin⟩
  · skip
    refine z_iconst 7 K dX9_binders_6 rfl ?_
    refine z_goto (tgt := 22) K dX9_binders_7 (by decide) ?_
    have hfin : 0 = zBnd (sPg f) (f 0) (f 1) := by
      unfold zBnd
      first
      | (rw [if_pos c_3]; done)
      | (rw [if_neg c_3]; unfold zLies; rw [if_pos rfl]; done)
    exact z_iret K rfl dX9_binders_22 ⟨rfl, hfin⟩
end ZMR
