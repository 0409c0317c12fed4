/-! the reference: table and text -/
section ZMX
set_option maxRecDepth 20000 in
theorem hin_X9_row_X9 : ∀ w ∈ wsX90, w ∈ wsX9_row := by decide +kernel
set_option maxHeartbeats 4000000 in
set_option maxRecDepth 100000 in
theorem m_X9_row (l : Launch) (g : zG) (C : Nat → va_E) (p0 : Int) (k : Int) (ty : Int) (th : Int) (pt : Int) (fl : Int) (to : Int) (f : Int → Int) (cap : Int) (hM : C 94 = .inr (9, [.ref (aD g 95), .ref (aD g 96), .ref (aD g 97), .int (iZ k), .ref (aD g 98), .int (iZ ty), .int (iZ th), .int (iZ pt), .int (iZ fl), .ref (aD g 99), .int (iZ to)])) (hN : C 95 = eI g 449 f) (hw : WF f cap) (hcap : cap ≤ 100000) (hp : 0 ≤ p0 ∧ p0 < f 1) : Met l yX9_row wsX9_row ({ frames := 3, cells := 0, slots := 0, locals := 67 } : Room) (zPre g C [.ref (aD g 94), .int (iZ p0)]) (zQi g (fun z C' => C' = C ∧ z = sRow f p0)) 0 0 (zA g) := by
  refine z_enter RX9 rfl (by decide) rfl (Nat.le_of_ble_eq_true rfl) ?_
  intro p e s m args below meth c K harg
  refine z_sub (lv' := [(0, .ref (aD g 94)), (1, .int (iZ p0))]) [0, 1] rfl ?_
  have hn := hw.n
  have hwr := hw.wr
  refine z_iconst 1 K dX9_row_0 rfl ?_
  refine z_istore_n (lv' := [(2, .int (iZ 0)), (0, .ref (aD g 94)), (1, .int (iZ p0))]) 2 K dX9_row_1 rfl rfl (by decide) rfl ?_
  refine z_iconst 3 K dX9_row_2 rfl ?_
  refine z_istore_n (lv' := [(3, .int (iZ 0)), (2, .int (iZ 0)), (0, .ref (aD g 94)), (1, .int (iZ p0))]) 4 K dX9_row_3 rfl rfl (by decide) rfl ?_
  have loop_4 : ∀ (n9 : Nat) (mk a : Int), (0 ≤ a ∧ a ≤ 12) → (mk = sMk f p0 a) → (12 - a < (n9 : Int)) → Z p l e (({ frames := 3, cells := 0, slots := 0, locals := 67 } : Room)) s m args below meth c (MQ below (zQi g (fun z C' => C' = C ∧ z = sRow f p0)) args s 0 0 (zA g)) g 5 0 0 (C) [(0, .ref (aD g 94)), (1, .int (iZ p0)), (2, .int (iZ mk)), (3, .int (iZ a))] 4 [] := by
    intro n9
    induction n9 with
    | zero =>
      intro mk a hka hmk hm9
      exact absurd hm9 (by omega)
    | succ n9 ih9 =>
      intro mk a hka hmk hm_4
      have ih_4 := ih9
      clear ih9
      refine z_iload_n 5 K dX9_row_4 rfl rfl 3 rfl ?_
      refine z_bipush 7 K dX9_row_5 rfl rfl ?_
      refine z_icmp_ge (tgt := 75) 10 K dX9_row_7 rfl (by decide) (by omega) (by decide) (fun c_7 => ?_) (fun c_7 => ?_)
      · skip
        refine z_iload_n 76 K dX9_row_75 rfl rfl 2 rfl ?_
        exact z_iret K rfl dX9_row_76 ⟨rfl, by rw [hmk, show a = 12 by omega]; rfl⟩
      · skip
        have hcn := hwr.2.2.1 a hka.1 c_7
        have hmr := sMk_rng' f p0 hka.1
        refine z_iconst 11 K dX9_row_10 rfl ?_
        refine z_istore (lv' := [(4, .int (iZ 0)), (0, .ref (aD g 94)), (1, .int (iZ p0)), (2, .int (iZ mk)), (3, .int (iZ a))]) 13 K dX9_row_11 rfl (by decide) rfl ?_
        have loop_13 : ∀ (n9 : Nat) (mk2 b : Int), (0 ≤ b ∧ b ≤ f (32 * a + 65)) → (mk2 = mk + zp2 a * b2i (zany (fun b => sTb f p0 a b) b)) → (f (32 * a + 65) - b < (n9 : Int)) → Z p l e (({ frames := 3, cells := 0, slots := 0, locals := 67 } : Room)) s m args below meth c (MQ below (zQi g (fun z C' => C' = C ∧ z = sRow f p0)) args s 0 0 (zA g)) g 5 0 0 (C) [(0, .ref (aD g 94)), (1, .int (iZ p0)), (2, .int (iZ mk2)), (3, .int (iZ a)), (4, .int (iZ b))] 13 [] := by
          intro n9
          induction n9 with
          | zero =>
            intro mk2 b hkb hmk2 hm9
            exact absurd hm9 (by omega)
          | succ n9 ih9 =>
            intro mk2 b hkb hmk2 hm_13
            have ih_13 := ih9
            clear ih9
            refine z_iload 15 K dX9_row_13 rfl 4 rfl ?_
            refine z_aload_n 16 K dX9_row_15 rfl rfl 0 rfl ?_
            refine z_get 19 K hin_X9_row_X9 94 (by decide) hM rfl 0 (by decide) (by decide +kernel : Cond.fieldLink RX9 7 "BriefBuilderModel" "now" "[I" ∈ wsX9_row) (fun _ h9 => h9) rfl dX9_row_16 rfl ?_
            refine z_iload_n 20 K dX9_row_19 rfl rfl 3 rfl ?_
            refine z_vSi (As := [.ref (aD g 95), .int (iZ a)]) (rest := [.int (iZ b)]) 23 K (m_X9_cites l g _ 95 a f (by decide) hN (by omega)) (va_cwS 2 K.1.2.2.2.2 gX9_row_X9_cites rfl rfl rfl (by decide +kernel) ⟨Nat.le_of_ble_eq_true rfl, Nat.le_of_ble_eq_true rfl⟩) rfl (Nat.le_of_ble_eq_true rfl) dX9_row_20 rfl ⟨Nat.le_of_ble_eq_true rfl, Nat.le_of_ble_eq_true rfl⟩ rfl (fun z_1 C_2 hp_20 => ?_)
            refine z_C hp_20.1 ?_
            refine z_top (f (32 * a + 65)) hp_20.2 ?_
            refine z_icmp_ge (tgt := 69) 26 K dX9_row_23 rfl (by decide) (by omega) (by omega) (fun c_23 => ?_) (fun c_23 => ?_)
            · skip
              refine z_iinc (lv' := [(3, .int (iZ (a + 1))), (0, .ref (aD g 94)), (1, .int (iZ p0)), (2, .int (iZ mk2)), (4, .int (iZ b))]) 72 K dX9_row_69 rfl (a + 1) rfl 3 rfl (by decide) rfl ?_
              refine z_goto (tgt := 4) K dX9_row_72 (by decide) ?_
              refine z_sub [1, 2, 3, 0] rfl ?_
              exact ih_4 mk2 (a + 1) (by omega) (by unfold sMk; rw [zsum_1 _ (by omega), hmk2, hmk, show b = f (32 * a + 65) by omega]; rfl) (by omega)
            · skip
              refine z_iload_n 27 K dX9_row_26 rfl rfl 2 rfl ?_
              refine z_aload_n 28 K dX9_row_27 rfl rfl 0 rfl ?_
              refine z_get 31 K hin_X9_row_X9 94 (by decide) hM rfl 0 (by decide) (by decide +kernel : Cond.fieldLink RX9 7 "BriefBuilderModel" "now" "[I" ∈ wsX9_row) (fun _ h9 => h9) rfl dX9_row_28 rfl ?_
              refine z_iload_n 32 K dX9_row_31 rfl rfl 3 rfl ?_
              refine z_iload 34 K dX9_row_32 rfl 4 rfl ?_
              refine z_vSi (As := [.ref (aD g 95), .int (iZ a), .int (iZ b)]) (rest := [.int (iZ mk2)]) 37 K (m_X9_letter l g _ 95 a b f (by decide) hN hwr (by omega) (by omega)) (va_cwS 3 K.1.2.2.2.2 gX9_row_X9_letter rfl rfl rfl (by decide +kernel) ⟨Nat.le_of_ble_eq_true rfl, Nat.le_of_ble_eq_true rfl⟩) rfl (Nat.le_of_ble_eq_true rfl) dX9_row_34 rfl ⟨Nat.le_of_ble_eq_true rfl, Nat.le_of_ble_eq_true rfl⟩ rfl (fun z_3 C_4 hp_34 => ?_)
              refine z_C hp_34.1 ?_
              refine z_top (sLet f a b) hp_34.2 ?_
              have hl := sLet_rng hwr a b
              refine z_iload_n 38 K dX9_row_37 rfl rfl 1 rfl ?_
              have join_61_j_5 : ∀ (w : Int), (w = zp2 a * b2i (sTb f p0 a b)) → Z p l e (({ frames := 3, cells := 0, slots := 0, locals := 67 } : Room)) s m args below meth c (MQ below (zQi g (fun z C' => C' = C ∧ z = sRow f p0)) args s 0 0 (zA g)) g 5 0 0 (C) [(0, .ref (aD g 94)), (1, .int (iZ p0)), (2, .int (iZ mk2)), (3, .int (iZ a)), (4, .int (iZ b))] 61 [.int (iZ w), .int (iZ mk2)] := by
                intro w  hw2
                refine z_ior 62 K dX9_row_61 rfl ?_
                refine z_raw (mk + zp2 a * b2i (zany (fun b => sTb f p0 a b) (b + 1))) (by rw [hmk2, hw2, zany_1 _ (by omega)]; exact zor_step hka.1 c_7 (by rw [hmk]; exact hmr) _ _) ?_
                refine z_istore_n (lv' := [(2, .int (iZ (mk + zp2 a * b2i (zany (fun b => sTb f p0 a b) (b + 1))))), (0, .ref (aD g 94)), (1, .int (iZ p0)), (3, .int (iZ a)), (4, .int (iZ b))]) 63 K dX9_row_62 rfl rfl (by decide) rfl ?_
                refine z_iinc (lv' := [(4, .int (iZ (b + 1))), (2, .int (iZ (mk + zp2 a * b2i (zany (fun b => sTb f p0 a b) (b + 1))))), (0, .ref (aD g 94)), (1, .int (iZ p0)), (3, .int (iZ a))]) 66 K dX9_row_63 rfl (b + 1) rfl 4 rfl (by decide) rfl ?_
                refine z_goto (tgt := 13) K dX9_row_66 (by decide) ?_
                refine z_sub [2, 3, 1, 4, 0] rfl ?_
                exact ih_13 (mk + zp2 a * b2i (zany (fun b => sTb f p0 a b) (b + 1))) (b + 1) (by omega) rfl (by omega)
              refine z_icmp_ne (tgt := 60) 41 K dX9_row_38 rfl (by decide) (by omega) (by omega) (fun c_38 => ?_) (fun c_38 => ?_)
              · skip
                refine z_iconst 61 K dX9_row_60 rfl ?_
                exact join_61_j_5 0 (by unfold sTb; first | (have q9 : sLet f a b ≠ p0 := (by omega); rw [b2i_0 (fun h9 => q9 h9.1), Int.mul_zero]; done) | (have q8 : sLet f a b = p0 := (by omega); have q9 : sLost f a b = false := (by assumption); rw [b2i_1 ⟨q8, q9⟩, Int.mul_one]; done) | (have q9 : sLost f a b = true := (by assumption); rw [b2i_0 (fun h9 => by rw [h9.2] at q9; cases q9), Int.mul_zero]; done))
              · skip
                refine z_aload_n 42 K dX9_row_41 rfl rfl 0 rfl ?_
                refine z_get 45 K hin_X9_row_X9 94 (by decide) hM rfl 0 (by decide) (by decide +kernel : Cond.fieldLink RX9 7 "BriefBuilderModel" "now" "[I" ∈ wsX9_row) (fun _ h9 => h9) rfl dX9_row_42 rfl ?_
                refine z_iload_n 46 K dX9_row_45 rfl rfl 3 rfl ?_
                refine z_iload 48 K dX9_row_46 rfl 4 rfl ?_
                refine z_vSi (As := [.ref (aD g 95), .int (iZ a), .int (iZ b)]) (rest := [.int (iZ mk2)]) 51 K (m_X9_isLost l g _ 95 a b f (by decide) hN hwr (by omega) (by omega)) (va_cwS 3 K.1.2.2.2.2 gX9_row_X9_isLost rfl rfl rfl (by decide +kernel) ⟨Nat.le_of_ble_eq_true rfl, Nat.le_of_ble_eq_true rfl⟩) rfl (Nat.le_of_ble_eq_true rfl) dX9_row_48 rfl ⟨Nat.le_of_ble_eq_true rfl, Nat.le_of_ble_eq_true rfl⟩ rfl (fun z_6 C_7 hp_48 => ?_)
                refine z_C hp_48.1 ?_
                refine z_top (b2i (sLost f a b)) hp_48.2 ?_
                refine z_if_ne (tgt := 60) 54 K dX9_row_51 rfl (by decide) (b2i_ir _) (fun c_51 => ?_) (fun c_51 => ?_)
                · have d_51 := b2i_ne0.mp c_51
                  refine z_iconst 61 K dX9_row_60 rfl ?_
                  exact join_61_j_5 0 (by unfold sTb; first | (have q9 : sLet f a b ≠ p0 := (by omega); rw [b2i_0 (fun h9 => q9 h9.1), Int.mul_zero]; done) | (have q8 : sLet f a b = p0 := (by omega); have q9 : sLost f a b = false := (by assumption); rw [b2i_1 ⟨q8, q9⟩, Int.mul_one]; done) | (have q9 : sLost f a b = true := (by assumption); rw [b2i_0 (fun h9 => by rw [h9.2] at q9; cases q9), Int.mul_zero]; done))
                · have d_51 := b2i_eq0.mp c_51
                  refine z_iconst 55 K dX9_row_54 rfl ?_
                  refine z_iload_n 56 K dX9_row_55 rfl rfl 3 rfl ?_
                  refine z_ishl 57 K dX9_row_56 rfl ?_
                  refine z_raw (zp2 a) (zp2_shl hka.1 c_7) ?_
                  refine z_goto (tgt := 61) K dX9_row_57 (by decide) ?_
                  exact join_61_j_5 (zp2 a) (by unfold sTb; first | (have q9 : sLet f a b ≠ p0 := (by omega); rw [b2i_0 (fun h9 => q9 h9.1), Int.mul_zero]; done) | (have q8 : sLet f a b = p0 := (by omega); have q9 : sLost f a b = false := (by assumption); rw [b2i_1 ⟨q8, q9⟩, Int.mul_one]; done) | (have q9 : sLost f a b = true := (by assumption); rw [b2i_0 (fun h9 => by rw [h9.2] at q9; cases q9), Int.mul_zero]; done))
        refine z_sub [1, 2, 3, 4, 0] rfl ?_
        exact loop_13 (Int.toNat (f (32 * a + 65) - 0) + 1) mk 0 (by omega) (by rw [zany_0, b2i_f, Int.mul_zero, Int.add_zero]) (by omega)
  refine z_sub [2, 3, 1, 0] rfl ?_
  exact loop_4 (Int.toNat (12 - 0) + 1) 0 0 (by omega) rfl (by omega)
set_option maxRecDepth 20000 in
theorem hin_X9_table_X9 : ∀ w ∈ wsX90, w ∈ wsX9_table := by decide +kernel
set_option maxHeartbeats 4000000 in
set_option maxRecDepth 100000 in
theorem m_X9_table (l : Launch) (g : zG) (C : Nat → va_E) (p0 : Int) (k : Int) (ty : Int) (th : Int) (pt : Int) (fl : Int) (to : Int) (f : Int → Int) (cap : Int) (hM : C 94 = .inr (9, [.ref (aD g 95), .ref (aD g 96), .ref (aD g 97), .int (iZ k), .ref (aD g 98), .int (iZ ty), .int (iZ th), .int (iZ pt), .int (iZ fl), .ref (aD g 99), .int (iZ to)])) (hN : C 95 = eI g 449 f) (hw : WF f cap) (hcap : cap ≤ 100000) (hk : 0 ≤ k ∧ k ≤ 6) (h_p0 : -2147483648 ≤ p0 ∧ p0 < 2147483648) : Met l yX9_table wsX9_table ({ frames := 4, cells := 0, slots := 0, locals := 91 } : Room) (zPre g C [.ref (aD g 94), .int (iZ p0)]) (zQi g (fun z C' => C' = va_up C 94 (.inr (9, [.ref (aD g 95), .ref (aD g 96), .ref (aD g 97), .int (iZ k), .ref (aD g 98), .int (iZ ty), .int (iZ (kPl f p0)), .int (iZ pt), .int (iZ fl), .ref (aD g 99), .int (iZ to)])) ∧ z = if kPl f p0 = 0 then sRow f p0 else 0)) 0 0 (zA g) := by
  refine z_enter RX9 rfl (by decide) rfl (Nat.le_of_ble_eq_true rfl) ?_
  intro p e s m args below meth c K harg
  refine z_sub (lv' := [(0, .ref (aD g 94)), (1, .int (iZ p0))]) [0, 1] rfl ?_
  have hn := hw.n
  have hwr := hw.wr
  refine z_aload_n 1 K dX9_table_0 rfl rfl 0 rfl ?_
  refine z_iconst 2 K dX9_table_1 rfl ?_
  refine z_put (ty := .int) 5 K hin_X9_table_X9 tyX9 tyX9_ok nmX9 94 (by decide) hM rfl 6 (by decide) (by decide +kernel : Cond.fieldLink RX9 25 "BriefBuilderModel" "thrown" "I" ∈ wsX9_table) (fun _ h9 => h9) rfl (by decide +kernel) rfl rfl (Nat.le_of_ble_eq_true rfl) dX9_table_2 rfl ?_
  show Z p l e (({ frames := 4, cells := 0, slots := 0, locals := 91 } : Room)) s m args below meth c (MQ below (zQi g (fun z C' => C' = va_up C 94 (.inr (9, [.ref (aD g 95), .ref (aD g 96), .ref (aD g 97), .int (iZ k), .ref (aD g 98), .int (iZ ty), .int (iZ (kPl f p0)), .int (iZ pt), .int (iZ fl), .ref (aD g 99), .int (iZ to)])) ∧ z = if kPl f p0 = 0 then sRow f p0 else 0)) args s 0 0 (zA g)) g _ _ _ (va_up C 94 (.inr (9, [.ref (aD g 95), .ref (aD g 96), .ref (aD g 97), .int (iZ k), .ref (aD g 98), .int (iZ ty), .int (iZ 0), .int (iZ pt), .int (iZ fl), .ref (aD g 99), .int (iZ to)]))) [(0, .ref (aD g 94)), (1, .int (iZ p0))] 5 []
  refine z_aload_n 6 K dX9_table_5 rfl rfl 0 rfl ?_
  refine z_iload_n 7 K dX9_table_6 rfl rfl 1 rfl ?_
  refine z_vVi (As := [.int (iZ p0)]) (rest := []) 10 K 94 (by decide) (va_up_eq _ 94 _) rfl rfl (m_X9_isPlace l g _ p0 k ty 0 pt fl to f (va_up_eq _ 94 _) ((va_up_ne _ _ (by decide)).trans hN) (by omega) (by omega)) (cwV 1 K.1.2.2.2.2 gX9_table_X9_isPlace rfl rfl rfl (by decide +kernel) ⟨Nat.le_of_ble_eq_true rfl, Nat.le_of_ble_eq_true rfl⟩) rfl (Nat.le_of_ble_eq_true rfl) dX9_table_7 rfl ⟨Nat.le_of_ble_eq_true rfl, Nat.le_of_ble_eq_true rfl⟩ rfl (fun z_1 C_2 hp_7 => ?_)
  refine z_C hp_7.1 ?_
  refine z_top (b2i (decide (0 ≤ p0 ∧ p0 ≤ f 1 - 1))) hp_7.2 ?_
  refine z_if_eq (tgt := 21) 13 K dX9_table_10 rfl (by decide) (b2i_ir _) (fun c_10 => ?_) (fun c_10 => ?_)
  · have d_10 := b2i_dec0.mp c_10
    refine z_aload_n 22 K dX9_table_21 rfl rfl 0 rfl ?_
    refine z_iconst 23 K dX9_table_22 rfl ?_
    refine z_top (kPl f p0) (by unfold kPl; (repeat' split) <;> omega) ?_
    refine z_vVi (As := [.int (iZ (kPl f p0))]) (rest := []) 26 K 94 (by decide) (va_up_eq _ 94 _) rfl rfl (m_X9_fails l g _ (kPl f p0) k ty 0 pt fl to (va_up_eq _ 94 _)) (cwV 1 K.1.2.2.2.2 gX9_table_X9_fails rfl rfl rfl (by decide +kernel) ⟨Nat.le_of_ble_eq_true rfl, Nat.le_of_ble_eq_true rfl⟩) rfl (Nat.le_of_ble_eq_true rfl) dX9_table_23 rfl ⟨Nat.le_of_ble_eq_true rfl, Nat.le_of_ble_eq_true rfl⟩ rfl (fun z_3 C_4 hp_23 => ?_)
    refine z_C hp_23.1 ?_
    refine z_top (0) hp_23.2 ?_
    refine z_C (va_uu _ _ _ _) ?_
    have hK : ¬ kPl f p0 = 0 := by unfold kPl; (repeat' split) <;> omega
    exact z_iret K rfl dX9_table_26 ⟨rfl, (by rw [if_neg hK])⟩
  · have d_10 := b2i_decn.mp c_10
    refine z_aload_n 14 K dX9_table_13 rfl rfl 0 rfl ?_
    refine z_iload_n 15 K dX9_table_14 rfl rfl 1 rfl ?_
    refine z_vVi (As := [.int (iZ p0)]) (rest := []) 18 K 94 (by decide) (va_up_eq _ 94 _) rfl rfl (m_X9_row l g _ p0 k ty 0 pt fl to f _ (va_up_eq _ 94 _) ((va_up_ne _ _ (by decide)).trans hN) hw hcap (by omega)) (cwV 1 K.1.2.2.2.2 gX9_table_X9_row rfl rfl rfl (by decide +kernel) ⟨Nat.le_of_ble_eq_true rfl, Nat.le_of_ble_eq_true rfl⟩) rfl (Nat.le_of_ble_eq_true rfl) dX9_table_15 rfl ⟨Nat.le_of_ble_eq_true rfl, Nat.le_of_ble_eq_true rfl⟩ rfl (fun z_5 C_6 hp_15 => ?_)
    refine z_C hp_15.1 ?_
    refine z_top (sRow f p0) hp_15.2 ?_
    refine z_goto (tgt := 26) K dX9_table_18 (by decide) ?_
    have hK : kPl f p0 = 0 := by unfold kPl; (repeat' split) <;> omega
    exact z_iret K rfl dX9_table_26 ⟨(by rw [hK] <;> rfl), (by rw [if_pos hK] <;> rfl)⟩
set_option maxRecDepth 20000 in
theorem hin_X9_isAt_X9 : ∀ w ∈ wsX90, w ∈ wsX9_isAt := by decide +kernel
set_option maxHeartbeats 4000000 in
set_option maxRecDepth 100000 in
theorem m_X9_isAt (l : Launch) (g : zG) (C : Nat → va_E) (lo : Int) (hii : Int) (k : Int) (ty : Int) (th : Int) (pt : Int) (fl : Int) (to : Int) (tx : Int → Int) (hM : C 94 = .inr (9, [.ref (aD g 95), .ref (aD g 96), .ref (aD g 97), .int (iZ k), .ref (aD g 98), .int (iZ ty), .int (iZ th), .int (iZ pt), .int (iZ fl), .ref (aD g 99), .int (iZ to)])) (hTx : C 98 = eI g 60 tx) (hty : 0 ≤ ty ∧ ty ≤ 60) (htr : ∀ j, -2147483648 ≤ tx j ∧ tx j < 2147483648) (hpt : 0 ≤ pt ∧ pt ≤ ty) (hlo : -2147483648 ≤ lo ∧ lo < 2147483648) (hhi : -2147483648 ≤ hii ∧ hii < 2147483648) : Met l yX9_isAt wsX9_isAt ({ frames := 1, cells := 0, slots := 0, locals := 22 } : Room) (zPre g C [.ref (aD g 94), .int (iZ lo), .int (iZ hii)]) (zQi g (fun z C' => C' = C ∧ z = b2i (cA tx ty pt lo hii))) 0 0 (zA g) := by
  refine z_enter RX9 rfl (by decide) rfl (Nat.le_of_ble_eq_true rfl) ?_
  intro p e s m args below meth c K harg
  refine z_sub (lv' := [(0, .ref (aD g 94)), (1, .int (iZ lo)), (2, .int (iZ hii))]) [0, 1, 2] rfl ?_
  refine z_aload_n 1 K dX9_isAt_0 rfl rfl 0 rfl ?_
  refine z_get 4 K hin_X9_isAt_X9 94 (by decide) hM rfl 7 (by decide) (by decide +kernel : Cond.fieldLink RX9 125 "BriefBuilderModel" "at" "I" ∈ wsX9_isAt) (fun _ h9 => h9) rfl dX9_isAt_1 rfl ?_
  refine z_aload_n 5 K dX9_isAt_4 rfl rfl 0 rfl ?_
  refine z_get 8 K hin_X9_isAt_X9 94 (by decide) hM rfl 5 (by decide) (by decide +kernel : Cond.fieldLink RX9 122 "BriefBuilderModel" "typed" "I" ∈ wsX9_isAt) (fun _ h9 => h9) rfl dX9_isAt_5 rfl ?_
  have join_33_j_1 : ∀ (w : Int), (w = b2i (cA tx ty pt lo hii)) → Z p l e (({ frames := 1, cells := 0, slots := 0, locals := 22 } : Room)) s m args below meth c (MQ below (zQi g (fun z C' => C' = C ∧ z = b2i (cA tx ty pt lo hii))) args s 0 0 (zA g)) g 3 0 0 (C) [(0, .ref (aD g 94)), (1, .int (iZ lo)), (2, .int (iZ hii))] 33 [.int (iZ w)] := by
    intro w  hw2
    exact z_zret K rfl (by rw [hw2]; exact b2i_rng _) dX9_isAt_33 ⟨rfl, hw2⟩
  refine z_icmp_ge (tgt := 32) 11 K dX9_isAt_8 rfl (by decide) (by omega) (by omega) (fun c_8 => ?_) (fun c_8 => ?_)
  · skip
    refine z_iconst 33 K dX9_isAt_32 rfl ?_
    exact join_33_j_1 0 (by unfold cA; first | (have q9 : pt < ty := (by omega); simp only [q9, true_and]; done) | (have q9 : ¬ (pt < ty ∧ lo ≤ tx pt ∧ tx pt ≤ hii) := (by omega); exact (b2i_0 q9).symm))
  · skip
    refine z_aload_n 12 K dX9_isAt_11 rfl rfl 0 rfl ?_
    refine z_get 15 K hin_X9_isAt_X9 94 (by decide) hM rfl 4 (by decide) (by decide +kernel : Cond.fieldLink RX9 19 "BriefBuilderModel" "text" "[I" ∈ wsX9_isAt) (fun _ h9 => h9) rfl dX9_isAt_12 rfl ?_
    refine z_aload_n 16 K dX9_isAt_15 rfl rfl 0 rfl ?_
    refine z_get 19 K hin_X9_isAt_X9 94 (by decide) hM rfl 7 (by decide) (by decide +kernel : Cond.fieldLink RX9 125 "BriefBuilderModel" "at" "I" ∈ wsX9_isAt) (fun _ h9 => h9) rfl dX9_isAt_16 rfl ?_
    refine z_iald (f := tx) 20 K 98 (by decide) hTx (by omega) (by omega) (by decide) dX9_isAt_19 rfl ?_
    have hr_19 := htr pt
    refine z_iload_n 21 K dX9_isAt_20 rfl rfl 1 rfl ?_
    refine z_iload_n 22 K dX9_isAt_21 rfl rfl 2 rfl ?_
    refine z_vSi (As := [.int (iZ (tx pt)), .int (iZ lo), .int (iZ hii)]) (rest := []) 25 K (m_X9_in l g _ (tx pt) lo hii (by omega) (by omega) (by omega)) (va_cwS 3 K.1.2.2.2.2 gX9_isAt_X9_in rfl rfl rfl (by decide +kernel) ⟨Nat.le_of_ble_eq_true rfl, Nat.le_of_ble_eq_true rfl⟩) rfl (Nat.le_of_ble_eq_true rfl) dX9_isAt_22 rfl ⟨Nat.le_of_ble_eq_true rfl, Nat.le_of_ble_eq_true rfl⟩ rfl (fun z_2 C_3 hp_22 => ?_)
    refine z_C hp_22.1 ?_
    refine z_top (b2i (decide (lo ≤ (tx pt) ∧ (tx pt) ≤ hii))) hp_22.2 ?_
    refine z_bool01 28 29 32 33 K (b2i_rng _) dX9_isAt_25 dX9_isAt_28 dX9_isAt_29 dX9_isAt_32 rfl rfl (by decide) (by decide) rfl ?_
    exact join_33_j_1 (b2i (decide (lo ≤ (tx pt) ∧ (tx pt) ≤ hii))) (by unfold cA; first | (have q9 : pt < ty := (by omega); simp only [q9, true_and]; done) | (have q9 : ¬ (pt < ty ∧ lo ≤ tx pt ∧ tx pt ≤ hii) := (by omega); exact (b2i_0 q9).symm))
set_option maxRecDepth 20000 in
theorem hin_X9_stops_X9 : ∀ w ∈ wsX90, w ∈ wsX9_stops := by decide +kernel
set_option maxHeartbeats 4000000 in
set_option maxRecDepth 100000 in
theorem m_X9_stops (l : Launch) (g : zG) (C : Nat → va_E) (k : Int) (ty : Int) (th : Int) (pt : Int) (fl : Int) (to : Int) (hM : C 94 = .inr (9, [.ref (aD g 95), .ref (aD g 96), .ref (aD g 97), .int (iZ k), .ref (aD g 98), .int (iZ ty), .int (iZ th), .int (iZ pt), .int (iZ fl), .ref (aD g 99), .int (iZ to)])) (hty : 0 ≤ ty ∧ ty ≤ 60) (hpt : 0 ≤ pt ∧ pt ≤ 60) : Met l yX9_stops wsX9_stops ({ frames := 0, cells := 0, slots := 0, locals := 0 } : Room) (zPre g C [.ref (aD g 94)]) (zQi g (fun z C' => C' = va_up C 94 (.inr (9, [.ref (aD g 95), .ref (aD g 96), .ref (aD g 97), .int (iZ k), .ref (aD g 98), .int (iZ ty), .int (iZ th), .int (iZ pt), .int (iZ (b2i (decide (pt < ty)))), .ref (aD g 99), .int (iZ to)])) ∧ z = 0)) 0 0 (zA g) := by
  refine z_enter RX9 rfl (by decide) rfl (Nat.le_of_ble_eq_true rfl) ?_
  intro p e s m args below meth c K harg
  refine z_sub (lv' := [(0, .ref (aD g 94))]) [0] rfl ?_
  refine z_aload_n 1 K dX9_stops_0 rfl rfl 0 rfl ?_
  refine z_aload_n 2 K dX9_stops_1 rfl rfl 0 rfl ?_
  refine z_get 5 K hin_X9_stops_X9 94 (by decide) hM rfl 7 (by decide) (by decide +kernel : Cond.fieldLink RX9 125 "BriefBuilderModel" "at" "I" ∈ wsX9_stops) (fun _ h9 => h9) rfl dX9_stops_2 rfl ?_
  refine z_aload_n 6 K dX9_stops_5 rfl rfl 0 rfl ?_
  refine z_get 9 K hin_X9_stops_X9 94 (by decide) hM rfl 5 (by decide) (by decide +kernel : Cond.fieldLink RX9 122 "BriefBuilderModel" "typed" "I" ∈ wsX9_stops) (fun _ h9 => h9) rfl dX9_stops_6 rfl ?_
  have join_17_j_1 : ∀ (w : Int), (w = b2i (decide (pt < ty))) → (w = 0 ∨ w = 1) → Z p l e (({ frames := 0, cells := 0, slots := 0, locals := 0 } : Room)) s m args below meth c (MQ below (zQi g (fun z C' => C' = va_up C 94 (.inr (9, [.ref (aD g 95), .ref (aD g 96), .ref (aD g 97), .int (iZ k), .ref (aD g 98), .int (iZ ty), .int (iZ th), .int (iZ pt), .int (iZ (b2i (decide (pt < ty)))), .ref (aD g 99), .int (iZ to)])) ∧ z = 0)) args s 0 0 (zA g)) g 1 0 0 (C) [(0, .ref (aD g 94))] 17 [.int (iZ w), .ref (aD g 94)] := by
    intro w  hw2 hw3
    refine z_put (ty := .boolean) 20 K hin_X9_stops_X9 tyX9 tyX9_ok nmX9 94 (by decide) hM rfl 8 (by decide) (by decide +kernel : Cond.fieldLink RX9 128 "BriefBuilderModel" "isFault" "Z" ∈ wsX9_stops) (fun _ h9 => h9) rfl (by decide +kernel) (zb_nar (by omega)) (zb_fit (by omega)) (Nat.le_of_ble_eq_true rfl) dX9_stops_17 rfl ?_
    show Z p l e (({ frames := 0, cells := 0, slots := 0, locals := 0 } : Room)) s m args below meth c (MQ below (zQi g (fun z C' => C' = va_up C 94 (.inr (9, [.ref (aD g 95), .ref (aD g 96), .ref (aD g 97), .int (iZ k), .ref (aD g 98), .int (iZ ty), .int (iZ th), .int (iZ pt), .int (iZ (b2i (decide (pt < ty)))), .ref (aD g 99), .int (iZ to)])) ∧ z = 0)) args s 0 0 (zA g)) g _ _ _ (va_up C 94 (.inr (9, [.ref (aD g 95), .ref (aD g 96), .ref (aD g 97), .int (iZ k), .ref (aD g 98), .int (iZ ty), .int (iZ th), .int (iZ pt), .int (iZ w), .ref (aD g 99), .int (iZ to)]))) [(0, .ref (aD g 94))] 20 []
    refine z_iconst 21 K dX9_stops_20 rfl ?_
    exact z_zret K rfl (by decide) dX9_stops_21 ⟨by rw [hw2], rfl⟩
  refine z_icmp_ge (tgt := 16) 12 K dX9_stops_9 rfl (by decide) (by omega) (by omega) (fun c_9 => ?_) (fun c_9 => ?_)
  · skip
    refine z_iconst 17 K dX9_stops_16 rfl ?_
    exact join_17_j_1 0 (by first | (have q9 : pt < ty := (by omega); exact (b2i_1 q9).symm) | (have q9 : ¬ pt < ty := (by omega); exact (b2i_0 q9).symm)) (by decide)
  · skip
    refine z_iconst 13 K dX9_stops_12 rfl ?_
    refine z_goto (tgt := 17) K dX9_stops_13 (by decide) ?_
    exact join_17_j_1 1 (by first | (have q9 : pt < ty := (by omega); exact (b2i_1 q9).symm) | (have q9 : ¬ pt < ty := (by omega); exact (b2i_0 q9).symm)) (by decide)
set_option maxRecDepth 20000 in
theorem hin_X9_isCitation_X9 : ∀ w ∈ wsX90, w ∈ wsX9_isCitation := by decide +kernel
set_option maxHeartbeats 4000000 in
set_option maxRecDepth 100000 in
theorem m_X9_isCitation (l : Launch) (g : zG) (C : Nat → va_E) (k : Int) (ty : Int) (th : Int) (pt : Int) (fl : Int) (to : Int) (tx : Int → Int) (td : Int → Int) (hM : C 94 = .inr (9, [.ref (aD g 95), .ref (aD g 96), .ref (aD g 97), .int (iZ k), .ref (aD g 98), .int (iZ ty), .int (iZ th), .int (iZ pt), .int (iZ fl), .ref (aD g 99), .int (iZ to)])) (hTx : C 98 = eI g 60 tx) (hTd : C 99 = eI g 12 td) (hty : 0 ≤ ty ∧ ty ≤ 60) (htr : ∀ j, -2147483648 ≤ tx j ∧ tx j < 2147483648) (hpt : 0 ≤ pt ∧ pt ≤ ty) (hto : 0 ≤ to ∧ to ≤ 5) : Met l yX9_isCitation wsX9_isCitation ({ frames := 2, cells := 0, slots := 0, locals := 44 } : Room) (zPre g C [.ref (aD g 94)]) (zQi g (fun z C' => C' = va_up (va_up C 94 (.inr (9, [.ref (aD g 95), .ref (aD g 96), .ref (aD g 97), .int (iZ k), .ref (aD g 98), .int (iZ ty), .int (iZ th), .int (iZ (cAt tx ty pt)), .int (iZ (if cOk tx ty pt = true then fl else b2i (decide (cStop tx ty pt < ty)))), .ref (aD g 99), .int (iZ (if cOk tx ty pt = true then to + 1 else to))]))) 99 (eI g 12 (if cOk tx ty pt = true then tPut tx ty pt to td else td)) ∧ z = b2i (cOk tx ty pt))) 0 0 (zA g) := by
  refine z_enter RX9 rfl (by decide) rfl (Nat.le_of_ble_eq_true rfl) ?_
  intro p e s m args below meth c K harg
  refine z_sub (lv' := [(0, .ref (aD g 94))]) [0] rfl ?_
  refine z_aload_n 1 K dX9_isCitation_0 rfl rfl 0 rfl ?_
  refine z_bipush 3 K dX9_isCitation_1 rfl rfl ?_
  refine z_bipush 5 K dX9_isCitation_3 rfl rfl ?_
  refine z_vVi (As := [.int (iZ 65), .int (iZ 90)]) (rest := []) 8 K 94 (by decide) hM rfl rfl (m_X9_isAt l g _ 65 90 k ty th pt fl to tx hM hTx (by omega) (by omega) (by omega) (by omega) (by omega)) (cwV 2 K.1.2.2.2.2 gX9_isCitation_X9_isAt rfl rfl rfl (by decide +kernel) ⟨Nat.le_of_ble_eq_true rfl, Nat.le_of_ble_eq_true rfl⟩) rfl (Nat.le_of_ble_eq_true rfl) dX9_isCitation_5 rfl ⟨Nat.le_of_ble_eq_true rfl, Nat.le_of_ble_eq_true rfl⟩ rfl (fun z_1 C_2 hp_5 => ?_)
  refine z_C hp_5.1 ?_
  refine z_top (b2i (cA tx ty pt 65 90)) hp_5.2 ?_
  refine z_if_ne (tgt := 16) 11 K dX9_isCitation_8 rfl (by decide) (b2i_ir _) (fun c_8 => ?_) (fun c_8 => ?_)
  · have d_8 := b2i_ne0.mp c_8
    have ha1 := cA_lt d_8
    have r2 := cI2_rng tx ty pt
    have l2 := cI2_le (tx := tx) ha1.1
    have hr16 := htr pt
    refine z_aload_n 17 K dX9_isCitation_16 rfl rfl 0 rfl ?_
    refine z_get 20 K hin_X9_isCitation_X9 94 (by decide) hM rfl 4 (by decide) (by decide +kernel : Cond.fieldLink RX9 19 "BriefBuilderModel" "text" "[I" ∈ wsX9_isCitation) (fun _ h9 => h9) rfl dX9_isCitation_17 rfl ?_
    refine z_aload_n 21 K dX9_isCitation_20 rfl rfl 0 rfl ?_
    refine z_get 24 K hin_X9_isCitation_X9 94 (by decide) hM rfl 7 (by decide) (by decide +kernel : Cond.fieldLink RX9 125 "BriefBuilderModel" "at" "I" ∈ wsX9_isCitation) (fun _ h9 => h9) rfl dX9_isCitation_21 rfl ?_
    refine z_iald (f := tx) 25 K 98 (by decide) hTx (by omega) (by omega) (by decide) dX9_isCitation_24 rfl ?_
    have hr_24 := htr pt
    refine z_bipush 27 K dX9_isCitation_25 rfl rfl ?_
    refine z_isub 28 K dX9_isCitation_27 rfl ?_
    refine z_istore_n (lv' := [(1, .int (iZ (tx pt - 65))), (0, .ref (aD g 94))]) 29 K dX9_isCitation_28 rfl rfl (by decide) rfl ?_
    refine z_aload_n 30 K dX9_isCitation_29 rfl rfl 1 rfl ?_
    refine z_dup 31 K dX9_isCitation_30 rfl rfl ?_
    refine z_get 34 K hin_X9_isCitation_X9 94 (by decide) hM rfl 7 (by decide) (by decide +kernel : Cond.fieldLink RX9 125 "BriefBuilderModel" "at" "I" ∈ wsX9_isCitation) (fun _ h9 => h9) rfl dX9_isCitation_31 rfl ?_
    refine z_iconst 35 K dX9_isCitation_34 rfl ?_
    refine z_iadd 36 K dX9_isCitation_35 rfl ?_
    refine z_put (ty := .int) 39 K hin_X9_isCitation_X9 tyX9 tyX9_ok nmX9 94 (by decide) hM rfl 7 (by decide) (by decide +kernel : Cond.fieldLink RX9 125 "BriefBuilderModel" "at" "I" ∈ wsX9_isCitation) (fun _ h9 => h9) rfl (by decide +kernel) rfl rfl (Nat.le_of_ble_eq_true rfl) dX9_isCitation_36 rfl ?_
    show Z p l e (({ frames := 2, cells := 0, slots := 0, locals := 44 } : Room)) s m args below meth c (MQ below (zQi g (fun z C' => C' = va_up (va_up C 94 (.inr (9, [.ref (aD g 95), .ref (aD g 96), .ref (aD g 97), .int (iZ k), .ref (aD g 98), .int (iZ ty), .int (iZ th), .int (iZ (cAt tx ty pt)), .int (iZ (if cOk tx ty pt = true then fl else b2i (decide (cStop tx ty pt < ty)))), .ref (aD g 99), .int (iZ (if cOk tx ty pt = true then to + 1 else to))]))) 99 (eI g 12 (if cOk tx ty pt = true then tPut tx ty pt to td else td)) ∧ z = b2i (cOk tx ty pt))) args s 0 0 (zA g)) g _ _ _ (va_up C 94 (.inr (9, [.ref (aD g 95), .ref (aD g 96), .ref (aD g 97), .int (iZ k), .ref (aD g 98), .int (iZ ty), .int (iZ th), .int (iZ (pt + 1)), .int (iZ fl), .ref (aD g 99), .int (iZ to)]))) [(1, .int (iZ (tx pt - 65))), (0, .ref (aD g 94))] 39 []
    refine z_iload_n 40 K dX9_isCitation_39 rfl rfl 0 rfl ?_
    have join_80_j_3 : ∀ (le i2 : Int), (le = cLt tx ty pt) → (i2 = cI2 tx ty pt) → Z p l e (({ frames := 2, cells := 0, slots := 0, locals := 44 } : Room)) s m args below meth c (MQ below (zQi g (fun z C' => C' = va_up (va_up C 94 (.inr (9, [.ref (aD g 95), .ref (aD g 96), .ref (aD g 97), .int (iZ k), .ref (aD g 98), .int (iZ ty), .int (iZ th), .int (iZ (cAt tx ty pt)), .int (iZ (if cOk tx ty pt = true then fl else b2i (decide (cStop tx ty pt < ty)))), .ref (aD g 99), .int (iZ (if cOk tx ty pt = true then to + 1 else to))]))) 99 (eI g 12 (if cOk tx ty pt = true then tPut tx ty pt to td else td)) ∧ z = b2i (cOk tx ty pt))) args s 0 0 (zA g)) g 3 0 0 (va_up C 94 (.inr (9, [.ref (aD g 95), .ref (aD g 96), .ref (aD g 97), .int (iZ k), .ref (aD g 98), .int (iZ ty), .int (iZ th), .int (iZ i2), .int (iZ fl), .ref (aD g 99), .int (iZ to)]))) [(1, .int (iZ le)), (0, .ref (aD g 94))] 80 [] := by
      intro le i2  hle hi2
      refine z_aload_n 81 K dX9_isCitation_80 rfl rfl 1 rfl ?_
      refine z_bipush 83 K dX9_isCitation_81 rfl rfl ?_
      refine z_bipush 85 K dX9_isCitation_83 rfl rfl ?_
      refine z_vVi (As := [.int (iZ 46), .int (iZ 46)]) (rest := []) 88 K 94 (by decide) (va_up_eq _ 94 _) rfl rfl (m_X9_isAt l g _ 46 46 k ty th i2 fl to tx (va_up_eq _ 94 _) ((va_up_ne _ _ (by decide)).trans hTx) (by omega) (by omega) (by omega) (by omega) (by omega)) (cwV 2 K.1.2.2.2.2 gX9_isCitation_X9_isAt rfl rfl rfl (by decide +kernel) ⟨Nat.le_of_ble_eq_true rfl, Nat.le_of_ble_eq_true rfl⟩) rfl (Nat.le_of_ble_eq_true rfl) dX9_isCitation_85 rfl ⟨Nat.le_of_ble_eq_true rfl, Nat.le_of_ble_eq_true rfl⟩ rfl (fun z_4 C_5 hp_85 => ?_)
      refine z_C hp_85.1 ?_
      refine z_top (b2i (cA tx ty i2 46 46)) hp_85.2 ?_
      refine z_if_ne (tgt := 96) 91 K dX9_isCitation_88 rfl (by decide) (b2i_ir _) (fun c_88 => ?_) (fun c_88 => ?_)
      · have d_88 := b2i_ne0.mp c_88
        have ha2 := cA_lt d_88
        refine z_aload_n 97 K dX9_isCitation_96 rfl rfl 1 rfl ?_
        refine z_dup 98 K dX9_isCitation_97 rfl rfl ?_
        refine z_get 101 K hin_X9_isCitation_X9 94 (by decide) (va_up_eq _ 94 _) rfl 7 (by decide) (by decide +kernel : Cond.fieldLink RX9 125 "BriefBuilderModel" "at" "I" ∈ wsX9_isCitation) (fun _ h9 => h9) rfl dX9_isCitation_98 rfl ?_
        refine z_iconst 102 K dX9_isCitation_101 rfl ?_
        refine z_iadd 103 K dX9_isCitation_102 rfl ?_
        refine z_put (ty := .int) 106 K hin_X9_isCitation_X9 tyX9 tyX9_ok nmX9 94 (by decide) (va_up_eq _ 94 _) rfl 7 (by decide) (by decide +kernel : Cond.fieldLink RX9 125 "BriefBuilderModel" "at" "I" ∈ wsX9_isCitation) (fun _ h9 => h9) rfl (by decide +kernel) rfl rfl (Nat.le_of_ble_eq_true rfl) dX9_isCitation_103 rfl ?_
        show Z p l e (({ frames := 2, cells := 0, slots := 0, locals := 44 } : Room)) s m args below meth c (MQ below (zQi g (fun z C' => C' = va_up (va_up C 94 (.inr (9, [.ref (aD g 95), .ref (aD g 96), .ref (aD g 97), .int (iZ k), .ref (aD g 98), .int (iZ ty), .int (iZ th), .int (iZ (cAt tx ty pt)), .int (iZ (if cOk tx ty pt = true then fl else b2i (decide (cStop tx ty pt < ty)))), .ref (aD g 99), .int (iZ (if cOk tx ty pt = true then to + 1 else to))]))) 99 (eI g 12 (if cOk tx ty pt = true then tPut tx ty pt to td else td)) ∧ z = b2i (cOk tx ty pt))) args s 0 0 (zA g)) g _ _ _ (va_up (va_up C 94 (.inr (9, [.ref (aD g 95), .ref (aD g 96), .ref (aD g 97), .int (iZ k), .ref (aD g 98), .int (iZ ty), .int (iZ th), .int (iZ i2), .int (iZ fl), .ref (aD g 99), .int (iZ to)]))) 94 (.inr (9, [.ref (aD g 95), .ref (aD g 96), .ref (aD g 97), .int (iZ k), .ref (aD g 98), .int (iZ ty), .int (iZ th), .int (iZ (i2 + 1)), .int (iZ fl), .ref (aD g 99), .int (iZ to)]))) [(1, .int (iZ le)), (0, .ref (aD g 94))] 106 []
        refine z_C (va_uu _ _ _ _) ?_
        refine z_aload_n 107 K dX9_isCitation_106 rfl rfl 1 rfl ?_
        refine z_bipush 109 K dX9_isCitation_107 rfl rfl ?_
        refine z_bipush 111 K dX9_isCitation_109 rfl rfl ?_
        refine z_vVi (As := [.int (iZ 49), .int (iZ 57)]) (rest := []) 114 K 94 (by decide) (va_up_eq _ 94 _) rfl rfl (m_X9_isAt l g _ 49 57 k ty th (i2 + 1) fl to tx (va_up_eq _ 94 _) ((va_up_ne _ _ (by decide)).trans hTx) (by omega) (by omega) (by omega) (by omega) (by omega)) (cwV 2 K.1.2.2.2.2 gX9_isCitation_X9_isAt rfl rfl rfl (by decide +kernel) ⟨Nat.le_of_ble_eq_true rfl, Nat.le_of_ble_eq_true rfl⟩) rfl (Nat.le_of_ble_eq_true rfl) dX9_isCitation_111 rfl ⟨Nat.le_of_ble_eq_true rfl, Nat.le_of_ble_eq_true rfl⟩ rfl (fun z_6 C_7 hp_111 => ?_)
        refine z_C hp_111.1 ?_
        refine z_top (b2i (cA tx ty (i2 + 1) 49 57)) hp_111.2 ?_
        refine z_if_ne (tgt := 122) 117 K dX9_isCitation_114 rfl (by decide) (b2i_ir _) (fun c_114 => ?_) (fun c_114 => ?_)
        · have d_114 := b2i_ne0.mp c_114
          have ha3 := cA_lt d_114
          have r5 := cI5_rng tx ty (cI2 tx ty pt + 1)
          have l5 := cI5_le (tx := tx) ha3.1
          refine z_aload_n 123 K dX9_isCitation_122 rfl rfl 1 rfl ?_
          refine z_get 126 K hin_X9_isCitation_X9 94 (by decide) (va_up_eq _ 94 _) rfl 4 (by decide) (by decide +kernel : Cond.fieldLink RX9 19 "BriefBuilderModel" "text" "[I" ∈ wsX9_isCitation) (fun _ h9 => h9) rfl dX9_isCitation_123 rfl ?_
          refine z_aload_n 127 K dX9_isCitation_126 rfl rfl 1 rfl ?_
          refine z_get 130 K hin_X9_isCitation_X9 94 (by decide) (va_up_eq _ 94 _) rfl 7 (by decide) (by decide +kernel : Cond.fieldLink RX9 125 "BriefBuilderModel" "at" "I" ∈ wsX9_isCitation) (fun _ h9 => h9) rfl dX9_isCitation_127 rfl ?_
          refine z_iald (f := tx) 131 K 98 (by decide) ((va_up_ne _ _ (by decide)).trans hTx) (by omega) (by omega) (by decide) dX9_isCitation_130 rfl ?_
          have hr_130 := htr (i2 + 1)
          refine z_bipush 133 K dX9_isCitation_131 rfl rfl ?_
          refine z_isub 134 K dX9_isCitation_133 rfl ?_
          refine z_istore_n (lv' := [(2, .int (iZ (tx (i2 + 1) - 48))), (1, .int (iZ le)), (0, .ref (aD g 94))]) 135 K dX9_isCitation_134 rfl rfl (by decide) rfl ?_
          refine z_aload_n 136 K dX9_isCitation_135 rfl rfl 2 rfl ?_
          refine z_dup 137 K dX9_isCitation_136 rfl rfl ?_
          refine z_get 140 K hin_X9_isCitation_X9 94 (by decide) (va_up_eq _ 94 _) rfl 7 (by decide) (by decide +kernel : Cond.fieldLink RX9 125 "BriefBuilderModel" "at" "I" ∈ wsX9_isCitation) (fun _ h9 => h9) rfl dX9_isCitation_137 rfl ?_
          refine z_iconst 141 K dX9_isCitation_140 rfl ?_
          refine z_iadd 142 K dX9_isCitation_141 rfl ?_
          refine z_top (i2 + 2) (by omega) ?_
          refine z_put (ty := .int) 145 K hin_X9_isCitation_X9 tyX9 tyX9_ok nmX9 94 (by decide) (va_up_eq _ 94 _) rfl 7 (by decide) (by decide +kernel : Cond.fieldLink RX9 125 "BriefBuilderModel" "at" "I" ∈ wsX9_isCitation) (fun _ h9 => h9) rfl (by decide +kernel) rfl rfl (Nat.le_of_ble_eq_true rfl) dX9_isCitation_142 rfl ?_
          show Z p l e (({ frames := 2, cells := 0, slots := 0, locals := 44 } : Room)) s m args below meth c (MQ below (zQi g (fun z C' => C' = va_up (va_up C 94 (.inr (9, [.ref (aD g 95), .ref (aD g 96), .ref (aD g 97), .int (iZ k), .ref (aD g 98), .int (iZ ty), .int (iZ th), .int (iZ (cAt tx ty pt)), .int (iZ (if cOk tx ty pt = true then fl else b2i (decide (cStop tx ty pt < ty)))), .ref (aD g 99), .int (iZ (if cOk tx ty pt = true then to + 1 else to))]))) 99 (eI g 12 (if cOk tx ty pt = true then tPut tx ty pt to td else td)) ∧ z = b2i (cOk tx ty pt))) args s 0 0 (zA g)) g _ _ _ (va_up (va_up C 94 (.inr (9, [.ref (aD g 95), .ref (aD g 96), .ref (aD g 97), .int (iZ k), .ref (aD g 98), .int (iZ ty), .int (iZ th), .int (iZ (i2 + 1)), .int (iZ fl), .ref (aD g 99), .int (iZ to)]))) 94 (.inr (9, [.ref (aD g 95), .ref (aD g 96), .ref (aD g 97), .int (iZ k), .ref (aD g 98), .int (iZ ty), .int (iZ th), .int (iZ (i2 + 2)), .int (iZ fl), .ref (aD g 99), .int (iZ to)]))) [(2, .int (iZ (tx (i2 + 1) - 48))), (1, .int (iZ le)), (0, .ref (aD g 94))] 145 []
          refine z_C (va_uu _ _ _ _) ?_
          refine z_aload_n 146 K dX9_isCitation_145 rfl rfl 2 rfl ?_
          refine z_bipush 148 K dX9_isCitation_146 rfl rfl ?_
          refine z_bipush 150 K dX9_isCitation_148 rfl rfl ?_
          refine z_vVi (As := [.int (iZ 48), .int (iZ 57)]) (rest := []) 153 K 94 (by decide) (va_up_eq _ 94 _) rfl rfl (m_X9_isAt l g _ 48 57 k ty th (i2 + 2) fl to tx (va_up_eq _ 94 _) ((va_up_ne _ _ (by decide)).trans hTx) (by omega) (by omega) (by omega) (by omega) (by omega)) (cwV 2 K.1.2.2.2.2 gX9_isCitation_X9_isAt rfl rfl rfl (by decide +kernel) ⟨Nat.le_of_ble_eq_true rfl, Nat.le_of_ble_eq_true rfl⟩) rfl (Nat.le_of_ble_eq_true rfl) dX9_isCitation_150 rfl ⟨Nat.le_of_ble_eq_true rfl, Nat.le_of_ble_eq_true rfl⟩ rfl (fun z_8 C_9 hp_150 => ?_)
          refine z_C hp_150.1 ?_
          refine z_top (b2i (cA tx ty (i2 + 2) 48 57)) hp_150.2 ?_
          have join_206_j_10 : ∀ (pg i5 : Int), (pg = cPg tx ty (i2 + 1)) → (i5 = cI5 tx ty (i2 + 1)) → Z p l e (({ frames := 2, cells := 0, slots := 0, locals := 44 } : Room)) s m args below meth c (MQ below (zQi g (fun z C' => C' = va_up (va_up C 94 (.inr (9, [.ref (aD g 95), .ref (aD g 96), .ref (aD g 97), .int (iZ k), .ref (aD g 98), .int (iZ ty), .int (iZ th), .int (iZ (cAt tx ty pt)), .int (iZ (if cOk tx ty pt = true then fl else b2i (decide (cStop tx ty pt < ty)))), .ref (aD g 99), .int (iZ (if cOk tx ty pt = true then to + 1 else to))]))) 99 (eI g 12 (if cOk tx ty pt = true then tPut tx ty pt to td else td)) ∧ z = b2i (cOk tx ty pt))) args s 0 0 (zA g)) g 3 0 0 (va_up C 94 (.inr (9, [.ref (aD g 95), .ref (aD g 96), .ref (aD g 97), .int (iZ k), .ref (aD g 98), .int (iZ ty), .int (iZ th), .int (iZ i5), .int (iZ fl), .ref (aD g 99), .int (iZ to)]))) [(2, .int (iZ pg)), (1, .int (iZ le)), (0, .ref (aD g 94))] 206 [] := by
            intro pg i5  hpg hi5
            refine z_aload_n 207 K dX9_isCitation_206 rfl rfl 2 rfl ?_
            refine z_get 210 K hin_X9_isCitation_X9 94 (by decide) (va_up_eq _ 94 _) rfl 9 (by decide) (by decide +kernel : Cond.fieldLink RX9 22 "BriefBuilderModel" "told" "[I" ∈ wsX9_isCitation) (fun _ h9 => h9) rfl dX9_isCitation_207 rfl ?_
            refine z_iconst 211 K dX9_isCitation_210 rfl ?_
            refine z_aload_n 212 K dX9_isCitation_211 rfl rfl 2 rfl ?_
            refine z_get 215 K hin_X9_isCitation_X9 94 (by decide) (va_up_eq _ 94 _) rfl 10 (by decide) (by decide +kernel : Cond.fieldLink RX9 140 "BriefBuilderModel" "tolds" "I" ∈ wsX9_isCitation) (fun _ h9 => h9) rfl dX9_isCitation_212 rfl ?_
            refine z_imul 216 K dX9_isCitation_215 rfl ?_
            refine z_iload_n 217 K dX9_isCitation_216 rfl rfl 1 rfl ?_
            refine z_iast (f := td) 218 K 99 (by decide) ((va_up_ne _ _ (by decide)).trans hTd) (by omega) (by omega) (by decide) dX9_isCitation_217 rfl ?_
            refine z_aload_n 219 K dX9_isCitation_218 rfl rfl 2 rfl ?_
            refine z_get 222 K hin_X9_isCitation_X9 94 (by decide) ((va_up_ne _ _ (by decide)).trans (va_up_eq _ 94 _)) rfl 9 (by decide) (by decide +kernel : Cond.fieldLink RX9 22 "BriefBuilderModel" "told" "[I" ∈ wsX9_isCitation) (fun _ h9 => h9) rfl dX9_isCitation_219 rfl ?_
            refine z_iconst 223 K dX9_isCitation_222 rfl ?_
            refine z_aload_n 224 K dX9_isCitation_223 rfl rfl 2 rfl ?_
            refine z_get 227 K hin_X9_isCitation_X9 94 (by decide) ((va_up_ne _ _ (by decide)).trans (va_up_eq _ 94 _)) rfl 10 (by decide) (by decide +kernel : Cond.fieldLink RX9 140 "BriefBuilderModel" "tolds" "I" ∈ wsX9_isCitation) (fun _ h9 => h9) rfl dX9_isCitation_224 rfl ?_
            refine z_imul 228 K dX9_isCitation_227 rfl ?_
            refine z_iconst 229 K dX9_isCitation_228 rfl ?_
            refine z_iadd 230 K dX9_isCitation_229 rfl ?_
            refine z_iload_n 231 K dX9_isCitation_230 rfl rfl 0 rfl ?_
            refine z_iast (f := (zu td (2 * to) le)) 232 K 99 (by decide) (va_up_eq _ 99 _) (by omega) (by omega) (by decide) dX9_isCitation_231 rfl ?_
            refine z_C (va_uu _ _ _ _) ?_
            refine z_aload_n 233 K dX9_isCitation_232 rfl rfl 2 rfl ?_
            refine z_dup 234 K dX9_isCitation_233 rfl rfl ?_
            refine z_get 237 K hin_X9_isCitation_X9 94 (by decide) ((va_up_ne _ _ (by decide)).trans (va_up_eq _ 94 _)) rfl 10 (by decide) (by decide +kernel : Cond.fieldLink RX9 140 "BriefBuilderModel" "tolds" "I" ∈ wsX9_isCitation) (fun _ h9 => h9) rfl dX9_isCitation_234 rfl ?_
            refine z_iconst 238 K dX9_isCitation_237 rfl ?_
            refine z_iadd 239 K dX9_isCitation_238 rfl ?_
            refine z_put (ty := .int) 242 K hin_X9_isCitation_X9 tyX9 tyX9_ok nmX9 94 (by decide) ((va_up_ne _ _ (by decide)).trans (va_up_eq _ 94 _)) rfl 10 (by decide) (by decide +kernel : Cond.fieldLink RX9 140 "BriefBuilderModel" "tolds" "I" ∈ wsX9_isCitation) (fun _ h9 => h9) rfl (by decide +kernel) rfl rfl (Nat.le_of_ble_eq_true rfl) dX9_isCitation_239 rfl ?_
            show Z p l e (({ frames := 2, cells := 0, slots := 0, locals := 44 } : Room)) s m args below meth c (MQ below (zQi g (fun z C' => C' = va_up (va_up C 94 (.inr (9, [.ref (aD g 95), .ref (aD g 96), .ref (aD g 97), .int (iZ k), .ref (aD g 98), .int (iZ ty), .int (iZ th), .int (iZ (cAt tx ty pt)), .int (iZ (if cOk tx ty pt = true then fl else b2i (decide (cStop tx ty pt < ty)))), .ref (aD g 99), .int (iZ (if cOk tx ty pt = true then to + 1 else to))]))) 99 (eI g 12 (if cOk tx ty pt = true then tPut tx ty pt to td else td)) ∧ z = b2i (cOk tx ty pt))) args s 0 0 (zA g)) g _ _ _ (va_up (va_up (va_up C 94 (.inr (9, [.ref (aD g 95), .ref (aD g 96), .ref (aD g 97), .int (iZ k), .ref (aD g 98), .int (iZ ty), .int (iZ th), .int (iZ i5), .int (iZ fl), .ref (aD g 99), .int (iZ to)]))) 99 (eI g 12 (zu (zu td (2 * to) le) (2 * to + 1) pg))) 94 (.inr (9, [.ref (aD g 95), .ref (aD g 96), .ref (aD g 97), .int (iZ k), .ref (aD g 98), .int (iZ ty), .int (iZ th), .int (iZ i5), .int (iZ fl), .ref (aD g 99), .int (iZ (to + 1))]))) [(2, .int (iZ pg)), (1, .int (iZ le)), (0, .ref (aD g 94))] 242 []
            refine z_C (va_uu1 (by decide)) ?_
            refine z_iconst 243 K dX9_isCitation_242 rfl ?_
            refine z_C (va_ur1 (by decide)) ?_
            rw [hi2] at d_88 d_114 hpg hi5
            have hok : cOk tx ty pt = true := by unfold cOk; rw [d_8, d_88, d_114]; rfl
            have hat : cAt tx ty pt = i5 := by unfold cAt cEnd; rw [hok, if_pos rfl, hi5]
            exact z_zret K rfl (by decide) dX9_isCitation_243 ⟨by rw [hok, hat, if_pos rfl, if_pos rfl, if_pos rfl, hle, hpg]; rfl, by rw [hok]; rfl⟩
          refine z_if_eq (tgt := 206) 156 K dX9_isCitation_153 rfl (by decide) (b2i_ir _) (fun c_153 => ?_) (fun c_153 => ?_)
          · have d_153 := b2i_eq0.mp c_153
            exact join_206_j_10 (tx (i2 + 1) - 48) (i2 + 2) (by unfold cPg cTen; rw [show i2 + 1 + 1 = i2 + 2 by omega]; first | (have q9 : cA tx ty (i2 + 2) 48 57 = false := (by assumption); rw [q9, Bool.false_and, if_neg (by decide)]) | (have q8 : cA tx ty (i2 + 2) 48 57 = true := (by assumption); have q9 : 10 * tx (i2 + 1) + tx (i2 + 2) - 528 ≤ 60 := (by omega); rw [q8, decide_eq_true q9, Bool.true_and, if_pos rfl] <;> omega) | (have q9 : ¬ 10 * tx (i2 + 1) + tx (i2 + 2) - 528 ≤ 60 := (by omega); rw [decide_eq_false q9, Bool.and_false, if_neg (by decide)])) (by unfold cI5 cTen; rw [show i2 + 1 + 1 = i2 + 2 by omega]; first | (have q9 : cA tx ty (i2 + 2) 48 57 = false := (by assumption); rw [q9, Bool.false_and, if_neg (by decide)] <;> omega) | (have q8 : cA tx ty (i2 + 2) 48 57 = true := (by assumption); have q9 : 10 * tx (i2 + 1) + tx (i2 + 2) - 528 ≤ 60 := (by omega); rw [q8, decide_eq_true q9, Bool.true_and, if_pos rfl] <;> omega) | (have q9 : ¬ 10 * tx (i2 + 1) + tx (i2 + 2) - 528 ≤ 60 := (by omega); rw [decide_eq_false q9, Bool.and_false, if_neg (by decide)] <;> omega))
          · have d_153 := b2i_ne0.mp c_153
            have ha4 := cA_lt d_153
            refine z_bipush 158 K dX9_isCitation_156 rfl rfl ?_
            refine z_iload_n 159 K dX9_isCitation_158 rfl rfl 0 rfl ?_
            refine z_imul 160 K dX9_isCitation_159 rfl ?_
            refine z_top (10 * (tx (i2 + 1)) - 480) (by omega) ?_
            refine z_aload_n 161 K dX9_isCitation_160 rfl rfl 2 rfl ?_
            refine z_get 164 K hin_X9_isCitation_X9 94 (by decide) (va_up_eq _ 94 _) rfl 4 (by decide) (by decide +kernel : Cond.fieldLink RX9 19 "BriefBuilderModel" "text" "[I" ∈ wsX9_isCitation) (fun _ h9 => h9) rfl dX9_isCitation_161 rfl ?_
            refine z_aload_n 165 K dX9_isCitation_164 rfl rfl 2 rfl ?_
            refine z_get 168 K hin_X9_isCitation_X9 94 (by decide) (va_up_eq _ 94 _) rfl 7 (by decide) (by decide +kernel : Cond.fieldLink RX9 125 "BriefBuilderModel" "at" "I" ∈ wsX9_isCitation) (fun _ h9 => h9) rfl dX9_isCitation_165 rfl ?_
            refine z_iald (f := tx) 169 K 98 (by decide) ((va_up_ne _ _ (by decide)).trans hTx) (by omega) (by omega) (by decide) dX9_isCitation_168 rfl ?_
            have hr_168 := htr (i2 + 2)
            refine z_iadd 170 K dX9_isCitation_169 rfl ?_
            refine z_top (10 * (tx (i2 + 1)) + tx (i2 + 2) - 480) (by omega) ?_
            refine z_bipush 172 K dX9_isCitation_170 rfl rfl ?_
            refine z_isub 173 K dX9_isCitation_172 rfl ?_
            refine z_top (10 * (tx (i2 + 1)) + tx (i2 + 2) - 528) (by omega) ?_
            refine z_bipush 175 K dX9_isCitation_173 rfl rfl ?_
            refine z_icmp_gt (tgt := 206) 178 K dX9_isCitation_175 rfl (by decide) (by omega) (by decide) (fun c_175 => ?_) (fun c_175 => ?_)
            · skip
              exact join_206_j_10 (tx (i2 + 1) - 48) (i2 + 2) (by unfold cPg cTen; rw [show i2 + 1 + 1 = i2 + 2 by omega]; first | (have q9 : cA tx ty (i2 + 2) 48 57 = false := (by assumption); rw [q9, Bool.false_and, if_neg (by decide)]) | (have q8 : cA tx ty (i2 + 2) 48 57 = true := (by assumption); have q9 : 10 * tx (i2 + 1) + tx (i2 + 2) - 528 ≤ 60 := (by omega); rw [q8, decide_eq_true q9, Bool.true_and, if_pos rfl] <;> omega) | (have q9 : ¬ 10 * tx (i2 + 1) + tx (i2 + 2) - 528 ≤ 60 := (by omega); rw [decide_eq_false q9, Bool.and_false, if_neg (by decide)])) (by unfold cI5 cTen; rw [show i2 + 1 + 1 = i2 + 2 by omega]; first | (have q9 : cA tx ty (i2 + 2) 48 57 = false := (by assumption); rw [q9, Bool.false_and, if_neg (by decide)] <;> omega) | (have q8 : cA tx ty (i2 + 2) 48 57 = true := (by assumption); have q9 : 10 * tx (i2 + 1) + tx (i2 + 2) - 528 ≤ 60 := (by omega); rw [q8, decide_eq_true q9, Bool.true_and, if_pos rfl] <;> omega) | (have q9 : ¬ 10 * tx (i2 + 1) + tx (i2 + 2) - 528 ≤ 60 := (by omega); rw [decide_eq_false q9, Bool.and_false, if_neg (by decide)] <;> omega))
            · skip
              refine z_bipush 180 K dX9_isCitation_178 rfl rfl ?_
              refine z_iload_n 181 K dX9_isCitation_180 rfl rfl 0 rfl ?_
              refine z_imul 182 K dX9_isCitation_181 rfl ?_
              refine z_top (10 * (tx (i2 + 1)) - 480) (by omega) ?_
              refine z_aload_n 183 K dX9_isCitation_182 rfl rfl 2 rfl ?_
              refine z_get 186 K hin_X9_isCitation_X9 94 (by decide) (va_up_eq _ 94 _) rfl 4 (by decide) (by decide +kernel : Cond.fieldLink RX9 19 "BriefBuilderModel" "text" "[I" ∈ wsX9_isCitation) (fun _ h9 => h9) rfl dX9_isCitation_183 rfl ?_
              refine z_aload_n 187 K dX9_isCitation_186 rfl rfl 2 rfl ?_
              refine z_get 190 K hin_X9_isCitation_X9 94 (by decide) (va_up_eq _ 94 _) rfl 7 (by decide) (by decide +kernel : Cond.fieldLink RX9 125 "BriefBuilderModel" "at" "I" ∈ wsX9_isCitation) (fun _ h9 => h9) rfl dX9_isCitation_187 rfl ?_
              refine z_iald (f := tx) 191 K 98 (by decide) ((va_up_ne _ _ (by decide)).trans hTx) (by omega) (by omega) (by decide) dX9_isCitation_190 rfl ?_
              have hr_190 := htr (i2 + 2)
              refine z_iadd 192 K dX9_isCitation_191 rfl ?_
              refine z_top (10 * (tx (i2 + 1)) + tx (i2 + 2) - 480) (by omega) ?_
              refine z_bipush 194 K dX9_isCitation_192 rfl rfl ?_
              refine z_isub 195 K dX9_isCitation_194 rfl ?_
              refine z_top (10 * (tx (i2 + 1)) + tx (i2 + 2) - 528) (by omega) ?_
              refine z_istore_n (lv' := [(2, .int (iZ (10 * (tx (i2 + 1)) + tx (i2 + 2) - 528))), (1, .int (iZ le)), (0, .ref (aD g 94))]) 196 K dX9_isCitation_195 rfl rfl (by decide) rfl ?_
              refine z_aload_n 197 K dX9_isCitation_196 rfl rfl 2 rfl ?_
              refine z_dup 198 K dX9_isCitation_197 rfl rfl ?_
              refine z_get 201 K hin_X9_isCitation_X9 94 (by decide) (va_up_eq _ 94 _) rfl 7 (by decide) (by decide +kernel : Cond.fieldLink RX9 125 "BriefBuilderModel" "at" "I" ∈ wsX9_isCitation) (fun _ h9 => h9) rfl dX9_isCitation_198 rfl ?_
              refine z_iconst 202 K dX9_isCitation_201 rfl ?_
              refine z_iadd 203 K dX9_isCitation_202 rfl ?_
              refine z_top (i2 + 3) (by omega) ?_
              refine z_put (ty := .int) 206 K hin_X9_isCitation_X9 tyX9 tyX9_ok nmX9 94 (by decide) (va_up_eq _ 94 _) rfl 7 (by decide) (by decide +kernel : Cond.fieldLink RX9 125 "BriefBuilderModel" "at" "I" ∈ wsX9_isCitation) (fun _ h9 => h9) rfl (by decide +kernel) rfl rfl (Nat.le_of_ble_eq_true rfl) dX9_isCitation_203 rfl ?_
              show Z p l e (({ frames := 2, cells := 0, slots := 0, locals := 44 } : Room)) s m args below meth c (MQ below (zQi g (fun z C' => C' = va_up (va_up C 94 (.inr (9, [.ref (aD g 95), .ref (aD g 96), .ref (aD g 97), .int (iZ k), .ref (aD g 98), .int (iZ ty), .int (iZ th), .int (iZ (cAt tx ty pt)), .int (iZ (if cOk tx ty pt = true then fl else b2i (decide (cStop tx ty pt < ty)))), .ref (aD g 99), .int (iZ (if cOk tx ty pt = true then to + 1 else to))]))) 99 (eI g 12 (if cOk tx ty pt = true then tPut tx ty pt to td else td)) ∧ z = b2i (cOk tx ty pt))) args s 0 0 (zA g)) g _ _ _ (va_up (va_up C 94 (.inr (9, [.ref (aD g 95), .ref (aD g 96), .ref (aD g 97), .int (iZ k), .ref (aD g 98), .int (iZ ty), .int (iZ th), .int (iZ (i2 + 2)), .int (iZ fl), .ref (aD g 99), .int (iZ to)]))) 94 (.inr (9, [.ref (aD g 95), .ref (aD g 96), .ref (aD g 97), .int (iZ k), .ref (aD g 98), .int (iZ ty), .int (iZ th), .int (iZ (i2 + 3)), .int (iZ fl), .ref (aD g 99), .int (iZ to)]))) [(2, .int (iZ (10 * (tx (i2 + 1)) + tx (i2 + 2) - 528))), (1, .int (iZ le)), (0, .ref (aD g 94))] 206 []
              refine z_C (va_uu _ _ _ _) ?_
              exact join_206_j_10 (10 * (tx (i2 + 1)) + tx (i2 + 2) - 528) (i2 + 3) (by unfold cPg cTen; rw [show i2 + 1 + 1 = i2 + 2 by omega]; first | (have q9 : cA tx ty (i2 + 2) 48 57 = false := (by assumption); rw [q9, Bool.false_and, if_neg (by decide)]) | (have q8 : cA tx ty (i2 + 2) 48 57 = true := (by assumption); have q9 : 10 * tx (i2 + 1) + tx (i2 + 2) - 528 ≤ 60 := (by omega); rw [q8, decide_eq_true q9, Bool.true_and, if_pos rfl] <;> omega) | (have q9 : ¬ 10 * tx (i2 + 1) + tx (i2 + 2) - 528 ≤ 60 := (by omega); rw [decide_eq_false q9, Bool.and_false, if_neg (by decide)])) (by unfold cI5 cTen; rw [show i2 + 1 + 1 = i2 + 2 by omega]; first | (have q9 : cA tx ty (i2 + 2) 48 57 = false := (by assumption); rw [q9, Bool.false_and, if_neg (by decide)] <;> omega) | (have q8 : cA tx ty (i2 + 2) 48 57 = true := (by assumption); have q9 : 10 * tx (i2 + 1) + tx (i2 + 2) - 528 ≤ 60 := (by omega); rw [q8, decide_eq_true q9, Bool.true_and, if_pos rfl] <;> omega) | (have q9 : ¬ 10 * tx (i2 + 1) + tx (i2 + 2) - 528 ≤ 60 := (by omega); rw [decide_eq_false q9, Bool.and_false, if_neg (by decide)] <;> omega))
        · have d_114 := b2i_eq0.mp c_114
          refine z_aload_n 118 K dX9_isCitation_117 rfl rfl 1 rfl ?_
          refine z_vVi (As := []) (rest := []) 121 K 94 (by decide) (va_up_eq _ 94 _) rfl rfl (m_X9_stops l g _ k ty th (i2 + 1) fl to (va_up_eq _ 94 _) (by omega) (by omega)) (cwV 0 K.1.2.2.2.2 gX9_isCitation_X9_stops rfl rfl rfl (by decide +kernel) ⟨Nat.le_of_ble_eq_true rfl, Nat.le_of_ble_eq_true rfl⟩) rfl (Nat.le_of_ble_eq_true rfl) dX9_isCitation_118 rfl ⟨Nat.le_of_ble_eq_true rfl, Nat.le_of_ble_eq_true rfl⟩ rfl (fun z_11 C_12 hp_118 => ?_)
          refine z_C hp_118.1 ?_
          refine z_top (0) hp_118.2 ?_
          refine z_C (va_uu _ _ _ _) ?_
          refine z_C (va_us ((va_up_ne _ _ (by decide)).trans hTd)).symm ?_
          rw [hi2] at d_88 d_114
          have hno : cOk tx ty pt = false := by unfold cOk; rw [d_114, Bool.and_false, Bool.and_false]
          have hst : cStop tx ty pt = i2 + 1 := by unfold cStop; rw [d_8, if_neg (by decide), d_88, if_neg (by decide), hi2]
          have hat : cAt tx ty pt = i2 + 1 := by unfold cAt; rw [hno, if_neg (by decide), hst]
          exact z_zret K rfl (by decide) dX9_isCitation_121 ⟨by rw [hno, hat, hst, if_neg (by decide), if_neg (by decide), if_neg (by decide)], by rw [hno]; rfl⟩
      · have d_88 := b2i_eq0.mp c_88
        refine z_aload_n 92 K dX9_isCitation_91 rfl rfl 1 rfl ?_
        refine z_vVi (As := []) (rest := []) 95 K 94 (by decide) (va_up_eq _ 94 _) rfl rfl (m_X9_stops l g _ k ty th i2 fl to (va_up_eq _ 94 _) (by omega) (by omega)) (cwV 0 K.1.2.2.2.2 gX9_isCitation_X9_stops rfl rfl rfl (by decide +kernel) ⟨Nat.le_of_ble_eq_true rfl, Nat.le_of_ble_eq_true rfl⟩) rfl (Nat.le_of_ble_eq_true rfl) dX9_isCitation_92 rfl ⟨Nat.le_of_ble_eq_true rfl, Nat.le_of_ble_eq_true rfl⟩ rfl (fun z_13 C_14 hp_92 => ?_)
        refine z_C hp_92.1 ?_
        refine z_top (0) hp_92.2 ?_
        refine z_C (va_uu _ _ _ _) ?_
        refine z_C (va_us ((va_up_ne _ _ (by decide)).trans hTd)).symm ?_
        rw [hi2] at d_88
        have hno : cOk tx ty pt = false := by unfold cOk; rw [d_88, Bool.false_and, Bool.and_false]
        have hst : cStop tx ty pt = i2 := by unfold cStop; rw [d_8, if_neg (by decide), if_pos d_88, hi2]
        have hat : cAt tx ty pt = i2 := by unfold cAt; rw [hno, if_neg (by decide), hst]
        exact z_zret K rfl (by decide) dX9_isCitation_95 ⟨by rw [hno, hat, hst, if_neg (by decide), if_neg (by decide), if_neg (by decide)], by rw [hno]; rfl⟩
    refine z_if_ne (tgt := 80) 43 K dX9_isCitation_40 rfl (by decide) (by omega) (fun c_40 => ?_) (fun c_40 => ?_)
    · skip
      exact join_80_j_3 (tx pt - 65) (pt + 1) (by unfold cLt cTwo; first | (have q9 : tx pt ≠ 65 := (by omega); rw [decide_eq_false q9, Bool.false_and, if_neg (by decide)]) | (have q8 : tx pt = 65 := (by omega); have q9 : cA tx ty (pt + 1) 65 68 = false := (by assumption); rw [q9, Bool.and_false, if_neg (by decide)]) | (have q8 : tx pt = 65 := (by omega); have q9 : cA tx ty (pt + 1) 65 68 = true := (by assumption); rw [q9, decide_eq_true q8, Bool.and_true, if_pos rfl])) (by unfold cI2 cTwo; first | (have q9 : tx pt ≠ 65 := (by omega); rw [decide_eq_false q9, Bool.false_and, if_neg (by decide)]) | (have q8 : tx pt = 65 := (by omega); have q9 : cA tx ty (pt + 1) 65 68 = false := (by assumption); rw [q9, Bool.and_false, if_neg (by decide)]) | (have q8 : tx pt = 65 := (by omega); have q9 : cA tx ty (pt + 1) 65 68 = true := (by assumption); rw [q9, decide_eq_true q8, Bool.and_true, if_pos rfl]))
    · skip
      refine z_aload_n 44 K dX9_isCitation_43 rfl rfl 1 rfl ?_
      refine z_bipush 46 K dX9_isCitation_44 rfl rfl ?_
      refine z_bipush 48 K dX9_isCitation_46 rfl rfl ?_
      refine z_vVi (As := [.int (iZ 65), .int (iZ 68)]) (rest := []) 51 K 94 (by decide) (va_up_eq _ 94 _) rfl rfl (m_X9_isAt l g _ 65 68 k ty th (pt + 1) fl to tx (va_up_eq _ 94 _) ((va_up_ne _ _ (by decide)).trans hTx) (by omega) (by omega) (by omega) (by omega) (by omega)) (cwV 2 K.1.2.2.2.2 gX9_isCitation_X9_isAt rfl rfl rfl (by decide +kernel) ⟨Nat.le_of_ble_eq_true rfl, Nat.le_of_ble_eq_true rfl⟩) rfl (Nat.le_of_ble_eq_true rfl) dX9_isCitation_48 rfl ⟨Nat.le_of_ble_eq_true rfl, Nat.le_of_ble_eq_true rfl⟩ rfl (fun z_15 C_16 hp_48 => ?_)
      refine z_C hp_48.1 ?_
      refine z_top (b2i (cA tx ty (pt + 1) 65 68)) hp_48.2 ?_
      refine z_if_eq (tgt := 80) 54 K dX9_isCitation_51 rfl (by decide) (b2i_ir _) (fun c_51 => ?_) (fun c_51 => ?_)
      · have d_51 := b2i_eq0.mp c_51
        exact join_80_j_3 (tx pt - 65) (pt + 1) (by unfold cLt cTwo; first | (have q9 : tx pt ≠ 65 := (by omega); rw [decide_eq_false q9, Bool.false_and, if_neg (by decide)]) | (have q8 : tx pt = 65 := (by omega); have q9 : cA tx ty (pt + 1) 65 68 = false := (by assumption); rw [q9, Bool.and_false, if_neg (by decide)]) | (have q8 : tx pt = 65 := (by omega); have q9 : cA tx ty (pt + 1) 65 68 = true := (by assumption); rw [q9, decide_eq_true q8, Bool.and_true, if_pos rfl])) (by unfold cI2 cTwo; first | (have q9 : tx pt ≠ 65 := (by omega); rw [decide_eq_false q9, Bool.false_and, if_neg (by decide)]) | (have q8 : tx pt = 65 := (by omega); have q9 : cA tx ty (pt + 1) 65 68 = false := (by assumption); rw [q9, Bool.and_false, if_neg (by decide)]) | (have q8 : tx pt = 65 := (by omega); have q9 : cA tx ty (pt + 1) 65 68 = true := (by assumption); rw [q9, decide_eq_true q8, Bool.and_true, if_pos rfl]))
      · have d_51 := b2i_ne0.mp c_51
        have ha5 := cA_lt d_51
        refine z_bipush 56 K dX9_isCitation_54 rfl rfl ?_
        refine z_aload_n 57 K dX9_isCitation_56 rfl rfl 1 rfl ?_
        refine z_get 60 K hin_X9_isCitation_X9 94 (by decide) (va_up_eq _ 94 _) rfl 4 (by decide) (by decide +kernel : Cond.fieldLink RX9 19 "BriefBuilderModel" "text" "[I" ∈ wsX9_isCitation) (fun _ h9 => h9) rfl dX9_isCitation_57 rfl ?_
        refine z_aload_n 61 K dX9_isCitation_60 rfl rfl 1 rfl ?_
        refine z_get 64 K hin_X9_isCitation_X9 94 (by decide) (va_up_eq _ 94 _) rfl 7 (by decide) (by decide +kernel : Cond.fieldLink RX9 125 "BriefBuilderModel" "at" "I" ∈ wsX9_isCitation) (fun _ h9 => h9) rfl dX9_isCitation_61 rfl ?_
        refine z_iald (f := tx) 65 K 98 (by decide) ((va_up_ne _ _ (by decide)).trans hTx) (by omega) (by omega) (by decide) dX9_isCitation_64 rfl ?_
        have hr_64 := htr (pt + 1)
        refine z_iadd 66 K dX9_isCitation_65 rfl ?_
        refine z_top (tx (pt + 1) + 26) (by omega) ?_
        refine z_bipush 68 K dX9_isCitation_66 rfl rfl ?_
        refine z_isub 69 K dX9_isCitation_68 rfl ?_
        refine z_top (tx (pt + 1) - 39) (by omega) ?_
        refine z_istore_n (lv' := [(1, .int (iZ (tx (pt + 1) - 39))), (0, .ref (aD g 94))]) 70 K dX9_isCitation_69 rfl rfl (by decide) rfl ?_
        refine z_aload_n 71 K dX9_isCitation_70 rfl rfl 1 rfl ?_
        refine z_dup 72 K dX9_isCitation_71 rfl rfl ?_
        refine z_get 75 K hin_X9_isCitation_X9 94 (by decide) (va_up_eq _ 94 _) rfl 7 (by decide) (by decide +kernel : Cond.fieldLink RX9 125 "BriefBuilderModel" "at" "I" ∈ wsX9_isCitation) (fun _ h9 => h9) rfl dX9_isCitation_72 rfl ?_
        refine z_iconst 76 K dX9_isCitation_75 rfl ?_
        refine z_iadd 77 K dX9_isCitation_76 rfl ?_
        refine z_top (pt + 2) (by omega) ?_
        refine z_put (ty := .int) 80 K hin_X9_isCitation_X9 tyX9 tyX9_ok nmX9 94 (by decide) (va_up_eq _ 94 _) rfl 7 (by decide) (by decide +kernel : Cond.fieldLink RX9 125 "BriefBuilderModel" "at" "I" ∈ wsX9_isCitation) (fun _ h9 => h9) rfl (by decide +kernel) rfl rfl (Nat.le_of_ble_eq_true rfl) dX9_isCitation_77 rfl ?_
        show Z p l e (({ frames := 2, cells := 0, slots := 0, locals := 44 } : Room)) s m args below meth c (MQ below (zQi g (fun z C' => C' = va_up (va_up C 94 (.inr (9, [.ref (aD g 95), .ref (aD g 96), .ref (aD g 97), .int (iZ k), .ref (aD g 98), .int (iZ ty), .int (iZ th), .int (iZ (cAt tx ty pt)), .int (iZ (if cOk tx ty pt = true then fl else b2i (decide (cStop tx ty pt < ty)))), .ref (aD g 99), .int (iZ (if cOk tx ty pt = true then to + 1 else to))]))) 99 (eI g 12 (if cOk tx ty pt = true then tPut tx ty pt to td else td)) ∧ z = b2i (cOk tx ty pt))) args s 0 0 (zA g)) g _ _ _ (va_up (va_up C 94 (.inr (9, [.ref (aD g 95), .ref (aD g 96), .ref (aD g 97), .int (iZ k), .ref (aD g 98), .int (iZ ty), .int (iZ th), .int (iZ (pt + 1)), .int (iZ fl), .ref (aD g 99), .int (iZ to)]))) 94 (.inr (9, [.ref (aD g 95), .ref (aD g 96), .ref (aD g 97), .int (iZ k), .ref (aD g 98), .int (iZ ty), .int (iZ th), .int (iZ (pt + 2)), .int (iZ fl), .ref (aD g 99), .int (iZ to)]))) [(1, .int (iZ (tx (pt + 1) - 39))), (0, .ref (aD g 94))] 80 []
        refine z_C (va_uu _ _ _ _) ?_
        exact join_80_j_3 (tx (pt + 1) - 39) (pt + 2) (by unfold cLt cTwo; first | (have q9 : tx pt ≠ 65 := (by omega); rw [decide_eq_false q9, Bool.false_and, if_neg (by decide)]) | (have q8 : tx pt = 65 := (by omega); have q9 : cA tx ty (pt + 1) 65 68 = false := (by assumption); rw [q9, Bool.and_false, if_neg (by decide)]) | (have q8 : tx pt = 65 := (by omega); have q9 : cA tx ty (pt + 1) 65 68 = true := (by assumption); rw [q9, decide_eq_true q8, Bool.and_true, if_pos rfl])) (by unfold cI2 cTwo; first | (have q9 : tx pt ≠ 65 := (by omega); rw [decide_eq_false q9, Bool.false_and, if_neg (by decide)]) | (have q8 : tx pt = 65 := (by omega); have q9 : cA tx ty (pt + 1) 65 68 = false := (by assumption); rw [q9, Bool.and_false, if_neg (by decide)]) | (have q8 : tx pt = 65 := (by omega); have q9 : cA tx ty (pt + 1) 65 68 = true := (by assumption); rw [q9, decide_eq_true q8, Bool.and_true, if_pos rfl]))
  · have d_8 := b2i_eq0.mp c_8
    refine z_aload_n 12 K dX9_isCitation_11 rfl rfl 0 rfl ?_
    refine z_vVi (As := []) (rest := []) 15 K 94 (by decide) hM rfl rfl (m_X9_stops l g _ k ty th pt fl to hM (by omega) (by omega)) (cwV 0 K.1.2.2.2.2 gX9_isCitation_X9_stops rfl rfl rfl (by decide +kernel) ⟨Nat.le_of_ble_eq_true rfl, Nat.le_of_ble_eq_true rfl⟩) rfl (Nat.le_of_ble_eq_true rfl) dX9_isCitation_12 rfl ⟨Nat.le_of_ble_eq_true rfl, Nat.le_of_ble_eq_true rfl⟩ rfl (fun z_17 C_18 hp_12 => ?_)
    refine z_C hp_12.1 ?_
    refine z_top (0) hp_12.2 ?_
    refine z_C (va_us ((va_up_ne _ _ (by decide)).trans hTd)).symm ?_
    have hno : cOk tx ty pt = false := by unfold cOk; rw [d_8, Bool.false_and]
    have hst : cStop tx ty pt = pt := by unfold cStop; rw [if_pos d_8]
    have hat : cAt tx ty pt = pt := by unfold cAt; rw [hno, if_neg (by decide), hst]
    exact z_zret K rfl (by decide) dX9_isCitation_15 ⟨by rw [hno, hat, hst, if_neg (by decide), if_neg (by decide), if_neg (by decide)], by rw [hno]; rfl⟩
set_option maxRecDepth 20000 in
theorem hin_X9_isText_X9 : ∀ w ∈ wsX90, w ∈ wsX9_isText := by decide +kernel
set_option maxHeartbeats 4000000 in
set_option maxRecDepth 100000 in
theorem m_X9_isText (l : Launch) (g : zG) (C : Nat → va_E) (k : Int) (ty : Int) (th : Int) (pt : Int) (fl : Int) (to : Int) (tx : Int → Int) (td : Int → Int) (hM : C 94 = .inr (9, [.ref (aD g 95), .ref (aD g 96), .ref (aD g 97), .int (iZ k), .ref (aD g 98), .int (iZ ty), .int (iZ th), .int (iZ pt), .int (iZ fl), .ref (aD g 99), .int (iZ to)])) (hTx : C 98 = eI g 60 tx) (hTd : C 99 = eI g 12 td) (hty : 0 ≤ ty ∧ ty ≤ 60) (htr : ∀ j, -2147483648 ≤ tx j ∧ tx j < 2147483648) : Met l yX9_isText wsX9_isText ({ frames := 3, cells := 0, slots := 0, locals := 66 } : Room) (zPre g C [.ref (aD g 94)]) (zQi g (fun z C' => C' = va_up (va_up C 99 (eI g 12 ((tAll tx ty td).2.2.2))) 94 (.inr (9, [.ref (aD g 95), .ref (aD g 96), .ref (aD g 97), .int (iZ k), .ref (aD g 98), .int (iZ ty), .int (iZ th), .int (iZ ((tAll tx ty td).2.1)), .int (iZ (b2i (decide ((tAll tx ty td).2.1 < ty)))), .ref (aD g 99), .int (iZ ((tAll tx ty td).2.2.1))])) ∧ z = b2i (tAll tx ty td).1)) 0 0 (zA g) := by
  refine z_enter RX9 rfl (by decide) rfl (Nat.le_of_ble_eq_true rfl) ?_
  intro p e s m args below meth c K harg
  refine z_sub (lv' := [(0, .ref (aD g 94))]) [0] rfl ?_
  refine z_aload_n 1 K dX9_isText_0 rfl rfl 0 rfl ?_
  refine z_iconst 2 K dX9_isText_1 rfl ?_
  refine z_put (ty := .int) 5 K hin_X9_isText_X9 tyX9 tyX9_ok nmX9 94 (by decide) hM rfl 7 (by decide) (by decide +kernel : Cond.fieldLink RX9 125 "BriefBuilderModel" "at" "I" ∈ wsX9_isText) (fun _ h9 => h9) rfl (by decide +kernel) rfl rfl (Nat.le_of_ble_eq_true rfl) dX9_isText_2 rfl ?_
  show Z p l e (({ frames := 3, cells := 0, slots := 0, locals := 66 } : Room)) s m args below meth c (MQ below (zQi g (fun z C' => C' = va_up (va_up C 99 (eI g 12 ((tAll tx ty td).2.2.2))) 94 (.inr (9, [.ref (aD g 95), .ref (aD g 96), .ref (aD g 97), .int (iZ k), .ref (aD g 98), .int (iZ ty), .int (iZ th), .int (iZ ((tAll tx ty td).2.1)), .int (iZ (b2i (decide ((tAll tx ty td).2.1 < ty)))), .ref (aD g 99), .int (iZ ((tAll tx ty td).2.2.1))])) ∧ z = b2i (tAll tx ty td).1)) args s 0 0 (zA g)) g _ _ _ (va_up C 94 (.inr (9, [.ref (aD g 95), .ref (aD g 96), .ref (aD g 97), .int (iZ k), .ref (aD g 98), .int (iZ ty), .int (iZ th), .int (iZ 0), .int (iZ fl), .ref (aD g 99), .int (iZ to)]))) [(0, .ref (aD g 94))] 5 []
  refine z_aload_n 6 K dX9_isText_5 rfl rfl 0 rfl ?_
  refine z_iconst 7 K dX9_isText_6 rfl ?_
  refine z_put (ty := .int) 10 K hin_X9_isText_X9 tyX9 tyX9_ok nmX9 94 (by decide) (va_up_eq _ 94 _) rfl 10 (by decide) (by decide +kernel : Cond.fieldLink RX9 140 "BriefBuilderModel" "tolds" "I" ∈ wsX9_isText) (fun _ h9 => h9) rfl (by decide +kernel) rfl rfl (Nat.le_of_ble_eq_true rfl) dX9_isText_7 rfl ?_
  show Z p l e (({ frames := 3, cells := 0, slots := 0, locals := 66 } : Room)) s m args below meth c (MQ below (zQi g (fun z C' => C' = va_up (va_up C 99 (eI g 12 ((tAll tx ty td).2.2.2))) 94 (.inr (9, [.ref (aD g 95), .ref (aD g 96), .ref (aD g 97), .int (iZ k), .ref (aD g 98), .int (iZ ty), .int (iZ th), .int (iZ ((tAll tx ty td).2.1)), .int (iZ (b2i (decide ((tAll tx ty td).2.1 < ty)))), .ref (aD g 99), .int (iZ ((tAll tx ty td).2.2.1))])) ∧ z = b2i (tAll tx ty td).1)) args s 0 0 (zA g)) g _ _ _ (va_up (va_up C 94 (.inr (9, [.ref (aD g 95), .ref (aD g 96), .ref (aD g 97), .int (iZ k), .ref (aD g 98), .int (iZ ty), .int (iZ th), .int (iZ 0), .int (iZ fl), .ref (aD g 99), .int (iZ to)]))) 94 (.inr (9, [.ref (aD g 95), .ref (aD g 96), .ref (aD g 97), .int (iZ k), .ref (aD g 98), .int (iZ ty), .int (iZ th), .int (iZ 0), .int (iZ fl), .ref (aD g 99), .int (iZ 0)]))) [(0, .ref (aD g 94))] 10 []
  refine z_C (va_uu _ _ _ _) ?_
  refine z_aload_n 11 K dX9_isText_10 rfl rfl 0 rfl ?_
  refine z_iconst 12 K dX9_isText_11 rfl ?_
  refine z_put (ty := .boolean) 15 K hin_X9_isText_X9 tyX9 tyX9_ok nmX9 94 (by decide) (va_up_eq _ 94 _) rfl 8 (by decide) (by decide +kernel : Cond.fieldLink RX9 128 "BriefBuilderModel" "isFault" "Z" ∈ wsX9_isText) (fun _ h9 => h9) rfl (by decide +kernel) rfl rfl (Nat.le_of_ble_eq_true rfl) dX9_isText_12 rfl ?_
  show Z p l e (({ frames := 3, cells := 0, slots := 0, locals := 66 } : Room)) s m args below meth c (MQ below (zQi g (fun z C' => C' = va_up (va_up C 99 (eI g 12 ((tAll tx ty td).2.2.2))) 94 (.inr (9, [.ref (aD g 95), .ref (aD g 96), .ref (aD g 97), .int (iZ k), .ref (aD g 98), .int (iZ ty), .int (iZ th), .int (iZ ((tAll tx ty td).2.1)), .int (iZ (b2i (decide ((tAll tx ty td).2.1 < ty)))), .ref (aD g 99), .int (iZ ((tAll tx ty td).2.2.1))])) ∧ z = b2i (tAll tx ty td).1)) args s 0 0 (zA g)) g _ _ _ (va_up (va_up C 94 (.inr (9, [.ref (aD g 95), .ref (aD g 96), .ref (aD g 97), .int (iZ k), .ref (aD g 98), .int (iZ ty), .int (iZ th), .int (iZ 0), .int (iZ fl), .ref (aD g 99), .int (iZ 0)]))) 94 (.inr (9, [.ref (aD g 95), .ref (aD g 96), .ref (aD g 97), .int (iZ k), .ref (aD g 98), .int (iZ ty), .int (iZ th), .int (iZ 0), .int (iZ 0), .ref (aD g 99), .int (iZ 0)]))) [(0, .ref (aD g 94))] 15 []
  refine z_C (va_uu _ _ _ _) ?_
  refine z_iconst 16 K dX9_isText_15 rfl ?_
  refine z_istore_n (lv' := [(1, .int (iZ 1)), (0, .ref (aD g 94))]) 17 K dX9_isText_16 rfl rfl (by decide) rfl ?_
  have loop_17 : ∀ (n9 : Nat) (mr ii nn fl2 : Int) (tdc : Int → Int), (0 ≤ nn ∧ nn ≤ 6 ∧ 0 ≤ ii ∧ ii ≤ ty ∧ (mr = 0 ∨ mr = 1)) → ((mr = 1 ∧ nn ≤ 5 ∧ tAll tx ty td = tR tx ty nn ii tdc) ∨ (mr = 0 ∧ tAll tx ty td = (decide (ii = ty), ii, nn, tdc))) → (13 - 2 * nn + mr < (n9 : Int)) → Z p l e (({ frames := 3, cells := 0, slots := 0, locals := 66 } : Room)) s m args below meth c (MQ below (zQi g (fun z C' => C' = va_up (va_up C 99 (eI g 12 ((tAll tx ty td).2.2.2))) 94 (.inr (9, [.ref (aD g 95), .ref (aD g 96), .ref (aD g 97), .int (iZ k), .ref (aD g 98), .int (iZ ty), .int (iZ th), .int (iZ ((tAll tx ty td).2.1)), .int (iZ (b2i (decide ((tAll tx ty td).2.1 < ty)))), .ref (aD g 99), .int (iZ ((tAll tx ty td).2.2.1))])) ∧ z = b2i (tAll tx ty td).1)) args s 0 0 (zA g)) g 2 0 0 (va_up (va_up C 99 (eI g 12 tdc)) 94 (.inr (9, [.ref (aD g 95), .ref (aD g 96), .ref (aD g 97), .int (iZ k), .ref (aD g 98), .int (iZ ty), .int (iZ th), .int (iZ ii), .int (iZ fl2), .ref (aD g 99), .int (iZ nn)]))) [(0, .ref (aD g 94)), (1, .int (iZ mr))] 17 [] := by
    intro n9
    induction n9 with
    | zero =>
      intro mr ii nn fl2 tdc hnn hrun hm9
      exact absurd hm9 (by omega)
    | succ n9 ih9 =>
      intro mr ii nn fl2 tdc hnn hrun hm_17
      have ih_17 := ih9
      clear ih9
      refine z_iload_n 18 K dX9_isText_17 rfl rfl 1 rfl ?_
      refine z_if_eq (tgt := 77) 21 K dX9_isText_18 rfl (by decide) (by omega) (fun c_18 => ?_) (fun c_18 => ?_)
      · skip
        have hr8 := hrun.resolve_left (fun h9 => by omega)
        refine z_aload_n 78 K dX9_isText_77 rfl rfl 0 rfl ?_
        refine z_aload_n 79 K dX9_isText_78 rfl rfl 0 rfl ?_
        refine z_get 82 K hin_X9_isText_X9 94 (by decide) (va_up_eq _ 94 _) rfl 7 (by decide) (by decide +kernel : Cond.fieldLink RX9 125 "BriefBuilderModel" "at" "I" ∈ wsX9_isText) (fun _ h9 => h9) rfl dX9_isText_79 rfl ?_
        refine z_aload_n 83 K dX9_isText_82 rfl rfl 0 rfl ?_
        refine z_get 86 K hin_X9_isText_X9 94 (by decide) (va_up_eq _ 94 _) rfl 5 (by decide) (by decide +kernel : Cond.fieldLink RX9 122 "BriefBuilderModel" "typed" "I" ∈ wsX9_isText) (fun _ h9 => h9) rfl dX9_isText_83 rfl ?_
        have join_94_j_1 : ∀ (w : Int), (w = b2i (decide (ii < ty))) → (w = 0 ∨ w = 1) → Z p l e (({ frames := 3, cells := 0, slots := 0, locals := 66 } : Room)) s m args below meth c (MQ below (zQi g (fun z C' => C' = va_up (va_up C 99 (eI g 12 ((tAll tx ty td).2.2.2))) 94 (.inr (9, [.ref (aD g 95), .ref (aD g 96), .ref (aD g 97), .int (iZ k), .ref (aD g 98), .int (iZ ty), .int (iZ th), .int (iZ ((tAll tx ty td).2.1)), .int (iZ (b2i (decide ((tAll tx ty td).2.1 < ty)))), .ref (aD g 99), .int (iZ ((tAll tx ty td).2.2.1))])) ∧ z = b2i (tAll tx ty td).1)) args s 0 0 (zA g)) g 2 0 0 (va_up (va_up C 99 (eI g 12 tdc)) 94 (.inr (9, [.ref (aD g 95), .ref (aD g 96), .ref (aD g 97), .int (iZ k), .ref (aD g 98), .int (iZ ty), .int (iZ th), .int (iZ ii), .int (iZ fl2), .ref (aD g 99), .int (iZ nn)]))) [(0, .ref (aD g 94)), (1, .int (iZ mr))] 94 [.int (iZ w), .ref (aD g 94)] := by
          intro w  hw2 hw3
          refine z_put (ty := .boolean) 97 K hin_X9_isText_X9 tyX9 tyX9_ok nmX9 94 (by decide) (va_up_eq _ 94 _) rfl 8 (by decide) (by decide +kernel : Cond.fieldLink RX9 128 "BriefBuilderModel" "isFault" "Z" ∈ wsX9_isText) (fun _ h9 => h9) rfl (by decide +kernel) (zb_nar (by omega)) (zb_fit (by omega)) (Nat.le_of_ble_eq_true rfl) dX9_isText_94 rfl ?_
          show Z p l e (({ frames := 3, cells := 0, slots := 0, locals := 66 } : Room)) s m args below meth c (MQ below (zQi g (fun z C' => C' = va_up (va_up C 99 (eI g 12 ((tAll tx ty td).2.2.2))) 94 (.inr (9, [.ref (aD g 95), .ref (aD g 96), .ref (aD g 97), .int (iZ k), .ref (aD g 98), .int (iZ ty), .int (iZ th), .int (iZ ((tAll tx ty td).2.1)), .int (iZ (b2i (decide ((tAll tx ty td).2.1 < ty)))), .ref (aD g 99), .int (iZ ((tAll tx ty td).2.2.1))])) ∧ z = b2i (tAll tx ty td).1)) args s 0 0 (zA g)) g _ _ _ (va_up (va_up (va_up C 99 (eI g 12 tdc)) 94 (.inr (9, [.ref (aD g 95), .ref (aD g 96), .ref (aD g 97), .int (iZ k), .ref (aD g 98), .int (iZ ty), .int (iZ th), .int (iZ ii), .int (iZ fl2), .ref (aD g 99), .int (iZ nn)]))) 94 (.inr (9, [.ref (aD g 95), .ref (aD g 96), .ref (aD g 97), .int (iZ k), .ref (aD g 98), .int (iZ ty), .int (iZ th), .int (iZ ii), .int (iZ w), .ref (aD g 99), .int (iZ nn)]))) [(0, .ref (aD g 94)), (1, .int (iZ mr))] 97 []
          refine z_C (va_uu _ _ _ _) ?_
          refine z_aload_n 98 K dX9_isText_97 rfl rfl 0 rfl ?_
          refine z_get 101 K hin_X9_isText_X9 94 (by decide) (va_up_eq _ 94 _) rfl 7 (by decide) (by decide +kernel : Cond.fieldLink RX9 125 "BriefBuilderModel" "at" "I" ∈ wsX9_isText) (fun _ h9 => h9) rfl dX9_isText_98 rfl ?_
          refine z_aload_n 102 K dX9_isText_101 rfl rfl 0 rfl ?_
          refine z_get 105 K hin_X9_isText_X9 94 (by decide) (va_up_eq _ 94 _) rfl 5 (by decide) (by decide +kernel : Cond.fieldLink RX9 122 "BriefBuilderModel" "typed" "I" ∈ wsX9_isText) (fun _ h9 => h9) rfl dX9_isText_102 rfl ?_
          have join_113_j_2 : ∀ (w2 : Int), (w2 = b2i (decide (ii = ty))) → Z p l e (({ frames := 3, cells := 0, slots := 0, locals := 66 } : Room)) s m args below meth c (MQ below (zQi g (fun z C' => C' = va_up (va_up C 99 (eI g 12 ((tAll tx ty td).2.2.2))) 94 (.inr (9, [.ref (aD g 95), .ref (aD g 96), .ref (aD g 97), .int (iZ k), .ref (aD g 98), .int (iZ ty), .int (iZ th), .int (iZ ((tAll tx ty td).2.1)), .int (iZ (b2i (decide ((tAll tx ty td).2.1 < ty)))), .ref (aD g 99), .int (iZ ((tAll tx ty td).2.2.1))])) ∧ z = b2i (tAll tx ty td).1)) args s 0 0 (zA g)) g 2 0 0 (va_up (va_up C 99 (eI g 12 tdc)) 94 (.inr (9, [.ref (aD g 95), .ref (aD g 96), .ref (aD g 97), .int (iZ k), .ref (aD g 98), .int (iZ ty), .int (iZ th), .int (iZ ii), .int (iZ w), .ref (aD g 99), .int (iZ nn)]))) [(0, .ref (aD g 94)), (1, .int (iZ mr))] 113 [.int (iZ w2)] := by
            intro w2  hw5
            exact z_zret K rfl (by rw [hw5]; exact b2i_rng _) dX9_isText_113 ⟨by rw [hr8.2, hw2], by rw [hr8.2]; exact hw5⟩
          refine z_icmp_ne (tgt := 112) 108 K dX9_isText_105 rfl (by decide) (by omega) (by omega) (fun c_105 => ?_) (fun c_105 => ?_)
          · skip
            refine z_iconst 113 K dX9_isText_112 rfl ?_
            exact join_113_j_2 0 (by first | (have q9 : ii = ty := (by omega); exact (b2i_1 q9).symm) | (have q9 : ¬ ii = ty := (by omega); exact (b2i_0 q9).symm))
          · skip
            refine z_iconst 109 K dX9_isText_108 rfl ?_
            refine z_goto (tgt := 113) K dX9_isText_109 (by decide) ?_
            exact join_113_j_2 1 (by first | (have q9 : ii = ty := (by omega); exact (b2i_1 q9).symm) | (have q9 : ¬ ii = ty := (by omega); exact (b2i_0 q9).symm))
        refine z_icmp_ge (tgt := 93) 89 K dX9_isText_86 rfl (by decide) (by omega) (by omega) (fun c_86 => ?_) (fun c_86 => ?_)
        · skip
          refine z_iconst 94 K dX9_isText_93 rfl ?_
          exact join_94_j_1 0 (by first | (have q9 : ii < ty := (by omega); exact (b2i_1 q9).symm) | (have q9 : ¬ ii < ty := (by omega); exact (b2i_0 q9).symm)) (by decide)
        · skip
          refine z_iconst 90 K dX9_isText_89 rfl ?_
          refine z_goto (tgt := 94) K dX9_isText_90 (by decide) ?_
          exact join_94_j_1 1 (by first | (have q9 : ii < ty := (by omega); exact (b2i_1 q9).symm) | (have q9 : ¬ ii < ty := (by omega); exact (b2i_0 q9).symm)) (by decide)
      · skip
        have hr9 := hrun.resolve_right (fun h9 => c_18 h9.1)
        have hn9 := hr9.2.1
        refine z_aload_n 22 K dX9_isText_21 rfl rfl 0 rfl ?_
        refine z_vVi (As := []) (rest := []) 25 K 94 (by decide) (va_up_eq _ 94 _) rfl rfl (m_X9_isCitation l g _ k ty th ii fl2 nn tx tdc (va_up_eq _ 94 _) ((va_up_ne _ _ (by decide)).trans ((va_up_ne _ _ (by decide)).trans hTx)) ((va_up_ne _ _ (by decide)).trans (va_up_eq _ 99 _)) (by omega) (by omega) (by omega) (by omega)) (cwV 0 K.1.2.2.2.2 gX9_isText_X9_isCitation rfl rfl rfl (by decide +kernel) ⟨Nat.le_of_ble_eq_true rfl, Nat.le_of_ble_eq_true rfl⟩) rfl (Nat.le_of_ble_eq_true rfl) dX9_isText_22 rfl ⟨Nat.le_of_ble_eq_true rfl, Nat.le_of_ble_eq_true rfl⟩ rfl (fun z_3 C_4 hp_22 => ?_)
        refine z_C hp_22.1 ?_
        refine z_top (b2i (cOk tx ty ii)) hp_22.2 ?_
        refine z_C (congrArg (fun c9 => va_up c9 99 (eI g 12 (if cOk tx ty ii = true then tPut tx ty ii nn tdc else tdc))) (va_uu _ _ _ _)) ?_
        refine z_C (va_uu1 (by decide)) ?_
        refine z_if_ne (tgt := 30) 28 K dX9_isText_25 rfl (by decide) (b2i_ir _) (fun c_25 => ?_) (fun c_25 => ?_)
        · have d_25 := b2i_ne0.mp c_25
          rw [if_pos d_25, if_pos d_25, if_pos d_25, show cAt tx ty ii = cEnd tx ty ii by unfold cAt; rw [if_pos d_25]]
          have hcr := cAt_rng (tx := tx) (ty := ty) (i := ii) (by omega) (by omega)
          unfold cAt at hcr
          rw [if_pos d_25] at hcr
          refine z_aload_n 31 K dX9_isText_30 rfl rfl 0 rfl ?_
          refine z_get 34 K hin_X9_isText_X9 94 (by decide) ((va_up_ne _ _ (by decide)).trans (va_up_eq _ 94 _)) rfl 10 (by decide) (by decide +kernel : Cond.fieldLink RX9 140 "BriefBuilderModel" "tolds" "I" ∈ wsX9_isText) (fun _ h9 => h9) rfl dX9_isText_31 rfl ?_
          refine z_bipush 36 K dX9_isText_34 rfl rfl ?_
          have join_55_j_5 : ∀ (w : Int), (w = b2i (cMore tx ty ii nn)) → (w = 0 ∨ w = 1) → (w = 1 → cEnd tx ty ii < ty) → Z p l e (({ frames := 3, cells := 0, slots := 0, locals := 66 } : Room)) s m args below meth c (MQ below (zQi g (fun z C' => C' = va_up (va_up C 99 (eI g 12 ((tAll tx ty td).2.2.2))) 94 (.inr (9, [.ref (aD g 95), .ref (aD g 96), .ref (aD g 97), .int (iZ k), .ref (aD g 98), .int (iZ ty), .int (iZ th), .int (iZ ((tAll tx ty td).2.1)), .int (iZ (b2i (decide ((tAll tx ty td).2.1 < ty)))), .ref (aD g 99), .int (iZ ((tAll tx ty td).2.2.1))])) ∧ z = b2i (tAll tx ty td).1)) args s 0 0 (zA g)) g 2 0 0 (va_up (va_up C 94 (.inr (9, [.ref (aD g 95), .ref (aD g 96), .ref (aD g 97), .int (iZ k), .ref (aD g 98), .int (iZ ty), .int (iZ th), .int (iZ (cEnd tx ty ii)), .int (iZ fl2), .ref (aD g 99), .int (iZ (nn + 1))]))) 99 (eI g 12 (tPut tx ty ii nn tdc))) [(0, .ref (aD g 94)), (1, .int (iZ mr))] 55 [.int (iZ w)] := by
            intro w  hw2 hw3 hw4
            refine z_istore_n (lv' := [(1, .int (iZ w)), (0, .ref (aD g 94))]) 56 K dX9_isText_55 rfl rfl (by decide) rfl ?_
            refine z_aload_n 57 K dX9_isText_56 rfl rfl 1 rfl ?_
            refine z_dup 58 K dX9_isText_57 rfl rfl ?_
            refine z_get 61 K hin_X9_isText_X9 94 (by decide) ((va_up_ne _ _ (by decide)).trans (va_up_eq _ 94 _)) rfl 7 (by decide) (by decide +kernel : Cond.fieldLink RX9 125 "BriefBuilderModel" "at" "I" ∈ wsX9_isText) (fun _ h9 => h9) rfl dX9_isText_58 rfl ?_
            refine z_iload_n 62 K dX9_isText_61 rfl rfl 0 rfl ?_
            refine z_bool01 65 66 69 70 K (by omega) dX9_isText_62 dX9_isText_65 dX9_isText_66 dX9_isText_69 rfl rfl (by decide) (by decide) rfl ?_
            refine z_iadd 71 K dX9_isText_70 rfl ?_
            refine z_put (ty := .int) 74 K hin_X9_isText_X9 tyX9 tyX9_ok nmX9 94 (by decide) ((va_up_ne _ _ (by decide)).trans (va_up_eq _ 94 _)) rfl 7 (by decide) (by decide +kernel : Cond.fieldLink RX9 125 "BriefBuilderModel" "at" "I" ∈ wsX9_isText) (fun _ h9 => h9) rfl (by decide +kernel) rfl rfl (Nat.le_of_ble_eq_true rfl) dX9_isText_71 rfl ?_
            show Z p l e (({ frames := 3, cells := 0, slots := 0, locals := 66 } : Room)) s m args below meth c (MQ below (zQi g (fun z C' => C' = va_up (va_up C 99 (eI g 12 ((tAll tx ty td).2.2.2))) 94 (.inr (9, [.ref (aD g 95), .ref (aD g 96), .ref (aD g 97), .int (iZ k), .ref (aD g 98), .int (iZ ty), .int (iZ th), .int (iZ ((tAll tx ty td).2.1)), .int (iZ (b2i (decide ((tAll tx ty td).2.1 < ty)))), .ref (aD g 99), .int (iZ ((tAll tx ty td).2.2.1))])) ∧ z = b2i (tAll tx ty td).1)) args s 0 0 (zA g)) g _ _ _ (va_up (va_up (va_up C 94 (.inr (9, [.ref (aD g 95), .ref (aD g 96), .ref (aD g 97), .int (iZ k), .ref (aD g 98), .int (iZ ty), .int (iZ th), .int (iZ (cEnd tx ty ii)), .int (iZ fl2), .ref (aD g 99), .int (iZ (nn + 1))]))) 99 (eI g 12 (tPut tx ty ii nn tdc))) 94 (.inr (9, [.ref (aD g 95), .ref (aD g 96), .ref (aD g 97), .int (iZ k), .ref (aD g 98), .int (iZ ty), .int (iZ th), .int (iZ (cEnd tx ty ii + w)), .int (iZ fl2), .ref (aD g 99), .int (iZ (nn + 1))]))) [(1, .int (iZ w)), (0, .ref (aD g 94))] 74 []
            refine z_C (va_uu1 (by decide)) ?_
            refine z_goto (tgt := 17) K dX9_isText_74 (by decide) ?_
            refine z_sub [1, 0] rfl ?_
            exact ih_17 w (cEnd tx ty ii + w) (nn + 1) fl2 (tPut tx ty ii nn tdc) (by omega) (tR_next (by omega) hr9.2.2 d_25 hw2) (by omega)
          refine z_icmp_ge (tgt := 54) 39 K dX9_isText_36 rfl (by decide) (by omega) (by decide) (fun c_36 => ?_) (fun c_36 => ?_)
          · skip
            refine z_iconst 55 K dX9_isText_54 rfl ?_
            exact join_55_j_5 0 (by unfold cMore; first | (have q9 : nn + 1 < 6 := (by omega); rw [decide_eq_true q9, Bool.true_and]) | (have q9 : ¬ nn + 1 < 6 := (by omega); rw [decide_eq_false q9, Bool.false_and]; rfl)) (by first | exact b2i_rng _ | decide) (by first | exact (fun h9 => (cA_lt (b2i_eq1.mp h9)).1) | exact (fun h9 => by omega))
          · skip
            refine z_aload_n 40 K dX9_isText_39 rfl rfl 0 rfl ?_
            refine z_bipush 42 K dX9_isText_40 rfl rfl ?_
            refine z_bipush 44 K dX9_isText_42 rfl rfl ?_
            refine z_vVi (As := [.int (iZ 44), .int (iZ 44)]) (rest := []) 47 K 94 (by decide) ((va_up_ne _ _ (by decide)).trans (va_up_eq _ 94 _)) rfl rfl (m_X9_isAt l g _ 44 44 k ty th (cEnd tx ty ii) fl2 (nn + 1) tx ((va_up_ne _ _ (by decide)).trans (va_up_eq _ 94 _)) ((va_up_ne _ _ (by decide)).trans ((va_up_ne _ _ (by decide)).trans hTx)) (by omega) (by omega) (by omega) (by omega) (by omega)) (cwV 2 K.1.2.2.2.2 gX9_isText_X9_isAt rfl rfl rfl (by decide +kernel) ⟨Nat.le_of_ble_eq_true rfl, Nat.le_of_ble_eq_true rfl⟩) rfl (Nat.le_of_ble_eq_true rfl) dX9_isText_44 rfl ⟨Nat.le_of_ble_eq_true rfl, Nat.le_of_ble_eq_true rfl⟩ rfl (fun z_6 C_7 hp_44 => ?_)
            refine z_C hp_44.1 ?_
            refine z_top (b2i (cA tx ty (cEnd tx ty ii) 44 44)) hp_44.2 ?_
            refine z_bool01 50 51 54 55 K (b2i_rng _) dX9_isText_47 dX9_isText_50 dX9_isText_51 dX9_isText_54 rfl rfl (by decide) (by decide) rfl ?_
            exact join_55_j_5 (b2i (cA tx ty (cEnd tx ty ii) 44 44)) (by unfold cMore; first | (have q9 : nn + 1 < 6 := (by omega); rw [decide_eq_true q9, Bool.true_and]) | (have q9 : ¬ nn + 1 < 6 := (by omega); rw [decide_eq_false q9, Bool.false_and]; rfl)) (by first | exact b2i_rng _ | decide) (by first | exact (fun h9 => (cA_lt (b2i_eq1.mp h9)).1) | exact (fun h9 => by omega))
        · have d_25 := b2i_eq0.mp c_25
          refine z_iconst 29 K dX9_isText_28 rfl ?_
          refine z_C (va_ur1 (by decide)) ?_
          have hno := tR_no (td := tdc) (tx := tx) (ty := ty) (i := ii) (n := nn) (by omega) d_25
          have hat : cAt tx ty ii = cStop tx ty ii := by unfold cAt; rw [d_25, if_neg (by decide)]
          exact z_zret K rfl (by decide) dX9_isText_29 ⟨by rw [hr9.2.2, hno, hat, if_neg (by rw [d_25]; decide), if_neg (by rw [d_25]; decide), if_neg (by rw [d_25]; decide)], by rw [hr9.2.2, hno]; rfl⟩
  refine z_sub [1, 0] rfl ?_
  refine z_C (va_us ((va_up_ne _ _ (by decide)).trans hTd)).symm ?_
  refine z_C (va_ur1 (by decide)) ?_
  exact loop_17 (Int.toNat (13 - 2 * 0 + 1) + 1) 1 0 0 0 td (by omega) (Or.inl ⟨rfl, by omega, rfl⟩) (by omega)
set_option maxRecDepth 20000 in
theorem hin_X9_firstError_X9 : ∀ w ∈ wsX90, w ∈ wsX9_firstError := by decide +kernel
set_option maxHeartbeats 4000000 in
set_option maxRecDepth 100000 in
theorem m_X9_firstError (l : Launch) (g : zG) (C : Nat → va_E) (k : Int) (ty : Int) (th : Int) (pt : Int) (fl : Int) (to : Int) (tx : Int → Int) (td : Int → Int) (hM : C 94 = .inr (9, [.ref (aD g 95), .ref (aD g 96), .ref (aD g 97), .int (iZ k), .ref (aD g 98), .int (iZ ty), .int (iZ th), .int (iZ pt), .int (iZ fl), .ref (aD g 99), .int (iZ to)])) (hTx : C 98 = eI g 60 tx) (hTd : C 99 = eI g 12 td) (hty : 0 ≤ ty ∧ ty ≤ 60) (htr : ∀ j, -2147483648 ≤ tx j ∧ tx j < 2147483648) : Met l yX9_firstError wsX9_firstError ({ frames := 4, cells := 0, slots := 0, locals := 87 } : Room) (zPre g C [.ref (aD g 94)]) (zQi g (fun z C' => C' = va_up (va_up C 99 (eI g 12 ((tAll tx ty td).2.2.2))) 94 (.inr (9, [.ref (aD g 95), .ref (aD g 96), .ref (aD g 97), .int (iZ k), .ref (aD g 98), .int (iZ ty), .int (iZ 0), .int (iZ ((tAll tx ty td).2.1)), .int (iZ (b2i (decide ((tAll tx ty td).2.1 < ty)))), .ref (aD g 99), .int (iZ ((tAll tx ty td).2.2.1))])) ∧ z = sFirst tx ty td)) 0 0 (zA g) := by
  refine z_enter RX9 rfl (by decide) rfl (Nat.le_of_ble_eq_true rfl) ?_
  intro p e s m args below meth c K harg
  refine z_sub (lv' := [(0, .ref (aD g 94))]) [0] rfl ?_
  refine z_aload_n 1 K dX9_firstError_0 rfl rfl 0 rfl ?_
  refine z_iconst 2 K dX9_firstError_1 rfl ?_
  refine z_put (ty := .int) 5 K hin_X9_firstError_X9 tyX9 tyX9_ok nmX9 94 (by decide) hM rfl 6 (by decide) (by decide +kernel : Cond.fieldLink RX9 25 "BriefBuilderModel" "thrown" "I" ∈ wsX9_firstError) (fun _ h9 => h9) rfl (by decide +kernel) rfl rfl (Nat.le_of_ble_eq_true rfl) dX9_firstError_2 rfl ?_
  show Z p l e (({ frames := 4, cells := 0, slots := 0, locals := 87 } : Room)) s m args below meth c (MQ below (zQi g (fun z C' => C' = va_up (va_up C 99 (eI g 12 ((tAll tx ty td).2.2.2))) 94 (.inr (9, [.ref (aD g 95), .ref (aD g 96), .ref (aD g 97), .int (iZ k), .ref (aD g 98), .int (iZ ty), .int (iZ 0), .int (iZ ((tAll tx ty td).2.1)), .int (iZ (b2i (decide ((tAll tx ty td).2.1 < ty)))), .ref (aD g 99), .int (iZ ((tAll tx ty td).2.2.1))])) ∧ z = sFirst tx ty td)) args s 0 0 (zA g)) g _ _ _ (va_up C 94 (.inr (9, [.ref (aD g 95), .ref (aD g 96), .ref (aD g 97), .int (iZ k), .ref (aD g 98), .int (iZ ty), .int (iZ 0), .int (iZ pt), .int (iZ fl), .ref (aD g 99), .int (iZ to)]))) [(0, .ref (aD g 94))] 5 []
  refine z_aload_n 6 K dX9_firstError_5 rfl rfl 0 rfl ?_
  refine z_vVi (As := []) (rest := []) 9 K 94 (by decide) (va_up_eq _ 94 _) rfl rfl (m_X9_isText l g _ k ty 0 pt fl to tx td (va_up_eq _ 94 _) ((va_up_ne _ _ (by decide)).trans hTx) ((va_up_ne _ _ (by decide)).trans hTd) (by omega) htr) (cwV 0 K.1.2.2.2.2 gX9_firstError_X9_isText rfl rfl rfl (by decide +kernel) ⟨Nat.le_of_ble_eq_true rfl, Nat.le_of_ble_eq_true rfl⟩) rfl (Nat.le_of_ble_eq_true rfl) dX9_firstError_6 rfl ⟨Nat.le_of_ble_eq_true rfl, Nat.le_of_ble_eq_true rfl⟩ rfl (fun z_1 C_2 hp_6 => ?_)
  refine z_C hp_6.1 ?_
  refine z_top (b2i (tAll tx ty td).1) hp_6.2 ?_
  refine z_C (va_uu1 (by decide)) ?_
  refine z_istore_n (lv' := [(1, .int (iZ (b2i (tAll tx ty td).1))), (0, .ref (aD g 94))]) 10 K dX9_firstError_9 rfl rfl (by decide) rfl ?_
  refine z_iload_n 11 K dX9_firstError_10 rfl rfl 0 rfl ?_
  refine z_if_ne (tgt := 28) 14 K dX9_firstError_11 rfl (by decide) (b2i_ir _) (fun c_11 => ?_) (fun c_11 => ?_)
  · have d_11 := b2i_ne0.mp c_11
    refine z_aload_n 29 K dX9_firstError_28 rfl rfl 1 rfl ?_
    refine z_get 32 K hin_X9_firstError_X9 94 (by decide) (va_up_eq _ 94 _) rfl 5 (by decide) (by decide +kernel : Cond.fieldLink RX9 122 "BriefBuilderModel" "typed" "I" ∈ wsX9_firstError) (fun _ h9 => h9) rfl dX9_firstError_29 rfl ?_
    exact z_iret K rfl dX9_firstError_32 ⟨rfl, by unfold sFirst; first | (have q1 : (tAll tx ty td).1 = false := (by assumption); have q2 : (tAll tx ty td).2.1 < ty := (by assumption); rw [if_pos ⟨q1, q2⟩]) | (have q2 : ¬ (tAll tx ty td).2.1 < ty := (by assumption); rw [if_neg (fun h9 => q2 h9.2)]) | (have q1 : (tAll tx ty td).1 = true := (by assumption); rw [if_neg (fun h9 => by rw [h9.1] at q1; cases q1)])⟩
  · have d_11 := b2i_eq0.mp c_11
    refine z_aload_n 15 K dX9_firstError_14 rfl rfl 1 rfl ?_
    refine z_get 18 K hin_X9_firstError_X9 94 (by decide) (va_up_eq _ 94 _) rfl 8 (by decide) (by decide +kernel : Cond.fieldLink RX9 128 "BriefBuilderModel" "isFault" "Z" ∈ wsX9_firstError) (fun _ h9 => h9) rfl dX9_firstError_15 rfl ?_
    refine z_if_eq (tgt := 28) 21 K dX9_firstError_18 rfl (by decide) (b2i_ir _) (fun c_18 => ?_) (fun c_18 => ?_)
    · have d_18 := b2i_dec0.mp c_18
      refine z_aload_n 29 K dX9_firstError_28 rfl rfl 1 rfl ?_
      refine z_get 32 K hin_X9_firstError_X9 94 (by decide) (va_up_eq _ 94 _) rfl 5 (by decide) (by decide +kernel : Cond.fieldLink RX9 122 "BriefBuilderModel" "typed" "I" ∈ wsX9_firstError) (fun _ h9 => h9) rfl dX9_firstError_29 rfl ?_
      exact z_iret K rfl dX9_firstError_32 ⟨rfl, by unfold sFirst; first | (have q1 : (tAll tx ty td).1 = false := (by assumption); have q2 : (tAll tx ty td).2.1 < ty := (by assumption); rw [if_pos ⟨q1, q2⟩]) | (have q2 : ¬ (tAll tx ty td).2.1 < ty := (by assumption); rw [if_neg (fun h9 => q2 h9.2)]) | (have q1 : (tAll tx ty td).1 = true := (by assumption); rw [if_neg (fun h9 => by rw [h9.1] at q1; cases q1)])⟩
    · have d_18 := b2i_decn.mp c_18
      refine z_aload_n 22 K dX9_firstError_21 rfl rfl 1 rfl ?_
      refine z_get 25 K hin_X9_firstError_X9 94 (by decide) (va_up_eq _ 94 _) rfl 7 (by decide) (by decide +kernel : Cond.fieldLink RX9 125 "BriefBuilderModel" "at" "I" ∈ wsX9_firstError) (fun _ h9 => h9) rfl dX9_firstError_22 rfl ?_
      refine z_goto (tgt := 32) K dX9_firstError_25 (by decide) ?_
      exact z_iret K rfl dX9_firstError_32 ⟨rfl, by unfold sFirst; first | (have q1 : (tAll tx ty td).1 = false := (by assumption); have q2 : (tAll tx ty td).2.1 < ty := (by assumption); rw [if_pos ⟨q1, q2⟩]) | (have q2 : ¬ (tAll tx ty td).2.1 < ty := (by assumption); rw [if_neg (fun h9 => q2 h9.2)]) | (have q1 : (tAll tx ty td).1 = true := (by assumption); rw [if_neg (fun h9 => by rw [h9.1] at q1; cases q1)])⟩
set_option maxRecDepth 20000 in
theorem hin_X9_clearBuffer_X9 : ∀ w ∈ wsX90, w ∈ wsX9_clearBuffer := by decide +kernel
set_option maxHeartbeats 4000000 in
set_option maxRecDepth 100000 in
theorem m_X9_clearBuffer (l : Launch) (g : zG) (C : Nat → va_E) (k : Int) (ty : Int) (th : Int) (pt : Int) (fl : Int) (to : Int) (hM : C 94 = .inr (9, [.ref (aD g 95), .ref (aD g 96), .ref (aD g 97), .int (iZ k), .ref (aD g 98), .int (iZ ty), .int (iZ th), .int (iZ pt), .int (iZ fl), .ref (aD g 99), .int (iZ to)])) : Met l yX9_clearBuffer wsX9_clearBuffer ({ frames := 0, cells := 0, slots := 0, locals := 0 } : Room) (zPre g C [.ref (aD g 94)]) (zQi g (fun z C' => C' = va_up C 94 (.inr (9, [.ref (aD g 95), .ref (aD g 96), .ref (aD g 97), .int (iZ k), .ref (aD g 98), .int (iZ 0), .int (iZ 0), .int (iZ pt), .int (iZ fl), .ref (aD g 99), .int (iZ to)])) ∧ z = ty)) 0 0 (zA g) := by
  refine z_enter RX9 rfl (by decide) rfl (Nat.le_of_ble_eq_true rfl) ?_
  intro p e s m args below meth c K harg
  refine z_sub (lv' := [(0, .ref (aD g 94))]) [0] rfl ?_
  refine z_aload_n 1 K dX9_clearBuffer_0 rfl rfl 0 rfl ?_
  refine z_iconst 2 K dX9_clearBuffer_1 rfl ?_
  refine z_put (ty := .int) 5 K hin_X9_clearBuffer_X9 tyX9 tyX9_ok nmX9 94 (by decide) hM rfl 6 (by decide) (by decide +kernel : Cond.fieldLink RX9 25 "BriefBuilderModel" "thrown" "I" ∈ wsX9_clearBuffer) (fun _ h9 => h9) rfl (by decide +kernel) rfl rfl (Nat.le_of_ble_eq_true rfl) dX9_clearBuffer_2 rfl ?_
  show Z p l e (({ frames := 0, cells := 0, slots := 0, locals := 0 } : Room)) s m args below meth c (MQ below (zQi g (fun z C' => C' = va_up C 94 (.inr (9, [.ref (aD g 95), .ref (aD g 96), .ref (aD g 97), .int (iZ k), .ref (aD g 98), .int (iZ 0), .int (iZ 0), .int (iZ pt), .int (iZ fl), .ref (aD g 99), .int (iZ to)])) ∧ z = ty)) args s 0 0 (zA g)) g _ _ _ (va_up C 94 (.inr (9, [.ref (aD g 95), .ref (aD g 96), .ref (aD g 97), .int (iZ k), .ref (aD g 98), .int (iZ ty), .int (iZ 0), .int (iZ pt), .int (iZ fl), .ref (aD g 99), .int (iZ to)]))) [(0, .ref (aD g 94))] 5 []
  refine z_aload_n 6 K dX9_clearBuffer_5 rfl rfl 0 rfl ?_
  refine z_get 9 K hin_X9_clearBuffer_X9 94 (by decide) (va_up_eq _ 94 _) rfl 5 (by decide) (by decide +kernel : Cond.fieldLink RX9 122 "BriefBuilderModel" "typed" "I" ∈ wsX9_clearBuffer) (fun _ h9 => h9) rfl dX9_clearBuffer_6 rfl ?_
  refine z_istore_n (lv' := [(1, .int (iZ ty)), (0, .ref (aD g 94))]) 10 K dX9_clearBuffer_9 rfl rfl (by decide) rfl ?_
  refine z_aload_n 11 K dX9_clearBuffer_10 rfl rfl 1 rfl ?_
  refine z_iconst 12 K dX9_clearBuffer_11 rfl ?_
  refine z_put (ty := .int) 15 K hin_X9_clearBuffer_X9 tyX9 tyX9_ok nmX9 94 (by decide) (va_up_eq _ 94 _) rfl 5 (by decide) (by decide +kernel : Cond.fieldLink RX9 122 "BriefBuilderModel" "typed" "I" ∈ wsX9_clearBuffer) (fun _ h9 => h9) rfl (by decide +kernel) rfl rfl (Nat.le_of_ble_eq_true rfl) dX9_clearBuffer_12 rfl ?_
  show Z p l e (({ frames := 0, cells := 0, slots := 0, locals := 0 } : Room)) s m args below meth c (MQ below (zQi g (fun z C' => C' = va_up C 94 (.inr (9, [.ref (aD g 95), .ref (aD g 96), .ref (aD g 97), .int (iZ k), .ref (aD g 98), .int (iZ 0), .int (iZ 0), .int (iZ pt), .int (iZ fl), .ref (aD g 99), .int (iZ to)])) ∧ z = ty)) args s 0 0 (zA g)) g _ _ _ (va_up (va_up C 94 (.inr (9, [.ref (aD g 95), .ref (aD g 96), .ref (aD g 97), .int (iZ k), .ref (aD g 98), .int (iZ ty), .int (iZ 0), .int (iZ pt), .int (iZ fl), .ref (aD g 99), .int (iZ to)]))) 94 (.inr (9, [.ref (aD g 95), .ref (aD g 96), .ref (aD g 97), .int (iZ k), .ref (aD g 98), .int (iZ 0), .int (iZ 0), .int (iZ pt), .int (iZ fl), .ref (aD g 99), .int (iZ to)]))) [(1, .int (iZ ty)), (0, .ref (aD g 94))] 15 []
  refine z_C (va_uu _ _ _ _) ?_
  refine z_iload_n 16 K dX9_clearBuffer_15 rfl rfl 0 rfl ?_
  exact z_iret K rfl dX9_clearBuffer_16 ⟨rfl, rfl⟩
end ZMX
