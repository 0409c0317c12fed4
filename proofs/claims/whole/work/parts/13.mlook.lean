/-! the reference: its looks -/
section ZMK
set_option maxHeartbeats 4000000 in
set_option maxRecDepth 100000 in
theorem m_X9_citedBy (l : Launch) (g : zG) (C : Nat → va_E) (q : Nat) (p0 : Int) (al : Int) (f : Int → Int) (hz_hC : q < zN) (hC : C q = eI g 449 f) (hw : WR f) (hp : -2147483648 ≤ p0 ∧ p0 < 2147483648) (hal : al = 0 ∨ al = 1) : Met l yX9_citedBy wsX9_citedBy ({ frames := 3, cells := 0, slots := 0, locals := 67 } : Room) (zPre g C [.ref (aD g q), .int (iZ p0), .int (iZ al)]) (zQi g (fun z C' => C' = C ∧ z = sCby f p0 al)) 0 0 (zA g) := by
  refine z_enter RX9 rfl (by decide) rfl (Nat.le_of_ble_eq_true rfl) ?_
  intro p e s m args below meth c K harg
  refine z_sub (lv' := [(0, .ref (aD g q)), (1, .int (iZ p0)), (2, .int (iZ al))]) [0, 1, 2] rfl ?_
  have hn := hw.2.1
  refine z_iconst 1 K dX9_citedBy_0 rfl ?_
  refine z_istore_n (lv' := [(3, .int (iZ 0)), (0, .ref (aD g q)), (1, .int (iZ p0)), (2, .int (iZ al))]) 2 K dX9_citedBy_1 rfl rfl (by decide) rfl ?_
  refine z_iconst 3 K dX9_citedBy_2 rfl ?_
  refine z_istore (lv' := [(4, .int (iZ 0)), (3, .int (iZ 0)), (0, .ref (aD g q)), (1, .int (iZ p0)), (2, .int (iZ al))]) 5 K dX9_citedBy_3 rfl (by decide) rfl ?_
  have loop_5 : ∀ (n9 : Nat) (n a : Int), (0 ≤ a ∧ a ≤ 12) → (n = zsum (fun a => zsum (fun b => sCb f p0 al a b) (f (32 * a + 65))) a) → (12 - a < (n9 : Int)) → Z p l e (({ frames := 3, cells := 0, slots := 0, locals := 67 } : Room)) s m args below meth c (MQ below (zQi g (fun z C' => C' = C ∧ z = sCby f p0 al)) args s 0 0 (zA g)) g 6 0 0 (C) [(0, .ref (aD g q)), (1, .int (iZ p0)), (2, .int (iZ al)), (3, .int (iZ n)), (4, .int (iZ a))] 5 [] := by
    intro n9
    induction n9 with
    | zero =>
      intro n a hka hn1 hm9
      exact absurd hm9 (by omega)
    | succ n9 ih9 =>
      intro n a hka hn1 hm_5
      have ih_5 := ih9
      clear ih9
      refine z_iload 7 K dX9_citedBy_5 rfl 4 rfl ?_
      refine z_bipush 9 K dX9_citedBy_7 rfl rfl ?_
      refine z_icmp_ge (tgt := 73) 12 K dX9_citedBy_9 rfl (by decide) (by omega) (by decide) (fun c_9 => ?_) (fun c_9 => ?_)
      · skip
        refine z_iload_n 74 K dX9_citedBy_73 rfl rfl 3 rfl ?_
        exact z_iret K rfl dX9_citedBy_74 ⟨rfl, by rw [hn1, show a = 12 by omega]; rfl⟩
      · skip
        have hcn := hw.2.2.1 a hka.1 c_9
        refine z_iconst 13 K dX9_citedBy_12 rfl ?_
        refine z_istore (lv' := [(5, .int (iZ 0)), (0, .ref (aD g q)), (1, .int (iZ p0)), (2, .int (iZ al)), (3, .int (iZ n)), (4, .int (iZ a))]) 15 K dX9_citedBy_13 rfl (by decide) rfl ?_
        have loop_15 : ∀ (n9 : Nat) (n2 b : Int), (0 ≤ b ∧ b ≤ f (32 * a + 65)) → (n2 = n + zsum (fun b => sCb f p0 al a b) b) → (f (32 * a + 65) - b < (n9 : Int)) → Z p l e (({ frames := 3, cells := 0, slots := 0, locals := 67 } : Room)) s m args below meth c (MQ below (zQi g (fun z C' => C' = C ∧ z = sCby f p0 al)) args s 0 0 (zA g)) g 6 0 0 (C) [(0, .ref (aD g q)), (1, .int (iZ p0)), (2, .int (iZ al)), (3, .int (iZ n2)), (4, .int (iZ a)), (5, .int (iZ b))] 15 [] := by
          intro n9
          induction n9 with
          | zero =>
            intro n2 b hkb hn2 hm9
            exact absurd hm9 (by omega)
          | succ n9 ih9 =>
            intro n2 b hkb hn2 hm_15
            have ih_15 := ih9
            clear ih9
            refine z_iload 17 K dX9_citedBy_15 rfl 5 rfl ?_
            refine z_aload_n 18 K dX9_citedBy_17 rfl rfl 0 rfl ?_
            refine z_iload 20 K dX9_citedBy_18 rfl 4 rfl ?_
            refine z_vSi (As := [.ref (aD g q), .int (iZ a)]) (rest := [.int (iZ b)]) 23 K (m_X9_cites l g _ q a f hz_hC hC (by omega)) (va_cwS 2 K.1.2.2.2.2 gX9_citedBy_X9_cites rfl rfl rfl (by decide +kernel) ⟨Nat.le_of_ble_eq_true rfl, Nat.le_of_ble_eq_true rfl⟩) rfl (Nat.le_of_ble_eq_true rfl) dX9_citedBy_20 rfl ⟨Nat.le_of_ble_eq_true rfl, Nat.le_of_ble_eq_true rfl⟩ rfl (fun z_1 C_2 hp_20 => ?_)
            refine z_C hp_20.1 ?_
            refine z_top (f (32 * a + 65)) hp_20.2 ?_
            refine z_icmp_ge (tgt := 67) 26 K dX9_citedBy_23 rfl (by decide) (by omega) (by omega) (fun c_23 => ?_) (fun c_23 => ?_)
            · skip
              refine z_iinc (lv' := [(4, .int (iZ (a + 1))), (0, .ref (aD g q)), (1, .int (iZ p0)), (2, .int (iZ al)), (3, .int (iZ n2)), (5, .int (iZ b))]) 70 K dX9_citedBy_67 rfl (a + 1) rfl 4 rfl (by decide) rfl ?_
              refine z_goto (tgt := 5) K dX9_citedBy_70 (by decide) ?_
              refine z_sub [1, 2, 3, 4, 0] rfl ?_
              exact ih_5 n2 (a + 1) (by omega) (by rw [zsum_1 _ (by omega), ← hn1, hn2, show b = f (32 * a + 65) by omega]) (by omega)
            · skip
              refine z_iload_n 27 K dX9_citedBy_26 rfl rfl 3 rfl ?_
              refine z_aload_n 28 K dX9_citedBy_27 rfl rfl 0 rfl ?_
              refine z_iload 30 K dX9_citedBy_28 rfl 4 rfl ?_
              refine z_iload 32 K dX9_citedBy_30 rfl 5 rfl ?_
              refine z_vSi (As := [.ref (aD g q), .int (iZ a), .int (iZ b)]) (rest := [.int (iZ n2)]) 35 K (m_X9_letter l g _ q a b f hz_hC hC hw (by omega) (by omega)) (va_cwS 3 K.1.2.2.2.2 gX9_citedBy_X9_letter rfl rfl rfl (by decide +kernel) ⟨Nat.le_of_ble_eq_true rfl, Nat.le_of_ble_eq_true rfl⟩) rfl (Nat.le_of_ble_eq_true rfl) dX9_citedBy_32 rfl ⟨Nat.le_of_ble_eq_true rfl, Nat.le_of_ble_eq_true rfl⟩ rfl (fun z_3 C_4 hp_32 => ?_)
              refine z_C hp_32.1 ?_
              refine z_top (sLet f a b) hp_32.2 ?_
              have hl := sLet_rng hw a b
              refine z_iload_n 36 K dX9_citedBy_35 rfl rfl 1 rfl ?_
              have join_59_j_5 : ∀ (w : Int), (w = sCb f p0 al a b) → Z p l e (({ frames := 3, cells := 0, slots := 0, locals := 67 } : Room)) s m args below meth c (MQ below (zQi g (fun z C' => C' = C ∧ z = sCby f p0 al)) args s 0 0 (zA g)) g 6 0 0 (C) [(0, .ref (aD g q)), (1, .int (iZ p0)), (2, .int (iZ al)), (3, .int (iZ n2)), (4, .int (iZ a)), (5, .int (iZ b))] 59 [.int (iZ w), .int (iZ n2)] := by
                intro w  hw2
                refine z_iadd 60 K dX9_citedBy_59 rfl ?_
                refine z_istore_n (lv' := [(3, .int (iZ (n2 + w))), (0, .ref (aD g q)), (1, .int (iZ p0)), (2, .int (iZ al)), (4, .int (iZ a)), (5, .int (iZ b))]) 61 K dX9_citedBy_60 rfl rfl (by decide) rfl ?_
                refine z_iinc (lv' := [(5, .int (iZ (b + 1))), (3, .int (iZ (n2 + w))), (0, .ref (aD g q)), (1, .int (iZ p0)), (2, .int (iZ al)), (4, .int (iZ a))]) 64 K dX9_citedBy_61 rfl (b + 1) rfl 5 rfl (by decide) rfl ?_
                refine z_goto (tgt := 15) K dX9_citedBy_64 (by decide) ?_
                refine z_sub [2, 3, 4, 1, 5, 0] rfl ?_
                exact ih_15 (n2 + w) (b + 1) (by omega) (by rw [zsum_1 _ (by omega)]; omega) (by omega)
              refine z_icmp_ne (tgt := 58) 39 K dX9_citedBy_36 rfl (by decide) (by omega) (by omega) (fun c_36 => ?_) (fun c_36 => ?_)
              · skip
                refine z_iconst 59 K dX9_citedBy_58 rfl ?_
                exact join_59_j_5 0 (by unfold sCb; first | (have q9 : al ≠ 0 := (by omega); exact (b2i_1 ⟨c_36, Or.inl q9⟩).symm) | (have q9 : sLost f a b = false := (by assumption); exact (b2i_1 ⟨c_36, Or.inr q9⟩).symm) | (have q9 : sLet f a b ≠ p0 := (by omega); exact (b2i_0 (fun h9 => q9 h9.1)).symm) | (have q8 : al = 0 := (by omega); have q9 : sLost f a b = true := (by assumption); exact (b2i_0 (fun h9 => h9.2.elim (fun z9 => z9 q8) (fun z9 => by rw [z9] at q9; cases q9))).symm))
              · skip
                refine z_iload_n 40 K dX9_citedBy_39 rfl rfl 2 rfl ?_
                refine z_if_ne (tgt := 54) 43 K dX9_citedBy_40 rfl (by decide) (by omega) (fun c_40 => ?_) (fun c_40 => ?_)
                · skip
                  refine z_iconst 55 K dX9_citedBy_54 rfl ?_
                  refine z_goto (tgt := 59) K dX9_citedBy_55 (by decide) ?_
                  exact join_59_j_5 1 (by unfold sCb; first | (have q9 : al ≠ 0 := (by omega); exact (b2i_1 ⟨c_36, Or.inl q9⟩).symm) | (have q9 : sLost f a b = false := (by assumption); exact (b2i_1 ⟨c_36, Or.inr q9⟩).symm) | (have q9 : sLet f a b ≠ p0 := (by omega); exact (b2i_0 (fun h9 => q9 h9.1)).symm) | (have q8 : al = 0 := (by omega); have q9 : sLost f a b = true := (by assumption); exact (b2i_0 (fun h9 => h9.2.elim (fun z9 => z9 q8) (fun z9 => by rw [z9] at q9; cases q9))).symm))
                · skip
                  refine z_aload_n 44 K dX9_citedBy_43 rfl rfl 0 rfl ?_
                  refine z_iload 46 K dX9_citedBy_44 rfl 4 rfl ?_
                  refine z_iload 48 K dX9_citedBy_46 rfl 5 rfl ?_
                  refine z_vSi (As := [.ref (aD g q), .int (iZ a), .int (iZ b)]) (rest := [.int (iZ n2)]) 51 K (m_X9_isLost l g _ q a b f hz_hC hC hw (by omega) (by omega)) (va_cwS 3 K.1.2.2.2.2 gX9_citedBy_X9_isLost rfl rfl rfl (by decide +kernel) ⟨Nat.le_of_ble_eq_true rfl, Nat.le_of_ble_eq_true rfl⟩) rfl (Nat.le_of_ble_eq_true rfl) dX9_citedBy_48 rfl ⟨Nat.le_of_ble_eq_true rfl, Nat.le_of_ble_eq_true rfl⟩ rfl (fun z_6 C_7 hp_48 => ?_)
                  refine z_C hp_48.1 ?_
                  refine z_top (b2i (sLost f a b)) hp_48.2 ?_
                  refine z_if_ne (tgt := 58) 54 K dX9_citedBy_51 rfl (by decide) (b2i_ir _) (fun c_51 => ?_) (fun c_51 => ?_)
                  · have d_51 := b2i_ne0.mp c_51
                    refine z_iconst 59 K dX9_citedBy_58 rfl ?_
                    exact join_59_j_5 0 (by unfold sCb; first | (have q9 : al ≠ 0 := (by omega); exact (b2i_1 ⟨c_36, Or.inl q9⟩).symm) | (have q9 : sLost f a b = false := (by assumption); exact (b2i_1 ⟨c_36, Or.inr q9⟩).symm) | (have q9 : sLet f a b ≠ p0 := (by omega); exact (b2i_0 (fun h9 => q9 h9.1)).symm) | (have q8 : al = 0 := (by omega); have q9 : sLost f a b = true := (by assumption); exact (b2i_0 (fun h9 => h9.2.elim (fun z9 => z9 q8) (fun z9 => by rw [z9] at q9; cases q9))).symm))
                  · have d_51 := b2i_eq0.mp c_51
                    refine z_iconst 55 K dX9_citedBy_54 rfl ?_
                    refine z_goto (tgt := 59) K dX9_citedBy_55 (by decide) ?_
                    exact join_59_j_5 1 (by unfold sCb; first | (have q9 : al ≠ 0 := (by omega); exact (b2i_1 ⟨c_36, Or.inl q9⟩).symm) | (have q9 : sLost f a b = false := (by assumption); exact (b2i_1 ⟨c_36, Or.inr q9⟩).symm) | (have q9 : sLet f a b ≠ p0 := (by omega); exact (b2i_0 (fun h9 => q9 h9.1)).symm) | (have q8 : al = 0 := (by omega); have q9 : sLost f a b = true := (by assumption); exact (b2i_0 (fun h9 => h9.2.elim (fun z9 => z9 q8) (fun z9 => by rw [z9] at q9; cases q9))).symm))
        refine z_sub [1, 2, 3, 4, 5, 0] rfl ?_
        exact loop_15 (Int.toNat (f (32 * a + 65) - 0) + 1) n 0 (by omega) (by rw [zsum_0]; omega) (by omega)
  refine z_sub [2, 3, 4, 1, 0] rfl ?_
  exact loop_5 (Int.toNat (12 - 0) + 1) 0 0 (by omega) rfl (by omega)
set_option maxRecDepth 20000 in
theorem hin_X9_ofExhibit_X9 : ∀ w ∈ wsX90, w ∈ wsX9_ofExhibit := by decide +kernel
set_option maxHeartbeats 4000000 in
set_option maxRecDepth 100000 in
theorem m_X9_ofExhibit (l : Launch) (g : zG) (C : Nat → va_E) (p0 : Int) (w : Int) (k : Int) (ty : Int) (th : Int) (pt : Int) (fl : Int) (to : Int) (f : Int → Int) (cap : Int) (hM : C 94 = .inr (9, [.ref (aD g 95), .ref (aD g 96), .ref (aD g 97), .int (iZ k), .ref (aD g 98), .int (iZ ty), .int (iZ th), .int (iZ pt), .int (iZ fl), .ref (aD g 99), .int (iZ to)])) (hN : C 95 = eI g 449 f) (hw : WF f cap) (hcap : cap ≤ 100000) (hp : 0 ≤ p0 ∧ p0 < f 1) (hww : 0 ≤ w ∧ w ≤ 5) : Met l yX9_ofExhibit wsX9_ofExhibit ({ frames := 4, cells := 0, slots := 0, locals := 92 } : Room) (zPre g C [.ref (aD g 94), .int (iZ p0), .int (iZ w)]) (zQi g (fun z C' => C' = C ∧ z = sOfE f p0 w)) 0 0 (zA g) := by
  refine z_enter RX9 rfl (by decide) rfl (Nat.le_of_ble_eq_true rfl) ?_
  intro p e s m args below meth c K harg
  refine z_sub (lv' := [(0, .ref (aD g 94)), (1, .int (iZ p0)), (2, .int (iZ w))]) [0, 1, 2] rfl ?_
  have hn := hw.n
  have hwr := hw.wr
  refine z_iload_n 1 K dX9_ofExhibit_0 rfl rfl 2 rfl ?_
  refine z_if_ne (tgt := 15) 4 K dX9_ofExhibit_1 rfl (by decide) (by omega) (fun c_1 => ?_) (fun c_1 => ?_)
  · skip
    refine z_iload_n 16 K dX9_ofExhibit_15 rfl rfl 2 rfl ?_
    refine z_iconst 17 K dX9_ofExhibit_16 rfl ?_
    refine z_icmp_ne (tgt := 31) 20 K dX9_ofExhibit_17 rfl (by decide) (by omega) (by decide) (fun c_17 => ?_) (fun c_17 => ?_)
    · skip
      refine z_iload_n 32 K dX9_ofExhibit_31 rfl rfl 2 rfl ?_
      refine z_iconst 33 K dX9_ofExhibit_32 rfl ?_
      refine z_icmp_ge (tgt := 50) 36 K dX9_ofExhibit_33 rfl (by decide) (by omega) (by decide) (fun c_33 => ?_) (fun c_33 => ?_)
      · skip
        refine z_aload_n 51 K dX9_ofExhibit_50 rfl rfl 0 rfl ?_
        refine z_get 54 K hin_X9_ofExhibit_X9 94 (by decide) hM rfl 0 (by decide) (by decide +kernel : Cond.fieldLink RX9 7 "BriefBuilderModel" "now" "[I" ∈ wsX9_ofExhibit) (fun _ h9 => h9) rfl dX9_ofExhibit_51 rfl ?_
        refine z_iload_n 55 K dX9_ofExhibit_54 rfl rfl 1 rfl ?_
        refine z_iconst 56 K dX9_ofExhibit_55 rfl ?_
        refine z_vSi (As := [.ref (aD g 95), .int (iZ p0), .int (iZ 1)]) (rest := []) 59 K (m_X9_citedBy l g _ 95 p0 1 f (by decide) hN hwr (by omega) (by omega)) (va_cwS 3 K.1.2.2.2.2 gX9_ofExhibit_X9_citedBy rfl rfl rfl (by decide +kernel) ⟨Nat.le_of_ble_eq_true rfl, Nat.le_of_ble_eq_true rfl⟩) rfl (Nat.le_of_ble_eq_true rfl) dX9_ofExhibit_56 rfl ⟨Nat.le_of_ble_eq_true rfl, Nat.le_of_ble_eq_true rfl⟩ rfl (fun z_1 C_2 hp_56 => ?_)
        refine z_C hp_56.1 ?_
        refine z_top (sCby f p0 1) hp_56.2 ?_
        exact z_iret K rfl dX9_ofExhibit_59 ⟨rfl, by unfold sOfE; first | rw [if_pos c_1] | rw [if_neg c_1, if_pos c_17] | rw [if_neg c_1, if_neg c_17, if_pos c_33] | rw [if_neg c_1, if_neg c_17, if_neg (by omega)]⟩
      · skip
        refine z_aload_n 37 K dX9_ofExhibit_36 rfl rfl 0 rfl ?_
        refine z_get 40 K hin_X9_ofExhibit_X9 94 (by decide) hM rfl 0 (by decide) (by decide +kernel : Cond.fieldLink RX9 7 "BriefBuilderModel" "now" "[I" ∈ wsX9_ofExhibit) (fun _ h9 => h9) rfl dX9_ofExhibit_37 rfl ?_
        refine z_iload_n 41 K dX9_ofExhibit_40 rfl rfl 1 rfl ?_
        refine z_iload_n 42 K dX9_ofExhibit_41 rfl rfl 2 rfl ?_
        refine z_iconst 43 K dX9_ofExhibit_42 rfl ?_
        refine z_isub 44 K dX9_ofExhibit_43 rfl ?_
        refine z_vSi (As := [.ref (aD g 95), .int (iZ p0), .int (iZ (w - 2))]) (rest := []) 47 K (m_X9_lies l g _ 95 p0 (w - 2) f (by decide) hN hwr (by omega) (by omega)) (va_cwS 3 K.1.2.2.2.2 gX9_ofExhibit_X9_lies rfl rfl rfl (by decide +kernel) ⟨Nat.le_of_ble_eq_true rfl, Nat.le_of_ble_eq_true rfl⟩) rfl (Nat.le_of_ble_eq_true rfl) dX9_ofExhibit_44 rfl ⟨Nat.le_of_ble_eq_true rfl, Nat.le_of_ble_eq_true rfl⟩ rfl (fun z_3 C_4 hp_44 => ?_)
        refine z_C hp_44.1 ?_
        refine z_top (zLies (sPg f) (f 0) p0 (w - 2)) hp_44.2 ?_
        refine z_goto (tgt := 59) K dX9_ofExhibit_47 (by decide) ?_
        exact z_iret K rfl dX9_ofExhibit_59 ⟨rfl, by unfold sOfE; first | rw [if_pos c_1] | rw [if_neg c_1, if_pos c_17] | rw [if_neg c_1, if_neg c_17, if_pos c_33] | rw [if_neg c_1, if_neg c_17, if_neg (by omega)]⟩
    · skip
      refine z_aload_n 21 K dX9_ofExhibit_20 rfl rfl 0 rfl ?_
      refine z_get 24 K hin_X9_ofExhibit_X9 94 (by decide) hM rfl 0 (by decide) (by decide +kernel : Cond.fieldLink RX9 7 "BriefBuilderModel" "now" "[I" ∈ wsX9_ofExhibit) (fun _ h9 => h9) rfl dX9_ofExhibit_21 rfl ?_
      refine z_iload_n 25 K dX9_ofExhibit_24 rfl rfl 1 rfl ?_
      refine z_vSi (As := [.ref (aD g 95), .int (iZ p0)]) (rest := []) 28 K (m_X9_pagesOf l g _ 95 p0 f (by decide) hN (by omega)) (va_cwS 2 K.1.2.2.2.2 gX9_ofExhibit_X9_pagesOf rfl rfl rfl (by decide +kernel) ⟨Nat.le_of_ble_eq_true rfl, Nat.le_of_ble_eq_true rfl⟩) rfl (Nat.le_of_ble_eq_true rfl) dX9_ofExhibit_25 rfl ⟨Nat.le_of_ble_eq_true rfl, Nat.le_of_ble_eq_true rfl⟩ rfl (fun z_5 C_6 hp_25 => ?_)
      refine z_C hp_25.1 ?_
      refine z_top (f (2 * p0 + 4)) hp_25.2 ?_
      refine z_goto (tgt := 59) K dX9_ofExhibit_28 (by decide) ?_
      exact z_iret K rfl dX9_ofExhibit_59 ⟨rfl, by unfold sOfE; first | rw [if_pos c_1] | rw [if_neg c_1, if_pos c_17] | rw [if_neg c_1, if_neg c_17, if_pos c_33] | rw [if_neg c_1, if_neg c_17, if_neg (by omega)]⟩
  · skip
    refine z_aload_n 5 K dX9_ofExhibit_4 rfl rfl 0 rfl ?_
    refine z_get 8 K hin_X9_ofExhibit_X9 94 (by decide) hM rfl 0 (by decide) (by decide +kernel : Cond.fieldLink RX9 7 "BriefBuilderModel" "now" "[I" ∈ wsX9_ofExhibit) (fun _ h9 => h9) rfl dX9_ofExhibit_5 rfl ?_
    refine z_iload_n 9 K dX9_ofExhibit_8 rfl rfl 1 rfl ?_
    refine z_vSi (As := [.ref (aD g 95), .int (iZ p0)]) (rest := []) 12 K (m_X9_number l g _ 95 p0 f (by decide) hN (by omega)) (va_cwS 2 K.1.2.2.2.2 gX9_ofExhibit_X9_number rfl rfl rfl (by decide +kernel) ⟨Nat.le_of_ble_eq_true rfl, Nat.le_of_ble_eq_true rfl⟩) rfl (Nat.le_of_ble_eq_true rfl) dX9_ofExhibit_9 rfl ⟨Nat.le_of_ble_eq_true rfl, Nat.le_of_ble_eq_true rfl⟩ rfl (fun z_7 C_8 hp_9 => ?_)
    refine z_C hp_9.1 ?_
    refine z_top (f (2 * p0 + 3)) hp_9.2 ?_
    refine z_goto (tgt := 59) K dX9_ofExhibit_12 (by decide) ?_
    exact z_iret K rfl dX9_ofExhibit_59 ⟨rfl, by unfold sOfE; first | rw [if_pos c_1] | rw [if_neg c_1, if_pos c_17] | rw [if_neg c_1, if_neg c_17, if_pos c_33] | rw [if_neg c_1, if_neg c_17, if_neg (by omega)]⟩
set_option maxRecDepth 20000 in
theorem hin_X9_ofCitation_X9 : ∀ w ∈ wsX90, w ∈ wsX9_ofCitation := by decide +kernel
set_option maxHeartbeats 4000000 in
set_option maxRecDepth 100000 in
theorem m_X9_ofCitation (l : Launch) (g : zG) (C : Nat → va_E) (a : Int) (b : Int) (w : Int) (k : Int) (ty : Int) (th : Int) (pt : Int) (fl : Int) (to : Int) (f : Int → Int) (cap : Int) (hM : C 94 = .inr (9, [.ref (aD g 95), .ref (aD g 96), .ref (aD g 97), .int (iZ k), .ref (aD g 98), .int (iZ ty), .int (iZ th), .int (iZ pt), .int (iZ fl), .ref (aD g 99), .int (iZ to)])) (hN : C 95 = eI g 449 f) (hw : WF f cap) (hcap : cap ≤ 100000) (hpa : 0 ≤ a ∧ a < 12) (hpb : 0 ≤ b ∧ b < f (32 * a + 65)) (hww : 0 ≤ w ∧ w ≤ 4) : Met l yX9_ofCitation wsX9_ofCitation ({ frames := 3, cells := 0, slots := 0, locals := 67 } : Room) (zPre g C [.ref (aD g 94), .int (iZ a), .int (iZ b), .int (iZ w)]) (zQi g (fun z C' => C' = C ∧ z = sOfC f a b w)) 0 0 (zA g) := by
  refine z_enter RX9 rfl (by decide) rfl (Nat.le_of_ble_eq_true rfl) ?_
  intro p e s m args below meth c K harg
  refine z_sub (lv' := [(0, .ref (aD g 94)), (1, .int (iZ a)), (2, .int (iZ b)), (3, .int (iZ w))]) [0, 1, 2, 3] rfl ?_
  have hn := hw.n
  have hwr := hw.wr
  have hcn := hwr.2.2.1 a hpa.1 hpa.2
  refine z_iload_n 1 K dX9_ofCitation_0 rfl rfl 3 rfl ?_
  by_cases sw_1_0 : w = 0
  · skip
    refine z_top (0) sw_1_0 ?_
    refine z_tableIn (tgt := 32) K dX9_ofCitation_1 (by decide) (by decide) (by decide) rfl (by decide) ?_
    refine z_aload_n 33 K dX9_ofCitation_32 rfl rfl 0 rfl ?_
    refine z_get 36 K hin_X9_ofCitation_X9 94 (by decide) hM rfl 0 (by decide) (by decide +kernel : Cond.fieldLink RX9 7 "BriefBuilderModel" "now" "[I" ∈ wsX9_ofCitation) (fun _ h9 => h9) rfl dX9_ofCitation_33 rfl ?_
    refine z_iload_n 37 K dX9_ofCitation_36 rfl rfl 1 rfl ?_
    refine z_iload_n 38 K dX9_ofCitation_37 rfl rfl 2 rfl ?_
    refine z_vSi (As := [.int (iZ a), .int (iZ b)]) (rest := [.ref (aD g 95)]) 41 K (m_X9_index l g _ a b ) (va_cwS 2 K.1.2.2.2.2 gX9_ofCitation_X9_index rfl rfl rfl (by decide +kernel) ⟨Nat.le_of_ble_eq_true rfl, Nat.le_of_ble_eq_true rfl⟩) rfl (Nat.le_of_ble_eq_true rfl) dX9_ofCitation_38 rfl ⟨Nat.le_of_ble_eq_true rfl, Nat.le_of_ble_eq_true rfl⟩ rfl (fun z_1 C_2 hp_38 => ?_)
    refine z_C hp_38.1 ?_
    refine z_top (32 * a + 2 * b + 66) hp_38.2 ?_
    refine z_iald (f := f) 42 K 95 (by decide) hN (by omega) (by omega) (by decide) dX9_ofCitation_41 rfl ?_
    have hr_41 := hw.rg (32 * a + 2 * b + 66)
    exact z_iret K rfl dX9_ofCitation_42 ⟨rfl, by unfold sOfC; rw [if_pos sw_1_0]⟩
  by_cases sw_1_1 : w = 1
  · skip
    refine z_top (1) sw_1_1 ?_
    refine z_tableIn (tgt := 43) K dX9_ofCitation_1 (by decide) (by decide) (by decide) rfl (by decide) ?_
    refine z_aload_n 44 K dX9_ofCitation_43 rfl rfl 0 rfl ?_
    refine z_get 47 K hin_X9_ofCitation_X9 94 (by decide) hM rfl 0 (by decide) (by decide +kernel : Cond.fieldLink RX9 7 "BriefBuilderModel" "now" "[I" ∈ wsX9_ofCitation) (fun _ h9 => h9) rfl dX9_ofCitation_44 rfl ?_
    refine z_iload_n 48 K dX9_ofCitation_47 rfl rfl 1 rfl ?_
    refine z_iload_n 49 K dX9_ofCitation_48 rfl rfl 2 rfl ?_
    refine z_vSi (As := [.ref (aD g 95), .int (iZ a), .int (iZ b)]) (rest := []) 52 K (m_X9_letter l g _ 95 a b f (by decide) hN hwr (by omega) (by omega)) (va_cwS 3 K.1.2.2.2.2 gX9_ofCitation_X9_letter rfl rfl rfl (by decide +kernel) ⟨Nat.le_of_ble_eq_true rfl, Nat.le_of_ble_eq_true rfl⟩) rfl (Nat.le_of_ble_eq_true rfl) dX9_ofCitation_49 rfl ⟨Nat.le_of_ble_eq_true rfl, Nat.le_of_ble_eq_true rfl⟩ rfl (fun z_3 C_4 hp_49 => ?_)
    refine z_C hp_49.1 ?_
    refine z_top (sLet f a b) hp_49.2 ?_
    exact z_iret K rfl dX9_ofCitation_52 ⟨rfl, by unfold sOfC; rw [if_neg sw_1_0, if_pos sw_1_1]⟩
  by_cases sw_1_2 : w = 2
  · skip
    refine z_top (2) sw_1_2 ?_
    refine z_tableIn (tgt := 53) K dX9_ofCitation_1 (by decide) (by decide) (by decide) rfl (by decide) ?_
    refine z_aload_n 54 K dX9_ofCitation_53 rfl rfl 0 rfl ?_
    refine z_get 57 K hin_X9_ofCitation_X9 94 (by decide) hM rfl 0 (by decide) (by decide +kernel : Cond.fieldLink RX9 7 "BriefBuilderModel" "now" "[I" ∈ wsX9_ofCitation) (fun _ h9 => h9) rfl dX9_ofCitation_54 rfl ?_
    refine z_iload_n 58 K dX9_ofCitation_57 rfl rfl 1 rfl ?_
    refine z_iload_n 59 K dX9_ofCitation_58 rfl rfl 2 rfl ?_
    refine z_vSi (As := [.int (iZ a), .int (iZ b)]) (rest := [.ref (aD g 95)]) 62 K (m_X9_index l g _ a b ) (va_cwS 2 K.1.2.2.2.2 gX9_ofCitation_X9_index rfl rfl rfl (by decide +kernel) ⟨Nat.le_of_ble_eq_true rfl, Nat.le_of_ble_eq_true rfl⟩) rfl (Nat.le_of_ble_eq_true rfl) dX9_ofCitation_59 rfl ⟨Nat.le_of_ble_eq_true rfl, Nat.le_of_ble_eq_true rfl⟩ rfl (fun z_5 C_6 hp_59 => ?_)
    refine z_C hp_59.1 ?_
    refine z_top (32 * a + 2 * b + 66) hp_59.2 ?_
    refine z_iconst 63 K dX9_ofCitation_62 rfl ?_
    refine z_iadd 64 K dX9_ofCitation_63 rfl ?_
    refine z_top (32 * a + 2 * b + 67) (by omega) ?_
    refine z_iald (f := f) 65 K 95 (by decide) hN (by omega) (by omega) (by decide) dX9_ofCitation_64 rfl ?_
    have hr_64 := hw.rg (32 * a + 2 * b + 67)
    exact z_iret K rfl dX9_ofCitation_65 ⟨rfl, by unfold sOfC; rw [if_neg sw_1_0, if_neg sw_1_1, if_pos sw_1_2]⟩
  by_cases sw_1_3 : w = 3
  · skip
    refine z_top (3) sw_1_3 ?_
    refine z_tableIn (tgt := 66) K dX9_ofCitation_1 (by decide) (by decide) (by decide) rfl (by decide) ?_
    refine z_aload_n 67 K dX9_ofCitation_66 rfl rfl 0 rfl ?_
    refine z_get 70 K hin_X9_ofCitation_X9 94 (by decide) hM rfl 0 (by decide) (by decide +kernel : Cond.fieldLink RX9 7 "BriefBuilderModel" "now" "[I" ∈ wsX9_ofCitation) (fun _ h9 => h9) rfl dX9_ofCitation_67 rfl ?_
    refine z_iload_n 71 K dX9_ofCitation_70 rfl rfl 1 rfl ?_
    refine z_iload_n 72 K dX9_ofCitation_71 rfl rfl 2 rfl ?_
    refine z_vSi (As := [.ref (aD g 95), .int (iZ a), .int (iZ b)]) (rest := []) 75 K (m_X9_isLost l g _ 95 a b f (by decide) hN hwr (by omega) (by omega)) (va_cwS 3 K.1.2.2.2.2 gX9_ofCitation_X9_isLost rfl rfl rfl (by decide +kernel) ⟨Nat.le_of_ble_eq_true rfl, Nat.le_of_ble_eq_true rfl⟩) rfl (Nat.le_of_ble_eq_true rfl) dX9_ofCitation_72 rfl ⟨Nat.le_of_ble_eq_true rfl, Nat.le_of_ble_eq_true rfl⟩ rfl (fun z_7 C_8 hp_72 => ?_)
    refine z_C hp_72.1 ?_
    refine z_top (b2i (sLost f a b)) hp_72.2 ?_
    refine z_bool01 78 79 82 83 K (b2i_rng _) dX9_ofCitation_75 dX9_ofCitation_78 dX9_ofCitation_79 dX9_ofCitation_82 rfl rfl (by decide) (by decide) rfl ?_
    exact z_iret K rfl dX9_ofCitation_83 ⟨rfl, by unfold sOfC; rw [if_neg sw_1_0, if_neg sw_1_1, if_neg sw_1_2, if_pos sw_1_3]⟩
  refine z_tableOut (tgt := 84) K dX9_ofCitation_1 (by omega) (by omega) (by decide) ?_
  refine z_aload_n 85 K dX9_ofCitation_84 rfl rfl 0 rfl ?_
  refine z_get 88 K hin_X9_ofCitation_X9 94 (by decide) hM rfl 0 (by decide) (by decide +kernel : Cond.fieldLink RX9 7 "BriefBuilderModel" "now" "[I" ∈ wsX9_ofCitation) (fun _ h9 => h9) rfl dX9_ofCitation_85 rfl ?_
  refine z_iload_n 89 K dX9_ofCitation_88 rfl rfl 1 rfl ?_
  refine z_iload_n 90 K dX9_ofCitation_89 rfl rfl 2 rfl ?_
  refine z_vSi (As := [.ref (aD g 95), .int (iZ a), .int (iZ b)]) (rest := []) 93 K (m_X9_isLost l g _ 95 a b f (by decide) hN hwr (by omega) (by omega)) (va_cwS 3 K.1.2.2.2.2 gX9_ofCitation_X9_isLost rfl rfl rfl (by decide +kernel) ⟨Nat.le_of_ble_eq_true rfl, Nat.le_of_ble_eq_true rfl⟩) rfl (Nat.le_of_ble_eq_true rfl) dX9_ofCitation_90 rfl ⟨Nat.le_of_ble_eq_true rfl, Nat.le_of_ble_eq_true rfl⟩ rfl (fun z_9 C_10 hp_90 => ?_)
  refine z_C hp_90.1 ?_
  refine z_top (b2i (sLost f a b)) hp_90.2 ?_
  refine z_if_eq (tgt := 100) 96 K dX9_ofCitation_93 rfl (by decide) (b2i_ir _) (fun c_93 => ?_) (fun c_93 => ?_)
  · have d_93 := b2i_eq0.mp c_93
    refine z_aload_n 101 K dX9_ofCitation_100 rfl rfl 0 rfl ?_
    refine z_get 104 K hin_X9_ofCitation_X9 94 (by decide) hM rfl 0 (by decide) (by decide +kernel : Cond.fieldLink RX9 7 "BriefBuilderModel" "now" "[I" ∈ wsX9_ofCitation) (fun _ h9 => h9) rfl dX9_ofCitation_101 rfl ?_
    refine z_aload_n 105 K dX9_ofCitation_104 rfl rfl 0 rfl ?_
    refine z_get 108 K hin_X9_ofCitation_X9 94 (by decide) hM rfl 0 (by decide) (by decide +kernel : Cond.fieldLink RX9 7 "BriefBuilderModel" "now" "[I" ∈ wsX9_ofCitation) (fun _ h9 => h9) rfl dX9_ofCitation_105 rfl ?_
    refine z_iload_n 109 K dX9_ofCitation_108 rfl rfl 1 rfl ?_
    refine z_iload_n 110 K dX9_ofCitation_109 rfl rfl 2 rfl ?_
    refine z_vSi (As := [.ref (aD g 95), .int (iZ a), .int (iZ b)]) (rest := [.ref (aD g 95)]) 113 K (m_X9_letter l g _ 95 a b f (by decide) hN hwr (by omega) (by omega)) (va_cwS 3 K.1.2.2.2.2 gX9_ofCitation_X9_letter rfl rfl rfl (by decide +kernel) ⟨Nat.le_of_ble_eq_true rfl, Nat.le_of_ble_eq_true rfl⟩) rfl (Nat.le_of_ble_eq_true rfl) dX9_ofCitation_110 rfl ⟨Nat.le_of_ble_eq_true rfl, Nat.le_of_ble_eq_true rfl⟩ rfl (fun z_11 C_12 hp_110 => ?_)
    refine z_C hp_110.1 ?_
    refine z_top (sLet f a b) hp_110.2 ?_
    have hl := sLet_rng hwr a b
    have hnl : sLet f a b ≠ -1 := fun h9 => by unfold sLost at d_93; rw [decide_eq_true (Or.inl h9)] at d_93; cases d_93
    refine z_iconst 114 K dX9_ofCitation_113 rfl ?_
    refine z_vSi (As := [.ref (aD g 95), .int (iZ (sLet f a b)), .int (iZ 2)]) (rest := []) 117 K (m_X9_lies l g _ 95 (sLet f a b) 2 f (by decide) hN hwr (by omega) (by omega)) (va_cwS 3 K.1.2.2.2.2 gX9_ofCitation_X9_lies rfl rfl rfl (by decide +kernel) ⟨Nat.le_of_ble_eq_true rfl, Nat.le_of_ble_eq_true rfl⟩) rfl (Nat.le_of_ble_eq_true rfl) dX9_ofCitation_114 rfl ⟨Nat.le_of_ble_eq_true rfl, Nat.le_of_ble_eq_true rfl⟩ rfl (fun z_13 C_14 hp_114 => ?_)
    refine z_C hp_114.1 ?_
    refine z_top (zLies (sPg f) (f 0) (sLet f a b) 2) hp_114.2 ?_
    refine z_aload_n 118 K dX9_ofCitation_117 rfl rfl 0 rfl ?_
    refine z_get 121 K hin_X9_ofCitation_X9 94 (by decide) hM rfl 0 (by decide) (by decide +kernel : Cond.fieldLink RX9 7 "BriefBuilderModel" "now" "[I" ∈ wsX9_ofCitation) (fun _ h9 => h9) rfl dX9_ofCitation_118 rfl ?_
    refine z_iload_n 122 K dX9_ofCitation_121 rfl rfl 1 rfl ?_
    refine z_iload_n 123 K dX9_ofCitation_122 rfl rfl 2 rfl ?_
    refine z_vSi (As := [.int (iZ a), .int (iZ b)]) (rest := [.ref (aD g 95), .int (iZ (zLies (sPg f) (f 0) (sLet f a b) 2))]) 126 K (m_X9_index l g _ a b ) (va_cwS 2 K.1.2.2.2.2 gX9_ofCitation_X9_index rfl rfl rfl (by decide +kernel) ⟨Nat.le_of_ble_eq_true rfl, Nat.le_of_ble_eq_true rfl⟩) rfl (Nat.le_of_ble_eq_true rfl) dX9_ofCitation_123 rfl ⟨Nat.le_of_ble_eq_true rfl, Nat.le_of_ble_eq_true rfl⟩ rfl (fun z_15 C_16 hp_123 => ?_)
    refine z_C hp_123.1 ?_
    refine z_top (32 * a + 2 * b + 66) hp_123.2 ?_
    refine z_iconst 127 K dX9_ofCitation_126 rfl ?_
    refine z_iadd 128 K dX9_ofCitation_127 rfl ?_
    refine z_top (32 * a + 2 * b + 67) (by omega) ?_
    refine z_iald (f := f) 129 K 95 (by decide) hN (by omega) (by omega) (by decide) dX9_ofCitation_128 rfl ?_
    have hr_128 := hw.rg (32 * a + 2 * b + 67)
    refine z_iadd 130 K dX9_ofCitation_129 rfl ?_
    refine z_top (f (32 * a + 2 * b + 67) + zLies (sPg f) (f 0) (sLet f a b) 2) (by omega) ?_
    refine z_iconst 131 K dX9_ofCitation_130 rfl ?_
    refine z_isub 132 K dX9_ofCitation_131 rfl ?_
    exact z_iret K rfl dX9_ofCitation_132 ⟨rfl, by unfold sOfC; rw [if_neg sw_1_0, if_neg sw_1_1, if_neg sw_1_2, if_neg sw_1_3]; first | rw [if_pos d_93] | (rw [if_neg (by rw [d_93]; decide)]; unfold zLies; rw [if_neg (by decide), if_neg (by decide)]; omega)⟩
  · have d_93 := b2i_ne0.mp c_93
    refine z_iconst 97 K dX9_ofCitation_96 rfl ?_
    refine z_goto (tgt := 132) K dX9_ofCitation_97 (by decide) ?_
    exact z_iret K rfl dX9_ofCitation_132 ⟨rfl, by unfold sOfC; rw [if_neg sw_1_0, if_neg sw_1_1, if_neg sw_1_2, if_neg sw_1_3]; first | rw [if_pos d_93] | (rw [if_neg (by rw [d_93]; decide)]; unfold zLies; rw [if_neg (by decide), if_neg (by decide)]; omega)⟩
set_option maxRecDepth 20000 in
theorem hin_X9_ofParagraph_X9 : ∀ w ∈ wsX90, w ∈ wsX9_ofParagraph := by decide +kernel
set_option maxHeartbeats 4000000 in
set_option maxRecDepth 100000 in
theorem m_X9_ofParagraph (l : Launch) (g : zG) (C : Nat → va_E) (a : Int) (w : Int) (k : Int) (ty : Int) (th : Int) (pt : Int) (fl : Int) (to : Int) (f : Int → Int) (cap : Int) (hM : C 94 = .inr (9, [.ref (aD g 95), .ref (aD g 96), .ref (aD g 97), .int (iZ k), .ref (aD g 98), .int (iZ ty), .int (iZ th), .int (iZ pt), .int (iZ fl), .ref (aD g 99), .int (iZ to)])) (hN : C 95 = eI g 449 f) (hw : WF f cap) (hcap : cap ≤ 100000) (hpa : 0 ≤ a ∧ a < 12) (hww : 0 ≤ w ∧ w ≤ 3) : Met l yX9_ofParagraph wsX9_ofParagraph ({ frames := 4, cells := 0, slots := 0, locals := 92 } : Room) (zPre g C [.ref (aD g 94), .int (iZ a), .int (iZ w)]) (zQi g (fun z C' => C' = C ∧ z = sOfP f a w)) 0 0 (zA g) := by
  refine z_enter RX9 rfl (by decide) rfl (Nat.le_of_ble_eq_true rfl) ?_
  intro p e s m args below meth c K harg
  refine z_sub (lv' := [(0, .ref (aD g 94)), (1, .int (iZ a)), (2, .int (iZ w))]) [0, 1, 2] rfl ?_
  have hn := hw.n
  have hwr := hw.wr
  refine z_iload_n 1 K dX9_ofParagraph_0 rfl rfl 2 rfl ?_
  refine z_if_ne (tgt := 15) 4 K dX9_ofParagraph_1 rfl (by decide) (by omega) (fun c_1 => ?_) (fun c_1 => ?_)
  · skip
    refine z_iload_n 16 K dX9_ofParagraph_15 rfl rfl 2 rfl ?_
    refine z_iconst 17 K dX9_ofParagraph_16 rfl ?_
    refine z_icmp_ne (tgt := 31) 20 K dX9_ofParagraph_17 rfl (by decide) (by omega) (by decide) (fun c_17 => ?_) (fun c_17 => ?_)
    · skip
      refine z_iload_n 32 K dX9_ofParagraph_31 rfl rfl 2 rfl ?_
      refine z_iconst 33 K dX9_ofParagraph_32 rfl ?_
      refine z_icmp_ne (tgt := 55) 36 K dX9_ofParagraph_33 rfl (by decide) (by omega) (by decide) (fun c_33 => ?_) (fun c_33 => ?_)
      · skip
        refine z_aload_n 56 K dX9_ofParagraph_55 rfl rfl 0 rfl ?_
        refine z_get 59 K hin_X9_ofParagraph_X9 94 (by decide) hM rfl 0 (by decide) (by decide +kernel : Cond.fieldLink RX9 7 "BriefBuilderModel" "now" "[I" ∈ wsX9_ofParagraph) (fun _ h9 => h9) rfl dX9_ofParagraph_56 rfl ?_
        refine z_bipush 61 K dX9_ofParagraph_59 rfl rfl ?_
        refine z_bipush 63 K dX9_ofParagraph_61 rfl rfl ?_
        refine z_iload_n 64 K dX9_ofParagraph_63 rfl rfl 1 rfl ?_
        refine z_imul 65 K dX9_ofParagraph_64 rfl ?_
        refine z_iadd 66 K dX9_ofParagraph_65 rfl ?_
        refine z_top (32 * a + 65) (by omega) ?_
        refine z_bipush 68 K dX9_ofParagraph_66 rfl rfl ?_
        refine z_iadd 69 K dX9_ofParagraph_68 rfl ?_
        refine z_top (32 * a + 78) (by omega) ?_
        refine z_iald (f := f) 70 K 95 (by decide) hN (by omega) (by omega) (by decide) dX9_ofParagraph_69 rfl ?_
        have hr_69 := hw.rg (32 * a + 78)
        exact z_iret K rfl dX9_ofParagraph_70 ⟨rfl, by unfold sOfP; first | rw [if_pos c_1] | rw [if_neg c_1, if_pos c_17] | rw [if_neg c_1, if_neg c_17, if_pos c_33, b2i_eq1.mpr d_44] | rw [if_neg c_1, if_neg c_17, if_pos c_33, b2i_eq0.mpr d_44] | rw [if_neg c_1, if_neg c_17, if_neg c_33]⟩
      · skip
        refine z_aload_n 37 K dX9_ofParagraph_36 rfl rfl 0 rfl ?_
        refine z_get 40 K hin_X9_ofParagraph_X9 94 (by decide) hM rfl 0 (by decide) (by decide +kernel : Cond.fieldLink RX9 7 "BriefBuilderModel" "now" "[I" ∈ wsX9_ofParagraph) (fun _ h9 => h9) rfl dX9_ofParagraph_37 rfl ?_
        refine z_iload_n 41 K dX9_ofParagraph_40 rfl rfl 1 rfl ?_
        refine z_vSi (As := [.ref (aD g 95), .int (iZ a)]) (rest := []) 44 K (m_X9_isStale l g _ 95 a f (by decide) hN hwr (by omega)) (va_cwS 2 K.1.2.2.2.2 gX9_ofParagraph_X9_isStale rfl rfl rfl (by decide +kernel) ⟨Nat.le_of_ble_eq_true rfl, Nat.le_of_ble_eq_true rfl⟩) rfl (Nat.le_of_ble_eq_true rfl) dX9_ofParagraph_41 rfl ⟨Nat.le_of_ble_eq_true rfl, Nat.le_of_ble_eq_true rfl⟩ rfl (fun z_1 C_2 hp_41 => ?_)
        refine z_C hp_41.1 ?_
        refine z_top (b2i (sStale f a)) hp_41.2 ?_
        refine z_if_eq (tgt := 51) 47 K dX9_ofParagraph_44 rfl (by decide) (b2i_ir _) (fun c_44 => ?_) (fun c_44 => ?_)
        · have d_44 := b2i_eq0.mp c_44
          refine z_iconst 52 K dX9_ofParagraph_51 rfl ?_
          refine z_goto (tgt := 70) K dX9_ofParagraph_52 (by decide) ?_
          exact z_iret K rfl dX9_ofParagraph_70 ⟨rfl, by unfold sOfP; first | rw [if_pos c_1] | rw [if_neg c_1, if_pos c_17] | rw [if_neg c_1, if_neg c_17, if_pos c_33, b2i_eq1.mpr d_44] | rw [if_neg c_1, if_neg c_17, if_pos c_33, b2i_eq0.mpr d_44] | rw [if_neg c_1, if_neg c_17, if_neg c_33]⟩
        · have d_44 := b2i_ne0.mp c_44
          refine z_iconst 48 K dX9_ofParagraph_47 rfl ?_
          refine z_goto (tgt := 70) K dX9_ofParagraph_48 (by decide) ?_
          exact z_iret K rfl dX9_ofParagraph_70 ⟨rfl, by unfold sOfP; first | rw [if_pos c_1] | rw [if_neg c_1, if_pos c_17] | rw [if_neg c_1, if_neg c_17, if_pos c_33, b2i_eq1.mpr d_44] | rw [if_neg c_1, if_neg c_17, if_pos c_33, b2i_eq0.mpr d_44] | rw [if_neg c_1, if_neg c_17, if_neg c_33]⟩
    · skip
      refine z_aload_n 21 K dX9_ofParagraph_20 rfl rfl 0 rfl ?_
      refine z_get 24 K hin_X9_ofParagraph_X9 94 (by decide) hM rfl 0 (by decide) (by decide +kernel : Cond.fieldLink RX9 7 "BriefBuilderModel" "now" "[I" ∈ wsX9_ofParagraph) (fun _ h9 => h9) rfl dX9_ofParagraph_21 rfl ?_
      refine z_iload_n 25 K dX9_ofParagraph_24 rfl rfl 1 rfl ?_
      refine z_vSi (As := [.ref (aD g 95), .int (iZ a)]) (rest := []) 28 K (m_X9_lost l g _ 95 a f (by decide) hN hwr (by omega)) (va_cwS 2 K.1.2.2.2.2 gX9_ofParagraph_X9_lost rfl rfl rfl (by decide +kernel) ⟨Nat.le_of_ble_eq_true rfl, Nat.le_of_ble_eq_true rfl⟩) rfl (Nat.le_of_ble_eq_true rfl) dX9_ofParagraph_25 rfl ⟨Nat.le_of_ble_eq_true rfl, Nat.le_of_ble_eq_true rfl⟩ rfl (fun z_3 C_4 hp_25 => ?_)
      refine z_C hp_25.1 ?_
      refine z_top (sLostN f a) hp_25.2 ?_
      refine z_goto (tgt := 70) K dX9_ofParagraph_28 (by decide) ?_
      exact z_iret K rfl dX9_ofParagraph_70 ⟨rfl, by unfold sOfP; first | rw [if_pos c_1] | rw [if_neg c_1, if_pos c_17] | rw [if_neg c_1, if_neg c_17, if_pos c_33, b2i_eq1.mpr d_44] | rw [if_neg c_1, if_neg c_17, if_pos c_33, b2i_eq0.mpr d_44] | rw [if_neg c_1, if_neg c_17, if_neg c_33]⟩
  · skip
    refine z_aload_n 5 K dX9_ofParagraph_4 rfl rfl 0 rfl ?_
    refine z_get 8 K hin_X9_ofParagraph_X9 94 (by decide) hM rfl 0 (by decide) (by decide +kernel : Cond.fieldLink RX9 7 "BriefBuilderModel" "now" "[I" ∈ wsX9_ofParagraph) (fun _ h9 => h9) rfl dX9_ofParagraph_5 rfl ?_
    refine z_iload_n 9 K dX9_ofParagraph_8 rfl rfl 1 rfl ?_
    refine z_vSi (As := [.ref (aD g 95), .int (iZ a)]) (rest := []) 12 K (m_X9_cites l g _ 95 a f (by decide) hN (by omega)) (va_cwS 2 K.1.2.2.2.2 gX9_ofParagraph_X9_cites rfl rfl rfl (by decide +kernel) ⟨Nat.le_of_ble_eq_true rfl, Nat.le_of_ble_eq_true rfl⟩) rfl (Nat.le_of_ble_eq_true rfl) dX9_ofParagraph_9 rfl ⟨Nat.le_of_ble_eq_true rfl, Nat.le_of_ble_eq_true rfl⟩ rfl (fun z_5 C_6 hp_9 => ?_)
    refine z_C hp_9.1 ?_
    refine z_top (f (32 * a + 65)) hp_9.2 ?_
    refine z_goto (tgt := 70) K dX9_ofParagraph_12 (by decide) ?_
    exact z_iret K rfl dX9_ofParagraph_70 ⟨rfl, by unfold sOfP; first | rw [if_pos c_1] | rw [if_neg c_1, if_pos c_17] | rw [if_neg c_1, if_neg c_17, if_pos c_33, b2i_eq1.mpr d_44] | rw [if_neg c_1, if_neg c_17, if_pos c_33, b2i_eq0.mpr d_44] | rw [if_neg c_1, if_neg c_17, if_neg c_33]⟩
set_option maxRecDepth 20000 in
theorem hin_X9_uncited_X9 : ∀ w ∈ wsX90, w ∈ wsX9_uncited := by decide +kernel
set_option maxHeartbeats 4000000 in
set_option maxRecDepth 100000 in
theorem m_X9_uncited (l : Launch) (g : zG) (C : Nat → va_E) (k : Int) (ty : Int) (th : Int) (pt : Int) (fl : Int) (to : Int) (f : Int → Int) (cap : Int) (hM : C 94 = .inr (9, [.ref (aD g 95), .ref (aD g 96), .ref (aD g 97), .int (iZ k), .ref (aD g 98), .int (iZ ty), .int (iZ th), .int (iZ pt), .int (iZ fl), .ref (aD g 99), .int (iZ to)])) (hN : C 95 = eI g 449 f) (hw : WF f cap) (hcap : cap ≤ 100000) : Met l yX9_uncited wsX9_uncited ({ frames := 4, cells := 0, slots := 0, locals := 92 } : Room) (zPre g C [.ref (aD g 94)]) (zQi g (fun z C' => C' = C ∧ z = sUnc f)) 0 0 (zA g) := by
  refine z_enter RX9 rfl (by decide) rfl (Nat.le_of_ble_eq_true rfl) ?_
  intro p e s m args below meth c K harg
  refine z_sub (lv' := [(0, .ref (aD g 94))]) [0] rfl ?_
  have hn := hw.n
  have hwr := hw.wr
  refine z_iconst 1 K dX9_uncited_0 rfl ?_
  refine z_istore_n (lv' := [(1, .int (iZ 0)), (0, .ref (aD g 94))]) 2 K dX9_uncited_1 rfl rfl (by decide) rfl ?_
  refine z_iconst 3 K dX9_uncited_2 rfl ?_
  refine z_istore_n (lv' := [(2, .int (iZ 0)), (1, .int (iZ 0)), (0, .ref (aD g 94))]) 4 K dX9_uncited_3 rfl rfl (by decide) rfl ?_
  have loop_4 : ∀ (n9 : Nat) (n kk : Int), (0 ≤ kk ∧ kk ≤ f 1) → (n = zsum (fun k => b2i (decide (sCby f k 0 = 0))) kk) → (f 1 - kk < (n9 : Int)) → Z p l e (({ frames := 4, cells := 0, slots := 0, locals := 92 } : Room)) s m args below meth c (MQ below (zQi g (fun z C' => C' = C ∧ z = sUnc f)) args s 0 0 (zA g)) g 3 0 0 (C) [(0, .ref (aD g 94)), (1, .int (iZ n)), (2, .int (iZ kk))] 4 [] := by
    intro n9
    induction n9 with
    | zero =>
      intro n kk hkk hn1 hm9
      exact absurd hm9 (by omega)
    | succ n9 ih9 =>
      intro n kk hkk hn1 hm_4
      have ih_4 := ih9
      clear ih9
      refine z_iload_n 5 K dX9_uncited_4 rfl rfl 2 rfl ?_
      refine z_aload_n 6 K dX9_uncited_5 rfl rfl 0 rfl ?_
      refine z_get 9 K hin_X9_uncited_X9 94 (by decide) hM rfl 0 (by decide) (by decide +kernel : Cond.fieldLink RX9 7 "BriefBuilderModel" "now" "[I" ∈ wsX9_uncited) (fun _ h9 => h9) rfl dX9_uncited_6 rfl ?_
      refine z_iconst 10 K dX9_uncited_9 rfl ?_
      refine z_iald (f := f) 11 K 95 (by decide) hN (by decide) (by decide) (by decide) dX9_uncited_10 rfl ?_
      have hr_10 := hw.rg 1
      refine z_icmp_ge (tgt := 40) 14 K dX9_uncited_11 rfl (by decide) (by omega) (by omega) (fun c_11 => ?_) (fun c_11 => ?_)
      · skip
        refine z_iload_n 41 K dX9_uncited_40 rfl rfl 1 rfl ?_
        exact z_iret K rfl dX9_uncited_41 ⟨rfl, by rw [hn1, show kk = f 1 by omega]; rfl⟩
      · skip
        refine z_iload_n 15 K dX9_uncited_14 rfl rfl 1 rfl ?_
        refine z_aload_n 16 K dX9_uncited_15 rfl rfl 0 rfl ?_
        refine z_get 19 K hin_X9_uncited_X9 94 (by decide) hM rfl 0 (by decide) (by decide +kernel : Cond.fieldLink RX9 7 "BriefBuilderModel" "now" "[I" ∈ wsX9_uncited) (fun _ h9 => h9) rfl dX9_uncited_16 rfl ?_
        refine z_iload_n 20 K dX9_uncited_19 rfl rfl 2 rfl ?_
        refine z_iconst 21 K dX9_uncited_20 rfl ?_
        refine z_vSi (As := [.ref (aD g 95), .int (iZ kk), .int (iZ 0)]) (rest := [.int (iZ n)]) 24 K (m_X9_citedBy l g _ 95 kk 0 f (by decide) hN hwr (by omega) (by omega)) (va_cwS 3 K.1.2.2.2.2 gX9_uncited_X9_citedBy rfl rfl rfl (by decide +kernel) ⟨Nat.le_of_ble_eq_true rfl, Nat.le_of_ble_eq_true rfl⟩) rfl (Nat.le_of_ble_eq_true rfl) dX9_uncited_21 rfl ⟨Nat.le_of_ble_eq_true rfl, Nat.le_of_ble_eq_true rfl⟩ rfl (fun z_1 C_2 hp_21 => ?_)
        refine z_C hp_21.1 ?_
        refine z_top (sCby f kk 0) hp_21.2 ?_
        have hcb := sCby_rng hwr kk 0
        refine z_if_ne (tgt := 31) 27 K dX9_uncited_24 rfl (by decide) (by omega) (fun c_24 => ?_) (fun c_24 => ?_)
        · skip
          refine z_iconst 32 K dX9_uncited_31 rfl ?_
          refine z_iadd 33 K dX9_uncited_32 rfl ?_
          refine z_top (n) (by omega) ?_
          refine z_istore_n (lv' := [(1, .int (iZ n)), (0, .ref (aD g 94)), (2, .int (iZ kk))]) 34 K dX9_uncited_33 rfl rfl (by decide) rfl ?_
          refine z_iinc (lv' := [(2, .int (iZ (kk + 1))), (1, .int (iZ n)), (0, .ref (aD g 94))]) 37 K dX9_uncited_34 rfl (kk + 1) rfl 2 rfl (by decide) rfl ?_
          refine z_goto (tgt := 4) K dX9_uncited_37 (by decide) ?_
          refine z_sub [2, 1, 0] rfl ?_
          exact ih_4 n (kk + 1) (by omega) (by rw [zsum_1 _ (by omega)]; first | (rw [b2i_1 c_24]; omega) | (rw [b2i_0 c_24]; omega)) (by omega)
        · skip
          refine z_iconst 28 K dX9_uncited_27 rfl ?_
          refine z_goto (tgt := 32) K dX9_uncited_28 (by decide) ?_
          refine z_iadd 33 K dX9_uncited_32 rfl ?_
          refine z_istore_n (lv' := [(1, .int (iZ (n + 1))), (0, .ref (aD g 94)), (2, .int (iZ kk))]) 34 K dX9_uncited_33 rfl rfl (by decide) rfl ?_
          refine z_iinc (lv' := [(2, .int (iZ (kk + 1))), (1, .int (iZ (n + 1))), (0, .ref (aD g 94))]) 37 K dX9_uncited_34 rfl (kk + 1) rfl 2 rfl (by decide) rfl ?_
          refine z_goto (tgt := 4) K dX9_uncited_37 (by decide) ?_
          refine z_sub [2, 1, 0] rfl ?_
          exact ih_4 (n + 1) (kk + 1) (by omega) (by rw [zsum_1 _ (by omega)]; first | (rw [b2i_1 c_24]; omega) | (rw [b2i_0 c_24]; omega)) (by omega)
  refine z_sub [2, 1, 0] rfl ?_
  exact loop_4 (Int.toNat (f 1 - 0) + 1) 0 0 (by omega) rfl (by omega)
set_option maxRecDepth 20000 in
theorem hin_X9_allPages_X9 : ∀ w ∈ wsX90, w ∈ wsX9_allPages := by decide +kernel
set_option maxHeartbeats 4000000 in
set_option maxRecDepth 100000 in
theorem m_X9_allPages (l : Launch) (g : zG) (C : Nat → va_E) (k : Int) (ty : Int) (th : Int) (pt : Int) (fl : Int) (to : Int) (f : Int → Int) (cap : Int) (hM : C 94 = .inr (9, [.ref (aD g 95), .ref (aD g 96), .ref (aD g 97), .int (iZ k), .ref (aD g 98), .int (iZ ty), .int (iZ th), .int (iZ pt), .int (iZ fl), .ref (aD g 99), .int (iZ to)])) (hN : C 95 = eI g 449 f) (hw : WF f cap) (hcap : cap ≤ 100000) : Met l yX9_allPages wsX9_allPages ({ frames := 1, cells := 0, slots := 0, locals := 21 } : Room) (zPre g C [.ref (aD g 94)]) (zQi g (fun z C' => C' = C ∧ z = sPgs f)) 0 0 (zA g) := by
  refine z_enter RX9 rfl (by decide) rfl (Nat.le_of_ble_eq_true rfl) ?_
  intro p e s m args below meth c K harg
  refine z_sub (lv' := [(0, .ref (aD g 94))]) [0] rfl ?_
  have hn := hw.n
  have hwr := hw.wr
  refine z_iconst 1 K dX9_allPages_0 rfl ?_
  refine z_istore_n (lv' := [(1, .int (iZ 0)), (0, .ref (aD g 94))]) 2 K dX9_allPages_1 rfl rfl (by decide) rfl ?_
  refine z_iconst 3 K dX9_allPages_2 rfl ?_
  refine z_istore_n (lv' := [(2, .int (iZ 0)), (1, .int (iZ 0)), (0, .ref (aD g 94))]) 4 K dX9_allPages_3 rfl rfl (by decide) rfl ?_
  have loop_4 : ∀ (n9 : Nat) (n kk : Int), (0 ≤ kk ∧ kk ≤ f 1) → (n = zsum (sPg f) kk) → (f 1 - kk < (n9 : Int)) → Z p l e (({ frames := 1, cells := 0, slots := 0, locals := 21 } : Room)) s m args below meth c (MQ below (zQi g (fun z C' => C' = C ∧ z = sPgs f)) args s 0 0 (zA g)) g 3 0 0 (C) [(0, .ref (aD g 94)), (1, .int (iZ n)), (2, .int (iZ kk))] 4 [] := by
    intro n9
    induction n9 with
    | zero =>
      intro n kk hkk hn1 hm9
      exact absurd hm9 (by omega)
    | succ n9 ih9 =>
      intro n kk hkk hn1 hm_4
      have ih_4 := ih9
      clear ih9
      refine z_iload_n 5 K dX9_allPages_4 rfl rfl 2 rfl ?_
      refine z_aload_n 6 K dX9_allPages_5 rfl rfl 0 rfl ?_
      refine z_get 9 K hin_X9_allPages_X9 94 (by decide) hM rfl 0 (by decide) (by decide +kernel : Cond.fieldLink RX9 7 "BriefBuilderModel" "now" "[I" ∈ wsX9_allPages) (fun _ h9 => h9) rfl dX9_allPages_6 rfl ?_
      refine z_iconst 10 K dX9_allPages_9 rfl ?_
      refine z_iald (f := f) 11 K 95 (by decide) hN (by decide) (by decide) (by decide) dX9_allPages_10 rfl ?_
      have hr_10 := hw.rg 1
      refine z_icmp_ge (tgt := 31) 14 K dX9_allPages_11 rfl (by decide) (by omega) (by omega) (fun c_11 => ?_) (fun c_11 => ?_)
      · skip
        refine z_iload_n 32 K dX9_allPages_31 rfl rfl 1 rfl ?_
        exact z_iret K rfl dX9_allPages_32 ⟨rfl, by rw [hn1, show kk = f 1 by omega]; rfl⟩
      · skip
        refine z_iload_n 15 K dX9_allPages_14 rfl rfl 1 rfl ?_
        refine z_aload_n 16 K dX9_allPages_15 rfl rfl 0 rfl ?_
        refine z_get 19 K hin_X9_allPages_X9 94 (by decide) hM rfl 0 (by decide) (by decide +kernel : Cond.fieldLink RX9 7 "BriefBuilderModel" "now" "[I" ∈ wsX9_allPages) (fun _ h9 => h9) rfl dX9_allPages_16 rfl ?_
        refine z_iload_n 20 K dX9_allPages_19 rfl rfl 2 rfl ?_
        refine z_vSi (As := [.ref (aD g 95), .int (iZ kk)]) (rest := [.int (iZ n)]) 23 K (m_X9_pagesOf l g _ 95 kk f (by decide) hN (by omega)) (va_cwS 2 K.1.2.2.2.2 gX9_allPages_X9_pagesOf rfl rfl rfl (by decide +kernel) ⟨Nat.le_of_ble_eq_true rfl, Nat.le_of_ble_eq_true rfl⟩) rfl (Nat.le_of_ble_eq_true rfl) dX9_allPages_20 rfl ⟨Nat.le_of_ble_eq_true rfl, Nat.le_of_ble_eq_true rfl⟩ rfl (fun z_1 C_2 hp_20 => ?_)
        refine z_C hp_20.1 ?_
        refine z_top (f (2 * kk + 4)) hp_20.2 ?_
        refine z_iadd 24 K dX9_allPages_23 rfl ?_
        refine z_top (f (2 * kk + 4) + n) (by omega) ?_
        refine z_istore_n (lv' := [(1, .int (iZ (f (2 * kk + 4) + n))), (0, .ref (aD g 94)), (2, .int (iZ kk))]) 25 K dX9_allPages_24 rfl rfl (by decide) rfl ?_
        refine z_iinc (lv' := [(2, .int (iZ (kk + 1))), (1, .int (iZ (f (2 * kk + 4) + n))), (0, .ref (aD g 94))]) 28 K dX9_allPages_25 rfl (kk + 1) rfl 2 rfl (by decide) rfl ?_
        refine z_goto (tgt := 4) K dX9_allPages_28 (by decide) ?_
        refine z_sub [2, 1, 0] rfl ?_
        exact ih_4 (f (2 * kk + 4) + n) (kk + 1) (by omega) (by rw [zsum_1 _ (by omega)]; show _ = _ + f (2 * kk + 4); omega) (by omega)
  refine z_sub [2, 1, 0] rfl ?_
  exact loop_4 (Int.toNat (f 1 - 0) + 1) 0 0 (by omega) rfl (by omega)
set_option maxRecDepth 20000 in
theorem hin_X9_allCites_X9 : ∀ w ∈ wsX90, w ∈ wsX9_allCites := by decide +kernel
set_option maxHeartbeats 4000000 in
set_option maxRecDepth 100000 in
theorem m_X9_allCites (l : Launch) (g : zG) (C : Nat → va_E) (k : Int) (ty : Int) (th : Int) (pt : Int) (fl : Int) (to : Int) (f : Int → Int) (cap : Int) (hM : C 94 = .inr (9, [.ref (aD g 95), .ref (aD g 96), .ref (aD g 97), .int (iZ k), .ref (aD g 98), .int (iZ ty), .int (iZ th), .int (iZ pt), .int (iZ fl), .ref (aD g 99), .int (iZ to)])) (hN : C 95 = eI g 449 f) (hw : WF f cap) (hcap : cap ≤ 100000) : Met l yX9_allCites wsX9_allCites ({ frames := 1, cells := 0, slots := 0, locals := 21 } : Room) (zPre g C [.ref (aD g 94)]) (zQi g (fun z C' => C' = C ∧ z = sCts f)) 0 0 (zA g) := by
  refine z_enter RX9 rfl (by decide) rfl (Nat.le_of_ble_eq_true rfl) ?_
  intro p e s m args below meth c K harg
  refine z_sub (lv' := [(0, .ref (aD g 94))]) [0] rfl ?_
  have hn := hw.n
  have hwr := hw.wr
  refine z_iconst 1 K dX9_allCites_0 rfl ?_
  refine z_istore_n (lv' := [(1, .int (iZ 0)), (0, .ref (aD g 94))]) 2 K dX9_allCites_1 rfl rfl (by decide) rfl ?_
  refine z_iconst 3 K dX9_allCites_2 rfl ?_
  refine z_istore_n (lv' := [(2, .int (iZ 0)), (1, .int (iZ 0)), (0, .ref (aD g 94))]) 4 K dX9_allCites_3 rfl rfl (by decide) rfl ?_
  have loop_4 : ∀ (n9 : Nat) (n kk : Int), (0 ≤ kk ∧ kk ≤ 12) → (n = zsum (fun a => f (32 * a + 65)) kk) → (12 - kk < (n9 : Int)) → Z p l e (({ frames := 1, cells := 0, slots := 0, locals := 21 } : Room)) s m args below meth c (MQ below (zQi g (fun z C' => C' = C ∧ z = sCts f)) args s 0 0 (zA g)) g 3 0 0 (C) [(0, .ref (aD g 94)), (1, .int (iZ n)), (2, .int (iZ kk))] 4 [] := by
    intro n9
    induction n9 with
    | zero =>
      intro n kk hkk hn1 hm9
      exact absurd hm9 (by omega)
    | succ n9 ih9 =>
      intro n kk hkk hn1 hm_4
      have ih_4 := ih9
      clear ih9
      refine z_iload_n 5 K dX9_allCites_4 rfl rfl 2 rfl ?_
      refine z_bipush 7 K dX9_allCites_5 rfl rfl ?_
      refine z_icmp_ge (tgt := 27) 10 K dX9_allCites_7 rfl (by decide) (by omega) (by decide) (fun c_7 => ?_) (fun c_7 => ?_)
      · skip
        refine z_iload_n 28 K dX9_allCites_27 rfl rfl 1 rfl ?_
        exact z_iret K rfl dX9_allCites_28 ⟨rfl, by rw [hn1, show kk = 12 by omega]; rfl⟩
      · skip
        refine z_iload_n 11 K dX9_allCites_10 rfl rfl 1 rfl ?_
        refine z_aload_n 12 K dX9_allCites_11 rfl rfl 0 rfl ?_
        refine z_get 15 K hin_X9_allCites_X9 94 (by decide) hM rfl 0 (by decide) (by decide +kernel : Cond.fieldLink RX9 7 "BriefBuilderModel" "now" "[I" ∈ wsX9_allCites) (fun _ h9 => h9) rfl dX9_allCites_12 rfl ?_
        refine z_iload_n 16 K dX9_allCites_15 rfl rfl 2 rfl ?_
        refine z_vSi (As := [.ref (aD g 95), .int (iZ kk)]) (rest := [.int (iZ n)]) 19 K (m_X9_cites l g _ 95 kk f (by decide) hN (by omega)) (va_cwS 2 K.1.2.2.2.2 gX9_allCites_X9_cites rfl rfl rfl (by decide +kernel) ⟨Nat.le_of_ble_eq_true rfl, Nat.le_of_ble_eq_true rfl⟩) rfl (Nat.le_of_ble_eq_true rfl) dX9_allCites_16 rfl ⟨Nat.le_of_ble_eq_true rfl, Nat.le_of_ble_eq_true rfl⟩ rfl (fun z_1 C_2 hp_16 => ?_)
        refine z_C hp_16.1 ?_
        refine z_top (f (32 * kk + 65)) hp_16.2 ?_
        refine z_iadd 20 K dX9_allCites_19 rfl ?_
        refine z_top (f (32 * kk + 65) + n) (by omega) ?_
        refine z_istore_n (lv' := [(1, .int (iZ (f (32 * kk + 65) + n))), (0, .ref (aD g 94)), (2, .int (iZ kk))]) 21 K dX9_allCites_20 rfl rfl (by decide) rfl ?_
        refine z_iinc (lv' := [(2, .int (iZ (kk + 1))), (1, .int (iZ (f (32 * kk + 65) + n))), (0, .ref (aD g 94))]) 24 K dX9_allCites_21 rfl (kk + 1) rfl 2 rfl (by decide) rfl ?_
        refine z_goto (tgt := 4) K dX9_allCites_24 (by decide) ?_
        refine z_sub [2, 1, 0] rfl ?_
        exact ih_4 (f (32 * kk + 65) + n) (kk + 1) (by omega) (by rw [zsum_1 _ (by omega)]; omega) (by omega)
  refine z_sub [2, 1, 0] rfl ?_
  exact loop_4 (Int.toNat (12 - 0) + 1) 0 0 (by omega) rfl (by omega)
set_option maxRecDepth 20000 in
theorem hin_X9_counted_X9 : ∀ w ∈ wsX90, w ∈ wsX9_counted := by decide +kernel
set_option maxHeartbeats 4000000 in
set_option maxRecDepth 100000 in
theorem m_X9_counted (l : Launch) (g : zG) (C : Nat → va_E) (w : Int) (k : Int) (ty : Int) (th : Int) (pt : Int) (fl : Int) (to : Int) (f : Int → Int) (cap : Int) (hM : C 94 = .inr (9, [.ref (aD g 95), .ref (aD g 96), .ref (aD g 97), .int (iZ k), .ref (aD g 98), .int (iZ ty), .int (iZ th), .int (iZ pt), .int (iZ fl), .ref (aD g 99), .int (iZ to)])) (hN : C 95 = eI g 449 f) (hw : WF f cap) (hcap : cap ≤ 100000) (hww : 0 ≤ w ∧ w ≤ 8) : Met l yX9_counted wsX9_counted ({ frames := 5, cells := 0, slots := 0, locals := 114 } : Room) (zPre g C [.ref (aD g 94), .int (iZ w)]) (zQi g (fun z C' => C' = C ∧ z = sCnt f k w)) 0 0 (zA g) := by
  refine z_enter RX9 rfl (by decide) rfl (Nat.le_of_ble_eq_true rfl) ?_
  intro p e s m args below meth c K harg
  refine z_sub (lv' := [(0, .ref (aD g 94)), (1, .int (iZ w))]) [0, 1] rfl ?_
  have hn := hw.n
  have hwr := hw.wr
  refine z_iload_n 1 K dX9_counted_0 rfl rfl 1 rfl ?_
  by_cases sw_1_0 : w = 0
  · skip
    refine z_top (0) sw_1_0 ?_
    refine z_tableIn (tgt := 48) K dX9_counted_1 (by decide) (by decide) (by decide) rfl (by decide) ?_
    refine z_aload_n 49 K dX9_counted_48 rfl rfl 0 rfl ?_
    refine z_get 52 K hin_X9_counted_X9 94 (by decide) hM rfl 0 (by decide) (by decide +kernel : Cond.fieldLink RX9 7 "BriefBuilderModel" "now" "[I" ∈ wsX9_counted) (fun _ h9 => h9) rfl dX9_counted_49 rfl ?_
    refine z_iconst 53 K dX9_counted_52 rfl ?_
    refine z_iald (f := f) 54 K 95 (by decide) hN (by decide) (by decide) (by decide) dX9_counted_53 rfl ?_
    have hr_53 := hw.rg 1
    exact z_iret K rfl dX9_counted_54 ⟨rfl, by unfold sCnt; rw [if_pos sw_1_0]⟩
  by_cases sw_1_1 : w = 1
  · skip
    refine z_top (1) sw_1_1 ?_
    refine z_tableIn (tgt := 55) K dX9_counted_1 (by decide) (by decide) (by decide) rfl (by decide) ?_
    refine z_aload_n 56 K dX9_counted_55 rfl rfl 0 rfl ?_
    refine z_vVi (As := []) (rest := []) 59 K 94 (by decide) hM rfl rfl (m_X9_allPages l g _ k ty th pt fl to f _ hM hN hw (by omega)) (cwV 0 K.1.2.2.2.2 gX9_counted_X9_allPages rfl rfl rfl (by decide +kernel) ⟨Nat.le_of_ble_eq_true rfl, Nat.le_of_ble_eq_true rfl⟩) rfl (Nat.le_of_ble_eq_true rfl) dX9_counted_56 rfl ⟨Nat.le_of_ble_eq_true rfl, Nat.le_of_ble_eq_true rfl⟩ rfl (fun z_1 C_2 hp_56 => ?_)
    refine z_C hp_56.1 ?_
    refine z_top (sPgs f) hp_56.2 ?_
    exact z_iret K rfl dX9_counted_59 ⟨rfl, by unfold sCnt; rw [if_neg sw_1_0]; rw [if_pos sw_1_1]⟩
  by_cases sw_1_2 : w = 2
  · skip
    refine z_top (2) sw_1_2 ?_
    refine z_tableIn (tgt := 60) K dX9_counted_1 (by decide) (by decide) (by decide) rfl (by decide) ?_
    refine z_aload_n 61 K dX9_counted_60 rfl rfl 0 rfl ?_
    refine z_get 64 K hin_X9_counted_X9 94 (by decide) hM rfl 0 (by decide) (by decide +kernel : Cond.fieldLink RX9 7 "BriefBuilderModel" "now" "[I" ∈ wsX9_counted) (fun _ h9 => h9) rfl dX9_counted_61 rfl ?_
    refine z_vSi (As := [.ref (aD g 95)]) (rest := []) 67 K (m_X9_binders l g _ 95 f (by decide) hN hwr) (va_cwS 1 K.1.2.2.2.2 gX9_counted_X9_binders rfl rfl rfl (by decide +kernel) ⟨Nat.le_of_ble_eq_true rfl, Nat.le_of_ble_eq_true rfl⟩) rfl (Nat.le_of_ble_eq_true rfl) dX9_counted_64 rfl ⟨Nat.le_of_ble_eq_true rfl, Nat.le_of_ble_eq_true rfl⟩ rfl (fun z_3 C_4 hp_64 => ?_)
    refine z_C hp_64.1 ?_
    refine z_top (zBnd (sPg f) (f 0) (f 1)) hp_64.2 ?_
    exact z_iret K rfl dX9_counted_67 ⟨rfl, by unfold sCnt; rw [if_neg sw_1_0]; rw [if_neg sw_1_1]; rw [if_pos sw_1_2] <;> rfl⟩
  by_cases sw_1_3 : w = 3
  · skip
    refine z_top (3) sw_1_3 ?_
    refine z_tableIn (tgt := 68) K dX9_counted_1 (by decide) (by decide) (by decide) rfl (by decide) ?_
    refine z_aload_n 69 K dX9_counted_68 rfl rfl 0 rfl ?_
    refine z_vVi (As := []) (rest := []) 72 K 94 (by decide) hM rfl rfl (m_X9_allCites l g _ k ty th pt fl to f _ hM hN hw (by omega)) (cwV 0 K.1.2.2.2.2 gX9_counted_X9_allCites rfl rfl rfl (by decide +kernel) ⟨Nat.le_of_ble_eq_true rfl, Nat.le_of_ble_eq_true rfl⟩) rfl (Nat.le_of_ble_eq_true rfl) dX9_counted_69 rfl ⟨Nat.le_of_ble_eq_true rfl, Nat.le_of_ble_eq_true rfl⟩ rfl (fun z_5 C_6 hp_69 => ?_)
    refine z_C hp_69.1 ?_
    refine z_top (sCts f) hp_69.2 ?_
    exact z_iret K rfl dX9_counted_72 ⟨rfl, by unfold sCnt; rw [if_neg sw_1_0]; rw [if_neg sw_1_1]; rw [if_neg sw_1_2]; rw [if_pos sw_1_3]⟩
  by_cases sw_1_4 : w = 4
  · skip
    refine z_top (4) sw_1_4 ?_
    refine z_tableIn (tgt := 73) K dX9_counted_1 (by decide) (by decide) (by decide) rfl (by decide) ?_
    refine z_aload_n 74 K dX9_counted_73 rfl rfl 0 rfl ?_
    refine z_get 77 K hin_X9_counted_X9 94 (by decide) hM rfl 0 (by decide) (by decide +kernel : Cond.fieldLink RX9 7 "BriefBuilderModel" "now" "[I" ∈ wsX9_counted) (fun _ h9 => h9) rfl dX9_counted_74 rfl ?_
    refine z_vSi (As := [.ref (aD g 95)]) (rest := []) 80 K (m_X9_allLost l g _ 95 f (by decide) hN hwr) (va_cwS 1 K.1.2.2.2.2 gX9_counted_X9_allLost rfl rfl rfl (by decide +kernel) ⟨Nat.le_of_ble_eq_true rfl, Nat.le_of_ble_eq_true rfl⟩) rfl (Nat.le_of_ble_eq_true rfl) dX9_counted_77 rfl ⟨Nat.le_of_ble_eq_true rfl, Nat.le_of_ble_eq_true rfl⟩ rfl (fun z_7 C_8 hp_77 => ?_)
    refine z_C hp_77.1 ?_
    refine z_top (sAllLost f) hp_77.2 ?_
    exact z_iret K rfl dX9_counted_80 ⟨rfl, by unfold sCnt; rw [if_neg sw_1_0]; rw [if_neg sw_1_1]; rw [if_neg sw_1_2]; rw [if_neg sw_1_3]; rw [if_pos sw_1_4]⟩
  by_cases sw_1_5 : w = 5
  · skip
    refine z_top (5) sw_1_5 ?_
    refine z_tableIn (tgt := 81) K dX9_counted_1 (by decide) (by decide) (by decide) rfl (by decide) ?_
    refine z_aload_n 82 K dX9_counted_81 rfl rfl 0 rfl ?_
    refine z_get 85 K hin_X9_counted_X9 94 (by decide) hM rfl 0 (by decide) (by decide +kernel : Cond.fieldLink RX9 7 "BriefBuilderModel" "now" "[I" ∈ wsX9_counted) (fun _ h9 => h9) rfl dX9_counted_82 rfl ?_
    refine z_vSi (As := [.ref (aD g 95)]) (rest := []) 88 K (m_X9_stale l g _ 95 f (by decide) hN hwr) (va_cwS 1 K.1.2.2.2.2 gX9_counted_X9_stale rfl rfl rfl (by decide +kernel) ⟨Nat.le_of_ble_eq_true rfl, Nat.le_of_ble_eq_true rfl⟩) rfl (Nat.le_of_ble_eq_true rfl) dX9_counted_85 rfl ⟨Nat.le_of_ble_eq_true rfl, Nat.le_of_ble_eq_true rfl⟩ rfl (fun z_9 C_10 hp_85 => ?_)
    refine z_C hp_85.1 ?_
    refine z_top (sStaleN f) hp_85.2 ?_
    exact z_iret K rfl dX9_counted_88 ⟨rfl, by unfold sCnt; rw [if_neg sw_1_0]; rw [if_neg sw_1_1]; rw [if_neg sw_1_2]; rw [if_neg sw_1_3]; rw [if_neg sw_1_4]; rw [if_pos sw_1_5]⟩
  by_cases sw_1_6 : w = 6
  · skip
    refine z_top (6) sw_1_6 ?_
    refine z_tableIn (tgt := 89) K dX9_counted_1 (by decide) (by decide) (by decide) rfl (by decide) ?_
    refine z_aload_n 90 K dX9_counted_89 rfl rfl 0 rfl ?_
    refine z_vVi (As := []) (rest := []) 93 K 94 (by decide) hM rfl rfl (m_X9_uncited l g _ k ty th pt fl to f _ hM hN hw (by omega)) (cwV 0 K.1.2.2.2.2 gX9_counted_X9_uncited rfl rfl rfl (by decide +kernel) ⟨Nat.le_of_ble_eq_true rfl, Nat.le_of_ble_eq_true rfl⟩) rfl (Nat.le_of_ble_eq_true rfl) dX9_counted_90 rfl ⟨Nat.le_of_ble_eq_true rfl, Nat.le_of_ble_eq_true rfl⟩ rfl (fun z_11 C_12 hp_90 => ?_)
    refine z_C hp_90.1 ?_
    refine z_top (sUnc f) hp_90.2 ?_
    exact z_iret K rfl dX9_counted_93 ⟨rfl, by unfold sCnt; rw [if_neg sw_1_0]; rw [if_neg sw_1_1]; rw [if_neg sw_1_2]; rw [if_neg sw_1_3]; rw [if_neg sw_1_4]; rw [if_neg sw_1_5]; rw [if_pos sw_1_6]⟩
  by_cases sw_1_7 : w = 7
  · skip
    refine z_top (7) sw_1_7 ?_
    refine z_tableIn (tgt := 94) K dX9_counted_1 (by decide) (by decide) (by decide) rfl (by decide) ?_
    refine z_aload_n 95 K dX9_counted_94 rfl rfl 0 rfl ?_
    refine z_get 98 K hin_X9_counted_X9 94 (by decide) hM rfl 0 (by decide) (by decide +kernel : Cond.fieldLink RX9 7 "BriefBuilderModel" "now" "[I" ∈ wsX9_counted) (fun _ h9 => h9) rfl dX9_counted_95 rfl ?_
    refine z_iconst 99 K dX9_counted_98 rfl ?_
    refine z_iald (f := f) 100 K 95 (by decide) hN (by decide) (by decide) (by decide) dX9_counted_99 rfl ?_
    have hr_99 := hw.rg 0
    exact z_iret K rfl dX9_counted_100 ⟨rfl, by unfold sCnt; rw [if_neg sw_1_0]; rw [if_neg sw_1_1]; rw [if_neg sw_1_2]; rw [if_neg sw_1_3]; rw [if_neg sw_1_4]; rw [if_neg sw_1_5]; rw [if_neg sw_1_6]; rw [if_pos sw_1_7]⟩
  refine z_tableOut (tgt := 101) K dX9_counted_1 (by omega) (by omega) (by decide) ?_
  refine z_aload_n 102 K dX9_counted_101 rfl rfl 0 rfl ?_
  refine z_get 105 K hin_X9_counted_X9 94 (by decide) hM rfl 3 (by decide) (by decide +kernel : Cond.fieldLink RX9 33 "BriefBuilderModel" "kept" "I" ∈ wsX9_counted) (fun _ h9 => h9) rfl dX9_counted_102 rfl ?_
  exact z_iret K rfl dX9_counted_105 ⟨rfl, by unfold sCnt; rw [if_neg sw_1_0]; rw [if_neg sw_1_1]; rw [if_neg sw_1_2]; rw [if_neg sw_1_3]; rw [if_neg sw_1_4]; rw [if_neg sw_1_5]; rw [if_neg sw_1_6]; rw [if_neg sw_1_7]⟩
set_option maxRecDepth 20000 in
theorem hin_X9_byInserting_X9 : ∀ w ∈ wsX90, w ∈ wsX9_byInserting := by decide +kernel
set_option maxHeartbeats 4000000 in
set_option maxRecDepth 100000 in
theorem m_X9_byInserting (l : Launch) (g : zG) (C : Nat → va_E) (p0 : Int) (y : Int) (w : Int) (k : Int) (ty : Int) (th : Int) (pt : Int) (fl : Int) (to : Int) (f : Int → Int) (ft : Int → Int) (cap : Int) (hM : C 94 = .inr (9, [.ref (aD g 95), .ref (aD g 96), .ref (aD g 97), .int (iZ k), .ref (aD g 98), .int (iZ ty), .int (iZ th), .int (iZ pt), .int (iZ fl), .ref (aD g 99), .int (iZ to)])) (hN : C 95 = eI g 449 f) (hT : C 96 = eI g 449 ft) (hw : WF f cap) (hcap : cap ≤ 100000) (hp : 0 ≤ p0 ∧ p0 ≤ f 1) (hy : 1 ≤ y ∧ y ≤ 60) (hww : 0 ≤ w ∧ w ≤ 1) : Met l yX9_byInserting wsX9_byInserting ({ frames := 5, cells := 0, slots := 0, locals := 114 } : Room) (zPre g C [.ref (aD g 94), .int (iZ p0), .int (iZ y), .int (iZ w)]) (zQi g (fun z C' => ∃ gt : Int → Int, C' = va_up C 96 (eI g 449 gt) ∧ z = sIns f p0 y w)) 0 0 (zA g) := by
  refine z_enter RX9 rfl (by decide) rfl (Nat.le_of_ble_eq_true rfl) ?_
  intro p e s m args below meth c K harg
  refine z_sub (lv' := [(0, .ref (aD g 94)), (1, .int (iZ p0)), (2, .int (iZ y)), (3, .int (iZ w))]) [0, 1, 2, 3] rfl ?_
  have hn := hw.n
  have hwr := hw.wr
  refine z_aload_n 1 K dX9_byInserting_0 rfl rfl 0 rfl ?_
  refine z_get 4 K hin_X9_byInserting_X9 94 (by decide) hM rfl 0 (by decide) (by decide +kernel : Cond.fieldLink RX9 7 "BriefBuilderModel" "now" "[I" ∈ wsX9_byInserting) (fun _ h9 => h9) rfl dX9_byInserting_1 rfl ?_
  refine z_iconst 5 K dX9_byInserting_4 rfl ?_
  refine z_aload_n 6 K dX9_byInserting_5 rfl rfl 0 rfl ?_
  refine z_get 9 K hin_X9_byInserting_X9 94 (by decide) hM rfl 1 (by decide) (by decide +kernel : Cond.fieldLink RX9 13 "BriefBuilderModel" "then" "[I" ∈ wsX9_byInserting) (fun _ h9 => h9) rfl dX9_byInserting_6 rfl ?_
  refine z_iconst 10 K dX9_byInserting_9 rfl ?_
  refine z_vSv (As := [.ref (aD g 95), .int (iZ 0), .ref (aD g 96), .int (iZ 0)]) (rest := []) 13 K (m_X9_copies l g _ 95 0 96 0 f ft 449 449 (by decide) hN (by decide) hT (by decide) (by omega) (by omega)) (va_cwS 4 K.1.2.2.2.2 gX9_byInserting_X9_copies rfl rfl rfl (by decide +kernel) ⟨Nat.le_of_ble_eq_true rfl, Nat.le_of_ble_eq_true rfl⟩) rfl (Nat.le_of_ble_eq_true rfl) dX9_byInserting_10 rfl ⟨Nat.le_of_ble_eq_true rfl, Nat.le_of_ble_eq_true rfl⟩ rfl (fun C_2 hp_10 => ?_)
  refine z_C hp_10 ?_
  refine z_ag f (fun j h0 h1 => by simp only [zcpy]; rw [if_pos (by omega)]; congr 1; omega) ?_
  refine z_aload_n 14 K dX9_byInserting_13 rfl rfl 0 rfl ?_
  refine z_get 17 K hin_X9_byInserting_X9 94 (by decide) ((va_up_ne _ _ (by decide)).trans hM) rfl 1 (by decide) (by decide +kernel : Cond.fieldLink RX9 13 "BriefBuilderModel" "then" "[I" ∈ wsX9_byInserting) (fun _ h9 => h9) rfl dX9_byInserting_14 rfl ?_
  refine z_iload_n 18 K dX9_byInserting_17 rfl rfl 1 rfl ?_
  refine z_iload_n 19 K dX9_byInserting_18 rfl rfl 2 rfl ?_
  refine z_vSv (As := [.ref (aD g 96), .int (iZ p0), .int (iZ y)]) (rest := []) 22 K (m_X9_comes l g _ 96 p0 y f (by decide) (va_up_eq _ 96 _) (by omega) (by omega)) (va_cwS 3 K.1.2.2.2.2 gX9_byInserting_X9_comes rfl rfl rfl (by decide +kernel) ⟨Nat.le_of_ble_eq_true rfl, Nat.le_of_ble_eq_true rfl⟩) rfl (Nat.le_of_ble_eq_true rfl) dX9_byInserting_19 rfl ⟨Nat.le_of_ble_eq_true rfl, Nat.le_of_ble_eq_true rfl⟩ rfl (fun C_4 hp_19 => ?_)
  refine z_C hp_19 ?_
  refine z_C (va_uu _ _ _ _) ?_
  have hwc := wR_come hw hcap hp hy
  refine z_iload_n 23 K dX9_byInserting_22 rfl rfl 3 rfl ?_
  refine z_if_ne (tgt := 36) 26 K dX9_byInserting_23 rfl (by decide) (by omega) (fun c_23 => ?_) (fun c_23 => ?_)
  · skip
    refine z_aload_n 37 K dX9_byInserting_36 rfl rfl 0 rfl ?_
    refine z_get 40 K hin_X9_byInserting_X9 94 (by decide) ((va_up_ne _ _ (by decide)).trans hM) rfl 1 (by decide) (by decide +kernel : Cond.fieldLink RX9 13 "BriefBuilderModel" "then" "[I" ∈ wsX9_byInserting) (fun _ h9 => h9) rfl dX9_byInserting_37 rfl ?_
    refine z_vSi (As := [.ref (aD g 96)]) (rest := []) 43 K (m_X9_binders l g _ 96 (mCome f p0 y) (by decide) (va_up_eq _ 96 _) hwc) (va_cwS 1 K.1.2.2.2.2 gX9_byInserting_X9_binders rfl rfl rfl (by decide +kernel) ⟨Nat.le_of_ble_eq_true rfl, Nat.le_of_ble_eq_true rfl⟩) rfl (Nat.le_of_ble_eq_true rfl) dX9_byInserting_40 rfl ⟨Nat.le_of_ble_eq_true rfl, Nat.le_of_ble_eq_true rfl⟩ rfl (fun z_5 C_6 hp_40 => ?_)
    refine z_C hp_40.1 ?_
    refine z_top (zBnd (sPg (mCome f p0 y)) ((mCome f p0 y) 0) ((mCome f p0 y) 1)) hp_40.2 ?_
    exact z_iret K rfl dX9_byInserting_43 ⟨mCome f p0 y, rfl, by unfold sIns; first | rw [if_pos c_23] | (rw [if_neg c_23]; rfl)⟩
  · skip
    refine z_aload_n 27 K dX9_byInserting_26 rfl rfl 0 rfl ?_
    refine z_get 30 K hin_X9_byInserting_X9 94 (by decide) ((va_up_ne _ _ (by decide)).trans hM) rfl 1 (by decide) (by decide +kernel : Cond.fieldLink RX9 13 "BriefBuilderModel" "then" "[I" ∈ wsX9_byInserting) (fun _ h9 => h9) rfl dX9_byInserting_27 rfl ?_
    refine z_vSi (As := [.ref (aD g 96)]) (rest := []) 33 K (m_X9_stale l g _ 96 (mCome f p0 y) (by decide) (va_up_eq _ 96 _) hwc) (va_cwS 1 K.1.2.2.2.2 gX9_byInserting_X9_stale rfl rfl rfl (by decide +kernel) ⟨Nat.le_of_ble_eq_true rfl, Nat.le_of_ble_eq_true rfl⟩) rfl (Nat.le_of_ble_eq_true rfl) dX9_byInserting_30 rfl ⟨Nat.le_of_ble_eq_true rfl, Nat.le_of_ble_eq_true rfl⟩ rfl (fun z_7 C_8 hp_30 => ?_)
    refine z_C hp_30.1 ?_
    refine z_top (sStaleN (mCome f p0 y)) hp_30.2 ?_
    refine z_goto (tgt := 43) K dX9_byInserting_33 (by decide) ?_
    exact z_iret K rfl dX9_byInserting_43 ⟨mCome f p0 y, rfl, by unfold sIns; first | rw [if_pos c_23] | (rw [if_neg c_23]; rfl)⟩
set_option maxRecDepth 20000 in
theorem hin_X9_byDropping_X9 : ∀ w ∈ wsX90, w ∈ wsX9_byDropping := by decide +kernel
set_option maxHeartbeats 4000000 in
set_option maxRecDepth 100000 in
theorem m_X9_byDropping (l : Launch) (g : zG) (C : Nat → va_E) (p0 : Int) (w : Int) (k : Int) (ty : Int) (th : Int) (pt : Int) (fl : Int) (to : Int) (f : Int → Int) (ft : Int → Int) (cap : Int) (hM : C 94 = .inr (9, [.ref (aD g 95), .ref (aD g 96), .ref (aD g 97), .int (iZ k), .ref (aD g 98), .int (iZ ty), .int (iZ th), .int (iZ pt), .int (iZ fl), .ref (aD g 99), .int (iZ to)])) (hN : C 95 = eI g 449 f) (hT : C 96 = eI g 449 ft) (hw : WF f cap) (hcap : cap ≤ 100000) (hp : 0 ≤ p0 ∧ p0 < f 1) (hww : 0 ≤ w ∧ w ≤ 1) : Met l yX9_byDropping wsX9_byDropping ({ frames := 5, cells := 0, slots := 0, locals := 114 } : Room) (zPre g C [.ref (aD g 94), .int (iZ p0), .int (iZ w)]) (zQi g (fun z C' => ∃ gt : Int → Int, C' = va_up C 96 (eI g 449 gt) ∧ z = sDrp f p0 w)) 0 0 (zA g) := by
  refine z_enter RX9 rfl (by decide) rfl (Nat.le_of_ble_eq_true rfl) ?_
  intro p e s m args below meth c K harg
  refine z_sub (lv' := [(0, .ref (aD g 94)), (1, .int (iZ p0)), (2, .int (iZ w))]) [0, 1, 2] rfl ?_
  have hn := hw.n
  have hwr := hw.wr
  refine z_aload_n 1 K dX9_byDropping_0 rfl rfl 0 rfl ?_
  refine z_get 4 K hin_X9_byDropping_X9 94 (by decide) hM rfl 0 (by decide) (by decide +kernel : Cond.fieldLink RX9 7 "BriefBuilderModel" "now" "[I" ∈ wsX9_byDropping) (fun _ h9 => h9) rfl dX9_byDropping_1 rfl ?_
  refine z_iconst 5 K dX9_byDropping_4 rfl ?_
  refine z_aload_n 6 K dX9_byDropping_5 rfl rfl 0 rfl ?_
  refine z_get 9 K hin_X9_byDropping_X9 94 (by decide) hM rfl 1 (by decide) (by decide +kernel : Cond.fieldLink RX9 13 "BriefBuilderModel" "then" "[I" ∈ wsX9_byDropping) (fun _ h9 => h9) rfl dX9_byDropping_6 rfl ?_
  refine z_iconst 10 K dX9_byDropping_9 rfl ?_
  refine z_vSv (As := [.ref (aD g 95), .int (iZ 0), .ref (aD g 96), .int (iZ 0)]) (rest := []) 13 K (m_X9_copies l g _ 95 0 96 0 f ft 449 449 (by decide) hN (by decide) hT (by decide) (by omega) (by omega)) (va_cwS 4 K.1.2.2.2.2 gX9_byDropping_X9_copies rfl rfl rfl (by decide +kernel) ⟨Nat.le_of_ble_eq_true rfl, Nat.le_of_ble_eq_true rfl⟩) rfl (Nat.le_of_ble_eq_true rfl) dX9_byDropping_10 rfl ⟨Nat.le_of_ble_eq_true rfl, Nat.le_of_ble_eq_true rfl⟩ rfl (fun C_2 hp_10 => ?_)
  refine z_C hp_10 ?_
  refine z_ag f (fun j h0 h1 => by simp only [zcpy]; rw [if_pos (by omega)]; congr 1; omega) ?_
  refine z_aload_n 14 K dX9_byDropping_13 rfl rfl 0 rfl ?_
  refine z_get 17 K hin_X9_byDropping_X9 94 (by decide) ((va_up_ne _ _ (by decide)).trans hM) rfl 1 (by decide) (by decide +kernel : Cond.fieldLink RX9 13 "BriefBuilderModel" "then" "[I" ∈ wsX9_byDropping) (fun _ h9 => h9) rfl dX9_byDropping_14 rfl ?_
  refine z_iload_n 18 K dX9_byDropping_17 rfl rfl 1 rfl ?_
  refine z_vSv (As := [.ref (aD g 96), .int (iZ p0)]) (rest := []) 21 K (m_X9_goesOut l g _ 96 p0 f (by decide) (va_up_eq _ 96 _) (by omega) (by omega)) (va_cwS 2 K.1.2.2.2.2 gX9_byDropping_X9_goesOut rfl rfl rfl (by decide +kernel) ⟨Nat.le_of_ble_eq_true rfl, Nat.le_of_ble_eq_true rfl⟩) rfl (Nat.le_of_ble_eq_true rfl) dX9_byDropping_18 rfl ⟨Nat.le_of_ble_eq_true rfl, Nat.le_of_ble_eq_true rfl⟩ rfl (fun C_4 hp_18 => ?_)
  refine z_C hp_18 ?_
  refine z_C (va_uu _ _ _ _) ?_
  have hwc := mOut_wr hwr hp
  refine z_iload_n 22 K dX9_byDropping_21 rfl rfl 2 rfl ?_
  refine z_if_ne (tgt := 43) 25 K dX9_byDropping_22 rfl (by decide) (by omega) (fun c_22 => ?_) (fun c_22 => ?_)
  · skip
    refine z_aload_n 44 K dX9_byDropping_43 rfl rfl 0 rfl ?_
    refine z_get 47 K hin_X9_byDropping_X9 94 (by decide) ((va_up_ne _ _ (by decide)).trans hM) rfl 1 (by decide) (by decide +kernel : Cond.fieldLink RX9 13 "BriefBuilderModel" "then" "[I" ∈ wsX9_byDropping) (fun _ h9 => h9) rfl dX9_byDropping_44 rfl ?_
    refine z_vSi (As := [.ref (aD g 96)]) (rest := []) 50 K (m_X9_stale l g _ 96 (mOut f p0) (by decide) (va_up_eq _ 96 _) hwc) (va_cwS 1 K.1.2.2.2.2 gX9_byDropping_X9_stale rfl rfl rfl (by decide +kernel) ⟨Nat.le_of_ble_eq_true rfl, Nat.le_of_ble_eq_true rfl⟩) rfl (Nat.le_of_ble_eq_true rfl) dX9_byDropping_47 rfl ⟨Nat.le_of_ble_eq_true rfl, Nat.le_of_ble_eq_true rfl⟩ rfl (fun z_5 C_6 hp_47 => ?_)
    refine z_C hp_47.1 ?_
    refine z_top (sStaleN (mOut f p0)) hp_47.2 ?_
    exact z_iret K rfl dX9_byDropping_50 ⟨mOut f p0, rfl, by unfold sDrp; first | rw [if_pos c_22] | rw [if_neg c_22]⟩
  · skip
    refine z_aload_n 26 K dX9_byDropping_25 rfl rfl 0 rfl ?_
    refine z_get 29 K hin_X9_byDropping_X9 94 (by decide) ((va_up_ne _ _ (by decide)).trans hM) rfl 1 (by decide) (by decide +kernel : Cond.fieldLink RX9 13 "BriefBuilderModel" "then" "[I" ∈ wsX9_byDropping) (fun _ h9 => h9) rfl dX9_byDropping_26 rfl ?_
    refine z_vSi (As := [.ref (aD g 96)]) (rest := []) 32 K (m_X9_allLost l g _ 96 (mOut f p0) (by decide) (va_up_eq _ 96 _) hwc) (va_cwS 1 K.1.2.2.2.2 gX9_byDropping_X9_allLost rfl rfl rfl (by decide +kernel) ⟨Nat.le_of_ble_eq_true rfl, Nat.le_of_ble_eq_true rfl⟩) rfl (Nat.le_of_ble_eq_true rfl) dX9_byDropping_29 rfl ⟨Nat.le_of_ble_eq_true rfl, Nat.le_of_ble_eq_true rfl⟩ rfl (fun z_7 C_8 hp_29 => ?_)
    refine z_C hp_29.1 ?_
    refine z_top (sAllLost (mOut f p0)) hp_29.2 ?_
    refine z_aload_n 33 K dX9_byDropping_32 rfl rfl 0 rfl ?_
    refine z_get 36 K hin_X9_byDropping_X9 94 (by decide) ((va_up_ne _ _ (by decide)).trans hM) rfl 0 (by decide) (by decide +kernel : Cond.fieldLink RX9 7 "BriefBuilderModel" "now" "[I" ∈ wsX9_byDropping) (fun _ h9 => h9) rfl dX9_byDropping_33 rfl ?_
    refine z_vSi (As := [.ref (aD g 95)]) (rest := [.int (iZ (sAllLost (mOut f p0)))]) 39 K (m_X9_allLost l g _ 95 f (by decide) ((va_up_ne _ _ (by decide)).trans hN) hwr) (va_cwS 1 K.1.2.2.2.2 gX9_byDropping_X9_allLost rfl rfl rfl (by decide +kernel) ⟨Nat.le_of_ble_eq_true rfl, Nat.le_of_ble_eq_true rfl⟩) rfl (Nat.le_of_ble_eq_true rfl) dX9_byDropping_36 rfl ⟨Nat.le_of_ble_eq_true rfl, Nat.le_of_ble_eq_true rfl⟩ rfl (fun z_9 C_10 hp_36 => ?_)
    refine z_C hp_36.1 ?_
    refine z_top (sAllLost f) hp_36.2 ?_
    refine z_isub 40 K dX9_byDropping_39 rfl ?_
    refine z_goto (tgt := 50) K dX9_byDropping_40 (by decide) ?_
    exact z_iret K rfl dX9_byDropping_50 ⟨mOut f p0, rfl, by unfold sDrp; first | rw [if_pos c_22] | rw [if_neg c_22]⟩
set_option maxRecDepth 20000 in
theorem hin_X9_best_X9 : ∀ w ∈ wsX90, w ∈ wsX9_best := by decide +kernel
set_option maxHeartbeats 4000000 in
set_option maxRecDepth 100000 in
theorem m_X9_best (l : Launch) (g : zG) (C : Nat → va_E) (p0 : Int) (k : Int) (ty : Int) (th : Int) (pt : Int) (fl : Int) (to : Int) (f : Int → Int) (ft : Int → Int) (cap : Int) (hM : C 94 = .inr (9, [.ref (aD g 95), .ref (aD g 96), .ref (aD g 97), .int (iZ k), .ref (aD g 98), .int (iZ ty), .int (iZ th), .int (iZ pt), .int (iZ fl), .ref (aD g 99), .int (iZ to)])) (hN : C 95 = eI g 449 f) (hT : C 96 = eI g 449 ft) (hw : WF f cap) (hcap : cap ≤ 100000) (hp : 0 ≤ p0 ∧ p0 < f 1) : Met l yX9_best wsX9_best ({ frames := 5, cells := 0, slots := 0, locals := 114 } : Room) (zPre g C [.ref (aD g 94), .int (iZ p0)]) (zQi g (fun z C' => ∃ gt : Int → Int, C' = va_up C 96 (eI g 449 gt) ∧ z = sBest f p0)) 0 0 (zA g) := by
  refine z_enter RX9 rfl (by decide) rfl (Nat.le_of_ble_eq_true rfl) ?_
  intro p e s m args below meth c K harg
  refine z_sub (lv' := [(0, .ref (aD g 94)), (1, .int (iZ p0))]) [0, 1] rfl ?_
  have hn := hw.n
  have hwr := hw.wr
  refine z_iconst 1 K dX9_best_0 rfl ?_
  refine z_istore_n (lv' := [(2, .int (iZ (-1))), (0, .ref (aD g 94)), (1, .int (iZ p0))]) 2 K dX9_best_1 rfl rfl (by decide) rfl ?_
  refine z_iconst 3 K dX9_best_2 rfl ?_
  refine z_istore_n (lv' := [(3, .int (iZ 0)), (2, .int (iZ (-1))), (0, .ref (aD g 94)), (1, .int (iZ p0))]) 4 K dX9_best_3 rfl rfl (by decide) rfl ?_
  refine z_iconst 5 K dX9_best_4 rfl ?_
  refine z_istore (lv' := [(4, .int (iZ 0)), (3, .int (iZ 0)), (2, .int (iZ (-1))), (0, .ref (aD g 94)), (1, .int (iZ p0))]) 7 K dX9_best_5 rfl (by decide) rfl ?_
  have loop_7 : ∀ (n9 : Nat) (gt : Int → Int) (fo le t : Int), (0 ≤ t ∧ t ≤ f 1) → (fo = zarg (fun t => sScore f p0 t) t) → (le = if fo = -1 then 0 else sScore f p0 fo) → (0 ≤ le ∧ le ≤ 1300) → (f 1 - t < (n9 : Int)) → Z p l e (({ frames := 5, cells := 0, slots := 0, locals := 114 } : Room)) s m args below meth c (MQ below (zQi g (fun z C' => ∃ gt : Int → Int, C' = va_up C 96 (eI g 449 gt) ∧ z = sBest f p0)) args s 0 0 (zA g)) g 6 0 0 (va_up C 96 (eI g 449 gt)) [(0, .ref (aD g 94)), (1, .int (iZ p0)), (2, .int (iZ fo)), (3, .int (iZ le)), (4, .int (iZ t))] 7 [] := by
    intro n9
    induction n9 with
    | zero =>
      intro gt fo le t ht hfo hle hlr hm9
      exact absurd hm9 (by omega)
    | succ n9 ih9 =>
      intro gt fo le t ht hfo hle hlr hm_7
      have ih_7 := ih9
      clear ih9
      refine z_iload 9 K dX9_best_7 rfl 4 rfl ?_
      refine z_aload_n 10 K dX9_best_9 rfl rfl 0 rfl ?_
      refine z_get 13 K hin_X9_best_X9 94 (by decide) ((va_up_ne _ _ (by decide)).trans hM) rfl 0 (by decide) (by decide +kernel : Cond.fieldLink RX9 7 "BriefBuilderModel" "now" "[I" ∈ wsX9_best) (fun _ h9 => h9) rfl dX9_best_10 rfl ?_
      refine z_iconst 14 K dX9_best_13 rfl ?_
      refine z_iald (f := f) 15 K 95 (by decide) ((va_up_ne _ _ (by decide)).trans hN) (by decide) (by decide) (by decide) dX9_best_14 rfl ?_
      have hr_14 := hw.rg 1
      refine z_icmp_ge (tgt := 99) 18 K dX9_best_15 rfl (by decide) (by omega) (by omega) (fun c_15 => ?_) (fun c_15 => ?_)
      · skip
        refine z_iload_n 100 K dX9_best_99 rfl rfl 2 rfl ?_
        exact z_iret K rfl dX9_best_100 ⟨gt, rfl, by rw [hfo, show t = f 1 by omega]; rfl⟩
      · skip
        refine z_aload_n 19 K dX9_best_18 rfl rfl 0 rfl ?_
        refine z_get 22 K hin_X9_best_X9 94 (by decide) ((va_up_ne _ _ (by decide)).trans hM) rfl 0 (by decide) (by decide +kernel : Cond.fieldLink RX9 7 "BriefBuilderModel" "now" "[I" ∈ wsX9_best) (fun _ h9 => h9) rfl dX9_best_19 rfl ?_
        refine z_iconst 23 K dX9_best_22 rfl ?_
        refine z_aload_n 24 K dX9_best_23 rfl rfl 0 rfl ?_
        refine z_get 27 K hin_X9_best_X9 94 (by decide) ((va_up_ne _ _ (by decide)).trans hM) rfl 1 (by decide) (by decide +kernel : Cond.fieldLink RX9 13 "BriefBuilderModel" "then" "[I" ∈ wsX9_best) (fun _ h9 => h9) rfl dX9_best_24 rfl ?_
        refine z_iconst 28 K dX9_best_27 rfl ?_
        refine z_vSv (As := [.ref (aD g 95), .int (iZ 0), .ref (aD g 96), .int (iZ 0)]) (rest := []) 31 K (m_X9_copies l g _ 95 0 96 0 f gt 449 449 (by decide) ((va_up_ne _ _ (by decide)).trans hN) (by decide) (va_up_eq _ 96 _) (by decide) (by omega) (by omega)) (va_cwS 4 K.1.2.2.2.2 gX9_best_X9_copies rfl rfl rfl (by decide +kernel) ⟨Nat.le_of_ble_eq_true rfl, Nat.le_of_ble_eq_true rfl⟩) rfl (Nat.le_of_ble_eq_true rfl) dX9_best_28 rfl ⟨Nat.le_of_ble_eq_true rfl, Nat.le_of_ble_eq_true rfl⟩ rfl (fun C_2 hp_28 => ?_)
        refine z_C hp_28 ?_
        refine z_C (va_uu _ _ _ _) ?_
        refine z_ag f (fun j h0 h1 => by simp only [zcpy]; rw [if_pos (by omega)]; congr 1; omega) ?_
        refine z_aload_n 32 K dX9_best_31 rfl rfl 0 rfl ?_
        refine z_get 35 K hin_X9_best_X9 94 (by decide) ((va_up_ne _ _ (by decide)).trans hM) rfl 1 (by decide) (by decide +kernel : Cond.fieldLink RX9 13 "BriefBuilderModel" "then" "[I" ∈ wsX9_best) (fun _ h9 => h9) rfl dX9_best_32 rfl ?_
        refine z_iload_n 36 K dX9_best_35 rfl rfl 1 rfl ?_
        refine z_iload 38 K dX9_best_36 rfl 4 rfl ?_
        refine z_vSi (As := [.ref (aD g 96), .int (iZ p0), .int (iZ t)]) (rest := []) 41 K (m_X9_moves l g _ 96 p0 t f (by decide) (va_up_eq _ 96 _) (by omega) (by omega) (by omega)) (va_cwS 3 K.1.2.2.2.2 gX9_best_X9_moves rfl rfl rfl (by decide +kernel) ⟨Nat.le_of_ble_eq_true rfl, Nat.le_of_ble_eq_true rfl⟩) rfl (Nat.le_of_ble_eq_true rfl) dX9_best_38 rfl ⟨Nat.le_of_ble_eq_true rfl, Nat.le_of_ble_eq_true rfl⟩ rfl (fun z_3 C_4 hp_38 => ?_)
        refine z_C hp_38.1 ?_
        refine z_top (f (2 * p0 + 3)) hp_38.2 ?_
        refine z_C (va_uu _ _ _ _) ?_
        have hwc := wR_move (t := t) hw hp (by omega)
        have hs1 := sStaleN_rng (mMove f p0 t)
        have hs2 := sBds_rng hwc
        refine z_pop 42 K dX9_best_41 rfl rfl ?_
        refine z_bipush 44 K dX9_best_42 rfl rfl ?_
        refine z_aload_n 45 K dX9_best_44 rfl rfl 0 rfl ?_
        refine z_get 48 K hin_X9_best_X9 94 (by decide) ((va_up_ne _ _ (by decide)).trans hM) rfl 1 (by decide) (by decide +kernel : Cond.fieldLink RX9 13 "BriefBuilderModel" "then" "[I" ∈ wsX9_best) (fun _ h9 => h9) rfl dX9_best_45 rfl ?_
        refine z_vSi (As := [.ref (aD g 96)]) (rest := [.int (iZ 100)]) 51 K (m_X9_stale l g _ 96 (mMove f p0 t) (by decide) (va_up_eq _ 96 _) hwc) (va_cwS 1 K.1.2.2.2.2 gX9_best_X9_stale rfl rfl rfl (by decide +kernel) ⟨Nat.le_of_ble_eq_true rfl, Nat.le_of_ble_eq_true rfl⟩) rfl (Nat.le_of_ble_eq_true rfl) dX9_best_48 rfl ⟨Nat.le_of_ble_eq_true rfl, Nat.le_of_ble_eq_true rfl⟩ rfl (fun z_5 C_6 hp_48 => ?_)
        refine z_C hp_48.1 ?_
        refine z_top (sStaleN (mMove f p0 t)) hp_48.2 ?_
        refine z_imul 52 K dX9_best_51 rfl ?_
        refine z_aload_n 53 K dX9_best_52 rfl rfl 0 rfl ?_
        refine z_get 56 K hin_X9_best_X9 94 (by decide) ((va_up_ne _ _ (by decide)).trans hM) rfl 1 (by decide) (by decide +kernel : Cond.fieldLink RX9 13 "BriefBuilderModel" "then" "[I" ∈ wsX9_best) (fun _ h9 => h9) rfl dX9_best_53 rfl ?_
        refine z_vSi (As := [.ref (aD g 96)]) (rest := [.int (iZ (100 * (sStaleN (mMove f p0 t))))]) 59 K (m_X9_binders l g _ 96 (mMove f p0 t) (by decide) (va_up_eq _ 96 _) hwc) (va_cwS 1 K.1.2.2.2.2 gX9_best_X9_binders rfl rfl rfl (by decide +kernel) ⟨Nat.le_of_ble_eq_true rfl, Nat.le_of_ble_eq_true rfl⟩) rfl (Nat.le_of_ble_eq_true rfl) dX9_best_56 rfl ⟨Nat.le_of_ble_eq_true rfl, Nat.le_of_ble_eq_true rfl⟩ rfl (fun z_7 C_8 hp_56 => ?_)
        refine z_C hp_56.1 ?_
        refine z_top (zBnd (sPg (mMove f p0 t)) ((mMove f p0 t) 0) ((mMove f p0 t) 1)) hp_56.2 ?_
        refine z_top (sBds (mMove f p0 t)) rfl ?_
        refine z_iadd 60 K dX9_best_59 rfl ?_
        refine z_top (100 * (sStaleN (mMove f p0 t)) + sBds (mMove f p0 t)) (by omega) ?_
        have hsc : 100 * sStaleN (mMove f p0 t) + sBds (mMove f p0 t) = sScore f p0 t := rfl
        have hfr := zarg_rng (fun t => sScore f p0 t) (n := t) (by omega)
        rw [← hfo] at hfr
        refine z_istore (lv' := [(5, .int (iZ (100 * (sStaleN (mMove f p0 t)) + sBds (mMove f p0 t)))), (0, .ref (aD g 94)), (1, .int (iZ p0)), (2, .int (iZ fo)), (3, .int (iZ le)), (4, .int (iZ t))]) 62 K dX9_best_60 rfl (by decide) rfl ?_
        refine z_iload_n 63 K dX9_best_62 rfl rfl 3 rfl ?_
        refine z_iconst 64 K dX9_best_63 rfl ?_
        refine z_icmp_eq (tgt := 73) 67 K dX9_best_64 rfl (by decide) (by omega) (by decide) (fun c_64 => ?_) (fun c_64 => ?_)
        · skip
          refine z_iload 75 K dX9_best_73 rfl 5 rfl ?_
          refine z_goto (tgt := 79) K dX9_best_75 (by decide) ?_
          refine z_istore_n (lv' := [(2, .int (iZ t)), (5, .int (iZ (100 * (sStaleN (mMove f p0 t)) + sBds (mMove f p0 t)))), (0, .ref (aD g 94)), (1, .int (iZ p0)), (3, .int (iZ le)), (4, .int (iZ t))]) 80 K dX9_best_79 rfl rfl (by decide) rfl ?_
          refine z_iload_n 81 K dX9_best_80 rfl rfl 0 rfl ?_
          refine z_iload 83 K dX9_best_81 rfl 5 rfl ?_
          refine z_icmp_ne (tgt := 91) 86 K dX9_best_83 rfl (by decide) (by omega) (by omega) (fun c_83 => ?_) (fun c_83 => ?_)
          · skip
            refine z_iload_n 92 K dX9_best_91 rfl rfl 4 rfl ?_
            refine z_istore_n (lv' := [(3, .int (iZ le)), (2, .int (iZ t)), (5, .int (iZ (100 * (sStaleN (mMove f p0 t)) + sBds (mMove f p0 t)))), (0, .ref (aD g 94)), (1, .int (iZ p0)), (4, .int (iZ t))]) 93 K dX9_best_92 rfl rfl (by decide) rfl ?_
            refine z_iinc (lv' := [(4, .int (iZ (t + 1))), (3, .int (iZ le)), (2, .int (iZ t)), (5, .int (iZ (100 * (sStaleN (mMove f p0 t)) + sBds (mMove f p0 t)))), (0, .ref (aD g 94)), (1, .int (iZ p0))]) 96 K dX9_best_93 rfl (t + 1) rfl 5 rfl (by decide) rfl ?_
            refine z_goto (tgt := 7) K dX9_best_96 (by decide) ?_
            refine z_sub [4, 5, 2, 1, 0] rfl ?_
            exact ih_7 (mMove f p0 t) t le (t + 1) (by omega) (by first | (exfalso; omega) | skip; rw [zarg_1 _ (by omega), ← hfo]; first | rw [if_pos (Or.inl c_64)] | (rw [if_pos (Or.inr (by rw [if_neg c_64] at hle; show sScore f p0 t < sScore f p0 fo; omega))]) | (rw [if_neg (fun h9 => h9.elim c_64 (fun z9 => by rw [if_neg c_64] at hle; have z8 : sScore f p0 t < sScore f p0 fo := z9; omega))])) (by first | (exfalso; omega) | (rw [if_neg (by omega)]; rfl) | exact hle) (by omega) (by omega)
          · skip
            refine z_iload 88 K dX9_best_86 rfl 1 rfl ?_
            refine z_goto (tgt := 92) K dX9_best_88 (by decide) ?_
            refine z_istore_n (lv' := [(3, .int (iZ (100 * (sStaleN (mMove f p0 t)) + sBds (mMove f p0 t)))), (2, .int (iZ t)), (5, .int (iZ (100 * (sStaleN (mMove f p0 t)) + sBds (mMove f p0 t)))), (0, .ref (aD g 94)), (1, .int (iZ p0)), (4, .int (iZ t))]) 93 K dX9_best_92 rfl rfl (by decide) rfl ?_
            refine z_iinc (lv' := [(4, .int (iZ (t + 1))), (3, .int (iZ (100 * (sStaleN (mMove f p0 t)) + sBds (mMove f p0 t)))), (2, .int (iZ t)), (5, .int (iZ (100 * (sStaleN (mMove f p0 t)) + sBds (mMove f p0 t)))), (0, .ref (aD g 94)), (1, .int (iZ p0))]) 96 K dX9_best_93 rfl (t + 1) rfl 5 rfl (by decide) rfl ?_
            refine z_goto (tgt := 7) K dX9_best_96 (by decide) ?_
            refine z_sub [4, 5, 2, 1, 0] rfl ?_
            exact ih_7 (mMove f p0 t) t (100 * (sStaleN (mMove f p0 t)) + sBds (mMove f p0 t)) (t + 1) (by omega) (by first | (exfalso; omega) | skip; rw [zarg_1 _ (by omega), ← hfo]; first | rw [if_pos (Or.inl c_64)] | (rw [if_pos (Or.inr (by rw [if_neg c_64] at hle; show sScore f p0 t < sScore f p0 fo; omega))]) | (rw [if_neg (fun h9 => h9.elim c_64 (fun z9 => by rw [if_neg c_64] at hle; have z8 : sScore f p0 t < sScore f p0 fo := z9; omega))])) (by first | (exfalso; omega) | (rw [if_neg (by omega)]; rfl) | exact hle) (by omega) (by omega)
        · skip
          refine z_iload 69 K dX9_best_67 rfl 0 rfl ?_
          refine z_iload_n 70 K dX9_best_69 rfl rfl 4 rfl ?_
          refine z_icmp_ge (tgt := 78) 73 K dX9_best_70 rfl (by decide) (by omega) (by omega) (fun c_70 => ?_) (fun c_70 => ?_)
          · skip
            refine z_iload_n 79 K dX9_best_78 rfl rfl 3 rfl ?_
            refine z_istore_n (lv' := [(2, .int (iZ fo)), (5, .int (iZ (100 * (sStaleN (mMove f p0 t)) + sBds (mMove f p0 t)))), (0, .ref (aD g 94)), (1, .int (iZ p0)), (3, .int (iZ le)), (4, .int (iZ t))]) 80 K dX9_best_79 rfl rfl (by decide) rfl ?_
            refine z_iload_n 81 K dX9_best_80 rfl rfl 0 rfl ?_
            refine z_iload 83 K dX9_best_81 rfl 5 rfl ?_
            refine z_icmp_ne (tgt := 91) 86 K dX9_best_83 rfl (by decide) (by omega) (by omega) (fun c_83 => ?_) (fun c_83 => ?_)
            · skip
              refine z_iload_n 92 K dX9_best_91 rfl rfl 4 rfl ?_
              refine z_istore_n (lv' := [(3, .int (iZ le)), (2, .int (iZ fo)), (5, .int (iZ (100 * (sStaleN (mMove f p0 t)) + sBds (mMove f p0 t)))), (0, .ref (aD g 94)), (1, .int (iZ p0)), (4, .int (iZ t))]) 93 K dX9_best_92 rfl rfl (by decide) rfl ?_
              refine z_iinc (lv' := [(4, .int (iZ (t + 1))), (3, .int (iZ le)), (2, .int (iZ fo)), (5, .int (iZ (100 * (sStaleN (mMove f p0 t)) + sBds (mMove f p0 t)))), (0, .ref (aD g 94)), (1, .int (iZ p0))]) 96 K dX9_best_93 rfl (t + 1) rfl 5 rfl (by decide) rfl ?_
              refine z_goto (tgt := 7) K dX9_best_96 (by decide) ?_
              refine z_sub [4, 5, 2, 1, 0] rfl ?_
              exact ih_7 (mMove f p0 t) fo le (t + 1) (by omega) (by first | (exfalso; omega) | skip; rw [zarg_1 _ (by omega), ← hfo]; first | rw [if_pos (Or.inl c_64)] | (rw [if_pos (Or.inr (by rw [if_neg c_64] at hle; show sScore f p0 t < sScore f p0 fo; omega))]) | (rw [if_neg (fun h9 => h9.elim c_64 (fun z9 => by rw [if_neg c_64] at hle; have z8 : sScore f p0 t < sScore f p0 fo := z9; omega))])) (by first | (exfalso; omega) | (rw [if_neg (by omega)]; rfl) | exact hle) (by omega) (by omega)
            · skip
              refine z_iload 88 K dX9_best_86 rfl 1 rfl ?_
              refine z_goto (tgt := 92) K dX9_best_88 (by decide) ?_
              refine z_istore_n (lv' := [(3, .int (iZ (100 * (sStaleN (mMove f p0 t)) + sBds (mMove f p0 t)))), (2, .int (iZ fo)), (5, .int (iZ (100 * (sStaleN (mMove f p0 t)) + sBds (mMove f p0 t)))), (0, .ref (aD g 94)), (1, .int (iZ p0)), (4, .int (iZ t))]) 93 K dX9_best_92 rfl rfl (by decide) rfl ?_
              refine z_iinc (lv' := [(4, .int (iZ (t + 1))), (3, .int (iZ (100 * (sStaleN (mMove f p0 t)) + sBds (mMove f p0 t)))), (2, .int (iZ fo)), (5, .int (iZ (100 * (sStaleN (mMove f p0 t)) + sBds (mMove f p0 t)))), (0, .ref (aD g 94)), (1, .int (iZ p0))]) 96 K dX9_best_93 rfl (t + 1) rfl 5 rfl (by decide) rfl ?_
              refine z_goto (tgt := 7) K dX9_best_96 (by decide) ?_
              refine z_sub [4, 5, 2, 1, 0] rfl ?_
              exact ih_7 (mMove f p0 t) fo (100 * (sStaleN (mMove f p0 t)) + sBds (mMove f p0 t)) (t + 1) (by omega) (by first | (exfalso; omega) | skip; rw [zarg_1 _ (by omega), ← hfo]; first | rw [if_pos (Or.inl c_64)] | (rw [if_pos (Or.inr (by rw [if_neg c_64] at hle; show sScore f p0 t < sScore f p0 fo; omega))]) | (rw [if_neg (fun h9 => h9.elim c_64 (fun z9 => by rw [if_neg c_64] at hle; have z8 : sScore f p0 t < sScore f p0 fo := z9; omega))])) (by first | (exfalso; omega) | (rw [if_neg (by omega)]; rfl) | exact hle) (by omega) (by omega)
          · skip
            refine z_iload 75 K dX9_best_73 rfl 5 rfl ?_
            refine z_goto (tgt := 79) K dX9_best_75 (by decide) ?_
            refine z_istore_n (lv' := [(2, .int (iZ t)), (5, .int (iZ (100 * (sStaleN (mMove f p0 t)) + sBds (mMove f p0 t)))), (0, .ref (aD g 94)), (1, .int (iZ p0)), (3, .int (iZ le)), (4, .int (iZ t))]) 80 K dX9_best_79 rfl rfl (by decide) rfl ?_
            refine z_iload_n 81 K dX9_best_80 rfl rfl 0 rfl ?_
            refine z_iload 83 K dX9_best_81 rfl 5 rfl ?_
            refine z_icmp_ne (tgt := 91) 86 K dX9_best_83 rfl (by decide) (by omega) (by omega) (fun c_83 => ?_) (fun c_83 => ?_)
            · skip
              refine z_iload_n 92 K dX9_best_91 rfl rfl 4 rfl ?_
              refine z_istore_n (lv' := [(3, .int (iZ le)), (2, .int (iZ t)), (5, .int (iZ (100 * (sStaleN (mMove f p0 t)) + sBds (mMove f p0 t)))), (0, .ref (aD g 94)), (1, .int (iZ p0)), (4, .int (iZ t))]) 93 K dX9_best_92 rfl rfl (by decide) rfl ?_
              refine z_iinc (lv' := [(4, .int (iZ (t + 1))), (3, .int (iZ le)), (2, .int (iZ t)), (5, .int (iZ (100 * (sStaleN (mMove f p0 t)) + sBds (mMove f p0 t)))), (0, .ref (aD g 94)), (1, .int (iZ p0))]) 96 K dX9_best_93 rfl (t + 1) rfl 5 rfl (by decide) rfl ?_
              refine z_goto (tgt := 7) K dX9_best_96 (by decide) ?_
              refine z_sub [4, 5, 2, 1, 0] rfl ?_
              exact ih_7 (mMove f p0 t) t le (t + 1) (by omega) (by first | (exfalso; omega) | skip; rw [zarg_1 _ (by omega), ← hfo]; first | rw [if_pos (Or.inl c_64)] | (rw [if_pos (Or.inr (by rw [if_neg c_64] at hle; show sScore f p0 t < sScore f p0 fo; omega))]) | (rw [if_neg (fun h9 => h9.elim c_64 (fun z9 => by rw [if_neg c_64] at hle; have z8 : sScore f p0 t < sScore f p0 fo := z9; omega))])) (by first | (exfalso; omega) | (rw [if_neg (by omega)]; rfl) | exact hle) (by omega) (by omega)
            · skip
              refine z_iload 88 K dX9_best_86 rfl 1 rfl ?_
              refine z_goto (tgt := 92) K dX9_best_88 (by decide) ?_
              refine z_istore_n (lv' := [(3, .int (iZ (100 * (sStaleN (mMove f p0 t)) + sBds (mMove f p0 t)))), (2, .int (iZ t)), (5, .int (iZ (100 * (sStaleN (mMove f p0 t)) + sBds (mMove f p0 t)))), (0, .ref (aD g 94)), (1, .int (iZ p0)), (4, .int (iZ t))]) 93 K dX9_best_92 rfl rfl (by decide) rfl ?_
              refine z_iinc (lv' := [(4, .int (iZ (t + 1))), (3, .int (iZ (100 * (sStaleN (mMove f p0 t)) + sBds (mMove f p0 t)))), (2, .int (iZ t)), (5, .int (iZ (100 * (sStaleN (mMove f p0 t)) + sBds (mMove f p0 t)))), (0, .ref (aD g 94)), (1, .int (iZ p0))]) 96 K dX9_best_93 rfl (t + 1) rfl 5 rfl (by decide) rfl ?_
              refine z_goto (tgt := 7) K dX9_best_96 (by decide) ?_
              refine z_sub [4, 5, 2, 1, 0] rfl ?_
              exact ih_7 (mMove f p0 t) t (100 * (sStaleN (mMove f p0 t)) + sBds (mMove f p0 t)) (t + 1) (by omega) (by first | (exfalso; omega) | skip; rw [zarg_1 _ (by omega), ← hfo]; first | rw [if_pos (Or.inl c_64)] | (rw [if_pos (Or.inr (by rw [if_neg c_64] at hle; show sScore f p0 t < sScore f p0 fo; omega))]) | (rw [if_neg (fun h9 => h9.elim c_64 (fun z9 => by rw [if_neg c_64] at hle; have z8 : sScore f p0 t < sScore f p0 fo := z9; omega))])) (by first | (exfalso; omega) | (rw [if_neg (by omega)]; rfl) | exact hle) (by omega) (by omega)
  refine z_sub [3, 4, 2, 1, 0] rfl ?_
  refine z_C (va_us hT).symm ?_
  exact loop_7 (Int.toNat (f 1 - 0) + 1) ft (-1) 0 0 (by omega) rfl rfl (by omega) (by omega)
set_option maxRecDepth 20000 in
theorem hin_X9_least_X9 : ∀ w ∈ wsX90, w ∈ wsX9_least := by decide +kernel
set_option maxHeartbeats 4000000 in
set_option maxRecDepth 100000 in
theorem m_X9_least (l : Launch) (g : zG) (C : Nat → va_E) (m0 : Int) (k : Int) (ty : Int) (th : Int) (pt : Int) (fl : Int) (to : Int) (f : Int → Int) (ft : Int → Int) (cap : Int) (hM : C 94 = .inr (9, [.ref (aD g 95), .ref (aD g 96), .ref (aD g 97), .int (iZ k), .ref (aD g 98), .int (iZ ty), .int (iZ th), .int (iZ pt), .int (iZ fl), .ref (aD g 99), .int (iZ to)])) (hN : C 95 = eI g 449 f) (hT : C 96 = eI g 449 ft) (hw : WF f cap) (hcap : cap ≤ 100000) (hm : 1 ≤ m0 ∧ m0 ≤ 30) : Met l yX9_least wsX9_least ({ frames := 3, cells := 0, slots := 0, locals := 69 } : Room) (zPre g C [.ref (aD g 94), .int (iZ m0)]) (zQi g (fun z C' => ∃ gt : Int → Int, C' = va_up C 96 (eI g 449 gt) ∧ z = sLeast f m0)) 0 0 (zA g) := by
  refine z_enter RX9 rfl (by decide) rfl (Nat.le_of_ble_eq_true rfl) ?_
  intro p e s m args below meth c K harg
  refine z_sub (lv' := [(0, .ref (aD g 94)), (1, .int (iZ m0))]) [0, 1] rfl ?_
  have hn := hw.n
  have hwr := hw.wr
  refine z_aload_n 1 K dX9_least_0 rfl rfl 0 rfl ?_
  refine z_get 4 K hin_X9_least_X9 94 (by decide) hM rfl 0 (by decide) (by decide +kernel : Cond.fieldLink RX9 7 "BriefBuilderModel" "now" "[I" ∈ wsX9_least) (fun _ h9 => h9) rfl dX9_least_1 rfl ?_
  refine z_iconst 5 K dX9_least_4 rfl ?_
  refine z_aload_n 6 K dX9_least_5 rfl rfl 0 rfl ?_
  refine z_get 9 K hin_X9_least_X9 94 (by decide) hM rfl 1 (by decide) (by decide +kernel : Cond.fieldLink RX9 13 "BriefBuilderModel" "then" "[I" ∈ wsX9_least) (fun _ h9 => h9) rfl dX9_least_6 rfl ?_
  refine z_iconst 10 K dX9_least_9 rfl ?_
  refine z_vSv (As := [.ref (aD g 95), .int (iZ 0), .ref (aD g 96), .int (iZ 0)]) (rest := []) 13 K (m_X9_copies l g _ 95 0 96 0 f ft 449 449 (by decide) hN (by decide) hT (by decide) (by omega) (by omega)) (va_cwS 4 K.1.2.2.2.2 gX9_least_X9_copies rfl rfl rfl (by decide +kernel) ⟨Nat.le_of_ble_eq_true rfl, Nat.le_of_ble_eq_true rfl⟩) rfl (Nat.le_of_ble_eq_true rfl) dX9_least_10 rfl ⟨Nat.le_of_ble_eq_true rfl, Nat.le_of_ble_eq_true rfl⟩ rfl (fun C_2 hp_10 => ?_)
  refine z_C hp_10 ?_
  refine z_ag f (fun j h0 h1 => by simp only [zcpy]; rw [if_pos (by omega)]; congr 1; omega) ?_
  refine z_bipush 15 K dX9_least_13 rfl rfl ?_
  refine z_istore_n (lv' := [(2, .int (iZ 10)), (0, .ref (aD g 94)), (1, .int (iZ m0))]) 16 K dX9_least_15 rfl rfl (by decide) rfl ?_
  have loop_16 : ∀ (n9 : Nat) (gt : Int → Int) (y : Int), (10 ≤ y ∧ y ≤ 201) → (∀ j, j ≠ 0 → gt j = f j) → (∀ j, 0 ≤ j → j < y - 10 → b2i (decide (zBnd (sPg f) (j + 10) (f 1) ≤ m0)) ≠ 1) → (201 - y < (n9 : Int)) → Z p l e (({ frames := 3, cells := 0, slots := 0, locals := 69 } : Room)) s m args below meth c (MQ below (zQi g (fun z C' => ∃ gt : Int → Int, C' = va_up C 96 (eI g 449 gt) ∧ z = sLeast f m0)) args s 0 0 (zA g)) g 3 0 0 (va_up C 96 (eI g 449 gt)) [(0, .ref (aD g 94)), (1, .int (iZ m0)), (2, .int (iZ y))] 16 [] := by
    intro n9
    induction n9 with
    | zero =>
      intro gt y hy hgt hno hm9
      exact absurd hm9 (by omega)
    | succ n9 ih9 =>
      intro gt y hy hgt hno hm_16
      have ih_16 := ih9
      clear ih9
      refine z_iload_n 17 K dX9_least_16 rfl rfl 2 rfl ?_
      refine z_sipush 20 K dX9_least_17 rfl rfl ?_
      refine z_icmp_gt (tgt := 49) 23 K dX9_least_20 rfl (by decide) (by omega) (by decide) (fun c_20 => ?_) (fun c_20 => ?_)
      · skip
        refine z_iconst 50 K dX9_least_49 rfl ?_
        have hfd : sLea f m0 = -1 := zfind_no (fun j h0 h1 => hno j h0 (by omega))
        exact z_iret K rfl dX9_least_50 ⟨_, rfl, by unfold sLeast; rw [if_pos hfd]⟩
      · skip
        refine z_aload_n 24 K dX9_least_23 rfl rfl 0 rfl ?_
        refine z_get 27 K hin_X9_least_X9 94 (by decide) ((va_up_ne _ _ (by decide)).trans hM) rfl 1 (by decide) (by decide +kernel : Cond.fieldLink RX9 13 "BriefBuilderModel" "then" "[I" ∈ wsX9_least) (fun _ h9 => h9) rfl dX9_least_24 rfl ?_
        refine z_iconst 28 K dX9_least_27 rfl ?_
        refine z_iload_n 29 K dX9_least_28 rfl rfl 2 rfl ?_
        refine z_iast (f := gt) 30 K 96 (by decide) (va_up_eq _ 96 _) (by decide) (by decide) (by decide) dX9_least_29 rfl ?_
        refine z_C (va_uu _ _ _ _) ?_
        have hwz : WR (zu gt 0 y) := by
          refine ⟨fun j => ?_, ?_, fun a h0 h1 => ?_, fun k2 h0 h1 => ?_, ?_⟩
          · by_cases h9 : j = 0
            · rw [h9, zu_eq]; omega
            · rw [zu_ne _ _ h9, hgt j h9]; exact hw.rg j
          · rw [zu_ne _ _ (by omega), hgt 1 (by omega)]; omega
          · rw [zu_ne _ _ (by omega), hgt _ (by omega)]; exact hwr.2.2.1 a h0 h1
          · rw [zu_ne _ _ (by omega), hgt 1 (by omega)] at h1; rw [zu_ne _ _ (by omega), hgt _ (by omega)]; exact hwr.2.2.2.1 k2 h0 h1
          · rw [zu_eq]; omega
        have heb : zBnd (sPg (zu gt 0 y)) (zu gt 0 y 0) (zu gt 0 y 1) = zBnd (sPg f) y (f 1) := by
          rw [zu_eq, zu_ne _ _ (by omega), hgt 1 (by omega)]
          exact zBnd_cong (fun j h0 h1 => by show zu gt 0 y (2 * j + 4) = f (2 * j + 4); rw [zu_ne _ _ (by omega), hgt _ (by omega)])
        refine z_aload_n 31 K dX9_least_30 rfl rfl 0 rfl ?_
        refine z_get 34 K hin_X9_least_X9 94 (by decide) ((va_up_ne _ _ (by decide)).trans hM) rfl 1 (by decide) (by decide +kernel : Cond.fieldLink RX9 13 "BriefBuilderModel" "then" "[I" ∈ wsX9_least) (fun _ h9 => h9) rfl dX9_least_31 rfl ?_
        refine z_vSi (As := [.ref (aD g 96)]) (rest := []) 37 K (m_X9_binders l g _ 96 (zu gt 0 y) (by decide) (va_up_eq _ 96 _) hwz) (va_cwS 1 K.1.2.2.2.2 gX9_least_X9_binders rfl rfl rfl (by decide +kernel) ⟨Nat.le_of_ble_eq_true rfl, Nat.le_of_ble_eq_true rfl⟩) rfl (Nat.le_of_ble_eq_true rfl) dX9_least_34 rfl ⟨Nat.le_of_ble_eq_true rfl, Nat.le_of_ble_eq_true rfl⟩ rfl (fun z_3 C_4 hp_34 => ?_)
        refine z_C hp_34.1 ?_
        refine z_top (zBnd (sPg (zu gt 0 y)) ((zu gt 0 y) 0) ((zu gt 0 y) 1)) hp_34.2 ?_
        have hbr := zBnd_rng (h := sPg f) (lim := y) (n := f 1) hn.1
        refine z_top (zBnd (sPg f) y (f 1)) heb ?_
        refine z_iload_n 38 K dX9_least_37 rfl rfl 1 rfl ?_
        refine z_icmp_gt (tgt := 43) 41 K dX9_least_38 rfl (by decide) (by omega) (by omega) (fun c_38 => ?_) (fun c_38 => ?_)
        · skip
          refine z_iinc (lv' := [(2, .int (iZ (y + 1))), (0, .ref (aD g 94)), (1, .int (iZ m0))]) 46 K dX9_least_43 rfl (y + 1) rfl 2 rfl (by decide) rfl ?_
          refine z_goto (tgt := 16) K dX9_least_46 (by decide) ?_
          refine z_sub [1, 2, 0] rfl ?_
          exact ih_16 (zu gt 0 y) (y + 1) (by omega) (fun j h9 => by rw [zu_ne _ _ h9]; exact hgt j h9) (by rw [show y + 1 - 10 = y - 10 + 1 by omega]; refine lt_step hno ?_; rw [show y - 10 + 10 = y by omega, b2i_0 (by omega)]; decide) (by omega)
        · skip
          refine z_iload_n 42 K dX9_least_41 rfl rfl 2 rfl ?_
          have hfd : sLea f m0 = y - 10 := zfind_at (by omega) (by omega) hno (by rw [show y - 10 + 10 = y by omega]; exact b2i_1 (by omega))
          exact z_iret K rfl dX9_least_42 ⟨_, rfl, by unfold sLeast; rw [hfd, if_neg (by omega)]; omega⟩
  refine z_sub [1, 2, 0] rfl ?_
  exact loop_16 (Int.toNat (201 - 10) + 1) f 10 (by omega) (fun j h9 => rfl) (fun j h0 h1 => absurd h1 (by omega)) (by omega)
set_option maxRecDepth 20000 in
theorem hin_X9_exhibit_X9 : ∀ w ∈ wsX90, w ∈ wsX9_exhibit := by decide +kernel
set_option maxHeartbeats 4000000 in
set_option maxRecDepth 100000 in
theorem m_X9_exhibit (l : Launch) (g : zG) (C : Nat → va_E) (p0 : Int) (w : Int) (k : Int) (ty : Int) (th : Int) (pt : Int) (fl : Int) (to : Int) (f : Int → Int) (cap : Int) (hM : C 94 = .inr (9, [.ref (aD g 95), .ref (aD g 96), .ref (aD g 97), .int (iZ k), .ref (aD g 98), .int (iZ ty), .int (iZ th), .int (iZ pt), .int (iZ fl), .ref (aD g 99), .int (iZ to)])) (hN : C 95 = eI g 449 f) (hw : WF f cap) (hcap : cap ≤ 100000) (hk : 0 ≤ k ∧ k ≤ 6) (h_p0 : -2147483648 ≤ p0 ∧ p0 < 2147483648) (h_w : -2147483648 ≤ w ∧ w < 2147483648) : Met l yX9_exhibit wsX9_exhibit ({ frames := 5, cells := 0, slots := 0, locals := 114 } : Room) (zPre g C [.ref (aD g 94), .int (iZ p0), .int (iZ w)]) (zQi g (fun z C' => C' = va_up C 94 (.inr (9, [.ref (aD g 95), .ref (aD g 96), .ref (aD g 97), .int (iZ k), .ref (aD g 98), .int (iZ ty), .int (iZ (kExh p0 w)), .int (iZ pt), .int (iZ fl), .ref (aD g 99), .int (iZ to)])) ∧ z = if kExh p0 w = 0 then (if p0 < f 1 then sOfE f p0 w else -1) else 0)) 0 0 (zA g) := by
  refine z_enter RX9 rfl (by decide) rfl (Nat.le_of_ble_eq_true rfl) ?_
  intro p e s m args below meth c K harg
  refine z_sub (lv' := [(0, .ref (aD g 94)), (1, .int (iZ p0)), (2, .int (iZ w))]) [0, 1, 2] rfl ?_
  have hn := hw.n
  have hwr := hw.wr
  refine z_aload_n 1 K dX9_exhibit_0 rfl rfl 0 rfl ?_
  refine z_iconst 2 K dX9_exhibit_1 rfl ?_
  refine z_put (ty := .int) 5 K hin_X9_exhibit_X9 tyX9 tyX9_ok nmX9 94 (by decide) hM rfl 6 (by decide) (by decide +kernel : Cond.fieldLink RX9 25 "BriefBuilderModel" "thrown" "I" ∈ wsX9_exhibit) (fun _ h9 => h9) rfl (by decide +kernel) rfl rfl (Nat.le_of_ble_eq_true rfl) dX9_exhibit_2 rfl ?_
  show Z p l e (({ frames := 5, cells := 0, slots := 0, locals := 114 } : Room)) s m args below meth c (MQ below (zQi g (fun z C' => C' = va_up C 94 (.inr (9, [.ref (aD g 95), .ref (aD g 96), .ref (aD g 97), .int (iZ k), .ref (aD g 98), .int (iZ ty), .int (iZ (kExh p0 w)), .int (iZ pt), .int (iZ fl), .ref (aD g 99), .int (iZ to)])) ∧ z = if kExh p0 w = 0 then (if p0 < f 1 then sOfE f p0 w else -1) else 0)) args s 0 0 (zA g)) g _ _ _ (va_up C 94 (.inr (9, [.ref (aD g 95), .ref (aD g 96), .ref (aD g 97), .int (iZ k), .ref (aD g 98), .int (iZ ty), .int (iZ 0), .int (iZ pt), .int (iZ fl), .ref (aD g 99), .int (iZ to)]))) [(0, .ref (aD g 94)), (1, .int (iZ p0)), (2, .int (iZ w))] 5 []
  refine z_iload_n 6 K dX9_exhibit_5 rfl rfl 1 rfl ?_
  refine z_if_lt (tgt := 18) 9 K dX9_exhibit_6 rfl (by decide) (by omega) (fun c_6 => ?_) (fun c_6 => ?_)
  · skip
    refine z_aload_n 19 K dX9_exhibit_18 rfl rfl 0 rfl ?_
    refine z_iconst 20 K dX9_exhibit_19 rfl ?_
    refine z_top (kExh p0 w) (by unfold kExh; (repeat' split) <;> omega) ?_
    refine z_vVi (As := [.int (iZ (kExh p0 w))]) (rest := []) 23 K 94 (by decide) (va_up_eq _ 94 _) rfl rfl (m_X9_fails l g _ (kExh p0 w) k ty 0 pt fl to (va_up_eq _ 94 _)) (cwV 1 K.1.2.2.2.2 gX9_exhibit_X9_fails rfl rfl rfl (by decide +kernel) ⟨Nat.le_of_ble_eq_true rfl, Nat.le_of_ble_eq_true rfl⟩) rfl (Nat.le_of_ble_eq_true rfl) dX9_exhibit_20 rfl ⟨Nat.le_of_ble_eq_true rfl, Nat.le_of_ble_eq_true rfl⟩ rfl (fun z_1 C_2 hp_20 => ?_)
    refine z_C hp_20.1 ?_
    refine z_top (0) hp_20.2 ?_
    refine z_C (va_uu _ _ _ _) ?_
    have hK : ¬ kExh p0 w = 0 := by unfold kExh; (repeat' split) <;> omega
    exact z_iret K rfl dX9_exhibit_23 ⟨rfl, (by rw [if_neg hK])⟩
  · skip
    refine z_iload_n 10 K dX9_exhibit_9 rfl rfl 2 rfl ?_
    refine z_iconst 11 K dX9_exhibit_10 rfl ?_
    refine z_iconst 12 K dX9_exhibit_11 rfl ?_
    refine z_vSi (As := [.int (iZ w), .int (iZ 0), .int (iZ 5)]) (rest := []) 15 K (m_X9_in l g _ w 0 5 (by omega) (by omega) (by omega)) (va_cwS 3 K.1.2.2.2.2 gX9_exhibit_X9_in rfl rfl rfl (by decide +kernel) ⟨Nat.le_of_ble_eq_true rfl, Nat.le_of_ble_eq_true rfl⟩) rfl (Nat.le_of_ble_eq_true rfl) dX9_exhibit_12 rfl ⟨Nat.le_of_ble_eq_true rfl, Nat.le_of_ble_eq_true rfl⟩ rfl (fun z_3 C_4 hp_12 => ?_)
    refine z_C hp_12.1 ?_
    refine z_top (b2i (decide (0 ≤ w ∧ w ≤ 5))) hp_12.2 ?_
    refine z_if_ne (tgt := 24) 18 K dX9_exhibit_15 rfl (by decide) (b2i_ir _) (fun c_15 => ?_) (fun c_15 => ?_)
    · have d_15 := b2i_decn.mp c_15
      refine z_aload_n 25 K dX9_exhibit_24 rfl rfl 0 rfl ?_
      refine z_iload_n 26 K dX9_exhibit_25 rfl rfl 1 rfl ?_
      refine z_vVi (As := [.int (iZ p0)]) (rest := []) 29 K 94 (by decide) (va_up_eq _ 94 _) rfl rfl (m_X9_isPlace l g _ p0 k ty 0 pt fl to f (va_up_eq _ 94 _) ((va_up_ne _ _ (by decide)).trans hN) (by omega) (by omega)) (cwV 1 K.1.2.2.2.2 gX9_exhibit_X9_isPlace rfl rfl rfl (by decide +kernel) ⟨Nat.le_of_ble_eq_true rfl, Nat.le_of_ble_eq_true rfl⟩) rfl (Nat.le_of_ble_eq_true rfl) dX9_exhibit_26 rfl ⟨Nat.le_of_ble_eq_true rfl, Nat.le_of_ble_eq_true rfl⟩ rfl (fun z_5 C_6 hp_26 => ?_)
      refine z_C hp_26.1 ?_
      refine z_top (b2i (decide (0 ≤ p0 ∧ p0 ≤ f 1 - 1))) hp_26.2 ?_
      refine z_if_eq (tgt := 41) 32 K dX9_exhibit_29 rfl (by decide) (b2i_ir _) (fun c_29 => ?_) (fun c_29 => ?_)
      · have d_29 := b2i_dec0.mp c_29
        refine z_iconst 42 K dX9_exhibit_41 rfl ?_
        have hK : kExh p0 w = 0 := by unfold kExh; (repeat' split) <;> omega
        exact z_iret K rfl dX9_exhibit_42 ⟨(by rw [hK] <;> rfl), (by rw [if_pos hK] <;> (first | rw [if_pos (by omega)] | rw [if_neg (by omega)]))⟩
      · have d_29 := b2i_decn.mp c_29
        refine z_aload_n 33 K dX9_exhibit_32 rfl rfl 0 rfl ?_
        refine z_iload_n 34 K dX9_exhibit_33 rfl rfl 1 rfl ?_
        refine z_iload_n 35 K dX9_exhibit_34 rfl rfl 2 rfl ?_
        refine z_vVi (As := [.int (iZ p0), .int (iZ w)]) (rest := []) 38 K 94 (by decide) (va_up_eq _ 94 _) rfl rfl (m_X9_ofExhibit l g _ p0 w k ty 0 pt fl to f _ (va_up_eq _ 94 _) ((va_up_ne _ _ (by decide)).trans hN) hw hcap (by omega) (by omega)) (cwV 2 K.1.2.2.2.2 gX9_exhibit_X9_ofExhibit rfl rfl rfl (by decide +kernel) ⟨Nat.le_of_ble_eq_true rfl, Nat.le_of_ble_eq_true rfl⟩) rfl (Nat.le_of_ble_eq_true rfl) dX9_exhibit_35 rfl ⟨Nat.le_of_ble_eq_true rfl, Nat.le_of_ble_eq_true rfl⟩ rfl (fun z_7 C_8 hp_35 => ?_)
        refine z_C hp_35.1 ?_
        refine z_top (sOfE f p0 w) hp_35.2 ?_
        refine z_goto (tgt := 42) K dX9_exhibit_38 (by decide) ?_
        have hK : kExh p0 w = 0 := by unfold kExh; (repeat' split) <;> omega
        exact z_iret K rfl dX9_exhibit_42 ⟨(by rw [hK] <;> rfl), (by rw [if_pos hK] <;> (first | rw [if_pos (by omega)] | rw [if_neg (by omega)]))⟩
    · have d_15 := b2i_dec0.mp c_15
      refine z_aload_n 19 K dX9_exhibit_18 rfl rfl 0 rfl ?_
      refine z_iconst 20 K dX9_exhibit_19 rfl ?_
      refine z_top (kExh p0 w) (by unfold kExh; (repeat' split) <;> omega) ?_
      refine z_vVi (As := [.int (iZ (kExh p0 w))]) (rest := []) 23 K 94 (by decide) (va_up_eq _ 94 _) rfl rfl (m_X9_fails l g _ (kExh p0 w) k ty 0 pt fl to (va_up_eq _ 94 _)) (cwV 1 K.1.2.2.2.2 gX9_exhibit_X9_fails rfl rfl rfl (by decide +kernel) ⟨Nat.le_of_ble_eq_true rfl, Nat.le_of_ble_eq_true rfl⟩) rfl (Nat.le_of_ble_eq_true rfl) dX9_exhibit_20 rfl ⟨Nat.le_of_ble_eq_true rfl, Nat.le_of_ble_eq_true rfl⟩ rfl (fun z_9 C_10 hp_20 => ?_)
      refine z_C hp_20.1 ?_
      refine z_top (0) hp_20.2 ?_
      refine z_C (va_uu _ _ _ _) ?_
      have hK : ¬ kExh p0 w = 0 := by unfold kExh; (repeat' split) <;> omega
      exact z_iret K rfl dX9_exhibit_23 ⟨rfl, (by rw [if_neg hK])⟩
set_option maxRecDepth 20000 in
theorem hin_X9_citation_X9 : ∀ w ∈ wsX90, w ∈ wsX9_citation := by decide +kernel
set_option maxHeartbeats 4000000 in
set_option maxRecDepth 100000 in
theorem m_X9_citation (l : Launch) (g : zG) (C : Nat → va_E) (a : Int) (b : Int) (w : Int) (k : Int) (ty : Int) (th : Int) (pt : Int) (fl : Int) (to : Int) (f : Int → Int) (cap : Int) (hM : C 94 = .inr (9, [.ref (aD g 95), .ref (aD g 96), .ref (aD g 97), .int (iZ k), .ref (aD g 98), .int (iZ ty), .int (iZ th), .int (iZ pt), .int (iZ fl), .ref (aD g 99), .int (iZ to)])) (hN : C 95 = eI g 449 f) (hw : WF f cap) (hcap : cap ≤ 100000) (hk : 0 ≤ k ∧ k ≤ 6) (h_a : -2147483648 ≤ a ∧ a < 2147483648) (h_b : -2147483648 ≤ b ∧ b < 2147483648) (h_w : -2147483648 ≤ w ∧ w < 2147483648) : Met l yX9_citation wsX9_citation ({ frames := 4, cells := 0, slots := 0, locals := 90 } : Room) (zPre g C [.ref (aD g 94), .int (iZ a), .int (iZ b), .int (iZ w)]) (zQi g (fun z C' => C' = va_up C 94 (.inr (9, [.ref (aD g 95), .ref (aD g 96), .ref (aD g 97), .int (iZ k), .ref (aD g 98), .int (iZ ty), .int (iZ (kCtn a b w)), .int (iZ pt), .int (iZ fl), .ref (aD g 99), .int (iZ to)])) ∧ z = if kCtn a b w = 0 then (if b < f (32 * a + 65) then sOfC f a b w else -1) else 0)) 0 0 (zA g) := by
  refine z_enter RX9 rfl (by decide) rfl (Nat.le_of_ble_eq_true rfl) ?_
  intro p e s m args below meth c K harg
  refine z_sub (lv' := [(0, .ref (aD g 94)), (1, .int (iZ a)), (2, .int (iZ b)), (3, .int (iZ w))]) [0, 1, 2, 3] rfl ?_
  have hn := hw.n
  have hwr := hw.wr
  refine z_aload_n 1 K dX9_citation_0 rfl rfl 0 rfl ?_
  refine z_iconst 2 K dX9_citation_1 rfl ?_
  refine z_put (ty := .int) 5 K hin_X9_citation_X9 tyX9 tyX9_ok nmX9 94 (by decide) hM rfl 6 (by decide) (by decide +kernel : Cond.fieldLink RX9 25 "BriefBuilderModel" "thrown" "I" ∈ wsX9_citation) (fun _ h9 => h9) rfl (by decide +kernel) rfl rfl (Nat.le_of_ble_eq_true rfl) dX9_citation_2 rfl ?_
  show Z p l e (({ frames := 4, cells := 0, slots := 0, locals := 90 } : Room)) s m args below meth c (MQ below (zQi g (fun z C' => C' = va_up C 94 (.inr (9, [.ref (aD g 95), .ref (aD g 96), .ref (aD g 97), .int (iZ k), .ref (aD g 98), .int (iZ ty), .int (iZ (kCtn a b w)), .int (iZ pt), .int (iZ fl), .ref (aD g 99), .int (iZ to)])) ∧ z = if kCtn a b w = 0 then (if b < f (32 * a + 65) then sOfC f a b w else -1) else 0)) args s 0 0 (zA g)) g _ _ _ (va_up C 94 (.inr (9, [.ref (aD g 95), .ref (aD g 96), .ref (aD g 97), .int (iZ k), .ref (aD g 98), .int (iZ ty), .int (iZ 0), .int (iZ pt), .int (iZ fl), .ref (aD g 99), .int (iZ to)]))) [(0, .ref (aD g 94)), (1, .int (iZ a)), (2, .int (iZ b)), (3, .int (iZ w))] 5 []
  refine z_iload_n 6 K dX9_citation_5 rfl rfl 1 rfl ?_
  refine z_vSi (As := [.int (iZ a)]) (rest := []) 9 K (m_X9_isParagraph l g _ a (by omega)) (va_cwS 1 K.1.2.2.2.2 gX9_citation_X9_isParagraph rfl rfl rfl (by decide +kernel) ⟨Nat.le_of_ble_eq_true rfl, Nat.le_of_ble_eq_true rfl⟩) rfl (Nat.le_of_ble_eq_true rfl) dX9_citation_6 rfl ⟨Nat.le_of_ble_eq_true rfl, Nat.le_of_ble_eq_true rfl⟩ rfl (fun z_1 C_2 hp_6 => ?_)
  refine z_C hp_6.1 ?_
  refine z_top (b2i (decide (0 ≤ a ∧ a ≤ 11))) hp_6.2 ?_
  refine z_if_ne (tgt := 18) 12 K dX9_citation_9 rfl (by decide) (b2i_ir _) (fun c_9 => ?_) (fun c_9 => ?_)
  · have d_9 := b2i_decn.mp c_9
    refine z_iload_n 19 K dX9_citation_18 rfl rfl 2 rfl ?_
    refine z_if_lt (tgt := 31) 22 K dX9_citation_19 rfl (by decide) (by omega) (fun c_19 => ?_) (fun c_19 => ?_)
    · skip
      refine z_aload_n 32 K dX9_citation_31 rfl rfl 0 rfl ?_
      refine z_iconst 33 K dX9_citation_32 rfl ?_
      refine z_top (kCtn a b w) (by unfold kCtn; (repeat' split) <;> omega) ?_
      refine z_vVi (As := [.int (iZ (kCtn a b w))]) (rest := []) 36 K 94 (by decide) (va_up_eq _ 94 _) rfl rfl (m_X9_fails l g _ (kCtn a b w) k ty 0 pt fl to (va_up_eq _ 94 _)) (cwV 1 K.1.2.2.2.2 gX9_citation_X9_fails rfl rfl rfl (by decide +kernel) ⟨Nat.le_of_ble_eq_true rfl, Nat.le_of_ble_eq_true rfl⟩) rfl (Nat.le_of_ble_eq_true rfl) dX9_citation_33 rfl ⟨Nat.le_of_ble_eq_true rfl, Nat.le_of_ble_eq_true rfl⟩ rfl (fun z_3 C_4 hp_33 => ?_)
      refine z_C hp_33.1 ?_
      refine z_top (0) hp_33.2 ?_
      refine z_C (va_uu _ _ _ _) ?_
      have hK : ¬ kCtn a b w = 0 := by unfold kCtn; (repeat' split) <;> omega
      exact z_iret K rfl dX9_citation_36 ⟨rfl, (by rw [if_neg hK])⟩
    · skip
      refine z_iload_n 23 K dX9_citation_22 rfl rfl 3 rfl ?_
      refine z_iconst 24 K dX9_citation_23 rfl ?_
      refine z_iconst 25 K dX9_citation_24 rfl ?_
      refine z_vSi (As := [.int (iZ w), .int (iZ 0), .int (iZ 4)]) (rest := []) 28 K (m_X9_in l g _ w 0 4 (by omega) (by omega) (by omega)) (va_cwS 3 K.1.2.2.2.2 gX9_citation_X9_in rfl rfl rfl (by decide +kernel) ⟨Nat.le_of_ble_eq_true rfl, Nat.le_of_ble_eq_true rfl⟩) rfl (Nat.le_of_ble_eq_true rfl) dX9_citation_25 rfl ⟨Nat.le_of_ble_eq_true rfl, Nat.le_of_ble_eq_true rfl⟩ rfl (fun z_5 C_6 hp_25 => ?_)
      refine z_C hp_25.1 ?_
      refine z_top (b2i (decide (0 ≤ w ∧ w ≤ 4))) hp_25.2 ?_
      refine z_if_ne (tgt := 37) 31 K dX9_citation_28 rfl (by decide) (b2i_ir _) (fun c_28 => ?_) (fun c_28 => ?_)
      · have d_28 := b2i_decn.mp c_28
        refine z_iload_n 38 K dX9_citation_37 rfl rfl 2 rfl ?_
        refine z_aload_n 39 K dX9_citation_38 rfl rfl 0 rfl ?_
        refine z_get 42 K hin_X9_citation_X9 94 (by decide) (va_up_eq _ 94 _) rfl 0 (by decide) (by decide +kernel : Cond.fieldLink RX9 7 "BriefBuilderModel" "now" "[I" ∈ wsX9_citation) (fun _ h9 => h9) rfl dX9_citation_39 rfl ?_
        refine z_iload_n 43 K dX9_citation_42 rfl rfl 1 rfl ?_
        refine z_vSi (As := [.ref (aD g 95), .int (iZ a)]) (rest := [.int (iZ b)]) 46 K (m_X9_cites l g _ 95 a f (by decide) ((va_up_ne _ _ (by decide)).trans hN) (by omega)) (va_cwS 2 K.1.2.2.2.2 gX9_citation_X9_cites rfl rfl rfl (by decide +kernel) ⟨Nat.le_of_ble_eq_true rfl, Nat.le_of_ble_eq_true rfl⟩) rfl (Nat.le_of_ble_eq_true rfl) dX9_citation_43 rfl ⟨Nat.le_of_ble_eq_true rfl, Nat.le_of_ble_eq_true rfl⟩ rfl (fun z_7 C_8 hp_43 => ?_)
        refine z_C hp_43.1 ?_
        refine z_top (f (32 * a + 65)) hp_43.2 ?_
        have hp43 := hw.pa a (by omega) (by omega)
        refine z_icmp_ge (tgt := 59) 49 K dX9_citation_46 rfl (by decide) (by omega) (by omega) (fun c_46 => ?_) (fun c_46 => ?_)
        · skip
          refine z_iconst 60 K dX9_citation_59 rfl ?_
          have hK : kCtn a b w = 0 := by unfold kCtn; (repeat' split) <;> omega
          exact z_iret K rfl dX9_citation_60 ⟨(by rw [hK] <;> rfl), (by rw [if_pos hK] <;> (first | rw [if_pos (by omega)] | rw [if_neg (by omega)]))⟩
        · skip
          refine z_aload_n 50 K dX9_citation_49 rfl rfl 0 rfl ?_
          refine z_iload_n 51 K dX9_citation_50 rfl rfl 1 rfl ?_
          refine z_iload_n 52 K dX9_citation_51 rfl rfl 2 rfl ?_
          refine z_iload_n 53 K dX9_citation_52 rfl rfl 3 rfl ?_
          refine z_vVi (As := [.int (iZ a), .int (iZ b), .int (iZ w)]) (rest := []) 56 K 94 (by decide) (va_up_eq _ 94 _) rfl rfl (m_X9_ofCitation l g _ a b w k ty 0 pt fl to f _ (va_up_eq _ 94 _) ((va_up_ne _ _ (by decide)).trans hN) hw hcap (by omega) (by omega) (by omega)) (cwV 3 K.1.2.2.2.2 gX9_citation_X9_ofCitation rfl rfl rfl (by decide +kernel) ⟨Nat.le_of_ble_eq_true rfl, Nat.le_of_ble_eq_true rfl⟩) rfl (Nat.le_of_ble_eq_true rfl) dX9_citation_53 rfl ⟨Nat.le_of_ble_eq_true rfl, Nat.le_of_ble_eq_true rfl⟩ rfl (fun z_9 C_10 hp_53 => ?_)
          refine z_C hp_53.1 ?_
          refine z_top (sOfC f a b w) hp_53.2 ?_
          refine z_goto (tgt := 60) K dX9_citation_56 (by decide) ?_
          have hK : kCtn a b w = 0 := by unfold kCtn; (repeat' split) <;> omega
          exact z_iret K rfl dX9_citation_60 ⟨(by rw [hK] <;> rfl), (by rw [if_pos hK] <;> (first | rw [if_pos (by omega)] | rw [if_neg (by omega)]))⟩
      · have d_28 := b2i_dec0.mp c_28
        refine z_aload_n 32 K dX9_citation_31 rfl rfl 0 rfl ?_
        refine z_iconst 33 K dX9_citation_32 rfl ?_
        refine z_top (kCtn a b w) (by unfold kCtn; (repeat' split) <;> omega) ?_
        refine z_vVi (As := [.int (iZ (kCtn a b w))]) (rest := []) 36 K 94 (by decide) (va_up_eq _ 94 _) rfl rfl (m_X9_fails l g _ (kCtn a b w) k ty 0 pt fl to (va_up_eq _ 94 _)) (cwV 1 K.1.2.2.2.2 gX9_citation_X9_fails rfl rfl rfl (by decide +kernel) ⟨Nat.le_of_ble_eq_true rfl, Nat.le_of_ble_eq_true rfl⟩) rfl (Nat.le_of_ble_eq_true rfl) dX9_citation_33 rfl ⟨Nat.le_of_ble_eq_true rfl, Nat.le_of_ble_eq_true rfl⟩ rfl (fun z_11 C_12 hp_33 => ?_)
        refine z_C hp_33.1 ?_
        refine z_top (0) hp_33.2 ?_
        refine z_C (va_uu _ _ _ _) ?_
        have hK : ¬ kCtn a b w = 0 := by unfold kCtn; (repeat' split) <;> omega
        exact z_iret K rfl dX9_citation_36 ⟨rfl, (by rw [if_neg hK])⟩
  · have d_9 := b2i_dec0.mp c_9
    refine z_aload_n 13 K dX9_citation_12 rfl rfl 0 rfl ?_
    refine z_iconst 14 K dX9_citation_13 rfl ?_
    refine z_top (kCtn a b w) (by unfold kCtn; (repeat' split) <;> omega) ?_
    refine z_vVi (As := [.int (iZ (kCtn a b w))]) (rest := []) 17 K 94 (by decide) (va_up_eq _ 94 _) rfl rfl (m_X9_fails l g _ (kCtn a b w) k ty 0 pt fl to (va_up_eq _ 94 _)) (cwV 1 K.1.2.2.2.2 gX9_citation_X9_fails rfl rfl rfl (by decide +kernel) ⟨Nat.le_of_ble_eq_true rfl, Nat.le_of_ble_eq_true rfl⟩) rfl (Nat.le_of_ble_eq_true rfl) dX9_citation_14 rfl ⟨Nat.le_of_ble_eq_true rfl, Nat.le_of_ble_eq_true rfl⟩ rfl (fun z_13 C_14 hp_14 => ?_)
    refine z_C hp_14.1 ?_
    refine z_top (0) hp_14.2 ?_
    refine z_C (va_uu _ _ _ _) ?_
    have hK : ¬ kCtn a b w = 0 := by unfold kCtn; (repeat' split) <;> omega
    exact z_iret K rfl dX9_citation_17 ⟨rfl, (by rw [if_neg hK])⟩
set_option maxRecDepth 20000 in
theorem hin_X9_paragraph_X9 : ∀ w ∈ wsX90, w ∈ wsX9_paragraph := by decide +kernel
set_option maxHeartbeats 4000000 in
set_option maxRecDepth 100000 in
theorem m_X9_paragraph (l : Launch) (g : zG) (C : Nat → va_E) (a : Int) (w : Int) (k : Int) (ty : Int) (th : Int) (pt : Int) (fl : Int) (to : Int) (f : Int → Int) (cap : Int) (hM : C 94 = .inr (9, [.ref (aD g 95), .ref (aD g 96), .ref (aD g 97), .int (iZ k), .ref (aD g 98), .int (iZ ty), .int (iZ th), .int (iZ pt), .int (iZ fl), .ref (aD g 99), .int (iZ to)])) (hN : C 95 = eI g 449 f) (hw : WF f cap) (hcap : cap ≤ 100000) (hk : 0 ≤ k ∧ k ≤ 6) (h_a : -2147483648 ≤ a ∧ a < 2147483648) (h_w : -2147483648 ≤ w ∧ w < 2147483648) : Met l yX9_paragraph wsX9_paragraph ({ frames := 5, cells := 0, slots := 0, locals := 114 } : Room) (zPre g C [.ref (aD g 94), .int (iZ a), .int (iZ w)]) (zQi g (fun z C' => C' = va_up C 94 (.inr (9, [.ref (aD g 95), .ref (aD g 96), .ref (aD g 97), .int (iZ k), .ref (aD g 98), .int (iZ ty), .int (iZ (kPrg a w)), .int (iZ pt), .int (iZ fl), .ref (aD g 99), .int (iZ to)])) ∧ z = if kPrg a w = 0 then sOfP f a w else 0)) 0 0 (zA g) := by
  refine z_enter RX9 rfl (by decide) rfl (Nat.le_of_ble_eq_true rfl) ?_
  intro p e s m args below meth c K harg
  refine z_sub (lv' := [(0, .ref (aD g 94)), (1, .int (iZ a)), (2, .int (iZ w))]) [0, 1, 2] rfl ?_
  have hn := hw.n
  have hwr := hw.wr
  refine z_aload_n 1 K dX9_paragraph_0 rfl rfl 0 rfl ?_
  refine z_iconst 2 K dX9_paragraph_1 rfl ?_
  refine z_put (ty := .int) 5 K hin_X9_paragraph_X9 tyX9 tyX9_ok nmX9 94 (by decide) hM rfl 6 (by decide) (by decide +kernel : Cond.fieldLink RX9 25 "BriefBuilderModel" "thrown" "I" ∈ wsX9_paragraph) (fun _ h9 => h9) rfl (by decide +kernel) rfl rfl (Nat.le_of_ble_eq_true rfl) dX9_paragraph_2 rfl ?_
  show Z p l e (({ frames := 5, cells := 0, slots := 0, locals := 114 } : Room)) s m args below meth c (MQ below (zQi g (fun z C' => C' = va_up C 94 (.inr (9, [.ref (aD g 95), .ref (aD g 96), .ref (aD g 97), .int (iZ k), .ref (aD g 98), .int (iZ ty), .int (iZ (kPrg a w)), .int (iZ pt), .int (iZ fl), .ref (aD g 99), .int (iZ to)])) ∧ z = if kPrg a w = 0 then sOfP f a w else 0)) args s 0 0 (zA g)) g _ _ _ (va_up C 94 (.inr (9, [.ref (aD g 95), .ref (aD g 96), .ref (aD g 97), .int (iZ k), .ref (aD g 98), .int (iZ ty), .int (iZ 0), .int (iZ pt), .int (iZ fl), .ref (aD g 99), .int (iZ to)]))) [(0, .ref (aD g 94)), (1, .int (iZ a)), (2, .int (iZ w))] 5 []
  refine z_iload_n 6 K dX9_paragraph_5 rfl rfl 1 rfl ?_
  refine z_vSi (As := [.int (iZ a)]) (rest := []) 9 K (m_X9_isParagraph l g _ a (by omega)) (va_cwS 1 K.1.2.2.2.2 gX9_paragraph_X9_isParagraph rfl rfl rfl (by decide +kernel) ⟨Nat.le_of_ble_eq_true rfl, Nat.le_of_ble_eq_true rfl⟩) rfl (Nat.le_of_ble_eq_true rfl) dX9_paragraph_6 rfl ⟨Nat.le_of_ble_eq_true rfl, Nat.le_of_ble_eq_true rfl⟩ rfl (fun z_1 C_2 hp_6 => ?_)
  refine z_C hp_6.1 ?_
  refine z_top (b2i (decide (0 ≤ a ∧ a ≤ 11))) hp_6.2 ?_
  refine z_if_ne (tgt := 18) 12 K dX9_paragraph_9 rfl (by decide) (b2i_ir _) (fun c_9 => ?_) (fun c_9 => ?_)
  · have d_9 := b2i_decn.mp c_9
    refine z_iload_n 19 K dX9_paragraph_18 rfl rfl 2 rfl ?_
    refine z_iconst 20 K dX9_paragraph_19 rfl ?_
    refine z_iconst 21 K dX9_paragraph_20 rfl ?_
    refine z_vSi (As := [.int (iZ w), .int (iZ 0), .int (iZ 3)]) (rest := []) 24 K (m_X9_in l g _ w 0 3 (by omega) (by omega) (by omega)) (va_cwS 3 K.1.2.2.2.2 gX9_paragraph_X9_in rfl rfl rfl (by decide +kernel) ⟨Nat.le_of_ble_eq_true rfl, Nat.le_of_ble_eq_true rfl⟩) rfl (Nat.le_of_ble_eq_true rfl) dX9_paragraph_21 rfl ⟨Nat.le_of_ble_eq_true rfl, Nat.le_of_ble_eq_true rfl⟩ rfl (fun z_3 C_4 hp_21 => ?_)
    refine z_C hp_21.1 ?_
    refine z_top (b2i (decide (0 ≤ w ∧ w ≤ 3))) hp_21.2 ?_
    refine z_if_eq (tgt := 36) 27 K dX9_paragraph_24 rfl (by decide) (b2i_ir _) (fun c_24 => ?_) (fun c_24 => ?_)
    · have d_24 := b2i_dec0.mp c_24
      refine z_aload_n 37 K dX9_paragraph_36 rfl rfl 0 rfl ?_
      refine z_iconst 38 K dX9_paragraph_37 rfl ?_
      refine z_top (kPrg a w) (by unfold kPrg; (repeat' split) <;> omega) ?_
      refine z_vVi (As := [.int (iZ (kPrg a w))]) (rest := []) 41 K 94 (by decide) (va_up_eq _ 94 _) rfl rfl (m_X9_fails l g _ (kPrg a w) k ty 0 pt fl to (va_up_eq _ 94 _)) (cwV 1 K.1.2.2.2.2 gX9_paragraph_X9_fails rfl rfl rfl (by decide +kernel) ⟨Nat.le_of_ble_eq_true rfl, Nat.le_of_ble_eq_true rfl⟩) rfl (Nat.le_of_ble_eq_true rfl) dX9_paragraph_38 rfl ⟨Nat.le_of_ble_eq_true rfl, Nat.le_of_ble_eq_true rfl⟩ rfl (fun z_5 C_6 hp_38 => ?_)
      refine z_C hp_38.1 ?_
      refine z_top (0) hp_38.2 ?_
      refine z_C (va_uu _ _ _ _) ?_
      have hK : ¬ kPrg a w = 0 := by unfold kPrg; (repeat' split) <;> omega
      exact z_iret K rfl dX9_paragraph_41 ⟨rfl, (by rw [if_neg hK])⟩
    · have d_24 := b2i_decn.mp c_24
      refine z_aload_n 28 K dX9_paragraph_27 rfl rfl 0 rfl ?_
      refine z_iload_n 29 K dX9_paragraph_28 rfl rfl 1 rfl ?_
      refine z_iload_n 30 K dX9_paragraph_29 rfl rfl 2 rfl ?_
      refine z_vVi (As := [.int (iZ a), .int (iZ w)]) (rest := []) 33 K 94 (by decide) (va_up_eq _ 94 _) rfl rfl (m_X9_ofParagraph l g _ a w k ty 0 pt fl to f _ (va_up_eq _ 94 _) ((va_up_ne _ _ (by decide)).trans hN) hw hcap (by omega) (by omega)) (cwV 2 K.1.2.2.2.2 gX9_paragraph_X9_ofParagraph rfl rfl rfl (by decide +kernel) ⟨Nat.le_of_ble_eq_true rfl, Nat.le_of_ble_eq_true rfl⟩) rfl (Nat.le_of_ble_eq_true rfl) dX9_paragraph_30 rfl ⟨Nat.le_of_ble_eq_true rfl, Nat.le_of_ble_eq_true rfl⟩ rfl (fun z_7 C_8 hp_30 => ?_)
      refine z_C hp_30.1 ?_
      refine z_top (sOfP f a w) hp_30.2 ?_
      refine z_goto (tgt := 41) K dX9_paragraph_33 (by decide) ?_
      have hK : kPrg a w = 0 := by unfold kPrg; (repeat' split) <;> omega
      exact z_iret K rfl dX9_paragraph_41 ⟨(by rw [hK] <;> rfl), (by rw [if_pos hK] <;> rfl)⟩
  · have d_9 := b2i_dec0.mp c_9
    refine z_aload_n 13 K dX9_paragraph_12 rfl rfl 0 rfl ?_
    refine z_iconst 14 K dX9_paragraph_13 rfl ?_
    refine z_top (kPrg a w) (by unfold kPrg; (repeat' split) <;> omega) ?_
    refine z_vVi (As := [.int (iZ (kPrg a w))]) (rest := []) 17 K 94 (by decide) (va_up_eq _ 94 _) rfl rfl (m_X9_fails l g _ (kPrg a w) k ty 0 pt fl to (va_up_eq _ 94 _)) (cwV 1 K.1.2.2.2.2 gX9_paragraph_X9_fails rfl rfl rfl (by decide +kernel) ⟨Nat.le_of_ble_eq_true rfl, Nat.le_of_ble_eq_true rfl⟩) rfl (Nat.le_of_ble_eq_true rfl) dX9_paragraph_14 rfl ⟨Nat.le_of_ble_eq_true rfl, Nat.le_of_ble_eq_true rfl⟩ rfl (fun z_9 C_10 hp_14 => ?_)
    refine z_C hp_14.1 ?_
    refine z_top (0) hp_14.2 ?_
    refine z_C (va_uu _ _ _ _) ?_
    have hK : ¬ kPrg a w = 0 := by unfold kPrg; (repeat' split) <;> omega
    exact z_iret K rfl dX9_paragraph_17 ⟨rfl, (by rw [if_neg hK])⟩
set_option maxRecDepth 20000 in
theorem hin_X9_count_X9 : ∀ w ∈ wsX90, w ∈ wsX9_count := by decide +kernel
set_option maxHeartbeats 4000000 in
set_option maxRecDepth 100000 in
theorem m_X9_count (l : Launch) (g : zG) (C : Nat → va_E) (w : Int) (k : Int) (ty : Int) (th : Int) (pt : Int) (fl : Int) (to : Int) (f : Int → Int) (cap : Int) (hM : C 94 = .inr (9, [.ref (aD g 95), .ref (aD g 96), .ref (aD g 97), .int (iZ k), .ref (aD g 98), .int (iZ ty), .int (iZ th), .int (iZ pt), .int (iZ fl), .ref (aD g 99), .int (iZ to)])) (hN : C 95 = eI g 449 f) (hw : WF f cap) (hcap : cap ≤ 100000) (hk : 0 ≤ k ∧ k ≤ 6) (h_w : -2147483648 ≤ w ∧ w < 2147483648) : Met l yX9_count wsX9_count ({ frames := 6, cells := 0, slots := 0, locals := 135 } : Room) (zPre g C [.ref (aD g 94), .int (iZ w)]) (zQi g (fun z C' => C' = va_up C 94 (.inr (9, [.ref (aD g 95), .ref (aD g 96), .ref (aD g 97), .int (iZ k), .ref (aD g 98), .int (iZ ty), .int (iZ (kCnt w)), .int (iZ pt), .int (iZ fl), .ref (aD g 99), .int (iZ to)])) ∧ z = if kCnt w = 0 then sCnt f k w else 0)) 0 0 (zA g) := by
  refine z_enter RX9 rfl (by decide) rfl (Nat.le_of_ble_eq_true rfl) ?_
  intro p e s m args below meth c K harg
  refine z_sub (lv' := [(0, .ref (aD g 94)), (1, .int (iZ w))]) [0, 1] rfl ?_
  have hn := hw.n
  have hwr := hw.wr
  refine z_aload_n 1 K dX9_count_0 rfl rfl 0 rfl ?_
  refine z_iconst 2 K dX9_count_1 rfl ?_
  refine z_put (ty := .int) 5 K hin_X9_count_X9 tyX9 tyX9_ok nmX9 94 (by decide) hM rfl 6 (by decide) (by decide +kernel : Cond.fieldLink RX9 25 "BriefBuilderModel" "thrown" "I" ∈ wsX9_count) (fun _ h9 => h9) rfl (by decide +kernel) rfl rfl (Nat.le_of_ble_eq_true rfl) dX9_count_2 rfl ?_
  show Z p l e (({ frames := 6, cells := 0, slots := 0, locals := 135 } : Room)) s m args below meth c (MQ below (zQi g (fun z C' => C' = va_up C 94 (.inr (9, [.ref (aD g 95), .ref (aD g 96), .ref (aD g 97), .int (iZ k), .ref (aD g 98), .int (iZ ty), .int (iZ (kCnt w)), .int (iZ pt), .int (iZ fl), .ref (aD g 99), .int (iZ to)])) ∧ z = if kCnt w = 0 then sCnt f k w else 0)) args s 0 0 (zA g)) g _ _ _ (va_up C 94 (.inr (9, [.ref (aD g 95), .ref (aD g 96), .ref (aD g 97), .int (iZ k), .ref (aD g 98), .int (iZ ty), .int (iZ 0), .int (iZ pt), .int (iZ fl), .ref (aD g 99), .int (iZ to)]))) [(0, .ref (aD g 94)), (1, .int (iZ w))] 5 []
  refine z_iload_n 6 K dX9_count_5 rfl rfl 1 rfl ?_
  refine z_iconst 7 K dX9_count_6 rfl ?_
  refine z_bipush 9 K dX9_count_7 rfl rfl ?_
  refine z_vSi (As := [.int (iZ w), .int (iZ 0), .int (iZ 8)]) (rest := []) 12 K (m_X9_in l g _ w 0 8 (by omega) (by omega) (by omega)) (va_cwS 3 K.1.2.2.2.2 gX9_count_X9_in rfl rfl rfl (by decide +kernel) ⟨Nat.le_of_ble_eq_true rfl, Nat.le_of_ble_eq_true rfl⟩) rfl (Nat.le_of_ble_eq_true rfl) dX9_count_9 rfl ⟨Nat.le_of_ble_eq_true rfl, Nat.le_of_ble_eq_true rfl⟩ rfl (fun z_1 C_2 hp_9 => ?_)
  refine z_C hp_9.1 ?_
  refine z_top (b2i (decide (0 ≤ w ∧ w ≤ 8))) hp_9.2 ?_
  refine z_if_eq (tgt := 23) 15 K dX9_count_12 rfl (by decide) (b2i_ir _) (fun c_12 => ?_) (fun c_12 => ?_)
  · have d_12 := b2i_dec0.mp c_12
    refine z_aload_n 24 K dX9_count_23 rfl rfl 0 rfl ?_
    refine z_iconst 25 K dX9_count_24 rfl ?_
    refine z_top (kCnt w) (by unfold kCnt; (repeat' split) <;> omega) ?_
    refine z_vVi (As := [.int (iZ (kCnt w))]) (rest := []) 28 K 94 (by decide) (va_up_eq _ 94 _) rfl rfl (m_X9_fails l g _ (kCnt w) k ty 0 pt fl to (va_up_eq _ 94 _)) (cwV 1 K.1.2.2.2.2 gX9_count_X9_fails rfl rfl rfl (by decide +kernel) ⟨Nat.le_of_ble_eq_true rfl, Nat.le_of_ble_eq_true rfl⟩) rfl (Nat.le_of_ble_eq_true rfl) dX9_count_25 rfl ⟨Nat.le_of_ble_eq_true rfl, Nat.le_of_ble_eq_true rfl⟩ rfl (fun z_3 C_4 hp_25 => ?_)
    refine z_C hp_25.1 ?_
    refine z_top (0) hp_25.2 ?_
    refine z_C (va_uu _ _ _ _) ?_
    have hK : ¬ kCnt w = 0 := by unfold kCnt; (repeat' split) <;> omega
    exact z_iret K rfl dX9_count_28 ⟨rfl, (by rw [if_neg hK])⟩
  · have d_12 := b2i_decn.mp c_12
    refine z_aload_n 16 K dX9_count_15 rfl rfl 0 rfl ?_
    refine z_iload_n 17 K dX9_count_16 rfl rfl 1 rfl ?_
    refine z_vVi (As := [.int (iZ w)]) (rest := []) 20 K 94 (by decide) (va_up_eq _ 94 _) rfl rfl (m_X9_counted l g _ w k ty 0 pt fl to f _ (va_up_eq _ 94 _) ((va_up_ne _ _ (by decide)).trans hN) hw hcap (by omega)) (cwV 1 K.1.2.2.2.2 gX9_count_X9_counted rfl rfl rfl (by decide +kernel) ⟨Nat.le_of_ble_eq_true rfl, Nat.le_of_ble_eq_true rfl⟩) rfl (Nat.le_of_ble_eq_true rfl) dX9_count_17 rfl ⟨Nat.le_of_ble_eq_true rfl, Nat.le_of_ble_eq_true rfl⟩ rfl (fun z_5 C_6 hp_17 => ?_)
    refine z_C hp_17.1 ?_
    refine z_top (sCnt f k w) hp_17.2 ?_
    refine z_goto (tgt := 28) K dX9_count_20 (by decide) ?_
    have hK : kCnt w = 0 := by unfold kCnt; (repeat' split) <;> omega
    exact z_iret K rfl dX9_count_28 ⟨(by rw [hK] <;> rfl), (by rw [if_pos hK] <;> rfl)⟩
set_option maxRecDepth 20000 in
theorem hin_X9_ifInserted_X9 : ∀ w ∈ wsX90, w ∈ wsX9_ifInserted := by decide +kernel
set_option maxHeartbeats 4000000 in
set_option maxRecDepth 100000 in
theorem m_X9_ifInserted (l : Launch) (g : zG) (C : Nat → va_E) (p0 : Int) (y : Int) (w : Int) (k : Int) (ty : Int) (th : Int) (pt : Int) (fl : Int) (to : Int) (f : Int → Int) (ft : Int → Int) (cap : Int) (hM : C 94 = .inr (9, [.ref (aD g 95), .ref (aD g 96), .ref (aD g 97), .int (iZ k), .ref (aD g 98), .int (iZ ty), .int (iZ th), .int (iZ pt), .int (iZ fl), .ref (aD g 99), .int (iZ to)])) (hN : C 95 = eI g 449 f) (hT : C 96 = eI g 449 ft) (hw : WF f cap) (hcap : cap ≤ 100000) (hk : 0 ≤ k ∧ k ≤ 6) (h_p0 : -2147483648 ≤ p0 ∧ p0 < 2147483648) (h_y : -2147483648 ≤ y ∧ y < 2147483648) (h_w : -2147483648 ≤ w ∧ w < 2147483648) : Met l yX9_ifInserted wsX9_ifInserted ({ frames := 6, cells := 0, slots := 0, locals := 137 } : Room) (zPre g C [.ref (aD g 94), .int (iZ p0), .int (iZ y), .int (iZ w)]) (zQi g (fun z C' => ∃ gt : Int → Int, C' = va_up (va_up C 96 (eI g 449 gt)) 94 (.inr (9, [.ref (aD g 95), .ref (aD g 96), .ref (aD g 97), .int (iZ k), .ref (aD g 98), .int (iZ ty), .int (iZ (kIfI f p0 y w)), .int (iZ pt), .int (iZ fl), .ref (aD g 99), .int (iZ to)])) ∧ z = if kIfI f p0 y w = 0 then sIns f p0 y w else 0)) 0 0 (zA g) := by
  refine z_enter RX9 rfl (by decide) rfl (Nat.le_of_ble_eq_true rfl) ?_
  intro p e s m args below meth c K harg
  refine z_sub (lv' := [(0, .ref (aD g 94)), (1, .int (iZ p0)), (2, .int (iZ y)), (3, .int (iZ w))]) [0, 1, 2, 3] rfl ?_
  have hn := hw.n
  have hwr := hw.wr
  refine z_aload_n 1 K dX9_ifInserted_0 rfl rfl 0 rfl ?_
  refine z_iconst 2 K dX9_ifInserted_1 rfl ?_
  refine z_put (ty := .int) 5 K hin_X9_ifInserted_X9 tyX9 tyX9_ok nmX9 94 (by decide) hM rfl 6 (by decide) (by decide +kernel : Cond.fieldLink RX9 25 "BriefBuilderModel" "thrown" "I" ∈ wsX9_ifInserted) (fun _ h9 => h9) rfl (by decide +kernel) rfl rfl (Nat.le_of_ble_eq_true rfl) dX9_ifInserted_2 rfl ?_
  show Z p l e (({ frames := 6, cells := 0, slots := 0, locals := 137 } : Room)) s m args below meth c (MQ below (zQi g (fun z C' => ∃ gt : Int → Int, C' = va_up (va_up C 96 (eI g 449 gt)) 94 (.inr (9, [.ref (aD g 95), .ref (aD g 96), .ref (aD g 97), .int (iZ k), .ref (aD g 98), .int (iZ ty), .int (iZ (kIfI f p0 y w)), .int (iZ pt), .int (iZ fl), .ref (aD g 99), .int (iZ to)])) ∧ z = if kIfI f p0 y w = 0 then sIns f p0 y w else 0)) args s 0 0 (zA g)) g _ _ _ (va_up C 94 (.inr (9, [.ref (aD g 95), .ref (aD g 96), .ref (aD g 97), .int (iZ k), .ref (aD g 98), .int (iZ ty), .int (iZ 0), .int (iZ pt), .int (iZ fl), .ref (aD g 99), .int (iZ to)]))) [(0, .ref (aD g 94)), (1, .int (iZ p0)), (2, .int (iZ y)), (3, .int (iZ w))] 5 []
  refine z_iload_n 6 K dX9_ifInserted_5 rfl rfl 1 rfl ?_
  refine z_iconst 7 K dX9_ifInserted_6 rfl ?_
  refine z_aload_n 8 K dX9_ifInserted_7 rfl rfl 0 rfl ?_
  refine z_get 11 K hin_X9_ifInserted_X9 94 (by decide) (va_up_eq _ 94 _) rfl 0 (by decide) (by decide +kernel : Cond.fieldLink RX9 7 "BriefBuilderModel" "now" "[I" ∈ wsX9_ifInserted) (fun _ h9 => h9) rfl dX9_ifInserted_8 rfl ?_
  refine z_iconst 12 K dX9_ifInserted_11 rfl ?_
  refine z_iald (f := f) 13 K 95 (by decide) ((va_up_ne _ _ (by decide)).trans hN) (by decide) (by decide) (by decide) dX9_ifInserted_12 rfl ?_
  have hr_12 := hw.rg 1
  refine z_vSi (As := [.int (iZ p0), .int (iZ 0), .int (iZ (f 1))]) (rest := []) 16 K (m_X9_in l g _ p0 0 (f 1) (by omega) (by omega) (by omega)) (va_cwS 3 K.1.2.2.2.2 gX9_ifInserted_X9_in rfl rfl rfl (by decide +kernel) ⟨Nat.le_of_ble_eq_true rfl, Nat.le_of_ble_eq_true rfl⟩) rfl (Nat.le_of_ble_eq_true rfl) dX9_ifInserted_13 rfl ⟨Nat.le_of_ble_eq_true rfl, Nat.le_of_ble_eq_true rfl⟩ rfl (fun z_1 C_2 hp_13 => ?_)
  refine z_C hp_13.1 ?_
  refine z_top (b2i (decide (0 ≤ p0 ∧ p0 ≤ (f 1)))) hp_13.2 ?_
  refine z_if_ne (tgt := 25) 19 K dX9_ifInserted_16 rfl (by decide) (b2i_ir _) (fun c_16 => ?_) (fun c_16 => ?_)
  · have d_16 := b2i_decn.mp c_16
    refine z_iload_n 26 K dX9_ifInserted_25 rfl rfl 2 rfl ?_
    refine z_vSi (As := [.int (iZ y)]) (rest := []) 29 K (m_X9_arePages l g _ y (by omega)) (va_cwS 1 K.1.2.2.2.2 gX9_ifInserted_X9_arePages rfl rfl rfl (by decide +kernel) ⟨Nat.le_of_ble_eq_true rfl, Nat.le_of_ble_eq_true rfl⟩) rfl (Nat.le_of_ble_eq_true rfl) dX9_ifInserted_26 rfl ⟨Nat.le_of_ble_eq_true rfl, Nat.le_of_ble_eq_true rfl⟩ rfl (fun z_3 C_4 hp_26 => ?_)
    refine z_C hp_26.1 ?_
    refine z_top (b2i (decide (1 ≤ y ∧ y ≤ 60))) hp_26.2 ?_
    refine z_if_eq (tgt := 51) 32 K dX9_ifInserted_29 rfl (by decide) (b2i_ir _) (fun c_29 => ?_) (fun c_29 => ?_)
    · have d_29 := b2i_dec0.mp c_29
      refine z_aload_n 52 K dX9_ifInserted_51 rfl rfl 0 rfl ?_
      refine z_iconst 53 K dX9_ifInserted_52 rfl ?_
      refine z_top (kIfI f p0 y w) (by unfold kIfI; (repeat' split) <;> omega) ?_
      refine z_vVi (As := [.int (iZ (kIfI f p0 y w))]) (rest := []) 56 K 94 (by decide) (va_up_eq _ 94 _) rfl rfl (m_X9_fails l g _ (kIfI f p0 y w) k ty 0 pt fl to (va_up_eq _ 94 _)) (cwV 1 K.1.2.2.2.2 gX9_ifInserted_X9_fails rfl rfl rfl (by decide +kernel) ⟨Nat.le_of_ble_eq_true rfl, Nat.le_of_ble_eq_true rfl⟩) rfl (Nat.le_of_ble_eq_true rfl) dX9_ifInserted_53 rfl ⟨Nat.le_of_ble_eq_true rfl, Nat.le_of_ble_eq_true rfl⟩ rfl (fun z_5 C_6 hp_53 => ?_)
      refine z_C hp_53.1 ?_
      refine z_top (0) hp_53.2 ?_
      refine z_C (va_uu _ _ _ _) ?_
      refine z_C (va_us ((va_up_ne _ _ (by decide)).trans hT)).symm ?_
      refine z_C (va_ur1 (by decide)) ?_
      have hK : ¬ kIfI f p0 y w = 0 := by unfold kIfI; (repeat' split) <;> omega
      exact z_iret K rfl dX9_ifInserted_56 ⟨_, rfl, (by rw [if_neg hK])⟩
    · have d_29 := b2i_decn.mp c_29
      refine z_iload_n 33 K dX9_ifInserted_32 rfl rfl 3 rfl ?_
      refine z_iconst 34 K dX9_ifInserted_33 rfl ?_
      refine z_iconst 35 K dX9_ifInserted_34 rfl ?_
      refine z_vSi (As := [.int (iZ w), .int (iZ 0), .int (iZ 1)]) (rest := []) 38 K (m_X9_in l g _ w 0 1 (by omega) (by omega) (by omega)) (va_cwS 3 K.1.2.2.2.2 gX9_ifInserted_X9_in rfl rfl rfl (by decide +kernel) ⟨Nat.le_of_ble_eq_true rfl, Nat.le_of_ble_eq_true rfl⟩) rfl (Nat.le_of_ble_eq_true rfl) dX9_ifInserted_35 rfl ⟨Nat.le_of_ble_eq_true rfl, Nat.le_of_ble_eq_true rfl⟩ rfl (fun z_7 C_8 hp_35 => ?_)
      refine z_C hp_35.1 ?_
      refine z_top (b2i (decide (0 ≤ w ∧ w ≤ 1))) hp_35.2 ?_
      refine z_if_eq (tgt := 51) 41 K dX9_ifInserted_38 rfl (by decide) (b2i_ir _) (fun c_38 => ?_) (fun c_38 => ?_)
      · have d_38 := b2i_dec0.mp c_38
        refine z_aload_n 52 K dX9_ifInserted_51 rfl rfl 0 rfl ?_
        refine z_iconst 53 K dX9_ifInserted_52 rfl ?_
        refine z_top (kIfI f p0 y w) (by unfold kIfI; (repeat' split) <;> omega) ?_
        refine z_vVi (As := [.int (iZ (kIfI f p0 y w))]) (rest := []) 56 K 94 (by decide) (va_up_eq _ 94 _) rfl rfl (m_X9_fails l g _ (kIfI f p0 y w) k ty 0 pt fl to (va_up_eq _ 94 _)) (cwV 1 K.1.2.2.2.2 gX9_ifInserted_X9_fails rfl rfl rfl (by decide +kernel) ⟨Nat.le_of_ble_eq_true rfl, Nat.le_of_ble_eq_true rfl⟩) rfl (Nat.le_of_ble_eq_true rfl) dX9_ifInserted_53 rfl ⟨Nat.le_of_ble_eq_true rfl, Nat.le_of_ble_eq_true rfl⟩ rfl (fun z_9 C_10 hp_53 => ?_)
        refine z_C hp_53.1 ?_
        refine z_top (0) hp_53.2 ?_
        refine z_C (va_uu _ _ _ _) ?_
        refine z_C (va_us ((va_up_ne _ _ (by decide)).trans hT)).symm ?_
        refine z_C (va_ur1 (by decide)) ?_
        have hK : ¬ kIfI f p0 y w = 0 := by unfold kIfI; (repeat' split) <;> omega
        exact z_iret K rfl dX9_ifInserted_56 ⟨_, rfl, (by rw [if_neg hK])⟩
      · have d_38 := b2i_decn.mp c_38
        refine z_aload_n 42 K dX9_ifInserted_41 rfl rfl 0 rfl ?_
        refine z_iload_n 43 K dX9_ifInserted_42 rfl rfl 1 rfl ?_
        refine z_iload_n 44 K dX9_ifInserted_43 rfl rfl 2 rfl ?_
        refine z_iload_n 45 K dX9_ifInserted_44 rfl rfl 3 rfl ?_
        refine z_vVi (As := [.int (iZ p0), .int (iZ y), .int (iZ w)]) (rest := []) 48 K 94 (by decide) (va_up_eq _ 94 _) rfl rfl (m_X9_byInserting l g _ p0 y w k ty 0 pt fl to f ft _ (va_up_eq _ 94 _) ((va_up_ne _ _ (by decide)).trans hN) ((va_up_ne _ _ (by decide)).trans hT) hw hcap (by omega) (by omega) (by omega)) (cwV 3 K.1.2.2.2.2 gX9_ifInserted_X9_byInserting rfl rfl rfl (by decide +kernel) ⟨Nat.le_of_ble_eq_true rfl, Nat.le_of_ble_eq_true rfl⟩) rfl (Nat.le_of_ble_eq_true rfl) dX9_ifInserted_45 rfl ⟨Nat.le_of_ble_eq_true rfl, Nat.le_of_ble_eq_true rfl⟩ rfl (fun z_11 C_12 hp_45 => ?_)
        obtain ⟨gt_13, hC_45, hz_45⟩ := hp_45
        refine z_C hC_45 ?_
        refine z_top (sIns f p0 y w) hz_45 ?_
        refine z_goto (tgt := 56) K dX9_ifInserted_48 (by decide) ?_
        refine z_C (va_ur1 (by decide)) ?_
        have hK : kIfI f p0 y w = 0 := by unfold kIfI; (repeat' split) <;> omega
        exact z_iret K rfl dX9_ifInserted_56 ⟨_, (by rw [hK] <;> rfl), (by rw [if_pos hK] <;> rfl)⟩
  · have d_16 := b2i_dec0.mp c_16
    refine z_aload_n 20 K dX9_ifInserted_19 rfl rfl 0 rfl ?_
    refine z_iconst 21 K dX9_ifInserted_20 rfl ?_
    refine z_top (kIfI f p0 y w) (by unfold kIfI; (repeat' split) <;> omega) ?_
    refine z_vVi (As := [.int (iZ (kIfI f p0 y w))]) (rest := []) 24 K 94 (by decide) (va_up_eq _ 94 _) rfl rfl (m_X9_fails l g _ (kIfI f p0 y w) k ty 0 pt fl to (va_up_eq _ 94 _)) (cwV 1 K.1.2.2.2.2 gX9_ifInserted_X9_fails rfl rfl rfl (by decide +kernel) ⟨Nat.le_of_ble_eq_true rfl, Nat.le_of_ble_eq_true rfl⟩) rfl (Nat.le_of_ble_eq_true rfl) dX9_ifInserted_21 rfl ⟨Nat.le_of_ble_eq_true rfl, Nat.le_of_ble_eq_true rfl⟩ rfl (fun z_14 C_15 hp_21 => ?_)
    refine z_C hp_21.1 ?_
    refine z_top (0) hp_21.2 ?_
    refine z_C (va_uu _ _ _ _) ?_
    refine z_C (va_us ((va_up_ne _ _ (by decide)).trans hT)).symm ?_
    refine z_C (va_ur1 (by decide)) ?_
    have hK : ¬ kIfI f p0 y w = 0 := by unfold kIfI; (repeat' split) <;> omega
    exact z_iret K rfl dX9_ifInserted_24 ⟨_, rfl, (by rw [if_neg hK])⟩
set_option maxRecDepth 20000 in
theorem hin_X9_ifDropped_X9 : ∀ w ∈ wsX90, w ∈ wsX9_ifDropped := by decide +kernel
set_option maxHeartbeats 4000000 in
set_option maxRecDepth 100000 in
theorem m_X9_ifDropped (l : Launch) (g : zG) (C : Nat → va_E) (p0 : Int) (w : Int) (k : Int) (ty : Int) (th : Int) (pt : Int) (fl : Int) (to : Int) (f : Int → Int) (ft : Int → Int) (cap : Int) (hM : C 94 = .inr (9, [.ref (aD g 95), .ref (aD g 96), .ref (aD g 97), .int (iZ k), .ref (aD g 98), .int (iZ ty), .int (iZ th), .int (iZ pt), .int (iZ fl), .ref (aD g 99), .int (iZ to)])) (hN : C 95 = eI g 449 f) (hT : C 96 = eI g 449 ft) (hw : WF f cap) (hcap : cap ≤ 100000) (hk : 0 ≤ k ∧ k ≤ 6) (h_p0 : -2147483648 ≤ p0 ∧ p0 < 2147483648) (h_w : -2147483648 ≤ w ∧ w < 2147483648) : Met l yX9_ifDropped wsX9_ifDropped ({ frames := 6, cells := 0, slots := 0, locals := 136 } : Room) (zPre g C [.ref (aD g 94), .int (iZ p0), .int (iZ w)]) (zQi g (fun z C' => ∃ gt : Int → Int, C' = va_up (va_up C 96 (eI g 449 gt)) 94 (.inr (9, [.ref (aD g 95), .ref (aD g 96), .ref (aD g 97), .int (iZ k), .ref (aD g 98), .int (iZ ty), .int (iZ (kIfD f p0 w)), .int (iZ pt), .int (iZ fl), .ref (aD g 99), .int (iZ to)])) ∧ z = if kIfD f p0 w = 0 then sDrp f p0 w else 0)) 0 0 (zA g) := by
  refine z_enter RX9 rfl (by decide) rfl (Nat.le_of_ble_eq_true rfl) ?_
  intro p e s m args below meth c K harg
  refine z_sub (lv' := [(0, .ref (aD g 94)), (1, .int (iZ p0)), (2, .int (iZ w))]) [0, 1, 2] rfl ?_
  have hn := hw.n
  have hwr := hw.wr
  refine z_aload_n 1 K dX9_ifDropped_0 rfl rfl 0 rfl ?_
  refine z_iconst 2 K dX9_ifDropped_1 rfl ?_
  refine z_put (ty := .int) 5 K hin_X9_ifDropped_X9 tyX9 tyX9_ok nmX9 94 (by decide) hM rfl 6 (by decide) (by decide +kernel : Cond.fieldLink RX9 25 "BriefBuilderModel" "thrown" "I" ∈ wsX9_ifDropped) (fun _ h9 => h9) rfl (by decide +kernel) rfl rfl (Nat.le_of_ble_eq_true rfl) dX9_ifDropped_2 rfl ?_
  show Z p l e (({ frames := 6, cells := 0, slots := 0, locals := 136 } : Room)) s m args below meth c (MQ below (zQi g (fun z C' => ∃ gt : Int → Int, C' = va_up (va_up C 96 (eI g 449 gt)) 94 (.inr (9, [.ref (aD g 95), .ref (aD g 96), .ref (aD g 97), .int (iZ k), .ref (aD g 98), .int (iZ ty), .int (iZ (kIfD f p0 w)), .int (iZ pt), .int (iZ fl), .ref (aD g 99), .int (iZ to)])) ∧ z = if kIfD f p0 w = 0 then sDrp f p0 w else 0)) args s 0 0 (zA g)) g _ _ _ (va_up C 94 (.inr (9, [.ref (aD g 95), .ref (aD g 96), .ref (aD g 97), .int (iZ k), .ref (aD g 98), .int (iZ ty), .int (iZ 0), .int (iZ pt), .int (iZ fl), .ref (aD g 99), .int (iZ to)]))) [(0, .ref (aD g 94)), (1, .int (iZ p0)), (2, .int (iZ w))] 5 []
  refine z_aload_n 6 K dX9_ifDropped_5 rfl rfl 0 rfl ?_
  refine z_iload_n 7 K dX9_ifDropped_6 rfl rfl 1 rfl ?_
  refine z_vVi (As := [.int (iZ p0)]) (rest := []) 10 K 94 (by decide) (va_up_eq _ 94 _) rfl rfl (m_X9_isPlace l g _ p0 k ty 0 pt fl to f (va_up_eq _ 94 _) ((va_up_ne _ _ (by decide)).trans hN) (by omega) (by omega)) (cwV 1 K.1.2.2.2.2 gX9_ifDropped_X9_isPlace rfl rfl rfl (by decide +kernel) ⟨Nat.le_of_ble_eq_true rfl, Nat.le_of_ble_eq_true rfl⟩) rfl (Nat.le_of_ble_eq_true rfl) dX9_ifDropped_7 rfl ⟨Nat.le_of_ble_eq_true rfl, Nat.le_of_ble_eq_true rfl⟩ rfl (fun z_1 C_2 hp_7 => ?_)
  refine z_C hp_7.1 ?_
  refine z_top (b2i (decide (0 ≤ p0 ∧ p0 ≤ f 1 - 1))) hp_7.2 ?_
  refine z_if_ne (tgt := 19) 13 K dX9_ifDropped_10 rfl (by decide) (b2i_ir _) (fun c_10 => ?_) (fun c_10 => ?_)
  · have d_10 := b2i_decn.mp c_10
    refine z_iload_n 20 K dX9_ifDropped_19 rfl rfl 2 rfl ?_
    refine z_iconst 21 K dX9_ifDropped_20 rfl ?_
    refine z_iconst 22 K dX9_ifDropped_21 rfl ?_
    refine z_vSi (As := [.int (iZ w), .int (iZ 0), .int (iZ 1)]) (rest := []) 25 K (m_X9_in l g _ w 0 1 (by omega) (by omega) (by omega)) (va_cwS 3 K.1.2.2.2.2 gX9_ifDropped_X9_in rfl rfl rfl (by decide +kernel) ⟨Nat.le_of_ble_eq_true rfl, Nat.le_of_ble_eq_true rfl⟩) rfl (Nat.le_of_ble_eq_true rfl) dX9_ifDropped_22 rfl ⟨Nat.le_of_ble_eq_true rfl, Nat.le_of_ble_eq_true rfl⟩ rfl (fun z_3 C_4 hp_22 => ?_)
    refine z_C hp_22.1 ?_
    refine z_top (b2i (decide (0 ≤ w ∧ w ≤ 1))) hp_22.2 ?_
    refine z_if_eq (tgt := 37) 28 K dX9_ifDropped_25 rfl (by decide) (b2i_ir _) (fun c_25 => ?_) (fun c_25 => ?_)
    · have d_25 := b2i_dec0.mp c_25
      refine z_aload_n 38 K dX9_ifDropped_37 rfl rfl 0 rfl ?_
      refine z_iconst 39 K dX9_ifDropped_38 rfl ?_
      refine z_top (kIfD f p0 w) (by unfold kIfD; (repeat' split) <;> omega) ?_
      refine z_vVi (As := [.int (iZ (kIfD f p0 w))]) (rest := []) 42 K 94 (by decide) (va_up_eq _ 94 _) rfl rfl (m_X9_fails l g _ (kIfD f p0 w) k ty 0 pt fl to (va_up_eq _ 94 _)) (cwV 1 K.1.2.2.2.2 gX9_ifDropped_X9_fails rfl rfl rfl (by decide +kernel) ⟨Nat.le_of_ble_eq_true rfl, Nat.le_of_ble_eq_true rfl⟩) rfl (Nat.le_of_ble_eq_true rfl) dX9_ifDropped_39 rfl ⟨Nat.le_of_ble_eq_true rfl, Nat.le_of_ble_eq_true rfl⟩ rfl (fun z_5 C_6 hp_39 => ?_)
      refine z_C hp_39.1 ?_
      refine z_top (0) hp_39.2 ?_
      refine z_C (va_uu _ _ _ _) ?_
      refine z_C (va_us ((va_up_ne _ _ (by decide)).trans hT)).symm ?_
      refine z_C (va_ur1 (by decide)) ?_
      have hK : ¬ kIfD f p0 w = 0 := by unfold kIfD; (repeat' split) <;> omega
      exact z_iret K rfl dX9_ifDropped_42 ⟨_, rfl, (by rw [if_neg hK])⟩
    · have d_25 := b2i_decn.mp c_25
      refine z_aload_n 29 K dX9_ifDropped_28 rfl rfl 0 rfl ?_
      refine z_iload_n 30 K dX9_ifDropped_29 rfl rfl 1 rfl ?_
      refine z_iload_n 31 K dX9_ifDropped_30 rfl rfl 2 rfl ?_
      refine z_vVi (As := [.int (iZ p0), .int (iZ w)]) (rest := []) 34 K 94 (by decide) (va_up_eq _ 94 _) rfl rfl (m_X9_byDropping l g _ p0 w k ty 0 pt fl to f ft _ (va_up_eq _ 94 _) ((va_up_ne _ _ (by decide)).trans hN) ((va_up_ne _ _ (by decide)).trans hT) hw hcap (by omega) (by omega)) (cwV 2 K.1.2.2.2.2 gX9_ifDropped_X9_byDropping rfl rfl rfl (by decide +kernel) ⟨Nat.le_of_ble_eq_true rfl, Nat.le_of_ble_eq_true rfl⟩) rfl (Nat.le_of_ble_eq_true rfl) dX9_ifDropped_31 rfl ⟨Nat.le_of_ble_eq_true rfl, Nat.le_of_ble_eq_true rfl⟩ rfl (fun z_7 C_8 hp_31 => ?_)
      obtain ⟨gt_9, hC_31, hz_31⟩ := hp_31
      refine z_C hC_31 ?_
      refine z_top (sDrp f p0 w) hz_31 ?_
      refine z_goto (tgt := 42) K dX9_ifDropped_34 (by decide) ?_
      refine z_C (va_ur1 (by decide)) ?_
      have hK : kIfD f p0 w = 0 := by unfold kIfD; (repeat' split) <;> omega
      exact z_iret K rfl dX9_ifDropped_42 ⟨_, (by rw [hK] <;> rfl), (by rw [if_pos hK] <;> rfl)⟩
  · have d_10 := b2i_dec0.mp c_10
    refine z_aload_n 14 K dX9_ifDropped_13 rfl rfl 0 rfl ?_
    refine z_iconst 15 K dX9_ifDropped_14 rfl ?_
    refine z_top (kIfD f p0 w) (by unfold kIfD; (repeat' split) <;> omega) ?_
    refine z_vVi (As := [.int (iZ (kIfD f p0 w))]) (rest := []) 18 K 94 (by decide) (va_up_eq _ 94 _) rfl rfl (m_X9_fails l g _ (kIfD f p0 w) k ty 0 pt fl to (va_up_eq _ 94 _)) (cwV 1 K.1.2.2.2.2 gX9_ifDropped_X9_fails rfl rfl rfl (by decide +kernel) ⟨Nat.le_of_ble_eq_true rfl, Nat.le_of_ble_eq_true rfl⟩) rfl (Nat.le_of_ble_eq_true rfl) dX9_ifDropped_15 rfl ⟨Nat.le_of_ble_eq_true rfl, Nat.le_of_ble_eq_true rfl⟩ rfl (fun z_10 C_11 hp_15 => ?_)
    refine z_C hp_15.1 ?_
    refine z_top (0) hp_15.2 ?_
    refine z_C (va_uu _ _ _ _) ?_
    refine z_C (va_us ((va_up_ne _ _ (by decide)).trans hT)).symm ?_
    refine z_C (va_ur1 (by decide)) ?_
    have hK : ¬ kIfD f p0 w = 0 := by unfold kIfD; (repeat' split) <;> omega
    exact z_iret K rfl dX9_ifDropped_18 ⟨_, rfl, (by rw [if_neg hK])⟩
set_option maxRecDepth 20000 in
theorem hin_X9_bestMove_X9 : ∀ w ∈ wsX90, w ∈ wsX9_bestMove := by decide +kernel
set_option maxHeartbeats 4000000 in
set_option maxRecDepth 100000 in
theorem m_X9_bestMove (l : Launch) (g : zG) (C : Nat → va_E) (p0 : Int) (k : Int) (ty : Int) (th : Int) (pt : Int) (fl : Int) (to : Int) (f : Int → Int) (ft : Int → Int) (cap : Int) (hM : C 94 = .inr (9, [.ref (aD g 95), .ref (aD g 96), .ref (aD g 97), .int (iZ k), .ref (aD g 98), .int (iZ ty), .int (iZ th), .int (iZ pt), .int (iZ fl), .ref (aD g 99), .int (iZ to)])) (hN : C 95 = eI g 449 f) (hT : C 96 = eI g 449 ft) (hw : WF f cap) (hcap : cap ≤ 100000) (hk : 0 ≤ k ∧ k ≤ 6) (h_p0 : -2147483648 ≤ p0 ∧ p0 < 2147483648) : Met l yX9_bestMove wsX9_bestMove ({ frames := 6, cells := 0, slots := 0, locals := 139 } : Room) (zPre g C [.ref (aD g 94), .int (iZ p0)]) (zQi g (fun z C' => ∃ gt : Int → Int, C' = va_up (va_up C 96 (eI g 449 gt)) 94 (.inr (9, [.ref (aD g 95), .ref (aD g 96), .ref (aD g 97), .int (iZ k), .ref (aD g 98), .int (iZ ty), .int (iZ (kPl f p0)), .int (iZ pt), .int (iZ fl), .ref (aD g 99), .int (iZ to)])) ∧ z = if kPl f p0 = 0 then sBest f p0 else 0)) 0 0 (zA g) := by
  refine z_enter RX9 rfl (by decide) rfl (Nat.le_of_ble_eq_true rfl) ?_
  intro p e s m args below meth c K harg
  refine z_sub (lv' := [(0, .ref (aD g 94)), (1, .int (iZ p0))]) [0, 1] rfl ?_
  have hn := hw.n
  have hwr := hw.wr
  refine z_aload_n 1 K dX9_bestMove_0 rfl rfl 0 rfl ?_
  refine z_iconst 2 K dX9_bestMove_1 rfl ?_
  refine z_put (ty := .int) 5 K hin_X9_bestMove_X9 tyX9 tyX9_ok nmX9 94 (by decide) hM rfl 6 (by decide) (by decide +kernel : Cond.fieldLink RX9 25 "BriefBuilderModel" "thrown" "I" ∈ wsX9_bestMove) (fun _ h9 => h9) rfl (by decide +kernel) rfl rfl (Nat.le_of_ble_eq_true rfl) dX9_bestMove_2 rfl ?_
  show Z p l e (({ frames := 6, cells := 0, slots := 0, locals := 139 } : Room)) s m args below meth c (MQ below (zQi g (fun z C' => ∃ gt : Int → Int, C' = va_up (va_up C 96 (eI g 449 gt)) 94 (.inr (9, [.ref (aD g 95), .ref (aD g 96), .ref (aD g 97), .int (iZ k), .ref (aD g 98), .int (iZ ty), .int (iZ (kPl f p0)), .int (iZ pt), .int (iZ fl), .ref (aD g 99), .int (iZ to)])) ∧ z = if kPl f p0 = 0 then sBest f p0 else 0)) args s 0 0 (zA g)) g _ _ _ (va_up C 94 (.inr (9, [.ref (aD g 95), .ref (aD g 96), .ref (aD g 97), .int (iZ k), .ref (aD g 98), .int (iZ ty), .int (iZ 0), .int (iZ pt), .int (iZ fl), .ref (aD g 99), .int (iZ to)]))) [(0, .ref (aD g 94)), (1, .int (iZ p0))] 5 []
  refine z_aload_n 6 K dX9_bestMove_5 rfl rfl 0 rfl ?_
  refine z_iload_n 7 K dX9_bestMove_6 rfl rfl 1 rfl ?_
  refine z_vVi (As := [.int (iZ p0)]) (rest := []) 10 K 94 (by decide) (va_up_eq _ 94 _) rfl rfl (m_X9_isPlace l g _ p0 k ty 0 pt fl to f (va_up_eq _ 94 _) ((va_up_ne _ _ (by decide)).trans hN) (by omega) (by omega)) (cwV 1 K.1.2.2.2.2 gX9_bestMove_X9_isPlace rfl rfl rfl (by decide +kernel) ⟨Nat.le_of_ble_eq_true rfl, Nat.le_of_ble_eq_true rfl⟩) rfl (Nat.le_of_ble_eq_true rfl) dX9_bestMove_7 rfl ⟨Nat.le_of_ble_eq_true rfl, Nat.le_of_ble_eq_true rfl⟩ rfl (fun z_1 C_2 hp_7 => ?_)
  refine z_C hp_7.1 ?_
  refine z_top (b2i (decide (0 ≤ p0 ∧ p0 ≤ f 1 - 1))) hp_7.2 ?_
  refine z_if_eq (tgt := 21) 13 K dX9_bestMove_10 rfl (by decide) (b2i_ir _) (fun c_10 => ?_) (fun c_10 => ?_)
  · have d_10 := b2i_dec0.mp c_10
    refine z_aload_n 22 K dX9_bestMove_21 rfl rfl 0 rfl ?_
    refine z_iconst 23 K dX9_bestMove_22 rfl ?_
    refine z_top (kPl f p0) (by unfold kPl; (repeat' split) <;> omega) ?_
    refine z_vVi (As := [.int (iZ (kPl f p0))]) (rest := []) 26 K 94 (by decide) (va_up_eq _ 94 _) rfl rfl (m_X9_fails l g _ (kPl f p0) k ty 0 pt fl to (va_up_eq _ 94 _)) (cwV 1 K.1.2.2.2.2 gX9_bestMove_X9_fails rfl rfl rfl (by decide +kernel) ⟨Nat.le_of_ble_eq_true rfl, Nat.le_of_ble_eq_true rfl⟩) rfl (Nat.le_of_ble_eq_true rfl) dX9_bestMove_23 rfl ⟨Nat.le_of_ble_eq_true rfl, Nat.le_of_ble_eq_true rfl⟩ rfl (fun z_3 C_4 hp_23 => ?_)
    refine z_C hp_23.1 ?_
    refine z_top (0) hp_23.2 ?_
    refine z_C (va_uu _ _ _ _) ?_
    refine z_C (va_us ((va_up_ne _ _ (by decide)).trans hT)).symm ?_
    refine z_C (va_ur1 (by decide)) ?_
    have hK : ¬ kPl f p0 = 0 := by unfold kPl; (repeat' split) <;> omega
    exact z_iret K rfl dX9_bestMove_26 ⟨_, rfl, (by rw [if_neg hK])⟩
  · have d_10 := b2i_decn.mp c_10
    refine z_aload_n 14 K dX9_bestMove_13 rfl rfl 0 rfl ?_
    refine z_iload_n 15 K dX9_bestMove_14 rfl rfl 1 rfl ?_
    refine z_vVi (As := [.int (iZ p0)]) (rest := []) 18 K 94 (by decide) (va_up_eq _ 94 _) rfl rfl (m_X9_best l g _ p0 k ty 0 pt fl to f ft _ (va_up_eq _ 94 _) ((va_up_ne _ _ (by decide)).trans hN) ((va_up_ne _ _ (by decide)).trans hT) hw hcap (by omega)) (cwV 1 K.1.2.2.2.2 gX9_bestMove_X9_best rfl rfl rfl (by decide +kernel) ⟨Nat.le_of_ble_eq_true rfl, Nat.le_of_ble_eq_true rfl⟩) rfl (Nat.le_of_ble_eq_true rfl) dX9_bestMove_15 rfl ⟨Nat.le_of_ble_eq_true rfl, Nat.le_of_ble_eq_true rfl⟩ rfl (fun z_5 C_6 hp_15 => ?_)
    obtain ⟨gt_7, hC_15, hz_15⟩ := hp_15
    refine z_C hC_15 ?_
    refine z_top (sBest f p0) hz_15 ?_
    refine z_goto (tgt := 26) K dX9_bestMove_18 (by decide) ?_
    refine z_C (va_ur1 (by decide)) ?_
    have hK : kPl f p0 = 0 := by unfold kPl; (repeat' split) <;> omega
    exact z_iret K rfl dX9_bestMove_26 ⟨_, (by rw [hK] <;> rfl), (by rw [if_pos hK] <;> rfl)⟩
set_option maxRecDepth 20000 in
theorem hin_X9_leastPages_X9 : ∀ w ∈ wsX90, w ∈ wsX9_leastPages := by decide +kernel
set_option maxHeartbeats 4000000 in
set_option maxRecDepth 100000 in
theorem m_X9_leastPages (l : Launch) (g : zG) (C : Nat → va_E) (m0 : Int) (k : Int) (ty : Int) (th : Int) (pt : Int) (fl : Int) (to : Int) (f : Int → Int) (ft : Int → Int) (cap : Int) (hM : C 94 = .inr (9, [.ref (aD g 95), .ref (aD g 96), .ref (aD g 97), .int (iZ k), .ref (aD g 98), .int (iZ ty), .int (iZ th), .int (iZ pt), .int (iZ fl), .ref (aD g 99), .int (iZ to)])) (hN : C 95 = eI g 449 f) (hT : C 96 = eI g 449 ft) (hw : WF f cap) (hcap : cap ≤ 100000) (hk : 0 ≤ k ∧ k ≤ 6) (h_m0 : -2147483648 ≤ m0 ∧ m0 < 2147483648) : Met l yX9_leastPages wsX9_leastPages ({ frames := 4, cells := 0, slots := 0, locals := 91 } : Room) (zPre g C [.ref (aD g 94), .int (iZ m0)]) (zQi g (fun z C' => ∃ gt : Int → Int, C' = va_up (va_up C 96 (eI g 449 gt)) 94 (.inr (9, [.ref (aD g 95), .ref (aD g 96), .ref (aD g 97), .int (iZ k), .ref (aD g 98), .int (iZ ty), .int (iZ (kLea m0)), .int (iZ pt), .int (iZ fl), .ref (aD g 99), .int (iZ to)])) ∧ z = if kLea m0 = 0 then sLeast f m0 else 0)) 0 0 (zA g) := by
  refine z_enter RX9 rfl (by decide) rfl (Nat.le_of_ble_eq_true rfl) ?_
  intro p e s m args below meth c K harg
  refine z_sub (lv' := [(0, .ref (aD g 94)), (1, .int (iZ m0))]) [0, 1] rfl ?_
  have hn := hw.n
  have hwr := hw.wr
  refine z_aload_n 1 K dX9_leastPages_0 rfl rfl 0 rfl ?_
  refine z_iconst 2 K dX9_leastPages_1 rfl ?_
  refine z_put (ty := .int) 5 K hin_X9_leastPages_X9 tyX9 tyX9_ok nmX9 94 (by decide) hM rfl 6 (by decide) (by decide +kernel : Cond.fieldLink RX9 25 "BriefBuilderModel" "thrown" "I" ∈ wsX9_leastPages) (fun _ h9 => h9) rfl (by decide +kernel) rfl rfl (Nat.le_of_ble_eq_true rfl) dX9_leastPages_2 rfl ?_
  show Z p l e (({ frames := 4, cells := 0, slots := 0, locals := 91 } : Room)) s m args below meth c (MQ below (zQi g (fun z C' => ∃ gt : Int → Int, C' = va_up (va_up C 96 (eI g 449 gt)) 94 (.inr (9, [.ref (aD g 95), .ref (aD g 96), .ref (aD g 97), .int (iZ k), .ref (aD g 98), .int (iZ ty), .int (iZ (kLea m0)), .int (iZ pt), .int (iZ fl), .ref (aD g 99), .int (iZ to)])) ∧ z = if kLea m0 = 0 then sLeast f m0 else 0)) args s 0 0 (zA g)) g _ _ _ (va_up C 94 (.inr (9, [.ref (aD g 95), .ref (aD g 96), .ref (aD g 97), .int (iZ k), .ref (aD g 98), .int (iZ ty), .int (iZ 0), .int (iZ pt), .int (iZ fl), .ref (aD g 99), .int (iZ to)]))) [(0, .ref (aD g 94)), (1, .int (iZ m0))] 5 []
  refine z_iload_n 6 K dX9_leastPages_5 rfl rfl 1 rfl ?_
  refine z_iconst 7 K dX9_leastPages_6 rfl ?_
  refine z_bipush 9 K dX9_leastPages_7 rfl rfl ?_
  refine z_vSi (As := [.int (iZ m0), .int (iZ 1), .int (iZ 30)]) (rest := []) 12 K (m_X9_in l g _ m0 1 30 (by omega) (by omega) (by omega)) (va_cwS 3 K.1.2.2.2.2 gX9_leastPages_X9_in rfl rfl rfl (by decide +kernel) ⟨Nat.le_of_ble_eq_true rfl, Nat.le_of_ble_eq_true rfl⟩) rfl (Nat.le_of_ble_eq_true rfl) dX9_leastPages_9 rfl ⟨Nat.le_of_ble_eq_true rfl, Nat.le_of_ble_eq_true rfl⟩ rfl (fun z_1 C_2 hp_9 => ?_)
  refine z_C hp_9.1 ?_
  refine z_top (b2i (decide (1 ≤ m0 ∧ m0 ≤ 30))) hp_9.2 ?_
  refine z_if_eq (tgt := 23) 15 K dX9_leastPages_12 rfl (by decide) (b2i_ir _) (fun c_12 => ?_) (fun c_12 => ?_)
  · have d_12 := b2i_dec0.mp c_12
    refine z_aload_n 24 K dX9_leastPages_23 rfl rfl 0 rfl ?_
    refine z_iconst 25 K dX9_leastPages_24 rfl ?_
    refine z_top (kLea m0) (by unfold kLea; (repeat' split) <;> omega) ?_
    refine z_vVi (As := [.int (iZ (kLea m0))]) (rest := []) 28 K 94 (by decide) (va_up_eq _ 94 _) rfl rfl (m_X9_fails l g _ (kLea m0) k ty 0 pt fl to (va_up_eq _ 94 _)) (cwV 1 K.1.2.2.2.2 gX9_leastPages_X9_fails rfl rfl rfl (by decide +kernel) ⟨Nat.le_of_ble_eq_true rfl, Nat.le_of_ble_eq_true rfl⟩) rfl (Nat.le_of_ble_eq_true rfl) dX9_leastPages_25 rfl ⟨Nat.le_of_ble_eq_true rfl, Nat.le_of_ble_eq_true rfl⟩ rfl (fun z_3 C_4 hp_25 => ?_)
    refine z_C hp_25.1 ?_
    refine z_top (0) hp_25.2 ?_
    refine z_C (va_uu _ _ _ _) ?_
    refine z_C (va_us ((va_up_ne _ _ (by decide)).trans hT)).symm ?_
    refine z_C (va_ur1 (by decide)) ?_
    have hK : ¬ kLea m0 = 0 := by unfold kLea; (repeat' split) <;> omega
    exact z_iret K rfl dX9_leastPages_28 ⟨_, rfl, (by rw [if_neg hK])⟩
  · have d_12 := b2i_decn.mp c_12
    refine z_aload_n 16 K dX9_leastPages_15 rfl rfl 0 rfl ?_
    refine z_iload_n 17 K dX9_leastPages_16 rfl rfl 1 rfl ?_
    refine z_vVi (As := [.int (iZ m0)]) (rest := []) 20 K 94 (by decide) (va_up_eq _ 94 _) rfl rfl (m_X9_least l g _ m0 k ty 0 pt fl to f ft _ (va_up_eq _ 94 _) ((va_up_ne _ _ (by decide)).trans hN) ((va_up_ne _ _ (by decide)).trans hT) hw hcap (by omega)) (cwV 1 K.1.2.2.2.2 gX9_leastPages_X9_least rfl rfl rfl (by decide +kernel) ⟨Nat.le_of_ble_eq_true rfl, Nat.le_of_ble_eq_true rfl⟩) rfl (Nat.le_of_ble_eq_true rfl) dX9_leastPages_17 rfl ⟨Nat.le_of_ble_eq_true rfl, Nat.le_of_ble_eq_true rfl⟩ rfl (fun z_5 C_6 hp_17 => ?_)
    obtain ⟨gt_7, hC_17, hz_17⟩ := hp_17
    refine z_C hC_17 ?_
    refine z_top (sLeast f m0) hz_17 ?_
    refine z_goto (tgt := 28) K dX9_leastPages_20 (by decide) ?_
    refine z_C (va_ur1 (by decide)) ?_
    have hK : kLea m0 = 0 := by unfold kLea; (repeat' split) <;> omega
    exact z_iret K rfl dX9_leastPages_28 ⟨_, (by rw [hK] <;> rfl), (by rw [if_pos hK] <;> rfl)⟩
end ZMK
