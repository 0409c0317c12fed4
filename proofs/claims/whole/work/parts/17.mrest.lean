/-! the reference: its rest -/
section ZMY
set_option maxRecDepth 20000 in
theorem hin_X9_clean_X9 : ∀ w ∈ wsX90, w ∈ wsX9_clean := by decide +kernel
set_option maxHeartbeats 4000000 in
set_option maxRecDepth 100000 in
theorem m_X9_clean (l : Launch) (g : zG) (C : Nat → va_E) (a : Int) (k : Int) (ty : Int) (th : Int) (pt : Int) (fl : Int) (to : Int) (f : Int → Int) (past : Int → Int) (cap : Int) (hM : C 94 = .inr (9, [.ref (aD g 95), .ref (aD g 96), .ref (aD g 97), .int (iZ k), .ref (aD g 98), .int (iZ ty), .int (iZ th), .int (iZ pt), .int (iZ fl), .ref (aD g 99), .int (iZ to)])) (hN : C 95 = eI g 449 f) (hPa : C 97 = eI g 2694 past) (hk : 0 ≤ k ∧ k ≤ 6) (hw : WF f cap) (h_a : -2147483648 ≤ a ∧ a < 2147483648) : Met l yX9_clean wsX9_clean ({ frames := 3, cells := 0, slots := 0, locals := 67 } : Room) (zPre g C [.ref (aD g 94), .int (iZ a)]) (zQi g (fun z C' => C' = va_up (va_up (va_up C 97 (eI g 2694 (if kPar a = 0 then mSav f past k else past))) 94 (.inr (9, [.ref (aD g 95), .ref (aD g 96), .ref (aD g 97), .int (iZ (if kPar a = 0 then mKp k + 1 else k)), .ref (aD g 98), .int (iZ ty), .int (iZ (kPar a)), .int (iZ pt), .int (iZ fl), .ref (aD g 99), .int (iZ to)]))) 95 (eI g 449 (if kPar a = 0 then mClean f a else f)) ∧ z = if kPar a = 0 then f (32 * a + 65) - mLeft f a (f (32 * a + 65)) else 0)) 0 0 (zA g) := by
  refine z_enter RX9 rfl (by decide) rfl (Nat.le_of_ble_eq_true rfl) ?_
  intro p e s m args below meth c K harg
  refine z_sub (lv' := [(0, .ref (aD g 94)), (1, .int (iZ a))]) [0, 1] rfl ?_
  have hn := hw.n
  have hx := hw.nx
  have hwr := hw.wr
  refine z_aload_n 1 K dX9_clean_0 rfl rfl 0 rfl ?_
  refine z_iconst 2 K dX9_clean_1 rfl ?_
  refine z_put (ty := .int) 5 K hin_X9_clean_X9 tyX9 tyX9_ok nmX9 94 (by decide) hM rfl 6 (by decide) (by decide +kernel : Cond.fieldLink RX9 25 "BriefBuilderModel" "thrown" "I" ∈ wsX9_clean) (fun _ h9 => h9) rfl (by decide +kernel) rfl rfl (Nat.le_of_ble_eq_true rfl) dX9_clean_2 rfl ?_
  show Z p l e (({ frames := 3, cells := 0, slots := 0, locals := 67 } : Room)) s m args below meth c (MQ below (zQi g (fun z C' => C' = va_up (va_up (va_up C 97 (eI g 2694 (if kPar a = 0 then mSav f past k else past))) 94 (.inr (9, [.ref (aD g 95), .ref (aD g 96), .ref (aD g 97), .int (iZ (if kPar a = 0 then mKp k + 1 else k)), .ref (aD g 98), .int (iZ ty), .int (iZ (kPar a)), .int (iZ pt), .int (iZ fl), .ref (aD g 99), .int (iZ to)]))) 95 (eI g 449 (if kPar a = 0 then mClean f a else f)) ∧ z = if kPar a = 0 then f (32 * a + 65) - mLeft f a (f (32 * a + 65)) else 0)) args s 0 0 (zA g)) g _ _ _ (va_up C 94 (.inr (9, [.ref (aD g 95), .ref (aD g 96), .ref (aD g 97), .int (iZ k), .ref (aD g 98), .int (iZ ty), .int (iZ 0), .int (iZ pt), .int (iZ fl), .ref (aD g 99), .int (iZ to)]))) [(0, .ref (aD g 94)), (1, .int (iZ a))] 5 []
  refine z_iload_n 6 K dX9_clean_5 rfl rfl 1 rfl ?_
  refine z_vSi (As := [.int (iZ a)]) (rest := []) 9 K (m_X9_isParagraph l g _ a (by omega)) (va_cwS 1 K.1.2.2.2.2 gX9_clean_X9_isParagraph rfl rfl rfl (by decide +kernel) ⟨Nat.le_of_ble_eq_true rfl, Nat.le_of_ble_eq_true rfl⟩) rfl (Nat.le_of_ble_eq_true rfl) dX9_clean_6 rfl ⟨Nat.le_of_ble_eq_true rfl, Nat.le_of_ble_eq_true rfl⟩ rfl (fun z_1 C_2 hp_6 => ?_)
  refine z_C hp_6.1 ?_
  refine z_top (b2i (decide (0 ≤ a ∧ a ≤ 11))) hp_6.2 ?_
  refine z_if_ne (tgt := 18) 12 K dX9_clean_9 rfl (by decide) (b2i_ir _) (fun c_9 => ?_) (fun c_9 => ?_)
  · have d_9 := b2i_decn.mp c_9
    have hca := hw.pa a (by omega) (by omega)
    refine z_aload_n 19 K dX9_clean_18 rfl rfl 0 rfl ?_
    refine z_vVv (As := []) (rest := []) 22 K 94 (by decide) (va_up_eq _ 94 _) rfl rfl (m_X9_saves l g _ k ty 0 pt fl to f past (va_up_eq _ 94 _) ((va_up_ne _ _ (by decide)).trans hN) ((va_up_ne _ _ (by decide)).trans hPa) (by omega)) (cwV 0 K.1.2.2.2.2 gX9_clean_X9_saves rfl rfl rfl (by decide +kernel) ⟨Nat.le_of_ble_eq_true rfl, Nat.le_of_ble_eq_true rfl⟩) rfl (Nat.le_of_ble_eq_true rfl) dX9_clean_19 rfl ⟨Nat.le_of_ble_eq_true rfl, Nat.le_of_ble_eq_true rfl⟩ rfl (fun C_4 hp_19 => ?_)
    refine z_C hp_19 ?_
    refine z_C (va_uu1 (by decide)) ?_
    refine z_iconst 23 K dX9_clean_22 rfl ?_
    refine z_istore_n (lv' := [(2, .int (iZ 0)), (0, .ref (aD g 94)), (1, .int (iZ a))]) 24 K dX9_clean_23 rfl rfl (by decide) rfl ?_
    refine z_aload_n 25 K dX9_clean_24 rfl rfl 1 rfl ?_
    refine z_get 28 K hin_X9_clean_X9 94 (by decide) (va_up_eq _ 94 _) rfl 0 (by decide) (by decide +kernel : Cond.fieldLink RX9 7 "BriefBuilderModel" "now" "[I" ∈ wsX9_clean) (fun _ h9 => h9) rfl dX9_clean_25 rfl ?_
    refine z_iload_n 29 K dX9_clean_28 rfl rfl 2 rfl ?_
    refine z_vSi (As := [.ref (aD g 95), .int (iZ a)]) (rest := []) 32 K (m_X9_cites l g _ 95 a f (by decide) ((va_up_ne _ _ (by decide)).trans ((va_up_ne _ _ (by decide)).trans hN)) (by omega)) (va_cwS 2 K.1.2.2.2.2 gX9_clean_X9_cites rfl rfl rfl (by decide +kernel) ⟨Nat.le_of_ble_eq_true rfl, Nat.le_of_ble_eq_true rfl⟩) rfl (Nat.le_of_ble_eq_true rfl) dX9_clean_29 rfl ⟨Nat.le_of_ble_eq_true rfl, Nat.le_of_ble_eq_true rfl⟩ rfl (fun z_5 C_6 hp_29 => ?_)
    refine z_C hp_29.1 ?_
    refine z_top (f (32 * a + 65)) hp_29.2 ?_
    refine z_istore_n (lv' := [(3, .int (iZ (f (32 * a + 65)))), (2, .int (iZ 0)), (0, .ref (aD g 94)), (1, .int (iZ a))]) 33 K dX9_clean_32 rfl rfl (by decide) rfl ?_
    refine z_iconst 34 K dX9_clean_33 rfl ?_
    refine z_istore (lv' := [(4, .int (iZ 0)), (3, .int (iZ (f (32 * a + 65)))), (2, .int (iZ 0)), (0, .ref (aD g 94)), (1, .int (iZ a))]) 36 K dX9_clean_34 rfl (by decide) rfl ?_
    have loop_36 : ∀ (n9 : Nat) (h : Int → Int) (le b : Int), (0 ≤ b ∧ b ≤ f (32 * a + 65)) → (le = mLeft f a b) → (h = mCln f a b) → (f (32 * a + 65) - b < (n9 : Int)) → Z p l e (({ frames := 3, cells := 0, slots := 0, locals := 67 } : Room)) s m args below meth c (MQ below (zQi g (fun z C' => C' = va_up (va_up (va_up C 97 (eI g 2694 (if kPar a = 0 then mSav f past k else past))) 94 (.inr (9, [.ref (aD g 95), .ref (aD g 96), .ref (aD g 97), .int (iZ (if kPar a = 0 then mKp k + 1 else k)), .ref (aD g 98), .int (iZ ty), .int (iZ (kPar a)), .int (iZ pt), .int (iZ fl), .ref (aD g 99), .int (iZ to)]))) 95 (eI g 449 (if kPar a = 0 then mClean f a else f)) ∧ z = if kPar a = 0 then f (32 * a + 65) - mLeft f a (f (32 * a + 65)) else 0)) args s 0 0 (zA g)) g 5 0 0 (va_up (va_up (va_up C 97 (eI g 2694 (mSav f past k))) 94 (.inr (9, [.ref (aD g 95), .ref (aD g 96), .ref (aD g 97), .int (iZ (mKp k + 1)), .ref (aD g 98), .int (iZ ty), .int (iZ 0), .int (iZ pt), .int (iZ fl), .ref (aD g 99), .int (iZ to)]))) 95 (eI g 449 h)) [(0, .ref (aD g 94)), (1, .int (iZ a)), (2, .int (iZ le)), (3, .int (iZ (f (32 * a + 65)))), (4, .int (iZ b))] 36 [] := by
      intro n9
      induction n9 with
      | zero =>
        intro h le b hkb hle hh hm9
        exact absurd hm9 (by omega)
      | succ n9 ih9 =>
        intro h le b hkb hle hh hm_36
        have ih_36 := ih9
        clear ih9
        refine z_iload 38 K dX9_clean_36 rfl 4 rfl ?_
        refine z_iload_n 39 K dX9_clean_38 rfl rfl 3 rfl ?_
        refine z_icmp_ge (tgt := 110) 42 K dX9_clean_39 rfl (by decide) (by omega) (by omega) (fun c_39 => ?_) (fun c_39 => ?_)
        · skip
          have eb : b = f (32 * a + 65) := by omega
          refine z_aload_n 111 K dX9_clean_110 rfl rfl 0 rfl ?_
          refine z_get 114 K hin_X9_clean_X9 94 (by decide) ((va_up_ne _ _ (by decide)).trans (va_up_eq _ 94 _)) rfl 0 (by decide) (by decide +kernel : Cond.fieldLink RX9 7 "BriefBuilderModel" "now" "[I" ∈ wsX9_clean) (fun _ h9 => h9) rfl dX9_clean_111 rfl ?_
          refine z_bipush 116 K dX9_clean_114 rfl rfl ?_
          refine z_bipush 118 K dX9_clean_116 rfl rfl ?_
          refine z_iload_n 119 K dX9_clean_118 rfl rfl 1 rfl ?_
          refine z_imul 120 K dX9_clean_119 rfl ?_
          refine z_iadd 121 K dX9_clean_120 rfl ?_
          refine z_top (32 * a + 65) (by omega) ?_
          refine z_iload_n 122 K dX9_clean_121 rfl rfl 2 rfl ?_
          refine z_iast (f := h) 123 K 95 (by decide) (va_up_eq _ 95 _) (by omega) (by omega) (by decide) dX9_clean_122 rfl ?_
          refine z_C (va_uu _ _ _ _) ?_
          refine z_iload_n 124 K dX9_clean_123 rfl rfl 3 rfl ?_
          refine z_iload_n 125 K dX9_clean_124 rfl rfl 2 rfl ?_
          refine z_isub 126 K dX9_clean_125 rfl ?_
          have hK : kPar a = 0 := by unfold kPar; (repeat' split) <;> omega
          rw [hh, hle, eb]
          exact z_iret K rfl dX9_clean_126 ⟨by rw [hK] <;> rfl, by rw [hK] <;> rfl⟩
        · skip
          refine z_aload_n 43 K dX9_clean_42 rfl rfl 0 rfl ?_
          refine z_get 46 K hin_X9_clean_X9 94 (by decide) ((va_up_ne _ _ (by decide)).trans (va_up_eq _ 94 _)) rfl 0 (by decide) (by decide +kernel : Cond.fieldLink RX9 7 "BriefBuilderModel" "now" "[I" ∈ wsX9_clean) (fun _ h9 => h9) rfl dX9_clean_43 rfl ?_
          refine z_iload_n 47 K dX9_clean_46 rfl rfl 1 rfl ?_
          refine z_iload 49 K dX9_clean_47 rfl 4 rfl ?_
          refine z_vSi (As := [.ref (aD g 95), .int (iZ a), .int (iZ b)]) (rest := []) 52 K (m_X9_isLost l g _ 95 a b h (by decide) (va_up_eq _ 95 _) (by rw [hh]; exact mCln_wr hwr (by omega) (by omega)) (by omega) (by omega)) (va_cwS 3 K.1.2.2.2.2 gX9_clean_X9_isLost rfl rfl rfl (by decide +kernel) ⟨Nat.le_of_ble_eq_true rfl, Nat.le_of_ble_eq_true rfl⟩) rfl (Nat.le_of_ble_eq_true rfl) dX9_clean_49 rfl ⟨Nat.le_of_ble_eq_true rfl, Nat.le_of_ble_eq_true rfl⟩ rfl (fun z_7 C_8 hp_49 => ?_)
          refine z_C hp_49.1 ?_
          refine z_top (b2i (sLost h a b)) hp_49.2 ?_
          have hlr := mLeft_rng f a (c := b) (by omega)
          refine z_top (b2i (sLost f a b)) (by rw [hh, mCln_lost hwr (by omega) (by omega)]) ?_
          refine z_if_ne (tgt := 104) 55 K dX9_clean_52 rfl (by decide) (b2i_ir _) (fun c_52 => ?_) (fun c_52 => ?_)
          · have d_52 := b2i_ne0.mp c_52
            refine z_iinc (lv' := [(4, .int (iZ (b + 1))), (0, .ref (aD g 94)), (1, .int (iZ a)), (2, .int (iZ le)), (3, .int (iZ (f (32 * a + 65))))]) 107 K dX9_clean_104 rfl (b + 1) rfl 4 rfl (by decide) rfl ?_
            refine z_goto (tgt := 36) K dX9_clean_107 (by decide) ?_
            refine z_sub [1, 2, 3, 4, 0] rfl ?_
            exact ih_36 h le (b + 1) (by omega) (by rw [mLeft_1 (by omega), d_52, hle]; first | rfl | (show _ = _ + b2i false; rw [b2i_f]; omega)) (by rw [mCln_1 (by omega), d_52]; first | (rw [if_pos rfl, hh]) | (rw [if_neg (by decide), hh, hle])) (by omega)
          · have d_52 := b2i_eq0.mp c_52
            refine z_aload_n 56 K dX9_clean_55 rfl rfl 0 rfl ?_
            refine z_get 59 K hin_X9_clean_X9 94 (by decide) ((va_up_ne _ _ (by decide)).trans (va_up_eq _ 94 _)) rfl 0 (by decide) (by decide +kernel : Cond.fieldLink RX9 7 "BriefBuilderModel" "now" "[I" ∈ wsX9_clean) (fun _ h9 => h9) rfl dX9_clean_56 rfl ?_
            refine z_iload_n 60 K dX9_clean_59 rfl rfl 1 rfl ?_
            refine z_iload_n 61 K dX9_clean_60 rfl rfl 2 rfl ?_
            refine z_vSi (As := [.int (iZ a), .int (iZ le)]) (rest := [.ref (aD g 95)]) 64 K (m_X9_index l g _ a le ) (va_cwS 2 K.1.2.2.2.2 gX9_clean_X9_index rfl rfl rfl (by decide +kernel) ⟨Nat.le_of_ble_eq_true rfl, Nat.le_of_ble_eq_true rfl⟩) rfl (Nat.le_of_ble_eq_true rfl) dX9_clean_61 rfl ⟨Nat.le_of_ble_eq_true rfl, Nat.le_of_ble_eq_true rfl⟩ rfl (fun z_9 C_10 hp_61 => ?_)
            refine z_C hp_61.1 ?_
            refine z_top (32 * a + 2 * le + 66) hp_61.2 ?_
            refine z_aload_n 65 K dX9_clean_64 rfl rfl 0 rfl ?_
            refine z_get 68 K hin_X9_clean_X9 94 (by decide) ((va_up_ne _ _ (by decide)).trans (va_up_eq _ 94 _)) rfl 0 (by decide) (by decide +kernel : Cond.fieldLink RX9 7 "BriefBuilderModel" "now" "[I" ∈ wsX9_clean) (fun _ h9 => h9) rfl dX9_clean_65 rfl ?_
            refine z_iload_n 69 K dX9_clean_68 rfl rfl 1 rfl ?_
            refine z_iload 71 K dX9_clean_69 rfl 4 rfl ?_
            refine z_vSi (As := [.int (iZ a), .int (iZ b)]) (rest := [.ref (aD g 95), .int (iZ (32 * a + 2 * le + 66)), .ref (aD g 95)]) 74 K (m_X9_index l g _ a b ) (va_cwS 2 K.1.2.2.2.2 gX9_clean_X9_index rfl rfl rfl (by decide +kernel) ⟨Nat.le_of_ble_eq_true rfl, Nat.le_of_ble_eq_true rfl⟩) rfl (Nat.le_of_ble_eq_true rfl) dX9_clean_71 rfl ⟨Nat.le_of_ble_eq_true rfl, Nat.le_of_ble_eq_true rfl⟩ rfl (fun z_11 C_12 hp_71 => ?_)
            refine z_C hp_71.1 ?_
            refine z_top (32 * a + 2 * b + 66) hp_71.2 ?_
            refine z_iald (f := h) 75 K 95 (by decide) (va_up_eq _ 95 _) (by omega) (by omega) (by decide) dX9_clean_74 rfl ?_
            refine z_top (f (32 * a + 2 * b + 66)) (by rw [hh]; exact mCln_out (by omega) (by omega)) ?_
            refine z_iast (f := h) 76 K 95 (by decide) (va_up_eq _ 95 _) (by omega) (by omega) (by decide) dX9_clean_75 rfl ?_
            refine z_C (va_uu _ _ _ _) ?_
            refine z_aload_n 77 K dX9_clean_76 rfl rfl 0 rfl ?_
            refine z_get 80 K hin_X9_clean_X9 94 (by decide) ((va_up_ne _ _ (by decide)).trans (va_up_eq _ 94 _)) rfl 0 (by decide) (by decide +kernel : Cond.fieldLink RX9 7 "BriefBuilderModel" "now" "[I" ∈ wsX9_clean) (fun _ h9 => h9) rfl dX9_clean_77 rfl ?_
            refine z_iload_n 81 K dX9_clean_80 rfl rfl 1 rfl ?_
            refine z_iload_n 82 K dX9_clean_81 rfl rfl 2 rfl ?_
            refine z_vSi (As := [.int (iZ a), .int (iZ le)]) (rest := [.ref (aD g 95)]) 85 K (m_X9_index l g _ a le ) (va_cwS 2 K.1.2.2.2.2 gX9_clean_X9_index rfl rfl rfl (by decide +kernel) ⟨Nat.le_of_ble_eq_true rfl, Nat.le_of_ble_eq_true rfl⟩) rfl (Nat.le_of_ble_eq_true rfl) dX9_clean_82 rfl ⟨Nat.le_of_ble_eq_true rfl, Nat.le_of_ble_eq_true rfl⟩ rfl (fun z_13 C_14 hp_82 => ?_)
            refine z_C hp_82.1 ?_
            refine z_top (32 * a + 2 * le + 66) hp_82.2 ?_
            refine z_iconst 86 K dX9_clean_85 rfl ?_
            refine z_iadd 87 K dX9_clean_86 rfl ?_
            refine z_top (32 * a + 2 * le + 67) (by omega) ?_
            refine z_aload_n 88 K dX9_clean_87 rfl rfl 0 rfl ?_
            refine z_get 91 K hin_X9_clean_X9 94 (by decide) ((va_up_ne _ _ (by decide)).trans (va_up_eq _ 94 _)) rfl 0 (by decide) (by decide +kernel : Cond.fieldLink RX9 7 "BriefBuilderModel" "now" "[I" ∈ wsX9_clean) (fun _ h9 => h9) rfl dX9_clean_88 rfl ?_
            refine z_iload_n 92 K dX9_clean_91 rfl rfl 1 rfl ?_
            refine z_iload 94 K dX9_clean_92 rfl 4 rfl ?_
            refine z_vSi (As := [.int (iZ a), .int (iZ b)]) (rest := [.ref (aD g 95), .int (iZ (32 * a + 2 * le + 67)), .ref (aD g 95)]) 97 K (m_X9_index l g _ a b ) (va_cwS 2 K.1.2.2.2.2 gX9_clean_X9_index rfl rfl rfl (by decide +kernel) ⟨Nat.le_of_ble_eq_true rfl, Nat.le_of_ble_eq_true rfl⟩) rfl (Nat.le_of_ble_eq_true rfl) dX9_clean_94 rfl ⟨Nat.le_of_ble_eq_true rfl, Nat.le_of_ble_eq_true rfl⟩ rfl (fun z_15 C_16 hp_94 => ?_)
            refine z_C hp_94.1 ?_
            refine z_top (32 * a + 2 * b + 66) hp_94.2 ?_
            refine z_iconst 98 K dX9_clean_97 rfl ?_
            refine z_iadd 99 K dX9_clean_98 rfl ?_
            refine z_top (32 * a + 2 * b + 67) (by omega) ?_
            refine z_iald (f := (zu h (32 * a + 2 * le + 66) (f (32 * a + 2 * b + 66)))) 100 K 95 (by decide) (va_up_eq _ 95 _) (by omega) (by omega) (by decide) dX9_clean_99 rfl ?_
            refine z_top (f (32 * a + 2 * b + 67)) (by rw [zu_ne _ _ (by omega), hh]; exact mCln_out (by omega) (by omega)) ?_
            refine z_iast (f := (zu h (32 * a + 2 * le + 66) (f (32 * a + 2 * b + 66)))) 101 K 95 (by decide) (va_up_eq _ 95 _) (by omega) (by omega) (by decide) dX9_clean_100 rfl ?_
            refine z_C (va_uu _ _ _ _) ?_
            refine z_iinc (lv' := [(2, .int (iZ (le + 1))), (0, .ref (aD g 94)), (1, .int (iZ a)), (3, .int (iZ (f (32 * a + 65)))), (4, .int (iZ b))]) 104 K dX9_clean_101 rfl (le + 1) rfl 2 rfl (by decide) rfl ?_
            refine z_iinc (lv' := [(4, .int (iZ (b + 1))), (2, .int (iZ (le + 1))), (0, .ref (aD g 94)), (1, .int (iZ a)), (3, .int (iZ (f (32 * a + 65))))]) 107 K dX9_clean_104 rfl (b + 1) rfl 4 rfl (by decide) rfl ?_
            refine z_goto (tgt := 36) K dX9_clean_107 (by decide) ?_
            refine z_sub [2, 3, 1, 4, 0] rfl ?_
            exact ih_36 (zu (zu h (32 * a + 2 * le + 66) (f (32 * a + 2 * b + 66))) (32 * a + 2 * le + 67) (f (32 * a + 2 * b + 67))) (le + 1) (b + 1) (by omega) (by rw [mLeft_1 (by omega), d_52, hle]; first | rfl | (show _ = _ + b2i false; rw [b2i_f]; omega)) (by rw [mCln_1 (by omega), d_52]; first | (rw [if_pos rfl, hh]) | (rw [if_neg (by decide), hh, hle])) (by omega)
    refine z_sub [3, 4, 2, 1, 0] rfl ?_
    refine z_C (va_us ((va_up_ne _ _ (by decide)).trans ((va_up_ne _ _ (by decide)).trans hN))).symm ?_
    exact loop_36 (Int.toNat (f (32 * a + 65) - 0) + 1) f 0 0 (by omega) rfl rfl (by omega)
  · have d_9 := b2i_dec0.mp c_9
    refine z_aload_n 13 K dX9_clean_12 rfl rfl 0 rfl ?_
    refine z_iconst 14 K dX9_clean_13 rfl ?_
    refine z_top (kPar a) (by unfold kPar; (repeat' split) <;> omega) ?_
    refine z_vVi (As := [.int (iZ (kPar a))]) (rest := []) 17 K 94 (by decide) (va_up_eq _ 94 _) rfl rfl (m_X9_fails l g _ (kPar a) k ty 0 pt fl to (va_up_eq _ 94 _)) (cwV 1 K.1.2.2.2.2 gX9_clean_X9_fails rfl rfl rfl (by decide +kernel) ⟨Nat.le_of_ble_eq_true rfl, Nat.le_of_ble_eq_true rfl⟩) rfl (Nat.le_of_ble_eq_true rfl) dX9_clean_14 rfl ⟨Nat.le_of_ble_eq_true rfl, Nat.le_of_ble_eq_true rfl⟩ rfl (fun z_17 C_18 hp_14 => ?_)
    refine z_C hp_14.1 ?_
    refine z_top (0) hp_14.2 ?_
    refine z_C (va_uu _ _ _ _) ?_
    refine z_C (va_us ((va_up_ne _ _ (by decide)).trans hPa)).symm ?_
    refine z_C (va_us ((va_up_ne _ _ (by decide)).trans ((va_up_ne _ _ (by decide)).trans hN))).symm ?_
    refine z_C (va_ur1 (by decide)) ?_
    refine z_C (va_ur2 (by decide) (by decide)) ?_
    refine z_C (va_ur2 (by decide) (by decide)) ?_
    have hK : ¬ kPar a = 0 := by unfold kPar; (repeat' split) <;> omega
    exact z_iret K rfl dX9_clean_17 ⟨by rw [if_neg hK, if_neg hK, if_neg hK], by rw [if_neg hK]⟩
set_option maxRecDepth 20000 in
theorem hin_X9_print_X9 : ∀ w ∈ wsX90, w ∈ wsX9_print := by decide +kernel
set_option maxHeartbeats 4000000 in
set_option maxRecDepth 100000 in
theorem m_X9_print (l : Launch) (g : zG) (C : Nat → va_E) (a : Int) (k : Int) (ty : Int) (th : Int) (pt : Int) (fl : Int) (to : Int) (f : Int → Int) (past : Int → Int) (cap : Int) (hM : C 94 = .inr (9, [.ref (aD g 95), .ref (aD g 96), .ref (aD g 97), .int (iZ k), .ref (aD g 98), .int (iZ ty), .int (iZ th), .int (iZ pt), .int (iZ fl), .ref (aD g 99), .int (iZ to)])) (hN : C 95 = eI g 449 f) (hPa : C 97 = eI g 2694 past) (hk : 0 ≤ k ∧ k ≤ 6) (hw : WF f cap) (h_a : -2147483648 ≤ a ∧ a < 2147483648) : Met l yX9_print wsX9_print ({ frames := 4, cells := 0, slots := 0, locals := 92 } : Room) (zPre g C [.ref (aD g 94), .int (iZ a)]) (zQi g (fun z C' => C' = va_up (va_up (va_up C 97 (eI g 2694 (if kPar a = 0 then mSav f past k else past))) 94 (.inr (9, [.ref (aD g 95), .ref (aD g 96), .ref (aD g 97), .int (iZ (if kPar a = 0 then mKp k + 1 else k)), .ref (aD g 98), .int (iZ ty), .int (iZ (kPar a)), .int (iZ pt), .int (iZ fl), .ref (aD g 99), .int (iZ to)]))) 95 (eI g 449 (if kPar a = 0 then mPrint f a else f)) ∧ z = if kPar a = 0 then b2i (sStale f a) else 0)) 0 0 (zA g) := by
  refine z_enter RX9 rfl (by decide) rfl (Nat.le_of_ble_eq_true rfl) ?_
  intro p e s m args below meth c K harg
  refine z_sub (lv' := [(0, .ref (aD g 94)), (1, .int (iZ a))]) [0, 1] rfl ?_
  have hn := hw.n
  have hx := hw.nx
  have hwr := hw.wr
  refine z_aload_n 1 K dX9_print_0 rfl rfl 0 rfl ?_
  refine z_iconst 2 K dX9_print_1 rfl ?_
  refine z_put (ty := .int) 5 K hin_X9_print_X9 tyX9 tyX9_ok nmX9 94 (by decide) hM rfl 6 (by decide) (by decide +kernel : Cond.fieldLink RX9 25 "BriefBuilderModel" "thrown" "I" ∈ wsX9_print) (fun _ h9 => h9) rfl (by decide +kernel) rfl rfl (Nat.le_of_ble_eq_true rfl) dX9_print_2 rfl ?_
  show Z p l e (({ frames := 4, cells := 0, slots := 0, locals := 92 } : Room)) s m args below meth c (MQ below (zQi g (fun z C' => C' = va_up (va_up (va_up C 97 (eI g 2694 (if kPar a = 0 then mSav f past k else past))) 94 (.inr (9, [.ref (aD g 95), .ref (aD g 96), .ref (aD g 97), .int (iZ (if kPar a = 0 then mKp k + 1 else k)), .ref (aD g 98), .int (iZ ty), .int (iZ (kPar a)), .int (iZ pt), .int (iZ fl), .ref (aD g 99), .int (iZ to)]))) 95 (eI g 449 (if kPar a = 0 then mPrint f a else f)) ∧ z = if kPar a = 0 then b2i (sStale f a) else 0)) args s 0 0 (zA g)) g _ _ _ (va_up C 94 (.inr (9, [.ref (aD g 95), .ref (aD g 96), .ref (aD g 97), .int (iZ k), .ref (aD g 98), .int (iZ ty), .int (iZ 0), .int (iZ pt), .int (iZ fl), .ref (aD g 99), .int (iZ to)]))) [(0, .ref (aD g 94)), (1, .int (iZ a))] 5 []
  refine z_iload_n 6 K dX9_print_5 rfl rfl 1 rfl ?_
  refine z_vSi (As := [.int (iZ a)]) (rest := []) 9 K (m_X9_isParagraph l g _ a (by omega)) (va_cwS 1 K.1.2.2.2.2 gX9_print_X9_isParagraph rfl rfl rfl (by decide +kernel) ⟨Nat.le_of_ble_eq_true rfl, Nat.le_of_ble_eq_true rfl⟩) rfl (Nat.le_of_ble_eq_true rfl) dX9_print_6 rfl ⟨Nat.le_of_ble_eq_true rfl, Nat.le_of_ble_eq_true rfl⟩ rfl (fun z_1 C_2 hp_6 => ?_)
  refine z_C hp_6.1 ?_
  refine z_top (b2i (decide (0 ≤ a ∧ a ≤ 11))) hp_6.2 ?_
  refine z_if_ne (tgt := 18) 12 K dX9_print_9 rfl (by decide) (b2i_ir _) (fun c_9 => ?_) (fun c_9 => ?_)
  · have d_9 := b2i_decn.mp c_9
    have hca := hw.pa a (by omega) (by omega)
    refine z_aload_n 19 K dX9_print_18 rfl rfl 0 rfl ?_
    refine z_vVv (As := []) (rest := []) 22 K 94 (by decide) (va_up_eq _ 94 _) rfl rfl (m_X9_saves l g _ k ty 0 pt fl to f past (va_up_eq _ 94 _) ((va_up_ne _ _ (by decide)).trans hN) ((va_up_ne _ _ (by decide)).trans hPa) (by omega)) (cwV 0 K.1.2.2.2.2 gX9_print_X9_saves rfl rfl rfl (by decide +kernel) ⟨Nat.le_of_ble_eq_true rfl, Nat.le_of_ble_eq_true rfl⟩) rfl (Nat.le_of_ble_eq_true rfl) dX9_print_19 rfl ⟨Nat.le_of_ble_eq_true rfl, Nat.le_of_ble_eq_true rfl⟩ rfl (fun C_4 hp_19 => ?_)
    refine z_C hp_19 ?_
    refine z_C (va_uu1 (by decide)) ?_
    refine z_aload_n 23 K dX9_print_22 rfl rfl 0 rfl ?_
    refine z_get 26 K hin_X9_print_X9 94 (by decide) (va_up_eq _ 94 _) rfl 0 (by decide) (by decide +kernel : Cond.fieldLink RX9 7 "BriefBuilderModel" "now" "[I" ∈ wsX9_print) (fun _ h9 => h9) rfl dX9_print_23 rfl ?_
    refine z_iload_n 27 K dX9_print_26 rfl rfl 1 rfl ?_
    refine z_vSi (As := [.ref (aD g 95), .int (iZ a)]) (rest := []) 30 K (m_X9_isStale l g _ 95 a f (by decide) ((va_up_ne _ _ (by decide)).trans ((va_up_ne _ _ (by decide)).trans hN)) hwr (by omega)) (va_cwS 2 K.1.2.2.2.2 gX9_print_X9_isStale rfl rfl rfl (by decide +kernel) ⟨Nat.le_of_ble_eq_true rfl, Nat.le_of_ble_eq_true rfl⟩) rfl (Nat.le_of_ble_eq_true rfl) dX9_print_27 rfl ⟨Nat.le_of_ble_eq_true rfl, Nat.le_of_ble_eq_true rfl⟩ rfl (fun z_5 C_6 hp_27 => ?_)
    refine z_C hp_27.1 ?_
    refine z_top (b2i (sStale f a)) hp_27.2 ?_
    refine z_bool01 33 34 37 38 K (b2i_rng _) dX9_print_30 dX9_print_33 dX9_print_34 dX9_print_37 rfl rfl (by decide) (by decide) rfl ?_
    refine z_istore_n (lv' := [(2, .int (iZ (b2i (sStale f a)))), (0, .ref (aD g 94)), (1, .int (iZ a))]) 39 K dX9_print_38 rfl rfl (by decide) rfl ?_
    refine z_bipush 41 K dX9_print_39 rfl rfl ?_
    refine z_bipush 43 K dX9_print_41 rfl rfl ?_
    refine z_iload_n 44 K dX9_print_43 rfl rfl 2 rfl ?_
    refine z_imul 45 K dX9_print_44 rfl ?_
    refine z_iadd 46 K dX9_print_45 rfl ?_
    refine z_top (32 * a + 65) (by omega) ?_
    refine z_bipush 48 K dX9_print_46 rfl rfl ?_
    refine z_iadd 49 K dX9_print_48 rfl ?_
    refine z_top (32 * a + 78) (by omega) ?_
    refine z_istore_n (lv' := [(3, .int (iZ (32 * a + 78))), (2, .int (iZ (b2i (sStale f a)))), (0, .ref (aD g 94)), (1, .int (iZ a))]) 50 K dX9_print_49 rfl rfl (by decide) rfl ?_
    refine z_aload_n 51 K dX9_print_50 rfl rfl 2 rfl ?_
    refine z_get 54 K hin_X9_print_X9 94 (by decide) (va_up_eq _ 94 _) rfl 0 (by decide) (by decide +kernel : Cond.fieldLink RX9 7 "BriefBuilderModel" "now" "[I" ∈ wsX9_print) (fun _ h9 => h9) rfl dX9_print_51 rfl ?_
    refine z_iload_n 55 K dX9_print_54 rfl rfl 0 rfl ?_
    refine z_aload_n 56 K dX9_print_55 rfl rfl 2 rfl ?_
    refine z_get 59 K hin_X9_print_X9 94 (by decide) (va_up_eq _ 94 _) rfl 0 (by decide) (by decide +kernel : Cond.fieldLink RX9 7 "BriefBuilderModel" "now" "[I" ∈ wsX9_print) (fun _ h9 => h9) rfl dX9_print_56 rfl ?_
    refine z_iload_n 60 K dX9_print_59 rfl rfl 3 rfl ?_
    refine z_vSi (As := [.ref (aD g 95), .int (iZ a)]) (rest := [.int (iZ (32 * a + 78)), .ref (aD g 95)]) 63 K (m_X9_cites l g _ 95 a f (by decide) ((va_up_ne _ _ (by decide)).trans ((va_up_ne _ _ (by decide)).trans hN)) (by omega)) (va_cwS 2 K.1.2.2.2.2 gX9_print_X9_cites rfl rfl rfl (by decide +kernel) ⟨Nat.le_of_ble_eq_true rfl, Nat.le_of_ble_eq_true rfl⟩) rfl (Nat.le_of_ble_eq_true rfl) dX9_print_60 rfl ⟨Nat.le_of_ble_eq_true rfl, Nat.le_of_ble_eq_true rfl⟩ rfl (fun z_7 C_8 hp_60 => ?_)
    refine z_C hp_60.1 ?_
    refine z_top (f (32 * a + 65)) hp_60.2 ?_
    refine z_iast (f := f) 64 K 95 (by decide) ((va_up_ne _ _ (by decide)).trans ((va_up_ne _ _ (by decide)).trans hN)) (by omega) (by omega) (by decide) dX9_print_63 rfl ?_
    refine z_iconst 65 K dX9_print_64 rfl ?_
    refine z_istore (lv' := [(4, .int (iZ 0)), (3, .int (iZ (32 * a + 78))), (2, .int (iZ (b2i (sStale f a)))), (0, .ref (aD g 94)), (1, .int (iZ a))]) 67 K dX9_print_65 rfl (by decide) rfl ?_
    have loop_67 : ∀ (n9 : Nat) (h : Int → Int) (b : Int), (0 ≤ b ∧ b ≤ f (32 * a + 65)) → (h = mPrt f a b) → (f (32 * a + 65) - b < (n9 : Int)) → Z p l e (({ frames := 4, cells := 0, slots := 0, locals := 92 } : Room)) s m args below meth c (MQ below (zQi g (fun z C' => C' = va_up (va_up (va_up C 97 (eI g 2694 (if kPar a = 0 then mSav f past k else past))) 94 (.inr (9, [.ref (aD g 95), .ref (aD g 96), .ref (aD g 97), .int (iZ (if kPar a = 0 then mKp k + 1 else k)), .ref (aD g 98), .int (iZ ty), .int (iZ (kPar a)), .int (iZ pt), .int (iZ fl), .ref (aD g 99), .int (iZ to)]))) 95 (eI g 449 (if kPar a = 0 then mPrint f a else f)) ∧ z = if kPar a = 0 then b2i (sStale f a) else 0)) args s 0 0 (zA g)) g 5 0 0 (va_up (va_up (va_up C 97 (eI g 2694 (mSav f past k))) 94 (.inr (9, [.ref (aD g 95), .ref (aD g 96), .ref (aD g 97), .int (iZ (mKp k + 1)), .ref (aD g 98), .int (iZ ty), .int (iZ 0), .int (iZ pt), .int (iZ fl), .ref (aD g 99), .int (iZ to)]))) 95 (eI g 449 h)) [(0, .ref (aD g 94)), (1, .int (iZ a)), (2, .int (iZ (b2i (sStale f a)))), (3, .int (iZ (32 * a + 78))), (4, .int (iZ b))] 67 [] := by
      intro n9
      induction n9 with
      | zero =>
        intro h b hkb hh hm9
        exact absurd hm9 (by omega)
      | succ n9 ih9 =>
        intro h b hkb hh hm_67
        have ih_67 := ih9
        clear ih9
        refine z_iload 69 K dX9_print_67 rfl 4 rfl ?_
        refine z_aload_n 70 K dX9_print_69 rfl rfl 0 rfl ?_
        refine z_get 73 K hin_X9_print_X9 94 (by decide) ((va_up_ne _ _ (by decide)).trans (va_up_eq _ 94 _)) rfl 0 (by decide) (by decide +kernel : Cond.fieldLink RX9 7 "BriefBuilderModel" "now" "[I" ∈ wsX9_print) (fun _ h9 => h9) rfl dX9_print_70 rfl ?_
        refine z_iload_n 74 K dX9_print_73 rfl rfl 3 rfl ?_
        refine z_iald (f := h) 75 K 95 (by decide) (va_up_eq _ 95 _) (by omega) (by omega) (by decide) dX9_print_74 rfl ?_
        refine z_top (f (32 * a + 65)) (by rw [hh]; exact mPrt_n f a b) ?_
        refine z_icmp_ge (tgt := 164) 78 K dX9_print_75 rfl (by decide) (by omega) (by omega) (fun c_75 => ?_) (fun c_75 => ?_)
        · skip
          have eb : b = f (32 * a + 65) := by omega
          rw [hh, eb]
          refine z_iload_n 165 K dX9_print_164 rfl rfl 2 rfl ?_
          have hK : kPar a = 0 := by unfold kPar; (repeat' split) <;> omega
          exact z_iret K rfl dX9_print_165 ⟨by rw [hK] <;> rfl, by rw [hK] <;> rfl⟩
        · skip
          refine z_aload_n 79 K dX9_print_78 rfl rfl 0 rfl ?_
          refine z_get 82 K hin_X9_print_X9 94 (by decide) ((va_up_ne _ _ (by decide)).trans (va_up_eq _ 94 _)) rfl 0 (by decide) (by decide +kernel : Cond.fieldLink RX9 7 "BriefBuilderModel" "now" "[I" ∈ wsX9_print) (fun _ h9 => h9) rfl dX9_print_79 rfl ?_
          refine z_iload_n 83 K dX9_print_82 rfl rfl 3 rfl ?_
          refine z_iconst 84 K dX9_print_83 rfl ?_
          refine z_iadd 85 K dX9_print_84 rfl ?_
          refine z_top (32 * a + 79) (by omega) ?_
          refine z_iconst 86 K dX9_print_85 rfl ?_
          refine z_iload 88 K dX9_print_86 rfl 4 rfl ?_
          refine z_imul 89 K dX9_print_88 rfl ?_
          refine z_iadd 90 K dX9_print_89 rfl ?_
          refine z_top (32 * a + 3 * b + 79) (by omega) ?_
          refine z_aload_n 91 K dX9_print_90 rfl rfl 0 rfl ?_
          refine z_get 94 K hin_X9_print_X9 94 (by decide) ((va_up_ne _ _ (by decide)).trans (va_up_eq _ 94 _)) rfl 0 (by decide) (by decide +kernel : Cond.fieldLink RX9 7 "BriefBuilderModel" "now" "[I" ∈ wsX9_print) (fun _ h9 => h9) rfl dX9_print_91 rfl ?_
          refine z_iload_n 95 K dX9_print_94 rfl rfl 1 rfl ?_
          refine z_iload 97 K dX9_print_95 rfl 4 rfl ?_
          have hw97 : WR h := by rw [hh]; exact mPrt_wr hwr (by omega) (by omega)
          refine z_vSi (As := [.ref (aD g 95), .int (iZ a), .int (iZ b)]) (rest := [.int (iZ (32 * a + 3 * b + 79)), .ref (aD g 95)]) 100 K (m_X9_letter l g _ 95 a b h (by decide) (va_up_eq _ 95 _) hw97 (by omega) (by omega)) (va_cwS 3 K.1.2.2.2.2 gX9_print_X9_letter rfl rfl rfl (by decide +kernel) ⟨Nat.le_of_ble_eq_true rfl, Nat.le_of_ble_eq_true rfl⟩) rfl (Nat.le_of_ble_eq_true rfl) dX9_print_97 rfl ⟨Nat.le_of_ble_eq_true rfl, Nat.le_of_ble_eq_true rfl⟩ rfl (fun z_9 C_10 hp_97 => ?_)
          refine z_C hp_97.1 ?_
          refine z_top (sLet h a b) hp_97.2 ?_
          refine z_top (sLet f a b) (by rw [hh]; exact mPrt_let hwr (by omega) (by omega)) ?_
          refine z_iast (f := h) 101 K 95 (by decide) (va_up_eq _ 95 _) (by omega) (by omega) (by decide) dX9_print_100 rfl ?_
          refine z_C (va_uu _ _ _ _) ?_
          refine z_aload_n 102 K dX9_print_101 rfl rfl 0 rfl ?_
          refine z_get 105 K hin_X9_print_X9 94 (by decide) ((va_up_ne _ _ (by decide)).trans (va_up_eq _ 94 _)) rfl 0 (by decide) (by decide +kernel : Cond.fieldLink RX9 7 "BriefBuilderModel" "now" "[I" ∈ wsX9_print) (fun _ h9 => h9) rfl dX9_print_102 rfl ?_
          refine z_iload_n 106 K dX9_print_105 rfl rfl 3 rfl ?_
          refine z_iconst 107 K dX9_print_106 rfl ?_
          refine z_iadd 108 K dX9_print_107 rfl ?_
          refine z_top (32 * a + 80) (by omega) ?_
          refine z_iconst 109 K dX9_print_108 rfl ?_
          refine z_iload 111 K dX9_print_109 rfl 4 rfl ?_
          refine z_imul 112 K dX9_print_111 rfl ?_
          refine z_iadd 113 K dX9_print_112 rfl ?_
          refine z_top (32 * a + 3 * b + 80) (by omega) ?_
          refine z_aload_n 114 K dX9_print_113 rfl rfl 0 rfl ?_
          refine z_get 117 K hin_X9_print_X9 94 (by decide) ((va_up_ne _ _ (by decide)).trans (va_up_eq _ 94 _)) rfl 0 (by decide) (by decide +kernel : Cond.fieldLink RX9 7 "BriefBuilderModel" "now" "[I" ∈ wsX9_print) (fun _ h9 => h9) rfl dX9_print_114 rfl ?_
          refine z_iload_n 118 K dX9_print_117 rfl rfl 1 rfl ?_
          refine z_iload 120 K dX9_print_118 rfl 4 rfl ?_
          refine z_vSi (As := [.int (iZ a), .int (iZ b)]) (rest := [.ref (aD g 95), .int (iZ (32 * a + 3 * b + 80)), .ref (aD g 95)]) 123 K (m_X9_index l g _ a b ) (va_cwS 2 K.1.2.2.2.2 gX9_print_X9_index rfl rfl rfl (by decide +kernel) ⟨Nat.le_of_ble_eq_true rfl, Nat.le_of_ble_eq_true rfl⟩) rfl (Nat.le_of_ble_eq_true rfl) dX9_print_120 rfl ⟨Nat.le_of_ble_eq_true rfl, Nat.le_of_ble_eq_true rfl⟩ rfl (fun z_11 C_12 hp_120 => ?_)
          refine z_C hp_120.1 ?_
          refine z_top (32 * a + 2 * b + 66) hp_120.2 ?_
          refine z_iconst 124 K dX9_print_123 rfl ?_
          refine z_iadd 125 K dX9_print_124 rfl ?_
          refine z_top (32 * a + 2 * b + 67) (by omega) ?_
          refine z_iald (f := (zu h (32 * a + 3 * b + 79) (sLet f a b))) 126 K 95 (by decide) (va_up_eq _ 95 _) (by omega) (by omega) (by decide) dX9_print_125 rfl ?_
          refine z_top (f (32 * a + 2 * b + 67)) (by rw [zu_ne _ _ (by omega), hh]; exact mPrt_out (by omega)) ?_
          refine z_iast (f := (zu h (32 * a + 3 * b + 79) (sLet f a b))) 127 K 95 (by decide) (va_up_eq _ 95 _) (by omega) (by omega) (by decide) dX9_print_126 rfl ?_
          refine z_C (va_uu _ _ _ _) ?_
          refine z_aload_n 128 K dX9_print_127 rfl rfl 0 rfl ?_
          refine z_get 131 K hin_X9_print_X9 94 (by decide) ((va_up_ne _ _ (by decide)).trans (va_up_eq _ 94 _)) rfl 0 (by decide) (by decide +kernel : Cond.fieldLink RX9 7 "BriefBuilderModel" "now" "[I" ∈ wsX9_print) (fun _ h9 => h9) rfl dX9_print_128 rfl ?_
          refine z_iload_n 132 K dX9_print_131 rfl rfl 3 rfl ?_
          refine z_iconst 133 K dX9_print_132 rfl ?_
          refine z_iadd 134 K dX9_print_133 rfl ?_
          refine z_top (32 * a + 81) (by omega) ?_
          refine z_iconst 135 K dX9_print_134 rfl ?_
          refine z_iload 137 K dX9_print_135 rfl 4 rfl ?_
          refine z_imul 138 K dX9_print_137 rfl ?_
          refine z_iadd 139 K dX9_print_138 rfl ?_
          refine z_top (32 * a + 3 * b + 81) (by omega) ?_
          refine z_aload_n 140 K dX9_print_139 rfl rfl 0 rfl ?_
          refine z_get 143 K hin_X9_print_X9 94 (by decide) ((va_up_ne _ _ (by decide)).trans (va_up_eq _ 94 _)) rfl 0 (by decide) (by decide +kernel : Cond.fieldLink RX9 7 "BriefBuilderModel" "now" "[I" ∈ wsX9_print) (fun _ h9 => h9) rfl dX9_print_140 rfl ?_
          refine z_iload_n 144 K dX9_print_143 rfl rfl 1 rfl ?_
          refine z_iload 146 K dX9_print_144 rfl 4 rfl ?_
          have hag : ∀ j, j < 32 * a + 78 → zu (zu h (32 * a + 3 * b + 79) (sLet f a b)) (32 * a + 3 * b + 80) (f (32 * a + 2 * b + 67)) j = h j := fun j h9 => by rw [zu_ne _ _ (by omega), zu_ne _ _ (by omega)]
          have hw146 : WR (zu (zu h (32 * a + 3 * b + 79) (sLet f a b)) (32 * a + 3 * b + 80) (f (32 * a + 2 * b + 67))) := wR_same hw97 (fun j => by simp only [zu]; have h1 := hw97.1 j; have h2 := sLet_in hwr a b; have h3 := hwr.1 (32 * a + 2 * b + 67); (repeat' split) <;> omega) (hag 0 (by omega)) (hag 1 (by omega)) (fun k2 k0 k1 => (by rw [hh, mPrt_out (by omega)] at k1; exact hag _ (by omega))) (fun a2 a0 a1 => (by rw [zu_ne _ _ (by omega), zu_ne _ _ (by omega)]))
          refine z_vSi (As := [.ref (aD g 95), .int (iZ a), .int (iZ b)]) (rest := [.int (iZ (32 * a + 3 * b + 81)), .ref (aD g 95)]) 149 K (m_X9_isLost l g _ 95 a b (zu (zu h (32 * a + 3 * b + 79) (sLet f a b)) (32 * a + 3 * b + 80) (f (32 * a + 2 * b + 67))) (by decide) (va_up_eq _ 95 _) hw146 (by omega) (by omega)) (va_cwS 3 K.1.2.2.2.2 gX9_print_X9_isLost rfl rfl rfl (by decide +kernel) ⟨Nat.le_of_ble_eq_true rfl, Nat.le_of_ble_eq_true rfl⟩) rfl (Nat.le_of_ble_eq_true rfl) dX9_print_146 rfl ⟨Nat.le_of_ble_eq_true rfl, Nat.le_of_ble_eq_true rfl⟩ rfl (fun z_13 C_14 hp_146 => ?_)
          refine z_C hp_146.1 ?_
          refine z_top (b2i (sLost (zu (zu h (32 * a + 3 * b + 79) (sLet f a b)) (32 * a + 3 * b + 80) (f (32 * a + 2 * b + 67))) a b)) hp_146.2 ?_
          refine z_top (b2i (sLost f a b)) (by rw [← mPrt_lost hwr (c := b) (by omega) (by omega), ← hh]; congr 1; exact sLost_cong hw97.2.1.1 (hag 1 (by omega)) (fun k2 k0 k1 => (by rw [hh, mPrt_out (by omega)] at k1; exact hag _ (by omega))) (fun k2 k0 k1 => (by rw [hh, mPrt_out (by omega)] at k1; exact hag _ (by omega))) (hag _ (by omega)) (hag _ (by omega))) ?_
          refine z_bool01 152 153 156 157 K (b2i_rng _) dX9_print_149 dX9_print_152 dX9_print_153 dX9_print_156 rfl rfl (by decide) (by decide) rfl ?_
          refine z_iast (f := (zu (zu h (32 * a + 3 * b + 79) (sLet f a b)) (32 * a + 3 * b + 80) (f (32 * a + 2 * b + 67)))) 158 K 95 (by decide) (va_up_eq _ 95 _) (by omega) (by omega) (by decide) dX9_print_157 rfl ?_
          refine z_C (va_uu _ _ _ _) ?_
          refine z_iinc (lv' := [(4, .int (iZ (b + 1))), (0, .ref (aD g 94)), (1, .int (iZ a)), (2, .int (iZ (b2i (sStale f a)))), (3, .int (iZ (32 * a + 78)))]) 161 K dX9_print_158 rfl (b + 1) rfl 4 rfl (by decide) rfl ?_
          refine z_goto (tgt := 67) K dX9_print_161 (by decide) ?_
          refine z_sub [1, 2, 3, 4, 0] rfl ?_
          exact ih_67 (zu (zu (zu h (32 * a + 3 * b + 79) (sLet f a b)) (32 * a + 3 * b + 80) (f (32 * a + 2 * b + 67))) (32 * a + 3 * b + 81) (b2i (sLost f a b))) (b + 1) (by omega) (by rw [hh]; exact mPrt_1 (by omega)) (by omega)
    refine z_sub [3, 4, 2, 1, 0] rfl ?_
    exact loop_67 (Int.toNat (f (32 * a + 65) - 0) + 1) (zu f (32 * a + 78) (f (32 * a + 65))) 0 (by omega) (mPrt_0 f a) (by omega)
  · have d_9 := b2i_dec0.mp c_9
    refine z_aload_n 13 K dX9_print_12 rfl rfl 0 rfl ?_
    refine z_iconst 14 K dX9_print_13 rfl ?_
    refine z_top (kPar a) (by unfold kPar; (repeat' split) <;> omega) ?_
    refine z_vVi (As := [.int (iZ (kPar a))]) (rest := []) 17 K 94 (by decide) (va_up_eq _ 94 _) rfl rfl (m_X9_fails l g _ (kPar a) k ty 0 pt fl to (va_up_eq _ 94 _)) (cwV 1 K.1.2.2.2.2 gX9_print_X9_fails rfl rfl rfl (by decide +kernel) ⟨Nat.le_of_ble_eq_true rfl, Nat.le_of_ble_eq_true rfl⟩) rfl (Nat.le_of_ble_eq_true rfl) dX9_print_14 rfl ⟨Nat.le_of_ble_eq_true rfl, Nat.le_of_ble_eq_true rfl⟩ rfl (fun z_15 C_16 hp_14 => ?_)
    refine z_C hp_14.1 ?_
    refine z_top (0) hp_14.2 ?_
    refine z_C (va_uu _ _ _ _) ?_
    refine z_C (va_us ((va_up_ne _ _ (by decide)).trans hPa)).symm ?_
    refine z_C (va_us ((va_up_ne _ _ (by decide)).trans ((va_up_ne _ _ (by decide)).trans hN))).symm ?_
    refine z_C (va_ur1 (by decide)) ?_
    refine z_C (va_ur2 (by decide) (by decide)) ?_
    refine z_C (va_ur2 (by decide) (by decide)) ?_
    have hK : ¬ kPar a = 0 := by unfold kPar; (repeat' split) <;> omega
    exact z_iret K rfl dX9_print_17 ⟨by rw [if_neg hK, if_neg hK, if_neg hK], by rw [if_neg hK]⟩
set_option maxRecDepth 20000 in
theorem hin_X9_append_X9 : ∀ w ∈ wsX90, w ∈ wsX9_append := by decide +kernel
set_option maxHeartbeats 4000000 in
set_option maxRecDepth 100000 in
theorem m_X9_append (l : Launch) (g : zG) (C : Nat → va_E) (x : Int) (k : Int) (ty : Int) (th : Int) (pt : Int) (fl : Int) (to : Int) (tx : Int → Int) (hM : C 94 = .inr (9, [.ref (aD g 95), .ref (aD g 96), .ref (aD g 97), .int (iZ k), .ref (aD g 98), .int (iZ ty), .int (iZ th), .int (iZ pt), .int (iZ fl), .ref (aD g 99), .int (iZ to)])) (hTx : C 98 = eI g 60 tx) (hty : 0 ≤ ty ∧ ty ≤ 60) (h_x : -2147483648 ≤ x ∧ x < 2147483648) : Met l yX9_append wsX9_append ({ frames := 1, cells := 0, slots := 0, locals := 22 } : Room) (zPre g C [.ref (aD g 94), .int (iZ x)]) (zQi g (fun z C' => C' = va_up (va_up C 98 (eI g 60 (if kApp ty x = 0 then zu tx ty x else tx))) 94 (.inr (9, [.ref (aD g 95), .ref (aD g 96), .ref (aD g 97), .int (iZ k), .ref (aD g 98), .int (iZ (if kApp ty x = 0 then ty + 1 else ty)), .int (iZ (kApp ty x)), .int (iZ pt), .int (iZ fl), .ref (aD g 99), .int (iZ to)])) ∧ z = if kApp ty x = 0 then ty + 1 else 0)) 0 0 (zA g) := by
  refine z_enter RX9 rfl (by decide) rfl (Nat.le_of_ble_eq_true rfl) ?_
  intro p e s m args below meth c K harg
  refine z_sub (lv' := [(0, .ref (aD g 94)), (1, .int (iZ x))]) [0, 1] rfl ?_
  refine z_aload_n 1 K dX9_append_0 rfl rfl 0 rfl ?_
  refine z_iconst 2 K dX9_append_1 rfl ?_
  refine z_put (ty := .int) 5 K hin_X9_append_X9 tyX9 tyX9_ok nmX9 94 (by decide) hM rfl 6 (by decide) (by decide +kernel : Cond.fieldLink RX9 25 "BriefBuilderModel" "thrown" "I" ∈ wsX9_append) (fun _ h9 => h9) rfl (by decide +kernel) rfl rfl (Nat.le_of_ble_eq_true rfl) dX9_append_2 rfl ?_
  show Z p l e (({ frames := 1, cells := 0, slots := 0, locals := 22 } : Room)) s m args below meth c (MQ below (zQi g (fun z C' => C' = va_up (va_up C 98 (eI g 60 (if kApp ty x = 0 then zu tx ty x else tx))) 94 (.inr (9, [.ref (aD g 95), .ref (aD g 96), .ref (aD g 97), .int (iZ k), .ref (aD g 98), .int (iZ (if kApp ty x = 0 then ty + 1 else ty)), .int (iZ (kApp ty x)), .int (iZ pt), .int (iZ fl), .ref (aD g 99), .int (iZ to)])) ∧ z = if kApp ty x = 0 then ty + 1 else 0)) args s 0 0 (zA g)) g _ _ _ (va_up C 94 (.inr (9, [.ref (aD g 95), .ref (aD g 96), .ref (aD g 97), .int (iZ k), .ref (aD g 98), .int (iZ ty), .int (iZ 0), .int (iZ pt), .int (iZ fl), .ref (aD g 99), .int (iZ to)]))) [(0, .ref (aD g 94)), (1, .int (iZ x))] 5 []
  refine z_iload_n 6 K dX9_append_5 rfl rfl 1 rfl ?_
  refine z_bipush 8 K dX9_append_6 rfl rfl ?_
  refine z_bipush 10 K dX9_append_8 rfl rfl ?_
  refine z_vSi (As := [.int (iZ x), .int (iZ 33), .int (iZ 126)]) (rest := []) 13 K (m_X9_in l g _ x 33 126 (by omega) (by omega) (by omega)) (va_cwS 3 K.1.2.2.2.2 gX9_append_X9_in rfl rfl rfl (by decide +kernel) ⟨Nat.le_of_ble_eq_true rfl, Nat.le_of_ble_eq_true rfl⟩) rfl (Nat.le_of_ble_eq_true rfl) dX9_append_10 rfl ⟨Nat.le_of_ble_eq_true rfl, Nat.le_of_ble_eq_true rfl⟩ rfl (fun z_1 C_2 hp_10 => ?_)
  refine z_C hp_10.1 ?_
  refine z_top (b2i (decide (33 ≤ x ∧ x ≤ 126))) hp_10.2 ?_
  refine z_if_ne (tgt := 22) 16 K dX9_append_13 rfl (by decide) (b2i_ir _) (fun c_13 => ?_) (fun c_13 => ?_)
  · have d_13 := b2i_decn.mp c_13
    refine z_aload_n 23 K dX9_append_22 rfl rfl 0 rfl ?_
    refine z_get 26 K hin_X9_append_X9 94 (by decide) (va_up_eq _ 94 _) rfl 5 (by decide) (by decide +kernel : Cond.fieldLink RX9 122 "BriefBuilderModel" "typed" "I" ∈ wsX9_append) (fun _ h9 => h9) rfl dX9_append_23 rfl ?_
    refine z_bipush 28 K dX9_append_26 rfl rfl ?_
    refine z_icmp_ne (tgt := 37) 31 K dX9_append_28 rfl (by decide) (by omega) (by decide) (fun c_28 => ?_) (fun c_28 => ?_)
    · skip
      refine z_aload_n 38 K dX9_append_37 rfl rfl 0 rfl ?_
      refine z_get 41 K hin_X9_append_X9 94 (by decide) (va_up_eq _ 94 _) rfl 4 (by decide) (by decide +kernel : Cond.fieldLink RX9 19 "BriefBuilderModel" "text" "[I" ∈ wsX9_append) (fun _ h9 => h9) rfl dX9_append_38 rfl ?_
      refine z_aload_n 42 K dX9_append_41 rfl rfl 0 rfl ?_
      refine z_get 45 K hin_X9_append_X9 94 (by decide) (va_up_eq _ 94 _) rfl 5 (by decide) (by decide +kernel : Cond.fieldLink RX9 122 "BriefBuilderModel" "typed" "I" ∈ wsX9_append) (fun _ h9 => h9) rfl dX9_append_42 rfl ?_
      refine z_iload_n 46 K dX9_append_45 rfl rfl 1 rfl ?_
      refine z_iast (f := tx) 47 K 98 (by decide) ((va_up_ne _ _ (by decide)).trans hTx) (by omega) (by omega) (by decide) dX9_append_46 rfl ?_
      refine z_aload_n 48 K dX9_append_47 rfl rfl 0 rfl ?_
      refine z_dup 49 K dX9_append_48 rfl rfl ?_
      refine z_get 52 K hin_X9_append_X9 94 (by decide) ((va_up_ne _ _ (by decide)).trans (va_up_eq _ 94 _)) rfl 5 (by decide) (by decide +kernel : Cond.fieldLink RX9 122 "BriefBuilderModel" "typed" "I" ∈ wsX9_append) (fun _ h9 => h9) rfl dX9_append_49 rfl ?_
      refine z_iconst 53 K dX9_append_52 rfl ?_
      refine z_iadd 54 K dX9_append_53 rfl ?_
      refine z_put (ty := .int) 57 K hin_X9_append_X9 tyX9 tyX9_ok nmX9 94 (by decide) ((va_up_ne _ _ (by decide)).trans (va_up_eq _ 94 _)) rfl 5 (by decide) (by decide +kernel : Cond.fieldLink RX9 122 "BriefBuilderModel" "typed" "I" ∈ wsX9_append) (fun _ h9 => h9) rfl (by decide +kernel) rfl rfl (Nat.le_of_ble_eq_true rfl) dX9_append_54 rfl ?_
      show Z p l e (({ frames := 1, cells := 0, slots := 0, locals := 22 } : Room)) s m args below meth c (MQ below (zQi g (fun z C' => C' = va_up (va_up C 98 (eI g 60 (if kApp ty x = 0 then zu tx ty x else tx))) 94 (.inr (9, [.ref (aD g 95), .ref (aD g 96), .ref (aD g 97), .int (iZ k), .ref (aD g 98), .int (iZ (if kApp ty x = 0 then ty + 1 else ty)), .int (iZ (kApp ty x)), .int (iZ pt), .int (iZ fl), .ref (aD g 99), .int (iZ to)])) ∧ z = if kApp ty x = 0 then ty + 1 else 0)) args s 0 0 (zA g)) g _ _ _ (va_up (va_up (va_up C 94 (.inr (9, [.ref (aD g 95), .ref (aD g 96), .ref (aD g 97), .int (iZ k), .ref (aD g 98), .int (iZ ty), .int (iZ 0), .int (iZ pt), .int (iZ fl), .ref (aD g 99), .int (iZ to)]))) 98 (eI g 60 (zu tx ty x))) 94 (.inr (9, [.ref (aD g 95), .ref (aD g 96), .ref (aD g 97), .int (iZ k), .ref (aD g 98), .int (iZ (ty + 1)), .int (iZ 0), .int (iZ pt), .int (iZ fl), .ref (aD g 99), .int (iZ to)]))) [(0, .ref (aD g 94)), (1, .int (iZ x))] 57 []
      refine z_C (va_uu1 (by decide)) ?_
      refine z_aload_n 58 K dX9_append_57 rfl rfl 0 rfl ?_
      refine z_get 61 K hin_X9_append_X9 94 (by decide) (va_up_eq _ 94 _) rfl 5 (by decide) (by decide +kernel : Cond.fieldLink RX9 122 "BriefBuilderModel" "typed" "I" ∈ wsX9_append) (fun _ h9 => h9) rfl dX9_append_58 rfl ?_
      have hK : kApp ty x = 0 := by unfold kApp; (repeat' split) <;> omega
      exact z_iret K rfl dX9_append_61 ⟨by rw [hK] <;> rfl, by rw [if_pos hK]⟩
    · skip
      refine z_aload_n 32 K dX9_append_31 rfl rfl 0 rfl ?_
      refine z_iconst 33 K dX9_append_32 rfl ?_
      refine z_top (kApp ty x) (by unfold kApp; (repeat' split) <;> omega) ?_
      refine z_vVi (As := [.int (iZ (kApp ty x))]) (rest := []) 36 K 94 (by decide) (va_up_eq _ 94 _) rfl rfl (m_X9_fails l g _ (kApp ty x) k ty 0 pt fl to (va_up_eq _ 94 _)) (cwV 1 K.1.2.2.2.2 gX9_append_X9_fails rfl rfl rfl (by decide +kernel) ⟨Nat.le_of_ble_eq_true rfl, Nat.le_of_ble_eq_true rfl⟩) rfl (Nat.le_of_ble_eq_true rfl) dX9_append_33 rfl ⟨Nat.le_of_ble_eq_true rfl, Nat.le_of_ble_eq_true rfl⟩ rfl (fun z_3 C_4 hp_33 => ?_)
      refine z_C hp_33.1 ?_
      refine z_top (0) hp_33.2 ?_
      refine z_C (va_uu _ _ _ _) ?_
      refine z_C (va_us ((va_up_ne _ _ (by decide)).trans hTx)).symm ?_
      refine z_C (va_ur1 (by decide)) ?_
      have hK : ¬ kApp ty x = 0 := by unfold kApp; (repeat' split) <;> omega
      exact z_iret K rfl dX9_append_36 ⟨by rw [if_neg hK, if_neg hK], by rw [if_neg hK]⟩
  · have d_13 := b2i_dec0.mp c_13
    refine z_aload_n 17 K dX9_append_16 rfl rfl 0 rfl ?_
    refine z_iconst 18 K dX9_append_17 rfl ?_
    refine z_top (kApp ty x) (by unfold kApp; (repeat' split) <;> omega) ?_
    refine z_vVi (As := [.int (iZ (kApp ty x))]) (rest := []) 21 K 94 (by decide) (va_up_eq _ 94 _) rfl rfl (m_X9_fails l g _ (kApp ty x) k ty 0 pt fl to (va_up_eq _ 94 _)) (cwV 1 K.1.2.2.2.2 gX9_append_X9_fails rfl rfl rfl (by decide +kernel) ⟨Nat.le_of_ble_eq_true rfl, Nat.le_of_ble_eq_true rfl⟩) rfl (Nat.le_of_ble_eq_true rfl) dX9_append_18 rfl ⟨Nat.le_of_ble_eq_true rfl, Nat.le_of_ble_eq_true rfl⟩ rfl (fun z_5 C_6 hp_18 => ?_)
    refine z_C hp_18.1 ?_
    refine z_top (0) hp_18.2 ?_
    refine z_C (va_uu _ _ _ _) ?_
    refine z_C (va_us ((va_up_ne _ _ (by decide)).trans hTx)).symm ?_
    refine z_C (va_ur1 (by decide)) ?_
    have hK : ¬ kApp ty x = 0 := by unfold kApp; (repeat' split) <;> omega
    exact z_iret K rfl dX9_append_21 ⟨by rw [if_neg hK, if_neg hK], by rw [if_neg hK]⟩
set_option maxRecDepth 20000 in
theorem hin_X9_undo_X9 : ∀ w ∈ wsX90, w ∈ wsX9_undo := by decide +kernel
set_option maxHeartbeats 4000000 in
set_option maxRecDepth 100000 in
theorem m_X9_undo (l : Launch) (g : zG) (C : Nat → va_E) (k : Int) (ty : Int) (th : Int) (pt : Int) (fl : Int) (to : Int) (f : Int → Int) (past : Int → Int) (hM : C 94 = .inr (9, [.ref (aD g 95), .ref (aD g 96), .ref (aD g 97), .int (iZ k), .ref (aD g 98), .int (iZ ty), .int (iZ th), .int (iZ pt), .int (iZ fl), .ref (aD g 99), .int (iZ to)])) (hN : C 95 = eI g 449 f) (hPa : C 97 = eI g 2694 past) (hk : 0 ≤ k ∧ k ≤ 6) : Met l yX9_undo wsX9_undo ({ frames := 1, cells := 0, slots := 0, locals := 24 } : Room) (zPre g C [.ref (aD g 94)]) (zQi g (fun z C' => C' = va_up (va_up C 94 (.inr (9, [.ref (aD g 95), .ref (aD g 96), .ref (aD g 97), .int (iZ (if kUnd k = 0 then k - 1 else k)), .ref (aD g 98), .int (iZ ty), .int (iZ (kUnd k)), .int (iZ pt), .int (iZ fl), .ref (aD g 99), .int (iZ to)]))) 95 (eI g 449 (if kUnd k = 0 then mPast past (k - 1) else f)) ∧ z = if kUnd k = 0 then k - 1 else 0)) 0 0 (zA g) := by
  refine z_enter RX9 rfl (by decide) rfl (Nat.le_of_ble_eq_true rfl) ?_
  intro p e s m args below meth c K harg
  refine z_sub (lv' := [(0, .ref (aD g 94))]) [0] rfl ?_
  refine z_aload_n 1 K dX9_undo_0 rfl rfl 0 rfl ?_
  refine z_iconst 2 K dX9_undo_1 rfl ?_
  refine z_put (ty := .int) 5 K hin_X9_undo_X9 tyX9 tyX9_ok nmX9 94 (by decide) hM rfl 6 (by decide) (by decide +kernel : Cond.fieldLink RX9 25 "BriefBuilderModel" "thrown" "I" ∈ wsX9_undo) (fun _ h9 => h9) rfl (by decide +kernel) rfl rfl (Nat.le_of_ble_eq_true rfl) dX9_undo_2 rfl ?_
  show Z p l e (({ frames := 1, cells := 0, slots := 0, locals := 24 } : Room)) s m args below meth c (MQ below (zQi g (fun z C' => C' = va_up (va_up C 94 (.inr (9, [.ref (aD g 95), .ref (aD g 96), .ref (aD g 97), .int (iZ (if kUnd k = 0 then k - 1 else k)), .ref (aD g 98), .int (iZ ty), .int (iZ (kUnd k)), .int (iZ pt), .int (iZ fl), .ref (aD g 99), .int (iZ to)]))) 95 (eI g 449 (if kUnd k = 0 then mPast past (k - 1) else f)) ∧ z = if kUnd k = 0 then k - 1 else 0)) args s 0 0 (zA g)) g _ _ _ (va_up C 94 (.inr (9, [.ref (aD g 95), .ref (aD g 96), .ref (aD g 97), .int (iZ k), .ref (aD g 98), .int (iZ ty), .int (iZ 0), .int (iZ pt), .int (iZ fl), .ref (aD g 99), .int (iZ to)]))) [(0, .ref (aD g 94))] 5 []
  refine z_aload_n 6 K dX9_undo_5 rfl rfl 0 rfl ?_
  refine z_get 9 K hin_X9_undo_X9 94 (by decide) (va_up_eq _ 94 _) rfl 3 (by decide) (by decide +kernel : Cond.fieldLink RX9 33 "BriefBuilderModel" "kept" "I" ∈ wsX9_undo) (fun _ h9 => h9) rfl dX9_undo_6 rfl ?_
  refine z_if_ne (tgt := 18) 12 K dX9_undo_9 rfl (by decide) (by omega) (fun c_9 => ?_) (fun c_9 => ?_)
  · skip
    refine z_aload_n 19 K dX9_undo_18 rfl rfl 0 rfl ?_
    refine z_dup 20 K dX9_undo_19 rfl rfl ?_
    refine z_get 23 K hin_X9_undo_X9 94 (by decide) (va_up_eq _ 94 _) rfl 3 (by decide) (by decide +kernel : Cond.fieldLink RX9 33 "BriefBuilderModel" "kept" "I" ∈ wsX9_undo) (fun _ h9 => h9) rfl dX9_undo_20 rfl ?_
    refine z_iconst 24 K dX9_undo_23 rfl ?_
    refine z_isub 25 K dX9_undo_24 rfl ?_
    refine z_put (ty := .int) 28 K hin_X9_undo_X9 tyX9 tyX9_ok nmX9 94 (by decide) (va_up_eq _ 94 _) rfl 3 (by decide) (by decide +kernel : Cond.fieldLink RX9 33 "BriefBuilderModel" "kept" "I" ∈ wsX9_undo) (fun _ h9 => h9) rfl (by decide +kernel) rfl rfl (Nat.le_of_ble_eq_true rfl) dX9_undo_25 rfl ?_
    show Z p l e (({ frames := 1, cells := 0, slots := 0, locals := 24 } : Room)) s m args below meth c (MQ below (zQi g (fun z C' => C' = va_up (va_up C 94 (.inr (9, [.ref (aD g 95), .ref (aD g 96), .ref (aD g 97), .int (iZ (if kUnd k = 0 then k - 1 else k)), .ref (aD g 98), .int (iZ ty), .int (iZ (kUnd k)), .int (iZ pt), .int (iZ fl), .ref (aD g 99), .int (iZ to)]))) 95 (eI g 449 (if kUnd k = 0 then mPast past (k - 1) else f)) ∧ z = if kUnd k = 0 then k - 1 else 0)) args s 0 0 (zA g)) g _ _ _ (va_up (va_up C 94 (.inr (9, [.ref (aD g 95), .ref (aD g 96), .ref (aD g 97), .int (iZ k), .ref (aD g 98), .int (iZ ty), .int (iZ 0), .int (iZ pt), .int (iZ fl), .ref (aD g 99), .int (iZ to)]))) 94 (.inr (9, [.ref (aD g 95), .ref (aD g 96), .ref (aD g 97), .int (iZ (k - 1)), .ref (aD g 98), .int (iZ ty), .int (iZ 0), .int (iZ pt), .int (iZ fl), .ref (aD g 99), .int (iZ to)]))) [(0, .ref (aD g 94))] 28 []
    refine z_C (va_uu _ _ _ _) ?_
    refine z_aload_n 29 K dX9_undo_28 rfl rfl 0 rfl ?_
    refine z_get 32 K hin_X9_undo_X9 94 (by decide) (va_up_eq _ 94 _) rfl 2 (by decide) (by decide +kernel : Cond.fieldLink RX9 16 "BriefBuilderModel" "past" "[I" ∈ wsX9_undo) (fun _ h9 => h9) rfl dX9_undo_29 rfl ?_
    refine z_sipush 35 K dX9_undo_32 rfl rfl ?_
    refine z_aload_n 36 K dX9_undo_35 rfl rfl 0 rfl ?_
    refine z_get 39 K hin_X9_undo_X9 94 (by decide) (va_up_eq _ 94 _) rfl 3 (by decide) (by decide +kernel : Cond.fieldLink RX9 33 "BriefBuilderModel" "kept" "I" ∈ wsX9_undo) (fun _ h9 => h9) rfl dX9_undo_36 rfl ?_
    refine z_imul 40 K dX9_undo_39 rfl ?_
    refine z_top (449 * k - 449) (by omega) ?_
    refine z_aload_n 41 K dX9_undo_40 rfl rfl 0 rfl ?_
    refine z_get 44 K hin_X9_undo_X9 94 (by decide) (va_up_eq _ 94 _) rfl 0 (by decide) (by decide +kernel : Cond.fieldLink RX9 7 "BriefBuilderModel" "now" "[I" ∈ wsX9_undo) (fun _ h9 => h9) rfl dX9_undo_41 rfl ?_
    refine z_iconst 45 K dX9_undo_44 rfl ?_
    refine z_vSv (As := [.ref (aD g 97), .int (iZ (449 * k - 449)), .ref (aD g 95), .int (iZ 0)]) (rest := []) 48 K (m_X9_copies l g _ 97 (449 * k - 449) 95 0 past f 2694 449 (by decide) ((va_up_ne _ _ (by decide)).trans hPa) (by decide) ((va_up_ne _ _ (by decide)).trans hN) (by decide) (by omega) (by omega)) (va_cwS 4 K.1.2.2.2.2 gX9_undo_X9_copies rfl rfl rfl (by decide +kernel) ⟨Nat.le_of_ble_eq_true rfl, Nat.le_of_ble_eq_true rfl⟩) rfl (Nat.le_of_ble_eq_true rfl) dX9_undo_45 rfl ⟨Nat.le_of_ble_eq_true rfl, Nat.le_of_ble_eq_true rfl⟩ rfl (fun C_2 hp_45 => ?_)
    refine z_C hp_45 ?_
    refine z_ag (mPast past (k - 1)) (fun j h0 h1 => by simp only [zcpy, mPast]; rw [if_pos (by omega)]; congr 1; omega) ?_
    refine z_aload_n 49 K dX9_undo_48 rfl rfl 0 rfl ?_
    refine z_get 52 K hin_X9_undo_X9 94 (by decide) ((va_up_ne _ _ (by decide)).trans (va_up_eq _ 94 _)) rfl 3 (by decide) (by decide +kernel : Cond.fieldLink RX9 33 "BriefBuilderModel" "kept" "I" ∈ wsX9_undo) (fun _ h9 => h9) rfl dX9_undo_49 rfl ?_
    have hK : kUnd k = 0 := by unfold kUnd; (repeat' split) <;> omega
    exact z_iret K rfl dX9_undo_52 ⟨by rw [hK] <;> rfl, by rw [if_pos hK]⟩
  · skip
    refine z_aload_n 13 K dX9_undo_12 rfl rfl 0 rfl ?_
    refine z_iconst 14 K dX9_undo_13 rfl ?_
    refine z_top (kUnd k) (by unfold kUnd; (repeat' split) <;> omega) ?_
    refine z_vVi (As := [.int (iZ (kUnd k))]) (rest := []) 17 K 94 (by decide) (va_up_eq _ 94 _) rfl rfl (m_X9_fails l g _ (kUnd k) k ty 0 pt fl to (va_up_eq _ 94 _)) (cwV 1 K.1.2.2.2.2 gX9_undo_X9_fails rfl rfl rfl (by decide +kernel) ⟨Nat.le_of_ble_eq_true rfl, Nat.le_of_ble_eq_true rfl⟩) rfl (Nat.le_of_ble_eq_true rfl) dX9_undo_14 rfl ⟨Nat.le_of_ble_eq_true rfl, Nat.le_of_ble_eq_true rfl⟩ rfl (fun z_3 C_4 hp_14 => ?_)
    refine z_C hp_14.1 ?_
    refine z_top (0) hp_14.2 ?_
    refine z_C (va_uu _ _ _ _) ?_
    refine z_C (va_us ((va_up_ne _ _ (by decide)).trans hN)).symm ?_
    have hK : ¬ kUnd k = 0 := by unfold kUnd; (repeat' split) <;> omega
    exact z_iret K rfl dX9_undo_17 ⟨by rw [if_neg hK, if_neg hK], by rw [if_neg hK]⟩
end ZMY
