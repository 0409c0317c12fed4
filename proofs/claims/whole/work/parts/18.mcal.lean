/-! the reference: citeAll -/
section ZMCB
set_option maxRecDepth 20000 in
theorem hin_X9_citeAll_X9 : ∀ w ∈ wsX90, w ∈ wsX9_citeAll := by decide +kernel
set_option maxHeartbeats 4000000 in
set_option maxRecDepth 100000 in
theorem m_X9_citeAll (l : Launch) (g : zG) (C : Nat → va_E) (a : Int) (k : Int) (ty : Int) (th : Int) (pt : Int) (fl : Int) (to : Int) (f : Int → Int) (past : Int → Int) (tx : Int → Int) (td : Int → Int) (cap : Int) (hM : C 94 = .inr (9, [.ref (aD g 95), .ref (aD g 96), .ref (aD g 97), .int (iZ k), .ref (aD g 98), .int (iZ ty), .int (iZ th), .int (iZ pt), .int (iZ fl), .ref (aD g 99), .int (iZ to)])) (hN : C 95 = eI g 449 f) (hPa : C 97 = eI g 2694 past) (hTx : C 98 = eI g 60 tx) (hTd : C 99 = eI g 12 td) (hk : 0 ≤ k ∧ k ≤ 6) (hw : WF f cap) (h_a : -2147483648 ≤ a ∧ a < 2147483648) (hty : 0 ≤ ty ∧ ty ≤ 60) (htr : ∀ j, -2147483648 ≤ tx j ∧ tx j < 2147483648) (htdr : ∀ j, -2147483648 ≤ td j ∧ td j < 2147483648) : Met l yX9_citeAll wsX9_citeAll ({ frames := 4, cells := 0, slots := 0, locals := 87 } : Room) (zPre g C [.ref (aD g 94), .int (iZ a)]) (zQi g (fun z C' => C' = va_up (va_up (va_up (va_up C 99 (eI g 12 (if 0 ≤ a ∧ a < 12 then (tAll tx ty td).2.2.2 else td))) 97 (eI g 2694 (if kCal f a (tAll tx ty td) = 0 then mSav f past k else past))) 95 (eI g 449 (if kCal f a (tAll tx ty td) = 0 then mNms f a (tAll tx ty td).2.2.2 (tAll tx ty td).2.2.1 else f))) 94 (.inr (9, [.ref (aD g 95), .ref (aD g 96), .ref (aD g 97), .int (iZ (if kCal f a (tAll tx ty td) = 0 then mKp k + 1 else k)), .ref (aD g 98), .int (iZ (if kCal f a (tAll tx ty td) = 0 then 0 else ty)), .int (iZ (kCal f a (tAll tx ty td))), .int (iZ (if 0 ≤ a ∧ a < 12 then (tAll tx ty td).2.1 else pt)), .int (iZ (if 0 ≤ a ∧ a < 12 then b2i (decide ((tAll tx ty td).2.1 < ty)) else fl)), .ref (aD g 99), .int (iZ (if 0 ≤ a ∧ a < 12 then (tAll tx ty td).2.2.1 else to))])) ∧ z = if kCal f a (tAll tx ty td) = 0 then f (32 * a + 65) else 0)) 0 0 (zA g) := by
  refine z_enter RX9 rfl (by decide) rfl (Nat.le_of_ble_eq_true rfl) ?_
  intro p e s m args below meth c K harg
  refine z_sub (lv' := [(0, .ref (aD g 94)), (1, .int (iZ a))]) [0, 1] rfl ?_
  have hn := hw.n
  have hRr := tRun_rng tx ty 6 0 0 td htdr
  have hR2 : 0 ≤ (tAll tx ty td).2.2.1 ∧ (tAll tx ty td).2.2.1 ≤ 6 := ⟨hRr.1, by have h9 := hRr.2.1; exact Int.le_trans h9 (by decide)⟩
  have hR3 : ∀ j, -2147483648 ≤ (tAll tx ty td).2.2.2 j ∧ (tAll tx ty td).2.2.2 j < 2147483648 := hRr.2.2
  refine z_aload_n 1 K dX9_citeAll_0 rfl rfl 0 rfl ?_
  refine z_iconst 2 K dX9_citeAll_1 rfl ?_
  refine z_put (ty := .int) 5 K hin_X9_citeAll_X9 tyX9 tyX9_ok nmX9 94 (by decide) hM rfl 6 (by decide) (by decide +kernel : Cond.fieldLink RX9 25 "BriefBuilderModel" "thrown" "I" ∈ wsX9_citeAll) (fun _ h9 => h9) rfl (by decide +kernel) rfl rfl (Nat.le_of_ble_eq_true rfl) dX9_citeAll_2 rfl ?_
  show Z p l e (({ frames := 4, cells := 0, slots := 0, locals := 87 } : Room)) s m args below meth c (MQ below (zQi g (fun z C' => C' = va_up (va_up (va_up (va_up C 99 (eI g 12 (if 0 ≤ a ∧ a < 12 then (tAll tx ty td).2.2.2 else td))) 97 (eI g 2694 (if kCal f a (tAll tx ty td) = 0 then mSav f past k else past))) 95 (eI g 449 (if kCal f a (tAll tx ty td) = 0 then mNms f a (tAll tx ty td).2.2.2 (tAll tx ty td).2.2.1 else f))) 94 (.inr (9, [.ref (aD g 95), .ref (aD g 96), .ref (aD g 97), .int (iZ (if kCal f a (tAll tx ty td) = 0 then mKp k + 1 else k)), .ref (aD g 98), .int (iZ (if kCal f a (tAll tx ty td) = 0 then 0 else ty)), .int (iZ (kCal f a (tAll tx ty td))), .int (iZ (if 0 ≤ a ∧ a < 12 then (tAll tx ty td).2.1 else pt)), .int (iZ (if 0 ≤ a ∧ a < 12 then b2i (decide ((tAll tx ty td).2.1 < ty)) else fl)), .ref (aD g 99), .int (iZ (if 0 ≤ a ∧ a < 12 then (tAll tx ty td).2.2.1 else to))])) ∧ z = if kCal f a (tAll tx ty td) = 0 then f (32 * a + 65) else 0)) args s 0 0 (zA g)) g _ _ _ (va_up C 94 (.inr (9, [.ref (aD g 95), .ref (aD g 96), .ref (aD g 97), .int (iZ k), .ref (aD g 98), .int (iZ ty), .int (iZ 0), .int (iZ pt), .int (iZ fl), .ref (aD g 99), .int (iZ to)]))) [(0, .ref (aD g 94)), (1, .int (iZ a))] 5 []
  refine z_iload_n 6 K dX9_citeAll_5 rfl rfl 1 rfl ?_
  refine z_vSi (As := [.int (iZ a)]) (rest := []) 9 K (m_X9_isParagraph l g _ a (by omega)) (va_cwS 1 K.1.2.2.2.2 gX9_citeAll_X9_isParagraph rfl rfl rfl (by decide +kernel) ⟨Nat.le_of_ble_eq_true rfl, Nat.le_of_ble_eq_true rfl⟩) rfl (Nat.le_of_ble_eq_true rfl) dX9_citeAll_6 rfl ⟨Nat.le_of_ble_eq_true rfl, Nat.le_of_ble_eq_true rfl⟩ rfl (fun z_1 C_2 hp_6 => ?_)
  refine z_C hp_6.1 ?_
  refine z_top (b2i (decide (0 ≤ a ∧ a ≤ 11))) hp_6.2 ?_
  refine z_if_ne (tgt := 18) 12 K dX9_citeAll_9 rfl (by decide) (b2i_ir _) (fun c_9 => ?_) (fun c_9 => ?_)
  · have d_9 := b2i_decn.mp c_9
    refine z_aload_n 19 K dX9_citeAll_18 rfl rfl 0 rfl ?_
    refine z_vVi (As := []) (rest := []) 22 K 94 (by decide) (va_up_eq _ 94 _) rfl rfl (m_X9_isText l g _ k ty 0 pt fl to tx td (va_up_eq _ 94 _) ((va_up_ne _ _ (by decide)).trans hTx) ((va_up_ne _ _ (by decide)).trans hTd) (by omega) htr) (cwV 0 K.1.2.2.2.2 gX9_citeAll_X9_isText rfl rfl rfl (by decide +kernel) ⟨Nat.le_of_ble_eq_true rfl, Nat.le_of_ble_eq_true rfl⟩) rfl (Nat.le_of_ble_eq_true rfl) dX9_citeAll_19 rfl ⟨Nat.le_of_ble_eq_true rfl, Nat.le_of_ble_eq_true rfl⟩ rfl (fun z_3 C_4 hp_19 => ?_)
    refine z_C hp_19.1 ?_
    refine z_top (b2i (tAll tx ty td).1) hp_19.2 ?_
    refine z_C (va_uu1 (by decide)) ?_
    refine z_if_ne (tgt := 31) 25 K dX9_citeAll_22 rfl (by decide) (b2i_ir _) (fun c_22 => ?_) (fun c_22 => ?_)
    · have d_22 := b2i_ne0.mp c_22
      refine z_iconst 32 K dX9_citeAll_31 rfl ?_
      refine z_istore_n (lv' := [(2, .int (iZ 0)), (0, .ref (aD g 94)), (1, .int (iZ a))]) 33 K dX9_citeAll_32 rfl rfl (by decide) rfl ?_
      have loop_33 : ∀ (n9 : Nat) (kk : Int), (0 ≤ kk ∧ kk ≤ (tAll tx ty td).2.2.1) → (∀ j, 0 ≤ j → j < kk → 0 ≤ (tAll tx ty td).2.2.2 (2 * j) ∧ (tAll tx ty td).2.2.2 (2 * j) ≤ f 1 - 1) → ((tAll tx ty td).2.2.1 - kk < (n9 : Int)) → Z p l e (({ frames := 4, cells := 0, slots := 0, locals := 87 } : Room)) s m args below meth c (MQ below (zQi g (fun z C' => C' = va_up (va_up (va_up (va_up C 99 (eI g 12 (if 0 ≤ a ∧ a < 12 then (tAll tx ty td).2.2.2 else td))) 97 (eI g 2694 (if kCal f a (tAll tx ty td) = 0 then mSav f past k else past))) 95 (eI g 449 (if kCal f a (tAll tx ty td) = 0 then mNms f a (tAll tx ty td).2.2.2 (tAll tx ty td).2.2.1 else f))) 94 (.inr (9, [.ref (aD g 95), .ref (aD g 96), .ref (aD g 97), .int (iZ (if kCal f a (tAll tx ty td) = 0 then mKp k + 1 else k)), .ref (aD g 98), .int (iZ (if kCal f a (tAll tx ty td) = 0 then 0 else ty)), .int (iZ (kCal f a (tAll tx ty td))), .int (iZ (if 0 ≤ a ∧ a < 12 then (tAll tx ty td).2.1 else pt)), .int (iZ (if 0 ≤ a ∧ a < 12 then b2i (decide ((tAll tx ty td).2.1 < ty)) else fl)), .ref (aD g 99), .int (iZ (if 0 ≤ a ∧ a < 12 then (tAll tx ty td).2.2.1 else to))])) ∧ z = if kCal f a (tAll tx ty td) = 0 then f (32 * a + 65) else 0)) args s 0 0 (zA g)) g 4 0 0 (va_up (va_up C 99 (eI g 12 ((tAll tx ty td).2.2.2))) 94 (.inr (9, [.ref (aD g 95), .ref (aD g 96), .ref (aD g 97), .int (iZ k), .ref (aD g 98), .int (iZ ty), .int (iZ 0), .int (iZ ((tAll tx ty td).2.1)), .int (iZ (b2i (decide ((tAll tx ty td).2.1 < ty)))), .ref (aD g 99), .int (iZ ((tAll tx ty td).2.2.1))]))) [(0, .ref (aD g 94)), (1, .int (iZ a)), (2, .int (iZ kk))] 33 [] := by
        intro n9
        induction n9 with
        | zero =>
          intro kk hkk hgd hm9
          exact absurd hm9 (by omega)
        | succ n9 ih9 =>
          intro kk hkk hgd hm_33
          have ih_33 := ih9
          clear ih9
          refine z_iload_n 34 K dX9_citeAll_33 rfl rfl 2 rfl ?_
          refine z_aload_n 35 K dX9_citeAll_34 rfl rfl 0 rfl ?_
          refine z_get 38 K hin_X9_citeAll_X9 94 (by decide) (va_up_eq _ 94 _) rfl 10 (by decide) (by decide +kernel : Cond.fieldLink RX9 140 "BriefBuilderModel" "tolds" "I" ∈ wsX9_citeAll) (fun _ h9 => h9) rfl dX9_citeAll_35 rfl ?_
          refine z_icmp_ge (tgt := 68) 41 K dX9_citeAll_38 rfl (by decide) (by omega) (by omega) (fun c_38 => ?_) (fun c_38 => ?_)
          · skip
            have ek : kk = (tAll tx ty td).2.2.1 := by omega
            have hT : (tAll tx ty td).1 = true := by assumption
            have hG : tGood (tAll tx ty td).2.2.2 (tAll tx ty td).2.2.1 (f 1) = true := by unfold tGood; rw [zany_f.mpr (fun j h0 h1 => by have h9 := hgd j h0 (by omega); rw [decide_eq_true h9]; rfl)]; rfl
            refine z_aload_n 69 K dX9_citeAll_68 rfl rfl 0 rfl ?_
            refine z_vVv (As := []) (rest := []) 72 K 94 (by decide) (va_up_eq _ 94 _) rfl rfl (m_X9_saves l g _ k ty 0 ((tAll tx ty td).2.1) (b2i (decide ((tAll tx ty td).2.1 < ty))) ((tAll tx ty td).2.2.1) f past (va_up_eq _ 94 _) ((va_up_ne _ _ (by decide)).trans ((va_up_ne _ _ (by decide)).trans hN)) ((va_up_ne _ _ (by decide)).trans ((va_up_ne _ _ (by decide)).trans hPa)) (by omega)) (cwV 0 K.1.2.2.2.2 gX9_citeAll_X9_saves rfl rfl rfl (by decide +kernel) ⟨Nat.le_of_ble_eq_true rfl, Nat.le_of_ble_eq_true rfl⟩) rfl (Nat.le_of_ble_eq_true rfl) dX9_citeAll_69 rfl ⟨Nat.le_of_ble_eq_true rfl, Nat.le_of_ble_eq_true rfl⟩ rfl (fun C_6 hp_69 => ?_)
            refine z_C hp_69 ?_
            refine z_C (va_uu1 (by decide)) ?_
            refine z_aload_n 73 K dX9_citeAll_72 rfl rfl 0 rfl ?_
            refine z_iconst 74 K dX9_citeAll_73 rfl ?_
            refine z_put (ty := .int) 77 K hin_X9_citeAll_X9 tyX9 tyX9_ok nmX9 94 (by decide) (va_up_eq _ 94 _) rfl 5 (by decide) (by decide +kernel : Cond.fieldLink RX9 122 "BriefBuilderModel" "typed" "I" ∈ wsX9_citeAll) (fun _ h9 => h9) rfl (by decide +kernel) rfl rfl (Nat.le_of_ble_eq_true rfl) dX9_citeAll_74 rfl ?_
            show Z p l e (({ frames := 4, cells := 0, slots := 0, locals := 87 } : Room)) s m args below meth c (MQ below (zQi g (fun z C' => C' = va_up (va_up (va_up (va_up C 99 (eI g 12 (if 0 ≤ a ∧ a < 12 then (tAll tx ty td).2.2.2 else td))) 97 (eI g 2694 (if kCal f a (tAll tx ty td) = 0 then mSav f past k else past))) 95 (eI g 449 (if kCal f a (tAll tx ty td) = 0 then mNms f a (tAll tx ty td).2.2.2 (tAll tx ty td).2.2.1 else f))) 94 (.inr (9, [.ref (aD g 95), .ref (aD g 96), .ref (aD g 97), .int (iZ (if kCal f a (tAll tx ty td) = 0 then mKp k + 1 else k)), .ref (aD g 98), .int (iZ (if kCal f a (tAll tx ty td) = 0 then 0 else ty)), .int (iZ (kCal f a (tAll tx ty td))), .int (iZ (if 0 ≤ a ∧ a < 12 then (tAll tx ty td).2.1 else pt)), .int (iZ (if 0 ≤ a ∧ a < 12 then b2i (decide ((tAll tx ty td).2.1 < ty)) else fl)), .ref (aD g 99), .int (iZ (if 0 ≤ a ∧ a < 12 then (tAll tx ty td).2.2.1 else to))])) ∧ z = if kCal f a (tAll tx ty td) = 0 then f (32 * a + 65) else 0)) args s 0 0 (zA g)) g _ _ _ (va_up (va_up (va_up (va_up C 99 (eI g 12 ((tAll tx ty td).2.2.2))) 97 (eI g 2694 (mSav f past k))) 94 (.inr (9, [.ref (aD g 95), .ref (aD g 96), .ref (aD g 97), .int (iZ (mKp k + 1)), .ref (aD g 98), .int (iZ ty), .int (iZ 0), .int (iZ ((tAll tx ty td).2.1)), .int (iZ (b2i (decide ((tAll tx ty td).2.1 < ty)))), .ref (aD g 99), .int (iZ ((tAll tx ty td).2.2.1))]))) 94 (.inr (9, [.ref (aD g 95), .ref (aD g 96), .ref (aD g 97), .int (iZ (mKp k + 1)), .ref (aD g 98), .int (iZ 0), .int (iZ 0), .int (iZ ((tAll tx ty td).2.1)), .int (iZ (b2i (decide ((tAll tx ty td).2.1 < ty)))), .ref (aD g 99), .int (iZ ((tAll tx ty td).2.2.1))]))) [(0, .ref (aD g 94)), (1, .int (iZ a)), (2, .int (iZ kk))] 77 []
            refine z_C (va_uu _ _ _ _) ?_
            refine z_aload_n 78 K dX9_citeAll_77 rfl rfl 0 rfl ?_
            refine z_bipush 80 K dX9_citeAll_78 rfl rfl ?_
            refine z_bipush 82 K dX9_citeAll_80 rfl rfl ?_
            refine z_iload_n 83 K dX9_citeAll_82 rfl rfl 1 rfl ?_
            refine z_imul 84 K dX9_citeAll_83 rfl ?_
            refine z_iadd 85 K dX9_citeAll_84 rfl ?_
            refine z_top (32 * a + 65) (by omega) ?_
            refine z_iconst 86 K dX9_citeAll_85 rfl ?_
            refine z_vVi (As := [.int (iZ (32 * a + 65)), .int (iZ 0)]) (rest := []) 89 K 94 (by decide) (va_up_eq _ 94 _) rfl rfl (m_X9_changes l g _ (32 * a + 65) 0 (mKp k + 1) 0 0 ((tAll tx ty td).2.1) (b2i (decide ((tAll tx ty td).2.1 < ty))) ((tAll tx ty td).2.2.1) f (va_up_eq _ 94 _) ((va_up_ne _ _ (by decide)).trans ((va_up_ne _ _ (by decide)).trans ((va_up_ne _ _ (by decide)).trans hN))) (by omega)) (cwV 2 K.1.2.2.2.2 gX9_citeAll_X9_changes rfl rfl rfl (by decide +kernel) ⟨Nat.le_of_ble_eq_true rfl, Nat.le_of_ble_eq_true rfl⟩) rfl (Nat.le_of_ble_eq_true rfl) dX9_citeAll_86 rfl ⟨Nat.le_of_ble_eq_true rfl, Nat.le_of_ble_eq_true rfl⟩ rfl (fun z_7 C_8 hp_86 => ?_)
            refine z_C hp_86.1 ?_
            refine z_top (f (32 * a + 65)) hp_86.2 ?_
            refine z_istore_n (lv' := [(2, .int (iZ (f (32 * a + 65)))), (0, .ref (aD g 94)), (1, .int (iZ a))]) 90 K dX9_citeAll_89 rfl rfl (by decide) rfl ?_
            refine z_iconst 91 K dX9_citeAll_90 rfl ?_
            refine z_istore_n (lv' := [(3, .int (iZ 0)), (2, .int (iZ (f (32 * a + 65)))), (0, .ref (aD g 94)), (1, .int (iZ a))]) 92 K dX9_citeAll_91 rfl rfl (by decide) rfl ?_
            have loop_92 : ∀ (n9 : Nat) (h : Int → Int) (kk : Int), (0 ≤ kk ∧ kk ≤ (tAll tx ty td).2.2.1) → (h = mNms f a (tAll tx ty td).2.2.2 kk) → ((tAll tx ty td).2.2.1 - kk < (n9 : Int)) → Z p l e (({ frames := 4, cells := 0, slots := 0, locals := 87 } : Room)) s m args below meth c (MQ below (zQi g (fun z C' => C' = va_up (va_up (va_up (va_up C 99 (eI g 12 (if 0 ≤ a ∧ a < 12 then (tAll tx ty td).2.2.2 else td))) 97 (eI g 2694 (if kCal f a (tAll tx ty td) = 0 then mSav f past k else past))) 95 (eI g 449 (if kCal f a (tAll tx ty td) = 0 then mNms f a (tAll tx ty td).2.2.2 (tAll tx ty td).2.2.1 else f))) 94 (.inr (9, [.ref (aD g 95), .ref (aD g 96), .ref (aD g 97), .int (iZ (if kCal f a (tAll tx ty td) = 0 then mKp k + 1 else k)), .ref (aD g 98), .int (iZ (if kCal f a (tAll tx ty td) = 0 then 0 else ty)), .int (iZ (kCal f a (tAll tx ty td))), .int (iZ (if 0 ≤ a ∧ a < 12 then (tAll tx ty td).2.1 else pt)), .int (iZ (if 0 ≤ a ∧ a < 12 then b2i (decide ((tAll tx ty td).2.1 < ty)) else fl)), .ref (aD g 99), .int (iZ (if 0 ≤ a ∧ a < 12 then (tAll tx ty td).2.2.1 else to))])) ∧ z = if kCal f a (tAll tx ty td) = 0 then f (32 * a + 65) else 0)) args s 0 0 (zA g)) g 4 0 0 (va_up (va_up (va_up (va_up C 99 (eI g 12 ((tAll tx ty td).2.2.2))) 97 (eI g 2694 (mSav f past k))) 95 (eI g 449 h)) 94 (.inr (9, [.ref (aD g 95), .ref (aD g 96), .ref (aD g 97), .int (iZ (mKp k + 1)), .ref (aD g 98), .int (iZ 0), .int (iZ 0), .int (iZ ((tAll tx ty td).2.1)), .int (iZ (b2i (decide ((tAll tx ty td).2.1 < ty)))), .ref (aD g 99), .int (iZ ((tAll tx ty td).2.2.1))]))) [(0, .ref (aD g 94)), (1, .int (iZ a)), (2, .int (iZ (f (32 * a + 65)))), (3, .int (iZ kk))] 92 [] := by
              intro n9
              induction n9 with
              | zero =>
                intro h kk hkk hh hm9
                exact absurd hm9 (by omega)
              | succ n9 ih9 =>
                intro h kk hkk hh hm_92
                have ih_92 := ih9
                clear ih9
                refine z_iload_n 93 K dX9_citeAll_92 rfl rfl 3 rfl ?_
                refine z_aload_n 94 K dX9_citeAll_93 rfl rfl 0 rfl ?_
                refine z_get 97 K hin_X9_citeAll_X9 94 (by decide) (va_up_eq _ 94 _) rfl 10 (by decide) (by decide +kernel : Cond.fieldLink RX9 140 "BriefBuilderModel" "tolds" "I" ∈ wsX9_citeAll) (fun _ h9 => h9) rfl dX9_citeAll_94 rfl ?_
                refine z_icmp_ge (tgt := 129) 100 K dX9_citeAll_97 rfl (by decide) (by omega) (by omega) (fun c_97 => ?_) (fun c_97 => ?_)
                · skip
                  refine z_iload_n 130 K dX9_citeAll_129 rfl rfl 2 rfl ?_
                  have hP : 0 ≤ a ∧ a < 12 := by omega
                  have ek : kk = (tAll tx ty td).2.2.1 := by omega
                  rw [ek] at hh
                  have hK : kCal f a (tAll tx ty td) = 0 := by unfold kCal; rw [if_neg (by omega), if_neg (by rw [hT]; decide), if_neg (by rw [hG]; decide)]
                  rw [hh]
                  exact z_iret K rfl dX9_citeAll_130 ⟨by rw [hK, if_pos hP, if_pos hP, if_pos hP, if_pos hP] <;> rfl, by rw [hK] <;> rfl⟩
                · skip
                  refine z_aload_n 101 K dX9_citeAll_100 rfl rfl 0 rfl ?_
                  refine z_iload_n 102 K dX9_citeAll_101 rfl rfl 1 rfl ?_
                  refine z_aload_n 103 K dX9_citeAll_102 rfl rfl 0 rfl ?_
                  refine z_get 106 K hin_X9_citeAll_X9 94 (by decide) (va_up_eq _ 94 _) rfl 9 (by decide) (by decide +kernel : Cond.fieldLink RX9 22 "BriefBuilderModel" "told" "[I" ∈ wsX9_citeAll) (fun _ h9 => h9) rfl dX9_citeAll_103 rfl ?_
                  refine z_iconst 107 K dX9_citeAll_106 rfl ?_
                  refine z_iload_n 108 K dX9_citeAll_107 rfl rfl 3 rfl ?_
                  refine z_imul 109 K dX9_citeAll_108 rfl ?_
                  refine z_iald (f := ((tAll tx ty td).2.2.2)) 110 K 99 (by decide) ((va_up_ne _ _ (by decide)).trans ((va_up_ne _ _ (by decide)).trans ((va_up_ne _ _ (by decide)).trans (va_up_eq _ 99 _)))) (by omega) (by omega) (by decide) dX9_citeAll_109 rfl ?_
                  have hr109 := hR3 (2 * kk)
                  refine z_aload_n 111 K dX9_citeAll_110 rfl rfl 0 rfl ?_
                  refine z_get 114 K hin_X9_citeAll_X9 94 (by decide) (va_up_eq _ 94 _) rfl 9 (by decide) (by decide +kernel : Cond.fieldLink RX9 22 "BriefBuilderModel" "told" "[I" ∈ wsX9_citeAll) (fun _ h9 => h9) rfl dX9_citeAll_111 rfl ?_
                  refine z_iconst 115 K dX9_citeAll_114 rfl ?_
                  refine z_iload_n 116 K dX9_citeAll_115 rfl rfl 3 rfl ?_
                  refine z_imul 117 K dX9_citeAll_116 rfl ?_
                  refine z_iconst 118 K dX9_citeAll_117 rfl ?_
                  refine z_iadd 119 K dX9_citeAll_118 rfl ?_
                  refine z_iald (f := ((tAll tx ty td).2.2.2)) 120 K 99 (by decide) ((va_up_ne _ _ (by decide)).trans ((va_up_ne _ _ (by decide)).trans ((va_up_ne _ _ (by decide)).trans (va_up_eq _ 99 _)))) (by omega) (by omega) (by decide) dX9_citeAll_119 rfl ?_
                  have hr119 := hR3 (2 * kk + 1)
                  have hg9 := hgd kk (by omega) (by omega)
                  refine z_vVv (As := [.int (iZ a), .int (iZ (((tAll tx ty td).2.2.2) (2 * kk))), .int (iZ (((tAll tx ty td).2.2.2) (2 * kk + 1)))]) (rest := []) 123 K 94 (by decide) (va_up_eq _ 94 _) rfl rfl (m_X9_names l g _ a (((tAll tx ty td).2.2.2) (2 * kk)) (((tAll tx ty td).2.2.2) (2 * kk + 1)) (mKp k + 1) 0 0 ((tAll tx ty td).2.1) (b2i (decide ((tAll tx ty td).2.1 < ty))) ((tAll tx ty td).2.2.1) h (va_up_eq _ 94 _) ((va_up_ne _ _ (by decide)).trans (va_up_eq _ 95 _)) (by rw [hh, mNms_n (by omega)]; omega) (by omega)) (cwV 3 K.1.2.2.2.2 gX9_citeAll_X9_names rfl rfl rfl (by decide +kernel) ⟨Nat.le_of_ble_eq_true rfl, Nat.le_of_ble_eq_true rfl⟩) rfl (Nat.le_of_ble_eq_true rfl) dX9_citeAll_120 rfl ⟨Nat.le_of_ble_eq_true rfl, Nat.le_of_ble_eq_true rfl⟩ rfl (fun C_10 hp_120 => ?_)
                  refine z_C hp_120 ?_
                  refine z_C (va_uu1 (by decide)) ?_
                  refine z_iinc (lv' := [(3, .int (iZ (kk + 1))), (0, .ref (aD g 94)), (1, .int (iZ a)), (2, .int (iZ (f (32 * a + 65))))]) 126 K dX9_citeAll_123 rfl (kk + 1) rfl 3 rfl (by decide) rfl ?_
                  refine z_goto (tgt := 92) K dX9_citeAll_126 (by decide) ?_
                  refine z_sub [1, 2, 3, 0] rfl ?_
                  refine z_C (va_ur3 (by decide) (by decide) (by decide)) ?_
                  refine z_C (va_ur3 (by decide) (by decide) (by decide)) ?_
                  refine z_C (va_ur2 (by decide) (by decide)) ?_
                  refine z_C (va_ur3 (by decide) (by decide) (by decide)) ?_
                  exact ih_92 (mName h a (((tAll tx ty td).2.2.2) (2 * kk)) (((tAll tx ty td).2.2.2) (2 * kk + 1))) (kk + 1) (by omega) (by rw [mNms_1 (by omega), hh]) (by omega)
            refine z_sub [2, 3, 1, 0] rfl ?_
            refine z_C (va_ur3 (by decide) (by decide) (by decide)) ?_
            refine z_C (va_ur3 (by decide) (by decide) (by decide)) ?_
            refine z_C (va_ur2 (by decide) (by decide)) ?_
            refine z_C (va_ur3 (by decide) (by decide) (by decide)) ?_
            exact loop_92 (Int.toNat ((tAll tx ty td).2.2.1 - 0) + 1) (zu f (32 * a + 65) 0) 0 (by omega) rfl (by omega)
          · skip
            refine z_aload_n 42 K dX9_citeAll_41 rfl rfl 0 rfl ?_
            refine z_aload_n 43 K dX9_citeAll_42 rfl rfl 0 rfl ?_
            refine z_get 46 K hin_X9_citeAll_X9 94 (by decide) (va_up_eq _ 94 _) rfl 9 (by decide) (by decide +kernel : Cond.fieldLink RX9 22 "BriefBuilderModel" "told" "[I" ∈ wsX9_citeAll) (fun _ h9 => h9) rfl dX9_citeAll_43 rfl ?_
            refine z_iconst 47 K dX9_citeAll_46 rfl ?_
            refine z_iload_n 48 K dX9_citeAll_47 rfl rfl 2 rfl ?_
            refine z_imul 49 K dX9_citeAll_48 rfl ?_
            refine z_iald (f := ((tAll tx ty td).2.2.2)) 50 K 99 (by decide) ((va_up_ne _ _ (by decide)).trans (va_up_eq _ 99 _)) (by omega) (by omega) (by decide) dX9_citeAll_49 rfl ?_
            have hr49 := hR3 (2 * kk)
            refine z_vVi (As := [.int (iZ (((tAll tx ty td).2.2.2) (2 * kk)))]) (rest := []) 53 K 94 (by decide) (va_up_eq _ 94 _) rfl rfl (m_X9_isPlace l g _ (((tAll tx ty td).2.2.2) (2 * kk)) k ty 0 ((tAll tx ty td).2.1) (b2i (decide ((tAll tx ty td).2.1 < ty))) ((tAll tx ty td).2.2.1) f (va_up_eq _ 94 _) ((va_up_ne _ _ (by decide)).trans ((va_up_ne _ _ (by decide)).trans hN)) (by omega) (by omega)) (cwV 1 K.1.2.2.2.2 gX9_citeAll_X9_isPlace rfl rfl rfl (by decide +kernel) ⟨Nat.le_of_ble_eq_true rfl, Nat.le_of_ble_eq_true rfl⟩) rfl (Nat.le_of_ble_eq_true rfl) dX9_citeAll_50 rfl ⟨Nat.le_of_ble_eq_true rfl, Nat.le_of_ble_eq_true rfl⟩ rfl (fun z_11 C_12 hp_50 => ?_)
            refine z_C hp_50.1 ?_
            refine z_top (b2i (decide (0 ≤ (((tAll tx ty td).2.2.2) (2 * kk)) ∧ (((tAll tx ty td).2.2.2) (2 * kk)) ≤ f 1 - 1))) hp_50.2 ?_
            refine z_if_ne (tgt := 62) 56 K dX9_citeAll_53 rfl (by decide) (b2i_ir _) (fun c_53 => ?_) (fun c_53 => ?_)
            · have d_53 := b2i_decn.mp c_53
              refine z_iinc (lv' := [(2, .int (iZ (kk + 1))), (0, .ref (aD g 94)), (1, .int (iZ a))]) 65 K dX9_citeAll_62 rfl (kk + 1) rfl 2 rfl (by decide) rfl ?_
              refine z_goto (tgt := 33) K dX9_citeAll_65 (by decide) ?_
              refine z_sub [1, 2, 0] rfl ?_
              exact ih_33 (kk + 1) (by omega) (fun j h0 h1 => by by_cases q9 : j = kk; (subst q9; omega); exact hgd j h0 (by omega)) (by omega)
            · have d_53 := b2i_dec0.mp c_53
              refine z_aload_n 57 K dX9_citeAll_56 rfl rfl 0 rfl ?_
              refine z_iconst 58 K dX9_citeAll_57 rfl ?_
              refine z_vVi (As := [.int (iZ 3)]) (rest := []) 61 K 94 (by decide) (va_up_eq _ 94 _) rfl rfl (m_X9_fails l g _ 3 k ty 0 ((tAll tx ty td).2.1) (b2i (decide ((tAll tx ty td).2.1 < ty))) ((tAll tx ty td).2.2.1) (va_up_eq _ 94 _)) (cwV 1 K.1.2.2.2.2 gX9_citeAll_X9_fails rfl rfl rfl (by decide +kernel) ⟨Nat.le_of_ble_eq_true rfl, Nat.le_of_ble_eq_true rfl⟩) rfl (Nat.le_of_ble_eq_true rfl) dX9_citeAll_58 rfl ⟨Nat.le_of_ble_eq_true rfl, Nat.le_of_ble_eq_true rfl⟩ rfl (fun z_13 C_14 hp_58 => ?_)
              refine z_C hp_58.1 ?_
              refine z_top (0) hp_58.2 ?_
              refine z_C (va_uu _ _ _ _) ?_
              refine z_C (va_us ((va_up_ne _ _ (by decide)).trans ((va_up_ne _ _ (by decide)).trans hPa))).symm ?_
              refine z_C (va_us ((va_up_ne _ _ (by decide)).trans ((va_up_ne _ _ (by decide)).trans ((va_up_ne _ _ (by decide)).trans hN)))).symm ?_
              refine z_C (va_ur3 (by decide) (by decide) (by decide)) ?_
              refine z_C (va_ur2 (by decide) (by decide)) ?_
              refine z_C (va_ur2 (by decide) (by decide)) ?_
              refine z_C (va_ur3 (by decide) (by decide) (by decide)) ?_
              have hP : 0 ≤ a ∧ a < 12 := by omega
              have hT : (tAll tx ty td).1 = true := by assumption
              have hG : tGood (tAll tx ty td).2.2.2 (tAll tx ty td).2.2.1 (f 1) = false := by unfold tGood; rw [zany_iff.mpr ⟨kk, by omega, by omega, (by rw [decide_eq_false (by omega)]; rfl)⟩]; rfl
              have hK : kCal f a (tAll tx ty td) = 3 := by unfold kCal; rw [if_neg (by omega), if_neg (by rw [hT]; decide), if_pos hG]
              exact z_iret K rfl dX9_citeAll_61 ⟨by rw [hK, if_pos hP, if_pos hP, if_pos hP, if_pos hP] <;> rfl, by rw [hK] <;> rfl⟩
      refine z_sub [1, 2, 0] rfl ?_
      exact loop_33 (Int.toNat ((tAll tx ty td).2.2.1 - 0) + 1) 0 (by omega) (fun j h0 h1 => absurd h1 (by omega)) (by omega)
    · have d_22 := b2i_eq0.mp c_22
      refine z_aload_n 26 K dX9_citeAll_25 rfl rfl 0 rfl ?_
      refine z_iconst 27 K dX9_citeAll_26 rfl ?_
      refine z_vVi (As := [.int (iZ 2)]) (rest := []) 30 K 94 (by decide) (va_up_eq _ 94 _) rfl rfl (m_X9_fails l g _ 2 k ty 0 ((tAll tx ty td).2.1) (b2i (decide ((tAll tx ty td).2.1 < ty))) ((tAll tx ty td).2.2.1) (va_up_eq _ 94 _)) (cwV 1 K.1.2.2.2.2 gX9_citeAll_X9_fails rfl rfl rfl (by decide +kernel) ⟨Nat.le_of_ble_eq_true rfl, Nat.le_of_ble_eq_true rfl⟩) rfl (Nat.le_of_ble_eq_true rfl) dX9_citeAll_27 rfl ⟨Nat.le_of_ble_eq_true rfl, Nat.le_of_ble_eq_true rfl⟩ rfl (fun z_15 C_16 hp_27 => ?_)
      refine z_C hp_27.1 ?_
      refine z_top (0) hp_27.2 ?_
      refine z_C (va_uu _ _ _ _) ?_
      refine z_C (va_us ((va_up_ne _ _ (by decide)).trans ((va_up_ne _ _ (by decide)).trans hPa))).symm ?_
      refine z_C (va_us ((va_up_ne _ _ (by decide)).trans ((va_up_ne _ _ (by decide)).trans ((va_up_ne _ _ (by decide)).trans hN)))).symm ?_
      refine z_C (va_ur3 (by decide) (by decide) (by decide)) ?_
      refine z_C (va_ur2 (by decide) (by decide)) ?_
      refine z_C (va_ur2 (by decide) (by decide)) ?_
      refine z_C (va_ur3 (by decide) (by decide) (by decide)) ?_
      have hP : 0 ≤ a ∧ a < 12 := by omega
      have hK : kCal f a (tAll tx ty td) = 2 := by unfold kCal; rw [if_neg (by omega), if_pos (by assumption)]
      exact z_iret K rfl dX9_citeAll_30 ⟨by rw [hK, if_pos hP, if_pos hP, if_pos hP, if_pos hP] <;> rfl, by rw [hK] <;> rfl⟩
  · have d_9 := b2i_dec0.mp c_9
    refine z_aload_n 13 K dX9_citeAll_12 rfl rfl 0 rfl ?_
    refine z_iconst 14 K dX9_citeAll_13 rfl ?_
    refine z_vVi (As := [.int (iZ 1)]) (rest := []) 17 K 94 (by decide) (va_up_eq _ 94 _) rfl rfl (m_X9_fails l g _ 1 k ty 0 pt fl to (va_up_eq _ 94 _)) (cwV 1 K.1.2.2.2.2 gX9_citeAll_X9_fails rfl rfl rfl (by decide +kernel) ⟨Nat.le_of_ble_eq_true rfl, Nat.le_of_ble_eq_true rfl⟩) rfl (Nat.le_of_ble_eq_true rfl) dX9_citeAll_14 rfl ⟨Nat.le_of_ble_eq_true rfl, Nat.le_of_ble_eq_true rfl⟩ rfl (fun z_17 C_18 hp_14 => ?_)
    refine z_C hp_14.1 ?_
    refine z_top (0) hp_14.2 ?_
    refine z_C (va_uu _ _ _ _) ?_
    refine z_C (va_us ((va_up_ne _ _ (by decide)).trans hTd)).symm ?_
    refine z_C (va_us ((va_up_ne _ _ (by decide)).trans ((va_up_ne _ _ (by decide)).trans hPa))).symm ?_
    refine z_C (va_us ((va_up_ne _ _ (by decide)).trans ((va_up_ne _ _ (by decide)).trans ((va_up_ne _ _ (by decide)).trans hN)))).symm ?_
    refine z_C (va_ur2 (by decide) (by decide)) ?_
    refine z_C (va_ur2 (by decide) (by decide)) ?_
    refine z_C (va_ur2 (by decide) (by decide)) ?_
    refine z_C (va_ur3 (by decide) (by decide) (by decide)) ?_
    have hP : ¬ (0 ≤ a ∧ a < 12) := by omega
    have hK : kCal f a (tAll tx ty td) = 1 := by unfold kCal; rw [if_pos hP]
    exact z_iret K rfl dX9_citeAll_17 ⟨by rw [hK, if_neg hP, if_neg hP, if_neg hP, if_neg hP] <;> rfl, by rw [hK] <;> rfl⟩
end ZMCB
