/-! the class: its text -/
section ZIX
set_option maxRecDepth 20000 in
theorem hin_X5_add_X5 : ∀ w ∈ wsX50, w ∈ wsX5_add := by decide +kernel
set_option maxHeartbeats 4000000 in
set_option maxRecDepth 100000 in
theorem m_X5_add (l : Launch) (g : zG) (C : Nat → va_E) (k : Int) (len : Int) (cur : Int) (stp : Int) (cds : Int → Int) (hTx : C 23 = .inr (5, [.ref (aD g 24), .int (iZ len), .ref (aD g 25), .ref (aD g 26), .int (iZ cur), .int (iZ stp)])) (hXc : C 24 = eI g 60 cds) (hln : 0 ≤ len ∧ len ≤ 59) : Met l yX5_add wsX5_add ({ frames := 0, cells := 0, slots := 0, locals := 0 } : Room) (zPre g C [.ref (aD g 23), .int (iZ k)]) (zQv g (fun C' => C' = va_up (va_up C 24 (eI g 60 (zu cds len k))) 23 (.inr (5, [.ref (aD g 24), .int (iZ (len + 1)), .ref (aD g 25), .ref (aD g 26), .int (iZ cur), .int (iZ stp)])))) 0 0 (zA g) := by
  refine z_enter RX5 rfl (by decide) rfl (Nat.le_of_ble_eq_true rfl) ?_
  intro p e s m args below meth c K harg
  refine z_sub (lv' := [(0, .ref (aD g 23)), (1, .int (iZ k))]) [0, 1] rfl ?_
  refine z_aload_n 1 K dX5_add_0 rfl rfl 0 rfl ?_
  refine z_get 4 K hin_X5_add_X5 23 (by decide) hTx rfl 0 (by decide) (by decide +kernel : Cond.fieldLink RX5 9 "BriefBuilder$Text" "codes" "[I" ∈ wsX5_add) (fun _ h9 => h9) rfl dX5_add_1 rfl ?_
  refine z_aload_n 5 K dX5_add_4 rfl rfl 0 rfl ?_
  refine z_get 8 K hin_X5_add_X5 23 (by decide) hTx rfl 1 (by decide) (by decide +kernel : Cond.fieldLink RX5 15 "BriefBuilder$Text" "length" "I" ∈ wsX5_add) (fun _ h9 => h9) rfl dX5_add_5 rfl ?_
  refine z_iload_n 9 K dX5_add_8 rfl rfl 1 rfl ?_
  refine z_iast (f := cds) 10 K 24 (by decide) hXc (by omega) (by omega) (by decide) dX5_add_9 rfl ?_
  refine z_aload_n 11 K dX5_add_10 rfl rfl 0 rfl ?_
  refine z_dup 12 K dX5_add_11 rfl rfl ?_
  refine z_get 15 K hin_X5_add_X5 23 (by decide) ((va_up_ne _ _ (by decide)).trans hTx) rfl 1 (by decide) (by decide +kernel : Cond.fieldLink RX5 15 "BriefBuilder$Text" "length" "I" ∈ wsX5_add) (fun _ h9 => h9) rfl dX5_add_12 rfl ?_
  refine z_iconst 16 K dX5_add_15 rfl ?_
  refine z_iadd 17 K dX5_add_16 rfl ?_
  refine z_put (ty := .int) 20 K hin_X5_add_X5 tyX5 tyX5_ok nmX5 23 (by decide) ((va_up_ne _ _ (by decide)).trans hTx) rfl 1 (by decide) (by decide +kernel : Cond.fieldLink RX5 15 "BriefBuilder$Text" "length" "I" ∈ wsX5_add) (fun _ h9 => h9) rfl (by decide +kernel) rfl rfl (Nat.le_of_ble_eq_true rfl) dX5_add_17 rfl ?_
  show Z p l e (({ frames := 0, cells := 0, slots := 0, locals := 0 } : Room)) s m args below meth c (MQ below (zQv g (fun C' => C' = va_up (va_up C 24 (eI g 60 (zu cds len k))) 23 (.inr (5, [.ref (aD g 24), .int (iZ (len + 1)), .ref (aD g 25), .ref (aD g 26), .int (iZ cur), .int (iZ stp)])))) args s 0 0 (zA g)) g _ _ _ (va_up (va_up C 24 (eI g 60 (zu cds len k))) 23 (.inr (5, [.ref (aD g 24), .int (iZ (len + 1)), .ref (aD g 25), .ref (aD g 26), .int (iZ cur), .int (iZ stp)]))) [(0, .ref (aD g 23)), (1, .int (iZ k))] 20 []
  exact z_vret K rfl dX5_add_20 rfl
set_option maxRecDepth 20000 in
theorem hin_X5_isComplete_X5 : ∀ w ∈ wsX50, w ∈ wsX5_isComplete := by decide +kernel
set_option maxHeartbeats 4000000 in
set_option maxRecDepth 100000 in
theorem m_X5_isComplete (l : Launch) (g : zG) (C : Nat → va_E) (len : Int) (cur : Int) (stp : Int) (hTx : C 23 = .inr (5, [.ref (aD g 24), .int (iZ len), .ref (aD g 25), .ref (aD g 26), .int (iZ cur), .int (iZ stp)])) (hst : 0 ≤ stp ∧ stp ≤ 6) : Met l yX5_isComplete wsX5_isComplete ({ frames := 0, cells := 0, slots := 0, locals := 0 } : Room) (zPre g C [.ref (aD g 23)]) (zQi g (fun z C' => C' = C ∧ z = b2i (decide (stp = 5 ∨ stp = 6)))) 0 0 (zA g) := by
  refine z_enter RX5 rfl (by decide) rfl (Nat.le_of_ble_eq_true rfl) ?_
  intro p e s m args below meth c K harg
  refine z_sub (lv' := [(0, .ref (aD g 23))]) [0] rfl ?_
  refine z_aload_n 1 K dX5_isComplete_0 rfl rfl 0 rfl ?_
  refine z_get 4 K hin_X5_isComplete_X5 23 (by decide) hTx rfl 5 (by decide) (by decide +kernel : Cond.fieldLink RX5 28 "BriefBuilder$Text" "step" "I" ∈ wsX5_isComplete) (fun _ h9 => h9) rfl dX5_isComplete_1 rfl ?_
  refine z_iconst 5 K dX5_isComplete_4 rfl ?_
  refine z_icmp_eq (tgt := 17) 8 K dX5_isComplete_5 rfl (by decide) (by omega) (by decide) (fun c_5 => ?_) (fun c_5 => ?_)
  · skip
    refine z_iconst 18 K dX5_isComplete_17 rfl ?_
    refine z_goto (tgt := 22) K dX5_isComplete_18 (by decide) ?_
    exact z_zret K rfl (by decide) dX5_isComplete_22 ⟨rfl, by first | (have q9 : stp = 5 ∨ stp = 6 := (by omega); exact (b2i_1 q9).symm) | (have q9 : ¬ (stp = 5 ∨ stp = 6) := (by omega); exact (b2i_0 q9).symm)⟩
  · skip
    refine z_aload_n 9 K dX5_isComplete_8 rfl rfl 0 rfl ?_
    refine z_get 12 K hin_X5_isComplete_X5 23 (by decide) hTx rfl 5 (by decide) (by decide +kernel : Cond.fieldLink RX5 28 "BriefBuilder$Text" "step" "I" ∈ wsX5_isComplete) (fun _ h9 => h9) rfl dX5_isComplete_9 rfl ?_
    refine z_bipush 14 K dX5_isComplete_12 rfl rfl ?_
    refine z_icmp_ne (tgt := 21) 17 K dX5_isComplete_14 rfl (by decide) (by omega) (by decide) (fun c_14 => ?_) (fun c_14 => ?_)
    · skip
      refine z_iconst 22 K dX5_isComplete_21 rfl ?_
      exact z_zret K rfl (by decide) dX5_isComplete_22 ⟨rfl, by first | (have q9 : stp = 5 ∨ stp = 6 := (by omega); exact (b2i_1 q9).symm) | (have q9 : ¬ (stp = 5 ∨ stp = 6) := (by omega); exact (b2i_0 q9).symm)⟩
    · skip
      refine z_iconst 18 K dX5_isComplete_17 rfl ?_
      refine z_goto (tgt := 22) K dX5_isComplete_18 (by decide) ?_
      exact z_zret K rfl (by decide) dX5_isComplete_22 ⟨rfl, by first | (have q9 : stp = 5 ∨ stp = 6 := (by omega); exact (b2i_1 q9).symm) | (have q9 : ¬ (stp = 5 ∨ stp = 6) := (by omega); exact (b2i_0 q9).symm)⟩
set_option maxRecDepth 20000 in
theorem hin_X5_readLetter_X5 : ∀ w ∈ wsX50, w ∈ wsX5_readLetter := by decide +kernel
set_option maxHeartbeats 4000000 in
set_option maxRecDepth 100000 in
theorem m_X5_readLetter (l : Launch) (g : zG) (C : Nat → va_E) (k : Int) (len : Int) (cur : Int) (stp : Int) (pl : Int → Int) (hTx : C 23 = .inr (5, [.ref (aD g 24), .int (iZ len), .ref (aD g 25), .ref (aD g 26), .int (iZ cur), .int (iZ stp)])) (hXl : C 25 = eI g 6 pl) (hcu : 0 ≤ cur ∧ cur ≤ 5) (hkc : 0 ≤ k ∧ k ≤ 200) : Met l yX5_readLetter wsX5_readLetter ({ frames := 0, cells := 0, slots := 0, locals := 0 } : Room) (zPre g C [.ref (aD g 23), .int (iZ k)]) (zQi g (fun z C' => C' = va_up C 25 (eI g 6 (aLp k cur pl)) ∧ z = aLs k)) 0 0 (zA g) := by
  refine z_enter RX5 rfl (by decide) rfl (Nat.le_of_ble_eq_true rfl) ?_
  intro p e s m args below meth c K harg
  refine z_sub (lv' := [(0, .ref (aD g 23)), (1, .int (iZ k))]) [0, 1] rfl ?_
  refine z_iload_n 1 K dX5_readLetter_0 rfl rfl 1 rfl ?_
  refine z_bipush 3 K dX5_readLetter_1 rfl rfl ?_
  refine z_icmp_lt (tgt := 12) 6 K dX5_readLetter_3 rfl (by decide) (by omega) (by decide) (fun c_3 => ?_) (fun c_3 => ?_)
  · skip
    refine z_iconst 13 K dX5_readLetter_12 rfl ?_
    refine z_C (va_us hXl).symm ?_
    have q9 : k < 65 ∨ 90 < k := by omega
    exact z_iret K rfl dX5_readLetter_13 ⟨by rw [show aLp k cur pl = pl by unfold aLp; rw [if_pos q9]], by unfold aLs; rw [if_pos q9]⟩
  · skip
    refine z_iload_n 7 K dX5_readLetter_6 rfl rfl 1 rfl ?_
    refine z_bipush 9 K dX5_readLetter_7 rfl rfl ?_
    refine z_icmp_le (tgt := 14) 12 K dX5_readLetter_9 rfl (by decide) (by omega) (by decide) (fun c_9 => ?_) (fun c_9 => ?_)
    · skip
      refine z_aload_n 15 K dX5_readLetter_14 rfl rfl 0 rfl ?_
      refine z_get 18 K hin_X5_readLetter_X5 23 (by decide) hTx rfl 2 (by decide) (by decide +kernel : Cond.fieldLink RX5 19 "BriefBuilder$Text" "places" "[I" ∈ wsX5_readLetter) (fun _ h9 => h9) rfl dX5_readLetter_15 rfl ?_
      refine z_aload_n 19 K dX5_readLetter_18 rfl rfl 0 rfl ?_
      refine z_get 22 K hin_X5_readLetter_X5 23 (by decide) hTx rfl 4 (by decide) (by decide +kernel : Cond.fieldLink RX5 25 "BriefBuilder$Text" "current" "I" ∈ wsX5_readLetter) (fun _ h9 => h9) rfl dX5_readLetter_19 rfl ?_
      refine z_iload_n 23 K dX5_readLetter_22 rfl rfl 1 rfl ?_
      refine z_bipush 25 K dX5_readLetter_23 rfl rfl ?_
      refine z_isub 26 K dX5_readLetter_25 rfl ?_
      refine z_iast (f := pl) 27 K 25 (by decide) hXl (by omega) (by omega) (by decide) dX5_readLetter_26 rfl ?_
      refine z_iload_n 28 K dX5_readLetter_27 rfl rfl 1 rfl ?_
      refine z_bipush 30 K dX5_readLetter_28 rfl rfl ?_
      refine z_icmp_ne (tgt := 37) 33 K dX5_readLetter_30 rfl (by decide) (by omega) (by decide) (fun c_30 => ?_) (fun c_30 => ?_)
      · skip
        refine z_iconst 38 K dX5_readLetter_37 rfl ?_
        have q9 : ¬ (k < 65 ∨ 90 < k) := by omega
        exact z_iret K rfl dX5_readLetter_38 ⟨by rw [show aLp k cur pl = zu pl cur (k - 65) by unfold aLp; rw [if_neg q9]], by unfold aLs; rw [if_neg q9]; first | (have q8 : k = 65 := (by omega); rw [if_pos q8]; done) | (have q8 : ¬ k = 65 := (by omega); rw [if_neg q8]; done)⟩
      · skip
        refine z_iconst 34 K dX5_readLetter_33 rfl ?_
        refine z_goto (tgt := 38) K dX5_readLetter_34 (by decide) ?_
        have q9 : ¬ (k < 65 ∨ 90 < k) := by omega
        exact z_iret K rfl dX5_readLetter_38 ⟨by rw [show aLp k cur pl = zu pl cur (k - 65) by unfold aLp; rw [if_neg q9]], by unfold aLs; rw [if_neg q9]; first | (have q8 : k = 65 := (by omega); rw [if_pos q8]; done) | (have q8 : ¬ k = 65 := (by omega); rw [if_neg q8]; done)⟩
    · skip
      refine z_iconst 13 K dX5_readLetter_12 rfl ?_
      refine z_C (va_us hXl).symm ?_
      have q9 : k < 65 ∨ 90 < k := by omega
      exact z_iret K rfl dX5_readLetter_13 ⟨by rw [show aLp k cur pl = pl by unfold aLp; rw [if_pos q9]], by unfold aLs; rw [if_pos q9]⟩
set_option maxRecDepth 20000 in
theorem hin_X5_readSecondLetter_X5 : ∀ w ∈ wsX50, w ∈ wsX5_readSecondLetter := by decide +kernel
set_option maxHeartbeats 4000000 in
set_option maxRecDepth 100000 in
theorem m_X5_readSecondLetter (l : Launch) (g : zG) (C : Nat → va_E) (k : Int) (len : Int) (cur : Int) (stp : Int) (pl : Int → Int) (hTx : C 23 = .inr (5, [.ref (aD g 24), .int (iZ len), .ref (aD g 25), .ref (aD g 26), .int (iZ cur), .int (iZ stp)])) (hXl : C 25 = eI g 6 pl) (hcu : 0 ≤ cur ∧ cur ≤ 5) (hkc : 0 ≤ k ∧ k ≤ 200) : Met l yX5_readSecondLetter wsX5_readSecondLetter ({ frames := 0, cells := 0, slots := 0, locals := 0 } : Room) (zPre g C [.ref (aD g 23), .int (iZ k)]) (zQi g (fun z C' => C' = va_up C 25 (eI g 6 (aMp k cur pl)) ∧ z = aMs k)) 0 0 (zA g) := by
  refine z_enter RX5 rfl (by decide) rfl (Nat.le_of_ble_eq_true rfl) ?_
  intro p e s m args below meth c K harg
  refine z_sub (lv' := [(0, .ref (aD g 23)), (1, .int (iZ k))]) [0, 1] rfl ?_
  refine z_iload_n 1 K dX5_readSecondLetter_0 rfl rfl 1 rfl ?_
  refine z_bipush 3 K dX5_readSecondLetter_1 rfl rfl ?_
  refine z_icmp_ne (tgt := 8) 6 K dX5_readSecondLetter_3 rfl (by decide) (by omega) (by decide) (fun c_3 => ?_) (fun c_3 => ?_)
  · skip
    refine z_iload_n 9 K dX5_readSecondLetter_8 rfl rfl 1 rfl ?_
    refine z_bipush 11 K dX5_readSecondLetter_9 rfl rfl ?_
    refine z_icmp_lt (tgt := 20) 14 K dX5_readSecondLetter_11 rfl (by decide) (by omega) (by decide) (fun c_11 => ?_) (fun c_11 => ?_)
    · skip
      refine z_iconst 21 K dX5_readSecondLetter_20 rfl ?_
      refine z_C (va_us hXl).symm ?_
      have q9 : k < 65 ∨ 68 < k := by omega
      exact z_iret K rfl dX5_readSecondLetter_21 ⟨by rw [show aMp k cur pl = pl by unfold aMp; rw [if_pos q9]], by unfold aMs; rw [if_neg (by omega), if_pos q9]⟩
    · skip
      refine z_iload_n 15 K dX5_readSecondLetter_14 rfl rfl 1 rfl ?_
      refine z_bipush 17 K dX5_readSecondLetter_15 rfl rfl ?_
      refine z_icmp_le (tgt := 22) 20 K dX5_readSecondLetter_17 rfl (by decide) (by omega) (by decide) (fun c_17 => ?_) (fun c_17 => ?_)
      · skip
        refine z_aload_n 23 K dX5_readSecondLetter_22 rfl rfl 0 rfl ?_
        refine z_get 26 K hin_X5_readSecondLetter_X5 23 (by decide) hTx rfl 2 (by decide) (by decide +kernel : Cond.fieldLink RX5 19 "BriefBuilder$Text" "places" "[I" ∈ wsX5_readSecondLetter) (fun _ h9 => h9) rfl dX5_readSecondLetter_23 rfl ?_
        refine z_aload_n 27 K dX5_readSecondLetter_26 rfl rfl 0 rfl ?_
        refine z_get 30 K hin_X5_readSecondLetter_X5 23 (by decide) hTx rfl 4 (by decide) (by decide +kernel : Cond.fieldLink RX5 25 "BriefBuilder$Text" "current" "I" ∈ wsX5_readSecondLetter) (fun _ h9 => h9) rfl dX5_readSecondLetter_27 rfl ?_
        refine z_bipush 32 K dX5_readSecondLetter_30 rfl rfl ?_
        refine z_iload_n 33 K dX5_readSecondLetter_32 rfl rfl 1 rfl ?_
        refine z_iadd 34 K dX5_readSecondLetter_33 rfl ?_
        refine z_top (k + 26) (by omega) ?_
        refine z_bipush 36 K dX5_readSecondLetter_34 rfl rfl ?_
        refine z_isub 37 K dX5_readSecondLetter_36 rfl ?_
        refine z_top (k - 39) (by omega) ?_
        refine z_iast (f := pl) 38 K 25 (by decide) hXl (by omega) (by omega) (by decide) dX5_readSecondLetter_37 rfl ?_
        refine z_iconst 39 K dX5_readSecondLetter_38 rfl ?_
        have q9 : ¬ (k < 65 ∨ 68 < k) := by omega
        exact z_iret K rfl dX5_readSecondLetter_39 ⟨by rw [show aMp k cur pl = zu pl cur (k - 39) by unfold aMp; rw [if_neg q9]], by unfold aMs; rw [if_neg (by omega), if_neg q9]⟩
      · skip
        refine z_iconst 21 K dX5_readSecondLetter_20 rfl ?_
        refine z_C (va_us hXl).symm ?_
        have q9 : k < 65 ∨ 68 < k := by omega
        exact z_iret K rfl dX5_readSecondLetter_21 ⟨by rw [show aMp k cur pl = pl by unfold aMp; rw [if_pos q9]], by unfold aMs; rw [if_neg (by omega), if_pos q9]⟩
  · skip
    refine z_iconst 7 K dX5_readSecondLetter_6 rfl ?_
    refine z_C (va_us hXl).symm ?_
    have q9 : k < 65 ∨ 68 < k := by omega
    exact z_iret K rfl dX5_readSecondLetter_7 ⟨by rw [show aMp k cur pl = pl by unfold aMp; rw [if_pos q9]], by unfold aMs; rw [if_pos (by omega)]⟩
set_option maxRecDepth 20000 in
theorem hin_X5_readDigit_X5 : ∀ w ∈ wsX50, w ∈ wsX5_readDigit := by decide +kernel
set_option maxHeartbeats 4000000 in
set_option maxRecDepth 100000 in
theorem m_X5_readDigit (l : Launch) (g : zG) (C : Nat → va_E) (k : Int) (len : Int) (cur : Int) (stp : Int) (px : Int → Int) (hTx : C 23 = .inr (5, [.ref (aD g 24), .int (iZ len), .ref (aD g 25), .ref (aD g 26), .int (iZ cur), .int (iZ stp)])) (hXp : C 26 = eI g 6 px) (hcu : 0 ≤ cur ∧ cur ≤ 5) (hkc : 0 ≤ k ∧ k ≤ 200) : Met l yX5_readDigit wsX5_readDigit ({ frames := 0, cells := 0, slots := 0, locals := 0 } : Room) (zPre g C [.ref (aD g 23), .int (iZ k)]) (zQi g (fun z C' => C' = va_up C 26 (eI g 6 (aDp k cur px)) ∧ z = aDs k)) 0 0 (zA g) := by
  refine z_enter RX5 rfl (by decide) rfl (Nat.le_of_ble_eq_true rfl) ?_
  intro p e s m args below meth c K harg
  refine z_sub (lv' := [(0, .ref (aD g 23)), (1, .int (iZ k))]) [0, 1] rfl ?_
  refine z_iload_n 1 K dX5_readDigit_0 rfl rfl 1 rfl ?_
  refine z_bipush 3 K dX5_readDigit_1 rfl rfl ?_
  refine z_icmp_lt (tgt := 12) 6 K dX5_readDigit_3 rfl (by decide) (by omega) (by decide) (fun c_3 => ?_) (fun c_3 => ?_)
  · skip
    refine z_iconst 13 K dX5_readDigit_12 rfl ?_
    refine z_C (va_us hXp).symm ?_
    have q9 : k < 49 ∨ 57 < k := by omega
    exact z_iret K rfl dX5_readDigit_13 ⟨by rw [show aDp k cur px = px by unfold aDp; rw [if_pos q9]], by unfold aDs; rw [if_pos q9]⟩
  · skip
    refine z_iload_n 7 K dX5_readDigit_6 rfl rfl 1 rfl ?_
    refine z_bipush 9 K dX5_readDigit_7 rfl rfl ?_
    refine z_icmp_le (tgt := 14) 12 K dX5_readDigit_9 rfl (by decide) (by omega) (by decide) (fun c_9 => ?_) (fun c_9 => ?_)
    · skip
      refine z_aload_n 15 K dX5_readDigit_14 rfl rfl 0 rfl ?_
      refine z_get 18 K hin_X5_readDigit_X5 23 (by decide) hTx rfl 3 (by decide) (by decide +kernel : Cond.fieldLink RX5 22 "BriefBuilder$Text" "pages" "[I" ∈ wsX5_readDigit) (fun _ h9 => h9) rfl dX5_readDigit_15 rfl ?_
      refine z_aload_n 19 K dX5_readDigit_18 rfl rfl 0 rfl ?_
      refine z_get 22 K hin_X5_readDigit_X5 23 (by decide) hTx rfl 4 (by decide) (by decide +kernel : Cond.fieldLink RX5 25 "BriefBuilder$Text" "current" "I" ∈ wsX5_readDigit) (fun _ h9 => h9) rfl dX5_readDigit_19 rfl ?_
      refine z_iload_n 23 K dX5_readDigit_22 rfl rfl 1 rfl ?_
      refine z_bipush 25 K dX5_readDigit_23 rfl rfl ?_
      refine z_isub 26 K dX5_readDigit_25 rfl ?_
      refine z_iast (f := px) 27 K 26 (by decide) hXp (by omega) (by omega) (by decide) dX5_readDigit_26 rfl ?_
      refine z_iconst 28 K dX5_readDigit_27 rfl ?_
      have q9 : ¬ (k < 49 ∨ 57 < k) := by omega
      exact z_iret K rfl dX5_readDigit_28 ⟨by rw [show aDp k cur px = zu px cur (k - 48) by unfold aDp; rw [if_neg q9]], by unfold aDs; rw [if_neg q9]⟩
    · skip
      refine z_iconst 13 K dX5_readDigit_12 rfl ?_
      refine z_C (va_us hXp).symm ?_
      have q9 : k < 49 ∨ 57 < k := by omega
      exact z_iret K rfl dX5_readDigit_13 ⟨by rw [show aDp k cur px = px by unfold aDp; rw [if_pos q9]], by unfold aDs; rw [if_pos q9]⟩
set_option maxRecDepth 20000 in
theorem hin_X5_readComma_X5 : ∀ w ∈ wsX50, w ∈ wsX5_readComma := by decide +kernel
set_option maxHeartbeats 4000000 in
set_option maxRecDepth 100000 in
theorem m_X5_readComma (l : Launch) (g : zG) (C : Nat → va_E) (k : Int) (len : Int) (cur : Int) (stp : Int) (hTx : C 23 = .inr (5, [.ref (aD g 24), .int (iZ len), .ref (aD g 25), .ref (aD g 26), .int (iZ cur), .int (iZ stp)])) (hcu : 0 ≤ cur ∧ cur ≤ 5) (hkc : 0 ≤ k ∧ k ≤ 200) : Met l yX5_readComma wsX5_readComma ({ frames := 0, cells := 0, slots := 0, locals := 0 } : Room) (zPre g C [.ref (aD g 23), .int (iZ k)]) (zQi g (fun z C' => C' = va_up C 23 (.inr (5, [.ref (aD g 24), .int (iZ len), .ref (aD g 25), .ref (aD g 26), .int (iZ (aCc k cur)), .int (iZ stp)])) ∧ z = aCs k cur)) 0 0 (zA g) := by
  refine z_enter RX5 rfl (by decide) rfl (Nat.le_of_ble_eq_true rfl) ?_
  intro p e s m args below meth c K harg
  refine z_sub (lv' := [(0, .ref (aD g 23)), (1, .int (iZ k))]) [0, 1] rfl ?_
  refine z_iload_n 1 K dX5_readComma_0 rfl rfl 1 rfl ?_
  refine z_bipush 3 K dX5_readComma_1 rfl rfl ?_
  refine z_icmp_ne (tgt := 14) 6 K dX5_readComma_3 rfl (by decide) (by omega) (by decide) (fun c_3 => ?_) (fun c_3 => ?_)
  · skip
    refine z_iconst 15 K dX5_readComma_14 rfl ?_
    refine z_C (va_us hTx).symm ?_
    have q9 : ¬ (k = 44 ∧ cur < 5) := by omega
    exact z_iret K rfl dX5_readComma_15 ⟨by rw [show aCc k cur = cur by unfold aCc; rw [if_neg q9]], by unfold aCs; rw [if_neg q9]⟩
  · skip
    refine z_aload_n 7 K dX5_readComma_6 rfl rfl 0 rfl ?_
    refine z_get 10 K hin_X5_readComma_X5 23 (by decide) hTx rfl 4 (by decide) (by decide +kernel : Cond.fieldLink RX5 25 "BriefBuilder$Text" "current" "I" ∈ wsX5_readComma) (fun _ h9 => h9) rfl dX5_readComma_7 rfl ?_
    refine z_iconst 11 K dX5_readComma_10 rfl ?_
    refine z_icmp_lt (tgt := 16) 14 K dX5_readComma_11 rfl (by decide) (by omega) (by decide) (fun c_11 => ?_) (fun c_11 => ?_)
    · skip
      refine z_aload_n 17 K dX5_readComma_16 rfl rfl 0 rfl ?_
      refine z_dup 18 K dX5_readComma_17 rfl rfl ?_
      refine z_get 21 K hin_X5_readComma_X5 23 (by decide) hTx rfl 4 (by decide) (by decide +kernel : Cond.fieldLink RX5 25 "BriefBuilder$Text" "current" "I" ∈ wsX5_readComma) (fun _ h9 => h9) rfl dX5_readComma_18 rfl ?_
      refine z_iconst 22 K dX5_readComma_21 rfl ?_
      refine z_iadd 23 K dX5_readComma_22 rfl ?_
      refine z_put (ty := .int) 26 K hin_X5_readComma_X5 tyX5 tyX5_ok nmX5 23 (by decide) hTx rfl 4 (by decide) (by decide +kernel : Cond.fieldLink RX5 25 "BriefBuilder$Text" "current" "I" ∈ wsX5_readComma) (fun _ h9 => h9) rfl (by decide +kernel) rfl rfl (Nat.le_of_ble_eq_true rfl) dX5_readComma_23 rfl ?_
      show Z p l e (({ frames := 0, cells := 0, slots := 0, locals := 0 } : Room)) s m args below meth c (MQ below (zQi g (fun z C' => C' = va_up C 23 (.inr (5, [.ref (aD g 24), .int (iZ len), .ref (aD g 25), .ref (aD g 26), .int (iZ (aCc k cur)), .int (iZ stp)])) ∧ z = aCs k cur)) args s 0 0 (zA g)) g _ _ _ (va_up C 23 (.inr (5, [.ref (aD g 24), .int (iZ len), .ref (aD g 25), .ref (aD g 26), .int (iZ (cur + 1)), .int (iZ stp)]))) [(0, .ref (aD g 23)), (1, .int (iZ k))] 26 []
      refine z_iconst 27 K dX5_readComma_26 rfl ?_
      have q9 : k = 44 ∧ cur < 5 := by omega
      exact z_iret K rfl dX5_readComma_27 ⟨by rw [show aCc k cur = cur + 1 by unfold aCc; rw [if_pos q9]], by unfold aCs; rw [if_pos q9]⟩
    · skip
      refine z_iconst 15 K dX5_readComma_14 rfl ?_
      refine z_C (va_us hTx).symm ?_
      have q9 : ¬ (k = 44 ∧ cur < 5) := by omega
      exact z_iret K rfl dX5_readComma_15 ⟨by rw [show aCc k cur = cur by unfold aCc; rw [if_neg q9]], by unfold aCs; rw [if_neg q9]⟩
set_option maxRecDepth 20000 in
theorem hin_X5_readSecondDigit_X5 : ∀ w ∈ wsX50, w ∈ wsX5_readSecondDigit := by decide +kernel
set_option maxHeartbeats 4000000 in
set_option maxRecDepth 100000 in
theorem m_X5_readSecondDigit (l : Launch) (g : zG) (C : Nat → va_E) (k : Int) (len : Int) (cur : Int) (stp : Int) (px : Int → Int) (hTx : C 23 = .inr (5, [.ref (aD g 24), .int (iZ len), .ref (aD g 25), .ref (aD g 26), .int (iZ cur), .int (iZ stp)])) (hXp : C 26 = eI g 6 px) (hcu : 0 ≤ cur ∧ cur ≤ 5) (hkc : 0 ≤ k ∧ k ≤ 200) (hpx : ∀ j, 0 ≤ px j ∧ px j ≤ 60) : Met l yX5_readSecondDigit wsX5_readSecondDigit ({ frames := 1, cells := 0, slots := 0, locals := 21 } : Room) (zPre g C [.ref (aD g 23), .int (iZ k)]) (zQi g (fun z C' => C' = va_up (va_up C 23 (.inr (5, [.ref (aD g 24), .int (iZ len), .ref (aD g 25), .ref (aD g 26), .int (iZ (aEc k cur)), .int (iZ stp)]))) 26 (eI g 6 (aEp k cur px)) ∧ z = aEs k cur px)) 0 0 (zA g) := by
  refine z_enter RX5 rfl (by decide) rfl (Nat.le_of_ble_eq_true rfl) ?_
  intro p e s m args below meth c K harg
  refine z_sub (lv' := [(0, .ref (aD g 23)), (1, .int (iZ k))]) [0, 1] rfl ?_
  have hp9 := hpx cur
  refine z_iload_n 1 K dX5_readSecondDigit_0 rfl rfl 1 rfl ?_
  refine z_bipush 3 K dX5_readSecondDigit_1 rfl rfl ?_
  refine z_icmp_lt (tgt := 12) 6 K dX5_readSecondDigit_3 rfl (by decide) (by omega) (by decide) (fun c_3 => ?_) (fun c_3 => ?_)
  · skip
    refine z_aload_n 13 K dX5_readSecondDigit_12 rfl rfl 0 rfl ?_
    refine z_iload_n 14 K dX5_readSecondDigit_13 rfl rfl 1 rfl ?_
    refine z_vVi (As := [.int (iZ k)]) (rest := []) 17 K 23 (by decide) hTx rfl rfl (m_X5_readComma l g _ k len cur stp hTx (by omega) (by omega)) (cwV 1 K.1.2.2.2.2 gX5_readSecondDigit_X5_readComma rfl rfl rfl (by decide +kernel) ⟨Nat.le_of_ble_eq_true rfl, Nat.le_of_ble_eq_true rfl⟩) rfl (Nat.le_of_ble_eq_true rfl) dX5_readSecondDigit_14 rfl ⟨Nat.le_of_ble_eq_true rfl, Nat.le_of_ble_eq_true rfl⟩ rfl (fun z_1 C_2 hp_14 => ?_)
    refine z_C hp_14.1 ?_
    refine z_top (aCs k cur) hp_14.2 ?_
    refine z_C (va_us ((va_up_ne _ _ (by decide)).trans hXp)).symm ?_
    have q9 : k < 48 ∨ 57 < k := by omega
    exact z_iret K rfl dX5_readSecondDigit_17 ⟨by rw [show aEc k cur = aCc k cur by unfold aEc; rw [if_pos q9], show aEp k cur px = px by unfold aEp; rw [if_pos (Or.inl q9)]], by unfold aEs; rw [if_pos q9]⟩
  · skip
    refine z_iload_n 7 K dX5_readSecondDigit_6 rfl rfl 1 rfl ?_
    refine z_bipush 9 K dX5_readSecondDigit_7 rfl rfl ?_
    refine z_icmp_le (tgt := 18) 12 K dX5_readSecondDigit_9 rfl (by decide) (by omega) (by decide) (fun c_9 => ?_) (fun c_9 => ?_)
    · skip
      refine z_aload_n 19 K dX5_readSecondDigit_18 rfl rfl 0 rfl ?_
      refine z_get 22 K hin_X5_readSecondDigit_X5 23 (by decide) hTx rfl 3 (by decide) (by decide +kernel : Cond.fieldLink RX5 22 "BriefBuilder$Text" "pages" "[I" ∈ wsX5_readSecondDigit) (fun _ h9 => h9) rfl dX5_readSecondDigit_19 rfl ?_
      refine z_aload_n 23 K dX5_readSecondDigit_22 rfl rfl 0 rfl ?_
      refine z_get 26 K hin_X5_readSecondDigit_X5 23 (by decide) hTx rfl 4 (by decide) (by decide +kernel : Cond.fieldLink RX5 25 "BriefBuilder$Text" "current" "I" ∈ wsX5_readSecondDigit) (fun _ h9 => h9) rfl dX5_readSecondDigit_23 rfl ?_
      refine z_iald (f := px) 27 K 26 (by decide) hXp (by omega) (by omega) (by decide) dX5_readSecondDigit_26 rfl ?_
      refine z_bipush 29 K dX5_readSecondDigit_27 rfl rfl ?_
      refine z_imul 30 K dX5_readSecondDigit_29 rfl ?_
      refine z_top (10 * (px cur)) (by omega) ?_
      refine z_iload_n 31 K dX5_readSecondDigit_30 rfl rfl 1 rfl ?_
      refine z_iadd 32 K dX5_readSecondDigit_31 rfl ?_
      refine z_bipush 34 K dX5_readSecondDigit_32 rfl rfl ?_
      refine z_isub 35 K dX5_readSecondDigit_34 rfl ?_
      refine z_istore_n (lv' := [(2, .int (iZ (10 * (px cur) + k - 48))), (0, .ref (aD g 23)), (1, .int (iZ k))]) 36 K dX5_readSecondDigit_35 rfl rfl (by decide) rfl ?_
      refine z_iload_n 37 K dX5_readSecondDigit_36 rfl rfl 0 rfl ?_
      refine z_bipush 39 K dX5_readSecondDigit_37 rfl rfl ?_
      refine z_icmp_le (tgt := 44) 42 K dX5_readSecondDigit_39 rfl (by decide) (by omega) (by decide) (fun c_39 => ?_) (fun c_39 => ?_)
      · skip
        refine z_aload_n 45 K dX5_readSecondDigit_44 rfl rfl 1 rfl ?_
        refine z_get 48 K hin_X5_readSecondDigit_X5 23 (by decide) hTx rfl 3 (by decide) (by decide +kernel : Cond.fieldLink RX5 22 "BriefBuilder$Text" "pages" "[I" ∈ wsX5_readSecondDigit) (fun _ h9 => h9) rfl dX5_readSecondDigit_45 rfl ?_
        refine z_aload_n 49 K dX5_readSecondDigit_48 rfl rfl 1 rfl ?_
        refine z_get 52 K hin_X5_readSecondDigit_X5 23 (by decide) hTx rfl 4 (by decide) (by decide +kernel : Cond.fieldLink RX5 25 "BriefBuilder$Text" "current" "I" ∈ wsX5_readSecondDigit) (fun _ h9 => h9) rfl dX5_readSecondDigit_49 rfl ?_
        refine z_iload_n 53 K dX5_readSecondDigit_52 rfl rfl 0 rfl ?_
        refine z_iast (f := px) 54 K 26 (by decide) hXp (by omega) (by omega) (by decide) dX5_readSecondDigit_53 rfl ?_
        refine z_bipush 56 K dX5_readSecondDigit_54 rfl rfl ?_
        refine z_C (va_us ((va_up_ne _ _ (by decide)).trans hTx)).symm ?_
        refine z_C (va_ur1 (by decide)) ?_
        have q9 : ¬ (k < 48 ∨ 57 < k) := by omega
        have q8 : ¬ 60 < 10 * px cur + k - 48 := by omega
        exact z_iret K rfl dX5_readSecondDigit_56 ⟨by rw [show aEc k cur = cur by unfold aEc; rw [if_neg q9], show aEp k cur px = zu px cur (10 * px cur + k - 48) by unfold aEp; rw [if_neg (by omega)]], by unfold aEs; rw [if_neg q9, if_neg q8]⟩
      · skip
        refine z_iconst 43 K dX5_readSecondDigit_42 rfl ?_
        refine z_C (va_us hTx).symm ?_
        refine z_C (va_us ((va_up_ne _ _ (by decide)).trans hXp)).symm ?_
        have q9 : ¬ (k < 48 ∨ 57 < k) := by omega
        have q8 : 60 < 10 * px cur + k - 48 := by omega
        exact z_iret K rfl dX5_readSecondDigit_43 ⟨by rw [show aEc k cur = cur by unfold aEc; rw [if_neg q9], show aEp k cur px = px by unfold aEp; rw [if_pos (Or.inr q8)]], by unfold aEs; rw [if_neg q9, if_pos q8]⟩
    · skip
      refine z_aload_n 13 K dX5_readSecondDigit_12 rfl rfl 0 rfl ?_
      refine z_iload_n 14 K dX5_readSecondDigit_13 rfl rfl 1 rfl ?_
      refine z_vVi (As := [.int (iZ k)]) (rest := []) 17 K 23 (by decide) hTx rfl rfl (m_X5_readComma l g _ k len cur stp hTx (by omega) (by omega)) (cwV 1 K.1.2.2.2.2 gX5_readSecondDigit_X5_readComma rfl rfl rfl (by decide +kernel) ⟨Nat.le_of_ble_eq_true rfl, Nat.le_of_ble_eq_true rfl⟩) rfl (Nat.le_of_ble_eq_true rfl) dX5_readSecondDigit_14 rfl ⟨Nat.le_of_ble_eq_true rfl, Nat.le_of_ble_eq_true rfl⟩ rfl (fun z_3 C_4 hp_14 => ?_)
      refine z_C hp_14.1 ?_
      refine z_top (aCs k cur) hp_14.2 ?_
      refine z_C (va_us ((va_up_ne _ _ (by decide)).trans hXp)).symm ?_
      have q9 : k < 48 ∨ 57 < k := by omega
      exact z_iret K rfl dX5_readSecondDigit_17 ⟨by rw [show aEc k cur = aCc k cur by unfold aEc; rw [if_pos q9], show aEp k cur px = px by unfold aEp; rw [if_pos (Or.inl q9)]], by unfold aEs; rw [if_pos q9]⟩
set_option maxRecDepth 20000 in
theorem hin_X5_stepBehind_X5 : ∀ w ∈ wsX50, w ∈ wsX5_stepBehind := by decide +kernel
set_option maxHeartbeats 4000000 in
set_option maxRecDepth 100000 in
theorem m_X5_stepBehind (l : Launch) (g : zG) (C : Nat → va_E) (k : Int) (len : Int) (cur : Int) (stp : Int) (pl : Int → Int) (px : Int → Int) (hTx : C 23 = .inr (5, [.ref (aD g 24), .int (iZ len), .ref (aD g 25), .ref (aD g 26), .int (iZ cur), .int (iZ stp)])) (hXl : C 25 = eI g 6 pl) (hXp : C 26 = eI g 6 px) (hst : 1 ≤ stp ∧ stp ≤ 6) (hcu : 0 ≤ cur ∧ cur ≤ 5) (hkc : 0 ≤ k ∧ k ≤ 200) (hpx : ∀ j, 0 ≤ px j ∧ px j ≤ 60) : Met l yX5_stepBehind wsX5_stepBehind ({ frames := 2, cells := 0, slots := 0, locals := 43 } : Room) (zPre g C [.ref (aD g 23), .int (iZ k)]) (zQi g (fun z C' => C' = va_up (va_up (va_up C 23 (.inr (5, [.ref (aD g 24), .int (iZ len), .ref (aD g 25), .ref (aD g 26), .int (iZ (aCu stp k cur)), .int (iZ stp)]))) 25 (eI g 6 (aPl stp k cur pl))) 26 (eI g 6 (aPg stp k cur px)) ∧ z = aSt stp k cur px)) 0 0 (zA g) := by
  refine z_enter RX5 rfl (by decide) rfl (Nat.le_of_ble_eq_true rfl) ?_
  intro p e s m args below meth c K harg
  refine z_sub (lv' := [(0, .ref (aD g 23)), (1, .int (iZ k))]) [0, 1] rfl ?_
  refine z_aload_n 1 K dX5_stepBehind_0 rfl rfl 0 rfl ?_
  refine z_get 4 K hin_X5_stepBehind_X5 23 (by decide) hTx rfl 5 (by decide) (by decide +kernel : Cond.fieldLink RX5 28 "BriefBuilder$Text" "step" "I" ∈ wsX5_stepBehind) (fun _ h9 => h9) rfl dX5_stepBehind_1 rfl ?_
  by_cases sw_4_1 : stp = 1
  · skip
    refine z_top (1) sw_4_1 ?_
    refine z_tableIn (tgt := 40) K dX5_stepBehind_4 (by decide) (by decide) (by decide) rfl (by decide) ?_
    refine z_aload_n 41 K dX5_stepBehind_40 rfl rfl 0 rfl ?_
    refine z_iload_n 42 K dX5_stepBehind_41 rfl rfl 1 rfl ?_
    refine z_vVi (As := [.int (iZ k)]) (rest := []) 45 K 23 (by decide) hTx rfl rfl (m_X5_readLetter l g _ k len cur stp pl hTx hXl (by omega) (by omega)) (cwV 1 K.1.2.2.2.2 gX5_stepBehind_X5_readLetter rfl rfl rfl (by decide +kernel) ⟨Nat.le_of_ble_eq_true rfl, Nat.le_of_ble_eq_true rfl⟩) rfl (Nat.le_of_ble_eq_true rfl) dX5_stepBehind_42 rfl ⟨Nat.le_of_ble_eq_true rfl, Nat.le_of_ble_eq_true rfl⟩ rfl (fun z_1 C_2 hp_42 => ?_)
    refine z_C hp_42.1 ?_
    refine z_top (aLs k) hp_42.2 ?_
    refine z_C (va_us ((va_up_ne _ _ (by decide)).trans hTx)).symm ?_
    refine z_C (va_us ((va_up_ne _ _ (by decide)).trans ((va_up_ne _ _ (by decide)).trans hXp))).symm ?_
    refine z_C (va_ur1 (by decide)) ?_
    refine z_C (va_ur2 (by decide) (by decide)) ?_
    refine z_C (va_ur2 (by decide) (by decide)) ?_
    have e1 : aCu stp k cur = cur := by unfold aCu; rw [if_neg (by omega), if_neg (by omega)]
    have e2 : aPl stp k cur pl = aLp k cur pl := by unfold aPl; rw [if_pos (by omega)]
    have e3 : aPg stp k cur px = px := by unfold aPg; rw [if_neg (by omega), if_neg (by omega)]
    exact z_iret K rfl dX5_stepBehind_45 ⟨by rw [e1, e2, e3], by unfold aSt; rw [if_pos (by omega)]⟩
  by_cases sw_4_2 : stp = 2
  · skip
    refine z_top (2) sw_4_2 ?_
    refine z_tableIn (tgt := 46) K dX5_stepBehind_4 (by decide) (by decide) (by decide) rfl (by decide) ?_
    refine z_aload_n 47 K dX5_stepBehind_46 rfl rfl 0 rfl ?_
    refine z_iload_n 48 K dX5_stepBehind_47 rfl rfl 1 rfl ?_
    refine z_vVi (As := [.int (iZ k)]) (rest := []) 51 K 23 (by decide) hTx rfl rfl (m_X5_readSecondLetter l g _ k len cur stp pl hTx hXl (by omega) (by omega)) (cwV 1 K.1.2.2.2.2 gX5_stepBehind_X5_readSecondLetter rfl rfl rfl (by decide +kernel) ⟨Nat.le_of_ble_eq_true rfl, Nat.le_of_ble_eq_true rfl⟩) rfl (Nat.le_of_ble_eq_true rfl) dX5_stepBehind_48 rfl ⟨Nat.le_of_ble_eq_true rfl, Nat.le_of_ble_eq_true rfl⟩ rfl (fun z_3 C_4 hp_48 => ?_)
    refine z_C hp_48.1 ?_
    refine z_top (aMs k) hp_48.2 ?_
    refine z_C (va_us ((va_up_ne _ _ (by decide)).trans hTx)).symm ?_
    refine z_C (va_us ((va_up_ne _ _ (by decide)).trans ((va_up_ne _ _ (by decide)).trans hXp))).symm ?_
    refine z_C (va_ur1 (by decide)) ?_
    refine z_C (va_ur2 (by decide) (by decide)) ?_
    refine z_C (va_ur2 (by decide) (by decide)) ?_
    have e1 : aCu stp k cur = cur := by unfold aCu; rw [if_neg (by omega), if_neg (by omega)]
    have e2 : aPl stp k cur pl = aMp k cur pl := by unfold aPl; rw [if_neg (by omega), if_pos (by omega)]
    have e3 : aPg stp k cur px = px := by unfold aPg; rw [if_neg (by omega), if_neg (by omega)]
    exact z_iret K rfl dX5_stepBehind_51 ⟨by rw [e1, e2, e3], by unfold aSt; rw [if_neg (by omega), if_pos (by omega)]⟩
  by_cases sw_4_3 : stp = 3
  · skip
    refine z_top (3) sw_4_3 ?_
    refine z_tableIn (tgt := 52) K dX5_stepBehind_4 (by decide) (by decide) (by decide) rfl (by decide) ?_
    refine z_iload_n 53 K dX5_stepBehind_52 rfl rfl 1 rfl ?_
    refine z_bipush 55 K dX5_stepBehind_53 rfl rfl ?_
    refine z_icmp_ne (tgt := 62) 58 K dX5_stepBehind_55 rfl (by decide) (by omega) (by decide) (fun c_55 => ?_) (fun c_55 => ?_)
    · skip
      refine z_iconst 63 K dX5_stepBehind_62 rfl ?_
      refine z_C (va_us hTx).symm ?_
      refine z_C (va_us ((va_up_ne _ _ (by decide)).trans hXl)).symm ?_
      refine z_C (va_us ((va_up_ne _ _ (by decide)).trans ((va_up_ne _ _ (by decide)).trans hXp))).symm ?_
      have e1 : aCu stp k cur = cur := by unfold aCu; rw [if_neg (by omega), if_neg (by omega)]
      have e2 : aPl stp k cur pl = pl := by unfold aPl; rw [if_neg (by omega), if_neg (by omega)]
      have e3 : aPg stp k cur px = px := by unfold aPg; rw [if_neg (by omega), if_neg (by omega)]
      exact z_iret K rfl dX5_stepBehind_63 ⟨by rw [e1, e2, e3], by unfold aSt; rw [if_neg (by omega), if_neg (by omega), if_pos (by omega)]; first | (have q9 : k = 46 := (by omega); rw [if_pos q9]; done) | (have q9 : ¬ k = 46 := (by omega); rw [if_neg q9]; done)⟩
    · skip
      refine z_iconst 59 K dX5_stepBehind_58 rfl ?_
      refine z_goto (tgt := 63) K dX5_stepBehind_59 (by decide) ?_
      refine z_C (va_us hTx).symm ?_
      refine z_C (va_us ((va_up_ne _ _ (by decide)).trans hXl)).symm ?_
      refine z_C (va_us ((va_up_ne _ _ (by decide)).trans ((va_up_ne _ _ (by decide)).trans hXp))).symm ?_
      have e1 : aCu stp k cur = cur := by unfold aCu; rw [if_neg (by omega), if_neg (by omega)]
      have e2 : aPl stp k cur pl = pl := by unfold aPl; rw [if_neg (by omega), if_neg (by omega)]
      have e3 : aPg stp k cur px = px := by unfold aPg; rw [if_neg (by omega), if_neg (by omega)]
      exact z_iret K rfl dX5_stepBehind_63 ⟨by rw [e1, e2, e3], by unfold aSt; rw [if_neg (by omega), if_neg (by omega), if_pos (by omega)]; first | (have q9 : k = 46 := (by omega); rw [if_pos q9]; done) | (have q9 : ¬ k = 46 := (by omega); rw [if_neg q9]; done)⟩
  by_cases sw_4_4 : stp = 4
  · skip
    refine z_top (4) sw_4_4 ?_
    refine z_tableIn (tgt := 64) K dX5_stepBehind_4 (by decide) (by decide) (by decide) rfl (by decide) ?_
    refine z_aload_n 65 K dX5_stepBehind_64 rfl rfl 0 rfl ?_
    refine z_iload_n 66 K dX5_stepBehind_65 rfl rfl 1 rfl ?_
    refine z_vVi (As := [.int (iZ k)]) (rest := []) 69 K 23 (by decide) hTx rfl rfl (m_X5_readDigit l g _ k len cur stp px hTx hXp (by omega) (by omega)) (cwV 1 K.1.2.2.2.2 gX5_stepBehind_X5_readDigit rfl rfl rfl (by decide +kernel) ⟨Nat.le_of_ble_eq_true rfl, Nat.le_of_ble_eq_true rfl⟩) rfl (Nat.le_of_ble_eq_true rfl) dX5_stepBehind_66 rfl ⟨Nat.le_of_ble_eq_true rfl, Nat.le_of_ble_eq_true rfl⟩ rfl (fun z_5 C_6 hp_66 => ?_)
    refine z_C hp_66.1 ?_
    refine z_top (aDs k) hp_66.2 ?_
    refine z_C (va_us ((va_up_ne _ _ (by decide)).trans hTx)).symm ?_
    refine z_C (va_us ((va_up_ne _ _ (by decide)).trans ((va_up_ne _ _ (by decide)).trans hXl))).symm ?_
    refine z_C (va_ur1 (by decide)) ?_
    refine z_C (va_ur1 (by decide)) ?_
    refine z_C (va_ur2 (by decide) (by decide)) ?_
    have e1 : aCu stp k cur = cur := by unfold aCu; rw [if_neg (by omega), if_neg (by omega)]
    have e2 : aPl stp k cur pl = pl := by unfold aPl; rw [if_neg (by omega), if_neg (by omega)]
    have e3 : aPg stp k cur px = aDp k cur px := by unfold aPg; rw [if_pos (by omega)]
    exact z_iret K rfl dX5_stepBehind_69 ⟨by rw [e1, e2, e3], by unfold aSt; rw [if_neg (by omega), if_neg (by omega), if_neg (by omega), if_pos (by omega)]⟩
  by_cases sw_4_5 : stp = 5
  · skip
    refine z_top (5) sw_4_5 ?_
    refine z_tableIn (tgt := 70) K dX5_stepBehind_4 (by decide) (by decide) (by decide) rfl (by decide) ?_
    refine z_aload_n 71 K dX5_stepBehind_70 rfl rfl 0 rfl ?_
    refine z_iload_n 72 K dX5_stepBehind_71 rfl rfl 1 rfl ?_
    refine z_vVi (As := [.int (iZ k)]) (rest := []) 75 K 23 (by decide) hTx rfl rfl (m_X5_readSecondDigit l g _ k len cur stp px hTx hXp (by omega) (by omega) hpx) (cwV 1 K.1.2.2.2.2 gX5_stepBehind_X5_readSecondDigit rfl rfl rfl (by decide +kernel) ⟨Nat.le_of_ble_eq_true rfl, Nat.le_of_ble_eq_true rfl⟩) rfl (Nat.le_of_ble_eq_true rfl) dX5_stepBehind_72 rfl ⟨Nat.le_of_ble_eq_true rfl, Nat.le_of_ble_eq_true rfl⟩ rfl (fun z_7 C_8 hp_72 => ?_)
    refine z_C hp_72.1 ?_
    refine z_top (aEs k cur px) hp_72.2 ?_
    refine z_C (va_us ((va_up_ne _ _ (by decide)).trans ((va_up_ne _ _ (by decide)).trans hXl))).symm ?_
    refine z_C (va_ur2 (by decide) (by decide)) ?_
    refine z_C (va_ur1 (by decide)) ?_
    refine z_C (va_ur2 (by decide) (by decide)) ?_
    have e1 : aCu stp k cur = aEc k cur := by unfold aCu; rw [if_pos (by omega)]
    have e2 : aPl stp k cur pl = pl := by unfold aPl; rw [if_neg (by omega), if_neg (by omega)]
    have e3 : aPg stp k cur px = aEp k cur px := by unfold aPg; rw [if_neg (by omega), if_pos (by omega)]
    exact z_iret K rfl dX5_stepBehind_75 ⟨by rw [e1, e2, e3], by unfold aSt; rw [if_neg (by omega), if_neg (by omega), if_neg (by omega), if_neg (by omega), if_pos (by omega)]⟩
  refine z_tableOut (tgt := 76) K dX5_stepBehind_4 (by omega) (by omega) (by decide) ?_
  refine z_aload_n 77 K dX5_stepBehind_76 rfl rfl 0 rfl ?_
  refine z_iload_n 78 K dX5_stepBehind_77 rfl rfl 1 rfl ?_
  refine z_vVi (As := [.int (iZ k)]) (rest := []) 81 K 23 (by decide) hTx rfl rfl (m_X5_readComma l g _ k len cur stp hTx (by omega) (by omega)) (cwV 1 K.1.2.2.2.2 gX5_stepBehind_X5_readComma rfl rfl rfl (by decide +kernel) ⟨Nat.le_of_ble_eq_true rfl, Nat.le_of_ble_eq_true rfl⟩) rfl (Nat.le_of_ble_eq_true rfl) dX5_stepBehind_78 rfl ⟨Nat.le_of_ble_eq_true rfl, Nat.le_of_ble_eq_true rfl⟩ rfl (fun z_9 C_10 hp_78 => ?_)
  refine z_C hp_78.1 ?_
  refine z_top (aCs k cur) hp_78.2 ?_
  refine z_C (va_us ((va_up_ne _ _ (by decide)).trans hXl)).symm ?_
  refine z_C (va_us ((va_up_ne _ _ (by decide)).trans ((va_up_ne _ _ (by decide)).trans hXp))).symm ?_
  have e1 : aCu stp k cur = aCc k cur := by unfold aCu; rw [if_neg (by omega), if_pos (by omega)]
  have e2 : aPl stp k cur pl = pl := by unfold aPl; rw [if_neg (by omega), if_neg (by omega)]
  have e3 : aPg stp k cur px = px := by unfold aPg; rw [if_neg (by omega), if_neg (by omega)]
  exact z_iret K rfl dX5_stepBehind_81 ⟨by rw [e1, e2, e3], by unfold aSt; rw [if_neg (by omega), if_neg (by omega), if_neg (by omega), if_neg (by omega), if_neg (by omega)]⟩
set_option maxRecDepth 20000 in
theorem hin_X5_read_X5 : ∀ w ∈ wsX50, w ∈ wsX5_read := by decide +kernel
set_option maxHeartbeats 4000000 in
set_option maxRecDepth 100000 in
theorem m_X5_read (l : Launch) (g : zG) (C : Nat → va_E) (len : Int) (cur : Int) (stp : Int) (cds : Int → Int) (pl : Int → Int) (px : Int → Int) (hTx : C 23 = .inr (5, [.ref (aD g 24), .int (iZ len), .ref (aD g 25), .ref (aD g 26), .int (iZ cur), .int (iZ stp)])) (hXc : C 24 = eI g 60 cds) (hXl : C 25 = eI g 6 pl) (hXp : C 26 = eI g 6 px) (hln : 0 ≤ len ∧ len ≤ 60) (hpx : ∀ j, 0 ≤ px j ∧ px j ≤ 60) (hcd : ∀ j, 0 ≤ j → j < len → 0 ≤ cds j ∧ cds j ≤ 200) : Met l yX5_read wsX5_read ({ frames := 3, cells := 0, slots := 0, locals := 64 } : Room) (zPre g C [.ref (aD g 23)]) (zQi g (fun z C' => C' = va_up (va_up (va_up C 25 (eI g 6 ((aAll cds len pl px).2.2.2.1))) 26 (eI g 6 ((aAll cds len pl px).2.2.2.2))) 23 (.inr (5, [.ref (aD g 24), .int (iZ len), .ref (aD g 25), .ref (aD g 26), .int (iZ ((aAll cds len pl px).2.2.1)), .int (iZ ((aAll cds len pl px).2.1))])) ∧ z = (aAll cds len pl px).1)) 0 0 (zA g) := by
  refine z_enter RX5 rfl (by decide) rfl (Nat.le_of_ble_eq_true rfl) ?_
  intro p e s m args below meth c K harg
  refine z_sub (lv' := [(0, .ref (aD g 23))]) [0] rfl ?_
  refine z_aload_n 1 K dX5_read_0 rfl rfl 0 rfl ?_
  refine z_iconst 2 K dX5_read_1 rfl ?_
  refine z_put (ty := .int) 5 K hin_X5_read_X5 tyX5 tyX5_ok nmX5 23 (by decide) hTx rfl 4 (by decide) (by decide +kernel : Cond.fieldLink RX5 25 "BriefBuilder$Text" "current" "I" ∈ wsX5_read) (fun _ h9 => h9) rfl (by decide +kernel) rfl rfl (Nat.le_of_ble_eq_true rfl) dX5_read_2 rfl ?_
  show Z p l e (({ frames := 3, cells := 0, slots := 0, locals := 64 } : Room)) s m args below meth c (MQ below (zQi g (fun z C' => C' = va_up (va_up (va_up C 25 (eI g 6 ((aAll cds len pl px).2.2.2.1))) 26 (eI g 6 ((aAll cds len pl px).2.2.2.2))) 23 (.inr (5, [.ref (aD g 24), .int (iZ len), .ref (aD g 25), .ref (aD g 26), .int (iZ ((aAll cds len pl px).2.2.1)), .int (iZ ((aAll cds len pl px).2.1))])) ∧ z = (aAll cds len pl px).1)) args s 0 0 (zA g)) g _ _ _ (va_up C 23 (.inr (5, [.ref (aD g 24), .int (iZ len), .ref (aD g 25), .ref (aD g 26), .int (iZ 0), .int (iZ stp)]))) [(0, .ref (aD g 23))] 5 []
  refine z_aload_n 6 K dX5_read_5 rfl rfl 0 rfl ?_
  refine z_iconst 7 K dX5_read_6 rfl ?_
  refine z_put (ty := .int) 10 K hin_X5_read_X5 tyX5 tyX5_ok nmX5 23 (by decide) (va_up_eq _ 23 _) rfl 5 (by decide) (by decide +kernel : Cond.fieldLink RX5 28 "BriefBuilder$Text" "step" "I" ∈ wsX5_read) (fun _ h9 => h9) rfl (by decide +kernel) rfl rfl (Nat.le_of_ble_eq_true rfl) dX5_read_7 rfl ?_
  show Z p l e (({ frames := 3, cells := 0, slots := 0, locals := 64 } : Room)) s m args below meth c (MQ below (zQi g (fun z C' => C' = va_up (va_up (va_up C 25 (eI g 6 ((aAll cds len pl px).2.2.2.1))) 26 (eI g 6 ((aAll cds len pl px).2.2.2.2))) 23 (.inr (5, [.ref (aD g 24), .int (iZ len), .ref (aD g 25), .ref (aD g 26), .int (iZ ((aAll cds len pl px).2.2.1)), .int (iZ ((aAll cds len pl px).2.1))])) ∧ z = (aAll cds len pl px).1)) args s 0 0 (zA g)) g _ _ _ (va_up (va_up C 23 (.inr (5, [.ref (aD g 24), .int (iZ len), .ref (aD g 25), .ref (aD g 26), .int (iZ 0), .int (iZ stp)]))) 23 (.inr (5, [.ref (aD g 24), .int (iZ len), .ref (aD g 25), .ref (aD g 26), .int (iZ 0), .int (iZ 1)]))) [(0, .ref (aD g 23))] 10 []
  refine z_C (va_uu _ _ _ _) ?_
  refine z_iconst 11 K dX5_read_10 rfl ?_
  refine z_istore_n (lv' := [(1, .int (iZ 0)), (0, .ref (aD g 23))]) 12 K dX5_read_11 rfl rfl (by decide) rfl ?_
  have loop_12 : ∀ (n9 : Nat) (s9 u9 kk : Int) (g25 g26 : Int → Int), (0 ≤ kk ∧ kk ≤ len) → (1 ≤ s9 ∧ s9 ≤ 6 ∧ 0 ≤ u9 ∧ u9 ≤ 5) → (∀ j, 0 ≤ g26 j ∧ g26 j ≤ 60) → (aAll cds len pl px = aR cds len kk s9 u9 g25 g26) → (len - kk < (n9 : Int)) → Z p l e (({ frames := 3, cells := 0, slots := 0, locals := 64 } : Room)) s m args below meth c (MQ below (zQi g (fun z C' => C' = va_up (va_up (va_up C 25 (eI g 6 ((aAll cds len pl px).2.2.2.1))) 26 (eI g 6 ((aAll cds len pl px).2.2.2.2))) 23 (.inr (5, [.ref (aD g 24), .int (iZ len), .ref (aD g 25), .ref (aD g 26), .int (iZ ((aAll cds len pl px).2.2.1)), .int (iZ ((aAll cds len pl px).2.1))])) ∧ z = (aAll cds len pl px).1)) args s 0 0 (zA g)) g 2 0 0 (va_up (va_up (va_up C 25 (eI g 6 g25)) 26 (eI g 6 g26)) 23 (.inr (5, [.ref (aD g 24), .int (iZ len), .ref (aD g 25), .ref (aD g 26), .int (iZ u9), .int (iZ s9)]))) [(0, .ref (aD g 23)), (1, .int (iZ kk))] 12 [] := by
    intro n9
    induction n9 with
    | zero =>
      intro s9 u9 kk g25 g26 hkk hs hg hX hm9
      exact absurd hm9 (by omega)
    | succ n9 ih9 =>
      intro s9 u9 kk g25 g26 hkk hs hg hX hm_12
      have ih_12 := ih9
      clear ih9
      refine z_iload_n 13 K dX5_read_12 rfl rfl 1 rfl ?_
      refine z_aload_n 14 K dX5_read_13 rfl rfl 0 rfl ?_
      refine z_get 17 K hin_X5_read_X5 23 (by decide) (va_up_eq _ 23 _) rfl 1 (by decide) (by decide +kernel : Cond.fieldLink RX5 15 "BriefBuilder$Text" "length" "I" ∈ wsX5_read) (fun _ h9 => h9) rfl dX5_read_14 rfl ?_
      refine z_icmp_ge (tgt := 49) 20 K dX5_read_17 rfl (by decide) (by omega) (by omega) (fun c_17 => ?_) (fun c_17 => ?_)
      · skip
        refine z_aload_n 50 K dX5_read_49 rfl rfl 0 rfl ?_
        refine z_get 53 K hin_X5_read_X5 23 (by decide) (va_up_eq _ 23 _) rfl 1 (by decide) (by decide +kernel : Cond.fieldLink RX5 15 "BriefBuilder$Text" "length" "I" ∈ wsX5_read) (fun _ h9 => h9) rfl dX5_read_50 rfl ?_
        have hY := hX.trans (aR_end (by omega))
        exact z_iret K rfl dX5_read_53 ⟨by rw [hY], by rw [hY]; show len = kk; omega⟩
      · skip
        refine z_aload_n 21 K dX5_read_20 rfl rfl 0 rfl ?_
        refine z_aload_n 22 K dX5_read_21 rfl rfl 0 rfl ?_
        refine z_aload_n 23 K dX5_read_22 rfl rfl 0 rfl ?_
        refine z_get 26 K hin_X5_read_X5 23 (by decide) (va_up_eq _ 23 _) rfl 0 (by decide) (by decide +kernel : Cond.fieldLink RX5 9 "BriefBuilder$Text" "codes" "[I" ∈ wsX5_read) (fun _ h9 => h9) rfl dX5_read_23 rfl ?_
        refine z_iload_n 27 K dX5_read_26 rfl rfl 1 rfl ?_
        refine z_iald (f := cds) 28 K 24 (by decide) ((va_up_ne _ _ (by decide)).trans ((va_up_ne _ _ (by decide)).trans ((va_up_ne _ _ (by decide)).trans hXc))) (by omega) (by omega) (by decide) dX5_read_27 rfl ?_
        have hk9 := hcd kk (by omega) (by omega)
        refine z_vVi (As := [.int (iZ (cds kk))]) (rest := [.ref (aD g 23)]) 31 K 23 (by decide) (va_up_eq _ 23 _) rfl rfl (m_X5_stepBehind l g _ (cds kk) len u9 s9 g25 g26 (va_up_eq _ 23 _) ((va_up_ne _ _ (by decide)).trans ((va_up_ne _ _ (by decide)).trans (va_up_eq _ 25 _))) ((va_up_ne _ _ (by decide)).trans (va_up_eq _ 26 _)) (by omega) (by omega) (by omega) hg) (cwV 1 K.1.2.2.2.2 gX5_read_X5_stepBehind rfl rfl rfl (by decide +kernel) ⟨Nat.le_of_ble_eq_true rfl, Nat.le_of_ble_eq_true rfl⟩) rfl (Nat.le_of_ble_eq_true rfl) dX5_read_28 rfl ⟨Nat.le_of_ble_eq_true rfl, Nat.le_of_ble_eq_true rfl⟩ rfl (fun z_1 C_2 hp_28 => ?_)
        refine z_C hp_28.1 ?_
        refine z_top (aSt s9 (cds kk) u9 g26) hp_28.2 ?_
        refine z_C (congrArg (fun c9 => va_up (va_up c9 25 (eI g 6 (aPl s9 (cds kk) u9 g25))) 26 (eI g 6 (aPg s9 (cds kk) u9 g26))) (va_uu _ _ _ _)) ?_
        refine z_C (congrArg (fun c9 => va_up c9 26 (eI g 6 (aPg s9 (cds kk) u9 g26))) (va_uu2 (by decide) (by decide))) ?_
        refine z_C (va_uu2 (by decide) (by decide)) ?_
        have hr9 := aSt_rng s9 (cds kk) u9 g26
        have hc9 := aCu_rng (s := s9) (k := cds kk) (cur := u9) (by omega)
        refine z_put (ty := .int) 34 K hin_X5_read_X5 tyX5 tyX5_ok nmX5 23 (by decide) ((va_up_ne _ _ (by decide)).trans ((va_up_ne _ _ (by decide)).trans (va_up_eq _ 23 _))) rfl 5 (by decide) (by decide +kernel : Cond.fieldLink RX5 28 "BriefBuilder$Text" "step" "I" ∈ wsX5_read) (fun _ h9 => h9) rfl (by decide +kernel) rfl rfl (Nat.le_of_ble_eq_true rfl) dX5_read_31 rfl ?_
        show Z p l e (({ frames := 3, cells := 0, slots := 0, locals := 64 } : Room)) s m args below meth c (MQ below (zQi g (fun z C' => C' = va_up (va_up (va_up C 25 (eI g 6 ((aAll cds len pl px).2.2.2.1))) 26 (eI g 6 ((aAll cds len pl px).2.2.2.2))) 23 (.inr (5, [.ref (aD g 24), .int (iZ len), .ref (aD g 25), .ref (aD g 26), .int (iZ ((aAll cds len pl px).2.2.1)), .int (iZ ((aAll cds len pl px).2.1))])) ∧ z = (aAll cds len pl px).1)) args s 0 0 (zA g)) g _ _ _ (va_up (va_up (va_up (va_up C 23 (.inr (5, [.ref (aD g 24), .int (iZ len), .ref (aD g 25), .ref (aD g 26), .int (iZ (aCu s9 (cds kk) u9)), .int (iZ s9)]))) 25 (eI g 6 (aPl s9 (cds kk) u9 g25))) 26 (eI g 6 (aPg s9 (cds kk) u9 g26))) 23 (.inr (5, [.ref (aD g 24), .int (iZ len), .ref (aD g 25), .ref (aD g 26), .int (iZ (aCu s9 (cds kk) u9)), .int (iZ (aSt s9 (cds kk) u9 g26))]))) [(0, .ref (aD g 23)), (1, .int (iZ kk))] 34 []
        refine z_C (va_uu2 (by decide) (by decide)) ?_
        refine z_aload_n 35 K dX5_read_34 rfl rfl 0 rfl ?_
        refine z_get 38 K hin_X5_read_X5 23 (by decide) (va_up_eq _ 23 _) rfl 5 (by decide) (by decide +kernel : Cond.fieldLink RX5 28 "BriefBuilder$Text" "step" "I" ∈ wsX5_read) (fun _ h9 => h9) rfl dX5_read_35 rfl ?_
        refine z_if_ne (tgt := 43) 41 K dX5_read_38 rfl (by decide) (by omega) (fun c_38 => ?_) (fun c_38 => ?_)
        · skip
          refine z_iinc (lv' := [(1, .int (iZ (kk + 1))), (0, .ref (aD g 23))]) 46 K dX5_read_43 rfl (kk + 1) rfl 1 rfl (by decide) rfl ?_
          refine z_goto (tgt := 12) K dX5_read_46 (by decide) ?_
          refine z_sub [1, 0] rfl ?_
          exact ih_12 (aSt s9 (cds kk) u9 g26) (aCu s9 (cds kk) u9) (kk + 1) (aPl s9 (cds kk) u9 g25) (aPg s9 (cds kk) u9 g26) (by omega) (by omega) (aPg_rng hg) (hX.trans (aR_go (by omega) (by omega))) (by omega)
        · skip
          refine z_iload_n 42 K dX5_read_41 rfl rfl 1 rfl ?_
          have hY := hX.trans (aR_stop (by omega) (by omega))
          exact z_iret K rfl dX5_read_42 ⟨by rw [hY], by rw [hY]⟩
  refine z_sub [1, 0] rfl ?_
  refine z_C (va_us ((va_up_ne _ _ (by decide)).trans hXl)).symm ?_
  refine z_C (va_us ((va_up_ne _ _ (by decide)).trans ((va_up_ne _ _ (by decide)).trans hXp))).symm ?_
  refine z_C (va_ur1 (by decide)) ?_
  refine z_C (va_ur1 (by decide)) ?_
  refine z_C (va_ur2 (by decide) (by decide)) ?_
  exact loop_12 (Int.toNat (len - 0) + 1) 1 0 0 pl px (by omega) (by omega) hpx rfl (by omega)
end ZIX
