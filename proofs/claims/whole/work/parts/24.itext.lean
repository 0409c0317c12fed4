/-! the class: its text -/
section ZIX
set_option maxRecDepth 20000 in
theorem hin_X5_add_X5 : ∀ w ∈ wsX50, w ∈ wsX5_add := by decide +kernel
set_option maxHeartbeats 4000000 in
set_option maxRecDepth 100000 in
theorem m_X5_add (l : Launch) (g : zG) (C : Nat → va_E) (k : Int) (len : Int) (cur : Int) (stp : Int) (cds : Int → Int) (hTx : C 23 = .inr (5, [.ref (aD g 24), .int (iZ len), .ref (aD g 25), .ref (aD g 26), .int (iZ cur), .int (iZ stp)])) (hXc : C 24 = eI g 60 cds) (hln : 0 ≤ len ∧ len ≤ 59) : Met l yX5_add wsX5_add ({ frames := 0, cells := 0, slots := 0, locals := 0 } : Room) (zPre g C [.ref (aD g 23), .int (iZ k)]) (zQv g (fun C' => C' = va_up (va_up C 24 (eI g 60 (zu cds len k))) 23 (.inr (5, [.ref (aD g 24), .int (iZ (len + 1)), .ref (aD g 25), .ref (aD g 26), .int (iZ cur), .int (iZ stp)])))) 0 0 (zA g) := by
  refine z_enter RX5 rfl (by decide) rfl (Nat.le_of_ble_eq_true rfl) ?_
  intro p e s m args below meth c K harg
  refine z_sub (lv' := [(0, .ref (aD g 23)), (1, .int (iZ k))]) [0, 1] rfl ?_
  refine z_aload_n 1 K dX5_add_0 rfl rfl 0 rfl ?_
  refine z_get 4 K hin_X5_add_X5 23 (by decide) hTx rfl 0 (by decide) (by decide +kernel : Cond.fieldLink RX5 9 "BriefBuilder$Text" "codes" "[I" ∈ wsX5_add) (fun _ h9 => h9) rfl dX5_add_1 rfl ?_
  refine z_aload_n 5 K dX5_add_4 rfl rfl 0 rfl ?_
  refine z_get 8 K hin_X5_add_X5 23 (by decide) hTx rfl 1 (by decide) (by decide +kernel : Cond.fieldLink RX5 15 "BriefBuilder$Text" "length" "I" ∈ wsX5_add) (fun _ h9 => h9) rfl dX5_add_5 rfl ?_
  refine z_iload_n 9 K dX5_add_8 rfl rfl 1 rfl ?_
  refine z_iast (f := cds) 10 K 24 (by decide) hXc (by omega) (by omega) (by decide) dX5_add_9 rfl ?_
  refine z_aload_n 11 K dX5_add_10 rfl rfl 0 rfl ?_
  refine z_dup 12 K dX5_add_11 rfl rfl ?_
  refine z_get 15 K hin_X5_add_X5 23 (by decide) ((va_up_ne _ _ (by decide)).trans hTx) rfl 1 (by decide) (by decide +kernel : Cond.fieldLink RX5 15 "BriefBuilder$Text" "length" "I" ∈ wsX5_add) (fun _ h9 => h9) rfl dX5_add_12 rfl ?_
  refine z_iconst 16 K dX5_add_15 rfl ?_
  refine z_iadd 17 K dX5_add_16 rfl ?_
  refine z_put (ty := .int) 20 K hin_X5_add_X5 tyX5 tyX5_ok nmX5 23 (by decide) ((va_up_ne _ _ (by decide)).trans hTx) rfl 1 (by decide) (by decide +kernel : Cond.fieldLink RX5 15 "BriefBuilder$Text" "length" "I" ∈ wsX5_add) (fun _ h9 => h9) rfl (by decide +kernel) rfl rfl (Nat.le_of_ble_eq_true rfl) dX5_add_17 rfl ?_
  show Z p l e (({ frames := 0, cells := 0, slots := 0, locals := 0 } : Room)) s m args below meth c (MQ below (zQv g (fun C' => C' = va_up (va_up C 24 (eI g 60 (zu cds len k))) 23 (.inr (5, [.ref (aD g 24), .int (iZ (len + 1)), .ref (aD g 25), .ref (aD g 26), .int (iZ cur), .int (iZ stp)])))) args s 0 0 (zA g)) g _ _ _ (va_up (va_up C 24 (eI g 60 (zu cds len k))) 23 (.inr (5, [.ref (aD g 24), .int (iZ (len + 1)), .ref (aD g 25), .ref (aD g 26), .int (iZ cur), .int (iZ stp)]))) [(0, .ref (aD g 23)), (1, .int (iZ k))] 20 []
  exact z_vret K rfl dX5_add_20 rfl
set_option maxRecDepth 20000 in
theorem hin_X5_isComplete_X5 : ∀ w ∈ wsX50, w ∈ wsX5_isComplete := by decide +kernel
set_option maxHeartbeats 4000000 in
set_option maxRecDepth 100000 in
theorem m_X5_isComplete (l : Launch) (g : zG) (C : Nat → va_E) (len : Int) (cur : Int) (stp : Int) (hTx : C 23 = .inr (5, [.ref (aD g 24), .int (iZ len), .ref (aD g 25), .ref (aD g 26), .int (iZ cur), .int (iZ stp)])) : Met l yX5_isComplete wsX5_isComplete ({ frames := 0, cells := 0, slots := 0, locals := 0 } : Room) (zPre g C [.ref (aD g 23)]) (zQi g (fun z C' => C' = C ∧ z = b2i (decide (stp = 5 ∨ stp = 6)))) 0 0 (zA g) := by
  refine z_enter RX5 rfl (by decide) rfl (Nat.le_of_ble_eq_true rfl) ?_
  intro p e s m args below meth c K harg
  refine z_sub (lv' := [(0, .ref (aD g 23))]) [0] rfl ?_
  refine z_aload_n 1 K dX5_isComplete_0 rfl rfl 0 rfl ?_
  refine z_get 4 K hin_X5_isComplete_X5 23 (by decide) hTx rfl 5 (by decide) (by decide +kernel : Cond.fieldLink RX5 28 "BriefBuilder$Text" "step" "I" ∈ wsX5_isComplete) (fun _ h9 => h9) rfl dX5_isComplete_1 rfl ?_
  refine z_iconst 5 K dX5_isComplete_4 rfl ?_
  refine z_icmp_eq (tgt := 17) 8 K dX5_isComplete_5 rfl (by decide) (by omega) (by decide) (fun c_5 => ?_) (fun c_5 => ?_)
  · skip
    refine z_iconst 18 K dX5_isComplete_17 rfl ?_
    refine z_goto (tgt := 22) K dX5_isComplete_18 (by decide) ?_
    exact z_zret K rfl (by decide) dX5_isComplete_22 ⟨rfl, by first | (have q9 : stp = 5 ∨ stp = 6 := (by omega); exact (b2i_1 q9).symm) | (have q9 : ¬ (stp = 5 ∨ stp = 6) := (by omega); exact (b2i_0 q9).symm)⟩
  · skip
    refine z_aload_n 9 K dX5_isComplete_8 rfl rfl 0 rfl ?_
    refine z_get 12 K hin_X5_isComplete_X5 23 (by decide) hTx rfl 5 (by decide) (by decide +kernel : Cond.fieldLink RX5 28 "BriefBuilder$Text" "step" "I" ∈ wsX5_isComplete) (fun _ h9 => h9) rfl dX5_isComplete_9 rfl ?_
    refine z_bipush 14 K dX5_isComplete_12 rfl rfl ?_
    refine z_icmp_ne (tgt := 21) 17 K dX5_isComplete_14 rfl (by decide) (by omega) (by decide) (fun c_14 => ?_) (fun c_14 => ?_)
    · skip
      refine z_iconst 22 K dX5_isComplete_21 rfl ?_
      exact z_zret K rfl (by decide) dX5_isComplete_22 ⟨rfl, by first | (have q9 : stp = 5 ∨ stp = 6 := (by omega); exact (b2i_1 q9).symm) | (have q9 : ¬ (stp = 5 ∨ stp = 6) := (by omega); exact (b2i_0 q9).symm)⟩
    · skip
      refine z_iconst 18 K dX5_isComplete_17 rfl ?_
      refine z_goto (tgt := 22) K dX5_isComplete_18 (by decide) ?_
      exact z_zret K rfl (by decide) dX5_isComplete_22 ⟨rfl, by first | (have q9 : stp = 5 ∨ stp = 6 := (by omega); exact (b2i_1 q9).symm) | (have q9 : ¬ (stp = 5 ∨ stp = 6) := (by omega); exact (b2i_0 q9).symm)⟩
set_option maxRecDepth 20000 in
theorem hin_X5_readLetter_X5 : ∀ w ∈ wsX50, w ∈ wsX5_readLetter := by decide +kernel
set_option maxHeartbeats 4000000 in
set_option maxRecDepth 100000 in
theorem m_X5_readLetter (l : Launch) (g : zG) (C : Nat → va_E) (k : Int) (len : Int) (cur : Int) (stp : Int) (pl : Int → Int) (hTx : C 23 = .inr (5, [.ref (aD g 24), .int (iZ len), .ref (aD g 25), .ref (aD g 26), .int (iZ cur), .int (iZ stp)])) (hXl : C 25 = eI g 6 pl) (hcu : 0 ≤ cur ∧ cur ≤ 5) (hkc : 0 ≤ k ∧ k ≤ 200) : Met l yX5_readLetter wsX5_readLetter ({ frames := 0, cells := 0, slots := 0, locals := 0 } : Room) (zPre g C [.ref (aD g 23), .int (iZ k)]) (zQi g (fun z C' => C' = va_up C 25 (eI g 6 (aLp k cur pl)) ∧ z = aLs k)) 0 0 (zA g) := by
  refine z_enter RX5 rfl (by decide) rfl (Nat.le_of_ble_eq_true rfl) ?_
  intro p e s m args below meth c K harg
  refine z_sub (lv' := [(0, .ref (aD g 23)), (1, .int (iZ k))]) [0, 1] rfl ?_
  refine z_iload_n 1 K dX5_readLetter_0 rfl rfl 1 rfl ?_
  refine z_bipush 3 K dX5_readLetter_1 rfl rfl ?_
  refine z_icmp_lt (tgt := 12) 6 K dX5_readLetter_3 rfl (by decide) (by omega) (by decide) (fun c_3 => ?_) (fun c_3 => ?_)
  · skip
    refine z_iconst 13 K dX5_readLetter_12 rfl ?_
    refine z_C (va_us hXl).symm ?_
    have q9 : k < 65 ∨ 90 < k := by omega
    exact z_iret K rfl dX5_readLetter_13 ⟨by rw [show aLp k cur pl = pl by unfold aLp; rw [if_pos q9]], by unfold aLs; rw [if_pos q9]⟩
  · skip
    refine z_iload_n 7 K dX5_readLetter_6 rfl rfl 1 rfl ?_
    refine z_bipush 9 K dX5_readLetter_7 rfl rfl ?_
    refine z_icmp_le (tgt := 14) 12 K dX5_readLetter_9 rfl (by decide) (by omega) (by decide) (fun c_9 => ?_) (fun c_9 => ?_)
    · skip
      refine z_aload_n 15 K dX5_readLetter_14 rfl rfl 0 rfl ?_
      refine z_get 18 K hin_X5_readLetter_X5 23 (by decide) hTx rfl 2 (by decide) (by decide +kernel : Cond.fieldLink RX5 19 "BriefBuilder$Text" "places" "[I" ∈ wsX5_readLetter) (fun _ h9 => h9) rfl dX5_readLetter_15 rfl ?_
      refine z_aload_n 19 K dX5_readLetter_18 rfl rfl 0 rfl ?_
      refine z_get 22 K hin_X5_readLetter_X5 23 (by decide) hTx rfl 4 (by decide) (by decide +kernel : Cond.fieldLink RX5 25 "BriefBuilder$Text" "current" "I" ∈ wsX5_readLetter) (fun _ h9 => h9) rfl dX5_readLetter_19 rfl ?_
      refine z_iload_n 23 K dX5_readLetter_22 rfl rfl 1 rfl ?_
      refine z_bipush 25 K dX5_readLetter_23 rfl rfl ?_
      refine z_isub 26 K dX5_readLetter_25 rfl ?_
      refine z_iast (f := pl) 27 K 25 (by decide) hXl (by omega) (by omega) (by decide) dX5_readLetter_26 rfl ?_
      refine z_iload_n 28 K dX5_readLetter_27 rfl rfl 1 rfl ?_
      refine z_bipush 30 K dX5_readLetter_28 rfl rfl ?_
      refine z_icmp_ne (tgt := 37) 33 K dX5_readLetter_30 rfl (by decide) (by omega) (by decide) (fun c_30 => ?_) (fun c_30 => ?_)
      · skip
        refine z_iconst 38 K dX5_readLetter_37 rfl ?_
        have q9 : ¬ (k < 65 ∨ 90 < k) := by omega
        exact z_iret K rfl dX5_readLetter_38 ⟨by rw [show aLp k cur pl = zu pl cur (k - 65) by unfold aLp; rw [if_neg q9]], by unfold aLs; rw [if_neg q9]; first | (have q8 : k = 65 := (by omega); rw [if_pos q8]; done) | (have q8 : ¬ k = 65 := (by omega); rw [if_neg q8]; done)⟩
      · skip
        refine z_iconst 34 K dX5_readLetter_33 rfl ?_
        refine z_goto (tgt := 38) K dX5_readLetter_34 (by decide) ?_
        have q9 : ¬ (k < 65 ∨ 90 < k) := by omega
        exact z_iret K rfl dX5_readLetter_38 ⟨by rw [show aLp k cur pl = zu pl cur (k - 65) by unfold aLp; rw [if_neg q9]], by unfold aLs; rw [if_neg q9]; first | (have q8 : k = 65 := (by omega); rw [if_pos q8]; done) | (have q8 : ¬ k = 65 := (by omega); rw [if_neg q8]; done)⟩
    · skip
      refine z_iconst 13 K dX5_readLetter_12 rfl ?_
      refine z_C (va_us hXl).symm ?_
      have q9 : k < 65 ∨ 90 < k := by omega
      exact z_iret K rfl dX5_readLetter_13 ⟨by rw [show aLp k cur pl = pl by unfold aLp; rw [if_pos q9]], by unfold aLs; rw [if_pos q9]⟩
end ZIX
