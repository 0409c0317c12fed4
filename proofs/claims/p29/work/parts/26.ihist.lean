/-! the class: its saved states -/
section ZIH
theorem va_uu5 {f : Nat → va_E} {q q1 q2 q3 q4 q5 : Nat} {a b1 b2 b3 b4 b5 c : va_E} (_ : q1 ≠ q) (_ : q2 ≠ q) (_ : q3 ≠ q) (_ : q4 ≠ q) (_ : q5 ≠ q) : va_up (va_up (va_up (va_up (va_up (va_up (va_up f q a) q1 b1) q2 b2) q3 b3) q4 b4) q5 b5) q c = va_up (va_up (va_up (va_up (va_up (va_up f q1 b1) q2 b2) q3 b3) q4 b4) q5 b5) q c := by
  funext j
  simp only [va_up]
  by_cases hj : j = q
  · rw [if_pos hj, if_pos hj]
  · simp only [if_neg hj]
theorem va_uu6 {f : Nat → va_E} {q q1 q2 q3 q4 q5 q6 : Nat} {a b1 b2 b3 b4 b5 b6 c : va_E} (_ : q1 ≠ q) (_ : q2 ≠ q) (_ : q3 ≠ q) (_ : q4 ≠ q) (_ : q5 ≠ q) (_ : q6 ≠ q) : va_up (va_up (va_up (va_up (va_up (va_up (va_up (va_up f q a) q1 b1) q2 b2) q3 b3) q4 b4) q5 b5) q6 b6) q c = va_up (va_up (va_up (va_up (va_up (va_up (va_up f q1 b1) q2 b2) q3 b3) q4 b4) q5 b5) q6 b6) q c := by
  funext j
  simp only [va_up]
  by_cases hj : j = q
  · rw [if_pos hj, if_pos hj]
  · simp only [if_neg hj]
theorem va_uu7 {f : Nat → va_E} {q q1 q2 q3 q4 q5 q6 q7 : Nat} {a b1 b2 b3 b4 b5 b6 b7 c : va_E} (_ : q1 ≠ q) (_ : q2 ≠ q) (_ : q3 ≠ q) (_ : q4 ≠ q) (_ : q5 ≠ q) (_ : q6 ≠ q) (_ : q7 ≠ q) : va_up (va_up (va_up (va_up (va_up (va_up (va_up (va_up (va_up f q a) q1 b1) q2 b2) q3 b3) q4 b4) q5 b5) q6 b6) q7 b7) q c = va_up (va_up (va_up (va_up (va_up (va_up (va_up (va_up f q1 b1) q2 b2) q3 b3) q4 b4) q5 b5) q6 b6) q7 b7) q c := by
  funext j
  simp only [va_up]
  by_cases hj : j = q
  · rw [if_pos hj, if_pos hj]
  · simp only [if_neg hj]
theorem va_uu8 {f : Nat → va_E} {q q1 q2 q3 q4 q5 q6 q7 q8 : Nat} {a b1 b2 b3 b4 b5 b6 b7 b8 c : va_E} (_ : q1 ≠ q) (_ : q2 ≠ q) (_ : q3 ≠ q) (_ : q4 ≠ q) (_ : q5 ≠ q) (_ : q6 ≠ q) (_ : q7 ≠ q) (_ : q8 ≠ q) : va_up (va_up (va_up (va_up (va_up (va_up (va_up (va_up (va_up (va_up f q a) q1 b1) q2 b2) q3 b3) q4 b4) q5 b5) q6 b6) q7 b7) q8 b8) q c = va_up (va_up (va_up (va_up (va_up (va_up (va_up (va_up (va_up f q1 b1) q2 b2) q3 b3) q4 b4) q5 b5) q6 b6) q7 b7) q8 b8) q c := by
  funext j
  simp only [va_up]
  by_cases hj : j = q
  · rw [if_pos hj, if_pos hj]
  · simp only [if_neg hj]
theorem va_uu9 {f : Nat → va_E} {q q1 q2 q3 q4 q5 q6 q7 q8 q9 : Nat} {a b1 b2 b3 b4 b5 b6 b7 b8 b9 c : va_E} (_ : q1 ≠ q) (_ : q2 ≠ q) (_ : q3 ≠ q) (_ : q4 ≠ q) (_ : q5 ≠ q) (_ : q6 ≠ q) (_ : q7 ≠ q) (_ : q8 ≠ q) (_ : q9 ≠ q) : va_up (va_up (va_up (va_up (va_up (va_up (va_up (va_up (va_up (va_up (va_up f q a) q1 b1) q2 b2) q3 b3) q4 b4) q5 b5) q6 b6) q7 b7) q8 b8) q9 b9) q c = va_up (va_up (va_up (va_up (va_up (va_up (va_up (va_up (va_up (va_up f q1 b1) q2 b2) q3 b3) q4 b4) q5 b5) q6 b6) q7 b7) q8 b8) q9 b9) q c := by
  funext j
  simp only [va_up]
  by_cases hj : j = q
  · rw [if_pos hj, if_pos hj]
  · simp only [if_neg hj]
theorem va_uu10 {f : Nat → va_E} {q q1 q2 q3 q4 q5 q6 q7 q8 q9 q10 : Nat} {a b1 b2 b3 b4 b5 b6 b7 b8 b9 b10 c : va_E} (_ : q1 ≠ q) (_ : q2 ≠ q) (_ : q3 ≠ q) (_ : q4 ≠ q) (_ : q5 ≠ q) (_ : q6 ≠ q) (_ : q7 ≠ q) (_ : q8 ≠ q) (_ : q9 ≠ q) (_ : q10 ≠ q) : va_up (va_up (va_up (va_up (va_up (va_up (va_up (va_up (va_up (va_up (va_up (va_up f q a) q1 b1) q2 b2) q3 b3) q4 b4) q5 b5) q6 b6) q7 b7) q8 b8) q9 b9) q10 b10) q c = va_up (va_up (va_up (va_up (va_up (va_up (va_up (va_up (va_up (va_up (va_up f q1 b1) q2 b2) q3 b3) q4 b4) q5 b5) q6 b6) q7 b7) q8 b8) q9 b9) q10 b10) q c := by
  funext j
  simp only [va_up]
  by_cases hj : j = q
  · rw [if_pos hj, if_pos hj]
  · simp only [if_neg hj]
theorem va_uu11 {f : Nat → va_E} {q q1 q2 q3 q4 q5 q6 q7 q8 q9 q10 q11 : Nat} {a b1 b2 b3 b4 b5 b6 b7 b8 b9 b10 b11 c : va_E} (_ : q1 ≠ q) (_ : q2 ≠ q) (_ : q3 ≠ q) (_ : q4 ≠ q) (_ : q5 ≠ q) (_ : q6 ≠ q) (_ : q7 ≠ q) (_ : q8 ≠ q) (_ : q9 ≠ q) (_ : q10 ≠ q) (_ : q11 ≠ q) : va_up (va_up (va_up (va_up (va_up (va_up (va_up (va_up (va_up (va_up (va_up (va_up (va_up f q a) q1 b1) q2 b2) q3 b3) q4 b4) q5 b5) q6 b6) q7 b7) q8 b8) q9 b9) q10 b10) q11 b11) q c = va_up (va_up (va_up (va_up (va_up (va_up (va_up (va_up (va_up (va_up (va_up (va_up f q1 b1) q2 b2) q3 b3) q4 b4) q5 b5) q6 b6) q7 b7) q8 b8) q9 b9) q10 b10) q11 b11) q c := by
  funext j
  simp only [va_up]
  by_cases hj : j = q
  · rw [if_pos hj, if_pos hj]
  · simp only [if_neg hj]
theorem va_uu12 {f : Nat → va_E} {q q1 q2 q3 q4 q5 q6 q7 q8 q9 q10 q11 q12 : Nat} {a b1 b2 b3 b4 b5 b6 b7 b8 b9 b10 b11 b12 c : va_E} (_ : q1 ≠ q) (_ : q2 ≠ q) (_ : q3 ≠ q) (_ : q4 ≠ q) (_ : q5 ≠ q) (_ : q6 ≠ q) (_ : q7 ≠ q) (_ : q8 ≠ q) (_ : q9 ≠ q) (_ : q10 ≠ q) (_ : q11 ≠ q) (_ : q12 ≠ q) : va_up (va_up (va_up (va_up (va_up (va_up (va_up (va_up (va_up (va_up (va_up (va_up (va_up (va_up f q a) q1 b1) q2 b2) q3 b3) q4 b4) q5 b5) q6 b6) q7 b7) q8 b8) q9 b9) q10 b10) q11 b11) q12 b12) q c = va_up (va_up (va_up (va_up (va_up (va_up (va_up (va_up (va_up (va_up (va_up (va_up (va_up f q1 b1) q2 b2) q3 b3) q4 b4) q5 b5) q6 b6) q7 b7) q8 b8) q9 b9) q10 b10) q11 b11) q12 b12) q c := by
  funext j
  simp only [va_up]
  by_cases hj : j = q
  · rw [if_pos hj, if_pos hj]
  · simp only [if_neg hj]
set_option maxRecDepth 20000 in
theorem hin_X2_save_X2 : ∀ w ∈ wsX20, w ∈ wsX2_save := by decide +kernel
set_option maxHeartbeats 4000000 in
set_option maxRecDepth 100000 in
theorem m_X2_save (l : Launch) (g : zG) (C : Nat → va_E) (old : Int) (hc : Int) (sb : Nat) (n1 : Int) (n2 : Int) (n3 : Int) (f2 : Int → Int) (f3 : Int → Int) (f5 : Int → Int) (f6 : Int → Int) (f7 : Int → Int) (f9 : Int → Int) (f10 : Int → Int) (cnt : Int) (nxt : Int) (bp : Int) (num : Int → Int) (pgs : Int → Int) (cc : Int → Int) (cn : Int → Int) (cp : Int → Int) (pn : Int → Int) (pm : Int → Int) (hHi : C 21 = .inr (2, [.ref (aD g 22), .int (iZ old), .int (iZ hc)])) (hHs : C 22 = eS g 6 (fun k => some (aD g (28 + 11 * k)))) (hz_hB0 : sb < zN) (hB0 : C sb = .inr (4, [.ref (aD g (sb + 1)), .ref (aD g (sb + 4)), .ref (aD g (sb + 8))])) (hz_hB1 : sb + 1 < zN) (hB1 : C (sb + 1) = .inr (1, [.ref (aD g (sb + 2)), .ref (aD g (sb + 3)), .int (iZ n1), .int (iZ n2), .int (iZ n3)])) (hz_hB2 : sb + 2 < zN) (hB2 : C (sb + 2) = eI g 30 f2) (hz_hB3 : sb + 3 < zN) (hB3 : C (sb + 3) = eI g 30 f3) (hz_hB4 : sb + 4 < zN) (hB4 : C (sb + 4) = .inr (0, [.ref (aD g (sb + 5)), .ref (aD g (sb + 6)), .ref (aD g (sb + 7))])) (hz_hB5 : sb + 5 < zN) (hB5 : C (sb + 5) = eI g 12 f5) (hz_hB6 : sb + 6 < zN) (hB6 : C (sb + 6) = eI g 72 f6) (hz_hB7 : sb + 7 < zN) (hB7 : C (sb + 7) = eI g 72 f7) (hz_hB8 : sb + 8 < zN) (hB8 : C (sb + 8) = .inr (3, [.ref (aD g (sb + 9)), .ref (aD g (sb + 10))])) (hz_hB9 : sb + 9 < zN) (hB9 : C (sb + 9) = eI g 12 f9) (hz_hB10 : sb + 10 < zN) (hB10 : C (sb + 10) = eI g 72 f10) (hC0 : C 1 = .inr (4, [.ref (aD g 2), .ref (aD g 5), .ref (aD g 9)])) (hC1 : C 2 = .inr (1, [.ref (aD g 3), .ref (aD g 4), .int (iZ cnt), .int (iZ nxt), .int (iZ bp)])) (hC2 : C 3 = eI g 30 num) (hC3 : C 4 = eI g 30 pgs) (hC4 : C 5 = .inr (0, [.ref (aD g 6), .ref (aD g 7), .ref (aD g 8)])) (hC5 : C 6 = eI g 12 cc) (hC6 : C 7 = eI g 72 cn) (hC7 : C 8 = eI g 72 cp) (hC8 : C 9 = .inr (3, [.ref (aD g 10), .ref (aD g 11)])) (hC9 : C 10 = eI g 12 pn) (hC10 : C 11 = eI g 72 pm) (hoc : 0 ≤ old ∧ old ≤ 5 ∧ 0 ≤ hc ∧ hc ≤ 6) (hsl : (sb : Int) = 28 + 11 * ((old + hc) % 6)) : Met l yX2_save wsX2_save ({ frames := 3, cells := 0, slots := 0, locals := 82 } : Room) (zPre g C [.ref (aD g 21), .ref (aD g 1)]) (zQv g (fun C' => C' = va_up (va_up (va_up (va_up (va_up (va_up (va_up (va_up (va_up C (sb + 2) (eI g 30 num)) (sb + 3) (eI g 30 pgs)) (sb + 1) (.inr (1, [.ref (aD g (sb + 2)), .ref (aD g (sb + 3)), .int (iZ cnt), .int (iZ nxt), .int (iZ bp)]))) (sb + 5) (eI g 12 cc)) (sb + 6) (eI g 72 cn)) (sb + 7) (eI g 72 cp)) (sb + 9) (eI g 12 pn)) (sb + 10) (eI g 72 pm)) 21 (.inr (2, [.ref (aD g 22), .int (iZ (if hc = 6 then (old + 1) % 6 else old)), .int (iZ (if hc = 6 then 6 else hc + 1))])))) 0 0 (zA g) := by
  refine z_enter RX2 rfl (by decide) rfl (Nat.le_of_ble_eq_true rfl) ?_
  intro p e s m args below meth c K harg
  refine z_sub (lv' := [(0, .ref (aD g 21)), (1, .ref (aD g 1))]) [0, 1] rfl ?_
  refine z_aload_n 1 K dX2_save_0 rfl rfl 0 rfl ?_
  refine z_get 4 K hin_X2_save_X2 21 (by decide) hHi rfl 2 (by decide) (by decide +kernel : Cond.fieldLink RX2 21 "BriefBuilder$History" "count" "I" ∈ wsX2_save) (fun _ h9 => h9) rfl dX2_save_1 rfl ?_
  refine z_bipush 6 K dX2_save_4 rfl rfl ?_
  have join_32_j_1 : ∀ (o2 c2 : Int), (0 ≤ o2 ∧ o2 ≤ 5 ∧ 0 ≤ c2 ∧ c2 ≤ 5) → ((o2 + c2) % 6 = (old + hc) % 6) → (o2 = if hc = 6 then (old + 1) % 6 else old) → (c2 + 1 = if hc = 6 then 6 else hc + 1) → Z p l e (({ frames := 3, cells := 0, slots := 0, locals := 82 } : Room)) s m args below meth c (MQ below (zQv g (fun C' => C' = va_up (va_up (va_up (va_up (va_up (va_up (va_up (va_up (va_up C (sb + 2) (eI g 30 num)) (sb + 3) (eI g 30 pgs)) (sb + 1) (.inr (1, [.ref (aD g (sb + 2)), .ref (aD g (sb + 3)), .int (iZ cnt), .int (iZ nxt), .int (iZ bp)]))) (sb + 5) (eI g 12 cc)) (sb + 6) (eI g 72 cn)) (sb + 7) (eI g 72 cp)) (sb + 9) (eI g 12 pn)) (sb + 10) (eI g 72 pm)) 21 (.inr (2, [.ref (aD g 22), .int (iZ (if hc = 6 then (old + 1) % 6 else old)), .int (iZ (if hc = 6 then 6 else hc + 1))])))) args s 0 0 (zA g)) g 2 0 0 (va_up C 21 (.inr (2, [.ref (aD g 22), .int (iZ o2), .int (iZ c2)]))) [(0, .ref (aD g 21)), (1, .ref (aD g 1))] 32 [] := by
    intro o2 c2  hor hsm ho2 hc2
    refine z_aload_n 33 K dX2_save_32 rfl rfl 0 rfl ?_
    refine z_get 36 K hin_X2_save_X2 21 (by decide) (va_up_eq _ 21 _) rfl 0 (by decide) (by decide +kernel : Cond.fieldLink RX2 11 "BriefBuilder$History" "states" "[LBriefBuilder$State;" ∈ wsX2_save) (fun _ h9 => h9) rfl dX2_save_33 rfl ?_
    refine z_aload_n 37 K dX2_save_36 rfl rfl 0 rfl ?_
    refine z_get 40 K hin_X2_save_X2 21 (by decide) (va_up_eq _ 21 _) rfl 1 (by decide) (by decide +kernel : Cond.fieldLink RX2 17 "BriefBuilder$History" "oldest" "I" ∈ wsX2_save) (fun _ h9 => h9) rfl dX2_save_37 rfl ?_
    refine z_aload_n 41 K dX2_save_40 rfl rfl 0 rfl ?_
    refine z_get 44 K hin_X2_save_X2 21 (by decide) (va_up_eq _ 21 _) rfl 2 (by decide) (by decide +kernel : Cond.fieldLink RX2 21 "BriefBuilder$History" "count" "I" ∈ wsX2_save) (fun _ h9 => h9) rfl dX2_save_41 rfl ?_
    refine z_iadd 45 K dX2_save_44 rfl ?_
    refine z_top (c2 + o2) (by omega) ?_
    refine z_bipush 47 K dX2_save_45 rfl rfl ?_
    refine z_irem 48 K dX2_save_47 rfl (by omega) (by omega) ?_
    refine z_aald (f := (fun k => some (aD g (28 + 11 * k)))) (a := aD g sb) 49 K 22 (by decide) ((va_up_ne _ _ (by decide)).trans hHs) (by omega) (by omega) (by decide) (congrArg (fun x => some (aD g x)) (by omega)) dX2_save_48 rfl ?_
    refine z_aload_n 50 K dX2_save_49 rfl rfl 1 rfl ?_
    refine z_vVv (As := [.ref (aD g 1)]) (rest := []) 53 K sb hz_hB0 ((va_up_ne _ _ (by omega)).trans hB0) rfl rfl (m_X4_copyFrom l g _ sb 1 n1 n2 n3 f2 f3 f5 f6 f7 f9 f10 cnt nxt bp num pgs cc cn cp pn pm hz_hB0 ((va_up_ne _ _ (by omega)).trans hB0) hz_hB1 ((va_up_ne _ _ (by omega)).trans hB1) hz_hB2 ((va_up_ne _ _ (by omega)).trans hB2) hz_hB3 ((va_up_ne _ _ (by omega)).trans hB3) hz_hB4 ((va_up_ne _ _ (by omega)).trans hB4) hz_hB5 ((va_up_ne _ _ (by omega)).trans hB5) hz_hB6 ((va_up_ne _ _ (by omega)).trans hB6) hz_hB7 ((va_up_ne _ _ (by omega)).trans hB7) hz_hB8 ((va_up_ne _ _ (by omega)).trans hB8) hz_hB9 ((va_up_ne _ _ (by omega)).trans hB9) hz_hB10 ((va_up_ne _ _ (by omega)).trans hB10) (by decide) ((va_up_ne _ _ (by decide)).trans hC0) (by decide) ((va_up_ne _ _ (by decide)).trans hC1) (by decide) ((va_up_ne _ _ (by decide)).trans hC2) (by decide) ((va_up_ne _ _ (by decide)).trans hC3) (by decide) ((va_up_ne _ _ (by decide)).trans hC4) (by decide) ((va_up_ne _ _ (by decide)).trans hC5) (by decide) ((va_up_ne _ _ (by decide)).trans hC6) (by decide) ((va_up_ne _ _ (by decide)).trans hC7) (by decide) ((va_up_ne _ _ (by decide)).trans hC8) (by decide) ((va_up_ne _ _ (by decide)).trans hC9) (by decide) ((va_up_ne _ _ (by decide)).trans hC10) (by omega)) (cwV 1 K.1.2.2.2.2 gX2_save_X4_copyFrom rfl rfl rfl (by decide +kernel) ⟨Nat.le_of_ble_eq_true rfl, Nat.le_of_ble_eq_true rfl⟩) rfl (Nat.le_of_ble_eq_true rfl) dX2_save_50 rfl ⟨Nat.le_of_ble_eq_true rfl, Nat.le_of_ble_eq_true rfl⟩ rfl (fun C_3 hp_50 => ?_)
    refine z_C hp_50 ?_
    refine z_aload_n 54 K dX2_save_53 rfl rfl 0 rfl ?_
    refine z_dup 55 K dX2_save_54 rfl rfl ?_
    refine z_get 58 K hin_X2_save_X2 21 (by decide) ((va_up_ne _ _ (by omega)).trans ((va_up_ne _ _ (by omega)).trans ((va_up_ne _ _ (by omega)).trans ((va_up_ne _ _ (by omega)).trans ((va_up_ne _ _ (by omega)).trans ((va_up_ne _ _ (by omega)).trans ((va_up_ne _ _ (by omega)).trans ((va_up_ne _ _ (by omega)).trans (va_up_eq _ 21 _))))))))) rfl 2 (by decide) (by decide +kernel : Cond.fieldLink RX2 21 "BriefBuilder$History" "count" "I" ∈ wsX2_save) (fun _ h9 => h9) rfl dX2_save_55 rfl ?_
    refine z_iconst 59 K dX2_save_58 rfl ?_
    refine z_iadd 60 K dX2_save_59 rfl ?_
    refine z_put (ty := .int) 63 K hin_X2_save_X2 tyX2 tyX2_ok nmX2 21 (by decide) ((va_up_ne _ _ (by omega)).trans ((va_up_ne _ _ (by omega)).trans ((va_up_ne _ _ (by omega)).trans ((va_up_ne _ _ (by omega)).trans ((va_up_ne _ _ (by omega)).trans ((va_up_ne _ _ (by omega)).trans ((va_up_ne _ _ (by omega)).trans ((va_up_ne _ _ (by omega)).trans (va_up_eq _ 21 _))))))))) rfl 2 (by decide) (by decide +kernel : Cond.fieldLink RX2 21 "BriefBuilder$History" "count" "I" ∈ wsX2_save) (fun _ h9 => h9) rfl (by decide +kernel) rfl rfl (Nat.le_of_ble_eq_true rfl) dX2_save_60 rfl ?_
    show Z p l e (({ frames := 3, cells := 0, slots := 0, locals := 82 } : Room)) s m args below meth c (MQ below (zQv g (fun C' => C' = va_up (va_up (va_up (va_up (va_up (va_up (va_up (va_up (va_up C (sb + 2) (eI g 30 num)) (sb + 3) (eI g 30 pgs)) (sb + 1) (.inr (1, [.ref (aD g (sb + 2)), .ref (aD g (sb + 3)), .int (iZ cnt), .int (iZ nxt), .int (iZ bp)]))) (sb + 5) (eI g 12 cc)) (sb + 6) (eI g 72 cn)) (sb + 7) (eI g 72 cp)) (sb + 9) (eI g 12 pn)) (sb + 10) (eI g 72 pm)) 21 (.inr (2, [.ref (aD g 22), .int (iZ (if hc = 6 then (old + 1) % 6 else old)), .int (iZ (if hc = 6 then 6 else hc + 1))])))) args s 0 0 (zA g)) g _ _ _ (va_up (va_up (va_up (va_up (va_up (va_up (va_up (va_up (va_up (va_up C 21 (.inr (2, [.ref (aD g 22), .int (iZ o2), .int (iZ c2)]))) (sb + 2) (eI g 30 num)) (sb + 3) (eI g 30 pgs)) (sb + 1) (.inr (1, [.ref (aD g (sb + 2)), .ref (aD g (sb + 3)), .int (iZ cnt), .int (iZ nxt), .int (iZ bp)]))) (sb + 5) (eI g 12 cc)) (sb + 6) (eI g 72 cn)) (sb + 7) (eI g 72 cp)) (sb + 9) (eI g 12 pn)) (sb + 10) (eI g 72 pm)) 21 (.inr (2, [.ref (aD g 22), .int (iZ o2), .int (iZ (c2 + 1))]))) [(0, .ref (aD g 21)), (1, .ref (aD g 1))] 63 []
    refine z_C (va_uu8 (by omega) (by omega) (by omega) (by omega) (by omega) (by omega) (by omega) (by omega)) ?_
    exact z_vret K rfl dX2_save_63 (by rw [ho2, hc2])
  refine z_icmp_ne (tgt := 32) 9 K dX2_save_6 rfl (by decide) (by omega) (by decide) (fun c_6 => ?_) (fun c_6 => ?_)
  · skip
    refine z_C (va_us hHi).symm ?_
    exact join_32_j_1 old hc (by omega) (by omega) (by first | (have q9 : hc = 6 := (by omega); rw [if_pos q9]; done) | (have q9 : ¬ hc = 6 := (by omega); rw [if_neg q9]; done)) (by first | (have q9 : hc = 6 := (by omega); rw [if_pos q9]; omega) | (have q9 : ¬ hc = 6 := (by omega); rw [if_neg q9]; done))
  · skip
    refine z_aload_n 10 K dX2_save_9 rfl rfl 0 rfl ?_
    refine z_aload_n 11 K dX2_save_10 rfl rfl 0 rfl ?_
    refine z_get 14 K hin_X2_save_X2 21 (by decide) hHi rfl 1 (by decide) (by decide +kernel : Cond.fieldLink RX2 17 "BriefBuilder$History" "oldest" "I" ∈ wsX2_save) (fun _ h9 => h9) rfl dX2_save_11 rfl ?_
    refine z_iconst 15 K dX2_save_14 rfl ?_
    refine z_iadd 16 K dX2_save_15 rfl ?_
    refine z_bipush 18 K dX2_save_16 rfl rfl ?_
    refine z_irem 19 K dX2_save_18 rfl (by omega) (by omega) ?_
    refine z_put (ty := .int) 22 K hin_X2_save_X2 tyX2 tyX2_ok nmX2 21 (by decide) hHi rfl 1 (by decide) (by decide +kernel : Cond.fieldLink RX2 17 "BriefBuilder$History" "oldest" "I" ∈ wsX2_save) (fun _ h9 => h9) rfl (by decide +kernel) rfl rfl (Nat.le_of_ble_eq_true rfl) dX2_save_19 rfl ?_
    show Z p l e (({ frames := 3, cells := 0, slots := 0, locals := 82 } : Room)) s m args below meth c (MQ below (zQv g (fun C' => C' = va_up (va_up (va_up (va_up (va_up (va_up (va_up (va_up (va_up C (sb + 2) (eI g 30 num)) (sb + 3) (eI g 30 pgs)) (sb + 1) (.inr (1, [.ref (aD g (sb + 2)), .ref (aD g (sb + 3)), .int (iZ cnt), .int (iZ nxt), .int (iZ bp)]))) (sb + 5) (eI g 12 cc)) (sb + 6) (eI g 72 cn)) (sb + 7) (eI g 72 cp)) (sb + 9) (eI g 12 pn)) (sb + 10) (eI g 72 pm)) 21 (.inr (2, [.ref (aD g 22), .int (iZ (if hc = 6 then (old + 1) % 6 else old)), .int (iZ (if hc = 6 then 6 else hc + 1))])))) args s 0 0 (zA g)) g _ _ _ (va_up C 21 (.inr (2, [.ref (aD g 22), .int (iZ ((old + 1) % 6)), .int (iZ hc)]))) [(0, .ref (aD g 21)), (1, .ref (aD g 1))] 22 []
    refine z_aload_n 23 K dX2_save_22 rfl rfl 0 rfl ?_
    refine z_dup 24 K dX2_save_23 rfl rfl ?_
    refine z_get 27 K hin_X2_save_X2 21 (by decide) (va_up_eq _ 21 _) rfl 2 (by decide) (by decide +kernel : Cond.fieldLink RX2 21 "BriefBuilder$History" "count" "I" ∈ wsX2_save) (fun _ h9 => h9) rfl dX2_save_24 rfl ?_
    refine z_iconst 28 K dX2_save_27 rfl ?_
    refine z_isub 29 K dX2_save_28 rfl ?_
    refine z_put (ty := .int) 32 K hin_X2_save_X2 tyX2 tyX2_ok nmX2 21 (by decide) (va_up_eq _ 21 _) rfl 2 (by decide) (by decide +kernel : Cond.fieldLink RX2 21 "BriefBuilder$History" "count" "I" ∈ wsX2_save) (fun _ h9 => h9) rfl (by decide +kernel) rfl rfl (Nat.le_of_ble_eq_true rfl) dX2_save_29 rfl ?_
    show Z p l e (({ frames := 3, cells := 0, slots := 0, locals := 82 } : Room)) s m args below meth c (MQ below (zQv g (fun C' => C' = va_up (va_up (va_up (va_up (va_up (va_up (va_up (va_up (va_up C (sb + 2) (eI g 30 num)) (sb + 3) (eI g 30 pgs)) (sb + 1) (.inr (1, [.ref (aD g (sb + 2)), .ref (aD g (sb + 3)), .int (iZ cnt), .int (iZ nxt), .int (iZ bp)]))) (sb + 5) (eI g 12 cc)) (sb + 6) (eI g 72 cn)) (sb + 7) (eI g 72 cp)) (sb + 9) (eI g 12 pn)) (sb + 10) (eI g 72 pm)) 21 (.inr (2, [.ref (aD g 22), .int (iZ (if hc = 6 then (old + 1) % 6 else old)), .int (iZ (if hc = 6 then 6 else hc + 1))])))) args s 0 0 (zA g)) g _ _ _ (va_up (va_up C 21 (.inr (2, [.ref (aD g 22), .int (iZ ((old + 1) % 6)), .int (iZ hc)]))) 21 (.inr (2, [.ref (aD g 22), .int (iZ ((old + 1) % 6)), .int (iZ (hc - 1))]))) [(0, .ref (aD g 21)), (1, .ref (aD g 1))] 32 []
    refine z_C (va_uu _ _ _ _) ?_
    exact join_32_j_1 ((old + 1) % 6) (hc - 1) (by omega) (by omega) (by first | (have q9 : hc = 6 := (by omega); rw [if_pos q9]; done) | (have q9 : ¬ hc = 6 := (by omega); rw [if_neg q9]; done)) (by first | (have q9 : hc = 6 := (by omega); rw [if_pos q9]; omega) | (have q9 : ¬ hc = 6 := (by omega); rw [if_neg q9]; done))
set_option maxRecDepth 20000 in
theorem hin_X2_restore_X2 : ∀ w ∈ wsX20, w ∈ wsX2_restore := by decide +kernel
set_option maxHeartbeats 4000000 in
set_option maxRecDepth 100000 in
theorem m_X2_restore (l : Launch) (g : zG) (C : Nat → va_E) (old : Int) (hc : Int) (sb : Nat) (n1 : Int) (n2 : Int) (n3 : Int) (f2 : Int → Int) (f3 : Int → Int) (f5 : Int → Int) (f6 : Int → Int) (f7 : Int → Int) (f9 : Int → Int) (f10 : Int → Int) (cnt : Int) (nxt : Int) (bp : Int) (num : Int → Int) (pgs : Int → Int) (cc : Int → Int) (cn : Int → Int) (cp : Int → Int) (pn : Int → Int) (pm : Int → Int) (hHi : C 21 = .inr (2, [.ref (aD g 22), .int (iZ old), .int (iZ hc)])) (hHs : C 22 = eS g 6 (fun k => some (aD g (28 + 11 * k)))) (hz_hB0 : sb < zN) (hB0 : C sb = .inr (4, [.ref (aD g (sb + 1)), .ref (aD g (sb + 4)), .ref (aD g (sb + 8))])) (hz_hB1 : sb + 1 < zN) (hB1 : C (sb + 1) = .inr (1, [.ref (aD g (sb + 2)), .ref (aD g (sb + 3)), .int (iZ n1), .int (iZ n2), .int (iZ n3)])) (hz_hB2 : sb + 2 < zN) (hB2 : C (sb + 2) = eI g 30 f2) (hz_hB3 : sb + 3 < zN) (hB3 : C (sb + 3) = eI g 30 f3) (hz_hB4 : sb + 4 < zN) (hB4 : C (sb + 4) = .inr (0, [.ref (aD g (sb + 5)), .ref (aD g (sb + 6)), .ref (aD g (sb + 7))])) (hz_hB5 : sb + 5 < zN) (hB5 : C (sb + 5) = eI g 12 f5) (hz_hB6 : sb + 6 < zN) (hB6 : C (sb + 6) = eI g 72 f6) (hz_hB7 : sb + 7 < zN) (hB7 : C (sb + 7) = eI g 72 f7) (hz_hB8 : sb + 8 < zN) (hB8 : C (sb + 8) = .inr (3, [.ref (aD g (sb + 9)), .ref (aD g (sb + 10))])) (hz_hB9 : sb + 9 < zN) (hB9 : C (sb + 9) = eI g 12 f9) (hz_hB10 : sb + 10 < zN) (hB10 : C (sb + 10) = eI g 72 f10) (hC0 : C 1 = .inr (4, [.ref (aD g 2), .ref (aD g 5), .ref (aD g 9)])) (hC1 : C 2 = .inr (1, [.ref (aD g 3), .ref (aD g 4), .int (iZ cnt), .int (iZ nxt), .int (iZ bp)])) (hC2 : C 3 = eI g 30 num) (hC3 : C 4 = eI g 30 pgs) (hC4 : C 5 = .inr (0, [.ref (aD g 6), .ref (aD g 7), .ref (aD g 8)])) (hC5 : C 6 = eI g 12 cc) (hC6 : C 7 = eI g 72 cn) (hC7 : C 8 = eI g 72 cp) (hC8 : C 9 = .inr (3, [.ref (aD g 10), .ref (aD g 11)])) (hC9 : C 10 = eI g 12 pn) (hC10 : C 11 = eI g 72 pm) (hoc : 0 ≤ old ∧ old ≤ 5 ∧ 1 ≤ hc ∧ hc ≤ 6) (hsl : (sb : Int) = 28 + 11 * ((old + hc - 1) % 6)) : Met l yX2_restore wsX2_restore ({ frames := 3, cells := 0, slots := 0, locals := 82 } : Room) (zPre g C [.ref (aD g 21), .ref (aD g 1)]) (zQv g (fun C' => C' = va_up (va_up (va_up (va_up (va_up (va_up (va_up (va_up (va_up C 21 (.inr (2, [.ref (aD g 22), .int (iZ old), .int (iZ (hc - 1))]))) 3 (eI g 30 f2)) 4 (eI g 30 f3)) 2 (.inr (1, [.ref (aD g 3), .ref (aD g 4), .int (iZ n1), .int (iZ n2), .int (iZ n3)]))) 6 (eI g 12 f5)) 7 (eI g 72 f6)) 8 (eI g 72 f7)) 10 (eI g 12 f9)) 11 (eI g 72 f10))) 0 0 (zA g) := by
  refine z_enter RX2 rfl (by decide) rfl (Nat.le_of_ble_eq_true rfl) ?_
  intro p e s m args below meth c K harg
  refine z_sub (lv' := [(0, .ref (aD g 21)), (1, .ref (aD g 1))]) [0, 1] rfl ?_
  refine z_aload_n 1 K dX2_restore_0 rfl rfl 0 rfl ?_
  refine z_dup 2 K dX2_restore_1 rfl rfl ?_
  refine z_get 5 K hin_X2_restore_X2 21 (by decide) hHi rfl 2 (by decide) (by decide +kernel : Cond.fieldLink RX2 21 "BriefBuilder$History" "count" "I" ∈ wsX2_restore) (fun _ h9 => h9) rfl dX2_restore_2 rfl ?_
  refine z_iconst 6 K dX2_restore_5 rfl ?_
  refine z_isub 7 K dX2_restore_6 rfl ?_
  refine z_put (ty := .int) 10 K hin_X2_restore_X2 tyX2 tyX2_ok nmX2 21 (by decide) hHi rfl 2 (by decide) (by decide +kernel : Cond.fieldLink RX2 21 "BriefBuilder$History" "count" "I" ∈ wsX2_restore) (fun _ h9 => h9) rfl (by decide +kernel) rfl rfl (Nat.le_of_ble_eq_true rfl) dX2_restore_7 rfl ?_
  show Z p l e (({ frames := 3, cells := 0, slots := 0, locals := 82 } : Room)) s m args below meth c (MQ below (zQv g (fun C' => C' = va_up (va_up (va_up (va_up (va_up (va_up (va_up (va_up (va_up C 21 (.inr (2, [.ref (aD g 22), .int (iZ old), .int (iZ (hc - 1))]))) 3 (eI g 30 f2)) 4 (eI g 30 f3)) 2 (.inr (1, [.ref (aD g 3), .ref (aD g 4), .int (iZ n1), .int (iZ n2), .int (iZ n3)]))) 6 (eI g 12 f5)) 7 (eI g 72 f6)) 8 (eI g 72 f7)) 10 (eI g 12 f9)) 11 (eI g 72 f10))) args s 0 0 (zA g)) g _ _ _ (va_up C 21 (.inr (2, [.ref (aD g 22), .int (iZ old), .int (iZ (hc - 1))]))) [(0, .ref (aD g 21)), (1, .ref (aD g 1))] 10 []
  refine z_aload_n 11 K dX2_restore_10 rfl rfl 1 rfl ?_
  refine z_aload_n 12 K dX2_restore_11 rfl rfl 0 rfl ?_
  refine z_get 15 K hin_X2_restore_X2 21 (by decide) (va_up_eq _ 21 _) rfl 0 (by decide) (by decide +kernel : Cond.fieldLink RX2 11 "BriefBuilder$History" "states" "[LBriefBuilder$State;" ∈ wsX2_restore) (fun _ h9 => h9) rfl dX2_restore_12 rfl ?_
  refine z_aload_n 16 K dX2_restore_15 rfl rfl 0 rfl ?_
  refine z_get 19 K hin_X2_restore_X2 21 (by decide) (va_up_eq _ 21 _) rfl 1 (by decide) (by decide +kernel : Cond.fieldLink RX2 17 "BriefBuilder$History" "oldest" "I" ∈ wsX2_restore) (fun _ h9 => h9) rfl dX2_restore_16 rfl ?_
  refine z_aload_n 20 K dX2_restore_19 rfl rfl 0 rfl ?_
  refine z_get 23 K hin_X2_restore_X2 21 (by decide) (va_up_eq _ 21 _) rfl 2 (by decide) (by decide +kernel : Cond.fieldLink RX2 21 "BriefBuilder$History" "count" "I" ∈ wsX2_restore) (fun _ h9 => h9) rfl dX2_restore_20 rfl ?_
  refine z_iadd 24 K dX2_restore_23 rfl ?_
  refine z_top (hc + old - 1) (by omega) ?_
  refine z_bipush 26 K dX2_restore_24 rfl rfl ?_
  refine z_irem 27 K dX2_restore_26 rfl (by omega) (by omega) ?_
  refine z_aald (f := (fun k => some (aD g (28 + 11 * k)))) (a := aD g sb) 28 K 22 (by decide) ((va_up_ne _ _ (by decide)).trans hHs) (by omega) (by omega) (by decide) (congrArg (fun x => some (aD g x)) (by omega)) dX2_restore_27 rfl ?_
  refine z_vVv (As := [.ref (aD g sb)]) (rest := []) 31 K 1 (by decide) ((va_up_ne _ _ (by decide)).trans hC0) rfl rfl (m_X4_copyFrom l g _ 1 sb cnt nxt bp num pgs cc cn cp pn pm n1 n2 n3 f2 f3 f5 f6 f7 f9 f10 (by decide) ((va_up_ne _ _ (by decide)).trans hC0) (by decide) ((va_up_ne _ _ (by decide)).trans hC1) (by decide) ((va_up_ne _ _ (by decide)).trans hC2) (by decide) ((va_up_ne _ _ (by decide)).trans hC3) (by decide) ((va_up_ne _ _ (by decide)).trans hC4) (by decide) ((va_up_ne _ _ (by decide)).trans hC5) (by decide) ((va_up_ne _ _ (by decide)).trans hC6) (by decide) ((va_up_ne _ _ (by decide)).trans hC7) (by decide) ((va_up_ne _ _ (by decide)).trans hC8) (by decide) ((va_up_ne _ _ (by decide)).trans hC9) (by decide) ((va_up_ne _ _ (by decide)).trans hC10) hz_hB0 ((va_up_ne _ _ (by omega)).trans hB0) hz_hB1 ((va_up_ne _ _ (by omega)).trans hB1) hz_hB2 ((va_up_ne _ _ (by omega)).trans hB2) hz_hB3 ((va_up_ne _ _ (by omega)).trans hB3) hz_hB4 ((va_up_ne _ _ (by omega)).trans hB4) hz_hB5 ((va_up_ne _ _ (by omega)).trans hB5) hz_hB6 ((va_up_ne _ _ (by omega)).trans hB6) hz_hB7 ((va_up_ne _ _ (by omega)).trans hB7) hz_hB8 ((va_up_ne _ _ (by omega)).trans hB8) hz_hB9 ((va_up_ne _ _ (by omega)).trans hB9) hz_hB10 ((va_up_ne _ _ (by omega)).trans hB10) (by omega)) (cwV 1 K.1.2.2.2.2 gX2_restore_X4_copyFrom rfl rfl rfl (by decide +kernel) ⟨Nat.le_of_ble_eq_true rfl, Nat.le_of_ble_eq_true rfl⟩) rfl (Nat.le_of_ble_eq_true rfl) dX2_restore_28 rfl ⟨Nat.le_of_ble_eq_true rfl, Nat.le_of_ble_eq_true rfl⟩ rfl (fun C_2 hp_28 => ?_)
  refine z_C hp_28 ?_
  exact z_vret K rfl dX2_restore_31 rfl
end ZIH
