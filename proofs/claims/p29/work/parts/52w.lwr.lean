/-! p29: the law's wrappers -/
section ZLW
set_option maxHeartbeats 4000000 in
set_option maxRecDepth 100000 in
theorem a_L_insert (l : Launch) (g : zG) (C : Nat → va_E) (p0 : Int) (y : Int) (f : Int → Int) (past : Int → Int) (tx : Int → Int) (k : Int) (ty : Int) (cap : Int) (hI : IW g C f k past ty tx) (hP : PW cap f k past ty tx) (h_p0 : -2147483648 ≤ p0 ∧ p0 < 2147483648) (h_y : -2147483648 ≤ y ∧ y < 2147483648) (hk9 : kIns f p0 y = 0) : Met l yL_insert wsL_insert ({ frames := 8, cells := 3, slots := 18, locals := 127 } : Room) (zPre2 g C [.ref (aD g 0), .int (iZ p0), .int (iZ y)]) (zQi g (fun z C' => IW g C' (mCome f p0 y) (mKp k + 1) (mSav f past k) ty tx ∧ z = f 2)) 3 18 (zA g) := by
  refine z_enterT RL rfl (by decide) rfl (Nat.le_of_ble_eq_true rfl) ?_
  intro p e s m args below meth c K harg hTab hNc
  refine z_sub (lv' := [(0, .ref (aD g 0)), (1, .int (iZ p0)), (2, .int (iZ y))]) [0, 1, 2] rfl ?_
  have hI0 := hI
  obtain ⟨⟨gMa, -⟩, -, -, -, -, -⟩ := id hI
  refine z_aload_n 1 K dL_insert_0 rfl rfl 0 rfl ?_
  refine z_iload_n 2 K dL_insert_1 rfl rfl 1 rfl ?_
  refine z_iload_n 3 K dL_insert_2 rfl rfl 2 rfl ?_
  refine z_vVi (As := [.int (iZ p0), .int (iZ y)]) (rest := []) 6 K 0 (by decide) gMa rfl rfl (a_X8_insert l g _ p0 y _ _ _ _ _ _ hI0 hP (by omega) (by omega) hk9) (cwV 2 K.1.2.2.2.2 gL_insert_X8_insert rfl rfl rfl (by decide +kernel) ⟨Nat.le_of_ble_eq_true rfl, Nat.le_of_ble_eq_true rfl⟩) rfl (Nat.le_of_ble_eq_true rfl) dL_insert_3 rfl ⟨Nat.le_of_ble_eq_true rfl, Nat.le_of_ble_eq_true rfl⟩ rfl (fun z_1 C_2 hp_3 => ?_)
  obtain ⟨hIn_3, hsm_3, hz_3⟩ := hp_3
  refine z_top (f 2) hz_3 ?_
  refine z_wid (kc' := 3) (ks' := 18) (by decide) (by decide) ?_
  exact z_iret K rfl dL_insert_6 ⟨hIn_3, rfl⟩
set_option maxHeartbeats 4000000 in
set_option maxRecDepth 100000 in
theorem x_L_insert (l : Launch) (g : zG) (C : Nat → va_E) (p0 : Int) (y : Int) (f : Int → Int) (past : Int → Int) (tx : Int → Int) (k : Int) (ty : Int) (cap : Int) (hI : IW g C f k past ty tx) (hP : PW cap f k past ty tx) (h_p0 : -2147483648 ≤ p0 ∧ p0 < 2147483648) (h_y : -2147483648 ≤ y ∧ y < 2147483648) (hkx : kIns f p0 y = 0 ∨ kIns f p0 y = 3) (hk9 : kIns f p0 y ≠ 0) (hlt : l.stackTraces = false) : Met l yL_insert wsL_insert ({ frames := 8, cells := 3, slots := 18, locals := 127 } : Room) (zPre2 g C [.ref (aD g 0), .int (iZ p0), .int (iZ y)]) (zQi g (fun z C' => IW g C' f k past ty tx ∧ z = (-3))) 3 18 (zA g) := by
  refine z_enterT RL rfl (by decide) rfl (Nat.le_of_ble_eq_true rfl) ?_
  intro p e s m args below meth c K harg hTab hNc
  refine z_sub (lv' := [(0, .ref (aD g 0)), (1, .int (iZ p0)), (2, .int (iZ y))]) [0, 1, 2] rfl ?_
  have hI0 := hI
  obtain ⟨⟨gMa, -⟩, -, -, -, -, -⟩ := id hI
  refine z_aload_n 1 K dL_insert_0 rfl rfl 0 rfl ?_
  refine z_iload_n 2 K dL_insert_1 rfl rfl 1 rfl ?_
  refine z_iload_n 3 K dL_insert_2 rfl rfl 2 rfl ?_
  refine z_xVi (As := [.int (iZ p0), .int (iZ y)]) (rest := []) 6 K 0 (by decide) gMa rfl rfl (x_X8_insert l g _ p0 y _ _ _ _ _ _ hI0 hP (by omega) (by omega) hk9 hlt) (cwV 2 K.1.2.2.2.2 gL_insert_X8_insert rfl rfl rfl (by decide +kernel) ⟨Nat.le_of_ble_eq_true rfl, Nat.le_of_ble_eq_true rfl⟩) rfl (Nat.le_of_ble_eq_true rfl) dL_insert_3 rfl ⟨Nat.le_of_ble_eq_true rfl, Nat.le_of_ble_eq_true rfl⟩ rfl (fun E9 C9 hx9 => ?_) (fun z_1 C_2 hp_3 => ?_)
  · skip
    obtain ⟨hIx, hsx, hdx⟩ := hx9
    rcases hdx with ⟨rfl, hd0⟩ | ⟨rfl, hd1⟩ | ⟨rfl, hd2⟩
    · exact absurd hd0 (by omega)
    · exact absurd hd1 (by omega)
    · refine z_catch K hNc [] ⟨0, 6, 7, 15⟩ [] hTab (fun z hz => nomatch hz) (by decide) (by decide) (by decide +kernel) (by decide) (n := 7) rfl (fun q9 => ?_)
      refine z_astore_n (lv' := [(3, .ref q9), (0, .ref (aD g 0)), (1, .int (iZ p0)), (2, .int (iZ y))]) 8 K dL_insert_7 rfl rfl (by decide) rfl ?_
      refine z_bipush 10 K dL_insert_8 rfl rfl ?_
      refine z_wid (kc' := 3) (ks' := 18) (by decide) (by decide) ?_
      exact z_iret K rfl dL_insert_10 ⟨hIx, rfl⟩
  exact hp_3.elim
set_option maxRecDepth 100000 in
theorem w_L_insert (l : Launch) (g : zG) (C : Nat → va_E) (p0 : Int) (y : Int) (f : Int → Int) (past : Int → Int) (tx : Int → Int) (k : Int) (ty : Int) (cap : Int) (hI : IW g C f k past ty tx) (hP : PW cap f k past ty tx) (h_p0 : -2147483648 ≤ p0 ∧ p0 < 2147483648) (h_y : -2147483648 ≤ y ∧ y < 2147483648) (hkx : kIns f p0 y = 0 ∨ kIns f p0 y = 3) (hlt : l.stackTraces = false) : Met l yL_insert wsL_insert ({ frames := 8, cells := 3, slots := 18, locals := 127 } : Room) (zPre2 g C [.ref (aD g 0), .int (iZ p0), .int (iZ y)]) (zQi g (fun z C' => IW g C' (if kIns f p0 y = 0 then mCome f p0 y else f) (if kIns f p0 y = 0 then mKp k + 1 else k) (if kIns f p0 y = 0 then mSav f past k else past) ty tx ∧ z = (if kIns f p0 y = 0 then f 2 else (-3)))) 3 18 (zA g) := by
  by_cases hk : kIns f p0 y = 0
  · refine z_monI2 (a_L_insert l g C p0 y f past tx k ty cap hI hP h_p0 h_y hk) (fun z C' h => ?_)
    rw [if_pos hk, if_pos hk, if_pos hk, if_pos hk]
    exact h
  · refine z_monI2 (x_L_insert l g C p0 y f past tx k ty cap hI hP h_p0 h_y hkx hk hlt) (fun z C' h => ?_)
    rw [if_neg hk, if_neg hk, if_neg hk, if_neg hk]
    exact h
set_option maxHeartbeats 4000000 in
set_option maxRecDepth 100000 in
theorem a_L_join (l : Launch) (g : zG) (C : Nat → va_E) (p0 : Int) (f : Int → Int) (past : Int → Int) (tx : Int → Int) (k : Int) (ty : Int) (cap : Int) (hI : IW g C f k past ty tx) (hP : PW cap f k past ty tx) (h_p0 : -2147483648 ≤ p0 ∧ p0 < 2147483648) (hk9 : kJoi f p0 = 0) : Met l yL_join wsL_join ({ frames := 8, cells := 2, slots := 12, locals := 127 } : Room) (zPre2 g C [.ref (aD g 0), .int (iZ p0)]) (zQi g (fun z C' => IW g C' (mJoin f p0) (mKp k + 1) (mSav f past k) ty tx ∧ z = f (2 * p0 + 4) + f (2 * p0 + 6))) 2 12 (zA g) := by
  refine z_enterT RL rfl (by decide) rfl (Nat.le_of_ble_eq_true rfl) ?_
  intro p e s m args below meth c K harg hTab hNc
  refine z_sub (lv' := [(0, .ref (aD g 0)), (1, .int (iZ p0))]) [0, 1] rfl ?_
  have hI0 := hI
  obtain ⟨⟨gMa, -⟩, -, -, -, -, -⟩ := id hI
  refine z_aload_n 1 K dL_join_0 rfl rfl 0 rfl ?_
  refine z_iload_n 2 K dL_join_1 rfl rfl 1 rfl ?_
  refine z_vVi (As := [.int (iZ p0)]) (rest := []) 5 K 0 (by decide) gMa rfl rfl (a_X8_join l g _ p0 _ _ _ _ _ _ hI0 hP (by omega) hk9) (cwV 1 K.1.2.2.2.2 gL_join_X8_join rfl rfl rfl (by decide +kernel) ⟨Nat.le_of_ble_eq_true rfl, Nat.le_of_ble_eq_true rfl⟩) rfl (Nat.le_of_ble_eq_true rfl) dL_join_2 rfl ⟨Nat.le_of_ble_eq_true rfl, Nat.le_of_ble_eq_true rfl⟩ rfl (fun z_1 C_2 hp_2 => ?_)
  obtain ⟨hIn_2, hsm_2, hz_2⟩ := hp_2
  refine z_top (f (2 * p0 + 4) + f (2 * p0 + 6)) hz_2 ?_
  refine z_wid (kc' := 2) (ks' := 12) (by decide) (by decide) ?_
  exact z_iret K rfl dL_join_5 ⟨hIn_2, rfl⟩
set_option maxHeartbeats 4000000 in
set_option maxRecDepth 100000 in
theorem x_L_join (l : Launch) (g : zG) (C : Nat → va_E) (p0 : Int) (f : Int → Int) (past : Int → Int) (tx : Int → Int) (k : Int) (ty : Int) (cap : Int) (hI : IW g C f k past ty tx) (hP : PW cap f k past ty tx) (h_p0 : -2147483648 ≤ p0 ∧ p0 < 2147483648) (hkx : kJoi f p0 = 0 ∨ kJoi f p0 = 1 ∨ kJoi f p0 = 2) (hk9 : kJoi f p0 ≠ 0) (hlt : l.stackTraces = false) : Met l yL_join wsL_join ({ frames := 8, cells := 2, slots := 12, locals := 127 } : Room) (zPre2 g C [.ref (aD g 0), .int (iZ p0)]) (zQi g (fun z C' => IW g C' f k past ty tx ∧ z = (if kJoi f p0 = 1 then -1 else -3))) 2 12 (zA g) := by
  refine z_enterT RL rfl (by decide) rfl (Nat.le_of_ble_eq_true rfl) ?_
  intro p e s m args below meth c K harg hTab hNc
  refine z_sub (lv' := [(0, .ref (aD g 0)), (1, .int (iZ p0))]) [0, 1] rfl ?_
  have hI0 := hI
  obtain ⟨⟨gMa, -⟩, -, -, -, -, -⟩ := id hI
  refine z_aload_n 1 K dL_join_0 rfl rfl 0 rfl ?_
  refine z_iload_n 2 K dL_join_1 rfl rfl 1 rfl ?_
  refine z_xVi (As := [.int (iZ p0)]) (rest := []) 5 K 0 (by decide) gMa rfl rfl (x_X8_join l g _ p0 _ _ _ _ _ _ hI0 hP (by omega) hk9 hlt) (cwV 1 K.1.2.2.2.2 gL_join_X8_join rfl rfl rfl (by decide +kernel) ⟨Nat.le_of_ble_eq_true rfl, Nat.le_of_ble_eq_true rfl⟩) rfl (Nat.le_of_ble_eq_true rfl) dL_join_2 rfl ⟨Nat.le_of_ble_eq_true rfl, Nat.le_of_ble_eq_true rfl⟩ rfl (fun E9 C9 hx9 => ?_) (fun z_1 C_2 hp_2 => ?_)
  · skip
    obtain ⟨hIx, hsx, hdx⟩ := hx9
    rcases hdx with ⟨rfl, hd0⟩ | ⟨rfl, hd1⟩
    · refine z_catch K hNc [] ⟨0, 5, 6, 21⟩ [⟨0, 5, 9, 15⟩] hTab (fun z hz => nomatch hz) (by decide) (by decide) (by decide +kernel) (by decide) (n := 6) rfl (fun q9 => ?_)
      refine z_astore_n (lv' := [(2, .ref q9), (0, .ref (aD g 0)), (1, .int (iZ p0))]) 7 K dL_join_6 rfl rfl (by decide) rfl ?_
      refine z_iconst 8 K dL_join_7 rfl ?_
      refine z_wid (kc' := 2) (ks' := 12) (by decide) (by decide) ?_
      exact z_iret K rfl dL_join_8 ⟨hIx, by rw [if_pos (by omega)]⟩
    · refine z_catch K hNc [⟨0, 5, 6, 21⟩] ⟨0, 5, 9, 15⟩ [] hTab (List.forall_mem_cons.mpr ⟨⟨by decide, _, (by decide +kernel : Cond.classLink RL 21 "java/lang/IndexOutOfBoundsException" ∈ wsL_join), by decide⟩, fun z hz => nomatch hz⟩) (by decide) (by decide) (by decide +kernel) (by decide) (n := 9) rfl (fun q9 => ?_)
      refine z_astore_n (lv' := [(2, .ref q9), (0, .ref (aD g 0)), (1, .int (iZ p0))]) 10 K dL_join_9 rfl rfl (by decide) rfl ?_
      refine z_bipush 12 K dL_join_10 rfl rfl ?_
      refine z_wid (kc' := 2) (ks' := 12) (by decide) (by decide) ?_
      exact z_iret K rfl dL_join_12 ⟨hIx, by rw [if_neg (by omega)]⟩
  exact hp_2.elim
set_option maxRecDepth 100000 in
theorem w_L_join (l : Launch) (g : zG) (C : Nat → va_E) (p0 : Int) (f : Int → Int) (past : Int → Int) (tx : Int → Int) (k : Int) (ty : Int) (cap : Int) (hI : IW g C f k past ty tx) (hP : PW cap f k past ty tx) (h_p0 : -2147483648 ≤ p0 ∧ p0 < 2147483648) (hkx : kJoi f p0 = 0 ∨ kJoi f p0 = 1 ∨ kJoi f p0 = 2) (hlt : l.stackTraces = false) : Met l yL_join wsL_join ({ frames := 8, cells := 2, slots := 12, locals := 127 } : Room) (zPre2 g C [.ref (aD g 0), .int (iZ p0)]) (zQi g (fun z C' => IW g C' (if kJoi f p0 = 0 then mJoin f p0 else f) (if kJoi f p0 = 0 then mKp k + 1 else k) (if kJoi f p0 = 0 then mSav f past k else past) ty tx ∧ z = (if kJoi f p0 = 0 then f (2 * p0 + 4) + f (2 * p0 + 6) else (if kJoi f p0 = 1 then -1 else -3)))) 2 12 (zA g) := by
  by_cases hk : kJoi f p0 = 0
  · refine z_monI2 (a_L_join l g C p0 f past tx k ty cap hI hP h_p0 hk) (fun z C' h => ?_)
    rw [if_pos hk, if_pos hk, if_pos hk, if_pos hk]
    exact h
  · refine z_monI2 (x_L_join l g C p0 f past tx k ty cap hI hP h_p0 hkx hk hlt) (fun z C' h => ?_)
    rw [if_neg hk, if_neg hk, if_neg hk, if_neg hk]
    exact h
set_option maxHeartbeats 4000000 in
set_option maxRecDepth 100000 in
theorem a_L_cite (l : Launch) (g : zG) (C : Nat → va_E) (a : Int) (p0 : Int) (y : Int) (f : Int → Int) (past : Int → Int) (tx : Int → Int) (k : Int) (ty : Int) (cap : Int) (hI : IW g C f k past ty tx) (hP : PW cap f k past ty tx) (h_a : -2147483648 ≤ a ∧ a < 2147483648) (h_p0 : -2147483648 ≤ p0 ∧ p0 < 2147483648) (h_y : -2147483648 ≤ y ∧ y < 2147483648) (hk9 : kCit f a p0 y = 0) : Met l yL_cite wsL_cite ({ frames := 8, cells := 4, slots := 24, locals := 127 } : Room) (zPre2 g C [.ref (aD g 0), .int (iZ a), .int (iZ p0), .int (iZ y)]) (zQi g (fun z C' => IW g C' (mName f a p0 y) (mKp k + 1) (mSav f past k) ty tx ∧ z = f (32 * a + 65) + 1)) 4 24 (zA g) := by
  refine z_enterT RL rfl (by decide) rfl (Nat.le_of_ble_eq_true rfl) ?_
  intro p e s m args below meth c K harg hTab hNc
  refine z_sub (lv' := [(0, .ref (aD g 0)), (1, .int (iZ a)), (2, .int (iZ p0)), (3, .int (iZ y))]) [0, 1, 2, 3] rfl ?_
  have hI0 := hI
  obtain ⟨⟨gMa, -⟩, -, -, -, -, -⟩ := id hI
  refine z_aload_n 1 K dL_cite_0 rfl rfl 0 rfl ?_
  refine z_iload_n 2 K dL_cite_1 rfl rfl 1 rfl ?_
  refine z_iload_n 3 K dL_cite_2 rfl rfl 2 rfl ?_
  refine z_iload_n 4 K dL_cite_3 rfl rfl 3 rfl ?_
  refine z_vVi (As := [.int (iZ a), .int (iZ p0), .int (iZ y)]) (rest := []) 7 K 0 (by decide) gMa rfl rfl (a_X8_cite l g _ a p0 y _ _ _ _ _ _ hI0 hP (by omega) (by omega) (by omega) hk9) (cwV 3 K.1.2.2.2.2 gL_cite_X8_cite rfl rfl rfl (by decide +kernel) ⟨Nat.le_of_ble_eq_true rfl, Nat.le_of_ble_eq_true rfl⟩) rfl (Nat.le_of_ble_eq_true rfl) dL_cite_4 rfl ⟨Nat.le_of_ble_eq_true rfl, Nat.le_of_ble_eq_true rfl⟩ rfl (fun z_1 C_2 hp_4 => ?_)
  obtain ⟨hIn_4, hsm_4, hz_4⟩ := hp_4
  refine z_top (f (32 * a + 65) + 1) hz_4 ?_
  refine z_wid (kc' := 4) (ks' := 24) (by decide) (by decide) ?_
  exact z_iret K rfl dL_cite_7 ⟨hIn_4, rfl⟩
set_option maxHeartbeats 4000000 in
set_option maxRecDepth 100000 in
theorem x_L_cite (l : Launch) (g : zG) (C : Nat → va_E) (a : Int) (p0 : Int) (y : Int) (f : Int → Int) (past : Int → Int) (tx : Int → Int) (k : Int) (ty : Int) (cap : Int) (hI : IW g C f k past ty tx) (hP : PW cap f k past ty tx) (h_a : -2147483648 ≤ a ∧ a < 2147483648) (h_p0 : -2147483648 ≤ p0 ∧ p0 < 2147483648) (h_y : -2147483648 ≤ y ∧ y < 2147483648) (hkx : kCit f a p0 y = 0 ∨ kCit f a p0 y = 3) (hk9 : kCit f a p0 y ≠ 0) (hlt : l.stackTraces = false) : Met l yL_cite wsL_cite ({ frames := 8, cells := 4, slots := 24, locals := 127 } : Room) (zPre2 g C [.ref (aD g 0), .int (iZ a), .int (iZ p0), .int (iZ y)]) (zQi g (fun z C' => IW g C' f k past ty tx ∧ z = (-3))) 4 24 (zA g) := by
  refine z_enterT RL rfl (by decide) rfl (Nat.le_of_ble_eq_true rfl) ?_
  intro p e s m args below meth c K harg hTab hNc
  refine z_sub (lv' := [(0, .ref (aD g 0)), (1, .int (iZ a)), (2, .int (iZ p0)), (3, .int (iZ y))]) [0, 1, 2, 3] rfl ?_
  have hI0 := hI
  obtain ⟨⟨gMa, -⟩, -, -, -, -, -⟩ := id hI
  refine z_aload_n 1 K dL_cite_0 rfl rfl 0 rfl ?_
  refine z_iload_n 2 K dL_cite_1 rfl rfl 1 rfl ?_
  refine z_iload_n 3 K dL_cite_2 rfl rfl 2 rfl ?_
  refine z_iload_n 4 K dL_cite_3 rfl rfl 3 rfl ?_
  refine z_xVi (As := [.int (iZ a), .int (iZ p0), .int (iZ y)]) (rest := []) 7 K 0 (by decide) gMa rfl rfl (x_X8_cite l g _ a p0 y _ _ _ _ _ _ hI0 hP (by omega) (by omega) (by omega) hk9 hlt) (cwV 3 K.1.2.2.2.2 gL_cite_X8_cite rfl rfl rfl (by decide +kernel) ⟨Nat.le_of_ble_eq_true rfl, Nat.le_of_ble_eq_true rfl⟩) rfl (Nat.le_of_ble_eq_true rfl) dL_cite_4 rfl ⟨Nat.le_of_ble_eq_true rfl, Nat.le_of_ble_eq_true rfl⟩ rfl (fun E9 C9 hx9 => ?_) (fun z_1 C_2 hp_4 => ?_)
  · skip
    obtain ⟨hIx, hsx, hdx⟩ := hx9
    rcases hdx with ⟨rfl, hd0⟩ | ⟨rfl, hd1⟩ | ⟨rfl, hd2⟩
    · exact absurd hd0 (by omega)
    · exact absurd hd1 (by omega)
    · refine z_catch K hNc [] ⟨0, 7, 8, 15⟩ [] hTab (fun z hz => nomatch hz) (by decide) (by decide) (by decide +kernel) (by decide) (n := 8) rfl (fun q9 => ?_)
      refine z_astore (lv' := [(4, .ref q9), (0, .ref (aD g 0)), (1, .int (iZ a)), (2, .int (iZ p0)), (3, .int (iZ y))]) 10 K dL_cite_8 rfl (by decide) rfl ?_
      refine z_bipush 12 K dL_cite_10 rfl rfl ?_
      refine z_wid (kc' := 4) (ks' := 24) (by decide) (by decide) ?_
      exact z_iret K rfl dL_cite_12 ⟨hIx, rfl⟩
  exact hp_4.elim
set_option maxRecDepth 100000 in
theorem w_L_cite (l : Launch) (g : zG) (C : Nat → va_E) (a : Int) (p0 : Int) (y : Int) (f : Int → Int) (past : Int → Int) (tx : Int → Int) (k : Int) (ty : Int) (cap : Int) (hI : IW g C f k past ty tx) (hP : PW cap f k past ty tx) (h_a : -2147483648 ≤ a ∧ a < 2147483648) (h_p0 : -2147483648 ≤ p0 ∧ p0 < 2147483648) (h_y : -2147483648 ≤ y ∧ y < 2147483648) (hkx : kCit f a p0 y = 0 ∨ kCit f a p0 y = 3) (hlt : l.stackTraces = false) : Met l yL_cite wsL_cite ({ frames := 8, cells := 4, slots := 24, locals := 127 } : Room) (zPre2 g C [.ref (aD g 0), .int (iZ a), .int (iZ p0), .int (iZ y)]) (zQi g (fun z C' => IW g C' (if kCit f a p0 y = 0 then mName f a p0 y else f) (if kCit f a p0 y = 0 then mKp k + 1 else k) (if kCit f a p0 y = 0 then mSav f past k else past) ty tx ∧ z = (if kCit f a p0 y = 0 then f (32 * a + 65) + 1 else (-3)))) 4 24 (zA g) := by
  by_cases hk : kCit f a p0 y = 0
  · refine z_monI2 (a_L_cite l g C a p0 y f past tx k ty cap hI hP h_a h_p0 h_y hk) (fun z C' h => ?_)
    rw [if_pos hk, if_pos hk, if_pos hk, if_pos hk]
    exact h
  · refine z_monI2 (x_L_cite l g C a p0 y f past tx k ty cap hI hP h_a h_p0 h_y hkx hk hlt) (fun z C' h => ?_)
    rw [if_neg hk, if_neg hk, if_neg hk, if_neg hk]
    exact h
set_option maxHeartbeats 4000000 in
set_option maxRecDepth 100000 in
theorem a_L_undo (l : Launch) (g : zG) (C : Nat → va_E) (f : Int → Int) (past : Int → Int) (tx : Int → Int) (k : Int) (ty : Int) (cap : Int) (hI : IW g C f k past ty tx) (hP : PW cap f k past ty tx) (hk9 : kUnd k = 0) : Met l yL_undo wsL_undo ({ frames := 7, cells := 1, slots := 6, locals := 123 } : Room) (zPre2 g C [.ref (aD g 0)]) (zQi g (fun z C' => IW g C' (mPast past (k - 1)) (k - 1) (past) ty tx ∧ z = k - 1)) 1 6 (zA g) := by
  refine z_enterT RL rfl (by decide) rfl (Nat.le_of_ble_eq_true rfl) ?_
  intro p e s m args below meth c K harg hTab hNc
  refine z_sub (lv' := [(0, .ref (aD g 0))]) [0] rfl ?_
  have hI0 := hI
  obtain ⟨⟨gMa, -⟩, -, -, -, -, -⟩ := id hI
  refine z_aload_n 1 K dL_undo_0 rfl rfl 0 rfl ?_
  refine z_vVi (As := []) (rest := []) 4 K 0 (by decide) gMa rfl rfl (a_X8_undo l g _ _ _ _ _ _ _ hI0 hP hk9) (cwV 0 K.1.2.2.2.2 gL_undo_X8_undo rfl rfl rfl (by decide +kernel) ⟨Nat.le_of_ble_eq_true rfl, Nat.le_of_ble_eq_true rfl⟩) rfl (Nat.le_of_ble_eq_true rfl) dL_undo_1 rfl ⟨Nat.le_of_ble_eq_true rfl, Nat.le_of_ble_eq_true rfl⟩ rfl (fun z_1 C_2 hp_1 => ?_)
  obtain ⟨hIn_1, hsm_1, hz_1⟩ := hp_1
  refine z_top (k - 1) hz_1 ?_
  refine z_wid (kc' := 1) (ks' := 6) (by decide) (by decide) ?_
  exact z_iret K rfl dL_undo_4 ⟨hIn_1, rfl⟩
set_option maxHeartbeats 4000000 in
set_option maxRecDepth 100000 in
theorem x_L_undo (l : Launch) (g : zG) (C : Nat → va_E) (f : Int → Int) (past : Int → Int) (tx : Int → Int) (k : Int) (ty : Int) (cap : Int) (hI : IW g C f k past ty tx) (hP : PW cap f k past ty tx) (hkx : kUnd k = 0 ∨ kUnd k = 1) (hk9 : kUnd k ≠ 0) (hlt : l.stackTraces = false) : Met l yL_undo wsL_undo ({ frames := 7, cells := 1, slots := 6, locals := 123 } : Room) (zPre2 g C [.ref (aD g 0)]) (zQi g (fun z C' => IW g C' f k past ty tx ∧ z = (-3))) 1 6 (zA g) := by
  refine z_enterT RL rfl (by decide) rfl (Nat.le_of_ble_eq_true rfl) ?_
  intro p e s m args below meth c K harg hTab hNc
  refine z_sub (lv' := [(0, .ref (aD g 0))]) [0] rfl ?_
  have hI0 := hI
  obtain ⟨⟨gMa, -⟩, -, -, -, -, -⟩ := id hI
  refine z_aload_n 1 K dL_undo_0 rfl rfl 0 rfl ?_
  refine z_xVi (As := []) (rest := []) 4 K 0 (by decide) gMa rfl rfl (x_X8_undo l g _ _ _ _ _ _ _ hI0 hP hk9 hlt) (cwV 0 K.1.2.2.2.2 gL_undo_X8_undo rfl rfl rfl (by decide +kernel) ⟨Nat.le_of_ble_eq_true rfl, Nat.le_of_ble_eq_true rfl⟩) rfl (Nat.le_of_ble_eq_true rfl) dL_undo_1 rfl ⟨Nat.le_of_ble_eq_true rfl, Nat.le_of_ble_eq_true rfl⟩ rfl (fun E9 C9 hx9 => ?_) (fun z_1 C_2 hp_1 => ?_)
  · skip
    obtain ⟨hIx, hsx, hdx⟩ := hx9
    rcases hdx with ⟨rfl, hd0⟩
    · refine z_catch K hNc [] ⟨0, 4, 5, 15⟩ [] hTab (fun z hz => nomatch hz) (by decide) (by decide) (by decide +kernel) (by decide) (n := 5) rfl (fun q9 => ?_)
      refine z_astore_n (lv' := [(1, .ref q9), (0, .ref (aD g 0))]) 6 K dL_undo_5 rfl rfl (by decide) rfl ?_
      refine z_bipush 8 K dL_undo_6 rfl rfl ?_
      refine z_wid (kc' := 1) (ks' := 6) (by decide) (by decide) ?_
      exact z_iret K rfl dL_undo_8 ⟨hIx, rfl⟩
  exact hp_1.elim
set_option maxRecDepth 100000 in
theorem w_L_undo (l : Launch) (g : zG) (C : Nat → va_E) (f : Int → Int) (past : Int → Int) (tx : Int → Int) (k : Int) (ty : Int) (cap : Int) (hI : IW g C f k past ty tx) (hP : PW cap f k past ty tx)  (hkx : kUnd k = 0 ∨ kUnd k = 1) (hlt : l.stackTraces = false) : Met l yL_undo wsL_undo ({ frames := 7, cells := 1, slots := 6, locals := 123 } : Room) (zPre2 g C [.ref (aD g 0)]) (zQi g (fun z C' => IW g C' (if kUnd k = 0 then mPast past (k - 1) else f) (if kUnd k = 0 then k - 1 else k) past ty tx ∧ z = (if kUnd k = 0 then k - 1 else (-3)))) 1 6 (zA g) := by
  by_cases hk : kUnd k = 0
  · refine z_monI2 (a_L_undo l g C f past tx k ty cap hI hP  hk) (fun z C' h => ?_)
    rw [if_pos hk, if_pos hk, if_pos hk]
    exact h
  · refine z_monI2 (x_L_undo l g C f past tx k ty cap hI hP  hkx hk hlt) (fun z C' h => ?_)
    rw [if_neg hk, if_neg hk, if_neg hk]
    exact h
end ZLW
