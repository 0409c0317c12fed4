/-! the law's wrappers -/
section ZLW1
theorem z_monI2 {l : Launch} {g : zG} {y : MethodName} {ws : List Cond} {rm : Room} {av : List Value} {C : Nat → va_E} {mc ms : Nat} {post post' : Int → (Nat → va_E) → Prop} (h : Met l y ws rm (zPre2 g C av) (zQi g post) mc ms (zA g)) (hp : ∀ z C', post z C' → post' z C') : Met l y ws rm (zPre2 g C av) (zQi g post') mc ms (zA g) :=
  Jvm.Free.MetFree.mono h (fun _ _ q => q) (fun _ _ _ _ _ q => q) (fun a s o t _ q => by
    obtain ⟨⟨⟨r, u, e1, ⟨z, e4, e2⟩, e3⟩, hF⟩, hL⟩ := q
    exact ⟨⟨⟨r, u, e1, ⟨z, e4, hp z u e2⟩, e3⟩, hF⟩, hL⟩)
set_option maxHeartbeats 4000000 in
set_option maxRecDepth 100000 in
theorem a_L_insert (l : Launch) (g : zG) (C : Nat → va_E) (p0 : Int) (y : Int) (o : Nat → Int64) (f : Int → Int) (past : Int → Int) (tx : Int → Int) (k : Int) (ty : Int) (cap : Int) (hOut : C 100 = eJ g 1 o) (hI : IW g C f k past ty tx) (hP : PW cap f k past ty tx) (h_p0 : -2147483648 ≤ p0 ∧ p0 < 2147483648) (h_y : -2147483648 ≤ y ∧ y < 2147483648) (hk9 : kIns f p0 y = 0) : Met l yL_insert wsL_insert ({ frames := 8, cells := 3, slots := 18, locals := 127 } : Room) (zPre2 g C [.ref (aD g 0), .int (iZ p0), .int (iZ y), .ref (aD g 100)]) (zQi g (fun z C' => IW g C' (mCome f p0 y) (mKp k + 1) (mSav f past k) (ty) (tx) ∧ (∀ q, 94 ≤ q → q ≠ 100 → C' q = C q) ∧ C' 100 = eJ g 1 (vp_updL o (Int.toNat 0) (iZ (f 2)).toInt64) ∧ z = 0)) 3 18 (zA g) := by
  refine z_enterT RL rfl (by decide) rfl (Nat.le_of_ble_eq_true rfl) ?_
  intro p e s m args below meth c K harg hTab hNc
  refine z_sub (lv' := [(0, .ref (aD g 0)), (1, .int (iZ p0)), (2, .int (iZ y)), (3, .ref (aD g 100))]) [0, 1, 2, 3] rfl ?_
  have hI0 := hI
  obtain ⟨⟨gMa, -⟩, -, -, -, -, -⟩ := id hI
  refine z_aload_n 1 K dL_insert_0 rfl rfl 3 rfl ?_
  refine z_iconst 2 K dL_insert_1 rfl ?_
  refine z_aload_n 3 K dL_insert_2 rfl rfl 0 rfl ?_
  refine z_iload_n 4 K dL_insert_3 rfl rfl 1 rfl ?_
  refine z_iload_n 5 K dL_insert_4 rfl rfl 2 rfl ?_
  refine z_vVi (As := [.int (iZ p0), .int (iZ y)]) (rest := [.int (iZ 0), .ref (aD g 100)]) 8 K 0 (by decide) gMa rfl rfl (a_X8_insert l g _ p0 y _ _ _ _ _ _ hI0 hP (by omega) (by omega) hk9) (cwV 2 K.1.2.2.2.2 gL_insert_X8_insert rfl rfl rfl (by decide +kernel) ⟨Nat.le_of_ble_eq_true rfl, Nat.le_of_ble_eq_true rfl⟩) rfl (Nat.le_of_ble_eq_true rfl) dL_insert_5 rfl ⟨Nat.le_of_ble_eq_true rfl, Nat.le_of_ble_eq_true rfl⟩ rfl (fun z_1 C_2 hp_5 => ?_)
  obtain ⟨hIn_5, hsm_5, hz_5⟩ := hp_5
  refine z_top (f 2) hz_5 ?_
  have hf_5_100 : C_2 100 = eJ g 1 o := (hsm_5 100 (by omega)).trans hOut
  refine z_i2l 9 K dL_insert_8 rfl ?_
  refine z_last (f := o) 10 K 100 (by decide) hf_5_100 (by decide) (by decide) (by decide) dL_insert_9 rfl ?_
  refine z_goto (tgt := 25) K dL_insert_10 (by decide) ?_
  refine z_iconst 26 K dL_insert_25 rfl ?_
  refine z_wid (kc' := 3) (ks' := 18) (by decide) (by decide) ?_
  exact z_iret K rfl dL_insert_26 ⟨IW_cong hIn_5 (fun q hq => ((va_up_ne _ _ (by omega)).trans rfl)), fun q hq hne => (((va_up_ne _ _ (by omega)).trans rfl)).trans (hsm_5 q hq), (va_up_eq _ 100 _), rfl⟩
set_option maxHeartbeats 4000000 in
set_option maxRecDepth 100000 in
theorem x_L_insert (l : Launch) (g : zG) (C : Nat → va_E) (p0 : Int) (y : Int) (o : Nat → Int64) (f : Int → Int) (past : Int → Int) (tx : Int → Int) (k : Int) (ty : Int) (cap : Int) (hOut : C 100 = eJ g 1 o) (hI : IW g C f k past ty tx) (hP : PW cap f k past ty tx) (h_p0 : -2147483648 ≤ p0 ∧ p0 < 2147483648) (h_y : -2147483648 ≤ y ∧ y < 2147483648) (hk9 : kIns f p0 y ≠ 0) (hlt : l.stackTraces = false) : Met l yL_insert wsL_insert ({ frames := 8, cells := 3, slots := 18, locals := 127 } : Room) (zPre2 g C [.ref (aD g 0), .int (iZ p0), .int (iZ y), .ref (aD g 100)]) (zQi g (fun z C' => IW g C' f k past ty tx ∧ (∀ q, 94 ≤ q → q ≠ 100 → C' q = C q) ∧ (∃ o2, C' 100 = eJ g 1 o2) ∧ z = kIns f p0 y)) 3 18 (zA g) := by
  refine z_enterT RL rfl (by decide) rfl (Nat.le_of_ble_eq_true rfl) ?_
  intro p e s m args below meth c K harg hTab hNc
  refine z_sub (lv' := [(0, .ref (aD g 0)), (1, .int (iZ p0)), (2, .int (iZ y)), (3, .ref (aD g 100))]) [0, 1, 2, 3] rfl ?_
  have hI0 := hI
  obtain ⟨⟨gMa, -⟩, -, -, -, -, -⟩ := id hI
  refine z_aload_n 1 K dL_insert_0 rfl rfl 3 rfl ?_
  refine z_iconst 2 K dL_insert_1 rfl ?_
  refine z_aload_n 3 K dL_insert_2 rfl rfl 0 rfl ?_
  refine z_iload_n 4 K dL_insert_3 rfl rfl 1 rfl ?_
  refine z_iload_n 5 K dL_insert_4 rfl rfl 2 rfl ?_
  refine z_xVi (As := [.int (iZ p0), .int (iZ y)]) (rest := [.int (iZ 0), .ref (aD g 100)]) 8 K 0 (by decide) gMa rfl rfl (x_X8_insert l g _ p0 y _ _ _ _ _ _ hI0 hP (by omega) (by omega) hk9 hlt) (cwV 2 K.1.2.2.2.2 gL_insert_X8_insert rfl rfl rfl (by decide +kernel) ⟨Nat.le_of_ble_eq_true rfl, Nat.le_of_ble_eq_true rfl⟩) rfl (Nat.le_of_ble_eq_true rfl) dL_insert_5 rfl ⟨Nat.le_of_ble_eq_true rfl, Nat.le_of_ble_eq_true rfl⟩ rfl (fun E9 C9 hx9 => ?_) (fun z_1 C_2 hp_5 => ?_)
  · skip
    obtain ⟨hIx, hsx, hdx⟩ := hx9
    rcases hdx with ⟨rfl, hd0⟩ | ⟨rfl, hd1⟩ | ⟨rfl, hd2⟩
    · refine z_catch K hNc [] ⟨0, 10, 13, 13⟩ [⟨0, 10, 17, 15⟩, ⟨0, 10, 21, 17⟩] hTab (fun z hz => nomatch hz) (by decide) (by decide) (by decide +kernel) (by decide) (n := 13) rfl (fun q9 => ?_)
      refine z_astore (lv' := [(4, .ref q9), (0, .ref (aD g 0)), (1, .int (iZ p0)), (2, .int (iZ y)), (3, .ref (aD g 100))]) 15 K dL_insert_13 rfl (by decide) rfl ?_
      refine z_iconst 16 K dL_insert_15 rfl ?_
      refine z_wid (kc' := 3) (ks' := 18) (by decide) (by decide) ?_
      exact z_iret K rfl dL_insert_16 ⟨hIx, fun q hq hne => hsx q hq, ⟨o, (hsx 100 (by omega)).trans hOut⟩, hd0.symm⟩
    · refine z_catch K hNc [⟨0, 10, 13, 13⟩] ⟨0, 10, 17, 15⟩ [⟨0, 10, 21, 17⟩] hTab (List.forall_mem_cons.mpr ⟨⟨by decide, _, (by decide +kernel : Cond.classLink RL 13 "java/lang/IndexOutOfBoundsException" ∈ wsL_insert), by decide⟩, fun z hz => nomatch hz⟩) (by decide) (by decide) (by decide +kernel) (by decide) (n := 17) rfl (fun q9 => ?_)
      refine z_astore (lv' := [(4, .ref q9), (0, .ref (aD g 0)), (1, .int (iZ p0)), (2, .int (iZ y)), (3, .ref (aD g 100))]) 19 K dL_insert_17 rfl (by decide) rfl ?_
      refine z_iconst 20 K dL_insert_19 rfl ?_
      refine z_wid (kc' := 3) (ks' := 18) (by decide) (by decide) ?_
      exact z_iret K rfl dL_insert_20 ⟨hIx, fun q hq hne => hsx q hq, ⟨o, (hsx 100 (by omega)).trans hOut⟩, hd1.symm⟩
    · refine z_catch K hNc [⟨0, 10, 13, 13⟩, ⟨0, 10, 17, 15⟩] ⟨0, 10, 21, 17⟩ [] hTab (List.forall_mem_cons.mpr ⟨⟨by decide, _, (by decide +kernel : Cond.classLink RL 13 "java/lang/IndexOutOfBoundsException" ∈ wsL_insert), by decide⟩, List.forall_mem_cons.mpr ⟨⟨by decide, _, (by decide +kernel : Cond.classLink RL 15 "java/lang/IllegalArgumentException" ∈ wsL_insert), by decide⟩, fun z hz => nomatch hz⟩⟩) (by decide) (by decide) (by decide +kernel) (by decide) (n := 21) rfl (fun q9 => ?_)
      refine z_astore (lv' := [(4, .ref q9), (0, .ref (aD g 0)), (1, .int (iZ p0)), (2, .int (iZ y)), (3, .ref (aD g 100))]) 23 K dL_insert_21 rfl (by decide) rfl ?_
      refine z_iconst 24 K dL_insert_23 rfl ?_
      refine z_wid (kc' := 3) (ks' := 18) (by decide) (by decide) ?_
      exact z_iret K rfl dL_insert_24 ⟨hIx, fun q hq hne => hsx q hq, ⟨o, (hsx 100 (by omega)).trans hOut⟩, hd2.symm⟩
  exact hp_5.elim
set_option maxRecDepth 100000 in
theorem w_L_insert (l : Launch) (g : zG) (C : Nat → va_E) (p0 : Int) (y : Int) (o : Nat → Int64) (f : Int → Int) (past : Int → Int) (tx : Int → Int) (k : Int) (ty : Int) (cap : Int) (hOut : C 100 = eJ g 1 o) (hI : IW g C f k past ty tx) (hP : PW cap f k past ty tx) (h_p0 : -2147483648 ≤ p0 ∧ p0 < 2147483648) (h_y : -2147483648 ≤ y ∧ y < 2147483648) (hlt : l.stackTraces = false) : Met l yL_insert wsL_insert ({ frames := 8, cells := 3, slots := 18, locals := 127 } : Room) (zPre2 g C [.ref (aD g 0), .int (iZ p0), .int (iZ y), .ref (aD g 100)]) (zQi g (fun z C' => IW g C' (if kIns f p0 y = 0 then mCome f p0 y else f) (if kIns f p0 y = 0 then mKp k + 1 else k) (if kIns f p0 y = 0 then mSav f past k else past) ty tx ∧ (∀ q, 94 ≤ q → q ≠ 100 → C' q = C q) ∧ (∃ o2 : Nat → Int64, C' 100 = eJ g 1 o2 ∧ (kIns f p0 y = 0 → o2 0 = (iZ (f 2)).toInt64)) ∧ z = kIns f p0 y)) 3 18 (zA g) := by
  by_cases hk : kIns f p0 y = 0
  · refine z_monI2 (a_L_insert l g C p0 y o f past tx k ty cap hOut hI hP h_p0 h_y hk) (fun z C' h => ?_)
    rw [if_pos hk, if_pos hk, if_pos hk]
    exact ⟨h.1, h.2.1, ⟨_, h.2.2.1, fun _ => vp_updL_0 _ _⟩, h.2.2.2.trans hk.symm⟩
  · refine z_monI2 (x_L_insert l g C p0 y o f past tx k ty cap hOut hI hP h_p0 h_y hk hlt) (fun z C' h => ?_)
    rw [if_neg hk, if_neg hk, if_neg hk]
    exact ⟨h.1, h.2.1, ⟨h.2.2.1.choose, h.2.2.1.choose_spec, fun q => absurd q hk⟩, h.2.2.2⟩
set_option maxHeartbeats 4000000 in
set_option maxRecDepth 100000 in
theorem a_L_move (l : Launch) (g : zG) (C : Nat → va_E) (p0 : Int) (t0 : Int) (o : Nat → Int64) (f : Int → Int) (past : Int → Int) (tx : Int → Int) (k : Int) (ty : Int) (cap : Int) (hOut : C 100 = eJ g 1 o) (hI : IW g C f k past ty tx) (hP : PW cap f k past ty tx) (h_p0 : -2147483648 ≤ p0 ∧ p0 < 2147483648) (h_t0 : -2147483648 ≤ t0 ∧ t0 < 2147483648) (hk9 : kMov f p0 t0 = 0) : Met l yL_move wsL_move ({ frames := 8, cells := 2, slots := 12, locals := 128 } : Room) (zPre2 g C [.ref (aD g 0), .int (iZ p0), .int (iZ t0), .ref (aD g 100)]) (zQi g (fun z C' => IW g C' (mMove f p0 t0) (mKp k + 1) (mSav f past k) (ty) (tx) ∧ (∀ q, 94 ≤ q → q ≠ 100 → C' q = C q) ∧ C' 100 = eJ g 1 (vp_updL o (Int.toNat 0) (iZ (f (2 * p0 + 3))).toInt64) ∧ z = 0)) 2 12 (zA g) := by
  refine z_enterT RL rfl (by decide) rfl (Nat.le_of_ble_eq_true rfl) ?_
  intro p e s m args below meth c K harg hTab hNc
  refine z_sub (lv' := [(0, .ref (aD g 0)), (1, .int (iZ p0)), (2, .int (iZ t0)), (3, .ref (aD g 100))]) [0, 1, 2, 3] rfl ?_
  have hI0 := hI
  obtain ⟨⟨gMa, -⟩, -, -, -, -, -⟩ := id hI
  refine z_aload_n 1 K dL_move_0 rfl rfl 3 rfl ?_
  refine z_iconst 2 K dL_move_1 rfl ?_
  refine z_aload_n 3 K dL_move_2 rfl rfl 0 rfl ?_
  refine z_iload_n 4 K dL_move_3 rfl rfl 1 rfl ?_
  refine z_iload_n 5 K dL_move_4 rfl rfl 2 rfl ?_
  refine z_vVi (As := [.int (iZ p0), .int (iZ t0)]) (rest := [.int (iZ 0), .ref (aD g 100)]) 8 K 0 (by decide) gMa rfl rfl (a_X8_move l g _ p0 t0 _ _ _ _ _ _ hI0 hP (by omega) (by omega) hk9) (cwV 2 K.1.2.2.2.2 gL_move_X8_move rfl rfl rfl (by decide +kernel) ⟨Nat.le_of_ble_eq_true rfl, Nat.le_of_ble_eq_true rfl⟩) rfl (Nat.le_of_ble_eq_true rfl) dL_move_5 rfl ⟨Nat.le_of_ble_eq_true rfl, Nat.le_of_ble_eq_true rfl⟩ rfl (fun z_1 C_2 hp_5 => ?_)
  obtain ⟨hIn_5, hsm_5, hz_5⟩ := hp_5
  refine z_top (f (2 * p0 + 3)) hz_5 ?_
  have hf_5_100 : C_2 100 = eJ g 1 o := (hsm_5 100 (by omega)).trans hOut
  refine z_i2l 9 K dL_move_8 rfl ?_
  refine z_last (f := o) 10 K 100 (by decide) hf_5_100 (by decide) (by decide) (by decide) dL_move_9 rfl ?_
  refine z_goto (tgt := 17) K dL_move_10 (by decide) ?_
  refine z_iconst 18 K dL_move_17 rfl ?_
  refine z_wid (kc' := 2) (ks' := 12) (by decide) (by decide) ?_
  exact z_iret K rfl dL_move_18 ⟨IW_cong hIn_5 (fun q hq => ((va_up_ne _ _ (by omega)).trans rfl)), fun q hq hne => (((va_up_ne _ _ (by omega)).trans rfl)).trans (hsm_5 q hq), (va_up_eq _ 100 _), rfl⟩
set_option maxHeartbeats 4000000 in
set_option maxRecDepth 100000 in
theorem x_L_move (l : Launch) (g : zG) (C : Nat → va_E) (p0 : Int) (t0 : Int) (o : Nat → Int64) (f : Int → Int) (past : Int → Int) (tx : Int → Int) (k : Int) (ty : Int) (cap : Int) (hOut : C 100 = eJ g 1 o) (hI : IW g C f k past ty tx) (hP : PW cap f k past ty tx) (h_p0 : -2147483648 ≤ p0 ∧ p0 < 2147483648) (h_t0 : -2147483648 ≤ t0 ∧ t0 < 2147483648) (hk9 : kMov f p0 t0 ≠ 0) (hlt : l.stackTraces = false) : Met l yL_move wsL_move ({ frames := 8, cells := 2, slots := 12, locals := 128 } : Room) (zPre2 g C [.ref (aD g 0), .int (iZ p0), .int (iZ t0), .ref (aD g 100)]) (zQi g (fun z C' => IW g C' f k past ty tx ∧ (∀ q, 94 ≤ q → q ≠ 100 → C' q = C q) ∧ (∃ o2, C' 100 = eJ g 1 o2) ∧ z = kMov f p0 t0)) 2 12 (zA g) := by
  refine z_enterT RL rfl (by decide) rfl (Nat.le_of_ble_eq_true rfl) ?_
  intro p e s m args below meth c K harg hTab hNc
  refine z_sub (lv' := [(0, .ref (aD g 0)), (1, .int (iZ p0)), (2, .int (iZ t0)), (3, .ref (aD g 100))]) [0, 1, 2, 3] rfl ?_
  have hI0 := hI
  obtain ⟨⟨gMa, -⟩, -, -, -, -, -⟩ := id hI
  refine z_aload_n 1 K dL_move_0 rfl rfl 3 rfl ?_
  refine z_iconst 2 K dL_move_1 rfl ?_
  refine z_aload_n 3 K dL_move_2 rfl rfl 0 rfl ?_
  refine z_iload_n 4 K dL_move_3 rfl rfl 1 rfl ?_
  refine z_iload_n 5 K dL_move_4 rfl rfl 2 rfl ?_
  refine z_xVi (As := [.int (iZ p0), .int (iZ t0)]) (rest := [.int (iZ 0), .ref (aD g 100)]) 8 K 0 (by decide) gMa rfl rfl (x_X8_move l g _ p0 t0 _ _ _ _ _ _ hI0 hP (by omega) (by omega) hk9 hlt) (cwV 2 K.1.2.2.2.2 gL_move_X8_move rfl rfl rfl (by decide +kernel) ⟨Nat.le_of_ble_eq_true rfl, Nat.le_of_ble_eq_true rfl⟩) rfl (Nat.le_of_ble_eq_true rfl) dL_move_5 rfl ⟨Nat.le_of_ble_eq_true rfl, Nat.le_of_ble_eq_true rfl⟩ rfl (fun E9 C9 hx9 => ?_) (fun z_1 C_2 hp_5 => ?_)
  · skip
    obtain ⟨hIx, hsx, hdx⟩ := hx9
    rcases hdx with ⟨rfl, hd0⟩
    · refine z_catch K hNc [] ⟨0, 10, 13, 13⟩ [] hTab (fun z hz => nomatch hz) (by decide) (by decide) (by decide +kernel) (by decide) (n := 13) rfl (fun q9 => ?_)
      refine z_astore (lv' := [(4, .ref q9), (0, .ref (aD g 0)), (1, .int (iZ p0)), (2, .int (iZ t0)), (3, .ref (aD g 100))]) 15 K dL_move_13 rfl (by decide) rfl ?_
      refine z_iconst 16 K dL_move_15 rfl ?_
      refine z_wid (kc' := 2) (ks' := 12) (by decide) (by decide) ?_
      exact z_iret K rfl dL_move_16 ⟨hIx, fun q hq hne => hsx q hq, ⟨o, (hsx 100 (by omega)).trans hOut⟩, hd0.symm⟩
  exact hp_5.elim
set_option maxRecDepth 100000 in
theorem w_L_move (l : Launch) (g : zG) (C : Nat → va_E) (p0 : Int) (t0 : Int) (o : Nat → Int64) (f : Int → Int) (past : Int → Int) (tx : Int → Int) (k : Int) (ty : Int) (cap : Int) (hOut : C 100 = eJ g 1 o) (hI : IW g C f k past ty tx) (hP : PW cap f k past ty tx) (h_p0 : -2147483648 ≤ p0 ∧ p0 < 2147483648) (h_t0 : -2147483648 ≤ t0 ∧ t0 < 2147483648) (hlt : l.stackTraces = false) : Met l yL_move wsL_move ({ frames := 8, cells := 2, slots := 12, locals := 128 } : Room) (zPre2 g C [.ref (aD g 0), .int (iZ p0), .int (iZ t0), .ref (aD g 100)]) (zQi g (fun z C' => IW g C' (if kMov f p0 t0 = 0 then mMove f p0 t0 else f) (if kMov f p0 t0 = 0 then mKp k + 1 else k) (if kMov f p0 t0 = 0 then mSav f past k else past) ty tx ∧ (∀ q, 94 ≤ q → q ≠ 100 → C' q = C q) ∧ (∃ o2 : Nat → Int64, C' 100 = eJ g 1 o2 ∧ (kMov f p0 t0 = 0 → o2 0 = (iZ (f (2 * p0 + 3))).toInt64)) ∧ z = kMov f p0 t0)) 2 12 (zA g) := by
  by_cases hk : kMov f p0 t0 = 0
  · refine z_monI2 (a_L_move l g C p0 t0 o f past tx k ty cap hOut hI hP h_p0 h_t0 hk) (fun z C' h => ?_)
    rw [if_pos hk, if_pos hk, if_pos hk]
    exact ⟨h.1, h.2.1, ⟨_, h.2.2.1, fun _ => vp_updL_0 _ _⟩, h.2.2.2.trans hk.symm⟩
  · refine z_monI2 (x_L_move l g C p0 t0 o f past tx k ty cap hOut hI hP h_p0 h_t0 hk hlt) (fun z C' h => ?_)
    rw [if_neg hk, if_neg hk, if_neg hk]
    exact ⟨h.1, h.2.1, ⟨h.2.2.1.choose, h.2.2.1.choose_spec, fun q => absurd q hk⟩, h.2.2.2⟩
set_option maxHeartbeats 4000000 in
set_option maxRecDepth 100000 in
theorem a_L_drop (l : Launch) (g : zG) (C : Nat → va_E) (p0 : Int) (o : Nat → Int64) (f : Int → Int) (past : Int → Int) (tx : Int → Int) (k : Int) (ty : Int) (cap : Int) (hOut : C 100 = eJ g 1 o) (hI : IW g C f k past ty tx) (hP : PW cap f k past ty tx) (h_p0 : -2147483648 ≤ p0 ∧ p0 < 2147483648) (hk9 : kPl f p0 = 0) : Met l yL_drop wsL_drop ({ frames := 8, cells := 1, slots := 6, locals := 125 } : Room) (zPre2 g C [.ref (aD g 0), .int (iZ p0), .ref (aD g 100)]) (zQi g (fun z C' => IW g C' (mOut f p0) (mKp k + 1) (mSav f past k) (ty) (tx) ∧ (∀ q, 94 ≤ q → q ≠ 100 → C' q = C q) ∧ C' 100 = eJ g 1 (vp_updL o (Int.toNat 0) (iZ (sAllLost (mOut f p0) - sAllLost f)).toInt64) ∧ z = 0)) 1 6 (zA g) := by
  refine z_enterT RL rfl (by decide) rfl (Nat.le_of_ble_eq_true rfl) ?_
  intro p e s m args below meth c K harg hTab hNc
  refine z_sub (lv' := [(0, .ref (aD g 0)), (1, .int (iZ p0)), (2, .ref (aD g 100))]) [0, 1, 2] rfl ?_
  have hI0 := hI
  obtain ⟨⟨gMa, -⟩, -, -, -, -, -⟩ := id hI
  refine z_aload_n 1 K dL_drop_0 rfl rfl 2 rfl ?_
  refine z_iconst 2 K dL_drop_1 rfl ?_
  refine z_aload_n 3 K dL_drop_2 rfl rfl 0 rfl ?_
  refine z_iload_n 4 K dL_drop_3 rfl rfl 1 rfl ?_
  refine z_vVi (As := [.int (iZ p0)]) (rest := [.int (iZ 0), .ref (aD g 100)]) 7 K 0 (by decide) gMa rfl rfl (a_X8_drop l g _ p0 _ _ _ _ _ _ hI0 hP (by omega) hk9) (cwV 1 K.1.2.2.2.2 gL_drop_X8_drop rfl rfl rfl (by decide +kernel) ⟨Nat.le_of_ble_eq_true rfl, Nat.le_of_ble_eq_true rfl⟩) rfl (Nat.le_of_ble_eq_true rfl) dL_drop_4 rfl ⟨Nat.le_of_ble_eq_true rfl, Nat.le_of_ble_eq_true rfl⟩ rfl (fun z_1 C_2 hp_4 => ?_)
  obtain ⟨hIn_4, hsm_4, hz_4⟩ := hp_4
  refine z_top (sAllLost (mOut f p0) - (sAllLost f)) hz_4 ?_
  have hf_4_100 : C_2 100 = eJ g 1 o := (hsm_4 100 (by omega)).trans hOut
  refine z_i2l 8 K dL_drop_7 rfl ?_
  refine z_last (f := o) 9 K 100 (by decide) hf_4_100 (by decide) (by decide) (by decide) dL_drop_8 rfl ?_
  refine z_goto (tgt := 15) K dL_drop_9 (by decide) ?_
  refine z_iconst 16 K dL_drop_15 rfl ?_
  refine z_wid (kc' := 1) (ks' := 6) (by decide) (by decide) ?_
  exact z_iret K rfl dL_drop_16 ⟨IW_cong hIn_4 (fun q hq => ((va_up_ne _ _ (by omega)).trans rfl)), fun q hq hne => (((va_up_ne _ _ (by omega)).trans rfl)).trans (hsm_4 q hq), (va_up_eq _ 100 _), rfl⟩
set_option maxHeartbeats 4000000 in
set_option maxRecDepth 100000 in
theorem x_L_drop (l : Launch) (g : zG) (C : Nat → va_E) (p0 : Int) (o : Nat → Int64) (f : Int → Int) (past : Int → Int) (tx : Int → Int) (k : Int) (ty : Int) (cap : Int) (hOut : C 100 = eJ g 1 o) (hI : IW g C f k past ty tx) (hP : PW cap f k past ty tx) (h_p0 : -2147483648 ≤ p0 ∧ p0 < 2147483648) (hk9 : kPl f p0 ≠ 0) (hlt : l.stackTraces = false) : Met l yL_drop wsL_drop ({ frames := 8, cells := 1, slots := 6, locals := 125 } : Room) (zPre2 g C [.ref (aD g 0), .int (iZ p0), .ref (aD g 100)]) (zQi g (fun z C' => IW g C' f k past ty tx ∧ (∀ q, 94 ≤ q → q ≠ 100 → C' q = C q) ∧ (∃ o2, C' 100 = eJ g 1 o2) ∧ z = kPl f p0)) 1 6 (zA g) := by
  refine z_enterT RL rfl (by decide) rfl (Nat.le_of_ble_eq_true rfl) ?_
  intro p e s m args below meth c K harg hTab hNc
  refine z_sub (lv' := [(0, .ref (aD g 0)), (1, .int (iZ p0)), (2, .ref (aD g 100))]) [0, 1, 2] rfl ?_
  have hI0 := hI
  obtain ⟨⟨gMa, -⟩, -, -, -, -, -⟩ := id hI
  refine z_aload_n 1 K dL_drop_0 rfl rfl 2 rfl ?_
  refine z_iconst 2 K dL_drop_1 rfl ?_
  refine z_aload_n 3 K dL_drop_2 rfl rfl 0 rfl ?_
  refine z_iload_n 4 K dL_drop_3 rfl rfl 1 rfl ?_
  refine z_xVi (As := [.int (iZ p0)]) (rest := [.int (iZ 0), .ref (aD g 100)]) 7 K 0 (by decide) gMa rfl rfl (x_X8_drop l g _ p0 _ _ _ _ _ _ hI0 hP (by omega) hk9 hlt) (cwV 1 K.1.2.2.2.2 gL_drop_X8_drop rfl rfl rfl (by decide +kernel) ⟨Nat.le_of_ble_eq_true rfl, Nat.le_of_ble_eq_true rfl⟩) rfl (Nat.le_of_ble_eq_true rfl) dL_drop_4 rfl ⟨Nat.le_of_ble_eq_true rfl, Nat.le_of_ble_eq_true rfl⟩ rfl (fun E9 C9 hx9 => ?_) (fun z_1 C_2 hp_4 => ?_)
  · skip
    obtain ⟨hIx, hsx, hdx⟩ := hx9
    rcases hdx with ⟨rfl, hd0⟩
    · refine z_catch K hNc [] ⟨0, 9, 12, 13⟩ [] hTab (fun z hz => nomatch hz) (by decide) (by decide) (by decide +kernel) (by decide) (n := 12) rfl (fun q9 => ?_)
      refine z_astore_n (lv' := [(3, .ref q9), (0, .ref (aD g 0)), (1, .int (iZ p0)), (2, .ref (aD g 100))]) 13 K dL_drop_12 rfl rfl (by decide) rfl ?_
      refine z_iconst 14 K dL_drop_13 rfl ?_
      refine z_wid (kc' := 1) (ks' := 6) (by decide) (by decide) ?_
      exact z_iret K rfl dL_drop_14 ⟨hIx, fun q hq hne => hsx q hq, ⟨o, (hsx 100 (by omega)).trans hOut⟩, hd0.symm⟩
  exact hp_4.elim
set_option maxRecDepth 100000 in
theorem w_L_drop (l : Launch) (g : zG) (C : Nat → va_E) (p0 : Int) (o : Nat → Int64) (f : Int → Int) (past : Int → Int) (tx : Int → Int) (k : Int) (ty : Int) (cap : Int) (hOut : C 100 = eJ g 1 o) (hI : IW g C f k past ty tx) (hP : PW cap f k past ty tx) (h_p0 : -2147483648 ≤ p0 ∧ p0 < 2147483648) (hlt : l.stackTraces = false) : Met l yL_drop wsL_drop ({ frames := 8, cells := 1, slots := 6, locals := 125 } : Room) (zPre2 g C [.ref (aD g 0), .int (iZ p0), .ref (aD g 100)]) (zQi g (fun z C' => IW g C' (if kPl f p0 = 0 then mOut f p0 else f) (if kPl f p0 = 0 then mKp k + 1 else k) (if kPl f p0 = 0 then mSav f past k else past) ty tx ∧ (∀ q, 94 ≤ q → q ≠ 100 → C' q = C q) ∧ (∃ o2 : Nat → Int64, C' 100 = eJ g 1 o2 ∧ (kPl f p0 = 0 → o2 0 = (iZ (sAllLost (mOut f p0) - sAllLost f)).toInt64)) ∧ z = kPl f p0)) 1 6 (zA g) := by
  by_cases hk : kPl f p0 = 0
  · refine z_monI2 (a_L_drop l g C p0 o f past tx k ty cap hOut hI hP h_p0 hk) (fun z C' h => ?_)
    rw [if_pos hk, if_pos hk, if_pos hk]
    exact ⟨h.1, h.2.1, ⟨_, h.2.2.1, fun _ => vp_updL_0 _ _⟩, h.2.2.2.trans hk.symm⟩
  · refine z_monI2 (x_L_drop l g C p0 o f past tx k ty cap hOut hI hP h_p0 hk hlt) (fun z C' h => ?_)
    rw [if_neg hk, if_neg hk, if_neg hk]
    exact ⟨h.1, h.2.1, ⟨h.2.2.1.choose, h.2.2.1.choose_spec, fun q => absurd q hk⟩, h.2.2.2⟩
set_option maxHeartbeats 4000000 in
set_option maxRecDepth 100000 in
theorem a_L_pages (l : Launch) (g : zG) (C : Nat → va_E) (p0 : Int) (y : Int) (o : Nat → Int64) (f : Int → Int) (past : Int → Int) (tx : Int → Int) (k : Int) (ty : Int) (cap : Int) (hOut : C 100 = eJ g 1 o) (hI : IW g C f k past ty tx) (hP : PW cap f k past ty tx) (h_p0 : -2147483648 ≤ p0 ∧ p0 < 2147483648) (h_y : -2147483648 ≤ y ∧ y < 2147483648) (hk9 : kPgs f p0 y = 0) : Met l yL_pages wsL_pages ({ frames := 8, cells := 2, slots := 12, locals := 126 } : Room) (zPre2 g C [.ref (aD g 0), .int (iZ p0), .int (iZ y), .ref (aD g 100)]) (zQi g (fun z C' => IW g C' (zu f (2 * p0 + 4) y) (mKp k + 1) (mSav f past k) (ty) (tx) ∧ (∀ q, 94 ≤ q → q ≠ 100 → C' q = C q) ∧ C' 100 = eJ g 1 (vp_updL o (Int.toNat 0) (iZ (f (2 * p0 + 4))).toInt64) ∧ z = 0)) 2 12 (zA g) := by
  refine z_enterT RL rfl (by decide) rfl (Nat.le_of_ble_eq_true rfl) ?_
  intro p e s m args below meth c K harg hTab hNc
  refine z_sub (lv' := [(0, .ref (aD g 0)), (1, .int (iZ p0)), (2, .int (iZ y)), (3, .ref (aD g 100))]) [0, 1, 2, 3] rfl ?_
  have hI0 := hI
  obtain ⟨⟨gMa, -⟩, -, -, -, -, -⟩ := id hI
  refine z_aload_n 1 K dL_pages_0 rfl rfl 3 rfl ?_
  refine z_iconst 2 K dL_pages_1 rfl ?_
  refine z_aload_n 3 K dL_pages_2 rfl rfl 0 rfl ?_
  refine z_iload_n 4 K dL_pages_3 rfl rfl 1 rfl ?_
  refine z_iload_n 5 K dL_pages_4 rfl rfl 2 rfl ?_
  refine z_vVi (As := [.int (iZ p0), .int (iZ y)]) (rest := [.int (iZ 0), .ref (aD g 100)]) 8 K 0 (by decide) gMa rfl rfl (a_X8_pages l g _ p0 y _ _ _ _ _ _ hI0 hP (by omega) (by omega) hk9) (cwV 2 K.1.2.2.2.2 gL_pages_X8_pages rfl rfl rfl (by decide +kernel) ⟨Nat.le_of_ble_eq_true rfl, Nat.le_of_ble_eq_true rfl⟩) rfl (Nat.le_of_ble_eq_true rfl) dL_pages_5 rfl ⟨Nat.le_of_ble_eq_true rfl, Nat.le_of_ble_eq_true rfl⟩ rfl (fun z_1 C_2 hp_5 => ?_)
  obtain ⟨hIn_5, hsm_5, hz_5⟩ := hp_5
  refine z_top (f (2 * p0 + 4)) hz_5 ?_
  have hf_5_100 : C_2 100 = eJ g 1 o := (hsm_5 100 (by omega)).trans hOut
  refine z_i2l 9 K dL_pages_8 rfl ?_
  refine z_last (f := o) 10 K 100 (by decide) hf_5_100 (by decide) (by decide) (by decide) dL_pages_9 rfl ?_
  refine z_goto (tgt := 21) K dL_pages_10 (by decide) ?_
  refine z_iconst 22 K dL_pages_21 rfl ?_
  refine z_wid (kc' := 2) (ks' := 12) (by decide) (by decide) ?_
  exact z_iret K rfl dL_pages_22 ⟨IW_cong hIn_5 (fun q hq => ((va_up_ne _ _ (by omega)).trans rfl)), fun q hq hne => (((va_up_ne _ _ (by omega)).trans rfl)).trans (hsm_5 q hq), (va_up_eq _ 100 _), rfl⟩
set_option maxHeartbeats 4000000 in
set_option maxRecDepth 100000 in
theorem x_L_pages (l : Launch) (g : zG) (C : Nat → va_E) (p0 : Int) (y : Int) (o : Nat → Int64) (f : Int → Int) (past : Int → Int) (tx : Int → Int) (k : Int) (ty : Int) (cap : Int) (hOut : C 100 = eJ g 1 o) (hI : IW g C f k past ty tx) (hP : PW cap f k past ty tx) (h_p0 : -2147483648 ≤ p0 ∧ p0 < 2147483648) (h_y : -2147483648 ≤ y ∧ y < 2147483648) (hk9 : kPgs f p0 y ≠ 0) (hlt : l.stackTraces = false) : Met l yL_pages wsL_pages ({ frames := 8, cells := 2, slots := 12, locals := 126 } : Room) (zPre2 g C [.ref (aD g 0), .int (iZ p0), .int (iZ y), .ref (aD g 100)]) (zQi g (fun z C' => IW g C' f k past ty tx ∧ (∀ q, 94 ≤ q → q ≠ 100 → C' q = C q) ∧ (∃ o2, C' 100 = eJ g 1 o2) ∧ z = kPgs f p0 y)) 2 12 (zA g) := by
  refine z_enterT RL rfl (by decide) rfl (Nat.le_of_ble_eq_true rfl) ?_
  intro p e s m args below meth c K harg hTab hNc
  refine z_sub (lv' := [(0, .ref (aD g 0)), (1, .int (iZ p0)), (2, .int (iZ y)), (3, .ref (aD g 100))]) [0, 1, 2, 3] rfl ?_
  have hI0 := hI
  obtain ⟨⟨gMa, -⟩, -, -, -, -, -⟩ := id hI
  refine z_aload_n 1 K dL_pages_0 rfl rfl 3 rfl ?_
  refine z_iconst 2 K dL_pages_1 rfl ?_
  refine z_aload_n 3 K dL_pages_2 rfl rfl 0 rfl ?_
  refine z_iload_n 4 K dL_pages_3 rfl rfl 1 rfl ?_
  refine z_iload_n 5 K dL_pages_4 rfl rfl 2 rfl ?_
  refine z_xVi (As := [.int (iZ p0), .int (iZ y)]) (rest := [.int (iZ 0), .ref (aD g 100)]) 8 K 0 (by decide) gMa rfl rfl (x_X8_pages l g _ p0 y _ _ _ _ _ _ hI0 hP (by omega) (by omega) hk9 hlt) (cwV 2 K.1.2.2.2.2 gL_pages_X8_pages rfl rfl rfl (by decide +kernel) ⟨Nat.le_of_ble_eq_true rfl, Nat.le_of_ble_eq_true rfl⟩) rfl (Nat.le_of_ble_eq_true rfl) dL_pages_5 rfl ⟨Nat.le_of_ble_eq_true rfl, Nat.le_of_ble_eq_true rfl⟩ rfl (fun E9 C9 hx9 => ?_) (fun z_1 C_2 hp_5 => ?_)
  · skip
    obtain ⟨hIx, hsx, hdx⟩ := hx9
    rcases hdx with ⟨rfl, hd0⟩ | ⟨rfl, hd1⟩
    · refine z_catch K hNc [] ⟨0, 10, 13, 13⟩ [⟨0, 10, 17, 15⟩] hTab (fun z hz => nomatch hz) (by decide) (by decide) (by decide +kernel) (by decide) (n := 13) rfl (fun q9 => ?_)
      refine z_astore (lv' := [(4, .ref q9), (0, .ref (aD g 0)), (1, .int (iZ p0)), (2, .int (iZ y)), (3, .ref (aD g 100))]) 15 K dL_pages_13 rfl (by decide) rfl ?_
      refine z_iconst 16 K dL_pages_15 rfl ?_
      refine z_wid (kc' := 2) (ks' := 12) (by decide) (by decide) ?_
      exact z_iret K rfl dL_pages_16 ⟨hIx, fun q hq hne => hsx q hq, ⟨o, (hsx 100 (by omega)).trans hOut⟩, hd0.symm⟩
    · refine z_catch K hNc [⟨0, 10, 13, 13⟩] ⟨0, 10, 17, 15⟩ [] hTab (List.forall_mem_cons.mpr ⟨⟨by decide, _, (by decide +kernel : Cond.classLink RL 13 "java/lang/IndexOutOfBoundsException" ∈ wsL_pages), by decide⟩, fun z hz => nomatch hz⟩) (by decide) (by decide) (by decide +kernel) (by decide) (n := 17) rfl (fun q9 => ?_)
      refine z_astore (lv' := [(4, .ref q9), (0, .ref (aD g 0)), (1, .int (iZ p0)), (2, .int (iZ y)), (3, .ref (aD g 100))]) 19 K dL_pages_17 rfl (by decide) rfl ?_
      refine z_iconst 20 K dL_pages_19 rfl ?_
      refine z_wid (kc' := 2) (ks' := 12) (by decide) (by decide) ?_
      exact z_iret K rfl dL_pages_20 ⟨hIx, fun q hq hne => hsx q hq, ⟨o, (hsx 100 (by omega)).trans hOut⟩, hd1.symm⟩
  exact hp_5.elim
set_option maxRecDepth 100000 in
theorem w_L_pages (l : Launch) (g : zG) (C : Nat → va_E) (p0 : Int) (y : Int) (o : Nat → Int64) (f : Int → Int) (past : Int → Int) (tx : Int → Int) (k : Int) (ty : Int) (cap : Int) (hOut : C 100 = eJ g 1 o) (hI : IW g C f k past ty tx) (hP : PW cap f k past ty tx) (h_p0 : -2147483648 ≤ p0 ∧ p0 < 2147483648) (h_y : -2147483648 ≤ y ∧ y < 2147483648) (hlt : l.stackTraces = false) : Met l yL_pages wsL_pages ({ frames := 8, cells := 2, slots := 12, locals := 126 } : Room) (zPre2 g C [.ref (aD g 0), .int (iZ p0), .int (iZ y), .ref (aD g 100)]) (zQi g (fun z C' => IW g C' (if kPgs f p0 y = 0 then zu f (2 * p0 + 4) y else f) (if kPgs f p0 y = 0 then mKp k + 1 else k) (if kPgs f p0 y = 0 then mSav f past k else past) ty tx ∧ (∀ q, 94 ≤ q → q ≠ 100 → C' q = C q) ∧ (∃ o2 : Nat → Int64, C' 100 = eJ g 1 o2 ∧ (kPgs f p0 y = 0 → o2 0 = (iZ (f (2 * p0 + 4))).toInt64)) ∧ z = kPgs f p0 y)) 2 12 (zA g) := by
  by_cases hk : kPgs f p0 y = 0
  · refine z_monI2 (a_L_pages l g C p0 y o f past tx k ty cap hOut hI hP h_p0 h_y hk) (fun z C' h => ?_)
    rw [if_pos hk, if_pos hk, if_pos hk]
    exact ⟨h.1, h.2.1, ⟨_, h.2.2.1, fun _ => vp_updL_0 _ _⟩, h.2.2.2.trans hk.symm⟩
  · refine z_monI2 (x_L_pages l g C p0 y o f past tx k ty cap hOut hI hP h_p0 h_y hk hlt) (fun z C' h => ?_)
    rw [if_neg hk, if_neg hk, if_neg hk]
    exact ⟨h.1, h.2.1, ⟨h.2.2.1.choose, h.2.2.1.choose_spec, fun q => absurd q hk⟩, h.2.2.2⟩
set_option maxHeartbeats 4000000 in
set_option maxRecDepth 100000 in
theorem a_L_join (l : Launch) (g : zG) (C : Nat → va_E) (p0 : Int) (o : Nat → Int64) (f : Int → Int) (past : Int → Int) (tx : Int → Int) (k : Int) (ty : Int) (cap : Int) (hOut : C 100 = eJ g 1 o) (hI : IW g C f k past ty tx) (hP : PW cap f k past ty tx) (h_p0 : -2147483648 ≤ p0 ∧ p0 < 2147483648) (hk9 : kJoi f p0 = 0) : Met l yL_join wsL_join ({ frames := 8, cells := 2, slots := 12, locals := 127 } : Room) (zPre2 g C [.ref (aD g 0), .int (iZ p0), .ref (aD g 100)]) (zQi g (fun z C' => IW g C' (mJoin f p0) (mKp k + 1) (mSav f past k) (ty) (tx) ∧ (∀ q, 94 ≤ q → q ≠ 100 → C' q = C q) ∧ C' 100 = eJ g 1 (vp_updL o (Int.toNat 0) (iZ (f (2 * p0 + 4) + f (2 * p0 + 6))).toInt64) ∧ z = 0)) 2 12 (zA g) := by
  refine z_enterT RL rfl (by decide) rfl (Nat.le_of_ble_eq_true rfl) ?_
  intro p e s m args below meth c K harg hTab hNc
  refine z_sub (lv' := [(0, .ref (aD g 0)), (1, .int (iZ p0)), (2, .ref (aD g 100))]) [0, 1, 2] rfl ?_
  have hI0 := hI
  obtain ⟨⟨gMa, -⟩, -, -, -, -, -⟩ := id hI
  refine z_aload_n 1 K dL_join_0 rfl rfl 2 rfl ?_
  refine z_iconst 2 K dL_join_1 rfl ?_
  refine z_aload_n 3 K dL_join_2 rfl rfl 0 rfl ?_
  refine z_iload_n 4 K dL_join_3 rfl rfl 1 rfl ?_
  refine z_vVi (As := [.int (iZ p0)]) (rest := [.int (iZ 0), .ref (aD g 100)]) 7 K 0 (by decide) gMa rfl rfl (a_X8_join l g _ p0 _ _ _ _ _ _ hI0 hP (by omega) hk9) (cwV 1 K.1.2.2.2.2 gL_join_X8_join rfl rfl rfl (by decide +kernel) ⟨Nat.le_of_ble_eq_true rfl, Nat.le_of_ble_eq_true rfl⟩) rfl (Nat.le_of_ble_eq_true rfl) dL_join_4 rfl ⟨Nat.le_of_ble_eq_true rfl, Nat.le_of_ble_eq_true rfl⟩ rfl (fun z_1 C_2 hp_4 => ?_)
  obtain ⟨hIn_4, hsm_4, hz_4⟩ := hp_4
  refine z_top (f (2 * p0 + 4) + f (2 * p0 + 6)) hz_4 ?_
  have hf_4_100 : C_2 100 = eJ g 1 o := (hsm_4 100 (by omega)).trans hOut
  refine z_i2l 8 K dL_join_7 rfl ?_
  refine z_last (f := o) 9 K 100 (by decide) hf_4_100 (by decide) (by decide) (by decide) dL_join_8 rfl ?_
  refine z_goto (tgt := 18) K dL_join_9 (by decide) ?_
  refine z_iconst 19 K dL_join_18 rfl ?_
  refine z_wid (kc' := 2) (ks' := 12) (by decide) (by decide) ?_
  exact z_iret K rfl dL_join_19 ⟨IW_cong hIn_4 (fun q hq => ((va_up_ne _ _ (by omega)).trans rfl)), fun q hq hne => (((va_up_ne _ _ (by omega)).trans rfl)).trans (hsm_4 q hq), (va_up_eq _ 100 _), rfl⟩
set_option maxHeartbeats 4000000 in
set_option maxRecDepth 100000 in
theorem x_L_join (l : Launch) (g : zG) (C : Nat → va_E) (p0 : Int) (o : Nat → Int64) (f : Int → Int) (past : Int → Int) (tx : Int → Int) (k : Int) (ty : Int) (cap : Int) (hOut : C 100 = eJ g 1 o) (hI : IW g C f k past ty tx) (hP : PW cap f k past ty tx) (h_p0 : -2147483648 ≤ p0 ∧ p0 < 2147483648) (hk9 : kJoi f p0 ≠ 0) (hlt : l.stackTraces = false) : Met l yL_join wsL_join ({ frames := 8, cells := 2, slots := 12, locals := 127 } : Room) (zPre2 g C [.ref (aD g 0), .int (iZ p0), .ref (aD g 100)]) (zQi g (fun z C' => IW g C' f k past ty tx ∧ (∀ q, 94 ≤ q → q ≠ 100 → C' q = C q) ∧ (∃ o2, C' 100 = eJ g 1 o2) ∧ z = kJoi f p0)) 2 12 (zA g) := by
  refine z_enterT RL rfl (by decide) rfl (Nat.le_of_ble_eq_true rfl) ?_
  intro p e s m args below meth c K harg hTab hNc
  refine z_sub (lv' := [(0, .ref (aD g 0)), (1, .int (iZ p0)), (2, .ref (aD g 100))]) [0, 1, 2] rfl ?_
  have hI0 := hI
  obtain ⟨⟨gMa, -⟩, -, -, -, -, -⟩ := id hI
  refine z_aload_n 1 K dL_join_0 rfl rfl 2 rfl ?_
  refine z_iconst 2 K dL_join_1 rfl ?_
  refine z_aload_n 3 K dL_join_2 rfl rfl 0 rfl ?_
  refine z_iload_n 4 K dL_join_3 rfl rfl 1 rfl ?_
  refine z_xVi (As := [.int (iZ p0)]) (rest := [.int (iZ 0), .ref (aD g 100)]) 7 K 0 (by decide) gMa rfl rfl (x_X8_join l g _ p0 _ _ _ _ _ _ hI0 hP (by omega) hk9 hlt) (cwV 1 K.1.2.2.2.2 gL_join_X8_join rfl rfl rfl (by decide +kernel) ⟨Nat.le_of_ble_eq_true rfl, Nat.le_of_ble_eq_true rfl⟩) rfl (Nat.le_of_ble_eq_true rfl) dL_join_4 rfl ⟨Nat.le_of_ble_eq_true rfl, Nat.le_of_ble_eq_true rfl⟩ rfl (fun E9 C9 hx9 => ?_) (fun z_1 C_2 hp_4 => ?_)
  · skip
    obtain ⟨hIx, hsx, hdx⟩ := hx9
    rcases hdx with ⟨rfl, hd0⟩ | ⟨rfl, hd1⟩
    · refine z_catch K hNc [] ⟨0, 9, 12, 13⟩ [⟨0, 9, 15, 17⟩] hTab (fun z hz => nomatch hz) (by decide) (by decide) (by decide +kernel) (by decide) (n := 12) rfl (fun q9 => ?_)
      refine z_astore_n (lv' := [(3, .ref q9), (0, .ref (aD g 0)), (1, .int (iZ p0)), (2, .ref (aD g 100))]) 13 K dL_join_12 rfl rfl (by decide) rfl ?_
      refine z_iconst 14 K dL_join_13 rfl ?_
      refine z_wid (kc' := 2) (ks' := 12) (by decide) (by decide) ?_
      exact z_iret K rfl dL_join_14 ⟨hIx, fun q hq hne => hsx q hq, ⟨o, (hsx 100 (by omega)).trans hOut⟩, hd0.symm⟩
    · refine z_catch K hNc [⟨0, 9, 12, 13⟩] ⟨0, 9, 15, 17⟩ [] hTab (List.forall_mem_cons.mpr ⟨⟨by decide, _, (by decide +kernel : Cond.classLink RL 13 "java/lang/IndexOutOfBoundsException" ∈ wsL_join), by decide⟩, fun z hz => nomatch hz⟩) (by decide) (by decide) (by decide +kernel) (by decide) (n := 15) rfl (fun q9 => ?_)
      refine z_astore_n (lv' := [(3, .ref q9), (0, .ref (aD g 0)), (1, .int (iZ p0)), (2, .ref (aD g 100))]) 16 K dL_join_15 rfl rfl (by decide) rfl ?_
      refine z_iconst 17 K dL_join_16 rfl ?_
      refine z_wid (kc' := 2) (ks' := 12) (by decide) (by decide) ?_
      exact z_iret K rfl dL_join_17 ⟨hIx, fun q hq hne => hsx q hq, ⟨o, (hsx 100 (by omega)).trans hOut⟩, hd1.symm⟩
  exact hp_4.elim
set_option maxRecDepth 100000 in
theorem w_L_join (l : Launch) (g : zG) (C : Nat → va_E) (p0 : Int) (o : Nat → Int64) (f : Int → Int) (past : Int → Int) (tx : Int → Int) (k : Int) (ty : Int) (cap : Int) (hOut : C 100 = eJ g 1 o) (hI : IW g C f k past ty tx) (hP : PW cap f k past ty tx) (h_p0 : -2147483648 ≤ p0 ∧ p0 < 2147483648) (hlt : l.stackTraces = false) : Met l yL_join wsL_join ({ frames := 8, cells := 2, slots := 12, locals := 127 } : Room) (zPre2 g C [.ref (aD g 0), .int (iZ p0), .ref (aD g 100)]) (zQi g (fun z C' => IW g C' (if kJoi f p0 = 0 then mJoin f p0 else f) (if kJoi f p0 = 0 then mKp k + 1 else k) (if kJoi f p0 = 0 then mSav f past k else past) ty tx ∧ (∀ q, 94 ≤ q → q ≠ 100 → C' q = C q) ∧ (∃ o2 : Nat → Int64, C' 100 = eJ g 1 o2 ∧ (kJoi f p0 = 0 → o2 0 = (iZ (f (2 * p0 + 4) + f (2 * p0 + 6))).toInt64)) ∧ z = kJoi f p0)) 2 12 (zA g) := by
  by_cases hk : kJoi f p0 = 0
  · refine z_monI2 (a_L_join l g C p0 o f past tx k ty cap hOut hI hP h_p0 hk) (fun z C' h => ?_)
    rw [if_pos hk, if_pos hk, if_pos hk]
    exact ⟨h.1, h.2.1, ⟨_, h.2.2.1, fun _ => vp_updL_0 _ _⟩, h.2.2.2.trans hk.symm⟩
  · refine z_monI2 (x_L_join l g C p0 o f past tx k ty cap hOut hI hP h_p0 hk hlt) (fun z C' h => ?_)
    rw [if_neg hk, if_neg hk, if_neg hk]
    exact ⟨h.1, h.2.1, ⟨h.2.2.1.choose, h.2.2.1.choose_spec, fun q => absurd q hk⟩, h.2.2.2⟩
set_option maxHeartbeats 4000000 in
set_option maxRecDepth 100000 in
theorem a_L_split (l : Launch) (g : zG) (C : Nat → va_E) (p0 : Int) (y : Int) (o : Nat → Int64) (f : Int → Int) (past : Int → Int) (tx : Int → Int) (k : Int) (ty : Int) (cap : Int) (hOut : C 100 = eJ g 1 o) (hI : IW g C f k past ty tx) (hP : PW cap f k past ty tx) (h_p0 : -2147483648 ≤ p0 ∧ p0 < 2147483648) (h_y : -2147483648 ≤ y ∧ y < 2147483648) (hk9 : kSpl f p0 y = 0) : Met l yL_split wsL_split ({ frames := 8, cells := 2, slots := 12, locals := 128 } : Room) (zPre2 g C [.ref (aD g 0), .int (iZ p0), .int (iZ y), .ref (aD g 100)]) (zQi g (fun z C' => IW g C' (mSplit f p0 y) (mKp k + 1) (mSav f past k) (ty) (tx) ∧ (∀ q, 94 ≤ q → q ≠ 100 → C' q = C q) ∧ C' 100 = eJ g 1 (vp_updL o (Int.toNat 0) (iZ (f 2)).toInt64) ∧ z = 0)) 2 12 (zA g) := by
  refine z_enterT RL rfl (by decide) rfl (Nat.le_of_ble_eq_true rfl) ?_
  intro p e s m args below meth c K harg hTab hNc
  refine z_sub (lv' := [(0, .ref (aD g 0)), (1, .int (iZ p0)), (2, .int (iZ y)), (3, .ref (aD g 100))]) [0, 1, 2, 3] rfl ?_
  have hI0 := hI
  obtain ⟨⟨gMa, -⟩, -, -, -, -, -⟩ := id hI
  refine z_aload_n 1 K dL_split_0 rfl rfl 3 rfl ?_
  refine z_iconst 2 K dL_split_1 rfl ?_
  refine z_aload_n 3 K dL_split_2 rfl rfl 0 rfl ?_
  refine z_iload_n 4 K dL_split_3 rfl rfl 1 rfl ?_
  refine z_iload_n 5 K dL_split_4 rfl rfl 2 rfl ?_
  refine z_vVi (As := [.int (iZ p0), .int (iZ y)]) (rest := [.int (iZ 0), .ref (aD g 100)]) 8 K 0 (by decide) gMa rfl rfl (a_X8_split l g _ p0 y _ _ _ _ _ _ hI0 hP (by omega) (by omega) hk9) (cwV 2 K.1.2.2.2.2 gL_split_X8_split rfl rfl rfl (by decide +kernel) ⟨Nat.le_of_ble_eq_true rfl, Nat.le_of_ble_eq_true rfl⟩) rfl (Nat.le_of_ble_eq_true rfl) dL_split_5 rfl ⟨Nat.le_of_ble_eq_true rfl, Nat.le_of_ble_eq_true rfl⟩ rfl (fun z_1 C_2 hp_5 => ?_)
  obtain ⟨hIn_5, hsm_5, hz_5⟩ := hp_5
  refine z_top (f 2) hz_5 ?_
  have hf_5_100 : C_2 100 = eJ g 1 o := (hsm_5 100 (by omega)).trans hOut
  refine z_i2l 9 K dL_split_8 rfl ?_
  refine z_last (f := o) 10 K 100 (by decide) hf_5_100 (by decide) (by decide) (by decide) dL_split_9 rfl ?_
  refine z_goto (tgt := 25) K dL_split_10 (by decide) ?_
  refine z_iconst 26 K dL_split_25 rfl ?_
  refine z_wid (kc' := 2) (ks' := 12) (by decide) (by decide) ?_
  exact z_iret K rfl dL_split_26 ⟨IW_cong hIn_5 (fun q hq => ((va_up_ne _ _ (by omega)).trans rfl)), fun q hq hne => (((va_up_ne _ _ (by omega)).trans rfl)).trans (hsm_5 q hq), (va_up_eq _ 100 _), rfl⟩
set_option maxHeartbeats 4000000 in
set_option maxRecDepth 100000 in
theorem x_L_split (l : Launch) (g : zG) (C : Nat → va_E) (p0 : Int) (y : Int) (o : Nat → Int64) (f : Int → Int) (past : Int → Int) (tx : Int → Int) (k : Int) (ty : Int) (cap : Int) (hOut : C 100 = eJ g 1 o) (hI : IW g C f k past ty tx) (hP : PW cap f k past ty tx) (h_p0 : -2147483648 ≤ p0 ∧ p0 < 2147483648) (h_y : -2147483648 ≤ y ∧ y < 2147483648) (hk9 : kSpl f p0 y ≠ 0) (hlt : l.stackTraces = false) : Met l yL_split wsL_split ({ frames := 8, cells := 2, slots := 12, locals := 128 } : Room) (zPre2 g C [.ref (aD g 0), .int (iZ p0), .int (iZ y), .ref (aD g 100)]) (zQi g (fun z C' => IW g C' f k past ty tx ∧ (∀ q, 94 ≤ q → q ≠ 100 → C' q = C q) ∧ (∃ o2, C' 100 = eJ g 1 o2) ∧ z = kSpl f p0 y)) 2 12 (zA g) := by
  refine z_enterT RL rfl (by decide) rfl (Nat.le_of_ble_eq_true rfl) ?_
  intro p e s m args below meth c K harg hTab hNc
  refine z_sub (lv' := [(0, .ref (aD g 0)), (1, .int (iZ p0)), (2, .int (iZ y)), (3, .ref (aD g 100))]) [0, 1, 2, 3] rfl ?_
  have hI0 := hI
  obtain ⟨⟨gMa, -⟩, -, -, -, -, -⟩ := id hI
  refine z_aload_n 1 K dL_split_0 rfl rfl 3 rfl ?_
  refine z_iconst 2 K dL_split_1 rfl ?_
  refine z_aload_n 3 K dL_split_2 rfl rfl 0 rfl ?_
  refine z_iload_n 4 K dL_split_3 rfl rfl 1 rfl ?_
  refine z_iload_n 5 K dL_split_4 rfl rfl 2 rfl ?_
  refine z_xVi (As := [.int (iZ p0), .int (iZ y)]) (rest := [.int (iZ 0), .ref (aD g 100)]) 8 K 0 (by decide) gMa rfl rfl (x_X8_split l g _ p0 y _ _ _ _ _ _ hI0 hP (by omega) (by omega) hk9 hlt) (cwV 2 K.1.2.2.2.2 gL_split_X8_split rfl rfl rfl (by decide +kernel) ⟨Nat.le_of_ble_eq_true rfl, Nat.le_of_ble_eq_true rfl⟩) rfl (Nat.le_of_ble_eq_true rfl) dL_split_5 rfl ⟨Nat.le_of_ble_eq_true rfl, Nat.le_of_ble_eq_true rfl⟩ rfl (fun E9 C9 hx9 => ?_) (fun z_1 C_2 hp_5 => ?_)
  · skip
    obtain ⟨hIx, hsx, hdx⟩ := hx9
    rcases hdx with ⟨rfl, hd0⟩ | ⟨rfl, hd1⟩ | ⟨rfl, hd2⟩
    · refine z_catch K hNc [] ⟨0, 10, 13, 13⟩ [⟨0, 10, 17, 15⟩, ⟨0, 10, 21, 17⟩] hTab (fun z hz => nomatch hz) (by decide) (by decide) (by decide +kernel) (by decide) (n := 13) rfl (fun q9 => ?_)
      refine z_astore (lv' := [(4, .ref q9), (0, .ref (aD g 0)), (1, .int (iZ p0)), (2, .int (iZ y)), (3, .ref (aD g 100))]) 15 K dL_split_13 rfl (by decide) rfl ?_
      refine z_iconst 16 K dL_split_15 rfl ?_
      refine z_wid (kc' := 2) (ks' := 12) (by decide) (by decide) ?_
      exact z_iret K rfl dL_split_16 ⟨hIx, fun q hq hne => hsx q hq, ⟨o, (hsx 100 (by omega)).trans hOut⟩, hd0.symm⟩
    · refine z_catch K hNc [⟨0, 10, 13, 13⟩] ⟨0, 10, 17, 15⟩ [⟨0, 10, 21, 17⟩] hTab (List.forall_mem_cons.mpr ⟨⟨by decide, _, (by decide +kernel : Cond.classLink RL 13 "java/lang/IndexOutOfBoundsException" ∈ wsL_split), by decide⟩, fun z hz => nomatch hz⟩) (by decide) (by decide) (by decide +kernel) (by decide) (n := 17) rfl (fun q9 => ?_)
      refine z_astore (lv' := [(4, .ref q9), (0, .ref (aD g 0)), (1, .int (iZ p0)), (2, .int (iZ y)), (3, .ref (aD g 100))]) 19 K dL_split_17 rfl (by decide) rfl ?_
      refine z_iconst 20 K dL_split_19 rfl ?_
      refine z_wid (kc' := 2) (ks' := 12) (by decide) (by decide) ?_
      exact z_iret K rfl dL_split_20 ⟨hIx, fun q hq hne => hsx q hq, ⟨o, (hsx 100 (by omega)).trans hOut⟩, hd1.symm⟩
    · refine z_catch K hNc [⟨0, 10, 13, 13⟩, ⟨0, 10, 17, 15⟩] ⟨0, 10, 21, 17⟩ [] hTab (List.forall_mem_cons.mpr ⟨⟨by decide, _, (by decide +kernel : Cond.classLink RL 13 "java/lang/IndexOutOfBoundsException" ∈ wsL_split), by decide⟩, List.forall_mem_cons.mpr ⟨⟨by decide, _, (by decide +kernel : Cond.classLink RL 15 "java/lang/IllegalArgumentException" ∈ wsL_split), by decide⟩, fun z hz => nomatch hz⟩⟩) (by decide) (by decide) (by decide +kernel) (by decide) (n := 21) rfl (fun q9 => ?_)
      refine z_astore (lv' := [(4, .ref q9), (0, .ref (aD g 0)), (1, .int (iZ p0)), (2, .int (iZ y)), (3, .ref (aD g 100))]) 23 K dL_split_21 rfl (by decide) rfl ?_
      refine z_iconst 24 K dL_split_23 rfl ?_
      refine z_wid (kc' := 2) (ks' := 12) (by decide) (by decide) ?_
      exact z_iret K rfl dL_split_24 ⟨hIx, fun q hq hne => hsx q hq, ⟨o, (hsx 100 (by omega)).trans hOut⟩, hd2.symm⟩
  exact hp_5.elim
set_option maxRecDepth 100000 in
theorem w_L_split (l : Launch) (g : zG) (C : Nat → va_E) (p0 : Int) (y : Int) (o : Nat → Int64) (f : Int → Int) (past : Int → Int) (tx : Int → Int) (k : Int) (ty : Int) (cap : Int) (hOut : C 100 = eJ g 1 o) (hI : IW g C f k past ty tx) (hP : PW cap f k past ty tx) (h_p0 : -2147483648 ≤ p0 ∧ p0 < 2147483648) (h_y : -2147483648 ≤ y ∧ y < 2147483648) (hlt : l.stackTraces = false) : Met l yL_split wsL_split ({ frames := 8, cells := 2, slots := 12, locals := 128 } : Room) (zPre2 g C [.ref (aD g 0), .int (iZ p0), .int (iZ y), .ref (aD g 100)]) (zQi g (fun z C' => IW g C' (if kSpl f p0 y = 0 then mSplit f p0 y else f) (if kSpl f p0 y = 0 then mKp k + 1 else k) (if kSpl f p0 y = 0 then mSav f past k else past) ty tx ∧ (∀ q, 94 ≤ q → q ≠ 100 → C' q = C q) ∧ (∃ o2 : Nat → Int64, C' 100 = eJ g 1 o2 ∧ (kSpl f p0 y = 0 → o2 0 = (iZ (f 2)).toInt64)) ∧ z = kSpl f p0 y)) 2 12 (zA g) := by
  by_cases hk : kSpl f p0 y = 0
  · refine z_monI2 (a_L_split l g C p0 y o f past tx k ty cap hOut hI hP h_p0 h_y hk) (fun z C' h => ?_)
    rw [if_pos hk, if_pos hk, if_pos hk]
    exact ⟨h.1, h.2.1, ⟨_, h.2.2.1, fun _ => vp_updL_0 _ _⟩, h.2.2.2.trans hk.symm⟩
  · refine z_monI2 (x_L_split l g C p0 y o f past tx k ty cap hOut hI hP h_p0 h_y hk hlt) (fun z C' h => ?_)
    rw [if_neg hk, if_neg hk, if_neg hk]
    exact ⟨h.1, h.2.1, ⟨h.2.2.1.choose, h.2.2.1.choose_spec, fun q => absurd q hk⟩, h.2.2.2⟩
set_option maxHeartbeats 4000000 in
set_option maxRecDepth 100000 in
theorem a_L_cite (l : Launch) (g : zG) (C : Nat → va_E) (a : Int) (p0 : Int) (y : Int) (o : Nat → Int64) (f : Int → Int) (past : Int → Int) (tx : Int → Int) (k : Int) (ty : Int) (cap : Int) (hOut : C 100 = eJ g 1 o) (hI : IW g C f k past ty tx) (hP : PW cap f k past ty tx) (h_a : -2147483648 ≤ a ∧ a < 2147483648) (h_p0 : -2147483648 ≤ p0 ∧ p0 < 2147483648) (h_y : -2147483648 ≤ y ∧ y < 2147483648) (hk9 : kCit f a p0 y = 0) : Met l yL_cite wsL_cite ({ frames := 8, cells := 4, slots := 24, locals := 127 } : Room) (zPre2 g C [.ref (aD g 0), .int (iZ a), .int (iZ p0), .int (iZ y), .ref (aD g 100)]) (zQi g (fun z C' => IW g C' (mName f a p0 y) (mKp k + 1) (mSav f past k) (ty) (tx) ∧ (∀ q, 94 ≤ q → q ≠ 100 → C' q = C q) ∧ C' 100 = eJ g 1 (vp_updL o (Int.toNat 0) (iZ (f (32 * a + 65) + 1)).toInt64) ∧ z = 0)) 4 24 (zA g) := by
  refine z_enterT RL rfl (by decide) rfl (Nat.le_of_ble_eq_true rfl) ?_
  intro p e s m args below meth c K harg hTab hNc
  refine z_sub (lv' := [(0, .ref (aD g 0)), (1, .int (iZ a)), (2, .int (iZ p0)), (3, .int (iZ y)), (4, .ref (aD g 100))]) [0, 1, 2, 3, 4] rfl ?_
  have hI0 := hI
  obtain ⟨⟨gMa, -⟩, -, -, -, -, -⟩ := id hI
  refine z_aload 2 K dL_cite_0 rfl 4 rfl ?_
  refine z_iconst 3 K dL_cite_2 rfl ?_
  refine z_aload_n 4 K dL_cite_3 rfl rfl 0 rfl ?_
  refine z_iload_n 5 K dL_cite_4 rfl rfl 1 rfl ?_
  refine z_iload_n 6 K dL_cite_5 rfl rfl 2 rfl ?_
  refine z_iload_n 7 K dL_cite_6 rfl rfl 3 rfl ?_
  refine z_vVi (As := [.int (iZ a), .int (iZ p0), .int (iZ y)]) (rest := [.int (iZ 0), .ref (aD g 100)]) 10 K 0 (by decide) gMa rfl rfl (a_X8_cite l g _ a p0 y _ _ _ _ _ _ hI0 hP (by omega) (by omega) (by omega) hk9) (cwV 3 K.1.2.2.2.2 gL_cite_X8_cite rfl rfl rfl (by decide +kernel) ⟨Nat.le_of_ble_eq_true rfl, Nat.le_of_ble_eq_true rfl⟩) rfl (Nat.le_of_ble_eq_true rfl) dL_cite_7 rfl ⟨Nat.le_of_ble_eq_true rfl, Nat.le_of_ble_eq_true rfl⟩ rfl (fun z_1 C_2 hp_7 => ?_)
  obtain ⟨hIn_7, hsm_7, hz_7⟩ := hp_7
  refine z_top (f (32 * a + 65) + 1) hz_7 ?_
  have hf_7_100 : C_2 100 = eJ g 1 o := (hsm_7 100 (by omega)).trans hOut
  refine z_i2l 11 K dL_cite_10 rfl ?_
  refine z_last (f := o) 12 K 100 (by decide) hf_7_100 (by decide) (by decide) (by decide) dL_cite_11 rfl ?_
  refine z_goto (tgt := 27) K dL_cite_12 (by decide) ?_
  refine z_iconst 28 K dL_cite_27 rfl ?_
  refine z_wid (kc' := 4) (ks' := 24) (by decide) (by decide) ?_
  exact z_iret K rfl dL_cite_28 ⟨IW_cong hIn_7 (fun q hq => ((va_up_ne _ _ (by omega)).trans rfl)), fun q hq hne => (((va_up_ne _ _ (by omega)).trans rfl)).trans (hsm_7 q hq), (va_up_eq _ 100 _), rfl⟩
set_option maxHeartbeats 4000000 in
set_option maxRecDepth 100000 in
theorem x_L_cite (l : Launch) (g : zG) (C : Nat → va_E) (a : Int) (p0 : Int) (y : Int) (o : Nat → Int64) (f : Int → Int) (past : Int → Int) (tx : Int → Int) (k : Int) (ty : Int) (cap : Int) (hOut : C 100 = eJ g 1 o) (hI : IW g C f k past ty tx) (hP : PW cap f k past ty tx) (h_a : -2147483648 ≤ a ∧ a < 2147483648) (h_p0 : -2147483648 ≤ p0 ∧ p0 < 2147483648) (h_y : -2147483648 ≤ y ∧ y < 2147483648) (hk9 : kCit f a p0 y ≠ 0) (hlt : l.stackTraces = false) : Met l yL_cite wsL_cite ({ frames := 8, cells := 4, slots := 24, locals := 127 } : Room) (zPre2 g C [.ref (aD g 0), .int (iZ a), .int (iZ p0), .int (iZ y), .ref (aD g 100)]) (zQi g (fun z C' => IW g C' f k past ty tx ∧ (∀ q, 94 ≤ q → q ≠ 100 → C' q = C q) ∧ (∃ o2, C' 100 = eJ g 1 o2) ∧ z = kCit f a p0 y)) 4 24 (zA g) := by
  refine z_enterT RL rfl (by decide) rfl (Nat.le_of_ble_eq_true rfl) ?_
  intro p e s m args below meth c K harg hTab hNc
  refine z_sub (lv' := [(0, .ref (aD g 0)), (1, .int (iZ a)), (2, .int (iZ p0)), (3, .int (iZ y)), (4, .ref (aD g 100))]) [0, 1, 2, 3, 4] rfl ?_
  have hI0 := hI
  obtain ⟨⟨gMa, -⟩, -, -, -, -, -⟩ := id hI
  refine z_aload 2 K dL_cite_0 rfl 4 rfl ?_
  refine z_iconst 3 K dL_cite_2 rfl ?_
  refine z_aload_n 4 K dL_cite_3 rfl rfl 0 rfl ?_
  refine z_iload_n 5 K dL_cite_4 rfl rfl 1 rfl ?_
  refine z_iload_n 6 K dL_cite_5 rfl rfl 2 rfl ?_
  refine z_iload_n 7 K dL_cite_6 rfl rfl 3 rfl ?_
  refine z_xVi (As := [.int (iZ a), .int (iZ p0), .int (iZ y)]) (rest := [.int (iZ 0), .ref (aD g 100)]) 10 K 0 (by decide) gMa rfl rfl (x_X8_cite l g _ a p0 y _ _ _ _ _ _ hI0 hP (by omega) (by omega) (by omega) hk9 hlt) (cwV 3 K.1.2.2.2.2 gL_cite_X8_cite rfl rfl rfl (by decide +kernel) ⟨Nat.le_of_ble_eq_true rfl, Nat.le_of_ble_eq_true rfl⟩) rfl (Nat.le_of_ble_eq_true rfl) dL_cite_7 rfl ⟨Nat.le_of_ble_eq_true rfl, Nat.le_of_ble_eq_true rfl⟩ rfl (fun E9 C9 hx9 => ?_) (fun z_1 C_2 hp_7 => ?_)
  · skip
    obtain ⟨hIx, hsx, hdx⟩ := hx9
    rcases hdx with ⟨rfl, hd0⟩ | ⟨rfl, hd1⟩ | ⟨rfl, hd2⟩
    · refine z_catch K hNc [] ⟨0, 12, 15, 13⟩ [⟨0, 12, 19, 15⟩, ⟨0, 12, 23, 17⟩] hTab (fun z hz => nomatch hz) (by decide) (by decide) (by decide +kernel) (by decide) (n := 15) rfl (fun q9 => ?_)
      refine z_astore (lv' := [(5, .ref q9), (0, .ref (aD g 0)), (1, .int (iZ a)), (2, .int (iZ p0)), (3, .int (iZ y)), (4, .ref (aD g 100))]) 17 K dL_cite_15 rfl (by decide) rfl ?_
      refine z_iconst 18 K dL_cite_17 rfl ?_
      refine z_wid (kc' := 4) (ks' := 24) (by decide) (by decide) ?_
      exact z_iret K rfl dL_cite_18 ⟨hIx, fun q hq hne => hsx q hq, ⟨o, (hsx 100 (by omega)).trans hOut⟩, hd0.symm⟩
    · refine z_catch K hNc [⟨0, 12, 15, 13⟩] ⟨0, 12, 19, 15⟩ [⟨0, 12, 23, 17⟩] hTab (List.forall_mem_cons.mpr ⟨⟨by decide, _, (by decide +kernel : Cond.classLink RL 13 "java/lang/IndexOutOfBoundsException" ∈ wsL_cite), by decide⟩, fun z hz => nomatch hz⟩) (by decide) (by decide) (by decide +kernel) (by decide) (n := 19) rfl (fun q9 => ?_)
      refine z_astore (lv' := [(5, .ref q9), (0, .ref (aD g 0)), (1, .int (iZ a)), (2, .int (iZ p0)), (3, .int (iZ y)), (4, .ref (aD g 100))]) 21 K dL_cite_19 rfl (by decide) rfl ?_
      refine z_iconst 22 K dL_cite_21 rfl ?_
      refine z_wid (kc' := 4) (ks' := 24) (by decide) (by decide) ?_
      exact z_iret K rfl dL_cite_22 ⟨hIx, fun q hq hne => hsx q hq, ⟨o, (hsx 100 (by omega)).trans hOut⟩, hd1.symm⟩
    · refine z_catch K hNc [⟨0, 12, 15, 13⟩, ⟨0, 12, 19, 15⟩] ⟨0, 12, 23, 17⟩ [] hTab (List.forall_mem_cons.mpr ⟨⟨by decide, _, (by decide +kernel : Cond.classLink RL 13 "java/lang/IndexOutOfBoundsException" ∈ wsL_cite), by decide⟩, List.forall_mem_cons.mpr ⟨⟨by decide, _, (by decide +kernel : Cond.classLink RL 15 "java/lang/IllegalArgumentException" ∈ wsL_cite), by decide⟩, fun z hz => nomatch hz⟩⟩) (by decide) (by decide) (by decide +kernel) (by decide) (n := 23) rfl (fun q9 => ?_)
      refine z_astore (lv' := [(5, .ref q9), (0, .ref (aD g 0)), (1, .int (iZ a)), (2, .int (iZ p0)), (3, .int (iZ y)), (4, .ref (aD g 100))]) 25 K dL_cite_23 rfl (by decide) rfl ?_
      refine z_iconst 26 K dL_cite_25 rfl ?_
      refine z_wid (kc' := 4) (ks' := 24) (by decide) (by decide) ?_
      exact z_iret K rfl dL_cite_26 ⟨hIx, fun q hq hne => hsx q hq, ⟨o, (hsx 100 (by omega)).trans hOut⟩, hd2.symm⟩
  exact hp_7.elim
set_option maxRecDepth 100000 in
theorem w_L_cite (l : Launch) (g : zG) (C : Nat → va_E) (a : Int) (p0 : Int) (y : Int) (o : Nat → Int64) (f : Int → Int) (past : Int → Int) (tx : Int → Int) (k : Int) (ty : Int) (cap : Int) (hOut : C 100 = eJ g 1 o) (hI : IW g C f k past ty tx) (hP : PW cap f k past ty tx) (h_a : -2147483648 ≤ a ∧ a < 2147483648) (h_p0 : -2147483648 ≤ p0 ∧ p0 < 2147483648) (h_y : -2147483648 ≤ y ∧ y < 2147483648) (hlt : l.stackTraces = false) : Met l yL_cite wsL_cite ({ frames := 8, cells := 4, slots := 24, locals := 127 } : Room) (zPre2 g C [.ref (aD g 0), .int (iZ a), .int (iZ p0), .int (iZ y), .ref (aD g 100)]) (zQi g (fun z C' => IW g C' (if kCit f a p0 y = 0 then mName f a p0 y else f) (if kCit f a p0 y = 0 then mKp k + 1 else k) (if kCit f a p0 y = 0 then mSav f past k else past) ty tx ∧ (∀ q, 94 ≤ q → q ≠ 100 → C' q = C q) ∧ (∃ o2 : Nat → Int64, C' 100 = eJ g 1 o2 ∧ (kCit f a p0 y = 0 → o2 0 = (iZ (f (32 * a + 65) + 1)).toInt64)) ∧ z = kCit f a p0 y)) 4 24 (zA g) := by
  by_cases hk : kCit f a p0 y = 0
  · refine z_monI2 (a_L_cite l g C a p0 y o f past tx k ty cap hOut hI hP h_a h_p0 h_y hk) (fun z C' h => ?_)
    rw [if_pos hk, if_pos hk, if_pos hk]
    exact ⟨h.1, h.2.1, ⟨_, h.2.2.1, fun _ => vp_updL_0 _ _⟩, h.2.2.2.trans hk.symm⟩
  · refine z_monI2 (x_L_cite l g C a p0 y o f past tx k ty cap hOut hI hP h_a h_p0 h_y hk hlt) (fun z C' h => ?_)
    rw [if_neg hk, if_neg hk, if_neg hk]
    exact ⟨h.1, h.2.1, ⟨h.2.2.1.choose, h.2.2.1.choose_spec, fun q => absurd q hk⟩, h.2.2.2⟩
set_option maxHeartbeats 4000000 in
set_option maxRecDepth 100000 in
theorem a_L_clean (l : Launch) (g : zG) (C : Nat → va_E) (a : Int) (o : Nat → Int64) (f : Int → Int) (past : Int → Int) (tx : Int → Int) (k : Int) (ty : Int) (cap : Int) (hOut : C 100 = eJ g 1 o) (hI : IW g C f k past ty tx) (hP : PW cap f k past ty tx) (h_a : -2147483648 ≤ a ∧ a < 2147483648) (hk9 : kPar a = 0) : Met l yL_clean wsL_clean ({ frames := 8, cells := 1, slots := 6, locals := 125 } : Room) (zPre2 g C [.ref (aD g 0), .int (iZ a), .ref (aD g 100)]) (zQi g (fun z C' => IW g C' (mClean f a) (mKp k + 1) (mSav f past k) (ty) (tx) ∧ (∀ q, 94 ≤ q → q ≠ 100 → C' q = C q) ∧ C' 100 = eJ g 1 (vp_updL o (Int.toNat 0) (iZ (f (32 * a + 65) - mLeft f a (f (32 * a + 65)))).toInt64) ∧ z = 0)) 1 6 (zA g) := by
  refine z_enterT RL rfl (by decide) rfl (Nat.le_of_ble_eq_true rfl) ?_
  intro p e s m args below meth c K harg hTab hNc
  refine z_sub (lv' := [(0, .ref (aD g 0)), (1, .int (iZ a)), (2, .ref (aD g 100))]) [0, 1, 2] rfl ?_
  have hI0 := hI
  obtain ⟨⟨gMa, -⟩, -, -, -, -, -⟩ := id hI
  refine z_aload_n 1 K dL_clean_0 rfl rfl 2 rfl ?_
  refine z_iconst 2 K dL_clean_1 rfl ?_
  refine z_aload_n 3 K dL_clean_2 rfl rfl 0 rfl ?_
  refine z_iload_n 4 K dL_clean_3 rfl rfl 1 rfl ?_
  refine z_vVi (As := [.int (iZ a)]) (rest := [.int (iZ 0), .ref (aD g 100)]) 7 K 0 (by decide) gMa rfl rfl (a_X8_clean l g _ a _ _ _ _ _ _ hI0 hP (by omega) hk9) (cwV 1 K.1.2.2.2.2 gL_clean_X8_clean rfl rfl rfl (by decide +kernel) ⟨Nat.le_of_ble_eq_true rfl, Nat.le_of_ble_eq_true rfl⟩) rfl (Nat.le_of_ble_eq_true rfl) dL_clean_4 rfl ⟨Nat.le_of_ble_eq_true rfl, Nat.le_of_ble_eq_true rfl⟩ rfl (fun z_1 C_2 hp_4 => ?_)
  obtain ⟨hIn_4, hsm_4, hz_4⟩ := hp_4
  refine z_top (f (32 * a + 65) - (mLeft f a (f (32 * a + 65)))) hz_4 ?_
  have hf_4_100 : C_2 100 = eJ g 1 o := (hsm_4 100 (by omega)).trans hOut
  refine z_i2l 8 K dL_clean_7 rfl ?_
  refine z_last (f := o) 9 K 100 (by decide) hf_4_100 (by decide) (by decide) (by decide) dL_clean_8 rfl ?_
  refine z_goto (tgt := 15) K dL_clean_9 (by decide) ?_
  refine z_iconst 16 K dL_clean_15 rfl ?_
  refine z_wid (kc' := 1) (ks' := 6) (by decide) (by decide) ?_
  exact z_iret K rfl dL_clean_16 ⟨IW_cong hIn_4 (fun q hq => ((va_up_ne _ _ (by omega)).trans rfl)), fun q hq hne => (((va_up_ne _ _ (by omega)).trans rfl)).trans (hsm_4 q hq), (va_up_eq _ 100 _), rfl⟩
set_option maxHeartbeats 4000000 in
set_option maxRecDepth 100000 in
theorem x_L_clean (l : Launch) (g : zG) (C : Nat → va_E) (a : Int) (o : Nat → Int64) (f : Int → Int) (past : Int → Int) (tx : Int → Int) (k : Int) (ty : Int) (cap : Int) (hOut : C 100 = eJ g 1 o) (hI : IW g C f k past ty tx) (hP : PW cap f k past ty tx) (h_a : -2147483648 ≤ a ∧ a < 2147483648) (hk9 : kPar a ≠ 0) (hlt : l.stackTraces = false) : Met l yL_clean wsL_clean ({ frames := 8, cells := 1, slots := 6, locals := 125 } : Room) (zPre2 g C [.ref (aD g 0), .int (iZ a), .ref (aD g 100)]) (zQi g (fun z C' => IW g C' f k past ty tx ∧ (∀ q, 94 ≤ q → q ≠ 100 → C' q = C q) ∧ (∃ o2, C' 100 = eJ g 1 o2) ∧ z = kPar a)) 1 6 (zA g) := by
  refine z_enterT RL rfl (by decide) rfl (Nat.le_of_ble_eq_true rfl) ?_
  intro p e s m args below meth c K harg hTab hNc
  refine z_sub (lv' := [(0, .ref (aD g 0)), (1, .int (iZ a)), (2, .ref (aD g 100))]) [0, 1, 2] rfl ?_
  have hI0 := hI
  obtain ⟨⟨gMa, -⟩, -, -, -, -, -⟩ := id hI
  refine z_aload_n 1 K dL_clean_0 rfl rfl 2 rfl ?_
  refine z_iconst 2 K dL_clean_1 rfl ?_
  refine z_aload_n 3 K dL_clean_2 rfl rfl 0 rfl ?_
  refine z_iload_n 4 K dL_clean_3 rfl rfl 1 rfl ?_
  refine z_xVi (As := [.int (iZ a)]) (rest := [.int (iZ 0), .ref (aD g 100)]) 7 K 0 (by decide) gMa rfl rfl (x_X8_clean l g _ a _ _ _ _ _ _ hI0 hP (by omega) hk9 hlt) (cwV 1 K.1.2.2.2.2 gL_clean_X8_clean rfl rfl rfl (by decide +kernel) ⟨Nat.le_of_ble_eq_true rfl, Nat.le_of_ble_eq_true rfl⟩) rfl (Nat.le_of_ble_eq_true rfl) dL_clean_4 rfl ⟨Nat.le_of_ble_eq_true rfl, Nat.le_of_ble_eq_true rfl⟩ rfl (fun E9 C9 hx9 => ?_) (fun z_1 C_2 hp_4 => ?_)
  · skip
    obtain ⟨hIx, hsx, hdx⟩ := hx9
    rcases hdx with ⟨rfl, hd0⟩
    · refine z_catch K hNc [] ⟨0, 9, 12, 13⟩ [] hTab (fun z hz => nomatch hz) (by decide) (by decide) (by decide +kernel) (by decide) (n := 12) rfl (fun q9 => ?_)
      refine z_astore_n (lv' := [(3, .ref q9), (0, .ref (aD g 0)), (1, .int (iZ a)), (2, .ref (aD g 100))]) 13 K dL_clean_12 rfl rfl (by decide) rfl ?_
      refine z_iconst 14 K dL_clean_13 rfl ?_
      refine z_wid (kc' := 1) (ks' := 6) (by decide) (by decide) ?_
      exact z_iret K rfl dL_clean_14 ⟨hIx, fun q hq hne => hsx q hq, ⟨o, (hsx 100 (by omega)).trans hOut⟩, hd0.symm⟩
  exact hp_4.elim
set_option maxRecDepth 100000 in
theorem w_L_clean (l : Launch) (g : zG) (C : Nat → va_E) (a : Int) (o : Nat → Int64) (f : Int → Int) (past : Int → Int) (tx : Int → Int) (k : Int) (ty : Int) (cap : Int) (hOut : C 100 = eJ g 1 o) (hI : IW g C f k past ty tx) (hP : PW cap f k past ty tx) (h_a : -2147483648 ≤ a ∧ a < 2147483648) (hlt : l.stackTraces = false) : Met l yL_clean wsL_clean ({ frames := 8, cells := 1, slots := 6, locals := 125 } : Room) (zPre2 g C [.ref (aD g 0), .int (iZ a), .ref (aD g 100)]) (zQi g (fun z C' => IW g C' (if kPar a = 0 then mClean f a else f) (if kPar a = 0 then mKp k + 1 else k) (if kPar a = 0 then mSav f past k else past) ty tx ∧ (∀ q, 94 ≤ q → q ≠ 100 → C' q = C q) ∧ (∃ o2 : Nat → Int64, C' 100 = eJ g 1 o2 ∧ (kPar a = 0 → o2 0 = (iZ (f (32 * a + 65) - mLeft f a (f (32 * a + 65)))).toInt64)) ∧ z = kPar a)) 1 6 (zA g) := by
  by_cases hk : kPar a = 0
  · refine z_monI2 (a_L_clean l g C a o f past tx k ty cap hOut hI hP h_a hk) (fun z C' h => ?_)
    rw [if_pos hk, if_pos hk, if_pos hk]
    exact ⟨h.1, h.2.1, ⟨_, h.2.2.1, fun _ => vp_updL_0 _ _⟩, h.2.2.2.trans hk.symm⟩
  · refine z_monI2 (x_L_clean l g C a o f past tx k ty cap hOut hI hP h_a hk hlt) (fun z C' h => ?_)
    rw [if_neg hk, if_neg hk, if_neg hk]
    exact ⟨h.1, h.2.1, ⟨h.2.2.1.choose, h.2.2.1.choose_spec, fun q => absurd q hk⟩, h.2.2.2⟩
set_option maxHeartbeats 4000000 in
set_option maxRecDepth 100000 in
theorem a_L_print (l : Launch) (g : zG) (C : Nat → va_E) (a : Int) (o : Nat → Int64) (f : Int → Int) (past : Int → Int) (tx : Int → Int) (k : Int) (ty : Int) (cap : Int) (hOut : C 100 = eJ g 1 o) (hI : IW g C f k past ty tx) (hP : PW cap f k past ty tx) (h_a : -2147483648 ≤ a ∧ a < 2147483648) (hk9 : kPar a = 0) : Met l yL_print wsL_print ({ frames := 8, cells := 1, slots := 6, locals := 128 } : Room) (zPre2 g C [.ref (aD g 0), .int (iZ a), .ref (aD g 100)]) (zQi g (fun z C' => IW g C' (mPrint f a) (mKp k + 1) (mSav f past k) (ty) (tx) ∧ (∀ q, 94 ≤ q → q ≠ 100 → C' q = C q) ∧ C' 100 = eJ g 1 (vp_updL o (Int.toNat 0) (iZ (b2i (sStale f a))).toInt64) ∧ z = 0)) 1 6 (zA g) := by
  refine z_enterT RL rfl (by decide) rfl (Nat.le_of_ble_eq_true rfl) ?_
  intro p e s m args below meth c K harg hTab hNc
  refine z_sub (lv' := [(0, .ref (aD g 0)), (1, .int (iZ a)), (2, .ref (aD g 100))]) [0, 1, 2] rfl ?_
  have hI0 := hI
  obtain ⟨⟨gMa, -⟩, -, -, -, -, -⟩ := id hI
  refine z_aload_n 1 K dL_print_0 rfl rfl 2 rfl ?_
  refine z_iconst 2 K dL_print_1 rfl ?_
  refine z_aload_n 3 K dL_print_2 rfl rfl 0 rfl ?_
  refine z_iload_n 4 K dL_print_3 rfl rfl 1 rfl ?_
  refine z_vVi (As := [.int (iZ a)]) (rest := [.int (iZ 0), .ref (aD g 100)]) 7 K 0 (by decide) gMa rfl rfl (a_X8_print l g _ a _ _ _ _ _ _ hI0 hP (by omega) hk9) (cwV 1 K.1.2.2.2.2 gL_print_X8_print rfl rfl rfl (by decide +kernel) ⟨Nat.le_of_ble_eq_true rfl, Nat.le_of_ble_eq_true rfl⟩) rfl (Nat.le_of_ble_eq_true rfl) dL_print_4 rfl ⟨Nat.le_of_ble_eq_true rfl, Nat.le_of_ble_eq_true rfl⟩ rfl (fun z_1 C_2 hp_4 => ?_)
  obtain ⟨hIn_4, hsm_4, hz_4⟩ := hp_4
  refine z_top (b2i (sStale f a)) hz_4 ?_
  have hf_4_100 : C_2 100 = eJ g 1 o := (hsm_4 100 (by omega)).trans hOut
  refine z_i2l 8 K dL_print_7 rfl ?_
  refine z_last (f := o) 9 K 100 (by decide) hf_4_100 (by decide) (by decide) (by decide) dL_print_8 rfl ?_
  refine z_goto (tgt := 15) K dL_print_9 (by decide) ?_
  refine z_iconst 16 K dL_print_15 rfl ?_
  refine z_wid (kc' := 1) (ks' := 6) (by decide) (by decide) ?_
  exact z_iret K rfl dL_print_16 ⟨IW_cong hIn_4 (fun q hq => ((va_up_ne _ _ (by omega)).trans rfl)), fun q hq hne => (((va_up_ne _ _ (by omega)).trans rfl)).trans (hsm_4 q hq), (va_up_eq _ 100 _), rfl⟩
set_option maxHeartbeats 4000000 in
set_option maxRecDepth 100000 in
theorem x_L_print (l : Launch) (g : zG) (C : Nat → va_E) (a : Int) (o : Nat → Int64) (f : Int → Int) (past : Int → Int) (tx : Int → Int) (k : Int) (ty : Int) (cap : Int) (hOut : C 100 = eJ g 1 o) (hI : IW g C f k past ty tx) (hP : PW cap f k past ty tx) (h_a : -2147483648 ≤ a ∧ a < 2147483648) (hk9 : kPar a ≠ 0) (hlt : l.stackTraces = false) : Met l yL_print wsL_print ({ frames := 8, cells := 1, slots := 6, locals := 128 } : Room) (zPre2 g C [.ref (aD g 0), .int (iZ a), .ref (aD g 100)]) (zQi g (fun z C' => IW g C' f k past ty tx ∧ (∀ q, 94 ≤ q → q ≠ 100 → C' q = C q) ∧ (∃ o2, C' 100 = eJ g 1 o2) ∧ z = kPar a)) 1 6 (zA g) := by
  refine z_enterT RL rfl (by decide) rfl (Nat.le_of_ble_eq_true rfl) ?_
  intro p e s m args below meth c K harg hTab hNc
  refine z_sub (lv' := [(0, .ref (aD g 0)), (1, .int (iZ a)), (2, .ref (aD g 100))]) [0, 1, 2] rfl ?_
  have hI0 := hI
  obtain ⟨⟨gMa, -⟩, -, -, -, -, -⟩ := id hI
  refine z_aload_n 1 K dL_print_0 rfl rfl 2 rfl ?_
  refine z_iconst 2 K dL_print_1 rfl ?_
  refine z_aload_n 3 K dL_print_2 rfl rfl 0 rfl ?_
  refine z_iload_n 4 K dL_print_3 rfl rfl 1 rfl ?_
  refine z_xVi (As := [.int (iZ a)]) (rest := [.int (iZ 0), .ref (aD g 100)]) 7 K 0 (by decide) gMa rfl rfl (x_X8_print l g _ a _ _ _ _ _ _ hI0 hP (by omega) hk9 hlt) (cwV 1 K.1.2.2.2.2 gL_print_X8_print rfl rfl rfl (by decide +kernel) ⟨Nat.le_of_ble_eq_true rfl, Nat.le_of_ble_eq_true rfl⟩) rfl (Nat.le_of_ble_eq_true rfl) dL_print_4 rfl ⟨Nat.le_of_ble_eq_true rfl, Nat.le_of_ble_eq_true rfl⟩ rfl (fun E9 C9 hx9 => ?_) (fun z_1 C_2 hp_4 => ?_)
  · skip
    obtain ⟨hIx, hsx, hdx⟩ := hx9
    rcases hdx with ⟨rfl, hd0⟩
    · refine z_catch K hNc [] ⟨0, 9, 12, 13⟩ [] hTab (fun z hz => nomatch hz) (by decide) (by decide) (by decide +kernel) (by decide) (n := 12) rfl (fun q9 => ?_)
      refine z_astore_n (lv' := [(3, .ref q9), (0, .ref (aD g 0)), (1, .int (iZ a)), (2, .ref (aD g 100))]) 13 K dL_print_12 rfl rfl (by decide) rfl ?_
      refine z_iconst 14 K dL_print_13 rfl ?_
      refine z_wid (kc' := 1) (ks' := 6) (by decide) (by decide) ?_
      exact z_iret K rfl dL_print_14 ⟨hIx, fun q hq hne => hsx q hq, ⟨o, (hsx 100 (by omega)).trans hOut⟩, hd0.symm⟩
  exact hp_4.elim
set_option maxRecDepth 100000 in
theorem w_L_print (l : Launch) (g : zG) (C : Nat → va_E) (a : Int) (o : Nat → Int64) (f : Int → Int) (past : Int → Int) (tx : Int → Int) (k : Int) (ty : Int) (cap : Int) (hOut : C 100 = eJ g 1 o) (hI : IW g C f k past ty tx) (hP : PW cap f k past ty tx) (h_a : -2147483648 ≤ a ∧ a < 2147483648) (hlt : l.stackTraces = false) : Met l yL_print wsL_print ({ frames := 8, cells := 1, slots := 6, locals := 128 } : Room) (zPre2 g C [.ref (aD g 0), .int (iZ a), .ref (aD g 100)]) (zQi g (fun z C' => IW g C' (if kPar a = 0 then mPrint f a else f) (if kPar a = 0 then mKp k + 1 else k) (if kPar a = 0 then mSav f past k else past) ty tx ∧ (∀ q, 94 ≤ q → q ≠ 100 → C' q = C q) ∧ (∃ o2 : Nat → Int64, C' 100 = eJ g 1 o2 ∧ (kPar a = 0 → o2 0 = (iZ (b2i (sStale f a))).toInt64)) ∧ z = kPar a)) 1 6 (zA g) := by
  by_cases hk : kPar a = 0
  · refine z_monI2 (a_L_print l g C a o f past tx k ty cap hOut hI hP h_a hk) (fun z C' h => ?_)
    rw [if_pos hk, if_pos hk, if_pos hk]
    exact ⟨h.1, h.2.1, ⟨_, h.2.2.1, fun _ => vp_updL_0 _ _⟩, h.2.2.2.trans hk.symm⟩
  · refine z_monI2 (x_L_print l g C a o f past tx k ty cap hOut hI hP h_a hk hlt) (fun z C' h => ?_)
    rw [if_neg hk, if_neg hk, if_neg hk]
    exact ⟨h.1, h.2.1, ⟨h.2.2.1.choose, h.2.2.1.choose_spec, fun q => absurd q hk⟩, h.2.2.2⟩
set_option maxHeartbeats 4000000 in
set_option maxRecDepth 100000 in
theorem a_L_set (l : Launch) (g : zG) (C : Nat → va_E) (y : Int) (o : Nat → Int64) (f : Int → Int) (past : Int → Int) (tx : Int → Int) (k : Int) (ty : Int) (cap : Int) (hOut : C 100 = eJ g 1 o) (hI : IW g C f k past ty tx) (hP : PW cap f k past ty tx) (h_y : -2147483648 ≤ y ∧ y < 2147483648) (hk9 : kSet y = 0) : Met l yL_set wsL_set ({ frames := 7, cells := 1, slots := 6, locals := 125 } : Room) (zPre2 g C [.ref (aD g 0), .int (iZ y), .ref (aD g 100)]) (zQi g (fun z C' => IW g C' (zu f 0 y) (mKp k + 1) (mSav f past k) (ty) (tx) ∧ (∀ q, 94 ≤ q → q ≠ 100 → C' q = C q) ∧ C' 100 = eJ g 1 (vp_updL o (Int.toNat 0) (iZ (f 0)).toInt64) ∧ z = 0)) 1 6 (zA g) := by
  refine z_enterT RL rfl (by decide) rfl (Nat.le_of_ble_eq_true rfl) ?_
  intro p e s m args below meth c K harg hTab hNc
  refine z_sub (lv' := [(0, .ref (aD g 0)), (1, .int (iZ y)), (2, .ref (aD g 100))]) [0, 1, 2] rfl ?_
  have hI0 := hI
  obtain ⟨⟨gMa, -⟩, -, -, -, -, -⟩ := id hI
  refine z_aload_n 1 K dL_set_0 rfl rfl 2 rfl ?_
  refine z_iconst 2 K dL_set_1 rfl ?_
  refine z_aload_n 3 K dL_set_2 rfl rfl 0 rfl ?_
  refine z_iload_n 4 K dL_set_3 rfl rfl 1 rfl ?_
  refine z_vVi (As := [.int (iZ y)]) (rest := [.int (iZ 0), .ref (aD g 100)]) 7 K 0 (by decide) gMa rfl rfl (a_X8_set l g _ y _ _ _ _ _ _ hI0 hP (by omega) hk9) (cwV 1 K.1.2.2.2.2 gL_set_X8_set rfl rfl rfl (by decide +kernel) ⟨Nat.le_of_ble_eq_true rfl, Nat.le_of_ble_eq_true rfl⟩) rfl (Nat.le_of_ble_eq_true rfl) dL_set_4 rfl ⟨Nat.le_of_ble_eq_true rfl, Nat.le_of_ble_eq_true rfl⟩ rfl (fun z_1 C_2 hp_4 => ?_)
  obtain ⟨hIn_4, hsm_4, hz_4⟩ := hp_4
  refine z_top (f 0) hz_4 ?_
  have hf_4_100 : C_2 100 = eJ g 1 o := (hsm_4 100 (by omega)).trans hOut
  refine z_i2l 8 K dL_set_7 rfl ?_
  refine z_last (f := o) 9 K 100 (by decide) hf_4_100 (by decide) (by decide) (by decide) dL_set_8 rfl ?_
  refine z_goto (tgt := 15) K dL_set_9 (by decide) ?_
  refine z_iconst 16 K dL_set_15 rfl ?_
  refine z_wid (kc' := 1) (ks' := 6) (by decide) (by decide) ?_
  exact z_iret K rfl dL_set_16 ⟨IW_cong hIn_4 (fun q hq => ((va_up_ne _ _ (by omega)).trans rfl)), fun q hq hne => (((va_up_ne _ _ (by omega)).trans rfl)).trans (hsm_4 q hq), (va_up_eq _ 100 _), rfl⟩
set_option maxHeartbeats 4000000 in
set_option maxRecDepth 100000 in
theorem x_L_set (l : Launch) (g : zG) (C : Nat → va_E) (y : Int) (o : Nat → Int64) (f : Int → Int) (past : Int → Int) (tx : Int → Int) (k : Int) (ty : Int) (cap : Int) (hOut : C 100 = eJ g 1 o) (hI : IW g C f k past ty tx) (hP : PW cap f k past ty tx) (h_y : -2147483648 ≤ y ∧ y < 2147483648) (hk9 : kSet y ≠ 0) (hlt : l.stackTraces = false) : Met l yL_set wsL_set ({ frames := 7, cells := 1, slots := 6, locals := 125 } : Room) (zPre2 g C [.ref (aD g 0), .int (iZ y), .ref (aD g 100)]) (zQi g (fun z C' => IW g C' f k past ty tx ∧ (∀ q, 94 ≤ q → q ≠ 100 → C' q = C q) ∧ (∃ o2, C' 100 = eJ g 1 o2) ∧ z = kSet y)) 1 6 (zA g) := by
  refine z_enterT RL rfl (by decide) rfl (Nat.le_of_ble_eq_true rfl) ?_
  intro p e s m args below meth c K harg hTab hNc
  refine z_sub (lv' := [(0, .ref (aD g 0)), (1, .int (iZ y)), (2, .ref (aD g 100))]) [0, 1, 2] rfl ?_
  have hI0 := hI
  obtain ⟨⟨gMa, -⟩, -, -, -, -, -⟩ := id hI
  refine z_aload_n 1 K dL_set_0 rfl rfl 2 rfl ?_
  refine z_iconst 2 K dL_set_1 rfl ?_
  refine z_aload_n 3 K dL_set_2 rfl rfl 0 rfl ?_
  refine z_iload_n 4 K dL_set_3 rfl rfl 1 rfl ?_
  refine z_xVi (As := [.int (iZ y)]) (rest := [.int (iZ 0), .ref (aD g 100)]) 7 K 0 (by decide) gMa rfl rfl (x_X8_set l g _ y _ _ _ _ _ _ hI0 hP (by omega) hk9 hlt) (cwV 1 K.1.2.2.2.2 gL_set_X8_set rfl rfl rfl (by decide +kernel) ⟨Nat.le_of_ble_eq_true rfl, Nat.le_of_ble_eq_true rfl⟩) rfl (Nat.le_of_ble_eq_true rfl) dL_set_4 rfl ⟨Nat.le_of_ble_eq_true rfl, Nat.le_of_ble_eq_true rfl⟩ rfl (fun E9 C9 hx9 => ?_) (fun z_1 C_2 hp_4 => ?_)
  · skip
    obtain ⟨hIx, hsx, hdx⟩ := hx9
    rcases hdx with ⟨rfl, hd0⟩
    · refine z_catch K hNc [] ⟨0, 9, 12, 15⟩ [] hTab (fun z hz => nomatch hz) (by decide) (by decide) (by decide +kernel) (by decide) (n := 12) rfl (fun q9 => ?_)
      refine z_astore_n (lv' := [(3, .ref q9), (0, .ref (aD g 0)), (1, .int (iZ y)), (2, .ref (aD g 100))]) 13 K dL_set_12 rfl rfl (by decide) rfl ?_
      refine z_iconst 14 K dL_set_13 rfl ?_
      refine z_wid (kc' := 1) (ks' := 6) (by decide) (by decide) ?_
      exact z_iret K rfl dL_set_14 ⟨hIx, fun q hq hne => hsx q hq, ⟨o, (hsx 100 (by omega)).trans hOut⟩, hd0.symm⟩
  exact hp_4.elim
set_option maxRecDepth 100000 in
theorem w_L_set (l : Launch) (g : zG) (C : Nat → va_E) (y : Int) (o : Nat → Int64) (f : Int → Int) (past : Int → Int) (tx : Int → Int) (k : Int) (ty : Int) (cap : Int) (hOut : C 100 = eJ g 1 o) (hI : IW g C f k past ty tx) (hP : PW cap f k past ty tx) (h_y : -2147483648 ≤ y ∧ y < 2147483648) (hlt : l.stackTraces = false) : Met l yL_set wsL_set ({ frames := 7, cells := 1, slots := 6, locals := 125 } : Room) (zPre2 g C [.ref (aD g 0), .int (iZ y), .ref (aD g 100)]) (zQi g (fun z C' => IW g C' (if kSet y = 0 then zu f 0 y else f) (if kSet y = 0 then mKp k + 1 else k) (if kSet y = 0 then mSav f past k else past) ty tx ∧ (∀ q, 94 ≤ q → q ≠ 100 → C' q = C q) ∧ (∃ o2 : Nat → Int64, C' 100 = eJ g 1 o2 ∧ (kSet y = 0 → o2 0 = (iZ (f 0)).toInt64)) ∧ z = kSet y)) 1 6 (zA g) := by
  by_cases hk : kSet y = 0
  · refine z_monI2 (a_L_set l g C y o f past tx k ty cap hOut hI hP h_y hk) (fun z C' h => ?_)
    rw [if_pos hk, if_pos hk, if_pos hk]
    exact ⟨h.1, h.2.1, ⟨_, h.2.2.1, fun _ => vp_updL_0 _ _⟩, h.2.2.2.trans hk.symm⟩
  · refine z_monI2 (x_L_set l g C y o f past tx k ty cap hOut hI hP h_y hk hlt) (fun z C' h => ?_)
    rw [if_neg hk, if_neg hk, if_neg hk]
    exact ⟨h.1, h.2.1, ⟨h.2.2.1.choose, h.2.2.1.choose_spec, fun q => absurd q hk⟩, h.2.2.2⟩
set_option maxHeartbeats 4000000 in
set_option maxRecDepth 100000 in
theorem a_L_append (l : Launch) (g : zG) (C : Nat → va_E) (x : Int) (o : Nat → Int64) (f : Int → Int) (past : Int → Int) (tx : Int → Int) (k : Int) (ty : Int) (cap : Int) (hOut : C 100 = eJ g 1 o) (hI : IW g C f k past ty tx) (hP : PW cap f k past ty tx) (h_x : -2147483648 ≤ x ∧ x < 2147483648) (hk9 : kApp ty x = 0) : Met l yL_append wsL_append ({ frames := 7, cells := 1, slots := 6, locals := 103 } : Room) (zPre2 g C [.ref (aD g 0), .int (iZ x), .ref (aD g 100)]) (zQi g (fun z C' => IW g C' (f) (k) (past) (ty + 1) (zu tx ty x) ∧ (∀ q, 94 ≤ q → q ≠ 100 → C' q = C q) ∧ C' 100 = eJ g 1 (vp_updL o (Int.toNat 0) (iZ (ty + 1)).toInt64) ∧ z = 0)) 1 6 (zA g) := by
  refine z_enterT RL rfl (by decide) rfl (Nat.le_of_ble_eq_true rfl) ?_
  intro p e s m args below meth c K harg hTab hNc
  refine z_sub (lv' := [(0, .ref (aD g 0)), (1, .int (iZ x)), (2, .ref (aD g 100))]) [0, 1, 2] rfl ?_
  have hI0 := hI
  obtain ⟨⟨gMa, -⟩, -, -, -, -, -⟩ := id hI
  refine z_aload_n 1 K dL_append_0 rfl rfl 2 rfl ?_
  refine z_iconst 2 K dL_append_1 rfl ?_
  refine z_aload_n 3 K dL_append_2 rfl rfl 0 rfl ?_
  refine z_iload_n 4 K dL_append_3 rfl rfl 1 rfl ?_
  refine z_vVi (As := [.int (iZ x)]) (rest := [.int (iZ 0), .ref (aD g 100)]) 7 K 0 (by decide) gMa rfl rfl (a_X8_append l g _ x _ _ _ _ _ _ hI0 hP (by omega) hk9) (cwV 1 K.1.2.2.2.2 gL_append_X8_append rfl rfl rfl (by decide +kernel) ⟨Nat.le_of_ble_eq_true rfl, Nat.le_of_ble_eq_true rfl⟩) rfl (Nat.le_of_ble_eq_true rfl) dL_append_4 rfl ⟨Nat.le_of_ble_eq_true rfl, Nat.le_of_ble_eq_true rfl⟩ rfl (fun z_1 C_2 hp_4 => ?_)
  obtain ⟨hIn_4, hsm_4, hz_4⟩ := hp_4
  refine z_top (ty + 1) hz_4 ?_
  have hf_4_100 : C_2 100 = eJ g 1 o := (hsm_4 100 (by omega)).trans hOut
  refine z_i2l 8 K dL_append_7 rfl ?_
  refine z_last (f := o) 9 K 100 (by decide) hf_4_100 (by decide) (by decide) (by decide) dL_append_8 rfl ?_
  refine z_goto (tgt := 18) K dL_append_9 (by decide) ?_
  refine z_iconst 19 K dL_append_18 rfl ?_
  refine z_wid (kc' := 1) (ks' := 6) (by decide) (by decide) ?_
  exact z_iret K rfl dL_append_19 ⟨IW_cong hIn_4 (fun q hq => ((va_up_ne _ _ (by omega)).trans rfl)), fun q hq hne => (((va_up_ne _ _ (by omega)).trans rfl)).trans (hsm_4 q hq), (va_up_eq _ 100 _), rfl⟩
set_option maxHeartbeats 4000000 in
set_option maxRecDepth 100000 in
theorem x_L_append (l : Launch) (g : zG) (C : Nat → va_E) (x : Int) (o : Nat → Int64) (f : Int → Int) (past : Int → Int) (tx : Int → Int) (k : Int) (ty : Int) (cap : Int) (hOut : C 100 = eJ g 1 o) (hI : IW g C f k past ty tx) (hP : PW cap f k past ty tx) (h_x : -2147483648 ≤ x ∧ x < 2147483648) (hk9 : kApp ty x ≠ 0) (hlt : l.stackTraces = false) : Met l yL_append wsL_append ({ frames := 7, cells := 1, slots := 6, locals := 103 } : Room) (zPre2 g C [.ref (aD g 0), .int (iZ x), .ref (aD g 100)]) (zQi g (fun z C' => IW g C' f k past ty tx ∧ (∀ q, 94 ≤ q → q ≠ 100 → C' q = C q) ∧ (∃ o2, C' 100 = eJ g 1 o2) ∧ z = kApp ty x)) 1 6 (zA g) := by
  refine z_enterT RL rfl (by decide) rfl (Nat.le_of_ble_eq_true rfl) ?_
  intro p e s m args below meth c K harg hTab hNc
  refine z_sub (lv' := [(0, .ref (aD g 0)), (1, .int (iZ x)), (2, .ref (aD g 100))]) [0, 1, 2] rfl ?_
  have hI0 := hI
  obtain ⟨⟨gMa, -⟩, -, -, -, -, -⟩ := id hI
  refine z_aload_n 1 K dL_append_0 rfl rfl 2 rfl ?_
  refine z_iconst 2 K dL_append_1 rfl ?_
  refine z_aload_n 3 K dL_append_2 rfl rfl 0 rfl ?_
  refine z_iload_n 4 K dL_append_3 rfl rfl 1 rfl ?_
  refine z_xVi (As := [.int (iZ x)]) (rest := [.int (iZ 0), .ref (aD g 100)]) 7 K 0 (by decide) gMa rfl rfl (x_X8_append l g _ x _ _ _ _ _ _ hI0 hP (by omega) hk9 hlt) (cwV 1 K.1.2.2.2.2 gL_append_X8_append rfl rfl rfl (by decide +kernel) ⟨Nat.le_of_ble_eq_true rfl, Nat.le_of_ble_eq_true rfl⟩) rfl (Nat.le_of_ble_eq_true rfl) dL_append_4 rfl ⟨Nat.le_of_ble_eq_true rfl, Nat.le_of_ble_eq_true rfl⟩ rfl (fun E9 C9 hx9 => ?_) (fun z_1 C_2 hp_4 => ?_)
  · skip
    obtain ⟨hIx, hsx, hdx⟩ := hx9
    rcases hdx with ⟨rfl, hd0⟩ | ⟨rfl, hd1⟩
    · refine z_catch K hNc [] ⟨0, 9, 12, 15⟩ [⟨0, 9, 15, 17⟩] hTab (fun z hz => nomatch hz) (by decide) (by decide) (by decide +kernel) (by decide) (n := 12) rfl (fun q9 => ?_)
      refine z_astore_n (lv' := [(3, .ref q9), (0, .ref (aD g 0)), (1, .int (iZ x)), (2, .ref (aD g 100))]) 13 K dL_append_12 rfl rfl (by decide) rfl ?_
      refine z_iconst 14 K dL_append_13 rfl ?_
      refine z_wid (kc' := 1) (ks' := 6) (by decide) (by decide) ?_
      exact z_iret K rfl dL_append_14 ⟨hIx, fun q hq hne => hsx q hq, ⟨o, (hsx 100 (by omega)).trans hOut⟩, hd0.symm⟩
    · refine z_catch K hNc [⟨0, 9, 12, 15⟩] ⟨0, 9, 15, 17⟩ [] hTab (List.forall_mem_cons.mpr ⟨⟨by decide, _, (by decide +kernel : Cond.classLink RL 15 "java/lang/IllegalArgumentException" ∈ wsL_append), by decide⟩, fun z hz => nomatch hz⟩) (by decide) (by decide) (by decide +kernel) (by decide) (n := 15) rfl (fun q9 => ?_)
      refine z_astore_n (lv' := [(3, .ref q9), (0, .ref (aD g 0)), (1, .int (iZ x)), (2, .ref (aD g 100))]) 16 K dL_append_15 rfl rfl (by decide) rfl ?_
      refine z_iconst 17 K dL_append_16 rfl ?_
      refine z_wid (kc' := 1) (ks' := 6) (by decide) (by decide) ?_
      exact z_iret K rfl dL_append_17 ⟨hIx, fun q hq hne => hsx q hq, ⟨o, (hsx 100 (by omega)).trans hOut⟩, hd1.symm⟩
  exact hp_4.elim
set_option maxRecDepth 100000 in
theorem w_L_append (l : Launch) (g : zG) (C : Nat → va_E) (x : Int) (o : Nat → Int64) (f : Int → Int) (past : Int → Int) (tx : Int → Int) (k : Int) (ty : Int) (cap : Int) (hOut : C 100 = eJ g 1 o) (hI : IW g C f k past ty tx) (hP : PW cap f k past ty tx) (h_x : -2147483648 ≤ x ∧ x < 2147483648) (hlt : l.stackTraces = false) : Met l yL_append wsL_append ({ frames := 7, cells := 1, slots := 6, locals := 103 } : Room) (zPre2 g C [.ref (aD g 0), .int (iZ x), .ref (aD g 100)]) (zQi g (fun z C' => IW g C' f k past (if kApp ty x = 0 then ty + 1 else ty) (if kApp ty x = 0 then zu tx ty x else tx) ∧ (∀ q, 94 ≤ q → q ≠ 100 → C' q = C q) ∧ (∃ o2 : Nat → Int64, C' 100 = eJ g 1 o2 ∧ (kApp ty x = 0 → o2 0 = (iZ (ty + 1)).toInt64)) ∧ z = kApp ty x)) 1 6 (zA g) := by
  by_cases hk : kApp ty x = 0
  · refine z_monI2 (a_L_append l g C x o f past tx k ty cap hOut hI hP h_x hk) (fun z C' h => ?_)
    rw [if_pos hk, if_pos hk]
    exact ⟨h.1, h.2.1, ⟨_, h.2.2.1, fun _ => vp_updL_0 _ _⟩, h.2.2.2.trans hk.symm⟩
  · refine z_monI2 (x_L_append l g C x o f past tx k ty cap hOut hI hP h_x hk hlt) (fun z C' h => ?_)
    rw [if_neg hk, if_neg hk]
    exact ⟨h.1, h.2.1, ⟨h.2.2.1.choose, h.2.2.1.choose_spec, fun q => absurd q hk⟩, h.2.2.2⟩
set_option maxHeartbeats 4000000 in
set_option maxRecDepth 100000 in
theorem a_L_citeAll (l : Launch) (g : zG) (C : Nat → va_E) (a : Int) (o : Nat → Int64) (td : Int → Int) (f : Int → Int) (past : Int → Int) (tx : Int → Int) (k : Int) (ty : Int) (cap : Int) (hOut : C 100 = eJ g 1 o) (hI : IW g C f k past ty tx) (hP : PW cap f k past ty tx) (h_a : -2147483648 ≤ a ∧ a < 2147483648) (hk9 : kCal f a (tAll tx ty td) = 0) : Met l yL_citeAll wsL_citeAll ({ frames := 8, cells := 2, slots := 12, locals := 126 } : Room) (zPre2 g C [.ref (aD g 0), .int (iZ a), .ref (aD g 100)]) (zQi g (fun z C' => IW g C' (mNms f a (tAll tx ty td).2.2.2 (tAll tx ty td).2.2.1) (mKp k + 1) (mSav f past k) (0) (tx) ∧ (∀ q, 94 ≤ q → q ≠ 100 → C' q = C q) ∧ C' 100 = eJ g 1 (vp_updL o (Int.toNat 0) (iZ (f (32 * a + 65))).toInt64) ∧ z = 0)) 2 12 (zA g) := by
  refine z_enterT RL rfl (by decide) rfl (Nat.le_of_ble_eq_true rfl) ?_
  intro p e s m args below meth c K harg hTab hNc
  refine z_sub (lv' := [(0, .ref (aD g 0)), (1, .int (iZ a)), (2, .ref (aD g 100))]) [0, 1, 2] rfl ?_
  have hI0 := hI
  obtain ⟨⟨gMa, -⟩, -, -, -, -, -⟩ := id hI
  refine z_aload_n 1 K dL_citeAll_0 rfl rfl 2 rfl ?_
  refine z_iconst 2 K dL_citeAll_1 rfl ?_
  refine z_aload_n 3 K dL_citeAll_2 rfl rfl 0 rfl ?_
  refine z_iload_n 4 K dL_citeAll_3 rfl rfl 1 rfl ?_
  refine z_vVi (As := [.int (iZ a)]) (rest := [.int (iZ 0), .ref (aD g 100)]) 7 K 0 (by decide) gMa rfl rfl (a_X8_citeAll l g _ a _ _ _ _ _ _ _ hI0 hP (by omega) hk9) (cwV 1 K.1.2.2.2.2 gL_citeAll_X8_citeAll rfl rfl rfl (by decide +kernel) ⟨Nat.le_of_ble_eq_true rfl, Nat.le_of_ble_eq_true rfl⟩) rfl (Nat.le_of_ble_eq_true rfl) dL_citeAll_4 rfl ⟨Nat.le_of_ble_eq_true rfl, Nat.le_of_ble_eq_true rfl⟩ rfl (fun z_1 C_2 hp_4 => ?_)
  obtain ⟨hIn_4, hsm_4, hz_4⟩ := hp_4
  refine z_top (f (32 * a + 65)) hz_4 ?_
  have hf_4_100 : C_2 100 = eJ g 1 o := (hsm_4 100 (by omega)).trans hOut
  refine z_i2l 8 K dL_citeAll_7 rfl ?_
  refine z_last (f := o) 9 K 100 (by decide) hf_4_100 (by decide) (by decide) (by decide) dL_citeAll_8 rfl ?_
  refine z_goto (tgt := 21) K dL_citeAll_9 (by decide) ?_
  refine z_iconst 22 K dL_citeAll_21 rfl ?_
  refine z_wid (kc' := 2) (ks' := 12) (by decide) (by decide) ?_
  exact z_iret K rfl dL_citeAll_22 ⟨IW_cong hIn_4 (fun q hq => ((va_up_ne _ _ (by omega)).trans rfl)), fun q hq hne => (((va_up_ne _ _ (by omega)).trans rfl)).trans (hsm_4 q hq), (va_up_eq _ 100 _), rfl⟩
set_option maxHeartbeats 4000000 in
set_option maxRecDepth 100000 in
theorem x_L_citeAll (l : Launch) (g : zG) (C : Nat → va_E) (a : Int) (o : Nat → Int64) (td : Int → Int) (f : Int → Int) (past : Int → Int) (tx : Int → Int) (k : Int) (ty : Int) (cap : Int) (hOut : C 100 = eJ g 1 o) (hI : IW g C f k past ty tx) (hP : PW cap f k past ty tx) (h_a : -2147483648 ≤ a ∧ a < 2147483648) (hk9 : kCal f a (tAll tx ty td) ≠ 0) (hlt : l.stackTraces = false) : Met l yL_citeAll wsL_citeAll ({ frames := 8, cells := 2, slots := 12, locals := 126 } : Room) (zPre2 g C [.ref (aD g 0), .int (iZ a), .ref (aD g 100)]) (zQi g (fun z C' => IW g C' f k past ty tx ∧ (∀ q, 94 ≤ q → q ≠ 100 → C' q = C q) ∧ (∃ o2, C' 100 = eJ g 1 o2) ∧ z = kCal f a (tAll tx ty td))) 2 12 (zA g) := by
  refine z_enterT RL rfl (by decide) rfl (Nat.le_of_ble_eq_true rfl) ?_
  intro p e s m args below meth c K harg hTab hNc
  refine z_sub (lv' := [(0, .ref (aD g 0)), (1, .int (iZ a)), (2, .ref (aD g 100))]) [0, 1, 2] rfl ?_
  have hI0 := hI
  obtain ⟨⟨gMa, -⟩, -, -, -, -, -⟩ := id hI
  refine z_aload_n 1 K dL_citeAll_0 rfl rfl 2 rfl ?_
  refine z_iconst 2 K dL_citeAll_1 rfl ?_
  refine z_aload_n 3 K dL_citeAll_2 rfl rfl 0 rfl ?_
  refine z_iload_n 4 K dL_citeAll_3 rfl rfl 1 rfl ?_
  refine z_xVi (As := [.int (iZ a)]) (rest := [.int (iZ 0), .ref (aD g 100)]) 7 K 0 (by decide) gMa rfl rfl (x_X8_citeAll l g _ a _ _ _ _ _ _ _ hI0 hP (by omega) hk9 hlt) (cwV 1 K.1.2.2.2.2 gL_citeAll_X8_citeAll rfl rfl rfl (by decide +kernel) ⟨Nat.le_of_ble_eq_true rfl, Nat.le_of_ble_eq_true rfl⟩) rfl (Nat.le_of_ble_eq_true rfl) dL_citeAll_4 rfl ⟨Nat.le_of_ble_eq_true rfl, Nat.le_of_ble_eq_true rfl⟩ rfl (fun E9 C9 hx9 => ?_) (fun z_1 C_2 hp_4 => ?_)
  · skip
    obtain ⟨hIx, hsx, hdx⟩ := hx9
    rcases hdx with ⟨rfl, hd0⟩ | ⟨rfl, hd1⟩ | ⟨rfl, hd2⟩
    · refine z_catch K hNc [] ⟨0, 9, 12, 13⟩ [⟨0, 9, 15, 15⟩, ⟨0, 9, 18, 17⟩] hTab (fun z hz => nomatch hz) (by decide) (by decide) (by decide +kernel) (by decide) (n := 12) rfl (fun q9 => ?_)
      refine z_astore_n (lv' := [(3, .ref q9), (0, .ref (aD g 0)), (1, .int (iZ a)), (2, .ref (aD g 100))]) 13 K dL_citeAll_12 rfl rfl (by decide) rfl ?_
      refine z_iconst 14 K dL_citeAll_13 rfl ?_
      refine z_wid (kc' := 2) (ks' := 12) (by decide) (by decide) ?_
      exact z_iret K rfl dL_citeAll_14 ⟨hIx, fun q hq hne => hsx q hq, ⟨o, (hsx 100 (by omega)).trans hOut⟩, hd0.symm⟩
    · refine z_catch K hNc [⟨0, 9, 12, 13⟩] ⟨0, 9, 15, 15⟩ [⟨0, 9, 18, 17⟩] hTab (List.forall_mem_cons.mpr ⟨⟨by decide, _, (by decide +kernel : Cond.classLink RL 13 "java/lang/IndexOutOfBoundsException" ∈ wsL_citeAll), by decide⟩, fun z hz => nomatch hz⟩) (by decide) (by decide) (by decide +kernel) (by decide) (n := 15) rfl (fun q9 => ?_)
      refine z_astore_n (lv' := [(3, .ref q9), (0, .ref (aD g 0)), (1, .int (iZ a)), (2, .ref (aD g 100))]) 16 K dL_citeAll_15 rfl rfl (by decide) rfl ?_
      refine z_iconst 17 K dL_citeAll_16 rfl ?_
      refine z_wid (kc' := 2) (ks' := 12) (by decide) (by decide) ?_
      exact z_iret K rfl dL_citeAll_17 ⟨hIx, fun q hq hne => hsx q hq, ⟨o, (hsx 100 (by omega)).trans hOut⟩, hd1.symm⟩
    · refine z_catch K hNc [⟨0, 9, 12, 13⟩, ⟨0, 9, 15, 15⟩] ⟨0, 9, 18, 17⟩ [] hTab (List.forall_mem_cons.mpr ⟨⟨by decide, _, (by decide +kernel : Cond.classLink RL 13 "java/lang/IndexOutOfBoundsException" ∈ wsL_citeAll), by decide⟩, List.forall_mem_cons.mpr ⟨⟨by decide, _, (by decide +kernel : Cond.classLink RL 15 "java/lang/IllegalArgumentException" ∈ wsL_citeAll), by decide⟩, fun z hz => nomatch hz⟩⟩) (by decide) (by decide) (by decide +kernel) (by decide) (n := 18) rfl (fun q9 => ?_)
      refine z_astore_n (lv' := [(3, .ref q9), (0, .ref (aD g 0)), (1, .int (iZ a)), (2, .ref (aD g 100))]) 19 K dL_citeAll_18 rfl rfl (by decide) rfl ?_
      refine z_iconst 20 K dL_citeAll_19 rfl ?_
      refine z_wid (kc' := 2) (ks' := 12) (by decide) (by decide) ?_
      exact z_iret K rfl dL_citeAll_20 ⟨hIx, fun q hq hne => hsx q hq, ⟨o, (hsx 100 (by omega)).trans hOut⟩, hd2.symm⟩
  exact hp_4.elim
set_option maxRecDepth 100000 in
theorem w_L_citeAll (l : Launch) (g : zG) (C : Nat → va_E) (a : Int) (o : Nat → Int64) (td : Int → Int) (f : Int → Int) (past : Int → Int) (tx : Int → Int) (k : Int) (ty : Int) (cap : Int) (hOut : C 100 = eJ g 1 o) (hI : IW g C f k past ty tx) (hP : PW cap f k past ty tx) (h_a : -2147483648 ≤ a ∧ a < 2147483648) (hlt : l.stackTraces = false) : Met l yL_citeAll wsL_citeAll ({ frames := 8, cells := 2, slots := 12, locals := 126 } : Room) (zPre2 g C [.ref (aD g 0), .int (iZ a), .ref (aD g 100)]) (zQi g (fun z C' => IW g C' (if kCal f a (tAll tx ty td) = 0 then mNms f a (tAll tx ty td).2.2.2 (tAll tx ty td).2.2.1 else f) (if kCal f a (tAll tx ty td) = 0 then mKp k + 1 else k) (if kCal f a (tAll tx ty td) = 0 then mSav f past k else past) (if kCal f a (tAll tx ty td) = 0 then 0 else ty) tx ∧ (∀ q, 94 ≤ q → q ≠ 100 → C' q = C q) ∧ (∃ o2 : Nat → Int64, C' 100 = eJ g 1 o2 ∧ (kCal f a (tAll tx ty td) = 0 → o2 0 = (iZ (f (32 * a + 65))).toInt64)) ∧ z = kCal f a (tAll tx ty td))) 2 12 (zA g) := by
  by_cases hk : kCal f a (tAll tx ty td) = 0
  · refine z_monI2 (a_L_citeAll l g C a o td f past tx k ty cap hOut hI hP h_a hk) (fun z C' h => ?_)
    rw [if_pos hk, if_pos hk, if_pos hk, if_pos hk]
    exact ⟨h.1, h.2.1, ⟨_, h.2.2.1, fun _ => vp_updL_0 _ _⟩, h.2.2.2.trans hk.symm⟩
  · refine z_monI2 (x_L_citeAll l g C a o td f past tx k ty cap hOut hI hP h_a hk hlt) (fun z C' h => ?_)
    rw [if_neg hk, if_neg hk, if_neg hk, if_neg hk]
    exact ⟨h.1, h.2.1, ⟨h.2.2.1.choose, h.2.2.1.choose_spec, fun q => absurd q hk⟩, h.2.2.2⟩
set_option maxHeartbeats 4000000 in
set_option maxRecDepth 100000 in
theorem a_L_undo (l : Launch) (g : zG) (C : Nat → va_E) (o : Nat → Int64) (f : Int → Int) (past : Int → Int) (tx : Int → Int) (k : Int) (ty : Int) (cap : Int) (hOut : C 100 = eJ g 1 o) (hI : IW g C f k past ty tx) (hP : PW cap f k past ty tx) (hk9 : kUnd k = 0) : Met l yL_undo wsL_undo ({ frames := 7, cells := 1, slots := 6, locals := 123 } : Room) (zPre2 g C [.ref (aD g 0), .ref (aD g 100)]) (zQi g (fun z C' => IW g C' (mPast past (k - 1)) (k - 1) (past) (ty) (tx) ∧ (∀ q, 94 ≤ q → q ≠ 100 → C' q = C q) ∧ C' 100 = eJ g 1 (vp_updL o (Int.toNat 0) (iZ (k - 1)).toInt64) ∧ z = 0)) 1 6 (zA g) := by
  refine z_enterT RL rfl (by decide) rfl (Nat.le_of_ble_eq_true rfl) ?_
  intro p e s m args below meth c K harg hTab hNc
  refine z_sub (lv' := [(0, .ref (aD g 0)), (1, .ref (aD g 100))]) [0, 1] rfl ?_
  have hI0 := hI
  obtain ⟨⟨gMa, -⟩, -, -, -, -, -⟩ := id hI
  refine z_aload_n 1 K dL_undo_0 rfl rfl 1 rfl ?_
  refine z_iconst 2 K dL_undo_1 rfl ?_
  refine z_aload_n 3 K dL_undo_2 rfl rfl 0 rfl ?_
  refine z_vVi (As := []) (rest := [.int (iZ 0), .ref (aD g 100)]) 6 K 0 (by decide) gMa rfl rfl (a_X8_undo l g _ _ _ _ _ _ _ hI0 hP hk9) (cwV 0 K.1.2.2.2.2 gL_undo_X8_undo rfl rfl rfl (by decide +kernel) ⟨Nat.le_of_ble_eq_true rfl, Nat.le_of_ble_eq_true rfl⟩) rfl (Nat.le_of_ble_eq_true rfl) dL_undo_3 rfl ⟨Nat.le_of_ble_eq_true rfl, Nat.le_of_ble_eq_true rfl⟩ rfl (fun z_1 C_2 hp_3 => ?_)
  obtain ⟨hIn_3, hsm_3, hz_3⟩ := hp_3
  refine z_top (k - 1) hz_3 ?_
  have hf_3_100 : C_2 100 = eJ g 1 o := (hsm_3 100 (by omega)).trans hOut
  refine z_i2l 7 K dL_undo_6 rfl ?_
  refine z_last (f := o) 8 K 100 (by decide) hf_3_100 (by decide) (by decide) (by decide) dL_undo_7 rfl ?_
  refine z_goto (tgt := 14) K dL_undo_8 (by decide) ?_
  refine z_iconst 15 K dL_undo_14 rfl ?_
  refine z_wid (kc' := 1) (ks' := 6) (by decide) (by decide) ?_
  exact z_iret K rfl dL_undo_15 ⟨IW_cong hIn_3 (fun q hq => ((va_up_ne _ _ (by omega)).trans rfl)), fun q hq hne => (((va_up_ne _ _ (by omega)).trans rfl)).trans (hsm_3 q hq), (va_up_eq _ 100 _), rfl⟩
set_option maxHeartbeats 4000000 in
set_option maxRecDepth 100000 in
theorem x_L_undo (l : Launch) (g : zG) (C : Nat → va_E) (o : Nat → Int64) (f : Int → Int) (past : Int → Int) (tx : Int → Int) (k : Int) (ty : Int) (cap : Int) (hOut : C 100 = eJ g 1 o) (hI : IW g C f k past ty tx) (hP : PW cap f k past ty tx) (hk9 : kUnd k ≠ 0) (hlt : l.stackTraces = false) : Met l yL_undo wsL_undo ({ frames := 7, cells := 1, slots := 6, locals := 123 } : Room) (zPre2 g C [.ref (aD g 0), .ref (aD g 100)]) (zQi g (fun z C' => IW g C' f k past ty tx ∧ (∀ q, 94 ≤ q → q ≠ 100 → C' q = C q) ∧ (∃ o2, C' 100 = eJ g 1 o2) ∧ z = kUnd k)) 1 6 (zA g) := by
  refine z_enterT RL rfl (by decide) rfl (Nat.le_of_ble_eq_true rfl) ?_
  intro p e s m args below meth c K harg hTab hNc
  refine z_sub (lv' := [(0, .ref (aD g 0)), (1, .ref (aD g 100))]) [0, 1] rfl ?_
  have hI0 := hI
  obtain ⟨⟨gMa, -⟩, -, -, -, -, -⟩ := id hI
  refine z_aload_n 1 K dL_undo_0 rfl rfl 1 rfl ?_
  refine z_iconst 2 K dL_undo_1 rfl ?_
  refine z_aload_n 3 K dL_undo_2 rfl rfl 0 rfl ?_
  refine z_xVi (As := []) (rest := [.int (iZ 0), .ref (aD g 100)]) 6 K 0 (by decide) gMa rfl rfl (x_X8_undo l g _ _ _ _ _ _ _ hI0 hP hk9 hlt) (cwV 0 K.1.2.2.2.2 gL_undo_X8_undo rfl rfl rfl (by decide +kernel) ⟨Nat.le_of_ble_eq_true rfl, Nat.le_of_ble_eq_true rfl⟩) rfl (Nat.le_of_ble_eq_true rfl) dL_undo_3 rfl ⟨Nat.le_of_ble_eq_true rfl, Nat.le_of_ble_eq_true rfl⟩ rfl (fun E9 C9 hx9 => ?_) (fun z_1 C_2 hp_3 => ?_)
  · skip
    obtain ⟨hIx, hsx, hdx⟩ := hx9
    rcases hdx with ⟨rfl, hd0⟩
    · refine z_catch K hNc [] ⟨0, 8, 11, 17⟩ [] hTab (fun z hz => nomatch hz) (by decide) (by decide) (by decide +kernel) (by decide) (n := 11) rfl (fun q9 => ?_)
      refine z_astore_n (lv' := [(2, .ref q9), (0, .ref (aD g 0)), (1, .ref (aD g 100))]) 12 K dL_undo_11 rfl rfl (by decide) rfl ?_
      refine z_iconst 13 K dL_undo_12 rfl ?_
      refine z_wid (kc' := 1) (ks' := 6) (by decide) (by decide) ?_
      exact z_iret K rfl dL_undo_13 ⟨hIx, fun q hq hne => hsx q hq, ⟨o, (hsx 100 (by omega)).trans hOut⟩, hd0.symm⟩
  exact hp_3.elim
set_option maxRecDepth 100000 in
theorem w_L_undo (l : Launch) (g : zG) (C : Nat → va_E) (o : Nat → Int64) (f : Int → Int) (past : Int → Int) (tx : Int → Int) (k : Int) (ty : Int) (cap : Int) (hOut : C 100 = eJ g 1 o) (hI : IW g C f k past ty tx) (hP : PW cap f k past ty tx)  (hlt : l.stackTraces = false) : Met l yL_undo wsL_undo ({ frames := 7, cells := 1, slots := 6, locals := 123 } : Room) (zPre2 g C [.ref (aD g 0), .ref (aD g 100)]) (zQi g (fun z C' => IW g C' (if kUnd k = 0 then mPast past (k - 1) else f) (if kUnd k = 0 then k - 1 else k) past ty tx ∧ (∀ q, 94 ≤ q → q ≠ 100 → C' q = C q) ∧ (∃ o2 : Nat → Int64, C' 100 = eJ g 1 o2 ∧ (kUnd k = 0 → o2 0 = (iZ (k - 1)).toInt64)) ∧ z = kUnd k)) 1 6 (zA g) := by
  by_cases hk : kUnd k = 0
  · refine z_monI2 (a_L_undo l g C o f past tx k ty cap hOut hI hP  hk) (fun z C' h => ?_)
    rw [if_pos hk, if_pos hk]
    exact ⟨h.1, h.2.1, ⟨_, h.2.2.1, fun _ => vp_updL_0 _ _⟩, h.2.2.2.trans hk.symm⟩
  · refine z_monI2 (x_L_undo l g C o f past tx k ty cap hOut hI hP  hk hlt) (fun z C' h => ?_)
    rw [if_neg hk, if_neg hk]
    exact ⟨h.1, h.2.1, ⟨h.2.2.1.choose, h.2.2.1.choose_spec, fun q => absurd q hk⟩, h.2.2.2⟩
set_option maxHeartbeats 4000000 in
set_option maxRecDepth 100000 in
theorem a_L_exhibit (l : Launch) (g : zG) (C : Nat → va_E) (p0 : Int) (w : Int) (o : Nat → Int64) (f : Int → Int) (past : Int → Int) (tx : Int → Int) (k : Int) (ty : Int) (cap : Int) (hOut : C 100 = eJ g 1 o) (hI : IW g C f k past ty tx) (hP : PW cap f k past ty tx) (h_p0 : -2147483648 ≤ p0 ∧ p0 < 2147483648) (h_w : -2147483648 ≤ w ∧ w < 2147483648) (hk9 : kExh p0 w = 0) : Met l yL_exhibit wsL_exhibit ({ frames := 8, cells := 1, slots := 6, locals := 125 } : Room) (zPre2 g C [.ref (aD g 0), .int (iZ p0), .int (iZ w), .ref (aD g 100)]) (zQi g (fun z C' => IW g C' (f) (k) (past) (ty) (tx) ∧ (∀ q, 94 ≤ q → q ≠ 100 → C' q = C q) ∧ C' 100 = eJ g 1 (vp_updL o (Int.toNat 0) (iZ (if p0 < f 1 then sOfE f p0 w else -1)).toInt64) ∧ z = 0)) 1 6 (zA g) := by
  refine z_enterT RL rfl (by decide) rfl (Nat.le_of_ble_eq_true rfl) ?_
  intro p e s m args below meth c K harg hTab hNc
  refine z_sub (lv' := [(0, .ref (aD g 0)), (1, .int (iZ p0)), (2, .int (iZ w)), (3, .ref (aD g 100))]) [0, 1, 2, 3] rfl ?_
  have hI0 := hI
  obtain ⟨⟨gMa, -⟩, -, -, -, -, -⟩ := id hI
  refine z_aload_n 1 K dL_exhibit_0 rfl rfl 3 rfl ?_
  refine z_iconst 2 K dL_exhibit_1 rfl ?_
  refine z_aload_n 3 K dL_exhibit_2 rfl rfl 0 rfl ?_
  refine z_iload_n 4 K dL_exhibit_3 rfl rfl 1 rfl ?_
  refine z_iload_n 5 K dL_exhibit_4 rfl rfl 2 rfl ?_
  refine z_vVi (As := [.int (iZ p0), .int (iZ w)]) (rest := [.int (iZ 0), .ref (aD g 100)]) 8 K 0 (by decide) gMa rfl rfl (a_X8_exhibit l g _ p0 w _ _ _ _ _ _ hI0 hP (by omega) (by omega) hk9) (cwV 2 K.1.2.2.2.2 gL_exhibit_X8_exhibit rfl rfl rfl (by decide +kernel) ⟨Nat.le_of_ble_eq_true rfl, Nat.le_of_ble_eq_true rfl⟩) rfl (Nat.le_of_ble_eq_true rfl) dL_exhibit_5 rfl ⟨Nat.le_of_ble_eq_true rfl, Nat.le_of_ble_eq_true rfl⟩ rfl (fun z_1 C_2 hp_5 => ?_)
  refine z_C hp_5.1 ?_
  refine z_top (if p0 < f 1 then sOfE f p0 w else -1) hp_5.2 ?_
  refine z_i2l 9 K dL_exhibit_8 rfl ?_
  refine z_last (f := o) 10 K 100 (by decide) hOut (by decide) (by decide) (by decide) dL_exhibit_9 rfl ?_
  refine z_goto (tgt := 17) K dL_exhibit_10 (by decide) ?_
  refine z_iconst 18 K dL_exhibit_17 rfl ?_
  refine z_wid (kc' := 1) (ks' := 6) (by decide) (by decide) ?_
  exact z_iret K rfl dL_exhibit_18 ⟨IW_cong hI0 (fun q hq => ((va_up_ne _ _ (by omega)).trans rfl)), fun q hq hne => ((va_up_ne _ _ (by omega)).trans rfl), (va_up_eq _ 100 _), rfl⟩
set_option maxHeartbeats 4000000 in
set_option maxRecDepth 100000 in
theorem x_L_exhibit (l : Launch) (g : zG) (C : Nat → va_E) (p0 : Int) (w : Int) (o : Nat → Int64) (f : Int → Int) (past : Int → Int) (tx : Int → Int) (k : Int) (ty : Int) (cap : Int) (hOut : C 100 = eJ g 1 o) (hI : IW g C f k past ty tx) (hP : PW cap f k past ty tx) (h_p0 : -2147483648 ≤ p0 ∧ p0 < 2147483648) (h_w : -2147483648 ≤ w ∧ w < 2147483648) (hk9 : kExh p0 w ≠ 0) (hlt : l.stackTraces = false) : Met l yL_exhibit wsL_exhibit ({ frames := 8, cells := 1, slots := 6, locals := 125 } : Room) (zPre2 g C [.ref (aD g 0), .int (iZ p0), .int (iZ w), .ref (aD g 100)]) (zQi g (fun z C' => IW g C' f k past ty tx ∧ (∀ q, 94 ≤ q → q ≠ 100 → C' q = C q) ∧ (∃ o2, C' 100 = eJ g 1 o2) ∧ z = kExh p0 w)) 1 6 (zA g) := by
  refine z_enterT RL rfl (by decide) rfl (Nat.le_of_ble_eq_true rfl) ?_
  intro p e s m args below meth c K harg hTab hNc
  refine z_sub (lv' := [(0, .ref (aD g 0)), (1, .int (iZ p0)), (2, .int (iZ w)), (3, .ref (aD g 100))]) [0, 1, 2, 3] rfl ?_
  have hI0 := hI
  obtain ⟨⟨gMa, -⟩, -, -, -, -, -⟩ := id hI
  refine z_aload_n 1 K dL_exhibit_0 rfl rfl 3 rfl ?_
  refine z_iconst 2 K dL_exhibit_1 rfl ?_
  refine z_aload_n 3 K dL_exhibit_2 rfl rfl 0 rfl ?_
  refine z_iload_n 4 K dL_exhibit_3 rfl rfl 1 rfl ?_
  refine z_iload_n 5 K dL_exhibit_4 rfl rfl 2 rfl ?_
  refine z_xVi (As := [.int (iZ p0), .int (iZ w)]) (rest := [.int (iZ 0), .ref (aD g 100)]) 8 K 0 (by decide) gMa rfl rfl (x_X8_exhibit l g _ p0 w _ _ _ _ _ _ hI0 hP (by omega) (by omega) hk9 hlt) (cwV 2 K.1.2.2.2.2 gL_exhibit_X8_exhibit rfl rfl rfl (by decide +kernel) ⟨Nat.le_of_ble_eq_true rfl, Nat.le_of_ble_eq_true rfl⟩) rfl (Nat.le_of_ble_eq_true rfl) dL_exhibit_5 rfl ⟨Nat.le_of_ble_eq_true rfl, Nat.le_of_ble_eq_true rfl⟩ rfl (fun E9 C9 hx9 => ?_) (fun z_1 C_2 hp_5 => ?_)
  · skip
    obtain ⟨hIx, hsx, hdx⟩ := hx9
    rcases hdx with ⟨rfl, hd0⟩
    · refine z_catch K hNc [] ⟨0, 10, 13, 15⟩ [] hTab (fun z hz => nomatch hz) (by decide) (by decide) (by decide +kernel) (by decide) (n := 13) rfl (fun q9 => ?_)
      refine z_astore (lv' := [(4, .ref q9), (0, .ref (aD g 0)), (1, .int (iZ p0)), (2, .int (iZ w)), (3, .ref (aD g 100))]) 15 K dL_exhibit_13 rfl (by decide) rfl ?_
      refine z_iconst 16 K dL_exhibit_15 rfl ?_
      refine z_wid (kc' := 1) (ks' := 6) (by decide) (by decide) ?_
      exact z_iret K rfl dL_exhibit_16 ⟨hIx, fun q hq hne => hsx q hq, ⟨o, (hsx 100 (by omega)).trans hOut⟩, hd0.symm⟩
  exact hp_5.elim
set_option maxRecDepth 100000 in
theorem w_L_exhibit (l : Launch) (g : zG) (C : Nat → va_E) (p0 : Int) (w : Int) (o : Nat → Int64) (f : Int → Int) (past : Int → Int) (tx : Int → Int) (k : Int) (ty : Int) (cap : Int) (hOut : C 100 = eJ g 1 o) (hI : IW g C f k past ty tx) (hP : PW cap f k past ty tx) (h_p0 : -2147483648 ≤ p0 ∧ p0 < 2147483648) (h_w : -2147483648 ≤ w ∧ w < 2147483648) (hlt : l.stackTraces = false) : Met l yL_exhibit wsL_exhibit ({ frames := 8, cells := 1, slots := 6, locals := 125 } : Room) (zPre2 g C [.ref (aD g 0), .int (iZ p0), .int (iZ w), .ref (aD g 100)]) (zQi g (fun z C' => IW g C' f k past ty tx ∧ (∀ q, 94 ≤ q → q ≠ 100 → C' q = C q) ∧ (∃ o2 : Nat → Int64, C' 100 = eJ g 1 o2 ∧ (kExh p0 w = 0 → o2 0 = (iZ (if p0 < f 1 then sOfE f p0 w else -1)).toInt64)) ∧ z = kExh p0 w)) 1 6 (zA g) := by
  by_cases hk : kExh p0 w = 0
  · refine z_monI2 (a_L_exhibit l g C p0 w o f past tx k ty cap hOut hI hP h_p0 h_w hk) (fun z C' h => ?_)
    exact ⟨h.1, h.2.1, ⟨_, h.2.2.1, fun _ => vp_updL_0 _ _⟩, h.2.2.2.trans hk.symm⟩
  · refine z_monI2 (x_L_exhibit l g C p0 w o f past tx k ty cap hOut hI hP h_p0 h_w hk hlt) (fun z C' h => ?_)
    exact ⟨h.1, h.2.1, ⟨h.2.2.1.choose, h.2.2.1.choose_spec, fun q => absurd q hk⟩, h.2.2.2⟩
set_option maxHeartbeats 4000000 in
set_option maxRecDepth 100000 in
theorem a_L_citation (l : Launch) (g : zG) (C : Nat → va_E) (a : Int) (b : Int) (w : Int) (o : Nat → Int64) (f : Int → Int) (past : Int → Int) (tx : Int → Int) (k : Int) (ty : Int) (cap : Int) (hOut : C 100 = eJ g 1 o) (hI : IW g C f k past ty tx) (hP : PW cap f k past ty tx) (h_a : -2147483648 ≤ a ∧ a < 2147483648) (h_b : -2147483648 ≤ b ∧ b < 2147483648) (h_w : -2147483648 ≤ w ∧ w < 2147483648) (hk9 : kCtn a b w = 0) : Met l yL_citation wsL_citation ({ frames := 8, cells := 2, slots := 12, locals := 127 } : Room) (zPre2 g C [.ref (aD g 0), .int (iZ a), .int (iZ b), .int (iZ w), .ref (aD g 100)]) (zQi g (fun z C' => IW g C' (f) (k) (past) (ty) (tx) ∧ (∀ q, 94 ≤ q → q ≠ 100 → C' q = C q) ∧ C' 100 = eJ g 1 (vp_updL o (Int.toNat 0) (iZ (if b < f (32 * a + 65) then sOfC f a b w else -1)).toInt64) ∧ z = 0)) 2 12 (zA g) := by
  refine z_enterT RL rfl (by decide) rfl (Nat.le_of_ble_eq_true rfl) ?_
  intro p e s m args below meth c K harg hTab hNc
  refine z_sub (lv' := [(0, .ref (aD g 0)), (1, .int (iZ a)), (2, .int (iZ b)), (3, .int (iZ w)), (4, .ref (aD g 100))]) [0, 1, 2, 3, 4] rfl ?_
  have hI0 := hI
  obtain ⟨⟨gMa, -⟩, -, -, -, -, -⟩ := id hI
  refine z_aload 2 K dL_citation_0 rfl 4 rfl ?_
  refine z_iconst 3 K dL_citation_2 rfl ?_
  refine z_aload_n 4 K dL_citation_3 rfl rfl 0 rfl ?_
  refine z_iload_n 5 K dL_citation_4 rfl rfl 1 rfl ?_
  refine z_iload_n 6 K dL_citation_5 rfl rfl 2 rfl ?_
  refine z_iload_n 7 K dL_citation_6 rfl rfl 3 rfl ?_
  refine z_vVi (As := [.int (iZ a), .int (iZ b), .int (iZ w)]) (rest := [.int (iZ 0), .ref (aD g 100)]) 10 K 0 (by decide) gMa rfl rfl (a_X8_citation l g _ a b w _ _ _ _ _ _ hI0 hP (by omega) (by omega) (by omega) hk9) (cwV 3 K.1.2.2.2.2 gL_citation_X8_citation rfl rfl rfl (by decide +kernel) ⟨Nat.le_of_ble_eq_true rfl, Nat.le_of_ble_eq_true rfl⟩) rfl (Nat.le_of_ble_eq_true rfl) dL_citation_7 rfl ⟨Nat.le_of_ble_eq_true rfl, Nat.le_of_ble_eq_true rfl⟩ rfl (fun z_1 C_2 hp_7 => ?_)
  refine z_C hp_7.1 ?_
  refine z_top (if b < f (32 * a + 65) then sOfC f a b w else -1) hp_7.2 ?_
  refine z_i2l 11 K dL_citation_10 rfl ?_
  refine z_last (f := o) 12 K 100 (by decide) hOut (by decide) (by decide) (by decide) dL_citation_11 rfl ?_
  refine z_goto (tgt := 23) K dL_citation_12 (by decide) ?_
  refine z_iconst 24 K dL_citation_23 rfl ?_
  refine z_wid (kc' := 2) (ks' := 12) (by decide) (by decide) ?_
  exact z_iret K rfl dL_citation_24 ⟨IW_cong hI0 (fun q hq => ((va_up_ne _ _ (by omega)).trans rfl)), fun q hq hne => ((va_up_ne _ _ (by omega)).trans rfl), (va_up_eq _ 100 _), rfl⟩
set_option maxHeartbeats 4000000 in
set_option maxRecDepth 100000 in
theorem x_L_citation (l : Launch) (g : zG) (C : Nat → va_E) (a : Int) (b : Int) (w : Int) (o : Nat → Int64) (f : Int → Int) (past : Int → Int) (tx : Int → Int) (k : Int) (ty : Int) (cap : Int) (hOut : C 100 = eJ g 1 o) (hI : IW g C f k past ty tx) (hP : PW cap f k past ty tx) (h_a : -2147483648 ≤ a ∧ a < 2147483648) (h_b : -2147483648 ≤ b ∧ b < 2147483648) (h_w : -2147483648 ≤ w ∧ w < 2147483648) (hk9 : kCtn a b w ≠ 0) (hlt : l.stackTraces = false) : Met l yL_citation wsL_citation ({ frames := 8, cells := 2, slots := 12, locals := 127 } : Room) (zPre2 g C [.ref (aD g 0), .int (iZ a), .int (iZ b), .int (iZ w), .ref (aD g 100)]) (zQi g (fun z C' => IW g C' f k past ty tx ∧ (∀ q, 94 ≤ q → q ≠ 100 → C' q = C q) ∧ (∃ o2, C' 100 = eJ g 1 o2) ∧ z = kCtn a b w)) 2 12 (zA g) := by
  refine z_enterT RL rfl (by decide) rfl (Nat.le_of_ble_eq_true rfl) ?_
  intro p e s m args below meth c K harg hTab hNc
  refine z_sub (lv' := [(0, .ref (aD g 0)), (1, .int (iZ a)), (2, .int (iZ b)), (3, .int (iZ w)), (4, .ref (aD g 100))]) [0, 1, 2, 3, 4] rfl ?_
  have hI0 := hI
  obtain ⟨⟨gMa, -⟩, -, -, -, -, -⟩ := id hI
  refine z_aload 2 K dL_citation_0 rfl 4 rfl ?_
  refine z_iconst 3 K dL_citation_2 rfl ?_
  refine z_aload_n 4 K dL_citation_3 rfl rfl 0 rfl ?_
  refine z_iload_n 5 K dL_citation_4 rfl rfl 1 rfl ?_
  refine z_iload_n 6 K dL_citation_5 rfl rfl 2 rfl ?_
  refine z_iload_n 7 K dL_citation_6 rfl rfl 3 rfl ?_
  refine z_xVi (As := [.int (iZ a), .int (iZ b), .int (iZ w)]) (rest := [.int (iZ 0), .ref (aD g 100)]) 10 K 0 (by decide) gMa rfl rfl (x_X8_citation l g _ a b w _ _ _ _ _ _ hI0 hP (by omega) (by omega) (by omega) hk9 hlt) (cwV 3 K.1.2.2.2.2 gL_citation_X8_citation rfl rfl rfl (by decide +kernel) ⟨Nat.le_of_ble_eq_true rfl, Nat.le_of_ble_eq_true rfl⟩) rfl (Nat.le_of_ble_eq_true rfl) dL_citation_7 rfl ⟨Nat.le_of_ble_eq_true rfl, Nat.le_of_ble_eq_true rfl⟩ rfl (fun E9 C9 hx9 => ?_) (fun z_1 C_2 hp_7 => ?_)
  · skip
    obtain ⟨hIx, hsx, hdx⟩ := hx9
    rcases hdx with ⟨rfl, hd0⟩ | ⟨rfl, hd1⟩
    · refine z_catch K hNc [] ⟨0, 12, 15, 13⟩ [⟨0, 12, 19, 15⟩] hTab (fun z hz => nomatch hz) (by decide) (by decide) (by decide +kernel) (by decide) (n := 15) rfl (fun q9 => ?_)
      refine z_astore (lv' := [(5, .ref q9), (0, .ref (aD g 0)), (1, .int (iZ a)), (2, .int (iZ b)), (3, .int (iZ w)), (4, .ref (aD g 100))]) 17 K dL_citation_15 rfl (by decide) rfl ?_
      refine z_iconst 18 K dL_citation_17 rfl ?_
      refine z_wid (kc' := 2) (ks' := 12) (by decide) (by decide) ?_
      exact z_iret K rfl dL_citation_18 ⟨hIx, fun q hq hne => hsx q hq, ⟨o, (hsx 100 (by omega)).trans hOut⟩, hd0.symm⟩
    · refine z_catch K hNc [⟨0, 12, 15, 13⟩] ⟨0, 12, 19, 15⟩ [] hTab (List.forall_mem_cons.mpr ⟨⟨by decide, _, (by decide +kernel : Cond.classLink RL 13 "java/lang/IndexOutOfBoundsException" ∈ wsL_citation), by decide⟩, fun z hz => nomatch hz⟩) (by decide) (by decide) (by decide +kernel) (by decide) (n := 19) rfl (fun q9 => ?_)
      refine z_astore (lv' := [(5, .ref q9), (0, .ref (aD g 0)), (1, .int (iZ a)), (2, .int (iZ b)), (3, .int (iZ w)), (4, .ref (aD g 100))]) 21 K dL_citation_19 rfl (by decide) rfl ?_
      refine z_iconst 22 K dL_citation_21 rfl ?_
      refine z_wid (kc' := 2) (ks' := 12) (by decide) (by decide) ?_
      exact z_iret K rfl dL_citation_22 ⟨hIx, fun q hq hne => hsx q hq, ⟨o, (hsx 100 (by omega)).trans hOut⟩, hd1.symm⟩
  exact hp_7.elim
set_option maxRecDepth 100000 in
theorem w_L_citation (l : Launch) (g : zG) (C : Nat → va_E) (a : Int) (b : Int) (w : Int) (o : Nat → Int64) (f : Int → Int) (past : Int → Int) (tx : Int → Int) (k : Int) (ty : Int) (cap : Int) (hOut : C 100 = eJ g 1 o) (hI : IW g C f k past ty tx) (hP : PW cap f k past ty tx) (h_a : -2147483648 ≤ a ∧ a < 2147483648) (h_b : -2147483648 ≤ b ∧ b < 2147483648) (h_w : -2147483648 ≤ w ∧ w < 2147483648) (hlt : l.stackTraces = false) : Met l yL_citation wsL_citation ({ frames := 8, cells := 2, slots := 12, locals := 127 } : Room) (zPre2 g C [.ref (aD g 0), .int (iZ a), .int (iZ b), .int (iZ w), .ref (aD g 100)]) (zQi g (fun z C' => IW g C' f k past ty tx ∧ (∀ q, 94 ≤ q → q ≠ 100 → C' q = C q) ∧ (∃ o2 : Nat → Int64, C' 100 = eJ g 1 o2 ∧ (kCtn a b w = 0 → o2 0 = (iZ (if b < f (32 * a + 65) then sOfC f a b w else -1)).toInt64)) ∧ z = kCtn a b w)) 2 12 (zA g) := by
  by_cases hk : kCtn a b w = 0
  · refine z_monI2 (a_L_citation l g C a b w o f past tx k ty cap hOut hI hP h_a h_b h_w hk) (fun z C' h => ?_)
    exact ⟨h.1, h.2.1, ⟨_, h.2.2.1, fun _ => vp_updL_0 _ _⟩, h.2.2.2.trans hk.symm⟩
  · refine z_monI2 (x_L_citation l g C a b w o f past tx k ty cap hOut hI hP h_a h_b h_w hk hlt) (fun z C' h => ?_)
    exact ⟨h.1, h.2.1, ⟨h.2.2.1.choose, h.2.2.1.choose_spec, fun q => absurd q hk⟩, h.2.2.2⟩
set_option maxHeartbeats 4000000 in
set_option maxRecDepth 100000 in
theorem a_L_paragraph (l : Launch) (g : zG) (C : Nat → va_E) (a : Int) (w : Int) (o : Nat → Int64) (f : Int → Int) (past : Int → Int) (tx : Int → Int) (k : Int) (ty : Int) (cap : Int) (hOut : C 100 = eJ g 1 o) (hI : IW g C f k past ty tx) (hP : PW cap f k past ty tx) (h_a : -2147483648 ≤ a ∧ a < 2147483648) (h_w : -2147483648 ≤ w ∧ w < 2147483648) (hk9 : kPrg a w = 0) : Met l yL_paragraph wsL_paragraph ({ frames := 8, cells := 2, slots := 12, locals := 125 } : Room) (zPre2 g C [.ref (aD g 0), .int (iZ a), .int (iZ w), .ref (aD g 100)]) (zQi g (fun z C' => IW g C' (f) (k) (past) (ty) (tx) ∧ (∀ q, 94 ≤ q → q ≠ 100 → C' q = C q) ∧ C' 100 = eJ g 1 (vp_updL o (Int.toNat 0) (iZ (sOfP f a w)).toInt64) ∧ z = 0)) 2 12 (zA g) := by
  refine z_enterT RL rfl (by decide) rfl (Nat.le_of_ble_eq_true rfl) ?_
  intro p e s m args below meth c K harg hTab hNc
  refine z_sub (lv' := [(0, .ref (aD g 0)), (1, .int (iZ a)), (2, .int (iZ w)), (3, .ref (aD g 100))]) [0, 1, 2, 3] rfl ?_
  have hI0 := hI
  obtain ⟨⟨gMa, -⟩, -, -, -, -, -⟩ := id hI
  refine z_aload_n 1 K dL_paragraph_0 rfl rfl 3 rfl ?_
  refine z_iconst 2 K dL_paragraph_1 rfl ?_
  refine z_aload_n 3 K dL_paragraph_2 rfl rfl 0 rfl ?_
  refine z_iload_n 4 K dL_paragraph_3 rfl rfl 1 rfl ?_
  refine z_iload_n 5 K dL_paragraph_4 rfl rfl 2 rfl ?_
  refine z_vVi (As := [.int (iZ a), .int (iZ w)]) (rest := [.int (iZ 0), .ref (aD g 100)]) 8 K 0 (by decide) gMa rfl rfl (a_X8_paragraph l g _ a w _ _ _ _ _ _ hI0 hP (by omega) (by omega) hk9) (cwV 2 K.1.2.2.2.2 gL_paragraph_X8_paragraph rfl rfl rfl (by decide +kernel) ⟨Nat.le_of_ble_eq_true rfl, Nat.le_of_ble_eq_true rfl⟩) rfl (Nat.le_of_ble_eq_true rfl) dL_paragraph_5 rfl ⟨Nat.le_of_ble_eq_true rfl, Nat.le_of_ble_eq_true rfl⟩ rfl (fun z_1 C_2 hp_5 => ?_)
  refine z_C hp_5.1 ?_
  refine z_top (sOfP f a w) hp_5.2 ?_
  refine z_i2l 9 K dL_paragraph_8 rfl ?_
  refine z_last (f := o) 10 K 100 (by decide) hOut (by decide) (by decide) (by decide) dL_paragraph_9 rfl ?_
  refine z_goto (tgt := 21) K dL_paragraph_10 (by decide) ?_
  refine z_iconst 22 K dL_paragraph_21 rfl ?_
  refine z_wid (kc' := 2) (ks' := 12) (by decide) (by decide) ?_
  exact z_iret K rfl dL_paragraph_22 ⟨IW_cong hI0 (fun q hq => ((va_up_ne _ _ (by omega)).trans rfl)), fun q hq hne => ((va_up_ne _ _ (by omega)).trans rfl), (va_up_eq _ 100 _), rfl⟩
set_option maxHeartbeats 4000000 in
set_option maxRecDepth 100000 in
theorem x_L_paragraph (l : Launch) (g : zG) (C : Nat → va_E) (a : Int) (w : Int) (o : Nat → Int64) (f : Int → Int) (past : Int → Int) (tx : Int → Int) (k : Int) (ty : Int) (cap : Int) (hOut : C 100 = eJ g 1 o) (hI : IW g C f k past ty tx) (hP : PW cap f k past ty tx) (h_a : -2147483648 ≤ a ∧ a < 2147483648) (h_w : -2147483648 ≤ w ∧ w < 2147483648) (hk9 : kPrg a w ≠ 0) (hlt : l.stackTraces = false) : Met l yL_paragraph wsL_paragraph ({ frames := 8, cells := 2, slots := 12, locals := 125 } : Room) (zPre2 g C [.ref (aD g 0), .int (iZ a), .int (iZ w), .ref (aD g 100)]) (zQi g (fun z C' => IW g C' f k past ty tx ∧ (∀ q, 94 ≤ q → q ≠ 100 → C' q = C q) ∧ (∃ o2, C' 100 = eJ g 1 o2) ∧ z = kPrg a w)) 2 12 (zA g) := by
  refine z_enterT RL rfl (by decide) rfl (Nat.le_of_ble_eq_true rfl) ?_
  intro p e s m args below meth c K harg hTab hNc
  refine z_sub (lv' := [(0, .ref (aD g 0)), (1, .int (iZ a)), (2, .int (iZ w)), (3, .ref (aD g 100))]) [0, 1, 2, 3] rfl ?_
  have hI0 := hI
  obtain ⟨⟨gMa, -⟩, -, -, -, -, -⟩ := id hI
  refine z_aload_n 1 K dL_paragraph_0 rfl rfl 3 rfl ?_
  refine z_iconst 2 K dL_paragraph_1 rfl ?_
  refine z_aload_n 3 K dL_paragraph_2 rfl rfl 0 rfl ?_
  refine z_iload_n 4 K dL_paragraph_3 rfl rfl 1 rfl ?_
  refine z_iload_n 5 K dL_paragraph_4 rfl rfl 2 rfl ?_
  refine z_xVi (As := [.int (iZ a), .int (iZ w)]) (rest := [.int (iZ 0), .ref (aD g 100)]) 8 K 0 (by decide) gMa rfl rfl (x_X8_paragraph l g _ a w _ _ _ _ _ _ hI0 hP (by omega) (by omega) hk9 hlt) (cwV 2 K.1.2.2.2.2 gL_paragraph_X8_paragraph rfl rfl rfl (by decide +kernel) ⟨Nat.le_of_ble_eq_true rfl, Nat.le_of_ble_eq_true rfl⟩) rfl (Nat.le_of_ble_eq_true rfl) dL_paragraph_5 rfl ⟨Nat.le_of_ble_eq_true rfl, Nat.le_of_ble_eq_true rfl⟩ rfl (fun E9 C9 hx9 => ?_) (fun z_1 C_2 hp_5 => ?_)
  · skip
    obtain ⟨hIx, hsx, hdx⟩ := hx9
    rcases hdx with ⟨rfl, hd0⟩ | ⟨rfl, hd1⟩
    · refine z_catch K hNc [] ⟨0, 10, 13, 13⟩ [⟨0, 10, 17, 15⟩] hTab (fun z hz => nomatch hz) (by decide) (by decide) (by decide +kernel) (by decide) (n := 13) rfl (fun q9 => ?_)
      refine z_astore (lv' := [(4, .ref q9), (0, .ref (aD g 0)), (1, .int (iZ a)), (2, .int (iZ w)), (3, .ref (aD g 100))]) 15 K dL_paragraph_13 rfl (by decide) rfl ?_
      refine z_iconst 16 K dL_paragraph_15 rfl ?_
      refine z_wid (kc' := 2) (ks' := 12) (by decide) (by decide) ?_
      exact z_iret K rfl dL_paragraph_16 ⟨hIx, fun q hq hne => hsx q hq, ⟨o, (hsx 100 (by omega)).trans hOut⟩, hd0.symm⟩
    · refine z_catch K hNc [⟨0, 10, 13, 13⟩] ⟨0, 10, 17, 15⟩ [] hTab (List.forall_mem_cons.mpr ⟨⟨by decide, _, (by decide +kernel : Cond.classLink RL 13 "java/lang/IndexOutOfBoundsException" ∈ wsL_paragraph), by decide⟩, fun z hz => nomatch hz⟩) (by decide) (by decide) (by decide +kernel) (by decide) (n := 17) rfl (fun q9 => ?_)
      refine z_astore (lv' := [(4, .ref q9), (0, .ref (aD g 0)), (1, .int (iZ a)), (2, .int (iZ w)), (3, .ref (aD g 100))]) 19 K dL_paragraph_17 rfl (by decide) rfl ?_
      refine z_iconst 20 K dL_paragraph_19 rfl ?_
      refine z_wid (kc' := 2) (ks' := 12) (by decide) (by decide) ?_
      exact z_iret K rfl dL_paragraph_20 ⟨hIx, fun q hq hne => hsx q hq, ⟨o, (hsx 100 (by omega)).trans hOut⟩, hd1.symm⟩
  exact hp_5.elim
set_option maxRecDepth 100000 in
theorem w_L_paragraph (l : Launch) (g : zG) (C : Nat → va_E) (a : Int) (w : Int) (o : Nat → Int64) (f : Int → Int) (past : Int → Int) (tx : Int → Int) (k : Int) (ty : Int) (cap : Int) (hOut : C 100 = eJ g 1 o) (hI : IW g C f k past ty tx) (hP : PW cap f k past ty tx) (h_a : -2147483648 ≤ a ∧ a < 2147483648) (h_w : -2147483648 ≤ w ∧ w < 2147483648) (hlt : l.stackTraces = false) : Met l yL_paragraph wsL_paragraph ({ frames := 8, cells := 2, slots := 12, locals := 125 } : Room) (zPre2 g C [.ref (aD g 0), .int (iZ a), .int (iZ w), .ref (aD g 100)]) (zQi g (fun z C' => IW g C' f k past ty tx ∧ (∀ q, 94 ≤ q → q ≠ 100 → C' q = C q) ∧ (∃ o2 : Nat → Int64, C' 100 = eJ g 1 o2 ∧ (kPrg a w = 0 → o2 0 = (iZ (sOfP f a w)).toInt64)) ∧ z = kPrg a w)) 2 12 (zA g) := by
  by_cases hk : kPrg a w = 0
  · refine z_monI2 (a_L_paragraph l g C a w o f past tx k ty cap hOut hI hP h_a h_w hk) (fun z C' h => ?_)
    exact ⟨h.1, h.2.1, ⟨_, h.2.2.1, fun _ => vp_updL_0 _ _⟩, h.2.2.2.trans hk.symm⟩
  · refine z_monI2 (x_L_paragraph l g C a w o f past tx k ty cap hOut hI hP h_a h_w hk hlt) (fun z C' h => ?_)
    exact ⟨h.1, h.2.1, ⟨h.2.2.1.choose, h.2.2.1.choose_spec, fun q => absurd q hk⟩, h.2.2.2⟩
set_option maxHeartbeats 4000000 in
set_option maxRecDepth 100000 in
theorem a_L_table (l : Launch) (g : zG) (C : Nat → va_E) (p0 : Int) (o : Nat → Int64) (f : Int → Int) (past : Int → Int) (tx : Int → Int) (k : Int) (ty : Int) (cap : Int) (hOut : C 100 = eJ g 1 o) (hI : IW g C f k past ty tx) (hP : PW cap f k past ty tx) (h_p0 : -2147483648 ≤ p0 ∧ p0 < 2147483648) (hk9 : kPl f p0 = 0) : Met l yL_table wsL_table ({ frames := 8, cells := 1, slots := 6, locals := 126 } : Room) (zPre2 g C [.ref (aD g 0), .int (iZ p0), .ref (aD g 100)]) (zQi g (fun z C' => IW g C' (f) (k) (past) (ty) (tx) ∧ (∀ q, 94 ≤ q → q ≠ 100 → C' q = C q) ∧ C' 100 = eJ g 1 (vp_updL o (Int.toNat 0) (iZ (sRow f p0)).toInt64) ∧ z = 0)) 1 6 (zA g) := by
  refine z_enterT RL rfl (by decide) rfl (Nat.le_of_ble_eq_true rfl) ?_
  intro p e s m args below meth c K harg hTab hNc
  refine z_sub (lv' := [(0, .ref (aD g 0)), (1, .int (iZ p0)), (2, .ref (aD g 100))]) [0, 1, 2] rfl ?_
  have hI0 := hI
  obtain ⟨⟨gMa, -⟩, -, -, -, -, -⟩ := id hI
  refine z_aload_n 1 K dL_table_0 rfl rfl 2 rfl ?_
  refine z_iconst 2 K dL_table_1 rfl ?_
  refine z_aload_n 3 K dL_table_2 rfl rfl 0 rfl ?_
  refine z_iload_n 4 K dL_table_3 rfl rfl 1 rfl ?_
  refine z_vVi (As := [.int (iZ p0)]) (rest := [.int (iZ 0), .ref (aD g 100)]) 7 K 0 (by decide) gMa rfl rfl (a_X8_table l g _ p0 _ _ _ _ _ _ hI0 hP (by omega) hk9) (cwV 1 K.1.2.2.2.2 gL_table_X8_table rfl rfl rfl (by decide +kernel) ⟨Nat.le_of_ble_eq_true rfl, Nat.le_of_ble_eq_true rfl⟩) rfl (Nat.le_of_ble_eq_true rfl) dL_table_4 rfl ⟨Nat.le_of_ble_eq_true rfl, Nat.le_of_ble_eq_true rfl⟩ rfl (fun z_1 C_2 hp_4 => ?_)
  refine z_C hp_4.1 ?_
  refine z_top (sRow f p0) hp_4.2 ?_
  refine z_i2l 8 K dL_table_7 rfl ?_
  refine z_last (f := o) 9 K 100 (by decide) hOut (by decide) (by decide) (by decide) dL_table_8 rfl ?_
  refine z_goto (tgt := 15) K dL_table_9 (by decide) ?_
  refine z_iconst 16 K dL_table_15 rfl ?_
  refine z_wid (kc' := 1) (ks' := 6) (by decide) (by decide) ?_
  exact z_iret K rfl dL_table_16 ⟨IW_cong hI0 (fun q hq => ((va_up_ne _ _ (by omega)).trans rfl)), fun q hq hne => ((va_up_ne _ _ (by omega)).trans rfl), (va_up_eq _ 100 _), rfl⟩
set_option maxHeartbeats 4000000 in
set_option maxRecDepth 100000 in
theorem x_L_table (l : Launch) (g : zG) (C : Nat → va_E) (p0 : Int) (o : Nat → Int64) (f : Int → Int) (past : Int → Int) (tx : Int → Int) (k : Int) (ty : Int) (cap : Int) (hOut : C 100 = eJ g 1 o) (hI : IW g C f k past ty tx) (hP : PW cap f k past ty tx) (h_p0 : -2147483648 ≤ p0 ∧ p0 < 2147483648) (hk9 : kPl f p0 ≠ 0) (hlt : l.stackTraces = false) : Met l yL_table wsL_table ({ frames := 8, cells := 1, slots := 6, locals := 126 } : Room) (zPre2 g C [.ref (aD g 0), .int (iZ p0), .ref (aD g 100)]) (zQi g (fun z C' => IW g C' f k past ty tx ∧ (∀ q, 94 ≤ q → q ≠ 100 → C' q = C q) ∧ (∃ o2, C' 100 = eJ g 1 o2) ∧ z = kPl f p0)) 1 6 (zA g) := by
  refine z_enterT RL rfl (by decide) rfl (Nat.le_of_ble_eq_true rfl) ?_
  intro p e s m args below meth c K harg hTab hNc
  refine z_sub (lv' := [(0, .ref (aD g 0)), (1, .int (iZ p0)), (2, .ref (aD g 100))]) [0, 1, 2] rfl ?_
  have hI0 := hI
  obtain ⟨⟨gMa, -⟩, -, -, -, -, -⟩ := id hI
  refine z_aload_n 1 K dL_table_0 rfl rfl 2 rfl ?_
  refine z_iconst 2 K dL_table_1 rfl ?_
  refine z_aload_n 3 K dL_table_2 rfl rfl 0 rfl ?_
  refine z_iload_n 4 K dL_table_3 rfl rfl 1 rfl ?_
  refine z_xVi (As := [.int (iZ p0)]) (rest := [.int (iZ 0), .ref (aD g 100)]) 7 K 0 (by decide) gMa rfl rfl (x_X8_table l g _ p0 _ _ _ _ _ _ hI0 hP (by omega) hk9 hlt) (cwV 1 K.1.2.2.2.2 gL_table_X8_table rfl rfl rfl (by decide +kernel) ⟨Nat.le_of_ble_eq_true rfl, Nat.le_of_ble_eq_true rfl⟩) rfl (Nat.le_of_ble_eq_true rfl) dL_table_4 rfl ⟨Nat.le_of_ble_eq_true rfl, Nat.le_of_ble_eq_true rfl⟩ rfl (fun E9 C9 hx9 => ?_) (fun z_1 C_2 hp_4 => ?_)
  · skip
    obtain ⟨hIx, hsx, hdx⟩ := hx9
    rcases hdx with ⟨rfl, hd0⟩
    · refine z_catch K hNc [] ⟨0, 9, 12, 13⟩ [] hTab (fun z hz => nomatch hz) (by decide) (by decide) (by decide +kernel) (by decide) (n := 12) rfl (fun q9 => ?_)
      refine z_astore_n (lv' := [(3, .ref q9), (0, .ref (aD g 0)), (1, .int (iZ p0)), (2, .ref (aD g 100))]) 13 K dL_table_12 rfl rfl (by decide) rfl ?_
      refine z_iconst 14 K dL_table_13 rfl ?_
      refine z_wid (kc' := 1) (ks' := 6) (by decide) (by decide) ?_
      exact z_iret K rfl dL_table_14 ⟨hIx, fun q hq hne => hsx q hq, ⟨o, (hsx 100 (by omega)).trans hOut⟩, hd0.symm⟩
  exact hp_4.elim
set_option maxRecDepth 100000 in
theorem w_L_table (l : Launch) (g : zG) (C : Nat → va_E) (p0 : Int) (o : Nat → Int64) (f : Int → Int) (past : Int → Int) (tx : Int → Int) (k : Int) (ty : Int) (cap : Int) (hOut : C 100 = eJ g 1 o) (hI : IW g C f k past ty tx) (hP : PW cap f k past ty tx) (h_p0 : -2147483648 ≤ p0 ∧ p0 < 2147483648) (hlt : l.stackTraces = false) : Met l yL_table wsL_table ({ frames := 8, cells := 1, slots := 6, locals := 126 } : Room) (zPre2 g C [.ref (aD g 0), .int (iZ p0), .ref (aD g 100)]) (zQi g (fun z C' => IW g C' f k past ty tx ∧ (∀ q, 94 ≤ q → q ≠ 100 → C' q = C q) ∧ (∃ o2 : Nat → Int64, C' 100 = eJ g 1 o2 ∧ (kPl f p0 = 0 → o2 0 = (iZ (sRow f p0)).toInt64)) ∧ z = kPl f p0)) 1 6 (zA g) := by
  by_cases hk : kPl f p0 = 0
  · refine z_monI2 (a_L_table l g C p0 o f past tx k ty cap hOut hI hP h_p0 hk) (fun z C' h => ?_)
    exact ⟨h.1, h.2.1, ⟨_, h.2.2.1, fun _ => vp_updL_0 _ _⟩, h.2.2.2.trans hk.symm⟩
  · refine z_monI2 (x_L_table l g C p0 o f past tx k ty cap hOut hI hP h_p0 hk hlt) (fun z C' h => ?_)
    exact ⟨h.1, h.2.1, ⟨h.2.2.1.choose, h.2.2.1.choose_spec, fun q => absurd q hk⟩, h.2.2.2⟩
set_option maxHeartbeats 4000000 in
set_option maxRecDepth 100000 in
theorem a_L_count (l : Launch) (g : zG) (C : Nat → va_E) (w : Int) (o : Nat → Int64) (f : Int → Int) (past : Int → Int) (tx : Int → Int) (k : Int) (ty : Int) (cap : Int) (hOut : C 100 = eJ g 1 o) (hI : IW g C f k past ty tx) (hP : PW cap f k past ty tx) (h_w : -2147483648 ≤ w ∧ w < 2147483648) (hk9 : kCnt w = 0) : Met l yL_count wsL_count ({ frames := 8, cells := 1, slots := 6, locals := 124 } : Room) (zPre2 g C [.ref (aD g 0), .int (iZ w), .ref (aD g 100)]) (zQi g (fun z C' => IW g C' (f) (k) (past) (ty) (tx) ∧ (∀ q, 94 ≤ q → q ≠ 100 → C' q = C q) ∧ C' 100 = eJ g 1 (vp_updL o (Int.toNat 0) (iZ (sCnt f k w)).toInt64) ∧ z = 0)) 1 6 (zA g) := by
  refine z_enterT RL rfl (by decide) rfl (Nat.le_of_ble_eq_true rfl) ?_
  intro p e s m args below meth c K harg hTab hNc
  refine z_sub (lv' := [(0, .ref (aD g 0)), (1, .int (iZ w)), (2, .ref (aD g 100))]) [0, 1, 2] rfl ?_
  have hI0 := hI
  obtain ⟨⟨gMa, -⟩, -, -, -, -, -⟩ := id hI
  refine z_aload_n 1 K dL_count_0 rfl rfl 2 rfl ?_
  refine z_iconst 2 K dL_count_1 rfl ?_
  refine z_aload_n 3 K dL_count_2 rfl rfl 0 rfl ?_
  refine z_iload_n 4 K dL_count_3 rfl rfl 1 rfl ?_
  refine z_vVi (As := [.int (iZ w)]) (rest := [.int (iZ 0), .ref (aD g 100)]) 7 K 0 (by decide) gMa rfl rfl (a_X8_count l g _ w _ _ _ _ _ _ hI0 hP (by omega) hk9) (cwV 1 K.1.2.2.2.2 gL_count_X8_count rfl rfl rfl (by decide +kernel) ⟨Nat.le_of_ble_eq_true rfl, Nat.le_of_ble_eq_true rfl⟩) rfl (Nat.le_of_ble_eq_true rfl) dL_count_4 rfl ⟨Nat.le_of_ble_eq_true rfl, Nat.le_of_ble_eq_true rfl⟩ rfl (fun z_1 C_2 hp_4 => ?_)
  refine z_C hp_4.1 ?_
  refine z_top (sCnt f k w) hp_4.2 ?_
  refine z_i2l 8 K dL_count_7 rfl ?_
  refine z_last (f := o) 9 K 100 (by decide) hOut (by decide) (by decide) (by decide) dL_count_8 rfl ?_
  refine z_goto (tgt := 15) K dL_count_9 (by decide) ?_
  refine z_iconst 16 K dL_count_15 rfl ?_
  refine z_wid (kc' := 1) (ks' := 6) (by decide) (by decide) ?_
  exact z_iret K rfl dL_count_16 ⟨IW_cong hI0 (fun q hq => ((va_up_ne _ _ (by omega)).trans rfl)), fun q hq hne => ((va_up_ne _ _ (by omega)).trans rfl), (va_up_eq _ 100 _), rfl⟩
set_option maxHeartbeats 4000000 in
set_option maxRecDepth 100000 in
theorem x_L_count (l : Launch) (g : zG) (C : Nat → va_E) (w : Int) (o : Nat → Int64) (f : Int → Int) (past : Int → Int) (tx : Int → Int) (k : Int) (ty : Int) (cap : Int) (hOut : C 100 = eJ g 1 o) (hI : IW g C f k past ty tx) (hP : PW cap f k past ty tx) (h_w : -2147483648 ≤ w ∧ w < 2147483648) (hk9 : kCnt w ≠ 0) (hlt : l.stackTraces = false) : Met l yL_count wsL_count ({ frames := 8, cells := 1, slots := 6, locals := 124 } : Room) (zPre2 g C [.ref (aD g 0), .int (iZ w), .ref (aD g 100)]) (zQi g (fun z C' => IW g C' f k past ty tx ∧ (∀ q, 94 ≤ q → q ≠ 100 → C' q = C q) ∧ (∃ o2, C' 100 = eJ g 1 o2) ∧ z = kCnt w)) 1 6 (zA g) := by
  refine z_enterT RL rfl (by decide) rfl (Nat.le_of_ble_eq_true rfl) ?_
  intro p e s m args below meth c K harg hTab hNc
  refine z_sub (lv' := [(0, .ref (aD g 0)), (1, .int (iZ w)), (2, .ref (aD g 100))]) [0, 1, 2] rfl ?_
  have hI0 := hI
  obtain ⟨⟨gMa, -⟩, -, -, -, -, -⟩ := id hI
  refine z_aload_n 1 K dL_count_0 rfl rfl 2 rfl ?_
  refine z_iconst 2 K dL_count_1 rfl ?_
  refine z_aload_n 3 K dL_count_2 rfl rfl 0 rfl ?_
  refine z_iload_n 4 K dL_count_3 rfl rfl 1 rfl ?_
  refine z_xVi (As := [.int (iZ w)]) (rest := [.int (iZ 0), .ref (aD g 100)]) 7 K 0 (by decide) gMa rfl rfl (x_X8_count l g _ w _ _ _ _ _ _ hI0 hP (by omega) hk9 hlt) (cwV 1 K.1.2.2.2.2 gL_count_X8_count rfl rfl rfl (by decide +kernel) ⟨Nat.le_of_ble_eq_true rfl, Nat.le_of_ble_eq_true rfl⟩) rfl (Nat.le_of_ble_eq_true rfl) dL_count_4 rfl ⟨Nat.le_of_ble_eq_true rfl, Nat.le_of_ble_eq_true rfl⟩ rfl (fun E9 C9 hx9 => ?_) (fun z_1 C_2 hp_4 => ?_)
  · skip
    obtain ⟨hIx, hsx, hdx⟩ := hx9
    rcases hdx with ⟨rfl, hd0⟩
    · refine z_catch K hNc [] ⟨0, 9, 12, 15⟩ [] hTab (fun z hz => nomatch hz) (by decide) (by decide) (by decide +kernel) (by decide) (n := 12) rfl (fun q9 => ?_)
      refine z_astore_n (lv' := [(3, .ref q9), (0, .ref (aD g 0)), (1, .int (iZ w)), (2, .ref (aD g 100))]) 13 K dL_count_12 rfl rfl (by decide) rfl ?_
      refine z_iconst 14 K dL_count_13 rfl ?_
      refine z_wid (kc' := 1) (ks' := 6) (by decide) (by decide) ?_
      exact z_iret K rfl dL_count_14 ⟨hIx, fun q hq hne => hsx q hq, ⟨o, (hsx 100 (by omega)).trans hOut⟩, hd0.symm⟩
  exact hp_4.elim
set_option maxRecDepth 100000 in
theorem w_L_count (l : Launch) (g : zG) (C : Nat → va_E) (w : Int) (o : Nat → Int64) (f : Int → Int) (past : Int → Int) (tx : Int → Int) (k : Int) (ty : Int) (cap : Int) (hOut : C 100 = eJ g 1 o) (hI : IW g C f k past ty tx) (hP : PW cap f k past ty tx) (h_w : -2147483648 ≤ w ∧ w < 2147483648) (hlt : l.stackTraces = false) : Met l yL_count wsL_count ({ frames := 8, cells := 1, slots := 6, locals := 124 } : Room) (zPre2 g C [.ref (aD g 0), .int (iZ w), .ref (aD g 100)]) (zQi g (fun z C' => IW g C' f k past ty tx ∧ (∀ q, 94 ≤ q → q ≠ 100 → C' q = C q) ∧ (∃ o2 : Nat → Int64, C' 100 = eJ g 1 o2 ∧ (kCnt w = 0 → o2 0 = (iZ (sCnt f k w)).toInt64)) ∧ z = kCnt w)) 1 6 (zA g) := by
  by_cases hk : kCnt w = 0
  · refine z_monI2 (a_L_count l g C w o f past tx k ty cap hOut hI hP h_w hk) (fun z C' h => ?_)
    exact ⟨h.1, h.2.1, ⟨_, h.2.2.1, fun _ => vp_updL_0 _ _⟩, h.2.2.2.trans hk.symm⟩
  · refine z_monI2 (x_L_count l g C w o f past tx k ty cap hOut hI hP h_w hk hlt) (fun z C' h => ?_)
    exact ⟨h.1, h.2.1, ⟨h.2.2.1.choose, h.2.2.1.choose_spec, fun q => absurd q hk⟩, h.2.2.2⟩
set_option maxHeartbeats 4000000 in
set_option maxRecDepth 100000 in
theorem a_L_ifInserted (l : Launch) (g : zG) (C : Nat → va_E) (p0 : Int) (y : Int) (w : Int) (o : Nat → Int64) (f : Int → Int) (past : Int → Int) (tx : Int → Int) (k : Int) (ty : Int) (cap : Int) (hOut : C 100 = eJ g 1 o) (hI : IW g C f k past ty tx) (hP : PW cap f k past ty tx) (h_p0 : -2147483648 ≤ p0 ∧ p0 < 2147483648) (h_y : -2147483648 ≤ y ∧ y < 2147483648) (h_w : -2147483648 ≤ w ∧ w < 2147483648) (hk9 : kIfI f p0 y w = 0) : Met l yL_ifInserted wsL_ifInserted ({ frames := 8, cells := 3, slots := 18, locals := 126 } : Room) (zPre2 g C [.ref (aD g 0), .int (iZ p0), .int (iZ y), .int (iZ w), .ref (aD g 100)]) (zQi g (fun z C' => IW g C' (f) (k) (past) (ty) (tx) ∧ (∀ q, 94 ≤ q → q ≠ 100 → C' q = C q) ∧ C' 100 = eJ g 1 (vp_updL o (Int.toNat 0) (iZ (sIns f p0 y w)).toInt64) ∧ z = 0)) 3 18 (zA g) := by
  refine z_enterT RL rfl (by decide) rfl (Nat.le_of_ble_eq_true rfl) ?_
  intro p e s m args below meth c K harg hTab hNc
  refine z_sub (lv' := [(0, .ref (aD g 0)), (1, .int (iZ p0)), (2, .int (iZ y)), (3, .int (iZ w)), (4, .ref (aD g 100))]) [0, 1, 2, 3, 4] rfl ?_
  have hI0 := hI
  obtain ⟨⟨gMa, -⟩, -, -, -, -, -⟩ := id hI
  refine z_aload 2 K dL_ifInserted_0 rfl 4 rfl ?_
  refine z_iconst 3 K dL_ifInserted_2 rfl ?_
  refine z_aload_n 4 K dL_ifInserted_3 rfl rfl 0 rfl ?_
  refine z_iload_n 5 K dL_ifInserted_4 rfl rfl 1 rfl ?_
  refine z_iload_n 6 K dL_ifInserted_5 rfl rfl 2 rfl ?_
  refine z_iload_n 7 K dL_ifInserted_6 rfl rfl 3 rfl ?_
  refine z_vVi (As := [.int (iZ p0), .int (iZ y), .int (iZ w)]) (rest := [.int (iZ 0), .ref (aD g 100)]) 10 K 0 (by decide) gMa rfl rfl (a_X8_ifInserted l g _ p0 y w _ _ _ _ _ _ hI0 hP (by omega) (by omega) (by omega) hk9) (cwV 3 K.1.2.2.2.2 gL_ifInserted_X8_ifInserted rfl rfl rfl (by decide +kernel) ⟨Nat.le_of_ble_eq_true rfl, Nat.le_of_ble_eq_true rfl⟩) rfl (Nat.le_of_ble_eq_true rfl) dL_ifInserted_7 rfl ⟨Nat.le_of_ble_eq_true rfl, Nat.le_of_ble_eq_true rfl⟩ rfl (fun z_1 C_2 hp_7 => ?_)
  obtain ⟨hIn_7, hsm_7, hz_7⟩ := hp_7
  refine z_top (sIns f p0 y w) hz_7 ?_
  have hf_7_100 : C_2 100 = eJ g 1 o := (hsm_7 100 (by omega)).trans hOut
  refine z_i2l 11 K dL_ifInserted_10 rfl ?_
  refine z_last (f := o) 12 K 100 (by decide) hf_7_100 (by decide) (by decide) (by decide) dL_ifInserted_11 rfl ?_
  refine z_goto (tgt := 23) K dL_ifInserted_12 (by decide) ?_
  refine z_iconst 24 K dL_ifInserted_23 rfl ?_
  refine z_wid (kc' := 3) (ks' := 18) (by decide) (by decide) ?_
  exact z_iret K rfl dL_ifInserted_24 ⟨IW_cong hIn_7 (fun q hq => ((va_up_ne _ _ (by omega)).trans rfl)), fun q hq hne => (((va_up_ne _ _ (by omega)).trans rfl)).trans (hsm_7 q hq), (va_up_eq _ 100 _), rfl⟩
set_option maxHeartbeats 4000000 in
set_option maxRecDepth 100000 in
theorem x_L_ifInserted (l : Launch) (g : zG) (C : Nat → va_E) (p0 : Int) (y : Int) (w : Int) (o : Nat → Int64) (f : Int → Int) (past : Int → Int) (tx : Int → Int) (k : Int) (ty : Int) (cap : Int) (hOut : C 100 = eJ g 1 o) (hI : IW g C f k past ty tx) (hP : PW cap f k past ty tx) (h_p0 : -2147483648 ≤ p0 ∧ p0 < 2147483648) (h_y : -2147483648 ≤ y ∧ y < 2147483648) (h_w : -2147483648 ≤ w ∧ w < 2147483648) (hk9 : kIfI f p0 y w ≠ 0) (hlt : l.stackTraces = false) : Met l yL_ifInserted wsL_ifInserted ({ frames := 8, cells := 3, slots := 18, locals := 126 } : Room) (zPre2 g C [.ref (aD g 0), .int (iZ p0), .int (iZ y), .int (iZ w), .ref (aD g 100)]) (zQi g (fun z C' => IW g C' f k past ty tx ∧ (∀ q, 94 ≤ q → q ≠ 100 → C' q = C q) ∧ (∃ o2, C' 100 = eJ g 1 o2) ∧ z = kIfI f p0 y w)) 3 18 (zA g) := by
  refine z_enterT RL rfl (by decide) rfl (Nat.le_of_ble_eq_true rfl) ?_
  intro p e s m args below meth c K harg hTab hNc
  refine z_sub (lv' := [(0, .ref (aD g 0)), (1, .int (iZ p0)), (2, .int (iZ y)), (3, .int (iZ w)), (4, .ref (aD g 100))]) [0, 1, 2, 3, 4] rfl ?_
  have hI0 := hI
  obtain ⟨⟨gMa, -⟩, -, -, -, -, -⟩ := id hI
  refine z_aload 2 K dL_ifInserted_0 rfl 4 rfl ?_
  refine z_iconst 3 K dL_ifInserted_2 rfl ?_
  refine z_aload_n 4 K dL_ifInserted_3 rfl rfl 0 rfl ?_
  refine z_iload_n 5 K dL_ifInserted_4 rfl rfl 1 rfl ?_
  refine z_iload_n 6 K dL_ifInserted_5 rfl rfl 2 rfl ?_
  refine z_iload_n 7 K dL_ifInserted_6 rfl rfl 3 rfl ?_
  refine z_xVi (As := [.int (iZ p0), .int (iZ y), .int (iZ w)]) (rest := [.int (iZ 0), .ref (aD g 100)]) 10 K 0 (by decide) gMa rfl rfl (x_X8_ifInserted l g _ p0 y w _ _ _ _ _ _ hI0 hP (by omega) (by omega) (by omega) hk9 hlt) (cwV 3 K.1.2.2.2.2 gL_ifInserted_X8_ifInserted rfl rfl rfl (by decide +kernel) ⟨Nat.le_of_ble_eq_true rfl, Nat.le_of_ble_eq_true rfl⟩) rfl (Nat.le_of_ble_eq_true rfl) dL_ifInserted_7 rfl ⟨Nat.le_of_ble_eq_true rfl, Nat.le_of_ble_eq_true rfl⟩ rfl (fun E9 C9 hx9 => ?_) (fun z_1 C_2 hp_7 => ?_)
  · skip
    obtain ⟨hIx, hsx, hdx⟩ := hx9
    rcases hdx with ⟨rfl, hd0⟩ | ⟨rfl, hd1⟩
    · refine z_catch K hNc [] ⟨0, 12, 15, 13⟩ [⟨0, 12, 19, 15⟩] hTab (fun z hz => nomatch hz) (by decide) (by decide) (by decide +kernel) (by decide) (n := 15) rfl (fun q9 => ?_)
      refine z_astore (lv' := [(5, .ref q9), (0, .ref (aD g 0)), (1, .int (iZ p0)), (2, .int (iZ y)), (3, .int (iZ w)), (4, .ref (aD g 100))]) 17 K dL_ifInserted_15 rfl (by decide) rfl ?_
      refine z_iconst 18 K dL_ifInserted_17 rfl ?_
      refine z_wid (kc' := 3) (ks' := 18) (by decide) (by decide) ?_
      exact z_iret K rfl dL_ifInserted_18 ⟨hIx, fun q hq hne => hsx q hq, ⟨o, (hsx 100 (by omega)).trans hOut⟩, hd0.symm⟩
    · refine z_catch K hNc [⟨0, 12, 15, 13⟩] ⟨0, 12, 19, 15⟩ [] hTab (List.forall_mem_cons.mpr ⟨⟨by decide, _, (by decide +kernel : Cond.classLink RL 13 "java/lang/IndexOutOfBoundsException" ∈ wsL_ifInserted), by decide⟩, fun z hz => nomatch hz⟩) (by decide) (by decide) (by decide +kernel) (by decide) (n := 19) rfl (fun q9 => ?_)
      refine z_astore (lv' := [(5, .ref q9), (0, .ref (aD g 0)), (1, .int (iZ p0)), (2, .int (iZ y)), (3, .int (iZ w)), (4, .ref (aD g 100))]) 21 K dL_ifInserted_19 rfl (by decide) rfl ?_
      refine z_iconst 22 K dL_ifInserted_21 rfl ?_
      refine z_wid (kc' := 3) (ks' := 18) (by decide) (by decide) ?_
      exact z_iret K rfl dL_ifInserted_22 ⟨hIx, fun q hq hne => hsx q hq, ⟨o, (hsx 100 (by omega)).trans hOut⟩, hd1.symm⟩
  exact hp_7.elim
set_option maxRecDepth 100000 in
theorem w_L_ifInserted (l : Launch) (g : zG) (C : Nat → va_E) (p0 : Int) (y : Int) (w : Int) (o : Nat → Int64) (f : Int → Int) (past : Int → Int) (tx : Int → Int) (k : Int) (ty : Int) (cap : Int) (hOut : C 100 = eJ g 1 o) (hI : IW g C f k past ty tx) (hP : PW cap f k past ty tx) (h_p0 : -2147483648 ≤ p0 ∧ p0 < 2147483648) (h_y : -2147483648 ≤ y ∧ y < 2147483648) (h_w : -2147483648 ≤ w ∧ w < 2147483648) (hlt : l.stackTraces = false) : Met l yL_ifInserted wsL_ifInserted ({ frames := 8, cells := 3, slots := 18, locals := 126 } : Room) (zPre2 g C [.ref (aD g 0), .int (iZ p0), .int (iZ y), .int (iZ w), .ref (aD g 100)]) (zQi g (fun z C' => IW g C' f k past ty tx ∧ (∀ q, 94 ≤ q → q ≠ 100 → C' q = C q) ∧ (∃ o2 : Nat → Int64, C' 100 = eJ g 1 o2 ∧ (kIfI f p0 y w = 0 → o2 0 = (iZ (sIns f p0 y w)).toInt64)) ∧ z = kIfI f p0 y w)) 3 18 (zA g) := by
  by_cases hk : kIfI f p0 y w = 0
  · refine z_monI2 (a_L_ifInserted l g C p0 y w o f past tx k ty cap hOut hI hP h_p0 h_y h_w hk) (fun z C' h => ?_)
    exact ⟨h.1, h.2.1, ⟨_, h.2.2.1, fun _ => vp_updL_0 _ _⟩, h.2.2.2.trans hk.symm⟩
  · refine z_monI2 (x_L_ifInserted l g C p0 y w o f past tx k ty cap hOut hI hP h_p0 h_y h_w hk hlt) (fun z C' h => ?_)
    exact ⟨h.1, h.2.1, ⟨h.2.2.1.choose, h.2.2.1.choose_spec, fun q => absurd q hk⟩, h.2.2.2⟩
set_option maxHeartbeats 4000000 in
set_option maxRecDepth 100000 in
theorem a_L_ifDropped (l : Launch) (g : zG) (C : Nat → va_E) (p0 : Int) (w : Int) (o : Nat → Int64) (f : Int → Int) (past : Int → Int) (tx : Int → Int) (k : Int) (ty : Int) (cap : Int) (hOut : C 100 = eJ g 1 o) (hI : IW g C f k past ty tx) (hP : PW cap f k past ty tx) (h_p0 : -2147483648 ≤ p0 ∧ p0 < 2147483648) (h_w : -2147483648 ≤ w ∧ w < 2147483648) (hk9 : kIfD f p0 w = 0) : Met l yL_ifDropped wsL_ifDropped ({ frames := 8, cells := 2, slots := 12, locals := 125 } : Room) (zPre2 g C [.ref (aD g 0), .int (iZ p0), .int (iZ w), .ref (aD g 100)]) (zQi g (fun z C' => IW g C' (f) (k) (past) (ty) (tx) ∧ (∀ q, 94 ≤ q → q ≠ 100 → C' q = C q) ∧ C' 100 = eJ g 1 (vp_updL o (Int.toNat 0) (iZ (sDrp f p0 w)).toInt64) ∧ z = 0)) 2 12 (zA g) := by
  refine z_enterT RL rfl (by decide) rfl (Nat.le_of_ble_eq_true rfl) ?_
  intro p e s m args below meth c K harg hTab hNc
  refine z_sub (lv' := [(0, .ref (aD g 0)), (1, .int (iZ p0)), (2, .int (iZ w)), (3, .ref (aD g 100))]) [0, 1, 2, 3] rfl ?_
  have hI0 := hI
  obtain ⟨⟨gMa, -⟩, -, -, -, -, -⟩ := id hI
  refine z_aload_n 1 K dL_ifDropped_0 rfl rfl 3 rfl ?_
  refine z_iconst 2 K dL_ifDropped_1 rfl ?_
  refine z_aload_n 3 K dL_ifDropped_2 rfl rfl 0 rfl ?_
  refine z_iload_n 4 K dL_ifDropped_3 rfl rfl 1 rfl ?_
  refine z_iload_n 5 K dL_ifDropped_4 rfl rfl 2 rfl ?_
  refine z_vVi (As := [.int (iZ p0), .int (iZ w)]) (rest := [.int (iZ 0), .ref (aD g 100)]) 8 K 0 (by decide) gMa rfl rfl (a_X8_ifDropped l g _ p0 w _ _ _ _ _ _ hI0 hP (by omega) (by omega) hk9) (cwV 2 K.1.2.2.2.2 gL_ifDropped_X8_ifDropped rfl rfl rfl (by decide +kernel) ⟨Nat.le_of_ble_eq_true rfl, Nat.le_of_ble_eq_true rfl⟩) rfl (Nat.le_of_ble_eq_true rfl) dL_ifDropped_5 rfl ⟨Nat.le_of_ble_eq_true rfl, Nat.le_of_ble_eq_true rfl⟩ rfl (fun z_1 C_2 hp_5 => ?_)
  obtain ⟨hIn_5, hsm_5, hz_5⟩ := hp_5
  refine z_top (sDrp f p0 w) hz_5 ?_
  have hf_5_100 : C_2 100 = eJ g 1 o := (hsm_5 100 (by omega)).trans hOut
  refine z_i2l 9 K dL_ifDropped_8 rfl ?_
  refine z_last (f := o) 10 K 100 (by decide) hf_5_100 (by decide) (by decide) (by decide) dL_ifDropped_9 rfl ?_
  refine z_goto (tgt := 21) K dL_ifDropped_10 (by decide) ?_
  refine z_iconst 22 K dL_ifDropped_21 rfl ?_
  refine z_wid (kc' := 2) (ks' := 12) (by decide) (by decide) ?_
  exact z_iret K rfl dL_ifDropped_22 ⟨IW_cong hIn_5 (fun q hq => ((va_up_ne _ _ (by omega)).trans rfl)), fun q hq hne => (((va_up_ne _ _ (by omega)).trans rfl)).trans (hsm_5 q hq), (va_up_eq _ 100 _), rfl⟩
set_option maxHeartbeats 4000000 in
set_option maxRecDepth 100000 in
theorem x_L_ifDropped (l : Launch) (g : zG) (C : Nat → va_E) (p0 : Int) (w : Int) (o : Nat → Int64) (f : Int → Int) (past : Int → Int) (tx : Int → Int) (k : Int) (ty : Int) (cap : Int) (hOut : C 100 = eJ g 1 o) (hI : IW g C f k past ty tx) (hP : PW cap f k past ty tx) (h_p0 : -2147483648 ≤ p0 ∧ p0 < 2147483648) (h_w : -2147483648 ≤ w ∧ w < 2147483648) (hk9 : kIfD f p0 w ≠ 0) (hlt : l.stackTraces = false) : Met l yL_ifDropped wsL_ifDropped ({ frames := 8, cells := 2, slots := 12, locals := 125 } : Room) (zPre2 g C [.ref (aD g 0), .int (iZ p0), .int (iZ w), .ref (aD g 100)]) (zQi g (fun z C' => IW g C' f k past ty tx ∧ (∀ q, 94 ≤ q → q ≠ 100 → C' q = C q) ∧ (∃ o2, C' 100 = eJ g 1 o2) ∧ z = kIfD f p0 w)) 2 12 (zA g) := by
  refine z_enterT RL rfl (by decide) rfl (Nat.le_of_ble_eq_true rfl) ?_
  intro p e s m args below meth c K harg hTab hNc
  refine z_sub (lv' := [(0, .ref (aD g 0)), (1, .int (iZ p0)), (2, .int (iZ w)), (3, .ref (aD g 100))]) [0, 1, 2, 3] rfl ?_
  have hI0 := hI
  obtain ⟨⟨gMa, -⟩, -, -, -, -, -⟩ := id hI
  refine z_aload_n 1 K dL_ifDropped_0 rfl rfl 3 rfl ?_
  refine z_iconst 2 K dL_ifDropped_1 rfl ?_
  refine z_aload_n 3 K dL_ifDropped_2 rfl rfl 0 rfl ?_
  refine z_iload_n 4 K dL_ifDropped_3 rfl rfl 1 rfl ?_
  refine z_iload_n 5 K dL_ifDropped_4 rfl rfl 2 rfl ?_
  refine z_xVi (As := [.int (iZ p0), .int (iZ w)]) (rest := [.int (iZ 0), .ref (aD g 100)]) 8 K 0 (by decide) gMa rfl rfl (x_X8_ifDropped l g _ p0 w _ _ _ _ _ _ hI0 hP (by omega) (by omega) hk9 hlt) (cwV 2 K.1.2.2.2.2 gL_ifDropped_X8_ifDropped rfl rfl rfl (by decide +kernel) ⟨Nat.le_of_ble_eq_true rfl, Nat.le_of_ble_eq_true rfl⟩) rfl (Nat.le_of_ble_eq_true rfl) dL_ifDropped_5 rfl ⟨Nat.le_of_ble_eq_true rfl, Nat.le_of_ble_eq_true rfl⟩ rfl (fun E9 C9 hx9 => ?_) (fun z_1 C_2 hp_5 => ?_)
  · skip
    obtain ⟨hIx, hsx, hdx⟩ := hx9
    rcases hdx with ⟨rfl, hd0⟩ | ⟨rfl, hd1⟩
    · refine z_catch K hNc [] ⟨0, 10, 13, 13⟩ [⟨0, 10, 17, 15⟩] hTab (fun z hz => nomatch hz) (by decide) (by decide) (by decide +kernel) (by decide) (n := 13) rfl (fun q9 => ?_)
      refine z_astore (lv' := [(4, .ref q9), (0, .ref (aD g 0)), (1, .int (iZ p0)), (2, .int (iZ w)), (3, .ref (aD g 100))]) 15 K dL_ifDropped_13 rfl (by decide) rfl ?_
      refine z_iconst 16 K dL_ifDropped_15 rfl ?_
      refine z_wid (kc' := 2) (ks' := 12) (by decide) (by decide) ?_
      exact z_iret K rfl dL_ifDropped_16 ⟨hIx, fun q hq hne => hsx q hq, ⟨o, (hsx 100 (by omega)).trans hOut⟩, hd0.symm⟩
    · refine z_catch K hNc [⟨0, 10, 13, 13⟩] ⟨0, 10, 17, 15⟩ [] hTab (List.forall_mem_cons.mpr ⟨⟨by decide, _, (by decide +kernel : Cond.classLink RL 13 "java/lang/IndexOutOfBoundsException" ∈ wsL_ifDropped), by decide⟩, fun z hz => nomatch hz⟩) (by decide) (by decide) (by decide +kernel) (by decide) (n := 17) rfl (fun q9 => ?_)
      refine z_astore (lv' := [(4, .ref q9), (0, .ref (aD g 0)), (1, .int (iZ p0)), (2, .int (iZ w)), (3, .ref (aD g 100))]) 19 K dL_ifDropped_17 rfl (by decide) rfl ?_
      refine z_iconst 20 K dL_ifDropped_19 rfl ?_
      refine z_wid (kc' := 2) (ks' := 12) (by decide) (by decide) ?_
      exact z_iret K rfl dL_ifDropped_20 ⟨hIx, fun q hq hne => hsx q hq, ⟨o, (hsx 100 (by omega)).trans hOut⟩, hd1.symm⟩
  exact hp_5.elim
set_option maxRecDepth 100000 in
theorem w_L_ifDropped (l : Launch) (g : zG) (C : Nat → va_E) (p0 : Int) (w : Int) (o : Nat → Int64) (f : Int → Int) (past : Int → Int) (tx : Int → Int) (k : Int) (ty : Int) (cap : Int) (hOut : C 100 = eJ g 1 o) (hI : IW g C f k past ty tx) (hP : PW cap f k past ty tx) (h_p0 : -2147483648 ≤ p0 ∧ p0 < 2147483648) (h_w : -2147483648 ≤ w ∧ w < 2147483648) (hlt : l.stackTraces = false) : Met l yL_ifDropped wsL_ifDropped ({ frames := 8, cells := 2, slots := 12, locals := 125 } : Room) (zPre2 g C [.ref (aD g 0), .int (iZ p0), .int (iZ w), .ref (aD g 100)]) (zQi g (fun z C' => IW g C' f k past ty tx ∧ (∀ q, 94 ≤ q → q ≠ 100 → C' q = C q) ∧ (∃ o2 : Nat → Int64, C' 100 = eJ g 1 o2 ∧ (kIfD f p0 w = 0 → o2 0 = (iZ (sDrp f p0 w)).toInt64)) ∧ z = kIfD f p0 w)) 2 12 (zA g) := by
  by_cases hk : kIfD f p0 w = 0
  · refine z_monI2 (a_L_ifDropped l g C p0 w o f past tx k ty cap hOut hI hP h_p0 h_w hk) (fun z C' h => ?_)
    exact ⟨h.1, h.2.1, ⟨_, h.2.2.1, fun _ => vp_updL_0 _ _⟩, h.2.2.2.trans hk.symm⟩
  · refine z_monI2 (x_L_ifDropped l g C p0 w o f past tx k ty cap hOut hI hP h_p0 h_w hk hlt) (fun z C' h => ?_)
    exact ⟨h.1, h.2.1, ⟨h.2.2.1.choose, h.2.2.1.choose_spec, fun q => absurd q hk⟩, h.2.2.2⟩
set_option maxHeartbeats 4000000 in
set_option maxRecDepth 100000 in
theorem a_L_bestMove (l : Launch) (g : zG) (C : Nat → va_E) (p0 : Int) (o : Nat → Int64) (f : Int → Int) (past : Int → Int) (tx : Int → Int) (k : Int) (ty : Int) (cap : Int) (hOut : C 100 = eJ g 1 o) (hI : IW g C f k past ty tx) (hP : PW cap f k past ty tx) (h_p0 : -2147483648 ≤ p0 ∧ p0 < 2147483648) (hk9 : kPl f p0 = 0) : Met l yL_bestMove wsL_bestMove ({ frames := 8, cells := 1, slots := 6, locals := 130 } : Room) (zPre2 g C [.ref (aD g 0), .int (iZ p0), .ref (aD g 100)]) (zQi g (fun z C' => IW g C' (f) (k) (past) (ty) (tx) ∧ (∀ q, 94 ≤ q → q ≠ 100 → C' q = C q) ∧ C' 100 = eJ g 1 (vp_updL o (Int.toNat 0) (iZ (sBest f p0)).toInt64) ∧ z = 0)) 1 6 (zA g) := by
  refine z_enterT RL rfl (by decide) rfl (Nat.le_of_ble_eq_true rfl) ?_
  intro p e s m args below meth c K harg hTab hNc
  refine z_sub (lv' := [(0, .ref (aD g 0)), (1, .int (iZ p0)), (2, .ref (aD g 100))]) [0, 1, 2] rfl ?_
  have hI0 := hI
  obtain ⟨⟨gMa, -⟩, -, -, -, -, -⟩ := id hI
  refine z_aload_n 1 K dL_bestMove_0 rfl rfl 2 rfl ?_
  refine z_iconst 2 K dL_bestMove_1 rfl ?_
  refine z_aload_n 3 K dL_bestMove_2 rfl rfl 0 rfl ?_
  refine z_iload_n 4 K dL_bestMove_3 rfl rfl 1 rfl ?_
  refine z_vVi (As := [.int (iZ p0)]) (rest := [.int (iZ 0), .ref (aD g 100)]) 7 K 0 (by decide) gMa rfl rfl (a_X8_bestMove l g _ p0 _ _ _ _ _ _ hI0 hP (by omega) hk9) (cwV 1 K.1.2.2.2.2 gL_bestMove_X8_bestMove rfl rfl rfl (by decide +kernel) ⟨Nat.le_of_ble_eq_true rfl, Nat.le_of_ble_eq_true rfl⟩) rfl (Nat.le_of_ble_eq_true rfl) dL_bestMove_4 rfl ⟨Nat.le_of_ble_eq_true rfl, Nat.le_of_ble_eq_true rfl⟩ rfl (fun z_1 C_2 hp_4 => ?_)
  obtain ⟨hIn_4, hsm_4, hz_4⟩ := hp_4
  refine z_top (sBest f p0) hz_4 ?_
  have hf_4_100 : C_2 100 = eJ g 1 o := (hsm_4 100 (by omega)).trans hOut
  refine z_i2l 8 K dL_bestMove_7 rfl ?_
  refine z_last (f := o) 9 K 100 (by decide) hf_4_100 (by decide) (by decide) (by decide) dL_bestMove_8 rfl ?_
  refine z_goto (tgt := 15) K dL_bestMove_9 (by decide) ?_
  refine z_iconst 16 K dL_bestMove_15 rfl ?_
  refine z_wid (kc' := 1) (ks' := 6) (by decide) (by decide) ?_
  exact z_iret K rfl dL_bestMove_16 ⟨IW_cong hIn_4 (fun q hq => ((va_up_ne _ _ (by omega)).trans rfl)), fun q hq hne => (((va_up_ne _ _ (by omega)).trans rfl)).trans (hsm_4 q hq), (va_up_eq _ 100 _), rfl⟩
set_option maxHeartbeats 4000000 in
set_option maxRecDepth 100000 in
theorem x_L_bestMove (l : Launch) (g : zG) (C : Nat → va_E) (p0 : Int) (o : Nat → Int64) (f : Int → Int) (past : Int → Int) (tx : Int → Int) (k : Int) (ty : Int) (cap : Int) (hOut : C 100 = eJ g 1 o) (hI : IW g C f k past ty tx) (hP : PW cap f k past ty tx) (h_p0 : -2147483648 ≤ p0 ∧ p0 < 2147483648) (hk9 : kPl f p0 ≠ 0) (hlt : l.stackTraces = false) : Met l yL_bestMove wsL_bestMove ({ frames := 8, cells := 1, slots := 6, locals := 130 } : Room) (zPre2 g C [.ref (aD g 0), .int (iZ p0), .ref (aD g 100)]) (zQi g (fun z C' => IW g C' f k past ty tx ∧ (∀ q, 94 ≤ q → q ≠ 100 → C' q = C q) ∧ (∃ o2, C' 100 = eJ g 1 o2) ∧ z = kPl f p0)) 1 6 (zA g) := by
  refine z_enterT RL rfl (by decide) rfl (Nat.le_of_ble_eq_true rfl) ?_
  intro p e s m args below meth c K harg hTab hNc
  refine z_sub (lv' := [(0, .ref (aD g 0)), (1, .int (iZ p0)), (2, .ref (aD g 100))]) [0, 1, 2] rfl ?_
  have hI0 := hI
  obtain ⟨⟨gMa, -⟩, -, -, -, -, -⟩ := id hI
  refine z_aload_n 1 K dL_bestMove_0 rfl rfl 2 rfl ?_
  refine z_iconst 2 K dL_bestMove_1 rfl ?_
  refine z_aload_n 3 K dL_bestMove_2 rfl rfl 0 rfl ?_
  refine z_iload_n 4 K dL_bestMove_3 rfl rfl 1 rfl ?_
  refine z_xVi (As := [.int (iZ p0)]) (rest := [.int (iZ 0), .ref (aD g 100)]) 7 K 0 (by decide) gMa rfl rfl (x_X8_bestMove l g _ p0 _ _ _ _ _ _ hI0 hP (by omega) hk9 hlt) (cwV 1 K.1.2.2.2.2 gL_bestMove_X8_bestMove rfl rfl rfl (by decide +kernel) ⟨Nat.le_of_ble_eq_true rfl, Nat.le_of_ble_eq_true rfl⟩) rfl (Nat.le_of_ble_eq_true rfl) dL_bestMove_4 rfl ⟨Nat.le_of_ble_eq_true rfl, Nat.le_of_ble_eq_true rfl⟩ rfl (fun E9 C9 hx9 => ?_) (fun z_1 C_2 hp_4 => ?_)
  · skip
    obtain ⟨hIx, hsx, hdx⟩ := hx9
    rcases hdx with ⟨rfl, hd0⟩
    · refine z_catch K hNc [] ⟨0, 9, 12, 13⟩ [] hTab (fun z hz => nomatch hz) (by decide) (by decide) (by decide +kernel) (by decide) (n := 12) rfl (fun q9 => ?_)
      refine z_astore_n (lv' := [(3, .ref q9), (0, .ref (aD g 0)), (1, .int (iZ p0)), (2, .ref (aD g 100))]) 13 K dL_bestMove_12 rfl rfl (by decide) rfl ?_
      refine z_iconst 14 K dL_bestMove_13 rfl ?_
      refine z_wid (kc' := 1) (ks' := 6) (by decide) (by decide) ?_
      exact z_iret K rfl dL_bestMove_14 ⟨hIx, fun q hq hne => hsx q hq, ⟨o, (hsx 100 (by omega)).trans hOut⟩, hd0.symm⟩
  exact hp_4.elim
set_option maxRecDepth 100000 in
theorem w_L_bestMove (l : Launch) (g : zG) (C : Nat → va_E) (p0 : Int) (o : Nat → Int64) (f : Int → Int) (past : Int → Int) (tx : Int → Int) (k : Int) (ty : Int) (cap : Int) (hOut : C 100 = eJ g 1 o) (hI : IW g C f k past ty tx) (hP : PW cap f k past ty tx) (h_p0 : -2147483648 ≤ p0 ∧ p0 < 2147483648) (hlt : l.stackTraces = false) : Met l yL_bestMove wsL_bestMove ({ frames := 8, cells := 1, slots := 6, locals := 130 } : Room) (zPre2 g C [.ref (aD g 0), .int (iZ p0), .ref (aD g 100)]) (zQi g (fun z C' => IW g C' f k past ty tx ∧ (∀ q, 94 ≤ q → q ≠ 100 → C' q = C q) ∧ (∃ o2 : Nat → Int64, C' 100 = eJ g 1 o2 ∧ (kPl f p0 = 0 → o2 0 = (iZ (sBest f p0)).toInt64)) ∧ z = kPl f p0)) 1 6 (zA g) := by
  by_cases hk : kPl f p0 = 0
  · refine z_monI2 (a_L_bestMove l g C p0 o f past tx k ty cap hOut hI hP h_p0 hk) (fun z C' h => ?_)
    exact ⟨h.1, h.2.1, ⟨_, h.2.2.1, fun _ => vp_updL_0 _ _⟩, h.2.2.2.trans hk.symm⟩
  · refine z_monI2 (x_L_bestMove l g C p0 o f past tx k ty cap hOut hI hP h_p0 hk hlt) (fun z C' h => ?_)
    exact ⟨h.1, h.2.1, ⟨h.2.2.1.choose, h.2.2.1.choose_spec, fun q => absurd q hk⟩, h.2.2.2⟩
set_option maxHeartbeats 4000000 in
set_option maxRecDepth 100000 in
theorem a_L_leastPages (l : Launch) (g : zG) (C : Nat → va_E) (m0 : Int) (o : Nat → Int64) (f : Int → Int) (past : Int → Int) (tx : Int → Int) (k : Int) (ty : Int) (cap : Int) (hOut : C 100 = eJ g 1 o) (hI : IW g C f k past ty tx) (hP : PW cap f k past ty tx) (h_m0 : -2147483648 ≤ m0 ∧ m0 < 2147483648) (hk9 : kLea m0 = 0) : Met l yL_leastPages wsL_leastPages ({ frames := 7, cells := 1, slots := 6, locals := 105 } : Room) (zPre2 g C [.ref (aD g 0), .int (iZ m0), .ref (aD g 100)]) (zQi g (fun z C' => IW g C' (f) (k) (past) (ty) (tx) ∧ (∀ q, 94 ≤ q → q ≠ 100 → C' q = C q) ∧ C' 100 = eJ g 1 (vp_updL o (Int.toNat 0) (iZ (sLeast f m0)).toInt64) ∧ z = 0)) 1 6 (zA g) := by
  refine z_enterT RL rfl (by decide) rfl (Nat.le_of_ble_eq_true rfl) ?_
  intro p e s m args below meth c K harg hTab hNc
  refine z_sub (lv' := [(0, .ref (aD g 0)), (1, .int (iZ m0)), (2, .ref (aD g 100))]) [0, 1, 2] rfl ?_
  have hI0 := hI
  obtain ⟨⟨gMa, -⟩, -, -, -, -, -⟩ := id hI
  refine z_aload_n 1 K dL_leastPages_0 rfl rfl 2 rfl ?_
  refine z_iconst 2 K dL_leastPages_1 rfl ?_
  refine z_aload_n 3 K dL_leastPages_2 rfl rfl 0 rfl ?_
  refine z_iload_n 4 K dL_leastPages_3 rfl rfl 1 rfl ?_
  refine z_vVi (As := [.int (iZ m0)]) (rest := [.int (iZ 0), .ref (aD g 100)]) 7 K 0 (by decide) gMa rfl rfl (a_X8_leastPages l g _ m0 _ _ _ _ _ _ hI0 hP (by omega) hk9) (cwV 1 K.1.2.2.2.2 gL_leastPages_X8_leastPages rfl rfl rfl (by decide +kernel) ⟨Nat.le_of_ble_eq_true rfl, Nat.le_of_ble_eq_true rfl⟩) rfl (Nat.le_of_ble_eq_true rfl) dL_leastPages_4 rfl ⟨Nat.le_of_ble_eq_true rfl, Nat.le_of_ble_eq_true rfl⟩ rfl (fun z_1 C_2 hp_4 => ?_)
  refine z_C hp_4.1 ?_
  refine z_top (sLeast f m0) hp_4.2 ?_
  refine z_i2l 8 K dL_leastPages_7 rfl ?_
  refine z_last (f := o) 9 K 100 (by decide) hOut (by decide) (by decide) (by decide) dL_leastPages_8 rfl ?_
  refine z_goto (tgt := 15) K dL_leastPages_9 (by decide) ?_
  refine z_iconst 16 K dL_leastPages_15 rfl ?_
  refine z_wid (kc' := 1) (ks' := 6) (by decide) (by decide) ?_
  exact z_iret K rfl dL_leastPages_16 ⟨IW_cong hI0 (fun q hq => ((va_up_ne _ _ (by omega)).trans rfl)), fun q hq hne => ((va_up_ne _ _ (by omega)).trans rfl), (va_up_eq _ 100 _), rfl⟩
set_option maxHeartbeats 4000000 in
set_option maxRecDepth 100000 in
theorem x_L_leastPages (l : Launch) (g : zG) (C : Nat → va_E) (m0 : Int) (o : Nat → Int64) (f : Int → Int) (past : Int → Int) (tx : Int → Int) (k : Int) (ty : Int) (cap : Int) (hOut : C 100 = eJ g 1 o) (hI : IW g C f k past ty tx) (hP : PW cap f k past ty tx) (h_m0 : -2147483648 ≤ m0 ∧ m0 < 2147483648) (hk9 : kLea m0 ≠ 0) (hlt : l.stackTraces = false) : Met l yL_leastPages wsL_leastPages ({ frames := 7, cells := 1, slots := 6, locals := 105 } : Room) (zPre2 g C [.ref (aD g 0), .int (iZ m0), .ref (aD g 100)]) (zQi g (fun z C' => IW g C' f k past ty tx ∧ (∀ q, 94 ≤ q → q ≠ 100 → C' q = C q) ∧ (∃ o2, C' 100 = eJ g 1 o2) ∧ z = kLea m0)) 1 6 (zA g) := by
  refine z_enterT RL rfl (by decide) rfl (Nat.le_of_ble_eq_true rfl) ?_
  intro p e s m args below meth c K harg hTab hNc
  refine z_sub (lv' := [(0, .ref (aD g 0)), (1, .int (iZ m0)), (2, .ref (aD g 100))]) [0, 1, 2] rfl ?_
  have hI0 := hI
  obtain ⟨⟨gMa, -⟩, -, -, -, -, -⟩ := id hI
  refine z_aload_n 1 K dL_leastPages_0 rfl rfl 2 rfl ?_
  refine z_iconst 2 K dL_leastPages_1 rfl ?_
  refine z_aload_n 3 K dL_leastPages_2 rfl rfl 0 rfl ?_
  refine z_iload_n 4 K dL_leastPages_3 rfl rfl 1 rfl ?_
  refine z_xVi (As := [.int (iZ m0)]) (rest := [.int (iZ 0), .ref (aD g 100)]) 7 K 0 (by decide) gMa rfl rfl (x_X8_leastPages l g _ m0 _ _ _ _ _ _ hI0 hP (by omega) hk9 hlt) (cwV 1 K.1.2.2.2.2 gL_leastPages_X8_leastPages rfl rfl rfl (by decide +kernel) ⟨Nat.le_of_ble_eq_true rfl, Nat.le_of_ble_eq_true rfl⟩) rfl (Nat.le_of_ble_eq_true rfl) dL_leastPages_4 rfl ⟨Nat.le_of_ble_eq_true rfl, Nat.le_of_ble_eq_true rfl⟩ rfl (fun E9 C9 hx9 => ?_) (fun z_1 C_2 hp_4 => ?_)
  · skip
    obtain ⟨hIx, hsx, hdx⟩ := hx9
    rcases hdx with ⟨rfl, hd0⟩
    · refine z_catch K hNc [] ⟨0, 9, 12, 15⟩ [] hTab (fun z hz => nomatch hz) (by decide) (by decide) (by decide +kernel) (by decide) (n := 12) rfl (fun q9 => ?_)
      refine z_astore_n (lv' := [(3, .ref q9), (0, .ref (aD g 0)), (1, .int (iZ m0)), (2, .ref (aD g 100))]) 13 K dL_leastPages_12 rfl rfl (by decide) rfl ?_
      refine z_iconst 14 K dL_leastPages_13 rfl ?_
      refine z_wid (kc' := 1) (ks' := 6) (by decide) (by decide) ?_
      exact z_iret K rfl dL_leastPages_14 ⟨hIx, fun q hq hne => hsx q hq, ⟨o, (hsx 100 (by omega)).trans hOut⟩, hd0.symm⟩
  exact hp_4.elim
set_option maxRecDepth 100000 in
theorem w_L_leastPages (l : Launch) (g : zG) (C : Nat → va_E) (m0 : Int) (o : Nat → Int64) (f : Int → Int) (past : Int → Int) (tx : Int → Int) (k : Int) (ty : Int) (cap : Int) (hOut : C 100 = eJ g 1 o) (hI : IW g C f k past ty tx) (hP : PW cap f k past ty tx) (h_m0 : -2147483648 ≤ m0 ∧ m0 < 2147483648) (hlt : l.stackTraces = false) : Met l yL_leastPages wsL_leastPages ({ frames := 7, cells := 1, slots := 6, locals := 105 } : Room) (zPre2 g C [.ref (aD g 0), .int (iZ m0), .ref (aD g 100)]) (zQi g (fun z C' => IW g C' f k past ty tx ∧ (∀ q, 94 ≤ q → q ≠ 100 → C' q = C q) ∧ (∃ o2 : Nat → Int64, C' 100 = eJ g 1 o2 ∧ (kLea m0 = 0 → o2 0 = (iZ (sLeast f m0)).toInt64)) ∧ z = kLea m0)) 1 6 (zA g) := by
  by_cases hk : kLea m0 = 0
  · refine z_monI2 (a_L_leastPages l g C m0 o f past tx k ty cap hOut hI hP h_m0 hk) (fun z C' h => ?_)
    exact ⟨h.1, h.2.1, ⟨_, h.2.2.1, fun _ => vp_updL_0 _ _⟩, h.2.2.2.trans hk.symm⟩
  · refine z_monI2 (x_L_leastPages l g C m0 o f past tx k ty cap hOut hI hP h_m0 hk hlt) (fun z C' h => ?_)
    exact ⟨h.1, h.2.1, ⟨h.2.2.1.choose, h.2.2.1.choose_spec, fun q => absurd q hk⟩, h.2.2.2⟩
end ZLW1
