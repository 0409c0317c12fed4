/-! the law's wrappers -/
section ZLW1
theorem z_monI2 {l : Launch} {g : zG} {y : MethodName} {ws : List Cond} {rm : Room} {av : List Value} {C : Nat → va_E} {mc ms : Nat} {post post' : Int → (Nat → va_E) → Prop} (h : Met l y ws rm (zPre2 g C av) (zQi g post) mc ms (zA g)) (hp : ∀ z C', post z C' → post' z C') : Met l y ws rm (zPre2 g C av) (zQi g post') mc ms (zA g) :=
  Jvm.Free.MetFree.mono h (fun _ _ q => q) (fun _ _ _ _ _ q => q) (fun a s o t _ q => by
    obtain ⟨⟨⟨r, u, e1, ⟨z, e4, e2⟩, e3⟩, hF⟩, hL⟩ := q
    exact ⟨⟨⟨r, u, e1, ⟨z, e4, hp z u e2⟩, e3⟩, hF⟩, hL⟩)
set_option maxHeartbeats 4000000 in
set_option maxRecDepth 100000 in
theorem a_L_insert (l : Launch) (g : zG) (C : Nat → va_E) (p0 : Int) (y : Int) (o : Nat → Int64) (f : Int → Int) (past : Int → Int) (tx : Int → Int) (k : Int) (ty : Int) (cap : Int) (hOut : C 100 = eJ g 1 o) (hI : IW g C f k past ty tx) (hP : PW cap f k past ty tx) (h_p0 : -2147483648 ≤ p0 ∧ p0 < 2147483648) (h_y : -2147483648 ≤ y ∧ y < 2147483648) (hk9 : kIns f p0 y = 0) : Met l yL_insert wsL_insert ({ frames := 8, cells := 3, slots := 18, locals := 127 } : Room) (zPre2 g C [.ref (aD g 0), .int (iZ p0), .int (iZ y), .ref (aD g 100)]) (zQi g (fun z C' => IW g C' (mCome f p0 y) (mKp k + 1) (mSav f past k) (ty) (tx) ∧ (∀ q, 94 ≤ q → q ≠ 100 → C' q = C q) ∧ C' 100 = eJ g 1 (vp_updL o (Int.toNat 0) (iZ (f 2)).toInt64) ∧ z = 0)) 3 18 (zA g) := by
  refine z_enterT RL rfl (by decide) rfl (Nat.le_of_ble_eq_true rfl) ?_
  intro p e s m args below meth c K harg hTab hNc
  refine z_sub (lv' := [(0, .ref (aD g 0)), (1, .int (iZ p0)), (2, .int (iZ y)), (3, .ref (aD g 100))]) [0, 1, 2, 3] rfl ?_
  have hI0 := hI
  obtain ⟨⟨gMa, -⟩, -, -, -, -, -⟩ := id hI
  refine z_aload_n 1 K dL_insert_0 rfl rfl 3 rfl ?_
  refine z_iconst 2 K dL_insert_1 rfl ?_
  refine z_aload_n 3 K dL_insert_2 rfl rfl 0 rfl ?_
  refine z_iload_n 4 K dL_insert_3 rfl rfl 1 rfl ?_
  refine z_iload_n 5 K dL_insert_4 rfl rfl 2 rfl ?_
  refine z_vVi (As := [.int (iZ p0), .int (iZ y)]) (rest := [.int (iZ 0), .ref (aD g 100)]) 8 K 0 (by decide) gMa rfl rfl (a_X8_insert l g _ p0 y _ _ _ _ _ _ hI0 hP (by omega) (by omega) hk9) (cwV 2 K.1.2.2.2.2 gL_insert_X8_insert rfl rfl rfl (by decide +kernel) ⟨Nat.le_of_ble_eq_true rfl, Nat.le_of_ble_eq_true rfl⟩) rfl (Nat.le_of_ble_eq_true rfl) dL_insert_5 rfl ⟨Nat.le_of_ble_eq_true rfl, Nat.le_of_ble_eq_true rfl⟩ rfl (fun z_1 C_2 hp_5 => ?_)
  obtain ⟨hIn_5, hsm_5, hz_5⟩ := hp_5
  refine z_top (f 2) hz_5 ?_
  have hf_5_100 : C_2 100 = eJ g 1 o := (hsm_5 100 (by omega)).trans hOut
  refine z_i2l 9 K dL_insert_8 rfl ?_
  refine z_last (f := o) 10 K 100 (by decide) hf_5_100 (by decide) (by decide) (by decide) dL_insert_9 rfl ?_
  refine z_goto (tgt := 25) K dL_insert_10 (by decide) ?_
  refine z_iconst 26 K dL_insert_25 rfl ?_
  refine z_wid (kc' := 3) (ks' := 18) (by decide) (by decide) ?_
  exact z_iret K rfl dL_insert_26 ⟨IW_cong hIn_5 (fun q hq => ((va_up_ne _ _ (by omega)).trans rfl)), fun q hq hne => (((va_up_ne _ _ (by omega)).trans rfl)).trans (hsm_5 q hq), (va_up_eq _ 100 _), rfl⟩
set_option maxHeartbeats 4000000 in
set_option maxRecDepth 100000 in
theorem x_L_insert (l : Launch) (g : zG) (C : Nat → va_E) (p0 : Int) (y : Int) (o : Nat → Int64) (f : Int → Int) (past : Int → Int) (tx : Int → Int) (k : Int) (ty : Int) (cap : Int) (hOut : C 100 = eJ g 1 o) (hI : IW g C f k past ty tx) (hP : PW cap f k past ty tx) (h_p0 : -2147483648 ≤ p0 ∧ p0 < 2147483648) (h_y : -2147483648 ≤ y ∧ y < 2147483648) (hk9 : kIns f p0 y ≠ 0) (hlt : l.stackTraces = false) : Met l yL_insert wsL_insert ({ frames := 8, cells := 3, slots := 18, locals := 127 } : Room) (zPre2 g C [.ref (aD g 0), .int (iZ p0), .int (iZ y), .ref (aD g 100)]) (zQi g (fun z C' => IW g C' f k past ty tx ∧ (∀ q, 94 ≤ q → q ≠ 100 → C' q = C q) ∧ (∃ o2, C' 100 = eJ g 1 o2) ∧ z = kIns f p0 y)) 3 18 (zA g) := by
  refine z_enterT RL rfl (by decide) rfl (Nat.le_of_ble_eq_true rfl) ?_
  intro p e s m args below meth c K harg hTab hNc
  refine z_sub (lv' := [(0, .ref (aD g 0)), (1, .int (iZ p0)), (2, .int (iZ y)), (3, .ref (aD g 100))]) [0, 1, 2, 3] rfl ?_
  have hI0 := hI
  obtain ⟨⟨gMa, -⟩, -, -, -, -, -⟩ := id hI
  refine z_aload_n 1 K dL_insert_0 rfl rfl 3 rfl ?_
  refine z_iconst 2 K dL_insert_1 rfl ?_
  refine z_aload_n 3 K dL_insert_2 rfl rfl 0 rfl ?_
  refine z_iload_n 4 K dL_insert_3 rfl rfl 1 rfl ?_
  refine z_iload_n 5 K dL_insert_4 rfl rfl 2 rfl ?_
  refine z_xVi (As := [.int (iZ p0), .int (iZ y)]) (rest := [.int (iZ 0), .ref (aD g 100)]) 8 K 0 (by decide) gMa rfl rfl (x_X8_insert l g _ p0 y _ _ _ _ _ _ hI0 hP (by omega) (by omega) hk9 hlt) (cwV 2 K.1.2.2.2.2 gL_insert_X8_insert rfl rfl rfl (by decide +kernel) ⟨Nat.le_of_ble_eq_true rfl, Nat.le_of_ble_eq_true rfl⟩) rfl (Nat.le_of_ble_eq_true rfl) dL_insert_5 rfl ⟨Nat.le_of_ble_eq_true rfl, Nat.le_of_ble_eq_true rfl⟩ rfl (fun E9 C9 hx9 => ?_) (fun z_1 C_2 hp_5 => ?_)
  · skip
    obtain ⟨hIx, hsx, hdx⟩ := hx9
    rcases hdx with ⟨rfl, hd0⟩ | ⟨rfl, hd1⟩ | ⟨rfl, hd2⟩
    · refine z_catch K hNc [] ⟨0, 10, 13, 13⟩ [⟨0, 10, 17, 15⟩, ⟨0, 10, 21, 17⟩] hTab (fun z hz => nomatch hz) (by decide) (by decide) (by decide +kernel) (by decide) (n := 13) rfl (fun q9 => ?_)
      refine z_astore (lv' := [(4, .ref q9), (0, .ref (aD g 0)), (1, .int (iZ p0)), (2, .int (iZ y)), (3, .ref (aD g 100))]) 15 K dL_insert_13 rfl (by decide) rfl ?_
      refine z_iconst 16 K dL_insert_15 rfl ?_
      refine z_wid (kc' := 3) (ks' := 18) (by decide) (by decide) ?_
      exact z_iret K rfl dL_insert_16 ⟨hIx, fun q hq hne => hsx q hq, ⟨o, (hsx 100 (by omega)).trans hOut⟩, hd0.symm⟩
    · refine z_catch K hNc [⟨0, 10, 13, 13⟩] ⟨0, 10, 17, 15⟩ [⟨0, 10, 21, 17⟩] hTab (List.forall_mem_cons.mpr ⟨⟨by decide, _, (by decide +kernel : Cond.classLink RL 13 "java/lang/IndexOutOfBoundsException" ∈ wsL_insert), by decide⟩, fun z hz => nomatch hz⟩) (by decide) (by decide) (by decide +kernel) (by decide) (n := 17) rfl (fun q9 => ?_)
      refine z_astore (lv' := [(4, .ref q9), (0, .ref (aD g 0)), (1, .int (iZ p0)), (2, .int (iZ y)), (3, .ref (aD g 100))]) 19 K dL_insert_17 rfl (by decide) rfl ?_
      refine z_iconst 20 K dL_insert_19 rfl ?_
      refine z_wid (kc' := 3) (ks' := 18) (by decide) (by decide) ?_
      exact z_iret K rfl dL_insert_20 ⟨hIx, fun q hq hne => hsx q hq, ⟨o, (hsx 100 (by omega)).trans hOut⟩, hd1.symm⟩
    · refine z_catch K hNc [⟨0, 10, 13, 13⟩, ⟨0, 10, 17, 15⟩] ⟨0, 10, 21, 17⟩ [] hTab (List.forall_mem_cons.mpr ⟨⟨by decide, _, (by decide +kernel : Cond.classLink RL 13 "java/lang/IndexOutOfBoundsException" ∈ wsL_insert), by decide⟩, List.forall_mem_cons.mpr ⟨⟨by decide, _, (by decide +kernel : Cond.classLink RL 15 "java/lang/IllegalArgumentException" ∈ wsL_insert), by decide⟩, fun z hz => nomatch hz⟩⟩) (by decide) (by decide) (by decide +kernel) (by decide) (n := 21) rfl (fun q9 => ?_)
      refine z_astore (lv' := [(4, .ref q9), (0, .ref (aD g 0)), (1, .int (iZ p0)), (2, .int (iZ y)), (3, .ref (aD g 100))]) 23 K dL_insert_21 rfl (by decide) rfl ?_
      refine z_iconst 24 K dL_insert_23 rfl ?_
      refine z_wid (kc' := 3) (ks' := 18) (by decide) (by decide) ?_
      exact z_iret K rfl dL_insert_24 ⟨hIx, fun q hq hne => hsx q hq, ⟨o, (hsx 100 (by omega)).trans hOut⟩, hd2.symm⟩
  exact hp_5.elim
set_option maxRecDepth 100000 in
theorem w_L_insert (l : Launch) (g : zG) (C : Nat → va_E) (p0 : Int) (y : Int) (o : Nat → Int64) (f : Int → Int) (past : Int → Int) (tx : Int → Int) (k : Int) (ty : Int) (cap : Int) (hOut : C 100 = eJ g 1 o) (hI : IW g C f k past ty tx) (hP : PW cap f k past ty tx) (h_p0 : -2147483648 ≤ p0 ∧ p0 < 2147483648) (h_y : -2147483648 ≤ y ∧ y < 2147483648) (hlt : l.stackTraces = false) : Met l yL_insert wsL_insert ({ frames := 8, cells := 3, slots := 18, locals := 127 } : Room) (zPre2 g C [.ref (aD g 0), .int (iZ p0), .int (iZ y), .ref (aD g 100)]) (zQi g (fun z C' => IW g C' (if kIns f p0 y = 0 then mCome f p0 y else f) (if kIns f p0 y = 0 then mKp k + 1 else k) (if kIns f p0 y = 0 then mSav f past k else past) ty tx ∧ (∀ q, 94 ≤ q → q ≠ 100 → C' q = C q) ∧ (∃ o2 : Nat → Int64, C' 100 = eJ g 1 o2 ∧ (kIns f p0 y = 0 → o2 0 = (iZ (f 2)).toInt64)) ∧ z = kIns f p0 y)) 3 18 (zA g) := by
  by_cases hk : kIns f p0 y = 0
  · refine z_monI2 (a_L_insert l g C p0 y o f past tx k ty cap hOut hI hP h_p0 h_y hk) (fun z C' h => ?_)
    rw [if_pos hk, if_pos hk, if_pos hk]
    exact ⟨h.1, h.2.1, ⟨_, h.2.2.1, fun _ => vp_updL_0 _ _⟩, h.2.2.2.trans hk.symm⟩
  · refine z_monI2 (x_L_insert l g C p0 y o f past tx k ty cap hOut hI hP h_p0 h_y hk hlt) (fun z C' h => ?_)
    rw [if_neg hk, if_neg hk, if_neg hk]
    exact ⟨h.1, h.2.1, ⟨h.2.2.1.choose, h.2.2.1.choose_spec, fun q => absurd q hk⟩, h.2.2.2⟩
end ZLW1
