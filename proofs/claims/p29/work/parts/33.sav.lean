/-! the class: what is saved, in the reference's words -/
section ZSV
theorem RS_cong {f h num pgs cc cn cp pn pm : Int → Int} {cap : Int} (hR : RS f num pgs cc cn cp pn pm) (hw : WF f cap) (e : ∀ j, 0 ≤ j → j < 449 → h j = f j) : RS h num pgs cc cn cp pn pm := by
  have hn := hw.n
  have e1 := e 1 (by omega) (by omega)
  refine ⟨fun k k0 k1 => ?_, fun a a0 a1 => ?_, fun a b a0 a1 b0 b1 => ?_, fun a b a0 a1 b0 b1 => ?_, hR.r1, hR.r2, hR.r3, hR.r4⟩
  · rw [e1] at k1
    rw [e _ (by omega) (by omega), e (2 * k + 4) (by omega) (by omega)]
    exact hR.ex k k0 k1
  · rw [e _ (by omega) (by omega), e (32 * a + 78) (by omega) (by omega)]
    exact hR.pa a a0 a1
  · have q := hw.pa a a0 a1
    rw [e (32 * a + 65) (by omega) (by omega)] at b1
    rw [e _ (by omega) (by omega), e (32 * a + 2 * b + 67) (by omega) (by omega)]
    exact hR.ci a b a0 a1 b0 b1
  · have q := hw.pa a a0 a1
    rw [e (32 * a + 78) (by omega) (by omega)] at b1
    rw [e (32 * a + 3 * b + 79) (by omega) (by omega), e (32 * a + 3 * b + 80) (by omega) (by omega), e (32 * a + 3 * b + 81) (by omega) (by omega)]
    exact hR.pr a b a0 a1 b0 b1
theorem wS_row {g : zG} {C : Nat → va_E} {b : Nat} {f h : Int → Int} {cap : Int} (hS : wS g C b f) (hw : WF f cap) (e : ∀ j, 0 ≤ j → j < 449 → h j = f j) : wS g C b h := by
  obtain ⟨num, pgs, cc, cn, cp, pn, pm, h1, hR⟩ := hS
  refine ⟨num, pgs, cc, cn, cp, pn, pm, ?_, RS_cong hR hw e⟩
  rw [e 0 (by omega) (by omega), e 1 (by omega) (by omega), e 2 (by omega) (by omega)]
  exact h1
theorem Rg_zcpy {f h : Int → Int} (hf : Rg f) (hh : Rg h) (sp dp n : Int) : Rg (zcpy f h sp dp n) := by
  intro j
  simp only [zcpy]
  split
  · exact hf _
  · exact hh _
theorem Rg_sav {f past : Int → Int} (hf : Rg f) (hp : Rg past) (k : Int) : Rg (mSav f past k) := by
  unfold mSav mSh
  split
  · exact Rg_zcpy hf (Rg_zcpy hp hp _ _ _) _ _ _
  · exact Rg_zcpy hf hp _ _ _
theorem mSav_top {f past : Int → Int} {k : Int} (j : Int) (j0 : 0 ≤ j) (j1 : j < 449) : mPast (mSav f past k) (mKp k) j = f j := by
  simp only [mPast, mSav, zcpy]
  rw [if_pos (by omega)]
  congr 1
  omega
theorem mSav_old {f past : Int → Int} {k i : Int} (hk : 0 ≤ k ∧ k ≤ 6) (i0 : 0 ≤ i) (i1 : i < mKp k) (j : Int) (j0 : 0 ≤ j) (j1 : j < 449) : mPast (mSav f past k) i j = mPast past (if k = 6 then i + 1 else i) j := by
  simp only [mPast, mSav, zcpy]
  rw [if_neg (by omega)]
  by_cases c : k = 6
  · have e := mKp_6 c
    simp only [mSh]
    rw [if_pos c, if_pos c]
    simp only [zcpy]
    rw [if_pos (by omega)]
    congr 1
    omega
  · simp only [mSh]
    rw [if_neg c, if_neg c]
theorem mKp_rng {k : Int} (hk : 0 ≤ k ∧ k ≤ 6) : 0 ≤ mKp k ∧ mKp k ≤ 5 ∧ mKp k ≤ k := by
  unfold mKp
  split <;> omega
theorem PW_sav {cap cap2 k ty : Int} {f f2 past tx : Int → Int} (h : PW cap f k past ty tx) (hw2 : WF f2 cap2) (hc : cap ≤ cap2 ∧ cap2 ≤ 100000) : PW cap2 f2 (mKp k + 1) (mSav f past k) ty tx := by
  obtain ⟨hw, hk, hp, hty, htx, hr, hrp, -⟩ := h
  have q := mKp_rng hk
  refine ⟨hw2, by omega, fun i i0 i1 => ?_, hty, htx, hr, Rg_sav hw.rg hrp k, hc.2⟩
  have hr2 : Rg (mPast (mSav f past k) i) := fun j => Rg_sav hw.rg hrp k _
  by_cases c : i = mKp k
  · subst c
    exact WF_cong (hw.mono hc.1) hr2 (fun j j0 j1 => mSav_top j j0 j1)
  · exact WF_cong ((hp (if k = 6 then i + 1 else i) (by split <;> omega) (by split <;> (have e6 : k = 6 → mKp k = k - 1 := mKp_6; omega))).mono hc.1) hr2 (fun j j0 j1 => mSav_old hk i0 (by omega) j j0 j1)


/-- a slot, for six too -/
theorem slot_any {g : zG} {C : Nat → va_E} {old k : Int} (h4 : ∀ i : Int, 0 ≤ i → i < 6 → sAny g C (slot old i)) (hk : 0 ≤ k ∧ k ≤ 6) : sAny g C (slot old k) := by
  by_cases c : k = 6
  · have e : slot old k = slot old 0 := by
      unfold slot
      omega
    rw [e]
    exact h4 0 (by omega) (by omega)
  · exact h4 k hk.1 (by omega)
theorem wH_sav {g : zG} {C C' : Nat → va_E} {f past : Int → Int} {old k cap : Int} (hw : WF f cap) (hpw : ∀ i, 0 ≤ i → i < k → WF (mPast past i) cap) (hk : 0 ≤ k ∧ k ≤ 6) (ho : 0 ≤ old ∧ old ≤ 5) (h4 : ∀ i : Int, 0 ≤ i → i < 6 → sAny g C (slot old i)) (h5 : ∀ i : Int, 0 ≤ i → i < k → wS g C (slot old i) (mPast past i))
    (h21 : C' 21 = .inr (2, [.ref (aD g 22), .int (iZ (if k = 6 then (old + 1) % 6 else old)), .int (iZ (if k = 6 then 6 else k + 1))])) (h22 : C' 22 = eS g 6 (fun k => some (aD g (28 + 11 * k)))) (hn : wS g C' (slot old k) f) (hs : ∀ q, 28 ≤ q → q < 94 → (q < slot old k ∨ slot old k + 10 < q) → C' q = C q) : wH g C' (mKp k + 1) (mSav f past k) := by
  have q := mKp_rng hk
  have e2 : (if k = 6 then 6 else k + 1) = mKp k + 1 := by
    unfold mKp
    split <;> omega
  rw [e2] at h21
  have any : ∀ i : Int, 0 ≤ i → i < 6 → sAny g C' (slot old i) := fun i i0 i1 => by
    have r := slot_rng (old := old) (i := i)
    by_cases c : slot old i = slot old k
    · rw [c]
      exact wS_any hn
    · refine sAny_cong (h4 i i0 i1) (fun q q0 q1 => hs q (by omega) (by omega) ?_)
      unfold slot at c q0 q1 r ⊢
      omega
  refine ⟨_, h21, h22, by split <;> omega, fun i i0 i1 => ?_, fun i i0 i1 => ?_⟩
  · by_cases c : k = 6
    · rw [if_pos c]
      by_cases d : i = 5
      · have e : slot ((old + 1) % 6) i = slot old 0 := by
          unfold slot
          omega
        rw [e]
        exact any 0 (by omega) (by omega)
      · have e : slot ((old + 1) % 6) i = slot old (i + 1) := by
          unfold slot
          omega
        rw [e]
        exact any (i + 1) (by omega) (by omega)
    · rw [if_neg c]
      exact any i i0 i1
  · by_cases d : i = mKp k
    · have e : slot (if k = 6 then (old + 1) % 6 else old) i = slot old k := by
        rw [d]
        unfold slot mKp
        split <;> omega
      rw [e, d]
      exact wS_row hn hw (fun j j0 j1 => mSav_top j j0 j1)
    · have i9 : 0 ≤ (if k = 6 then i + 1 else i) ∧ (if k = 6 then i + 1 else i) < k := by
        unfold mKp at d i1
        by_cases c : k = 6
        · rw [if_pos c] at d i1 ⊢
          omega
        · rw [if_neg c] at d i1 ⊢
          omega
      have e : slot (if k = 6 then (old + 1) % 6 else old) i = slot old (if k = 6 then i + 1 else i) := by
        unfold slot
        split <;> omega
      rw [e]
      have hne : slot old (if k = 6 then i + 1 else i) + 11 ≤ slot old k ∨ slot old k + 11 ≤ slot old (if k = 6 then i + 1 else i) := by
        unfold mKp at d i1
        unfold slot
        by_cases c : k = 6
        · rw [if_pos c] at d i1 ⊢
          omega
        · rw [if_neg c] at d i1 ⊢
          omega
      have r := slot_rng (old := old) (i := if k = 6 then i + 1 else i)
      exact wS_row (wS_cong (h5 _ i9.1 i9.2) (fun q q0 q1 => hs q (by omega) (by omega) (by omega))) (hpw _ i9.1 i9.2) (fun j j0 j1 => mSav_old hk i0 (by omega) j j0 j1)

set_option maxHeartbeats 4000000 in
theorem s_X2_save (l : Launch) (g : zG) (C : Nat → va_E) (f past : Int → Int) (k cap : Int) (hH : wH g C k past) (hL : wL g C f) (hk : 0 ≤ k ∧ k ≤ 6) (hw : WF f cap) (hpw : ∀ i, 0 ≤ i → i < k → WF (mPast past i) cap) : Met l yX2_save wsX2_save ({ frames := 3, cells := 0, slots := 0, locals := 82 } : Room) (zPre g C [.ref (aD g 21), .ref (aD g 1)]) (zQv g (fun C' => wH g C' (mKp k + 1) (mSav f past k) ∧ (∀ q, (q < 21 ∨ (22 ≤ q ∧ q < 28) ∨ 94 ≤ q) → C' q = C q))) 0 0 (zA g) := by
  obtain ⟨old, h21, h22, ho, h4, h5⟩ := hH
  obtain ⟨num, pgs, cc, cn, cp, pn, pm, ⟨c0, c1, c2, c3, c4, c5, c6, c7, c8, c9, c10⟩, hR⟩ := hL
  obtain ⟨n1, n2, n3, f2, f3, f5, f6, f7, f9, f10, b0, b1, b2, b3, b4, b5, b6, b7, b8, b9, b10⟩ := slot_any h4 hk
  obtain ⟨sb, hsb⟩ : ∃ z, z = slot old k := ⟨_, rfl⟩
  rw [← hsb] at b0 b1 b2 b3 b4 b5 b6 b7 b8 b9 b10
  have hr := slot_rng (old := old) (i := k)
  rw [← hsb] at hr
  have hN : zN = 94 := rfl
  refine z_monV (m_X2_save l g C old k sb n1 n2 n3 f2 f3 f5 f6 f7 f9 f10 (f 1) (f 2) (f 0) num pgs cc cn cp pn pm h21 h22 (by omega) b0 (by omega) b1 (by omega) b2 (by omega) b3 (by omega) b4 (by omega) b5 (by omega) b6 (by omega) b7 (by omega) b8 (by omega) b9 (by omega) b10 c0 c1 c2 c3 c4 c5 c6 c7 c8 c9 c10 (by omega) (by rw [hsb]; unfold slot; omega)) (fun C' hC => ?_)
  subst hC
  refine ⟨wH_sav (C := C) hw hpw hk ho h4 h5 (va_up_eq _ _ _) (((va_up_ne _ _ (by omega)).trans ((va_up_ne _ _ (by omega)).trans ((va_up_ne _ _ (by omega)).trans ((va_up_ne _ _ (by omega)).trans ((va_up_ne _ _ (by omega)).trans ((va_up_ne _ _ (by omega)).trans ((va_up_ne _ _ (by omega)).trans ((va_up_ne _ _ (by omega)).trans ((va_up_ne _ _ (by omega)).trans h22)))))))))) ?_ (fun q q0 q1 q2 => ?_), fun q hq => ?_⟩
  · rw [← hsb]
    exact ⟨num, pgs, cc, cn, cp, pn, pm, ⟨((va_up_ne _ _ (by omega)).trans ((va_up_ne _ _ (by omega)).trans ((va_up_ne _ _ (by omega)).trans ((va_up_ne _ _ (by omega)).trans ((va_up_ne _ _ (by omega)).trans ((va_up_ne _ _ (by omega)).trans ((va_up_ne _ _ (by omega)).trans ((va_up_ne _ _ (by omega)).trans ((va_up_ne _ _ (by omega)).trans b0))))))))), ((va_up_ne _ _ (by omega)).trans ((va_up_ne _ _ (by omega)).trans ((va_up_ne _ _ (by omega)).trans ((va_up_ne _ _ (by omega)).trans ((va_up_ne _ _ (by omega)).trans ((va_up_ne _ _ (by omega)).trans (va_up_eq _ _ _))))))), ((va_up_ne _ _ (by omega)).trans ((va_up_ne _ _ (by omega)).trans ((va_up_ne _ _ (by omega)).trans ((va_up_ne _ _ (by omega)).trans ((va_up_ne _ _ (by omega)).trans ((va_up_ne _ _ (by omega)).trans ((va_up_ne _ _ (by omega)).trans ((va_up_ne _ _ (by omega)).trans (va_up_eq _ _ _))))))))), ((va_up_ne _ _ (by omega)).trans ((va_up_ne _ _ (by omega)).trans ((va_up_ne _ _ (by omega)).trans ((va_up_ne _ _ (by omega)).trans ((va_up_ne _ _ (by omega)).trans ((va_up_ne _ _ (by omega)).trans ((va_up_ne _ _ (by omega)).trans (va_up_eq _ _ _)))))))), ((va_up_ne _ _ (by omega)).trans ((va_up_ne _ _ (by omega)).trans ((va_up_ne _ _ (by omega)).trans ((va_up_ne _ _ (by omega)).trans ((va_up_ne _ _ (by omega)).trans ((va_up_ne _ _ (by omega)).trans ((va_up_ne _ _ (by omega)).trans ((va_up_ne _ _ (by omega)).trans ((va_up_ne _ _ (by omega)).trans b4))))))))), ((va_up_ne _ _ (by omega)).trans ((va_up_ne _ _ (by omega)).trans ((va_up_ne _ _ (by omega)).trans ((va_up_ne _ _ (by omega)).trans ((va_up_ne _ _ (by omega)).trans (va_up_eq _ _ _)))))), ((va_up_ne _ _ (by omega)).trans ((va_up_ne _ _ (by omega)).trans ((va_up_ne _ _ (by omega)).trans ((va_up_ne _ _ (by omega)).trans (va_up_eq _ _ _))))), ((va_up_ne _ _ (by omega)).trans ((va_up_ne _ _ (by omega)).trans ((va_up_ne _ _ (by omega)).trans (va_up_eq _ _ _)))), ((va_up_ne _ _ (by omega)).trans ((va_up_ne _ _ (by omega)).trans ((va_up_ne _ _ (by omega)).trans ((va_up_ne _ _ (by omega)).trans ((va_up_ne _ _ (by omega)).trans ((va_up_ne _ _ (by omega)).trans ((va_up_ne _ _ (by omega)).trans ((va_up_ne _ _ (by omega)).trans ((va_up_ne _ _ (by omega)).trans b8))))))))), ((va_up_ne _ _ (by omega)).trans ((va_up_ne _ _ (by omega)).trans (va_up_eq _ _ _))), ((va_up_ne _ _ (by omega)).trans (va_up_eq _ _ _))⟩, hR⟩
  · rw [← hsb] at q2
    exact ((va_up_ne _ _ (by omega)).trans ((va_up_ne _ _ (by omega)).trans ((va_up_ne _ _ (by omega)).trans ((va_up_ne _ _ (by omega)).trans ((va_up_ne _ _ (by omega)).trans ((va_up_ne _ _ (by omega)).trans ((va_up_ne _ _ (by omega)).trans ((va_up_ne _ _ (by omega)).trans ((va_up_ne _ _ (by omega)).trans rfl)))))))))
  · exact ((va_up_ne _ _ (by omega)).trans ((va_up_ne _ _ (by omega)).trans ((va_up_ne _ _ (by omega)).trans ((va_up_ne _ _ (by omega)).trans ((va_up_ne _ _ (by omega)).trans ((va_up_ne _ _ (by omega)).trans ((va_up_ne _ _ (by omega)).trans ((va_up_ne _ _ (by omega)).trans ((va_up_ne _ _ (by omega)).trans rfl)))))))))
set_option maxHeartbeats 4000000 in
theorem s_X2_restore (l : Launch) (g : zG) (C : Nat → va_E) (f past : Int → Int) (k : Int) (hH : wH g C k past) (hL : wL g C f) (hk : 1 ≤ k ∧ k ≤ 6) : Met l yX2_restore wsX2_restore ({ frames := 3, cells := 0, slots := 0, locals := 82 } : Room) (zPre g C [.ref (aD g 21), .ref (aD g 1)]) (zQv g (fun C' => wH g C' (k - 1) past ∧ wL g C' (mPast past (k - 1)) ∧ (∃ o : Int, C' 21 = .inr (2, [.ref (aD g 22), .int (iZ o), .int (iZ (k - 1))])) ∧ (∀ q, (q = 0 ∨ (12 ≤ q ∧ q < 21) ∨ (22 ≤ q ∧ q < 28) ∨ 94 ≤ q) → C' q = C q))) 0 0 (zA g) := by
  obtain ⟨old, h21, h22, ho, h4, h5⟩ := hH
  obtain ⟨num, pgs, cc, cn, cp, pn, pm, ⟨c0, c1, c2, c3, c4, c5, c6, c7, c8, c9, c10⟩, hR⟩ := hL
  obtain ⟨f2, f3, f5, f6, f7, f9, f10, ⟨b0, b1, b2, b3, b4, b5, b6, b7, b8, b9, b10⟩, hR2⟩ := h5 (k - 1) (by omega) (by omega)
  obtain ⟨sb, hsb⟩ : ∃ z, z = slot old (k - 1) := ⟨_, rfl⟩
  rw [← hsb] at b0 b1 b2 b3 b4 b5 b6 b7 b8 b9 b10
  have hr := slot_rng (old := old) (i := k - 1)
  rw [← hsb] at hr
  have hN : zN = 94 := rfl
  refine z_monV (m_X2_restore l g C old k sb _ _ _ f2 f3 f5 f6 f7 f9 f10 (f 1) (f 2) (f 0) num pgs cc cn cp pn pm h21 h22 (by omega) b0 (by omega) b1 (by omega) b2 (by omega) b3 (by omega) b4 (by omega) b5 (by omega) b6 (by omega) b7 (by omega) b8 (by omega) b9 (by omega) b10 c0 c1 c2 c3 c4 c5 c6 c7 c8 c9 c10 (by omega) (by rw [hsb]; unfold slot; omega)) (fun C' hC => ?_)
  have hag : ∀ q, 28 ≤ q → C' q = C q := fun q hq => by
    rw [hC]
    exact ((va_up_ne _ _ (by omega)).trans ((va_up_ne _ _ (by omega)).trans ((va_up_ne _ _ (by omega)).trans ((va_up_ne _ _ (by omega)).trans ((va_up_ne _ _ (by omega)).trans ((va_up_ne _ _ (by omega)).trans ((va_up_ne _ _ (by omega)).trans ((va_up_ne _ _ (by omega)).trans ((va_up_ne _ _ (by omega)).trans rfl)))))))))
  subst hC
  refine ⟨⟨old, ((va_up_ne _ _ (by omega)).trans ((va_up_ne _ _ (by omega)).trans ((va_up_ne _ _ (by omega)).trans ((va_up_ne _ _ (by omega)).trans ((va_up_ne _ _ (by omega)).trans ((va_up_ne _ _ (by omega)).trans ((va_up_ne _ _ (by omega)).trans ((va_up_ne _ _ (by omega)).trans (va_up_eq _ _ _))))))))), ((va_up_ne _ _ (by omega)).trans ((va_up_ne _ _ (by omega)).trans ((va_up_ne _ _ (by omega)).trans ((va_up_ne _ _ (by omega)).trans ((va_up_ne _ _ (by omega)).trans ((va_up_ne _ _ (by omega)).trans ((va_up_ne _ _ (by omega)).trans ((va_up_ne _ _ (by omega)).trans ((va_up_ne _ _ (by omega)).trans h22))))))))), ho, fun i i0 i1 => sAny_cong (h4 i i0 i1) (fun q q0 q1 => hag q (by have := slot_rng (old := old) (i := i); omega)), fun i i0 i1 => wS_cong (h5 i i0 (by omega)) (fun q q0 q1 => hag q (by have := slot_rng (old := old) (i := i); omega))⟩, ⟨f2, f3, f5, f6, f7, f9, f10, ⟨((va_up_ne _ _ (by omega)).trans ((va_up_ne _ _ (by omega)).trans ((va_up_ne _ _ (by omega)).trans ((va_up_ne _ _ (by omega)).trans ((va_up_ne _ _ (by omega)).trans ((va_up_ne _ _ (by omega)).trans ((va_up_ne _ _ (by omega)).trans ((va_up_ne _ _ (by omega)).trans ((va_up_ne _ _ (by omega)).trans c0))))))))), ((va_up_ne _ _ (by omega)).trans ((va_up_ne _ _ (by omega)).trans ((va_up_ne _ _ (by omega)).trans ((va_up_ne _ _ (by omega)).trans ((va_up_ne _ _ (by omega)).trans (va_up_eq _ _ _)))))), ((va_up_ne _ _ (by omega)).trans ((va_up_ne _ _ (by omega)).trans ((va_up_ne _ _ (by omega)).trans ((va_up_ne _ _ (by omega)).trans ((va_up_ne _ _ (by omega)).trans ((va_up_ne _ _ (by omega)).trans ((va_up_ne _ _ (by omega)).trans (va_up_eq _ _ _)))))))), ((va_up_ne _ _ (by omega)).trans ((va_up_ne _ _ (by omega)).trans ((va_up_ne _ _ (by omega)).trans ((va_up_ne _ _ (by omega)).trans ((va_up_ne _ _ (by omega)).trans ((va_up_ne _ _ (by omega)).trans (va_up_eq _ _ _))))))), ((va_up_ne _ _ (by omega)).trans ((va_up_ne _ _ (by omega)).trans ((va_up_ne _ _ (by omega)).trans ((va_up_ne _ _ (by omega)).trans ((va_up_ne _ _ (by omega)).trans ((va_up_ne _ _ (by omega)).trans ((va_up_ne _ _ (by omega)).trans ((va_up_ne _ _ (by omega)).trans ((va_up_ne _ _ (by omega)).trans c4))))))))), ((va_up_ne _ _ (by omega)).trans ((va_up_ne _ _ (by omega)).trans ((va_up_ne _ _ (by omega)).trans ((va_up_ne _ _ (by omega)).trans (va_up_eq _ _ _))))), ((va_up_ne _ _ (by omega)).trans ((va_up_ne _ _ (by omega)).trans ((va_up_ne _ _ (by omega)).trans (va_up_eq _ _ _)))), ((va_up_ne _ _ (by omega)).trans ((va_up_ne _ _ (by omega)).trans (va_up_eq _ _ _))), ((va_up_ne _ _ (by omega)).trans ((va_up_ne _ _ (by omega)).trans ((va_up_ne _ _ (by omega)).trans ((va_up_ne _ _ (by omega)).trans ((va_up_ne _ _ (by omega)).trans ((va_up_ne _ _ (by omega)).trans ((va_up_ne _ _ (by omega)).trans ((va_up_ne _ _ (by omega)).trans ((va_up_ne _ _ (by omega)).trans c8))))))))), ((va_up_ne _ _ (by omega)).trans (va_up_eq _ _ _)), (va_up_eq _ _ _)⟩, hR2⟩, ⟨old, ((va_up_ne _ _ (by omega)).trans ((va_up_ne _ _ (by omega)).trans ((va_up_ne _ _ (by omega)).trans ((va_up_ne _ _ (by omega)).trans ((va_up_ne _ _ (by omega)).trans ((va_up_ne _ _ (by omega)).trans ((va_up_ne _ _ (by omega)).trans ((va_up_ne _ _ (by omega)).trans (va_up_eq _ _ _)))))))))⟩, fun q hq => ?_⟩
  exact ((va_up_ne _ _ (by omega)).trans ((va_up_ne _ _ (by omega)).trans ((va_up_ne _ _ (by omega)).trans ((va_up_ne _ _ (by omega)).trans ((va_up_ne _ _ (by omega)).trans ((va_up_ne _ _ (by omega)).trans ((va_up_ne _ _ (by omega)).trans ((va_up_ne _ _ (by omega)).trans ((va_up_ne _ _ (by omega)).trans rfl)))))))))
end ZSV
