/-! what the class reads, and what the reference tells -/
section ZLK
theorem mPrt_78 (f : Int → Int) (a c : Int) : mPrt f a c (32 * a + 78) = f (32 * a + 65) := by simp [mPrt]
theorem mPrt_at {f : Int → Int} {a c b : Int} (hb : 0 ≤ b ∧ b < c) : mPrt f a c (32 * a + 3 * b + 79) = sLet f a b ∧ mPrt f a c (32 * a + 3 * b + 80) = f (32 * a + 2 * b + 67) ∧ mPrt f a c (32 * a + 3 * b + 81) = b2i (sLost f a b) := by
  simp only [mPrt]
  refine ⟨?_, ?_, ?_⟩
  · rw [if_neg (by omega), if_pos (by omega), if_pos (by omega), show (32 * a + 3 * b + 79 - 32 * a - 79) / 3 = b by omega]
  · rw [if_neg (by omega), if_pos (by omega), if_neg (by omega), if_pos (by omega), show (32 * a + 3 * b + 80 - 32 * a - 79) / 3 = b by omega]
  · rw [if_neg (by omega), if_pos (by omega), if_neg (by omega), if_neg (by omega), show (32 * a + 3 * b + 81 - 32 * a - 79) / 3 = b by omega]
/-- marks of the first c citations -/
def iPm (pm lt cp lo : Int → Int) (a c : Int) : Int → Int := fun j => if 6 * a ≤ j ∧ j < 6 * a + c then 122 * lt j + 2 * cp j + lo j + 122 else pm j
theorem iPm_0 (pm lt cp lo : Int → Int) (a : Int) : iPm pm lt cp lo a 0 = pm := by
  funext j
  simp only [iPm]
  rw [if_neg (by omega)]
theorem iPm_1 {pm lt cp lo : Int → Int} {a c : Int} (hc : 0 ≤ c) : zu (iPm pm lt cp lo a c) (6 * a + c) (122 * lt (6 * a + c) + 2 * cp (6 * a + c) + lo (6 * a + c) + 122) = iPm pm lt cp lo a (c + 1) := by
  funext j
  simp only [zu, iPm]
  by_cases q : j = 6 * a + c
  · subst q
    rw [if_pos rfl, if_pos (by omega)]
  · rw [if_neg q]
    by_cases q2 : 6 * a ≤ j ∧ j < 6 * a + c
    · rw [if_pos q2, if_pos (by omega)]
    · rw [if_neg q2, if_neg (by omega)]
theorem WF_print {f : Int → Int} {cap a : Int} (hw : WF f cap) (ha : 0 ≤ a ∧ a < 12) : WF (mPrint f a) cap := by
  have hn := hw.n
  have q := hw.pa a ha.1 ha.2
  have o (j : Int) (h : j < 32 * a + 78 ∨ 32 * a + 97 ≤ j) : mPrint f a j = f j := mPrt_out (by omega)
  have e2 := o 2 (by omega)
  refine WF_ci hw (mPrt_rg hw.wr a _) (fun j j0 j1 _ => o j (by omega)) (by rw [e2]; have := hw.nx; omega) (fun a2 a0 a1 => ?_) (fun a2 b a0 a1 b0 b1 => ?_) (fun a2 b a0 a1 b0 b1 => ?_)
  · have q2 := hw.pa a2 a0 a1
    rw [o (32 * a2 + 65) (by omega)]
    by_cases c : a2 = a
    · subst c
      have e : mPrint f a2 (32 * a2 + 78) = f (32 * a2 + 65) := mPrt_78 f a2 _
      rw [e]
      omega
    · rw [o (32 * a2 + 78) (by omega)]
      exact q2
  · have q2 := hw.pa a2 a0 a1
    rw [o (32 * a2 + 65) (by omega)] at b1
    rw [o _ (by omega), o (32 * a2 + 2 * b + 67) (by omega), e2]
    exact hw.ci a2 b a0 a1 b0 b1
  · have q2 := hw.pa a2 a0 a1
    by_cases c : a2 = a
    · subst c
      have e : mPrint f a2 (32 * a2 + 78) = f (32 * a2 + 65) := mPrt_78 f a2 _
      rw [e] at b1
      have p := mPrt_at (f := f) (a := a2) (c := f (32 * a2 + 65)) ⟨b0, b1⟩
      have r := sLet_rng hw.wr a2 b
      have r2 := hw.ci a2 b a0 a1 b0 b1
      have r3 := b2i_rng (sLost f a2 b)
      unfold mPrint
      rw [p.1, p.2.1, p.2.2]
      omega
    · rw [o (32 * a2 + 78) (by omega)] at b1
      rw [o _ (by omega), o (32 * a2 + 3 * b + 80) (by omega), o (32 * a2 + 3 * b + 81) (by omega)]
      exact hw.pr a2 b a0 a1 b0 b1
theorem RS_print {f num pgs cc cn cp pn pm lt lo vb vt vf : Int → Int} {cap a : Int} (hR : RS f num pgs cc cn cp pn pm) (hV : VR f vb vt vf lt lo) (hw : WF f cap) (ha : 0 ≤ a ∧ a < 12) : RS (mPrint f a) num pgs cc cn cp (zu pn a (cc a)) (iPm pm lt cp lo a (cc a)) := by
  have hn := hw.n
  have q := hw.pa a ha.1 ha.2
  have o (j : Int) (h : j < 32 * a + 78 ∨ 32 * a + 97 ≤ j) : mPrint f a j = f j := mPrt_out (by omega)
  have ec := (hR.pa a ha.1 ha.2).1
  have e78 : mPrint f a (32 * a + 78) = f (32 * a + 65) := mPrt_78 f a _
  refine ⟨fun k k0 k1 => ?_, fun a2 a0 a1 => ⟨?_, ?_⟩, fun a2 b a0 a1 b0 b1 => ?_, fun a2 b a0 a1 b0 b1 => ?_, hR.r1, hR.r2, Rg_zu hR.r3 (by omega), fun j => ?_⟩
  · rw [o 1 (by omega)] at k1
    rw [o _ (by omega), o (2 * k + 4) (by omega)]
    exact hR.ex k k0 k1
  · rw [o _ (by omega)]
    exact (hR.pa a2 a0 a1).1
  · by_cases c : a2 = a
    · subst c
      rw [zu_eq, e78, ec]
    · rw [zu_ne _ _ c, o _ (by omega)]
      exact (hR.pa a2 a0 a1).2
  · have q2 := hw.pa a2 a0 a1
    rw [o (32 * a2 + 65) (by omega)] at b1
    rw [o _ (by omega), o (32 * a2 + 2 * b + 67) (by omega)]
    exact hR.ci a2 b a0 a1 b0 b1
  · have q2 := hw.pa a2 a0 a1
    simp only [iPm]
    by_cases c : a2 = a
    · subst c
      rw [e78] at b1
      have p := mPrt_at (f := f) (a := a2) (c := f (32 * a2 + 65)) ⟨b0, b1⟩
      have v := hV.2.1 a2 b a0 a1 b0 b1
      have e := hR.ci a2 b a0 a1 b0 b1
      unfold mPrint
      rw [if_pos (by omega), p.1, p.2.1, p.2.2, v.1, v.2, e.2]
    · rw [o (32 * a2 + 78) (by omega)] at b1
      rw [if_neg (by omega), o (32 * a2 + 3 * b + 79) (by omega), o (32 * a2 + 3 * b + 80) (by omega), o (32 * a2 + 3 * b + 81) (by omega)]
      exact hR.pr a2 b a0 a1 b0 b1
  · simp only [iPm]
    split
    · rename_i c
      have hb : j = 6 * a + (j - 6 * a) := by omega
      have v := hV.2.2.1 j
      have v2 := hV.2.2.2 j
      have e := hR.hcp hw a (j - 6 * a) ha.1 ha.2 (by omega) (by omega)
      rw [← hb] at e
      omega
    · exact hR.r4 j
/-- exhibits and citations as they were: the view is as it was -/
theorem VR_same {f h vb vt vf lt lo : Int → Int} {cap : Int} (hV : VR f vb vt vf lt lo) (hw : WF f cap) (h0 : ∀ j, 0 ≤ j → j < 65 → h j = f j) (h1 : ∀ a d, 0 ≤ a → a < 12 → 65 ≤ d → d < 78 → h (32 * a + d) = f (32 * a + d)) : VR h vb vt vf lt lo ∧ sBds h = sBds f := by
  have hn := hw.n
  have e1 := h0 1 (by omega) (by omega)
  have eS : ∀ j, 0 ≤ j → j < f 1 → sPg h j = sPg f j := fun j j0 j1 => h0 (2 * j + 4) (by omega) (by omega)
  refine ⟨⟨fun k k0 k1 => ?_, fun a b a0 a1 b0 b1 => ?_, hV.2.2.1, hV.2.2.2⟩, ?_⟩
  · rw [e1] at k1
    rw [h0 0 (by omega) (by omega)]
    have q := zlieC' (lim := f 0) eS k0 k1
    rw [q.1, q.2.1, q.2.2.2.2]
    exact hV.1 k k0 k1
  · have p := hw.pa a a0 a1
    rw [h1 a 65 a0 a1 (by omega) (by omega)] at b1
    have c1 : h (32 * a + 2 * b + 66) = f (32 * a + 2 * b + 66) := by
      rw [show 32 * a + 2 * b + 66 = 32 * a + (2 * b + 66) by omega]
      exact h1 a _ a0 a1 (by omega) (by omega)
    have c2 : h (32 * a + 2 * b + 67) = f (32 * a + 2 * b + 67) := by
      rw [show 32 * a + 2 * b + 67 = 32 * a + (2 * b + 67) by omega]
      exact h1 a _ a0 a1 (by omega) (by omega)
    rw [sLet_cong e1 (fun k k0 k1 => h0 _ (by omega) (by omega)) c1, sLost_cong hn.1 e1 (fun k k0 k1 => h0 _ (by omega) (by omega)) (fun k k0 k1 => h0 _ (by omega) (by omega)) c1 c2]
    exact hV.2.1 a b a0 a1 b0 b1
  · unfold sBds
    rw [h0 0 (by omega) (by omega), e1]
    exact zBndC eS hn.1
theorem IW_pr {g : zG} {C0 C' : Nat → va_E} {f past tx num pgs cc cn cp pn pm vb vt vf lt lo : Int → Int} {k ty cap a : Int} (hB : wB g C0) (hT : wT g C0) (hX : wX g C0 ty tx) (hH : wH g C0 k past) (hag : ∀ q, (q = 0 ∨ (18 ≤ q ∧ q < 94)) → C' q = C0 q) (hw : WF f cap) (ha : 0 ≤ a ∧ a < 12)
    (hL : sL g C' (f 1) (f 2) (f 0) num pgs cc cn cp pn pm) (hR : RS (mPrint f a) num pgs cc cn cp pn pm) (hV : sV g C' (sBds f) vb vt vf lt lo) (hVR : VR f vb vt vf lt lo) : IW g C' (mPrint f a) k past ty tx := by
  have o (j : Int) (h : j < 32 * a + 78 ∨ 32 * a + 97 ≤ j) : mPrint f a j = f j := by
    have q := hw.pa a ha.1 ha.2
    exact mPrt_out (by omega)
  have s := VR_same (h := mPrint f a) hVR hw (fun j j0 j1 => o j (by omega)) (fun a2 d a0 a1 d0 d1 => o _ (by omega))
  refine ⟨wB_cong hB (fun q hq => hag q (by omega)), ⟨num, pgs, cc, cn, cp, pn, pm, ?_, hR⟩, ⟨vb, vt, vf, lt, lo, ?_, s.1⟩, wT_cong hT (fun q hq => hag q (by omega)), wH_cong hH (fun q hq => hag q (by omega)), wX_cong hX (fun q hq => hag q (by omega))⟩
  · rw [o 1 (by omega), o 2 (by omega), o 0 (by omega)]
    exact hL
  · rw [s.2]
    exact hV
theorem look_co {f num pgs cc cn cp pn pm lt lo vb vt vf : Int → Int} {cap p : Int} (hR : RS f num pgs cc cn cp pn pm) (hV : VR f vb vt vf lt lo) (hw : WF f cap) : iCo cc lt p = sCby f p 1 := by
  unfold iCo sCby
  refine zsum_cong (fun a a0 a1 => ?_)
  rw [(hR.pa a a0 a1).1]
  refine zsum_cong (fun b b0 b1 => ?_)
  unfold sCb
  rw [(hV.2.1 a b a0 a1 b0 b1).1]
  congr 1
  exact decide_eq_decide.mpr ⟨fun z => ⟨z, Or.inl (by decide)⟩, fun z => z.1⟩
theorem look_go {f num pgs cc cn cp pn pm lt lo vb vt vf : Int → Int} {cap p : Int} (hR : RS f num pgs cc cn cp pn pm) (hV : VR f vb vt vf lt lo) (hw : WF f cap) : iGo cc lt lo p = sCby f p 0 := by
  unfold iGo sCby iGi
  refine zsum_cong (fun a a0 a1 => ?_)
  rw [(hR.pa a a0 a1).1]
  refine zsum_cong (fun b b0 b1 => ?_)
  have v := hV.2.1 a b a0 a1 b0 b1
  unfold sCb
  rw [v.1, v.2]
  congr 1
  refine decide_eq_decide.mpr ⟨fun z => ⟨z.1, Or.inr (b2i_eq0.mp z.2)⟩, fun z => ⟨z.1, ?_⟩⟩
  rcases z.2 with h | h
  · exact absurd rfl h
  · exact b2i_eq0.mpr h
theorem look_gi {f num pgs cc cn cp pn pm lt lo vb vt vf : Int → Int} {cap p a : Int} (hR : RS f num pgs cc cn cp pn pm) (hV : VR f vb vt vf lt lo) (hw : WF f cap) (a0 : 0 ≤ a) (a1 : a < 12) : (0 < iGi cc lt lo a p) ↔ zany (fun b => sTb f p a b) (f (32 * a + 65)) = true := by
  have q := hw.pa a a0 a1
  unfold iGi
  rw [(hR.pa a a0 a1).1, zany_iff]
  have key : ∀ n : Nat, (n : Int) ≤ f (32 * a + 65) → (0 < zsum (fun b => b2i (decide (lt (6 * a + b) = p ∧ lo (6 * a + b) = 0))) n ↔ ∃ j : Int, 0 ≤ j ∧ j < n ∧ sTb f p a j = true) ∧ 0 ≤ zsum (fun b => b2i (decide (lt (6 * a + b) = p ∧ lo (6 * a + b) = 0))) n := by
    intro n
    induction n with
    | zero => exact fun _ => ⟨⟨fun z => absurd z (by show ¬ (0 : Int) < 0; omega), fun ⟨j, j0, j1, _⟩ => by omega⟩, by show (0 : Int) ≤ 0; omega⟩
    | succ n ih =>
      intro hn
      obtain ⟨i1, i2⟩ := ih (by omega)
      have v := hV.2.1 a n a0 a1 (by omega) (by omega)
      rw [show ((n + 1 : Nat) : Int) = (n : Int) + 1 by omega, zsum_1 _ (by omega)]
      show (0 < zsum _ (n : Int) + b2i (decide (lt (6 * a + n) = p ∧ lo (6 * a + n) = 0)) ↔ _) ∧ 0 ≤ zsum _ (n : Int) + b2i (decide (lt (6 * a + n) = p ∧ lo (6 * a + n) = 0))
      have et : sTb f p a n = decide (lt (6 * a + n) = p ∧ lo (6 * a + n) = 0) := by
        unfold sTb
        rw [v.1, v.2, Bool.eq_iff_iff, decide_eq_true_iff, decide_eq_true_iff, b2i_eq0]
      rw [← et]
      have r := b2i_rng (sTb f p a n)
      refine ⟨⟨fun z => ?_, fun ⟨j, j0, j1, j2⟩ => ?_⟩, by omega⟩
      · by_cases c : 0 < zsum (fun b => b2i (decide (lt (6 * a + b) = p ∧ lo (6 * a + b) = 0))) (n : Int)
        · obtain ⟨j, j0, j1, j2⟩ := i1.mp c
          exact ⟨j, j0, by omega, j2⟩
        · exact ⟨n, by omega, by omega, b2i_eq1.mp (by omega)⟩
      · by_cases c : j = n
        · rw [c] at j2
          rw [j2, b2i_t]
          omega
        · have := i1.mpr ⟨j, j0, by omega, j2⟩
          omega
  have k2 := (key (f (32 * a + 65)).toNat (by omega)).1
  rw [Int.toNat_of_nonneg q.1] at k2
  exact k2
theorem zsum_c (c : Int) {n : Int} (hn : 0 ≤ n) : zsum (fun _ => c) n = n * c := by
  obtain ⟨m, rfl⟩ : ∃ m : Nat, n = (m : Int) := ⟨n.toNat, by omega⟩
  clear hn
  induction m with
  | zero => simp [zsum, zsumF]
  | succ m ih =>
    rw [show ((m + 1 : Nat) : Int) = (m : Int) + 1 by omega, zsum_1 _ (by omega), ih, Int.add_mul]
    omega
theorem look_ce {f num pgs cc cn cp pn pm lt lo vb vt vf : Int → Int} {cap : Int} (hR : RS f num pgs cc cn cp pn pm) (hV : VR f vb vt vf lt lo) (hw : WF f cap) : iCe cc lt lo (f 1) + sUnc f = f 1 := by
  have hn := hw.n
  have s := zsum_sub (h1 := fun k => b2i (decide (0 < iGo cc lt lo k))) (h2 := fun k => b2i (decide (sCby f k 0 = 0))) (h3 := fun _ => 1) hn.1 (fun j j0 j1 => by
    show b2i (decide (0 < iGo cc lt lo j)) + b2i (decide (sCby f j 0 = 0)) = 1
    rw [look_go hR hV hw]
    have r := sCby_rng hw.wr j 0
    by_cases c : sCby f j 0 = 0
    · rw [b2i_0 (by omega), b2i_1 c]
      omega
    · rw [b2i_1 (by omega), b2i_0 c]
      omega)
  rw [zsum_c 1 hn.1] at s
  unfold iCe sUnc
  omega
theorem look_li {f num pgs cc cn cp pn pm lt lo vb vt vf : Int → Int} {cap a : Int} (hR : RS f num pgs cc cn cp pn pm) (hV : VR f vb vt vf lt lo) (hw : WF f cap) (a0 : 0 ≤ a) (a1 : a < 12) : iLi cc lo a = sLostN f a := by
  unfold iLi sLostN
  rw [(hR.pa a a0 a1).1]
  refine zsum_cong (fun b b0 b1 => ?_)
  show b2i (decide (lo (6 * a + b) ≠ 0)) = b2i (sLost f a b)
  rw [(hV.2.1 a b a0 a1 b0 b1).2]
  cases sLost f a b <;> rfl
theorem look_al {f num pgs cc cn cp pn pm lt lo vb vt vf : Int → Int} {cap : Int} (hR : RS f num pgs cc cn cp pn pm) (hV : VR f vb vt vf lt lo) (hw : WF f cap) : iAl cc lo = sAllLost f :=
  zsum_cong (fun a a0 a1 => look_li hR hV hw a0 a1)
/-- staleness, where the exhibits stood at new places: h is the reference's row then -/
theorem stale_gen {f h num pgs cc cn cp pn pm lt lo vb vt vf np : Int → Int} {cap a : Int} (hR : RS f num pgs cc cn cp pn pm) (hV : VR f vb vt vf lt lo) (hw : WF f cap) (hh : ∀ j, 65 ≤ j → h j = f j)
    (hl : ∀ a b, 0 ≤ a → a < 12 → 0 ≤ b → b < f (32 * a + 65) → sLet h a b = iNl np lt (6 * a + b) ∧ sLost h a b = decide (iNl np lt (6 * a + b) = -1 ∨ lo (6 * a + b) ≠ 0)) (a0 : 0 ≤ a) (a1 : a < 12) : iSt np lt lo cc cp pn pm a = sStale h a := by
  have q := hw.pa a a0 a1
  have p := hR.pa a a0 a1
  unfold iSt sStale
  rw [p.1, p.2, hh (32 * a + 78) (by omega), hh (32 * a + 65) (by omega)]
  by_cases c : f (32 * a + 78) = f (32 * a + 65)
  · congr 1
    refine zany_cong (fun b b0 b1 => ?_)
    have e := hR.ci a b a0 a1 b0 b1
    have e2 := hR.pr a b a0 a1 b0 (by omega)
    have l := hl a b a0 a1 b0 b1
    have w1 := hw.ci a b a0 a1 b0 b1
    have w2 := hw.pr a b a0 a1 b0 (by omega)
    unfold iMis sMis iNx
    rw [hh (32 * a + 3 * b + 79) (by omega), hh (32 * a + 3 * b + 80) (by omega), hh (32 * a + 3 * b + 81) (by omega), hh (32 * a + 2 * b + 67) (by omega), l.1, l.2, e.2, e2]
    have r := b2i_rng (decide (iNl np lt (6 * a + b) = -1 ∨ lo (6 * a + b) ≠ 0))
    generalize b2i (decide (iNl np lt (6 * a + b) = -1 ∨ lo (6 * a + b) ≠ 0)) = X at *
    generalize iNl np lt (6 * a + b) = L at *
    exact decide_eq_decide.mpr ⟨fun z => by omega, fun z => by omega⟩
  · rw [decide_eq_true c, Bool.true_or, Bool.true_or]
theorem stale_same {f num pgs cc cn cp pn pm lt lo vb vt vf : Int → Int} {cap a : Int} (hR : RS f num pgs cc cn cp pn pm) (hV : VR f vb vt vf lt lo) (hw : WF f cap) (a0 : 0 ≤ a) (a1 : a < 12) : iSt (fun k => k) lt lo cc cp pn pm a = sStale f a := by
  refine stale_gen hR hV hw (fun _ _ => rfl) (fun a b a0 a1 b0 b1 => ?_) a0 a1
  have v := hV.2.1 a b a0 a1 b0 b1
  have e : iNl (fun k => k) lt (6 * a + b) = sLet f a b := by
    unfold iNl
    rw [v.1]
    split
    · rename_i c
      exact c.symm
    · rfl
  rw [e, v.2]
  refine ⟨rfl, ?_⟩
  rw [Bool.eq_iff_iff, decide_eq_true_iff, b2i_ne0]
  unfold sLost
  rw [decide_eq_true_iff]
  exact ⟨fun z => Or.inr z, fun z => z.elim Or.inl id⟩
theorem staleN_gen {f h num pgs cc cn cp pn pm lt lo vb vt vf np : Int → Int} {cap : Int} (hR : RS f num pgs cc cn cp pn pm) (hV : VR f vb vt vf lt lo) (hw : WF f cap) (hh : ∀ j, 65 ≤ j → h j = f j)
    (hl : ∀ a b, 0 ≤ a → a < 12 → 0 ≤ b → b < f (32 * a + 65) → sLet h a b = iNl np lt (6 * a + b) ∧ sLost h a b = decide (iNl np lt (6 * a + b) = -1 ∨ lo (6 * a + b) ≠ 0)) : iSn np lt lo cc cp pn pm = sStaleN h :=
  zsum_cong (fun a a0 a1 => by
    show b2i (iSt np lt lo cc cp pn pm a) = b2i (sStale h a)
    rw [stale_gen hR hV hw hh hl a0 a1])
theorem staleN_same {f num pgs cc cn cp pn pm lt lo vb vt vf : Int → Int} {cap : Int} (hR : RS f num pgs cc cn cp pn pm) (hV : VR f vb vt vf lt lo) (hw : WF f cap) : iSn (fun k => k) lt lo cc cp pn pm = sStaleN f :=
  zsum_cong (fun a a0 a1 => by
    show b2i (iSt (fun k => k) lt lo cc cp pn pm a) = b2i (sStale f a)
    rw [stale_same hR hV hw a0 a1])
/-- what a letter is then, from a search that is told -/
theorem trial_hl {f h lt lo vb vt vf np : Int → Int} {cap : Int} (hV : VR f vb vt vf lt lo) (hw : WF f cap) (h1 : ∀ x, 0 ≤ x → x < f 2 → sPl h x = if sPl f x = -1 then -1 else np (sPl f x)) (h2 : ∀ j, 0 ≤ j → j < f 1 → np j ≠ -1 → h (2 * np j + 4) = f (2 * j + 4)) (hh : ∀ j, 65 ≤ j → h j = f j) :
    ∀ a b, 0 ≤ a → a < 12 → 0 ≤ b → b < f (32 * a + 65) → sLet h a b = iNl np lt (6 * a + b) ∧ sLost h a b = decide (iNl np lt (6 * a + b) = -1 ∨ lo (6 * a + b) ≠ 0) := by
  intro a b a0 a1 b0 b1
  have v := hV.2.1 a b a0 a1 b0 b1
  have r := sLet_rng hw.wr a b
  have e : sLet h a b = iNl np lt (6 * a + b) := by
    unfold iNl
    rw [v.1]
    unfold sLet
    rw [hh _ (by omega)]
    have w := hw.ci a b a0 a1 b0 b1
    exact h1 _ w.1 w.2.1
  refine ⟨e, ?_⟩
  have n : iNl np lt (6 * a + b) = if sLet f a b = -1 then -1 else np (sLet f a b) := by
    unfold iNl
    rw [v.1]
  have hb : (b2i (sLost f a b) ≠ 0) ↔ (sLet f a b = -1 ∨ f (2 * sLet f a b + 4) < f (32 * a + 2 * b + 67)) := by
    rw [b2i_ne0]
    unfold sLost
    exact decide_eq_true_iff
  have hs : sLost h a b = decide (sLet h a b = -1 ∨ h (2 * sLet h a b + 4) < h (32 * a + 2 * b + 67)) := rfl
  rw [hs, e, v.2, hh (32 * a + 2 * b + 67) (by omega)]
  refine decide_eq_decide.mpr ?_
  rw [hb, n]
  by_cases c : sLet f a b = -1
  · rw [if_pos c]
    exact ⟨fun _ => Or.inl rfl, fun _ => Or.inl rfl⟩
  · rw [if_neg c]
    by_cases d : np (sLet f a b) = -1
    · exact ⟨fun _ => Or.inl d, fun _ => Or.inl d⟩
    · rw [h2 _ (by omega) r.2 d]
      omega
theorem sPl_put {f : Int → Int} {p x y z : Int} (hn : 0 ≤ f 1) (hp : 0 ≤ p ∧ p ≤ f 1) (hz : z ≠ x) : sPl (mPut f p x y) z = if sPl f z = -1 then -1 else if sPl f z < p then sPl f z else sPl f z + 1 := by
  unfold sPl
  rw [mPut_1]
  have q (k : Int) (k0 : 0 ≤ k) (k1 : k ≤ f 1) := (mPut_x f (p := p) (x := x) (y := y) hp.1 k0 k1).1
  rcases zfind_spec (fun k => f (2 * k + 3)) z (n := f 1) hn with ⟨s1, s2⟩ | ⟨s1, s2, s3, s4⟩
  · rw [s1, if_pos rfl]
    refine zfind_no (fun j j0 j1 => ?_)
    show mPut f p x y (2 * j + 3) ≠ z
    rw [q j j0 (by omega)]
    split
    · exact fun w => hz w.symm
    · split
      · exact s2 (j - 1) (by omega) (by omega)
      · exact s2 j j0 (by omega)
  · generalize zfind (fun k => f (2 * k + 3)) z (f 1) = r at *
    have s3' : f (2 * r + 3) = z := s3
    rw [if_neg (by omega)]
    by_cases d : r < p
    · rw [if_pos d]
      refine zfind_at s1 (by omega) (fun j j0 j1 => ?_) ?_
      · show mPut f p x y (2 * j + 3) ≠ z
        rw [q j j0 (by omega), if_neg (by omega), if_neg (by omega)]
        exact s4 j j0 j1
      · show mPut f p x y (2 * r + 3) = z
        rw [q r s1 (by omega), if_neg (by omega), if_neg (by omega)]
        exact s3'
    · rw [if_neg d]
      refine zfind_at (by omega) (by omega) (fun j j0 j1 => ?_) ?_
      · show mPut f p x y (2 * j + 3) ≠ z
        rw [q j j0 (by omega)]
        split
        · exact fun w => hz w.symm
        · split
          · exact s4 (j - 1) (by omega) (by omega)
          · exact s4 j j0 (by omega)
      · show mPut f p x y (2 * (r + 1) + 3) = z
        rw [q _ (by omega) (by omega), if_neg (by omega), if_pos (by omega), show r + 1 - 1 = r by omega]
        exact s3'
theorem sPl_self {f : Int → Int} {p x y : Int} (hp : 0 ≤ p ∧ p ≤ f 1) (hx : ∀ k, 0 ≤ k → k < f 1 → f (2 * k + 3) ≠ x) : sPl (mPut f p x y) x = p := by
  unfold sPl
  rw [mPut_1]
  have q (k : Int) (k0 : 0 ≤ k) (k1 : k ≤ f 1) := (mPut_x f (p := p) (x := x) (y := y) hp.1 k0 k1).1
  refine zfind_at hp.1 (by omega) (fun j j0 j1 => ?_) ?_
  · show mPut f p x y (2 * j + 3) ≠ x
    rw [q j j0 (by omega), if_neg (by omega), if_neg (by omega)]
    exact hx j j0 (by omega)
  · show mPut f p x y (2 * p + 3) = x
    rw [q p hp.1 hp.2, if_pos rfl]
theorem sPl_lo {f : Int → Int} {v x : Int} : sPl (zu f 2 v) x = sPl f x := sPl_cong (zu_ne _ _ (by omega)) (fun k k0 _ => zu_ne _ _ (by omega))
theorem iNI_eq {p j : Int} : iNI p j = if j < p then j else j + 1 := rfl
theorem iNO_eq {p j : Int} : iNO p j = if j = p then -1 else if j < p then j else j - 1 := rfl
theorem iNM_eq {p t j : Int} : iNM p t j = if j = p then t else if j < p then (if j < t then j else j + 1) else (if j - 1 < t then j - 1 else j) := rfl
theorem trial_ins {f num pgs cc cn cp pn pm lt lo vb vt vf np : Int → Int} {cap p y : Int} (hR : RS f num pgs cc cn cp pn pm) (hV : VR f vb vt vf lt lo) (hw : WF f cap) (hp : 0 ≤ p ∧ p ≤ f 1) (hnp : ∀ j, 0 ≤ j → j < f 1 → np j = iNI p j) : iSn np lt lo cc cp pn pm = sStaleN (mCome f p y) := by
  have hn := hw.n
  have hh : ∀ j, 65 ≤ j → mCome f p y j = f j := fun j hj => by
    unfold mCome
    rw [zu_ne _ _ (by omega), mPut_hi f (by omega) hp.2 hj]
  refine staleN_gen hR hV hw hh (trial_hl hV hw (fun x x0 x1 => ?_) (fun j j0 j1 hj => ?_) hh)
  · have r := sPl_rng hw.wr x
    unfold mCome
    rw [sPl_lo, sPl_put hn.1 hp (by omega)]
    by_cases c : sPl f x = -1
    · rw [if_pos c, if_pos c]
    · rw [if_neg c, if_neg c, hnp _ (by omega) r.2, iNI_eq]
  · rw [hnp j j0 j1, iNI_eq]
    unfold mCome
    by_cases c : j < p
    · rw [if_pos c, zu_ne _ _ (by omega), (mPut_x f (p := p) (x := f 2) (y := y) hp.1 j0 (by omega)).2, if_neg (by omega), if_neg (by omega)]
    · rw [if_neg c, zu_ne _ _ (by omega), (mPut_x f (p := p) (x := f 2) (y := y) (k := j + 1) hp.1 (by omega) (by omega)).2, if_neg (by omega), if_pos (by omega), show j + 1 - 1 = j by omega]
theorem trial_out {f num pgs cc cn cp pn pm lt lo vb vt vf np : Int → Int} {cap p : Int} (hR : RS f num pgs cc cn cp pn pm) (hV : VR f vb vt vf lt lo) (hw : WF f cap) (hp : 0 ≤ p ∧ p < f 1) (hnp : ∀ j, 0 ≤ j → j < f 1 → np j = iNO p j) : iSn np lt lo cc cp pn pm = sStaleN (mOut f p) := by
  have hn := hw.n
  have hh : ∀ j, 65 ≤ j → mOut f p j = f j := fun j hj => mOut_hi f (by omega) hj
  refine staleN_gen hR hV hw hh (trial_hl hV hw (fun x x0 x1 => ?_) (fun j j0 j1 hj => ?_) hh)
  · have r := sPl_rng hw.wr x
    rw [sPl_out hw hp]
    by_cases c : sPl f x = -1
    · rw [if_pos c, if_neg (by omega), if_neg (by omega), c]
    · rw [if_neg c, hnp _ (by omega) r.2, iNO_eq]
      by_cases d : sPl f x = p
      · rw [if_pos d, if_pos d]
      · rw [if_neg d, if_neg d]
        by_cases e : p < sPl f x
        · rw [if_pos e, if_neg (by omega)]
        · rw [if_neg e, if_pos (by omega)]
  · rw [hnp j j0 j1, iNO_eq] at hj ⊢
    by_cases d : j = p
    · rw [if_pos d] at hj
      exact absurd rfl hj
    · rw [if_neg d] at hj ⊢
      by_cases e : j < p
      · rw [if_pos e, (mOut_x f (p := p) j0 (by omega)).2, if_neg (by omega)]
      · rw [if_neg e, (mOut_x f (p := p) (k := j - 1) (by omega) (by omega)).2, if_pos (by omega), show j - 1 + 1 = j by omega]
theorem trial_mov {f num pgs cc cn cp pn pm lt lo vb vt vf np : Int → Int} {cap p t : Int} (hR : RS f num pgs cc cn cp pn pm) (hV : VR f vb vt vf lt lo) (hw : WF f cap) (hp : 0 ≤ p ∧ p < f 1) (ht : 0 ≤ t ∧ t < f 1) (hnp : ∀ j, 0 ≤ j → j < f 1 → np j = iNM p t j) : iSn np lt lo cc cp pn pm = sStaleN (mMove f p t) := by
  have hn := hw.n
  have e1 := mOut_1 f p
  have hh : ∀ j, 65 ≤ j → mMove f p t j = f j := fun j hj => by
    unfold mMove
    rw [mPut_hi _ (by rw [e1]; omega) (by rw [e1]; omega) hj, mOut_hi f (by omega) hj]
  refine staleN_gen hR hV hw hh (trial_hl hV hw (fun x x0 x1 => ?_) (fun j j0 j1 hj => ?_) hh)
  · have r := sPl_rng hw.wr x
    have self : f (2 * p + 3) = x → sPl f x = p := fun z => zfind_at hp.1 hp.2 (fun j j0 j1 => by
      show f (2 * j + 3) ≠ x
      rw [← z]
      exact hw.inj j p j0 j1 hp.2) z
    unfold mMove
    by_cases c : x = f (2 * p + 3)
    · have s := self c.symm
      rw [s, if_neg (by omega), hnp p hp.1 hp.2, iNM_eq, if_pos rfl, c]
      refine sPl_self (by rw [e1]; omega) (fun k k0 k1 => ?_)
      rw [e1] at k1
      rw [(mOut_x f (p := p) k0 k1).1]
      by_cases d : p ≤ k
      · rw [if_pos d]
        exact fun z => hw.inj p (k + 1) hp.1 (by omega) (by omega) z.symm
      · rw [if_neg d]
        exact hw.inj k p k0 (by omega) hp.2
    · rw [sPl_put (by rw [e1]; omega) (by rw [e1]; omega) c]
      have so := sPl_out (x := x) hw hp
      by_cases d : sPl f x = -1
      · rw [if_neg (by omega), if_neg (by omega), d] at so
        rw [so, if_pos rfl, if_pos d]
      · have s2 : sPl f x ≠ p := fun z => by
          have w := zfind_spec (fun k => f (2 * k + 3)) x (n := f 1) hn.1
          rcases w with w | ⟨w1, w2, w3, w4⟩
          · exact d w.1
          · have w5 : f (2 * sPl f x + 3) = x := w3
            rw [z] at w5
            exact c w5.symm
        by_cases e : p < sPl f x
        · rw [if_neg s2, if_pos e] at so
          rw [so, if_neg (by omega), if_neg d, hnp _ (by omega) r.2, iNM_eq, if_neg s2, if_neg (show ¬ sPl f x < p by omega)]
          by_cases g : sPl f x - 1 < t
          · rw [if_pos g, if_pos g]
          · rw [if_neg g, if_neg g]
            omega
        · rw [if_neg s2, if_neg e] at so
          rw [so, if_neg d, if_neg d, hnp _ (by omega) r.2, iNM_eq, if_neg s2, if_pos (show sPl f x < p by omega)]
  · rw [hnp j j0 j1, iNM_eq] at hj ⊢
    have q (k : Int) (k0 : 0 ≤ k) (k1 : k < f 1) := (mPut_x (mOut f p) (p := t) (x := f (2 * p + 3)) (y := f (2 * p + 4)) (k := k) ht.1 k0 (by rw [e1]; omega)).2
    have o (k : Int) (k0 : 0 ≤ k) (k1 : k < f 1 - 1) := (mOut_x f (p := p) k0 k1).2
    unfold mMove
    by_cases d : j = p
    · rw [if_pos d, q t ht.1 ht.2, if_pos rfl, d]
    · rw [if_neg d]
      by_cases e : j < p
      · rw [if_pos e]
        by_cases g : j < t
        · rw [if_pos g, q j j0 j1, if_neg (by omega), if_neg (by omega), o j j0 (by omega), if_neg (by omega)]
        · rw [if_neg g, q (j + 1) (by omega) (by omega), if_neg (by omega), if_pos (by omega), show j + 1 - 1 = j by omega, o j j0 (by omega), if_neg (by omega)]
      · rw [if_neg e]
        by_cases g : j - 1 < t
        · rw [if_pos g, q (j - 1) (by omega) (by omega), if_neg (by omega), if_neg (by omega), o (j - 1) (by omega) (by omega), if_pos (by omega), show j - 1 + 1 = j by omega]
        · rw [if_neg g, q j j0 j1, if_neg (by omega), if_pos (by omega), o (j - 1) (by omega) (by omega), if_pos (by omega), show j - 1 + 1 = j by omega]
theorem bds_ins {f num pgs cc cn cp pn pm w : Int → Int} {cap p y : Int} (hR : RS f num pgs cc cn cp pn pm) (hw : WF f cap) (hp : 0 ≤ p ∧ p ≤ f 1) (hc : cap ≤ 1000000) (h : ∀ j, 0 ≤ j → j < f 1 + 1 → w j = zIn pgs (f 1) p y j) : zBnd w (f 0) (f 1 + 1) = sBds (mCome f p y) := by
  have hn := hw.n
  have hx := hw.nx
  have e := mCome_012 f (p := p) (y := y) hp.1
  have r := RS_come (y := y) hR hn.2 hp (by omega)
  unfold sBds
  rw [e.1, e.2.2]
  refine zBndC (fun j j0 j1 => ?_) (by omega)
  rw [h j j0 j1]
  exact (r.ex j j0 (by rw [e.1]; exact j1)).2
theorem bds_mov {f num pgs cc cn cp pn pm w : Int → Int} {cap p t : Int} (hR : RS f num pgs cc cn cp pn pm) (hw : WF f cap) (hp : 0 ≤ p ∧ p < f 1) (ht : 0 ≤ t ∧ t < f 1) (h : ∀ j, 0 ≤ j → j < f 1 → w j = zIn (zOut pgs (f 1) p) (f 1 - 1) t (pgs p) j) : zBnd w (f 0) (f 1) = sBds (mMove f p t) := by
  have hn := hw.n
  have e := mMove_012 f (p := p) (t := t) hp.1 ht.1
  have r := RS_put (p := t) (x := f (2 * p + 3)) (y := f (2 * p + 4)) (RS_out hR hn.2 hp) (by rw [mOut_1]; omega) (by rw [mOut_1]; omega) (by have := hw.rg (2 * p + 3); omega)
  rw [mOut_1] at r
  unfold sBds
  rw [e.1, e.2.2]
  refine zBndC (fun j j0 j1 => ?_) hn.1
  rw [h j j0 j1, (hR.ex p hp.1 hp.2).2]
  refine (r.ex j j0 ?_).2
  have e1 : mPut (mOut f p) t (f (2 * p + 3)) (f (2 * p + 4)) 1 = f 1 := e.1
  rw [e1]
  exact j1
/-- the best place: by staleness, then by binders -/
theorem best_step {f : Int → Int} {p to bst fs fb s b : Int} (h0 : 0 ≤ to) (hb : bst = zarg (fun t => sScore f p t) to) (h : (bst = -1 ∧ fs = 13 ∧ fb = 31) ∨ (bst ≠ -1 ∧ fs = sStaleN (mMove f p bst) ∧ fb = sBds (mMove f p bst))) (hfb : 0 ≤ fb ∧ fb ≤ 31) (hs : s = sStaleN (mMove f p to)) (hbb : b = sBds (mMove f p to)) (hbr : 0 ≤ b ∧ b ≤ 30) :
    ((fs < s ∨ (fs = s ∧ fb ≤ b)) → bst = zarg (fun t => sScore f p t) (to + 1)) ∧ ((s < fs ∨ (s = fs ∧ b < fb)) → to = zarg (fun t => sScore f p t) (to + 1)) := by
  have hsr := sStaleN_rng (mMove f p to)
  rw [← hs] at hsr
  have e := zarg_1 (fun t => sScore f p t) h0
  rw [← hb] at e
  have e1 : sScore f p to = 100 * s + b := by
    unfold sScore
    rw [hs, hbb]
  rw [e]
  show _ ∧ _
  rcases h with ⟨c1, c2, c3⟩ | ⟨c1, c2, c3⟩
  · rw [if_pos (Or.inl c1)]
    exact ⟨fun z => absurd z (by omega), fun _ => rfl⟩
  · have e2 : sScore f p bst = 100 * fs + fb := by
      unfold sScore
      rw [c2, c3]
    refine ⟨fun z => ?_, fun z => ?_⟩
    · rw [if_neg ?_]
      intro w
      rcases w with w | w
      · exact c1 w
      · have w2 : sScore f p to < sScore f p bst := w
        rw [e1, e2] at w2
        omega
    · rw [if_pos (Or.inr ?_)]
      show sScore f p to < sScore f p bst
      rw [e1, e2]
      omega
end ZLK
