/-! what the class reads, and what the reference tells -/
section ZLK
theorem mPrt_78 (f : Int → Int) (a c : Int) : mPrt f a c (32 * a + 78) = f (32 * a + 65) := by simp [mPrt]
theorem mPrt_at {f : Int → Int} {a c b : Int} (hb : 0 ≤ b ∧ b < c) : mPrt f a c (32 * a + 3 * b + 79) = sLet f a b ∧ mPrt f a c (32 * a + 3 * b + 80) = f (32 * a + 2 * b + 67) ∧ mPrt f a c (32 * a + 3 * b + 81) = b2i (sLost f a b) := by
  simp only [mPrt]
  refine ⟨?_, ?_, ?_⟩
  · rw [if_neg (by omega), if_pos (by omega), if_pos (by omega), show (32 * a + 3 * b + 79 - 32 * a - 79) / 3 = b by omega]
  · rw [if_neg (by omega), if_pos (by omega), if_neg (by omega), if_pos (by omega), show (32 * a + 3 * b + 80 - 32 * a - 79) / 3 = b by omega]
  · rw [if_neg (by omega), if_pos (by omega), if_neg (by omega), if_neg (by omega), show (32 * a + 3 * b + 81 - 32 * a - 79) / 3 = b by omega]
/-- marks of the first c citations -/
def iPm (pm lt cp lo : Int → Int) (a c : Int) : Int → Int := fun j => if 6 * a ≤ j ∧ j < 6 * a + c then 122 * lt j + 2 * cp j + lo j + 122 else pm j
theorem iPm_0 (pm lt cp lo : Int → Int) (a : Int) : iPm pm lt cp lo a 0 = pm := by
  funext j
  simp only [iPm]
  rw [if_neg (by omega)]
theorem iPm_1 {pm lt cp lo : Int → Int} {a c : Int} (hc : 0 ≤ c) : zu (iPm pm lt cp lo a c) (6 * a + c) (122 * lt (6 * a + c) + 2 * cp (6 * a + c) + lo (6 * a + c) + 122) = iPm pm lt cp lo a (c + 1) := by
  funext j
  simp only [zu, iPm]
  by_cases q : j = 6 * a + c
  · subst q
    rw [if_pos rfl, if_pos (by omega)]
  · rw [if_neg q]
    by_cases q2 : 6 * a ≤ j ∧ j < 6 * a + c
    · rw [if_pos q2, if_pos (by omega)]
    · rw [if_neg q2, if_neg (by omega)]
theorem WF_print {f : Int → Int} {cap a : Int} (hw : WF f cap) (ha : 0 ≤ a ∧ a < 12) : WF (mPrint f a) cap := by
  have hn := hw.n
  have q := hw.pa a ha.1 ha.2
  have o (j : Int) (h : j < 32 * a + 78 ∨ 32 * a + 97 ≤ j) : mPrint f a j = f j := mPrt_out (by omega)
  have e2 := o 2 (by omega)
  refine WF_ci hw (mPrt_rg hw.wr a _) (fun j j0 j1 _ => o j (by omega)) (by rw [e2]; have := hw.nx; omega) (fun a2 a0 a1 => ?_) (fun a2 b a0 a1 b0 b1 => ?_) (fun a2 b a0 a1 b0 b1 => ?_)
  · have q2 := hw.pa a2 a0 a1
    rw [o (32 * a2 + 65) (by omega)]
    by_cases c : a2 = a
    · subst c
      have e : mPrint f a2 (32 * a2 + 78) = f (32 * a2 + 65) := mPrt_78 f a2 _
      rw [e]
      omega
    · rw [o (32 * a2 + 78) (by omega)]
      exact q2
  · have q2 := hw.pa a2 a0 a1
    rw [o (32 * a2 + 65) (by omega)] at b1
    rw [o _ (by omega), o (32 * a2 + 2 * b + 67) (by omega), e2]
    exact hw.ci a2 b a0 a1 b0 b1
  · have q2 := hw.pa a2 a0 a1
    by_cases c : a2 = a
    · subst c
      have e : mPrint f a2 (32 * a2 + 78) = f (32 * a2 + 65) := mPrt_78 f a2 _
      rw [e] at b1
      have p := mPrt_at (f := f) (a := a2) (c := f (32 * a2 + 65)) ⟨b0, b1⟩
      have r := sLet_rng hw.wr a2 b
      have r2 := hw.ci a2 b a0 a1 b0 b1
      have r3 := b2i_rng (sLost f a2 b)
      unfold mPrint
      rw [p.1, p.2.1, p.2.2]
      omega
    · rw [o (32 * a2 + 78) (by omega)] at b1
      rw [o _ (by omega), o (32 * a2 + 3 * b + 80) (by omega), o (32 * a2 + 3 * b + 81) (by omega)]
      exact hw.pr a2 b a0 a1 b0 b1
theorem RS_print {f num pgs cc cn cp pn pm lt lo vb vt vf : Int → Int} {cap a : Int} (hR : RS f num pgs cc cn cp pn pm) (hV : VR f vb vt vf lt lo) (hw : WF f cap) (ha : 0 ≤ a ∧ a < 12) : RS (mPrint f a) num pgs cc cn cp (zu pn a (cc a)) (iPm pm lt cp lo a (cc a)) := by
  have hn := hw.n
  have q := hw.pa a ha.1 ha.2
  have o (j : Int) (h : j < 32 * a + 78 ∨ 32 * a + 97 ≤ j) : mPrint f a j = f j := mPrt_out (by omega)
  have ec := (hR.pa a ha.1 ha.2).1
  have e78 : mPrint f a (32 * a + 78) = f (32 * a + 65) := mPrt_78 f a _
  refine ⟨fun k k0 k1 => ?_, fun a2 a0 a1 => ⟨?_, ?_⟩, fun a2 b a0 a1 b0 b1 => ?_, fun a2 b a0 a1 b0 b1 => ?_, hR.r1, hR.r2, Rg_zu hR.r3 (by omega), fun j => ?_⟩
  · rw [o 1 (by omega)] at k1
    rw [o _ (by omega), o (2 * k + 4) (by omega)]
    exact hR.ex k k0 k1
  · rw [o _ (by omega)]
    exact (hR.pa a2 a0 a1).1
  · by_cases c : a2 = a
    · subst c
      rw [zu_eq, e78, ec]
    · rw [zu_ne _ _ c, o _ (by omega)]
      exact (hR.pa a2 a0 a1).2
  · have q2 := hw.pa a2 a0 a1
    rw [o (32 * a2 + 65) (by omega)] at b1
    rw [o _ (by omega), o (32 * a2 + 2 * b + 67) (by omega)]
    exact hR.ci a2 b a0 a1 b0 b1
  · have q2 := hw.pa a2 a0 a1
    simp only [iPm]
    by_cases c : a2 = a
    · subst c
      rw [e78] at b1
      have p := mPrt_at (f := f) (a := a2) (c := f (32 * a2 + 65)) ⟨b0, b1⟩
      have v := hV.2.1 a2 b a0 a1 b0 b1
      have e := hR.ci a2 b a0 a1 b0 b1
      unfold mPrint
      rw [if_pos (by omega), p.1, p.2.1, p.2.2, v.1, v.2, e.2]
    · rw [o (32 * a2 + 78) (by omega)] at b1
      rw [if_neg (by omega), o (32 * a2 + 3 * b + 79) (by omega), o (32 * a2 + 3 * b + 80) (by omega), o (32 * a2 + 3 * b + 81) (by omega)]
      exact hR.pr a2 b a0 a1 b0 b1
  · simp only [iPm]
    split
    · rename_i c
      have hb : j = 6 * a + (j - 6 * a) := by omega
      have v := hV.2.2.1 j
      have v2 := hV.2.2.2 j
      have e := hR.hcp hw a (j - 6 * a) ha.1 ha.2 (by omega) (by omega)
      rw [← hb] at e
      omega
    · exact hR.r4 j
/-- exhibits and citations as they were: the view is as it was -/
theorem VR_same {f h vb vt vf lt lo : Int → Int} {cap : Int} (hV : VR f vb vt vf lt lo) (hw : WF f cap) (h0 : ∀ j, 0 ≤ j → j < 65 → h j = f j) (h1 : ∀ a d, 0 ≤ a → a < 12 → 65 ≤ d → d < 78 → h (32 * a + d) = f (32 * a + d)) : VR h vb vt vf lt lo ∧ sBds h = sBds f := by
  have hn := hw.n
  have e1 := h0 1 (by omega) (by omega)
  have eS : ∀ j, 0 ≤ j → j < f 1 → sPg h j = sPg f j := fun j j0 j1 => h0 (2 * j + 4) (by omega) (by omega)
  refine ⟨⟨fun k k0 k1 => ?_, fun a b a0 a1 b0 b1 => ?_, hV.2.2.1, hV.2.2.2⟩, ?_⟩
  · rw [e1] at k1
    rw [h0 0 (by omega) (by omega)]
    have q := zlieC' (lim := f 0) eS k0 k1
    rw [q.1, q.2.1, q.2.2.2.2]
    exact hV.1 k k0 k1
  · have p := hw.pa a a0 a1
    rw [h1 a 65 a0 a1 (by omega) (by omega)] at b1
    have c1 : h (32 * a + 2 * b + 66) = f (32 * a + 2 * b + 66) := by
      rw [show 32 * a + 2 * b + 66 = 32 * a + (2 * b + 66) by omega]
      exact h1 a _ a0 a1 (by omega) (by omega)
    have c2 : h (32 * a + 2 * b + 67) = f (32 * a + 2 * b + 67) := by
      rw [show 32 * a + 2 * b + 67 = 32 * a + (2 * b + 67) by omega]
      exact h1 a _ a0 a1 (by omega) (by omega)
    rw [sLet_cong e1 (fun k k0 k1 => h0 _ (by omega) (by omega)) c1, sLost_cong hn.1 e1 (fun k k0 k1 => h0 _ (by omega) (by omega)) (fun k k0 k1 => h0 _ (by omega) (by omega)) c1 c2]
    exact hV.2.1 a b a0 a1 b0 b1
  · unfold sBds
    rw [h0 0 (by omega) (by omega), e1]
    exact zBndC eS hn.1
theorem IW_pr {g : zG} {C0 C' : Nat → va_E} {f past tx num pgs cc cn cp pn pm vb vt vf lt lo : Int → Int} {k ty cap a : Int} (hB : wB g C0) (hT : wT g C0) (hX : wX g C0 ty tx) (hH : wH g C0 k past) (hag : ∀ q, (q = 0 ∨ (18 ≤ q ∧ q < 94)) → C' q = C0 q) (hw : WF f cap) (ha : 0 ≤ a ∧ a < 12)
    (hL : sL g C' (f 1) (f 2) (f 0) num pgs cc cn cp pn pm) (hR : RS (mPrint f a) num pgs cc cn cp pn pm) (hV : sV g C' (sBds f) vb vt vf lt lo) (hVR : VR f vb vt vf lt lo) : IW g C' (mPrint f a) k past ty tx := by
  have o (j : Int) (h : j < 32 * a + 78 ∨ 32 * a + 97 ≤ j) : mPrint f a j = f j := by
    have q := hw.pa a ha.1 ha.2
    exact mPrt_out (by omega)
  have s := VR_same (h := mPrint f a) hVR hw (fun j j0 j1 => o j (by omega)) (fun a2 d a0 a1 d0 d1 => o _ (by omega))
  refine ⟨wB_cong hB (fun q hq => hag q (by omega)), ⟨num, pgs, cc, cn, cp, pn, pm, ?_, hR⟩, ⟨vb, vt, vf, lt, lo, ?_, s.1⟩, wT_cong hT (fun q hq => hag q (by omega)), wH_cong hH (fun q hq => hag q (by omega)), wX_cong hX (fun q hq => hag q (by omega))⟩
  · rw [o 1 (by omega), o 2 (by omega), o 0 (by omega)]
    exact hL
  · rw [s.2]
    exact hV
theorem look_co {f num pgs cc cn cp pn pm lt lo vb vt vf : Int → Int} {cap p : Int} (hR : RS f num pgs cc cn cp pn pm) (hV : VR f vb vt vf lt lo) (hw : WF f cap) : iCo cc lt p = sCby f p 1 := by
  unfold iCo sCby
  refine zsum_cong (fun a a0 a1 => ?_)
  rw [(hR.pa a a0 a1).1]
  refine zsum_cong (fun b b0 b1 => ?_)
  unfold sCb
  rw [(hV.2.1 a b a0 a1 b0 b1).1]
  congr 1
  exact decide_eq_decide.mpr ⟨fun z => ⟨z, Or.inl (by decide)⟩, fun z => z.1⟩
theorem look_go {f num pgs cc cn cp pn pm lt lo vb vt vf : Int → Int} {cap p : Int} (hR : RS f num pgs cc cn cp pn pm) (hV : VR f vb vt vf lt lo) (hw : WF f cap) : iGo cc lt lo p = sCby f p 0 := by
  unfold iGo sCby iGi
  refine zsum_cong (fun a a0 a1 => ?_)
  rw [(hR.pa a a0 a1).1]
  refine zsum_cong (fun b b0 b1 => ?_)
  have v := hV.2.1 a b a0 a1 b0 b1
  unfold sCb
  rw [v.1, v.2]
  congr 1
  refine decide_eq_decide.mpr ⟨fun z => ⟨z.1, Or.inr (b2i_eq0.mp z.2)⟩, fun z => ⟨z.1, ?_⟩⟩
  rcases z.2 with h | h
  · exact absurd rfl h
  · exact b2i_eq0.mpr h
theorem look_gi {f num pgs cc cn cp pn pm lt lo vb vt vf : Int → Int} {cap p a : Int} (hR : RS f num pgs cc cn cp pn pm) (hV : VR f vb vt vf lt lo) (hw : WF f cap) (a0 : 0 ≤ a) (a1 : a < 12) : (0 < iGi cc lt lo a p) ↔ zany (fun b => sTb f p a b) (f (32 * a + 65)) = true := by
  have q := hw.pa a a0 a1
  unfold iGi
  rw [(hR.pa a a0 a1).1, zany_iff]
  have key : ∀ n : Nat, (n : Int) ≤ f (32 * a + 65) → (0 < zsum (fun b => b2i (decide (lt (6 * a + b) = p ∧ lo (6 * a + b) = 0))) n ↔ ∃ j : Int, 0 ≤ j ∧ j < n ∧ sTb f p a j = true) ∧ 0 ≤ zsum (fun b => b2i (decide (lt (6 * a + b) = p ∧ lo (6 * a + b) = 0))) n := by
    intro n
    induction n with
    | zero => exact fun _ => ⟨⟨fun z => absurd z (by show ¬ (0 : Int) < 0; omega), fun ⟨j, j0, j1, _⟩ => by omega⟩, by show (0 : Int) ≤ 0; omega⟩
    | succ n ih =>
      intro hn
      obtain ⟨i1, i2⟩ := ih (by omega)
      have v := hV.2.1 a n a0 a1 (by omega) (by omega)
      rw [show ((n + 1 : Nat) : Int) = (n : Int) + 1 by omega, zsum_1 _ (by omega)]
      show (0 < zsum _ (n : Int) + b2i (decide (lt (6 * a + n) = p ∧ lo (6 * a + n) = 0)) ↔ _) ∧ 0 ≤ zsum _ (n : Int) + b2i (decide (lt (6 * a + n) = p ∧ lo (6 * a + n) = 0))
      have et : sTb f p a n = decide (lt (6 * a + n) = p ∧ lo (6 * a + n) = 0) := by
        unfold sTb
        rw [v.1, v.2, Bool.eq_iff_iff, decide_eq_true_iff, decide_eq_true_iff, b2i_eq0]
      rw [← et]
      have r := b2i_rng (sTb f p a n)
      refine ⟨⟨fun z => ?_, fun ⟨j, j0, j1, j2⟩ => ?_⟩, by omega⟩
      · by_cases c : 0 < zsum (fun b => b2i (decide (lt (6 * a + b) = p ∧ lo (6 * a + b) = 0))) (n : Int)
        · obtain ⟨j, j0, j1, j2⟩ := i1.mp c
          exact ⟨j, j0, by omega, j2⟩
        · exact ⟨n, by omega, by omega, b2i_eq1.mp (by omega)⟩
      · by_cases c : j = n
        · rw [c] at j2
          rw [j2, b2i_t]
          omega
        · have := i1.mpr ⟨j, j0, by omega, j2⟩
          omega
  have k2 := (key (f (32 * a + 65)).toNat (by omega)).1
  rw [Int.toNat_of_nonneg q.1] at k2
  exact k2
theorem zsum_c (c : Int) {n : Int} (hn : 0 ≤ n) : zsum (fun _ => c) n = n * c := by
  obtain ⟨m, rfl⟩ : ∃ m : Nat, n = (m : Int) := ⟨n.toNat, by omega⟩
  clear hn
  induction m with
  | zero => simp [zsum, zsumF]
  | succ m ih =>
    rw [show ((m + 1 : Nat) : Int) = (m : Int) + 1 by omega, zsum_1 _ (by omega), ih, Int.add_mul]
    omega
theorem look_ce {f num pgs cc cn cp pn pm lt lo vb vt vf : Int → Int} {cap : Int} (hR : RS f num pgs cc cn cp pn pm) (hV : VR f vb vt vf lt lo) (hw : WF f cap) : iCe cc lt lo (f 1) + sUnc f = f 1 := by
  have hn := hw.n
  have s := zsum_sub (h1 := fun k => b2i (decide (0 < iGo cc lt lo k))) (h2 := fun k => b2i (decide (sCby f k 0 = 0))) (h3 := fun _ => 1) hn.1 (fun j j0 j1 => by
    show b2i (decide (0 < iGo cc lt lo j)) + b2i (decide (sCby f j 0 = 0)) = 1
    rw [look_go hR hV hw]
    have r := sCby_rng hw.wr j 0
    by_cases c : sCby f j 0 = 0
    · rw [b2i_0 (by omega), b2i_1 c]
      omega
    · rw [b2i_1 (by omega), b2i_0 c]
      omega)
  rw [zsum_c 1 hn.1] at s
  unfold iCe sUnc
  omega
theorem look_li {f num pgs cc cn cp pn pm lt lo vb vt vf : Int → Int} {cap a : Int} (hR : RS f num pgs cc cn cp pn pm) (hV : VR f vb vt vf lt lo) (hw : WF f cap) (a0 : 0 ≤ a) (a1 : a < 12) : iLi cc lo a = sLostN f a := by
  unfold iLi sLostN
  rw [(hR.pa a a0 a1).1]
  refine zsum_cong (fun b b0 b1 => ?_)
  show b2i (decide (lo (6 * a + b) ≠ 0)) = b2i (sLost f a b)
  rw [(hV.2.1 a b a0 a1 b0 b1).2]
  cases sLost f a b <;> rfl
theorem look_al {f num pgs cc cn cp pn pm lt lo vb vt vf : Int → Int} {cap : Int} (hR : RS f num pgs cc cn cp pn pm) (hV : VR f vb vt vf lt lo) (hw : WF f cap) : iAl cc lo = sAllLost f :=
  zsum_cong (fun a a0 a1 => look_li hR hV hw a0 a1)
/-- staleness, where the exhibits stood at new places: h is the reference's row then -/
theorem stale_gen {f h num pgs cc cn cp pn pm lt lo vb vt vf np : Int → Int} {cap a : Int} (hR : RS f num pgs cc cn cp pn pm) (hV : VR f vb vt vf lt lo) (hw : WF f cap) (hh : ∀ j, 65 ≤ j → h j = f j)
    (hl : ∀ a b, 0 ≤ a → a < 12 → 0 ≤ b → b < f (32 * a + 65) → sLet h a b = iNl np lt (6 * a + b) ∧ sLost h a b = decide (iNl np lt (6 * a + b) = -1 ∨ lo (6 * a + b) ≠ 0)) (a0 : 0 ≤ a) (a1 : a < 12) : iSt np lt lo cc cp pn pm a = sStale h a := by
  have q := hw.pa a a0 a1
  have p := hR.pa a a0 a1
  unfold iSt sStale
  rw [p.1, p.2, hh (32 * a + 78) (by omega), hh (32 * a + 65) (by omega)]
  by_cases c : f (32 * a + 78) = f (32 * a + 65)
  · congr 1
    refine zany_cong (fun b b0 b1 => ?_)
    have e := hR.ci a b a0 a1 b0 b1
    have e2 := hR.pr a b a0 a1 b0 (by omega)
    have l := hl a b a0 a1 b0 b1
    have w1 := hw.ci a b a0 a1 b0 b1
    have w2 := hw.pr a b a0 a1 b0 (by omega)
    unfold iMis sMis iNx
    rw [hh (32 * a + 3 * b + 79) (by omega), hh (32 * a + 3 * b + 80) (by omega), hh (32 * a + 3 * b + 81) (by omega), hh (32 * a + 2 * b + 67) (by omega), l.1, l.2, e.2, e2]
    have r := b2i_rng (decide (iNl np lt (6 * a + b) = -1 ∨ lo (6 * a + b) ≠ 0))
    generalize b2i (decide (iNl np lt (6 * a + b) = -1 ∨ lo (6 * a + b) ≠ 0)) = X at *
    generalize iNl np lt (6 * a + b) = L at *
    exact decide_eq_decide.mpr ⟨fun z => by omega, fun z => by omega⟩
  · rw [decide_eq_true c, Bool.true_or, Bool.true_or]
theorem stale_same {f num pgs cc cn cp pn pm lt lo vb vt vf : Int → Int} {cap a : Int} (hR : RS f num pgs cc cn cp pn pm) (hV : VR f vb vt vf lt lo) (hw : WF f cap) (a0 : 0 ≤ a) (a1 : a < 12) : iSt (fun k => k) lt lo cc cp pn pm a = sStale f a := by
  refine stale_gen hR hV hw (fun _ _ => rfl) (fun a b a0 a1 b0 b1 => ?_) a0 a1
  have v := hV.2.1 a b a0 a1 b0 b1
  have e : iNl (fun k => k) lt (6 * a + b) = sLet f a b := by
    unfold iNl
    rw [v.1]
    split
    · rename_i c
      exact c.symm
    · rfl
  rw [e, v.2]
  refine ⟨rfl, ?_⟩
  rw [Bool.eq_iff_iff, decide_eq_true_iff, b2i_ne0]
  unfold sLost
  rw [decide_eq_true_iff]
  exact ⟨fun z => Or.inr z, fun z => z.elim Or.inl id⟩
theorem staleN_gen {f h num pgs cc cn cp pn pm lt lo vb vt vf np : Int → Int} {cap : Int} (hR : RS f num pgs cc cn cp pn pm) (hV : VR f vb vt vf lt lo) (hw : WF f cap) (hh : ∀ j, 65 ≤ j → h j = f j)
    (hl : ∀ a b, 0 ≤ a → a < 12 → 0 ≤ b → b < f (32 * a + 65) → sLet h a b = iNl np lt (6 * a + b) ∧ sLost h a b = decide (iNl np lt (6 * a + b) = -1 ∨ lo (6 * a + b) ≠ 0)) : iSn np lt lo cc cp pn pm = sStaleN h :=
  zsum_cong (fun a a0 a1 => by
    show b2i (iSt np lt lo cc cp pn pm a) = b2i (sStale h a)
    rw [stale_gen hR hV hw hh hl a0 a1])
theorem staleN_same {f num pgs cc cn cp pn pm lt lo vb vt vf : Int → Int} {cap : Int} (hR : RS f num pgs cc cn cp pn pm) (hV : VR f vb vt vf lt lo) (hw : WF f cap) : iSn (fun k => k) lt lo cc cp pn pm = sStaleN f :=
  zsum_cong (fun a a0 a1 => by
    show b2i (iSt (fun k => k) lt lo cc cp pn pm a) = b2i (sStale f a)
    rw [stale_same hR hV hw a0 a1])
/-- what a letter is then, from a search that is told -/
theorem trial_hl {f h lt lo vb vt vf np : Int → Int} {cap : Int} (hV : VR f vb vt vf lt lo) (hw : WF f cap) (h1 : ∀ x, sPl h x = if sPl f x = -1 then -1 else np (sPl f x)) (h2 : ∀ j, 0 ≤ j → j < f 1 → np j ≠ -1 → h (2 * np j + 4) = f (2 * j + 4)) (hh : ∀ j, 65 ≤ j → h j = f j) :
    ∀ a b, 0 ≤ a → a < 12 → 0 ≤ b → b < f (32 * a + 65) → sLet h a b = iNl np lt (6 * a + b) ∧ sLost h a b = decide (iNl np lt (6 * a + b) = -1 ∨ lo (6 * a + b) ≠ 0) := by
  intro a b a0 a1 b0 b1
  have v := hV.2.1 a b a0 a1 b0 b1
  have r := sLet_rng hw.wr a b
  have e : sLet h a b = iNl np lt (6 * a + b) := by
    unfold iNl
    rw [v.1]
    unfold sLet
    rw [hh _ (by omega)]
    exact h1 _
  refine ⟨e, ?_⟩
  have n : iNl np lt (6 * a + b) = if sLet f a b = -1 then -1 else np (sLet f a b) := by
    unfold iNl
    rw [v.1]
  have hb : (b2i (sLost f a b) ≠ 0) ↔ (sLet f a b = -1 ∨ f (2 * sLet f a b + 4) < f (32 * a + 2 * b + 67)) := by
    rw [b2i_ne0]
    unfold sLost
    exact decide_eq_true_iff
  have hs : sLost h a b = decide (sLet h a b = -1 ∨ h (2 * sLet h a b + 4) < h (32 * a + 2 * b + 67)) := rfl
  rw [hs, e, v.2, hh (32 * a + 2 * b + 67) (by omega)]
  refine decide_eq_decide.mpr ?_
  rw [hb, n]
  by_cases c : sLet f a b = -1
  · rw [if_pos c]
    exact ⟨fun _ => Or.inl rfl, fun _ => Or.inl rfl⟩
  · rw [if_neg c]
    by_cases d : np (sLet f a b) = -1
    · exact ⟨fun _ => Or.inl d, fun _ => Or.inl d⟩
    · rw [h2 _ (by omega) r.2 d]
      omega
theorem sPl_put {f : Int → Int} {p x y z : Int} (hn : 0 ≤ f 1) (hp : 0 ≤ p ∧ p ≤ f 1) (hz : z ≠ x) : sPl (mPut f p x y) z = if sPl f z = -1 then -1 else if sPl f z < p then sPl f z else sPl f z + 1 := by
  unfold sPl
  rw [mPut_1]
  have q (k : Int) (k0 : 0 ≤ k) (k1 : k ≤ f 1) := (mPut_x f (p := p) (x := x) (y := y) hp.1 k0 k1).1
  rcases zfind_spec (fun k => f (2 * k + 3)) z (n := f 1) hn with ⟨s1, s2⟩ | ⟨s1, s2, s3, s4⟩
  · rw [s1, if_pos rfl]
    refine zfind_no (fun j j0 j1 => ?_)
    show mPut f p x y (2 * j + 3) ≠ z
    rw [q j j0 (by omega)]
    split
    · exact fun w => hz w.symm
    · split
      · exact s2 (j - 1) (by omega) (by omega)
      · exact s2 j j0 (by omega)
  · generalize zfind (fun k => f (2 * k + 3)) z (f 1) = r at *
    have s3' : f (2 * r + 3) = z := s3
    rw [if_neg (by omega)]
    by_cases d : r < p
    · rw [if_pos d]
      refine zfind_at s1 (by omega) (fun j j0 j1 => ?_) ?_
      · show mPut f p x y (2 * j + 3) ≠ z
        rw [q j j0 (by omega), if_neg (by omega), if_neg (by omega)]
        exact s4 j j0 j1
      · show mPut f p x y (2 * r + 3) = z
        rw [q r s1 (by omega), if_neg (by omega), if_neg (by omega)]
        exact s3'
    · rw [if_neg d]
      refine zfind_at (by omega) (by omega) (fun j j0 j1 => ?_) ?_
      · show mPut f p x y (2 * j + 3) ≠ z
        rw [q j j0 (by omega)]
        split
        · exact fun w => hz w.symm
        · split
          · exact s4 (j - 1) (by omega) (by omega)
          · exact s4 j j0 (by omega)
      · show mPut f p x y (2 * (r + 1) + 3) = z
        rw [q _ (by omega) (by omega), if_neg (by omega), if_pos (by omega), show r + 1 - 1 = r by omega]
        exact s3'
end ZLK
