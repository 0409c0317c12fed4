/-! the class's state in the reference's words -/
section ZRA
def Rg (h : Int → Int) : Prop := ∀ j, -2147483648 ≤ h j ∧ h j < 2147483648
def RS (f num pgs cc cn cp pn pm : Int → Int) : Prop :=
  (∀ k, 0 ≤ k → k < f 1 → num k = f (2 * k + 3) ∧ pgs k = f (2 * k + 4)) ∧
  (∀ a, 0 ≤ a → a < 12 → cc a = f (32 * a + 65) ∧ pn a = f (32 * a + 78)) ∧
  (∀ a b, 0 ≤ a → a < 12 → 0 ≤ b → b < f (32 * a + 65) → cn (6 * a + b) = f (32 * a + 2 * b + 66) ∧ cp (6 * a + b) = f (32 * a + 2 * b + 67)) ∧
  (∀ a b, 0 ≤ a → a < 12 → 0 ≤ b → b < f (32 * a + 78) → pm (6 * a + b) = 122 * f (32 * a + 3 * b + 79) + 2 * f (32 * a + 3 * b + 80) + f (32 * a + 3 * b + 81) + 122) ∧
  Rg num ∧ Rg cn ∧ Rg pn ∧ Rg pm
def VR (f vb vt vf lt lo : Int → Int) : Prop :=
  (∀ k, 0 ≤ k → k < f 1 → vb k = zBn (sPg f) (f 0) k ∧ vt k = zTb (sPg f) (f 0) k ∧ vf k = zFp (sPg f) (f 0) k) ∧
  (∀ a b, 0 ≤ a → a < 12 → 0 ≤ b → b < f (32 * a + 65) → lt (6 * a + b) = sLet f a b ∧ lo (6 * a + b) = b2i (sLost f a b)) ∧
  (∀ j, -1 ≤ lt j ∧ lt j ≤ 29) ∧ (∀ j, lo j = 0 ∨ lo j = 1)
/-- the cells of a saved state, from b on; of the state that lives -/
def sAt (g : zG) (C : Nat → va_E) (b : Nat) (n1 n2 n3 : Int) (num pgs cc cn cp pn pm : Int → Int) : Prop :=
  C b = .inr (4, [.ref (aD g (b + 1)), .ref (aD g (b + 4)), .ref (aD g (b + 8))]) ∧
  C (b + 1) = .inr (1, [.ref (aD g (b + 2)), .ref (aD g (b + 3)), .int (iZ n1), .int (iZ n2), .int (iZ n3)]) ∧
  C (b + 2) = eI g 30 num ∧ C (b + 3) = eI g 30 pgs ∧
  C (b + 4) = .inr (0, [.ref (aD g (b + 5)), .ref (aD g (b + 6)), .ref (aD g (b + 7))]) ∧
  C (b + 5) = eI g 12 cc ∧ C (b + 6) = eI g 72 cn ∧ C (b + 7) = eI g 72 cp ∧
  C (b + 8) = .inr (3, [.ref (aD g (b + 9)), .ref (aD g (b + 10))]) ∧ C (b + 9) = eI g 12 pn ∧ C (b + 10) = eI g 72 pm
def sL (g : zG) (C : Nat → va_E) (n1 n2 n3 : Int) (num pgs cc cn cp pn pm : Int → Int) : Prop :=
  C 1 = .inr (4, [.ref (aD g 2), .ref (aD g 5), .ref (aD g 9)]) ∧
  C 2 = .inr (1, [.ref (aD g 3), .ref (aD g 4), .int (iZ n1), .int (iZ n2), .int (iZ n3)]) ∧
  C 3 = eI g 30 num ∧ C 4 = eI g 30 pgs ∧
  C 5 = .inr (0, [.ref (aD g 6), .ref (aD g 7), .ref (aD g 8)]) ∧
  C 6 = eI g 12 cc ∧ C 7 = eI g 72 cn ∧ C 8 = eI g 72 cp ∧
  C 9 = .inr (3, [.ref (aD g 10), .ref (aD g 11)]) ∧ C 10 = eI g 12 pn ∧ C 11 = eI g 72 pm
def sV (g : zG) (C : Nat → va_E) (nb : Int) (vb vt vf lt lo : Int → Int) : Prop :=
  C 12 = .inr (7, [.ref (aD g 13), .ref (aD g 14), .ref (aD g 15), .ref (aD g 16), .ref (aD g 17), .int (iZ nb)]) ∧
  C 13 = eI g 30 vb ∧ C 14 = eI g 30 vt ∧ C 15 = eI g 30 vf ∧ C 16 = eI g 72 lt ∧ C 17 = eZ g 72 lo
def wB (g : zG) (C : Nat → va_E) : Prop :=
  C 0 = .inr (8, [.ref (aD g 1), .ref (aD g 12), .ref (aD g 18), .ref (aD g 21), .ref (aD g 23), .ref (aD g 27)]) ∧ C 27 = eI g 30 (fun k => k)
def wL (g : zG) (C : Nat → va_E) (f : Int → Int) : Prop := ∃ num pgs cc cn cp pn pm : Int → Int, sL g C (f 1) (f 2) (f 0) num pgs cc cn cp pn pm ∧ RS f num pgs cc cn cp pn pm
def wV (g : zG) (C : Nat → va_E) (f : Int → Int) : Prop := ∃ vb vt vf lt lo : Int → Int, sV g C (sBds f) vb vt vf lt lo ∧ VR f vb vt vf lt lo
def wT (g : zG) (C : Nat → va_E) : Prop := ∃ (tc : Int) (np tp : Int → Int), C 18 = .inr (6, [.ref (aD g 19), .ref (aD g 20), .int (iZ tc)]) ∧ C 19 = eI g 30 np ∧ C 20 = eI g 31 tp ∧ (∀ j, 0 ≤ j → j ≤ 29 → -1 ≤ np j ∧ np j ≤ 30)
def sAny (g : zG) (C : Nat → va_E) (b : Nat) : Prop := ∃ (n1 n2 n3 : Int) (num pgs cc cn cp pn pm : Int → Int), sAt g C b n1 n2 n3 num pgs cc cn cp pn pm
def wS (g : zG) (C : Nat → va_E) (b : Nat) (f : Int → Int) : Prop := ∃ num pgs cc cn cp pn pm : Int → Int, sAt g C b (f 1) (f 2) (f 0) num pgs cc cn cp pn pm ∧ RS f num pgs cc cn cp pn pm
def slot (old i : Int) : Nat := (28 + 11 * ((old + i) % 6)).toNat
def wH (g : zG) (C : Nat → va_E) (k : Int) (past : Int → Int) : Prop := ∃ old : Int, C 21 = .inr (2, [.ref (aD g 22), .int (iZ old), .int (iZ k)]) ∧ C 22 = eS g 6 (fun k => some (aD g (28 + 11 * k))) ∧ (0 ≤ old ∧ old ≤ 5) ∧
  (∀ i : Int, 0 ≤ i → i < 6 → sAny g C (slot old i)) ∧ (∀ i : Int, 0 ≤ i → i < k → wS g C (slot old i) (mPast past i))
def wX (g : zG) (C : Nat → va_E) (ty : Int) (tx : Int → Int) : Prop := ∃ (cur stp : Int) (pl px : Int → Int), C 23 = .inr (5, [.ref (aD g 24), .int (iZ ty), .ref (aD g 25), .ref (aD g 26), .int (iZ cur), .int (iZ stp)]) ∧ C 24 = eI g 60 tx ∧ C 25 = eI g 6 pl ∧ C 26 = eI g 6 px ∧ (∀ j, 0 ≤ px j ∧ px j ≤ 60)
/-- the class's object holds what the reference's rows say -/
def IW (g : zG) (C : Nat → va_E) (f : Int → Int) (k : Int) (past : Int → Int) (ty : Int) (tx : Int → Int) : Prop := wB g C ∧ wL g C f ∧ wV g C f ∧ wT g C ∧ wH g C k past ∧ wX g C ty tx
/-- what the reference's rows keep -/
def PW (cap : Int) (f : Int → Int) (k : Int) (past : Int → Int) (ty : Int) (tx : Int → Int) : Prop := WF f cap ∧ (0 ≤ k ∧ k ≤ 6) ∧ (∀ i, 0 ≤ i → i < k → WF (mPast past i) cap) ∧ (0 ≤ ty ∧ ty ≤ 60) ∧ (∀ j, 0 ≤ j → j < ty → 33 ≤ tx j ∧ tx j ≤ 126) ∧ Rg tx ∧ Rg past ∧ cap ≤ 100000
/-- the cells that are not the class's are as they were -/
def zSame (C C' : Nat → va_E) : Prop := ∀ q, 94 ≤ q → C' q = C q
theorem zSame_rf (C : Nat → va_E) : zSame C C := fun _ _ => rfl
theorem zSame_tr {C C1 C2 : Nat → va_E} (h1 : zSame C C1) (h2 : zSame C1 C2) : zSame C C2 := fun q hq => (h2 q hq).trans (h1 q hq)
theorem RS.ex {f num pgs cc cn cp pn pm : Int → Int} (h : RS f num pgs cc cn cp pn pm) : ∀ k, 0 ≤ k → k < f 1 → num k = f (2 * k + 3) ∧ pgs k = f (2 * k + 4) := h.1
theorem RS.pa {f num pgs cc cn cp pn pm : Int → Int} (h : RS f num pgs cc cn cp pn pm) : ∀ a, 0 ≤ a → a < 12 → cc a = f (32 * a + 65) ∧ pn a = f (32 * a + 78) := h.2.1
theorem RS.ci {f num pgs cc cn cp pn pm : Int → Int} (h : RS f num pgs cc cn cp pn pm) : ∀ a b, 0 ≤ a → a < 12 → 0 ≤ b → b < f (32 * a + 65) → cn (6 * a + b) = f (32 * a + 2 * b + 66) ∧ cp (6 * a + b) = f (32 * a + 2 * b + 67) := h.2.2.1
theorem RS.pr {f num pgs cc cn cp pn pm : Int → Int} (h : RS f num pgs cc cn cp pn pm) : ∀ a b, 0 ≤ a → a < 12 → 0 ≤ b → b < f (32 * a + 78) → pm (6 * a + b) = 122 * f (32 * a + 3 * b + 79) + 2 * f (32 * a + 3 * b + 80) + f (32 * a + 3 * b + 81) + 122 := h.2.2.2.1
theorem RS.r1 {f num pgs cc cn cp pn pm : Int → Int} (h : RS f num pgs cc cn cp pn pm) : ∀ j, -2147483648 ≤ num j ∧ num j < 2147483648 := h.2.2.2.2.1
theorem RS.r2 {f num pgs cc cn cp pn pm : Int → Int} (h : RS f num pgs cc cn cp pn pm) : ∀ j, -2147483648 ≤ cn j ∧ cn j < 2147483648 := h.2.2.2.2.2.1
theorem RS.r3 {f num pgs cc cn cp pn pm : Int → Int} (h : RS f num pgs cc cn cp pn pm) : ∀ j, -2147483648 ≤ pn j ∧ pn j < 2147483648 := h.2.2.2.2.2.2.1
theorem RS.r4 {f num pgs cc cn cp pn pm : Int → Int} (h : RS f num pgs cc cn cp pn pm) : ∀ j, -2147483648 ≤ pm j ∧ pm j < 2147483648 := h.2.2.2.2.2.2.2
/-- what the class's methods want of its rows -/
theorem RS.hcc {f num pgs cc cn cp pn pm : Int → Int} {cap : Int} (h : RS f num pgs cc cn cp pn pm) (hw : WF f cap) : ∀ a, 0 ≤ a → a < 12 → 0 ≤ cc a ∧ cc a ≤ 6 := by
  intro a h0 h1
  have e := (h.pa a h0 h1).1
  have q := hw.pa a h0 h1
  omega
theorem RS.hcp {f num pgs cc cn cp pn pm : Int → Int} {cap : Int} (h : RS f num pgs cc cn cp pn pm) (hw : WF f cap) : ∀ a b, 0 ≤ a → a < 12 → 0 ≤ b → b < cc a → 1 ≤ cp (6 * a + b) ∧ cp (6 * a + b) ≤ 60 := by
  intro a b h0 h1 h2 h3
  have e := (h.pa a h0 h1).1
  rw [e] at h3
  have e2 := (h.ci a b h0 h1 h2 h3).2
  have q := hw.ci a b h0 h1 h2 h3
  omega
theorem RS.hpg {f num pgs cc cn cp pn pm : Int → Int} {cap : Int} (h : RS f num pgs cc cn cp pn pm) (hw : WF f cap) : ∀ j, 0 ≤ j → j < f 1 → 0 ≤ pgs j ∧ pgs j ≤ 60 := by
  intro j h0 h1
  have e := (h.ex j h0 h1).2
  have q := hw.ex j h0 h1
  omega
theorem sAt_cong {g : zG} {C C' : Nat → va_E} {b : Nat} {n1 n2 n3 : Int} {num pgs cc cn cp pn pm : Int → Int} (h : sAt g C b n1 n2 n3 num pgs cc cn cp pn pm) (hs : ∀ q, b ≤ q → q ≤ b + 10 → C' q = C q) : sAt g C' b n1 n2 n3 num pgs cc cn cp pn pm := by
  obtain ⟨h0, h1, h2, h3, h4, h5, h6, h7, h8, h9, h10⟩ := h
  exact ⟨(hs _ (by omega) (by omega)).trans h0, (hs _ (by omega) (by omega)).trans h1, (hs _ (by omega) (by omega)).trans h2, (hs _ (by omega) (by omega)).trans h3, (hs _ (by omega) (by omega)).trans h4, (hs _ (by omega) (by omega)).trans h5, (hs _ (by omega) (by omega)).trans h6, (hs _ (by omega) (by omega)).trans h7, (hs _ (by omega) (by omega)).trans h8, (hs _ (by omega) (by omega)).trans h9, (hs _ (by omega) (by omega)).trans h10⟩
theorem sAny_cong {g : zG} {C C' : Nat → va_E} {b : Nat} (h : sAny g C b) (hs : ∀ q, b ≤ q → q ≤ b + 10 → C' q = C q) : sAny g C' b := by
  obtain ⟨n1, n2, n3, num, pgs, cc, cn, cp, pn, pm, h⟩ := h
  exact ⟨n1, n2, n3, num, pgs, cc, cn, cp, pn, pm, sAt_cong h hs⟩
theorem wS_cong {g : zG} {C C' : Nat → va_E} {b : Nat} {f : Int → Int} (h : wS g C b f) (hs : ∀ q, b ≤ q → q ≤ b + 10 → C' q = C q) : wS g C' b f := by
  obtain ⟨num, pgs, cc, cn, cp, pn, pm, h, h2⟩ := h
  exact ⟨num, pgs, cc, cn, cp, pn, pm, sAt_cong h hs, h2⟩
theorem wS_any {g : zG} {C : Nat → va_E} {b : Nat} {f : Int → Int} (h : wS g C b f) : sAny g C b := by
  obtain ⟨num, pgs, cc, cn, cp, pn, pm, h, h2⟩ := h
  exact ⟨_, _, _, num, pgs, cc, cn, cp, pn, pm, h⟩
theorem slot_rng {old i : Int} : 28 ≤ slot old i ∧ slot old i + 10 < 94 := by
  unfold slot
  omega
theorem slotNe {old i j : Int} (hi : 0 ≤ i ∧ i < 6) (hj : 0 ≤ j ∧ j < 6) (h : i ≠ j) : slot old i + 11 ≤ slot old j ∨ slot old j + 11 ≤ slot old i := by
  unfold slot
  omega
theorem slot_all {old i : Int} : ∃ j : Nat, j < 6 ∧ slot old i = 28 + 11 * j := ⟨((old + i) % 6).toNat, by omega, by unfold slot; omega⟩
theorem wB_cong {g : zG} {C C' : Nat → va_E} (h : wB g C) (hs : ∀ q, (q = 0 ∨ q = 27) → C' q = C q) : wB g C' := ⟨(hs 0 (by omega)).trans h.1, (hs 27 (by omega)).trans h.2⟩
theorem wT_cong {g : zG} {C C' : Nat → va_E} (h : wT g C) (hs : ∀ q, (18 ≤ q ∧ q ≤ 20) → C' q = C q) : wT g C' := by
  obtain ⟨tc, np, tp, h1, h2, h3, h4⟩ := h
  exact ⟨tc, np, tp, (hs _ (by omega)).trans h1, (hs _ (by omega)).trans h2, (hs _ (by omega)).trans h3, h4⟩
theorem wX_cong {g : zG} {C C' : Nat → va_E} {ty : Int} {tx : Int → Int} (h : wX g C ty tx) (hs : ∀ q, (23 ≤ q ∧ q ≤ 26) → C' q = C q) : wX g C' ty tx := by
  obtain ⟨cur, stp, pl, px, h1, h2, h3, h4, h5⟩ := h
  exact ⟨cur, stp, pl, px, (hs _ (by omega)).trans h1, (hs _ (by omega)).trans h2, (hs _ (by omega)).trans h3, (hs _ (by omega)).trans h4, h5⟩
theorem wH_cong {g : zG} {C C' : Nat → va_E} {k : Int} {past : Int → Int} (h : wH g C k past) (hs : ∀ q, (q = 21 ∨ q = 22 ∨ (28 ≤ q ∧ q < 94)) → C' q = C q) : wH g C' k past := by
  obtain ⟨old, h1, h2, h3, h4, h5⟩ := h
  exact ⟨old, (hs _ (by omega)).trans h1, (hs _ (by omega)).trans h2, h3, fun i i0 i1 => sAny_cong (h4 i i0 i1) (fun q q0 q1 => hs q (by have := slot_rng (old := old) (i := i); omega)), fun i i0 i1 => wS_cong (h5 i i0 i1) (fun q q0 q1 => hs q (by have := slot_rng (old := old) (i := i); omega))⟩
theorem wL_cong {g : zG} {C C' : Nat → va_E} {f : Int → Int} (h : wL g C f) (hs : ∀ q, (1 ≤ q ∧ q ≤ 11) → C' q = C q) : wL g C' f := by
  obtain ⟨num, pgs, cc, cn, cp, pn, pm, ⟨h0, h1, h2, h3, h4, h5, h6, h7, h8, h9, h10⟩, hR⟩ := h
  exact ⟨num, pgs, cc, cn, cp, pn, pm, ⟨(hs _ (by omega)).trans h0, (hs _ (by omega)).trans h1, (hs _ (by omega)).trans h2, (hs _ (by omega)).trans h3, (hs _ (by omega)).trans h4, (hs _ (by omega)).trans h5, (hs _ (by omega)).trans h6, (hs _ (by omega)).trans h7, (hs _ (by omega)).trans h8, (hs _ (by omega)).trans h9, (hs _ (by omega)).trans h10⟩, hR⟩
theorem wV_cong {g : zG} {C C' : Nat → va_E} {f : Int → Int} (h : wV g C f) (hs : ∀ q, (12 ≤ q ∧ q ≤ 17) → C' q = C q) : wV g C' f := by
  obtain ⟨vb, vt, vf, lt, lo, ⟨h0, h1, h2, h3, h4, h5⟩, hR⟩ := h
  exact ⟨vb, vt, vf, lt, lo, ⟨(hs _ (by omega)).trans h0, (hs _ (by omega)).trans h1, (hs _ (by omega)).trans h2, (hs _ (by omega)).trans h3, (hs _ (by omega)).trans h4, (hs _ (by omega)).trans h5⟩, hR⟩
/-- the world is the class's all the same where only cells from 94 on changed -/
theorem IW_cong {g : zG} {C C' : Nat → va_E} {f past tx : Int → Int} {k ty : Int} (h : IW g C f k past ty tx) (hs : ∀ q, q < 94 → C' q = C q) : IW g C' f k past ty tx :=
  ⟨wB_cong h.1 (fun q hq => hs q (by omega)), wL_cong h.2.1 (fun q hq => hs q (by omega)), wV_cong h.2.2.1 (fun q hq => hs q (by omega)), wT_cong h.2.2.2.1 (fun q hq => hs q (by omega)), wH_cong h.2.2.2.2.1 (fun q hq => hs q (by omega)), wX_cong h.2.2.2.2.2 (fun q hq => hs q (by omega))⟩
end ZRA
section ZRB
theorem zlieC {h h' : Int → Int} {lim : Int} : ∀ m : Nat, (∀ j : Int, 0 ≤ j → j ≤ m → h j = h' j) → zlie h lim m = zlie h' lim m
  | 0, e => by
    have e0 := e 0 (by omega) (by omega)
    show ((0 : Int), (0 : Int), h 0, (0 : Int)) = (0, 0, h' 0, 0)
    rw [e0]
  | m + 1, e => by
    have ih := zlieC (lim := lim) m (fun j h0 h1 => e j h0 (by omega))
    have e1 : h ((m : Int) + 1) = h' ((m : Int) + 1) := e _ (by omega) (by omega)
    have e2 : h (m : Int) = h' (m : Int) := e _ (by omega) (by omega)
    rw [zlie, zlie, ih, e1, e2]
theorem zlieC' {h h' : Int → Int} {lim n k : Int} (e : ∀ j, 0 ≤ j → j < n → h j = h' j) (h0 : 0 ≤ k) (h1 : k < n) : zBn h lim k = zBn h' lim k ∧ zTb h lim k = zTb h' lim k ∧ zPg h lim k = zPg h' lim k ∧ zSm h lim k = zSm h' lim k ∧ zFp h lim k = zFp h' lim k := by
  have r := zlieC (h := h) (h' := h') (lim := lim) k.toNat (fun j j0 j1 => e j j0 (by omega))
  unfold zFp zBn zTb zPg zSm
  rw [r]
  exact ⟨rfl, rfl, rfl, rfl, rfl⟩
theorem zBndC {h h' : Int → Int} {lim n : Int} (e : ∀ j, 0 ≤ j → j < n → h j = h' j) (hn : 0 ≤ n) : zBnd h lim n = zBnd h' lim n := by
  unfold zBnd
  by_cases c : n = 0
  · rw [if_pos c, if_pos c]
  · rw [if_neg c, if_neg c, (zlieC' e (by omega) (by omega)).1]
theorem RS.lett {f num pgs cc cn cp pn pm : Int → Int} (h : RS f num pgs cc cn cp pn pm) {a b : Int} (a0 : 0 ≤ a) (a1 : a < 12) (b0 : 0 ≤ b) (b1 : b < f (32 * a + 65)) : iLet num (f 1) cn (6 * a + b) = sLet f a b := by
  unfold iLet sLet sPl
  rw [(h.ci a b a0 a1 b0 b1).1]
  exact zfind_cong (fun j j0 j1 => (h.ex j j0 j1).1)
theorem RS.lost {f num pgs cc cn cp pn pm : Int → Int} (h : RS f num pgs cc cn cp pn pm) {a b : Int} (hn : 0 ≤ f 1) (a0 : 0 ≤ a) (a1 : a < 12) (b0 : 0 ≤ b) (b1 : b < f (32 * a + 65)) : iLost num pgs (f 1) cn cp (6 * a + b) = sLost f a b := by
  unfold iLost sLost
  rw [h.lett a0 a1 b0 b1, (h.ci a b a0 a1 b0 b1).2]
  have r : -1 ≤ sLet f a b ∧ sLet f a b < f 1 := zfind_rng _ _ hn
  by_cases q : sLet f a b = -1
  · rw [decide_eq_true (Or.inl q), decide_eq_true (Or.inl q)]
  · rw [(h.ex _ (by omega) r.2).2]
theorem VR_mk {f num pgs cc cn cp pn pm vb vt vf lt lo : Int → Int} {cap : Int} (h : RS f num pgs cc cn cp pn pm) (hw : WF f cap)
    (h1 : ∀ j, 0 ≤ j → j < f 1 → vb j = zBn pgs (f 0) j ∧ vt j = zTb pgs (f 0) j ∧ vf j = zFp pgs (f 0) j)
    (h2 : ∀ a2 b2, 0 ≤ a2 → a2 < 12 → 0 ≤ b2 → b2 < cc a2 → b2 ≤ 5 → 6 * a2 + b2 < 72 → lt (6 * a2 + b2) = iLet num (f 1) cn (6 * a2 + b2) ∧ lo (6 * a2 + b2) = b2i (iLost num pgs (f 1) cn cp (6 * a2 + b2)))
    (h3 : ∀ j, -1 ≤ lt j ∧ lt j ≤ 29) (h4 : ∀ j, lo j = 0 ∨ lo j = 1) : VR f vb vt vf lt lo := by
  refine ⟨fun k k0 k1 => ?_, fun a b a0 a1 b0 b1 => ?_, h3, h4⟩
  · have e := h1 k k0 k1
    have q := zlieC' (h := pgs) (h' := sPg f) (lim := f 0) (n := f 1) (fun j j0 j1 => (h.ex j j0 j1).2) k0 k1
    rw [e.1, e.2.1, e.2.2, q.1, q.2.1, q.2.2.2.2]
    exact ⟨rfl, rfl, rfl⟩
  · have e1 := (h.pa a a0 a1).1
    have q1 := hw.pa a a0 a1
    have e := h2 a b a0 a1 b0 (by omega) (by omega) (by omega)
    rw [e.1, e.2, h.lett a0 a1 b0 b1, h.lost hw.n.1 a0 a1 b0 b1]
    exact ⟨rfl, rfl⟩
theorem RS.bnd {f num pgs cc cn cp pn pm : Int → Int} (h : RS f num pgs cc cn cp pn pm) (hn : 0 ≤ f 1) : zBnd pgs (f 0) (f 1) = sBds f := zBndC (fun j j0 j1 => (h.ex j j0 j1).2) hn
/-- the class's world behind a change: its cells, in the reference's words -/
theorem IW_mk {g : zG} {C0 C' : Nat → va_E} {f past tx : Int → Int} {k ty cap n1 n2 n3 nb : Int} {num pgs cc cn cp pn pm vb vt vf lt lo : Int → Int} (hB : wB g C0) (hT : wT g C0) (hX : wX g C0 ty tx) (hH : wH g C0 k past) (hag : ∀ q, (q = 0 ∨ (18 ≤ q ∧ q < 94)) → C' q = C0 q)
    (hL : sL g C' n1 n2 n3 num pgs cc cn cp pn pm) (e1 : n1 = f 1) (e2 : n2 = f 2) (e3 : n3 = f 0) (hR : RS f num pgs cc cn cp pn pm) (hw : WF f cap) (hV : sV g C' nb vb vt vf lt lo) (hnb : nb = zBnd pgs n3 n1)
    (h1 : ∀ j, 0 ≤ j → j < n1 → vb j = zBn pgs n3 j ∧ vt j = zTb pgs n3 j ∧ vf j = zFp pgs n3 j)
    (h2 : ∀ a2 b2, 0 ≤ a2 → a2 < 12 → 0 ≤ b2 → b2 < cc a2 → b2 ≤ 5 → 6 * a2 + b2 < 72 → lt (6 * a2 + b2) = iLet num n1 cn (6 * a2 + b2) ∧ lo (6 * a2 + b2) = b2i (iLost num pgs n1 cn cp (6 * a2 + b2)))
    (h3 : ∀ j, -1 ≤ lt j ∧ lt j ≤ 29) (h4 : ∀ j, lo j = 0 ∨ lo j = 1) : IW g C' f k past ty tx := by
  subst e1; subst e2; subst e3; subst hnb
  rw [hR.bnd hw.n.1] at hV
  exact ⟨wB_cong hB (fun q hq => hag q (by omega)), ⟨num, pgs, cc, cn, cp, pn, pm, hL, hR⟩, ⟨vb, vt, vf, lt, lo, hV, VR_mk hR hw h1 h2 h3 h4⟩, wT_cong hT (fun q hq => hag q (by omega)), wH_cong hH (fun q hq => hag q (by omega)), wX_cong hX (fun q hq => hag q (by omega))⟩
end ZRB
