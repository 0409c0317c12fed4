/-! p29: looks one by one; low, cell -/
section ZLS
set_option maxRecDepth 100000 in
theorem e_exh0 (l : Launch) (g : zG) (C : Nat → va_E) (p0 : Int) (f past tx : Int → Int) (k ty cap : Int) (hI : IW g C f k past ty tx) (hP : PW cap f k past ty tx) (hp : 0 ≤ p0 ∧ p0 < f 1) : Met l yX8_exhibit wsX8_exhibit ({ frames := 2, cells := 0, slots := 0, locals := 45 } : Room) (zPre g C [.ref (aD g 0), .int (iZ p0), .int (iZ 0)]) (zQi g (fun z C' => C' = C ∧ z = f (2 * p0 + 3))) 0 0 (zA g) := by
  have hn := hP.1.n
  refine z_monI (a_X8_exhibit l g C p0 0 f past tx k ty cap hI hP (by omega) (by omega) (by unfold kExh; rw [if_neg (by omega), if_neg (by omega)])) (fun z C' h => ⟨h.1, h.2.trans ?_⟩)
  rw [if_pos hp.2]; unfold sOfE; rw [if_pos rfl]
set_option maxRecDepth 100000 in
theorem e_exh1 (l : Launch) (g : zG) (C : Nat → va_E) (p0 : Int) (f past tx : Int → Int) (k ty cap : Int) (hI : IW g C f k past ty tx) (hP : PW cap f k past ty tx) (hp : 0 ≤ p0 ∧ p0 < f 1) : Met l yX8_exhibit wsX8_exhibit ({ frames := 2, cells := 0, slots := 0, locals := 45 } : Room) (zPre g C [.ref (aD g 0), .int (iZ p0), .int (iZ 1)]) (zQi g (fun z C' => C' = C ∧ z = sPg f p0)) 0 0 (zA g) := by
  have hn := hP.1.n
  refine z_monI (a_X8_exhibit l g C p0 1 f past tx k ty cap hI hP (by omega) (by omega) (by unfold kExh; rw [if_neg (by omega), if_neg (by omega)])) (fun z C' h => ⟨h.1, h.2.trans ?_⟩)
  rw [if_pos hp.2]; unfold sOfE; rw [if_neg (by omega), if_pos rfl]; rfl
set_option maxRecDepth 100000 in
theorem e_exh2 (l : Launch) (g : zG) (C : Nat → va_E) (p0 : Int) (f past tx : Int → Int) (k ty cap : Int) (hI : IW g C f k past ty tx) (hP : PW cap f k past ty tx) (hp : 0 ≤ p0 ∧ p0 < f 1) : Met l yX8_exhibit wsX8_exhibit ({ frames := 2, cells := 0, slots := 0, locals := 45 } : Room) (zPre g C [.ref (aD g 0), .int (iZ p0), .int (iZ 2)]) (zQi g (fun z C' => C' = C ∧ z = zBn (sPg f) (f 0) p0)) 0 0 (zA g) := by
  have hn := hP.1.n
  refine z_monI (a_X8_exhibit l g C p0 2 f past tx k ty cap hI hP (by omega) (by omega) (by unfold kExh; rw [if_neg (by omega), if_neg (by omega)])) (fun z C' h => ⟨h.1, h.2.trans ?_⟩)
  rw [if_pos hp.2]; unfold sOfE zLies; rw [if_neg (by omega), if_neg (by omega), if_pos (by omega), if_pos (by omega)]
set_option maxRecDepth 100000 in
theorem e_exh3 (l : Launch) (g : zG) (C : Nat → va_E) (p0 : Int) (f past tx : Int → Int) (k ty cap : Int) (hI : IW g C f k past ty tx) (hP : PW cap f k past ty tx) (hp : 0 ≤ p0 ∧ p0 < f 1) : Met l yX8_exhibit wsX8_exhibit ({ frames := 2, cells := 0, slots := 0, locals := 45 } : Room) (zPre g C [.ref (aD g 0), .int (iZ p0), .int (iZ 3)]) (zQi g (fun z C' => C' = C ∧ z = zTb (sPg f) (f 0) p0)) 0 0 (zA g) := by
  have hn := hP.1.n
  refine z_monI (a_X8_exhibit l g C p0 3 f past tx k ty cap hI hP (by omega) (by omega) (by unfold kExh; rw [if_neg (by omega), if_neg (by omega)])) (fun z C' h => ⟨h.1, h.2.trans ?_⟩)
  rw [if_pos hp.2]; unfold sOfE zLies; rw [if_neg (by omega), if_neg (by omega), if_pos (by omega), if_neg (by omega), if_pos (by omega)]
set_option maxRecDepth 100000 in
theorem e_exh4 (l : Launch) (g : zG) (C : Nat → va_E) (p0 : Int) (f past tx : Int → Int) (k ty cap : Int) (hI : IW g C f k past ty tx) (hP : PW cap f k past ty tx) (hp : 0 ≤ p0 ∧ p0 < f 1) : Met l yX8_exhibit wsX8_exhibit ({ frames := 2, cells := 0, slots := 0, locals := 45 } : Room) (zPre g C [.ref (aD g 0), .int (iZ p0), .int (iZ 4)]) (zQi g (fun z C' => C' = C ∧ z = zFp (sPg f) (f 0) p0)) 0 0 (zA g) := by
  have hn := hP.1.n
  refine z_monI (a_X8_exhibit l g C p0 4 f past tx k ty cap hI hP (by omega) (by omega) (by unfold kExh; rw [if_neg (by omega), if_neg (by omega)])) (fun z C' h => ⟨h.1, h.2.trans ?_⟩)
  rw [if_pos hp.2]; unfold sOfE zLies; rw [if_neg (by omega), if_neg (by omega), if_pos (by omega), if_neg (by omega), if_neg (by omega)]
set_option maxRecDepth 100000 in
theorem e_cnt0 (l : Launch) (g : zG) (C : Nat → va_E)  (f past tx : Int → Int) (k ty cap : Int) (hI : IW g C f k past ty tx) (hP : PW cap f k past ty tx)  : Met l yX8_count wsX8_count ({ frames := 4, cells := 0, slots := 0, locals := 91 } : Room) (zPre g C [.ref (aD g 0), .int (iZ 0)]) (zQi g (fun z C' => C' = C ∧ z = f 1)) 0 0 (zA g) := by
  have hn := hP.1.n
  refine z_monI (a_X8_count l g C 0 f past tx k ty cap hI hP (by omega) (by unfold kCnt; rw [if_neg (by omega)])) (fun z C' h => ⟨h.1, h.2.trans ?_⟩)
  unfold sCnt; rw [if_pos (by omega)]
set_option maxRecDepth 100000 in
theorem e_cnt1 (l : Launch) (g : zG) (C : Nat → va_E)  (f past tx : Int → Int) (k ty cap : Int) (hI : IW g C f k past ty tx) (hP : PW cap f k past ty tx)  : Met l yX8_count wsX8_count ({ frames := 4, cells := 0, slots := 0, locals := 91 } : Room) (zPre g C [.ref (aD g 0), .int (iZ 1)]) (zQi g (fun z C' => C' = C ∧ z = sPgs f)) 0 0 (zA g) := by
  have hn := hP.1.n
  refine z_monI (a_X8_count l g C 1 f past tx k ty cap hI hP (by omega) (by unfold kCnt; rw [if_neg (by omega)])) (fun z C' h => ⟨h.1, h.2.trans ?_⟩)
  unfold sCnt; rw [if_neg (by omega), if_pos (by omega)]
set_option maxRecDepth 100000 in
theorem e_cnt2 (l : Launch) (g : zG) (C : Nat → va_E)  (f past tx : Int → Int) (k ty cap : Int) (hI : IW g C f k past ty tx) (hP : PW cap f k past ty tx)  : Met l yX8_count wsX8_count ({ frames := 4, cells := 0, slots := 0, locals := 91 } : Room) (zPre g C [.ref (aD g 0), .int (iZ 2)]) (zQi g (fun z C' => C' = C ∧ z = sBds f)) 0 0 (zA g) := by
  have hn := hP.1.n
  refine z_monI (a_X8_count l g C 2 f past tx k ty cap hI hP (by omega) (by unfold kCnt; rw [if_neg (by omega)])) (fun z C' h => ⟨h.1, h.2.trans ?_⟩)
  unfold sCnt; rw [if_neg (by omega), if_neg (by omega), if_pos (by omega)]
set_option maxRecDepth 100000 in
theorem e_cnt3 (l : Launch) (g : zG) (C : Nat → va_E)  (f past tx : Int → Int) (k ty cap : Int) (hI : IW g C f k past ty tx) (hP : PW cap f k past ty tx)  : Met l yX8_count wsX8_count ({ frames := 4, cells := 0, slots := 0, locals := 91 } : Room) (zPre g C [.ref (aD g 0), .int (iZ 3)]) (zQi g (fun z C' => C' = C ∧ z = sCts f)) 0 0 (zA g) := by
  have hn := hP.1.n
  refine z_monI (a_X8_count l g C 3 f past tx k ty cap hI hP (by omega) (by unfold kCnt; rw [if_neg (by omega)])) (fun z C' h => ⟨h.1, h.2.trans ?_⟩)
  unfold sCnt; rw [if_neg (by omega), if_neg (by omega), if_neg (by omega), if_pos (by omega)]
set_option maxRecDepth 100000 in
theorem e_cnt4 (l : Launch) (g : zG) (C : Nat → va_E)  (f past tx : Int → Int) (k ty cap : Int) (hI : IW g C f k past ty tx) (hP : PW cap f k past ty tx)  : Met l yX8_count wsX8_count ({ frames := 4, cells := 0, slots := 0, locals := 91 } : Room) (zPre g C [.ref (aD g 0), .int (iZ 4)]) (zQi g (fun z C' => C' = C ∧ z = sAllLost f)) 0 0 (zA g) := by
  have hn := hP.1.n
  refine z_monI (a_X8_count l g C 4 f past tx k ty cap hI hP (by omega) (by unfold kCnt; rw [if_neg (by omega)])) (fun z C' h => ⟨h.1, h.2.trans ?_⟩)
  unfold sCnt; rw [if_neg (by omega), if_neg (by omega), if_neg (by omega), if_neg (by omega), if_pos (by omega)]
set_option maxRecDepth 100000 in
theorem e_cnt5 (l : Launch) (g : zG) (C : Nat → va_E)  (f past tx : Int → Int) (k ty cap : Int) (hI : IW g C f k past ty tx) (hP : PW cap f k past ty tx)  : Met l yX8_count wsX8_count ({ frames := 4, cells := 0, slots := 0, locals := 91 } : Room) (zPre g C [.ref (aD g 0), .int (iZ 5)]) (zQi g (fun z C' => C' = C ∧ z = sStaleN f)) 0 0 (zA g) := by
  have hn := hP.1.n
  refine z_monI (a_X8_count l g C 5 f past tx k ty cap hI hP (by omega) (by unfold kCnt; rw [if_neg (by omega)])) (fun z C' h => ⟨h.1, h.2.trans ?_⟩)
  unfold sCnt; rw [if_neg (by omega), if_neg (by omega), if_neg (by omega), if_neg (by omega), if_neg (by omega), if_pos (by omega)]
set_option maxRecDepth 100000 in
theorem e_cnt6 (l : Launch) (g : zG) (C : Nat → va_E)  (f past tx : Int → Int) (k ty cap : Int) (hI : IW g C f k past ty tx) (hP : PW cap f k past ty tx)  : Met l yX8_count wsX8_count ({ frames := 4, cells := 0, slots := 0, locals := 91 } : Room) (zPre g C [.ref (aD g 0), .int (iZ 6)]) (zQi g (fun z C' => C' = C ∧ z = sUnc f)) 0 0 (zA g) := by
  have hn := hP.1.n
  refine z_monI (a_X8_count l g C 6 f past tx k ty cap hI hP (by omega) (by unfold kCnt; rw [if_neg (by omega)])) (fun z C' h => ⟨h.1, h.2.trans ?_⟩)
  unfold sCnt; rw [if_neg (by omega), if_neg (by omega), if_neg (by omega), if_neg (by omega), if_neg (by omega), if_neg (by omega), if_pos (by omega)]
set_option maxRecDepth 100000 in
theorem e_cnt7 (l : Launch) (g : zG) (C : Nat → va_E)  (f past tx : Int → Int) (k ty cap : Int) (hI : IW g C f k past ty tx) (hP : PW cap f k past ty tx)  : Met l yX8_count wsX8_count ({ frames := 4, cells := 0, slots := 0, locals := 91 } : Room) (zPre g C [.ref (aD g 0), .int (iZ 7)]) (zQi g (fun z C' => C' = C ∧ z = f 0)) 0 0 (zA g) := by
  have hn := hP.1.n
  refine z_monI (a_X8_count l g C 7 f past tx k ty cap hI hP (by omega) (by unfold kCnt; rw [if_neg (by omega)])) (fun z C' h => ⟨h.1, h.2.trans ?_⟩)
  unfold sCnt; rw [if_neg (by omega), if_neg (by omega), if_neg (by omega), if_neg (by omega), if_neg (by omega), if_neg (by omega), if_neg (by omega), if_pos (by omega)]
set_option maxRecDepth 100000 in
theorem e_cnt8 (l : Launch) (g : zG) (C : Nat → va_E)  (f past tx : Int → Int) (k ty cap : Int) (hI : IW g C f k past ty tx) (hP : PW cap f k past ty tx)  : Met l yX8_count wsX8_count ({ frames := 4, cells := 0, slots := 0, locals := 91 } : Room) (zPre g C [.ref (aD g 0), .int (iZ 8)]) (zQi g (fun z C' => C' = C ∧ z = k)) 0 0 (zA g) := by
  have hn := hP.1.n
  refine z_monI (a_X8_count l g C 8 f past tx k ty cap hI hP (by omega) (by unfold kCnt; rw [if_neg (by omega)])) (fun z C' h => ⟨h.1, h.2.trans ?_⟩)
  unfold sCnt; rw [if_neg (by omega), if_neg (by omega), if_neg (by omega), if_neg (by omega), if_neg (by omega), if_neg (by omega), if_neg (by omega), if_neg (by omega)]
set_option maxRecDepth 100000 in
theorem e_par0 (l : Launch) (g : zG) (C : Nat → va_E) (a : Int) (f past tx : Int → Int) (k ty cap : Int) (hI : IW g C f k past ty tx) (hP : PW cap f k past ty tx) (ha : 0 ≤ a ∧ a < 12) : Met l yX8_paragraph wsX8_paragraph ({ frames := 2, cells := 0, slots := 0, locals := 50 } : Room) (zPre g C [.ref (aD g 0), .int (iZ a), .int (iZ 0)]) (zQi g (fun z C' => C' = C ∧ z = f (32 * a + 65))) 0 0 (zA g) := by
  have hn := hP.1.n
  refine z_monI (a_X8_paragraph l g C a 0 f past tx k ty cap hI hP (by omega) (by omega) (by unfold kPrg; rw [if_neg (by omega), if_neg (by omega)])) (fun z C' h => ⟨h.1, h.2.trans ?_⟩)
  unfold sOfP; rw [if_pos (by omega)]
set_option maxRecDepth 100000 in
theorem e_par1 (l : Launch) (g : zG) (C : Nat → va_E) (a : Int) (f past tx : Int → Int) (k ty cap : Int) (hI : IW g C f k past ty tx) (hP : PW cap f k past ty tx) (ha : 0 ≤ a ∧ a < 12) : Met l yX8_paragraph wsX8_paragraph ({ frames := 2, cells := 0, slots := 0, locals := 50 } : Room) (zPre g C [.ref (aD g 0), .int (iZ a), .int (iZ 1)]) (zQi g (fun z C' => C' = C ∧ z = sLostN f a)) 0 0 (zA g) := by
  have hn := hP.1.n
  refine z_monI (a_X8_paragraph l g C a 1 f past tx k ty cap hI hP (by omega) (by omega) (by unfold kPrg; rw [if_neg (by omega), if_neg (by omega)])) (fun z C' h => ⟨h.1, h.2.trans ?_⟩)
  unfold sOfP; rw [if_neg (by omega), if_pos (by omega)]
set_option maxRecDepth 100000 in
theorem e_par2 (l : Launch) (g : zG) (C : Nat → va_E) (a : Int) (f past tx : Int → Int) (k ty cap : Int) (hI : IW g C f k past ty tx) (hP : PW cap f k past ty tx) (ha : 0 ≤ a ∧ a < 12) : Met l yX8_paragraph wsX8_paragraph ({ frames := 2, cells := 0, slots := 0, locals := 50 } : Room) (zPre g C [.ref (aD g 0), .int (iZ a), .int (iZ 2)]) (zQi g (fun z C' => C' = C ∧ z = b2i (sStale f a))) 0 0 (zA g) := by
  have hn := hP.1.n
  refine z_monI (a_X8_paragraph l g C a 2 f past tx k ty cap hI hP (by omega) (by omega) (by unfold kPrg; rw [if_neg (by omega), if_neg (by omega)])) (fun z C' h => ⟨h.1, h.2.trans ?_⟩)
  unfold sOfP; rw [if_neg (by omega), if_neg (by omega), if_pos (by omega)]
set_option maxRecDepth 100000 in
theorem e_par3 (l : Launch) (g : zG) (C : Nat → va_E) (a : Int) (f past tx : Int → Int) (k ty cap : Int) (hI : IW g C f k past ty tx) (hP : PW cap f k past ty tx) (ha : 0 ≤ a ∧ a < 12) : Met l yX8_paragraph wsX8_paragraph ({ frames := 2, cells := 0, slots := 0, locals := 50 } : Room) (zPre g C [.ref (aD g 0), .int (iZ a), .int (iZ 3)]) (zQi g (fun z C' => C' = C ∧ z = f (32 * a + 78))) 0 0 (zA g) := by
  have hn := hP.1.n
  refine z_monI (a_X8_paragraph l g C a 3 f past tx k ty cap hI hP (by omega) (by omega) (by unfold kPrg; rw [if_neg (by omega), if_neg (by omega)])) (fun z C' h => ⟨h.1, h.2.trans ?_⟩)
  unfold sOfP; rw [if_neg (by omega), if_neg (by omega), if_neg (by omega)]
set_option maxRecDepth 100000 in
theorem e_cit0 (l : Launch) (g : zG) (C : Nat → va_E) (a : Int) (b : Int) (f past tx : Int → Int) (k ty cap : Int) (hI : IW g C f k past ty tx) (hP : PW cap f k past ty tx) (ha : 0 ≤ a ∧ a < 12) (hb : 0 ≤ b ∧ b < f (32 * a + 65)) : Met l yX8_citation wsX8_citation ({ frames := 1, cells := 0, slots := 0, locals := 22 } : Room) (zPre g C [.ref (aD g 0), .int (iZ a), .int (iZ b), .int (iZ 0)]) (zQi g (fun z C' => C' = C ∧ z = f (32 * a + 2 * b + 66))) 0 0 (zA g) := by
  have hn := hP.1.n
  have hpa := hP.1.pa a ha.1 ha.2
  refine z_monI (a_X8_citation l g C a b 0 f past tx k ty cap hI hP (by omega) (by omega) (by omega) (by unfold kCtn; rw [if_neg (by omega), if_neg (by omega), if_neg (by omega)])) (fun z C' h => ⟨h.1, h.2.trans ?_⟩)
  rw [if_pos hb.2]; unfold sOfC; rw [if_pos (by omega)]
set_option maxRecDepth 100000 in
theorem e_cit1 (l : Launch) (g : zG) (C : Nat → va_E) (a : Int) (b : Int) (f past tx : Int → Int) (k ty cap : Int) (hI : IW g C f k past ty tx) (hP : PW cap f k past ty tx) (ha : 0 ≤ a ∧ a < 12) (hb : 0 ≤ b ∧ b < f (32 * a + 65)) : Met l yX8_citation wsX8_citation ({ frames := 1, cells := 0, slots := 0, locals := 22 } : Room) (zPre g C [.ref (aD g 0), .int (iZ a), .int (iZ b), .int (iZ 1)]) (zQi g (fun z C' => C' = C ∧ z = sLet f a b)) 0 0 (zA g) := by
  have hn := hP.1.n
  have hpa := hP.1.pa a ha.1 ha.2
  refine z_monI (a_X8_citation l g C a b 1 f past tx k ty cap hI hP (by omega) (by omega) (by omega) (by unfold kCtn; rw [if_neg (by omega), if_neg (by omega), if_neg (by omega)])) (fun z C' h => ⟨h.1, h.2.trans ?_⟩)
  rw [if_pos hb.2]; unfold sOfC; rw [if_neg (by omega), if_pos (by omega)]
set_option maxRecDepth 100000 in
theorem e_cit2 (l : Launch) (g : zG) (C : Nat → va_E) (a : Int) (b : Int) (f past tx : Int → Int) (k ty cap : Int) (hI : IW g C f k past ty tx) (hP : PW cap f k past ty tx) (ha : 0 ≤ a ∧ a < 12) (hb : 0 ≤ b ∧ b < f (32 * a + 65)) : Met l yX8_citation wsX8_citation ({ frames := 1, cells := 0, slots := 0, locals := 22 } : Room) (zPre g C [.ref (aD g 0), .int (iZ a), .int (iZ b), .int (iZ 2)]) (zQi g (fun z C' => C' = C ∧ z = f (32 * a + 2 * b + 67))) 0 0 (zA g) := by
  have hn := hP.1.n
  have hpa := hP.1.pa a ha.1 ha.2
  refine z_monI (a_X8_citation l g C a b 2 f past tx k ty cap hI hP (by omega) (by omega) (by omega) (by unfold kCtn; rw [if_neg (by omega), if_neg (by omega), if_neg (by omega)])) (fun z C' h => ⟨h.1, h.2.trans ?_⟩)
  rw [if_pos hb.2]; unfold sOfC; rw [if_neg (by omega), if_neg (by omega), if_pos (by omega)]
set_option maxRecDepth 100000 in
theorem e_cit3 (l : Launch) (g : zG) (C : Nat → va_E) (a : Int) (b : Int) (f past tx : Int → Int) (k ty cap : Int) (hI : IW g C f k past ty tx) (hP : PW cap f k past ty tx) (ha : 0 ≤ a ∧ a < 12) (hb : 0 ≤ b ∧ b < f (32 * a + 65)) : Met l yX8_citation wsX8_citation ({ frames := 1, cells := 0, slots := 0, locals := 22 } : Room) (zPre g C [.ref (aD g 0), .int (iZ a), .int (iZ b), .int (iZ 3)]) (zQi g (fun z C' => C' = C ∧ z = b2i (sLost f a b))) 0 0 (zA g) := by
  have hn := hP.1.n
  have hpa := hP.1.pa a ha.1 ha.2
  refine z_monI (a_X8_citation l g C a b 3 f past tx k ty cap hI hP (by omega) (by omega) (by omega) (by unfold kCtn; rw [if_neg (by omega), if_neg (by omega), if_neg (by omega)])) (fun z C' h => ⟨h.1, h.2.trans ?_⟩)
  rw [if_pos hb.2]; unfold sOfC; rw [if_neg (by omega), if_neg (by omega), if_neg (by omega), if_pos (by omega)]
set_option maxRecDepth 100000 in
theorem e_cit4 (l : Launch) (g : zG) (C : Nat → va_E) (a : Int) (b : Int) (f past tx : Int → Int) (k ty cap : Int) (hI : IW g C f k past ty tx) (hP : PW cap f k past ty tx) (ha : 0 ≤ a ∧ a < 12) (hb : 0 ≤ b ∧ b < f (32 * a + 65)) : Met l yX8_citation wsX8_citation ({ frames := 1, cells := 0, slots := 0, locals := 22 } : Room) (zPre g C [.ref (aD g 0), .int (iZ a), .int (iZ b), .int (iZ 4)]) (zQi g (fun z C' => C' = C ∧ z = sCp f a b)) 0 0 (zA g) := by
  have hn := hP.1.n
  have hpa := hP.1.pa a ha.1 ha.2
  refine z_monI (a_X8_citation l g C a b 4 f past tx k ty cap hI hP (by omega) (by omega) (by omega) (by unfold kCtn; rw [if_neg (by omega), if_neg (by omega), if_neg (by omega)])) (fun z C' h => ⟨h.1, h.2.trans ?_⟩)
  rw [if_pos hb.2]; unfold sOfC; rw [if_neg (by omega), if_neg (by omega), if_neg (by omega), if_neg (by omega)]; rfl
set_option maxRecDepth 100000 in
theorem e_tab (l : Launch) (g : zG) (C : Nat → va_E) (p0 : Int) (f past tx : Int → Int) (k ty cap : Int) (hI : IW g C f k past ty tx) (hP : PW cap f k past ty tx) (hp : 0 ≤ p0 ∧ p0 < f 1) : Met l yX8_table wsX8_table ({ frames := 2, cells := 0, slots := 0, locals := 46 } : Room) (zPre g C [.ref (aD g 0), .int (iZ p0)]) (zQi g (fun z C' => C' = C ∧ z = sRow f p0)) 0 0 (zA g) := by
  have hn := hP.1.n
  refine z_monI (a_X8_table l g C p0 f past tx k ty cap hI hP (by omega) (by unfold kPl; rw [if_neg (by omega)])) (fun z C' h => ⟨h.1, h.2.trans ?_⟩)
  rfl
set_option maxRecDepth 100000 in
theorem e_shr (l : Launch) (g : zG) (C : Nat → va_E)  (f past tx : Int → Int) (k ty cap : Int) (hI : IW g C f k past ty tx) (hP : PW cap f k past ty tx)  : Met l yX8_citedShare wsX8_citedShare ({ frames := 4, cells := 0, slots := 0, locals := 91 } : Room) (zPre g C [.ref (aD g 0)]) (zQd g (fun z C' => C' = C ∧ z = sShare f)) 0 0 (zA g) := by
  have hn := hP.1.n
  refine z_monD (a_X8_citedShare l g C f past tx k ty cap hI hP) (fun z C' h => ⟨h.1, h.2.trans ?_⟩)
  rfl
theorem kIns_ok {f : Int → Int} {p y : Int} (hn : f 1 ≤ 30) (hp : 0 ≤ p ∧ p ≤ f 1) (hy : 1 ≤ y ∧ y ≤ 60) : kIns f p y = 0 ∨ kIns f p y = 3 := by
  unfold kIns
  rw [if_neg (by omega), if_neg (by omega)]
  split <;> omega
theorem kCit_ok {f : Int → Int} {a p y : Int} (ha : 0 ≤ a ∧ a < 12) (hp : 0 ≤ p ∧ p < f 1) (hy : 1 ≤ y ∧ y ≤ 60) : kCit f a p y = 0 ∨ kCit f a p y = 3 := by
  unfold kCit
  rw [if_neg (by omega), if_neg (by omega), if_neg (by omega)]
  split <;> omega
theorem kJoi_ok (f : Int → Int) (p : Int) : kJoi f p = 0 ∨ kJoi f p = 1 ∨ kJoi f p = 2 := by
  unfold kJoi
  (repeat' split) <;> omega
theorem kUnd_ok (k : Int) : kUnd k = 0 ∨ kUnd k = 1 := by
  unfold kUnd
  split <;> omega
theorem PW_t {K c ty : Int} {k k2 : Int} {f f2 p2 past tx : Int → Int} (h : PW c (if K = 0 then f2 else f) (if K = 0 then k2 else k) (if K = 0 then p2 else past) ty tx) (hk : K = 0) : PW c f2 k2 p2 ty tx := by
  rw [if_pos hk, if_pos hk, if_pos hk] at h
  exact h
set_option maxHeartbeats 4000000 in
set_option maxRecDepth 100000 in
theorem m_L_low (l : Launch) (g : zG) (C : Nat → va_E) (v : Int) (n : Int) (hn : 1 ≤ n ∧ n < 2147483648) : Met l yL_low wsL_low ({ frames := 0, cells := 0, slots := 0, locals := 0 } : Room) (zPre g C [.int (iZ v), .int (iZ n)]) (zQi g (fun z C' => C' = C ∧ z = lowZ v n)) 0 0 (zA g) := by
  refine z_enter RL rfl (by decide) rfl (Nat.le_of_ble_eq_true rfl) ?_
  intro p e s m args below meth c K harg
  refine z_sub (lv' := [(0, .int (iZ v)), (1, .int (iZ n))]) [0, 1] rfl ?_
  refine z_iload_n 1 K dL_low_0 rfl rfl 0 rfl ?_
  refine z_ldc 3 K (2147483647) (by decide +kernel : Cond.constant RL 7 (2147483647) ∈ wsL_low) rfl dL_low_1 rfl ?_
  refine z_iand 4 K dL_low_3 rfl ?_
  refine z_raw (v % 2147483648) (zlo31 v) ?_
  refine z_iload_n 5 K dL_low_4 rfl rfl 1 rfl ?_
  refine z_irem 6 K dL_low_5 rfl (by omega) (by omega) ?_
  exact z_iret K rfl dL_low_6 ⟨rfl, rfl⟩
set_option maxHeartbeats 4000000 in
set_option maxRecDepth 100000 in
theorem m_L_cell (l : Launch) (g : zG) (C : Nat → va_E) (ka : Int) (b : Nat) (L : Nat) (xs : Nat → Int32) (hka : 0 ≤ ka ∧ ka ≤ 1000) (hL9 : (L : Int) < 2147483648) : Met l yL_cell wsL_cell ({ frames := 0, cells := 0, slots := 0, locals := 0 } : Room) (zPre3 g C [.ref b, .int (iZ ka)] b L xs) (zQi g (fun z C' => C' = C ∧ z = cV xs L ka)) 0 0 (zA g) := by
  refine z_enterS RL rfl (by decide) rfl (Nat.le_of_ble_eq_true rfl) ?_
  intro p e s m args below meth c K harg hNc hX hbl hbA
  refine z_sub (lv' := [(0, .ref b), (1, .int (iZ ka))]) [0, 1] rfl ?_
  refine z_iload_n 1 K dL_cell_0 rfl rfl 1 rfl ?_
  refine z_aload_n 2 K dL_cell_1 rfl rfl 0 rfl ?_
  refine z_slen 3 K hX hbl hbA dL_cell_2 rfl ?_
  refine z_icmp_ge (tgt := 12) 6 K dL_cell_3 rfl (by decide) (by omega) (by omega) (fun c_3 => ?_) (fun c_3 => ?_)
  · skip
    refine z_ldc 14 K (40503) (by decide +kernel : Cond.constant RL 8 (40503) ∈ wsL_cell) rfl dL_cell_12 rfl ?_
    refine z_iload_n 15 K dL_cell_14 rfl rfl 1 rfl ?_
    refine z_imul 16 K dL_cell_15 rfl ?_
    refine z_sipush 19 K dL_cell_16 rfl rfl ?_
    refine z_iadd 20 K dL_cell_19 rfl ?_
    exact z_iret K rfl dL_cell_20 ⟨rfl, by unfold cV; split <;> first | rfl | omega⟩
  · skip
    refine z_aload_n 7 K dL_cell_6 rfl rfl 0 rfl ?_
    refine z_iload_n 8 K dL_cell_7 rfl rfl 1 rfl ?_
    refine z_sld 9 K hX hbl hbA (by omega) (by omega) (by omega) dL_cell_8 rfl ?_
    refine z_goto (tgt := 20) K dL_cell_9 (by decide) ?_
    exact z_iret K rfl dL_cell_20 ⟨rfl, by unfold cV; split <;> first | rfl | omega⟩
end ZLS
