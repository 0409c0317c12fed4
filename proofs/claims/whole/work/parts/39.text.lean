/-! the text: the class's reading step by step, and the reference's by descent -/
section ZTX
def TX (ty : Int) (R : Int × Int × Int × (Int → Int) × (Int → Int)) (T : Bool × Int × Int × (Int → Int)) : Prop :=
  R.1 = (if T.1 = false ∧ T.2.1 < ty then T.2.1 else ty) ∧ (T.1 = true ↔ (R.2.1 = 5 ∨ R.2.1 = 6)) ∧
  (T.1 = true → R.2.2.1 + 1 = T.2.2.1 ∧ ∀ j, 0 ≤ j → j < T.2.2.1 → R.2.2.2.1 j = T.2.2.2 (2 * j) ∧ R.2.2.2.2 j = T.2.2.2 (2 * j + 1))
theorem TX_no {ty e s c e2 n : Int} {pl pg td : Int → Int} (h : (e = e2 ∧ e < ty) ∨ (e = ty ∧ e2 = ty)) (hs : s ≠ 5 ∧ s ≠ 6) : TX ty (e, s, c, pl, pg) (false, e2, n, td) := by
  refine ⟨?_, ⟨fun z => absurd (show false = true from z) (by decide), fun z => z.elim (fun w => absurd w hs.1) (fun w => absurd w hs.2)⟩, fun z => absurd (show false = true from z) (by decide)⟩
  show e = if false = false ∧ e2 < ty then e2 else ty
  rcases h with h | h
  · rw [if_pos ⟨rfl, by omega⟩]
    exact h.1
  · rw [if_neg (fun z => by have := z.2; omega)]
    exact h.1
theorem TX_yes {ty s c n : Int} {pl pg td : Int → Int} (hs : s = 5 ∨ s = 6) (hn : c + 1 = n) (hv : ∀ j, 0 ≤ j → j < n → pl j = td (2 * j) ∧ pg j = td (2 * j + 1)) : TX ty (ty, s, c, pl, pg) (true, ty, n, td) := by
  refine ⟨?_, ⟨fun _ => hs, fun _ => rfl⟩, fun _ => ⟨hn, hv⟩⟩
  show ty = if true = false ∧ ty < ty then ty else ty
  split <;> rfl
theorem tx_comma {tx : Int → Int} {ty e s n : Int} {pl pg td : Int → Int} {m : Nat} (hs : s = 5 ∨ s = 6) (he : e ≤ ty) (hn : 0 ≤ n ∧ n ≤ 5)
    (hst : e < ty → aSt s (tx e) n pg = aCs (tx e) n ∧ aCu s (tx e) n = aCc (tx e) n ∧ aPl s (tx e) n pl = pl ∧ aPg s (tx e) n pg = pg)
    (hv : ∀ j, 0 ≤ j → j < n + 1 → pl j = td (2 * j) ∧ pg j = td (2 * j + 1))
    (ih : n + 1 ≤ 5 → e + 1 ≤ ty → TX ty (aR tx ty (e + 1) 1 (n + 1) pl pg) (tRun tx ty m (n + 1) (e + 1) td)) :
    TX ty (aR tx ty e s n pl pg) (if (decide (n + 1 < 6) && cA tx ty e 44 44) = true then tRun tx ty m (n + 1) (e + 1) td else (decide (e = ty), e, n + 1, td)) := by
  by_cases c : e = ty
  · have q : ¬ (decide (n + 1 < 6) && cA tx ty e 44 44) = true := fun z => by
      rw [Bool.and_eq_true] at z
      have := cA_lt z.2
      omega
    rw [if_neg q, aR_end c, c, decide_eq_true rfl]
    exact TX_yes hs rfl hv
  · obtain ⟨h1, h2, h3, h4⟩ := hst (by omega)
    by_cases d : tx e = 44 ∧ n < 5
    · have q : (decide (n + 1 < 6) && cA tx ty e 44 44) = true := by
        rw [Bool.and_eq_true]
        exact ⟨decide_eq_true (by omega), decide_eq_true (by omega)⟩
      have a1 : aCs (tx e) n = 1 := if_pos d
      have a2 : aCc (tx e) n = n + 1 := if_pos d
      rw [if_pos q, aR_go (by omega) (by rw [h1, a1]; decide), h1, h2, h3, h4, a1, a2]
      exact ih (by omega) (by omega)
    · have q : ¬ (decide (n + 1 < 6) && cA tx ty e 44 44) = true := fun z => by
        rw [Bool.and_eq_true] at z
        have z1 := of_decide_eq_true z.1
        have z2 := cA_lt z.2
        omega
      have a1 : aCs (tx e) n = 0 := if_neg d
      rw [if_neg q, aR_stop (by omega) (by rw [h1, a1]), decide_eq_false c]
      exact TX_no (Or.inl ⟨rfl, by omega⟩) (by rw [h1, a1]; omega)
theorem tx_digit {tx : Int → Int} {ty d n L : Int} {pl pg td : Int → Int} {m : Nat} (hd : d ≤ ty) (hn : 0 ≤ n ∧ n ≤ 5) (hL : pl n = L) (hv : ∀ j, 0 ≤ j → j < n → pl j = td (2 * j) ∧ pg j = td (2 * j + 1))
    (ih : ∀ (i : Int) (pl2 pg2 td2 : Int → Int), n + 1 ≤ 5 → d ≤ i → i ≤ ty → (∀ j, 0 ≤ j → j < n + 1 → pl2 j = td2 (2 * j) ∧ pg2 j = td2 (2 * j + 1)) → TX ty (aR tx ty i 1 (n + 1) pl2 pg2) (tRun tx ty m (n + 1) i td2)) :
    TX ty (aR tx ty d 4 n pl pg) (if cA tx ty d 49 57 = true then (if (decide (n + 1 < 6) && cA tx ty (cI5 tx ty d) 44 44) = true then tRun tx ty m (n + 1) (cI5 tx ty d + 1) (zu (zu td (2 * n) L) (2 * n + 1) (cPg tx ty d)) else (decide (cI5 tx ty d = ty), cI5 tx ty d, n + 1, zu (zu td (2 * n) L) (2 * n + 1) (cPg tx ty d))) else (false, d, n, td)) := by
  have hv2 : ∀ (v : Int) (pg2 : Int → Int), pg2 n = v → (∀ j, 0 ≤ j → j < n → pg2 j = pg j) → ∀ j, 0 ≤ j → j < n + 1 → pl j = zu (zu td (2 * n) L) (2 * n + 1) v (2 * j) ∧ pg2 j = zu (zu td (2 * n) L) (2 * n + 1) v (2 * j + 1) := by
    intro v pg2 e1 e2 j j0 j1
    by_cases c : j = n
    · subst c
      rw [zu_ne _ _ (by omega), zu_eq, zu_eq]
      exact ⟨hL, e1⟩
    · rw [zu_ne _ _ (by omega), zu_ne _ _ (by omega), zu_ne _ _ (by omega), zu_ne _ _ (by omega), e2 j j0 (by omega)]
      exact hv j j0 (by omega)
  cases h : cA tx ty d 49 57 with
  | false =>
    rw [if_neg (by decide)]
    have hno := cA_no h
    by_cases c : d = ty
    · rw [aR_end c]
      exact TX_no (Or.inr ⟨c, c⟩) (by omega)
    · have a1 : aSt 4 (tx d) n pg = 0 := by
        unfold aSt aDs
        rw [if_neg (by decide), if_neg (by decide), if_neg (by decide), if_pos rfl, if_pos (by omega)]
      rw [aR_stop (by omega) a1, a1]
      exact TX_no (Or.inl ⟨rfl, by omega⟩) (by omega)
  | true =>
    rw [if_pos rfl]
    have hyes := cA_lt h
    have a1 : aSt 4 (tx d) n pg = 5 := by
      unfold aSt aDs
      rw [if_neg (by decide), if_neg (by decide), if_neg (by decide), if_pos rfl, if_neg (by omega)]
    have a2 : aCu 4 (tx d) n = n := by
      unfold aCu
      rw [if_neg (by decide), if_neg (by decide)]
    have a3 : aPl 4 (tx d) n pl = pl := by
      unfold aPl
      rw [if_neg (by decide), if_neg (by decide)]
    have a4 : aPg 4 (tx d) n pg = zu pg n (tx d - 48) := by
      unfold aPg aDp
      rw [if_pos rfl, if_neg (by omega)]
    rw [aR_go hyes.1 (by rw [a1]; decide), a1, a2, a3, a4]
    have b3 (k : Int) : aPl 5 k n pl = pl := by
      unfold aPl
      rw [if_neg (by decide), if_neg (by decide)]
    have p1 : zu pg n (tx d - 48) n = tx d - 48 := zu_eq _ _ _
    cases t : cTen tx ty d with
    | true =>
      have e5 : cI5 tx ty d = d + 2 := by
        unfold cI5
        rw [if_pos t]
      have ep : cPg tx ty d = 10 * tx d + tx (d + 1) - 528 := by
        unfold cPg
        rw [if_pos t]
      unfold cTen at t
      rw [Bool.and_eq_true] at t
      have t1 := cA_lt t.1
      have t2 := of_decide_eq_true t.2
      have b1 : aSt 5 (tx (d + 1)) n (zu pg n (tx d - 48)) = 6 := by
        unfold aSt aEs
        rw [if_neg (by decide), if_neg (by decide), if_neg (by decide), if_neg (by decide), if_pos rfl, p1, if_neg (by omega), if_neg (by omega)]
      have b2 : aCu 5 (tx (d + 1)) n = n := by
        unfold aCu aEc
        rw [if_pos rfl, if_neg (by omega)]
      have b4 : aPg 5 (tx (d + 1)) n (zu pg n (tx d - 48)) = zu (zu pg n (tx d - 48)) n (10 * tx d + tx (d + 1) - 528) := by
        unfold aPg aEp
        rw [if_neg (by decide), if_pos rfl, p1, if_neg (by omega), show 10 * (tx d - 48) + tx (d + 1) - 48 = 10 * tx d + tx (d + 1) - 528 by omega]
      rw [aR_go t1.1 (by rw [b1]; decide), b1, b2, b3, b4, e5, ep, show d + 1 + 1 = d + 2 by omega]
      have w := hv2 (10 * tx d + tx (d + 1) - 528) (zu (zu pg n (tx d - 48)) n (10 * tx d + tx (d + 1) - 528)) (zu_eq _ _ _) (fun j j0 j1 => by rw [zu_ne _ _ (by omega), zu_ne _ _ (by omega)])
      exact tx_comma (Or.inr rfl) (by omega) hn (fun _ => ⟨rfl, rfl, rfl, rfl⟩) w (fun q1 q2 => ih _ _ _ _ q1 (by omega) q2 w)
    | false =>
      have e5 : cI5 tx ty d = d + 1 := by
        unfold cI5
        rw [if_neg (by rw [t]; decide)]
      have ep : cPg tx ty d = tx d - 48 := by
        unfold cPg
        rw [if_neg (by rw [t]; decide)]
      rw [e5, ep]
      have w := hv2 (tx d - 48) (zu pg n (tx d - 48)) p1 (fun j j0 j1 => zu_ne _ _ (by omega))
      by_cases g : d + 1 < ty ∧ 48 ≤ tx (d + 1) ∧ tx (d + 1) ≤ 57
      · have big : 60 < 10 * tx d + tx (d + 1) - 528 := by
          unfold cTen at t
          rw [Bool.and_eq_false_iff] at t
          rcases t with t | t
          · exact absurd g (cA_no t)
          · have := of_decide_eq_false t
            omega
        have b1 : aSt 5 (tx (d + 1)) n (zu pg n (tx d - 48)) = 0 := by
          unfold aSt aEs
          rw [if_neg (by decide), if_neg (by decide), if_neg (by decide), if_neg (by decide), if_pos rfl, p1, if_neg (by omega), if_pos (by omega)]
        have q : ¬ (decide (n + 1 < 6) && cA tx ty (d + 1) 44 44) = true := fun z => by
          rw [Bool.and_eq_true] at z
          have := cA_lt z.2
          omega
        rw [if_neg q, aR_stop g.1 b1, b1, decide_eq_false (show ¬ d + 1 = ty by omega)]
        exact TX_no (Or.inl ⟨rfl, g.1⟩) (by omega)
      · refine tx_comma (Or.inl rfl) (by omega) hn (fun g1 => ?_) w (fun q1 q2 => ih _ _ _ _ q1 (by omega) q2 w)
        have g2 : tx (d + 1) < 48 ∨ 57 < tx (d + 1) := by omega
        refine ⟨?_, ?_, b3 _, ?_⟩
        · unfold aSt aEs
          rw [if_neg (by decide), if_neg (by decide), if_neg (by decide), if_neg (by decide), if_pos rfl, if_pos g2]
        · unfold aCu aEc
          rw [if_pos rfl, if_pos g2]
        · unfold aPg aEp
          rw [if_neg (by decide), if_pos rfl, if_pos (Or.inl g2)]
/-- what comes behind the letter, from its dot on -/
def tDot (tx : Int → Int) (ty : Int) (m : Nat) (n j L : Int) (td : Int → Int) : Bool × Int × Int × (Int → Int) :=
  if cA tx ty j 46 46 = true then (if cA tx ty (j + 1) 49 57 = true then (if (decide (n + 1 < 6) && cA tx ty (cI5 tx ty (j + 1)) 44 44) = true then tRun tx ty m (n + 1) (cI5 tx ty (j + 1) + 1) (zu (zu td (2 * n) L) (2 * n + 1) (cPg tx ty (j + 1))) else (decide (cI5 tx ty (j + 1) = ty), cI5 tx ty (j + 1), n + 1, zu (zu td (2 * n) L) (2 * n + 1) (cPg tx ty (j + 1)))) else (false, j + 1, n, td)) else (false, j, n, td)
theorem tRun_dot (tx : Int → Int) (ty : Int) (m : Nat) (n i : Int) (td : Int → Int) : tRun tx ty (m + 1) n i td = if cA tx ty i 65 90 = true then tDot tx ty m n (cI2 tx ty i) (cLt tx ty i) td else (false, i, n, td) := by
  rw [tRun]
  unfold tDot cOk cMore cEnd tPut cPage cStop
  cases h1 : cA tx ty i 65 90 <;> cases h2 : cA tx ty (cI2 tx ty i) 46 46 <;> cases h3 : cA tx ty (cI2 tx ty i + 1) 49 57 <;> simp
theorem tx_dot {tx : Int → Int} {ty j n L : Int} {pl pg td : Int → Int} {m : Nat} (hd : j ≤ ty) (hn : 0 ≤ n ∧ n ≤ 5) (hL : pl n = L) (hv : ∀ j, 0 ≤ j → j < n → pl j = td (2 * j) ∧ pg j = td (2 * j + 1))
    (ih : ∀ (i : Int) (pl2 pg2 td2 : Int → Int), n + 1 ≤ 5 → j + 1 ≤ i → i ≤ ty → (∀ j, 0 ≤ j → j < n + 1 → pl2 j = td2 (2 * j) ∧ pg2 j = td2 (2 * j + 1)) → TX ty (aR tx ty i 1 (n + 1) pl2 pg2) (tRun tx ty m (n + 1) i td2)) :
    TX ty (aR tx ty j 3 n pl pg) (tDot tx ty m n j L td) := by
  unfold tDot
  cases h : cA tx ty j 46 46 with
  | false =>
    rw [if_neg (by decide)]
    have hno := cA_no h
    by_cases c : j = ty
    · rw [aR_end c]
      exact TX_no (Or.inr ⟨c, c⟩) (by omega)
    · have a1 : aSt 3 (tx j) n pg = 0 := by
        unfold aSt
        rw [if_neg (by decide), if_neg (by decide), if_pos rfl, if_neg (by omega)]
      rw [aR_stop (by omega) a1, a1]
      exact TX_no (Or.inl ⟨rfl, by omega⟩) (by omega)
  | true =>
    rw [if_pos rfl]
    have hyes := cA_lt h
    have a1 : aSt 3 (tx j) n pg = 4 := by
      unfold aSt
      rw [if_neg (by decide), if_neg (by decide), if_pos rfl, if_pos (by omega)]
    have a2 : aCu 3 (tx j) n = n := by
      unfold aCu
      rw [if_neg (by decide), if_neg (by decide)]
    have a3 : aPl 3 (tx j) n pl = pl := by
      unfold aPl
      rw [if_neg (by decide), if_neg (by decide)]
    have a4 : aPg 3 (tx j) n pg = pg := by
      unfold aPg
      rw [if_neg (by decide), if_neg (by decide)]
    rw [aR_go hyes.1 (by rw [a1]; decide), a1, a2, a3, a4]
    exact tx_digit (by omega) hn hL hv ih
theorem tx_run (tx : Int → Int) (ty : Int) : ∀ (m : Nat) (n i : Int) (pl pg td : Int → Int), n + m = 6 → 0 ≤ n → n ≤ 5 → 0 ≤ i → i ≤ ty → (∀ j, 0 ≤ j → j < n → pl j = td (2 * j) ∧ pg j = td (2 * j + 1)) → TX ty (aR tx ty i 1 n pl pg) (tRun tx ty m n i td)
  | 0, n, i, pl, pg, td, h, _, h5, _, _, _ => by omega
  | m + 1, n, i, pl, pg, td, h, h0, h5, i0, i1, hv => by
    have IH : ∀ (i : Int) (pl2 pg2 td2 : Int → Int), n + 1 ≤ 5 → 0 ≤ i → i ≤ ty → (∀ j, 0 ≤ j → j < n + 1 → pl2 j = td2 (2 * j) ∧ pg2 j = td2 (2 * j + 1)) → TX ty (aR tx ty i 1 (n + 1) pl2 pg2) (tRun tx ty m (n + 1) i td2) := fun i pl2 pg2 td2 q1 q2 q3 q4 => tx_run tx ty m (n + 1) i pl2 pg2 td2 (by omega) (by omega) q1 q2 q3 q4
    rw [tRun_dot]
    cases h1 : cA tx ty i 65 90 with
    | false =>
      rw [if_neg (by decide)]
      have hno := cA_no h1
      by_cases c : i = ty
      · rw [aR_end c]
        exact TX_no (Or.inr ⟨c, c⟩) (by omega)
      · have a1 : aSt 1 (tx i) n pg = 0 := by
          unfold aSt aLs
          rw [if_pos rfl, if_pos (by omega)]
        rw [aR_stop (by omega) a1, a1]
        exact TX_no (Or.inl ⟨rfl, by omega⟩) (by omega)
    | true =>
      rw [if_pos rfl]
      have hyes := cA_lt h1
      have a2 : aCu 1 (tx i) n = n := by
        unfold aCu
        rw [if_neg (by decide), if_neg (by decide)]
      have a3 : aPl 1 (tx i) n pl = zu pl n (tx i - 65) := by
        unfold aPl aLp
        rw [if_pos rfl, if_neg (by omega)]
      have a4 : aPg 1 (tx i) n pg = pg := by
        unfold aPg
        rw [if_neg (by decide), if_neg (by decide)]
      by_cases c65 : tx i = 65
      · have a1 : aSt 1 (tx i) n pg = 2 := by
          unfold aSt aLs
          rw [if_pos rfl, if_neg (by omega), if_pos c65]
        rw [aR_go hyes.1 (by rw [a1]; decide), a1, a2, a3, a4]
        cases t : cTwo tx ty i with
        | true =>
          have e2 : cI2 tx ty i = i + 2 := by
            unfold cI2
            rw [if_pos t]
          have el : cLt tx ty i = tx (i + 1) - 39 := by
            unfold cLt
            rw [if_pos t]
          unfold cTwo at t
          rw [Bool.and_eq_true] at t
          have t1 := cA_lt t.2
          have b1 : aSt 2 (tx (i + 1)) n pg = 3 := by
            unfold aSt aMs
            rw [if_neg (by decide), if_pos rfl, if_neg (by omega), if_neg (by omega)]
          have b2 : aCu 2 (tx (i + 1)) n = n := by
            unfold aCu
            rw [if_neg (by decide), if_neg (by decide)]
          have b3 : aPl 2 (tx (i + 1)) n (zu pl n (tx i - 65)) = zu (zu pl n (tx i - 65)) n (tx (i + 1) - 39) := by
            unfold aPl aMp
            rw [if_neg (by decide), if_pos rfl, if_neg (by omega)]
          have b4 : aPg 2 (tx (i + 1)) n pg = pg := by
            unfold aPg
            rw [if_neg (by decide), if_neg (by decide)]
          rw [aR_go t1.1 (by rw [b1]; decide), b1, b2, b3, b4, e2, el, show i + 1 + 1 = i + 2 by omega]
          exact tx_dot (by omega) ⟨h0, h5⟩ (zu_eq _ _ _) (fun j j0 j1 => by
            rw [zu_ne _ _ (by omega), zu_ne _ _ (by omega)]
            exact hv j j0 j1) (fun i pl2 pg2 td2 q1 q2 q3 q4 => IH i pl2 pg2 td2 q1 (by omega) q3 q4)
        | false =>
          have e2 : cI2 tx ty i = i + 1 := by
            unfold cI2
            rw [if_neg (by rw [t]; decide)]
          have el : cLt tx ty i = tx i - 65 := by
            unfold cLt
            rw [if_neg (by rw [t]; decide)]
          have tno : ¬ (i + 1 < ty ∧ 65 ≤ tx (i + 1) ∧ tx (i + 1) ≤ 68) := by
            unfold cTwo at t
            rw [Bool.and_eq_false_iff] at t
            rcases t with t | t
            · exact absurd c65 (of_decide_eq_false t)
            · exact cA_no t
          rw [e2, el]
          unfold tDot
          cases hd : cA tx ty (i + 1) 46 46 with
          | false =>
            rw [if_neg (by decide)]
            have hno := cA_no hd
            by_cases c : i + 1 = ty
            · rw [aR_end c]
              exact TX_no (Or.inr ⟨c, c⟩) (by omega)
            · have b1 : aSt 2 (tx (i + 1)) n pg = 0 := by
                unfold aSt aMs
                rw [if_neg (by decide), if_pos rfl, if_neg (by omega), if_pos (by omega)]
              rw [aR_stop (by omega) b1, b1]
              exact TX_no (Or.inl ⟨rfl, by omega⟩) (by omega)
          | true =>
            rw [if_pos rfl]
            have hy := cA_lt hd
            have b1 : aSt 2 (tx (i + 1)) n pg = 4 := by
              unfold aSt aMs
              rw [if_neg (by decide), if_pos rfl, if_pos (by omega)]
            have b2 : aCu 2 (tx (i + 1)) n = n := by
              unfold aCu
              rw [if_neg (by decide), if_neg (by decide)]
            have b3 : aPl 2 (tx (i + 1)) n (zu pl n (tx i - 65)) = zu pl n (tx i - 65) := by
              unfold aPl aMp
              rw [if_neg (by decide), if_pos rfl, if_pos (by omega)]
            have b4 : aPg 2 (tx (i + 1)) n pg = pg := by
              unfold aPg
              rw [if_neg (by decide), if_neg (by decide)]
            rw [aR_go hy.1 (by rw [b1]; decide), b1, b2, b3, b4]
            exact tx_digit (by omega) ⟨h0, h5⟩ (zu_eq _ _ _) (fun j j0 j1 => by
              rw [zu_ne _ _ (by omega)]
              exact hv j j0 j1) (fun i pl2 pg2 td2 q1 q2 q3 q4 => IH i pl2 pg2 td2 q1 (by omega) q3 q4)
      · have a1 : aSt 1 (tx i) n pg = 3 := by
          unfold aSt aLs
          rw [if_pos rfl, if_neg (by omega), if_neg c65]
        have t : cTwo tx ty i = false := by
          unfold cTwo
          rw [decide_eq_false c65]
          rfl
        have e2 : cI2 tx ty i = i + 1 := by
          unfold cI2
          rw [if_neg (by rw [t]; decide)]
        have el : cLt tx ty i = tx i - 65 := by
          unfold cLt
          rw [if_neg (by rw [t]; decide)]
        rw [aR_go hyes.1 (by rw [a1]; decide), a1, a2, a3, a4, e2, el]
        exact tx_dot (by omega) ⟨h0, h5⟩ (zu_eq _ _ _) (fun j j0 j1 => by
          rw [zu_ne _ _ (by omega)]
          exact hv j j0 j1) (fun i pl2 pg2 td2 q1 q2 q3 q4 => IH i pl2 pg2 td2 q1 (by omega) q3 q4)
theorem tx_all (tx pl pg td : Int → Int) {ty : Int} (h : 0 ≤ ty) : TX ty (aAll tx ty pl pg) (tAll tx ty td) := tx_run tx ty 6 0 0 pl pg td (by omega) (by omega) (by omega) (by omega) h (fun j j0 j1 => by omega)
theorem tx_first (tx pl pg td : Int → Int) {ty : Int} (h : 0 ≤ ty) : (aAll tx ty pl pg).1 = sFirst tx ty td := (tx_all tx pl pg td h).1
theorem aR_px (cds : Int → Int) (len : Int) : ∀ (m : Nat) (i s c : Int) (pl pg : Int → Int), (∀ j, 0 ≤ pg j ∧ pg j ≤ 60) → 0 ≤ s ∧ s ≤ 6 → 0 ≤ c ∧ c ≤ 5 → (∀ j, 0 ≤ (aRun cds len m i s c pl pg).2.2.2.2 j ∧ (aRun cds len m i s c pl pg).2.2.2.2 j ≤ 60) ∧ (0 ≤ (aRun cds len m i s c pl pg).2.1 ∧ (aRun cds len m i s c pl pg).2.1 ≤ 6) ∧ (0 ≤ (aRun cds len m i s c pl pg).2.2.1 ∧ (aRun cds len m i s c pl pg).2.2.1 ≤ 5)
  | 0, i, s, c, pl, pg, h, hs, hc => ⟨h, hs, hc⟩
  | m + 1, i, s, c, pl, pg, h, hs, hc => by
    have g := aPg_rng (s := s) (k := cds i) (cur := c) h
    have q := aSt_rng s (cds i) c pg
    have r := aCu_rng (s := s) (k := cds i) hc
    rw [aRun]
    by_cases d : aSt s (cds i) c pg = 0
    · rw [if_pos d]
      exact ⟨g, q, r⟩
    · rw [if_neg d]
      exact aR_px cds len m (i + 1) _ _ _ _ g q r
theorem aAll_px {cds pl pg : Int → Int} {len : Int} (h : ∀ j, 0 ≤ pg j ∧ pg j ≤ 60) : (∀ j, 0 ≤ (aAll cds len pl pg).2.2.2.2 j ∧ (aAll cds len pl pg).2.2.2.2 j ≤ 60) ∧ (0 ≤ (aAll cds len pl pg).2.1 ∧ (aAll cds len pl pg).2.1 ≤ 6) ∧ (0 ≤ (aAll cds len pl pg).2.2.1 ∧ (aAll cds len pl pg).2.2.1 ≤ 5) := aR_px cds len _ 0 1 0 pl pg h (by omega) (by omega)
end ZTX
