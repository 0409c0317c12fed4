/-! the class: its trials -/
section ZIT
theorem zT_fac {g A : Int → Int} {k v : Int} (h : ∀ j, 0 ≤ j → j < k → g j = A j) (hv : v = A k) : ∀ j, 0 ≤ j → j < k + 1 → zu g k v j = A j := by
  intro j j0 j1
  by_cases c : j = k
  · subst c
    rw [zu_eq]
    exact hv
  · rw [zu_ne _ _ c]
    exact h j j0 (by omega)
theorem zT_hit {g np pg : Int → Int} {n k : Int} (hk : 0 ≤ k ∧ k < n) (hi : ∀ i j, 0 ≤ i → i < j → j < n → np i ≠ -1 → np i ≠ np j) (h : ∀ j, 0 ≤ j → j < k → np j ≠ -1 → g (np j) = pg j) : ∀ j, 0 ≤ j → j < k + 1 → np j ≠ -1 → zu g (np k) (pg k) (np j) = pg j := by
  intro j j0 j1 j2
  by_cases c : j = k
  · subst c
    rw [zu_eq]
  · rw [zu_ne _ _ (hi j k j0 (by omega) hk.2 j2)]
    exact h j j0 (by omega) j2
theorem zT_skip {g np pg : Int → Int} {k : Int} (hk : np k = -1) (h : ∀ j, 0 ≤ j → j < k → np j ≠ -1 → g (np j) = pg j) : ∀ j, 0 ≤ j → j < k + 1 → np j ≠ -1 → g (np j) = pg j := by
  intro j j0 j1 j2
  exact h j j0 (by have q9 : j ≠ k := fun e9 => j2 (e9 ▸ hk); omega) j2
theorem zT_rng {g : Int → Int} {k v : Int} (h : ∀ j, 0 ≤ j → j ≤ 29 → -1 ≤ g j ∧ g j ≤ 30) (hv : -1 ≤ v ∧ v ≤ 30) : ∀ j, 0 ≤ j → j ≤ 29 → -1 ≤ zu g k v j ∧ zu g k v j ≤ 30 := by
  intro j j0 j1
  simp only [zu]
  split
  · exact hv
  · exact h j j0 j1
def iNI (p : Int) : Int → Int := fun j => if j < p then j else j + 1
def iNO (p : Int) : Int → Int := fun j => if j = p then -1 else if j < p then j else j - 1
def iNM (p t : Int) : Int → Int := fun j => if j = p then t else if j < p then (if j < t then j else j + 1) else (if j - 1 < t then j - 1 else j)
theorem zT_in {w pg : Int → Int} {n p y : Int} (h0 : 0 ≤ p ∧ p ≤ n) (h : ∀ j, 0 ≤ j → j < n → iNI p j ≠ -1 → w (iNI p j) = pg j) : ∀ j, 0 ≤ j → j < n + 1 → zu w p y j = zIn pg n p y j := by
  intro j j0 j1
  unfold zIn
  by_cases c : j = p
  · rw [if_pos c, c, zu_eq]
  · rw [zu_ne _ _ c, if_neg c]
    by_cases d : p < j ∧ j ≤ n
    · rw [if_pos d]
      have q := h (j - 1) (by omega) (by omega)
      have e9 : iNI p (j - 1) = j := by unfold iNI; rw [if_neg (by omega)]; omega
      rw [e9] at q
      exact q (by omega)
    · rw [if_neg d]
      have q := h j (by omega) (by omega)
      have e9 : iNI p j = j := by unfold iNI; rw [if_pos (by omega)]
      rw [e9] at q
      exact q (by omega)
theorem zT_out {w pg : Int → Int} {n p : Int} (h0 : 0 ≤ p ∧ p < n) (h : ∀ j, 0 ≤ j → j < n → iNO p j ≠ -1 → w (iNO p j) = pg j) : ∀ j, 0 ≤ j → j < n - 1 → w j = zOut pg n p j := by
  intro j j0 j1
  unfold zOut
  by_cases d : p ≤ j ∧ j < n - 1
  · rw [if_pos d]
    have q := h (j + 1) (by omega) (by omega)
    have e9 : iNO p (j + 1) = j := by unfold iNO; rw [if_neg (by omega), if_neg (by omega)]; omega
    rw [e9] at q
    exact q (by omega)
  · rw [if_neg d]
    have q := h j (by omega) (by omega)
    have e9 : iNO p j = j := by unfold iNO; rw [if_neg (by omega), if_pos (by omega)]
    rw [e9] at q
    exact q (by omega)
theorem zT_mov {w pg : Int → Int} {n p t : Int} (h0 : 0 ≤ p ∧ p < n) (h1 : 0 ≤ t ∧ t < n) (h : ∀ j, 0 ≤ j → j < n → iNM p t j ≠ -1 → w (iNM p t j) = pg j) : ∀ j, 0 ≤ j → j < n → w j = zIn (zOut pg n p) (n - 1) t (pg p) j := by
  intro j j0 j1
  have key : ∀ i, 0 ≤ i → i < n → iNM p t i = j → w j = pg i := by
    intro i i0 i1 i2
    have q := h i i0 i1 (by omega)
    rw [i2] at q
    exact q
  unfold zIn
  by_cases c : j = t
  · rw [if_pos c]
    exact key p (by omega) (by omega) (by unfold iNM; rw [if_pos rfl]; omega)
  · rw [if_neg c]
    by_cases d : t < j ∧ j ≤ n - 1
    · rw [if_pos d]
      unfold zOut
      by_cases b : p ≤ j - 1 ∧ j - 1 < n - 1
      · rw [if_pos b]
        refine key (j - 1 + 1) (by omega) (by omega) ?_
        unfold iNM
        rw [if_neg (by omega), if_neg (by omega), if_neg (by omega)]
        omega
      · rw [if_neg b]
        refine key (j - 1) (by omega) (by omega) ?_
        unfold iNM
        rw [if_neg (by omega), if_pos (by omega), if_neg (by omega)]
        omega
    · rw [if_neg d]
      unfold zOut
      by_cases b : p ≤ j ∧ j < n - 1
      · rw [if_pos b]
        refine key (j + 1) (by omega) (by omega) ?_
        unfold iNM
        rw [if_neg (by omega), if_neg (by omega), if_pos (by omega)]
        omega
      · rw [if_neg b]
        refine key j (by omega) (by omega) ?_
        unfold iNM
        rw [if_neg (by omega), if_pos (by omega), if_pos (by omega)]
theorem zT_inj {w A : Int → Int} {n : Int} (hA : ∀ i j, 0 ≤ i → i < j → j < n → A i ≠ -1 → A i ≠ A j) (h : ∀ j, 0 ≤ j → j < n → w j = A j) : ∀ i j, 0 ≤ i → i < j → j < n → w i ≠ -1 → w i ≠ w j := by
  intro i j i0 i1 i2
  rw [h i i0 (by omega), h j (by omega) i2]
  exact hA i j i0 i1 i2
theorem zT_lay {w W A pg : Int → Int} {n : Int} (h : ∀ j, 0 ≤ j → j < n → w j = A j) (hw : ∀ j, 0 ≤ j → j < n → w j ≠ -1 → W (w j) = pg j) : ∀ j, 0 ≤ j → j < n → A j ≠ -1 → W (A j) = pg j := by
  intro j j0 j1
  rw [← h j j0 j1]
  exact hw j j0 j1
theorem iNI_inj (p n : Int) : ∀ i j, 0 ≤ i → i < j → j < n → iNI p i ≠ -1 → iNI p i ≠ iNI p j := by
  intro i j i0 i1 i2 i3
  unfold iNI
  split <;> split <;> omega
theorem iNO_inj (p n : Int) : ∀ i j, 0 ≤ i → i < j → j < n → iNO p i ≠ -1 → iNO p i ≠ iNO p j := by
  intro i j i0 i1 i2
  unfold iNO
  split <;> split <;> (try split) <;> (try split) <;> omega
theorem iNM_inj (p t n : Int) : ∀ i j, 0 ≤ i → i < j → j < n → iNM p t i ≠ -1 → iNM p t i ≠ iNM p t j := by
  intro i j i0 i1 i2 i3
  unfold iNM
  by_cases a1 : i = p <;> by_cases a2 : j = p <;> by_cases a3 : i < p <;> by_cases a4 : j < p <;> by_cases a5 : i < t <;> by_cases a6 : j < t <;> by_cases a7 : i - 1 < t <;> by_cases a8 : j - 1 < t <;> simp only [a1, a2, a3, a4, a5, a6, a7, a8, if_true, if_false] <;> omega

set_option maxRecDepth 20000 in
theorem hin_X6_layPages_X1 : ∀ w ∈ wsX10, w ∈ wsX6_layPages := by decide +kernel
set_option maxRecDepth 20000 in
theorem hin_X6_layPages_X6 : ∀ w ∈ wsX60, w ∈ wsX6_layPages := by decide +kernel
set_option maxHeartbeats 4000000 in
set_option maxRecDepth 100000 in
theorem m_X6_layPages (l : Launch) (g : zG) (C : Nat → va_E) (tc : Int) (np : Int → Int) (tp : Int → Int) (cnt : Int) (nxt : Int) (bp : Int) (pgs : Int → Int) (hTr : C 18 = .inr (6, [.ref (aD g 19), .ref (aD g 20), .int (iZ tc)])) (hTn : C 19 = eI g 30 np) (hTp : C 20 = eI g 31 tp) (hEx : C 2 = .inr (1, [.ref (aD g 3), .ref (aD g 4), .int (iZ cnt), .int (iZ nxt), .int (iZ bp)])) (hPgs : C 4 = eI g 30 pgs) (hcnt : 0 ≤ cnt ∧ cnt ≤ 30) (hnp : ∀ j, 0 ≤ j → j ≤ 29 → -1 ≤ np j ∧ np j ≤ 30) (hinj : ∀ i j, 0 ≤ i → i < j → j < cnt → np i ≠ -1 → np i ≠ np j) : Met l yX6_layPages wsX6_layPages ({ frames := 0, cells := 0, slots := 0, locals := 0 } : Room) (zPre g C [.ref (aD g 18), .ref (aD g 2)]) (zQv g (fun C' => ∃ w20 : Int → Int, C' = va_up C 20 (eI g 31 w20) ∧ (∀ j, 0 ≤ j → j < cnt → np j ≠ -1 → w20 (np j) = pgs j))) 0 0 (zA g) := by
  refine z_enter RX6 rfl (by decide) rfl (Nat.le_of_ble_eq_true rfl) ?_
  intro p e s m args below meth c K harg
  refine z_sub (lv' := [(0, .ref (aD g 18)), (1, .ref (aD g 2))]) [0, 1] rfl ?_
  refine z_iconst 1 K dX6_layPages_0 rfl ?_
  refine z_istore_n (lv' := [(2, .int (iZ 0)), (0, .ref (aD g 18)), (1, .ref (aD g 2))]) 2 K dX6_layPages_1 rfl rfl (by decide) rfl ?_
  have loop_2 : ∀ (n9 : Nat) (g20 : Int → Int) (kk : Int), (0 ≤ kk ∧ kk ≤ cnt) → (∀ j, 0 ≤ j → j < kk → np j ≠ -1 → g20 (np j) = pgs j) → (cnt - kk < (n9 : Int)) → Z p l e (({ frames := 0, cells := 0, slots := 0, locals := 0 } : Room)) s m args below meth c (MQ below (zQv g (fun C' => ∃ w20 : Int → Int, C' = va_up C 20 (eI g 31 w20) ∧ (∀ j, 0 ≤ j → j < cnt → np j ≠ -1 → w20 (np j) = pgs j))) args s 0 0 (zA g)) g 3 0 0 (va_up C 20 (eI g 31 g20)) [(0, .ref (aD g 18)), (1, .ref (aD g 2)), (2, .int (iZ kk))] 2 [] := by
    intro n9
    induction n9 with
    | zero =>
      intro g20 kk hkk hly hm9
      exact absurd hm9 (by omega)
    | succ n9 ih9 =>
      intro g20 kk hkk hly hm_2
      have ih_2 := ih9
      clear ih9
      refine z_iload_n 3 K dX6_layPages_2 rfl rfl 2 rfl ?_
      refine z_aload_n 4 K dX6_layPages_3 rfl rfl 1 rfl ?_
      refine z_get 7 K hin_X6_layPages_X1 2 (by decide) ((va_up_ne _ _ (by decide)).trans hEx) rfl 2 (by decide) (by decide +kernel : Cond.fieldLink RX6 22 "BriefBuilder$Exhibits" "count" "I" ∈ wsX6_layPages) (fun _ h9 => h9) rfl dX6_layPages_4 rfl ?_
      refine z_icmp_ge (tgt := 43) 10 K dX6_layPages_7 rfl (by decide) (by omega) (by omega) (fun c_7 => ?_) (fun c_7 => ?_)
      · skip
        have ek : kk = cnt := by omega
        rw [ek] at hly
        exact z_vret K rfl dX6_layPages_43 ⟨g20, rfl, hly⟩
      · skip
        have hn9 := hnp kk (by omega) (by omega)
        refine z_aload_n 11 K dX6_layPages_10 rfl rfl 0 rfl ?_
        refine z_get 14 K hin_X6_layPages_X6 18 (by decide) ((va_up_ne _ _ (by decide)).trans hTr) rfl 0 (by decide) (by decide +kernel : Cond.fieldLink RX6 9 "BriefBuilder$Trial" "newPlaces" "[I" ∈ wsX6_layPages) (fun _ h9 => h9) rfl dX6_layPages_11 rfl ?_
        refine z_iload_n 15 K dX6_layPages_14 rfl rfl 2 rfl ?_
        refine z_iald (f := np) 16 K 19 (by decide) ((va_up_ne _ _ (by decide)).trans hTn) (by omega) (by omega) (by decide) dX6_layPages_15 rfl ?_
        refine z_iconst 17 K dX6_layPages_16 rfl ?_
        refine z_icmp_eq (tgt := 37) 20 K dX6_layPages_17 rfl (by decide) (by omega) (by decide) (fun c_17 => ?_) (fun c_17 => ?_)
        · skip
          refine z_iinc (lv' := [(2, .int (iZ (kk + 1))), (0, .ref (aD g 18)), (1, .ref (aD g 2))]) 40 K dX6_layPages_37 rfl (kk + 1) rfl 2 rfl (by decide) rfl ?_
          refine z_goto (tgt := 2) K dX6_layPages_40 (by decide) ?_
          refine z_sub [1, 2, 0] rfl ?_
          exact ih_2 g20 (kk + 1) (by omega) (by first | (have q9 : np kk ≠ -1 := (by omega); exact zT_hit (by omega) hinj hly) | (have q9 : np kk = -1 := (by omega); exact zT_skip q9 hly)) (by omega)
        · skip
          refine z_aload_n 21 K dX6_layPages_20 rfl rfl 0 rfl ?_
          refine z_get 24 K hin_X6_layPages_X6 18 (by decide) ((va_up_ne _ _ (by decide)).trans hTr) rfl 1 (by decide) (by decide +kernel : Cond.fieldLink RX6 15 "BriefBuilder$Trial" "pages" "[I" ∈ wsX6_layPages) (fun _ h9 => h9) rfl dX6_layPages_21 rfl ?_
          refine z_aload_n 25 K dX6_layPages_24 rfl rfl 0 rfl ?_
          refine z_get 28 K hin_X6_layPages_X6 18 (by decide) ((va_up_ne _ _ (by decide)).trans hTr) rfl 0 (by decide) (by decide +kernel : Cond.fieldLink RX6 9 "BriefBuilder$Trial" "newPlaces" "[I" ∈ wsX6_layPages) (fun _ h9 => h9) rfl dX6_layPages_25 rfl ?_
          refine z_iload_n 29 K dX6_layPages_28 rfl rfl 2 rfl ?_
          refine z_iald (f := np) 30 K 19 (by decide) ((va_up_ne _ _ (by decide)).trans hTn) (by omega) (by omega) (by decide) dX6_layPages_29 rfl ?_
          refine z_aload_n 31 K dX6_layPages_30 rfl rfl 1 rfl ?_
          refine z_get 34 K hin_X6_layPages_X1 2 (by decide) ((va_up_ne _ _ (by decide)).trans hEx) rfl 1 (by decide) (by decide +kernel : Cond.fieldLink RX6 29 "BriefBuilder$Exhibits" "pages" "[I" ∈ wsX6_layPages) (fun _ h9 => h9) rfl dX6_layPages_31 rfl ?_
          refine z_iload_n 35 K dX6_layPages_34 rfl rfl 2 rfl ?_
          refine z_iald (f := pgs) 36 K 4 (by decide) ((va_up_ne _ _ (by decide)).trans hPgs) (by omega) (by omega) (by decide) dX6_layPages_35 rfl ?_
          refine z_iast (f := g20) 37 K 20 (by decide) (va_up_eq _ 20 _) (by omega) (by omega) (by decide) dX6_layPages_36 rfl ?_
          refine z_C (va_uu _ _ _ _) ?_
          refine z_iinc (lv' := [(2, .int (iZ (kk + 1))), (0, .ref (aD g 18)), (1, .ref (aD g 2))]) 40 K dX6_layPages_37 rfl (kk + 1) rfl 2 rfl (by decide) rfl ?_
          refine z_goto (tgt := 2) K dX6_layPages_40 (by decide) ?_
          refine z_sub [1, 2, 0] rfl ?_
          exact ih_2 (zu g20 (np kk) (pgs kk)) (kk + 1) (by omega) (by first | (have q9 : np kk ≠ -1 := (by omega); exact zT_hit (by omega) hinj hly) | (have q9 : np kk = -1 := (by omega); exact zT_skip q9 hly)) (by omega)
  refine z_sub [1, 2, 0] rfl ?_
  refine z_C (va_us hTp).symm ?_
  exact loop_2 (Int.toNat (cnt - 0) + 1) tp 0 (by omega) (fun j h0 h1 => absurd h1 (by omega)) (by omega)

set_option maxRecDepth 20000 in
theorem hin_X6_dropOne_X1 : ∀ w ∈ wsX10, w ∈ wsX6_dropOne := by decide +kernel
set_option maxRecDepth 20000 in
theorem hin_X6_dropOne_X6 : ∀ w ∈ wsX60, w ∈ wsX6_dropOne := by decide +kernel
set_option maxHeartbeats 4000000 in
set_option maxRecDepth 100000 in
theorem m_X6_dropOne (l : Launch) (g : zG) (C : Nat → va_E) (p0 : Int) (tc : Int) (np : Int → Int) (tp : Int → Int) (cnt : Int) (nxt : Int) (bp : Int) (pgs : Int → Int) (hTr : C 18 = .inr (6, [.ref (aD g 19), .ref (aD g 20), .int (iZ tc)])) (hTn : C 19 = eI g 30 np) (hTp : C 20 = eI g 31 tp) (hEx : C 2 = .inr (1, [.ref (aD g 3), .ref (aD g 4), .int (iZ cnt), .int (iZ nxt), .int (iZ bp)])) (hPgs : C 4 = eI g 30 pgs) (hnp : ∀ j, 0 ≤ j → j ≤ 29 → -1 ≤ np j ∧ np j ≤ 30) (hcnt : 0 ≤ cnt ∧ cnt ≤ 30) (hp : 0 ≤ p0 ∧ p0 < cnt) : Met l yX6_dropOne wsX6_dropOne ({ frames := 1, cells := 0, slots := 0, locals := 22 } : Room) (zPre g C [.ref (aD g 18), .ref (aD g 2), .int (iZ p0)]) (zQv g (fun C' => ∃ w19 w20 : Int → Int, C' = va_up (va_up (va_up C 19 (eI g 30 w19)) 20 (eI g 31 w20)) 18 (.inr (6, [.ref (aD g 19), .ref (aD g 20), .int (iZ (cnt - 1))])) ∧ (∀ j, 0 ≤ j → j < cnt → w19 j = iNO p0 j) ∧ (∀ j, 0 ≤ j → j < cnt - 1 → w20 j = zOut pgs cnt p0 j) ∧ (∀ j, 0 ≤ j → j ≤ 29 → -1 ≤ w19 j ∧ w19 j ≤ 30))) 0 0 (zA g) := by
  refine z_enter RX6 rfl (by decide) rfl (Nat.le_of_ble_eq_true rfl) ?_
  intro p e s m args below meth c K harg
  refine z_sub (lv' := [(0, .ref (aD g 18)), (1, .ref (aD g 2)), (2, .int (iZ p0))]) [0, 1, 2] rfl ?_
  refine z_iconst 1 K dX6_dropOne_0 rfl ?_
  refine z_istore_n (lv' := [(3, .int (iZ 0)), (0, .ref (aD g 18)), (1, .ref (aD g 2)), (2, .int (iZ p0))]) 2 K dX6_dropOne_1 rfl rfl (by decide) rfl ?_
  have loop_2 : ∀ (n9 : Nat) (g19 : Int → Int) (kk : Int), (0 ≤ kk ∧ kk ≤ cnt) → (∀ j, 0 ≤ j → j < kk → g19 j = if j < p0 then j else j - 1) → (∀ j, 0 ≤ j → j ≤ 29 → -1 ≤ g19 j ∧ g19 j ≤ 30) → (cnt - kk < (n9 : Int)) → Z p l e (({ frames := 1, cells := 0, slots := 0, locals := 22 } : Room)) s m args below meth c (MQ below (zQv g (fun C' => ∃ w19 w20 : Int → Int, C' = va_up (va_up (va_up C 19 (eI g 30 w19)) 20 (eI g 31 w20)) 18 (.inr (6, [.ref (aD g 19), .ref (aD g 20), .int (iZ (cnt - 1))])) ∧ (∀ j, 0 ≤ j → j < cnt → w19 j = iNO p0 j) ∧ (∀ j, 0 ≤ j → j < cnt - 1 → w20 j = zOut pgs cnt p0 j) ∧ (∀ j, 0 ≤ j → j ≤ 29 → -1 ≤ w19 j ∧ w19 j ≤ 30))) args s 0 0 (zA g)) g 4 0 0 (va_up C 19 (eI g 30 g19)) [(0, .ref (aD g 18)), (1, .ref (aD g 2)), (2, .int (iZ p0)), (3, .int (iZ kk))] 2 [] := by
    intro n9
    induction n9 with
    | zero =>
      intro g19 kk hkk hf hr hm9
      exact absurd hm9 (by omega)
    | succ n9 ih9 =>
      intro g19 kk hkk hf hr hm_2
      have ih_2 := ih9
      clear ih9
      refine z_iload_n 3 K dX6_dropOne_2 rfl rfl 3 rfl ?_
      refine z_aload_n 4 K dX6_dropOne_3 rfl rfl 1 rfl ?_
      refine z_get 7 K hin_X6_dropOne_X1 2 (by decide) ((va_up_ne _ _ (by decide)).trans hEx) rfl 2 (by decide) (by decide +kernel : Cond.fieldLink RX6 22 "BriefBuilder$Exhibits" "count" "I" ∈ wsX6_dropOne) (fun _ h9 => h9) rfl dX6_dropOne_4 rfl ?_
      refine z_icmp_ge (tgt := 34) 10 K dX6_dropOne_7 rfl (by decide) (by omega) (by omega) (fun c_7 => ?_) (fun c_7 => ?_)
      · skip
        have ek : kk = cnt := by omega
        rw [ek] at hf
        have hf9 : ∀ j, 0 ≤ j → j < cnt → zu g19 p0 (-1) j = iNO p0 j := by
          intro j j0 j1
          simp only [zu, iNO]
          split
          · rfl
          · exact hf j j0 j1
        have hr9 := zT_rng (k := p0) (v := -1) hr (by omega)
        refine z_aload_n 35 K dX6_dropOne_34 rfl rfl 0 rfl ?_
        refine z_get 38 K hin_X6_dropOne_X6 18 (by decide) ((va_up_ne _ _ (by decide)).trans hTr) rfl 0 (by decide) (by decide +kernel : Cond.fieldLink RX6 9 "BriefBuilder$Trial" "newPlaces" "[I" ∈ wsX6_dropOne) (fun _ h9 => h9) rfl dX6_dropOne_35 rfl ?_
        refine z_iload_n 39 K dX6_dropOne_38 rfl rfl 2 rfl ?_
        refine z_iconst 40 K dX6_dropOne_39 rfl ?_
        refine z_iast (f := g19) 41 K 19 (by decide) (va_up_eq _ 19 _) (by omega) (by omega) (by decide) dX6_dropOne_40 rfl ?_
        refine z_C (va_uu _ _ _ _) ?_
        refine z_aload_n 42 K dX6_dropOne_41 rfl rfl 0 rfl ?_
        refine z_aload_n 43 K dX6_dropOne_42 rfl rfl 1 rfl ?_
        refine z_vVv (As := [.ref (aD g 2)]) (rest := []) 46 K 18 (by decide) ((va_up_ne _ _ (by decide)).trans hTr) rfl rfl (m_X6_layPages l g _ tc (zu g19 p0 (-1)) tp cnt nxt bp pgs ((va_up_ne _ _ (by decide)).trans hTr) (va_up_eq _ 19 _) ((va_up_ne _ _ (by decide)).trans hTp) ((va_up_ne _ _ (by decide)).trans hEx) ((va_up_ne _ _ (by decide)).trans hPgs) (by omega) hr9 (zT_inj (iNO_inj p0 cnt) hf9)) (cwV 1 K.1.2.2.2.2 gX6_dropOne_X6_layPages rfl rfl rfl (by decide +kernel) ⟨Nat.le_of_ble_eq_true rfl, Nat.le_of_ble_eq_true rfl⟩) rfl (Nat.le_of_ble_eq_true rfl) dX6_dropOne_43 rfl ⟨Nat.le_of_ble_eq_true rfl, Nat.le_of_ble_eq_true rfl⟩ rfl (fun C_2 hp_43 => ?_)
        obtain ⟨w20_3, hC_43, hly_43⟩ := hp_43
        refine z_C hC_43 ?_
        refine z_aload_n 47 K dX6_dropOne_46 rfl rfl 0 rfl ?_
        refine z_aload_n 48 K dX6_dropOne_47 rfl rfl 1 rfl ?_
        refine z_get 51 K hin_X6_dropOne_X1 2 (by decide) ((va_up_ne _ _ (by decide)).trans ((va_up_ne _ _ (by decide)).trans hEx)) rfl 2 (by decide) (by decide +kernel : Cond.fieldLink RX6 22 "BriefBuilder$Exhibits" "count" "I" ∈ wsX6_dropOne) (fun _ h9 => h9) rfl dX6_dropOne_48 rfl ?_
        refine z_iconst 52 K dX6_dropOne_51 rfl ?_
        refine z_isub 53 K dX6_dropOne_52 rfl ?_
        refine z_put (ty := .int) 56 K hin_X6_dropOne_X6 tyX6 tyX6_ok nmX6 18 (by decide) ((va_up_ne _ _ (by decide)).trans ((va_up_ne _ _ (by decide)).trans hTr)) rfl 2 (by decide) (by decide +kernel : Cond.fieldLink RX6 18 "BriefBuilder$Trial" "count" "I" ∈ wsX6_dropOne) (fun _ h9 => h9) rfl (by decide +kernel) rfl rfl (Nat.le_of_ble_eq_true rfl) dX6_dropOne_53 rfl ?_
        show Z p l e (({ frames := 1, cells := 0, slots := 0, locals := 22 } : Room)) s m args below meth c (MQ below (zQv g (fun C' => ∃ w19 w20 : Int → Int, C' = va_up (va_up (va_up C 19 (eI g 30 w19)) 20 (eI g 31 w20)) 18 (.inr (6, [.ref (aD g 19), .ref (aD g 20), .int (iZ (cnt - 1))])) ∧ (∀ j, 0 ≤ j → j < cnt → w19 j = iNO p0 j) ∧ (∀ j, 0 ≤ j → j < cnt - 1 → w20 j = zOut pgs cnt p0 j) ∧ (∀ j, 0 ≤ j → j ≤ 29 → -1 ≤ w19 j ∧ w19 j ≤ 30))) args s 0 0 (zA g)) g _ _ _ (va_up (va_up (va_up C 19 (eI g 30 (zu g19 p0 (-1)))) 20 (eI g 31 w20_3)) 18 (.inr (6, [.ref (aD g 19), .ref (aD g 20), .int (iZ (cnt - 1))]))) [(0, .ref (aD g 18)), (1, .ref (aD g 2)), (2, .int (iZ p0)), (3, .int (iZ kk))] 56 []
        have hp9 := zT_out hp (zT_lay hf9 hly_43)
        exact z_vret K rfl dX6_dropOne_56 ⟨_, _, rfl, hf9, hp9, hr9⟩
      · skip
        refine z_aload_n 11 K dX6_dropOne_10 rfl rfl 0 rfl ?_
        refine z_get 14 K hin_X6_dropOne_X6 18 (by decide) ((va_up_ne _ _ (by decide)).trans hTr) rfl 0 (by decide) (by decide +kernel : Cond.fieldLink RX6 9 "BriefBuilder$Trial" "newPlaces" "[I" ∈ wsX6_dropOne) (fun _ h9 => h9) rfl dX6_dropOne_11 rfl ?_
        refine z_iload_n 15 K dX6_dropOne_14 rfl rfl 3 rfl ?_
        refine z_iload_n 16 K dX6_dropOne_15 rfl rfl 3 rfl ?_
        refine z_iload_n 17 K dX6_dropOne_16 rfl rfl 2 rfl ?_
        have join_27_j_4 : ∀ (nl : Int), (nl = if kk < p0 then kk else kk - 1) → (-1 ≤ nl ∧ nl ≤ 30) → Z p l e (({ frames := 1, cells := 0, slots := 0, locals := 22 } : Room)) s m args below meth c (MQ below (zQv g (fun C' => ∃ w19 w20 : Int → Int, C' = va_up (va_up (va_up C 19 (eI g 30 w19)) 20 (eI g 31 w20)) 18 (.inr (6, [.ref (aD g 19), .ref (aD g 20), .int (iZ (cnt - 1))])) ∧ (∀ j, 0 ≤ j → j < cnt → w19 j = iNO p0 j) ∧ (∀ j, 0 ≤ j → j < cnt - 1 → w20 j = zOut pgs cnt p0 j) ∧ (∀ j, 0 ≤ j → j ≤ 29 → -1 ≤ w19 j ∧ w19 j ≤ 30))) args s 0 0 (zA g)) g 4 0 0 (va_up C 19 (eI g 30 g19)) [(0, .ref (aD g 18)), (1, .ref (aD g 2)), (2, .int (iZ p0)), (3, .int (iZ kk))] 27 [.int (iZ nl), .int (iZ kk), .ref (aD g 19)] := by
          intro nl  hnl hnr
          refine z_iast (f := g19) 28 K 19 (by decide) (va_up_eq _ 19 _) (by omega) (by omega) (by decide) dX6_dropOne_27 rfl ?_
          refine z_C (va_uu _ _ _ _) ?_
          refine z_iinc (lv' := [(3, .int (iZ (kk + 1))), (0, .ref (aD g 18)), (1, .ref (aD g 2)), (2, .int (iZ p0))]) 31 K dX6_dropOne_28 rfl (kk + 1) rfl 3 rfl (by decide) rfl ?_
          refine z_goto (tgt := 2) K dX6_dropOne_31 (by decide) ?_
          refine z_sub [1, 2, 3, 0] rfl ?_
          exact ih_2 (zu g19 kk nl) (kk + 1) (by omega) (zT_fac (A := fun j => if j < p0 then j else j - 1) hf (by exact hnl)) (zT_rng hr (by omega)) (by omega)
        refine z_icmp_ge (tgt := 24) 20 K dX6_dropOne_17 rfl (by decide) (by omega) (by omega) (fun c_17 => ?_) (fun c_17 => ?_)
        · skip
          refine z_iload_n 25 K dX6_dropOne_24 rfl rfl 3 rfl ?_
          refine z_iconst 26 K dX6_dropOne_25 rfl ?_
          refine z_isub 27 K dX6_dropOne_26 rfl ?_
          exact join_27_j_4 (kk - 1) (by first | (have q9 : kk < p0 := (by omega); rw [if_pos q9]) | (have q9 : ¬ kk < p0 := (by omega); rw [if_neg q9])) (by omega)
        · skip
          refine z_iload_n 21 K dX6_dropOne_20 rfl rfl 3 rfl ?_
          refine z_goto (tgt := 27) K dX6_dropOne_21 (by decide) ?_
          exact join_27_j_4 kk (by first | (have q9 : kk < p0 := (by omega); rw [if_pos q9]) | (have q9 : ¬ kk < p0 := (by omega); rw [if_neg q9])) (by omega)
  refine z_sub [1, 2, 3, 0] rfl ?_
  refine z_C (va_us hTn).symm ?_
  exact loop_2 (Int.toNat (cnt - 0) + 1) np 0 (by omega) (fun j h0 h1 => absurd h1 (by omega)) hnp (by omega)

end ZIT
