/-! the reference: what writes a row -/
section ZMW
set_option maxHeartbeats 4000000 in
set_option maxRecDepth 100000 in
theorem m_X9_copies (l : Launch) (g : zG) (C : Nat → va_E) (q : Nat) (sp : Int) (r : Nat) (dp : Int) (f : Int → Int) (h : Int → Int) (n1 : Nat) (n2 : Nat) (hz_hC : q < zN) (hC : C q = eI g n1 f) (hz_hR : r < zN) (hR : C r = eI g n2 h) (hqr : q ≠ r) (hs : 0 ≤ sp ∧ sp + 449 ≤ n1 ∧ (n1 : Int) < 2147483648) (hd : 0 ≤ dp ∧ dp + 449 ≤ n2 ∧ (n2 : Int) < 2147483648) : Met l yX9_copies wsX9_copies ({ frames := 0, cells := 0, slots := 0, locals := 0 } : Room) (zPre g C [.ref (aD g q), .int (iZ sp), .ref (aD g r), .int (iZ dp)]) (zQv g (fun C' => C' = va_up C r (eI g n2 (zcpy f h sp dp 449)))) 0 0 (zA g) := by
  refine z_enter RX9 rfl (by decide) rfl (Nat.le_of_ble_eq_true rfl) ?_
  intro p e s m args below meth c K harg
  refine z_sub (lv' := [(0, .ref (aD g q)), (1, .int (iZ sp)), (2, .ref (aD g r)), (3, .int (iZ dp))]) [0, 1, 2, 3] rfl ?_
  refine z_iconst 1 K dX9_copies_0 rfl ?_
  refine z_istore (lv' := [(4, .int (iZ 0)), (0, .ref (aD g q)), (1, .int (iZ sp)), (2, .ref (aD g r)), (3, .int (iZ dp))]) 3 K dX9_copies_1 rfl (by decide) rfl ?_
  have loop_3 : ∀ (n9 : Nat) (h1 : Int → Int) (k : Int), (0 ≤ k ∧ k ≤ 449) → (h1 = zcpy f h sp dp k) → (449 - k < (n9 : Int)) → Z p l e (({ frames := 0, cells := 0, slots := 0, locals := 0 } : Room)) s m args below meth c (MQ below (zQv g (fun C' => C' = va_up C r (eI g n2 (zcpy f h sp dp 449)))) args s 0 0 (zA g)) g 5 0 0 (va_up C r (eI g n2 h1)) [(0, .ref (aD g q)), (1, .int (iZ sp)), (2, .ref (aD g r)), (3, .int (iZ dp)), (4, .int (iZ k))] 3 [] := by
    intro n9
    induction n9 with
    | zero =>
      intro h1 k hk hh hm9
      exact absurd hm9 (by omega)
    | succ n9 ih9 =>
      intro h1 k hk hh hm_3
      have ih_3 := ih9
      clear ih9
      refine z_iload 5 K dX9_copies_3 rfl 4 rfl ?_
      refine z_sipush 8 K dX9_copies_5 rfl rfl ?_
      refine z_icmp_ge (tgt := 29) 11 K dX9_copies_8 rfl (by decide) (by omega) (by decide) (fun c_8 => ?_) (fun c_8 => ?_)
      · skip
        have ek : k = 449 := by omega
        subst ek
        subst hh
        exact z_vret K rfl dX9_copies_29 rfl
      · skip
        refine z_aload_n 12 K dX9_copies_11 rfl rfl 2 rfl ?_
        refine z_iload_n 13 K dX9_copies_12 rfl rfl 3 rfl ?_
        refine z_iload 15 K dX9_copies_13 rfl 4 rfl ?_
        refine z_iadd 16 K dX9_copies_15 rfl ?_
        refine z_aload_n 17 K dX9_copies_16 rfl rfl 0 rfl ?_
        refine z_iload_n 18 K dX9_copies_17 rfl rfl 1 rfl ?_
        refine z_iload 20 K dX9_copies_18 rfl 4 rfl ?_
        refine z_iadd 21 K dX9_copies_20 rfl ?_
        refine z_top (k + sp) (by omega) ?_
        refine z_iald (f := f) 22 K q hz_hC ((va_up_ne _ _ (by omega)).trans hC) (by omega) (by omega) (by omega) dX9_copies_21 rfl ?_
        refine z_iast (f := h1) 23 K r hz_hR (va_up_eq _ r _) (by omega) (by omega) (by omega) dX9_copies_22 rfl ?_
        refine z_C (va_uu _ _ _ _) ?_
        refine z_iinc (lv' := [(4, .int (iZ (k + 1))), (0, .ref (aD g q)), (1, .int (iZ sp)), (2, .ref (aD g r)), (3, .int (iZ dp))]) 26 K dX9_copies_23 rfl (k + 1) rfl 4 rfl (by decide) rfl ?_
        refine z_goto (tgt := 3) K dX9_copies_26 (by decide) ?_
        refine z_sub [1, 2, 3, 4, 0] rfl ?_
        exact ih_3 (zu h1 (dp + k) (f (k + sp))) (k + 1) (by omega) (by rw [hh, Int.add_comm k sp]; exact zcpy_1 f h (by omega)) (by omega)
  refine z_sub [1, 2, 3, 4, 0] rfl ?_
  refine z_C (va_us hR).symm ?_
  exact loop_3 (Int.toNat (449 - 0) + 1) h 0 (by omega) ((zcpy_0 f h sp dp).symm) (by omega)
set_option maxHeartbeats 4000000 in
set_option maxRecDepth 100000 in
theorem m_X9_puts (l : Launch) (g : zG) (C : Nat → va_E) (q : Nat) (p0 : Int) (x : Int) (y : Int) (f : Int → Int) (hz_hC : q < zN) (hC : C q = eI g 449 f) (hn : 0 ≤ f 1 ∧ f 1 ≤ 30) (hp : 0 ≤ p0 ∧ p0 ≤ f 1) : Met l yX9_puts wsX9_puts ({ frames := 0, cells := 0, slots := 0, locals := 0 } : Room) (zPre g C [.ref (aD g q), .int (iZ p0), .int (iZ x), .int (iZ y)]) (zQv g (fun C' => C' = va_up C q (eI g 449 (mPut f p0 x y)))) 0 0 (zA g) := by
  refine z_enter RX9 rfl (by decide) rfl (Nat.le_of_ble_eq_true rfl) ?_
  intro p e s m args below meth c K harg
  refine z_sub (lv' := [(0, .ref (aD g q)), (1, .int (iZ p0)), (2, .int (iZ x)), (3, .int (iZ y))]) [0, 1, 2, 3] rfl ?_
  refine z_iconst 1 K dX9_puts_0 rfl ?_
  refine z_iconst 2 K dX9_puts_1 rfl ?_
  refine z_aload_n 3 K dX9_puts_2 rfl rfl 0 rfl ?_
  refine z_iconst 4 K dX9_puts_3 rfl ?_
  refine z_iald (f := f) 5 K q hz_hC hC (by decide) (by decide) (by decide) dX9_puts_4 rfl ?_
  refine z_imul 6 K dX9_puts_5 rfl ?_
  refine z_iadd 7 K dX9_puts_6 rfl ?_
  refine z_top (2 * (f 1) + 3) (by omega) ?_
  refine z_iconst 8 K dX9_puts_7 rfl ?_
  refine z_isub 9 K dX9_puts_8 rfl ?_
  refine z_top (2 * (f 1) + 2) (by omega) ?_
  refine z_istore (lv' := [(4, .int (iZ (2 * (f 1) + 2))), (0, .ref (aD g q)), (1, .int (iZ p0)), (2, .int (iZ x)), (3, .int (iZ y))]) 11 K dX9_puts_9 rfl (by decide) rfl ?_
  have loop_11 : ∀ (n9 : Nat) (h : Int → Int) (k : Int), (2 * p0 + 2 ≤ k ∧ k ≤ 2 * f 1 + 2) → (∀ j, h j = if k + 2 < j ∧ j ≤ 2 * f 1 + 4 then f (j - 2) else f j) → (k - 2 * p0 - 1 < (n9 : Int)) → Z p l e (({ frames := 0, cells := 0, slots := 0, locals := 0 } : Room)) s m args below meth c (MQ below (zQv g (fun C' => C' = va_up C q (eI g 449 (mPut f p0 x y)))) args s 0 0 (zA g)) g 5 0 0 (va_up C q (eI g 449 h)) [(0, .ref (aD g q)), (1, .int (iZ p0)), (2, .int (iZ x)), (3, .int (iZ y)), (4, .int (iZ k))] 11 [] := by
    intro n9
    induction n9 with
    | zero =>
      intro h k hk hh hm9
      exact absurd hm9 (by omega)
    | succ n9 ih9 =>
      intro h k hk hh hm_11
      have ih_11 := ih9
      clear ih9
      refine z_iload 13 K dX9_puts_11 rfl 4 rfl ?_
      refine z_iconst 14 K dX9_puts_13 rfl ?_
      refine z_iconst 15 K dX9_puts_14 rfl ?_
      refine z_iload_n 16 K dX9_puts_15 rfl rfl 1 rfl ?_
      refine z_imul 17 K dX9_puts_16 rfl ?_
      refine z_iadd 18 K dX9_puts_17 rfl ?_
      refine z_top (2 * p0 + 3) (by omega) ?_
      refine z_icmp_lt (tgt := 37) 21 K dX9_puts_18 rfl (by decide) (by omega) (by omega) (fun c_18 => ?_) (fun c_18 => ?_)
      · skip
        have ek : k = 2 * p0 + 2 := by omega
        subst ek
        refine z_aload_n 38 K dX9_puts_37 rfl rfl 0 rfl ?_
        refine z_iconst 39 K dX9_puts_38 rfl ?_
        refine z_iconst 40 K dX9_puts_39 rfl ?_
        refine z_iload_n 41 K dX9_puts_40 rfl rfl 1 rfl ?_
        refine z_imul 42 K dX9_puts_41 rfl ?_
        refine z_iadd 43 K dX9_puts_42 rfl ?_
        refine z_top (2 * p0 + 3) (by omega) ?_
        refine z_iload_n 44 K dX9_puts_43 rfl rfl 2 rfl ?_
        refine z_iast (f := h) 45 K q hz_hC (va_up_eq _ q _) (by omega) (by omega) (by decide) dX9_puts_44 rfl ?_
        refine z_C (va_uu _ _ _ _) ?_
        obtain ⟨h1, eh1⟩ : ∃ z, z = zu h (2 * p0 + 3) x := ⟨_, rfl⟩
        rw [← eh1]
        refine z_aload_n 46 K dX9_puts_45 rfl rfl 0 rfl ?_
        refine z_iconst 47 K dX9_puts_46 rfl ?_
        refine z_iconst 48 K dX9_puts_47 rfl ?_
        refine z_iload_n 49 K dX9_puts_48 rfl rfl 1 rfl ?_
        refine z_imul 50 K dX9_puts_49 rfl ?_
        refine z_iadd 51 K dX9_puts_50 rfl ?_
        refine z_top (2 * p0 + 3) (by omega) ?_
        refine z_iconst 52 K dX9_puts_51 rfl ?_
        refine z_iadd 53 K dX9_puts_52 rfl ?_
        refine z_top (2 * p0 + 4) (by omega) ?_
        refine z_iload_n 54 K dX9_puts_53 rfl rfl 3 rfl ?_
        refine z_iast (f := h1) 55 K q hz_hC (va_up_eq _ q _) (by omega) (by omega) (by decide) dX9_puts_54 rfl ?_
        refine z_C (va_uu _ _ _ _) ?_
        obtain ⟨h2, eh2⟩ : ∃ z, z = zu h1 (2 * p0 + 4) y := ⟨_, rfl⟩
        rw [← eh2]
        refine z_aload_n 56 K dX9_puts_55 rfl rfl 0 rfl ?_
        refine z_iconst 57 K dX9_puts_56 rfl ?_
        refine z_dup2 58 K dX9_puts_57 rfl rfl rfl ?_
        refine z_iald (f := h2) 59 K q hz_hC (va_up_eq _ q _) (by decide) (by decide) (by decide) dX9_puts_58 rfl ?_
        refine z_top (f 1) (by rw [eh2, zu_ne _ _ (by omega), eh1, zu_ne _ _ (by omega), hh, if_neg (by omega)]) ?_
        refine z_iconst 60 K dX9_puts_59 rfl ?_
        refine z_iadd 61 K dX9_puts_60 rfl ?_
        refine z_iast (f := h2) 62 K q hz_hC (va_up_eq _ q _) (by decide) (by decide) (by decide) dX9_puts_61 rfl ?_
        refine z_C (va_uu _ _ _ _) ?_
        have hfin : zu h2 1 (f 1 + 1) = mPut f p0 x y := by
          rw [eh2, eh1]
          exact mPut_fin (by omega) (fun j => by rw [hh, show 2 * p0 + 2 + 2 = 2 * p0 + 4 by omega])
        rw [← hfin]
        exact z_vret K rfl dX9_puts_62 rfl
      · skip
        refine z_aload_n 22 K dX9_puts_21 rfl rfl 0 rfl ?_
        refine z_iload 24 K dX9_puts_22 rfl 4 rfl ?_
        refine z_iconst 25 K dX9_puts_24 rfl ?_
        refine z_iadd 26 K dX9_puts_25 rfl ?_
        refine z_aload_n 27 K dX9_puts_26 rfl rfl 0 rfl ?_
        refine z_iload 29 K dX9_puts_27 rfl 4 rfl ?_
        refine z_iald (f := h) 30 K q hz_hC (va_up_eq _ q _) (by omega) (by omega) (by decide) dX9_puts_29 rfl ?_
        refine z_iast (f := h) 31 K q hz_hC (va_up_eq _ q _) (by omega) (by omega) (by decide) dX9_puts_30 rfl ?_
        refine z_C (va_uu _ _ _ _) ?_
        refine z_iinc (lv' := [(4, .int (iZ (k - 1))), (0, .ref (aD g q)), (1, .int (iZ p0)), (2, .int (iZ x)), (3, .int (iZ y))]) 34 K dX9_puts_31 rfl (k - 1) (by omega) 4 rfl (by decide) rfl ?_
        refine z_goto (tgt := 11) K dX9_puts_34 (by decide) ?_
        refine z_sub [1, 2, 3, 4, 0] rfl ?_
        exact ih_11 (zu h (k + 2) (h k)) (k - 1) (by omega) (mPut_step (by omega) hh) (by omega)
  refine z_sub [1, 2, 3, 4, 0] rfl ?_
  refine z_C (va_us hC).symm ?_
  exact loop_11 (Int.toNat ((2 * (f 1) + 2) - 2 * p0 - 1) + 1) f (2 * (f 1) + 2) (by omega) (fun j => by rw [if_neg (by omega)]) (by omega)
set_option maxHeartbeats 4000000 in
set_option maxRecDepth 100000 in
theorem m_X9_goesOut (l : Launch) (g : zG) (C : Nat → va_E) (q : Nat) (p0 : Int) (f : Int → Int) (hz_hC : q < zN) (hC : C q = eI g 449 f) (hn : 0 ≤ f 1 ∧ f 1 ≤ 31) (hp : 0 ≤ p0 ∧ p0 < f 1) : Met l yX9_goesOut wsX9_goesOut ({ frames := 0, cells := 0, slots := 0, locals := 0 } : Room) (zPre g C [.ref (aD g q), .int (iZ p0)]) (zQv g (fun C' => C' = va_up C q (eI g 449 (mOut f p0)))) 0 0 (zA g) := by
  refine z_enter RX9 rfl (by decide) rfl (Nat.le_of_ble_eq_true rfl) ?_
  intro p e s m args below meth c K harg
  refine z_sub (lv' := [(0, .ref (aD g q)), (1, .int (iZ p0))]) [0, 1] rfl ?_
  refine z_aload_n 1 K dX9_goesOut_0 rfl rfl 0 rfl ?_
  refine z_iconst 2 K dX9_goesOut_1 rfl ?_
  refine z_dup2 3 K dX9_goesOut_2 rfl rfl rfl ?_
  refine z_iald (f := f) 4 K q hz_hC hC (by decide) (by decide) (by decide) dX9_goesOut_3 rfl ?_
  refine z_iconst 5 K dX9_goesOut_4 rfl ?_
  refine z_isub 6 K dX9_goesOut_5 rfl ?_
  refine z_iast (f := f) 7 K q hz_hC hC (by decide) (by decide) (by decide) dX9_goesOut_6 rfl ?_
  refine z_iconst 8 K dX9_goesOut_7 rfl ?_
  refine z_iconst 9 K dX9_goesOut_8 rfl ?_
  refine z_iload_n 10 K dX9_goesOut_9 rfl rfl 1 rfl ?_
  refine z_imul 11 K dX9_goesOut_10 rfl ?_
  refine z_iadd 12 K dX9_goesOut_11 rfl ?_
  refine z_top (2 * p0 + 3) (by omega) ?_
  refine z_istore_n (lv' := [(2, .int (iZ (2 * p0 + 3))), (0, .ref (aD g q)), (1, .int (iZ p0))]) 13 K dX9_goesOut_12 rfl rfl (by decide) rfl ?_
  have loop_13 : ∀ (n9 : Nat) (h : Int → Int) (k : Int), (2 * p0 + 3 ≤ k ∧ k ≤ 2 * f 1 + 1) → (∀ j, h j = if j = 1 then f 1 - 1 else if 2 * p0 + 3 ≤ j ∧ j < k then f (j + 2) else f j) → (2 * f 1 + 1 - k < (n9 : Int)) → Z p l e (({ frames := 0, cells := 0, slots := 0, locals := 0 } : Room)) s m args below meth c (MQ below (zQv g (fun C' => C' = va_up C q (eI g 449 (mOut f p0)))) args s 0 0 (zA g)) g 3 0 0 (va_up C q (eI g 449 h)) [(0, .ref (aD g q)), (1, .int (iZ p0)), (2, .int (iZ k))] 13 [] := by
    intro n9
    induction n9 with
    | zero =>
      intro h k hk hh hm9
      exact absurd hm9 (by omega)
    | succ n9 ih9 =>
      intro h k hk hh hm_13
      have ih_13 := ih9
      clear ih9
      refine z_iload_n 14 K dX9_goesOut_13 rfl rfl 2 rfl ?_
      refine z_iconst 15 K dX9_goesOut_14 rfl ?_
      refine z_iconst 16 K dX9_goesOut_15 rfl ?_
      refine z_aload_n 17 K dX9_goesOut_16 rfl rfl 0 rfl ?_
      refine z_iconst 18 K dX9_goesOut_17 rfl ?_
      refine z_iald (f := h) 19 K q hz_hC (va_up_eq _ q _) (by decide) (by decide) (by decide) dX9_goesOut_18 rfl ?_
      refine z_top (f 1 - 1) (by rw [hh, if_pos rfl]) ?_
      refine z_imul 20 K dX9_goesOut_19 rfl ?_
      refine z_top (2 * (f 1) - 2) (by omega) ?_
      refine z_iadd 21 K dX9_goesOut_20 rfl ?_
      refine z_top (2 * (f 1) + 1) (by omega) ?_
      refine z_icmp_ge (tgt := 38) 24 K dX9_goesOut_21 rfl (by decide) (by omega) (by omega) (fun c_21 => ?_) (fun c_21 => ?_)
      · skip
        have hfin : h = mOut f p0 := mOut_fin hp (by omega) hh
        subst hfin
        exact z_vret K rfl dX9_goesOut_38 rfl
      · skip
        refine z_aload_n 25 K dX9_goesOut_24 rfl rfl 0 rfl ?_
        refine z_iload_n 26 K dX9_goesOut_25 rfl rfl 2 rfl ?_
        refine z_aload_n 27 K dX9_goesOut_26 rfl rfl 0 rfl ?_
        refine z_iload_n 28 K dX9_goesOut_27 rfl rfl 2 rfl ?_
        refine z_iconst 29 K dX9_goesOut_28 rfl ?_
        refine z_iadd 30 K dX9_goesOut_29 rfl ?_
        refine z_iald (f := h) 31 K q hz_hC (va_up_eq _ q _) (by omega) (by omega) (by decide) dX9_goesOut_30 rfl ?_
        refine z_iast (f := h) 32 K q hz_hC (va_up_eq _ q _) (by omega) (by omega) (by decide) dX9_goesOut_31 rfl ?_
        refine z_C (va_uu _ _ _ _) ?_
        refine z_iinc (lv' := [(2, .int (iZ (k + 1))), (0, .ref (aD g q)), (1, .int (iZ p0))]) 35 K dX9_goesOut_32 rfl (k + 1) rfl 2 rfl (by decide) rfl ?_
        refine z_goto (tgt := 13) K dX9_goesOut_35 (by decide) ?_
        refine z_sub [1, 2, 0] rfl ?_
        exact ih_13 (zu h k (h (k + 2))) (k + 1) (by omega) (mOut_step (by omega) hh) (by omega)
  refine z_sub [1, 2, 0] rfl ?_
  exact loop_13 (Int.toNat (2 * f 1 + 1 - (2 * p0 + 3)) + 1) (zu f 1 (f 1 - 1)) (2 * p0 + 3) (by omega) (fun j => by simp only [zu]; by_cases c9 : j = 1; (rw [if_pos c9, if_pos c9]); (rw [if_neg c9, if_neg c9, if_neg (by omega)])) (by omega)
set_option maxHeartbeats 4000000 in
set_option maxRecDepth 100000 in
theorem m_X9_moves (l : Launch) (g : zG) (C : Nat → va_E) (q : Nat) (p0 : Int) (t0 : Int) (f : Int → Int) (hz_hC : q < zN) (hC : C q = eI g 449 f) (hn : 0 ≤ f 1 ∧ f 1 ≤ 30) (hp : 0 ≤ p0 ∧ p0 < f 1) (ht : 0 ≤ t0 ∧ t0 < f 1) : Met l yX9_moves wsX9_moves ({ frames := 1, cells := 0, slots := 0, locals := 24 } : Room) (zPre g C [.ref (aD g q), .int (iZ p0), .int (iZ t0)]) (zQi g (fun z C' => C' = va_up C q (eI g 449 (mMove f p0 t0)) ∧ z = f (2 * p0 + 3))) 0 0 (zA g) := by
  refine z_enter RX9 rfl (by decide) rfl (Nat.le_of_ble_eq_true rfl) ?_
  intro p e s m args below meth c K harg
  refine z_sub (lv' := [(0, .ref (aD g q)), (1, .int (iZ p0)), (2, .int (iZ t0))]) [0, 1, 2] rfl ?_
  refine z_aload_n 1 K dX9_moves_0 rfl rfl 0 rfl ?_
  refine z_iload_n 2 K dX9_moves_1 rfl rfl 1 rfl ?_
  refine z_vSi (As := [.ref (aD g q), .int (iZ p0)]) (rest := []) 5 K (m_X9_number l g _ q p0 f hz_hC hC (by omega)) (va_cwS 2 K.1.2.2.2.2 gX9_moves_X9_number rfl rfl rfl (by decide +kernel) ⟨Nat.le_of_ble_eq_true rfl, Nat.le_of_ble_eq_true rfl⟩) rfl (Nat.le_of_ble_eq_true rfl) dX9_moves_2 rfl ⟨Nat.le_of_ble_eq_true rfl, Nat.le_of_ble_eq_true rfl⟩ rfl (fun z_1 C_2 hp_2 => ?_)
  refine z_C hp_2.1 ?_
  refine z_top (f (2 * p0 + 3)) hp_2.2 ?_
  refine z_istore_n (lv' := [(3, .int (iZ (f (2 * p0 + 3)))), (0, .ref (aD g q)), (1, .int (iZ p0)), (2, .int (iZ t0))]) 6 K dX9_moves_5 rfl rfl (by decide) rfl ?_
  refine z_aload_n 7 K dX9_moves_6 rfl rfl 1 rfl ?_
  refine z_iload_n 8 K dX9_moves_7 rfl rfl 2 rfl ?_
  refine z_vSi (As := [.ref (aD g q), .int (iZ p0)]) (rest := []) 11 K (m_X9_pagesOf l g _ q p0 f hz_hC hC (by omega)) (va_cwS 2 K.1.2.2.2.2 gX9_moves_X9_pagesOf rfl rfl rfl (by decide +kernel) ⟨Nat.le_of_ble_eq_true rfl, Nat.le_of_ble_eq_true rfl⟩) rfl (Nat.le_of_ble_eq_true rfl) dX9_moves_8 rfl ⟨Nat.le_of_ble_eq_true rfl, Nat.le_of_ble_eq_true rfl⟩ rfl (fun z_3 C_4 hp_8 => ?_)
  refine z_C hp_8.1 ?_
  refine z_top (f (2 * p0 + 4)) hp_8.2 ?_
  refine z_istore (lv' := [(4, .int (iZ (f (2 * p0 + 4)))), (3, .int (iZ (f (2 * p0 + 3)))), (0, .ref (aD g q)), (1, .int (iZ p0)), (2, .int (iZ t0))]) 13 K dX9_moves_11 rfl (by decide) rfl ?_
  refine z_aload_n 14 K dX9_moves_13 rfl rfl 2 rfl ?_
  refine z_iload_n 15 K dX9_moves_14 rfl rfl 3 rfl ?_
  refine z_vSv (As := [.ref (aD g q), .int (iZ p0)]) (rest := []) 18 K (m_X9_goesOut l g _ q p0 f hz_hC hC (by omega) (by omega)) (va_cwS 2 K.1.2.2.2.2 gX9_moves_X9_goesOut rfl rfl rfl (by decide +kernel) ⟨Nat.le_of_ble_eq_true rfl, Nat.le_of_ble_eq_true rfl⟩) rfl (Nat.le_of_ble_eq_true rfl) dX9_moves_15 rfl ⟨Nat.le_of_ble_eq_true rfl, Nat.le_of_ble_eq_true rfl⟩ rfl (fun C_6 hp_15 => ?_)
  refine z_C hp_15 ?_
  have em : mOut f p0 1 = f 1 - 1 := by simp [mOut]
  refine z_aload_n 19 K dX9_moves_18 rfl rfl 2 rfl ?_
  refine z_iload_n 20 K dX9_moves_19 rfl rfl 4 rfl ?_
  refine z_iload_n 21 K dX9_moves_20 rfl rfl 1 rfl ?_
  refine z_iload 23 K dX9_moves_21 rfl 0 rfl ?_
  refine z_vSv (As := [.ref (aD g q), .int (iZ t0), .int (iZ (f (2 * p0 + 3))), .int (iZ (f (2 * p0 + 4)))]) (rest := []) 26 K (m_X9_puts l g _ q t0 (f (2 * p0 + 3)) (f (2 * p0 + 4)) (mOut f p0) hz_hC (va_up_eq _ q _) (by omega) (by omega)) (va_cwS 4 K.1.2.2.2.2 gX9_moves_X9_puts rfl rfl rfl (by decide +kernel) ⟨Nat.le_of_ble_eq_true rfl, Nat.le_of_ble_eq_true rfl⟩) rfl (Nat.le_of_ble_eq_true rfl) dX9_moves_23 rfl ⟨Nat.le_of_ble_eq_true rfl, Nat.le_of_ble_eq_true rfl⟩ rfl (fun C_8 hp_23 => ?_)
  refine z_C hp_23 ?_
  refine z_C (va_uu _ _ _ _) ?_
  refine z_iload_n 27 K dX9_moves_26 rfl rfl 1 rfl ?_
  exact z_iret K rfl dX9_moves_27 ⟨rfl, rfl⟩
set_option maxHeartbeats 4000000 in
set_option maxRecDepth 100000 in
theorem m_X9_comes (l : Launch) (g : zG) (C : Nat → va_E) (q : Nat) (p0 : Int) (y : Int) (f : Int → Int) (hz_hC : q < zN) (hC : C q = eI g 449 f) (hn : 0 ≤ f 1 ∧ f 1 ≤ 30) (hp : 0 ≤ p0 ∧ p0 ≤ f 1) : Met l yX9_comes wsX9_comes ({ frames := 1, cells := 0, slots := 0, locals := 24 } : Room) (zPre g C [.ref (aD g q), .int (iZ p0), .int (iZ y)]) (zQv g (fun C' => C' = va_up C q (eI g 449 (mCome f p0 y)))) 0 0 (zA g) := by
  refine z_enter RX9 rfl (by decide) rfl (Nat.le_of_ble_eq_true rfl) ?_
  intro p e s m args below meth c K harg
  refine z_sub (lv' := [(0, .ref (aD g q)), (1, .int (iZ p0)), (2, .int (iZ y))]) [0, 1, 2] rfl ?_
  refine z_aload_n 1 K dX9_comes_0 rfl rfl 0 rfl ?_
  refine z_iload_n 2 K dX9_comes_1 rfl rfl 1 rfl ?_
  refine z_aload_n 3 K dX9_comes_2 rfl rfl 0 rfl ?_
  refine z_iconst 4 K dX9_comes_3 rfl ?_
  refine z_iald (f := f) 5 K q hz_hC hC (by decide) (by decide) (by decide) dX9_comes_4 rfl ?_
  refine z_iload_n 6 K dX9_comes_5 rfl rfl 2 rfl ?_
  refine z_vSv (As := [.ref (aD g q), .int (iZ p0), .int (iZ (f 2)), .int (iZ y)]) (rest := []) 9 K (m_X9_puts l g _ q p0 (f 2) y f hz_hC hC (by omega) (by omega)) (va_cwS 4 K.1.2.2.2.2 gX9_comes_X9_puts rfl rfl rfl (by decide +kernel) ⟨Nat.le_of_ble_eq_true rfl, Nat.le_of_ble_eq_true rfl⟩) rfl (Nat.le_of_ble_eq_true rfl) dX9_comes_6 rfl ⟨Nat.le_of_ble_eq_true rfl, Nat.le_of_ble_eq_true rfl⟩ rfl (fun C_2 hp_6 => ?_)
  refine z_C hp_6 ?_
  refine z_aload_n 10 K dX9_comes_9 rfl rfl 0 rfl ?_
  refine z_iconst 11 K dX9_comes_10 rfl ?_
  refine z_dup2 12 K dX9_comes_11 rfl rfl rfl ?_
  refine z_iald (f := (mPut f p0 (f 2) y)) 13 K q hz_hC (va_up_eq _ q _) (by decide) (by decide) (by decide) dX9_comes_12 rfl ?_
  refine z_top (f 2) (by simp only [mPut]; rw [if_neg (by omega), if_neg (by omega), if_neg (by omega), if_neg (by omega)]) ?_
  refine z_iconst 14 K dX9_comes_13 rfl ?_
  refine z_iadd 15 K dX9_comes_14 rfl ?_
  refine z_iast (f := (mPut f p0 (f 2) y)) 16 K q hz_hC (va_up_eq _ q _) (by decide) (by decide) (by decide) dX9_comes_15 rfl ?_
  refine z_C (va_uu _ _ _ _) ?_
  exact z_vret K rfl dX9_comes_16 rfl
set_option maxHeartbeats 4000000 in
set_option maxRecDepth 100000 in
theorem m_X9_follow (l : Launch) (g : zG) (C : Nat → va_E) (q : Nat) (x : Int) (x2 : Int) (fr : Int) (mo : Int) (f : Int → Int) (hz_hC : q < zN) (hC : C q = eI g 449 f) (hr : ∀ j, -2147483648 ≤ f j ∧ f j < 2147483648) (hnc : ∀ a, 0 ≤ a → a < 12 → 0 ≤ f (32 * a + 65) ∧ f (32 * a + 65) ≤ 6) (hx : -2147483648 ≤ x ∧ x < 2147483648) (hfr : -2147483648 ≤ fr ∧ fr < 2147483648) (hmo : -60 ≤ mo ∧ mo ≤ 60) (hcp : ∀ a b, 0 ≤ a → a < 12 → 0 ≤ b → b < f (32 * a + 65) → 1 ≤ f (32 * a + 2 * b + 67) ∧ f (32 * a + 2 * b + 67) ≤ 60) : Met l yX9_follow wsX9_follow ({ frames := 1, cells := 0, slots := 0, locals := 21 } : Room) (zPre g C [.ref (aD g q), .int (iZ x), .int (iZ x2), .int (iZ fr), .int (iZ mo)]) (zQv g (fun C' => C' = va_up C q (eI g 449 (mFol f x x2 fr mo)))) 0 0 (zA g) := by
  refine z_enter RX9 rfl (by decide) rfl (Nat.le_of_ble_eq_true rfl) ?_
  intro p e s m args below meth c K harg
  refine z_sub (lv' := [(0, .ref (aD g q)), (1, .int (iZ x)), (2, .int (iZ x2)), (3, .int (iZ fr)), (4, .int (iZ mo))]) [0, 1, 2, 3, 4] rfl ?_
  refine z_iconst 1 K dX9_follow_0 rfl ?_
  refine z_istore (lv' := [(5, .int (iZ 0)), (0, .ref (aD g q)), (1, .int (iZ x)), (2, .int (iZ x2)), (3, .int (iZ fr)), (4, .int (iZ mo))]) 3 K dX9_follow_1 rfl (by decide) rfl ?_
  have loop_3 : ∀ (n9 : Nat) (h : Int → Int) (a : Int), (0 ≤ a ∧ a ≤ 12) → (h = mFolTo f x x2 fr mo (32 * a + 66)) → (12 - a < (n9 : Int)) → Z p l e (({ frames := 1, cells := 0, slots := 0, locals := 21 } : Room)) s m args below meth c (MQ below (zQv g (fun C' => C' = va_up C q (eI g 449 (mFol f x x2 fr mo)))) args s 0 0 (zA g)) g 8 0 0 (va_up C q (eI g 449 h)) [(0, .ref (aD g q)), (1, .int (iZ x)), (2, .int (iZ x2)), (3, .int (iZ fr)), (4, .int (iZ mo)), (5, .int (iZ a))] 3 [] := by
    intro n9
    induction n9 with
    | zero =>
      intro h a hpa hh hm9
      exact absurd hm9 (by omega)
    | succ n9 ih9 =>
      intro h a hpa hh hm_3
      have ih_3 := ih9
      clear ih9
      refine z_iload 5 K dX9_follow_3 rfl 5 rfl ?_
      refine z_bipush 7 K dX9_follow_5 rfl rfl ?_
      refine z_icmp_ge (tgt := 93) 10 K dX9_follow_7 rfl (by decide) (by omega) (by decide) (fun c_7 => ?_) (fun c_7 => ?_)
      · skip
        have ea : a = 12 := by omega
        subst ea
        have hfin : h = mFol f x x2 fr mo := by rw [hh]; exact mFolTo_end
        subst hfin
        exact z_vret K rfl dX9_follow_93 rfl
      · skip
        have hn := hnc a hpa.1 c_7
        refine z_iconst 11 K dX9_follow_10 rfl ?_
        refine z_istore (lv' := [(6, .int (iZ 0)), (0, .ref (aD g q)), (1, .int (iZ x)), (2, .int (iZ x2)), (3, .int (iZ fr)), (4, .int (iZ mo)), (5, .int (iZ a))]) 13 K dX9_follow_11 rfl (by decide) rfl ?_
        have loop_13 : ∀ (n9 : Nat) (h2 : Int → Int) (b : Int), (0 ≤ b ∧ b ≤ f (32 * a + 65)) → (h2 = mFolTo f x x2 fr mo (32 * a + 2 * b + 66)) → (f (32 * a + 65) - b < (n9 : Int)) → Z p l e (({ frames := 1, cells := 0, slots := 0, locals := 21 } : Room)) s m args below meth c (MQ below (zQv g (fun C' => C' = va_up C q (eI g 449 (mFol f x x2 fr mo)))) args s 0 0 (zA g)) g 8 0 0 (va_up C q (eI g 449 h2)) [(0, .ref (aD g q)), (1, .int (iZ x)), (2, .int (iZ x2)), (3, .int (iZ fr)), (4, .int (iZ mo)), (5, .int (iZ a)), (6, .int (iZ b))] 13 [] := by
          intro n9
          induction n9 with
          | zero =>
            intro h2 b hpb hh2 hm9
            exact absurd hm9 (by omega)
          | succ n9 ih9 =>
            intro h2 b hpb hh2 hm_13
            have ih_13 := ih9
            clear ih9
            refine z_iload 15 K dX9_follow_13 rfl 6 rfl ?_
            refine z_aload_n 16 K dX9_follow_15 rfl rfl 0 rfl ?_
            refine z_iload 18 K dX9_follow_16 rfl 5 rfl ?_
            refine z_vSi (As := [.ref (aD g q), .int (iZ a)]) (rest := [.int (iZ b)]) 21 K (m_X9_cites l g _ q a h2 hz_hC (va_up_eq _ q _) (by omega)) (va_cwS 2 K.1.2.2.2.2 gX9_follow_X9_cites rfl rfl rfl (by decide +kernel) ⟨Nat.le_of_ble_eq_true rfl, Nat.le_of_ble_eq_true rfl⟩) rfl (Nat.le_of_ble_eq_true rfl) dX9_follow_18 rfl ⟨Nat.le_of_ble_eq_true rfl, Nat.le_of_ble_eq_true rfl⟩ rfl (fun z_1 C_2 hp_18 => ?_)
            refine z_C hp_18.1 ?_
            refine z_top (h2 (32 * a + 65)) hp_18.2 ?_
            refine z_top (f (32 * a + 65)) (by rw [hh2]; exact mFolTo_cnt (by omega)) ?_
            refine z_icmp_ge (tgt := 87) 24 K dX9_follow_21 rfl (by decide) (by omega) (by omega) (fun c_21 => ?_) (fun c_21 => ?_)
            · skip
              refine z_iinc (lv' := [(5, .int (iZ (a + 1))), (0, .ref (aD g q)), (1, .int (iZ x)), (2, .int (iZ x2)), (3, .int (iZ fr)), (4, .int (iZ mo)), (6, .int (iZ b))]) 90 K dX9_follow_87 rfl (a + 1) rfl 5 rfl (by decide) rfl ?_
              refine z_goto (tgt := 3) K dX9_follow_90 (by decide) ?_
              refine z_sub [1, 2, 3, 4, 5, 0] rfl ?_
              exact ih_3 h2 (a + 1) (by omega) (by rw [hh2, show b = f (32 * a + 65) by omega]; exact mFolTo_row (by omega) (by omega) (fun h9 => (by have := hnc (a + 1) (by omega) (by omega); rw [show 32 * (a + 1) + 65 = 32 * a + 97 by omega] at this; omega))) (by omega)
            · skip
              refine z_iload 26 K dX9_follow_24 rfl 5 rfl ?_
              refine z_iload 28 K dX9_follow_26 rfl 6 rfl ?_
              refine z_vSi (As := [.int (iZ a), .int (iZ b)]) (rest := []) 31 K (m_X9_index l g _ a b ) (va_cwS 2 K.1.2.2.2.2 gX9_follow_X9_index rfl rfl rfl (by decide +kernel) ⟨Nat.le_of_ble_eq_true rfl, Nat.le_of_ble_eq_true rfl⟩) rfl (Nat.le_of_ble_eq_true rfl) dX9_follow_28 rfl ⟨Nat.le_of_ble_eq_true rfl, Nat.le_of_ble_eq_true rfl⟩ rfl (fun z_3 C_4 hp_28 => ?_)
              refine z_C hp_28.1 ?_
              refine z_top (32 * a + 2 * b + 66) hp_28.2 ?_
              refine z_istore (lv' := [(7, .int (iZ (32 * a + 2 * b + 66))), (0, .ref (aD g q)), (1, .int (iZ x)), (2, .int (iZ x2)), (3, .int (iZ fr)), (4, .int (iZ mo)), (5, .int (iZ a)), (6, .int (iZ b))]) 33 K dX9_follow_31 rfl (by decide) rfl ?_
              refine z_aload_n 34 K dX9_follow_33 rfl rfl 1 rfl ?_
              refine z_iload 36 K dX9_follow_34 rfl 0 rfl ?_
              refine z_iald (f := h2) 37 K q hz_hC (va_up_eq _ q _) (by omega) (by omega) (by decide) dX9_follow_36 rfl ?_
              refine z_top (f (32 * a + 2 * b + 66)) (by rw [hh2]; exact mFolTo_ge (by omega)) ?_
              have hr36 := hr (32 * a + 2 * b + 66)
              refine z_iload_n 38 K dX9_follow_37 rfl rfl 2 rfl ?_
              refine z_icmp_ne (tgt := 81) 41 K dX9_follow_38 rfl (by decide) (by omega) (by omega) (fun c_38 => ?_) (fun c_38 => ?_)
              · skip
                refine z_iinc (lv' := [(6, .int (iZ (b + 1))), (7, .int (iZ (32 * a + 2 * b + 66))), (0, .ref (aD g q)), (1, .int (iZ x)), (2, .int (iZ x2)), (3, .int (iZ fr)), (4, .int (iZ mo)), (5, .int (iZ a))]) 84 K dX9_follow_81 rfl (b + 1) rfl 7 rfl (by decide) rfl ?_
                refine z_goto (tgt := 13) K dX9_follow_84 (by decide) ?_
                refine z_sub [2, 3, 4, 5, 6, 7, 0] rfl ?_
                exact ih_13 h2 (b + 1) (by omega) (by rw [hh2]; first | exact mFolTo_miss (by omega) (by omega) (by omega) (by omega) | (exact mFolTo_hit (by omega) (by omega) (by omega) (by omega) (by omega) (by omega))) (by omega)
              · skip
                refine z_aload_n 42 K dX9_follow_41 rfl rfl 1 rfl ?_
                refine z_iload 44 K dX9_follow_42 rfl 0 rfl ?_
                refine z_iconst 45 K dX9_follow_44 rfl ?_
                refine z_iadd 46 K dX9_follow_45 rfl ?_
                refine z_top (32 * a + 2 * b + 67) (by omega) ?_
                refine z_iald (f := h2) 47 K q hz_hC (va_up_eq _ q _) (by omega) (by omega) (by decide) dX9_follow_46 rfl ?_
                refine z_top (f (32 * a + 2 * b + 67)) (by rw [hh2]; exact mFolTo_ge (by omega)) ?_
                have hcp46 := hcp a b (by omega) (by omega) (by omega) (by omega)
                refine z_iload_n 48 K dX9_follow_47 rfl rfl 4 rfl ?_
                refine z_icmp_lt (tgt := 81) 51 K dX9_follow_48 rfl (by decide) (by omega) (by omega) (fun c_48 => ?_) (fun c_48 => ?_)
                · skip
                  refine z_iinc (lv' := [(6, .int (iZ (b + 1))), (7, .int (iZ (32 * a + 2 * b + 66))), (0, .ref (aD g q)), (1, .int (iZ x)), (2, .int (iZ x2)), (3, .int (iZ fr)), (4, .int (iZ mo)), (5, .int (iZ a))]) 84 K dX9_follow_81 rfl (b + 1) rfl 7 rfl (by decide) rfl ?_
                  refine z_goto (tgt := 13) K dX9_follow_84 (by decide) ?_
                  refine z_sub [2, 3, 4, 5, 6, 7, 0] rfl ?_
                  exact ih_13 h2 (b + 1) (by omega) (by rw [hh2]; first | exact mFolTo_miss (by omega) (by omega) (by omega) (by omega) | (exact mFolTo_hit (by omega) (by omega) (by omega) (by omega) (by omega) (by omega))) (by omega)
                · skip
                  refine z_aload_n 52 K dX9_follow_51 rfl rfl 1 rfl ?_
                  refine z_iload 54 K dX9_follow_52 rfl 0 rfl ?_
                  refine z_iconst 55 K dX9_follow_54 rfl ?_
                  refine z_iadd 56 K dX9_follow_55 rfl ?_
                  refine z_top (32 * a + 2 * b + 67) (by omega) ?_
                  refine z_iald (f := h2) 57 K q hz_hC (va_up_eq _ q _) (by omega) (by omega) (by decide) dX9_follow_56 rfl ?_
                  refine z_top (f (32 * a + 2 * b + 67)) (by rw [hh2]; exact mFolTo_ge (by omega)) ?_
                  refine z_iload 59 K dX9_follow_57 rfl 5 rfl ?_
                  refine z_iadd 60 K dX9_follow_59 rfl ?_
                  refine z_bipush 62 K dX9_follow_60 rfl rfl ?_
                  refine z_icmp_gt (tgt := 81) 65 K dX9_follow_62 rfl (by decide) (by omega) (by decide) (fun c_62 => ?_) (fun c_62 => ?_)
                  · skip
                    refine z_iinc (lv' := [(6, .int (iZ (b + 1))), (7, .int (iZ (32 * a + 2 * b + 66))), (0, .ref (aD g q)), (1, .int (iZ x)), (2, .int (iZ x2)), (3, .int (iZ fr)), (4, .int (iZ mo)), (5, .int (iZ a))]) 84 K dX9_follow_81 rfl (b + 1) rfl 7 rfl (by decide) rfl ?_
                    refine z_goto (tgt := 13) K dX9_follow_84 (by decide) ?_
                    refine z_sub [2, 3, 4, 5, 6, 7, 0] rfl ?_
                    exact ih_13 h2 (b + 1) (by omega) (by rw [hh2]; first | exact mFolTo_miss (by omega) (by omega) (by omega) (by omega) | (exact mFolTo_hit (by omega) (by omega) (by omega) (by omega) (by omega) (by omega))) (by omega)
                  · skip
                    refine z_aload_n 66 K dX9_follow_65 rfl rfl 1 rfl ?_
                    refine z_iload 68 K dX9_follow_66 rfl 0 rfl ?_
                    refine z_iload_n 69 K dX9_follow_68 rfl rfl 3 rfl ?_
                    refine z_iast (f := h2) 70 K q hz_hC (va_up_eq _ q _) (by omega) (by omega) (by decide) dX9_follow_69 rfl ?_
                    refine z_C (va_uu _ _ _ _) ?_
                    refine z_aload_n 71 K dX9_follow_70 rfl rfl 1 rfl ?_
                    refine z_iload 73 K dX9_follow_71 rfl 0 rfl ?_
                    refine z_iconst 74 K dX9_follow_73 rfl ?_
                    refine z_iadd 75 K dX9_follow_74 rfl ?_
                    refine z_top (32 * a + 2 * b + 67) (by omega) ?_
                    refine z_dup2 76 K dX9_follow_75 rfl rfl rfl ?_
                    refine z_iald (f := (zu h2 (32 * a + 2 * b + 66) x2)) 77 K q hz_hC (va_up_eq _ q _) (by omega) (by omega) (by decide) dX9_follow_76 rfl ?_
                    refine z_top (f (32 * a + 2 * b + 67)) (by rw [zu_ne _ _ (by omega), hh2]; exact mFolTo_ge (by omega)) ?_
                    refine z_iload 79 K dX9_follow_77 rfl 5 rfl ?_
                    refine z_iadd 80 K dX9_follow_79 rfl ?_
                    refine z_iast (f := (zu h2 (32 * a + 2 * b + 66) x2)) 81 K q hz_hC (va_up_eq _ q _) (by omega) (by omega) (by decide) dX9_follow_80 rfl ?_
                    refine z_C (va_uu _ _ _ _) ?_
                    refine z_iinc (lv' := [(6, .int (iZ (b + 1))), (7, .int (iZ (32 * a + 2 * b + 66))), (0, .ref (aD g q)), (1, .int (iZ x)), (2, .int (iZ x2)), (3, .int (iZ fr)), (4, .int (iZ mo)), (5, .int (iZ a))]) 84 K dX9_follow_81 rfl (b + 1) rfl 7 rfl (by decide) rfl ?_
                    refine z_goto (tgt := 13) K dX9_follow_84 (by decide) ?_
                    refine z_sub [2, 3, 4, 5, 6, 7, 0] rfl ?_
                    exact ih_13 (zu (zu h2 (32 * a + 2 * b + 66) x2) (32 * a + 2 * b + 67) (f (32 * a + 2 * b + 67) + mo)) (b + 1) (by omega) (by rw [hh2]; first | exact mFolTo_miss (by omega) (by omega) (by omega) (by omega) | (exact mFolTo_hit (by omega) (by omega) (by omega) (by omega) (by omega) (by omega))) (by omega)
        refine z_sub [1, 2, 3, 4, 5, 6, 0] rfl ?_
        exact loop_13 (Int.toNat (f (32 * a + 65) - 0) + 1) h 0 (by omega) (by rw [hh]; congr 1; omega) (by omega)
  refine z_sub [1, 2, 3, 4, 5, 0] rfl ?_
  refine z_C (va_us hC).symm ?_
  exact loop_3 (Int.toNat (12 - 0) + 1) f 0 (by omega) ((mFolTo_0 f x x2 fr mo).symm) (by omega)
end ZMW
