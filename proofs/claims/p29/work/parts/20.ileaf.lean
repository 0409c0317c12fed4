/-! the class: its small parts -/
section ZIM
set_option maxHeartbeats 4000000 in
set_option maxRecDepth 100000 in
theorem m_X8_cellOf (l : Launch) (g : zG) (C : Nat → va_E) (a : Int) (b : Int)  : Met l yX8_cellOf wsX8_cellOf ({ frames := 0, cells := 0, slots := 0, locals := 0 } : Room) (zPre g C [.int (iZ a), .int (iZ b)]) (zQi g (fun z C' => C' = C ∧ z = 6 * a + b)) 0 0 (zA g) := by
  refine z_enter RX8 rfl (by decide) rfl (Nat.le_of_ble_eq_true rfl) ?_
  intro p e s m args below meth c K harg
  refine z_sub (lv' := [(0, .int (iZ a)), (1, .int (iZ b))]) [0, 1] rfl ?_
  refine z_iload_n 1 K dX8_cellOf_0 rfl rfl 0 rfl ?_
  refine z_bipush 3 K dX8_cellOf_1 rfl rfl ?_
  refine z_imul 4 K dX8_cellOf_3 rfl ?_
  refine z_top (6 * a) (by omega) ?_
  refine z_iload_n 5 K dX8_cellOf_4 rfl rfl 1 rfl ?_
  refine z_iadd 6 K dX8_cellOf_5 rfl ?_
  exact z_iret K rfl dX8_cellOf_6 ⟨rfl, rfl⟩
set_option maxHeartbeats 4000000 in
set_option maxRecDepth 100000 in
theorem m_X8_markOf (l : Launch) (g : zG) (C : Nat → va_E) (le : Int) (pg : Int) (lo : Int) (hlo : lo = 0 ∨ lo = 1) : Met l yX8_markOf wsX8_markOf ({ frames := 0, cells := 0, slots := 0, locals := 0 } : Room) (zPre g C [.int (iZ le), .int (iZ pg), .int (iZ lo)]) (zQi g (fun z C' => C' = C ∧ z = 122 * le + 2 * pg + lo + 122)) 0 0 (zA g) := by
  refine z_enter RX8 rfl (by decide) rfl (Nat.le_of_ble_eq_true rfl) ?_
  intro p e s m args below meth c K harg
  refine z_sub (lv' := [(0, .int (iZ le)), (1, .int (iZ pg)), (2, .int (iZ lo))]) [0, 1, 2] rfl ?_
  refine z_iload_n 1 K dX8_markOf_0 rfl rfl 0 rfl ?_
  refine z_iconst 2 K dX8_markOf_1 rfl ?_
  refine z_iadd 3 K dX8_markOf_2 rfl ?_
  refine z_bipush 5 K dX8_markOf_3 rfl rfl ?_
  refine z_imul 6 K dX8_markOf_5 rfl ?_
  refine z_top (61 * le + 61) (by omega) ?_
  refine z_iload_n 7 K dX8_markOf_6 rfl rfl 1 rfl ?_
  refine z_iadd 8 K dX8_markOf_7 rfl ?_
  refine z_top (61 * le + pg + 61) (by omega) ?_
  refine z_iconst 9 K dX8_markOf_8 rfl ?_
  refine z_imul 10 K dX8_markOf_9 rfl ?_
  refine z_top (122 * le + 2 * pg + 122) (by omega) ?_
  refine z_iload_n 11 K dX8_markOf_10 rfl rfl 2 rfl ?_
  refine z_bool01 14 15 18 19 K (by omega) dX8_markOf_11 dX8_markOf_14 dX8_markOf_15 dX8_markOf_18 rfl rfl (by decide) (by decide) rfl ?_
  refine z_iadd 20 K dX8_markOf_19 rfl ?_
  refine z_top (122 * le + 2 * pg + lo + 122) (by omega) ?_
  exact z_iret K rfl dX8_markOf_20 ⟨rfl, rfl⟩
set_option maxRecDepth 20000 in
theorem hin_X1_putIn_X1 : ∀ w ∈ wsX10, w ∈ wsX1_putIn := by decide +kernel
set_option maxHeartbeats 4000000 in
set_option maxRecDepth 100000 in
theorem m_X1_putIn (l : Launch) (g : zG) (C : Nat → va_E) (p0 : Int) (x : Int) (y : Int) (cnt : Int) (nxt : Int) (bp : Int) (num : Int → Int) (pgs : Int → Int) (hEx : C 2 = .inr (1, [.ref (aD g 3), .ref (aD g 4), .int (iZ cnt), .int (iZ nxt), .int (iZ bp)])) (hNum : C 3 = eI g 30 num) (hPgs : C 4 = eI g 30 pgs) (hcnt : 0 ≤ cnt ∧ cnt ≤ 29) (hp : 0 ≤ p0 ∧ p0 ≤ cnt) : Met l yX1_putIn wsX1_putIn ({ frames := 0, cells := 0, slots := 0, locals := 0 } : Room) (zPre g C [.ref (aD g 2), .int (iZ p0), .int (iZ x), .int (iZ y)]) (zQv g (fun C' => C' = va_up (va_up (va_up C 3 (eI g 30 (zIn num cnt p0 x))) 4 (eI g 30 (zIn pgs cnt p0 y))) 2 (.inr (1, [.ref (aD g 3), .ref (aD g 4), .int (iZ (cnt + 1)), .int (iZ nxt), .int (iZ bp)])))) 0 0 (zA g) := by
  refine z_enter RX1 rfl (by decide) rfl (Nat.le_of_ble_eq_true rfl) ?_
  intro p e s m args below meth c K harg
  refine z_sub (lv' := [(0, .ref (aD g 2)), (1, .int (iZ p0)), (2, .int (iZ x)), (3, .int (iZ y))]) [0, 1, 2, 3] rfl ?_
  refine z_aload_n 1 K dX1_putIn_0 rfl rfl 0 rfl ?_
  refine z_get 4 K hin_X1_putIn_X1 2 (by decide) hEx rfl 2 (by decide) (by decide +kernel : Cond.fieldLink RX1 18 "BriefBuilder$Exhibits" "count" "I" ∈ wsX1_putIn) (fun _ h9 => h9) rfl dX1_putIn_1 rfl ?_
  refine z_istore (lv' := [(4, .int (iZ cnt)), (0, .ref (aD g 2)), (1, .int (iZ p0)), (2, .int (iZ x)), (3, .int (iZ y))]) 6 K dX1_putIn_4 rfl (by decide) rfl ?_
  have loop_6 : ∀ (n9 : Nat) (h3 h4 : Int → Int) (k : Int), (p0 ≤ k ∧ k ≤ cnt) → (∀ j, h3 j = if k < j ∧ j ≤ cnt then num (j - 1) else num j) → (∀ j, h4 j = if k < j ∧ j ≤ cnt then pgs (j - 1) else pgs j) → (k - p0 < (n9 : Int)) → Z p l e (({ frames := 0, cells := 0, slots := 0, locals := 0 } : Room)) s m args below meth c (MQ below (zQv g (fun C' => C' = va_up (va_up (va_up C 3 (eI g 30 (zIn num cnt p0 x))) 4 (eI g 30 (zIn pgs cnt p0 y))) 2 (.inr (1, [.ref (aD g 3), .ref (aD g 4), .int (iZ (cnt + 1)), .int (iZ nxt), .int (iZ bp)])))) args s 0 0 (zA g)) g 5 0 0 (va_up (va_up C 3 (eI g 30 h3)) 4 (eI g 30 h4)) [(0, .ref (aD g 2)), (1, .int (iZ p0)), (2, .int (iZ x)), (3, .int (iZ y)), (4, .int (iZ k))] 6 [] := by
    intro n9
    induction n9 with
    | zero =>
      intro h3 h4 k hk hh3 hh4 hm9
      exact absurd hm9 (by omega)
    | succ n9 ih9 =>
      intro h3 h4 k hk hh3 hh4 hm_6
      have ih_6 := ih9
      clear ih9
      refine z_iload 8 K dX1_putIn_6 rfl 4 rfl ?_
      refine z_iload_n 9 K dX1_putIn_8 rfl rfl 1 rfl ?_
      refine z_icmp_le (tgt := 50) 12 K dX1_putIn_9 rfl (by decide) (by omega) (by omega) (fun c_9 => ?_) (fun c_9 => ?_)
      · skip
        have ek : k = p0 := by omega
        rw [ek] at hh3 hh4
        refine z_aload_n 51 K dX1_putIn_50 rfl rfl 0 rfl ?_
        refine z_get 54 K hin_X1_putIn_X1 2 (by decide) ((va_up_ne _ _ (by decide)).trans ((va_up_ne _ _ (by decide)).trans hEx)) rfl 0 (by decide) (by decide +kernel : Cond.fieldLink RX1 9 "BriefBuilder$Exhibits" "numbers" "[I" ∈ wsX1_putIn) (fun _ h9 => h9) rfl dX1_putIn_51 rfl ?_
        refine z_iload_n 55 K dX1_putIn_54 rfl rfl 1 rfl ?_
        refine z_iload_n 56 K dX1_putIn_55 rfl rfl 2 rfl ?_
        refine z_iast (f := h3) 57 K 3 (by decide) ((va_up_ne _ _ (by decide)).trans (va_up_eq _ 3 _)) (by omega) (by omega) (by decide) dX1_putIn_56 rfl ?_
        refine z_C (va_uu1 (by decide)) ?_
        refine z_aload_n 58 K dX1_putIn_57 rfl rfl 0 rfl ?_
        refine z_get 61 K hin_X1_putIn_X1 2 (by decide) ((va_up_ne _ _ (by decide)).trans ((va_up_ne _ _ (by decide)).trans hEx)) rfl 1 (by decide) (by decide +kernel : Cond.fieldLink RX1 15 "BriefBuilder$Exhibits" "pages" "[I" ∈ wsX1_putIn) (fun _ h9 => h9) rfl dX1_putIn_58 rfl ?_
        refine z_iload_n 62 K dX1_putIn_61 rfl rfl 1 rfl ?_
        refine z_iload_n 63 K dX1_putIn_62 rfl rfl 3 rfl ?_
        refine z_iast (f := h4) 64 K 4 (by decide) ((va_up_ne _ _ (by decide)).trans (va_up_eq _ 4 _)) (by omega) (by omega) (by decide) dX1_putIn_63 rfl ?_
        refine z_C (va_uu1 (by decide)) ?_
        refine z_aload_n 65 K dX1_putIn_64 rfl rfl 0 rfl ?_
        refine z_dup 66 K dX1_putIn_65 rfl rfl ?_
        refine z_get 69 K hin_X1_putIn_X1 2 (by decide) ((va_up_ne _ _ (by decide)).trans ((va_up_ne _ _ (by decide)).trans hEx)) rfl 2 (by decide) (by decide +kernel : Cond.fieldLink RX1 18 "BriefBuilder$Exhibits" "count" "I" ∈ wsX1_putIn) (fun _ h9 => h9) rfl dX1_putIn_66 rfl ?_
        refine z_iconst 70 K dX1_putIn_69 rfl ?_
        refine z_iadd 71 K dX1_putIn_70 rfl ?_
        refine z_put (ty := .int) 74 K hin_X1_putIn_X1 tyX1 tyX1_ok nmX1 2 (by decide) ((va_up_ne _ _ (by decide)).trans ((va_up_ne _ _ (by decide)).trans hEx)) rfl 2 (by decide) (by decide +kernel : Cond.fieldLink RX1 18 "BriefBuilder$Exhibits" "count" "I" ∈ wsX1_putIn) (fun _ h9 => h9) rfl (by decide +kernel) rfl rfl (Nat.le_of_ble_eq_true rfl) dX1_putIn_71 rfl ?_
        show Z p l e (({ frames := 0, cells := 0, slots := 0, locals := 0 } : Room)) s m args below meth c (MQ below (zQv g (fun C' => C' = va_up (va_up (va_up C 3 (eI g 30 (zIn num cnt p0 x))) 4 (eI g 30 (zIn pgs cnt p0 y))) 2 (.inr (1, [.ref (aD g 3), .ref (aD g 4), .int (iZ (cnt + 1)), .int (iZ nxt), .int (iZ bp)])))) args s 0 0 (zA g)) g _ _ _ (va_up (va_up (va_up C 3 (eI g 30 (zu h3 p0 x))) 4 (eI g 30 (zu h4 p0 y))) 2 (.inr (1, [.ref (aD g 3), .ref (aD g 4), .int (iZ (cnt + 1)), .int (iZ nxt), .int (iZ bp)]))) [(0, .ref (aD g 2)), (1, .int (iZ p0)), (2, .int (iZ x)), (3, .int (iZ y)), (4, .int (iZ k))] 74 []
        exact z_vret K rfl dX1_putIn_74 (by rw [zIn_fin hh3, zIn_fin hh4])
      · skip
        refine z_aload_n 13 K dX1_putIn_12 rfl rfl 0 rfl ?_
        refine z_get 16 K hin_X1_putIn_X1 2 (by decide) ((va_up_ne _ _ (by decide)).trans ((va_up_ne _ _ (by decide)).trans hEx)) rfl 0 (by decide) (by decide +kernel : Cond.fieldLink RX1 9 "BriefBuilder$Exhibits" "numbers" "[I" ∈ wsX1_putIn) (fun _ h9 => h9) rfl dX1_putIn_13 rfl ?_
        refine z_iload 18 K dX1_putIn_16 rfl 4 rfl ?_
        refine z_aload_n 19 K dX1_putIn_18 rfl rfl 0 rfl ?_
        refine z_get 22 K hin_X1_putIn_X1 2 (by decide) ((va_up_ne _ _ (by decide)).trans ((va_up_ne _ _ (by decide)).trans hEx)) rfl 0 (by decide) (by decide +kernel : Cond.fieldLink RX1 9 "BriefBuilder$Exhibits" "numbers" "[I" ∈ wsX1_putIn) (fun _ h9 => h9) rfl dX1_putIn_19 rfl ?_
        refine z_iload 24 K dX1_putIn_22 rfl 4 rfl ?_
        refine z_iconst 25 K dX1_putIn_24 rfl ?_
        refine z_isub 26 K dX1_putIn_25 rfl ?_
        refine z_iald (f := h3) 27 K 3 (by decide) ((va_up_ne _ _ (by decide)).trans (va_up_eq _ 3 _)) (by omega) (by omega) (by decide) dX1_putIn_26 rfl ?_
        refine z_iast (f := h3) 28 K 3 (by decide) ((va_up_ne _ _ (by decide)).trans (va_up_eq _ 3 _)) (by omega) (by omega) (by decide) dX1_putIn_27 rfl ?_
        refine z_C (va_uu1 (by decide)) ?_
        refine z_aload_n 29 K dX1_putIn_28 rfl rfl 0 rfl ?_
        refine z_get 32 K hin_X1_putIn_X1 2 (by decide) ((va_up_ne _ _ (by decide)).trans ((va_up_ne _ _ (by decide)).trans hEx)) rfl 1 (by decide) (by decide +kernel : Cond.fieldLink RX1 15 "BriefBuilder$Exhibits" "pages" "[I" ∈ wsX1_putIn) (fun _ h9 => h9) rfl dX1_putIn_29 rfl ?_
        refine z_iload 34 K dX1_putIn_32 rfl 4 rfl ?_
        refine z_aload_n 35 K dX1_putIn_34 rfl rfl 0 rfl ?_
        refine z_get 38 K hin_X1_putIn_X1 2 (by decide) ((va_up_ne _ _ (by decide)).trans ((va_up_ne _ _ (by decide)).trans hEx)) rfl 1 (by decide) (by decide +kernel : Cond.fieldLink RX1 15 "BriefBuilder$Exhibits" "pages" "[I" ∈ wsX1_putIn) (fun _ h9 => h9) rfl dX1_putIn_35 rfl ?_
        refine z_iload 40 K dX1_putIn_38 rfl 4 rfl ?_
        refine z_iconst 41 K dX1_putIn_40 rfl ?_
        refine z_isub 42 K dX1_putIn_41 rfl ?_
        refine z_iald (f := h4) 43 K 4 (by decide) ((va_up_ne _ _ (by decide)).trans (va_up_eq _ 4 _)) (by omega) (by omega) (by decide) dX1_putIn_42 rfl ?_
        refine z_iast (f := h4) 44 K 4 (by decide) ((va_up_ne _ _ (by decide)).trans (va_up_eq _ 4 _)) (by omega) (by omega) (by decide) dX1_putIn_43 rfl ?_
        refine z_C (va_uu1 (by decide)) ?_
        refine z_iinc (lv' := [(4, .int (iZ (k - 1))), (0, .ref (aD g 2)), (1, .int (iZ p0)), (2, .int (iZ x)), (3, .int (iZ y))]) 47 K dX1_putIn_44 rfl (k - 1) (by omega) 4 rfl (by decide) rfl ?_
        refine z_goto (tgt := 6) K dX1_putIn_47 (by decide) ?_
        refine z_sub [1, 2, 3, 4, 0] rfl ?_
        exact ih_6 (zu h3 k (h3 (k - 1))) (zu h4 k (h4 (k - 1))) (k - 1) (by omega) (zIn_step (by omega) hh3 (by omega)) (zIn_step (by omega) hh4 (by omega)) (by omega)
  refine z_sub [1, 2, 3, 4, 0] rfl ?_
  refine z_C (va_us hNum).symm ?_
  refine z_C (va_us ((va_up_ne _ _ (by decide)).trans hPgs)).symm ?_
  exact loop_6 (Int.toNat (cnt - p0) + 1) num pgs cnt (by omega) (fun j => by rw [if_neg (by omega)]) (fun j => by rw [if_neg (by omega)]) (by omega)
set_option maxRecDepth 20000 in
theorem hin_X1_putNew_X1 : ∀ w ∈ wsX10, w ∈ wsX1_putNew := by decide +kernel
set_option maxHeartbeats 4000000 in
set_option maxRecDepth 100000 in
theorem m_X1_putNew (l : Launch) (g : zG) (C : Nat → va_E) (p0 : Int) (y : Int) (cnt : Int) (nxt : Int) (bp : Int) (num : Int → Int) (pgs : Int → Int) (hEx : C 2 = .inr (1, [.ref (aD g 3), .ref (aD g 4), .int (iZ cnt), .int (iZ nxt), .int (iZ bp)])) (hNum : C 3 = eI g 30 num) (hPgs : C 4 = eI g 30 pgs) (hcnt : 0 ≤ cnt ∧ cnt ≤ 29) (hp : 0 ≤ p0 ∧ p0 ≤ cnt) : Met l yX1_putNew wsX1_putNew ({ frames := 1, cells := 0, slots := 0, locals := 24 } : Room) (zPre g C [.ref (aD g 2), .int (iZ p0), .int (iZ y)]) (zQi g (fun z C' => C' = va_up (va_up (va_up C 3 (eI g 30 (zIn num cnt p0 nxt))) 4 (eI g 30 (zIn pgs cnt p0 y))) 2 (.inr (1, [.ref (aD g 3), .ref (aD g 4), .int (iZ (cnt + 1)), .int (iZ (nxt + 1)), .int (iZ bp)])) ∧ z = nxt)) 0 0 (zA g) := by
  refine z_enter RX1 rfl (by decide) rfl (Nat.le_of_ble_eq_true rfl) ?_
  intro p e s m args below meth c K harg
  refine z_sub (lv' := [(0, .ref (aD g 2)), (1, .int (iZ p0)), (2, .int (iZ y))]) [0, 1, 2] rfl ?_
  refine z_aload_n 1 K dX1_putNew_0 rfl rfl 0 rfl ?_
  refine z_get 4 K hin_X1_putNew_X1 2 (by decide) hEx rfl 3 (by decide) (by decide +kernel : Cond.fieldLink RX1 22 "BriefBuilder$Exhibits" "nextNumber" "I" ∈ wsX1_putNew) (fun _ h9 => h9) rfl dX1_putNew_1 rfl ?_
  refine z_istore_n (lv' := [(3, .int (iZ nxt)), (0, .ref (aD g 2)), (1, .int (iZ p0)), (2, .int (iZ y))]) 5 K dX1_putNew_4 rfl rfl (by decide) rfl ?_
  refine z_aload_n 6 K dX1_putNew_5 rfl rfl 1 rfl ?_
  refine z_dup 7 K dX1_putNew_6 rfl rfl ?_
  refine z_get 10 K hin_X1_putNew_X1 2 (by decide) hEx rfl 3 (by decide) (by decide +kernel : Cond.fieldLink RX1 22 "BriefBuilder$Exhibits" "nextNumber" "I" ∈ wsX1_putNew) (fun _ h9 => h9) rfl dX1_putNew_7 rfl ?_
  refine z_iconst 11 K dX1_putNew_10 rfl ?_
  refine z_iadd 12 K dX1_putNew_11 rfl ?_
  refine z_put (ty := .int) 15 K hin_X1_putNew_X1 tyX1 tyX1_ok nmX1 2 (by decide) hEx rfl 3 (by decide) (by decide +kernel : Cond.fieldLink RX1 22 "BriefBuilder$Exhibits" "nextNumber" "I" ∈ wsX1_putNew) (fun _ h9 => h9) rfl (by decide +kernel) rfl rfl (Nat.le_of_ble_eq_true rfl) dX1_putNew_12 rfl ?_
  show Z p l e (({ frames := 1, cells := 0, slots := 0, locals := 24 } : Room)) s m args below meth c (MQ below (zQi g (fun z C' => C' = va_up (va_up (va_up C 3 (eI g 30 (zIn num cnt p0 nxt))) 4 (eI g 30 (zIn pgs cnt p0 y))) 2 (.inr (1, [.ref (aD g 3), .ref (aD g 4), .int (iZ (cnt + 1)), .int (iZ (nxt + 1)), .int (iZ bp)])) ∧ z = nxt)) args s 0 0 (zA g)) g _ _ _ (va_up C 2 (.inr (1, [.ref (aD g 3), .ref (aD g 4), .int (iZ cnt), .int (iZ (nxt + 1)), .int (iZ bp)]))) [(3, .int (iZ nxt)), (0, .ref (aD g 2)), (1, .int (iZ p0)), (2, .int (iZ y))] 15 []
  refine z_aload_n 16 K dX1_putNew_15 rfl rfl 1 rfl ?_
  refine z_iload_n 17 K dX1_putNew_16 rfl rfl 2 rfl ?_
  refine z_iload_n 18 K dX1_putNew_17 rfl rfl 0 rfl ?_
  refine z_iload_n 19 K dX1_putNew_18 rfl rfl 3 rfl ?_
  refine z_vVv (As := [.int (iZ p0), .int (iZ nxt), .int (iZ y)]) (rest := []) 22 K 2 (by decide) (va_up_eq _ 2 _) rfl rfl (m_X1_putIn l g _ p0 nxt y cnt (nxt + 1) bp num pgs (va_up_eq _ 2 _) ((va_up_ne _ _ (by decide)).trans hNum) ((va_up_ne _ _ (by decide)).trans hPgs) (by omega) (by omega)) (cwV 3 K.1.2.2.2.2 gX1_putNew_X1_putIn rfl rfl rfl (by decide +kernel) ⟨Nat.le_of_ble_eq_true rfl, Nat.le_of_ble_eq_true rfl⟩) rfl (Nat.le_of_ble_eq_true rfl) dX1_putNew_19 rfl ⟨Nat.le_of_ble_eq_true rfl, Nat.le_of_ble_eq_true rfl⟩ rfl (fun C_2 hp_19 => ?_)
  refine z_C hp_19 ?_
  refine z_C (va_uu2 (by decide) (by decide)) ?_
  refine z_iload_n 23 K dX1_putNew_22 rfl rfl 0 rfl ?_
  exact z_iret K rfl dX1_putNew_23 ⟨rfl, rfl⟩
set_option maxRecDepth 20000 in
theorem hin_X1_takeOut_X1 : ∀ w ∈ wsX10, w ∈ wsX1_takeOut := by decide +kernel
set_option maxHeartbeats 4000000 in
set_option maxRecDepth 100000 in
theorem m_X1_takeOut (l : Launch) (g : zG) (C : Nat → va_E) (p0 : Int) (cnt : Int) (nxt : Int) (bp : Int) (num : Int → Int) (pgs : Int → Int) (hEx : C 2 = .inr (1, [.ref (aD g 3), .ref (aD g 4), .int (iZ cnt), .int (iZ nxt), .int (iZ bp)])) (hNum : C 3 = eI g 30 num) (hPgs : C 4 = eI g 30 pgs) (hcnt : 0 ≤ cnt ∧ cnt ≤ 30) (hp : 0 ≤ p0 ∧ p0 < cnt) : Met l yX1_takeOut wsX1_takeOut ({ frames := 0, cells := 0, slots := 0, locals := 0 } : Room) (zPre g C [.ref (aD g 2), .int (iZ p0)]) (zQv g (fun C' => C' = va_up (va_up (va_up C 2 (.inr (1, [.ref (aD g 3), .ref (aD g 4), .int (iZ (cnt - 1)), .int (iZ nxt), .int (iZ bp)]))) 3 (eI g 30 (zOut num cnt p0))) 4 (eI g 30 (zOut pgs cnt p0)))) 0 0 (zA g) := by
  refine z_enter RX1 rfl (by decide) rfl (Nat.le_of_ble_eq_true rfl) ?_
  intro p e s m args below meth c K harg
  refine z_sub (lv' := [(0, .ref (aD g 2)), (1, .int (iZ p0))]) [0, 1] rfl ?_
  refine z_aload_n 1 K dX1_takeOut_0 rfl rfl 0 rfl ?_
  refine z_dup 2 K dX1_takeOut_1 rfl rfl ?_
  refine z_get 5 K hin_X1_takeOut_X1 2 (by decide) hEx rfl 2 (by decide) (by decide +kernel : Cond.fieldLink RX1 18 "BriefBuilder$Exhibits" "count" "I" ∈ wsX1_takeOut) (fun _ h9 => h9) rfl dX1_takeOut_2 rfl ?_
  refine z_iconst 6 K dX1_takeOut_5 rfl ?_
  refine z_isub 7 K dX1_takeOut_6 rfl ?_
  refine z_put (ty := .int) 10 K hin_X1_takeOut_X1 tyX1 tyX1_ok nmX1 2 (by decide) hEx rfl 2 (by decide) (by decide +kernel : Cond.fieldLink RX1 18 "BriefBuilder$Exhibits" "count" "I" ∈ wsX1_takeOut) (fun _ h9 => h9) rfl (by decide +kernel) rfl rfl (Nat.le_of_ble_eq_true rfl) dX1_takeOut_7 rfl ?_
  show Z p l e (({ frames := 0, cells := 0, slots := 0, locals := 0 } : Room)) s m args below meth c (MQ below (zQv g (fun C' => C' = va_up (va_up (va_up C 2 (.inr (1, [.ref (aD g 3), .ref (aD g 4), .int (iZ (cnt - 1)), .int (iZ nxt), .int (iZ bp)]))) 3 (eI g 30 (zOut num cnt p0))) 4 (eI g 30 (zOut pgs cnt p0)))) args s 0 0 (zA g)) g _ _ _ (va_up C 2 (.inr (1, [.ref (aD g 3), .ref (aD g 4), .int (iZ (cnt - 1)), .int (iZ nxt), .int (iZ bp)]))) [(0, .ref (aD g 2)), (1, .int (iZ p0))] 10 []
  refine z_iload_n 11 K dX1_takeOut_10 rfl rfl 1 rfl ?_
  refine z_istore_n (lv' := [(2, .int (iZ p0)), (0, .ref (aD g 2)), (1, .int (iZ p0))]) 12 K dX1_takeOut_11 rfl rfl (by decide) rfl ?_
  have loop_12 : ∀ (n9 : Nat) (h3 h4 : Int → Int) (k : Int), (p0 ≤ k ∧ k ≤ cnt - 1) → (∀ j, h3 j = if p0 ≤ j ∧ j < k then num (j + 1) else num j) → (∀ j, h4 j = if p0 ≤ j ∧ j < k then pgs (j + 1) else pgs j) → (cnt - 1 - k < (n9 : Int)) → Z p l e (({ frames := 0, cells := 0, slots := 0, locals := 0 } : Room)) s m args below meth c (MQ below (zQv g (fun C' => C' = va_up (va_up (va_up C 2 (.inr (1, [.ref (aD g 3), .ref (aD g 4), .int (iZ (cnt - 1)), .int (iZ nxt), .int (iZ bp)]))) 3 (eI g 30 (zOut num cnt p0))) 4 (eI g 30 (zOut pgs cnt p0)))) args s 0 0 (zA g)) g 3 0 0 (va_up (va_up (va_up C 2 (.inr (1, [.ref (aD g 3), .ref (aD g 4), .int (iZ (cnt - 1)), .int (iZ nxt), .int (iZ bp)]))) 3 (eI g 30 h3)) 4 (eI g 30 h4)) [(0, .ref (aD g 2)), (1, .int (iZ p0)), (2, .int (iZ k))] 12 [] := by
    intro n9
    induction n9 with
    | zero =>
      intro h3 h4 k hk hh3 hh4 hm9
      exact absurd hm9 (by omega)
    | succ n9 ih9 =>
      intro h3 h4 k hk hh3 hh4 hm_12
      have ih_12 := ih9
      clear ih9
      refine z_iload_n 13 K dX1_takeOut_12 rfl rfl 2 rfl ?_
      refine z_aload_n 14 K dX1_takeOut_13 rfl rfl 0 rfl ?_
      refine z_get 17 K hin_X1_takeOut_X1 2 (by decide) ((va_up_ne _ _ (by decide)).trans ((va_up_ne _ _ (by decide)).trans (va_up_eq _ 2 _))) rfl 2 (by decide) (by decide +kernel : Cond.fieldLink RX1 18 "BriefBuilder$Exhibits" "count" "I" ∈ wsX1_takeOut) (fun _ h9 => h9) rfl dX1_takeOut_14 rfl ?_
      refine z_icmp_ge (tgt := 54) 20 K dX1_takeOut_17 rfl (by decide) (by omega) (by omega) (fun c_17 => ?_) (fun c_17 => ?_)
      · skip
        exact z_vret K rfl dX1_takeOut_54 (by rw [zOut_fin (n := cnt) (by omega) hh3, zOut_fin (n := cnt) (by omega) hh4])
      · skip
        refine z_aload_n 21 K dX1_takeOut_20 rfl rfl 0 rfl ?_
        refine z_get 24 K hin_X1_takeOut_X1 2 (by decide) ((va_up_ne _ _ (by decide)).trans ((va_up_ne _ _ (by decide)).trans (va_up_eq _ 2 _))) rfl 0 (by decide) (by decide +kernel : Cond.fieldLink RX1 9 "BriefBuilder$Exhibits" "numbers" "[I" ∈ wsX1_takeOut) (fun _ h9 => h9) rfl dX1_takeOut_21 rfl ?_
        refine z_iload_n 25 K dX1_takeOut_24 rfl rfl 2 rfl ?_
        refine z_aload_n 26 K dX1_takeOut_25 rfl rfl 0 rfl ?_
        refine z_get 29 K hin_X1_takeOut_X1 2 (by decide) ((va_up_ne _ _ (by decide)).trans ((va_up_ne _ _ (by decide)).trans (va_up_eq _ 2 _))) rfl 0 (by decide) (by decide +kernel : Cond.fieldLink RX1 9 "BriefBuilder$Exhibits" "numbers" "[I" ∈ wsX1_takeOut) (fun _ h9 => h9) rfl dX1_takeOut_26 rfl ?_
        refine z_iload_n 30 K dX1_takeOut_29 rfl rfl 2 rfl ?_
        refine z_iconst 31 K dX1_takeOut_30 rfl ?_
        refine z_iadd 32 K dX1_takeOut_31 rfl ?_
        refine z_iald (f := h3) 33 K 3 (by decide) ((va_up_ne _ _ (by decide)).trans (va_up_eq _ 3 _)) (by omega) (by omega) (by decide) dX1_takeOut_32 rfl ?_
        refine z_iast (f := h3) 34 K 3 (by decide) ((va_up_ne _ _ (by decide)).trans (va_up_eq _ 3 _)) (by omega) (by omega) (by decide) dX1_takeOut_33 rfl ?_
        refine z_C (va_uu1 (by decide)) ?_
        refine z_aload_n 35 K dX1_takeOut_34 rfl rfl 0 rfl ?_
        refine z_get 38 K hin_X1_takeOut_X1 2 (by decide) ((va_up_ne _ _ (by decide)).trans ((va_up_ne _ _ (by decide)).trans (va_up_eq _ 2 _))) rfl 1 (by decide) (by decide +kernel : Cond.fieldLink RX1 15 "BriefBuilder$Exhibits" "pages" "[I" ∈ wsX1_takeOut) (fun _ h9 => h9) rfl dX1_takeOut_35 rfl ?_
        refine z_iload_n 39 K dX1_takeOut_38 rfl rfl 2 rfl ?_
        refine z_aload_n 40 K dX1_takeOut_39 rfl rfl 0 rfl ?_
        refine z_get 43 K hin_X1_takeOut_X1 2 (by decide) ((va_up_ne _ _ (by decide)).trans ((va_up_ne _ _ (by decide)).trans (va_up_eq _ 2 _))) rfl 1 (by decide) (by decide +kernel : Cond.fieldLink RX1 15 "BriefBuilder$Exhibits" "pages" "[I" ∈ wsX1_takeOut) (fun _ h9 => h9) rfl dX1_takeOut_40 rfl ?_
        refine z_iload_n 44 K dX1_takeOut_43 rfl rfl 2 rfl ?_
        refine z_iconst 45 K dX1_takeOut_44 rfl ?_
        refine z_iadd 46 K dX1_takeOut_45 rfl ?_
        refine z_iald (f := h4) 47 K 4 (by decide) ((va_up_ne _ _ (by decide)).trans (va_up_eq _ 4 _)) (by omega) (by omega) (by decide) dX1_takeOut_46 rfl ?_
        refine z_iast (f := h4) 48 K 4 (by decide) ((va_up_ne _ _ (by decide)).trans (va_up_eq _ 4 _)) (by omega) (by omega) (by decide) dX1_takeOut_47 rfl ?_
        refine z_C (va_uu1 (by decide)) ?_
        refine z_iinc (lv' := [(2, .int (iZ (k + 1))), (0, .ref (aD g 2)), (1, .int (iZ p0))]) 51 K dX1_takeOut_48 rfl (k + 1) rfl 2 rfl (by decide) rfl ?_
        refine z_goto (tgt := 12) K dX1_takeOut_51 (by decide) ?_
        refine z_sub [1, 2, 0] rfl ?_
        exact ih_12 (zu h3 k (h3 (k + 1))) (zu h4 k (h4 (k + 1))) (k + 1) (by omega) (zOut_step (by omega) hh3) (zOut_step (by omega) hh4) (by omega)
  refine z_sub [1, 2, 0] rfl ?_
  refine z_C (va_us ((va_up_ne _ _ (by decide)).trans hNum)).symm ?_
  refine z_C (va_us ((va_up_ne _ _ (by decide)).trans ((va_up_ne _ _ (by decide)).trans hPgs))).symm ?_
  exact loop_12 (Int.toNat (cnt - 1 - p0) + 1) num pgs p0 (by omega) (fun j => by rw [if_neg (by omega)]) (fun j => by rw [if_neg (by omega)]) (by omega)
set_option maxRecDepth 20000 in
theorem hin_X1_placeOf_X1 : ∀ w ∈ wsX10, w ∈ wsX1_placeOf := by decide +kernel
set_option maxHeartbeats 4000000 in
set_option maxRecDepth 100000 in
theorem m_X1_placeOf (l : Launch) (g : zG) (C : Nat → va_E) (x : Int) (cnt : Int) (nxt : Int) (bp : Int) (num : Int → Int) (hEx : C 2 = .inr (1, [.ref (aD g 3), .ref (aD g 4), .int (iZ cnt), .int (iZ nxt), .int (iZ bp)])) (hNum : C 3 = eI g 30 num) (hcnt : 0 ≤ cnt ∧ cnt ≤ 30) (hr3 : ∀ j, -2147483648 ≤ num j ∧ num j < 2147483648) (hx : -2147483648 ≤ x ∧ x < 2147483648) : Met l yX1_placeOf wsX1_placeOf ({ frames := 0, cells := 0, slots := 0, locals := 0 } : Room) (zPre g C [.ref (aD g 2), .int (iZ x)]) (zQi g (fun z C' => C' = C ∧ z = zfind num x cnt)) 0 0 (zA g) := by
  refine z_enter RX1 rfl (by decide) rfl (Nat.le_of_ble_eq_true rfl) ?_
  intro p e s m args below meth c K harg
  refine z_sub (lv' := [(0, .ref (aD g 2)), (1, .int (iZ x))]) [0, 1] rfl ?_
  refine z_iconst 1 K dX1_placeOf_0 rfl ?_
  refine z_istore_n (lv' := [(2, .int (iZ 0)), (0, .ref (aD g 2)), (1, .int (iZ x))]) 2 K dX1_placeOf_1 rfl rfl (by decide) rfl ?_
  have loop_2 : ∀ (n9 : Nat) (k : Int), (0 ≤ k ∧ k ≤ cnt) → (∀ j, 0 ≤ j → j < k → num j ≠ x) → (cnt - k < (n9 : Int)) → Z p l e (({ frames := 0, cells := 0, slots := 0, locals := 0 } : Room)) s m args below meth c (MQ below (zQi g (fun z C' => C' = C ∧ z = zfind num x cnt)) args s 0 0 (zA g)) g 3 0 0 (C) [(0, .ref (aD g 2)), (1, .int (iZ x)), (2, .int (iZ k))] 2 [] := by
    intro n9
    induction n9 with
    | zero =>
      intro k hk hno hm9
      exact absurd hm9 (by omega)
    | succ n9 ih9 =>
      intro k hk hno hm_2
      have ih_2 := ih9
      clear ih9
      refine z_iload_n 3 K dX1_placeOf_2 rfl rfl 2 rfl ?_
      refine z_aload_n 4 K dX1_placeOf_3 rfl rfl 0 rfl ?_
      refine z_get 7 K hin_X1_placeOf_X1 2 (by decide) hEx rfl 2 (by decide) (by decide +kernel : Cond.fieldLink RX1 18 "BriefBuilder$Exhibits" "count" "I" ∈ wsX1_placeOf) (fun _ h9 => h9) rfl dX1_placeOf_4 rfl ?_
      refine z_icmp_ge (tgt := 28) 10 K dX1_placeOf_7 rfl (by decide) (by omega) (by omega) (fun c_7 => ?_) (fun c_7 => ?_)
      · skip
        refine z_iconst 29 K dX1_placeOf_28 rfl ?_
        exact z_iret K rfl dX1_placeOf_29 ⟨rfl, (zfind_no (fun j h0 h1 => hno j h0 (by omega))).symm⟩
      · skip
        refine z_aload_n 11 K dX1_placeOf_10 rfl rfl 0 rfl ?_
        refine z_get 14 K hin_X1_placeOf_X1 2 (by decide) hEx rfl 0 (by decide) (by decide +kernel : Cond.fieldLink RX1 9 "BriefBuilder$Exhibits" "numbers" "[I" ∈ wsX1_placeOf) (fun _ h9 => h9) rfl dX1_placeOf_11 rfl ?_
        refine z_iload_n 15 K dX1_placeOf_14 rfl rfl 2 rfl ?_
        refine z_iald (f := num) 16 K 3 (by decide) hNum (by omega) (by omega) (by decide) dX1_placeOf_15 rfl ?_
        have hr_15 := hr3 k
        refine z_iload_n 17 K dX1_placeOf_16 rfl rfl 1 rfl ?_
        refine z_icmp_ne (tgt := 22) 20 K dX1_placeOf_17 rfl (by decide) (by omega) (by omega) (fun c_17 => ?_) (fun c_17 => ?_)
        · skip
          refine z_iinc (lv' := [(2, .int (iZ (k + 1))), (0, .ref (aD g 2)), (1, .int (iZ x))]) 25 K dX1_placeOf_22 rfl (k + 1) rfl 2 rfl (by decide) rfl ?_
          refine z_goto (tgt := 2) K dX1_placeOf_25 (by decide) ?_
          refine z_sub [1, 2, 0] rfl ?_
          exact ih_2 (k + 1) (by omega) (lt_step hno c_17) (by omega)
        · skip
          refine z_iload_n 21 K dX1_placeOf_20 rfl rfl 2 rfl ?_
          exact z_iret K rfl dX1_placeOf_21 ⟨rfl, (zfind_at (by omega) (by omega) hno c_17).symm⟩
  refine z_sub [1, 2, 0] rfl ?_
  exact loop_2 (Int.toNat (cnt - 0) + 1) 0 (by omega) (fun j h0 h1 => absurd h1 (by omega)) (by omega)
set_option maxRecDepth 20000 in
theorem hin_X1_sumOfPages_X1 : ∀ w ∈ wsX10, w ∈ wsX1_sumOfPages := by decide +kernel
set_option maxHeartbeats 4000000 in
set_option maxRecDepth 100000 in
theorem m_X1_sumOfPages (l : Launch) (g : zG) (C : Nat → va_E) (cnt : Int) (nxt : Int) (bp : Int) (pgs : Int → Int) (hEx : C 2 = .inr (1, [.ref (aD g 3), .ref (aD g 4), .int (iZ cnt), .int (iZ nxt), .int (iZ bp)])) (hPgs : C 4 = eI g 30 pgs) (hcnt : 0 ≤ cnt ∧ cnt ≤ 30) : Met l yX1_sumOfPages wsX1_sumOfPages ({ frames := 0, cells := 0, slots := 0, locals := 0 } : Room) (zPre g C [.ref (aD g 2)]) (zQi g (fun z C' => C' = C ∧ z = zsum pgs cnt)) 0 0 (zA g) := by
  refine z_enter RX1 rfl (by decide) rfl (Nat.le_of_ble_eq_true rfl) ?_
  intro p e s m args below meth c K harg
  refine z_sub (lv' := [(0, .ref (aD g 2))]) [0] rfl ?_
  refine z_iconst 1 K dX1_sumOfPages_0 rfl ?_
  refine z_istore_n (lv' := [(1, .int (iZ 0)), (0, .ref (aD g 2))]) 2 K dX1_sumOfPages_1 rfl rfl (by decide) rfl ?_
  refine z_iconst 3 K dX1_sumOfPages_2 rfl ?_
  refine z_istore_n (lv' := [(2, .int (iZ 0)), (1, .int (iZ 0)), (0, .ref (aD g 2))]) 4 K dX1_sumOfPages_3 rfl rfl (by decide) rfl ?_
  have loop_4 : ∀ (n9 : Nat) (n k : Int), (0 ≤ k ∧ k ≤ cnt) → (n = zsum pgs k) → (cnt - k < (n9 : Int)) → Z p l e (({ frames := 0, cells := 0, slots := 0, locals := 0 } : Room)) s m args below meth c (MQ below (zQi g (fun z C' => C' = C ∧ z = zsum pgs cnt)) args s 0 0 (zA g)) g 3 0 0 (C) [(0, .ref (aD g 2)), (1, .int (iZ n)), (2, .int (iZ k))] 4 [] := by
    intro n9
    induction n9 with
    | zero =>
      intro n k hk hn1 hm9
      exact absurd hm9 (by omega)
    | succ n9 ih9 =>
      intro n k hk hn1 hm_4
      have ih_4 := ih9
      clear ih9
      refine z_iload_n 5 K dX1_sumOfPages_4 rfl rfl 2 rfl ?_
      refine z_aload_n 6 K dX1_sumOfPages_5 rfl rfl 0 rfl ?_
      refine z_get 9 K hin_X1_sumOfPages_X1 2 (by decide) hEx rfl 2 (by decide) (by decide +kernel : Cond.fieldLink RX1 18 "BriefBuilder$Exhibits" "count" "I" ∈ wsX1_sumOfPages) (fun _ h9 => h9) rfl dX1_sumOfPages_6 rfl ?_
      refine z_icmp_ge (tgt := 27) 12 K dX1_sumOfPages_9 rfl (by decide) (by omega) (by omega) (fun c_9 => ?_) (fun c_9 => ?_)
      · skip
        refine z_iload_n 28 K dX1_sumOfPages_27 rfl rfl 1 rfl ?_
        exact z_iret K rfl dX1_sumOfPages_28 ⟨rfl, by rw [hn1, show k = cnt by omega]⟩
      · skip
        refine z_iload_n 13 K dX1_sumOfPages_12 rfl rfl 1 rfl ?_
        refine z_aload_n 14 K dX1_sumOfPages_13 rfl rfl 0 rfl ?_
        refine z_get 17 K hin_X1_sumOfPages_X1 2 (by decide) hEx rfl 1 (by decide) (by decide +kernel : Cond.fieldLink RX1 15 "BriefBuilder$Exhibits" "pages" "[I" ∈ wsX1_sumOfPages) (fun _ h9 => h9) rfl dX1_sumOfPages_14 rfl ?_
        refine z_iload_n 18 K dX1_sumOfPages_17 rfl rfl 2 rfl ?_
        refine z_iald (f := pgs) 19 K 4 (by decide) hPgs (by omega) (by omega) (by decide) dX1_sumOfPages_18 rfl ?_
        refine z_iadd 20 K dX1_sumOfPages_19 rfl ?_
        refine z_top (n + pgs k) (by omega) ?_
        refine z_istore_n (lv' := [(1, .int (iZ (n + pgs k))), (0, .ref (aD g 2)), (2, .int (iZ k))]) 21 K dX1_sumOfPages_20 rfl rfl (by decide) rfl ?_
        refine z_iinc (lv' := [(2, .int (iZ (k + 1))), (1, .int (iZ (n + pgs k))), (0, .ref (aD g 2))]) 24 K dX1_sumOfPages_21 rfl (k + 1) rfl 2 rfl (by decide) rfl ?_
        refine z_goto (tgt := 4) K dX1_sumOfPages_24 (by decide) ?_
        refine z_sub [2, 1, 0] rfl ?_
        exact ih_4 (n + pgs k) (k + 1) (by omega) (by rw [zsum_1 _ (by omega)]; omega) (by omega)
  refine z_sub [2, 1, 0] rfl ?_
  exact loop_4 (Int.toNat (cnt - 0) + 1) 0 0 (by omega) rfl (by omega)
set_option maxRecDepth 20000 in
theorem hin_X0_add_X0 : ∀ w ∈ wsX00, w ∈ wsX0_add := by decide +kernel
set_option maxHeartbeats 4000000 in
set_option maxRecDepth 100000 in
theorem m_X0_add (l : Launch) (g : zG) (C : Nat → va_E) (a : Int) (x : Int) (y : Int) (cc : Int → Int) (cn : Int → Int) (cp : Int → Int) (hCi : C 5 = .inr (0, [.ref (aD g 6), .ref (aD g 7), .ref (aD g 8)])) (hCc : C 6 = eI g 12 cc) (hCn : C 7 = eI g 72 cn) (hCp : C 8 = eI g 72 cp) (hpa : 0 ≤ a ∧ a < 12) (hca : 0 ≤ cc a ∧ cc a ≤ 5) : Met l yX0_add wsX0_add ({ frames := 1, cells := 0, slots := 0, locals := 21 } : Room) (zPre g C [.ref (aD g 5), .int (iZ a), .int (iZ x), .int (iZ y)]) (zQv g (fun C' => C' = va_up (va_up (va_up C 7 (eI g 72 (zu cn (6 * a + cc a) x))) 8 (eI g 72 (zu cp (6 * a + cc a) y))) 6 (eI g 12 (zu cc a (cc a + 1))))) 0 0 (zA g) := by
  refine z_enter RX0 rfl (by decide) rfl (Nat.le_of_ble_eq_true rfl) ?_
  intro p e s m args below meth c K harg
  refine z_sub (lv' := [(0, .ref (aD g 5)), (1, .int (iZ a)), (2, .int (iZ x)), (3, .int (iZ y))]) [0, 1, 2, 3] rfl ?_
  refine z_iload_n 1 K dX0_add_0 rfl rfl 1 rfl ?_
  refine z_aload_n 2 K dX0_add_1 rfl rfl 0 rfl ?_
  refine z_get 5 K hin_X0_add_X0 5 (by decide) hCi rfl 0 (by decide) (by decide +kernel : Cond.fieldLink RX0 9 "BriefBuilder$Citations" "counts" "[I" ∈ wsX0_add) (fun _ h9 => h9) rfl dX0_add_2 rfl ?_
  refine z_iload_n 6 K dX0_add_5 rfl rfl 1 rfl ?_
  refine z_iald (f := cc) 7 K 6 (by decide) hCc (by omega) (by omega) (by decide) dX0_add_6 rfl ?_
  refine z_vNi (As := [.int (iZ a), .int (iZ (cc a))]) (rest := []) 10 K (m_X8_cellOf l g _ a (cc a) ) ⟨va_cnB 2 K.1.2.2.2.2 gX0_add_X8_cellOf_n27 rfl rfl rfl K.2.2.2.2.1 (K.1.2.2.2.2 _ (by decide +kernel)) (by decide +kernel) ⟨Nat.le_of_ble_eq_true rfl, Nat.le_of_ble_eq_true rfl⟩, K.1.2.2.2.2 _ (by decide +kernel), trivial⟩ rfl (Nat.le_of_ble_eq_true rfl) dX0_add_7 rfl ⟨Nat.le_of_ble_eq_true rfl, Nat.le_of_ble_eq_true rfl⟩ rfl (fun z_1 C_2 hp_7 => ?_)
  refine z_C hp_7.1 ?_
  refine z_top (6 * a + cc a) hp_7.2 ?_
  refine z_istore (lv' := [(4, .int (iZ (6 * a + cc a))), (0, .ref (aD g 5)), (1, .int (iZ a)), (2, .int (iZ x)), (3, .int (iZ y))]) 12 K dX0_add_10 rfl (by decide) rfl ?_
  refine z_aload_n 13 K dX0_add_12 rfl rfl 1 rfl ?_
  refine z_get 16 K hin_X0_add_X0 5 (by decide) hCi rfl 1 (by decide) (by decide +kernel : Cond.fieldLink RX0 15 "BriefBuilder$Citations" "numbers" "[I" ∈ wsX0_add) (fun _ h9 => h9) rfl dX0_add_13 rfl ?_
  refine z_iload 18 K dX0_add_16 rfl 0 rfl ?_
  refine z_iload_n 19 K dX0_add_18 rfl rfl 3 rfl ?_
  refine z_iast (f := cn) 20 K 7 (by decide) hCn (by omega) (by omega) (by decide) dX0_add_19 rfl ?_
  refine z_aload_n 21 K dX0_add_20 rfl rfl 1 rfl ?_
  refine z_get 24 K hin_X0_add_X0 5 (by decide) ((va_up_ne _ _ (by decide)).trans hCi) rfl 2 (by decide) (by decide +kernel : Cond.fieldLink RX0 18 "BriefBuilder$Citations" "pages" "[I" ∈ wsX0_add) (fun _ h9 => h9) rfl dX0_add_21 rfl ?_
  refine z_iload 26 K dX0_add_24 rfl 0 rfl ?_
  refine z_iload_n 27 K dX0_add_26 rfl rfl 4 rfl ?_
  refine z_iast (f := cp) 28 K 8 (by decide) ((va_up_ne _ _ (by decide)).trans hCp) (by omega) (by omega) (by decide) dX0_add_27 rfl ?_
  refine z_aload_n 29 K dX0_add_28 rfl rfl 1 rfl ?_
  refine z_get 32 K hin_X0_add_X0 5 (by decide) ((va_up_ne _ _ (by decide)).trans ((va_up_ne _ _ (by decide)).trans hCi)) rfl 0 (by decide) (by decide +kernel : Cond.fieldLink RX0 9 "BriefBuilder$Citations" "counts" "[I" ∈ wsX0_add) (fun _ h9 => h9) rfl dX0_add_29 rfl ?_
  refine z_iload_n 33 K dX0_add_32 rfl rfl 2 rfl ?_
  refine z_dup2 34 K dX0_add_33 rfl rfl rfl ?_
  refine z_iald (f := cc) 35 K 6 (by decide) ((va_up_ne _ _ (by decide)).trans ((va_up_ne _ _ (by decide)).trans hCc)) (by omega) (by omega) (by decide) dX0_add_34 rfl ?_
  refine z_iconst 36 K dX0_add_35 rfl ?_
  refine z_iadd 37 K dX0_add_36 rfl ?_
  refine z_iast (f := cc) 38 K 6 (by decide) ((va_up_ne _ _ (by decide)).trans ((va_up_ne _ _ (by decide)).trans hCc)) (by omega) (by omega) (by decide) dX0_add_37 rfl ?_
  exact z_vret K rfl dX0_add_38 rfl
set_option maxRecDepth 20000 in
theorem hin_X0_takeOutLost_X0 : ∀ w ∈ wsX00, w ∈ wsX0_takeOutLost := by decide +kernel
set_option maxHeartbeats 4000000 in
set_option maxRecDepth 100000 in
theorem m_X0_takeOutLost (l : Launch) (g : zG) (C : Nat → va_E) (a : Int) (cc : Int → Int) (cn : Int → Int) (cp : Int → Int) (lo : Int → Int) (hCi : C 5 = .inr (0, [.ref (aD g 6), .ref (aD g 7), .ref (aD g 8)])) (hCc : C 6 = eI g 12 cc) (hCn : C 7 = eI g 72 cn) (hCp : C 8 = eI g 72 cp) (hLo : C 17 = eZ g 72 lo) (hpa : 0 ≤ a ∧ a < 12) (hca : 0 ≤ cc a ∧ cc a ≤ 6) (hlo : ∀ j, lo j = 0 ∨ lo j = 1) : Met l yX0_takeOutLost wsX0_takeOutLost ({ frames := 2, cells := 0, slots := 0, locals := 45 } : Room) (zPre g C [.ref (aD g 5), .int (iZ a), .ref (aD g 17)]) (zQi g (fun z C' => C' = va_up (va_up (va_up C 7 (eI g 72 (iCl cn lo a (cc a)))) 8 (eI g 72 (iCl cp lo a (cc a)))) 6 (eI g 12 (zu cc a (iLf lo a (cc a)))) ∧ z = cc a - iLf lo a (cc a))) 0 0 (zA g) := by
  refine z_enter RX0 rfl (by decide) rfl (Nat.le_of_ble_eq_true rfl) ?_
  intro p e s m args below meth c K harg
  refine z_sub (lv' := [(0, .ref (aD g 5)), (1, .int (iZ a)), (2, .ref (aD g 17))]) [0, 1, 2] rfl ?_
  refine z_aload_n 1 K dX0_takeOutLost_0 rfl rfl 0 rfl ?_
  refine z_get 4 K hin_X0_takeOutLost_X0 5 (by decide) hCi rfl 0 (by decide) (by decide +kernel : Cond.fieldLink RX0 9 "BriefBuilder$Citations" "counts" "[I" ∈ wsX0_takeOutLost) (fun _ h9 => h9) rfl dX0_takeOutLost_1 rfl ?_
  refine z_iload_n 5 K dX0_takeOutLost_4 rfl rfl 1 rfl ?_
  refine z_iald (f := cc) 6 K 6 (by decide) hCc (by omega) (by omega) (by decide) dX0_takeOutLost_5 rfl ?_
  refine z_istore_n (lv' := [(3, .int (iZ (cc a))), (0, .ref (aD g 5)), (1, .int (iZ a)), (2, .ref (aD g 17))]) 7 K dX0_takeOutLost_6 rfl rfl (by decide) rfl ?_
  refine z_aload_n 8 K dX0_takeOutLost_7 rfl rfl 1 rfl ?_
  refine z_get 11 K hin_X0_takeOutLost_X0 5 (by decide) hCi rfl 0 (by decide) (by decide +kernel : Cond.fieldLink RX0 9 "BriefBuilder$Citations" "counts" "[I" ∈ wsX0_takeOutLost) (fun _ h9 => h9) rfl dX0_takeOutLost_8 rfl ?_
  refine z_iload_n 12 K dX0_takeOutLost_11 rfl rfl 2 rfl ?_
  refine z_iconst 13 K dX0_takeOutLost_12 rfl ?_
  refine z_iast (f := cc) 14 K 6 (by decide) hCc (by omega) (by omega) (by decide) dX0_takeOutLost_13 rfl ?_
  refine z_iconst 15 K dX0_takeOutLost_14 rfl ?_
  refine z_istore (lv' := [(4, .int (iZ 0)), (3, .int (iZ (cc a))), (0, .ref (aD g 5)), (1, .int (iZ a)), (2, .ref (aD g 17))]) 17 K dX0_takeOutLost_15 rfl (by decide) rfl ?_
  have loop_17 : ∀ (n9 : Nat) (g6 g7 g8 : Int → Int) (b : Int), (0 ≤ b ∧ b ≤ cc a) → (g6 = zu cc a (iLf lo a b)) → (g7 = iCl cn lo a b) → (g8 = iCl cp lo a b) → (cc a - b < (n9 : Int)) → Z p l e (({ frames := 2, cells := 0, slots := 0, locals := 45 } : Room)) s m args below meth c (MQ below (zQi g (fun z C' => C' = va_up (va_up (va_up C 7 (eI g 72 (iCl cn lo a (cc a)))) 8 (eI g 72 (iCl cp lo a (cc a)))) 6 (eI g 12 (zu cc a (iLf lo a (cc a)))) ∧ z = cc a - iLf lo a (cc a))) args s 0 0 (zA g)) g 6 0 0 (va_up (va_up (va_up C 7 (eI g 72 g7)) 8 (eI g 72 g8)) 6 (eI g 12 g6)) [(0, .ref (aD g 5)), (1, .int (iZ a)), (2, .ref (aD g 17)), (3, .int (iZ (cc a))), (4, .int (iZ b))] 17 [] := by
    intro n9
    induction n9 with
    | zero =>
      intro g6 g7 g8 b hkb hg6 hg7 hg8 hm9
      exact absurd hm9 (by omega)
    | succ n9 ih9 =>
      intro g6 g7 g8 b hkb hg6 hg7 hg8 hm_17
      have ih_17 := ih9
      clear ih9
      refine z_iload 19 K dX0_takeOutLost_17 rfl 4 rfl ?_
      refine z_iload_n 20 K dX0_takeOutLost_19 rfl rfl 3 rfl ?_
      refine z_icmp_ge (tgt := 63) 23 K dX0_takeOutLost_20 rfl (by decide) (by omega) (by omega) (fun c_20 => ?_) (fun c_20 => ?_)
      · skip
        have eb : b = cc a := by omega
        refine z_iload_n 64 K dX0_takeOutLost_63 rfl rfl 3 rfl ?_
        refine z_aload_n 65 K dX0_takeOutLost_64 rfl rfl 0 rfl ?_
        refine z_get 68 K hin_X0_takeOutLost_X0 5 (by decide) ((va_up_ne _ _ (by decide)).trans ((va_up_ne _ _ (by decide)).trans ((va_up_ne _ _ (by decide)).trans hCi))) rfl 0 (by decide) (by decide +kernel : Cond.fieldLink RX0 9 "BriefBuilder$Citations" "counts" "[I" ∈ wsX0_takeOutLost) (fun _ h9 => h9) rfl dX0_takeOutLost_65 rfl ?_
        refine z_iload_n 69 K dX0_takeOutLost_68 rfl rfl 1 rfl ?_
        refine z_iald (f := g6) 70 K 6 (by decide) (va_up_eq _ 6 _) (by omega) (by omega) (by decide) dX0_takeOutLost_69 rfl ?_
        refine z_top (iLf lo a b) (by rw [hg6, zu_eq]) ?_
        refine z_isub 71 K dX0_takeOutLost_70 rfl ?_
        exact z_iret K rfl dX0_takeOutLost_71 ⟨by rw [hg6, hg7, hg8, eb], by rw [eb]⟩
      · skip
        refine z_iload_n 24 K dX0_takeOutLost_23 rfl rfl 1 rfl ?_
        refine z_iload 26 K dX0_takeOutLost_24 rfl 4 rfl ?_
        refine z_vNi (As := [.int (iZ a), .int (iZ b)]) (rest := []) 29 K (m_X8_cellOf l g _ a b ) ⟨va_cnB 2 K.1.2.2.2.2 gX0_takeOutLost_X8_cellOf_n27 rfl rfl rfl K.2.2.2.2.1 (K.1.2.2.2.2 _ (by decide +kernel)) (by decide +kernel) ⟨Nat.le_of_ble_eq_true rfl, Nat.le_of_ble_eq_true rfl⟩, K.1.2.2.2.2 _ (by decide +kernel), trivial⟩ rfl (Nat.le_of_ble_eq_true rfl) dX0_takeOutLost_26 rfl ⟨Nat.le_of_ble_eq_true rfl, Nat.le_of_ble_eq_true rfl⟩ rfl (fun z_1 C_2 hp_26 => ?_)
        refine z_C hp_26.1 ?_
        refine z_top (6 * a + b) hp_26.2 ?_
        refine z_istore (lv' := [(5, .int (iZ (6 * a + b))), (0, .ref (aD g 5)), (1, .int (iZ a)), (2, .ref (aD g 17)), (3, .int (iZ (cc a))), (4, .int (iZ b))]) 31 K dX0_takeOutLost_29 rfl (by decide) rfl ?_
        refine z_aload_n 32 K dX0_takeOutLost_31 rfl rfl 3 rfl ?_
        refine z_iload 34 K dX0_takeOutLost_32 rfl 0 rfl ?_
        refine z_zald (f := lo) 35 K 17 (by decide) ((va_up_ne _ _ (by decide)).trans ((va_up_ne _ _ (by decide)).trans ((va_up_ne _ _ (by decide)).trans hLo))) (by omega) (by omega) (by decide) dX0_takeOutLost_34 rfl ?_
        have hl35 := hlo (6 * a + b)
        refine z_if_ne (tgt := 57) 38 K dX0_takeOutLost_35 rfl (by decide) (by omega) (fun c_35 => ?_) (fun c_35 => ?_)
        · skip
          refine z_iinc (lv' := [(4, .int (iZ (b + 1))), (5, .int (iZ (6 * a + b))), (0, .ref (aD g 5)), (1, .int (iZ a)), (2, .ref (aD g 17)), (3, .int (iZ (cc a)))]) 60 K dX0_takeOutLost_57 rfl (b + 1) rfl 5 rfl (by decide) rfl ?_
          refine z_goto (tgt := 17) K dX0_takeOutLost_60 (by decide) ?_
          refine z_sub [2, 3, 4, 5, 0] rfl ?_
          exact ih_17 g6 g7 g8 (b + 1) (by omega) (by rw [iLf_1 (by omega)]; first | (rw [b2i_1 c_35, hg6, zu_eq, zu_zu]) | (rw [b2i_0 c_35, hg6, Int.add_zero])) (by rw [iCl_1 (by omega)]; first | (rw [if_pos c_35, hg7, hg6, zu_eq]) | (rw [if_neg c_35, hg7])) (by rw [iCl_1 (by omega)]; first | (rw [if_pos c_35, hg8, hg6, zu_eq]) | (rw [if_neg c_35, hg8])) (by omega)
        · skip
          refine z_aload_n 39 K dX0_takeOutLost_38 rfl rfl 1 rfl ?_
          refine z_iload_n 40 K dX0_takeOutLost_39 rfl rfl 2 rfl ?_
          refine z_aload_n 41 K dX0_takeOutLost_40 rfl rfl 1 rfl ?_
          refine z_get 44 K hin_X0_takeOutLost_X0 5 (by decide) ((va_up_ne _ _ (by decide)).trans ((va_up_ne _ _ (by decide)).trans ((va_up_ne _ _ (by decide)).trans hCi))) rfl 1 (by decide) (by decide +kernel : Cond.fieldLink RX0 15 "BriefBuilder$Citations" "numbers" "[I" ∈ wsX0_takeOutLost) (fun _ h9 => h9) rfl dX0_takeOutLost_41 rfl ?_
          refine z_iload 46 K dX0_takeOutLost_44 rfl 0 rfl ?_
          refine z_iald (f := g7) 47 K 7 (by decide) ((va_up_ne _ _ (by decide)).trans ((va_up_ne _ _ (by decide)).trans (va_up_eq _ 7 _))) (by omega) (by omega) (by decide) dX0_takeOutLost_46 rfl ?_
          refine z_top (cn (6 * a + b)) (by rw [hg7]; exact iCl_ge (by omega) (by omega)) ?_
          refine z_aload_n 48 K dX0_takeOutLost_47 rfl rfl 1 rfl ?_
          refine z_get 51 K hin_X0_takeOutLost_X0 5 (by decide) ((va_up_ne _ _ (by decide)).trans ((va_up_ne _ _ (by decide)).trans ((va_up_ne _ _ (by decide)).trans hCi))) rfl 2 (by decide) (by decide +kernel : Cond.fieldLink RX0 18 "BriefBuilder$Citations" "pages" "[I" ∈ wsX0_takeOutLost) (fun _ h9 => h9) rfl dX0_takeOutLost_48 rfl ?_
          refine z_iload 53 K dX0_takeOutLost_51 rfl 0 rfl ?_
          refine z_iald (f := g8) 54 K 8 (by decide) ((va_up_ne _ _ (by decide)).trans (va_up_eq _ 8 _)) (by omega) (by omega) (by decide) dX0_takeOutLost_53 rfl ?_
          refine z_top (cp (6 * a + b)) (by rw [hg8]; exact iCl_ge (by omega) (by omega)) ?_
          have hlr := iLf_rng lo a (c := b) (by omega)
          have hge : g6 a = iLf lo a b := by rw [hg6, zu_eq]
          refine z_vVv (As := [.int (iZ a), .int (iZ (cn (6 * a + b))), .int (iZ (cp (6 * a + b)))]) (rest := []) 57 K 5 (by decide) ((va_up_ne _ _ (by decide)).trans ((va_up_ne _ _ (by decide)).trans ((va_up_ne _ _ (by decide)).trans hCi))) rfl rfl (m_X0_add l g _ a (cn (6 * a + b)) (cp (6 * a + b)) g6 g7 g8 ((va_up_ne _ _ (by decide)).trans ((va_up_ne _ _ (by decide)).trans ((va_up_ne _ _ (by decide)).trans hCi))) (va_up_eq _ 6 _) ((va_up_ne _ _ (by decide)).trans ((va_up_ne _ _ (by decide)).trans (va_up_eq _ 7 _))) ((va_up_ne _ _ (by decide)).trans (va_up_eq _ 8 _)) (by omega) (by omega)) (cwV 3 K.1.2.2.2.2 gX0_takeOutLost_X0_add rfl rfl rfl (by decide +kernel) ⟨Nat.le_of_ble_eq_true rfl, Nat.le_of_ble_eq_true rfl⟩) rfl (Nat.le_of_ble_eq_true rfl) dX0_takeOutLost_54 rfl ⟨Nat.le_of_ble_eq_true rfl, Nat.le_of_ble_eq_true rfl⟩ rfl (fun C_4 hp_54 => ?_)
          refine z_C hp_54 ?_
          refine z_C (congrArg (fun c9 => va_up (va_up c9 8 (eI g 72 (zu g8 (6 * a + g6 a) (cp (6 * a + b))))) 6 (eI g 12 (zu g6 a (g6 a + 1)))) (va_uu2 (q := 7) (q1 := 8) (q2 := 6) (by decide) (by decide))) ?_
          refine z_C (congrArg (fun c9 => va_up c9 6 (eI g 12 (zu g6 a (g6 a + 1)))) (va_uu2 (q := 8) (q1 := 6) (q2 := 7) (by decide) (by decide))) ?_
          refine z_C (va_uu2 (by decide) (by decide)) ?_
          refine z_iinc (lv' := [(4, .int (iZ (b + 1))), (5, .int (iZ (6 * a + b))), (0, .ref (aD g 5)), (1, .int (iZ a)), (2, .ref (aD g 17)), (3, .int (iZ (cc a)))]) 60 K dX0_takeOutLost_57 rfl (b + 1) rfl 5 rfl (by decide) rfl ?_
          refine z_goto (tgt := 17) K dX0_takeOutLost_60 (by decide) ?_
          refine z_sub [2, 3, 4, 5, 0] rfl ?_
          exact ih_17 (zu g6 a (g6 a + 1)) (zu g7 (6 * a + g6 a) (cn (6 * a + b))) (zu g8 (6 * a + g6 a) (cp (6 * a + b))) (b + 1) (by omega) (by rw [iLf_1 (by omega)]; first | (rw [b2i_1 c_35, hg6, zu_eq, zu_zu]) | (rw [b2i_0 c_35, hg6, Int.add_zero])) (by rw [iCl_1 (by omega)]; first | (rw [if_pos c_35, hg7, hg6, zu_eq]) | (rw [if_neg c_35, hg7])) (by rw [iCl_1 (by omega)]; first | (rw [if_pos c_35, hg8, hg6, zu_eq]) | (rw [if_neg c_35, hg8])) (by omega)
  refine z_sub [2, 3, 4, 1, 0] rfl ?_
  refine z_C (va_us ((va_up_ne _ _ (by decide)).trans hCn)).symm ?_
  refine z_C (va_us ((va_up_ne _ _ (by decide)).trans ((va_up_ne _ _ (by decide)).trans hCp))).symm ?_
  refine z_C (va_ur1 (by decide)) ?_
  refine z_C (va_ur1 (by decide)) ?_
  refine z_C (va_ur2 (by decide) (by decide)) ?_
  exact loop_17 (Int.toNat (cc a - 0) + 1) (zu cc a 0) cn cp 0 (by omega) rfl rfl rfl (by omega)
set_option maxRecDepth 20000 in
theorem hin_X0_followJoin_X0 : ∀ w ∈ wsX00, w ∈ wsX0_followJoin := by decide +kernel
set_option maxHeartbeats 4000000 in
set_option maxRecDepth 100000 in
theorem m_X0_followJoin (l : Launch) (g : zG) (C : Nat → va_E) (x : Int) (x2 : Int) (ah : Int) (cc : Int → Int) (cn : Int → Int) (cp : Int → Int) (hCi : C 5 = .inr (0, [.ref (aD g 6), .ref (aD g 7), .ref (aD g 8)])) (hCc : C 6 = eI g 12 cc) (hCn : C 7 = eI g 72 cn) (hCp : C 8 = eI g 72 cp) (hcc : ∀ a, 0 ≤ a → a < 12 → 0 ≤ cc a ∧ cc a ≤ 6) (hrn : ∀ j, -2147483648 ≤ cn j ∧ cn j < 2147483648) (hx : -2147483648 ≤ x ∧ x < 2147483648) (hah : 0 ≤ ah ∧ ah ≤ 60) (hcp9 : ∀ a b, 0 ≤ a → a < 12 → 0 ≤ b → b < cc a → 1 ≤ cp (6 * a + b) ∧ cp (6 * a + b) ≤ 60) : Met l yX0_followJoin wsX0_followJoin ({ frames := 1, cells := 0, slots := 0, locals := 21 } : Room) (zPre g C [.ref (aD g 5), .int (iZ x), .int (iZ x2), .int (iZ ah)]) (zQv g (fun C' => C' = va_up (va_up C 7 (eI g 72 (iFn cc cn cp (fun y => decide (y + ah ≤ 60)) x x2 72))) 8 (eI g 72 (iFp cc cn cp (fun y => decide (y + ah ≤ 60)) x (ah) 72)))) 0 0 (zA g) := by
  refine z_enter RX0 rfl (by decide) rfl (Nat.le_of_ble_eq_true rfl) ?_
  intro p e s m args below meth c K harg
  refine z_sub (lv' := [(0, .ref (aD g 5)), (1, .int (iZ x)), (2, .int (iZ x2)), (3, .int (iZ ah))]) [0, 1, 2, 3] rfl ?_
  refine z_iconst 1 K dX0_followJoin_0 rfl ?_
  refine z_istore (lv' := [(4, .int (iZ 0)), (0, .ref (aD g 5)), (1, .int (iZ x)), (2, .int (iZ x2)), (3, .int (iZ ah))]) 3 K dX0_followJoin_1 rfl (by decide) rfl ?_
  have loop_3 : ∀ (n9 : Nat) (g7 g8 : Int → Int) (a : Int), (0 ≤ a ∧ a ≤ 12) → (g7 = iFn cc cn cp (fun y => decide (y + ah ≤ 60)) x x2 (6 * a)) → (g8 = iFp cc cn cp (fun y => decide (y + ah ≤ 60)) x (ah) (6 * a)) → (12 - a < (n9 : Int)) → Z p l e (({ frames := 1, cells := 0, slots := 0, locals := 21 } : Room)) s m args below meth c (MQ below (zQv g (fun C' => C' = va_up (va_up C 7 (eI g 72 (iFn cc cn cp (fun y => decide (y + ah ≤ 60)) x x2 72))) 8 (eI g 72 (iFp cc cn cp (fun y => decide (y + ah ≤ 60)) x (ah) 72)))) args s 0 0 (zA g)) g 7 0 0 (va_up (va_up C 7 (eI g 72 g7)) 8 (eI g 72 g8)) [(0, .ref (aD g 5)), (1, .int (iZ x)), (2, .int (iZ x2)), (3, .int (iZ ah)), (4, .int (iZ a))] 3 [] := by
    intro n9
    induction n9 with
    | zero =>
      intro g7 g8 a hka hg7 hg8 hm9
      exact absurd hm9 (by omega)
    | succ n9 ih9 =>
      intro g7 g8 a hka hg7 hg8 hm_3
      have ih_3 := ih9
      clear ih9
      refine z_iload 5 K dX0_followJoin_3 rfl 4 rfl ?_
      refine z_bipush 7 K dX0_followJoin_5 rfl rfl ?_
      refine z_icmp_ge (tgt := 90) 10 K dX0_followJoin_7 rfl (by decide) (by omega) (by decide) (fun c_7 => ?_) (fun c_7 => ?_)
      · skip
        have ea9 : a = 12 := by omega
        exact z_vret K rfl dX0_followJoin_90 (by rw [hg7, hg8, ea9]; rfl)
      · skip
        have hc9 := hcc a (by omega) (by omega)
        refine z_iconst 11 K dX0_followJoin_10 rfl ?_
        refine z_istore (lv' := [(5, .int (iZ 0)), (0, .ref (aD g 5)), (1, .int (iZ x)), (2, .int (iZ x2)), (3, .int (iZ ah)), (4, .int (iZ a))]) 13 K dX0_followJoin_11 rfl (by decide) rfl ?_
        have loop_13 : ∀ (n9 : Nat) (k7 k8 : Int → Int) (b : Int), (0 ≤ b ∧ b ≤ cc a) → (k7 = iFn cc cn cp (fun y => decide (y + ah ≤ 60)) x x2 (6 * a + b)) → (k8 = iFp cc cn cp (fun y => decide (y + ah ≤ 60)) x (ah) (6 * a + b)) → (cc a - b < (n9 : Int)) → Z p l e (({ frames := 1, cells := 0, slots := 0, locals := 21 } : Room)) s m args below meth c (MQ below (zQv g (fun C' => C' = va_up (va_up C 7 (eI g 72 (iFn cc cn cp (fun y => decide (y + ah ≤ 60)) x x2 72))) 8 (eI g 72 (iFp cc cn cp (fun y => decide (y + ah ≤ 60)) x (ah) 72)))) args s 0 0 (zA g)) g 7 0 0 (va_up (va_up C 7 (eI g 72 k7)) 8 (eI g 72 k8)) [(0, .ref (aD g 5)), (1, .int (iZ x)), (2, .int (iZ x2)), (3, .int (iZ ah)), (4, .int (iZ a)), (5, .int (iZ b))] 13 [] := by
          intro n9
          induction n9 with
          | zero =>
            intro k7 k8 b hkb hk7 hk8 hm9
            exact absurd hm9 (by omega)
          | succ n9 ih9 =>
            intro k7 k8 b hkb hk7 hk8 hm_13
            have ih_13 := ih9
            clear ih9
            refine z_iload 15 K dX0_followJoin_13 rfl 5 rfl ?_
            refine z_aload_n 16 K dX0_followJoin_15 rfl rfl 0 rfl ?_
            refine z_get 19 K hin_X0_followJoin_X0 5 (by decide) ((va_up_ne _ _ (by decide)).trans ((va_up_ne _ _ (by decide)).trans hCi)) rfl 0 (by decide) (by decide +kernel : Cond.fieldLink RX0 9 "BriefBuilder$Citations" "counts" "[I" ∈ wsX0_followJoin) (fun _ h9 => h9) rfl dX0_followJoin_16 rfl ?_
            refine z_iload 21 K dX0_followJoin_19 rfl 4 rfl ?_
            refine z_iald (f := cc) 22 K 6 (by decide) ((va_up_ne _ _ (by decide)).trans ((va_up_ne _ _ (by decide)).trans hCc)) (by omega) (by omega) (by decide) dX0_followJoin_21 rfl ?_
            refine z_icmp_ge (tgt := 84) 25 K dX0_followJoin_22 rfl (by decide) (by omega) (by omega) (fun c_22 => ?_) (fun c_22 => ?_)
            · skip
              refine z_iinc (lv' := [(4, .int (iZ (a + 1))), (0, .ref (aD g 5)), (1, .int (iZ x)), (2, .int (iZ x2)), (3, .int (iZ ah)), (5, .int (iZ b))]) 87 K dX0_followJoin_84 rfl (a + 1) rfl 4 rfl (by decide) rfl ?_
              refine z_goto (tgt := 3) K dX0_followJoin_87 (by decide) ?_
              refine z_sub [1, 2, 3, 4, 0] rfl ?_
              exact ih_3 k7 k8 (a + 1) (by omega) (by rw [hk7]; exact iFn_miss (by omega) (fun j h0 h1 h2 => by have e9 : j / 6 = a := (by omega); rw [e9] at h2; omega)) (by rw [hk8]; exact iFp_miss (by omega) (fun j h0 h1 h2 => by have e9 : j / 6 = a := (by omega); rw [e9] at h2; omega)) (by omega)
            · skip
              have hd6 : (6 * a + b) / 6 = a := by omega
              have hm6 : (6 * a + b) % 6 = b := by omega
              have hp9 := hcp9 a b (by omega) (by omega) (by omega) (by omega)
              have hr9 := hrn (6 * a + b)
              refine z_iload 27 K dX0_followJoin_25 rfl 4 rfl ?_
              refine z_iload 29 K dX0_followJoin_27 rfl 5 rfl ?_
              refine z_vNi (As := [.int (iZ a), .int (iZ b)]) (rest := []) 32 K (m_X8_cellOf l g _ a b ) ⟨va_cnB 2 K.1.2.2.2.2 gX0_followJoin_X8_cellOf_n27 rfl rfl rfl K.2.2.2.2.1 (K.1.2.2.2.2 _ (by decide +kernel)) (by decide +kernel) ⟨Nat.le_of_ble_eq_true rfl, Nat.le_of_ble_eq_true rfl⟩, K.1.2.2.2.2 _ (by decide +kernel), trivial⟩ rfl (Nat.le_of_ble_eq_true rfl) dX0_followJoin_29 rfl ⟨Nat.le_of_ble_eq_true rfl, Nat.le_of_ble_eq_true rfl⟩ rfl (fun z_1 C_2 hp_29 => ?_)
              refine z_C hp_29.1 ?_
              refine z_top (6 * a + b) hp_29.2 ?_
              refine z_istore (lv' := [(6, .int (iZ (6 * a + b))), (0, .ref (aD g 5)), (1, .int (iZ x)), (2, .int (iZ x2)), (3, .int (iZ ah)), (4, .int (iZ a)), (5, .int (iZ b))]) 34 K dX0_followJoin_32 rfl (by decide) rfl ?_
              refine z_aload_n 35 K dX0_followJoin_34 rfl rfl 1 rfl ?_
              refine z_get 38 K hin_X0_followJoin_X0 5 (by decide) ((va_up_ne _ _ (by decide)).trans ((va_up_ne _ _ (by decide)).trans hCi)) rfl 1 (by decide) (by decide +kernel : Cond.fieldLink RX0 15 "BriefBuilder$Citations" "numbers" "[I" ∈ wsX0_followJoin) (fun _ h9 => h9) rfl dX0_followJoin_35 rfl ?_
              refine z_iload 40 K dX0_followJoin_38 rfl 0 rfl ?_
              refine z_iald (f := k7) 41 K 7 (by decide) ((va_up_ne _ _ (by decide)).trans (va_up_eq _ 7 _)) (by omega) (by omega) (by decide) dX0_followJoin_40 rfl ?_
              refine z_top (cn (6 * a + b)) (by rw [hk7]; exact iFn_ge (by omega)) ?_
              refine z_iload_n 42 K dX0_followJoin_41 rfl rfl 2 rfl ?_
              refine z_icmp_ne (tgt := 78) 45 K dX0_followJoin_42 rfl (by decide) (by omega) (by omega) (fun c_42 => ?_) (fun c_42 => ?_)
              · skip
                refine z_iinc (lv' := [(5, .int (iZ (b + 1))), (6, .int (iZ (6 * a + b))), (0, .ref (aD g 5)), (1, .int (iZ x)), (2, .int (iZ x2)), (3, .int (iZ ah)), (4, .int (iZ a))]) 81 K dX0_followJoin_78 rfl (b + 1) rfl 6 rfl (by decide) rfl ?_
                refine z_goto (tgt := 13) K dX0_followJoin_81 (by decide) ?_
                refine z_sub [2, 3, 4, 5, 6, 0] rfl ?_
                exact ih_13 k7 k8 (b + 1) (by omega) (by rw [hk7, show 6 * a + (b + 1) = 6 * a + b + 1 by omega]; first | exact iFn_hit (by omega) (by rw [hd6, hm6]; omega) (by omega) (decide_eq_true (by omega)) | exact iFn_miss (by omega) (fun j h0 h1 h2 => by have e9 : j = 6 * a + b := (by omega); subst e9; have h3 := h2.2.2; rw [decide_eq_true_eq] at h3; have h4 := h2.2.1; omega)) (by rw [show 6 * a + (b + 1) = 6 * a + b + 1 by omega]; first | (rw [hk8]; exact iFp_miss (by omega) (fun j h0 h1 h2 => by have e9 : j = 6 * a + b := (by omega); subst e9; have h3 := h2.2.2; rw [decide_eq_true_eq] at h3; have h4 := h2.2.1; omega)) | (rw [← iFp_hit (by omega) (by rw [hd6, hm6]; omega) (by omega) (decide_eq_true (by omega)), hk8]; congr 1 <;> omega)) (by omega)
              · skip
                refine z_aload_n 46 K dX0_followJoin_45 rfl rfl 1 rfl ?_
                refine z_get 49 K hin_X0_followJoin_X0 5 (by decide) ((va_up_ne _ _ (by decide)).trans ((va_up_ne _ _ (by decide)).trans hCi)) rfl 2 (by decide) (by decide +kernel : Cond.fieldLink RX0 18 "BriefBuilder$Citations" "pages" "[I" ∈ wsX0_followJoin) (fun _ h9 => h9) rfl dX0_followJoin_46 rfl ?_
                refine z_iload 51 K dX0_followJoin_49 rfl 0 rfl ?_
                refine z_iald (f := k8) 52 K 8 (by decide) (va_up_eq _ 8 _) (by omega) (by omega) (by decide) dX0_followJoin_51 rfl ?_
                refine z_top (cp (6 * a + b)) (by rw [hk8]; exact iFp_ge (by omega)) ?_
                refine z_iload_n 53 K dX0_followJoin_52 rfl rfl 4 rfl ?_
                refine z_iadd 54 K dX0_followJoin_53 rfl ?_
                refine z_top (ah + cp (6 * a + b)) (by omega) ?_
                refine z_bipush 56 K dX0_followJoin_54 rfl rfl ?_
                refine z_icmp_gt (tgt := 78) 59 K dX0_followJoin_56 rfl (by decide) (by omega) (by decide) (fun c_56 => ?_) (fun c_56 => ?_)
                · skip
                  refine z_iinc (lv' := [(5, .int (iZ (b + 1))), (6, .int (iZ (6 * a + b))), (0, .ref (aD g 5)), (1, .int (iZ x)), (2, .int (iZ x2)), (3, .int (iZ ah)), (4, .int (iZ a))]) 81 K dX0_followJoin_78 rfl (b + 1) rfl 6 rfl (by decide) rfl ?_
                  refine z_goto (tgt := 13) K dX0_followJoin_81 (by decide) ?_
                  refine z_sub [2, 3, 4, 5, 6, 0] rfl ?_
                  exact ih_13 k7 k8 (b + 1) (by omega) (by rw [hk7, show 6 * a + (b + 1) = 6 * a + b + 1 by omega]; first | exact iFn_hit (by omega) (by rw [hd6, hm6]; omega) (by omega) (decide_eq_true (by omega)) | exact iFn_miss (by omega) (fun j h0 h1 h2 => by have e9 : j = 6 * a + b := (by omega); subst e9; have h3 := h2.2.2; rw [decide_eq_true_eq] at h3; have h4 := h2.2.1; omega)) (by rw [show 6 * a + (b + 1) = 6 * a + b + 1 by omega]; first | (rw [hk8]; exact iFp_miss (by omega) (fun j h0 h1 h2 => by have e9 : j = 6 * a + b := (by omega); subst e9; have h3 := h2.2.2; rw [decide_eq_true_eq] at h3; have h4 := h2.2.1; omega)) | (rw [← iFp_hit (by omega) (by rw [hd6, hm6]; omega) (by omega) (decide_eq_true (by omega)), hk8]; congr 1 <;> omega)) (by omega)
                · skip
                  refine z_aload_n 60 K dX0_followJoin_59 rfl rfl 1 rfl ?_
                  refine z_get 63 K hin_X0_followJoin_X0 5 (by decide) ((va_up_ne _ _ (by decide)).trans ((va_up_ne _ _ (by decide)).trans hCi)) rfl 1 (by decide) (by decide +kernel : Cond.fieldLink RX0 15 "BriefBuilder$Citations" "numbers" "[I" ∈ wsX0_followJoin) (fun _ h9 => h9) rfl dX0_followJoin_60 rfl ?_
                  refine z_iload 65 K dX0_followJoin_63 rfl 0 rfl ?_
                  refine z_iload_n 66 K dX0_followJoin_65 rfl rfl 3 rfl ?_
                  refine z_iast (f := k7) 67 K 7 (by decide) ((va_up_ne _ _ (by decide)).trans (va_up_eq _ 7 _)) (by omega) (by omega) (by decide) dX0_followJoin_66 rfl ?_
                  refine z_C (va_uu1 (by decide)) ?_
                  refine z_aload_n 68 K dX0_followJoin_67 rfl rfl 1 rfl ?_
                  refine z_get 71 K hin_X0_followJoin_X0 5 (by decide) ((va_up_ne _ _ (by decide)).trans ((va_up_ne _ _ (by decide)).trans hCi)) rfl 2 (by decide) (by decide +kernel : Cond.fieldLink RX0 18 "BriefBuilder$Citations" "pages" "[I" ∈ wsX0_followJoin) (fun _ h9 => h9) rfl dX0_followJoin_68 rfl ?_
                  refine z_iload 73 K dX0_followJoin_71 rfl 0 rfl ?_
                  refine z_dup2 74 K dX0_followJoin_73 rfl rfl rfl ?_
                  refine z_iald (f := k8) 75 K 8 (by decide) ((va_up_ne _ _ (by decide)).trans (va_up_eq _ 8 _)) (by omega) (by omega) (by decide) dX0_followJoin_74 rfl ?_
                  refine z_top (cp (6 * a + b)) (by rw [hk8]; exact iFp_ge (by omega)) ?_
                  refine z_iload_n 76 K dX0_followJoin_75 rfl rfl 4 rfl ?_
                  refine z_iadd 77 K dX0_followJoin_76 rfl ?_
                  refine z_top (ah + cp (6 * a + b)) (by omega) ?_
                  refine z_iast (f := k8) 78 K 8 (by decide) ((va_up_ne _ _ (by decide)).trans (va_up_eq _ 8 _)) (by omega) (by omega) (by decide) dX0_followJoin_77 rfl ?_
                  refine z_C (va_uu1 (by decide)) ?_
                  refine z_iinc (lv' := [(5, .int (iZ (b + 1))), (6, .int (iZ (6 * a + b))), (0, .ref (aD g 5)), (1, .int (iZ x)), (2, .int (iZ x2)), (3, .int (iZ ah)), (4, .int (iZ a))]) 81 K dX0_followJoin_78 rfl (b + 1) rfl 6 rfl (by decide) rfl ?_
                  refine z_goto (tgt := 13) K dX0_followJoin_81 (by decide) ?_
                  refine z_sub [2, 3, 4, 5, 6, 0] rfl ?_
                  exact ih_13 (zu k7 (6 * a + b) x2) (zu k8 (6 * a + b) (ah + cp (6 * a + b))) (b + 1) (by omega) (by rw [hk7, show 6 * a + (b + 1) = 6 * a + b + 1 by omega]; first | exact iFn_hit (by omega) (by rw [hd6, hm6]; omega) (by omega) (decide_eq_true (by omega)) | exact iFn_miss (by omega) (fun j h0 h1 h2 => by have e9 : j = 6 * a + b := (by omega); subst e9; have h3 := h2.2.2; rw [decide_eq_true_eq] at h3; have h4 := h2.2.1; omega)) (by rw [show 6 * a + (b + 1) = 6 * a + b + 1 by omega]; first | (rw [hk8]; exact iFp_miss (by omega) (fun j h0 h1 h2 => by have e9 : j = 6 * a + b := (by omega); subst e9; have h3 := h2.2.2; rw [decide_eq_true_eq] at h3; have h4 := h2.2.1; omega)) | (rw [← iFp_hit (by omega) (by rw [hd6, hm6]; omega) (by omega) (decide_eq_true (by omega)), hk8]; congr 1 <;> omega)) (by omega)
        refine z_sub [1, 2, 3, 4, 5, 0] rfl ?_
        exact loop_13 (Int.toNat (cc a - 0) + 1) g7 g8 0 (by omega) (by rw [hg7, Int.add_zero]) (by rw [hg8, Int.add_zero]) (by omega)
  refine z_sub [1, 2, 3, 4, 0] rfl ?_
  refine z_C (va_us hCn).symm ?_
  refine z_C (va_us ((va_up_ne _ _ (by decide)).trans hCp)).symm ?_
  exact loop_3 (Int.toNat (12 - 0) + 1) cn cp 0 (by omega) ((iFn_0 _ _ _ _ _ _).symm) ((iFp_0 _ _ _ _ _ _).symm) (by omega)
set_option maxRecDepth 20000 in
theorem hin_X0_followSplit_X0 : ∀ w ∈ wsX00, w ∈ wsX0_followSplit := by decide +kernel
set_option maxHeartbeats 4000000 in
set_option maxRecDepth 100000 in
theorem m_X0_followSplit (l : Launch) (g : zG) (C : Nat → va_E) (x : Int) (x2 : Int) (ah : Int) (cc : Int → Int) (cn : Int → Int) (cp : Int → Int) (hCi : C 5 = .inr (0, [.ref (aD g 6), .ref (aD g 7), .ref (aD g 8)])) (hCc : C 6 = eI g 12 cc) (hCn : C 7 = eI g 72 cn) (hCp : C 8 = eI g 72 cp) (hcc : ∀ a, 0 ≤ a → a < 12 → 0 ≤ cc a ∧ cc a ≤ 6) (hrn : ∀ j, -2147483648 ≤ cn j ∧ cn j < 2147483648) (hx : -2147483648 ≤ x ∧ x < 2147483648) (hah : 0 ≤ ah ∧ ah ≤ 60) (hcp9 : ∀ a b, 0 ≤ a → a < 12 → 0 ≤ b → b < cc a → 1 ≤ cp (6 * a + b) ∧ cp (6 * a + b) ≤ 60) : Met l yX0_followSplit wsX0_followSplit ({ frames := 1, cells := 0, slots := 0, locals := 21 } : Room) (zPre g C [.ref (aD g 5), .int (iZ x), .int (iZ x2), .int (iZ ah)]) (zQv g (fun C' => C' = va_up (va_up C 7 (eI g 72 (iFn cc cn cp (fun y => decide (ah < y)) x x2 72))) 8 (eI g 72 (iFp cc cn cp (fun y => decide (ah < y)) x (-ah) 72)))) 0 0 (zA g) := by
  refine z_enter RX0 rfl (by decide) rfl (Nat.le_of_ble_eq_true rfl) ?_
  intro p e s m args below meth c K harg
  refine z_sub (lv' := [(0, .ref (aD g 5)), (1, .int (iZ x)), (2, .int (iZ x2)), (3, .int (iZ ah))]) [0, 1, 2, 3] rfl ?_
  refine z_iconst 1 K dX0_followSplit_0 rfl ?_
  refine z_istore (lv' := [(4, .int (iZ 0)), (0, .ref (aD g 5)), (1, .int (iZ x)), (2, .int (iZ x2)), (3, .int (iZ ah))]) 3 K dX0_followSplit_1 rfl (by decide) rfl ?_
  have loop_3 : ∀ (n9 : Nat) (g7 g8 : Int → Int) (a : Int), (0 ≤ a ∧ a ≤ 12) → (g7 = iFn cc cn cp (fun y => decide (ah < y)) x x2 (6 * a)) → (g8 = iFp cc cn cp (fun y => decide (ah < y)) x (-ah) (6 * a)) → (12 - a < (n9 : Int)) → Z p l e (({ frames := 1, cells := 0, slots := 0, locals := 21 } : Room)) s m args below meth c (MQ below (zQv g (fun C' => C' = va_up (va_up C 7 (eI g 72 (iFn cc cn cp (fun y => decide (ah < y)) x x2 72))) 8 (eI g 72 (iFp cc cn cp (fun y => decide (ah < y)) x (-ah) 72)))) args s 0 0 (zA g)) g 7 0 0 (va_up (va_up C 7 (eI g 72 g7)) 8 (eI g 72 g8)) [(0, .ref (aD g 5)), (1, .int (iZ x)), (2, .int (iZ x2)), (3, .int (iZ ah)), (4, .int (iZ a))] 3 [] := by
    intro n9
    induction n9 with
    | zero =>
      intro g7 g8 a hka hg7 hg8 hm9
      exact absurd hm9 (by omega)
    | succ n9 ih9 =>
      intro g7 g8 a hka hg7 hg8 hm_3
      have ih_3 := ih9
      clear ih9
      refine z_iload 5 K dX0_followSplit_3 rfl 4 rfl ?_
      refine z_bipush 7 K dX0_followSplit_5 rfl rfl ?_
      refine z_icmp_ge (tgt := 87) 10 K dX0_followSplit_7 rfl (by decide) (by omega) (by decide) (fun c_7 => ?_) (fun c_7 => ?_)
      · skip
        have ea9 : a = 12 := by omega
        exact z_vret K rfl dX0_followSplit_87 (by rw [hg7, hg8, ea9]; rfl)
      · skip
        have hc9 := hcc a (by omega) (by omega)
        refine z_iconst 11 K dX0_followSplit_10 rfl ?_
        refine z_istore (lv' := [(5, .int (iZ 0)), (0, .ref (aD g 5)), (1, .int (iZ x)), (2, .int (iZ x2)), (3, .int (iZ ah)), (4, .int (iZ a))]) 13 K dX0_followSplit_11 rfl (by decide) rfl ?_
        have loop_13 : ∀ (n9 : Nat) (k7 k8 : Int → Int) (b : Int), (0 ≤ b ∧ b ≤ cc a) → (k7 = iFn cc cn cp (fun y => decide (ah < y)) x x2 (6 * a + b)) → (k8 = iFp cc cn cp (fun y => decide (ah < y)) x (-ah) (6 * a + b)) → (cc a - b < (n9 : Int)) → Z p l e (({ frames := 1, cells := 0, slots := 0, locals := 21 } : Room)) s m args below meth c (MQ below (zQv g (fun C' => C' = va_up (va_up C 7 (eI g 72 (iFn cc cn cp (fun y => decide (ah < y)) x x2 72))) 8 (eI g 72 (iFp cc cn cp (fun y => decide (ah < y)) x (-ah) 72)))) args s 0 0 (zA g)) g 7 0 0 (va_up (va_up C 7 (eI g 72 k7)) 8 (eI g 72 k8)) [(0, .ref (aD g 5)), (1, .int (iZ x)), (2, .int (iZ x2)), (3, .int (iZ ah)), (4, .int (iZ a)), (5, .int (iZ b))] 13 [] := by
          intro n9
          induction n9 with
          | zero =>
            intro k7 k8 b hkb hk7 hk8 hm9
            exact absurd hm9 (by omega)
          | succ n9 ih9 =>
            intro k7 k8 b hkb hk7 hk8 hm_13
            have ih_13 := ih9
            clear ih9
            refine z_iload 15 K dX0_followSplit_13 rfl 5 rfl ?_
            refine z_aload_n 16 K dX0_followSplit_15 rfl rfl 0 rfl ?_
            refine z_get 19 K hin_X0_followSplit_X0 5 (by decide) ((va_up_ne _ _ (by decide)).trans ((va_up_ne _ _ (by decide)).trans hCi)) rfl 0 (by decide) (by decide +kernel : Cond.fieldLink RX0 9 "BriefBuilder$Citations" "counts" "[I" ∈ wsX0_followSplit) (fun _ h9 => h9) rfl dX0_followSplit_16 rfl ?_
            refine z_iload 21 K dX0_followSplit_19 rfl 4 rfl ?_
            refine z_iald (f := cc) 22 K 6 (by decide) ((va_up_ne _ _ (by decide)).trans ((va_up_ne _ _ (by decide)).trans hCc)) (by omega) (by omega) (by decide) dX0_followSplit_21 rfl ?_
            refine z_icmp_ge (tgt := 81) 25 K dX0_followSplit_22 rfl (by decide) (by omega) (by omega) (fun c_22 => ?_) (fun c_22 => ?_)
            · skip
              refine z_iinc (lv' := [(4, .int (iZ (a + 1))), (0, .ref (aD g 5)), (1, .int (iZ x)), (2, .int (iZ x2)), (3, .int (iZ ah)), (5, .int (iZ b))]) 84 K dX0_followSplit_81 rfl (a + 1) rfl 4 rfl (by decide) rfl ?_
              refine z_goto (tgt := 3) K dX0_followSplit_84 (by decide) ?_
              refine z_sub [1, 2, 3, 4, 0] rfl ?_
              exact ih_3 k7 k8 (a + 1) (by omega) (by rw [hk7]; exact iFn_miss (by omega) (fun j h0 h1 h2 => by have e9 : j / 6 = a := (by omega); rw [e9] at h2; omega)) (by rw [hk8]; exact iFp_miss (by omega) (fun j h0 h1 h2 => by have e9 : j / 6 = a := (by omega); rw [e9] at h2; omega)) (by omega)
            · skip
              have hd6 : (6 * a + b) / 6 = a := by omega
              have hm6 : (6 * a + b) % 6 = b := by omega
              have hp9 := hcp9 a b (by omega) (by omega) (by omega) (by omega)
              have hr9 := hrn (6 * a + b)
              refine z_iload 27 K dX0_followSplit_25 rfl 4 rfl ?_
              refine z_iload 29 K dX0_followSplit_27 rfl 5 rfl ?_
              refine z_vNi (As := [.int (iZ a), .int (iZ b)]) (rest := []) 32 K (m_X8_cellOf l g _ a b ) ⟨va_cnB 2 K.1.2.2.2.2 gX0_followSplit_X8_cellOf_n27 rfl rfl rfl K.2.2.2.2.1 (K.1.2.2.2.2 _ (by decide +kernel)) (by decide +kernel) ⟨Nat.le_of_ble_eq_true rfl, Nat.le_of_ble_eq_true rfl⟩, K.1.2.2.2.2 _ (by decide +kernel), trivial⟩ rfl (Nat.le_of_ble_eq_true rfl) dX0_followSplit_29 rfl ⟨Nat.le_of_ble_eq_true rfl, Nat.le_of_ble_eq_true rfl⟩ rfl (fun z_1 C_2 hp_29 => ?_)
              refine z_C hp_29.1 ?_
              refine z_top (6 * a + b) hp_29.2 ?_
              refine z_istore (lv' := [(6, .int (iZ (6 * a + b))), (0, .ref (aD g 5)), (1, .int (iZ x)), (2, .int (iZ x2)), (3, .int (iZ ah)), (4, .int (iZ a)), (5, .int (iZ b))]) 34 K dX0_followSplit_32 rfl (by decide) rfl ?_
              refine z_aload_n 35 K dX0_followSplit_34 rfl rfl 1 rfl ?_
              refine z_get 38 K hin_X0_followSplit_X0 5 (by decide) ((va_up_ne _ _ (by decide)).trans ((va_up_ne _ _ (by decide)).trans hCi)) rfl 1 (by decide) (by decide +kernel : Cond.fieldLink RX0 15 "BriefBuilder$Citations" "numbers" "[I" ∈ wsX0_followSplit) (fun _ h9 => h9) rfl dX0_followSplit_35 rfl ?_
              refine z_iload 40 K dX0_followSplit_38 rfl 0 rfl ?_
              refine z_iald (f := k7) 41 K 7 (by decide) ((va_up_ne _ _ (by decide)).trans (va_up_eq _ 7 _)) (by omega) (by omega) (by decide) dX0_followSplit_40 rfl ?_
              refine z_top (cn (6 * a + b)) (by rw [hk7]; exact iFn_ge (by omega)) ?_
              refine z_iload_n 42 K dX0_followSplit_41 rfl rfl 2 rfl ?_
              refine z_icmp_ne (tgt := 75) 45 K dX0_followSplit_42 rfl (by decide) (by omega) (by omega) (fun c_42 => ?_) (fun c_42 => ?_)
              · skip
                refine z_iinc (lv' := [(5, .int (iZ (b + 1))), (6, .int (iZ (6 * a + b))), (0, .ref (aD g 5)), (1, .int (iZ x)), (2, .int (iZ x2)), (3, .int (iZ ah)), (4, .int (iZ a))]) 78 K dX0_followSplit_75 rfl (b + 1) rfl 6 rfl (by decide) rfl ?_
                refine z_goto (tgt := 13) K dX0_followSplit_78 (by decide) ?_
                refine z_sub [2, 3, 4, 5, 6, 0] rfl ?_
                exact ih_13 k7 k8 (b + 1) (by omega) (by rw [hk7, show 6 * a + (b + 1) = 6 * a + b + 1 by omega]; first | exact iFn_hit (by omega) (by rw [hd6, hm6]; omega) (by omega) (decide_eq_true (by omega)) | exact iFn_miss (by omega) (fun j h0 h1 h2 => by have e9 : j = 6 * a + b := (by omega); subst e9; have h3 := h2.2.2; rw [decide_eq_true_eq] at h3; have h4 := h2.2.1; omega)) (by rw [show 6 * a + (b + 1) = 6 * a + b + 1 by omega]; first | (rw [hk8]; exact iFp_miss (by omega) (fun j h0 h1 h2 => by have e9 : j = 6 * a + b := (by omega); subst e9; have h3 := h2.2.2; rw [decide_eq_true_eq] at h3; have h4 := h2.2.1; omega)) | (rw [← iFp_hit (by omega) (by rw [hd6, hm6]; omega) (by omega) (decide_eq_true (by omega)), hk8]; congr 1 <;> omega)) (by omega)
              · skip
                refine z_aload_n 46 K dX0_followSplit_45 rfl rfl 1 rfl ?_
                refine z_get 49 K hin_X0_followSplit_X0 5 (by decide) ((va_up_ne _ _ (by decide)).trans ((va_up_ne _ _ (by decide)).trans hCi)) rfl 2 (by decide) (by decide +kernel : Cond.fieldLink RX0 18 "BriefBuilder$Citations" "pages" "[I" ∈ wsX0_followSplit) (fun _ h9 => h9) rfl dX0_followSplit_46 rfl ?_
                refine z_iload 51 K dX0_followSplit_49 rfl 0 rfl ?_
                refine z_iald (f := k8) 52 K 8 (by decide) (va_up_eq _ 8 _) (by omega) (by omega) (by decide) dX0_followSplit_51 rfl ?_
                refine z_top (cp (6 * a + b)) (by rw [hk8]; exact iFp_ge (by omega)) ?_
                refine z_iload_n 53 K dX0_followSplit_52 rfl rfl 4 rfl ?_
                refine z_icmp_le (tgt := 75) 56 K dX0_followSplit_53 rfl (by decide) (by omega) (by omega) (fun c_53 => ?_) (fun c_53 => ?_)
                · skip
                  refine z_iinc (lv' := [(5, .int (iZ (b + 1))), (6, .int (iZ (6 * a + b))), (0, .ref (aD g 5)), (1, .int (iZ x)), (2, .int (iZ x2)), (3, .int (iZ ah)), (4, .int (iZ a))]) 78 K dX0_followSplit_75 rfl (b + 1) rfl 6 rfl (by decide) rfl ?_
                  refine z_goto (tgt := 13) K dX0_followSplit_78 (by decide) ?_
                  refine z_sub [2, 3, 4, 5, 6, 0] rfl ?_
                  exact ih_13 k7 k8 (b + 1) (by omega) (by rw [hk7, show 6 * a + (b + 1) = 6 * a + b + 1 by omega]; first | exact iFn_hit (by omega) (by rw [hd6, hm6]; omega) (by omega) (decide_eq_true (by omega)) | exact iFn_miss (by omega) (fun j h0 h1 h2 => by have e9 : j = 6 * a + b := (by omega); subst e9; have h3 := h2.2.2; rw [decide_eq_true_eq] at h3; have h4 := h2.2.1; omega)) (by rw [show 6 * a + (b + 1) = 6 * a + b + 1 by omega]; first | (rw [hk8]; exact iFp_miss (by omega) (fun j h0 h1 h2 => by have e9 : j = 6 * a + b := (by omega); subst e9; have h3 := h2.2.2; rw [decide_eq_true_eq] at h3; have h4 := h2.2.1; omega)) | (rw [← iFp_hit (by omega) (by rw [hd6, hm6]; omega) (by omega) (decide_eq_true (by omega)), hk8]; congr 1 <;> omega)) (by omega)
                · skip
                  refine z_aload_n 57 K dX0_followSplit_56 rfl rfl 1 rfl ?_
                  refine z_get 60 K hin_X0_followSplit_X0 5 (by decide) ((va_up_ne _ _ (by decide)).trans ((va_up_ne _ _ (by decide)).trans hCi)) rfl 1 (by decide) (by decide +kernel : Cond.fieldLink RX0 15 "BriefBuilder$Citations" "numbers" "[I" ∈ wsX0_followSplit) (fun _ h9 => h9) rfl dX0_followSplit_57 rfl ?_
                  refine z_iload 62 K dX0_followSplit_60 rfl 0 rfl ?_
                  refine z_iload_n 63 K dX0_followSplit_62 rfl rfl 3 rfl ?_
                  refine z_iast (f := k7) 64 K 7 (by decide) ((va_up_ne _ _ (by decide)).trans (va_up_eq _ 7 _)) (by omega) (by omega) (by decide) dX0_followSplit_63 rfl ?_
                  refine z_C (va_uu1 (by decide)) ?_
                  refine z_aload_n 65 K dX0_followSplit_64 rfl rfl 1 rfl ?_
                  refine z_get 68 K hin_X0_followSplit_X0 5 (by decide) ((va_up_ne _ _ (by decide)).trans ((va_up_ne _ _ (by decide)).trans hCi)) rfl 2 (by decide) (by decide +kernel : Cond.fieldLink RX0 18 "BriefBuilder$Citations" "pages" "[I" ∈ wsX0_followSplit) (fun _ h9 => h9) rfl dX0_followSplit_65 rfl ?_
                  refine z_iload 70 K dX0_followSplit_68 rfl 0 rfl ?_
                  refine z_dup2 71 K dX0_followSplit_70 rfl rfl rfl ?_
                  refine z_iald (f := k8) 72 K 8 (by decide) ((va_up_ne _ _ (by decide)).trans (va_up_eq _ 8 _)) (by omega) (by omega) (by decide) dX0_followSplit_71 rfl ?_
                  refine z_top (cp (6 * a + b)) (by rw [hk8]; exact iFp_ge (by omega)) ?_
                  refine z_iload_n 73 K dX0_followSplit_72 rfl rfl 4 rfl ?_
                  refine z_isub 74 K dX0_followSplit_73 rfl ?_
                  refine z_iast (f := k8) 75 K 8 (by decide) ((va_up_ne _ _ (by decide)).trans (va_up_eq _ 8 _)) (by omega) (by omega) (by decide) dX0_followSplit_74 rfl ?_
                  refine z_C (va_uu1 (by decide)) ?_
                  refine z_iinc (lv' := [(5, .int (iZ (b + 1))), (6, .int (iZ (6 * a + b))), (0, .ref (aD g 5)), (1, .int (iZ x)), (2, .int (iZ x2)), (3, .int (iZ ah)), (4, .int (iZ a))]) 78 K dX0_followSplit_75 rfl (b + 1) rfl 6 rfl (by decide) rfl ?_
                  refine z_goto (tgt := 13) K dX0_followSplit_78 (by decide) ?_
                  refine z_sub [2, 3, 4, 5, 6, 0] rfl ?_
                  exact ih_13 (zu k7 (6 * a + b) x2) (zu k8 (6 * a + b) (cp (6 * a + b) - ah)) (b + 1) (by omega) (by rw [hk7, show 6 * a + (b + 1) = 6 * a + b + 1 by omega]; first | exact iFn_hit (by omega) (by rw [hd6, hm6]; omega) (by omega) (decide_eq_true (by omega)) | exact iFn_miss (by omega) (fun j h0 h1 h2 => by have e9 : j = 6 * a + b := (by omega); subst e9; have h3 := h2.2.2; rw [decide_eq_true_eq] at h3; have h4 := h2.2.1; omega)) (by rw [show 6 * a + (b + 1) = 6 * a + b + 1 by omega]; first | (rw [hk8]; exact iFp_miss (by omega) (fun j h0 h1 h2 => by have e9 : j = 6 * a + b := (by omega); subst e9; have h3 := h2.2.2; rw [decide_eq_true_eq] at h3; have h4 := h2.2.1; omega)) | (rw [← iFp_hit (by omega) (by rw [hd6, hm6]; omega) (by omega) (decide_eq_true (by omega)), hk8]; congr 1 <;> omega)) (by omega)
        refine z_sub [1, 2, 3, 4, 5, 0] rfl ?_
        exact loop_13 (Int.toNat (cc a - 0) + 1) g7 g8 0 (by omega) (by rw [hg7, Int.add_zero]) (by rw [hg8, Int.add_zero]) (by omega)
  refine z_sub [1, 2, 3, 4, 0] rfl ?_
  refine z_C (va_us hCn).symm ?_
  refine z_C (va_us ((va_up_ne _ _ (by decide)).trans hCp)).symm ?_
  exact loop_3 (Int.toNat (12 - 0) + 1) cn cp 0 (by omega) ((iFn_0 _ _ _ _ _ _).symm) ((iFp_0 _ _ _ _ _ _).symm) (by omega)
set_option maxRecDepth 20000 in
theorem hin_X0_copyFrom_X0 : ∀ w ∈ wsX00, w ∈ wsX0_copyFrom := by decide +kernel
set_option maxHeartbeats 4000000 in
set_option maxRecDepth 100000 in
theorem m_X0_copyFrom (l : Launch) (g : zG) (C : Nat → va_E) (bb : Nat) (f5 : Int → Int) (f6 : Int → Int) (f7 : Int → Int) (dd : Nat) (cc : Int → Int) (cn : Int → Int) (cp : Int → Int) (hz_hB0 : bb + 4 < zN) (hB0 : C (bb + 4) = .inr (0, [.ref (aD g (bb + 5)), .ref (aD g (bb + 6)), .ref (aD g (bb + 7))])) (hz_hB1 : bb + 5 < zN) (hB1 : C (bb + 5) = eI g 12 f5) (hz_hB2 : bb + 6 < zN) (hB2 : C (bb + 6) = eI g 72 f6) (hz_hB3 : bb + 7 < zN) (hB3 : C (bb + 7) = eI g 72 f7) (hz_hC0 : dd + 4 < zN) (hC0 : C (dd + 4) = .inr (0, [.ref (aD g (dd + 5)), .ref (aD g (dd + 6)), .ref (aD g (dd + 7))])) (hz_hC1 : dd + 5 < zN) (hC1 : C (dd + 5) = eI g 12 cc) (hz_hC2 : dd + 6 < zN) (hC2 : C (dd + 6) = eI g 72 cn) (hz_hC3 : dd + 7 < zN) (hC3 : C (dd + 7) = eI g 72 cp) (hbc : bb + 11 ≤ dd ∨ dd + 11 ≤ bb) : Met l yX0_copyFrom wsX0_copyFrom ({ frames := 1, cells := 0, slots := 0, locals := 40 } : Room) (zPre g C [.ref (aD g (bb + 4)), .ref (aD g (dd + 4))]) (zQv g (fun C' => C' = va_up (va_up (va_up C (bb + 5) (eI g 12 cc)) (bb + 6) (eI g 72 cn)) (bb + 7) (eI g 72 cp))) 0 0 (zA g) := by
  refine z_enter RX0 rfl (by decide) rfl (Nat.le_of_ble_eq_true rfl) ?_
  intro p e s m args below meth c K harg
  refine z_sub (lv' := [(0, .ref (aD g (bb + 4))), (1, .ref (aD g (dd + 4)))]) [0, 1] rfl ?_
  refine z_aload_n 1 K dX0_copyFrom_0 rfl rfl 1 rfl ?_
  refine z_get 4 K hin_X0_copyFrom_X0 (dd + 4) hz_hC0 hC0 rfl 0 (by decide) (by decide +kernel : Cond.fieldLink RX0 9 "BriefBuilder$Citations" "counts" "[I" ∈ wsX0_copyFrom) (fun _ h9 => h9) rfl dX0_copyFrom_1 rfl ?_
  refine z_iconst 5 K dX0_copyFrom_4 rfl ?_
  refine z_aload_n 6 K dX0_copyFrom_5 rfl rfl 0 rfl ?_
  refine z_get 9 K hin_X0_copyFrom_X0 (bb + 4) hz_hB0 hB0 rfl 0 (by decide) (by decide +kernel : Cond.fieldLink RX0 9 "BriefBuilder$Citations" "counts" "[I" ∈ wsX0_copyFrom) (fun _ h9 => h9) rfl dX0_copyFrom_6 rfl ?_
  refine z_iconst 10 K dX0_copyFrom_9 rfl ?_
  refine z_bipush 12 K dX0_copyFrom_10 rfl rfl ?_
  refine z_copyi (f := cc) (h := f5) 15 K (by decide +kernel) (by decide +kernel) (by decide +kernel) (by decide +kernel) (dd + 5) (bb + 5) hz_hC1 hz_hB1 hC1 hB1 (by omega) (by omega) (by omega) (by omega) (by omega) (by decide) (by decide) (Nat.le_of_ble_eq_true rfl) (Nat.le_of_ble_eq_true rfl) dX0_copyFrom_12 rfl ?_
  refine z_ag cc (fun j h0 h1 => by simp only [zcpy]; rw [if_pos (by omega)]; congr 1; omega) ?_
  refine z_aload_n 16 K dX0_copyFrom_15 rfl rfl 1 rfl ?_
  refine z_get 19 K hin_X0_copyFrom_X0 (dd + 4) hz_hC0 ((va_up_ne _ _ (by omega)).trans hC0) rfl 1 (by decide) (by decide +kernel : Cond.fieldLink RX0 15 "BriefBuilder$Citations" "numbers" "[I" ∈ wsX0_copyFrom) (fun _ h9 => h9) rfl dX0_copyFrom_16 rfl ?_
  refine z_iconst 20 K dX0_copyFrom_19 rfl ?_
  refine z_aload_n 21 K dX0_copyFrom_20 rfl rfl 0 rfl ?_
  refine z_get 24 K hin_X0_copyFrom_X0 (bb + 4) hz_hB0 ((va_up_ne _ _ (by omega)).trans hB0) rfl 1 (by decide) (by decide +kernel : Cond.fieldLink RX0 15 "BriefBuilder$Citations" "numbers" "[I" ∈ wsX0_copyFrom) (fun _ h9 => h9) rfl dX0_copyFrom_21 rfl ?_
  refine z_iconst 25 K dX0_copyFrom_24 rfl ?_
  refine z_bipush 27 K dX0_copyFrom_25 rfl rfl ?_
  refine z_copyi (f := cn) (h := f6) 30 K (by decide +kernel) (by decide +kernel) (by decide +kernel) (by decide +kernel) (dd + 6) (bb + 6) hz_hC2 hz_hB2 ((va_up_ne _ _ (by omega)).trans hC2) ((va_up_ne _ _ (by omega)).trans hB2) (by omega) (by omega) (by omega) (by omega) (by omega) (by decide) (by decide) (Nat.le_of_ble_eq_true rfl) (Nat.le_of_ble_eq_true rfl) dX0_copyFrom_27 rfl ?_
  refine z_ag cn (fun j h0 h1 => by simp only [zcpy]; rw [if_pos (by omega)]; congr 1; omega) ?_
  refine z_aload_n 31 K dX0_copyFrom_30 rfl rfl 1 rfl ?_
  refine z_get 34 K hin_X0_copyFrom_X0 (dd + 4) hz_hC0 ((va_up_ne _ _ (by omega)).trans ((va_up_ne _ _ (by omega)).trans hC0)) rfl 2 (by decide) (by decide +kernel : Cond.fieldLink RX0 18 "BriefBuilder$Citations" "pages" "[I" ∈ wsX0_copyFrom) (fun _ h9 => h9) rfl dX0_copyFrom_31 rfl ?_
  refine z_iconst 35 K dX0_copyFrom_34 rfl ?_
  refine z_aload_n 36 K dX0_copyFrom_35 rfl rfl 0 rfl ?_
  refine z_get 39 K hin_X0_copyFrom_X0 (bb + 4) hz_hB0 ((va_up_ne _ _ (by omega)).trans ((va_up_ne _ _ (by omega)).trans hB0)) rfl 2 (by decide) (by decide +kernel : Cond.fieldLink RX0 18 "BriefBuilder$Citations" "pages" "[I" ∈ wsX0_copyFrom) (fun _ h9 => h9) rfl dX0_copyFrom_36 rfl ?_
  refine z_iconst 40 K dX0_copyFrom_39 rfl ?_
  refine z_bipush 42 K dX0_copyFrom_40 rfl rfl ?_
  refine z_copyi (f := cp) (h := f7) 45 K (by decide +kernel) (by decide +kernel) (by decide +kernel) (by decide +kernel) (dd + 7) (bb + 7) hz_hC3 hz_hB3 ((va_up_ne _ _ (by omega)).trans ((va_up_ne _ _ (by omega)).trans hC3)) ((va_up_ne _ _ (by omega)).trans ((va_up_ne _ _ (by omega)).trans hB3)) (by omega) (by omega) (by omega) (by omega) (by omega) (by decide) (by decide) (Nat.le_of_ble_eq_true rfl) (Nat.le_of_ble_eq_true rfl) dX0_copyFrom_42 rfl ?_
  refine z_ag cp (fun j h0 h1 => by simp only [zcpy]; rw [if_pos (by omega)]; congr 1; omega) ?_
  exact z_vret K rfl dX0_copyFrom_45 rfl
set_option maxRecDepth 20000 in
theorem hin_X1_copyFrom_X1 : ∀ w ∈ wsX10, w ∈ wsX1_copyFrom := by decide +kernel
set_option maxHeartbeats 4000000 in
set_option maxRecDepth 100000 in
theorem m_X1_copyFrom (l : Launch) (g : zG) (C : Nat → va_E) (bb : Nat) (n1 : Int) (n2 : Int) (n3 : Int) (f2 : Int → Int) (f3 : Int → Int) (dd : Nat) (cnt : Int) (nxt : Int) (bp : Int) (num : Int → Int) (pgs : Int → Int) (hz_hB0 : bb + 1 < zN) (hB0 : C (bb + 1) = .inr (1, [.ref (aD g (bb + 2)), .ref (aD g (bb + 3)), .int (iZ n1), .int (iZ n2), .int (iZ n3)])) (hz_hB1 : bb + 2 < zN) (hB1 : C (bb + 2) = eI g 30 f2) (hz_hB2 : bb + 3 < zN) (hB2 : C (bb + 3) = eI g 30 f3) (hz_hC0 : dd + 1 < zN) (hC0 : C (dd + 1) = .inr (1, [.ref (aD g (dd + 2)), .ref (aD g (dd + 3)), .int (iZ cnt), .int (iZ nxt), .int (iZ bp)])) (hz_hC1 : dd + 2 < zN) (hC1 : C (dd + 2) = eI g 30 num) (hz_hC2 : dd + 3 < zN) (hC2 : C (dd + 3) = eI g 30 pgs) (hbc : bb + 11 ≤ dd ∨ dd + 11 ≤ bb) : Met l yX1_copyFrom wsX1_copyFrom ({ frames := 1, cells := 0, slots := 0, locals := 40 } : Room) (zPre g C [.ref (aD g (bb + 1)), .ref (aD g (dd + 1))]) (zQv g (fun C' => C' = va_up (va_up (va_up C (bb + 2) (eI g 30 num)) (bb + 3) (eI g 30 pgs)) (bb + 1) (.inr (1, [.ref (aD g (bb + 2)), .ref (aD g (bb + 3)), .int (iZ cnt), .int (iZ nxt), .int (iZ bp)])))) 0 0 (zA g) := by
  refine z_enter RX1 rfl (by decide) rfl (Nat.le_of_ble_eq_true rfl) ?_
  intro p e s m args below meth c K harg
  refine z_sub (lv' := [(0, .ref (aD g (bb + 1))), (1, .ref (aD g (dd + 1)))]) [0, 1] rfl ?_
  refine z_aload_n 1 K dX1_copyFrom_0 rfl rfl 1 rfl ?_
  refine z_get 4 K hin_X1_copyFrom_X1 (dd + 1) hz_hC0 hC0 rfl 0 (by decide) (by decide +kernel : Cond.fieldLink RX1 9 "BriefBuilder$Exhibits" "numbers" "[I" ∈ wsX1_copyFrom) (fun _ h9 => h9) rfl dX1_copyFrom_1 rfl ?_
  refine z_iconst 5 K dX1_copyFrom_4 rfl ?_
  refine z_aload_n 6 K dX1_copyFrom_5 rfl rfl 0 rfl ?_
  refine z_get 9 K hin_X1_copyFrom_X1 (bb + 1) hz_hB0 hB0 rfl 0 (by decide) (by decide +kernel : Cond.fieldLink RX1 9 "BriefBuilder$Exhibits" "numbers" "[I" ∈ wsX1_copyFrom) (fun _ h9 => h9) rfl dX1_copyFrom_6 rfl ?_
  refine z_iconst 10 K dX1_copyFrom_9 rfl ?_
  refine z_bipush 12 K dX1_copyFrom_10 rfl rfl ?_
  refine z_copyi (f := num) (h := f2) 15 K (by decide +kernel) (by decide +kernel) (by decide +kernel) (by decide +kernel) (dd + 2) (bb + 2) hz_hC1 hz_hB1 hC1 hB1 (by omega) (by omega) (by omega) (by omega) (by omega) (by decide) (by decide) (Nat.le_of_ble_eq_true rfl) (Nat.le_of_ble_eq_true rfl) dX1_copyFrom_12 rfl ?_
  refine z_ag num (fun j h0 h1 => by simp only [zcpy]; rw [if_pos (by omega)]; congr 1; omega) ?_
  refine z_aload_n 16 K dX1_copyFrom_15 rfl rfl 1 rfl ?_
  refine z_get 19 K hin_X1_copyFrom_X1 (dd + 1) hz_hC0 ((va_up_ne _ _ (by omega)).trans hC0) rfl 1 (by decide) (by decide +kernel : Cond.fieldLink RX1 15 "BriefBuilder$Exhibits" "pages" "[I" ∈ wsX1_copyFrom) (fun _ h9 => h9) rfl dX1_copyFrom_16 rfl ?_
  refine z_iconst 20 K dX1_copyFrom_19 rfl ?_
  refine z_aload_n 21 K dX1_copyFrom_20 rfl rfl 0 rfl ?_
  refine z_get 24 K hin_X1_copyFrom_X1 (bb + 1) hz_hB0 ((va_up_ne _ _ (by omega)).trans hB0) rfl 1 (by decide) (by decide +kernel : Cond.fieldLink RX1 15 "BriefBuilder$Exhibits" "pages" "[I" ∈ wsX1_copyFrom) (fun _ h9 => h9) rfl dX1_copyFrom_21 rfl ?_
  refine z_iconst 25 K dX1_copyFrom_24 rfl ?_
  refine z_bipush 27 K dX1_copyFrom_25 rfl rfl ?_
  refine z_copyi (f := pgs) (h := f3) 30 K (by decide +kernel) (by decide +kernel) (by decide +kernel) (by decide +kernel) (dd + 3) (bb + 3) hz_hC2 hz_hB2 ((va_up_ne _ _ (by omega)).trans hC2) ((va_up_ne _ _ (by omega)).trans hB2) (by omega) (by omega) (by omega) (by omega) (by omega) (by decide) (by decide) (Nat.le_of_ble_eq_true rfl) (Nat.le_of_ble_eq_true rfl) dX1_copyFrom_27 rfl ?_
  refine z_ag pgs (fun j h0 h1 => by simp only [zcpy]; rw [if_pos (by omega)]; congr 1; omega) ?_
  refine z_aload_n 31 K dX1_copyFrom_30 rfl rfl 0 rfl ?_
  refine z_aload_n 32 K dX1_copyFrom_31 rfl rfl 1 rfl ?_
  refine z_get 35 K hin_X1_copyFrom_X1 (dd + 1) hz_hC0 ((va_up_ne _ _ (by omega)).trans ((va_up_ne _ _ (by omega)).trans hC0)) rfl 2 (by decide) (by decide +kernel : Cond.fieldLink RX1 18 "BriefBuilder$Exhibits" "count" "I" ∈ wsX1_copyFrom) (fun _ h9 => h9) rfl dX1_copyFrom_32 rfl ?_
  refine z_put (ty := .int) 38 K hin_X1_copyFrom_X1 tyX1 tyX1_ok nmX1 (bb + 1) hz_hB0 ((va_up_ne _ _ (by omega)).trans ((va_up_ne _ _ (by omega)).trans hB0)) rfl 2 (by decide) (by decide +kernel : Cond.fieldLink RX1 18 "BriefBuilder$Exhibits" "count" "I" ∈ wsX1_copyFrom) (fun _ h9 => h9) rfl (by decide +kernel) rfl rfl (Nat.le_of_ble_eq_true rfl) dX1_copyFrom_35 rfl ?_
  show Z p l e (({ frames := 1, cells := 0, slots := 0, locals := 40 } : Room)) s m args below meth c (MQ below (zQv g (fun C' => C' = va_up (va_up (va_up C (bb + 2) (eI g 30 num)) (bb + 3) (eI g 30 pgs)) (bb + 1) (.inr (1, [.ref (aD g (bb + 2)), .ref (aD g (bb + 3)), .int (iZ cnt), .int (iZ nxt), .int (iZ bp)])))) args s 0 0 (zA g)) g _ _ _ (va_up (va_up (va_up C (bb + 2) (eI g 30 num)) (bb + 3) (eI g 30 pgs)) (bb + 1) (.inr (1, [.ref (aD g (bb + 2)), .ref (aD g (bb + 3)), .int (iZ cnt), .int (iZ n2), .int (iZ n3)]))) [(0, .ref (aD g (bb + 1))), (1, .ref (aD g (dd + 1)))] 38 []
  refine z_aload_n 39 K dX1_copyFrom_38 rfl rfl 0 rfl ?_
  refine z_aload_n 40 K dX1_copyFrom_39 rfl rfl 1 rfl ?_
  refine z_get 43 K hin_X1_copyFrom_X1 (dd + 1) hz_hC0 ((va_up_ne _ _ (by omega)).trans ((va_up_ne _ _ (by omega)).trans ((va_up_ne _ _ (by omega)).trans hC0))) rfl 3 (by decide) (by decide +kernel : Cond.fieldLink RX1 22 "BriefBuilder$Exhibits" "nextNumber" "I" ∈ wsX1_copyFrom) (fun _ h9 => h9) rfl dX1_copyFrom_40 rfl ?_
  refine z_put (ty := .int) 46 K hin_X1_copyFrom_X1 tyX1 tyX1_ok nmX1 (bb + 1) hz_hB0 (va_up_eq _ (bb + 1) _) rfl 3 (by decide) (by decide +kernel : Cond.fieldLink RX1 22 "BriefBuilder$Exhibits" "nextNumber" "I" ∈ wsX1_copyFrom) (fun _ h9 => h9) rfl (by decide +kernel) rfl rfl (Nat.le_of_ble_eq_true rfl) dX1_copyFrom_43 rfl ?_
  show Z p l e (({ frames := 1, cells := 0, slots := 0, locals := 40 } : Room)) s m args below meth c (MQ below (zQv g (fun C' => C' = va_up (va_up (va_up C (bb + 2) (eI g 30 num)) (bb + 3) (eI g 30 pgs)) (bb + 1) (.inr (1, [.ref (aD g (bb + 2)), .ref (aD g (bb + 3)), .int (iZ cnt), .int (iZ nxt), .int (iZ bp)])))) args s 0 0 (zA g)) g _ _ _ (va_up (va_up (va_up (va_up C (bb + 2) (eI g 30 num)) (bb + 3) (eI g 30 pgs)) (bb + 1) (.inr (1, [.ref (aD g (bb + 2)), .ref (aD g (bb + 3)), .int (iZ cnt), .int (iZ n2), .int (iZ n3)]))) (bb + 1) (.inr (1, [.ref (aD g (bb + 2)), .ref (aD g (bb + 3)), .int (iZ cnt), .int (iZ nxt), .int (iZ n3)]))) [(0, .ref (aD g (bb + 1))), (1, .ref (aD g (dd + 1)))] 46 []
  refine z_C (va_uu _ _ _ _) ?_
  refine z_aload_n 47 K dX1_copyFrom_46 rfl rfl 0 rfl ?_
  refine z_aload_n 48 K dX1_copyFrom_47 rfl rfl 1 rfl ?_
  refine z_get 51 K hin_X1_copyFrom_X1 (dd + 1) hz_hC0 ((va_up_ne _ _ (by omega)).trans ((va_up_ne _ _ (by omega)).trans ((va_up_ne _ _ (by omega)).trans hC0))) rfl 4 (by decide) (by decide +kernel : Cond.fieldLink RX1 25 "BriefBuilder$Exhibits" "binderPages" "I" ∈ wsX1_copyFrom) (fun _ h9 => h9) rfl dX1_copyFrom_48 rfl ?_
  refine z_put (ty := .int) 54 K hin_X1_copyFrom_X1 tyX1 tyX1_ok nmX1 (bb + 1) hz_hB0 (va_up_eq _ (bb + 1) _) rfl 4 (by decide) (by decide +kernel : Cond.fieldLink RX1 25 "BriefBuilder$Exhibits" "binderPages" "I" ∈ wsX1_copyFrom) (fun _ h9 => h9) rfl (by decide +kernel) rfl rfl (Nat.le_of_ble_eq_true rfl) dX1_copyFrom_51 rfl ?_
  show Z p l e (({ frames := 1, cells := 0, slots := 0, locals := 40 } : Room)) s m args below meth c (MQ below (zQv g (fun C' => C' = va_up (va_up (va_up C (bb + 2) (eI g 30 num)) (bb + 3) (eI g 30 pgs)) (bb + 1) (.inr (1, [.ref (aD g (bb + 2)), .ref (aD g (bb + 3)), .int (iZ cnt), .int (iZ nxt), .int (iZ bp)])))) args s 0 0 (zA g)) g _ _ _ (va_up (va_up (va_up (va_up C (bb + 2) (eI g 30 num)) (bb + 3) (eI g 30 pgs)) (bb + 1) (.inr (1, [.ref (aD g (bb + 2)), .ref (aD g (bb + 3)), .int (iZ cnt), .int (iZ nxt), .int (iZ n3)]))) (bb + 1) (.inr (1, [.ref (aD g (bb + 2)), .ref (aD g (bb + 3)), .int (iZ cnt), .int (iZ nxt), .int (iZ bp)]))) [(0, .ref (aD g (bb + 1))), (1, .ref (aD g (dd + 1)))] 54 []
  refine z_C (va_uu _ _ _ _) ?_
  exact z_vret K rfl dX1_copyFrom_54 rfl
set_option maxRecDepth 20000 in
theorem hin_X3_copyFrom_X3 : ∀ w ∈ wsX30, w ∈ wsX3_copyFrom := by decide +kernel
set_option maxHeartbeats 4000000 in
set_option maxRecDepth 100000 in
theorem m_X3_copyFrom (l : Launch) (g : zG) (C : Nat → va_E) (bb : Nat) (f9 : Int → Int) (f10 : Int → Int) (dd : Nat) (pn : Int → Int) (pm : Int → Int) (hz_hB0 : bb + 8 < zN) (hB0 : C (bb + 8) = .inr (3, [.ref (aD g (bb + 9)), .ref (aD g (bb + 10))])) (hz_hB1 : bb + 9 < zN) (hB1 : C (bb + 9) = eI g 12 f9) (hz_hB2 : bb + 10 < zN) (hB2 : C (bb + 10) = eI g 72 f10) (hz_hC0 : dd + 8 < zN) (hC0 : C (dd + 8) = .inr (3, [.ref (aD g (dd + 9)), .ref (aD g (dd + 10))])) (hz_hC1 : dd + 9 < zN) (hC1 : C (dd + 9) = eI g 12 pn) (hz_hC2 : dd + 10 < zN) (hC2 : C (dd + 10) = eI g 72 pm) (hbc : bb + 11 ≤ dd ∨ dd + 11 ≤ bb) : Met l yX3_copyFrom wsX3_copyFrom ({ frames := 1, cells := 0, slots := 0, locals := 40 } : Room) (zPre g C [.ref (aD g (bb + 8)), .ref (aD g (dd + 8))]) (zQv g (fun C' => C' = va_up (va_up C (bb + 9) (eI g 12 pn)) (bb + 10) (eI g 72 pm))) 0 0 (zA g) := by
  refine z_enter RX3 rfl (by decide) rfl (Nat.le_of_ble_eq_true rfl) ?_
  intro p e s m args below meth c K harg
  refine z_sub (lv' := [(0, .ref (aD g (bb + 8))), (1, .ref (aD g (dd + 8)))]) [0, 1] rfl ?_
  refine z_aload_n 1 K dX3_copyFrom_0 rfl rfl 1 rfl ?_
  refine z_get 4 K hin_X3_copyFrom_X3 (dd + 8) hz_hC0 hC0 rfl 0 (by decide) (by decide +kernel : Cond.fieldLink RX3 9 "BriefBuilder$Prints" "counts" "[I" ∈ wsX3_copyFrom) (fun _ h9 => h9) rfl dX3_copyFrom_1 rfl ?_
  refine z_iconst 5 K dX3_copyFrom_4 rfl ?_
  refine z_aload_n 6 K dX3_copyFrom_5 rfl rfl 0 rfl ?_
  refine z_get 9 K hin_X3_copyFrom_X3 (bb + 8) hz_hB0 hB0 rfl 0 (by decide) (by decide +kernel : Cond.fieldLink RX3 9 "BriefBuilder$Prints" "counts" "[I" ∈ wsX3_copyFrom) (fun _ h9 => h9) rfl dX3_copyFrom_6 rfl ?_
  refine z_iconst 10 K dX3_copyFrom_9 rfl ?_
  refine z_bipush 12 K dX3_copyFrom_10 rfl rfl ?_
  refine z_copyi (f := pn) (h := f9) 15 K (by decide +kernel) (by decide +kernel) (by decide +kernel) (by decide +kernel) (dd + 9) (bb + 9) hz_hC1 hz_hB1 hC1 hB1 (by omega) (by omega) (by omega) (by omega) (by omega) (by decide) (by decide) (Nat.le_of_ble_eq_true rfl) (Nat.le_of_ble_eq_true rfl) dX3_copyFrom_12 rfl ?_
  refine z_ag pn (fun j h0 h1 => by simp only [zcpy]; rw [if_pos (by omega)]; congr 1; omega) ?_
  refine z_aload_n 16 K dX3_copyFrom_15 rfl rfl 1 rfl ?_
  refine z_get 19 K hin_X3_copyFrom_X3 (dd + 8) hz_hC0 ((va_up_ne _ _ (by omega)).trans hC0) rfl 1 (by decide) (by decide +kernel : Cond.fieldLink RX3 15 "BriefBuilder$Prints" "marks" "[I" ∈ wsX3_copyFrom) (fun _ h9 => h9) rfl dX3_copyFrom_16 rfl ?_
  refine z_iconst 20 K dX3_copyFrom_19 rfl ?_
  refine z_aload_n 21 K dX3_copyFrom_20 rfl rfl 0 rfl ?_
  refine z_get 24 K hin_X3_copyFrom_X3 (bb + 8) hz_hB0 ((va_up_ne _ _ (by omega)).trans hB0) rfl 1 (by decide) (by decide +kernel : Cond.fieldLink RX3 15 "BriefBuilder$Prints" "marks" "[I" ∈ wsX3_copyFrom) (fun _ h9 => h9) rfl dX3_copyFrom_21 rfl ?_
  refine z_iconst 25 K dX3_copyFrom_24 rfl ?_
  refine z_bipush 27 K dX3_copyFrom_25 rfl rfl ?_
  refine z_copyi (f := pm) (h := f10) 30 K (by decide +kernel) (by decide +kernel) (by decide +kernel) (by decide +kernel) (dd + 10) (bb + 10) hz_hC2 hz_hB2 ((va_up_ne _ _ (by omega)).trans hC2) ((va_up_ne _ _ (by omega)).trans hB2) (by omega) (by omega) (by omega) (by omega) (by omega) (by decide) (by decide) (Nat.le_of_ble_eq_true rfl) (Nat.le_of_ble_eq_true rfl) dX3_copyFrom_27 rfl ?_
  refine z_ag pm (fun j h0 h1 => by simp only [zcpy]; rw [if_pos (by omega)]; congr 1; omega) ?_
  exact z_vret K rfl dX3_copyFrom_30 rfl
end ZIM
