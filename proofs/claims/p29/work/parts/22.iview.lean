/-! the class: its view -/
section ZIW
set_option maxRecDepth 20000 in
theorem hin_X7_followExhibits_X1 : ∀ w ∈ wsX10, w ∈ wsX7_followExhibits := by decide +kernel
set_option maxRecDepth 20000 in
theorem hin_X7_followExhibits_X7 : ∀ w ∈ wsX70, w ∈ wsX7_followExhibits := by decide +kernel
set_option maxHeartbeats 4000000 in
set_option maxRecDepth 100000 in
theorem m_X7_followExhibits (l : Launch) (g : zG) (C : Nat → va_E) (nb : Int) (vb : Int → Int) (vt : Int → Int) (vf : Int → Int) (cnt : Int) (nxt : Int) (bp : Int) (pgs : Int → Int) (hVw : C 12 = .inr (7, [.ref (aD g 13), .ref (aD g 14), .ref (aD g 15), .ref (aD g 16), .ref (aD g 17), .int (iZ nb)])) (hVb : C 13 = eI g 30 vb) (hVt : C 14 = eI g 30 vt) (hVf : C 15 = eI g 30 vf) (hEx : C 2 = .inr (1, [.ref (aD g 3), .ref (aD g 4), .int (iZ cnt), .int (iZ nxt), .int (iZ bp)])) (hPgs : C 4 = eI g 30 pgs) (hcnt : 0 ≤ cnt ∧ cnt ≤ 30) (hbp : 0 ≤ bp ∧ bp ≤ 200) (hpg : ∀ j, 0 ≤ j → j < cnt → 0 ≤ pgs j ∧ pgs j ≤ 60) : Met l yX7_followExhibits wsX7_followExhibits ({ frames := 0, cells := 0, slots := 0, locals := 0 } : Room) (zPre g C [.ref (aD g 12), .ref (aD g 2)]) (zQv g (fun C' => ∃ w13 w14 w15 : Int → Int, C' = va_up (va_up (va_up (va_up C 13 (eI g 30 w13)) 14 (eI g 30 w14)) 15 (eI g 30 w15)) 12 (.inr (7, [.ref (aD g 13), .ref (aD g 14), .ref (aD g 15), .ref (aD g 16), .ref (aD g 17), .int (iZ (zBnd pgs bp cnt))])) ∧ (∀ j, 0 ≤ j → j < cnt → w13 j = zBn pgs bp j ∧ w14 j = zTb pgs bp j ∧ w15 j = zFp pgs bp j))) 0 0 (zA g) := by
  refine z_enter RX7 rfl (by decide) rfl (Nat.le_of_ble_eq_true rfl) ?_
  intro p e s m args below meth c K harg
  refine z_sub (lv' := [(0, .ref (aD g 12)), (1, .ref (aD g 2))]) [0, 1] rfl ?_
  refine z_iconst 1 K dX7_followExhibits_0 rfl ?_
  refine z_istore_n (lv' := [(2, .int (iZ (-1))), (0, .ref (aD g 12)), (1, .ref (aD g 2))]) 2 K dX7_followExhibits_1 rfl rfl (by decide) rfl ?_
  refine z_iconst 3 K dX7_followExhibits_2 rfl ?_
  refine z_istore_n (lv' := [(3, .int (iZ 0)), (2, .int (iZ (-1))), (0, .ref (aD g 12)), (1, .ref (aD g 2))]) 4 K dX7_followExhibits_3 rfl rfl (by decide) rfl ?_
  refine z_iconst 5 K dX7_followExhibits_4 rfl ?_
  refine z_istore (lv' := [(4, .int (iZ 0)), (3, .int (iZ 0)), (2, .int (iZ (-1))), (0, .ref (aD g 12)), (1, .ref (aD g 2))]) 7 K dX7_followExhibits_5 rfl (by decide) rfl ?_
  refine z_iconst 8 K dX7_followExhibits_7 rfl ?_
  refine z_istore (lv' := [(5, .int (iZ 0)), (4, .int (iZ 0)), (3, .int (iZ 0)), (2, .int (iZ (-1))), (0, .ref (aD g 12)), (1, .ref (aD g 2))]) 10 K dX7_followExhibits_8 rfl (by decide) rfl ?_
  refine z_iconst 11 K dX7_followExhibits_10 rfl ?_
  refine z_istore (lv' := [(6, .int (iZ 0)), (5, .int (iZ 0)), (4, .int (iZ 0)), (3, .int (iZ 0)), (2, .int (iZ (-1))), (0, .ref (aD g 12)), (1, .ref (aD g 2))]) 13 K dX7_followExhibits_11 rfl (by decide) rfl ?_
  have loop_13 : ∀ (n9 : Nat) (g13 g14 g15 : Int → Int) (x2 x3 x4 x5 kk : Int), (0 ≤ kk ∧ kk ≤ cnt) → (x2 = zBnd pgs bp kk - 1) → ((kk = 0 ∧ x3 = 0 ∧ x4 = 0 ∧ x5 = 0) ∨ (0 < kk ∧ x3 = zPg pgs bp (kk - 1) ∧ x4 = zTb pgs bp (kk - 1) + 1 ∧ x5 = zSm pgs bp (kk - 1) + pgs (kk - 1))) → (∀ j, 0 ≤ j → j < kk → g13 j = zBn pgs bp j ∧ g14 j = zTb pgs bp j ∧ g15 j = zFp pgs bp j) → (cnt - kk < (n9 : Int)) → Z p l e (({ frames := 0, cells := 0, slots := 0, locals := 0 } : Room)) s m args below meth c (MQ below (zQv g (fun C' => ∃ w13 w14 w15 : Int → Int, C' = va_up (va_up (va_up (va_up C 13 (eI g 30 w13)) 14 (eI g 30 w14)) 15 (eI g 30 w15)) 12 (.inr (7, [.ref (aD g 13), .ref (aD g 14), .ref (aD g 15), .ref (aD g 16), .ref (aD g 17), .int (iZ (zBnd pgs bp cnt))])) ∧ (∀ j, 0 ≤ j → j < cnt → w13 j = zBn pgs bp j ∧ w14 j = zTb pgs bp j ∧ w15 j = zFp pgs bp j))) args s 0 0 (zA g)) g 8 0 0 (va_up (va_up (va_up C 13 (eI g 30 g13)) 14 (eI g 30 g14)) 15 (eI g 30 g15)) [(0, .ref (aD g 12)), (1, .ref (aD g 2)), (2, .int (iZ x2)), (3, .int (iZ x3)), (4, .int (iZ x4)), (5, .int (iZ x5)), (6, .int (iZ kk))] 13 [] := by
    intro n9
    induction n9 with
    | zero =>
      intro g13 g14 g15 x2 x3 x4 x5 kk hkk h2 h3 hfac hm9
      exact absurd hm9 (by omega)
    | succ n9 ih9 =>
      intro g13 g14 g15 x2 x3 x4 x5 kk hkk h2 h3 hfac hm_13
      have ih_13 := ih9
      clear ih9
      refine z_iload 15 K dX7_followExhibits_13 rfl 6 rfl ?_
      refine z_aload_n 16 K dX7_followExhibits_15 rfl rfl 1 rfl ?_
      refine z_get 19 K hin_X7_followExhibits_X1 2 (by decide) ((va_up_ne _ _ (by decide)).trans ((va_up_ne _ _ (by decide)).trans ((va_up_ne _ _ (by decide)).trans hEx))) rfl 2 (by decide) (by decide +kernel : Cond.fieldLink RX7 50 "BriefBuilder$Exhibits" "count" "I" ∈ wsX7_followExhibits) (fun _ h9 => h9) rfl dX7_followExhibits_16 rfl ?_
      refine z_icmp_ge (tgt := 111) 22 K dX7_followExhibits_19 rfl (by decide) (by omega) (by omega) (fun c_19 => ?_) (fun c_19 => ?_)
      · skip
        have ek : kk = cnt := by omega
        refine z_aload_n 112 K dX7_followExhibits_111 rfl rfl 0 rfl ?_
        refine z_iload_n 113 K dX7_followExhibits_112 rfl rfl 2 rfl ?_
        refine z_iconst 114 K dX7_followExhibits_113 rfl ?_
        refine z_iadd 115 K dX7_followExhibits_114 rfl ?_
        refine z_put (ty := .int) 118 K hin_X7_followExhibits_X7 tyX7 tyX7_ok nmX7 12 (by decide) ((va_up_ne _ _ (by decide)).trans ((va_up_ne _ _ (by decide)).trans ((va_up_ne _ _ (by decide)).trans hVw))) rfl 5 (by decide) (by decide +kernel : Cond.fieldLink RX7 28 "BriefBuilder$View" "binderCount" "I" ∈ wsX7_followExhibits) (fun _ h9 => h9) rfl (by decide +kernel) rfl rfl (Nat.le_of_ble_eq_true rfl) dX7_followExhibits_115 rfl ?_
        show Z p l e (({ frames := 0, cells := 0, slots := 0, locals := 0 } : Room)) s m args below meth c (MQ below (zQv g (fun C' => ∃ w13 w14 w15 : Int → Int, C' = va_up (va_up (va_up (va_up C 13 (eI g 30 w13)) 14 (eI g 30 w14)) 15 (eI g 30 w15)) 12 (.inr (7, [.ref (aD g 13), .ref (aD g 14), .ref (aD g 15), .ref (aD g 16), .ref (aD g 17), .int (iZ (zBnd pgs bp cnt))])) ∧ (∀ j, 0 ≤ j → j < cnt → w13 j = zBn pgs bp j ∧ w14 j = zTb pgs bp j ∧ w15 j = zFp pgs bp j))) args s 0 0 (zA g)) g _ _ _ (va_up (va_up (va_up (va_up C 13 (eI g 30 g13)) 14 (eI g 30 g14)) 15 (eI g 30 g15)) 12 (.inr (7, [.ref (aD g 13), .ref (aD g 14), .ref (aD g 15), .ref (aD g 16), .ref (aD g 17), .int (iZ (x2 + 1))]))) [(0, .ref (aD g 12)), (1, .ref (aD g 2)), (2, .int (iZ x2)), (3, .int (iZ x3)), (4, .int (iZ x4)), (5, .int (iZ x5)), (6, .int (iZ kk))] 118 []
        rw [show x2 + 1 = zBnd pgs bp cnt by rw [h2, ek]; omega]
        rw [ek] at hfac
        exact z_vret K rfl dX7_followExhibits_118 ⟨g13, g14, g15, rfl, hfac⟩
      · skip
        have hp9 := hpg kk (by omega) (by omega)
        have hx3 : 0 ≤ x3 ∧ x3 ≤ 200 := by
          rcases h3 with h9 | h9
          · omega
          · have := zPg_rng' (lim := bp) (n := cnt) hpg (by omega) (by omega) (k := kk - 1) (by omega) (by omega); omega
        refine z_aload_n 23 K dX7_followExhibits_22 rfl rfl 1 rfl ?_
        refine z_get 26 K hin_X7_followExhibits_X1 2 (by decide) ((va_up_ne _ _ (by decide)).trans ((va_up_ne _ _ (by decide)).trans ((va_up_ne _ _ (by decide)).trans hEx))) rfl 1 (by decide) (by decide +kernel : Cond.fieldLink RX7 55 "BriefBuilder$Exhibits" "pages" "[I" ∈ wsX7_followExhibits) (fun _ h9 => h9) rfl dX7_followExhibits_23 rfl ?_
        refine z_iload 28 K dX7_followExhibits_26 rfl 6 rfl ?_
        refine z_iald (f := pgs) 29 K 4 (by decide) ((va_up_ne _ _ (by decide)).trans ((va_up_ne _ _ (by decide)).trans ((va_up_ne _ _ (by decide)).trans hPgs))) (by omega) (by omega) (by decide) dX7_followExhibits_28 rfl ?_
        refine z_istore (lv' := [(7, .int (iZ (pgs kk))), (0, .ref (aD g 12)), (1, .ref (aD g 2)), (2, .int (iZ x2)), (3, .int (iZ x3)), (4, .int (iZ x4)), (5, .int (iZ x5)), (6, .int (iZ kk))]) 31 K dX7_followExhibits_29 rfl (by decide) rfl ?_
        refine z_iload 33 K dX7_followExhibits_31 rfl 7 rfl ?_
        refine z_if_eq (tgt := 47) 36 K dX7_followExhibits_33 rfl (by decide) (by omega) (fun c_33 => ?_) (fun c_33 => ?_)
        · skip
          refine z_iinc (lv' := [(2, .int (iZ (x2 + 1))), (7, .int (iZ (pgs kk))), (0, .ref (aD g 12)), (1, .ref (aD g 2)), (3, .int (iZ x3)), (4, .int (iZ x4)), (5, .int (iZ x5)), (6, .int (iZ kk))]) 50 K dX7_followExhibits_47 rfl (x2 + 1) rfl 3 rfl (by decide) rfl ?_
          refine z_iconst 51 K dX7_followExhibits_50 rfl ?_
          refine z_istore_n (lv' := [(3, .int (iZ 0)), (2, .int (iZ (x2 + 1))), (7, .int (iZ (pgs kk))), (0, .ref (aD g 12)), (1, .ref (aD g 2)), (4, .int (iZ x4)), (5, .int (iZ x5)), (6, .int (iZ kk))]) 52 K dX7_followExhibits_51 rfl rfl (by decide) rfl ?_
          refine z_iconst 53 K dX7_followExhibits_52 rfl ?_
          refine z_istore (lv' := [(4, .int (iZ 0)), (3, .int (iZ 0)), (2, .int (iZ (x2 + 1))), (7, .int (iZ (pgs kk))), (0, .ref (aD g 12)), (1, .ref (aD g 2)), (5, .int (iZ x5)), (6, .int (iZ kk))]) 55 K dX7_followExhibits_53 rfl (by decide) rfl ?_
          have hs := zV_step (b1 := x2 + 1) (i1 := 0) (t1 := 0) hkk.1 h2 h3 (by omega)
          refine z_aload_n 56 K dX7_followExhibits_55 rfl rfl 4 rfl ?_
          refine z_get 59 K hin_X7_followExhibits_X7 12 (by decide) ((va_up_ne _ _ (by decide)).trans ((va_up_ne _ _ (by decide)).trans ((va_up_ne _ _ (by decide)).trans hVw))) rfl 0 (by decide) (by decide +kernel : Cond.fieldLink RX7 9 "BriefBuilder$View" "binders" "[I" ∈ wsX7_followExhibits) (fun _ h9 => h9) rfl dX7_followExhibits_56 rfl ?_
          refine z_iload 61 K dX7_followExhibits_59 rfl 7 rfl ?_
          refine z_iload_n 62 K dX7_followExhibits_61 rfl rfl 2 rfl ?_
          refine z_iast (f := g13) 63 K 13 (by decide) ((va_up_ne _ _ (by decide)).trans ((va_up_ne _ _ (by decide)).trans (va_up_eq _ 13 _))) (by omega) (by omega) (by decide) dX7_followExhibits_62 rfl ?_
          refine z_C (va_uu2 (by decide) (by decide)) ?_
          refine z_aload_n 64 K dX7_followExhibits_63 rfl rfl 4 rfl ?_
          refine z_get 67 K hin_X7_followExhibits_X7 12 (by decide) ((va_up_ne _ _ (by decide)).trans ((va_up_ne _ _ (by decide)).trans ((va_up_ne _ _ (by decide)).trans hVw))) rfl 1 (by decide) (by decide +kernel : Cond.fieldLink RX7 15 "BriefBuilder$View" "tabs" "[I" ∈ wsX7_followExhibits) (fun _ h9 => h9) rfl dX7_followExhibits_64 rfl ?_
          refine z_iload 69 K dX7_followExhibits_67 rfl 7 rfl ?_
          refine z_iload 71 K dX7_followExhibits_69 rfl 0 rfl ?_
          refine z_iast (f := g14) 72 K 14 (by decide) ((va_up_ne _ _ (by decide)).trans ((va_up_ne _ _ (by decide)).trans (va_up_eq _ 14 _))) (by omega) (by omega) (by decide) dX7_followExhibits_71 rfl ?_
          refine z_C (va_uu2 (by decide) (by decide)) ?_
          refine z_aload_n 73 K dX7_followExhibits_72 rfl rfl 4 rfl ?_
          refine z_get 76 K hin_X7_followExhibits_X7 12 (by decide) ((va_up_ne _ _ (by decide)).trans ((va_up_ne _ _ (by decide)).trans ((va_up_ne _ _ (by decide)).trans hVw))) rfl 2 (by decide) (by decide +kernel : Cond.fieldLink RX7 18 "BriefBuilder$View" "firstPages" "[I" ∈ wsX7_followExhibits) (fun _ h9 => h9) rfl dX7_followExhibits_73 rfl ?_
          refine z_iload 78 K dX7_followExhibits_76 rfl 7 rfl ?_
          refine z_iload 80 K dX7_followExhibits_78 rfl 6 rfl ?_
          refine z_iload 82 K dX7_followExhibits_80 rfl 7 rfl ?_
          refine z_iadd 83 K dX7_followExhibits_82 rfl ?_
          refine z_top (kk + x5) (by omega) ?_
          refine z_iconst 84 K dX7_followExhibits_83 rfl ?_
          refine z_iadd 85 K dX7_followExhibits_84 rfl ?_
          refine z_iconst 86 K dX7_followExhibits_85 rfl ?_
          refine z_iload_n 87 K dX7_followExhibits_86 rfl rfl 2 rfl ?_
          refine z_imul 88 K dX7_followExhibits_87 rfl ?_
          refine z_top (2 * x2 + 2) (by omega) ?_
          refine z_iadd 89 K dX7_followExhibits_88 rfl ?_
          refine z_top (2 * x2 + kk + x5 + 3) (by omega) ?_
          refine z_iast (f := g15) 90 K 15 (by decide) ((va_up_ne _ _ (by decide)).trans ((va_up_ne _ _ (by decide)).trans (va_up_eq _ 15 _))) (by omega) (by omega) (by decide) dX7_followExhibits_89 rfl ?_
          refine z_C (va_uu2 (by decide) (by decide)) ?_
          refine z_iinc (lv' := [(4, .int (iZ 1)), (3, .int (iZ 0)), (2, .int (iZ (x2 + 1))), (7, .int (iZ (pgs kk))), (0, .ref (aD g 12)), (1, .ref (aD g 2)), (5, .int (iZ x5)), (6, .int (iZ kk))]) 93 K dX7_followExhibits_90 rfl (1) (by omega) 0 rfl (by decide) rfl ?_
          refine z_iload_n 94 K dX7_followExhibits_93 rfl rfl 1 rfl ?_
          refine z_iload 96 K dX7_followExhibits_94 rfl 3 rfl ?_
          refine z_iadd 97 K dX7_followExhibits_96 rfl ?_
          refine z_top (pgs kk) (by omega) ?_
          refine z_istore_n (lv' := [(3, .int (iZ (pgs kk))), (4, .int (iZ 1)), (2, .int (iZ (x2 + 1))), (7, .int (iZ (pgs kk))), (0, .ref (aD g 12)), (1, .ref (aD g 2)), (5, .int (iZ x5)), (6, .int (iZ kk))]) 98 K dX7_followExhibits_97 rfl rfl (by decide) rfl ?_
          refine z_iload 100 K dX7_followExhibits_98 rfl 6 rfl ?_
          refine z_iload 102 K dX7_followExhibits_100 rfl 3 rfl ?_
          refine z_iadd 103 K dX7_followExhibits_102 rfl ?_
          refine z_top (pgs kk + x5) (by omega) ?_
          refine z_istore (lv' := [(5, .int (iZ (pgs kk + x5))), (3, .int (iZ (pgs kk))), (4, .int (iZ 1)), (2, .int (iZ (x2 + 1))), (7, .int (iZ (pgs kk))), (0, .ref (aD g 12)), (1, .ref (aD g 2)), (6, .int (iZ kk))]) 105 K dX7_followExhibits_103 rfl (by decide) rfl ?_
          refine z_iinc (lv' := [(6, .int (iZ (kk + 1))), (5, .int (iZ (pgs kk + x5))), (3, .int (iZ (pgs kk))), (4, .int (iZ 1)), (2, .int (iZ (x2 + 1))), (7, .int (iZ (pgs kk))), (0, .ref (aD g 12)), (1, .ref (aD g 2))]) 108 K dX7_followExhibits_105 rfl (kk + 1) rfl 7 rfl (by decide) rfl ?_
          refine z_goto (tgt := 13) K dX7_followExhibits_108 (by decide) ?_
          refine z_sub [6, 7, 4, 2, 3, 1, 0] rfl ?_
          exact ih_13 (zu g13 kk (x2 + 1)) (zu g14 kk 0) (zu g15 kk (2 * x2 + kk + x5 + 3)) (x2 + 1) (pgs kk) 1 (pgs kk + x5) (kk + 1) (by omega) (by unfold zBnd; rw [if_neg (by omega), show kk + 1 - 1 = kk by omega]; omega) (Or.inr (by rw [show kk + 1 - 1 = kk by omega]; omega)) (zV_fac hfac hs.1 hs.2.1 (by unfold zFp; omega)) (by omega)
        · skip
          refine z_iload_n 37 K dX7_followExhibits_36 rfl rfl 4 rfl ?_
          refine z_iload 39 K dX7_followExhibits_37 rfl 0 rfl ?_
          refine z_iadd 40 K dX7_followExhibits_39 rfl ?_
          refine z_top (pgs kk + x3) (by omega) ?_
          refine z_aload_n 41 K dX7_followExhibits_40 rfl rfl 2 rfl ?_
          refine z_get 44 K hin_X7_followExhibits_X1 2 (by decide) ((va_up_ne _ _ (by decide)).trans ((va_up_ne _ _ (by decide)).trans ((va_up_ne _ _ (by decide)).trans hEx))) rfl 4 (by decide) (by decide +kernel : Cond.fieldLink RX7 58 "BriefBuilder$Exhibits" "binderPages" "I" ∈ wsX7_followExhibits) (fun _ h9 => h9) rfl dX7_followExhibits_41 rfl ?_
          refine z_icmp_le (tgt := 55) 47 K dX7_followExhibits_44 rfl (by decide) (by omega) (by omega) (fun c_44 => ?_) (fun c_44 => ?_)
          · skip
            have hs := zV_step (b1 := x2) (i1 := x3) (t1 := x4) hkk.1 h2 h3 (by omega)
            refine z_aload_n 56 K dX7_followExhibits_55 rfl rfl 1 rfl ?_
            refine z_get 59 K hin_X7_followExhibits_X7 12 (by decide) ((va_up_ne _ _ (by decide)).trans ((va_up_ne _ _ (by decide)).trans ((va_up_ne _ _ (by decide)).trans hVw))) rfl 0 (by decide) (by decide +kernel : Cond.fieldLink RX7 9 "BriefBuilder$View" "binders" "[I" ∈ wsX7_followExhibits) (fun _ h9 => h9) rfl dX7_followExhibits_56 rfl ?_
            refine z_iload 61 K dX7_followExhibits_59 rfl 7 rfl ?_
            refine z_iload_n 62 K dX7_followExhibits_61 rfl rfl 3 rfl ?_
            refine z_iast (f := g13) 63 K 13 (by decide) ((va_up_ne _ _ (by decide)).trans ((va_up_ne _ _ (by decide)).trans (va_up_eq _ 13 _))) (by omega) (by omega) (by decide) dX7_followExhibits_62 rfl ?_
            refine z_C (va_uu2 (by decide) (by decide)) ?_
            refine z_aload_n 64 K dX7_followExhibits_63 rfl rfl 1 rfl ?_
            refine z_get 67 K hin_X7_followExhibits_X7 12 (by decide) ((va_up_ne _ _ (by decide)).trans ((va_up_ne _ _ (by decide)).trans ((va_up_ne _ _ (by decide)).trans hVw))) rfl 1 (by decide) (by decide +kernel : Cond.fieldLink RX7 15 "BriefBuilder$View" "tabs" "[I" ∈ wsX7_followExhibits) (fun _ h9 => h9) rfl dX7_followExhibits_64 rfl ?_
            refine z_iload 69 K dX7_followExhibits_67 rfl 7 rfl ?_
            refine z_iload 71 K dX7_followExhibits_69 rfl 5 rfl ?_
            refine z_iast (f := g14) 72 K 14 (by decide) ((va_up_ne _ _ (by decide)).trans ((va_up_ne _ _ (by decide)).trans (va_up_eq _ 14 _))) (by omega) (by omega) (by decide) dX7_followExhibits_71 rfl ?_
            refine z_C (va_uu2 (by decide) (by decide)) ?_
            refine z_aload_n 73 K dX7_followExhibits_72 rfl rfl 1 rfl ?_
            refine z_get 76 K hin_X7_followExhibits_X7 12 (by decide) ((va_up_ne _ _ (by decide)).trans ((va_up_ne _ _ (by decide)).trans ((va_up_ne _ _ (by decide)).trans hVw))) rfl 2 (by decide) (by decide +kernel : Cond.fieldLink RX7 18 "BriefBuilder$View" "firstPages" "[I" ∈ wsX7_followExhibits) (fun _ h9 => h9) rfl dX7_followExhibits_73 rfl ?_
            refine z_iload 78 K dX7_followExhibits_76 rfl 7 rfl ?_
            refine z_iload 80 K dX7_followExhibits_78 rfl 6 rfl ?_
            refine z_iload 82 K dX7_followExhibits_80 rfl 7 rfl ?_
            refine z_iadd 83 K dX7_followExhibits_82 rfl ?_
            refine z_top (kk + x5) (by omega) ?_
            refine z_iconst 84 K dX7_followExhibits_83 rfl ?_
            refine z_iadd 85 K dX7_followExhibits_84 rfl ?_
            refine z_iconst 86 K dX7_followExhibits_85 rfl ?_
            refine z_iload_n 87 K dX7_followExhibits_86 rfl rfl 3 rfl ?_
            refine z_imul 88 K dX7_followExhibits_87 rfl ?_
            refine z_iadd 89 K dX7_followExhibits_88 rfl ?_
            refine z_top (2 * x2 + kk + x5 + 1) (by omega) ?_
            refine z_iast (f := g15) 90 K 15 (by decide) ((va_up_ne _ _ (by decide)).trans ((va_up_ne _ _ (by decide)).trans (va_up_eq _ 15 _))) (by omega) (by omega) (by decide) dX7_followExhibits_89 rfl ?_
            refine z_C (va_uu2 (by decide) (by decide)) ?_
            refine z_iinc (lv' := [(4, .int (iZ (x4 + 1))), (7, .int (iZ (pgs kk))), (0, .ref (aD g 12)), (1, .ref (aD g 2)), (2, .int (iZ x2)), (3, .int (iZ x3)), (5, .int (iZ x5)), (6, .int (iZ kk))]) 93 K dX7_followExhibits_90 rfl (x4 + 1) rfl 5 rfl (by decide) rfl ?_
            refine z_iload_n 94 K dX7_followExhibits_93 rfl rfl 5 rfl ?_
            refine z_iload 96 K dX7_followExhibits_94 rfl 1 rfl ?_
            refine z_iadd 97 K dX7_followExhibits_96 rfl ?_
            refine z_top (pgs kk + x3) (by omega) ?_
            refine z_istore_n (lv' := [(3, .int (iZ (pgs kk + x3))), (4, .int (iZ (x4 + 1))), (7, .int (iZ (pgs kk))), (0, .ref (aD g 12)), (1, .ref (aD g 2)), (2, .int (iZ x2)), (5, .int (iZ x5)), (6, .int (iZ kk))]) 98 K dX7_followExhibits_97 rfl rfl (by decide) rfl ?_
            refine z_iload 100 K dX7_followExhibits_98 rfl 6 rfl ?_
            refine z_iload 102 K dX7_followExhibits_100 rfl 2 rfl ?_
            refine z_iadd 103 K dX7_followExhibits_102 rfl ?_
            refine z_top (pgs kk + x5) (by omega) ?_
            refine z_istore (lv' := [(5, .int (iZ (pgs kk + x5))), (3, .int (iZ (pgs kk + x3))), (4, .int (iZ (x4 + 1))), (7, .int (iZ (pgs kk))), (0, .ref (aD g 12)), (1, .ref (aD g 2)), (2, .int (iZ x2)), (6, .int (iZ kk))]) 105 K dX7_followExhibits_103 rfl (by decide) rfl ?_
            refine z_iinc (lv' := [(6, .int (iZ (kk + 1))), (5, .int (iZ (pgs kk + x5))), (3, .int (iZ (pgs kk + x3))), (4, .int (iZ (x4 + 1))), (7, .int (iZ (pgs kk))), (0, .ref (aD g 12)), (1, .ref (aD g 2)), (2, .int (iZ x2))]) 108 K dX7_followExhibits_105 rfl (kk + 1) rfl 7 rfl (by decide) rfl ?_
            refine z_goto (tgt := 13) K dX7_followExhibits_108 (by decide) ?_
            refine z_sub [5, 6, 7, 2, 3, 1, 0] rfl ?_
            exact ih_13 (zu g13 kk x2) (zu g14 kk x4) (zu g15 kk (2 * x2 + kk + x5 + 1)) x2 (pgs kk + x3) (x4 + 1) (pgs kk + x5) (kk + 1) (by omega) (by unfold zBnd; rw [if_neg (by omega), show kk + 1 - 1 = kk by omega]; omega) (Or.inr (by rw [show kk + 1 - 1 = kk by omega]; omega)) (zV_fac hfac hs.1 hs.2.1 (by unfold zFp; omega)) (by omega)
          · skip
            refine z_iinc (lv' := [(2, .int (iZ (x2 + 1))), (7, .int (iZ (pgs kk))), (0, .ref (aD g 12)), (1, .ref (aD g 2)), (3, .int (iZ x3)), (4, .int (iZ x4)), (5, .int (iZ x5)), (6, .int (iZ kk))]) 50 K dX7_followExhibits_47 rfl (x2 + 1) rfl 3 rfl (by decide) rfl ?_
            refine z_iconst 51 K dX7_followExhibits_50 rfl ?_
            refine z_istore_n (lv' := [(3, .int (iZ 0)), (2, .int (iZ (x2 + 1))), (7, .int (iZ (pgs kk))), (0, .ref (aD g 12)), (1, .ref (aD g 2)), (4, .int (iZ x4)), (5, .int (iZ x5)), (6, .int (iZ kk))]) 52 K dX7_followExhibits_51 rfl rfl (by decide) rfl ?_
            refine z_iconst 53 K dX7_followExhibits_52 rfl ?_
            refine z_istore (lv' := [(4, .int (iZ 0)), (3, .int (iZ 0)), (2, .int (iZ (x2 + 1))), (7, .int (iZ (pgs kk))), (0, .ref (aD g 12)), (1, .ref (aD g 2)), (5, .int (iZ x5)), (6, .int (iZ kk))]) 55 K dX7_followExhibits_53 rfl (by decide) rfl ?_
            have hs := zV_step (b1 := x2 + 1) (i1 := 0) (t1 := 0) hkk.1 h2 h3 (by omega)
            refine z_aload_n 56 K dX7_followExhibits_55 rfl rfl 4 rfl ?_
            refine z_get 59 K hin_X7_followExhibits_X7 12 (by decide) ((va_up_ne _ _ (by decide)).trans ((va_up_ne _ _ (by decide)).trans ((va_up_ne _ _ (by decide)).trans hVw))) rfl 0 (by decide) (by decide +kernel : Cond.fieldLink RX7 9 "BriefBuilder$View" "binders" "[I" ∈ wsX7_followExhibits) (fun _ h9 => h9) rfl dX7_followExhibits_56 rfl ?_
            refine z_iload 61 K dX7_followExhibits_59 rfl 7 rfl ?_
            refine z_iload_n 62 K dX7_followExhibits_61 rfl rfl 2 rfl ?_
            refine z_iast (f := g13) 63 K 13 (by decide) ((va_up_ne _ _ (by decide)).trans ((va_up_ne _ _ (by decide)).trans (va_up_eq _ 13 _))) (by omega) (by omega) (by decide) dX7_followExhibits_62 rfl ?_
            refine z_C (va_uu2 (by decide) (by decide)) ?_
            refine z_aload_n 64 K dX7_followExhibits_63 rfl rfl 4 rfl ?_
            refine z_get 67 K hin_X7_followExhibits_X7 12 (by decide) ((va_up_ne _ _ (by decide)).trans ((va_up_ne _ _ (by decide)).trans ((va_up_ne _ _ (by decide)).trans hVw))) rfl 1 (by decide) (by decide +kernel : Cond.fieldLink RX7 15 "BriefBuilder$View" "tabs" "[I" ∈ wsX7_followExhibits) (fun _ h9 => h9) rfl dX7_followExhibits_64 rfl ?_
            refine z_iload 69 K dX7_followExhibits_67 rfl 7 rfl ?_
            refine z_iload 71 K dX7_followExhibits_69 rfl 0 rfl ?_
            refine z_iast (f := g14) 72 K 14 (by decide) ((va_up_ne _ _ (by decide)).trans ((va_up_ne _ _ (by decide)).trans (va_up_eq _ 14 _))) (by omega) (by omega) (by decide) dX7_followExhibits_71 rfl ?_
            refine z_C (va_uu2 (by decide) (by decide)) ?_
            refine z_aload_n 73 K dX7_followExhibits_72 rfl rfl 4 rfl ?_
            refine z_get 76 K hin_X7_followExhibits_X7 12 (by decide) ((va_up_ne _ _ (by decide)).trans ((va_up_ne _ _ (by decide)).trans ((va_up_ne _ _ (by decide)).trans hVw))) rfl 2 (by decide) (by decide +kernel : Cond.fieldLink RX7 18 "BriefBuilder$View" "firstPages" "[I" ∈ wsX7_followExhibits) (fun _ h9 => h9) rfl dX7_followExhibits_73 rfl ?_
            refine z_iload 78 K dX7_followExhibits_76 rfl 7 rfl ?_
            refine z_iload 80 K dX7_followExhibits_78 rfl 6 rfl ?_
            refine z_iload 82 K dX7_followExhibits_80 rfl 7 rfl ?_
            refine z_iadd 83 K dX7_followExhibits_82 rfl ?_
            refine z_top (kk + x5) (by omega) ?_
            refine z_iconst 84 K dX7_followExhibits_83 rfl ?_
            refine z_iadd 85 K dX7_followExhibits_84 rfl ?_
            refine z_iconst 86 K dX7_followExhibits_85 rfl ?_
            refine z_iload_n 87 K dX7_followExhibits_86 rfl rfl 2 rfl ?_
            refine z_imul 88 K dX7_followExhibits_87 rfl ?_
            refine z_top (2 * x2 + 2) (by omega) ?_
            refine z_iadd 89 K dX7_followExhibits_88 rfl ?_
            refine z_top (2 * x2 + kk + x5 + 3) (by omega) ?_
            refine z_iast (f := g15) 90 K 15 (by decide) ((va_up_ne _ _ (by decide)).trans ((va_up_ne _ _ (by decide)).trans (va_up_eq _ 15 _))) (by omega) (by omega) (by decide) dX7_followExhibits_89 rfl ?_
            refine z_C (va_uu2 (by decide) (by decide)) ?_
            refine z_iinc (lv' := [(4, .int (iZ 1)), (3, .int (iZ 0)), (2, .int (iZ (x2 + 1))), (7, .int (iZ (pgs kk))), (0, .ref (aD g 12)), (1, .ref (aD g 2)), (5, .int (iZ x5)), (6, .int (iZ kk))]) 93 K dX7_followExhibits_90 rfl (1) (by omega) 0 rfl (by decide) rfl ?_
            refine z_iload_n 94 K dX7_followExhibits_93 rfl rfl 1 rfl ?_
            refine z_iload 96 K dX7_followExhibits_94 rfl 3 rfl ?_
            refine z_iadd 97 K dX7_followExhibits_96 rfl ?_
            refine z_top (pgs kk) (by omega) ?_
            refine z_istore_n (lv' := [(3, .int (iZ (pgs kk))), (4, .int (iZ 1)), (2, .int (iZ (x2 + 1))), (7, .int (iZ (pgs kk))), (0, .ref (aD g 12)), (1, .ref (aD g 2)), (5, .int (iZ x5)), (6, .int (iZ kk))]) 98 K dX7_followExhibits_97 rfl rfl (by decide) rfl ?_
            refine z_iload 100 K dX7_followExhibits_98 rfl 6 rfl ?_
            refine z_iload 102 K dX7_followExhibits_100 rfl 3 rfl ?_
            refine z_iadd 103 K dX7_followExhibits_102 rfl ?_
            refine z_top (pgs kk + x5) (by omega) ?_
            refine z_istore (lv' := [(5, .int (iZ (pgs kk + x5))), (3, .int (iZ (pgs kk))), (4, .int (iZ 1)), (2, .int (iZ (x2 + 1))), (7, .int (iZ (pgs kk))), (0, .ref (aD g 12)), (1, .ref (aD g 2)), (6, .int (iZ kk))]) 105 K dX7_followExhibits_103 rfl (by decide) rfl ?_
            refine z_iinc (lv' := [(6, .int (iZ (kk + 1))), (5, .int (iZ (pgs kk + x5))), (3, .int (iZ (pgs kk))), (4, .int (iZ 1)), (2, .int (iZ (x2 + 1))), (7, .int (iZ (pgs kk))), (0, .ref (aD g 12)), (1, .ref (aD g 2))]) 108 K dX7_followExhibits_105 rfl (kk + 1) rfl 7 rfl (by decide) rfl ?_
            refine z_goto (tgt := 13) K dX7_followExhibits_108 (by decide) ?_
            refine z_sub [6, 7, 4, 2, 3, 1, 0] rfl ?_
            exact ih_13 (zu g13 kk (x2 + 1)) (zu g14 kk 0) (zu g15 kk (2 * x2 + kk + x5 + 3)) (x2 + 1) (pgs kk) 1 (pgs kk + x5) (kk + 1) (by omega) (by unfold zBnd; rw [if_neg (by omega), show kk + 1 - 1 = kk by omega]; omega) (Or.inr (by rw [show kk + 1 - 1 = kk by omega]; omega)) (zV_fac hfac hs.1 hs.2.1 (by unfold zFp; omega)) (by omega)
  refine z_sub [5, 6, 4, 3, 2, 1, 0] rfl ?_
  refine z_C (va_us hVb).symm ?_
  refine z_C (va_us ((va_up_ne _ _ (by decide)).trans hVt)).symm ?_
  refine z_C (va_us ((va_up_ne _ _ (by decide)).trans ((va_up_ne _ _ (by decide)).trans hVf))).symm ?_
  exact loop_13 (Int.toNat (cnt - 0) + 1) vb vt vf (-1) 0 0 0 0 (by omega) rfl (Or.inl ⟨rfl, rfl, rfl, rfl⟩) (fun j h0 h1 => absurd h1 (by omega)) (by omega)
set_option maxRecDepth 20000 in
theorem hin_X7_followCitations_X0 : ∀ w ∈ wsX00, w ∈ wsX7_followCitations := by decide +kernel
set_option maxRecDepth 20000 in
theorem hin_X7_followCitations_X1 : ∀ w ∈ wsX10, w ∈ wsX7_followCitations := by decide +kernel
set_option maxRecDepth 20000 in
theorem hin_X7_followCitations_X7 : ∀ w ∈ wsX70, w ∈ wsX7_followCitations := by decide +kernel
set_option maxHeartbeats 4000000 in
set_option maxRecDepth 100000 in
theorem m_X7_followCitations (l : Launch) (g : zG) (C : Nat → va_E) (nb : Int) (lt : Int → Int) (lo : Int → Int) (cc : Int → Int) (cn : Int → Int) (cp : Int → Int) (cnt : Int) (nxt : Int) (bp : Int) (num : Int → Int) (pgs : Int → Int) (hVw : C 12 = .inr (7, [.ref (aD g 13), .ref (aD g 14), .ref (aD g 15), .ref (aD g 16), .ref (aD g 17), .int (iZ nb)])) (hLe : C 16 = eI g 72 lt) (hLo : C 17 = eZ g 72 lo) (hCi : C 5 = .inr (0, [.ref (aD g 6), .ref (aD g 7), .ref (aD g 8)])) (hCc : C 6 = eI g 12 cc) (hCn : C 7 = eI g 72 cn) (hCp : C 8 = eI g 72 cp) (hEx : C 2 = .inr (1, [.ref (aD g 3), .ref (aD g 4), .int (iZ cnt), .int (iZ nxt), .int (iZ bp)])) (hNum : C 3 = eI g 30 num) (hPgs : C 4 = eI g 30 pgs) (hcnt : 0 ≤ cnt ∧ cnt ≤ 30) (hpg : ∀ j, 0 ≤ j → j < cnt → 0 ≤ pgs j ∧ pgs j ≤ 60) (hcc : ∀ a, 0 ≤ a → a < 12 → 0 ≤ cc a ∧ cc a ≤ 6) (hlt9 : ∀ j, -1 ≤ lt j ∧ lt j ≤ 29) (hlo9 : ∀ j, lo j = 0 ∨ lo j = 1) (hr3 : ∀ j, -2147483648 ≤ num j ∧ num j < 2147483648) (hrn : ∀ j, -2147483648 ≤ cn j ∧ cn j < 2147483648) (hcp9 : ∀ a b, 0 ≤ a → a < 12 → 0 ≤ b → b < cc a → 1 ≤ cp (6 * a + b) ∧ cp (6 * a + b) ≤ 60) : Met l yX7_followCitations wsX7_followCitations ({ frames := 1, cells := 0, slots := 0, locals := 22 } : Room) (zPre g C [.ref (aD g 12), .ref (aD g 5), .ref (aD g 2)]) (zQv g (fun C' => ∃ w16 w17 : Int → Int, C' = va_up (va_up C 16 (eI g 72 w16)) 17 (eZ g 72 w17) ∧ (∀ a2 b2, 0 ≤ a2 → a2 < 12 → 0 ≤ b2 → b2 < cc a2 → b2 ≤ 5 → 6 * a2 + b2 < 72 → w16 (6 * a2 + b2) = iLet num cnt cn (6 * a2 + b2) ∧ w17 (6 * a2 + b2) = b2i (iLost num pgs cnt cn cp (6 * a2 + b2))) ∧ (∀ j, -1 ≤ w16 j ∧ w16 j ≤ 29) ∧ (∀ j, w17 j = 0 ∨ w17 j = 1))) 0 0 (zA g) := by
  refine z_enter RX7 rfl (by decide) rfl (Nat.le_of_ble_eq_true rfl) ?_
  intro p e s m args below meth c K harg
  refine z_sub (lv' := [(0, .ref (aD g 12)), (1, .ref (aD g 5)), (2, .ref (aD g 2))]) [0, 1, 2] rfl ?_
  refine z_iconst 1 K dX7_followCitations_0 rfl ?_
  refine z_istore_n (lv' := [(3, .int (iZ 0)), (0, .ref (aD g 12)), (1, .ref (aD g 5)), (2, .ref (aD g 2))]) 2 K dX7_followCitations_1 rfl rfl (by decide) rfl ?_
  have loop_2 : ∀ (n9 : Nat) (g16 g17 : Int → Int) (a : Int), (0 ≤ a ∧ a ≤ 12) → (∀ a2 b2, 0 ≤ a2 → a2 < 12 → 0 ≤ b2 → b2 < cc a2 → b2 ≤ 5 → 6 * a2 + b2 < 6 * a → g16 (6 * a2 + b2) = iLet num cnt cn (6 * a2 + b2) ∧ g17 (6 * a2 + b2) = b2i (iLost num pgs cnt cn cp (6 * a2 + b2))) → (∀ j, -1 ≤ g16 j ∧ g16 j ≤ 29) → (∀ j, g17 j = 0 ∨ g17 j = 1) → (12 - a < (n9 : Int)) → Z p l e (({ frames := 1, cells := 0, slots := 0, locals := 22 } : Room)) s m args below meth c (MQ below (zQv g (fun C' => ∃ w16 w17 : Int → Int, C' = va_up (va_up C 16 (eI g 72 w16)) 17 (eZ g 72 w17) ∧ (∀ a2 b2, 0 ≤ a2 → a2 < 12 → 0 ≤ b2 → b2 < cc a2 → b2 ≤ 5 → 6 * a2 + b2 < 72 → w16 (6 * a2 + b2) = iLet num cnt cn (6 * a2 + b2) ∧ w17 (6 * a2 + b2) = b2i (iLost num pgs cnt cn cp (6 * a2 + b2))) ∧ (∀ j, -1 ≤ w16 j ∧ w16 j ≤ 29) ∧ (∀ j, w17 j = 0 ∨ w17 j = 1))) args s 0 0 (zA g)) g 7 0 0 (va_up (va_up C 16 (eI g 72 g16)) 17 (eZ g 72 g17)) [(0, .ref (aD g 12)), (1, .ref (aD g 5)), (2, .ref (aD g 2)), (3, .int (iZ a))] 2 [] := by
    intro n9
    induction n9 with
    | zero =>
      intro g16 g17 a hka hfac hq16 hq17 hm9
      exact absurd hm9 (by omega)
    | succ n9 ih9 =>
      intro g16 g17 a hka hfac hq16 hq17 hm_2
      have ih_2 := ih9
      clear ih9
      refine z_iload_n 3 K dX7_followCitations_2 rfl rfl 3 rfl ?_
      refine z_bipush 5 K dX7_followCitations_3 rfl rfl ?_
      refine z_icmp_ge (tgt := 99) 8 K dX7_followCitations_5 rfl (by decide) (by omega) (by decide) (fun c_5 => ?_) (fun c_5 => ?_)
      · skip
        have ea : a = 12 := by omega
        rw [ea] at hfac
        exact z_vret K rfl dX7_followCitations_99 ⟨g16, g17, rfl, (fun a2 b2 q0 q1 q2 q3 q4 q5 => hfac a2 b2 q0 q1 q2 q3 q4 (by omega)), hq16, hq17⟩
      · skip
        have hca := hcc a (by omega) (by omega)
        refine z_iconst 9 K dX7_followCitations_8 rfl ?_
        refine z_istore (lv' := [(4, .int (iZ 0)), (0, .ref (aD g 12)), (1, .ref (aD g 5)), (2, .ref (aD g 2)), (3, .int (iZ a))]) 11 K dX7_followCitations_9 rfl (by decide) rfl ?_
        have loop_11 : ∀ (n9 : Nat) (k16 k17 : Int → Int) (b : Int), (0 ≤ b ∧ b ≤ cc a) → (∀ a2 b2, 0 ≤ a2 → a2 < 12 → 0 ≤ b2 → b2 < cc a2 → b2 ≤ 5 → 6 * a2 + b2 < 6 * a + b → k16 (6 * a2 + b2) = iLet num cnt cn (6 * a2 + b2) ∧ k17 (6 * a2 + b2) = b2i (iLost num pgs cnt cn cp (6 * a2 + b2))) → (∀ j, -1 ≤ k16 j ∧ k16 j ≤ 29) → (∀ j, k17 j = 0 ∨ k17 j = 1) → (cc a - b < (n9 : Int)) → Z p l e (({ frames := 1, cells := 0, slots := 0, locals := 22 } : Room)) s m args below meth c (MQ below (zQv g (fun C' => ∃ w16 w17 : Int → Int, C' = va_up (va_up C 16 (eI g 72 w16)) 17 (eZ g 72 w17) ∧ (∀ a2 b2, 0 ≤ a2 → a2 < 12 → 0 ≤ b2 → b2 < cc a2 → b2 ≤ 5 → 6 * a2 + b2 < 72 → w16 (6 * a2 + b2) = iLet num cnt cn (6 * a2 + b2) ∧ w17 (6 * a2 + b2) = b2i (iLost num pgs cnt cn cp (6 * a2 + b2))) ∧ (∀ j, -1 ≤ w16 j ∧ w16 j ≤ 29) ∧ (∀ j, w17 j = 0 ∨ w17 j = 1))) args s 0 0 (zA g)) g 7 0 0 (va_up (va_up C 16 (eI g 72 k16)) 17 (eZ g 72 k17)) [(0, .ref (aD g 12)), (1, .ref (aD g 5)), (2, .ref (aD g 2)), (3, .int (iZ a)), (4, .int (iZ b))] 11 [] := by
          intro n9
          induction n9 with
          | zero =>
            intro k16 k17 b hkb hfa2 hk16 hk17 hm9
            exact absurd hm9 (by omega)
          | succ n9 ih9 =>
            intro k16 k17 b hkb hfa2 hk16 hk17 hm_11
            have ih_11 := ih9
            clear ih9
            refine z_iload 13 K dX7_followCitations_11 rfl 4 rfl ?_
            refine z_aload_n 14 K dX7_followCitations_13 rfl rfl 1 rfl ?_
            refine z_get 17 K hin_X7_followCitations_X0 5 (by decide) ((va_up_ne _ _ (by decide)).trans ((va_up_ne _ _ (by decide)).trans hCi)) rfl 0 (by decide) (by decide +kernel : Cond.fieldLink RX7 61 "BriefBuilder$Citations" "counts" "[I" ∈ wsX7_followCitations) (fun _ h9 => h9) rfl dX7_followCitations_14 rfl ?_
            refine z_iload_n 18 K dX7_followCitations_17 rfl rfl 3 rfl ?_
            refine z_iald (f := cc) 19 K 6 (by decide) ((va_up_ne _ _ (by decide)).trans ((va_up_ne _ _ (by decide)).trans hCc)) (by omega) (by omega) (by decide) dX7_followCitations_18 rfl ?_
            refine z_icmp_ge (tgt := 93) 22 K dX7_followCitations_19 rfl (by decide) (by omega) (by omega) (fun c_19 => ?_) (fun c_19 => ?_)
            · skip
              refine z_iinc (lv' := [(3, .int (iZ (a + 1))), (0, .ref (aD g 12)), (1, .ref (aD g 5)), (2, .ref (aD g 2)), (4, .int (iZ b))]) 96 K dX7_followCitations_93 rfl (a + 1) rfl 3 rfl (by decide) rfl ?_
              refine z_goto (tgt := 2) K dX7_followCitations_96 (by decide) ?_
              refine z_sub [1, 2, 3, 0] rfl ?_
              exact ih_2 k16 k17 (a + 1) (by omega) (fun a2 b2 q0 q1 q2 q3 q4 q5 => hfa2 a2 b2 q0 q1 q2 q3 q4 (by by_cases q9 : a2 = a; (subst q9; omega); omega)) hk16 hk17 (by omega)
            · skip
              refine z_iload_n 23 K dX7_followCitations_22 rfl rfl 3 rfl ?_
              refine z_iload 25 K dX7_followCitations_23 rfl 4 rfl ?_
              refine z_vNi (As := [.int (iZ a), .int (iZ b)]) (rest := []) 28 K (m_X8_cellOf l g _ a b ) ⟨va_cnB 2 K.1.2.2.2.2 gX7_followCitations_X8_cellOf_n66 rfl rfl rfl K.2.2.2.2.2.1 (K.1.2.2.2.2 _ (by decide +kernel)) (by decide +kernel) ⟨Nat.le_of_ble_eq_true rfl, Nat.le_of_ble_eq_true rfl⟩, K.1.2.2.2.2 _ (by decide +kernel), trivial⟩ rfl (Nat.le_of_ble_eq_true rfl) dX7_followCitations_25 rfl ⟨Nat.le_of_ble_eq_true rfl, Nat.le_of_ble_eq_true rfl⟩ rfl (fun z_1 C_2 hp_25 => ?_)
              refine z_C hp_25.1 ?_
              refine z_top (6 * a + b) hp_25.2 ?_
              refine z_istore (lv' := [(5, .int (iZ (6 * a + b))), (0, .ref (aD g 12)), (1, .ref (aD g 5)), (2, .ref (aD g 2)), (3, .int (iZ a)), (4, .int (iZ b))]) 30 K dX7_followCitations_28 rfl (by decide) rfl ?_
              refine z_aload_n 31 K dX7_followCitations_30 rfl rfl 3 rfl ?_
              refine z_aload_n 32 K dX7_followCitations_31 rfl rfl 2 rfl ?_
              refine z_get 35 K hin_X7_followCitations_X0 5 (by decide) ((va_up_ne _ _ (by decide)).trans ((va_up_ne _ _ (by decide)).trans hCi)) rfl 1 (by decide) (by decide +kernel : Cond.fieldLink RX7 70 "BriefBuilder$Citations" "numbers" "[I" ∈ wsX7_followCitations) (fun _ h9 => h9) rfl dX7_followCitations_32 rfl ?_
              refine z_iload 37 K dX7_followCitations_35 rfl 0 rfl ?_
              refine z_iald (f := cn) 38 K 7 (by decide) ((va_up_ne _ _ (by decide)).trans ((va_up_ne _ _ (by decide)).trans hCn)) (by omega) (by omega) (by decide) dX7_followCitations_37 rfl ?_
              have hr_37 := hrn (6 * a + b)
              refine z_vVi (As := [.int (iZ (cn (6 * a + b)))]) (rest := []) 41 K 2 (by decide) ((va_up_ne _ _ (by decide)).trans ((va_up_ne _ _ (by decide)).trans hEx)) rfl rfl (m_X1_placeOf l g _ (cn (6 * a + b)) cnt nxt bp num ((va_up_ne _ _ (by decide)).trans ((va_up_ne _ _ (by decide)).trans hEx)) ((va_up_ne _ _ (by decide)).trans ((va_up_ne _ _ (by decide)).trans hNum)) (by omega) hr3 (hrn _)) (cwV 1 K.1.2.2.2.2 gX7_followCitations_X1_placeOf rfl rfl rfl (by decide +kernel) ⟨Nat.le_of_ble_eq_true rfl, Nat.le_of_ble_eq_true rfl⟩) rfl (Nat.le_of_ble_eq_true rfl) dX7_followCitations_38 rfl ⟨Nat.le_of_ble_eq_true rfl, Nat.le_of_ble_eq_true rfl⟩ rfl (fun z_3 C_4 hp_38 => ?_)
              refine z_C hp_38.1 ?_
              refine z_top (zfind num (cn (6 * a + b)) cnt) hp_38.2 ?_
              have hzr := zfind_rng num (cn (6 * a + b)) (n := cnt) (by omega)
              refine z_istore (lv' := [(6, .int (iZ (zfind num (cn (6 * a + b)) cnt))), (5, .int (iZ (6 * a + b))), (0, .ref (aD g 12)), (1, .ref (aD g 5)), (2, .ref (aD g 2)), (3, .int (iZ a)), (4, .int (iZ b))]) 43 K dX7_followCitations_41 rfl (by decide) rfl ?_
              refine z_aload_n 44 K dX7_followCitations_43 rfl rfl 2 rfl ?_
              refine z_get 47 K hin_X7_followCitations_X7 12 (by decide) ((va_up_ne _ _ (by decide)).trans ((va_up_ne _ _ (by decide)).trans hVw)) rfl 3 (by decide) (by decide +kernel : Cond.fieldLink RX7 21 "BriefBuilder$View" "letters" "[I" ∈ wsX7_followCitations) (fun _ h9 => h9) rfl dX7_followCitations_44 rfl ?_
              refine z_iload 49 K dX7_followCitations_47 rfl 1 rfl ?_
              refine z_iload 51 K dX7_followCitations_49 rfl 0 rfl ?_
              refine z_iast (f := k16) 52 K 16 (by decide) ((va_up_ne _ _ (by decide)).trans (va_up_eq _ 16 _)) (by omega) (by omega) (by decide) dX7_followCitations_51 rfl ?_
              refine z_C (va_uu1 (by decide)) ?_
              refine z_aload_n 53 K dX7_followCitations_52 rfl rfl 2 rfl ?_
              refine z_get 56 K hin_X7_followCitations_X7 12 (by decide) ((va_up_ne _ _ (by decide)).trans ((va_up_ne _ _ (by decide)).trans hVw)) rfl 4 (by decide) (by decide +kernel : Cond.fieldLink RX7 24 "BriefBuilder$View" "lost" "[Z" ∈ wsX7_followCitations) (fun _ h9 => h9) rfl dX7_followCitations_53 rfl ?_
              refine z_iload 58 K dX7_followCitations_56 rfl 1 rfl ?_
              refine z_iload 60 K dX7_followCitations_58 rfl 0 rfl ?_
              refine z_iconst 61 K dX7_followCitations_60 rfl ?_
              have join_86_j_5 : ∀ (lv9 : Int), (lv9 = b2i (iLost num pgs cnt cn cp (6 * a + b))) → (lv9 = 0 ∨ lv9 = 1) → Z p l e (({ frames := 1, cells := 0, slots := 0, locals := 22 } : Room)) s m args below meth c (MQ below (zQv g (fun C' => ∃ w16 w17 : Int → Int, C' = va_up (va_up C 16 (eI g 72 w16)) 17 (eZ g 72 w17) ∧ (∀ a2 b2, 0 ≤ a2 → a2 < 12 → 0 ≤ b2 → b2 < cc a2 → b2 ≤ 5 → 6 * a2 + b2 < 72 → w16 (6 * a2 + b2) = iLet num cnt cn (6 * a2 + b2) ∧ w17 (6 * a2 + b2) = b2i (iLost num pgs cnt cn cp (6 * a2 + b2))) ∧ (∀ j, -1 ≤ w16 j ∧ w16 j ≤ 29) ∧ (∀ j, w17 j = 0 ∨ w17 j = 1))) args s 0 0 (zA g)) g 7 0 0 (va_up (va_up C 17 (eZ g 72 k17)) 16 (eI g 72 (zu k16 (6 * a + b) (zfind num (cn (6 * a + b)) cnt)))) [(6, .int (iZ (zfind num (cn (6 * a + b)) cnt))), (5, .int (iZ (6 * a + b))), (0, .ref (aD g 12)), (1, .ref (aD g 5)), (2, .ref (aD g 2)), (3, .int (iZ a)), (4, .int (iZ b))] 86 [.int (iZ lv9), .int (iZ (6 * a + b)), .ref (aD g 17)] := by
                intro lv9  hlv hlr
                refine z_zast (f := k17) 87 K 17 (by decide) ((va_up_ne _ _ (by decide)).trans (va_up_eq _ 17 _)) (by omega) (by omega) (by omega) (by decide) dX7_followCitations_86 rfl ?_
                refine z_C (va_uu1 (by decide)) ?_
                refine z_iinc (lv' := [(4, .int (iZ (b + 1))), (6, .int (iZ (zfind num (cn (6 * a + b)) cnt))), (5, .int (iZ (6 * a + b))), (0, .ref (aD g 12)), (1, .ref (aD g 5)), (2, .ref (aD g 2)), (3, .int (iZ a))]) 90 K dX7_followCitations_87 rfl (b + 1) rfl 6 rfl (by decide) rfl ?_
                refine z_goto (tgt := 11) K dX7_followCitations_90 (by decide) ?_
                refine z_sub [3, 4, 5, 6, 0] rfl ?_
                exact ih_11 (zu k16 (6 * a + b) (zfind num (cn (6 * a + b)) cnt)) (zu k17 (6 * a + b) lv9) (b + 1) (by omega) (zC_fac (A := fun z => iLet num cnt cn z) (B := fun z => b2i (iLost num pgs cnt cn cp z)) c_19 hfa2 rfl hlv) (zu_all (P := fun z => -1 ≤ z ∧ z ≤ 29) hk16 (by omega)) (zu_all (P := fun z => z = 0 ∨ z = 1) hk17 hlr) (by omega)
              refine z_icmp_eq (tgt := 81) 64 K dX7_followCitations_61 rfl (by decide) (by omega) (by decide) (fun c_61 => ?_) (fun c_61 => ?_)
              · skip
                refine z_iconst 82 K dX7_followCitations_81 rfl ?_
                refine z_goto (tgt := 86) K dX7_followCitations_82 (by decide) ?_
                exact join_86_j_5 1 (by unfold iLost; first | (have q9 : iLet num cnt cn (6 * a + b) = -1 ∨ pgs (iLet num cnt cn (6 * a + b)) < cp (6 * a + b) := (by unfold iLet; omega); exact (b2i_1 q9).symm) | (have q9 : ¬ (iLet num cnt cn (6 * a + b) = -1 ∨ pgs (iLet num cnt cn (6 * a + b)) < cp (6 * a + b)) := (by unfold iLet; omega); exact (b2i_0 q9).symm)) (by decide)
              · skip
                refine z_aload_n 65 K dX7_followCitations_64 rfl rfl 3 rfl ?_
                refine z_get 68 K hin_X7_followCitations_X0 5 (by decide) ((va_up_ne _ _ (by decide)).trans ((va_up_ne _ _ (by decide)).trans hCi)) rfl 2 (by decide) (by decide +kernel : Cond.fieldLink RX7 77 "BriefBuilder$Citations" "pages" "[I" ∈ wsX7_followCitations) (fun _ h9 => h9) rfl dX7_followCitations_65 rfl ?_
                refine z_iload 70 K dX7_followCitations_68 rfl 1 rfl ?_
                refine z_iald (f := cp) 71 K 8 (by decide) ((va_up_ne _ _ (by decide)).trans ((va_up_ne _ _ (by decide)).trans hCp)) (by omega) (by omega) (by decide) dX7_followCitations_70 rfl ?_
                have hp9 := hcp9 a b (by omega) (by omega) (by omega) (by omega)
                refine z_aload_n 72 K dX7_followCitations_71 rfl rfl 4 rfl ?_
                refine z_get 75 K hin_X7_followCitations_X1 2 (by decide) ((va_up_ne _ _ (by decide)).trans ((va_up_ne _ _ (by decide)).trans hEx)) rfl 1 (by decide) (by decide +kernel : Cond.fieldLink RX7 55 "BriefBuilder$Exhibits" "pages" "[I" ∈ wsX7_followCitations) (fun _ h9 => h9) rfl dX7_followCitations_72 rfl ?_
                refine z_iload 77 K dX7_followCitations_75 rfl 0 rfl ?_
                refine z_iald (f := pgs) 78 K 4 (by decide) ((va_up_ne _ _ (by decide)).trans ((va_up_ne _ _ (by decide)).trans hPgs)) (by omega) (by omega) (by decide) dX7_followCitations_77 rfl ?_
                have hp8 := hpg (zfind num (cn (6 * a + b)) cnt) (by omega) (by omega)
                refine z_icmp_le (tgt := 85) 81 K dX7_followCitations_78 rfl (by decide) (by omega) (by omega) (fun c_78 => ?_) (fun c_78 => ?_)
                · skip
                  refine z_iconst 86 K dX7_followCitations_85 rfl ?_
                  exact join_86_j_5 0 (by unfold iLost; first | (have q9 : iLet num cnt cn (6 * a + b) = -1 ∨ pgs (iLet num cnt cn (6 * a + b)) < cp (6 * a + b) := (by unfold iLet; omega); exact (b2i_1 q9).symm) | (have q9 : ¬ (iLet num cnt cn (6 * a + b) = -1 ∨ pgs (iLet num cnt cn (6 * a + b)) < cp (6 * a + b)) := (by unfold iLet; omega); exact (b2i_0 q9).symm)) (by decide)
                · skip
                  refine z_iconst 82 K dX7_followCitations_81 rfl ?_
                  refine z_goto (tgt := 86) K dX7_followCitations_82 (by decide) ?_
                  exact join_86_j_5 1 (by unfold iLost; first | (have q9 : iLet num cnt cn (6 * a + b) = -1 ∨ pgs (iLet num cnt cn (6 * a + b)) < cp (6 * a + b) := (by unfold iLet; omega); exact (b2i_1 q9).symm) | (have q9 : ¬ (iLet num cnt cn (6 * a + b) = -1 ∨ pgs (iLet num cnt cn (6 * a + b)) < cp (6 * a + b)) := (by unfold iLet; omega); exact (b2i_0 q9).symm)) (by decide)
        refine z_sub [1, 2, 3, 4, 0] rfl ?_
        exact loop_11 (Int.toNat (cc a - 0) + 1) g16 g17 0 (by omega) (by rw [Int.add_zero]; exact hfac) hq16 hq17 (by omega)
  refine z_sub [1, 2, 3, 0] rfl ?_
  refine z_C (va_us hLe).symm ?_
  refine z_C (va_us ((va_up_ne _ _ (by decide)).trans hLo)).symm ?_
  exact loop_2 (Int.toNat (12 - 0) + 1) lt lo 0 (by omega) (fun a2 b2 q0 q1 q2 q3 q4 q5 => absurd q5 (by omega)) hlt9 hlo9 (by omega)
set_option maxRecDepth 20000 in
theorem hin_X7_follow_X4 : ∀ w ∈ wsX40, w ∈ wsX7_follow := by decide +kernel
set_option maxHeartbeats 4000000 in
set_option maxRecDepth 100000 in
theorem m_X7_follow (l : Launch) (g : zG) (C : Nat → va_E) (nb : Int) (vb : Int → Int) (vt : Int → Int) (vf : Int → Int) (lt : Int → Int) (lo : Int → Int) (cnt : Int) (nxt : Int) (bp : Int) (num : Int → Int) (pgs : Int → Int) (cc : Int → Int) (cn : Int → Int) (cp : Int → Int) (hVw : C 12 = .inr (7, [.ref (aD g 13), .ref (aD g 14), .ref (aD g 15), .ref (aD g 16), .ref (aD g 17), .int (iZ nb)])) (hVb : C 13 = eI g 30 vb) (hVt : C 14 = eI g 30 vt) (hVf : C 15 = eI g 30 vf) (hLe : C 16 = eI g 72 lt) (hLo : C 17 = eZ g 72 lo) (hSt : C 1 = .inr (4, [.ref (aD g 2), .ref (aD g 5), .ref (aD g 9)])) (hEx : C 2 = .inr (1, [.ref (aD g 3), .ref (aD g 4), .int (iZ cnt), .int (iZ nxt), .int (iZ bp)])) (hNum : C 3 = eI g 30 num) (hPgs : C 4 = eI g 30 pgs) (hCi : C 5 = .inr (0, [.ref (aD g 6), .ref (aD g 7), .ref (aD g 8)])) (hCc : C 6 = eI g 12 cc) (hCn : C 7 = eI g 72 cn) (hCp : C 8 = eI g 72 cp) (hcnt : 0 ≤ cnt ∧ cnt ≤ 30) (hbp : 0 ≤ bp ∧ bp ≤ 200) (hpg : ∀ j, 0 ≤ j → j < cnt → 0 ≤ pgs j ∧ pgs j ≤ 60) (hcc : ∀ a, 0 ≤ a → a < 12 → 0 ≤ cc a ∧ cc a ≤ 6) (hlt9 : ∀ j, -1 ≤ lt j ∧ lt j ≤ 29) (hlo9 : ∀ j, lo j = 0 ∨ lo j = 1) (hr3 : ∀ j, -2147483648 ≤ num j ∧ num j < 2147483648) (hrn : ∀ j, -2147483648 ≤ cn j ∧ cn j < 2147483648) (hcp9 : ∀ a b, 0 ≤ a → a < 12 → 0 ≤ b → b < cc a → 1 ≤ cp (6 * a + b) ∧ cp (6 * a + b) ≤ 60) : Met l yX7_follow wsX7_follow ({ frames := 2, cells := 0, slots := 0, locals := 48 } : Room) (zPre g C [.ref (aD g 12), .ref (aD g 1)]) (zQv g (fun C' => ∃ w13 w14 w15 w16 w17 : Int → Int, C' = va_up (va_up (va_up (va_up (va_up (va_up C 13 (eI g 30 w13)) 14 (eI g 30 w14)) 15 (eI g 30 w15)) 12 (.inr (7, [.ref (aD g 13), .ref (aD g 14), .ref (aD g 15), .ref (aD g 16), .ref (aD g 17), .int (iZ (zBnd pgs bp cnt))]))) 16 (eI g 72 w16)) 17 (eZ g 72 w17) ∧ (∀ j, 0 ≤ j → j < cnt → w13 j = zBn pgs bp j ∧ w14 j = zTb pgs bp j ∧ w15 j = zFp pgs bp j) ∧ (∀ a2 b2, 0 ≤ a2 → a2 < 12 → 0 ≤ b2 → b2 < cc a2 → b2 ≤ 5 → 6 * a2 + b2 < 72 → w16 (6 * a2 + b2) = iLet num cnt cn (6 * a2 + b2) ∧ w17 (6 * a2 + b2) = b2i (iLost num pgs cnt cn cp (6 * a2 + b2))) ∧ (∀ j, -1 ≤ w16 j ∧ w16 j ≤ 29) ∧ (∀ j, w17 j = 0 ∨ w17 j = 1))) 0 0 (zA g) := by
  refine z_enter RX7 rfl (by decide) rfl (Nat.le_of_ble_eq_true rfl) ?_
  intro p e s m args below meth c K harg
  refine z_sub (lv' := [(0, .ref (aD g 12)), (1, .ref (aD g 1))]) [0, 1] rfl ?_
  refine z_aload_n 1 K dX7_follow_0 rfl rfl 0 rfl ?_
  refine z_aload_n 2 K dX7_follow_1 rfl rfl 1 rfl ?_
  refine z_get 5 K hin_X7_follow_X4 1 (by decide) hSt rfl 0 (by decide) (by decide +kernel : Cond.fieldLink RX7 32 "BriefBuilder$State" "exhibits" "LBriefBuilder$Exhibits;" ∈ wsX7_follow) (fun _ h9 => h9) rfl dX7_follow_2 rfl ?_
  refine z_vVv (As := [.ref (aD g 2)]) (rest := []) 8 K 12 (by decide) hVw rfl rfl (m_X7_followExhibits l g _ nb vb vt vf cnt nxt bp pgs hVw hVb hVt hVf hEx hPgs (by omega) (by omega) hpg) (cwV 1 K.1.2.2.2.2 gX7_follow_X7_followExhibits rfl rfl rfl (by decide +kernel) ⟨Nat.le_of_ble_eq_true rfl, Nat.le_of_ble_eq_true rfl⟩) rfl (Nat.le_of_ble_eq_true rfl) dX7_follow_5 rfl ⟨Nat.le_of_ble_eq_true rfl, Nat.le_of_ble_eq_true rfl⟩ rfl (fun C_2 hp_5 => ?_)
  obtain ⟨w13_3, w14_4, w15_5, hC_5, hvf_5⟩ := hp_5
  refine z_C hC_5 ?_
  refine z_aload_n 9 K dX7_follow_8 rfl rfl 0 rfl ?_
  refine z_aload_n 10 K dX7_follow_9 rfl rfl 1 rfl ?_
  refine z_get 13 K hin_X7_follow_X4 1 (by decide) ((va_up_ne _ _ (by decide)).trans ((va_up_ne _ _ (by decide)).trans ((va_up_ne _ _ (by decide)).trans ((va_up_ne _ _ (by decide)).trans hSt)))) rfl 1 (by decide) (by decide +kernel : Cond.fieldLink RX7 42 "BriefBuilder$State" "citations" "LBriefBuilder$Citations;" ∈ wsX7_follow) (fun _ h9 => h9) rfl dX7_follow_10 rfl ?_
  refine z_aload_n 14 K dX7_follow_13 rfl rfl 1 rfl ?_
  refine z_get 17 K hin_X7_follow_X4 1 (by decide) ((va_up_ne _ _ (by decide)).trans ((va_up_ne _ _ (by decide)).trans ((va_up_ne _ _ (by decide)).trans ((va_up_ne _ _ (by decide)).trans hSt)))) rfl 0 (by decide) (by decide +kernel : Cond.fieldLink RX7 32 "BriefBuilder$State" "exhibits" "LBriefBuilder$Exhibits;" ∈ wsX7_follow) (fun _ h9 => h9) rfl dX7_follow_14 rfl ?_
  refine z_vVv (As := [.ref (aD g 5), .ref (aD g 2)]) (rest := []) 20 K 12 (by decide) (va_up_eq _ 12 _) rfl rfl (m_X7_followCitations l g _ (zBnd pgs bp cnt) lt lo cc cn cp cnt nxt bp num pgs (va_up_eq _ 12 _) ((va_up_ne _ _ (by decide)).trans ((va_up_ne _ _ (by decide)).trans ((va_up_ne _ _ (by decide)).trans ((va_up_ne _ _ (by decide)).trans hLe)))) ((va_up_ne _ _ (by decide)).trans ((va_up_ne _ _ (by decide)).trans ((va_up_ne _ _ (by decide)).trans ((va_up_ne _ _ (by decide)).trans hLo)))) ((va_up_ne _ _ (by decide)).trans ((va_up_ne _ _ (by decide)).trans ((va_up_ne _ _ (by decide)).trans ((va_up_ne _ _ (by decide)).trans hCi)))) ((va_up_ne _ _ (by decide)).trans ((va_up_ne _ _ (by decide)).trans ((va_up_ne _ _ (by decide)).trans ((va_up_ne _ _ (by decide)).trans hCc)))) ((va_up_ne _ _ (by decide)).trans ((va_up_ne _ _ (by decide)).trans ((va_up_ne _ _ (by decide)).trans ((va_up_ne _ _ (by decide)).trans hCn)))) ((va_up_ne _ _ (by decide)).trans ((va_up_ne _ _ (by decide)).trans ((va_up_ne _ _ (by decide)).trans ((va_up_ne _ _ (by decide)).trans hCp)))) ((va_up_ne _ _ (by decide)).trans ((va_up_ne _ _ (by decide)).trans ((va_up_ne _ _ (by decide)).trans ((va_up_ne _ _ (by decide)).trans hEx)))) ((va_up_ne _ _ (by decide)).trans ((va_up_ne _ _ (by decide)).trans ((va_up_ne _ _ (by decide)).trans ((va_up_ne _ _ (by decide)).trans hNum)))) ((va_up_ne _ _ (by decide)).trans ((va_up_ne _ _ (by decide)).trans ((va_up_ne _ _ (by decide)).trans ((va_up_ne _ _ (by decide)).trans hPgs)))) (by omega) hpg hcc hlt9 hlo9 hr3 hrn hcp9) (cwV 2 K.1.2.2.2.2 gX7_follow_X7_followCitations rfl rfl rfl (by decide +kernel) ⟨Nat.le_of_ble_eq_true rfl, Nat.le_of_ble_eq_true rfl⟩) rfl (Nat.le_of_ble_eq_true rfl) dX7_follow_17 rfl ⟨Nat.le_of_ble_eq_true rfl, Nat.le_of_ble_eq_true rfl⟩ rfl (fun C_7 hp_17 => ?_)
  obtain ⟨w16_8, w17_9, hC_17, hcf_17, hl16_17, hl17_17⟩ := hp_17
  refine z_C hC_17 ?_
  exact z_vret K rfl dX7_follow_20 ⟨_, _, _, _, _, rfl, hvf_5, hcf_17, hl16_17, hl17_17⟩
end ZIW
