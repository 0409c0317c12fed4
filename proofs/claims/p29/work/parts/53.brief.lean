/-! p29: the law's brief -/
section ZLB
set_option maxHeartbeats 4000000 in
set_option maxRecDepth 100000 in
theorem m_L_brief (l : Launch) (g : zG) (C : Nat → va_E) (f : Int → Int) (past : Int → Int) (tx : Int → Int) (k : Int) (ty : Int) (cap : Int) (hI : IW g C f k past ty tx) (hP : PW cap f k past ty tx) : Met l yL_brief wsL_brief ({ frames := 5, cells := 0, slots := 0, locals := 112 } : Room) (zPre g C [.ref (aD g 0)]) (zQi g (fun z C' => C' = C ∧ z = 1)) 0 0 (zA g) := by
  refine z_enter RL rfl (by decide) rfl (Nat.le_of_ble_eq_true rfl) ?_
  intro p e s m args below meth c K harg
  refine z_sub (lv' := [(0, .ref (aD g 0))]) [0] rfl ?_
  obtain ⟨⟨gMa, -⟩, -, -, -, -, -⟩ := id hI
  have hw := hP.1
  have hn := hw.n
  have hbp := hw.bp
  have hnx := hw.nx
  have hcap : cap ≤ 100000 := hP.2.2.2.2.2.2.2
  refine z_aload_n 1 K dL_brief_0 rfl rfl 0 rfl ?_
  refine z_iconst 2 K dL_brief_1 rfl ?_
  refine z_vVi (As := [.int (iZ 0)]) (rest := []) 5 K 0 (by decide) gMa rfl rfl (e_cnt0 l g _ _ _ _ _ _ _ hI hP) (cwV 1 K.1.2.2.2.2 gL_brief_X8_count rfl rfl rfl (by decide +kernel) ⟨Nat.le_of_ble_eq_true rfl, Nat.le_of_ble_eq_true rfl⟩) rfl (Nat.le_of_ble_eq_true rfl) dL_brief_2 rfl ⟨Nat.le_of_ble_eq_true rfl, Nat.le_of_ble_eq_true rfl⟩ rfl (fun z_1 C_2 hp_2 => ?_)
  refine z_C hp_2.1 ?_
  refine z_top (f 1) hp_2.2 ?_
  refine z_istore_n (lv' := [(1, .int (iZ (f 1))), (0, .ref (aD g 0))]) 6 K dL_brief_5 rfl rfl (by decide) rfl ?_
  refine z_iconst 7 K dL_brief_6 rfl ?_
  refine z_istore_n (lv' := [(2, .int (iZ 0)), (1, .int (iZ (f 1))), (0, .ref (aD g 0))]) 8 K dL_brief_7 rfl rfl (by decide) rfl ?_
  refine z_iconst 9 K dL_brief_8 rfl ?_
  refine z_istore_n (lv' := [(3, .int (iZ 0)), (2, .int (iZ 0)), (1, .int (iZ (f 1))), (0, .ref (aD g 0))]) 10 K dL_brief_9 rfl rfl (by decide) rfl ?_
  have join_53_j_3 :  Z p l e (({ frames := 5, cells := 0, slots := 0, locals := 112 } : Room)) s m args below meth c (MQ below (zQi g (fun z C' => C' = C ∧ z = 1)) args s 0 0 (zA g)) g 13 0 0 (C) [(3, .int (iZ 0)), (2, .int (iZ 0)), (1, .int (iZ (f 1))), (0, .ref (aD g 0))] 53 [.int (iZ 1)] := by
    refine z_istore (lv' := [(4, .int (iZ 1)), (3, .int (iZ 0)), (2, .int (iZ 0)), (1, .int (iZ (f 1))), (0, .ref (aD g 0))]) 55 K dL_brief_53 rfl (by decide) rfl ?_
    refine z_iconst 56 K dL_brief_55 rfl ?_
    refine z_istore (lv' := [(5, .int (iZ 0)), (4, .int (iZ 1)), (3, .int (iZ 0)), (2, .int (iZ 0)), (1, .int (iZ (f 1))), (0, .ref (aD g 0))]) 58 K dL_brief_56 rfl (by decide) rfl ?_
    have loop_58 : ∀ (n9 : Nat) (s2 h3 kz : Int), (0 ≤ kz ∧ kz ≤ f 1) → (s2 = zsum (sPg f) kz) → (0 ≤ s2 ∧ s2 ≤ 1800) → (1 ≤ kz → h3 = zPg (sPg f) (f 0) (kz - 1)) → (f 1 - kz < (n9 : Int)) → Z p l e (({ frames := 5, cells := 0, slots := 0, locals := 112 } : Room)) s m args below meth c (MQ below (zQi g (fun z C' => C' = C ∧ z = 1)) args s 0 0 (zA g)) g 13 0 0 (C) [(0, .ref (aD g 0)), (1, .int (iZ (f 1))), (2, .int (iZ s2)), (3, .int (iZ h3)), (4, .int (iZ 1)), (5, .int (iZ kz))] 58 [] := by
      intro n9
      induction n9 with
      | zero =>
        intro s2 h3 kz hkz hs2 hsb hh3 hm9
        exact absurd hm9 (by omega)
      | succ n9 ih9 =>
        intro s2 h3 kz hkz hs2 hsb hh3 hm_58
        have ih_58 := ih9
        clear ih9
        refine z_iload 60 K dL_brief_58 rfl 5 rfl ?_
        refine z_iload_n 61 K dL_brief_60 rfl rfl 1 rfl ?_
        refine z_icmp_ge (tgt := 365) 64 K dL_brief_61 rfl (by decide) (by omega) (by omega) (fun c_61 => ?_) (fun c_61 => ?_)
        · skip
          have hs3 : s2 = sPgs f := by rw [hs2, show kz = f 1 by omega]; rfl
          refine z_iconst 366 K dL_brief_365 rfl ?_
          refine z_istore (lv' := [(5, .int (iZ 0)), (0, .ref (aD g 0)), (1, .int (iZ (f 1))), (2, .int (iZ s2)), (3, .int (iZ h3)), (4, .int (iZ 1))]) 368 K dL_brief_366 rfl (by decide) rfl ?_
          refine z_iconst 369 K dL_brief_368 rfl ?_
          refine z_istore (lv' := [(6, .int (iZ 0)), (5, .int (iZ 0)), (0, .ref (aD g 0)), (1, .int (iZ (f 1))), (2, .int (iZ s2)), (3, .int (iZ h3)), (4, .int (iZ 1))]) 371 K dL_brief_369 rfl (by decide) rfl ?_
          refine z_iconst 372 K dL_brief_371 rfl ?_
          refine z_istore (lv' := [(7, .int (iZ 0)), (6, .int (iZ 0)), (5, .int (iZ 0)), (0, .ref (aD g 0)), (1, .int (iZ (f 1))), (2, .int (iZ s2)), (3, .int (iZ h3)), (4, .int (iZ 1))]) 374 K dL_brief_372 rfl (by decide) rfl ?_
          refine z_iconst 375 K dL_brief_374 rfl ?_
          refine z_istore (lv' := [(8, .int (iZ 0)), (7, .int (iZ 0)), (6, .int (iZ 0)), (5, .int (iZ 0)), (0, .ref (aD g 0)), (1, .int (iZ (f 1))), (2, .int (iZ s2)), (3, .int (iZ h3)), (4, .int (iZ 1))]) 377 K dL_brief_375 rfl (by decide) rfl ?_
          have loop_377 : ∀ (n9 : Nat) (c5 l6 t7 a : Int), (0 ≤ a ∧ a ≤ 12) → (c5 = zsum (fun a => f (32 * a + 65)) a) → (l6 = zsum (fun a => sLostN f a) a) → (t7 = zsum (fun a => b2i (sStale f a)) a) → (12 - a < (n9 : Int)) → Z p l e (({ frames := 5, cells := 0, slots := 0, locals := 112 } : Room)) s m args below meth c (MQ below (zQi g (fun z C' => C' = C ∧ z = 1)) args s 0 0 (zA g)) g 13 0 0 (C) [(0, .ref (aD g 0)), (1, .int (iZ (f 1))), (2, .int (iZ s2)), (4, .int (iZ 1)), (5, .int (iZ c5)), (6, .int (iZ l6)), (7, .int (iZ t7)), (8, .int (iZ a))] 377 [] := by
            intro n9
            induction n9 with
            | zero =>
              intro c5 l6 t7 a ha hc5 hl6 ht7 hm9
              exact absurd hm9 (by omega)
            | succ n9 ih9 =>
              intro c5 l6 t7 a ha hc5 hl6 ht7 hm_377
              have ih_377 := ih9
              clear ih9
              refine z_iload 379 K dL_brief_377 rfl 7 rfl ?_
              refine z_bipush 381 K dL_brief_379 rfl rfl ?_
              refine z_icmp_ge (tgt := 643) 384 K dL_brief_381 rfl (by decide) (by omega) (by decide) (fun c_381 => ?_) (fun c_381 => ?_)
              · skip
                refine z_iload 645 K dL_brief_643 rfl 3 rfl ?_
                refine z_if_eq (tgt := 745) 648 K dL_brief_645 rfl (by decide) (by decide) (fun c_645 => ?_) (fun c_645 => ?_)
                · exact absurd c_645 (by decide)
                have hr1 : 0 ≤ sPgs f ∧ sPgs f ≤ 1800 := sSm_rng hw hn.1 (Int.le_refl _)
                have e3 : c5 = sCts f := by rw [hc5, show a = 12 by omega]; rfl
                have e4 : l6 = sAllLost f := by rw [hl6, show a = 12 by omega]; rfl
                have e5 : t7 = sStaleN f := by rw [ht7, show a = 12 by omega]; rfl
                have hr2 : 0 ≤ sCts f ∧ sCts f ≤ 72 := (sSums_rng (a := 12) hw (by omega) (by omega)).1
                have hr3 := sAllLost_rng hw.wr
                have hr4 := sStaleN_rng f
                have hbd := sBds_end f
                have hbr := sBds_rng hw.wr
                have hur := sUnc_rng hw.wr
                have hsh := shC_lg (share_shC hw)
                have hsr2 := sh_rng (sShare f)
                refine z_iload_n 649 K dL_brief_648 rfl rfl 2 rfl ?_
                refine z_aload_n 650 K dL_brief_649 rfl rfl 0 rfl ?_
                refine z_iconst 651 K dL_brief_650 rfl ?_
                refine z_vVi (As := [.int (iZ 1)]) (rest := [.int (iZ s2)]) 654 K 0 (by decide) gMa rfl rfl (e_cnt1 l g _ _ _ _ _ _ _ hI hP) (cwV 1 K.1.2.2.2.2 gL_brief_X8_count rfl rfl rfl (by decide +kernel) ⟨Nat.le_of_ble_eq_true rfl, Nat.le_of_ble_eq_true rfl⟩) rfl (Nat.le_of_ble_eq_true rfl) dL_brief_651 rfl ⟨Nat.le_of_ble_eq_true rfl, Nat.le_of_ble_eq_true rfl⟩ rfl (fun z_4 C_5 hp_651 => ?_)
                refine z_C hp_651.1 ?_
                refine z_top (sPgs f) hp_651.2 ?_
                refine z_icmp_ne (tgt := 745) 657 K dL_brief_654 rfl (by decide) (by omega) (by omega) (fun c_654 => ?_) (fun c_654 => ?_)
                · exact absurd c_654 (by omega)
                · skip
                  refine z_iload 659 K dL_brief_657 rfl 4 rfl ?_
                  refine z_aload_n 660 K dL_brief_659 rfl rfl 0 rfl ?_
                  refine z_iconst 661 K dL_brief_660 rfl ?_
                  refine z_vVi (As := [.int (iZ 3)]) (rest := [.int (iZ c5)]) 664 K 0 (by decide) gMa rfl rfl (e_cnt3 l g _ _ _ _ _ _ _ hI hP) (cwV 1 K.1.2.2.2.2 gL_brief_X8_count rfl rfl rfl (by decide +kernel) ⟨Nat.le_of_ble_eq_true rfl, Nat.le_of_ble_eq_true rfl⟩) rfl (Nat.le_of_ble_eq_true rfl) dL_brief_661 rfl ⟨Nat.le_of_ble_eq_true rfl, Nat.le_of_ble_eq_true rfl⟩ rfl (fun z_6 C_7 hp_661 => ?_)
                  refine z_C hp_661.1 ?_
                  refine z_top (sCts f) hp_661.2 ?_
                  refine z_icmp_ne (tgt := 745) 667 K dL_brief_664 rfl (by decide) (by omega) (by omega) (fun c_664 => ?_) (fun c_664 => ?_)
                  · exact absurd c_664 (by omega)
                  · skip
                    refine z_iload 669 K dL_brief_667 rfl 5 rfl ?_
                    refine z_aload_n 670 K dL_brief_669 rfl rfl 0 rfl ?_
                    refine z_iconst 671 K dL_brief_670 rfl ?_
                    refine z_vVi (As := [.int (iZ 4)]) (rest := [.int (iZ l6)]) 674 K 0 (by decide) gMa rfl rfl (e_cnt4 l g _ _ _ _ _ _ _ hI hP) (cwV 1 K.1.2.2.2.2 gL_brief_X8_count rfl rfl rfl (by decide +kernel) ⟨Nat.le_of_ble_eq_true rfl, Nat.le_of_ble_eq_true rfl⟩) rfl (Nat.le_of_ble_eq_true rfl) dL_brief_671 rfl ⟨Nat.le_of_ble_eq_true rfl, Nat.le_of_ble_eq_true rfl⟩ rfl (fun z_8 C_9 hp_671 => ?_)
                    refine z_C hp_671.1 ?_
                    refine z_top (sAllLost f) hp_671.2 ?_
                    refine z_icmp_ne (tgt := 745) 677 K dL_brief_674 rfl (by decide) (by omega) (by omega) (fun c_674 => ?_) (fun c_674 => ?_)
                    · exact absurd c_674 (by omega)
                    · skip
                      refine z_iload 679 K dL_brief_677 rfl 6 rfl ?_
                      refine z_aload_n 680 K dL_brief_679 rfl rfl 0 rfl ?_
                      refine z_iconst 681 K dL_brief_680 rfl ?_
                      refine z_vVi (As := [.int (iZ 5)]) (rest := [.int (iZ t7)]) 684 K 0 (by decide) gMa rfl rfl (e_cnt5 l g _ _ _ _ _ _ _ hI hP) (cwV 1 K.1.2.2.2.2 gL_brief_X8_count rfl rfl rfl (by decide +kernel) ⟨Nat.le_of_ble_eq_true rfl, Nat.le_of_ble_eq_true rfl⟩) rfl (Nat.le_of_ble_eq_true rfl) dL_brief_681 rfl ⟨Nat.le_of_ble_eq_true rfl, Nat.le_of_ble_eq_true rfl⟩ rfl (fun z_10 C_11 hp_681 => ?_)
                      refine z_C hp_681.1 ?_
                      refine z_top (sStaleN f) hp_681.2 ?_
                      refine z_icmp_ne (tgt := 745) 687 K dL_brief_684 rfl (by decide) (by omega) (by omega) (fun c_684 => ?_) (fun c_684 => ?_)
                      · exact absurd c_684 (by omega)
                      · skip
                        refine z_aload_n 688 K dL_brief_687 rfl rfl 0 rfl ?_
                        refine z_iconst 689 K dL_brief_688 rfl ?_
                        refine z_vVi (As := [.int (iZ 2)]) (rest := []) 692 K 0 (by decide) gMa rfl rfl (e_cnt2 l g _ _ _ _ _ _ _ hI hP) (cwV 1 K.1.2.2.2.2 gL_brief_X8_count rfl rfl rfl (by decide +kernel) ⟨Nat.le_of_ble_eq_true rfl, Nat.le_of_ble_eq_true rfl⟩) rfl (Nat.le_of_ble_eq_true rfl) dL_brief_689 rfl ⟨Nat.le_of_ble_eq_true rfl, Nat.le_of_ble_eq_true rfl⟩ rfl (fun z_12 C_13 hp_689 => ?_)
                        refine z_C hp_689.1 ?_
                        refine z_top (sBds f) hp_689.2 ?_
                        refine z_iload_n 693 K dL_brief_692 rfl rfl 1 rfl ?_
                        refine z_if_ne (tgt := 700) 696 K dL_brief_693 rfl (by decide) (by omega) (fun c_693 => ?_) (fun c_693 => ?_)
                        · skip
                          have hb1 := hbd.2 (by omega)
                          have hz1 := lie_rng hw (k := f 1 - 1) (by omega) (by omega)
                          refine z_aload_n 701 K dL_brief_700 rfl rfl 0 rfl ?_
                          refine z_iload_n 702 K dL_brief_701 rfl rfl 1 rfl ?_
                          refine z_iconst 703 K dL_brief_702 rfl ?_
                          refine z_isub 704 K dL_brief_703 rfl ?_
                          refine z_iconst 705 K dL_brief_704 rfl ?_
                          refine z_vVi (As := [.int (iZ (f 1 - 1)), .int (iZ 2)]) (rest := [.int (iZ (sBds f))]) 708 K 0 (by decide) gMa rfl rfl (e_exh2 l g _ (f 1 - 1) _ _ _ _ _ _ hI hP (by omega)) (cwV 2 K.1.2.2.2.2 gL_brief_X8_exhibit rfl rfl rfl (by decide +kernel) ⟨Nat.le_of_ble_eq_true rfl, Nat.le_of_ble_eq_true rfl⟩) rfl (Nat.le_of_ble_eq_true rfl) dL_brief_705 rfl ⟨Nat.le_of_ble_eq_true rfl, Nat.le_of_ble_eq_true rfl⟩ rfl (fun z_14 C_15 hp_705 => ?_)
                          refine z_C hp_705.1 ?_
                          refine z_top (zBn (sPg f) (f 0) (f 1 - 1)) hp_705.2 ?_
                          refine z_iconst 709 K dL_brief_708 rfl ?_
                          refine z_iadd 710 K dL_brief_709 rfl ?_
                          refine z_icmp_ne (tgt := 745) 713 K dL_brief_710 rfl (by decide) (by omega) (by omega) (fun c_710 => ?_) (fun c_710 => ?_)
                          · exact absurd c_710 (by omega)
                          · skip
                            refine z_aload_n 714 K dL_brief_713 rfl rfl 0 rfl ?_
                            refine z_bipush 716 K dL_brief_714 rfl rfl ?_
                            refine z_vVi (As := [.int (iZ 6)]) (rest := []) 719 K 0 (by decide) gMa rfl rfl (e_cnt6 l g _ _ _ _ _ _ _ hI hP) (cwV 1 K.1.2.2.2.2 gL_brief_X8_count rfl rfl rfl (by decide +kernel) ⟨Nat.le_of_ble_eq_true rfl, Nat.le_of_ble_eq_true rfl⟩) rfl (Nat.le_of_ble_eq_true rfl) dL_brief_716 rfl ⟨Nat.le_of_ble_eq_true rfl, Nat.le_of_ble_eq_true rfl⟩ rfl (fun z_16 C_17 hp_716 => ?_)
                            refine z_C hp_716.1 ?_
                            refine z_top (sUnc f) hp_716.2 ?_
                            refine z_iload_n 720 K dL_brief_719 rfl rfl 1 rfl ?_
                            refine z_icmp_gt (tgt := 745) 723 K dL_brief_720 rfl (by decide) (by omega) (by omega) (fun c_720 => ?_) (fun c_720 => ?_)
                            · exact absurd c_720 (by omega)
                            · skip
                              refine z_aload_n 724 K dL_brief_723 rfl rfl 0 rfl ?_
                              refine z_vVd (As := []) (rest := []) 727 K 0 (by decide) gMa rfl rfl (e_shr l g _ _ _ _ _ _ _ hI hP) (cwV 0 K.1.2.2.2.2 gL_brief_X8_citedShare rfl rfl rfl (by decide +kernel) ⟨Nat.le_of_ble_eq_true rfl, Nat.le_of_ble_eq_true rfl⟩) rfl (Nat.le_of_ble_eq_true rfl) dL_brief_724 rfl ⟨Nat.le_of_ble_eq_true rfl, Nat.le_of_ble_eq_true rfl⟩ rfl (fun z_18 C_19 hp_724 => ?_)
                              refine z_C hp_724.1 ?_
                              refine z_topD (sShare f) hp_724.2 ?_
                              refine z_dconst0 728 K dL_brief_727 rfl ?_
                              refine z_dcmp 729 K dL_brief_728 rfl (shl0 (sShare f)) (iZ_of _) ?_
                              refine z_if_lt (tgt := 745) 732 K dL_brief_729 rfl (by decide) (by omega) (fun c_729 => ?_) (fun c_729 => ?_)
                              · exact absurd c_729 (by omega)
                              · skip
                                refine z_aload_n 733 K dL_brief_732 rfl rfl 0 rfl ?_
                                refine z_vVd (As := []) (rest := []) 736 K 0 (by decide) gMa rfl rfl (e_shr l g _ _ _ _ _ _ _ hI hP) (cwV 0 K.1.2.2.2.2 gL_brief_X8_citedShare rfl rfl rfl (by decide +kernel) ⟨Nat.le_of_ble_eq_true rfl, Nat.le_of_ble_eq_true rfl⟩) rfl (Nat.le_of_ble_eq_true rfl) dL_brief_733 rfl ⟨Nat.le_of_ble_eq_true rfl, Nat.le_of_ble_eq_true rfl⟩ rfl (fun z_20 C_21 hp_733 => ?_)
                                refine z_C hp_733.1 ?_
                                refine z_topD (sShare f) hp_733.2 ?_
                                refine z_dconst1 737 K dL_brief_736 rfl ?_
                                refine z_dcmp 738 K dL_brief_737 rfl (shg1 (sShare f)) (iZ_of _) ?_
                                refine z_if_gt (tgt := 745) 741 K dL_brief_738 rfl (by decide) (by omega) (fun c_738 => ?_) (fun c_738 => ?_)
                                · exact absurd c_738 (by omega)
                                · skip
                                  refine z_iconst 742 K dL_brief_741 rfl ?_
                                  refine z_goto (tgt := 746) K dL_brief_742 (by decide) ?_
                                  exact z_zret K rfl (by decide) dL_brief_746 ⟨rfl, rfl⟩
                        · skip
                          have hb1 := hbd.1 (by omega)
                          refine z_iconst 697 K dL_brief_696 rfl ?_
                          refine z_goto (tgt := 710) K dL_brief_697 (by decide) ?_
                          refine z_icmp_ne (tgt := 745) 713 K dL_brief_710 rfl (by decide) (by omega) (by decide) (fun c_710 => ?_) (fun c_710 => ?_)
                          · exact absurd c_710 (by omega)
                          · skip
                            refine z_aload_n 714 K dL_brief_713 rfl rfl 0 rfl ?_
                            refine z_bipush 716 K dL_brief_714 rfl rfl ?_
                            refine z_vVi (As := [.int (iZ 6)]) (rest := []) 719 K 0 (by decide) gMa rfl rfl (e_cnt6 l g _ _ _ _ _ _ _ hI hP) (cwV 1 K.1.2.2.2.2 gL_brief_X8_count rfl rfl rfl (by decide +kernel) ⟨Nat.le_of_ble_eq_true rfl, Nat.le_of_ble_eq_true rfl⟩) rfl (Nat.le_of_ble_eq_true rfl) dL_brief_716 rfl ⟨Nat.le_of_ble_eq_true rfl, Nat.le_of_ble_eq_true rfl⟩ rfl (fun z_22 C_23 hp_716 => ?_)
                            refine z_C hp_716.1 ?_
                            refine z_top (sUnc f) hp_716.2 ?_
                            refine z_iload_n 720 K dL_brief_719 rfl rfl 1 rfl ?_
                            refine z_icmp_gt (tgt := 745) 723 K dL_brief_720 rfl (by decide) (by omega) (by omega) (fun c_720 => ?_) (fun c_720 => ?_)
                            · exact absurd c_720 (by omega)
                            · skip
                              refine z_aload_n 724 K dL_brief_723 rfl rfl 0 rfl ?_
                              refine z_vVd (As := []) (rest := []) 727 K 0 (by decide) gMa rfl rfl (e_shr l g _ _ _ _ _ _ _ hI hP) (cwV 0 K.1.2.2.2.2 gL_brief_X8_citedShare rfl rfl rfl (by decide +kernel) ⟨Nat.le_of_ble_eq_true rfl, Nat.le_of_ble_eq_true rfl⟩) rfl (Nat.le_of_ble_eq_true rfl) dL_brief_724 rfl ⟨Nat.le_of_ble_eq_true rfl, Nat.le_of_ble_eq_true rfl⟩ rfl (fun z_24 C_25 hp_724 => ?_)
                              refine z_C hp_724.1 ?_
                              refine z_topD (sShare f) hp_724.2 ?_
                              refine z_dconst0 728 K dL_brief_727 rfl ?_
                              refine z_dcmp 729 K dL_brief_728 rfl (shl0 (sShare f)) (iZ_of _) ?_
                              refine z_if_lt (tgt := 745) 732 K dL_brief_729 rfl (by decide) (by omega) (fun c_729 => ?_) (fun c_729 => ?_)
                              · exact absurd c_729 (by omega)
                              · skip
                                refine z_aload_n 733 K dL_brief_732 rfl rfl 0 rfl ?_
                                refine z_vVd (As := []) (rest := []) 736 K 0 (by decide) gMa rfl rfl (e_shr l g _ _ _ _ _ _ _ hI hP) (cwV 0 K.1.2.2.2.2 gL_brief_X8_citedShare rfl rfl rfl (by decide +kernel) ⟨Nat.le_of_ble_eq_true rfl, Nat.le_of_ble_eq_true rfl⟩) rfl (Nat.le_of_ble_eq_true rfl) dL_brief_733 rfl ⟨Nat.le_of_ble_eq_true rfl, Nat.le_of_ble_eq_true rfl⟩ rfl (fun z_26 C_27 hp_733 => ?_)
                                refine z_C hp_733.1 ?_
                                refine z_topD (sShare f) hp_733.2 ?_
                                refine z_dconst1 737 K dL_brief_736 rfl ?_
                                refine z_dcmp 738 K dL_brief_737 rfl (shg1 (sShare f)) (iZ_of _) ?_
                                refine z_if_gt (tgt := 745) 741 K dL_brief_738 rfl (by decide) (by omega) (fun c_738 => ?_) (fun c_738 => ?_)
                                · exact absurd c_738 (by omega)
                                · skip
                                  refine z_iconst 742 K dL_brief_741 rfl ?_
                                  refine z_goto (tgt := 746) K dL_brief_742 (by decide) ?_
                                  exact z_zret K rfl (by decide) dL_brief_746 ⟨rfl, rfl⟩
              · skip
                refine z_iload 386 K dL_brief_384 rfl 3 rfl ?_
                refine z_if_eq (tgt := 643) 389 K dL_brief_386 rfl (by decide) (by decide) (fun c_386 => ?_) (fun c_386 => ?_)
                · exact absurd c_386 (by decide)
                have hpa := hw.pa a ha.1 (by omega)
                have hln := sLostN_le hw ha.1 (show a < 12 by omega)
                have hst := sStale_new hw ha.1 (show a < 12 by omega)
                have hsr := sSums_rng hw ha.1 ha.2
                refine z_aload_n 390 K dL_brief_389 rfl rfl 0 rfl ?_
                refine z_iload 392 K dL_brief_390 rfl 7 rfl ?_
                refine z_iconst 393 K dL_brief_392 rfl ?_
                refine z_vVi (As := [.int (iZ a), .int (iZ 0)]) (rest := []) 396 K 0 (by decide) gMa rfl rfl (e_par0 l g _ a _ _ _ _ _ _ hI hP (by omega)) (cwV 2 K.1.2.2.2.2 gL_brief_X8_paragraph rfl rfl rfl (by decide +kernel) ⟨Nat.le_of_ble_eq_true rfl, Nat.le_of_ble_eq_true rfl⟩) rfl (Nat.le_of_ble_eq_true rfl) dL_brief_393 rfl ⟨Nat.le_of_ble_eq_true rfl, Nat.le_of_ble_eq_true rfl⟩ rfl (fun z_28 C_29 hp_393 => ?_)
                refine z_C hp_393.1 ?_
                refine z_top (f (32 * a + 65)) hp_393.2 ?_
                refine z_istore (lv' := [(9, .int (iZ (f (32 * a + 65)))), (0, .ref (aD g 0)), (1, .int (iZ (f 1))), (2, .int (iZ s2)), (4, .int (iZ 1)), (5, .int (iZ c5)), (6, .int (iZ l6)), (7, .int (iZ t7)), (8, .int (iZ a))]) 398 K dL_brief_396 rfl (by decide) rfl ?_
                refine z_iload 400 K dL_brief_398 rfl 5 rfl ?_
                refine z_iload 402 K dL_brief_400 rfl 0 rfl ?_
                refine z_iadd 403 K dL_brief_402 rfl ?_
                refine z_top (c5 + f (32 * a + 65)) (by omega) ?_
                refine z_istore (lv' := [(5, .int (iZ (c5 + f (32 * a + 65)))), (9, .int (iZ (f (32 * a + 65)))), (0, .ref (aD g 0)), (1, .int (iZ (f 1))), (2, .int (iZ s2)), (4, .int (iZ 1)), (6, .int (iZ l6)), (7, .int (iZ t7)), (8, .int (iZ a))]) 405 K dL_brief_403 rfl (by decide) rfl ?_
                refine z_iload 407 K dL_brief_405 rfl 6 rfl ?_
                refine z_aload_n 408 K dL_brief_407 rfl rfl 2 rfl ?_
                refine z_iload 410 K dL_brief_408 rfl 8 rfl ?_
                refine z_iconst 411 K dL_brief_410 rfl ?_
                refine z_vVi (As := [.int (iZ a), .int (iZ 1)]) (rest := [.int (iZ l6)]) 414 K 0 (by decide) gMa rfl rfl (e_par1 l g _ a _ _ _ _ _ _ hI hP (by omega)) (cwV 2 K.1.2.2.2.2 gL_brief_X8_paragraph rfl rfl rfl (by decide +kernel) ⟨Nat.le_of_ble_eq_true rfl, Nat.le_of_ble_eq_true rfl⟩) rfl (Nat.le_of_ble_eq_true rfl) dL_brief_411 rfl ⟨Nat.le_of_ble_eq_true rfl, Nat.le_of_ble_eq_true rfl⟩ rfl (fun z_30 C_31 hp_411 => ?_)
                refine z_C hp_411.1 ?_
                refine z_top (sLostN f a) hp_411.2 ?_
                refine z_iadd 415 K dL_brief_414 rfl ?_
                refine z_top (l6 + sLostN f a) (by omega) ?_
                refine z_istore (lv' := [(6, .int (iZ (l6 + sLostN f a))), (5, .int (iZ (c5 + f (32 * a + 65)))), (9, .int (iZ (f (32 * a + 65)))), (0, .ref (aD g 0)), (1, .int (iZ (f 1))), (2, .int (iZ s2)), (4, .int (iZ 1)), (7, .int (iZ t7)), (8, .int (iZ a))]) 417 K dL_brief_415 rfl (by decide) rfl ?_
                refine z_iload 419 K dL_brief_417 rfl 7 rfl ?_
                refine z_aload_n 420 K dL_brief_419 rfl rfl 3 rfl ?_
                refine z_iload 422 K dL_brief_420 rfl 8 rfl ?_
                refine z_iconst 423 K dL_brief_422 rfl ?_
                refine z_vVi (As := [.int (iZ a), .int (iZ 2)]) (rest := [.int (iZ t7)]) 426 K 0 (by decide) gMa rfl rfl (e_par2 l g _ a _ _ _ _ _ _ hI hP (by omega)) (cwV 2 K.1.2.2.2.2 gL_brief_X8_paragraph rfl rfl rfl (by decide +kernel) ⟨Nat.le_of_ble_eq_true rfl, Nat.le_of_ble_eq_true rfl⟩) rfl (Nat.le_of_ble_eq_true rfl) dL_brief_423 rfl ⟨Nat.le_of_ble_eq_true rfl, Nat.le_of_ble_eq_true rfl⟩ rfl (fun z_32 C_33 hp_423 => ?_)
                refine z_C hp_423.1 ?_
                refine z_top (b2i (sStale f a)) hp_423.2 ?_
                refine z_iadd 427 K dL_brief_426 rfl ?_
                refine z_top (b2i (sStale f a) + t7) (by omega) ?_
                refine z_istore (lv' := [(7, .int (iZ (b2i (sStale f a) + t7))), (6, .int (iZ (l6 + sLostN f a))), (5, .int (iZ (c5 + f (32 * a + 65)))), (9, .int (iZ (f (32 * a + 65)))), (0, .ref (aD g 0)), (1, .int (iZ (f 1))), (2, .int (iZ s2)), (4, .int (iZ 1)), (8, .int (iZ a))]) 429 K dL_brief_427 rfl (by decide) rfl ?_
                refine z_iload 431 K dL_brief_429 rfl 3 rfl ?_
                refine z_bipush 433 K dL_brief_431 rfl rfl ?_
                refine z_icmp_gt (tgt := 473) 436 K dL_brief_433 rfl (by decide) (by omega) (by decide) (fun c_433 => ?_) (fun c_433 => ?_)
                · exact absurd c_433 (by omega)
                · skip
                  refine z_aload_n 437 K dL_brief_436 rfl rfl 4 rfl ?_
                  refine z_iload 439 K dL_brief_437 rfl 8 rfl ?_
                  refine z_iconst 440 K dL_brief_439 rfl ?_
                  refine z_vVi (As := [.int (iZ a), .int (iZ 1)]) (rest := []) 443 K 0 (by decide) gMa rfl rfl (e_par1 l g _ a _ _ _ _ _ _ hI hP (by omega)) (cwV 2 K.1.2.2.2.2 gL_brief_X8_paragraph rfl rfl rfl (by decide +kernel) ⟨Nat.le_of_ble_eq_true rfl, Nat.le_of_ble_eq_true rfl⟩) rfl (Nat.le_of_ble_eq_true rfl) dL_brief_440 rfl ⟨Nat.le_of_ble_eq_true rfl, Nat.le_of_ble_eq_true rfl⟩ rfl (fun z_34 C_35 hp_440 => ?_)
                  refine z_C hp_440.1 ?_
                  refine z_top (sLostN f a) hp_440.2 ?_
                  refine z_iload 445 K dL_brief_443 rfl 3 rfl ?_
                  refine z_icmp_gt (tgt := 473) 448 K dL_brief_445 rfl (by decide) (by omega) (by omega) (fun c_445 => ?_) (fun c_445 => ?_)
                  · exact absurd c_445 (by omega)
                  · skip
                    have join_474_j_36 :  Z p l e (({ frames := 5, cells := 0, slots := 0, locals := 112 } : Room)) s m args below meth c (MQ below (zQi g (fun z C' => C' = C ∧ z = 1)) args s 0 0 (zA g)) g 13 0 0 (C) [(7, .int (iZ (b2i (sStale f a) + t7))), (6, .int (iZ (l6 + sLostN f a))), (5, .int (iZ (c5 + f (32 * a + 65)))), (9, .int (iZ (f (32 * a + 65)))), (0, .ref (aD g 0)), (1, .int (iZ (f 1))), (2, .int (iZ s2)), (4, .int (iZ 1)), (8, .int (iZ a))] 474 [.int (iZ 1)] := by
                      refine z_istore (lv' := [(4, .int (iZ 1)), (7, .int (iZ (b2i (sStale f a) + t7))), (6, .int (iZ (l6 + sLostN f a))), (5, .int (iZ (c5 + f (32 * a + 65)))), (9, .int (iZ (f (32 * a + 65)))), (0, .ref (aD g 0)), (1, .int (iZ (f 1))), (2, .int (iZ s2)), (8, .int (iZ a))]) 476 K dL_brief_474 rfl (by decide) rfl ?_
                      refine z_iconst 477 K dL_brief_476 rfl ?_
                      refine z_istore (lv' := [(10, .int (iZ 0)), (4, .int (iZ 1)), (7, .int (iZ (b2i (sStale f a) + t7))), (6, .int (iZ (l6 + sLostN f a))), (5, .int (iZ (c5 + f (32 * a + 65)))), (9, .int (iZ (f (32 * a + 65)))), (0, .ref (aD g 0)), (1, .int (iZ (f 1))), (2, .int (iZ s2)), (8, .int (iZ a))]) 479 K dL_brief_477 rfl (by decide) rfl ?_
                      have loop_479 : ∀ (n9 : Nat) (b9 : Int), (0 ≤ b9 ∧ b9 ≤ f (32 * a + 65)) → (f (32 * a + 65) - b9 < (n9 : Int)) → Z p l e (({ frames := 5, cells := 0, slots := 0, locals := 112 } : Room)) s m args below meth c (MQ below (zQi g (fun z C' => C' = C ∧ z = 1)) args s 0 0 (zA g)) g 13 0 0 (C) [(0, .ref (aD g 0)), (1, .int (iZ (f 1))), (2, .int (iZ s2)), (4, .int (iZ 1)), (5, .int (iZ (c5 + f (32 * a + 65)))), (6, .int (iZ (l6 + sLostN f a))), (7, .int (iZ (b2i (sStale f a) + t7))), (8, .int (iZ a)), (9, .int (iZ (f (32 * a + 65)))), (10, .int (iZ b9))] 479 [] := by
                        intro n9
                        induction n9 with
                        | zero =>
                          intro b9 hb9 hm9
                          exact absurd hm9 (by omega)
                        | succ n9 ih9 =>
                          intro b9 hb9 hm_479
                          have ih_479 := ih9
                          clear ih9
                          refine z_iload 481 K dL_brief_479 rfl 9 rfl ?_
                          refine z_iload 483 K dL_brief_481 rfl 8 rfl ?_
                          refine z_icmp_ge (tgt := 637) 486 K dL_brief_483 rfl (by decide) (by omega) (by omega) (fun c_483 => ?_) (fun c_483 => ?_)
                          · skip
                            refine z_iinc (lv' := [(8, .int (iZ (a + 1))), (0, .ref (aD g 0)), (1, .int (iZ (f 1))), (2, .int (iZ s2)), (4, .int (iZ 1)), (5, .int (iZ (c5 + f (32 * a + 65)))), (6, .int (iZ (l6 + sLostN f a))), (7, .int (iZ (b2i (sStale f a) + t7))), (9, .int (iZ (f (32 * a + 65)))), (10, .int (iZ b9))]) 640 K dL_brief_637 rfl (a + 1) rfl 7 rfl (by decide) rfl ?_
                            refine z_goto (tgt := 377) K dL_brief_640 (by decide) ?_
                            refine z_sub [1, 2, 3, 4, 5, 6, 7, 0] rfl ?_
                            exact ih_377 (c5 + f (32 * a + 65)) (l6 + sLostN f a) (b2i (sStale f a) + t7) (a + 1) (by omega) (by have q := zsum_1' (fun a => f (32 * a + 65)) ha.1 (rfl : _ = f (32 * a + 65)); omega) (by have q := zsum_1' (fun a => sLostN f a) ha.1 (rfl : _ = sLostN f a); omega) (by have q := zsum_1' (fun a => b2i (sStale f a)) ha.1 (rfl : _ = b2i (sStale f a)); omega) (by omega)
                          · skip
                            refine z_iload 488 K dL_brief_486 rfl 3 rfl ?_
                            refine z_if_eq (tgt := 637) 491 K dL_brief_488 rfl (by decide) (by decide) (fun c_488 => ?_) (fun c_488 => ?_)
                            · exact absurd c_488 (by decide)
                            have hcc := cite_cases hw ha.1 (show a < 12 by omega) hb9.1 (show b9 < f (32 * a + 65) by omega)
                            have hci := hw.ci a b9 ha.1 (by omega) hb9.1 (by omega)
                            have hlr := sLet_rng hw.wr a b9
                            rcases hcc with hcc | hcc | hcc
                            · skip
                              refine z_aload_n 492 K dL_brief_491 rfl rfl 0 rfl ?_
                              refine z_iload 494 K dL_brief_492 rfl 7 rfl ?_
                              refine z_iload 496 K dL_brief_494 rfl 9 rfl ?_
                              refine z_iconst 497 K dL_brief_496 rfl ?_
                              refine z_vVi (As := [.int (iZ a), .int (iZ b9), .int (iZ 1)]) (rest := []) 500 K 0 (by decide) gMa rfl rfl (e_cit1 l g _ a b9 _ _ _ _ _ _ hI hP (by omega) (by omega)) (cwV 3 K.1.2.2.2.2 gL_brief_X8_citation rfl rfl rfl (by decide +kernel) ⟨Nat.le_of_ble_eq_true rfl, Nat.le_of_ble_eq_true rfl⟩) rfl (Nat.le_of_ble_eq_true rfl) dL_brief_497 rfl ⟨Nat.le_of_ble_eq_true rfl, Nat.le_of_ble_eq_true rfl⟩ rfl (fun z_37 C_38 hp_497 => ?_)
                              refine z_C hp_497.1 ?_
                              refine z_top (sLet f a b9) hp_497.2 ?_
                              refine z_istore (lv' := [(11, .int (iZ (sLet f a b9))), (0, .ref (aD g 0)), (1, .int (iZ (f 1))), (2, .int (iZ s2)), (4, .int (iZ 1)), (5, .int (iZ (c5 + f (32 * a + 65)))), (6, .int (iZ (l6 + sLostN f a))), (7, .int (iZ (b2i (sStale f a) + t7))), (8, .int (iZ a)), (9, .int (iZ (f (32 * a + 65)))), (10, .int (iZ b9))]) 502 K dL_brief_500 rfl (by decide) rfl ?_
                              refine z_iload 504 K dL_brief_502 rfl 0 rfl ?_
                              refine z_iconst 505 K dL_brief_504 rfl ?_
                              refine z_icmp_eq (tgt := 527) 508 K dL_brief_505 rfl (by decide) (by omega) (by decide) (fun c_505 => ?_) (fun c_505 => ?_)
                              · skip
                                refine z_iconst 528 K dL_brief_527 rfl ?_
                                refine z_goto (tgt := 532) K dL_brief_528 (by decide) ?_
                                refine z_istore (lv' := [(12, .int (iZ 1)), (11, .int (iZ (sLet f a b9))), (0, .ref (aD g 0)), (1, .int (iZ (f 1))), (2, .int (iZ s2)), (4, .int (iZ 1)), (5, .int (iZ (c5 + f (32 * a + 65)))), (6, .int (iZ (l6 + sLostN f a))), (7, .int (iZ (b2i (sStale f a) + t7))), (8, .int (iZ a)), (9, .int (iZ (f (32 * a + 65)))), (10, .int (iZ b9))]) 534 K dL_brief_532 rfl (by decide) rfl ?_
                                refine z_iload 536 K dL_brief_534 rfl 1 rfl ?_
                                refine z_iconst 537 K dL_brief_536 rfl ?_
                                refine z_icmp_eq (tgt := 559) 540 K dL_brief_537 rfl (by decide) (by omega) (by decide) (fun c_537 => ?_) (fun c_537 => ?_)
                                · skip
                                  refine z_aload_n 560 K dL_brief_559 rfl rfl 2 rfl ?_
                                  refine z_iload 562 K dL_brief_560 rfl 9 rfl ?_
                                  refine z_iload 564 K dL_brief_562 rfl 11 rfl ?_
                                  refine z_iconst 565 K dL_brief_564 rfl ?_
                                  refine z_vVi (As := [.int (iZ a), .int (iZ b9), .int (iZ 3)]) (rest := []) 568 K 0 (by decide) gMa rfl rfl (e_cit3 l g _ a b9 _ _ _ _ _ _ hI hP (by omega) (by omega)) (cwV 3 K.1.2.2.2.2 gL_brief_X8_citation rfl rfl rfl (by decide +kernel) ⟨Nat.le_of_ble_eq_true rfl, Nat.le_of_ble_eq_true rfl⟩) rfl (Nat.le_of_ble_eq_true rfl) dL_brief_565 rfl ⟨Nat.le_of_ble_eq_true rfl, Nat.le_of_ble_eq_true rfl⟩ rfl (fun z_39 C_40 hp_565 => ?_)
                                  refine z_C hp_565.1 ?_
                                  refine z_top (b2i (sLost f a b9)) hp_565.2 ?_
                                  refine z_iload 570 K dL_brief_568 rfl 0 rfl ?_
                                  refine z_if_eq (tgt := 577) 573 K dL_brief_570 rfl (by decide) (by decide) (fun c_570 => ?_) (fun c_570 => ?_)
                                  · exact absurd c_570 (by decide)
                                  refine z_iconst 574 K dL_brief_573 rfl ?_
                                  refine z_goto (tgt := 578) K dL_brief_574 (by decide) ?_
                                  refine z_icmp_ne (tgt := 628) 581 K dL_brief_578 rfl (by decide) (b2i_ir _) (by decide) (fun c_578 => ?_) (fun c_578 => ?_)
                                  · exact absurd c_578 (by omega)
                                  · skip
                                    refine z_aload_n 582 K dL_brief_581 rfl rfl 2 rfl ?_
                                    refine z_iload 584 K dL_brief_582 rfl 9 rfl ?_
                                    refine z_iload 586 K dL_brief_584 rfl 11 rfl ?_
                                    refine z_iconst 587 K dL_brief_586 rfl ?_
                                    refine z_vVi (As := [.int (iZ a), .int (iZ b9), .int (iZ 4)]) (rest := []) 590 K 0 (by decide) gMa rfl rfl (e_cit4 l g _ a b9 _ _ _ _ _ _ hI hP (by omega) (by omega)) (cwV 3 K.1.2.2.2.2 gL_brief_X8_citation rfl rfl rfl (by decide +kernel) ⟨Nat.le_of_ble_eq_true rfl, Nat.le_of_ble_eq_true rfl⟩) rfl (Nat.le_of_ble_eq_true rfl) dL_brief_587 rfl ⟨Nat.le_of_ble_eq_true rfl, Nat.le_of_ble_eq_true rfl⟩ rfl (fun z_41 C_42 hp_587 => ?_)
                                    refine z_C hp_587.1 ?_
                                    refine z_top (sCp f a b9) hp_587.2 ?_
                                    refine z_iconst 591 K dL_brief_590 rfl ?_
                                    refine z_icmp_ne (tgt := 598) 594 K dL_brief_591 rfl (by decide) (by omega) (by decide) (fun c_591 => ?_) (fun c_591 => ?_)
                                    · exact absurd c_591 (by omega)
                                    · skip
                                      refine z_iconst 595 K dL_brief_594 rfl ?_
                                      refine z_goto (tgt := 599) K dL_brief_595 (by decide) ?_
                                      refine z_iload 601 K dL_brief_599 rfl 0 rfl ?_
                                      refine z_icmp_ne (tgt := 628) 604 K dL_brief_601 rfl (by decide) (by decide) (by decide) (fun c_601 => ?_) (fun c_601 => ?_)
                                      · exact absurd c_601 (by decide)
                                      refine z_iload 606 K dL_brief_604 rfl 0 rfl ?_
                                      refine z_if_ne (tgt := 624) 609 K dL_brief_606 rfl (by decide) (by decide) (fun c_606 => ?_) (fun c_606 => ?_)
                                      rotate_left 1
                                      · exact absurd c_606 (by decide)
                                      refine z_iconst 625 K dL_brief_624 rfl ?_
                                      refine z_goto (tgt := 629) K dL_brief_625 (by decide) ?_
                                      refine z_istore (lv' := [(4, .int (iZ 1)), (12, .int (iZ 1)), (11, .int (iZ (sLet f a b9))), (0, .ref (aD g 0)), (1, .int (iZ (f 1))), (2, .int (iZ s2)), (5, .int (iZ (c5 + f (32 * a + 65)))), (6, .int (iZ (l6 + sLostN f a))), (7, .int (iZ (b2i (sStale f a) + t7))), (8, .int (iZ a)), (9, .int (iZ (f (32 * a + 65)))), (10, .int (iZ b9))]) 631 K dL_brief_629 rfl (by decide) rfl ?_
                                      refine z_iinc (lv' := [(10, .int (iZ (b9 + 1))), (4, .int (iZ 1)), (12, .int (iZ 1)), (11, .int (iZ (sLet f a b9))), (0, .ref (aD g 0)), (1, .int (iZ (f 1))), (2, .int (iZ s2)), (5, .int (iZ (c5 + f (32 * a + 65)))), (6, .int (iZ (l6 + sLostN f a))), (7, .int (iZ (b2i (sStale f a) + t7))), (8, .int (iZ a)), (9, .int (iZ (f (32 * a + 65))))]) 634 K dL_brief_631 rfl (b9 + 1) rfl 11 rfl (by decide) rfl ?_
                                      refine z_goto (tgt := 479) K dL_brief_634 (by decide) ?_
                                      refine z_sub [4, 5, 6, 1, 7, 8, 9, 10, 11, 0] rfl ?_
                                      exact ih_479 (b9 + 1) (by omega) (by omega)
                                · exact absurd c_537 (by omega)
                              · exact absurd c_505 (by omega)
                            · skip
                              have hlx := lie_rng hw hcc.1.1 hcc.1.2
                              refine z_aload_n 492 K dL_brief_491 rfl rfl 0 rfl ?_
                              refine z_iload 494 K dL_brief_492 rfl 7 rfl ?_
                              refine z_iload 496 K dL_brief_494 rfl 9 rfl ?_
                              refine z_iconst 497 K dL_brief_496 rfl ?_
                              refine z_vVi (As := [.int (iZ a), .int (iZ b9), .int (iZ 1)]) (rest := []) 500 K 0 (by decide) gMa rfl rfl (e_cit1 l g _ a b9 _ _ _ _ _ _ hI hP (by omega) (by omega)) (cwV 3 K.1.2.2.2.2 gL_brief_X8_citation rfl rfl rfl (by decide +kernel) ⟨Nat.le_of_ble_eq_true rfl, Nat.le_of_ble_eq_true rfl⟩) rfl (Nat.le_of_ble_eq_true rfl) dL_brief_497 rfl ⟨Nat.le_of_ble_eq_true rfl, Nat.le_of_ble_eq_true rfl⟩ rfl (fun z_43 C_44 hp_497 => ?_)
                              refine z_C hp_497.1 ?_
                              refine z_top (sLet f a b9) hp_497.2 ?_
                              refine z_istore (lv' := [(11, .int (iZ (sLet f a b9))), (0, .ref (aD g 0)), (1, .int (iZ (f 1))), (2, .int (iZ s2)), (4, .int (iZ 1)), (5, .int (iZ (c5 + f (32 * a + 65)))), (6, .int (iZ (l6 + sLostN f a))), (7, .int (iZ (b2i (sStale f a) + t7))), (8, .int (iZ a)), (9, .int (iZ (f (32 * a + 65)))), (10, .int (iZ b9))]) 502 K dL_brief_500 rfl (by decide) rfl ?_
                              refine z_iload 504 K dL_brief_502 rfl 0 rfl ?_
                              refine z_iconst 505 K dL_brief_504 rfl ?_
                              refine z_icmp_eq (tgt := 527) 508 K dL_brief_505 rfl (by decide) (by omega) (by decide) (fun c_505 => ?_) (fun c_505 => ?_)
                              · exact absurd c_505 (by omega)
                              · skip
                                refine z_aload_n 509 K dL_brief_508 rfl rfl 1 rfl ?_
                                refine z_iload 511 K dL_brief_509 rfl 8 rfl ?_
                                refine z_iload 513 K dL_brief_511 rfl 10 rfl ?_
                                refine z_iconst 514 K dL_brief_513 rfl ?_
                                refine z_vVi (As := [.int (iZ a), .int (iZ b9), .int (iZ 2)]) (rest := []) 517 K 0 (by decide) gMa rfl rfl (e_cit2 l g _ a b9 _ _ _ _ _ _ hI hP (by omega) (by omega)) (cwV 3 K.1.2.2.2.2 gL_brief_X8_citation rfl rfl rfl (by decide +kernel) ⟨Nat.le_of_ble_eq_true rfl, Nat.le_of_ble_eq_true rfl⟩) rfl (Nat.le_of_ble_eq_true rfl) dL_brief_514 rfl ⟨Nat.le_of_ble_eq_true rfl, Nat.le_of_ble_eq_true rfl⟩ rfl (fun z_45 C_46 hp_514 => ?_)
                                refine z_C hp_514.1 ?_
                                refine z_top (f (32 * a + 2 * b9 + 67)) hp_514.2 ?_
                                refine z_aload_n 518 K dL_brief_517 rfl rfl 1 rfl ?_
                                refine z_iload 520 K dL_brief_518 rfl 0 rfl ?_
                                refine z_iconst 521 K dL_brief_520 rfl ?_
                                refine z_vVi (As := [.int (iZ (sLet f a b9)), .int (iZ 1)]) (rest := [.int (iZ (f (32 * a + 2 * b9 + 67)))]) 524 K 0 (by decide) gMa rfl rfl (e_exh1 l g _ (sLet f a b9) _ _ _ _ _ _ hI hP (by omega)) (cwV 2 K.1.2.2.2.2 gL_brief_X8_exhibit rfl rfl rfl (by decide +kernel) ⟨Nat.le_of_ble_eq_true rfl, Nat.le_of_ble_eq_true rfl⟩) rfl (Nat.le_of_ble_eq_true rfl) dL_brief_521 rfl ⟨Nat.le_of_ble_eq_true rfl, Nat.le_of_ble_eq_true rfl⟩ rfl (fun z_47 C_48 hp_521 => ?_)
                                refine z_C hp_521.1 ?_
                                refine z_top (sPg f (sLet f a b9)) hp_521.2 ?_
                                refine z_icmp_le (tgt := 531) 527 K dL_brief_524 rfl (by decide) (by omega) (by omega) (fun c_524 => ?_) (fun c_524 => ?_)
                                · exact absurd c_524 (by omega)
                                · skip
                                  refine z_iconst 528 K dL_brief_527 rfl ?_
                                  refine z_goto (tgt := 532) K dL_brief_528 (by decide) ?_
                                  refine z_istore (lv' := [(12, .int (iZ 1)), (11, .int (iZ (sLet f a b9))), (0, .ref (aD g 0)), (1, .int (iZ (f 1))), (2, .int (iZ s2)), (4, .int (iZ 1)), (5, .int (iZ (c5 + f (32 * a + 65)))), (6, .int (iZ (l6 + sLostN f a))), (7, .int (iZ (b2i (sStale f a) + t7))), (8, .int (iZ a)), (9, .int (iZ (f (32 * a + 65)))), (10, .int (iZ b9))]) 534 K dL_brief_532 rfl (by decide) rfl ?_
                                  refine z_iload 536 K dL_brief_534 rfl 1 rfl ?_
                                  refine z_iconst 537 K dL_brief_536 rfl ?_
                                  refine z_icmp_eq (tgt := 559) 540 K dL_brief_537 rfl (by decide) (by omega) (by decide) (fun c_537 => ?_) (fun c_537 => ?_)
                                  · exact absurd c_537 (by omega)
                                  · skip
                                    refine z_aload_n 541 K dL_brief_540 rfl rfl 2 rfl ?_
                                    refine z_iload 543 K dL_brief_541 rfl 1 rfl ?_
                                    refine z_iconst 544 K dL_brief_543 rfl ?_
                                    refine z_vVi (As := [.int (iZ (sLet f a b9)), .int (iZ 0)]) (rest := []) 547 K 0 (by decide) gMa rfl rfl (e_exh0 l g _ (sLet f a b9) _ _ _ _ _ _ hI hP (by omega)) (cwV 2 K.1.2.2.2.2 gL_brief_X8_exhibit rfl rfl rfl (by decide +kernel) ⟨Nat.le_of_ble_eq_true rfl, Nat.le_of_ble_eq_true rfl⟩) rfl (Nat.le_of_ble_eq_true rfl) dL_brief_544 rfl ⟨Nat.le_of_ble_eq_true rfl, Nat.le_of_ble_eq_true rfl⟩ rfl (fun z_49 C_50 hp_544 => ?_)
                                    refine z_C hp_544.1 ?_
                                    refine z_top (f (2 * (sLet f a b9) + 3)) hp_544.2 ?_
                                    refine z_aload_n 548 K dL_brief_547 rfl rfl 2 rfl ?_
                                    refine z_iload 550 K dL_brief_548 rfl 9 rfl ?_
                                    refine z_iload 552 K dL_brief_550 rfl 11 rfl ?_
                                    refine z_iconst 553 K dL_brief_552 rfl ?_
                                    refine z_vVi (As := [.int (iZ a), .int (iZ b9), .int (iZ 0)]) (rest := [.int (iZ (f (2 * (sLet f a b9) + 3)))]) 556 K 0 (by decide) gMa rfl rfl (e_cit0 l g _ a b9 _ _ _ _ _ _ hI hP (by omega) (by omega)) (cwV 3 K.1.2.2.2.2 gL_brief_X8_citation rfl rfl rfl (by decide +kernel) ⟨Nat.le_of_ble_eq_true rfl, Nat.le_of_ble_eq_true rfl⟩) rfl (Nat.le_of_ble_eq_true rfl) dL_brief_553 rfl ⟨Nat.le_of_ble_eq_true rfl, Nat.le_of_ble_eq_true rfl⟩ rfl (fun z_51 C_52 hp_553 => ?_)
                                    refine z_C hp_553.1 ?_
                                    refine z_top (f (32 * a + 2 * b9 + 66)) hp_553.2 ?_
                                    refine z_icmp_ne (tgt := 628) 559 K dL_brief_556 rfl (by decide) (by omega) (by omega) (fun c_556 => ?_) (fun c_556 => ?_)
                                    · exact absurd c_556 (by omega)
                                    · skip
                                      refine z_aload_n 560 K dL_brief_559 rfl rfl 2 rfl ?_
                                      refine z_iload 562 K dL_brief_560 rfl 9 rfl ?_
                                      refine z_iload 564 K dL_brief_562 rfl 11 rfl ?_
                                      refine z_iconst 565 K dL_brief_564 rfl ?_
                                      refine z_vVi (As := [.int (iZ a), .int (iZ b9), .int (iZ 3)]) (rest := []) 568 K 0 (by decide) gMa rfl rfl (e_cit3 l g _ a b9 _ _ _ _ _ _ hI hP (by omega) (by omega)) (cwV 3 K.1.2.2.2.2 gL_brief_X8_citation rfl rfl rfl (by decide +kernel) ⟨Nat.le_of_ble_eq_true rfl, Nat.le_of_ble_eq_true rfl⟩) rfl (Nat.le_of_ble_eq_true rfl) dL_brief_565 rfl ⟨Nat.le_of_ble_eq_true rfl, Nat.le_of_ble_eq_true rfl⟩ rfl (fun z_53 C_54 hp_565 => ?_)
                                      refine z_C hp_565.1 ?_
                                      refine z_top (b2i (sLost f a b9)) hp_565.2 ?_
                                      refine z_iload 570 K dL_brief_568 rfl 0 rfl ?_
                                      refine z_if_eq (tgt := 577) 573 K dL_brief_570 rfl (by decide) (by decide) (fun c_570 => ?_) (fun c_570 => ?_)
                                      · exact absurd c_570 (by decide)
                                      refine z_iconst 574 K dL_brief_573 rfl ?_
                                      refine z_goto (tgt := 578) K dL_brief_574 (by decide) ?_
                                      refine z_icmp_ne (tgt := 628) 581 K dL_brief_578 rfl (by decide) (b2i_ir _) (by decide) (fun c_578 => ?_) (fun c_578 => ?_)
                                      · exact absurd c_578 (by omega)
                                      · skip
                                        refine z_aload_n 582 K dL_brief_581 rfl rfl 2 rfl ?_
                                        refine z_iload 584 K dL_brief_582 rfl 9 rfl ?_
                                        refine z_iload 586 K dL_brief_584 rfl 11 rfl ?_
                                        refine z_iconst 587 K dL_brief_586 rfl ?_
                                        refine z_vVi (As := [.int (iZ a), .int (iZ b9), .int (iZ 4)]) (rest := []) 590 K 0 (by decide) gMa rfl rfl (e_cit4 l g _ a b9 _ _ _ _ _ _ hI hP (by omega) (by omega)) (cwV 3 K.1.2.2.2.2 gL_brief_X8_citation rfl rfl rfl (by decide +kernel) ⟨Nat.le_of_ble_eq_true rfl, Nat.le_of_ble_eq_true rfl⟩) rfl (Nat.le_of_ble_eq_true rfl) dL_brief_587 rfl ⟨Nat.le_of_ble_eq_true rfl, Nat.le_of_ble_eq_true rfl⟩ rfl (fun z_55 C_56 hp_587 => ?_)
                                        refine z_C hp_587.1 ?_
                                        refine z_top (sCp f a b9) hp_587.2 ?_
                                        refine z_iconst 591 K dL_brief_590 rfl ?_
                                        refine z_icmp_ne (tgt := 598) 594 K dL_brief_591 rfl (by decide) (by omega) (by decide) (fun c_591 => ?_) (fun c_591 => ?_)
                                        · exact absurd c_591 (by omega)
                                        · skip
                                          refine z_iconst 595 K dL_brief_594 rfl ?_
                                          refine z_goto (tgt := 599) K dL_brief_595 (by decide) ?_
                                          refine z_iload 601 K dL_brief_599 rfl 0 rfl ?_
                                          refine z_icmp_ne (tgt := 628) 604 K dL_brief_601 rfl (by decide) (by decide) (by decide) (fun c_601 => ?_) (fun c_601 => ?_)
                                          · exact absurd c_601 (by decide)
                                          refine z_iload 606 K dL_brief_604 rfl 0 rfl ?_
                                          refine z_if_ne (tgt := 624) 609 K dL_brief_606 rfl (by decide) (by decide) (fun c_606 => ?_) (fun c_606 => ?_)
                                          rotate_left 1
                                          · exact absurd c_606 (by decide)
                                          refine z_iconst 625 K dL_brief_624 rfl ?_
                                          refine z_goto (tgt := 629) K dL_brief_625 (by decide) ?_
                                          refine z_istore (lv' := [(4, .int (iZ 1)), (12, .int (iZ 1)), (11, .int (iZ (sLet f a b9))), (0, .ref (aD g 0)), (1, .int (iZ (f 1))), (2, .int (iZ s2)), (5, .int (iZ (c5 + f (32 * a + 65)))), (6, .int (iZ (l6 + sLostN f a))), (7, .int (iZ (b2i (sStale f a) + t7))), (8, .int (iZ a)), (9, .int (iZ (f (32 * a + 65)))), (10, .int (iZ b9))]) 631 K dL_brief_629 rfl (by decide) rfl ?_
                                          refine z_iinc (lv' := [(10, .int (iZ (b9 + 1))), (4, .int (iZ 1)), (12, .int (iZ 1)), (11, .int (iZ (sLet f a b9))), (0, .ref (aD g 0)), (1, .int (iZ (f 1))), (2, .int (iZ s2)), (5, .int (iZ (c5 + f (32 * a + 65)))), (6, .int (iZ (l6 + sLostN f a))), (7, .int (iZ (b2i (sStale f a) + t7))), (8, .int (iZ a)), (9, .int (iZ (f (32 * a + 65))))]) 634 K dL_brief_631 rfl (b9 + 1) rfl 11 rfl (by decide) rfl ?_
                                          refine z_goto (tgt := 479) K dL_brief_634 (by decide) ?_
                                          refine z_sub [4, 5, 6, 1, 7, 8, 9, 10, 11, 0] rfl ?_
                                          exact ih_479 (b9 + 1) (by omega) (by omega)
                            · skip
                              have hlx := lie_rng hw hcc.1.1 hcc.1.2
                              refine z_aload_n 492 K dL_brief_491 rfl rfl 0 rfl ?_
                              refine z_iload 494 K dL_brief_492 rfl 7 rfl ?_
                              refine z_iload 496 K dL_brief_494 rfl 9 rfl ?_
                              refine z_iconst 497 K dL_brief_496 rfl ?_
                              refine z_vVi (As := [.int (iZ a), .int (iZ b9), .int (iZ 1)]) (rest := []) 500 K 0 (by decide) gMa rfl rfl (e_cit1 l g _ a b9 _ _ _ _ _ _ hI hP (by omega) (by omega)) (cwV 3 K.1.2.2.2.2 gL_brief_X8_citation rfl rfl rfl (by decide +kernel) ⟨Nat.le_of_ble_eq_true rfl, Nat.le_of_ble_eq_true rfl⟩) rfl (Nat.le_of_ble_eq_true rfl) dL_brief_497 rfl ⟨Nat.le_of_ble_eq_true rfl, Nat.le_of_ble_eq_true rfl⟩ rfl (fun z_57 C_58 hp_497 => ?_)
                              refine z_C hp_497.1 ?_
                              refine z_top (sLet f a b9) hp_497.2 ?_
                              refine z_istore (lv' := [(11, .int (iZ (sLet f a b9))), (0, .ref (aD g 0)), (1, .int (iZ (f 1))), (2, .int (iZ s2)), (4, .int (iZ 1)), (5, .int (iZ (c5 + f (32 * a + 65)))), (6, .int (iZ (l6 + sLostN f a))), (7, .int (iZ (b2i (sStale f a) + t7))), (8, .int (iZ a)), (9, .int (iZ (f (32 * a + 65)))), (10, .int (iZ b9))]) 502 K dL_brief_500 rfl (by decide) rfl ?_
                              refine z_iload 504 K dL_brief_502 rfl 0 rfl ?_
                              refine z_iconst 505 K dL_brief_504 rfl ?_
                              refine z_icmp_eq (tgt := 527) 508 K dL_brief_505 rfl (by decide) (by omega) (by decide) (fun c_505 => ?_) (fun c_505 => ?_)
                              · exact absurd c_505 (by omega)
                              · skip
                                refine z_aload_n 509 K dL_brief_508 rfl rfl 1 rfl ?_
                                refine z_iload 511 K dL_brief_509 rfl 8 rfl ?_
                                refine z_iload 513 K dL_brief_511 rfl 10 rfl ?_
                                refine z_iconst 514 K dL_brief_513 rfl ?_
                                refine z_vVi (As := [.int (iZ a), .int (iZ b9), .int (iZ 2)]) (rest := []) 517 K 0 (by decide) gMa rfl rfl (e_cit2 l g _ a b9 _ _ _ _ _ _ hI hP (by omega) (by omega)) (cwV 3 K.1.2.2.2.2 gL_brief_X8_citation rfl rfl rfl (by decide +kernel) ⟨Nat.le_of_ble_eq_true rfl, Nat.le_of_ble_eq_true rfl⟩) rfl (Nat.le_of_ble_eq_true rfl) dL_brief_514 rfl ⟨Nat.le_of_ble_eq_true rfl, Nat.le_of_ble_eq_true rfl⟩ rfl (fun z_59 C_60 hp_514 => ?_)
                                refine z_C hp_514.1 ?_
                                refine z_top (f (32 * a + 2 * b9 + 67)) hp_514.2 ?_
                                refine z_aload_n 518 K dL_brief_517 rfl rfl 1 rfl ?_
                                refine z_iload 520 K dL_brief_518 rfl 0 rfl ?_
                                refine z_iconst 521 K dL_brief_520 rfl ?_
                                refine z_vVi (As := [.int (iZ (sLet f a b9)), .int (iZ 1)]) (rest := [.int (iZ (f (32 * a + 2 * b9 + 67)))]) 524 K 0 (by decide) gMa rfl rfl (e_exh1 l g _ (sLet f a b9) _ _ _ _ _ _ hI hP (by omega)) (cwV 2 K.1.2.2.2.2 gL_brief_X8_exhibit rfl rfl rfl (by decide +kernel) ⟨Nat.le_of_ble_eq_true rfl, Nat.le_of_ble_eq_true rfl⟩) rfl (Nat.le_of_ble_eq_true rfl) dL_brief_521 rfl ⟨Nat.le_of_ble_eq_true rfl, Nat.le_of_ble_eq_true rfl⟩ rfl (fun z_61 C_62 hp_521 => ?_)
                                refine z_C hp_521.1 ?_
                                refine z_top (sPg f (sLet f a b9)) hp_521.2 ?_
                                refine z_icmp_le (tgt := 531) 527 K dL_brief_524 rfl (by decide) (by omega) (by omega) (fun c_524 => ?_) (fun c_524 => ?_)
                                · skip
                                  refine z_iconst 532 K dL_brief_531 rfl ?_
                                  refine z_istore (lv' := [(12, .int (iZ 0)), (11, .int (iZ (sLet f a b9))), (0, .ref (aD g 0)), (1, .int (iZ (f 1))), (2, .int (iZ s2)), (4, .int (iZ 1)), (5, .int (iZ (c5 + f (32 * a + 65)))), (6, .int (iZ (l6 + sLostN f a))), (7, .int (iZ (b2i (sStale f a) + t7))), (8, .int (iZ a)), (9, .int (iZ (f (32 * a + 65)))), (10, .int (iZ b9))]) 534 K dL_brief_532 rfl (by decide) rfl ?_
                                  refine z_iload 536 K dL_brief_534 rfl 1 rfl ?_
                                  refine z_iconst 537 K dL_brief_536 rfl ?_
                                  refine z_icmp_eq (tgt := 559) 540 K dL_brief_537 rfl (by decide) (by omega) (by decide) (fun c_537 => ?_) (fun c_537 => ?_)
                                  · exact absurd c_537 (by omega)
                                  · skip
                                    refine z_aload_n 541 K dL_brief_540 rfl rfl 2 rfl ?_
                                    refine z_iload 543 K dL_brief_541 rfl 1 rfl ?_
                                    refine z_iconst 544 K dL_brief_543 rfl ?_
                                    refine z_vVi (As := [.int (iZ (sLet f a b9)), .int (iZ 0)]) (rest := []) 547 K 0 (by decide) gMa rfl rfl (e_exh0 l g _ (sLet f a b9) _ _ _ _ _ _ hI hP (by omega)) (cwV 2 K.1.2.2.2.2 gL_brief_X8_exhibit rfl rfl rfl (by decide +kernel) ⟨Nat.le_of_ble_eq_true rfl, Nat.le_of_ble_eq_true rfl⟩) rfl (Nat.le_of_ble_eq_true rfl) dL_brief_544 rfl ⟨Nat.le_of_ble_eq_true rfl, Nat.le_of_ble_eq_true rfl⟩ rfl (fun z_63 C_64 hp_544 => ?_)
                                    refine z_C hp_544.1 ?_
                                    refine z_top (f (2 * (sLet f a b9) + 3)) hp_544.2 ?_
                                    refine z_aload_n 548 K dL_brief_547 rfl rfl 2 rfl ?_
                                    refine z_iload 550 K dL_brief_548 rfl 9 rfl ?_
                                    refine z_iload 552 K dL_brief_550 rfl 11 rfl ?_
                                    refine z_iconst 553 K dL_brief_552 rfl ?_
                                    refine z_vVi (As := [.int (iZ a), .int (iZ b9), .int (iZ 0)]) (rest := [.int (iZ (f (2 * (sLet f a b9) + 3)))]) 556 K 0 (by decide) gMa rfl rfl (e_cit0 l g _ a b9 _ _ _ _ _ _ hI hP (by omega) (by omega)) (cwV 3 K.1.2.2.2.2 gL_brief_X8_citation rfl rfl rfl (by decide +kernel) ⟨Nat.le_of_ble_eq_true rfl, Nat.le_of_ble_eq_true rfl⟩) rfl (Nat.le_of_ble_eq_true rfl) dL_brief_553 rfl ⟨Nat.le_of_ble_eq_true rfl, Nat.le_of_ble_eq_true rfl⟩ rfl (fun z_65 C_66 hp_553 => ?_)
                                    refine z_C hp_553.1 ?_
                                    refine z_top (f (32 * a + 2 * b9 + 66)) hp_553.2 ?_
                                    refine z_icmp_ne (tgt := 628) 559 K dL_brief_556 rfl (by decide) (by omega) (by omega) (fun c_556 => ?_) (fun c_556 => ?_)
                                    · exact absurd c_556 (by omega)
                                    · skip
                                      refine z_aload_n 560 K dL_brief_559 rfl rfl 2 rfl ?_
                                      refine z_iload 562 K dL_brief_560 rfl 9 rfl ?_
                                      refine z_iload 564 K dL_brief_562 rfl 11 rfl ?_
                                      refine z_iconst 565 K dL_brief_564 rfl ?_
                                      refine z_vVi (As := [.int (iZ a), .int (iZ b9), .int (iZ 3)]) (rest := []) 568 K 0 (by decide) gMa rfl rfl (e_cit3 l g _ a b9 _ _ _ _ _ _ hI hP (by omega) (by omega)) (cwV 3 K.1.2.2.2.2 gL_brief_X8_citation rfl rfl rfl (by decide +kernel) ⟨Nat.le_of_ble_eq_true rfl, Nat.le_of_ble_eq_true rfl⟩) rfl (Nat.le_of_ble_eq_true rfl) dL_brief_565 rfl ⟨Nat.le_of_ble_eq_true rfl, Nat.le_of_ble_eq_true rfl⟩ rfl (fun z_67 C_68 hp_565 => ?_)
                                      refine z_C hp_565.1 ?_
                                      refine z_top (b2i (sLost f a b9)) hp_565.2 ?_
                                      refine z_iload 570 K dL_brief_568 rfl 0 rfl ?_
                                      refine z_if_eq (tgt := 577) 573 K dL_brief_570 rfl (by decide) (by decide) (fun c_570 => ?_) (fun c_570 => ?_)
                                      rotate_left 1
                                      · exact absurd c_570 (by decide)
                                      refine z_iconst 578 K dL_brief_577 rfl ?_
                                      refine z_icmp_ne (tgt := 628) 581 K dL_brief_578 rfl (by decide) (b2i_ir _) (by decide) (fun c_578 => ?_) (fun c_578 => ?_)
                                      · exact absurd c_578 (by omega)
                                      · skip
                                        refine z_aload_n 582 K dL_brief_581 rfl rfl 2 rfl ?_
                                        refine z_iload 584 K dL_brief_582 rfl 9 rfl ?_
                                        refine z_iload 586 K dL_brief_584 rfl 11 rfl ?_
                                        refine z_iconst 587 K dL_brief_586 rfl ?_
                                        refine z_vVi (As := [.int (iZ a), .int (iZ b9), .int (iZ 4)]) (rest := []) 590 K 0 (by decide) gMa rfl rfl (e_cit4 l g _ a b9 _ _ _ _ _ _ hI hP (by omega) (by omega)) (cwV 3 K.1.2.2.2.2 gL_brief_X8_citation rfl rfl rfl (by decide +kernel) ⟨Nat.le_of_ble_eq_true rfl, Nat.le_of_ble_eq_true rfl⟩) rfl (Nat.le_of_ble_eq_true rfl) dL_brief_587 rfl ⟨Nat.le_of_ble_eq_true rfl, Nat.le_of_ble_eq_true rfl⟩ rfl (fun z_69 C_70 hp_587 => ?_)
                                        refine z_C hp_587.1 ?_
                                        refine z_top (sCp f a b9) hp_587.2 ?_
                                        refine z_iconst 591 K dL_brief_590 rfl ?_
                                        refine z_icmp_ne (tgt := 598) 594 K dL_brief_591 rfl (by decide) (by omega) (by decide) (fun c_591 => ?_) (fun c_591 => ?_)
                                        · skip
                                          refine z_iconst 599 K dL_brief_598 rfl ?_
                                          refine z_iload 601 K dL_brief_599 rfl 0 rfl ?_
                                          refine z_icmp_ne (tgt := 628) 604 K dL_brief_601 rfl (by decide) (by decide) (by decide) (fun c_601 => ?_) (fun c_601 => ?_)
                                          · exact absurd c_601 (by decide)
                                          refine z_iload 606 K dL_brief_604 rfl 0 rfl ?_
                                          refine z_if_ne (tgt := 624) 609 K dL_brief_606 rfl (by decide) (by decide) (fun c_606 => ?_) (fun c_606 => ?_)
                                          · exact absurd c_606 (by decide)
                                          refine z_aload_n 610 K dL_brief_609 rfl rfl 2 rfl ?_
                                          refine z_iload 612 K dL_brief_610 rfl 1 rfl ?_
                                          refine z_vVi (As := [.int (iZ (sLet f a b9))]) (rest := []) 615 K 0 (by decide) gMa rfl rfl (e_tab l g _ (sLet f a b9) _ _ _ _ _ _ hI hP (by omega)) (cwV 1 K.1.2.2.2.2 gL_brief_X8_table rfl rfl rfl (by decide +kernel) ⟨Nat.le_of_ble_eq_true rfl, Nat.le_of_ble_eq_true rfl⟩) rfl (Nat.le_of_ble_eq_true rfl) dL_brief_612 rfl ⟨Nat.le_of_ble_eq_true rfl, Nat.le_of_ble_eq_true rfl⟩ rfl (fun z_71 C_72 hp_612 => ?_)
                                          refine z_C hp_612.1 ?_
                                          refine z_top (sRow f (sLet f a b9)) hp_612.2 ?_
                                          refine z_iload 617 K dL_brief_615 rfl 9 rfl ?_
                                          refine z_ishr 618 K dL_brief_617 rfl ?_
                                          refine z_iconst 619 K dL_brief_618 rfl ?_
                                          refine z_iand 620 K dL_brief_619 rfl ?_
                                          refine z_raw (1) (sRow_bit hw ha.1 (by omega) hb9.1 (by omega) rfl hcc.2.2.2.2.2) ?_
                                          refine z_iconst 621 K dL_brief_620 rfl ?_
                                          refine z_icmp_ne (tgt := 628) 624 K dL_brief_621 rfl (by decide) (by decide) (by decide) (fun c_621 => ?_) (fun c_621 => ?_)
                                          · exact absurd c_621 (by decide)
                                          refine z_iconst 625 K dL_brief_624 rfl ?_
                                          refine z_goto (tgt := 629) K dL_brief_625 (by decide) ?_
                                          refine z_istore (lv' := [(4, .int (iZ 1)), (12, .int (iZ 0)), (11, .int (iZ (sLet f a b9))), (0, .ref (aD g 0)), (1, .int (iZ (f 1))), (2, .int (iZ s2)), (5, .int (iZ (c5 + f (32 * a + 65)))), (6, .int (iZ (l6 + sLostN f a))), (7, .int (iZ (b2i (sStale f a) + t7))), (8, .int (iZ a)), (9, .int (iZ (f (32 * a + 65)))), (10, .int (iZ b9))]) 631 K dL_brief_629 rfl (by decide) rfl ?_
                                          refine z_iinc (lv' := [(10, .int (iZ (b9 + 1))), (4, .int (iZ 1)), (12, .int (iZ 0)), (11, .int (iZ (sLet f a b9))), (0, .ref (aD g 0)), (1, .int (iZ (f 1))), (2, .int (iZ s2)), (5, .int (iZ (c5 + f (32 * a + 65)))), (6, .int (iZ (l6 + sLostN f a))), (7, .int (iZ (b2i (sStale f a) + t7))), (8, .int (iZ a)), (9, .int (iZ (f (32 * a + 65))))]) 634 K dL_brief_631 rfl (b9 + 1) rfl 11 rfl (by decide) rfl ?_
                                          refine z_goto (tgt := 479) K dL_brief_634 (by decide) ?_
                                          refine z_sub [4, 5, 6, 1, 7, 8, 9, 10, 11, 0] rfl ?_
                                          exact ih_479 (b9 + 1) (by omega) (by omega)
                                        · exact absurd c_591 (by omega)
                                · exact absurd c_524 (by omega)
                      refine z_sub [6, 7, 8, 1, 4, 3, 2, 9, 5, 0] rfl ?_
                      exact loop_479 (Int.toNat (f (32 * a + 65) - 0) + 1) 0 (by omega) (by omega)
                    refine z_aload_n 449 K dL_brief_448 rfl rfl 4 rfl ?_
                    refine z_iload 451 K dL_brief_449 rfl 8 rfl ?_
                    refine z_iconst 452 K dL_brief_451 rfl ?_
                    refine z_vVi (As := [.int (iZ a), .int (iZ 3)]) (rest := []) 455 K 0 (by decide) gMa rfl rfl (e_par3 l g _ a _ _ _ _ _ _ hI hP (by omega)) (cwV 2 K.1.2.2.2.2 gL_brief_X8_paragraph rfl rfl rfl (by decide +kernel) ⟨Nat.le_of_ble_eq_true rfl, Nat.le_of_ble_eq_true rfl⟩) rfl (Nat.le_of_ble_eq_true rfl) dL_brief_452 rfl ⟨Nat.le_of_ble_eq_true rfl, Nat.le_of_ble_eq_true rfl⟩ rfl (fun z_73 C_74 hp_452 => ?_)
                    refine z_C hp_452.1 ?_
                    refine z_top (f (32 * a + 78)) hp_452.2 ?_
                    refine z_if_ge (tgt := 469) 458 K dL_brief_455 rfl (by decide) (by omega) (fun c_455 => ?_) (fun c_455 => ?_)
                    · skip
                      refine z_iconst 470 K dL_brief_469 rfl ?_
                      refine z_goto (tgt := 474) K dL_brief_470 (by decide) ?_
                      exact join_474_j_36  
                    · skip
                      refine z_aload_n 459 K dL_brief_458 rfl rfl 4 rfl ?_
                      refine z_iload 461 K dL_brief_459 rfl 8 rfl ?_
                      refine z_iconst 462 K dL_brief_461 rfl ?_
                      refine z_vVi (As := [.int (iZ a), .int (iZ 2)]) (rest := []) 465 K 0 (by decide) gMa rfl rfl (e_par2 l g _ a _ _ _ _ _ _ hI hP (by omega)) (cwV 2 K.1.2.2.2.2 gL_brief_X8_paragraph rfl rfl rfl (by decide +kernel) ⟨Nat.le_of_ble_eq_true rfl, Nat.le_of_ble_eq_true rfl⟩) rfl (Nat.le_of_ble_eq_true rfl) dL_brief_462 rfl ⟨Nat.le_of_ble_eq_true rfl, Nat.le_of_ble_eq_true rfl⟩ rfl (fun z_75 C_76 hp_462 => ?_)
                      refine z_C hp_462.1 ?_
                      refine z_top (b2i (sStale f a)) hp_462.2 ?_
                      refine z_iconst 466 K dL_brief_465 rfl ?_
                      refine z_icmp_ne (tgt := 473) 469 K dL_brief_466 rfl (by decide) (b2i_ir _) (by decide) (fun c_466 => ?_) (fun c_466 => ?_)
                      · exact absurd (hst.2 (by omega)) c_466
                      · skip
                        refine z_iconst 470 K dL_brief_469 rfl ?_
                        refine z_goto (tgt := 474) K dL_brief_470 (by decide) ?_
                        exact join_474_j_36  
          refine z_sub [4, 5, 6, 8, 3, 2, 1, 0] rfl ?_
          exact loop_377 (Int.toNat (12 - 0) + 1) 0 0 0 0 (by omega) rfl rfl rfl (by omega)
        · skip
          refine z_iload 66 K dL_brief_64 rfl 4 rfl ?_
          refine z_if_eq (tgt := 365) 69 K dL_brief_66 rfl (by decide) (by decide) (fun c_66 => ?_) (fun c_66 => ?_)
          · exact absurd c_66 (by decide)
          have hlc := lie_cases (f := f) (k := kz) (by omega)
          rcases hlc with hlc | hlc | hlc
          · skip
            have hlx := lie_rng hw (k := kz) (by omega) (by omega)
            refine z_iload 71 K dL_brief_69 rfl 5 rfl ?_
            refine z_if_le (tgt := 97) 74 K dL_brief_71 rfl (by decide) (by omega) (fun c_71 => ?_) (fun c_71 => ?_)
            · skip
              refine z_iconst 98 K dL_brief_97 rfl ?_
              refine z_istore (lv' := [(6, .int (iZ 0)), (0, .ref (aD g 0)), (1, .int (iZ (f 1))), (2, .int (iZ s2)), (3, .int (iZ h3)), (4, .int (iZ 1)), (5, .int (iZ kz))]) 100 K dL_brief_98 rfl (by decide) rfl ?_
              refine z_iload_n 101 K dL_brief_100 rfl rfl 3 rfl ?_
              refine z_aload_n 102 K dL_brief_101 rfl rfl 1 rfl ?_
              refine z_iload 104 K dL_brief_102 rfl 6 rfl ?_
              refine z_iconst 105 K dL_brief_104 rfl ?_
              refine z_vVi (As := [.int (iZ kz), .int (iZ 1)]) (rest := [.int (iZ s2)]) 108 K 0 (by decide) gMa rfl rfl (e_exh1 l g _ kz _ _ _ _ _ _ hI hP (by omega)) (cwV 2 K.1.2.2.2.2 gL_brief_X8_exhibit rfl rfl rfl (by decide +kernel) ⟨Nat.le_of_ble_eq_true rfl, Nat.le_of_ble_eq_true rfl⟩) rfl (Nat.le_of_ble_eq_true rfl) dL_brief_105 rfl ⟨Nat.le_of_ble_eq_true rfl, Nat.le_of_ble_eq_true rfl⟩ rfl (fun z_77 C_78 hp_105 => ?_)
              refine z_C hp_105.1 ?_
              refine z_top (sPg f kz) hp_105.2 ?_
              refine z_iadd 109 K dL_brief_108 rfl ?_
              refine z_top (s2 + sPg f kz) (by omega) ?_
              refine z_istore_n (lv' := [(2, .int (iZ (s2 + sPg f kz))), (6, .int (iZ 0)), (0, .ref (aD g 0)), (1, .int (iZ (f 1))), (3, .int (iZ h3)), (4, .int (iZ 1)), (5, .int (iZ kz))]) 110 K dL_brief_109 rfl rfl (by decide) rfl ?_
              refine z_iload 112 K dL_brief_110 rfl 1 rfl ?_
              refine z_if_ne (tgt := 120) 115 K dL_brief_112 rfl (by decide) (by decide) (fun c_112 => ?_) (fun c_112 => ?_)
              · exact absurd c_112 (by decide)
              refine z_iload 117 K dL_brief_115 rfl 6 rfl ?_
              refine z_if_ne (tgt := 130) 120 K dL_brief_117 rfl (by decide) (by omega) (fun c_117 => ?_) (fun c_117 => ?_)
              · exact absurd c_117 (by omega)
              · skip
                refine z_aload_n 121 K dL_brief_120 rfl rfl 2 rfl ?_
                refine z_iload 123 K dL_brief_121 rfl 6 rfl ?_
                refine z_iconst 124 K dL_brief_123 rfl ?_
                refine z_vVi (As := [.int (iZ kz), .int (iZ 1)]) (rest := []) 127 K 0 (by decide) gMa rfl rfl (e_exh1 l g _ kz _ _ _ _ _ _ hI hP (by omega)) (cwV 2 K.1.2.2.2.2 gL_brief_X8_exhibit rfl rfl rfl (by decide +kernel) ⟨Nat.le_of_ble_eq_true rfl, Nat.le_of_ble_eq_true rfl⟩) rfl (Nat.le_of_ble_eq_true rfl) dL_brief_124 rfl ⟨Nat.le_of_ble_eq_true rfl, Nat.le_of_ble_eq_true rfl⟩ rfl (fun z_79 C_80 hp_124 => ?_)
                refine z_C hp_124.1 ?_
                refine z_top (sPg f kz) hp_124.2 ?_
                refine z_goto (tgt := 139) K dL_brief_127 (by decide) ?_
                refine z_istore_n (lv' := [(3, .int (iZ (sPg f kz))), (2, .int (iZ (s2 + sPg f kz))), (6, .int (iZ 0)), (0, .ref (aD g 0)), (1, .int (iZ (f 1))), (4, .int (iZ 1)), (5, .int (iZ kz))]) 140 K dL_brief_139 rfl rfl (by decide) rfl ?_
                refine z_aload_n 141 K dL_brief_140 rfl rfl 3 rfl ?_
                refine z_iload 143 K dL_brief_141 rfl 6 rfl ?_
                refine z_iconst 144 K dL_brief_143 rfl ?_
                refine z_vVi (As := [.int (iZ kz), .int (iZ 1)]) (rest := []) 147 K 0 (by decide) gMa rfl rfl (e_exh1 l g _ kz _ _ _ _ _ _ hI hP (by omega)) (cwV 2 K.1.2.2.2.2 gL_brief_X8_exhibit rfl rfl rfl (by decide +kernel) ⟨Nat.le_of_ble_eq_true rfl, Nat.le_of_ble_eq_true rfl⟩) rfl (Nat.le_of_ble_eq_true rfl) dL_brief_144 rfl ⟨Nat.le_of_ble_eq_true rfl, Nat.le_of_ble_eq_true rfl⟩ rfl (fun z_81 C_82 hp_144 => ?_)
                refine z_C hp_144.1 ?_
                refine z_top (sPg f kz) hp_144.2 ?_
                refine z_iconst 148 K dL_brief_147 rfl ?_
                refine z_icmp_lt (tgt := 252) 151 K dL_brief_148 rfl (by decide) (by omega) (by decide) (fun c_148 => ?_) (fun c_148 => ?_)
                · exact absurd c_148 (by omega)
                · skip
                  refine z_aload_n 152 K dL_brief_151 rfl rfl 3 rfl ?_
                  refine z_iload 154 K dL_brief_152 rfl 6 rfl ?_
                  refine z_iconst 155 K dL_brief_154 rfl ?_
                  refine z_vVi (As := [.int (iZ kz), .int (iZ 1)]) (rest := []) 158 K 0 (by decide) gMa rfl rfl (e_exh1 l g _ kz _ _ _ _ _ _ hI hP (by omega)) (cwV 2 K.1.2.2.2.2 gL_brief_X8_exhibit rfl rfl rfl (by decide +kernel) ⟨Nat.le_of_ble_eq_true rfl, Nat.le_of_ble_eq_true rfl⟩) rfl (Nat.le_of_ble_eq_true rfl) dL_brief_155 rfl ⟨Nat.le_of_ble_eq_true rfl, Nat.le_of_ble_eq_true rfl⟩ rfl (fun z_83 C_84 hp_155 => ?_)
                  refine z_C hp_155.1 ?_
                  refine z_top (sPg f kz) hp_155.2 ?_
                  refine z_bipush 160 K dL_brief_158 rfl rfl ?_
                  refine z_icmp_gt (tgt := 252) 163 K dL_brief_160 rfl (by decide) (by omega) (by decide) (fun c_160 => ?_) (fun c_160 => ?_)
                  · exact absurd c_160 (by omega)
                  · skip
                    refine z_iload 165 K dL_brief_163 rfl 6 rfl ?_
                    refine z_if_eq (tgt := 228) 168 K dL_brief_165 rfl (by decide) (by omega) (fun c_165 => ?_) (fun c_165 => ?_)
                    · skip
                      have join_253_j_85 :  Z p l e (({ frames := 5, cells := 0, slots := 0, locals := 112 } : Room)) s m args below meth c (MQ below (zQi g (fun z C' => C' = C ∧ z = 1)) args s 0 0 (zA g)) g 13 0 0 (C) [(3, .int (iZ (sPg f kz))), (2, .int (iZ (s2 + sPg f kz))), (6, .int (iZ 0)), (0, .ref (aD g 0)), (1, .int (iZ (f 1))), (4, .int (iZ 1)), (5, .int (iZ kz))] 253 [.int (iZ 1)] := by
                        refine z_istore (lv' := [(4, .int (iZ 1)), (3, .int (iZ (sPg f kz))), (2, .int (iZ (s2 + sPg f kz))), (6, .int (iZ 0)), (0, .ref (aD g 0)), (1, .int (iZ (f 1))), (5, .int (iZ kz))]) 255 K dL_brief_253 rfl (by decide) rfl ?_
                        refine z_iload 257 K dL_brief_255 rfl 0 rfl ?_
                        refine z_if_eq (tgt := 311) 260 K dL_brief_257 rfl (by decide) (by decide) (fun c_257 => ?_) (fun c_257 => ?_)
                        · exact absurd c_257 (by decide)
                        refine z_iload 262 K dL_brief_260 rfl 6 rfl ?_
                        refine z_if_eq (tgt := 307) 265 K dL_brief_262 rfl (by decide) (by omega) (fun c_262 => ?_) (fun c_262 => ?_)
                        · skip
                          refine z_iconst 308 K dL_brief_307 rfl ?_
                          refine z_goto (tgt := 312) K dL_brief_308 (by decide) ?_
                          refine z_istore (lv' := [(4, .int (iZ 1)), (3, .int (iZ (sPg f kz))), (2, .int (iZ (s2 + sPg f kz))), (6, .int (iZ 0)), (0, .ref (aD g 0)), (1, .int (iZ (f 1))), (5, .int (iZ kz))]) 314 K dL_brief_312 rfl (by decide) rfl ?_
                          refine z_iconst 315 K dL_brief_314 rfl ?_
                          refine z_istore (lv' := [(7, .int (iZ 0)), (4, .int (iZ 1)), (3, .int (iZ (sPg f kz))), (2, .int (iZ (s2 + sPg f kz))), (6, .int (iZ 0)), (0, .ref (aD g 0)), (1, .int (iZ (f 1))), (5, .int (iZ kz))]) 317 K dL_brief_315 rfl (by decide) rfl ?_
                          have loop_317 : ∀ (n9 : Nat) (nz : Int), (0 ≤ nz ∧ nz ≤ kz) → (kz - nz < (n9 : Int)) → Z p l e (({ frames := 5, cells := 0, slots := 0, locals := 112 } : Room)) s m args below meth c (MQ below (zQi g (fun z C' => C' = C ∧ z = 1)) args s 0 0 (zA g)) g 13 0 0 (C) [(0, .ref (aD g 0)), (1, .int (iZ (f 1))), (2, .int (iZ (s2 + sPg f kz))), (3, .int (iZ (sPg f kz))), (4, .int (iZ 1)), (5, .int (iZ kz)), (7, .int (iZ nz))] 317 [] := by
                            intro n9
                            induction n9 with
                            | zero =>
                              intro nz hnz hm9
                              exact absurd hm9 (by omega)
                            | succ n9 ih9 =>
                              intro nz hnz hm_317
                              have ih_317 := ih9
                              clear ih9
                              refine z_iload 319 K dL_brief_317 rfl 6 rfl ?_
                              refine z_iload 321 K dL_brief_319 rfl 5 rfl ?_
                              refine z_icmp_ge (tgt := 359) 324 K dL_brief_321 rfl (by decide) (by omega) (by omega) (fun c_321 => ?_) (fun c_321 => ?_)
                              · skip
                                refine z_iinc (lv' := [(5, .int (iZ (kz + 1))), (0, .ref (aD g 0)), (1, .int (iZ (f 1))), (2, .int (iZ (s2 + sPg f kz))), (3, .int (iZ (sPg f kz))), (4, .int (iZ 1)), (7, .int (iZ nz))]) 362 K dL_brief_359 rfl (kz + 1) rfl 5 rfl (by decide) rfl ?_
                                refine z_goto (tgt := 58) K dL_brief_362 (by decide) ?_
                                refine z_sub [1, 2, 3, 4, 5, 0] rfl ?_
                                exact ih_58 (s2 + sPg f kz) (sPg f kz) (kz + 1) (by omega) (by rw [zsum_1 _ hkz.1]; omega) (by have q := sSm_rng hw (k := kz + 1) (by omega) (by omega); rw [zsum_1 _ hkz.1] at q; omega) (fun _ => (by rw [show kz + 1 - 1 = kz by omega]; omega)) (by omega)
                              · skip
                                refine z_iload 326 K dL_brief_324 rfl 4 rfl ?_
                                refine z_if_eq (tgt := 359) 329 K dL_brief_326 rfl (by decide) (by decide) (fun c_326 => ?_) (fun c_326 => ?_)
                                · exact absurd c_326 (by decide)
                                have hrn := lie_rng hw (k := nz) (by omega) (by omega)
                                refine z_aload_n 330 K dL_brief_329 rfl rfl 0 rfl ?_
                                refine z_iload 332 K dL_brief_330 rfl 6 rfl ?_
                                refine z_iconst 333 K dL_brief_332 rfl ?_
                                refine z_vVi (As := [.int (iZ nz), .int (iZ 0)]) (rest := []) 336 K 0 (by decide) gMa rfl rfl (e_exh0 l g _ nz _ _ _ _ _ _ hI hP (by omega)) (cwV 2 K.1.2.2.2.2 gL_brief_X8_exhibit rfl rfl rfl (by decide +kernel) ⟨Nat.le_of_ble_eq_true rfl, Nat.le_of_ble_eq_true rfl⟩) rfl (Nat.le_of_ble_eq_true rfl) dL_brief_333 rfl ⟨Nat.le_of_ble_eq_true rfl, Nat.le_of_ble_eq_true rfl⟩ rfl (fun z_86 C_87 hp_333 => ?_)
                                refine z_C hp_333.1 ?_
                                refine z_top (f (2 * nz + 3)) hp_333.2 ?_
                                refine z_aload_n 337 K dL_brief_336 rfl rfl 0 rfl ?_
                                refine z_iload 339 K dL_brief_337 rfl 5 rfl ?_
                                refine z_iconst 340 K dL_brief_339 rfl ?_
                                refine z_vVi (As := [.int (iZ kz), .int (iZ 0)]) (rest := [.int (iZ (f (2 * nz + 3)))]) 343 K 0 (by decide) gMa rfl rfl (e_exh0 l g _ kz _ _ _ _ _ _ hI hP (by omega)) (cwV 2 K.1.2.2.2.2 gL_brief_X8_exhibit rfl rfl rfl (by decide +kernel) ⟨Nat.le_of_ble_eq_true rfl, Nat.le_of_ble_eq_true rfl⟩) rfl (Nat.le_of_ble_eq_true rfl) dL_brief_340 rfl ⟨Nat.le_of_ble_eq_true rfl, Nat.le_of_ble_eq_true rfl⟩ rfl (fun z_88 C_89 hp_340 => ?_)
                                refine z_C hp_340.1 ?_
                                refine z_top (f (2 * kz + 3)) hp_340.2 ?_
                                refine z_icmp_eq (tgt := 350) 346 K dL_brief_343 rfl (by decide) (by omega) (by omega) (fun c_343 => ?_) (fun c_343 => ?_)
                                · exact absurd c_343 (hw.inj nz kz (by omega) (by omega) (by omega))
                                · skip
                                  refine z_iconst 347 K dL_brief_346 rfl ?_
                                  refine z_goto (tgt := 351) K dL_brief_347 (by decide) ?_
                                  refine z_istore (lv' := [(4, .int (iZ 1)), (0, .ref (aD g 0)), (1, .int (iZ (f 1))), (2, .int (iZ (s2 + sPg f kz))), (3, .int (iZ (sPg f kz))), (5, .int (iZ kz)), (7, .int (iZ nz))]) 353 K dL_brief_351 rfl (by decide) rfl ?_
                                  refine z_iinc (lv' := [(7, .int (iZ (nz + 1))), (4, .int (iZ 1)), (0, .ref (aD g 0)), (1, .int (iZ (f 1))), (2, .int (iZ (s2 + sPg f kz))), (3, .int (iZ (sPg f kz))), (5, .int (iZ kz))]) 356 K dL_brief_353 rfl (nz + 1) rfl 6 rfl (by decide) rfl ?_
                                  refine z_goto (tgt := 317) K dL_brief_356 (by decide) ?_
                                  refine z_sub [2, 3, 4, 5, 1, 6, 0] rfl ?_
                                  exact ih_317 (nz + 1) (by omega) (by omega)
                          refine z_sub [5, 6, 3, 2, 1, 7, 0] rfl ?_
                          exact loop_317 (Int.toNat (kz - 0) + 1) 0 (by omega) (by omega)
                        · exact absurd c_262 (by omega)
                      refine z_iload_n 229 K dL_brief_228 rfl rfl 0 rfl ?_
                      refine z_aload_n 230 K dL_brief_229 rfl rfl 3 rfl ?_
                      refine z_bipush 232 K dL_brief_230 rfl rfl ?_
                      refine z_vVi (As := [.int (iZ 7)]) (rest := [.int (iZ (sPg f kz))]) 235 K 0 (by decide) gMa rfl rfl (e_cnt7 l g _ _ _ _ _ _ _ hI hP) (cwV 1 K.1.2.2.2.2 gL_brief_X8_count rfl rfl rfl (by decide +kernel) ⟨Nat.le_of_ble_eq_true rfl, Nat.le_of_ble_eq_true rfl⟩) rfl (Nat.le_of_ble_eq_true rfl) dL_brief_232 rfl ⟨Nat.le_of_ble_eq_true rfl, Nat.le_of_ble_eq_true rfl⟩ rfl (fun z_90 C_91 hp_232 => ?_)
                      refine z_C hp_232.1 ?_
                      refine z_top (f 0) hp_232.2 ?_
                      refine z_icmp_le (tgt := 248) 238 K dL_brief_235 rfl (by decide) (by omega) (by omega) (fun c_235 => ?_) (fun c_235 => ?_)
                      · skip
                        refine z_iconst 249 K dL_brief_248 rfl ?_
                        refine z_goto (tgt := 253) K dL_brief_249 (by decide) ?_
                        exact join_253_j_85  
                      · skip
                        refine z_aload_n 239 K dL_brief_238 rfl rfl 3 rfl ?_
                        refine z_iload 241 K dL_brief_239 rfl 6 rfl ?_
                        refine z_iconst 242 K dL_brief_241 rfl ?_
                        refine z_vVi (As := [.int (iZ kz), .int (iZ 3)]) (rest := []) 245 K 0 (by decide) gMa rfl rfl (e_exh3 l g _ kz _ _ _ _ _ _ hI hP (by omega)) (cwV 2 K.1.2.2.2.2 gL_brief_X8_exhibit rfl rfl rfl (by decide +kernel) ⟨Nat.le_of_ble_eq_true rfl, Nat.le_of_ble_eq_true rfl⟩) rfl (Nat.le_of_ble_eq_true rfl) dL_brief_242 rfl ⟨Nat.le_of_ble_eq_true rfl, Nat.le_of_ble_eq_true rfl⟩ rfl (fun z_92 C_93 hp_242 => ?_)
                        refine z_C hp_242.1 ?_
                        refine z_top (zTb (sPg f) (f 0) kz) hp_242.2 ?_
                        refine z_if_ne (tgt := 252) 248 K dL_brief_245 rfl (by decide) (by omega) (fun c_245 => ?_) (fun c_245 => ?_)
                        · exact absurd c_245 (by omega)
                        · skip
                          refine z_iconst 249 K dL_brief_248 rfl ?_
                          refine z_goto (tgt := 253) K dL_brief_249 (by decide) ?_
                          exact join_253_j_85  
                    · exact absurd c_165 (by omega)
            · exact absurd c_71 (by omega)
          · skip
            have hlx := lie_rng hw (k := kz) (by omega) (by omega)
            have hly := lie_rng hw (k := kz - 1) (by omega) (by omega)
            have hh4 := hh3 hlc.1
            refine z_iload 71 K dL_brief_69 rfl 5 rfl ?_
            refine z_if_le (tgt := 97) 74 K dL_brief_71 rfl (by decide) (by omega) (fun c_71 => ?_) (fun c_71 => ?_)
            · exact absurd c_71 (by omega)
            · skip
              refine z_aload_n 75 K dL_brief_74 rfl rfl 0 rfl ?_
              refine z_iload 77 K dL_brief_75 rfl 5 rfl ?_
              refine z_iconst 78 K dL_brief_77 rfl ?_
              refine z_vVi (As := [.int (iZ kz), .int (iZ 2)]) (rest := []) 81 K 0 (by decide) gMa rfl rfl (e_exh2 l g _ kz _ _ _ _ _ _ hI hP (by omega)) (cwV 2 K.1.2.2.2.2 gL_brief_X8_exhibit rfl rfl rfl (by decide +kernel) ⟨Nat.le_of_ble_eq_true rfl, Nat.le_of_ble_eq_true rfl⟩) rfl (Nat.le_of_ble_eq_true rfl) dL_brief_78 rfl ⟨Nat.le_of_ble_eq_true rfl, Nat.le_of_ble_eq_true rfl⟩ rfl (fun z_94 C_95 hp_78 => ?_)
              refine z_C hp_78.1 ?_
              refine z_top (zBn (sPg f) (f 0) kz) hp_78.2 ?_
              refine z_aload_n 82 K dL_brief_81 rfl rfl 0 rfl ?_
              refine z_iload 84 K dL_brief_82 rfl 5 rfl ?_
              refine z_iconst 85 K dL_brief_84 rfl ?_
              refine z_isub 86 K dL_brief_85 rfl ?_
              refine z_iconst 87 K dL_brief_86 rfl ?_
              refine z_vVi (As := [.int (iZ (kz - 1)), .int (iZ 2)]) (rest := [.int (iZ (zBn (sPg f) (f 0) kz))]) 90 K 0 (by decide) gMa rfl rfl (e_exh2 l g _ (kz - 1) _ _ _ _ _ _ hI hP (by omega)) (cwV 2 K.1.2.2.2.2 gL_brief_X8_exhibit rfl rfl rfl (by decide +kernel) ⟨Nat.le_of_ble_eq_true rfl, Nat.le_of_ble_eq_true rfl⟩) rfl (Nat.le_of_ble_eq_true rfl) dL_brief_87 rfl ⟨Nat.le_of_ble_eq_true rfl, Nat.le_of_ble_eq_true rfl⟩ rfl (fun z_96 C_97 hp_87 => ?_)
              refine z_C hp_87.1 ?_
              refine z_top (zBn (sPg f) (f 0) (kz - 1)) hp_87.2 ?_
              refine z_icmp_eq (tgt := 97) 93 K dL_brief_90 rfl (by decide) (by omega) (by omega) (fun c_90 => ?_) (fun c_90 => ?_)
              · exact absurd c_90 (by omega)
              · skip
                refine z_iconst 94 K dL_brief_93 rfl ?_
                refine z_goto (tgt := 98) K dL_brief_94 (by decide) ?_
                refine z_istore (lv' := [(6, .int (iZ 1)), (0, .ref (aD g 0)), (1, .int (iZ (f 1))), (2, .int (iZ s2)), (3, .int (iZ h3)), (4, .int (iZ 1)), (5, .int (iZ kz))]) 100 K dL_brief_98 rfl (by decide) rfl ?_
                refine z_iload_n 101 K dL_brief_100 rfl rfl 3 rfl ?_
                refine z_aload_n 102 K dL_brief_101 rfl rfl 1 rfl ?_
                refine z_iload 104 K dL_brief_102 rfl 6 rfl ?_
                refine z_iconst 105 K dL_brief_104 rfl ?_
                refine z_vVi (As := [.int (iZ kz), .int (iZ 1)]) (rest := [.int (iZ s2)]) 108 K 0 (by decide) gMa rfl rfl (e_exh1 l g _ kz _ _ _ _ _ _ hI hP (by omega)) (cwV 2 K.1.2.2.2.2 gL_brief_X8_exhibit rfl rfl rfl (by decide +kernel) ⟨Nat.le_of_ble_eq_true rfl, Nat.le_of_ble_eq_true rfl⟩) rfl (Nat.le_of_ble_eq_true rfl) dL_brief_105 rfl ⟨Nat.le_of_ble_eq_true rfl, Nat.le_of_ble_eq_true rfl⟩ rfl (fun z_98 C_99 hp_105 => ?_)
                refine z_C hp_105.1 ?_
                refine z_top (sPg f kz) hp_105.2 ?_
                refine z_iadd 109 K dL_brief_108 rfl ?_
                refine z_top (s2 + sPg f kz) (by omega) ?_
                refine z_istore_n (lv' := [(2, .int (iZ (s2 + sPg f kz))), (6, .int (iZ 1)), (0, .ref (aD g 0)), (1, .int (iZ (f 1))), (3, .int (iZ h3)), (4, .int (iZ 1)), (5, .int (iZ kz))]) 110 K dL_brief_109 rfl rfl (by decide) rfl ?_
                refine z_iload 112 K dL_brief_110 rfl 1 rfl ?_
                refine z_if_ne (tgt := 120) 115 K dL_brief_112 rfl (by decide) (by decide) (fun c_112 => ?_) (fun c_112 => ?_)
                rotate_left 1
                · exact absurd c_112 (by decide)
                refine z_aload_n 121 K dL_brief_120 rfl rfl 2 rfl ?_
                refine z_iload 123 K dL_brief_121 rfl 6 rfl ?_
                refine z_iconst 124 K dL_brief_123 rfl ?_
                refine z_vVi (As := [.int (iZ kz), .int (iZ 1)]) (rest := []) 127 K 0 (by decide) gMa rfl rfl (e_exh1 l g _ kz _ _ _ _ _ _ hI hP (by omega)) (cwV 2 K.1.2.2.2.2 gL_brief_X8_exhibit rfl rfl rfl (by decide +kernel) ⟨Nat.le_of_ble_eq_true rfl, Nat.le_of_ble_eq_true rfl⟩) rfl (Nat.le_of_ble_eq_true rfl) dL_brief_124 rfl ⟨Nat.le_of_ble_eq_true rfl, Nat.le_of_ble_eq_true rfl⟩ rfl (fun z_100 C_101 hp_124 => ?_)
                refine z_C hp_124.1 ?_
                refine z_top (sPg f kz) hp_124.2 ?_
                refine z_goto (tgt := 139) K dL_brief_127 (by decide) ?_
                refine z_istore_n (lv' := [(3, .int (iZ (sPg f kz))), (2, .int (iZ (s2 + sPg f kz))), (6, .int (iZ 1)), (0, .ref (aD g 0)), (1, .int (iZ (f 1))), (4, .int (iZ 1)), (5, .int (iZ kz))]) 140 K dL_brief_139 rfl rfl (by decide) rfl ?_
                refine z_aload_n 141 K dL_brief_140 rfl rfl 3 rfl ?_
                refine z_iload 143 K dL_brief_141 rfl 6 rfl ?_
                refine z_iconst 144 K dL_brief_143 rfl ?_
                refine z_vVi (As := [.int (iZ kz), .int (iZ 1)]) (rest := []) 147 K 0 (by decide) gMa rfl rfl (e_exh1 l g _ kz _ _ _ _ _ _ hI hP (by omega)) (cwV 2 K.1.2.2.2.2 gL_brief_X8_exhibit rfl rfl rfl (by decide +kernel) ⟨Nat.le_of_ble_eq_true rfl, Nat.le_of_ble_eq_true rfl⟩) rfl (Nat.le_of_ble_eq_true rfl) dL_brief_144 rfl ⟨Nat.le_of_ble_eq_true rfl, Nat.le_of_ble_eq_true rfl⟩ rfl (fun z_102 C_103 hp_144 => ?_)
                refine z_C hp_144.1 ?_
                refine z_top (sPg f kz) hp_144.2 ?_
                refine z_iconst 148 K dL_brief_147 rfl ?_
                refine z_icmp_lt (tgt := 252) 151 K dL_brief_148 rfl (by decide) (by omega) (by decide) (fun c_148 => ?_) (fun c_148 => ?_)
                · exact absurd c_148 (by omega)
                · skip
                  refine z_aload_n 152 K dL_brief_151 rfl rfl 3 rfl ?_
                  refine z_iload 154 K dL_brief_152 rfl 6 rfl ?_
                  refine z_iconst 155 K dL_brief_154 rfl ?_
                  refine z_vVi (As := [.int (iZ kz), .int (iZ 1)]) (rest := []) 158 K 0 (by decide) gMa rfl rfl (e_exh1 l g _ kz _ _ _ _ _ _ hI hP (by omega)) (cwV 2 K.1.2.2.2.2 gL_brief_X8_exhibit rfl rfl rfl (by decide +kernel) ⟨Nat.le_of_ble_eq_true rfl, Nat.le_of_ble_eq_true rfl⟩) rfl (Nat.le_of_ble_eq_true rfl) dL_brief_155 rfl ⟨Nat.le_of_ble_eq_true rfl, Nat.le_of_ble_eq_true rfl⟩ rfl (fun z_104 C_105 hp_155 => ?_)
                  refine z_C hp_155.1 ?_
                  refine z_top (sPg f kz) hp_155.2 ?_
                  refine z_bipush 160 K dL_brief_158 rfl rfl ?_
                  refine z_icmp_gt (tgt := 252) 163 K dL_brief_160 rfl (by decide) (by omega) (by decide) (fun c_160 => ?_) (fun c_160 => ?_)
                  · exact absurd c_160 (by omega)
                  · skip
                    refine z_iload 165 K dL_brief_163 rfl 6 rfl ?_
                    refine z_if_eq (tgt := 228) 168 K dL_brief_165 rfl (by decide) (by omega) (fun c_165 => ?_) (fun c_165 => ?_)
                    · exact absurd c_165 (by omega)
                    · skip
                      refine z_iload 170 K dL_brief_168 rfl 2 rfl ?_
                      refine z_if_eq (tgt := 207) 173 K dL_brief_170 rfl (by decide) (by decide) (fun c_170 => ?_) (fun c_170 => ?_)
                      · exact absurd c_170 (by decide)
                      refine z_aload_n 174 K dL_brief_173 rfl rfl 3 rfl ?_
                      refine z_iload 176 K dL_brief_174 rfl 6 rfl ?_
                      refine z_iconst 177 K dL_brief_176 rfl ?_
                      refine z_vVi (As := [.int (iZ kz), .int (iZ 2)]) (rest := []) 180 K 0 (by decide) gMa rfl rfl (e_exh2 l g _ kz _ _ _ _ _ _ hI hP (by omega)) (cwV 2 K.1.2.2.2.2 gL_brief_X8_exhibit rfl rfl rfl (by decide +kernel) ⟨Nat.le_of_ble_eq_true rfl, Nat.le_of_ble_eq_true rfl⟩) rfl (Nat.le_of_ble_eq_true rfl) dL_brief_177 rfl ⟨Nat.le_of_ble_eq_true rfl, Nat.le_of_ble_eq_true rfl⟩ rfl (fun z_106 C_107 hp_177 => ?_)
                      refine z_C hp_177.1 ?_
                      refine z_top (zBn (sPg f) (f 0) kz) hp_177.2 ?_
                      refine z_aload_n 181 K dL_brief_180 rfl rfl 3 rfl ?_
                      refine z_iload 183 K dL_brief_181 rfl 6 rfl ?_
                      refine z_iconst 184 K dL_brief_183 rfl ?_
                      refine z_isub 185 K dL_brief_184 rfl ?_
                      refine z_iconst 186 K dL_brief_185 rfl ?_
                      refine z_vVi (As := [.int (iZ (kz - 1)), .int (iZ 2)]) (rest := [.int (iZ (zBn (sPg f) (f 0) kz))]) 189 K 0 (by decide) gMa rfl rfl (e_exh2 l g _ (kz - 1) _ _ _ _ _ _ hI hP (by omega)) (cwV 2 K.1.2.2.2.2 gL_brief_X8_exhibit rfl rfl rfl (by decide +kernel) ⟨Nat.le_of_ble_eq_true rfl, Nat.le_of_ble_eq_true rfl⟩) rfl (Nat.le_of_ble_eq_true rfl) dL_brief_186 rfl ⟨Nat.le_of_ble_eq_true rfl, Nat.le_of_ble_eq_true rfl⟩ rfl (fun z_108 C_109 hp_186 => ?_)
                      refine z_C hp_186.1 ?_
                      refine z_top (zBn (sPg f) (f 0) (kz - 1)) hp_186.2 ?_
                      refine z_iconst 190 K dL_brief_189 rfl ?_
                      refine z_iadd 191 K dL_brief_190 rfl ?_
                      refine z_icmp_ne (tgt := 252) 194 K dL_brief_191 rfl (by decide) (by omega) (by omega) (fun c_191 => ?_) (fun c_191 => ?_)
                      · exact absurd c_191 (by omega)
                      · skip
                        refine z_aload_n 195 K dL_brief_194 rfl rfl 3 rfl ?_
                        refine z_iload 197 K dL_brief_195 rfl 6 rfl ?_
                        refine z_iconst 198 K dL_brief_197 rfl ?_
                        refine z_vVi (As := [.int (iZ kz), .int (iZ 3)]) (rest := []) 201 K 0 (by decide) gMa rfl rfl (e_exh3 l g _ kz _ _ _ _ _ _ hI hP (by omega)) (cwV 2 K.1.2.2.2.2 gL_brief_X8_exhibit rfl rfl rfl (by decide +kernel) ⟨Nat.le_of_ble_eq_true rfl, Nat.le_of_ble_eq_true rfl⟩) rfl (Nat.le_of_ble_eq_true rfl) dL_brief_198 rfl ⟨Nat.le_of_ble_eq_true rfl, Nat.le_of_ble_eq_true rfl⟩ rfl (fun z_110 C_111 hp_198 => ?_)
                        refine z_C hp_198.1 ?_
                        refine z_top (zTb (sPg f) (f 0) kz) hp_198.2 ?_
                        refine z_if_ne (tgt := 252) 204 K dL_brief_201 rfl (by decide) (by omega) (fun c_201 => ?_) (fun c_201 => ?_)
                        · exact absurd c_201 (by omega)
                        · skip
                          refine z_goto (tgt := 228) K dL_brief_204 (by decide) ?_
                          have join_253_j_112 :  Z p l e (({ frames := 5, cells := 0, slots := 0, locals := 112 } : Room)) s m args below meth c (MQ below (zQi g (fun z C' => C' = C ∧ z = 1)) args s 0 0 (zA g)) g 13 0 0 (C) [(3, .int (iZ (sPg f kz))), (2, .int (iZ (s2 + sPg f kz))), (6, .int (iZ 1)), (0, .ref (aD g 0)), (1, .int (iZ (f 1))), (4, .int (iZ 1)), (5, .int (iZ kz))] 253 [.int (iZ 1)] := by
                            refine z_istore (lv' := [(4, .int (iZ 1)), (3, .int (iZ (sPg f kz))), (2, .int (iZ (s2 + sPg f kz))), (6, .int (iZ 1)), (0, .ref (aD g 0)), (1, .int (iZ (f 1))), (5, .int (iZ kz))]) 255 K dL_brief_253 rfl (by decide) rfl ?_
                            refine z_iload 257 K dL_brief_255 rfl 0 rfl ?_
                            refine z_if_eq (tgt := 311) 260 K dL_brief_257 rfl (by decide) (by decide) (fun c_257 => ?_) (fun c_257 => ?_)
                            · exact absurd c_257 (by decide)
                            refine z_iload 262 K dL_brief_260 rfl 6 rfl ?_
                            refine z_if_eq (tgt := 307) 265 K dL_brief_262 rfl (by decide) (by omega) (fun c_262 => ?_) (fun c_262 => ?_)
                            · exact absurd c_262 (by omega)
                            · skip
                              refine z_aload_n 266 K dL_brief_265 rfl rfl 4 rfl ?_
                              refine z_iload 268 K dL_brief_266 rfl 6 rfl ?_
                              refine z_iconst 269 K dL_brief_268 rfl ?_
                              refine z_vVi (As := [.int (iZ kz), .int (iZ 4)]) (rest := []) 272 K 0 (by decide) gMa rfl rfl (e_exh4 l g _ kz _ _ _ _ _ _ hI hP (by omega)) (cwV 2 K.1.2.2.2.2 gL_brief_X8_exhibit rfl rfl rfl (by decide +kernel) ⟨Nat.le_of_ble_eq_true rfl, Nat.le_of_ble_eq_true rfl⟩) rfl (Nat.le_of_ble_eq_true rfl) dL_brief_269 rfl ⟨Nat.le_of_ble_eq_true rfl, Nat.le_of_ble_eq_true rfl⟩ rfl (fun z_113 C_114 hp_269 => ?_)
                              refine z_C hp_269.1 ?_
                              refine z_top (zFp (sPg f) (f 0) kz) hp_269.2 ?_
                              refine z_aload_n 273 K dL_brief_272 rfl rfl 4 rfl ?_
                              refine z_iload 275 K dL_brief_273 rfl 6 rfl ?_
                              refine z_iconst 276 K dL_brief_275 rfl ?_
                              refine z_isub 277 K dL_brief_276 rfl ?_
                              refine z_iconst 278 K dL_brief_277 rfl ?_
                              refine z_vVi (As := [.int (iZ (kz - 1)), .int (iZ 4)]) (rest := [.int (iZ (zFp (sPg f) (f 0) kz))]) 281 K 0 (by decide) gMa rfl rfl (e_exh4 l g _ (kz - 1) _ _ _ _ _ _ hI hP (by omega)) (cwV 2 K.1.2.2.2.2 gL_brief_X8_exhibit rfl rfl rfl (by decide +kernel) ⟨Nat.le_of_ble_eq_true rfl, Nat.le_of_ble_eq_true rfl⟩) rfl (Nat.le_of_ble_eq_true rfl) dL_brief_278 rfl ⟨Nat.le_of_ble_eq_true rfl, Nat.le_of_ble_eq_true rfl⟩ rfl (fun z_115 C_116 hp_278 => ?_)
                              refine z_C hp_278.1 ?_
                              refine z_top (zFp (sPg f) (f 0) (kz - 1)) hp_278.2 ?_
                              refine z_aload_n 282 K dL_brief_281 rfl rfl 4 rfl ?_
                              refine z_iload 284 K dL_brief_282 rfl 6 rfl ?_
                              refine z_iconst 285 K dL_brief_284 rfl ?_
                              refine z_isub 286 K dL_brief_285 rfl ?_
                              refine z_iconst 287 K dL_brief_286 rfl ?_
                              refine z_vVi (As := [.int (iZ (kz - 1)), .int (iZ 1)]) (rest := [.int (iZ (zFp (sPg f) (f 0) (kz - 1))), .int (iZ (zFp (sPg f) (f 0) kz))]) 290 K 0 (by decide) gMa rfl rfl (e_exh1 l g _ (kz - 1) _ _ _ _ _ _ hI hP (by omega)) (cwV 2 K.1.2.2.2.2 gL_brief_X8_exhibit rfl rfl rfl (by decide +kernel) ⟨Nat.le_of_ble_eq_true rfl, Nat.le_of_ble_eq_true rfl⟩) rfl (Nat.le_of_ble_eq_true rfl) dL_brief_287 rfl ⟨Nat.le_of_ble_eq_true rfl, Nat.le_of_ble_eq_true rfl⟩ rfl (fun z_117 C_118 hp_287 => ?_)
                              refine z_C hp_287.1 ?_
                              refine z_top (sPg f (kz - 1)) hp_287.2 ?_
                              refine z_iadd 291 K dL_brief_290 rfl ?_
                              refine z_top (sPg f (kz - 1) + zFp (sPg f) (f 0) (kz - 1)) (by omega) ?_
                              refine z_iconst 292 K dL_brief_291 rfl ?_
                              refine z_iadd 293 K dL_brief_292 rfl ?_
                              refine z_iload 295 K dL_brief_293 rfl 3 rfl ?_
                              refine z_if_eq (tgt := 302) 298 K dL_brief_295 rfl (by decide) (by decide) (fun c_295 => ?_) (fun c_295 => ?_)
                              · exact absurd c_295 (by decide)
                              refine z_iconst 299 K dL_brief_298 rfl ?_
                              refine z_goto (tgt := 303) K dL_brief_299 (by decide) ?_
                              refine z_iadd 304 K dL_brief_303 rfl ?_
                              refine z_top (sPg f (kz - 1) + zFp (sPg f) (f 0) (kz - 1) + 3) (by omega) ?_
                              refine z_icmp_ne (tgt := 311) 307 K dL_brief_304 rfl (by decide) (by omega) (by omega) (fun c_304 => ?_) (fun c_304 => ?_)
                              · exact absurd c_304 (by omega)
                              · skip
                                refine z_iconst 308 K dL_brief_307 rfl ?_
                                refine z_goto (tgt := 312) K dL_brief_308 (by decide) ?_
                                refine z_istore (lv' := [(4, .int (iZ 1)), (3, .int (iZ (sPg f kz))), (2, .int (iZ (s2 + sPg f kz))), (6, .int (iZ 1)), (0, .ref (aD g 0)), (1, .int (iZ (f 1))), (5, .int (iZ kz))]) 314 K dL_brief_312 rfl (by decide) rfl ?_
                                refine z_iconst 315 K dL_brief_314 rfl ?_
                                refine z_istore (lv' := [(7, .int (iZ 0)), (4, .int (iZ 1)), (3, .int (iZ (sPg f kz))), (2, .int (iZ (s2 + sPg f kz))), (6, .int (iZ 1)), (0, .ref (aD g 0)), (1, .int (iZ (f 1))), (5, .int (iZ kz))]) 317 K dL_brief_315 rfl (by decide) rfl ?_
                                have loop_317 : ∀ (n9 : Nat) (nz : Int), (0 ≤ nz ∧ nz ≤ kz) → (kz - nz < (n9 : Int)) → Z p l e (({ frames := 5, cells := 0, slots := 0, locals := 112 } : Room)) s m args below meth c (MQ below (zQi g (fun z C' => C' = C ∧ z = 1)) args s 0 0 (zA g)) g 13 0 0 (C) [(0, .ref (aD g 0)), (1, .int (iZ (f 1))), (2, .int (iZ (s2 + sPg f kz))), (3, .int (iZ (sPg f kz))), (4, .int (iZ 1)), (5, .int (iZ kz)), (7, .int (iZ nz))] 317 [] := by
                                  intro n9
                                  induction n9 with
                                  | zero =>
                                    intro nz hnz hm9
                                    exact absurd hm9 (by omega)
                                  | succ n9 ih9 =>
                                    intro nz hnz hm_317
                                    have ih_317 := ih9
                                    clear ih9
                                    refine z_iload 319 K dL_brief_317 rfl 6 rfl ?_
                                    refine z_iload 321 K dL_brief_319 rfl 5 rfl ?_
                                    refine z_icmp_ge (tgt := 359) 324 K dL_brief_321 rfl (by decide) (by omega) (by omega) (fun c_321 => ?_) (fun c_321 => ?_)
                                    · skip
                                      refine z_iinc (lv' := [(5, .int (iZ (kz + 1))), (0, .ref (aD g 0)), (1, .int (iZ (f 1))), (2, .int (iZ (s2 + sPg f kz))), (3, .int (iZ (sPg f kz))), (4, .int (iZ 1)), (7, .int (iZ nz))]) 362 K dL_brief_359 rfl (kz + 1) rfl 5 rfl (by decide) rfl ?_
                                      refine z_goto (tgt := 58) K dL_brief_362 (by decide) ?_
                                      refine z_sub [1, 2, 3, 4, 5, 0] rfl ?_
                                      exact ih_58 (s2 + sPg f kz) (sPg f kz) (kz + 1) (by omega) (by rw [zsum_1 _ hkz.1]; omega) (by have q := sSm_rng hw (k := kz + 1) (by omega) (by omega); rw [zsum_1 _ hkz.1] at q; omega) (fun _ => (by rw [show kz + 1 - 1 = kz by omega]; omega)) (by omega)
                                    · skip
                                      refine z_iload 326 K dL_brief_324 rfl 4 rfl ?_
                                      refine z_if_eq (tgt := 359) 329 K dL_brief_326 rfl (by decide) (by decide) (fun c_326 => ?_) (fun c_326 => ?_)
                                      · exact absurd c_326 (by decide)
                                      have hrn := lie_rng hw (k := nz) (by omega) (by omega)
                                      refine z_aload_n 330 K dL_brief_329 rfl rfl 0 rfl ?_
                                      refine z_iload 332 K dL_brief_330 rfl 6 rfl ?_
                                      refine z_iconst 333 K dL_brief_332 rfl ?_
                                      refine z_vVi (As := [.int (iZ nz), .int (iZ 0)]) (rest := []) 336 K 0 (by decide) gMa rfl rfl (e_exh0 l g _ nz _ _ _ _ _ _ hI hP (by omega)) (cwV 2 K.1.2.2.2.2 gL_brief_X8_exhibit rfl rfl rfl (by decide +kernel) ⟨Nat.le_of_ble_eq_true rfl, Nat.le_of_ble_eq_true rfl⟩) rfl (Nat.le_of_ble_eq_true rfl) dL_brief_333 rfl ⟨Nat.le_of_ble_eq_true rfl, Nat.le_of_ble_eq_true rfl⟩ rfl (fun z_119 C_120 hp_333 => ?_)
                                      refine z_C hp_333.1 ?_
                                      refine z_top (f (2 * nz + 3)) hp_333.2 ?_
                                      refine z_aload_n 337 K dL_brief_336 rfl rfl 0 rfl ?_
                                      refine z_iload 339 K dL_brief_337 rfl 5 rfl ?_
                                      refine z_iconst 340 K dL_brief_339 rfl ?_
                                      refine z_vVi (As := [.int (iZ kz), .int (iZ 0)]) (rest := [.int (iZ (f (2 * nz + 3)))]) 343 K 0 (by decide) gMa rfl rfl (e_exh0 l g _ kz _ _ _ _ _ _ hI hP (by omega)) (cwV 2 K.1.2.2.2.2 gL_brief_X8_exhibit rfl rfl rfl (by decide +kernel) ⟨Nat.le_of_ble_eq_true rfl, Nat.le_of_ble_eq_true rfl⟩) rfl (Nat.le_of_ble_eq_true rfl) dL_brief_340 rfl ⟨Nat.le_of_ble_eq_true rfl, Nat.le_of_ble_eq_true rfl⟩ rfl (fun z_121 C_122 hp_340 => ?_)
                                      refine z_C hp_340.1 ?_
                                      refine z_top (f (2 * kz + 3)) hp_340.2 ?_
                                      refine z_icmp_eq (tgt := 350) 346 K dL_brief_343 rfl (by decide) (by omega) (by omega) (fun c_343 => ?_) (fun c_343 => ?_)
                                      · exact absurd c_343 (hw.inj nz kz (by omega) (by omega) (by omega))
                                      · skip
                                        refine z_iconst 347 K dL_brief_346 rfl ?_
                                        refine z_goto (tgt := 351) K dL_brief_347 (by decide) ?_
                                        refine z_istore (lv' := [(4, .int (iZ 1)), (0, .ref (aD g 0)), (1, .int (iZ (f 1))), (2, .int (iZ (s2 + sPg f kz))), (3, .int (iZ (sPg f kz))), (5, .int (iZ kz)), (7, .int (iZ nz))]) 353 K dL_brief_351 rfl (by decide) rfl ?_
                                        refine z_iinc (lv' := [(7, .int (iZ (nz + 1))), (4, .int (iZ 1)), (0, .ref (aD g 0)), (1, .int (iZ (f 1))), (2, .int (iZ (s2 + sPg f kz))), (3, .int (iZ (sPg f kz))), (5, .int (iZ kz))]) 356 K dL_brief_353 rfl (nz + 1) rfl 6 rfl (by decide) rfl ?_
                                        refine z_goto (tgt := 317) K dL_brief_356 (by decide) ?_
                                        refine z_sub [2, 3, 4, 5, 1, 6, 0] rfl ?_
                                        exact ih_317 (nz + 1) (by omega) (by omega)
                                refine z_sub [5, 6, 3, 2, 1, 7, 0] rfl ?_
                                exact loop_317 (Int.toNat (kz - 0) + 1) 0 (by omega) (by omega)
                          refine z_iload_n 229 K dL_brief_228 rfl rfl 0 rfl ?_
                          refine z_aload_n 230 K dL_brief_229 rfl rfl 3 rfl ?_
                          refine z_bipush 232 K dL_brief_230 rfl rfl ?_
                          refine z_vVi (As := [.int (iZ 7)]) (rest := [.int (iZ (sPg f kz))]) 235 K 0 (by decide) gMa rfl rfl (e_cnt7 l g _ _ _ _ _ _ _ hI hP) (cwV 1 K.1.2.2.2.2 gL_brief_X8_count rfl rfl rfl (by decide +kernel) ⟨Nat.le_of_ble_eq_true rfl, Nat.le_of_ble_eq_true rfl⟩) rfl (Nat.le_of_ble_eq_true rfl) dL_brief_232 rfl ⟨Nat.le_of_ble_eq_true rfl, Nat.le_of_ble_eq_true rfl⟩ rfl (fun z_123 C_124 hp_232 => ?_)
                          refine z_C hp_232.1 ?_
                          refine z_top (f 0) hp_232.2 ?_
                          refine z_icmp_le (tgt := 248) 238 K dL_brief_235 rfl (by decide) (by omega) (by omega) (fun c_235 => ?_) (fun c_235 => ?_)
                          · skip
                            refine z_iconst 249 K dL_brief_248 rfl ?_
                            refine z_goto (tgt := 253) K dL_brief_249 (by decide) ?_
                            exact join_253_j_112  
                          · skip
                            refine z_aload_n 239 K dL_brief_238 rfl rfl 3 rfl ?_
                            refine z_iload 241 K dL_brief_239 rfl 6 rfl ?_
                            refine z_iconst 242 K dL_brief_241 rfl ?_
                            refine z_vVi (As := [.int (iZ kz), .int (iZ 3)]) (rest := []) 245 K 0 (by decide) gMa rfl rfl (e_exh3 l g _ kz _ _ _ _ _ _ hI hP (by omega)) (cwV 2 K.1.2.2.2.2 gL_brief_X8_exhibit rfl rfl rfl (by decide +kernel) ⟨Nat.le_of_ble_eq_true rfl, Nat.le_of_ble_eq_true rfl⟩) rfl (Nat.le_of_ble_eq_true rfl) dL_brief_242 rfl ⟨Nat.le_of_ble_eq_true rfl, Nat.le_of_ble_eq_true rfl⟩ rfl (fun z_125 C_126 hp_242 => ?_)
                            refine z_C hp_242.1 ?_
                            refine z_top (zTb (sPg f) (f 0) kz) hp_242.2 ?_
                            refine z_if_ne (tgt := 252) 248 K dL_brief_245 rfl (by decide) (by omega) (fun c_245 => ?_) (fun c_245 => ?_)
                            · exact absurd c_245 (by omega)
                            · skip
                              refine z_iconst 249 K dL_brief_248 rfl ?_
                              refine z_goto (tgt := 253) K dL_brief_249 (by decide) ?_
                              exact join_253_j_112  
          · skip
            have hlx := lie_rng hw (k := kz) (by omega) (by omega)
            have hly := lie_rng hw (k := kz - 1) (by omega) (by omega)
            have hh4 := hh3 hlc.1
            refine z_iload 71 K dL_brief_69 rfl 5 rfl ?_
            refine z_if_le (tgt := 97) 74 K dL_brief_71 rfl (by decide) (by omega) (fun c_71 => ?_) (fun c_71 => ?_)
            · exact absurd c_71 (by omega)
            · skip
              refine z_aload_n 75 K dL_brief_74 rfl rfl 0 rfl ?_
              refine z_iload 77 K dL_brief_75 rfl 5 rfl ?_
              refine z_iconst 78 K dL_brief_77 rfl ?_
              refine z_vVi (As := [.int (iZ kz), .int (iZ 2)]) (rest := []) 81 K 0 (by decide) gMa rfl rfl (e_exh2 l g _ kz _ _ _ _ _ _ hI hP (by omega)) (cwV 2 K.1.2.2.2.2 gL_brief_X8_exhibit rfl rfl rfl (by decide +kernel) ⟨Nat.le_of_ble_eq_true rfl, Nat.le_of_ble_eq_true rfl⟩) rfl (Nat.le_of_ble_eq_true rfl) dL_brief_78 rfl ⟨Nat.le_of_ble_eq_true rfl, Nat.le_of_ble_eq_true rfl⟩ rfl (fun z_127 C_128 hp_78 => ?_)
              refine z_C hp_78.1 ?_
              refine z_top (zBn (sPg f) (f 0) kz) hp_78.2 ?_
              refine z_aload_n 82 K dL_brief_81 rfl rfl 0 rfl ?_
              refine z_iload 84 K dL_brief_82 rfl 5 rfl ?_
              refine z_iconst 85 K dL_brief_84 rfl ?_
              refine z_isub 86 K dL_brief_85 rfl ?_
              refine z_iconst 87 K dL_brief_86 rfl ?_
              refine z_vVi (As := [.int (iZ (kz - 1)), .int (iZ 2)]) (rest := [.int (iZ (zBn (sPg f) (f 0) kz))]) 90 K 0 (by decide) gMa rfl rfl (e_exh2 l g _ (kz - 1) _ _ _ _ _ _ hI hP (by omega)) (cwV 2 K.1.2.2.2.2 gL_brief_X8_exhibit rfl rfl rfl (by decide +kernel) ⟨Nat.le_of_ble_eq_true rfl, Nat.le_of_ble_eq_true rfl⟩) rfl (Nat.le_of_ble_eq_true rfl) dL_brief_87 rfl ⟨Nat.le_of_ble_eq_true rfl, Nat.le_of_ble_eq_true rfl⟩ rfl (fun z_129 C_130 hp_87 => ?_)
              refine z_C hp_87.1 ?_
              refine z_top (zBn (sPg f) (f 0) (kz - 1)) hp_87.2 ?_
              refine z_icmp_eq (tgt := 97) 93 K dL_brief_90 rfl (by decide) (by omega) (by omega) (fun c_90 => ?_) (fun c_90 => ?_)
              · skip
                refine z_iconst 98 K dL_brief_97 rfl ?_
                refine z_istore (lv' := [(6, .int (iZ 0)), (0, .ref (aD g 0)), (1, .int (iZ (f 1))), (2, .int (iZ s2)), (3, .int (iZ h3)), (4, .int (iZ 1)), (5, .int (iZ kz))]) 100 K dL_brief_98 rfl (by decide) rfl ?_
                refine z_iload_n 101 K dL_brief_100 rfl rfl 3 rfl ?_
                refine z_aload_n 102 K dL_brief_101 rfl rfl 1 rfl ?_
                refine z_iload 104 K dL_brief_102 rfl 6 rfl ?_
                refine z_iconst 105 K dL_brief_104 rfl ?_
                refine z_vVi (As := [.int (iZ kz), .int (iZ 1)]) (rest := [.int (iZ s2)]) 108 K 0 (by decide) gMa rfl rfl (e_exh1 l g _ kz _ _ _ _ _ _ hI hP (by omega)) (cwV 2 K.1.2.2.2.2 gL_brief_X8_exhibit rfl rfl rfl (by decide +kernel) ⟨Nat.le_of_ble_eq_true rfl, Nat.le_of_ble_eq_true rfl⟩) rfl (Nat.le_of_ble_eq_true rfl) dL_brief_105 rfl ⟨Nat.le_of_ble_eq_true rfl, Nat.le_of_ble_eq_true rfl⟩ rfl (fun z_131 C_132 hp_105 => ?_)
                refine z_C hp_105.1 ?_
                refine z_top (sPg f kz) hp_105.2 ?_
                refine z_iadd 109 K dL_brief_108 rfl ?_
                refine z_top (s2 + sPg f kz) (by omega) ?_
                refine z_istore_n (lv' := [(2, .int (iZ (s2 + sPg f kz))), (6, .int (iZ 0)), (0, .ref (aD g 0)), (1, .int (iZ (f 1))), (3, .int (iZ h3)), (4, .int (iZ 1)), (5, .int (iZ kz))]) 110 K dL_brief_109 rfl rfl (by decide) rfl ?_
                refine z_iload 112 K dL_brief_110 rfl 1 rfl ?_
                refine z_if_ne (tgt := 120) 115 K dL_brief_112 rfl (by decide) (by decide) (fun c_112 => ?_) (fun c_112 => ?_)
                · exact absurd c_112 (by decide)
                refine z_iload 117 K dL_brief_115 rfl 6 rfl ?_
                refine z_if_ne (tgt := 130) 120 K dL_brief_117 rfl (by decide) (by omega) (fun c_117 => ?_) (fun c_117 => ?_)
                · skip
                  refine z_iload_n 131 K dL_brief_130 rfl rfl 4 rfl ?_
                  refine z_aload_n 132 K dL_brief_131 rfl rfl 2 rfl ?_
                  refine z_iload 134 K dL_brief_132 rfl 6 rfl ?_
                  refine z_iconst 135 K dL_brief_134 rfl ?_
                  refine z_vVi (As := [.int (iZ kz), .int (iZ 1)]) (rest := [.int (iZ h3)]) 138 K 0 (by decide) gMa rfl rfl (e_exh1 l g _ kz _ _ _ _ _ _ hI hP (by omega)) (cwV 2 K.1.2.2.2.2 gL_brief_X8_exhibit rfl rfl rfl (by decide +kernel) ⟨Nat.le_of_ble_eq_true rfl, Nat.le_of_ble_eq_true rfl⟩) rfl (Nat.le_of_ble_eq_true rfl) dL_brief_135 rfl ⟨Nat.le_of_ble_eq_true rfl, Nat.le_of_ble_eq_true rfl⟩ rfl (fun z_133 C_134 hp_135 => ?_)
                  refine z_C hp_135.1 ?_
                  refine z_top (sPg f kz) hp_135.2 ?_
                  refine z_iadd 139 K dL_brief_138 rfl ?_
                  refine z_top (h3 + sPg f kz) (by omega) ?_
                  refine z_istore_n (lv' := [(3, .int (iZ (h3 + sPg f kz))), (2, .int (iZ (s2 + sPg f kz))), (6, .int (iZ 0)), (0, .ref (aD g 0)), (1, .int (iZ (f 1))), (4, .int (iZ 1)), (5, .int (iZ kz))]) 140 K dL_brief_139 rfl rfl (by decide) rfl ?_
                  refine z_aload_n 141 K dL_brief_140 rfl rfl 3 rfl ?_
                  refine z_iload 143 K dL_brief_141 rfl 6 rfl ?_
                  refine z_iconst 144 K dL_brief_143 rfl ?_
                  refine z_vVi (As := [.int (iZ kz), .int (iZ 1)]) (rest := []) 147 K 0 (by decide) gMa rfl rfl (e_exh1 l g _ kz _ _ _ _ _ _ hI hP (by omega)) (cwV 2 K.1.2.2.2.2 gL_brief_X8_exhibit rfl rfl rfl (by decide +kernel) ⟨Nat.le_of_ble_eq_true rfl, Nat.le_of_ble_eq_true rfl⟩) rfl (Nat.le_of_ble_eq_true rfl) dL_brief_144 rfl ⟨Nat.le_of_ble_eq_true rfl, Nat.le_of_ble_eq_true rfl⟩ rfl (fun z_135 C_136 hp_144 => ?_)
                  refine z_C hp_144.1 ?_
                  refine z_top (sPg f kz) hp_144.2 ?_
                  refine z_iconst 148 K dL_brief_147 rfl ?_
                  refine z_icmp_lt (tgt := 252) 151 K dL_brief_148 rfl (by decide) (by omega) (by decide) (fun c_148 => ?_) (fun c_148 => ?_)
                  · exact absurd c_148 (by omega)
                  · skip
                    refine z_aload_n 152 K dL_brief_151 rfl rfl 3 rfl ?_
                    refine z_iload 154 K dL_brief_152 rfl 6 rfl ?_
                    refine z_iconst 155 K dL_brief_154 rfl ?_
                    refine z_vVi (As := [.int (iZ kz), .int (iZ 1)]) (rest := []) 158 K 0 (by decide) gMa rfl rfl (e_exh1 l g _ kz _ _ _ _ _ _ hI hP (by omega)) (cwV 2 K.1.2.2.2.2 gL_brief_X8_exhibit rfl rfl rfl (by decide +kernel) ⟨Nat.le_of_ble_eq_true rfl, Nat.le_of_ble_eq_true rfl⟩) rfl (Nat.le_of_ble_eq_true rfl) dL_brief_155 rfl ⟨Nat.le_of_ble_eq_true rfl, Nat.le_of_ble_eq_true rfl⟩ rfl (fun z_137 C_138 hp_155 => ?_)
                    refine z_C hp_155.1 ?_
                    refine z_top (sPg f kz) hp_155.2 ?_
                    refine z_bipush 160 K dL_brief_158 rfl rfl ?_
                    refine z_icmp_gt (tgt := 252) 163 K dL_brief_160 rfl (by decide) (by omega) (by decide) (fun c_160 => ?_) (fun c_160 => ?_)
                    · exact absurd c_160 (by omega)
                    · skip
                      refine z_iload 165 K dL_brief_163 rfl 6 rfl ?_
                      refine z_if_eq (tgt := 228) 168 K dL_brief_165 rfl (by decide) (by omega) (fun c_165 => ?_) (fun c_165 => ?_)
                      · exact absurd c_165 (by omega)
                      · skip
                        refine z_iload 170 K dL_brief_168 rfl 2 rfl ?_
                        refine z_if_eq (tgt := 207) 173 K dL_brief_170 rfl (by decide) (by decide) (fun c_170 => ?_) (fun c_170 => ?_)
                        rotate_left 1
                        · exact absurd c_170 (by decide)
                        refine z_aload_n 208 K dL_brief_207 rfl rfl 3 rfl ?_
                        refine z_iload 210 K dL_brief_208 rfl 6 rfl ?_
                        refine z_iconst 211 K dL_brief_210 rfl ?_
                        refine z_vVi (As := [.int (iZ kz), .int (iZ 3)]) (rest := []) 214 K 0 (by decide) gMa rfl rfl (e_exh3 l g _ kz _ _ _ _ _ _ hI hP (by omega)) (cwV 2 K.1.2.2.2.2 gL_brief_X8_exhibit rfl rfl rfl (by decide +kernel) ⟨Nat.le_of_ble_eq_true rfl, Nat.le_of_ble_eq_true rfl⟩) rfl (Nat.le_of_ble_eq_true rfl) dL_brief_211 rfl ⟨Nat.le_of_ble_eq_true rfl, Nat.le_of_ble_eq_true rfl⟩ rfl (fun z_139 C_140 hp_211 => ?_)
                        refine z_C hp_211.1 ?_
                        refine z_top (zTb (sPg f) (f 0) kz) hp_211.2 ?_
                        refine z_aload_n 215 K dL_brief_214 rfl rfl 3 rfl ?_
                        refine z_iload 217 K dL_brief_215 rfl 6 rfl ?_
                        refine z_iconst 218 K dL_brief_217 rfl ?_
                        refine z_isub 219 K dL_brief_218 rfl ?_
                        refine z_iconst 220 K dL_brief_219 rfl ?_
                        refine z_vVi (As := [.int (iZ (kz - 1)), .int (iZ 3)]) (rest := [.int (iZ (zTb (sPg f) (f 0) kz))]) 223 K 0 (by decide) gMa rfl rfl (e_exh3 l g _ (kz - 1) _ _ _ _ _ _ hI hP (by omega)) (cwV 2 K.1.2.2.2.2 gL_brief_X8_exhibit rfl rfl rfl (by decide +kernel) ⟨Nat.le_of_ble_eq_true rfl, Nat.le_of_ble_eq_true rfl⟩) rfl (Nat.le_of_ble_eq_true rfl) dL_brief_220 rfl ⟨Nat.le_of_ble_eq_true rfl, Nat.le_of_ble_eq_true rfl⟩ rfl (fun z_141 C_142 hp_220 => ?_)
                        refine z_C hp_220.1 ?_
                        refine z_top (zTb (sPg f) (f 0) (kz - 1)) hp_220.2 ?_
                        refine z_iconst 224 K dL_brief_223 rfl ?_
                        refine z_iadd 225 K dL_brief_224 rfl ?_
                        refine z_icmp_ne (tgt := 252) 228 K dL_brief_225 rfl (by decide) (by omega) (by omega) (fun c_225 => ?_) (fun c_225 => ?_)
                        · exact absurd c_225 (by omega)
                        · skip
                          have join_253_j_143 :  Z p l e (({ frames := 5, cells := 0, slots := 0, locals := 112 } : Room)) s m args below meth c (MQ below (zQi g (fun z C' => C' = C ∧ z = 1)) args s 0 0 (zA g)) g 13 0 0 (C) [(3, .int (iZ (h3 + sPg f kz))), (2, .int (iZ (s2 + sPg f kz))), (6, .int (iZ 0)), (0, .ref (aD g 0)), (1, .int (iZ (f 1))), (4, .int (iZ 1)), (5, .int (iZ kz))] 253 [.int (iZ 1)] := by
                            refine z_istore (lv' := [(4, .int (iZ 1)), (3, .int (iZ (h3 + sPg f kz))), (2, .int (iZ (s2 + sPg f kz))), (6, .int (iZ 0)), (0, .ref (aD g 0)), (1, .int (iZ (f 1))), (5, .int (iZ kz))]) 255 K dL_brief_253 rfl (by decide) rfl ?_
                            refine z_iload 257 K dL_brief_255 rfl 0 rfl ?_
                            refine z_if_eq (tgt := 311) 260 K dL_brief_257 rfl (by decide) (by decide) (fun c_257 => ?_) (fun c_257 => ?_)
                            · exact absurd c_257 (by decide)
                            refine z_iload 262 K dL_brief_260 rfl 6 rfl ?_
                            refine z_if_eq (tgt := 307) 265 K dL_brief_262 rfl (by decide) (by omega) (fun c_262 => ?_) (fun c_262 => ?_)
                            · exact absurd c_262 (by omega)
                            · skip
                              refine z_aload_n 266 K dL_brief_265 rfl rfl 4 rfl ?_
                              refine z_iload 268 K dL_brief_266 rfl 6 rfl ?_
                              refine z_iconst 269 K dL_brief_268 rfl ?_
                              refine z_vVi (As := [.int (iZ kz), .int (iZ 4)]) (rest := []) 272 K 0 (by decide) gMa rfl rfl (e_exh4 l g _ kz _ _ _ _ _ _ hI hP (by omega)) (cwV 2 K.1.2.2.2.2 gL_brief_X8_exhibit rfl rfl rfl (by decide +kernel) ⟨Nat.le_of_ble_eq_true rfl, Nat.le_of_ble_eq_true rfl⟩) rfl (Nat.le_of_ble_eq_true rfl) dL_brief_269 rfl ⟨Nat.le_of_ble_eq_true rfl, Nat.le_of_ble_eq_true rfl⟩ rfl (fun z_144 C_145 hp_269 => ?_)
                              refine z_C hp_269.1 ?_
                              refine z_top (zFp (sPg f) (f 0) kz) hp_269.2 ?_
                              refine z_aload_n 273 K dL_brief_272 rfl rfl 4 rfl ?_
                              refine z_iload 275 K dL_brief_273 rfl 6 rfl ?_
                              refine z_iconst 276 K dL_brief_275 rfl ?_
                              refine z_isub 277 K dL_brief_276 rfl ?_
                              refine z_iconst 278 K dL_brief_277 rfl ?_
                              refine z_vVi (As := [.int (iZ (kz - 1)), .int (iZ 4)]) (rest := [.int (iZ (zFp (sPg f) (f 0) kz))]) 281 K 0 (by decide) gMa rfl rfl (e_exh4 l g _ (kz - 1) _ _ _ _ _ _ hI hP (by omega)) (cwV 2 K.1.2.2.2.2 gL_brief_X8_exhibit rfl rfl rfl (by decide +kernel) ⟨Nat.le_of_ble_eq_true rfl, Nat.le_of_ble_eq_true rfl⟩) rfl (Nat.le_of_ble_eq_true rfl) dL_brief_278 rfl ⟨Nat.le_of_ble_eq_true rfl, Nat.le_of_ble_eq_true rfl⟩ rfl (fun z_146 C_147 hp_278 => ?_)
                              refine z_C hp_278.1 ?_
                              refine z_top (zFp (sPg f) (f 0) (kz - 1)) hp_278.2 ?_
                              refine z_aload_n 282 K dL_brief_281 rfl rfl 4 rfl ?_
                              refine z_iload 284 K dL_brief_282 rfl 6 rfl ?_
                              refine z_iconst 285 K dL_brief_284 rfl ?_
                              refine z_isub 286 K dL_brief_285 rfl ?_
                              refine z_iconst 287 K dL_brief_286 rfl ?_
                              refine z_vVi (As := [.int (iZ (kz - 1)), .int (iZ 1)]) (rest := [.int (iZ (zFp (sPg f) (f 0) (kz - 1))), .int (iZ (zFp (sPg f) (f 0) kz))]) 290 K 0 (by decide) gMa rfl rfl (e_exh1 l g _ (kz - 1) _ _ _ _ _ _ hI hP (by omega)) (cwV 2 K.1.2.2.2.2 gL_brief_X8_exhibit rfl rfl rfl (by decide +kernel) ⟨Nat.le_of_ble_eq_true rfl, Nat.le_of_ble_eq_true rfl⟩) rfl (Nat.le_of_ble_eq_true rfl) dL_brief_287 rfl ⟨Nat.le_of_ble_eq_true rfl, Nat.le_of_ble_eq_true rfl⟩ rfl (fun z_148 C_149 hp_287 => ?_)
                              refine z_C hp_287.1 ?_
                              refine z_top (sPg f (kz - 1)) hp_287.2 ?_
                              refine z_iadd 291 K dL_brief_290 rfl ?_
                              refine z_top (sPg f (kz - 1) + zFp (sPg f) (f 0) (kz - 1)) (by omega) ?_
                              refine z_iconst 292 K dL_brief_291 rfl ?_
                              refine z_iadd 293 K dL_brief_292 rfl ?_
                              refine z_iload 295 K dL_brief_293 rfl 3 rfl ?_
                              refine z_if_eq (tgt := 302) 298 K dL_brief_295 rfl (by decide) (by decide) (fun c_295 => ?_) (fun c_295 => ?_)
                              rotate_left 1
                              · exact absurd c_295 (by decide)
                              refine z_iconst 303 K dL_brief_302 rfl ?_
                              refine z_iadd 304 K dL_brief_303 rfl ?_
                              refine z_top (sPg f (kz - 1) + zFp (sPg f) (f 0) (kz - 1) + 1) (by omega) ?_
                              refine z_icmp_ne (tgt := 311) 307 K dL_brief_304 rfl (by decide) (by omega) (by omega) (fun c_304 => ?_) (fun c_304 => ?_)
                              · exact absurd c_304 (by omega)
                              · skip
                                refine z_iconst 308 K dL_brief_307 rfl ?_
                                refine z_goto (tgt := 312) K dL_brief_308 (by decide) ?_
                                refine z_istore (lv' := [(4, .int (iZ 1)), (3, .int (iZ (h3 + sPg f kz))), (2, .int (iZ (s2 + sPg f kz))), (6, .int (iZ 0)), (0, .ref (aD g 0)), (1, .int (iZ (f 1))), (5, .int (iZ kz))]) 314 K dL_brief_312 rfl (by decide) rfl ?_
                                refine z_iconst 315 K dL_brief_314 rfl ?_
                                refine z_istore (lv' := [(7, .int (iZ 0)), (4, .int (iZ 1)), (3, .int (iZ (h3 + sPg f kz))), (2, .int (iZ (s2 + sPg f kz))), (6, .int (iZ 0)), (0, .ref (aD g 0)), (1, .int (iZ (f 1))), (5, .int (iZ kz))]) 317 K dL_brief_315 rfl (by decide) rfl ?_
                                have loop_317 : ∀ (n9 : Nat) (nz : Int), (0 ≤ nz ∧ nz ≤ kz) → (kz - nz < (n9 : Int)) → Z p l e (({ frames := 5, cells := 0, slots := 0, locals := 112 } : Room)) s m args below meth c (MQ below (zQi g (fun z C' => C' = C ∧ z = 1)) args s 0 0 (zA g)) g 13 0 0 (C) [(0, .ref (aD g 0)), (1, .int (iZ (f 1))), (2, .int (iZ (s2 + sPg f kz))), (3, .int (iZ (h3 + sPg f kz))), (4, .int (iZ 1)), (5, .int (iZ kz)), (7, .int (iZ nz))] 317 [] := by
                                  intro n9
                                  induction n9 with
                                  | zero =>
                                    intro nz hnz hm9
                                    exact absurd hm9 (by omega)
                                  | succ n9 ih9 =>
                                    intro nz hnz hm_317
                                    have ih_317 := ih9
                                    clear ih9
                                    refine z_iload 319 K dL_brief_317 rfl 6 rfl ?_
                                    refine z_iload 321 K dL_brief_319 rfl 5 rfl ?_
                                    refine z_icmp_ge (tgt := 359) 324 K dL_brief_321 rfl (by decide) (by omega) (by omega) (fun c_321 => ?_) (fun c_321 => ?_)
                                    · skip
                                      refine z_iinc (lv' := [(5, .int (iZ (kz + 1))), (0, .ref (aD g 0)), (1, .int (iZ (f 1))), (2, .int (iZ (s2 + sPg f kz))), (3, .int (iZ (h3 + sPg f kz))), (4, .int (iZ 1)), (7, .int (iZ nz))]) 362 K dL_brief_359 rfl (kz + 1) rfl 5 rfl (by decide) rfl ?_
                                      refine z_goto (tgt := 58) K dL_brief_362 (by decide) ?_
                                      refine z_sub [1, 2, 3, 4, 5, 0] rfl ?_
                                      exact ih_58 (s2 + sPg f kz) (h3 + sPg f kz) (kz + 1) (by omega) (by rw [zsum_1 _ hkz.1]; omega) (by have q := sSm_rng hw (k := kz + 1) (by omega) (by omega); rw [zsum_1 _ hkz.1] at q; omega) (fun _ => (by rw [show kz + 1 - 1 = kz by omega]; omega)) (by omega)
                                    · skip
                                      refine z_iload 326 K dL_brief_324 rfl 4 rfl ?_
                                      refine z_if_eq (tgt := 359) 329 K dL_brief_326 rfl (by decide) (by decide) (fun c_326 => ?_) (fun c_326 => ?_)
                                      · exact absurd c_326 (by decide)
                                      have hrn := lie_rng hw (k := nz) (by omega) (by omega)
                                      refine z_aload_n 330 K dL_brief_329 rfl rfl 0 rfl ?_
                                      refine z_iload 332 K dL_brief_330 rfl 6 rfl ?_
                                      refine z_iconst 333 K dL_brief_332 rfl ?_
                                      refine z_vVi (As := [.int (iZ nz), .int (iZ 0)]) (rest := []) 336 K 0 (by decide) gMa rfl rfl (e_exh0 l g _ nz _ _ _ _ _ _ hI hP (by omega)) (cwV 2 K.1.2.2.2.2 gL_brief_X8_exhibit rfl rfl rfl (by decide +kernel) ⟨Nat.le_of_ble_eq_true rfl, Nat.le_of_ble_eq_true rfl⟩) rfl (Nat.le_of_ble_eq_true rfl) dL_brief_333 rfl ⟨Nat.le_of_ble_eq_true rfl, Nat.le_of_ble_eq_true rfl⟩ rfl (fun z_150 C_151 hp_333 => ?_)
                                      refine z_C hp_333.1 ?_
                                      refine z_top (f (2 * nz + 3)) hp_333.2 ?_
                                      refine z_aload_n 337 K dL_brief_336 rfl rfl 0 rfl ?_
                                      refine z_iload 339 K dL_brief_337 rfl 5 rfl ?_
                                      refine z_iconst 340 K dL_brief_339 rfl ?_
                                      refine z_vVi (As := [.int (iZ kz), .int (iZ 0)]) (rest := [.int (iZ (f (2 * nz + 3)))]) 343 K 0 (by decide) gMa rfl rfl (e_exh0 l g _ kz _ _ _ _ _ _ hI hP (by omega)) (cwV 2 K.1.2.2.2.2 gL_brief_X8_exhibit rfl rfl rfl (by decide +kernel) ⟨Nat.le_of_ble_eq_true rfl, Nat.le_of_ble_eq_true rfl⟩) rfl (Nat.le_of_ble_eq_true rfl) dL_brief_340 rfl ⟨Nat.le_of_ble_eq_true rfl, Nat.le_of_ble_eq_true rfl⟩ rfl (fun z_152 C_153 hp_340 => ?_)
                                      refine z_C hp_340.1 ?_
                                      refine z_top (f (2 * kz + 3)) hp_340.2 ?_
                                      refine z_icmp_eq (tgt := 350) 346 K dL_brief_343 rfl (by decide) (by omega) (by omega) (fun c_343 => ?_) (fun c_343 => ?_)
                                      · exact absurd c_343 (hw.inj nz kz (by omega) (by omega) (by omega))
                                      · skip
                                        refine z_iconst 347 K dL_brief_346 rfl ?_
                                        refine z_goto (tgt := 351) K dL_brief_347 (by decide) ?_
                                        refine z_istore (lv' := [(4, .int (iZ 1)), (0, .ref (aD g 0)), (1, .int (iZ (f 1))), (2, .int (iZ (s2 + sPg f kz))), (3, .int (iZ (h3 + sPg f kz))), (5, .int (iZ kz)), (7, .int (iZ nz))]) 353 K dL_brief_351 rfl (by decide) rfl ?_
                                        refine z_iinc (lv' := [(7, .int (iZ (nz + 1))), (4, .int (iZ 1)), (0, .ref (aD g 0)), (1, .int (iZ (f 1))), (2, .int (iZ (s2 + sPg f kz))), (3, .int (iZ (h3 + sPg f kz))), (5, .int (iZ kz))]) 356 K dL_brief_353 rfl (nz + 1) rfl 6 rfl (by decide) rfl ?_
                                        refine z_goto (tgt := 317) K dL_brief_356 (by decide) ?_
                                        refine z_sub [2, 3, 4, 5, 1, 6, 0] rfl ?_
                                        exact ih_317 (nz + 1) (by omega) (by omega)
                                refine z_sub [5, 6, 3, 2, 1, 7, 0] rfl ?_
                                exact loop_317 (Int.toNat (kz - 0) + 1) 0 (by omega) (by omega)
                          refine z_iload_n 229 K dL_brief_228 rfl rfl 0 rfl ?_
                          refine z_aload_n 230 K dL_brief_229 rfl rfl 3 rfl ?_
                          refine z_bipush 232 K dL_brief_230 rfl rfl ?_
                          refine z_vVi (As := [.int (iZ 7)]) (rest := [.int (iZ (h3 + sPg f kz))]) 235 K 0 (by decide) gMa rfl rfl (e_cnt7 l g _ _ _ _ _ _ _ hI hP) (cwV 1 K.1.2.2.2.2 gL_brief_X8_count rfl rfl rfl (by decide +kernel) ⟨Nat.le_of_ble_eq_true rfl, Nat.le_of_ble_eq_true rfl⟩) rfl (Nat.le_of_ble_eq_true rfl) dL_brief_232 rfl ⟨Nat.le_of_ble_eq_true rfl, Nat.le_of_ble_eq_true rfl⟩ rfl (fun z_154 C_155 hp_232 => ?_)
                          refine z_C hp_232.1 ?_
                          refine z_top (f 0) hp_232.2 ?_
                          refine z_icmp_le (tgt := 248) 238 K dL_brief_235 rfl (by decide) (by omega) (by omega) (fun c_235 => ?_) (fun c_235 => ?_)
                          · skip
                            refine z_iconst 249 K dL_brief_248 rfl ?_
                            refine z_goto (tgt := 253) K dL_brief_249 (by decide) ?_
                            exact join_253_j_143  
                          · exact absurd c_235 (by omega)
                · exact absurd c_117 (by omega)
              · exact absurd c_90 (by omega)
    refine z_sub [5, 4, 3, 2, 1, 0] rfl ?_
    exact loop_58 (Int.toNat (f 1 - 0) + 1) 0 0 0 (by omega) rfl (by omega) (fun z => absurd z (by omega)) (by omega)
  refine z_iload_n 11 K dL_brief_10 rfl rfl 2 rfl ?_
  refine z_bipush 13 K dL_brief_11 rfl rfl ?_
  refine z_icmp_gt (tgt := 52) 16 K dL_brief_13 rfl (by decide) (by omega) (by decide) (fun c_13 => ?_) (fun c_13 => ?_)
  · exact absurd c_13 (by omega)
  · skip
    refine z_iload_n 17 K dL_brief_16 rfl rfl 2 rfl ?_
    refine z_if_eq (tgt := 48) 20 K dL_brief_17 rfl (by decide) (by omega) (fun c_17 => ?_) (fun c_17 => ?_)
    · skip
      refine z_iconst 49 K dL_brief_48 rfl ?_
      refine z_goto (tgt := 53) K dL_brief_49 (by decide) ?_
      exact join_53_j_3  
    · skip
      have hz1 : zBn (sPg f) (f 0) 0 = 0 := rfl
      have hz2 : zTb (sPg f) (f 0) 0 = 0 := rfl
      have hz3 : zFp (sPg f) (f 0) 0 = 1 := rfl
      refine z_aload_n 21 K dL_brief_20 rfl rfl 3 rfl ?_
      refine z_iconst 22 K dL_brief_21 rfl ?_
      refine z_iconst 23 K dL_brief_22 rfl ?_
      refine z_vVi (As := [.int (iZ 0), .int (iZ 2)]) (rest := []) 26 K 0 (by decide) gMa rfl rfl (e_exh2 l g _ 0 _ _ _ _ _ _ hI hP (by omega)) (cwV 2 K.1.2.2.2.2 gL_brief_X8_exhibit rfl rfl rfl (by decide +kernel) ⟨Nat.le_of_ble_eq_true rfl, Nat.le_of_ble_eq_true rfl⟩) rfl (Nat.le_of_ble_eq_true rfl) dL_brief_23 rfl ⟨Nat.le_of_ble_eq_true rfl, Nat.le_of_ble_eq_true rfl⟩ rfl (fun z_156 C_157 hp_23 => ?_)
      refine z_C hp_23.1 ?_
      refine z_top (zBn (sPg f) (f 0) 0) hp_23.2 ?_
      refine z_if_ne (tgt := 52) 29 K dL_brief_26 rfl (by decide) (by omega) (fun c_26 => ?_) (fun c_26 => ?_)
      · exact absurd c_26 (by omega)
      · skip
        refine z_aload_n 30 K dL_brief_29 rfl rfl 3 rfl ?_
        refine z_iconst 31 K dL_brief_30 rfl ?_
        refine z_iconst 32 K dL_brief_31 rfl ?_
        refine z_vVi (As := [.int (iZ 0), .int (iZ 3)]) (rest := []) 35 K 0 (by decide) gMa rfl rfl (e_exh3 l g _ 0 _ _ _ _ _ _ hI hP (by omega)) (cwV 2 K.1.2.2.2.2 gL_brief_X8_exhibit rfl rfl rfl (by decide +kernel) ⟨Nat.le_of_ble_eq_true rfl, Nat.le_of_ble_eq_true rfl⟩) rfl (Nat.le_of_ble_eq_true rfl) dL_brief_32 rfl ⟨Nat.le_of_ble_eq_true rfl, Nat.le_of_ble_eq_true rfl⟩ rfl (fun z_158 C_159 hp_32 => ?_)
        refine z_C hp_32.1 ?_
        refine z_top (zTb (sPg f) (f 0) 0) hp_32.2 ?_
        refine z_if_ne (tgt := 52) 38 K dL_brief_35 rfl (by decide) (by omega) (fun c_35 => ?_) (fun c_35 => ?_)
        · exact absurd c_35 (by omega)
        · skip
          refine z_aload_n 39 K dL_brief_38 rfl rfl 3 rfl ?_
          refine z_iconst 40 K dL_brief_39 rfl ?_
          refine z_iconst 41 K dL_brief_40 rfl ?_
          refine z_vVi (As := [.int (iZ 0), .int (iZ 4)]) (rest := []) 44 K 0 (by decide) gMa rfl rfl (e_exh4 l g _ 0 _ _ _ _ _ _ hI hP (by omega)) (cwV 2 K.1.2.2.2.2 gL_brief_X8_exhibit rfl rfl rfl (by decide +kernel) ⟨Nat.le_of_ble_eq_true rfl, Nat.le_of_ble_eq_true rfl⟩) rfl (Nat.le_of_ble_eq_true rfl) dL_brief_41 rfl ⟨Nat.le_of_ble_eq_true rfl, Nat.le_of_ble_eq_true rfl⟩ rfl (fun z_160 C_161 hp_41 => ?_)
          refine z_C hp_41.1 ?_
          refine z_top (zFp (sPg f) (f 0) 0) hp_41.2 ?_
          refine z_iconst 45 K dL_brief_44 rfl ?_
          refine z_icmp_ne (tgt := 52) 48 K dL_brief_45 rfl (by decide) (by omega) (by decide) (fun c_45 => ?_) (fun c_45 => ?_)
          · exact absurd c_45 (by omega)
          · skip
            refine z_iconst 49 K dL_brief_48 rfl ?_
            refine z_goto (tgt := 53) K dL_brief_49 (by decide) ?_
            exact join_53_j_3  
end ZLB
