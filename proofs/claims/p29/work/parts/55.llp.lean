/-! p29: the law's body -/
section ZLL
theorem sDrp_rng {f : Int → Int} {cap p : Int} (hw : WF f cap) (hp : 0 ≤ p ∧ p < f 1) : (0 ≤ sDrp f p 0 ∧ sDrp f p 0 ≤ 72) ∧ (0 ≤ sDrp f p 1 ∧ sDrp f p 1 ≤ 12) := by
  have s := sAllLost_out hw hp
  have t := sCby_rng hw.wr p 0
  have e0 : sDrp f p 0 = sAllLost (mOut f p) - sAllLost f := by
    unfold sDrp
    rw [if_pos rfl]
  have e1 : sDrp f p 1 = sStaleN (mOut f p) := by
    unfold sDrp
    rw [if_neg (by omega)]
  have r := sStaleN_rng (mOut f p)
  rw [e0, e1]
  omega
theorem law_hf {kz : Int} {kc ks mc ms : Nat} (h0 : 0 ≤ kz ∧ kz ≤ 44) (h1 : kc ≤ 94 + 8 * kz.toNat + 8) (h2 : ks ≤ 2618 + 48 * kz.toNat + 48) (h3 : mc ≤ 8) (h4 : ms ≤ 48) : kc + mc ≤ room_1.cells ∧ ks + ms ≤ room_1.slots := by
  have r1 : room_1.cells = 600130 := rfl
  have r2 : room_1.slots = 7301080 := rfl
  omega
set_option maxHeartbeats 40000000 in
set_option maxRecDepth 100000 in
theorem law_body {p : Program} {l : Launch} {e : Env} {s : State} {m : MethodId} {args : Array Value} {below : List Frame} {meth : Method} {c : Code} {Q : State → Prop} {g : zG} (K : zF p m meth c cL_law 17 (some .boolean) s args wsL_law RL g) (hNc : zNcs s) (hlt : l.stackTraces = false) {b L : Nat} {xs : Nat → Int32} (hX : va_X b L xs s s.heap) (hbl : b < s.heap.size) (hbA : ¬ zA g b) (hL : L ≤ 260)
    (hend : ∀ (C2 : Nat → va_E) (lv2 : List (Nat × Value)) (kc2 ks2 : Nat), kc2 ≤ 600130 → ks2 ≤ 7301080 → Z p l e room_1 s m args below meth c Q g 17 kc2 ks2 C2 lv2 423 [.int (iZ 1)])
    (C0 : Nat → va_E) (f0 p0 tx : Int → Int) (k0 ty : Int) (hI0 : IW g C0 f0 k0 p0 ty tx) (hP0 : PW 0 f0 k0 p0 ty tx) (gMa0 : C0 0 = .inr (8, [.ref (aD g 1), .ref (aD g 12), .ref (aD g 18), .ref (aD g 21), .ref (aD g 23), .ref (aD g 27)])) : Z p l e room_1 s m args below meth c Q g 17 94 2618 C0 [(0, .ref b), (1, .ref (aD g 0)), (2, .int (iZ 1))] 10 [] := by
  have join_28_j_1 : ∀ (tn : Int), (0 ≤ tn ∧ tn ≤ 44 ∧ 3 * tn ≤ (L : Int)) → Z p l e room_1 s m args below meth c Q g 17 94 2618 (C0) [(0, .ref b), (1, .ref (aD g 0)), (2, .int (iZ 1))] 28 [.int (iZ tn)] := by
    intro tn  htn
    refine z_istore_n (lv' := [(3, .int (iZ tn)), (0, .ref b), (1, .ref (aD g 0)), (2, .int (iZ 1))]) 29 K dL_law_28 rfl rfl (by decide) rfl ?_
    refine z_iconst 30 K dL_law_29 rfl ?_
    refine z_istore (lv' := [(4, .int (iZ 0)), (3, .int (iZ tn)), (0, .ref b), (1, .ref (aD g 0)), (2, .int (iZ 1))]) 32 K dL_law_30 rfl (by decide) rfl ?_
    have loop_32 : ∀ (n9 : Nat) (C9 : Nat → va_E) (f past : Int → Int) (k kz : Int) (kc9 ks9 : Nat), (IW g C9 f k past ty tx) → (PW kz f k past ty tx) → (0 ≤ kz ∧ kz ≤ tn) → (kc9 ≤ 94 + 8 * kz.toNat ∧ ks9 ≤ 2618 + 48 * kz.toNat) → (tn - kz < (n9 : Int)) → Z p l e room_1 s m args below meth c Q g 17 kc9 ks9 (C9) [(0, .ref b), (1, .ref (aD g 0)), (2, .int (iZ 1)), (3, .int (iZ tn)), (4, .int (iZ kz))] 32 [] := by
      intro n9
      induction n9 with
      | zero =>
        intro C9 f past k kz kc9 ks9 hI hP hkz hkc hm9
        exact absurd hm9 (by omega)
      | succ n9 ih9 =>
        intro C9 f past k kz kc9 ks9 hI hP hkz hkc hm_32
        have ih_32 := ih9
        clear ih9
        obtain ⟨⟨gMa, -⟩, -, -, -, -, -⟩ := id hI
        refine z_iload 34 K dL_law_32 rfl 4 rfl ?_
        refine z_iload_n 35 K dL_law_34 rfl rfl 3 rfl ?_
        refine z_icmp_ge (tgt := 422) 38 K dL_law_35 rfl (by decide) (by omega) (by omega) (fun c_35 => ?_) (fun c_35 => ?_)
        · skip
          refine z_iload_n 423 K dL_law_422 rfl rfl 2 rfl ?_
          exact hend _ _ _ _ (by omega) (by omega)
        · skip
          refine z_iload_n 39 K dL_law_38 rfl rfl 2 rfl ?_
          refine z_if_eq (tgt := 422) 42 K dL_law_39 rfl (by decide) (by decide) (fun c_39 => ?_) (fun c_39 => ?_)
          · exact absurd c_39 (by decide)
          have hw := hP.1
          have hk6 := hP.2.1
          have hq10 : 0 ≤ sPgs f ∧ sPgs f ≤ 1800 := sSm_rng hw hw.n.1 (Int.le_refl _)
          have hq20 : 0 ≤ sCts f ∧ sCts f ≤ 72 := (sSums_rng (a := 12) hw (by omega) (by omega)).1
          have hq30 := sAllLost_rng hw.wr
          have hq40 := sStaleN_rng f
          have hn0 := hw.n
          refine z_aload_n 43 K dL_law_42 rfl rfl 1 rfl ?_
          refine z_bipush 45 K dL_law_43 rfl rfl ?_
          refine z_vVi (As := [.int (iZ 8)]) (rest := []) 48 K 0 (by decide) gMa rfl rfl (e_cnt8 l g _ _ _ _ _ _ _ hI hP) (cwV 1 K.1.2.2.2.2 gL_law_X8_count rfl rfl rfl (by decide +kernel) ⟨Nat.le_of_ble_eq_true rfl, Nat.le_of_ble_eq_true rfl⟩) rfl (Nat.le_of_ble_eq_true rfl) dL_law_45 rfl (law_hf (kz := kz) ⟨by omega, by omega⟩ (by omega) (by omega) (by decide) (by decide)) rfl (fun z_2 C_3 hp_45 => ?_)
          refine z_C hp_45.1 ?_
          refine z_top (k) hp_45.2 ?_
          refine z_istore (lv' := [(5, .int (iZ k)), (0, .ref b), (1, .ref (aD g 0)), (2, .int (iZ 1)), (3, .int (iZ tn)), (4, .int (iZ kz))]) 50 K dL_law_48 rfl (by decide) rfl ?_
          refine z_aload_n 51 K dL_law_50 rfl rfl 2 rfl ?_
          refine z_iconst 52 K dL_law_51 rfl ?_
          refine z_vVi (As := [.int (iZ 0)]) (rest := []) 55 K 0 (by decide) gMa rfl rfl (e_cnt0 l g _ _ _ _ _ _ _ hI hP) (cwV 1 K.1.2.2.2.2 gL_law_X8_count rfl rfl rfl (by decide +kernel) ⟨Nat.le_of_ble_eq_true rfl, Nat.le_of_ble_eq_true rfl⟩) rfl (Nat.le_of_ble_eq_true rfl) dL_law_52 rfl (law_hf (kz := kz) ⟨by omega, by omega⟩ (by omega) (by omega) (by decide) (by decide)) rfl (fun z_4 C_5 hp_52 => ?_)
          refine z_C hp_52.1 ?_
          refine z_top (f 1) hp_52.2 ?_
          refine z_istore (lv' := [(6, .int (iZ (f 1))), (5, .int (iZ k)), (0, .ref b), (1, .ref (aD g 0)), (2, .int (iZ 1)), (3, .int (iZ tn)), (4, .int (iZ kz))]) 57 K dL_law_55 rfl (by decide) rfl ?_
          refine z_aload_n 58 K dL_law_57 rfl rfl 3 rfl ?_
          refine z_iconst 59 K dL_law_58 rfl ?_
          refine z_vVi (As := [.int (iZ 1)]) (rest := []) 62 K 0 (by decide) gMa rfl rfl (e_cnt1 l g _ _ _ _ _ _ _ hI hP) (cwV 1 K.1.2.2.2.2 gL_law_X8_count rfl rfl rfl (by decide +kernel) ⟨Nat.le_of_ble_eq_true rfl, Nat.le_of_ble_eq_true rfl⟩) rfl (Nat.le_of_ble_eq_true rfl) dL_law_59 rfl (law_hf (kz := kz) ⟨by omega, by omega⟩ (by omega) (by omega) (by decide) (by decide)) rfl (fun z_6 C_7 hp_59 => ?_)
          refine z_C hp_59.1 ?_
          refine z_top (sPgs f) hp_59.2 ?_
          refine z_istore (lv' := [(7, .int (iZ (sPgs f))), (6, .int (iZ (f 1))), (5, .int (iZ k)), (0, .ref b), (1, .ref (aD g 0)), (2, .int (iZ 1)), (3, .int (iZ tn)), (4, .int (iZ kz))]) 64 K dL_law_62 rfl (by decide) rfl ?_
          refine z_aload_n 65 K dL_law_64 rfl rfl 4 rfl ?_
          refine z_iconst 66 K dL_law_65 rfl ?_
          refine z_vVi (As := [.int (iZ 3)]) (rest := []) 69 K 0 (by decide) gMa rfl rfl (e_cnt3 l g _ _ _ _ _ _ _ hI hP) (cwV 1 K.1.2.2.2.2 gL_law_X8_count rfl rfl rfl (by decide +kernel) ⟨Nat.le_of_ble_eq_true rfl, Nat.le_of_ble_eq_true rfl⟩) rfl (Nat.le_of_ble_eq_true rfl) dL_law_66 rfl (law_hf (kz := kz) ⟨by omega, by omega⟩ (by omega) (by omega) (by decide) (by decide)) rfl (fun z_8 C_9 hp_66 => ?_)
          refine z_C hp_66.1 ?_
          refine z_top (sCts f) hp_66.2 ?_
          refine z_istore (lv' := [(8, .int (iZ (sCts f))), (7, .int (iZ (sPgs f))), (6, .int (iZ (f 1))), (5, .int (iZ k)), (0, .ref b), (1, .ref (aD g 0)), (2, .int (iZ 1)), (3, .int (iZ tn)), (4, .int (iZ kz))]) 71 K dL_law_69 rfl (by decide) rfl ?_
          refine z_aload_n 72 K dL_law_71 rfl rfl 5 rfl ?_
          refine z_iconst 73 K dL_law_72 rfl ?_
          refine z_vVi (As := [.int (iZ 4)]) (rest := []) 76 K 0 (by decide) gMa rfl rfl (e_cnt4 l g _ _ _ _ _ _ _ hI hP) (cwV 1 K.1.2.2.2.2 gL_law_X8_count rfl rfl rfl (by decide +kernel) ⟨Nat.le_of_ble_eq_true rfl, Nat.le_of_ble_eq_true rfl⟩) rfl (Nat.le_of_ble_eq_true rfl) dL_law_73 rfl (law_hf (kz := kz) ⟨by omega, by omega⟩ (by omega) (by omega) (by decide) (by decide)) rfl (fun z_10 C_11 hp_73 => ?_)
          refine z_C hp_73.1 ?_
          refine z_top (sAllLost f) hp_73.2 ?_
          refine z_istore (lv' := [(9, .int (iZ (sAllLost f))), (8, .int (iZ (sCts f))), (7, .int (iZ (sPgs f))), (6, .int (iZ (f 1))), (5, .int (iZ k)), (0, .ref b), (1, .ref (aD g 0)), (2, .int (iZ 1)), (3, .int (iZ tn)), (4, .int (iZ kz))]) 78 K dL_law_76 rfl (by decide) rfl ?_
          refine z_aload_n 79 K dL_law_78 rfl rfl 6 rfl ?_
          refine z_iconst 80 K dL_law_79 rfl ?_
          refine z_vVi (As := [.int (iZ 5)]) (rest := []) 83 K 0 (by decide) gMa rfl rfl (e_cnt5 l g _ _ _ _ _ _ _ hI hP) (cwV 1 K.1.2.2.2.2 gL_law_X8_count rfl rfl rfl (by decide +kernel) ⟨Nat.le_of_ble_eq_true rfl, Nat.le_of_ble_eq_true rfl⟩) rfl (Nat.le_of_ble_eq_true rfl) dL_law_80 rfl (law_hf (kz := kz) ⟨by omega, by omega⟩ (by omega) (by omega) (by decide) (by decide)) rfl (fun z_12 C_13 hp_80 => ?_)
          refine z_C hp_80.1 ?_
          refine z_top (sStaleN f) hp_80.2 ?_
          refine z_istore (lv' := [(10, .int (iZ (sStaleN f))), (9, .int (iZ (sAllLost f))), (8, .int (iZ (sCts f))), (7, .int (iZ (sPgs f))), (6, .int (iZ (f 1))), (5, .int (iZ k)), (0, .ref b), (1, .ref (aD g 0)), (2, .int (iZ 1)), (3, .int (iZ tn)), (4, .int (iZ kz))]) 85 K dL_law_83 rfl (by decide) rfl ?_
          refine z_aload_n 86 K dL_law_85 rfl rfl 6 rfl ?_
          refine z_iconst 87 K dL_law_86 rfl ?_
          refine z_iload 89 K dL_law_87 rfl 10 rfl ?_
          refine z_imul 90 K dL_law_89 rfl ?_
          refine z_vS3i (As := [.ref b, .int (iZ (3 * kz))]) (rest := []) 93 K hNc hX hbl hbA (m_L_cell l g _ (3 * kz) b L xs (by omega) (by omega)) (va_cwS 2 K.1.2.2.2.2 gL_law_L_cell rfl rfl rfl (by decide +kernel) ⟨Nat.le_of_ble_eq_true rfl, Nat.le_of_ble_eq_true rfl⟩) rfl (Nat.le_of_ble_eq_true rfl) dL_law_90 rfl (law_hf (kz := kz) ⟨by omega, by omega⟩ (by omega) (by omega) (by decide) (by decide)) rfl (fun z_14 C_15 hp_90 => ?_)
          refine z_C hp_90.1 ?_
          refine z_top (cV xs L (3 * kz)) hp_90.2 ?_
          refine z_bipush 95 K dL_law_93 rfl rfl ?_
          refine z_vSi (As := [.int (iZ (cV xs L (3 * kz))), .int (iZ 20)]) (rest := []) 98 K (m_L_low l g _ (cV xs L (3 * kz)) 20 (by omega)) (va_cwS 2 K.1.2.2.2.2 gL_law_L_low rfl rfl rfl (by decide +kernel) ⟨Nat.le_of_ble_eq_true rfl, Nat.le_of_ble_eq_true rfl⟩) rfl (Nat.le_of_ble_eq_true rfl) dL_law_95 rfl (law_hf (kz := kz) ⟨by omega, by omega⟩ (by omega) (by omega) (by decide) (by decide)) rfl (fun z_16 C_17 hp_95 => ?_)
          refine z_C hp_95.1 ?_
          refine z_top (lowZ (cV xs L (3 * kz)) 20) hp_95.2 ?_
          have hlo := lowZ_rng (cV xs L (3 * kz)) (n := 20) (by omega)
          refine z_istore (lv' := [(11, .int (iZ (lowZ (cV xs L (3 * kz)) 20))), (10, .int (iZ (sStaleN f))), (9, .int (iZ (sAllLost f))), (8, .int (iZ (sCts f))), (7, .int (iZ (sPgs f))), (6, .int (iZ (f 1))), (5, .int (iZ k)), (0, .ref b), (1, .ref (aD g 0)), (2, .int (iZ 1)), (3, .int (iZ tn)), (4, .int (iZ kz))]) 100 K dL_law_98 rfl (by decide) rfl ?_
          refine z_aload_n 101 K dL_law_100 rfl rfl 7 rfl ?_
          refine z_iconst 102 K dL_law_101 rfl ?_
          refine z_iload 104 K dL_law_102 rfl 11 rfl ?_
          refine z_imul 105 K dL_law_104 rfl ?_
          refine z_iconst 106 K dL_law_105 rfl ?_
          refine z_iadd 107 K dL_law_106 rfl ?_
          refine z_vS3i (As := [.ref b, .int (iZ (3 * kz + 1))]) (rest := []) 110 K hNc hX hbl hbA (m_L_cell l g _ (3 * kz + 1) b L xs (by omega) (by omega)) (va_cwS 2 K.1.2.2.2.2 gL_law_L_cell rfl rfl rfl (by decide +kernel) ⟨Nat.le_of_ble_eq_true rfl, Nat.le_of_ble_eq_true rfl⟩) rfl (Nat.le_of_ble_eq_true rfl) dL_law_107 rfl (law_hf (kz := kz) ⟨by omega, by omega⟩ (by omega) (by omega) (by decide) (by decide)) rfl (fun z_18 C_19 hp_107 => ?_)
          refine z_C hp_107.1 ?_
          refine z_top (cV xs L (3 * kz + 1)) hp_107.2 ?_
          refine z_istore (lv' := [(12, .int (iZ (cV xs L (3 * kz + 1)))), (11, .int (iZ (lowZ (cV xs L (3 * kz)) 20))), (10, .int (iZ (sStaleN f))), (9, .int (iZ (sAllLost f))), (8, .int (iZ (sCts f))), (7, .int (iZ (sPgs f))), (6, .int (iZ (f 1))), (5, .int (iZ k)), (0, .ref b), (1, .ref (aD g 0)), (2, .int (iZ 1)), (3, .int (iZ tn)), (4, .int (iZ kz))]) 112 K dL_law_110 rfl (by decide) rfl ?_
          by_cases hf1 : f 1 = 0
          · skip
            have hIa := hI
            refine z_iload 114 K dL_law_112 rfl 6 rfl ?_
            refine z_if_ne (tgt := 121) 117 K dL_law_114 rfl (by decide) (by omega) (fun c_114 => ?_) (fun c_114 => ?_)
            · exact absurd c_114 (by omega)
            · skip
              refine z_iconst 118 K dL_law_117 rfl ?_
              refine z_goto (tgt := 128) K dL_law_118 (by decide) ?_
              refine z_istore (lv' := [(13, .int (iZ 0)), (12, .int (iZ (cV xs L (3 * kz + 1)))), (11, .int (iZ (lowZ (cV xs L (3 * kz)) 20))), (10, .int (iZ (sStaleN f))), (9, .int (iZ (sAllLost f))), (8, .int (iZ (sCts f))), (7, .int (iZ (sPgs f))), (6, .int (iZ (f 1))), (5, .int (iZ k)), (0, .ref b), (1, .ref (aD g 0)), (2, .int (iZ 1)), (3, .int (iZ tn)), (4, .int (iZ kz))]) 130 K dL_law_128 rfl (by decide) rfl ?_
              refine z_iload 132 K dL_law_130 rfl 7 rfl ?_
              refine z_if_ne (tgt := 139) 135 K dL_law_132 rfl (by decide) (by omega) (fun c_132 => ?_) (fun c_132 => ?_)
              · exact absurd c_132 (by omega)
              · skip
                refine z_iconst 136 K dL_law_135 rfl ?_
                refine z_goto (tgt := 146) K dL_law_136 (by decide) ?_
                refine z_istore (lv' := [(14, .int (iZ 0)), (13, .int (iZ 0)), (12, .int (iZ (cV xs L (3 * kz + 1)))), (11, .int (iZ (lowZ (cV xs L (3 * kz)) 20))), (10, .int (iZ (sStaleN f))), (9, .int (iZ (sAllLost f))), (8, .int (iZ (sCts f))), (7, .int (iZ (sPgs f))), (6, .int (iZ (f 1))), (5, .int (iZ k)), (0, .ref b), (1, .ref (aD g 0)), (2, .int (iZ 1)), (3, .int (iZ tn)), (4, .int (iZ kz))]) 148 K dL_law_146 rfl (by decide) rfl ?_
                refine z_iload 150 K dL_law_148 rfl 8 rfl ?_
                refine z_if_ne (tgt := 157) 153 K dL_law_150 rfl (by decide) (by omega) (fun c_150 => ?_) (fun c_150 => ?_)
                · exact absurd c_150 (by omega)
                · skip
                  refine z_iconst 154 K dL_law_153 rfl ?_
                  refine z_goto (tgt := 164) K dL_law_154 (by decide) ?_
                  refine z_istore (lv' := [(15, .int (iZ 0)), (14, .int (iZ 0)), (13, .int (iZ 0)), (12, .int (iZ (cV xs L (3 * kz + 1)))), (11, .int (iZ (lowZ (cV xs L (3 * kz)) 20))), (10, .int (iZ (sStaleN f))), (9, .int (iZ (sAllLost f))), (8, .int (iZ (sCts f))), (7, .int (iZ (sPgs f))), (6, .int (iZ (f 1))), (5, .int (iZ k)), (0, .ref b), (1, .ref (aD g 0)), (2, .int (iZ 1)), (3, .int (iZ tn)), (4, .int (iZ kz))]) 166 K dL_law_164 rfl (by decide) rfl ?_
                  refine z_aload_n 167 K dL_law_166 rfl rfl 12 rfl ?_
                  refine z_aload_n 168 K dL_law_167 rfl rfl 11 rfl ?_
                  refine z_iconst 169 K dL_law_168 rfl ?_
                  refine z_iload 171 K dL_law_169 rfl 15 rfl ?_
                  refine z_imul 172 K dL_law_171 rfl ?_
                  refine z_vS3i (As := [.ref (aD g 0), .ref b, .int (iZ (3 * kz))]) (rest := []) 175 K hNc hX hbl hbA (m_L_act l g _ (3 * kz) b L xs _ _ _ _ _ _ hIa hP (by omega) (by omega) (by omega) hlt) (va_cwS 3 K.1.2.2.2.2 gL_law_L_act rfl rfl rfl (by decide +kernel) ⟨Nat.le_of_ble_eq_true rfl, Nat.le_of_ble_eq_true rfl⟩) rfl (Nat.le_of_ble_eq_true rfl) dL_law_172 rfl (law_hf (kz := kz) ⟨by omega, by omega⟩ (by omega) (by omega) (by decide) (by decide)) rfl (fun z_20 C_21 hp_172 => ?_)
                  obtain ⟨f2, k2, p2, hIn2, hPn2, hAc⟩ := hp_172
                  obtain ⟨hr9, hu9, hj9, hs9, hd9, hc9, hp9⟩ := hAc
                  have hw2 := hPn2.1
                  have hk62 := hPn2.2.1
                  have hq12 : 0 ≤ sPgs f2 ∧ sPgs f2 ≤ 1800 := sSm_rng hw2 hw2.n.1 (Int.le_refl _)
                  have hq22 : 0 ≤ sCts f2 ∧ sCts f2 ≤ 72 := (sSums_rng (a := 12) hw2 (by omega) (by omega)).1
                  have hq32 := sAllLost_rng hw2.wr
                  have hq42 := sStaleN_rng f2
                  have hn2 := hw2.n
                  obtain ⟨⟨gMa_172, -⟩, -, -, -, -, -⟩ := id hIn2
                  refine z_istore (lv' := [(16, .int (iZ z_20)), (15, .int (iZ 0)), (14, .int (iZ 0)), (13, .int (iZ 0)), (12, .int (iZ (cV xs L (3 * kz + 1)))), (11, .int (iZ (lowZ (cV xs L (3 * kz)) 20))), (10, .int (iZ (sStaleN f))), (9, .int (iZ (sAllLost f))), (8, .int (iZ (sCts f))), (7, .int (iZ (sPgs f))), (6, .int (iZ (f 1))), (5, .int (iZ k)), (0, .ref b), (1, .ref (aD g 0)), (2, .int (iZ 1)), (3, .int (iZ tn)), (4, .int (iZ kz))]) 177 K dL_law_175 rfl (by decide) rfl ?_
                  have join_238_j_22 :  Z p l e room_1 s m args below meth c Q g 17 (kc9 + 4) (ks9 + 24) (C_21) [(16, .int (iZ z_20)), (15, .int (iZ 0)), (14, .int (iZ 0)), (13, .int (iZ 0)), (12, .int (iZ (cV xs L (3 * kz + 1)))), (11, .int (iZ (lowZ (cV xs L (3 * kz)) 20))), (10, .int (iZ (sStaleN f))), (9, .int (iZ (sAllLost f))), (8, .int (iZ (sCts f))), (7, .int (iZ (sPgs f))), (6, .int (iZ (f 1))), (5, .int (iZ k)), (0, .ref b), (1, .ref (aD g 0)), (2, .int (iZ 1)), (3, .int (iZ tn)), (4, .int (iZ kz))] 238 [.int (iZ 1)] := by
                    refine z_istore_n (lv' := [(2, .int (iZ 1)), (16, .int (iZ z_20)), (15, .int (iZ 0)), (14, .int (iZ 0)), (13, .int (iZ 0)), (12, .int (iZ (cV xs L (3 * kz + 1)))), (11, .int (iZ (lowZ (cV xs L (3 * kz)) 20))), (10, .int (iZ (sStaleN f))), (9, .int (iZ (sAllLost f))), (8, .int (iZ (sCts f))), (7, .int (iZ (sPgs f))), (6, .int (iZ (f 1))), (5, .int (iZ k)), (0, .ref b), (1, .ref (aD g 0)), (3, .int (iZ tn)), (4, .int (iZ kz))]) 239 K dL_law_238 rfl rfl (by decide) rfl ?_
                    refine z_iload_n 240 K dL_law_239 rfl rfl 0 rfl ?_
                    refine z_if_eq (tgt := 414) 243 K dL_law_240 rfl (by decide) (by decide) (fun c_240 => ?_) (fun c_240 => ?_)
                    · exact absurd c_240 (by decide)
                    have join_277_j_23 :  Z p l e room_1 s m args below meth c Q g 17 (kc9 + 4) (ks9 + 24) (C_21) [(2, .int (iZ 1)), (16, .int (iZ z_20)), (15, .int (iZ 0)), (14, .int (iZ 0)), (13, .int (iZ 0)), (12, .int (iZ (cV xs L (3 * kz + 1)))), (11, .int (iZ (lowZ (cV xs L (3 * kz)) 20))), (10, .int (iZ (sStaleN f))), (9, .int (iZ (sAllLost f))), (8, .int (iZ (sCts f))), (7, .int (iZ (sPgs f))), (6, .int (iZ (f 1))), (5, .int (iZ k)), (0, .ref b), (1, .ref (aD g 0)), (3, .int (iZ tn)), (4, .int (iZ kz))] 277 [] := by
                      have join_301_j_24 :  Z p l e room_1 s m args below meth c Q g 17 (kc9 + 4) (ks9 + 24) (C_21) [(2, .int (iZ 1)), (16, .int (iZ z_20)), (15, .int (iZ 0)), (14, .int (iZ 0)), (13, .int (iZ 0)), (12, .int (iZ (cV xs L (3 * kz + 1)))), (11, .int (iZ (lowZ (cV xs L (3 * kz)) 20))), (10, .int (iZ (sStaleN f))), (9, .int (iZ (sAllLost f))), (8, .int (iZ (sCts f))), (7, .int (iZ (sPgs f))), (6, .int (iZ (f 1))), (5, .int (iZ k)), (0, .ref b), (1, .ref (aD g 0)), (3, .int (iZ tn)), (4, .int (iZ kz))] 301 [] := by
                        have join_343_j_25 :  Z p l e room_1 s m args below meth c Q g 17 (kc9 + 4) (ks9 + 24) (C_21) [(2, .int (iZ 1)), (16, .int (iZ z_20)), (15, .int (iZ 0)), (14, .int (iZ 0)), (13, .int (iZ 0)), (12, .int (iZ (cV xs L (3 * kz + 1)))), (11, .int (iZ (lowZ (cV xs L (3 * kz)) 20))), (10, .int (iZ (sStaleN f))), (9, .int (iZ (sAllLost f))), (8, .int (iZ (sCts f))), (7, .int (iZ (sPgs f))), (6, .int (iZ (f 1))), (5, .int (iZ k)), (0, .ref b), (1, .ref (aD g 0)), (3, .int (iZ tn)), (4, .int (iZ kz))] 343 [] := by
                          have join_376_j_26 :  Z p l e room_1 s m args below meth c Q g 17 (kc9 + 4) (ks9 + 24) (C_21) [(2, .int (iZ 1)), (16, .int (iZ z_20)), (15, .int (iZ 0)), (14, .int (iZ 0)), (13, .int (iZ 0)), (12, .int (iZ (cV xs L (3 * kz + 1)))), (11, .int (iZ (lowZ (cV xs L (3 * kz)) 20))), (10, .int (iZ (sStaleN f))), (9, .int (iZ (sAllLost f))), (8, .int (iZ (sCts f))), (7, .int (iZ (sPgs f))), (6, .int (iZ (f 1))), (5, .int (iZ k)), (0, .ref b), (1, .ref (aD g 0)), (3, .int (iZ tn)), (4, .int (iZ kz))] 376 [] := by
                            have join_403_j_27 :  Z p l e room_1 s m args below meth c Q g 17 (kc9 + 4) (ks9 + 24) (C_21) [(2, .int (iZ 1)), (16, .int (iZ z_20)), (15, .int (iZ 0)), (14, .int (iZ 0)), (13, .int (iZ 0)), (12, .int (iZ (cV xs L (3 * kz + 1)))), (11, .int (iZ (lowZ (cV xs L (3 * kz)) 20))), (10, .int (iZ (sStaleN f))), (9, .int (iZ (sAllLost f))), (8, .int (iZ (sCts f))), (7, .int (iZ (sPgs f))), (6, .int (iZ (f 1))), (5, .int (iZ k)), (0, .ref b), (1, .ref (aD g 0)), (3, .int (iZ tn)), (4, .int (iZ kz))] 403 [] := by
                              refine z_aload_n 404 K dL_law_403 rfl rfl 14 rfl ?_
                              refine z_vSi (As := [.ref (aD g 0)]) (rest := []) 407 K (m_L_brief l g _ f2 p2 _ k2 _ _ hIn2 hPn2) (va_cwS 1 K.1.2.2.2.2 gL_law_L_brief rfl rfl rfl (by decide +kernel) ⟨Nat.le_of_ble_eq_true rfl, Nat.le_of_ble_eq_true rfl⟩) rfl (Nat.le_of_ble_eq_true rfl) dL_law_404 rfl (law_hf (kz := kz) ⟨by omega, by omega⟩ (by omega) (by omega) (by decide) (by decide)) rfl (fun z_28 C_29 hp_404 => ?_)
                              refine z_C hp_404.1 ?_
                              refine z_top (1) hp_404.2 ?_
                              refine z_if_eq (tgt := 414) 410 K dL_law_407 rfl (by decide) (by decide) (fun c_407 => ?_) (fun c_407 => ?_)
                              · exact absurd c_407 (by decide)
                              refine z_iconst 411 K dL_law_410 rfl ?_
                              refine z_goto (tgt := 415) K dL_law_411 (by decide) ?_
                              refine z_istore_n (lv' := [(2, .int (iZ 1)), (16, .int (iZ z_20)), (15, .int (iZ 0)), (14, .int (iZ 0)), (13, .int (iZ 0)), (12, .int (iZ (cV xs L (3 * kz + 1)))), (11, .int (iZ (lowZ (cV xs L (3 * kz)) 20))), (10, .int (iZ (sStaleN f))), (9, .int (iZ (sAllLost f))), (8, .int (iZ (sCts f))), (7, .int (iZ (sPgs f))), (6, .int (iZ (f 1))), (5, .int (iZ k)), (0, .ref b), (1, .ref (aD g 0)), (3, .int (iZ tn)), (4, .int (iZ kz))]) 416 K dL_law_415 rfl rfl (by decide) rfl ?_
                              refine z_iinc (lv' := [(4, .int (iZ (kz + 1))), (2, .int (iZ 1)), (16, .int (iZ z_20)), (15, .int (iZ 0)), (14, .int (iZ 0)), (13, .int (iZ 0)), (12, .int (iZ (cV xs L (3 * kz + 1)))), (11, .int (iZ (lowZ (cV xs L (3 * kz)) 20))), (10, .int (iZ (sStaleN f))), (9, .int (iZ (sAllLost f))), (8, .int (iZ (sCts f))), (7, .int (iZ (sPgs f))), (6, .int (iZ (f 1))), (5, .int (iZ k)), (0, .ref b), (1, .ref (aD g 0)), (3, .int (iZ tn))]) 419 K dL_law_416 rfl (kz + 1) rfl 16 rfl (by decide) rfl ?_
                              refine z_goto (tgt := 32) K dL_law_419 (by decide) ?_
                              refine z_sub [14, 15, 1, 16, 0] rfl ?_
                              refine z_wid (kc' := (kc9 + 4)) (ks' := (ks9 + 24)) (by omega) (by omega) ?_
                              exact ih_32 C_21 f2 p2 k2 (kz + 1) (kc9 + 4) (ks9 + 24) hIn2 hPn2 (by omega) (by omega) (by omega)
                            refine z_iload 378 K dL_law_376 rfl 6 rfl ?_
                            refine z_bipush 380 K dL_law_378 rfl rfl ?_
                            refine z_icmp_eq (tgt := 390) 383 K dL_law_380 rfl (by decide) (by omega) (by decide) (fun c_380 => ?_) (fun c_380 => ?_)
                            · skip
                              have hpp9 := hp9 (by omega)
                              refine z_aload_n 391 K dL_law_390 rfl rfl 14 rfl ?_
                              refine z_iconst 392 K dL_law_391 rfl ?_
                              refine z_vVi (As := [.int (iZ 5)]) (rest := []) 395 K 0 (by decide) gMa_172 rfl rfl (e_cnt5 l g _ f2 _ _ k2 _ _ hIn2 hPn2) (cwV 1 K.1.2.2.2.2 gL_law_X8_count rfl rfl rfl (by decide +kernel) ⟨Nat.le_of_ble_eq_true rfl, Nat.le_of_ble_eq_true rfl⟩) rfl (Nat.le_of_ble_eq_true rfl) dL_law_392 rfl (law_hf (kz := kz) ⟨by omega, by omega⟩ (by omega) (by omega) (by decide) (by decide)) rfl (fun z_30 C_31 hp_392 => ?_)
                              refine z_C hp_392.1 ?_
                              refine z_top (sStaleN f2) hp_392.2 ?_
                              refine z_iload 397 K dL_law_395 rfl 7 rfl ?_
                              refine z_iload 399 K dL_law_397 rfl 1 rfl ?_
                              refine z_isub 400 K dL_law_399 rfl ?_
                              refine z_icmp_ne (tgt := 414) 403 K dL_law_400 rfl (by decide) (by omega) (by omega) (fun c_400 => ?_) (fun c_400 => ?_)
                              · exact absurd c_400 (by omega)
                              · skip
                                exact join_403_j_27  
                            · skip
                              refine z_iload 385 K dL_law_383 rfl 6 rfl ?_
                              refine z_bipush 387 K dL_law_385 rfl rfl ?_
                              refine z_icmp_ne (tgt := 403) 390 K dL_law_387 rfl (by decide) (by omega) (by decide) (fun c_387 => ?_) (fun c_387 => ?_)
                              · skip
                                exact join_403_j_27  
                              · skip
                                have hpp9 := hp9 (by omega)
                                refine z_aload_n 391 K dL_law_390 rfl rfl 14 rfl ?_
                                refine z_iconst 392 K dL_law_391 rfl ?_
                                refine z_vVi (As := [.int (iZ 5)]) (rest := []) 395 K 0 (by decide) gMa_172 rfl rfl (e_cnt5 l g _ f2 _ _ k2 _ _ hIn2 hPn2) (cwV 1 K.1.2.2.2.2 gL_law_X8_count rfl rfl rfl (by decide +kernel) ⟨Nat.le_of_ble_eq_true rfl, Nat.le_of_ble_eq_true rfl⟩) rfl (Nat.le_of_ble_eq_true rfl) dL_law_392 rfl (law_hf (kz := kz) ⟨by omega, by omega⟩ (by omega) (by omega) (by decide) (by decide)) rfl (fun z_32 C_33 hp_392 => ?_)
                                refine z_C hp_392.1 ?_
                                refine z_top (sStaleN f2) hp_392.2 ?_
                                refine z_iload 397 K dL_law_395 rfl 7 rfl ?_
                                refine z_iload 399 K dL_law_397 rfl 1 rfl ?_
                                refine z_isub 400 K dL_law_399 rfl ?_
                                refine z_icmp_ne (tgt := 414) 403 K dL_law_400 rfl (by decide) (by omega) (by omega) (fun c_400 => ?_) (fun c_400 => ?_)
                                · exact absurd c_400 (by omega)
                                · skip
                                  exact join_403_j_27  
                          refine z_iload 345 K dL_law_343 rfl 6 rfl ?_
                          refine z_bipush 347 K dL_law_345 rfl rfl ?_
                          refine z_icmp_ne (tgt := 376) 350 K dL_law_347 rfl (by decide) (by omega) (by decide) (fun c_347 => ?_) (fun c_347 => ?_)
                          · skip
                            exact join_376_j_26  
                          · skip
                            have hcc9 := hc9 (by omega)
                            refine z_aload_n 351 K dL_law_350 rfl rfl 14 rfl ?_
                            refine z_iconst 352 K dL_law_351 rfl ?_
                            refine z_vVi (As := [.int (iZ 3)]) (rest := []) 355 K 0 (by decide) gMa_172 rfl rfl (e_cnt3 l g _ f2 _ _ k2 _ _ hIn2 hPn2) (cwV 1 K.1.2.2.2.2 gL_law_X8_count rfl rfl rfl (by decide +kernel) ⟨Nat.le_of_ble_eq_true rfl, Nat.le_of_ble_eq_true rfl⟩) rfl (Nat.le_of_ble_eq_true rfl) dL_law_352 rfl (law_hf (kz := kz) ⟨by omega, by omega⟩ (by omega) (by omega) (by decide) (by decide)) rfl (fun z_34 C_35 hp_352 => ?_)
                            refine z_C hp_352.1 ?_
                            refine z_top (sCts f2) hp_352.2 ?_
                            refine z_iload 357 K dL_law_355 rfl 9 rfl ?_
                            refine z_iload 359 K dL_law_357 rfl 1 rfl ?_
                            refine z_isub 360 K dL_law_359 rfl ?_
                            refine z_icmp_ne (tgt := 414) 363 K dL_law_360 rfl (by decide) (by omega) (by omega) (fun c_360 => ?_) (fun c_360 => ?_)
                            · exact absurd c_360 (by omega)
                            · skip
                              refine z_aload_n 364 K dL_law_363 rfl rfl 14 rfl ?_
                              refine z_iconst 365 K dL_law_364 rfl ?_
                              refine z_vVi (As := [.int (iZ 4)]) (rest := []) 368 K 0 (by decide) gMa_172 rfl rfl (e_cnt4 l g _ f2 _ _ k2 _ _ hIn2 hPn2) (cwV 1 K.1.2.2.2.2 gL_law_X8_count rfl rfl rfl (by decide +kernel) ⟨Nat.le_of_ble_eq_true rfl, Nat.le_of_ble_eq_true rfl⟩) rfl (Nat.le_of_ble_eq_true rfl) dL_law_365 rfl (law_hf (kz := kz) ⟨by omega, by omega⟩ (by omega) (by omega) (by decide) (by decide)) rfl (fun z_36 C_37 hp_365 => ?_)
                              refine z_C hp_365.1 ?_
                              refine z_top (sAllLost f2) hp_365.2 ?_
                              refine z_iload 370 K dL_law_368 rfl 8 rfl ?_
                              refine z_iload 372 K dL_law_370 rfl 1 rfl ?_
                              refine z_isub 373 K dL_law_372 rfl ?_
                              refine z_icmp_ne (tgt := 414) 376 K dL_law_373 rfl (by decide) (by omega) (by omega) (fun c_373 => ?_) (fun c_373 => ?_)
                              · exact absurd c_373 (by omega)
                              · skip
                                exact join_376_j_26  
                        refine z_iload 303 K dL_law_301 rfl 6 rfl ?_
                        refine z_bipush 305 K dL_law_303 rfl rfl ?_
                        refine z_icmp_ne (tgt := 343) 308 K dL_law_305 rfl (by decide) (by omega) (by decide) (fun c_305 => ?_) (fun c_305 => ?_)
                        · skip
                          exact join_343_j_25  
                        · skip
                          refine z_iload 310 K dL_law_308 rfl 1 rfl ?_
                          refine z_if_lt (tgt := 343) 313 K dL_law_310 rfl (by decide) (by omega) (fun c_310 => ?_) (fun c_310 => ?_)
                          · skip
                            exact join_343_j_25  
                          · skip
                            have hdd := hd9 (by omega) (by omega)
                            refine z_iload 315 K dL_law_313 rfl 1 rfl ?_
                            refine z_iload 317 K dL_law_315 rfl 3 rfl ?_
                            refine z_icmp_ne (tgt := 414) 320 K dL_law_317 rfl (by decide) (by omega) (by decide) (fun c_317 => ?_) (fun c_317 => ?_)
                            · exact absurd c_317 (by omega)
                            · skip
                              refine z_aload_n 321 K dL_law_320 rfl rfl 14 rfl ?_
                              refine z_iconst 322 K dL_law_321 rfl ?_
                              refine z_vVi (As := [.int (iZ 4)]) (rest := []) 325 K 0 (by decide) gMa_172 rfl rfl (e_cnt4 l g _ f2 _ _ k2 _ _ hIn2 hPn2) (cwV 1 K.1.2.2.2.2 gL_law_X8_count rfl rfl rfl (by decide +kernel) ⟨Nat.le_of_ble_eq_true rfl, Nat.le_of_ble_eq_true rfl⟩) rfl (Nat.le_of_ble_eq_true rfl) dL_law_322 rfl (law_hf (kz := kz) ⟨by omega, by omega⟩ (by omega) (by omega) (by decide) (by decide)) rfl (fun z_38 C_39 hp_322 => ?_)
                              refine z_C hp_322.1 ?_
                              refine z_top (sAllLost f2) hp_322.2 ?_
                              refine z_iload 327 K dL_law_325 rfl 8 rfl ?_
                              refine z_iload 329 K dL_law_327 rfl 1 rfl ?_
                              refine z_iadd 330 K dL_law_329 rfl ?_
                              refine z_icmp_ne (tgt := 414) 333 K dL_law_330 rfl (by decide) (by omega) (by omega) (fun c_330 => ?_) (fun c_330 => ?_)
                              · exact absurd c_330 (by omega)
                              · skip
                                refine z_aload_n 334 K dL_law_333 rfl rfl 14 rfl ?_
                                refine z_iconst 335 K dL_law_334 rfl ?_
                                refine z_vVi (As := [.int (iZ 5)]) (rest := []) 338 K 0 (by decide) gMa_172 rfl rfl (e_cnt5 l g _ f2 _ _ k2 _ _ hIn2 hPn2) (cwV 1 K.1.2.2.2.2 gL_law_X8_count rfl rfl rfl (by decide +kernel) ⟨Nat.le_of_ble_eq_true rfl, Nat.le_of_ble_eq_true rfl⟩) rfl (Nat.le_of_ble_eq_true rfl) dL_law_335 rfl (law_hf (kz := kz) ⟨by omega, by omega⟩ (by omega) (by omega) (by decide) (by decide)) rfl (fun z_40 C_41 hp_335 => ?_)
                                refine z_C hp_335.1 ?_
                                refine z_top (sStaleN f2) hp_335.2 ?_
                                refine z_iload 340 K dL_law_338 rfl 2 rfl ?_
                                refine z_icmp_ne (tgt := 414) 343 K dL_law_340 rfl (by decide) (by omega) (by decide) (fun c_340 => ?_) (fun c_340 => ?_)
                                · exact absurd c_340 (by omega)
                                · skip
                                  exact join_343_j_25  
                      refine z_iload 279 K dL_law_277 rfl 6 rfl ?_
                      refine z_bipush 281 K dL_law_279 rfl rfl ?_
                      refine z_icmp_eq (tgt := 291) 284 K dL_law_281 rfl (by decide) (by omega) (by decide) (fun c_281 => ?_) (fun c_281 => ?_)
                      · skip
                        have hss := hs9 (by omega)
                        refine z_aload_n 292 K dL_law_291 rfl rfl 14 rfl ?_
                        refine z_iconst 293 K dL_law_292 rfl ?_
                        refine z_vVi (As := [.int (iZ 4)]) (rest := []) 296 K 0 (by decide) gMa_172 rfl rfl (e_cnt4 l g _ f2 _ _ k2 _ _ hIn2 hPn2) (cwV 1 K.1.2.2.2.2 gL_law_X8_count rfl rfl rfl (by decide +kernel) ⟨Nat.le_of_ble_eq_true rfl, Nat.le_of_ble_eq_true rfl⟩) rfl (Nat.le_of_ble_eq_true rfl) dL_law_293 rfl (law_hf (kz := kz) ⟨by omega, by omega⟩ (by omega) (by omega) (by decide) (by decide)) rfl (fun z_42 C_43 hp_293 => ?_)
                        refine z_C hp_293.1 ?_
                        refine z_top (sAllLost f2) hp_293.2 ?_
                        refine z_iload 298 K dL_law_296 rfl 8 rfl ?_
                        refine z_icmp_ne (tgt := 414) 301 K dL_law_298 rfl (by decide) (by omega) (by omega) (fun c_298 => ?_) (fun c_298 => ?_)
                        · exact absurd c_298 (by omega)
                        · skip
                          exact join_301_j_24  
                      · skip
                        refine z_iload 286 K dL_law_284 rfl 6 rfl ?_
                        refine z_bipush 288 K dL_law_286 rfl rfl ?_
                        refine z_icmp_ne (tgt := 301) 291 K dL_law_288 rfl (by decide) (by omega) (by decide) (fun c_288 => ?_) (fun c_288 => ?_)
                        · skip
                          exact join_301_j_24  
                        · skip
                          have hss := hs9 (by omega)
                          refine z_aload_n 292 K dL_law_291 rfl rfl 14 rfl ?_
                          refine z_iconst 293 K dL_law_292 rfl ?_
                          refine z_vVi (As := [.int (iZ 4)]) (rest := []) 296 K 0 (by decide) gMa_172 rfl rfl (e_cnt4 l g _ f2 _ _ k2 _ _ hIn2 hPn2) (cwV 1 K.1.2.2.2.2 gL_law_X8_count rfl rfl rfl (by decide +kernel) ⟨Nat.le_of_ble_eq_true rfl, Nat.le_of_ble_eq_true rfl⟩) rfl (Nat.le_of_ble_eq_true rfl) dL_law_293 rfl (law_hf (kz := kz) ⟨by omega, by omega⟩ (by omega) (by omega) (by decide) (by decide)) rfl (fun z_44 C_45 hp_293 => ?_)
                          refine z_C hp_293.1 ?_
                          refine z_top (sAllLost f2) hp_293.2 ?_
                          refine z_iload 298 K dL_law_296 rfl 8 rfl ?_
                          refine z_icmp_ne (tgt := 414) 301 K dL_law_298 rfl (by decide) (by omega) (by omega) (fun c_298 => ?_) (fun c_298 => ?_)
                          · exact absurd c_298 (by omega)
                          · skip
                            exact join_301_j_24  
                    refine z_iload 245 K dL_law_243 rfl 6 rfl ?_
                    refine z_bipush 247 K dL_law_245 rfl rfl ?_
                    refine z_icmp_lt (tgt := 277) 250 K dL_law_247 rfl (by decide) (by omega) (by decide) (fun c_247 => ?_) (fun c_247 => ?_)
                    · skip
                      exact join_277_j_23  
                    · skip
                      refine z_iload 252 K dL_law_250 rfl 6 rfl ?_
                      refine z_bipush 254 K dL_law_252 rfl rfl ?_
                      refine z_icmp_gt (tgt := 277) 257 K dL_law_254 rfl (by decide) (by omega) (by decide) (fun c_254 => ?_) (fun c_254 => ?_)
                      · skip
                        exact join_277_j_23  
                      · skip
                        have hjj := hj9 (by omega) (by omega)
                        refine z_aload_n 258 K dL_law_257 rfl rfl 14 rfl ?_
                        refine z_iconst 259 K dL_law_258 rfl ?_
                        refine z_vVi (As := [.int (iZ 1)]) (rest := []) 262 K 0 (by decide) gMa_172 rfl rfl (e_cnt1 l g _ f2 _ _ k2 _ _ hIn2 hPn2) (cwV 1 K.1.2.2.2.2 gL_law_X8_count rfl rfl rfl (by decide +kernel) ⟨Nat.le_of_ble_eq_true rfl, Nat.le_of_ble_eq_true rfl⟩) rfl (Nat.le_of_ble_eq_true rfl) dL_law_259 rfl (law_hf (kz := kz) ⟨by omega, by omega⟩ (by omega) (by omega) (by decide) (by decide)) rfl (fun z_46 C_47 hp_259 => ?_)
                        refine z_C hp_259.1 ?_
                        refine z_top (sPgs f2) hp_259.2 ?_
                        refine z_iload 264 K dL_law_262 rfl 10 rfl ?_
                        refine z_icmp_ne (tgt := 414) 267 K dL_law_264 rfl (by decide) (by omega) (by omega) (fun c_264 => ?_) (fun c_264 => ?_)
                        · exact absurd c_264 (by omega)
                        · skip
                          refine z_aload_n 268 K dL_law_267 rfl rfl 14 rfl ?_
                          refine z_iconst 269 K dL_law_268 rfl ?_
                          refine z_vVi (As := [.int (iZ 3)]) (rest := []) 272 K 0 (by decide) gMa_172 rfl rfl (e_cnt3 l g _ f2 _ _ k2 _ _ hIn2 hPn2) (cwV 1 K.1.2.2.2.2 gL_law_X8_count rfl rfl rfl (by decide +kernel) ⟨Nat.le_of_ble_eq_true rfl, Nat.le_of_ble_eq_true rfl⟩) rfl (Nat.le_of_ble_eq_true rfl) dL_law_269 rfl (law_hf (kz := kz) ⟨by omega, by omega⟩ (by omega) (by omega) (by decide) (by decide)) rfl (fun z_48 C_49 hp_269 => ?_)
                          refine z_C hp_269.1 ?_
                          refine z_top (sCts f2) hp_269.2 ?_
                          refine z_iload 274 K dL_law_272 rfl 9 rfl ?_
                          refine z_icmp_ne (tgt := 414) 277 K dL_law_274 rfl (by decide) (by omega) (by omega) (fun c_274 => ?_) (fun c_274 => ?_)
                          · exact absurd c_274 (by omega)
                          · skip
                            exact join_277_j_23  
                  refine z_iload 179 K dL_law_177 rfl 0 rfl ?_
                  refine z_if_ge (tgt := 233) 182 K dL_law_179 rfl (by decide) (by omega) (fun c_179 => ?_) (fun c_179 => ?_)
                  · skip
                    refine z_iconst 234 K dL_law_233 rfl ?_
                    refine z_goto (tgt := 238) K dL_law_234 (by decide) ?_
                    exact join_238_j_22  
                  · skip
                    have hue := hu9 (by omega)
                    have he1 : f2 1 = f 1 := by rw [hue.1]
                    have he3 : sCts f2 = sCts f := by rw [hue.1]
                    have he4 : sAllLost f2 = sAllLost f := by rw [hue.1]
                    have he5 : sStaleN f2 = sStaleN f := by rw [hue.1]
                    have hek := hue.2
                    refine z_aload_n 183 K dL_law_182 rfl rfl 13 rfl ?_
                    refine z_bipush 185 K dL_law_183 rfl rfl ?_
                    refine z_vVi (As := [.int (iZ 8)]) (rest := []) 188 K 0 (by decide) gMa_172 rfl rfl (e_cnt8 l g _ f2 _ _ k2 _ _ hIn2 hPn2) (cwV 1 K.1.2.2.2.2 gL_law_X8_count rfl rfl rfl (by decide +kernel) ⟨Nat.le_of_ble_eq_true rfl, Nat.le_of_ble_eq_true rfl⟩) rfl (Nat.le_of_ble_eq_true rfl) dL_law_185 rfl (law_hf (kz := kz) ⟨by omega, by omega⟩ (by omega) (by omega) (by decide) (by decide)) rfl (fun z_50 C_51 hp_185 => ?_)
                    refine z_C hp_185.1 ?_
                    refine z_top (k2) hp_185.2 ?_
                    refine z_iload 190 K dL_law_188 rfl 11 rfl ?_
                    refine z_icmp_ne (tgt := 237) 193 K dL_law_190 rfl (by decide) (by omega) (by omega) (fun c_190 => ?_) (fun c_190 => ?_)
                    · exact absurd c_190 (by omega)
                    · skip
                      refine z_aload_n 194 K dL_law_193 rfl rfl 13 rfl ?_
                      refine z_iconst 195 K dL_law_194 rfl ?_
                      refine z_vVi (As := [.int (iZ 0)]) (rest := []) 198 K 0 (by decide) gMa_172 rfl rfl (e_cnt0 l g _ f2 _ _ k2 _ _ hIn2 hPn2) (cwV 1 K.1.2.2.2.2 gL_law_X8_count rfl rfl rfl (by decide +kernel) ⟨Nat.le_of_ble_eq_true rfl, Nat.le_of_ble_eq_true rfl⟩) rfl (Nat.le_of_ble_eq_true rfl) dL_law_195 rfl (law_hf (kz := kz) ⟨by omega, by omega⟩ (by omega) (by omega) (by decide) (by decide)) rfl (fun z_52 C_53 hp_195 => ?_)
                      refine z_C hp_195.1 ?_
                      refine z_top (f2 1) hp_195.2 ?_
                      refine z_iload 200 K dL_law_198 rfl 10 rfl ?_
                      refine z_icmp_ne (tgt := 237) 203 K dL_law_200 rfl (by decide) (by omega) (by omega) (fun c_200 => ?_) (fun c_200 => ?_)
                      · exact absurd c_200 (by omega)
                      · skip
                        refine z_aload_n 204 K dL_law_203 rfl rfl 13 rfl ?_
                        refine z_iconst 205 K dL_law_204 rfl ?_
                        refine z_vVi (As := [.int (iZ 3)]) (rest := []) 208 K 0 (by decide) gMa_172 rfl rfl (e_cnt3 l g _ f2 _ _ k2 _ _ hIn2 hPn2) (cwV 1 K.1.2.2.2.2 gL_law_X8_count rfl rfl rfl (by decide +kernel) ⟨Nat.le_of_ble_eq_true rfl, Nat.le_of_ble_eq_true rfl⟩) rfl (Nat.le_of_ble_eq_true rfl) dL_law_205 rfl (law_hf (kz := kz) ⟨by omega, by omega⟩ (by omega) (by omega) (by decide) (by decide)) rfl (fun z_54 C_55 hp_205 => ?_)
                        refine z_C hp_205.1 ?_
                        refine z_top (sCts f2) hp_205.2 ?_
                        refine z_iload 210 K dL_law_208 rfl 8 rfl ?_
                        refine z_icmp_ne (tgt := 237) 213 K dL_law_210 rfl (by decide) (by omega) (by omega) (fun c_210 => ?_) (fun c_210 => ?_)
                        · exact absurd c_210 (by omega)
                        · skip
                          refine z_aload_n 214 K dL_law_213 rfl rfl 13 rfl ?_
                          refine z_iconst 215 K dL_law_214 rfl ?_
                          refine z_vVi (As := [.int (iZ 4)]) (rest := []) 218 K 0 (by decide) gMa_172 rfl rfl (e_cnt4 l g _ f2 _ _ k2 _ _ hIn2 hPn2) (cwV 1 K.1.2.2.2.2 gL_law_X8_count rfl rfl rfl (by decide +kernel) ⟨Nat.le_of_ble_eq_true rfl, Nat.le_of_ble_eq_true rfl⟩) rfl (Nat.le_of_ble_eq_true rfl) dL_law_215 rfl (law_hf (kz := kz) ⟨by omega, by omega⟩ (by omega) (by omega) (by decide) (by decide)) rfl (fun z_56 C_57 hp_215 => ?_)
                          refine z_C hp_215.1 ?_
                          refine z_top (sAllLost f2) hp_215.2 ?_
                          refine z_iload 220 K dL_law_218 rfl 7 rfl ?_
                          refine z_icmp_ne (tgt := 237) 223 K dL_law_220 rfl (by decide) (by omega) (by omega) (fun c_220 => ?_) (fun c_220 => ?_)
                          · exact absurd c_220 (by omega)
                          · skip
                            refine z_aload_n 224 K dL_law_223 rfl rfl 13 rfl ?_
                            refine z_iconst 225 K dL_law_224 rfl ?_
                            refine z_vVi (As := [.int (iZ 5)]) (rest := []) 228 K 0 (by decide) gMa_172 rfl rfl (e_cnt5 l g _ f2 _ _ k2 _ _ hIn2 hPn2) (cwV 1 K.1.2.2.2.2 gL_law_X8_count rfl rfl rfl (by decide +kernel) ⟨Nat.le_of_ble_eq_true rfl, Nat.le_of_ble_eq_true rfl⟩) rfl (Nat.le_of_ble_eq_true rfl) dL_law_225 rfl (law_hf (kz := kz) ⟨by omega, by omega⟩ (by omega) (by omega) (by decide) (by decide)) rfl (fun z_58 C_59 hp_225 => ?_)
                            refine z_C hp_225.1 ?_
                            refine z_top (sStaleN f2) hp_225.2 ?_
                            refine z_iload 230 K dL_law_228 rfl 6 rfl ?_
                            refine z_icmp_ne (tgt := 237) 233 K dL_law_230 rfl (by decide) (by omega) (by omega) (fun c_230 => ?_) (fun c_230 => ?_)
                            · exact absurd c_230 (by omega)
                            · skip
                              refine z_iconst 234 K dL_law_233 rfl ?_
                              refine z_goto (tgt := 238) K dL_law_234 (by decide) ?_
                              exact join_238_j_22  
          · skip
            refine z_iload 114 K dL_law_112 rfl 6 rfl ?_
            refine z_if_ne (tgt := 121) 117 K dL_law_114 rfl (by decide) (by omega) (fun c_114 => ?_) (fun c_114 => ?_)
            · skip
              refine z_iload 123 K dL_law_121 rfl 0 rfl ?_
              refine z_iload 125 K dL_law_123 rfl 6 rfl ?_
              refine z_vSi (As := [.int (iZ (cV xs L (3 * kz + 1))), .int (iZ (f 1))]) (rest := []) 128 K (m_L_low l g _ (cV xs L (3 * kz + 1)) (f 1) (by omega)) (va_cwS 2 K.1.2.2.2.2 gL_law_L_low rfl rfl rfl (by decide +kernel) ⟨Nat.le_of_ble_eq_true rfl, Nat.le_of_ble_eq_true rfl⟩) rfl (Nat.le_of_ble_eq_true rfl) dL_law_125 rfl (law_hf (kz := kz) ⟨by omega, by omega⟩ (by omega) (by omega) (by decide) (by decide)) rfl (fun z_60 C_61 hp_125 => ?_)
              refine z_C hp_125.1 ?_
              refine z_top (lowZ (cV xs L (3 * kz + 1)) (f 1)) hp_125.2 ?_
              have hlz := lowZ_rng (cV xs L (3 * kz + 1)) (n := f 1) (by omega)
              have hdr := sDrp_rng hw hlz
              refine z_istore (lv' := [(13, .int (iZ (lowZ (cV xs L (3 * kz + 1)) (f 1)))), (12, .int (iZ (cV xs L (3 * kz + 1)))), (11, .int (iZ (lowZ (cV xs L (3 * kz)) 20))), (10, .int (iZ (sStaleN f))), (9, .int (iZ (sAllLost f))), (8, .int (iZ (sCts f))), (7, .int (iZ (sPgs f))), (6, .int (iZ (f 1))), (5, .int (iZ k)), (0, .ref b), (1, .ref (aD g 0)), (2, .int (iZ 1)), (3, .int (iZ tn)), (4, .int (iZ kz))]) 130 K dL_law_128 rfl (by decide) rfl ?_
              refine z_iload 132 K dL_law_130 rfl 7 rfl ?_
              refine z_if_ne (tgt := 139) 135 K dL_law_132 rfl (by decide) (by omega) (fun c_132 => ?_) (fun c_132 => ?_)
              · skip
                refine z_aload_n 140 K dL_law_139 rfl rfl 10 rfl ?_
                refine z_iload 142 K dL_law_140 rfl 0 rfl ?_
                refine z_iconst 143 K dL_law_142 rfl ?_
                refine z_vVi (As := [.int (iZ (lowZ (cV xs L (3 * kz + 1)) (f 1))), .int (iZ 0)]) (rest := []) 146 K 0 (by decide) gMa rfl rfl (a_X8_ifDropped l g _ (lowZ (cV xs L (3 * kz + 1)) (f 1)) 0 _ _ _ _ _ _ hI hP (by omega) (by omega) (by unfold kIfD; rw [if_neg (by omega), if_neg (by omega)])) (cwV 2 K.1.2.2.2.2 gL_law_X8_ifDropped rfl rfl rfl (by decide +kernel) ⟨Nat.le_of_ble_eq_true rfl, Nat.le_of_ble_eq_true rfl⟩) rfl (Nat.le_of_ble_eq_true rfl) dL_law_143 rfl (law_hf (kz := kz) ⟨by omega, by omega⟩ (by omega) (by omega) (by decide) (by decide)) rfl (fun z_62 C_63 hp_143 => ?_)
                obtain ⟨hIn_143, hsm_143, hz_143⟩ := hp_143
                refine z_top (sDrp f (lowZ (cV xs L (3 * kz + 1)) (f 1)) 0) hz_143 ?_
                obtain ⟨⟨gMa_143, -⟩, -, -, -, -, -⟩ := id hIn_143
                refine z_istore (lv' := [(14, .int (iZ (sDrp f (lowZ (cV xs L (3 * kz + 1)) (f 1)) 0))), (13, .int (iZ (lowZ (cV xs L (3 * kz + 1)) (f 1)))), (12, .int (iZ (cV xs L (3 * kz + 1)))), (11, .int (iZ (lowZ (cV xs L (3 * kz)) 20))), (10, .int (iZ (sStaleN f))), (9, .int (iZ (sAllLost f))), (8, .int (iZ (sCts f))), (7, .int (iZ (sPgs f))), (6, .int (iZ (f 1))), (5, .int (iZ k)), (0, .ref b), (1, .ref (aD g 0)), (2, .int (iZ 1)), (3, .int (iZ tn)), (4, .int (iZ kz))]) 148 K dL_law_146 rfl (by decide) rfl ?_
                refine z_iload 150 K dL_law_148 rfl 8 rfl ?_
                refine z_if_ne (tgt := 157) 153 K dL_law_150 rfl (by decide) (by omega) (fun c_150 => ?_) (fun c_150 => ?_)
                · skip
                  refine z_aload_n 158 K dL_law_157 rfl rfl 11 rfl ?_
                  refine z_iload 160 K dL_law_158 rfl 1 rfl ?_
                  refine z_iconst 161 K dL_law_160 rfl ?_
                  refine z_vVi (As := [.int (iZ (lowZ (cV xs L (3 * kz + 1)) (f 1))), .int (iZ 1)]) (rest := []) 164 K 0 (by decide) gMa_143 rfl rfl (a_X8_ifDropped l g _ (lowZ (cV xs L (3 * kz + 1)) (f 1)) 1 _ _ _ _ _ _ hIn_143 hP (by omega) (by omega) (by unfold kIfD; rw [if_neg (by omega), if_neg (by omega)])) (cwV 2 K.1.2.2.2.2 gL_law_X8_ifDropped rfl rfl rfl (by decide +kernel) ⟨Nat.le_of_ble_eq_true rfl, Nat.le_of_ble_eq_true rfl⟩) rfl (Nat.le_of_ble_eq_true rfl) dL_law_161 rfl (law_hf (kz := kz) ⟨by omega, by omega⟩ (by omega) (by omega) (by decide) (by decide)) rfl (fun z_64 C_65 hp_161 => ?_)
                  obtain ⟨hIn_161, hsm_161, hz_161⟩ := hp_161
                  refine z_top (sDrp f (lowZ (cV xs L (3 * kz + 1)) (f 1)) 1) hz_161 ?_
                  have hIa := hIn_161
                  obtain ⟨⟨gMa_161, -⟩, -, -, -, -, -⟩ := id hIn_161
                  refine z_istore (lv' := [(15, .int (iZ (sDrp f (lowZ (cV xs L (3 * kz + 1)) (f 1)) 1))), (14, .int (iZ (sDrp f (lowZ (cV xs L (3 * kz + 1)) (f 1)) 0))), (13, .int (iZ (lowZ (cV xs L (3 * kz + 1)) (f 1)))), (12, .int (iZ (cV xs L (3 * kz + 1)))), (11, .int (iZ (lowZ (cV xs L (3 * kz)) 20))), (10, .int (iZ (sStaleN f))), (9, .int (iZ (sAllLost f))), (8, .int (iZ (sCts f))), (7, .int (iZ (sPgs f))), (6, .int (iZ (f 1))), (5, .int (iZ k)), (0, .ref b), (1, .ref (aD g 0)), (2, .int (iZ 1)), (3, .int (iZ tn)), (4, .int (iZ kz))]) 166 K dL_law_164 rfl (by decide) rfl ?_
                  refine z_aload_n 167 K dL_law_166 rfl rfl 12 rfl ?_
                  refine z_aload_n 168 K dL_law_167 rfl rfl 11 rfl ?_
                  refine z_iconst 169 K dL_law_168 rfl ?_
                  refine z_iload 171 K dL_law_169 rfl 15 rfl ?_
                  refine z_imul 172 K dL_law_171 rfl ?_
                  refine z_vS3i (As := [.ref (aD g 0), .ref b, .int (iZ (3 * kz))]) (rest := []) 175 K hNc hX hbl hbA (m_L_act l g _ (3 * kz) b L xs _ _ _ _ _ _ hIa hP (by omega) (by omega) (by omega) hlt) (va_cwS 3 K.1.2.2.2.2 gL_law_L_act rfl rfl rfl (by decide +kernel) ⟨Nat.le_of_ble_eq_true rfl, Nat.le_of_ble_eq_true rfl⟩) rfl (Nat.le_of_ble_eq_true rfl) dL_law_172 rfl (law_hf (kz := kz) ⟨by omega, by omega⟩ (by omega) (by omega) (by decide) (by decide)) rfl (fun z_66 C_67 hp_172 => ?_)
                  obtain ⟨f2, k2, p2, hIn2, hPn2, hAc⟩ := hp_172
                  obtain ⟨hr9, hu9, hj9, hs9, hd9, hc9, hp9⟩ := hAc
                  have hw2 := hPn2.1
                  have hk62 := hPn2.2.1
                  have hq12 : 0 ≤ sPgs f2 ∧ sPgs f2 ≤ 1800 := sSm_rng hw2 hw2.n.1 (Int.le_refl _)
                  have hq22 : 0 ≤ sCts f2 ∧ sCts f2 ≤ 72 := (sSums_rng (a := 12) hw2 (by omega) (by omega)).1
                  have hq32 := sAllLost_rng hw2.wr
                  have hq42 := sStaleN_rng f2
                  have hn2 := hw2.n
                  obtain ⟨⟨gMa_172, -⟩, -, -, -, -, -⟩ := id hIn2
                  refine z_istore (lv' := [(16, .int (iZ z_66)), (15, .int (iZ (sDrp f (lowZ (cV xs L (3 * kz + 1)) (f 1)) 1))), (14, .int (iZ (sDrp f (lowZ (cV xs L (3 * kz + 1)) (f 1)) 0))), (13, .int (iZ (lowZ (cV xs L (3 * kz + 1)) (f 1)))), (12, .int (iZ (cV xs L (3 * kz + 1)))), (11, .int (iZ (lowZ (cV xs L (3 * kz)) 20))), (10, .int (iZ (sStaleN f))), (9, .int (iZ (sAllLost f))), (8, .int (iZ (sCts f))), (7, .int (iZ (sPgs f))), (6, .int (iZ (f 1))), (5, .int (iZ k)), (0, .ref b), (1, .ref (aD g 0)), (2, .int (iZ 1)), (3, .int (iZ tn)), (4, .int (iZ kz))]) 177 K dL_law_175 rfl (by decide) rfl ?_
                  have join_238_j_68 :  Z p l e room_1 s m args below meth c Q g 17 (kc9 + 4) (ks9 + 24) (C_67) [(16, .int (iZ z_66)), (15, .int (iZ (sDrp f (lowZ (cV xs L (3 * kz + 1)) (f 1)) 1))), (14, .int (iZ (sDrp f (lowZ (cV xs L (3 * kz + 1)) (f 1)) 0))), (13, .int (iZ (lowZ (cV xs L (3 * kz + 1)) (f 1)))), (12, .int (iZ (cV xs L (3 * kz + 1)))), (11, .int (iZ (lowZ (cV xs L (3 * kz)) 20))), (10, .int (iZ (sStaleN f))), (9, .int (iZ (sAllLost f))), (8, .int (iZ (sCts f))), (7, .int (iZ (sPgs f))), (6, .int (iZ (f 1))), (5, .int (iZ k)), (0, .ref b), (1, .ref (aD g 0)), (2, .int (iZ 1)), (3, .int (iZ tn)), (4, .int (iZ kz))] 238 [.int (iZ 1)] := by
                    refine z_istore_n (lv' := [(2, .int (iZ 1)), (16, .int (iZ z_66)), (15, .int (iZ (sDrp f (lowZ (cV xs L (3 * kz + 1)) (f 1)) 1))), (14, .int (iZ (sDrp f (lowZ (cV xs L (3 * kz + 1)) (f 1)) 0))), (13, .int (iZ (lowZ (cV xs L (3 * kz + 1)) (f 1)))), (12, .int (iZ (cV xs L (3 * kz + 1)))), (11, .int (iZ (lowZ (cV xs L (3 * kz)) 20))), (10, .int (iZ (sStaleN f))), (9, .int (iZ (sAllLost f))), (8, .int (iZ (sCts f))), (7, .int (iZ (sPgs f))), (6, .int (iZ (f 1))), (5, .int (iZ k)), (0, .ref b), (1, .ref (aD g 0)), (3, .int (iZ tn)), (4, .int (iZ kz))]) 239 K dL_law_238 rfl rfl (by decide) rfl ?_
                    refine z_iload_n 240 K dL_law_239 rfl rfl 0 rfl ?_
                    refine z_if_eq (tgt := 414) 243 K dL_law_240 rfl (by decide) (by decide) (fun c_240 => ?_) (fun c_240 => ?_)
                    · exact absurd c_240 (by decide)
                    have join_277_j_69 :  Z p l e room_1 s m args below meth c Q g 17 (kc9 + 4) (ks9 + 24) (C_67) [(2, .int (iZ 1)), (16, .int (iZ z_66)), (15, .int (iZ (sDrp f (lowZ (cV xs L (3 * kz + 1)) (f 1)) 1))), (14, .int (iZ (sDrp f (lowZ (cV xs L (3 * kz + 1)) (f 1)) 0))), (13, .int (iZ (lowZ (cV xs L (3 * kz + 1)) (f 1)))), (12, .int (iZ (cV xs L (3 * kz + 1)))), (11, .int (iZ (lowZ (cV xs L (3 * kz)) 20))), (10, .int (iZ (sStaleN f))), (9, .int (iZ (sAllLost f))), (8, .int (iZ (sCts f))), (7, .int (iZ (sPgs f))), (6, .int (iZ (f 1))), (5, .int (iZ k)), (0, .ref b), (1, .ref (aD g 0)), (3, .int (iZ tn)), (4, .int (iZ kz))] 277 [] := by
                      have join_301_j_70 :  Z p l e room_1 s m args below meth c Q g 17 (kc9 + 4) (ks9 + 24) (C_67) [(2, .int (iZ 1)), (16, .int (iZ z_66)), (15, .int (iZ (sDrp f (lowZ (cV xs L (3 * kz + 1)) (f 1)) 1))), (14, .int (iZ (sDrp f (lowZ (cV xs L (3 * kz + 1)) (f 1)) 0))), (13, .int (iZ (lowZ (cV xs L (3 * kz + 1)) (f 1)))), (12, .int (iZ (cV xs L (3 * kz + 1)))), (11, .int (iZ (lowZ (cV xs L (3 * kz)) 20))), (10, .int (iZ (sStaleN f))), (9, .int (iZ (sAllLost f))), (8, .int (iZ (sCts f))), (7, .int (iZ (sPgs f))), (6, .int (iZ (f 1))), (5, .int (iZ k)), (0, .ref b), (1, .ref (aD g 0)), (3, .int (iZ tn)), (4, .int (iZ kz))] 301 [] := by
                        have join_343_j_71 :  Z p l e room_1 s m args below meth c Q g 17 (kc9 + 4) (ks9 + 24) (C_67) [(2, .int (iZ 1)), (16, .int (iZ z_66)), (15, .int (iZ (sDrp f (lowZ (cV xs L (3 * kz + 1)) (f 1)) 1))), (14, .int (iZ (sDrp f (lowZ (cV xs L (3 * kz + 1)) (f 1)) 0))), (13, .int (iZ (lowZ (cV xs L (3 * kz + 1)) (f 1)))), (12, .int (iZ (cV xs L (3 * kz + 1)))), (11, .int (iZ (lowZ (cV xs L (3 * kz)) 20))), (10, .int (iZ (sStaleN f))), (9, .int (iZ (sAllLost f))), (8, .int (iZ (sCts f))), (7, .int (iZ (sPgs f))), (6, .int (iZ (f 1))), (5, .int (iZ k)), (0, .ref b), (1, .ref (aD g 0)), (3, .int (iZ tn)), (4, .int (iZ kz))] 343 [] := by
                          have join_376_j_72 :  Z p l e room_1 s m args below meth c Q g 17 (kc9 + 4) (ks9 + 24) (C_67) [(2, .int (iZ 1)), (16, .int (iZ z_66)), (15, .int (iZ (sDrp f (lowZ (cV xs L (3 * kz + 1)) (f 1)) 1))), (14, .int (iZ (sDrp f (lowZ (cV xs L (3 * kz + 1)) (f 1)) 0))), (13, .int (iZ (lowZ (cV xs L (3 * kz + 1)) (f 1)))), (12, .int (iZ (cV xs L (3 * kz + 1)))), (11, .int (iZ (lowZ (cV xs L (3 * kz)) 20))), (10, .int (iZ (sStaleN f))), (9, .int (iZ (sAllLost f))), (8, .int (iZ (sCts f))), (7, .int (iZ (sPgs f))), (6, .int (iZ (f 1))), (5, .int (iZ k)), (0, .ref b), (1, .ref (aD g 0)), (3, .int (iZ tn)), (4, .int (iZ kz))] 376 [] := by
                            have join_403_j_73 :  Z p l e room_1 s m args below meth c Q g 17 (kc9 + 4) (ks9 + 24) (C_67) [(2, .int (iZ 1)), (16, .int (iZ z_66)), (15, .int (iZ (sDrp f (lowZ (cV xs L (3 * kz + 1)) (f 1)) 1))), (14, .int (iZ (sDrp f (lowZ (cV xs L (3 * kz + 1)) (f 1)) 0))), (13, .int (iZ (lowZ (cV xs L (3 * kz + 1)) (f 1)))), (12, .int (iZ (cV xs L (3 * kz + 1)))), (11, .int (iZ (lowZ (cV xs L (3 * kz)) 20))), (10, .int (iZ (sStaleN f))), (9, .int (iZ (sAllLost f))), (8, .int (iZ (sCts f))), (7, .int (iZ (sPgs f))), (6, .int (iZ (f 1))), (5, .int (iZ k)), (0, .ref b), (1, .ref (aD g 0)), (3, .int (iZ tn)), (4, .int (iZ kz))] 403 [] := by
                              refine z_aload_n 404 K dL_law_403 rfl rfl 14 rfl ?_
                              refine z_vSi (As := [.ref (aD g 0)]) (rest := []) 407 K (m_L_brief l g _ f2 p2 _ k2 _ _ hIn2 hPn2) (va_cwS 1 K.1.2.2.2.2 gL_law_L_brief rfl rfl rfl (by decide +kernel) ⟨Nat.le_of_ble_eq_true rfl, Nat.le_of_ble_eq_true rfl⟩) rfl (Nat.le_of_ble_eq_true rfl) dL_law_404 rfl (law_hf (kz := kz) ⟨by omega, by omega⟩ (by omega) (by omega) (by decide) (by decide)) rfl (fun z_74 C_75 hp_404 => ?_)
                              refine z_C hp_404.1 ?_
                              refine z_top (1) hp_404.2 ?_
                              refine z_if_eq (tgt := 414) 410 K dL_law_407 rfl (by decide) (by decide) (fun c_407 => ?_) (fun c_407 => ?_)
                              · exact absurd c_407 (by decide)
                              refine z_iconst 411 K dL_law_410 rfl ?_
                              refine z_goto (tgt := 415) K dL_law_411 (by decide) ?_
                              refine z_istore_n (lv' := [(2, .int (iZ 1)), (16, .int (iZ z_66)), (15, .int (iZ (sDrp f (lowZ (cV xs L (3 * kz + 1)) (f 1)) 1))), (14, .int (iZ (sDrp f (lowZ (cV xs L (3 * kz + 1)) (f 1)) 0))), (13, .int (iZ (lowZ (cV xs L (3 * kz + 1)) (f 1)))), (12, .int (iZ (cV xs L (3 * kz + 1)))), (11, .int (iZ (lowZ (cV xs L (3 * kz)) 20))), (10, .int (iZ (sStaleN f))), (9, .int (iZ (sAllLost f))), (8, .int (iZ (sCts f))), (7, .int (iZ (sPgs f))), (6, .int (iZ (f 1))), (5, .int (iZ k)), (0, .ref b), (1, .ref (aD g 0)), (3, .int (iZ tn)), (4, .int (iZ kz))]) 416 K dL_law_415 rfl rfl (by decide) rfl ?_
                              refine z_iinc (lv' := [(4, .int (iZ (kz + 1))), (2, .int (iZ 1)), (16, .int (iZ z_66)), (15, .int (iZ (sDrp f (lowZ (cV xs L (3 * kz + 1)) (f 1)) 1))), (14, .int (iZ (sDrp f (lowZ (cV xs L (3 * kz + 1)) (f 1)) 0))), (13, .int (iZ (lowZ (cV xs L (3 * kz + 1)) (f 1)))), (12, .int (iZ (cV xs L (3 * kz + 1)))), (11, .int (iZ (lowZ (cV xs L (3 * kz)) 20))), (10, .int (iZ (sStaleN f))), (9, .int (iZ (sAllLost f))), (8, .int (iZ (sCts f))), (7, .int (iZ (sPgs f))), (6, .int (iZ (f 1))), (5, .int (iZ k)), (0, .ref b), (1, .ref (aD g 0)), (3, .int (iZ tn))]) 419 K dL_law_416 rfl (kz + 1) rfl 16 rfl (by decide) rfl ?_
                              refine z_goto (tgt := 32) K dL_law_419 (by decide) ?_
                              refine z_sub [14, 15, 1, 16, 0] rfl ?_
                              refine z_wid (kc' := (kc9 + 4)) (ks' := (ks9 + 24)) (by omega) (by omega) ?_
                              exact ih_32 C_67 f2 p2 k2 (kz + 1) (kc9 + 4) (ks9 + 24) hIn2 hPn2 (by omega) (by omega) (by omega)
                            refine z_iload 378 K dL_law_376 rfl 6 rfl ?_
                            refine z_bipush 380 K dL_law_378 rfl rfl ?_
                            refine z_icmp_eq (tgt := 390) 383 K dL_law_380 rfl (by decide) (by omega) (by decide) (fun c_380 => ?_) (fun c_380 => ?_)
                            · skip
                              have hpp9 := hp9 (by omega)
                              refine z_aload_n 391 K dL_law_390 rfl rfl 14 rfl ?_
                              refine z_iconst 392 K dL_law_391 rfl ?_
                              refine z_vVi (As := [.int (iZ 5)]) (rest := []) 395 K 0 (by decide) gMa_172 rfl rfl (e_cnt5 l g _ f2 _ _ k2 _ _ hIn2 hPn2) (cwV 1 K.1.2.2.2.2 gL_law_X8_count rfl rfl rfl (by decide +kernel) ⟨Nat.le_of_ble_eq_true rfl, Nat.le_of_ble_eq_true rfl⟩) rfl (Nat.le_of_ble_eq_true rfl) dL_law_392 rfl (law_hf (kz := kz) ⟨by omega, by omega⟩ (by omega) (by omega) (by decide) (by decide)) rfl (fun z_76 C_77 hp_392 => ?_)
                              refine z_C hp_392.1 ?_
                              refine z_top (sStaleN f2) hp_392.2 ?_
                              refine z_iload 397 K dL_law_395 rfl 7 rfl ?_
                              refine z_iload 399 K dL_law_397 rfl 1 rfl ?_
                              refine z_isub 400 K dL_law_399 rfl ?_
                              refine z_icmp_ne (tgt := 414) 403 K dL_law_400 rfl (by decide) (by omega) (by omega) (fun c_400 => ?_) (fun c_400 => ?_)
                              · exact absurd c_400 (by omega)
                              · skip
                                exact join_403_j_73  
                            · skip
                              refine z_iload 385 K dL_law_383 rfl 6 rfl ?_
                              refine z_bipush 387 K dL_law_385 rfl rfl ?_
                              refine z_icmp_ne (tgt := 403) 390 K dL_law_387 rfl (by decide) (by omega) (by decide) (fun c_387 => ?_) (fun c_387 => ?_)
                              · skip
                                exact join_403_j_73  
                              · skip
                                have hpp9 := hp9 (by omega)
                                refine z_aload_n 391 K dL_law_390 rfl rfl 14 rfl ?_
                                refine z_iconst 392 K dL_law_391 rfl ?_
                                refine z_vVi (As := [.int (iZ 5)]) (rest := []) 395 K 0 (by decide) gMa_172 rfl rfl (e_cnt5 l g _ f2 _ _ k2 _ _ hIn2 hPn2) (cwV 1 K.1.2.2.2.2 gL_law_X8_count rfl rfl rfl (by decide +kernel) ⟨Nat.le_of_ble_eq_true rfl, Nat.le_of_ble_eq_true rfl⟩) rfl (Nat.le_of_ble_eq_true rfl) dL_law_392 rfl (law_hf (kz := kz) ⟨by omega, by omega⟩ (by omega) (by omega) (by decide) (by decide)) rfl (fun z_78 C_79 hp_392 => ?_)
                                refine z_C hp_392.1 ?_
                                refine z_top (sStaleN f2) hp_392.2 ?_
                                refine z_iload 397 K dL_law_395 rfl 7 rfl ?_
                                refine z_iload 399 K dL_law_397 rfl 1 rfl ?_
                                refine z_isub 400 K dL_law_399 rfl ?_
                                refine z_icmp_ne (tgt := 414) 403 K dL_law_400 rfl (by decide) (by omega) (by omega) (fun c_400 => ?_) (fun c_400 => ?_)
                                · exact absurd c_400 (by omega)
                                · skip
                                  exact join_403_j_73  
                          refine z_iload 345 K dL_law_343 rfl 6 rfl ?_
                          refine z_bipush 347 K dL_law_345 rfl rfl ?_
                          refine z_icmp_ne (tgt := 376) 350 K dL_law_347 rfl (by decide) (by omega) (by decide) (fun c_347 => ?_) (fun c_347 => ?_)
                          · skip
                            exact join_376_j_72  
                          · skip
                            have hcc9 := hc9 (by omega)
                            refine z_aload_n 351 K dL_law_350 rfl rfl 14 rfl ?_
                            refine z_iconst 352 K dL_law_351 rfl ?_
                            refine z_vVi (As := [.int (iZ 3)]) (rest := []) 355 K 0 (by decide) gMa_172 rfl rfl (e_cnt3 l g _ f2 _ _ k2 _ _ hIn2 hPn2) (cwV 1 K.1.2.2.2.2 gL_law_X8_count rfl rfl rfl (by decide +kernel) ⟨Nat.le_of_ble_eq_true rfl, Nat.le_of_ble_eq_true rfl⟩) rfl (Nat.le_of_ble_eq_true rfl) dL_law_352 rfl (law_hf (kz := kz) ⟨by omega, by omega⟩ (by omega) (by omega) (by decide) (by decide)) rfl (fun z_80 C_81 hp_352 => ?_)
                            refine z_C hp_352.1 ?_
                            refine z_top (sCts f2) hp_352.2 ?_
                            refine z_iload 357 K dL_law_355 rfl 9 rfl ?_
                            refine z_iload 359 K dL_law_357 rfl 1 rfl ?_
                            refine z_isub 360 K dL_law_359 rfl ?_
                            refine z_icmp_ne (tgt := 414) 363 K dL_law_360 rfl (by decide) (by omega) (by omega) (fun c_360 => ?_) (fun c_360 => ?_)
                            · exact absurd c_360 (by omega)
                            · skip
                              refine z_aload_n 364 K dL_law_363 rfl rfl 14 rfl ?_
                              refine z_iconst 365 K dL_law_364 rfl ?_
                              refine z_vVi (As := [.int (iZ 4)]) (rest := []) 368 K 0 (by decide) gMa_172 rfl rfl (e_cnt4 l g _ f2 _ _ k2 _ _ hIn2 hPn2) (cwV 1 K.1.2.2.2.2 gL_law_X8_count rfl rfl rfl (by decide +kernel) ⟨Nat.le_of_ble_eq_true rfl, Nat.le_of_ble_eq_true rfl⟩) rfl (Nat.le_of_ble_eq_true rfl) dL_law_365 rfl (law_hf (kz := kz) ⟨by omega, by omega⟩ (by omega) (by omega) (by decide) (by decide)) rfl (fun z_82 C_83 hp_365 => ?_)
                              refine z_C hp_365.1 ?_
                              refine z_top (sAllLost f2) hp_365.2 ?_
                              refine z_iload 370 K dL_law_368 rfl 8 rfl ?_
                              refine z_iload 372 K dL_law_370 rfl 1 rfl ?_
                              refine z_isub 373 K dL_law_372 rfl ?_
                              refine z_icmp_ne (tgt := 414) 376 K dL_law_373 rfl (by decide) (by omega) (by omega) (fun c_373 => ?_) (fun c_373 => ?_)
                              · exact absurd c_373 (by omega)
                              · skip
                                exact join_376_j_72  
                        refine z_iload 303 K dL_law_301 rfl 6 rfl ?_
                        refine z_bipush 305 K dL_law_303 rfl rfl ?_
                        refine z_icmp_ne (tgt := 343) 308 K dL_law_305 rfl (by decide) (by omega) (by decide) (fun c_305 => ?_) (fun c_305 => ?_)
                        · skip
                          exact join_343_j_71  
                        · skip
                          refine z_iload 310 K dL_law_308 rfl 1 rfl ?_
                          refine z_if_lt (tgt := 343) 313 K dL_law_310 rfl (by decide) (by omega) (fun c_310 => ?_) (fun c_310 => ?_)
                          · skip
                            exact join_343_j_71  
                          · skip
                            have hdd := hd9 (by omega) (by omega)
                            refine z_iload 315 K dL_law_313 rfl 1 rfl ?_
                            refine z_iload 317 K dL_law_315 rfl 3 rfl ?_
                            refine z_icmp_ne (tgt := 414) 320 K dL_law_317 rfl (by decide) (by omega) (by omega) (fun c_317 => ?_) (fun c_317 => ?_)
                            · exact absurd c_317 (by omega)
                            · skip
                              refine z_aload_n 321 K dL_law_320 rfl rfl 14 rfl ?_
                              refine z_iconst 322 K dL_law_321 rfl ?_
                              refine z_vVi (As := [.int (iZ 4)]) (rest := []) 325 K 0 (by decide) gMa_172 rfl rfl (e_cnt4 l g _ f2 _ _ k2 _ _ hIn2 hPn2) (cwV 1 K.1.2.2.2.2 gL_law_X8_count rfl rfl rfl (by decide +kernel) ⟨Nat.le_of_ble_eq_true rfl, Nat.le_of_ble_eq_true rfl⟩) rfl (Nat.le_of_ble_eq_true rfl) dL_law_322 rfl (law_hf (kz := kz) ⟨by omega, by omega⟩ (by omega) (by omega) (by decide) (by decide)) rfl (fun z_84 C_85 hp_322 => ?_)
                              refine z_C hp_322.1 ?_
                              refine z_top (sAllLost f2) hp_322.2 ?_
                              refine z_iload 327 K dL_law_325 rfl 8 rfl ?_
                              refine z_iload 329 K dL_law_327 rfl 1 rfl ?_
                              refine z_iadd 330 K dL_law_329 rfl ?_
                              refine z_icmp_ne (tgt := 414) 333 K dL_law_330 rfl (by decide) (by omega) (by omega) (fun c_330 => ?_) (fun c_330 => ?_)
                              · exact absurd c_330 (by omega)
                              · skip
                                refine z_aload_n 334 K dL_law_333 rfl rfl 14 rfl ?_
                                refine z_iconst 335 K dL_law_334 rfl ?_
                                refine z_vVi (As := [.int (iZ 5)]) (rest := []) 338 K 0 (by decide) gMa_172 rfl rfl (e_cnt5 l g _ f2 _ _ k2 _ _ hIn2 hPn2) (cwV 1 K.1.2.2.2.2 gL_law_X8_count rfl rfl rfl (by decide +kernel) ⟨Nat.le_of_ble_eq_true rfl, Nat.le_of_ble_eq_true rfl⟩) rfl (Nat.le_of_ble_eq_true rfl) dL_law_335 rfl (law_hf (kz := kz) ⟨by omega, by omega⟩ (by omega) (by omega) (by decide) (by decide)) rfl (fun z_86 C_87 hp_335 => ?_)
                                refine z_C hp_335.1 ?_
                                refine z_top (sStaleN f2) hp_335.2 ?_
                                refine z_iload 340 K dL_law_338 rfl 2 rfl ?_
                                refine z_icmp_ne (tgt := 414) 343 K dL_law_340 rfl (by decide) (by omega) (by omega) (fun c_340 => ?_) (fun c_340 => ?_)
                                · exact absurd c_340 (by omega)
                                · skip
                                  exact join_343_j_71  
                      refine z_iload 279 K dL_law_277 rfl 6 rfl ?_
                      refine z_bipush 281 K dL_law_279 rfl rfl ?_
                      refine z_icmp_eq (tgt := 291) 284 K dL_law_281 rfl (by decide) (by omega) (by decide) (fun c_281 => ?_) (fun c_281 => ?_)
                      · skip
                        have hss := hs9 (by omega)
                        refine z_aload_n 292 K dL_law_291 rfl rfl 14 rfl ?_
                        refine z_iconst 293 K dL_law_292 rfl ?_
                        refine z_vVi (As := [.int (iZ 4)]) (rest := []) 296 K 0 (by decide) gMa_172 rfl rfl (e_cnt4 l g _ f2 _ _ k2 _ _ hIn2 hPn2) (cwV 1 K.1.2.2.2.2 gL_law_X8_count rfl rfl rfl (by decide +kernel) ⟨Nat.le_of_ble_eq_true rfl, Nat.le_of_ble_eq_true rfl⟩) rfl (Nat.le_of_ble_eq_true rfl) dL_law_293 rfl (law_hf (kz := kz) ⟨by omega, by omega⟩ (by omega) (by omega) (by decide) (by decide)) rfl (fun z_88 C_89 hp_293 => ?_)
                        refine z_C hp_293.1 ?_
                        refine z_top (sAllLost f2) hp_293.2 ?_
                        refine z_iload 298 K dL_law_296 rfl 8 rfl ?_
                        refine z_icmp_ne (tgt := 414) 301 K dL_law_298 rfl (by decide) (by omega) (by omega) (fun c_298 => ?_) (fun c_298 => ?_)
                        · exact absurd c_298 (by omega)
                        · skip
                          exact join_301_j_70  
                      · skip
                        refine z_iload 286 K dL_law_284 rfl 6 rfl ?_
                        refine z_bipush 288 K dL_law_286 rfl rfl ?_
                        refine z_icmp_ne (tgt := 301) 291 K dL_law_288 rfl (by decide) (by omega) (by decide) (fun c_288 => ?_) (fun c_288 => ?_)
                        · skip
                          exact join_301_j_70  
                        · skip
                          have hss := hs9 (by omega)
                          refine z_aload_n 292 K dL_law_291 rfl rfl 14 rfl ?_
                          refine z_iconst 293 K dL_law_292 rfl ?_
                          refine z_vVi (As := [.int (iZ 4)]) (rest := []) 296 K 0 (by decide) gMa_172 rfl rfl (e_cnt4 l g _ f2 _ _ k2 _ _ hIn2 hPn2) (cwV 1 K.1.2.2.2.2 gL_law_X8_count rfl rfl rfl (by decide +kernel) ⟨Nat.le_of_ble_eq_true rfl, Nat.le_of_ble_eq_true rfl⟩) rfl (Nat.le_of_ble_eq_true rfl) dL_law_293 rfl (law_hf (kz := kz) ⟨by omega, by omega⟩ (by omega) (by omega) (by decide) (by decide)) rfl (fun z_90 C_91 hp_293 => ?_)
                          refine z_C hp_293.1 ?_
                          refine z_top (sAllLost f2) hp_293.2 ?_
                          refine z_iload 298 K dL_law_296 rfl 8 rfl ?_
                          refine z_icmp_ne (tgt := 414) 301 K dL_law_298 rfl (by decide) (by omega) (by omega) (fun c_298 => ?_) (fun c_298 => ?_)
                          · exact absurd c_298 (by omega)
                          · skip
                            exact join_301_j_70  
                    refine z_iload 245 K dL_law_243 rfl 6 rfl ?_
                    refine z_bipush 247 K dL_law_245 rfl rfl ?_
                    refine z_icmp_lt (tgt := 277) 250 K dL_law_247 rfl (by decide) (by omega) (by decide) (fun c_247 => ?_) (fun c_247 => ?_)
                    · skip
                      exact join_277_j_69  
                    · skip
                      refine z_iload 252 K dL_law_250 rfl 6 rfl ?_
                      refine z_bipush 254 K dL_law_252 rfl rfl ?_
                      refine z_icmp_gt (tgt := 277) 257 K dL_law_254 rfl (by decide) (by omega) (by decide) (fun c_254 => ?_) (fun c_254 => ?_)
                      · skip
                        exact join_277_j_69  
                      · skip
                        have hjj := hj9 (by omega) (by omega)
                        refine z_aload_n 258 K dL_law_257 rfl rfl 14 rfl ?_
                        refine z_iconst 259 K dL_law_258 rfl ?_
                        refine z_vVi (As := [.int (iZ 1)]) (rest := []) 262 K 0 (by decide) gMa_172 rfl rfl (e_cnt1 l g _ f2 _ _ k2 _ _ hIn2 hPn2) (cwV 1 K.1.2.2.2.2 gL_law_X8_count rfl rfl rfl (by decide +kernel) ⟨Nat.le_of_ble_eq_true rfl, Nat.le_of_ble_eq_true rfl⟩) rfl (Nat.le_of_ble_eq_true rfl) dL_law_259 rfl (law_hf (kz := kz) ⟨by omega, by omega⟩ (by omega) (by omega) (by decide) (by decide)) rfl (fun z_92 C_93 hp_259 => ?_)
                        refine z_C hp_259.1 ?_
                        refine z_top (sPgs f2) hp_259.2 ?_
                        refine z_iload 264 K dL_law_262 rfl 10 rfl ?_
                        refine z_icmp_ne (tgt := 414) 267 K dL_law_264 rfl (by decide) (by omega) (by omega) (fun c_264 => ?_) (fun c_264 => ?_)
                        · exact absurd c_264 (by omega)
                        · skip
                          refine z_aload_n 268 K dL_law_267 rfl rfl 14 rfl ?_
                          refine z_iconst 269 K dL_law_268 rfl ?_
                          refine z_vVi (As := [.int (iZ 3)]) (rest := []) 272 K 0 (by decide) gMa_172 rfl rfl (e_cnt3 l g _ f2 _ _ k2 _ _ hIn2 hPn2) (cwV 1 K.1.2.2.2.2 gL_law_X8_count rfl rfl rfl (by decide +kernel) ⟨Nat.le_of_ble_eq_true rfl, Nat.le_of_ble_eq_true rfl⟩) rfl (Nat.le_of_ble_eq_true rfl) dL_law_269 rfl (law_hf (kz := kz) ⟨by omega, by omega⟩ (by omega) (by omega) (by decide) (by decide)) rfl (fun z_94 C_95 hp_269 => ?_)
                          refine z_C hp_269.1 ?_
                          refine z_top (sCts f2) hp_269.2 ?_
                          refine z_iload 274 K dL_law_272 rfl 9 rfl ?_
                          refine z_icmp_ne (tgt := 414) 277 K dL_law_274 rfl (by decide) (by omega) (by omega) (fun c_274 => ?_) (fun c_274 => ?_)
                          · exact absurd c_274 (by omega)
                          · skip
                            exact join_277_j_69  
                  refine z_iload 179 K dL_law_177 rfl 0 rfl ?_
                  refine z_if_ge (tgt := 233) 182 K dL_law_179 rfl (by decide) (by omega) (fun c_179 => ?_) (fun c_179 => ?_)
                  · skip
                    refine z_iconst 234 K dL_law_233 rfl ?_
                    refine z_goto (tgt := 238) K dL_law_234 (by decide) ?_
                    exact join_238_j_68  
                  · skip
                    have hue := hu9 (by omega)
                    have he1 : f2 1 = f 1 := by rw [hue.1]
                    have he3 : sCts f2 = sCts f := by rw [hue.1]
                    have he4 : sAllLost f2 = sAllLost f := by rw [hue.1]
                    have he5 : sStaleN f2 = sStaleN f := by rw [hue.1]
                    have hek := hue.2
                    refine z_aload_n 183 K dL_law_182 rfl rfl 13 rfl ?_
                    refine z_bipush 185 K dL_law_183 rfl rfl ?_
                    refine z_vVi (As := [.int (iZ 8)]) (rest := []) 188 K 0 (by decide) gMa_172 rfl rfl (e_cnt8 l g _ f2 _ _ k2 _ _ hIn2 hPn2) (cwV 1 K.1.2.2.2.2 gL_law_X8_count rfl rfl rfl (by decide +kernel) ⟨Nat.le_of_ble_eq_true rfl, Nat.le_of_ble_eq_true rfl⟩) rfl (Nat.le_of_ble_eq_true rfl) dL_law_185 rfl (law_hf (kz := kz) ⟨by omega, by omega⟩ (by omega) (by omega) (by decide) (by decide)) rfl (fun z_96 C_97 hp_185 => ?_)
                    refine z_C hp_185.1 ?_
                    refine z_top (k2) hp_185.2 ?_
                    refine z_iload 190 K dL_law_188 rfl 11 rfl ?_
                    refine z_icmp_ne (tgt := 237) 193 K dL_law_190 rfl (by decide) (by omega) (by omega) (fun c_190 => ?_) (fun c_190 => ?_)
                    · exact absurd c_190 (by omega)
                    · skip
                      refine z_aload_n 194 K dL_law_193 rfl rfl 13 rfl ?_
                      refine z_iconst 195 K dL_law_194 rfl ?_
                      refine z_vVi (As := [.int (iZ 0)]) (rest := []) 198 K 0 (by decide) gMa_172 rfl rfl (e_cnt0 l g _ f2 _ _ k2 _ _ hIn2 hPn2) (cwV 1 K.1.2.2.2.2 gL_law_X8_count rfl rfl rfl (by decide +kernel) ⟨Nat.le_of_ble_eq_true rfl, Nat.le_of_ble_eq_true rfl⟩) rfl (Nat.le_of_ble_eq_true rfl) dL_law_195 rfl (law_hf (kz := kz) ⟨by omega, by omega⟩ (by omega) (by omega) (by decide) (by decide)) rfl (fun z_98 C_99 hp_195 => ?_)
                      refine z_C hp_195.1 ?_
                      refine z_top (f2 1) hp_195.2 ?_
                      refine z_iload 200 K dL_law_198 rfl 10 rfl ?_
                      refine z_icmp_ne (tgt := 237) 203 K dL_law_200 rfl (by decide) (by omega) (by omega) (fun c_200 => ?_) (fun c_200 => ?_)
                      · exact absurd c_200 (by omega)
                      · skip
                        refine z_aload_n 204 K dL_law_203 rfl rfl 13 rfl ?_
                        refine z_iconst 205 K dL_law_204 rfl ?_
                        refine z_vVi (As := [.int (iZ 3)]) (rest := []) 208 K 0 (by decide) gMa_172 rfl rfl (e_cnt3 l g _ f2 _ _ k2 _ _ hIn2 hPn2) (cwV 1 K.1.2.2.2.2 gL_law_X8_count rfl rfl rfl (by decide +kernel) ⟨Nat.le_of_ble_eq_true rfl, Nat.le_of_ble_eq_true rfl⟩) rfl (Nat.le_of_ble_eq_true rfl) dL_law_205 rfl (law_hf (kz := kz) ⟨by omega, by omega⟩ (by omega) (by omega) (by decide) (by decide)) rfl (fun z_100 C_101 hp_205 => ?_)
                        refine z_C hp_205.1 ?_
                        refine z_top (sCts f2) hp_205.2 ?_
                        refine z_iload 210 K dL_law_208 rfl 8 rfl ?_
                        refine z_icmp_ne (tgt := 237) 213 K dL_law_210 rfl (by decide) (by omega) (by omega) (fun c_210 => ?_) (fun c_210 => ?_)
                        · exact absurd c_210 (by omega)
                        · skip
                          refine z_aload_n 214 K dL_law_213 rfl rfl 13 rfl ?_
                          refine z_iconst 215 K dL_law_214 rfl ?_
                          refine z_vVi (As := [.int (iZ 4)]) (rest := []) 218 K 0 (by decide) gMa_172 rfl rfl (e_cnt4 l g _ f2 _ _ k2 _ _ hIn2 hPn2) (cwV 1 K.1.2.2.2.2 gL_law_X8_count rfl rfl rfl (by decide +kernel) ⟨Nat.le_of_ble_eq_true rfl, Nat.le_of_ble_eq_true rfl⟩) rfl (Nat.le_of_ble_eq_true rfl) dL_law_215 rfl (law_hf (kz := kz) ⟨by omega, by omega⟩ (by omega) (by omega) (by decide) (by decide)) rfl (fun z_102 C_103 hp_215 => ?_)
                          refine z_C hp_215.1 ?_
                          refine z_top (sAllLost f2) hp_215.2 ?_
                          refine z_iload 220 K dL_law_218 rfl 7 rfl ?_
                          refine z_icmp_ne (tgt := 237) 223 K dL_law_220 rfl (by decide) (by omega) (by omega) (fun c_220 => ?_) (fun c_220 => ?_)
                          · exact absurd c_220 (by omega)
                          · skip
                            refine z_aload_n 224 K dL_law_223 rfl rfl 13 rfl ?_
                            refine z_iconst 225 K dL_law_224 rfl ?_
                            refine z_vVi (As := [.int (iZ 5)]) (rest := []) 228 K 0 (by decide) gMa_172 rfl rfl (e_cnt5 l g _ f2 _ _ k2 _ _ hIn2 hPn2) (cwV 1 K.1.2.2.2.2 gL_law_X8_count rfl rfl rfl (by decide +kernel) ⟨Nat.le_of_ble_eq_true rfl, Nat.le_of_ble_eq_true rfl⟩) rfl (Nat.le_of_ble_eq_true rfl) dL_law_225 rfl (law_hf (kz := kz) ⟨by omega, by omega⟩ (by omega) (by omega) (by decide) (by decide)) rfl (fun z_104 C_105 hp_225 => ?_)
                            refine z_C hp_225.1 ?_
                            refine z_top (sStaleN f2) hp_225.2 ?_
                            refine z_iload 230 K dL_law_228 rfl 6 rfl ?_
                            refine z_icmp_ne (tgt := 237) 233 K dL_law_230 rfl (by decide) (by omega) (by omega) (fun c_230 => ?_) (fun c_230 => ?_)
                            · exact absurd c_230 (by omega)
                            · skip
                              refine z_iconst 234 K dL_law_233 rfl ?_
                              refine z_goto (tgt := 238) K dL_law_234 (by decide) ?_
                              exact join_238_j_68  
                · exact absurd c_150 (by omega)
              · exact absurd c_132 (by omega)
            · exact absurd c_114 (by omega)
    refine z_sub [2, 3, 4, 1, 0] rfl ?_
    refine z_wid (kc' := 94) (ks' := 2618) (by omega) (by omega) ?_
    exact loop_32 (Int.toNat (tn - 0) + 1) C0 f0 p0 k0 0 94 2618 hI0 hP0 (by omega) (by omega) (by omega)
  refine z_aload_n 11 K dL_law_10 rfl rfl 0 rfl ?_
  refine z_slen 12 K hX hbl hbA dL_law_11 rfl ?_
  refine z_iconst 13 K dL_law_12 rfl ?_
  refine z_idiv 14 K dL_law_13 rfl (by omega) (by omega) ?_
  refine z_bipush 16 K dL_law_14 rfl rfl ?_
  refine z_icmp_le (tgt := 24) 19 K dL_law_16 rfl (by decide) (by omega) (by decide) (fun c_16 => ?_) (fun c_16 => ?_)
  · skip
    refine z_aload_n 25 K dL_law_24 rfl rfl 0 rfl ?_
    refine z_slen 26 K hX hbl hbA dL_law_25 rfl ?_
    refine z_iconst 27 K dL_law_26 rfl ?_
    refine z_idiv 28 K dL_law_27 rfl (by omega) (by omega) ?_
    exact join_28_j_1 ((L : Int) / 3) (by omega)
  · skip
    refine z_bipush 21 K dL_law_19 rfl rfl ?_
    refine z_goto (tgt := 28) K dL_law_21 (by decide) ?_
    exact join_28_j_1 44 (by omega)
end ZLL
