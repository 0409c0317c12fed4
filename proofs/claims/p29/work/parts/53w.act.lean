/-! p29: the law's act -/
section ZLA
theorem kJoi_0 {f : Int → Int} {p : Int} (hk : kJoi f p = 0) : 0 ≤ p ∧ p < f 1 - 1 := by
  unfold kJoi at hk
  repeat (first | omega | split at hk)
theorem kUnd_0 {k : Int} (hk : kUnd k = 0) : k ≠ 0 := by
  unfold kUnd at hk
  split at hk <;> omega
theorem act_if2 {f f2 : Int → Int} {k so a k2 z1 z2 K : Int} (h1 : K = 0 → ACT f k so a f2 k2 z1) (h2 : K ≠ 0 → ACT f k so a f k z2) : ACT f k so a (if K = 0 then f2 else f) (if K = 0 then k2 else k) (if K = 0 then z1 else z2) := act_if h1 h2
set_option maxHeartbeats 4000000 in
set_option maxRecDepth 100000 in
theorem m_L_act (l : Launch) (g : zG) (C : Nat → va_E) (ka : Int) (b : Nat) (L : Nat) (xs : Nat → Int32) (f : Int → Int) (past : Int → Int) (tx : Int → Int) (k : Int) (ty : Int) (cap : Int) (hI : IW g C f k past ty tx) (hP : PW cap f k past ty tx) (hka : 0 ≤ ka ∧ ka ≤ 900) (hL9 : (L : Int) < 2147483648) (hcp : cap + 1 ≤ 100000) (hlt : l.stackTraces = false) : Met l yL_act wsL_act ({ frames := 9, cells := 4, slots := 24, locals := 151 } : Room) (zPre3 g C [.ref (aD g 0), .ref b, .int (iZ ka)] b L xs) (zQi g (fun z C' => ∃ (f2 : Int → Int) (k2 : Int) (p2 : Int → Int), IW g C' f2 k2 p2 ty tx ∧ PW (cap + 1) f2 k2 p2 ty tx ∧ ACT f k (lowZ (cV xs L ka) 20) (cV xs L (ka + 1)) f2 k2 z)) 4 24 (zA g) := by
  refine z_enterS RL rfl (by decide) rfl (Nat.le_of_ble_eq_true rfl) ?_
  intro p e s m args below meth c K harg hNc hX hbl hbA
  refine z_sub (lv' := [(0, .ref (aD g 0)), (1, .ref b), (2, .int (iZ ka))]) [0, 1, 2] rfl ?_
  obtain ⟨⟨gMa, -⟩, -, -, -, -, -⟩ := id hI
  have hw := hP.1
  have hn := hw.n
  have hbp := hw.bp
  have hnx := hw.nx
  have hk := hP.2.1
  have hcap : cap ≤ 100000 := hP.2.2.2.2.2.2.2
  refine z_aload_n 1 K dL_act_0 rfl rfl 1 rfl ?_
  refine z_iload_n 2 K dL_act_1 rfl rfl 2 rfl ?_
  refine z_iconst 3 K dL_act_2 rfl ?_
  refine z_iadd 4 K dL_act_3 rfl ?_
  refine z_vS3i (As := [.ref b, .int (iZ (ka + 1))]) (rest := []) 7 K hNc hX hbl hbA (m_L_cell l g _ (ka + 1) b L xs (by omega) (by omega)) (va_cwS 2 K.1.2.2.2.2 gL_act_L_cell rfl rfl rfl (by decide +kernel) ⟨Nat.le_of_ble_eq_true rfl, Nat.le_of_ble_eq_true rfl⟩) rfl (Nat.le_of_ble_eq_true rfl) dL_act_4 rfl ⟨Nat.le_of_ble_eq_true rfl, Nat.le_of_ble_eq_true rfl⟩ rfl (fun z_1 C_2 hp_4 => ?_)
  refine z_C hp_4.1 ?_
  refine z_top (cV xs L (ka + 1)) hp_4.2 ?_
  refine z_istore_n (lv' := [(3, .int (iZ (cV xs L (ka + 1)))), (0, .ref (aD g 0)), (1, .ref b), (2, .int (iZ ka))]) 8 K dL_act_7 rfl rfl (by decide) rfl ?_
  refine z_aload_n 9 K dL_act_8 rfl rfl 2 rfl ?_
  refine z_iload_n 10 K dL_act_9 rfl rfl 3 rfl ?_
  refine z_iconst 11 K dL_act_10 rfl ?_
  refine z_iadd 12 K dL_act_11 rfl ?_
  refine z_vS3i (As := [.ref b, .int (iZ (ka + 2))]) (rest := []) 15 K hNc hX hbl hbA (m_L_cell l g _ (ka + 2) b L xs (by omega) (by omega)) (va_cwS 2 K.1.2.2.2.2 gL_act_L_cell rfl rfl rfl (by decide +kernel) ⟨Nat.le_of_ble_eq_true rfl, Nat.le_of_ble_eq_true rfl⟩) rfl (Nat.le_of_ble_eq_true rfl) dL_act_12 rfl ⟨Nat.le_of_ble_eq_true rfl, Nat.le_of_ble_eq_true rfl⟩ rfl (fun z_3 C_4 hp_12 => ?_)
  refine z_C hp_12.1 ?_
  refine z_top (cV xs L (ka + 2)) hp_12.2 ?_
  refine z_istore (lv' := [(4, .int (iZ (cV xs L (ka + 2)))), (3, .int (iZ (cV xs L (ka + 1)))), (0, .ref (aD g 0)), (1, .ref b), (2, .int (iZ ka))]) 17 K dL_act_15 rfl (by decide) rfl ?_
  refine z_aload_n 18 K dL_act_17 rfl rfl 2 rfl ?_
  refine z_iconst 19 K dL_act_18 rfl ?_
  refine z_vVi (As := [.int (iZ 0)]) (rest := []) 22 K 0 (by decide) gMa rfl rfl (e_cnt0 l g _ _ _ _ _ _ _ hI hP) (cwV 1 K.1.2.2.2.2 gL_act_X8_count rfl rfl rfl (by decide +kernel) ⟨Nat.le_of_ble_eq_true rfl, Nat.le_of_ble_eq_true rfl⟩) rfl (Nat.le_of_ble_eq_true rfl) dL_act_19 rfl ⟨Nat.le_of_ble_eq_true rfl, Nat.le_of_ble_eq_true rfl⟩ rfl (fun z_5 C_6 hp_19 => ?_)
  refine z_C hp_19.1 ?_
  refine z_top (f 1) hp_19.2 ?_
  refine z_istore (lv' := [(5, .int (iZ (f 1))), (4, .int (iZ (cV xs L (ka + 2)))), (3, .int (iZ (cV xs L (ka + 1)))), (0, .ref (aD g 0)), (1, .ref b), (2, .int (iZ ka))]) 24 K dL_act_22 rfl (by decide) rfl ?_
  refine z_iload 26 K dL_act_24 rfl 0 rfl ?_
  have join_39_j_7 : ∀ (pz : Int), ((f 1 = 0 ∧ pz = 0) ∨ (f 1 ≠ 0 ∧ pz = lowZ (cV xs L (ka + 1)) (f 1) ∧ 0 ≤ pz ∧ pz < f 1)) → Z p l e (({ frames := 9, cells := 4, slots := 24, locals := 151 } : Room)) s m args below meth c (MQ below (zQi g (fun z C' => ∃ (f2 : Int → Int) (k2 : Int) (p2 : Int → Int), IW g C' f2 k2 p2 ty tx ∧ PW (cap + 1) f2 k2 p2 ty tx ∧ ACT f k (lowZ (cV xs L ka) 20) (cV xs L (ka + 1)) f2 k2 z)) args s 4 24 (zA g)) g 7 0 0 (C) [(5, .int (iZ (f 1))), (4, .int (iZ (cV xs L (ka + 2)))), (3, .int (iZ (cV xs L (ka + 1)))), (0, .ref (aD g 0)), (1, .ref b), (2, .int (iZ ka))] 39 [.int (iZ pz)] := by
    intro pz  hpz
    refine z_istore (lv' := [(6, .int (iZ pz)), (5, .int (iZ (f 1))), (4, .int (iZ (cV xs L (ka + 2)))), (3, .int (iZ (cV xs L (ka + 1)))), (0, .ref (aD g 0)), (1, .ref b), (2, .int (iZ ka))]) 41 K dL_act_39 rfl (by decide) rfl ?_
    refine z_aload_n 42 K dL_act_41 rfl rfl 5 rfl ?_
    refine z_iload_n 43 K dL_act_42 rfl rfl 6 rfl ?_
    refine z_vS3i (As := [.ref b, .int (iZ ka)]) (rest := []) 46 K hNc hX hbl hbA (m_L_cell l g _ ka b L xs (by omega) (by omega)) (va_cwS 2 K.1.2.2.2.2 gL_act_L_cell rfl rfl rfl (by decide +kernel) ⟨Nat.le_of_ble_eq_true rfl, Nat.le_of_ble_eq_true rfl⟩) rfl (Nat.le_of_ble_eq_true rfl) dL_act_43 rfl ⟨Nat.le_of_ble_eq_true rfl, Nat.le_of_ble_eq_true rfl⟩ rfl (fun z_8 C_9 hp_43 => ?_)
    refine z_C hp_43.1 ?_
    refine z_top (cV xs L ka) hp_43.2 ?_
    refine z_bipush 48 K dL_act_46 rfl rfl ?_
    refine z_vSi (As := [.int (iZ (cV xs L ka)), .int (iZ 20)]) (rest := []) 51 K (m_L_low l g _ (cV xs L ka) 20 (by omega)) (va_cwS 2 K.1.2.2.2.2 gL_act_L_low rfl rfl rfl (by decide +kernel) ⟨Nat.le_of_ble_eq_true rfl, Nat.le_of_ble_eq_true rfl⟩) rfl (Nat.le_of_ble_eq_true rfl) dL_act_48 rfl ⟨Nat.le_of_ble_eq_true rfl, Nat.le_of_ble_eq_true rfl⟩ rfl (fun z_10 C_11 hp_48 => ?_)
    refine z_C hp_48.1 ?_
    refine z_top (lowZ (cV xs L ka) 20) hp_48.2 ?_
    have hl_48 := lowZ_rng (cV xs L ka) (n := 20) (by omega)
    have hsw := hl_48
    by_cases sw_51_0 : lowZ (cV xs L ka) 20 = 0
    · skip
      refine z_top (0) sw_51_0 ?_
      refine z_tableIn (tgt := 140) K dL_act_51 (by decide) (by decide) (by decide) rfl (by decide) ?_
      refine z_aload_n 141 K dL_act_140 rfl rfl 4 rfl ?_
      refine z_iload_n 142 K dL_act_141 rfl rfl 3 rfl ?_
      refine z_iload 144 K dL_act_142 rfl 1 rfl ?_
      refine z_iconst 145 K dL_act_144 rfl ?_
      refine z_iadd 146 K dL_act_145 rfl ?_
      refine z_vSi (As := [.int (iZ (cV xs L (ka + 1))), .int (iZ (f 1 + 1))]) (rest := [.ref (aD g 0)]) 149 K (m_L_low l g _ (cV xs L (ka + 1)) (f 1 + 1) (by omega)) (va_cwS 2 K.1.2.2.2.2 gL_act_L_low rfl rfl rfl (by decide +kernel) ⟨Nat.le_of_ble_eq_true rfl, Nat.le_of_ble_eq_true rfl⟩) rfl (Nat.le_of_ble_eq_true rfl) dL_act_146 rfl ⟨Nat.le_of_ble_eq_true rfl, Nat.le_of_ble_eq_true rfl⟩ rfl (fun z_12 C_13 hp_146 => ?_)
      refine z_C hp_146.1 ?_
      refine z_top (lowZ (cV xs L (ka + 1)) (f 1 + 1)) hp_146.2 ?_
      have hl_146 := lowZ_rng (cV xs L (ka + 1)) (n := f 1 + 1) (by omega)
      refine z_iconst 150 K dL_act_149 rfl ?_
      refine z_iload 152 K dL_act_150 rfl 2 rfl ?_
      refine z_bipush 154 K dL_act_152 rfl rfl ?_
      refine z_vSi (As := [.int (iZ (cV xs L (ka + 2))), .int (iZ 60)]) (rest := [.int (iZ 1), .int (iZ (lowZ (cV xs L (ka + 1)) (f 1 + 1))), .ref (aD g 0)]) 157 K (m_L_low l g _ (cV xs L (ka + 2)) 60 (by omega)) (va_cwS 2 K.1.2.2.2.2 gL_act_L_low rfl rfl rfl (by decide +kernel) ⟨Nat.le_of_ble_eq_true rfl, Nat.le_of_ble_eq_true rfl⟩) rfl (Nat.le_of_ble_eq_true rfl) dL_act_154 rfl ⟨Nat.le_of_ble_eq_true rfl, Nat.le_of_ble_eq_true rfl⟩ rfl (fun z_14 C_15 hp_154 => ?_)
      refine z_C hp_154.1 ?_
      refine z_top (lowZ (cV xs L (ka + 2)) 60) hp_154.2 ?_
      have hl_154 := lowZ_rng (cV xs L (ka + 2)) (n := 60) (by omega)
      refine z_iadd 158 K dL_act_157 rfl ?_
      refine z_top (lowZ (cV xs L (ka + 2)) 60 + 1) (by omega) ?_
      refine z_vT (As := [.ref (aD g 0), .int (iZ (lowZ (cV xs L (ka + 1)) (f 1 + 1))), .int (iZ (lowZ (cV xs L (ka + 2)) 60 + 1))]) (rest := []) 161 K hNc (w_L_insert l g _ (lowZ (cV xs L (ka + 1)) (f 1 + 1)) (lowZ (cV xs L (ka + 2)) 60 + 1) _ _ _ _ _ _ hI hP (by omega) (by omega) (kIns_ok hn.2 (by omega) (by omega)) hlt) (vx_cwSW 3 K.1.2.2.2.2 gL_act_L_insert rfl rfl rfl (by decide +kernel) ⟨Nat.le_of_ble_eq_true rfl, Nat.le_of_ble_eq_true rfl⟩) rfl (Nat.le_of_ble_eq_true rfl) dL_act_158 rfl ⟨Nat.le_of_ble_eq_true rfl, Nat.le_of_ble_eq_true rfl⟩ rfl (fun z_16 C_17 hp_158 => ?_)
      obtain ⟨hIn_158, hz_158⟩ := hp_158
      refine z_top ((if kIns f (lowZ (cV xs L (ka + 1)) (f 1 + 1)) (lowZ (cV xs L (ka + 2)) 60 + 1) = 0 then f 2 else (-3))) hz_158 ?_
      refine z_wid (kc' := 4) (ks' := 24) (by decide) (by decide) ?_
      exact z_iret K rfl dL_act_161 ⟨_, _, _, hIn_158, PW_ins hP hcp, act_if (fun _ => act_pl (by omega) (by omega)) (fun _ => act_no (by omega) (by omega))⟩
    by_cases sw_51_1 : lowZ (cV xs L ka) 20 = 1
    · skip
      refine z_top (1) sw_51_1 ?_
      refine z_tableIn (tgt := 140) K dL_act_51 (by decide) (by decide) (by decide) rfl (by decide) ?_
      refine z_aload_n 141 K dL_act_140 rfl rfl 4 rfl ?_
      refine z_iload_n 142 K dL_act_141 rfl rfl 3 rfl ?_
      refine z_iload 144 K dL_act_142 rfl 1 rfl ?_
      refine z_iconst 145 K dL_act_144 rfl ?_
      refine z_iadd 146 K dL_act_145 rfl ?_
      refine z_vSi (As := [.int (iZ (cV xs L (ka + 1))), .int (iZ (f 1 + 1))]) (rest := [.ref (aD g 0)]) 149 K (m_L_low l g _ (cV xs L (ka + 1)) (f 1 + 1) (by omega)) (va_cwS 2 K.1.2.2.2.2 gL_act_L_low rfl rfl rfl (by decide +kernel) ⟨Nat.le_of_ble_eq_true rfl, Nat.le_of_ble_eq_true rfl⟩) rfl (Nat.le_of_ble_eq_true rfl) dL_act_146 rfl ⟨Nat.le_of_ble_eq_true rfl, Nat.le_of_ble_eq_true rfl⟩ rfl (fun z_18 C_19 hp_146 => ?_)
      refine z_C hp_146.1 ?_
      refine z_top (lowZ (cV xs L (ka + 1)) (f 1 + 1)) hp_146.2 ?_
      have hl_146 := lowZ_rng (cV xs L (ka + 1)) (n := f 1 + 1) (by omega)
      refine z_iconst 150 K dL_act_149 rfl ?_
      refine z_iload 152 K dL_act_150 rfl 2 rfl ?_
      refine z_bipush 154 K dL_act_152 rfl rfl ?_
      refine z_vSi (As := [.int (iZ (cV xs L (ka + 2))), .int (iZ 60)]) (rest := [.int (iZ 1), .int (iZ (lowZ (cV xs L (ka + 1)) (f 1 + 1))), .ref (aD g 0)]) 157 K (m_L_low l g _ (cV xs L (ka + 2)) 60 (by omega)) (va_cwS 2 K.1.2.2.2.2 gL_act_L_low rfl rfl rfl (by decide +kernel) ⟨Nat.le_of_ble_eq_true rfl, Nat.le_of_ble_eq_true rfl⟩) rfl (Nat.le_of_ble_eq_true rfl) dL_act_154 rfl ⟨Nat.le_of_ble_eq_true rfl, Nat.le_of_ble_eq_true rfl⟩ rfl (fun z_20 C_21 hp_154 => ?_)
      refine z_C hp_154.1 ?_
      refine z_top (lowZ (cV xs L (ka + 2)) 60) hp_154.2 ?_
      have hl_154 := lowZ_rng (cV xs L (ka + 2)) (n := 60) (by omega)
      refine z_iadd 158 K dL_act_157 rfl ?_
      refine z_top (lowZ (cV xs L (ka + 2)) 60 + 1) (by omega) ?_
      refine z_vT (As := [.ref (aD g 0), .int (iZ (lowZ (cV xs L (ka + 1)) (f 1 + 1))), .int (iZ (lowZ (cV xs L (ka + 2)) 60 + 1))]) (rest := []) 161 K hNc (w_L_insert l g _ (lowZ (cV xs L (ka + 1)) (f 1 + 1)) (lowZ (cV xs L (ka + 2)) 60 + 1) _ _ _ _ _ _ hI hP (by omega) (by omega) (kIns_ok hn.2 (by omega) (by omega)) hlt) (vx_cwSW 3 K.1.2.2.2.2 gL_act_L_insert rfl rfl rfl (by decide +kernel) ⟨Nat.le_of_ble_eq_true rfl, Nat.le_of_ble_eq_true rfl⟩) rfl (Nat.le_of_ble_eq_true rfl) dL_act_158 rfl ⟨Nat.le_of_ble_eq_true rfl, Nat.le_of_ble_eq_true rfl⟩ rfl (fun z_22 C_23 hp_158 => ?_)
      obtain ⟨hIn_158, hz_158⟩ := hp_158
      refine z_top ((if kIns f (lowZ (cV xs L (ka + 1)) (f 1 + 1)) (lowZ (cV xs L (ka + 2)) 60 + 1) = 0 then f 2 else (-3))) hz_158 ?_
      refine z_wid (kc' := 4) (ks' := 24) (by decide) (by decide) ?_
      exact z_iret K rfl dL_act_161 ⟨_, _, _, hIn_158, PW_ins hP hcp, act_if (fun _ => act_pl (by omega) (by omega)) (fun _ => act_no (by omega) (by omega))⟩
    by_cases sw_51_2 : lowZ (cV xs L ka) 20 = 2
    · skip
      refine z_top (2) sw_51_2 ?_
      refine z_tableIn (tgt := 140) K dL_act_51 (by decide) (by decide) (by decide) rfl (by decide) ?_
      refine z_aload_n 141 K dL_act_140 rfl rfl 4 rfl ?_
      refine z_iload_n 142 K dL_act_141 rfl rfl 3 rfl ?_
      refine z_iload 144 K dL_act_142 rfl 1 rfl ?_
      refine z_iconst 145 K dL_act_144 rfl ?_
      refine z_iadd 146 K dL_act_145 rfl ?_
      refine z_vSi (As := [.int (iZ (cV xs L (ka + 1))), .int (iZ (f 1 + 1))]) (rest := [.ref (aD g 0)]) 149 K (m_L_low l g _ (cV xs L (ka + 1)) (f 1 + 1) (by omega)) (va_cwS 2 K.1.2.2.2.2 gL_act_L_low rfl rfl rfl (by decide +kernel) ⟨Nat.le_of_ble_eq_true rfl, Nat.le_of_ble_eq_true rfl⟩) rfl (Nat.le_of_ble_eq_true rfl) dL_act_146 rfl ⟨Nat.le_of_ble_eq_true rfl, Nat.le_of_ble_eq_true rfl⟩ rfl (fun z_24 C_25 hp_146 => ?_)
      refine z_C hp_146.1 ?_
      refine z_top (lowZ (cV xs L (ka + 1)) (f 1 + 1)) hp_146.2 ?_
      have hl_146 := lowZ_rng (cV xs L (ka + 1)) (n := f 1 + 1) (by omega)
      refine z_iconst 150 K dL_act_149 rfl ?_
      refine z_iload 152 K dL_act_150 rfl 2 rfl ?_
      refine z_bipush 154 K dL_act_152 rfl rfl ?_
      refine z_vSi (As := [.int (iZ (cV xs L (ka + 2))), .int (iZ 60)]) (rest := [.int (iZ 1), .int (iZ (lowZ (cV xs L (ka + 1)) (f 1 + 1))), .ref (aD g 0)]) 157 K (m_L_low l g _ (cV xs L (ka + 2)) 60 (by omega)) (va_cwS 2 K.1.2.2.2.2 gL_act_L_low rfl rfl rfl (by decide +kernel) ⟨Nat.le_of_ble_eq_true rfl, Nat.le_of_ble_eq_true rfl⟩) rfl (Nat.le_of_ble_eq_true rfl) dL_act_154 rfl ⟨Nat.le_of_ble_eq_true rfl, Nat.le_of_ble_eq_true rfl⟩ rfl (fun z_26 C_27 hp_154 => ?_)
      refine z_C hp_154.1 ?_
      refine z_top (lowZ (cV xs L (ka + 2)) 60) hp_154.2 ?_
      have hl_154 := lowZ_rng (cV xs L (ka + 2)) (n := 60) (by omega)
      refine z_iadd 158 K dL_act_157 rfl ?_
      refine z_top (lowZ (cV xs L (ka + 2)) 60 + 1) (by omega) ?_
      refine z_vT (As := [.ref (aD g 0), .int (iZ (lowZ (cV xs L (ka + 1)) (f 1 + 1))), .int (iZ (lowZ (cV xs L (ka + 2)) 60 + 1))]) (rest := []) 161 K hNc (w_L_insert l g _ (lowZ (cV xs L (ka + 1)) (f 1 + 1)) (lowZ (cV xs L (ka + 2)) 60 + 1) _ _ _ _ _ _ hI hP (by omega) (by omega) (kIns_ok hn.2 (by omega) (by omega)) hlt) (vx_cwSW 3 K.1.2.2.2.2 gL_act_L_insert rfl rfl rfl (by decide +kernel) ⟨Nat.le_of_ble_eq_true rfl, Nat.le_of_ble_eq_true rfl⟩) rfl (Nat.le_of_ble_eq_true rfl) dL_act_158 rfl ⟨Nat.le_of_ble_eq_true rfl, Nat.le_of_ble_eq_true rfl⟩ rfl (fun z_28 C_29 hp_158 => ?_)
      obtain ⟨hIn_158, hz_158⟩ := hp_158
      refine z_top ((if kIns f (lowZ (cV xs L (ka + 1)) (f 1 + 1)) (lowZ (cV xs L (ka + 2)) 60 + 1) = 0 then f 2 else (-3))) hz_158 ?_
      refine z_wid (kc' := 4) (ks' := 24) (by decide) (by decide) ?_
      exact z_iret K rfl dL_act_161 ⟨_, _, _, hIn_158, PW_ins hP hcp, act_if (fun _ => act_pl (by omega) (by omega)) (fun _ => act_no (by omega) (by omega))⟩
    by_cases sw_51_3 : lowZ (cV xs L ka) 20 = 3
    · skip
      refine z_top (3) sw_51_3 ?_
      refine z_tableIn (tgt := 140) K dL_act_51 (by decide) (by decide) (by decide) rfl (by decide) ?_
      refine z_aload_n 141 K dL_act_140 rfl rfl 4 rfl ?_
      refine z_iload_n 142 K dL_act_141 rfl rfl 3 rfl ?_
      refine z_iload 144 K dL_act_142 rfl 1 rfl ?_
      refine z_iconst 145 K dL_act_144 rfl ?_
      refine z_iadd 146 K dL_act_145 rfl ?_
      refine z_vSi (As := [.int (iZ (cV xs L (ka + 1))), .int (iZ (f 1 + 1))]) (rest := [.ref (aD g 0)]) 149 K (m_L_low l g _ (cV xs L (ka + 1)) (f 1 + 1) (by omega)) (va_cwS 2 K.1.2.2.2.2 gL_act_L_low rfl rfl rfl (by decide +kernel) ⟨Nat.le_of_ble_eq_true rfl, Nat.le_of_ble_eq_true rfl⟩) rfl (Nat.le_of_ble_eq_true rfl) dL_act_146 rfl ⟨Nat.le_of_ble_eq_true rfl, Nat.le_of_ble_eq_true rfl⟩ rfl (fun z_30 C_31 hp_146 => ?_)
      refine z_C hp_146.1 ?_
      refine z_top (lowZ (cV xs L (ka + 1)) (f 1 + 1)) hp_146.2 ?_
      have hl_146 := lowZ_rng (cV xs L (ka + 1)) (n := f 1 + 1) (by omega)
      refine z_iconst 150 K dL_act_149 rfl ?_
      refine z_iload 152 K dL_act_150 rfl 2 rfl ?_
      refine z_bipush 154 K dL_act_152 rfl rfl ?_
      refine z_vSi (As := [.int (iZ (cV xs L (ka + 2))), .int (iZ 60)]) (rest := [.int (iZ 1), .int (iZ (lowZ (cV xs L (ka + 1)) (f 1 + 1))), .ref (aD g 0)]) 157 K (m_L_low l g _ (cV xs L (ka + 2)) 60 (by omega)) (va_cwS 2 K.1.2.2.2.2 gL_act_L_low rfl rfl rfl (by decide +kernel) ⟨Nat.le_of_ble_eq_true rfl, Nat.le_of_ble_eq_true rfl⟩) rfl (Nat.le_of_ble_eq_true rfl) dL_act_154 rfl ⟨Nat.le_of_ble_eq_true rfl, Nat.le_of_ble_eq_true rfl⟩ rfl (fun z_32 C_33 hp_154 => ?_)
      refine z_C hp_154.1 ?_
      refine z_top (lowZ (cV xs L (ka + 2)) 60) hp_154.2 ?_
      have hl_154 := lowZ_rng (cV xs L (ka + 2)) (n := 60) (by omega)
      refine z_iadd 158 K dL_act_157 rfl ?_
      refine z_top (lowZ (cV xs L (ka + 2)) 60 + 1) (by omega) ?_
      refine z_vT (As := [.ref (aD g 0), .int (iZ (lowZ (cV xs L (ka + 1)) (f 1 + 1))), .int (iZ (lowZ (cV xs L (ka + 2)) 60 + 1))]) (rest := []) 161 K hNc (w_L_insert l g _ (lowZ (cV xs L (ka + 1)) (f 1 + 1)) (lowZ (cV xs L (ka + 2)) 60 + 1) _ _ _ _ _ _ hI hP (by omega) (by omega) (kIns_ok hn.2 (by omega) (by omega)) hlt) (vx_cwSW 3 K.1.2.2.2.2 gL_act_L_insert rfl rfl rfl (by decide +kernel) ⟨Nat.le_of_ble_eq_true rfl, Nat.le_of_ble_eq_true rfl⟩) rfl (Nat.le_of_ble_eq_true rfl) dL_act_158 rfl ⟨Nat.le_of_ble_eq_true rfl, Nat.le_of_ble_eq_true rfl⟩ rfl (fun z_34 C_35 hp_158 => ?_)
      obtain ⟨hIn_158, hz_158⟩ := hp_158
      refine z_top ((if kIns f (lowZ (cV xs L (ka + 1)) (f 1 + 1)) (lowZ (cV xs L (ka + 2)) 60 + 1) = 0 then f 2 else (-3))) hz_158 ?_
      refine z_wid (kc' := 4) (ks' := 24) (by decide) (by decide) ?_
      exact z_iret K rfl dL_act_161 ⟨_, _, _, hIn_158, PW_ins hP hcp, act_if (fun _ => act_pl (by omega) (by omega)) (fun _ => act_no (by omega) (by omega))⟩
    by_cases sw_51_4 : lowZ (cV xs L ka) 20 = 4
    · skip
      refine z_top (4) sw_51_4 ?_
      refine z_tableIn (tgt := 140) K dL_act_51 (by decide) (by decide) (by decide) rfl (by decide) ?_
      refine z_aload_n 141 K dL_act_140 rfl rfl 4 rfl ?_
      refine z_iload_n 142 K dL_act_141 rfl rfl 3 rfl ?_
      refine z_iload 144 K dL_act_142 rfl 1 rfl ?_
      refine z_iconst 145 K dL_act_144 rfl ?_
      refine z_iadd 146 K dL_act_145 rfl ?_
      refine z_vSi (As := [.int (iZ (cV xs L (ka + 1))), .int (iZ (f 1 + 1))]) (rest := [.ref (aD g 0)]) 149 K (m_L_low l g _ (cV xs L (ka + 1)) (f 1 + 1) (by omega)) (va_cwS 2 K.1.2.2.2.2 gL_act_L_low rfl rfl rfl (by decide +kernel) ⟨Nat.le_of_ble_eq_true rfl, Nat.le_of_ble_eq_true rfl⟩) rfl (Nat.le_of_ble_eq_true rfl) dL_act_146 rfl ⟨Nat.le_of_ble_eq_true rfl, Nat.le_of_ble_eq_true rfl⟩ rfl (fun z_36 C_37 hp_146 => ?_)
      refine z_C hp_146.1 ?_
      refine z_top (lowZ (cV xs L (ka + 1)) (f 1 + 1)) hp_146.2 ?_
      have hl_146 := lowZ_rng (cV xs L (ka + 1)) (n := f 1 + 1) (by omega)
      refine z_iconst 150 K dL_act_149 rfl ?_
      refine z_iload 152 K dL_act_150 rfl 2 rfl ?_
      refine z_bipush 154 K dL_act_152 rfl rfl ?_
      refine z_vSi (As := [.int (iZ (cV xs L (ka + 2))), .int (iZ 60)]) (rest := [.int (iZ 1), .int (iZ (lowZ (cV xs L (ka + 1)) (f 1 + 1))), .ref (aD g 0)]) 157 K (m_L_low l g _ (cV xs L (ka + 2)) 60 (by omega)) (va_cwS 2 K.1.2.2.2.2 gL_act_L_low rfl rfl rfl (by decide +kernel) ⟨Nat.le_of_ble_eq_true rfl, Nat.le_of_ble_eq_true rfl⟩) rfl (Nat.le_of_ble_eq_true rfl) dL_act_154 rfl ⟨Nat.le_of_ble_eq_true rfl, Nat.le_of_ble_eq_true rfl⟩ rfl (fun z_38 C_39 hp_154 => ?_)
      refine z_C hp_154.1 ?_
      refine z_top (lowZ (cV xs L (ka + 2)) 60) hp_154.2 ?_
      have hl_154 := lowZ_rng (cV xs L (ka + 2)) (n := 60) (by omega)
      refine z_iadd 158 K dL_act_157 rfl ?_
      refine z_top (lowZ (cV xs L (ka + 2)) 60 + 1) (by omega) ?_
      refine z_vT (As := [.ref (aD g 0), .int (iZ (lowZ (cV xs L (ka + 1)) (f 1 + 1))), .int (iZ (lowZ (cV xs L (ka + 2)) 60 + 1))]) (rest := []) 161 K hNc (w_L_insert l g _ (lowZ (cV xs L (ka + 1)) (f 1 + 1)) (lowZ (cV xs L (ka + 2)) 60 + 1) _ _ _ _ _ _ hI hP (by omega) (by omega) (kIns_ok hn.2 (by omega) (by omega)) hlt) (vx_cwSW 3 K.1.2.2.2.2 gL_act_L_insert rfl rfl rfl (by decide +kernel) ⟨Nat.le_of_ble_eq_true rfl, Nat.le_of_ble_eq_true rfl⟩) rfl (Nat.le_of_ble_eq_true rfl) dL_act_158 rfl ⟨Nat.le_of_ble_eq_true rfl, Nat.le_of_ble_eq_true rfl⟩ rfl (fun z_40 C_41 hp_158 => ?_)
      obtain ⟨hIn_158, hz_158⟩ := hp_158
      refine z_top ((if kIns f (lowZ (cV xs L (ka + 1)) (f 1 + 1)) (lowZ (cV xs L (ka + 2)) 60 + 1) = 0 then f 2 else (-3))) hz_158 ?_
      refine z_wid (kc' := 4) (ks' := 24) (by decide) (by decide) ?_
      exact z_iret K rfl dL_act_161 ⟨_, _, _, hIn_158, PW_ins hP hcp, act_if (fun _ => act_pl (by omega) (by omega)) (fun _ => act_no (by omega) (by omega))⟩
    by_cases sw_51_5 : lowZ (cV xs L ka) 20 = 5
    · skip
      refine z_top (5) sw_51_5 ?_
      refine z_tableIn (tgt := 162) K dL_act_51 (by decide) (by decide) (by decide) rfl (by decide) ?_
      refine z_iload 164 K dL_act_162 rfl 1 rfl ?_
      refine z_if_ne (tgt := 172) 167 K dL_act_164 rfl (by decide) (by omega) (fun c_164 => ?_) (fun c_164 => ?_)
      · skip
        have hpe : f 1 ≠ 0 ∧ 0 ≤ pz ∧ pz < f 1 := by omega
        have hpx := hP.1.ex pz (by omega) (by omega)
        refine z_aload_n 173 K dL_act_172 rfl rfl 4 rfl ?_
        refine z_iload 175 K dL_act_173 rfl 0 rfl ?_
        refine z_iload 177 K dL_act_175 rfl 2 rfl ?_
        refine z_iload 179 K dL_act_177 rfl 1 rfl ?_
        refine z_vSi (As := [.int (iZ (cV xs L (ka + 2))), .int (iZ (f 1))]) (rest := [.int (iZ pz), .ref (aD g 0)]) 182 K (m_L_low l g _ (cV xs L (ka + 2)) (f 1) (by omega)) (va_cwS 2 K.1.2.2.2.2 gL_act_L_low rfl rfl rfl (by decide +kernel) ⟨Nat.le_of_ble_eq_true rfl, Nat.le_of_ble_eq_true rfl⟩) rfl (Nat.le_of_ble_eq_true rfl) dL_act_179 rfl ⟨Nat.le_of_ble_eq_true rfl, Nat.le_of_ble_eq_true rfl⟩ rfl (fun z_42 C_43 hp_179 => ?_)
        refine z_C hp_179.1 ?_
        refine z_top (lowZ (cV xs L (ka + 2)) (f 1)) hp_179.2 ?_
        have hl_179 := lowZ_rng (cV xs L (ka + 2)) (n := f 1) (by omega)
        refine z_vVi (As := [.int (iZ pz), .int (iZ (lowZ (cV xs L (ka + 2)) (f 1)))]) (rest := []) 185 K 0 (by decide) gMa rfl rfl (a_X8_move l g _ pz (lowZ (cV xs L (ka + 2)) (f 1)) _ _ _ _ _ _ hI hP (by omega) (by omega) (by unfold kMov; rw [if_neg (by omega), if_neg (by omega)])) (cwV 2 K.1.2.2.2.2 gL_act_X8_move rfl rfl rfl (by decide +kernel) ⟨Nat.le_of_ble_eq_true rfl, Nat.le_of_ble_eq_true rfl⟩) rfl (Nat.le_of_ble_eq_true rfl) dL_act_182 rfl ⟨Nat.le_of_ble_eq_true rfl, Nat.le_of_ble_eq_true rfl⟩ rfl (fun z_44 C_45 hp_182 => ?_)
        obtain ⟨hIn_182, hsm_182, hz_182⟩ := hp_182
        refine z_top (f (2 * pz + 3)) hz_182 ?_
        refine z_wid (kc' := 4) (ks' := 24) (by decide) (by decide) ?_
        exact z_iret K rfl dL_act_185 ⟨_, _, _, hIn_182, PW_t (PW_mov (p := pz) (t := lowZ (cV xs L (ka + 2)) (f 1)) hP hcp) (by unfold kMov; rw [if_neg (by omega), if_neg (by omega)]), act_pl (by omega) (by omega)⟩
      · skip
        refine z_bipush 169 K dL_act_167 rfl rfl ?_
        refine z_goto (tgt := 185) K dL_act_169 (by decide) ?_
        refine z_wid (kc' := 4) (ks' := 24) (by decide) (by decide) ?_
        exact z_iret K rfl dL_act_185 ⟨f, k, past, hI, PW_mono hP hcp, act_no (by omega) (by omega)⟩
    by_cases sw_51_6 : lowZ (cV xs L ka) 20 = 6
    · skip
      refine z_top (6) sw_51_6 ?_
      refine z_tableIn (tgt := 186) K dL_act_51 (by decide) (by decide) (by decide) rfl (by decide) ?_
      refine z_iload 188 K dL_act_186 rfl 1 rfl ?_
      refine z_if_ne (tgt := 196) 191 K dL_act_188 rfl (by decide) (by omega) (fun c_188 => ?_) (fun c_188 => ?_)
      · skip
        have hpe : pz = lowZ (cV xs L (ka + 1)) (f 1) := by omega
        refine z_aload_n 197 K dL_act_196 rfl rfl 4 rfl ?_
        refine z_iload 199 K dL_act_197 rfl 0 rfl ?_
        refine z_vVi (As := [.int (iZ pz)]) (rest := []) 202 K 0 (by decide) gMa rfl rfl (a_X8_drop l g _ pz _ _ _ _ _ _ hI hP (by omega) (by unfold kPl; rw [if_neg (by omega)])) (cwV 1 K.1.2.2.2.2 gL_act_X8_drop rfl rfl rfl (by decide +kernel) ⟨Nat.le_of_ble_eq_true rfl, Nat.le_of_ble_eq_true rfl⟩) rfl (Nat.le_of_ble_eq_true rfl) dL_act_199 rfl ⟨Nat.le_of_ble_eq_true rfl, Nat.le_of_ble_eq_true rfl⟩ rfl (fun z_46 C_47 hp_199 => ?_)
        obtain ⟨hIn_199, hsm_199, hz_199⟩ := hp_199
        refine z_top (sAllLost (mOut f pz) - (sAllLost f)) hz_199 ?_
        refine z_wid (kc' := 4) (ks' := 24) (by decide) (by decide) ?_
        exact z_iret K rfl dL_act_202 ⟨_, _, _, hIn_199, PW_t (PW_drp (p := pz) hP hcp) (by unfold kPl; rw [if_neg (by omega)]), (by rw [hpe]; exact act_drop (by omega) hw (by omega))⟩
      · skip
        refine z_bipush 193 K dL_act_191 rfl rfl ?_
        refine z_goto (tgt := 202) K dL_act_193 (by decide) ?_
        refine z_wid (kc' := 4) (ks' := 24) (by decide) (by decide) ?_
        exact z_iret K rfl dL_act_202 ⟨f, k, past, hI, PW_mono hP hcp, act_no (by omega) (by omega)⟩
    by_cases sw_51_7 : lowZ (cV xs L ka) 20 = 7
    · skip
      refine z_top (7) sw_51_7 ?_
      refine z_tableIn (tgt := 203) K dL_act_51 (by decide) (by decide) (by decide) rfl (by decide) ?_
      refine z_iload 205 K dL_act_203 rfl 1 rfl ?_
      refine z_if_ne (tgt := 213) 208 K dL_act_205 rfl (by decide) (by omega) (fun c_205 => ?_) (fun c_205 => ?_)
      · skip
        have hpx := hP.1.ex pz (by omega) (by omega)
        refine z_aload_n 214 K dL_act_213 rfl rfl 4 rfl ?_
        refine z_iload 216 K dL_act_214 rfl 0 rfl ?_
        refine z_iconst 217 K dL_act_216 rfl ?_
        refine z_iload 219 K dL_act_217 rfl 2 rfl ?_
        refine z_bipush 221 K dL_act_219 rfl rfl ?_
        refine z_vSi (As := [.int (iZ (cV xs L (ka + 2))), .int (iZ 60)]) (rest := [.int (iZ 1), .int (iZ pz), .ref (aD g 0)]) 224 K (m_L_low l g _ (cV xs L (ka + 2)) 60 (by omega)) (va_cwS 2 K.1.2.2.2.2 gL_act_L_low rfl rfl rfl (by decide +kernel) ⟨Nat.le_of_ble_eq_true rfl, Nat.le_of_ble_eq_true rfl⟩) rfl (Nat.le_of_ble_eq_true rfl) dL_act_221 rfl ⟨Nat.le_of_ble_eq_true rfl, Nat.le_of_ble_eq_true rfl⟩ rfl (fun z_48 C_49 hp_221 => ?_)
        refine z_C hp_221.1 ?_
        refine z_top (lowZ (cV xs L (ka + 2)) 60) hp_221.2 ?_
        have hl_221 := lowZ_rng (cV xs L (ka + 2)) (n := 60) (by omega)
        refine z_iadd 225 K dL_act_224 rfl ?_
        refine z_top (lowZ (cV xs L (ka + 2)) 60 + 1) (by omega) ?_
        refine z_vVi (As := [.int (iZ pz), .int (iZ (lowZ (cV xs L (ka + 2)) 60 + 1))]) (rest := []) 228 K 0 (by decide) gMa rfl rfl (a_X8_pages l g _ pz (lowZ (cV xs L (ka + 2)) 60 + 1) _ _ _ _ _ _ hI hP (by omega) (by omega) (by unfold kPgs; rw [if_neg (by omega), if_neg (by omega)])) (cwV 2 K.1.2.2.2.2 gL_act_X8_pages rfl rfl rfl (by decide +kernel) ⟨Nat.le_of_ble_eq_true rfl, Nat.le_of_ble_eq_true rfl⟩) rfl (Nat.le_of_ble_eq_true rfl) dL_act_225 rfl ⟨Nat.le_of_ble_eq_true rfl, Nat.le_of_ble_eq_true rfl⟩ rfl (fun z_50 C_51 hp_225 => ?_)
        obtain ⟨hIn_225, hsm_225, hz_225⟩ := hp_225
        refine z_top (f (2 * pz + 4)) hz_225 ?_
        refine z_wid (kc' := 4) (ks' := 24) (by decide) (by decide) ?_
        exact z_iret K rfl dL_act_228 ⟨_, _, _, hIn_225, PW_t (PW_pgs (p := pz) (y := lowZ (cV xs L (ka + 2)) 60 + 1) hP hcp) (by unfold kPgs; rw [if_neg (by omega), if_neg (by omega)]), act_pl (by omega) (by omega)⟩
      · skip
        refine z_bipush 210 K dL_act_208 rfl rfl ?_
        refine z_goto (tgt := 228) K dL_act_210 (by decide) ?_
        refine z_wid (kc' := 4) (ks' := 24) (by decide) (by decide) ?_
        exact z_iret K rfl dL_act_228 ⟨f, k, past, hI, PW_mono hP hcp, act_no (by omega) (by omega)⟩
    by_cases sw_51_8 : lowZ (cV xs L ka) 20 = 8
    · skip
      refine z_top (8) sw_51_8 ?_
      refine z_tableIn (tgt := 229) K dL_act_51 (by decide) (by decide) (by decide) rfl (by decide) ?_
      refine z_aload_n 230 K dL_act_229 rfl rfl 4 rfl ?_
      refine z_iload 232 K dL_act_230 rfl 0 rfl ?_
      refine z_vT (As := [.ref (aD g 0), .int (iZ pz)]) (rest := []) 235 K hNc (w_L_join l g _ pz _ _ _ _ _ _ hI hP (by omega) (kJoi_ok f pz) hlt) (vx_cwSW 2 K.1.2.2.2.2 gL_act_L_join rfl rfl rfl (by decide +kernel) ⟨Nat.le_of_ble_eq_true rfl, Nat.le_of_ble_eq_true rfl⟩) rfl (Nat.le_of_ble_eq_true rfl) dL_act_232 rfl ⟨Nat.le_of_ble_eq_true rfl, Nat.le_of_ble_eq_true rfl⟩ rfl (fun z_52 C_53 hp_232 => ?_)
      obtain ⟨hIn_232, hz_232⟩ := hp_232
      refine z_top ((if kJoi f pz = 0 then f (2 * pz + 4) + f (2 * pz + 6) else (if kJoi f pz = 1 then -1 else -3))) hz_232 ?_
      refine z_wid (kc' := 4) (ks' := 24) (by decide) (by decide) ?_
      exact z_iret K rfl dL_act_235 ⟨_, _, _, hIn_232, PW_joi hP hcp, act_if (fun hk => act_join (by omega) hw (kJoi_0 hk)) (fun _ => act_no (by omega) (by split <;> omega))⟩
    by_cases sw_51_9 : lowZ (cV xs L ka) 20 = 9
    · skip
      refine z_top (9) sw_51_9 ?_
      refine z_tableIn (tgt := 236) K dL_act_51 (by decide) (by decide) (by decide) rfl (by decide) ?_
      refine z_iload 238 K dL_act_236 rfl 1 rfl ?_
      refine z_if_eq (tgt := 259) 241 K dL_act_238 rfl (by decide) (by omega) (fun c_238 => ?_) (fun c_238 => ?_)
      · skip
        refine z_bipush 261 K dL_act_259 rfl rfl ?_
        refine z_goto (tgt := 286) K dL_act_261 (by decide) ?_
        refine z_wid (kc' := 4) (ks' := 24) (by decide) (by decide) ?_
        exact z_iret K rfl dL_act_286 ⟨f, k, past, hI, PW_mono hP hcp, act_no (by omega) (by omega)⟩
      · skip
        refine z_iload 243 K dL_act_241 rfl 1 rfl ?_
        refine z_bipush 245 K dL_act_243 rfl rfl ?_
        refine z_icmp_eq (tgt := 259) 248 K dL_act_245 rfl (by decide) (by omega) (by decide) (fun c_245 => ?_) (fun c_245 => ?_)
        · skip
          refine z_bipush 261 K dL_act_259 rfl rfl ?_
          refine z_goto (tgt := 286) K dL_act_261 (by decide) ?_
          refine z_wid (kc' := 4) (ks' := 24) (by decide) (by decide) ?_
          exact z_iret K rfl dL_act_286 ⟨f, k, past, hI, PW_mono hP hcp, act_no (by omega) (by omega)⟩
        · skip
          refine z_aload_n 249 K dL_act_248 rfl rfl 4 rfl ?_
          refine z_iload 251 K dL_act_249 rfl 0 rfl ?_
          refine z_iconst 252 K dL_act_251 rfl ?_
          refine z_vVi (As := [.int (iZ pz), .int (iZ 1)]) (rest := []) 255 K 0 (by decide) gMa rfl rfl (e_exh1 l g _ pz _ _ _ _ _ _ hI hP (by omega)) (cwV 2 K.1.2.2.2.2 gL_act_X8_exhibit rfl rfl rfl (by decide +kernel) ⟨Nat.le_of_ble_eq_true rfl, Nat.le_of_ble_eq_true rfl⟩) rfl (Nat.le_of_ble_eq_true rfl) dL_act_252 rfl ⟨Nat.le_of_ble_eq_true rfl, Nat.le_of_ble_eq_true rfl⟩ rfl (fun z_54 C_55 hp_252 => ?_)
          refine z_C hp_252.1 ?_
          refine z_top (sPg f pz) hp_252.2 ?_
          have hpx := hP.1.ex pz (by omega) (by omega)
          have hpq : sPg f pz = f (2 * pz + 4) := rfl
          refine z_iconst 256 K dL_act_255 rfl ?_
          refine z_icmp_ne (tgt := 264) 259 K dL_act_256 rfl (by decide) (by omega) (by decide) (fun c_256 => ?_) (fun c_256 => ?_)
          · skip
            refine z_aload_n 265 K dL_act_264 rfl rfl 4 rfl ?_
            refine z_iload 267 K dL_act_265 rfl 0 rfl ?_
            refine z_iconst 268 K dL_act_267 rfl ?_
            refine z_iload 270 K dL_act_268 rfl 2 rfl ?_
            refine z_aload_n 271 K dL_act_270 rfl rfl 4 rfl ?_
            refine z_iload 273 K dL_act_271 rfl 0 rfl ?_
            refine z_iconst 274 K dL_act_273 rfl ?_
            refine z_vVi (As := [.int (iZ pz), .int (iZ 1)]) (rest := [.int (iZ (cV xs L (ka + 2))), .int (iZ 1), .int (iZ pz), .ref (aD g 0)]) 277 K 0 (by decide) gMa rfl rfl (e_exh1 l g _ pz _ _ _ _ _ _ hI hP (by omega)) (cwV 2 K.1.2.2.2.2 gL_act_X8_exhibit rfl rfl rfl (by decide +kernel) ⟨Nat.le_of_ble_eq_true rfl, Nat.le_of_ble_eq_true rfl⟩) rfl (Nat.le_of_ble_eq_true rfl) dL_act_274 rfl ⟨Nat.le_of_ble_eq_true rfl, Nat.le_of_ble_eq_true rfl⟩ rfl (fun z_56 C_57 hp_274 => ?_)
            refine z_C hp_274.1 ?_
            refine z_top (sPg f pz) hp_274.2 ?_
            have hpx := hP.1.ex pz (by omega) (by omega)
            have hpq : sPg f pz = f (2 * pz + 4) := rfl
            refine z_iconst 278 K dL_act_277 rfl ?_
            refine z_isub 279 K dL_act_278 rfl ?_
            refine z_vSi (As := [.int (iZ (cV xs L (ka + 2))), .int (iZ (sPg f pz - 1))]) (rest := [.int (iZ 1), .int (iZ pz), .ref (aD g 0)]) 282 K (m_L_low l g _ (cV xs L (ka + 2)) (sPg f pz - 1) (by omega)) (va_cwS 2 K.1.2.2.2.2 gL_act_L_low rfl rfl rfl (by decide +kernel) ⟨Nat.le_of_ble_eq_true rfl, Nat.le_of_ble_eq_true rfl⟩) rfl (Nat.le_of_ble_eq_true rfl) dL_act_279 rfl ⟨Nat.le_of_ble_eq_true rfl, Nat.le_of_ble_eq_true rfl⟩ rfl (fun z_58 C_59 hp_279 => ?_)
            refine z_C hp_279.1 ?_
            refine z_top (lowZ (cV xs L (ka + 2)) (sPg f pz - 1)) hp_279.2 ?_
            have hl_279 := lowZ_rng (cV xs L (ka + 2)) (n := sPg f pz - 1) (by omega)
            refine z_iadd 283 K dL_act_282 rfl ?_
            refine z_top (lowZ (cV xs L (ka + 2)) (sPg f pz - 1) + 1) (by omega) ?_
            refine z_vVi (As := [.int (iZ pz), .int (iZ (lowZ (cV xs L (ka + 2)) (sPg f pz - 1) + 1))]) (rest := []) 286 K 0 (by decide) gMa rfl rfl (a_X8_split l g _ pz (lowZ (cV xs L (ka + 2)) (sPg f pz - 1) + 1) _ _ _ _ _ _ hI hP (by omega) (by omega) (by unfold kSpl; rw [if_neg (by omega), if_neg (by omega), if_neg (by omega)])) (cwV 2 K.1.2.2.2.2 gL_act_X8_split rfl rfl rfl (by decide +kernel) ⟨Nat.le_of_ble_eq_true rfl, Nat.le_of_ble_eq_true rfl⟩) rfl (Nat.le_of_ble_eq_true rfl) dL_act_283 rfl ⟨Nat.le_of_ble_eq_true rfl, Nat.le_of_ble_eq_true rfl⟩ rfl (fun z_60 C_61 hp_283 => ?_)
            obtain ⟨hIn_283, hsm_283, hz_283⟩ := hp_283
            refine z_top (f 2) hz_283 ?_
            refine z_wid (kc' := 4) (ks' := 24) (by decide) (by decide) ?_
            exact z_iret K rfl dL_act_286 ⟨_, _, _, hIn_283, PW_t (PW_spl (p := pz) (y := lowZ (cV xs L (ka + 2)) (sPg f pz - 1) + 1) hP hcp) (by unfold kSpl; rw [if_neg (by omega), if_neg (by omega), if_neg (by omega)]), act_split (by omega) hw hcap (by omega) (by omega) (by omega)⟩
          · skip
            refine z_bipush 261 K dL_act_259 rfl rfl ?_
            refine z_goto (tgt := 286) K dL_act_261 (by decide) ?_
            refine z_wid (kc' := 4) (ks' := 24) (by decide) (by decide) ?_
            exact z_iret K rfl dL_act_286 ⟨f, k, past, hI, PW_mono hP hcp, act_no (by omega) (by omega)⟩
    by_cases sw_51_10 : lowZ (cV xs L ka) 20 = 10
    · skip
      refine z_top (10) sw_51_10 ?_
      refine z_tableIn (tgt := 236) K dL_act_51 (by decide) (by decide) (by decide) rfl (by decide) ?_
      refine z_iload 238 K dL_act_236 rfl 1 rfl ?_
      refine z_if_eq (tgt := 259) 241 K dL_act_238 rfl (by decide) (by omega) (fun c_238 => ?_) (fun c_238 => ?_)
      · skip
        refine z_bipush 261 K dL_act_259 rfl rfl ?_
        refine z_goto (tgt := 286) K dL_act_261 (by decide) ?_
        refine z_wid (kc' := 4) (ks' := 24) (by decide) (by decide) ?_
        exact z_iret K rfl dL_act_286 ⟨f, k, past, hI, PW_mono hP hcp, act_no (by omega) (by omega)⟩
      · skip
        refine z_iload 243 K dL_act_241 rfl 1 rfl ?_
        refine z_bipush 245 K dL_act_243 rfl rfl ?_
        refine z_icmp_eq (tgt := 259) 248 K dL_act_245 rfl (by decide) (by omega) (by decide) (fun c_245 => ?_) (fun c_245 => ?_)
        · skip
          refine z_bipush 261 K dL_act_259 rfl rfl ?_
          refine z_goto (tgt := 286) K dL_act_261 (by decide) ?_
          refine z_wid (kc' := 4) (ks' := 24) (by decide) (by decide) ?_
          exact z_iret K rfl dL_act_286 ⟨f, k, past, hI, PW_mono hP hcp, act_no (by omega) (by omega)⟩
        · skip
          refine z_aload_n 249 K dL_act_248 rfl rfl 4 rfl ?_
          refine z_iload 251 K dL_act_249 rfl 0 rfl ?_
          refine z_iconst 252 K dL_act_251 rfl ?_
          refine z_vVi (As := [.int (iZ pz), .int (iZ 1)]) (rest := []) 255 K 0 (by decide) gMa rfl rfl (e_exh1 l g _ pz _ _ _ _ _ _ hI hP (by omega)) (cwV 2 K.1.2.2.2.2 gL_act_X8_exhibit rfl rfl rfl (by decide +kernel) ⟨Nat.le_of_ble_eq_true rfl, Nat.le_of_ble_eq_true rfl⟩) rfl (Nat.le_of_ble_eq_true rfl) dL_act_252 rfl ⟨Nat.le_of_ble_eq_true rfl, Nat.le_of_ble_eq_true rfl⟩ rfl (fun z_62 C_63 hp_252 => ?_)
          refine z_C hp_252.1 ?_
          refine z_top (sPg f pz) hp_252.2 ?_
          have hpx := hP.1.ex pz (by omega) (by omega)
          have hpq : sPg f pz = f (2 * pz + 4) := rfl
          refine z_iconst 256 K dL_act_255 rfl ?_
          refine z_icmp_ne (tgt := 264) 259 K dL_act_256 rfl (by decide) (by omega) (by decide) (fun c_256 => ?_) (fun c_256 => ?_)
          · skip
            refine z_aload_n 265 K dL_act_264 rfl rfl 4 rfl ?_
            refine z_iload 267 K dL_act_265 rfl 0 rfl ?_
            refine z_iconst 268 K dL_act_267 rfl ?_
            refine z_iload 270 K dL_act_268 rfl 2 rfl ?_
            refine z_aload_n 271 K dL_act_270 rfl rfl 4 rfl ?_
            refine z_iload 273 K dL_act_271 rfl 0 rfl ?_
            refine z_iconst 274 K dL_act_273 rfl ?_
            refine z_vVi (As := [.int (iZ pz), .int (iZ 1)]) (rest := [.int (iZ (cV xs L (ka + 2))), .int (iZ 1), .int (iZ pz), .ref (aD g 0)]) 277 K 0 (by decide) gMa rfl rfl (e_exh1 l g _ pz _ _ _ _ _ _ hI hP (by omega)) (cwV 2 K.1.2.2.2.2 gL_act_X8_exhibit rfl rfl rfl (by decide +kernel) ⟨Nat.le_of_ble_eq_true rfl, Nat.le_of_ble_eq_true rfl⟩) rfl (Nat.le_of_ble_eq_true rfl) dL_act_274 rfl ⟨Nat.le_of_ble_eq_true rfl, Nat.le_of_ble_eq_true rfl⟩ rfl (fun z_64 C_65 hp_274 => ?_)
            refine z_C hp_274.1 ?_
            refine z_top (sPg f pz) hp_274.2 ?_
            have hpx := hP.1.ex pz (by omega) (by omega)
            have hpq : sPg f pz = f (2 * pz + 4) := rfl
            refine z_iconst 278 K dL_act_277 rfl ?_
            refine z_isub 279 K dL_act_278 rfl ?_
            refine z_vSi (As := [.int (iZ (cV xs L (ka + 2))), .int (iZ (sPg f pz - 1))]) (rest := [.int (iZ 1), .int (iZ pz), .ref (aD g 0)]) 282 K (m_L_low l g _ (cV xs L (ka + 2)) (sPg f pz - 1) (by omega)) (va_cwS 2 K.1.2.2.2.2 gL_act_L_low rfl rfl rfl (by decide +kernel) ⟨Nat.le_of_ble_eq_true rfl, Nat.le_of_ble_eq_true rfl⟩) rfl (Nat.le_of_ble_eq_true rfl) dL_act_279 rfl ⟨Nat.le_of_ble_eq_true rfl, Nat.le_of_ble_eq_true rfl⟩ rfl (fun z_66 C_67 hp_279 => ?_)
            refine z_C hp_279.1 ?_
            refine z_top (lowZ (cV xs L (ka + 2)) (sPg f pz - 1)) hp_279.2 ?_
            have hl_279 := lowZ_rng (cV xs L (ka + 2)) (n := sPg f pz - 1) (by omega)
            refine z_iadd 283 K dL_act_282 rfl ?_
            refine z_top (lowZ (cV xs L (ka + 2)) (sPg f pz - 1) + 1) (by omega) ?_
            refine z_vVi (As := [.int (iZ pz), .int (iZ (lowZ (cV xs L (ka + 2)) (sPg f pz - 1) + 1))]) (rest := []) 286 K 0 (by decide) gMa rfl rfl (a_X8_split l g _ pz (lowZ (cV xs L (ka + 2)) (sPg f pz - 1) + 1) _ _ _ _ _ _ hI hP (by omega) (by omega) (by unfold kSpl; rw [if_neg (by omega), if_neg (by omega), if_neg (by omega)])) (cwV 2 K.1.2.2.2.2 gL_act_X8_split rfl rfl rfl (by decide +kernel) ⟨Nat.le_of_ble_eq_true rfl, Nat.le_of_ble_eq_true rfl⟩) rfl (Nat.le_of_ble_eq_true rfl) dL_act_283 rfl ⟨Nat.le_of_ble_eq_true rfl, Nat.le_of_ble_eq_true rfl⟩ rfl (fun z_68 C_69 hp_283 => ?_)
            obtain ⟨hIn_283, hsm_283, hz_283⟩ := hp_283
            refine z_top (f 2) hz_283 ?_
            refine z_wid (kc' := 4) (ks' := 24) (by decide) (by decide) ?_
            exact z_iret K rfl dL_act_286 ⟨_, _, _, hIn_283, PW_t (PW_spl (p := pz) (y := lowZ (cV xs L (ka + 2)) (sPg f pz - 1) + 1) hP hcp) (by unfold kSpl; rw [if_neg (by omega), if_neg (by omega), if_neg (by omega)]), act_split (by omega) hw hcap (by omega) (by omega) (by omega)⟩
          · skip
            refine z_bipush 261 K dL_act_259 rfl rfl ?_
            refine z_goto (tgt := 286) K dL_act_261 (by decide) ?_
            refine z_wid (kc' := 4) (ks' := 24) (by decide) (by decide) ?_
            exact z_iret K rfl dL_act_286 ⟨f, k, past, hI, PW_mono hP hcp, act_no (by omega) (by omega)⟩
    by_cases sw_51_11 : lowZ (cV xs L ka) 20 = 11
    · skip
      refine z_top (11) sw_51_11 ?_
      refine z_tableIn (tgt := 287) K dL_act_51 (by decide) (by decide) (by decide) rfl (by decide) ?_
      refine z_iload 289 K dL_act_287 rfl 1 rfl ?_
      refine z_if_ne (tgt := 297) 292 K dL_act_289 rfl (by decide) (by omega) (fun c_289 => ?_) (fun c_289 => ?_)
      · skip
        have hpf := hP.1.pa (lowZ (cV xs L (ka + 2)) 4) (by have := lowZ_rng (cV xs L (ka + 2)) (n := 4) (by omega); omega) (by have := lowZ_rng (cV xs L (ka + 2)) (n := 4) (by omega); omega)
        refine z_aload_n 298 K dL_act_297 rfl rfl 4 rfl ?_
        refine z_iload 300 K dL_act_298 rfl 2 rfl ?_
        refine z_iconst 301 K dL_act_300 rfl ?_
        refine z_vSi (As := [.int (iZ (cV xs L (ka + 2))), .int (iZ 4)]) (rest := [.ref (aD g 0)]) 304 K (m_L_low l g _ (cV xs L (ka + 2)) 4 (by omega)) (va_cwS 2 K.1.2.2.2.2 gL_act_L_low rfl rfl rfl (by decide +kernel) ⟨Nat.le_of_ble_eq_true rfl, Nat.le_of_ble_eq_true rfl⟩) rfl (Nat.le_of_ble_eq_true rfl) dL_act_301 rfl ⟨Nat.le_of_ble_eq_true rfl, Nat.le_of_ble_eq_true rfl⟩ rfl (fun z_70 C_71 hp_301 => ?_)
        refine z_C hp_301.1 ?_
        refine z_top (lowZ (cV xs L (ka + 2)) 4) hp_301.2 ?_
        have hl_301 := lowZ_rng (cV xs L (ka + 2)) (n := 4) (by omega)
        refine z_iload 306 K dL_act_304 rfl 0 rfl ?_
        refine z_iconst 307 K dL_act_306 rfl ?_
        refine z_iload_n 308 K dL_act_307 rfl rfl 3 rfl ?_
        refine z_iload 310 K dL_act_308 rfl 2 rfl ?_
        refine z_iadd 311 K dL_act_310 rfl ?_
        refine z_top (cV xs L (ka + 1) + cV xs L (ka + 2)) (by omega) ?_
        refine z_bipush 313 K dL_act_311 rfl rfl ?_
        refine z_vSi (As := [.int (iZ (cV xs L (ka + 1) + cV xs L (ka + 2))), .int (iZ 60)]) (rest := [.int (iZ 1), .int (iZ pz), .int (iZ (lowZ (cV xs L (ka + 2)) 4)), .ref (aD g 0)]) 316 K (m_L_low l g _ (cV xs L (ka + 1) + cV xs L (ka + 2)) 60 (by omega)) (va_cwS 2 K.1.2.2.2.2 gL_act_L_low rfl rfl rfl (by decide +kernel) ⟨Nat.le_of_ble_eq_true rfl, Nat.le_of_ble_eq_true rfl⟩) rfl (Nat.le_of_ble_eq_true rfl) dL_act_313 rfl ⟨Nat.le_of_ble_eq_true rfl, Nat.le_of_ble_eq_true rfl⟩ rfl (fun z_72 C_73 hp_313 => ?_)
        refine z_C hp_313.1 ?_
        refine z_top (lowZ (cV xs L (ka + 1) + cV xs L (ka + 2)) 60) hp_313.2 ?_
        have hl_313 := lowZ_rng (cV xs L (ka + 1) + cV xs L (ka + 2)) (n := 60) (by omega)
        refine z_iadd 317 K dL_act_316 rfl ?_
        refine z_top (lowZ (cV xs L (ka + 1) + cV xs L (ka + 2)) 60 + 1) (by omega) ?_
        refine z_vT (As := [.ref (aD g 0), .int (iZ (lowZ (cV xs L (ka + 2)) 4)), .int (iZ pz), .int (iZ (lowZ (cV xs L (ka + 1) + cV xs L (ka + 2)) 60 + 1))]) (rest := []) 320 K hNc (w_L_cite l g _ (lowZ (cV xs L (ka + 2)) 4) pz (lowZ (cV xs L (ka + 1) + cV xs L (ka + 2)) 60 + 1) _ _ _ _ _ _ hI hP (by omega) (by omega) (by omega) (kCit_ok (by omega) (by omega) (by omega)) hlt) (vx_cwSW 4 K.1.2.2.2.2 gL_act_L_cite rfl rfl rfl (by decide +kernel) ⟨Nat.le_of_ble_eq_true rfl, Nat.le_of_ble_eq_true rfl⟩) rfl (Nat.le_of_ble_eq_true rfl) dL_act_317 rfl ⟨Nat.le_of_ble_eq_true rfl, Nat.le_of_ble_eq_true rfl⟩ rfl (fun z_74 C_75 hp_317 => ?_)
        obtain ⟨hIn_317, hz_317⟩ := hp_317
        refine z_top ((if kCit f (lowZ (cV xs L (ka + 2)) 4) pz (lowZ (cV xs L (ka + 1) + cV xs L (ka + 2)) 60 + 1) = 0 then f (32 * (lowZ (cV xs L (ka + 2)) 4) + 65) + 1 else (-3))) hz_317 ?_
        refine z_wid (kc' := 4) (ks' := 24) (by decide) (by decide) ?_
        exact z_iret K rfl dL_act_320 ⟨_, _, _, hIn_317, PW_cit hP hcp, act_if (fun _ => act_pl (by omega) (by omega)) (fun _ => act_no (by omega) (by omega))⟩
      · skip
        refine z_bipush 294 K dL_act_292 rfl rfl ?_
        refine z_goto (tgt := 320) K dL_act_294 (by decide) ?_
        refine z_wid (kc' := 4) (ks' := 24) (by decide) (by decide) ?_
        exact z_iret K rfl dL_act_320 ⟨f, k, past, hI, PW_mono hP hcp, act_no (by omega) (by omega)⟩
    by_cases sw_51_12 : lowZ (cV xs L ka) 20 = 12
    · skip
      refine z_top (12) sw_51_12 ?_
      refine z_tableIn (tgt := 287) K dL_act_51 (by decide) (by decide) (by decide) rfl (by decide) ?_
      refine z_iload 289 K dL_act_287 rfl 1 rfl ?_
      refine z_if_ne (tgt := 297) 292 K dL_act_289 rfl (by decide) (by omega) (fun c_289 => ?_) (fun c_289 => ?_)
      · skip
        have hpf := hP.1.pa (lowZ (cV xs L (ka + 2)) 4) (by have := lowZ_rng (cV xs L (ka + 2)) (n := 4) (by omega); omega) (by have := lowZ_rng (cV xs L (ka + 2)) (n := 4) (by omega); omega)
        refine z_aload_n 298 K dL_act_297 rfl rfl 4 rfl ?_
        refine z_iload 300 K dL_act_298 rfl 2 rfl ?_
        refine z_iconst 301 K dL_act_300 rfl ?_
        refine z_vSi (As := [.int (iZ (cV xs L (ka + 2))), .int (iZ 4)]) (rest := [.ref (aD g 0)]) 304 K (m_L_low l g _ (cV xs L (ka + 2)) 4 (by omega)) (va_cwS 2 K.1.2.2.2.2 gL_act_L_low rfl rfl rfl (by decide +kernel) ⟨Nat.le_of_ble_eq_true rfl, Nat.le_of_ble_eq_true rfl⟩) rfl (Nat.le_of_ble_eq_true rfl) dL_act_301 rfl ⟨Nat.le_of_ble_eq_true rfl, Nat.le_of_ble_eq_true rfl⟩ rfl (fun z_76 C_77 hp_301 => ?_)
        refine z_C hp_301.1 ?_
        refine z_top (lowZ (cV xs L (ka + 2)) 4) hp_301.2 ?_
        have hl_301 := lowZ_rng (cV xs L (ka + 2)) (n := 4) (by omega)
        refine z_iload 306 K dL_act_304 rfl 0 rfl ?_
        refine z_iconst 307 K dL_act_306 rfl ?_
        refine z_iload_n 308 K dL_act_307 rfl rfl 3 rfl ?_
        refine z_iload 310 K dL_act_308 rfl 2 rfl ?_
        refine z_iadd 311 K dL_act_310 rfl ?_
        refine z_top (cV xs L (ka + 1) + cV xs L (ka + 2)) (by omega) ?_
        refine z_bipush 313 K dL_act_311 rfl rfl ?_
        refine z_vSi (As := [.int (iZ (cV xs L (ka + 1) + cV xs L (ka + 2))), .int (iZ 60)]) (rest := [.int (iZ 1), .int (iZ pz), .int (iZ (lowZ (cV xs L (ka + 2)) 4)), .ref (aD g 0)]) 316 K (m_L_low l g _ (cV xs L (ka + 1) + cV xs L (ka + 2)) 60 (by omega)) (va_cwS 2 K.1.2.2.2.2 gL_act_L_low rfl rfl rfl (by decide +kernel) ⟨Nat.le_of_ble_eq_true rfl, Nat.le_of_ble_eq_true rfl⟩) rfl (Nat.le_of_ble_eq_true rfl) dL_act_313 rfl ⟨Nat.le_of_ble_eq_true rfl, Nat.le_of_ble_eq_true rfl⟩ rfl (fun z_78 C_79 hp_313 => ?_)
        refine z_C hp_313.1 ?_
        refine z_top (lowZ (cV xs L (ka + 1) + cV xs L (ka + 2)) 60) hp_313.2 ?_
        have hl_313 := lowZ_rng (cV xs L (ka + 1) + cV xs L (ka + 2)) (n := 60) (by omega)
        refine z_iadd 317 K dL_act_316 rfl ?_
        refine z_top (lowZ (cV xs L (ka + 1) + cV xs L (ka + 2)) 60 + 1) (by omega) ?_
        refine z_vT (As := [.ref (aD g 0), .int (iZ (lowZ (cV xs L (ka + 2)) 4)), .int (iZ pz), .int (iZ (lowZ (cV xs L (ka + 1) + cV xs L (ka + 2)) 60 + 1))]) (rest := []) 320 K hNc (w_L_cite l g _ (lowZ (cV xs L (ka + 2)) 4) pz (lowZ (cV xs L (ka + 1) + cV xs L (ka + 2)) 60 + 1) _ _ _ _ _ _ hI hP (by omega) (by omega) (by omega) (kCit_ok (by omega) (by omega) (by omega)) hlt) (vx_cwSW 4 K.1.2.2.2.2 gL_act_L_cite rfl rfl rfl (by decide +kernel) ⟨Nat.le_of_ble_eq_true rfl, Nat.le_of_ble_eq_true rfl⟩) rfl (Nat.le_of_ble_eq_true rfl) dL_act_317 rfl ⟨Nat.le_of_ble_eq_true rfl, Nat.le_of_ble_eq_true rfl⟩ rfl (fun z_80 C_81 hp_317 => ?_)
        obtain ⟨hIn_317, hz_317⟩ := hp_317
        refine z_top ((if kCit f (lowZ (cV xs L (ka + 2)) 4) pz (lowZ (cV xs L (ka + 1) + cV xs L (ka + 2)) 60 + 1) = 0 then f (32 * (lowZ (cV xs L (ka + 2)) 4) + 65) + 1 else (-3))) hz_317 ?_
        refine z_wid (kc' := 4) (ks' := 24) (by decide) (by decide) ?_
        exact z_iret K rfl dL_act_320 ⟨_, _, _, hIn_317, PW_cit hP hcp, act_if (fun _ => act_pl (by omega) (by omega)) (fun _ => act_no (by omega) (by omega))⟩
      · skip
        refine z_bipush 294 K dL_act_292 rfl rfl ?_
        refine z_goto (tgt := 320) K dL_act_294 (by decide) ?_
        refine z_wid (kc' := 4) (ks' := 24) (by decide) (by decide) ?_
        exact z_iret K rfl dL_act_320 ⟨f, k, past, hI, PW_mono hP hcp, act_no (by omega) (by omega)⟩
    by_cases sw_51_13 : lowZ (cV xs L ka) 20 = 13
    · skip
      refine z_top (13) sw_51_13 ?_
      refine z_tableIn (tgt := 287) K dL_act_51 (by decide) (by decide) (by decide) rfl (by decide) ?_
      refine z_iload 289 K dL_act_287 rfl 1 rfl ?_
      refine z_if_ne (tgt := 297) 292 K dL_act_289 rfl (by decide) (by omega) (fun c_289 => ?_) (fun c_289 => ?_)
      · skip
        have hpf := hP.1.pa (lowZ (cV xs L (ka + 2)) 4) (by have := lowZ_rng (cV xs L (ka + 2)) (n := 4) (by omega); omega) (by have := lowZ_rng (cV xs L (ka + 2)) (n := 4) (by omega); omega)
        refine z_aload_n 298 K dL_act_297 rfl rfl 4 rfl ?_
        refine z_iload 300 K dL_act_298 rfl 2 rfl ?_
        refine z_iconst 301 K dL_act_300 rfl ?_
        refine z_vSi (As := [.int (iZ (cV xs L (ka + 2))), .int (iZ 4)]) (rest := [.ref (aD g 0)]) 304 K (m_L_low l g _ (cV xs L (ka + 2)) 4 (by omega)) (va_cwS 2 K.1.2.2.2.2 gL_act_L_low rfl rfl rfl (by decide +kernel) ⟨Nat.le_of_ble_eq_true rfl, Nat.le_of_ble_eq_true rfl⟩) rfl (Nat.le_of_ble_eq_true rfl) dL_act_301 rfl ⟨Nat.le_of_ble_eq_true rfl, Nat.le_of_ble_eq_true rfl⟩ rfl (fun z_82 C_83 hp_301 => ?_)
        refine z_C hp_301.1 ?_
        refine z_top (lowZ (cV xs L (ka + 2)) 4) hp_301.2 ?_
        have hl_301 := lowZ_rng (cV xs L (ka + 2)) (n := 4) (by omega)
        refine z_iload 306 K dL_act_304 rfl 0 rfl ?_
        refine z_iconst 307 K dL_act_306 rfl ?_
        refine z_iload_n 308 K dL_act_307 rfl rfl 3 rfl ?_
        refine z_iload 310 K dL_act_308 rfl 2 rfl ?_
        refine z_iadd 311 K dL_act_310 rfl ?_
        refine z_top (cV xs L (ka + 1) + cV xs L (ka + 2)) (by omega) ?_
        refine z_bipush 313 K dL_act_311 rfl rfl ?_
        refine z_vSi (As := [.int (iZ (cV xs L (ka + 1) + cV xs L (ka + 2))), .int (iZ 60)]) (rest := [.int (iZ 1), .int (iZ pz), .int (iZ (lowZ (cV xs L (ka + 2)) 4)), .ref (aD g 0)]) 316 K (m_L_low l g _ (cV xs L (ka + 1) + cV xs L (ka + 2)) 60 (by omega)) (va_cwS 2 K.1.2.2.2.2 gL_act_L_low rfl rfl rfl (by decide +kernel) ⟨Nat.le_of_ble_eq_true rfl, Nat.le_of_ble_eq_true rfl⟩) rfl (Nat.le_of_ble_eq_true rfl) dL_act_313 rfl ⟨Nat.le_of_ble_eq_true rfl, Nat.le_of_ble_eq_true rfl⟩ rfl (fun z_84 C_85 hp_313 => ?_)
        refine z_C hp_313.1 ?_
        refine z_top (lowZ (cV xs L (ka + 1) + cV xs L (ka + 2)) 60) hp_313.2 ?_
        have hl_313 := lowZ_rng (cV xs L (ka + 1) + cV xs L (ka + 2)) (n := 60) (by omega)
        refine z_iadd 317 K dL_act_316 rfl ?_
        refine z_top (lowZ (cV xs L (ka + 1) + cV xs L (ka + 2)) 60 + 1) (by omega) ?_
        refine z_vT (As := [.ref (aD g 0), .int (iZ (lowZ (cV xs L (ka + 2)) 4)), .int (iZ pz), .int (iZ (lowZ (cV xs L (ka + 1) + cV xs L (ka + 2)) 60 + 1))]) (rest := []) 320 K hNc (w_L_cite l g _ (lowZ (cV xs L (ka + 2)) 4) pz (lowZ (cV xs L (ka + 1) + cV xs L (ka + 2)) 60 + 1) _ _ _ _ _ _ hI hP (by omega) (by omega) (by omega) (kCit_ok (by omega) (by omega) (by omega)) hlt) (vx_cwSW 4 K.1.2.2.2.2 gL_act_L_cite rfl rfl rfl (by decide +kernel) ⟨Nat.le_of_ble_eq_true rfl, Nat.le_of_ble_eq_true rfl⟩) rfl (Nat.le_of_ble_eq_true rfl) dL_act_317 rfl ⟨Nat.le_of_ble_eq_true rfl, Nat.le_of_ble_eq_true rfl⟩ rfl (fun z_86 C_87 hp_317 => ?_)
        obtain ⟨hIn_317, hz_317⟩ := hp_317
        refine z_top ((if kCit f (lowZ (cV xs L (ka + 2)) 4) pz (lowZ (cV xs L (ka + 1) + cV xs L (ka + 2)) 60 + 1) = 0 then f (32 * (lowZ (cV xs L (ka + 2)) 4) + 65) + 1 else (-3))) hz_317 ?_
        refine z_wid (kc' := 4) (ks' := 24) (by decide) (by decide) ?_
        exact z_iret K rfl dL_act_320 ⟨_, _, _, hIn_317, PW_cit hP hcp, act_if (fun _ => act_pl (by omega) (by omega)) (fun _ => act_no (by omega) (by omega))⟩
      · skip
        refine z_bipush 294 K dL_act_292 rfl rfl ?_
        refine z_goto (tgt := 320) K dL_act_294 (by decide) ?_
        refine z_wid (kc' := 4) (ks' := 24) (by decide) (by decide) ?_
        exact z_iret K rfl dL_act_320 ⟨f, k, past, hI, PW_mono hP hcp, act_no (by omega) (by omega)⟩
    by_cases sw_51_14 : lowZ (cV xs L ka) 20 = 14
    · skip
      refine z_top (14) sw_51_14 ?_
      refine z_tableIn (tgt := 287) K dL_act_51 (by decide) (by decide) (by decide) rfl (by decide) ?_
      refine z_iload 289 K dL_act_287 rfl 1 rfl ?_
      refine z_if_ne (tgt := 297) 292 K dL_act_289 rfl (by decide) (by omega) (fun c_289 => ?_) (fun c_289 => ?_)
      · skip
        have hpf := hP.1.pa (lowZ (cV xs L (ka + 2)) 4) (by have := lowZ_rng (cV xs L (ka + 2)) (n := 4) (by omega); omega) (by have := lowZ_rng (cV xs L (ka + 2)) (n := 4) (by omega); omega)
        refine z_aload_n 298 K dL_act_297 rfl rfl 4 rfl ?_
        refine z_iload 300 K dL_act_298 rfl 2 rfl ?_
        refine z_iconst 301 K dL_act_300 rfl ?_
        refine z_vSi (As := [.int (iZ (cV xs L (ka + 2))), .int (iZ 4)]) (rest := [.ref (aD g 0)]) 304 K (m_L_low l g _ (cV xs L (ka + 2)) 4 (by omega)) (va_cwS 2 K.1.2.2.2.2 gL_act_L_low rfl rfl rfl (by decide +kernel) ⟨Nat.le_of_ble_eq_true rfl, Nat.le_of_ble_eq_true rfl⟩) rfl (Nat.le_of_ble_eq_true rfl) dL_act_301 rfl ⟨Nat.le_of_ble_eq_true rfl, Nat.le_of_ble_eq_true rfl⟩ rfl (fun z_88 C_89 hp_301 => ?_)
        refine z_C hp_301.1 ?_
        refine z_top (lowZ (cV xs L (ka + 2)) 4) hp_301.2 ?_
        have hl_301 := lowZ_rng (cV xs L (ka + 2)) (n := 4) (by omega)
        refine z_iload 306 K dL_act_304 rfl 0 rfl ?_
        refine z_iconst 307 K dL_act_306 rfl ?_
        refine z_iload_n 308 K dL_act_307 rfl rfl 3 rfl ?_
        refine z_iload 310 K dL_act_308 rfl 2 rfl ?_
        refine z_iadd 311 K dL_act_310 rfl ?_
        refine z_top (cV xs L (ka + 1) + cV xs L (ka + 2)) (by omega) ?_
        refine z_bipush 313 K dL_act_311 rfl rfl ?_
        refine z_vSi (As := [.int (iZ (cV xs L (ka + 1) + cV xs L (ka + 2))), .int (iZ 60)]) (rest := [.int (iZ 1), .int (iZ pz), .int (iZ (lowZ (cV xs L (ka + 2)) 4)), .ref (aD g 0)]) 316 K (m_L_low l g _ (cV xs L (ka + 1) + cV xs L (ka + 2)) 60 (by omega)) (va_cwS 2 K.1.2.2.2.2 gL_act_L_low rfl rfl rfl (by decide +kernel) ⟨Nat.le_of_ble_eq_true rfl, Nat.le_of_ble_eq_true rfl⟩) rfl (Nat.le_of_ble_eq_true rfl) dL_act_313 rfl ⟨Nat.le_of_ble_eq_true rfl, Nat.le_of_ble_eq_true rfl⟩ rfl (fun z_90 C_91 hp_313 => ?_)
        refine z_C hp_313.1 ?_
        refine z_top (lowZ (cV xs L (ka + 1) + cV xs L (ka + 2)) 60) hp_313.2 ?_
        have hl_313 := lowZ_rng (cV xs L (ka + 1) + cV xs L (ka + 2)) (n := 60) (by omega)
        refine z_iadd 317 K dL_act_316 rfl ?_
        refine z_top (lowZ (cV xs L (ka + 1) + cV xs L (ka + 2)) 60 + 1) (by omega) ?_
        refine z_vT (As := [.ref (aD g 0), .int (iZ (lowZ (cV xs L (ka + 2)) 4)), .int (iZ pz), .int (iZ (lowZ (cV xs L (ka + 1) + cV xs L (ka + 2)) 60 + 1))]) (rest := []) 320 K hNc (w_L_cite l g _ (lowZ (cV xs L (ka + 2)) 4) pz (lowZ (cV xs L (ka + 1) + cV xs L (ka + 2)) 60 + 1) _ _ _ _ _ _ hI hP (by omega) (by omega) (by omega) (kCit_ok (by omega) (by omega) (by omega)) hlt) (vx_cwSW 4 K.1.2.2.2.2 gL_act_L_cite rfl rfl rfl (by decide +kernel) ⟨Nat.le_of_ble_eq_true rfl, Nat.le_of_ble_eq_true rfl⟩) rfl (Nat.le_of_ble_eq_true rfl) dL_act_317 rfl ⟨Nat.le_of_ble_eq_true rfl, Nat.le_of_ble_eq_true rfl⟩ rfl (fun z_92 C_93 hp_317 => ?_)
        obtain ⟨hIn_317, hz_317⟩ := hp_317
        refine z_top ((if kCit f (lowZ (cV xs L (ka + 2)) 4) pz (lowZ (cV xs L (ka + 1) + cV xs L (ka + 2)) 60 + 1) = 0 then f (32 * (lowZ (cV xs L (ka + 2)) 4) + 65) + 1 else (-3))) hz_317 ?_
        refine z_wid (kc' := 4) (ks' := 24) (by decide) (by decide) ?_
        exact z_iret K rfl dL_act_320 ⟨_, _, _, hIn_317, PW_cit hP hcp, act_if (fun _ => act_pl (by omega) (by omega)) (fun _ => act_no (by omega) (by omega))⟩
      · skip
        refine z_bipush 294 K dL_act_292 rfl rfl ?_
        refine z_goto (tgt := 320) K dL_act_294 (by decide) ?_
        refine z_wid (kc' := 4) (ks' := 24) (by decide) (by decide) ?_
        exact z_iret K rfl dL_act_320 ⟨f, k, past, hI, PW_mono hP hcp, act_no (by omega) (by omega)⟩
    by_cases sw_51_15 : lowZ (cV xs L ka) 20 = 15
    · skip
      refine z_top (15) sw_51_15 ?_
      refine z_tableIn (tgt := 321) K dL_act_51 (by decide) (by decide) (by decide) rfl (by decide) ?_
      refine z_aload_n 322 K dL_act_321 rfl rfl 4 rfl ?_
      refine z_iload 324 K dL_act_322 rfl 2 rfl ?_
      refine z_iconst 325 K dL_act_324 rfl ?_
      refine z_vSi (As := [.int (iZ (cV xs L (ka + 2))), .int (iZ 4)]) (rest := [.ref (aD g 0)]) 328 K (m_L_low l g _ (cV xs L (ka + 2)) 4 (by omega)) (va_cwS 2 K.1.2.2.2.2 gL_act_L_low rfl rfl rfl (by decide +kernel) ⟨Nat.le_of_ble_eq_true rfl, Nat.le_of_ble_eq_true rfl⟩) rfl (Nat.le_of_ble_eq_true rfl) dL_act_325 rfl ⟨Nat.le_of_ble_eq_true rfl, Nat.le_of_ble_eq_true rfl⟩ rfl (fun z_94 C_95 hp_325 => ?_)
      refine z_C hp_325.1 ?_
      refine z_top (lowZ (cV xs L (ka + 2)) 4) hp_325.2 ?_
      have hl_325 := lowZ_rng (cV xs L (ka + 2)) (n := 4) (by omega)
      refine z_vVi (As := [.int (iZ (lowZ (cV xs L (ka + 2)) 4))]) (rest := []) 331 K 0 (by decide) gMa rfl rfl (a_X8_clean l g _ (lowZ (cV xs L (ka + 2)) 4) _ _ _ _ _ _ hI hP (by omega) (by unfold kPar; rw [if_neg (by omega)])) (cwV 1 K.1.2.2.2.2 gL_act_X8_clean rfl rfl rfl (by decide +kernel) ⟨Nat.le_of_ble_eq_true rfl, Nat.le_of_ble_eq_true rfl⟩) rfl (Nat.le_of_ble_eq_true rfl) dL_act_328 rfl ⟨Nat.le_of_ble_eq_true rfl, Nat.le_of_ble_eq_true rfl⟩ rfl (fun z_96 C_97 hp_328 => ?_)
      obtain ⟨hIn_328, hsm_328, hz_328⟩ := hp_328
      refine z_top (f (32 * (lowZ (cV xs L (ka + 2)) 4) + 65) - (mLeft f (lowZ (cV xs L (ka + 2)) 4) (f (32 * (lowZ (cV xs L (ka + 2)) 4) + 65)))) hz_328 ?_
      refine z_wid (kc' := 4) (ks' := 24) (by decide) (by decide) ?_
      exact z_iret K rfl dL_act_331 ⟨_, _, _, hIn_328, PW_t (PW_cln (a := lowZ (cV xs L (ka + 2)) 4) hP hI hcp) (by unfold kPar; rw [if_neg (by omega)]), act_clean (by omega) hw (by omega)⟩
    by_cases sw_51_16 : lowZ (cV xs L ka) 20 = 16
    · skip
      refine z_top (16) sw_51_16 ?_
      refine z_tableIn (tgt := 332) K dL_act_51 (by decide) (by decide) (by decide) rfl (by decide) ?_
      refine z_aload_n 333 K dL_act_332 rfl rfl 4 rfl ?_
      refine z_iload 335 K dL_act_333 rfl 2 rfl ?_
      refine z_bipush 337 K dL_act_335 rfl rfl ?_
      refine z_vSi (As := [.int (iZ (cV xs L (ka + 2))), .int (iZ 6)]) (rest := [.ref (aD g 0)]) 340 K (m_L_low l g _ (cV xs L (ka + 2)) 6 (by omega)) (va_cwS 2 K.1.2.2.2.2 gL_act_L_low rfl rfl rfl (by decide +kernel) ⟨Nat.le_of_ble_eq_true rfl, Nat.le_of_ble_eq_true rfl⟩) rfl (Nat.le_of_ble_eq_true rfl) dL_act_337 rfl ⟨Nat.le_of_ble_eq_true rfl, Nat.le_of_ble_eq_true rfl⟩ rfl (fun z_98 C_99 hp_337 => ?_)
      refine z_C hp_337.1 ?_
      refine z_top (lowZ (cV xs L (ka + 2)) 6) hp_337.2 ?_
      have hl_337 := lowZ_rng (cV xs L (ka + 2)) (n := 6) (by omega)
      refine z_vVi (As := [.int (iZ (lowZ (cV xs L (ka + 2)) 6))]) (rest := []) 343 K 0 (by decide) gMa rfl rfl (a_X8_print l g _ (lowZ (cV xs L (ka + 2)) 6) _ _ _ _ _ _ hI hP (by omega) (by unfold kPar; rw [if_neg (by omega)])) (cwV 1 K.1.2.2.2.2 gL_act_X8_print rfl rfl rfl (by decide +kernel) ⟨Nat.le_of_ble_eq_true rfl, Nat.le_of_ble_eq_true rfl⟩) rfl (Nat.le_of_ble_eq_true rfl) dL_act_340 rfl ⟨Nat.le_of_ble_eq_true rfl, Nat.le_of_ble_eq_true rfl⟩ rfl (fun z_100 C_101 hp_340 => ?_)
      obtain ⟨hIn_340, hsm_340, hz_340⟩ := hp_340
      refine z_top (b2i (sStale f (lowZ (cV xs L (ka + 2)) 6))) hz_340 ?_
      refine z_wid (kc' := 4) (ks' := 24) (by decide) (by decide) ?_
      exact z_iret K rfl dL_act_343 ⟨_, _, _, hIn_340, PW_t (PW_prt (a := lowZ (cV xs L (ka + 2)) 6) hP hcp) (by unfold kPar; rw [if_neg (by omega)]), act_print (by omega) hw (by omega)⟩
    by_cases sw_51_17 : lowZ (cV xs L ka) 20 = 17
    · skip
      refine z_top (17) sw_51_17 ?_
      refine z_tableIn (tgt := 332) K dL_act_51 (by decide) (by decide) (by decide) rfl (by decide) ?_
      refine z_aload_n 333 K dL_act_332 rfl rfl 4 rfl ?_
      refine z_iload 335 K dL_act_333 rfl 2 rfl ?_
      refine z_bipush 337 K dL_act_335 rfl rfl ?_
      refine z_vSi (As := [.int (iZ (cV xs L (ka + 2))), .int (iZ 6)]) (rest := [.ref (aD g 0)]) 340 K (m_L_low l g _ (cV xs L (ka + 2)) 6 (by omega)) (va_cwS 2 K.1.2.2.2.2 gL_act_L_low rfl rfl rfl (by decide +kernel) ⟨Nat.le_of_ble_eq_true rfl, Nat.le_of_ble_eq_true rfl⟩) rfl (Nat.le_of_ble_eq_true rfl) dL_act_337 rfl ⟨Nat.le_of_ble_eq_true rfl, Nat.le_of_ble_eq_true rfl⟩ rfl (fun z_102 C_103 hp_337 => ?_)
      refine z_C hp_337.1 ?_
      refine z_top (lowZ (cV xs L (ka + 2)) 6) hp_337.2 ?_
      have hl_337 := lowZ_rng (cV xs L (ka + 2)) (n := 6) (by omega)
      refine z_vVi (As := [.int (iZ (lowZ (cV xs L (ka + 2)) 6))]) (rest := []) 343 K 0 (by decide) gMa rfl rfl (a_X8_print l g _ (lowZ (cV xs L (ka + 2)) 6) _ _ _ _ _ _ hI hP (by omega) (by unfold kPar; rw [if_neg (by omega)])) (cwV 1 K.1.2.2.2.2 gL_act_X8_print rfl rfl rfl (by decide +kernel) ⟨Nat.le_of_ble_eq_true rfl, Nat.le_of_ble_eq_true rfl⟩) rfl (Nat.le_of_ble_eq_true rfl) dL_act_340 rfl ⟨Nat.le_of_ble_eq_true rfl, Nat.le_of_ble_eq_true rfl⟩ rfl (fun z_104 C_105 hp_340 => ?_)
      obtain ⟨hIn_340, hsm_340, hz_340⟩ := hp_340
      refine z_top (b2i (sStale f (lowZ (cV xs L (ka + 2)) 6))) hz_340 ?_
      refine z_wid (kc' := 4) (ks' := 24) (by decide) (by decide) ?_
      exact z_iret K rfl dL_act_343 ⟨_, _, _, hIn_340, PW_t (PW_prt (a := lowZ (cV xs L (ka + 2)) 6) hP hcp) (by unfold kPar; rw [if_neg (by omega)]), act_print (by omega) hw (by omega)⟩
    by_cases sw_51_18 : lowZ (cV xs L ka) 20 = 18
    · skip
      refine z_top (18) sw_51_18 ?_
      refine z_tableIn (tgt := 344) K dL_act_51 (by decide) (by decide) (by decide) rfl (by decide) ?_
      refine z_aload_n 345 K dL_act_344 rfl rfl 4 rfl ?_
      refine z_bipush 347 K dL_act_345 rfl rfl ?_
      refine z_iload 349 K dL_act_347 rfl 2 rfl ?_
      refine z_sipush 352 K dL_act_349 rfl rfl ?_
      refine z_vSi (As := [.int (iZ (cV xs L (ka + 2))), .int (iZ 191)]) (rest := [.int (iZ 10), .ref (aD g 0)]) 355 K (m_L_low l g _ (cV xs L (ka + 2)) 191 (by omega)) (va_cwS 2 K.1.2.2.2.2 gL_act_L_low rfl rfl rfl (by decide +kernel) ⟨Nat.le_of_ble_eq_true rfl, Nat.le_of_ble_eq_true rfl⟩) rfl (Nat.le_of_ble_eq_true rfl) dL_act_352 rfl ⟨Nat.le_of_ble_eq_true rfl, Nat.le_of_ble_eq_true rfl⟩ rfl (fun z_106 C_107 hp_352 => ?_)
      refine z_C hp_352.1 ?_
      refine z_top (lowZ (cV xs L (ka + 2)) 191) hp_352.2 ?_
      have hl_352 := lowZ_rng (cV xs L (ka + 2)) (n := 191) (by omega)
      refine z_iadd 356 K dL_act_355 rfl ?_
      refine z_top (lowZ (cV xs L (ka + 2)) 191 + 10) (by omega) ?_
      refine z_vVi (As := [.int (iZ (lowZ (cV xs L (ka + 2)) 191 + 10))]) (rest := []) 359 K 0 (by decide) gMa rfl rfl (a_X8_set l g _ (lowZ (cV xs L (ka + 2)) 191 + 10) _ _ _ _ _ _ hI hP (by omega) (by unfold kSet; rw [if_neg (by omega)])) (cwV 1 K.1.2.2.2.2 gL_act_X8_set rfl rfl rfl (by decide +kernel) ⟨Nat.le_of_ble_eq_true rfl, Nat.le_of_ble_eq_true rfl⟩) rfl (Nat.le_of_ble_eq_true rfl) dL_act_356 rfl ⟨Nat.le_of_ble_eq_true rfl, Nat.le_of_ble_eq_true rfl⟩ rfl (fun z_108 C_109 hp_356 => ?_)
      obtain ⟨hIn_356, hsm_356, hz_356⟩ := hp_356
      refine z_top (f 0) hz_356 ?_
      refine z_wid (kc' := 4) (ks' := 24) (by decide) (by decide) ?_
      exact z_iret K rfl dL_act_359 ⟨_, _, _, hIn_356, PW_t (PW_set (y := lowZ (cV xs L (ka + 2)) 191 + 10) hP hcp) (by unfold kSet; rw [if_neg (by omega)]), act_pl (by omega) (by omega)⟩
    refine z_tableOut (tgt := 360) K dL_act_51 (by omega) (by omega) (by decide) ?_
    refine z_aload_n 361 K dL_act_360 rfl rfl 4 rfl ?_
    refine z_vT (As := [.ref (aD g 0)]) (rest := []) 364 K hNc (w_L_undo l g _ _ _ _ _ _ _ hI hP (kUnd_ok k) hlt) (vx_cwSW 1 K.1.2.2.2.2 gL_act_L_undo rfl rfl rfl (by decide +kernel) ⟨Nat.le_of_ble_eq_true rfl, Nat.le_of_ble_eq_true rfl⟩) rfl (Nat.le_of_ble_eq_true rfl) dL_act_361 rfl ⟨Nat.le_of_ble_eq_true rfl, Nat.le_of_ble_eq_true rfl⟩ rfl (fun z_110 C_111 hp_361 => ?_)
    obtain ⟨hIn_361, hz_361⟩ := hp_361
    refine z_top ((if kUnd k = 0 then k - 1 else (-3))) hz_361 ?_
    refine z_wid (kc' := 4) (ks' := 24) (by decide) (by decide) ?_
    exact z_iret K rfl dL_act_364 ⟨_, _, past, hIn_361, PW_und hP hcp, act_if2 (fun hk0 => act_pl (by omega) (by have q := kUnd_0 hk0; omega)) (fun _ => act_no (by omega) (by omega))⟩
  refine z_if_ne (tgt := 33) 29 K dL_act_26 rfl (by decide) (by omega) (fun c_26 => ?_) (fun c_26 => ?_)
  · skip
    refine z_iload_n 34 K dL_act_33 rfl rfl 2 rfl ?_
    refine z_iload 36 K dL_act_34 rfl 0 rfl ?_
    refine z_vSi (As := [.int (iZ (cV xs L (ka + 1))), .int (iZ (f 1))]) (rest := []) 39 K (m_L_low l g _ (cV xs L (ka + 1)) (f 1) (by omega)) (va_cwS 2 K.1.2.2.2.2 gL_act_L_low rfl rfl rfl (by decide +kernel) ⟨Nat.le_of_ble_eq_true rfl, Nat.le_of_ble_eq_true rfl⟩) rfl (Nat.le_of_ble_eq_true rfl) dL_act_36 rfl ⟨Nat.le_of_ble_eq_true rfl, Nat.le_of_ble_eq_true rfl⟩ rfl (fun z_112 C_113 hp_36 => ?_)
    refine z_C hp_36.1 ?_
    refine z_top (lowZ (cV xs L (ka + 1)) (f 1)) hp_36.2 ?_
    have hl_36 := lowZ_rng (cV xs L (ka + 1)) (n := f 1) (by omega)
    exact join_39_j_7 (lowZ (cV xs L (ka + 1)) (f 1)) (by omega)
  · skip
    refine z_iconst 30 K dL_act_29 rfl ?_
    refine z_goto (tgt := 39) K dL_act_30 (by decide) ?_
    exact join_39_j_7 0 (by omega)
end ZLA
