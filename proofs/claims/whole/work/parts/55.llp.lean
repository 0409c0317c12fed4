/-! the law's loop -/
section ZLL
set_option maxHeartbeats 40000000 in
set_option maxRecDepth 100000 in
theorem law_loop {p : Program} {l : Launch} {e : Env} {s : State} {m : MethodId} {args : Array Value} {below : List Frame} {meth : Method} {c : Code} {Q : State → Prop} {g : zG} (K : zF p m meth c cL_law 9 (some .boolean) s args wsL_law RL g) (hNc : zNcs s) (hlt : l.stackTraces = false) {b L : Nat} {xs : Nat → Int32} (hX : va_X b L xs s s.heap) (hbl : b < s.heap.size) (hbA : ¬ zA g b) (hL : L ≤ 2048)
    (hend : ∀ (C2 : Nat → va_E) (lv2 : List (Nat × Value)) (kc2 ks2 : Nat), kc2 ≤ 601024 → ks2 ≤ 7293034 → Z p l e room_1 s m args below meth c Q g 9 kc2 ks2 C2 lv2 1619 []) :
    ∀ (n9 : Nat) (C9 : Nat → va_E) (f ft past tx td : Int → Int) (o9 : Nat → Int64) (k ty th pt fl to cap iz : Int) (kc9 ks9 : Nat), (IW g C9 f k past ty tx) → (PW cap f k past ty tx) → (C9 94 = .inr (9, [.ref (aD g 95), .ref (aD g 96), .ref (aD g 97), .int (iZ k), .ref (aD g 98), .int (iZ ty), .int (iZ th), .int (iZ pt), .int (iZ fl), .ref (aD g 99), .int (iZ to)])) → (C9 95 = eI g 449 f) → (C9 96 = eI g 449 ft) → (C9 97 = eI g 2694 past) → (C9 98 = eI g 60 tx) → (C9 99 = eI g 12 td) → (C9 100 = eJ g 1 o9) → (Rg td) → (iz = 4 * cap ∧ 0 ≤ cap ∧ iz ≤ (L : Int)) → (kc9 ≤ 1000 + 4 * cap.toNat ∧ ks9 ≤ 20000 + 24 * cap.toNat) → ((L : Int) - iz < (n9 : Int)) → Z p l e room_1 s m args below meth c Q g 9 kc9 ks9 C9 [(0, .ref b), (1, .ref (aD g 0)), (2, .ref (aD g 94)), (3, .ref (aD g 100)), (4, .int (iZ iz))] 23 [] := by
  intro n9
  induction n9 with
  | zero =>
    intro C9 f ft past tx td o9 k ty th pt fl to cap iz kc9 ks9 hI hP h94 h95 h96 h97 h98 h99 h100 hRt hiz hkc hm9
    exact absurd hm9 (by omega)
  | succ n9 IH =>
    intro C9 f ft past tx td o9 k ty th pt fl to cap iz kc9 ks9 hI hP h94 h95 h96 h97 h98 h99 h100 hRt hiz hkc hm_23
    obtain ⟨⟨gMa, -⟩, -, -, -, -, -⟩ := id hI
    have hcap9 : cap ≤ 100000 := hP.2.2.2.2.2.2.2
    have hty9 := hP.2.2.2.1
    refine z_iload 25 K dL_law_23 rfl 4 rfl ?_
    refine z_aload_n 26 K dL_law_25 rfl rfl 0 rfl ?_
    refine z_slen 27 K hX hbl hbA dL_law_26 rfl ?_
    refine z_iconst 28 K dL_law_27 rfl ?_
    refine z_isub 29 K dL_law_28 rfl ?_
    refine z_icmp_gt (tgt := 1619) 32 K dL_law_29 rfl (by decide) (by omega) (by omega) (fun c_29 => ?_) (fun c_29 => ?_)
    · skip
      exact hend C9 _ kc9 ks9 (by omega) (by omega)
    · skip
      have hcp : cap + 1 ≤ 100000 := by omega
      obtain ⟨p1, hp1⟩ : ∃ z, z = xI xs (iz + 1) := ⟨_, rfl⟩
      obtain ⟨p2, hp2⟩ : ∃ z, z = xI xs (iz + 2) := ⟨_, rfl⟩
      obtain ⟨p3, hp3⟩ : ∃ z, z = xI xs (iz + 3) := ⟨_, rfl⟩
      have hr1 : -2147483648 ≤ p1 ∧ p1 < 2147483648 := by rw [hp1]; exact xI_rng _ _
      have hr2 : -2147483648 ≤ p2 ∧ p2 < 2147483648 := by rw [hp2]; exact xI_rng _ _
      have hr3 : -2147483648 ≤ p3 ∧ p3 < 2147483648 := by rw [hp3]; exact xI_rng _ _
      refine z_aload_n 33 K dL_law_32 rfl rfl 0 rfl ?_
      refine z_iload 35 K dL_law_33 rfl 4 rfl ?_
      refine z_sld 36 K hX hbl hbA (by omega) (by omega) (by omega) dL_law_35 rfl ?_
      refine z_bipush 38 K dL_law_36 rfl rfl ?_
      obtain ⟨sw9, hsw9⟩ : ∃ z : Int, (iZ (xI xs iz)) &&& (iZ 31) = iZ z ∧ (-2147483648 ≤ z ∧ z < 2147483648) := ⟨_, iZ_of _, iZ_rng _⟩
      have hsr9 := hsw9.2
      refine z_iand 39 K dL_law_38 rfl ?_
      refine z_raw (sw9) hsw9.1 ?_
      by_cases sw_39_0 : sw9 = 0
      · skip
        refine z_top (0) sw_39_0 ?_
        refine z_tableIn (tgt := 156) K dL_law_39 (by decide) (by decide) (by decide) rfl (by decide) ?_
        have hk9_0 : 0 ≤ kIns f p1 p2 ∧ kIns f p1 p2 ≤ 3 := kIns_b f p1 p2
        refine z_aload_n 157 K dL_law_156 rfl rfl 1 rfl ?_
        refine z_aload_n 158 K dL_law_157 rfl rfl 0 rfl ?_
        refine z_iload 160 K dL_law_158 rfl 4 rfl ?_
        refine z_iconst 161 K dL_law_160 rfl ?_
        refine z_iadd 162 K dL_law_161 rfl ?_
        refine z_sld 163 K hX hbl hbA (by omega) (by omega) (by omega) dL_law_162 rfl ?_
        refine z_top (p1) hp1.symm ?_
        refine z_aload_n 164 K dL_law_163 rfl rfl 0 rfl ?_
        refine z_iload 166 K dL_law_164 rfl 4 rfl ?_
        refine z_iconst 167 K dL_law_166 rfl ?_
        refine z_iadd 168 K dL_law_167 rfl ?_
        refine z_sld 169 K hX hbl hbA (by omega) (by omega) (by omega) dL_law_168 rfl ?_
        refine z_top (p2) hp2.symm ?_
        refine z_aload_n 170 K dL_law_169 rfl rfl 3 rfl ?_
        refine z_vT (As := [.ref (aD g 0), .int (iZ p1), .int (iZ p2), .ref (aD g 100)]) (rest := []) 173 K hNc (w_L_insert l g _ p1 p2 o9 _ _ _ _ _ _ h100 hI hP (by omega) (by omega) hlt) (vx_cwSW 4 K.1.2.2.2.2 gL_law_L_insert rfl rfl rfl (by decide +kernel) ⟨Nat.le_of_ble_eq_true rfl, Nat.le_of_ble_eq_true rfl⟩) rfl (Nat.le_of_ble_eq_true rfl) dL_law_170 rfl (law_hf (cap := cap) ⟨by omega, by omega⟩ (by omega) (by omega) (by decide) (by decide)) rfl (fun z_1 C_2 hp_170 => ?_)
        obtain ⟨hIn_170, hsm_170, ⟨o2_3, hO_170, hov_170⟩, hz_170⟩ := hp_170
        refine z_top (kIns f p1 p2) hz_170 ?_
        have hf_170_94 : C_2 94 = .inr (9, [.ref (aD g 95), .ref (aD g 96), .ref (aD g 97), .int (iZ k), .ref (aD g 98), .int (iZ ty), .int (iZ th), .int (iZ pt), .int (iZ fl), .ref (aD g 99), .int (iZ to)]) := (hsm_170 94 (by omega) (by omega)).trans h94
        have hf_170_95 : C_2 95 = eI g 449 f := (hsm_170 95 (by omega) (by omega)).trans h95
        have hf_170_96 : C_2 96 = eI g 449 ft := (hsm_170 96 (by omega) (by omega)).trans h96
        have hf_170_97 : C_2 97 = eI g 2694 past := (hsm_170 97 (by omega) (by omega)).trans h97
        have hf_170_98 : C_2 98 = eI g 60 tx := (hsm_170 98 (by omega) (by omega)).trans h98
        have hf_170_99 : C_2 99 = eI g 12 td := (hsm_170 99 (by omega) (by omega)).trans h99
        refine z_istore (lv' := [(5, .int (iZ (kIns f p1 p2))), (0, .ref b), (1, .ref (aD g 0)), (2, .ref (aD g 94)), (3, .ref (aD g 100)), (4, .int (iZ iz))]) 175 K dL_law_173 rfl (by decide) rfl ?_
        refine z_aload_n 176 K dL_law_175 rfl rfl 3 rfl ?_
        refine z_aload_n 177 K dL_law_176 rfl rfl 1 rfl ?_
        refine z_iload 179 K dL_law_177 rfl 5 rfl ?_
        refine z_iconst 180 K dL_law_179 rfl ?_
        refine z_iadd 181 K dL_law_180 rfl ?_
        refine z_sld 182 K hX hbl hbA (by omega) (by omega) (by omega) dL_law_181 rfl ?_
        refine z_top (p1) hp1.symm ?_
        refine z_aload_n 183 K dL_law_182 rfl rfl 1 rfl ?_
        refine z_iload 185 K dL_law_183 rfl 5 rfl ?_
        refine z_iconst 186 K dL_law_185 rfl ?_
        refine z_iadd 187 K dL_law_186 rfl ?_
        refine z_sld 188 K hX hbl hbA (by omega) (by omega) (by omega) dL_law_187 rfl ?_
        refine z_top (p2) hp2.symm ?_
        refine z_vVi (As := [.int (iZ p1), .int (iZ p2)]) (rest := []) 191 K 94 (by decide) hf_170_94 rfl rfl (m_X9_insert l g _ p1 p2 k ty th pt fl to f past _ hf_170_94 hf_170_95 hf_170_97 hP.2.1 hP.1 (by omega) (by omega)) (cwV 2 K.1.2.2.2.2 gL_law_X9_insert rfl rfl rfl (by decide +kernel) ⟨Nat.le_of_ble_eq_true rfl, Nat.le_of_ble_eq_true rfl⟩) rfl (Nat.le_of_ble_eq_true rfl) dL_law_188 rfl (law_hf (cap := cap) ⟨by omega, by omega⟩ (by omega) (by omega) (by decide) (by decide)) rfl (fun z_4 C_5 hp_188 => ?_)
        refine z_C hp_188.1 ?_
        refine z_top (if kIns f p1 p2 = 0 then f 2 else 0) hp_188.2 ?_
        refine z_istore (lv' := [(6, .int (iZ (if kIns f p1 p2 = 0 then f 2 else 0))), (5, .int (iZ (kIns f p1 p2))), (0, .ref b), (1, .ref (aD g 0)), (2, .ref (aD g 94)), (3, .ref (aD g 100)), (4, .int (iZ iz))]) 193 K dL_law_191 rfl (by decide) rfl ?_
        refine z_aload_n 194 K dL_law_193 rfl rfl 4 rfl ?_
        refine z_vVi (As := []) (rest := []) 197 K 94 (by decide) ((va_up_ne _ _ (by decide)).trans (va_up_eq _ 94 _)) rfl rfl (m_X9_thrown l g _ (if kIns f p1 p2 = 0 then mKp k + 1 else k) ty (kIns f p1 p2) pt fl to ((va_up_ne _ _ (by decide)).trans (va_up_eq _ 94 _))) (cwV 0 K.1.2.2.2.2 gL_law_X9_thrown rfl rfl rfl (by decide +kernel) ⟨Nat.le_of_ble_eq_true rfl, Nat.le_of_ble_eq_true rfl⟩) rfl (Nat.le_of_ble_eq_true rfl) dL_law_194 rfl (law_hf (cap := cap) ⟨by omega, by omega⟩ (by omega) (by omega) (by decide) (by decide)) rfl (fun z_6 C_7 hp_194 => ?_)
        refine z_C hp_194.1 ?_
        refine z_top (kIns f p1 p2) hp_194.2 ?_
        refine z_iload 199 K dL_law_197 rfl 1 rfl ?_
        refine z_icmp_eq (tgt := 204) 202 K dL_law_199 rfl (by decide) (by omega) (by omega) (fun c_199 => ?_) (fun c_199 => ?_)
        · skip
          refine z_iload 206 K dL_law_204 rfl 1 rfl ?_
          refine z_if_ne (tgt := 221) 209 K dL_law_206 rfl (by decide) (by omega) (fun c_206 => ?_) (fun c_206 => ?_)
          · skip
            refine z_goto (tgt := 1613) K dL_law_221 (by decide) ?_
            refine z_iinc (lv' := [(4, .int (iZ (iz + 4))), (6, .int (iZ (if kIns f p1 p2 = 0 then f 2 else 0))), (5, .int (iZ (kIns f p1 p2))), (0, .ref b), (1, .ref (aD g 0)), (2, .ref (aD g 94)), (3, .ref (aD g 100))]) 1616 K dL_law_1613 rfl (iz + 4) rfl 6 rfl (by decide) rfl ?_
            refine z_goto (tgt := 23) K dL_law_1616 (by decide) ?_
            refine z_sub [3, 4, 5, 6, 0] rfl ?_
            refine z_wid (kc' := (kc9 + 3)) (ks' := (ks9 + 18)) (by omega) (by omega) ?_
            exact IH (va_up (va_up (va_up C_2 97 (eI g 2694 (if kIns f p1 p2 = 0 then mSav f past k else past))) 94 (.inr (9, [.ref (aD g 95), .ref (aD g 96), .ref (aD g 97), .int (iZ (if kIns f p1 p2 = 0 then mKp k + 1 else k)), .ref (aD g 98), .int (iZ ty), .int (iZ (kIns f p1 p2)), .int (iZ pt), .int (iZ fl), .ref (aD g 99), .int (iZ to)]))) 95 (eI g 449 (if kIns f p1 p2 = 0 then mCome f p1 p2 else f))) (if kIns f p1 p2 = 0 then mCome f p1 p2 else f) ft (if kIns f p1 p2 = 0 then mSav f past k else past) tx td o2_3 (if kIns f p1 p2 = 0 then mKp k + 1 else k) ty (kIns f p1 p2) pt fl to (cap + 1) (iz + 4) (kc9 + 3) (ks9 + 18) (IW_cong hIn_170 (fun q hq => ((va_up_ne _ _ (by omega)).trans ((va_up_ne _ _ (by omega)).trans ((va_up_ne _ _ (by omega)).trans rfl))))) (PW_ins hP hcp) ((va_up_ne _ _ (by decide)).trans (va_up_eq _ 94 _)) (va_up_eq _ 95 _) ((va_up_ne _ _ (by decide)).trans ((va_up_ne _ _ (by decide)).trans ((va_up_ne _ _ (by decide)).trans hf_170_96))) ((va_up_ne _ _ (by decide)).trans ((va_up_ne _ _ (by decide)).trans (va_up_eq _ 97 _))) ((va_up_ne _ _ (by decide)).trans ((va_up_ne _ _ (by decide)).trans ((va_up_ne _ _ (by decide)).trans hf_170_98))) ((va_up_ne _ _ (by decide)).trans ((va_up_ne _ _ (by decide)).trans ((va_up_ne _ _ (by decide)).trans hf_170_99))) ((va_up_ne _ _ (by decide)).trans ((va_up_ne _ _ (by decide)).trans ((va_up_ne _ _ (by decide)).trans hO_170))) hRt (by omega) (by omega) (by omega)
          · skip
            refine z_aload_n 210 K dL_law_209 rfl rfl 5 rfl ?_
            refine z_iconst 211 K dL_law_210 rfl ?_
            refine z_lald (f := o2_3) 212 K 100 (by decide) ((va_up_ne _ _ (by decide)).trans ((va_up_ne _ _ (by decide)).trans ((va_up_ne _ _ (by decide)).trans hO_170))) (by decide) (by decide) (by decide) dL_law_211 rfl ?_
            refine z_iload 214 K dL_law_212 rfl 0 rfl ?_
            refine z_i2l 215 K dL_law_214 rfl ?_
            refine z_lcmp 216 K dL_law_215 rfl (fun v_215 hv_215 hr_215 => ?_)
            refine z_if_eq (tgt := 221) 219 K dL_law_216 rfl (by decide) (by omega) (fun c_216 => ?_) (fun c_216 => ?_)
            · skip
              refine z_goto (tgt := 1613) K dL_law_221 (by decide) ?_
              refine z_iinc (lv' := [(4, .int (iZ (iz + 4))), (6, .int (iZ (if kIns f p1 p2 = 0 then f 2 else 0))), (5, .int (iZ (kIns f p1 p2))), (0, .ref b), (1, .ref (aD g 0)), (2, .ref (aD g 94)), (3, .ref (aD g 100))]) 1616 K dL_law_1613 rfl (iz + 4) rfl 6 rfl (by decide) rfl ?_
              refine z_goto (tgt := 23) K dL_law_1616 (by decide) ?_
              refine z_sub [3, 4, 5, 6, 0] rfl ?_
              refine z_wid (kc' := (kc9 + 3)) (ks' := (ks9 + 18)) (by omega) (by omega) ?_
              exact IH (va_up (va_up (va_up C_2 97 (eI g 2694 (if kIns f p1 p2 = 0 then mSav f past k else past))) 94 (.inr (9, [.ref (aD g 95), .ref (aD g 96), .ref (aD g 97), .int (iZ (if kIns f p1 p2 = 0 then mKp k + 1 else k)), .ref (aD g 98), .int (iZ ty), .int (iZ (kIns f p1 p2)), .int (iZ pt), .int (iZ fl), .ref (aD g 99), .int (iZ to)]))) 95 (eI g 449 (if kIns f p1 p2 = 0 then mCome f p1 p2 else f))) (if kIns f p1 p2 = 0 then mCome f p1 p2 else f) ft (if kIns f p1 p2 = 0 then mSav f past k else past) tx td o2_3 (if kIns f p1 p2 = 0 then mKp k + 1 else k) ty (kIns f p1 p2) pt fl to (cap + 1) (iz + 4) (kc9 + 3) (ks9 + 18) (IW_cong hIn_170 (fun q hq => ((va_up_ne _ _ (by omega)).trans ((va_up_ne _ _ (by omega)).trans ((va_up_ne _ _ (by omega)).trans rfl))))) (PW_ins hP hcp) ((va_up_ne _ _ (by decide)).trans (va_up_eq _ 94 _)) (va_up_eq _ 95 _) ((va_up_ne _ _ (by decide)).trans ((va_up_ne _ _ (by decide)).trans ((va_up_ne _ _ (by decide)).trans hf_170_96))) ((va_up_ne _ _ (by decide)).trans ((va_up_ne _ _ (by decide)).trans (va_up_eq _ 97 _))) ((va_up_ne _ _ (by decide)).trans ((va_up_ne _ _ (by decide)).trans ((va_up_ne _ _ (by decide)).trans hf_170_98))) ((va_up_ne _ _ (by decide)).trans ((va_up_ne _ _ (by decide)).trans ((va_up_ne _ _ (by decide)).trans hf_170_99))) ((va_up_ne _ _ (by decide)).trans ((va_up_ne _ _ (by decide)).trans ((va_up_ne _ _ (by decide)).trans hO_170))) hRt (by omega) (by omega) (by omega)
            · skip
              exact absurd (hv_215.mpr (by rw [show (Int.toNat 0) = 0 by rfl, hov_170 c_206, if_pos c_206])) c_216
        · skip
          exact absurd rfl c_199
      by_cases sw_39_1 : sw9 = 1
      · skip
        refine z_top (1) sw_39_1 ?_
        refine z_tableIn (tgt := 224) K dL_law_39 (by decide) (by decide) (by decide) rfl (by decide) ?_
        have hk9_1 : 0 ≤ kMov f p1 p2 ∧ kMov f p1 p2 ≤ 3 := kMov_b f p1 p2
        refine z_aload_n 225 K dL_law_224 rfl rfl 1 rfl ?_
        refine z_aload_n 226 K dL_law_225 rfl rfl 0 rfl ?_
        refine z_iload 228 K dL_law_226 rfl 4 rfl ?_
        refine z_iconst 229 K dL_law_228 rfl ?_
        refine z_iadd 230 K dL_law_229 rfl ?_
        refine z_sld 231 K hX hbl hbA (by omega) (by omega) (by omega) dL_law_230 rfl ?_
        refine z_top (p1) hp1.symm ?_
        refine z_aload_n 232 K dL_law_231 rfl rfl 0 rfl ?_
        refine z_iload 234 K dL_law_232 rfl 4 rfl ?_
        refine z_iconst 235 K dL_law_234 rfl ?_
        refine z_iadd 236 K dL_law_235 rfl ?_
        refine z_sld 237 K hX hbl hbA (by omega) (by omega) (by omega) dL_law_236 rfl ?_
        refine z_top (p2) hp2.symm ?_
        refine z_aload_n 238 K dL_law_237 rfl rfl 3 rfl ?_
        refine z_vT (As := [.ref (aD g 0), .int (iZ p1), .int (iZ p2), .ref (aD g 100)]) (rest := []) 241 K hNc (w_L_move l g _ p1 p2 o9 _ _ _ _ _ _ h100 hI hP (by omega) (by omega) hlt) (vx_cwSW 4 K.1.2.2.2.2 gL_law_L_move rfl rfl rfl (by decide +kernel) ⟨Nat.le_of_ble_eq_true rfl, Nat.le_of_ble_eq_true rfl⟩) rfl (Nat.le_of_ble_eq_true rfl) dL_law_238 rfl (law_hf (cap := cap) ⟨by omega, by omega⟩ (by omega) (by omega) (by decide) (by decide)) rfl (fun z_8 C_9 hp_238 => ?_)
        obtain ⟨hIn_238, hsm_238, ⟨o2_10, hO_238, hov_238⟩, hz_238⟩ := hp_238
        refine z_top (kMov f p1 p2) hz_238 ?_
        have hf_238_94 : C_9 94 = .inr (9, [.ref (aD g 95), .ref (aD g 96), .ref (aD g 97), .int (iZ k), .ref (aD g 98), .int (iZ ty), .int (iZ th), .int (iZ pt), .int (iZ fl), .ref (aD g 99), .int (iZ to)]) := (hsm_238 94 (by omega) (by omega)).trans h94
        have hf_238_95 : C_9 95 = eI g 449 f := (hsm_238 95 (by omega) (by omega)).trans h95
        have hf_238_96 : C_9 96 = eI g 449 ft := (hsm_238 96 (by omega) (by omega)).trans h96
        have hf_238_97 : C_9 97 = eI g 2694 past := (hsm_238 97 (by omega) (by omega)).trans h97
        have hf_238_98 : C_9 98 = eI g 60 tx := (hsm_238 98 (by omega) (by omega)).trans h98
        have hf_238_99 : C_9 99 = eI g 12 td := (hsm_238 99 (by omega) (by omega)).trans h99
        refine z_istore (lv' := [(5, .int (iZ (kMov f p1 p2))), (0, .ref b), (1, .ref (aD g 0)), (2, .ref (aD g 94)), (3, .ref (aD g 100)), (4, .int (iZ iz))]) 243 K dL_law_241 rfl (by decide) rfl ?_
        refine z_aload_n 244 K dL_law_243 rfl rfl 3 rfl ?_
        refine z_aload_n 245 K dL_law_244 rfl rfl 1 rfl ?_
        refine z_iload 247 K dL_law_245 rfl 5 rfl ?_
        refine z_iconst 248 K dL_law_247 rfl ?_
        refine z_iadd 249 K dL_law_248 rfl ?_
        refine z_sld 250 K hX hbl hbA (by omega) (by omega) (by omega) dL_law_249 rfl ?_
        refine z_top (p1) hp1.symm ?_
        refine z_aload_n 251 K dL_law_250 rfl rfl 1 rfl ?_
        refine z_iload 253 K dL_law_251 rfl 5 rfl ?_
        refine z_iconst 254 K dL_law_253 rfl ?_
        refine z_iadd 255 K dL_law_254 rfl ?_
        refine z_sld 256 K hX hbl hbA (by omega) (by omega) (by omega) dL_law_255 rfl ?_
        refine z_top (p2) hp2.symm ?_
        refine z_vVi (As := [.int (iZ p1), .int (iZ p2)]) (rest := []) 259 K 94 (by decide) hf_238_94 rfl rfl (m_X9_move l g _ p1 p2 k ty th pt fl to f past _ hf_238_94 hf_238_95 hf_238_97 hP.2.1 hP.1 (by omega) (by omega)) (cwV 2 K.1.2.2.2.2 gL_law_X9_move rfl rfl rfl (by decide +kernel) ⟨Nat.le_of_ble_eq_true rfl, Nat.le_of_ble_eq_true rfl⟩) rfl (Nat.le_of_ble_eq_true rfl) dL_law_256 rfl (law_hf (cap := cap) ⟨by omega, by omega⟩ (by omega) (by omega) (by decide) (by decide)) rfl (fun z_11 C_12 hp_256 => ?_)
        refine z_C hp_256.1 ?_
        refine z_top (if kMov f p1 p2 = 0 then f (2 * p1 + 3) else 0) hp_256.2 ?_
        refine z_istore (lv' := [(6, .int (iZ (if kMov f p1 p2 = 0 then f (2 * p1 + 3) else 0))), (5, .int (iZ (kMov f p1 p2))), (0, .ref b), (1, .ref (aD g 0)), (2, .ref (aD g 94)), (3, .ref (aD g 100)), (4, .int (iZ iz))]) 261 K dL_law_259 rfl (by decide) rfl ?_
        refine z_aload_n 262 K dL_law_261 rfl rfl 4 rfl ?_
        refine z_vVi (As := []) (rest := []) 265 K 94 (by decide) ((va_up_ne _ _ (by decide)).trans (va_up_eq _ 94 _)) rfl rfl (m_X9_thrown l g _ (if kMov f p1 p2 = 0 then mKp k + 1 else k) ty (kMov f p1 p2) pt fl to ((va_up_ne _ _ (by decide)).trans (va_up_eq _ 94 _))) (cwV 0 K.1.2.2.2.2 gL_law_X9_thrown rfl rfl rfl (by decide +kernel) ⟨Nat.le_of_ble_eq_true rfl, Nat.le_of_ble_eq_true rfl⟩) rfl (Nat.le_of_ble_eq_true rfl) dL_law_262 rfl (law_hf (cap := cap) ⟨by omega, by omega⟩ (by omega) (by omega) (by decide) (by decide)) rfl (fun z_13 C_14 hp_262 => ?_)
        refine z_C hp_262.1 ?_
        refine z_top (kMov f p1 p2) hp_262.2 ?_
        refine z_iload 267 K dL_law_265 rfl 1 rfl ?_
        refine z_icmp_eq (tgt := 272) 270 K dL_law_267 rfl (by decide) (by omega) (by omega) (fun c_267 => ?_) (fun c_267 => ?_)
        · skip
          refine z_iload 274 K dL_law_272 rfl 1 rfl ?_
          refine z_if_ne (tgt := 289) 277 K dL_law_274 rfl (by decide) (by omega) (fun c_274 => ?_) (fun c_274 => ?_)
          · skip
            refine z_goto (tgt := 1613) K dL_law_289 (by decide) ?_
            refine z_iinc (lv' := [(4, .int (iZ (iz + 4))), (6, .int (iZ (if kMov f p1 p2 = 0 then f (2 * p1 + 3) else 0))), (5, .int (iZ (kMov f p1 p2))), (0, .ref b), (1, .ref (aD g 0)), (2, .ref (aD g 94)), (3, .ref (aD g 100))]) 1616 K dL_law_1613 rfl (iz + 4) rfl 6 rfl (by decide) rfl ?_
            refine z_goto (tgt := 23) K dL_law_1616 (by decide) ?_
            refine z_sub [3, 4, 5, 6, 0] rfl ?_
            refine z_wid (kc' := (kc9 + 2)) (ks' := (ks9 + 12)) (by omega) (by omega) ?_
            exact IH (va_up (va_up (va_up C_9 97 (eI g 2694 (if kMov f p1 p2 = 0 then mSav f past k else past))) 94 (.inr (9, [.ref (aD g 95), .ref (aD g 96), .ref (aD g 97), .int (iZ (if kMov f p1 p2 = 0 then mKp k + 1 else k)), .ref (aD g 98), .int (iZ ty), .int (iZ (kMov f p1 p2)), .int (iZ pt), .int (iZ fl), .ref (aD g 99), .int (iZ to)]))) 95 (eI g 449 (if kMov f p1 p2 = 0 then mMove f p1 p2 else f))) (if kMov f p1 p2 = 0 then mMove f p1 p2 else f) ft (if kMov f p1 p2 = 0 then mSav f past k else past) tx td o2_10 (if kMov f p1 p2 = 0 then mKp k + 1 else k) ty (kMov f p1 p2) pt fl to (cap + 1) (iz + 4) (kc9 + 2) (ks9 + 12) (IW_cong hIn_238 (fun q hq => ((va_up_ne _ _ (by omega)).trans ((va_up_ne _ _ (by omega)).trans ((va_up_ne _ _ (by omega)).trans rfl))))) (PW_mov hP hcp) ((va_up_ne _ _ (by decide)).trans (va_up_eq _ 94 _)) (va_up_eq _ 95 _) ((va_up_ne _ _ (by decide)).trans ((va_up_ne _ _ (by decide)).trans ((va_up_ne _ _ (by decide)).trans hf_238_96))) ((va_up_ne _ _ (by decide)).trans ((va_up_ne _ _ (by decide)).trans (va_up_eq _ 97 _))) ((va_up_ne _ _ (by decide)).trans ((va_up_ne _ _ (by decide)).trans ((va_up_ne _ _ (by decide)).trans hf_238_98))) ((va_up_ne _ _ (by decide)).trans ((va_up_ne _ _ (by decide)).trans ((va_up_ne _ _ (by decide)).trans hf_238_99))) ((va_up_ne _ _ (by decide)).trans ((va_up_ne _ _ (by decide)).trans ((va_up_ne _ _ (by decide)).trans hO_238))) hRt (by omega) (by omega) (by omega)
          · skip
            refine z_aload_n 278 K dL_law_277 rfl rfl 5 rfl ?_
            refine z_iconst 279 K dL_law_278 rfl ?_
            refine z_lald (f := o2_10) 280 K 100 (by decide) ((va_up_ne _ _ (by decide)).trans ((va_up_ne _ _ (by decide)).trans ((va_up_ne _ _ (by decide)).trans hO_238))) (by decide) (by decide) (by decide) dL_law_279 rfl ?_
            refine z_iload 282 K dL_law_280 rfl 0 rfl ?_
            refine z_i2l 283 K dL_law_282 rfl ?_
            refine z_lcmp 284 K dL_law_283 rfl (fun v_283 hv_283 hr_283 => ?_)
            refine z_if_eq (tgt := 289) 287 K dL_law_284 rfl (by decide) (by omega) (fun c_284 => ?_) (fun c_284 => ?_)
            · skip
              refine z_goto (tgt := 1613) K dL_law_289 (by decide) ?_
              refine z_iinc (lv' := [(4, .int (iZ (iz + 4))), (6, .int (iZ (if kMov f p1 p2 = 0 then f (2 * p1 + 3) else 0))), (5, .int (iZ (kMov f p1 p2))), (0, .ref b), (1, .ref (aD g 0)), (2, .ref (aD g 94)), (3, .ref (aD g 100))]) 1616 K dL_law_1613 rfl (iz + 4) rfl 6 rfl (by decide) rfl ?_
              refine z_goto (tgt := 23) K dL_law_1616 (by decide) ?_
              refine z_sub [3, 4, 5, 6, 0] rfl ?_
              refine z_wid (kc' := (kc9 + 2)) (ks' := (ks9 + 12)) (by omega) (by omega) ?_
              exact IH (va_up (va_up (va_up C_9 97 (eI g 2694 (if kMov f p1 p2 = 0 then mSav f past k else past))) 94 (.inr (9, [.ref (aD g 95), .ref (aD g 96), .ref (aD g 97), .int (iZ (if kMov f p1 p2 = 0 then mKp k + 1 else k)), .ref (aD g 98), .int (iZ ty), .int (iZ (kMov f p1 p2)), .int (iZ pt), .int (iZ fl), .ref (aD g 99), .int (iZ to)]))) 95 (eI g 449 (if kMov f p1 p2 = 0 then mMove f p1 p2 else f))) (if kMov f p1 p2 = 0 then mMove f p1 p2 else f) ft (if kMov f p1 p2 = 0 then mSav f past k else past) tx td o2_10 (if kMov f p1 p2 = 0 then mKp k + 1 else k) ty (kMov f p1 p2) pt fl to (cap + 1) (iz + 4) (kc9 + 2) (ks9 + 12) (IW_cong hIn_238 (fun q hq => ((va_up_ne _ _ (by omega)).trans ((va_up_ne _ _ (by omega)).trans ((va_up_ne _ _ (by omega)).trans rfl))))) (PW_mov hP hcp) ((va_up_ne _ _ (by decide)).trans (va_up_eq _ 94 _)) (va_up_eq _ 95 _) ((va_up_ne _ _ (by decide)).trans ((va_up_ne _ _ (by decide)).trans ((va_up_ne _ _ (by decide)).trans hf_238_96))) ((va_up_ne _ _ (by decide)).trans ((va_up_ne _ _ (by decide)).trans (va_up_eq _ 97 _))) ((va_up_ne _ _ (by decide)).trans ((va_up_ne _ _ (by decide)).trans ((va_up_ne _ _ (by decide)).trans hf_238_98))) ((va_up_ne _ _ (by decide)).trans ((va_up_ne _ _ (by decide)).trans ((va_up_ne _ _ (by decide)).trans hf_238_99))) ((va_up_ne _ _ (by decide)).trans ((va_up_ne _ _ (by decide)).trans ((va_up_ne _ _ (by decide)).trans hO_238))) hRt (by omega) (by omega) (by omega)
            · skip
              exact absurd (hv_283.mpr (by rw [show (Int.toNat 0) = 0 by rfl, hov_238 c_274, if_pos c_274])) c_284
        · skip
          exact absurd rfl c_267
      by_cases sw_39_2 : sw9 = 2
      · skip
        refine z_top (2) sw_39_2 ?_
        refine z_tableIn (tgt := 292) K dL_law_39 (by decide) (by decide) (by decide) rfl (by decide) ?_
        have hk9_2 : 0 ≤ kPl f p1 ∧ kPl f p1 ≤ 3 := kPl_b f p1
        refine z_aload_n 293 K dL_law_292 rfl rfl 1 rfl ?_
        refine z_aload_n 294 K dL_law_293 rfl rfl 0 rfl ?_
        refine z_iload 296 K dL_law_294 rfl 4 rfl ?_
        refine z_iconst 297 K dL_law_296 rfl ?_
        refine z_iadd 298 K dL_law_297 rfl ?_
        refine z_sld 299 K hX hbl hbA (by omega) (by omega) (by omega) dL_law_298 rfl ?_
        refine z_top (p1) hp1.symm ?_
        refine z_aload_n 300 K dL_law_299 rfl rfl 3 rfl ?_
        refine z_vT (As := [.ref (aD g 0), .int (iZ p1), .ref (aD g 100)]) (rest := []) 303 K hNc (w_L_drop l g _ p1 o9 _ _ _ _ _ _ h100 hI hP (by omega) hlt) (vx_cwSW 3 K.1.2.2.2.2 gL_law_L_drop rfl rfl rfl (by decide +kernel) ⟨Nat.le_of_ble_eq_true rfl, Nat.le_of_ble_eq_true rfl⟩) rfl (Nat.le_of_ble_eq_true rfl) dL_law_300 rfl (law_hf (cap := cap) ⟨by omega, by omega⟩ (by omega) (by omega) (by decide) (by decide)) rfl (fun z_15 C_16 hp_300 => ?_)
        obtain ⟨hIn_300, hsm_300, ⟨o2_17, hO_300, hov_300⟩, hz_300⟩ := hp_300
        refine z_top (kPl f p1) hz_300 ?_
        have hf_300_94 : C_16 94 = .inr (9, [.ref (aD g 95), .ref (aD g 96), .ref (aD g 97), .int (iZ k), .ref (aD g 98), .int (iZ ty), .int (iZ th), .int (iZ pt), .int (iZ fl), .ref (aD g 99), .int (iZ to)]) := (hsm_300 94 (by omega) (by omega)).trans h94
        have hf_300_95 : C_16 95 = eI g 449 f := (hsm_300 95 (by omega) (by omega)).trans h95
        have hf_300_96 : C_16 96 = eI g 449 ft := (hsm_300 96 (by omega) (by omega)).trans h96
        have hf_300_97 : C_16 97 = eI g 2694 past := (hsm_300 97 (by omega) (by omega)).trans h97
        have hf_300_98 : C_16 98 = eI g 60 tx := (hsm_300 98 (by omega) (by omega)).trans h98
        have hf_300_99 : C_16 99 = eI g 12 td := (hsm_300 99 (by omega) (by omega)).trans h99
        refine z_istore (lv' := [(5, .int (iZ (kPl f p1))), (0, .ref b), (1, .ref (aD g 0)), (2, .ref (aD g 94)), (3, .ref (aD g 100)), (4, .int (iZ iz))]) 305 K dL_law_303 rfl (by decide) rfl ?_
        refine z_aload_n 306 K dL_law_305 rfl rfl 3 rfl ?_
        refine z_aload_n 307 K dL_law_306 rfl rfl 1 rfl ?_
        refine z_iload 309 K dL_law_307 rfl 5 rfl ?_
        refine z_iconst 310 K dL_law_309 rfl ?_
        refine z_iadd 311 K dL_law_310 rfl ?_
        refine z_sld 312 K hX hbl hbA (by omega) (by omega) (by omega) dL_law_311 rfl ?_
        refine z_top (p1) hp1.symm ?_
        refine z_vVi (As := [.int (iZ p1)]) (rest := []) 315 K 94 (by decide) hf_300_94 rfl rfl (m_X9_drop l g _ p1 k ty th pt fl to f past _ hf_300_94 hf_300_95 hf_300_97 hP.2.1 hP.1 (by omega)) (cwV 1 K.1.2.2.2.2 gL_law_X9_drop rfl rfl rfl (by decide +kernel) ⟨Nat.le_of_ble_eq_true rfl, Nat.le_of_ble_eq_true rfl⟩) rfl (Nat.le_of_ble_eq_true rfl) dL_law_312 rfl (law_hf (cap := cap) ⟨by omega, by omega⟩ (by omega) (by omega) (by decide) (by decide)) rfl (fun z_18 C_19 hp_312 => ?_)
        refine z_C hp_312.1 ?_
        refine z_top (if kPl f p1 = 0 then sAllLost (mOut f p1) - sAllLost f else 0) hp_312.2 ?_
        refine z_istore (lv' := [(6, .int (iZ (if kPl f p1 = 0 then sAllLost (mOut f p1) - sAllLost f else 0))), (5, .int (iZ (kPl f p1))), (0, .ref b), (1, .ref (aD g 0)), (2, .ref (aD g 94)), (3, .ref (aD g 100)), (4, .int (iZ iz))]) 317 K dL_law_315 rfl (by decide) rfl ?_
        refine z_aload_n 318 K dL_law_317 rfl rfl 4 rfl ?_
        refine z_vVi (As := []) (rest := []) 321 K 94 (by decide) ((va_up_ne _ _ (by decide)).trans (va_up_eq _ 94 _)) rfl rfl (m_X9_thrown l g _ (if kPl f p1 = 0 then mKp k + 1 else k) ty (kPl f p1) pt fl to ((va_up_ne _ _ (by decide)).trans (va_up_eq _ 94 _))) (cwV 0 K.1.2.2.2.2 gL_law_X9_thrown rfl rfl rfl (by decide +kernel) ⟨Nat.le_of_ble_eq_true rfl, Nat.le_of_ble_eq_true rfl⟩) rfl (Nat.le_of_ble_eq_true rfl) dL_law_318 rfl (law_hf (cap := cap) ⟨by omega, by omega⟩ (by omega) (by omega) (by decide) (by decide)) rfl (fun z_20 C_21 hp_318 => ?_)
        refine z_C hp_318.1 ?_
        refine z_top (kPl f p1) hp_318.2 ?_
        refine z_iload 323 K dL_law_321 rfl 1 rfl ?_
        refine z_icmp_eq (tgt := 328) 326 K dL_law_323 rfl (by decide) (by omega) (by omega) (fun c_323 => ?_) (fun c_323 => ?_)
        · skip
          refine z_iload 330 K dL_law_328 rfl 1 rfl ?_
          refine z_if_ne (tgt := 345) 333 K dL_law_330 rfl (by decide) (by omega) (fun c_330 => ?_) (fun c_330 => ?_)
          · skip
            refine z_goto (tgt := 1613) K dL_law_345 (by decide) ?_
            refine z_iinc (lv' := [(4, .int (iZ (iz + 4))), (6, .int (iZ (if kPl f p1 = 0 then sAllLost (mOut f p1) - sAllLost f else 0))), (5, .int (iZ (kPl f p1))), (0, .ref b), (1, .ref (aD g 0)), (2, .ref (aD g 94)), (3, .ref (aD g 100))]) 1616 K dL_law_1613 rfl (iz + 4) rfl 6 rfl (by decide) rfl ?_
            refine z_goto (tgt := 23) K dL_law_1616 (by decide) ?_
            refine z_sub [3, 4, 5, 6, 0] rfl ?_
            refine z_wid (kc' := (kc9 + 1)) (ks' := (ks9 + 6)) (by omega) (by omega) ?_
            exact IH (va_up (va_up (va_up C_16 97 (eI g 2694 (if kPl f p1 = 0 then mSav f past k else past))) 94 (.inr (9, [.ref (aD g 95), .ref (aD g 96), .ref (aD g 97), .int (iZ (if kPl f p1 = 0 then mKp k + 1 else k)), .ref (aD g 98), .int (iZ ty), .int (iZ (kPl f p1)), .int (iZ pt), .int (iZ fl), .ref (aD g 99), .int (iZ to)]))) 95 (eI g 449 (if kPl f p1 = 0 then mOut f p1 else f))) (if kPl f p1 = 0 then mOut f p1 else f) ft (if kPl f p1 = 0 then mSav f past k else past) tx td o2_17 (if kPl f p1 = 0 then mKp k + 1 else k) ty (kPl f p1) pt fl to (cap + 1) (iz + 4) (kc9 + 1) (ks9 + 6) (IW_cong hIn_300 (fun q hq => ((va_up_ne _ _ (by omega)).trans ((va_up_ne _ _ (by omega)).trans ((va_up_ne _ _ (by omega)).trans rfl))))) (PW_drp hP hcp) ((va_up_ne _ _ (by decide)).trans (va_up_eq _ 94 _)) (va_up_eq _ 95 _) ((va_up_ne _ _ (by decide)).trans ((va_up_ne _ _ (by decide)).trans ((va_up_ne _ _ (by decide)).trans hf_300_96))) ((va_up_ne _ _ (by decide)).trans ((va_up_ne _ _ (by decide)).trans (va_up_eq _ 97 _))) ((va_up_ne _ _ (by decide)).trans ((va_up_ne _ _ (by decide)).trans ((va_up_ne _ _ (by decide)).trans hf_300_98))) ((va_up_ne _ _ (by decide)).trans ((va_up_ne _ _ (by decide)).trans ((va_up_ne _ _ (by decide)).trans hf_300_99))) ((va_up_ne _ _ (by decide)).trans ((va_up_ne _ _ (by decide)).trans ((va_up_ne _ _ (by decide)).trans hO_300))) hRt (by omega) (by omega) (by omega)
          · skip
            refine z_aload_n 334 K dL_law_333 rfl rfl 5 rfl ?_
            refine z_iconst 335 K dL_law_334 rfl ?_
            refine z_lald (f := o2_17) 336 K 100 (by decide) ((va_up_ne _ _ (by decide)).trans ((va_up_ne _ _ (by decide)).trans ((va_up_ne _ _ (by decide)).trans hO_300))) (by decide) (by decide) (by decide) dL_law_335 rfl ?_
            refine z_iload 338 K dL_law_336 rfl 0 rfl ?_
            refine z_i2l 339 K dL_law_338 rfl ?_
            refine z_lcmp 340 K dL_law_339 rfl (fun v_339 hv_339 hr_339 => ?_)
            refine z_if_eq (tgt := 345) 343 K dL_law_340 rfl (by decide) (by omega) (fun c_340 => ?_) (fun c_340 => ?_)
            · skip
              refine z_goto (tgt := 1613) K dL_law_345 (by decide) ?_
              refine z_iinc (lv' := [(4, .int (iZ (iz + 4))), (6, .int (iZ (if kPl f p1 = 0 then sAllLost (mOut f p1) - sAllLost f else 0))), (5, .int (iZ (kPl f p1))), (0, .ref b), (1, .ref (aD g 0)), (2, .ref (aD g 94)), (3, .ref (aD g 100))]) 1616 K dL_law_1613 rfl (iz + 4) rfl 6 rfl (by decide) rfl ?_
              refine z_goto (tgt := 23) K dL_law_1616 (by decide) ?_
              refine z_sub [3, 4, 5, 6, 0] rfl ?_
              refine z_wid (kc' := (kc9 + 1)) (ks' := (ks9 + 6)) (by omega) (by omega) ?_
              exact IH (va_up (va_up (va_up C_16 97 (eI g 2694 (if kPl f p1 = 0 then mSav f past k else past))) 94 (.inr (9, [.ref (aD g 95), .ref (aD g 96), .ref (aD g 97), .int (iZ (if kPl f p1 = 0 then mKp k + 1 else k)), .ref (aD g 98), .int (iZ ty), .int (iZ (kPl f p1)), .int (iZ pt), .int (iZ fl), .ref (aD g 99), .int (iZ to)]))) 95 (eI g 449 (if kPl f p1 = 0 then mOut f p1 else f))) (if kPl f p1 = 0 then mOut f p1 else f) ft (if kPl f p1 = 0 then mSav f past k else past) tx td o2_17 (if kPl f p1 = 0 then mKp k + 1 else k) ty (kPl f p1) pt fl to (cap + 1) (iz + 4) (kc9 + 1) (ks9 + 6) (IW_cong hIn_300 (fun q hq => ((va_up_ne _ _ (by omega)).trans ((va_up_ne _ _ (by omega)).trans ((va_up_ne _ _ (by omega)).trans rfl))))) (PW_drp hP hcp) ((va_up_ne _ _ (by decide)).trans (va_up_eq _ 94 _)) (va_up_eq _ 95 _) ((va_up_ne _ _ (by decide)).trans ((va_up_ne _ _ (by decide)).trans ((va_up_ne _ _ (by decide)).trans hf_300_96))) ((va_up_ne _ _ (by decide)).trans ((va_up_ne _ _ (by decide)).trans (va_up_eq _ 97 _))) ((va_up_ne _ _ (by decide)).trans ((va_up_ne _ _ (by decide)).trans ((va_up_ne _ _ (by decide)).trans hf_300_98))) ((va_up_ne _ _ (by decide)).trans ((va_up_ne _ _ (by decide)).trans ((va_up_ne _ _ (by decide)).trans hf_300_99))) ((va_up_ne _ _ (by decide)).trans ((va_up_ne _ _ (by decide)).trans ((va_up_ne _ _ (by decide)).trans hO_300))) hRt (by omega) (by omega) (by omega)
            · skip
              exact absurd (hv_339.mpr (by rw [show (Int.toNat 0) = 0 by rfl, hov_300 c_330, if_pos c_330])) c_340
        · skip
          exact absurd rfl c_323
      by_cases sw_39_3 : sw9 = 3
      · skip
        refine z_top (3) sw_39_3 ?_
        refine z_tableIn (tgt := 348) K dL_law_39 (by decide) (by decide) (by decide) rfl (by decide) ?_
        have hk9_3 : 0 ≤ kPgs f p1 p2 ∧ kPgs f p1 p2 ≤ 3 := kPgs_b f p1 p2
        refine z_aload_n 349 K dL_law_348 rfl rfl 1 rfl ?_
        refine z_aload_n 350 K dL_law_349 rfl rfl 0 rfl ?_
        refine z_iload 352 K dL_law_350 rfl 4 rfl ?_
        refine z_iconst 353 K dL_law_352 rfl ?_
        refine z_iadd 354 K dL_law_353 rfl ?_
        refine z_sld 355 K hX hbl hbA (by omega) (by omega) (by omega) dL_law_354 rfl ?_
        refine z_top (p1) hp1.symm ?_
        refine z_aload_n 356 K dL_law_355 rfl rfl 0 rfl ?_
        refine z_iload 358 K dL_law_356 rfl 4 rfl ?_
        refine z_iconst 359 K dL_law_358 rfl ?_
        refine z_iadd 360 K dL_law_359 rfl ?_
        refine z_sld 361 K hX hbl hbA (by omega) (by omega) (by omega) dL_law_360 rfl ?_
        refine z_top (p2) hp2.symm ?_
        refine z_aload_n 362 K dL_law_361 rfl rfl 3 rfl ?_
        refine z_vT (As := [.ref (aD g 0), .int (iZ p1), .int (iZ p2), .ref (aD g 100)]) (rest := []) 365 K hNc (w_L_pages l g _ p1 p2 o9 _ _ _ _ _ _ h100 hI hP (by omega) (by omega) hlt) (vx_cwSW 4 K.1.2.2.2.2 gL_law_L_pages rfl rfl rfl (by decide +kernel) ⟨Nat.le_of_ble_eq_true rfl, Nat.le_of_ble_eq_true rfl⟩) rfl (Nat.le_of_ble_eq_true rfl) dL_law_362 rfl (law_hf (cap := cap) ⟨by omega, by omega⟩ (by omega) (by omega) (by decide) (by decide)) rfl (fun z_22 C_23 hp_362 => ?_)
        obtain ⟨hIn_362, hsm_362, ⟨o2_24, hO_362, hov_362⟩, hz_362⟩ := hp_362
        refine z_top (kPgs f p1 p2) hz_362 ?_
        have hf_362_94 : C_23 94 = .inr (9, [.ref (aD g 95), .ref (aD g 96), .ref (aD g 97), .int (iZ k), .ref (aD g 98), .int (iZ ty), .int (iZ th), .int (iZ pt), .int (iZ fl), .ref (aD g 99), .int (iZ to)]) := (hsm_362 94 (by omega) (by omega)).trans h94
        have hf_362_95 : C_23 95 = eI g 449 f := (hsm_362 95 (by omega) (by omega)).trans h95
        have hf_362_96 : C_23 96 = eI g 449 ft := (hsm_362 96 (by omega) (by omega)).trans h96
        have hf_362_97 : C_23 97 = eI g 2694 past := (hsm_362 97 (by omega) (by omega)).trans h97
        have hf_362_98 : C_23 98 = eI g 60 tx := (hsm_362 98 (by omega) (by omega)).trans h98
        have hf_362_99 : C_23 99 = eI g 12 td := (hsm_362 99 (by omega) (by omega)).trans h99
        refine z_istore (lv' := [(5, .int (iZ (kPgs f p1 p2))), (0, .ref b), (1, .ref (aD g 0)), (2, .ref (aD g 94)), (3, .ref (aD g 100)), (4, .int (iZ iz))]) 367 K dL_law_365 rfl (by decide) rfl ?_
        refine z_aload_n 368 K dL_law_367 rfl rfl 3 rfl ?_
        refine z_aload_n 369 K dL_law_368 rfl rfl 1 rfl ?_
        refine z_iload 371 K dL_law_369 rfl 5 rfl ?_
        refine z_iconst 372 K dL_law_371 rfl ?_
        refine z_iadd 373 K dL_law_372 rfl ?_
        refine z_sld 374 K hX hbl hbA (by omega) (by omega) (by omega) dL_law_373 rfl ?_
        refine z_top (p1) hp1.symm ?_
        refine z_aload_n 375 K dL_law_374 rfl rfl 1 rfl ?_
        refine z_iload 377 K dL_law_375 rfl 5 rfl ?_
        refine z_iconst 378 K dL_law_377 rfl ?_
        refine z_iadd 379 K dL_law_378 rfl ?_
        refine z_sld 380 K hX hbl hbA (by omega) (by omega) (by omega) dL_law_379 rfl ?_
        refine z_top (p2) hp2.symm ?_
        refine z_vVi (As := [.int (iZ p1), .int (iZ p2)]) (rest := []) 383 K 94 (by decide) hf_362_94 rfl rfl (m_X9_pages l g _ p1 p2 k ty th pt fl to f past _ hf_362_94 hf_362_95 hf_362_97 hP.2.1 hP.1 (by omega) (by omega)) (cwV 2 K.1.2.2.2.2 gL_law_X9_pages rfl rfl rfl (by decide +kernel) ⟨Nat.le_of_ble_eq_true rfl, Nat.le_of_ble_eq_true rfl⟩) rfl (Nat.le_of_ble_eq_true rfl) dL_law_380 rfl (law_hf (cap := cap) ⟨by omega, by omega⟩ (by omega) (by omega) (by decide) (by decide)) rfl (fun z_25 C_26 hp_380 => ?_)
        refine z_C hp_380.1 ?_
        refine z_top (if kPgs f p1 p2 = 0 then f (2 * p1 + 4) else 0) hp_380.2 ?_
        refine z_istore (lv' := [(6, .int (iZ (if kPgs f p1 p2 = 0 then f (2 * p1 + 4) else 0))), (5, .int (iZ (kPgs f p1 p2))), (0, .ref b), (1, .ref (aD g 0)), (2, .ref (aD g 94)), (3, .ref (aD g 100)), (4, .int (iZ iz))]) 385 K dL_law_383 rfl (by decide) rfl ?_
        refine z_aload_n 386 K dL_law_385 rfl rfl 4 rfl ?_
        refine z_vVi (As := []) (rest := []) 389 K 94 (by decide) ((va_up_ne _ _ (by decide)).trans (va_up_eq _ 94 _)) rfl rfl (m_X9_thrown l g _ (if kPgs f p1 p2 = 0 then mKp k + 1 else k) ty (kPgs f p1 p2) pt fl to ((va_up_ne _ _ (by decide)).trans (va_up_eq _ 94 _))) (cwV 0 K.1.2.2.2.2 gL_law_X9_thrown rfl rfl rfl (by decide +kernel) ⟨Nat.le_of_ble_eq_true rfl, Nat.le_of_ble_eq_true rfl⟩) rfl (Nat.le_of_ble_eq_true rfl) dL_law_386 rfl (law_hf (cap := cap) ⟨by omega, by omega⟩ (by omega) (by omega) (by decide) (by decide)) rfl (fun z_27 C_28 hp_386 => ?_)
        refine z_C hp_386.1 ?_
        refine z_top (kPgs f p1 p2) hp_386.2 ?_
        refine z_iload 391 K dL_law_389 rfl 1 rfl ?_
        refine z_icmp_eq (tgt := 396) 394 K dL_law_391 rfl (by decide) (by omega) (by omega) (fun c_391 => ?_) (fun c_391 => ?_)
        · skip
          refine z_iload 398 K dL_law_396 rfl 1 rfl ?_
          refine z_if_ne (tgt := 413) 401 K dL_law_398 rfl (by decide) (by omega) (fun c_398 => ?_) (fun c_398 => ?_)
          · skip
            refine z_goto (tgt := 1613) K dL_law_413 (by decide) ?_
            refine z_iinc (lv' := [(4, .int (iZ (iz + 4))), (6, .int (iZ (if kPgs f p1 p2 = 0 then f (2 * p1 + 4) else 0))), (5, .int (iZ (kPgs f p1 p2))), (0, .ref b), (1, .ref (aD g 0)), (2, .ref (aD g 94)), (3, .ref (aD g 100))]) 1616 K dL_law_1613 rfl (iz + 4) rfl 6 rfl (by decide) rfl ?_
            refine z_goto (tgt := 23) K dL_law_1616 (by decide) ?_
            refine z_sub [3, 4, 5, 6, 0] rfl ?_
            refine z_wid (kc' := (kc9 + 2)) (ks' := (ks9 + 12)) (by omega) (by omega) ?_
            exact IH (va_up (va_up (va_up C_23 97 (eI g 2694 (if kPgs f p1 p2 = 0 then mSav f past k else past))) 94 (.inr (9, [.ref (aD g 95), .ref (aD g 96), .ref (aD g 97), .int (iZ (if kPgs f p1 p2 = 0 then mKp k + 1 else k)), .ref (aD g 98), .int (iZ ty), .int (iZ (kPgs f p1 p2)), .int (iZ pt), .int (iZ fl), .ref (aD g 99), .int (iZ to)]))) 95 (eI g 449 (if kPgs f p1 p2 = 0 then zu f (2 * p1 + 4) p2 else f))) (if kPgs f p1 p2 = 0 then zu f (2 * p1 + 4) p2 else f) ft (if kPgs f p1 p2 = 0 then mSav f past k else past) tx td o2_24 (if kPgs f p1 p2 = 0 then mKp k + 1 else k) ty (kPgs f p1 p2) pt fl to (cap + 1) (iz + 4) (kc9 + 2) (ks9 + 12) (IW_cong hIn_362 (fun q hq => ((va_up_ne _ _ (by omega)).trans ((va_up_ne _ _ (by omega)).trans ((va_up_ne _ _ (by omega)).trans rfl))))) (PW_pgs hP hcp) ((va_up_ne _ _ (by decide)).trans (va_up_eq _ 94 _)) (va_up_eq _ 95 _) ((va_up_ne _ _ (by decide)).trans ((va_up_ne _ _ (by decide)).trans ((va_up_ne _ _ (by decide)).trans hf_362_96))) ((va_up_ne _ _ (by decide)).trans ((va_up_ne _ _ (by decide)).trans (va_up_eq _ 97 _))) ((va_up_ne _ _ (by decide)).trans ((va_up_ne _ _ (by decide)).trans ((va_up_ne _ _ (by decide)).trans hf_362_98))) ((va_up_ne _ _ (by decide)).trans ((va_up_ne _ _ (by decide)).trans ((va_up_ne _ _ (by decide)).trans hf_362_99))) ((va_up_ne _ _ (by decide)).trans ((va_up_ne _ _ (by decide)).trans ((va_up_ne _ _ (by decide)).trans hO_362))) hRt (by omega) (by omega) (by omega)
          · skip
            refine z_aload_n 402 K dL_law_401 rfl rfl 5 rfl ?_
            refine z_iconst 403 K dL_law_402 rfl ?_
            refine z_lald (f := o2_24) 404 K 100 (by decide) ((va_up_ne _ _ (by decide)).trans ((va_up_ne _ _ (by decide)).trans ((va_up_ne _ _ (by decide)).trans hO_362))) (by decide) (by decide) (by decide) dL_law_403 rfl ?_
            refine z_iload 406 K dL_law_404 rfl 0 rfl ?_
            refine z_i2l 407 K dL_law_406 rfl ?_
            refine z_lcmp 408 K dL_law_407 rfl (fun v_407 hv_407 hr_407 => ?_)
            refine z_if_eq (tgt := 413) 411 K dL_law_408 rfl (by decide) (by omega) (fun c_408 => ?_) (fun c_408 => ?_)
            · skip
              refine z_goto (tgt := 1613) K dL_law_413 (by decide) ?_
              refine z_iinc (lv' := [(4, .int (iZ (iz + 4))), (6, .int (iZ (if kPgs f p1 p2 = 0 then f (2 * p1 + 4) else 0))), (5, .int (iZ (kPgs f p1 p2))), (0, .ref b), (1, .ref (aD g 0)), (2, .ref (aD g 94)), (3, .ref (aD g 100))]) 1616 K dL_law_1613 rfl (iz + 4) rfl 6 rfl (by decide) rfl ?_
              refine z_goto (tgt := 23) K dL_law_1616 (by decide) ?_
              refine z_sub [3, 4, 5, 6, 0] rfl ?_
              refine z_wid (kc' := (kc9 + 2)) (ks' := (ks9 + 12)) (by omega) (by omega) ?_
              exact IH (va_up (va_up (va_up C_23 97 (eI g 2694 (if kPgs f p1 p2 = 0 then mSav f past k else past))) 94 (.inr (9, [.ref (aD g 95), .ref (aD g 96), .ref (aD g 97), .int (iZ (if kPgs f p1 p2 = 0 then mKp k + 1 else k)), .ref (aD g 98), .int (iZ ty), .int (iZ (kPgs f p1 p2)), .int (iZ pt), .int (iZ fl), .ref (aD g 99), .int (iZ to)]))) 95 (eI g 449 (if kPgs f p1 p2 = 0 then zu f (2 * p1 + 4) p2 else f))) (if kPgs f p1 p2 = 0 then zu f (2 * p1 + 4) p2 else f) ft (if kPgs f p1 p2 = 0 then mSav f past k else past) tx td o2_24 (if kPgs f p1 p2 = 0 then mKp k + 1 else k) ty (kPgs f p1 p2) pt fl to (cap + 1) (iz + 4) (kc9 + 2) (ks9 + 12) (IW_cong hIn_362 (fun q hq => ((va_up_ne _ _ (by omega)).trans ((va_up_ne _ _ (by omega)).trans ((va_up_ne _ _ (by omega)).trans rfl))))) (PW_pgs hP hcp) ((va_up_ne _ _ (by decide)).trans (va_up_eq _ 94 _)) (va_up_eq _ 95 _) ((va_up_ne _ _ (by decide)).trans ((va_up_ne _ _ (by decide)).trans ((va_up_ne _ _ (by decide)).trans hf_362_96))) ((va_up_ne _ _ (by decide)).trans ((va_up_ne _ _ (by decide)).trans (va_up_eq _ 97 _))) ((va_up_ne _ _ (by decide)).trans ((va_up_ne _ _ (by decide)).trans ((va_up_ne _ _ (by decide)).trans hf_362_98))) ((va_up_ne _ _ (by decide)).trans ((va_up_ne _ _ (by decide)).trans ((va_up_ne _ _ (by decide)).trans hf_362_99))) ((va_up_ne _ _ (by decide)).trans ((va_up_ne _ _ (by decide)).trans ((va_up_ne _ _ (by decide)).trans hO_362))) hRt (by omega) (by omega) (by omega)
            · skip
              exact absurd (hv_407.mpr (by rw [show (Int.toNat 0) = 0 by rfl, hov_362 c_398, if_pos c_398])) c_408
        · skip
          exact absurd rfl c_391
      by_cases sw_39_4 : sw9 = 4
      · skip
        refine z_top (4) sw_39_4 ?_
        refine z_tableIn (tgt := 416) K dL_law_39 (by decide) (by decide) (by decide) rfl (by decide) ?_
        have hk9_4 : 0 ≤ kJoi f p1 ∧ kJoi f p1 ≤ 3 := kJoi_b f p1
        refine z_aload_n 417 K dL_law_416 rfl rfl 1 rfl ?_
        refine z_aload_n 418 K dL_law_417 rfl rfl 0 rfl ?_
        refine z_iload 420 K dL_law_418 rfl 4 rfl ?_
        refine z_iconst 421 K dL_law_420 rfl ?_
        refine z_iadd 422 K dL_law_421 rfl ?_
        refine z_sld 423 K hX hbl hbA (by omega) (by omega) (by omega) dL_law_422 rfl ?_
        refine z_top (p1) hp1.symm ?_
        refine z_aload_n 424 K dL_law_423 rfl rfl 3 rfl ?_
        refine z_vT (As := [.ref (aD g 0), .int (iZ p1), .ref (aD g 100)]) (rest := []) 427 K hNc (w_L_join l g _ p1 o9 _ _ _ _ _ _ h100 hI hP (by omega) hlt) (vx_cwSW 3 K.1.2.2.2.2 gL_law_L_join rfl rfl rfl (by decide +kernel) ⟨Nat.le_of_ble_eq_true rfl, Nat.le_of_ble_eq_true rfl⟩) rfl (Nat.le_of_ble_eq_true rfl) dL_law_424 rfl (law_hf (cap := cap) ⟨by omega, by omega⟩ (by omega) (by omega) (by decide) (by decide)) rfl (fun z_29 C_30 hp_424 => ?_)
        obtain ⟨hIn_424, hsm_424, ⟨o2_31, hO_424, hov_424⟩, hz_424⟩ := hp_424
        refine z_top (kJoi f p1) hz_424 ?_
        have hf_424_94 : C_30 94 = .inr (9, [.ref (aD g 95), .ref (aD g 96), .ref (aD g 97), .int (iZ k), .ref (aD g 98), .int (iZ ty), .int (iZ th), .int (iZ pt), .int (iZ fl), .ref (aD g 99), .int (iZ to)]) := (hsm_424 94 (by omega) (by omega)).trans h94
        have hf_424_95 : C_30 95 = eI g 449 f := (hsm_424 95 (by omega) (by omega)).trans h95
        have hf_424_96 : C_30 96 = eI g 449 ft := (hsm_424 96 (by omega) (by omega)).trans h96
        have hf_424_97 : C_30 97 = eI g 2694 past := (hsm_424 97 (by omega) (by omega)).trans h97
        have hf_424_98 : C_30 98 = eI g 60 tx := (hsm_424 98 (by omega) (by omega)).trans h98
        have hf_424_99 : C_30 99 = eI g 12 td := (hsm_424 99 (by omega) (by omega)).trans h99
        refine z_istore (lv' := [(5, .int (iZ (kJoi f p1))), (0, .ref b), (1, .ref (aD g 0)), (2, .ref (aD g 94)), (3, .ref (aD g 100)), (4, .int (iZ iz))]) 429 K dL_law_427 rfl (by decide) rfl ?_
        refine z_aload_n 430 K dL_law_429 rfl rfl 3 rfl ?_
        refine z_aload_n 431 K dL_law_430 rfl rfl 1 rfl ?_
        refine z_iload 433 K dL_law_431 rfl 5 rfl ?_
        refine z_iconst 434 K dL_law_433 rfl ?_
        refine z_iadd 435 K dL_law_434 rfl ?_
        refine z_sld 436 K hX hbl hbA (by omega) (by omega) (by omega) dL_law_435 rfl ?_
        refine z_top (p1) hp1.symm ?_
        refine z_vVi (As := [.int (iZ p1)]) (rest := []) 439 K 94 (by decide) hf_424_94 rfl rfl (m_X9_join l g _ p1 k ty th pt fl to f past _ hf_424_94 hf_424_95 hf_424_97 hP.2.1 hP.1 (by omega)) (cwV 1 K.1.2.2.2.2 gL_law_X9_join rfl rfl rfl (by decide +kernel) ⟨Nat.le_of_ble_eq_true rfl, Nat.le_of_ble_eq_true rfl⟩) rfl (Nat.le_of_ble_eq_true rfl) dL_law_436 rfl (law_hf (cap := cap) ⟨by omega, by omega⟩ (by omega) (by omega) (by decide) (by decide)) rfl (fun z_32 C_33 hp_436 => ?_)
        refine z_C hp_436.1 ?_
        refine z_top (if kJoi f p1 = 0 then f (2 * p1 + 4) + f (2 * p1 + 6) else 0) hp_436.2 ?_
        refine z_istore (lv' := [(6, .int (iZ (if kJoi f p1 = 0 then f (2 * p1 + 4) + f (2 * p1 + 6) else 0))), (5, .int (iZ (kJoi f p1))), (0, .ref b), (1, .ref (aD g 0)), (2, .ref (aD g 94)), (3, .ref (aD g 100)), (4, .int (iZ iz))]) 441 K dL_law_439 rfl (by decide) rfl ?_
        refine z_aload_n 442 K dL_law_441 rfl rfl 4 rfl ?_
        refine z_vVi (As := []) (rest := []) 445 K 94 (by decide) ((va_up_ne _ _ (by decide)).trans (va_up_eq _ 94 _)) rfl rfl (m_X9_thrown l g _ (if kJoi f p1 = 0 then mKp k + 1 else k) ty (kJoi f p1) pt fl to ((va_up_ne _ _ (by decide)).trans (va_up_eq _ 94 _))) (cwV 0 K.1.2.2.2.2 gL_law_X9_thrown rfl rfl rfl (by decide +kernel) ⟨Nat.le_of_ble_eq_true rfl, Nat.le_of_ble_eq_true rfl⟩) rfl (Nat.le_of_ble_eq_true rfl) dL_law_442 rfl (law_hf (cap := cap) ⟨by omega, by omega⟩ (by omega) (by omega) (by decide) (by decide)) rfl (fun z_34 C_35 hp_442 => ?_)
        refine z_C hp_442.1 ?_
        refine z_top (kJoi f p1) hp_442.2 ?_
        refine z_iload 447 K dL_law_445 rfl 1 rfl ?_
        refine z_icmp_eq (tgt := 452) 450 K dL_law_447 rfl (by decide) (by omega) (by omega) (fun c_447 => ?_) (fun c_447 => ?_)
        · skip
          refine z_iload 454 K dL_law_452 rfl 1 rfl ?_
          refine z_if_ne (tgt := 469) 457 K dL_law_454 rfl (by decide) (by omega) (fun c_454 => ?_) (fun c_454 => ?_)
          · skip
            refine z_goto (tgt := 1613) K dL_law_469 (by decide) ?_
            refine z_iinc (lv' := [(4, .int (iZ (iz + 4))), (6, .int (iZ (if kJoi f p1 = 0 then f (2 * p1 + 4) + f (2 * p1 + 6) else 0))), (5, .int (iZ (kJoi f p1))), (0, .ref b), (1, .ref (aD g 0)), (2, .ref (aD g 94)), (3, .ref (aD g 100))]) 1616 K dL_law_1613 rfl (iz + 4) rfl 6 rfl (by decide) rfl ?_
            refine z_goto (tgt := 23) K dL_law_1616 (by decide) ?_
            refine z_sub [3, 4, 5, 6, 0] rfl ?_
            refine z_wid (kc' := (kc9 + 2)) (ks' := (ks9 + 12)) (by omega) (by omega) ?_
            exact IH (va_up (va_up (va_up C_30 97 (eI g 2694 (if kJoi f p1 = 0 then mSav f past k else past))) 94 (.inr (9, [.ref (aD g 95), .ref (aD g 96), .ref (aD g 97), .int (iZ (if kJoi f p1 = 0 then mKp k + 1 else k)), .ref (aD g 98), .int (iZ ty), .int (iZ (kJoi f p1)), .int (iZ pt), .int (iZ fl), .ref (aD g 99), .int (iZ to)]))) 95 (eI g 449 (if kJoi f p1 = 0 then mJoin f p1 else f))) (if kJoi f p1 = 0 then mJoin f p1 else f) ft (if kJoi f p1 = 0 then mSav f past k else past) tx td o2_31 (if kJoi f p1 = 0 then mKp k + 1 else k) ty (kJoi f p1) pt fl to (cap + 1) (iz + 4) (kc9 + 2) (ks9 + 12) (IW_cong hIn_424 (fun q hq => ((va_up_ne _ _ (by omega)).trans ((va_up_ne _ _ (by omega)).trans ((va_up_ne _ _ (by omega)).trans rfl))))) (PW_joi hP hcp) ((va_up_ne _ _ (by decide)).trans (va_up_eq _ 94 _)) (va_up_eq _ 95 _) ((va_up_ne _ _ (by decide)).trans ((va_up_ne _ _ (by decide)).trans ((va_up_ne _ _ (by decide)).trans hf_424_96))) ((va_up_ne _ _ (by decide)).trans ((va_up_ne _ _ (by decide)).trans (va_up_eq _ 97 _))) ((va_up_ne _ _ (by decide)).trans ((va_up_ne _ _ (by decide)).trans ((va_up_ne _ _ (by decide)).trans hf_424_98))) ((va_up_ne _ _ (by decide)).trans ((va_up_ne _ _ (by decide)).trans ((va_up_ne _ _ (by decide)).trans hf_424_99))) ((va_up_ne _ _ (by decide)).trans ((va_up_ne _ _ (by decide)).trans ((va_up_ne _ _ (by decide)).trans hO_424))) hRt (by omega) (by omega) (by omega)
          · skip
            refine z_aload_n 458 K dL_law_457 rfl rfl 5 rfl ?_
            refine z_iconst 459 K dL_law_458 rfl ?_
            refine z_lald (f := o2_31) 460 K 100 (by decide) ((va_up_ne _ _ (by decide)).trans ((va_up_ne _ _ (by decide)).trans ((va_up_ne _ _ (by decide)).trans hO_424))) (by decide) (by decide) (by decide) dL_law_459 rfl ?_
            refine z_iload 462 K dL_law_460 rfl 0 rfl ?_
            refine z_i2l 463 K dL_law_462 rfl ?_
            refine z_lcmp 464 K dL_law_463 rfl (fun v_463 hv_463 hr_463 => ?_)
            refine z_if_eq (tgt := 469) 467 K dL_law_464 rfl (by decide) (by omega) (fun c_464 => ?_) (fun c_464 => ?_)
            · skip
              refine z_goto (tgt := 1613) K dL_law_469 (by decide) ?_
              refine z_iinc (lv' := [(4, .int (iZ (iz + 4))), (6, .int (iZ (if kJoi f p1 = 0 then f (2 * p1 + 4) + f (2 * p1 + 6) else 0))), (5, .int (iZ (kJoi f p1))), (0, .ref b), (1, .ref (aD g 0)), (2, .ref (aD g 94)), (3, .ref (aD g 100))]) 1616 K dL_law_1613 rfl (iz + 4) rfl 6 rfl (by decide) rfl ?_
              refine z_goto (tgt := 23) K dL_law_1616 (by decide) ?_
              refine z_sub [3, 4, 5, 6, 0] rfl ?_
              refine z_wid (kc' := (kc9 + 2)) (ks' := (ks9 + 12)) (by omega) (by omega) ?_
              exact IH (va_up (va_up (va_up C_30 97 (eI g 2694 (if kJoi f p1 = 0 then mSav f past k else past))) 94 (.inr (9, [.ref (aD g 95), .ref (aD g 96), .ref (aD g 97), .int (iZ (if kJoi f p1 = 0 then mKp k + 1 else k)), .ref (aD g 98), .int (iZ ty), .int (iZ (kJoi f p1)), .int (iZ pt), .int (iZ fl), .ref (aD g 99), .int (iZ to)]))) 95 (eI g 449 (if kJoi f p1 = 0 then mJoin f p1 else f))) (if kJoi f p1 = 0 then mJoin f p1 else f) ft (if kJoi f p1 = 0 then mSav f past k else past) tx td o2_31 (if kJoi f p1 = 0 then mKp k + 1 else k) ty (kJoi f p1) pt fl to (cap + 1) (iz + 4) (kc9 + 2) (ks9 + 12) (IW_cong hIn_424 (fun q hq => ((va_up_ne _ _ (by omega)).trans ((va_up_ne _ _ (by omega)).trans ((va_up_ne _ _ (by omega)).trans rfl))))) (PW_joi hP hcp) ((va_up_ne _ _ (by decide)).trans (va_up_eq _ 94 _)) (va_up_eq _ 95 _) ((va_up_ne _ _ (by decide)).trans ((va_up_ne _ _ (by decide)).trans ((va_up_ne _ _ (by decide)).trans hf_424_96))) ((va_up_ne _ _ (by decide)).trans ((va_up_ne _ _ (by decide)).trans (va_up_eq _ 97 _))) ((va_up_ne _ _ (by decide)).trans ((va_up_ne _ _ (by decide)).trans ((va_up_ne _ _ (by decide)).trans hf_424_98))) ((va_up_ne _ _ (by decide)).trans ((va_up_ne _ _ (by decide)).trans ((va_up_ne _ _ (by decide)).trans hf_424_99))) ((va_up_ne _ _ (by decide)).trans ((va_up_ne _ _ (by decide)).trans ((va_up_ne _ _ (by decide)).trans hO_424))) hRt (by omega) (by omega) (by omega)
            · skip
              exact absurd (hv_463.mpr (by rw [show (Int.toNat 0) = 0 by rfl, hov_424 c_454, if_pos c_454])) c_464
        · skip
          exact absurd rfl c_447
      by_cases sw_39_5 : sw9 = 5
      · skip
        refine z_top (5) sw_39_5 ?_
        refine z_tableIn (tgt := 472) K dL_law_39 (by decide) (by decide) (by decide) rfl (by decide) ?_
        have hk9_5 : 0 ≤ kSpl f p1 p2 ∧ kSpl f p1 p2 ≤ 3 := kSpl_b f p1 p2
        refine z_aload_n 473 K dL_law_472 rfl rfl 1 rfl ?_
        refine z_aload_n 474 K dL_law_473 rfl rfl 0 rfl ?_
        refine z_iload 476 K dL_law_474 rfl 4 rfl ?_
        refine z_iconst 477 K dL_law_476 rfl ?_
        refine z_iadd 478 K dL_law_477 rfl ?_
        refine z_sld 479 K hX hbl hbA (by omega) (by omega) (by omega) dL_law_478 rfl ?_
        refine z_top (p1) hp1.symm ?_
        refine z_aload_n 480 K dL_law_479 rfl rfl 0 rfl ?_
        refine z_iload 482 K dL_law_480 rfl 4 rfl ?_
        refine z_iconst 483 K dL_law_482 rfl ?_
        refine z_iadd 484 K dL_law_483 rfl ?_
        refine z_sld 485 K hX hbl hbA (by omega) (by omega) (by omega) dL_law_484 rfl ?_
        refine z_top (p2) hp2.symm ?_
        refine z_aload_n 486 K dL_law_485 rfl rfl 3 rfl ?_
        refine z_vT (As := [.ref (aD g 0), .int (iZ p1), .int (iZ p2), .ref (aD g 100)]) (rest := []) 489 K hNc (w_L_split l g _ p1 p2 o9 _ _ _ _ _ _ h100 hI hP (by omega) (by omega) hlt) (vx_cwSW 4 K.1.2.2.2.2 gL_law_L_split rfl rfl rfl (by decide +kernel) ⟨Nat.le_of_ble_eq_true rfl, Nat.le_of_ble_eq_true rfl⟩) rfl (Nat.le_of_ble_eq_true rfl) dL_law_486 rfl (law_hf (cap := cap) ⟨by omega, by omega⟩ (by omega) (by omega) (by decide) (by decide)) rfl (fun z_36 C_37 hp_486 => ?_)
        obtain ⟨hIn_486, hsm_486, ⟨o2_38, hO_486, hov_486⟩, hz_486⟩ := hp_486
        refine z_top (kSpl f p1 p2) hz_486 ?_
        have hf_486_94 : C_37 94 = .inr (9, [.ref (aD g 95), .ref (aD g 96), .ref (aD g 97), .int (iZ k), .ref (aD g 98), .int (iZ ty), .int (iZ th), .int (iZ pt), .int (iZ fl), .ref (aD g 99), .int (iZ to)]) := (hsm_486 94 (by omega) (by omega)).trans h94
        have hf_486_95 : C_37 95 = eI g 449 f := (hsm_486 95 (by omega) (by omega)).trans h95
        have hf_486_96 : C_37 96 = eI g 449 ft := (hsm_486 96 (by omega) (by omega)).trans h96
        have hf_486_97 : C_37 97 = eI g 2694 past := (hsm_486 97 (by omega) (by omega)).trans h97
        have hf_486_98 : C_37 98 = eI g 60 tx := (hsm_486 98 (by omega) (by omega)).trans h98
        have hf_486_99 : C_37 99 = eI g 12 td := (hsm_486 99 (by omega) (by omega)).trans h99
        refine z_istore (lv' := [(5, .int (iZ (kSpl f p1 p2))), (0, .ref b), (1, .ref (aD g 0)), (2, .ref (aD g 94)), (3, .ref (aD g 100)), (4, .int (iZ iz))]) 491 K dL_law_489 rfl (by decide) rfl ?_
        refine z_aload_n 492 K dL_law_491 rfl rfl 3 rfl ?_
        refine z_aload_n 493 K dL_law_492 rfl rfl 1 rfl ?_
        refine z_iload 495 K dL_law_493 rfl 5 rfl ?_
        refine z_iconst 496 K dL_law_495 rfl ?_
        refine z_iadd 497 K dL_law_496 rfl ?_
        refine z_sld 498 K hX hbl hbA (by omega) (by omega) (by omega) dL_law_497 rfl ?_
        refine z_top (p1) hp1.symm ?_
        refine z_aload_n 499 K dL_law_498 rfl rfl 1 rfl ?_
        refine z_iload 501 K dL_law_499 rfl 5 rfl ?_
        refine z_iconst 502 K dL_law_501 rfl ?_
        refine z_iadd 503 K dL_law_502 rfl ?_
        refine z_sld 504 K hX hbl hbA (by omega) (by omega) (by omega) dL_law_503 rfl ?_
        refine z_top (p2) hp2.symm ?_
        refine z_vVi (As := [.int (iZ p1), .int (iZ p2)]) (rest := []) 507 K 94 (by decide) hf_486_94 rfl rfl (m_X9_split l g _ p1 p2 k ty th pt fl to f past _ hf_486_94 hf_486_95 hf_486_97 hP.2.1 hP.1 (by omega) (by omega)) (cwV 2 K.1.2.2.2.2 gL_law_X9_split rfl rfl rfl (by decide +kernel) ⟨Nat.le_of_ble_eq_true rfl, Nat.le_of_ble_eq_true rfl⟩) rfl (Nat.le_of_ble_eq_true rfl) dL_law_504 rfl (law_hf (cap := cap) ⟨by omega, by omega⟩ (by omega) (by omega) (by decide) (by decide)) rfl (fun z_39 C_40 hp_504 => ?_)
        refine z_C hp_504.1 ?_
        refine z_top (if kSpl f p1 p2 = 0 then f 2 else 0) hp_504.2 ?_
        refine z_istore (lv' := [(6, .int (iZ (if kSpl f p1 p2 = 0 then f 2 else 0))), (5, .int (iZ (kSpl f p1 p2))), (0, .ref b), (1, .ref (aD g 0)), (2, .ref (aD g 94)), (3, .ref (aD g 100)), (4, .int (iZ iz))]) 509 K dL_law_507 rfl (by decide) rfl ?_
        refine z_aload_n 510 K dL_law_509 rfl rfl 4 rfl ?_
        refine z_vVi (As := []) (rest := []) 513 K 94 (by decide) ((va_up_ne _ _ (by decide)).trans (va_up_eq _ 94 _)) rfl rfl (m_X9_thrown l g _ (if kSpl f p1 p2 = 0 then mKp k + 1 else k) ty (kSpl f p1 p2) pt fl to ((va_up_ne _ _ (by decide)).trans (va_up_eq _ 94 _))) (cwV 0 K.1.2.2.2.2 gL_law_X9_thrown rfl rfl rfl (by decide +kernel) ⟨Nat.le_of_ble_eq_true rfl, Nat.le_of_ble_eq_true rfl⟩) rfl (Nat.le_of_ble_eq_true rfl) dL_law_510 rfl (law_hf (cap := cap) ⟨by omega, by omega⟩ (by omega) (by omega) (by decide) (by decide)) rfl (fun z_41 C_42 hp_510 => ?_)
        refine z_C hp_510.1 ?_
        refine z_top (kSpl f p1 p2) hp_510.2 ?_
        refine z_iload 515 K dL_law_513 rfl 1 rfl ?_
        refine z_icmp_eq (tgt := 520) 518 K dL_law_515 rfl (by decide) (by omega) (by omega) (fun c_515 => ?_) (fun c_515 => ?_)
        · skip
          refine z_iload 522 K dL_law_520 rfl 1 rfl ?_
          refine z_if_ne (tgt := 537) 525 K dL_law_522 rfl (by decide) (by omega) (fun c_522 => ?_) (fun c_522 => ?_)
          · skip
            refine z_goto (tgt := 1613) K dL_law_537 (by decide) ?_
            refine z_iinc (lv' := [(4, .int (iZ (iz + 4))), (6, .int (iZ (if kSpl f p1 p2 = 0 then f 2 else 0))), (5, .int (iZ (kSpl f p1 p2))), (0, .ref b), (1, .ref (aD g 0)), (2, .ref (aD g 94)), (3, .ref (aD g 100))]) 1616 K dL_law_1613 rfl (iz + 4) rfl 6 rfl (by decide) rfl ?_
            refine z_goto (tgt := 23) K dL_law_1616 (by decide) ?_
            refine z_sub [3, 4, 5, 6, 0] rfl ?_
            refine z_wid (kc' := (kc9 + 2)) (ks' := (ks9 + 12)) (by omega) (by omega) ?_
            exact IH (va_up (va_up (va_up C_37 97 (eI g 2694 (if kSpl f p1 p2 = 0 then mSav f past k else past))) 94 (.inr (9, [.ref (aD g 95), .ref (aD g 96), .ref (aD g 97), .int (iZ (if kSpl f p1 p2 = 0 then mKp k + 1 else k)), .ref (aD g 98), .int (iZ ty), .int (iZ (kSpl f p1 p2)), .int (iZ pt), .int (iZ fl), .ref (aD g 99), .int (iZ to)]))) 95 (eI g 449 (if kSpl f p1 p2 = 0 then mSplit f p1 p2 else f))) (if kSpl f p1 p2 = 0 then mSplit f p1 p2 else f) ft (if kSpl f p1 p2 = 0 then mSav f past k else past) tx td o2_38 (if kSpl f p1 p2 = 0 then mKp k + 1 else k) ty (kSpl f p1 p2) pt fl to (cap + 1) (iz + 4) (kc9 + 2) (ks9 + 12) (IW_cong hIn_486 (fun q hq => ((va_up_ne _ _ (by omega)).trans ((va_up_ne _ _ (by omega)).trans ((va_up_ne _ _ (by omega)).trans rfl))))) (PW_spl hP hcp) ((va_up_ne _ _ (by decide)).trans (va_up_eq _ 94 _)) (va_up_eq _ 95 _) ((va_up_ne _ _ (by decide)).trans ((va_up_ne _ _ (by decide)).trans ((va_up_ne _ _ (by decide)).trans hf_486_96))) ((va_up_ne _ _ (by decide)).trans ((va_up_ne _ _ (by decide)).trans (va_up_eq _ 97 _))) ((va_up_ne _ _ (by decide)).trans ((va_up_ne _ _ (by decide)).trans ((va_up_ne _ _ (by decide)).trans hf_486_98))) ((va_up_ne _ _ (by decide)).trans ((va_up_ne _ _ (by decide)).trans ((va_up_ne _ _ (by decide)).trans hf_486_99))) ((va_up_ne _ _ (by decide)).trans ((va_up_ne _ _ (by decide)).trans ((va_up_ne _ _ (by decide)).trans hO_486))) hRt (by omega) (by omega) (by omega)
          · skip
            refine z_aload_n 526 K dL_law_525 rfl rfl 5 rfl ?_
            refine z_iconst 527 K dL_law_526 rfl ?_
            refine z_lald (f := o2_38) 528 K 100 (by decide) ((va_up_ne _ _ (by decide)).trans ((va_up_ne _ _ (by decide)).trans ((va_up_ne _ _ (by decide)).trans hO_486))) (by decide) (by decide) (by decide) dL_law_527 rfl ?_
            refine z_iload 530 K dL_law_528 rfl 0 rfl ?_
            refine z_i2l 531 K dL_law_530 rfl ?_
            refine z_lcmp 532 K dL_law_531 rfl (fun v_531 hv_531 hr_531 => ?_)
            refine z_if_eq (tgt := 537) 535 K dL_law_532 rfl (by decide) (by omega) (fun c_532 => ?_) (fun c_532 => ?_)
            · skip
              refine z_goto (tgt := 1613) K dL_law_537 (by decide) ?_
              refine z_iinc (lv' := [(4, .int (iZ (iz + 4))), (6, .int (iZ (if kSpl f p1 p2 = 0 then f 2 else 0))), (5, .int (iZ (kSpl f p1 p2))), (0, .ref b), (1, .ref (aD g 0)), (2, .ref (aD g 94)), (3, .ref (aD g 100))]) 1616 K dL_law_1613 rfl (iz + 4) rfl 6 rfl (by decide) rfl ?_
              refine z_goto (tgt := 23) K dL_law_1616 (by decide) ?_
              refine z_sub [3, 4, 5, 6, 0] rfl ?_
              refine z_wid (kc' := (kc9 + 2)) (ks' := (ks9 + 12)) (by omega) (by omega) ?_
              exact IH (va_up (va_up (va_up C_37 97 (eI g 2694 (if kSpl f p1 p2 = 0 then mSav f past k else past))) 94 (.inr (9, [.ref (aD g 95), .ref (aD g 96), .ref (aD g 97), .int (iZ (if kSpl f p1 p2 = 0 then mKp k + 1 else k)), .ref (aD g 98), .int (iZ ty), .int (iZ (kSpl f p1 p2)), .int (iZ pt), .int (iZ fl), .ref (aD g 99), .int (iZ to)]))) 95 (eI g 449 (if kSpl f p1 p2 = 0 then mSplit f p1 p2 else f))) (if kSpl f p1 p2 = 0 then mSplit f p1 p2 else f) ft (if kSpl f p1 p2 = 0 then mSav f past k else past) tx td o2_38 (if kSpl f p1 p2 = 0 then mKp k + 1 else k) ty (kSpl f p1 p2) pt fl to (cap + 1) (iz + 4) (kc9 + 2) (ks9 + 12) (IW_cong hIn_486 (fun q hq => ((va_up_ne _ _ (by omega)).trans ((va_up_ne _ _ (by omega)).trans ((va_up_ne _ _ (by omega)).trans rfl))))) (PW_spl hP hcp) ((va_up_ne _ _ (by decide)).trans (va_up_eq _ 94 _)) (va_up_eq _ 95 _) ((va_up_ne _ _ (by decide)).trans ((va_up_ne _ _ (by decide)).trans ((va_up_ne _ _ (by decide)).trans hf_486_96))) ((va_up_ne _ _ (by decide)).trans ((va_up_ne _ _ (by decide)).trans (va_up_eq _ 97 _))) ((va_up_ne _ _ (by decide)).trans ((va_up_ne _ _ (by decide)).trans ((va_up_ne _ _ (by decide)).trans hf_486_98))) ((va_up_ne _ _ (by decide)).trans ((va_up_ne _ _ (by decide)).trans ((va_up_ne _ _ (by decide)).trans hf_486_99))) ((va_up_ne _ _ (by decide)).trans ((va_up_ne _ _ (by decide)).trans ((va_up_ne _ _ (by decide)).trans hO_486))) hRt (by omega) (by omega) (by omega)
            · skip
              exact absurd (hv_531.mpr (by rw [show (Int.toNat 0) = 0 by rfl, hov_486 c_522, if_pos c_522])) c_532
        · skip
          exact absurd rfl c_515
      by_cases sw_39_6 : sw9 = 6
      · skip
        refine z_top (6) sw_39_6 ?_
        refine z_tableIn (tgt := 540) K dL_law_39 (by decide) (by decide) (by decide) rfl (by decide) ?_
        have hk9_6 : 0 ≤ kCit f p1 p2 p3 ∧ kCit f p1 p2 p3 ≤ 3 := kCit_b f p1 p2 p3
        refine z_aload_n 541 K dL_law_540 rfl rfl 1 rfl ?_
        refine z_aload_n 542 K dL_law_541 rfl rfl 0 rfl ?_
        refine z_iload 544 K dL_law_542 rfl 4 rfl ?_
        refine z_iconst 545 K dL_law_544 rfl ?_
        refine z_iadd 546 K dL_law_545 rfl ?_
        refine z_sld 547 K hX hbl hbA (by omega) (by omega) (by omega) dL_law_546 rfl ?_
        refine z_top (p1) hp1.symm ?_
        refine z_aload_n 548 K dL_law_547 rfl rfl 0 rfl ?_
        refine z_iload 550 K dL_law_548 rfl 4 rfl ?_
        refine z_iconst 551 K dL_law_550 rfl ?_
        refine z_iadd 552 K dL_law_551 rfl ?_
        refine z_sld 553 K hX hbl hbA (by omega) (by omega) (by omega) dL_law_552 rfl ?_
        refine z_top (p2) hp2.symm ?_
        refine z_aload_n 554 K dL_law_553 rfl rfl 0 rfl ?_
        refine z_iload 556 K dL_law_554 rfl 4 rfl ?_
        refine z_iconst 557 K dL_law_556 rfl ?_
        refine z_iadd 558 K dL_law_557 rfl ?_
        refine z_sld 559 K hX hbl hbA (by omega) (by omega) (by omega) dL_law_558 rfl ?_
        refine z_top (p3) hp3.symm ?_
        refine z_aload_n 560 K dL_law_559 rfl rfl 3 rfl ?_
        refine z_vT (As := [.ref (aD g 0), .int (iZ p1), .int (iZ p2), .int (iZ p3), .ref (aD g 100)]) (rest := []) 563 K hNc (w_L_cite l g _ p1 p2 p3 o9 _ _ _ _ _ _ h100 hI hP (by omega) (by omega) (by omega) hlt) (vx_cwSW 5 K.1.2.2.2.2 gL_law_L_cite rfl rfl rfl (by decide +kernel) ⟨Nat.le_of_ble_eq_true rfl, Nat.le_of_ble_eq_true rfl⟩) rfl (Nat.le_of_ble_eq_true rfl) dL_law_560 rfl (law_hf (cap := cap) ⟨by omega, by omega⟩ (by omega) (by omega) (by decide) (by decide)) rfl (fun z_43 C_44 hp_560 => ?_)
        obtain ⟨hIn_560, hsm_560, ⟨o2_45, hO_560, hov_560⟩, hz_560⟩ := hp_560
        refine z_top (kCit f p1 p2 p3) hz_560 ?_
        have hf_560_94 : C_44 94 = .inr (9, [.ref (aD g 95), .ref (aD g 96), .ref (aD g 97), .int (iZ k), .ref (aD g 98), .int (iZ ty), .int (iZ th), .int (iZ pt), .int (iZ fl), .ref (aD g 99), .int (iZ to)]) := (hsm_560 94 (by omega) (by omega)).trans h94
        have hf_560_95 : C_44 95 = eI g 449 f := (hsm_560 95 (by omega) (by omega)).trans h95
        have hf_560_96 : C_44 96 = eI g 449 ft := (hsm_560 96 (by omega) (by omega)).trans h96
        have hf_560_97 : C_44 97 = eI g 2694 past := (hsm_560 97 (by omega) (by omega)).trans h97
        have hf_560_98 : C_44 98 = eI g 60 tx := (hsm_560 98 (by omega) (by omega)).trans h98
        have hf_560_99 : C_44 99 = eI g 12 td := (hsm_560 99 (by omega) (by omega)).trans h99
        refine z_istore (lv' := [(5, .int (iZ (kCit f p1 p2 p3))), (0, .ref b), (1, .ref (aD g 0)), (2, .ref (aD g 94)), (3, .ref (aD g 100)), (4, .int (iZ iz))]) 565 K dL_law_563 rfl (by decide) rfl ?_
        refine z_aload_n 566 K dL_law_565 rfl rfl 3 rfl ?_
        refine z_aload_n 567 K dL_law_566 rfl rfl 1 rfl ?_
        refine z_iload 569 K dL_law_567 rfl 5 rfl ?_
        refine z_iconst 570 K dL_law_569 rfl ?_
        refine z_iadd 571 K dL_law_570 rfl ?_
        refine z_sld 572 K hX hbl hbA (by omega) (by omega) (by omega) dL_law_571 rfl ?_
        refine z_top (p1) hp1.symm ?_
        refine z_aload_n 573 K dL_law_572 rfl rfl 1 rfl ?_
        refine z_iload 575 K dL_law_573 rfl 5 rfl ?_
        refine z_iconst 576 K dL_law_575 rfl ?_
        refine z_iadd 577 K dL_law_576 rfl ?_
        refine z_sld 578 K hX hbl hbA (by omega) (by omega) (by omega) dL_law_577 rfl ?_
        refine z_top (p2) hp2.symm ?_
        refine z_aload_n 579 K dL_law_578 rfl rfl 1 rfl ?_
        refine z_iload 581 K dL_law_579 rfl 5 rfl ?_
        refine z_iconst 582 K dL_law_581 rfl ?_
        refine z_iadd 583 K dL_law_582 rfl ?_
        refine z_sld 584 K hX hbl hbA (by omega) (by omega) (by omega) dL_law_583 rfl ?_
        refine z_top (p3) hp3.symm ?_
        refine z_vVi (As := [.int (iZ p1), .int (iZ p2), .int (iZ p3)]) (rest := []) 587 K 94 (by decide) hf_560_94 rfl rfl (m_X9_cite l g _ p1 p2 p3 k ty th pt fl to f past _ hf_560_94 hf_560_95 hf_560_97 hP.2.1 hP.1 (by omega) (by omega) (by omega)) (cwV 3 K.1.2.2.2.2 gL_law_X9_cite rfl rfl rfl (by decide +kernel) ⟨Nat.le_of_ble_eq_true rfl, Nat.le_of_ble_eq_true rfl⟩) rfl (Nat.le_of_ble_eq_true rfl) dL_law_584 rfl (law_hf (cap := cap) ⟨by omega, by omega⟩ (by omega) (by omega) (by decide) (by decide)) rfl (fun z_46 C_47 hp_584 => ?_)
        refine z_C hp_584.1 ?_
        refine z_top (if kCit f p1 p2 p3 = 0 then f (32 * p1 + 65) + 1 else 0) hp_584.2 ?_
        refine z_istore (lv' := [(6, .int (iZ (if kCit f p1 p2 p3 = 0 then f (32 * p1 + 65) + 1 else 0))), (5, .int (iZ (kCit f p1 p2 p3))), (0, .ref b), (1, .ref (aD g 0)), (2, .ref (aD g 94)), (3, .ref (aD g 100)), (4, .int (iZ iz))]) 589 K dL_law_587 rfl (by decide) rfl ?_
        refine z_aload_n 590 K dL_law_589 rfl rfl 4 rfl ?_
        refine z_vVi (As := []) (rest := []) 593 K 94 (by decide) ((va_up_ne _ _ (by decide)).trans (va_up_eq _ 94 _)) rfl rfl (m_X9_thrown l g _ (if kCit f p1 p2 p3 = 0 then mKp k + 1 else k) ty (kCit f p1 p2 p3) pt fl to ((va_up_ne _ _ (by decide)).trans (va_up_eq _ 94 _))) (cwV 0 K.1.2.2.2.2 gL_law_X9_thrown rfl rfl rfl (by decide +kernel) ⟨Nat.le_of_ble_eq_true rfl, Nat.le_of_ble_eq_true rfl⟩) rfl (Nat.le_of_ble_eq_true rfl) dL_law_590 rfl (law_hf (cap := cap) ⟨by omega, by omega⟩ (by omega) (by omega) (by decide) (by decide)) rfl (fun z_48 C_49 hp_590 => ?_)
        refine z_C hp_590.1 ?_
        refine z_top (kCit f p1 p2 p3) hp_590.2 ?_
        refine z_iload 595 K dL_law_593 rfl 1 rfl ?_
        refine z_icmp_eq (tgt := 600) 598 K dL_law_595 rfl (by decide) (by omega) (by omega) (fun c_595 => ?_) (fun c_595 => ?_)
        · skip
          refine z_iload 602 K dL_law_600 rfl 1 rfl ?_
          refine z_if_ne (tgt := 617) 605 K dL_law_602 rfl (by decide) (by omega) (fun c_602 => ?_) (fun c_602 => ?_)
          · skip
            refine z_goto (tgt := 1613) K dL_law_617 (by decide) ?_
            refine z_iinc (lv' := [(4, .int (iZ (iz + 4))), (6, .int (iZ (if kCit f p1 p2 p3 = 0 then f (32 * p1 + 65) + 1 else 0))), (5, .int (iZ (kCit f p1 p2 p3))), (0, .ref b), (1, .ref (aD g 0)), (2, .ref (aD g 94)), (3, .ref (aD g 100))]) 1616 K dL_law_1613 rfl (iz + 4) rfl 6 rfl (by decide) rfl ?_
            refine z_goto (tgt := 23) K dL_law_1616 (by decide) ?_
            refine z_sub [3, 4, 5, 6, 0] rfl ?_
            refine z_wid (kc' := (kc9 + 4)) (ks' := (ks9 + 24)) (by omega) (by omega) ?_
            exact IH (va_up (va_up (va_up C_44 97 (eI g 2694 (if kCit f p1 p2 p3 = 0 then mSav f past k else past))) 94 (.inr (9, [.ref (aD g 95), .ref (aD g 96), .ref (aD g 97), .int (iZ (if kCit f p1 p2 p3 = 0 then mKp k + 1 else k)), .ref (aD g 98), .int (iZ ty), .int (iZ (kCit f p1 p2 p3)), .int (iZ pt), .int (iZ fl), .ref (aD g 99), .int (iZ to)]))) 95 (eI g 449 (if kCit f p1 p2 p3 = 0 then mName f p1 p2 p3 else f))) (if kCit f p1 p2 p3 = 0 then mName f p1 p2 p3 else f) ft (if kCit f p1 p2 p3 = 0 then mSav f past k else past) tx td o2_45 (if kCit f p1 p2 p3 = 0 then mKp k + 1 else k) ty (kCit f p1 p2 p3) pt fl to (cap + 1) (iz + 4) (kc9 + 4) (ks9 + 24) (IW_cong hIn_560 (fun q hq => ((va_up_ne _ _ (by omega)).trans ((va_up_ne _ _ (by omega)).trans ((va_up_ne _ _ (by omega)).trans rfl))))) (PW_cit hP hcp) ((va_up_ne _ _ (by decide)).trans (va_up_eq _ 94 _)) (va_up_eq _ 95 _) ((va_up_ne _ _ (by decide)).trans ((va_up_ne _ _ (by decide)).trans ((va_up_ne _ _ (by decide)).trans hf_560_96))) ((va_up_ne _ _ (by decide)).trans ((va_up_ne _ _ (by decide)).trans (va_up_eq _ 97 _))) ((va_up_ne _ _ (by decide)).trans ((va_up_ne _ _ (by decide)).trans ((va_up_ne _ _ (by decide)).trans hf_560_98))) ((va_up_ne _ _ (by decide)).trans ((va_up_ne _ _ (by decide)).trans ((va_up_ne _ _ (by decide)).trans hf_560_99))) ((va_up_ne _ _ (by decide)).trans ((va_up_ne _ _ (by decide)).trans ((va_up_ne _ _ (by decide)).trans hO_560))) hRt (by omega) (by omega) (by omega)
          · skip
            refine z_aload_n 606 K dL_law_605 rfl rfl 5 rfl ?_
            refine z_iconst 607 K dL_law_606 rfl ?_
            refine z_lald (f := o2_45) 608 K 100 (by decide) ((va_up_ne _ _ (by decide)).trans ((va_up_ne _ _ (by decide)).trans ((va_up_ne _ _ (by decide)).trans hO_560))) (by decide) (by decide) (by decide) dL_law_607 rfl ?_
            refine z_iload 610 K dL_law_608 rfl 0 rfl ?_
            refine z_i2l 611 K dL_law_610 rfl ?_
            refine z_lcmp 612 K dL_law_611 rfl (fun v_611 hv_611 hr_611 => ?_)
            refine z_if_eq (tgt := 617) 615 K dL_law_612 rfl (by decide) (by omega) (fun c_612 => ?_) (fun c_612 => ?_)
            · skip
              refine z_goto (tgt := 1613) K dL_law_617 (by decide) ?_
              refine z_iinc (lv' := [(4, .int (iZ (iz + 4))), (6, .int (iZ (if kCit f p1 p2 p3 = 0 then f (32 * p1 + 65) + 1 else 0))), (5, .int (iZ (kCit f p1 p2 p3))), (0, .ref b), (1, .ref (aD g 0)), (2, .ref (aD g 94)), (3, .ref (aD g 100))]) 1616 K dL_law_1613 rfl (iz + 4) rfl 6 rfl (by decide) rfl ?_
              refine z_goto (tgt := 23) K dL_law_1616 (by decide) ?_
              refine z_sub [3, 4, 5, 6, 0] rfl ?_
              refine z_wid (kc' := (kc9 + 4)) (ks' := (ks9 + 24)) (by omega) (by omega) ?_
              exact IH (va_up (va_up (va_up C_44 97 (eI g 2694 (if kCit f p1 p2 p3 = 0 then mSav f past k else past))) 94 (.inr (9, [.ref (aD g 95), .ref (aD g 96), .ref (aD g 97), .int (iZ (if kCit f p1 p2 p3 = 0 then mKp k + 1 else k)), .ref (aD g 98), .int (iZ ty), .int (iZ (kCit f p1 p2 p3)), .int (iZ pt), .int (iZ fl), .ref (aD g 99), .int (iZ to)]))) 95 (eI g 449 (if kCit f p1 p2 p3 = 0 then mName f p1 p2 p3 else f))) (if kCit f p1 p2 p3 = 0 then mName f p1 p2 p3 else f) ft (if kCit f p1 p2 p3 = 0 then mSav f past k else past) tx td o2_45 (if kCit f p1 p2 p3 = 0 then mKp k + 1 else k) ty (kCit f p1 p2 p3) pt fl to (cap + 1) (iz + 4) (kc9 + 4) (ks9 + 24) (IW_cong hIn_560 (fun q hq => ((va_up_ne _ _ (by omega)).trans ((va_up_ne _ _ (by omega)).trans ((va_up_ne _ _ (by omega)).trans rfl))))) (PW_cit hP hcp) ((va_up_ne _ _ (by decide)).trans (va_up_eq _ 94 _)) (va_up_eq _ 95 _) ((va_up_ne _ _ (by decide)).trans ((va_up_ne _ _ (by decide)).trans ((va_up_ne _ _ (by decide)).trans hf_560_96))) ((va_up_ne _ _ (by decide)).trans ((va_up_ne _ _ (by decide)).trans (va_up_eq _ 97 _))) ((va_up_ne _ _ (by decide)).trans ((va_up_ne _ _ (by decide)).trans ((va_up_ne _ _ (by decide)).trans hf_560_98))) ((va_up_ne _ _ (by decide)).trans ((va_up_ne _ _ (by decide)).trans ((va_up_ne _ _ (by decide)).trans hf_560_99))) ((va_up_ne _ _ (by decide)).trans ((va_up_ne _ _ (by decide)).trans ((va_up_ne _ _ (by decide)).trans hO_560))) hRt (by omega) (by omega) (by omega)
            · skip
              exact absurd (hv_611.mpr (by rw [show (Int.toNat 0) = 0 by rfl, hov_560 c_602, if_pos c_602])) c_612
        · skip
          exact absurd rfl c_595
      by_cases sw_39_7 : sw9 = 7
      · skip
        refine z_top (7) sw_39_7 ?_
        refine z_tableIn (tgt := 620) K dL_law_39 (by decide) (by decide) (by decide) rfl (by decide) ?_
        have hk9_7 : 0 ≤ kPar p1 ∧ kPar p1 ≤ 3 := kPar_b p1
        refine z_aload_n 621 K dL_law_620 rfl rfl 1 rfl ?_
        refine z_aload_n 622 K dL_law_621 rfl rfl 0 rfl ?_
        refine z_iload 624 K dL_law_622 rfl 4 rfl ?_
        refine z_iconst 625 K dL_law_624 rfl ?_
        refine z_iadd 626 K dL_law_625 rfl ?_
        refine z_sld 627 K hX hbl hbA (by omega) (by omega) (by omega) dL_law_626 rfl ?_
        refine z_top (p1) hp1.symm ?_
        refine z_aload_n 628 K dL_law_627 rfl rfl 3 rfl ?_
        refine z_vT (As := [.ref (aD g 0), .int (iZ p1), .ref (aD g 100)]) (rest := []) 631 K hNc (w_L_clean l g _ p1 o9 _ _ _ _ _ _ h100 hI hP (by omega) hlt) (vx_cwSW 3 K.1.2.2.2.2 gL_law_L_clean rfl rfl rfl (by decide +kernel) ⟨Nat.le_of_ble_eq_true rfl, Nat.le_of_ble_eq_true rfl⟩) rfl (Nat.le_of_ble_eq_true rfl) dL_law_628 rfl (law_hf (cap := cap) ⟨by omega, by omega⟩ (by omega) (by omega) (by decide) (by decide)) rfl (fun z_50 C_51 hp_628 => ?_)
        obtain ⟨hIn_628, hsm_628, ⟨o2_52, hO_628, hov_628⟩, hz_628⟩ := hp_628
        refine z_top (kPar p1) hz_628 ?_
        have hf_628_94 : C_51 94 = .inr (9, [.ref (aD g 95), .ref (aD g 96), .ref (aD g 97), .int (iZ k), .ref (aD g 98), .int (iZ ty), .int (iZ th), .int (iZ pt), .int (iZ fl), .ref (aD g 99), .int (iZ to)]) := (hsm_628 94 (by omega) (by omega)).trans h94
        have hf_628_95 : C_51 95 = eI g 449 f := (hsm_628 95 (by omega) (by omega)).trans h95
        have hf_628_96 : C_51 96 = eI g 449 ft := (hsm_628 96 (by omega) (by omega)).trans h96
        have hf_628_97 : C_51 97 = eI g 2694 past := (hsm_628 97 (by omega) (by omega)).trans h97
        have hf_628_98 : C_51 98 = eI g 60 tx := (hsm_628 98 (by omega) (by omega)).trans h98
        have hf_628_99 : C_51 99 = eI g 12 td := (hsm_628 99 (by omega) (by omega)).trans h99
        refine z_istore (lv' := [(5, .int (iZ (kPar p1))), (0, .ref b), (1, .ref (aD g 0)), (2, .ref (aD g 94)), (3, .ref (aD g 100)), (4, .int (iZ iz))]) 633 K dL_law_631 rfl (by decide) rfl ?_
        refine z_aload_n 634 K dL_law_633 rfl rfl 3 rfl ?_
        refine z_aload_n 635 K dL_law_634 rfl rfl 1 rfl ?_
        refine z_iload 637 K dL_law_635 rfl 5 rfl ?_
        refine z_iconst 638 K dL_law_637 rfl ?_
        refine z_iadd 639 K dL_law_638 rfl ?_
        refine z_sld 640 K hX hbl hbA (by omega) (by omega) (by omega) dL_law_639 rfl ?_
        refine z_top (p1) hp1.symm ?_
        refine z_vVi (As := [.int (iZ p1)]) (rest := []) 643 K 94 (by decide) hf_628_94 rfl rfl (m_X9_clean l g _ p1 k ty th pt fl to f past _ hf_628_94 hf_628_95 hf_628_97 hP.2.1 hP.1 (by omega)) (cwV 1 K.1.2.2.2.2 gL_law_X9_clean rfl rfl rfl (by decide +kernel) ⟨Nat.le_of_ble_eq_true rfl, Nat.le_of_ble_eq_true rfl⟩) rfl (Nat.le_of_ble_eq_true rfl) dL_law_640 rfl (law_hf (cap := cap) ⟨by omega, by omega⟩ (by omega) (by omega) (by decide) (by decide)) rfl (fun z_53 C_54 hp_640 => ?_)
        refine z_C hp_640.1 ?_
        refine z_top (if kPar p1 = 0 then f (32 * p1 + 65) - mLeft f p1 (f (32 * p1 + 65)) else 0) hp_640.2 ?_
        refine z_istore (lv' := [(6, .int (iZ (if kPar p1 = 0 then f (32 * p1 + 65) - mLeft f p1 (f (32 * p1 + 65)) else 0))), (5, .int (iZ (kPar p1))), (0, .ref b), (1, .ref (aD g 0)), (2, .ref (aD g 94)), (3, .ref (aD g 100)), (4, .int (iZ iz))]) 645 K dL_law_643 rfl (by decide) rfl ?_
        refine z_aload_n 646 K dL_law_645 rfl rfl 4 rfl ?_
        refine z_vVi (As := []) (rest := []) 649 K 94 (by decide) ((va_up_ne _ _ (by decide)).trans (va_up_eq _ 94 _)) rfl rfl (m_X9_thrown l g _ (if kPar p1 = 0 then mKp k + 1 else k) ty (kPar p1) pt fl to ((va_up_ne _ _ (by decide)).trans (va_up_eq _ 94 _))) (cwV 0 K.1.2.2.2.2 gL_law_X9_thrown rfl rfl rfl (by decide +kernel) ⟨Nat.le_of_ble_eq_true rfl, Nat.le_of_ble_eq_true rfl⟩) rfl (Nat.le_of_ble_eq_true rfl) dL_law_646 rfl (law_hf (cap := cap) ⟨by omega, by omega⟩ (by omega) (by omega) (by decide) (by decide)) rfl (fun z_55 C_56 hp_646 => ?_)
        refine z_C hp_646.1 ?_
        refine z_top (kPar p1) hp_646.2 ?_
        refine z_iload 651 K dL_law_649 rfl 1 rfl ?_
        refine z_icmp_eq (tgt := 656) 654 K dL_law_651 rfl (by decide) (by omega) (by omega) (fun c_651 => ?_) (fun c_651 => ?_)
        · skip
          refine z_iload 658 K dL_law_656 rfl 1 rfl ?_
          refine z_if_ne (tgt := 673) 661 K dL_law_658 rfl (by decide) (by omega) (fun c_658 => ?_) (fun c_658 => ?_)
          · skip
            refine z_goto (tgt := 1613) K dL_law_673 (by decide) ?_
            refine z_iinc (lv' := [(4, .int (iZ (iz + 4))), (6, .int (iZ (if kPar p1 = 0 then f (32 * p1 + 65) - mLeft f p1 (f (32 * p1 + 65)) else 0))), (5, .int (iZ (kPar p1))), (0, .ref b), (1, .ref (aD g 0)), (2, .ref (aD g 94)), (3, .ref (aD g 100))]) 1616 K dL_law_1613 rfl (iz + 4) rfl 6 rfl (by decide) rfl ?_
            refine z_goto (tgt := 23) K dL_law_1616 (by decide) ?_
            refine z_sub [3, 4, 5, 6, 0] rfl ?_
            refine z_wid (kc' := (kc9 + 1)) (ks' := (ks9 + 6)) (by omega) (by omega) ?_
            exact IH (va_up (va_up (va_up C_51 97 (eI g 2694 (if kPar p1 = 0 then mSav f past k else past))) 94 (.inr (9, [.ref (aD g 95), .ref (aD g 96), .ref (aD g 97), .int (iZ (if kPar p1 = 0 then mKp k + 1 else k)), .ref (aD g 98), .int (iZ ty), .int (iZ (kPar p1)), .int (iZ pt), .int (iZ fl), .ref (aD g 99), .int (iZ to)]))) 95 (eI g 449 (if kPar p1 = 0 then mClean f p1 else f))) (if kPar p1 = 0 then mClean f p1 else f) ft (if kPar p1 = 0 then mSav f past k else past) tx td o2_52 (if kPar p1 = 0 then mKp k + 1 else k) ty (kPar p1) pt fl to (cap + 1) (iz + 4) (kc9 + 1) (ks9 + 6) (IW_cong hIn_628 (fun q hq => ((va_up_ne _ _ (by omega)).trans ((va_up_ne _ _ (by omega)).trans ((va_up_ne _ _ (by omega)).trans rfl))))) (PW_cln hP hI hcp) ((va_up_ne _ _ (by decide)).trans (va_up_eq _ 94 _)) (va_up_eq _ 95 _) ((va_up_ne _ _ (by decide)).trans ((va_up_ne _ _ (by decide)).trans ((va_up_ne _ _ (by decide)).trans hf_628_96))) ((va_up_ne _ _ (by decide)).trans ((va_up_ne _ _ (by decide)).trans (va_up_eq _ 97 _))) ((va_up_ne _ _ (by decide)).trans ((va_up_ne _ _ (by decide)).trans ((va_up_ne _ _ (by decide)).trans hf_628_98))) ((va_up_ne _ _ (by decide)).trans ((va_up_ne _ _ (by decide)).trans ((va_up_ne _ _ (by decide)).trans hf_628_99))) ((va_up_ne _ _ (by decide)).trans ((va_up_ne _ _ (by decide)).trans ((va_up_ne _ _ (by decide)).trans hO_628))) hRt (by omega) (by omega) (by omega)
          · skip
            refine z_aload_n 662 K dL_law_661 rfl rfl 5 rfl ?_
            refine z_iconst 663 K dL_law_662 rfl ?_
            refine z_lald (f := o2_52) 664 K 100 (by decide) ((va_up_ne _ _ (by decide)).trans ((va_up_ne _ _ (by decide)).trans ((va_up_ne _ _ (by decide)).trans hO_628))) (by decide) (by decide) (by decide) dL_law_663 rfl ?_
            refine z_iload 666 K dL_law_664 rfl 0 rfl ?_
            refine z_i2l 667 K dL_law_666 rfl ?_
            refine z_lcmp 668 K dL_law_667 rfl (fun v_667 hv_667 hr_667 => ?_)
            refine z_if_eq (tgt := 673) 671 K dL_law_668 rfl (by decide) (by omega) (fun c_668 => ?_) (fun c_668 => ?_)
            · skip
              refine z_goto (tgt := 1613) K dL_law_673 (by decide) ?_
              refine z_iinc (lv' := [(4, .int (iZ (iz + 4))), (6, .int (iZ (if kPar p1 = 0 then f (32 * p1 + 65) - mLeft f p1 (f (32 * p1 + 65)) else 0))), (5, .int (iZ (kPar p1))), (0, .ref b), (1, .ref (aD g 0)), (2, .ref (aD g 94)), (3, .ref (aD g 100))]) 1616 K dL_law_1613 rfl (iz + 4) rfl 6 rfl (by decide) rfl ?_
              refine z_goto (tgt := 23) K dL_law_1616 (by decide) ?_
              refine z_sub [3, 4, 5, 6, 0] rfl ?_
              refine z_wid (kc' := (kc9 + 1)) (ks' := (ks9 + 6)) (by omega) (by omega) ?_
              exact IH (va_up (va_up (va_up C_51 97 (eI g 2694 (if kPar p1 = 0 then mSav f past k else past))) 94 (.inr (9, [.ref (aD g 95), .ref (aD g 96), .ref (aD g 97), .int (iZ (if kPar p1 = 0 then mKp k + 1 else k)), .ref (aD g 98), .int (iZ ty), .int (iZ (kPar p1)), .int (iZ pt), .int (iZ fl), .ref (aD g 99), .int (iZ to)]))) 95 (eI g 449 (if kPar p1 = 0 then mClean f p1 else f))) (if kPar p1 = 0 then mClean f p1 else f) ft (if kPar p1 = 0 then mSav f past k else past) tx td o2_52 (if kPar p1 = 0 then mKp k + 1 else k) ty (kPar p1) pt fl to (cap + 1) (iz + 4) (kc9 + 1) (ks9 + 6) (IW_cong hIn_628 (fun q hq => ((va_up_ne _ _ (by omega)).trans ((va_up_ne _ _ (by omega)).trans ((va_up_ne _ _ (by omega)).trans rfl))))) (PW_cln hP hI hcp) ((va_up_ne _ _ (by decide)).trans (va_up_eq _ 94 _)) (va_up_eq _ 95 _) ((va_up_ne _ _ (by decide)).trans ((va_up_ne _ _ (by decide)).trans ((va_up_ne _ _ (by decide)).trans hf_628_96))) ((va_up_ne _ _ (by decide)).trans ((va_up_ne _ _ (by decide)).trans (va_up_eq _ 97 _))) ((va_up_ne _ _ (by decide)).trans ((va_up_ne _ _ (by decide)).trans ((va_up_ne _ _ (by decide)).trans hf_628_98))) ((va_up_ne _ _ (by decide)).trans ((va_up_ne _ _ (by decide)).trans ((va_up_ne _ _ (by decide)).trans hf_628_99))) ((va_up_ne _ _ (by decide)).trans ((va_up_ne _ _ (by decide)).trans ((va_up_ne _ _ (by decide)).trans hO_628))) hRt (by omega) (by omega) (by omega)
            · skip
              exact absurd (hv_667.mpr (by rw [show (Int.toNat 0) = 0 by rfl, hov_628 c_658, if_pos c_658])) c_668
        · skip
          exact absurd rfl c_651
      by_cases sw_39_8 : sw9 = 8
      · skip
        refine z_top (8) sw_39_8 ?_
        refine z_tableIn (tgt := 676) K dL_law_39 (by decide) (by decide) (by decide) rfl (by decide) ?_
        have hk9_8 : 0 ≤ kPar p1 ∧ kPar p1 ≤ 3 := kPar_b p1
        refine z_aload_n 677 K dL_law_676 rfl rfl 1 rfl ?_
        refine z_aload_n 678 K dL_law_677 rfl rfl 0 rfl ?_
        refine z_iload 680 K dL_law_678 rfl 4 rfl ?_
        refine z_iconst 681 K dL_law_680 rfl ?_
        refine z_iadd 682 K dL_law_681 rfl ?_
        refine z_sld 683 K hX hbl hbA (by omega) (by omega) (by omega) dL_law_682 rfl ?_
        refine z_top (p1) hp1.symm ?_
        refine z_aload_n 684 K dL_law_683 rfl rfl 3 rfl ?_
        refine z_vT (As := [.ref (aD g 0), .int (iZ p1), .ref (aD g 100)]) (rest := []) 687 K hNc (w_L_print l g _ p1 o9 _ _ _ _ _ _ h100 hI hP (by omega) hlt) (vx_cwSW 3 K.1.2.2.2.2 gL_law_L_print rfl rfl rfl (by decide +kernel) ⟨Nat.le_of_ble_eq_true rfl, Nat.le_of_ble_eq_true rfl⟩) rfl (Nat.le_of_ble_eq_true rfl) dL_law_684 rfl (law_hf (cap := cap) ⟨by omega, by omega⟩ (by omega) (by omega) (by decide) (by decide)) rfl (fun z_57 C_58 hp_684 => ?_)
        obtain ⟨hIn_684, hsm_684, ⟨o2_59, hO_684, hov_684⟩, hz_684⟩ := hp_684
        refine z_top (kPar p1) hz_684 ?_
        have hf_684_94 : C_58 94 = .inr (9, [.ref (aD g 95), .ref (aD g 96), .ref (aD g 97), .int (iZ k), .ref (aD g 98), .int (iZ ty), .int (iZ th), .int (iZ pt), .int (iZ fl), .ref (aD g 99), .int (iZ to)]) := (hsm_684 94 (by omega) (by omega)).trans h94
        have hf_684_95 : C_58 95 = eI g 449 f := (hsm_684 95 (by omega) (by omega)).trans h95
        have hf_684_96 : C_58 96 = eI g 449 ft := (hsm_684 96 (by omega) (by omega)).trans h96
        have hf_684_97 : C_58 97 = eI g 2694 past := (hsm_684 97 (by omega) (by omega)).trans h97
        have hf_684_98 : C_58 98 = eI g 60 tx := (hsm_684 98 (by omega) (by omega)).trans h98
        have hf_684_99 : C_58 99 = eI g 12 td := (hsm_684 99 (by omega) (by omega)).trans h99
        refine z_istore (lv' := [(5, .int (iZ (kPar p1))), (0, .ref b), (1, .ref (aD g 0)), (2, .ref (aD g 94)), (3, .ref (aD g 100)), (4, .int (iZ iz))]) 689 K dL_law_687 rfl (by decide) rfl ?_
        refine z_aload_n 690 K dL_law_689 rfl rfl 3 rfl ?_
        refine z_aload_n 691 K dL_law_690 rfl rfl 1 rfl ?_
        refine z_iload 693 K dL_law_691 rfl 5 rfl ?_
        refine z_iconst 694 K dL_law_693 rfl ?_
        refine z_iadd 695 K dL_law_694 rfl ?_
        refine z_sld 696 K hX hbl hbA (by omega) (by omega) (by omega) dL_law_695 rfl ?_
        refine z_top (p1) hp1.symm ?_
        refine z_vVi (As := [.int (iZ p1)]) (rest := []) 699 K 94 (by decide) hf_684_94 rfl rfl (m_X9_print l g _ p1 k ty th pt fl to f past _ hf_684_94 hf_684_95 hf_684_97 hP.2.1 hP.1 (by omega)) (cwV 1 K.1.2.2.2.2 gL_law_X9_print rfl rfl rfl (by decide +kernel) ⟨Nat.le_of_ble_eq_true rfl, Nat.le_of_ble_eq_true rfl⟩) rfl (Nat.le_of_ble_eq_true rfl) dL_law_696 rfl (law_hf (cap := cap) ⟨by omega, by omega⟩ (by omega) (by omega) (by decide) (by decide)) rfl (fun z_60 C_61 hp_696 => ?_)
        refine z_C hp_696.1 ?_
        refine z_top (if kPar p1 = 0 then b2i (sStale f p1) else 0) hp_696.2 ?_
        refine z_istore (lv' := [(6, .int (iZ (if kPar p1 = 0 then b2i (sStale f p1) else 0))), (5, .int (iZ (kPar p1))), (0, .ref b), (1, .ref (aD g 0)), (2, .ref (aD g 94)), (3, .ref (aD g 100)), (4, .int (iZ iz))]) 701 K dL_law_699 rfl (by decide) rfl ?_
        refine z_aload_n 702 K dL_law_701 rfl rfl 4 rfl ?_
        refine z_vVi (As := []) (rest := []) 705 K 94 (by decide) ((va_up_ne _ _ (by decide)).trans (va_up_eq _ 94 _)) rfl rfl (m_X9_thrown l g _ (if kPar p1 = 0 then mKp k + 1 else k) ty (kPar p1) pt fl to ((va_up_ne _ _ (by decide)).trans (va_up_eq _ 94 _))) (cwV 0 K.1.2.2.2.2 gL_law_X9_thrown rfl rfl rfl (by decide +kernel) ⟨Nat.le_of_ble_eq_true rfl, Nat.le_of_ble_eq_true rfl⟩) rfl (Nat.le_of_ble_eq_true rfl) dL_law_702 rfl (law_hf (cap := cap) ⟨by omega, by omega⟩ (by omega) (by omega) (by decide) (by decide)) rfl (fun z_62 C_63 hp_702 => ?_)
        refine z_C hp_702.1 ?_
        refine z_top (kPar p1) hp_702.2 ?_
        refine z_iload 707 K dL_law_705 rfl 1 rfl ?_
        refine z_icmp_eq (tgt := 712) 710 K dL_law_707 rfl (by decide) (by omega) (by omega) (fun c_707 => ?_) (fun c_707 => ?_)
        · skip
          refine z_iload 714 K dL_law_712 rfl 1 rfl ?_
          refine z_if_ne (tgt := 729) 717 K dL_law_714 rfl (by decide) (by omega) (fun c_714 => ?_) (fun c_714 => ?_)
          · skip
            refine z_goto (tgt := 1613) K dL_law_729 (by decide) ?_
            refine z_iinc (lv' := [(4, .int (iZ (iz + 4))), (6, .int (iZ (if kPar p1 = 0 then b2i (sStale f p1) else 0))), (5, .int (iZ (kPar p1))), (0, .ref b), (1, .ref (aD g 0)), (2, .ref (aD g 94)), (3, .ref (aD g 100))]) 1616 K dL_law_1613 rfl (iz + 4) rfl 6 rfl (by decide) rfl ?_
            refine z_goto (tgt := 23) K dL_law_1616 (by decide) ?_
            refine z_sub [3, 4, 5, 6, 0] rfl ?_
            refine z_wid (kc' := (kc9 + 1)) (ks' := (ks9 + 6)) (by omega) (by omega) ?_
            exact IH (va_up (va_up (va_up C_58 97 (eI g 2694 (if kPar p1 = 0 then mSav f past k else past))) 94 (.inr (9, [.ref (aD g 95), .ref (aD g 96), .ref (aD g 97), .int (iZ (if kPar p1 = 0 then mKp k + 1 else k)), .ref (aD g 98), .int (iZ ty), .int (iZ (kPar p1)), .int (iZ pt), .int (iZ fl), .ref (aD g 99), .int (iZ to)]))) 95 (eI g 449 (if kPar p1 = 0 then mPrint f p1 else f))) (if kPar p1 = 0 then mPrint f p1 else f) ft (if kPar p1 = 0 then mSav f past k else past) tx td o2_59 (if kPar p1 = 0 then mKp k + 1 else k) ty (kPar p1) pt fl to (cap + 1) (iz + 4) (kc9 + 1) (ks9 + 6) (IW_cong hIn_684 (fun q hq => ((va_up_ne _ _ (by omega)).trans ((va_up_ne _ _ (by omega)).trans ((va_up_ne _ _ (by omega)).trans rfl))))) (PW_prt hP hcp) ((va_up_ne _ _ (by decide)).trans (va_up_eq _ 94 _)) (va_up_eq _ 95 _) ((va_up_ne _ _ (by decide)).trans ((va_up_ne _ _ (by decide)).trans ((va_up_ne _ _ (by decide)).trans hf_684_96))) ((va_up_ne _ _ (by decide)).trans ((va_up_ne _ _ (by decide)).trans (va_up_eq _ 97 _))) ((va_up_ne _ _ (by decide)).trans ((va_up_ne _ _ (by decide)).trans ((va_up_ne _ _ (by decide)).trans hf_684_98))) ((va_up_ne _ _ (by decide)).trans ((va_up_ne _ _ (by decide)).trans ((va_up_ne _ _ (by decide)).trans hf_684_99))) ((va_up_ne _ _ (by decide)).trans ((va_up_ne _ _ (by decide)).trans ((va_up_ne _ _ (by decide)).trans hO_684))) hRt (by omega) (by omega) (by omega)
          · skip
            refine z_aload_n 718 K dL_law_717 rfl rfl 5 rfl ?_
            refine z_iconst 719 K dL_law_718 rfl ?_
            refine z_lald (f := o2_59) 720 K 100 (by decide) ((va_up_ne _ _ (by decide)).trans ((va_up_ne _ _ (by decide)).trans ((va_up_ne _ _ (by decide)).trans hO_684))) (by decide) (by decide) (by decide) dL_law_719 rfl ?_
            refine z_iload 722 K dL_law_720 rfl 0 rfl ?_
            refine z_i2l 723 K dL_law_722 rfl ?_
            refine z_lcmp 724 K dL_law_723 rfl (fun v_723 hv_723 hr_723 => ?_)
            refine z_if_eq (tgt := 729) 727 K dL_law_724 rfl (by decide) (by omega) (fun c_724 => ?_) (fun c_724 => ?_)
            · skip
              refine z_goto (tgt := 1613) K dL_law_729 (by decide) ?_
              refine z_iinc (lv' := [(4, .int (iZ (iz + 4))), (6, .int (iZ (if kPar p1 = 0 then b2i (sStale f p1) else 0))), (5, .int (iZ (kPar p1))), (0, .ref b), (1, .ref (aD g 0)), (2, .ref (aD g 94)), (3, .ref (aD g 100))]) 1616 K dL_law_1613 rfl (iz + 4) rfl 6 rfl (by decide) rfl ?_
              refine z_goto (tgt := 23) K dL_law_1616 (by decide) ?_
              refine z_sub [3, 4, 5, 6, 0] rfl ?_
              refine z_wid (kc' := (kc9 + 1)) (ks' := (ks9 + 6)) (by omega) (by omega) ?_
              exact IH (va_up (va_up (va_up C_58 97 (eI g 2694 (if kPar p1 = 0 then mSav f past k else past))) 94 (.inr (9, [.ref (aD g 95), .ref (aD g 96), .ref (aD g 97), .int (iZ (if kPar p1 = 0 then mKp k + 1 else k)), .ref (aD g 98), .int (iZ ty), .int (iZ (kPar p1)), .int (iZ pt), .int (iZ fl), .ref (aD g 99), .int (iZ to)]))) 95 (eI g 449 (if kPar p1 = 0 then mPrint f p1 else f))) (if kPar p1 = 0 then mPrint f p1 else f) ft (if kPar p1 = 0 then mSav f past k else past) tx td o2_59 (if kPar p1 = 0 then mKp k + 1 else k) ty (kPar p1) pt fl to (cap + 1) (iz + 4) (kc9 + 1) (ks9 + 6) (IW_cong hIn_684 (fun q hq => ((va_up_ne _ _ (by omega)).trans ((va_up_ne _ _ (by omega)).trans ((va_up_ne _ _ (by omega)).trans rfl))))) (PW_prt hP hcp) ((va_up_ne _ _ (by decide)).trans (va_up_eq _ 94 _)) (va_up_eq _ 95 _) ((va_up_ne _ _ (by decide)).trans ((va_up_ne _ _ (by decide)).trans ((va_up_ne _ _ (by decide)).trans hf_684_96))) ((va_up_ne _ _ (by decide)).trans ((va_up_ne _ _ (by decide)).trans (va_up_eq _ 97 _))) ((va_up_ne _ _ (by decide)).trans ((va_up_ne _ _ (by decide)).trans ((va_up_ne _ _ (by decide)).trans hf_684_98))) ((va_up_ne _ _ (by decide)).trans ((va_up_ne _ _ (by decide)).trans ((va_up_ne _ _ (by decide)).trans hf_684_99))) ((va_up_ne _ _ (by decide)).trans ((va_up_ne _ _ (by decide)).trans ((va_up_ne _ _ (by decide)).trans hO_684))) hRt (by omega) (by omega) (by omega)
            · skip
              exact absurd (hv_723.mpr (by rw [show (Int.toNat 0) = 0 by rfl, hov_684 c_714, if_pos c_714])) c_724
        · skip
          exact absurd rfl c_707
      by_cases sw_39_9 : sw9 = 9
      · skip
        refine z_top (9) sw_39_9 ?_
        refine z_tableIn (tgt := 732) K dL_law_39 (by decide) (by decide) (by decide) rfl (by decide) ?_
        have hk9_9 : 0 ≤ kSet p1 ∧ kSet p1 ≤ 3 := kSet_b p1
        refine z_aload_n 733 K dL_law_732 rfl rfl 1 rfl ?_
        refine z_aload_n 734 K dL_law_733 rfl rfl 0 rfl ?_
        refine z_iload 736 K dL_law_734 rfl 4 rfl ?_
        refine z_iconst 737 K dL_law_736 rfl ?_
        refine z_iadd 738 K dL_law_737 rfl ?_
        refine z_sld 739 K hX hbl hbA (by omega) (by omega) (by omega) dL_law_738 rfl ?_
        refine z_top (p1) hp1.symm ?_
        refine z_aload_n 740 K dL_law_739 rfl rfl 3 rfl ?_
        refine z_vT (As := [.ref (aD g 0), .int (iZ p1), .ref (aD g 100)]) (rest := []) 743 K hNc (w_L_set l g _ p1 o9 _ _ _ _ _ _ h100 hI hP (by omega) hlt) (vx_cwSW 3 K.1.2.2.2.2 gL_law_L_set rfl rfl rfl (by decide +kernel) ⟨Nat.le_of_ble_eq_true rfl, Nat.le_of_ble_eq_true rfl⟩) rfl (Nat.le_of_ble_eq_true rfl) dL_law_740 rfl (law_hf (cap := cap) ⟨by omega, by omega⟩ (by omega) (by omega) (by decide) (by decide)) rfl (fun z_64 C_65 hp_740 => ?_)
        obtain ⟨hIn_740, hsm_740, ⟨o2_66, hO_740, hov_740⟩, hz_740⟩ := hp_740
        refine z_top (kSet p1) hz_740 ?_
        have hf_740_94 : C_65 94 = .inr (9, [.ref (aD g 95), .ref (aD g 96), .ref (aD g 97), .int (iZ k), .ref (aD g 98), .int (iZ ty), .int (iZ th), .int (iZ pt), .int (iZ fl), .ref (aD g 99), .int (iZ to)]) := (hsm_740 94 (by omega) (by omega)).trans h94
        have hf_740_95 : C_65 95 = eI g 449 f := (hsm_740 95 (by omega) (by omega)).trans h95
        have hf_740_96 : C_65 96 = eI g 449 ft := (hsm_740 96 (by omega) (by omega)).trans h96
        have hf_740_97 : C_65 97 = eI g 2694 past := (hsm_740 97 (by omega) (by omega)).trans h97
        have hf_740_98 : C_65 98 = eI g 60 tx := (hsm_740 98 (by omega) (by omega)).trans h98
        have hf_740_99 : C_65 99 = eI g 12 td := (hsm_740 99 (by omega) (by omega)).trans h99
        refine z_istore (lv' := [(5, .int (iZ (kSet p1))), (0, .ref b), (1, .ref (aD g 0)), (2, .ref (aD g 94)), (3, .ref (aD g 100)), (4, .int (iZ iz))]) 745 K dL_law_743 rfl (by decide) rfl ?_
        refine z_aload_n 746 K dL_law_745 rfl rfl 3 rfl ?_
        refine z_aload_n 747 K dL_law_746 rfl rfl 1 rfl ?_
        refine z_iload 749 K dL_law_747 rfl 5 rfl ?_
        refine z_iconst 750 K dL_law_749 rfl ?_
        refine z_iadd 751 K dL_law_750 rfl ?_
        refine z_sld 752 K hX hbl hbA (by omega) (by omega) (by omega) dL_law_751 rfl ?_
        refine z_top (p1) hp1.symm ?_
        refine z_vVi (As := [.int (iZ p1)]) (rest := []) 755 K 94 (by decide) hf_740_94 rfl rfl (m_X9_set l g _ p1 k ty th pt fl to f past _ hf_740_94 hf_740_95 hf_740_97 hP.2.1 hP.1 (by omega)) (cwV 1 K.1.2.2.2.2 gL_law_X9_set rfl rfl rfl (by decide +kernel) ⟨Nat.le_of_ble_eq_true rfl, Nat.le_of_ble_eq_true rfl⟩) rfl (Nat.le_of_ble_eq_true rfl) dL_law_752 rfl (law_hf (cap := cap) ⟨by omega, by omega⟩ (by omega) (by omega) (by decide) (by decide)) rfl (fun z_67 C_68 hp_752 => ?_)
        refine z_C hp_752.1 ?_
        refine z_top (if kSet p1 = 0 then f 0 else 0) hp_752.2 ?_
        refine z_istore (lv' := [(6, .int (iZ (if kSet p1 = 0 then f 0 else 0))), (5, .int (iZ (kSet p1))), (0, .ref b), (1, .ref (aD g 0)), (2, .ref (aD g 94)), (3, .ref (aD g 100)), (4, .int (iZ iz))]) 757 K dL_law_755 rfl (by decide) rfl ?_
        refine z_aload_n 758 K dL_law_757 rfl rfl 4 rfl ?_
        refine z_vVi (As := []) (rest := []) 761 K 94 (by decide) ((va_up_ne _ _ (by decide)).trans (va_up_eq _ 94 _)) rfl rfl (m_X9_thrown l g _ (if kSet p1 = 0 then mKp k + 1 else k) ty (kSet p1) pt fl to ((va_up_ne _ _ (by decide)).trans (va_up_eq _ 94 _))) (cwV 0 K.1.2.2.2.2 gL_law_X9_thrown rfl rfl rfl (by decide +kernel) ⟨Nat.le_of_ble_eq_true rfl, Nat.le_of_ble_eq_true rfl⟩) rfl (Nat.le_of_ble_eq_true rfl) dL_law_758 rfl (law_hf (cap := cap) ⟨by omega, by omega⟩ (by omega) (by omega) (by decide) (by decide)) rfl (fun z_69 C_70 hp_758 => ?_)
        refine z_C hp_758.1 ?_
        refine z_top (kSet p1) hp_758.2 ?_
        refine z_iload 763 K dL_law_761 rfl 1 rfl ?_
        refine z_icmp_eq (tgt := 768) 766 K dL_law_763 rfl (by decide) (by omega) (by omega) (fun c_763 => ?_) (fun c_763 => ?_)
        · skip
          refine z_iload 770 K dL_law_768 rfl 1 rfl ?_
          refine z_if_ne (tgt := 785) 773 K dL_law_770 rfl (by decide) (by omega) (fun c_770 => ?_) (fun c_770 => ?_)
          · skip
            refine z_goto (tgt := 1613) K dL_law_785 (by decide) ?_
            refine z_iinc (lv' := [(4, .int (iZ (iz + 4))), (6, .int (iZ (if kSet p1 = 0 then f 0 else 0))), (5, .int (iZ (kSet p1))), (0, .ref b), (1, .ref (aD g 0)), (2, .ref (aD g 94)), (3, .ref (aD g 100))]) 1616 K dL_law_1613 rfl (iz + 4) rfl 6 rfl (by decide) rfl ?_
            refine z_goto (tgt := 23) K dL_law_1616 (by decide) ?_
            refine z_sub [3, 4, 5, 6, 0] rfl ?_
            refine z_wid (kc' := (kc9 + 1)) (ks' := (ks9 + 6)) (by omega) (by omega) ?_
            exact IH (va_up (va_up (va_up C_65 97 (eI g 2694 (if kSet p1 = 0 then mSav f past k else past))) 94 (.inr (9, [.ref (aD g 95), .ref (aD g 96), .ref (aD g 97), .int (iZ (if kSet p1 = 0 then mKp k + 1 else k)), .ref (aD g 98), .int (iZ ty), .int (iZ (kSet p1)), .int (iZ pt), .int (iZ fl), .ref (aD g 99), .int (iZ to)]))) 95 (eI g 449 (if kSet p1 = 0 then zu f 0 p1 else f))) (if kSet p1 = 0 then zu f 0 p1 else f) ft (if kSet p1 = 0 then mSav f past k else past) tx td o2_66 (if kSet p1 = 0 then mKp k + 1 else k) ty (kSet p1) pt fl to (cap + 1) (iz + 4) (kc9 + 1) (ks9 + 6) (IW_cong hIn_740 (fun q hq => ((va_up_ne _ _ (by omega)).trans ((va_up_ne _ _ (by omega)).trans ((va_up_ne _ _ (by omega)).trans rfl))))) (PW_set hP hcp) ((va_up_ne _ _ (by decide)).trans (va_up_eq _ 94 _)) (va_up_eq _ 95 _) ((va_up_ne _ _ (by decide)).trans ((va_up_ne _ _ (by decide)).trans ((va_up_ne _ _ (by decide)).trans hf_740_96))) ((va_up_ne _ _ (by decide)).trans ((va_up_ne _ _ (by decide)).trans (va_up_eq _ 97 _))) ((va_up_ne _ _ (by decide)).trans ((va_up_ne _ _ (by decide)).trans ((va_up_ne _ _ (by decide)).trans hf_740_98))) ((va_up_ne _ _ (by decide)).trans ((va_up_ne _ _ (by decide)).trans ((va_up_ne _ _ (by decide)).trans hf_740_99))) ((va_up_ne _ _ (by decide)).trans ((va_up_ne _ _ (by decide)).trans ((va_up_ne _ _ (by decide)).trans hO_740))) hRt (by omega) (by omega) (by omega)
          · skip
            refine z_aload_n 774 K dL_law_773 rfl rfl 5 rfl ?_
            refine z_iconst 775 K dL_law_774 rfl ?_
            refine z_lald (f := o2_66) 776 K 100 (by decide) ((va_up_ne _ _ (by decide)).trans ((va_up_ne _ _ (by decide)).trans ((va_up_ne _ _ (by decide)).trans hO_740))) (by decide) (by decide) (by decide) dL_law_775 rfl ?_
            refine z_iload 778 K dL_law_776 rfl 0 rfl ?_
            refine z_i2l 779 K dL_law_778 rfl ?_
            refine z_lcmp 780 K dL_law_779 rfl (fun v_779 hv_779 hr_779 => ?_)
            refine z_if_eq (tgt := 785) 783 K dL_law_780 rfl (by decide) (by omega) (fun c_780 => ?_) (fun c_780 => ?_)
            · skip
              refine z_goto (tgt := 1613) K dL_law_785 (by decide) ?_
              refine z_iinc (lv' := [(4, .int (iZ (iz + 4))), (6, .int (iZ (if kSet p1 = 0 then f 0 else 0))), (5, .int (iZ (kSet p1))), (0, .ref b), (1, .ref (aD g 0)), (2, .ref (aD g 94)), (3, .ref (aD g 100))]) 1616 K dL_law_1613 rfl (iz + 4) rfl 6 rfl (by decide) rfl ?_
              refine z_goto (tgt := 23) K dL_law_1616 (by decide) ?_
              refine z_sub [3, 4, 5, 6, 0] rfl ?_
              refine z_wid (kc' := (kc9 + 1)) (ks' := (ks9 + 6)) (by omega) (by omega) ?_
              exact IH (va_up (va_up (va_up C_65 97 (eI g 2694 (if kSet p1 = 0 then mSav f past k else past))) 94 (.inr (9, [.ref (aD g 95), .ref (aD g 96), .ref (aD g 97), .int (iZ (if kSet p1 = 0 then mKp k + 1 else k)), .ref (aD g 98), .int (iZ ty), .int (iZ (kSet p1)), .int (iZ pt), .int (iZ fl), .ref (aD g 99), .int (iZ to)]))) 95 (eI g 449 (if kSet p1 = 0 then zu f 0 p1 else f))) (if kSet p1 = 0 then zu f 0 p1 else f) ft (if kSet p1 = 0 then mSav f past k else past) tx td o2_66 (if kSet p1 = 0 then mKp k + 1 else k) ty (kSet p1) pt fl to (cap + 1) (iz + 4) (kc9 + 1) (ks9 + 6) (IW_cong hIn_740 (fun q hq => ((va_up_ne _ _ (by omega)).trans ((va_up_ne _ _ (by omega)).trans ((va_up_ne _ _ (by omega)).trans rfl))))) (PW_set hP hcp) ((va_up_ne _ _ (by decide)).trans (va_up_eq _ 94 _)) (va_up_eq _ 95 _) ((va_up_ne _ _ (by decide)).trans ((va_up_ne _ _ (by decide)).trans ((va_up_ne _ _ (by decide)).trans hf_740_96))) ((va_up_ne _ _ (by decide)).trans ((va_up_ne _ _ (by decide)).trans (va_up_eq _ 97 _))) ((va_up_ne _ _ (by decide)).trans ((va_up_ne _ _ (by decide)).trans ((va_up_ne _ _ (by decide)).trans hf_740_98))) ((va_up_ne _ _ (by decide)).trans ((va_up_ne _ _ (by decide)).trans ((va_up_ne _ _ (by decide)).trans hf_740_99))) ((va_up_ne _ _ (by decide)).trans ((va_up_ne _ _ (by decide)).trans ((va_up_ne _ _ (by decide)).trans hO_740))) hRt (by omega) (by omega) (by omega)
            · skip
              exact absurd (hv_779.mpr (by rw [show (Int.toNat 0) = 0 by rfl, hov_740 c_770, if_pos c_770])) c_780
        · skip
          exact absurd rfl c_763
      by_cases sw_39_10 : sw9 = 10
      · skip
        refine z_top (10) sw_39_10 ?_
        refine z_tableIn (tgt := 788) K dL_law_39 (by decide) (by decide) (by decide) rfl (by decide) ?_
        have hk9_10 : 0 ≤ kApp ty p1 ∧ kApp ty p1 ≤ 3 := kApp_b ty p1
        refine z_aload_n 789 K dL_law_788 rfl rfl 1 rfl ?_
        refine z_aload_n 790 K dL_law_789 rfl rfl 0 rfl ?_
        refine z_iload 792 K dL_law_790 rfl 4 rfl ?_
        refine z_iconst 793 K dL_law_792 rfl ?_
        refine z_iadd 794 K dL_law_793 rfl ?_
        refine z_sld 795 K hX hbl hbA (by omega) (by omega) (by omega) dL_law_794 rfl ?_
        refine z_top (p1) hp1.symm ?_
        refine z_aload_n 796 K dL_law_795 rfl rfl 3 rfl ?_
        refine z_vT (As := [.ref (aD g 0), .int (iZ p1), .ref (aD g 100)]) (rest := []) 799 K hNc (w_L_append l g _ p1 o9 _ _ _ _ _ _ h100 hI hP (by omega) hlt) (vx_cwSW 3 K.1.2.2.2.2 gL_law_L_append rfl rfl rfl (by decide +kernel) ⟨Nat.le_of_ble_eq_true rfl, Nat.le_of_ble_eq_true rfl⟩) rfl (Nat.le_of_ble_eq_true rfl) dL_law_796 rfl (law_hf (cap := cap) ⟨by omega, by omega⟩ (by omega) (by omega) (by decide) (by decide)) rfl (fun z_71 C_72 hp_796 => ?_)
        obtain ⟨hIn_796, hsm_796, ⟨o2_73, hO_796, hov_796⟩, hz_796⟩ := hp_796
        refine z_top (kApp ty p1) hz_796 ?_
        have hf_796_94 : C_72 94 = .inr (9, [.ref (aD g 95), .ref (aD g 96), .ref (aD g 97), .int (iZ k), .ref (aD g 98), .int (iZ ty), .int (iZ th), .int (iZ pt), .int (iZ fl), .ref (aD g 99), .int (iZ to)]) := (hsm_796 94 (by omega) (by omega)).trans h94
        have hf_796_95 : C_72 95 = eI g 449 f := (hsm_796 95 (by omega) (by omega)).trans h95
        have hf_796_96 : C_72 96 = eI g 449 ft := (hsm_796 96 (by omega) (by omega)).trans h96
        have hf_796_97 : C_72 97 = eI g 2694 past := (hsm_796 97 (by omega) (by omega)).trans h97
        have hf_796_98 : C_72 98 = eI g 60 tx := (hsm_796 98 (by omega) (by omega)).trans h98
        have hf_796_99 : C_72 99 = eI g 12 td := (hsm_796 99 (by omega) (by omega)).trans h99
        refine z_istore (lv' := [(5, .int (iZ (kApp ty p1))), (0, .ref b), (1, .ref (aD g 0)), (2, .ref (aD g 94)), (3, .ref (aD g 100)), (4, .int (iZ iz))]) 801 K dL_law_799 rfl (by decide) rfl ?_
        refine z_aload_n 802 K dL_law_801 rfl rfl 3 rfl ?_
        refine z_aload_n 803 K dL_law_802 rfl rfl 1 rfl ?_
        refine z_iload 805 K dL_law_803 rfl 5 rfl ?_
        refine z_iconst 806 K dL_law_805 rfl ?_
        refine z_iadd 807 K dL_law_806 rfl ?_
        refine z_sld 808 K hX hbl hbA (by omega) (by omega) (by omega) dL_law_807 rfl ?_
        refine z_top (p1) hp1.symm ?_
        refine z_vVi (As := [.int (iZ p1)]) (rest := []) 811 K 94 (by decide) hf_796_94 rfl rfl (m_X9_append l g _ p1 k ty th pt fl to tx hf_796_94 hf_796_98 hP.2.2.2.1 (by omega)) (cwV 1 K.1.2.2.2.2 gL_law_X9_append rfl rfl rfl (by decide +kernel) ⟨Nat.le_of_ble_eq_true rfl, Nat.le_of_ble_eq_true rfl⟩) rfl (Nat.le_of_ble_eq_true rfl) dL_law_808 rfl (law_hf (cap := cap) ⟨by omega, by omega⟩ (by omega) (by omega) (by decide) (by decide)) rfl (fun z_74 C_75 hp_808 => ?_)
        refine z_C hp_808.1 ?_
        refine z_top (if kApp ty p1 = 0 then ty + 1 else 0) hp_808.2 ?_
        refine z_istore (lv' := [(6, .int (iZ (if kApp ty p1 = 0 then ty + 1 else 0))), (5, .int (iZ (kApp ty p1))), (0, .ref b), (1, .ref (aD g 0)), (2, .ref (aD g 94)), (3, .ref (aD g 100)), (4, .int (iZ iz))]) 813 K dL_law_811 rfl (by decide) rfl ?_
        refine z_aload_n 814 K dL_law_813 rfl rfl 4 rfl ?_
        refine z_vVi (As := []) (rest := []) 817 K 94 (by decide) (va_up_eq _ 94 _) rfl rfl (m_X9_thrown l g _ k (if kApp ty p1 = 0 then ty + 1 else ty) (kApp ty p1) pt fl to (va_up_eq _ 94 _)) (cwV 0 K.1.2.2.2.2 gL_law_X9_thrown rfl rfl rfl (by decide +kernel) ⟨Nat.le_of_ble_eq_true rfl, Nat.le_of_ble_eq_true rfl⟩) rfl (Nat.le_of_ble_eq_true rfl) dL_law_814 rfl (law_hf (cap := cap) ⟨by omega, by omega⟩ (by omega) (by omega) (by decide) (by decide)) rfl (fun z_76 C_77 hp_814 => ?_)
        refine z_C hp_814.1 ?_
        refine z_top (kApp ty p1) hp_814.2 ?_
        refine z_iload 819 K dL_law_817 rfl 1 rfl ?_
        refine z_icmp_eq (tgt := 824) 822 K dL_law_819 rfl (by decide) (by omega) (by omega) (fun c_819 => ?_) (fun c_819 => ?_)
        · skip
          refine z_iload 826 K dL_law_824 rfl 1 rfl ?_
          refine z_if_ne (tgt := 841) 829 K dL_law_826 rfl (by decide) (by omega) (fun c_826 => ?_) (fun c_826 => ?_)
          · skip
            refine z_goto (tgt := 1613) K dL_law_841 (by decide) ?_
            refine z_iinc (lv' := [(4, .int (iZ (iz + 4))), (6, .int (iZ (if kApp ty p1 = 0 then ty + 1 else 0))), (5, .int (iZ (kApp ty p1))), (0, .ref b), (1, .ref (aD g 0)), (2, .ref (aD g 94)), (3, .ref (aD g 100))]) 1616 K dL_law_1613 rfl (iz + 4) rfl 6 rfl (by decide) rfl ?_
            refine z_goto (tgt := 23) K dL_law_1616 (by decide) ?_
            refine z_sub [3, 4, 5, 6, 0] rfl ?_
            refine z_wid (kc' := (kc9 + 1)) (ks' := (ks9 + 6)) (by omega) (by omega) ?_
            exact IH (va_up (va_up C_72 98 (eI g 60 (if kApp ty p1 = 0 then zu tx ty p1 else tx))) 94 (.inr (9, [.ref (aD g 95), .ref (aD g 96), .ref (aD g 97), .int (iZ k), .ref (aD g 98), .int (iZ (if kApp ty p1 = 0 then ty + 1 else ty)), .int (iZ (kApp ty p1)), .int (iZ pt), .int (iZ fl), .ref (aD g 99), .int (iZ to)]))) f ft past (if kApp ty p1 = 0 then zu tx ty p1 else tx) td o2_73 k (if kApp ty p1 = 0 then ty + 1 else ty) (kApp ty p1) pt fl to (cap + 1) (iz + 4) (kc9 + 1) (ks9 + 6) (IW_cong hIn_796 (fun q hq => ((va_up_ne _ _ (by omega)).trans ((va_up_ne _ _ (by omega)).trans rfl)))) (PW_app hP hcp) (va_up_eq _ 94 _) ((va_up_ne _ _ (by decide)).trans ((va_up_ne _ _ (by decide)).trans hf_796_95)) ((va_up_ne _ _ (by decide)).trans ((va_up_ne _ _ (by decide)).trans hf_796_96)) ((va_up_ne _ _ (by decide)).trans ((va_up_ne _ _ (by decide)).trans hf_796_97)) ((va_up_ne _ _ (by decide)).trans (va_up_eq _ 98 _)) ((va_up_ne _ _ (by decide)).trans ((va_up_ne _ _ (by decide)).trans hf_796_99)) ((va_up_ne _ _ (by decide)).trans ((va_up_ne _ _ (by decide)).trans hO_796)) hRt (by omega) (by omega) (by omega)
          · skip
            refine z_aload_n 830 K dL_law_829 rfl rfl 5 rfl ?_
            refine z_iconst 831 K dL_law_830 rfl ?_
            refine z_lald (f := o2_73) 832 K 100 (by decide) ((va_up_ne _ _ (by decide)).trans ((va_up_ne _ _ (by decide)).trans hO_796)) (by decide) (by decide) (by decide) dL_law_831 rfl ?_
            refine z_iload 834 K dL_law_832 rfl 0 rfl ?_
            refine z_i2l 835 K dL_law_834 rfl ?_
            refine z_lcmp 836 K dL_law_835 rfl (fun v_835 hv_835 hr_835 => ?_)
            refine z_if_eq (tgt := 841) 839 K dL_law_836 rfl (by decide) (by omega) (fun c_836 => ?_) (fun c_836 => ?_)
            · skip
              refine z_goto (tgt := 1613) K dL_law_841 (by decide) ?_
              refine z_iinc (lv' := [(4, .int (iZ (iz + 4))), (6, .int (iZ (if kApp ty p1 = 0 then ty + 1 else 0))), (5, .int (iZ (kApp ty p1))), (0, .ref b), (1, .ref (aD g 0)), (2, .ref (aD g 94)), (3, .ref (aD g 100))]) 1616 K dL_law_1613 rfl (iz + 4) rfl 6 rfl (by decide) rfl ?_
              refine z_goto (tgt := 23) K dL_law_1616 (by decide) ?_
              refine z_sub [3, 4, 5, 6, 0] rfl ?_
              refine z_wid (kc' := (kc9 + 1)) (ks' := (ks9 + 6)) (by omega) (by omega) ?_
              exact IH (va_up (va_up C_72 98 (eI g 60 (if kApp ty p1 = 0 then zu tx ty p1 else tx))) 94 (.inr (9, [.ref (aD g 95), .ref (aD g 96), .ref (aD g 97), .int (iZ k), .ref (aD g 98), .int (iZ (if kApp ty p1 = 0 then ty + 1 else ty)), .int (iZ (kApp ty p1)), .int (iZ pt), .int (iZ fl), .ref (aD g 99), .int (iZ to)]))) f ft past (if kApp ty p1 = 0 then zu tx ty p1 else tx) td o2_73 k (if kApp ty p1 = 0 then ty + 1 else ty) (kApp ty p1) pt fl to (cap + 1) (iz + 4) (kc9 + 1) (ks9 + 6) (IW_cong hIn_796 (fun q hq => ((va_up_ne _ _ (by omega)).trans ((va_up_ne _ _ (by omega)).trans rfl)))) (PW_app hP hcp) (va_up_eq _ 94 _) ((va_up_ne _ _ (by decide)).trans ((va_up_ne _ _ (by decide)).trans hf_796_95)) ((va_up_ne _ _ (by decide)).trans ((va_up_ne _ _ (by decide)).trans hf_796_96)) ((va_up_ne _ _ (by decide)).trans ((va_up_ne _ _ (by decide)).trans hf_796_97)) ((va_up_ne _ _ (by decide)).trans (va_up_eq _ 98 _)) ((va_up_ne _ _ (by decide)).trans ((va_up_ne _ _ (by decide)).trans hf_796_99)) ((va_up_ne _ _ (by decide)).trans ((va_up_ne _ _ (by decide)).trans hO_796)) hRt (by omega) (by omega) (by omega)
            · skip
              exact absurd (hv_835.mpr (by rw [show (Int.toNat 0) = 0 by rfl, hov_796 c_826, if_pos c_826])) c_836
        · skip
          exact absurd rfl c_819
      by_cases sw_39_11 : sw9 = 11
      · skip
        refine z_top (11) sw_39_11 ?_
        refine z_tableIn (tgt := 844) K dL_law_39 (by decide) (by decide) (by decide) rfl (by decide) ?_
        refine z_aload_n 845 K dL_law_844 rfl rfl 1 rfl ?_
        refine z_vVi (As := []) (rest := []) 848 K 0 (by decide) gMa rfl rfl (a_X8_clearBuffer l g _ _ _ _ _ _ _ hI hP) (cwV 0 K.1.2.2.2.2 gL_law_X8_clearBuffer rfl rfl rfl (by decide +kernel) ⟨Nat.le_of_ble_eq_true rfl, Nat.le_of_ble_eq_true rfl⟩) rfl (Nat.le_of_ble_eq_true rfl) dL_law_845 rfl (law_hf (cap := cap) ⟨by omega, by omega⟩ (by omega) (by omega) (by decide) (by decide)) rfl (fun z_78 C_79 hp_845 => ?_)
        obtain ⟨hIn_845, hsm_845, hz_845⟩ := hp_845
        refine z_top (ty) hz_845 ?_
        have hf_845_94 : C_79 94 = .inr (9, [.ref (aD g 95), .ref (aD g 96), .ref (aD g 97), .int (iZ k), .ref (aD g 98), .int (iZ ty), .int (iZ th), .int (iZ pt), .int (iZ fl), .ref (aD g 99), .int (iZ to)]) := (hsm_845 94 (by omega)).trans h94
        have hf_845_95 : C_79 95 = eI g 449 f := (hsm_845 95 (by omega)).trans h95
        have hf_845_96 : C_79 96 = eI g 449 ft := (hsm_845 96 (by omega)).trans h96
        have hf_845_97 : C_79 97 = eI g 2694 past := (hsm_845 97 (by omega)).trans h97
        have hf_845_98 : C_79 98 = eI g 60 tx := (hsm_845 98 (by omega)).trans h98
        have hf_845_99 : C_79 99 = eI g 12 td := (hsm_845 99 (by omega)).trans h99
        have hf_845_100 : C_79 100 = eJ g 1 o9 := (hsm_845 100 (by omega)).trans h100
        have hR_11 := PW_clr hP hcp
        refine z_aload_n 849 K dL_law_848 rfl rfl 2 rfl ?_
        refine z_vVi (As := []) (rest := [.int (iZ ty)]) 852 K 94 (by decide) hf_845_94 rfl rfl (m_X9_clearBuffer l g _ k ty th pt fl to hf_845_94) (cwV 0 K.1.2.2.2.2 gL_law_X9_clearBuffer rfl rfl rfl (by decide +kernel) ⟨Nat.le_of_ble_eq_true rfl, Nat.le_of_ble_eq_true rfl⟩) rfl (Nat.le_of_ble_eq_true rfl) dL_law_849 rfl (law_hf (cap := cap) ⟨by omega, by omega⟩ (by omega) (by omega) (by decide) (by decide)) rfl (fun z_80 C_81 hp_849 => ?_)
        refine z_C hp_849.1 ?_
        refine z_top (ty) hp_849.2 ?_
        refine z_icmp_eq (tgt := 1613) 855 K dL_law_852 rfl (by decide) (by omega) (by omega) (fun c_852 => ?_) (fun c_852 => ?_)
        · skip
          refine z_iinc (lv' := [(4, .int (iZ (iz + 4))), (0, .ref b), (1, .ref (aD g 0)), (2, .ref (aD g 94)), (3, .ref (aD g 100))]) 1616 K dL_law_1613 rfl (iz + 4) rfl 4 rfl (by decide) rfl ?_
          refine z_goto (tgt := 23) K dL_law_1616 (by decide) ?_
          refine z_sub [1, 2, 3, 4, 0] rfl ?_
          exact IH (va_up C_79 94 (.inr (9, [.ref (aD g 95), .ref (aD g 96), .ref (aD g 97), .int (iZ k), .ref (aD g 98), .int (iZ 0), .int (iZ 0), .int (iZ pt), .int (iZ fl), .ref (aD g 99), .int (iZ to)]))) f ft past tx td o9 k 0 0 pt fl to (cap + 1) (iz + 4) kc9 ks9 (IW_cong hIn_845 (fun q hq => ((va_up_ne _ _ (by omega)).trans rfl))) hR_11 (va_up_eq _ 94 _) ((va_up_ne _ _ (by decide)).trans hf_845_95) ((va_up_ne _ _ (by decide)).trans hf_845_96) ((va_up_ne _ _ (by decide)).trans hf_845_97) ((va_up_ne _ _ (by decide)).trans hf_845_98) ((va_up_ne _ _ (by decide)).trans hf_845_99) ((va_up_ne _ _ (by decide)).trans hf_845_100) hRt (by omega) (by omega) (by omega)
        · skip
          exact absurd rfl c_852
      by_cases sw_39_12 : sw9 = 12
      · skip
        refine z_top (12) sw_39_12 ?_
        refine z_tableIn (tgt := 857) K dL_law_39 (by decide) (by decide) (by decide) rfl (by decide) ?_
        have hk9_f := sFirst_b (tx := tx) hRt hty9
        refine z_aload_n 858 K dL_law_857 rfl rfl 1 rfl ?_
        refine z_vVi (As := []) (rest := []) 861 K 0 (by decide) gMa rfl rfl (a_X8_firstError l g _ td _ _ _ _ _ _ hI hP) (cwV 0 K.1.2.2.2.2 gL_law_X8_firstError rfl rfl rfl (by decide +kernel) ⟨Nat.le_of_ble_eq_true rfl, Nat.le_of_ble_eq_true rfl⟩) rfl (Nat.le_of_ble_eq_true rfl) dL_law_858 rfl (law_hf (cap := cap) ⟨by omega, by omega⟩ (by omega) (by omega) (by decide) (by decide)) rfl (fun z_82 C_83 hp_858 => ?_)
        obtain ⟨hIn_858, hsm_858, hz_858⟩ := hp_858
        refine z_top (sFirst tx ty td) hz_858 ?_
        have hf_858_94 : C_83 94 = .inr (9, [.ref (aD g 95), .ref (aD g 96), .ref (aD g 97), .int (iZ k), .ref (aD g 98), .int (iZ ty), .int (iZ th), .int (iZ pt), .int (iZ fl), .ref (aD g 99), .int (iZ to)]) := (hsm_858 94 (by omega)).trans h94
        have hf_858_95 : C_83 95 = eI g 449 f := (hsm_858 95 (by omega)).trans h95
        have hf_858_96 : C_83 96 = eI g 449 ft := (hsm_858 96 (by omega)).trans h96
        have hf_858_97 : C_83 97 = eI g 2694 past := (hsm_858 97 (by omega)).trans h97
        have hf_858_98 : C_83 98 = eI g 60 tx := (hsm_858 98 (by omega)).trans h98
        have hf_858_99 : C_83 99 = eI g 12 td := (hsm_858 99 (by omega)).trans h99
        have hf_858_100 : C_83 100 = eJ g 1 o9 := (hsm_858 100 (by omega)).trans h100
        have hR_12 := PW_mono hP hcp
        refine z_aload_n 862 K dL_law_861 rfl rfl 2 rfl ?_
        refine z_vVi (As := []) (rest := [.int (iZ (sFirst tx ty td))]) 865 K 94 (by decide) hf_858_94 rfl rfl (m_X9_firstError l g _ k ty th pt fl to tx td hf_858_94 hf_858_98 hf_858_99 hP.2.2.2.1 hP.2.2.2.2.2.1) (cwV 0 K.1.2.2.2.2 gL_law_X9_firstError rfl rfl rfl (by decide +kernel) ⟨Nat.le_of_ble_eq_true rfl, Nat.le_of_ble_eq_true rfl⟩) rfl (Nat.le_of_ble_eq_true rfl) dL_law_862 rfl (law_hf (cap := cap) ⟨by omega, by omega⟩ (by omega) (by omega) (by decide) (by decide)) rfl (fun z_84 C_85 hp_862 => ?_)
        refine z_C hp_862.1 ?_
        refine z_top (sFirst tx ty td) hp_862.2 ?_
        refine z_icmp_eq (tgt := 1613) 868 K dL_law_865 rfl (by decide) (by omega) (by omega) (fun c_865 => ?_) (fun c_865 => ?_)
        · skip
          refine z_iinc (lv' := [(4, .int (iZ (iz + 4))), (0, .ref b), (1, .ref (aD g 0)), (2, .ref (aD g 94)), (3, .ref (aD g 100))]) 1616 K dL_law_1613 rfl (iz + 4) rfl 4 rfl (by decide) rfl ?_
          refine z_goto (tgt := 23) K dL_law_1616 (by decide) ?_
          refine z_sub [1, 2, 3, 4, 0] rfl ?_
          exact IH (va_up (va_up C_83 99 (eI g 12 ((tAll tx ty td).2.2.2))) 94 (.inr (9, [.ref (aD g 95), .ref (aD g 96), .ref (aD g 97), .int (iZ k), .ref (aD g 98), .int (iZ ty), .int (iZ 0), .int (iZ ((tAll tx ty td).2.1)), .int (iZ (b2i (decide ((tAll tx ty td).2.1 < ty)))), .ref (aD g 99), .int (iZ ((tAll tx ty td).2.2.1))]))) f ft past tx ((tAll tx ty td).2.2.2) o9 k ty 0 ((tAll tx ty td).2.1) (b2i (decide ((tAll tx ty td).2.1 < ty))) ((tAll tx ty td).2.2.1) (cap + 1) (iz + 4) kc9 ks9 (IW_cong hIn_858 (fun q hq => ((va_up_ne _ _ (by omega)).trans ((va_up_ne _ _ (by omega)).trans rfl)))) hR_12 (va_up_eq _ 94 _) ((va_up_ne _ _ (by decide)).trans ((va_up_ne _ _ (by decide)).trans hf_858_95)) ((va_up_ne _ _ (by decide)).trans ((va_up_ne _ _ (by decide)).trans hf_858_96)) ((va_up_ne _ _ (by decide)).trans ((va_up_ne _ _ (by decide)).trans hf_858_97)) ((va_up_ne _ _ (by decide)).trans ((va_up_ne _ _ (by decide)).trans hf_858_98)) ((va_up_ne _ _ (by decide)).trans (va_up_eq _ 99 _)) ((va_up_ne _ _ (by decide)).trans ((va_up_ne _ _ (by decide)).trans hf_858_100)) (Rg_tall hRt) (by omega) (by omega) (by omega)
        · skip
          exact absurd rfl c_865
      by_cases sw_39_13 : sw9 = 13
      · skip
        refine z_top (13) sw_39_13 ?_
        refine z_tableIn (tgt := 870) K dL_law_39 (by decide) (by decide) (by decide) rfl (by decide) ?_
        have hk9_13 : 0 ≤ kCal f p1 (tAll tx ty td) ∧ kCal f p1 (tAll tx ty td) ≤ 3 := kCal_b f p1 (tAll tx ty td)
        refine z_aload_n 871 K dL_law_870 rfl rfl 1 rfl ?_
        refine z_aload_n 872 K dL_law_871 rfl rfl 0 rfl ?_
        refine z_iload 874 K dL_law_872 rfl 4 rfl ?_
        refine z_iconst 875 K dL_law_874 rfl ?_
        refine z_iadd 876 K dL_law_875 rfl ?_
        refine z_sld 877 K hX hbl hbA (by omega) (by omega) (by omega) dL_law_876 rfl ?_
        refine z_top (p1) hp1.symm ?_
        refine z_aload_n 878 K dL_law_877 rfl rfl 3 rfl ?_
        refine z_vT (As := [.ref (aD g 0), .int (iZ p1), .ref (aD g 100)]) (rest := []) 881 K hNc (w_L_citeAll l g _ p1 o9 td _ _ _ _ _ _ h100 hI hP (by omega) hlt) (vx_cwSW 3 K.1.2.2.2.2 gL_law_L_citeAll rfl rfl rfl (by decide +kernel) ⟨Nat.le_of_ble_eq_true rfl, Nat.le_of_ble_eq_true rfl⟩) rfl (Nat.le_of_ble_eq_true rfl) dL_law_878 rfl (law_hf (cap := cap) ⟨by omega, by omega⟩ (by omega) (by omega) (by decide) (by decide)) rfl (fun z_86 C_87 hp_878 => ?_)
        obtain ⟨hIn_878, hsm_878, ⟨o2_88, hO_878, hov_878⟩, hz_878⟩ := hp_878
        refine z_top (kCal f p1 (tAll tx ty td)) hz_878 ?_
        have hf_878_94 : C_87 94 = .inr (9, [.ref (aD g 95), .ref (aD g 96), .ref (aD g 97), .int (iZ k), .ref (aD g 98), .int (iZ ty), .int (iZ th), .int (iZ pt), .int (iZ fl), .ref (aD g 99), .int (iZ to)]) := (hsm_878 94 (by omega) (by omega)).trans h94
        have hf_878_95 : C_87 95 = eI g 449 f := (hsm_878 95 (by omega) (by omega)).trans h95
        have hf_878_96 : C_87 96 = eI g 449 ft := (hsm_878 96 (by omega) (by omega)).trans h96
        have hf_878_97 : C_87 97 = eI g 2694 past := (hsm_878 97 (by omega) (by omega)).trans h97
        have hf_878_98 : C_87 98 = eI g 60 tx := (hsm_878 98 (by omega) (by omega)).trans h98
        have hf_878_99 : C_87 99 = eI g 12 td := (hsm_878 99 (by omega) (by omega)).trans h99
        refine z_istore (lv' := [(5, .int (iZ (kCal f p1 (tAll tx ty td)))), (0, .ref b), (1, .ref (aD g 0)), (2, .ref (aD g 94)), (3, .ref (aD g 100)), (4, .int (iZ iz))]) 883 K dL_law_881 rfl (by decide) rfl ?_
        refine z_aload_n 884 K dL_law_883 rfl rfl 3 rfl ?_
        refine z_aload_n 885 K dL_law_884 rfl rfl 1 rfl ?_
        refine z_iload 887 K dL_law_885 rfl 5 rfl ?_
        refine z_iconst 888 K dL_law_887 rfl ?_
        refine z_iadd 889 K dL_law_888 rfl ?_
        refine z_sld 890 K hX hbl hbA (by omega) (by omega) (by omega) dL_law_889 rfl ?_
        refine z_top (p1) hp1.symm ?_
        refine z_vVi (As := [.int (iZ p1)]) (rest := []) 893 K 94 (by decide) hf_878_94 rfl rfl (m_X9_citeAll l g _ p1 k ty th pt fl to f past tx td _ hf_878_94 hf_878_95 hf_878_97 hf_878_98 hf_878_99 hP.2.1 hP.1 (by omega) hP.2.2.2.1 hP.2.2.2.2.2.1 hRt) (cwV 1 K.1.2.2.2.2 gL_law_X9_citeAll rfl rfl rfl (by decide +kernel) ⟨Nat.le_of_ble_eq_true rfl, Nat.le_of_ble_eq_true rfl⟩) rfl (Nat.le_of_ble_eq_true rfl) dL_law_890 rfl (law_hf (cap := cap) ⟨by omega, by omega⟩ (by omega) (by omega) (by decide) (by decide)) rfl (fun z_89 C_90 hp_890 => ?_)
        refine z_C hp_890.1 ?_
        refine z_top (if kCal f p1 (tAll tx ty td) = 0 then f (32 * p1 + 65) else 0) hp_890.2 ?_
        refine z_istore (lv' := [(6, .int (iZ (if kCal f p1 (tAll tx ty td) = 0 then f (32 * p1 + 65) else 0))), (5, .int (iZ (kCal f p1 (tAll tx ty td)))), (0, .ref b), (1, .ref (aD g 0)), (2, .ref (aD g 94)), (3, .ref (aD g 100)), (4, .int (iZ iz))]) 895 K dL_law_893 rfl (by decide) rfl ?_
        refine z_aload_n 896 K dL_law_895 rfl rfl 4 rfl ?_
        refine z_vVi (As := []) (rest := []) 899 K 94 (by decide) (va_up_eq _ 94 _) rfl rfl (m_X9_thrown l g _ (if kCal f p1 (tAll tx ty td) = 0 then mKp k + 1 else k) (if kCal f p1 (tAll tx ty td) = 0 then 0 else ty) (kCal f p1 (tAll tx ty td)) (if 0 ≤ p1 ∧ p1 < 12 then (tAll tx ty td).2.1 else pt) (if 0 ≤ p1 ∧ p1 < 12 then b2i (decide ((tAll tx ty td).2.1 < ty)) else fl) (if 0 ≤ p1 ∧ p1 < 12 then (tAll tx ty td).2.2.1 else to) (va_up_eq _ 94 _)) (cwV 0 K.1.2.2.2.2 gL_law_X9_thrown rfl rfl rfl (by decide +kernel) ⟨Nat.le_of_ble_eq_true rfl, Nat.le_of_ble_eq_true rfl⟩) rfl (Nat.le_of_ble_eq_true rfl) dL_law_896 rfl (law_hf (cap := cap) ⟨by omega, by omega⟩ (by omega) (by omega) (by decide) (by decide)) rfl (fun z_91 C_92 hp_896 => ?_)
        refine z_C hp_896.1 ?_
        refine z_top (kCal f p1 (tAll tx ty td)) hp_896.2 ?_
        refine z_iload 901 K dL_law_899 rfl 1 rfl ?_
        refine z_icmp_eq (tgt := 906) 904 K dL_law_901 rfl (by decide) (by omega) (by omega) (fun c_901 => ?_) (fun c_901 => ?_)
        · skip
          refine z_iload 908 K dL_law_906 rfl 1 rfl ?_
          refine z_if_ne (tgt := 923) 911 K dL_law_908 rfl (by decide) (by omega) (fun c_908 => ?_) (fun c_908 => ?_)
          · skip
            refine z_goto (tgt := 1613) K dL_law_923 (by decide) ?_
            refine z_iinc (lv' := [(4, .int (iZ (iz + 4))), (6, .int (iZ (if kCal f p1 (tAll tx ty td) = 0 then f (32 * p1 + 65) else 0))), (5, .int (iZ (kCal f p1 (tAll tx ty td)))), (0, .ref b), (1, .ref (aD g 0)), (2, .ref (aD g 94)), (3, .ref (aD g 100))]) 1616 K dL_law_1613 rfl (iz + 4) rfl 6 rfl (by decide) rfl ?_
            refine z_goto (tgt := 23) K dL_law_1616 (by decide) ?_
            refine z_sub [3, 4, 5, 6, 0] rfl ?_
            refine z_wid (kc' := (kc9 + 2)) (ks' := (ks9 + 12)) (by omega) (by omega) ?_
            exact IH (va_up (va_up (va_up (va_up C_87 99 (eI g 12 (if 0 ≤ p1 ∧ p1 < 12 then (tAll tx ty td).2.2.2 else td))) 97 (eI g 2694 (if kCal f p1 (tAll tx ty td) = 0 then mSav f past k else past))) 95 (eI g 449 (if kCal f p1 (tAll tx ty td) = 0 then mNms f p1 (tAll tx ty td).2.2.2 (tAll tx ty td).2.2.1 else f))) 94 (.inr (9, [.ref (aD g 95), .ref (aD g 96), .ref (aD g 97), .int (iZ (if kCal f p1 (tAll tx ty td) = 0 then mKp k + 1 else k)), .ref (aD g 98), .int (iZ (if kCal f p1 (tAll tx ty td) = 0 then 0 else ty)), .int (iZ (kCal f p1 (tAll tx ty td))), .int (iZ (if 0 ≤ p1 ∧ p1 < 12 then (tAll tx ty td).2.1 else pt)), .int (iZ (if 0 ≤ p1 ∧ p1 < 12 then b2i (decide ((tAll tx ty td).2.1 < ty)) else fl)), .ref (aD g 99), .int (iZ (if 0 ≤ p1 ∧ p1 < 12 then (tAll tx ty td).2.2.1 else to))]))) (if kCal f p1 (tAll tx ty td) = 0 then mNms f p1 (tAll tx ty td).2.2.2 (tAll tx ty td).2.2.1 else f) ft (if kCal f p1 (tAll tx ty td) = 0 then mSav f past k else past) tx (if 0 ≤ p1 ∧ p1 < 12 then (tAll tx ty td).2.2.2 else td) o2_88 (if kCal f p1 (tAll tx ty td) = 0 then mKp k + 1 else k) (if kCal f p1 (tAll tx ty td) = 0 then 0 else ty) (kCal f p1 (tAll tx ty td)) (if 0 ≤ p1 ∧ p1 < 12 then (tAll tx ty td).2.1 else pt) (if 0 ≤ p1 ∧ p1 < 12 then b2i (decide ((tAll tx ty td).2.1 < ty)) else fl) (if 0 ≤ p1 ∧ p1 < 12 then (tAll tx ty td).2.2.1 else to) (cap + 1) (iz + 4) (kc9 + 2) (ks9 + 12) (IW_cong hIn_878 (fun q hq => ((va_up_ne _ _ (by omega)).trans ((va_up_ne _ _ (by omega)).trans ((va_up_ne _ _ (by omega)).trans ((va_up_ne _ _ (by omega)).trans rfl)))))) (PW_cal hP hcp) (va_up_eq _ 94 _) ((va_up_ne _ _ (by decide)).trans (va_up_eq _ 95 _)) ((va_up_ne _ _ (by decide)).trans ((va_up_ne _ _ (by decide)).trans ((va_up_ne _ _ (by decide)).trans ((va_up_ne _ _ (by decide)).trans hf_878_96)))) ((va_up_ne _ _ (by decide)).trans ((va_up_ne _ _ (by decide)).trans (va_up_eq _ 97 _))) ((va_up_ne _ _ (by decide)).trans ((va_up_ne _ _ (by decide)).trans ((va_up_ne _ _ (by decide)).trans ((va_up_ne _ _ (by decide)).trans hf_878_98)))) ((va_up_ne _ _ (by decide)).trans ((va_up_ne _ _ (by decide)).trans ((va_up_ne _ _ (by decide)).trans (va_up_eq _ 99 _)))) ((va_up_ne _ _ (by decide)).trans ((va_up_ne _ _ (by decide)).trans ((va_up_ne _ _ (by decide)).trans ((va_up_ne _ _ (by decide)).trans hO_878)))) (by split; exact Rg_tall hRt; exact hRt) (by omega) (by omega) (by omega)
          · skip
            refine z_aload_n 912 K dL_law_911 rfl rfl 5 rfl ?_
            refine z_iconst 913 K dL_law_912 rfl ?_
            refine z_lald (f := o2_88) 914 K 100 (by decide) ((va_up_ne _ _ (by decide)).trans ((va_up_ne _ _ (by decide)).trans ((va_up_ne _ _ (by decide)).trans ((va_up_ne _ _ (by decide)).trans hO_878)))) (by decide) (by decide) (by decide) dL_law_913 rfl ?_
            refine z_iload 916 K dL_law_914 rfl 0 rfl ?_
            refine z_i2l 917 K dL_law_916 rfl ?_
            refine z_lcmp 918 K dL_law_917 rfl (fun v_917 hv_917 hr_917 => ?_)
            refine z_if_eq (tgt := 923) 921 K dL_law_918 rfl (by decide) (by omega) (fun c_918 => ?_) (fun c_918 => ?_)
            · skip
              refine z_goto (tgt := 1613) K dL_law_923 (by decide) ?_
              refine z_iinc (lv' := [(4, .int (iZ (iz + 4))), (6, .int (iZ (if kCal f p1 (tAll tx ty td) = 0 then f (32 * p1 + 65) else 0))), (5, .int (iZ (kCal f p1 (tAll tx ty td)))), (0, .ref b), (1, .ref (aD g 0)), (2, .ref (aD g 94)), (3, .ref (aD g 100))]) 1616 K dL_law_1613 rfl (iz + 4) rfl 6 rfl (by decide) rfl ?_
              refine z_goto (tgt := 23) K dL_law_1616 (by decide) ?_
              refine z_sub [3, 4, 5, 6, 0] rfl ?_
              refine z_wid (kc' := (kc9 + 2)) (ks' := (ks9 + 12)) (by omega) (by omega) ?_
              exact IH (va_up (va_up (va_up (va_up C_87 99 (eI g 12 (if 0 ≤ p1 ∧ p1 < 12 then (tAll tx ty td).2.2.2 else td))) 97 (eI g 2694 (if kCal f p1 (tAll tx ty td) = 0 then mSav f past k else past))) 95 (eI g 449 (if kCal f p1 (tAll tx ty td) = 0 then mNms f p1 (tAll tx ty td).2.2.2 (tAll tx ty td).2.2.1 else f))) 94 (.inr (9, [.ref (aD g 95), .ref (aD g 96), .ref (aD g 97), .int (iZ (if kCal f p1 (tAll tx ty td) = 0 then mKp k + 1 else k)), .ref (aD g 98), .int (iZ (if kCal f p1 (tAll tx ty td) = 0 then 0 else ty)), .int (iZ (kCal f p1 (tAll tx ty td))), .int (iZ (if 0 ≤ p1 ∧ p1 < 12 then (tAll tx ty td).2.1 else pt)), .int (iZ (if 0 ≤ p1 ∧ p1 < 12 then b2i (decide ((tAll tx ty td).2.1 < ty)) else fl)), .ref (aD g 99), .int (iZ (if 0 ≤ p1 ∧ p1 < 12 then (tAll tx ty td).2.2.1 else to))]))) (if kCal f p1 (tAll tx ty td) = 0 then mNms f p1 (tAll tx ty td).2.2.2 (tAll tx ty td).2.2.1 else f) ft (if kCal f p1 (tAll tx ty td) = 0 then mSav f past k else past) tx (if 0 ≤ p1 ∧ p1 < 12 then (tAll tx ty td).2.2.2 else td) o2_88 (if kCal f p1 (tAll tx ty td) = 0 then mKp k + 1 else k) (if kCal f p1 (tAll tx ty td) = 0 then 0 else ty) (kCal f p1 (tAll tx ty td)) (if 0 ≤ p1 ∧ p1 < 12 then (tAll tx ty td).2.1 else pt) (if 0 ≤ p1 ∧ p1 < 12 then b2i (decide ((tAll tx ty td).2.1 < ty)) else fl) (if 0 ≤ p1 ∧ p1 < 12 then (tAll tx ty td).2.2.1 else to) (cap + 1) (iz + 4) (kc9 + 2) (ks9 + 12) (IW_cong hIn_878 (fun q hq => ((va_up_ne _ _ (by omega)).trans ((va_up_ne _ _ (by omega)).trans ((va_up_ne _ _ (by omega)).trans ((va_up_ne _ _ (by omega)).trans rfl)))))) (PW_cal hP hcp) (va_up_eq _ 94 _) ((va_up_ne _ _ (by decide)).trans (va_up_eq _ 95 _)) ((va_up_ne _ _ (by decide)).trans ((va_up_ne _ _ (by decide)).trans ((va_up_ne _ _ (by decide)).trans ((va_up_ne _ _ (by decide)).trans hf_878_96)))) ((va_up_ne _ _ (by decide)).trans ((va_up_ne _ _ (by decide)).trans (va_up_eq _ 97 _))) ((va_up_ne _ _ (by decide)).trans ((va_up_ne _ _ (by decide)).trans ((va_up_ne _ _ (by decide)).trans ((va_up_ne _ _ (by decide)).trans hf_878_98)))) ((va_up_ne _ _ (by decide)).trans ((va_up_ne _ _ (by decide)).trans ((va_up_ne _ _ (by decide)).trans (va_up_eq _ 99 _)))) ((va_up_ne _ _ (by decide)).trans ((va_up_ne _ _ (by decide)).trans ((va_up_ne _ _ (by decide)).trans ((va_up_ne _ _ (by decide)).trans hO_878)))) (by split; exact Rg_tall hRt; exact hRt) (by omega) (by omega) (by omega)
            · skip
              exact absurd (hv_917.mpr (by rw [show (Int.toNat 0) = 0 by rfl, hov_878 c_908, if_pos c_908])) c_918
        · skip
          exact absurd rfl c_901
      by_cases sw_39_14 : sw9 = 14
      · skip
        refine z_top (14) sw_39_14 ?_
        refine z_tableIn (tgt := 926) K dL_law_39 (by decide) (by decide) (by decide) rfl (by decide) ?_
        have hk9_14 : 0 ≤ kUnd k ∧ kUnd k ≤ 3 := kUnd_b k
        refine z_aload_n 927 K dL_law_926 rfl rfl 1 rfl ?_
        refine z_aload_n 928 K dL_law_927 rfl rfl 3 rfl ?_
        refine z_vT (As := [.ref (aD g 0), .ref (aD g 100)]) (rest := []) 931 K hNc (w_L_undo l g _ o9 _ _ _ _ _ _ h100 hI hP hlt) (vx_cwSW 2 K.1.2.2.2.2 gL_law_L_undo rfl rfl rfl (by decide +kernel) ⟨Nat.le_of_ble_eq_true rfl, Nat.le_of_ble_eq_true rfl⟩) rfl (Nat.le_of_ble_eq_true rfl) dL_law_928 rfl (law_hf (cap := cap) ⟨by omega, by omega⟩ (by omega) (by omega) (by decide) (by decide)) rfl (fun z_93 C_94 hp_928 => ?_)
        obtain ⟨hIn_928, hsm_928, ⟨o2_95, hO_928, hov_928⟩, hz_928⟩ := hp_928
        refine z_top (kUnd k) hz_928 ?_
        have hf_928_94 : C_94 94 = .inr (9, [.ref (aD g 95), .ref (aD g 96), .ref (aD g 97), .int (iZ k), .ref (aD g 98), .int (iZ ty), .int (iZ th), .int (iZ pt), .int (iZ fl), .ref (aD g 99), .int (iZ to)]) := (hsm_928 94 (by omega) (by omega)).trans h94
        have hf_928_95 : C_94 95 = eI g 449 f := (hsm_928 95 (by omega) (by omega)).trans h95
        have hf_928_96 : C_94 96 = eI g 449 ft := (hsm_928 96 (by omega) (by omega)).trans h96
        have hf_928_97 : C_94 97 = eI g 2694 past := (hsm_928 97 (by omega) (by omega)).trans h97
        have hf_928_98 : C_94 98 = eI g 60 tx := (hsm_928 98 (by omega) (by omega)).trans h98
        have hf_928_99 : C_94 99 = eI g 12 td := (hsm_928 99 (by omega) (by omega)).trans h99
        refine z_istore (lv' := [(5, .int (iZ (kUnd k))), (0, .ref b), (1, .ref (aD g 0)), (2, .ref (aD g 94)), (3, .ref (aD g 100)), (4, .int (iZ iz))]) 933 K dL_law_931 rfl (by decide) rfl ?_
        refine z_aload_n 934 K dL_law_933 rfl rfl 3 rfl ?_
        refine z_vVi (As := []) (rest := []) 937 K 94 (by decide) hf_928_94 rfl rfl (m_X9_undo l g _ k ty th pt fl to f past hf_928_94 hf_928_95 hf_928_97 hP.2.1) (cwV 0 K.1.2.2.2.2 gL_law_X9_undo rfl rfl rfl (by decide +kernel) ⟨Nat.le_of_ble_eq_true rfl, Nat.le_of_ble_eq_true rfl⟩) rfl (Nat.le_of_ble_eq_true rfl) dL_law_934 rfl (law_hf (cap := cap) ⟨by omega, by omega⟩ (by omega) (by omega) (by decide) (by decide)) rfl (fun z_96 C_97 hp_934 => ?_)
        refine z_C hp_934.1 ?_
        refine z_top (if kUnd k = 0 then k - 1 else 0) hp_934.2 ?_
        refine z_istore (lv' := [(6, .int (iZ (if kUnd k = 0 then k - 1 else 0))), (5, .int (iZ (kUnd k))), (0, .ref b), (1, .ref (aD g 0)), (2, .ref (aD g 94)), (3, .ref (aD g 100)), (4, .int (iZ iz))]) 939 K dL_law_937 rfl (by decide) rfl ?_
        refine z_aload_n 940 K dL_law_939 rfl rfl 4 rfl ?_
        refine z_vVi (As := []) (rest := []) 943 K 94 (by decide) ((va_up_ne _ _ (by decide)).trans (va_up_eq _ 94 _)) rfl rfl (m_X9_thrown l g _ (if kUnd k = 0 then k - 1 else k) ty (kUnd k) pt fl to ((va_up_ne _ _ (by decide)).trans (va_up_eq _ 94 _))) (cwV 0 K.1.2.2.2.2 gL_law_X9_thrown rfl rfl rfl (by decide +kernel) ⟨Nat.le_of_ble_eq_true rfl, Nat.le_of_ble_eq_true rfl⟩) rfl (Nat.le_of_ble_eq_true rfl) dL_law_940 rfl (law_hf (cap := cap) ⟨by omega, by omega⟩ (by omega) (by omega) (by decide) (by decide)) rfl (fun z_98 C_99 hp_940 => ?_)
        refine z_C hp_940.1 ?_
        refine z_top (kUnd k) hp_940.2 ?_
        refine z_iload 945 K dL_law_943 rfl 1 rfl ?_
        refine z_icmp_eq (tgt := 950) 948 K dL_law_945 rfl (by decide) (by omega) (by omega) (fun c_945 => ?_) (fun c_945 => ?_)
        · skip
          refine z_iload 952 K dL_law_950 rfl 1 rfl ?_
          refine z_if_ne (tgt := 967) 955 K dL_law_952 rfl (by decide) (by omega) (fun c_952 => ?_) (fun c_952 => ?_)
          · skip
            refine z_goto (tgt := 1613) K dL_law_967 (by decide) ?_
            refine z_iinc (lv' := [(4, .int (iZ (iz + 4))), (6, .int (iZ (if kUnd k = 0 then k - 1 else 0))), (5, .int (iZ (kUnd k))), (0, .ref b), (1, .ref (aD g 0)), (2, .ref (aD g 94)), (3, .ref (aD g 100))]) 1616 K dL_law_1613 rfl (iz + 4) rfl 6 rfl (by decide) rfl ?_
            refine z_goto (tgt := 23) K dL_law_1616 (by decide) ?_
            refine z_sub [3, 4, 5, 6, 0] rfl ?_
            refine z_wid (kc' := (kc9 + 1)) (ks' := (ks9 + 6)) (by omega) (by omega) ?_
            exact IH (va_up (va_up C_94 94 (.inr (9, [.ref (aD g 95), .ref (aD g 96), .ref (aD g 97), .int (iZ (if kUnd k = 0 then k - 1 else k)), .ref (aD g 98), .int (iZ ty), .int (iZ (kUnd k)), .int (iZ pt), .int (iZ fl), .ref (aD g 99), .int (iZ to)]))) 95 (eI g 449 (if kUnd k = 0 then mPast past (k - 1) else f))) (if kUnd k = 0 then mPast past (k - 1) else f) ft past tx td o2_95 (if kUnd k = 0 then k - 1 else k) ty (kUnd k) pt fl to (cap + 1) (iz + 4) (kc9 + 1) (ks9 + 6) (IW_cong hIn_928 (fun q hq => ((va_up_ne _ _ (by omega)).trans ((va_up_ne _ _ (by omega)).trans rfl)))) (PW_und hP hcp) ((va_up_ne _ _ (by decide)).trans (va_up_eq _ 94 _)) (va_up_eq _ 95 _) ((va_up_ne _ _ (by decide)).trans ((va_up_ne _ _ (by decide)).trans hf_928_96)) ((va_up_ne _ _ (by decide)).trans ((va_up_ne _ _ (by decide)).trans hf_928_97)) ((va_up_ne _ _ (by decide)).trans ((va_up_ne _ _ (by decide)).trans hf_928_98)) ((va_up_ne _ _ (by decide)).trans ((va_up_ne _ _ (by decide)).trans hf_928_99)) ((va_up_ne _ _ (by decide)).trans ((va_up_ne _ _ (by decide)).trans hO_928)) hRt (by omega) (by omega) (by omega)
          · skip
            refine z_aload_n 956 K dL_law_955 rfl rfl 5 rfl ?_
            refine z_iconst 957 K dL_law_956 rfl ?_
            refine z_lald (f := o2_95) 958 K 100 (by decide) ((va_up_ne _ _ (by decide)).trans ((va_up_ne _ _ (by decide)).trans hO_928)) (by decide) (by decide) (by decide) dL_law_957 rfl ?_
            refine z_iload 960 K dL_law_958 rfl 0 rfl ?_
            refine z_i2l 961 K dL_law_960 rfl ?_
            refine z_lcmp 962 K dL_law_961 rfl (fun v_961 hv_961 hr_961 => ?_)
            refine z_if_eq (tgt := 967) 965 K dL_law_962 rfl (by decide) (by omega) (fun c_962 => ?_) (fun c_962 => ?_)
            · skip
              refine z_goto (tgt := 1613) K dL_law_967 (by decide) ?_
              refine z_iinc (lv' := [(4, .int (iZ (iz + 4))), (6, .int (iZ (if kUnd k = 0 then k - 1 else 0))), (5, .int (iZ (kUnd k))), (0, .ref b), (1, .ref (aD g 0)), (2, .ref (aD g 94)), (3, .ref (aD g 100))]) 1616 K dL_law_1613 rfl (iz + 4) rfl 6 rfl (by decide) rfl ?_
              refine z_goto (tgt := 23) K dL_law_1616 (by decide) ?_
              refine z_sub [3, 4, 5, 6, 0] rfl ?_
              refine z_wid (kc' := (kc9 + 1)) (ks' := (ks9 + 6)) (by omega) (by omega) ?_
              exact IH (va_up (va_up C_94 94 (.inr (9, [.ref (aD g 95), .ref (aD g 96), .ref (aD g 97), .int (iZ (if kUnd k = 0 then k - 1 else k)), .ref (aD g 98), .int (iZ ty), .int (iZ (kUnd k)), .int (iZ pt), .int (iZ fl), .ref (aD g 99), .int (iZ to)]))) 95 (eI g 449 (if kUnd k = 0 then mPast past (k - 1) else f))) (if kUnd k = 0 then mPast past (k - 1) else f) ft past tx td o2_95 (if kUnd k = 0 then k - 1 else k) ty (kUnd k) pt fl to (cap + 1) (iz + 4) (kc9 + 1) (ks9 + 6) (IW_cong hIn_928 (fun q hq => ((va_up_ne _ _ (by omega)).trans ((va_up_ne _ _ (by omega)).trans rfl)))) (PW_und hP hcp) ((va_up_ne _ _ (by decide)).trans (va_up_eq _ 94 _)) (va_up_eq _ 95 _) ((va_up_ne _ _ (by decide)).trans ((va_up_ne _ _ (by decide)).trans hf_928_96)) ((va_up_ne _ _ (by decide)).trans ((va_up_ne _ _ (by decide)).trans hf_928_97)) ((va_up_ne _ _ (by decide)).trans ((va_up_ne _ _ (by decide)).trans hf_928_98)) ((va_up_ne _ _ (by decide)).trans ((va_up_ne _ _ (by decide)).trans hf_928_99)) ((va_up_ne _ _ (by decide)).trans ((va_up_ne _ _ (by decide)).trans hO_928)) hRt (by omega) (by omega) (by omega)
            · skip
              exact absurd (hv_961.mpr (by rw [show (Int.toNat 0) = 0 by rfl, hov_928 c_952, if_pos c_952])) c_962
        · skip
          exact absurd rfl c_945
      by_cases sw_39_15 : sw9 = 15
      · skip
        refine z_top (15) sw_39_15 ?_
        refine z_tableIn (tgt := 970) K dL_law_39 (by decide) (by decide) (by decide) rfl (by decide) ?_
        have hk9_15 : 0 ≤ kExh p1 p2 ∧ kExh p1 p2 ≤ 3 := kExh_b p1 p2
        refine z_aload_n 971 K dL_law_970 rfl rfl 1 rfl ?_
        refine z_aload_n 972 K dL_law_971 rfl rfl 0 rfl ?_
        refine z_iload 974 K dL_law_972 rfl 4 rfl ?_
        refine z_iconst 975 K dL_law_974 rfl ?_
        refine z_iadd 976 K dL_law_975 rfl ?_
        refine z_sld 977 K hX hbl hbA (by omega) (by omega) (by omega) dL_law_976 rfl ?_
        refine z_top (p1) hp1.symm ?_
        refine z_aload_n 978 K dL_law_977 rfl rfl 0 rfl ?_
        refine z_iload 980 K dL_law_978 rfl 4 rfl ?_
        refine z_iconst 981 K dL_law_980 rfl ?_
        refine z_iadd 982 K dL_law_981 rfl ?_
        refine z_sld 983 K hX hbl hbA (by omega) (by omega) (by omega) dL_law_982 rfl ?_
        refine z_top (p2) hp2.symm ?_
        refine z_aload_n 984 K dL_law_983 rfl rfl 3 rfl ?_
        refine z_vT (As := [.ref (aD g 0), .int (iZ p1), .int (iZ p2), .ref (aD g 100)]) (rest := []) 987 K hNc (w_L_exhibit l g _ p1 p2 o9 _ _ _ _ _ _ h100 hI hP (by omega) (by omega) hlt) (vx_cwSW 4 K.1.2.2.2.2 gL_law_L_exhibit rfl rfl rfl (by decide +kernel) ⟨Nat.le_of_ble_eq_true rfl, Nat.le_of_ble_eq_true rfl⟩) rfl (Nat.le_of_ble_eq_true rfl) dL_law_984 rfl (law_hf (cap := cap) ⟨by omega, by omega⟩ (by omega) (by omega) (by decide) (by decide)) rfl (fun z_100 C_101 hp_984 => ?_)
        obtain ⟨hIn_984, hsm_984, ⟨o2_102, hO_984, hov_984⟩, hz_984⟩ := hp_984
        refine z_top (kExh p1 p2) hz_984 ?_
        have hf_984_94 : C_101 94 = .inr (9, [.ref (aD g 95), .ref (aD g 96), .ref (aD g 97), .int (iZ k), .ref (aD g 98), .int (iZ ty), .int (iZ th), .int (iZ pt), .int (iZ fl), .ref (aD g 99), .int (iZ to)]) := (hsm_984 94 (by omega) (by omega)).trans h94
        have hf_984_95 : C_101 95 = eI g 449 f := (hsm_984 95 (by omega) (by omega)).trans h95
        have hf_984_96 : C_101 96 = eI g 449 ft := (hsm_984 96 (by omega) (by omega)).trans h96
        have hf_984_97 : C_101 97 = eI g 2694 past := (hsm_984 97 (by omega) (by omega)).trans h97
        have hf_984_98 : C_101 98 = eI g 60 tx := (hsm_984 98 (by omega) (by omega)).trans h98
        have hf_984_99 : C_101 99 = eI g 12 td := (hsm_984 99 (by omega) (by omega)).trans h99
        refine z_istore (lv' := [(5, .int (iZ (kExh p1 p2))), (0, .ref b), (1, .ref (aD g 0)), (2, .ref (aD g 94)), (3, .ref (aD g 100)), (4, .int (iZ iz))]) 989 K dL_law_987 rfl (by decide) rfl ?_
        refine z_aload_n 990 K dL_law_989 rfl rfl 3 rfl ?_
        refine z_aload_n 991 K dL_law_990 rfl rfl 1 rfl ?_
        refine z_iload 993 K dL_law_991 rfl 5 rfl ?_
        refine z_iconst 994 K dL_law_993 rfl ?_
        refine z_iadd 995 K dL_law_994 rfl ?_
        refine z_sld 996 K hX hbl hbA (by omega) (by omega) (by omega) dL_law_995 rfl ?_
        refine z_top (p1) hp1.symm ?_
        refine z_aload_n 997 K dL_law_996 rfl rfl 1 rfl ?_
        refine z_iload 999 K dL_law_997 rfl 5 rfl ?_
        refine z_iconst 1000 K dL_law_999 rfl ?_
        refine z_iadd 1001 K dL_law_1000 rfl ?_
        refine z_sld 1002 K hX hbl hbA (by omega) (by omega) (by omega) dL_law_1001 rfl ?_
        refine z_top (p2) hp2.symm ?_
        refine z_vVi (As := [.int (iZ p1), .int (iZ p2)]) (rest := []) 1005 K 94 (by decide) hf_984_94 rfl rfl (m_X9_exhibit l g _ p1 p2 k ty th pt fl to f _ hf_984_94 hf_984_95 hP.1 hcap9 hP.2.1 (by omega) (by omega)) (cwV 2 K.1.2.2.2.2 gL_law_X9_exhibit rfl rfl rfl (by decide +kernel) ⟨Nat.le_of_ble_eq_true rfl, Nat.le_of_ble_eq_true rfl⟩) rfl (Nat.le_of_ble_eq_true rfl) dL_law_1002 rfl (law_hf (cap := cap) ⟨by omega, by omega⟩ (by omega) (by omega) (by decide) (by decide)) rfl (fun z_103 C_104 hp_1002 => ?_)
        refine z_C hp_1002.1 ?_
        refine z_top (if kExh p1 p2 = 0 then (if p1 < f 1 then sOfE f p1 p2 else -1) else 0) hp_1002.2 ?_
        refine z_istore (lv' := [(6, .int (iZ (if kExh p1 p2 = 0 then (if p1 < f 1 then sOfE f p1 p2 else -1) else 0))), (5, .int (iZ (kExh p1 p2))), (0, .ref b), (1, .ref (aD g 0)), (2, .ref (aD g 94)), (3, .ref (aD g 100)), (4, .int (iZ iz))]) 1007 K dL_law_1005 rfl (by decide) rfl ?_
        refine z_aload_n 1008 K dL_law_1007 rfl rfl 4 rfl ?_
        refine z_vVi (As := []) (rest := []) 1011 K 94 (by decide) (va_up_eq _ 94 _) rfl rfl (m_X9_thrown l g _ k ty (kExh p1 p2) pt fl to (va_up_eq _ 94 _)) (cwV 0 K.1.2.2.2.2 gL_law_X9_thrown rfl rfl rfl (by decide +kernel) ⟨Nat.le_of_ble_eq_true rfl, Nat.le_of_ble_eq_true rfl⟩) rfl (Nat.le_of_ble_eq_true rfl) dL_law_1008 rfl (law_hf (cap := cap) ⟨by omega, by omega⟩ (by omega) (by omega) (by decide) (by decide)) rfl (fun z_105 C_106 hp_1008 => ?_)
        refine z_C hp_1008.1 ?_
        refine z_top (kExh p1 p2) hp_1008.2 ?_
        refine z_iload 1013 K dL_law_1011 rfl 1 rfl ?_
        refine z_icmp_eq (tgt := 1018) 1016 K dL_law_1013 rfl (by decide) (by omega) (by omega) (fun c_1013 => ?_) (fun c_1013 => ?_)
        · skip
          refine z_iload 1020 K dL_law_1018 rfl 1 rfl ?_
          refine z_if_ne (tgt := 1035) 1023 K dL_law_1020 rfl (by decide) (by omega) (fun c_1020 => ?_) (fun c_1020 => ?_)
          · skip
            refine z_goto (tgt := 1613) K dL_law_1035 (by decide) ?_
            refine z_iinc (lv' := [(4, .int (iZ (iz + 4))), (6, .int (iZ (if kExh p1 p2 = 0 then (if p1 < f 1 then sOfE f p1 p2 else -1) else 0))), (5, .int (iZ (kExh p1 p2))), (0, .ref b), (1, .ref (aD g 0)), (2, .ref (aD g 94)), (3, .ref (aD g 100))]) 1616 K dL_law_1613 rfl (iz + 4) rfl 6 rfl (by decide) rfl ?_
            refine z_goto (tgt := 23) K dL_law_1616 (by decide) ?_
            refine z_sub [3, 4, 5, 6, 0] rfl ?_
            refine z_wid (kc' := (kc9 + 1)) (ks' := (ks9 + 6)) (by omega) (by omega) ?_
            exact IH (va_up C_101 94 (.inr (9, [.ref (aD g 95), .ref (aD g 96), .ref (aD g 97), .int (iZ k), .ref (aD g 98), .int (iZ ty), .int (iZ (kExh p1 p2)), .int (iZ pt), .int (iZ fl), .ref (aD g 99), .int (iZ to)]))) f ft past tx td o2_102 k ty (kExh p1 p2) pt fl to (cap + 1) (iz + 4) (kc9 + 1) (ks9 + 6) (IW_cong hIn_984 (fun q hq => ((va_up_ne _ _ (by omega)).trans rfl))) (PW_mono hP hcp) (va_up_eq _ 94 _) ((va_up_ne _ _ (by decide)).trans hf_984_95) ((va_up_ne _ _ (by decide)).trans hf_984_96) ((va_up_ne _ _ (by decide)).trans hf_984_97) ((va_up_ne _ _ (by decide)).trans hf_984_98) ((va_up_ne _ _ (by decide)).trans hf_984_99) ((va_up_ne _ _ (by decide)).trans hO_984) hRt (by omega) (by omega) (by omega)
          · skip
            refine z_aload_n 1024 K dL_law_1023 rfl rfl 5 rfl ?_
            refine z_iconst 1025 K dL_law_1024 rfl ?_
            refine z_lald (f := o2_102) 1026 K 100 (by decide) ((va_up_ne _ _ (by decide)).trans hO_984) (by decide) (by decide) (by decide) dL_law_1025 rfl ?_
            refine z_iload 1028 K dL_law_1026 rfl 0 rfl ?_
            refine z_i2l 1029 K dL_law_1028 rfl ?_
            refine z_lcmp 1030 K dL_law_1029 rfl (fun v_1029 hv_1029 hr_1029 => ?_)
            refine z_if_eq (tgt := 1035) 1033 K dL_law_1030 rfl (by decide) (by omega) (fun c_1030 => ?_) (fun c_1030 => ?_)
            · skip
              refine z_goto (tgt := 1613) K dL_law_1035 (by decide) ?_
              refine z_iinc (lv' := [(4, .int (iZ (iz + 4))), (6, .int (iZ (if kExh p1 p2 = 0 then (if p1 < f 1 then sOfE f p1 p2 else -1) else 0))), (5, .int (iZ (kExh p1 p2))), (0, .ref b), (1, .ref (aD g 0)), (2, .ref (aD g 94)), (3, .ref (aD g 100))]) 1616 K dL_law_1613 rfl (iz + 4) rfl 6 rfl (by decide) rfl ?_
              refine z_goto (tgt := 23) K dL_law_1616 (by decide) ?_
              refine z_sub [3, 4, 5, 6, 0] rfl ?_
              refine z_wid (kc' := (kc9 + 1)) (ks' := (ks9 + 6)) (by omega) (by omega) ?_
              exact IH (va_up C_101 94 (.inr (9, [.ref (aD g 95), .ref (aD g 96), .ref (aD g 97), .int (iZ k), .ref (aD g 98), .int (iZ ty), .int (iZ (kExh p1 p2)), .int (iZ pt), .int (iZ fl), .ref (aD g 99), .int (iZ to)]))) f ft past tx td o2_102 k ty (kExh p1 p2) pt fl to (cap + 1) (iz + 4) (kc9 + 1) (ks9 + 6) (IW_cong hIn_984 (fun q hq => ((va_up_ne _ _ (by omega)).trans rfl))) (PW_mono hP hcp) (va_up_eq _ 94 _) ((va_up_ne _ _ (by decide)).trans hf_984_95) ((va_up_ne _ _ (by decide)).trans hf_984_96) ((va_up_ne _ _ (by decide)).trans hf_984_97) ((va_up_ne _ _ (by decide)).trans hf_984_98) ((va_up_ne _ _ (by decide)).trans hf_984_99) ((va_up_ne _ _ (by decide)).trans hO_984) hRt (by omega) (by omega) (by omega)
            · skip
              exact absurd (hv_1029.mpr (by rw [show (Int.toNat 0) = 0 by rfl, hov_984 c_1020, if_pos c_1020])) c_1030
        · skip
          exact absurd rfl c_1013
      by_cases sw_39_16 : sw9 = 16
      · skip
        refine z_top (16) sw_39_16 ?_
        refine z_tableIn (tgt := 1038) K dL_law_39 (by decide) (by decide) (by decide) rfl (by decide) ?_
        have hk9_16 : 0 ≤ kCtn p1 p2 p3 ∧ kCtn p1 p2 p3 ≤ 3 := kCtn_b p1 p2 p3
        refine z_aload_n 1039 K dL_law_1038 rfl rfl 1 rfl ?_
        refine z_aload_n 1040 K dL_law_1039 rfl rfl 0 rfl ?_
        refine z_iload 1042 K dL_law_1040 rfl 4 rfl ?_
        refine z_iconst 1043 K dL_law_1042 rfl ?_
        refine z_iadd 1044 K dL_law_1043 rfl ?_
        refine z_sld 1045 K hX hbl hbA (by omega) (by omega) (by omega) dL_law_1044 rfl ?_
        refine z_top (p1) hp1.symm ?_
        refine z_aload_n 1046 K dL_law_1045 rfl rfl 0 rfl ?_
        refine z_iload 1048 K dL_law_1046 rfl 4 rfl ?_
        refine z_iconst 1049 K dL_law_1048 rfl ?_
        refine z_iadd 1050 K dL_law_1049 rfl ?_
        refine z_sld 1051 K hX hbl hbA (by omega) (by omega) (by omega) dL_law_1050 rfl ?_
        refine z_top (p2) hp2.symm ?_
        refine z_aload_n 1052 K dL_law_1051 rfl rfl 0 rfl ?_
        refine z_iload 1054 K dL_law_1052 rfl 4 rfl ?_
        refine z_iconst 1055 K dL_law_1054 rfl ?_
        refine z_iadd 1056 K dL_law_1055 rfl ?_
        refine z_sld 1057 K hX hbl hbA (by omega) (by omega) (by omega) dL_law_1056 rfl ?_
        refine z_top (p3) hp3.symm ?_
        refine z_aload_n 1058 K dL_law_1057 rfl rfl 3 rfl ?_
        refine z_vT (As := [.ref (aD g 0), .int (iZ p1), .int (iZ p2), .int (iZ p3), .ref (aD g 100)]) (rest := []) 1061 K hNc (w_L_citation l g _ p1 p2 p3 o9 _ _ _ _ _ _ h100 hI hP (by omega) (by omega) (by omega) hlt) (vx_cwSW 5 K.1.2.2.2.2 gL_law_L_citation rfl rfl rfl (by decide +kernel) ⟨Nat.le_of_ble_eq_true rfl, Nat.le_of_ble_eq_true rfl⟩) rfl (Nat.le_of_ble_eq_true rfl) dL_law_1058 rfl (law_hf (cap := cap) ⟨by omega, by omega⟩ (by omega) (by omega) (by decide) (by decide)) rfl (fun z_107 C_108 hp_1058 => ?_)
        obtain ⟨hIn_1058, hsm_1058, ⟨o2_109, hO_1058, hov_1058⟩, hz_1058⟩ := hp_1058
        refine z_top (kCtn p1 p2 p3) hz_1058 ?_
        have hf_1058_94 : C_108 94 = .inr (9, [.ref (aD g 95), .ref (aD g 96), .ref (aD g 97), .int (iZ k), .ref (aD g 98), .int (iZ ty), .int (iZ th), .int (iZ pt), .int (iZ fl), .ref (aD g 99), .int (iZ to)]) := (hsm_1058 94 (by omega) (by omega)).trans h94
        have hf_1058_95 : C_108 95 = eI g 449 f := (hsm_1058 95 (by omega) (by omega)).trans h95
        have hf_1058_96 : C_108 96 = eI g 449 ft := (hsm_1058 96 (by omega) (by omega)).trans h96
        have hf_1058_97 : C_108 97 = eI g 2694 past := (hsm_1058 97 (by omega) (by omega)).trans h97
        have hf_1058_98 : C_108 98 = eI g 60 tx := (hsm_1058 98 (by omega) (by omega)).trans h98
        have hf_1058_99 : C_108 99 = eI g 12 td := (hsm_1058 99 (by omega) (by omega)).trans h99
        refine z_istore (lv' := [(5, .int (iZ (kCtn p1 p2 p3))), (0, .ref b), (1, .ref (aD g 0)), (2, .ref (aD g 94)), (3, .ref (aD g 100)), (4, .int (iZ iz))]) 1063 K dL_law_1061 rfl (by decide) rfl ?_
        refine z_aload_n 1064 K dL_law_1063 rfl rfl 3 rfl ?_
        refine z_aload_n 1065 K dL_law_1064 rfl rfl 1 rfl ?_
        refine z_iload 1067 K dL_law_1065 rfl 5 rfl ?_
        refine z_iconst 1068 K dL_law_1067 rfl ?_
        refine z_iadd 1069 K dL_law_1068 rfl ?_
        refine z_sld 1070 K hX hbl hbA (by omega) (by omega) (by omega) dL_law_1069 rfl ?_
        refine z_top (p1) hp1.symm ?_
        refine z_aload_n 1071 K dL_law_1070 rfl rfl 1 rfl ?_
        refine z_iload 1073 K dL_law_1071 rfl 5 rfl ?_
        refine z_iconst 1074 K dL_law_1073 rfl ?_
        refine z_iadd 1075 K dL_law_1074 rfl ?_
        refine z_sld 1076 K hX hbl hbA (by omega) (by omega) (by omega) dL_law_1075 rfl ?_
        refine z_top (p2) hp2.symm ?_
        refine z_aload_n 1077 K dL_law_1076 rfl rfl 1 rfl ?_
        refine z_iload 1079 K dL_law_1077 rfl 5 rfl ?_
        refine z_iconst 1080 K dL_law_1079 rfl ?_
        refine z_iadd 1081 K dL_law_1080 rfl ?_
        refine z_sld 1082 K hX hbl hbA (by omega) (by omega) (by omega) dL_law_1081 rfl ?_
        refine z_top (p3) hp3.symm ?_
        refine z_vVi (As := [.int (iZ p1), .int (iZ p2), .int (iZ p3)]) (rest := []) 1085 K 94 (by decide) hf_1058_94 rfl rfl (m_X9_citation l g _ p1 p2 p3 k ty th pt fl to f _ hf_1058_94 hf_1058_95 hP.1 hcap9 hP.2.1 (by omega) (by omega) (by omega)) (cwV 3 K.1.2.2.2.2 gL_law_X9_citation rfl rfl rfl (by decide +kernel) ⟨Nat.le_of_ble_eq_true rfl, Nat.le_of_ble_eq_true rfl⟩) rfl (Nat.le_of_ble_eq_true rfl) dL_law_1082 rfl (law_hf (cap := cap) ⟨by omega, by omega⟩ (by omega) (by omega) (by decide) (by decide)) rfl (fun z_110 C_111 hp_1082 => ?_)
        refine z_C hp_1082.1 ?_
        refine z_top (if kCtn p1 p2 p3 = 0 then (if p2 < f (32 * p1 + 65) then sOfC f p1 p2 p3 else -1) else 0) hp_1082.2 ?_
        refine z_istore (lv' := [(6, .int (iZ (if kCtn p1 p2 p3 = 0 then (if p2 < f (32 * p1 + 65) then sOfC f p1 p2 p3 else -1) else 0))), (5, .int (iZ (kCtn p1 p2 p3))), (0, .ref b), (1, .ref (aD g 0)), (2, .ref (aD g 94)), (3, .ref (aD g 100)), (4, .int (iZ iz))]) 1087 K dL_law_1085 rfl (by decide) rfl ?_
        refine z_aload_n 1088 K dL_law_1087 rfl rfl 4 rfl ?_
        refine z_vVi (As := []) (rest := []) 1091 K 94 (by decide) (va_up_eq _ 94 _) rfl rfl (m_X9_thrown l g _ k ty (kCtn p1 p2 p3) pt fl to (va_up_eq _ 94 _)) (cwV 0 K.1.2.2.2.2 gL_law_X9_thrown rfl rfl rfl (by decide +kernel) ⟨Nat.le_of_ble_eq_true rfl, Nat.le_of_ble_eq_true rfl⟩) rfl (Nat.le_of_ble_eq_true rfl) dL_law_1088 rfl (law_hf (cap := cap) ⟨by omega, by omega⟩ (by omega) (by omega) (by decide) (by decide)) rfl (fun z_112 C_113 hp_1088 => ?_)
        refine z_C hp_1088.1 ?_
        refine z_top (kCtn p1 p2 p3) hp_1088.2 ?_
        refine z_iload 1093 K dL_law_1091 rfl 1 rfl ?_
        refine z_icmp_eq (tgt := 1098) 1096 K dL_law_1093 rfl (by decide) (by omega) (by omega) (fun c_1093 => ?_) (fun c_1093 => ?_)
        · skip
          refine z_iload 1100 K dL_law_1098 rfl 1 rfl ?_
          refine z_if_ne (tgt := 1115) 1103 K dL_law_1100 rfl (by decide) (by omega) (fun c_1100 => ?_) (fun c_1100 => ?_)
          · skip
            refine z_goto (tgt := 1613) K dL_law_1115 (by decide) ?_
            refine z_iinc (lv' := [(4, .int (iZ (iz + 4))), (6, .int (iZ (if kCtn p1 p2 p3 = 0 then (if p2 < f (32 * p1 + 65) then sOfC f p1 p2 p3 else -1) else 0))), (5, .int (iZ (kCtn p1 p2 p3))), (0, .ref b), (1, .ref (aD g 0)), (2, .ref (aD g 94)), (3, .ref (aD g 100))]) 1616 K dL_law_1613 rfl (iz + 4) rfl 6 rfl (by decide) rfl ?_
            refine z_goto (tgt := 23) K dL_law_1616 (by decide) ?_
            refine z_sub [3, 4, 5, 6, 0] rfl ?_
            refine z_wid (kc' := (kc9 + 2)) (ks' := (ks9 + 12)) (by omega) (by omega) ?_
            exact IH (va_up C_108 94 (.inr (9, [.ref (aD g 95), .ref (aD g 96), .ref (aD g 97), .int (iZ k), .ref (aD g 98), .int (iZ ty), .int (iZ (kCtn p1 p2 p3)), .int (iZ pt), .int (iZ fl), .ref (aD g 99), .int (iZ to)]))) f ft past tx td o2_109 k ty (kCtn p1 p2 p3) pt fl to (cap + 1) (iz + 4) (kc9 + 2) (ks9 + 12) (IW_cong hIn_1058 (fun q hq => ((va_up_ne _ _ (by omega)).trans rfl))) (PW_mono hP hcp) (va_up_eq _ 94 _) ((va_up_ne _ _ (by decide)).trans hf_1058_95) ((va_up_ne _ _ (by decide)).trans hf_1058_96) ((va_up_ne _ _ (by decide)).trans hf_1058_97) ((va_up_ne _ _ (by decide)).trans hf_1058_98) ((va_up_ne _ _ (by decide)).trans hf_1058_99) ((va_up_ne _ _ (by decide)).trans hO_1058) hRt (by omega) (by omega) (by omega)
          · skip
            refine z_aload_n 1104 K dL_law_1103 rfl rfl 5 rfl ?_
            refine z_iconst 1105 K dL_law_1104 rfl ?_
            refine z_lald (f := o2_109) 1106 K 100 (by decide) ((va_up_ne _ _ (by decide)).trans hO_1058) (by decide) (by decide) (by decide) dL_law_1105 rfl ?_
            refine z_iload 1108 K dL_law_1106 rfl 0 rfl ?_
            refine z_i2l 1109 K dL_law_1108 rfl ?_
            refine z_lcmp 1110 K dL_law_1109 rfl (fun v_1109 hv_1109 hr_1109 => ?_)
            refine z_if_eq (tgt := 1115) 1113 K dL_law_1110 rfl (by decide) (by omega) (fun c_1110 => ?_) (fun c_1110 => ?_)
            · skip
              refine z_goto (tgt := 1613) K dL_law_1115 (by decide) ?_
              refine z_iinc (lv' := [(4, .int (iZ (iz + 4))), (6, .int (iZ (if kCtn p1 p2 p3 = 0 then (if p2 < f (32 * p1 + 65) then sOfC f p1 p2 p3 else -1) else 0))), (5, .int (iZ (kCtn p1 p2 p3))), (0, .ref b), (1, .ref (aD g 0)), (2, .ref (aD g 94)), (3, .ref (aD g 100))]) 1616 K dL_law_1613 rfl (iz + 4) rfl 6 rfl (by decide) rfl ?_
              refine z_goto (tgt := 23) K dL_law_1616 (by decide) ?_
              refine z_sub [3, 4, 5, 6, 0] rfl ?_
              refine z_wid (kc' := (kc9 + 2)) (ks' := (ks9 + 12)) (by omega) (by omega) ?_
              exact IH (va_up C_108 94 (.inr (9, [.ref (aD g 95), .ref (aD g 96), .ref (aD g 97), .int (iZ k), .ref (aD g 98), .int (iZ ty), .int (iZ (kCtn p1 p2 p3)), .int (iZ pt), .int (iZ fl), .ref (aD g 99), .int (iZ to)]))) f ft past tx td o2_109 k ty (kCtn p1 p2 p3) pt fl to (cap + 1) (iz + 4) (kc9 + 2) (ks9 + 12) (IW_cong hIn_1058 (fun q hq => ((va_up_ne _ _ (by omega)).trans rfl))) (PW_mono hP hcp) (va_up_eq _ 94 _) ((va_up_ne _ _ (by decide)).trans hf_1058_95) ((va_up_ne _ _ (by decide)).trans hf_1058_96) ((va_up_ne _ _ (by decide)).trans hf_1058_97) ((va_up_ne _ _ (by decide)).trans hf_1058_98) ((va_up_ne _ _ (by decide)).trans hf_1058_99) ((va_up_ne _ _ (by decide)).trans hO_1058) hRt (by omega) (by omega) (by omega)
            · skip
              exact absurd (hv_1109.mpr (by rw [show (Int.toNat 0) = 0 by rfl, hov_1058 c_1100, if_pos c_1100])) c_1110
        · skip
          exact absurd rfl c_1093
      by_cases sw_39_17 : sw9 = 17
      · skip
        refine z_top (17) sw_39_17 ?_
        refine z_tableIn (tgt := 1118) K dL_law_39 (by decide) (by decide) (by decide) rfl (by decide) ?_
        have hk9_17 : 0 ≤ kPrg p1 p2 ∧ kPrg p1 p2 ≤ 3 := kPrg_b p1 p2
        refine z_aload_n 1119 K dL_law_1118 rfl rfl 1 rfl ?_
        refine z_aload_n 1120 K dL_law_1119 rfl rfl 0 rfl ?_
        refine z_iload 1122 K dL_law_1120 rfl 4 rfl ?_
        refine z_iconst 1123 K dL_law_1122 rfl ?_
        refine z_iadd 1124 K dL_law_1123 rfl ?_
        refine z_sld 1125 K hX hbl hbA (by omega) (by omega) (by omega) dL_law_1124 rfl ?_
        refine z_top (p1) hp1.symm ?_
        refine z_aload_n 1126 K dL_law_1125 rfl rfl 0 rfl ?_
        refine z_iload 1128 K dL_law_1126 rfl 4 rfl ?_
        refine z_iconst 1129 K dL_law_1128 rfl ?_
        refine z_iadd 1130 K dL_law_1129 rfl ?_
        refine z_sld 1131 K hX hbl hbA (by omega) (by omega) (by omega) dL_law_1130 rfl ?_
        refine z_top (p2) hp2.symm ?_
        refine z_aload_n 1132 K dL_law_1131 rfl rfl 3 rfl ?_
        refine z_vT (As := [.ref (aD g 0), .int (iZ p1), .int (iZ p2), .ref (aD g 100)]) (rest := []) 1135 K hNc (w_L_paragraph l g _ p1 p2 o9 _ _ _ _ _ _ h100 hI hP (by omega) (by omega) hlt) (vx_cwSW 4 K.1.2.2.2.2 gL_law_L_paragraph rfl rfl rfl (by decide +kernel) ⟨Nat.le_of_ble_eq_true rfl, Nat.le_of_ble_eq_true rfl⟩) rfl (Nat.le_of_ble_eq_true rfl) dL_law_1132 rfl (law_hf (cap := cap) ⟨by omega, by omega⟩ (by omega) (by omega) (by decide) (by decide)) rfl (fun z_114 C_115 hp_1132 => ?_)
        obtain ⟨hIn_1132, hsm_1132, ⟨o2_116, hO_1132, hov_1132⟩, hz_1132⟩ := hp_1132
        refine z_top (kPrg p1 p2) hz_1132 ?_
        have hf_1132_94 : C_115 94 = .inr (9, [.ref (aD g 95), .ref (aD g 96), .ref (aD g 97), .int (iZ k), .ref (aD g 98), .int (iZ ty), .int (iZ th), .int (iZ pt), .int (iZ fl), .ref (aD g 99), .int (iZ to)]) := (hsm_1132 94 (by omega) (by omega)).trans h94
        have hf_1132_95 : C_115 95 = eI g 449 f := (hsm_1132 95 (by omega) (by omega)).trans h95
        have hf_1132_96 : C_115 96 = eI g 449 ft := (hsm_1132 96 (by omega) (by omega)).trans h96
        have hf_1132_97 : C_115 97 = eI g 2694 past := (hsm_1132 97 (by omega) (by omega)).trans h97
        have hf_1132_98 : C_115 98 = eI g 60 tx := (hsm_1132 98 (by omega) (by omega)).trans h98
        have hf_1132_99 : C_115 99 = eI g 12 td := (hsm_1132 99 (by omega) (by omega)).trans h99
        refine z_istore (lv' := [(5, .int (iZ (kPrg p1 p2))), (0, .ref b), (1, .ref (aD g 0)), (2, .ref (aD g 94)), (3, .ref (aD g 100)), (4, .int (iZ iz))]) 1137 K dL_law_1135 rfl (by decide) rfl ?_
        refine z_aload_n 1138 K dL_law_1137 rfl rfl 3 rfl ?_
        refine z_aload_n 1139 K dL_law_1138 rfl rfl 1 rfl ?_
        refine z_iload 1141 K dL_law_1139 rfl 5 rfl ?_
        refine z_iconst 1142 K dL_law_1141 rfl ?_
        refine z_iadd 1143 K dL_law_1142 rfl ?_
        refine z_sld 1144 K hX hbl hbA (by omega) (by omega) (by omega) dL_law_1143 rfl ?_
        refine z_top (p1) hp1.symm ?_
        refine z_aload_n 1145 K dL_law_1144 rfl rfl 1 rfl ?_
        refine z_iload 1147 K dL_law_1145 rfl 5 rfl ?_
        refine z_iconst 1148 K dL_law_1147 rfl ?_
        refine z_iadd 1149 K dL_law_1148 rfl ?_
        refine z_sld 1150 K hX hbl hbA (by omega) (by omega) (by omega) dL_law_1149 rfl ?_
        refine z_top (p2) hp2.symm ?_
        refine z_vVi (As := [.int (iZ p1), .int (iZ p2)]) (rest := []) 1153 K 94 (by decide) hf_1132_94 rfl rfl (m_X9_paragraph l g _ p1 p2 k ty th pt fl to f _ hf_1132_94 hf_1132_95 hP.1 hcap9 hP.2.1 (by omega) (by omega)) (cwV 2 K.1.2.2.2.2 gL_law_X9_paragraph rfl rfl rfl (by decide +kernel) ⟨Nat.le_of_ble_eq_true rfl, Nat.le_of_ble_eq_true rfl⟩) rfl (Nat.le_of_ble_eq_true rfl) dL_law_1150 rfl (law_hf (cap := cap) ⟨by omega, by omega⟩ (by omega) (by omega) (by decide) (by decide)) rfl (fun z_117 C_118 hp_1150 => ?_)
        refine z_C hp_1150.1 ?_
        refine z_top (if kPrg p1 p2 = 0 then sOfP f p1 p2 else 0) hp_1150.2 ?_
        refine z_istore (lv' := [(6, .int (iZ (if kPrg p1 p2 = 0 then sOfP f p1 p2 else 0))), (5, .int (iZ (kPrg p1 p2))), (0, .ref b), (1, .ref (aD g 0)), (2, .ref (aD g 94)), (3, .ref (aD g 100)), (4, .int (iZ iz))]) 1155 K dL_law_1153 rfl (by decide) rfl ?_
        refine z_aload_n 1156 K dL_law_1155 rfl rfl 4 rfl ?_
        refine z_vVi (As := []) (rest := []) 1159 K 94 (by decide) (va_up_eq _ 94 _) rfl rfl (m_X9_thrown l g _ k ty (kPrg p1 p2) pt fl to (va_up_eq _ 94 _)) (cwV 0 K.1.2.2.2.2 gL_law_X9_thrown rfl rfl rfl (by decide +kernel) ⟨Nat.le_of_ble_eq_true rfl, Nat.le_of_ble_eq_true rfl⟩) rfl (Nat.le_of_ble_eq_true rfl) dL_law_1156 rfl (law_hf (cap := cap) ⟨by omega, by omega⟩ (by omega) (by omega) (by decide) (by decide)) rfl (fun z_119 C_120 hp_1156 => ?_)
        refine z_C hp_1156.1 ?_
        refine z_top (kPrg p1 p2) hp_1156.2 ?_
        refine z_iload 1161 K dL_law_1159 rfl 1 rfl ?_
        refine z_icmp_eq (tgt := 1166) 1164 K dL_law_1161 rfl (by decide) (by omega) (by omega) (fun c_1161 => ?_) (fun c_1161 => ?_)
        · skip
          refine z_iload 1168 K dL_law_1166 rfl 1 rfl ?_
          refine z_if_ne (tgt := 1183) 1171 K dL_law_1168 rfl (by decide) (by omega) (fun c_1168 => ?_) (fun c_1168 => ?_)
          · skip
            refine z_goto (tgt := 1613) K dL_law_1183 (by decide) ?_
            refine z_iinc (lv' := [(4, .int (iZ (iz + 4))), (6, .int (iZ (if kPrg p1 p2 = 0 then sOfP f p1 p2 else 0))), (5, .int (iZ (kPrg p1 p2))), (0, .ref b), (1, .ref (aD g 0)), (2, .ref (aD g 94)), (3, .ref (aD g 100))]) 1616 K dL_law_1613 rfl (iz + 4) rfl 6 rfl (by decide) rfl ?_
            refine z_goto (tgt := 23) K dL_law_1616 (by decide) ?_
            refine z_sub [3, 4, 5, 6, 0] rfl ?_
            refine z_wid (kc' := (kc9 + 2)) (ks' := (ks9 + 12)) (by omega) (by omega) ?_
            exact IH (va_up C_115 94 (.inr (9, [.ref (aD g 95), .ref (aD g 96), .ref (aD g 97), .int (iZ k), .ref (aD g 98), .int (iZ ty), .int (iZ (kPrg p1 p2)), .int (iZ pt), .int (iZ fl), .ref (aD g 99), .int (iZ to)]))) f ft past tx td o2_116 k ty (kPrg p1 p2) pt fl to (cap + 1) (iz + 4) (kc9 + 2) (ks9 + 12) (IW_cong hIn_1132 (fun q hq => ((va_up_ne _ _ (by omega)).trans rfl))) (PW_mono hP hcp) (va_up_eq _ 94 _) ((va_up_ne _ _ (by decide)).trans hf_1132_95) ((va_up_ne _ _ (by decide)).trans hf_1132_96) ((va_up_ne _ _ (by decide)).trans hf_1132_97) ((va_up_ne _ _ (by decide)).trans hf_1132_98) ((va_up_ne _ _ (by decide)).trans hf_1132_99) ((va_up_ne _ _ (by decide)).trans hO_1132) hRt (by omega) (by omega) (by omega)
          · skip
            refine z_aload_n 1172 K dL_law_1171 rfl rfl 5 rfl ?_
            refine z_iconst 1173 K dL_law_1172 rfl ?_
            refine z_lald (f := o2_116) 1174 K 100 (by decide) ((va_up_ne _ _ (by decide)).trans hO_1132) (by decide) (by decide) (by decide) dL_law_1173 rfl ?_
            refine z_iload 1176 K dL_law_1174 rfl 0 rfl ?_
            refine z_i2l 1177 K dL_law_1176 rfl ?_
            refine z_lcmp 1178 K dL_law_1177 rfl (fun v_1177 hv_1177 hr_1177 => ?_)
            refine z_if_eq (tgt := 1183) 1181 K dL_law_1178 rfl (by decide) (by omega) (fun c_1178 => ?_) (fun c_1178 => ?_)
            · skip
              refine z_goto (tgt := 1613) K dL_law_1183 (by decide) ?_
              refine z_iinc (lv' := [(4, .int (iZ (iz + 4))), (6, .int (iZ (if kPrg p1 p2 = 0 then sOfP f p1 p2 else 0))), (5, .int (iZ (kPrg p1 p2))), (0, .ref b), (1, .ref (aD g 0)), (2, .ref (aD g 94)), (3, .ref (aD g 100))]) 1616 K dL_law_1613 rfl (iz + 4) rfl 6 rfl (by decide) rfl ?_
              refine z_goto (tgt := 23) K dL_law_1616 (by decide) ?_
              refine z_sub [3, 4, 5, 6, 0] rfl ?_
              refine z_wid (kc' := (kc9 + 2)) (ks' := (ks9 + 12)) (by omega) (by omega) ?_
              exact IH (va_up C_115 94 (.inr (9, [.ref (aD g 95), .ref (aD g 96), .ref (aD g 97), .int (iZ k), .ref (aD g 98), .int (iZ ty), .int (iZ (kPrg p1 p2)), .int (iZ pt), .int (iZ fl), .ref (aD g 99), .int (iZ to)]))) f ft past tx td o2_116 k ty (kPrg p1 p2) pt fl to (cap + 1) (iz + 4) (kc9 + 2) (ks9 + 12) (IW_cong hIn_1132 (fun q hq => ((va_up_ne _ _ (by omega)).trans rfl))) (PW_mono hP hcp) (va_up_eq _ 94 _) ((va_up_ne _ _ (by decide)).trans hf_1132_95) ((va_up_ne _ _ (by decide)).trans hf_1132_96) ((va_up_ne _ _ (by decide)).trans hf_1132_97) ((va_up_ne _ _ (by decide)).trans hf_1132_98) ((va_up_ne _ _ (by decide)).trans hf_1132_99) ((va_up_ne _ _ (by decide)).trans hO_1132) hRt (by omega) (by omega) (by omega)
            · skip
              exact absurd (hv_1177.mpr (by rw [show (Int.toNat 0) = 0 by rfl, hov_1132 c_1168, if_pos c_1168])) c_1178
        · skip
          exact absurd rfl c_1161
      by_cases sw_39_18 : sw9 = 18
      · skip
        refine z_top (18) sw_39_18 ?_
        refine z_tableIn (tgt := 1186) K dL_law_39 (by decide) (by decide) (by decide) rfl (by decide) ?_
        have hk9_18 : 0 ≤ kPl f p1 ∧ kPl f p1 ≤ 3 := kPl_b f p1
        refine z_aload_n 1187 K dL_law_1186 rfl rfl 1 rfl ?_
        refine z_aload_n 1188 K dL_law_1187 rfl rfl 0 rfl ?_
        refine z_iload 1190 K dL_law_1188 rfl 4 rfl ?_
        refine z_iconst 1191 K dL_law_1190 rfl ?_
        refine z_iadd 1192 K dL_law_1191 rfl ?_
        refine z_sld 1193 K hX hbl hbA (by omega) (by omega) (by omega) dL_law_1192 rfl ?_
        refine z_top (p1) hp1.symm ?_
        refine z_aload_n 1194 K dL_law_1193 rfl rfl 3 rfl ?_
        refine z_vT (As := [.ref (aD g 0), .int (iZ p1), .ref (aD g 100)]) (rest := []) 1197 K hNc (w_L_table l g _ p1 o9 _ _ _ _ _ _ h100 hI hP (by omega) hlt) (vx_cwSW 3 K.1.2.2.2.2 gL_law_L_table rfl rfl rfl (by decide +kernel) ⟨Nat.le_of_ble_eq_true rfl, Nat.le_of_ble_eq_true rfl⟩) rfl (Nat.le_of_ble_eq_true rfl) dL_law_1194 rfl (law_hf (cap := cap) ⟨by omega, by omega⟩ (by omega) (by omega) (by decide) (by decide)) rfl (fun z_121 C_122 hp_1194 => ?_)
        obtain ⟨hIn_1194, hsm_1194, ⟨o2_123, hO_1194, hov_1194⟩, hz_1194⟩ := hp_1194
        refine z_top (kPl f p1) hz_1194 ?_
        have hf_1194_94 : C_122 94 = .inr (9, [.ref (aD g 95), .ref (aD g 96), .ref (aD g 97), .int (iZ k), .ref (aD g 98), .int (iZ ty), .int (iZ th), .int (iZ pt), .int (iZ fl), .ref (aD g 99), .int (iZ to)]) := (hsm_1194 94 (by omega) (by omega)).trans h94
        have hf_1194_95 : C_122 95 = eI g 449 f := (hsm_1194 95 (by omega) (by omega)).trans h95
        have hf_1194_96 : C_122 96 = eI g 449 ft := (hsm_1194 96 (by omega) (by omega)).trans h96
        have hf_1194_97 : C_122 97 = eI g 2694 past := (hsm_1194 97 (by omega) (by omega)).trans h97
        have hf_1194_98 : C_122 98 = eI g 60 tx := (hsm_1194 98 (by omega) (by omega)).trans h98
        have hf_1194_99 : C_122 99 = eI g 12 td := (hsm_1194 99 (by omega) (by omega)).trans h99
        refine z_istore (lv' := [(5, .int (iZ (kPl f p1))), (0, .ref b), (1, .ref (aD g 0)), (2, .ref (aD g 94)), (3, .ref (aD g 100)), (4, .int (iZ iz))]) 1199 K dL_law_1197 rfl (by decide) rfl ?_
        refine z_aload_n 1200 K dL_law_1199 rfl rfl 3 rfl ?_
        refine z_aload_n 1201 K dL_law_1200 rfl rfl 1 rfl ?_
        refine z_iload 1203 K dL_law_1201 rfl 5 rfl ?_
        refine z_iconst 1204 K dL_law_1203 rfl ?_
        refine z_iadd 1205 K dL_law_1204 rfl ?_
        refine z_sld 1206 K hX hbl hbA (by omega) (by omega) (by omega) dL_law_1205 rfl ?_
        refine z_top (p1) hp1.symm ?_
        refine z_vVi (As := [.int (iZ p1)]) (rest := []) 1209 K 94 (by decide) hf_1194_94 rfl rfl (m_X9_table l g _ p1 k ty th pt fl to f _ hf_1194_94 hf_1194_95 hP.1 hcap9 hP.2.1 (by omega)) (cwV 1 K.1.2.2.2.2 gL_law_X9_table rfl rfl rfl (by decide +kernel) ⟨Nat.le_of_ble_eq_true rfl, Nat.le_of_ble_eq_true rfl⟩) rfl (Nat.le_of_ble_eq_true rfl) dL_law_1206 rfl (law_hf (cap := cap) ⟨by omega, by omega⟩ (by omega) (by omega) (by decide) (by decide)) rfl (fun z_124 C_125 hp_1206 => ?_)
        refine z_C hp_1206.1 ?_
        refine z_top (if kPl f p1 = 0 then sRow f p1 else 0) hp_1206.2 ?_
        refine z_istore (lv' := [(6, .int (iZ (if kPl f p1 = 0 then sRow f p1 else 0))), (5, .int (iZ (kPl f p1))), (0, .ref b), (1, .ref (aD g 0)), (2, .ref (aD g 94)), (3, .ref (aD g 100)), (4, .int (iZ iz))]) 1211 K dL_law_1209 rfl (by decide) rfl ?_
        refine z_aload_n 1212 K dL_law_1211 rfl rfl 4 rfl ?_
        refine z_vVi (As := []) (rest := []) 1215 K 94 (by decide) (va_up_eq _ 94 _) rfl rfl (m_X9_thrown l g _ k ty (kPl f p1) pt fl to (va_up_eq _ 94 _)) (cwV 0 K.1.2.2.2.2 gL_law_X9_thrown rfl rfl rfl (by decide +kernel) ⟨Nat.le_of_ble_eq_true rfl, Nat.le_of_ble_eq_true rfl⟩) rfl (Nat.le_of_ble_eq_true rfl) dL_law_1212 rfl (law_hf (cap := cap) ⟨by omega, by omega⟩ (by omega) (by omega) (by decide) (by decide)) rfl (fun z_126 C_127 hp_1212 => ?_)
        refine z_C hp_1212.1 ?_
        refine z_top (kPl f p1) hp_1212.2 ?_
        refine z_iload 1217 K dL_law_1215 rfl 1 rfl ?_
        refine z_icmp_eq (tgt := 1222) 1220 K dL_law_1217 rfl (by decide) (by omega) (by omega) (fun c_1217 => ?_) (fun c_1217 => ?_)
        · skip
          refine z_iload 1224 K dL_law_1222 rfl 1 rfl ?_
          refine z_if_ne (tgt := 1239) 1227 K dL_law_1224 rfl (by decide) (by omega) (fun c_1224 => ?_) (fun c_1224 => ?_)
          · skip
            refine z_goto (tgt := 1613) K dL_law_1239 (by decide) ?_
            refine z_iinc (lv' := [(4, .int (iZ (iz + 4))), (6, .int (iZ (if kPl f p1 = 0 then sRow f p1 else 0))), (5, .int (iZ (kPl f p1))), (0, .ref b), (1, .ref (aD g 0)), (2, .ref (aD g 94)), (3, .ref (aD g 100))]) 1616 K dL_law_1613 rfl (iz + 4) rfl 6 rfl (by decide) rfl ?_
            refine z_goto (tgt := 23) K dL_law_1616 (by decide) ?_
            refine z_sub [3, 4, 5, 6, 0] rfl ?_
            refine z_wid (kc' := (kc9 + 1)) (ks' := (ks9 + 6)) (by omega) (by omega) ?_
            exact IH (va_up C_122 94 (.inr (9, [.ref (aD g 95), .ref (aD g 96), .ref (aD g 97), .int (iZ k), .ref (aD g 98), .int (iZ ty), .int (iZ (kPl f p1)), .int (iZ pt), .int (iZ fl), .ref (aD g 99), .int (iZ to)]))) f ft past tx td o2_123 k ty (kPl f p1) pt fl to (cap + 1) (iz + 4) (kc9 + 1) (ks9 + 6) (IW_cong hIn_1194 (fun q hq => ((va_up_ne _ _ (by omega)).trans rfl))) (PW_mono hP hcp) (va_up_eq _ 94 _) ((va_up_ne _ _ (by decide)).trans hf_1194_95) ((va_up_ne _ _ (by decide)).trans hf_1194_96) ((va_up_ne _ _ (by decide)).trans hf_1194_97) ((va_up_ne _ _ (by decide)).trans hf_1194_98) ((va_up_ne _ _ (by decide)).trans hf_1194_99) ((va_up_ne _ _ (by decide)).trans hO_1194) hRt (by omega) (by omega) (by omega)
          · skip
            refine z_aload_n 1228 K dL_law_1227 rfl rfl 5 rfl ?_
            refine z_iconst 1229 K dL_law_1228 rfl ?_
            refine z_lald (f := o2_123) 1230 K 100 (by decide) ((va_up_ne _ _ (by decide)).trans hO_1194) (by decide) (by decide) (by decide) dL_law_1229 rfl ?_
            refine z_iload 1232 K dL_law_1230 rfl 0 rfl ?_
            refine z_i2l 1233 K dL_law_1232 rfl ?_
            refine z_lcmp 1234 K dL_law_1233 rfl (fun v_1233 hv_1233 hr_1233 => ?_)
            refine z_if_eq (tgt := 1239) 1237 K dL_law_1234 rfl (by decide) (by omega) (fun c_1234 => ?_) (fun c_1234 => ?_)
            · skip
              refine z_goto (tgt := 1613) K dL_law_1239 (by decide) ?_
              refine z_iinc (lv' := [(4, .int (iZ (iz + 4))), (6, .int (iZ (if kPl f p1 = 0 then sRow f p1 else 0))), (5, .int (iZ (kPl f p1))), (0, .ref b), (1, .ref (aD g 0)), (2, .ref (aD g 94)), (3, .ref (aD g 100))]) 1616 K dL_law_1613 rfl (iz + 4) rfl 6 rfl (by decide) rfl ?_
              refine z_goto (tgt := 23) K dL_law_1616 (by decide) ?_
              refine z_sub [3, 4, 5, 6, 0] rfl ?_
              refine z_wid (kc' := (kc9 + 1)) (ks' := (ks9 + 6)) (by omega) (by omega) ?_
              exact IH (va_up C_122 94 (.inr (9, [.ref (aD g 95), .ref (aD g 96), .ref (aD g 97), .int (iZ k), .ref (aD g 98), .int (iZ ty), .int (iZ (kPl f p1)), .int (iZ pt), .int (iZ fl), .ref (aD g 99), .int (iZ to)]))) f ft past tx td o2_123 k ty (kPl f p1) pt fl to (cap + 1) (iz + 4) (kc9 + 1) (ks9 + 6) (IW_cong hIn_1194 (fun q hq => ((va_up_ne _ _ (by omega)).trans rfl))) (PW_mono hP hcp) (va_up_eq _ 94 _) ((va_up_ne _ _ (by decide)).trans hf_1194_95) ((va_up_ne _ _ (by decide)).trans hf_1194_96) ((va_up_ne _ _ (by decide)).trans hf_1194_97) ((va_up_ne _ _ (by decide)).trans hf_1194_98) ((va_up_ne _ _ (by decide)).trans hf_1194_99) ((va_up_ne _ _ (by decide)).trans hO_1194) hRt (by omega) (by omega) (by omega)
            · skip
              exact absurd (hv_1233.mpr (by rw [show (Int.toNat 0) = 0 by rfl, hov_1194 c_1224, if_pos c_1224])) c_1234
        · skip
          exact absurd rfl c_1217
      by_cases sw_39_19 : sw9 = 19
      · skip
        refine z_top (19) sw_39_19 ?_
        refine z_tableIn (tgt := 1242) K dL_law_39 (by decide) (by decide) (by decide) rfl (by decide) ?_
        have hk9_19 : 0 ≤ kCnt p1 ∧ kCnt p1 ≤ 3 := kCnt_b p1
        refine z_aload_n 1243 K dL_law_1242 rfl rfl 1 rfl ?_
        refine z_aload_n 1244 K dL_law_1243 rfl rfl 0 rfl ?_
        refine z_iload 1246 K dL_law_1244 rfl 4 rfl ?_
        refine z_iconst 1247 K dL_law_1246 rfl ?_
        refine z_iadd 1248 K dL_law_1247 rfl ?_
        refine z_sld 1249 K hX hbl hbA (by omega) (by omega) (by omega) dL_law_1248 rfl ?_
        refine z_top (p1) hp1.symm ?_
        refine z_aload_n 1250 K dL_law_1249 rfl rfl 3 rfl ?_
        refine z_vT (As := [.ref (aD g 0), .int (iZ p1), .ref (aD g 100)]) (rest := []) 1253 K hNc (w_L_count l g _ p1 o9 _ _ _ _ _ _ h100 hI hP (by omega) hlt) (vx_cwSW 3 K.1.2.2.2.2 gL_law_L_count rfl rfl rfl (by decide +kernel) ⟨Nat.le_of_ble_eq_true rfl, Nat.le_of_ble_eq_true rfl⟩) rfl (Nat.le_of_ble_eq_true rfl) dL_law_1250 rfl (law_hf (cap := cap) ⟨by omega, by omega⟩ (by omega) (by omega) (by decide) (by decide)) rfl (fun z_128 C_129 hp_1250 => ?_)
        obtain ⟨hIn_1250, hsm_1250, ⟨o2_130, hO_1250, hov_1250⟩, hz_1250⟩ := hp_1250
        refine z_top (kCnt p1) hz_1250 ?_
        have hf_1250_94 : C_129 94 = .inr (9, [.ref (aD g 95), .ref (aD g 96), .ref (aD g 97), .int (iZ k), .ref (aD g 98), .int (iZ ty), .int (iZ th), .int (iZ pt), .int (iZ fl), .ref (aD g 99), .int (iZ to)]) := (hsm_1250 94 (by omega) (by omega)).trans h94
        have hf_1250_95 : C_129 95 = eI g 449 f := (hsm_1250 95 (by omega) (by omega)).trans h95
        have hf_1250_96 : C_129 96 = eI g 449 ft := (hsm_1250 96 (by omega) (by omega)).trans h96
        have hf_1250_97 : C_129 97 = eI g 2694 past := (hsm_1250 97 (by omega) (by omega)).trans h97
        have hf_1250_98 : C_129 98 = eI g 60 tx := (hsm_1250 98 (by omega) (by omega)).trans h98
        have hf_1250_99 : C_129 99 = eI g 12 td := (hsm_1250 99 (by omega) (by omega)).trans h99
        refine z_istore (lv' := [(5, .int (iZ (kCnt p1))), (0, .ref b), (1, .ref (aD g 0)), (2, .ref (aD g 94)), (3, .ref (aD g 100)), (4, .int (iZ iz))]) 1255 K dL_law_1253 rfl (by decide) rfl ?_
        refine z_aload_n 1256 K dL_law_1255 rfl rfl 3 rfl ?_
        refine z_aload_n 1257 K dL_law_1256 rfl rfl 1 rfl ?_
        refine z_iload 1259 K dL_law_1257 rfl 5 rfl ?_
        refine z_iconst 1260 K dL_law_1259 rfl ?_
        refine z_iadd 1261 K dL_law_1260 rfl ?_
        refine z_sld 1262 K hX hbl hbA (by omega) (by omega) (by omega) dL_law_1261 rfl ?_
        refine z_top (p1) hp1.symm ?_
        refine z_vVi (As := [.int (iZ p1)]) (rest := []) 1265 K 94 (by decide) hf_1250_94 rfl rfl (m_X9_count l g _ p1 k ty th pt fl to f _ hf_1250_94 hf_1250_95 hP.1 hcap9 hP.2.1 (by omega)) (cwV 1 K.1.2.2.2.2 gL_law_X9_count rfl rfl rfl (by decide +kernel) ⟨Nat.le_of_ble_eq_true rfl, Nat.le_of_ble_eq_true rfl⟩) rfl (Nat.le_of_ble_eq_true rfl) dL_law_1262 rfl (law_hf (cap := cap) ⟨by omega, by omega⟩ (by omega) (by omega) (by decide) (by decide)) rfl (fun z_131 C_132 hp_1262 => ?_)
        refine z_C hp_1262.1 ?_
        refine z_top (if kCnt p1 = 0 then sCnt f k p1 else 0) hp_1262.2 ?_
        refine z_istore (lv' := [(6, .int (iZ (if kCnt p1 = 0 then sCnt f k p1 else 0))), (5, .int (iZ (kCnt p1))), (0, .ref b), (1, .ref (aD g 0)), (2, .ref (aD g 94)), (3, .ref (aD g 100)), (4, .int (iZ iz))]) 1267 K dL_law_1265 rfl (by decide) rfl ?_
        refine z_aload_n 1268 K dL_law_1267 rfl rfl 4 rfl ?_
        refine z_vVi (As := []) (rest := []) 1271 K 94 (by decide) (va_up_eq _ 94 _) rfl rfl (m_X9_thrown l g _ k ty (kCnt p1) pt fl to (va_up_eq _ 94 _)) (cwV 0 K.1.2.2.2.2 gL_law_X9_thrown rfl rfl rfl (by decide +kernel) ⟨Nat.le_of_ble_eq_true rfl, Nat.le_of_ble_eq_true rfl⟩) rfl (Nat.le_of_ble_eq_true rfl) dL_law_1268 rfl (law_hf (cap := cap) ⟨by omega, by omega⟩ (by omega) (by omega) (by decide) (by decide)) rfl (fun z_133 C_134 hp_1268 => ?_)
        refine z_C hp_1268.1 ?_
        refine z_top (kCnt p1) hp_1268.2 ?_
        refine z_iload 1273 K dL_law_1271 rfl 1 rfl ?_
        refine z_icmp_eq (tgt := 1278) 1276 K dL_law_1273 rfl (by decide) (by omega) (by omega) (fun c_1273 => ?_) (fun c_1273 => ?_)
        · skip
          refine z_iload 1280 K dL_law_1278 rfl 1 rfl ?_
          refine z_if_ne (tgt := 1295) 1283 K dL_law_1280 rfl (by decide) (by omega) (fun c_1280 => ?_) (fun c_1280 => ?_)
          · skip
            refine z_goto (tgt := 1613) K dL_law_1295 (by decide) ?_
            refine z_iinc (lv' := [(4, .int (iZ (iz + 4))), (6, .int (iZ (if kCnt p1 = 0 then sCnt f k p1 else 0))), (5, .int (iZ (kCnt p1))), (0, .ref b), (1, .ref (aD g 0)), (2, .ref (aD g 94)), (3, .ref (aD g 100))]) 1616 K dL_law_1613 rfl (iz + 4) rfl 6 rfl (by decide) rfl ?_
            refine z_goto (tgt := 23) K dL_law_1616 (by decide) ?_
            refine z_sub [3, 4, 5, 6, 0] rfl ?_
            refine z_wid (kc' := (kc9 + 1)) (ks' := (ks9 + 6)) (by omega) (by omega) ?_
            exact IH (va_up C_129 94 (.inr (9, [.ref (aD g 95), .ref (aD g 96), .ref (aD g 97), .int (iZ k), .ref (aD g 98), .int (iZ ty), .int (iZ (kCnt p1)), .int (iZ pt), .int (iZ fl), .ref (aD g 99), .int (iZ to)]))) f ft past tx td o2_130 k ty (kCnt p1) pt fl to (cap + 1) (iz + 4) (kc9 + 1) (ks9 + 6) (IW_cong hIn_1250 (fun q hq => ((va_up_ne _ _ (by omega)).trans rfl))) (PW_mono hP hcp) (va_up_eq _ 94 _) ((va_up_ne _ _ (by decide)).trans hf_1250_95) ((va_up_ne _ _ (by decide)).trans hf_1250_96) ((va_up_ne _ _ (by decide)).trans hf_1250_97) ((va_up_ne _ _ (by decide)).trans hf_1250_98) ((va_up_ne _ _ (by decide)).trans hf_1250_99) ((va_up_ne _ _ (by decide)).trans hO_1250) hRt (by omega) (by omega) (by omega)
          · skip
            refine z_aload_n 1284 K dL_law_1283 rfl rfl 5 rfl ?_
            refine z_iconst 1285 K dL_law_1284 rfl ?_
            refine z_lald (f := o2_130) 1286 K 100 (by decide) ((va_up_ne _ _ (by decide)).trans hO_1250) (by decide) (by decide) (by decide) dL_law_1285 rfl ?_
            refine z_iload 1288 K dL_law_1286 rfl 0 rfl ?_
            refine z_i2l 1289 K dL_law_1288 rfl ?_
            refine z_lcmp 1290 K dL_law_1289 rfl (fun v_1289 hv_1289 hr_1289 => ?_)
            refine z_if_eq (tgt := 1295) 1293 K dL_law_1290 rfl (by decide) (by omega) (fun c_1290 => ?_) (fun c_1290 => ?_)
            · skip
              refine z_goto (tgt := 1613) K dL_law_1295 (by decide) ?_
              refine z_iinc (lv' := [(4, .int (iZ (iz + 4))), (6, .int (iZ (if kCnt p1 = 0 then sCnt f k p1 else 0))), (5, .int (iZ (kCnt p1))), (0, .ref b), (1, .ref (aD g 0)), (2, .ref (aD g 94)), (3, .ref (aD g 100))]) 1616 K dL_law_1613 rfl (iz + 4) rfl 6 rfl (by decide) rfl ?_
              refine z_goto (tgt := 23) K dL_law_1616 (by decide) ?_
              refine z_sub [3, 4, 5, 6, 0] rfl ?_
              refine z_wid (kc' := (kc9 + 1)) (ks' := (ks9 + 6)) (by omega) (by omega) ?_
              exact IH (va_up C_129 94 (.inr (9, [.ref (aD g 95), .ref (aD g 96), .ref (aD g 97), .int (iZ k), .ref (aD g 98), .int (iZ ty), .int (iZ (kCnt p1)), .int (iZ pt), .int (iZ fl), .ref (aD g 99), .int (iZ to)]))) f ft past tx td o2_130 k ty (kCnt p1) pt fl to (cap + 1) (iz + 4) (kc9 + 1) (ks9 + 6) (IW_cong hIn_1250 (fun q hq => ((va_up_ne _ _ (by omega)).trans rfl))) (PW_mono hP hcp) (va_up_eq _ 94 _) ((va_up_ne _ _ (by decide)).trans hf_1250_95) ((va_up_ne _ _ (by decide)).trans hf_1250_96) ((va_up_ne _ _ (by decide)).trans hf_1250_97) ((va_up_ne _ _ (by decide)).trans hf_1250_98) ((va_up_ne _ _ (by decide)).trans hf_1250_99) ((va_up_ne _ _ (by decide)).trans hO_1250) hRt (by omega) (by omega) (by omega)
            · skip
              exact absurd (hv_1289.mpr (by rw [show (Int.toNat 0) = 0 by rfl, hov_1250 c_1280, if_pos c_1280])) c_1290
        · skip
          exact absurd rfl c_1273
      by_cases sw_39_20 : sw9 = 20
      · skip
        refine z_top (20) sw_39_20 ?_
        refine z_tableIn (tgt := 1298) K dL_law_39 (by decide) (by decide) (by decide) rfl (by decide) ?_
        have hk9_20 : 0 ≤ kIfI f p1 p2 p3 ∧ kIfI f p1 p2 p3 ≤ 3 := kIfI_b f p1 p2 p3
        refine z_aload_n 1299 K dL_law_1298 rfl rfl 1 rfl ?_
        refine z_aload_n 1300 K dL_law_1299 rfl rfl 0 rfl ?_
        refine z_iload 1302 K dL_law_1300 rfl 4 rfl ?_
        refine z_iconst 1303 K dL_law_1302 rfl ?_
        refine z_iadd 1304 K dL_law_1303 rfl ?_
        refine z_sld 1305 K hX hbl hbA (by omega) (by omega) (by omega) dL_law_1304 rfl ?_
        refine z_top (p1) hp1.symm ?_
        refine z_aload_n 1306 K dL_law_1305 rfl rfl 0 rfl ?_
        refine z_iload 1308 K dL_law_1306 rfl 4 rfl ?_
        refine z_iconst 1309 K dL_law_1308 rfl ?_
        refine z_iadd 1310 K dL_law_1309 rfl ?_
        refine z_sld 1311 K hX hbl hbA (by omega) (by omega) (by omega) dL_law_1310 rfl ?_
        refine z_top (p2) hp2.symm ?_
        refine z_aload_n 1312 K dL_law_1311 rfl rfl 0 rfl ?_
        refine z_iload 1314 K dL_law_1312 rfl 4 rfl ?_
        refine z_iconst 1315 K dL_law_1314 rfl ?_
        refine z_iadd 1316 K dL_law_1315 rfl ?_
        refine z_sld 1317 K hX hbl hbA (by omega) (by omega) (by omega) dL_law_1316 rfl ?_
        refine z_top (p3) hp3.symm ?_
        refine z_aload_n 1318 K dL_law_1317 rfl rfl 3 rfl ?_
        refine z_vT (As := [.ref (aD g 0), .int (iZ p1), .int (iZ p2), .int (iZ p3), .ref (aD g 100)]) (rest := []) 1321 K hNc (w_L_ifInserted l g _ p1 p2 p3 o9 _ _ _ _ _ _ h100 hI hP (by omega) (by omega) (by omega) hlt) (vx_cwSW 5 K.1.2.2.2.2 gL_law_L_ifInserted rfl rfl rfl (by decide +kernel) ⟨Nat.le_of_ble_eq_true rfl, Nat.le_of_ble_eq_true rfl⟩) rfl (Nat.le_of_ble_eq_true rfl) dL_law_1318 rfl (law_hf (cap := cap) ⟨by omega, by omega⟩ (by omega) (by omega) (by decide) (by decide)) rfl (fun z_135 C_136 hp_1318 => ?_)
        obtain ⟨hIn_1318, hsm_1318, ⟨o2_137, hO_1318, hov_1318⟩, hz_1318⟩ := hp_1318
        refine z_top (kIfI f p1 p2 p3) hz_1318 ?_
        have hf_1318_94 : C_136 94 = .inr (9, [.ref (aD g 95), .ref (aD g 96), .ref (aD g 97), .int (iZ k), .ref (aD g 98), .int (iZ ty), .int (iZ th), .int (iZ pt), .int (iZ fl), .ref (aD g 99), .int (iZ to)]) := (hsm_1318 94 (by omega) (by omega)).trans h94
        have hf_1318_95 : C_136 95 = eI g 449 f := (hsm_1318 95 (by omega) (by omega)).trans h95
        have hf_1318_96 : C_136 96 = eI g 449 ft := (hsm_1318 96 (by omega) (by omega)).trans h96
        have hf_1318_97 : C_136 97 = eI g 2694 past := (hsm_1318 97 (by omega) (by omega)).trans h97
        have hf_1318_98 : C_136 98 = eI g 60 tx := (hsm_1318 98 (by omega) (by omega)).trans h98
        have hf_1318_99 : C_136 99 = eI g 12 td := (hsm_1318 99 (by omega) (by omega)).trans h99
        refine z_istore (lv' := [(5, .int (iZ (kIfI f p1 p2 p3))), (0, .ref b), (1, .ref (aD g 0)), (2, .ref (aD g 94)), (3, .ref (aD g 100)), (4, .int (iZ iz))]) 1323 K dL_law_1321 rfl (by decide) rfl ?_
        refine z_aload_n 1324 K dL_law_1323 rfl rfl 3 rfl ?_
        refine z_aload_n 1325 K dL_law_1324 rfl rfl 1 rfl ?_
        refine z_iload 1327 K dL_law_1325 rfl 5 rfl ?_
        refine z_iconst 1328 K dL_law_1327 rfl ?_
        refine z_iadd 1329 K dL_law_1328 rfl ?_
        refine z_sld 1330 K hX hbl hbA (by omega) (by omega) (by omega) dL_law_1329 rfl ?_
        refine z_top (p1) hp1.symm ?_
        refine z_aload_n 1331 K dL_law_1330 rfl rfl 1 rfl ?_
        refine z_iload 1333 K dL_law_1331 rfl 5 rfl ?_
        refine z_iconst 1334 K dL_law_1333 rfl ?_
        refine z_iadd 1335 K dL_law_1334 rfl ?_
        refine z_sld 1336 K hX hbl hbA (by omega) (by omega) (by omega) dL_law_1335 rfl ?_
        refine z_top (p2) hp2.symm ?_
        refine z_aload_n 1337 K dL_law_1336 rfl rfl 1 rfl ?_
        refine z_iload 1339 K dL_law_1337 rfl 5 rfl ?_
        refine z_iconst 1340 K dL_law_1339 rfl ?_
        refine z_iadd 1341 K dL_law_1340 rfl ?_
        refine z_sld 1342 K hX hbl hbA (by omega) (by omega) (by omega) dL_law_1341 rfl ?_
        refine z_top (p3) hp3.symm ?_
        refine z_vVi (As := [.int (iZ p1), .int (iZ p2), .int (iZ p3)]) (rest := []) 1345 K 94 (by decide) hf_1318_94 rfl rfl (m_X9_ifInserted l g _ p1 p2 p3 k ty th pt fl to f ft _ hf_1318_94 hf_1318_95 hf_1318_96 hP.1 hcap9 hP.2.1 (by omega) (by omega) (by omega)) (cwV 3 K.1.2.2.2.2 gL_law_X9_ifInserted rfl rfl rfl (by decide +kernel) ⟨Nat.le_of_ble_eq_true rfl, Nat.le_of_ble_eq_true rfl⟩) rfl (Nat.le_of_ble_eq_true rfl) dL_law_1342 rfl (law_hf (cap := cap) ⟨by omega, by omega⟩ (by omega) (by omega) (by decide) (by decide)) rfl (fun z_138 C_139 hp_1342 => ?_)
        obtain ⟨gt_140, hC_1342, hz_1342⟩ := hp_1342
        refine z_C hC_1342 ?_
        refine z_top (if kIfI f p1 p2 p3 = 0 then sIns f p1 p2 p3 else 0) hz_1342 ?_
        refine z_istore (lv' := [(6, .int (iZ (if kIfI f p1 p2 p3 = 0 then sIns f p1 p2 p3 else 0))), (5, .int (iZ (kIfI f p1 p2 p3))), (0, .ref b), (1, .ref (aD g 0)), (2, .ref (aD g 94)), (3, .ref (aD g 100)), (4, .int (iZ iz))]) 1347 K dL_law_1345 rfl (by decide) rfl ?_
        refine z_aload_n 1348 K dL_law_1347 rfl rfl 4 rfl ?_
        refine z_vVi (As := []) (rest := []) 1351 K 94 (by decide) (va_up_eq _ 94 _) rfl rfl (m_X9_thrown l g _ k ty (kIfI f p1 p2 p3) pt fl to (va_up_eq _ 94 _)) (cwV 0 K.1.2.2.2.2 gL_law_X9_thrown rfl rfl rfl (by decide +kernel) ⟨Nat.le_of_ble_eq_true rfl, Nat.le_of_ble_eq_true rfl⟩) rfl (Nat.le_of_ble_eq_true rfl) dL_law_1348 rfl (law_hf (cap := cap) ⟨by omega, by omega⟩ (by omega) (by omega) (by decide) (by decide)) rfl (fun z_141 C_142 hp_1348 => ?_)
        refine z_C hp_1348.1 ?_
        refine z_top (kIfI f p1 p2 p3) hp_1348.2 ?_
        refine z_iload 1353 K dL_law_1351 rfl 1 rfl ?_
        refine z_icmp_eq (tgt := 1358) 1356 K dL_law_1353 rfl (by decide) (by omega) (by omega) (fun c_1353 => ?_) (fun c_1353 => ?_)
        · skip
          refine z_iload 1360 K dL_law_1358 rfl 1 rfl ?_
          refine z_if_ne (tgt := 1375) 1363 K dL_law_1360 rfl (by decide) (by omega) (fun c_1360 => ?_) (fun c_1360 => ?_)
          · skip
            refine z_goto (tgt := 1613) K dL_law_1375 (by decide) ?_
            refine z_iinc (lv' := [(4, .int (iZ (iz + 4))), (6, .int (iZ (if kIfI f p1 p2 p3 = 0 then sIns f p1 p2 p3 else 0))), (5, .int (iZ (kIfI f p1 p2 p3))), (0, .ref b), (1, .ref (aD g 0)), (2, .ref (aD g 94)), (3, .ref (aD g 100))]) 1616 K dL_law_1613 rfl (iz + 4) rfl 6 rfl (by decide) rfl ?_
            refine z_goto (tgt := 23) K dL_law_1616 (by decide) ?_
            refine z_sub [3, 4, 5, 6, 0] rfl ?_
            refine z_wid (kc' := (kc9 + 3)) (ks' := (ks9 + 18)) (by omega) (by omega) ?_
            exact IH (va_up (va_up C_136 96 (eI g 449 gt_140)) 94 (.inr (9, [.ref (aD g 95), .ref (aD g 96), .ref (aD g 97), .int (iZ k), .ref (aD g 98), .int (iZ ty), .int (iZ (kIfI f p1 p2 p3)), .int (iZ pt), .int (iZ fl), .ref (aD g 99), .int (iZ to)]))) f gt_140 past tx td o2_137 k ty (kIfI f p1 p2 p3) pt fl to (cap + 1) (iz + 4) (kc9 + 3) (ks9 + 18) (IW_cong hIn_1318 (fun q hq => ((va_up_ne _ _ (by omega)).trans ((va_up_ne _ _ (by omega)).trans rfl)))) (PW_mono hP hcp) (va_up_eq _ 94 _) ((va_up_ne _ _ (by decide)).trans ((va_up_ne _ _ (by decide)).trans hf_1318_95)) ((va_up_ne _ _ (by decide)).trans (va_up_eq _ 96 _)) ((va_up_ne _ _ (by decide)).trans ((va_up_ne _ _ (by decide)).trans hf_1318_97)) ((va_up_ne _ _ (by decide)).trans ((va_up_ne _ _ (by decide)).trans hf_1318_98)) ((va_up_ne _ _ (by decide)).trans ((va_up_ne _ _ (by decide)).trans hf_1318_99)) ((va_up_ne _ _ (by decide)).trans ((va_up_ne _ _ (by decide)).trans hO_1318)) hRt (by omega) (by omega) (by omega)
          · skip
            refine z_aload_n 1364 K dL_law_1363 rfl rfl 5 rfl ?_
            refine z_iconst 1365 K dL_law_1364 rfl ?_
            refine z_lald (f := o2_137) 1366 K 100 (by decide) ((va_up_ne _ _ (by decide)).trans ((va_up_ne _ _ (by decide)).trans hO_1318)) (by decide) (by decide) (by decide) dL_law_1365 rfl ?_
            refine z_iload 1368 K dL_law_1366 rfl 0 rfl ?_
            refine z_i2l 1369 K dL_law_1368 rfl ?_
            refine z_lcmp 1370 K dL_law_1369 rfl (fun v_1369 hv_1369 hr_1369 => ?_)
            refine z_if_eq (tgt := 1375) 1373 K dL_law_1370 rfl (by decide) (by omega) (fun c_1370 => ?_) (fun c_1370 => ?_)
            · skip
              refine z_goto (tgt := 1613) K dL_law_1375 (by decide) ?_
              refine z_iinc (lv' := [(4, .int (iZ (iz + 4))), (6, .int (iZ (if kIfI f p1 p2 p3 = 0 then sIns f p1 p2 p3 else 0))), (5, .int (iZ (kIfI f p1 p2 p3))), (0, .ref b), (1, .ref (aD g 0)), (2, .ref (aD g 94)), (3, .ref (aD g 100))]) 1616 K dL_law_1613 rfl (iz + 4) rfl 6 rfl (by decide) rfl ?_
              refine z_goto (tgt := 23) K dL_law_1616 (by decide) ?_
              refine z_sub [3, 4, 5, 6, 0] rfl ?_
              refine z_wid (kc' := (kc9 + 3)) (ks' := (ks9 + 18)) (by omega) (by omega) ?_
              exact IH (va_up (va_up C_136 96 (eI g 449 gt_140)) 94 (.inr (9, [.ref (aD g 95), .ref (aD g 96), .ref (aD g 97), .int (iZ k), .ref (aD g 98), .int (iZ ty), .int (iZ (kIfI f p1 p2 p3)), .int (iZ pt), .int (iZ fl), .ref (aD g 99), .int (iZ to)]))) f gt_140 past tx td o2_137 k ty (kIfI f p1 p2 p3) pt fl to (cap + 1) (iz + 4) (kc9 + 3) (ks9 + 18) (IW_cong hIn_1318 (fun q hq => ((va_up_ne _ _ (by omega)).trans ((va_up_ne _ _ (by omega)).trans rfl)))) (PW_mono hP hcp) (va_up_eq _ 94 _) ((va_up_ne _ _ (by decide)).trans ((va_up_ne _ _ (by decide)).trans hf_1318_95)) ((va_up_ne _ _ (by decide)).trans (va_up_eq _ 96 _)) ((va_up_ne _ _ (by decide)).trans ((va_up_ne _ _ (by decide)).trans hf_1318_97)) ((va_up_ne _ _ (by decide)).trans ((va_up_ne _ _ (by decide)).trans hf_1318_98)) ((va_up_ne _ _ (by decide)).trans ((va_up_ne _ _ (by decide)).trans hf_1318_99)) ((va_up_ne _ _ (by decide)).trans ((va_up_ne _ _ (by decide)).trans hO_1318)) hRt (by omega) (by omega) (by omega)
            · skip
              exact absurd (hv_1369.mpr (by rw [show (Int.toNat 0) = 0 by rfl, hov_1318 c_1360, if_pos c_1360])) c_1370
        · skip
          exact absurd rfl c_1353
      by_cases sw_39_21 : sw9 = 21
      · skip
        refine z_top (21) sw_39_21 ?_
        refine z_tableIn (tgt := 1378) K dL_law_39 (by decide) (by decide) (by decide) rfl (by decide) ?_
        have hk9_21 : 0 ≤ kIfD f p1 p2 ∧ kIfD f p1 p2 ≤ 3 := kIfD_b f p1 p2
        refine z_aload_n 1379 K dL_law_1378 rfl rfl 1 rfl ?_
        refine z_aload_n 1380 K dL_law_1379 rfl rfl 0 rfl ?_
        refine z_iload 1382 K dL_law_1380 rfl 4 rfl ?_
        refine z_iconst 1383 K dL_law_1382 rfl ?_
        refine z_iadd 1384 K dL_law_1383 rfl ?_
        refine z_sld 1385 K hX hbl hbA (by omega) (by omega) (by omega) dL_law_1384 rfl ?_
        refine z_top (p1) hp1.symm ?_
        refine z_aload_n 1386 K dL_law_1385 rfl rfl 0 rfl ?_
        refine z_iload 1388 K dL_law_1386 rfl 4 rfl ?_
        refine z_iconst 1389 K dL_law_1388 rfl ?_
        refine z_iadd 1390 K dL_law_1389 rfl ?_
        refine z_sld 1391 K hX hbl hbA (by omega) (by omega) (by omega) dL_law_1390 rfl ?_
        refine z_top (p2) hp2.symm ?_
        refine z_aload_n 1392 K dL_law_1391 rfl rfl 3 rfl ?_
        refine z_vT (As := [.ref (aD g 0), .int (iZ p1), .int (iZ p2), .ref (aD g 100)]) (rest := []) 1395 K hNc (w_L_ifDropped l g _ p1 p2 o9 _ _ _ _ _ _ h100 hI hP (by omega) (by omega) hlt) (vx_cwSW 4 K.1.2.2.2.2 gL_law_L_ifDropped rfl rfl rfl (by decide +kernel) ⟨Nat.le_of_ble_eq_true rfl, Nat.le_of_ble_eq_true rfl⟩) rfl (Nat.le_of_ble_eq_true rfl) dL_law_1392 rfl (law_hf (cap := cap) ⟨by omega, by omega⟩ (by omega) (by omega) (by decide) (by decide)) rfl (fun z_143 C_144 hp_1392 => ?_)
        obtain ⟨hIn_1392, hsm_1392, ⟨o2_145, hO_1392, hov_1392⟩, hz_1392⟩ := hp_1392
        refine z_top (kIfD f p1 p2) hz_1392 ?_
        have hf_1392_94 : C_144 94 = .inr (9, [.ref (aD g 95), .ref (aD g 96), .ref (aD g 97), .int (iZ k), .ref (aD g 98), .int (iZ ty), .int (iZ th), .int (iZ pt), .int (iZ fl), .ref (aD g 99), .int (iZ to)]) := (hsm_1392 94 (by omega) (by omega)).trans h94
        have hf_1392_95 : C_144 95 = eI g 449 f := (hsm_1392 95 (by omega) (by omega)).trans h95
        have hf_1392_96 : C_144 96 = eI g 449 ft := (hsm_1392 96 (by omega) (by omega)).trans h96
        have hf_1392_97 : C_144 97 = eI g 2694 past := (hsm_1392 97 (by omega) (by omega)).trans h97
        have hf_1392_98 : C_144 98 = eI g 60 tx := (hsm_1392 98 (by omega) (by omega)).trans h98
        have hf_1392_99 : C_144 99 = eI g 12 td := (hsm_1392 99 (by omega) (by omega)).trans h99
        refine z_istore (lv' := [(5, .int (iZ (kIfD f p1 p2))), (0, .ref b), (1, .ref (aD g 0)), (2, .ref (aD g 94)), (3, .ref (aD g 100)), (4, .int (iZ iz))]) 1397 K dL_law_1395 rfl (by decide) rfl ?_
        refine z_aload_n 1398 K dL_law_1397 rfl rfl 3 rfl ?_
        refine z_aload_n 1399 K dL_law_1398 rfl rfl 1 rfl ?_
        refine z_iload 1401 K dL_law_1399 rfl 5 rfl ?_
        refine z_iconst 1402 K dL_law_1401 rfl ?_
        refine z_iadd 1403 K dL_law_1402 rfl ?_
        refine z_sld 1404 K hX hbl hbA (by omega) (by omega) (by omega) dL_law_1403 rfl ?_
        refine z_top (p1) hp1.symm ?_
        refine z_aload_n 1405 K dL_law_1404 rfl rfl 1 rfl ?_
        refine z_iload 1407 K dL_law_1405 rfl 5 rfl ?_
        refine z_iconst 1408 K dL_law_1407 rfl ?_
        refine z_iadd 1409 K dL_law_1408 rfl ?_
        refine z_sld 1410 K hX hbl hbA (by omega) (by omega) (by omega) dL_law_1409 rfl ?_
        refine z_top (p2) hp2.symm ?_
        refine z_vVi (As := [.int (iZ p1), .int (iZ p2)]) (rest := []) 1413 K 94 (by decide) hf_1392_94 rfl rfl (m_X9_ifDropped l g _ p1 p2 k ty th pt fl to f ft _ hf_1392_94 hf_1392_95 hf_1392_96 hP.1 hcap9 hP.2.1 (by omega) (by omega)) (cwV 2 K.1.2.2.2.2 gL_law_X9_ifDropped rfl rfl rfl (by decide +kernel) ⟨Nat.le_of_ble_eq_true rfl, Nat.le_of_ble_eq_true rfl⟩) rfl (Nat.le_of_ble_eq_true rfl) dL_law_1410 rfl (law_hf (cap := cap) ⟨by omega, by omega⟩ (by omega) (by omega) (by decide) (by decide)) rfl (fun z_146 C_147 hp_1410 => ?_)
        obtain ⟨gt_148, hC_1410, hz_1410⟩ := hp_1410
        refine z_C hC_1410 ?_
        refine z_top (if kIfD f p1 p2 = 0 then sDrp f p1 p2 else 0) hz_1410 ?_
        refine z_istore (lv' := [(6, .int (iZ (if kIfD f p1 p2 = 0 then sDrp f p1 p2 else 0))), (5, .int (iZ (kIfD f p1 p2))), (0, .ref b), (1, .ref (aD g 0)), (2, .ref (aD g 94)), (3, .ref (aD g 100)), (4, .int (iZ iz))]) 1415 K dL_law_1413 rfl (by decide) rfl ?_
        refine z_aload_n 1416 K dL_law_1415 rfl rfl 4 rfl ?_
        refine z_vVi (As := []) (rest := []) 1419 K 94 (by decide) (va_up_eq _ 94 _) rfl rfl (m_X9_thrown l g _ k ty (kIfD f p1 p2) pt fl to (va_up_eq _ 94 _)) (cwV 0 K.1.2.2.2.2 gL_law_X9_thrown rfl rfl rfl (by decide +kernel) ⟨Nat.le_of_ble_eq_true rfl, Nat.le_of_ble_eq_true rfl⟩) rfl (Nat.le_of_ble_eq_true rfl) dL_law_1416 rfl (law_hf (cap := cap) ⟨by omega, by omega⟩ (by omega) (by omega) (by decide) (by decide)) rfl (fun z_149 C_150 hp_1416 => ?_)
        refine z_C hp_1416.1 ?_
        refine z_top (kIfD f p1 p2) hp_1416.2 ?_
        refine z_iload 1421 K dL_law_1419 rfl 1 rfl ?_
        refine z_icmp_eq (tgt := 1426) 1424 K dL_law_1421 rfl (by decide) (by omega) (by omega) (fun c_1421 => ?_) (fun c_1421 => ?_)
        · skip
          refine z_iload 1428 K dL_law_1426 rfl 1 rfl ?_
          refine z_if_ne (tgt := 1443) 1431 K dL_law_1428 rfl (by decide) (by omega) (fun c_1428 => ?_) (fun c_1428 => ?_)
          · skip
            refine z_goto (tgt := 1613) K dL_law_1443 (by decide) ?_
            refine z_iinc (lv' := [(4, .int (iZ (iz + 4))), (6, .int (iZ (if kIfD f p1 p2 = 0 then sDrp f p1 p2 else 0))), (5, .int (iZ (kIfD f p1 p2))), (0, .ref b), (1, .ref (aD g 0)), (2, .ref (aD g 94)), (3, .ref (aD g 100))]) 1616 K dL_law_1613 rfl (iz + 4) rfl 6 rfl (by decide) rfl ?_
            refine z_goto (tgt := 23) K dL_law_1616 (by decide) ?_
            refine z_sub [3, 4, 5, 6, 0] rfl ?_
            refine z_wid (kc' := (kc9 + 2)) (ks' := (ks9 + 12)) (by omega) (by omega) ?_
            exact IH (va_up (va_up C_144 96 (eI g 449 gt_148)) 94 (.inr (9, [.ref (aD g 95), .ref (aD g 96), .ref (aD g 97), .int (iZ k), .ref (aD g 98), .int (iZ ty), .int (iZ (kIfD f p1 p2)), .int (iZ pt), .int (iZ fl), .ref (aD g 99), .int (iZ to)]))) f gt_148 past tx td o2_145 k ty (kIfD f p1 p2) pt fl to (cap + 1) (iz + 4) (kc9 + 2) (ks9 + 12) (IW_cong hIn_1392 (fun q hq => ((va_up_ne _ _ (by omega)).trans ((va_up_ne _ _ (by omega)).trans rfl)))) (PW_mono hP hcp) (va_up_eq _ 94 _) ((va_up_ne _ _ (by decide)).trans ((va_up_ne _ _ (by decide)).trans hf_1392_95)) ((va_up_ne _ _ (by decide)).trans (va_up_eq _ 96 _)) ((va_up_ne _ _ (by decide)).trans ((va_up_ne _ _ (by decide)).trans hf_1392_97)) ((va_up_ne _ _ (by decide)).trans ((va_up_ne _ _ (by decide)).trans hf_1392_98)) ((va_up_ne _ _ (by decide)).trans ((va_up_ne _ _ (by decide)).trans hf_1392_99)) ((va_up_ne _ _ (by decide)).trans ((va_up_ne _ _ (by decide)).trans hO_1392)) hRt (by omega) (by omega) (by omega)
          · skip
            refine z_aload_n 1432 K dL_law_1431 rfl rfl 5 rfl ?_
            refine z_iconst 1433 K dL_law_1432 rfl ?_
            refine z_lald (f := o2_145) 1434 K 100 (by decide) ((va_up_ne _ _ (by decide)).trans ((va_up_ne _ _ (by decide)).trans hO_1392)) (by decide) (by decide) (by decide) dL_law_1433 rfl ?_
            refine z_iload 1436 K dL_law_1434 rfl 0 rfl ?_
            refine z_i2l 1437 K dL_law_1436 rfl ?_
            refine z_lcmp 1438 K dL_law_1437 rfl (fun v_1437 hv_1437 hr_1437 => ?_)
            refine z_if_eq (tgt := 1443) 1441 K dL_law_1438 rfl (by decide) (by omega) (fun c_1438 => ?_) (fun c_1438 => ?_)
            · skip
              refine z_goto (tgt := 1613) K dL_law_1443 (by decide) ?_
              refine z_iinc (lv' := [(4, .int (iZ (iz + 4))), (6, .int (iZ (if kIfD f p1 p2 = 0 then sDrp f p1 p2 else 0))), (5, .int (iZ (kIfD f p1 p2))), (0, .ref b), (1, .ref (aD g 0)), (2, .ref (aD g 94)), (3, .ref (aD g 100))]) 1616 K dL_law_1613 rfl (iz + 4) rfl 6 rfl (by decide) rfl ?_
              refine z_goto (tgt := 23) K dL_law_1616 (by decide) ?_
              refine z_sub [3, 4, 5, 6, 0] rfl ?_
              refine z_wid (kc' := (kc9 + 2)) (ks' := (ks9 + 12)) (by omega) (by omega) ?_
              exact IH (va_up (va_up C_144 96 (eI g 449 gt_148)) 94 (.inr (9, [.ref (aD g 95), .ref (aD g 96), .ref (aD g 97), .int (iZ k), .ref (aD g 98), .int (iZ ty), .int (iZ (kIfD f p1 p2)), .int (iZ pt), .int (iZ fl), .ref (aD g 99), .int (iZ to)]))) f gt_148 past tx td o2_145 k ty (kIfD f p1 p2) pt fl to (cap + 1) (iz + 4) (kc9 + 2) (ks9 + 12) (IW_cong hIn_1392 (fun q hq => ((va_up_ne _ _ (by omega)).trans ((va_up_ne _ _ (by omega)).trans rfl)))) (PW_mono hP hcp) (va_up_eq _ 94 _) ((va_up_ne _ _ (by decide)).trans ((va_up_ne _ _ (by decide)).trans hf_1392_95)) ((va_up_ne _ _ (by decide)).trans (va_up_eq _ 96 _)) ((va_up_ne _ _ (by decide)).trans ((va_up_ne _ _ (by decide)).trans hf_1392_97)) ((va_up_ne _ _ (by decide)).trans ((va_up_ne _ _ (by decide)).trans hf_1392_98)) ((va_up_ne _ _ (by decide)).trans ((va_up_ne _ _ (by decide)).trans hf_1392_99)) ((va_up_ne _ _ (by decide)).trans ((va_up_ne _ _ (by decide)).trans hO_1392)) hRt (by omega) (by omega) (by omega)
            · skip
              exact absurd (hv_1437.mpr (by rw [show (Int.toNat 0) = 0 by rfl, hov_1392 c_1428, if_pos c_1428])) c_1438
        · skip
          exact absurd rfl c_1421
      by_cases sw_39_22 : sw9 = 22
      · skip
        refine z_top (22) sw_39_22 ?_
        refine z_tableIn (tgt := 1446) K dL_law_39 (by decide) (by decide) (by decide) rfl (by decide) ?_
        have hk9_22 : 0 ≤ kPl f p1 ∧ kPl f p1 ≤ 3 := kPl_b f p1
        refine z_aload_n 1447 K dL_law_1446 rfl rfl 1 rfl ?_
        refine z_aload_n 1448 K dL_law_1447 rfl rfl 0 rfl ?_
        refine z_iload 1450 K dL_law_1448 rfl 4 rfl ?_
        refine z_iconst 1451 K dL_law_1450 rfl ?_
        refine z_iadd 1452 K dL_law_1451 rfl ?_
        refine z_sld 1453 K hX hbl hbA (by omega) (by omega) (by omega) dL_law_1452 rfl ?_
        refine z_top (p1) hp1.symm ?_
        refine z_aload_n 1454 K dL_law_1453 rfl rfl 3 rfl ?_
        refine z_vT (As := [.ref (aD g 0), .int (iZ p1), .ref (aD g 100)]) (rest := []) 1457 K hNc (w_L_bestMove l g _ p1 o9 _ _ _ _ _ _ h100 hI hP (by omega) hlt) (vx_cwSW 3 K.1.2.2.2.2 gL_law_L_bestMove rfl rfl rfl (by decide +kernel) ⟨Nat.le_of_ble_eq_true rfl, Nat.le_of_ble_eq_true rfl⟩) rfl (Nat.le_of_ble_eq_true rfl) dL_law_1454 rfl (law_hf (cap := cap) ⟨by omega, by omega⟩ (by omega) (by omega) (by decide) (by decide)) rfl (fun z_151 C_152 hp_1454 => ?_)
        obtain ⟨hIn_1454, hsm_1454, ⟨o2_153, hO_1454, hov_1454⟩, hz_1454⟩ := hp_1454
        refine z_top (kPl f p1) hz_1454 ?_
        have hf_1454_94 : C_152 94 = .inr (9, [.ref (aD g 95), .ref (aD g 96), .ref (aD g 97), .int (iZ k), .ref (aD g 98), .int (iZ ty), .int (iZ th), .int (iZ pt), .int (iZ fl), .ref (aD g 99), .int (iZ to)]) := (hsm_1454 94 (by omega) (by omega)).trans h94
        have hf_1454_95 : C_152 95 = eI g 449 f := (hsm_1454 95 (by omega) (by omega)).trans h95
        have hf_1454_96 : C_152 96 = eI g 449 ft := (hsm_1454 96 (by omega) (by omega)).trans h96
        have hf_1454_97 : C_152 97 = eI g 2694 past := (hsm_1454 97 (by omega) (by omega)).trans h97
        have hf_1454_98 : C_152 98 = eI g 60 tx := (hsm_1454 98 (by omega) (by omega)).trans h98
        have hf_1454_99 : C_152 99 = eI g 12 td := (hsm_1454 99 (by omega) (by omega)).trans h99
        refine z_istore (lv' := [(5, .int (iZ (kPl f p1))), (0, .ref b), (1, .ref (aD g 0)), (2, .ref (aD g 94)), (3, .ref (aD g 100)), (4, .int (iZ iz))]) 1459 K dL_law_1457 rfl (by decide) rfl ?_
        refine z_aload_n 1460 K dL_law_1459 rfl rfl 3 rfl ?_
        refine z_aload_n 1461 K dL_law_1460 rfl rfl 1 rfl ?_
        refine z_iload 1463 K dL_law_1461 rfl 5 rfl ?_
        refine z_iconst 1464 K dL_law_1463 rfl ?_
        refine z_iadd 1465 K dL_law_1464 rfl ?_
        refine z_sld 1466 K hX hbl hbA (by omega) (by omega) (by omega) dL_law_1465 rfl ?_
        refine z_top (p1) hp1.symm ?_
        refine z_vVi (As := [.int (iZ p1)]) (rest := []) 1469 K 94 (by decide) hf_1454_94 rfl rfl (m_X9_bestMove l g _ p1 k ty th pt fl to f ft _ hf_1454_94 hf_1454_95 hf_1454_96 hP.1 hcap9 hP.2.1 (by omega)) (cwV 1 K.1.2.2.2.2 gL_law_X9_bestMove rfl rfl rfl (by decide +kernel) ⟨Nat.le_of_ble_eq_true rfl, Nat.le_of_ble_eq_true rfl⟩) rfl (Nat.le_of_ble_eq_true rfl) dL_law_1466 rfl (law_hf (cap := cap) ⟨by omega, by omega⟩ (by omega) (by omega) (by decide) (by decide)) rfl (fun z_154 C_155 hp_1466 => ?_)
        obtain ⟨gt_156, hC_1466, hz_1466⟩ := hp_1466
        refine z_C hC_1466 ?_
        refine z_top (if kPl f p1 = 0 then sBest f p1 else 0) hz_1466 ?_
        refine z_istore (lv' := [(6, .int (iZ (if kPl f p1 = 0 then sBest f p1 else 0))), (5, .int (iZ (kPl f p1))), (0, .ref b), (1, .ref (aD g 0)), (2, .ref (aD g 94)), (3, .ref (aD g 100)), (4, .int (iZ iz))]) 1471 K dL_law_1469 rfl (by decide) rfl ?_
        refine z_aload_n 1472 K dL_law_1471 rfl rfl 4 rfl ?_
        refine z_vVi (As := []) (rest := []) 1475 K 94 (by decide) (va_up_eq _ 94 _) rfl rfl (m_X9_thrown l g _ k ty (kPl f p1) pt fl to (va_up_eq _ 94 _)) (cwV 0 K.1.2.2.2.2 gL_law_X9_thrown rfl rfl rfl (by decide +kernel) ⟨Nat.le_of_ble_eq_true rfl, Nat.le_of_ble_eq_true rfl⟩) rfl (Nat.le_of_ble_eq_true rfl) dL_law_1472 rfl (law_hf (cap := cap) ⟨by omega, by omega⟩ (by omega) (by omega) (by decide) (by decide)) rfl (fun z_157 C_158 hp_1472 => ?_)
        refine z_C hp_1472.1 ?_
        refine z_top (kPl f p1) hp_1472.2 ?_
        refine z_iload 1477 K dL_law_1475 rfl 1 rfl ?_
        refine z_icmp_eq (tgt := 1482) 1480 K dL_law_1477 rfl (by decide) (by omega) (by omega) (fun c_1477 => ?_) (fun c_1477 => ?_)
        · skip
          refine z_iload 1484 K dL_law_1482 rfl 1 rfl ?_
          refine z_if_ne (tgt := 1499) 1487 K dL_law_1484 rfl (by decide) (by omega) (fun c_1484 => ?_) (fun c_1484 => ?_)
          · skip
            refine z_goto (tgt := 1613) K dL_law_1499 (by decide) ?_
            refine z_iinc (lv' := [(4, .int (iZ (iz + 4))), (6, .int (iZ (if kPl f p1 = 0 then sBest f p1 else 0))), (5, .int (iZ (kPl f p1))), (0, .ref b), (1, .ref (aD g 0)), (2, .ref (aD g 94)), (3, .ref (aD g 100))]) 1616 K dL_law_1613 rfl (iz + 4) rfl 6 rfl (by decide) rfl ?_
            refine z_goto (tgt := 23) K dL_law_1616 (by decide) ?_
            refine z_sub [3, 4, 5, 6, 0] rfl ?_
            refine z_wid (kc' := (kc9 + 1)) (ks' := (ks9 + 6)) (by omega) (by omega) ?_
            exact IH (va_up (va_up C_152 96 (eI g 449 gt_156)) 94 (.inr (9, [.ref (aD g 95), .ref (aD g 96), .ref (aD g 97), .int (iZ k), .ref (aD g 98), .int (iZ ty), .int (iZ (kPl f p1)), .int (iZ pt), .int (iZ fl), .ref (aD g 99), .int (iZ to)]))) f gt_156 past tx td o2_153 k ty (kPl f p1) pt fl to (cap + 1) (iz + 4) (kc9 + 1) (ks9 + 6) (IW_cong hIn_1454 (fun q hq => ((va_up_ne _ _ (by omega)).trans ((va_up_ne _ _ (by omega)).trans rfl)))) (PW_mono hP hcp) (va_up_eq _ 94 _) ((va_up_ne _ _ (by decide)).trans ((va_up_ne _ _ (by decide)).trans hf_1454_95)) ((va_up_ne _ _ (by decide)).trans (va_up_eq _ 96 _)) ((va_up_ne _ _ (by decide)).trans ((va_up_ne _ _ (by decide)).trans hf_1454_97)) ((va_up_ne _ _ (by decide)).trans ((va_up_ne _ _ (by decide)).trans hf_1454_98)) ((va_up_ne _ _ (by decide)).trans ((va_up_ne _ _ (by decide)).trans hf_1454_99)) ((va_up_ne _ _ (by decide)).trans ((va_up_ne _ _ (by decide)).trans hO_1454)) hRt (by omega) (by omega) (by omega)
          · skip
            refine z_aload_n 1488 K dL_law_1487 rfl rfl 5 rfl ?_
            refine z_iconst 1489 K dL_law_1488 rfl ?_
            refine z_lald (f := o2_153) 1490 K 100 (by decide) ((va_up_ne _ _ (by decide)).trans ((va_up_ne _ _ (by decide)).trans hO_1454)) (by decide) (by decide) (by decide) dL_law_1489 rfl ?_
            refine z_iload 1492 K dL_law_1490 rfl 0 rfl ?_
            refine z_i2l 1493 K dL_law_1492 rfl ?_
            refine z_lcmp 1494 K dL_law_1493 rfl (fun v_1493 hv_1493 hr_1493 => ?_)
            refine z_if_eq (tgt := 1499) 1497 K dL_law_1494 rfl (by decide) (by omega) (fun c_1494 => ?_) (fun c_1494 => ?_)
            · skip
              refine z_goto (tgt := 1613) K dL_law_1499 (by decide) ?_
              refine z_iinc (lv' := [(4, .int (iZ (iz + 4))), (6, .int (iZ (if kPl f p1 = 0 then sBest f p1 else 0))), (5, .int (iZ (kPl f p1))), (0, .ref b), (1, .ref (aD g 0)), (2, .ref (aD g 94)), (3, .ref (aD g 100))]) 1616 K dL_law_1613 rfl (iz + 4) rfl 6 rfl (by decide) rfl ?_
              refine z_goto (tgt := 23) K dL_law_1616 (by decide) ?_
              refine z_sub [3, 4, 5, 6, 0] rfl ?_
              refine z_wid (kc' := (kc9 + 1)) (ks' := (ks9 + 6)) (by omega) (by omega) ?_
              exact IH (va_up (va_up C_152 96 (eI g 449 gt_156)) 94 (.inr (9, [.ref (aD g 95), .ref (aD g 96), .ref (aD g 97), .int (iZ k), .ref (aD g 98), .int (iZ ty), .int (iZ (kPl f p1)), .int (iZ pt), .int (iZ fl), .ref (aD g 99), .int (iZ to)]))) f gt_156 past tx td o2_153 k ty (kPl f p1) pt fl to (cap + 1) (iz + 4) (kc9 + 1) (ks9 + 6) (IW_cong hIn_1454 (fun q hq => ((va_up_ne _ _ (by omega)).trans ((va_up_ne _ _ (by omega)).trans rfl)))) (PW_mono hP hcp) (va_up_eq _ 94 _) ((va_up_ne _ _ (by decide)).trans ((va_up_ne _ _ (by decide)).trans hf_1454_95)) ((va_up_ne _ _ (by decide)).trans (va_up_eq _ 96 _)) ((va_up_ne _ _ (by decide)).trans ((va_up_ne _ _ (by decide)).trans hf_1454_97)) ((va_up_ne _ _ (by decide)).trans ((va_up_ne _ _ (by decide)).trans hf_1454_98)) ((va_up_ne _ _ (by decide)).trans ((va_up_ne _ _ (by decide)).trans hf_1454_99)) ((va_up_ne _ _ (by decide)).trans ((va_up_ne _ _ (by decide)).trans hO_1454)) hRt (by omega) (by omega) (by omega)
            · skip
              exact absurd (hv_1493.mpr (by rw [show (Int.toNat 0) = 0 by rfl, hov_1454 c_1484, if_pos c_1484])) c_1494
        · skip
          exact absurd rfl c_1477
      by_cases sw_39_23 : sw9 = 23
      · skip
        refine z_top (23) sw_39_23 ?_
        refine z_tableIn (tgt := 1502) K dL_law_39 (by decide) (by decide) (by decide) rfl (by decide) ?_
        have hk9_23 : 0 ≤ kLea p1 ∧ kLea p1 ≤ 3 := kLea_b p1
        refine z_aload_n 1503 K dL_law_1502 rfl rfl 1 rfl ?_
        refine z_aload_n 1504 K dL_law_1503 rfl rfl 0 rfl ?_
        refine z_iload 1506 K dL_law_1504 rfl 4 rfl ?_
        refine z_iconst 1507 K dL_law_1506 rfl ?_
        refine z_iadd 1508 K dL_law_1507 rfl ?_
        refine z_sld 1509 K hX hbl hbA (by omega) (by omega) (by omega) dL_law_1508 rfl ?_
        refine z_top (p1) hp1.symm ?_
        refine z_aload_n 1510 K dL_law_1509 rfl rfl 3 rfl ?_
        refine z_vT (As := [.ref (aD g 0), .int (iZ p1), .ref (aD g 100)]) (rest := []) 1513 K hNc (w_L_leastPages l g _ p1 o9 _ _ _ _ _ _ h100 hI hP (by omega) hlt) (vx_cwSW 3 K.1.2.2.2.2 gL_law_L_leastPages rfl rfl rfl (by decide +kernel) ⟨Nat.le_of_ble_eq_true rfl, Nat.le_of_ble_eq_true rfl⟩) rfl (Nat.le_of_ble_eq_true rfl) dL_law_1510 rfl (law_hf (cap := cap) ⟨by omega, by omega⟩ (by omega) (by omega) (by decide) (by decide)) rfl (fun z_159 C_160 hp_1510 => ?_)
        obtain ⟨hIn_1510, hsm_1510, ⟨o2_161, hO_1510, hov_1510⟩, hz_1510⟩ := hp_1510
        refine z_top (kLea p1) hz_1510 ?_
        have hf_1510_94 : C_160 94 = .inr (9, [.ref (aD g 95), .ref (aD g 96), .ref (aD g 97), .int (iZ k), .ref (aD g 98), .int (iZ ty), .int (iZ th), .int (iZ pt), .int (iZ fl), .ref (aD g 99), .int (iZ to)]) := (hsm_1510 94 (by omega) (by omega)).trans h94
        have hf_1510_95 : C_160 95 = eI g 449 f := (hsm_1510 95 (by omega) (by omega)).trans h95
        have hf_1510_96 : C_160 96 = eI g 449 ft := (hsm_1510 96 (by omega) (by omega)).trans h96
        have hf_1510_97 : C_160 97 = eI g 2694 past := (hsm_1510 97 (by omega) (by omega)).trans h97
        have hf_1510_98 : C_160 98 = eI g 60 tx := (hsm_1510 98 (by omega) (by omega)).trans h98
        have hf_1510_99 : C_160 99 = eI g 12 td := (hsm_1510 99 (by omega) (by omega)).trans h99
        refine z_istore (lv' := [(5, .int (iZ (kLea p1))), (0, .ref b), (1, .ref (aD g 0)), (2, .ref (aD g 94)), (3, .ref (aD g 100)), (4, .int (iZ iz))]) 1515 K dL_law_1513 rfl (by decide) rfl ?_
        refine z_aload_n 1516 K dL_law_1515 rfl rfl 3 rfl ?_
        refine z_aload_n 1517 K dL_law_1516 rfl rfl 1 rfl ?_
        refine z_iload 1519 K dL_law_1517 rfl 5 rfl ?_
        refine z_iconst 1520 K dL_law_1519 rfl ?_
        refine z_iadd 1521 K dL_law_1520 rfl ?_
        refine z_sld 1522 K hX hbl hbA (by omega) (by omega) (by omega) dL_law_1521 rfl ?_
        refine z_top (p1) hp1.symm ?_
        refine z_vVi (As := [.int (iZ p1)]) (rest := []) 1525 K 94 (by decide) hf_1510_94 rfl rfl (m_X9_leastPages l g _ p1 k ty th pt fl to f ft _ hf_1510_94 hf_1510_95 hf_1510_96 hP.1 hcap9 hP.2.1 (by omega)) (cwV 1 K.1.2.2.2.2 gL_law_X9_leastPages rfl rfl rfl (by decide +kernel) ⟨Nat.le_of_ble_eq_true rfl, Nat.le_of_ble_eq_true rfl⟩) rfl (Nat.le_of_ble_eq_true rfl) dL_law_1522 rfl (law_hf (cap := cap) ⟨by omega, by omega⟩ (by omega) (by omega) (by decide) (by decide)) rfl (fun z_162 C_163 hp_1522 => ?_)
        obtain ⟨gt_164, hC_1522, hz_1522⟩ := hp_1522
        refine z_C hC_1522 ?_
        refine z_top (if kLea p1 = 0 then sLeast f p1 else 0) hz_1522 ?_
        refine z_istore (lv' := [(6, .int (iZ (if kLea p1 = 0 then sLeast f p1 else 0))), (5, .int (iZ (kLea p1))), (0, .ref b), (1, .ref (aD g 0)), (2, .ref (aD g 94)), (3, .ref (aD g 100)), (4, .int (iZ iz))]) 1527 K dL_law_1525 rfl (by decide) rfl ?_
        refine z_aload_n 1528 K dL_law_1527 rfl rfl 4 rfl ?_
        refine z_vVi (As := []) (rest := []) 1531 K 94 (by decide) (va_up_eq _ 94 _) rfl rfl (m_X9_thrown l g _ k ty (kLea p1) pt fl to (va_up_eq _ 94 _)) (cwV 0 K.1.2.2.2.2 gL_law_X9_thrown rfl rfl rfl (by decide +kernel) ⟨Nat.le_of_ble_eq_true rfl, Nat.le_of_ble_eq_true rfl⟩) rfl (Nat.le_of_ble_eq_true rfl) dL_law_1528 rfl (law_hf (cap := cap) ⟨by omega, by omega⟩ (by omega) (by omega) (by decide) (by decide)) rfl (fun z_165 C_166 hp_1528 => ?_)
        refine z_C hp_1528.1 ?_
        refine z_top (kLea p1) hp_1528.2 ?_
        refine z_iload 1533 K dL_law_1531 rfl 1 rfl ?_
        refine z_icmp_eq (tgt := 1538) 1536 K dL_law_1533 rfl (by decide) (by omega) (by omega) (fun c_1533 => ?_) (fun c_1533 => ?_)
        · skip
          refine z_iload 1540 K dL_law_1538 rfl 1 rfl ?_
          refine z_if_ne (tgt := 1555) 1543 K dL_law_1540 rfl (by decide) (by omega) (fun c_1540 => ?_) (fun c_1540 => ?_)
          · skip
            refine z_goto (tgt := 1613) K dL_law_1555 (by decide) ?_
            refine z_iinc (lv' := [(4, .int (iZ (iz + 4))), (6, .int (iZ (if kLea p1 = 0 then sLeast f p1 else 0))), (5, .int (iZ (kLea p1))), (0, .ref b), (1, .ref (aD g 0)), (2, .ref (aD g 94)), (3, .ref (aD g 100))]) 1616 K dL_law_1613 rfl (iz + 4) rfl 6 rfl (by decide) rfl ?_
            refine z_goto (tgt := 23) K dL_law_1616 (by decide) ?_
            refine z_sub [3, 4, 5, 6, 0] rfl ?_
            refine z_wid (kc' := (kc9 + 1)) (ks' := (ks9 + 6)) (by omega) (by omega) ?_
            exact IH (va_up (va_up C_160 96 (eI g 449 gt_164)) 94 (.inr (9, [.ref (aD g 95), .ref (aD g 96), .ref (aD g 97), .int (iZ k), .ref (aD g 98), .int (iZ ty), .int (iZ (kLea p1)), .int (iZ pt), .int (iZ fl), .ref (aD g 99), .int (iZ to)]))) f gt_164 past tx td o2_161 k ty (kLea p1) pt fl to (cap + 1) (iz + 4) (kc9 + 1) (ks9 + 6) (IW_cong hIn_1510 (fun q hq => ((va_up_ne _ _ (by omega)).trans ((va_up_ne _ _ (by omega)).trans rfl)))) (PW_mono hP hcp) (va_up_eq _ 94 _) ((va_up_ne _ _ (by decide)).trans ((va_up_ne _ _ (by decide)).trans hf_1510_95)) ((va_up_ne _ _ (by decide)).trans (va_up_eq _ 96 _)) ((va_up_ne _ _ (by decide)).trans ((va_up_ne _ _ (by decide)).trans hf_1510_97)) ((va_up_ne _ _ (by decide)).trans ((va_up_ne _ _ (by decide)).trans hf_1510_98)) ((va_up_ne _ _ (by decide)).trans ((va_up_ne _ _ (by decide)).trans hf_1510_99)) ((va_up_ne _ _ (by decide)).trans ((va_up_ne _ _ (by decide)).trans hO_1510)) hRt (by omega) (by omega) (by omega)
          · skip
            refine z_aload_n 1544 K dL_law_1543 rfl rfl 5 rfl ?_
            refine z_iconst 1545 K dL_law_1544 rfl ?_
            refine z_lald (f := o2_161) 1546 K 100 (by decide) ((va_up_ne _ _ (by decide)).trans ((va_up_ne _ _ (by decide)).trans hO_1510)) (by decide) (by decide) (by decide) dL_law_1545 rfl ?_
            refine z_iload 1548 K dL_law_1546 rfl 0 rfl ?_
            refine z_i2l 1549 K dL_law_1548 rfl ?_
            refine z_lcmp 1550 K dL_law_1549 rfl (fun v_1549 hv_1549 hr_1549 => ?_)
            refine z_if_eq (tgt := 1555) 1553 K dL_law_1550 rfl (by decide) (by omega) (fun c_1550 => ?_) (fun c_1550 => ?_)
            · skip
              refine z_goto (tgt := 1613) K dL_law_1555 (by decide) ?_
              refine z_iinc (lv' := [(4, .int (iZ (iz + 4))), (6, .int (iZ (if kLea p1 = 0 then sLeast f p1 else 0))), (5, .int (iZ (kLea p1))), (0, .ref b), (1, .ref (aD g 0)), (2, .ref (aD g 94)), (3, .ref (aD g 100))]) 1616 K dL_law_1613 rfl (iz + 4) rfl 6 rfl (by decide) rfl ?_
              refine z_goto (tgt := 23) K dL_law_1616 (by decide) ?_
              refine z_sub [3, 4, 5, 6, 0] rfl ?_
              refine z_wid (kc' := (kc9 + 1)) (ks' := (ks9 + 6)) (by omega) (by omega) ?_
              exact IH (va_up (va_up C_160 96 (eI g 449 gt_164)) 94 (.inr (9, [.ref (aD g 95), .ref (aD g 96), .ref (aD g 97), .int (iZ k), .ref (aD g 98), .int (iZ ty), .int (iZ (kLea p1)), .int (iZ pt), .int (iZ fl), .ref (aD g 99), .int (iZ to)]))) f gt_164 past tx td o2_161 k ty (kLea p1) pt fl to (cap + 1) (iz + 4) (kc9 + 1) (ks9 + 6) (IW_cong hIn_1510 (fun q hq => ((va_up_ne _ _ (by omega)).trans ((va_up_ne _ _ (by omega)).trans rfl)))) (PW_mono hP hcp) (va_up_eq _ 94 _) ((va_up_ne _ _ (by decide)).trans ((va_up_ne _ _ (by decide)).trans hf_1510_95)) ((va_up_ne _ _ (by decide)).trans (va_up_eq _ 96 _)) ((va_up_ne _ _ (by decide)).trans ((va_up_ne _ _ (by decide)).trans hf_1510_97)) ((va_up_ne _ _ (by decide)).trans ((va_up_ne _ _ (by decide)).trans hf_1510_98)) ((va_up_ne _ _ (by decide)).trans ((va_up_ne _ _ (by decide)).trans hf_1510_99)) ((va_up_ne _ _ (by decide)).trans ((va_up_ne _ _ (by decide)).trans hO_1510)) hRt (by omega) (by omega) (by omega)
            · skip
              exact absurd (hv_1549.mpr (by rw [show (Int.toNat 0) = 0 by rfl, hov_1510 c_1540, if_pos c_1540])) c_1550
        · skip
          exact absurd rfl c_1533
      by_cases sw_39_24 : sw9 = 24
      · skip
        refine z_top (24) sw_39_24 ?_
        refine z_tableIn (tgt := 1558) K dL_law_39 (by decide) (by decide) (by decide) rfl (by decide) ?_
        refine z_aload_n 1559 K dL_law_1558 rfl rfl 1 rfl ?_
        refine z_vVd (As := []) (rest := []) 1562 K 0 (by decide) gMa rfl rfl (a_X8_citedShare l g _ _ _ _ _ _ _ hI hP) (cwV 0 K.1.2.2.2.2 gL_law_X8_citedShare rfl rfl rfl (by decide +kernel) ⟨Nat.le_of_ble_eq_true rfl, Nat.le_of_ble_eq_true rfl⟩) rfl (Nat.le_of_ble_eq_true rfl) dL_law_1559 rfl (law_hf (cap := cap) ⟨by omega, by omega⟩ (by omega) (by omega) (by decide) (by decide)) rfl (fun z_167 C_168 hp_1559 => ?_)
        refine z_C hp_1559.1 ?_
        refine z_topD (sShare f) hp_1559.2 ?_
        have hR_24 := PW_mono hP hcp
        refine z_dstore (lv' := [(5, .double (sShare f)), (0, .ref b), (1, .ref (aD g 0)), (2, .ref (aD g 94)), (3, .ref (aD g 100)), (4, .int (iZ iz))]) 1564 K dL_law_1562 rfl (by decide) rfl ?_
        refine z_aload_n 1565 K dL_law_1564 rfl rfl 3 rfl ?_
        refine z_vVd (As := []) (rest := []) 1568 K 94 (by decide) h94 rfl rfl (m_X9_citedShare l g _ k ty th pt fl to f _ h94 h95 hP.1 hcap9) (cwV 0 K.1.2.2.2.2 gL_law_X9_citedShare rfl rfl rfl (by decide +kernel) ⟨Nat.le_of_ble_eq_true rfl, Nat.le_of_ble_eq_true rfl⟩) rfl (Nat.le_of_ble_eq_true rfl) dL_law_1565 rfl (law_hf (cap := cap) ⟨by omega, by omega⟩ (by omega) (by omega) (by decide) (by decide)) rfl (fun z_169 C_170 hp_1565 => ?_)
        refine z_C hp_1565.1 ?_
        refine z_topD (sShare f) hp_1565.2 ?_
        refine z_dstore (lv' := [(7, .double (sShare f)), (5, .double (sShare f)), (0, .ref b), (1, .ref (aD g 0)), (2, .ref (aD g 94)), (3, .ref (aD g 100)), (4, .int (iZ iz))]) 1570 K dL_law_1568 rfl (by decide) rfl ?_
        refine z_dload 1572 K dL_law_1570 rfl 1 rfl ?_
        refine z_dload 1574 K dL_law_1572 rfl 0 rfl ?_
        refine z_dcmp 1575 K dL_law_1574 rfl (0) (shB_l (share_shB hP.1)) ?_
        refine z_if_eq (tgt := 1596) 1578 K dL_law_1575 rfl (by decide) (by decide) (fun c_1575 => ?_) (fun c_1575 => ?_)
        rotate_left 1
        · exact absurd c_1575 (by decide)
        refine z_goto (tgt := 1613) K dL_law_1596 (by decide) ?_
        refine z_iinc (lv' := [(4, .int (iZ (iz + 4))), (7, .double (sShare f)), (5, .double (sShare f)), (0, .ref b), (1, .ref (aD g 0)), (2, .ref (aD g 94)), (3, .ref (aD g 100))]) 1616 K dL_law_1613 rfl (iz + 4) rfl 6 rfl (by decide) rfl ?_
        refine z_goto (tgt := 23) K dL_law_1616 (by decide) ?_
        refine z_sub [3, 4, 5, 6, 0] rfl ?_
        exact IH (va_up C9 94 (.inr (9, [.ref (aD g 95), .ref (aD g 96), .ref (aD g 97), .int (iZ k), .ref (aD g 98), .int (iZ ty), .int (iZ 0), .int (iZ pt), .int (iZ fl), .ref (aD g 99), .int (iZ to)]))) f ft past tx td o9 k ty 0 pt fl to (cap + 1) (iz + 4) kc9 ks9 (IW_cong hI (fun q hq => ((va_up_ne _ _ (by omega)).trans rfl))) hR_24 (va_up_eq _ 94 _) ((va_up_ne _ _ (by decide)).trans h95) ((va_up_ne _ _ (by decide)).trans h96) ((va_up_ne _ _ (by decide)).trans h97) ((va_up_ne _ _ (by decide)).trans h98) ((va_up_ne _ _ (by decide)).trans h99) ((va_up_ne _ _ (by decide)).trans h100) hRt (by omega) (by omega) (by omega)
      by_cases sw_39_25 : sw9 = 25
      · skip
        refine z_top (25) sw_39_25 ?_
        refine z_tableIn (tgt := 1599) K dL_law_39 (by decide) (by decide) (by decide) rfl (by decide) ?_
        refine z_aload_n 1600 K dL_law_1599 rfl rfl 1 rfl ?_
        refine z_vVl (As := []) (rest := []) 1603 K 0 (by decide) gMa rfl rfl (a_X8_digest l g _ _ _ _ _ _ _ hI hP) (cwV 0 K.1.2.2.2.2 gL_law_X8_digest rfl rfl rfl (by decide +kernel) ⟨Nat.le_of_ble_eq_true rfl, Nat.le_of_ble_eq_true rfl⟩) rfl (Nat.le_of_ble_eq_true rfl) dL_law_1600 rfl (law_hf (cap := cap) ⟨by omega, by omega⟩ (by omega) (by omega) (by decide) (by decide)) rfl (fun z_171 C_172 hp_1600 => ?_)
        obtain ⟨hIn_1600, hsm_1600, hz_1600⟩ := hp_1600
        refine z_topL (sDig f k ty tx) hz_1600 ?_
        have hf_1600_94 : C_172 94 = .inr (9, [.ref (aD g 95), .ref (aD g 96), .ref (aD g 97), .int (iZ k), .ref (aD g 98), .int (iZ ty), .int (iZ th), .int (iZ pt), .int (iZ fl), .ref (aD g 99), .int (iZ to)]) := (hsm_1600 94 (by omega)).trans h94
        have hf_1600_95 : C_172 95 = eI g 449 f := (hsm_1600 95 (by omega)).trans h95
        have hf_1600_96 : C_172 96 = eI g 449 ft := (hsm_1600 96 (by omega)).trans h96
        have hf_1600_97 : C_172 97 = eI g 2694 past := (hsm_1600 97 (by omega)).trans h97
        have hf_1600_98 : C_172 98 = eI g 60 tx := (hsm_1600 98 (by omega)).trans h98
        have hf_1600_99 : C_172 99 = eI g 12 td := (hsm_1600 99 (by omega)).trans h99
        have hf_1600_100 : C_172 100 = eJ g 1 o9 := (hsm_1600 100 (by omega)).trans h100
        have hR_25 := PW_mono hP hcp
        refine z_aload_n 1604 K dL_law_1603 rfl rfl 2 rfl ?_
        refine z_vVl (As := []) (rest := [.long (sDig f k ty tx)]) 1607 K 94 (by decide) hf_1600_94 rfl rfl (m_X9_digest l g _ k ty th pt fl to f ft tx _ hf_1600_94 hf_1600_95 hf_1600_96 hf_1600_98 hP.1 hcap9 hP.2.1 hP.2.2.2.1) (cwV 0 K.1.2.2.2.2 gL_law_X9_digest rfl rfl rfl (by decide +kernel) ⟨Nat.le_of_ble_eq_true rfl, Nat.le_of_ble_eq_true rfl⟩) rfl (Nat.le_of_ble_eq_true rfl) dL_law_1604 rfl (law_hf (cap := cap) ⟨by omega, by omega⟩ (by omega) (by omega) (by decide) (by decide)) rfl (fun z_173 C_174 hp_1604 => ?_)
        obtain ⟨gt_175, hC_1604, hz_1604⟩ := hp_1604
        refine z_C hC_1604 ?_
        refine z_topL (sDig f k ty tx) hz_1604 ?_
        refine z_lcmp 1608 K dL_law_1607 rfl (fun v_1607 hv_1607 hr_1607 => ?_)
        refine z_if_eq (tgt := 1613) 1611 K dL_law_1608 rfl (by decide) (by omega) (fun c_1608 => ?_) (fun c_1608 => ?_)
        · skip
          refine z_iinc (lv' := [(4, .int (iZ (iz + 4))), (0, .ref b), (1, .ref (aD g 0)), (2, .ref (aD g 94)), (3, .ref (aD g 100))]) 1616 K dL_law_1613 rfl (iz + 4) rfl 4 rfl (by decide) rfl ?_
          refine z_goto (tgt := 23) K dL_law_1616 (by decide) ?_
          refine z_sub [1, 2, 3, 4, 0] rfl ?_
          exact IH (va_up (va_up C_172 96 (eI g 449 gt_175)) 94 (.inr (9, [.ref (aD g 95), .ref (aD g 96), .ref (aD g 97), .int (iZ k), .ref (aD g 98), .int (iZ ty), .int (iZ 0), .int (iZ pt), .int (iZ fl), .ref (aD g 99), .int (iZ to)]))) f gt_175 past tx td o9 k ty 0 pt fl to (cap + 1) (iz + 4) kc9 ks9 (IW_cong hIn_1600 (fun q hq => ((va_up_ne _ _ (by omega)).trans ((va_up_ne _ _ (by omega)).trans rfl)))) hR_25 (va_up_eq _ 94 _) ((va_up_ne _ _ (by decide)).trans ((va_up_ne _ _ (by decide)).trans hf_1600_95)) ((va_up_ne _ _ (by decide)).trans (va_up_eq _ 96 _)) ((va_up_ne _ _ (by decide)).trans ((va_up_ne _ _ (by decide)).trans hf_1600_97)) ((va_up_ne _ _ (by decide)).trans ((va_up_ne _ _ (by decide)).trans hf_1600_98)) ((va_up_ne _ _ (by decide)).trans ((va_up_ne _ _ (by decide)).trans hf_1600_99)) ((va_up_ne _ _ (by decide)).trans ((va_up_ne _ _ (by decide)).trans hf_1600_100)) hRt (by omega) (by omega) (by omega)
        · skip
          exact absurd (hv_1607.mpr rfl) c_1608
      refine z_tableOut (tgt := 1613) K dL_law_39 (by omega) (by omega) (by decide) ?_
      refine z_iinc (lv' := [(4, .int (iZ (iz + 4))), (0, .ref b), (1, .ref (aD g 0)), (2, .ref (aD g 94)), (3, .ref (aD g 100))]) 1616 K dL_law_1613 rfl (iz + 4) rfl 4 rfl (by decide) rfl ?_
      refine z_goto (tgt := 23) K dL_law_1616 (by decide) ?_
      refine z_sub [1, 2, 3, 4, 0] rfl ?_
      exact IH C9 f ft past tx td o9 k ty th pt fl to (cap + 1) (iz + 4) kc9 ks9 (IW_cong hI (fun q hq => rfl)) (PW_mono hP hcp) h94 h95 h96 h97 h98 h99 h100 hRt (by omega) (by omega) (by omega)
end ZLL
