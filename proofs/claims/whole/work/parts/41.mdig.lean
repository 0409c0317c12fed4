/-! shares, bits, digests -/
section ZDG
/-- one value more, and values one after the other -/
def dV (h : Int64) (v : Int) : Int64 := 31 * h + (iZ v).toInt64
def zitF (F : Int → Int64 → Int64) : Nat → Int64 → Int64
  | 0, h => h
  | n + 1, h => F n (zitF F n h)
def zit (F : Int → Int64 → Int64) (n : Int) (h : Int64) : Int64 := zitF F n.toNat h
theorem zit_0 (F : Int → Int64 → Int64) (h : Int64) : zit F 0 h = h := rfl
theorem zit_1 (F : Int → Int64 → Int64) {n : Int} (hn : 0 ≤ n) (h : Int64) : zit F (n + 1) h = F n (zit F n h) := by
  have e : (n + 1).toNat = n.toNat + 1 := by omega
  unfold zit
  rw [e, zitF, Int.toNat_of_nonneg hn]
theorem zit_cong {F G : Int → Int64 → Int64} {n : Int} (hn : 0 ≤ n) (e : ∀ j h, 0 ≤ j → j < n → F j h = G j h) (h : Int64) : zit F n h = zit G n h := by
  obtain ⟨m, rfl⟩ : ∃ m : Nat, n = (m : Int) := ⟨n.toNat, by omega⟩
  clear hn
  induction m with
  | zero => rfl
  | succ m ih =>
    rw [show ((m + 1 : Nat) : Int) = (m : Int) + 1 by omega, zit_1 F (by omega), zit_1 G (by omega), ih (fun j h j0 j1 => e j h j0 (by omega)), e _ _ (by omega) (by omega)]
theorem zit_add (F : Int → Int64 → Int64) (m : Int) (hm : 0 ≤ m) (h : Int64) : ∀ k : Nat, zit F (m + k) h = zit (fun j h => F (m + j) h) k (zit F m h)
  | 0 => by rw [show m + ((0 : Nat) : Int) = m by omega]; rfl
  | k + 1 => by rw [show m + ((k + 1 : Nat) : Int) = m + k + 1 by omega, zit_1 F (by omega), zit_add F m hm h k, show ((k + 1 : Nat) : Int) = (k : Int) + 1 by omega, zit_1 _ (by omega)]
/-- five at a time -/
theorem zit_5 (F : Int → Int → Int64 → Int64) (h : Int64) : ∀ n : Nat, zit (fun j h => F (j / 5) (j % 5) h) (5 * n) h = zit (fun b h => zit (fun w h => F b w h) 5 h) n h
  | 0 => rfl
  | n + 1 => by
    rw [show 5 * ((n + 1 : Nat) : Int) = 5 * (n : Int) + ((5 : Nat) : Int) by omega, zit_add _ _ (by omega), zit_5 F h n, show ((n + 1 : Nat) : Int) = (n : Int) + 1 by omega, zit_1 _ (by omega)]
    show zit _ 5 _ = zit _ 5 _
    refine zit_cong (by omega) (fun j h j0 j1 => ?_) _
    show F ((5 * (n : Int) + j) / 5) ((5 * (n : Int) + j) % 5) h = F n j h
    rw [show (5 * (n : Int) + j) / 5 = n by omega, show (5 * (n : Int) + j) % 5 = j by omega]
def sShare (f : Int → Int) : UInt64 := if f 1 = 0 then FP.dconst1 else FP.ddiv (FP.i2d (iZ (f 1 - sUnc f))) (FP.i2d (iZ (f 1)))
/-- the bits of a share, as the class finds them -/
def cg (x y : UInt64) : Int := (Op.cmpValue (FP.dcmp x y) .g).toInt
theorem cg_of (x y : UInt64) : Op.cmpValue (FP.dcmp x y) .g = iZ (cg x y) := iZ_of _
theorem cg_rng (x y : UInt64) : -2147483648 ≤ cg x y ∧ cg x y < 2147483648 := iZ_rng _
def bRun : Nat → UInt64 → Int64 → UInt64 × Int64
  | 0, fr, ex => (fr, ex)
  | n + 1, fr, ex => if 0 ≤ cg fr FP.dconst1 then (fr, ex) else bRun n (FP.dmul fr 4611686018427387904) (ex - 1)
def bOk : Nat → UInt64 → Bool
  | 0, _ => true
  | n + 1, fr => if 0 ≤ cg fr FP.dconst1 then true else (decide (FP.dmul fr 4611686018427387904 &&& 0x7fffffffffffffff ≤ 0x7ff0000000000000) && bOk n (FP.dmul fr 4611686018427387904))
def bBits (x : UInt64) : Int64 := ((bRun 63 x 1023).2 <<< ((iZ 52).toInt64 &&& 63)) ||| (FP.d2l (FP.dmul (FP.dsub (bRun 63 x 1023).1 FP.dconst1) 4841369599423283200))
def bTot (x : UInt64) : Int64 := if cg x FP.dconst0 ≤ 0 then 0 else bBits x
def bAll (x : UInt64) : Bool := bOk 63 x && (decide (FP.dsub (bRun 63 x 1023).1 FP.dconst1 &&& 0x7fffffffffffffff ≤ 0x7ff0000000000000) && decide (FP.dmul (FP.dsub (bRun 63 x 1023).1 FP.dconst1) 4841369599423283200 &&& 0x7fffffffffffffff ≤ 0x7ff0000000000000))
/-- what is asked of a share -/
def shB (x : UInt64) : Bool := decide (x &&& 0x7fffffffffffffff ≤ 0x7ff0000000000000) && (decide (Op.cmpValue (FP.dcmp x x) .l = 0) && (decide (Op.cmpValue (FP.dcmp x x) .g = 0) && (bAll x && decide (bTot x = x.toInt64))))
theorem shB_all : ∀ a b : Fin 31, a.val ≤ b.val → b.val ≠ 0 → shB (FP.ddiv (FP.i2d (Int32.ofInt (a.val : Int))) (FP.i2d (Int32.ofInt (b.val : Int)))) = true := by decide +kernel
theorem shB_1 : shB FP.dconst1 = true := by decide +kernel
theorem shB_at {a b : Int} (h0 : 0 ≤ a) (h1 : a ≤ b) (h2 : 1 ≤ b) (h3 : b ≤ 30) : shB (FP.ddiv (FP.i2d (iZ a)) (FP.i2d (iZ b))) = true := by
  have r := shB_all ⟨a.toNat, by omega⟩ ⟨b.toNat, by omega⟩ (by show a.toNat ≤ b.toNat; omega) (by show b.toNat ≠ 0; omega)
  have e1 : ((a.toNat : Nat) : Int) = a := Int.toNat_of_nonneg h0
  have e2 : ((b.toNat : Nat) : Int) = b := Int.toNat_of_nonneg (by omega)
  have r2 : shB (FP.ddiv (FP.i2d (Int32.ofInt ((a.toNat : Nat) : Int))) (FP.i2d (Int32.ofInt ((b.toNat : Nat) : Int)))) = true := r
  rw [e1, e2] at r2
  exact r2
theorem shB_n {x : UInt64} (h : shB x = true) : vf_n64 x := by
  unfold shB at h
  simp only [Bool.and_eq_true, decide_eq_true_eq] at h
  exact h.1
theorem shB_l {x : UInt64} (h : shB x = true) : Op.cmpValue (FP.dcmp x x) .l = iZ 0 := by
  unfold shB at h
  simp only [Bool.and_eq_true, decide_eq_true_eq] at h
  exact h.2.1
theorem shB_g {x : UInt64} (h : shB x = true) : Op.cmpValue (FP.dcmp x x) .g = iZ 0 := by
  unfold shB at h
  simp only [Bool.and_eq_true, decide_eq_true_eq] at h
  exact h.2.2.1
theorem shB_b {x : UInt64} (h : shB x = true) : bAll x = true := by
  unfold shB at h
  simp only [Bool.and_eq_true, decide_eq_true_eq] at h
  exact h.2.2.2.1
theorem shB_t {x : UInt64} (h : shB x = true) : bTot x = x.toInt64 := by
  unfold shB at h
  simp only [Bool.and_eq_true, decide_eq_true_eq] at h
  exact h.2.2.2.2
theorem share_shB {f : Int → Int} {cap : Int} (hw : WF f cap) : shB (sShare f) = true := by
  have hn := hw.n
  have r := sUnc_rng hw.wr
  unfold sShare
  by_cases c : f 1 = 0
  · rw [if_pos c]
    exact shB_1
  · rw [if_neg c]
    exact shB_at (by omega) (by omega) (by omega) hn.2
theorem bRun_go {iz : Int} {fr x9 : UInt64} {ex : Int64} (h0 : 0 ≤ iz ∧ iz < 63) (h : cg fr FP.dconst1 < 0) (hr : bRun (63 - iz).toNat fr ex = bRun 63 x9 1023) (hb : bOk (63 - iz).toNat fr = true) : bRun (63 - (iz + 1)).toNat (FP.dmul fr 4611686018427387904) (ex - 1) = bRun 63 x9 1023 ∧ bOk (63 - (iz + 1)).toNat (FP.dmul fr 4611686018427387904) = true ∧ vf_n64 (FP.dmul fr 4611686018427387904) := by
  rw [show (63 - iz).toNat = (63 - (iz + 1)).toNat + 1 by omega] at hr hb
  rw [bRun, if_neg (by omega)] at hr
  rw [bOk, if_neg (by omega), Bool.and_eq_true] at hb
  have z := of_decide_eq_true hb.1
  exact ⟨hr, hb.2, z⟩
theorem bRun_end {iz : Int} {fr x9 : UInt64} {ex : Int64} (h : 63 ≤ iz ∨ 0 ≤ cg fr FP.dconst1) (hi : iz ≤ 63) (hr : bRun (63 - iz).toNat fr ex = bRun 63 x9 1023) : bRun 63 x9 1023 = (fr, ex) := by
  rw [← hr]
  by_cases c : iz = 63
  · rw [show (63 - iz).toNat = 0 by omega, bRun]
  · rw [show (63 - iz).toNat = (63 - (iz + 1)).toNat + 1 by omega, bRun, if_pos (by omega)]
/-- the digest, by the reference's words -/
def sDe (f : Int → Int) (p : Int) (h : Int64) : Int64 := dV (dV (dV (dV (zit (fun w h => dV h (sOfE f p w)) 6 h) (sRow f p)) (sDrp f p 0)) (sDrp f p 1)) (sBest f p)
def sDp (f : Int → Int) (a : Int) (h : Int64) : Int64 := zit (fun j h => dV h (sOfC f a (j / 5) (j % 5))) (5 * f (32 * a + 65)) (zit (fun w h => dV h (sOfP f a w)) 4 h)
def sD1 (f : Int → Int) (k : Int) : Int64 := zit (fun w h => dV h (sCnt f k w)) 9 3137
def sD2 (f : Int → Int) (k : Int) : Int64 := zit (fun p h => sDe f p h) (f 1) (sD1 f k)
def sD3 (f : Int → Int) (k : Int) : Int64 := zit (fun a h => sDp f a h) 12 (sD2 f k)
def sD4 (f : Int → Int) (k : Int) : Int64 := dV (dV (dV (sD3 f k) (sIns f 0 5 0)) (sIns f 0 5 1)) (sLeast f 2)
def sD5 (f : Int → Int) (k ty : Int) : Int64 := dV (31 * sD4 f k + (sShare f).toInt64) ty
def sDig (f : Int → Int) (k ty : Int) (tx : Int → Int) : Int64 := zit (fun j h => dV h (tx j)) ty (sD5 f k ty)
theorem dJn_0 : decode cJxe99ae_isNaN_b9ae7 0 = .ok (.dload_n 0, 1) := by decide +kernel
theorem dJn_1 : decode cJxe99ae_isNaN_b9ae7 1 = .ok (.dload_n 0, 1) := by decide +kernel
theorem dJn_2 : decode cJxe99ae_isNaN_b9ae7 2 = .ok (.dcmp .l, 1) := by decide +kernel
theorem dJn_3 : decode cJxe99ae_isNaN_b9ae7 3 = .ok (.ifCond .eq 7, 3) := by decide +kernel
theorem dJn_10 : decode cJxe99ae_isNaN_b9ae7 10 = .ok (.iconst 0, 1) := by decide +kernel
theorem dJn_11 : decode cJxe99ae_isNaN_b9ae7 11 = .ok (.ireturn, 1) := by decide +kernel
theorem dJd_0 : decode cJxe99ae_doubleToLongBits_ccdee 0 = .ok (.dload_n 0, 1) := by decide +kernel
theorem dJd_1 : decode cJxe99ae_doubleToLongBits_ccdee 1 = .ok (.invokestatic 122, 3) := by decide +kernel
theorem dJd_4 : decode cJxe99ae_doubleToLongBits_ccdee 4 = .ok (.ifCond .ne 8, 3) := by decide +kernel
theorem dJd_7 : decode cJxe99ae_doubleToLongBits_ccdee 7 = .ok (.dload_n 0, 1) := by decide +kernel
theorem dJd_8 : decode cJxe99ae_doubleToLongBits_ccdee 8 = .ok (.invokestatic 134, 3) := by decide +kernel
theorem dJd_11 : decode cJxe99ae_doubleToLongBits_ccdee 11 = .ok (.lreturn, 1) := by decide +kernel
theorem m_J_isNaN (l : Launch) (g : zG) (C : Nat → va_E) (x : UInt64) (hx : Op.cmpValue (FP.dcmp x x) .l = iZ 0) : Met l yJxe99ae_isNaN_b9ae7 wsJxe99ae_isNaN_b9ae7 ({ frames := 0, cells := 0, slots := 0, locals := 0 } : Room) (zPre g C [.double x]) (zQi g (fun z C' => C' = C ∧ z = 0)) 0 0 (zA g) := by
  refine z_enter RJxe99ae rfl (by decide) rfl (Nat.le_of_ble_eq_true rfl) ?_
  intro p e s m args below meth c K harg
  refine z_sub (lv' := [(0, .double x)]) [0] rfl ?_
  refine z_dload_n 1 K dJn_0 rfl rfl 0 rfl ?_
  refine z_dload_n 2 K dJn_1 rfl rfl 0 rfl ?_
  refine z_dcmp 3 K dJn_2 rfl 0 hx ?_
  refine z_if_eq (tgt := 10) 6 K dJn_3 rfl (by decide) (by decide) (fun c_3 => ?_) (fun c_3 => absurd rfl c_3)
  refine z_iconst 11 K dJn_10 rfl ?_
  exact z_zret K rfl (by decide) dJn_11 ⟨rfl, rfl⟩
theorem gJ_isNaN : GoodIn wsJxe99ae_doubleToLongBits_ccdee (va_wsS RJxe99ae 122 yJxe99ae_isNaN_b9ae7 wsJxe99ae_isNaN_b9ae7) := goodIn_of _ (by decide +kernel)
theorem m_J_d2l (l : Launch) (g : zG) (C : Nat → va_E) (x : UInt64) (hx : Op.cmpValue (FP.dcmp x x) .l = iZ 0) : Met l yJxe99ae_doubleToLongBits_ccdee wsJxe99ae_doubleToLongBits_ccdee ({ frames := 1, cells := 0, slots := 0, locals := 25 } : Room) (zPre g C [.double x]) (zQl g (fun z C' => C' = C ∧ z = x.toInt64)) 0 0 (zA g) := by
  refine z_enter RJxe99ae rfl (by decide) rfl (Nat.le_of_ble_eq_true rfl) ?_
  intro p e s m args below meth c K harg
  refine z_sub (lv' := [(0, .double x)]) [0] rfl ?_
  refine z_dload_n 1 K dJd_0 rfl rfl 0 rfl ?_
  refine z_vSi (As := [.double x]) (rest := []) 4 K (m_J_isNaN l g _ x hx) (va_cwS 1 K.1.2.2.2.2 gJ_isNaN rfl rfl rfl (by decide +kernel) ⟨Nat.le_of_ble_eq_true rfl, Nat.le_of_ble_eq_true rfl⟩) rfl (Nat.le_of_ble_eq_true rfl) dJd_1 rfl ⟨Nat.le_of_ble_eq_true rfl, Nat.le_of_ble_eq_true rfl⟩ rfl (fun z_1 C_2 hp_1 => ?_)
  refine z_C hp_1.1 ?_
  refine z_top 0 hp_1.2 ?_
  refine z_if_ne (tgt := 12) 7 K dJd_4 rfl (by decide) (by decide) (fun c_4 => absurd rfl c_4) (fun c_4 => ?_)
  refine z_dload_n 8 K dJd_7 rfl rfl 0 rfl ?_
  refine z_sub (lv' := [(0, .double x)]) [0] rfl ?_
  intro H locs ls hW hS hl
  refine vn_d2l K.1.1 K.1.2.1 (K.1.2.2.1.trans hl.1.symm) K.1.2.2.2.1 (K.1.2.2.2.2 _ (by decide +kernel)) (K.1.2.2.2.2 _ (by decide +kernel)) (K.1.2.2.2.2 _ (by decide +kernel)) (K.1.2.2.2.2 _ (by decide +kernel)) (Nat.le_of_ble_eq_true rfl) (Nat.le_of_ble_eq_true rfl) dJd_8 ?_
  exact z_lret K rfl dJd_11 ⟨rfl, rfl⟩ H locs ls hW hS hl
set_option maxRecDepth 20000 in
theorem hin_X9_share_X9 : ∀ w ∈ wsX90, w ∈ wsX9_share := by decide +kernel
set_option maxHeartbeats 4000000 in
set_option maxRecDepth 100000 in
theorem m_X9_share (l : Launch) (g : zG) (C : Nat → va_E) (k : Int) (ty : Int) (th : Int) (pt : Int) (fl : Int) (to : Int) (f : Int → Int) (cap : Int) (hM : C 94 = .inr (9, [.ref (aD g 95), .ref (aD g 96), .ref (aD g 97), .int (iZ k), .ref (aD g 98), .int (iZ ty), .int (iZ th), .int (iZ pt), .int (iZ fl), .ref (aD g 99), .int (iZ to)])) (hN : C 95 = eI g 449 f) (hw : WF f cap) (hcap : cap ≤ 100000) : Met l yX9_share wsX9_share ({ frames := 5, cells := 0, slots := 0, locals := 114 } : Room) (zPre g C [.ref (aD g 94)]) (zQd g (fun z C' => C' = C ∧ z = sShare f)) 0 0 (zA g) := by
  refine z_enter RX9 rfl (by decide) rfl (Nat.le_of_ble_eq_true rfl) ?_
  intro p e s m args below meth c K harg
  refine z_sub (lv' := [(0, .ref (aD g 94))]) [0] rfl ?_
  have hn := hw.n
  have hur := sUnc_rng hw.wr
  refine z_aload_n 1 K dX9_share_0 rfl rfl 0 rfl ?_
  refine z_get 4 K hin_X9_share_X9 94 (by decide) hM rfl 0 (by decide) (by decide +kernel : Cond.fieldLink RX9 7 "BriefBuilderModel" "now" "[I" ∈ wsX9_share) (fun _ h9 => h9) rfl dX9_share_1 rfl ?_
  refine z_iconst 5 K dX9_share_4 rfl ?_
  refine z_iald (f := f) 6 K 95 (by decide) hN (by decide) (by decide) (by decide) dX9_share_5 rfl ?_
  refine z_if_ne (tgt := 13) 9 K dX9_share_6 rfl (by decide) (by omega) (fun c_6 => ?_) (fun c_6 => ?_)
  · skip
    refine z_aload_n 14 K dX9_share_13 rfl rfl 0 rfl ?_
    refine z_get 17 K hin_X9_share_X9 94 (by decide) hM rfl 0 (by decide) (by decide +kernel : Cond.fieldLink RX9 7 "BriefBuilderModel" "now" "[I" ∈ wsX9_share) (fun _ h9 => h9) rfl dX9_share_14 rfl ?_
    refine z_iconst 18 K dX9_share_17 rfl ?_
    refine z_iald (f := f) 19 K 95 (by decide) hN (by decide) (by decide) (by decide) dX9_share_18 rfl ?_
    refine z_aload_n 20 K dX9_share_19 rfl rfl 0 rfl ?_
    refine z_vVi (As := []) (rest := [.int (iZ (f 1))]) 23 K 94 (by decide) hM rfl rfl (m_X9_uncited l g _ k ty th pt fl to f _ hM hN hw hcap) (cwV 0 K.1.2.2.2.2 gX9_share_X9_uncited rfl rfl rfl (by decide +kernel) ⟨Nat.le_of_ble_eq_true rfl, Nat.le_of_ble_eq_true rfl⟩) rfl (Nat.le_of_ble_eq_true rfl) dX9_share_20 rfl ⟨Nat.le_of_ble_eq_true rfl, Nat.le_of_ble_eq_true rfl⟩ rfl (fun z_1 C_2 hp_20 => ?_)
    refine z_C hp_20.1 ?_
    refine z_top (sUnc f) hp_20.2 ?_
    refine z_isub 24 K dX9_share_23 rfl ?_
    refine z_i2d 25 K dX9_share_24 rfl ?_
    refine z_aload_n 26 K dX9_share_25 rfl rfl 0 rfl ?_
    refine z_get 29 K hin_X9_share_X9 94 (by decide) hM rfl 0 (by decide) (by decide +kernel : Cond.fieldLink RX9 7 "BriefBuilderModel" "now" "[I" ∈ wsX9_share) (fun _ h9 => h9) rfl dX9_share_26 rfl ?_
    refine z_iconst 30 K dX9_share_29 rfl ?_
    refine z_iald (f := f) 31 K 95 (by decide) hN (by decide) (by decide) (by decide) dX9_share_30 rfl ?_
    refine z_i2d 32 K dX9_share_31 rfl ?_
    refine z_ddiv 33 K dX9_share_32 rfl (shB_n (shB_at (by omega) (by omega) (by omega) (by omega))) ?_
    exact z_dret K rfl dX9_share_33 ⟨rfl, by unfold sShare; first | (have q9 : f 1 = 0 := (by omega); rw [if_pos q9]) | (have q9 : ¬ f 1 = 0 := (by omega); rw [if_neg q9])⟩
  · skip
    refine z_dconst1 10 K dX9_share_9 rfl ?_
    refine z_goto (tgt := 33) K dX9_share_10 (by decide) ?_
    exact z_dret K rfl dX9_share_33 ⟨rfl, by unfold sShare; first | (have q9 : f 1 = 0 := (by omega); rw [if_pos q9]) | (have q9 : ¬ f 1 = 0 := (by omega); rw [if_neg q9])⟩
set_option maxRecDepth 20000 in
theorem hin_X9_citedShare_X9 : ∀ w ∈ wsX90, w ∈ wsX9_citedShare := by decide +kernel
set_option maxHeartbeats 4000000 in
set_option maxRecDepth 100000 in
theorem m_X9_citedShare (l : Launch) (g : zG) (C : Nat → va_E) (k : Int) (ty : Int) (th : Int) (pt : Int) (fl : Int) (to : Int) (f : Int → Int) (cap : Int) (hM : C 94 = .inr (9, [.ref (aD g 95), .ref (aD g 96), .ref (aD g 97), .int (iZ k), .ref (aD g 98), .int (iZ ty), .int (iZ th), .int (iZ pt), .int (iZ fl), .ref (aD g 99), .int (iZ to)])) (hN : C 95 = eI g 449 f) (hw : WF f cap) (hcap : cap ≤ 100000) : Met l yX9_citedShare wsX9_citedShare ({ frames := 6, cells := 0, slots := 0, locals := 134 } : Room) (zPre g C [.ref (aD g 94)]) (zQd g (fun z C' => C' = va_up C 94 (.inr (9, [.ref (aD g 95), .ref (aD g 96), .ref (aD g 97), .int (iZ k), .ref (aD g 98), .int (iZ ty), .int (iZ 0), .int (iZ pt), .int (iZ fl), .ref (aD g 99), .int (iZ to)])) ∧ z = sShare f)) 0 0 (zA g) := by
  refine z_enter RX9 rfl (by decide) rfl (Nat.le_of_ble_eq_true rfl) ?_
  intro p e s m args below meth c K harg
  refine z_sub (lv' := [(0, .ref (aD g 94))]) [0] rfl ?_
  refine z_aload_n 1 K dX9_citedShare_0 rfl rfl 0 rfl ?_
  refine z_iconst 2 K dX9_citedShare_1 rfl ?_
  refine z_put (ty := .int) 5 K hin_X9_citedShare_X9 tyX9 tyX9_ok nmX9 94 (by decide) hM rfl 6 (by decide) (by decide +kernel : Cond.fieldLink RX9 25 "BriefBuilderModel" "thrown" "I" ∈ wsX9_citedShare) (fun _ h9 => h9) rfl (by decide +kernel) rfl rfl (Nat.le_of_ble_eq_true rfl) dX9_citedShare_2 rfl ?_
  show Z p l e (({ frames := 6, cells := 0, slots := 0, locals := 134 } : Room)) s m args below meth c (MQ below (zQd g (fun z C' => C' = va_up C 94 (.inr (9, [.ref (aD g 95), .ref (aD g 96), .ref (aD g 97), .int (iZ k), .ref (aD g 98), .int (iZ ty), .int (iZ 0), .int (iZ pt), .int (iZ fl), .ref (aD g 99), .int (iZ to)])) ∧ z = sShare f)) args s 0 0 (zA g)) g _ _ _ (va_up C 94 (.inr (9, [.ref (aD g 95), .ref (aD g 96), .ref (aD g 97), .int (iZ k), .ref (aD g 98), .int (iZ ty), .int (iZ 0), .int (iZ pt), .int (iZ fl), .ref (aD g 99), .int (iZ to)]))) [(0, .ref (aD g 94))] 5 []
  refine z_aload_n 6 K dX9_citedShare_5 rfl rfl 0 rfl ?_
  refine z_vVd (As := []) (rest := []) 9 K 94 (by decide) (va_up_eq _ 94 _) rfl rfl (m_X9_share l g _ k ty 0 pt fl to f _ (va_up_eq _ 94 _) ((va_up_ne _ _ (by decide)).trans hN) hw hcap) (cwV 0 K.1.2.2.2.2 gX9_citedShare_X9_share rfl rfl rfl (by decide +kernel) ⟨Nat.le_of_ble_eq_true rfl, Nat.le_of_ble_eq_true rfl⟩) rfl (Nat.le_of_ble_eq_true rfl) dX9_citedShare_6 rfl ⟨Nat.le_of_ble_eq_true rfl, Nat.le_of_ble_eq_true rfl⟩ rfl (fun z_1 C_2 hp_6 => ?_)
  refine z_C hp_6.1 ?_
  refine z_topD (sShare f) hp_6.2 ?_
  exact z_dret K rfl dX9_citedShare_9 ⟨rfl, rfl⟩
set_option maxRecDepth 20000 in
theorem hin_X9_digest_X9 : ∀ w ∈ wsX90, w ∈ wsX9_digest := by decide +kernel
set_option maxHeartbeats 4000000 in
set_option maxRecDepth 100000 in
theorem m_X9_digest (l : Launch) (g : zG) (C : Nat → va_E) (k : Int) (ty : Int) (th : Int) (pt : Int) (fl : Int) (to : Int) (f : Int → Int) (ft : Int → Int) (tx : Int → Int) (cap : Int) (hM : C 94 = .inr (9, [.ref (aD g 95), .ref (aD g 96), .ref (aD g 97), .int (iZ k), .ref (aD g 98), .int (iZ ty), .int (iZ th), .int (iZ pt), .int (iZ fl), .ref (aD g 99), .int (iZ to)])) (hN : C 95 = eI g 449 f) (hT : C 96 = eI g 449 ft) (hTx : C 98 = eI g 60 tx) (hw : WF f cap) (hcap : cap ≤ 100000) (hk : 0 ≤ k ∧ k ≤ 6) (hty : 0 ≤ ty ∧ ty ≤ 60) : Met l yX9_digest wsX9_digest ({ frames := 6, cells := 0, slots := 0, locals := 139 } : Room) (zPre g C [.ref (aD g 94)]) (zQl g (fun z C' => ∃ gt : Int → Int, C' = va_up (va_up C 96 (eI g 449 gt)) 94 (.inr (9, [.ref (aD g 95), .ref (aD g 96), .ref (aD g 97), .int (iZ k), .ref (aD g 98), .int (iZ ty), .int (iZ 0), .int (iZ pt), .int (iZ fl), .ref (aD g 99), .int (iZ to)])) ∧ z = sDig f k ty tx)) 0 0 (zA g) := by
  refine z_enter RX9 rfl (by decide) rfl (Nat.le_of_ble_eq_true rfl) ?_
  intro p e s m args below meth c K harg
  refine z_sub (lv' := [(0, .ref (aD g 94))]) [0] rfl ?_
  have hn := hw.n
  have hwr := hw.wr
  refine z_aload_n 1 K dX9_digest_0 rfl rfl 0 rfl ?_
  refine z_iconst 2 K dX9_digest_1 rfl ?_
  refine z_put (ty := .int) 5 K hin_X9_digest_X9 tyX9 tyX9_ok nmX9 94 (by decide) hM rfl 6 (by decide) (by decide +kernel : Cond.fieldLink RX9 25 "BriefBuilderModel" "thrown" "I" ∈ wsX9_digest) (fun _ h9 => h9) rfl (by decide +kernel) rfl rfl (Nat.le_of_ble_eq_true rfl) dX9_digest_2 rfl ?_
  show Z p l e (({ frames := 6, cells := 0, slots := 0, locals := 139 } : Room)) s m args below meth c (MQ below (zQl g (fun z C' => ∃ gt : Int → Int, C' = va_up (va_up C 96 (eI g 449 gt)) 94 (.inr (9, [.ref (aD g 95), .ref (aD g 96), .ref (aD g 97), .int (iZ k), .ref (aD g 98), .int (iZ ty), .int (iZ 0), .int (iZ pt), .int (iZ fl), .ref (aD g 99), .int (iZ to)])) ∧ z = sDig f k ty tx)) args s 0 0 (zA g)) g _ _ _ (va_up C 94 (.inr (9, [.ref (aD g 95), .ref (aD g 96), .ref (aD g 97), .int (iZ k), .ref (aD g 98), .int (iZ ty), .int (iZ 0), .int (iZ pt), .int (iZ fl), .ref (aD g 99), .int (iZ to)]))) [(0, .ref (aD g 94))] 5 []
  refine z_ldc2l 8 K (3137) (by decide +kernel : Cond.constantLong RX9 201 (3137) ∈ wsX9_digest) dX9_digest_5 rfl ?_
  refine z_lstore_n (lv' := [(1, .long (3137)), (0, .ref (aD g 94))]) 9 K dX9_digest_8 rfl rfl (by decide) rfl ?_
  refine z_iconst 10 K dX9_digest_9 rfl ?_
  refine z_istore_n (lv' := [(3, .int (iZ 0)), (1, .long (3137)), (0, .ref (aD g 94))]) 11 K dX9_digest_10 rfl rfl (by decide) rfl ?_
  have loop_11 : ∀ (n9 : Nat) (h1 : Int64) (w : Int), (0 ≤ w ∧ w ≤ 9) → (h1 = zit (fun w h => dV h (sCnt f k w)) w 3137) → (9 - w < (n9 : Int)) → Z p l e (({ frames := 6, cells := 0, slots := 0, locals := 139 } : Room)) s m args below meth c (MQ below (zQl g (fun z C' => ∃ gt : Int → Int, C' = va_up (va_up C 96 (eI g 449 gt)) 94 (.inr (9, [.ref (aD g 95), .ref (aD g 96), .ref (aD g 97), .int (iZ k), .ref (aD g 98), .int (iZ ty), .int (iZ 0), .int (iZ pt), .int (iZ fl), .ref (aD g 99), .int (iZ to)])) ∧ z = sDig f k ty tx)) args s 0 0 (zA g)) g 5 0 0 (va_up C 94 (.inr (9, [.ref (aD g 95), .ref (aD g 96), .ref (aD g 97), .int (iZ k), .ref (aD g 98), .int (iZ ty), .int (iZ 0), .int (iZ pt), .int (iZ fl), .ref (aD g 99), .int (iZ to)]))) [(0, .ref (aD g 94)), (1, .long h1), (3, .int (iZ w))] 11 [] := by
    intro n9
    induction n9 with
    | zero =>
      intro h1 w hkw hh1 hm9
      exact absurd hm9 (by omega)
    | succ n9 ih9 =>
      intro h1 w hkw hh1 hm_11
      have ih_11 := ih9
      clear ih9
      refine z_iload_n 12 K dX9_digest_11 rfl rfl 2 rfl ?_
      refine z_bipush 14 K dX9_digest_12 rfl rfl ?_
      refine z_icmp_ge (tgt := 36) 17 K dX9_digest_14 rfl (by decide) (by omega) (by decide) (fun c_14 => ?_) (fun c_14 => ?_)
      · skip
        refine z_iconst 37 K dX9_digest_36 rfl ?_
        refine z_istore_n (lv' := [(3, .int (iZ 0)), (0, .ref (aD g 94)), (1, .long h1)]) 38 K dX9_digest_37 rfl rfl (by decide) rfl ?_
        have loop_38 : ∀ (n9 : Nat) (g2 : Int → Int) (h2 : Int64) (p0 : Int), (0 ≤ p0 ∧ p0 ≤ f 1) → (h2 = zit (fun p h => sDe f p h) p0 (sD1 f k)) → (f 1 - p0 < (n9 : Int)) → Z p l e (({ frames := 6, cells := 0, slots := 0, locals := 139 } : Room)) s m args below meth c (MQ below (zQl g (fun z C' => ∃ gt : Int → Int, C' = va_up (va_up C 96 (eI g 449 gt)) 94 (.inr (9, [.ref (aD g 95), .ref (aD g 96), .ref (aD g 97), .int (iZ k), .ref (aD g 98), .int (iZ ty), .int (iZ 0), .int (iZ pt), .int (iZ fl), .ref (aD g 99), .int (iZ to)])) ∧ z = sDig f k ty tx)) args s 0 0 (zA g)) g 5 0 0 (va_up (va_up C 94 (.inr (9, [.ref (aD g 95), .ref (aD g 96), .ref (aD g 97), .int (iZ k), .ref (aD g 98), .int (iZ ty), .int (iZ 0), .int (iZ pt), .int (iZ fl), .ref (aD g 99), .int (iZ to)]))) 96 (eI g 449 g2)) [(0, .ref (aD g 94)), (1, .long h2), (3, .int (iZ p0))] 38 [] := by
          intro n9
          induction n9 with
          | zero =>
            intro g2 h2 p0 hkp hh2 hm9
            exact absurd hm9 (by omega)
          | succ n9 ih9 =>
            intro g2 h2 p0 hkp hh2 hm_38
            have ih_38 := ih9
            clear ih9
            refine z_iload_n 39 K dX9_digest_38 rfl rfl 2 rfl ?_
            refine z_aload_n 40 K dX9_digest_39 rfl rfl 0 rfl ?_
            refine z_get 43 K hin_X9_digest_X9 94 (by decide) ((va_up_ne _ _ (by decide)).trans (va_up_eq _ 94 _)) rfl 0 (by decide) (by decide +kernel : Cond.fieldLink RX9 7 "BriefBuilderModel" "now" "[I" ∈ wsX9_digest) (fun _ h9 => h9) rfl dX9_digest_40 rfl ?_
            refine z_iconst 44 K dX9_digest_43 rfl ?_
            refine z_iald (f := f) 45 K 95 (by decide) ((va_up_ne _ _ (by decide)).trans ((va_up_ne _ _ (by decide)).trans hN)) (by decide) (by decide) (by decide) dX9_digest_44 rfl ?_
            refine z_icmp_ge (tgt := 137) 48 K dX9_digest_45 rfl (by decide) (by omega) (by omega) (fun c_45 => ?_) (fun c_45 => ?_)
            · skip
              refine z_iconst 138 K dX9_digest_137 rfl ?_
              refine z_istore_n (lv' := [(3, .int (iZ 0)), (0, .ref (aD g 94)), (1, .long h2)]) 139 K dX9_digest_138 rfl rfl (by decide) rfl ?_
              have loop_139 : ∀ (n9 : Nat) (h4 : Int64) (a : Int), (0 ≤ a ∧ a ≤ 12) → (h4 = zit (fun a h => sDp f a h) a (sD2 f k)) → (12 - a < (n9 : Int)) → Z p l e (({ frames := 6, cells := 0, slots := 0, locals := 139 } : Room)) s m args below meth c (MQ below (zQl g (fun z C' => ∃ gt : Int → Int, C' = va_up (va_up C 96 (eI g 449 gt)) 94 (.inr (9, [.ref (aD g 95), .ref (aD g 96), .ref (aD g 97), .int (iZ k), .ref (aD g 98), .int (iZ ty), .int (iZ 0), .int (iZ pt), .int (iZ fl), .ref (aD g 99), .int (iZ to)])) ∧ z = sDig f k ty tx)) args s 0 0 (zA g)) g 5 0 0 (va_up (va_up C 94 (.inr (9, [.ref (aD g 95), .ref (aD g 96), .ref (aD g 97), .int (iZ k), .ref (aD g 98), .int (iZ ty), .int (iZ 0), .int (iZ pt), .int (iZ fl), .ref (aD g 99), .int (iZ to)]))) 96 (eI g 449 g2)) [(0, .ref (aD g 94)), (1, .long h4), (3, .int (iZ a))] 139 [] := by
                intro n9
                induction n9 with
                | zero =>
                  intro h4 a hka hh4 hm9
                  exact absurd hm9 (by omega)
                | succ n9 ih9 =>
                  intro h4 a hka hh4 hm_139
                  have ih_139 := ih9
                  clear ih9
                  refine z_iload_n 140 K dX9_digest_139 rfl rfl 2 rfl ?_
                  refine z_bipush 142 K dX9_digest_140 rfl rfl ?_
                  refine z_icmp_ge (tgt := 226) 145 K dX9_digest_142 rfl (by decide) (by omega) (by decide) (fun c_142 => ?_) (fun c_142 => ?_)
                  · skip
                    refine z_ldc2l 229 K (31) (by decide +kernel : Cond.constantLong RX9 203 (31) ∈ wsX9_digest) dX9_digest_226 rfl ?_
                    refine z_ldc2l 232 K (31) (by decide +kernel : Cond.constantLong RX9 203 (31) ∈ wsX9_digest) dX9_digest_229 rfl ?_
                    refine z_lload_n 233 K dX9_digest_232 rfl rfl 1 rfl ?_
                    refine z_lmul 234 K dX9_digest_233 rfl ?_
                    refine z_aload_n 235 K dX9_digest_234 rfl rfl 0 rfl ?_
                    refine z_iconst 236 K dX9_digest_235 rfl ?_
                    refine z_iconst 237 K dX9_digest_236 rfl ?_
                    refine z_iconst 238 K dX9_digest_237 rfl ?_
                    refine z_vVi (As := [.int (iZ 0), .int (iZ 5), .int (iZ 0)]) (rest := [.long ((31) * h4), .long (31)]) 241 K 94 (by decide) ((va_up_ne _ _ (by decide)).trans (va_up_eq _ 94 _)) rfl rfl (m_X9_byInserting l g _ 0 5 0 k ty 0 pt fl to f g2 _ ((va_up_ne _ _ (by decide)).trans (va_up_eq _ 94 _)) ((va_up_ne _ _ (by decide)).trans ((va_up_ne _ _ (by decide)).trans hN)) (va_up_eq _ 96 _) hw hcap (by omega) (by omega) (by omega)) (cwV 3 K.1.2.2.2.2 gX9_digest_X9_byInserting rfl rfl rfl (by decide +kernel) ⟨Nat.le_of_ble_eq_true rfl, Nat.le_of_ble_eq_true rfl⟩) rfl (Nat.le_of_ble_eq_true rfl) dX9_digest_238 rfl ⟨Nat.le_of_ble_eq_true rfl, Nat.le_of_ble_eq_true rfl⟩ rfl (fun z_1 C_2 hp_238 => ?_)
                    obtain ⟨gt_3, hC_238, hz_238⟩ := hp_238
                    refine z_C hC_238 ?_
                    refine z_top (sIns f 0 5 0) hz_238 ?_
                    refine z_C (va_uu _ _ _ _) ?_
                    refine z_i2l 242 K dX9_digest_241 rfl ?_
                    refine z_ladd 243 K dX9_digest_242 rfl ?_
                    refine z_lmul 244 K dX9_digest_243 rfl ?_
                    refine z_aload_n 245 K dX9_digest_244 rfl rfl 0 rfl ?_
                    refine z_iconst 246 K dX9_digest_245 rfl ?_
                    refine z_iconst 247 K dX9_digest_246 rfl ?_
                    refine z_iconst 248 K dX9_digest_247 rfl ?_
                    refine z_vVi (As := [.int (iZ 0), .int (iZ 5), .int (iZ 1)]) (rest := [.long ((31) * (((31) * h4) + ((iZ (sIns f 0 5 0)).toInt64)))]) 251 K 94 (by decide) ((va_up_ne _ _ (by decide)).trans (va_up_eq _ 94 _)) rfl rfl (m_X9_byInserting l g _ 0 5 1 k ty 0 pt fl to f gt_3 _ ((va_up_ne _ _ (by decide)).trans (va_up_eq _ 94 _)) ((va_up_ne _ _ (by decide)).trans ((va_up_ne _ _ (by decide)).trans hN)) (va_up_eq _ 96 _) hw hcap (by omega) (by omega) (by omega)) (cwV 3 K.1.2.2.2.2 gX9_digest_X9_byInserting rfl rfl rfl (by decide +kernel) ⟨Nat.le_of_ble_eq_true rfl, Nat.le_of_ble_eq_true rfl⟩) rfl (Nat.le_of_ble_eq_true rfl) dX9_digest_248 rfl ⟨Nat.le_of_ble_eq_true rfl, Nat.le_of_ble_eq_true rfl⟩ rfl (fun z_4 C_5 hp_248 => ?_)
                    obtain ⟨gt_6, hC_248, hz_248⟩ := hp_248
                    refine z_C hC_248 ?_
                    refine z_top (sIns f 0 5 1) hz_248 ?_
                    refine z_C (va_uu _ _ _ _) ?_
                    refine z_i2l 252 K dX9_digest_251 rfl ?_
                    refine z_ladd 253 K dX9_digest_252 rfl ?_
                    refine z_lstore_n (lv' := [(1, .long (((31) * (((31) * h4) + ((iZ (sIns f 0 5 0)).toInt64))) + ((iZ (sIns f 0 5 1)).toInt64))), (0, .ref (aD g 94)), (3, .int (iZ a))]) 254 K dX9_digest_253 rfl rfl (by decide) rfl ?_
                    refine z_ldc2l 257 K (31) (by decide +kernel : Cond.constantLong RX9 203 (31) ∈ wsX9_digest) dX9_digest_254 rfl ?_
                    refine z_lload_n 258 K dX9_digest_257 rfl rfl 0 rfl ?_
                    refine z_lmul 259 K dX9_digest_258 rfl ?_
                    refine z_aload_n 260 K dX9_digest_259 rfl rfl 1 rfl ?_
                    refine z_iconst 261 K dX9_digest_260 rfl ?_
                    refine z_vVi (As := [.int (iZ 2)]) (rest := [.long ((31) * (((31) * (((31) * h4) + ((iZ (sIns f 0 5 0)).toInt64))) + ((iZ (sIns f 0 5 1)).toInt64)))]) 264 K 94 (by decide) ((va_up_ne _ _ (by decide)).trans (va_up_eq _ 94 _)) rfl rfl (m_X9_least l g _ 2 k ty 0 pt fl to f gt_6 _ ((va_up_ne _ _ (by decide)).trans (va_up_eq _ 94 _)) ((va_up_ne _ _ (by decide)).trans ((va_up_ne _ _ (by decide)).trans hN)) (va_up_eq _ 96 _) hw hcap (by omega)) (cwV 1 K.1.2.2.2.2 gX9_digest_X9_least rfl rfl rfl (by decide +kernel) ⟨Nat.le_of_ble_eq_true rfl, Nat.le_of_ble_eq_true rfl⟩) rfl (Nat.le_of_ble_eq_true rfl) dX9_digest_261 rfl ⟨Nat.le_of_ble_eq_true rfl, Nat.le_of_ble_eq_true rfl⟩ rfl (fun z_7 C_8 hp_261 => ?_)
                    obtain ⟨gt_9, hC_261, hz_261⟩ := hp_261
                    refine z_C hC_261 ?_
                    refine z_top (sLeast f 2) hz_261 ?_
                    refine z_C (va_uu _ _ _ _) ?_
                    refine z_i2l 265 K dX9_digest_264 rfl ?_
                    refine z_ladd 266 K dX9_digest_265 rfl ?_
                    refine z_lstore_n (lv' := [(1, .long (((31) * (((31) * (((31) * h4) + ((iZ (sIns f 0 5 0)).toInt64))) + ((iZ (sIns f 0 5 1)).toInt64))) + ((iZ (sLeast f 2)).toInt64))), (0, .ref (aD g 94)), (3, .int (iZ a))]) 267 K dX9_digest_266 rfl rfl (by decide) rfl ?_
                    refine z_ldc2l 270 K (31) (by decide +kernel : Cond.constantLong RX9 203 (31) ∈ wsX9_digest) dX9_digest_267 rfl ?_
                    refine z_ldc2l 273 K (31) (by decide +kernel : Cond.constantLong RX9 203 (31) ∈ wsX9_digest) dX9_digest_270 rfl ?_
                    refine z_lload_n 274 K dX9_digest_273 rfl rfl 0 rfl ?_
                    refine z_lmul 275 K dX9_digest_274 rfl ?_
                    refine z_aload_n 276 K dX9_digest_275 rfl rfl 1 rfl ?_
                    refine z_vVd (As := []) (rest := [.long ((31) * (((31) * (((31) * (((31) * h4) + ((iZ (sIns f 0 5 0)).toInt64))) + ((iZ (sIns f 0 5 1)).toInt64))) + ((iZ (sLeast f 2)).toInt64))), .long (31)]) 279 K 94 (by decide) ((va_up_ne _ _ (by decide)).trans (va_up_eq _ 94 _)) rfl rfl (m_X9_share l g _ k ty 0 pt fl to f _ ((va_up_ne _ _ (by decide)).trans (va_up_eq _ 94 _)) ((va_up_ne _ _ (by decide)).trans ((va_up_ne _ _ (by decide)).trans hN)) hw hcap) (cwV 0 K.1.2.2.2.2 gX9_digest_X9_share rfl rfl rfl (by decide +kernel) ⟨Nat.le_of_ble_eq_true rfl, Nat.le_of_ble_eq_true rfl⟩) rfl (Nat.le_of_ble_eq_true rfl) dX9_digest_276 rfl ⟨Nat.le_of_ble_eq_true rfl, Nat.le_of_ble_eq_true rfl⟩ rfl (fun z_10 C_11 hp_276 => ?_)
                    refine z_C hp_276.1 ?_
                    refine z_topD (sShare f) hp_276.2 ?_
                    refine z_vSl (As := [.double (sShare f)]) (rest := [.long ((31) * (((31) * (((31) * (((31) * h4) + ((iZ (sIns f 0 5 0)).toInt64))) + ((iZ (sIns f 0 5 1)).toInt64))) + ((iZ (sLeast f 2)).toInt64))), .long (31)]) 282 K (m_J_d2l l g _ (sShare f) (shB_l (share_shB hw))) (va_cwS 1 K.1.2.2.2.2 gX9_digest_Jxe99ae_doubleToLongBits_ccdee rfl rfl rfl (by decide +kernel) ⟨Nat.le_of_ble_eq_true rfl, Nat.le_of_ble_eq_true rfl⟩) rfl (Nat.le_of_ble_eq_true rfl) dX9_digest_279 rfl ⟨Nat.le_of_ble_eq_true rfl, Nat.le_of_ble_eq_true rfl⟩ rfl (fun z_12 C_13 hp_279 => ?_)
                    refine z_C hp_279.1 ?_
                    refine z_topL ((sShare f).toInt64) hp_279.2 ?_
                    refine z_ladd 283 K dX9_digest_282 rfl ?_
                    refine z_lmul 284 K dX9_digest_283 rfl ?_
                    refine z_aload_n 285 K dX9_digest_284 rfl rfl 1 rfl ?_
                    refine z_get 288 K hin_X9_digest_X9 94 (by decide) ((va_up_ne _ _ (by decide)).trans (va_up_eq _ 94 _)) rfl 5 (by decide) (by decide +kernel : Cond.fieldLink RX9 122 "BriefBuilderModel" "typed" "I" ∈ wsX9_digest) (fun _ h9 => h9) rfl dX9_digest_285 rfl ?_
                    refine z_i2l 289 K dX9_digest_288 rfl ?_
                    refine z_ladd 290 K dX9_digest_289 rfl ?_
                    refine z_lstore_n (lv' := [(1, .long (((31) * (((31) * (((31) * (((31) * (((31) * h4) + ((iZ (sIns f 0 5 0)).toInt64))) + ((iZ (sIns f 0 5 1)).toInt64))) + ((iZ (sLeast f 2)).toInt64))) + ((sShare f).toInt64))) + ((iZ ty).toInt64))), (0, .ref (aD g 94)), (3, .int (iZ a))]) 291 K dX9_digest_290 rfl rfl (by decide) rfl ?_
                    refine z_iconst 292 K dX9_digest_291 rfl ?_
                    refine z_istore_n (lv' := [(3, .int (iZ 0)), (1, .long (((31) * (((31) * (((31) * (((31) * (((31) * h4) + ((iZ (sIns f 0 5 0)).toInt64))) + ((iZ (sIns f 0 5 1)).toInt64))) + ((iZ (sLeast f 2)).toInt64))) + ((sShare f).toInt64))) + ((iZ ty).toInt64))), (0, .ref (aD g 94))]) 293 K dX9_digest_292 rfl rfl (by decide) rfl ?_
                    have loop_293 : ∀ (n9 : Nat) (h7 : Int64) (j9 : Int), (0 ≤ j9 ∧ j9 ≤ ty) → (h7 = zit (fun j h => dV h (tx j)) j9 (sD5 f k ty)) → (ty - j9 < (n9 : Int)) → Z p l e (({ frames := 6, cells := 0, slots := 0, locals := 139 } : Room)) s m args below meth c (MQ below (zQl g (fun z C' => ∃ gt : Int → Int, C' = va_up (va_up C 96 (eI g 449 gt)) 94 (.inr (9, [.ref (aD g 95), .ref (aD g 96), .ref (aD g 97), .int (iZ k), .ref (aD g 98), .int (iZ ty), .int (iZ 0), .int (iZ pt), .int (iZ fl), .ref (aD g 99), .int (iZ to)])) ∧ z = sDig f k ty tx)) args s 0 0 (zA g)) g 5 0 0 (va_up (va_up C 94 (.inr (9, [.ref (aD g 95), .ref (aD g 96), .ref (aD g 97), .int (iZ k), .ref (aD g 98), .int (iZ ty), .int (iZ 0), .int (iZ pt), .int (iZ fl), .ref (aD g 99), .int (iZ to)]))) 96 (eI g 449 gt_9)) [(0, .ref (aD g 94)), (1, .long h7), (3, .int (iZ j9))] 293 [] := by
                      intro n9
                      induction n9 with
                      | zero =>
                        intro h7 j9 hkj hh7 hm9
                        exact absurd hm9 (by omega)
                      | succ n9 ih9 =>
                        intro h7 j9 hkj hh7 hm_293
                        have ih_293 := ih9
                        clear ih9
                        refine z_iload_n 294 K dX9_digest_293 rfl rfl 2 rfl ?_
                        refine z_aload_n 295 K dX9_digest_294 rfl rfl 0 rfl ?_
                        refine z_get 298 K hin_X9_digest_X9 94 (by decide) ((va_up_ne _ _ (by decide)).trans (va_up_eq _ 94 _)) rfl 5 (by decide) (by decide +kernel : Cond.fieldLink RX9 122 "BriefBuilderModel" "typed" "I" ∈ wsX9_digest) (fun _ h9 => h9) rfl dX9_digest_295 rfl ?_
                        refine z_icmp_ge (tgt := 321) 301 K dX9_digest_298 rfl (by decide) (by omega) (by omega) (fun c_298 => ?_) (fun c_298 => ?_)
                        · skip
                          refine z_lload_n 322 K dX9_digest_321 rfl rfl 1 rfl ?_
                          refine z_C (va_ur1 (by decide)) ?_
                          exact z_lret K rfl dX9_digest_322 ⟨_, rfl, by rw [hh7, show j9 = ty by omega]; rfl⟩
                        · skip
                          refine z_ldc2l 304 K (31) (by decide +kernel : Cond.constantLong RX9 203 (31) ∈ wsX9_digest) dX9_digest_301 rfl ?_
                          refine z_lload_n 305 K dX9_digest_304 rfl rfl 1 rfl ?_
                          refine z_lmul 306 K dX9_digest_305 rfl ?_
                          refine z_aload_n 307 K dX9_digest_306 rfl rfl 0 rfl ?_
                          refine z_get 310 K hin_X9_digest_X9 94 (by decide) ((va_up_ne _ _ (by decide)).trans (va_up_eq _ 94 _)) rfl 4 (by decide) (by decide +kernel : Cond.fieldLink RX9 19 "BriefBuilderModel" "text" "[I" ∈ wsX9_digest) (fun _ h9 => h9) rfl dX9_digest_307 rfl ?_
                          refine z_iload_n 311 K dX9_digest_310 rfl rfl 2 rfl ?_
                          refine z_iald (f := tx) 312 K 98 (by decide) ((va_up_ne _ _ (by decide)).trans ((va_up_ne _ _ (by decide)).trans hTx)) (by omega) (by omega) (by decide) dX9_digest_311 rfl ?_
                          refine z_i2l 313 K dX9_digest_312 rfl ?_
                          refine z_ladd 314 K dX9_digest_313 rfl ?_
                          refine z_lstore_n (lv' := [(1, .long (((31) * h7) + ((iZ (tx j9)).toInt64))), (0, .ref (aD g 94)), (3, .int (iZ j9))]) 315 K dX9_digest_314 rfl rfl (by decide) rfl ?_
                          refine z_iinc (lv' := [(3, .int (iZ (j9 + 1))), (1, .long (((31) * h7) + ((iZ (tx j9)).toInt64))), (0, .ref (aD g 94))]) 318 K dX9_digest_315 rfl (j9 + 1) rfl 2 rfl (by decide) rfl ?_
                          refine z_goto (tgt := 293) K dX9_digest_318 (by decide) ?_
                          refine z_sub [2, 1, 0] rfl ?_
                          exact ih_293 (((31) * h7) + ((iZ (tx j9)).toInt64)) (j9 + 1) (by omega) (by rw [zit_1 _ hkj.1, ← hh7]; rfl) (by omega)
                    refine z_sub [2, 1, 0] rfl ?_
                    exact loop_293 (Int.toNat (ty - 0) + 1) (((31) * (((31) * (((31) * (((31) * (((31) * h4) + ((iZ (sIns f 0 5 0)).toInt64))) + ((iZ (sIns f 0 5 1)).toInt64))) + ((iZ (sLeast f 2)).toInt64))) + ((sShare f).toInt64))) + ((iZ ty).toInt64)) 0 (by omega) (by rw [zit_0]; unfold sD5 sD4; rw [show sD3 f k = h4 by rw [hh4, show a = 12 by omega]; rfl]; rfl) (by omega)
                  · skip
                    have hpa := hw.pa a (by omega) (by omega)
                    refine z_iconst 146 K dX9_digest_145 rfl ?_
                    refine z_istore (lv' := [(4, .int (iZ 0)), (0, .ref (aD g 94)), (1, .long h4), (3, .int (iZ a))]) 148 K dX9_digest_146 rfl (by decide) rfl ?_
                    have loop_148 : ∀ (n9 : Nat) (h5 : Int64) (w : Int), (0 ≤ w ∧ w ≤ 4) → (h5 = zit (fun w h => dV h (sOfP f a w)) w h4) → (4 - w < (n9 : Int)) → Z p l e (({ frames := 6, cells := 0, slots := 0, locals := 139 } : Room)) s m args below meth c (MQ below (zQl g (fun z C' => ∃ gt : Int → Int, C' = va_up (va_up C 96 (eI g 449 gt)) 94 (.inr (9, [.ref (aD g 95), .ref (aD g 96), .ref (aD g 97), .int (iZ k), .ref (aD g 98), .int (iZ ty), .int (iZ 0), .int (iZ pt), .int (iZ fl), .ref (aD g 99), .int (iZ to)])) ∧ z = sDig f k ty tx)) args s 0 0 (zA g)) g 5 0 0 (va_up (va_up C 94 (.inr (9, [.ref (aD g 95), .ref (aD g 96), .ref (aD g 97), .int (iZ k), .ref (aD g 98), .int (iZ ty), .int (iZ 0), .int (iZ pt), .int (iZ fl), .ref (aD g 99), .int (iZ to)]))) 96 (eI g 449 g2)) [(0, .ref (aD g 94)), (1, .long h5), (3, .int (iZ a)), (4, .int (iZ w))] 148 [] := by
                      intro n9
                      induction n9 with
                      | zero =>
                        intro h5 w hkw hh5 hm9
                        exact absurd hm9 (by omega)
                      | succ n9 ih9 =>
                        intro h5 w hkw hh5 hm_148
                        have ih_148 := ih9
                        clear ih9
                        refine z_iload 150 K dX9_digest_148 rfl 3 rfl ?_
                        refine z_iconst 151 K dX9_digest_150 rfl ?_
                        refine z_icmp_ge (tgt := 175) 154 K dX9_digest_151 rfl (by decide) (by omega) (by decide) (fun c_151 => ?_) (fun c_151 => ?_)
                        · skip
                          refine z_iconst 176 K dX9_digest_175 rfl ?_
                          refine z_istore (lv' := [(4, .int (iZ 0)), (0, .ref (aD g 94)), (1, .long h5), (3, .int (iZ a))]) 178 K dX9_digest_176 rfl (by decide) rfl ?_
                          have loop_178 : ∀ (n9 : Nat) (h6 : Int64) (j9 : Int), (0 ≤ j9 ∧ j9 ≤ 5 * f (32 * a + 65)) → (h6 = zit (fun j h => dV h (sOfC f a (j / 5) (j % 5))) j9 h5) → (5 * f (32 * a + 65) - j9 < (n9 : Int)) → Z p l e (({ frames := 6, cells := 0, slots := 0, locals := 139 } : Room)) s m args below meth c (MQ below (zQl g (fun z C' => ∃ gt : Int → Int, C' = va_up (va_up C 96 (eI g 449 gt)) 94 (.inr (9, [.ref (aD g 95), .ref (aD g 96), .ref (aD g 97), .int (iZ k), .ref (aD g 98), .int (iZ ty), .int (iZ 0), .int (iZ pt), .int (iZ fl), .ref (aD g 99), .int (iZ to)])) ∧ z = sDig f k ty tx)) args s 0 0 (zA g)) g 5 0 0 (va_up (va_up C 94 (.inr (9, [.ref (aD g 95), .ref (aD g 96), .ref (aD g 97), .int (iZ k), .ref (aD g 98), .int (iZ ty), .int (iZ 0), .int (iZ pt), .int (iZ fl), .ref (aD g 99), .int (iZ to)]))) 96 (eI g 449 g2)) [(0, .ref (aD g 94)), (1, .long h6), (3, .int (iZ a)), (4, .int (iZ j9))] 178 [] := by
                            intro n9
                            induction n9 with
                            | zero =>
                              intro h6 j9 hkj hh6 hm9
                              exact absurd hm9 (by omega)
                            | succ n9 ih9 =>
                              intro h6 j9 hkj hh6 hm_178
                              have ih_178 := ih9
                              clear ih9
                              refine z_iload 180 K dX9_digest_178 rfl 3 rfl ?_
                              refine z_iconst 181 K dX9_digest_180 rfl ?_
                              refine z_aload_n 182 K dX9_digest_181 rfl rfl 0 rfl ?_
                              refine z_get 185 K hin_X9_digest_X9 94 (by decide) ((va_up_ne _ _ (by decide)).trans (va_up_eq _ 94 _)) rfl 0 (by decide) (by decide +kernel : Cond.fieldLink RX9 7 "BriefBuilderModel" "now" "[I" ∈ wsX9_digest) (fun _ h9 => h9) rfl dX9_digest_182 rfl ?_
                              refine z_iload_n 186 K dX9_digest_185 rfl rfl 2 rfl ?_
                              refine z_vSi (As := [.ref (aD g 95), .int (iZ a)]) (rest := [.int (iZ 5), .int (iZ j9)]) 189 K (m_X9_cites l g _ 95 a f (by decide) ((va_up_ne _ _ (by decide)).trans ((va_up_ne _ _ (by decide)).trans hN)) (by omega)) (va_cwS 2 K.1.2.2.2.2 gX9_digest_X9_cites rfl rfl rfl (by decide +kernel) ⟨Nat.le_of_ble_eq_true rfl, Nat.le_of_ble_eq_true rfl⟩) rfl (Nat.le_of_ble_eq_true rfl) dX9_digest_186 rfl ⟨Nat.le_of_ble_eq_true rfl, Nat.le_of_ble_eq_true rfl⟩ rfl (fun z_14 C_15 hp_186 => ?_)
                              refine z_C hp_186.1 ?_
                              refine z_top (f (32 * a + 65)) hp_186.2 ?_
                              refine z_imul 190 K dX9_digest_189 rfl ?_
                              refine z_icmp_ge (tgt := 220) 193 K dX9_digest_190 rfl (by decide) (by omega) (by omega) (fun c_190 => ?_) (fun c_190 => ?_)
                              · skip
                                refine z_iinc (lv' := [(3, .int (iZ (a + 1))), (0, .ref (aD g 94)), (1, .long h6), (4, .int (iZ j9))]) 223 K dX9_digest_220 rfl (a + 1) rfl 2 rfl (by decide) rfl ?_
                                refine z_goto (tgt := 139) K dX9_digest_223 (by decide) ?_
                                refine z_sub [1, 2, 0] rfl ?_
                                exact ih_139 h6 (a + 1) (by omega) (by rw [zit_1 _ hka.1, ← hh4]; unfold sDp; rw [show (4 : Int) = w by omega, ← hh5, show 5 * f (32 * a + 65) = j9 by omega, ← hh6]) (by omega)
                              · skip
                                refine z_ldc2l 196 K (31) (by decide +kernel : Cond.constantLong RX9 203 (31) ∈ wsX9_digest) dX9_digest_193 rfl ?_
                                refine z_lload_n 197 K dX9_digest_196 rfl rfl 1 rfl ?_
                                refine z_lmul 198 K dX9_digest_197 rfl ?_
                                refine z_aload_n 199 K dX9_digest_198 rfl rfl 0 rfl ?_
                                refine z_iload_n 200 K dX9_digest_199 rfl rfl 2 rfl ?_
                                refine z_iload 202 K dX9_digest_200 rfl 3 rfl ?_
                                refine z_iconst 203 K dX9_digest_202 rfl ?_
                                refine z_idiv 204 K dX9_digest_203 rfl (by omega) (by omega) ?_
                                refine z_iload 206 K dX9_digest_204 rfl 3 rfl ?_
                                refine z_iconst 207 K dX9_digest_206 rfl ?_
                                refine z_irem 208 K dX9_digest_207 rfl (by omega) (by omega) ?_
                                refine z_vVi (As := [.int (iZ a), .int (iZ (j9 / 5)), .int (iZ (j9 % 5))]) (rest := [.long ((31) * h6)]) 211 K 94 (by decide) ((va_up_ne _ _ (by decide)).trans (va_up_eq _ 94 _)) rfl rfl (m_X9_ofCitation l g _ a (j9 / 5) (j9 % 5) k ty 0 pt fl to f _ ((va_up_ne _ _ (by decide)).trans (va_up_eq _ 94 _)) ((va_up_ne _ _ (by decide)).trans ((va_up_ne _ _ (by decide)).trans hN)) hw hcap (by omega) (by omega) (by omega)) (cwV 3 K.1.2.2.2.2 gX9_digest_X9_ofCitation rfl rfl rfl (by decide +kernel) ⟨Nat.le_of_ble_eq_true rfl, Nat.le_of_ble_eq_true rfl⟩) rfl (Nat.le_of_ble_eq_true rfl) dX9_digest_208 rfl ⟨Nat.le_of_ble_eq_true rfl, Nat.le_of_ble_eq_true rfl⟩ rfl (fun z_16 C_17 hp_208 => ?_)
                                refine z_C hp_208.1 ?_
                                refine z_top (sOfC f a (j9 / 5) (j9 % 5)) hp_208.2 ?_
                                refine z_i2l 212 K dX9_digest_211 rfl ?_
                                refine z_ladd 213 K dX9_digest_212 rfl ?_
                                refine z_lstore_n (lv' := [(1, .long (((31) * h6) + ((iZ (sOfC f a (j9 / 5) (j9 % 5))).toInt64))), (0, .ref (aD g 94)), (3, .int (iZ a)), (4, .int (iZ j9))]) 214 K dX9_digest_213 rfl rfl (by decide) rfl ?_
                                refine z_iinc (lv' := [(4, .int (iZ (j9 + 1))), (1, .long (((31) * h6) + ((iZ (sOfC f a (j9 / 5) (j9 % 5))).toInt64))), (0, .ref (aD g 94)), (3, .int (iZ a))]) 217 K dX9_digest_214 rfl (j9 + 1) rfl 3 rfl (by decide) rfl ?_
                                refine z_goto (tgt := 178) K dX9_digest_217 (by decide) ?_
                                refine z_sub [2, 1, 3, 0] rfl ?_
                                exact ih_178 (((31) * h6) + ((iZ (sOfC f a (j9 / 5) (j9 % 5))).toInt64)) (j9 + 1) (by omega) (by rw [zit_1 _ hkj.1, ← hh6]; rfl) (by omega)
                          refine z_sub [1, 2, 3, 0] rfl ?_
                          exact loop_178 (Int.toNat (5 * f (32 * a + 65) - 0) + 1) h5 0 (by omega) rfl (by omega)
                        · skip
                          refine z_ldc2l 157 K (31) (by decide +kernel : Cond.constantLong RX9 203 (31) ∈ wsX9_digest) dX9_digest_154 rfl ?_
                          refine z_lload_n 158 K dX9_digest_157 rfl rfl 1 rfl ?_
                          refine z_lmul 159 K dX9_digest_158 rfl ?_
                          refine z_aload_n 160 K dX9_digest_159 rfl rfl 0 rfl ?_
                          refine z_iload_n 161 K dX9_digest_160 rfl rfl 2 rfl ?_
                          refine z_iload 163 K dX9_digest_161 rfl 3 rfl ?_
                          refine z_vVi (As := [.int (iZ a), .int (iZ w)]) (rest := [.long ((31) * h5)]) 166 K 94 (by decide) ((va_up_ne _ _ (by decide)).trans (va_up_eq _ 94 _)) rfl rfl (m_X9_ofParagraph l g _ a w k ty 0 pt fl to f _ ((va_up_ne _ _ (by decide)).trans (va_up_eq _ 94 _)) ((va_up_ne _ _ (by decide)).trans ((va_up_ne _ _ (by decide)).trans hN)) hw hcap (by omega) (by omega)) (cwV 2 K.1.2.2.2.2 gX9_digest_X9_ofParagraph rfl rfl rfl (by decide +kernel) ⟨Nat.le_of_ble_eq_true rfl, Nat.le_of_ble_eq_true rfl⟩) rfl (Nat.le_of_ble_eq_true rfl) dX9_digest_163 rfl ⟨Nat.le_of_ble_eq_true rfl, Nat.le_of_ble_eq_true rfl⟩ rfl (fun z_18 C_19 hp_163 => ?_)
                          refine z_C hp_163.1 ?_
                          refine z_top (sOfP f a w) hp_163.2 ?_
                          refine z_i2l 167 K dX9_digest_166 rfl ?_
                          refine z_ladd 168 K dX9_digest_167 rfl ?_
                          refine z_lstore_n (lv' := [(1, .long (((31) * h5) + ((iZ (sOfP f a w)).toInt64))), (0, .ref (aD g 94)), (3, .int (iZ a)), (4, .int (iZ w))]) 169 K dX9_digest_168 rfl rfl (by decide) rfl ?_
                          refine z_iinc (lv' := [(4, .int (iZ (w + 1))), (1, .long (((31) * h5) + ((iZ (sOfP f a w)).toInt64))), (0, .ref (aD g 94)), (3, .int (iZ a))]) 172 K dX9_digest_169 rfl (w + 1) rfl 3 rfl (by decide) rfl ?_
                          refine z_goto (tgt := 148) K dX9_digest_172 (by decide) ?_
                          refine z_sub [2, 1, 3, 0] rfl ?_
                          exact ih_148 (((31) * h5) + ((iZ (sOfP f a w)).toInt64)) (w + 1) (by omega) (by rw [zit_1 _ hkw.1, ← hh5]; rfl) (by omega)
                    refine z_sub [1, 2, 3, 0] rfl ?_
                    exact loop_148 (Int.toNat (4 - 0) + 1) h4 0 (by omega) rfl (by omega)
              refine z_sub [1, 2, 0] rfl ?_
              exact loop_139 (Int.toNat (12 - 0) + 1) h2 0 (by omega) (by rw [zit_0, hh2, show p0 = f 1 by omega]; rfl) (by omega)
            · skip
              refine z_iconst 49 K dX9_digest_48 rfl ?_
              refine z_istore (lv' := [(4, .int (iZ 0)), (0, .ref (aD g 94)), (1, .long h2), (3, .int (iZ p0))]) 51 K dX9_digest_49 rfl (by decide) rfl ?_
              have loop_51 : ∀ (n9 : Nat) (h3 : Int64) (w : Int), (0 ≤ w ∧ w ≤ 6) → (h3 = zit (fun w h => dV h (sOfE f p0 w)) w h2) → (6 - w < (n9 : Int)) → Z p l e (({ frames := 6, cells := 0, slots := 0, locals := 139 } : Room)) s m args below meth c (MQ below (zQl g (fun z C' => ∃ gt : Int → Int, C' = va_up (va_up C 96 (eI g 449 gt)) 94 (.inr (9, [.ref (aD g 95), .ref (aD g 96), .ref (aD g 97), .int (iZ k), .ref (aD g 98), .int (iZ ty), .int (iZ 0), .int (iZ pt), .int (iZ fl), .ref (aD g 99), .int (iZ to)])) ∧ z = sDig f k ty tx)) args s 0 0 (zA g)) g 5 0 0 (va_up (va_up C 94 (.inr (9, [.ref (aD g 95), .ref (aD g 96), .ref (aD g 97), .int (iZ k), .ref (aD g 98), .int (iZ ty), .int (iZ 0), .int (iZ pt), .int (iZ fl), .ref (aD g 99), .int (iZ to)]))) 96 (eI g 449 g2)) [(0, .ref (aD g 94)), (1, .long h3), (3, .int (iZ p0)), (4, .int (iZ w))] 51 [] := by
                intro n9
                induction n9 with
                | zero =>
                  intro h3 w hkw hh3 hm9
                  exact absurd hm9 (by omega)
                | succ n9 ih9 =>
                  intro h3 w hkw hh3 hm_51
                  have ih_51 := ih9
                  clear ih9
                  refine z_iload 53 K dX9_digest_51 rfl 3 rfl ?_
                  refine z_bipush 55 K dX9_digest_53 rfl rfl ?_
                  refine z_icmp_ge (tgt := 79) 58 K dX9_digest_55 rfl (by decide) (by omega) (by decide) (fun c_55 => ?_) (fun c_55 => ?_)
                  · skip
                    refine z_ldc2l 82 K (31) (by decide +kernel : Cond.constantLong RX9 203 (31) ∈ wsX9_digest) dX9_digest_79 rfl ?_
                    refine z_lload_n 83 K dX9_digest_82 rfl rfl 1 rfl ?_
                    refine z_lmul 84 K dX9_digest_83 rfl ?_
                    refine z_aload_n 85 K dX9_digest_84 rfl rfl 0 rfl ?_
                    refine z_iload_n 86 K dX9_digest_85 rfl rfl 2 rfl ?_
                    refine z_vVi (As := [.int (iZ p0)]) (rest := [.long ((31) * h3)]) 89 K 94 (by decide) ((va_up_ne _ _ (by decide)).trans (va_up_eq _ 94 _)) rfl rfl (m_X9_row l g _ p0 k ty 0 pt fl to f _ ((va_up_ne _ _ (by decide)).trans (va_up_eq _ 94 _)) ((va_up_ne _ _ (by decide)).trans ((va_up_ne _ _ (by decide)).trans hN)) hw hcap (by omega)) (cwV 1 K.1.2.2.2.2 gX9_digest_X9_row rfl rfl rfl (by decide +kernel) ⟨Nat.le_of_ble_eq_true rfl, Nat.le_of_ble_eq_true rfl⟩) rfl (Nat.le_of_ble_eq_true rfl) dX9_digest_86 rfl ⟨Nat.le_of_ble_eq_true rfl, Nat.le_of_ble_eq_true rfl⟩ rfl (fun z_20 C_21 hp_86 => ?_)
                    refine z_C hp_86.1 ?_
                    refine z_top (sRow f p0) hp_86.2 ?_
                    refine z_i2l 90 K dX9_digest_89 rfl ?_
                    refine z_ladd 91 K dX9_digest_90 rfl ?_
                    refine z_lstore_n (lv' := [(1, .long (((31) * h3) + ((iZ (sRow f p0)).toInt64))), (0, .ref (aD g 94)), (3, .int (iZ p0)), (4, .int (iZ w))]) 92 K dX9_digest_91 rfl rfl (by decide) rfl ?_
                    refine z_ldc2l 95 K (31) (by decide +kernel : Cond.constantLong RX9 203 (31) ∈ wsX9_digest) dX9_digest_92 rfl ?_
                    refine z_ldc2l 98 K (31) (by decide +kernel : Cond.constantLong RX9 203 (31) ∈ wsX9_digest) dX9_digest_95 rfl ?_
                    refine z_lload_n 99 K dX9_digest_98 rfl rfl 0 rfl ?_
                    refine z_lmul 100 K dX9_digest_99 rfl ?_
                    refine z_aload_n 101 K dX9_digest_100 rfl rfl 1 rfl ?_
                    refine z_iload_n 102 K dX9_digest_101 rfl rfl 2 rfl ?_
                    refine z_iconst 103 K dX9_digest_102 rfl ?_
                    refine z_vVi (As := [.int (iZ p0), .int (iZ 0)]) (rest := [.long ((31) * (((31) * h3) + ((iZ (sRow f p0)).toInt64))), .long (31)]) 106 K 94 (by decide) ((va_up_ne _ _ (by decide)).trans (va_up_eq _ 94 _)) rfl rfl (m_X9_byDropping l g _ p0 0 k ty 0 pt fl to f g2 _ ((va_up_ne _ _ (by decide)).trans (va_up_eq _ 94 _)) ((va_up_ne _ _ (by decide)).trans ((va_up_ne _ _ (by decide)).trans hN)) (va_up_eq _ 96 _) hw hcap (by omega) (by omega)) (cwV 2 K.1.2.2.2.2 gX9_digest_X9_byDropping rfl rfl rfl (by decide +kernel) ⟨Nat.le_of_ble_eq_true rfl, Nat.le_of_ble_eq_true rfl⟩) rfl (Nat.le_of_ble_eq_true rfl) dX9_digest_103 rfl ⟨Nat.le_of_ble_eq_true rfl, Nat.le_of_ble_eq_true rfl⟩ rfl (fun z_22 C_23 hp_103 => ?_)
                    obtain ⟨gt_24, hC_103, hz_103⟩ := hp_103
                    refine z_C hC_103 ?_
                    refine z_top (sDrp f p0 0) hz_103 ?_
                    refine z_C (va_uu _ _ _ _) ?_
                    refine z_i2l 107 K dX9_digest_106 rfl ?_
                    refine z_ladd 108 K dX9_digest_107 rfl ?_
                    refine z_lmul 109 K dX9_digest_108 rfl ?_
                    refine z_aload_n 110 K dX9_digest_109 rfl rfl 1 rfl ?_
                    refine z_iload_n 111 K dX9_digest_110 rfl rfl 2 rfl ?_
                    refine z_iconst 112 K dX9_digest_111 rfl ?_
                    refine z_vVi (As := [.int (iZ p0), .int (iZ 1)]) (rest := [.long ((31) * (((31) * (((31) * h3) + ((iZ (sRow f p0)).toInt64))) + ((iZ (sDrp f p0 0)).toInt64)))]) 115 K 94 (by decide) ((va_up_ne _ _ (by decide)).trans (va_up_eq _ 94 _)) rfl rfl (m_X9_byDropping l g _ p0 1 k ty 0 pt fl to f gt_24 _ ((va_up_ne _ _ (by decide)).trans (va_up_eq _ 94 _)) ((va_up_ne _ _ (by decide)).trans ((va_up_ne _ _ (by decide)).trans hN)) (va_up_eq _ 96 _) hw hcap (by omega) (by omega)) (cwV 2 K.1.2.2.2.2 gX9_digest_X9_byDropping rfl rfl rfl (by decide +kernel) ⟨Nat.le_of_ble_eq_true rfl, Nat.le_of_ble_eq_true rfl⟩) rfl (Nat.le_of_ble_eq_true rfl) dX9_digest_112 rfl ⟨Nat.le_of_ble_eq_true rfl, Nat.le_of_ble_eq_true rfl⟩ rfl (fun z_25 C_26 hp_112 => ?_)
                    obtain ⟨gt_27, hC_112, hz_112⟩ := hp_112
                    refine z_C hC_112 ?_
                    refine z_top (sDrp f p0 1) hz_112 ?_
                    refine z_C (va_uu _ _ _ _) ?_
                    refine z_i2l 116 K dX9_digest_115 rfl ?_
                    refine z_ladd 117 K dX9_digest_116 rfl ?_
                    refine z_lstore_n (lv' := [(1, .long (((31) * (((31) * (((31) * h3) + ((iZ (sRow f p0)).toInt64))) + ((iZ (sDrp f p0 0)).toInt64))) + ((iZ (sDrp f p0 1)).toInt64))), (0, .ref (aD g 94)), (3, .int (iZ p0)), (4, .int (iZ w))]) 118 K dX9_digest_117 rfl rfl (by decide) rfl ?_
                    refine z_ldc2l 121 K (31) (by decide +kernel : Cond.constantLong RX9 203 (31) ∈ wsX9_digest) dX9_digest_118 rfl ?_
                    refine z_lload_n 122 K dX9_digest_121 rfl rfl 0 rfl ?_
                    refine z_lmul 123 K dX9_digest_122 rfl ?_
                    refine z_aload_n 124 K dX9_digest_123 rfl rfl 1 rfl ?_
                    refine z_iload_n 125 K dX9_digest_124 rfl rfl 2 rfl ?_
                    refine z_vVi (As := [.int (iZ p0)]) (rest := [.long ((31) * (((31) * (((31) * (((31) * h3) + ((iZ (sRow f p0)).toInt64))) + ((iZ (sDrp f p0 0)).toInt64))) + ((iZ (sDrp f p0 1)).toInt64)))]) 128 K 94 (by decide) ((va_up_ne _ _ (by decide)).trans (va_up_eq _ 94 _)) rfl rfl (m_X9_best l g _ p0 k ty 0 pt fl to f gt_27 _ ((va_up_ne _ _ (by decide)).trans (va_up_eq _ 94 _)) ((va_up_ne _ _ (by decide)).trans ((va_up_ne _ _ (by decide)).trans hN)) (va_up_eq _ 96 _) hw hcap (by omega)) (cwV 1 K.1.2.2.2.2 gX9_digest_X9_best rfl rfl rfl (by decide +kernel) ⟨Nat.le_of_ble_eq_true rfl, Nat.le_of_ble_eq_true rfl⟩) rfl (Nat.le_of_ble_eq_true rfl) dX9_digest_125 rfl ⟨Nat.le_of_ble_eq_true rfl, Nat.le_of_ble_eq_true rfl⟩ rfl (fun z_28 C_29 hp_125 => ?_)
                    obtain ⟨gt_30, hC_125, hz_125⟩ := hp_125
                    refine z_C hC_125 ?_
                    refine z_top (sBest f p0) hz_125 ?_
                    refine z_C (va_uu _ _ _ _) ?_
                    refine z_i2l 129 K dX9_digest_128 rfl ?_
                    refine z_ladd 130 K dX9_digest_129 rfl ?_
                    refine z_lstore_n (lv' := [(1, .long (((31) * (((31) * (((31) * (((31) * h3) + ((iZ (sRow f p0)).toInt64))) + ((iZ (sDrp f p0 0)).toInt64))) + ((iZ (sDrp f p0 1)).toInt64))) + ((iZ (sBest f p0)).toInt64))), (0, .ref (aD g 94)), (3, .int (iZ p0)), (4, .int (iZ w))]) 131 K dX9_digest_130 rfl rfl (by decide) rfl ?_
                    refine z_iinc (lv' := [(3, .int (iZ (p0 + 1))), (1, .long (((31) * (((31) * (((31) * (((31) * h3) + ((iZ (sRow f p0)).toInt64))) + ((iZ (sDrp f p0 0)).toInt64))) + ((iZ (sDrp f p0 1)).toInt64))) + ((iZ (sBest f p0)).toInt64))), (0, .ref (aD g 94)), (4, .int (iZ w))]) 134 K dX9_digest_131 rfl (p0 + 1) rfl 2 rfl (by decide) rfl ?_
                    refine z_goto (tgt := 38) K dX9_digest_134 (by decide) ?_
                    refine z_sub [2, 1, 0] rfl ?_
                    exact ih_38 gt_30 (((31) * (((31) * (((31) * (((31) * h3) + ((iZ (sRow f p0)).toInt64))) + ((iZ (sDrp f p0 0)).toInt64))) + ((iZ (sDrp f p0 1)).toInt64))) + ((iZ (sBest f p0)).toInt64)) (p0 + 1) (by omega) (by rw [zit_1 _ hkp.1, ← hh2]; unfold sDe; rw [show (6 : Int) = w by omega, ← hh3]; rfl) (by omega)
                  · skip
                    refine z_ldc2l 61 K (31) (by decide +kernel : Cond.constantLong RX9 203 (31) ∈ wsX9_digest) dX9_digest_58 rfl ?_
                    refine z_lload_n 62 K dX9_digest_61 rfl rfl 1 rfl ?_
                    refine z_lmul 63 K dX9_digest_62 rfl ?_
                    refine z_aload_n 64 K dX9_digest_63 rfl rfl 0 rfl ?_
                    refine z_iload_n 65 K dX9_digest_64 rfl rfl 2 rfl ?_
                    refine z_iload 67 K dX9_digest_65 rfl 3 rfl ?_
                    refine z_vVi (As := [.int (iZ p0), .int (iZ w)]) (rest := [.long ((31) * h3)]) 70 K 94 (by decide) ((va_up_ne _ _ (by decide)).trans (va_up_eq _ 94 _)) rfl rfl (m_X9_ofExhibit l g _ p0 w k ty 0 pt fl to f _ ((va_up_ne _ _ (by decide)).trans (va_up_eq _ 94 _)) ((va_up_ne _ _ (by decide)).trans ((va_up_ne _ _ (by decide)).trans hN)) hw hcap (by omega) (by omega)) (cwV 2 K.1.2.2.2.2 gX9_digest_X9_ofExhibit rfl rfl rfl (by decide +kernel) ⟨Nat.le_of_ble_eq_true rfl, Nat.le_of_ble_eq_true rfl⟩) rfl (Nat.le_of_ble_eq_true rfl) dX9_digest_67 rfl ⟨Nat.le_of_ble_eq_true rfl, Nat.le_of_ble_eq_true rfl⟩ rfl (fun z_31 C_32 hp_67 => ?_)
                    refine z_C hp_67.1 ?_
                    refine z_top (sOfE f p0 w) hp_67.2 ?_
                    refine z_i2l 71 K dX9_digest_70 rfl ?_
                    refine z_ladd 72 K dX9_digest_71 rfl ?_
                    refine z_lstore_n (lv' := [(1, .long (((31) * h3) + ((iZ (sOfE f p0 w)).toInt64))), (0, .ref (aD g 94)), (3, .int (iZ p0)), (4, .int (iZ w))]) 73 K dX9_digest_72 rfl rfl (by decide) rfl ?_
                    refine z_iinc (lv' := [(4, .int (iZ (w + 1))), (1, .long (((31) * h3) + ((iZ (sOfE f p0 w)).toInt64))), (0, .ref (aD g 94)), (3, .int (iZ p0))]) 76 K dX9_digest_73 rfl (w + 1) rfl 3 rfl (by decide) rfl ?_
                    refine z_goto (tgt := 51) K dX9_digest_76 (by decide) ?_
                    refine z_sub [2, 1, 3, 0] rfl ?_
                    exact ih_51 (((31) * h3) + ((iZ (sOfE f p0 w)).toInt64)) (w + 1) (by omega) (by rw [zit_1 _ hkw.1, ← hh3]; rfl) (by omega)
              refine z_sub [1, 2, 3, 0] rfl ?_
              exact loop_51 (Int.toNat (6 - 0) + 1) h2 0 (by omega) rfl (by omega)
        refine z_sub [1, 2, 0] rfl ?_
        refine z_C (va_us ((va_up_ne _ _ (by decide)).trans hT)).symm ?_
        exact loop_38 (Int.toNat (f 1 - 0) + 1) ft h1 0 (by omega) (by rw [zit_0, hh1, show w = 9 by omega]; rfl) (by omega)
      · skip
        refine z_ldc2l 20 K (31) (by decide +kernel : Cond.constantLong RX9 203 (31) ∈ wsX9_digest) dX9_digest_17 rfl ?_
        refine z_lload_n 21 K dX9_digest_20 rfl rfl 1 rfl ?_
        refine z_lmul 22 K dX9_digest_21 rfl ?_
        refine z_aload_n 23 K dX9_digest_22 rfl rfl 0 rfl ?_
        refine z_iload_n 24 K dX9_digest_23 rfl rfl 2 rfl ?_
        refine z_vVi (As := [.int (iZ w)]) (rest := [.long ((31) * h1)]) 27 K 94 (by decide) (va_up_eq _ 94 _) rfl rfl (m_X9_counted l g _ w k ty 0 pt fl to f _ (va_up_eq _ 94 _) ((va_up_ne _ _ (by decide)).trans hN) hw hcap (by omega)) (cwV 1 K.1.2.2.2.2 gX9_digest_X9_counted rfl rfl rfl (by decide +kernel) ⟨Nat.le_of_ble_eq_true rfl, Nat.le_of_ble_eq_true rfl⟩) rfl (Nat.le_of_ble_eq_true rfl) dX9_digest_24 rfl ⟨Nat.le_of_ble_eq_true rfl, Nat.le_of_ble_eq_true rfl⟩ rfl (fun z_33 C_34 hp_24 => ?_)
        refine z_C hp_24.1 ?_
        refine z_top (sCnt f k w) hp_24.2 ?_
        refine z_i2l 28 K dX9_digest_27 rfl ?_
        refine z_ladd 29 K dX9_digest_28 rfl ?_
        refine z_lstore_n (lv' := [(1, .long (((31) * h1) + ((iZ (sCnt f k w)).toInt64))), (0, .ref (aD g 94)), (3, .int (iZ w))]) 30 K dX9_digest_29 rfl rfl (by decide) rfl ?_
        refine z_iinc (lv' := [(3, .int (iZ (w + 1))), (1, .long (((31) * h1) + ((iZ (sCnt f k w)).toInt64))), (0, .ref (aD g 94))]) 33 K dX9_digest_30 rfl (w + 1) rfl 2 rfl (by decide) rfl ?_
        refine z_goto (tgt := 11) K dX9_digest_33 (by decide) ?_
        refine z_sub [2, 1, 0] rfl ?_
        exact ih_11 (((31) * h1) + ((iZ (sCnt f k w)).toInt64)) (w + 1) (by omega) (by rw [zit_1 _ hkw.1, ← hh1]; rfl) (by omega)
  refine z_sub [2, 1, 0] rfl ?_
  exact loop_11 (Int.toNat (9 - 0) + 1) (3137) 0 (by omega) rfl (by omega)
end ZDG
