/-! Z: the machine at a place of a method, over a world of zN numbered cells (cell i lies at the address g.2.2.1 i and holds C i); ints are written iZ z, z an integer -/
section ZKA
def iZ (z : Int) : Int32 := Int32.ofInt z
theorem iZ_add (a b : Int) : iZ a + iZ b = iZ (a + b) := (Int32.ofInt_add a b).symm
theorem iZ_sub (a b : Int) : iZ a - iZ b = iZ (a - b) := (Int32.ofInt_sub a b).symm
theorem iZ_mul (a b : Int) : iZ a * iZ b = iZ (a * b) := (Int32.ofInt_mul a b).symm
theorem iZ_neg (a : Int) : - iZ a = iZ (-a) := (Int32.ofInt_neg a).symm
theorem iZ_toInt {a : Int} (h : -2147483648 ≤ a ∧ a < 2147483648) : (iZ a).toInt = a := by
  unfold iZ
  have hs : ((Int32.size : Nat) : Int) = 4294967296 := rfl
  rw [Int32.toInt_ofInt, Int.bmod_eq_of_le (by omega) (by omega)]
theorem iZ_of (x : Int32) : x = iZ x.toInt := (Int32.ofInt_toInt x).symm
theorem iZ_rng (x : Int32) : -2147483648 ≤ x.toInt ∧ x.toInt < 2147483648 := by
  have h1 := Int32.le_toInt x
  have h2 := Int32.toInt_lt x
  omega
theorem iZ_lt {a b : Int} (ha : -2147483648 ≤ a ∧ a < 2147483648) (hb : -2147483648 ≤ b ∧ b < 2147483648) : iZ a < iZ b ↔ a < b := by
  rw [Int32.lt_iff_toInt_lt, iZ_toInt ha, iZ_toInt hb]
theorem iZ_le {a b : Int} (ha : -2147483648 ≤ a ∧ a < 2147483648) (hb : -2147483648 ≤ b ∧ b < 2147483648) : iZ a ≤ iZ b ↔ a ≤ b := by
  rw [Int32.le_iff_toInt_le, iZ_toInt ha, iZ_toInt hb]
theorem iZ_eq {a b : Int} (ha : -2147483648 ≤ a ∧ a < 2147483648) (hb : -2147483648 ≤ b ∧ b < 2147483648) : iZ a = iZ b ↔ a = b :=
  ⟨fun h => by have h2 := congrArg Int32.toInt h; rwa [iZ_toInt ha, iZ_toInt hb] at h2, fun h => by rw [h]⟩
theorem iZ_0 : (0 : Int32) = iZ 0 := rfl
theorem iZ_cl {a : Int} (h : -2147483648 ≤ a ∧ a < 2147483648) : (iZ a).toNatClampNeg = a.toNat := by
  show (iZ a).toInt.toNat = a.toNat
  rw [iZ_toInt h]
theorem iZ_in {i : Int} {n : Nat} (h0 : 0 ≤ i) (h1 : i < n) (hn : (n : Int) < 2147483648) : vp_in (iZ i) n := by
  rw [vp_in_iff, iZ_toInt ⟨by omega, by omega⟩]
  exact ⟨h0, h1⟩
/-- a row of ints, by a function of integers -/
def zAr (f : Int → Int) : Nat → Int32 := fun k => iZ (f k)
def zu (f : Int → Int) (i v : Int) : Int → Int := fun j => if j = i then v else f j
theorem zu_eq (f : Int → Int) (i v : Int) : zu f i v i = v := by simp [zu]
theorem zu_ne (f : Int → Int) {i j : Int} (v : Int) (h : j ≠ i) : zu f i v j = f j := by simp [zu, h]
theorem zAr_upd (f : Int → Int) {i : Int} (v : Int) (h : 0 ≤ i) : upd (zAr f) i.toNat (iZ v) = zAr (zu f i v) := by
  funext k
  simp only [upd, zAr, zu]
  by_cases hk : k = i.toNat
  · rw [if_pos hk, if_pos (by omega)]
  · rw [if_neg hk, if_neg (by omega)]
theorem zAr_get (f : Int → Int) {i : Int} (h : 0 ≤ i) : zAr f i.toNat = iZ (f i) := by
  unfold zAr
  rw [Int.toNat_of_nonneg h]
def zcpy (f g : Int → Int) (sp dp n : Int) : Int → Int := fun k => if dp ≤ k ∧ k < dp + n then f (sp + (k - dp)) else g k
theorem zAr_cpy (f g : Int → Int) {sp dp n : Int} (h1 : 0 ≤ sp) (h2 : 0 ≤ dp) (h3 : 0 ≤ n) : va_cpy (zAr f) (zAr g) sp.toNat dp.toNat n.toNat = zAr (zcpy f g sp dp n) := by
  funext k
  simp only [va_cpy, zAr, zcpy]
  by_cases hk : dp.toNat ≤ k ∧ k < dp.toNat + n.toNat
  · rw [if_pos hk, if_pos (by omega)]
    congr 2
    omega
  · rw [if_neg hk, if_neg (by omega)]
theorem va_up_eq (f : Nat → va_E) (k : Nat) (v : va_E) : va_up f k v k = v := by simp [va_up]
theorem va_uu (f : Nat → va_E) (k : Nat) (v w : va_E) : va_up (va_up f k v) k w = va_up f k w := by
  funext j
  simp only [va_up]
  by_cases h : j = k
  · rw [if_pos h, if_pos h]
  · rw [if_neg h, if_neg h, if_neg h]
theorem va_ur1 {f : Nat → va_E} {q q1 : Nat} {a b : va_E} (h1 : q1 ≠ q) : va_up (va_up f q a) q1 b = va_up (va_up f q1 b) q a := by
  funext j
  simp only [va_up]
  by_cases h : j = q
  · subst h
    rw [if_pos rfl, if_neg (Ne.symm h1), if_pos rfl]
  · rw [if_neg h, if_neg h]
theorem va_ur2 {f : Nat → va_E} {q q1 q2 : Nat} {a b1 b2 : va_E} (h1 : q1 ≠ q) (h2 : q2 ≠ q) : va_up (va_up (va_up f q a) q1 b1) q2 b2 = va_up (va_up (va_up f q1 b1) q2 b2) q a := by rw [va_ur1 h1, va_ur1 h2]
theorem va_ur3 {f : Nat → va_E} {q q1 q2 q3 : Nat} {a b1 b2 b3 : va_E} (h1 : q1 ≠ q) (h2 : q2 ≠ q) (h3 : q3 ≠ q) : va_up (va_up (va_up (va_up f q a) q1 b1) q2 b2) q3 b3 = va_up (va_up (va_up (va_up f q1 b1) q2 b2) q3 b3) q a := by rw [va_ur2 h1 h2, va_ur1 h3]
theorem va_ur4 {f : Nat → va_E} {q q1 q2 q3 q4 : Nat} {a b1 b2 b3 b4 : va_E} (h1 : q1 ≠ q) (h2 : q2 ≠ q) (h3 : q3 ≠ q) (h4 : q4 ≠ q) : va_up (va_up (va_up (va_up (va_up f q a) q1 b1) q2 b2) q3 b3) q4 b4 = va_up (va_up (va_up (va_up (va_up f q1 b1) q2 b2) q3 b3) q4 b4) q a := by rw [va_ur3 h1 h2 h3, va_ur1 h4]
theorem va_uu1 {f : Nat → va_E} {q q1 : Nat} {a b c : va_E} (h1 : q1 ≠ q) : va_up (va_up (va_up f q a) q1 b) q c = va_up (va_up f q1 b) q c := by rw [va_ur1 h1, va_uu]
theorem va_uu2 {f : Nat → va_E} {q q1 q2 : Nat} {a b1 b2 c : va_E} (h1 : q1 ≠ q) (h2 : q2 ≠ q) : va_up (va_up (va_up (va_up f q a) q1 b1) q2 b2) q c = va_up (va_up (va_up f q1 b1) q2 b2) q c := by rw [va_ur2 h1 h2, va_uu]
theorem va_uu3 {f : Nat → va_E} {q q1 q2 q3 : Nat} {a b1 b2 b3 c : va_E} (h1 : q1 ≠ q) (h2 : q2 ≠ q) (h3 : q3 ≠ q) : va_up (va_up (va_up (va_up (va_up f q a) q1 b1) q2 b2) q3 b3) q c = va_up (va_up (va_up (va_up f q1 b1) q2 b2) q3 b3) q c := by rw [va_ur3 h1 h2 h3, va_uu]
theorem va_uu4 {f : Nat → va_E} {q q1 q2 q3 q4 : Nat} {a b1 b2 b3 b4 c : va_E} (h1 : q1 ≠ q) (h2 : q2 ≠ q) (h3 : q3 ≠ q) (h4 : q4 ≠ q) : va_up (va_up (va_up (va_up (va_up (va_up f q a) q1 b1) q2 b2) q3 b3) q4 b4) q c = va_up (va_up (va_up (va_up (va_up f q1 b1) q2 b2) q3 b3) q4 b4) q c := by rw [va_ur4 h1 h2 h3 h4, va_uu]
theorem va_us {f : Nat → va_E} {q : Nat} {c : va_E} (h : f q = c) : va_up f q c = f := by
  funext j
  simp only [va_up]
  by_cases hj : j = q
  · rw [if_pos hj, hj, h]
  · rw [if_neg hj]
theorem zb_nar {v : Int} (h : v = 0 ∨ v = 1) : narrow .boolean (.int (iZ v)) = .int (iZ v) := by rcases h with rfl | rfl <;> rfl
theorem zb_fit {v : Int} (h : v = 0 ∨ v = 1) : fits .boolean (.int (iZ v)) = true := by rcases h with rfl | rfl <;> rfl
abbrev zG : Type := va_G × (ClassId × ClassId × ClassId × ClassId) × (Nat → Nat) × Nat
def zN : Nat := 94
abbrev zTys (g : zG) : List (ClassId × FieldType) := [(g.2.1.1, .int), (g.2.1.2.1, .boolean), (g.2.1.2.2.1, .object RX4)]
def zA (g : zG) : Nat → Prop := fun q => g.2.2.2 ≤ q
def zWs (g : zG) (C : Nat → va_E) : va_W := (List.range zN).map (fun i => (g.2.2.1 i, C i))
abbrev aD (g : zG) (q : Nat) : Nat := g.2.2.1 q
theorem zWs_get (g : zG) (C : Nat → va_E) {q : Nat} (h : q < zN) : (zWs g C)[q]? = some (aD g q, C q) := by
  simp [zWs, List.getElem?_map, List.getElem?_range h]
theorem zWs_set (g : zG) (C : Nat → va_E) (q : Nat) (e : va_E) : (zWs g C).set q (aD g q, e) = zWs g (va_up C q e) := by
  apply List.ext_getElem?
  intro k
  simp only [zWs]
  rw [List.getElem?_set]
  by_cases hk : q = k
  · subst hk
    simp only [if_true, List.length_map, List.length_range, List.getElem?_map]
    by_cases hq : q < zN
    · rw [if_pos hq, List.getElem?_range hq]
      simp [va_up]
    · rw [if_neg hq, List.getElem?_eq_none (by simpa using hq)]
      rfl
  · rw [if_neg hk]
    simp only [List.getElem?_map]
    by_cases hq : k < zN
    · rw [List.getElem?_range hq]
      simp [va_up, Ne.symm hk]
    · rw [List.getElem?_eq_none (by simpa using hq)]
      rfl
def zW (g : zG) (C : Nat → va_E) (H : Heap) : Prop := va_P g.1 vwCl (zWs g C) H ∧ va_D (zA g) (zWs g C)
theorem zW_size {g : zG} {C : Nat → va_E} {H : Heap} (h : zW g C H) : ∀ q, H.size ≤ q → zA g q := by
  have h0 : (zWs g C)[0]? = some (aD g 0, C 0) := zWs_get g C (by decide)
  have h1 := (h.1 0 _ h0).lt
  have h2 : g.2.2.2 ≤ aD g 0 := h.2.2 0 _ h0
  intro q hq
  show g.2.2.2 ≤ q
  have h3 : aD g 0 < H.size := h1
  omega
abbrev eI (g : zG) (n : Nat) (f : Int → Int) : va_E := .inl (g.2.1.1, n, .inl (zAr f))
abbrev eZ (g : zG) (n : Nat) (f : Int → Int) : va_E := .inl (g.2.1.2.1, n, .inl (zAr f))
abbrev eS (g : zG) (n : Nat) (f : Nat → Option Nat) : va_E := .inl (g.2.1.2.2.1, n, .inr (.inr (.inr (.inr f))))
abbrev eJ (g : zG) (n : Nat) (f : Nat → Int64) : va_E := .inl (g.2.1.2.2.2, n, .inr (.inl f))
/-- the words of the tables that no list of a method holds -/
def zStr : List (String × Nat × String) := [("BriefBuilder", 101, "there is no exhibit behind this one"), ("BriefBuilder", 108, "the exhibit would have too many pages"), ("BriefBuilder", 122, "the exhibit can't be split behind this page"), ("BriefBuilder", 134, "the paragraph has all citations that it may have"), ("BriefBuilder", 172, "a binder can't take so many pages"), ("BriefBuilder", 206, "there is no saved state"), ("BriefBuilder", 211, "places are numbered from 0"), ("BriefBuilder", 229, "citations are numbered from 0"), ("BriefBuilder", 342, "there is no exhibit at this place"), ("BriefBuilder", 344, "no exhibit can be put at this place"), ("BriefBuilder", 346, "there are all exhibits that there may be"), ("BriefBuilder", 348, "there is no such paragraph"), ("BriefBuilder", 350, "pages are 1 to 60"), ("BriefBuilder", 352, "there is no such number to tell")]
def zBad : List Cond := [.castable "java/lang/IndexOutOfBoundsException" "java/lang/IndexOutOfBoundsException", .castable "java/lang/IllegalArgumentException" "java/lang/IllegalArgumentException", .castable "java/lang/IllegalStateException" "java/lang/IllegalStateException", .declares ⟨"java/lang/RuntimeException", "<init>", "(Ljava/lang/String;)V"⟩, .declares ⟨"java/lang/Exception", "<init>", "(Ljava/lang/String;)V"⟩, .declares ⟨"java/lang/Throwable", "<init>", "(Ljava/lang/String;)V"⟩]
theorem zBad_tab {w : Cond} (h : w ∈ zBad) : w.onTables = true := by
  simp only [zBad, List.mem_cons, List.not_mem_nil, or_false] at h
  rcases h with rfl | rfl | rfl | rfl | rfl | rfl <;> rfl
theorem zBad_warm {w : Cond} (h : w ∈ zBad) {s U : State} (hW : s.WarmedH U.vm) (hN : va_Nw w s) : va_Nw w U := by
  simp only [zBad, List.mem_cons, List.not_mem_nil, or_false] at h
  rcases h with rfl | rfl | rfl | rfl | rfl | rfl
  · exact va_Nw.warmC hW hN
  · exact va_Nw.warmC hW hN
  · exact va_Nw.warmC hW hN
  · exact va_Nw.warmD hW hN
  · exact va_Nw.warmD hW hN
  · exact va_Nw.warmD hW hN
def zKK (g : zG) (U : State) : Prop := va_K g.1 vwCl (zTys g) U ∧ va_Nw (.methodLinkNest RX0 27 yX8_cellOf RX8) U ∧ va_Nw (.methodLinkNest RX7 66 yX8_cellOf RX8) U ∧
  vx_Zq Bundle.tN "UNASSIGNED_STACK" Bundle.steD (zA g) U U.heap ∧ vx_Zq Bundle.tN "SUPPRESSED_SENTINEL" Bundle.listD (zA g) U U.heap ∧
  (∀ q ∈ zStr, ∃ sa, vk_R q.1 q.2.1 q.2.2 sa U) ∧ (∀ w ∈ zBad, va_Nw w U)
theorem zKK.warm {g : zG} {s U : State} {H : Heap} {locs : List Loc} (h : zKK g s) (hS : va_S (zA g) s.heap H locs) (hH : U.heap = H) (hW : s.WarmedH U.vm) : zKK g U := by
  obtain ⟨h1, h2, h3, h4, h5, h6, h7⟩ := h
  have hk : ∀ a : Nat, a < s.heap.size → ¬ zA g a → H[a]? = s.heap[a]? := hS.2.1
  refine ⟨va_K.moved hW.alike h1, va_Nw.warmM hW h2, va_Nw.warmM hW h3, ?_, ?_, fun q hq => ?_, fun w hw => zBad_warm hw hW (h7 w hw)⟩
  · rw [hH]; exact (h4.kept hk).moved hW.alike
  · rw [hH]; exact (h5.kept hk).moved hW.alike
  · obtain ⟨sa, h⟩ := h6 q hq
    exact ⟨sa, vk_R.warm hW h⟩
theorem zKK.call {g : zG} {U : State} {f : JFrame} {mk : MethodId} {a : Array Value} (h : zKK g U) : zKK g (U.calling f mk a) := by
  obtain ⟨h1, h2, h3, h4, h5, h6, h7⟩ := h
  refine ⟨va_K.moved (u := U) (U := U.calling f mk a) (Vm.Alike.refl U.vm) h1, va_Nw.same rfl (u := U) rfl h2, va_Nw.same rfl (u := U) rfl h3, vx_Zq.moved (u := U) (Vm.Alike.refl U.vm) h4, vx_Zq.moved (u := U) (Vm.Alike.refl U.vm) h5, fun q hq => ?_, fun w hw => va_Nw.same (zBad_tab hw) (u := U) rfl (h7 w hw)⟩
  obtain ⟨sa, h⟩ := h6 q hq
  exact ⟨sa, vk_R.same (u := U) rfl h⟩
/-- what holds all through a method -/
def zF (p : Program) (m : MethodId) (meth : Method) (c : Code) (cc : ByteArray) (nL : Nat) (ret : Option FieldType) (s : State) (args : Array Value) (Ts : List Cond) (own : String) (g : zG) : Prop :=
  CallFix p m c cc nL s args Ts own ∧ meth.sig.returnType = ret ∧ meth.locks = false ∧ zKK g s
def Z (p : Program) (l : Launch) (e : Env) (R : Room) (s : State) (m : MethodId) (args : Array Value) (below : List Frame) (meth : Method) (c : Code) (Q : State → Prop) (g : zG) (nL kc ks : Nat) (C : Nat → va_E) (lv : List (Nat × Value)) (pc : Nat) (st : List Value) : Prop :=
  ∀ (H : Heap) (locs : List Loc) (ls : Array Slot), zW g C H → va_S (zA g) s.heap H locs → lv_has ls nL lv → W p l e R s m args below meth c H locs kc ks Q (F0 m pc ls st)
/-- the same, with an exception under way -/
def ZX (p : Program) (l : Launch) (e : Env) (R : Room) (s : State) (m : MethodId) (args : Array Value) (below : List Frame) (meth : Method) (c : Code) (Q : State → Prop) (g : zG) (nL kc ks : Nat) (C : Nat → va_E) (lv : List (Nat × Value)) (pc : Nat) (st : List Value) (E : String) : Prop :=
  ∀ (H : Heap) (locs : List Loc) (ls : Array Slot) (ce : Cell) (q : Addr), zW g C H → va_S (zA g) s.heap H locs → lv_has ls nL lv → H[q]? = some ce → ce.vm = .none → s.vm.findClass E = some ce.cls → vx_W p l e R s m args below meth c H locs kc ks Q (F0 m pc ls st) q
def zPre (g : zG) (C : Nat → va_E) (av : List Value) : Array Value → State → Prop := va_Pc av (fun U => zW g C U.heap ∧ zKK g U)
def zQi (g : zG) (post : Int → (Nat → va_E) → Prop) : Array Value → State → Outcome → State → Prop := va_Qi (S := Nat → va_E) (fun r C' => ∃ z, r = iZ z ∧ post z C') (fun C' t => zW g C' t.heap) (zA g)
def zQl (g : zG) (post : Int64 → (Nat → va_E) → Prop) : Array Value → State → Outcome → State → Prop := va_Ql (S := Nat → va_E) post (fun C' t => zW g C' t.heap) (zA g)
def zQd (g : zG) (post : UInt64 → (Nat → va_E) → Prop) : Array Value → State → Outcome → State → Prop := va_Qd (S := Nat → va_E) post (fun C' t => zW g C' t.heap) (zA g)
def zQv (g : zG) (post : (Nat → va_E) → Prop) : Array Value → State → Outcome → State → Prop := va_Qv (S := Nat → va_E) post (fun C' t => zW g C' t.heap) (zA g)
def zX (g : zG) (px : String → (Nat → va_E) → Prop) : String → State → State → Prop := vx_X (S := Nat → va_E) (fun _ => True) (fun E C' t => px E C' ∧ zW g C' t.heap) (zA g)
theorem zPre_blind (g : zG) (C : Nat → va_E) (av : List Value) : FrameBlind (zPre g C av) := fun _ _ _ _ q => ⟨q.1, q.2.1, q.2.2.call⟩
theorem z_enter {l : Launch} {g : zG} {y : MethodName} {ws ws' : List Cond} {rm : Room} {av : List Value} {C : Nat → va_E} {cc : ByteArray} {nL mc ms : Nat} {ret : Option FieldType} {Qc : Array Value → State → Outcome → State → Prop} (own : String) (hown : y.cls = own) (hy : plainName y.cls = true) (hw : ws = Cond.code y cc nL ret :: ws') (hlen : (lg_sl av).length ≤ nL)
    (body : ∀ p e s m args below meth c, zF p m meth c cc nL ret s args ws own g → args = av.toArray → Z p l e rm s m args below meth c (MQ below Qc args s mc ms (zA g)) g nL 0 0 C (lv_args 0 av) 0 []) : Met l y ws rm (zPre g C av) Qc mc ms (zA g) := by
  refine Met.ofW hy hw ?_
  intro p e s m args below meth c s₁ B hml hv
  obtain ⟨rfl, hW, hK⟩ := hv
  have hts := atoms_spec (ws := ws) B.pre
  have hfc : s.vm.findClass own = some m.cls := hown ▸ findClass_of_methodNamed B.named
  rw [lg_entry_eq]
  exact body p e s m _ below meth c ⟨⟨B.exec, B.bytes, hml, hfc, hts⟩, B.returns, B.notSynchronized, hK⟩ rfl s.heap [] _ hW va_S.rf (lv_entry av hlen)
theorem z_enterX {l : Launch} {g : zG} {y : MethodName} {ws ws' : List Cond} {rm : Room} {av : List Value} {C : Nat → va_E} {cc : ByteArray} {nL mc ms : Nat} {ret : Option FieldType} {Qc : Array Value → State → Outcome → State → Prop} {XC : String → State → State → Prop} (own : String) (hown : y.cls = own) (hy : plainName y.cls = true) (hw : ws = Cond.code y cc nL ret :: ws') (hlen : (lg_sl av).length ≤ nL)
    (body : ∀ p e s m args below meth c, zF p m meth c cc nL ret s args ws own g → args = av.toArray → (∀ x ∈ c.exceptionTable.toList, False) → Z p l e rm s m args below meth c (vx_MQ below Qc XC args s mc ms (zA g)) g nL 0 0 C (lv_args 0 av) 0 []) : vx_Met l y ws rm (zPre g C av) Qc XC mc ms (zA g) := by
  refine vx_ofW hy hw ?_
  intro p e s m args below meth c s₁ B hml ht hv
  obtain ⟨rfl, hW, hK⟩ := hv
  have hts := atoms_spec (ws := ws) B.pre
  have hfc : s.vm.findClass own = some m.cls := hown ▸ findClass_of_methodNamed B.named
  rw [lg_entry_eq]
  exact body p e s m _ below meth c ⟨⟨B.exec, B.bytes, hml, hfc, hts⟩, B.returns, B.notSynchronized, hK⟩ rfl ht s.heap [] _ hW va_S.rf (lv_entry av hlen)
end ZKA
section ZKB
variable {p : Program} {l : Launch} {e : Env} {R : Room} {s : State} {m : MethodId} {args : Array Value} {below : List Frame} {meth : Method} {c : Code} {Q : State → Prop} {g : zG} {cc : ByteArray} {nL kc ks : Nat} {ret : Option FieldType} {Ts : List Cond} {own : String} {C : Nat → va_E} {lv : List (Nat × Value)} {pc : Nat} {st : List Value}
theorem z_eq {pc' : Nat} {st' : List Value} (h1 : pc = pc') (h2 : st = st') (k : Z p l e R s m args below meth c Q g nL kc ks C lv pc' st') : Z p l e R s m args below meth c Q g nL kc ks C lv pc st := by subst h1; subst h2; exact k
theorem z_top {a : Int} (b : Int) (h : a = b) (k : Z p l e R s m args below meth c Q g nL kc ks C lv pc (.int (iZ b) :: st)) : Z p l e R s m args below meth c Q g nL kc ks C lv pc (.int (iZ a) :: st) := by subst h; exact k
theorem z_raw {x : Int32} (b : Int) (h : x = iZ b) (k : Z p l e R s m args below meth c Q g nL kc ks C lv pc (.int (iZ b) :: st)) : Z p l e R s m args below meth c Q g nL kc ks C lv pc (.int x :: st) := by subst h; exact k
/-- the top of the stack gets a name -/
theorem z_nam {a : Int} (k : ∀ b : Int, b = a → Z p l e R s m args below meth c Q g nL kc ks C lv pc (.int (iZ b) :: st)) : Z p l e R s m args below meth c Q g nL kc ks C lv pc (.int (iZ a) :: st) := k a rfl
theorem z_wid {kc' ks' : Nat} (h1 : kc ≤ kc') (h2 : ks ≤ ks') (k : Z p l e R s m args below meth c Q g nL kc' ks' C lv pc st) : Z p l e R s m args below meth c Q g nL kc ks C lv pc st := fun H locs ls hW hS hl => (k H locs ls hW hS hl).widen h1 h2
theorem z_sub (is : List Nat) {lv' : List (Nat × Value)} (h : lv_pick lv is = lv') (k : Z p l e R s m args below meth c Q g nL kc ks C lv' pc st) : Z p l e R s m args below meth c Q g nL kc ks C lv pc st := fun H locs ls hW hS hl => k H locs ls hW hS (lv_sub hl is h)
theorem z_C {C' : Nat → va_E} (h : C = C') (k : Z p l e R s m args below meth c Q g nL kc ks C' lv pc st) : Z p l e R s m args below meth c Q g nL kc ks C lv pc st := by subst h; exact k

theorem z_iconst (n : Nat) (K : zF p m meth c cc nL ret s args Ts own g) {a : Int} (hdg : decode cc pc = .ok (.iconst a, 1)) (hpc : pc + 1 = n)  (k : Z p l e R s m args below meth c Q g nL kc ks C lv n (.int (iZ a) :: st)) : Z p l e R s m args below meth c Q g nL kc ks C lv pc (st) := by
  subst hpc
  intro H locs ls hW hS hl
  exact lv_iconst K.1.1 K.1.2.1 hdg rfl (k H locs ls hW hS hl)
theorem z_bipush (n : Nat) (K : zF p m meth c cc nL ret s args Ts own g) {a : Int} (hdg : decode cc pc = .ok (.bipush a, 2)) (hpc : pc + 2 = n) (hv : (Int8.ofInt a).toInt32 = iZ a) (k : Z p l e R s m args below meth c Q g nL kc ks C lv n (.int (iZ a) :: st)) : Z p l e R s m args below meth c Q g nL kc ks C lv pc (st) := by
  subst hpc
  intro H locs ls hW hS hl
  exact lv_bipush K.1.1 K.1.2.1 hdg hv (k H locs ls hW hS hl)
theorem z_sipush (n : Nat) (K : zF p m meth c cc nL ret s args Ts own g) {a : Int} (hdg : decode cc pc = .ok (.sipush a, 3)) (hpc : pc + 3 = n) (hv : (Int16.ofInt a).toInt32 = iZ a) (k : Z p l e R s m args below meth c Q g nL kc ks C lv n (.int (iZ a) :: st)) : Z p l e R s m args below meth c Q g nL kc ks C lv pc (st) := by
  subst hpc
  intro H locs ls hW hS hl
  exact lv_sipush K.1.1 K.1.2.1 hdg hv (k H locs ls hW hS hl)
theorem z_iload_n (n : Nat) (K : zF p m meth c cc nL ret s args Ts own g) {kk : Fin 4} {i : Nat} {x : Int32} (hdg : decode cc pc = .ok (.iload_n kk, 1)) (hpc : pc + 1 = n) (hi : (kk : Nat) = i) (j : Nat) (hj : lv[j]? = some (i, .int x)) (k : Z p l e R s m args below meth c Q g nL kc ks C lv n (.int x :: st)) : Z p l e R s m args below meth c Q g nL kc ks C lv pc (st) := by
  subst hpc
  intro H locs ls hW hS hl
  exact lv_iload_n K.1.1 K.1.2.1 hdg hi (lv_at hl j hj) (k H locs ls hW hS hl)
theorem z_iload (n : Nat) (K : zF p m meth c cc nL ret s args Ts own g) {i : Nat} {x : Int32} (hdg : decode cc pc = .ok (.iload i, 2)) (hpc : pc + 2 = n) (j : Nat) (hj : lv[j]? = some (i, .int x)) (k : Z p l e R s m args below meth c Q g nL kc ks C lv n (.int x :: st)) : Z p l e R s m args below meth c Q g nL kc ks C lv pc (st) := by
  subst hpc
  intro H locs ls hW hS hl
  exact lv_iload K.1.1 K.1.2.1 hdg (lv_at hl j hj) (k H locs ls hW hS hl)
theorem z_aload_n (n : Nat) (K : zF p m meth c cc nL ret s args Ts own g) {kk : Fin 4} {i : Nat} {x : Nat} (hdg : decode cc pc = .ok (.aload_n kk, 1)) (hpc : pc + 1 = n) (hi : (kk : Nat) = i) (j : Nat) (hj : lv[j]? = some (i, .ref x)) (k : Z p l e R s m args below meth c Q g nL kc ks C lv n (.ref x :: st)) : Z p l e R s m args below meth c Q g nL kc ks C lv pc (st) := by
  subst hpc
  intro H locs ls hW hS hl
  exact lv_aload_n K.1.1 K.1.2.1 hdg hi (lv_at hl j hj) (k H locs ls hW hS hl)
theorem z_aload (n : Nat) (K : zF p m meth c cc nL ret s args Ts own g) {i : Nat} {x : Nat} (hdg : decode cc pc = .ok (.aload i, 2)) (hpc : pc + 2 = n) (j : Nat) (hj : lv[j]? = some (i, .ref x)) (k : Z p l e R s m args below meth c Q g nL kc ks C lv n (.ref x :: st)) : Z p l e R s m args below meth c Q g nL kc ks C lv pc (st) := by
  subst hpc
  intro H locs ls hW hS hl
  exact lv_aload K.1.1 K.1.2.1 hdg (lv_at hl j hj) (k H locs ls hW hS hl)
theorem z_lload_n (n : Nat) (K : zF p m meth c cc nL ret s args Ts own g) {kk : Fin 4} {i : Nat} {x : Int64} (hdg : decode cc pc = .ok (.lload_n kk, 1)) (hpc : pc + 1 = n) (hi : (kk : Nat) = i) (j : Nat) (hj : lv[j]? = some (i, .long x)) (k : Z p l e R s m args below meth c Q g nL kc ks C lv n (.long x :: st)) : Z p l e R s m args below meth c Q g nL kc ks C lv pc (st) := by
  subst hpc
  intro H locs ls hW hS hl
  exact lv_lload_n K.1.1 K.1.2.1 hdg hi (lv_at hl j hj) (k H locs ls hW hS hl)
theorem z_lload (n : Nat) (K : zF p m meth c cc nL ret s args Ts own g) {i : Nat} {x : Int64} (hdg : decode cc pc = .ok (.lload i, 2)) (hpc : pc + 2 = n) (j : Nat) (hj : lv[j]? = some (i, .long x)) (k : Z p l e R s m args below meth c Q g nL kc ks C lv n (.long x :: st)) : Z p l e R s m args below meth c Q g nL kc ks C lv pc (st) := by
  subst hpc
  intro H locs ls hW hS hl
  exact lv_lload K.1.1 K.1.2.1 hdg (lv_at hl j hj) (k H locs ls hW hS hl)
theorem z_dload_n (n : Nat) (K : zF p m meth c cc nL ret s args Ts own g) {kk : Fin 4} {i : Nat} {x : UInt64} (hdg : decode cc pc = .ok (.dload_n kk, 1)) (hpc : pc + 1 = n) (hi : (kk : Nat) = i) (j : Nat) (hj : lv[j]? = some (i, .double x)) (k : Z p l e R s m args below meth c Q g nL kc ks C lv n (.double x :: st)) : Z p l e R s m args below meth c Q g nL kc ks C lv pc (st) := by
  subst hpc
  intro H locs ls hW hS hl
  exact lv_dload_n K.1.1 K.1.2.1 hdg hi (lv_at hl j hj) (k H locs ls hW hS hl)
theorem z_dload (n : Nat) (K : zF p m meth c cc nL ret s args Ts own g) {i : Nat} {x : UInt64} (hdg : decode cc pc = .ok (.dload i, 2)) (hpc : pc + 2 = n) (j : Nat) (hj : lv[j]? = some (i, .double x)) (k : Z p l e R s m args below meth c Q g nL kc ks C lv n (.double x :: st)) : Z p l e R s m args below meth c Q g nL kc ks C lv pc (st) := by
  subst hpc
  intro H locs ls hW hS hl
  exact lv_dload K.1.1 K.1.2.1 hdg (lv_at hl j hj) (k H locs ls hW hS hl)
theorem z_istore_n (n : Nat) (K : zF p m meth c cc nL ret s args Ts own g) {kk : Fin 4} {i : Nat} {x : Int32} {lv' : List (Nat × Value)} (hdg : decode cc pc = .ok (.istore_n kk, 1)) (hpc : pc + 1 = n) (hi : (kk : Nat) = i) (hn : i < nL) (hl2 : (i, Value.int x) :: lv.filter (fun q => !(q.1 == i) && !(q.1 + 1 == i && q.2.category == 2)) = lv') (k : Z p l e R s m args below meth c Q g nL kc ks C lv' n (st)) : Z p l e R s m args below meth c Q g nL kc ks C lv pc (.int x :: st) := by
  subst hpc
  intro H locs ls hW hS hl
  exact lv_istore_n K.1.1 K.1.2.1 hdg hi hl hn hl2 (fun ls2 hl2 => k H locs ls2 hW hS hl2)
theorem z_istore (n : Nat) (K : zF p m meth c cc nL ret s args Ts own g) {i : Nat} {x : Int32} {lv' : List (Nat × Value)} (hdg : decode cc pc = .ok (.istore i, 2)) (hpc : pc + 2 = n) (hn : i < nL) (hl2 : (i, Value.int x) :: lv.filter (fun q => !(q.1 == i) && !(q.1 + 1 == i && q.2.category == 2)) = lv') (k : Z p l e R s m args below meth c Q g nL kc ks C lv' n (st)) : Z p l e R s m args below meth c Q g nL kc ks C lv pc (.int x :: st) := by
  subst hpc
  intro H locs ls hW hS hl
  exact lv_istore K.1.1 K.1.2.1 hdg hl hn hl2 (fun ls2 hl2 => k H locs ls2 hW hS hl2)
theorem z_astore_n (n : Nat) (K : zF p m meth c cc nL ret s args Ts own g) {kk : Fin 4} {i : Nat} {x : Nat} {lv' : List (Nat × Value)} (hdg : decode cc pc = .ok (.astore_n kk, 1)) (hpc : pc + 1 = n) (hi : (kk : Nat) = i) (hn : i < nL) (hl2 : (i, Value.ref x) :: lv.filter (fun q => !(q.1 == i) && !(q.1 + 1 == i && q.2.category == 2)) = lv') (k : Z p l e R s m args below meth c Q g nL kc ks C lv' n (st)) : Z p l e R s m args below meth c Q g nL kc ks C lv pc (.ref x :: st) := by
  subst hpc
  intro H locs ls hW hS hl
  exact lv_astore_n K.1.1 K.1.2.1 hdg hi hl hn hl2 (fun ls2 hl2 => k H locs ls2 hW hS hl2)
theorem z_astore (n : Nat) (K : zF p m meth c cc nL ret s args Ts own g) {i : Nat} {x : Nat} {lv' : List (Nat × Value)} (hdg : decode cc pc = .ok (.astore i, 2)) (hpc : pc + 2 = n) (hn : i < nL) (hl2 : (i, Value.ref x) :: lv.filter (fun q => !(q.1 == i) && !(q.1 + 1 == i && q.2.category == 2)) = lv') (k : Z p l e R s m args below meth c Q g nL kc ks C lv' n (st)) : Z p l e R s m args below meth c Q g nL kc ks C lv pc (.ref x :: st) := by
  subst hpc
  intro H locs ls hW hS hl
  exact lv_astore K.1.1 K.1.2.1 hdg hl hn hl2 (fun ls2 hl2 => k H locs ls2 hW hS hl2)
theorem z_lstore_n (n : Nat) (K : zF p m meth c cc nL ret s args Ts own g) {kk : Fin 4} {i : Nat} {x : Int64} {lv' : List (Nat × Value)} (hdg : decode cc pc = .ok (.lstore_n kk, 1)) (hpc : pc + 1 = n) (hi : (kk : Nat) = i) (hn : i + 1 < nL) (hl2 : (i, Value.long x) :: lv.filter (fun q => !(q.1 == i) && (!(q.1 == i + 1) && !(q.1 + 1 == i && q.2.category == 2))) = lv') (k : Z p l e R s m args below meth c Q g nL kc ks C lv' n (st)) : Z p l e R s m args below meth c Q g nL kc ks C lv pc (.long x :: st) := by
  subst hpc
  intro H locs ls hW hS hl
  exact lv_lstore_n K.1.1 K.1.2.1 hdg hi hl hn hl2 (fun ls2 hl2 => k H locs ls2 hW hS hl2)
theorem z_lstore (n : Nat) (K : zF p m meth c cc nL ret s args Ts own g) {i : Nat} {x : Int64} {lv' : List (Nat × Value)} (hdg : decode cc pc = .ok (.lstore i, 2)) (hpc : pc + 2 = n) (hn : i + 1 < nL) (hl2 : (i, Value.long x) :: lv.filter (fun q => !(q.1 == i) && (!(q.1 == i + 1) && !(q.1 + 1 == i && q.2.category == 2))) = lv') (k : Z p l e R s m args below meth c Q g nL kc ks C lv' n (st)) : Z p l e R s m args below meth c Q g nL kc ks C lv pc (.long x :: st) := by
  subst hpc
  intro H locs ls hW hS hl
  exact lv_lstore K.1.1 K.1.2.1 hdg hl hn hl2 (fun ls2 hl2 => k H locs ls2 hW hS hl2)
theorem z_dstore_n (n : Nat) (K : zF p m meth c cc nL ret s args Ts own g) {kk : Fin 4} {i : Nat} {x : UInt64} {lv' : List (Nat × Value)} (hdg : decode cc pc = .ok (.dstore_n kk, 1)) (hpc : pc + 1 = n) (hi : (kk : Nat) = i) (hn : i + 1 < nL) (hl2 : (i, Value.double x) :: lv.filter (fun q => !(q.1 == i) && (!(q.1 == i + 1) && !(q.1 + 1 == i && q.2.category == 2))) = lv') (k : Z p l e R s m args below meth c Q g nL kc ks C lv' n (st)) : Z p l e R s m args below meth c Q g nL kc ks C lv pc (.double x :: st) := by
  subst hpc
  intro H locs ls hW hS hl
  exact lv_dstore_n K.1.1 K.1.2.1 hdg hi hl hn hl2 (fun ls2 hl2 => k H locs ls2 hW hS hl2)
theorem z_dstore (n : Nat) (K : zF p m meth c cc nL ret s args Ts own g) {i : Nat} {x : UInt64} {lv' : List (Nat × Value)} (hdg : decode cc pc = .ok (.dstore i, 2)) (hpc : pc + 2 = n) (hn : i + 1 < nL) (hl2 : (i, Value.double x) :: lv.filter (fun q => !(q.1 == i) && (!(q.1 == i + 1) && !(q.1 + 1 == i && q.2.category == 2))) = lv') (k : Z p l e R s m args below meth c Q g nL kc ks C lv' n (st)) : Z p l e R s m args below meth c Q g nL kc ks C lv pc (.double x :: st) := by
  subst hpc
  intro H locs ls hW hS hl
  exact lv_dstore K.1.1 K.1.2.1 hdg hl hn hl2 (fun ls2 hl2 => k H locs ls2 hW hS hl2)
theorem z_iinc (n : Nat) (K : zF p m meth c cc nL ret s args Ts own g) {i : Nat} {d a : Int} {lv' : List (Nat × Value)} (hdg : decode cc pc = .ok (.iinc i d, 3)) (hpc : pc + 3 = n) (b : Int) (hab : a + d = b) (j : Nat) (hj : lv[j]? = some (i, .int (iZ a))) (hn : i < nL) (hl2 : (i, Value.int (iZ b)) :: lv.filter (fun q => !(q.1 == i) && !(q.1 + 1 == i && q.2.category == 2)) = lv') (k : Z p l e R s m args below meth c Q g nL kc ks C lv' n (st)) : Z p l e R s m args below meth c Q g nL kc ks C lv pc (st) := by
  subst hpc
  intro H locs ls hW hS hl
  exact lv_iinc K.1.1 K.1.2.1 hdg hl hj (by rw [← hab]; exact iZ_add a d) hn hl2 (fun ls2 hl2 => k H locs ls2 hW hS hl2)
theorem z_iadd (n : Nat) (K : zF p m meth c cc nL ret s args Ts own g) {a b : Int} (hdg : decode cc pc = .ok (.iadd, 1)) (hpc : pc + 1 = n)  (k : Z p l e R s m args below meth c Q g nL kc ks C lv n (.int (iZ (a + b)) :: st)) : Z p l e R s m args below meth c Q g nL kc ks C lv pc (.int (iZ b) :: .int (iZ a) :: st) := by
  subst hpc
  intro H locs ls hW hS hl
  refine lv_iadd K.1.1 K.1.2.1 hdg ?_
  rw [iZ_add]
  exact k H locs ls hW hS hl
theorem z_isub (n : Nat) (K : zF p m meth c cc nL ret s args Ts own g) {a b : Int} (hdg : decode cc pc = .ok (.isub, 1)) (hpc : pc + 1 = n)  (k : Z p l e R s m args below meth c Q g nL kc ks C lv n (.int (iZ (a - b)) :: st)) : Z p l e R s m args below meth c Q g nL kc ks C lv pc (.int (iZ b) :: .int (iZ a) :: st) := by
  subst hpc
  intro H locs ls hW hS hl
  refine lv_isub K.1.1 K.1.2.1 hdg ?_
  rw [iZ_sub]
  exact k H locs ls hW hS hl
theorem z_imul (n : Nat) (K : zF p m meth c cc nL ret s args Ts own g) {a b : Int} (hdg : decode cc pc = .ok (.imul, 1)) (hpc : pc + 1 = n)  (k : Z p l e R s m args below meth c Q g nL kc ks C lv n (.int (iZ (a * b)) :: st)) : Z p l e R s m args below meth c Q g nL kc ks C lv pc (.int (iZ b) :: .int (iZ a) :: st) := by
  subst hpc
  intro H locs ls hW hS hl
  refine lv_imul K.1.1 K.1.2.1 hdg ?_
  rw [iZ_mul]
  exact k H locs ls hW hS hl
theorem z_ineg (n : Nat) (K : zF p m meth c cc nL ret s args Ts own g) {a : Int} (hdg : decode cc pc = .ok (.ineg, 1)) (hpc : pc + 1 = n)  (k : Z p l e R s m args below meth c Q g nL kc ks C lv n (.int (iZ (-a)) :: st)) : Z p l e R s m args below meth c Q g nL kc ks C lv pc (.int (iZ a) :: st) := by
  subst hpc
  intro H locs ls hW hS hl
  refine lv_ineg K.1.1 K.1.2.1 hdg ?_
  rw [iZ_neg]
  exact k H locs ls hW hS hl
theorem z_iand (n : Nat) (K : zF p m meth c cc nL ret s args Ts own g) {x y : Int32} (hdg : decode cc pc = .ok (.iand, 1)) (hpc : pc + 1 = n)  (k : Z p l e R s m args below meth c Q g nL kc ks C lv n (.int (x &&& y) :: st)) : Z p l e R s m args below meth c Q g nL kc ks C lv pc (.int y :: .int x :: st) := by
  subst hpc
  intro H locs ls hW hS hl
  exact lv_iand K.1.1 K.1.2.1 hdg (k H locs ls hW hS hl)
theorem z_ior (n : Nat) (K : zF p m meth c cc nL ret s args Ts own g) {x y : Int32} (hdg : decode cc pc = .ok (.ior, 1)) (hpc : pc + 1 = n)  (k : Z p l e R s m args below meth c Q g nL kc ks C lv n (.int (x ||| y) :: st)) : Z p l e R s m args below meth c Q g nL kc ks C lv pc (.int y :: .int x :: st) := by
  subst hpc
  intro H locs ls hW hS hl
  exact lv_ior K.1.1 K.1.2.1 hdg (k H locs ls hW hS hl)
theorem z_ishl (n : Nat) (K : zF p m meth c cc nL ret s args Ts own g) {x y : Int32} (hdg : decode cc pc = .ok (.ishl, 1)) (hpc : pc + 1 = n)  (k : Z p l e R s m args below meth c Q g nL kc ks C lv n (.int (x <<< (y &&& 31)) :: st)) : Z p l e R s m args below meth c Q g nL kc ks C lv pc (.int y :: .int x :: st) := by
  subst hpc
  intro H locs ls hW hS hl
  exact lv_ishl K.1.1 K.1.2.1 hdg (k H locs ls hW hS hl)
theorem z_dup (n : Nat) (K : zF p m meth c cc nL ret s args Ts own g) {va : Value} (hdg : decode cc pc = .ok (.dup, 1)) (hpc : pc + 1 = n) (hva : va.category = 1) (k : Z p l e R s m args below meth c Q g nL kc ks C lv n (va :: va :: st)) : Z p l e R s m args below meth c Q g nL kc ks C lv pc (va :: st) := by
  subst hpc
  intro H locs ls hW hS hl
  exact lv_dup K.1.1 K.1.2.1 hdg hva (k H locs ls hW hS hl)
theorem z_dup2 (n : Nat) (K : zF p m meth c cc nL ret s args Ts own g) {va vb : Value} (hdg : decode cc pc = .ok (.dup2, 1)) (hpc : pc + 1 = n) (hva : va.category = 1) (hvb : vb.category = 1) (k : Z p l e R s m args below meth c Q g nL kc ks C lv n (va :: vb :: va :: vb :: st)) : Z p l e R s m args below meth c Q g nL kc ks C lv pc (va :: vb :: st) := by
  subst hpc
  intro H locs ls hW hS hl
  exact lv_dup2_11 K.1.1 K.1.2.1 hdg hva hvb (k H locs ls hW hS hl)
theorem z_pop (n : Nat) (K : zF p m meth c cc nL ret s args Ts own g) {va : Value} (hdg : decode cc pc = .ok (.pop, 1)) (hpc : pc + 1 = n) (hva : va.category = 1) (k : Z p l e R s m args below meth c Q g nL kc ks C lv n (st)) : Z p l e R s m args below meth c Q g nL kc ks C lv pc (va :: st) := by
  subst hpc
  intro H locs ls hW hS hl
  exact lv_pop K.1.1 K.1.2.1 hdg hva (k H locs ls hW hS hl)
theorem z_i2l (n : Nat) (K : zF p m meth c cc nL ret s args Ts own g) {x : Int32} (hdg : decode cc pc = .ok (.i2l, 1)) (hpc : pc + 1 = n)  (k : Z p l e R s m args below meth c Q g nL kc ks C lv n (.long x.toInt64 :: st)) : Z p l e R s m args below meth c Q g nL kc ks C lv pc (.int x :: st) := by
  subst hpc
  intro H locs ls hW hS hl
  exact lv_i2l K.1.1 K.1.2.1 hdg rfl (k H locs ls hW hS hl)
theorem z_i2d (n : Nat) (K : zF p m meth c cc nL ret s args Ts own g) {x : Int32} (hdg : decode cc pc = .ok (.i2d, 1)) (hpc : pc + 1 = n)  (k : Z p l e R s m args below meth c Q g nL kc ks C lv n (.double (FP.i2d x) :: st)) : Z p l e R s m args below meth c Q g nL kc ks C lv pc (.int x :: st) := by
  subst hpc
  intro H locs ls hW hS hl
  exact lv_i2d K.1.1 K.1.2.1 hdg (k H locs ls hW hS hl)
theorem z_ladd (n : Nat) (K : zF p m meth c cc nL ret s args Ts own g) {x y : Int64} (hdg : decode cc pc = .ok (.ladd, 1)) (hpc : pc + 1 = n)  (k : Z p l e R s m args below meth c Q g nL kc ks C lv n (.long (x + y) :: st)) : Z p l e R s m args below meth c Q g nL kc ks C lv pc (.long y :: .long x :: st) := by
  subst hpc
  intro H locs ls hW hS hl
  exact lv_ladd K.1.1 K.1.2.1 hdg (k H locs ls hW hS hl)
theorem z_lsub (n : Nat) (K : zF p m meth c cc nL ret s args Ts own g) {x y : Int64} (hdg : decode cc pc = .ok (.lsub, 1)) (hpc : pc + 1 = n)  (k : Z p l e R s m args below meth c Q g nL kc ks C lv n (.long (x - y) :: st)) : Z p l e R s m args below meth c Q g nL kc ks C lv pc (.long y :: .long x :: st) := by
  subst hpc
  intro H locs ls hW hS hl
  exact lv_lsub K.1.1 K.1.2.1 hdg (k H locs ls hW hS hl)
theorem z_lmul (n : Nat) (K : zF p m meth c cc nL ret s args Ts own g) {x y : Int64} (hdg : decode cc pc = .ok (.lmul, 1)) (hpc : pc + 1 = n)  (k : Z p l e R s m args below meth c Q g nL kc ks C lv n (.long (x * y) :: st)) : Z p l e R s m args below meth c Q g nL kc ks C lv pc (.long y :: .long x :: st) := by
  subst hpc
  intro H locs ls hW hS hl
  exact lv_lmul K.1.1 K.1.2.1 hdg (k H locs ls hW hS hl)
theorem z_lor (n : Nat) (K : zF p m meth c cc nL ret s args Ts own g) {x y : Int64} (hdg : decode cc pc = .ok (.lor, 1)) (hpc : pc + 1 = n)  (k : Z p l e R s m args below meth c Q g nL kc ks C lv n (.long (x ||| y) :: st)) : Z p l e R s m args below meth c Q g nL kc ks C lv pc (.long y :: .long x :: st) := by
  subst hpc
  intro H locs ls hW hS hl
  exact lv_lor K.1.1 K.1.2.1 hdg (k H locs ls hW hS hl)
theorem z_if_eq (n : Nat) (K : zF p m meth c cc nL ret s args Ts own g) {a off : Int} {tgt : Nat} (hdg : decode cc pc = .ok (.ifCond .eq off, 3)) (hpc : pc + 3 = n) (ht : (pc : Int) + off = (tgt : Int)) (ha : -2147483648 ≤ a ∧ a < 2147483648) (kt : a = 0 → Z p l e R s m args below meth c Q g nL kc ks C lv tgt st) (kf : a ≠ 0 → Z p l e R s m args below meth c Q g nL kc ks C lv n st) : Z p l e R s m args below meth c Q g nL kc ks C lv pc (.int (iZ a) :: st) := by
  subst hpc
  intro H locs ls hW hS hl
  have z0r : -2147483648 ≤ (0 : Int) ∧ (0 : Int) < 2147483648 := by omega
  exact lv_if_eq K.1.1 K.1.2.1 hdg ht (fun q => kt ((iZ_eq ha z0r).mp q) H locs ls hW hS hl) (fun q => kf (fun z => q ((iZ_eq ha z0r).mpr z)) H locs ls hW hS hl)
theorem z_icmp_eq (n : Nat) (K : zF p m meth c cc nL ret s args Ts own g) {a b off : Int} {tgt : Nat} (hdg : decode cc pc = .ok (.if_icmp .eq off, 3)) (hpc : pc + 3 = n) (ht : (pc : Int) + off = (tgt : Int)) (ha : -2147483648 ≤ a ∧ a < 2147483648) (hb : -2147483648 ≤ b ∧ b < 2147483648) (kt : a = b → Z p l e R s m args below meth c Q g nL kc ks C lv tgt st) (kf : a ≠ b → Z p l e R s m args below meth c Q g nL kc ks C lv n st) : Z p l e R s m args below meth c Q g nL kc ks C lv pc (.int (iZ b) :: .int (iZ a) :: st) := by
  subst hpc
  intro H locs ls hW hS hl
  exact lv_icmp_eq K.1.1 K.1.2.1 hdg ht (fun q => kt ((iZ_eq ha hb).mp q) H locs ls hW hS hl) (fun q => kf (fun z => q ((iZ_eq ha hb).mpr z)) H locs ls hW hS hl)
theorem z_if_ne (n : Nat) (K : zF p m meth c cc nL ret s args Ts own g) {a off : Int} {tgt : Nat} (hdg : decode cc pc = .ok (.ifCond .ne off, 3)) (hpc : pc + 3 = n) (ht : (pc : Int) + off = (tgt : Int)) (ha : -2147483648 ≤ a ∧ a < 2147483648) (kt : a ≠ 0 → Z p l e R s m args below meth c Q g nL kc ks C lv tgt st) (kf : a = 0 → Z p l e R s m args below meth c Q g nL kc ks C lv n st) : Z p l e R s m args below meth c Q g nL kc ks C lv pc (.int (iZ a) :: st) := by
  subst hpc
  intro H locs ls hW hS hl
  have z0r : -2147483648 ≤ (0 : Int) ∧ (0 : Int) < 2147483648 := by omega
  exact lv_if_ne K.1.1 K.1.2.1 hdg ht (fun q => kt (fun z => q ((iZ_eq ha z0r).mpr z)) H locs ls hW hS hl) (fun q => kf ((iZ_eq ha z0r).mp q) H locs ls hW hS hl)
theorem z_icmp_ne (n : Nat) (K : zF p m meth c cc nL ret s args Ts own g) {a b off : Int} {tgt : Nat} (hdg : decode cc pc = .ok (.if_icmp .ne off, 3)) (hpc : pc + 3 = n) (ht : (pc : Int) + off = (tgt : Int)) (ha : -2147483648 ≤ a ∧ a < 2147483648) (hb : -2147483648 ≤ b ∧ b < 2147483648) (kt : a ≠ b → Z p l e R s m args below meth c Q g nL kc ks C lv tgt st) (kf : a = b → Z p l e R s m args below meth c Q g nL kc ks C lv n st) : Z p l e R s m args below meth c Q g nL kc ks C lv pc (.int (iZ b) :: .int (iZ a) :: st) := by
  subst hpc
  intro H locs ls hW hS hl
  exact lv_icmp_ne K.1.1 K.1.2.1 hdg ht (fun q => kt (fun z => q ((iZ_eq ha hb).mpr z)) H locs ls hW hS hl) (fun q => kf ((iZ_eq ha hb).mp q) H locs ls hW hS hl)
theorem z_if_lt (n : Nat) (K : zF p m meth c cc nL ret s args Ts own g) {a off : Int} {tgt : Nat} (hdg : decode cc pc = .ok (.ifCond .lt off, 3)) (hpc : pc + 3 = n) (ht : (pc : Int) + off = (tgt : Int)) (ha : -2147483648 ≤ a ∧ a < 2147483648) (kt : a < 0 → Z p l e R s m args below meth c Q g nL kc ks C lv tgt st) (kf : 0 ≤ a → Z p l e R s m args below meth c Q g nL kc ks C lv n st) : Z p l e R s m args below meth c Q g nL kc ks C lv pc (.int (iZ a) :: st) := by
  subst hpc
  intro H locs ls hW hS hl
  have z0r : -2147483648 ≤ (0 : Int) ∧ (0 : Int) < 2147483648 := by omega
  exact lv_if_lt K.1.1 K.1.2.1 hdg ht (fun q => kt ((iZ_lt ha z0r).mp q) H locs ls hW hS hl) (fun q => kf (Int.not_lt.mp (fun z => q ((iZ_lt ha z0r).mpr z))) H locs ls hW hS hl)
theorem z_icmp_lt (n : Nat) (K : zF p m meth c cc nL ret s args Ts own g) {a b off : Int} {tgt : Nat} (hdg : decode cc pc = .ok (.if_icmp .lt off, 3)) (hpc : pc + 3 = n) (ht : (pc : Int) + off = (tgt : Int)) (ha : -2147483648 ≤ a ∧ a < 2147483648) (hb : -2147483648 ≤ b ∧ b < 2147483648) (kt : a < b → Z p l e R s m args below meth c Q g nL kc ks C lv tgt st) (kf : b ≤ a → Z p l e R s m args below meth c Q g nL kc ks C lv n st) : Z p l e R s m args below meth c Q g nL kc ks C lv pc (.int (iZ b) :: .int (iZ a) :: st) := by
  subst hpc
  intro H locs ls hW hS hl
  exact lv_icmp_lt K.1.1 K.1.2.1 hdg ht (fun q => kt ((iZ_lt ha hb).mp q) H locs ls hW hS hl) (fun q => kf (Int.not_lt.mp (fun z => q ((iZ_lt ha hb).mpr z))) H locs ls hW hS hl)
theorem z_if_ge (n : Nat) (K : zF p m meth c cc nL ret s args Ts own g) {a off : Int} {tgt : Nat} (hdg : decode cc pc = .ok (.ifCond .ge off, 3)) (hpc : pc + 3 = n) (ht : (pc : Int) + off = (tgt : Int)) (ha : -2147483648 ≤ a ∧ a < 2147483648) (kt : 0 ≤ a → Z p l e R s m args below meth c Q g nL kc ks C lv tgt st) (kf : a < 0 → Z p l e R s m args below meth c Q g nL kc ks C lv n st) : Z p l e R s m args below meth c Q g nL kc ks C lv pc (.int (iZ a) :: st) := by
  subst hpc
  intro H locs ls hW hS hl
  have z0r : -2147483648 ≤ (0 : Int) ∧ (0 : Int) < 2147483648 := by omega
  exact lv_if_ge K.1.1 K.1.2.1 hdg ht (fun q => kt ((iZ_le z0r ha).mp q) H locs ls hW hS hl) (fun q => kf (Int.not_le.mp (fun z => q ((iZ_le z0r ha).mpr z))) H locs ls hW hS hl)
theorem z_icmp_ge (n : Nat) (K : zF p m meth c cc nL ret s args Ts own g) {a b off : Int} {tgt : Nat} (hdg : decode cc pc = .ok (.if_icmp .ge off, 3)) (hpc : pc + 3 = n) (ht : (pc : Int) + off = (tgt : Int)) (ha : -2147483648 ≤ a ∧ a < 2147483648) (hb : -2147483648 ≤ b ∧ b < 2147483648) (kt : b ≤ a → Z p l e R s m args below meth c Q g nL kc ks C lv tgt st) (kf : a < b → Z p l e R s m args below meth c Q g nL kc ks C lv n st) : Z p l e R s m args below meth c Q g nL kc ks C lv pc (.int (iZ b) :: .int (iZ a) :: st) := by
  subst hpc
  intro H locs ls hW hS hl
  exact lv_icmp_ge K.1.1 K.1.2.1 hdg ht (fun q => kt ((iZ_le hb ha).mp q) H locs ls hW hS hl) (fun q => kf (Int.not_le.mp (fun z => q ((iZ_le hb ha).mpr z))) H locs ls hW hS hl)
theorem z_if_gt (n : Nat) (K : zF p m meth c cc nL ret s args Ts own g) {a off : Int} {tgt : Nat} (hdg : decode cc pc = .ok (.ifCond .gt off, 3)) (hpc : pc + 3 = n) (ht : (pc : Int) + off = (tgt : Int)) (ha : -2147483648 ≤ a ∧ a < 2147483648) (kt : 0 < a → Z p l e R s m args below meth c Q g nL kc ks C lv tgt st) (kf : a ≤ 0 → Z p l e R s m args below meth c Q g nL kc ks C lv n st) : Z p l e R s m args below meth c Q g nL kc ks C lv pc (.int (iZ a) :: st) := by
  subst hpc
  intro H locs ls hW hS hl
  have z0r : -2147483648 ≤ (0 : Int) ∧ (0 : Int) < 2147483648 := by omega
  exact lv_if_gt K.1.1 K.1.2.1 hdg ht (fun q => kt ((iZ_lt z0r ha).mp q) H locs ls hW hS hl) (fun q => kf (Int.not_lt.mp (fun z => q ((iZ_lt z0r ha).mpr z))) H locs ls hW hS hl)
theorem z_icmp_gt (n : Nat) (K : zF p m meth c cc nL ret s args Ts own g) {a b off : Int} {tgt : Nat} (hdg : decode cc pc = .ok (.if_icmp .gt off, 3)) (hpc : pc + 3 = n) (ht : (pc : Int) + off = (tgt : Int)) (ha : -2147483648 ≤ a ∧ a < 2147483648) (hb : -2147483648 ≤ b ∧ b < 2147483648) (kt : b < a → Z p l e R s m args below meth c Q g nL kc ks C lv tgt st) (kf : a ≤ b → Z p l e R s m args below meth c Q g nL kc ks C lv n st) : Z p l e R s m args below meth c Q g nL kc ks C lv pc (.int (iZ b) :: .int (iZ a) :: st) := by
  subst hpc
  intro H locs ls hW hS hl
  exact lv_icmp_gt K.1.1 K.1.2.1 hdg ht (fun q => kt ((iZ_lt hb ha).mp q) H locs ls hW hS hl) (fun q => kf (Int.not_lt.mp (fun z => q ((iZ_lt hb ha).mpr z))) H locs ls hW hS hl)
theorem z_if_le (n : Nat) (K : zF p m meth c cc nL ret s args Ts own g) {a off : Int} {tgt : Nat} (hdg : decode cc pc = .ok (.ifCond .le off, 3)) (hpc : pc + 3 = n) (ht : (pc : Int) + off = (tgt : Int)) (ha : -2147483648 ≤ a ∧ a < 2147483648) (kt : a ≤ 0 → Z p l e R s m args below meth c Q g nL kc ks C lv tgt st) (kf : 0 < a → Z p l e R s m args below meth c Q g nL kc ks C lv n st) : Z p l e R s m args below meth c Q g nL kc ks C lv pc (.int (iZ a) :: st) := by
  subst hpc
  intro H locs ls hW hS hl
  have z0r : -2147483648 ≤ (0 : Int) ∧ (0 : Int) < 2147483648 := by omega
  exact lv_if_le K.1.1 K.1.2.1 hdg ht (fun q => kt ((iZ_le ha z0r).mp q) H locs ls hW hS hl) (fun q => kf (Int.not_le.mp (fun z => q ((iZ_le ha z0r).mpr z))) H locs ls hW hS hl)
theorem z_icmp_le (n : Nat) (K : zF p m meth c cc nL ret s args Ts own g) {a b off : Int} {tgt : Nat} (hdg : decode cc pc = .ok (.if_icmp .le off, 3)) (hpc : pc + 3 = n) (ht : (pc : Int) + off = (tgt : Int)) (ha : -2147483648 ≤ a ∧ a < 2147483648) (hb : -2147483648 ≤ b ∧ b < 2147483648) (kt : a ≤ b → Z p l e R s m args below meth c Q g nL kc ks C lv tgt st) (kf : b < a → Z p l e R s m args below meth c Q g nL kc ks C lv n st) : Z p l e R s m args below meth c Q g nL kc ks C lv pc (.int (iZ b) :: .int (iZ a) :: st) := by
  subst hpc
  intro H locs ls hW hS hl
  exact lv_icmp_le K.1.1 K.1.2.1 hdg ht (fun q => kt ((iZ_le ha hb).mp q) H locs ls hW hS hl) (fun q => kf (Int.not_le.mp (fun z => q ((iZ_le ha hb).mpr z))) H locs ls hW hS hl)
theorem z_goto (K : zF p m meth c cc nL ret s args Ts own g) {off : Int} {tgt : Nat} (hdg : decode cc pc = .ok (.goto off, 3)) (ht : (pc : Int) + off = (tgt : Int)) (k : Z p l e R s m args below meth c Q g nL kc ks C lv tgt st) : Z p l e R s m args below meth c Q g nL kc ks C lv pc st := by
  intro H locs ls hW hS hl
  exact lv_goto K.1.1 K.1.2.1 hdg ht (k H locs ls hW hS hl)
theorem z_tableIn (K : zF p m meth c cc nL ret s args Ts own g) {dflt lo hi : Int} {offs : Array Int} {len : Nat} {a off : Int} {tgt : Nat} (hdg : decode cc pc = .ok (.tableswitch dflt lo hi offs, len)) (ha : -2147483648 ≤ a ∧ a < 2147483648) (h1 : lo ≤ a) (h2 : a ≤ hi) (ho : offs[(a - lo).toNat]? = some off) (ht : (pc : Int) + off = (tgt : Int)) (k : Z p l e R s m args below meth c Q g nL kc ks C lv tgt st) : Z p l e R s m args below meth c Q g nL kc ks C lv pc (.int (iZ a) :: st) := by
  intro H locs ls hW hS hl
  exact lv_tableIn K.1.1 K.1.2.1 hdg (by rw [iZ_toInt ha]; omega) (by rw [iZ_toInt ha]; omega) (by rw [iZ_toInt ha]; exact ho) ht (k H locs ls hW hS hl)
theorem z_tableOut (K : zF p m meth c cc nL ret s args Ts own g) {dflt lo hi : Int} {offs : Array Int} {len : Nat} {a : Int} {tgt : Nat} (hdg : decode cc pc = .ok (.tableswitch dflt lo hi offs, len)) (ha : -2147483648 ≤ a ∧ a < 2147483648) (h : a < lo ∨ hi < a) (ht : (pc : Int) + dflt = (tgt : Int)) (k : Z p l e R s m args below meth c Q g nL kc ks C lv tgt st) : Z p l e R s m args below meth c Q g nL kc ks C lv pc (.int (iZ a) :: st) := by
  intro H locs ls hW hS hl
  exact lv_tableOut K.1.1 K.1.2.1 hdg (by rw [iZ_toInt ha]; exact h) ht (k H locs ls hW hS hl)
theorem z_get (n : Nat) (K : zF p m meth c cc nL ret s args Ts own g) {ref CC : String} {T : u_T} {N ci index : Nat} (hin : ∀ w ∈ u_ws CC T N, w ∈ Ts) (q : Nat) {fs : List Value} (hq : q < zN) (he : C q = .inr (ci, fs)) (hc : vwCl[ci]? = some (CC, T, N)) (kf : Nat) (hk : kf < N) (hlink : (Cond.fieldLink own index ref (T kf).2.1 (T kf).2.2.1) ∈ Ts) (hsame : ∀ x, s.fieldFound? (T kf).1 (T kf).2.1 (T kf).2.2.1 = some x → s.fieldFound? ref (T kf).2.1 (T kf).2.2.1 = some x) {v : Value} (hv : fs[kf]? = some v) (hdg : decode cc pc = .ok (.getfield index, 3)) (hpc : pc + 3 = n)
    (k : Z p l e R s m args below meth c Q g nL kc ks C lv n (v :: st)) : Z p l e R s m args below meth c Q g nL kc ks C lv pc (.ref (aD g q) :: st) := by
  subst hpc
  intro H locs ls hW hS hl
  exact va_get K.1.1 K.1.2.1 K.1.2.2.2.2 hin K.1.2.2.2.1 K.2.2.2.1 hW.1 q (by rw [zWs_get g C hq, he]) hc kf hk (K.1.2.2.2.2 _ hlink) hsame hv hdg (k H locs ls hW hS hl)
theorem z_put (n : Nat) (K : zF p m meth c cc nL ret s args Ts own g) {ref CC : String} {T : u_T} {N ci index : Nat} (hin : ∀ w ∈ u_ws CC T N, w ∈ Ts) (ty0 : Nat → FieldType) (hty : ∀ k, k < N → parseFieldDescriptor (T k).2.2.1 = some (ty0 k)) (hnm : ∀ a, a < N → ∀ b, b < N → a ≠ b → (T a).2.1 ≠ (T b).2.1) (q : Nat) {fs : List Value} (hq : q < zN) (he : C q = .inr (ci, fs)) (hc : vwCl[ci]? = some (CC, T, N)) (kf : Nat) (hk : kf < N) (hlink : (Cond.fieldLink own index ref (T kf).2.1 (T kf).2.2.1) ∈ Ts) (hsame : ∀ x, s.fieldFound? (T kf).1 (T kf).2.1 (T kf).2.2.1 = some x → s.fieldFound? ref (T kf).2.1 (T kf).2.2.1 = some x) (hfin : (T kf).2.2.2 = false) {ty : FieldType} {v : Value} (hd : parseFieldDescriptor (T kf).2.2.1 = some ty) (hn : narrow ty v = v) (hfit : fits ty v = true) (hl0 : kf < fs.length) (hdg : decode cc pc = .ok (.putfield index, 3)) (hpc : pc + 3 = n)
    (k : Z p l e R s m args below meth c Q g nL kc ks (va_up C q (.inr (ci, fs.set kf v))) lv n st) : Z p l e R s m args below meth c Q g nL kc ks C lv pc (v :: .ref (aD g q) :: st) := by
  subst hpc
  intro H locs ls hW hS hl
  refine va_put K.1.1 K.1.2.1 K.1.2.2.2.2 hin ty0 hty hnm K.1.2.2.2.1 K.2.2.2.1 hW.1 hW.2 hS q (by rw [zWs_get g C hq, he]) hc kf hk (K.1.2.2.2.2 _ hlink) hsame hfin hd hn hfit hl0 hdg (fun H1 locs1 hP hD hS1 => ?_)
  rw [zWs_set] at hP hD
  exact k H1 locs1 ls ⟨hP, hD⟩ hS1 hl
theorem z_iald (n : Nat) (K : zF p m meth c cc nL ret s args Ts own g) (q : Nat) (hq : q < zN) {len : Nat} {f : Int → Int} (he : C q = eI g len f) {i : Int} (h0 : 0 ≤ i) (h1 : i < len) (hlen : (len : Int) < 2147483648) (hdg : decode cc pc = .ok (.iaload, 1)) (hpc : pc + 1 = n) (k : Z p l e R s m args below meth c Q g nL kc ks C lv n (.int (iZ (f i)) :: st)) : Z p l e R s m args below meth c Q g nL kc ks C lv pc (.int (iZ i) :: .ref (aD g q) :: st) := by
  subst hpc
  intro H locs ls hW hS hl
  refine va_iald (tys := zTys g) K.1.1 K.1.2.1 K.2.2.2.1 hW.1 q 0 (by rw [zWs_get g C hq, he]) rfl (iZ_in h0 h1 hlen) hdg ?_
  rw [iZ_cl ⟨by omega, by omega⟩, zAr_get f h0]
  exact k H locs ls hW hS hl
theorem z_zald (n : Nat) (K : zF p m meth c cc nL ret s args Ts own g) (q : Nat) (hq : q < zN) {len : Nat} {f : Int → Int} (he : C q = eZ g len f) {i : Int} (h0 : 0 ≤ i) (h1 : i < len) (hlen : (len : Int) < 2147483648) (hdg : decode cc pc = .ok (.baload, 1)) (hpc : pc + 1 = n) (k : Z p l e R s m args below meth c Q g nL kc ks C lv n (.int (iZ (f i)) :: st)) : Z p l e R s m args below meth c Q g nL kc ks C lv pc (.int (iZ i) :: .ref (aD g q) :: st) := by
  subst hpc
  intro H locs ls hW hS hl
  refine va_zald (tys := zTys g) K.1.1 K.1.2.1 K.2.2.2.1 hW.1 q 1 (by rw [zWs_get g C hq, he]) rfl (iZ_in h0 h1 hlen) hdg ?_
  rw [iZ_cl ⟨by omega, by omega⟩, zAr_get f h0]
  exact k H locs ls hW hS hl
theorem z_iast (n : Nat) (K : zF p m meth c cc nL ret s args Ts own g) (q : Nat) (hq : q < zN) {len : Nat} {f : Int → Int} (he : C q = eI g len f) {i v : Int} (h0 : 0 ≤ i) (h1 : i < len) (hlen : (len : Int) < 2147483648) (hdg : decode cc pc = .ok (.iastore, 1)) (hpc : pc + 1 = n) (k : Z p l e R s m args below meth c Q g nL kc ks (va_up C q (eI g len (zu f i v))) lv n st) : Z p l e R s m args below meth c Q g nL kc ks C lv pc (.int (iZ v) :: .int (iZ i) :: .ref (aD g q) :: st) := by
  subst hpc
  intro H locs ls hW hS hl
  refine va_iast (tys := zTys g) K.1.1 K.1.2.1 K.2.2.2.1 hW.1 hW.2 hS q 0 (by rw [zWs_get g C hq, he]) rfl (iZ_in h0 h1 hlen) hdg (fun H1 locs1 hP hD hS1 => ?_)
  rw [iZ_cl ⟨by omega, by omega⟩, zAr_upd f v h0, zWs_set] at hP hD
  exact k H1 locs1 ls ⟨hP, hD⟩ hS1 hl
theorem z_zast (n : Nat) (K : zF p m meth c cc nL ret s args Ts own g) (q : Nat) (hq : q < zN) {len : Nat} {f : Int → Int} (he : C q = eZ g len f) {i v : Int} (hv : v = 0 ∨ v = 1) (h0 : 0 ≤ i) (h1 : i < len) (hlen : (len : Int) < 2147483648) (hdg : decode cc pc = .ok (.bastore, 1)) (hpc : pc + 1 = n) (k : Z p l e R s m args below meth c Q g nL kc ks (va_up C q (eZ g len (zu f i v))) lv n st) : Z p l e R s m args below meth c Q g nL kc ks C lv pc (.int (iZ v) :: .int (iZ i) :: .ref (aD g q) :: st) := by
  subst hpc
  intro H locs ls hW hS hl
  have hnar : vp_nar .boolean (iZ v) = iZ v := by rcases hv with rfl | rfl <;> rfl
  refine va_zast (tys := zTys g) K.1.1 K.1.2.1 K.2.2.2.1 hW.1 hW.2 hS q 1 (by rw [zWs_get g C hq, he]) rfl (iZ_in h0 h1 hlen) hdg (fun H1 locs1 hP hD hS1 => ?_)
  rw [hnar, iZ_cl ⟨by omega, by omega⟩, zAr_upd f v h0, zWs_set] at hP hD
  exact k H1 locs1 ls ⟨hP, hD⟩ hS1 hl
theorem z_copyi (n : Nat) (K : zF p m meth c cc nL ret s args Ts own g) {index : Nat} (hlink : Cond.methodLink own index arraycopyName ∈ Ts) (hnat : Cond.native arraycopyName ∈ Ts) (hstat : Cond.static arraycopyName ∈ Ts) (hini : Cond.initialized "java/lang/System" ∈ Ts) (q0 q1 : Nat) (hq0 : q0 < zN) (hq1 : q1 < zN) {n0 n1 : Nat} {f h : Int → Int} (he0 : C q0 = eI g n0 f) (he1 : C q1 = eI g n1 h) {sp dp k9 : Int} (h1 : 0 ≤ sp) (h2 : 0 ≤ dp) (h3 : 0 ≤ k9) (h4 : sp + k9 ≤ n0) (h5 : dp + k9 ≤ n1) (hn0 : (n0 : Int) < 2147483648) (hn1 : (n1 : Int) < 2147483648) (hframes : 1 ≤ R.frames) (hlocals : (st.map fun v => v.category).sum + (nativeFrameWords "java/lang/System" "arraycopy" 5 + 11) ≤ R.locals) (hdg : decode cc pc = .ok (.invokestatic index, 3)) (hpc : pc + 3 = n)
    (k : Z p l e R s m args below meth c Q g nL kc ks (va_up C q1 (eI g n1 (zcpy f h sp dp k9))) lv n st) : Z p l e R s m args below meth c Q g nL kc ks C lv pc (.int (iZ k9) :: .int (iZ dp) :: .ref (aD g q1) :: .int (iZ sp) :: .ref (aD g q0) :: st) := by
  subst hpc
  intro H locs ls hW hS hl
  have r1 : -2147483648 ≤ sp ∧ sp < 2147483648 := by omega
  have r2 : -2147483648 ≤ dp ∧ dp < 2147483648 := by omega
  have r3 : -2147483648 ≤ k9 ∧ k9 < 2147483648 := by omega
  have z0r : -2147483648 ≤ (0 : Int) ∧ (0 : Int) < 2147483648 := by omega
  have nn : ∀ z : Int, (-2147483648 ≤ z ∧ z < 2147483648) → 0 ≤ z → ¬ iZ z < 0 := fun z hz h0 hc => by
    have := (iZ_lt hz z0r).mp hc
    omega
  refine va_copyi (ty := .int) (tys := zTys g) K.1.1 K.1.2.1 (by rw [hl.1]; exact K.1.2.2.1) K.1.2.2.2.1 (K.1.2.2.2.2 _ hlink) (K.1.2.2.2.2 _ hnat) (K.1.2.2.2.2 _ hstat) (K.1.2.2.2.2 _ hini) K.2.2.2.1 hW.1 hW.2 hS q0 q1 0 0 (by rw [zWs_get g C hq0, he0]) (by rw [zWs_get g C hq1, he1]) rfl rfl rfl (nn _ r1 h1) (nn _ r2 h2) (nn _ r3 h3) (by rw [iZ_cl r1, iZ_cl r3]; omega) (by rw [iZ_cl r2, iZ_cl r3]; omega) (fun i _ => rfl) hframes hlocals hdg (fun H1 locs1 hP hD hS1 => ?_)
  rw [iZ_cl r1, iZ_cl r2, iZ_cl r3, zAr_cpy f h h1 h2 h3, zWs_set] at hP hD
  exact k H1 locs1 ls ⟨hP, hD⟩ hS1 hl
theorem z_aald (n : Nat) (K : zF p m meth c cc nL ret s args Ts own g) (q : Nat) (hq : q < zN) {len : Nat} {f : Nat → Option Nat} {a : Nat} (he : C q = eS g len f) {i : Int} (h0 : 0 ≤ i) (h1 : i < len) (hlen : (len : Int) < 2147483648) (hf : f i.toNat = some a) (hdg : decode cc pc = .ok (.aaload, 1)) (hpc : pc + 1 = n) (k : Z p l e R s m args below meth c Q g nL kc ks C lv n (.ref a :: st)) : Z p l e R s m args below meth c Q g nL kc ks C lv pc (.int (iZ i) :: .ref (aD g q) :: st) := by
  subst hpc
  intro H locs ls hW hS hl
  refine va_aldq (tys := zTys g) K.1.1 K.1.2.1 K.2.2.2.1 hW.1 q 2 (by rw [zWs_get g C hq, he]) rfl (iZ_in h0 h1 hlen) hdg ?_
  rw [iZ_cl ⟨by omega, by omega⟩, hf]
  exact k H locs ls hW hS hl
theorem z_iret (K : zF p m meth c cc nL ret s args Ts own g) (hret : ret = some .int) {post : Int → (Nat → va_E) → Prop} {z : Int} (hdg : decode cc pc = .ok (.ireturn, 1)) (h : post z C) : Z p l e R s m args below meth c (MQ below (zQi g post) args s kc ks (zA g)) g nL kc ks C lv pc [.int (iZ z)] := by
  intro H locs ls hW hS hl
  exact W.iret K.1.1 K.1.2.1 (K.2.1.trans hret) (fun t ht _ => ⟨⟨iZ z, C, rfl, ⟨z, rfl, h⟩, by show zW g C t.heap; rw [ht]; exact hW⟩, hS.F ht⟩) hS.2.2 hdg K.2.2.1
theorem z_zret (K : zF p m meth c cc nL ret s args Ts own g) (hret : ret = some .boolean) {post : Int → (Nat → va_E) → Prop} {z : Int} (hz : z = 0 ∨ z = 1) (hdg : decode cc pc = .ok (.ireturn, 1)) (h : post z C) : Z p l e R s m args below meth c (MQ below (zQi g post) args s kc ks (zA g)) g nL kc ks C lv pc [.int (iZ z)] := by
  intro H locs ls hW hS hl
  exact W.zret K.1.1 K.1.2.1 (K.2.1.trans hret) (by rcases hz with rfl | rfl <;> rfl) (fun t ht _ => ⟨⟨iZ z, C, rfl, ⟨z, rfl, h⟩, by show zW g C t.heap; rw [ht]; exact hW⟩, hS.F ht⟩) hS.2.2 hdg K.2.2.1
theorem z_vret (K : zF p m meth c cc nL ret s args Ts own g) (hret : ret = none) {post : (Nat → va_E) → Prop} (hdg : decode cc pc = .ok (.return_, 1)) (h : post C) : Z p l e R s m args below meth c (MQ below (zQv g post) args s kc ks (zA g)) g nL kc ks C lv pc [] := by
  intro H locs ls hW hS hl
  exact W.vret K.1.1 K.1.2.1 (K.2.1.trans hret) (fun t ht _ => ⟨⟨C, rfl, h, by show zW g C t.heap; rw [ht]; exact hW⟩, hS.F ht⟩) hS.2.2 hdg K.2.2.1
theorem z_lret (K : zF p m meth c cc nL ret s args Ts own g) (hret : ret = some .long) {post : Int64 → (Nat → va_E) → Prop} {z : Int64} (hdg : decode cc pc = .ok (.lreturn, 1)) (h : post z C) : Z p l e R s m args below meth c (MQ below (zQl g post) args s kc ks (zA g)) g nL kc ks C lv pc [.long z] := by
  intro H locs ls hW hS hl
  exact W.lret K.1.1 K.1.2.1 (K.2.1.trans hret) (fun t ht _ => ⟨⟨z, C, rfl, h, by show zW g C t.heap; rw [ht]; exact hW⟩, hS.F ht⟩) hS.2.2 hdg K.2.2.1
theorem z_dret (K : zF p m meth c cc nL ret s args Ts own g) (hret : ret = some .double) {post : UInt64 → (Nat → va_E) → Prop} {z : UInt64} (hdg : decode cc pc = .ok (.dreturn, 1)) (h : post z C) : Z p l e R s m args below meth c (MQ below (zQd g post) args s kc ks (zA g)) g nL kc ks C lv pc [.double z] := by
  intro H locs ls hW hS hl
  exact W.dret K.1.1 K.1.2.1 (K.2.1.trans hret) (fun t ht _ => ⟨⟨z, C, rfl, h, by show zW g C t.heap; rw [ht]; exact hW⟩, hS.F ht⟩) hS.2.2 hdg K.2.2.1
theorem z_ret {Qc : Array Value → State → Outcome → State → Prop} {XC : String → State → State → Prop} {mc ms : Nat} (k : Z p l e R s m args below meth c (MQ below Qc args s mc ms (zA g)) g nL kc ks C lv pc st) : Z p l e R s m args below meth c (vx_MQ below Qc XC args s mc ms (zA g)) g nL kc ks C lv pc st := fun H locs ls hW hS hl => vx_ret (k H locs ls hW hS hl)
theorem z_out (hne : ∀ x ∈ c.exceptionTable.toList, False) (K : zF p m meth c cc nL ret s args Ts own g) {Qc : Array Value → State → Outcome → State → Prop} {px : String → (Nat → va_E) → Prop} {mc ms : Nat} {E : String} (hc : kc ≤ mc) (hs : ks ≤ ms) (h : px E C) : ZX p l e R s m args below meth c (vx_MQ below Qc (zX g px) args s mc ms (zA g)) g nL kc ks C lv pc st E := by
  intro H locs ls ce q hW hS hl hq hv hcl
  exact vx_out (fun x hx => (hne x hx).elim) K.2.2.1 hq hv hcl (fun t ht _ => ⟨C, trivial, ⟨h, by show zW g C t.heap; rw [ht]; exact hW⟩, hS.F ht⟩) hS.2.2 hc hs
theorem z_throw (hne : ∀ x ∈ c.exceptionTable.toList, False) (K : zF p m meth c cc nL ret s args Ts own g) (hlt : l.stackTraces = false) {cls text : String} {names : List String} {ik is ic mc ms : Nat} (hcls : Bundle.fit cls = true) (hnames : ∀ n ∈ names, Bundle.fit n = true)
    (hk : Cond.classLink own ik cls ∈ Ts) (hini : Cond.initialized cls ∈ Ts) (hstr : (own, is, text) ∈ zStr) (hat1 : ∀ w ∈ (vx_atS own ic cls names).filter goodWord, w ∈ Ts) (hat2 : ∀ w ∈ (vx_atS own ic cls names).filter (fun w => !goodWord w), w ∈ zBad)
    (hgood : ∀ w ∈ Cond.classLink own ik cls :: Cond.initialized cls :: vx_atS own ic cls names, vx_ot w = true)
    (d0 : decode cc pc = .ok (.new ik, 3)) (d3 : decode cc (pc + 3) = .ok (.dup, 1)) (d4 : decode cc (pc + 4) = .ok (.ldc is, 2)) (d6 : decode cc (pc + 6) = .ok (.invokespecial ic, 3)) (d9 : decode cc (pc + 9) = .ok (.athrow, 1))
    (hRframes : names.length + 3 < R.frames) (hRlocals : (st.map fun v => v.category).sum + (13 * (names.length + 1) + 43) ≤ R.locals) (hRcells : kc + 1 ≤ R.cells) (hRslots : ks + 6 ≤ R.slots) (hc : kc + 1 ≤ mc) (hs : ks + 6 ≤ ms) {Qc : Array Value → State → Outcome → State → Prop} {px : String → (Nat → va_E) → Prop} (h : px cls C) :
    Z p l e R s m args below meth c (vx_MQ below Qc (zX g px) args s mc ms (zA g)) g nL kc ks C lv pc st := by
  intro H locs ls hW hS hl
  obtain ⟨sa, hsa⟩ := K.2.2.2.2.2.2.2.2.1 _ hstr
  have hts := K.1.2.2.2.2
  have hbad : ∀ w ∈ zBad, w.before args s = true := fun w hw => va_Nw.use (zBad_tab hw) (K.2.2.2.2.2.2.2.2.2 w hw)
  refine vx_throwS K.1.1 K.1.2.1 hlt K.1.2.2.2.1 hcls hnames (hts _ hk) (hts _ hini) hsa (vx_hat (fun w hw => hts w (hat1 w hw)) hat2 hbad) hgood K.2.2.2.2.2.2.1 K.2.2.2.2.2.2.2.1 hS (hl.1.trans K.1.2.2.1.symm) d0 d3 d4 d6 d9 (fun x hx => (hne x hx).elim) hRframes hRlocals hRcells hRslots K.2.2.1 (fun t _ hsz hq => ?_) hS.2.2 hc hs
  refine ⟨C, trivial, ⟨h, hW.1.kept (fun k q hk => hq q.1 (hW.1 k q hk).lt), hW.2⟩, Nat.le_trans hS.1 hsz, fun q h1 h2 => ?_⟩
  rw [hq q (Nat.lt_of_lt_of_le h1 hS.1)]
  exact hS.2.1 q h1 h2

theorem z_vVi (n : Nat) (K : zF p m meth c cc nL ret s args Ts own g) {y : MethodName} {bytes : ByteArray} {maxL mc ms na index : Nat} {rt : Option FieldType} {ws : List Cond} {rm : Room} {As rest : List Value} {CC : String} {post : Int → (Nat → va_E) → Prop}  (q : Nat) (hq : q < zN) {ci : Nat} {fs : List Value} (hc0 : C q = .inr (ci, fs)) {qc : vw_C} (hcl : vwCl[ci]? = some qc) (hcn : qc.1 = CC) (hM : Met l y ws rm (zPre g C (.ref (aD g q) :: As)) (zQi g post) mc ms (zA g)) (cw : CallW R s args own CC index y bytes maxL rt ws rm mc ms na) (hn : As.length = na) (hWd : (rest.map fun v => v.category).sum ≤ 8) (hdg : decode cc pc = .ok (.invokevirtual index, 3)) (hpc : pc + 3 = n) (hf : kc + mc ≤ R.cells ∧ ks + ms ≤ R.slots) (hst : st = As.reverse ++ .ref (aD g q) :: rest) (k : ∀ (z : Int) (C' : Nat → va_E), post z C' → Z p l e R s m args below meth c Q g nL (kc + mc) (ks + ms) C' lv n (.int (iZ z) :: rest)) : Z p l e R s m args below meth c Q g nL kc ks C lv pc st := by
  subst hpc
  subst hst
  intro H locs ls hW hS hl
  refine va_calli (va_runV (As := As) (rest := rest) K.1 hM cw ⟨zPre_blind g C _, hcn ▸ va_recv K.2.2.2.1 hW.1 hcl (by rw [zWs_get g C hq, hc0]), fun U hU hWm => ⟨rfl, by rw [hU]; exact hW, zKK.warm K.2.2.2 hS hU hWm⟩⟩ rfl hn hl.1 rfl (lv_room hWd) hdg hf) hS (fun _ _ h => h) (fun _ h => h) (fun r C1 t H1 locs1 ht _ hw hB _ _ hS1 => ?_)
  obtain ⟨z, rfl, hw⟩ := hw
  exact k z C1 hw H1 locs1 ls (by rw [← ht]; exact hB) hS1 hl
theorem z_vVv (n : Nat) (K : zF p m meth c cc nL ret s args Ts own g) {y : MethodName} {bytes : ByteArray} {maxL mc ms na index : Nat} {rt : Option FieldType} {ws : List Cond} {rm : Room} {As rest : List Value} {CC : String} {post : (Nat → va_E) → Prop}  (q : Nat) (hq : q < zN) {ci : Nat} {fs : List Value} (hc0 : C q = .inr (ci, fs)) {qc : vw_C} (hcl : vwCl[ci]? = some qc) (hcn : qc.1 = CC) (hM : Met l y ws rm (zPre g C (.ref (aD g q) :: As)) (zQv g post) mc ms (zA g)) (cw : CallW R s args own CC index y bytes maxL rt ws rm mc ms na) (hn : As.length = na) (hWd : (rest.map fun v => v.category).sum ≤ 8) (hdg : decode cc pc = .ok (.invokevirtual index, 3)) (hpc : pc + 3 = n) (hf : kc + mc ≤ R.cells ∧ ks + ms ≤ R.slots) (hst : st = As.reverse ++ .ref (aD g q) :: rest) (k : ∀ (C' : Nat → va_E), post C' → Z p l e R s m args below meth c Q g nL (kc + mc) (ks + ms) C' lv n (rest)) : Z p l e R s m args below meth c Q g nL kc ks C lv pc st := by
  subst hpc
  subst hst
  intro H locs ls hW hS hl
  refine va_callv (va_runV (As := As) (rest := rest) K.1 hM cw ⟨zPre_blind g C _, hcn ▸ va_recv K.2.2.2.1 hW.1 hcl (by rw [zWs_get g C hq, hc0]), fun U hU hWm => ⟨rfl, by rw [hU]; exact hW, zKK.warm K.2.2.2 hS hU hWm⟩⟩ rfl hn hl.1 rfl (lv_room hWd) hdg hf) hS (fun _ _ h => h) (fun _ h => h) (fun C1 t H1 locs1 ht _ hw hB _ _ hS1 => ?_)
  exact k C1 hw H1 locs1 ls (by rw [← ht]; exact hB) hS1 hl
theorem z_vVl (n : Nat) (K : zF p m meth c cc nL ret s args Ts own g) {y : MethodName} {bytes : ByteArray} {maxL mc ms na index : Nat} {rt : Option FieldType} {ws : List Cond} {rm : Room} {As rest : List Value} {CC : String} {post : Int64 → (Nat → va_E) → Prop}  (q : Nat) (hq : q < zN) {ci : Nat} {fs : List Value} (hc0 : C q = .inr (ci, fs)) {qc : vw_C} (hcl : vwCl[ci]? = some qc) (hcn : qc.1 = CC) (hM : Met l y ws rm (zPre g C (.ref (aD g q) :: As)) (zQl g post) mc ms (zA g)) (cw : CallW R s args own CC index y bytes maxL rt ws rm mc ms na) (hn : As.length = na) (hWd : (rest.map fun v => v.category).sum ≤ 8) (hdg : decode cc pc = .ok (.invokevirtual index, 3)) (hpc : pc + 3 = n) (hf : kc + mc ≤ R.cells ∧ ks + ms ≤ R.slots) (hst : st = As.reverse ++ .ref (aD g q) :: rest) (k : ∀ (z : Int64) (C' : Nat → va_E), post z C' → Z p l e R s m args below meth c Q g nL (kc + mc) (ks + ms) C' lv n (.long z :: rest)) : Z p l e R s m args below meth c Q g nL kc ks C lv pc st := by
  subst hpc
  subst hst
  intro H locs ls hW hS hl
  refine va_calll (va_runV (As := As) (rest := rest) K.1 hM cw ⟨zPre_blind g C _, hcn ▸ va_recv K.2.2.2.1 hW.1 hcl (by rw [zWs_get g C hq, hc0]), fun U hU hWm => ⟨rfl, by rw [hU]; exact hW, zKK.warm K.2.2.2 hS hU hWm⟩⟩ rfl hn hl.1 rfl (lv_room hWd) hdg hf) hS (fun _ _ h => h) (fun _ h => h) (fun r C1 t H1 locs1 ht _ hw hB _ _ hS1 => ?_)
  exact k r C1 hw H1 locs1 ls (by rw [← ht]; exact hB) hS1 hl
theorem z_vVd (n : Nat) (K : zF p m meth c cc nL ret s args Ts own g) {y : MethodName} {bytes : ByteArray} {maxL mc ms na index : Nat} {rt : Option FieldType} {ws : List Cond} {rm : Room} {As rest : List Value} {CC : String} {post : UInt64 → (Nat → va_E) → Prop}  (q : Nat) (hq : q < zN) {ci : Nat} {fs : List Value} (hc0 : C q = .inr (ci, fs)) {qc : vw_C} (hcl : vwCl[ci]? = some qc) (hcn : qc.1 = CC) (hM : Met l y ws rm (zPre g C (.ref (aD g q) :: As)) (zQd g post) mc ms (zA g)) (cw : CallW R s args own CC index y bytes maxL rt ws rm mc ms na) (hn : As.length = na) (hWd : (rest.map fun v => v.category).sum ≤ 8) (hdg : decode cc pc = .ok (.invokevirtual index, 3)) (hpc : pc + 3 = n) (hf : kc + mc ≤ R.cells ∧ ks + ms ≤ R.slots) (hst : st = As.reverse ++ .ref (aD g q) :: rest) (k : ∀ (z : UInt64) (C' : Nat → va_E), post z C' → Z p l e R s m args below meth c Q g nL (kc + mc) (ks + ms) C' lv n (.double z :: rest)) : Z p l e R s m args below meth c Q g nL kc ks C lv pc st := by
  subst hpc
  subst hst
  intro H locs ls hW hS hl
  refine va_calld (va_runV (As := As) (rest := rest) K.1 hM cw ⟨zPre_blind g C _, hcn ▸ va_recv K.2.2.2.1 hW.1 hcl (by rw [zWs_get g C hq, hc0]), fun U hU hWm => ⟨rfl, by rw [hU]; exact hW, zKK.warm K.2.2.2 hS hU hWm⟩⟩ rfl hn hl.1 rfl (lv_room hWd) hdg hf) hS (fun _ _ h => h) (fun _ h => h) (fun r C1 t H1 locs1 ht _ hw hB _ _ hS1 => ?_)
  exact k r C1 hw H1 locs1 ls (by rw [← ht]; exact hB) hS1 hl
theorem z_xVi (n : Nat) (K : zF p m meth c cc nL ret s args Ts own g) {y : MethodName} {bytes : ByteArray} {maxL mc ms na index : Nat} {rt : Option FieldType} {ws : List Cond} {rm : Room} {As rest : List Value} {CC : String} {post : Int → (Nat → va_E) → Prop}  (q : Nat) (hq : q < zN) {ci : Nat} {fs : List Value} (hc0 : C q = .inr (ci, fs)) {qc : vw_C} (hcl : vwCl[ci]? = some qc) (hcn : qc.1 = CC) {px : String → (Nat → va_E) → Prop} (hM : vx_Met l y ws rm (zPre g C (.ref (aD g q) :: As)) (zQi g post) (zX g px) mc ms (zA g)) (cw : CallW R s args own CC index y bytes maxL rt ws rm mc ms na) (hn : As.length = na) (hWd : (rest.map fun v => v.category).sum ≤ 8) (hdg : decode cc pc = .ok (.invokevirtual index, 3)) (hpc : pc + 3 = n) (hf : kc + mc ≤ R.cells ∧ ks + ms ≤ R.slots) (hst : st = As.reverse ++ .ref (aD g q) :: rest) (kx : ∀ (E : String) (C' : Nat → va_E), px E C' → ZX p l e R s m args below meth c Q g nL (kc + mc) (ks + ms) C' lv pc rest E) (k : ∀ (z : Int) (C' : Nat → va_E), post z C' → Z p l e R s m args below meth c Q g nL (kc + mc) (ks + ms) C' lv n (.int (iZ z) :: rest)) : Z p l e R s m args below meth c Q g nL kc ks C lv pc st := by
  subst hpc
  subst hst
  intro H locs ls hW hS hl
  refine vx_calli (vx_runV (As := As) (rest := rest) K.1 hM cw ⟨zPre_blind g C _, hcn ▸ va_recv K.2.2.2.1 hW.1 hcl (by rw [zWs_get g C hq, hc0]), fun U hU hWm => ⟨rfl, by rw [hU]; exact hW, zKK.warm K.2.2.2 hS hU hWm⟩⟩ rfl hn hl.1 rfl (lv_room hWd) hdg hf) hS (fun _ _ h => h) (fun _ h => h) (fun _ _ h => h) (fun E ce q9 u t H1 locs1 ht _ _ hB _ _ hS1 h1 h2 h3 => kx E u hB.1 H1 locs1 ls ce q9 (by rw [← ht]; exact hB.2) hS1 hl h1 h2 h3) (fun r C1 t H1 locs1 ht _ hw hB _ _ hS1 => ?_)
  obtain ⟨z, rfl, hw⟩ := hw
  exact k z C1 hw H1 locs1 ls (by rw [← ht]; exact hB) hS1 hl
theorem z_xVv (n : Nat) (K : zF p m meth c cc nL ret s args Ts own g) {y : MethodName} {bytes : ByteArray} {maxL mc ms na index : Nat} {rt : Option FieldType} {ws : List Cond} {rm : Room} {As rest : List Value} {CC : String} {post : (Nat → va_E) → Prop}  (q : Nat) (hq : q < zN) {ci : Nat} {fs : List Value} (hc0 : C q = .inr (ci, fs)) {qc : vw_C} (hcl : vwCl[ci]? = some qc) (hcn : qc.1 = CC) {px : String → (Nat → va_E) → Prop} (hM : vx_Met l y ws rm (zPre g C (.ref (aD g q) :: As)) (zQv g post) (zX g px) mc ms (zA g)) (cw : CallW R s args own CC index y bytes maxL rt ws rm mc ms na) (hn : As.length = na) (hWd : (rest.map fun v => v.category).sum ≤ 8) (hdg : decode cc pc = .ok (.invokevirtual index, 3)) (hpc : pc + 3 = n) (hf : kc + mc ≤ R.cells ∧ ks + ms ≤ R.slots) (hst : st = As.reverse ++ .ref (aD g q) :: rest) (kx : ∀ (E : String) (C' : Nat → va_E), px E C' → ZX p l e R s m args below meth c Q g nL (kc + mc) (ks + ms) C' lv pc rest E) (k : ∀ (C' : Nat → va_E), post C' → Z p l e R s m args below meth c Q g nL (kc + mc) (ks + ms) C' lv n (rest)) : Z p l e R s m args below meth c Q g nL kc ks C lv pc st := by
  subst hpc
  subst hst
  intro H locs ls hW hS hl
  refine vx_callv (vx_runV (As := As) (rest := rest) K.1 hM cw ⟨zPre_blind g C _, hcn ▸ va_recv K.2.2.2.1 hW.1 hcl (by rw [zWs_get g C hq, hc0]), fun U hU hWm => ⟨rfl, by rw [hU]; exact hW, zKK.warm K.2.2.2 hS hU hWm⟩⟩ rfl hn hl.1 rfl (lv_room hWd) hdg hf) hS (fun _ _ h => h) (fun _ h => h) (fun _ _ h => h) (fun E ce q9 u t H1 locs1 ht _ _ hB _ _ hS1 h1 h2 h3 => kx E u hB.1 H1 locs1 ls ce q9 (by rw [← ht]; exact hB.2) hS1 hl h1 h2 h3) (fun C1 t H1 locs1 ht _ hw hB _ _ hS1 => ?_)
  exact k C1 hw H1 locs1 ls (by rw [← ht]; exact hB) hS1 hl
theorem z_xVl (n : Nat) (K : zF p m meth c cc nL ret s args Ts own g) {y : MethodName} {bytes : ByteArray} {maxL mc ms na index : Nat} {rt : Option FieldType} {ws : List Cond} {rm : Room} {As rest : List Value} {CC : String} {post : Int64 → (Nat → va_E) → Prop}  (q : Nat) (hq : q < zN) {ci : Nat} {fs : List Value} (hc0 : C q = .inr (ci, fs)) {qc : vw_C} (hcl : vwCl[ci]? = some qc) (hcn : qc.1 = CC) {px : String → (Nat → va_E) → Prop} (hM : vx_Met l y ws rm (zPre g C (.ref (aD g q) :: As)) (zQl g post) (zX g px) mc ms (zA g)) (cw : CallW R s args own CC index y bytes maxL rt ws rm mc ms na) (hn : As.length = na) (hWd : (rest.map fun v => v.category).sum ≤ 8) (hdg : decode cc pc = .ok (.invokevirtual index, 3)) (hpc : pc + 3 = n) (hf : kc + mc ≤ R.cells ∧ ks + ms ≤ R.slots) (hst : st = As.reverse ++ .ref (aD g q) :: rest) (kx : ∀ (E : String) (C' : Nat → va_E), px E C' → ZX p l e R s m args below meth c Q g nL (kc + mc) (ks + ms) C' lv pc rest E) (k : ∀ (z : Int64) (C' : Nat → va_E), post z C' → Z p l e R s m args below meth c Q g nL (kc + mc) (ks + ms) C' lv n (.long z :: rest)) : Z p l e R s m args below meth c Q g nL kc ks C lv pc st := by
  subst hpc
  subst hst
  intro H locs ls hW hS hl
  refine vx_calll (vx_runV (As := As) (rest := rest) K.1 hM cw ⟨zPre_blind g C _, hcn ▸ va_recv K.2.2.2.1 hW.1 hcl (by rw [zWs_get g C hq, hc0]), fun U hU hWm => ⟨rfl, by rw [hU]; exact hW, zKK.warm K.2.2.2 hS hU hWm⟩⟩ rfl hn hl.1 rfl (lv_room hWd) hdg hf) hS (fun _ _ h => h) (fun _ h => h) (fun _ _ h => h) (fun E ce q9 u t H1 locs1 ht _ _ hB _ _ hS1 h1 h2 h3 => kx E u hB.1 H1 locs1 ls ce q9 (by rw [← ht]; exact hB.2) hS1 hl h1 h2 h3) (fun r C1 t H1 locs1 ht _ hw hB _ _ hS1 => ?_)
  exact k r C1 hw H1 locs1 ls (by rw [← ht]; exact hB) hS1 hl
theorem z_xVd (n : Nat) (K : zF p m meth c cc nL ret s args Ts own g) {y : MethodName} {bytes : ByteArray} {maxL mc ms na index : Nat} {rt : Option FieldType} {ws : List Cond} {rm : Room} {As rest : List Value} {CC : String} {post : UInt64 → (Nat → va_E) → Prop}  (q : Nat) (hq : q < zN) {ci : Nat} {fs : List Value} (hc0 : C q = .inr (ci, fs)) {qc : vw_C} (hcl : vwCl[ci]? = some qc) (hcn : qc.1 = CC) {px : String → (Nat → va_E) → Prop} (hM : vx_Met l y ws rm (zPre g C (.ref (aD g q) :: As)) (zQd g post) (zX g px) mc ms (zA g)) (cw : CallW R s args own CC index y bytes maxL rt ws rm mc ms na) (hn : As.length = na) (hWd : (rest.map fun v => v.category).sum ≤ 8) (hdg : decode cc pc = .ok (.invokevirtual index, 3)) (hpc : pc + 3 = n) (hf : kc + mc ≤ R.cells ∧ ks + ms ≤ R.slots) (hst : st = As.reverse ++ .ref (aD g q) :: rest) (kx : ∀ (E : String) (C' : Nat → va_E), px E C' → ZX p l e R s m args below meth c Q g nL (kc + mc) (ks + ms) C' lv pc rest E) (k : ∀ (z : UInt64) (C' : Nat → va_E), post z C' → Z p l e R s m args below meth c Q g nL (kc + mc) (ks + ms) C' lv n (.double z :: rest)) : Z p l e R s m args below meth c Q g nL kc ks C lv pc st := by
  subst hpc
  subst hst
  intro H locs ls hW hS hl
  refine vx_calld (vx_runV (As := As) (rest := rest) K.1 hM cw ⟨zPre_blind g C _, hcn ▸ va_recv K.2.2.2.1 hW.1 hcl (by rw [zWs_get g C hq, hc0]), fun U hU hWm => ⟨rfl, by rw [hU]; exact hW, zKK.warm K.2.2.2 hS hU hWm⟩⟩ rfl hn hl.1 rfl (lv_room hWd) hdg hf) hS (fun _ _ h => h) (fun _ h => h) (fun _ _ h => h) (fun E ce q9 u t H1 locs1 ht _ _ hB _ _ hS1 h1 h2 h3 => kx E u hB.1 H1 locs1 ls ce q9 (by rw [← ht]; exact hB.2) hS1 hl h1 h2 h3) (fun r C1 t H1 locs1 ht _ hw hB _ _ hS1 => ?_)
  exact k r C1 hw H1 locs1 ls (by rw [← ht]; exact hB) hS1 hl
theorem z_vSi (n : Nat) (K : zF p m meth c cc nL ret s args Ts own g) {y : MethodName} {bytes : ByteArray} {maxL mc ms na index : Nat} {rt : Option FieldType} {ws : List Cond} {rm : Room} {As rest : List Value} {post : Int → (Nat → va_E) → Prop}  (hM : Met l y ws rm (zPre g C As) (zQi g post) mc ms (zA g)) (cw : CallB R s args own index y bytes maxL rt ws rm mc ms na ∧ (Cond.static y).before args s = true) (hn : As.length = na) (hWd : (rest.map fun v => v.category).sum ≤ 8) (hdg : decode cc pc = .ok (.invokestatic index, 3)) (hpc : pc + 3 = n) (hf : kc + mc ≤ R.cells ∧ ks + ms ≤ R.slots) (hst : st = As.reverse ++ rest) (k : ∀ (z : Int) (C' : Nat → va_E), post z C' → Z p l e R s m args below meth c Q g nL (kc + mc) (ks + ms) C' lv n (.int (iZ z) :: rest)) : Z p l e R s m args below meth c Q g nL kc ks C lv pc st := by
  subst hpc
  subst hst
  intro H locs ls hW hS hl
  refine va_calli (va_runS (As := As) (rest := rest) K.1 hM cw ⟨zPre_blind g C _, fun U hU hWm => ⟨rfl, by rw [hU]; exact hW, zKK.warm K.2.2.2 hS hU hWm⟩⟩ rfl hn hl.1 rfl (lv_room hWd) hdg hf) hS (fun _ _ h => h) (fun _ h => h) (fun r C1 t H1 locs1 ht _ hw hB _ _ hS1 => ?_)
  obtain ⟨z, rfl, hw⟩ := hw
  exact k z C1 hw H1 locs1 ls (by rw [← ht]; exact hB) hS1 hl
theorem z_vSv (n : Nat) (K : zF p m meth c cc nL ret s args Ts own g) {y : MethodName} {bytes : ByteArray} {maxL mc ms na index : Nat} {rt : Option FieldType} {ws : List Cond} {rm : Room} {As rest : List Value} {post : (Nat → va_E) → Prop}  (hM : Met l y ws rm (zPre g C As) (zQv g post) mc ms (zA g)) (cw : CallB R s args own index y bytes maxL rt ws rm mc ms na ∧ (Cond.static y).before args s = true) (hn : As.length = na) (hWd : (rest.map fun v => v.category).sum ≤ 8) (hdg : decode cc pc = .ok (.invokestatic index, 3)) (hpc : pc + 3 = n) (hf : kc + mc ≤ R.cells ∧ ks + ms ≤ R.slots) (hst : st = As.reverse ++ rest) (k : ∀ (C' : Nat → va_E), post C' → Z p l e R s m args below meth c Q g nL (kc + mc) (ks + ms) C' lv n (rest)) : Z p l e R s m args below meth c Q g nL kc ks C lv pc st := by
  subst hpc
  subst hst
  intro H locs ls hW hS hl
  refine va_callv (va_runS (As := As) (rest := rest) K.1 hM cw ⟨zPre_blind g C _, fun U hU hWm => ⟨rfl, by rw [hU]; exact hW, zKK.warm K.2.2.2 hS hU hWm⟩⟩ rfl hn hl.1 rfl (lv_room hWd) hdg hf) hS (fun _ _ h => h) (fun _ h => h) (fun C1 t H1 locs1 ht _ hw hB _ _ hS1 => ?_)
  exact k C1 hw H1 locs1 ls (by rw [← ht]; exact hB) hS1 hl
theorem z_vSl (n : Nat) (K : zF p m meth c cc nL ret s args Ts own g) {y : MethodName} {bytes : ByteArray} {maxL mc ms na index : Nat} {rt : Option FieldType} {ws : List Cond} {rm : Room} {As rest : List Value} {post : Int64 → (Nat → va_E) → Prop}  (hM : Met l y ws rm (zPre g C As) (zQl g post) mc ms (zA g)) (cw : CallB R s args own index y bytes maxL rt ws rm mc ms na ∧ (Cond.static y).before args s = true) (hn : As.length = na) (hWd : (rest.map fun v => v.category).sum ≤ 8) (hdg : decode cc pc = .ok (.invokestatic index, 3)) (hpc : pc + 3 = n) (hf : kc + mc ≤ R.cells ∧ ks + ms ≤ R.slots) (hst : st = As.reverse ++ rest) (k : ∀ (z : Int64) (C' : Nat → va_E), post z C' → Z p l e R s m args below meth c Q g nL (kc + mc) (ks + ms) C' lv n (.long z :: rest)) : Z p l e R s m args below meth c Q g nL kc ks C lv pc st := by
  subst hpc
  subst hst
  intro H locs ls hW hS hl
  refine va_calll (va_runS (As := As) (rest := rest) K.1 hM cw ⟨zPre_blind g C _, fun U hU hWm => ⟨rfl, by rw [hU]; exact hW, zKK.warm K.2.2.2 hS hU hWm⟩⟩ rfl hn hl.1 rfl (lv_room hWd) hdg hf) hS (fun _ _ h => h) (fun _ h => h) (fun r C1 t H1 locs1 ht _ hw hB _ _ hS1 => ?_)
  exact k r C1 hw H1 locs1 ls (by rw [← ht]; exact hB) hS1 hl
theorem z_vSd (n : Nat) (K : zF p m meth c cc nL ret s args Ts own g) {y : MethodName} {bytes : ByteArray} {maxL mc ms na index : Nat} {rt : Option FieldType} {ws : List Cond} {rm : Room} {As rest : List Value} {post : UInt64 → (Nat → va_E) → Prop}  (hM : Met l y ws rm (zPre g C As) (zQd g post) mc ms (zA g)) (cw : CallB R s args own index y bytes maxL rt ws rm mc ms na ∧ (Cond.static y).before args s = true) (hn : As.length = na) (hWd : (rest.map fun v => v.category).sum ≤ 8) (hdg : decode cc pc = .ok (.invokestatic index, 3)) (hpc : pc + 3 = n) (hf : kc + mc ≤ R.cells ∧ ks + ms ≤ R.slots) (hst : st = As.reverse ++ rest) (k : ∀ (z : UInt64) (C' : Nat → va_E), post z C' → Z p l e R s m args below meth c Q g nL (kc + mc) (ks + ms) C' lv n (.double z :: rest)) : Z p l e R s m args below meth c Q g nL kc ks C lv pc st := by
  subst hpc
  subst hst
  intro H locs ls hW hS hl
  refine va_calld (va_runS (As := As) (rest := rest) K.1 hM cw ⟨zPre_blind g C _, fun U hU hWm => ⟨rfl, by rw [hU]; exact hW, zKK.warm K.2.2.2 hS hU hWm⟩⟩ rfl hn hl.1 rfl (lv_room hWd) hdg hf) hS (fun _ _ h => h) (fun _ h => h) (fun r C1 t H1 locs1 ht _ hw hB _ _ hS1 => ?_)
  exact k r C1 hw H1 locs1 ls (by rw [← ht]; exact hB) hS1 hl
theorem z_xSi (n : Nat) (K : zF p m meth c cc nL ret s args Ts own g) {y : MethodName} {bytes : ByteArray} {maxL mc ms na index : Nat} {rt : Option FieldType} {ws : List Cond} {rm : Room} {As rest : List Value} {post : Int → (Nat → va_E) → Prop}  {px : String → (Nat → va_E) → Prop} (hM : vx_Met l y ws rm (zPre g C As) (zQi g post) (zX g px) mc ms (zA g)) (cw : CallB R s args own index y bytes maxL rt ws rm mc ms na ∧ (Cond.static y).before args s = true) (hn : As.length = na) (hWd : (rest.map fun v => v.category).sum ≤ 8) (hdg : decode cc pc = .ok (.invokestatic index, 3)) (hpc : pc + 3 = n) (hf : kc + mc ≤ R.cells ∧ ks + ms ≤ R.slots) (hst : st = As.reverse ++ rest) (kx : ∀ (E : String) (C' : Nat → va_E), px E C' → ZX p l e R s m args below meth c Q g nL (kc + mc) (ks + ms) C' lv pc rest E) (k : ∀ (z : Int) (C' : Nat → va_E), post z C' → Z p l e R s m args below meth c Q g nL (kc + mc) (ks + ms) C' lv n (.int (iZ z) :: rest)) : Z p l e R s m args below meth c Q g nL kc ks C lv pc st := by
  subst hpc
  subst hst
  intro H locs ls hW hS hl
  refine vx_calli (vx_runS (As := As) (rest := rest) K.1 hM cw ⟨zPre_blind g C _, fun U hU hWm => ⟨rfl, by rw [hU]; exact hW, zKK.warm K.2.2.2 hS hU hWm⟩⟩ rfl hn hl.1 rfl (lv_room hWd) hdg hf) hS (fun _ _ h => h) (fun _ h => h) (fun _ _ h => h) (fun E ce q9 u t H1 locs1 ht _ _ hB _ _ hS1 h1 h2 h3 => kx E u hB.1 H1 locs1 ls ce q9 (by rw [← ht]; exact hB.2) hS1 hl h1 h2 h3) (fun r C1 t H1 locs1 ht _ hw hB _ _ hS1 => ?_)
  obtain ⟨z, rfl, hw⟩ := hw
  exact k z C1 hw H1 locs1 ls (by rw [← ht]; exact hB) hS1 hl
theorem z_xSv (n : Nat) (K : zF p m meth c cc nL ret s args Ts own g) {y : MethodName} {bytes : ByteArray} {maxL mc ms na index : Nat} {rt : Option FieldType} {ws : List Cond} {rm : Room} {As rest : List Value} {post : (Nat → va_E) → Prop}  {px : String → (Nat → va_E) → Prop} (hM : vx_Met l y ws rm (zPre g C As) (zQv g post) (zX g px) mc ms (zA g)) (cw : CallB R s args own index y bytes maxL rt ws rm mc ms na ∧ (Cond.static y).before args s = true) (hn : As.length = na) (hWd : (rest.map fun v => v.category).sum ≤ 8) (hdg : decode cc pc = .ok (.invokestatic index, 3)) (hpc : pc + 3 = n) (hf : kc + mc ≤ R.cells ∧ ks + ms ≤ R.slots) (hst : st = As.reverse ++ rest) (kx : ∀ (E : String) (C' : Nat → va_E), px E C' → ZX p l e R s m args below meth c Q g nL (kc + mc) (ks + ms) C' lv pc rest E) (k : ∀ (C' : Nat → va_E), post C' → Z p l e R s m args below meth c Q g nL (kc + mc) (ks + ms) C' lv n (rest)) : Z p l e R s m args below meth c Q g nL kc ks C lv pc st := by
  subst hpc
  subst hst
  intro H locs ls hW hS hl
  refine vx_callv (vx_runS (As := As) (rest := rest) K.1 hM cw ⟨zPre_blind g C _, fun U hU hWm => ⟨rfl, by rw [hU]; exact hW, zKK.warm K.2.2.2 hS hU hWm⟩⟩ rfl hn hl.1 rfl (lv_room hWd) hdg hf) hS (fun _ _ h => h) (fun _ h => h) (fun _ _ h => h) (fun E ce q9 u t H1 locs1 ht _ _ hB _ _ hS1 h1 h2 h3 => kx E u hB.1 H1 locs1 ls ce q9 (by rw [← ht]; exact hB.2) hS1 hl h1 h2 h3) (fun C1 t H1 locs1 ht _ hw hB _ _ hS1 => ?_)
  exact k C1 hw H1 locs1 ls (by rw [← ht]; exact hB) hS1 hl
theorem z_xSl (n : Nat) (K : zF p m meth c cc nL ret s args Ts own g) {y : MethodName} {bytes : ByteArray} {maxL mc ms na index : Nat} {rt : Option FieldType} {ws : List Cond} {rm : Room} {As rest : List Value} {post : Int64 → (Nat → va_E) → Prop}  {px : String → (Nat → va_E) → Prop} (hM : vx_Met l y ws rm (zPre g C As) (zQl g post) (zX g px) mc ms (zA g)) (cw : CallB R s args own index y bytes maxL rt ws rm mc ms na ∧ (Cond.static y).before args s = true) (hn : As.length = na) (hWd : (rest.map fun v => v.category).sum ≤ 8) (hdg : decode cc pc = .ok (.invokestatic index, 3)) (hpc : pc + 3 = n) (hf : kc + mc ≤ R.cells ∧ ks + ms ≤ R.slots) (hst : st = As.reverse ++ rest) (kx : ∀ (E : String) (C' : Nat → va_E), px E C' → ZX p l e R s m args below meth c Q g nL (kc + mc) (ks + ms) C' lv pc rest E) (k : ∀ (z : Int64) (C' : Nat → va_E), post z C' → Z p l e R s m args below meth c Q g nL (kc + mc) (ks + ms) C' lv n (.long z :: rest)) : Z p l e R s m args below meth c Q g nL kc ks C lv pc st := by
  subst hpc
  subst hst
  intro H locs ls hW hS hl
  refine vx_calll (vx_runS (As := As) (rest := rest) K.1 hM cw ⟨zPre_blind g C _, fun U hU hWm => ⟨rfl, by rw [hU]; exact hW, zKK.warm K.2.2.2 hS hU hWm⟩⟩ rfl hn hl.1 rfl (lv_room hWd) hdg hf) hS (fun _ _ h => h) (fun _ h => h) (fun _ _ h => h) (fun E ce q9 u t H1 locs1 ht _ _ hB _ _ hS1 h1 h2 h3 => kx E u hB.1 H1 locs1 ls ce q9 (by rw [← ht]; exact hB.2) hS1 hl h1 h2 h3) (fun r C1 t H1 locs1 ht _ hw hB _ _ hS1 => ?_)
  exact k r C1 hw H1 locs1 ls (by rw [← ht]; exact hB) hS1 hl
theorem z_xSd (n : Nat) (K : zF p m meth c cc nL ret s args Ts own g) {y : MethodName} {bytes : ByteArray} {maxL mc ms na index : Nat} {rt : Option FieldType} {ws : List Cond} {rm : Room} {As rest : List Value} {post : UInt64 → (Nat → va_E) → Prop}  {px : String → (Nat → va_E) → Prop} (hM : vx_Met l y ws rm (zPre g C As) (zQd g post) (zX g px) mc ms (zA g)) (cw : CallB R s args own index y bytes maxL rt ws rm mc ms na ∧ (Cond.static y).before args s = true) (hn : As.length = na) (hWd : (rest.map fun v => v.category).sum ≤ 8) (hdg : decode cc pc = .ok (.invokestatic index, 3)) (hpc : pc + 3 = n) (hf : kc + mc ≤ R.cells ∧ ks + ms ≤ R.slots) (hst : st = As.reverse ++ rest) (kx : ∀ (E : String) (C' : Nat → va_E), px E C' → ZX p l e R s m args below meth c Q g nL (kc + mc) (ks + ms) C' lv pc rest E) (k : ∀ (z : UInt64) (C' : Nat → va_E), post z C' → Z p l e R s m args below meth c Q g nL (kc + mc) (ks + ms) C' lv n (.double z :: rest)) : Z p l e R s m args below meth c Q g nL kc ks C lv pc st := by
  subst hpc
  subst hst
  intro H locs ls hW hS hl
  refine vx_calld (vx_runS (As := As) (rest := rest) K.1 hM cw ⟨zPre_blind g C _, fun U hU hWm => ⟨rfl, by rw [hU]; exact hW, zKK.warm K.2.2.2 hS hU hWm⟩⟩ rfl hn hl.1 rfl (lv_room hWd) hdg hf) hS (fun _ _ h => h) (fun _ h => h) (fun _ _ h => h) (fun E ce q9 u t H1 locs1 ht _ _ hB _ _ hS1 h1 h2 h3 => kx E u hB.1 H1 locs1 ls ce q9 (by rw [← ht]; exact hB.2) hS1 hl h1 h2 h3) (fun r C1 t H1 locs1 ht _ hw hB _ _ hS1 => ?_)
  exact k r C1 hw H1 locs1 ls (by rw [← ht]; exact hB) hS1 hl
theorem z_vNi (n : Nat) (K : zF p m meth c cc nL ret s args Ts own g) {y : MethodName} {bytes : ByteArray} {maxL mc ms na index : Nat} {rt : Option FieldType} {ws : List Cond} {rm : Room} {As rest : List Value} {host : String} {post : Int → (Nat → va_E) → Prop}  (hM : Met l y ws rm (zPre g C As) (zQi g post) mc ms (zA g)) (cw : va_CN R s args own index y host bytes maxL rt ws rm mc ms na ∧ (Cond.static y).before args s = true ∧ True) (hn : As.length = na) (hWd : (rest.map fun v => v.category).sum ≤ 8) (hdg : decode cc pc = .ok (.invokestatic index, 3)) (hpc : pc + 3 = n) (hf : kc + mc ≤ R.cells ∧ ks + ms ≤ R.slots) (hst : st = As.reverse ++ rest) (k : ∀ (z : Int) (C' : Nat → va_E), post z C' → Z p l e R s m args below meth c Q g nL (kc + mc) (ks + ms) C' lv n (.int (iZ z) :: rest)) : Z p l e R s m args below meth c Q g nL kc ks C lv pc st := by
  subst hpc
  subst hst
  intro H locs ls hW hS hl
  refine va_calli (va_runSN (As := As) (rest := rest) K.1 hM cw ⟨zPre_blind g C _, fun U hU hWm => ⟨rfl, by rw [hU]; exact hW, zKK.warm K.2.2.2 hS hU hWm⟩⟩ rfl hn hl.1 rfl (lv_room hWd) hdg hf) hS (fun _ _ h => h) (fun _ h => h) (fun r C1 t H1 locs1 ht _ hw hB _ _ hS1 => ?_)
  obtain ⟨z, rfl, hw⟩ := hw
  exact k z C1 hw H1 locs1 ls (by rw [← ht]; exact hB) hS1 hl
theorem z_vNv (n : Nat) (K : zF p m meth c cc nL ret s args Ts own g) {y : MethodName} {bytes : ByteArray} {maxL mc ms na index : Nat} {rt : Option FieldType} {ws : List Cond} {rm : Room} {As rest : List Value} {host : String} {post : (Nat → va_E) → Prop}  (hM : Met l y ws rm (zPre g C As) (zQv g post) mc ms (zA g)) (cw : va_CN R s args own index y host bytes maxL rt ws rm mc ms na ∧ (Cond.static y).before args s = true ∧ True) (hn : As.length = na) (hWd : (rest.map fun v => v.category).sum ≤ 8) (hdg : decode cc pc = .ok (.invokestatic index, 3)) (hpc : pc + 3 = n) (hf : kc + mc ≤ R.cells ∧ ks + ms ≤ R.slots) (hst : st = As.reverse ++ rest) (k : ∀ (C' : Nat → va_E), post C' → Z p l e R s m args below meth c Q g nL (kc + mc) (ks + ms) C' lv n (rest)) : Z p l e R s m args below meth c Q g nL kc ks C lv pc st := by
  subst hpc
  subst hst
  intro H locs ls hW hS hl
  refine va_callv (va_runSN (As := As) (rest := rest) K.1 hM cw ⟨zPre_blind g C _, fun U hU hWm => ⟨rfl, by rw [hU]; exact hW, zKK.warm K.2.2.2 hS hU hWm⟩⟩ rfl hn hl.1 rfl (lv_room hWd) hdg hf) hS (fun _ _ h => h) (fun _ h => h) (fun C1 t H1 locs1 ht _ hw hB _ _ hS1 => ?_)
  exact k C1 hw H1 locs1 ls (by rw [← ht]; exact hB) hS1 hl
theorem z_vNl (n : Nat) (K : zF p m meth c cc nL ret s args Ts own g) {y : MethodName} {bytes : ByteArray} {maxL mc ms na index : Nat} {rt : Option FieldType} {ws : List Cond} {rm : Room} {As rest : List Value} {host : String} {post : Int64 → (Nat → va_E) → Prop}  (hM : Met l y ws rm (zPre g C As) (zQl g post) mc ms (zA g)) (cw : va_CN R s args own index y host bytes maxL rt ws rm mc ms na ∧ (Cond.static y).before args s = true ∧ True) (hn : As.length = na) (hWd : (rest.map fun v => v.category).sum ≤ 8) (hdg : decode cc pc = .ok (.invokestatic index, 3)) (hpc : pc + 3 = n) (hf : kc + mc ≤ R.cells ∧ ks + ms ≤ R.slots) (hst : st = As.reverse ++ rest) (k : ∀ (z : Int64) (C' : Nat → va_E), post z C' → Z p l e R s m args below meth c Q g nL (kc + mc) (ks + ms) C' lv n (.long z :: rest)) : Z p l e R s m args below meth c Q g nL kc ks C lv pc st := by
  subst hpc
  subst hst
  intro H locs ls hW hS hl
  refine va_calll (va_runSN (As := As) (rest := rest) K.1 hM cw ⟨zPre_blind g C _, fun U hU hWm => ⟨rfl, by rw [hU]; exact hW, zKK.warm K.2.2.2 hS hU hWm⟩⟩ rfl hn hl.1 rfl (lv_room hWd) hdg hf) hS (fun _ _ h => h) (fun _ h => h) (fun r C1 t H1 locs1 ht _ hw hB _ _ hS1 => ?_)
  exact k r C1 hw H1 locs1 ls (by rw [← ht]; exact hB) hS1 hl
theorem z_vNd (n : Nat) (K : zF p m meth c cc nL ret s args Ts own g) {y : MethodName} {bytes : ByteArray} {maxL mc ms na index : Nat} {rt : Option FieldType} {ws : List Cond} {rm : Room} {As rest : List Value} {host : String} {post : UInt64 → (Nat → va_E) → Prop}  (hM : Met l y ws rm (zPre g C As) (zQd g post) mc ms (zA g)) (cw : va_CN R s args own index y host bytes maxL rt ws rm mc ms na ∧ (Cond.static y).before args s = true ∧ True) (hn : As.length = na) (hWd : (rest.map fun v => v.category).sum ≤ 8) (hdg : decode cc pc = .ok (.invokestatic index, 3)) (hpc : pc + 3 = n) (hf : kc + mc ≤ R.cells ∧ ks + ms ≤ R.slots) (hst : st = As.reverse ++ rest) (k : ∀ (z : UInt64) (C' : Nat → va_E), post z C' → Z p l e R s m args below meth c Q g nL (kc + mc) (ks + ms) C' lv n (.double z :: rest)) : Z p l e R s m args below meth c Q g nL kc ks C lv pc st := by
  subst hpc
  subst hst
  intro H locs ls hW hS hl
  refine va_calld (va_runSN (As := As) (rest := rest) K.1 hM cw ⟨zPre_blind g C _, fun U hU hWm => ⟨rfl, by rw [hU]; exact hW, zKK.warm K.2.2.2 hS hU hWm⟩⟩ rfl hn hl.1 rfl (lv_room hWd) hdg hf) hS (fun _ _ h => h) (fun _ h => h) (fun r C1 t H1 locs1 ht _ hw hB _ _ hS1 => ?_)
  exact k r C1 hw H1 locs1 ls (by rw [← ht]; exact hB) hS1 hl
end ZKB
