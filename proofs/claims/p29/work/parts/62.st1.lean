/-! the world at the law's loop: what it says -/
section YSB
theorem yfm {α β : Type} {is : List α} {f : α → Option β} {ws : List β} (h : is.map f = ws.map some) : is.filterMap f = ws := by
  have h2 : (is.map f).filterMap id = (ws.map some).filterMap id := by rw [h]
  rw [List.filterMap_map, List.filterMap_map] at h2
  simpa using h2
theorem scell_ag (cA : ClassId) {n : Nat} {f h : Nat → Option Nat} (hag : ∀ j : Nat, j < n → h j = f j) : vp_cell cA (n, .inr (.inr (.inr (.inr h)))) = vp_cell cA (n, .inr (.inr (.inr (.inr f)))) := by
  rw [vp_cell_q, vp_cell_q]
  unfold arrV
  have e : (Array.ofFn (n := n) fun j => va_rf (h j.val)) = Array.ofFn (n := n) fun j => va_rf (f j.val) := by
    congr 1
    funext j
    rw [hag j.val j.isLt]
  rw [e]
theorem zW_agS {g : zG} {C : Nat → va_E} {q n : Nat} {f h : Nat → Option Nat} {H : Heap} (hag : ∀ j : Nat, j < n → h j = f j) (hW : zW g (va_up C q (eS g n h)) H) : zW g (va_up C q (eS g n f)) H := by
  refine ⟨fun k x hx => ?_, zWs_D hW.2⟩
  by_cases hk : k < zN
  · rw [zWs_get g _ hk] at hx
    cases hx
    have h0 := hW.1 k _ (zWs_get g _ hk)
    by_cases hq : k = q
    · subst hq
      rw [va_up_eq] at h0 ⊢
      show H[aD g k]? = some (vp_cell _ _)
      rw [← scell_ag g.2.1.2.2.1 hag]
      exact h0
    · rw [va_up_ne _ _ hq] at h0 ⊢
      exact h0
  · exfalso
    rw [List.getElem?_eq_none (by simp [zWs]; omega)] at hx
    cases hx
theorem s6_fin (g0 : zG) (b8 : Nat → Nat) : ∀ j : Nat, j < 6 → s6 (fun i => b8 (i + 21)) j = Sfin (gAt g0 b8) j := by
  intro j hj
  rcases (show j = 0 ∨ j = 1 ∨ j = 2 ∨ j = 3 ∨ j = 4 ∨ j = 5 by omega) with rfl | rfl | rfl | rfl | rfl | rfl <;> rfl
theorem n30_fin : ∀ j : Int, 0 ≤ j → j < (30 : Nat) → n30 30 j = j := by
  intro j h0 h1
  unfold n30
  rw [if_pos ⟨h0, by omega⟩]
theorem y_world {g0 : zG} {b8 : Nat → Nat} {H : Heap} (h : yW g0 ([] ++ blk8 g0 b8) H) : zW (gAt g0 b8) (yC (gAt g0 b8) (Sfin (gAt g0 b8)) (fun k => k)) H := by
  have hp := y_perm g0 b8
  have h1 : zW (gAt g0 b8) (yC (gAt g0 b8) (s6 (fun i => b8 (i + 21))) (n30 30)) H := ⟨h.1.sub yix (yfm hp), h.2.sub yix (by decide) hp⟩
  have h2 : zW (gAt g0 b8) (yC (gAt g0 b8) (s6 (fun i => b8 (i + 21))) (fun k => k)) H := zW_ag n30_fin h1
  unfold yC at h2 ⊢
  rw [va_ur1 (by decide)] at h2
  rw [va_ur1 (by decide)]
  exact zW_agS (s6_fin g0 b8) h2
theorem y_kk {g0 : zG} {b8 : Nat → Nat} {U : State} (h : zKK g0 U) : zKK (gAt g0 b8) U := h
theorem f60 : n60 12 0 = 60 ∧ n60 12 1 = 0 ∧ n60 12 2 = 0 := by decide
theorem f60_c (a : Int) (h0 : 0 ≤ a) (h1 : a < 12) : n60 12 (32 * a + 65) = 0 ∧ n60 12 (32 * a + 78) = -1 := by
  unfold n60
  rw [if_neg (by omega), if_neg (by omega), if_neg (by omega), if_pos (by omega)]
  exact ⟨rfl, rfl⟩
theorem f60_rg : ∀ j, -2147483648 ≤ n60 12 j ∧ n60 12 j < 2147483648 := by
  intro j
  unfold n60
  (repeat' split) <;> omega
theorem rg0 : Rg (fun _ => 0) := fun j => by dsimp only; omega
theorem n12_rg : Rg (n12 12) := by
  intro j
  unfold n12
  split <;> omega
theorem RS0 : RS (n60 12) (fun _ => 0) (fun _ => 0) (fun _ => 0) (fun _ => 0) (fun _ => 0) (n12 12) (fun _ => 0) := by
  refine ⟨fun k h0 h1 => ?_, fun a h0 h1 => ⟨(f60_c a h0 h1).1.symm, ?_⟩, fun a b h0 h1 h2 h3 => ?_, fun a b h0 h1 h2 h3 => ?_, rg0, rg0, n12_rg, rg0⟩
  · rw [f60.2.1] at h1; omega
  · rw [(f60_c a h0 h1).2]
    unfold n12
    rw [if_pos ⟨h0, h1⟩]
  · rw [(f60_c a h0 h1).1] at h3; omega
  · rw [(f60_c a h0 h1).2] at h3; omega
theorem VR0 : VR (n60 12) (fun _ => 0) (fun _ => 0) (fun _ => 0) (fun _ => 0) (fun _ => 0) := by
  refine ⟨fun k h0 h1 => ?_, fun a b h0 h1 h2 h3 => ?_, fun j => by dsimp only; omega, fun j => Or.inl rfl⟩
  · rw [f60.2.1] at h1; omega
  · rw [(f60_c a h0 h1).1] at h3; omega
theorem WF0 : WF (n60 12) 0 := by
  refine ⟨f60_rg, by rw [f60.1]; omega, by rw [f60.2.1]; omega, by rw [f60.2.2]; omega, fun k h0 h1 => ?_, fun j k h0 h1 h2 => ?_, fun a h0 h1 => ?_, fun a b h0 h1 h2 h3 => ?_, fun a b h0 h1 h2 h3 => ?_⟩
  · rw [f60.2.1] at h1; omega
  · rw [f60.2.1] at h2; omega
  · rw [(f60_c a h0 h1).1, (f60_c a h0 h1).2]; omega
  · rw [(f60_c a h0 h1).1] at h3; omega
  · rw [(f60_c a h0 h1).2] at h3; omega
theorem PW0 : PW 0 (n60 12) 0 (fun _ => 0) 0 (fun _ => 0) := ⟨WF0, by omega, fun i h0 h1 => by omega, by omega, fun j h0 h1 => by omega, rg0, rg0, by omega⟩
theorem sBds0 : sBds (n60 12) = 0 := by
  unfold sBds zBnd
  rw [if_pos f60.2.1]
set_option maxRecDepth 100000 in
theorem sAny0 (g : zG) (S : Nat → Option Nat) (F : Int → Int) (b : Nat) (hb : b = 28 ∨ b = 39 ∨ b = 50 ∨ b = 61 ∨ b = 72 ∨ b = 83) : sAny g (yC g S F) b := by
  rcases hb with rfl | rfl | rfl | rfl | rfl | rfl <;> exact ⟨0, 0, 60, fun _ => 0, fun _ => 0, fun _ => 0, fun _ => 0, fun _ => 0, n12 12, fun _ => 0, rfl, rfl, rfl, rfl, rfl, rfl, rfl, rfl, rfl, rfl, rfl⟩
set_option maxRecDepth 100000 in
theorem IW0 (g : zG) : IW g (yC g (Sfin g) (fun k => k)) (n60 12) 0 (fun _ => 0) 0 (fun _ => 0) := by
  refine ⟨⟨rfl, rfl⟩, ⟨fun _ => 0, fun _ => 0, fun _ => 0, fun _ => 0, fun _ => 0, n12 12, fun _ => 0, ?_, RS0⟩, ⟨fun _ => 0, fun _ => 0, fun _ => 0, fun _ => 0, fun _ => 0, ?_, VR0⟩, ⟨0, fun _ => 0, fun _ => 0, rfl, rfl, rfl, fun j h0 h1 => by dsimp only; omega⟩, ⟨0, rfl, rfl, by omega, fun i h0 h1 => sAny0 g _ _ _ (by unfold slot; omega), fun i h0 h1 => by omega⟩, ⟨0, 1, fun _ => 0, fun _ => 0, rfl, rfl, rfl, rfl, fun j => by dsimp only; omega⟩⟩
  · rw [f60.1, f60.2.1, f60.2.2]
    exact ⟨rfl, rfl, rfl, rfl, rfl, rfl, rfl, rfl, rfl, rfl, rfl⟩
  · rw [sBds0]
    exact ⟨rfl, rfl, rfl, rfl, rfl, rfl⟩
end YSB
