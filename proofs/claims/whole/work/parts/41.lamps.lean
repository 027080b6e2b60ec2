/-! More lamps, no less joy: for the shares of houses -/
/-- rows alike but for joy, and the first with no more lamps -/
def ll (x y : Nat → Nat) : Prop := x 0 = y 0 ∧ x 1 = y 1 ∧ x 2 = y 2 ∧ x 5 = y 5 ∧ x 6 = y 6 ∧ ∃ c, x 4 = y 4 &&& c
theorem ll_sg {S x y : Nat → Nat} (h : ll x y) (a t : Nat) : sgv S x a t ≤ sgv S y a t := by
  obtain ⟨-, -, -, h5, -, c, h4⟩ := h
  unfold sgv
  by_cases hz : ((y 4 &&& (4294967295 - y 5)) >>> a) &&& 1 = 0
  · have hx : ((x 4 &&& (4294967295 - x 5)) >>> a) &&& 1 = 0 := by
      rw [h4, h5, Nat.and_assoc, Nat.and_comm c, ← Nat.and_assoc, Nat.shiftRight_and_distrib, Nat.and_assoc, Nat.and_comm (c >>> a), ← Nat.and_assoc, hz, Nat.zero_and]
    rw [if_pos hx]; exact Nat.zero_le _
  · rw [if_neg hz]; split
    · exact Nat.zero_le _
    · exact Nat.le_refl _
theorem ll_bt {x y : Nat → Nat} (h : ll x y) : bt x = bt y := by unfold bt; rw [h.1, h.2.2.1]
theorem ll_gn {S x y : Nat → Nat} (h : ll x y) : gn S x ≤ gn S y := by
  unfold gn; rw [ll_bt h, h.2.2.2.2.1, h.1, h.2.2.1]
  split
  · exact ll_sg h _ _
  · exact Nat.le_refl _
theorem ll_cn {n t : Nat} {x y : Nat → Nat} (h : ll x y) : cn n x t = cn n y t := by unfold cn; rw [h.1, h.2.1]
theorem ll_tk {S x y : Nat → Nat} {t : Nat} (h : ll x y) (ht : t < 4) : ll (tk S x t) (tk S y t) := by
  obtain ⟨h0, h1, h2, h5, h6, c, h4⟩ := h
  have hb : bt x = bt y := by unfold bt; rw [h0, h2]
  rcases (show t = 0 ∨ t = 1 ∨ t = 2 ∨ t = 3 by omega) with rfl | rfl | rfl | rfl
  · rw [tk_0, tk_0]; refine ⟨?_, ?_, ?_, ?_, ?_, c, ?_⟩ <;> simp [up1, h0, h1, h2, h5, h6, h4]
  · rw [tk_1, tk_1]; refine ⟨?_, ?_, ?_, ?_, ?_, c, ?_⟩ <;> simp [up1, h0, h1, h2, h5, h6, h4]
  · rw [tk_2, tk_2]; refine ⟨?_, ?_, ?_, ?_, ?_, c, ?_⟩ <;> simp [up1, h0, h1, h2, h5, h6, h4, hb]
  · rw [tk_3, tk_3]; refine ⟨?_, ?_, ?_, ?_, ?_, c, ?_⟩ <;> simp [up1, h0, h1, h2, h5, h6, h4]
theorem ll_bst {S : Nat → Nat} {n : Nat} : ∀ (k : Nat) {x y : Nat → Nat}, ll x y → bst S n k x ≤ bst S n k y
  | 0, _, _, _ => Nat.le_refl _
  | k + 1, x, y, h => by
    have a0 := ll_bst (S := S) (n := n) k (ll_tk (S := S) (t := 0) h (by decide))
    have a1 := ll_bst (S := S) (n := n) k (ll_tk (S := S) (t := 1) h (by decide))
    have a2 := ll_bst (S := S) (n := n) k (ll_tk (S := S) (t := 2) h (by decide))
    have a3 := ll_bst (S := S) (n := n) k (ll_tk (S := S) (t := 3) h (by decide))
    have ag := ll_gn (S := S) h
    unfold bst
    rw [ll_cn (t := 0) h, ll_cn (t := 1) h, ll_cn (t := 2) h]
    (repeat' split) <;> omega
theorem ll_come (x : Nat → Nat) (s b : Nat) : ll (up1 x 4 (x 4 &&& s)) (up1 x 4 (x 4 &&& (s ||| b))) := by
  refine ⟨rfl, rfl, rfl, rfl, rfl, s, ?_⟩
  show x 4 &&& s = x 4 &&& (s ||| b) &&& s
  rw [Nat.and_assoc]
  congr 1
  apply Nat.eq_of_testBit_eq; intro i
  simp only [Nat.testBit_and, Nat.testBit_or]
  cases s.testBit i <;> simp
theorem bst_come (S x : Nat → Nat) (n k s b : Nat) : bst S n k (up1 x 4 (x 4 &&& s)) ≤ bst S n k (up1 x 4 (x 4 &&& (s ||| b))) := ll_bst k (ll_come x s b)
theorem mnk_lt : ∀ n, n ≤ 6 → ∀ h, h < n → ∀ s, s < 1 <<< n → s >>> h &&& 1 = 0 → mnk s 6 + 1 ≤ n := by decide +kernel
theorem come_lt : ∀ h, h < 6 → ∀ s, s < 64 → s ||| 1 <<< h < 64 := by decide +kernel
