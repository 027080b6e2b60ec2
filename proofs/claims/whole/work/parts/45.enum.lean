/-! ALL ROWS, one after the other: what the reference's findBest finds -/
/-- what is found: (0, _) nothing; (joy + 1, row) -/
def stp (a r : Nat × Nat) : Nat × Nat := if a.1 < r.1 then r else a
theorem stp_y {a r : Nat × Nat} (h : a.1 < r.1) : stp a r = r := if_pos h
theorem stp_n {a r : Nat × Nat} (h : ¬ a.1 < r.1) : stp a r = a := if_neg h
theorem stp_as (a r s : Nat × Nat) : stp (stp a r) s = stp a (stp r s) := by
  by_cases h1 : a.1 < r.1
  · by_cases h2 : r.1 < s.1
    · rw [stp_y h1, stp_y h2, stp_y (by omega)]
    · rw [stp_y h1, stp_n h2, stp_y h1]
  · by_cases h2 : r.1 < s.1
    · rw [stp_n h1, stp_y h2]
    · rw [stp_n h1, stp_n h2, stp_n h1, stp_n (by omega)]
/-- the last q figures (by 4) of r taken: the joy, one more, and the row; (0, 0) if one can't be -/
def lnr (S : Nat → Nat) (n r : Nat) : Nat → (Nat → Nat) → Nat → Nat × Nat
  | 0, x, f => (x 3 + 1, f)
  | q + 1, x, f => if cn n x (r / 4 ^ q % 4) = 1 then lnr S n r q (tk S x (r / 4 ^ q % 4)) (f * 10 + r / 4 ^ q % 4) else (0, 0)
theorem lnr_y {S : Nat → Nat} {n r q f : Nat} {x : Nat → Nat} (h : cn n x (r / 4 ^ q % 4) = 1) : lnr S n r (q + 1) x f = lnr S n r q (tk S x (r / 4 ^ q % 4)) (f * 10 + r / 4 ^ q % 4) := if_pos h
theorem lnr_n {S : Nat → Nat} {n r q f : Nat} {x : Nat → Nat} (h : ¬ cn n x (r / 4 ^ q % 4) = 1) : lnr S n r (q + 1) x f = (0, 0) := if_neg h
theorem lnr_b {S : Nat → Nat} (hS : ∀ k, S k < 1000) (n r : Nat) : ∀ q x f, ((lnr S n r q x f).1 = 0 ∨ x 3 + 1 ≤ (lnr S n r q x f).1) ∧ (lnr S n r q x f).1 ≤ x 3 + 1000 * q + 1
  | 0, x, f => ⟨Or.inr (Nat.le_refl _), Nat.le_refl _⟩
  | q + 1, x, f => by
    by_cases h : cn n x (r / 4 ^ q % 4) = 1
    · rw [lnr_y h]
      have ih := lnr_b hS n r q (tk S x (r / 4 ^ q % 4)) (f * 10 + r / 4 ^ q % 4)
      have h1 := tk_3v S x (Nat.mod_lt (r / 4 ^ q) (show 0 < 4 by decide))
      have h2 := gn_1000 hS x
      have h3 : (if r / 4 ^ q % 4 = 2 then gn S x else 0) < 1000 := by split <;> omega
      omega
    · rw [lnr_n h]; exact ⟨Or.inl rfl, Nat.zero_le _⟩
def sgm (R : Nat → Nat × Nat) (r0 : Nat) (a : Nat × Nat) : Nat → Nat × Nat
  | 0 => a
  | k + 1 => stp (sgm R r0 a k) (R (r0 + k))
theorem sgm_add (R : Nat → Nat × Nat) (r0 : Nat) (a : Nat × Nat) (k : Nat) : ∀ m, sgm R r0 a (k + m) = sgm R (r0 + k) (sgm R r0 a k) m
  | 0 => rfl
  | m + 1 => by
    show stp (sgm R r0 a (k + m)) (R (r0 + (k + m))) = stp (sgm R (r0 + k) (sgm R r0 a k) m) (R (r0 + k + m))
    rw [sgm_add R r0 a k m, Nat.add_assoc]
theorem sgm_c {R R' : Nat → Nat × Nat} {r0 : Nat} {a : Nat × Nat} : ∀ k, (∀ i, i < k → R (r0 + i) = R' (r0 + i)) → sgm R r0 a k = sgm R' r0 a k
  | 0, _ => rfl
  | k + 1, h => by
    show stp (sgm R r0 a k) (R (r0 + k)) = stp (sgm R' r0 a k) (R' (r0 + k))
    rw [sgm_c k (fun i hi => h i (by omega)), h k (by omega)]
theorem sgm_z {R : Nat → Nat × Nat} {r0 : Nat} {a : Nat × Nat} : ∀ k, (∀ i, i < k → R (r0 + i) = (0, 0)) → sgm R r0 a k = a
  | 0, _ => rfl
  | k + 1, h => by
    show stp (sgm R r0 a k) (R (r0 + k)) = a
    rw [sgm_z k (fun i hi => h i (by omega)), h k (by omega)]; exact stp_n (Nat.not_lt_zero _)
theorem stp1 (c J F m R : Nat) : stp (if c = 1 then (J + 1, F) else (0, 0)) (m + 1, R) = (max (if c = 1 then J else 0) m + 1, if c = 1 ∧ m ≤ J then F else R) := by
  by_cases h : c = 1
  · rw [if_pos h, if_pos h]
    by_cases h2 : m ≤ J
    · rw [if_pos ⟨h, h2⟩, stp_n (by show ¬ J + 1 < m + 1; omega), Nat.max_eq_left h2]
    · rw [if_neg (fun h3 => h2 h3.2), stp_y (by show J + 1 < m + 1; omega), Nat.max_eq_right (by omega)]
  · rw [if_neg h, if_neg h, if_neg (fun h3 => h h3.1), stp_y (Nat.succ_pos m), Nat.zero_max]
theorem stp4 (a : Nat × Nat) (c0 c1 c2 J0 J1 J2 J3 F0 F1 F2 F3 g : Nat) (hg : g = max (max (max (if c0 = 1 then J0 else 0) (if c1 = 1 then J1 else 0)) (if c2 = 1 then J2 else 0)) J3) :
    stp (stp (stp (stp a (if c0 = 1 then (J0 + 1, F0) else (0, 0))) (if c1 = 1 then (J1 + 1, F1) else (0, 0))) (if c2 = 1 then (J2 + 1, F2) else (0, 0))) (J3 + 1, F3)
    = stp a (g + 1, if c0 = 1 ∧ J0 = g then F0 else if c1 = 1 ∧ J1 = g then F1 else if c2 = 1 ∧ J2 = g then F2 else F3) := by
  rw [stp_as, stp_as, stp_as, stp1, stp1, stp1]
  have e0 : (c0 = 1 ∧ (if c0 = 1 then J0 else 0) = J0) ∨ (c0 ≠ 1 ∧ (if c0 = 1 then J0 else 0) = 0) := by by_cases h : c0 = 1; exact Or.inl ⟨h, if_pos h⟩; exact Or.inr ⟨h, if_neg h⟩
  have e1 : (c1 = 1 ∧ (if c1 = 1 then J1 else 0) = J1) ∨ (c1 ≠ 1 ∧ (if c1 = 1 then J1 else 0) = 0) := by by_cases h : c1 = 1; exact Or.inl ⟨h, if_pos h⟩; exact Or.inr ⟨h, if_neg h⟩
  have e2 : (c2 = 1 ∧ (if c2 = 1 then J2 else 0) = J2) ∨ (c2 ≠ 1 ∧ (if c2 = 1 then J2 else 0) = 0) := by by_cases h : c2 = 1; exact Or.inl ⟨h, if_pos h⟩; exact Or.inr ⟨h, if_neg h⟩
  generalize (if c0 = 1 then J0 else 0) = a0 at *
  generalize (if c1 = 1 then J1 else 0) = a1 at *
  generalize (if c2 = 1 then J2 else 0) = a2 at *
  have hm : max a0 (max a1 (max a2 J3)) = g := by omega
  rw [hm]
  by_cases h0 : c0 = 1 ∧ max a1 (max a2 J3) ≤ J0
  · rw [if_pos h0, if_pos (show c0 = 1 ∧ J0 = g by omega)]
  · rw [if_neg h0, if_neg (show ¬ (c0 = 1 ∧ J0 = g) by omega)]
    by_cases h1 : c1 = 1 ∧ max a2 J3 ≤ J1
    · rw [if_pos h1, if_pos (show c1 = 1 ∧ J1 = g by omega)]
    · rw [if_neg h1, if_neg (show ¬ (c1 = 1 ∧ J1 = g) by omega)]
      by_cases h2 : c2 = 1 ∧ J3 ≤ J2
      · rw [if_pos h2, if_pos (show c2 = 1 ∧ J2 = g by omega)]
      · rw [if_neg h2, if_neg (show ¬ (c2 = 1 ∧ J2 = g) by omega)]
/-- the best from x by q turns, and its row behind f -/
def vb (S : Nat → Nat) (n q : Nat) (x : Nat → Nat) (f : Nat) : Nat × Nat := (x 3 + bst S n q x + 1, gro S n (x 3 + bst S n q x) q x f)
theorem sgm_t {S : Nat → Nat} {n q c t f : Nat} {x : Nat → Nat} {a : Nat × Nat} (ht : t < 4)
    (ih : ∀ x f c a, sgm (fun r => lnr S n r q x f) (c * 4 ^ q) a (4 ^ q) = stp a (vb S n q x f)) :
    sgm (fun r => lnr S n r (q + 1) x f) ((4 * c + t) * 4 ^ q) a (4 ^ q) = stp a (if cn n x t = 1 then vb S n q (tk S x t) (f * 10 + t) else (0, 0)) := by
  have hP : 0 < 4 ^ q := Nat.pow_pos (by decide)
  have hd : ∀ i, i < 4 ^ q → ((4 * c + t) * 4 ^ q + i) / 4 ^ q % 4 = t := fun i hi => by
    rw [Nat.add_comm, Nat.add_mul_div_right _ _ hP, Nat.div_eq_of_lt hi]; omega
  by_cases h : cn n x t = 1
  · rw [if_pos h, ← ih (tk S x t) (f * 10 + t) (4 * c + t) a]
    refine sgm_c _ (fun i hi => ?_)
    show lnr S n ((4 * c + t) * 4 ^ q + i) (q + 1) x f = lnr S n ((4 * c + t) * 4 ^ q + i) q (tk S x t) (f * 10 + t)
    have e := hd i hi
    rw [lnr_y (by rw [e]; exact h), e]
  · rw [if_neg h, stp_n (Nat.not_lt_zero _)]
    refine sgm_z _ (fun i hi => ?_)
    show lnr S n ((4 * c + t) * 4 ^ q + i) (q + 1) x f = (0, 0)
    exact lnr_n (by rw [hd i hi]; exact h)
theorem vb_gro {S : Nat → Nat} {n q t f g : Nat} {x : Nat → Nat} (e : tk S x t 3 + bst S n q (tk S x t) = g) : gro S n (tk S x t 3 + bst S n q (tk S x t)) q (tk S x t) (f * 10 + t) = gro S n g q (tk S x t) (f * 10 + t) := by rw [e]
theorem gro_s (S : Nat → Nat) (n g q : Nat) (x : Nat → Nat) (a : Nat) : gro S n g (q + 1) x a = gro S n g q (tk S x (ftn S n q x g)) (a * 10 + ftn S n q x g) := rfl
theorem sgm_L {S : Nat → Nat} {n : Nat} : ∀ q x f c a, sgm (fun r => lnr S n r q x f) (c * 4 ^ q) a (4 ^ q) = stp a (vb S n q x f)
  | 0, x, f, c, a => rfl
  | q + 1, x, f, c, a => by
    have e4 : 4 ^ (q + 1) = 4 ^ q + 4 ^ q + 4 ^ q + 4 ^ q := by rw [Nat.pow_succ]; omega
    have p0 := sgm_t (S := S) (n := n) (c := c) (t := 0) (f := f) (x := x) (a := a) (by decide) (sgm_L q)
    have p1 := fun a => sgm_t (S := S) (n := n) (c := c) (t := 1) (f := f) (x := x) (a := a) (by decide) (sgm_L q)
    have p2 := fun a => sgm_t (S := S) (n := n) (c := c) (t := 2) (f := f) (x := x) (a := a) (by decide) (sgm_L q)
    have p3 := fun a => sgm_t (S := S) (n := n) (c := c) (t := 3) (f := f) (x := x) (a := a) (by decide) (sgm_L q)
    have r0 : c * 4 ^ (q + 1) = (4 * c + 0) * 4 ^ q := by rw [Nat.pow_succ, Nat.mul_comm (4 ^ q) 4, ← Nat.mul_assoc, Nat.mul_comm c 4]; rfl
    have r1 : (4 * c + 0) * 4 ^ q + 4 ^ q = (4 * c + 1) * 4 ^ q := by rw [Nat.add_mul (4 * c) 1, Nat.one_mul]; rfl
    have r2 : (4 * c + 0) * 4 ^ q + (4 ^ q + 4 ^ q) = (4 * c + 2) * 4 ^ q := by rw [Nat.add_mul (4 * c) 2, Nat.two_mul]; rfl
    have r3 : (4 * c + 0) * 4 ^ q + (4 ^ q + 4 ^ q + 4 ^ q) = (4 * c + 3) * 4 ^ q := by rw [Nat.add_mul (4 * c) 3, show 3 * 4 ^ q = 4 ^ q + 4 ^ q + 4 ^ q by omega]; rfl
    rw [r0, e4, sgm_add, sgm_add, sgm_add, r1, r2, r3, p0, p1, p2, p3, if_pos (cn_3 n x)]
    unfold vb
    have hb : x 3 + bst S n (q + 1) x = max (max (max (if cn n x 0 = 1 then tk S x 0 3 + bst S n q (tk S x 0) else 0) (if cn n x 1 = 1 then tk S x 1 3 + bst S n q (tk S x 1) else 0)) (if cn n x 2 = 1 then tk S x 2 3 + bst S n q (tk S x 2) else 0)) (tk S x 3 3 + bst S n q (tk S x 3)) := by
      rw [tk_3v S x (t := 0) (by decide), tk_3v S x (t := 1) (by decide), tk_3v S x (t := 2) (by decide), tk_3v S x (t := 3) (by decide)]
      show x 3 + max (max (max (if cn n x 0 = 1 then bst S n q (tk S x 0) else 0) (if cn n x 1 = 1 then bst S n q (tk S x 1) else 0)) (if cn n x 2 = 1 then gn S x + bst S n q (tk S x 2) else 0)) (bst S n q (tk S x 3)) = _
      rw [if_neg (show ¬ (0 : Nat) = 2 by decide), if_neg (show ¬ (1 : Nat) = 2 by decide), if_pos (show (2 : Nat) = 2 from rfl), if_neg (show ¬ (3 : Nat) = 2 by decide)]
      by_cases h0 : cn n x 0 = 1 <;> by_cases h1 : cn n x 1 = 1 <;> by_cases h2 : cn n x 2 = 1 <;> simp only [h0, h1, h2, if_true, if_false] <;> omega
    rw [stp4 a _ _ _ _ _ _ _ _ _ _ _ _ hb]
    have hm := hb
    generalize x 3 + bst S n (q + 1) x = g at *
    congr 2
    rw [gro_s]
    unfold ftn
    by_cases h0 : cn n x 0 = 1 ∧ tk S x 0 3 + bst S n q (tk S x 0) = g
    · rw [if_pos h0, if_pos h0]; exact vb_gro h0.2
    · rw [if_neg h0, if_neg h0]
      by_cases h1 : cn n x 1 = 1 ∧ tk S x 1 3 + bst S n q (tk S x 1) = g
      · rw [if_pos h1, if_pos h1]; exact vb_gro h1.2
      · rw [if_neg h1, if_neg h1]
        by_cases h2 : cn n x 2 = 1 ∧ tk S x 2 3 + bst S n q (tk S x 2) = g
        · rw [if_pos h2, if_pos h2]; exact vb_gro h2.2
        · rw [if_neg h2, if_neg h2]
          refine vb_gro ?_
          have q0 : ∀ c J : Nat, ¬ (c = 1 ∧ J = g) → (c = 1 ∧ (if c = 1 then J else 0) = J ∧ J ≠ g) ∨ (if c = 1 then J else 0) = 0 := fun c J h => by
            by_cases e : c = 1
            · exact Or.inl ⟨e, if_pos e, fun h9 => h ⟨e, h9⟩⟩
            · exact Or.inr (if_neg e)
          have w0 := q0 _ _ h0
          have w1 := q0 _ _ h1
          have w2 := q0 _ _ h2
          omega
theorem sgm_b {R : Nat → Nat × Nat} {r0 lo hi : Nat} (hR : ∀ r, ((R r).1 = 0 ∨ lo ≤ (R r).1) ∧ (R r).1 ≤ hi) : ∀ k, ((sgm R r0 (0, 0) k).1 = 0 ∨ lo ≤ (sgm R r0 (0, 0) k).1) ∧ (sgm R r0 (0, 0) k).1 ≤ hi
  | 0 => ⟨Or.inl rfl, Nat.zero_le _⟩
  | k + 1 => by
    have ih := sgm_b (r0 := r0) hR k
    show ((stp (sgm R r0 (0, 0) k) (R (r0 + k))).1 = 0 ∨ lo ≤ (stp (sgm R r0 (0, 0) k) (R (r0 + k))).1) ∧ (stp (sgm R r0 (0, 0) k) (R (r0 + k))).1 ≤ hi
    by_cases h : (sgm R r0 (0, 0) k).1 < (R (r0 + k)).1
    · rw [stp_y h]; exact hR _
    · rw [stp_n h]; exact ih
/-- all rows of N turns below r, from x -/
def fnb (S : Nat → Nat) (n N : Nat) (x : Nat → Nat) (r : Nat) : Nat × Nat := sgm (fun r => lnr S n r N x 1) 0 (0, 0) r
theorem fnb_s (S : Nat → Nat) (n N : Nat) (x : Nat → Nat) (r : Nat) : fnb S n N x (r + 1) = stp (fnb S n N x r) (lnr S n r N x 1) := by
  show stp (sgm (fun r => lnr S n r N x 1) 0 (0, 0) r) (lnr S n (0 + r) N x 1) = _
  rw [Nat.zero_add]; rfl
theorem fnb_b {S : Nat → Nat} (hS : ∀ k, S k < 1000) (n N : Nat) (x : Nat → Nat) (r : Nat) : ((fnb S n N x r).1 = 0 ∨ x 3 + 1 ≤ (fnb S n N x r).1) ∧ (fnb S n N x r).1 ≤ x 3 + 1000 * N + 1 := sgm_b (fun r => lnr_b hS n r N x 1) r
theorem fnb_end (S : Nat → Nat) (n N : Nat) (x : Nat → Nat) : fnb S n N x (4 ^ N) = (x 3 + bst S n N x + 1, gro S n (x 3 + bst S n N x) N x 1) := by
  have h := sgm_L (S := S) (n := n) N x 1 0 (0, 0)
  rw [Nat.zero_mul, stp_y (Nat.succ_pos _)] at h
  exact h
def bj (J : Nat) (a : Nat × Nat) : Nat := if a.1 = 0 then 4294967287 else a.1 - 1 - J
def bf (a : Nat × Nat) : Nat := if a.1 = 0 then 4294967287 else a.2
theorem bj_cmp {J0 J : Nat} {a : Nat × Nat} (hJ : J0 ≤ J) (h1 : J < 2147483648) (ha : a.1 = 0 ∨ J0 + 1 ≤ a.1) (h2 : a.1 < 2147483648) : nI (J - J0) ≤ nI (bj J0 a) ↔ J + 1 ≤ a.1 := by
  unfold bj
  by_cases h : a.1 = 0
  · rw [if_pos h, ← kM9, fa_le, nI_toInt (by omega), show (-9 : Int32).toInt = -9 from rfl]; omega
  · rw [if_neg h, nI_leI (by omega) (by omega)]; omega
