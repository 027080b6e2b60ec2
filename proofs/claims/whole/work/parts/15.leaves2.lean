/-! LEAVES: divisors, rows as figures, ranges -/
theorem kIn {x : Int32} {y z : Int64} {a b : Int} (hy : y.toInt = a) (hz : z.toInt = b) (ha : 0 ≤ a) (hb : b < 2147483648) : (y ≤ x.toInt64 ∧ x.toInt64 ≤ z) ↔ ∃ k : Nat, a ≤ k ∧ (k : Int) ≤ b ∧ x = nI k := by
  rw [fa_le64, fa_le64, Int32.toInt_toInt64, hy, hz]
  constructor
  · intro h
    refine ⟨x.toInt.toNat, by omega, by omega, ?_⟩
    apply Int32.toInt_inj.mp
    have h2 := Int32.toInt_lt x
    rw [nI_toInt (by omega)]
    omega
  · rintro ⟨k, h1, h2, rfl⟩
    rw [nI_toInt (by omega)]
    omega
theorem kdiv10 {r : Nat} (h : r < 2147483648) (j : Nat) : nI (r / 10 ^ j) / nI 10 = nI (r / 10 ^ (j + 1)) := by
  rw [pk_div (Nat.lt_of_le_of_lt (Nat.div_le_self _ _) h) (by decide) (by decide), Nat.div_div_eq_div_mul, Nat.pow_succ]
def dg (n r p : Nat) : Nat := r / 10 ^ (n - 1 - p) % 10
theorem c_figure (l : Launch) (G : ks_G) (base : Nat) (Mx : ks_M) (Lx : ks_L) (n r p : Nat) (hn : n < 1000) (hp : p < n) (hr : r < 2147483648) : KI l G base 0 yX6_figure cX6_figure 5 .int [.int (nI (n)), .int (nI (r)), .int (nI (p))] SH Mx Lx (fun rr M1 L1 => rr = nI (dg n r p) ∧ M1 = Mx ∧ L1 = Lx) := by
  refine k_meti (by decide) (Nat.le_of_ble_eq_true rfl) (fun K hK X Y => ?_)
  subst hK
  have lp : ∀ (fuel : Nat) (j : Nat), n - (p + 1 + j) < fuel → (p + 1 + j ≤ n) → RN K G base 5 0 0 SH Mx Lx 7 [(0, .int (nI (n))), (1, .int (nI (r))), (2, .int (nI (p))), (3, .int (nI (r / 10 ^ j))), (4, .int (nI (p + 1 + j)))] [] := by
    intro fuel
    induction fuel with
    | zero => intro j hfu; exact absurd hfu (Nat.not_lt_zero _)
    | succ fuel ih =>
      intro j hfu hj
      have hq : r / 10 ^ j ≤ r := Nat.div_le_self _ _
      refine r_iload (q := 9) (i := 4) (x := nI (p + 1 + j)) X rfl dX6_figure_7 rfl ?_
      refine r_iload_n (q := 10) (i := 0) (j := 0) (x := nI (n)) X rfl rfl dX6_figure_9 rfl ?_
      refine r_icmp_ge (q := 13) (tgt := 24) X (by decide) dX6_figure_10 rfl (fun c10 => ?_) (fun c10 => ?_)
      · replace c10 : n ≤ (p + 1 + j) := (nI_leI (by omega) (by omega)).mp c10
        refine r_iload_n (q := 25) (i := 3) (j := 3) (x := nI (r / 10 ^ j)) X rfl rfl dX6_figure_24 rfl ?_
        refine r_bipush (q := 27) (v := nI 10) X kb_10 dX6_figure_25 rfl ?_
        refine r_iremR (q := 28) (x := nI (r / 10 ^ j)) (y := nI 10) (v := nI ((r / 10 ^ j) % 10)) X (by decide) (pk_rem (by omega) (by omega) (by omega)) dX6_figure_27 rfl ?_
        refine r_iret X Y ?_ dX6_figure_28
        exact ⟨by unfold dg; rw [show n - 1 - p = j by omega], rfl, rfl⟩
      · replace c10 : ¬ n ≤ (p + 1 + j) := fun h => c10 ((nI_leI (by omega) (by omega)).mpr h)
        refine r_iload_n (q := 14) (i := 3) (j := 3) (x := nI (r / 10 ^ j)) X rfl rfl dX6_figure_13 rfl ?_
        refine r_bipush (q := 16) (v := nI 10) X kb_10 dX6_figure_14 rfl ?_
        refine r_idivR (q := 17) (x := nI (r / 10 ^ j)) (y := nI 10) (v := nI (r / 10 ^ (j + 1))) X (by decide) (kdiv10 hr j) dX6_figure_16 rfl ?_
        refine r_istore_n (q := 18) (i := 3) (j := 3) X rfl (Nat.le_of_ble_eq_true rfl) dX6_figure_17 rfl ?_
        refine r_iinc (q := 21) (i := 4) (x := nI (p + 1 + j)) (v := nI (p + 1 + j + 1)) X rfl (Nat.le_of_ble_eq_true rfl) (kinc 1 rfl) dX6_figure_18 rfl ?_
        refine r_goto (tgt := 7) X (by decide) dX6_figure_21 ?_
        refine r_pl [(0, .int (nI (n))), (1, .int (nI (r))), (2, .int (nI (p))), (3, .int (nI (r / 10 ^ (j + 1)))), (4, .int (nI (p + 1 + (j + 1))))] ⟨rfl, rfl, rfl, rfl, rfl, trivial⟩ ?_
        exact ih (j + 1) (by omega) (by omega)
  refine r_pl [(0, .int (nI (n))), (1, .int (nI (r))), (2, .int (nI (p)))] ⟨rfl, rfl, rfl, trivial⟩ ?_
  refine r_iload_n (q := 1) (i := 1) (j := 1) (x := nI (r)) X rfl rfl dX6_figure_0 rfl ?_
  refine r_istore_n (q := 2) (i := 3) (j := 3) X rfl (Nat.le_of_ble_eq_true rfl) dX6_figure_1 rfl ?_
  refine r_iload_n (q := 3) (i := 2) (j := 2) (x := nI (p)) X rfl rfl dX6_figure_2 rfl ?_
  refine r_iconst (q := 4) (v := nI 1) X kc_1 dX6_figure_3 rfl ?_
  refine r_iaddR (q := 5) (x := nI (p)) (y := nI 1) (v := nI (p + 1)) X (nI_add _ _) dX6_figure_4 rfl ?_
  refine r_istore (q := 7) (i := 4) X (Nat.le_of_ble_eq_true rfl) dX6_figure_5 rfl ?_
  refine r_pl [(0, .int (nI n)), (1, .int (nI r)), (2, .int (nI p)), (3, .int (nI (r / 10 ^ 0))), (4, .int (nI (p + 1 + 0)))] ⟨rfl, rfl, rfl, by rw [Nat.pow_zero, Nat.div_one]; rfl, rfl, trivial⟩ ?_
  exact lp (n + 1) 0 (by omega) (by omega)
theorem kgcd_step {a b : Nat} : Nat.gcd b (a % b) = Nat.gcd a b := by
  rw [Nat.gcd_comm b, Nat.gcd_comm a b, ← Nat.gcd_rec b a]
def kgi (a b i x y : Nat) : Prop := Nat.gcd x y = Nat.gcd a b ∧ x < 2147483648 ∧ y < 2147483648 ∧ (i = 0 ∨ (y < x ∧ x * y * 2 ^ (i - 1) < 2 ^ 62))
theorem kgi_step {a b i x y : Nat} (h : kgi a b i x y) (hy : y ≠ 0) : kgi a b (i + 1) y (x % y) := by
  obtain ⟨h1, h2, h3, h4⟩ := h
  have hlt : x % y < y := Nat.mod_lt _ (by omega)
  refine ⟨by rw [kgcd_step, h1], h3, by omega, Or.inr ⟨hlt, ?_⟩⟩
  rw [Nat.add_sub_cancel]
  rcases h4 with rfl | ⟨h5, h6⟩
  · rw [Nat.pow_zero, Nat.mul_one]
    calc y * (x % y) ≤ 2147483647 * 2147483647 := Nat.mul_le_mul (by omega) (by omega)
      _ < 2 ^ 62 := by decide
  · have hi : ∃ j, i = j + 1 ∨ i = 0 := ⟨i - 1, by omega⟩
    have h7 : 2 * (x % y) ≤ x := by
      have h8 := Nat.div_add_mod x y
      have h9 : 1 ≤ x / y := (Nat.one_le_div_iff (by omega)).mpr (by omega)
      have h10 : y * 1 ≤ y * (x / y) := Nat.mul_le_mul_left _ h9
      omega
    cases i with
    | zero =>
      rw [Nat.pow_zero, Nat.mul_one]
      calc y * (x % y) ≤ 2147483647 * 2147483647 := Nat.mul_le_mul (by omega) (by omega)
        _ < 2 ^ 62 := by decide
    | succ j =>
      rw [Nat.add_sub_cancel] at h6
      refine Nat.lt_of_le_of_lt ?_ h6
      rw [Nat.pow_succ, Nat.mul_comm (2 ^ j) 2, ← Nat.mul_assoc]
      refine Nat.mul_le_mul_right _ ?_
      calc y * (x % y) * 2 = y * (2 * (x % y)) := by rw [Nat.mul_assoc, Nat.mul_comm (x % y) 2]
        _ ≤ y * x := Nat.mul_le_mul_left _ h7
        _ = x * y := Nat.mul_comm _ _
theorem kgi_end {a b x y : Nat} (h : kgi a b 64 x y) : y = 0 := by
  obtain ⟨h1, h2, h3, h4⟩ := h
  rcases h4 with h4 | ⟨h5, h6⟩
  · omega
  · by_cases hy : y = 0
    · exact hy
    · exfalso
      have h7 : 1 ≤ x * y := Nat.mul_pos (by omega) (by omega)
      have h8 : 1 * 2 ^ 63 ≤ x * y * 2 ^ 63 := Nat.mul_le_mul_right _ h7
      have h9 : x * y * 2 ^ 63 < 2 ^ 62 := h6
      omega
theorem kgi_val {a b i x y : Nat} (h : kgi a b i x y) (hy : y = 0) : x = Nat.gcd a b := by
  rw [← h.1, hy, Nat.gcd_zero_right]
theorem c_gcd6 (l : Launch) (G : ks_G) (base : Nat) (Mx : ks_M) (Lx : ks_L) (a b : Nat) (ha : a < 2147483648) (hb : b < 2147483648) : KI l G base 0 yX6_commonDivisor cX6_commonDivisor 6 .int [.int (nI (a)), .int (nI (b))] SH Mx Lx (fun rr M1 L1 => rr = nI (Nat.gcd a b) ∧ M1 = Mx ∧ L1 = Lx) := by
  refine k_meti (by decide) (Nat.le_of_ble_eq_true rfl) (fun K hK X Y => ?_)
  subst hK
  have lp : ∀ (fuel : Nat) (i : Nat) (x : Nat) (y : Nat), 64 - i < fuel → (i ≤ 64) → (kgi a b i x y) → RN K G base 6 0 0 SH Mx Lx 7 [(0, .int (nI (a))), (1, .int (nI (b))), (2, .int (nI (x))), (3, .int (nI (y))), (4, .int (nI (i)))] [] := by
    intro fuel
    induction fuel with
    | zero => intro i x y hfu; exact absurd hfu (Nat.not_lt_zero _)
    | succ fuel ih =>
      intro i x y hfu hi hg
      have hx := hg.2.1
      have hy := hg.2.2.1
      refine r_iload (q := 9) (i := 4) (x := nI (i)) X rfl dX6_commonDivisor_7 rfl ?_
      refine r_bipush (q := 11) (v := nI 64) X kb_64 dX6_commonDivisor_9 rfl ?_
      refine r_icmp_ge (q := 14) (tgt := 34) X (by decide) dX6_commonDivisor_11 rfl (fun c11 => ?_) (fun c11 => ?_)
      · replace c11 : 64 ≤ i := (nI_leI (by omega) (by omega)).mp c11
        refine r_iload_n (q := 35) (i := 2) (j := 2) (x := nI (x)) X rfl rfl dX6_commonDivisor_34 rfl ?_
        refine r_iret X Y ?_ dX6_commonDivisor_35
        exact ⟨by rw [kgi_val hg (by first | assumption | exact kgi_end ((show i = 64 by omega) ▸ hg))], rfl, rfl⟩
      · replace c11 : ¬ 64 ≤ i := fun h => c11 ((nI_leI (by omega) (by omega)).mpr h)
        refine r_iload_n (q := 15) (i := 3) (j := 3) (x := nI (y)) X rfl rfl dX6_commonDivisor_14 rfl ?_
        refine r_if_eq (q := 18) (tgt := 34) X (by decide) dX6_commonDivisor_15 rfl (fun c15 => ?_) (fun c15 => ?_)
        · replace c15 : y = 0 := (kI_eq0 (by omega)).mp c15
          refine r_iload_n (q := 35) (i := 2) (j := 2) (x := nI (x)) X rfl rfl dX6_commonDivisor_34 rfl ?_
          refine r_iret X Y ?_ dX6_commonDivisor_35
          exact ⟨by rw [kgi_val hg (by first | assumption | exact kgi_end ((show i = 64 by omega) ▸ hg))], rfl, rfl⟩
        · replace c15 : ¬ y = 0 := fun h => (c15 ((kI_eq0 (by omega)).mpr h))
          refine r_iload_n (q := 19) (i := 2) (j := 2) (x := nI (x)) X rfl rfl dX6_commonDivisor_18 rfl ?_
          refine r_iload_n (q := 20) (i := 3) (j := 3) (x := nI (y)) X rfl rfl dX6_commonDivisor_19 rfl ?_
          refine r_iremR (q := 21) (x := nI (x)) (y := nI (y)) (v := nI (x % y)) X (nI_ne0 (by omega) (by omega)) (pk_rem (by omega) (by omega) (by omega)) dX6_commonDivisor_20 rfl ?_
          refine r_istore (q := 23) (i := 5) X (Nat.le_of_ble_eq_true rfl) dX6_commonDivisor_21 rfl ?_
          refine r_iload_n (q := 24) (i := 3) (j := 3) (x := nI (y)) X rfl rfl dX6_commonDivisor_23 rfl ?_
          refine r_istore_n (q := 25) (i := 2) (j := 2) X rfl (Nat.le_of_ble_eq_true rfl) dX6_commonDivisor_24 rfl ?_
          refine r_iload (q := 27) (i := 5) (x := nI (x % y)) X rfl dX6_commonDivisor_25 rfl ?_
          refine r_istore_n (q := 28) (i := 3) (j := 3) X rfl (Nat.le_of_ble_eq_true rfl) dX6_commonDivisor_27 rfl ?_
          refine r_iinc (q := 31) (i := 4) (x := nI (i)) (v := nI (i + 1)) X rfl (Nat.le_of_ble_eq_true rfl) (kinc 1 rfl) dX6_commonDivisor_28 rfl ?_
          refine r_goto (tgt := 7) X (by decide) dX6_commonDivisor_31 ?_
          refine r_pl [(0, .int (nI (a))), (1, .int (nI (b))), (2, .int (nI (y))), (3, .int (nI (x % y))), (4, .int (nI (i + 1)))] ⟨rfl, rfl, rfl, rfl, rfl, trivial⟩ ?_
          exact ih (i + 1) y (x % y) (by omega) (by omega) (kgi_step hg c15)
  refine r_pl [(0, .int (nI (a))), (1, .int (nI (b)))] ⟨rfl, rfl, trivial⟩ ?_
  refine r_iload_n (q := 1) (i := 0) (j := 0) (x := nI (a)) X rfl rfl dX6_commonDivisor_0 rfl ?_
  refine r_istore_n (q := 2) (i := 2) (j := 2) X rfl (Nat.le_of_ble_eq_true rfl) dX6_commonDivisor_1 rfl ?_
  refine r_iload_n (q := 3) (i := 1) (j := 1) (x := nI (b)) X rfl rfl dX6_commonDivisor_2 rfl ?_
  refine r_istore_n (q := 4) (i := 3) (j := 3) X rfl (Nat.le_of_ble_eq_true rfl) dX6_commonDivisor_3 rfl ?_
  refine r_iconst (q := 5) (v := nI 0) X kc_0 dX6_commonDivisor_4 rfl ?_
  refine r_istore (q := 7) (i := 4) X (Nat.le_of_ble_eq_true rfl) dX6_commonDivisor_5 rfl ?_
  refine r_pl [(0, .int (nI (a))), (1, .int (nI (b))), (2, .int (nI (a))), (3, .int (nI (b))), (4, .int (nI (0)))] ⟨rfl, rfl, rfl, rfl, rfl, trivial⟩ ?_
  exact lp 65 0 a b (by omega) (by omega) ⟨rfl, ha, hb, Or.inl rfl⟩
theorem c_gcd7 (l : Launch) (G : ks_G) (base : Nat) (Mx : ks_M) (Lx : ks_L) (a b : Nat) (ha : a < 2147483648) (hb : b < 2147483648) : KI l G base 0 yX7_divisor cX7_divisor 5 .int [.int (nI (a)), .int (nI (b))] SH Mx Lx (fun rr M1 L1 => rr = nI (Nat.gcd a b) ∧ M1 = Mx ∧ L1 = Lx) := by
  refine k_meti (by decide) (Nat.le_of_ble_eq_true rfl) (fun K hK X Y => ?_)
  subst hK
  have lp : ∀ (fuel : Nat) (x : Nat) (y : Nat), y < fuel → (x < 2147483648) → (y < 2147483648) → (Nat.gcd x y = Nat.gcd a b) → RN K G base 5 0 0 SH Mx Lx 13 [(0, .int (nI (a))), (1, .int (nI (b))), (2, .int (nI (x))), (3, .int (nI (y)))] [] := by
    intro fuel
    induction fuel with
    | zero => intro x y hfu; exact absurd hfu (Nat.not_lt_zero _)
    | succ fuel ih =>
      intro x y hfu hx hy hg
      have hmod : y ≠ 0 → x % y < y := fun h => Nat.mod_lt _ (by omega)
      refine r_iload_n (q := 14) (i := 3) (j := 3) (x := nI (y)) X rfl rfl dX7_divisor_13 rfl ?_
      refine r_if_eq (q := 17) (tgt := 30) X (by decide) dX7_divisor_14 rfl (fun c14 => ?_) (fun c14 => ?_)
      · replace c14 : y = 0 := (kI_eq0 (by omega)).mp c14
        refine r_iload_n (q := 31) (i := 2) (j := 2) (x := nI (x)) X rfl rfl dX7_divisor_30 rfl ?_
        refine r_iret X Y ?_ dX7_divisor_31
        exact ⟨by rw [← hg, c14, Nat.gcd_zero_right], rfl, rfl⟩
      · replace c14 : ¬ y = 0 := fun h => (c14 ((kI_eq0 (by omega)).mpr h))
        refine r_iload_n (q := 18) (i := 2) (j := 2) (x := nI (x)) X rfl rfl dX7_divisor_17 rfl ?_
        refine r_iload_n (q := 19) (i := 3) (j := 3) (x := nI (y)) X rfl rfl dX7_divisor_18 rfl ?_
        refine r_iremR (q := 20) (x := nI (x)) (y := nI (y)) (v := nI (x % y)) X (nI_ne0 (by omega) (by omega)) (pk_rem (by omega) (by omega) (by omega)) dX7_divisor_19 rfl ?_
        refine r_istore (q := 22) (i := 4) X (Nat.le_of_ble_eq_true rfl) dX7_divisor_20 rfl ?_
        refine r_iload_n (q := 23) (i := 3) (j := 3) (x := nI (y)) X rfl rfl dX7_divisor_22 rfl ?_
        refine r_istore_n (q := 24) (i := 2) (j := 2) X rfl (Nat.le_of_ble_eq_true rfl) dX7_divisor_23 rfl ?_
        refine r_iload (q := 26) (i := 4) (x := nI (x % y)) X rfl dX7_divisor_24 rfl ?_
        refine r_istore_n (q := 27) (i := 3) (j := 3) X rfl (Nat.le_of_ble_eq_true rfl) dX7_divisor_26 rfl ?_
        refine r_goto (tgt := 13) X (by decide) dX7_divisor_27 ?_
        have hm2 := hmod c14
        refine r_pl [(0, .int (nI (a))), (1, .int (nI (b))), (2, .int (nI (y))), (3, .int (nI (x % y)))] ⟨rfl, rfl, rfl, rfl, trivial⟩ ?_
        exact ih y (x % y) (by omega) hy (by omega) (by rw [kgcd_step, hg])
  refine r_pl [(0, .int (nI (a))), (1, .int (nI (b)))] ⟨rfl, rfl, trivial⟩ ?_
  refine r_iload_n (q := 1) (i := 0) (j := 0) (x := nI (a)) X rfl rfl dX7_divisor_0 rfl ?_
  refine r_if_ge (q := 4) (tgt := 9) X (by decide) dX7_divisor_1 rfl (fun c1 => ?_) (fun c1 => ?_)
  · replace c1 : 0 ≤ a := (kI_ge0 (by omega)).mp c1
    refine r_iload_n (q := 10) (i := 0) (j := 0) (x := nI (a)) X rfl rfl dX7_divisor_9 rfl ?_
    refine r_istore_n (q := 11) (i := 2) (j := 2) X rfl (Nat.le_of_ble_eq_true rfl) dX7_divisor_10 rfl ?_
    refine r_iload_n (q := 12) (i := 1) (j := 1) (x := nI (b)) X rfl rfl dX7_divisor_11 rfl ?_
    refine r_istore_n (q := 13) (i := 3) (j := 3) X rfl (Nat.le_of_ble_eq_true rfl) dX7_divisor_12 rfl ?_
    refine r_pl [(0, .int (nI (a))), (1, .int (nI (b))), (2, .int (nI (a))), (3, .int (nI (b)))] ⟨rfl, rfl, rfl, rfl, trivial⟩ ?_
    exact lp (b + 1) a b (by omega) ha hb rfl
  · replace c1 : ¬ 0 ≤ a := fun h => c1 ((kI_ge0 (by omega)).mpr h)
    exfalso; omega
def frc (a b u : Nat) : Nat := if u = 0 then b / Nat.gcd a b else a / Nat.gcd a b
theorem c_partOf (l : Launch) (G : ks_G) (base : Nat) (Mx : ks_M) (Lx : ks_L) (a b u : Nat) (ha : a < 2147483648) (hb : b < 2147483648) (hb0 : 0 < b) (hu : u < 2) : KI l G base 1 yX6_partOf cX6_partOf 4 .int [.int (nI (a)), .int (nI (b)), .int (nI (u))] SH Mx Lx (fun rr M1 L1 => rr = nI (frc a b u) ∧ M1 = Mx ∧ L1 = Lx) := by
  refine k_meti (by decide) (Nat.le_of_ble_eq_true rfl) (fun K hK X Y => ?_)
  subst hK
  refine r_pl [(0, .int (nI (a))), (1, .int (nI (b))), (2, .int (nI (u)))] ⟨rfl, rfl, rfl, trivial⟩ ?_
  refine r_iload_n (q := 1) (i := 0) (j := 0) (x := nI (a)) X rfl rfl dX6_partOf_0 rfl ?_
  refine r_iload_n (q := 2) (i := 1) (j := 1) (x := nI (b)) X rfl rfl dX6_partOf_1 rfl ?_
  refine r_callSi (q := 5) X (c_gcd6 K.2.1 G base Mx Lx a b ha hb) ks_RX6_222 (by decide) (by decide) ⟨Nat.zero_le _, Nat.zero_le _⟩ rfl (Nat.le_of_ble_eq_true rfl) dX6_partOf_2 rfl (fun r M1 L1 hp => ?_)
  obtain ⟨e1, e2, e3⟩ := hp
  subst e1
  replace e2 := e2.symm
  subst e2
  replace e3 := e3.symm
  subst e3
  have hg0 : 0 < Nat.gcd a b := Nat.gcd_pos_of_pos_right _ hb0
  have hg1 : Nat.gcd a b ≤ b := Nat.gcd_le_right _ hb0
  refine r_istore_n (q := 6) (i := 3) (j := 3) X rfl (Nat.le_of_ble_eq_true rfl) dX6_partOf_5 rfl ?_
  refine r_iload_n (q := 7) (i := 3) (j := 3) (x := nI (Nat.gcd a b)) X rfl rfl dX6_partOf_6 rfl ?_
  refine r_if_ne (q := 10) (tgt := 12) X (by decide) dX6_partOf_7 rfl (fun c7 => ?_) (fun c7 => ?_)
  · replace c7 : ¬ (Nat.gcd a b) = 0 := fun h => c7 ((kI_eq0 (by omega)).mpr h)
    refine r_iload_n (q := 13) (i := 2) (j := 2) (x := nI (u)) X rfl rfl dX6_partOf_12 rfl ?_
    refine r_if_eq (q := 16) (tgt := 22) X (by decide) dX6_partOf_13 rfl (fun c13 => ?_) (fun c13 => ?_)
    · replace c13 : u = 0 := (kI_eq0 (by omega)).mp c13
      refine r_iload_n (q := 23) (i := 1) (j := 1) (x := nI (b)) X rfl rfl dX6_partOf_22 rfl ?_
      refine r_iload_n (q := 24) (i := 3) (j := 3) (x := nI (Nat.gcd a b)) X rfl rfl dX6_partOf_23 rfl ?_
      refine r_idivR (q := 25) (x := nI (b)) (y := nI (Nat.gcd a b)) (v := nI (b / (Nat.gcd a b))) X (nI_ne0 (by omega) (by omega)) (pk_div (by omega) (by omega) (by omega)) dX6_partOf_24 rfl ?_
      refine r_iret X Y ?_ dX6_partOf_25
      refine ⟨?_, rfl, rfl⟩
      unfold frc; first | rw [if_pos (by assumption)] | rw [if_neg (by assumption)]
    · replace c13 : ¬ u = 0 := fun h => (c13 ((kI_eq0 (by omega)).mpr h))
      refine r_iload_n (q := 17) (i := 0) (j := 0) (x := nI (a)) X rfl rfl dX6_partOf_16 rfl ?_
      refine r_iload_n (q := 18) (i := 3) (j := 3) (x := nI (Nat.gcd a b)) X rfl rfl dX6_partOf_17 rfl ?_
      refine r_idivR (q := 19) (x := nI (a)) (y := nI (Nat.gcd a b)) (v := nI (a / (Nat.gcd a b))) X (nI_ne0 (by omega) (by omega)) (pk_div (by omega) (by omega) (by omega)) dX6_partOf_18 rfl ?_
      refine r_goto (tgt := 25) X (by decide) dX6_partOf_19 ?_
      refine r_iret X Y ?_ dX6_partOf_25
      refine ⟨?_, rfl, rfl⟩
      unfold frc; first | rw [if_pos (by assumption)] | rw [if_neg (by assumption)]
  · replace c7 : (Nat.gcd a b) = 0 := (kI_eq0 (by omega)).mp c7
    exfalso; omega
theorem c_fraction (l : Launch) (G : ks_G) (base : Nat) (Mx : ks_M) (Lx : ks_L) (a b u : Nat) (ha : a < 2147483648) (hb : b < 2147483648) (hb0 : 0 < b) (hu : u < 2) : KI l G base 1 yX7_fraction cX7_fraction 4 .int [.int (nI (a)), .int (nI (b)), .int (nI (u))] SH Mx Lx (fun rr M1 L1 => rr = nI (frc a b u) ∧ M1 = Mx ∧ L1 = Lx) := by
  refine k_meti (by decide) (Nat.le_of_ble_eq_true rfl) (fun K hK X Y => ?_)
  subst hK
  refine r_pl [(0, .int (nI (a))), (1, .int (nI (b))), (2, .int (nI (u)))] ⟨rfl, rfl, rfl, trivial⟩ ?_
  refine r_iload_n (q := 1) (i := 0) (j := 0) (x := nI (a)) X rfl rfl dX7_fraction_0 rfl ?_
  refine r_iload_n (q := 2) (i := 1) (j := 1) (x := nI (b)) X rfl rfl dX7_fraction_1 rfl ?_
  refine r_callSi (q := 5) X (c_gcd7 K.2.1 G base Mx Lx a b ha hb) ks_RX7_159 (by decide) (by decide) ⟨Nat.zero_le _, Nat.zero_le _⟩ rfl (Nat.le_of_ble_eq_true rfl) dX7_fraction_2 rfl (fun r M1 L1 hp => ?_)
  obtain ⟨e1, e2, e3⟩ := hp
  subst e1
  replace e2 := e2.symm
  subst e2
  replace e3 := e3.symm
  subst e3
  have hg0 : 0 < Nat.gcd a b := Nat.gcd_pos_of_pos_right _ hb0
  have hg1 : Nat.gcd a b ≤ b := Nat.gcd_le_right _ hb0
  refine r_istore_n (q := 6) (i := 3) (j := 3) X rfl (Nat.le_of_ble_eq_true rfl) dX7_fraction_5 rfl ?_
  refine r_iload_n (q := 7) (i := 2) (j := 2) (x := nI (u)) X rfl rfl dX7_fraction_6 rfl ?_
  refine r_if_eq (q := 10) (tgt := 16) X (by decide) dX7_fraction_7 rfl (fun c7 => ?_) (fun c7 => ?_)
  · replace c7 : u = 0 := (kI_eq0 (by omega)).mp c7
    refine r_iload_n (q := 17) (i := 1) (j := 1) (x := nI (b)) X rfl rfl dX7_fraction_16 rfl ?_
    refine r_iload_n (q := 18) (i := 3) (j := 3) (x := nI (Nat.gcd a b)) X rfl rfl dX7_fraction_17 rfl ?_
    refine r_idivR (q := 19) (x := nI (b)) (y := nI (Nat.gcd a b)) (v := nI (b / (Nat.gcd a b))) X (nI_ne0 (by omega) (by omega)) (pk_div (by omega) (by omega) (by omega)) dX7_fraction_18 rfl ?_
    refine r_iret X Y ?_ dX7_fraction_19
    refine ⟨?_, rfl, rfl⟩
    unfold frc; first | rw [if_pos (by assumption)] | rw [if_neg (by assumption)]
  · replace c7 : ¬ u = 0 := fun h => (c7 ((kI_eq0 (by omega)).mpr h))
    refine r_iload_n (q := 11) (i := 0) (j := 0) (x := nI (a)) X rfl rfl dX7_fraction_10 rfl ?_
    refine r_iload_n (q := 12) (i := 3) (j := 3) (x := nI (Nat.gcd a b)) X rfl rfl dX7_fraction_11 rfl ?_
    refine r_idivR (q := 13) (x := nI (a)) (y := nI (Nat.gcd a b)) (v := nI (a / (Nat.gcd a b))) X (nI_ne0 (by omega) (by omega)) (pk_div (by omega) (by omega) (by omega)) dX7_fraction_12 rfl ?_
    refine r_goto (tgt := 19) X (by decide) dX7_fraction_13 ?_
    refine r_iret X Y ?_ dX7_fraction_19
    refine ⟨?_, rfl, rfl⟩
    unfold frc; first | rw [if_pos (by assumption)] | rw [if_neg (by assumption)]
def okr (n : Nat) (x : Int32) (r : Nat) : Prop := x = nI r ∧ r < 10 ^ n ∧ ∀ p, p < n → dg n r p < 4
theorem kp10 {n : Nat} (hn : n ≤ 8) : 10 ^ n ≤ 100000000 := Nat.le_trans (Nat.pow_le_pow_right (by decide) hn) (show 10 ^ 8 ≤ 100000000 by decide)
theorem c_isRow (l : Launch) (G : ks_G) (base : Nat) (Mx : ks_M) (Lx : ks_L) (n : Nat) (x : Int32) (hn : n ≤ 8) : KI l G base 1 yX6_isRow cX6_isRow 3 .boolean [.int (nI (n)), .int (x)] SH Mx Lx (fun rr M1 L1 => (∃ r, rr = nI 1 ∧ okr n x r ∧ M1 = Mx ∧ L1 = Lx) ∨ (rr = nI 0 ∧ (∀ r, ¬ okr n x r) ∧ M1 = Mx ∧ L1 = Lx)) := by
  refine k_meti (by decide) (Nat.le_of_ble_eq_true rfl) (fun K hK X Y => ?_)
  subst hK
  refine r_pl [(0, .int (nI (n))), (1, .int (x))] ⟨rfl, rfl, trivial⟩ ?_
  have h10 := kp10 hn
  refine r_iload_n (q := 1) (i := 1) (j := 1) (x := x) X rfl rfl dX6_isRow_0 rfl ?_
  refine r_if_lt (q := 4) (tgt := 14) X (by decide) dX6_isRow_1 rfl (fun c1 => ?_) (fun c1 => ?_)
  · skip
    refine r_iconst (q := 15) (v := nI 0) X kc_0 dX6_isRow_14 rfl ?_
    refine r_zret X Y (by decide) ?_ dX6_isRow_15
    refine Or.inr ⟨rfl, fun r hr => ?_, rfl, rfl⟩
    obtain ⟨h1, h2, -⟩ := hr
    rw [h1] at c1
    exact absurd c1 (nI_pos (by omega))
  · skip
    obtain ⟨r, hr, rfl⟩ := nI_of c1
    refine r_iload_n (q := 5) (i := 1) (j := 1) (x := nI (r)) X rfl rfl dX6_isRow_4 rfl ?_
    refine r_bipush (q := 7) (v := nI 10) X kb_10 dX6_isRow_5 rfl ?_
    refine r_iload_n (q := 8) (i := 0) (j := 0) (x := nI (n)) X rfl rfl dX6_isRow_7 rfl ?_
    refine r_callSi (q := 11) X (c_power6 K.2.1 G base Mx Lx 10 n (by omega)) ks_RX6_207 (by decide) (by decide) ⟨Nat.zero_le _, Nat.zero_le _⟩ rfl (Nat.le_of_ble_eq_true rfl) dX6_isRow_8 rfl (fun r M1 L1 hp => ?_)
    obtain ⟨e1, e2, e3⟩ := hp
    subst e1
    replace e2 := e2.symm
    subst e2
    replace e3 := e3.symm
    subst e3
    refine r_icmp_lt (q := 14) (tgt := 16) X (by decide) dX6_isRow_11 rfl (fun c11 => ?_) (fun c11 => ?_)
    · replace c11 : r < (10 ^ n) := (nI_ltI (by omega) (by omega)).mp c11
      refine r_iconst (q := 17) (v := nI 0) X kc_0 dX6_isRow_16 rfl ?_
      refine r_istore_n (q := 18) (i := 2) (j := 2) X rfl (Nat.le_of_ble_eq_true rfl) dX6_isRow_17 rfl ?_
      have hr10 : r < 10 ^ n := by omega
      have lp : ∀ (fuel : Nat) (p : Nat), n - p < fuel → (p ≤ n) → (∀ p2, p2 < p → dg n r p2 < 4) → RN K G base 3 0 0 SH Mx Lx 18 [(0, .int (nI (n))), (1, .int (nI (r))), (2, .int (nI (p)))] [] := by
        intro fuel
        induction fuel with
        | zero => intro p hfu; exact absurd hfu (Nat.not_lt_zero _)
        | succ fuel ih =>
          intro p hfu hp hp2
          refine r_iload_n (q := 19) (i := 2) (j := 2) (x := nI (p)) X rfl rfl dX6_isRow_18 rfl ?_
          refine r_iload_n (q := 20) (i := 0) (j := 0) (x := nI (n)) X rfl rfl dX6_isRow_19 rfl ?_
          refine r_icmp_ge (q := 23) (tgt := 41) X (by decide) dX6_isRow_20 rfl (fun c20 => ?_) (fun c20 => ?_)
          · replace c20 : n ≤ p := (nI_leI (by omega) (by omega)).mp c20
            refine r_iconst (q := 42) (v := nI 1) X kc_1 dX6_isRow_41 rfl ?_
            refine r_zret X Y (by decide) ?_ dX6_isRow_42
            exact Or.inl ⟨r, rfl, ⟨rfl, hr10, fun p2 h2 => hp2 p2 (by omega)⟩, rfl, rfl⟩
          · replace c20 : ¬ n ≤ p := fun h => c20 ((nI_leI (by omega) (by omega)).mpr h)
            refine r_iload_n (q := 24) (i := 0) (j := 0) (x := nI (n)) X rfl rfl dX6_isRow_23 rfl ?_
            refine r_iload_n (q := 25) (i := 1) (j := 1) (x := nI (r)) X rfl rfl dX6_isRow_24 rfl ?_
            refine r_iload_n (q := 26) (i := 2) (j := 2) (x := nI (p)) X rfl rfl dX6_isRow_25 rfl ?_
            refine r_callSi (q := 29) X (c_figure K.2.1 G base Mx Lx n r p (by omega) (by omega) hr) ks_RX6_175 (by decide) (by decide) ⟨Nat.zero_le _, Nat.zero_le _⟩ rfl (Nat.le_of_ble_eq_true rfl) dX6_isRow_26 rfl (fun r M1 L1 hp => ?_)
            obtain ⟨e1, e2, e3⟩ := hp
            subst e1
            replace e2 := e2.symm
            subst e2
            replace e3 := e3.symm
            subst e3
            have hdg : dg n r p < 10 := Nat.mod_lt _ (by decide)
            refine r_iconst (q := 30) (v := nI 3) X kc_3 dX6_isRow_29 rfl ?_
            refine r_icmp_le (q := 33) (tgt := 35) X (by decide) dX6_isRow_30 rfl (fun c30 => ?_) (fun c30 => ?_)
            · replace c30 : (dg n r p) ≤ 3 := (nI_leI (by omega) (by omega)).mp c30
              refine r_iinc (q := 38) (i := 2) (x := nI (p)) (v := nI (p + 1)) X rfl (Nat.le_of_ble_eq_true rfl) (kinc 1 rfl) dX6_isRow_35 rfl ?_
              refine r_goto (tgt := 18) X (by decide) dX6_isRow_38 ?_
              refine r_pl [(0, .int (nI (n))), (1, .int (nI (r))), (2, .int (nI (p + 1)))] ⟨rfl, rfl, rfl, trivial⟩ ?_
              exact ih (p + 1) (by omega) (by omega) (fun p2 h2 => by rcases Nat.lt_or_ge p2 p with h | h; exact hp2 p2 h; obtain rfl : p2 = p := (by omega); omega)
            · replace c30 : ¬ (dg n r p) ≤ 3 := fun h => c30 ((nI_leI (by omega) (by omega)).mpr h)
              refine r_iconst (q := 34) (v := nI 0) X kc_0 dX6_isRow_33 rfl ?_
              refine r_zret X Y (by decide) ?_ dX6_isRow_34
              refine Or.inr ⟨rfl, fun r2 hr2 => ?_, rfl, rfl⟩
              obtain ⟨h1, h2, h3⟩ := hr2
              have h4 := (kI_eq hr (by omega)).mp h1
              subst h4
              have h5 := h3 p (by omega)
              omega
      refine r_pl [(0, .int (nI (n))), (1, .int (nI (r))), (2, .int (nI (0)))] ⟨rfl, rfl, rfl, trivial⟩ ?_
      exact lp (n + 1) 0 (by omega) (by omega) (fun p2 h => absurd h (Nat.not_lt_zero _))
    · replace c11 : ¬ r < (10 ^ n) := fun h => c11 ((nI_ltI (by omega) (by omega)).mpr h)
      refine r_iconst (q := 15) (v := nI 0) X kc_0 dX6_isRow_14 rfl ?_
      refine r_zret X Y (by decide) ?_ dX6_isRow_15
      refine Or.inr ⟨rfl, fun r2 hr2 => ?_, rfl, rfl⟩
      obtain ⟨h1, h2, -⟩ := hr2
      have h3 := (kI_eq hr (by omega)).mp h1
      omega
