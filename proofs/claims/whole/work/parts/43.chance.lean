/-! The class's chance -/
/-- how many looks stand ahead of place p -/
def lkn (d : Nat → Nat) : Nat → Nat
  | 0 => 0
  | p + 1 => if d p = 2 then lkn d p + 1 else lkn d p
theorem lkn_y {d : Nat → Nat} {p : Nat} (e : d p = 2) : lkn d (p + 1) = lkn d p + 1 := if_pos e
theorem lkn_n {d : Nat → Nat} {p : Nat} (e : ¬ d p = 2) : lkn d (p + 1) = lkn d p := if_neg e
theorem lkn_le (d : Nat → Nat) : ∀ p, lkn d p ≤ p
  | 0 => Nat.le_refl 0
  | p + 1 => by
    have := lkn_le d p
    by_cases e : d p = 2
    · rw [lkn_y e]; omega
    · rw [lkn_n e]; omega
theorem lkn_mono (d : Nat → Nat) {q : Nat} : ∀ p, q ≤ p → lkn d q ≤ lkn d p
  | 0, h => by obtain rfl : q = 0 := by omega
               exact Nat.le_refl _
  | p + 1, h => by
    by_cases e : q = p + 1
    · subst e; exact Nat.le_refl _
    · have := lkn_mono d (q := q) p (by omega)
      by_cases e : d p = 2
      · rw [lkn_y e]; omega
      · rw [lkn_n e]; omega
theorem lkn_lt {d : Nat → Nat} {q p : Nat} (h : q < p) (e : d q = 2) : lkn d q < lkn d p := by
  have := lkn_mono d p (show q + 1 ≤ p from h)
  rw [lkn_y e] at this; omega
theorem lkn_at (d : Nat → Nat) : ∀ p i, i < lkn d p → ∃ q, q < p ∧ d q = 2 ∧ lkn d q = i
  | 0, i, h => absurd h (Nat.not_lt_zero _)
  | p + 1, i, h => by
    by_cases e : d p = 2
    · rw [lkn_y e] at h
      by_cases e2 : i = lkn d p
      · exact ⟨p, by omega, e, e2.symm⟩
      · obtain ⟨q, h1, h2⟩ := lkn_at d p i (by omega)
        exact ⟨q, by omega, h2⟩
    · rw [lkn_n e] at h
      obtain ⟨q, h1, h2⟩ := lkn_at d p i h
      exact ⟨q, by omega, h2⟩
/-- what the looks of the first p turns bring lies in g -/
def gat (S X : Nat → Nat) (d g : Nat → Nat) (p : Nat) : Prop := ∀ q, q < p → d q = 2 → g (lkn d q) = gn S (rn S X d q)
theorem gat_n {S X d g : Nat → Nat} {p : Nat} (h : gat S X d g p) (e : ¬ d p = 2) : gat S X d g (p + 1) := fun q hq h2 => by
  rcases (show q < p ∨ q = p by omega) with h9 | h9
  · exact h q h9 h2
  · subst h9; exact absurd h2 e
theorem gat_y {S X d g : Nat → Nat} {p : Nat} (h : gat S X d g p) (e : d p = 2) : gat S X d (up1 g (lkn d p) (gn S (rn S X d p))) (p + 1) := fun q hq h2 => by
  rcases (show q < p ∨ q = p by omega) with h9 | h9
  · have := lkn_lt h9 h2
    unfold up1; rw [if_neg (by omega)]; exact h q h9 h2
  · subst h9; unfold up1; rw [if_pos rfl]
theorem up2_sr {M : ks_M} {i j k n : Nat} {x : Nat → Nat} (h : i ≠ j) : up2 (sr M j x) i k n = sr (up2 M i k n) j x := by
  funext a b
  by_cases h2 : a = j
  · subst h2; simp [up2, sr, Ne.symm h]
  · simp [up2, sr, h2]
/-- the joy of the looks i that are clear in c -/
def jyo (g : Nat → Nat) (c : Nat) : Nat → Nat
  | 0 => 0
  | i + 1 => jyo g c i + (c >>> i &&& 1) * g i
theorem jyo_le {g : Nat → Nat} {c : Nat} : ∀ i, (∀ q, q < i → g q < 1000) → jyo g c i ≤ 1000 * i
  | 0, _ => Nat.le_refl 0
  | i + 1, h => by
    have h1 := jyo_le (c := c) i (fun q hq => h q (by omega))
    have h2 : (c >>> i &&& 1) ≤ 1 := Nat.and_le_right
    have h3 := h i (by omega)
    have h4 := Nat.mul_le_mul h2 (Nat.le_of_lt h3)
    show jyo g c i + (c >>> i &&& 1) * g i ≤ _
    omega
def wgt (k c x : Nat) : Nat := (10 - x) ^ mnk c 6 * x ^ (k - mnk c 6)
theorem wgt_le {k c x : Nat} (hx : x ≤ 10) (hk : k ≤ 6) (hm : mnk c 6 ≤ k) : wgt k c x ≤ 1000000 := by
  have h1 : (10 - x) ^ mnk c 6 ≤ 10 ^ mnk c 6 := Nat.pow_le_pow_left (Nat.sub_le _ _) _
  have h2 : x ^ (k - mnk c 6) ≤ 10 ^ (k - mnk c 6) := Nat.pow_le_pow_left hx _
  have h3 := Nat.mul_le_mul h1 h2
  rw [← Nat.pow_add, show mnk c 6 + (k - mnk c 6) = k by omega] at h3
  exact Nat.le_trans h3 (Nat.le_trans (Nat.pow_le_pow_right (by decide) hk) (show 10 ^ 6 ≤ 1000000 by decide))
theorem mnk_k : ∀ k, k ≤ 6 → ∀ s, s < 1 <<< k → mnk s 6 ≤ k := by decide +kernel
/-- the tenths of the cases below c by which there is as much joy as j -/
def goo (g : Nat → Nat) (k j x : Nat) : Nat → Nat
  | 0 => 0
  | c + 1 => if j ≤ jyo g c k then goo g k j x c + wgt k c x else goo g k j x c
theorem goo_y {g : Nat → Nat} {k j x c : Nat} (e : j ≤ jyo g c k) : goo g k j x (c + 1) = goo g k j x c + wgt k c x := if_pos e
theorem goo_n {g : Nat → Nat} {k j x c : Nat} (e : ¬ j ≤ jyo g c k) : goo g k j x (c + 1) = goo g k j x c := if_neg e
theorem goo_le {g : Nat → Nat} {k j x : Nat} (hx : x ≤ 10) (hk : k ≤ 6) : ∀ c, c ≤ 1 <<< k → goo g k j x c ≤ c * 1000000
  | 0, _ => Nat.zero_le _
  | c + 1, hc => by
    have h1 := goo_le (g := g) (j := j) hx hk c (by omega)
    have h2 := wgt_le hx hk (mnk_k k hk c (by omega))
    by_cases e : j ≤ jyo g c k
    · rw [goo_y e, Nat.succ_mul]; exact Nat.add_le_add h1 h2
    · rw [goo_n e, Nat.succ_mul]; exact Nat.le_trans h1 (Nat.le_add_right _ _)
set_option maxHeartbeats 8000000 in
theorem c_gather (l : Launch) (G : ks_G) (base : Nat) (Mx : ks_M) (Lx : ks_L) (n ro : Nat) (hn6 : n ≤ 6) (hr10 : ro < 2147483648) (hdig : ∀ p, p < n → dg n ro p < 4) (ok : okN Mx) (hn : Mx 3 3 ≤ 6) (h0n : Mx 7 0 < Mx 3 3 ∨ Mx 7 0 = 0) : KI l G base 3 yX6_gatherGains cX6_gatherGains 7 .int [.ref (base + 0), .int (nI (n)), .int (nI (ro))] SH Mx Lx (fun rr M1 L1 => (rr = (-1) ∧ (∃ q, q < n ∧ ¬ cn (Mx 3 3) (rn (Mx 6) (cp7 (Mx 8) (Mx 7)) (dg n ro) (q)) (dg n ro q) = 1) ∧ (∀ a, a ≠ 8 → a ≠ 43 → M1 a = Mx a) ∧ L1 = Lx) ∨ (rr = nI (lkn (dg n ro) (n)) ∧ (∀ q, q < n → cn (Mx 3 3) (rn (Mx 6) (cp7 (Mx 8) (Mx 7)) (dg n ro) (q)) (dg n ro q) = 1) ∧ gat (Mx 6) (cp7 (Mx 8) (Mx 7)) (dg n ro) (M1 43) (n) ∧ (∀ a, a ≠ 8 → a ≠ 43 → M1 a = Mx a) ∧ L1 = Lx)) := by
  refine k_meti (by decide) (Nat.le_of_ble_eq_true rfl) (fun K hK X Y => ?_)
  subst hK
  refine r_pl [(0, .ref (base + 0)), (1, .int (nI (n))), (2, .int (nI (ro)))] ⟨rfl, rfl, rfl, trivial⟩ ?_
  refine r_iconst (q := 1) (v := nI 0) X kc_0 dX6_gatherGains_0 rfl ?_
  refine r_istore_n (q := 2) (i := 3) (j := 3) X rfl (Nat.le_of_ble_eq_true rfl) dX6_gatherGains_1 rfl ?_
  refine r_aload_n (q := 3) (i := 0) (j := 0) (x := base + 0) X rfl rfl dX6_gatherGains_2 rfl ?_
  refine r_getf (q := 6) (i := 0) (v := .ref (base + 8)) X fk_X6_30 kh_0 rfl rfl dX6_gatherGains_3 rfl ?_
  refine r_aload_n (q := 7) (i := 0) (j := 0) (x := base + 0) X rfl rfl dX6_gatherGains_6 rfl ?_
  refine r_getf (q := 10) (i := 0) (v := .ref (base + 7)) X fk_X6_26 kh_0 rfl rfl dX6_gatherGains_7 rfl ?_
  refine r_callVv (q := 13) X (c_copy K.2.1 G base Mx Lx 8 kh_8 7 kh_7 (by decide)) kh_8 rfl ks_RX6_172 (by decide) (by decide) ⟨Nat.zero_le _, Nat.zero_le _⟩ rfl (Nat.le_of_ble_eq_true rfl) dX6_gatherGains_10 rfl (fun M1 L1 hp => ?_)
  obtain ⟨e2, e3⟩ := hp
  replace e2 := e2.symm
  subst e2
  replace e3 := e3.symm
  subst e3
  refine r_iconst (q := 14) (v := nI 0) X kc_0 dX6_gatherGains_13 rfl ?_
  refine r_istore (q := 16) (i := 4) X (Nat.le_of_ble_eq_true rfl) dX6_gatherGains_14 rfl ?_
  have hok0 : rok (Mx 3 3) 100000 (cp7 (Mx 8) (Mx 7)) := cp7_ok (okN_rok ok h0n)
  have lp : ∀ (fuel : Nat) (p : Nat) (Mv : ks_M), n - p < fuel → (p ≤ n) → (∀ q, q < p → cn (Mx 3 3) (rn (Mx 6) (cp7 (Mx 8) (Mx 7)) (dg n ro) (q)) (dg n ro q) = 1) → ((∀ a, a ≠ 8 → a ≠ 43 → Mv a = Mx a)) → (gat (Mx 6) (cp7 (Mx 8) (Mx 7)) (dg n ro) (Mv 43) (p)) → RN K G base 7 0 0 SH ((sr Mv 8 (rn (Mx 6) (cp7 (Mx 8) (Mx 7)) (dg n ro) (p)))) Lx 16 [(0, .ref (base + 0)), (1, .int (nI (n))), (2, .int (nI (ro))), (3, .int (nI (lkn (dg n ro) (p)))), (4, .int (nI (p)))] [] := by
    intro fuel
    induction fuel with
    | zero => intro p Mv hfu; exact absurd hfu (Nat.not_lt_zero _)
    | succ fuel ih =>
      intro p Mv hfu hp9 hal hfv hg
      refine r_iload (q := 18) (i := 4) (x := nI (p)) X rfl dX6_gatherGains_16 rfl ?_
      refine r_iload_n (q := 19) (i := 1) (j := 1) (x := nI (n)) X rfl rfl dX6_gatherGains_18 rfl ?_
      refine r_icmp_ge (q := 22) (tgt := 96) X (by decide) dX6_gatherGains_19 rfl (fun c19 => ?_) (fun c19 => ?_)
      · replace c19 : n ≤ p := (nI_leI (by omega) (by omega)).mp c19
        refine r_iload_n (q := 97) (i := 3) (j := 3) (x := nI (lkn (dg n ro) (p))) X rfl rfl dX6_gatherGains_96 rfl ?_
        refine r_iret X Y ?_ dX6_gatherGains_97
        obtain rfl : p = n := by omega
        exact Or.inr ⟨rfl, hal, by rw [sr_o (by decide)]; exact hg, fun a h1 h2 => (sr_o h1).trans (hfv a h1 h2), rfl⟩
      · replace c19 : ¬ n ≤ p := fun h => c19 ((nI_leI (by omega) (by omega)).mpr h)
        refine r_iload_n (q := 23) (i := 1) (j := 1) (x := nI (n)) X rfl rfl dX6_gatherGains_22 rfl ?_
        refine r_iload_n (q := 24) (i := 2) (j := 2) (x := nI (ro)) X rfl rfl dX6_gatherGains_23 rfl ?_
        refine r_iload (q := 26) (i := 4) (x := nI (p)) X rfl dX6_gatherGains_24 rfl ?_
        refine r_callSi (q := 29) X (c_figure K.2.1 G base _ Lx n ro p (by omega) (by omega) (by omega)) ks_RX6_175 (by decide) (by decide) ⟨Nat.zero_le _, Nat.zero_le _⟩ rfl (Nat.le_of_ble_eq_true rfl) dX6_gatherGains_26 rfl (fun r M1 L1 hp => ?_)
        obtain ⟨e1, e2, e3⟩ := hp
        subst e1
        replace e2 := e2.symm
        subst e2
        replace e3 := e3.symm
        subst e3
        have hd4 := hdig p (by omega)
        have hro := rn_ok hn hdig hok0 p (by omega) hal
        have hlk := lkn_le (dg n ro) p
        refine r_istore (q := 31) (i := 5) X (Nat.le_of_ble_eq_true rfl) dX6_gatherGains_29 rfl ?_
        refine r_aload_n (q := 32) (i := 0) (j := 0) (x := base + 0) X rfl rfl dX6_gatherGains_31 rfl ?_
        refine r_getf (q := 35) (i := 0) (v := .ref (base + 8)) X fk_X6_30 kh_0 rfl rfl dX6_gatherGains_32 rfl ?_
        refine r_aload_n (q := 36) (i := 0) (j := 0) (x := base + 0) X rfl rfl dX6_gatherGains_35 rfl ?_
        refine r_getf (q := 39) (i := 0) (v := .ref (base + 3)) X fk_X6_19 kh_0 rfl rfl dX6_gatherGains_36 rfl ?_
        refine r_iload (q := 41) (i := 5) (x := nI (dg n ro p)) X rfl dX6_gatherGains_39 rfl ?_
        refine r_callVi (q := 44) X (c_can K.2.1 G base (sr Mv 8 (rn (Mx 6) (cp7 (Mx 8) (Mx 7)) (dg n ro) (p))) Lx 8 kh_8 (dg n ro p) (by omega) (by rw [sr_s]; have := hro.1; omega) (by rw [sr_s]; have := hro.2.2.1; omega) (by rw [sr_o (by decide), hfv 3 (by decide) (by decide)]; omega)) kh_8 rfl ks_RX6_135 (by decide) (by decide) ⟨Nat.zero_le _, Nat.zero_le _⟩ rfl (Nat.le_of_ble_eq_true rfl) dX6_gatherGains_41 rfl (fun r M1 L1 hp => ?_)
        rw [sr_s, show (sr Mv 8 (rn (Mx 6) (cp7 (Mx 8) (Mx 7)) (dg n ro) (p))) 3 = Mx 3 from (sr_o (by decide)).trans (hfv 3 (by decide) (by decide))] at hp
        obtain ⟨e1, e2, e3⟩ := hp
        subst e1
        replace e2 := e2.symm
        subst e2
        replace e3 := e3.symm
        subst e3
        have hcn := cn_2 (Mx 3 3) (rn (Mx 6) (cp7 (Mx 8) (Mx 7)) (dg n ro) (p)) (dg n ro p)
        refine r_if_ne (q := 47) (tgt := 49) X (by decide) dX6_gatherGains_44 rfl (fun c44 => ?_) (fun c44 => ?_)
        · replace c44 : ¬ (cn (Mx 3 3) (rn (Mx 6) (cp7 (Mx 8) (Mx 7)) (dg n ro) (p)) (dg n ro p)) = 0 := fun h => c44 ((kI_eq0 (by omega)).mpr h)
          have hc1 : cn (Mx 3 3) (rn (Mx 6) (cp7 (Mx 8) (Mx 7)) (dg n ro) (p)) (dg n ro p) = 1 := by omega
          refine r_aload_n (q := 50) (i := 0) (j := 0) (x := base + 0) X rfl rfl dX6_gatherGains_49 rfl ?_
          refine r_getf (q := 53) (i := 0) (v := .ref (base + 8)) X fk_X6_30 kh_0 rfl rfl dX6_gatherGains_50 rfl ?_
          refine r_aload_n (q := 54) (i := 0) (j := 0) (x := base + 0) X rfl rfl dX6_gatherGains_53 rfl ?_
          refine r_getf (q := 57) (i := 0) (v := .ref (base + 3)) X fk_X6_19 kh_0 rfl rfl dX6_gatherGains_54 rfl ?_
          refine r_iload (q := 59) (i := 5) (x := nI (dg n ro p)) X rfl dX6_gatherGains_57 rfl ?_
          refine r_callVi (q := 62) X (c_take K.2.1 G base (sr Mv 8 (rn (Mx 6) (cp7 (Mx 8) (Mx 7)) (dg n ro) (p))) Lx 8 kh_8 (dg n ro p) hd4 (by rw [sr_s]; exact hro.1) (by rw [sr_s]; have := hro.2.2.2.1; omega) (by rw [sr_s]; have := hro.2.2.2.2.1; omega) (by rw [sr_s]; have := hro.2.2.2.2.2.1; omega) (by rw [sr_s]; have := hro.2.2.2.2.2.2; omega) (fun h => by rw [sr_s]; rw [h] at hc1; exact cn_0 hc1) (fun h => by rw [sr_s]; rw [h] at hc1; exact cn_look hc1)) kh_8 rfl ks_RX6_149 (by decide) (by decide) ⟨Nat.zero_le _, Nat.zero_le _⟩ rfl (Nat.le_of_ble_eq_true rfl) dX6_gatherGains_59 rfl (fun r M1 L1 hp => ?_)
          rw [sr_s, show (sr Mv 8 (rn (Mx 6) (cp7 (Mx 8) (Mx 7)) (dg n ro) (p))) 6 = Mx 6 from (sr_o (by decide)).trans (hfv 6 (by decide) (by decide)), sr_sr] at hp
          obtain ⟨e1, e2, e3⟩ := hp
          subst e1
          replace e2 := e2.symm
          subst e2
          replace e3 := e3.symm
          subst e3
          refine r_istore (q := 64) (i := 6) X (Nat.le_of_ble_eq_true rfl) dX6_gatherGains_62 rfl ?_
          refine r_iload (q := 66) (i := 5) (x := nI (dg n ro p)) X rfl dX6_gatherGains_64 rfl ?_
          refine r_iconst (q := 67) (v := nI 2) X kc_2 dX6_gatherGains_66 rfl ?_
          refine r_icmp_ne (q := 70) (tgt := 90) X (by decide) dX6_gatherGains_67 rfl (fun c67 => ?_) (fun c67 => ?_)
          · replace c67 : ¬ (dg n ro p) = 2 := fun h => c67 ((kI_eq (by omega) (by omega)).mpr h)
            refine r_iinc (q := 93) (i := 4) (x := nI (p)) (v := nI (p + 1)) X rfl (Nat.le_of_ble_eq_true rfl) (kinc 1 rfl) dX6_gatherGains_90 rfl ?_
            refine r_goto (tgt := 16) X (by decide) dX6_gatherGains_93 ?_
            refine r_pl [(0, .ref (base + 0)), (1, .int (nI (n))), (2, .int (nI (ro))), (3, .int (nI (lkn (dg n ro) (p + 1)))), (4, .int (nI (p + 1)))] ⟨rfl, rfl, rfl, by rw [lkn_n c67]; rfl, rfl, trivial⟩ ?_
            exact ih (p + 1) Mv (by omega) (by omega) (fun q hq => by rcases (show q < p ∨ q = p by omega) with h9 | h9; exact hal q h9; subst h9; exact hc1) hfv (gat_n hg c67)
          · replace c67 : (dg n ro p) = 2 := (kI_eq (by omega) (by omega)).mp c67
            refine r_iload_n (q := 71) (i := 3) (j := 3) (x := nI (lkn (dg n ro) (p))) X rfl rfl dX6_gatherGains_70 rfl ?_
            refine r_aload_n (q := 72) (i := 0) (j := 0) (x := base + 0) X rfl rfl dX6_gatherGains_71 rfl ?_
            refine r_getf (q := 75) (i := 0) (v := .ref (base + 43)) X fk_X6_62 kh_0 rfl rfl dX6_gatherGains_72 rfl ?_
            refine r_alen (q := 76) (i := 43) (n := 6) X kh_43 dX6_gatherGains_75 rfl ?_
            refine r_icmp_ge (q := 79) (tgt := 90) X (by decide) dX6_gatherGains_76 rfl (fun c76 => ?_) (fun c76 => ?_)
            · replace c76 : 6 ≤ (lkn (dg n ro) (p)) := (nI_leI (by omega) (by omega)).mp c76
              exact absurd c76 (by omega)
            · replace c76 : ¬ 6 ≤ (lkn (dg n ro) (p)) := fun h => c76 ((nI_leI (by omega) (by omega)).mpr h)
              refine r_aload_n (q := 80) (i := 0) (j := 0) (x := base + 0) X rfl rfl dX6_gatherGains_79 rfl ?_
              refine r_getf (q := 83) (i := 0) (v := .ref (base + 43)) X fk_X6_62 kh_0 rfl rfl dX6_gatherGains_80 rfl ?_
              refine r_iload_n (q := 84) (i := 3) (j := 3) (x := nI (lkn (dg n ro) (p))) X rfl rfl dX6_gatherGains_83 rfl ?_
              refine r_iload (q := 86) (i := 6) (x := nI (if dg n ro p = 2 then gn (Mx 6) (rn (Mx 6) (cp7 (Mx 8) (Mx 7)) (dg n ro) (p)) else 0)) X rfl dX6_gatherGains_84 rfl ?_
              refine r_iast (q := 87) (i := 43) (j := lkn (dg n ro) (p)) (v := if dg n ro p = 2 then gn (Mx 6) (rn (Mx 6) (cp7 (Mx 8) (Mx 7)) (dg n ro) (p)) else 0) X kh_43 (by omega) (Nat.le_of_ble_eq_true rfl) dX6_gatherGains_86 rfl ?_
              refine r_iinc (q := 90) (i := 3) (x := nI (lkn (dg n ro) (p))) (v := nI (lkn (dg n ro) (p) + 1)) X rfl (Nat.le_of_ble_eq_true rfl) (kinc 1 rfl) dX6_gatherGains_87 rfl ?_
              refine r_iinc (q := 93) (i := 4) (x := nI (p)) (v := nI (p + 1)) X rfl (Nat.le_of_ble_eq_true rfl) (kinc 1 rfl) dX6_gatherGains_90 rfl ?_
              refine r_goto (tgt := 16) X (by decide) dX6_gatherGains_93 ?_
              refine r_mem (sr (up2 Mv 43 (lkn (dg n ro) (p)) (gn (Mx 6) (rn (Mx 6) (cp7 (Mx 8) (Mx 7)) (dg n ro) (p)))) 8 (rn (Mx 6) (cp7 (Mx 8) (Mx 7)) (dg n ro) (p + 1))) (by rw [if_pos c67]; exact up2_sr (by decide)) ?_
              refine r_pl [(0, .ref (base + 0)), (1, .int (nI (n))), (2, .int (nI (ro))), (3, .int (nI (lkn (dg n ro) (p + 1)))), (4, .int (nI (p + 1)))] ⟨rfl, rfl, rfl, by rw [lkn_y c67]; rfl, rfl, trivial⟩ ?_
              exact ih (p + 1) (up2 Mv 43 (lkn (dg n ro) (p)) (gn (Mx 6) (rn (Mx 6) (cp7 (Mx 8) (Mx 7)) (dg n ro) (p)))) (by omega) (by omega) (fun q hq => by rcases (show q < p ∨ q = p by omega) with h9 | h9; exact hal q h9; subst h9; exact hc1) (fun a h1 h2 => by rw [← hfv a h1 h2]; funext b; exact up2_o h2) (by rw [sr_up, sr_s]; exact gat_y hg c67)
        · replace c44 : (cn (Mx 3 3) (rn (Mx 6) (cp7 (Mx 8) (Mx 7)) (dg n ro) (p)) (dg n ro p)) = 0 := (kI_eq0 (by omega)).mp c44
          refine r_iconst (q := 48) (v := (-1)) X kc_m1 dX6_gatherGains_47 rfl ?_
          refine r_iret X Y ?_ dX6_gatherGains_48
          exact Or.inl ⟨rfl, ⟨p, by omega, fun h9 => by omega⟩, fun a h1 h2 => (sr_o h1).trans (hfv a h1 h2), rfl⟩
  refine r_pl [(0, .ref (base + 0)), (1, .int (nI (n))), (2, .int (nI (ro))), (3, .int (nI (lkn (dg n ro) (0)))), (4, .int (nI (0)))] ⟨rfl, rfl, rfl, rfl, rfl, trivial⟩ ?_
  exact lp (n + 1) 0 Mx (by omega) (by omega) (fun q hq => absurd hq (Nat.not_lt_zero _)) (fun a _ _ => rfl) (fun q hq => absurd hq (Nat.not_lt_zero _))
set_option maxHeartbeats 8000000 in
theorem c_joyOf (l : Launch) (G : ks_G) (base : Nat) (Mx : ks_M) (Lx : ks_L) (k c : Nat) (hk : k ≤ 6) (hc : c < 64) : KI l G base 0 yX6_joyOf cX6_joyOf 5 .int [.ref (base + 0), .int (nI (k)), .int (nI (c))] SH Mx Lx (fun rr M1 L1 => rr = nI (jyo (Mx 43) c k) ∧ M1 = Mx ∧ L1 = Lx) := by
  refine k_meti (by decide) (Nat.le_of_ble_eq_true rfl) (fun K hK X Y => ?_)
  subst hK
  have lp : ∀ (fuel : Nat) (i : Nat), k - i < fuel → (i ≤ k) → RN K G base 5 0 0 SH Mx Lx 5 [(0, .ref (base + 0)), (1, .int (nI (k))), (2, .int (nI (c))), (3, .int (nI (jyo (Mx 43) c (i)))), (4, .int (nI (i)))] [] := by
    intro fuel
    induction fuel with
    | zero => intro i hfu; exact absurd hfu (Nat.not_lt_zero _)
    | succ fuel ih =>
      intro i hfu hi
      refine r_iload (q := 7) (i := 4) (x := nI (i)) X rfl dX6_joyOf_5 rfl ?_
      refine r_iload_n (q := 8) (i := 1) (j := 1) (x := nI (k)) X rfl rfl dX6_joyOf_7 rfl ?_
      refine r_icmp_ge (q := 11) (tgt := 44) X (by decide) dX6_joyOf_8 rfl (fun c8 => ?_) (fun c8 => ?_)
      · replace c8 : k ≤ i := (nI_leI (by omega) (by omega)).mp c8
        refine r_iload_n (q := 45) (i := 3) (j := 3) (x := nI (jyo (Mx 43) c (i))) X rfl rfl dX6_joyOf_44 rfl ?_
        refine r_iret X Y ?_ dX6_joyOf_45
        obtain rfl : i = k := by omega
        exact ⟨rfl, rfl, rfl⟩
      · replace c8 : ¬ k ≤ i := fun h => c8 ((nI_leI (by omega) (by omega)).mpr h)
        refine r_iload (q := 13) (i := 4) (x := nI (i)) X rfl dX6_joyOf_11 rfl ?_
        refine r_aload_n (q := 14) (i := 0) (j := 0) (x := base + 0) X rfl rfl dX6_joyOf_13 rfl ?_
        refine r_getf (q := 17) (i := 0) (v := .ref (base + 43)) X fk_X6_62 kh_0 rfl rfl dX6_joyOf_14 rfl ?_
        refine r_alen (q := 18) (i := 43) (n := 6) X kh_43 dX6_joyOf_17 rfl ?_
        refine r_icmp_ge (q := 21) (tgt := 44) X (by decide) dX6_joyOf_18 rfl (fun c18 => ?_) (fun c18 => ?_)
        · replace c18 : 6 ≤ i := (nI_leI (by omega) (by omega)).mp c18
          exact absurd c18 (by omega)
        · replace c18 : ¬ 6 ≤ i := fun h => c18 ((nI_leI (by omega) (by omega)).mpr h)
          refine r_iload_n (q := 22) (i := 3) (j := 3) (x := nI (jyo (Mx 43) c (i))) X rfl rfl dX6_joyOf_21 rfl ?_
          refine r_iload_n (q := 23) (i := 2) (j := 2) (x := nI (c)) X rfl rfl dX6_joyOf_22 rfl ?_
          refine r_iload (q := 25) (i := 4) (x := nI (i)) X rfl dX6_joyOf_23 rfl ?_
          refine r_ishrR (q := 26) (x := nI (c)) (y := nI (i)) (v := nI (c >>> i)) X (k_shr (by omega) (by omega)) dX6_joyOf_25 rfl ?_
          refine r_iconst (q := 27) (v := nI 1) X kc_1 dX6_joyOf_26 rfl ?_
          refine r_iandR (q := 28) (x := nI (c >>> i)) (y := nI 1) (v := nI ((c >>> i) &&& 1)) X (fa_and _ _) dX6_joyOf_27 rfl ?_
          refine r_aload_n (q := 29) (i := 0) (j := 0) (x := base + 0) X rfl rfl dX6_joyOf_28 rfl ?_
          refine r_getf (q := 32) (i := 0) (v := .ref (base + 43)) X fk_X6_62 kh_0 rfl rfl dX6_joyOf_29 rfl ?_
          refine r_iload (q := 34) (i := 4) (x := nI (i)) X rfl dX6_joyOf_32 rfl ?_
          refine r_iald (q := 35) (i := 43) (j := i) (v := Mx 43 i) X kh_43 (by omega) (Nat.le_of_ble_eq_true rfl) rfl dX6_joyOf_34 rfl ?_
          refine r_imulR (q := 36) (x := nI ((c >>> i) &&& 1)) (y := nI (Mx 43 i)) (v := nI (((c >>> i) &&& 1) * (Mx 43 i))) X (pk_mul _ _) dX6_joyOf_35 rfl ?_
          refine r_iaddR (q := 37) (x := nI (jyo (Mx 43) c (i))) (y := nI (((c >>> i) &&& 1) * (Mx 43 i))) (v := nI ((jyo (Mx 43) c (i)) + (((c >>> i) &&& 1) * (Mx 43 i)))) X (nI_add _ _) dX6_joyOf_36 rfl ?_
          refine r_istore_n (q := 38) (i := 3) (j := 3) X rfl (Nat.le_of_ble_eq_true rfl) dX6_joyOf_37 rfl ?_
          refine r_iinc (q := 41) (i := 4) (x := nI (i)) (v := nI (i + 1)) X rfl (Nat.le_of_ble_eq_true rfl) (kinc 1 rfl) dX6_joyOf_38 rfl ?_
          refine r_goto (tgt := 5) X (by decide) dX6_joyOf_41 ?_
          refine r_pl [(0, .ref (base + 0)), (1, .int (nI (k))), (2, .int (nI (c))), (3, .int (nI (jyo (Mx 43) c (i + 1)))), (4, .int (nI (i + 1)))] ⟨rfl, rfl, rfl, rfl, rfl, trivial⟩ ?_
          exact ih (i + 1) (by omega) (by omega)
  refine r_pl [(0, .ref (base + 0)), (1, .int (nI (k))), (2, .int (nI (c)))] ⟨rfl, rfl, rfl, trivial⟩ ?_
  refine r_iconst (q := 1) (v := nI 0) X kc_0 dX6_joyOf_0 rfl ?_
  refine r_istore_n (q := 2) (i := 3) (j := 3) X rfl (Nat.le_of_ble_eq_true rfl) dX6_joyOf_1 rfl ?_
  refine r_iconst (q := 3) (v := nI 0) X kc_0 dX6_joyOf_2 rfl ?_
  refine r_istore (q := 5) (i := 4) X (Nat.le_of_ble_eq_true rfl) dX6_joyOf_3 rfl ?_
  refine r_pl [(0, .ref (base + 0)), (1, .int (nI (k))), (2, .int (nI (c))), (3, .int (nI (jyo (Mx 43) c (0)))), (4, .int (nI (0)))] ⟨rfl, rfl, rfl, rfl, rfl, trivial⟩ ?_
  exact lp (k + 1) 0 (by omega) (by omega)
set_option maxHeartbeats 8000000 in
theorem c_weightOf (l : Launch) (G : ks_G) (base : Nat) (Mx : ks_M) (Lx : ks_L) (k c y : Nat) (hk : k ≤ 6) (hc : c < 64) (hx : y ≤ 10) (hm : mnk c 6 ≤ k) : KI l G base 1 yX6_weightOf cX6_weightOf 4 .int [.int (nI (k)), .int (nI (c)), .int (nI (y))] SH Mx Lx (fun rr M1 L1 => rr = nI (wgt k c y) ∧ M1 = Mx ∧ L1 = Lx) := by
  refine k_meti (by decide) (Nat.le_of_ble_eq_true rfl) (fun K hK X Y => ?_)
  subst hK
  refine r_pl [(0, .int (nI (k))), (1, .int (nI (c))), (2, .int (nI (y)))] ⟨rfl, rfl, rfl, trivial⟩ ?_
  refine r_iload_n (q := 1) (i := 1) (j := 1) (x := nI (c)) X rfl rfl dX6_weightOf_0 rfl ?_
  refine r_callSi (q := 4) X (c_bits K.2.1 G base Mx Lx c hc) ks_RX6_160 (by decide) (by decide) ⟨Nat.zero_le _, Nat.zero_le _⟩ rfl (Nat.le_of_ble_eq_true rfl) dX6_weightOf_1 rfl (fun r M1 L1 hp => ?_)
  obtain ⟨e1, e2, e3⟩ := hp
  subst e1
  replace e2 := e2.symm
  subst e2
  replace e3 := e3.symm
  subst e3
  refine r_istore_n (q := 5) (i := 3) (j := 3) X rfl (Nat.le_of_ble_eq_true rfl) dX6_weightOf_4 rfl ?_
  refine r_bipush (q := 7) (v := nI 10) X kb_10 dX6_weightOf_5 rfl ?_
  refine r_iload_n (q := 8) (i := 2) (j := 2) (x := nI (y)) X rfl rfl dX6_weightOf_7 rfl ?_
  refine r_isubR (q := 9) (x := nI 10) (y := nI (y)) (v := nI (10 - y)) X (pk_sub hx) dX6_weightOf_8 rfl ?_
  refine r_iload_n (q := 10) (i := 3) (j := 3) (x := nI (mnk c 6)) X rfl rfl dX6_weightOf_9 rfl ?_
  refine r_callSi (q := 13) X (c_power6 K.2.1 G base Mx Lx (10 - y) (mnk c 6) (by have := mnk_le c 6; omega)) ks_RX6_207 (by decide) (by decide) ⟨Nat.zero_le _, Nat.zero_le _⟩ rfl (Nat.le_of_ble_eq_true rfl) dX6_weightOf_10 rfl (fun r M1 L1 hp => ?_)
  obtain ⟨e1, e2, e3⟩ := hp
  subst e1
  replace e2 := e2.symm
  subst e2
  replace e3 := e3.symm
  subst e3
  refine r_iload_n (q := 14) (i := 2) (j := 2) (x := nI (y)) X rfl rfl dX6_weightOf_13 rfl ?_
  refine r_iload_n (q := 15) (i := 0) (j := 0) (x := nI (k)) X rfl rfl dX6_weightOf_14 rfl ?_
  refine r_iload_n (q := 16) (i := 3) (j := 3) (x := nI (mnk c 6)) X rfl rfl dX6_weightOf_15 rfl ?_
  refine r_isubR (q := 17) (x := nI (k)) (y := nI (mnk c 6)) (v := nI (k - (mnk c 6))) X (pk_sub hm) dX6_weightOf_16 rfl ?_
  refine r_callSi (q := 20) X (c_power6 K.2.1 G base Mx Lx y (k - mnk c 6) (by omega)) ks_RX6_207 (by decide) (by decide) ⟨Nat.zero_le _, Nat.zero_le _⟩ rfl (Nat.le_of_ble_eq_true rfl) dX6_weightOf_17 rfl (fun r M1 L1 hp => ?_)
  obtain ⟨e1, e2, e3⟩ := hp
  subst e1
  replace e2 := e2.symm
  subst e2
  replace e3 := e3.symm
  subst e3
  refine r_imulR (q := 21) (x := nI ((10 - y) ^ mnk c 6)) (y := nI (y ^ (k - mnk c 6))) (v := nI (((10 - y) ^ mnk c 6) * (y ^ (k - mnk c 6)))) X (pk_mul _ _) dX6_weightOf_20 rfl ?_
  refine r_iret X Y ?_ dX6_weightOf_21
  exact ⟨rfl, rfl, rfl⟩
theorem kp10q (n : Nat) : 0 < 10 ^ n := Nat.pow_pos (by decide)
set_option maxHeartbeats 8000000 in
theorem c6_chance (l : Launch) (G : ks_G) (base : Nat) (Mx : ks_M) (Lx : ks_L) (x z u v : Int32) (b : Nat) (hb : b < 2) (ok : okN Mx) (hn : Mx 3 3 ≤ 6) (h0n : Mx 7 0 < Mx 3 3 ∨ Mx 7 0 = 0) (hS : ∀ k, Mx 6 k < 1000) (hJ : Mx 7 3 < 1000000000) : KI l G base 4 yX6_chance cX6_chance 9 .int [.ref (base + 0), .int (x), .int (z), .int (u), .int (v), .int (nI (b))] SH Mx Lx (fun rr M1 L1 => (rr = (-2) ∧ ¬ (∃ n ro j y, 1 ≤ n ∧ n ≤ 6 ∧ x = nI n ∧ okr n z ro ∧ j ≤ 99 ∧ u = nI j ∧ y ≤ 10 ∧ v = nI y) ∧ M1 = Mx ∧ L1 = Lx) ∨ (∃ n ro j y, 1 ≤ n ∧ n ≤ 6 ∧ x = nI n ∧ okr n z ro ∧ j ≤ 99 ∧ u = nI j ∧ y ≤ 10 ∧ v = nI y ∧ (((∃ q, q < n ∧ ¬ cn (Mx 3 3) (rn (Mx 6) (cp7 (Mx 8) (Mx 7)) (dg n ro) (q)) (dg n ro q) = 1) ∧ rr = nI (frc 0 1 b)) ∨ ((∀ q, q < n → cn (Mx 3 3) (rn (Mx 6) (cp7 (Mx 8) (Mx 7)) (dg n ro) (q)) (dg n ro q) = 1) ∧ ∃ g, gat (Mx 6) (cp7 (Mx 8) (Mx 7)) (dg n ro) g n ∧ rr = nI (frc (goo g (lkn (dg n ro) (n)) j y (1 <<< lkn (dg n ro) (n))) (10 ^ (lkn (dg n ro) (n))) b))) ∧ (∀ a, a ≠ 8 → a ≠ 43 → M1 a = Mx a) ∧ L1 = Lx)) := by
  refine k_meti (by decide) (Nat.le_of_ble_eq_true rfl) (fun K hK X Y => ?_)
  subst hK
  refine r_pl [(0, .ref (base + 0)), (1, .int (x)), (2, .int (z)), (3, .int (u)), (4, .int (v)), (5, .int (nI (b)))] ⟨rfl, rfl, rfl, rfl, rfl, rfl, trivial⟩ ?_
  refine r_iload_n (q := 1) (i := 1) (j := 1) (x := x) X rfl rfl dX6_chance_0 rfl ?_
  refine r_iconst (q := 2) (v := nI 1) X kc_1 dX6_chance_1 rfl ?_
  refine r_icmp_lt (q := 5) (tgt := 41) X (by decide) dX6_chance_2 rfl (fun c2 => ?_) (fun c2 => ?_)
  · skip
    refine r_bipush (q := 43) (v := (-2)) X kb_m2 dX6_chance_41 rfl ?_
    refine r_iret X Y ?_ dX6_chance_43
    refine Or.inl ⟨rfl, ?_, rfl, rfl⟩
    rintro ⟨n2, r2, j2, y2, h1, h2, h3, h4, h5, h6, h7, h8⟩
    subst h3
    exact absurd c2 (fun h => by have := (nI_ltI (by omega) (by omega)).mp h; omega)
  · skip
    obtain ⟨n, hn9, rfl⟩ : ∃ n, n < 2147483648 ∧ x = nI n := by
      obtain ⟨n, h1, h2⟩ := nI_of (x := x) (fun h => c2 (fa_lt0 h))
      exact ⟨n, h1, h2⟩
    replace c2 : ¬ n < 1 := fun h => c2 ((nI_ltI (by omega) (by omega)).mpr h)
    refine r_iload_n (q := 6) (i := 1) (j := 1) (x := nI (n)) X rfl rfl dX6_chance_5 rfl ?_
    refine r_bipush (q := 8) (v := nI 6) X kb_6 dX6_chance_6 rfl ?_
    refine r_icmp_gt (q := 11) (tgt := 41) X (by decide) dX6_chance_8 rfl (fun c8 => ?_) (fun c8 => ?_)
    · replace c8 : 6 < n := (nI_ltI (by omega) (by omega)).mp c8
      refine r_bipush (q := 43) (v := (-2)) X kb_m2 dX6_chance_41 rfl ?_
      refine r_iret X Y ?_ dX6_chance_43
      refine Or.inl ⟨rfl, ?_, rfl, rfl⟩
      rintro ⟨n2, r2, j2, y2, h1, h2, h3, h4, h5, h6, h7, h8⟩
      first
      | (obtain rfl := (kI_eq (by omega) (by omega)).mp h3; exact hno _ h4)
      | (have := (kI_eq (by omega) (by omega)).mp h3; omega)
    · replace c8 : ¬ 6 < n := fun h => c8 ((nI_ltI (by omega) (by omega)).mpr h)
      refine r_iload_n (q := 12) (i := 1) (j := 1) (x := nI (n)) X rfl rfl dX6_chance_11 rfl ?_
      refine r_iload_n (q := 13) (i := 2) (j := 2) (x := z) X rfl rfl dX6_chance_12 rfl ?_
      refine r_callSi (q := 16) X (c_isRow K.2.1 G base Mx Lx n z (by omega)) ks_RX6_168 (by omega) (by decide) ⟨Nat.zero_le _, Nat.zero_le _⟩ rfl (Nat.le_of_ble_eq_true rfl) dX6_chance_13 rfl (fun r M1 L1 hp => ?_)
      rcases hp with ⟨ro, e1, hok, hp2⟩ | ⟨e1, hno, hp2⟩
      · subst e1
        obtain ⟨e2, e3⟩ := hp2
        replace e2 := e2.symm
        subst e2
        replace e3 := e3.symm
        subst e3
        obtain ⟨hz, hr10, hdig⟩ := hok
        subst hz
        have h10 := kp10 (n := n) (by omega)
        refine r_if_eq (q := 19) (tgt := 41) X (by decide) dX6_chance_16 rfl (fun c => absurd c (by decide)) (fun _ => ?_)
        refine r_iload_n (q := 20) (i := 3) (j := 3) (x := u) X rfl rfl dX6_chance_19 rfl ?_
        refine r_if_lt (q := 23) (tgt := 41) X (by decide) dX6_chance_20 rfl (fun c20 => ?_) (fun c20 => ?_)
        · skip
          refine r_bipush (q := 43) (v := (-2)) X kb_m2 dX6_chance_41 rfl ?_
          refine r_iret X Y ?_ dX6_chance_43
          refine Or.inl ⟨rfl, ?_, rfl, rfl⟩
          rintro ⟨n2, r2, j2, y2, h1, h2, h3, h4, h5, h6, h7, h8⟩
          subst h6
          exact absurd ((kI_lt0 (by omega)).mp c20) (by omega)
        · skip
          obtain ⟨j, hj9, rfl⟩ : ∃ q, q < 2147483648 ∧ u = nI q := by
            obtain ⟨q, h1, h2⟩ := nI_of (x := u) (fun h => c20 h)
            exact ⟨q, h1, h2⟩
          refine r_iload_n (q := 24) (i := 3) (j := 3) (x := nI (j)) X rfl rfl dX6_chance_23 rfl ?_
          refine r_bipush (q := 26) (v := nI 99) X kb_99 dX6_chance_24 rfl ?_
          refine r_icmp_gt (q := 29) (tgt := 41) X (by decide) dX6_chance_26 rfl (fun c26 => ?_) (fun c26 => ?_)
          · replace c26 : 99 < j := (nI_ltI (by omega) (by omega)).mp c26
            refine r_bipush (q := 43) (v := (-2)) X kb_m2 dX6_chance_41 rfl ?_
            refine r_iret X Y ?_ dX6_chance_43
            refine Or.inl ⟨rfl, ?_, rfl, rfl⟩
            rintro ⟨n2, r2, j2, y2, h1, h2, h3, h4, h5, h6, h7, h8⟩
            first
            | (have := (kI_eq (by omega) (by omega)).mp h6; omega)
            | (subst h8; exact absurd ((kI_lt0 (by omega)).mp c31) (by omega))
          · replace c26 : ¬ 99 < j := fun h => c26 ((nI_ltI (by omega) (by omega)).mpr h)
            refine r_iload (q := 31) (i := 4) (x := v) X rfl dX6_chance_29 rfl ?_
            refine r_if_lt (q := 34) (tgt := 41) X (by decide) dX6_chance_31 rfl (fun c31 => ?_) (fun c31 => ?_)
            · skip
              refine r_bipush (q := 43) (v := (-2)) X kb_m2 dX6_chance_41 rfl ?_
              refine r_iret X Y ?_ dX6_chance_43
              refine Or.inl ⟨rfl, ?_, rfl, rfl⟩
              rintro ⟨n2, r2, j2, y2, h1, h2, h3, h4, h5, h6, h7, h8⟩
              first
              | (have := (kI_eq (by omega) (by omega)).mp h6; omega)
              | (subst h8; exact absurd ((kI_lt0 (by omega)).mp c31) (by omega))
            · skip
              obtain ⟨y, hy9, rfl⟩ : ∃ q, q < 2147483648 ∧ v = nI q := by
                obtain ⟨q, h1, h2⟩ := nI_of (x := v) (fun h => c31 h)
                exact ⟨q, h1, h2⟩
              refine r_iload (q := 36) (i := 4) (x := nI (y)) X rfl dX6_chance_34 rfl ?_
              refine r_bipush (q := 38) (v := nI 10) X kb_10 dX6_chance_36 rfl ?_
              refine r_icmp_le (q := 41) (tgt := 44) X (by decide) dX6_chance_38 rfl (fun c38 => ?_) (fun c38 => ?_)
              · replace c38 : y ≤ 10 := (nI_leI (by omega) (by omega)).mp c38
                refine r_aload_n (q := 45) (i := 0) (j := 0) (x := base + 0) X rfl rfl dX6_chance_44 rfl ?_
                refine r_iload_n (q := 46) (i := 1) (j := 1) (x := nI (n)) X rfl rfl dX6_chance_45 rfl ?_
                refine r_iload_n (q := 47) (i := 2) (j := 2) (x := nI (ro)) X rfl rfl dX6_chance_46 rfl ?_
                refine r_callVi (q := 50) X (c_gather K.2.1 G base Mx Lx n ro (by omega) (by omega) hdig ok hn h0n) kh_0 rfl ks_RX6_198 (by omega) (by decide) ⟨Nat.zero_le _, Nat.zero_le _⟩ rfl (Nat.le_of_ble_eq_true rfl) dX6_chance_47 rfl (fun r M1 L1 hp => ?_)
                rcases hp with ⟨e1, hbad, hfr, e3⟩ | ⟨e1, hall, hg, hfr, e3⟩
                · subst e1
                  replace e3 := e3.symm
                  subst e3
                  refine r_istore (q := 52) (i := 6) X (Nat.le_of_ble_eq_true rfl) dX6_chance_50 rfl ?_
                  refine r_iload (q := 54) (i := 6) (x := (-1)) X rfl dX6_chance_52 rfl ?_
                  refine r_if_ge (q := 57) (tgt := 65) X (by decide) dX6_chance_54 rfl (fun c54 => ?_) (fun c54 => ?_)
                  · skip
                    exact absurd c54 (by decide)
                  · skip
                    refine r_iconst (q := 58) (v := nI 0) X kc_0 dX6_chance_57 rfl ?_
                    refine r_iconst (q := 59) (v := nI 1) X kc_1 dX6_chance_58 rfl ?_
                    refine r_iload (q := 61) (i := 5) (x := nI (b)) X rfl dX6_chance_59 rfl ?_
                    refine r_callSi (q := 64) X (c_partOf K.2.1 G base M1 Lx 0 1 b (by decide) (by decide) (by decide) hb) ks_RX6_185 (by omega) (by decide) ⟨Nat.zero_le _, Nat.zero_le _⟩ rfl (Nat.le_of_ble_eq_true rfl) dX6_chance_61 rfl (fun r M1 L1 hp => ?_)
                    obtain ⟨e1, e2, e3⟩ := hp
                    subst e1
                    subst e2
                    replace e3 := e3.symm
                    subst e3
                    refine r_iret X Y ?_ dX6_chance_64
                    exact Or.inr ⟨n, ro, j, y, by omega, by omega, rfl, ⟨rfl, hr10, hdig⟩, by omega, rfl, by omega, rfl, Or.inl ⟨hbad, rfl⟩, hfr, rfl⟩
                · subst e1
                  replace e3 := e3.symm
                  subst e3
                  obtain ⟨Mg, hMg⟩ : ∃ m, m = M1 := ⟨_, rfl⟩
                  subst hMg
                  have hlk := lkn_le (dg n ro) n
                  refine r_istore (q := 52) (i := 6) X (Nat.le_of_ble_eq_true rfl) dX6_chance_50 rfl ?_
                  refine r_iload (q := 54) (i := 6) (x := nI (lkn (dg n ro) (n))) X rfl dX6_chance_52 rfl ?_
                  refine r_if_ge (q := 57) (tgt := 65) X (by decide) dX6_chance_54 rfl (fun c54 => ?_) (fun c54 => ?_)
                  · replace c54 : 0 ≤ (lkn (dg n ro) (n)) := (kI_ge0 (by omega)).mp c54
                    refine r_iconst (q := 66) (v := nI 0) X kc_0 dX6_chance_65 rfl ?_
                    refine r_istore (q := 68) (i := 7) X (Nat.le_of_ble_eq_true rfl) dX6_chance_66 rfl ?_
                    refine r_iconst (q := 69) (v := nI 0) X kc_0 dX6_chance_68 rfl ?_
                    refine r_istore (q := 71) (i := 8) X (Nat.le_of_ble_eq_true rfl) dX6_chance_69 rfl ?_
                    skip
                    have h64 : 1 <<< lkn (dg n ro) (n) ≤ 64 := k1s (by omega)
                    have hjb : ∀ s, jyo (Mg 43) s (lkn (dg n ro) (n)) ≤ 6000 := fun s => Nat.le_trans (jyo_le _ (fun q hq => by obtain ⟨p, h1, h2, h3⟩ := lkn_at _ _ _ hq; rw [← h3, hg p h1 h2]; exact gn_1000 hS _)) (by omega)
                    have lp : ∀ (fuel : Nat) (s : Nat), 65 - s < fuel → (s ≤ 1 <<< lkn (dg n ro) (n)) → RN K G base 9 0 0 SH Mg Lx 71 [(0, .ref (base + 0)), (1, .int (nI (n))), (2, .int (nI (ro))), (3, .int (nI (j))), (4, .int (nI (y))), (5, .int (nI (b))), (6, .int (nI (lkn (dg n ro) (n)))), (7, .int (nI (goo (Mg 43) (lkn (dg n ro) (n)) j y (s)))), (8, .int (nI (s)))] [] := by
                      intro fuel
                      induction fuel with
                      | zero => intro s hfu; exact absurd hfu (Nat.not_lt_zero _)
                      | succ fuel ih =>
                        intro s hfu hs9
                        refine r_iload (q := 73) (i := 8) (x := nI (s)) X rfl dX6_chance_71 rfl ?_
                        refine r_iconst (q := 74) (v := nI 1) X kc_1 dX6_chance_73 rfl ?_
                        refine r_iload (q := 76) (i := 6) (x := nI (lkn (dg n ro) (n))) X rfl dX6_chance_74 rfl ?_
                        refine r_ishlR (q := 77) (x := nI 1) (y := nI (lkn (dg n ro) (n))) (v := nI (1 <<< (lkn (dg n ro) (n)))) X (k_shl (by omega)) dX6_chance_76 rfl ?_
                        refine r_icmp_ge (q := 80) (tgt := 112) X (by decide) dX6_chance_77 rfl (fun c77 => ?_) (fun c77 => ?_)
                        · replace c77 : (1 <<< (lkn (dg n ro) (n))) ≤ s := (nI_leI (by omega) (by omega)).mp c77
                          refine r_iload (q := 114) (i := 7) (x := nI (goo (Mg 43) (lkn (dg n ro) (n)) j y (s))) X rfl dX6_chance_112 rfl ?_
                          refine r_bipush (q := 116) (v := nI 10) X kb_10 dX6_chance_114 rfl ?_
                          refine r_iload (q := 118) (i := 6) (x := nI (lkn (dg n ro) (n))) X rfl dX6_chance_116 rfl ?_
                          refine r_callSi (q := 121) X (c_power6 K.2.1 G base Mg Lx 10 (lkn (dg n ro) (n)) (by omega)) ks_RX6_207 (by omega) (by decide) ⟨Nat.zero_le _, Nat.zero_le _⟩ rfl (Nat.le_of_ble_eq_true rfl) dX6_chance_118 rfl (fun r M1 L1 hp => ?_)
                          obtain ⟨e1, e2, e3⟩ := hp
                          subst e1
                          replace e2 := e2.symm
                          subst e2
                          replace e3 := e3.symm
                          subst e3
                          refine r_iload (q := 123) (i := 5) (x := nI (b)) X rfl dX6_chance_121 rfl ?_
                          refine r_callSi (q := 126) X (c_partOf K.2.1 G base Mg Lx (goo (Mg 43) (lkn (dg n ro) (n)) j y (s)) (10 ^ (lkn (dg n ro) (n))) b (by have := goo_le (g := Mg 43) (k := lkn (dg n ro) (n)) (j := j) (x := y) (by omega) (by omega) s hs9; omega) (by have := kp10 (n := lkn (dg n ro) (n)) (by omega); omega) (kp10q _) hb) ks_RX6_185 (by omega) (by decide) ⟨Nat.zero_le _, Nat.zero_le _⟩ rfl (Nat.le_of_ble_eq_true rfl) dX6_chance_123 rfl (fun r M1 L1 hp => ?_)
                          obtain ⟨e1, e2, e3⟩ := hp
                          subst e1
                          replace e2 := e2.symm
                          subst e2
                          replace e3 := e3.symm
                          subst e3
                          refine r_iret X Y ?_ dX6_chance_126
                          have hse : s = 1 <<< lkn (dg n ro) (n) := by omega
                          subst hse
                          exact Or.inr ⟨n, ro, j, y, by omega, by omega, rfl, ⟨rfl, hr10, hdig⟩, by omega, rfl, by omega, rfl, Or.inr ⟨hall, Mg 43, hg, rfl⟩, hfr, rfl⟩
                        · replace c77 : ¬ (1 <<< (lkn (dg n ro) (n))) ≤ s := fun h => c77 ((nI_leI (by omega) (by omega)).mpr h)
                          refine r_aload_n (q := 81) (i := 0) (j := 0) (x := base + 0) X rfl rfl dX6_chance_80 rfl ?_
                          refine r_iload (q := 83) (i := 6) (x := nI (lkn (dg n ro) (n))) X rfl dX6_chance_81 rfl ?_
                          refine r_iload (q := 85) (i := 8) (x := nI (s)) X rfl dX6_chance_83 rfl ?_
                          refine r_callVi (q := 88) X (c_joyOf K.2.1 G base Mg Lx (lkn (dg n ro) (n)) s (by omega) (by omega)) kh_0 rfl ks_RX6_201 (by omega) (by decide) ⟨Nat.zero_le _, Nat.zero_le _⟩ rfl (Nat.le_of_ble_eq_true rfl) dX6_chance_85 rfl (fun r M1 L1 hp => ?_)
                          obtain ⟨e1, e2, e3⟩ := hp
                          subst e1
                          replace e2 := e2.symm
                          subst e2
                          replace e3 := e3.symm
                          subst e3
                          refine r_iload_n (q := 89) (i := 3) (j := 3) (x := nI (j)) X rfl rfl dX6_chance_88 rfl ?_
                          have hjs := hjb s
                          refine r_icmp_lt (q := 92) (tgt := 106) X (by decide) dX6_chance_89 rfl (fun c89 => ?_) (fun c89 => ?_)
                          · replace c89 : (jyo (Mg 43) s (lkn (dg n ro) (n))) < j := (nI_ltI (by omega) (by omega)).mp c89
                            refine r_iinc (q := 109) (i := 8) (x := nI (s)) (v := nI (s + 1)) X rfl (Nat.le_of_ble_eq_true rfl) (kinc 1 rfl) dX6_chance_106 rfl ?_
                            refine r_goto (tgt := 71) X (by decide) dX6_chance_109 ?_
                            refine r_pl [(0, .ref (base + 0)), (1, .int (nI (n))), (2, .int (nI (ro))), (3, .int (nI (j))), (4, .int (nI (y))), (5, .int (nI (b))), (6, .int (nI (lkn (dg n ro) (n)))), (7, .int (nI (goo (Mg 43) (lkn (dg n ro) (n)) j y (s + 1)))), (8, .int (nI (s + 1)))] ⟨rfl, rfl, rfl, rfl, rfl, rfl, rfl, by rw [goo_n (by omega)]; rfl, rfl, trivial⟩ ?_
                            exact ih (s + 1) (by omega) (by omega)
                          · replace c89 : ¬ (jyo (Mg 43) s (lkn (dg n ro) (n))) < j := fun h => c89 ((nI_ltI (by omega) (by omega)).mpr h)
                            refine r_iload (q := 94) (i := 7) (x := nI (goo (Mg 43) (lkn (dg n ro) (n)) j y (s))) X rfl dX6_chance_92 rfl ?_
                            refine r_iload (q := 96) (i := 6) (x := nI (lkn (dg n ro) (n))) X rfl dX6_chance_94 rfl ?_
                            refine r_iload (q := 98) (i := 8) (x := nI (s)) X rfl dX6_chance_96 rfl ?_
                            refine r_iload (q := 100) (i := 4) (x := nI (y)) X rfl dX6_chance_98 rfl ?_
                            refine r_callSi (q := 103) X (c_weightOf K.2.1 G base Mg Lx (lkn (dg n ro) (n)) s y (by omega) (by omega) (by omega) (mnk_k _ (by omega) s (by omega))) ks_RX6_204 (by omega) (by decide) ⟨Nat.zero_le _, Nat.zero_le _⟩ rfl (Nat.le_of_ble_eq_true rfl) dX6_chance_100 rfl (fun r M1 L1 hp => ?_)
                            obtain ⟨e1, e2, e3⟩ := hp
                            subst e1
                            replace e2 := e2.symm
                            subst e2
                            replace e3 := e3.symm
                            subst e3
                            refine r_iaddR (q := 104) (x := nI (goo (Mg 43) (lkn (dg n ro) (n)) j y (s))) (y := nI (wgt (lkn (dg n ro) (n)) s y)) (v := nI ((goo (Mg 43) (lkn (dg n ro) (n)) j y (s)) + (wgt (lkn (dg n ro) (n)) s y))) X (nI_add _ _) dX6_chance_103 rfl ?_
                            refine r_istore (q := 106) (i := 7) X (Nat.le_of_ble_eq_true rfl) dX6_chance_104 rfl ?_
                            refine r_iinc (q := 109) (i := 8) (x := nI (s)) (v := nI (s + 1)) X rfl (Nat.le_of_ble_eq_true rfl) (kinc 1 rfl) dX6_chance_106 rfl ?_
                            refine r_goto (tgt := 71) X (by decide) dX6_chance_109 ?_
                            refine r_pl [(0, .ref (base + 0)), (1, .int (nI (n))), (2, .int (nI (ro))), (3, .int (nI (j))), (4, .int (nI (y))), (5, .int (nI (b))), (6, .int (nI (lkn (dg n ro) (n)))), (7, .int (nI (goo (Mg 43) (lkn (dg n ro) (n)) j y (s + 1)))), (8, .int (nI (s + 1)))] ⟨rfl, rfl, rfl, rfl, rfl, rfl, rfl, by rw [goo_y (by omega)]; rfl, rfl, trivial⟩ ?_
                            exact ih (s + 1) (by omega) (by omega)
                    refine r_pl [(0, .ref (base + 0)), (1, .int (nI (n))), (2, .int (nI (ro))), (3, .int (nI (j))), (4, .int (nI (y))), (5, .int (nI (b))), (6, .int (nI (lkn (dg n ro) (n)))), (7, .int (nI (goo (Mg 43) (lkn (dg n ro) (n)) j y (0)))), (8, .int (nI (0)))] ⟨rfl, rfl, rfl, rfl, rfl, rfl, rfl, rfl, rfl, trivial⟩ ?_
                    exact lp 66 0 (by omega) (Nat.zero_le _)
                  · replace c54 : ¬ 0 ≤ (lkn (dg n ro) (n)) := fun h => c54 ((kI_ge0 (by omega)).mpr h)
                    exact absurd (Nat.zero_le _) c54
              · replace c38 : ¬ y ≤ 10 := fun h => c38 ((nI_leI (by omega) (by omega)).mpr h)
                refine r_bipush (q := 43) (v := (-2)) X kb_m2 dX6_chance_41 rfl ?_
                refine r_iret X Y ?_ dX6_chance_43
                refine Or.inl ⟨rfl, ?_, rfl, rfl⟩
                rintro ⟨n2, r2, j2, y2, h1, h2, h3, h4, h5, h6, h7, h8⟩
                have := (kI_eq (by omega) (by omega)).mp h8; omega
      · subst e1
        obtain ⟨e2, e3⟩ := hp2
        replace e2 := e2.symm
        subst e2
        replace e3 := e3.symm
        subst e3
        refine r_if_eq (q := 19) (tgt := 41) X (by decide) dX6_chance_16 rfl (fun _ => ?_) (fun c => absurd c (by decide))
        refine r_bipush (q := 43) (v := (-2)) X kb_m2 dX6_chance_41 rfl ?_
        refine r_iret X Y ?_ dX6_chance_43
        refine Or.inl ⟨rfl, ?_, rfl, rfl⟩
        rintro ⟨n2, r2, j2, y2, h1, h2, h3, h4, h5, h6, h7, h8⟩
        first
        | (obtain rfl := (kI_eq (by omega) (by omega)).mp h3; exact hno _ h4)
        | (have := (kI_eq (by omega) (by omega)).mp h3; omega)
