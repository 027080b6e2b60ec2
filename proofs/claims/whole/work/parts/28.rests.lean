/-! RESTS of two readers, both sides -/
def rj (V : Nat → Nat) (a b : Nat) : Nat := if a = b then V a / 2 else V a
def ctn (V : Nat → Nat) (n a b : Nat) : Nat := if ∀ h, h < n → rj V h b ≤ rj V a b then 1 else 0
def rq (V : Nat → Nat) (n a b : Nat) : Nat := if ctn V n a b = 1 ∧ ctn V n b a = 1 then 1 else 0
def rst (V : Nat → Nat) (n a b : Nat) (s : Nat × Nat) : Nat × Nat := if rq V n a b = 1 then (s.1 + 1, if s.1 = 0 then 10 * a + b else s.2) else s
def rr1 (V : Nat → Nat) (n a : Nat) : Nat → Nat × Nat → Nat × Nat
  | 0, s => s
  | b + 1, s => rst V n a b (rr1 V n a b s)
def rr2 (V : Nat → Nat) (n : Nat) : Nat → Nat × Nat
  | 0 => (0, 4294967287)
  | a + 1 => rr1 V n a n (rr2 V n a)
theorem rst_le (V : Nat → Nat) (n a b : Nat) (s : Nat × Nat) : (rst V n a b s).1 ≤ s.1 + 1 := by unfold rst; split <;> simp
theorem rr1_le (V : Nat → Nat) (n a : Nat) (s : Nat × Nat) : ∀ b, (rr1 V n a b s).1 ≤ s.1 + b
  | 0 => Nat.le_refl _
  | b + 1 => Nat.le_trans (rst_le V n a b _) (by have := rr1_le V n a s b; omega)
theorem rr2_le (V : Nat → Nat) (n : Nat) : ∀ a, (rr2 V n a).1 ≤ a * n
  | 0 => Nat.zero_le _
  | a + 1 => Nat.le_trans (rr1_le V n a _ n) (by have := rr2_le V n a; rw [Nat.succ_mul]; omega)
theorem ctn_2 (V : Nat → Nat) (n a b : Nat) : ctn V n a b < 2 := by unfold ctn; split <;> decide
theorem rst_y {V : Nat → Nat} {n a b : Nat} {s : Nat × Nat} (h1 : ctn V n a b = 1) (h2 : ctn V n b a = 1) : rst V n a b s = (s.1 + 1, if s.1 = 0 then 10 * a + b else s.2) := by
  unfold rst; rw [if_pos (by unfold rq; rw [if_pos ⟨h1, h2⟩])]
theorem rst_n {V : Nat → Nat} {n a b : Nat} {s : Nat × Nat} (h : ¬ (ctn V n a b = 1 ∧ ctn V n b a = 1)) : rst V n a b s = s := by
  unfold rst; rw [if_neg (by unfold rq; rw [if_neg h]; decide)]
def V6 (M : ks_M) (a : Nat) : Nat := sgv (M 6) (M 7) a (M 7 2)
theorem V6_lt {M : ks_M} (h : ∀ k, M 6 k < 1000) (a : Nat) : V6 M a < 1000 := by unfold V6 sgv; split <;> first | decide | exact h _
theorem rj_lt {V : Nat → Nat} {c : Nat} (h : ∀ a, V a < c) (a b : Nat) : rj V a b < c := by
  have := h a
  unfold rj; split <;> omega
set_option maxHeartbeats 8000000 in
theorem c_restJoy (l : Launch) (G : ks_G) (base : Nat) (Mx : ks_M) (Lx : ks_L) (a b : Nat) (ha : a < 6) (hb : b < 6) (hn : Mx 3 3 ≤ 6) (h2 : Mx 7 2 < 100000) (h4 : Mx 7 4 < 64) (h5 : Mx 7 5 < 64) (hS : ∀ k, Mx 6 k < 1000) : KI l G base 1 yX6_restJoy cX6_restJoy 4 .int [.ref (base + 0), .int (nI (a)), .int (nI (b))] SH Mx Lx (fun rr M1 L1 => rr = nI (rj (V6 Mx) a b) ∧ M1 = Mx ∧ L1 = Lx) := by
  refine k_meti (by decide) (Nat.le_of_ble_eq_true rfl) (fun K hK X Y => ?_)
  subst hK
  refine r_pl [(0, .ref (base + 0)), (1, .int (nI (a))), (2, .int (nI (b)))] ⟨rfl, rfl, rfl, trivial⟩ ?_
  refine r_aload_n (q := 1) (i := 0) (j := 0) (x := base + 0) X rfl rfl dX6_restJoy_0 rfl ?_
  refine r_getf (q := 4) (i := 0) (v := .ref (base + 7)) X fk_X6_26 kh_0 rfl rfl dX6_restJoy_1 rfl ?_
  refine r_aload_n (q := 5) (i := 0) (j := 0) (x := base + 0) X rfl rfl dX6_restJoy_4 rfl ?_
  refine r_getf (q := 8) (i := 0) (v := .ref (base + 3)) X fk_X6_19 kh_0 rfl rfl dX6_restJoy_5 rfl ?_
  refine r_iload_n (q := 9) (i := 1) (j := 1) (x := nI (a)) X rfl rfl dX6_restJoy_8 rfl ?_
  refine r_aload_n (q := 10) (i := 0) (j := 0) (x := base + 0) X rfl rfl dX6_restJoy_9 rfl ?_
  refine r_getf (q := 13) (i := 0) (v := .ref (base + 7)) X fk_X6_26 kh_0 rfl rfl dX6_restJoy_10 rfl ?_
  refine r_getf (q := 16) (i := 7) (v := .int (nI (Mx 7 2))) X fk_X6_103 kh_7 rfl rfl dX6_restJoy_13 rfl ?_
  refine r_callVi (q := 19) X (c_shown K.2.1 G base Mx Lx 7 kh_7 a (Mx 7 2) (by omega) (by omega) (by omega) (by omega)) kh_7 rfl ks_RX6_131 (by decide) (by decide) ⟨Nat.zero_le _, Nat.zero_le _⟩ rfl (Nat.le_of_ble_eq_true rfl) dX6_restJoy_16 rfl (fun r M1 L1 hp => ?_)
  obtain ⟨e1, e2, e3⟩ := hp
  subst e1
  replace e2 := e2.symm
  subst e2
  replace e3 := e3.symm
  subst e3
  refine r_istore_n (q := 20) (i := 3) (j := 3) X rfl (Nat.le_of_ble_eq_true rfl) dX6_restJoy_19 rfl ?_
  refine r_iload_n (q := 21) (i := 1) (j := 1) (x := nI (a)) X rfl rfl dX6_restJoy_20 rfl ?_
  refine r_iload_n (q := 22) (i := 2) (j := 2) (x := nI (b)) X rfl rfl dX6_restJoy_21 rfl ?_
  have hv := V6_lt hS a
  refine r_icmp_ne (q := 25) (tgt := 31) X (by decide) dX6_restJoy_22 rfl (fun c22 => ?_) (fun c22 => ?_)
  · replace c22 : ¬ a = b := fun h => c22 ((kI_eq (by omega) (by omega)).mpr h)
    refine r_iload_n (q := 32) (i := 3) (j := 3) (x := nI (V6 Mx a)) X rfl rfl dX6_restJoy_31 rfl ?_
    refine r_iret X Y ?_ dX6_restJoy_32
    exact ⟨by unfold rj; first | rw [if_pos (by assumption)] | rw [if_neg (by assumption)], rfl, rfl⟩
  · replace c22 : a = b := (kI_eq (by omega) (by omega)).mp c22
    refine r_iload_n (q := 26) (i := 3) (j := 3) (x := nI (V6 Mx a)) X rfl rfl dX6_restJoy_25 rfl ?_
    refine r_iconst (q := 27) (v := nI 2) X kc_2 dX6_restJoy_26 rfl ?_
    refine r_idivR (q := 28) (x := nI (V6 Mx a)) (y := nI 2) (v := nI ((V6 Mx a) / 2)) X (by decide) (pk_div (by omega) (by omega) (by omega)) dX6_restJoy_27 rfl ?_
    refine r_goto (tgt := 32) X (by decide) dX6_restJoy_28 ?_
    refine r_iret X Y ?_ dX6_restJoy_32
    exact ⟨by unfold rj; first | rw [if_pos (by assumption)] | rw [if_neg (by assumption)], rfl, rfl⟩
set_option maxHeartbeats 8000000 in
theorem c_isContent (l : Launch) (G : ks_G) (base : Nat) (Mx : ks_M) (Lx : ks_L) (a b : Nat) (ha : a < 6) (hb : b < 6) (hn : Mx 3 3 ≤ 6) (h2 : Mx 7 2 < 100000) (h4 : Mx 7 4 < 64) (h5 : Mx 7 5 < 64) (hS : ∀ k, Mx 6 k < 1000) : KI l G base 2 yX6_isContent cX6_isContent 5 .boolean [.ref (base + 0), .int (nI (a)), .int (nI (b))] SH Mx Lx (fun rr M1 L1 => rr = nI (ctn (V6 Mx) (Mx 3 3) a b) ∧ M1 = Mx ∧ L1 = Lx) := by
  refine k_meti (by decide) (Nat.le_of_ble_eq_true rfl) (fun K hK X Y => ?_)
  subst hK
  have lp : ∀ (fuel : Nat) (h : Nat), Mx 3 3 - h < fuel → (h ≤ Mx 3 3) → (∀ q, q < h → rj (V6 Mx) q b ≤ rj (V6 Mx) a b) → RN K G base 5 0 0 SH Mx Lx 10 [(0, .ref (base + 0)), (1, .int (nI (a))), (2, .int (nI (b))), (3, .int (nI (rj (V6 Mx) a b))), (4, .int (nI (h)))] [] := by
    intro fuel
    induction fuel with
    | zero => intro h hfu; exact absurd hfu (Nat.not_lt_zero _)
    | succ fuel ih =>
      intro h hfu hh hal
      refine r_iload (q := 12) (i := 4) (x := nI (h)) X rfl dX6_isContent_10 rfl ?_
      refine r_aload_n (q := 13) (i := 0) (j := 0) (x := base + 0) X rfl rfl dX6_isContent_12 rfl ?_
      refine r_getf (q := 16) (i := 0) (v := .ref (base + 3)) X fk_X6_19 kh_0 rfl rfl dX6_isContent_13 rfl ?_
      refine r_getf (q := 19) (i := 3) (v := .int (nI (Mx 3 3))) X fk_X6_96 kh_3 rfl rfl dX6_isContent_16 rfl ?_
      refine r_icmp_ge (q := 22) (tgt := 41) X (by decide) dX6_isContent_19 rfl (fun c19 => ?_) (fun c19 => ?_)
      · replace c19 : (Mx 3 3) ≤ h := (nI_leI (by omega) (by omega)).mp c19
        refine r_iconst (q := 42) (v := nI 1) X kc_1 dX6_isContent_41 rfl ?_
        refine r_zret X Y (by decide) ?_ dX6_isContent_42
        exact ⟨by unfold ctn; rw [if_pos (fun q hq => hal q (by omega))], rfl, rfl⟩
      · replace c19 : ¬ (Mx 3 3) ≤ h := fun h => c19 ((nI_leI (by omega) (by omega)).mpr h)
        refine r_aload_n (q := 23) (i := 0) (j := 0) (x := base + 0) X rfl rfl dX6_isContent_22 rfl ?_
        refine r_iload (q := 25) (i := 4) (x := nI (h)) X rfl dX6_isContent_23 rfl ?_
        refine r_iload_n (q := 26) (i := 2) (j := 2) (x := nI (b)) X rfl rfl dX6_isContent_25 rfl ?_
        refine r_callVi (q := 29) X (c_restJoy K.2.1 G base Mx Lx h b (by omega) hb hn h2 h4 h5 hS) kh_0 rfl ks_RX6_219 (by decide) (by decide) ⟨Nat.zero_le _, Nat.zero_le _⟩ rfl (Nat.le_of_ble_eq_true rfl) dX6_isContent_26 rfl (fun r M1 L1 hp => ?_)
        obtain ⟨e1, e2, e3⟩ := hp
        subst e1
        replace e2 := e2.symm
        subst e2
        replace e3 := e3.symm
        subst e3
        refine r_iload_n (q := 30) (i := 3) (j := 3) (x := nI (rj (V6 Mx) a b)) X rfl rfl dX6_isContent_29 rfl ?_
        have hv1 := rj_lt (V6_lt hS) a b
        have hv2 := rj_lt (V6_lt hS) h b
        refine r_icmp_le (q := 33) (tgt := 35) X (by decide) dX6_isContent_30 rfl (fun c30 => ?_) (fun c30 => ?_)
        · replace c30 : (rj (V6 Mx) h b) ≤ (rj (V6 Mx) a b) := (nI_leI (by omega) (by omega)).mp c30
          refine r_iinc (q := 38) (i := 4) (x := nI (h)) (v := nI (h + 1)) X rfl (Nat.le_of_ble_eq_true rfl) (kinc 1 rfl) dX6_isContent_35 rfl ?_
          refine r_goto (tgt := 10) X (by decide) dX6_isContent_38 ?_
          refine r_pl [(0, .ref (base + 0)), (1, .int (nI (a))), (2, .int (nI (b))), (3, .int (nI (rj (V6 Mx) a b))), (4, .int (nI (h + 1)))] ⟨rfl, rfl, rfl, rfl, rfl, trivial⟩ ?_
          exact ih (h + 1) (by omega) (by omega) (fun q hq => (Nat.lt_or_ge q h).elim (hal q) (fun e => by rw [show q = h by omega]; omega))
        · replace c30 : ¬ (rj (V6 Mx) h b) ≤ (rj (V6 Mx) a b) := fun h => c30 ((nI_leI (by omega) (by omega)).mpr h)
          refine r_iconst (q := 34) (v := nI 0) X kc_0 dX6_isContent_33 rfl ?_
          refine r_zret X Y (by decide) ?_ dX6_isContent_34
          exact ⟨by unfold ctn; rw [if_neg (fun h9 => absurd (h9 h (by omega)) (by omega))], rfl, rfl⟩
  refine r_pl [(0, .ref (base + 0)), (1, .int (nI (a))), (2, .int (nI (b)))] ⟨rfl, rfl, rfl, trivial⟩ ?_
  refine r_aload_n (q := 1) (i := 0) (j := 0) (x := base + 0) X rfl rfl dX6_isContent_0 rfl ?_
  refine r_iload_n (q := 2) (i := 1) (j := 1) (x := nI (a)) X rfl rfl dX6_isContent_1 rfl ?_
  refine r_iload_n (q := 3) (i := 2) (j := 2) (x := nI (b)) X rfl rfl dX6_isContent_2 rfl ?_
  refine r_callVi (q := 6) X (c_restJoy K.2.1 G base Mx Lx a b ha hb hn h2 h4 h5 hS) kh_0 rfl ks_RX6_219 (by decide) (by decide) ⟨Nat.zero_le _, Nat.zero_le _⟩ rfl (Nat.le_of_ble_eq_true rfl) dX6_isContent_3 rfl (fun r M1 L1 hp => ?_)
  obtain ⟨e1, e2, e3⟩ := hp
  subst e1
  replace e2 := e2.symm
  subst e2
  replace e3 := e3.symm
  subst e3
  refine r_istore_n (q := 7) (i := 3) (j := 3) X rfl (Nat.le_of_ble_eq_true rfl) dX6_isContent_6 rfl ?_
  refine r_iconst (q := 8) (v := nI 0) X kc_0 dX6_isContent_7 rfl ?_
  refine r_istore (q := 10) (i := 4) X (Nat.le_of_ble_eq_true rfl) dX6_isContent_8 rfl ?_
  refine r_pl [(0, .ref (base + 0)), (1, .int (nI (a))), (2, .int (nI (b))), (3, .int (nI (rj (V6 Mx) a b))), (4, .int (nI (0)))] ⟨rfl, rfl, rfl, rfl, rfl, trivial⟩ ?_
  exact lp 7 0 (by omega) (by omega) (fun q hq => absurd hq (Nat.not_lt_zero _))
set_option maxHeartbeats 8000000 in
theorem c6_rests (l : Launch) (G : ks_G) (base : Nat) (Mx : ks_M) (Lx : ks_L) (x : Int32) (hn : Mx 3 3 ≤ 6) (h2 : Mx 7 2 < 100000) (h4 : Mx 7 4 < 64) (h5 : Mx 7 5 < 64) (hS : ∀ k, Mx 6 k < 1000) : KI l G base 3 yX6_rests cX6_rests 6 .int [.ref (base + 0), .int (x)] SH Mx Lx (fun rr M1 L1 => (rr = (-2) ∧ x ≠ nI 0 ∧ x ≠ nI 1 ∧ M1 = Mx ∧ L1 = Lx) ∨ (((x = nI 0 ∧ rr = nI (rr2 (V6 Mx) (Mx 3 3) (Mx 3 3)).1) ∨ (x = nI 1 ∧ rr = nI (rr2 (V6 Mx) (Mx 3 3) (Mx 3 3)).2)) ∧ M1 = Mx ∧ L1 = Lx)) := by
  refine k_meti (by decide) (Nat.le_of_ble_eq_true rfl) (fun K hK X Y => ?_)
  subst hK
  refine r_pl [(0, .ref (base + 0)), (1, .int (x))] ⟨rfl, rfl, trivial⟩ ?_
  refine r_iload_n (q := 1) (i := 1) (j := 1) (x := x) X rfl rfl dX6_rests_0 rfl ?_
  refine r_if_eq (q := 4) (tgt := 12) X (by decide) dX6_rests_1 rfl (fun c1 => ?_) (fun c1 => ?_)
  · skip
    obtain rfl : x = nI 0 := c1.trans nI_0.symm
    refine r_iconst (q := 13) (v := nI 0) X kc_0 dX6_rests_12 rfl ?_
    refine r_istore_n (q := 14) (i := 2) (j := 2) X rfl (Nat.le_of_ble_eq_true rfl) dX6_rests_13 rfl ?_
    refine r_bipush (q := 16) (v := (-9)) X kb_m9 dX6_rests_14 rfl ?_
    refine r_istore_n (q := 17) (i := 3) (j := 3) X rfl (Nat.le_of_ble_eq_true rfl) dX6_rests_16 rfl ?_
    refine r_iconst (q := 18) (v := nI 0) X kc_0 dX6_rests_17 rfl ?_
    refine r_istore (q := 20) (i := 4) X (Nat.le_of_ble_eq_true rfl) dX6_rests_18 rfl ?_
    have lp : ∀ (fuel : Nat) (a : Nat), Mx 3 3 - a < fuel → (a ≤ Mx 3 3) → RN K G base 6 0 0 SH Mx Lx 20 [(0, .ref (base + 0)), (1, .int (nI (0))), (2, .int (nI ((rr2 (V6 Mx) (Mx 3 3) a).1))), (3, .int (nI ((rr2 (V6 Mx) (Mx 3 3) a).2))), (4, .int (nI (a)))] [] := by
      intro fuel
      induction fuel with
      | zero => intro a hfu; exact absurd hfu (Nat.not_lt_zero _)
      | succ fuel ih =>
        intro a hfu ha
        refine r_iload (q := 22) (i := 4) (x := nI (a)) X rfl dX6_rests_20 rfl ?_
        refine r_aload_n (q := 23) (i := 0) (j := 0) (x := base + 0) X rfl rfl dX6_rests_22 rfl ?_
        refine r_getf (q := 26) (i := 0) (v := .ref (base + 3)) X fk_X6_19 kh_0 rfl rfl dX6_rests_23 rfl ?_
        refine r_getf (q := 29) (i := 3) (v := .int (nI (Mx 3 3))) X fk_X6_96 kh_3 rfl rfl dX6_rests_26 rfl ?_
        refine r_icmp_ge (q := 32) (tgt := 101) X (by decide) dX6_rests_29 rfl (fun c29 => ?_) (fun c29 => ?_)
        · replace c29 : (Mx 3 3) ≤ a := (nI_leI (by omega) (by omega)).mp c29
          refine r_iload_n (q := 102) (i := 1) (j := 1) (x := nI (0)) X rfl rfl dX6_rests_101 rfl ?_
          refine r_if_ne (q := 105) (tgt := 109) X (by decide) dX6_rests_102 rfl (fun c => absurd c (by decide)) (fun _ => ?_)
          refine r_iload_n (q := 106) (i := 2) (j := 2) (x := nI ((rr2 (V6 Mx) (Mx 3 3) a).1)) X rfl rfl dX6_rests_105 rfl ?_
          refine r_goto (tgt := 110) X (by decide) dX6_rests_106 ?_
          refine r_iret X Y ?_ dX6_rests_110
          have ha9 : a = Mx 3 3 := by omega
          rw [ha9]
          exact Or.inr ⟨Or.inl ⟨rfl, rfl⟩, rfl, rfl⟩
        · replace c29 : ¬ (Mx 3 3) ≤ a := fun h => c29 ((nI_leI (by omega) (by omega)).mpr h)
          refine r_iconst (q := 33) (v := nI 0) X kc_0 dX6_rests_32 rfl ?_
          refine r_istore (q := 35) (i := 5) X (Nat.le_of_ble_eq_true rfl) dX6_rests_33 rfl ?_
          have lb : ∀ (fuel2 : Nat) (b : Nat), Mx 3 3 - b < fuel2 → (b ≤ Mx 3 3) → RN K G base 6 0 0 SH Mx Lx 35 [(0, .ref (base + 0)), (1, .int (nI (0))), (2, .int (nI ((rr1 (V6 Mx) (Mx 3 3) a b (rr2 (V6 Mx) (Mx 3 3) a)).1))), (3, .int (nI ((rr1 (V6 Mx) (Mx 3 3) a b (rr2 (V6 Mx) (Mx 3 3) a)).2))), (4, .int (nI (a))), (5, .int (nI (b)))] [] := by
            intro fuel2
            induction fuel2 with
            | zero => intro b hfu2; exact absurd hfu2 (Nat.not_lt_zero _)
            | succ fuel2 ih2 =>
              intro b hfu2 hb
              refine r_iload (q := 37) (i := 5) (x := nI (b)) X rfl dX6_rests_35 rfl ?_
              refine r_aload_n (q := 38) (i := 0) (j := 0) (x := base + 0) X rfl rfl dX6_rests_37 rfl ?_
              refine r_getf (q := 41) (i := 0) (v := .ref (base + 3)) X fk_X6_19 kh_0 rfl rfl dX6_rests_38 rfl ?_
              refine r_getf (q := 44) (i := 3) (v := .int (nI (Mx 3 3))) X fk_X6_96 kh_3 rfl rfl dX6_rests_41 rfl ?_
              refine r_icmp_ge (q := 47) (tgt := 95) X (by decide) dX6_rests_44 rfl (fun c44 => ?_) (fun c44 => ?_)
              · replace c44 : (Mx 3 3) ≤ b := (nI_leI (by omega) (by omega)).mp c44
                refine r_iinc (q := 98) (i := 4) (x := nI (a)) (v := nI (a + 1)) X rfl (Nat.le_of_ble_eq_true rfl) (kinc 1 rfl) dX6_rests_95 rfl ?_
                refine r_goto (tgt := 20) X (by decide) dX6_rests_98 ?_
                have hb9 : b = Mx 3 3 := by omega
                refine r_pl [(0, .ref (base + 0)), (1, .int (nI (0))), (2, .int (nI ((rr2 (V6 Mx) (Mx 3 3) (a + 1)).1))), (3, .int (nI ((rr2 (V6 Mx) (Mx 3 3) (a + 1)).2))), (4, .int (nI (a + 1)))] ⟨rfl, rfl, by rw [hb9]; rfl, by rw [hb9]; rfl, rfl, trivial⟩ ?_
                exact ih (a + 1) (by omega) (by omega)
              · replace c44 : ¬ (Mx 3 3) ≤ b := fun h => c44 ((nI_leI (by omega) (by omega)).mpr h)
                refine r_aload_n (q := 48) (i := 0) (j := 0) (x := base + 0) X rfl rfl dX6_rests_47 rfl ?_
                refine r_iload (q := 50) (i := 4) (x := nI (a)) X rfl dX6_rests_48 rfl ?_
                refine r_iload (q := 52) (i := 5) (x := nI (b)) X rfl dX6_rests_50 rfl ?_
                refine r_callVi (q := 55) X (c_isContent K.2.1 G base Mx Lx a b (by omega) (by omega) hn h2 h4 h5 hS) kh_0 rfl ks_RX6_195 (by decide) (by decide) ⟨Nat.zero_le _, Nat.zero_le _⟩ rfl (Nat.le_of_ble_eq_true rfl) dX6_rests_52 rfl (fun r M1 L1 hp => ?_)
                obtain ⟨e1, e2, e3⟩ := hp
                subst e1
                replace e2 := e2.symm
                subst e2
                replace e3 := e3.symm
                subst e3
                have hc1 := ctn_2 (V6 Mx) (Mx 3 3) a b
                refine r_if_eq (q := 58) (tgt := 89) X (by decide) dX6_rests_55 rfl (fun c55 => ?_) (fun c55 => ?_)
                · replace c55 : (ctn (V6 Mx) (Mx 3 3) a b) = 0 := (kI_eq0 (by omega)).mp c55
                  refine r_iinc (q := 92) (i := 5) (x := nI (b)) (v := nI (b + 1)) X rfl (Nat.le_of_ble_eq_true rfl) (kinc 1 rfl) dX6_rests_89 rfl ?_
                  refine r_goto (tgt := 35) X (by decide) dX6_rests_92 ?_
                  have es : (rr1 (V6 Mx) (Mx 3 3) a (b + 1) (rr2 (V6 Mx) (Mx 3 3) a)) = (rr1 (V6 Mx) (Mx 3 3) a b (rr2 (V6 Mx) (Mx 3 3) a)) := rst_n (by omega)
                  refine r_pl [(0, .ref (base + 0)), (1, .int (nI (0))), (2, .int (nI ((rr1 (V6 Mx) (Mx 3 3) a (b + 1) (rr2 (V6 Mx) (Mx 3 3) a)).1))), (3, .int (nI ((rr1 (V6 Mx) (Mx 3 3) a (b + 1) (rr2 (V6 Mx) (Mx 3 3) a)).2))), (4, .int (nI (a))), (5, .int (nI (b + 1)))] ⟨rfl, rfl, by rw [es]; rfl, by rw [es]; rfl, rfl, rfl, trivial⟩ ?_
                  exact ih2 (b + 1) (by omega) (by omega)
                · replace c55 : ¬ (ctn (V6 Mx) (Mx 3 3) a b) = 0 := fun h => (c55 ((kI_eq0 (by omega)).mpr h))
                  refine r_aload_n (q := 59) (i := 0) (j := 0) (x := base + 0) X rfl rfl dX6_rests_58 rfl ?_
                  refine r_iload (q := 61) (i := 5) (x := nI (b)) X rfl dX6_rests_59 rfl ?_
                  refine r_iload (q := 63) (i := 4) (x := nI (a)) X rfl dX6_rests_61 rfl ?_
                  refine r_callVi (q := 66) X (c_isContent K.2.1 G base Mx Lx b a (by omega) (by omega) hn h2 h4 h5 hS) kh_0 rfl ks_RX6_195 (by decide) (by decide) ⟨Nat.zero_le _, Nat.zero_le _⟩ rfl (Nat.le_of_ble_eq_true rfl) dX6_rests_63 rfl (fun r M1 L1 hp => ?_)
                  obtain ⟨e1, e2, e3⟩ := hp
                  subst e1
                  replace e2 := e2.symm
                  subst e2
                  replace e3 := e3.symm
                  subst e3
                  have hc2 := ctn_2 (V6 Mx) (Mx 3 3) b a
                  refine r_if_eq (q := 69) (tgt := 89) X (by decide) dX6_rests_66 rfl (fun c66 => ?_) (fun c66 => ?_)
                  · replace c66 : (ctn (V6 Mx) (Mx 3 3) b a) = 0 := (kI_eq0 (by omega)).mp c66
                    refine r_iinc (q := 92) (i := 5) (x := nI (b)) (v := nI (b + 1)) X rfl (Nat.le_of_ble_eq_true rfl) (kinc 1 rfl) dX6_rests_89 rfl ?_
                    refine r_goto (tgt := 35) X (by decide) dX6_rests_92 ?_
                    have es : (rr1 (V6 Mx) (Mx 3 3) a (b + 1) (rr2 (V6 Mx) (Mx 3 3) a)) = (rr1 (V6 Mx) (Mx 3 3) a b (rr2 (V6 Mx) (Mx 3 3) a)) := rst_n (by omega)
                    refine r_pl [(0, .ref (base + 0)), (1, .int (nI (0))), (2, .int (nI ((rr1 (V6 Mx) (Mx 3 3) a (b + 1) (rr2 (V6 Mx) (Mx 3 3) a)).1))), (3, .int (nI ((rr1 (V6 Mx) (Mx 3 3) a (b + 1) (rr2 (V6 Mx) (Mx 3 3) a)).2))), (4, .int (nI (a))), (5, .int (nI (b + 1)))] ⟨rfl, rfl, by rw [es]; rfl, by rw [es]; rfl, rfl, rfl, trivial⟩ ?_
                    exact ih2 (b + 1) (by omega) (by omega)
                  · replace c66 : ¬ (ctn (V6 Mx) (Mx 3 3) b a) = 0 := fun h => (c66 ((kI_eq0 (by omega)).mpr h))
                    refine r_iload_n (q := 70) (i := 2) (j := 2) (x := nI ((rr1 (V6 Mx) (Mx 3 3) a b (rr2 (V6 Mx) (Mx 3 3) a)).1)) X rfl rfl dX6_rests_69 rfl ?_
                    have hs1 := rr1_le (V6 Mx) (Mx 3 3) a (rr2 (V6 Mx) (Mx 3 3) a) b
                    have hs2 := rr2_le (V6 Mx) (Mx 3 3) a
                    have hs3 : a * Mx 3 3 ≤ 6 * 6 := Nat.mul_le_mul (by omega) hn
                    refine r_if_ne (q := 73) (tgt := 84) X (by decide) dX6_rests_70 rfl (fun c70 => ?_) (fun c70 => ?_)
                    · replace c70 : ¬ ((rr1 (V6 Mx) (Mx 3 3) a b (rr2 (V6 Mx) (Mx 3 3) a)).1) = 0 := fun h => c70 ((kI_eq0 (by omega)).mpr h)
                      refine r_iload_n (q := 85) (i := 3) (j := 3) (x := nI ((rr1 (V6 Mx) (Mx 3 3) a b (rr2 (V6 Mx) (Mx 3 3) a)).2)) X rfl rfl dX6_rests_84 rfl ?_
                      refine r_istore_n (q := 86) (i := 3) (j := 3) X rfl (Nat.le_of_ble_eq_true rfl) dX6_rests_85 rfl ?_
                      refine r_iinc (q := 89) (i := 2) (x := nI ((rr1 (V6 Mx) (Mx 3 3) a b (rr2 (V6 Mx) (Mx 3 3) a)).1)) (v := nI ((rr1 (V6 Mx) (Mx 3 3) a b (rr2 (V6 Mx) (Mx 3 3) a)).1 + 1)) X rfl (Nat.le_of_ble_eq_true rfl) (kinc 1 rfl) dX6_rests_86 rfl ?_
                      refine r_iinc (q := 92) (i := 5) (x := nI (b)) (v := nI (b + 1)) X rfl (Nat.le_of_ble_eq_true rfl) (kinc 1 rfl) dX6_rests_89 rfl ?_
                      refine r_goto (tgt := 35) X (by decide) dX6_rests_92 ?_
                      have es : (rr1 (V6 Mx) (Mx 3 3) a (b + 1) (rr2 (V6 Mx) (Mx 3 3) a)) = ((rr1 (V6 Mx) (Mx 3 3) a b (rr2 (V6 Mx) (Mx 3 3) a)).1 + 1, if (rr1 (V6 Mx) (Mx 3 3) a b (rr2 (V6 Mx) (Mx 3 3) a)).1 = 0 then 10 * a + b else (rr1 (V6 Mx) (Mx 3 3) a b (rr2 (V6 Mx) (Mx 3 3) a)).2) := rst_y (by omega) (by omega)
                      rw [if_neg (by assumption)] at es
                      refine r_pl [(0, .ref (base + 0)), (1, .int (nI (0))), (2, .int (nI ((rr1 (V6 Mx) (Mx 3 3) a (b + 1) (rr2 (V6 Mx) (Mx 3 3) a)).1))), (3, .int (nI ((rr1 (V6 Mx) (Mx 3 3) a (b + 1) (rr2 (V6 Mx) (Mx 3 3) a)).2))), (4, .int (nI (a))), (5, .int (nI (b + 1)))] ⟨rfl, rfl, by rw [es]; rfl, by rw [es]; rfl, rfl, rfl, trivial⟩ ?_
                      exact ih2 (b + 1) (by omega) (by omega)
                    · replace c70 : ((rr1 (V6 Mx) (Mx 3 3) a b (rr2 (V6 Mx) (Mx 3 3) a)).1) = 0 := (kI_eq0 (by omega)).mp c70
                      refine r_bipush (q := 75) (v := nI 10) X kb_10 dX6_rests_73 rfl ?_
                      refine r_iload (q := 77) (i := 4) (x := nI (a)) X rfl dX6_rests_75 rfl ?_
                      refine r_imulR (q := 78) (x := nI 10) (y := nI (a)) (v := nI (10 * a)) X (pk_mul _ _) dX6_rests_77 rfl ?_
                      refine r_iload (q := 80) (i := 5) (x := nI (b)) X rfl dX6_rests_78 rfl ?_
                      refine r_iaddR (q := 81) (x := nI (10 * a)) (y := nI (b)) (v := nI ((10 * a) + b)) X (nI_add _ _) dX6_rests_80 rfl ?_
                      refine r_goto (tgt := 85) X (by decide) dX6_rests_81 ?_
                      refine r_istore_n (q := 86) (i := 3) (j := 3) X rfl (Nat.le_of_ble_eq_true rfl) dX6_rests_85 rfl ?_
                      refine r_iinc (q := 89) (i := 2) (x := nI ((rr1 (V6 Mx) (Mx 3 3) a b (rr2 (V6 Mx) (Mx 3 3) a)).1)) (v := nI ((rr1 (V6 Mx) (Mx 3 3) a b (rr2 (V6 Mx) (Mx 3 3) a)).1 + 1)) X rfl (Nat.le_of_ble_eq_true rfl) (kinc 1 rfl) dX6_rests_86 rfl ?_
                      refine r_iinc (q := 92) (i := 5) (x := nI (b)) (v := nI (b + 1)) X rfl (Nat.le_of_ble_eq_true rfl) (kinc 1 rfl) dX6_rests_89 rfl ?_
                      refine r_goto (tgt := 35) X (by decide) dX6_rests_92 ?_
                      have es : (rr1 (V6 Mx) (Mx 3 3) a (b + 1) (rr2 (V6 Mx) (Mx 3 3) a)) = ((rr1 (V6 Mx) (Mx 3 3) a b (rr2 (V6 Mx) (Mx 3 3) a)).1 + 1, if (rr1 (V6 Mx) (Mx 3 3) a b (rr2 (V6 Mx) (Mx 3 3) a)).1 = 0 then 10 * a + b else (rr1 (V6 Mx) (Mx 3 3) a b (rr2 (V6 Mx) (Mx 3 3) a)).2) := rst_y (by omega) (by omega)
                      rw [if_pos (by assumption)] at es
                      refine r_pl [(0, .ref (base + 0)), (1, .int (nI (0))), (2, .int (nI ((rr1 (V6 Mx) (Mx 3 3) a (b + 1) (rr2 (V6 Mx) (Mx 3 3) a)).1))), (3, .int (nI ((rr1 (V6 Mx) (Mx 3 3) a (b + 1) (rr2 (V6 Mx) (Mx 3 3) a)).2))), (4, .int (nI (a))), (5, .int (nI (b + 1)))] ⟨rfl, rfl, by rw [es]; rfl, by rw [es]; rfl, rfl, rfl, trivial⟩ ?_
                      exact ih2 (b + 1) (by omega) (by omega)
          refine r_pl [(0, .ref (base + 0)), (1, .int (nI (0))), (2, .int (nI ((rr1 (V6 Mx) (Mx 3 3) a 0 (rr2 (V6 Mx) (Mx 3 3) a)).1))), (3, .int (nI ((rr1 (V6 Mx) (Mx 3 3) a 0 (rr2 (V6 Mx) (Mx 3 3) a)).2))), (4, .int (nI (a))), (5, .int (nI (0)))] ⟨rfl, rfl, rfl, rfl, rfl, rfl, trivial⟩ ?_
          exact lb 7 0 (by omega) (by omega)
    refine r_pl [(0, .ref (base + 0)), (1, .int (nI (0))), (2, .int (nI ((rr2 (V6 Mx) (Mx 3 3) 0).1))), (3, .int (nI ((rr2 (V6 Mx) (Mx 3 3) 0).2))), (4, .int (nI (0)))] ⟨rfl, rfl, rfl, congrArg (fun z => some (Value.int z)) kM9, rfl, trivial⟩ ?_
    exact lp 7 0 (by omega) (by omega)
  · skip
    refine r_iload_n (q := 5) (i := 1) (j := 1) (x := x) X rfl rfl dX6_rests_4 rfl ?_
    refine r_iconst (q := 6) (v := nI 1) X kc_1 dX6_rests_5 rfl ?_
    refine r_icmp_eq (q := 9) (tgt := 12) X (by decide) dX6_rests_6 rfl (fun c6 => ?_) (fun c6 => ?_)
    · skip
      subst c6
      refine r_iconst (q := 13) (v := nI 0) X kc_0 dX6_rests_12 rfl ?_
      refine r_istore_n (q := 14) (i := 2) (j := 2) X rfl (Nat.le_of_ble_eq_true rfl) dX6_rests_13 rfl ?_
      refine r_bipush (q := 16) (v := (-9)) X kb_m9 dX6_rests_14 rfl ?_
      refine r_istore_n (q := 17) (i := 3) (j := 3) X rfl (Nat.le_of_ble_eq_true rfl) dX6_rests_16 rfl ?_
      refine r_iconst (q := 18) (v := nI 0) X kc_0 dX6_rests_17 rfl ?_
      refine r_istore (q := 20) (i := 4) X (Nat.le_of_ble_eq_true rfl) dX6_rests_18 rfl ?_
      have lp : ∀ (fuel : Nat) (a : Nat), Mx 3 3 - a < fuel → (a ≤ Mx 3 3) → RN K G base 6 0 0 SH Mx Lx 20 [(0, .ref (base + 0)), (1, .int (nI (1))), (2, .int (nI ((rr2 (V6 Mx) (Mx 3 3) a).1))), (3, .int (nI ((rr2 (V6 Mx) (Mx 3 3) a).2))), (4, .int (nI (a)))] [] := by
        intro fuel
        induction fuel with
        | zero => intro a hfu; exact absurd hfu (Nat.not_lt_zero _)
        | succ fuel ih =>
          intro a hfu ha
          refine r_iload (q := 22) (i := 4) (x := nI (a)) X rfl dX6_rests_20 rfl ?_
          refine r_aload_n (q := 23) (i := 0) (j := 0) (x := base + 0) X rfl rfl dX6_rests_22 rfl ?_
          refine r_getf (q := 26) (i := 0) (v := .ref (base + 3)) X fk_X6_19 kh_0 rfl rfl dX6_rests_23 rfl ?_
          refine r_getf (q := 29) (i := 3) (v := .int (nI (Mx 3 3))) X fk_X6_96 kh_3 rfl rfl dX6_rests_26 rfl ?_
          refine r_icmp_ge (q := 32) (tgt := 101) X (by decide) dX6_rests_29 rfl (fun c29 => ?_) (fun c29 => ?_)
          · replace c29 : (Mx 3 3) ≤ a := (nI_leI (by omega) (by omega)).mp c29
            refine r_iload_n (q := 102) (i := 1) (j := 1) (x := nI (1)) X rfl rfl dX6_rests_101 rfl ?_
            refine r_if_ne (q := 105) (tgt := 109) X (by decide) dX6_rests_102 rfl (fun _ => ?_) (fun c => absurd c (by decide))
            refine r_iload_n (q := 110) (i := 3) (j := 3) (x := nI ((rr2 (V6 Mx) (Mx 3 3) a).2)) X rfl rfl dX6_rests_109 rfl ?_
            refine r_iret X Y ?_ dX6_rests_110
            have ha9 : a = Mx 3 3 := by omega
            rw [ha9]
            exact Or.inr ⟨Or.inr ⟨rfl, rfl⟩, rfl, rfl⟩
          · replace c29 : ¬ (Mx 3 3) ≤ a := fun h => c29 ((nI_leI (by omega) (by omega)).mpr h)
            refine r_iconst (q := 33) (v := nI 0) X kc_0 dX6_rests_32 rfl ?_
            refine r_istore (q := 35) (i := 5) X (Nat.le_of_ble_eq_true rfl) dX6_rests_33 rfl ?_
            have lb : ∀ (fuel2 : Nat) (b : Nat), Mx 3 3 - b < fuel2 → (b ≤ Mx 3 3) → RN K G base 6 0 0 SH Mx Lx 35 [(0, .ref (base + 0)), (1, .int (nI (1))), (2, .int (nI ((rr1 (V6 Mx) (Mx 3 3) a b (rr2 (V6 Mx) (Mx 3 3) a)).1))), (3, .int (nI ((rr1 (V6 Mx) (Mx 3 3) a b (rr2 (V6 Mx) (Mx 3 3) a)).2))), (4, .int (nI (a))), (5, .int (nI (b)))] [] := by
              intro fuel2
              induction fuel2 with
              | zero => intro b hfu2; exact absurd hfu2 (Nat.not_lt_zero _)
              | succ fuel2 ih2 =>
                intro b hfu2 hb
                refine r_iload (q := 37) (i := 5) (x := nI (b)) X rfl dX6_rests_35 rfl ?_
                refine r_aload_n (q := 38) (i := 0) (j := 0) (x := base + 0) X rfl rfl dX6_rests_37 rfl ?_
                refine r_getf (q := 41) (i := 0) (v := .ref (base + 3)) X fk_X6_19 kh_0 rfl rfl dX6_rests_38 rfl ?_
                refine r_getf (q := 44) (i := 3) (v := .int (nI (Mx 3 3))) X fk_X6_96 kh_3 rfl rfl dX6_rests_41 rfl ?_
                refine r_icmp_ge (q := 47) (tgt := 95) X (by decide) dX6_rests_44 rfl (fun c44 => ?_) (fun c44 => ?_)
                · replace c44 : (Mx 3 3) ≤ b := (nI_leI (by omega) (by omega)).mp c44
                  refine r_iinc (q := 98) (i := 4) (x := nI (a)) (v := nI (a + 1)) X rfl (Nat.le_of_ble_eq_true rfl) (kinc 1 rfl) dX6_rests_95 rfl ?_
                  refine r_goto (tgt := 20) X (by decide) dX6_rests_98 ?_
                  have hb9 : b = Mx 3 3 := by omega
                  refine r_pl [(0, .ref (base + 0)), (1, .int (nI (1))), (2, .int (nI ((rr2 (V6 Mx) (Mx 3 3) (a + 1)).1))), (3, .int (nI ((rr2 (V6 Mx) (Mx 3 3) (a + 1)).2))), (4, .int (nI (a + 1)))] ⟨rfl, rfl, by rw [hb9]; rfl, by rw [hb9]; rfl, rfl, trivial⟩ ?_
                  exact ih (a + 1) (by omega) (by omega)
                · replace c44 : ¬ (Mx 3 3) ≤ b := fun h => c44 ((nI_leI (by omega) (by omega)).mpr h)
                  refine r_aload_n (q := 48) (i := 0) (j := 0) (x := base + 0) X rfl rfl dX6_rests_47 rfl ?_
                  refine r_iload (q := 50) (i := 4) (x := nI (a)) X rfl dX6_rests_48 rfl ?_
                  refine r_iload (q := 52) (i := 5) (x := nI (b)) X rfl dX6_rests_50 rfl ?_
                  refine r_callVi (q := 55) X (c_isContent K.2.1 G base Mx Lx a b (by omega) (by omega) hn h2 h4 h5 hS) kh_0 rfl ks_RX6_195 (by decide) (by decide) ⟨Nat.zero_le _, Nat.zero_le _⟩ rfl (Nat.le_of_ble_eq_true rfl) dX6_rests_52 rfl (fun r M1 L1 hp => ?_)
                  obtain ⟨e1, e2, e3⟩ := hp
                  subst e1
                  replace e2 := e2.symm
                  subst e2
                  replace e3 := e3.symm
                  subst e3
                  have hc1 := ctn_2 (V6 Mx) (Mx 3 3) a b
                  refine r_if_eq (q := 58) (tgt := 89) X (by decide) dX6_rests_55 rfl (fun c55 => ?_) (fun c55 => ?_)
                  · replace c55 : (ctn (V6 Mx) (Mx 3 3) a b) = 0 := (kI_eq0 (by omega)).mp c55
                    refine r_iinc (q := 92) (i := 5) (x := nI (b)) (v := nI (b + 1)) X rfl (Nat.le_of_ble_eq_true rfl) (kinc 1 rfl) dX6_rests_89 rfl ?_
                    refine r_goto (tgt := 35) X (by decide) dX6_rests_92 ?_
                    have es : (rr1 (V6 Mx) (Mx 3 3) a (b + 1) (rr2 (V6 Mx) (Mx 3 3) a)) = (rr1 (V6 Mx) (Mx 3 3) a b (rr2 (V6 Mx) (Mx 3 3) a)) := rst_n (by omega)
                    refine r_pl [(0, .ref (base + 0)), (1, .int (nI (1))), (2, .int (nI ((rr1 (V6 Mx) (Mx 3 3) a (b + 1) (rr2 (V6 Mx) (Mx 3 3) a)).1))), (3, .int (nI ((rr1 (V6 Mx) (Mx 3 3) a (b + 1) (rr2 (V6 Mx) (Mx 3 3) a)).2))), (4, .int (nI (a))), (5, .int (nI (b + 1)))] ⟨rfl, rfl, by rw [es]; rfl, by rw [es]; rfl, rfl, rfl, trivial⟩ ?_
                    exact ih2 (b + 1) (by omega) (by omega)
                  · replace c55 : ¬ (ctn (V6 Mx) (Mx 3 3) a b) = 0 := fun h => (c55 ((kI_eq0 (by omega)).mpr h))
                    refine r_aload_n (q := 59) (i := 0) (j := 0) (x := base + 0) X rfl rfl dX6_rests_58 rfl ?_
                    refine r_iload (q := 61) (i := 5) (x := nI (b)) X rfl dX6_rests_59 rfl ?_
                    refine r_iload (q := 63) (i := 4) (x := nI (a)) X rfl dX6_rests_61 rfl ?_
                    refine r_callVi (q := 66) X (c_isContent K.2.1 G base Mx Lx b a (by omega) (by omega) hn h2 h4 h5 hS) kh_0 rfl ks_RX6_195 (by decide) (by decide) ⟨Nat.zero_le _, Nat.zero_le _⟩ rfl (Nat.le_of_ble_eq_true rfl) dX6_rests_63 rfl (fun r M1 L1 hp => ?_)
                    obtain ⟨e1, e2, e3⟩ := hp
                    subst e1
                    replace e2 := e2.symm
                    subst e2
                    replace e3 := e3.symm
                    subst e3
                    have hc2 := ctn_2 (V6 Mx) (Mx 3 3) b a
                    refine r_if_eq (q := 69) (tgt := 89) X (by decide) dX6_rests_66 rfl (fun c66 => ?_) (fun c66 => ?_)
                    · replace c66 : (ctn (V6 Mx) (Mx 3 3) b a) = 0 := (kI_eq0 (by omega)).mp c66
                      refine r_iinc (q := 92) (i := 5) (x := nI (b)) (v := nI (b + 1)) X rfl (Nat.le_of_ble_eq_true rfl) (kinc 1 rfl) dX6_rests_89 rfl ?_
                      refine r_goto (tgt := 35) X (by decide) dX6_rests_92 ?_
                      have es : (rr1 (V6 Mx) (Mx 3 3) a (b + 1) (rr2 (V6 Mx) (Mx 3 3) a)) = (rr1 (V6 Mx) (Mx 3 3) a b (rr2 (V6 Mx) (Mx 3 3) a)) := rst_n (by omega)
                      refine r_pl [(0, .ref (base + 0)), (1, .int (nI (1))), (2, .int (nI ((rr1 (V6 Mx) (Mx 3 3) a (b + 1) (rr2 (V6 Mx) (Mx 3 3) a)).1))), (3, .int (nI ((rr1 (V6 Mx) (Mx 3 3) a (b + 1) (rr2 (V6 Mx) (Mx 3 3) a)).2))), (4, .int (nI (a))), (5, .int (nI (b + 1)))] ⟨rfl, rfl, by rw [es]; rfl, by rw [es]; rfl, rfl, rfl, trivial⟩ ?_
                      exact ih2 (b + 1) (by omega) (by omega)
                    · replace c66 : ¬ (ctn (V6 Mx) (Mx 3 3) b a) = 0 := fun h => (c66 ((kI_eq0 (by omega)).mpr h))
                      refine r_iload_n (q := 70) (i := 2) (j := 2) (x := nI ((rr1 (V6 Mx) (Mx 3 3) a b (rr2 (V6 Mx) (Mx 3 3) a)).1)) X rfl rfl dX6_rests_69 rfl ?_
                      have hs1 := rr1_le (V6 Mx) (Mx 3 3) a (rr2 (V6 Mx) (Mx 3 3) a) b
                      have hs2 := rr2_le (V6 Mx) (Mx 3 3) a
                      have hs3 : a * Mx 3 3 ≤ 6 * 6 := Nat.mul_le_mul (by omega) hn
                      refine r_if_ne (q := 73) (tgt := 84) X (by decide) dX6_rests_70 rfl (fun c70 => ?_) (fun c70 => ?_)
                      · replace c70 : ¬ ((rr1 (V6 Mx) (Mx 3 3) a b (rr2 (V6 Mx) (Mx 3 3) a)).1) = 0 := fun h => c70 ((kI_eq0 (by omega)).mpr h)
                        refine r_iload_n (q := 85) (i := 3) (j := 3) (x := nI ((rr1 (V6 Mx) (Mx 3 3) a b (rr2 (V6 Mx) (Mx 3 3) a)).2)) X rfl rfl dX6_rests_84 rfl ?_
                        refine r_istore_n (q := 86) (i := 3) (j := 3) X rfl (Nat.le_of_ble_eq_true rfl) dX6_rests_85 rfl ?_
                        refine r_iinc (q := 89) (i := 2) (x := nI ((rr1 (V6 Mx) (Mx 3 3) a b (rr2 (V6 Mx) (Mx 3 3) a)).1)) (v := nI ((rr1 (V6 Mx) (Mx 3 3) a b (rr2 (V6 Mx) (Mx 3 3) a)).1 + 1)) X rfl (Nat.le_of_ble_eq_true rfl) (kinc 1 rfl) dX6_rests_86 rfl ?_
                        refine r_iinc (q := 92) (i := 5) (x := nI (b)) (v := nI (b + 1)) X rfl (Nat.le_of_ble_eq_true rfl) (kinc 1 rfl) dX6_rests_89 rfl ?_
                        refine r_goto (tgt := 35) X (by decide) dX6_rests_92 ?_
                        have es : (rr1 (V6 Mx) (Mx 3 3) a (b + 1) (rr2 (V6 Mx) (Mx 3 3) a)) = ((rr1 (V6 Mx) (Mx 3 3) a b (rr2 (V6 Mx) (Mx 3 3) a)).1 + 1, if (rr1 (V6 Mx) (Mx 3 3) a b (rr2 (V6 Mx) (Mx 3 3) a)).1 = 0 then 10 * a + b else (rr1 (V6 Mx) (Mx 3 3) a b (rr2 (V6 Mx) (Mx 3 3) a)).2) := rst_y (by omega) (by omega)
                        rw [if_neg (by assumption)] at es
                        refine r_pl [(0, .ref (base + 0)), (1, .int (nI (1))), (2, .int (nI ((rr1 (V6 Mx) (Mx 3 3) a (b + 1) (rr2 (V6 Mx) (Mx 3 3) a)).1))), (3, .int (nI ((rr1 (V6 Mx) (Mx 3 3) a (b + 1) (rr2 (V6 Mx) (Mx 3 3) a)).2))), (4, .int (nI (a))), (5, .int (nI (b + 1)))] ⟨rfl, rfl, by rw [es]; rfl, by rw [es]; rfl, rfl, rfl, trivial⟩ ?_
                        exact ih2 (b + 1) (by omega) (by omega)
                      · replace c70 : ((rr1 (V6 Mx) (Mx 3 3) a b (rr2 (V6 Mx) (Mx 3 3) a)).1) = 0 := (kI_eq0 (by omega)).mp c70
                        refine r_bipush (q := 75) (v := nI 10) X kb_10 dX6_rests_73 rfl ?_
                        refine r_iload (q := 77) (i := 4) (x := nI (a)) X rfl dX6_rests_75 rfl ?_
                        refine r_imulR (q := 78) (x := nI 10) (y := nI (a)) (v := nI (10 * a)) X (pk_mul _ _) dX6_rests_77 rfl ?_
                        refine r_iload (q := 80) (i := 5) (x := nI (b)) X rfl dX6_rests_78 rfl ?_
                        refine r_iaddR (q := 81) (x := nI (10 * a)) (y := nI (b)) (v := nI ((10 * a) + b)) X (nI_add _ _) dX6_rests_80 rfl ?_
                        refine r_goto (tgt := 85) X (by decide) dX6_rests_81 ?_
                        refine r_istore_n (q := 86) (i := 3) (j := 3) X rfl (Nat.le_of_ble_eq_true rfl) dX6_rests_85 rfl ?_
                        refine r_iinc (q := 89) (i := 2) (x := nI ((rr1 (V6 Mx) (Mx 3 3) a b (rr2 (V6 Mx) (Mx 3 3) a)).1)) (v := nI ((rr1 (V6 Mx) (Mx 3 3) a b (rr2 (V6 Mx) (Mx 3 3) a)).1 + 1)) X rfl (Nat.le_of_ble_eq_true rfl) (kinc 1 rfl) dX6_rests_86 rfl ?_
                        refine r_iinc (q := 92) (i := 5) (x := nI (b)) (v := nI (b + 1)) X rfl (Nat.le_of_ble_eq_true rfl) (kinc 1 rfl) dX6_rests_89 rfl ?_
                        refine r_goto (tgt := 35) X (by decide) dX6_rests_92 ?_
                        have es : (rr1 (V6 Mx) (Mx 3 3) a (b + 1) (rr2 (V6 Mx) (Mx 3 3) a)) = ((rr1 (V6 Mx) (Mx 3 3) a b (rr2 (V6 Mx) (Mx 3 3) a)).1 + 1, if (rr1 (V6 Mx) (Mx 3 3) a b (rr2 (V6 Mx) (Mx 3 3) a)).1 = 0 then 10 * a + b else (rr1 (V6 Mx) (Mx 3 3) a b (rr2 (V6 Mx) (Mx 3 3) a)).2) := rst_y (by omega) (by omega)
                        rw [if_pos (by assumption)] at es
                        refine r_pl [(0, .ref (base + 0)), (1, .int (nI (1))), (2, .int (nI ((rr1 (V6 Mx) (Mx 3 3) a (b + 1) (rr2 (V6 Mx) (Mx 3 3) a)).1))), (3, .int (nI ((rr1 (V6 Mx) (Mx 3 3) a (b + 1) (rr2 (V6 Mx) (Mx 3 3) a)).2))), (4, .int (nI (a))), (5, .int (nI (b + 1)))] ⟨rfl, rfl, by rw [es]; rfl, by rw [es]; rfl, rfl, rfl, trivial⟩ ?_
                        exact ih2 (b + 1) (by omega) (by omega)
            refine r_pl [(0, .ref (base + 0)), (1, .int (nI (1))), (2, .int (nI ((rr1 (V6 Mx) (Mx 3 3) a 0 (rr2 (V6 Mx) (Mx 3 3) a)).1))), (3, .int (nI ((rr1 (V6 Mx) (Mx 3 3) a 0 (rr2 (V6 Mx) (Mx 3 3) a)).2))), (4, .int (nI (a))), (5, .int (nI (0)))] ⟨rfl, rfl, rfl, rfl, rfl, rfl, trivial⟩ ?_
            exact lb 7 0 (by omega) (by omega)
      refine r_pl [(0, .ref (base + 0)), (1, .int (nI (1))), (2, .int (nI ((rr2 (V6 Mx) (Mx 3 3) 0).1))), (3, .int (nI ((rr2 (V6 Mx) (Mx 3 3) 0).2))), (4, .int (nI (0)))] ⟨rfl, rfl, rfl, congrArg (fun z => some (Value.int z)) kM9, rfl, trivial⟩ ?_
      exact lp 7 0 (by omega) (by omega)
    · skip
      refine r_bipush (q := 11) (v := (-2)) X kb_m2 dX6_rests_9 rfl ?_
      refine r_iret X Y ?_ dX6_rests_11
      exact Or.inl ⟨rfl, fun h => c1 (h.trans nI_0), c6, rfl, rfl⟩
