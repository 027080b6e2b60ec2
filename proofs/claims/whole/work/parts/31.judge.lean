/-! ROWS RUN by the class: judge -/
def rok (n B : Nat) (x : Nat → Nat) : Prop := x 0 < 6 ∧ (x 0 < n ∨ x 0 = 0) ∧ x 1 < 1000 ∧ x 2 ≤ B ∧ x 4 < 64 ∧ x 5 < 64 ∧ x 6 < 262144
theorem bt_lt {x : Nat → Nat} (h : x 0 < 6) : bt x < 2 ^ 18 := by
  unfold bt
  rw [Nat.one_shiftLeft]
  exact Nat.pow_lt_pow_right (by decide) (by omega)
theorem tk_ok {n B t : Nat} {S x : Nat → Nat} (hn : n ≤ 6) (h : rok n B x) (hc : cn n x t = 1) (ht : t < 4) : rok n (B + 1) (tk S x t) := by
  obtain ⟨h0, h0n, h1, h2, h4, h5, h6⟩ := h
  have hb := bt_lt h0
  have ho : x 6 ||| bt x < 2 ^ 18 := Nat.or_lt_two_pow h6 hb
  rcases (show t = 0 ∨ t = 1 ∨ t = 2 ∨ t = 3 by omega) with rfl | rfl | rfl | rfl
  · rw [tk_0]; simp only [rok, up1]
    exact ⟨by simp; omega, by simp; omega, by simp; omega, by simp; omega, by simp; omega, by simp; omega, by simp; omega⟩
  · have h7 : x 0 + 1 < n := by
      unfold cn at hc; rw [if_neg (by decide), if_pos rfl] at hc; split at hc <;> first | assumption | cases hc
    rw [tk_1]; simp only [rok, up1]
    exact ⟨by simp; omega, by simp; omega, by simp; omega, by simp; omega, by simp; omega, by simp; omega, by simp; omega⟩
  · rw [tk_2]; simp only [rok, up1]
    exact ⟨by simp; omega, by simp; omega, by simp; omega, by simp; omega, by simp; omega, by simp; omega, by simp; omega⟩
  · rw [tk_3]; simp only [rok, up1]
    exact ⟨by simp; omega, by simp; omega, by simp; omega, by simp; omega, by simp; omega, by simp; omega, by simp; omega⟩
theorem cp7_ok {n B : Nat} {x y : Nat → Nat} (h : rok n B y) : rok n B (cp7 x y) := h
/-- the stand behind the first k turns of a row d -/
def rn (S X : Nat → Nat) (d : Nat → Nat) : Nat → Nat → Nat
  | 0 => X
  | k + 1 => tk S (rn S X d k) (d k)
def jg (n : Nat) (S X : Nat → Nat) (d : Nat → Nat) (p : Nat) : Prop := cn n (rn S X d p) (d p) = 1 ∧ ¬ (d p = 2 ∧ gn S (rn S X d p) = 0)
theorem rn_ok {n B m : Nat} {S X : Nat → Nat} {d : Nat → Nat} (hn : n ≤ 6) (hd : ∀ p, p < m → d p < 4) (h : rok n B X) : ∀ k, k ≤ m → (∀ p, p < k → cn n (rn S X d p) (d p) = 1) → rok n (B + k) (rn S X d k)
  | 0, _, _ => h
  | k + 1, hk, hc => tk_ok hn (rn_ok hn hd h k (by omega) (fun p hp => hc p (by omega))) (hc k (by omega)) (hd k (by omega))
theorem okN_rok {M : ks_M} (h : okN M) (h0 : M 7 0 < M 3 3 ∨ M 7 0 = 0) : rok (M 3 3) 100000 (M 7) := by
  obtain ⟨-, a1, a2, a3, a4, a5, a6, -, -⟩ := h
  exact ⟨a1, h0, a2, by omega, a4, a5, a6⟩
theorem fa_lt0 {x : Int32} (h : x < 0) : x < nI 1 := by
  rw [fa_lt] at h ⊢
  have h1 : (0 : Int32).toInt = 0 := rfl
  rw [nI_toInt (by decide)]
  omega
theorem gn_lt {S : Nat → Nat} (h : ∀ k, S k < 1000) (x : Nat → Nat) : gn S x < 2147483648 := by
  unfold gn sgv
  (repeat' split) <;> first | decide | (have := h (x 0 * 6 + x 2 % 6); omega)
set_option maxHeartbeats 8000000 in
theorem c6_judge (l : Launch) (G : ks_G) (base : Nat) (Mx : ks_M) (Lx : ks_L) (x z : Int32) (ok : okN Mx) (hn : Mx 3 3 ≤ 6) (h0n : Mx 7 0 < Mx 3 3 ∨ Mx 7 0 = 0) (hS : ∀ k, Mx 6 k < 1000) : KI l G base 4 yX6_judge cX6_judge 6 .int [.ref (base + 0), .int (x), .int (z)] SH Mx Lx (fun rr M1 L1 => (rr = (-2) ∧ (∀ n r, 1 ≤ n → n ≤ 8 → x = nI n → ¬ okr n z r) ∧ M1 = Mx ∧ L1 = Lx) ∨ (∃ n ro, 1 ≤ n ∧ n ≤ 8 ∧ x = nI n ∧ okr n z ro ∧ ((∃ p, p < n ∧ rr = nI p ∧ (∀ q, q < p → jg (Mx 3 3) (Mx 6) (cp7 (Mx 8) (Mx 7)) (dg n ro) (q)) ∧ ¬ jg (Mx 3 3) (Mx 6) (cp7 (Mx 8) (Mx 7)) (dg n ro) (p)) ∨ (rr = (-9) ∧ ∀ q, q < n → jg (Mx 3 3) (Mx 6) (cp7 (Mx 8) (Mx 7)) (dg n ro) (q))) ∧ (∀ a, a ≠ 8 → M1 a = Mx a) ∧ L1 = Lx)) := by
  refine k_meti (by decide) (Nat.le_of_ble_eq_true rfl) (fun K hK X Y => ?_)
  subst hK
  refine r_pl [(0, .ref (base + 0)), (1, .int (x)), (2, .int (z))] ⟨rfl, rfl, rfl, trivial⟩ ?_
  refine r_iload_n (q := 1) (i := 1) (j := 1) (x := x) X rfl rfl dX6_judge_0 rfl ?_
  refine r_iconst (q := 2) (v := nI 1) X kc_1 dX6_judge_1 rfl ?_
  refine r_icmp_lt (q := 5) (tgt := 19) X (by decide) dX6_judge_2 rfl (fun c2 => ?_) (fun c2 => ?_)
  · skip
    refine r_bipush (q := 21) (v := (-2)) X kb_m2 dX6_judge_19 rfl ?_
    refine r_iret X Y ?_ dX6_judge_21
    refine Or.inl ⟨rfl, fun n2 r2 h1 h2 h3 h4 => ?_, rfl, rfl⟩
    subst h3
    exact absurd c2 (fun h => by have := (nI_ltI (by omega) (by omega)).mp h; omega)
  · skip
    obtain ⟨n, hn9, rfl⟩ : ∃ n, n < 2147483648 ∧ x = nI n := by
      obtain ⟨n, h1, h2⟩ := nI_of (x := x) (fun h => c2 (fa_lt0 h))
      exact ⟨n, h1, h2⟩
    replace c2 : ¬ n < 1 := fun h => c2 ((nI_ltI (by omega) (by omega)).mpr h)
    refine r_iload_n (q := 6) (i := 1) (j := 1) (x := nI (n)) X rfl rfl dX6_judge_5 rfl ?_
    refine r_bipush (q := 8) (v := nI 8) X kb_8 dX6_judge_6 rfl ?_
    refine r_icmp_gt (q := 11) (tgt := 19) X (by decide) dX6_judge_8 rfl (fun c8 => ?_) (fun c8 => ?_)
    · replace c8 : 8 < n := (nI_ltI (by omega) (by omega)).mp c8
      refine r_bipush (q := 21) (v := (-2)) X kb_m2 dX6_judge_19 rfl ?_
      refine r_iret X Y ?_ dX6_judge_21
      refine Or.inl ⟨rfl, fun n2 r2 h1 h2 h3 h4 => ?_, rfl, rfl⟩
      first
      | (obtain rfl := (kI_eq (by omega) (by omega)).mp h3; exact hno _ h4)
      | (have := (kI_eq (by omega) (by omega)).mp h3; omega)
    · replace c8 : ¬ 8 < n := fun h => c8 ((nI_ltI (by omega) (by omega)).mpr h)
      refine r_iload_n (q := 12) (i := 1) (j := 1) (x := nI (n)) X rfl rfl dX6_judge_11 rfl ?_
      refine r_iload_n (q := 13) (i := 2) (j := 2) (x := z) X rfl rfl dX6_judge_12 rfl ?_
      refine r_callSi (q := 16) X (c_isRow K.2.1 G base Mx Lx n z (by omega)) ks_RX6_168 (by decide) (by decide) ⟨Nat.zero_le _, Nat.zero_le _⟩ rfl (Nat.le_of_ble_eq_true rfl) dX6_judge_13 rfl (fun r M1 L1 hp => ?_)
      rcases hp with ⟨ro, e1, hok, hp2⟩ | ⟨e1, hno, hp2⟩
      · subst e1
        obtain ⟨e2, e3⟩ := hp2
        replace e2 := e2.symm
        subst e2
        replace e3 := e3.symm
        subst e3
        obtain ⟨hz, hr10, hdig⟩ := hok
        subst hz
        have h10 := kp10 (n := n) (by omega)
        refine r_if_ne (q := 19) (tgt := 22) X (by decide) dX6_judge_16 rfl (fun _ => ?_) (fun c => absurd c (by decide))
        refine r_aload_n (q := 23) (i := 0) (j := 0) (x := base + 0) X rfl rfl dX6_judge_22 rfl ?_
        refine r_getf (q := 26) (i := 0) (v := .ref (base + 8)) X fk_X6_30 kh_0 rfl rfl dX6_judge_23 rfl ?_
        refine r_aload_n (q := 27) (i := 0) (j := 0) (x := base + 0) X rfl rfl dX6_judge_26 rfl ?_
        refine r_getf (q := 30) (i := 0) (v := .ref (base + 7)) X fk_X6_26 kh_0 rfl rfl dX6_judge_27 rfl ?_
        refine r_callVv (q := 33) X (c_copy K.2.1 G base Mx Lx 8 kh_8 7 kh_7 (by decide)) kh_8 rfl ks_RX6_172 (by decide) (by decide) ⟨Nat.zero_le _, Nat.zero_le _⟩ rfl (Nat.le_of_ble_eq_true rfl) dX6_judge_30 rfl (fun M1 L1 hp => ?_)
        obtain ⟨e2, e3⟩ := hp
        replace e2 := e2.symm
        subst e2
        replace e3 := e3.symm
        subst e3
        refine r_iconst (q := 34) (v := nI 0) X kc_0 dX6_judge_33 rfl ?_
        refine r_istore_n (q := 35) (i := 3) (j := 3) X rfl (Nat.le_of_ble_eq_true rfl) dX6_judge_34 rfl ?_
        have hok0 : rok (Mx 3 3) 100000 (cp7 (Mx 8) (Mx 7)) := cp7_ok (okN_rok ok h0n)
        have lp : ∀ (fuel : Nat) (p : Nat), n - p < fuel → (p ≤ n) → (∀ q, q < p → jg (Mx 3 3) (Mx 6) (cp7 (Mx 8) (Mx 7)) (dg n ro) (q)) → RN K G base 6 0 0 SH ((sr Mx 8 (rn (Mx 6) (cp7 (Mx 8) (Mx 7)) (dg n ro) (p)))) Lx 35 [(0, .ref (base + 0)), (1, .int (nI (n))), (2, .int (nI (ro))), (3, .int (nI (p)))] [] := by
          intro fuel
          induction fuel with
          | zero => intro p hfu; exact absurd hfu (Nat.not_lt_zero _)
          | succ fuel ih =>
            intro p hfu hp9 hal
            refine r_iload_n (q := 36) (i := 3) (j := 3) (x := nI (p)) X rfl rfl dX6_judge_35 rfl ?_
            refine r_iload_n (q := 37) (i := 1) (j := 1) (x := nI (n)) X rfl rfl dX6_judge_36 rfl ?_
            refine r_icmp_ge (q := 40) (tgt := 100) X (by decide) dX6_judge_37 rfl (fun c37 => ?_) (fun c37 => ?_)
            · replace c37 : n ≤ p := (nI_leI (by omega) (by omega)).mp c37
              refine r_bipush (q := 102) (v := (-9)) X kb_m9 dX6_judge_100 rfl ?_
              refine r_iret X Y ?_ dX6_judge_102
              exact Or.inr ⟨n, ro, by omega, by omega, rfl, ⟨rfl, hr10, hdig⟩, Or.inr ⟨rfl, fun q hq => hal q (by omega)⟩, fun a ha => sr_o ha, rfl⟩
            · replace c37 : ¬ n ≤ p := fun h => c37 ((nI_leI (by omega) (by omega)).mpr h)
              refine r_iload_n (q := 41) (i := 1) (j := 1) (x := nI (n)) X rfl rfl dX6_judge_40 rfl ?_
              refine r_iload_n (q := 42) (i := 2) (j := 2) (x := nI (ro)) X rfl rfl dX6_judge_41 rfl ?_
              refine r_iload_n (q := 43) (i := 3) (j := 3) (x := nI (p)) X rfl rfl dX6_judge_42 rfl ?_
              refine r_callSi (q := 46) X (c_figure K.2.1 G base _ Lx n ro p (by omega) (by omega) (by omega)) ks_RX6_175 (by decide) (by decide) ⟨Nat.zero_le _, Nat.zero_le _⟩ rfl (Nat.le_of_ble_eq_true rfl) dX6_judge_43 rfl (fun r M1 L1 hp => ?_)
              obtain ⟨e1, e2, e3⟩ := hp
              subst e1
              replace e2 := e2.symm
              subst e2
              replace e3 := e3.symm
              subst e3
              have hd4 := hdig p (by omega)
              have hro := rn_ok hn hdig hok0 p (by omega) (fun q hq => (hal q hq).1)
              refine r_istore (q := 48) (i := 4) X (Nat.le_of_ble_eq_true rfl) dX6_judge_46 rfl ?_
              refine r_aload_n (q := 49) (i := 0) (j := 0) (x := base + 0) X rfl rfl dX6_judge_48 rfl ?_
              refine r_getf (q := 52) (i := 0) (v := .ref (base + 8)) X fk_X6_30 kh_0 rfl rfl dX6_judge_49 rfl ?_
              refine r_aload_n (q := 53) (i := 0) (j := 0) (x := base + 0) X rfl rfl dX6_judge_52 rfl ?_
              refine r_getf (q := 56) (i := 0) (v := .ref (base + 3)) X fk_X6_19 kh_0 rfl rfl dX6_judge_53 rfl ?_
              refine r_iload (q := 58) (i := 4) (x := nI (dg n ro p)) X rfl dX6_judge_56 rfl ?_
              refine r_callVi (q := 61) X (c_can K.2.1 G base (sr Mx 8 (rn (Mx 6) (cp7 (Mx 8) (Mx 7)) (dg n ro) (p))) Lx 8 kh_8 (dg n ro p) (by omega) (by rw [sr_s]; have := hro.1; omega) (by rw [sr_s]; have := hro.2.2.1; omega) (by rw [sr_o (by decide)]; omega)) kh_8 rfl ks_RX6_135 (by decide) (by decide) ⟨Nat.zero_le _, Nat.zero_le _⟩ rfl (Nat.le_of_ble_eq_true rfl) dX6_judge_58 rfl (fun r M1 L1 hp => ?_)
              rw [sr_s, show sr Mx 8 (rn (Mx 6) (cp7 (Mx 8) (Mx 7)) (dg n ro) (p)) 3 = Mx 3 from sr_o (by decide)] at hp
              obtain ⟨e1, e2, e3⟩ := hp
              subst e1
              replace e2 := e2.symm
              subst e2
              replace e3 := e3.symm
              subst e3
              have hcn := cn_2 (Mx 3 3) (rn (Mx 6) (cp7 (Mx 8) (Mx 7)) (dg n ro) (p)) (dg n ro p)
              refine r_if_ne (q := 64) (tgt := 66) X (by decide) dX6_judge_61 rfl (fun c61 => ?_) (fun c61 => ?_)
              · replace c61 : ¬ (cn (Mx 3 3) (rn (Mx 6) (cp7 (Mx 8) (Mx 7)) (dg n ro) (p)) (dg n ro p)) = 0 := fun h => c61 ((kI_eq0 (by omega)).mpr h)
                have hc1 : cn (Mx 3 3) (rn (Mx 6) (cp7 (Mx 8) (Mx 7)) (dg n ro) (p)) (dg n ro p) = 1 := by omega
                refine r_aload_n (q := 67) (i := 0) (j := 0) (x := base + 0) X rfl rfl dX6_judge_66 rfl ?_
                refine r_getf (q := 70) (i := 0) (v := .ref (base + 8)) X fk_X6_30 kh_0 rfl rfl dX6_judge_67 rfl ?_
                refine r_aload_n (q := 71) (i := 0) (j := 0) (x := base + 0) X rfl rfl dX6_judge_70 rfl ?_
                refine r_getf (q := 74) (i := 0) (v := .ref (base + 3)) X fk_X6_19 kh_0 rfl rfl dX6_judge_71 rfl ?_
                refine r_iload (q := 76) (i := 4) (x := nI (dg n ro p)) X rfl dX6_judge_74 rfl ?_
                refine r_callVi (q := 79) X (c_take K.2.1 G base (sr Mx 8 (rn (Mx 6) (cp7 (Mx 8) (Mx 7)) (dg n ro) (p))) Lx 8 kh_8 (dg n ro p) hd4 (by rw [sr_s]; exact hro.1) (by rw [sr_s]; have := hro.2.2.2.1; omega) (by rw [sr_s]; have := hro.2.2.2.2.1; omega) (by rw [sr_s]; have := hro.2.2.2.2.2.1; omega) (by rw [sr_s]; have := hro.2.2.2.2.2.2; omega) (fun h => by rw [sr_s]; rw [h] at hc1; exact cn_0 hc1) (fun h => by rw [sr_s]; rw [h] at hc1; exact cn_look hc1)) kh_8 rfl ks_RX6_149 (by decide) (by decide) ⟨Nat.zero_le _, Nat.zero_le _⟩ rfl (Nat.le_of_ble_eq_true rfl) dX6_judge_76 rfl (fun r M1 L1 hp => ?_)
                rw [sr_s, show sr Mx 8 (rn (Mx 6) (cp7 (Mx 8) (Mx 7)) (dg n ro) (p)) 6 = Mx 6 from sr_o (by decide), sr_sr] at hp
                obtain ⟨e1, e2, e3⟩ := hp
                subst e1
                replace e2 := e2.symm
                subst e2
                replace e3 := e3.symm
                subst e3
                refine r_istore (q := 81) (i := 5) X (Nat.le_of_ble_eq_true rfl) dX6_judge_79 rfl ?_
                refine r_iload (q := 83) (i := 4) (x := nI (dg n ro p)) X rfl dX6_judge_81 rfl ?_
                refine r_iconst (q := 84) (v := nI 2) X kc_2 dX6_judge_83 rfl ?_
                refine r_icmp_ne (q := 87) (tgt := 94) X (by decide) dX6_judge_84 rfl (fun c84 => ?_) (fun c84 => ?_)
                · replace c84 : ¬ (dg n ro p) = 2 := fun h => c84 ((kI_eq (by omega) (by omega)).mpr h)
                  refine r_iinc (q := 97) (i := 3) (x := nI (p)) (v := nI (p + 1)) X rfl (Nat.le_of_ble_eq_true rfl) (kinc 1 rfl) dX6_judge_94 rfl ?_
                  refine r_goto (tgt := 35) X (by decide) dX6_judge_97 ?_
                  refine r_pl [(0, .ref (base + 0)), (1, .int (nI (n))), (2, .int (nI (ro))), (3, .int (nI (p + 1)))] ⟨rfl, rfl, rfl, rfl, trivial⟩ ?_
                  refine ih (p + 1) (by omega) (by omega) (fun q hq => ?_)
                  rcases (show q < p ∨ q = p by omega) with h9 | h9
                  · exact hal q h9
                  · subst h9
                    refine ⟨hc1, fun h8 => ?_⟩
                    first
                    | (have h7 := h8.1; omega)
                    | (rw [if_pos h8.1, h8.2] at c89; exact c89 rfl)
                · replace c84 : (dg n ro p) = 2 := (kI_eq (by omega) (by omega)).mp c84
                  refine r_iload (q := 89) (i := 5) (x := nI (if dg n ro p = 2 then gn (Mx 6) (rn (Mx 6) (cp7 (Mx 8) (Mx 7)) (dg n ro) (p)) else 0)) X rfl dX6_judge_87 rfl ?_
                  refine r_if_ne (q := 92) (tgt := 94) X (by decide) dX6_judge_89 rfl (fun c89 => ?_) (fun c89 => ?_)
                  · skip
                    refine r_iinc (q := 97) (i := 3) (x := nI (p)) (v := nI (p + 1)) X rfl (Nat.le_of_ble_eq_true rfl) (kinc 1 rfl) dX6_judge_94 rfl ?_
                    refine r_goto (tgt := 35) X (by decide) dX6_judge_97 ?_
                    refine r_pl [(0, .ref (base + 0)), (1, .int (nI (n))), (2, .int (nI (ro))), (3, .int (nI (p + 1)))] ⟨rfl, rfl, rfl, rfl, trivial⟩ ?_
                    refine ih (p + 1) (by omega) (by omega) (fun q hq => ?_)
                    rcases (show q < p ∨ q = p by omega) with h9 | h9
                    · exact hal q h9
                    · subst h9
                      refine ⟨hc1, fun h8 => ?_⟩
                      first
                      | (have h7 := h8.1; omega)
                      | (rw [if_pos h8.1, h8.2] at c89; exact c89 rfl)
                  · skip
                    refine r_iload_n (q := 93) (i := 3) (j := 3) (x := nI (p)) X rfl rfl dX6_judge_92 rfl ?_
                    refine r_iret X Y ?_ dX6_judge_93
                    refine Or.inr ⟨n, ro, by omega, by omega, rfl, ⟨rfl, hr10, hdig⟩, Or.inl ⟨p, by omega, rfl, hal, fun h9 => h9.2 ⟨by omega, ?_⟩⟩, fun a ha => sr_o ha, rfl⟩
                    rw [if_pos (by omega)] at c89
                    exact (kI_eq0 (gn_lt hS _)).mp c89
              · replace c61 : (cn (Mx 3 3) (rn (Mx 6) (cp7 (Mx 8) (Mx 7)) (dg n ro) (p)) (dg n ro p)) = 0 := (kI_eq0 (by omega)).mp c61
                refine r_iload_n (q := 65) (i := 3) (j := 3) (x := nI (p)) X rfl rfl dX6_judge_64 rfl ?_
                refine r_iret X Y ?_ dX6_judge_65
                exact Or.inr ⟨n, ro, by omega, by omega, rfl, ⟨rfl, hr10, hdig⟩, Or.inl ⟨p, by omega, rfl, hal, fun h9 => by have := h9.1; omega⟩, fun a ha => sr_o ha, rfl⟩
        refine r_pl [(0, .ref (base + 0)), (1, .int (nI (n))), (2, .int (nI (ro))), (3, .int (nI (0)))] ⟨rfl, rfl, rfl, rfl, trivial⟩ ?_
        exact lp (n + 1) 0 (by omega) (by omega) (fun q hq => absurd hq (Nat.not_lt_zero _))
      · subst e1
        obtain ⟨e2, e3⟩ := hp2
        replace e2 := e2.symm
        subst e2
        replace e3 := e3.symm
        subst e3
        refine r_if_ne (q := 19) (tgt := 22) X (by decide) dX6_judge_16 rfl (fun c => absurd c (by decide)) (fun _ => ?_)
        refine r_bipush (q := 21) (v := (-2)) X kb_m2 dX6_judge_19 rfl ?_
        refine r_iret X Y ?_ dX6_judge_21
        refine Or.inl ⟨rfl, fun n2 r2 h1 h2 h3 h4 => ?_, rfl, rfl⟩
        first
        | (obtain rfl := (kI_eq (by omega) (by omega)).mp h3; exact hno _ h4)
        | (have := (kI_eq (by omega) (by omega)).mp h3; omega)
