/-! ROWS RUN by the reference: judge -/
def cp12 (x y : Nat → Nat) : Nat → Nat := fun c => if c < 12 then y c else x c
theorem cpk_sr (M : ks_M) (a b : Nat) : cpk M a b 12 = sr M b (cp12 (M b) (M a)) := by
  funext r c
  by_cases h : r = b
  · subst h; simp [cpk, sr, cp12]
  · simp [cpk, sr, h]
def rok7 (n B : Nat) (y : Nat → Nat) : Prop := y 0 < 6 ∧ (y 0 < n ∨ y 0 = 0) ∧ y 1 < 1000 ∧ y 2 ≤ B ∧ y 4 < 64 ∧ y 5 < 64 ∧ ∀ h, h < 6 → y (6 + h) < 8
theorem bt7_lt (y : Nat → Nat) : bt7 y < 2 ^ 3 := by
  unfold bt7
  rw [Nat.one_shiftLeft]
  exact Nat.pow_lt_pow_right (by decide) (Nat.mod_lt _ (by decide))
theorem tk7_ok {M : ks_M} {n B t : Nat} {y : Nat → Nat} (hn : n ≤ 6) (h : rok7 n B y) (hc : cn7 n y t = 1) (ht : t < 4) : rok7 n (B + 1) (tk7 M y t) := by
  obtain ⟨h0, h0n, h1, h2, h4, h5, h6⟩ := h
  rcases (show t = 0 ∨ t = 1 ∨ t = 2 ∨ t = 3 by omega) with rfl | rfl | rfl | rfl
  · rw [tk7_0]; simp only [rok7, up1]
    refine ⟨by simp; omega, by simp; omega, by simp; omega, by simp; omega, by simp; omega, by simp; omega, fun q hq => ?_⟩
    rw [if_neg (by omega), if_neg (by omega)]; exact h6 q hq
  · have h7 : y 0 + 1 < n := by
      unfold cn7 at hc; rw [if_neg (by decide), if_pos rfl] at hc; split at hc <;> first | assumption | cases hc
    rw [tk7_1]; simp only [rok7, up1]
    refine ⟨by simp; omega, by simp; omega, by simp; omega, by simp; omega, by simp; omega, by simp; omega, fun q hq => ?_⟩
    rw [if_neg (by omega), if_neg (by omega)]; exact h6 q hq
  · rw [tk7_2]; simp only [rok7, up1]
    refine ⟨?_, ?_, ?_, ?_, ?_, ?_, fun q hq => ?_⟩
    · rw [if_neg (by decide), if_neg (by decide), if_neg (by decide), if_neg (by omega)]; exact h0
    · rw [if_neg (by decide), if_neg (by decide), if_neg (by decide), if_neg (by omega)]; exact h0n
    · rw [if_neg (by decide), if_neg (by decide), if_pos trivial]; omega
    · rw [if_pos trivial]; omega
    · rw [if_neg (by decide), if_neg (by decide), if_neg (by decide), if_neg (by omega)]; exact h4
    · rw [if_neg (by decide), if_neg (by decide), if_neg (by decide), if_neg (by omega)]; exact h5
    · rw [if_neg (by omega), if_neg (by omega), if_neg (by omega)]
      split
      · exact Nat.or_lt_two_pow (n := 3) (h6 _ h0) (bt7_lt y)
      · exact h6 q hq
  · rw [tk7_3]; simp only [rok7, up1]
    refine ⟨by simp; omega, by simp; omega, by simp; omega, by simp; omega, by simp; omega, by simp; omega, fun q hq => ?_⟩
    rw [if_neg (by omega)]; exact h6 q hq
theorem cp12_ok {n B : Nat} {x y : Nat → Nat} (h : rok7 n B y) : rok7 n B (cp12 x y) := by
  obtain ⟨h0, h0n, h1, h2, h4, h5, h6⟩ := h
  refine ⟨h0, h0n, h1, h2, h4, h5, fun q hq => ?_⟩
  unfold cp12; rw [if_pos (by omega)]; exact h6 q hq
def rn7 (M : ks_M) (X : Nat → Nat) (d : Nat → Nat) : Nat → Nat → Nat
  | 0 => X
  | k + 1 => tk7 M (rn7 M X d k) (d k)
def jg7 (n : Nat) (M : ks_M) (X : Nat → Nat) (d : Nat → Nat) (p : Nat) : Prop := cn7 n (rn7 M X d p) (d p) = 1 ∧ ¬ (d p = 2 ∧ gn7 M (rn7 M X d p) = 0)
theorem rn7_ok {M : ks_M} {n B m : Nat} {X : Nat → Nat} {d : Nat → Nat} (hn : n ≤ 6) (hd : ∀ p, p < m → d p < 4) (h : rok7 n B X) : ∀ k, k ≤ m → (∀ p, p < k → cn7 n (rn7 M X d p) (d p) = 1) → rok7 n (B + k) (rn7 M X d k)
  | 0, _, _ => h
  | k + 1, hk, hc => tk7_ok hn (rn7_ok hn hd h k (by omega) (fun p hp => hc p (by omega))) (hc k (by omega)) (hd k (by omega))
theorem okP_rok {M : ks_M} (h : okP M) (h0 : M 49 0 < M 44 4 ∨ M 49 0 = 0) : rok7 (M 44 4) 100000 (M 49) := by
  obtain ⟨-, -, a1, a2, a3, a4, a5, a6, -, -, -⟩ := h
  exact ⟨a1, h0, a2, by omega, a4, a5, fun q _ => a6 q⟩
theorem gn7_lt {M : ks_M} (h : ∀ k, M 47 k < 10) (y : Nat → Nat) : gn7 M y < 1000 := by
  unfold gn7 sg7 shw
  have := h (3 * y 0 + y 2 % 3)
  (repeat' split) <;> omega
set_option maxHeartbeats 8000000 in
theorem c7_judge (l : Launch) (G : ks_G) (base : Nat) (Mx : ks_M) (Lx : ks_L) (x z : Int32) (ok : okP Mx) (h0n : Mx 49 0 < Mx 44 4 ∨ Mx 49 0 = 0) : KI l G base 3 yX7_judge cX7_judge 6 .int [.ref (base + 44), .int (x), .int (z)] SH Mx Lx (fun rr M1 L1 => (rr = (-2) ∧ (∀ n ro, 1 ≤ n → n ≤ 8 → x = nI n → ¬ okr n z ro) ∧ M1 = Mx ∧ L1 = Lx) ∨ (∃ n ro, 1 ≤ n ∧ n ≤ 8 ∧ x = nI n ∧ okr n z ro ∧ ((∃ p, p < n ∧ rr = nI p ∧ (∀ q, q < p → jg7 (Mx 44 4) Mx (cp12 (Mx 50) (Mx 49)) (dg n ro) (q)) ∧ ¬ jg7 (Mx 44 4) Mx (cp12 (Mx 50) (Mx 49)) (dg n ro) (p)) ∨ (rr = (-9) ∧ ∀ q, q < n → jg7 (Mx 44 4) Mx (cp12 (Mx 50) (Mx 49)) (dg n ro) (q))) ∧ (∀ a, a ≠ 50 → M1 a = Mx a) ∧ L1 = Lx)) := by
  refine k_meti (by decide) (Nat.le_of_ble_eq_true rfl) (fun K hK X Y => ?_)
  subst hK
  refine r_pl [(0, .ref (base + 44)), (1, .int (x)), (2, .int (z))] ⟨rfl, rfl, rfl, trivial⟩ ?_
  have hth := ok.1
  refine r_aload_n (q := 1) (i := 0) (j := 0) (x := base + 44) X rfl rfl dX7_judge_0 rfl ?_
  refine r_iconst (q := 2) (v := nI 0) X kc_0 dX7_judge_1 rfl ?_
  refine r_puti (q := 5) (i := 44) (n := 0) X fk_X7_59 kp_X7_0 kh_44 rfl dX7_judge_2 rfl ?_
  refine r_mem Mx (up2_id hth) ?_
  refine r_iload_n (q := 6) (i := 1) (j := 1) (x := x) X rfl rfl dX7_judge_5 rfl ?_
  refine r_bipush (q := 8) (v := nI 8) X kb_8 dX7_judge_6 rfl ?_
  refine r_iload_n (q := 9) (i := 2) (j := 2) (x := z) X rfl rfl dX7_judge_8 rfl ?_
  refine r_callSi (q := 12) X (c_noRow K.2.1 G base Mx Lx x z 8 (by decide)) ks_RX7_155 (by decide) (by decide) ⟨Nat.zero_le _, Nat.zero_le _⟩ rfl (Nat.le_of_ble_eq_true rfl) dX7_judge_9 rfl (fun r M1 L1 hp => ?_)
  rcases hp with ⟨n, ro, e1, hn1, hn8, hxe, hok, hp2⟩ | ⟨e1, hno, hp2⟩
  · subst e1
    obtain ⟨e2, e3⟩ := hp2
    replace e2 := e2.symm
    subst e2
    replace e3 := e3.symm
    subst e3
    subst hxe
    obtain ⟨hz, hr10, hdig⟩ := hok
    subst hz
    have h10 := kp10 (n := n) (by omega)
    refine r_if_eq (q := 15) (tgt := 18) X (by decide) dX7_judge_12 rfl (fun _ => ?_) (fun c => absurd c (by decide))
    refine r_aload_n (q := 19) (i := 0) (j := 0) (x := base + 44) X rfl rfl dX7_judge_18 rfl ?_
    refine r_getf (q := 22) (i := 44) (v := .ref (base + 49)) X fk_X7_22 kh_44 rfl rfl dX7_judge_19 rfl ?_
    refine r_aload_n (q := 23) (i := 0) (j := 0) (x := base + 44) X rfl rfl dX7_judge_22 rfl ?_
    refine r_getf (q := 26) (i := 44) (v := .ref (base + 50)) X fk_X7_25 kh_44 rfl rfl dX7_judge_23 rfl ?_
    refine r_callSv (q := 29) X (c_copy7 K.2.1 G base Mx Lx 49 50 kh_49 kh_50 (by decide)) ks_RX7_142 (by decide) (by decide) ⟨Nat.zero_le _, Nat.zero_le _⟩ rfl (Nat.le_of_ble_eq_true rfl) dX7_judge_26 rfl (fun M1 L1 hp => ?_)
    obtain ⟨e2, e3⟩ := hp
    rw [cpk_sr] at e2
    replace e2 := e2.symm
    subst e2
    replace e3 := e3.symm
    subst e3
    refine r_iconst (q := 30) (v := nI 0) X kc_0 dX7_judge_29 rfl ?_
    refine r_istore_n (q := 31) (i := 3) (j := 3) X rfl (Nat.le_of_ble_eq_true rfl) dX7_judge_30 rfl ?_
    have hok0 : rok7 (Mx 44 4) 100000 (cp12 (Mx 50) (Mx 49)) := cp12_ok (okP_rok ok h0n)
    have lp : ∀ (fuel : Nat) (p : Nat), n - p < fuel → (p ≤ n) → (∀ q, q < p → jg7 (Mx 44 4) Mx (cp12 (Mx 50) (Mx 49)) (dg n ro) (q)) → RN K G base 6 0 0 SH ((sr Mx 50 (rn7 Mx (cp12 (Mx 50) (Mx 49)) (dg n ro) (p)))) Lx 31 [(0, .ref (base + 44)), (1, .int (nI (n))), (2, .int (nI (ro))), (3, .int (nI (p)))] [] := by
      intro fuel
      induction fuel with
      | zero => intro p hfu; exact absurd hfu (Nat.not_lt_zero _)
      | succ fuel ih =>
        intro p hfu hp9 hal
        refine r_iload_n (q := 32) (i := 3) (j := 3) (x := nI (p)) X rfl rfl dX7_judge_31 rfl ?_
        refine r_iload_n (q := 33) (i := 1) (j := 1) (x := nI (n)) X rfl rfl dX7_judge_32 rfl ?_
        refine r_icmp_ge (q := 36) (tgt := 99) X (by decide) dX7_judge_33 rfl (fun c33 => ?_) (fun c33 => ?_)
        · replace c33 : n ≤ p := (nI_leI (by omega) (by omega)).mp c33
          refine r_bipush (q := 101) (v := (-9)) X kb_m9 dX7_judge_99 rfl ?_
          refine r_iret X Y ?_ dX7_judge_101
          exact Or.inr ⟨n, ro, hn1, hn8, rfl, ⟨rfl, hr10, hdig⟩, Or.inr ⟨rfl, fun q hq => hal q (by omega)⟩, fun a ha => sr_o ha, rfl⟩
        · replace c33 : ¬ n ≤ p := fun h => c33 ((nI_leI (by omega) (by omega)).mpr h)
          refine r_iload_n (q := 37) (i := 2) (j := 2) (x := nI (ro)) X rfl rfl dX7_judge_36 rfl ?_
          refine r_bipush (q := 39) (v := nI 10) X kb_10 dX7_judge_37 rfl ?_
          refine r_iload_n (q := 40) (i := 1) (j := 1) (x := nI (n)) X rfl rfl dX7_judge_39 rfl ?_
          refine r_iconst (q := 41) (v := nI 1) X kc_1 dX7_judge_40 rfl ?_
          refine r_isubR (q := 42) (x := nI (n)) (y := nI 1) (v := nI (n - 1)) X (pk_sub (by omega)) dX7_judge_41 rfl ?_
          refine r_iload_n (q := 43) (i := 3) (j := 3) (x := nI (p)) X rfl rfl dX7_judge_42 rfl ?_
          refine r_isubR (q := 44) (x := nI (n - 1)) (y := nI (p)) (v := nI ((n - 1) - p)) X (pk_sub (by omega)) dX7_judge_43 rfl ?_
          refine r_callSi (q := 47) X (c_power7 K.2.1 G base _ Lx 10 (n - 1 - p) (by omega)) ks_RX7_138 (by decide) (by decide) ⟨Nat.zero_le _, Nat.zero_le _⟩ rfl (Nat.le_of_ble_eq_true rfl) dX7_judge_44 rfl (fun r M1 L1 hp => ?_)
          obtain ⟨e1, e2, e3⟩ := hp
          subst e1
          replace e2 := e2.symm
          subst e2
          replace e3 := e3.symm
          subst e3
          have hpk := kp10 (n := n - 1 - p) (by omega)
          have hpp := kp10p (n - 1 - p)
          have hdl : ro / 10 ^ (n - 1 - p) ≤ ro := Nat.div_le_self _ _
          refine r_idivR (q := 48) (x := nI (ro)) (y := nI (10 ^ (n - 1 - p))) (v := nI (ro / (10 ^ (n - 1 - p)))) X (nI_ne0 (by omega) (by omega)) (pk_div (by omega) (by omega) (by omega)) dX7_judge_47 rfl ?_
          refine r_bipush (q := 50) (v := nI 10) X kb_10 dX7_judge_48 rfl ?_
          refine r_iremR (q := 51) (x := nI (ro / (10 ^ (n - 1 - p)))) (y := nI 10) (v := nI (dg n ro p)) X (by decide) (pk_rem (by omega) (by omega) (by omega)) dX7_judge_50 rfl ?_
          have hd4 := hdig p (by omega)
          have hro := rn7_ok (M := Mx) ok.2.1 hdig hok0 p (by omega) (fun q hq => (hal q hq).1)
          refine r_istore (q := 53) (i := 4) X (Nat.le_of_ble_eq_true rfl) dX7_judge_51 rfl ?_
          refine r_aload_n (q := 54) (i := 0) (j := 0) (x := base + 44) X rfl rfl dX7_judge_53 rfl ?_
          refine r_aload_n (q := 55) (i := 0) (j := 0) (x := base + 44) X rfl rfl dX7_judge_54 rfl ?_
          refine r_getf (q := 58) (i := 44) (v := .ref (base + 50)) X fk_X7_25 kh_44 rfl rfl dX7_judge_55 rfl ?_
          refine r_iload (q := 60) (i := 4) (x := nI (dg n ro p)) X rfl dX7_judge_58 rfl ?_
          refine r_callVi (q := 63) X (c_can7 K.2.1 G base (sr Mx 50 (rn7 Mx (cp12 (Mx 50) (Mx 49)) (dg n ro) (p))) Lx 50 (dg n ro p) kh_50 (by omega) (by rw [sr_s]; have := hro.1; omega) (by rw [sr_s]; have := hro.2.2.1; omega) (by rw [sr_o (by decide)]; exact ok.2.1)) kh_44 rfl ks_RX7_121 (by decide) (by decide) ⟨Nat.zero_le _, Nat.zero_le _⟩ rfl (Nat.le_of_ble_eq_true rfl) dX7_judge_60 rfl (fun r M1 L1 hp => ?_)
          rw [sr_s, show sr Mx 50 (rn7 Mx (cp12 (Mx 50) (Mx 49)) (dg n ro) (p)) 44 = Mx 44 from sr_o (by decide)] at hp
          obtain ⟨e1, e2, e3⟩ := hp
          subst e1
          replace e2 := e2.symm
          subst e2
          replace e3 := e3.symm
          subst e3
          have hcn := cn7_2 (Mx 44 4) (rn7 Mx (cp12 (Mx 50) (Mx 49)) (dg n ro) (p)) (dg n ro p)
          refine r_if_ne (q := 66) (tgt := 68) X (by decide) dX7_judge_63 rfl (fun c63 => ?_) (fun c63 => ?_)
          · replace c63 : ¬ (cn7 (Mx 44 4) (rn7 Mx (cp12 (Mx 50) (Mx 49)) (dg n ro) (p)) (dg n ro p)) = 0 := fun h => c63 ((kI_eq0 (by omega)).mpr h)
            have hc1 : cn7 (Mx 44 4) (rn7 Mx (cp12 (Mx 50) (Mx 49)) (dg n ro) (p)) (dg n ro p) = 1 := by omega
            refine r_aload_n (q := 69) (i := 0) (j := 0) (x := base + 44) X rfl rfl dX7_judge_68 rfl ?_
            refine r_aload_n (q := 70) (i := 0) (j := 0) (x := base + 44) X rfl rfl dX7_judge_69 rfl ?_
            refine r_getf (q := 73) (i := 44) (v := .ref (base + 50)) X fk_X7_25 kh_44 rfl rfl dX7_judge_70 rfl ?_
            refine r_iload (q := 75) (i := 4) (x := nI (dg n ro p)) X rfl dX7_judge_73 rfl ?_
            refine r_callVi (q := 78) X (c_go7 K.2.1 G base (sr Mx 50 (rn7 Mx (cp12 (Mx 50) (Mx 49)) (dg n ro) (p))) Lx 50 (dg n ro p) kh_50 hd4 (by rw [sr_s]; exact hro.1) (by rw [sr_s]; have := hro.2.2.2.1; omega) (by rw [sr_s]; have := hro.2.2.2.2.1; omega) (by rw [sr_s]; have := hro.2.2.2.2.2.1; omega) (by rw [sr_s]; have := hro.2.2.2.2.2.2 _ hro.1; omega) (fun q => (by rw [sr_o (by decide)]; have := ok.2.2.2.2.2.2.2.2.2.1 q; omega)) (fun q => (by rw [sr_o (by decide)]; have := ok.2.2.2.2.2.2.2.2.2.2 q; omega)) (fun h => by rw [sr_s]; rw [h] at hc1; exact cn7_0 hc1) (fun h => by rw [sr_s]; rw [h] at hc1; exact cn7_look hc1)) kh_44 rfl ks_RX7_128 (by decide) (by decide) ⟨Nat.zero_le _, Nat.zero_le _⟩ rfl (Nat.le_of_ble_eq_true rfl) dX7_judge_75 rfl (fun r M1 L1 hp => ?_)
            rw [sr_s, gn7_eq (M := Mx) (sr_o (by decide)) (sr_o (by decide)), tk7_eq (M := Mx) (sr_o (by decide)) (sr_o (by decide)), sr_sr] at hp
            obtain ⟨e1, e2, e3⟩ := hp
            subst e1
            replace e2 := e2.symm
            subst e2
            replace e3 := e3.symm
            subst e3
            refine r_istore (q := 80) (i := 5) X (Nat.le_of_ble_eq_true rfl) dX7_judge_78 rfl ?_
            refine r_iload (q := 82) (i := 4) (x := nI (dg n ro p)) X rfl dX7_judge_80 rfl ?_
            refine r_iconst (q := 83) (v := nI 2) X kc_2 dX7_judge_82 rfl ?_
            refine r_icmp_ne (q := 86) (tgt := 93) X (by decide) dX7_judge_83 rfl (fun c83 => ?_) (fun c83 => ?_)
            · replace c83 : ¬ (dg n ro p) = 2 := fun h => c83 ((kI_eq (by omega) (by omega)).mpr h)
              refine r_iinc (q := 96) (i := 3) (x := nI (p)) (v := nI (p + 1)) X rfl (Nat.le_of_ble_eq_true rfl) (kinc 1 rfl) dX7_judge_93 rfl ?_
              refine r_goto (tgt := 31) X (by decide) dX7_judge_96 ?_
              refine r_pl [(0, .ref (base + 44)), (1, .int (nI (n))), (2, .int (nI (ro))), (3, .int (nI (p + 1)))] ⟨rfl, rfl, rfl, rfl, trivial⟩ ?_
              refine ih (p + 1) (by omega) (by omega) (fun q hq => ?_)
              rcases (show q < p ∨ q = p by omega) with h9 | h9
              · exact hal q h9
              · subst h9
                refine ⟨hc1, fun h8 => ?_⟩
                first
                | (have h7 := h8.1; omega)
                | (rw [if_pos h8.1, h8.2] at c88; exact c88 rfl)
            · replace c83 : (dg n ro p) = 2 := (kI_eq (by omega) (by omega)).mp c83
              refine r_iload (q := 88) (i := 5) (x := nI (if (dg n ro p) = 2 then gn7 Mx (rn7 Mx (cp12 (Mx 50) (Mx 49)) (dg n ro) (p)) else 0)) X rfl dX7_judge_86 rfl ?_
              refine r_if_ne (q := 91) (tgt := 93) X (by decide) dX7_judge_88 rfl (fun c88 => ?_) (fun c88 => ?_)
              · skip
                refine r_iinc (q := 96) (i := 3) (x := nI (p)) (v := nI (p + 1)) X rfl (Nat.le_of_ble_eq_true rfl) (kinc 1 rfl) dX7_judge_93 rfl ?_
                refine r_goto (tgt := 31) X (by decide) dX7_judge_96 ?_
                refine r_pl [(0, .ref (base + 44)), (1, .int (nI (n))), (2, .int (nI (ro))), (3, .int (nI (p + 1)))] ⟨rfl, rfl, rfl, rfl, trivial⟩ ?_
                refine ih (p + 1) (by omega) (by omega) (fun q hq => ?_)
                rcases (show q < p ∨ q = p by omega) with h9 | h9
                · exact hal q h9
                · subst h9
                  refine ⟨hc1, fun h8 => ?_⟩
                  first
                  | (have h7 := h8.1; omega)
                  | (rw [if_pos h8.1, h8.2] at c88; exact c88 rfl)
              · skip
                refine r_iload_n (q := 92) (i := 3) (j := 3) (x := nI (p)) X rfl rfl dX7_judge_91 rfl ?_
                refine r_iret X Y ?_ dX7_judge_92
                refine Or.inr ⟨n, ro, hn1, hn8, rfl, ⟨rfl, hr10, hdig⟩, Or.inl ⟨p, by omega, rfl, hal, fun h9 => h9.2 ⟨by omega, ?_⟩⟩, fun a ha => sr_o ha, rfl⟩
                rw [if_pos (by omega)] at c88
                have hgl := gn7_lt ok.2.2.2.2.2.2.2.2.2.2 (rn7 Mx (cp12 (Mx 50) (Mx 49)) (dg n ro) (p))
                exact (kI_eq0 (by omega)).mp c88
          · replace c63 : (cn7 (Mx 44 4) (rn7 Mx (cp12 (Mx 50) (Mx 49)) (dg n ro) (p)) (dg n ro p)) = 0 := (kI_eq0 (by omega)).mp c63
            refine r_iload_n (q := 67) (i := 3) (j := 3) (x := nI (p)) X rfl rfl dX7_judge_66 rfl ?_
            refine r_iret X Y ?_ dX7_judge_67
            exact Or.inr ⟨n, ro, hn1, hn8, rfl, ⟨rfl, hr10, hdig⟩, Or.inl ⟨p, by omega, rfl, hal, fun h9 => by have := h9.1; omega⟩, fun a ha => sr_o ha, rfl⟩
    refine r_pl [(0, .ref (base + 44)), (1, .int (nI (n))), (2, .int (nI (ro))), (3, .int (nI (0)))] ⟨rfl, rfl, rfl, rfl, trivial⟩ ?_
    exact lp (n + 1) 0 (by omega) (by omega) (fun q hq => absurd hq (Nat.not_lt_zero _))
  · subst e1
    obtain ⟨e2, e3⟩ := hp2
    replace e2 := e2.symm
    subst e2
    replace e3 := e3.symm
    subst e3
    refine r_if_eq (q := 15) (tgt := 18) X (by decide) dX7_judge_12 rfl (fun c => absurd c (by decide)) (fun _ => ?_)
    refine r_bipush (q := 17) (v := (-2)) X kb_m2 dX7_judge_15 rfl ?_
    refine r_iret X Y ?_ dX7_judge_17
    exact Or.inl ⟨rfl, hno, rfl, rfl⟩
