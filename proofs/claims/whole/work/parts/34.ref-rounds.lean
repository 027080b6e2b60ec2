/-! ROUNDS by the seed: the reference -/
def pr7 (M : ks_M) (n : Nat) (y : Nat → Nat) (kd : Nat) : Nat → Nat := if kd < 3 then tk7 M y (if cn7 n y kd = 1 then kd else 3) else if kd - 3 < n then up1 y 4 (y 4 ^^^ 1 <<< (kd - 3)) else y
theorem cn7_3 (n : Nat) (y : Nat → Nat) : cn7 n y 3 = 1 := rfl
theorem pr7_ok {M : ks_M} {n B kd : Nat} {y : Nat → Nat} (hn : n ≤ 6) (h : rok7 n B y) (hk : kd < 9) : rok7 n (B + 1) (pr7 M n y kd) := by
  unfold pr7
  split
  · split
    · exact tk7_ok hn h (by assumption) (by omega)
    · exact tk7_ok hn h (cn7_3 n y) (by decide)
  · split
    · obtain ⟨h0, h0n, h1, h2, h4, h5, h6⟩ := h
      have hx := kx64 (k := kd - 3) h4 (by omega)
      refine ⟨h0, h0n, h1, by show y 2 ≤ _; omega, hx, h5, fun q hq => ?_⟩
      unfold up1; rw [if_neg (by omega)]; exact h6 q hq
    · obtain ⟨h0, h0n, h1, h2, h4, h5, h6⟩ := h
      exact ⟨h0, h0n, h1, by omega, h4, h5, h6⟩
theorem tk7_joy (M : ks_M) (y : Nat → Nat) (t : Nat) : y 3 ≤ tk7 M y t 3 := by
  unfold tk7
  (repeat' split) <;> simp [up1]
theorem pr7_joy (M : ks_M) (n : Nat) (y : Nat → Nat) (kd : Nat) : y 3 ≤ pr7 M n y kd 3 := by
  unfold pr7
  (repeat' split) <;> first | exact tk7_joy M y _ | simp [up1]
def prn7 (M : ks_M) (n : Nat) (s : Int64) (X : Nat → Nat) : Nat → Nat → Nat
  | 0 => X
  | i + 1 => pr7 M n (prn7 M n s X i) (kdf (sdn s (i + 1)))
theorem prn7_ok {M : ks_M} {n B : Nat} {X : Nat → Nat} {s : Int64} (hn : n ≤ 6) (h : rok7 n B X) : ∀ i, rok7 n (B + i) (prn7 M n s X i)
  | 0 => h
  | i + 1 => pr7_ok hn (prn7_ok hn h i) (kdf_9 _)
theorem prn7_joy (M : ks_M) (n : Nat) (s : Int64) (X : Nat → Nat) : ∀ i, X 3 ≤ prn7 M n s X i 3
  | 0 => Nat.le_refl _
  | i + 1 => Nat.le_trans (prn7_joy M n s X i) (pr7_joy _ _ _ _)
set_option maxHeartbeats 8000000 in
theorem c7_rounds (l : Launch) (G : ks_G) (base : Nat) (Mx : ks_M) (Lx : ks_L) (x : Int32) (ok : okP Mx) (h0n : Mx 49 0 < Mx 44 4 ∨ Mx 49 0 = 0) : KI l G base 3 yX7_rounds cX7_rounds 4 .int [.ref (base + 44), .int (x)] SH Mx Lx (fun rr M1 L1 => (rr = (-2) ∧ (∀ m, 1 ≤ m → m ≤ 30 → x ≠ nI m) ∧ M1 = Mx ∧ L1 = Lx) ∨ (∃ m, 1 ≤ m ∧ m ≤ 30 ∧ x = nI m ∧ rr = nI ((prn7 Mx (Mx 44 4) (Lx 44) (cp12 (Mx 50) (Mx 49)) (m)) 3 - Mx 49 3) ∧ (∀ a, a ≠ 50 → M1 a = Mx a) ∧ L1 = upl Lx 44 (sdn (Lx 44) m))) := by
  refine k_meti (by decide) (Nat.le_of_ble_eq_true rfl) (fun K hK X Y => ?_)
  subst hK
  refine r_pl [(0, .ref (base + 44)), (1, .int (x))] ⟨rfl, rfl, trivial⟩ ?_
  have hth := ok.1
  refine r_aload_n (q := 1) (i := 0) (j := 0) (x := base + 44) X rfl rfl dX7_rounds_0 rfl ?_
  refine r_iconst (q := 2) (v := nI 0) X kc_0 dX7_rounds_1 rfl ?_
  refine r_puti (q := 5) (i := 44) (n := 0) X fk_X7_59 kp_X7_0 kh_44 rfl dX7_rounds_2 rfl ?_
  refine r_mem Mx (up2_id hth) ?_
  refine r_iload_n (q := 6) (i := 1) (j := 1) (x := x) X rfl rfl dX7_rounds_5 rfl ?_
  refine r_i2l (q := 7) (v := x.toInt64) X rfl dX7_rounds_6 rfl ?_
  refine r_lconst (q := 8) (v := 1) X rfl dX7_rounds_7 rfl ?_
  refine r_ldc2 (q := 11) (v := 30) X kl_RX7_195 dX7_rounds_8 rfl ?_
  refine r_callSi (q := 14) X (c_in K.2.1 G base Mx Lx x.toInt64 1 30) ks_RX7_66 (by decide) (by decide) ⟨Nat.zero_le _, Nat.zero_le _⟩ rfl (Nat.le_of_ble_eq_true rfl) dX7_rounds_11 rfl (fun r M1 L1 hp => ?_)
  have hk := kIn (x := x) (y := 1) (z := 30) (a := 1) (b := 30) rfl rfl (by omega) (by omega)
  rcases hp with ⟨e1, hin, hp2⟩ | ⟨e1, hin, hp2⟩
  · subst e1
    obtain ⟨e2, e3⟩ := hp2
    replace e2 := e2.symm
    subst e2
    replace e3 := e3.symm
    subst e3
    rw [hk] at hin
    obtain ⟨m, hm1, hm2, rfl⟩ := hin
    refine r_if_ne (q := 17) (tgt := 20) X (by decide) dX7_rounds_14 rfl (fun _ => ?_) (fun c => absurd c (by decide))
    refine r_aload_n (q := 21) (i := 0) (j := 0) (x := base + 44) X rfl rfl dX7_rounds_20 rfl ?_
    refine r_getf (q := 24) (i := 44) (v := .ref (base + 49)) X fk_X7_22 kh_44 rfl rfl dX7_rounds_21 rfl ?_
    refine r_aload_n (q := 25) (i := 0) (j := 0) (x := base + 44) X rfl rfl dX7_rounds_24 rfl ?_
    refine r_getf (q := 28) (i := 44) (v := .ref (base + 50)) X fk_X7_25 kh_44 rfl rfl dX7_rounds_25 rfl ?_
    refine r_callSv (q := 31) X (c_copy7 K.2.1 G base Mx Lx 49 50 kh_49 kh_50 (by decide)) ks_RX7_142 (by decide) (by decide) ⟨Nat.zero_le _, Nat.zero_le _⟩ rfl (Nat.le_of_ble_eq_true rfl) dX7_rounds_28 rfl (fun M1 L1 hp => ?_)
    obtain ⟨e2, e3⟩ := hp
    rw [cpk_sr] at e2
    replace e2 := e2.symm
    subst e2
    replace e3 := e3.symm
    subst e3
    refine r_iconst (q := 32) (v := nI 0) X kc_0 dX7_rounds_31 rfl ?_
    refine r_istore_n (q := 33) (i := 2) (j := 2) X rfl (Nat.le_of_ble_eq_true rfl) dX7_rounds_32 rfl ?_
    have hok0 : rok7 (Mx 44 4) 100000 (cp12 (Mx 50) (Mx 49)) := cp12_ok (okP_rok ok h0n)
    have lp : ∀ (fuel : Nat) (i : Nat), m - i < fuel → (i ≤ m) → RN K G base 4 0 0 SH ((sr Mx 50 (prn7 Mx (Mx 44 4) (Lx 44) (cp12 (Mx 50) (Mx 49)) (i)))) ((upl Lx 44 (sdn (Lx 44) (i)))) 33 [(0, .ref (base + 44)), (1, .int (nI (m))), (2, .int (nI (i)))] [] := by
      intro fuel
      induction fuel with
      | zero => intro i hfu; exact absurd hfu (Nat.not_lt_zero _)
      | succ fuel ih =>
        intro i hfu hi
        refine r_iload_n (q := 34) (i := 2) (j := 2) (x := nI (i)) X rfl rfl dX7_rounds_33 rfl ?_
        refine r_iload_n (q := 35) (i := 1) (j := 1) (x := nI (m)) X rfl rfl dX7_rounds_34 rfl ?_
        refine r_icmp_ge (q := 38) (tgt := 131) X (by decide) dX7_rounds_35 rfl (fun c35 => ?_) (fun c35 => ?_)
        · replace c35 : m ≤ i := (nI_leI (by omega) (by omega)).mp c35
          refine r_aload_n (q := 132) (i := 0) (j := 0) (x := base + 44) X rfl rfl dX7_rounds_131 rfl ?_
          refine r_getf (q := 135) (i := 44) (v := .ref (base + 50)) X fk_X7_25 kh_44 rfl rfl dX7_rounds_132 rfl ?_
          refine r_iconst (q := 136) (v := nI 3) X kc_3 dX7_rounds_135 rfl ?_
          refine r_iald (q := 137) (i := 50) (j := 3) (v := (sr Mx 50 (prn7 Mx (Mx 44 4) (Lx 44) (cp12 (Mx 50) (Mx 49)) (i))) 50 3) X kh_50 (by omega) (Nat.le_of_ble_eq_true rfl) rfl dX7_rounds_136 rfl ?_
          refine r_aload_n (q := 138) (i := 0) (j := 0) (x := base + 44) X rfl rfl dX7_rounds_137 rfl ?_
          refine r_getf (q := 141) (i := 44) (v := .ref (base + 49)) X fk_X7_22 kh_44 rfl rfl dX7_rounds_138 rfl ?_
          refine r_iconst (q := 142) (v := nI 3) X kc_3 dX7_rounds_141 rfl ?_
          refine r_iald (q := 143) (i := 49) (j := 3) (v := (sr Mx 50 (prn7 Mx (Mx 44 4) (Lx 44) (cp12 (Mx 50) (Mx 49)) (i))) 49 3) X kh_49 (by omega) (Nat.le_of_ble_eq_true rfl) rfl dX7_rounds_142 rfl ?_
          refine r_isubR (q := 144) (x := nI ((sr Mx 50 (prn7 Mx (Mx 44 4) (Lx 44) (cp12 (Mx 50) (Mx 49)) (i))) 50 3)) (y := nI ((sr Mx 50 (prn7 Mx (Mx 44 4) (Lx 44) (cp12 (Mx 50) (Mx 49)) (i))) 49 3)) (v := nI (((sr Mx 50 (prn7 Mx (Mx 44 4) (Lx 44) (cp12 (Mx 50) (Mx 49)) (i))) 50 3) - ((sr Mx 50 (prn7 Mx (Mx 44 4) (Lx 44) (cp12 (Mx 50) (Mx 49)) (i))) 49 3))) X (pk_sub (prn7_joy Mx (Mx 44 4) (Lx 44) (cp12 (Mx 50) (Mx 49)) i)) dX7_rounds_143 rfl ?_
          refine r_iret X Y ?_ dX7_rounds_144
          obtain rfl : i = m := by omega
          exact Or.inr ⟨i, by omega, by omega, rfl, rfl, fun a ha => sr_o ha, rfl⟩
        · replace c35 : ¬ m ≤ i := fun h => c35 ((nI_leI (by omega) (by omega)).mpr h)
          refine r_aload_n (q := 39) (i := 0) (j := 0) (x := base + 44) X rfl rfl dX7_rounds_38 rfl ?_
          refine r_aload_n (q := 40) (i := 0) (j := 0) (x := base + 44) X rfl rfl dX7_rounds_39 rfl ?_
          refine r_getf (q := 43) (i := 44) (v := .long (sdn (Lx 44) i)) X fk_X7_191 kh_44 rfl (by show Value.long (upl Lx 44 (sdn (Lx 44) i) 44) = _; rw [upl_s]) dX7_rounds_40 rfl ?_
          refine r_ldc2 (q := 46) (v := 6364136223846793005) X kl_RX7_197 dX7_rounds_43 rfl ?_
          refine r_lmul (q := 47) X  dX7_rounds_46 rfl ?_
          refine r_ldc2 (q := 50) (v := 1442695040888963407) X kl_RX7_199 dX7_rounds_47 rfl ?_
          refine r_ladd (q := 51) X  dX7_rounds_50 rfl ?_
          refine r_putl (q := 54) (i := 44) (x := (sdn (Lx 44) (i + 1))) X fk_X7_191 kp_X7_22 kh_44 rfl (ks_ho (by decide)) dX7_rounds_51 rfl ?_
          refine r_lm (upl Lx 44 (sdn (Lx 44) (i + 1))) (upl_u _ _ _ _) ?_
          refine r_aload_n (q := 55) (i := 0) (j := 0) (x := base + 44) X rfl rfl dX7_rounds_54 rfl ?_
          refine r_getf (q := 58) (i := 44) (v := .long (sdn (Lx 44) (i + 1))) X fk_X7_191 kh_44 rfl (by show Value.long (upl Lx 44 (sdn (Lx 44) (i + 1)) 44) = _; rw [upl_s]) dX7_rounds_55 rfl ?_
          refine r_bipush (q := 60) (v := nI 33) X kb_33 dX7_rounds_58 rfl ?_
          refine r_lushr (q := 61) (v := (lN ((sdn (Lx 44) (i + 1)).toBitVec.toNat / 2 ^ 33))) X (kdf_sh _) dX7_rounds_60 rfl ?_
          refine r_ldc2 (q := 64) (v := 9) X kl_RX7_169 dX7_rounds_61 rfl ?_
          refine r_lrem (q := 65) X (by decide) dX7_rounds_64 rfl ?_
          rw [kdf_rm]
          refine r_l2i (q := 66) (v := nI (kdf (sdn (Lx 44) (i + 1)))) X (lN_i _) dX7_rounds_65 rfl ?_
          have hn6 := ok.2.1
          have hk9 := kdf_9 (sdn (Lx 44) (i + 1))
          have hro := prn7_ok (M := Mx) (s := Lx 44) ok.2.1 hok0 i
          refine r_istore_n (q := 67) (i := 3) (j := 3) X rfl (Nat.le_of_ble_eq_true rfl) dX7_rounds_66 rfl ?_
          refine r_iload_n (q := 68) (i := 3) (j := 3) (x := nI (kdf (sdn (Lx 44) (i + 1)))) X rfl rfl dX7_rounds_67 rfl ?_
          refine r_iconst (q := 69) (v := nI 3) X kc_3 dX7_rounds_68 rfl ?_
          refine r_icmp_ge (q := 72) (tgt := 101) X (by decide) dX7_rounds_69 rfl (fun c69 => ?_) (fun c69 => ?_)
          · replace c69 : 3 ≤ (kdf (sdn (Lx 44) (i + 1))) := (nI_leI (by omega) (by omega)).mp c69
            refine r_aload_n (q := 102) (i := 0) (j := 0) (x := base + 44) X rfl rfl dX7_rounds_101 rfl ?_
            refine r_iload_n (q := 103) (i := 3) (j := 3) (x := nI (kdf (sdn (Lx 44) (i + 1)))) X rfl rfl dX7_rounds_102 rfl ?_
            refine r_iconst (q := 104) (v := nI 3) X kc_3 dX7_rounds_103 rfl ?_
            refine r_isubR (q := 105) (x := nI (kdf (sdn (Lx 44) (i + 1)))) (y := nI 3) (v := nI ((kdf (sdn (Lx 44) (i + 1))) - 3)) X (pk_sub (by omega)) dX7_rounds_104 rfl ?_
            refine r_callVi (q := 108) X (c_noHouse K.2.1 G base (sr Mx 50 (prn7 Mx (Mx 44 4) (Lx 44) (cp12 (Mx 50) (Mx 49)) (i))) _ (nI ((kdf (sdn (Lx 44) (i + 1))) - 3)) (by rw [sr_o (by decide)]; exact ok.2.1)) kh_44 rfl ks_RX7_109 (by decide) (by decide) ⟨Nat.zero_le _, Nat.zero_le _⟩ rfl (Nat.le_of_ble_eq_true rfl) dX7_rounds_105 rfl (fun r M1 L1 hp => ?_)
            rw [show sr Mx 50 (prn7 Mx (Mx 44 4) (Lx 44) (cp12 (Mx 50) (Mx 49)) (i)) 44 = Mx 44 from sr_o (by decide)] at hp
            rcases hp with ⟨k, e1, hkn, hxe, hp2⟩ | ⟨e1, hno, hp2⟩
            · subst e1
              obtain ⟨e2, e3⟩ := hp2
              replace e2 := e2.symm
              subst e2
              replace e3 := e3.symm
              subst e3
              have hke := (kI_eq (by omega) (by omega)).mp hxe
              refine r_if_ne (q := 111) (tgt := 125) X (by decide) dX7_rounds_108 rfl (fun c => absurd c (by decide)) (fun _ => ?_)
              refine r_aload_n (q := 112) (i := 0) (j := 0) (x := base + 44) X rfl rfl dX7_rounds_111 rfl ?_
              refine r_getf (q := 115) (i := 44) (v := .ref (base + 50)) X fk_X7_25 kh_44 rfl rfl dX7_rounds_112 rfl ?_
              refine r_iconst (q := 116) (v := nI 4) X kc_4 dX7_rounds_115 rfl ?_
              refine r_dup2 (q := 117) X rfl rfl dX7_rounds_116 rfl ?_
              refine r_iald (q := 118) (i := 50) (j := 4) (v := (prn7 Mx (Mx 44 4) (Lx 44) (cp12 (Mx 50) (Mx 49)) (i)) 4) X kh_50 (by omega) (Nat.le_of_ble_eq_true rfl) (congrFun (sr_s _ _ _) _) dX7_rounds_117 rfl ?_
              refine r_iconst (q := 119) (v := nI 1) X kc_1 dX7_rounds_118 rfl ?_
              refine r_iload_n (q := 120) (i := 3) (j := 3) (x := nI (kdf (sdn (Lx 44) (i + 1)))) X rfl rfl dX7_rounds_119 rfl ?_
              refine r_iconst (q := 121) (v := nI 3) X kc_3 dX7_rounds_120 rfl ?_
              refine r_isubR (q := 122) (x := nI (kdf (sdn (Lx 44) (i + 1)))) (y := nI 3) (v := nI ((kdf (sdn (Lx 44) (i + 1))) - 3)) X (pk_sub (by omega)) dX7_rounds_121 rfl ?_
              refine r_ishlR (q := 123) (x := nI 1) (y := nI ((kdf (sdn (Lx 44) (i + 1))) - 3)) (v := nI (1 <<< ((kdf (sdn (Lx 44) (i + 1))) - 3))) X (k_shl (by omega)) dX7_rounds_122 rfl ?_
              refine r_ixorR (q := 124) (x := nI ((prn7 Mx (Mx 44 4) (Lx 44) (cp12 (Mx 50) (Mx 49)) (i)) 4)) (y := nI (1 <<< ((kdf (sdn (Lx 44) (i + 1))) - 3))) (v := nI (((prn7 Mx (Mx 44 4) (Lx 44) (cp12 (Mx 50) (Mx 49)) (i)) 4) ^^^ (1 <<< ((kdf (sdn (Lx 44) (i + 1))) - 3)))) X (fb_xorI _ _) dX7_rounds_123 rfl ?_
              refine r_iast (q := 125) (i := 50) (j := 4) (v := ((prn7 Mx (Mx 44 4) (Lx 44) (cp12 (Mx 50) (Mx 49)) (i)) 4) ^^^ (1 <<< ((kdf (sdn (Lx 44) (i + 1))) - 3))) X kh_50 (by omega) (Nat.le_of_ble_eq_true rfl) dX7_rounds_124 rfl ?_
              refine r_iinc (q := 128) (i := 2) (x := nI (i)) (v := nI (i + 1)) X rfl (Nat.le_of_ble_eq_true rfl) (kinc 1 rfl) dX7_rounds_125 rfl ?_
              refine r_goto (tgt := 33) X (by decide) dX7_rounds_128 ?_
              refine r_pl [(0, .ref (base + 44)), (1, .int (nI (m))), (2, .int (nI (i + 1)))] ⟨rfl, rfl, rfl, trivial⟩ ?_
              refine r_mem (sr Mx 50 (prn7 Mx (Mx 44 4) (Lx 44) (cp12 (Mx 50) (Mx 49)) (i + 1))) ?_ (ih (i + 1) (by omega) (by omega))
              show _ = sr Mx 50 (pr7 Mx (Mx 44 4) (prn7 Mx (Mx 44 4) (Lx 44) (cp12 (Mx 50) (Mx 49)) (i)) (kdf (sdn (Lx 44) (i + 1))))
              unfold pr7
              first
              | (rw [if_pos (by omega), if_pos (by omega)]; done)
              | (rw [if_pos (by omega), if_neg (by omega)]; done)
              | (rw [if_neg (by omega), if_pos (by omega), sr_up, sr_s, sr_sr]; done)
              | (rw [if_neg (by omega), if_neg (fun h => hno _ h rfl)]; done)
            · subst e1
              obtain ⟨e2, e3⟩ := hp2
              replace e2 := e2.symm
              subst e2
              replace e3 := e3.symm
              subst e3
              refine r_if_ne (q := 111) (tgt := 125) X (by decide) dX7_rounds_108 rfl (fun _ => ?_) (fun c => absurd c (by decide))
              refine r_iinc (q := 128) (i := 2) (x := nI (i)) (v := nI (i + 1)) X rfl (Nat.le_of_ble_eq_true rfl) (kinc 1 rfl) dX7_rounds_125 rfl ?_
              refine r_goto (tgt := 33) X (by decide) dX7_rounds_128 ?_
              refine r_pl [(0, .ref (base + 44)), (1, .int (nI (m))), (2, .int (nI (i + 1)))] ⟨rfl, rfl, rfl, trivial⟩ ?_
              refine r_mem (sr Mx 50 (prn7 Mx (Mx 44 4) (Lx 44) (cp12 (Mx 50) (Mx 49)) (i + 1))) ?_ (ih (i + 1) (by omega) (by omega))
              show _ = sr Mx 50 (pr7 Mx (Mx 44 4) (prn7 Mx (Mx 44 4) (Lx 44) (cp12 (Mx 50) (Mx 49)) (i)) (kdf (sdn (Lx 44) (i + 1))))
              unfold pr7
              first
              | (rw [if_pos (by omega), if_pos (by omega)]; done)
              | (rw [if_pos (by omega), if_neg (by omega)]; done)
              | (rw [if_neg (by omega), if_pos (by omega), sr_up, sr_s, sr_sr]; done)
              | (rw [if_neg (by omega), if_neg (fun h => hno _ h rfl)]; done)
          · replace c69 : ¬ 3 ≤ (kdf (sdn (Lx 44) (i + 1))) := fun h => c69 ((nI_leI (by omega) (by omega)).mpr h)
            refine r_aload_n (q := 73) (i := 0) (j := 0) (x := base + 44) X rfl rfl dX7_rounds_72 rfl ?_
            refine r_aload_n (q := 74) (i := 0) (j := 0) (x := base + 44) X rfl rfl dX7_rounds_73 rfl ?_
            refine r_getf (q := 77) (i := 44) (v := .ref (base + 50)) X fk_X7_25 kh_44 rfl rfl dX7_rounds_74 rfl ?_
            refine r_aload_n (q := 78) (i := 0) (j := 0) (x := base + 44) X rfl rfl dX7_rounds_77 rfl ?_
            refine r_aload_n (q := 79) (i := 0) (j := 0) (x := base + 44) X rfl rfl dX7_rounds_78 rfl ?_
            refine r_getf (q := 82) (i := 44) (v := .ref (base + 50)) X fk_X7_25 kh_44 rfl rfl dX7_rounds_79 rfl ?_
            refine r_iload_n (q := 83) (i := 3) (j := 3) (x := nI (kdf (sdn (Lx 44) (i + 1)))) X rfl rfl dX7_rounds_82 rfl ?_
            refine r_callVi (q := 86) X (c_can7 K.2.1 G base (sr Mx 50 (prn7 Mx (Mx 44 4) (Lx 44) (cp12 (Mx 50) (Mx 49)) (i))) _ 50 (kdf (sdn (Lx 44) (i + 1))) kh_50 (by omega) (by rw [sr_s]; have := hro.1; omega) (by rw [sr_s]; have := hro.2.2.1; omega) (by rw [sr_o (by decide)]; exact ok.2.1)) kh_44 rfl ks_RX7_121 (by decide) (by decide) ⟨Nat.zero_le _, Nat.zero_le _⟩ rfl (Nat.le_of_ble_eq_true rfl) dX7_rounds_83 rfl (fun r M1 L1 hp => ?_)
            rw [sr_s, show sr Mx 50 (prn7 Mx (Mx 44 4) (Lx 44) (cp12 (Mx 50) (Mx 49)) (i)) 44 = Mx 44 from sr_o (by decide)] at hp
            obtain ⟨e1, e2, e3⟩ := hp
            subst e1
            replace e2 := e2.symm
            subst e2
            replace e3 := e3.symm
            subst e3
            have hcn := cn7_2 (Mx 44 4) (prn7 Mx (Mx 44 4) (Lx 44) (cp12 (Mx 50) (Mx 49)) (i)) (kdf (sdn (Lx 44) (i + 1)))
            refine r_if_eq (q := 89) (tgt := 93) X (by decide) dX7_rounds_86 rfl (fun c86 => ?_) (fun c86 => ?_)
            · replace c86 : (cn7 (Mx 44 4) (prn7 Mx (Mx 44 4) (Lx 44) (cp12 (Mx 50) (Mx 49)) (i)) (kdf (sdn (Lx 44) (i + 1)))) = 0 := (kI_eq0 (by omega)).mp c86
              refine r_iconst (q := 94) (v := nI 3) X kc_3 dX7_rounds_93 rfl ?_
              refine r_callVi (q := 97) X (c_go7 K.2.1 G base (sr Mx 50 (prn7 Mx (Mx 44 4) (Lx 44) (cp12 (Mx 50) (Mx 49)) (i))) _ 50 3 kh_50 (by omega) (by rw [sr_s]; exact hro.1) (by rw [sr_s]; have := hro.2.2.2.1; omega) (by rw [sr_s]; have := hro.2.2.2.2.1; omega) (by rw [sr_s]; have := hro.2.2.2.2.2.1; omega) (by rw [sr_s]; have := hro.2.2.2.2.2.2 _ hro.1; omega) (fun q => (by rw [sr_o (by decide)]; have := ok.2.2.2.2.2.2.2.2.2.1 q; omega)) (fun q => (by rw [sr_o (by decide)]; have := ok.2.2.2.2.2.2.2.2.2.2 q; omega)) (fun h => absurd h (by decide)) (fun h => absurd h (by decide))) kh_44 rfl ks_RX7_128 (by decide) (by decide) ⟨Nat.zero_le _, Nat.zero_le _⟩ rfl (Nat.le_of_ble_eq_true rfl) dX7_rounds_94 rfl (fun r M1 L1 hp => ?_)
              rw [sr_s, gn7_eq (M := Mx) (sr_o (by decide)) (sr_o (by decide)), tk7_eq (M := Mx) (sr_o (by decide)) (sr_o (by decide)), sr_sr] at hp
              obtain ⟨e1, e2, e3⟩ := hp
              subst e1
              replace e2 := e2.symm
              subst e2
              replace e3 := e3.symm
              subst e3
              refine r_pop (q := 98) X rfl dX7_rounds_97 rfl ?_
              refine r_goto (tgt := 125) X (by decide) dX7_rounds_98 ?_
              refine r_iinc (q := 128) (i := 2) (x := nI (i)) (v := nI (i + 1)) X rfl (Nat.le_of_ble_eq_true rfl) (kinc 1 rfl) dX7_rounds_125 rfl ?_
              refine r_goto (tgt := 33) X (by decide) dX7_rounds_128 ?_
              refine r_pl [(0, .ref (base + 44)), (1, .int (nI (m))), (2, .int (nI (i + 1)))] ⟨rfl, rfl, rfl, trivial⟩ ?_
              refine r_mem (sr Mx 50 (prn7 Mx (Mx 44 4) (Lx 44) (cp12 (Mx 50) (Mx 49)) (i + 1))) ?_ (ih (i + 1) (by omega) (by omega))
              show _ = sr Mx 50 (pr7 Mx (Mx 44 4) (prn7 Mx (Mx 44 4) (Lx 44) (cp12 (Mx 50) (Mx 49)) (i)) (kdf (sdn (Lx 44) (i + 1))))
              unfold pr7
              first
              | (rw [if_pos (by omega), if_pos (by omega)]; done)
              | (rw [if_pos (by omega), if_neg (by omega)]; done)
              | (rw [if_neg (by omega), if_pos (by omega), sr_up, sr_s, sr_sr]; done)
              | (rw [if_neg (by omega), if_neg (fun h => hno _ h rfl)]; done)
            · replace c86 : ¬ (cn7 (Mx 44 4) (prn7 Mx (Mx 44 4) (Lx 44) (cp12 (Mx 50) (Mx 49)) (i)) (kdf (sdn (Lx 44) (i + 1)))) = 0 := fun h => (c86 ((kI_eq0 (by omega)).mpr h))
              refine r_iload_n (q := 90) (i := 3) (j := 3) (x := nI (kdf (sdn (Lx 44) (i + 1)))) X rfl rfl dX7_rounds_89 rfl ?_
              refine r_goto (tgt := 94) X (by decide) dX7_rounds_90 ?_
              refine r_callVi (q := 97) X (c_go7 K.2.1 G base (sr Mx 50 (prn7 Mx (Mx 44 4) (Lx 44) (cp12 (Mx 50) (Mx 49)) (i))) _ 50 (kdf (sdn (Lx 44) (i + 1))) kh_50 (by omega) (by rw [sr_s]; exact hro.1) (by rw [sr_s]; have := hro.2.2.2.1; omega) (by rw [sr_s]; have := hro.2.2.2.2.1; omega) (by rw [sr_s]; have := hro.2.2.2.2.2.1; omega) (by rw [sr_s]; have := hro.2.2.2.2.2.2 _ hro.1; omega) (fun q => (by rw [sr_o (by decide)]; have := ok.2.2.2.2.2.2.2.2.2.1 q; omega)) (fun q => (by rw [sr_o (by decide)]; have := ok.2.2.2.2.2.2.2.2.2.2 q; omega)) (fun h => by rw [sr_s]; have h9 : cn7 (Mx 44 4) (prn7 Mx (Mx 44 4) (Lx 44) (cp12 (Mx 50) (Mx 49)) (i)) (kdf (sdn (Lx 44) (i + 1))) = 1 := (by omega); rw [h] at h9; exact cn7_0 h9) (fun h => by rw [sr_s]; have h9 : cn7 (Mx 44 4) (prn7 Mx (Mx 44 4) (Lx 44) (cp12 (Mx 50) (Mx 49)) (i)) (kdf (sdn (Lx 44) (i + 1))) = 1 := (by omega); rw [h] at h9; exact cn7_look h9)) kh_44 rfl ks_RX7_128 (by decide) (by decide) ⟨Nat.zero_le _, Nat.zero_le _⟩ rfl (Nat.le_of_ble_eq_true rfl) dX7_rounds_94 rfl (fun r M1 L1 hp => ?_)
              rw [sr_s, gn7_eq (M := Mx) (sr_o (by decide)) (sr_o (by decide)), tk7_eq (M := Mx) (sr_o (by decide)) (sr_o (by decide)), sr_sr] at hp
              obtain ⟨e1, e2, e3⟩ := hp
              subst e1
              replace e2 := e2.symm
              subst e2
              replace e3 := e3.symm
              subst e3
              refine r_pop (q := 98) X rfl dX7_rounds_97 rfl ?_
              refine r_goto (tgt := 125) X (by decide) dX7_rounds_98 ?_
              refine r_iinc (q := 128) (i := 2) (x := nI (i)) (v := nI (i + 1)) X rfl (Nat.le_of_ble_eq_true rfl) (kinc 1 rfl) dX7_rounds_125 rfl ?_
              refine r_goto (tgt := 33) X (by decide) dX7_rounds_128 ?_
              refine r_pl [(0, .ref (base + 44)), (1, .int (nI (m))), (2, .int (nI (i + 1)))] ⟨rfl, rfl, rfl, trivial⟩ ?_
              refine r_mem (sr Mx 50 (prn7 Mx (Mx 44 4) (Lx 44) (cp12 (Mx 50) (Mx 49)) (i + 1))) ?_ (ih (i + 1) (by omega) (by omega))
              show _ = sr Mx 50 (pr7 Mx (Mx 44 4) (prn7 Mx (Mx 44 4) (Lx 44) (cp12 (Mx 50) (Mx 49)) (i)) (kdf (sdn (Lx 44) (i + 1))))
              unfold pr7
              first
              | (rw [if_pos (by omega), if_pos (by omega)]; done)
              | (rw [if_pos (by omega), if_neg (by omega)]; done)
              | (rw [if_neg (by omega), if_pos (by omega), sr_up, sr_s, sr_sr]; done)
              | (rw [if_neg (by omega), if_neg (fun h => hno _ h rfl)]; done)
    refine r_pl [(0, .ref (base + 44)), (1, .int (nI (m))), (2, .int (nI (0)))] ⟨rfl, rfl, rfl, trivial⟩ ?_
    exact r_lm _ (upl_id Lx 44) (lp 31 0 (by omega) (by omega))
  · subst e1
    obtain ⟨e2, e3⟩ := hp2
    replace e2 := e2.symm
    subst e2
    replace e3 := e3.symm
    subst e3
    rw [hk] at hin
    refine r_if_ne (q := 17) (tgt := 20) X (by decide) dX7_rounds_14 rfl (fun c => absurd c (by decide)) (fun _ => ?_)
    refine r_bipush (q := 19) (v := (-2)) X kb_m2 dX7_rounds_17 rfl ?_
    refine r_iret X Y ?_ dX7_rounds_19
    exact Or.inl ⟨rfl, fun m h1 h2 h3 => hin ⟨m, by omega, by omega, h3⟩, rfl, rfl⟩
