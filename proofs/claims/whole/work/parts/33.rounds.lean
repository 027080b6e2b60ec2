/-! ROUNDS by the seed: the class -/
theorem wb_tb (n : Nat) : (lN n).toBitVec = BitVec.ofNat 64 n := rfl
theorem wb_inj {a b : Int64} (h : a.toBitVec = b.toBitVec) : a = b := Int64.toBitVec_inj.mp h
theorem wb_tn {n : Nat} (h : n < 2 ^ 64) : (lN n).toBitVec.toNat = n := by rw [wb_tb, BitVec.toNat_ofNat, Nat.mod_eq_of_lt h]
theorem wb_of (x : Int64) : ∃ n, n < 2 ^ 64 ∧ x = lN n := ⟨x.toBitVec.toNat, x.toBitVec.isLt, wb_inj (by rw [wb_tb]; simp)⟩
theorem wb_of32 (x : Int32) : ∃ n, n < 2 ^ 32 ∧ x = nI n := ⟨x.toBitVec.toNat, x.toBitVec.isLt, Int32.toBitVec_inj.mp (by show _ = BitVec.ofNat 32 _; simp)⟩
theorem wb_c : ∀ k, k < 64 → ((nI k).toInt64 &&& 63) = lN k := by decide +kernel
theorem wb_cu : ∀ k, k < 64 → ((nI k).toInt64.toUInt64 &&& Int64.toUInt64 63) = UInt64.ofNat k := by decide +kernel
theorem wb_sm : ∀ k, k < 64 → (BitVec.ofNat 64 k).smod 64 = BitVec.ofNat 64 k := by decide +kernel
theorem wb_pw {a b : Nat} (h : a ≤ b) : 2 ^ b = 2 ^ a * 2 ^ (b - a) := by rw [← Nat.pow_add]; congr 1; omega
theorem wb_lt2 {a b : Nat} (h : a < b) : 2 ^ a < 2 ^ b := Nat.pow_lt_pow_right (by decide) h
theorem wb_mod (n : Nat) : lN n = lN (n % 2 ^ 64) := wb_inj (by rw [wb_tb, wb_tb]; apply BitVec.eq_of_toNat_eq; rw [BitVec.toNat_ofNat, BitVec.toNat_ofNat, Nat.mod_mod])
theorem wb_shr {n k : Nat} (hn : n < 2 ^ 64) (hk : k < 64) : ((lN n).toUInt64 >>> ((nI k).toInt64.toUInt64 &&& Int64.toUInt64 63)).toInt64 = lN (n / 2 ^ k) := by
  rw [wb_cu k hk]
  apply wb_inj
  apply BitVec.eq_of_toNat_eq
  show ((lN n).toUInt64 >>> UInt64.ofNat k).toNat = (BitVec.ofNat 64 _).toNat
  have h1 : (UInt64.ofNat k).toNat = k := by
    show (BitVec.ofNat 64 k).toNat = k
    rw [BitVec.toNat_ofNat, Nat.mod_eq_of_lt (by omega)]
  have h2 : (lN n).toUInt64.toNat = n := wb_tn hn
  rw [UInt64.toNat_shiftRight, h1, h2, Nat.mod_eq_of_lt hk, Nat.shiftRight_eq_div_pow, BitVec.toNat_ofNat, Nat.mod_eq_of_lt (Nat.lt_of_le_of_lt (Nat.div_le_self _ _) hn)]
theorem r_lm {K : ks_Cx} {G : ks_G} {base nL cells slots : Nat} {sh : List ks_S} {M : ks_M} {L : ks_L} {pc : Nat} {pl : List (Nat × Value)} {st : List Value} (L' : ks_L) (hL : L = L') (k : RN K G base nL cells slots sh M L' pc pl st) : RN K G base nL cells slots sh M L pc pl st := hL ▸ k
theorem upl_s (L : ks_L) (i : Nat) (v : Int64) : upl L i v i = v := by simp [upl]
theorem upl_u (L : ks_L) (i : Nat) (v w : Int64) : upl (upl L i v) i w = upl L i w := by funext a; by_cases h : a = i <;> simp [upl, h]
theorem upl_id (L : ks_L) (i : Nat) : L = upl L i (L i) := by
  funext a
  by_cases h : a = i
  · subst h; simp [upl]
  · simp [upl, h]
def kdf (s : Int64) : Nat := s.toBitVec.toNat / 2 ^ 33 % 9
theorem kdf_9 (s : Int64) : kdf s < 9 := Nat.mod_lt _ (by decide)
theorem kdf_sh (s : Int64) : (s.toUInt64 >>> ((nI 33).toInt64.toUInt64 &&& Int64.toUInt64 63)).toInt64 = lN (s.toBitVec.toNat / 2 ^ 33) := by
  obtain ⟨n, hn, rfl⟩ := wb_of s
  rw [wb_shr hn (by decide : 33 < 64), wb_tn hn]
theorem kdf_rm (s : Int64) : lN (s.toBitVec.toNat / 2 ^ 33) - lN (s.toBitVec.toNat / 2 ^ 33) / 9 * 9 = lN (kdf s) := by
  have h := s.toBitVec.isLt
  exact pk_lRem (a := s.toBitVec.toNat / 2 ^ 33) (b := 9) (by omega) (by decide) (by decide)
def nxs (s : Int64) : Int64 := s * 6364136223846793005 + 1442695040888963407
def pr (S : Nat → Nat) (n : Nat) (x : Nat → Nat) (kd : Nat) : Nat → Nat := if kd < 3 then tk S x (if cn n x kd = 1 then kd else 3) else if kd - 3 < n then up1 x 4 (x 4 ^^^ 1 <<< (kd - 3)) else x
theorem cn_3 (n : Nat) (x : Nat → Nat) : cn n x 3 = 1 := rfl
theorem pr_ok {n B kd : Nat} {S x : Nat → Nat} (hn : n ≤ 6) (h : rok n B x) (hk : kd < 9) : rok n (B + 1) (pr S n x kd) := by
  unfold pr
  split
  · split
    · exact tk_ok hn h (by assumption) (by omega)
    · exact tk_ok hn h (cn_3 n x) (by decide)
  · split
    · obtain ⟨h0, h0n, h1, h2, h4, h5, h6⟩ := h
      have hx := kx64 (k := kd - 3) h4 (by omega)
      exact ⟨h0, h0n, h1, by show x 2 ≤ _; omega, hx, h5, h6⟩
    · obtain ⟨h0, h0n, h1, h2, h4, h5, h6⟩ := h
      exact ⟨h0, h0n, h1, by omega, h4, h5, h6⟩
theorem tk_joy (S x : Nat → Nat) (t : Nat) : x 3 ≤ tk S x t 3 := by
  unfold tk
  (repeat' split) <;> simp [up1]
theorem pr_joy (S : Nat → Nat) (n : Nat) (x : Nat → Nat) (kd : Nat) : x 3 ≤ pr S n x kd 3 := by
  unfold pr
  (repeat' split) <;> first | exact tk_joy S x _ | simp [up1]
def sdn (s : Int64) : Nat → Int64
  | 0 => s
  | i + 1 => nxs (sdn s i)
def prn (S : Nat → Nat) (n : Nat) (s : Int64) (X : Nat → Nat) : Nat → Nat → Nat
  | 0 => X
  | i + 1 => pr S n (prn S n s X i) (kdf (sdn s (i + 1)))
theorem prn_ok {n B : Nat} {S X : Nat → Nat} {s : Int64} (hn : n ≤ 6) (h : rok n B X) : ∀ i, rok n (B + i) (prn S n s X i)
  | 0 => h
  | i + 1 => pr_ok hn (prn_ok hn h i) (kdf_9 _)
theorem prn_joy (S : Nat → Nat) (n : Nat) (s : Int64) (X : Nat → Nat) : ∀ i, X 3 ≤ prn S n s X i 3
  | 0 => Nat.le_refl _
  | i + 1 => Nat.le_trans (prn_joy S n s X i) (pr_joy _ _ _ _)
set_option maxHeartbeats 8000000 in
theorem c_playRound (l : Launch) (G : ks_G) (base : Nat) (Mx : ks_M) (Lx : ks_L) (kd B : Nat) (hk : kd < 9) (ok8 : rok (Mx 3 3) B (Mx 8)) (hB : B < 200000) (hn : Mx 3 3 ≤ 6) : KV l G base 3 0 0 yX6_playRound cX6_playRound 2 [.ref (base + 0), .int (nI (kd))] SH SH Mx Lx (fun M1 L1 => M1 = sr Mx 8 (pr (Mx 6) (Mx 3 3) (Mx 8) kd) ∧ L1 = Lx) := by
  refine k_metv (by decide) (Nat.le_of_ble_eq_true rfl) (fun K hK hRm X Y => ?_)
  subst hK
  refine r_pl [(0, .ref (base + 0)), (1, .int (nI (kd)))] ⟨rfl, rfl, trivial⟩ ?_
  refine r_iload_n (q := 1) (i := 1) (j := 1) (x := nI (kd)) X rfl rfl dX6_playRound_0 rfl ?_
  refine r_iconst (q := 2) (v := nI 3) X kc_3 dX6_playRound_1 rfl ?_
  refine r_icmp_ge (q := 5) (tgt := 40) X (by decide) dX6_playRound_2 rfl (fun c2 => ?_) (fun c2 => ?_)
  · replace c2 : 3 ≤ kd := (nI_leI (by omega) (by omega)).mp c2
    refine r_aload_n (q := 41) (i := 0) (j := 0) (x := base + 0) X rfl rfl dX6_playRound_40 rfl ?_
    refine r_getf (q := 44) (i := 0) (v := .ref (base + 3)) X fk_X6_19 kh_0 rfl rfl dX6_playRound_41 rfl ?_
    refine r_iload_n (q := 45) (i := 1) (j := 1) (x := nI (kd)) X rfl rfl dX6_playRound_44 rfl ?_
    refine r_iconst (q := 46) (v := nI 3) X kc_3 dX6_playRound_45 rfl ?_
    refine r_isubR (q := 47) (x := nI (kd)) (y := nI 3) (v := nI (kd - 3)) X (pk_sub (by omega)) dX6_playRound_46 rfl ?_
    refine r_callVi (q := 50) X (c_has6 K.2.1 G base Mx Lx (nI (kd - 3)) hn) kh_3 rfl ks_RX6_116 (by decide) (by decide) ⟨Nat.zero_le _, Nat.zero_le _⟩ rfl (Nat.le_of_ble_eq_true rfl) dX6_playRound_47 rfl (fun r M1 L1 hp => ?_)
    rcases hp with ⟨k, e1, hkn, hxe, hp2⟩ | ⟨e1, hno, hp2⟩
    · subst e1
      obtain ⟨e2, e3⟩ := hp2
      replace e2 := e2.symm
      subst e2
      replace e3 := e3.symm
      subst e3
      have hke := (kI_eq (by omega) (by omega)).mp hxe
      refine r_if_eq (q := 53) (tgt := 70) X (by decide) dX6_playRound_50 rfl (fun c => absurd c (by decide)) (fun _ => ?_)
      refine r_aload_n (q := 54) (i := 0) (j := 0) (x := base + 0) X rfl rfl dX6_playRound_53 rfl ?_
      refine r_getf (q := 57) (i := 0) (v := .ref (base + 8)) X fk_X6_30 kh_0 rfl rfl dX6_playRound_54 rfl ?_
      refine r_dup (q := 58) X rfl dX6_playRound_57 rfl ?_
      refine r_getf (q := 61) (i := 8) (v := .int (nI (Mx 8 4))) X fk_X6_109 kh_8 rfl rfl dX6_playRound_58 rfl ?_
      refine r_iconst (q := 62) (v := nI 1) X kc_1 dX6_playRound_61 rfl ?_
      refine r_iload_n (q := 63) (i := 1) (j := 1) (x := nI (kd)) X rfl rfl dX6_playRound_62 rfl ?_
      refine r_iconst (q := 64) (v := nI 3) X kc_3 dX6_playRound_63 rfl ?_
      refine r_isubR (q := 65) (x := nI (kd)) (y := nI 3) (v := nI (kd - 3)) X (pk_sub (by omega)) dX6_playRound_64 rfl ?_
      refine r_ishlR (q := 66) (x := nI 1) (y := nI (kd - 3)) (v := nI (1 <<< (kd - 3))) X (k_shl (by omega)) dX6_playRound_65 rfl ?_
      refine r_ixorR (q := 67) (x := nI (Mx 8 4)) (y := nI (1 <<< (kd - 3))) (v := nI ((Mx 8 4) ^^^ (1 <<< (kd - 3)))) X (fb_xorI _ _) dX6_playRound_66 rfl ?_
      refine r_puti (q := 70) (i := 8) (n := (Mx 8 4) ^^^ (1 <<< (kd - 3))) X fk_X6_109 kp_X3_4 kh_8 rfl dX6_playRound_67 rfl ?_
      refine r_vret X Y ?_ dX6_playRound_70
      refine ⟨?_, rfl⟩
      unfold pr
      first
      | (rw [if_pos (by omega), if_pos (by omega)]; done)
      | (rw [if_pos (by omega), if_neg (by omega)]; done)
      | (rw [if_neg (by omega), if_pos (by omega)]; exact sr_up Mx 8 4 _)
      | (rw [if_neg (by omega), if_neg (fun h => hno _ h rfl)]; exact (sr_id Mx 8).symm)
    · subst e1
      obtain ⟨e2, e3⟩ := hp2
      replace e2 := e2.symm
      subst e2
      replace e3 := e3.symm
      subst e3
      refine r_if_eq (q := 53) (tgt := 70) X (by decide) dX6_playRound_50 rfl (fun _ => ?_) (fun c => absurd c (by decide))
      refine r_vret X Y ?_ dX6_playRound_70
      refine ⟨?_, rfl⟩
      unfold pr
      first
      | (rw [if_pos (by omega), if_pos (by omega)]; done)
      | (rw [if_pos (by omega), if_neg (by omega)]; done)
      | (rw [if_neg (by omega), if_pos (by omega)]; exact sr_up Mx 8 4 _)
      | (rw [if_neg (by omega), if_neg (fun h => hno _ h rfl)]; exact (sr_id Mx 8).symm)
  · replace c2 : ¬ 3 ≤ kd := fun h => c2 ((nI_leI (by omega) (by omega)).mpr h)
    refine r_aload_n (q := 6) (i := 0) (j := 0) (x := base + 0) X rfl rfl dX6_playRound_5 rfl ?_
    refine r_getf (q := 9) (i := 0) (v := .ref (base + 8)) X fk_X6_30 kh_0 rfl rfl dX6_playRound_6 rfl ?_
    refine r_aload_n (q := 10) (i := 0) (j := 0) (x := base + 0) X rfl rfl dX6_playRound_9 rfl ?_
    refine r_getf (q := 13) (i := 0) (v := .ref (base + 3)) X fk_X6_19 kh_0 rfl rfl dX6_playRound_10 rfl ?_
    refine r_aload_n (q := 14) (i := 0) (j := 0) (x := base + 0) X rfl rfl dX6_playRound_13 rfl ?_
    refine r_getf (q := 17) (i := 0) (v := .ref (base + 8)) X fk_X6_30 kh_0 rfl rfl dX6_playRound_14 rfl ?_
    refine r_aload_n (q := 18) (i := 0) (j := 0) (x := base + 0) X rfl rfl dX6_playRound_17 rfl ?_
    refine r_getf (q := 21) (i := 0) (v := .ref (base + 3)) X fk_X6_19 kh_0 rfl rfl dX6_playRound_18 rfl ?_
    refine r_iload_n (q := 22) (i := 1) (j := 1) (x := nI (kd)) X rfl rfl dX6_playRound_21 rfl ?_
    refine r_callVi (q := 25) X (c_can K.2.1 G base Mx Lx 8 kh_8 kd (by omega) (by have := ok8.1; omega) (by have := ok8.2.2.1; omega) (by omega)) kh_8 rfl ks_RX6_135 (by decide) (by decide) ⟨Nat.zero_le _, Nat.zero_le _⟩ rfl (Nat.le_of_ble_eq_true rfl) dX6_playRound_22 rfl (fun r M1 L1 hp => ?_)
    obtain ⟨e1, e2, e3⟩ := hp
    subst e1
    replace e2 := e2.symm
    subst e2
    replace e3 := e3.symm
    subst e3
    have hcn := cn_2 (Mx 3 3) (Mx 8) kd
    refine r_if_eq (q := 28) (tgt := 32) X (by decide) dX6_playRound_25 rfl (fun c25 => ?_) (fun c25 => ?_)
    · replace c25 : (cn (Mx 3 3) (Mx 8) kd) = 0 := (kI_eq0 (by omega)).mp c25
      refine r_iconst (q := 33) (v := nI 3) X kc_3 dX6_playRound_32 rfl ?_
      refine r_callVi (q := 36) X (c_take K.2.1 G base Mx Lx 8 kh_8 3 (by omega) ok8.1 (by have := ok8.2.2.2.1; omega) (by have := ok8.2.2.2.2.1; omega) (by have := ok8.2.2.2.2.2.1; omega) (by have := ok8.2.2.2.2.2.2; omega) (fun h => absurd h (by decide)) (fun h => absurd h (by decide))) kh_8 rfl ks_RX6_149 (by decide) (by decide) ⟨Nat.zero_le _, Nat.zero_le _⟩ rfl (Nat.le_of_ble_eq_true rfl) dX6_playRound_33 rfl (fun r M1 L1 hp => ?_)
      obtain ⟨e1, e2, e3⟩ := hp
      subst e1
      replace e2 := e2.symm
      subst e2
      replace e3 := e3.symm
      subst e3
      refine r_pop (q := 37) X rfl dX6_playRound_36 rfl ?_
      refine r_goto (tgt := 70) X (by decide) dX6_playRound_37 ?_
      refine r_vret X Y ?_ dX6_playRound_70
      refine ⟨?_, rfl⟩
      unfold pr
      first
      | (rw [if_pos (by omega), if_pos (by omega)]; done)
      | (rw [if_pos (by omega), if_neg (by omega)]; done)
      | (rw [if_neg (by omega), if_pos (by omega)]; exact sr_up Mx 8 4 _)
      | (rw [if_neg (by omega), if_neg (fun h => hno _ h rfl)]; exact (sr_id Mx 8).symm)
    · replace c25 : ¬ (cn (Mx 3 3) (Mx 8) kd) = 0 := fun h => (c25 ((kI_eq0 (by omega)).mpr h))
      refine r_iload_n (q := 29) (i := 1) (j := 1) (x := nI (kd)) X rfl rfl dX6_playRound_28 rfl ?_
      refine r_goto (tgt := 33) X (by decide) dX6_playRound_29 ?_
      refine r_callVi (q := 36) X (c_take K.2.1 G base Mx Lx 8 kh_8 kd (by omega) ok8.1 (by have := ok8.2.2.2.1; omega) (by have := ok8.2.2.2.2.1; omega) (by have := ok8.2.2.2.2.2.1; omega) (by have := ok8.2.2.2.2.2.2; omega) (fun h => cn_0 (n := Mx 3 3) (by have h9 : cn (Mx 3 3) (Mx 8) kd = 1 := (by omega); rw [h] at h9; exact h9)) (fun h => cn_look (n := Mx 3 3) (by have h9 : cn (Mx 3 3) (Mx 8) kd = 1 := (by omega); rw [h] at h9; exact h9))) kh_8 rfl ks_RX6_149 (by decide) (by decide) ⟨Nat.zero_le _, Nat.zero_le _⟩ rfl (Nat.le_of_ble_eq_true rfl) dX6_playRound_33 rfl (fun r M1 L1 hp => ?_)
      obtain ⟨e1, e2, e3⟩ := hp
      subst e1
      replace e2 := e2.symm
      subst e2
      replace e3 := e3.symm
      subst e3
      refine r_pop (q := 37) X rfl dX6_playRound_36 rfl ?_
      refine r_goto (tgt := 70) X (by decide) dX6_playRound_37 ?_
      refine r_vret X Y ?_ dX6_playRound_70
      refine ⟨?_, rfl⟩
      unfold pr
      first
      | (rw [if_pos (by omega), if_pos (by omega)]; done)
      | (rw [if_pos (by omega), if_neg (by omega)]; done)
      | (rw [if_neg (by omega), if_pos (by omega)]; exact sr_up Mx 8 4 _)
      | (rw [if_neg (by omega), if_neg (fun h => hno _ h rfl)]; exact (sr_id Mx 8).symm)
set_option maxHeartbeats 8000000 in
theorem c6_rounds (l : Launch) (G : ks_G) (base : Nat) (Mx : ks_M) (Lx : ks_L) (x : Int32) (ok : okN Mx) (hn : Mx 3 3 ≤ 6) (h0n : Mx 7 0 < Mx 3 3 ∨ Mx 7 0 = 0) : KI l G base 4 yX6_rounds cX6_rounds 3 .int [.ref (base + 0), .int (x)] SH Mx Lx (fun rr M1 L1 => (rr = (-2) ∧ (∀ m, 1 ≤ m → m ≤ 30 → x ≠ nI m) ∧ M1 = Mx ∧ L1 = Lx) ∨ (∃ m, 1 ≤ m ∧ m ≤ 30 ∧ x = nI m ∧ rr = nI ((prn (Mx 6) (Mx 3 3) (Lx 0) (cp7 (Mx 8) (Mx 7)) (m)) 3 - Mx 7 3) ∧ (∀ a, a ≠ 8 → M1 a = Mx a) ∧ L1 = upl Lx 0 (sdn (Lx 0) m))) := by
  refine k_meti (by decide) (Nat.le_of_ble_eq_true rfl) (fun K hK X Y => ?_)
  subst hK
  refine r_pl [(0, .ref (base + 0)), (1, .int (x))] ⟨rfl, rfl, trivial⟩ ?_
  refine r_iload_n (q := 1) (i := 1) (j := 1) (x := x) X rfl rfl dX6_rounds_0 rfl ?_
  refine r_iconst (q := 2) (v := nI 1) X kc_1 dX6_rounds_1 rfl ?_
  refine r_icmp_lt (q := 5) (tgt := 11) X (by decide) dX6_rounds_2 rfl (fun c2 => ?_) (fun c2 => ?_)
  · skip
    refine r_bipush (q := 13) (v := (-2)) X kb_m2 dX6_rounds_11 rfl ?_
    refine r_iret X Y ?_ dX6_rounds_13
    exact Or.inl ⟨rfl, fun m2 h1 h2 h3 => by subst h3; have := (nI_ltI (by omega) (by omega)).mp c2; omega, rfl, rfl⟩
  · skip
    obtain ⟨m, hm9, rfl⟩ : ∃ n, n < 2147483648 ∧ x = nI n := by
      obtain ⟨n, h1, h2⟩ := nI_of (x := x) (fun h => c2 (fa_lt0 h))
      exact ⟨n, h1, h2⟩
    replace c2 : ¬ m < 1 := fun h => c2 ((nI_ltI (by omega) (by omega)).mpr h)
    refine r_iload_n (q := 6) (i := 1) (j := 1) (x := nI (m)) X rfl rfl dX6_rounds_5 rfl ?_
    refine r_bipush (q := 8) (v := nI 30) X kb_30 dX6_rounds_6 rfl ?_
    refine r_icmp_le (q := 11) (tgt := 14) X (by decide) dX6_rounds_8 rfl (fun c8 => ?_) (fun c8 => ?_)
    · replace c8 : m ≤ 30 := (nI_leI (by omega) (by omega)).mp c8
      refine r_aload_n (q := 15) (i := 0) (j := 0) (x := base + 0) X rfl rfl dX6_rounds_14 rfl ?_
      refine r_getf (q := 18) (i := 0) (v := .ref (base + 8)) X fk_X6_30 kh_0 rfl rfl dX6_rounds_15 rfl ?_
      refine r_aload_n (q := 19) (i := 0) (j := 0) (x := base + 0) X rfl rfl dX6_rounds_18 rfl ?_
      refine r_getf (q := 22) (i := 0) (v := .ref (base + 7)) X fk_X6_26 kh_0 rfl rfl dX6_rounds_19 rfl ?_
      refine r_callVv (q := 25) X (c_copy K.2.1 G base Mx Lx 8 kh_8 7 kh_7 (by decide)) kh_8 rfl ks_RX6_172 (by decide) (by decide) ⟨Nat.zero_le _, Nat.zero_le _⟩ rfl (Nat.le_of_ble_eq_true rfl) dX6_rounds_22 rfl (fun M1 L1 hp => ?_)
      obtain ⟨e2, e3⟩ := hp
      replace e2 := e2.symm
      subst e2
      replace e3 := e3.symm
      subst e3
      refine r_iconst (q := 26) (v := nI 0) X kc_0 dX6_rounds_25 rfl ?_
      refine r_istore_n (q := 27) (i := 2) (j := 2) X rfl (Nat.le_of_ble_eq_true rfl) dX6_rounds_26 rfl ?_
      have hok0 : rok (Mx 3 3) 100000 (cp7 (Mx 8) (Mx 7)) := cp7_ok (okN_rok ok h0n)
      have lp : ∀ (fuel : Nat) (i : Nat), m - i < fuel → (i ≤ m) → RN K G base 3 0 0 SH (sr Mx 8 (prn (Mx 6) (Mx 3 3) (Lx 0) (cp7 (Mx 8) (Mx 7)) (i))) (upl Lx 0 (sdn (Lx 0) (i))) 27 [(0, .ref (base + 0)), (1, .int (nI (m))), (2, .int (nI (i)))] [] := by
        intro fuel
        induction fuel with
        | zero => intro i hfu; exact absurd hfu (Nat.not_lt_zero _)
        | succ fuel ih =>
          intro i hfu hi
          refine r_iload_n (q := 28) (i := 2) (j := 2) (x := nI (i)) X rfl rfl dX6_rounds_27 rfl ?_
          refine r_iload_n (q := 29) (i := 1) (j := 1) (x := nI (m)) X rfl rfl dX6_rounds_28 rfl ?_
          refine r_icmp_ge (q := 32) (tgt := 70) X (by decide) dX6_rounds_29 rfl (fun c29 => ?_) (fun c29 => ?_)
          · replace c29 : m ≤ i := (nI_leI (by omega) (by omega)).mp c29
            refine r_aload_n (q := 71) (i := 0) (j := 0) (x := base + 0) X rfl rfl dX6_rounds_70 rfl ?_
            refine r_getf (q := 74) (i := 0) (v := .ref (base + 8)) X fk_X6_30 kh_0 rfl rfl dX6_rounds_71 rfl ?_
            refine r_getf (q := 77) (i := 8) (v := .int (nI ((prn (Mx 6) (Mx 3 3) (Lx 0) (cp7 (Mx 8) (Mx 7)) (i)) 3))) X fk_X6_106 kh_8 rfl (kv (congrFun (sr_s _ _ _) _)) dX6_rounds_74 rfl ?_
            refine r_aload_n (q := 78) (i := 0) (j := 0) (x := base + 0) X rfl rfl dX6_rounds_77 rfl ?_
            refine r_getf (q := 81) (i := 0) (v := .ref (base + 7)) X fk_X6_26 kh_0 rfl rfl dX6_rounds_78 rfl ?_
            refine r_getf (q := 84) (i := 7) (v := .int (nI (Mx 7 3))) X fk_X6_106 kh_7 rfl (kv (congrFun (sr_o (by decide)) _)) dX6_rounds_81 rfl ?_
            refine r_isubR (q := 85) (x := nI ((prn (Mx 6) (Mx 3 3) (Lx 0) (cp7 (Mx 8) (Mx 7)) (i)) 3)) (y := nI (Mx 7 3)) (v := nI (((prn (Mx 6) (Mx 3 3) (Lx 0) (cp7 (Mx 8) (Mx 7)) (i)) 3) - (Mx 7 3))) X (pk_sub (prn_joy (Mx 6) (Mx 3 3) (Lx 0) (cp7 (Mx 8) (Mx 7)) i)) dX6_rounds_84 rfl ?_
            refine r_iret X Y ?_ dX6_rounds_85
            obtain rfl : i = m := by omega
            exact Or.inr ⟨i, by omega, by omega, rfl, rfl, fun a ha => sr_o ha, rfl⟩
          · replace c29 : ¬ m ≤ i := fun h => c29 ((nI_leI (by omega) (by omega)).mpr h)
            refine r_aload_n (q := 33) (i := 0) (j := 0) (x := base + 0) X rfl rfl dX6_rounds_32 rfl ?_
            refine r_aload_n (q := 34) (i := 0) (j := 0) (x := base + 0) X rfl rfl dX6_rounds_33 rfl ?_
            refine r_getf (q := 37) (i := 0) (v := .long (sdn (Lx 0) i)) X fk_X6_70 kh_0 rfl (by show Value.long (upl Lx 0 (sdn (Lx 0) i) 0) = _; rw [upl_s]) dX6_rounds_34 rfl ?_
            refine r_ldc2 (q := 40) (v := 6364136223846793005) X kl_RX6_210 dX6_rounds_37 rfl ?_
            refine r_lmul (q := 41) X  dX6_rounds_40 rfl ?_
            refine r_ldc2 (q := 44) (v := 1442695040888963407) X kl_RX6_212 dX6_rounds_41 rfl ?_
            refine r_ladd (q := 45) X  dX6_rounds_44 rfl ?_
            refine r_putl (q := 48) (i := 0) (x := sdn (Lx 0) (i + 1)) X fk_X6_70 kp_X6_10 kh_0 rfl (ks_ho (by decide)) dX6_rounds_45 rfl ?_
            refine r_lm (upl Lx 0 (sdn (Lx 0) (i + 1))) (upl_u _ _ _ _) ?_
            refine r_aload_n (q := 49) (i := 0) (j := 0) (x := base + 0) X rfl rfl dX6_rounds_48 rfl ?_
            refine r_aload_n (q := 50) (i := 0) (j := 0) (x := base + 0) X rfl rfl dX6_rounds_49 rfl ?_
            refine r_getf (q := 53) (i := 0) (v := .long (sdn (Lx 0) (i + 1))) X fk_X6_70 kh_0 rfl (by show Value.long (upl Lx 0 (sdn (Lx 0) (i + 1)) 0) = _; rw [upl_s]) dX6_rounds_50 rfl ?_
            refine r_bipush (q := 55) (v := nI 33) X kb_33 dX6_rounds_53 rfl ?_
            refine r_lushr (q := 56) (v := lN ((sdn (Lx 0) (i + 1)).toBitVec.toNat / 2 ^ 33)) X (kdf_sh _) dX6_rounds_55 rfl ?_
            refine r_ldc2 (q := 59) (v := 9) X kl_RX6_214 dX6_rounds_56 rfl ?_
            refine r_lrem (q := 60) X (by decide) dX6_rounds_59 rfl ?_
            rw [kdf_rm]
            refine r_l2i (q := 61) (v := nI (kdf (sdn (Lx 0) (i + 1)))) X (lN_i _) dX6_rounds_60 rfl ?_
            refine r_callVv (q := 64) X (c_playRound K.2.1 G base (sr Mx 8 (prn (Mx 6) (Mx 3 3) (Lx 0) (cp7 (Mx 8) (Mx 7)) (i))) (upl Lx 0 (sdn (Lx 0) (i + 1))) (kdf (sdn (Lx 0) (i + 1))) (100000 + i) (kdf_9 _) (by rw [sr_s, sr_o (by decide)]; exact prn_ok hn hok0 i) (by omega) (by rw [sr_o (by decide)]; exact hn)) kh_0 rfl ks_RX6_216 (by decide) (by decide) ⟨Nat.zero_le _, Nat.zero_le _⟩ rfl (Nat.le_of_ble_eq_true rfl) dX6_rounds_61 rfl (fun M1 L1 hp => ?_)
            rw [sr_s, sr_sr, show (sr Mx 8 (prn (Mx 6) (Mx 3 3) (Lx 0) (cp7 (Mx 8) (Mx 7)) (i))) 6 = Mx 6 from sr_o (by decide), show (sr Mx 8 (prn (Mx 6) (Mx 3 3) (Lx 0) (cp7 (Mx 8) (Mx 7)) (i))) 3 = Mx 3 from sr_o (by decide)] at hp
            obtain ⟨e2, e3⟩ := hp
            replace e2 := e2.symm
            subst e2
            replace e3 := e3.symm
            subst e3
            refine r_iinc (q := 67) (i := 2) (x := nI (i)) (v := nI (i + 1)) X rfl (Nat.le_of_ble_eq_true rfl) (kinc 1 rfl) dX6_rounds_64 rfl ?_
            refine r_goto (tgt := 27) X (by decide) dX6_rounds_67 ?_
            refine r_pl [(0, .ref (base + 0)), (1, .int (nI (m))), (2, .int (nI (i + 1)))] ⟨rfl, rfl, rfl, trivial⟩ ?_
            exact ih (i + 1) (by omega) (by omega)
      refine r_pl [(0, .ref (base + 0)), (1, .int (nI (m))), (2, .int (nI (0)))] ⟨rfl, rfl, rfl, trivial⟩ ?_
      exact r_lm _ (upl_id Lx 0) (lp 31 0 (by omega) (by omega))
    · replace c8 : ¬ m ≤ 30 := fun h => c8 ((nI_leI (by omega) (by omega)).mpr h)
      refine r_bipush (q := 13) (v := (-2)) X kb_m2 dX6_rounds_11 rfl ?_
      refine r_iret X Y ?_ dX6_rounds_13
      exact Or.inl ⟨rfl, fun m2 h1 h2 h3 => by have := (kI_eq (by omega) (by omega)).mp h3; omega, rfl, rfl⟩
