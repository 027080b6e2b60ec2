/-! THE STANDS of the class -/
theorem kv {base : Nat} {f : Nat → Nat} {x : Int64} {k z a : Nat} (h : f k = a) : ks_v base f x k (0, z) = .int (nI a) := by subst h; rfl
theorem kTab (lo hi : Nat) (hhi : hi < 2147483648) (x : Int32) : (∃ j, lo ≤ j ∧ j ≤ hi ∧ x = nI j) ∨ (x.toInt < lo ∨ (hi : Int) < x.toInt) := by
  by_cases h1 : x.toInt < lo
  · exact Or.inr (Or.inl h1)
  · by_cases h2 : (hi : Int) < x.toInt
    · exact Or.inr (Or.inr h2)
    · refine Or.inl ⟨x.toInt.toNat, by omega, by omega, ?_⟩
      apply Int32.toInt_inj.mp
      rw [nI_toInt (by omega)]
      omega
theorem kOutH {n hi : Nat} (h : n < 2147483648) (h2 : hi < n) : ((hi : Nat) : Int) < (nI n).toInt := by rw [nI_toInt h]; omega
theorem kOutL {n lo : Nat} (h : n < 2147483648) (h2 : n < lo) : (nI n).toInt < ((lo : Nat) : Int) := by rw [nI_toInt h]; omega
theorem k_not {k : Nat} (h : k < 4294967296) : nI k ^^^ (-1) = nI (4294967295 - k) := by
  apply Int32.toBitVec_inj.mp
  show BitVec.ofNat 32 k ^^^ BitVec.allOnes 32 = BitVec.ofNat 32 (4294967295 - k)
  rw [BitVec.xor_allOnes]
  apply BitVec.eq_of_toNat_eq
  rw [BitVec.toNat_not, BitVec.toNat_ofNat, BitVec.toNat_ofNat]
  omega
def bt (x : Nat → Nat) : Nat := 1 <<< (x 0 * 3 + x 2 % 3)
def sgv (S x : Nat → Nat) (h t : Nat) : Nat := if ((x 4 &&& (4294967295 - x 5)) >>> h) &&& 1 = 0 then 0 else S (h * 6 + t % 6)
def gn (S x : Nat → Nat) : Nat := if x 6 &&& bt x = 0 then sgv S x (x 0) (x 2) else 0
def cn (n : Nat) (x : Nat → Nat) (t : Nat) : Nat := if t = 0 then (if 0 < x 0 then 1 else 0) else if t = 1 then (if x 0 + 1 < n then 1 else 0) else if t = 2 then (if x 0 < n ∧ 0 < x 1 then 1 else 0) else 1
def tk (S x : Nat → Nat) (t : Nat) : Nat → Nat :=
  if t = 0 then up1 (up1 x 0 (x 0 - 1)) 2 (x 2 + 1) else if t = 1 then up1 (up1 x 0 (x 0 + 1)) 2 (x 2 + 1) else if t = 2 then up1 (up1 (up1 (up1 x 1 (x 1 - 1)) 3 (x 3 + gn S x)) 6 (x 6 ||| bt x)) 2 (x 2 + 1) else up1 x 2 (x 2 + 1)
theorem tk_0 (S x : Nat → Nat) : tk S x 0 = up1 (up1 x 0 (x 0 - 1)) 2 (x 2 + 1) := rfl
theorem tk_1 (S x : Nat → Nat) : tk S x 1 = up1 (up1 x 0 (x 0 + 1)) 2 (x 2 + 1) := rfl
theorem tk_2 (S x : Nat → Nat) : tk S x 2 = up1 (up1 (up1 (up1 x 1 (x 1 - 1)) 3 (x 3 + gn S x)) 6 (x 6 ||| bt x)) 2 (x 2 + 1) := rfl
theorem tk_3 (S x : Nat → Nat) : tk S x 3 = up1 x 2 (x 2 + 1) := rfl
def cp7 (x y : Nat → Nat) : Nat → Nat := fun k => if k < 7 then y k else x k
theorem k_and31 {a b : Nat} (h : a < 2147483648) : a &&& b < 2147483648 := Nat.lt_of_le_of_lt Nat.and_le_left h
theorem k_and1 (a : Nat) : a &&& 1 < 2147483648 := Nat.lt_of_le_of_lt Nat.and_le_right (by decide)
theorem c_newsBit (l : Launch) (G : ks_G) (base : Nat) (Mx : ks_M) (Lx : ks_L) (i : Nat) (hs : SH[i]? = some kSt) (a t : Nat) (h0 : Mx i 0 = a) (h2 : Mx i 2 = t) (ha : a < 6) (ht : t < 2147483648) : KI l G base 0 yX3_newsBit cX3_newsBit 1 .int [.ref (base + i)] SH Mx Lx (fun r M1 L1 => r = nI (1 <<< (a * 3 + t % 3)) ∧ M1 = Mx ∧ L1 = Lx) := by
  refine k_meti (by decide) (Nat.le_of_ble_eq_true rfl) (fun K hK X Y => ?_)
  subst hK
  refine r_pl [(0, .ref (base + i))] ⟨rfl, trivial⟩ ?_
  refine r_iconst (q := 1) (v := nI 1) X kc_1 dX3_newsBit_0 rfl ?_
  refine r_aload_n (q := 2) (i := 0) (j := 0) (x := base + i) X rfl rfl dX3_newsBit_1 rfl ?_
  refine r_getf (q := 5) (i := i) (v := .int (nI (a))) X fk_X3_9 hs rfl (kv h0) dX3_newsBit_2 rfl ?_
  refine r_iconst (q := 6) (v := nI 3) X kc_3 dX3_newsBit_5 rfl ?_
  refine r_imulR (q := 7) (x := nI (a)) (y := nI 3) (v := nI (a * 3)) X (pk_mul _ _) dX3_newsBit_6 rfl ?_
  refine r_aload_n (q := 8) (i := 0) (j := 0) (x := base + i) X rfl rfl dX3_newsBit_7 rfl ?_
  refine r_getf (q := 11) (i := i) (v := .int (nI (t))) X fk_X3_18 hs rfl (kv h2) dX3_newsBit_8 rfl ?_
  refine r_iconst (q := 12) (v := nI 3) X kc_3 dX3_newsBit_11 rfl ?_
  refine r_iremR (q := 13) (x := nI (t)) (y := nI 3) (v := nI (t % 3)) X (nI_ne0 (by omega) (by omega)) (pk_rem (by omega) (by omega) (by omega)) dX3_newsBit_12 rfl ?_
  refine r_iaddR (q := 14) (x := nI (a * 3)) (y := nI (t % 3)) (v := nI ((a * 3) + (t % 3))) X (nI_add _ _) dX3_newsBit_13 rfl ?_
  refine r_ishlR (q := 15) (x := nI 1) (y := nI ((a * 3) + (t % 3))) (v := nI (1 <<< ((a * 3) + (t % 3)))) X (k_shl (by omega)) dX3_newsBit_14 rfl ?_
  refine r_iret X Y ?_ dX3_newsBit_15
  exact ⟨rfl, rfl, rfl⟩
theorem c_copy (l : Launch) (G : ks_G) (base : Nat) (Mx : ks_M) (Lx : ks_L) (i : Nat) (hs : SH[i]? = some kSt) (j : Nat) (hj : SH[j]? = some kSt) (hne : j ≠ i) : KV l G base 0 0 0 yX3_copy cX3_copy 2 [.ref (base + i), .ref (base + j)] SH SH Mx Lx (fun M1 L1 => M1 = sr Mx i (cp7 (Mx i) (Mx j)) ∧ L1 = Lx) := by
  refine k_metv (by decide) (Nat.le_of_ble_eq_true rfl) (fun K hK hRm X Y => ?_)
  subst hK
  refine r_pl [(0, .ref (base + i)), (1, .ref (base + j))] ⟨rfl, rfl, trivial⟩ ?_
  refine r_aload_n (q := 1) (i := 0) (j := 0) (x := base + i) X rfl rfl dX3_copy_0 rfl ?_
  refine r_aload_n (q := 2) (i := 1) (j := 1) (x := base + j) X rfl rfl dX3_copy_1 rfl ?_
  refine r_getf (q := 5) (i := j) (v := .int (nI (Mx j 0))) X fk_X3_9 hj rfl rfl dX3_copy_2 rfl ?_
  refine r_puti (q := 8) (i := i) (n := Mx j 0) X fk_X3_9 kp_X3_0 hs rfl dX3_copy_5 rfl ?_
  refine r_aload_n (q := 9) (i := 0) (j := 0) (x := base + i) X rfl rfl dX3_copy_8 rfl ?_
  refine r_aload_n (q := 10) (i := 1) (j := 1) (x := base + j) X rfl rfl dX3_copy_9 rfl ?_
  refine r_getf (q := 13) (i := j) (v := .int (nI (Mx j 1))) X fk_X3_15 hj rfl (by simp [ks_v, up2, hne]) dX3_copy_10 rfl ?_
  refine r_puti (q := 16) (i := i) (n := Mx j 1) X fk_X3_15 kp_X3_1 hs rfl dX3_copy_13 rfl ?_
  refine r_aload_n (q := 17) (i := 0) (j := 0) (x := base + i) X rfl rfl dX3_copy_16 rfl ?_
  refine r_aload_n (q := 18) (i := 1) (j := 1) (x := base + j) X rfl rfl dX3_copy_17 rfl ?_
  refine r_getf (q := 21) (i := j) (v := .int (nI (Mx j 2))) X fk_X3_18 hj rfl (by simp [ks_v, up2, hne]) dX3_copy_18 rfl ?_
  refine r_puti (q := 24) (i := i) (n := Mx j 2) X fk_X3_18 kp_X3_2 hs rfl dX3_copy_21 rfl ?_
  refine r_aload_n (q := 25) (i := 0) (j := 0) (x := base + i) X rfl rfl dX3_copy_24 rfl ?_
  refine r_aload_n (q := 26) (i := 1) (j := 1) (x := base + j) X rfl rfl dX3_copy_25 rfl ?_
  refine r_getf (q := 29) (i := j) (v := .int (nI (Mx j 3))) X fk_X3_21 hj rfl (by simp [ks_v, up2, hne]) dX3_copy_26 rfl ?_
  refine r_puti (q := 32) (i := i) (n := Mx j 3) X fk_X3_21 kp_X3_3 hs rfl dX3_copy_29 rfl ?_
  refine r_aload_n (q := 33) (i := 0) (j := 0) (x := base + i) X rfl rfl dX3_copy_32 rfl ?_
  refine r_aload_n (q := 34) (i := 1) (j := 1) (x := base + j) X rfl rfl dX3_copy_33 rfl ?_
  refine r_getf (q := 37) (i := j) (v := .int (nI (Mx j 4))) X fk_X3_24 hj rfl (by simp [ks_v, up2, hne]) dX3_copy_34 rfl ?_
  refine r_puti (q := 40) (i := i) (n := Mx j 4) X fk_X3_24 kp_X3_4 hs rfl dX3_copy_37 rfl ?_
  refine r_aload_n (q := 41) (i := 0) (j := 0) (x := base + i) X rfl rfl dX3_copy_40 rfl ?_
  refine r_aload_n (q := 42) (i := 1) (j := 1) (x := base + j) X rfl rfl dX3_copy_41 rfl ?_
  refine r_getf (q := 45) (i := j) (v := .int (nI (Mx j 5))) X fk_X3_27 hj rfl (by simp [ks_v, up2, hne]) dX3_copy_42 rfl ?_
  refine r_puti (q := 48) (i := i) (n := Mx j 5) X fk_X3_27 kp_X3_5 hs rfl dX3_copy_45 rfl ?_
  refine r_aload_n (q := 49) (i := 0) (j := 0) (x := base + i) X rfl rfl dX3_copy_48 rfl ?_
  refine r_aload_n (q := 50) (i := 1) (j := 1) (x := base + j) X rfl rfl dX3_copy_49 rfl ?_
  refine r_getf (q := 53) (i := j) (v := .int (nI (Mx j 6))) X fk_X3_30 hj rfl (by simp [ks_v, up2, hne]) dX3_copy_50 rfl ?_
  refine r_puti (q := 56) (i := i) (n := Mx j 6) X fk_X3_30 kp_X3_6 hs rfl dX3_copy_53 rfl ?_
  refine r_vret X Y ?_ dX3_copy_56
  refine ⟨?_, rfl⟩
  funext a b
  by_cases ha : a = i
  · subst ha
    rw [sr_s]
    simp only [up2, cp7, true_and]
    by_cases h0 : b = 0 <;> by_cases h1 : b = 1 <;> by_cases h2 : b = 2 <;> by_cases h3 : b = 3 <;> by_cases h4 : b = 4 <;> by_cases h5 : b = 5 <;> by_cases h6 : b = 6 <;> simp [*] <;> omega
  · rw [sr_o ha]
    simp [up2, ha]
theorem c_readOf (l : Launch) (G : ks_G) (base : Nat) (Mx : ks_M) (Lx : ks_L) (i : Nat) (hs : SH[i]? = some kSt) (h : Nat) (hh : h < 6) (h6 : Mx i 6 < 2147483648) : KI l G base 0 yX3_readOf cX3_readOf 2 .int [.ref (base + i), .int (nI (h))] SH Mx Lx (fun r M1 L1 => r = nI ((Mx i 6) >>> (h * 3) &&& 7) ∧ M1 = Mx ∧ L1 = Lx) := by
  refine k_meti (by decide) (Nat.le_of_ble_eq_true rfl) (fun K hK X Y => ?_)
  subst hK
  refine r_pl [(0, .ref (base + i)), (1, .int (nI (h)))] ⟨rfl, rfl, trivial⟩ ?_
  refine r_aload_n (q := 1) (i := 0) (j := 0) (x := base + i) X rfl rfl dX3_readOf_0 rfl ?_
  refine r_getf (q := 4) (i := i) (v := .int (nI (Mx i 6))) X fk_X3_30 hs rfl rfl dX3_readOf_1 rfl ?_
  refine r_iload_n (q := 5) (i := 1) (j := 1) (x := nI (h)) X rfl rfl dX3_readOf_4 rfl ?_
  refine r_iconst (q := 6) (v := nI 3) X kc_3 dX3_readOf_5 rfl ?_
  refine r_imulR (q := 7) (x := nI (h)) (y := nI 3) (v := nI (h * 3)) X (pk_mul _ _) dX3_readOf_6 rfl ?_
  refine r_ishrR (q := 8) (x := nI (Mx i 6)) (y := nI (h * 3)) (v := nI ((Mx i 6) >>> (h * 3))) X (k_shr h6 (by omega)) dX3_readOf_7 rfl ?_
  refine r_bipush (q := 10) (v := nI 7) X kb_7 dX3_readOf_8 rfl ?_
  refine r_iandR (q := 11) (x := nI ((Mx i 6) >>> (h * 3))) (y := nI 7) (v := nI (((Mx i 6) >>> (h * 3)) &&& 7)) X (fa_and _ _) dX3_readOf_10 rfl ?_
  refine r_iret X Y ?_ dX3_readOf_11
  exact ⟨rfl, rfl, rfl⟩
theorem c_shown (l : Launch) (G : ks_G) (base : Nat) (Mx : ks_M) (Lx : ks_L) (i : Nat) (hs : SH[i]? = some kSt) (h t : Nat) (hh : h < 6) (ht : t < 2147483648) (h4 : Mx i 4 < 2147483648) (h5 : Mx i 5 < 2147483648) : KI l G base 0 yX3_shown cX3_shown 6 .int [.ref (base + i), .ref (base + 3), .int (nI (h)), .int (nI (t))] SH Mx Lx (fun r M1 L1 => r = nI (sgv (Mx 6) (Mx i) h t) ∧ M1 = Mx ∧ L1 = Lx) := by
  refine k_meti (by decide) (Nat.le_of_ble_eq_true rfl) (fun K hK X Y => ?_)
  subst hK
  refine r_pl [(0, .ref (base + i)), (1, .ref (base + 3)), (2, .int (nI (h))), (3, .int (nI (t)))] ⟨rfl, rfl, rfl, rfl, trivial⟩ ?_
  refine r_aload_n (q := 1) (i := 0) (j := 0) (x := base + i) X rfl rfl dX3_shown_0 rfl ?_
  refine r_getf (q := 4) (i := i) (v := .int (nI (Mx i 4))) X fk_X3_24 hs rfl rfl dX3_shown_1 rfl ?_
  refine r_aload_n (q := 5) (i := 0) (j := 0) (x := base + i) X rfl rfl dX3_shown_4 rfl ?_
  refine r_getf (q := 8) (i := i) (v := .int (nI (Mx i 5))) X fk_X3_27 hs rfl rfl dX3_shown_5 rfl ?_
  refine r_iconst (q := 9) (v := (-1)) X kc_m1 dX3_shown_8 rfl ?_
  refine r_ixorR (q := 10) (x := nI (Mx i 5)) (y := (-1)) (v := nI (4294967295 - Mx i 5)) X (k_not (by omega)) dX3_shown_9 rfl ?_
  refine r_iandR (q := 11) (x := nI (Mx i 4)) (y := nI (4294967295 - Mx i 5)) (v := nI ((Mx i 4) &&& (4294967295 - Mx i 5))) X (fa_and _ _) dX3_shown_10 rfl ?_
  refine r_iload_n (q := 12) (i := 2) (j := 2) (x := nI (h)) X rfl rfl dX3_shown_11 rfl ?_
  refine r_ishrR (q := 13) (x := nI ((Mx i 4) &&& (4294967295 - Mx i 5))) (y := nI (h)) (v := nI (((Mx i 4) &&& (4294967295 - Mx i 5)) >>> h)) X (k_shr (k_and31 h4) (by omega)) dX3_shown_12 rfl ?_
  refine r_iconst (q := 14) (v := nI 1) X kc_1 dX3_shown_13 rfl ?_
  refine r_iandR (q := 15) (x := nI (((Mx i 4) &&& (4294967295 - Mx i 5)) >>> h)) (y := nI 1) (v := nI ((((Mx i 4) &&& (4294967295 - Mx i 5)) >>> h) &&& 1)) X (fa_and _ _) dX3_shown_14 rfl ?_
  have hb := k_and1 ((Mx i 4 &&& (4294967295 - Mx i 5)) >>> h)
  refine r_if_eq (q := 18) (tgt := 22) X (by decide) dX3_shown_15 rfl (fun c15 => ?_) (fun c15 => ?_)
  · replace c15 : ((((Mx i 4) &&& (4294967295 - Mx i 5)) >>> h) &&& 1) = 0 := (kI_eq0 (by omega)).mp c15
    refine r_iconst (q := 23) (v := nI 0) X kc_0 dX3_shown_22 rfl ?_
    refine r_istore (q := 25) (i := 4) X (Nat.le_of_ble_eq_true rfl) dX3_shown_23 rfl ?_
    refine r_iload_n (q := 26) (i := 2) (j := 2) (x := nI (h)) X rfl rfl dX3_shown_25 rfl ?_
    refine r_bipush (q := 28) (v := nI 6) X kb_6 dX3_shown_26 rfl ?_
    refine r_imulR (q := 29) (x := nI (h)) (y := nI 6) (v := nI (h * 6)) X (pk_mul _ _) dX3_shown_28 rfl ?_
    refine r_iload_n (q := 30) (i := 3) (j := 3) (x := nI (t)) X rfl rfl dX3_shown_29 rfl ?_
    refine r_bipush (q := 32) (v := nI 6) X kb_6 dX3_shown_30 rfl ?_
    refine r_iremR (q := 33) (x := nI (t)) (y := nI 6) (v := nI (t % 6)) X (by decide) (pk_rem (by omega) (by omega) (by omega)) dX3_shown_32 rfl ?_
    refine r_iaddR (q := 34) (x := nI (h * 6)) (y := nI (t % 6)) (v := nI ((h * 6) + (t % 6))) X (nI_add _ _) dX3_shown_33 rfl ?_
    refine r_istore (q := 36) (i := 5) X (Nat.le_of_ble_eq_true rfl) dX3_shown_34 rfl ?_
    refine r_iload (q := 38) (i := 4) (x := nI 0) X rfl dX3_shown_36 rfl ?_
    refine r_if_eq (q := 41) (tgt := 66) X (by decide) dX3_shown_38 rfl (fun _ => ?_) (fun c => absurd c (by decide))
    refine r_iconst (q := 67) (v := nI 0) X kc_0 dX3_shown_66 rfl ?_
    refine r_iret X Y ?_ dX3_shown_67
    exact ⟨by first | (exfalso; omega) | (unfold sgv; rw [if_pos (by assumption)]) | (unfold sgv; rw [if_neg (by assumption)]), rfl, rfl⟩
  · replace c15 : ¬ ((((Mx i 4) &&& (4294967295 - Mx i 5)) >>> h) &&& 1) = 0 := fun h => (c15 ((kI_eq0 (by omega)).mpr h))
    refine r_iconst (q := 19) (v := nI 1) X kc_1 dX3_shown_18 rfl ?_
    refine r_goto (tgt := 23) X (by decide) dX3_shown_19 ?_
    refine r_istore (q := 25) (i := 4) X (Nat.le_of_ble_eq_true rfl) dX3_shown_23 rfl ?_
    refine r_iload_n (q := 26) (i := 2) (j := 2) (x := nI (h)) X rfl rfl dX3_shown_25 rfl ?_
    refine r_bipush (q := 28) (v := nI 6) X kb_6 dX3_shown_26 rfl ?_
    refine r_imulR (q := 29) (x := nI (h)) (y := nI 6) (v := nI (h * 6)) X (pk_mul _ _) dX3_shown_28 rfl ?_
    refine r_iload_n (q := 30) (i := 3) (j := 3) (x := nI (t)) X rfl rfl dX3_shown_29 rfl ?_
    refine r_bipush (q := 32) (v := nI 6) X kb_6 dX3_shown_30 rfl ?_
    refine r_iremR (q := 33) (x := nI (t)) (y := nI 6) (v := nI (t % 6)) X (by decide) (pk_rem (by omega) (by omega) (by omega)) dX3_shown_32 rfl ?_
    refine r_iaddR (q := 34) (x := nI (h * 6)) (y := nI (t % 6)) (v := nI ((h * 6) + (t % 6))) X (nI_add _ _) dX3_shown_33 rfl ?_
    refine r_istore (q := 36) (i := 5) X (Nat.le_of_ble_eq_true rfl) dX3_shown_34 rfl ?_
    refine r_iload (q := 38) (i := 4) (x := nI 1) X rfl dX3_shown_36 rfl ?_
    refine r_if_eq (q := 41) (tgt := 66) X (by decide) dX3_shown_38 rfl (fun c => absurd c (by decide)) (fun _ => ?_)
    refine r_iload (q := 43) (i := 5) (x := nI ((h * 6) + (t % 6))) X rfl dX3_shown_41 rfl ?_
    refine r_if_lt (q := 46) (tgt := 66) X (by decide) dX3_shown_43 rfl (fun c43 => ?_) (fun c43 => ?_)
    · replace c43 : ((h * 6) + (t % 6)) < 0 := (kI_lt0 (by omega)).mp c43
      refine r_iconst (q := 67) (v := nI 0) X kc_0 dX3_shown_66 rfl ?_
      refine r_iret X Y ?_ dX3_shown_67
      exact ⟨by first | (exfalso; omega) | (unfold sgv; rw [if_pos (by assumption)]) | (unfold sgv; rw [if_neg (by assumption)]), rfl, rfl⟩
    · replace c43 : ¬ ((h * 6) + (t % 6)) < 0 := fun h => c43 ((kI_lt0 (by omega)).mpr h)
      refine r_iload (q := 48) (i := 5) (x := nI ((h * 6) + (t % 6))) X rfl dX3_shown_46 rfl ?_
      refine r_aload_n (q := 49) (i := 1) (j := 1) (x := base + 3) X rfl rfl dX3_shown_48 rfl ?_
      refine r_getf (q := 52) (i := 3) (v := .ref (base + 6)) X fk_X3_39 kh_3 rfl rfl dX3_shown_49 rfl ?_
      refine r_alen (q := 53) (i := 6) (n := 36) X kh_6 dX3_shown_52 rfl ?_
      refine r_icmp_ge (q := 56) (tgt := 66) X (by decide) dX3_shown_53 rfl (fun c53 => ?_) (fun c53 => ?_)
      · replace c53 : 36 ≤ ((h * 6) + (t % 6)) := (nI_leI (by omega) (by omega)).mp c53
        refine r_iconst (q := 67) (v := nI 0) X kc_0 dX3_shown_66 rfl ?_
        refine r_iret X Y ?_ dX3_shown_67
        exact ⟨by first | (exfalso; omega) | (unfold sgv; rw [if_pos (by assumption)]) | (unfold sgv; rw [if_neg (by assumption)]), rfl, rfl⟩
      · replace c53 : ¬ 36 ≤ ((h * 6) + (t % 6)) := fun h => c53 ((nI_leI (by omega) (by omega)).mpr h)
        refine r_aload_n (q := 57) (i := 1) (j := 1) (x := base + 3) X rfl rfl dX3_shown_56 rfl ?_
        refine r_getf (q := 60) (i := 3) (v := .ref (base + 6)) X fk_X3_39 kh_3 rfl rfl dX3_shown_57 rfl ?_
        refine r_iload (q := 62) (i := 5) (x := nI ((h * 6) + (t % 6))) X rfl dX3_shown_60 rfl ?_
        refine r_iald (q := 63) (i := 6) (j := (h * 6) + (t % 6)) (v := Mx 6 ((h * 6) + (t % 6))) X kh_6 (by omega) (Nat.le_of_ble_eq_true rfl) rfl dX3_shown_62 rfl ?_
        refine r_goto (tgt := 67) X (by decide) dX3_shown_63 ?_
        refine r_iret X Y ?_ dX3_shown_67
        exact ⟨by first | (exfalso; omega) | (unfold sgv; rw [if_pos (by assumption)]) | (unfold sgv; rw [if_neg (by assumption)]), rfl, rfl⟩
theorem c_can (l : Launch) (G : ks_G) (base : Nat) (Mx : ks_M) (Lx : ks_L) (i : Nat) (hs : SH[i]? = some kSt) (t : Nat) (ht : t < 2147483648) (h0 : Mx i 0 < 1000) (h1 : Mx i 1 < 1000) (hc : Mx 3 3 < 1000) : KI l G base 0 yX3_can cX3_can 3 .boolean [.ref (base + i), .ref (base + 3), .int (nI (t))] SH Mx Lx (fun r M1 L1 => r = nI (cn (Mx 3 3) (Mx i) t) ∧ M1 = Mx ∧ L1 = Lx) := by
  refine k_meti (by decide) (Nat.le_of_ble_eq_true rfl) (fun K hK X Y => ?_)
  subst hK
  refine r_pl [(0, .ref (base + i)), (1, .ref (base + 3)), (2, .int (nI (t)))] ⟨rfl, rfl, rfl, trivial⟩ ?_
  refine r_iload_n (q := 1) (i := 2) (j := 2) (x := nI (t)) X rfl rfl dX3_can_0 rfl ?_
  rcases (show t = 0 ∨ t = 1 ∨ t = 2 ∨ 2 < t by omega) with rfl | rfl | rfl | hn1
  · refine r_tableIn (x := nI 0) (off := 27) (tgt := 28) X (by decide) (by decide) (by decide) (by decide) dX3_can_1 ?_
    refine r_aload_n (q := 29) (i := 0) (j := 0) (x := base + i) X rfl rfl dX3_can_28 rfl ?_
    refine r_getf (q := 32) (i := i) (v := .int (nI (Mx i 0))) X fk_X3_9 hs rfl rfl dX3_can_29 rfl ?_
    refine r_if_le (q := 35) (tgt := 39) X (by decide) dX3_can_32 rfl (fun c32 => ?_) (fun c32 => ?_)
    · replace c32 : (Mx i 0) ≤ 0 := (kI_le0 (by omega)).mp c32
      refine r_iconst (q := 40) (v := nI 0) X kc_0 dX3_can_39 rfl ?_
      refine r_zret X Y (by decide) ?_ dX3_can_40
      exact ⟨by unfold cn; (repeat' split) <;> first | rfl | (exfalso; omega), rfl, rfl⟩
    · replace c32 : ¬ (Mx i 0) ≤ 0 := fun h => c32 ((kI_le0 (by omega)).mpr h)
      refine r_iconst (q := 36) (v := nI 1) X kc_1 dX3_can_35 rfl ?_
      refine r_goto (tgt := 40) X (by decide) dX3_can_36 ?_
      refine r_zret X Y (by decide) ?_ dX3_can_40
      exact ⟨by unfold cn; (repeat' split) <;> first | rfl | (exfalso; omega), rfl, rfl⟩
  · refine r_tableIn (x := nI 1) (off := 40) (tgt := 41) X (by decide) (by decide) (by decide) (by decide) dX3_can_1 ?_
    refine r_aload_n (q := 42) (i := 0) (j := 0) (x := base + i) X rfl rfl dX3_can_41 rfl ?_
    refine r_getf (q := 45) (i := i) (v := .int (nI (Mx i 0))) X fk_X3_9 hs rfl rfl dX3_can_42 rfl ?_
    refine r_iconst (q := 46) (v := nI 1) X kc_1 dX3_can_45 rfl ?_
    refine r_iaddR (q := 47) (x := nI (Mx i 0)) (y := nI 1) (v := nI ((Mx i 0) + 1)) X (nI_add _ _) dX3_can_46 rfl ?_
    refine r_aload_n (q := 48) (i := 1) (j := 1) (x := base + 3) X rfl rfl dX3_can_47 rfl ?_
    refine r_getf (q := 51) (i := 3) (v := .int (nI (Mx 3 3))) X fk_X3_36 kh_3 rfl rfl dX3_can_48 rfl ?_
    refine r_icmp_ge (q := 54) (tgt := 58) X (by decide) dX3_can_51 rfl (fun c51 => ?_) (fun c51 => ?_)
    · replace c51 : (Mx 3 3) ≤ ((Mx i 0) + 1) := (nI_leI (by omega) (by omega)).mp c51
      refine r_iconst (q := 59) (v := nI 0) X kc_0 dX3_can_58 rfl ?_
      refine r_zret X Y (by decide) ?_ dX3_can_59
      exact ⟨by unfold cn; (repeat' split) <;> first | rfl | (exfalso; omega), rfl, rfl⟩
    · replace c51 : ¬ (Mx 3 3) ≤ ((Mx i 0) + 1) := fun h => c51 ((nI_leI (by omega) (by omega)).mpr h)
      refine r_iconst (q := 55) (v := nI 1) X kc_1 dX3_can_54 rfl ?_
      refine r_goto (tgt := 59) X (by decide) dX3_can_55 ?_
      refine r_zret X Y (by decide) ?_ dX3_can_59
      exact ⟨by unfold cn; (repeat' split) <;> first | rfl | (exfalso; omega), rfl, rfl⟩
  · refine r_tableIn (x := nI 2) (off := 59) (tgt := 60) X (by decide) (by decide) (by decide) (by decide) dX3_can_1 ?_
    refine r_aload_n (q := 61) (i := 0) (j := 0) (x := base + i) X rfl rfl dX3_can_60 rfl ?_
    refine r_getf (q := 64) (i := i) (v := .int (nI (Mx i 0))) X fk_X3_9 hs rfl rfl dX3_can_61 rfl ?_
    refine r_aload_n (q := 65) (i := 1) (j := 1) (x := base + 3) X rfl rfl dX3_can_64 rfl ?_
    refine r_getf (q := 68) (i := 3) (v := .int (nI (Mx 3 3))) X fk_X3_36 kh_3 rfl rfl dX3_can_65 rfl ?_
    refine r_icmp_ge (q := 71) (tgt := 82) X (by decide) dX3_can_68 rfl (fun c68 => ?_) (fun c68 => ?_)
    · replace c68 : (Mx 3 3) ≤ (Mx i 0) := (nI_leI (by omega) (by omega)).mp c68
      refine r_iconst (q := 83) (v := nI 0) X kc_0 dX3_can_82 rfl ?_
      refine r_zret X Y (by decide) ?_ dX3_can_83
      exact ⟨by unfold cn; (repeat' split) <;> first | rfl | (exfalso; omega), rfl, rfl⟩
    · replace c68 : ¬ (Mx 3 3) ≤ (Mx i 0) := fun h => c68 ((nI_leI (by omega) (by omega)).mpr h)
      refine r_aload_n (q := 72) (i := 0) (j := 0) (x := base + i) X rfl rfl dX3_can_71 rfl ?_
      refine r_getf (q := 75) (i := i) (v := .int (nI (Mx i 1))) X fk_X3_15 hs rfl rfl dX3_can_72 rfl ?_
      refine r_if_le (q := 78) (tgt := 82) X (by decide) dX3_can_75 rfl (fun c75 => ?_) (fun c75 => ?_)
      · replace c75 : (Mx i 1) ≤ 0 := (kI_le0 (by omega)).mp c75
        refine r_iconst (q := 83) (v := nI 0) X kc_0 dX3_can_82 rfl ?_
        refine r_zret X Y (by decide) ?_ dX3_can_83
        exact ⟨by unfold cn; (repeat' split) <;> first | rfl | (exfalso; omega), rfl, rfl⟩
      · replace c75 : ¬ (Mx i 1) ≤ 0 := fun h => c75 ((kI_le0 (by omega)).mpr h)
        refine r_iconst (q := 79) (v := nI 1) X kc_1 dX3_can_78 rfl ?_
        refine r_goto (tgt := 83) X (by decide) dX3_can_79 ?_
        refine r_zret X Y (by decide) ?_ dX3_can_83
        exact ⟨by unfold cn; (repeat' split) <;> first | rfl | (exfalso; omega), rfl, rfl⟩
  · refine r_tableOut (tgt := 84) X (Or.inr (kOutH (by omega) (by omega))) (by decide) dX3_can_1 ?_
    refine r_iconst (q := 85) (v := nI 1) X kc_1 dX3_can_84 rfl ?_
    refine r_zret X Y (by decide) ?_ dX3_can_85
    exact ⟨by unfold cn; (repeat' split) <;> first | rfl | (exfalso; omega), rfl, rfl⟩
theorem c_gain (l : Launch) (G : ks_G) (base : Nat) (Mx : ks_M) (Lx : ks_L) (i : Nat) (hs : SH[i]? = some kSt) (h0 : Mx i 0 < 6) (h2 : Mx i 2 < 2147483648) (h4 : Mx i 4 < 2147483648) (h5 : Mx i 5 < 2147483648) (h6 : Mx i 6 < 2147483648) : KI l G base 1 yX3_gain cX3_gain 2 .int [.ref (base + i), .ref (base + 3)] SH Mx Lx (fun r M1 L1 => r = nI (gn (Mx 6) (Mx i)) ∧ M1 = Mx ∧ L1 = Lx) := by
  refine k_meti (by decide) (Nat.le_of_ble_eq_true rfl) (fun K hK X Y => ?_)
  subst hK
  refine r_pl [(0, .ref (base + i)), (1, .ref (base + 3))] ⟨rfl, rfl, trivial⟩ ?_
  refine r_aload_n (q := 1) (i := 0) (j := 0) (x := base + i) X rfl rfl dX3_gain_0 rfl ?_
  refine r_getf (q := 4) (i := i) (v := .int (nI (Mx i 6))) X fk_X3_30 hs rfl rfl dX3_gain_1 rfl ?_
  refine r_aload_n (q := 5) (i := 0) (j := 0) (x := base + i) X rfl rfl dX3_gain_4 rfl ?_
  refine r_callVi (q := 8) X (c_newsBit K.2.1 G base Mx Lx i hs _ _ rfl rfl (by omega) (by omega)) hs rfl ks_RX3_47 (by decide) (by decide) ⟨Nat.zero_le _, Nat.zero_le _⟩ rfl (Nat.le_of_ble_eq_true rfl) dX3_gain_5 rfl (fun r M1 L1 hp => ?_)
  obtain ⟨e1, e2, e3⟩ := hp
  subst e1
  replace e2 := e2.symm
  subst e2
  replace e3 := e3.symm
  subst e3
  refine r_iandR (q := 9) (x := nI (Mx i 6)) (y := nI (bt (Mx i))) (v := nI ((Mx i 6) &&& (bt (Mx i)))) X (fa_and _ _) dX3_gain_8 rfl ?_
  have hb := k_and31 (b := bt (Mx i)) h6
  refine r_if_eq (q := 12) (tgt := 16) X (by decide) dX3_gain_9 rfl (fun c9 => ?_) (fun c9 => ?_)
  · replace c9 : ((Mx i 6) &&& (bt (Mx i))) = 0 := (kI_eq0 (by omega)).mp c9
    refine r_aload_n (q := 17) (i := 0) (j := 0) (x := base + i) X rfl rfl dX3_gain_16 rfl ?_
    refine r_aload_n (q := 18) (i := 1) (j := 1) (x := base + 3) X rfl rfl dX3_gain_17 rfl ?_
    refine r_aload_n (q := 19) (i := 0) (j := 0) (x := base + i) X rfl rfl dX3_gain_18 rfl ?_
    refine r_getf (q := 22) (i := i) (v := .int (nI (Mx i 0))) X fk_X3_9 hs rfl rfl dX3_gain_19 rfl ?_
    refine r_aload_n (q := 23) (i := 0) (j := 0) (x := base + i) X rfl rfl dX3_gain_22 rfl ?_
    refine r_getf (q := 26) (i := i) (v := .int (nI (Mx i 2))) X fk_X3_18 hs rfl rfl dX3_gain_23 rfl ?_
    refine r_callVi (q := 29) X (c_shown K.2.1 G base Mx Lx i hs _ _ (by omega) (by omega) h4 h5) hs rfl ks_RX3_51 (by decide) (by decide) ⟨Nat.zero_le _, Nat.zero_le _⟩ rfl (Nat.le_of_ble_eq_true rfl) dX3_gain_26 rfl (fun r M1 L1 hp => ?_)
    obtain ⟨e1, e2, e3⟩ := hp
    subst e1
    replace e2 := e2.symm
    subst e2
    replace e3 := e3.symm
    subst e3
    refine r_iret X Y ?_ dX3_gain_29
    exact ⟨by first | (exfalso; omega) | (unfold gn; rw [if_pos (by assumption)]) | (unfold gn; rw [if_neg (by assumption)]), rfl, rfl⟩
  · replace c9 : ¬ ((Mx i 6) &&& (bt (Mx i))) = 0 := fun h => (c9 ((kI_eq0 (by omega)).mpr h))
    refine r_iconst (q := 13) (v := nI 0) X kc_0 dX3_gain_12 rfl ?_
    refine r_goto (tgt := 29) X (by decide) dX3_gain_13 ?_
    refine r_iret X Y ?_ dX3_gain_29
    exact ⟨by first | (exfalso; omega) | (unfold gn; rw [if_pos (by assumption)]) | (unfold gn; rw [if_neg (by assumption)]), rfl, rfl⟩
theorem c_take (l : Launch) (G : ks_G) (base : Nat) (Mx : ks_M) (Lx : ks_L) (i : Nat) (hs : SH[i]? = some kSt) (t : Nat) (ht : t < 4) (h0 : Mx i 0 < 6) (h2 : Mx i 2 < 2147483648) (h4 : Mx i 4 < 2147483648) (h5 : Mx i 5 < 2147483648) (h6 : Mx i 6 < 2147483648) (hc0 : t = 0 → 0 < Mx i 0) (hc2 : t = 2 → 0 < Mx i 1) : KI l G base 2 yX3_take cX3_take 4 .int [.ref (base + i), .ref (base + 3), .int (nI (t))] SH Mx Lx (fun r M1 L1 => r = nI (if t = 2 then gn (Mx 6) (Mx i) else 0) ∧ M1 = sr Mx i (tk (Mx 6) (Mx i) t) ∧ L1 = Lx) := by
  refine k_meti (by decide) (Nat.le_of_ble_eq_true rfl) (fun K hK X Y => ?_)
  subst hK
  refine r_pl [(0, .ref (base + i)), (1, .ref (base + 3)), (2, .int (nI (t)))] ⟨rfl, rfl, rfl, trivial⟩ ?_
  refine r_iconst (q := 1) (v := nI 0) X kc_0 dX3_take_0 rfl ?_
  refine r_istore_n (q := 2) (i := 3) (j := 3) X rfl (Nat.le_of_ble_eq_true rfl) dX3_take_1 rfl ?_
  refine r_iload_n (q := 3) (i := 2) (j := 2) (x := nI (t)) X rfl rfl dX3_take_2 rfl ?_
  refine r_if_ne (q := 6) (tgt := 19) X (by decide) dX3_take_3 rfl (fun c3 => ?_) (fun c3 => ?_)
  · replace c3 : ¬ t = 0 := fun h => c3 ((kI_eq0 (by omega)).mpr h)
    refine r_iload_n (q := 20) (i := 2) (j := 2) (x := nI (t)) X rfl rfl dX3_take_19 rfl ?_
    refine r_iconst (q := 21) (v := nI 1) X kc_1 dX3_take_20 rfl ?_
    refine r_icmp_ne (q := 24) (tgt := 37) X (by decide) dX3_take_21 rfl (fun c21 => ?_) (fun c21 => ?_)
    · replace c21 : ¬ t = 1 := fun h => c21 ((kI_eq (by omega) (by omega)).mpr h)
      refine r_iload_n (q := 38) (i := 2) (j := 2) (x := nI (t)) X rfl rfl dX3_take_37 rfl ?_
      refine r_iconst (q := 39) (v := nI 2) X kc_2 dX3_take_38 rfl ?_
      refine r_icmp_ne (q := 42) (tgt := 81) X (by decide) dX3_take_39 rfl (fun c39 => ?_) (fun c39 => ?_)
      · replace c39 : ¬ t = 2 := fun h => c39 ((kI_eq (by omega) (by omega)).mpr h)
        refine r_aload_n (q := 82) (i := 0) (j := 0) (x := base + i) X rfl rfl dX3_take_81 rfl ?_
        refine r_dup (q := 83) X rfl dX3_take_82 rfl ?_
        refine r_getf (q := 86) (i := i) (v := .int (nI (Mx i 2))) X fk_X3_18 hs rfl rfl dX3_take_83 rfl ?_
        refine r_iconst (q := 87) (v := nI 1) X kc_1 dX3_take_86 rfl ?_
        refine r_iaddR (q := 88) (x := nI (Mx i 2)) (y := nI 1) (v := nI ((Mx i 2) + 1)) X (nI_add _ _) dX3_take_87 rfl ?_
        refine r_puti (q := 91) (i := i) (n := (Mx i 2) + 1) X fk_X3_18 kp_X3_2 hs rfl dX3_take_88 rfl ?_
        refine r_iload_n (q := 92) (i := 3) (j := 3) (x := nI 0) X rfl rfl dX3_take_91 rfl ?_
        refine r_iret X Y ?_ dX3_take_92
        obtain ⟨t0, ht0⟩ : ∃ t0, t = t0 := ⟨_, rfl⟩
        rcases (show t = 0 ∨ t = 1 ∨ t = 2 ∨ t = 3 by omega) with hh | hh | hh | hh <;> first | (exfalso; omega) | skip
        all_goals subst hh
        all_goals refine ⟨by first | rfl | simp, ?_, rfl⟩
        all_goals first | rw [tk_0] | rw [tk_1] | rw [tk_2] | rw [tk_3]
        all_goals funext a b
        all_goals by_cases ha : a = i <;> simp [up2, sr, up1, bt, ha]
      · replace c39 : t = 2 := (kI_eq (by omega) (by omega)).mp c39
        refine r_aload_n (q := 43) (i := 0) (j := 0) (x := base + i) X rfl rfl dX3_take_42 rfl ?_
        refine r_aload_n (q := 44) (i := 1) (j := 1) (x := base + 3) X rfl rfl dX3_take_43 rfl ?_
        refine r_callVi (q := 47) X (c_gain K.2.1 G base Mx Lx i hs h0 h2 h4 h5 h6) hs rfl ks_RX3_43 (by decide) (by decide) ⟨Nat.zero_le _, Nat.zero_le _⟩ rfl (Nat.le_of_ble_eq_true rfl) dX3_take_44 rfl (fun r M1 L1 hp => ?_)
        obtain ⟨e1, e2, e3⟩ := hp
        subst e1
        replace e2 := e2.symm
        subst e2
        replace e3 := e3.symm
        subst e3
        refine r_istore_n (q := 48) (i := 3) (j := 3) X rfl (Nat.le_of_ble_eq_true rfl) dX3_take_47 rfl ?_
        refine r_aload_n (q := 49) (i := 0) (j := 0) (x := base + i) X rfl rfl dX3_take_48 rfl ?_
        refine r_dup (q := 50) X rfl dX3_take_49 rfl ?_
        refine r_getf (q := 53) (i := i) (v := .int (nI (Mx i 1))) X fk_X3_15 hs rfl rfl dX3_take_50 rfl ?_
        refine r_iconst (q := 54) (v := nI 1) X kc_1 dX3_take_53 rfl ?_
        refine r_isubR (q := 55) (x := nI (Mx i 1)) (y := nI 1) (v := nI ((Mx i 1) - 1)) X (pk_sub (by omega)) dX3_take_54 rfl ?_
        refine r_puti (q := 58) (i := i) (n := (Mx i 1) - 1) X fk_X3_15 kp_X3_1 hs rfl dX3_take_55 rfl ?_
        refine r_aload_n (q := 59) (i := 0) (j := 0) (x := base + i) X rfl rfl dX3_take_58 rfl ?_
        refine r_dup (q := 60) X rfl dX3_take_59 rfl ?_
        refine r_getf (q := 63) (i := i) (v := .int (nI (Mx i 3))) X fk_X3_21 hs rfl (by simp [ks_v, up2]) dX3_take_60 rfl ?_
        refine r_iload_n (q := 64) (i := 3) (j := 3) (x := nI (gn (Mx 6) (Mx i))) X rfl rfl dX3_take_63 rfl ?_
        refine r_iaddR (q := 65) (x := nI (Mx i 3)) (y := nI (gn (Mx 6) (Mx i))) (v := nI ((Mx i 3) + (gn (Mx 6) (Mx i)))) X (nI_add _ _) dX3_take_64 rfl ?_
        refine r_puti (q := 68) (i := i) (n := (Mx i 3) + (gn (Mx 6) (Mx i))) X fk_X3_21 kp_X3_3 hs rfl dX3_take_65 rfl ?_
        refine r_aload_n (q := 69) (i := 0) (j := 0) (x := base + i) X rfl rfl dX3_take_68 rfl ?_
        refine r_dup (q := 70) X rfl dX3_take_69 rfl ?_
        refine r_getf (q := 73) (i := i) (v := .int (nI (Mx i 6))) X fk_X3_30 hs rfl (by simp [ks_v, up2]) dX3_take_70 rfl ?_
        refine r_aload_n (q := 74) (i := 0) (j := 0) (x := base + i) X rfl rfl dX3_take_73 rfl ?_
        refine r_callVi (q := 77) X (c_newsBit K.2.1 G base _ Lx i hs (Mx i 0) (Mx i 2) (by simp [up2]) (by simp [up2]) (by omega) (by omega)) hs rfl ks_RX3_47 (by decide) (by decide) ⟨Nat.zero_le _, Nat.zero_le _⟩ rfl (Nat.le_of_ble_eq_true rfl) dX3_take_74 rfl (fun r M1 L1 hp => ?_)
        obtain ⟨e1, e2, e3⟩ := hp
        subst e1
        replace e2 := e2.symm
        subst e2
        replace e3 := e3.symm
        subst e3
        refine r_iorR (q := 78) (x := nI (Mx i 6)) (y := nI (1 <<< (Mx i 0 * 3 + Mx i 2 % 3))) (v := nI ((Mx i 6) ||| (1 <<< (Mx i 0 * 3 + Mx i 2 % 3)))) X (fa_or _ _) dX3_take_77 rfl ?_
        refine r_puti (q := 81) (i := i) (n := (Mx i 6) ||| (1 <<< (Mx i 0 * 3 + Mx i 2 % 3))) X fk_X3_30 kp_X3_6 hs rfl dX3_take_78 rfl ?_
        refine r_aload_n (q := 82) (i := 0) (j := 0) (x := base + i) X rfl rfl dX3_take_81 rfl ?_
        refine r_dup (q := 83) X rfl dX3_take_82 rfl ?_
        refine r_getf (q := 86) (i := i) (v := .int (nI (Mx i 2))) X fk_X3_18 hs rfl (by simp [ks_v, up2]) dX3_take_83 rfl ?_
        refine r_iconst (q := 87) (v := nI 1) X kc_1 dX3_take_86 rfl ?_
        refine r_iaddR (q := 88) (x := nI (Mx i 2)) (y := nI 1) (v := nI ((Mx i 2) + 1)) X (nI_add _ _) dX3_take_87 rfl ?_
        refine r_puti (q := 91) (i := i) (n := (Mx i 2) + 1) X fk_X3_18 kp_X3_2 hs rfl dX3_take_88 rfl ?_
        refine r_iload_n (q := 92) (i := 3) (j := 3) (x := nI (gn (Mx 6) (Mx i))) X rfl rfl dX3_take_91 rfl ?_
        refine r_iret X Y ?_ dX3_take_92
        obtain ⟨t0, ht0⟩ : ∃ t0, t = t0 := ⟨_, rfl⟩
        rcases (show t = 0 ∨ t = 1 ∨ t = 2 ∨ t = 3 by omega) with hh | hh | hh | hh <;> first | (exfalso; omega) | skip
        all_goals subst hh
        all_goals refine ⟨by first | rfl | simp, ?_, rfl⟩
        all_goals first | rw [tk_0] | rw [tk_1] | rw [tk_2] | rw [tk_3]
        all_goals funext a b
        all_goals by_cases ha : a = i <;> simp [up2, sr, up1, bt, ha]
    · replace c21 : t = 1 := (kI_eq (by omega) (by omega)).mp c21
      refine r_aload_n (q := 25) (i := 0) (j := 0) (x := base + i) X rfl rfl dX3_take_24 rfl ?_
      refine r_dup (q := 26) X rfl dX3_take_25 rfl ?_
      refine r_getf (q := 29) (i := i) (v := .int (nI (Mx i 0))) X fk_X3_9 hs rfl rfl dX3_take_26 rfl ?_
      refine r_iconst (q := 30) (v := nI 1) X kc_1 dX3_take_29 rfl ?_
      refine r_iaddR (q := 31) (x := nI (Mx i 0)) (y := nI 1) (v := nI ((Mx i 0) + 1)) X (nI_add _ _) dX3_take_30 rfl ?_
      refine r_puti (q := 34) (i := i) (n := (Mx i 0) + 1) X fk_X3_9 kp_X3_0 hs rfl dX3_take_31 rfl ?_
      refine r_goto (tgt := 81) X (by decide) dX3_take_34 ?_
      refine r_aload_n (q := 82) (i := 0) (j := 0) (x := base + i) X rfl rfl dX3_take_81 rfl ?_
      refine r_dup (q := 83) X rfl dX3_take_82 rfl ?_
      refine r_getf (q := 86) (i := i) (v := .int (nI (Mx i 2))) X fk_X3_18 hs rfl (by simp [ks_v, up2]) dX3_take_83 rfl ?_
      refine r_iconst (q := 87) (v := nI 1) X kc_1 dX3_take_86 rfl ?_
      refine r_iaddR (q := 88) (x := nI (Mx i 2)) (y := nI 1) (v := nI ((Mx i 2) + 1)) X (nI_add _ _) dX3_take_87 rfl ?_
      refine r_puti (q := 91) (i := i) (n := (Mx i 2) + 1) X fk_X3_18 kp_X3_2 hs rfl dX3_take_88 rfl ?_
      refine r_iload_n (q := 92) (i := 3) (j := 3) (x := nI 0) X rfl rfl dX3_take_91 rfl ?_
      refine r_iret X Y ?_ dX3_take_92
      obtain ⟨t0, ht0⟩ : ∃ t0, t = t0 := ⟨_, rfl⟩
      rcases (show t = 0 ∨ t = 1 ∨ t = 2 ∨ t = 3 by omega) with hh | hh | hh | hh <;> first | (exfalso; omega) | skip
      all_goals subst hh
      all_goals refine ⟨by first | rfl | simp, ?_, rfl⟩
      all_goals first | rw [tk_0] | rw [tk_1] | rw [tk_2] | rw [tk_3]
      all_goals funext a b
      all_goals by_cases ha : a = i <;> simp [up2, sr, up1, bt, ha]
  · replace c3 : t = 0 := (kI_eq0 (by omega)).mp c3
    refine r_aload_n (q := 7) (i := 0) (j := 0) (x := base + i) X rfl rfl dX3_take_6 rfl ?_
    refine r_dup (q := 8) X rfl dX3_take_7 rfl ?_
    refine r_getf (q := 11) (i := i) (v := .int (nI (Mx i 0))) X fk_X3_9 hs rfl rfl dX3_take_8 rfl ?_
    refine r_iconst (q := 12) (v := nI 1) X kc_1 dX3_take_11 rfl ?_
    refine r_isubR (q := 13) (x := nI (Mx i 0)) (y := nI 1) (v := nI ((Mx i 0) - 1)) X (pk_sub (by omega)) dX3_take_12 rfl ?_
    refine r_puti (q := 16) (i := i) (n := (Mx i 0) - 1) X fk_X3_9 kp_X3_0 hs rfl dX3_take_13 rfl ?_
    refine r_goto (tgt := 81) X (by decide) dX3_take_16 ?_
    refine r_aload_n (q := 82) (i := 0) (j := 0) (x := base + i) X rfl rfl dX3_take_81 rfl ?_
    refine r_dup (q := 83) X rfl dX3_take_82 rfl ?_
    refine r_getf (q := 86) (i := i) (v := .int (nI (Mx i 2))) X fk_X3_18 hs rfl (by simp [ks_v, up2]) dX3_take_83 rfl ?_
    refine r_iconst (q := 87) (v := nI 1) X kc_1 dX3_take_86 rfl ?_
    refine r_iaddR (q := 88) (x := nI (Mx i 2)) (y := nI 1) (v := nI ((Mx i 2) + 1)) X (nI_add _ _) dX3_take_87 rfl ?_
    refine r_puti (q := 91) (i := i) (n := (Mx i 2) + 1) X fk_X3_18 kp_X3_2 hs rfl dX3_take_88 rfl ?_
    refine r_iload_n (q := 92) (i := 3) (j := 3) (x := nI 0) X rfl rfl dX3_take_91 rfl ?_
    refine r_iret X Y ?_ dX3_take_92
    obtain ⟨t0, ht0⟩ : ∃ t0, t = t0 := ⟨_, rfl⟩
    rcases (show t = 0 ∨ t = 1 ∨ t = 2 ∨ t = 3 by omega) with hh | hh | hh | hh <;> first | (exfalso; omega) | skip
    all_goals subst hh
    all_goals refine ⟨by first | rfl | simp, ?_, rfl⟩
    all_goals first | rw [tk_0] | rw [tk_1] | rw [tk_2] | rw [tk_3]
    all_goals funext a b
    all_goals by_cases ha : a = i <;> simp [up2, sr, up1, bt, ha]
