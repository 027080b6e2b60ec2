/-! THE REFERENCE's leaves, and bits counted -/
theorem kw_RJ6_265 : Jvm.Cond.constant RJ6 265 1431655765 ∈ ks_all := kw 407 (by decide +kernel)
theorem kw_RJ6_266 : Jvm.Cond.constant RJ6 266 858993459 ∈ ks_all := kw 408 (by decide +kernel)
theorem kw_RJ6_267 : Jvm.Cond.constant RJ6 267 252645135 ∈ ks_all := kw 409 (by decide +kernel)
theorem kb_16 : (Int8.ofInt (16)).toInt32 = nI 16 := by decide
theorem kb_63 : (Int8.ofInt (63)).toInt32 = nI 63 := by decide
def cpk (M : ks_M) (a b k : Nat) : ks_M := fun r c => if r = b ∧ c < k then M a c else M r c
theorem cpk_0 (M : ks_M) (a b : Nat) : M = cpk M a b 0 := by funext r c; simp [cpk]
theorem cpk_o {M : ks_M} {a b k c : Nat} (h : a ≠ b) : cpk M a b k a c = M a c := by simp [cpk, h]
theorem cpk_s (M : ks_M) (a b k : Nat) : up2 (cpk M a b k) b k (M a k) = cpk M a b (k + 1) := by
  funext r c
  by_cases hr : r = b
  · by_cases hc : c = k
    · simp [up2, cpk, hr, hc]
    · by_cases h2 : c < k
      · simp [up2, cpk, hr, hc, h2, Nat.lt_succ_of_lt h2]
      · simp [up2, cpk, hr, hc, h2, show ¬ c < k + 1 by omega]
  · simp [up2, cpk, hr]
set_option maxHeartbeats 8000000 in
theorem c_copy7 (l : Launch) (G : ks_G) (base : Nat) (Mx : ks_M) (Lx : ks_L) (a b : Nat) (ha : SH[a]? = some (1, 12, [])) (hb : SH[b]? = some (1, 12, [])) (hab : a ≠ b) : KV l G base 0 0 0 yX7_copy cX7_copy 3 [.ref (base + a), .ref (base + b)] SH SH Mx Lx (fun M1 L1 => M1 = cpk Mx a b 12 ∧ L1 = Lx) := by
  refine k_metv (by decide) (Nat.le_of_ble_eq_true rfl) (fun K hK hRm X Y => ?_)
  subst hK
  have lp : ∀ (fuel : Nat) (k : Nat), 12 - k < fuel → (k ≤ 12) → RN K G base 3 0 0 SH ((cpk Mx a b k)) Lx 2 [(0, .ref (base + a)), (1, .ref (base + b)), (2, .int (nI (k)))] [] := by
    intro fuel
    induction fuel with
    | zero => intro k hfu; exact absurd hfu (Nat.not_lt_zero _)
    | succ fuel ih =>
      intro k hfu hk
      refine r_iload_n (q := 3) (i := 2) (j := 2) (x := nI (k)) X rfl rfl dX7_copy_2 rfl ?_
      refine r_bipush (q := 5) (v := nI 12) X kb_12 dX7_copy_3 rfl ?_
      refine r_icmp_ge (q := 8) (tgt := 20) X (by decide) dX7_copy_5 rfl (fun c5 => ?_) (fun c5 => ?_)
      · replace c5 : 12 ≤ k := (nI_leI (by omega) (by omega)).mp c5
        refine r_vret X Y ?_ dX7_copy_20
        exact ⟨by rw [show k = 12 by omega], rfl⟩
      · replace c5 : ¬ 12 ≤ k := fun h => c5 ((nI_leI (by omega) (by omega)).mpr h)
        refine r_aload_n (q := 9) (i := 1) (j := 1) (x := base + b) X rfl rfl dX7_copy_8 rfl ?_
        refine r_iload_n (q := 10) (i := 2) (j := 2) (x := nI (k)) X rfl rfl dX7_copy_9 rfl ?_
        refine r_aload_n (q := 11) (i := 0) (j := 0) (x := base + a) X rfl rfl dX7_copy_10 rfl ?_
        refine r_iload_n (q := 12) (i := 2) (j := 2) (x := nI (k)) X rfl rfl dX7_copy_11 rfl ?_
        refine r_iald (q := 13) (i := a) (j := k) (v := Mx a k) X ha (by omega) (Nat.le_of_ble_eq_true rfl) (cpk_o hab) dX7_copy_12 rfl ?_
        refine r_iast (q := 14) (i := b) (j := k) (v := Mx a k) X hb (by omega) (Nat.le_of_ble_eq_true rfl) dX7_copy_13 rfl ?_
        refine r_iinc (q := 17) (i := 2) (x := nI (k)) (v := nI (k + 1)) X rfl (Nat.le_of_ble_eq_true rfl) (kinc 1 rfl) dX7_copy_14 rfl ?_
        refine r_goto (tgt := 2) X (by decide) dX7_copy_17 ?_
        refine r_pl [(0, .ref (base + a)), (1, .ref (base + b)), (2, .int (nI (k + 1)))] ⟨rfl, rfl, rfl, trivial⟩ ?_
        exact r_mem _ (cpk_s Mx a b k) (ih (k + 1) (by omega) (by omega))
  refine r_pl [(0, .ref (base + a)), (1, .ref (base + b))] ⟨rfl, rfl, trivial⟩ ?_
  refine r_iconst (q := 1) (v := nI 0) X kc_0 dX7_copy_0 rfl ?_
  refine r_istore_n (q := 2) (i := 2) (j := 2) X rfl (Nat.le_of_ble_eq_true rfl) dX7_copy_1 rfl ?_
  refine r_pl [(0, .ref (base + a)), (1, .ref (base + b)), (2, .int (nI (0)))] ⟨rfl, rfl, rfl, trivial⟩ ?_
  exact r_mem _ (cpk_0 Mx a b) (lp 13 0 (by omega) (by omega))
def mnk (s : Nat) : Nat → Nat
  | 0 => 0
  | k + 1 => mnk s k + (s >>> k &&& 1)
theorem mnk_le (s : Nat) : ∀ k, mnk s k ≤ k
  | 0 => Nat.le_refl 0
  | k + 1 => Nat.add_le_add (mnk_le s k) Nat.and_le_right
set_option maxHeartbeats 8000000 in
theorem c_many (l : Launch) (G : ks_G) (base : Nat) (Mx : ks_M) (Lx : ks_L) (s : Nat) (hs : s < 2147483648) : KI l G base 0 yX7_many cX7_many 3 .int [.int (nI (s))] SH Mx Lx (fun rr M1 L1 => rr = nI (mnk s 6) ∧ M1 = Mx ∧ L1 = Lx) := by
  refine k_meti (by decide) (Nat.le_of_ble_eq_true rfl) (fun K hK X Y => ?_)
  subst hK
  have lp : ∀ (fuel : Nat) (k : Nat), 6 - k < fuel → (k ≤ 6) → RN K G base 3 0 0 SH Mx Lx 4 [(0, .int (nI (s))), (1, .int (nI (mnk s k))), (2, .int (nI (k)))] [] := by
    intro fuel
    induction fuel with
    | zero => intro k hfu; exact absurd hfu (Nat.not_lt_zero _)
    | succ fuel ih =>
      intro k hfu hk
      refine r_iload_n (q := 5) (i := 2) (j := 2) (x := nI (k)) X rfl rfl dX7_many_4 rfl ?_
      refine r_bipush (q := 7) (v := nI 6) X kb_6 dX7_many_5 rfl ?_
      refine r_icmp_ge (q := 10) (tgt := 24) X (by decide) dX7_many_7 rfl (fun c7 => ?_) (fun c7 => ?_)
      · replace c7 : 6 ≤ k := (nI_leI (by omega) (by omega)).mp c7
        refine r_iload_n (q := 25) (i := 1) (j := 1) (x := nI (mnk s k)) X rfl rfl dX7_many_24 rfl ?_
        refine r_iret X Y ?_ dX7_many_25
        exact ⟨by rw [show k = 6 by omega], rfl, rfl⟩
      · replace c7 : ¬ 6 ≤ k := fun h => c7 ((nI_leI (by omega) (by omega)).mpr h)
        refine r_iload_n (q := 11) (i := 1) (j := 1) (x := nI (mnk s k)) X rfl rfl dX7_many_10 rfl ?_
        refine r_iload_n (q := 12) (i := 0) (j := 0) (x := nI (s)) X rfl rfl dX7_many_11 rfl ?_
        refine r_iload_n (q := 13) (i := 2) (j := 2) (x := nI (k)) X rfl rfl dX7_many_12 rfl ?_
        refine r_ishrR (q := 14) (x := nI (s)) (y := nI (k)) (v := nI (s >>> k)) X (k_shr hs (by omega)) dX7_many_13 rfl ?_
        refine r_iconst (q := 15) (v := nI 1) X kc_1 dX7_many_14 rfl ?_
        refine r_iandR (q := 16) (x := nI (s >>> k)) (y := nI 1) (v := nI ((s >>> k) &&& 1)) X (fa_and _ _) dX7_many_15 rfl ?_
        refine r_iaddR (q := 17) (x := nI (mnk s k)) (y := nI ((s >>> k) &&& 1)) (v := nI ((mnk s k) + ((s >>> k) &&& 1))) X (nI_add _ _) dX7_many_16 rfl ?_
        refine r_istore_n (q := 18) (i := 1) (j := 1) X rfl (Nat.le_of_ble_eq_true rfl) dX7_many_17 rfl ?_
        refine r_iinc (q := 21) (i := 2) (x := nI (k)) (v := nI (k + 1)) X rfl (Nat.le_of_ble_eq_true rfl) (kinc 1 rfl) dX7_many_18 rfl ?_
        refine r_goto (tgt := 4) X (by decide) dX7_many_21 ?_
        refine r_pl [(0, .int (nI (s))), (1, .int (nI (mnk s (k + 1)))), (2, .int (nI (k + 1)))] ⟨rfl, rfl, rfl, trivial⟩ ?_
        exact ih (k + 1) (by omega) (by omega)
  refine r_pl [(0, .int (nI (s)))] ⟨rfl, trivial⟩ ?_
  refine r_iconst (q := 1) (v := nI 0) X kc_0 dX7_many_0 rfl ?_
  refine r_istore_n (q := 2) (i := 1) (j := 1) X rfl (Nat.le_of_ble_eq_true rfl) dX7_many_1 rfl ?_
  refine r_iconst (q := 3) (v := nI 0) X kc_0 dX7_many_2 rfl ?_
  refine r_istore_n (q := 4) (i := 2) (j := 2) X rfl (Nat.le_of_ble_eq_true rfl) dX7_many_3 rfl ?_
  refine r_pl [(0, .int (nI (s))), (1, .int (nI (mnk s 0))), (2, .int (nI (0)))] ⟨rfl, rfl, rfl, trivial⟩ ?_
  exact lp 7 0 (by omega) (by omega)
def kb1 (x : Int32) : Int32 := x - ((x.toUInt32 >>> ((nI 1).toUInt32 &&& Int32.toUInt32 31)).toInt32 &&& 1431655765)
def kb2 (x : Int32) : Int32 := (x &&& 858993459) + ((x.toUInt32 >>> ((nI 2).toUInt32 &&& Int32.toUInt32 31)).toInt32 &&& 858993459)
def kb3 (x : Int32) : Int32 := (x + (x.toUInt32 >>> ((nI 4).toUInt32 &&& Int32.toUInt32 31)).toInt32) &&& 252645135
def kb4 (x : Int32) : Int32 := x + (x.toUInt32 >>> ((nI 8).toUInt32 &&& Int32.toUInt32 31)).toInt32
def kb5 (x : Int32) : Int32 := x + (x.toUInt32 >>> ((nI 16).toUInt32 &&& Int32.toUInt32 31)).toInt32
theorem kb_all : ∀ s, s < 64 → kb5 (kb4 (kb3 (kb2 (kb1 (nI s))))) &&& nI 63 = nI (mnk s 6) := by decide +kernel
set_option maxHeartbeats 8000000 in
theorem c_bits (l : Launch) (G : ks_G) (base : Nat) (Mx : ks_M) (Lx : ks_L) (s : Nat) (hs : s < 64) : KI l G base 0 yJ6_bitCount_0f7a4 cJ6_bitCount_0f7a4 1 .int [.int (nI (s))] SH Mx Lx (fun rr M1 L1 => rr = nI (mnk s 6) ∧ M1 = Mx ∧ L1 = Lx) := by
  refine k_meti (by decide) (Nat.le_of_ble_eq_true rfl) (fun K hK X Y => ?_)
  subst hK
  refine r_pl [(0, .int (nI (s)))] ⟨rfl, trivial⟩ ?_
  refine r_iload_n (q := 1) (i := 0) (j := 0) (x := nI (s)) X rfl rfl dJ6_bitCount_0f7a4_0 rfl ?_
  refine r_iload_n (q := 2) (i := 0) (j := 0) (x := nI (s)) X rfl rfl dJ6_bitCount_0f7a4_1 rfl ?_
  refine r_iconst (q := 3) (v := nI 1) X kc_1 dJ6_bitCount_0f7a4_2 rfl ?_
  refine r_iushrR (q := 4) (v := ((nI (s)).toUInt32 >>> ((nI 1).toUInt32 &&& Int32.toUInt32 31)).toInt32) X rfl dJ6_bitCount_0f7a4_3 rfl ?_
  refine r_ldcw (q := 7) (v := 1431655765) X kw_RJ6_265 dJ6_bitCount_0f7a4_4 rfl ?_
  refine r_iandR (q := 8) (x := ((nI (s)).toUInt32 >>> ((nI 1).toUInt32 &&& Int32.toUInt32 31)).toInt32) (y := 1431655765) (v := (((nI (s)).toUInt32 >>> ((nI 1).toUInt32 &&& Int32.toUInt32 31)).toInt32) &&& (1431655765)) X rfl dJ6_bitCount_0f7a4_7 rfl ?_
  refine r_isubR (q := 9) (x := nI (s)) (y := (((nI (s)).toUInt32 >>> ((nI 1).toUInt32 &&& Int32.toUInt32 31)).toInt32) &&& (1431655765)) (v := kb1 (nI (s))) X rfl dJ6_bitCount_0f7a4_8 rfl ?_
  refine r_istore_n (q := 10) (i := 0) (j := 0) X rfl (Nat.le_of_ble_eq_true rfl) dJ6_bitCount_0f7a4_9 rfl ?_
  refine r_iload_n (q := 11) (i := 0) (j := 0) (x := kb1 (nI (s))) X rfl rfl dJ6_bitCount_0f7a4_10 rfl ?_
  refine r_ldcw (q := 14) (v := 858993459) X kw_RJ6_266 dJ6_bitCount_0f7a4_11 rfl ?_
  refine r_iandR (q := 15) (x := kb1 (nI (s))) (y := 858993459) (v := (kb1 (nI (s))) &&& (858993459)) X rfl dJ6_bitCount_0f7a4_14 rfl ?_
  refine r_iload_n (q := 16) (i := 0) (j := 0) (x := kb1 (nI (s))) X rfl rfl dJ6_bitCount_0f7a4_15 rfl ?_
  refine r_iconst (q := 17) (v := nI 2) X kc_2 dJ6_bitCount_0f7a4_16 rfl ?_
  refine r_iushrR (q := 18) (v := ((kb1 (nI (s))).toUInt32 >>> ((nI 2).toUInt32 &&& Int32.toUInt32 31)).toInt32) X rfl dJ6_bitCount_0f7a4_17 rfl ?_
  refine r_ldcw (q := 21) (v := 858993459) X kw_RJ6_266 dJ6_bitCount_0f7a4_18 rfl ?_
  refine r_iandR (q := 22) (x := ((kb1 (nI (s))).toUInt32 >>> ((nI 2).toUInt32 &&& Int32.toUInt32 31)).toInt32) (y := 858993459) (v := (((kb1 (nI (s))).toUInt32 >>> ((nI 2).toUInt32 &&& Int32.toUInt32 31)).toInt32) &&& (858993459)) X rfl dJ6_bitCount_0f7a4_21 rfl ?_
  refine r_iaddR (q := 23) (x := (kb1 (nI (s))) &&& (858993459)) (y := (((kb1 (nI (s))).toUInt32 >>> ((nI 2).toUInt32 &&& Int32.toUInt32 31)).toInt32) &&& (858993459)) (v := kb2 (kb1 (nI (s)))) X rfl dJ6_bitCount_0f7a4_22 rfl ?_
  refine r_istore_n (q := 24) (i := 0) (j := 0) X rfl (Nat.le_of_ble_eq_true rfl) dJ6_bitCount_0f7a4_23 rfl ?_
  refine r_iload_n (q := 25) (i := 0) (j := 0) (x := kb2 (kb1 (nI (s)))) X rfl rfl dJ6_bitCount_0f7a4_24 rfl ?_
  refine r_iload_n (q := 26) (i := 0) (j := 0) (x := kb2 (kb1 (nI (s)))) X rfl rfl dJ6_bitCount_0f7a4_25 rfl ?_
  refine r_iconst (q := 27) (v := nI 4) X kc_4 dJ6_bitCount_0f7a4_26 rfl ?_
  refine r_iushrR (q := 28) (v := ((kb2 (kb1 (nI (s)))).toUInt32 >>> ((nI 4).toUInt32 &&& Int32.toUInt32 31)).toInt32) X rfl dJ6_bitCount_0f7a4_27 rfl ?_
  refine r_iaddR (q := 29) (x := kb2 (kb1 (nI (s)))) (y := ((kb2 (kb1 (nI (s)))).toUInt32 >>> ((nI 4).toUInt32 &&& Int32.toUInt32 31)).toInt32) (v := (kb2 (kb1 (nI (s)))) + (((kb2 (kb1 (nI (s)))).toUInt32 >>> ((nI 4).toUInt32 &&& Int32.toUInt32 31)).toInt32)) X rfl dJ6_bitCount_0f7a4_28 rfl ?_
  refine r_ldcw (q := 32) (v := 252645135) X kw_RJ6_267 dJ6_bitCount_0f7a4_29 rfl ?_
  refine r_iandR (q := 33) (x := (kb2 (kb1 (nI (s)))) + (((kb2 (kb1 (nI (s)))).toUInt32 >>> ((nI 4).toUInt32 &&& Int32.toUInt32 31)).toInt32)) (y := 252645135) (v := kb3 (kb2 (kb1 (nI (s))))) X rfl dJ6_bitCount_0f7a4_32 rfl ?_
  refine r_istore_n (q := 34) (i := 0) (j := 0) X rfl (Nat.le_of_ble_eq_true rfl) dJ6_bitCount_0f7a4_33 rfl ?_
  refine r_iload_n (q := 35) (i := 0) (j := 0) (x := kb3 (kb2 (kb1 (nI (s))))) X rfl rfl dJ6_bitCount_0f7a4_34 rfl ?_
  refine r_iload_n (q := 36) (i := 0) (j := 0) (x := kb3 (kb2 (kb1 (nI (s))))) X rfl rfl dJ6_bitCount_0f7a4_35 rfl ?_
  refine r_bipush (q := 38) (v := nI 8) X kb_8 dJ6_bitCount_0f7a4_36 rfl ?_
  refine r_iushrR (q := 39) (v := ((kb3 (kb2 (kb1 (nI (s))))).toUInt32 >>> ((nI 8).toUInt32 &&& Int32.toUInt32 31)).toInt32) X rfl dJ6_bitCount_0f7a4_38 rfl ?_
  refine r_iaddR (q := 40) (x := kb3 (kb2 (kb1 (nI (s))))) (y := ((kb3 (kb2 (kb1 (nI (s))))).toUInt32 >>> ((nI 8).toUInt32 &&& Int32.toUInt32 31)).toInt32) (v := (kb3 (kb2 (kb1 (nI (s))))) + (((kb3 (kb2 (kb1 (nI (s))))).toUInt32 >>> ((nI 8).toUInt32 &&& Int32.toUInt32 31)).toInt32)) X rfl dJ6_bitCount_0f7a4_39 rfl ?_
  refine r_istore_n (q := 41) (i := 0) (j := 0) X rfl (Nat.le_of_ble_eq_true rfl) dJ6_bitCount_0f7a4_40 rfl ?_
  refine r_iload_n (q := 42) (i := 0) (j := 0) (x := (kb3 (kb2 (kb1 (nI (s))))) + (((kb3 (kb2 (kb1 (nI (s))))).toUInt32 >>> ((nI 8).toUInt32 &&& Int32.toUInt32 31)).toInt32)) X rfl rfl dJ6_bitCount_0f7a4_41 rfl ?_
  refine r_iload_n (q := 43) (i := 0) (j := 0) (x := (kb3 (kb2 (kb1 (nI (s))))) + (((kb3 (kb2 (kb1 (nI (s))))).toUInt32 >>> ((nI 8).toUInt32 &&& Int32.toUInt32 31)).toInt32)) X rfl rfl dJ6_bitCount_0f7a4_42 rfl ?_
  refine r_bipush (q := 45) (v := nI 16) X kb_16 dJ6_bitCount_0f7a4_43 rfl ?_
  refine r_iushrR (q := 46) (v := (((kb3 (kb2 (kb1 (nI (s))))) + (((kb3 (kb2 (kb1 (nI (s))))).toUInt32 >>> ((nI 8).toUInt32 &&& Int32.toUInt32 31)).toInt32)).toUInt32 >>> ((nI 16).toUInt32 &&& Int32.toUInt32 31)).toInt32) X rfl dJ6_bitCount_0f7a4_45 rfl ?_
  refine r_iaddR (q := 47) (x := (kb3 (kb2 (kb1 (nI (s))))) + (((kb3 (kb2 (kb1 (nI (s))))).toUInt32 >>> ((nI 8).toUInt32 &&& Int32.toUInt32 31)).toInt32)) (y := (((kb3 (kb2 (kb1 (nI (s))))) + (((kb3 (kb2 (kb1 (nI (s))))).toUInt32 >>> ((nI 8).toUInt32 &&& Int32.toUInt32 31)).toInt32)).toUInt32 >>> ((nI 16).toUInt32 &&& Int32.toUInt32 31)).toInt32) (v := ((kb3 (kb2 (kb1 (nI (s))))) + (((kb3 (kb2 (kb1 (nI (s))))).toUInt32 >>> ((nI 8).toUInt32 &&& Int32.toUInt32 31)).toInt32)) + ((((kb3 (kb2 (kb1 (nI (s))))) + (((kb3 (kb2 (kb1 (nI (s))))).toUInt32 >>> ((nI 8).toUInt32 &&& Int32.toUInt32 31)).toInt32)).toUInt32 >>> ((nI 16).toUInt32 &&& Int32.toUInt32 31)).toInt32)) X rfl dJ6_bitCount_0f7a4_46 rfl ?_
  refine r_istore_n (q := 48) (i := 0) (j := 0) X rfl (Nat.le_of_ble_eq_true rfl) dJ6_bitCount_0f7a4_47 rfl ?_
  refine r_iload_n (q := 49) (i := 0) (j := 0) (x := ((kb3 (kb2 (kb1 (nI (s))))) + (((kb3 (kb2 (kb1 (nI (s))))).toUInt32 >>> ((nI 8).toUInt32 &&& Int32.toUInt32 31)).toInt32)) + ((((kb3 (kb2 (kb1 (nI (s))))) + (((kb3 (kb2 (kb1 (nI (s))))).toUInt32 >>> ((nI 8).toUInt32 &&& Int32.toUInt32 31)).toInt32)).toUInt32 >>> ((nI 16).toUInt32 &&& Int32.toUInt32 31)).toInt32)) X rfl rfl dJ6_bitCount_0f7a4_48 rfl ?_
  refine r_bipush (q := 51) (v := nI 63) X kb_63 dJ6_bitCount_0f7a4_49 rfl ?_
  refine r_iandR (q := 52) (x := ((kb3 (kb2 (kb1 (nI (s))))) + (((kb3 (kb2 (kb1 (nI (s))))).toUInt32 >>> ((nI 8).toUInt32 &&& Int32.toUInt32 31)).toInt32)) + ((((kb3 (kb2 (kb1 (nI (s))))) + (((kb3 (kb2 (kb1 (nI (s))))).toUInt32 >>> ((nI 8).toUInt32 &&& Int32.toUInt32 31)).toInt32)).toUInt32 >>> ((nI 16).toUInt32 &&& Int32.toUInt32 31)).toInt32)) (y := nI 63) (v := (((kb3 (kb2 (kb1 (nI (s))))) + (((kb3 (kb2 (kb1 (nI (s))))).toUInt32 >>> ((nI 8).toUInt32 &&& Int32.toUInt32 31)).toInt32)) + ((((kb3 (kb2 (kb1 (nI (s))))) + (((kb3 (kb2 (kb1 (nI (s))))).toUInt32 >>> ((nI 8).toUInt32 &&& Int32.toUInt32 31)).toInt32)).toUInt32 >>> ((nI 16).toUInt32 &&& Int32.toUInt32 31)).toInt32)) &&& (nI 63)) X rfl dJ6_bitCount_0f7a4_51 rfl ?_
  refine r_iret X Y ?_ dJ6_bitCount_0f7a4_52
  exact ⟨kb_all s hs, rfl, rfl⟩
theorem kN_sub {n : Nat} (h : n < 1000) : (nI n - nI 1).toInt = (n : Int) - 1 := pk_sub_toInt (by omega) (by decide)
theorem k_m1 {a : Nat} (h : 0 < a) : nI a + (-1) = nI (a - 1) := by
  obtain ⟨b, rfl⟩ : ∃ b, a = b + 1 := ⟨a - 1, by omega⟩
  rw [pk_m1, Nat.add_sub_cancel]
set_option maxHeartbeats 8000000 in
theorem c_noHouse (l : Launch) (G : ks_G) (base : Nat) (Mx : ks_M) (Lx : ks_L) (x : Int32) (hn : Mx 44 4 ≤ 6) : KI l G base 1 yX7_noHouse cX7_noHouse 2 .boolean [.ref (base + 44), .int (x)] SH Mx Lx (fun rr M1 L1 => (∃ k, rr = nI 0 ∧ k < Mx 44 4 ∧ x = nI k ∧ M1 = Mx ∧ L1 = Lx) ∨ (rr = nI 1 ∧ (∀ k, k < Mx 44 4 → x ≠ nI k) ∧ M1 = Mx ∧ L1 = Lx)) := by
  refine k_meti (by decide) (Nat.le_of_ble_eq_true rfl) (fun K hK X Y => ?_)
  subst hK
  refine r_pl [(0, .ref (base + 44)), (1, .int (x))] ⟨rfl, rfl, trivial⟩ ?_
  refine r_iload_n (q := 1) (i := 1) (j := 1) (x := x) X rfl rfl dX7_noHouse_0 rfl ?_
  refine r_i2l (q := 2) (v := x.toInt64) X rfl dX7_noHouse_1 rfl ?_
  refine r_lconst (q := 3) (v := 0) X rfl dX7_noHouse_2 rfl ?_
  refine r_aload_n (q := 4) (i := 0) (j := 0) (x := base + 44) X rfl rfl dX7_noHouse_3 rfl ?_
  refine r_getf (q := 7) (i := 44) (v := .int (nI (Mx 44 4))) X fk_X7_63 kh_44 rfl rfl dX7_noHouse_4 rfl ?_
  refine r_iconst (q := 8) (v := nI 1) X kc_1 dX7_noHouse_7 rfl ?_
  refine r_isubR (q := 9) (x := nI (Mx 44 4)) (y := nI 1) (v := (nI (Mx 44 4)) - (nI 1)) X rfl dX7_noHouse_8 rfl ?_
  refine r_i2l (q := 10) (v := (((nI (Mx 44 4)) - (nI 1)).toInt64)) X rfl dX7_noHouse_9 rfl ?_
  refine r_callSi (q := 13) X (c_in K.2.1 G base Mx Lx x.toInt64 0 (((nI (Mx 44 4)) - (nI 1)).toInt64)) ks_RX7_66 (by decide) (by decide) ⟨Nat.zero_le _, Nat.zero_le _⟩ rfl (Nat.le_of_ble_eq_true rfl) dX7_noHouse_10 rfl (fun r M1 L1 hp => ?_)
  rcases hp with ⟨e1, hin, hp2⟩ | ⟨e1, hin, hp2⟩
  · subst e1
    obtain ⟨e2, e3⟩ := hp2
    replace e2 := e2.symm
    subst e2
    replace e3 := e3.symm
    subst e3
    refine r_if_ne (q := 16) (tgt := 20) X (by decide) dX7_noHouse_13 rfl (fun _ => ?_) (fun c => absurd c (by decide))
    refine r_iconst (q := 21) (v := nI 0) X kc_0 dX7_noHouse_20 rfl ?_
    refine r_zret X Y (by decide) ?_ dX7_noHouse_21
    have hk := kIn (x := x) (y := 0) (z := (nI (Mx 44 4) - nI 1).toInt64) (a := 0) (b := (Mx 44 4 : Int) - 1) rfl (by rw [Int32.toInt_toInt64, kN_sub (by omega)]) (by omega) (by omega)
    rw [hk] at hin
    first
    | (obtain ⟨k, -, h2, h3⟩ := hin; exact Or.inl ⟨k, rfl, by omega, h3, rfl, rfl⟩)
    | exact Or.inr ⟨rfl, fun k h2 h3 => hin ⟨k, by omega, by omega, h3⟩, rfl, rfl⟩
  · subst e1
    obtain ⟨e2, e3⟩ := hp2
    replace e2 := e2.symm
    subst e2
    replace e3 := e3.symm
    subst e3
    refine r_if_ne (q := 16) (tgt := 20) X (by decide) dX7_noHouse_13 rfl (fun c => absurd c (by decide)) (fun _ => ?_)
    refine r_iconst (q := 17) (v := nI 1) X kc_1 dX7_noHouse_16 rfl ?_
    refine r_goto (tgt := 21) X (by decide) dX7_noHouse_17 ?_
    refine r_zret X Y (by decide) ?_ dX7_noHouse_21
    have hk := kIn (x := x) (y := 0) (z := (nI (Mx 44 4) - nI 1).toInt64) (a := 0) (b := (Mx 44 4 : Int) - 1) rfl (by rw [Int32.toInt_toInt64, kN_sub (by omega)]) (by omega) (by omega)
    rw [hk] at hin
    first
    | (obtain ⟨k, -, h2, h3⟩ := hin; exact Or.inl ⟨k, rfl, by omega, h3, rfl, rfl⟩)
    | exact Or.inr ⟨rfl, fun k h2 h3 => hin ⟨k, by omega, by omega, h3⟩, rfl, rfl⟩
def sg7 (M : ks_M) (y : Nat → Nat) (h t : Nat) : Nat := if hsb (y 4) h = 1 then (if hsb (y 5) h = 0 then shw (M 46 h) (M 47 (3 * h + t % 3)) t else 0) else 0
theorem hsb_2 (s k : Nat) : hsb s k < 2 := by unfold hsb; split <;> omega
set_option maxHeartbeats 8000000 in
theorem c_sight7 (l : Launch) (G : ks_G) (base : Nat) (Mx : ks_M) (Lx : ks_L) (p h t : Nat) (hp : SH[p]? = some (1, 12, [])) (hh : h < 6) (ht : t < 2147483648) (h4 : Mx p 4 < 2147483648) (h5 : Mx p 5 < 2147483648) (hs : Mx 46 h < 2147483648) (hnw : ∀ k, Mx 47 k < 1000) : KI l G base 1 yX7_sightOf cX7_sightOf 5 .int [.ref (base + 44), .ref (base + p), .int (nI (h)), .int (nI (t))] SH Mx Lx (fun rr M1 L1 => rr = nI (sg7 Mx (Mx p) h t) ∧ M1 = Mx ∧ L1 = Lx) := by
  refine k_meti (by decide) (Nat.le_of_ble_eq_true rfl) (fun K hK X Y => ?_)
  subst hK
  refine r_pl [(0, .ref (base + 44)), (1, .ref (base + p)), (2, .int (nI (h))), (3, .int (nI (t)))] ⟨rfl, rfl, rfl, rfl, trivial⟩ ?_
  refine r_aload_n (q := 1) (i := 1) (j := 1) (x := base + p) X rfl rfl dX7_sightOf_0 rfl ?_
  refine r_iconst (q := 2) (v := nI 4) X kc_4 dX7_sightOf_1 rfl ?_
  refine r_iald (q := 3) (i := p) (j := 4) (v := Mx p 4) X hp (by omega) (Nat.le_of_ble_eq_true rfl) rfl dX7_sightOf_2 rfl ?_
  refine r_iload_n (q := 4) (i := 2) (j := 2) (x := nI (h)) X rfl rfl dX7_sightOf_3 rfl ?_
  refine r_callSi (q := 7) X (c_has7 K.2.1 G base Mx Lx (Mx p 4) h h4 hh) ks_RX7_98 (by decide) (by decide) ⟨Nat.zero_le _, Nat.zero_le _⟩ rfl (Nat.le_of_ble_eq_true rfl) dX7_sightOf_4 rfl (fun r M1 L1 hp => ?_)
  obtain ⟨e1, e2, e3⟩ := hp
  subst e1
  replace e2 := e2.symm
  subst e2
  replace e3 := e3.symm
  subst e3
  have hb4 := hsb_2 (Mx p 4) h
  refine r_if_eq (q := 10) (tgt := 24) X (by decide) dX7_sightOf_7 rfl (fun c7 => ?_) (fun c7 => ?_)
  · replace c7 : (hsb (Mx p 4) h) = 0 := (kI_eq0 (by omega)).mp c7
    refine r_iconst (q := 25) (v := nI 0) X kc_0 dX7_sightOf_24 rfl ?_
    refine r_istore (q := 27) (i := 4) X (Nat.le_of_ble_eq_true rfl) dX7_sightOf_25 rfl ?_
    refine r_iload (q := 29) (i := 4) (x := nI 0) X rfl dX7_sightOf_27 rfl ?_
    refine r_if_eq (q := 32) (tgt := 57) X (by decide) dX7_sightOf_29 rfl (fun _ => ?_) (fun c => absurd c (by decide))
    refine r_iconst (q := 58) (v := nI 0) X kc_0 dX7_sightOf_57 rfl ?_
    refine r_iret X Y ?_ dX7_sightOf_58
    exact ⟨by unfold sg7; (repeat' split) <;> first | rfl | (exfalso; omega), rfl, rfl⟩
  · replace c7 : ¬ (hsb (Mx p 4) h) = 0 := fun h => (c7 ((kI_eq0 (by omega)).mpr h))
    refine r_aload_n (q := 11) (i := 1) (j := 1) (x := base + p) X rfl rfl dX7_sightOf_10 rfl ?_
    refine r_iconst (q := 12) (v := nI 5) X kc_5 dX7_sightOf_11 rfl ?_
    refine r_iald (q := 13) (i := p) (j := 5) (v := Mx p 5) X hp (by omega) (Nat.le_of_ble_eq_true rfl) rfl dX7_sightOf_12 rfl ?_
    refine r_iload_n (q := 14) (i := 2) (j := 2) (x := nI (h)) X rfl rfl dX7_sightOf_13 rfl ?_
    refine r_callSi (q := 17) X (c_has7 K.2.1 G base Mx Lx (Mx p 5) h h5 hh) ks_RX7_98 (by decide) (by decide) ⟨Nat.zero_le _, Nat.zero_le _⟩ rfl (Nat.le_of_ble_eq_true rfl) dX7_sightOf_14 rfl (fun r M1 L1 hp => ?_)
    obtain ⟨e1, e2, e3⟩ := hp
    subst e1
    replace e2 := e2.symm
    subst e2
    replace e3 := e3.symm
    subst e3
    have hb5 := hsb_2 (Mx p 5) h
    refine r_if_ne (q := 20) (tgt := 24) X (by decide) dX7_sightOf_17 rfl (fun c17 => ?_) (fun c17 => ?_)
    · replace c17 : ¬ (hsb (Mx p 5) h) = 0 := fun h => c17 ((kI_eq0 (by omega)).mpr h)
      refine r_iconst (q := 25) (v := nI 0) X kc_0 dX7_sightOf_24 rfl ?_
      refine r_istore (q := 27) (i := 4) X (Nat.le_of_ble_eq_true rfl) dX7_sightOf_25 rfl ?_
      refine r_iload (q := 29) (i := 4) (x := nI 0) X rfl dX7_sightOf_27 rfl ?_
      refine r_if_eq (q := 32) (tgt := 57) X (by decide) dX7_sightOf_29 rfl (fun _ => ?_) (fun c => absurd c (by decide))
      refine r_iconst (q := 58) (v := nI 0) X kc_0 dX7_sightOf_57 rfl ?_
      refine r_iret X Y ?_ dX7_sightOf_58
      exact ⟨by unfold sg7; (repeat' split) <;> first | rfl | (exfalso; omega), rfl, rfl⟩
    · replace c17 : (hsb (Mx p 5) h) = 0 := (kI_eq0 (by omega)).mp c17
      refine r_iconst (q := 21) (v := nI 1) X kc_1 dX7_sightOf_20 rfl ?_
      refine r_goto (tgt := 25) X (by decide) dX7_sightOf_21 ?_
      refine r_istore (q := 27) (i := 4) X (Nat.le_of_ble_eq_true rfl) dX7_sightOf_25 rfl ?_
      refine r_iload (q := 29) (i := 4) (x := nI 1) X rfl dX7_sightOf_27 rfl ?_
      refine r_if_eq (q := 32) (tgt := 57) X (by decide) dX7_sightOf_29 rfl (fun c => absurd c (by decide)) (fun _ => ?_)
      refine r_aload_n (q := 33) (i := 0) (j := 0) (x := base + 44) X rfl rfl dX7_sightOf_32 rfl ?_
      refine r_getf (q := 36) (i := 44) (v := .ref (base + 46)) X fk_X7_13 kh_44 rfl rfl dX7_sightOf_33 rfl ?_
      refine r_iload_n (q := 37) (i := 2) (j := 2) (x := nI (h)) X rfl rfl dX7_sightOf_36 rfl ?_
      refine r_iald (q := 38) (i := 46) (j := h) (v := Mx 46 h) X kh_46 (by omega) (Nat.le_of_ble_eq_true rfl) rfl dX7_sightOf_37 rfl ?_
      refine r_aload_n (q := 39) (i := 0) (j := 0) (x := base + 44) X rfl rfl dX7_sightOf_38 rfl ?_
      refine r_getf (q := 42) (i := 44) (v := .ref (base + 47)) X fk_X7_16 kh_44 rfl rfl dX7_sightOf_39 rfl ?_
      refine r_iconst (q := 43) (v := nI 3) X kc_3 dX7_sightOf_42 rfl ?_
      refine r_iload_n (q := 44) (i := 2) (j := 2) (x := nI (h)) X rfl rfl dX7_sightOf_43 rfl ?_
      refine r_imulR (q := 45) (x := nI 3) (y := nI (h)) (v := nI (3 * h)) X (pk_mul _ _) dX7_sightOf_44 rfl ?_
      refine r_iload_n (q := 46) (i := 3) (j := 3) (x := nI (t)) X rfl rfl dX7_sightOf_45 rfl ?_
      refine r_iconst (q := 47) (v := nI 3) X kc_3 dX7_sightOf_46 rfl ?_
      refine r_iremR (q := 48) (x := nI (t)) (y := nI 3) (v := nI (t % 3)) X (by decide) (pk_rem (by omega) (by omega) (by omega)) dX7_sightOf_47 rfl ?_
      refine r_iaddR (q := 49) (x := nI (3 * h)) (y := nI (t % 3)) (v := nI ((3 * h) + (t % 3))) X (nI_add _ _) dX7_sightOf_48 rfl ?_
      refine r_iald (q := 50) (i := 47) (j := (3 * h) + (t % 3)) (v := Mx 47 ((3 * h) + (t % 3))) X kh_47 (by omega) (Nat.le_of_ble_eq_true rfl) rfl dX7_sightOf_49 rfl ?_
      refine r_iload_n (q := 51) (i := 3) (j := 3) (x := nI (t)) X rfl rfl dX7_sightOf_50 rfl ?_
      refine r_callSi (q := 54) X (c_shows7 K.2.1 G base Mx Lx (Mx 46 h) (Mx 47 (3 * h + t % 3)) t hs (hnw _) ht) ks_RX7_102 (by decide) (by decide) ⟨Nat.zero_le _, Nat.zero_le _⟩ rfl (Nat.le_of_ble_eq_true rfl) dX7_sightOf_51 rfl (fun r M1 L1 hp => ?_)
      obtain ⟨e1, e2, e3⟩ := hp
      subst e1
      replace e2 := e2.symm
      subst e2
      replace e3 := e3.symm
      subst e3
      refine r_goto (tgt := 58) X (by decide) dX7_sightOf_54 ?_
      refine r_iret X Y ?_ dX7_sightOf_58
      exact ⟨by unfold sg7; (repeat' split) <;> first | rfl | (exfalso; omega), rfl, rfl⟩
def cn7 (n : Nat) (y : Nat → Nat) (t : Nat) : Nat := if t = 0 then (if 0 < y 0 then 1 else 0) else if t = 1 then (if y 0 + 1 < n then 1 else 0) else if t = 3 then 1 else (if 0 < n ∧ 0 < y 1 then 1 else 0)
set_option maxHeartbeats 8000000 in
theorem c_can7 (l : Launch) (G : ks_G) (base : Nat) (Mx : ks_M) (Lx : ks_L) (p t : Nat) (hp : SH[p]? = some (1, 12, [])) (ht : t < 2147483648) (h0 : Mx p 0 < 1000) (h1 : Mx p 1 < 1000) (hn : Mx 44 4 ≤ 6) : KI l G base 0 yX7_can cX7_can 3 .boolean [.ref (base + 44), .ref (base + p), .int (nI (t))] SH Mx Lx (fun rr M1 L1 => rr = nI (cn7 (Mx 44 4) (Mx p) t) ∧ M1 = Mx ∧ L1 = Lx) := by
  refine k_meti (by decide) (Nat.le_of_ble_eq_true rfl) (fun K hK X Y => ?_)
  subst hK
  refine r_pl [(0, .ref (base + 44)), (1, .ref (base + p)), (2, .int (nI (t)))] ⟨rfl, rfl, rfl, trivial⟩ ?_
  refine r_iload_n (q := 1) (i := 2) (j := 2) (x := nI (t)) X rfl rfl dX7_can_0 rfl ?_
  refine r_if_ne (q := 4) (tgt := 16) X (by decide) dX7_can_1 rfl (fun c1 => ?_) (fun c1 => ?_)
  · replace c1 : ¬ t = 0 := fun h => c1 ((kI_eq0 (by omega)).mpr h)
    refine r_iload_n (q := 17) (i := 2) (j := 2) (x := nI (t)) X rfl rfl dX7_can_16 rfl ?_
    refine r_iconst (q := 18) (v := nI 1) X kc_1 dX7_can_17 rfl ?_
    refine r_icmp_ne (q := 21) (tgt := 39) X (by decide) dX7_can_18 rfl (fun c18 => ?_) (fun c18 => ?_)
    · replace c18 : ¬ t = 1 := fun h => c18 ((kI_eq (by omega) (by omega)).mpr h)
      refine r_iload_n (q := 40) (i := 2) (j := 2) (x := nI (t)) X rfl rfl dX7_can_39 rfl ?_
      refine r_iconst (q := 41) (v := nI 3) X kc_3 dX7_can_40 rfl ?_
      refine r_icmp_eq (q := 44) (tgt := 57) X (by decide) dX7_can_41 rfl (fun c41 => ?_) (fun c41 => ?_)
      · replace c41 : t = 3 := (kI_eq (by omega) (by omega)).mp c41
        refine r_iconst (q := 58) (v := nI 1) X kc_1 dX7_can_57 rfl ?_
        refine r_goto (tgt := 62) X (by decide) dX7_can_58 ?_
        refine r_zret X Y (by decide) ?_ dX7_can_62
        exact ⟨by unfold cn7; (repeat' split) <;> first | rfl | (exfalso; omega), rfl, rfl⟩
      · replace c41 : ¬ t = 3 := fun h => (c41 ((kI_eq (by omega) (by omega)).mpr h))
        refine r_aload_n (q := 45) (i := 0) (j := 0) (x := base + 44) X rfl rfl dX7_can_44 rfl ?_
        refine r_getf (q := 48) (i := 44) (v := .int (nI (Mx 44 4))) X fk_X7_63 kh_44 rfl rfl dX7_can_45 rfl ?_
        refine r_if_le (q := 51) (tgt := 61) X (by decide) dX7_can_48 rfl (fun c48 => ?_) (fun c48 => ?_)
        · replace c48 : (Mx 44 4) ≤ 0 := (kI_le0 (by omega)).mp c48
          refine r_iconst (q := 62) (v := nI 0) X kc_0 dX7_can_61 rfl ?_
          refine r_zret X Y (by decide) ?_ dX7_can_62
          exact ⟨by unfold cn7; (repeat' split) <;> first | rfl | (exfalso; omega), rfl, rfl⟩
        · replace c48 : ¬ (Mx 44 4) ≤ 0 := fun h => c48 ((kI_le0 (by omega)).mpr h)
          refine r_aload_n (q := 52) (i := 1) (j := 1) (x := base + p) X rfl rfl dX7_can_51 rfl ?_
          refine r_iconst (q := 53) (v := nI 1) X kc_1 dX7_can_52 rfl ?_
          refine r_iald (q := 54) (i := p) (j := 1) (v := Mx p 1) X hp (by omega) (Nat.le_of_ble_eq_true rfl) rfl dX7_can_53 rfl ?_
          refine r_if_le (q := 57) (tgt := 61) X (by decide) dX7_can_54 rfl (fun c54 => ?_) (fun c54 => ?_)
          · replace c54 : (Mx p 1) ≤ 0 := (kI_le0 (by omega)).mp c54
            refine r_iconst (q := 62) (v := nI 0) X kc_0 dX7_can_61 rfl ?_
            refine r_zret X Y (by decide) ?_ dX7_can_62
            exact ⟨by unfold cn7; (repeat' split) <;> first | rfl | (exfalso; omega), rfl, rfl⟩
          · replace c54 : ¬ (Mx p 1) ≤ 0 := fun h => c54 ((kI_le0 (by omega)).mpr h)
            refine r_iconst (q := 58) (v := nI 1) X kc_1 dX7_can_57 rfl ?_
            refine r_goto (tgt := 62) X (by decide) dX7_can_58 ?_
            refine r_zret X Y (by decide) ?_ dX7_can_62
            exact ⟨by unfold cn7; (repeat' split) <;> first | rfl | (exfalso; omega), rfl, rfl⟩
    · replace c18 : t = 1 := (kI_eq (by omega) (by omega)).mp c18
      refine r_aload_n (q := 22) (i := 1) (j := 1) (x := base + p) X rfl rfl dX7_can_21 rfl ?_
      refine r_iconst (q := 23) (v := nI 0) X kc_0 dX7_can_22 rfl ?_
      refine r_iald (q := 24) (i := p) (j := 0) (v := Mx p 0) X hp (by omega) (Nat.le_of_ble_eq_true rfl) rfl dX7_can_23 rfl ?_
      refine r_iconst (q := 25) (v := nI 1) X kc_1 dX7_can_24 rfl ?_
      refine r_iaddR (q := 26) (x := nI (Mx p 0)) (y := nI 1) (v := nI ((Mx p 0) + 1)) X (nI_add _ _) dX7_can_25 rfl ?_
      refine r_aload_n (q := 27) (i := 0) (j := 0) (x := base + 44) X rfl rfl dX7_can_26 rfl ?_
      refine r_getf (q := 30) (i := 44) (v := .int (nI (Mx 44 4))) X fk_X7_63 kh_44 rfl rfl dX7_can_27 rfl ?_
      refine r_icmp_ge (q := 33) (tgt := 37) X (by decide) dX7_can_30 rfl (fun c30 => ?_) (fun c30 => ?_)
      · replace c30 : (Mx 44 4) ≤ ((Mx p 0) + 1) := (nI_leI (by omega) (by omega)).mp c30
        refine r_iconst (q := 38) (v := nI 0) X kc_0 dX7_can_37 rfl ?_
        refine r_zret X Y (by decide) ?_ dX7_can_38
        exact ⟨by unfold cn7; (repeat' split) <;> first | rfl | (exfalso; omega), rfl, rfl⟩
      · replace c30 : ¬ (Mx 44 4) ≤ ((Mx p 0) + 1) := fun h => c30 ((nI_leI (by omega) (by omega)).mpr h)
        refine r_iconst (q := 34) (v := nI 1) X kc_1 dX7_can_33 rfl ?_
        refine r_goto (tgt := 38) X (by decide) dX7_can_34 ?_
        refine r_zret X Y (by decide) ?_ dX7_can_38
        exact ⟨by unfold cn7; (repeat' split) <;> first | rfl | (exfalso; omega), rfl, rfl⟩
  · replace c1 : t = 0 := (kI_eq0 (by omega)).mp c1
    refine r_aload_n (q := 5) (i := 1) (j := 1) (x := base + p) X rfl rfl dX7_can_4 rfl ?_
    refine r_iconst (q := 6) (v := nI 0) X kc_0 dX7_can_5 rfl ?_
    refine r_iald (q := 7) (i := p) (j := 0) (v := Mx p 0) X hp (by omega) (Nat.le_of_ble_eq_true rfl) rfl dX7_can_6 rfl ?_
    refine r_if_le (q := 10) (tgt := 14) X (by decide) dX7_can_7 rfl (fun c7 => ?_) (fun c7 => ?_)
    · replace c7 : (Mx p 0) ≤ 0 := (kI_le0 (by omega)).mp c7
      refine r_iconst (q := 15) (v := nI 0) X kc_0 dX7_can_14 rfl ?_
      refine r_zret X Y (by decide) ?_ dX7_can_15
      exact ⟨by unfold cn7; (repeat' split) <;> first | rfl | (exfalso; omega), rfl, rfl⟩
    · replace c7 : ¬ (Mx p 0) ≤ 0 := fun h => c7 ((kI_le0 (by omega)).mpr h)
      refine r_iconst (q := 11) (v := nI 1) X kc_1 dX7_can_10 rfl ?_
      refine r_goto (tgt := 15) X (by decide) dX7_can_11 ?_
      refine r_zret X Y (by decide) ?_ dX7_can_15
      exact ⟨by unfold cn7; (repeat' split) <;> first | rfl | (exfalso; omega), rfl, rfl⟩
theorem k6 (k : Nat) (hk : k < 6) (h : Nat) : ¬ k = 6 + h := by omega
def bt7 (y : Nat → Nat) : Nat := 1 <<< (y 2 % 3)
def gn7 (M : ks_M) (y : Nat → Nat) : Nat := if y (6 + y 0) &&& bt7 y = 0 then sg7 M y (y 0) (y 2) else 0
def tk7 (M : ks_M) (y : Nat → Nat) (t : Nat) : Nat → Nat :=
  if t = 0 then up1 (up1 y 0 (y 0 - 1)) 2 (y 2 + 1) else if t = 1 then up1 (up1 y 0 (y 0 + 1)) 2 (y 2 + 1) else if t = 2 then up1 (up1 (up1 (up1 y (6 + y 0) (y (6 + y 0) ||| bt7 y)) 1 (y 1 - 1)) 3 (y 3 + gn7 M y)) 2 (y 2 + 1) else up1 y 2 (y 2 + 1)
theorem tk7_0 (M : ks_M) (y : Nat → Nat) : tk7 M y 0 = up1 (up1 y 0 (y 0 - 1)) 2 (y 2 + 1) := rfl
theorem tk7_1 (M : ks_M) (y : Nat → Nat) : tk7 M y 1 = up1 (up1 y 0 (y 0 + 1)) 2 (y 2 + 1) := rfl
theorem tk7_2 (M : ks_M) (y : Nat → Nat) : tk7 M y 2 = up1 (up1 (up1 (up1 y (6 + y 0) (y (6 + y 0) ||| bt7 y)) 1 (y 1 - 1)) 3 (y 3 + gn7 M y)) 2 (y 2 + 1) := rfl
theorem tk7_3 (M : ks_M) (y : Nat → Nat) : tk7 M y 3 = up1 y 2 (y 2 + 1) := rfl
set_option maxHeartbeats 8000000 in
theorem c_go7 (l : Launch) (G : ks_G) (base : Nat) (Mx : ks_M) (Lx : ks_L) (p t : Nat) (hp : SH[p]? = some (1, 12, [])) (ht : t < 4) (h0 : Mx p 0 < 6) (h2 : Mx p 2 < 2147483648) (h4 : Mx p 4 < 2147483648) (h5 : Mx p 5 < 2147483648) (h6 : Mx p (6 + Mx p 0) < 2147483648) (hs : ∀ k, Mx 46 k < 2147483648) (hnw : ∀ k, Mx 47 k < 1000) (hc0 : t = 0 → 0 < Mx p 0) (hc2 : t = 2 → 0 < Mx p 1) : KI l G base 2 yX7_go cX7_go 6 .int [.ref (base + 44), .ref (base + p), .int (nI (t))] SH Mx Lx (fun rr M1 L1 => rr = nI (if t = 2 then gn7 Mx (Mx p) else 0) ∧ M1 = sr Mx p (tk7 Mx (Mx p) t) ∧ L1 = Lx) := by
  refine k_meti (by decide) (Nat.le_of_ble_eq_true rfl) (fun K hK X Y => ?_)
  subst hK
  refine r_pl [(0, .ref (base + 44)), (1, .ref (base + p)), (2, .int (nI (t)))] ⟨rfl, rfl, rfl, trivial⟩ ?_
  rcases (show t = 0 ∨ t = 1 ∨ t = 2 ∨ t = 3 by omega) with rfl | rfl | rfl | rfl
  · skip
    refine r_iconst (q := 1) (v := nI 0) X kc_0 dX7_go_0 rfl ?_
    refine r_istore_n (q := 2) (i := 3) (j := 3) X rfl (Nat.le_of_ble_eq_true rfl) dX7_go_1 rfl ?_
    refine r_iload_n (q := 3) (i := 2) (j := 2) (x := nI (0)) X rfl rfl dX7_go_2 rfl ?_
    refine r_iconst (q := 4) (v := nI 2) X kc_2 dX7_go_3 rfl ?_
    refine r_icmp_ge (q := 7) (tgt := 22) X (by decide) dX7_go_4 rfl (fun c => absurd c (by decide)) (fun _ => ?_)
    refine r_aload_n (q := 8) (i := 1) (j := 1) (x := base + p) X rfl rfl dX7_go_7 rfl ?_
    refine r_iconst (q := 9) (v := nI 0) X kc_0 dX7_go_8 rfl ?_
    refine r_dup2 (q := 10) X rfl rfl dX7_go_9 rfl ?_
    refine r_iald (q := 11) (i := p) (j := 0) (v := Mx p 0) X hp (by omega) (Nat.le_of_ble_eq_true rfl) rfl dX7_go_10 rfl ?_
    refine r_iload_n (q := 12) (i := 2) (j := 2) (x := nI (0)) X rfl rfl dX7_go_11 rfl ?_
    refine r_if_ne (q := 15) (tgt := 19) X (by decide) dX7_go_12 rfl (fun c => absurd c (by decide)) (fun _ => ?_)
    refine r_iconst (q := 16) (v := (-1)) X kc_m1 dX7_go_15 rfl ?_
    refine r_goto (tgt := 20) X (by decide) dX7_go_16 ?_
    refine r_iaddR (q := 21) (x := nI (Mx p 0)) (y := (-1)) (v := nI (Mx p 0 - 1)) X (k_m1 (by omega)) dX7_go_20 rfl ?_
    refine r_iast (q := 22) (i := p) (j := 0) (v := Mx p 0 - 1) X hp (by omega) (Nat.le_of_ble_eq_true rfl) dX7_go_21 rfl ?_
    refine r_iload_n (q := 23) (i := 2) (j := 2) (x := nI (0)) X rfl rfl dX7_go_22 rfl ?_
    refine r_iconst (q := 24) (v := nI 2) X kc_2 dX7_go_23 rfl ?_
    refine r_icmp_ne (q := 27) (tgt := 95) X (by decide) dX7_go_24 rfl (fun _ => ?_) (fun c => absurd c (by decide))
    refine r_aload_n (q := 96) (i := 1) (j := 1) (x := base + p) X rfl rfl dX7_go_95 rfl ?_
    refine r_iconst (q := 97) (v := nI 2) X kc_2 dX7_go_96 rfl ?_
    refine r_dup2 (q := 98) X rfl rfl dX7_go_97 rfl ?_
    refine r_iald (q := 99) (i := p) (j := 2) (v := Mx p 2) X hp (by omega) (Nat.le_of_ble_eq_true rfl) (by simp [up2, k6 1 (by decide), k6 2 (by decide), k6 3 (by decide)]) dX7_go_98 rfl ?_
    refine r_iconst (q := 100) (v := nI 1) X kc_1 dX7_go_99 rfl ?_
    refine r_iaddR (q := 101) (x := nI (Mx p 2)) (y := nI 1) (v := nI ((Mx p 2) + 1)) X (nI_add _ _) dX7_go_100 rfl ?_
    refine r_iast (q := 102) (i := p) (j := 2) (v := (Mx p 2) + 1) X hp (by omega) (Nat.le_of_ble_eq_true rfl) dX7_go_101 rfl ?_
    refine r_iload_n (q := 103) (i := 3) (j := 3) (x := nI 0) X rfl rfl dX7_go_102 rfl ?_
    refine r_iret X Y ?_ dX7_go_103
    refine ⟨rfl, ?_, rfl⟩
    rw [tk7_0]
    funext a b
    by_cases ha : a = p <;> simp [up2, sr, up1, ha]
  · skip
    refine r_iconst (q := 1) (v := nI 0) X kc_0 dX7_go_0 rfl ?_
    refine r_istore_n (q := 2) (i := 3) (j := 3) X rfl (Nat.le_of_ble_eq_true rfl) dX7_go_1 rfl ?_
    refine r_iload_n (q := 3) (i := 2) (j := 2) (x := nI (1)) X rfl rfl dX7_go_2 rfl ?_
    refine r_iconst (q := 4) (v := nI 2) X kc_2 dX7_go_3 rfl ?_
    refine r_icmp_ge (q := 7) (tgt := 22) X (by decide) dX7_go_4 rfl (fun c => absurd c (by decide)) (fun _ => ?_)
    refine r_aload_n (q := 8) (i := 1) (j := 1) (x := base + p) X rfl rfl dX7_go_7 rfl ?_
    refine r_iconst (q := 9) (v := nI 0) X kc_0 dX7_go_8 rfl ?_
    refine r_dup2 (q := 10) X rfl rfl dX7_go_9 rfl ?_
    refine r_iald (q := 11) (i := p) (j := 0) (v := Mx p 0) X hp (by omega) (Nat.le_of_ble_eq_true rfl) rfl dX7_go_10 rfl ?_
    refine r_iload_n (q := 12) (i := 2) (j := 2) (x := nI (1)) X rfl rfl dX7_go_11 rfl ?_
    refine r_if_ne (q := 15) (tgt := 19) X (by decide) dX7_go_12 rfl (fun _ => ?_) (fun c => absurd c (by decide))
    refine r_iconst (q := 20) (v := nI 1) X kc_1 dX7_go_19 rfl ?_
    refine r_iaddR (q := 21) (x := nI (Mx p 0)) (y := nI 1) (v := nI ((Mx p 0) + 1)) X (nI_add _ _) dX7_go_20 rfl ?_
    refine r_iast (q := 22) (i := p) (j := 0) (v := (Mx p 0) + 1) X hp (by omega) (Nat.le_of_ble_eq_true rfl) dX7_go_21 rfl ?_
    refine r_iload_n (q := 23) (i := 2) (j := 2) (x := nI (1)) X rfl rfl dX7_go_22 rfl ?_
    refine r_iconst (q := 24) (v := nI 2) X kc_2 dX7_go_23 rfl ?_
    refine r_icmp_ne (q := 27) (tgt := 95) X (by decide) dX7_go_24 rfl (fun _ => ?_) (fun c => absurd c (by decide))
    refine r_aload_n (q := 96) (i := 1) (j := 1) (x := base + p) X rfl rfl dX7_go_95 rfl ?_
    refine r_iconst (q := 97) (v := nI 2) X kc_2 dX7_go_96 rfl ?_
    refine r_dup2 (q := 98) X rfl rfl dX7_go_97 rfl ?_
    refine r_iald (q := 99) (i := p) (j := 2) (v := Mx p 2) X hp (by omega) (Nat.le_of_ble_eq_true rfl) (by simp [up2, k6 1 (by decide), k6 2 (by decide), k6 3 (by decide)]) dX7_go_98 rfl ?_
    refine r_iconst (q := 100) (v := nI 1) X kc_1 dX7_go_99 rfl ?_
    refine r_iaddR (q := 101) (x := nI (Mx p 2)) (y := nI 1) (v := nI ((Mx p 2) + 1)) X (nI_add _ _) dX7_go_100 rfl ?_
    refine r_iast (q := 102) (i := p) (j := 2) (v := (Mx p 2) + 1) X hp (by omega) (Nat.le_of_ble_eq_true rfl) dX7_go_101 rfl ?_
    refine r_iload_n (q := 103) (i := 3) (j := 3) (x := nI 0) X rfl rfl dX7_go_102 rfl ?_
    refine r_iret X Y ?_ dX7_go_103
    refine ⟨rfl, ?_, rfl⟩
    rw [tk7_1]
    funext a b
    by_cases ha : a = p <;> simp [up2, sr, up1, ha]
  · skip
    refine r_iconst (q := 1) (v := nI 0) X kc_0 dX7_go_0 rfl ?_
    refine r_istore_n (q := 2) (i := 3) (j := 3) X rfl (Nat.le_of_ble_eq_true rfl) dX7_go_1 rfl ?_
    refine r_iload_n (q := 3) (i := 2) (j := 2) (x := nI (2)) X rfl rfl dX7_go_2 rfl ?_
    refine r_iconst (q := 4) (v := nI 2) X kc_2 dX7_go_3 rfl ?_
    refine r_icmp_ge (q := 7) (tgt := 22) X (by decide) dX7_go_4 rfl (fun _ => ?_) (fun c => absurd c (by decide))
    refine r_iload_n (q := 23) (i := 2) (j := 2) (x := nI (2)) X rfl rfl dX7_go_22 rfl ?_
    refine r_iconst (q := 24) (v := nI 2) X kc_2 dX7_go_23 rfl ?_
    refine r_icmp_ne (q := 27) (tgt := 95) X (by decide) dX7_go_24 rfl (fun c => absurd c (by decide)) (fun _ => ?_)
    refine r_aload_n (q := 28) (i := 1) (j := 1) (x := base + p) X rfl rfl dX7_go_27 rfl ?_
    refine r_iconst (q := 29) (v := nI 0) X kc_0 dX7_go_28 rfl ?_
    refine r_iald (q := 30) (i := p) (j := 0) (v := Mx p 0) X hp (by omega) (Nat.le_of_ble_eq_true rfl) rfl dX7_go_29 rfl ?_
    refine r_istore (q := 32) (i := 4) X (Nat.le_of_ble_eq_true rfl) dX7_go_30 rfl ?_
    refine r_iconst (q := 33) (v := nI 1) X kc_1 dX7_go_32 rfl ?_
    refine r_aload_n (q := 34) (i := 1) (j := 1) (x := base + p) X rfl rfl dX7_go_33 rfl ?_
    refine r_iconst (q := 35) (v := nI 2) X kc_2 dX7_go_34 rfl ?_
    refine r_iald (q := 36) (i := p) (j := 2) (v := Mx p 2) X hp (by omega) (Nat.le_of_ble_eq_true rfl) rfl dX7_go_35 rfl ?_
    refine r_iconst (q := 37) (v := nI 3) X kc_3 dX7_go_36 rfl ?_
    refine r_iremR (q := 38) (x := nI (Mx p 2)) (y := nI 3) (v := nI ((Mx p 2) % 3)) X (by decide) (pk_rem (by omega) (by omega) (by omega)) dX7_go_37 rfl ?_
    refine r_ishlR (q := 39) (x := nI 1) (y := nI ((Mx p 2) % 3)) (v := nI (bt7 (Mx p))) X (k_shl (by omega)) dX7_go_38 rfl ?_
    refine r_istore (q := 41) (i := 5) X (Nat.le_of_ble_eq_true rfl) dX7_go_39 rfl ?_
    refine r_aload_n (q := 42) (i := 1) (j := 1) (x := base + p) X rfl rfl dX7_go_41 rfl ?_
    refine r_bipush (q := 44) (v := nI 6) X kb_6 dX7_go_42 rfl ?_
    refine r_iload (q := 46) (i := 4) (x := nI (Mx p 0)) X rfl dX7_go_44 rfl ?_
    refine r_iaddR (q := 47) (x := nI 6) (y := nI (Mx p 0)) (v := nI (6 + (Mx p 0))) X (nI_add _ _) dX7_go_46 rfl ?_
    refine r_iald (q := 48) (i := p) (j := 6 + (Mx p 0)) (v := Mx p (6 + (Mx p 0))) X hp (by omega) (Nat.le_of_ble_eq_true rfl) rfl dX7_go_47 rfl ?_
    refine r_iload (q := 50) (i := 5) (x := nI (bt7 (Mx p))) X rfl dX7_go_48 rfl ?_
    refine r_iandR (q := 51) (x := nI (Mx p (6 + (Mx p 0)))) (y := nI (bt7 (Mx p))) (v := nI ((Mx p (6 + (Mx p 0))) &&& (bt7 (Mx p)))) X (fa_and _ _) dX7_go_50 rfl ?_
    have hb := k_and31 (b := bt7 (Mx p)) h6
    refine r_if_ne (q := 54) (tgt := 67) X (by decide) dX7_go_51 rfl (fun c51 => ?_) (fun c51 => ?_)
    · replace c51 : ¬ ((Mx p (6 + (Mx p 0))) &&& (bt7 (Mx p))) = 0 := fun h => c51 ((kI_eq0 (by omega)).mpr h)
      refine r_iconst (q := 68) (v := nI 0) X kc_0 dX7_go_67 rfl ?_
      refine r_istore_n (q := 69) (i := 3) (j := 3) X rfl (Nat.le_of_ble_eq_true rfl) dX7_go_68 rfl ?_
      refine r_aload_n (q := 70) (i := 1) (j := 1) (x := base + p) X rfl rfl dX7_go_69 rfl ?_
      refine r_bipush (q := 72) (v := nI 6) X kb_6 dX7_go_70 rfl ?_
      refine r_iload (q := 74) (i := 4) (x := nI (Mx p 0)) X rfl dX7_go_72 rfl ?_
      refine r_iaddR (q := 75) (x := nI 6) (y := nI (Mx p 0)) (v := nI (6 + (Mx p 0))) X (nI_add _ _) dX7_go_74 rfl ?_
      refine r_dup2 (q := 76) X rfl rfl dX7_go_75 rfl ?_
      refine r_iald (q := 77) (i := p) (j := 6 + (Mx p 0)) (v := Mx p (6 + (Mx p 0))) X hp (by omega) (Nat.le_of_ble_eq_true rfl) rfl dX7_go_76 rfl ?_
      refine r_iload (q := 79) (i := 5) (x := nI (bt7 (Mx p))) X rfl dX7_go_77 rfl ?_
      refine r_iorR (q := 80) (x := nI (Mx p (6 + (Mx p 0)))) (y := nI (bt7 (Mx p))) (v := nI ((Mx p (6 + (Mx p 0))) ||| (bt7 (Mx p)))) X (fa_or _ _) dX7_go_79 rfl ?_
      refine r_iast (q := 81) (i := p) (j := 6 + (Mx p 0)) (v := (Mx p (6 + (Mx p 0))) ||| (bt7 (Mx p))) X hp (by omega) (Nat.le_of_ble_eq_true rfl) dX7_go_80 rfl ?_
      refine r_aload_n (q := 82) (i := 1) (j := 1) (x := base + p) X rfl rfl dX7_go_81 rfl ?_
      refine r_iconst (q := 83) (v := nI 1) X kc_1 dX7_go_82 rfl ?_
      refine r_dup2 (q := 84) X rfl rfl dX7_go_83 rfl ?_
      refine r_iald (q := 85) (i := p) (j := 1) (v := Mx p 1) X hp (by omega) (Nat.le_of_ble_eq_true rfl) (by simp [up2, k6 1 (by decide), k6 2 (by decide), k6 3 (by decide)]) dX7_go_84 rfl ?_
      refine r_iconst (q := 86) (v := nI 1) X kc_1 dX7_go_85 rfl ?_
      refine r_isubR (q := 87) (x := nI (Mx p 1)) (y := nI 1) (v := nI ((Mx p 1) - 1)) X (pk_sub (by omega)) dX7_go_86 rfl ?_
      refine r_iast (q := 88) (i := p) (j := 1) (v := (Mx p 1) - 1) X hp (by omega) (Nat.le_of_ble_eq_true rfl) dX7_go_87 rfl ?_
      refine r_aload_n (q := 89) (i := 1) (j := 1) (x := base + p) X rfl rfl dX7_go_88 rfl ?_
      refine r_iconst (q := 90) (v := nI 3) X kc_3 dX7_go_89 rfl ?_
      refine r_dup2 (q := 91) X rfl rfl dX7_go_90 rfl ?_
      refine r_iald (q := 92) (i := p) (j := 3) (v := Mx p 3) X hp (by omega) (Nat.le_of_ble_eq_true rfl) (by simp [up2, k6 1 (by decide), k6 2 (by decide), k6 3 (by decide)]) dX7_go_91 rfl ?_
      refine r_iload_n (q := 93) (i := 3) (j := 3) (x := nI 0) X rfl rfl dX7_go_92 rfl ?_
      refine r_iaddR (q := 94) (x := nI (Mx p 3)) (y := nI 0) (v := nI ((Mx p 3) + 0)) X (nI_add _ _) dX7_go_93 rfl ?_
      refine r_iast (q := 95) (i := p) (j := 3) (v := (Mx p 3) + 0) X hp (by omega) (Nat.le_of_ble_eq_true rfl) dX7_go_94 rfl ?_
      refine r_aload_n (q := 96) (i := 1) (j := 1) (x := base + p) X rfl rfl dX7_go_95 rfl ?_
      refine r_iconst (q := 97) (v := nI 2) X kc_2 dX7_go_96 rfl ?_
      refine r_dup2 (q := 98) X rfl rfl dX7_go_97 rfl ?_
      refine r_iald (q := 99) (i := p) (j := 2) (v := Mx p 2) X hp (by omega) (Nat.le_of_ble_eq_true rfl) (by simp [up2, k6 1 (by decide), k6 2 (by decide), k6 3 (by decide)]) dX7_go_98 rfl ?_
      refine r_iconst (q := 100) (v := nI 1) X kc_1 dX7_go_99 rfl ?_
      refine r_iaddR (q := 101) (x := nI (Mx p 2)) (y := nI 1) (v := nI ((Mx p 2) + 1)) X (nI_add _ _) dX7_go_100 rfl ?_
      refine r_iast (q := 102) (i := p) (j := 2) (v := (Mx p 2) + 1) X hp (by omega) (Nat.le_of_ble_eq_true rfl) dX7_go_101 rfl ?_
      refine r_iload_n (q := 103) (i := 3) (j := 3) (x := nI 0) X rfl rfl dX7_go_102 rfl ?_
      refine r_iret X Y ?_ dX7_go_103
      refine ⟨?_, ?_, rfl⟩
      · rw [if_pos rfl]; unfold gn7; first | rw [if_pos (by assumption)] | rw [if_neg (by assumption)]
      have hg : gn7 Mx (Mx p) = 0 := by unfold gn7; first | rw [if_pos (by assumption)] | rw [if_neg (by assumption)]
      rw [tk7_2, hg]
      funext a b
      by_cases ha : a = p <;> simp [up2, sr, up1, ha]
    · replace c51 : ((Mx p (6 + (Mx p 0))) &&& (bt7 (Mx p))) = 0 := (kI_eq0 (by omega)).mp c51
      refine r_aload_n (q := 55) (i := 0) (j := 0) (x := base + 44) X rfl rfl dX7_go_54 rfl ?_
      refine r_aload_n (q := 56) (i := 1) (j := 1) (x := base + p) X rfl rfl dX7_go_55 rfl ?_
      refine r_iload (q := 58) (i := 4) (x := nI (Mx p 0)) X rfl dX7_go_56 rfl ?_
      refine r_aload_n (q := 59) (i := 1) (j := 1) (x := base + p) X rfl rfl dX7_go_58 rfl ?_
      refine r_iconst (q := 60) (v := nI 2) X kc_2 dX7_go_59 rfl ?_
      refine r_iald (q := 61) (i := p) (j := 2) (v := Mx p 2) X hp (by omega) (Nat.le_of_ble_eq_true rfl) rfl dX7_go_60 rfl ?_
      refine r_callVi (q := 64) X (c_sight7 K.2.1 G base Mx Lx p (Mx p 0) (Mx p 2) hp h0 h2 h4 h5 (hs _) hnw) kh_44 rfl ks_RX7_117 (by decide) (by decide) ⟨Nat.zero_le _, Nat.zero_le _⟩ rfl (Nat.le_of_ble_eq_true rfl) dX7_go_61 rfl (fun r M1 L1 hp => ?_)
      obtain ⟨e1, e2, e3⟩ := hp
      subst e1
      replace e2 := e2.symm
      subst e2
      replace e3 := e3.symm
      subst e3
      refine r_goto (tgt := 68) X (by decide) dX7_go_64 ?_
      refine r_istore_n (q := 69) (i := 3) (j := 3) X rfl (Nat.le_of_ble_eq_true rfl) dX7_go_68 rfl ?_
      refine r_aload_n (q := 70) (i := 1) (j := 1) (x := base + p) X rfl rfl dX7_go_69 rfl ?_
      refine r_bipush (q := 72) (v := nI 6) X kb_6 dX7_go_70 rfl ?_
      refine r_iload (q := 74) (i := 4) (x := nI (Mx p 0)) X rfl dX7_go_72 rfl ?_
      refine r_iaddR (q := 75) (x := nI 6) (y := nI (Mx p 0)) (v := nI (6 + (Mx p 0))) X (nI_add _ _) dX7_go_74 rfl ?_
      refine r_dup2 (q := 76) X rfl rfl dX7_go_75 rfl ?_
      refine r_iald (q := 77) (i := p) (j := 6 + (Mx p 0)) (v := Mx p (6 + (Mx p 0))) X hp (by omega) (Nat.le_of_ble_eq_true rfl) rfl dX7_go_76 rfl ?_
      refine r_iload (q := 79) (i := 5) (x := nI (bt7 (Mx p))) X rfl dX7_go_77 rfl ?_
      refine r_iorR (q := 80) (x := nI (Mx p (6 + (Mx p 0)))) (y := nI (bt7 (Mx p))) (v := nI ((Mx p (6 + (Mx p 0))) ||| (bt7 (Mx p)))) X (fa_or _ _) dX7_go_79 rfl ?_
      refine r_iast (q := 81) (i := p) (j := 6 + (Mx p 0)) (v := (Mx p (6 + (Mx p 0))) ||| (bt7 (Mx p))) X hp (by omega) (Nat.le_of_ble_eq_true rfl) dX7_go_80 rfl ?_
      refine r_aload_n (q := 82) (i := 1) (j := 1) (x := base + p) X rfl rfl dX7_go_81 rfl ?_
      refine r_iconst (q := 83) (v := nI 1) X kc_1 dX7_go_82 rfl ?_
      refine r_dup2 (q := 84) X rfl rfl dX7_go_83 rfl ?_
      refine r_iald (q := 85) (i := p) (j := 1) (v := Mx p 1) X hp (by omega) (Nat.le_of_ble_eq_true rfl) (by simp [up2, k6 1 (by decide), k6 2 (by decide), k6 3 (by decide)]) dX7_go_84 rfl ?_
      refine r_iconst (q := 86) (v := nI 1) X kc_1 dX7_go_85 rfl ?_
      refine r_isubR (q := 87) (x := nI (Mx p 1)) (y := nI 1) (v := nI ((Mx p 1) - 1)) X (pk_sub (by omega)) dX7_go_86 rfl ?_
      refine r_iast (q := 88) (i := p) (j := 1) (v := (Mx p 1) - 1) X hp (by omega) (Nat.le_of_ble_eq_true rfl) dX7_go_87 rfl ?_
      refine r_aload_n (q := 89) (i := 1) (j := 1) (x := base + p) X rfl rfl dX7_go_88 rfl ?_
      refine r_iconst (q := 90) (v := nI 3) X kc_3 dX7_go_89 rfl ?_
      refine r_dup2 (q := 91) X rfl rfl dX7_go_90 rfl ?_
      refine r_iald (q := 92) (i := p) (j := 3) (v := Mx p 3) X hp (by omega) (Nat.le_of_ble_eq_true rfl) (by simp [up2, k6 1 (by decide), k6 2 (by decide), k6 3 (by decide)]) dX7_go_91 rfl ?_
      refine r_iload_n (q := 93) (i := 3) (j := 3) (x := nI (sg7 Mx (Mx p) (Mx p 0) (Mx p 2))) X rfl rfl dX7_go_92 rfl ?_
      refine r_iaddR (q := 94) (x := nI (Mx p 3)) (y := nI (sg7 Mx (Mx p) (Mx p 0) (Mx p 2))) (v := nI ((Mx p 3) + (sg7 Mx (Mx p) (Mx p 0) (Mx p 2)))) X (nI_add _ _) dX7_go_93 rfl ?_
      refine r_iast (q := 95) (i := p) (j := 3) (v := (Mx p 3) + (sg7 Mx (Mx p) (Mx p 0) (Mx p 2))) X hp (by omega) (Nat.le_of_ble_eq_true rfl) dX7_go_94 rfl ?_
      refine r_aload_n (q := 96) (i := 1) (j := 1) (x := base + p) X rfl rfl dX7_go_95 rfl ?_
      refine r_iconst (q := 97) (v := nI 2) X kc_2 dX7_go_96 rfl ?_
      refine r_dup2 (q := 98) X rfl rfl dX7_go_97 rfl ?_
      refine r_iald (q := 99) (i := p) (j := 2) (v := Mx p 2) X hp (by omega) (Nat.le_of_ble_eq_true rfl) (by simp [up2, k6 1 (by decide), k6 2 (by decide), k6 3 (by decide)]) dX7_go_98 rfl ?_
      refine r_iconst (q := 100) (v := nI 1) X kc_1 dX7_go_99 rfl ?_
      refine r_iaddR (q := 101) (x := nI (Mx p 2)) (y := nI 1) (v := nI ((Mx p 2) + 1)) X (nI_add _ _) dX7_go_100 rfl ?_
      refine r_iast (q := 102) (i := p) (j := 2) (v := (Mx p 2) + 1) X hp (by omega) (Nat.le_of_ble_eq_true rfl) dX7_go_101 rfl ?_
      refine r_iload_n (q := 103) (i := 3) (j := 3) (x := nI (sg7 Mx (Mx p) (Mx p 0) (Mx p 2))) X rfl rfl dX7_go_102 rfl ?_
      refine r_iret X Y ?_ dX7_go_103
      refine ⟨?_, ?_, rfl⟩
      · rw [if_pos rfl]; unfold gn7; first | rw [if_pos (by assumption)] | rw [if_neg (by assumption)]
      have hg : gn7 Mx (Mx p) = sg7 Mx (Mx p) (Mx p 0) (Mx p 2) := by unfold gn7; first | rw [if_pos (by assumption)] | rw [if_neg (by assumption)]
      rw [tk7_2, hg]
      funext a b
      by_cases ha : a = p <;> simp [up2, sr, up1, ha]
  · skip
    refine r_iconst (q := 1) (v := nI 0) X kc_0 dX7_go_0 rfl ?_
    refine r_istore_n (q := 2) (i := 3) (j := 3) X rfl (Nat.le_of_ble_eq_true rfl) dX7_go_1 rfl ?_
    refine r_iload_n (q := 3) (i := 2) (j := 2) (x := nI (3)) X rfl rfl dX7_go_2 rfl ?_
    refine r_iconst (q := 4) (v := nI 2) X kc_2 dX7_go_3 rfl ?_
    refine r_icmp_ge (q := 7) (tgt := 22) X (by decide) dX7_go_4 rfl (fun _ => ?_) (fun c => absurd c (by decide))
    refine r_iload_n (q := 23) (i := 2) (j := 2) (x := nI (3)) X rfl rfl dX7_go_22 rfl ?_
    refine r_iconst (q := 24) (v := nI 2) X kc_2 dX7_go_23 rfl ?_
    refine r_icmp_ne (q := 27) (tgt := 95) X (by decide) dX7_go_24 rfl (fun _ => ?_) (fun c => absurd c (by decide))
    refine r_aload_n (q := 96) (i := 1) (j := 1) (x := base + p) X rfl rfl dX7_go_95 rfl ?_
    refine r_iconst (q := 97) (v := nI 2) X kc_2 dX7_go_96 rfl ?_
    refine r_dup2 (q := 98) X rfl rfl dX7_go_97 rfl ?_
    refine r_iald (q := 99) (i := p) (j := 2) (v := Mx p 2) X hp (by omega) (Nat.le_of_ble_eq_true rfl) rfl dX7_go_98 rfl ?_
    refine r_iconst (q := 100) (v := nI 1) X kc_1 dX7_go_99 rfl ?_
    refine r_iaddR (q := 101) (x := nI (Mx p 2)) (y := nI 1) (v := nI ((Mx p 2) + 1)) X (nI_add _ _) dX7_go_100 rfl ?_
    refine r_iast (q := 102) (i := p) (j := 2) (v := (Mx p 2) + 1) X hp (by omega) (Nat.le_of_ble_eq_true rfl) dX7_go_101 rfl ?_
    refine r_iload_n (q := 103) (i := 3) (j := 3) (x := nI 0) X rfl rfl dX7_go_102 rfl ?_
    refine r_iret X Y ?_ dX7_go_103
    refine ⟨rfl, ?_, rfl⟩
    rw [tk7_3]
    funext a b
    by_cases ha : a = p <;> simp [up2, sr, up1, ha]
