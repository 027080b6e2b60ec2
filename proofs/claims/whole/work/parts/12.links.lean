/-! NUMBERS, SHAPES, LINKS -/
theorem fa_and (a b : Nat) : nI a &&& nI b = nI (a &&& b) := by
  apply Int32.toBitVec_inj.1
  show BitVec.ofNat 32 a &&& BitVec.ofNat 32 b = BitVec.ofNat 32 (a &&& b)
  apply BitVec.eq_of_getLsbD_eq
  intro i hi
  simp [hi]
theorem fa_or (a b : Nat) : nI a ||| nI b = nI (a ||| b) := by
  apply Int32.toBitVec_inj.1
  show BitVec.ofNat 32 a ||| BitVec.ofNat 32 b = BitVec.ofNat 32 (a ||| b)
  apply BitVec.eq_of_getLsbD_eq
  intro i hi
  simp [hi]
theorem fb_xorI (a b : Nat) : nI a ^^^ nI b = nI (a ^^^ b) := by
  apply Int32.toBitVec_inj.1
  show BitVec.ofNat 32 a ^^^ BitVec.ofNat 32 b = BitVec.ofNat 32 (a ^^^ b)
  apply BitVec.eq_of_getLsbD_eq
  intro i hi
  simp [hi]
theorem s_l : ∀ n, n < 32 → ((nI n &&& 31).toBitVec.smod 32).toNat = n := by decide +kernel
theorem kw (i : Nat) {w : Cond} (h : lw_tbl[i]? = some w ∧ goodWord w = true) : w ∈ ks_all := List.mem_filter.mpr ⟨List.mem_of_getElem? h.1, h.2⟩
theorem kinc (n : Nat) {a : Nat} {z : Int} (h : z = n) : nI a + Int32.ofInt z = nI (a + n) := by
  subst h
  have e : Int32.ofInt (n : Int) = nI n := by
    unfold nI
    first | exact Int32.ofInt_eq_ofNat | simp
  rw [e, nI_add]
theorem kI_eq {a b : Nat} (ha : a < 2147483648) (hb : b < 2147483648) : nI a = nI b ↔ a = b := nI_eq ha hb
theorem kI_eq0 {a : Nat} (ha : a < 2147483648) : nI a = 0 ↔ a = 0 := by rw [← nI_0]; exact nI_eq ha (by decide)
theorem kI_lt0 {a : Nat} (ha : a < 2147483648) : nI a < 0 ↔ a < 0 := by rw [← nI_0]; exact nI_ltI ha (by decide)
theorem kI_ge0 {a : Nat} (ha : a < 2147483648) : (0 : Int32) ≤ nI a ↔ 0 ≤ a := by rw [← nI_0]; exact nI_leI (by decide) ha
theorem kI_gt0 {a : Nat} (ha : a < 2147483648) : (0 : Int32) < nI a ↔ 0 < a := by rw [← nI_0]; exact nI_ltI (by decide) ha
theorem kI_le0 {a : Nat} (ha : a < 2147483648) : nI a ≤ 0 ↔ a ≤ 0 := by rw [← nI_0]; exact nI_leI ha (by decide)
theorem k_max {a b : Nat} (ha : a < 2147483648) (hb : b < 2147483648) : (if nI a < nI b then nI b else nI a) = nI (max a b) := by
  by_cases h : a < b
  · rw [if_pos ((nI_ltI ha hb).mpr h), Nat.max_eq_right (by omega)]
  · rw [if_neg (fun q => h ((nI_ltI ha hb).mp q)), Nat.max_eq_left (by omega)]
theorem k_min {a b : Nat} (ha : a < 2147483648) (hb : b < 2147483648) : (if nI b < nI a then nI b else nI a) = nI (min a b) := by
  by_cases h : b < a
  · rw [if_pos ((nI_ltI hb ha).mpr h), Nat.min_eq_right (by omega)]
  · rw [if_neg (fun q => h ((nI_ltI hb ha).mp q)), Nat.min_eq_left (by omega)]
theorem k_shl {a b : Nat} (h : b < 32) : nI a <<< (nI b &&& 31) = nI (a <<< b) := by
  apply Int32.toBitVec_inj.mp
  apply BitVec.eq_of_toNat_eq
  rw [pk_shl (nI a) (nI b &&& 31) b (s_l b h), Nat.shiftLeft_eq]
  show (BitVec.ofNat 32 a).toNat * 2 ^ b % 2 ^ 32 = (BitVec.ofNat 32 (a * 2 ^ b)).toNat
  rw [BitVec.toNat_ofNat, BitVec.toNat_ofNat, Nat.mod_mul_mod]
theorem k_shr {a b : Nat} (ha : a < 2147483648) (h : b < 32) : nI a >>> (nI b &&& 31) = nI (a >>> b) := by
  rw [pk_shrN ha (nI b &&& 31) b (s_l b h), Nat.shiftRight_eq_div_pow]
def sr (M : ks_M) (i : Nat) (x : Nat → Nat) : ks_M := fun a b => if a = i then x b else M a b
def up1 (x : Nat → Nat) (k n : Nat) : Nat → Nat := fun b => if b = k then n else x b
theorem sr_s (M : ks_M) (i : Nat) (x : Nat → Nat) : sr M i x i = x := by funext b; simp [sr]
theorem sr_o {M : ks_M} {i a : Nat} {x : Nat → Nat} (h : a ≠ i) : sr M i x a = M a := by funext b; simp [sr, h]
theorem sr_up (M : ks_M) (i k n : Nat) : up2 M i k n = sr M i (up1 (M i) k n) := by
  funext a b
  by_cases h : a = i <;> simp [up2, sr, up1, h]
theorem sr_sr (M : ks_M) (i : Nat) (x y : Nat → Nat) : sr (sr M i x) i y = sr M i y := by
  funext a b
  by_cases h : a = i <;> simp [sr, h]
theorem sr_id (M : ks_M) (i : Nat) : sr M i (M i) = M := by
  funext a b
  by_cases h : a = i <;> simp [sr, h]
theorem sr_eq {M M' : ks_M} {i : Nat} {x : Nat → Nat} (h1 : M' i = x) (h2 : ∀ a, a ≠ i → M' a = M a) : M' = sr M i x := by
  funext a b
  by_cases h : a = i
  · subst h; rw [sr_s, h1]
  · rw [sr_o h, h2 a h]
def kSt : ks_S := (0, 3, [(0, 0), (0, 0), (0, 0), (0, 0), (0, 0), (0, 0), (0, 0)])
def SH : List ks_S := [(0, 6, [(3, 1), (3, 3), (3, 7), (3, 8), (3, 9), (3, 25), (3, 35), (3, 40), (3, 43), (0, 0), (1, 0)]), (0, 5, [(3, 2), (0, 0)]), (1, 48, []), (0, 4, [(3, 4), (3, 5), (3, 6), (0, 0), (0, 0)]), (1, 6, []), (1, 18, []), (1, 36, []), kSt, kSt, (0, 0, [(3, 10), (0, 0), (0, 0)]), (3, 14, [(3, 11), (3, 12), (3, 13), (3, 14), (3, 15), (3, 16), (3, 17), (3, 18), (3, 19), (3, 20), (3, 21), (3, 22), (3, 23), (3, 24)]), kSt, kSt, kSt, kSt, kSt, kSt, kSt, kSt, kSt, kSt, kSt, kSt, kSt, kSt, (0, 1, [(3, 26), (3, 34)]), (3, 7, [(3, 27), (3, 28), (3, 29), (3, 30), (3, 31), (3, 32), (3, 33)]), kSt, kSt, kSt, kSt, kSt, kSt, kSt, kSt, (0, 2, [(3, 36), (3, 37), (3, 38), (3, 39), (0, 0)]), (1, 6, []), (1, 6, []), (1, 6, []), (1, 6, []), (3, 2, [(3, 41), (3, 42)]), kSt, kSt, (1, 6, []), (0, 7, [(0, 0), (3, 45), (0, 0), (0, 0), (0, 0), (3, 46), (3, 47), (0, 0), (0, 0), (3, 48), (3, 49), (3, 50), (3, 51), (3, 52), (0, 0), (3, 53), (3, 54), (0, 0), (3, 55), (3, 56), (3, 57), (3, 58), (1, 0), (0, 0), (0, 0), (0, 0), (0, 0), (3, 59), (3, 60), (0, 0)]), (1, 48, []), (1, 6, []), (1, 18, []), (1, 24, []), (1, 12, []), (1, 12, []), (1, 12, []), (1, 168, []), (1, 24, []), (2, 2, []), (1, 6, []), (1, 6, []), (1, 6, []), (1, 6, []), (1, 64, []), (1, 6, [])]
theorem kh_0 : SH[0]? = some (0, 6, [(3, 1), (3, 3), (3, 7), (3, 8), (3, 9), (3, 25), (3, 35), (3, 40), (3, 43), (0, 0), (1, 0)]) := rfl
theorem kh_1 : SH[1]? = some (0, 5, [(3, 2), (0, 0)]) := rfl
theorem kh_2 : SH[2]? = some (1, 48, []) := rfl
theorem kh_3 : SH[3]? = some (0, 4, [(3, 4), (3, 5), (3, 6), (0, 0), (0, 0)]) := rfl
theorem kh_4 : SH[4]? = some (1, 6, []) := rfl
theorem kh_5 : SH[5]? = some (1, 18, []) := rfl
theorem kh_6 : SH[6]? = some (1, 36, []) := rfl
theorem kh_7 : SH[7]? = some kSt := rfl
theorem kh_8 : SH[8]? = some kSt := rfl
theorem kh_9 : SH[9]? = some (0, 0, [(3, 10), (0, 0), (0, 0)]) := rfl
theorem kh_10 : SH[10]? = some (3, 14, [(3, 11), (3, 12), (3, 13), (3, 14), (3, 15), (3, 16), (3, 17), (3, 18), (3, 19), (3, 20), (3, 21), (3, 22), (3, 23), (3, 24)]) := rfl
theorem kh_11 : SH[11]? = some kSt := rfl
theorem kh_12 : SH[12]? = some kSt := rfl
theorem kh_13 : SH[13]? = some kSt := rfl
theorem kh_14 : SH[14]? = some kSt := rfl
theorem kh_15 : SH[15]? = some kSt := rfl
theorem kh_16 : SH[16]? = some kSt := rfl
theorem kh_17 : SH[17]? = some kSt := rfl
theorem kh_18 : SH[18]? = some kSt := rfl
theorem kh_19 : SH[19]? = some kSt := rfl
theorem kh_20 : SH[20]? = some kSt := rfl
theorem kh_21 : SH[21]? = some kSt := rfl
theorem kh_22 : SH[22]? = some kSt := rfl
theorem kh_23 : SH[23]? = some kSt := rfl
theorem kh_24 : SH[24]? = some kSt := rfl
theorem kh_25 : SH[25]? = some (0, 1, [(3, 26), (3, 34)]) := rfl
theorem kh_26 : SH[26]? = some (3, 7, [(3, 27), (3, 28), (3, 29), (3, 30), (3, 31), (3, 32), (3, 33)]) := rfl
theorem kh_27 : SH[27]? = some kSt := rfl
theorem kh_28 : SH[28]? = some kSt := rfl
theorem kh_29 : SH[29]? = some kSt := rfl
theorem kh_30 : SH[30]? = some kSt := rfl
theorem kh_31 : SH[31]? = some kSt := rfl
theorem kh_32 : SH[32]? = some kSt := rfl
theorem kh_33 : SH[33]? = some kSt := rfl
theorem kh_34 : SH[34]? = some kSt := rfl
theorem kh_35 : SH[35]? = some (0, 2, [(3, 36), (3, 37), (3, 38), (3, 39), (0, 0)]) := rfl
theorem kh_36 : SH[36]? = some (1, 6, []) := rfl
theorem kh_37 : SH[37]? = some (1, 6, []) := rfl
theorem kh_38 : SH[38]? = some (1, 6, []) := rfl
theorem kh_39 : SH[39]? = some (1, 6, []) := rfl
theorem kh_40 : SH[40]? = some (3, 2, [(3, 41), (3, 42)]) := rfl
theorem kh_41 : SH[41]? = some kSt := rfl
theorem kh_42 : SH[42]? = some kSt := rfl
theorem kh_43 : SH[43]? = some (1, 6, []) := rfl
theorem kh_44 : SH[44]? = some (0, 7, [(0, 0), (3, 45), (0, 0), (0, 0), (0, 0), (3, 46), (3, 47), (0, 0), (0, 0), (3, 48), (3, 49), (3, 50), (3, 51), (3, 52), (0, 0), (3, 53), (3, 54), (0, 0), (3, 55), (3, 56), (3, 57), (3, 58), (1, 0), (0, 0), (0, 0), (0, 0), (0, 0), (3, 59), (3, 60), (0, 0)]) := rfl
theorem kh_45 : SH[45]? = some (1, 48, []) := rfl
theorem kh_46 : SH[46]? = some (1, 6, []) := rfl
theorem kh_47 : SH[47]? = some (1, 18, []) := rfl
theorem kh_48 : SH[48]? = some (1, 24, []) := rfl
theorem kh_49 : SH[49]? = some (1, 12, []) := rfl
theorem kh_50 : SH[50]? = some (1, 12, []) := rfl
theorem kh_51 : SH[51]? = some (1, 12, []) := rfl
theorem kh_52 : SH[52]? = some (1, 168, []) := rfl
theorem kh_53 : SH[53]? = some (1, 24, []) := rfl
theorem kh_54 : SH[54]? = some (2, 2, []) := rfl
theorem kh_55 : SH[55]? = some (1, 6, []) := rfl
theorem kh_56 : SH[56]? = some (1, 6, []) := rfl
theorem kh_57 : SH[57]? = some (1, 6, []) := rfl
theorem kh_58 : SH[58]? = some (1, 6, []) := rfl
theorem kh_59 : SH[59]? = some (1, 64, []) := rfl
theorem kh_60 : SH[60]? = some (1, 6, []) := rfl
theorem fk_X0_13 : ks_lk RX0 13 0 RX0 TX0 3 0 := ⟨kX0, by decide, kw 132 (by decide +kernel)⟩
theorem fk_X0_19 : ks_lk RX0 19 0 RX0 TX0 3 1 := ⟨kX0, by decide, kw 133 (by decide +kernel)⟩
theorem fk_X0_23 : ks_lk RX0 23 0 RX0 TX0 3 2 := ⟨kX0, by decide, kw 134 (by decide +kernel)⟩
theorem fk_X1_13 : ks_lk RX1 13 1 RX1 TX1 2 0 := ⟨kX1, by decide, kw 152 (by decide +kernel)⟩
theorem fk_X1_22 : ks_lk RX1 22 1 RX1 TX1 2 1 := ⟨kX1, by decide, kw 153 (by decide +kernel)⟩
theorem fk_X1_34 : ks_lk RX1 34 3 RX3 TX3 7 3 := ⟨kX3, by decide, kw 97 (by decide +kernel)⟩
theorem fk_X2_9 : ks_lk RX2 9 2 RX2 TX2 5 0 := ⟨kX2, by decide, kw 165 (by decide +kernel)⟩
theorem fk_X2_15 : ks_lk RX2 15 2 RX2 TX2 5 1 := ⟨kX2, by decide, kw 166 (by decide +kernel)⟩
theorem fk_X2_18 : ks_lk RX2 18 2 RX2 TX2 5 2 := ⟨kX2, by decide, kw 167 (by decide +kernel)⟩
theorem fk_X2_21 : ks_lk RX2 21 2 RX2 TX2 5 3 := ⟨kX2, by decide, kw 168 (by decide +kernel)⟩
theorem fk_X2_24 : ks_lk RX2 24 2 RX2 TX2 5 4 := ⟨kX2, by decide, kw 169 (by decide +kernel)⟩
theorem fk_X3_9 : ks_lk RX3 9 3 RX3 TX3 7 0 := ⟨kX3, by decide, kw 90 (by decide +kernel)⟩
theorem fk_X3_15 : ks_lk RX3 15 3 RX3 TX3 7 1 := ⟨kX3, by decide, kw 92 (by decide +kernel)⟩
theorem fk_X3_18 : ks_lk RX3 18 3 RX3 TX3 7 2 := ⟨kX3, by decide, kw 94 (by decide +kernel)⟩
theorem fk_X3_21 : ks_lk RX3 21 3 RX3 TX3 7 3 := ⟨kX3, by decide, kw 96 (by decide +kernel)⟩
theorem fk_X3_24 : ks_lk RX3 24 3 RX3 TX3 7 4 := ⟨kX3, by decide, kw 99 (by decide +kernel)⟩
theorem fk_X3_27 : ks_lk RX3 27 3 RX3 TX3 7 5 := ⟨kX3, by decide, kw 101 (by decide +kernel)⟩
theorem fk_X3_30 : ks_lk RX3 30 3 RX3 TX3 7 6 := ⟨kX3, by decide, kw 103 (by decide +kernel)⟩
theorem fk_X3_33 : ks_lk RX3 33 4 RX4 TX4 5 4 := ⟨kX4, by decide, kw 72 (by decide +kernel)⟩
theorem fk_X3_36 : ks_lk RX3 36 4 RX4 TX4 5 3 := ⟨kX4, by decide, kw 69 (by decide +kernel)⟩
theorem fk_X3_39 : ks_lk RX3 39 4 RX4 TX4 5 2 := ⟨kX4, by decide, kw 67 (by decide +kernel)⟩
theorem fk_X4_9 : ks_lk RX4 9 4 RX4 TX4 5 0 := ⟨kX4, by decide, kw 64 (by decide +kernel)⟩
theorem fk_X4_15 : ks_lk RX4 15 4 RX4 TX4 5 1 := ⟨kX4, by decide, kw 65 (by decide +kernel)⟩
theorem fk_X4_18 : ks_lk RX4 18 4 RX4 TX4 5 2 := ⟨kX4, by decide, kw 66 (by decide +kernel)⟩
theorem fk_X4_21 : ks_lk RX4 21 4 RX4 TX4 5 3 := ⟨kX4, by decide, kw 68 (by decide +kernel)⟩
theorem fk_X4_25 : ks_lk RX4 25 4 RX4 TX4 5 4 := ⟨kX4, by decide, kw 71 (by decide +kernel)⟩
theorem fk_X5_9 : ks_lk RX5 9 5 RX5 TX5 2 0 := ⟨kX5, by decide, kw 49 (by decide +kernel)⟩
theorem fk_X5_15 : ks_lk RX5 15 5 RX5 TX5 2 1 := ⟨kX5, by decide, kw 50 (by decide +kernel)⟩
theorem fk_X6_10 : ks_lk RX6 10 6 RX6 TX6 11 0 := ⟨kX6, by decide, kw 183 (by decide +kernel)⟩
theorem fk_X6_19 : ks_lk RX6 19 6 RX6 TX6 11 1 := ⟨kX6, by decide, kw 184 (by decide +kernel)⟩
theorem fk_X6_26 : ks_lk RX6 26 6 RX6 TX6 11 2 := ⟨kX6, by decide, kw 185 (by decide +kernel)⟩
theorem fk_X6_30 : ks_lk RX6 30 6 RX6 TX6 11 3 := ⟨kX6, by decide, kw 186 (by decide +kernel)⟩
theorem fk_X6_36 : ks_lk RX6 36 6 RX6 TX6 11 4 := ⟨kX6, by decide, kw 187 (by decide +kernel)⟩
theorem fk_X6_43 : ks_lk RX6 43 6 RX6 TX6 11 5 := ⟨kX6, by decide, kw 188 (by decide +kernel)⟩
theorem fk_X6_50 : ks_lk RX6 50 6 RX6 TX6 11 6 := ⟨kX6, by decide, kw 189 (by decide +kernel)⟩
theorem fk_X6_58 : ks_lk RX6 58 6 RX6 TX6 11 7 := ⟨kX6, by decide, kw 190 (by decide +kernel)⟩
theorem fk_X6_62 : ks_lk RX6 62 6 RX6 TX6 11 8 := ⟨kX6, by decide, kw 191 (by decide +kernel)⟩
theorem fk_X6_66 : ks_lk RX6 66 6 RX6 TX6 11 9 := ⟨kX6, by decide, kw 192 (by decide +kernel)⟩
theorem fk_X6_70 : ks_lk RX6 70 6 RX6 TX6 11 10 := ⟨kX6, by decide, kw 193 (by decide +kernel)⟩
theorem fk_X6_74 : ks_lk RX6 74 5 RX5 TX5 2 1 := ⟨kX5, by decide, kw 51 (by decide +kernel)⟩
theorem fk_X6_93 : ks_lk RX6 93 0 RX0 TX0 3 2 := ⟨kX0, by decide, kw 135 (by decide +kernel)⟩
theorem fk_X6_96 : ks_lk RX6 96 4 RX4 TX4 5 3 := ⟨kX4, by decide, kw 70 (by decide +kernel)⟩
theorem fk_X6_97 : ks_lk RX6 97 3 RX3 TX3 7 0 := ⟨kX3, by decide, kw 91 (by decide +kernel)⟩
theorem fk_X6_100 : ks_lk RX6 100 3 RX3 TX3 7 1 := ⟨kX3, by decide, kw 93 (by decide +kernel)⟩
theorem fk_X6_103 : ks_lk RX6 103 3 RX3 TX3 7 2 := ⟨kX3, by decide, kw 95 (by decide +kernel)⟩
theorem fk_X6_106 : ks_lk RX6 106 3 RX3 TX3 7 3 := ⟨kX3, by decide, kw 98 (by decide +kernel)⟩
theorem fk_X6_109 : ks_lk RX6 109 3 RX3 TX3 7 4 := ⟨kX3, by decide, kw 100 (by decide +kernel)⟩
theorem fk_X6_112 : ks_lk RX6 112 3 RX3 TX3 7 5 := ⟨kX3, by decide, kw 102 (by decide +kernel)⟩
theorem fk_X6_115 : ks_lk RX6 115 2 RX2 TX2 5 4 := ⟨kX2, by decide, kw 170 (by decide +kernel)⟩
theorem fk_X7_7 : ks_lk RX7 7 7 RX7 TX7 30 1 := ⟨kX7, by decide, kw 523 (by decide +kernel)⟩
theorem fk_X7_13 : ks_lk RX7 13 7 RX7 TX7 30 5 := ⟨kX7, by decide, kw 527 (by decide +kernel)⟩
theorem fk_X7_16 : ks_lk RX7 16 7 RX7 TX7 30 6 := ⟨kX7, by decide, kw 528 (by decide +kernel)⟩
theorem fk_X7_19 : ks_lk RX7 19 7 RX7 TX7 30 9 := ⟨kX7, by decide, kw 531 (by decide +kernel)⟩
theorem fk_X7_22 : ks_lk RX7 22 7 RX7 TX7 30 10 := ⟨kX7, by decide, kw 532 (by decide +kernel)⟩
theorem fk_X7_25 : ks_lk RX7 25 7 RX7 TX7 30 11 := ⟨kX7, by decide, kw 533 (by decide +kernel)⟩
theorem fk_X7_28 : ks_lk RX7 28 7 RX7 TX7 30 12 := ⟨kX7, by decide, kw 534 (by decide +kernel)⟩
theorem fk_X7_31 : ks_lk RX7 31 7 RX7 TX7 30 13 := ⟨kX7, by decide, kw 535 (by decide +kernel)⟩
theorem fk_X7_34 : ks_lk RX7 34 7 RX7 TX7 30 15 := ⟨kX7, by decide, kw 537 (by decide +kernel)⟩
theorem fk_X7_37 : ks_lk RX7 37 7 RX7 TX7 30 16 := ⟨kX7, by decide, kw 538 (by decide +kernel)⟩
theorem fk_X7_41 : ks_lk RX7 41 7 RX7 TX7 30 18 := ⟨kX7, by decide, kw 540 (by decide +kernel)⟩
theorem fk_X7_44 : ks_lk RX7 44 7 RX7 TX7 30 19 := ⟨kX7, by decide, kw 541 (by decide +kernel)⟩
theorem fk_X7_47 : ks_lk RX7 47 7 RX7 TX7 30 20 := ⟨kX7, by decide, kw 542 (by decide +kernel)⟩
theorem fk_X7_50 : ks_lk RX7 50 7 RX7 TX7 30 21 := ⟨kX7, by decide, kw 543 (by decide +kernel)⟩
theorem fk_X7_53 : ks_lk RX7 53 7 RX7 TX7 30 27 := ⟨kX7, by decide, kw 549 (by decide +kernel)⟩
theorem fk_X7_56 : ks_lk RX7 56 7 RX7 TX7 30 28 := ⟨kX7, by decide, kw 550 (by decide +kernel)⟩
theorem fk_X7_59 : ks_lk RX7 59 7 RX7 TX7 30 0 := ⟨kX7, by decide, kw 522 (by decide +kernel)⟩
theorem fk_X7_63 : ks_lk RX7 63 7 RX7 TX7 30 4 := ⟨kX7, by decide, kw 526 (by decide +kernel)⟩
theorem fk_X7_72 : ks_lk RX7 72 7 RX7 TX7 30 2 := ⟨kX7, by decide, kw 524 (by decide +kernel)⟩
theorem fk_X7_75 : ks_lk RX7 75 7 RX7 TX7 30 3 := ⟨kX7, by decide, kw 525 (by decide +kernel)⟩
theorem fk_X7_82 : ks_lk RX7 82 7 RX7 TX7 30 8 := ⟨kX7, by decide, kw 530 (by decide +kernel)⟩
theorem fk_X7_85 : ks_lk RX7 85 7 RX7 TX7 30 7 := ⟨kX7, by decide, kw 529 (by decide +kernel)⟩
theorem fk_X7_95 : ks_lk RX7 95 7 RX7 TX7 30 14 := ⟨kX7, by decide, kw 536 (by decide +kernel)⟩
theorem fk_X7_106 : ks_lk RX7 106 7 RX7 TX7 30 17 := ⟨kX7, by decide, kw 539 (by decide +kernel)⟩
theorem fk_X7_132 : ks_lk RX7 132 7 RX7 TX7 30 23 := ⟨kX7, by decide, kw 545 (by decide +kernel)⟩
theorem fk_X7_135 : ks_lk RX7 135 7 RX7 TX7 30 24 := ⟨kX7, by decide, kw 546 (by decide +kernel)⟩
theorem fk_X7_173 : ks_lk RX7 173 7 RX7 TX7 30 25 := ⟨kX7, by decide, kw 547 (by decide +kernel)⟩
theorem fk_X7_176 : ks_lk RX7 176 7 RX7 TX7 30 26 := ⟨kX7, by decide, kw 548 (by decide +kernel)⟩
theorem fk_X7_185 : ks_lk RX7 185 7 RX7 TX7 30 29 := ⟨kX7, by decide, kw 551 (by decide +kernel)⟩
theorem fk_X7_191 : ks_lk RX7 191 7 RX7 TX7 30 22 := ⟨kX7, by decide, kw 544 (by decide +kernel)⟩
theorem kp_X0_1 : (TX0 1).2.2.2 = false ∧ parseFieldDescriptor (TX0 1).2.2.1 = some .int := by decide +kernel
theorem kp_X0_2 : (TX0 2).2.2.2 = false ∧ parseFieldDescriptor (TX0 2).2.2.1 = some .int := by decide +kernel
theorem kp_X2_4 : (TX2 4).2.2.2 = false ∧ parseFieldDescriptor (TX2 4).2.2.1 = some .int := by decide +kernel
theorem kp_X3_0 : (TX3 0).2.2.2 = false ∧ parseFieldDescriptor (TX3 0).2.2.1 = some .int := by decide +kernel
theorem kp_X3_1 : (TX3 1).2.2.2 = false ∧ parseFieldDescriptor (TX3 1).2.2.1 = some .int := by decide +kernel
theorem kp_X3_2 : (TX3 2).2.2.2 = false ∧ parseFieldDescriptor (TX3 2).2.2.1 = some .int := by decide +kernel
theorem kp_X3_3 : (TX3 3).2.2.2 = false ∧ parseFieldDescriptor (TX3 3).2.2.1 = some .int := by decide +kernel
theorem kp_X3_4 : (TX3 4).2.2.2 = false ∧ parseFieldDescriptor (TX3 4).2.2.1 = some .int := by decide +kernel
theorem kp_X3_5 : (TX3 5).2.2.2 = false ∧ parseFieldDescriptor (TX3 5).2.2.1 = some .int := by decide +kernel
theorem kp_X3_6 : (TX3 6).2.2.2 = false ∧ parseFieldDescriptor (TX3 6).2.2.1 = some .int := by decide +kernel
theorem kp_X4_3 : (TX4 3).2.2.2 = false ∧ parseFieldDescriptor (TX4 3).2.2.1 = some .int := by decide +kernel
theorem kp_X4_4 : (TX4 4).2.2.2 = false ∧ parseFieldDescriptor (TX4 4).2.2.1 = some .int := by decide +kernel
theorem kp_X5_1 : (TX5 1).2.2.2 = false ∧ parseFieldDescriptor (TX5 1).2.2.1 = some .int := by decide +kernel
theorem kp_X6_9 : (TX6 9).2.2.2 = false ∧ parseFieldDescriptor (TX6 9).2.2.1 = some .int := by decide +kernel
theorem kp_X6_10 : (TX6 10).2.2.2 = false ∧ parseFieldDescriptor (TX6 10).2.2.1 = some .long := by decide +kernel
theorem kp_X7_0 : (TX7 0).2.2.2 = false ∧ parseFieldDescriptor (TX7 0).2.2.1 = some .int := by decide +kernel
theorem kp_X7_2 : (TX7 2).2.2.2 = false ∧ parseFieldDescriptor (TX7 2).2.2.1 = some .int := by decide +kernel
theorem kp_X7_3 : (TX7 3).2.2.2 = false ∧ parseFieldDescriptor (TX7 3).2.2.1 = some .int := by decide +kernel
theorem kp_X7_4 : (TX7 4).2.2.2 = false ∧ parseFieldDescriptor (TX7 4).2.2.1 = some .int := by decide +kernel
theorem kp_X7_7 : (TX7 7).2.2.2 = false ∧ parseFieldDescriptor (TX7 7).2.2.1 = some .int := by decide +kernel
theorem kp_X7_8 : (TX7 8).2.2.2 = false ∧ parseFieldDescriptor (TX7 8).2.2.1 = some .int := by decide +kernel
theorem kp_X7_14 : (TX7 14).2.2.2 = false ∧ parseFieldDescriptor (TX7 14).2.2.1 = some .int := by decide +kernel
theorem kp_X7_17 : (TX7 17).2.2.2 = false ∧ parseFieldDescriptor (TX7 17).2.2.1 = some .int := by decide +kernel
theorem kp_X7_22 : (TX7 22).2.2.2 = false ∧ parseFieldDescriptor (TX7 22).2.2.1 = some .long := by decide +kernel
theorem kp_X7_23 : (TX7 23).2.2.2 = false ∧ parseFieldDescriptor (TX7 23).2.2.1 = some .int := by decide +kernel
theorem kp_X7_24 : (TX7 24).2.2.2 = false ∧ parseFieldDescriptor (TX7 24).2.2.1 = some .int := by decide +kernel
theorem kp_X7_25 : (TX7 25).2.2.2 = false ∧ parseFieldDescriptor (TX7 25).2.2.1 = some .int := by decide +kernel
theorem kp_X7_26 : (TX7 26).2.2.2 = false ∧ parseFieldDescriptor (TX7 26).2.2.1 = some .int := by decide +kernel
theorem kp_X7_29 : (TX7 29).2.2.2 = false ∧ parseFieldDescriptor (TX7 29).2.2.1 = some .int := by decide +kernel
theorem kb_m9 : (Int8.ofInt (-9)).toInt32 = (-9) := by decide
theorem kb_m4 : (Int8.ofInt (-4)).toInt32 = (-4) := by decide
theorem kb_m3 : (Int8.ofInt (-3)).toInt32 = (-3) := by decide
theorem kb_m2 : (Int8.ofInt (-2)).toInt32 = (-2) := by decide
theorem kb_6 : (Int8.ofInt (6)).toInt32 = nI 6 := by decide
theorem kb_7 : (Int8.ofInt (7)).toInt32 = nI 7 := by decide
theorem kb_8 : (Int8.ofInt (8)).toInt32 = nI 8 := by decide
theorem kb_9 : (Int8.ofInt (9)).toInt32 = nI 9 := by decide
theorem kb_10 : (Int8.ofInt (10)).toInt32 = nI 10 := by decide
theorem kb_12 : (Int8.ofInt (12)).toInt32 = nI 12 := by decide
theorem kb_14 : (Int8.ofInt (14)).toInt32 = nI 14 := by decide
theorem kb_18 : (Int8.ofInt (18)).toInt32 = nI 18 := by decide
theorem kb_24 : (Int8.ofInt (24)).toInt32 = nI 24 := by decide
theorem kb_30 : (Int8.ofInt (30)).toInt32 = nI 30 := by decide
theorem kb_31 : (Int8.ofInt (31)).toInt32 = nI 31 := by decide
theorem kb_32 : (Int8.ofInt (32)).toInt32 = nI 32 := by decide
theorem kb_33 : (Int8.ofInt (33)).toInt32 = nI 33 := by decide
theorem kb_36 : (Int8.ofInt (36)).toInt32 = nI 36 := by decide
theorem kb_48 : (Int8.ofInt (48)).toInt32 = nI 48 := by decide
theorem kb_64 : (Int8.ofInt (64)).toInt32 = nI 64 := by decide
theorem kb_72 : (Int8.ofInt (72)).toInt32 = nI 72 := by decide
theorem kb_78 : (Int8.ofInt (78)).toInt32 = nI 78 := by decide
theorem kb_99 : (Int8.ofInt (99)).toInt32 = nI 99 := by decide
theorem kc_m1 : Int32.ofInt (-1) = (-1) := by decide
theorem kc_0 : Int32.ofInt (0) = nI 0 := by decide
theorem kc_1 : Int32.ofInt (1) = nI 1 := by decide
theorem kc_2 : Int32.ofInt (2) = nI 2 := by decide
theorem kc_3 : Int32.ofInt (3) = nI 3 := by decide
theorem kc_4 : Int32.ofInt (4) = nI 4 := by decide
theorem kc_5 : Int32.ofInt (5) = nI 5 := by decide
theorem ks_156 : (Int16.ofInt (156)).toInt32 = nI 156 := by decide
theorem ks_168 : (Int16.ofInt (168)).toInt32 = nI 168 := by decide
theorem ks_255 : (Int16.ofInt (255)).toInt32 = nI 255 := by decide
theorem kl_RL_111 : Jvm.Cond.constantLong RL 111 4294967295 ∈ ks_all := kw 809 (by decide +kernel)
theorem kl_RX6_210 : Jvm.Cond.constantLong RX6 210 6364136223846793005 ∈ ks_all := kw 501 (by decide +kernel)
theorem kl_RX6_212 : Jvm.Cond.constantLong RX6 212 1442695040888963407 ∈ ks_all := kw 502 (by decide +kernel)
theorem kl_RX6_214 : Jvm.Cond.constantLong RX6 214 9 ∈ ks_all := kw 503 (by decide +kernel)
theorem kl_RX7_70 : Jvm.Cond.constantLong RX7 70 255 ∈ ks_all := kw 618 (by decide +kernel)
theorem kl_RX7_113 : Jvm.Cond.constantLong RX7 113 3 ∈ ks_all := kw 658 (by decide +kernel)
theorem kl_RX7_115 : Jvm.Cond.constantLong RX7 115 99 ∈ ks_all := kw 663 (by decide +kernel)
theorem kl_RX7_146 : Jvm.Cond.constantLong RX7 146 6 ∈ ks_all := kw 714 (by decide +kernel)
theorem kl_RX7_169 : Jvm.Cond.constantLong RX7 169 9 ∈ ks_all := kw 760 (by decide +kernel)
theorem kl_RX7_171 : Jvm.Cond.constantLong RX7 171 10 ∈ ks_all := kw 761 (by decide +kernel)
theorem kl_RX7_195 : Jvm.Cond.constantLong RX7 195 30 ∈ ks_all := kw 798 (by decide +kernel)
theorem kl_RX7_197 : Jvm.Cond.constantLong RX7 197 6364136223846793005 ∈ ks_all := kw 799 (by decide +kernel)
theorem kl_RX7_199 : Jvm.Cond.constantLong RX7 199 1442695040888963407 ∈ ks_all := kw 800 (by decide +kernel)
theorem km_RX1_58 : Cond.methodLink RX1 58 Lib.Math.max.name ∈ ks_all := kw 390 (by decide +kernel)
theorem km_RX4_38 : Cond.methodLink RX4 38 Lib.Math.min.name ∈ ks_all := kw 266 (by decide +kernel)
theorem km_RX6_225 : Cond.methodLink RX6 225 Lib.Math.max.name ∈ ks_all := kw 128 (by decide +kernel)
theorem ks_RL_9 : ks_sI RL 9 yX6_init cX6_init 1 0 := ⟨⟨kw 37 (by decide +kernel), kw 38 (by decide +kernel), kw 25 (by decide +kernel), kw 39 (by decide +kernel)⟩, ⟨by decide +kernel, by decide +kernel, by decide +kernel⟩, by decide +kernel⟩
theorem ks_RL_12 : ks_sI RL 12 yX7_init cX7_init 1 0 := ⟨⟨kw 518 (by decide +kernel), kw 519 (by decide +kernel), kw 33 (by decide +kernel), kw 520 (by decide +kernel)⟩, ⟨by decide +kernel, by decide +kernel, by decide +kernel⟩, by decide +kernel⟩
theorem ks_RL_13 : ks_sV RL 13 yX6_write cX6_write 2 (some .int) 1 := ⟨⟨kw 217 (by decide +kernel), kw 218 (by decide +kernel), kw 219 (by decide +kernel), kw 25 (by decide +kernel), kw 220 (by decide +kernel)⟩, ⟨by decide +kernel, by decide +kernel, by decide +kernel⟩⟩
theorem ks_RL_17 : ks_sV RL 17 yX7_write cX7_write 2 (some .int) 1 := ⟨⟨kw 614 (by decide +kernel), kw 615 (by decide +kernel), kw 616 (by decide +kernel), kw 33 (by decide +kernel), kw 617 (by decide +kernel)⟩, ⟨by decide +kernel, by decide +kernel, by decide +kernel⟩⟩
theorem ks_RL_18 : ks_sV RL 18 yX6_wipe cX6_wipe 2 (some .int) 0 := ⟨⟨kw 225 (by decide +kernel), kw 226 (by decide +kernel), kw 227 (by decide +kernel), kw 25 (by decide +kernel), kw 228 (by decide +kernel)⟩, ⟨by decide +kernel, by decide +kernel, by decide +kernel⟩⟩
theorem ks_RL_22 : ks_sV RL 22 yX7_wipe cX7_wipe 2 (some .int) 0 := ⟨⟨kw 622 (by decide +kernel), kw 623 (by decide +kernel), kw 624 (by decide +kernel), kw 33 (by decide +kernel), kw 625 (by decide +kernel)⟩, ⟨by decide +kernel, by decide +kernel, by decide +kernel⟩⟩
theorem ks_RL_23 : ks_sV RL 23 yX6_fault cX6_fault 1 (some .int) 0 := ⟨⟨kw 229 (by decide +kernel), kw 230 (by decide +kernel), kw 231 (by decide +kernel), kw 25 (by decide +kernel), kw 232 (by decide +kernel)⟩, ⟨by decide +kernel, by decide +kernel, by decide +kernel⟩⟩
theorem ks_RL_26 : ks_sV RL 26 yX7_fault cX7_fault 1 (some .int) 0 := ⟨⟨kw 626 (by decide +kernel), kw 627 (by decide +kernel), kw 628 (by decide +kernel), kw 33 (by decide +kernel), kw 629 (by decide +kernel)⟩, ⟨by decide +kernel, by decide +kernel, by decide +kernel⟩⟩
theorem ks_RL_27 : ks_sV RL 27 yX6_street cX6_street 1 (some .int) 0 := ⟨⟨kw 253 (by decide +kernel), kw 254 (by decide +kernel), kw 255 (by decide +kernel), kw 25 (by decide +kernel), kw 256 (by decide +kernel)⟩, ⟨by decide +kernel, by decide +kernel, by decide +kernel⟩⟩
theorem ks_RL_30 : ks_sV RL 30 yX7_street cX7_street 3 (some .int) 0 := ⟨⟨kw 642 (by decide +kernel), kw 643 (by decide +kernel), kw 644 (by decide +kernel), kw 33 (by decide +kernel), kw 645 (by decide +kernel)⟩, ⟨by decide +kernel, by decide +kernel, by decide +kernel⟩⟩
theorem ks_RL_31 : ks_sV RL 31 yX6_about cX6_about 2 (some .int) 1 := ⟨⟨kw 287 (by decide +kernel), kw 288 (by decide +kernel), kw 289 (by decide +kernel), kw 25 (by decide +kernel), kw 290 (by decide +kernel)⟩, ⟨by decide +kernel, by decide +kernel, by decide +kernel⟩⟩
theorem ks_RL_34 : ks_sV RL 34 yX7_about cX7_about 2 (some .int) 1 := ⟨⟨kw 646 (by decide +kernel), kw 647 (by decide +kernel), kw 648 (by decide +kernel), kw 33 (by decide +kernel), kw 649 (by decide +kernel)⟩, ⟨by decide +kernel, by decide +kernel, by decide +kernel⟩⟩
theorem ks_RL_35 : ks_sV RL 35 yX6_house cX6_house 3 (some .int) 2 := ⟨⟨kw 291 (by decide +kernel), kw 292 (by decide +kernel), kw 293 (by decide +kernel), kw 25 (by decide +kernel), kw 294 (by decide +kernel)⟩, ⟨by decide +kernel, by decide +kernel, by decide +kernel⟩⟩
theorem ks_RL_39 : ks_sV RL 39 yX7_house cX7_house 3 (some .int) 2 := ⟨⟨kw 650 (by decide +kernel), kw 651 (by decide +kernel), kw 652 (by decide +kernel), kw 33 (by decide +kernel), kw 653 (by decide +kernel)⟩, ⟨by decide +kernel, by decide +kernel, by decide +kernel⟩⟩
theorem ks_RL_40 : ks_sV RL 40 yX6_sight cX6_sight 3 (some .int) 2 := ⟨⟨kw 305 (by decide +kernel), kw 306 (by decide +kernel), kw 307 (by decide +kernel), kw 25 (by decide +kernel), kw 308 (by decide +kernel)⟩, ⟨by decide +kernel, by decide +kernel, by decide +kernel⟩⟩
theorem ks_RL_43 : ks_sV RL 43 yX7_sight cX7_sight 3 (some .int) 2 := ⟨⟨kw 659 (by decide +kernel), kw 660 (by decide +kernel), kw 661 (by decide +kernel), kw 33 (by decide +kernel), kw 662 (by decide +kernel)⟩, ⟨by decide +kernel, by decide +kernel, by decide +kernel⟩⟩
theorem ks_RL_44 : ks_sV RL 44 yX6_walk cX6_walk 2 (some .int) 1 := ⟨⟨kw 313 (by decide +kernel), kw 314 (by decide +kernel), kw 315 (by decide +kernel), kw 25 (by decide +kernel), kw 316 (by decide +kernel)⟩, ⟨by decide +kernel, by decide +kernel, by decide +kernel⟩⟩
theorem ks_RL_47 : ks_sV RL 47 yX7_walk cX7_walk 2 (some .int) 1 := ⟨⟨kw 674 (by decide +kernel), kw 675 (by decide +kernel), kw 676 (by decide +kernel), kw 33 (by decide +kernel), kw 677 (by decide +kernel)⟩, ⟨by decide +kernel, by decide +kernel, by decide +kernel⟩⟩
theorem ks_RL_48 : ks_sV RL 48 yX6_look cX6_look 1 (some .int) 0 := ⟨⟨kw 347 (by decide +kernel), kw 348 (by decide +kernel), kw 349 (by decide +kernel), kw 25 (by decide +kernel), kw 350 (by decide +kernel)⟩, ⟨by decide +kernel, by decide +kernel, by decide +kernel⟩⟩
theorem ks_RL_51 : ks_sV RL 51 yX7_look cX7_look 1 (some .int) 0 := ⟨⟨kw 690 (by decide +kernel), kw 691 (by decide +kernel), kw 692 (by decide +kernel), kw 33 (by decide +kernel), kw 693 (by decide +kernel)⟩, ⟨by decide +kernel, by decide +kernel, by decide +kernel⟩⟩
theorem ks_RL_52 : ks_sV RL 52 yX6_pause cX6_pause 1 (some .int) 0 := ⟨⟨kw 351 (by decide +kernel), kw 352 (by decide +kernel), kw 353 (by decide +kernel), kw 25 (by decide +kernel), kw 354 (by decide +kernel)⟩, ⟨by decide +kernel, by decide +kernel, by decide +kernel⟩⟩
theorem ks_RL_55 : ks_sV RL 55 yX7_pause cX7_pause 1 (some .int) 0 := ⟨⟨kw 694 (by decide +kernel), kw 695 (by decide +kernel), kw 696 (by decide +kernel), kw 33 (by decide +kernel), kw 697 (by decide +kernel)⟩, ⟨by decide +kernel, by decide +kernel, by decide +kernel⟩⟩
theorem ks_RL_56 : ks_sV RL 56 yX6_lamp cX6_lamp 2 (some .int) 1 := ⟨⟨kw 355 (by decide +kernel), kw 356 (by decide +kernel), kw 357 (by decide +kernel), kw 25 (by decide +kernel), kw 358 (by decide +kernel)⟩, ⟨by decide +kernel, by decide +kernel, by decide +kernel⟩⟩
theorem ks_RL_59 : ks_sV RL 59 yX7_lamp cX7_lamp 2 (some .int) 1 := ⟨⟨kw 698 (by decide +kernel), kw 699 (by decide +kernel), kw 700 (by decide +kernel), kw 33 (by decide +kernel), kw 701 (by decide +kernel)⟩, ⟨by decide +kernel, by decide +kernel, by decide +kernel⟩⟩
theorem ks_RL_60 : ks_sV RL 60 yX6_key cX6_key 2 (some .int) 1 := ⟨⟨kw 359 (by decide +kernel), kw 360 (by decide +kernel), kw 361 (by decide +kernel), kw 25 (by decide +kernel), kw 362 (by decide +kernel)⟩, ⟨by decide +kernel, by decide +kernel, by decide +kernel⟩⟩
theorem ks_RL_63 : ks_sV RL 63 yX7_key cX7_key 2 (some .int) 1 := ⟨⟨kw 702 (by decide +kernel), kw 703 (by decide +kernel), kw 704 (by decide +kernel), kw 33 (by decide +kernel), kw 705 (by decide +kernel)⟩, ⟨by decide +kernel, by decide +kernel, by decide +kernel⟩⟩
theorem ks_RL_64 : ks_sV RL 64 yX6_undo cX6_undo 1 (some .int) 0 := ⟨⟨kw 363 (by decide +kernel), kw 364 (by decide +kernel), kw 365 (by decide +kernel), kw 25 (by decide +kernel), kw 366 (by decide +kernel)⟩, ⟨by decide +kernel, by decide +kernel, by decide +kernel⟩⟩
theorem ks_RL_67 : ks_sV RL 67 yX7_undo cX7_undo 2 (some .int) 0 := ⟨⟨kw 706 (by decide +kernel), kw 707 (by decide +kernel), kw 708 (by decide +kernel), kw 33 (by decide +kernel), kw 709 (by decide +kernel)⟩, ⟨by decide +kernel, by decide +kernel, by decide +kernel⟩⟩
theorem ks_RL_68 : ks_sV RL 68 yX6_best cX6_best 3 (some .int) 2 := ⟨⟨kw 371 (by decide +kernel), kw 372 (by decide +kernel), kw 373 (by decide +kernel), kw 25 (by decide +kernel), kw 374 (by decide +kernel)⟩, ⟨by decide +kernel, by decide +kernel, by decide +kernel⟩⟩
theorem ks_RL_72 : ks_sV RL 72 yX7_best cX7_best 3 (some .int) 2 := ⟨⟨kw 710 (by decide +kernel), kw 711 (by decide +kernel), kw 712 (by decide +kernel), kw 33 (by decide +kernel), kw 713 (by decide +kernel)⟩, ⟨by decide +kernel, by decide +kernel, by decide +kernel⟩⟩
theorem ks_RL_73 : ks_sV RL 73 yX6_fewest cX6_fewest 3 (some .int) 1 := ⟨⟨kw 396 (by decide +kernel), kw 397 (by decide +kernel), kw 398 (by decide +kernel), kw 25 (by decide +kernel), kw 399 (by decide +kernel)⟩, ⟨by decide +kernel, by decide +kernel, by decide +kernel⟩⟩
theorem ks_RL_76 : ks_sV RL 76 yX7_fewest cX7_fewest 4 (some .int) 1 := ⟨⟨kw 725 (by decide +kernel), kw 726 (by decide +kernel), kw 727 (by decide +kernel), kw 33 (by decide +kernel), kw 728 (by decide +kernel)⟩, ⟨by decide +kernel, by decide +kernel, by decide +kernel⟩⟩
theorem ks_RL_77 : ks_sV RL 77 yX6_keys cX6_keys 7 (some .int) 2 := ⟨⟨kw 400 (by decide +kernel), kw 401 (by decide +kernel), kw 402 (by decide +kernel), kw 25 (by decide +kernel), kw 403 (by decide +kernel)⟩, ⟨by decide +kernel, by decide +kernel, by decide +kernel⟩⟩
theorem ks_RL_80 : ks_sV RL 80 yX7_keys cX7_keys 5 (some .int) 2 := ⟨⟨kw 729 (by decide +kernel), kw 730 (by decide +kernel), kw 731 (by decide +kernel), kw 33 (by decide +kernel), kw 732 (by decide +kernel)⟩, ⟨by decide +kernel, by decide +kernel, by decide +kernel⟩⟩
theorem ks_RL_81 : ks_sV RL 81 yX6_judge cX6_judge 6 (some .int) 2 := ⟨⟨kw 415 (by decide +kernel), kw 416 (by decide +kernel), kw 417 (by decide +kernel), kw 25 (by decide +kernel), kw 418 (by decide +kernel)⟩, ⟨by decide +kernel, by decide +kernel, by decide +kernel⟩⟩
theorem ks_RL_84 : ks_sV RL 84 yX7_judge cX7_judge 6 (some .int) 2 := ⟨⟨kw 736 (by decide +kernel), kw 737 (by decide +kernel), kw 738 (by decide +kernel), kw 33 (by decide +kernel), kw 739 (by decide +kernel)⟩, ⟨by decide +kernel, by decide +kernel, by decide +kernel⟩⟩
theorem ks_RL_85 : ks_sV RL 85 yX6_share cX6_share 7 (some .int) 2 := ⟨⟨kw 428 (by decide +kernel), kw 429 (by decide +kernel), kw 430 (by decide +kernel), kw 25 (by decide +kernel), kw 431 (by decide +kernel)⟩, ⟨by decide +kernel, by decide +kernel, by decide +kernel⟩⟩
theorem ks_RL_88 : ks_sV RL 88 yX7_share cX7_share 6 (some .int) 2 := ⟨⟨kw 743 (by decide +kernel), kw 744 (by decide +kernel), kw 745 (by decide +kernel), kw 33 (by decide +kernel), kw 746 (by decide +kernel)⟩, ⟨by decide +kernel, by decide +kernel, by decide +kernel⟩⟩
theorem ks_RL_89 : ks_sV RL 89 yX6_see cX6_see 5 (some .int) 4 := ⟨⟨kw 445 (by decide +kernel), kw 446 (by decide +kernel), kw 447 (by decide +kernel), kw 25 (by decide +kernel), kw 448 (by decide +kernel)⟩, ⟨by decide +kernel, by decide +kernel, by decide +kernel⟩⟩
theorem ks_RL_93 : ks_sV RL 93 yX7_see cX7_see 5 (some .int) 4 := ⟨⟨kw 756 (by decide +kernel), kw 757 (by decide +kernel), kw 758 (by decide +kernel), kw 33 (by decide +kernel), kw 759 (by decide +kernel)⟩, ⟨by decide +kernel, by decide +kernel, by decide +kernel⟩⟩
theorem ks_RL_94 : ks_sV RL 94 yX6_unsee cX6_unsee 2 (some .int) 0 := ⟨⟨kw 453 (by decide +kernel), kw 454 (by decide +kernel), kw 455 (by decide +kernel), kw 25 (by decide +kernel), kw 456 (by decide +kernel)⟩, ⟨by decide +kernel, by decide +kernel, by decide +kernel⟩⟩
theorem ks_RL_97 : ks_sV RL 97 yX7_unsee cX7_unsee 2 (some .int) 0 := ⟨⟨kw 762 (by decide +kernel), kw 763 (by decide +kernel), kw 764 (by decide +kernel), kw 33 (by decide +kernel), kw 765 (by decide +kernel)⟩, ⟨by decide +kernel, by decide +kernel, by decide +kernel⟩⟩
theorem ks_RL_98 : ks_sV RL 98 yX6_shapes cX6_shapes 4 (some .int) 1 := ⟨⟨kw 457 (by decide +kernel), kw 458 (by decide +kernel), kw 459 (by decide +kernel), kw 25 (by decide +kernel), kw 460 (by decide +kernel)⟩, ⟨by decide +kernel, by decide +kernel, by decide +kernel⟩⟩
theorem ks_RL_101 : ks_sV RL 101 yX7_shapes cX7_shapes 6 (some .int) 1 := ⟨⟨kw 766 (by decide +kernel), kw 767 (by decide +kernel), kw 768 (by decide +kernel), kw 33 (by decide +kernel), kw 769 (by decide +kernel)⟩, ⟨by decide +kernel, by decide +kernel, by decide +kernel⟩⟩
theorem ks_RL_102 : ks_sV RL 102 yX6_rests cX6_rests 6 (some .int) 1 := ⟨⟨kw 466 (by decide +kernel), kw 467 (by decide +kernel), kw 468 (by decide +kernel), kw 25 (by decide +kernel), kw 469 (by decide +kernel)⟩, ⟨by decide +kernel, by decide +kernel, by decide +kernel⟩⟩
theorem ks_RL_105 : ks_sV RL 105 yX7_rests cX7_rests 2 (some .int) 1 := ⟨⟨kw 770 (by decide +kernel), kw 771 (by decide +kernel), kw 772 (by decide +kernel), kw 33 (by decide +kernel), kw 773 (by decide +kernel)⟩, ⟨by decide +kernel, by decide +kernel, by decide +kernel⟩⟩
theorem ks_RL_106 : ks_sV RL 106 yX6_chance cX6_chance 9 (some .int) 5 := ⟨⟨kw 478 (by decide +kernel), kw 479 (by decide +kernel), kw 480 (by decide +kernel), kw 25 (by decide +kernel), kw 481 (by decide +kernel)⟩, ⟨by decide +kernel, by decide +kernel, by decide +kernel⟩⟩
theorem ks_RL_110 : ks_sV RL 110 yX7_chance cX7_chance 11 (some .int) 5 := ⟨⟨kw 782 (by decide +kernel), kw 783 (by decide +kernel), kw 784 (by decide +kernel), kw 33 (by decide +kernel), kw 785 (by decide +kernel)⟩, ⟨by decide +kernel, by decide +kernel, by decide +kernel⟩⟩
theorem ks_RL_113 : ks_sV RL 113 yX6_seed cX6_seed 5 (some .long) 1 := ⟨⟨kw 493 (by decide +kernel), kw 494 (by decide +kernel), kw 495 (by decide +kernel), kw 25 (by decide +kernel), kw 496 (by decide +kernel)⟩, ⟨by decide +kernel, by decide +kernel, by decide +kernel⟩⟩
theorem ks_RL_117 : ks_sV RL 117 yX7_seed cX7_seed 5 (some .long) 1 := ⟨⟨kw 790 (by decide +kernel), kw 791 (by decide +kernel), kw 792 (by decide +kernel), kw 33 (by decide +kernel), kw 793 (by decide +kernel)⟩, ⟨by decide +kernel, by decide +kernel, by decide +kernel⟩⟩
theorem ks_RL_118 : ks_sV RL 118 yX6_rounds cX6_rounds 3 (some .int) 1 := ⟨⟨kw 497 (by decide +kernel), kw 498 (by decide +kernel), kw 499 (by decide +kernel), kw 25 (by decide +kernel), kw 500 (by decide +kernel)⟩, ⟨by decide +kernel, by decide +kernel, by decide +kernel⟩⟩
theorem ks_RL_121 : ks_sV RL 121 yX7_rounds cX7_rounds 4 (some .int) 1 := ⟨⟨kw 794 (by decide +kernel), kw 795 (by decide +kernel), kw 796 (by decide +kernel), kw 33 (by decide +kernel), kw 797 (by decide +kernel)⟩, ⟨by decide +kernel, by decide +kernel, by decide +kernel⟩⟩
theorem ks_RL_122 : ks_sV RL 122 yX6_keep cX6_keep 2 (some .int) 1 := ⟨⟨kw 508 (by decide +kernel), kw 509 (by decide +kernel), kw 510 (by decide +kernel), kw 25 (by decide +kernel), kw 511 (by decide +kernel)⟩, ⟨by decide +kernel, by decide +kernel, by decide +kernel⟩⟩
theorem ks_RL_125 : ks_sV RL 125 yX7_keep cX7_keep 3 (some .int) 1 := ⟨⟨kw 801 (by decide +kernel), kw 802 (by decide +kernel), kw 803 (by decide +kernel), kw 33 (by decide +kernel), kw 804 (by decide +kernel)⟩, ⟨by decide +kernel, by decide +kernel, by decide +kernel⟩⟩
theorem ks_RL_126 : ks_sV RL 126 yX6_again cX6_again 2 (some .int) 1 := ⟨⟨kw 512 (by decide +kernel), kw 513 (by decide +kernel), kw 514 (by decide +kernel), kw 25 (by decide +kernel), kw 515 (by decide +kernel)⟩, ⟨by decide +kernel, by decide +kernel, by decide +kernel⟩⟩
theorem ks_RL_129 : ks_sV RL 129 yX7_again cX7_again 3 (some .int) 1 := ⟨⟨kw 805 (by decide +kernel), kw 806 (by decide +kernel), kw 807 (by decide +kernel), kw 33 (by decide +kernel), kw 808 (by decide +kernel)⟩, ⟨by decide +kernel, by decide +kernel, by decide +kernel⟩⟩
theorem ks_RX0_26 : ks_sS RX0 26 yJ9_floorMod_7cf53 cJ9_floorMod_7cf53 3 (some .int) 2 := ⟨⟨kw 329 (by decide +kernel), kw 278 (by decide +kernel), kw 30 (by decide +kernel), kw 279 (by decide +kernel)⟩, ⟨by decide +kernel, by decide +kernel, by decide +kernel⟩⟩
theorem ks_RX0_32 : ks_sV RX0 32 yX3_copy cX3_copy 2 none 1 := ⟨⟨kw 330 (by decide +kernel), kw 331 (by decide +kernel), kw 332 (by decide +kernel), kw 28 (by decide +kernel), kw 333 (by decide +kernel)⟩, ⟨by decide +kernel, by decide +kernel, by decide +kernel⟩⟩
theorem ks_RX1_26 : ks_sV RX1 26 yX3_copy cX3_copy 2 none 1 := ⟨⟨kw 383 (by decide +kernel), kw 331 (by decide +kernel), kw 332 (by decide +kernel), kw 28 (by decide +kernel), kw 333 (by decide +kernel)⟩, ⟨by decide +kernel, by decide +kernel, by decide +kernel⟩⟩
theorem ks_RX1_30 : ks_sS RX1 30 yX1_mostBelow cX1_mostBelow 6 (some .int) 3 := ⟨⟨kw 384 (by decide +kernel), kw 385 (by decide +kernel), kw 31 (by decide +kernel), kw 386 (by decide +kernel)⟩, ⟨by decide +kernel, by decide +kernel, by decide +kernel⟩⟩
theorem ks_RX1_38 : ks_sV RX1 38 yX1_most cX1_most 4 (some .int) 3 := ⟨⟨kw 379 (by decide +kernel), kw 380 (by decide +kernel), kw 381 (by decide +kernel), kw 31 (by decide +kernel), kw 382 (by decide +kernel)⟩, ⟨by decide +kernel, by decide +kernel, by decide +kernel⟩⟩
theorem ks_RX1_42 : ks_sV RX1 42 yX1_firstTurnTo cX1_firstTurnTo 5 (some .int) 3 := ⟨⟨kw 391 (by decide +kernel), kw 393 (by decide +kernel), kw 4 (by decide +kernel), kw 31 (by decide +kernel), kw 394 (by decide +kernel)⟩, ⟨by decide +kernel, by decide +kernel, by decide +kernel⟩⟩
theorem ks_RX1_46 : ks_sV RX1 46 yX3_take cX3_take 4 (some .int) 2 := ⟨⟨kw 389 (by decide +kernel), kw 335 (by decide +kernel), kw 336 (by decide +kernel), kw 28 (by decide +kernel), kw 337 (by decide +kernel)⟩, ⟨by decide +kernel, by decide +kernel, by decide +kernel⟩⟩
theorem ks_RX1_50 : ks_sV RX1 50 yX3_can cX3_can 3 (some .boolean) 2 := ⟨⟨kw 387 (by decide +kernel), kw 318 (by decide +kernel), kw 319 (by decide +kernel), kw 28 (by decide +kernel), kw 320 (by decide +kernel)⟩, ⟨by decide +kernel, by decide +kernel, by decide +kernel⟩⟩
theorem ks_RX1_54 : ks_sV RX1 54 yX3_gain cX3_gain 2 (some .int) 1 := ⟨⟨kw 388 (by decide +kernel), kw 339 (by decide +kernel), kw 340 (by decide +kernel), kw 28 (by decide +kernel), kw 341 (by decide +kernel)⟩, ⟨by decide +kernel, by decide +kernel, by decide +kernel⟩⟩
theorem ks_RX2_28 : ks_sS RX2 28 yX4_through cX4_through 3 (some .int) 3 := ⟨⟨kw 465 (by decide +kernel), kw 281 (by decide +kernel), kw 27 (by decide +kernel), kw 282 (by decide +kernel)⟩, ⟨by decide +kernel, by decide +kernel, by decide +kernel⟩⟩
theorem ks_RX3_43 : ks_sV RX3 43 yX3_gain cX3_gain 2 (some .int) 1 := ⟨⟨kw 338 (by decide +kernel), kw 339 (by decide +kernel), kw 340 (by decide +kernel), kw 28 (by decide +kernel), kw 341 (by decide +kernel)⟩, ⟨by decide +kernel, by decide +kernel, by decide +kernel⟩⟩
theorem ks_RX3_47 : ks_sV RX3 47 yX3_newsBit cX3_newsBit 1 (some .int) 0 := ⟨⟨kw 342 (by decide +kernel), kw 344 (by decide +kernel), kw 3 (by decide +kernel), kw 28 (by decide +kernel), kw 345 (by decide +kernel)⟩, ⟨by decide +kernel, by decide +kernel, by decide +kernel⟩⟩
theorem ks_RX3_51 : ks_sV RX3 51 yX3_shown cX3_shown 6 (some .int) 3 := ⟨⟨kw 346 (by decide +kernel), kw 310 (by decide +kernel), kw 311 (by decide +kernel), kw 28 (by decide +kernel), kw 312 (by decide +kernel)⟩, ⟨by decide +kernel, by decide +kernel, by decide +kernel⟩⟩
theorem ks_RX4_28 : ks_sV RX4 28 yX5_digitAt cX5_digitAt 2 (some .int) 1 := ⟨⟨kw 261 (by decide +kernel), kw 250 (by decide +kernel), kw 251 (by decide +kernel), kw 26 (by decide +kernel), kw 252 (by decide +kernel)⟩, ⟨by decide +kernel, by decide +kernel, by decide +kernel⟩⟩
theorem ks_RX4_34 : ks_sV RX4 34 yX5_housesTold cX5_housesTold 1 (some .int) 0 := ⟨⟨kw 262 (by decide +kernel), kw 263 (by decide +kernel), kw 264 (by decide +kernel), kw 26 (by decide +kernel), kw 265 (by decide +kernel)⟩, ⟨by decide +kernel, by decide +kernel, by decide +kernel⟩⟩
theorem ks_RX4_44 : ks_sV RX4 44 yX4_newsOf cX4_newsOf 3 (some .int) 2 := ⟨⟨kw 269 (by decide +kernel), kw 270 (by decide +kernel), kw 271 (by decide +kernel), kw 27 (by decide +kernel), kw 272 (by decide +kernel)⟩, ⟨by decide +kernel, by decide +kernel, by decide +kernel⟩⟩
theorem ks_RX4_47 : ks_sS RX4 47 yX4_through cX4_through 3 (some .int) 3 := ⟨⟨kw 280 (by decide +kernel), kw 281 (by decide +kernel), kw 27 (by decide +kernel), kw 282 (by decide +kernel)⟩, ⟨by decide +kernel, by decide +kernel, by decide +kernel⟩⟩
theorem ks_RX4_51 : ks_sV RX4 51 yX4_has cX4_has 2 (some .boolean) 1 := ⟨⟨kw 273 (by decide +kernel), kw 274 (by decide +kernel), kw 275 (by decide +kernel), kw 27 (by decide +kernel), kw 276 (by decide +kernel)⟩, ⟨by decide +kernel, by decide +kernel, by decide +kernel⟩⟩
theorem ks_RX4_55 : ks_sS RX4 55 yJ9_floorMod_7cf53 cJ9_floorMod_7cf53 3 (some .int) 2 := ⟨⟨kw 277 (by decide +kernel), kw 278 (by decide +kernel), kw 30 (by decide +kernel), kw 279 (by decide +kernel)⟩, ⟨by decide +kernel, by decide +kernel, by decide +kernel⟩⟩
theorem ks_RX5_19 : ks_sV RX5 19 yX5_at cX5_at 2 (some .int) 1 := ⟨⟨kw 241 (by decide +kernel), kw 242 (by decide +kernel), kw 243 (by decide +kernel), kw 26 (by decide +kernel), kw 244 (by decide +kernel)⟩, ⟨by decide +kernel, by decide +kernel, by decide +kernel⟩⟩
theorem ks_RX5_23 : ks_sV RX5 23 yX5_fits cX5_fits 4 (some .boolean) 1 := ⟨⟨kw 237 (by decide +kernel), kw 239 (by decide +kernel), kw 0 (by decide +kernel), kw 26 (by decide +kernel), kw 240 (by decide +kernel)⟩, ⟨by decide +kernel, by decide +kernel, by decide +kernel⟩⟩
theorem ks_RX5_27 : ks_sV RX5 27 yX5_isDigit cX5_isDigit 3 (some .boolean) 2 := ⟨⟨kw 245 (by decide +kernel), kw 247 (by decide +kernel), kw 1 (by decide +kernel), kw 26 (by decide +kernel), kw 248 (by decide +kernel)⟩, ⟨by decide +kernel, by decide +kernel, by decide +kernel⟩⟩
theorem ks_RX5_31 : ks_sV RX5 31 yX5_digitAt cX5_digitAt 2 (some .int) 1 := ⟨⟨kw 249 (by decide +kernel), kw 250 (by decide +kernel), kw 251 (by decide +kernel), kw 26 (by decide +kernel), kw 252 (by decide +kernel)⟩, ⟨by decide +kernel, by decide +kernel, by decide +kernel⟩⟩
theorem ks_RX6_54 : ks_sS RX6 54 yX6_newStands cX6_newStands 3 (some (.array (.object "KeyholeNews$Stand"))) 1 := ⟨⟨kw 182 (by decide +kernel), kw 126 (by decide +kernel), kw 25 (by decide +kernel), kw 127 (by decide +kernel)⟩, ⟨by decide +kernel, by decide +kernel, by decide +kernel⟩⟩
theorem ks_RX6_77 : ks_sV RX6 77 yX5_add cX5_add 2 none 1 := ⟨⟨kw 221 (by decide +kernel), kw 222 (by decide +kernel), kw 223 (by decide +kernel), kw 26 (by decide +kernel), kw 224 (by decide +kernel)⟩, ⟨by decide +kernel, by decide +kernel, by decide +kernel⟩⟩
theorem ks_RX6_81 : ks_sV RX6 81 yX5_firstFault cX5_firstFault 2 (some .int) 0 := ⟨⟨kw 233 (by decide +kernel), kw 234 (by decide +kernel), kw 235 (by decide +kernel), kw 26 (by decide +kernel), kw 236 (by decide +kernel)⟩, ⟨by decide +kernel, by decide +kernel, by decide +kernel⟩⟩
theorem ks_RX6_85 : ks_sV RX6 85 yX4_takeFrom cX4_takeFrom 5 none 1 := ⟨⟨kw 257 (by decide +kernel), kw 258 (by decide +kernel), kw 259 (by decide +kernel), kw 27 (by decide +kernel), kw 260 (by decide +kernel)⟩, ⟨by decide +kernel, by decide +kernel, by decide +kernel⟩⟩
theorem ks_RX6_89 : ks_sV RX6 89 yX3_begin cX3_begin 2 none 1 := ⟨⟨kw 283 (by decide +kernel), kw 284 (by decide +kernel), kw 285 (by decide +kernel), kw 28 (by decide +kernel), kw 286 (by decide +kernel)⟩, ⟨by decide +kernel, by decide +kernel, by decide +kernel⟩⟩
theorem ks_RX6_116 : ks_sV RX6 116 yX4_has cX4_has 2 (some .boolean) 1 := ⟨⟨kw 295 (by decide +kernel), kw 274 (by decide +kernel), kw 275 (by decide +kernel), kw 27 (by decide +kernel), kw 276 (by decide +kernel)⟩, ⟨by decide +kernel, by decide +kernel, by decide +kernel⟩⟩
theorem ks_RX6_120 : ks_sV RX6 120 yX4_shapeOf cX4_shapeOf 2 (some .int) 1 := ⟨⟨kw 296 (by decide +kernel), kw 297 (by decide +kernel), kw 298 (by decide +kernel), kw 27 (by decide +kernel), kw 299 (by decide +kernel)⟩, ⟨by decide +kernel, by decide +kernel, by decide +kernel⟩⟩
theorem ks_RX6_124 : ks_sV RX6 124 yX4_newsOf cX4_newsOf 3 (some .int) 2 := ⟨⟨kw 300 (by decide +kernel), kw 270 (by decide +kernel), kw 271 (by decide +kernel), kw 27 (by decide +kernel), kw 272 (by decide +kernel)⟩, ⟨by decide +kernel, by decide +kernel, by decide +kernel⟩⟩
theorem ks_RX6_128 : ks_sV RX6 128 yX3_readOf cX3_readOf 2 (some .int) 1 := ⟨⟨kw 301 (by decide +kernel), kw 302 (by decide +kernel), kw 303 (by decide +kernel), kw 28 (by decide +kernel), kw 304 (by decide +kernel)⟩, ⟨by decide +kernel, by decide +kernel, by decide +kernel⟩⟩
theorem ks_RX6_131 : ks_sV RX6 131 yX3_shown cX3_shown 6 (some .int) 3 := ⟨⟨kw 309 (by decide +kernel), kw 310 (by decide +kernel), kw 311 (by decide +kernel), kw 28 (by decide +kernel), kw 312 (by decide +kernel)⟩, ⟨by decide +kernel, by decide +kernel, by decide +kernel⟩⟩
theorem ks_RX6_135 : ks_sV RX6 135 yX3_can cX3_can 3 (some .boolean) 2 := ⟨⟨kw 317 (by decide +kernel), kw 318 (by decide +kernel), kw 319 (by decide +kernel), kw 28 (by decide +kernel), kw 320 (by decide +kernel)⟩, ⟨by decide +kernel, by decide +kernel, by decide +kernel⟩⟩
theorem ks_RX6_139 : ks_sV RX6 139 yX6_act cX6_act 2 (some .int) 1 := ⟨⟨kw 321 (by decide +kernel), kw 323 (by decide +kernel), kw 2 (by decide +kernel), kw 25 (by decide +kernel), kw 324 (by decide +kernel)⟩, ⟨by decide +kernel, by decide +kernel, by decide +kernel⟩⟩
theorem ks_RX6_142 : ks_sV RX6 142 yX0_remember cX0_remember 2 none 1 := ⟨⟨kw 325 (by decide +kernel), kw 326 (by decide +kernel), kw 327 (by decide +kernel), kw 29 (by decide +kernel), kw 328 (by decide +kernel)⟩, ⟨by decide +kernel, by decide +kernel, by decide +kernel⟩⟩
theorem ks_RX6_146 : ks_sV RX6 146 yX0_takeBack cX0_takeBack 2 none 1 := ⟨⟨kw 367 (by decide +kernel), kw 368 (by decide +kernel), kw 369 (by decide +kernel), kw 29 (by decide +kernel), kw 370 (by decide +kernel)⟩, ⟨by decide +kernel, by decide +kernel, by decide +kernel⟩⟩
theorem ks_RX6_149 : ks_sV RX6 149 yX3_take cX3_take 4 (some .int) 2 := ⟨⟨kw 334 (by decide +kernel), kw 335 (by decide +kernel), kw 336 (by decide +kernel), kw 28 (by decide +kernel), kw 337 (by decide +kernel)⟩, ⟨by decide +kernel, by decide +kernel, by decide +kernel⟩⟩
theorem ks_RX6_153 : ks_sV RX6 153 yX1_bestRow cX1_bestRow 8 (some .int) 3 := ⟨⟨kw 375 (by decide +kernel), kw 376 (by decide +kernel), kw 377 (by decide +kernel), kw 31 (by decide +kernel), kw 378 (by decide +kernel)⟩, ⟨by decide +kernel, by decide +kernel, by decide +kernel⟩⟩
theorem ks_RX6_157 : ks_sV RX6 157 yX1_most cX1_most 4 (some .int) 3 := ⟨⟨kw 395 (by decide +kernel), kw 380 (by decide +kernel), kw 381 (by decide +kernel), kw 31 (by decide +kernel), kw 382 (by decide +kernel)⟩, ⟨by decide +kernel, by decide +kernel, by decide +kernel⟩⟩
theorem ks_RX6_160 : ks_sS RX6 160 yJ6_bitCount_0f7a4 cJ6_bitCount_0f7a4 1 (some .int) 1 := ⟨⟨kw 404 (by decide +kernel), kw 405 (by decide +kernel), kw 34 (by decide +kernel), kw 406 (by decide +kernel)⟩, ⟨by decide +kernel, by decide +kernel, by decide +kernel⟩⟩
theorem ks_RX6_165 : ks_sV RX6 165 yX6_bestWithKeys cX6_bestWithKeys 3 (some .int) 2 := ⟨⟨kw 410 (by decide +kernel), kw 412 (by decide +kernel), kw 5 (by decide +kernel), kw 25 (by decide +kernel), kw 413 (by decide +kernel)⟩, ⟨by decide +kernel, by decide +kernel, by decide +kernel⟩⟩
theorem ks_RX6_168 : ks_sS RX6 168 yX6_isRow cX6_isRow 3 (some .boolean) 2 := ⟨⟨kw 419 (by decide +kernel), kw 420 (by decide +kernel), kw 25 (by decide +kernel), kw 421 (by decide +kernel)⟩, ⟨by decide +kernel, by decide +kernel, by decide +kernel⟩⟩
theorem ks_RX6_172 : ks_sV RX6 172 yX3_copy cX3_copy 2 none 1 := ⟨⟨kw 414 (by decide +kernel), kw 331 (by decide +kernel), kw 332 (by decide +kernel), kw 28 (by decide +kernel), kw 333 (by decide +kernel)⟩, ⟨by decide +kernel, by decide +kernel, by decide +kernel⟩⟩
theorem ks_RX6_175 : ks_sS RX6 175 yX6_figure cX6_figure 5 (some .int) 3 := ⟨⟨kw 425 (by decide +kernel), kw 426 (by decide +kernel), kw 25 (by decide +kernel), kw 427 (by decide +kernel)⟩, ⟨by decide +kernel, by decide +kernel, by decide +kernel⟩⟩
theorem ks_RX6_179 : ks_sS RX6 179 yX6_factorial cX6_factorial 3 (some .int) 1 := ⟨⟨kw 432 (by decide +kernel), kw 433 (by decide +kernel), kw 25 (by decide +kernel), kw 434 (by decide +kernel)⟩, ⟨by decide +kernel, by decide +kernel, by decide +kernel⟩⟩
theorem ks_RX6_182 : ks_sV RX6 182 yX6_bestAmong cX6_bestAmong 2 (some .int) 1 := ⟨⟨kw 435 (by decide +kernel), kw 437 (by decide +kernel), kw 6 (by decide +kernel), kw 25 (by decide +kernel), kw 438 (by decide +kernel)⟩, ⟨by decide +kernel, by decide +kernel, by decide +kernel⟩⟩
theorem ks_RX6_185 : ks_sS RX6 185 yX6_partOf cX6_partOf 4 (some .int) 3 := ⟨⟨kw 439 (by decide +kernel), kw 440 (by decide +kernel), kw 25 (by decide +kernel), kw 441 (by decide +kernel)⟩, ⟨by decide +kernel, by decide +kernel, by decide +kernel⟩⟩
theorem ks_RX6_189 : ks_sV RX6 189 yX2_add cX2_add 5 none 4 := ⟨⟨kw 449 (by decide +kernel), kw 450 (by decide +kernel), kw 451 (by decide +kernel), kw 32 (by decide +kernel), kw 452 (by decide +kernel)⟩, ⟨by decide +kernel, by decide +kernel, by decide +kernel⟩⟩
theorem ks_RX6_192 : ks_sV RX6 192 yX2_allows cX2_allows 4 (some .boolean) 2 := ⟨⟨kw 461 (by decide +kernel), kw 462 (by decide +kernel), kw 463 (by decide +kernel), kw 32 (by decide +kernel), kw 464 (by decide +kernel)⟩, ⟨by decide +kernel, by decide +kernel, by decide +kernel⟩⟩
theorem ks_RX6_195 : ks_sV RX6 195 yX6_isContent cX6_isContent 5 (some .boolean) 2 := ⟨⟨kw 470 (by decide +kernel), kw 472 (by decide +kernel), kw 7 (by decide +kernel), kw 25 (by decide +kernel), kw 473 (by decide +kernel)⟩, ⟨by decide +kernel, by decide +kernel, by decide +kernel⟩⟩
theorem ks_RX6_198 : ks_sV RX6 198 yX6_gatherGains cX6_gatherGains 7 (some .int) 2 := ⟨⟨kw 482 (by decide +kernel), kw 484 (by decide +kernel), kw 9 (by decide +kernel), kw 25 (by decide +kernel), kw 485 (by decide +kernel)⟩, ⟨by decide +kernel, by decide +kernel, by decide +kernel⟩⟩
theorem ks_RX6_201 : ks_sV RX6 201 yX6_joyOf cX6_joyOf 5 (some .int) 2 := ⟨⟨kw 486 (by decide +kernel), kw 488 (by decide +kernel), kw 10 (by decide +kernel), kw 25 (by decide +kernel), kw 489 (by decide +kernel)⟩, ⟨by decide +kernel, by decide +kernel, by decide +kernel⟩⟩
theorem ks_RX6_204 : ks_sS RX6 204 yX6_weightOf cX6_weightOf 4 (some .int) 3 := ⟨⟨kw 490 (by decide +kernel), kw 491 (by decide +kernel), kw 25 (by decide +kernel), kw 492 (by decide +kernel)⟩, ⟨by decide +kernel, by decide +kernel, by decide +kernel⟩⟩
theorem ks_RX6_207 : ks_sS RX6 207 yX6_power cX6_power 4 (some .int) 2 := ⟨⟨kw 422 (by decide +kernel), kw 423 (by decide +kernel), kw 25 (by decide +kernel), kw 424 (by decide +kernel)⟩, ⟨by decide +kernel, by decide +kernel, by decide +kernel⟩⟩
theorem ks_RX6_216 : ks_sV RX6 216 yX6_playRound cX6_playRound 2 none 1 := ⟨⟨kw 504 (by decide +kernel), kw 506 (by decide +kernel), kw 11 (by decide +kernel), kw 25 (by decide +kernel), kw 507 (by decide +kernel)⟩, ⟨by decide +kernel, by decide +kernel, by decide +kernel⟩⟩
theorem ks_RX6_219 : ks_sV RX6 219 yX6_restJoy cX6_restJoy 4 (some .int) 2 := ⟨⟨kw 474 (by decide +kernel), kw 476 (by decide +kernel), kw 8 (by decide +kernel), kw 25 (by decide +kernel), kw 477 (by decide +kernel)⟩, ⟨by decide +kernel, by decide +kernel, by decide +kernel⟩⟩
theorem ks_RX6_222 : ks_sS RX6 222 yX6_commonDivisor cX6_commonDivisor 6 (some .int) 2 := ⟨⟨kw 442 (by decide +kernel), kw 443 (by decide +kernel), kw 25 (by decide +kernel), kw 444 (by decide +kernel)⟩, ⟨by decide +kernel, by decide +kernel, by decide +kernel⟩⟩
theorem ks_RX7_66 : ks_sS RX7 66 yX7_in cX7_in 6 (some .boolean) 3 := ⟨⟨kw 619 (by decide +kernel), kw 620 (by decide +kernel), kw 33 (by decide +kernel), kw 621 (by decide +kernel)⟩, ⟨by decide +kernel, by decide +kernel, by decide +kernel⟩⟩
theorem ks_RX7_78 : ks_sV RX7 78 yX7_figure cX7_figure 2 (some .int) 1 := ⟨⟨kw 634 (by decide +kernel), kw 636 (by decide +kernel), kw 13 (by decide +kernel), kw 33 (by decide +kernel), kw 637 (by decide +kernel)⟩, ⟨by decide +kernel, by decide +kernel, by decide +kernel⟩⟩
theorem ks_RX7_88 : ks_sV RX7 88 yX7_readHouse cX7_readHouse 3 (some .boolean) 0 := ⟨⟨kw 638 (by decide +kernel), kw 640 (by decide +kernel), kw 14 (by decide +kernel), kw 33 (by decide +kernel), kw 641 (by decide +kernel)⟩, ⟨by decide +kernel, by decide +kernel, by decide +kernel⟩⟩
theorem ks_RX7_91 : ks_sV RX7 91 yX7_readStreet cX7_readStreet 1 (some .int) 0 := ⟨⟨kw 630 (by decide +kernel), kw 632 (by decide +kernel), kw 12 (by decide +kernel), kw 33 (by decide +kernel), kw 633 (by decide +kernel)⟩, ⟨by decide +kernel, by decide +kernel, by decide +kernel⟩⟩
theorem ks_RX7_98 : ks_sS RX7 98 yX7_has cX7_has 2 (some .boolean) 2 := ⟨⟨kw 668 (by decide +kernel), kw 669 (by decide +kernel), kw 33 (by decide +kernel), kw 670 (by decide +kernel)⟩, ⟨by decide +kernel, by decide +kernel, by decide +kernel⟩⟩
theorem ks_RX7_102 : ks_sS RX7 102 yX7_showsBy cX7_showsBy 3 (some .int) 3 := ⟨⟨kw 671 (by decide +kernel), kw 672 (by decide +kernel), kw 33 (by decide +kernel), kw 673 (by decide +kernel)⟩, ⟨by decide +kernel, by decide +kernel, by decide +kernel⟩⟩
theorem ks_RX7_109 : ks_sV RX7 109 yX7_noHouse cX7_noHouse 2 (some .boolean) 1 := ⟨⟨kw 654 (by decide +kernel), kw 656 (by decide +kernel), kw 15 (by decide +kernel), kw 33 (by decide +kernel), kw 657 (by decide +kernel)⟩, ⟨by decide +kernel, by decide +kernel, by decide +kernel⟩⟩
theorem ks_RX7_117 : ks_sV RX7 117 yX7_sightOf cX7_sightOf 5 (some .int) 3 := ⟨⟨kw 664 (by decide +kernel), kw 666 (by decide +kernel), kw 16 (by decide +kernel), kw 33 (by decide +kernel), kw 667 (by decide +kernel)⟩, ⟨by decide +kernel, by decide +kernel, by decide +kernel⟩⟩
theorem ks_RX7_121 : ks_sV RX7 121 yX7_can cX7_can 3 (some .boolean) 2 := ⟨⟨kw 678 (by decide +kernel), kw 680 (by decide +kernel), kw 17 (by decide +kernel), kw 33 (by decide +kernel), kw 681 (by decide +kernel)⟩, ⟨by decide +kernel, by decide +kernel, by decide +kernel⟩⟩
theorem ks_RX7_125 : ks_sV RX7 125 yX7_note cX7_note 2 none 0 := ⟨⟨kw 682 (by decide +kernel), kw 684 (by decide +kernel), kw 18 (by decide +kernel), kw 33 (by decide +kernel), kw 685 (by decide +kernel)⟩, ⟨by decide +kernel, by decide +kernel, by decide +kernel⟩⟩
theorem ks_RX7_128 : ks_sV RX7 128 yX7_go cX7_go 6 (some .int) 2 := ⟨⟨kw 686 (by decide +kernel), kw 688 (by decide +kernel), kw 19 (by decide +kernel), kw 33 (by decide +kernel), kw 689 (by decide +kernel)⟩, ⟨by decide +kernel, by decide +kernel, by decide +kernel⟩⟩
theorem ks_RX7_138 : ks_sS RX7 138 yX7_power cX7_power 4 (some .int) 2 := ⟨⟨kw 722 (by decide +kernel), kw 723 (by decide +kernel), kw 33 (by decide +kernel), kw 724 (by decide +kernel)⟩, ⟨by decide +kernel, by decide +kernel, by decide +kernel⟩⟩
theorem ks_RX7_142 : ks_sS RX7 142 yX7_copy cX7_copy 3 none 2 := ⟨⟨kw 715 (by decide +kernel), kw 716 (by decide +kernel), kw 33 (by decide +kernel), kw 717 (by decide +kernel)⟩, ⟨by decide +kernel, by decide +kernel, by decide +kernel⟩⟩
theorem ks_RX7_148 : ks_sV RX7 148 yX7_findBest cX7_findBest 7 none 1 := ⟨⟨kw 718 (by decide +kernel), kw 720 (by decide +kernel), kw 20 (by decide +kernel), kw 33 (by decide +kernel), kw 721 (by decide +kernel)⟩, ⟨by decide +kernel, by decide +kernel, by decide +kernel⟩⟩
theorem ks_RX7_152 : ks_sS RX7 152 yX7_many cX7_many 3 (some .int) 1 := ⟨⟨kw 733 (by decide +kernel), kw 734 (by decide +kernel), kw 33 (by decide +kernel), kw 735 (by decide +kernel)⟩, ⟨by decide +kernel, by decide +kernel, by decide +kernel⟩⟩
theorem ks_RX7_155 : ks_sS RX7 155 yX7_noRow cX7_noRow 5 (some .boolean) 3 := ⟨⟨kw 740 (by decide +kernel), kw 741 (by decide +kernel), kw 33 (by decide +kernel), kw 742 (by decide +kernel)⟩, ⟨by decide +kernel, by decide +kernel, by decide +kernel⟩⟩
theorem ks_RX7_159 : ks_sS RX7 159 yX7_divisor cX7_divisor 5 (some .int) 2 := ⟨⟨kw 753 (by decide +kernel), kw 754 (by decide +kernel), kw 33 (by decide +kernel), kw 755 (by decide +kernel)⟩, ⟨by decide +kernel, by decide +kernel, by decide +kernel⟩⟩
theorem ks_RX7_162 : ks_sS RX7 162 yX7_ways cX7_ways 3 (some .int) 1 := ⟨⟨kw 747 (by decide +kernel), kw 748 (by decide +kernel), kw 33 (by decide +kernel), kw 749 (by decide +kernel)⟩, ⟨by decide +kernel, by decide +kernel, by decide +kernel⟩⟩
theorem ks_RX7_165 : ks_sS RX7 165 yX7_fraction cX7_fraction 4 (some .int) 3 := ⟨⟨kw 750 (by decide +kernel), kw 751 (by decide +kernel), kw 33 (by decide +kernel), kw 752 (by decide +kernel)⟩, ⟨by decide +kernel, by decide +kernel, by decide +kernel⟩⟩
theorem ks_RX7_179 : ks_sV RX7 179 yX7_holds cX7_holds 4 (some .int) 2 := ⟨⟨kw 778 (by decide +kernel), kw 780 (by decide +kernel), kw 22 (by decide +kernel), kw 33 (by decide +kernel), kw 781 (by decide +kernel)⟩, ⟨by decide +kernel, by decide +kernel, by decide +kernel⟩⟩
theorem ks_RX7_182 : ks_sV RX7 182 yX7_findRests cX7_findRests 5 none 0 := ⟨⟨kw 774 (by decide +kernel), kw 776 (by decide +kernel), kw 21 (by decide +kernel), kw 33 (by decide +kernel), kw 777 (by decide +kernel)⟩, ⟨by decide +kernel, by decide +kernel, by decide +kernel⟩⟩
theorem ks_RX7_188 : ks_sV RX7 188 yX7_layLooks cX7_layLooks 7 (some .boolean) 2 := ⟨⟨kw 786 (by decide +kernel), kw 788 (by decide +kernel), kw 23 (by decide +kernel), kw 33 (by decide +kernel), kw 789 (by decide +kernel)⟩, ⟨by decide +kernel, by decide +kernel, by decide +kernel⟩⟩
