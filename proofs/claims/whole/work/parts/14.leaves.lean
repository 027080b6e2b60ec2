/-! LEAVES: arithmetic, copies -/
theorem fa_lt (a b : Int32) : a < b ↔ a.toInt < b.toInt := Int32.lt_iff_toInt_lt
theorem fa_le (a b : Int32) : a ≤ b ↔ a.toInt ≤ b.toInt := Int32.le_iff_toInt_le
theorem fa_le64 (a b : Int64) : a ≤ b ↔ a.toInt ≤ b.toInt := Int64.le_iff_toInt_le
set_option maxHeartbeats 8000000 in
theorem c_power6 (l : Launch) (G : ks_G) (base : Nat) (Mx : ks_M) (Lx : ks_L) (a n : Nat) (hn : n < 1000) : KI l G base 0 yX6_power cX6_power 4 .int [.int (nI (a)), .int (nI (n))] SH Mx Lx (fun rr M1 L1 => rr = nI (a ^ n) ∧ M1 = Mx ∧ L1 = Lx) := by
  refine k_meti (by decide) (Nat.le_of_ble_eq_true rfl) (fun K hK X Y => ?_)
  subst hK
  have lp : ∀ (fuel : Nat) (k : Nat), n - k < fuel → (k ≤ n) → RN K G base 4 0 0 SH Mx Lx 4 [(0, .int (nI (a))), (1, .int (nI (n))), (2, .int (nI (a ^ k))), (3, .int (nI (k)))] [] := by
    intro fuel
    induction fuel with
    | zero => intro k hfu; exact absurd hfu (Nat.not_lt_zero _)
    | succ fuel ih =>
      intro k hfu hk
      refine r_iload_n (q := 5) (i := 3) (j := 3) (x := nI (k)) X rfl rfl dX6_power_4 rfl ?_
      refine r_iload_n (q := 6) (i := 1) (j := 1) (x := nI (n)) X rfl rfl dX6_power_5 rfl ?_
      refine r_icmp_ge (q := 9) (tgt := 19) X (by decide) dX6_power_6 rfl (fun c6 => ?_) (fun c6 => ?_)
      · replace c6 : n ≤ k := (nI_leI (by omega) (by omega)).mp c6
        refine r_iload_n (q := 20) (i := 2) (j := 2) (x := nI (a ^ k)) X rfl rfl dX6_power_19 rfl ?_
        refine r_iret X Y ?_ dX6_power_20
        exact ⟨by rw [show k = n by omega], rfl, rfl⟩
      · replace c6 : ¬ n ≤ k := fun h => c6 ((nI_leI (by omega) (by omega)).mpr h)
        refine r_iload_n (q := 10) (i := 2) (j := 2) (x := nI (a ^ k)) X rfl rfl dX6_power_9 rfl ?_
        refine r_iload_n (q := 11) (i := 0) (j := 0) (x := nI (a)) X rfl rfl dX6_power_10 rfl ?_
        refine r_imulR (q := 12) (x := nI (a ^ k)) (y := nI (a)) (v := nI ((a ^ k) * a)) X (pk_mul _ _) dX6_power_11 rfl ?_
        refine r_istore_n (q := 13) (i := 2) (j := 2) X rfl (Nat.le_of_ble_eq_true rfl) dX6_power_12 rfl ?_
        refine r_iinc (q := 16) (i := 3) (x := nI (k)) (v := nI (k + 1)) X rfl (Nat.le_of_ble_eq_true rfl) (kinc 1 rfl) dX6_power_13 rfl ?_
        refine r_goto (tgt := 4) X (by decide) dX6_power_16 ?_
        refine r_pl [(0, .int (nI (a))), (1, .int (nI (n))), (2, .int (nI (a ^ (k + 1)))), (3, .int (nI (k + 1)))] ⟨rfl, rfl, rfl, rfl, trivial⟩ ?_
        exact ih (k + 1) (by omega) (by omega)
  refine r_pl [(0, .int (nI (a))), (1, .int (nI (n)))] ⟨rfl, rfl, trivial⟩ ?_
  refine r_iconst (q := 1) (v := nI 1) X kc_1 dX6_power_0 rfl ?_
  refine r_istore_n (q := 2) (i := 2) (j := 2) X rfl (Nat.le_of_ble_eq_true rfl) dX6_power_1 rfl ?_
  refine r_iconst (q := 3) (v := nI 0) X kc_0 dX6_power_2 rfl ?_
  refine r_istore_n (q := 4) (i := 3) (j := 3) X rfl (Nat.le_of_ble_eq_true rfl) dX6_power_3 rfl ?_
  refine r_pl [(0, .int (nI (a))), (1, .int (nI (n))), (2, .int (nI (a ^ 0))), (3, .int (nI (0)))] ⟨rfl, rfl, rfl, rfl, trivial⟩ ?_
  exact lp (n + 1) 0 (by omega) (by omega)
set_option maxHeartbeats 8000000 in
theorem c_power7 (l : Launch) (G : ks_G) (base : Nat) (Mx : ks_M) (Lx : ks_L) (a n : Nat) (hn : n < 1000) : KI l G base 0 yX7_power cX7_power 4 .int [.int (nI (a)), .int (nI (n))] SH Mx Lx (fun rr M1 L1 => rr = nI (a ^ n) ∧ M1 = Mx ∧ L1 = Lx) := by
  refine k_meti (by decide) (Nat.le_of_ble_eq_true rfl) (fun K hK X Y => ?_)
  subst hK
  have lp : ∀ (fuel : Nat) (k : Nat), n - k < fuel → (k ≤ n) → RN K G base 4 0 0 SH Mx Lx 4 [(0, .int (nI (a))), (1, .int (nI (n))), (2, .int (nI (a ^ k))), (3, .int (nI (k)))] [] := by
    intro fuel
    induction fuel with
    | zero => intro k hfu; exact absurd hfu (Nat.not_lt_zero _)
    | succ fuel ih =>
      intro k hfu hk
      refine r_iload_n (q := 5) (i := 3) (j := 3) (x := nI (k)) X rfl rfl dX7_power_4 rfl ?_
      refine r_iload_n (q := 6) (i := 1) (j := 1) (x := nI (n)) X rfl rfl dX7_power_5 rfl ?_
      refine r_icmp_ge (q := 9) (tgt := 19) X (by decide) dX7_power_6 rfl (fun c6 => ?_) (fun c6 => ?_)
      · replace c6 : n ≤ k := (nI_leI (by omega) (by omega)).mp c6
        refine r_iload_n (q := 20) (i := 2) (j := 2) (x := nI (a ^ k)) X rfl rfl dX7_power_19 rfl ?_
        refine r_iret X Y ?_ dX7_power_20
        exact ⟨by rw [show k = n by omega], rfl, rfl⟩
      · replace c6 : ¬ n ≤ k := fun h => c6 ((nI_leI (by omega) (by omega)).mpr h)
        refine r_iload_n (q := 10) (i := 2) (j := 2) (x := nI (a ^ k)) X rfl rfl dX7_power_9 rfl ?_
        refine r_iload_n (q := 11) (i := 0) (j := 0) (x := nI (a)) X rfl rfl dX7_power_10 rfl ?_
        refine r_imulR (q := 12) (x := nI (a ^ k)) (y := nI (a)) (v := nI ((a ^ k) * a)) X (pk_mul _ _) dX7_power_11 rfl ?_
        refine r_istore_n (q := 13) (i := 2) (j := 2) X rfl (Nat.le_of_ble_eq_true rfl) dX7_power_12 rfl ?_
        refine r_iinc (q := 16) (i := 3) (x := nI (k)) (v := nI (k + 1)) X rfl (Nat.le_of_ble_eq_true rfl) (kinc 1 rfl) dX7_power_13 rfl ?_
        refine r_goto (tgt := 4) X (by decide) dX7_power_16 ?_
        refine r_pl [(0, .int (nI (a))), (1, .int (nI (n))), (2, .int (nI (a ^ (k + 1)))), (3, .int (nI (k + 1)))] ⟨rfl, rfl, rfl, rfl, trivial⟩ ?_
        exact ih (k + 1) (by omega) (by omega)
  refine r_pl [(0, .int (nI (a))), (1, .int (nI (n)))] ⟨rfl, rfl, trivial⟩ ?_
  refine r_iconst (q := 1) (v := nI 1) X kc_1 dX7_power_0 rfl ?_
  refine r_istore_n (q := 2) (i := 2) (j := 2) X rfl (Nat.le_of_ble_eq_true rfl) dX7_power_1 rfl ?_
  refine r_iconst (q := 3) (v := nI 0) X kc_0 dX7_power_2 rfl ?_
  refine r_istore_n (q := 4) (i := 3) (j := 3) X rfl (Nat.le_of_ble_eq_true rfl) dX7_power_3 rfl ?_
  refine r_pl [(0, .int (nI (a))), (1, .int (nI (n))), (2, .int (nI (a ^ 0))), (3, .int (nI (0)))] ⟨rfl, rfl, rfl, rfl, trivial⟩ ?_
  exact lp (n + 1) 0 (by omega) (by omega)
def fct : Nat → Nat
  | 0 => 1
  | n + 1 => fct n * (n + 1)
set_option maxHeartbeats 8000000 in
theorem c_fct6 (l : Launch) (G : ks_G) (base : Nat) (Mx : ks_M) (Lx : ks_L) (n : Nat) (hn : n < 1000) : KI l G base 0 yX6_factorial cX6_factorial 3 .int [.int (nI (n))] SH Mx Lx (fun rr M1 L1 => rr = nI (fct n) ∧ M1 = Mx ∧ L1 = Lx) := by
  refine k_meti (by decide) (Nat.le_of_ble_eq_true rfl) (fun K hK X Y => ?_)
  subst hK
  have lp : ∀ (fuel : Nat) (k : Nat), n + 1 - k < fuel → (k ≤ n + 1 ∨ k = 2) → (2 ≤ k) → RN K G base 3 0 0 SH Mx Lx 4 [(0, .int (nI (n))), (1, .int (nI (fct (k - 1)))), (2, .int (nI (k)))] [] := by
    intro fuel
    induction fuel with
    | zero => intro k hfu; exact absurd hfu (Nat.not_lt_zero _)
    | succ fuel ih =>
      intro k hfu hk hk2
      refine r_iload_n (q := 5) (i := 2) (j := 2) (x := nI (k)) X rfl rfl dX6_factorial_4 rfl ?_
      refine r_iload_n (q := 6) (i := 0) (j := 0) (x := nI (n)) X rfl rfl dX6_factorial_5 rfl ?_
      refine r_icmp_gt (q := 9) (tgt := 19) X (by decide) dX6_factorial_6 rfl (fun c6 => ?_) (fun c6 => ?_)
      · replace c6 : n < k := (nI_ltI (by omega) (by omega)).mp c6
        refine r_iload_n (q := 20) (i := 1) (j := 1) (x := nI (fct (k - 1))) X rfl rfl dX6_factorial_19 rfl ?_
        refine r_iret X Y ?_ dX6_factorial_20
        refine ⟨?_, rfl, rfl⟩
        rcases (show k - 1 = n ∨ (n = 0 ∧ k - 1 = 1) by omega) with h9 | ⟨h9, h8⟩
        · rw [h9]
        · rw [h9, h8]; rfl
      · replace c6 : ¬ n < k := fun h => c6 ((nI_ltI (by omega) (by omega)).mpr h)
        refine r_iload_n (q := 10) (i := 1) (j := 1) (x := nI (fct (k - 1))) X rfl rfl dX6_factorial_9 rfl ?_
        refine r_iload_n (q := 11) (i := 2) (j := 2) (x := nI (k)) X rfl rfl dX6_factorial_10 rfl ?_
        refine r_imulR (q := 12) (x := nI (fct (k - 1))) (y := nI (k)) (v := nI ((fct (k - 1)) * k)) X (pk_mul _ _) dX6_factorial_11 rfl ?_
        refine r_istore_n (q := 13) (i := 1) (j := 1) X rfl (Nat.le_of_ble_eq_true rfl) dX6_factorial_12 rfl ?_
        refine r_iinc (q := 16) (i := 2) (x := nI (k)) (v := nI (k + 1)) X rfl (Nat.le_of_ble_eq_true rfl) (kinc 1 rfl) dX6_factorial_13 rfl ?_
        refine r_goto (tgt := 4) X (by decide) dX6_factorial_16 ?_
        obtain ⟨j, rfl⟩ : ∃ j, k = j + 1 := ⟨k - 1, by omega⟩
        refine r_pl [(0, .int (nI (n))), (1, .int (nI (fct (j + 1 + 1 - 1)))), (2, .int (nI (j + 1 + 1)))] ⟨rfl, rfl, rfl, trivial⟩ ?_
        exact ih (j + 1 + 1) (by omega) (by omega) (by omega)
  refine r_pl [(0, .int (nI (n)))] ⟨rfl, trivial⟩ ?_
  refine r_iconst (q := 1) (v := nI 1) X kc_1 dX6_factorial_0 rfl ?_
  refine r_istore_n (q := 2) (i := 1) (j := 1) X rfl (Nat.le_of_ble_eq_true rfl) dX6_factorial_1 rfl ?_
  refine r_iconst (q := 3) (v := nI 2) X kc_2 dX6_factorial_2 rfl ?_
  refine r_istore_n (q := 4) (i := 2) (j := 2) X rfl (Nat.le_of_ble_eq_true rfl) dX6_factorial_3 rfl ?_
  refine r_pl [(0, .int (nI (n))), (1, .int (nI (fct (2 - 1)))), (2, .int (nI (2)))] ⟨rfl, rfl, rfl, trivial⟩ ?_
  exact lp (n + 1) 2 (by omega) (by omega) (by omega)
set_option maxHeartbeats 8000000 in
theorem c_fct7 (l : Launch) (G : ks_G) (base : Nat) (Mx : ks_M) (Lx : ks_L) (n : Nat) (hn : n < 1000) : KI l G base 0 yX7_ways cX7_ways 3 .int [.int (nI (n))] SH Mx Lx (fun rr M1 L1 => rr = nI (fct n) ∧ M1 = Mx ∧ L1 = Lx) := by
  refine k_meti (by decide) (Nat.le_of_ble_eq_true rfl) (fun K hK X Y => ?_)
  subst hK
  have lp : ∀ (fuel : Nat) (k : Nat), n + 1 - k < fuel → (k ≤ n + 1 ∨ k = 2) → (2 ≤ k) → RN K G base 3 0 0 SH Mx Lx 4 [(0, .int (nI (n))), (1, .int (nI (fct (k - 1)))), (2, .int (nI (k)))] [] := by
    intro fuel
    induction fuel with
    | zero => intro k hfu; exact absurd hfu (Nat.not_lt_zero _)
    | succ fuel ih =>
      intro k hfu hk hk2
      refine r_iload_n (q := 5) (i := 2) (j := 2) (x := nI (k)) X rfl rfl dX7_ways_4 rfl ?_
      refine r_iload_n (q := 6) (i := 0) (j := 0) (x := nI (n)) X rfl rfl dX7_ways_5 rfl ?_
      refine r_icmp_gt (q := 9) (tgt := 19) X (by decide) dX7_ways_6 rfl (fun c6 => ?_) (fun c6 => ?_)
      · replace c6 : n < k := (nI_ltI (by omega) (by omega)).mp c6
        refine r_iload_n (q := 20) (i := 1) (j := 1) (x := nI (fct (k - 1))) X rfl rfl dX7_ways_19 rfl ?_
        refine r_iret X Y ?_ dX7_ways_20
        refine ⟨?_, rfl, rfl⟩
        rcases (show k - 1 = n ∨ (n = 0 ∧ k - 1 = 1) by omega) with h9 | ⟨h9, h8⟩
        · rw [h9]
        · rw [h9, h8]; rfl
      · replace c6 : ¬ n < k := fun h => c6 ((nI_ltI (by omega) (by omega)).mpr h)
        refine r_iload_n (q := 10) (i := 1) (j := 1) (x := nI (fct (k - 1))) X rfl rfl dX7_ways_9 rfl ?_
        refine r_iload_n (q := 11) (i := 2) (j := 2) (x := nI (k)) X rfl rfl dX7_ways_10 rfl ?_
        refine r_imulR (q := 12) (x := nI (fct (k - 1))) (y := nI (k)) (v := nI ((fct (k - 1)) * k)) X (pk_mul _ _) dX7_ways_11 rfl ?_
        refine r_istore_n (q := 13) (i := 1) (j := 1) X rfl (Nat.le_of_ble_eq_true rfl) dX7_ways_12 rfl ?_
        refine r_iinc (q := 16) (i := 2) (x := nI (k)) (v := nI (k + 1)) X rfl (Nat.le_of_ble_eq_true rfl) (kinc 1 rfl) dX7_ways_13 rfl ?_
        refine r_goto (tgt := 4) X (by decide) dX7_ways_16 ?_
        obtain ⟨j, rfl⟩ : ∃ j, k = j + 1 := ⟨k - 1, by omega⟩
        refine r_pl [(0, .int (nI (n))), (1, .int (nI (fct (j + 1 + 1 - 1)))), (2, .int (nI (j + 1 + 1)))] ⟨rfl, rfl, rfl, trivial⟩ ?_
        exact ih (j + 1 + 1) (by omega) (by omega) (by omega)
  refine r_pl [(0, .int (nI (n)))] ⟨rfl, trivial⟩ ?_
  refine r_iconst (q := 1) (v := nI 1) X kc_1 dX7_ways_0 rfl ?_
  refine r_istore_n (q := 2) (i := 1) (j := 1) X rfl (Nat.le_of_ble_eq_true rfl) dX7_ways_1 rfl ?_
  refine r_iconst (q := 3) (v := nI 2) X kc_2 dX7_ways_2 rfl ?_
  refine r_istore_n (q := 4) (i := 2) (j := 2) X rfl (Nat.le_of_ble_eq_true rfl) dX7_ways_3 rfl ?_
  refine r_pl [(0, .int (nI (n))), (1, .int (nI (fct (2 - 1)))), (2, .int (nI (2)))] ⟨rfl, rfl, rfl, trivial⟩ ?_
  exact lp (n + 1) 2 (by omega) (by omega) (by omega)
theorem k_metiF {l : Launch} {G : ks_G} {base d : Nat} {y : MethodName} {rt : FieldType} {as : List Value} {sh : List ks_S} {M : ks_M} {L : ks_L} {nL2 : Nat} {cc2 : ByteArray} {post : Int32 → ks_M → ks_L → Prop} (hy : plainFor y = true) (hlen : (lg_sl as).length ≤ nL2) (body : ∀ K : ks_Cx, K.2.1 = l → KX K G base nL2 y.cls cc2 d → KQi K G base sh 0 0 rt post → RN K G base nL2 0 0 sh M L 0 (lv_args 0 as) []) : KI l G base d y cc2 nL2 rt as sh M L post := by
  unfold KI Met
  refine MetFree.of_bodySF (code := cc2) (maxLocals := nL2) (ret := some rt) hy ?_ ?_
  · intro args s m h hn
    obtain ⟨meth, c, h1, h2, h3, h4, h5, h6, -, -⟩ := Cond.code_spec hn (atoms_spec (ws := .code y cc2 nL2 (some rt) :: ks_all) h _ List.mem_cons_self)
    exact ⟨meth, c, h1, h2, h3, h4, h5, h6⟩
  · intro p e s m args below meth c s₁ B hml hv _
    have hh0 : s₁.heap = s.heap := by rw [B.state]; rfl
    obtain ⟨rfl, hR, hK⟩ := hv
    have hts := atoms_spec (ws := .code y cc2 nL2 (some rt) :: ks_all) B.pre
    have h1 := body (p, l, e, ks_rm d 0 0, s, m, as.toArray, below, meth, c, MQ below (ks_Qi G base sh post) as.toArray s 0 0 (ks_A base)) rfl ⟨B.exec, B.bytes, hml, findClass_of_methodNamed B.named, fun w hw => hts w (List.mem_cons_of_mem _ hw), hK, by show base ≤ s.heap.size; rw [hR.2]; exact Nat.le_add_right _ _, Nat.le_refl d, Nat.le_refl (48 * d)⟩ ⟨rfl, B.returns, B.notSynchronized⟩
    have h2 := h1 s.heap [] _ hR va_S.rf (lv_entry as hlen)
    rw [lg_entry_eq]
    obtain ⟨t, a1, o, b1, b2, b3⟩ := h2 s₁ hh0 (Stand.of_body B)
    exact ⟨t, o, a1, b1, b2, ⟨b3.1, b3.2⟩⟩
set_option maxHeartbeats 8000000 in
theorem c_fmod (l : Launch) (G : ks_G) (base : Nat) (Mx : ks_M) (Lx : ks_L) (a b : Nat) (hb : 0 < b) (ha : a < 2147483648) (hb2 : b < 2147483648) : KI l G base 0 yJ9_floorMod_7cf53 cJ9_floorMod_7cf53 3 .int [.int (nI (a)), .int (nI (b))] SH Mx Lx (fun rr M1 L1 => rr = nI (a % b) ∧ M1 = Mx ∧ L1 = Lx) := by
  refine k_metiF (by decide +kernel) (Nat.le_of_ble_eq_true rfl) (fun K hK X Y => ?_)
  subst hK
  refine r_pl [(0, .int (nI (a))), (1, .int (nI (b)))] ⟨rfl, rfl, trivial⟩ ?_
  refine r_iload_n (q := 1) (i := 0) (j := 0) (x := nI (a)) X rfl rfl dJ9_floorMod_7cf53_0 rfl ?_
  refine r_iload_n (q := 2) (i := 1) (j := 1) (x := nI (b)) X rfl rfl dJ9_floorMod_7cf53_1 rfl ?_
  refine r_iremR (q := 3) (x := nI (a)) (y := nI (b)) (v := nI (a % b)) X (nI_ne0 hb (by omega)) (pk_rem (by omega) (by omega) (by omega)) dJ9_floorMod_7cf53_2 rfl ?_
  refine r_istore_n (q := 4) (i := 2) (j := 2) X rfl (Nat.le_of_ble_eq_true rfl) dJ9_floorMod_7cf53_3 rfl ?_
  refine r_iload_n (q := 5) (i := 0) (j := 0) (x := nI (a)) X rfl rfl dJ9_floorMod_7cf53_4 rfl ?_
  refine r_iload_n (q := 6) (i := 1) (j := 1) (x := nI (b)) X rfl rfl dJ9_floorMod_7cf53_5 rfl ?_
  refine r_ixorR (q := 7) (x := nI (a)) (y := nI (b)) (v := nI (a ^^^ b)) X (fb_xorI _ _) dJ9_floorMod_7cf53_6 rfl ?_
  have hxo : a ^^^ b < 2147483648 := Nat.xor_lt_two_pow (n := 31) ha hb2
  refine r_if_ge (q := 10) (tgt := 18) X (by decide) dJ9_floorMod_7cf53_7 rfl (fun c7 => ?_) (fun c7 => ?_)
  · replace c7 : 0 ≤ (a ^^^ b) := (kI_ge0 (by omega)).mp c7
    refine r_iload_n (q := 19) (i := 2) (j := 2) (x := nI (a % b)) X rfl rfl dJ9_floorMod_7cf53_18 rfl ?_
    refine r_iret X Y ?_ dJ9_floorMod_7cf53_19
    exact ⟨rfl, rfl, rfl⟩
  · replace c7 : ¬ 0 ≤ (a ^^^ b) := fun h => c7 ((kI_ge0 (by omega)).mpr h)
    exfalso; omega
set_option maxHeartbeats 8000000 in
theorem c_in (l : Launch) (G : ks_G) (base : Nat) (Mx : ks_M) (Lx : ks_L) (v a b : Int64) : KI l G base 0 yX7_in cX7_in 6 .boolean [.long (v), .long (a), .long (b)] SH Mx Lx (fun rr M1 L1 => (rr = nI 1 ∧ (a ≤ v ∧ v ≤ b) ∧ M1 = Mx ∧ L1 = Lx) ∨ (rr = nI 0 ∧ ¬ (a ≤ v ∧ v ≤ b) ∧ M1 = Mx ∧ L1 = Lx)) := by
  refine k_meti (by decide) (Nat.le_of_ble_eq_true rfl) (fun K hK X Y => ?_)
  subst hK
  refine r_pl [(0, .long (v)), (2, .long (a)), (4, .long (b))] ⟨rfl, rfl, rfl, trivial⟩ ?_
  refine r_lload_n (q := 1) (i := 0) (j := 0) (x := v) X rfl rfl dX7_in_0 rfl ?_
  refine r_lload_n (q := 2) (i := 2) (j := 2) (x := a) X rfl rfl dX7_in_1 rfl ?_
  refine r_lcmp (q := 3) X  dX7_in_2 rfl ?_
  refine r_if_lt (q := 6) (tgt := 17) X (by decide) dX7_in_3 rfl (fun c3 => ?_) (fun c3 => ?_)
  · skip
    refine r_iconst (q := 18) (v := nI 0) X kc_0 dX7_in_17 rfl ?_
    refine r_zret X Y (by decide) ?_ dX7_in_18
    exact Or.inr ⟨rfl, fun h => absurd ((lg_cmp_lt _ _).mp c3) (by rw [Int64.not_lt]; exact h.1), rfl, rfl⟩
  · skip
    refine r_lload_n (q := 7) (i := 0) (j := 0) (x := v) X rfl rfl dX7_in_6 rfl ?_
    refine r_lload (q := 9) (i := 4) (x := b) X rfl dX7_in_7 rfl ?_
    refine r_lcmp (q := 10) X  dX7_in_9 rfl ?_
    refine r_if_gt (q := 13) (tgt := 17) X (by decide) dX7_in_10 rfl (fun c10 => ?_) (fun c10 => ?_)
    · skip
      refine r_iconst (q := 18) (v := nI 0) X kc_0 dX7_in_17 rfl ?_
      refine r_zret X Y (by decide) ?_ dX7_in_18
      exact Or.inr ⟨rfl, fun h => absurd ((lg_cmp_gt _ _).mp c10) (by rw [Int64.not_lt]; exact h.2), rfl, rfl⟩
    · skip
      refine r_iconst (q := 14) (v := nI 1) X kc_1 dX7_in_13 rfl ?_
      refine r_goto (tgt := 18) X (by decide) dX7_in_14 ?_
      refine r_zret X Y (by decide) ?_ dX7_in_18
      refine Or.inl ⟨rfl, ⟨Int64.not_lt.mp (fun h => c3 ((lg_cmp_lt _ _).mpr h)), Int64.not_lt.mp (fun h => c10 ((lg_cmp_gt _ _).mpr h))⟩, rfl, rfl⟩
def hsb (s k : Nat) : Nat := if s >>> k &&& 1 = 1 then 1 else 0
set_option maxHeartbeats 8000000 in
theorem c_has7 (l : Launch) (G : ks_G) (base : Nat) (Mx : ks_M) (Lx : ks_L) (s k : Nat) (h1 : s < 2147483648) (h2 : k < 6) : KI l G base 0 yX7_has cX7_has 2 .boolean [.int (nI (s)), .int (nI (k))] SH Mx Lx (fun rr M1 L1 => rr = nI (hsb s k) ∧ M1 = Mx ∧ L1 = Lx) := by
  refine k_meti (by decide) (Nat.le_of_ble_eq_true rfl) (fun K hK X Y => ?_)
  subst hK
  refine r_pl [(0, .int (nI (s))), (1, .int (nI (k)))] ⟨rfl, rfl, trivial⟩ ?_
  refine r_iload_n (q := 1) (i := 0) (j := 0) (x := nI (s)) X rfl rfl dX7_has_0 rfl ?_
  refine r_iload_n (q := 2) (i := 1) (j := 1) (x := nI (k)) X rfl rfl dX7_has_1 rfl ?_
  refine r_ishrR (q := 3) (x := nI (s)) (y := nI (k)) (v := nI (s >>> k)) X (k_shr h1 (by omega)) dX7_has_2 rfl ?_
  refine r_iconst (q := 4) (v := nI 1) X kc_1 dX7_has_3 rfl ?_
  refine r_iandR (q := 5) (x := nI (s >>> k)) (y := nI 1) (v := nI ((s >>> k) &&& 1)) X (fa_and _ _) dX7_has_4 rfl ?_
  have hb := k_and1 (s >>> k)
  refine r_iconst (q := 6) (v := nI 1) X kc_1 dX7_has_5 rfl ?_
  refine r_icmp_ne (q := 9) (tgt := 13) X (by decide) dX7_has_6 rfl (fun c6 => ?_) (fun c6 => ?_)
  · replace c6 : ¬ ((s >>> k) &&& 1) = 1 := fun h => c6 ((kI_eq (by omega) (by omega)).mpr h)
    refine r_iconst (q := 14) (v := nI 0) X kc_0 dX7_has_13 rfl ?_
    refine r_zret X Y (by decide) ?_ dX7_has_14
    refine ⟨?_, rfl, rfl⟩
    unfold hsb; first | rw [if_pos (by assumption)] | rw [if_neg (by assumption)]
  · replace c6 : ((s >>> k) &&& 1) = 1 := (kI_eq (by omega) (by omega)).mp c6
    refine r_iconst (q := 10) (v := nI 1) X kc_1 dX7_has_9 rfl ?_
    refine r_goto (tgt := 14) X (by decide) dX7_has_10 ?_
    refine r_zret X Y (by decide) ?_ dX7_has_14
    refine ⟨?_, rfl, rfl⟩
    unfold hsb; first | rw [if_pos (by assumption)] | rw [if_neg (by assumption)]
def shw (s v t : Nat) : Nat := if s = 1 then v / 2 else if s = 2 then (if 0 < v then v + 1 else 0) else if s = 3 then (if t % 2 = 0 then v else 0) else v
set_option maxHeartbeats 8000000 in
theorem c_through (l : Launch) (G : ks_G) (base : Nat) (Mx : ks_M) (Lx : ks_L) (s v t : Nat) (hs : s < 2147483648) (hv : v < 1000) (ht : t < 2147483648) : KI l G base 0 yX4_through cX4_through 3 .int [.int (nI (s)), .int (nI (v)), .int (nI (t))] SH Mx Lx (fun rr M1 L1 => rr = nI (shw s v t) ∧ M1 = Mx ∧ L1 = Lx) := by
  refine k_meti (by decide) (Nat.le_of_ble_eq_true rfl) (fun K hK X Y => ?_)
  subst hK
  refine r_pl [(0, .int (nI (s))), (1, .int (nI (v))), (2, .int (nI (t)))] ⟨rfl, rfl, rfl, trivial⟩ ?_
  refine r_iload_n (q := 1) (i := 0) (j := 0) (x := nI (s)) X rfl rfl dX4_through_0 rfl ?_
  rcases (show s = 1 ∨ s = 2 ∨ s = 3 ∨ 3 < s ∨ s < 1 by omega) with rfl | rfl | rfl | hn1 | hn1
  · refine r_tableIn (x := nI 1) (off := 27) (tgt := 28) X (by decide) (by decide) (by decide) (by decide) dX4_through_1 ?_
    refine r_iload_n (q := 29) (i := 1) (j := 1) (x := nI (v)) X rfl rfl dX4_through_28 rfl ?_
    refine r_iconst (q := 30) (v := nI 2) X kc_2 dX4_through_29 rfl ?_
    refine r_idivR (q := 31) (x := nI (v)) (y := nI 2) (v := nI (v / 2)) X (by decide) (pk_div (by omega) (by omega) (by omega)) dX4_through_30 rfl ?_
    refine r_iret X Y ?_ dX4_through_31
    exact ⟨by unfold shw; (repeat' split) <;> first | rfl | (exfalso; omega), rfl, rfl⟩
  · refine r_tableIn (x := nI 2) (off := 31) (tgt := 32) X (by decide) (by decide) (by decide) (by decide) dX4_through_1 ?_
    refine r_iload_n (q := 33) (i := 1) (j := 1) (x := nI (v)) X rfl rfl dX4_through_32 rfl ?_
    refine r_if_le (q := 36) (tgt := 42) X (by decide) dX4_through_33 rfl (fun c33 => ?_) (fun c33 => ?_)
    · replace c33 : v ≤ 0 := (kI_le0 (by omega)).mp c33
      refine r_iconst (q := 43) (v := nI 0) X kc_0 dX4_through_42 rfl ?_
      refine r_iret X Y ?_ dX4_through_43
      exact ⟨by unfold shw; (repeat' split) <;> first | rfl | (exfalso; omega), rfl, rfl⟩
    · replace c33 : ¬ v ≤ 0 := fun h => c33 ((kI_le0 (by omega)).mpr h)
      refine r_iload_n (q := 37) (i := 1) (j := 1) (x := nI (v)) X rfl rfl dX4_through_36 rfl ?_
      refine r_iconst (q := 38) (v := nI 1) X kc_1 dX4_through_37 rfl ?_
      refine r_iaddR (q := 39) (x := nI (v)) (y := nI 1) (v := nI (v + 1)) X (nI_add _ _) dX4_through_38 rfl ?_
      refine r_goto (tgt := 43) X (by decide) dX4_through_39 ?_
      refine r_iret X Y ?_ dX4_through_43
      exact ⟨by unfold shw; (repeat' split) <;> first | rfl | (exfalso; omega), rfl, rfl⟩
  · refine r_tableIn (x := nI 3) (off := 43) (tgt := 44) X (by decide) (by decide) (by decide) (by decide) dX4_through_1 ?_
    refine r_iload_n (q := 45) (i := 2) (j := 2) (x := nI (t)) X rfl rfl dX4_through_44 rfl ?_
    refine r_iconst (q := 46) (v := nI 2) X kc_2 dX4_through_45 rfl ?_
    refine r_iremR (q := 47) (x := nI (t)) (y := nI 2) (v := nI (t % 2)) X (by decide) (pk_rem (by omega) (by omega) (by omega)) dX4_through_46 rfl ?_
    refine r_if_eq (q := 50) (tgt := 54) X (by decide) dX4_through_47 rfl (fun c47 => ?_) (fun c47 => ?_)
    · replace c47 : (t % 2) = 0 := (kI_eq0 (by omega)).mp c47
      refine r_iload_n (q := 55) (i := 1) (j := 1) (x := nI (v)) X rfl rfl dX4_through_54 rfl ?_
      refine r_iret X Y ?_ dX4_through_55
      exact ⟨by unfold shw; (repeat' split) <;> first | rfl | (exfalso; omega), rfl, rfl⟩
    · replace c47 : ¬ (t % 2) = 0 := fun h => (c47 ((kI_eq0 (by omega)).mpr h))
      refine r_iconst (q := 51) (v := nI 0) X kc_0 dX4_through_50 rfl ?_
      refine r_goto (tgt := 55) X (by decide) dX4_through_51 ?_
      refine r_iret X Y ?_ dX4_through_55
      exact ⟨by unfold shw; (repeat' split) <;> first | rfl | (exfalso; omega), rfl, rfl⟩
  · refine r_tableOut (tgt := 56) X (Or.inr (kOutH (by omega) (by omega))) (by decide) dX4_through_1 ?_
    refine r_iload_n (q := 57) (i := 1) (j := 1) (x := nI (v)) X rfl rfl dX4_through_56 rfl ?_
    refine r_iret X Y ?_ dX4_through_57
    exact ⟨by unfold shw; (repeat' split) <;> first | rfl | (exfalso; omega), rfl, rfl⟩
  · refine r_tableOut (tgt := 56) X (Or.inl (kOutL (by omega) (by omega))) (by decide) dX4_through_1 ?_
    refine r_iload_n (q := 57) (i := 1) (j := 1) (x := nI (v)) X rfl rfl dX4_through_56 rfl ?_
    refine r_iret X Y ?_ dX4_through_57
    exact ⟨by unfold shw; (repeat' split) <;> first | rfl | (exfalso; omega), rfl, rfl⟩
set_option maxHeartbeats 8000000 in
theorem c_shows7 (l : Launch) (G : ks_G) (base : Nat) (Mx : ks_M) (Lx : ks_L) (s v t : Nat) (hs : s < 2147483648) (hv : v < 1000) (ht : t < 2147483648) : KI l G base 0 yX7_showsBy cX7_showsBy 3 .int [.int (nI (s)), .int (nI (v)), .int (nI (t))] SH Mx Lx (fun rr M1 L1 => rr = nI (shw s v t) ∧ M1 = Mx ∧ L1 = Lx) := by
  refine k_meti (by decide) (Nat.le_of_ble_eq_true rfl) (fun K hK X Y => ?_)
  subst hK
  refine r_pl [(0, .int (nI (s))), (1, .int (nI (v))), (2, .int (nI (t)))] ⟨rfl, rfl, rfl, trivial⟩ ?_
  refine r_iload_n (q := 1) (i := 0) (j := 0) (x := nI (s)) X rfl rfl dX7_showsBy_0 rfl ?_
  rcases (show s = 1 ∨ s = 2 ∨ s = 3 ∨ 3 < s ∨ s < 1 by omega) with rfl | rfl | rfl | hn1 | hn1
  · refine r_tableIn (x := nI 1) (off := 27) (tgt := 28) X (by decide) (by decide) (by decide) (by decide) dX7_showsBy_1 ?_
    refine r_iload_n (q := 29) (i := 1) (j := 1) (x := nI (v)) X rfl rfl dX7_showsBy_28 rfl ?_
    refine r_iconst (q := 30) (v := nI 2) X kc_2 dX7_showsBy_29 rfl ?_
    refine r_idivR (q := 31) (x := nI (v)) (y := nI 2) (v := nI (v / 2)) X (by decide) (pk_div (by omega) (by omega) (by omega)) dX7_showsBy_30 rfl ?_
    refine r_iret X Y ?_ dX7_showsBy_31
    exact ⟨by unfold shw; (repeat' split) <;> first | rfl | (exfalso; omega), rfl, rfl⟩
  · refine r_tableIn (x := nI 2) (off := 31) (tgt := 32) X (by decide) (by decide) (by decide) (by decide) dX7_showsBy_1 ?_
    refine r_iload_n (q := 33) (i := 1) (j := 1) (x := nI (v)) X rfl rfl dX7_showsBy_32 rfl ?_
    refine r_if_ne (q := 36) (tgt := 40) X (by decide) dX7_showsBy_33 rfl (fun c33 => ?_) (fun c33 => ?_)
    · replace c33 : ¬ v = 0 := fun h => c33 ((kI_eq0 (by omega)).mpr h)
      refine r_iload_n (q := 41) (i := 1) (j := 1) (x := nI (v)) X rfl rfl dX7_showsBy_40 rfl ?_
      refine r_iconst (q := 42) (v := nI 1) X kc_1 dX7_showsBy_41 rfl ?_
      refine r_iaddR (q := 43) (x := nI (v)) (y := nI 1) (v := nI (v + 1)) X (nI_add _ _) dX7_showsBy_42 rfl ?_
      refine r_iret X Y ?_ dX7_showsBy_43
      exact ⟨by unfold shw; (repeat' split) <;> first | rfl | (exfalso; omega), rfl, rfl⟩
    · replace c33 : v = 0 := (kI_eq0 (by omega)).mp c33
      refine r_iconst (q := 37) (v := nI 0) X kc_0 dX7_showsBy_36 rfl ?_
      refine r_goto (tgt := 43) X (by decide) dX7_showsBy_37 ?_
      refine r_iret X Y ?_ dX7_showsBy_43
      exact ⟨by unfold shw; (repeat' split) <;> first | rfl | (exfalso; omega), rfl, rfl⟩
  · refine r_tableIn (x := nI 3) (off := 43) (tgt := 44) X (by decide) (by decide) (by decide) (by decide) dX7_showsBy_1 ?_
    refine r_iload_n (q := 45) (i := 2) (j := 2) (x := nI (t)) X rfl rfl dX7_showsBy_44 rfl ?_
    refine r_iconst (q := 46) (v := nI 2) X kc_2 dX7_showsBy_45 rfl ?_
    refine r_iremR (q := 47) (x := nI (t)) (y := nI 2) (v := nI (t % 2)) X (by decide) (pk_rem (by omega) (by omega) (by omega)) dX7_showsBy_46 rfl ?_
    refine r_if_ne (q := 50) (tgt := 54) X (by decide) dX7_showsBy_47 rfl (fun c47 => ?_) (fun c47 => ?_)
    · replace c47 : ¬ (t % 2) = 0 := fun h => c47 ((kI_eq0 (by omega)).mpr h)
      refine r_iconst (q := 55) (v := nI 0) X kc_0 dX7_showsBy_54 rfl ?_
      refine r_iret X Y ?_ dX7_showsBy_55
      exact ⟨by unfold shw; (repeat' split) <;> first | rfl | (exfalso; omega), rfl, rfl⟩
    · replace c47 : (t % 2) = 0 := (kI_eq0 (by omega)).mp c47
      refine r_iload_n (q := 51) (i := 1) (j := 1) (x := nI (v)) X rfl rfl dX7_showsBy_50 rfl ?_
      refine r_goto (tgt := 55) X (by decide) dX7_showsBy_51 ?_
      refine r_iret X Y ?_ dX7_showsBy_55
      exact ⟨by unfold shw; (repeat' split) <;> first | rfl | (exfalso; omega), rfl, rfl⟩
  · refine r_tableOut (tgt := 56) X (Or.inr (kOutH (by omega) (by omega))) (by decide) dX7_showsBy_1 ?_
    refine r_iload_n (q := 57) (i := 1) (j := 1) (x := nI (v)) X rfl rfl dX7_showsBy_56 rfl ?_
    refine r_iret X Y ?_ dX7_showsBy_57
    exact ⟨by unfold shw; (repeat' split) <;> first | rfl | (exfalso; omega), rfl, rfl⟩
  · refine r_tableOut (tgt := 56) X (Or.inl (kOutL (by omega) (by omega))) (by decide) dX7_showsBy_1 ?_
    refine r_iload_n (q := 57) (i := 1) (j := 1) (x := nI (v)) X rfl rfl dX7_showsBy_56 rfl ?_
    refine r_iret X Y ?_ dX7_showsBy_57
    exact ⟨by unfold shw; (repeat' split) <;> first | rfl | (exfalso; omega), rfl, rfl⟩
