/-! SHAPES: which holes what was seen allows -/
def alw (H N T G : Nat → Nat) (cnt h s : Nat) : Prop := ∀ i, i < cnt → H i = h → shw s (N i) (T i) = G i
def shq (P : Nat → Prop) (k b : Nat) : Prop := ∀ s, b.testBit s = true ↔ s < k ∧ P s
theorem shq_0 (P : Nat → Prop) : shq P 0 0 := by intro s; simp
theorem shq_yes {P : Nat → Prop} {k b : Nat} (h : shq P k b) (hP : P k) : shq P (k + 1) (b ||| 1 <<< k) := by
  intro s
  rw [Nat.testBit_or, Bool.or_eq_true, h s, Nat.one_shiftLeft, Nat.testBit_two_pow]
  constructor
  · rintro (⟨h1, h2⟩ | h1)
    · exact ⟨by omega, h2⟩
    · have h2 : k = s := by simpa using h1
      exact ⟨by omega, h2 ▸ hP⟩
  · rintro ⟨h1, h2⟩
    rcases (show s < k ∨ k = s by omega) with h3 | h3
    · exact Or.inl ⟨h3, h2⟩
    · exact Or.inr (by simpa using h3)
theorem shq_no {P : Nat → Prop} {k b : Nat} (h : shq P k b) (hP : ¬ P k) : shq P (k + 1) b := by
  intro s
  rw [h s]
  constructor
  · rintro ⟨h1, h2⟩; exact ⟨by omega, h2⟩
  · rintro ⟨h1, h2⟩
    refine ⟨?_, h2⟩
    rcases (show s < k ∨ s = k by omega) with h3 | h3
    · exact h3
    · exact absurd (h3 ▸ h2) hP
theorem shq_one {P : Nat → Prop} {k b b' : Nat} (h : shq P k b) (h' : shq P k b') : b = b' := by
  refine Nat.eq_of_testBit_eq fun s => ?_
  rw [Bool.eq_iff_iff, h s, h' s]
theorem shw_le (s t : Nat) {v : Nat} (h : v < 1000) : shw s v t < 2000 := by
  unfold shw; (repeat' split) <;> omega
set_option maxHeartbeats 8000000 in
theorem c_allows (l : Launch) (G : ks_G) (base : Nat) (Mx : ks_M) (Lx : ks_L) (h s : Nat) (hh : h < 6) (hs : s < 4) (hc : Mx 35 4 ≤ 6) (hN : ∀ i, Mx 37 i < 1000) (hT : ∀ i, Mx 38 i < 1000) (hG : ∀ i, Mx 39 i < 1000) (hH : ∀ i, Mx 36 i < 1000) : KI l G base 1 yX2_allows cX2_allows 4 .boolean [.ref (base + 35), .int (nI (h)), .int (nI (s))] SH Mx Lx (fun rr M1 L1 => (rr = nI 1 ∧ alw (Mx 36) (Mx 37) (Mx 38) (Mx 39) (Mx 35 4) h s ∧ M1 = Mx ∧ L1 = Lx) ∨ (rr = nI 0 ∧ ¬ alw (Mx 36) (Mx 37) (Mx 38) (Mx 39) (Mx 35 4) h s ∧ M1 = Mx ∧ L1 = Lx)) := by
  refine k_meti (by decide) (Nat.le_of_ble_eq_true rfl) (fun K hK X Y => ?_)
  subst hK
  have lp : ∀ (fuel : Nat) (k : Nat), Mx 35 4 - k < fuel → (k ≤ Mx 35 4) → (∀ i, i < k → Mx 36 i = h → shw s (Mx 37 i) (Mx 38 i) = Mx 39 i) → RN K G base 4 0 0 SH Mx Lx 2 [(0, .ref (base + 35)), (1, .int (nI (h))), (2, .int (nI (s))), (3, .int (nI (k)))] [] := by
    intro fuel
    induction fuel with
    | zero => intro k hfu; exact absurd hfu (Nat.not_lt_zero _)
    | succ fuel ih =>
      intro k hfu hk hal
      refine r_iload_n (q := 3) (i := 3) (j := 3) (x := nI (k)) X rfl rfl dX2_allows_2 rfl ?_
      refine r_aload_n (q := 4) (i := 0) (j := 0) (x := base + 35) X rfl rfl dX2_allows_3 rfl ?_
      refine r_getf (q := 7) (i := 35) (v := .int (nI (Mx 35 4))) X fk_X2_24 kh_35 rfl rfl dX2_allows_4 rfl ?_
      refine r_icmp_ge (q := 10) (tgt := 59) X (by decide) dX2_allows_7 rfl (fun c7 => ?_) (fun c7 => ?_)
      · replace c7 : (Mx 35 4) ≤ k := (nI_leI (by omega) (by omega)).mp c7
        refine r_iconst (q := 60) (v := nI 1) X kc_1 dX2_allows_59 rfl ?_
        refine r_zret X Y (by decide) ?_ dX2_allows_60
        exact Or.inl ⟨rfl, fun i hi => hal i (by omega), rfl, rfl⟩
      · replace c7 : ¬ (Mx 35 4) ≤ k := fun h => c7 ((nI_leI (by omega) (by omega)).mpr h)
        refine r_iload_n (q := 11) (i := 3) (j := 3) (x := nI (k)) X rfl rfl dX2_allows_10 rfl ?_
        refine r_bipush (q := 13) (v := nI 6) X kb_6 dX2_allows_11 rfl ?_
        refine r_icmp_ge (q := 16) (tgt := 59) X (by decide) dX2_allows_13 rfl (fun c13 => ?_) (fun c13 => ?_)
        · replace c13 : 6 ≤ k := (nI_leI (by omega) (by omega)).mp c13
          exfalso; omega
        · replace c13 : ¬ 6 ≤ k := fun h => c13 ((nI_leI (by omega) (by omega)).mpr h)
          refine r_aload_n (q := 17) (i := 0) (j := 0) (x := base + 35) X rfl rfl dX2_allows_16 rfl ?_
          refine r_getf (q := 20) (i := 35) (v := .ref (base + 36)) X fk_X2_9 kh_35 rfl rfl dX2_allows_17 rfl ?_
          refine r_iload_n (q := 21) (i := 3) (j := 3) (x := nI (k)) X rfl rfl dX2_allows_20 rfl ?_
          refine r_iald (q := 22) (i := 36) (j := k) (v := Mx 36 k) X kh_36 (by omega) (Nat.le_of_ble_eq_true rfl) rfl dX2_allows_21 rfl ?_
          refine r_iload_n (q := 23) (i := 1) (j := 1) (x := nI (h)) X rfl rfl dX2_allows_22 rfl ?_
          have hq1 := hH k
          refine r_icmp_ne (q := 26) (tgt := 53) X (by decide) dX2_allows_23 rfl (fun c23 => ?_) (fun c23 => ?_)
          · replace c23 : ¬ (Mx 36 k) = h := fun h => c23 ((kI_eq (by omega) (by omega)).mpr h)
            refine r_iinc (q := 56) (i := 3) (x := nI (k)) (v := nI (k + 1)) X rfl (Nat.le_of_ble_eq_true rfl) (kinc 1 rfl) dX2_allows_53 rfl ?_
            refine r_goto (tgt := 2) X (by decide) dX2_allows_56 ?_
            refine r_pl [(0, .ref (base + 35)), (1, .int (nI (h))), (2, .int (nI (s))), (3, .int (nI (k + 1)))] ⟨rfl, rfl, rfl, rfl, trivial⟩ ?_
            refine ih (k + 1) (by omega) (by omega) (fun i hi e => ?_)
            rcases (show i < k ∨ i = k by omega) with h9 | h9
            · exact hal i h9 e
            · subst h9; first | assumption | exact absurd e (by assumption)
          · replace c23 : (Mx 36 k) = h := (kI_eq (by omega) (by omega)).mp c23
            refine r_iload_n (q := 27) (i := 2) (j := 2) (x := nI (s)) X rfl rfl dX2_allows_26 rfl ?_
            refine r_aload_n (q := 28) (i := 0) (j := 0) (x := base + 35) X rfl rfl dX2_allows_27 rfl ?_
            refine r_getf (q := 31) (i := 35) (v := .ref (base + 37)) X fk_X2_15 kh_35 rfl rfl dX2_allows_28 rfl ?_
            refine r_iload_n (q := 32) (i := 3) (j := 3) (x := nI (k)) X rfl rfl dX2_allows_31 rfl ?_
            refine r_iald (q := 33) (i := 37) (j := k) (v := Mx 37 k) X kh_37 (by omega) (Nat.le_of_ble_eq_true rfl) rfl dX2_allows_32 rfl ?_
            refine r_aload_n (q := 34) (i := 0) (j := 0) (x := base + 35) X rfl rfl dX2_allows_33 rfl ?_
            refine r_getf (q := 37) (i := 35) (v := .ref (base + 38)) X fk_X2_18 kh_35 rfl rfl dX2_allows_34 rfl ?_
            refine r_iload_n (q := 38) (i := 3) (j := 3) (x := nI (k)) X rfl rfl dX2_allows_37 rfl ?_
            refine r_iald (q := 39) (i := 38) (j := k) (v := Mx 38 k) X kh_38 (by omega) (Nat.le_of_ble_eq_true rfl) rfl dX2_allows_38 rfl ?_
            refine r_callSi (q := 42) X (c_through K.2.1 G base Mx Lx s (Mx 37 k) (Mx 38 k) (by omega) (hN k) (by have := hT k; omega)) ks_RX2_28 (by decide) (by decide) ⟨Nat.zero_le _, Nat.zero_le _⟩ rfl (Nat.le_of_ble_eq_true rfl) dX2_allows_39 rfl (fun r M1 L1 hp => ?_)
            obtain ⟨e1, e2, e3⟩ := hp
            subst e1
            replace e2 := e2.symm
            subst e2
            replace e3 := e3.symm
            subst e3
            refine r_aload_n (q := 43) (i := 0) (j := 0) (x := base + 35) X rfl rfl dX2_allows_42 rfl ?_
            refine r_getf (q := 46) (i := 35) (v := .ref (base + 39)) X fk_X2_21 kh_35 rfl rfl dX2_allows_43 rfl ?_
            refine r_iload_n (q := 47) (i := 3) (j := 3) (x := nI (k)) X rfl rfl dX2_allows_46 rfl ?_
            refine r_iald (q := 48) (i := 39) (j := k) (v := Mx 39 k) X kh_39 (by omega) (Nat.le_of_ble_eq_true rfl) rfl dX2_allows_47 rfl ?_
            have hq2 := hG k
            have hq3 := shw_le s (Mx 38 k) (hN k)
            refine r_icmp_eq (q := 51) (tgt := 53) X (by decide) dX2_allows_48 rfl (fun c48 => ?_) (fun c48 => ?_)
            · replace c48 : (shw s (Mx 37 k) (Mx 38 k)) = (Mx 39 k) := (kI_eq (by omega) (by omega)).mp c48
              refine r_iinc (q := 56) (i := 3) (x := nI (k)) (v := nI (k + 1)) X rfl (Nat.le_of_ble_eq_true rfl) (kinc 1 rfl) dX2_allows_53 rfl ?_
              refine r_goto (tgt := 2) X (by decide) dX2_allows_56 ?_
              refine r_pl [(0, .ref (base + 35)), (1, .int (nI (h))), (2, .int (nI (s))), (3, .int (nI (k + 1)))] ⟨rfl, rfl, rfl, rfl, trivial⟩ ?_
              refine ih (k + 1) (by omega) (by omega) (fun i hi e => ?_)
              rcases (show i < k ∨ i = k by omega) with h9 | h9
              · exact hal i h9 e
              · subst h9; first | assumption | exact absurd e (by assumption)
            · replace c48 : ¬ (shw s (Mx 37 k) (Mx 38 k)) = (Mx 39 k) := fun h => (c48 ((kI_eq (by omega) (by omega)).mpr h))
              refine r_iconst (q := 52) (v := nI 0) X kc_0 dX2_allows_51 rfl ?_
              refine r_zret X Y (by decide) ?_ dX2_allows_52
              exact Or.inr ⟨rfl, fun h2 => absurd (h2 k (by omega) (by omega)) (by assumption), rfl, rfl⟩
  refine r_pl [(0, .ref (base + 35)), (1, .int (nI (h))), (2, .int (nI (s)))] ⟨rfl, rfl, rfl, trivial⟩ ?_
  refine r_iconst (q := 1) (v := nI 0) X kc_0 dX2_allows_0 rfl ?_
  refine r_istore_n (q := 2) (i := 3) (j := 3) X rfl (Nat.le_of_ble_eq_true rfl) dX2_allows_1 rfl ?_
  refine r_pl [(0, .ref (base + 35)), (1, .int (nI (h))), (2, .int (nI (s))), (3, .int (nI (0)))] ⟨rfl, rfl, rfl, rfl, trivial⟩ ?_
  exact lp 7 0 (by omega) (by omega) (fun i hi => absurd hi (Nat.not_lt_zero _))
set_option maxHeartbeats 8000000 in
theorem c6_shapes (l : Launch) (G : ks_G) (base : Nat) (Mx : ks_M) (Lx : ks_L) (x : Int32) (hn : Mx 3 3 ≤ 6) (hc : Mx 35 4 ≤ 6) (hN : ∀ i, Mx 37 i < 1000) (hT : ∀ i, Mx 38 i < 1000) (hG : ∀ i, Mx 39 i < 1000) (hH : ∀ i, Mx 36 i < 1000) : KI l G base 2 yX6_shapes cX6_shapes 4 .int [.ref (base + 0), .int (x)] SH Mx Lx (fun rr M1 L1 => ((rr = (-1) ∧ (∀ k, k < Mx 3 3 → x ≠ nI k)) ∨ (∃ k b, k < Mx 3 3 ∧ x = nI k ∧ rr = nI b ∧ shq (alw (Mx 36) (Mx 37) (Mx 38) (Mx 39) (Mx 35 4) k) 4 b)) ∧ M1 = Mx ∧ L1 = Lx) := by
  refine k_meti (by decide) (Nat.le_of_ble_eq_true rfl) (fun K hK X Y => ?_)
  subst hK
  refine r_pl [(0, .ref (base + 0)), (1, .int (x))] ⟨rfl, rfl, trivial⟩ ?_
  refine r_aload_n (q := 1) (i := 0) (j := 0) (x := base + 0) X rfl rfl dX6_shapes_0 rfl ?_
  refine r_getf (q := 4) (i := 0) (v := .ref (base + 3)) X fk_X6_19 kh_0 rfl rfl dX6_shapes_1 rfl ?_
  refine r_iload_n (q := 5) (i := 1) (j := 1) (x := x) X rfl rfl dX6_shapes_4 rfl ?_
  refine r_callVi (q := 8) X (c_has6 K.2.1 G base Mx Lx x hn) kh_3 rfl ks_RX6_116 (by decide) (by decide) ⟨Nat.zero_le _, Nat.zero_le _⟩ rfl (Nat.le_of_ble_eq_true rfl) dX6_shapes_5 rfl (fun r M1 L1 hp => ?_)
  rcases hp with ⟨h, e1, hkn, hxe, hp2⟩ | ⟨e1, hno, hp2⟩
  · subst e1
    obtain ⟨e2, e3⟩ := hp2
    replace e2 := e2.symm
    subst e2
    replace e3 := e3.symm
    subst e3
    subst hxe
    refine r_if_ne (q := 11) (tgt := 13) X (by decide) dX6_shapes_8 rfl (fun _ => ?_) (fun c => absurd c (by decide))
    refine r_iconst (q := 14) (v := nI 0) X kc_0 dX6_shapes_13 rfl ?_
    refine r_istore_n (q := 15) (i := 2) (j := 2) X rfl (Nat.le_of_ble_eq_true rfl) dX6_shapes_14 rfl ?_
    refine r_iconst (q := 16) (v := nI 0) X kc_0 dX6_shapes_15 rfl ?_
    refine r_istore_n (q := 17) (i := 3) (j := 3) X rfl (Nat.le_of_ble_eq_true rfl) dX6_shapes_16 rfl ?_
    have lp : ∀ (fuel : Nat) (s : Nat) (b : Nat), 4 - s < fuel → (s ≤ 4) → (shq (alw (Mx 36) (Mx 37) (Mx 38) (Mx 39) (Mx 35 4) h) s b) → RN K G base 4 0 0 SH Mx Lx 17 [(0, .ref (base + 0)), (1, .int (nI (h))), (2, .int (nI (b))), (3, .int (nI (s)))] [] := by
      intro fuel
      induction fuel with
      | zero => intro s b hfu; exact absurd hfu (Nat.not_lt_zero _)
      | succ fuel ih =>
        intro s b hfu hs hq
        refine r_iload_n (q := 18) (i := 3) (j := 3) (x := nI (s)) X rfl rfl dX6_shapes_17 rfl ?_
        refine r_iconst (q := 19) (v := nI 3) X kc_3 dX6_shapes_18 rfl ?_
        refine r_icmp_gt (q := 22) (tgt := 46) X (by decide) dX6_shapes_19 rfl (fun c19 => ?_) (fun c19 => ?_)
        · replace c19 : 3 < s := (nI_ltI (by omega) (by omega)).mp c19
          refine r_iload_n (q := 47) (i := 2) (j := 2) (x := nI (b)) X rfl rfl dX6_shapes_46 rfl ?_
          refine r_iret X Y ?_ dX6_shapes_47
          obtain rfl : s = 4 := by omega
          exact ⟨Or.inr ⟨h, b, hkn, rfl, rfl, hq⟩, rfl, rfl⟩
        · replace c19 : ¬ 3 < s := fun h => c19 ((nI_ltI (by omega) (by omega)).mpr h)
          refine r_aload_n (q := 23) (i := 0) (j := 0) (x := base + 0) X rfl rfl dX6_shapes_22 rfl ?_
          refine r_getf (q := 26) (i := 0) (v := .ref (base + 35)) X fk_X6_50 kh_0 rfl rfl dX6_shapes_23 rfl ?_
          refine r_iload_n (q := 27) (i := 1) (j := 1) (x := nI (h)) X rfl rfl dX6_shapes_26 rfl ?_
          refine r_iload_n (q := 28) (i := 3) (j := 3) (x := nI (s)) X rfl rfl dX6_shapes_27 rfl ?_
          refine r_callVi (q := 31) X (c_allows K.2.1 G base Mx Lx h s (by omega) (by omega) hc hN hT hG hH) kh_35 rfl ks_RX6_192 (by decide) (by decide) ⟨Nat.zero_le _, Nat.zero_le _⟩ rfl (Nat.le_of_ble_eq_true rfl) dX6_shapes_28 rfl (fun r M1 L1 hp => ?_)
          rcases hp with ⟨e1, hyes, hp2⟩ | ⟨e1, hno2, hp2⟩
          · subst e1
            obtain ⟨e2, e3⟩ := hp2
            replace e2 := e2.symm
            subst e2
            replace e3 := e3.symm
            subst e3
            refine r_if_eq (q := 34) (tgt := 40) X (by decide) dX6_shapes_31 rfl (fun c => absurd c (by decide)) (fun _ => ?_)
            refine r_iload_n (q := 35) (i := 2) (j := 2) (x := nI (b)) X rfl rfl dX6_shapes_34 rfl ?_
            refine r_iconst (q := 36) (v := nI 1) X kc_1 dX6_shapes_35 rfl ?_
            refine r_iload_n (q := 37) (i := 3) (j := 3) (x := nI (s)) X rfl rfl dX6_shapes_36 rfl ?_
            refine r_ishlR (q := 38) (x := nI 1) (y := nI (s)) (v := nI (1 <<< s)) X (k_shl (by omega)) dX6_shapes_37 rfl ?_
            refine r_iorR (q := 39) (x := nI (b)) (y := nI (1 <<< s)) (v := nI (b ||| (1 <<< s))) X (fa_or _ _) dX6_shapes_38 rfl ?_
            refine r_istore_n (q := 40) (i := 2) (j := 2) X rfl (Nat.le_of_ble_eq_true rfl) dX6_shapes_39 rfl ?_
            refine r_iinc (q := 43) (i := 3) (x := nI (s)) (v := nI (s + 1)) X rfl (Nat.le_of_ble_eq_true rfl) (kinc 1 rfl) dX6_shapes_40 rfl ?_
            refine r_goto (tgt := 17) X (by decide) dX6_shapes_43 ?_
            refine r_pl [(0, .ref (base + 0)), (1, .int (nI (h))), (2, .int (nI (b ||| (1 <<< s)))), (3, .int (nI (s + 1)))] ⟨rfl, rfl, rfl, rfl, trivial⟩ ?_
            exact ih (s + 1) (b ||| (1 <<< s)) (by omega) (by omega) (shq_yes hq hyes)
          · subst e1
            obtain ⟨e2, e3⟩ := hp2
            replace e2 := e2.symm
            subst e2
            replace e3 := e3.symm
            subst e3
            refine r_if_eq (q := 34) (tgt := 40) X (by decide) dX6_shapes_31 rfl (fun _ => ?_) (fun c => absurd c (by decide))
            refine r_iinc (q := 43) (i := 3) (x := nI (s)) (v := nI (s + 1)) X rfl (Nat.le_of_ble_eq_true rfl) (kinc 1 rfl) dX6_shapes_40 rfl ?_
            refine r_goto (tgt := 17) X (by decide) dX6_shapes_43 ?_
            refine r_pl [(0, .ref (base + 0)), (1, .int (nI (h))), (2, .int (nI (b))), (3, .int (nI (s + 1)))] ⟨rfl, rfl, rfl, rfl, trivial⟩ ?_
            exact ih (s + 1) (b) (by omega) (by omega) (shq_no hq hno2)
    refine r_pl [(0, .ref (base + 0)), (1, .int (nI (h))), (2, .int (nI (0))), (3, .int (nI (0)))] ⟨rfl, rfl, rfl, rfl, trivial⟩ ?_
    exact lp 5 0 0 (by omega) (by omega) (shq_0 _)
  · subst e1
    obtain ⟨e2, e3⟩ := hp2
    replace e2 := e2.symm
    subst e2
    replace e3 := e3.symm
    subst e3
    refine r_if_ne (q := 11) (tgt := 13) X (by decide) dX6_shapes_8 rfl (fun c => absurd c (by decide)) (fun _ => ?_)
    refine r_iconst (q := 12) (v := (-1)) X kc_m1 dX6_shapes_11 rfl ?_
    refine r_iret X Y ?_ dX6_shapes_12
    exact ⟨Or.inl ⟨rfl, hno⟩, rfl, rfl⟩
set_option maxHeartbeats 8000000 in
theorem c7_shapes (l : Launch) (G : ks_G) (base : Nat) (Mx : ks_M) (Lx : ks_L) (x : Int32) (hth : Mx 44 0 = 0) (hn : Mx 44 4 ≤ 6) (hc : Mx 44 17 ≤ 6) (hN : ∀ i, Mx 56 i < 1000) (hT : ∀ i, Mx 57 i < 1000) (hG : ∀ i, Mx 58 i < 1000) (hH : ∀ i, Mx 55 i < 1000) : KI l G base 2 yX7_shapes cX7_shapes 6 .int [.ref (base + 44), .int (x)] SH Mx Lx (fun rr M1 L1 => ((rr = (-1) ∧ (∀ k, k < Mx 44 4 → x ≠ nI k)) ∨ (∃ k b, k < Mx 44 4 ∧ x = nI k ∧ rr = nI b ∧ shq (alw (Mx 55) (Mx 56) (Mx 57) (Mx 58) (Mx 44 17) k) 4 b)) ∧ M1 = Mx ∧ L1 = Lx) := by
  refine k_meti (by decide) (Nat.le_of_ble_eq_true rfl) (fun K hK X Y => ?_)
  subst hK
  refine r_pl [(0, .ref (base + 44)), (1, .int (x))] ⟨rfl, rfl, trivial⟩ ?_
  refine r_aload_n (q := 1) (i := 0) (j := 0) (x := base + 44) X rfl rfl dX7_shapes_0 rfl ?_
  refine r_iconst (q := 2) (v := nI 0) X kc_0 dX7_shapes_1 rfl ?_
  refine r_puti (q := 5) (i := 44) (n := 0) X fk_X7_59 kp_X7_0 kh_44 rfl dX7_shapes_2 rfl ?_
  refine r_mem Mx (up2_id hth) ?_
  refine r_aload_n (q := 6) (i := 0) (j := 0) (x := base + 44) X rfl rfl dX7_shapes_5 rfl ?_
  refine r_iload_n (q := 7) (i := 1) (j := 1) (x := x) X rfl rfl dX7_shapes_6 rfl ?_
  refine r_callVi (q := 10) X (c_noHouse K.2.1 G base Mx Lx x hn) kh_44 rfl ks_RX7_109 (by decide) (by decide) ⟨Nat.zero_le _, Nat.zero_le _⟩ rfl (Nat.le_of_ble_eq_true rfl) dX7_shapes_7 rfl (fun r M1 L1 hp => ?_)
  rcases hp with ⟨h, e1, hkn, hxe, hp2⟩ | ⟨e1, hno, hp2⟩
  · subst e1
    obtain ⟨e2, e3⟩ := hp2
    replace e2 := e2.symm
    subst e2
    replace e3 := e3.symm
    subst e3
    subst hxe
    refine r_if_eq (q := 13) (tgt := 15) X (by decide) dX7_shapes_10 rfl (fun _ => ?_) (fun c => absurd c (by decide))
    refine r_iconst (q := 16) (v := nI 0) X kc_0 dX7_shapes_15 rfl ?_
    refine r_istore_n (q := 17) (i := 2) (j := 2) X rfl (Nat.le_of_ble_eq_true rfl) dX7_shapes_16 rfl ?_
    refine r_iconst (q := 18) (v := nI 0) X kc_0 dX7_shapes_17 rfl ?_
    refine r_istore_n (q := 19) (i := 3) (j := 3) X rfl (Nat.le_of_ble_eq_true rfl) dX7_shapes_18 rfl ?_
    have lp : ∀ (fuel : Nat) (s : Nat) (b : Nat), 4 - s < fuel → (s ≤ 4) → (shq (alw (Mx 55) (Mx 56) (Mx 57) (Mx 58) (Mx 44 17) h) s b) → RN K G base 6 0 0 SH Mx Lx 19 [(0, .ref (base + 44)), (1, .int (nI (h))), (2, .int (nI (b))), (3, .int (nI (s)))] [] := by
      intro fuel
      induction fuel with
      | zero => intro s b hfu; exact absurd hfu (Nat.not_lt_zero _)
      | succ fuel ih =>
        intro s b hfu hs hq
        refine r_iload_n (q := 20) (i := 3) (j := 3) (x := nI (s)) X rfl rfl dX7_shapes_19 rfl ?_
        refine r_iconst (q := 21) (v := nI 4) X kc_4 dX7_shapes_20 rfl ?_
        refine r_icmp_ge (q := 24) (tgt := 117) X (by decide) dX7_shapes_21 rfl (fun c21 => ?_) (fun c21 => ?_)
        · replace c21 : 4 ≤ s := (nI_leI (by omega) (by omega)).mp c21
          refine r_iload_n (q := 118) (i := 2) (j := 2) (x := nI (b)) X rfl rfl dX7_shapes_117 rfl ?_
          refine r_iret X Y ?_ dX7_shapes_118
          obtain rfl : s = 4 := by omega
          exact ⟨Or.inr ⟨h, b, hkn, rfl, rfl, hq⟩, rfl, rfl⟩
        · replace c21 : ¬ 4 ≤ s := fun h => c21 ((nI_leI (by omega) (by omega)).mpr h)
          refine r_iconst (q := 25) (v := nI 1) X kc_1 dX7_shapes_24 rfl ?_
          refine r_istore (q := 27) (i := 4) X (Nat.le_of_ble_eq_true rfl) dX7_shapes_25 rfl ?_
          refine r_iconst (q := 28) (v := nI 0) X kc_0 dX7_shapes_27 rfl ?_
          refine r_istore (q := 30) (i := 5) X (Nat.le_of_ble_eq_true rfl) dX7_shapes_28 rfl ?_
          have lq : ∀ (fuel2 : Nat) (k : Nat) (z : Nat), Mx 44 17 - k < fuel2 → (k ≤ Mx 44 17) → (z < 2) → (z = 1 ↔ ∀ i, i < k → Mx 55 i = h → shw s (Mx 56 i) (Mx 57 i) = Mx 58 i) → RN K G base 6 0 0 SH Mx Lx 30 [(0, .ref (base + 44)), (1, .int (nI (h))), (2, .int (nI (b))), (3, .int (nI (s))), (4, .int (nI (z))), (5, .int (nI (k)))] [] := by
            intro fuel2
            induction fuel2 with
            | zero => intro k z hfu2; exact absurd hfu2 (Nat.not_lt_zero _)
            | succ fuel2 ih2 =>
              intro k z hfu2 hk hz2 hz
              refine r_iload (q := 32) (i := 5) (x := nI (k)) X rfl dX7_shapes_30 rfl ?_
              refine r_aload_n (q := 33) (i := 0) (j := 0) (x := base + 44) X rfl rfl dX7_shapes_32 rfl ?_
              refine r_getf (q := 36) (i := 44) (v := .int (nI (Mx 44 17))) X fk_X7_106 kh_44 rfl rfl dX7_shapes_33 rfl ?_
              refine r_icmp_ge (q := 39) (tgt := 96) X (by decide) dX7_shapes_36 rfl (fun c36 => ?_) (fun c36 => ?_)
              · replace c36 : (Mx 44 17) ≤ k := (nI_leI (by omega) (by omega)).mp c36
                refine r_iload_n (q := 97) (i := 2) (j := 2) (x := nI (b)) X rfl rfl dX7_shapes_96 rfl ?_
                refine r_iload (q := 99) (i := 4) (x := nI (z)) X rfl dX7_shapes_97 rfl ?_
                refine r_if_eq (q := 102) (tgt := 108) X (by decide) dX7_shapes_99 rfl (fun c99 => ?_) (fun c99 => ?_)
                · replace c99 : z = 0 := (kI_eq0 (by omega)).mp c99
                  refine r_iconst (q := 109) (v := nI 0) X kc_0 dX7_shapes_108 rfl ?_
                  refine r_iorR (q := 110) (x := nI (b)) (y := nI 0) (v := nI (b ||| 0)) X (fa_or _ _) dX7_shapes_109 rfl ?_
                  refine r_istore_n (q := 111) (i := 2) (j := 2) X rfl (Nat.le_of_ble_eq_true rfl) dX7_shapes_110 rfl ?_
                  refine r_iinc (q := 114) (i := 3) (x := nI (s)) (v := nI (s + 1)) X rfl (Nat.le_of_ble_eq_true rfl) (kinc 1 rfl) dX7_shapes_111 rfl ?_
                  refine r_goto (tgt := 19) X (by decide) dX7_shapes_114 ?_
                  have hval : ¬ alw (Mx 55) (Mx 56) (Mx 57) (Mx 58) (Mx 44 17) h s := fun h9 => absurd (hz.mpr (fun i hi => h9 i (by omega))) (by omega)
                  refine r_pl [(0, .ref (base + 44)), (1, .int (nI h)), (2, .int (nI b)), (3, .int (nI (s + 1)))] ⟨rfl, rfl, by show some _ = _; rw [Nat.or_zero], rfl, trivial⟩ ?_
                  exact ih (s + 1) b (by omega) (by omega) (shq_no hq hval)
                · replace c99 : ¬ z = 0 := fun h => (c99 ((kI_eq0 (by omega)).mpr h))
                  refine r_iconst (q := 103) (v := nI 1) X kc_1 dX7_shapes_102 rfl ?_
                  refine r_iload_n (q := 104) (i := 3) (j := 3) (x := nI (s)) X rfl rfl dX7_shapes_103 rfl ?_
                  refine r_ishlR (q := 105) (x := nI 1) (y := nI (s)) (v := nI (1 <<< s)) X (k_shl (by omega)) dX7_shapes_104 rfl ?_
                  refine r_goto (tgt := 109) X (by decide) dX7_shapes_105 ?_
                  refine r_iorR (q := 110) (x := nI (b)) (y := nI (1 <<< s)) (v := nI (b ||| (1 <<< s))) X (fa_or _ _) dX7_shapes_109 rfl ?_
                  refine r_istore_n (q := 111) (i := 2) (j := 2) X rfl (Nat.le_of_ble_eq_true rfl) dX7_shapes_110 rfl ?_
                  refine r_iinc (q := 114) (i := 3) (x := nI (s)) (v := nI (s + 1)) X rfl (Nat.le_of_ble_eq_true rfl) (kinc 1 rfl) dX7_shapes_111 rfl ?_
                  refine r_goto (tgt := 19) X (by decide) dX7_shapes_114 ?_
                  have hval : alw (Mx 55) (Mx 56) (Mx 57) (Mx 58) (Mx 44 17) h s := fun i hi => hz.mp (by omega) i (by omega)
                  refine r_pl [(0, .ref (base + 44)), (1, .int (nI (h))), (2, .int (nI (b ||| (1 <<< s)))), (3, .int (nI (s + 1)))] ⟨rfl, rfl, rfl, rfl, trivial⟩ ?_
                  exact ih (s + 1) (b ||| (1 <<< s)) (by omega) (by omega) (shq_yes hq hval)
              · replace c36 : ¬ (Mx 44 17) ≤ k := fun h => c36 ((nI_leI (by omega) (by omega)).mpr h)
                refine r_iload (q := 41) (i := 4) (x := nI (z)) X rfl dX7_shapes_39 rfl ?_
                refine r_if_eq (q := 44) (tgt := 87) X (by decide) dX7_shapes_41 rfl (fun c41 => ?_) (fun c41 => ?_)
                · replace c41 : z = 0 := (kI_eq0 (by omega)).mp c41
                  refine r_iconst (q := 88) (v := nI 0) X kc_0 dX7_shapes_87 rfl ?_
                  refine r_istore (q := 90) (i := 4) X (Nat.le_of_ble_eq_true rfl) dX7_shapes_88 rfl ?_
                  refine r_iinc (q := 93) (i := 5) (x := nI (k)) (v := nI (k + 1)) X rfl (Nat.le_of_ble_eq_true rfl) (kinc 1 rfl) dX7_shapes_90 rfl ?_
                  refine r_goto (tgt := 30) X (by decide) dX7_shapes_93 ?_
                  refine r_pl [(0, .ref (base + 44)), (1, .int (nI (h))), (2, .int (nI (b))), (3, .int (nI (s))), (4, .int (nI (0))), (5, .int (nI (k + 1)))] ⟨rfl, rfl, rfl, rfl, rfl, rfl, trivial⟩ ?_
                  refine ih2 (k + 1) 0 (by omega) (by omega) (by omega) ⟨fun h8 i hi e => ?_, fun h8 => ?_⟩
                  · rcases (show i < k ∨ i = k by omega) with h9 | h9
                    · first | exact hz.mp (by omega) i h9 e | (exfalso; omega)
                    · subst h9; first | assumption | exact absurd e (by assumption) | (exfalso; omega)
                  · first | rfl | (exfalso; first | exact absurd (h8 k (by omega) (by assumption)) (by assumption) | (have h10 := hz.mpr (fun i hi => h8 i (by omega)); omega))
                · replace c41 : ¬ z = 0 := fun h => (c41 ((kI_eq0 (by omega)).mpr h))
                  refine r_aload_n (q := 45) (i := 0) (j := 0) (x := base + 44) X rfl rfl dX7_shapes_44 rfl ?_
                  refine r_getf (q := 48) (i := 44) (v := .ref (base + 55)) X fk_X7_41 kh_44 rfl rfl dX7_shapes_45 rfl ?_
                  refine r_iload (q := 50) (i := 5) (x := nI (k)) X rfl dX7_shapes_48 rfl ?_
                  refine r_iald (q := 51) (i := 55) (j := k) (v := Mx 55 k) X kh_55 (by omega) (Nat.le_of_ble_eq_true rfl) rfl dX7_shapes_50 rfl ?_
                  refine r_iload_n (q := 52) (i := 1) (j := 1) (x := nI (h)) X rfl rfl dX7_shapes_51 rfl ?_
                  have hq1 := hH k
                  refine r_icmp_ne (q := 55) (tgt := 83) X (by decide) dX7_shapes_52 rfl (fun c52 => ?_) (fun c52 => ?_)
                  · replace c52 : ¬ (Mx 55 k) = h := fun h => c52 ((kI_eq (by omega) (by omega)).mpr h)
                    refine r_iconst (q := 84) (v := nI 1) X kc_1 dX7_shapes_83 rfl ?_
                    refine r_goto (tgt := 88) X (by decide) dX7_shapes_84 ?_
                    refine r_istore (q := 90) (i := 4) X (Nat.le_of_ble_eq_true rfl) dX7_shapes_88 rfl ?_
                    refine r_iinc (q := 93) (i := 5) (x := nI (k)) (v := nI (k + 1)) X rfl (Nat.le_of_ble_eq_true rfl) (kinc 1 rfl) dX7_shapes_90 rfl ?_
                    refine r_goto (tgt := 30) X (by decide) dX7_shapes_93 ?_
                    refine r_pl [(0, .ref (base + 44)), (1, .int (nI (h))), (2, .int (nI (b))), (3, .int (nI (s))), (4, .int (nI (1))), (5, .int (nI (k + 1)))] ⟨rfl, rfl, rfl, rfl, rfl, rfl, trivial⟩ ?_
                    refine ih2 (k + 1) 1 (by omega) (by omega) (by omega) ⟨fun h8 i hi e => ?_, fun h8 => ?_⟩
                    · rcases (show i < k ∨ i = k by omega) with h9 | h9
                      · first | exact hz.mp (by omega) i h9 e | (exfalso; omega)
                      · subst h9; first | assumption | exact absurd e (by assumption) | (exfalso; omega)
                    · first | rfl | (exfalso; first | exact absurd (h8 k (by omega) (by assumption)) (by assumption) | (have h10 := hz.mpr (fun i hi => h8 i (by omega)); omega))
                  · replace c52 : (Mx 55 k) = h := (kI_eq (by omega) (by omega)).mp c52
                    refine r_iload_n (q := 56) (i := 3) (j := 3) (x := nI (s)) X rfl rfl dX7_shapes_55 rfl ?_
                    refine r_aload_n (q := 57) (i := 0) (j := 0) (x := base + 44) X rfl rfl dX7_shapes_56 rfl ?_
                    refine r_getf (q := 60) (i := 44) (v := .ref (base + 56)) X fk_X7_44 kh_44 rfl rfl dX7_shapes_57 rfl ?_
                    refine r_iload (q := 62) (i := 5) (x := nI (k)) X rfl dX7_shapes_60 rfl ?_
                    refine r_iald (q := 63) (i := 56) (j := k) (v := Mx 56 k) X kh_56 (by omega) (Nat.le_of_ble_eq_true rfl) rfl dX7_shapes_62 rfl ?_
                    refine r_aload_n (q := 64) (i := 0) (j := 0) (x := base + 44) X rfl rfl dX7_shapes_63 rfl ?_
                    refine r_getf (q := 67) (i := 44) (v := .ref (base + 57)) X fk_X7_47 kh_44 rfl rfl dX7_shapes_64 rfl ?_
                    refine r_iload (q := 69) (i := 5) (x := nI (k)) X rfl dX7_shapes_67 rfl ?_
                    refine r_iald (q := 70) (i := 57) (j := k) (v := Mx 57 k) X kh_57 (by omega) (Nat.le_of_ble_eq_true rfl) rfl dX7_shapes_69 rfl ?_
                    refine r_callSi (q := 73) X (c_shows7 K.2.1 G base Mx Lx s (Mx 56 k) (Mx 57 k) (by omega) (hN k) (by have := hT k; omega)) ks_RX7_102 (by decide) (by decide) ⟨Nat.zero_le _, Nat.zero_le _⟩ rfl (Nat.le_of_ble_eq_true rfl) dX7_shapes_70 rfl (fun r M1 L1 hp => ?_)
                    obtain ⟨e1, e2, e3⟩ := hp
                    subst e1
                    replace e2 := e2.symm
                    subst e2
                    replace e3 := e3.symm
                    subst e3
                    refine r_aload_n (q := 74) (i := 0) (j := 0) (x := base + 44) X rfl rfl dX7_shapes_73 rfl ?_
                    refine r_getf (q := 77) (i := 44) (v := .ref (base + 58)) X fk_X7_50 kh_44 rfl rfl dX7_shapes_74 rfl ?_
                    refine r_iload (q := 79) (i := 5) (x := nI (k)) X rfl dX7_shapes_77 rfl ?_
                    refine r_iald (q := 80) (i := 58) (j := k) (v := Mx 58 k) X kh_58 (by omega) (Nat.le_of_ble_eq_true rfl) rfl dX7_shapes_79 rfl ?_
                    have hq2 := hG k
                    have hq3 := shw_le s (Mx 57 k) (hN k)
                    refine r_icmp_ne (q := 83) (tgt := 87) X (by decide) dX7_shapes_80 rfl (fun c80 => ?_) (fun c80 => ?_)
                    · replace c80 : ¬ (shw s (Mx 56 k) (Mx 57 k)) = (Mx 58 k) := fun h => c80 ((kI_eq (by omega) (by omega)).mpr h)
                      refine r_iconst (q := 88) (v := nI 0) X kc_0 dX7_shapes_87 rfl ?_
                      refine r_istore (q := 90) (i := 4) X (Nat.le_of_ble_eq_true rfl) dX7_shapes_88 rfl ?_
                      refine r_iinc (q := 93) (i := 5) (x := nI (k)) (v := nI (k + 1)) X rfl (Nat.le_of_ble_eq_true rfl) (kinc 1 rfl) dX7_shapes_90 rfl ?_
                      refine r_goto (tgt := 30) X (by decide) dX7_shapes_93 ?_
                      refine r_pl [(0, .ref (base + 44)), (1, .int (nI (h))), (2, .int (nI (b))), (3, .int (nI (s))), (4, .int (nI (0))), (5, .int (nI (k + 1)))] ⟨rfl, rfl, rfl, rfl, rfl, rfl, trivial⟩ ?_
                      refine ih2 (k + 1) 0 (by omega) (by omega) (by omega) ⟨fun h8 i hi e => ?_, fun h8 => ?_⟩
                      · rcases (show i < k ∨ i = k by omega) with h9 | h9
                        · first | exact hz.mp (by omega) i h9 e | (exfalso; omega)
                        · subst h9; first | assumption | exact absurd e (by assumption) | (exfalso; omega)
                      · first | rfl | (exfalso; first | exact absurd (h8 k (by omega) (by assumption)) (by assumption) | (have h10 := hz.mpr (fun i hi => h8 i (by omega)); omega))
                    · replace c80 : (shw s (Mx 56 k) (Mx 57 k)) = (Mx 58 k) := (kI_eq (by omega) (by omega)).mp c80
                      refine r_iconst (q := 84) (v := nI 1) X kc_1 dX7_shapes_83 rfl ?_
                      refine r_goto (tgt := 88) X (by decide) dX7_shapes_84 ?_
                      refine r_istore (q := 90) (i := 4) X (Nat.le_of_ble_eq_true rfl) dX7_shapes_88 rfl ?_
                      refine r_iinc (q := 93) (i := 5) (x := nI (k)) (v := nI (k + 1)) X rfl (Nat.le_of_ble_eq_true rfl) (kinc 1 rfl) dX7_shapes_90 rfl ?_
                      refine r_goto (tgt := 30) X (by decide) dX7_shapes_93 ?_
                      refine r_pl [(0, .ref (base + 44)), (1, .int (nI (h))), (2, .int (nI (b))), (3, .int (nI (s))), (4, .int (nI (1))), (5, .int (nI (k + 1)))] ⟨rfl, rfl, rfl, rfl, rfl, rfl, trivial⟩ ?_
                      refine ih2 (k + 1) 1 (by omega) (by omega) (by omega) ⟨fun h8 i hi e => ?_, fun h8 => ?_⟩
                      · rcases (show i < k ∨ i = k by omega) with h9 | h9
                        · first | exact hz.mp (by omega) i h9 e | (exfalso; omega)
                        · subst h9; first | assumption | exact absurd e (by assumption) | (exfalso; omega)
                      · first | rfl | (exfalso; first | exact absurd (h8 k (by omega) (by assumption)) (by assumption) | (have h10 := hz.mpr (fun i hi => h8 i (by omega)); omega))
          refine r_pl [(0, .ref (base + 44)), (1, .int (nI (h))), (2, .int (nI (b))), (3, .int (nI (s))), (4, .int (nI (1))), (5, .int (nI (0)))] ⟨rfl, rfl, rfl, rfl, rfl, rfl, trivial⟩ ?_
          exact lq 7 0 1 (by omega) (by omega) (by omega) ⟨fun _ i hi => absurd hi (Nat.not_lt_zero _), fun _ => rfl⟩
    refine r_pl [(0, .ref (base + 44)), (1, .int (nI (h))), (2, .int (nI (0))), (3, .int (nI (0)))] ⟨rfl, rfl, rfl, rfl, trivial⟩ ?_
    exact lp 5 0 0 (by omega) (by omega) (shq_0 _)
  · subst e1
    obtain ⟨e2, e3⟩ := hp2
    replace e2 := e2.symm
    subst e2
    replace e3 := e3.symm
    subst e3
    refine r_if_eq (q := 13) (tgt := 15) X (by decide) dX7_shapes_10 rfl (fun c => absurd c (by decide)) (fun _ => ?_)
    refine r_iconst (q := 14) (v := (-1)) X kc_m1 dX7_shapes_13 rfl ?_
    refine r_iret X Y ?_ dX7_shapes_14
    exact ⟨Or.inl ⟨rfl, hno⟩, rfl, rfl⟩
