/-! THE REFERENCE: notes, acts, slots -/
def cpr (M : ks_M) (d s od os k : Nat) : ks_M := sr M d (fun c => if od ≤ c ∧ c < od + k then M s (os + (c - od)) else M d c)
theorem cpr_0 (M : ks_M) (d s od os : Nat) : M = cpr M d s od os 0 := by
  funext a c
  by_cases h : a = d
  · subst h
    simp only [cpr, sr, if_true]
    rw [if_neg (by omega)]
  · simp [cpr, sr, h]
theorem cpr_o {M : ks_M} {d s od os k a : Nat} (h : a ≠ d) : cpr M d s od os k a = M a := sr_o h
theorem cpr_s (M : ks_M) (d s od os k : Nat) : up2 (cpr M d s od os k) d (od + k) (M s (os + k)) = cpr M d s od os (k + 1) := by
  funext a c
  by_cases h : a = d
  · subst h
    by_cases h2 : c = od + k
    · subst h2
      simp only [up2, cpr, sr, if_true, and_self]
      rw [if_pos (by omega)]
      congr 1; omega
    · simp only [up2, cpr, sr, if_true, h2, and_false, if_false]
      by_cases h3 : od ≤ c ∧ c < od + k
      · rw [if_pos h3, if_pos (by omega)]
      · rw [if_neg h3, if_neg (by omega)]
  · simp [up2, cpr, sr, h]
theorem cpr_s0 (M : ks_M) (d s os k : Nat) : up2 (cpr M d s 0 os k) d k (M s (os + k)) = cpr M d s 0 os (k + 1) := by
  have h := cpr_s M d s 0 os k
  rw [Nat.zero_add] at h
  exact h
theorem cpr_r (M : ks_M) (d os k : Nat) (h : 0 < os) : cpr M d d 0 os k d (k + os) = M d (os + k) := by
  simp only [cpr, sr, if_true]
  rw [if_neg (by omega), Nat.add_comm]
def sh7 (M : ks_M) : ks_M := if M 44 14 = 14 then up2 (cpr M 52 52 0 12 156) 44 14 13 else M
def nt7 (M : ks_M) : ks_M := up2 (cpr (sh7 M) 52 49 (12 * sh7 M 44 14) 0 12) 44 14 (sh7 M 44 14 + 1)
def un7 (M : ks_M) : ks_M := cpr (up2 M 44 14 (M 44 14 - 1)) 49 52 0 (12 * (M 44 14 - 1)) 12
theorem sh7_14 {M : ks_M} (h : M 44 14 ≤ 14) : sh7 M 44 14 < 14 := by
  unfold sh7; split
  · rw [up2_s]; decide
  · omega
theorem sh7_49 (M : ks_M) : sh7 M 49 = M 49 := by
  unfold sh7; split
  · funext c; rw [up2_o (by decide)]; exact congrFun (cpr_o (by decide)) c
  · rfl
theorem nt7_o {M : ks_M} {a : Nat} (h : a ≠ 44) (h2 : a ≠ 52) : nt7 M a = M a := by
  funext c
  unfold nt7
  rw [up2_o h, cpr_o h2]
  unfold sh7; split
  · rw [up2_o h, cpr_o h2]
  · rfl
theorem nt7_44 {M : ks_M} {c : Nat} (h : c ≠ 14) : nt7 M 44 c = M 44 c := by
  unfold nt7
  rw [up2_k h, cpr_o (by decide)]
  unfold sh7; split
  · rw [up2_k h, cpr_o (by decide)]
  · rfl
set_option maxHeartbeats 8000000 in
theorem c_note (l : Launch) (G : ks_G) (base : Nat) (Mx : ks_M) (Lx : ks_L) (hc : Mx 44 14 ≤ 14) : KV l G base 0 0 0 yX7_note cX7_note 2 [.ref (base + 44)] SH SH Mx Lx (fun M1 L1 => M1 = nt7 Mx ∧ L1 = Lx) := by
  refine k_metv (by decide) (Nat.le_of_ble_eq_true rfl) (fun K hK hRm X Y => ?_)
  subst hK
  have lp : ∀ (fuel : Nat) (k : Nat) (Mv : ks_M), 12 - k < fuel → (k ≤ 12) → (Mv 44 14 < 14) → (up2 (cpr Mv 52 49 (12 * Mv 44 14) 0 12) 44 14 (Mv 44 14 + 1) = nt7 Mx) → RN K G base 2 0 0 SH ((cpr Mv 52 49 (12 * Mv 44 14) 0 k)) Lx 51 [(0, .ref (base + 44)), (1, .int (nI (k)))] [] := by
    intro fuel
    induction fuel with
    | zero => intro k Mv hfu; exact absurd hfu (Nat.not_lt_zero _)
    | succ fuel ih =>
      intro k Mv hfu hk hA hE
      refine r_iload_n (q := 52) (i := 1) (j := 1) (x := nI (k)) X rfl rfl dX7_note_51 rfl ?_
      refine r_bipush (q := 54) (v := nI 12) X kb_12 dX7_note_52 rfl ?_
      refine r_icmp_ge (q := 57) (tgt := 83) X (by decide) dX7_note_54 rfl (fun c54 => ?_) (fun c54 => ?_)
      · replace c54 : 12 ≤ k := (nI_leI (by omega) (by omega)).mp c54
        refine r_aload_n (q := 84) (i := 0) (j := 0) (x := base + 44) X rfl rfl dX7_note_83 rfl ?_
        refine r_dup (q := 85) X rfl dX7_note_84 rfl ?_
        refine r_getf (q := 88) (i := 44) (v := .int (nI (Mv 44 14))) X fk_X7_95 kh_44 rfl (kv (congrFun (cpr_o (by decide)) _)) dX7_note_85 rfl ?_
        refine r_iconst (q := 89) (v := nI 1) X kc_1 dX7_note_88 rfl ?_
        refine r_iaddR (q := 90) (x := nI (Mv 44 14)) (y := nI 1) (v := nI ((Mv 44 14) + 1)) X (nI_add _ _) dX7_note_89 rfl ?_
        refine r_puti (q := 93) (i := 44) (n := (Mv 44 14) + 1) X fk_X7_95 kp_X7_14 kh_44 rfl dX7_note_90 rfl ?_
        refine r_vret X Y ?_ dX7_note_93
        obtain rfl : k = 12 := by omega
        exact ⟨hE, rfl⟩
      · replace c54 : ¬ 12 ≤ k := fun h => c54 ((nI_leI (by omega) (by omega)).mpr h)
        refine r_aload_n (q := 58) (i := 0) (j := 0) (x := base + 44) X rfl rfl dX7_note_57 rfl ?_
        refine r_getf (q := 61) (i := 44) (v := .ref (base + 52)) X fk_X7_31 kh_44 rfl rfl dX7_note_58 rfl ?_
        refine r_bipush (q := 63) (v := nI 12) X kb_12 dX7_note_61 rfl ?_
        refine r_aload_n (q := 64) (i := 0) (j := 0) (x := base + 44) X rfl rfl dX7_note_63 rfl ?_
        refine r_getf (q := 67) (i := 44) (v := .int (nI (Mv 44 14))) X fk_X7_95 kh_44 rfl (kv (congrFun (cpr_o (by decide)) _)) dX7_note_64 rfl ?_
        refine r_imulR (q := 68) (x := nI 12) (y := nI (Mv 44 14)) (v := nI (12 * (Mv 44 14))) X (pk_mul _ _) dX7_note_67 rfl ?_
        refine r_iload_n (q := 69) (i := 1) (j := 1) (x := nI (k)) X rfl rfl dX7_note_68 rfl ?_
        refine r_iaddR (q := 70) (x := nI (12 * (Mv 44 14))) (y := nI (k)) (v := nI ((12 * (Mv 44 14)) + k)) X (nI_add _ _) dX7_note_69 rfl ?_
        refine r_aload_n (q := 71) (i := 0) (j := 0) (x := base + 44) X rfl rfl dX7_note_70 rfl ?_
        refine r_getf (q := 74) (i := 44) (v := .ref (base + 49)) X fk_X7_22 kh_44 rfl rfl dX7_note_71 rfl ?_
        refine r_iload_n (q := 75) (i := 1) (j := 1) (x := nI (k)) X rfl rfl dX7_note_74 rfl ?_
        refine r_iald (q := 76) (i := 49) (j := k) (v := Mv 49 (0 + k)) X kh_49 (by omega) (Nat.le_of_ble_eq_true rfl) (by rw [cpr_o (by decide), Nat.zero_add]) dX7_note_75 rfl ?_
        refine r_iast (q := 77) (i := 52) (j := (12 * (Mv 44 14)) + k) (v := Mv 49 (0 + k)) X kh_52 (by omega) (Nat.le_of_ble_eq_true rfl) dX7_note_76 rfl ?_
        refine r_iinc (q := 80) (i := 1) (x := nI (k)) (v := nI (k + 1)) X rfl (Nat.le_of_ble_eq_true rfl) (kinc 1 rfl) dX7_note_77 rfl ?_
        refine r_goto (tgt := 51) X (by decide) dX7_note_80 ?_
        refine r_pl [(0, .ref (base + 44)), (1, .int (nI (k + 1)))] ⟨rfl, rfl, trivial⟩ ?_
        exact r_mem _ (cpr_s Mv 52 49 (12 * Mv 44 14) 0 k) (ih (k + 1) Mv (by omega) (by omega) hA hE)
  refine r_pl [(0, .ref (base + 44))] ⟨rfl, trivial⟩ ?_
  refine r_aload_n (q := 1) (i := 0) (j := 0) (x := base + 44) X rfl rfl dX7_note_0 rfl ?_
  refine r_getf (q := 4) (i := 44) (v := .int (nI (Mx 44 14))) X fk_X7_95 kh_44 rfl rfl dX7_note_1 rfl ?_
  refine r_bipush (q := 6) (v := nI 14) X kb_14 dX7_note_4 rfl ?_
  refine r_icmp_ne (q := 9) (tgt := 49) X (by decide) dX7_note_6 rfl (fun c6 => ?_) (fun c6 => ?_)
  · replace c6 : ¬ (Mx 44 14) = 14 := fun h => c6 ((kI_eq (by omega) (by omega)).mpr h)
    refine r_iconst (q := 50) (v := nI 0) X kc_0 dX7_note_49 rfl ?_
    refine r_istore_n (q := 51) (i := 1) (j := 1) X rfl (Nat.le_of_ble_eq_true rfl) dX7_note_50 rfl ?_
    refine r_pl [(0, .ref (base + 44)), (1, .int (nI (0)))] ⟨rfl, rfl, trivial⟩ ?_
    have es : sh7 Mx = Mx := by unfold sh7; rw [if_neg c6]
    refine r_mem _ (cpr_0 _ 52 49 _ 0) (lp 13 0 Mx (by omega) (by omega) (by omega) ?_)
    unfold nt7; rw [es]
  · replace c6 : (Mx 44 14) = 14 := (kI_eq (by omega) (by omega)).mp c6
    refine r_iconst (q := 10) (v := nI 0) X kc_0 dX7_note_9 rfl ?_
    refine r_istore_n (q := 11) (i := 1) (j := 1) X rfl (Nat.le_of_ble_eq_true rfl) dX7_note_10 rfl ?_
    have lq : ∀ (fuel : Nat) (k : Nat), 156 - k < fuel → (k ≤ 156) → RN K G base 2 0 0 SH ((cpr Mx 52 52 0 12 k)) Lx 11 [(0, .ref (base + 44)), (1, .int (nI (k)))] [] := by
      intro fuel
      induction fuel with
      | zero => intro k hfu; exact absurd hfu (Nat.not_lt_zero _)
      | succ fuel ih =>
        intro k hfu hk
        refine r_iload_n (q := 12) (i := 1) (j := 1) (x := nI (k)) X rfl rfl dX7_note_11 rfl ?_
        refine r_sipush (q := 15) (v := nI 156) X ks_156 dX7_note_12 rfl ?_
        refine r_icmp_ge (q := 18) (tgt := 39) X (by decide) dX7_note_15 rfl (fun c15 => ?_) (fun c15 => ?_)
        · replace c15 : 156 ≤ k := (nI_leI (by omega) (by omega)).mp c15
          refine r_aload_n (q := 40) (i := 0) (j := 0) (x := base + 44) X rfl rfl dX7_note_39 rfl ?_
          refine r_dup (q := 41) X rfl dX7_note_40 rfl ?_
          refine r_getf (q := 44) (i := 44) (v := .int (nI (14))) X fk_X7_95 kh_44 rfl (kv (by rw [cpr_o (by decide)]; exact c6)) dX7_note_41 rfl ?_
          refine r_iconst (q := 45) (v := nI 1) X kc_1 dX7_note_44 rfl ?_
          refine r_isubR (q := 46) (x := nI (14)) (y := nI 1) (v := nI 13) X rfl dX7_note_45 rfl ?_
          refine r_puti (q := 49) (i := 44) (n := 13) X fk_X7_95 kp_X7_14 kh_44 rfl dX7_note_46 rfl ?_
          refine r_iconst (q := 50) (v := nI 0) X kc_0 dX7_note_49 rfl ?_
          refine r_istore_n (q := 51) (i := 1) (j := 1) X rfl (Nat.le_of_ble_eq_true rfl) dX7_note_50 rfl ?_
          obtain rfl : k = 156 := by omega
          refine r_pl [(0, .ref (base + 44)), (1, .int (nI (0)))] ⟨rfl, rfl, trivial⟩ ?_
          have es : sh7 Mx = up2 (cpr Mx 52 52 0 12 156) 44 14 13 := by unfold sh7; rw [if_pos c6]
          refine r_mem _ (cpr_0 _ 52 49 _ 0) (lp 13 0 (up2 (cpr Mx 52 52 0 12 156) 44 14 13) (by omega) (by omega) (by rw [up2_s]; decide) ?_)
          rw [← es]; rfl
        · replace c15 : ¬ 156 ≤ k := fun h => c15 ((nI_leI (by omega) (by omega)).mpr h)
          refine r_aload_n (q := 19) (i := 0) (j := 0) (x := base + 44) X rfl rfl dX7_note_18 rfl ?_
          refine r_getf (q := 22) (i := 44) (v := .ref (base + 52)) X fk_X7_31 kh_44 rfl rfl dX7_note_19 rfl ?_
          refine r_iload_n (q := 23) (i := 1) (j := 1) (x := nI (k)) X rfl rfl dX7_note_22 rfl ?_
          refine r_aload_n (q := 24) (i := 0) (j := 0) (x := base + 44) X rfl rfl dX7_note_23 rfl ?_
          refine r_getf (q := 27) (i := 44) (v := .ref (base + 52)) X fk_X7_31 kh_44 rfl rfl dX7_note_24 rfl ?_
          refine r_iload_n (q := 28) (i := 1) (j := 1) (x := nI (k)) X rfl rfl dX7_note_27 rfl ?_
          refine r_bipush (q := 30) (v := nI 12) X kb_12 dX7_note_28 rfl ?_
          refine r_iaddR (q := 31) (x := nI (k)) (y := nI 12) (v := nI (k + 12)) X (nI_add _ _) dX7_note_30 rfl ?_
          refine r_iald (q := 32) (i := 52) (j := k + 12) (v := Mx 52 (12 + k)) X kh_52 (by omega) (Nat.le_of_ble_eq_true rfl) (cpr_r Mx 52 12 k (by decide)) dX7_note_31 rfl ?_
          refine r_iast (q := 33) (i := 52) (j := k) (v := Mx 52 (12 + k)) X kh_52 (by omega) (Nat.le_of_ble_eq_true rfl) dX7_note_32 rfl ?_
          refine r_iinc (q := 36) (i := 1) (x := nI (k)) (v := nI (k + 1)) X rfl (Nat.le_of_ble_eq_true rfl) (kinc 1 rfl) dX7_note_33 rfl ?_
          refine r_goto (tgt := 11) X (by decide) dX7_note_36 ?_
          refine r_pl [(0, .ref (base + 44)), (1, .int (nI (k + 1)))] ⟨rfl, rfl, trivial⟩ ?_
          exact r_mem _ (cpr_s0 Mx 52 52 12 k) (ih (k + 1) (by omega) (by omega))
    refine r_pl [(0, .ref (base + 44)), (1, .int (nI (0)))] ⟨rfl, rfl, trivial⟩ ?_
    exact r_mem _ (cpr_0 Mx 52 52 0 12) (lq 157 0 (by omega) (by omega))
set_option maxHeartbeats 8000000 in
theorem c7_undo (l : Launch) (G : ks_G) (base : Nat) (Mx : ks_M) (Lx : ks_L) (hth : Mx 44 0 = 0) (hc : Mx 44 14 ≤ 14) : KI l G base 0 yX7_undo cX7_undo 2 .int [.ref (base + 44)] SH Mx Lx (fun rr M1 L1 => ((Mx 44 14 = 0 ∧ rr = (-3) ∧ M1 = Mx) ∨ (0 < Mx 44 14 ∧ rr = nI (Mx 44 14 - 1) ∧ M1 = un7 Mx)) ∧ L1 = Lx) := by
  refine k_meti (by decide) (Nat.le_of_ble_eq_true rfl) (fun K hK X Y => ?_)
  subst hK
  refine r_pl [(0, .ref (base + 44))] ⟨rfl, trivial⟩ ?_
  refine r_aload_n (q := 1) (i := 0) (j := 0) (x := base + 44) X rfl rfl dX7_undo_0 rfl ?_
  refine r_iconst (q := 2) (v := nI 0) X kc_0 dX7_undo_1 rfl ?_
  refine r_puti (q := 5) (i := 44) (n := 0) X fk_X7_59 kp_X7_0 kh_44 rfl dX7_undo_2 rfl ?_
  refine r_mem Mx (up2_id hth) ?_
  refine r_aload_n (q := 6) (i := 0) (j := 0) (x := base + 44) X rfl rfl dX7_undo_5 rfl ?_
  refine r_getf (q := 9) (i := 44) (v := .int (nI (Mx 44 14))) X fk_X7_95 kh_44 rfl rfl dX7_undo_6 rfl ?_
  refine r_if_ne (q := 12) (tgt := 15) X (by decide) dX7_undo_9 rfl (fun c9 => ?_) (fun c9 => ?_)
  · replace c9 : ¬ (Mx 44 14) = 0 := fun h => c9 ((kI_eq0 (by omega)).mpr h)
    refine r_aload_n (q := 16) (i := 0) (j := 0) (x := base + 44) X rfl rfl dX7_undo_15 rfl ?_
    refine r_dup (q := 17) X rfl dX7_undo_16 rfl ?_
    refine r_getf (q := 20) (i := 44) (v := .int (nI (Mx 44 14))) X fk_X7_95 kh_44 rfl rfl dX7_undo_17 rfl ?_
    refine r_iconst (q := 21) (v := nI 1) X kc_1 dX7_undo_20 rfl ?_
    refine r_isubR (q := 22) (x := nI (Mx 44 14)) (y := nI 1) (v := nI ((Mx 44 14) - 1)) X (pk_sub (by omega)) dX7_undo_21 rfl ?_
    refine r_puti (q := 25) (i := 44) (n := (Mx 44 14) - 1) X fk_X7_95 kp_X7_14 kh_44 rfl dX7_undo_22 rfl ?_
    refine r_iconst (q := 26) (v := nI 0) X kc_0 dX7_undo_25 rfl ?_
    refine r_istore_n (q := 27) (i := 1) (j := 1) X rfl (Nat.le_of_ble_eq_true rfl) dX7_undo_26 rfl ?_
    have lp : ∀ (fuel : Nat) (k : Nat), 12 - k < fuel → (k ≤ 12) → RN K G base 2 0 0 SH ((cpr (up2 Mx 44 14 (Mx 44 14 - 1)) 49 52 0 (12 * (Mx 44 14 - 1)) k)) Lx 27 [(0, .ref (base + 44)), (1, .int (nI (k)))] [] := by
      intro fuel
      induction fuel with
      | zero => intro k hfu; exact absurd hfu (Nat.not_lt_zero _)
      | succ fuel ih =>
        intro k hfu hk
        refine r_iload_n (q := 28) (i := 1) (j := 1) (x := nI (k)) X rfl rfl dX7_undo_27 rfl ?_
        refine r_bipush (q := 30) (v := nI 12) X kb_12 dX7_undo_28 rfl ?_
        refine r_icmp_ge (q := 33) (tgt := 59) X (by decide) dX7_undo_30 rfl (fun c30 => ?_) (fun c30 => ?_)
        · replace c30 : 12 ≤ k := (nI_leI (by omega) (by omega)).mp c30
          refine r_aload_n (q := 60) (i := 0) (j := 0) (x := base + 44) X rfl rfl dX7_undo_59 rfl ?_
          refine r_getf (q := 63) (i := 44) (v := .int (nI (Mx 44 14 - 1))) X fk_X7_95 kh_44 rfl (kv (by rw [cpr_o (by decide)]; simp [up2])) dX7_undo_60 rfl ?_
          refine r_iret X Y ?_ dX7_undo_63
          obtain rfl : k = 12 := by omega
          exact ⟨Or.inr ⟨by omega, rfl, rfl⟩, rfl⟩
        · replace c30 : ¬ 12 ≤ k := fun h => c30 ((nI_leI (by omega) (by omega)).mpr h)
          refine r_aload_n (q := 34) (i := 0) (j := 0) (x := base + 44) X rfl rfl dX7_undo_33 rfl ?_
          refine r_getf (q := 37) (i := 44) (v := .ref (base + 49)) X fk_X7_22 kh_44 rfl rfl dX7_undo_34 rfl ?_
          refine r_iload_n (q := 38) (i := 1) (j := 1) (x := nI (k)) X rfl rfl dX7_undo_37 rfl ?_
          refine r_aload_n (q := 39) (i := 0) (j := 0) (x := base + 44) X rfl rfl dX7_undo_38 rfl ?_
          refine r_getf (q := 42) (i := 44) (v := .ref (base + 52)) X fk_X7_31 kh_44 rfl rfl dX7_undo_39 rfl ?_
          refine r_bipush (q := 44) (v := nI 12) X kb_12 dX7_undo_42 rfl ?_
          refine r_aload_n (q := 45) (i := 0) (j := 0) (x := base + 44) X rfl rfl dX7_undo_44 rfl ?_
          refine r_getf (q := 48) (i := 44) (v := .int (nI (Mx 44 14 - 1))) X fk_X7_95 kh_44 rfl (kv (by rw [cpr_o (by decide)]; simp [up2])) dX7_undo_45 rfl ?_
          refine r_imulR (q := 49) (x := nI 12) (y := nI (Mx 44 14 - 1)) (v := nI (12 * (Mx 44 14 - 1))) X (pk_mul _ _) dX7_undo_48 rfl ?_
          refine r_iload_n (q := 50) (i := 1) (j := 1) (x := nI (k)) X rfl rfl dX7_undo_49 rfl ?_
          refine r_iaddR (q := 51) (x := nI (12 * (Mx 44 14 - 1))) (y := nI (k)) (v := nI ((12 * (Mx 44 14 - 1)) + k)) X (nI_add _ _) dX7_undo_50 rfl ?_
          refine r_iald (q := 52) (i := 52) (j := (12 * (Mx 44 14 - 1)) + k) (v := Mx 52 (12 * (Mx 44 14 - 1) + k)) X kh_52 (by omega) (Nat.le_of_ble_eq_true rfl) (by rw [cpr_o (by decide)]; simp [up2]) dX7_undo_51 rfl ?_
          refine r_iast (q := 53) (i := 49) (j := k) (v := Mx 52 (12 * (Mx 44 14 - 1) + k)) X kh_49 (by omega) (Nat.le_of_ble_eq_true rfl) dX7_undo_52 rfl ?_
          refine r_iinc (q := 56) (i := 1) (x := nI (k)) (v := nI (k + 1)) X rfl (Nat.le_of_ble_eq_true rfl) (kinc 1 rfl) dX7_undo_53 rfl ?_
          refine r_goto (tgt := 27) X (by decide) dX7_undo_56 ?_
          refine r_pl [(0, .ref (base + 44)), (1, .int (nI (k + 1)))] ⟨rfl, rfl, trivial⟩ ?_
          exact r_mem _ (cpr_s0 (up2 Mx 44 14 (Mx 44 14 - 1)) 49 52 (12 * (Mx 44 14 - 1)) k) (ih (k + 1) (by omega) (by omega))
    refine r_pl [(0, .ref (base + 44)), (1, .int (nI (0)))] ⟨rfl, rfl, trivial⟩ ?_
    exact r_mem _ (cpr_0 (up2 Mx 44 14 (Mx 44 14 - 1)) 49 52 0 _) (lp 13 0 (by omega) (by omega))
  · replace c9 : (Mx 44 14) = 0 := (kI_eq0 (by omega)).mp c9
    refine r_bipush (q := 14) (v := (-3)) X kb_m3 dX7_undo_12 rfl ?_
    refine r_iret X Y ?_ dX7_undo_14
    exact ⟨Or.inl ⟨by omega, rfl, rfl⟩, rfl⟩
