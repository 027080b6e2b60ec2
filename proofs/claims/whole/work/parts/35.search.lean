/-! THE SEARCH of the class: mostBelow -/
def bst (S : Nat → Nat) (n : Nat) : Nat → (Nat → Nat) → Nat
  | 0, _ => 0
  | k + 1, x => max (max (max (if cn n x 0 = 1 then bst S n k (tk S x 0) else 0) (if cn n x 1 = 1 then bst S n k (tk S x 1) else 0)) (if cn n x 2 = 1 then gn S x + bst S n k (tk S x 2) else 0)) (bst S n k (tk S x 3))
def bm (S : Nat → Nat) (n k : Nat) (x : Nat → Nat) (t : Nat) : Nat := if cn n x t = 1 then (if t = 2 then gn S x else 0) + bst S n k (tk S x t) else 0
/-- the most of the turns below t -/
def bmx (S : Nat → Nat) (n k : Nat) (x : Nat → Nat) : Nat → Nat
  | 0 => 0
  | t + 1 => max (bmx S n k x t) (bm S n k x t)
theorem bst_bmx (S : Nat → Nat) (n k : Nat) (x : Nat → Nat) : bst S n (k + 1) x = bmx S n k x 4 := by
  show bst S n (k + 1) x = max (max (max (max 0 (bm S n k x 0)) (bm S n k x 1)) (bm S n k x 2)) (bm S n k x 3)
  rw [Nat.zero_max]
  unfold bm
  rw [if_pos (cn_3 n x)]
  simp [bst]
theorem gn_1000 {S : Nat → Nat} (h : ∀ k, S k < 1000) (x : Nat → Nat) : gn S x < 1000 := by
  unfold gn sgv
  (repeat' split) <;> first | decide | exact h _
theorem bst_le {S : Nat → Nat} (h : ∀ k, S k < 1000) (n : Nat) : ∀ k x, bst S n k x ≤ 1000 * k
  | 0, _ => Nat.le_refl _
  | k + 1, x => by
    have h0 := bst_le h n k (tk S x 0)
    have h1 := bst_le h n k (tk S x 1)
    have h2 := bst_le h n k (tk S x 2)
    have h3 := bst_le h n k (tk S x 3)
    have h4 := gn_1000 h x
    unfold bst
    refine Nat.max_le.mpr ⟨Nat.max_le.mpr ⟨Nat.max_le.mpr ⟨?_, ?_⟩, ?_⟩, ?_⟩
    · split <;> omega
    · split <;> omega
    · split <;> omega
    · omega
theorem bst_z {S : Nat → Nat} {n : Nat} : ∀ k x, (x 1 = 0 ∨ n = 0) → bst S n k x = 0
  | 0, _, _ => rfl
  | k + 1, x, h => by
    have hc : ¬ cn n x 2 = 1 := by
      unfold cn; rw [if_neg (by decide), if_neg (by decide), if_pos rfl]
      rw [if_neg (by omega)]; decide
    have e0 : tk S x 0 1 = x 1 := by rw [tk_0]; simp [up1]
    have e1 : tk S x 1 1 = x 1 := by rw [tk_1]; simp [up1]
    have e3 : tk S x 3 1 = x 1 := by rw [tk_3]; simp [up1]
    unfold bst
    rw [if_neg hc, bst_z k _ (by rw [e0]; exact h), bst_z k _ (by rw [e1]; exact h), bst_z k _ (by rw [e3]; exact h)]
    simp
theorem bst_nolook {S : Nat → Nat} {n B k : Nat} {x : Nat → Nat} (h : rok n B x) (hc : cn n x 2 = 0) : bst S n k x = 0 := by
  refine bst_z k x ?_
  unfold cn at hc; rw [if_neg (by decide), if_neg (by decide), if_pos rfl] at hc
  split at hc
  · cases hc
  · next h1 => have h2 := h.2.1; omega
theorem bst_1 {S : Nat → Nat} {n : Nat} {x : Nat → Nat} (hc : cn n x 2 = 1) : bst S n 1 x = gn S x := by
  unfold bst bst
  rw [if_pos hc]
  simp
theorem tk_3v (S x : Nat → Nat) {t : Nat} (ht : t < 4) : tk S x t 3 = x 3 + (if t = 2 then gn S x else 0) := by
  rcases (show t = 0 ∨ t = 1 ∨ t = 2 ∨ t = 3 by omega) with rfl | rfl | rfl | rfl
  · rw [tk_0]; simp [up1]
  · rw [tk_1]; simp [up1]
  · rw [tk_2]; simp [up1]
  · rw [tk_3]; simp [up1]
theorem bmx_le {S : Nat → Nat} (h : ∀ k, S k < 1000) (n k : Nat) (x : Nat → Nat) : ∀ t, bmx S n k x t ≤ 1000 * (k + 1)
  | 0 => Nat.zero_le _
  | t + 1 => by
    have h1 := bmx_le h n k x t
    have h2 := bst_le h n k (tk S x t)
    have h3 := gn_1000 h x
    refine Nat.max_le.mpr ⟨h1, ?_⟩
    unfold bm
    (repeat' split) <;> omega
theorem kd26 {j : Nat} (h : j < 7) : ([(3, 27), (3, 28), (3, 29), (3, 30), (3, 31), (3, 32), (3, 33)] : List (Nat × Nat))[j]? = some (3, 27 + j) := by
  rcases (show j = 0 ∨ j = 1 ∨ j = 2 ∨ j = 3 ∨ j = 4 ∨ j = 5 ∨ j = 6 by omega) with rfl | rfl | rfl | rfl | rfl | rfl | rfl <;> rfl
theorem kh_lev {j : Nat} (h : j < 7) : SH[27 + j]? = some kSt := by
  rcases (show j = 0 ∨ j = 1 ∨ j = 2 ∨ j = 3 ∨ j = 4 ∨ j = 5 ∨ j = 6 by omega) with rfl | rfl | rfl | rfl | rfl | rfl | rfl <;> rfl
theorem k_maxadd (a b c : Nat) : max (a + b) (a + c) = a + max b c := by omega
theorem bm_y {S : Nat → Nat} {n k t : Nat} {x : Nat → Nat} (h : cn n x t = 1) : bmx S n k x (t + 1) = max (bmx S n k x t) ((if t = 2 then gn S x else 0) + bst S n k (tk S x t)) := by
  show max _ (bm S n k x t) = _
  unfold bm; rw [if_pos h]
theorem bm_n {S : Nat → Nat} {n k t : Nat} {x : Nat → Nat} (h : cn n x t = 0) : bmx S n k x (t + 1) = bmx S n k x t := by
  show max _ (bm S n k x t) = _
  unfold bm; rw [if_neg (by omega), Nat.max_zero]
/-- rows alike below 7 -/
def al7 (x y : Nat → Nat) : Prop := ∀ k, k < 7 → x k = y k
theorem gn_al {S x y : Nat → Nat} (h : al7 x y) : gn S x = gn S y := by
  unfold gn bt sgv; rw [h 0 (by decide), h 2 (by decide), h 4 (by decide), h 5 (by decide), h 6 (by decide)]
theorem cn_al {n t : Nat} {x y : Nat → Nat} (h : al7 x y) : cn n x t = cn n y t := by
  unfold cn; rw [h 0 (by decide), h 1 (by decide)]
theorem tk_al {S x y : Nat → Nat} {t : Nat} (h : al7 x y) : al7 (tk S x t) (tk S y t) := by
  intro k hk
  unfold tk
  (repeat' split) <;> simp only [up1, bt, gn_al h, h 0 (by decide), h 1 (by decide), h 2 (by decide), h 3 (by decide), h 6 (by decide), h k hk]
theorem bst_al {S : Nat → Nat} {n : Nat} : ∀ (k : Nat) {x y : Nat → Nat}, al7 x y → bst S n k x = bst S n k y
  | 0, _, _, _ => rfl
  | k + 1, x, y, h => by
    unfold bst
    rw [cn_al (t := 0) h, cn_al (t := 1) h, cn_al (t := 2) h, gn_al h, bst_al k (tk_al (t := 0) h), bst_al k (tk_al (t := 1) h), bst_al k (tk_al (t := 2) h), bst_al k (tk_al (t := 3) h)]
theorem cp7_al (x y : Nat → Nat) : al7 (cp7 x y) y := fun k hk => by unfold cp7; rw [if_pos hk]
theorem bst_cp {S z x : Nat → Nat} {n k t : Nat} : nI (cp7 z x 3 + (if t = 2 then gn S (cp7 z x) else 0) + bst S n k (tk S (cp7 z x) t)) = nI (x 3 + (if t = 2 then gn S x else 0) + bst S n k (tk S x t)) := by
  rw [gn_al (cp7_al z x), bst_al k (tk_al (t := t) (cp7_al z x))]; rfl
set_option maxHeartbeats 8000000 in
theorem c_mostBelow : ∀ (k : Nat), k ≤ 6 → ∀ (l : Launch) (G : ks_G) (base : Nat) (Mx : ks_M) (Lx : ks_L) (B : Nat), B + (k) < 200000 → Mx 3 3 ≤ 6 → (∀ q, Mx 6 q < 1000) → rok (Mx 3 3) B (Mx (27 + (k))) → Mx (27 + (k)) 3 + 1000 * (k) < 2000000000 → KI l G base (k + 3) yX1_mostBelow cX1_mostBelow 6 .int [.ref (base + 3), .ref (base + 26), .int (nI (k))] SH Mx Lx (fun rr M1 L1 => rr = nI (Mx (27 + (k)) 3 + bst (Mx 6) (Mx 3 3) (k) (Mx (27 + (k)))) ∧ (∀ a, (a < 27 ∨ 27 + (k) ≤ a) → M1 a = Mx a) ∧ L1 = Lx) := by
  intro k
  induction k with
  | zero =>
    intro hk l G base Mx Lx B hB hn hS hro hJ
    refine k_meti (by decide) (Nat.le_of_ble_eq_true rfl) (fun K hK X Y => ?_)
    subst hK
    refine r_pl [(0, .ref (base + 3)), (1, .ref (base + 26)), (2, .int (nI (0)))] ⟨rfl, rfl, rfl, trivial⟩ ?_
    refine r_iload_n (q := 1) (i := 2) (j := 2) (x := nI (0)) X rfl rfl dX1_mostBelow_0 rfl ?_
    refine r_if_lt (q := 4) (tgt := 10) X (by decide) dX1_mostBelow_1 rfl (fun c => absurd c (by decide)) (fun _ => ?_)
    refine r_iload_n (q := 5) (i := 2) (j := 2) (x := nI (0)) X rfl rfl dX1_mostBelow_4 rfl ?_
    refine r_aload_n (q := 6) (i := 1) (j := 1) (x := base + 26) X rfl rfl dX1_mostBelow_5 rfl ?_
    refine r_alen (q := 7) (i := 26) (n := 7) X kh_26 dX1_mostBelow_6 rfl ?_
    refine r_icmp_lt (q := 10) (tgt := 12) X (by decide) dX1_mostBelow_7 rfl (fun _ => ?_) (fun c => absurd c (by decide))
    refine r_aload_n (q := 13) (i := 1) (j := 1) (x := base + 26) X rfl rfl dX1_mostBelow_12 rfl ?_
    refine r_iload_n (q := 14) (i := 2) (j := 2) (x := nI (0)) X rfl rfl dX1_mostBelow_13 rfl ?_
    refine r_aald (q := 15) (i := 26) (j := 0) (t := 27 + 0) X kh_26 (by omega) (Nat.le_of_ble_eq_true rfl) (kd26 (by omega)) dX1_mostBelow_14 rfl ?_
    refine r_astore_n (q := 16) (i := 3) (j := 3) X rfl (Nat.le_of_ble_eq_true rfl) dX1_mostBelow_15 rfl ?_
    refine r_iload_n (q := 17) (i := 2) (j := 2) (x := nI (0)) X rfl rfl dX1_mostBelow_16 rfl ?_
    refine r_if_eq (q := 20) (tgt := 29) X (by decide) dX1_mostBelow_17 rfl (fun _ => ?_) (fun c => absurd c (by decide))
    refine r_aload_n (q := 30) (i := 3) (j := 3) (x := base + (27 + 0)) X rfl rfl dX1_mostBelow_29 rfl ?_
    refine r_getf (q := 33) (i := 27 + 0) (v := .int (nI (Mx (27 + 0) 3))) X fk_X1_34 (kh_lev (by omega)) rfl rfl dX1_mostBelow_30 rfl ?_
    refine r_iret X Y ?_ dX1_mostBelow_33
    exact ⟨rfl, fun a _ => rfl, rfl⟩
  | succ k ih =>
    intro hk l G base Mx Lx B hB hn hS hro hJ
    refine k_meti (by decide) (Nat.le_of_ble_eq_true rfl) (fun K hK X Y => ?_)
    subst hK
    refine r_pl [(0, .ref (base + 3)), (1, .ref (base + 26)), (2, .int (nI (k + 1)))] ⟨rfl, rfl, rfl, trivial⟩ ?_
    refine r_iload_n (q := 1) (i := 2) (j := 2) (x := nI (k + 1)) X rfl rfl dX1_mostBelow_0 rfl ?_
    refine r_if_lt (q := 4) (tgt := 10) X (by decide) dX1_mostBelow_1 rfl (fun c1 => ?_) (fun c1 => ?_)
    · replace c1 : (k + 1) < 0 := (kI_lt0 (by omega)).mp c1
      exfalso; omega
    · replace c1 : ¬ (k + 1) < 0 := fun h => c1 ((kI_lt0 (by omega)).mpr h)
      refine r_iload_n (q := 5) (i := 2) (j := 2) (x := nI (k + 1)) X rfl rfl dX1_mostBelow_4 rfl ?_
      refine r_aload_n (q := 6) (i := 1) (j := 1) (x := base + 26) X rfl rfl dX1_mostBelow_5 rfl ?_
      refine r_alen (q := 7) (i := 26) (n := 7) X kh_26 dX1_mostBelow_6 rfl ?_
      refine r_icmp_lt (q := 10) (tgt := 12) X (by decide) dX1_mostBelow_7 rfl (fun c7 => ?_) (fun c7 => ?_)
      · replace c7 : (k + 1) < 7 := (nI_ltI (by omega) (by omega)).mp c7
        refine r_aload_n (q := 13) (i := 1) (j := 1) (x := base + 26) X rfl rfl dX1_mostBelow_12 rfl ?_
        refine r_iload_n (q := 14) (i := 2) (j := 2) (x := nI (k + 1)) X rfl rfl dX1_mostBelow_13 rfl ?_
        refine r_aald (q := 15) (i := 26) (j := k + 1) (t := 27 + (k + 1)) X kh_26 (by omega) (Nat.le_of_ble_eq_true rfl) (kd26 (by omega)) dX1_mostBelow_14 rfl ?_
        refine r_astore_n (q := 16) (i := 3) (j := 3) X rfl (Nat.le_of_ble_eq_true rfl) dX1_mostBelow_15 rfl ?_
        refine r_iload_n (q := 17) (i := 2) (j := 2) (x := nI (k + 1)) X rfl rfl dX1_mostBelow_16 rfl ?_
        refine r_if_eq (q := 20) (tgt := 29) X (by decide) dX1_mostBelow_17 rfl (fun c17 => ?_) (fun c17 => ?_)
        · replace c17 : (k + 1) = 0 := (kI_eq0 (by omega)).mp c17
          exfalso; omega
        · replace c17 : ¬ (k + 1) = 0 := fun h => (c17 ((kI_eq0 (by omega)).mpr h))
          refine r_aload_n (q := 21) (i := 3) (j := 3) (x := base + (27 + (k + 1))) X rfl rfl dX1_mostBelow_20 rfl ?_
          refine r_aload_n (q := 22) (i := 0) (j := 0) (x := base + 3) X rfl rfl dX1_mostBelow_21 rfl ?_
          refine r_iconst (q := 23) (v := nI 2) X kc_2 dX1_mostBelow_22 rfl ?_
          refine r_callVi (q := 26) X (c_can K.2.1 G base Mx Lx (27 + (k + 1)) (kh_lev (by omega)) 2 (by decide) (by have := hro.1; omega) (by have := hro.2.2.1; omega) (by omega)) (kh_lev (by omega)) rfl ks_RX1_50 (by omega) (by decide) ⟨Nat.zero_le _, Nat.zero_le _⟩ rfl (Nat.le_of_ble_eq_true rfl) dX1_mostBelow_23 rfl (fun r M1 L1 hp => ?_)
          obtain ⟨e1, e2, e3⟩ := hp
          subst e1
          replace e2 := e2.symm
          subst e2
          replace e3 := e3.symm
          subst e3
          have hcn := cn_2 (Mx 3 3) (Mx (27 + (k + 1))) 2
          refine r_if_ne (q := 29) (tgt := 34) X (by decide) dX1_mostBelow_26 rfl (fun c26 => ?_) (fun c26 => ?_)
          · replace c26 : ¬ (cn (Mx 3 3) (Mx (27 + (k + 1))) 2) = 0 := fun h => c26 ((kI_eq0 (by omega)).mpr h)
            refine r_iload_n (q := 35) (i := 2) (j := 2) (x := nI (k + 1)) X rfl rfl dX1_mostBelow_34 rfl ?_
            refine r_iconst (q := 36) (v := nI 1) X kc_1 dX1_mostBelow_35 rfl ?_
            refine r_icmp_ne (q := 39) (tgt := 50) X (by decide) dX1_mostBelow_36 rfl (fun c36 => ?_) (fun c36 => ?_)
            · replace c36 : ¬ (k + 1) = 1 := fun h => c36 ((kI_eq (by omega) (by omega)).mpr h)
              refine r_aload_n (q := 51) (i := 3) (j := 3) (x := base + (27 + (k + 1))) X rfl rfl dX1_mostBelow_50 rfl ?_
              refine r_getf (q := 54) (i := 27 + (k + 1)) (v := .int (nI (Mx (27 + (k + 1)) 3))) X fk_X1_34 (kh_lev (by omega)) rfl rfl dX1_mostBelow_51 rfl ?_
              refine r_istore (q := 56) (i := 4) X (Nat.le_of_ble_eq_true rfl) dX1_mostBelow_54 rfl ?_
              refine r_iconst (q := 57) (v := nI 0) X kc_0 dX1_mostBelow_56 rfl ?_
              refine r_istore (q := 59) (i := 5) X (Nat.le_of_ble_eq_true rfl) dX1_mostBelow_57 rfl ?_
              have lp : ∀ (fuel2 : Nat) (t : Nat) (Mv : ks_M), 4 - t < fuel2 → (t ≤ 4) → ((∀ a, (a < 27 ∨ 27 + (k + 1) ≤ a) → Mv a = Mx a)) → RN K G base 6 0 0 SH Mv Lx 59 [(0, .ref (base + 3)), (1, .ref (base + 26)), (2, .int (nI (k + 1))), (3, .ref (base + (27 + (k + 1)))), (4, .int (nI ((Mx (27 + (k + 1))) 3 + bmx (Mx 6) (Mx 3 3) k (Mx (27 + (k + 1))) (t)))), (5, .int (nI (t)))] [] := by
                intro fuel2
                induction fuel2 with
                | zero => intro t Mv hfu2; exact absurd hfu2 (Nat.not_lt_zero _)
                | succ fuel2 ih2 =>
                  intro t Mv hfu2 ht4 hfr
                  refine r_iload (q := 61) (i := 5) (x := nI (t)) X rfl dX1_mostBelow_59 rfl ?_
                  refine r_iconst (q := 62) (v := nI 3) X kc_3 dX1_mostBelow_61 rfl ?_
                  refine r_icmp_gt (q := 65) (tgt := 117) X (by decide) dX1_mostBelow_62 rfl (fun c62 => ?_) (fun c62 => ?_)
                  · replace c62 : 3 < t := (nI_ltI (by omega) (by omega)).mp c62
                    refine r_iload (q := 119) (i := 4) (x := nI ((Mx (27 + (k + 1))) 3 + bmx (Mx 6) (Mx 3 3) k (Mx (27 + (k + 1))) (t))) X rfl dX1_mostBelow_117 rfl ?_
                    refine r_iret X Y ?_ dX1_mostBelow_119
                    obtain rfl : t = 4 := by omega
                    exact ⟨by rw [bst_bmx], hfr, rfl⟩
                  · replace c62 : ¬ 3 < t := fun h => c62 ((nI_ltI (by omega) (by omega)).mpr h)
                    refine r_aload_n (q := 66) (i := 3) (j := 3) (x := base + (27 + (k + 1))) X rfl rfl dX1_mostBelow_65 rfl ?_
                    refine r_aload_n (q := 67) (i := 0) (j := 0) (x := base + 3) X rfl rfl dX1_mostBelow_66 rfl ?_
                    refine r_iload (q := 69) (i := 5) (x := nI (t)) X rfl dX1_mostBelow_67 rfl ?_
                    refine r_callVi (q := 72) X (c_can K.2.1 G base Mv Lx (27 + (k + 1)) (kh_lev (by omega)) t (by omega) (by rw [(hfr (27 + (k + 1)) (Or.inr (Nat.le_refl _)))]; have := hro.1; omega) (by rw [(hfr (27 + (k + 1)) (Or.inr (Nat.le_refl _)))]; have := hro.2.2.1; omega) (by rw [(hfr 3 (Or.inl (by decide)))]; omega)) (kh_lev (by omega)) rfl ks_RX1_50 (by omega) (by decide) ⟨Nat.zero_le _, Nat.zero_le _⟩ rfl (Nat.le_of_ble_eq_true rfl) dX1_mostBelow_69 rfl (fun r M1 L1 hp => ?_)
                    rw [(hfr 3 (Or.inl (by decide))), (hfr (27 + (k + 1)) (Or.inr (Nat.le_refl _)))] at hp
                    obtain ⟨e1, e2, e3⟩ := hp
                    subst e1
                    replace e2 := e2.symm
                    subst e2
                    replace e3 := e3.symm
                    subst e3
                    have hcn2 := cn_2 (Mx 3 3) (Mx (27 + (k + 1))) t
                    refine r_if_eq (q := 75) (tgt := 111) X (by decide) dX1_mostBelow_72 rfl (fun c72 => ?_) (fun c72 => ?_)
                    · replace c72 : (cn (Mx 3 3) (Mx (27 + (k + 1))) t) = 0 := (kI_eq0 (by omega)).mp c72
                      refine r_iinc (q := 114) (i := 5) (x := nI (t)) (v := nI (t + 1)) X rfl (Nat.le_of_ble_eq_true rfl) (kinc 1 rfl) dX1_mostBelow_111 rfl ?_
                      refine r_goto (tgt := 59) X (by decide) dX1_mostBelow_114 ?_
                      have eb : bmx (Mx 6) (Mx 3 3) k (Mx (27 + (k + 1))) (t + 1) = bmx (Mx 6) (Mx 3 3) k (Mx (27 + (k + 1))) t := bm_n (by omega)
                      refine r_pl [(0, .ref (base + 3)), (1, .ref (base + 26)), (2, .int (nI (k + 1))), (3, .ref (base + (27 + (k + 1)))), (4, .int (nI ((Mx (27 + (k + 1))) 3 + bmx (Mx 6) (Mx 3 3) k (Mx (27 + (k + 1))) (t + 1)))), (5, .int (nI (t + 1)))] ⟨rfl, rfl, rfl, rfl, by rw [eb]; rfl, rfl, trivial⟩ ?_
                      exact ih2 (t + 1) Mv (by omega) (by omega) hfr
                    · replace c72 : ¬ (cn (Mx 3 3) (Mx (27 + (k + 1))) t) = 0 := fun h => (c72 ((kI_eq0 (by omega)).mpr h))
                      refine r_aload_n (q := 76) (i := 1) (j := 1) (x := base + 26) X rfl rfl dX1_mostBelow_75 rfl ?_
                      refine r_iload_n (q := 77) (i := 2) (j := 2) (x := nI (k + 1)) X rfl rfl dX1_mostBelow_76 rfl ?_
                      refine r_iconst (q := 78) (v := nI 1) X kc_1 dX1_mostBelow_77 rfl ?_
                      refine r_isubR (q := 79) (x := nI (k + 1)) (y := nI 1) (v := nI ((k + 1) - 1)) X (pk_sub (by omega)) dX1_mostBelow_78 rfl ?_
                      refine r_aald (q := 80) (i := 26) (j := (k + 1) - 1) (t := 27 + ((k + 1) - 1)) X kh_26 (by omega) (Nat.le_of_ble_eq_true rfl) (kd26 (by omega)) dX1_mostBelow_79 rfl ?_
                      refine r_aload_n (q := 81) (i := 3) (j := 3) (x := base + (27 + (k + 1))) X rfl rfl dX1_mostBelow_80 rfl ?_
                      refine r_callVv (q := 84) X (c_copy K.2.1 G base Mv Lx (27 + ((k + 1) - 1)) (kh_lev (by omega)) (27 + (k + 1)) (kh_lev (by omega)) (by omega)) (kh_lev (by omega)) rfl ks_RX1_26 (by omega) (by decide) ⟨Nat.zero_le _, Nat.zero_le _⟩ rfl (Nat.le_of_ble_eq_true rfl) dX1_mostBelow_81 rfl (fun M1 L1 hp => ?_)
                      rw [(hfr (27 + (k + 1)) (Or.inr (Nat.le_refl _)))] at hp
                      obtain ⟨e2, e3⟩ := hp
                      replace e2 := e2.symm
                      subst e2
                      replace e3 := e3.symm
                      subst e3
                      refine r_aload_n (q := 85) (i := 1) (j := 1) (x := base + 26) X rfl rfl dX1_mostBelow_84 rfl ?_
                      refine r_iload_n (q := 86) (i := 2) (j := 2) (x := nI (k + 1)) X rfl rfl dX1_mostBelow_85 rfl ?_
                      refine r_iconst (q := 87) (v := nI 1) X kc_1 dX1_mostBelow_86 rfl ?_
                      refine r_isubR (q := 88) (x := nI (k + 1)) (y := nI 1) (v := nI ((k + 1) - 1)) X (pk_sub (by omega)) dX1_mostBelow_87 rfl ?_
                      refine r_aald (q := 89) (i := 26) (j := (k + 1) - 1) (t := 27 + ((k + 1) - 1)) X kh_26 (by omega) (Nat.le_of_ble_eq_true rfl) (kd26 (by omega)) dX1_mostBelow_88 rfl ?_
                      refine r_aload_n (q := 90) (i := 0) (j := 0) (x := base + 3) X rfl rfl dX1_mostBelow_89 rfl ?_
                      refine r_iload (q := 92) (i := 5) (x := nI (t)) X rfl dX1_mostBelow_90 rfl ?_
                      refine r_callVi (q := 95) X (c_take K.2.1 G base (sr Mv (27 + ((k + 1) - 1)) (cp7 (Mv (27 + ((k + 1) - 1))) (Mx (27 + (k + 1))))) Lx (27 + ((k + 1) - 1)) (kh_lev (by omega)) t (by omega) (by rw [sr_s]; exact hro.1) (by rw [sr_s]; have h9 := hro.2.2.2.1; show (Mx (27 + (k + 1))) 2 < _; omega) (by rw [sr_s]; have h9 := hro.2.2.2.2.1; show (Mx (27 + (k + 1))) 4 < _; omega) (by rw [sr_s]; have h9 := hro.2.2.2.2.2.1; show (Mx (27 + (k + 1))) 5 < _; omega) (by rw [sr_s]; have h9 := hro.2.2.2.2.2.2; show (Mx (27 + (k + 1))) 6 < _; omega) (fun h => by rw [sr_s]; have h9 : cn (Mx 3 3) (Mx (27 + (k + 1))) t = 1 := (by omega); rw [h] at h9; exact cn_0 h9) (fun h => by rw [sr_s]; have h9 : cn (Mx 3 3) (Mx (27 + (k + 1))) t = 1 := (by omega); rw [h] at h9; exact cn_look h9)) (kh_lev (by omega)) rfl ks_RX1_46 (by omega) (by decide) ⟨Nat.zero_le _, Nat.zero_le _⟩ rfl (Nat.le_of_ble_eq_true rfl) dX1_mostBelow_92 rfl (fun r M1 L1 hp => ?_)
                      rw [sr_s, show (sr Mv (27 + ((k + 1) - 1)) (cp7 (Mv (27 + ((k + 1) - 1))) (Mx (27 + (k + 1))))) 6 = Mx 6 from (sr_o (by omega)).trans (hfr 6 (Or.inl (by decide))), sr_sr] at hp
                      obtain ⟨e1, e2, e3⟩ := hp
                      subst e1
                      replace e2 := e2.symm
                      subst e2
                      replace e3 := e3.symm
                      subst e3
                      refine r_pop (q := 96) X rfl dX1_mostBelow_95 rfl ?_
                      refine r_iload (q := 98) (i := 4) (x := nI ((Mx (27 + (k + 1))) 3 + bmx (Mx 6) (Mx 3 3) k (Mx (27 + (k + 1))) (t))) X rfl dX1_mostBelow_96 rfl ?_
                      refine r_aload_n (q := 99) (i := 0) (j := 0) (x := base + 3) X rfl rfl dX1_mostBelow_98 rfl ?_
                      refine r_aload_n (q := 100) (i := 1) (j := 1) (x := base + 26) X rfl rfl dX1_mostBelow_99 rfl ?_
                      refine r_iload_n (q := 101) (i := 2) (j := 2) (x := nI (k + 1)) X rfl rfl dX1_mostBelow_100 rfl ?_
                      refine r_iconst (q := 102) (v := nI 1) X kc_1 dX1_mostBelow_101 rfl ?_
                      refine r_isubR (q := 103) (x := nI (k + 1)) (y := nI 1) (v := nI k) X (pk_sub (by omega)) dX1_mostBelow_102 rfl ?_
                      refine r_callSi (q := 106) X (ih (by omega) K.2.1 G base (sr Mv (27 + ((k + 1) - 1)) (tk (Mx 6) (cp7 (Mv (27 + ((k + 1) - 1))) (Mx (27 + (k + 1)))) t)) Lx (B + 1) (by omega) (by rw [sr_o (by omega), (hfr 3 (Or.inl (by decide)))]; exact hn) (fun q => by rw [sr_o (by omega), (hfr 6 (Or.inl (by decide)))]; exact hS q) (by rw [show (sr Mv (27 + ((k + 1) - 1)) (tk (Mx 6) (cp7 (Mv (27 + ((k + 1) - 1))) (Mx (27 + (k + 1)))) t)) (27 + k) = tk (Mx 6) (cp7 (Mv (27 + ((k + 1) - 1))) (Mx (27 + (k + 1)))) t from (congrArg (sr Mv (27 + ((k + 1) - 1)) (tk (Mx 6) (cp7 (Mv (27 + ((k + 1) - 1))) (Mx (27 + (k + 1)))) t)) (by omega)).trans (sr_s _ _ _), sr_o (by omega), (hfr 3 (Or.inl (by decide)))]; exact tk_ok hn (cp7_ok hro) (by show cn (Mx 3 3) (Mx (27 + (k + 1))) t = 1; omega) (by omega)) (by rw [show (sr Mv (27 + ((k + 1) - 1)) (tk (Mx 6) (cp7 (Mv (27 + ((k + 1) - 1))) (Mx (27 + (k + 1)))) t)) (27 + k) = tk (Mx 6) (cp7 (Mv (27 + ((k + 1) - 1))) (Mx (27 + (k + 1)))) t from (congrArg (sr Mv (27 + ((k + 1) - 1)) (tk (Mx 6) (cp7 (Mv (27 + ((k + 1) - 1))) (Mx (27 + (k + 1)))) t)) (by omega)).trans (sr_s _ _ _), tk_3v _ _ (by omega)]; show (Mx (27 + (k + 1))) 3 + (if t = 2 then gn (Mx 6) (Mx (27 + (k + 1))) else 0) + 1000 * k < _; have h8 := gn_1000 hS (Mx (27 + (k + 1))); split <;> omega)) ks_RX1_30 (by omega) (by decide) ⟨Nat.zero_le _, Nat.zero_le _⟩ rfl (Nat.le_of_ble_eq_true rfl) dX1_mostBelow_103 rfl (fun r M1 L1 hp => ?_)
                      obtain ⟨e1, hfr2, e3⟩ := hp
                      rw [show (sr Mv (27 + ((k + 1) - 1)) (tk (Mx 6) (cp7 (Mv (27 + ((k + 1) - 1))) (Mx (27 + (k + 1)))) t)) (27 + k) = tk (Mx 6) (cp7 (Mv (27 + ((k + 1) - 1))) (Mx (27 + (k + 1)))) t from (congrArg (sr Mv (27 + ((k + 1) - 1)) (tk (Mx 6) (cp7 (Mv (27 + ((k + 1) - 1))) (Mx (27 + (k + 1)))) t)) (by omega)).trans (sr_s _ _ _), show (sr Mv (27 + ((k + 1) - 1)) (tk (Mx 6) (cp7 (Mv (27 + ((k + 1) - 1))) (Mx (27 + (k + 1)))) t)) 6 = Mx 6 from (sr_o (by omega)).trans (hfr 6 (Or.inl (by decide))), show (sr Mv (27 + ((k + 1) - 1)) (tk (Mx 6) (cp7 (Mv (27 + ((k + 1) - 1))) (Mx (27 + (k + 1)))) t)) 3 = Mx 3 from (sr_o (by omega)).trans (hfr 3 (Or.inl (by decide))), tk_3v _ _ (by omega)] at e1
                      subst e1
                      replace e3 := e3.symm
                      subst e3
                      rw [bst_cp]
                      have hbm := bmx_le hS (Mx 3 3) k (Mx (27 + (k + 1))) t
                      have hbs := bst_le hS (Mx 3 3) k (tk (Mx 6) (Mx (27 + (k + 1))) t)
                      have hgi : (if t = 2 then gn (Mx 6) (Mx (27 + (k + 1))) else 0) < 1000 := by split; exact gn_1000 hS _; decide
                      refine r_max (q := 109) (v := nI ((Mx (27 + (k + 1))) 3 + max (bmx (Mx 6) (Mx 3 3) k (Mx (27 + (k + 1))) t) ((if t = 2 then gn (Mx 6) (Mx (27 + (k + 1))) else 0) + bst (Mx 6) (Mx 3 3) k (tk (Mx 6) (Mx (27 + (k + 1))) t)))) X (by rw [Nat.add_assoc, k_max (by omega) (by omega), k_maxadd]) km_RX1_58 ⟨Nat.zero_le _, Nat.zero_le _⟩ (by omega) (Nat.le_of_ble_eq_true rfl) dX1_mostBelow_106 rfl ?_
                      refine r_istore (q := 111) (i := 4) X (Nat.le_of_ble_eq_true rfl) dX1_mostBelow_109 rfl ?_
                      refine r_iinc (q := 114) (i := 5) (x := nI (t)) (v := nI (t + 1)) X rfl (Nat.le_of_ble_eq_true rfl) (kinc 1 rfl) dX1_mostBelow_111 rfl ?_
                      refine r_goto (tgt := 59) X (by decide) dX1_mostBelow_114 ?_
                      have eb : bmx (Mx 6) (Mx 3 3) k (Mx (27 + (k + 1))) (t + 1) = max (bmx (Mx 6) (Mx 3 3) k (Mx (27 + (k + 1))) t) ((if t = 2 then gn (Mx 6) (Mx (27 + (k + 1))) else 0) + bst (Mx 6) (Mx 3 3) k (tk (Mx 6) (Mx (27 + (k + 1))) t)) := bm_y (by omega)
                      refine r_pl [(0, .ref (base + 3)), (1, .ref (base + 26)), (2, .int (nI (k + 1))), (3, .ref (base + (27 + (k + 1)))), (4, .int (nI ((Mx (27 + (k + 1))) 3 + bmx (Mx 6) (Mx 3 3) k (Mx (27 + (k + 1))) (t + 1)))), (5, .int (nI (t + 1)))] ⟨rfl, rfl, rfl, rfl, by rw [eb]; rfl, rfl, trivial⟩ ?_
                      exact ih2 (t + 1) M1 (by omega) (by omega) (fun a ha => (hfr2 a (by omega)).trans ((sr_o (by omega)).trans (hfr a ha)))
              refine r_pl [(0, .ref (base + 3)), (1, .ref (base + 26)), (2, .int (nI (k + 1))), (3, .ref (base + (27 + (k + 1)))), (4, .int (nI ((Mx (27 + (k + 1))) 3 + bmx (Mx 6) (Mx 3 3) k (Mx (27 + (k + 1))) (0)))), (5, .int (nI (0)))] ⟨rfl, rfl, rfl, rfl, rfl, rfl, trivial⟩ ?_
              exact lp 5 0 Mx (by omega) (by omega) (fun a _ => rfl)
            · replace c36 : (k + 1) = 1 := (kI_eq (by omega) (by omega)).mp c36
              refine r_aload_n (q := 40) (i := 3) (j := 3) (x := base + (27 + (k + 1))) X rfl rfl dX1_mostBelow_39 rfl ?_
              refine r_getf (q := 43) (i := 27 + (k + 1)) (v := .int (nI (Mx (27 + (k + 1)) 3))) X fk_X1_34 (kh_lev (by omega)) rfl rfl dX1_mostBelow_40 rfl ?_
              refine r_aload_n (q := 44) (i := 3) (j := 3) (x := base + (27 + (k + 1))) X rfl rfl dX1_mostBelow_43 rfl ?_
              refine r_aload_n (q := 45) (i := 0) (j := 0) (x := base + 3) X rfl rfl dX1_mostBelow_44 rfl ?_
              refine r_callVi (q := 48) X (c_gain K.2.1 G base Mx Lx (27 + (k + 1)) (kh_lev (by omega)) hro.1 (by have := hro.2.2.2.1; omega) (by have := hro.2.2.2.2.1; omega) (by have := hro.2.2.2.2.2.1; omega) (by have := hro.2.2.2.2.2.2; omega)) (kh_lev (by omega)) rfl ks_RX1_54 (by omega) (by decide) ⟨Nat.zero_le _, Nat.zero_le _⟩ rfl (Nat.le_of_ble_eq_true rfl) dX1_mostBelow_45 rfl (fun r M1 L1 hp => ?_)
              obtain ⟨e1, e2, e3⟩ := hp
              subst e1
              replace e2 := e2.symm
              subst e2
              replace e3 := e3.symm
              subst e3
              refine r_iaddR (q := 49) (x := nI (Mx (27 + (k + 1)) 3)) (y := nI (gn (Mx 6) (Mx (27 + (k + 1))))) (v := nI ((Mx (27 + (k + 1)) 3) + (gn (Mx 6) (Mx (27 + (k + 1)))))) X (nI_add _ _) dX1_mostBelow_48 rfl ?_
              refine r_iret X Y ?_ dX1_mostBelow_49
              obtain rfl : k = 0 := by omega
              exact ⟨by rw [bst_1 (by omega)], fun a _ => rfl, rfl⟩
          · replace c26 : (cn (Mx 3 3) (Mx (27 + (k + 1))) 2) = 0 := (kI_eq0 (by omega)).mp c26
            refine r_aload_n (q := 30) (i := 3) (j := 3) (x := base + (27 + (k + 1))) X rfl rfl dX1_mostBelow_29 rfl ?_
            refine r_getf (q := 33) (i := 27 + (k + 1)) (v := .int (nI (Mx (27 + (k + 1)) 3))) X fk_X1_34 (kh_lev (by omega)) rfl rfl dX1_mostBelow_30 rfl ?_
            refine r_iret X Y ?_ dX1_mostBelow_33
            exact ⟨by rw [bst_nolook hro (by omega)]; try rfl, fun a _ => rfl, rfl⟩
      · replace c7 : ¬ (k + 1) < 7 := fun h => c7 ((nI_ltI (by omega) (by omega)).mpr h)
        exfalso; omega
