/-! THE SEARCH of the class: bestRow -/
def ftn (S : Nat → Nat) (n m : Nat) (x : Nat → Nat) (g : Nat) : Nat := if cn n x 0 = 1 ∧ tk S x 0 3 + bst S n m (tk S x 0) = g then 0 else if cn n x 1 = 1 ∧ tk S x 1 3 + bst S n m (tk S x 1) = g then 1 else if cn n x 2 = 1 ∧ tk S x 2 3 + bst S n m (tk S x 2) = g then 2 else 3
def gro (S : Nat → Nat) (n g : Nat) : Nat → (Nat → Nat) → Nat → Nat
  | 0, _, a => a
  | q + 1, x, a => gro S n g q (tk S x (ftn S n q x g)) (a * 10 + ftn S n q x g)
theorem gd_step {S : Nat → Nat} {n m g t : Nat} {x : Nat → Nat} (hx : x 3 + bst S n (m + 1) x = g) (ht : t ≤ 3) (h1 : t < 3 → gd S n m x g t) (h2 : ∀ s, s < t → ¬ gd S n m x g s) : tk S x t 3 + bst S n m (tk S x t) = g ∧ ftn S n m x g = t := by
  constructor
  · by_cases h3 : t < 3
    · exact (h1 h3).2
    · obtain rfl : t = 3 := by omega
      have ks : ∀ s, s < 3 → bm S n m x s = 0 ∨ x 3 + bm S n m x s ≠ g := by
        intro s hs
        unfold bm
        split
        · next hc =>
          right; intro e9
          exact h2 s hs ⟨hc, by rw [tk_3v S x (by omega)]; omega⟩
        · left; rfl
      have k3 : bm S n m x 3 = bst S n m (tk S x 3) := by
        unfold bm; rw [if_pos (cn_3 n x), if_neg (by decide), Nat.zero_add]
      have e : bst S n (m + 1) x = max (max (max (max 0 (bm S n m x 0)) (bm S n m x 1)) (bm S n m x 2)) (bm S n m x 3) := bst_bmx S n m x
      have e3 : tk S x 3 3 = x 3 + 0 := tk_3v S x (by decide)
      have k0 := ks 0 (by decide)
      have k1 := ks 1 (by decide)
      have k2 := ks 2 (by decide)
      omega
  · unfold ftn
    rcases (show t = 0 ∨ t = 1 ∨ t = 2 ∨ t = 3 by omega) with rfl | rfl | rfl | rfl
    · exact if_pos (h1 (by decide))
    · exact (if_neg (h2 0 (by decide))).trans (if_pos (h1 (by decide)))
    · exact (if_neg (h2 0 (by decide))).trans ((if_neg (h2 1 (by decide))).trans (if_pos (h1 (by decide))))
    · exact (if_neg (h2 0 (by decide))).trans ((if_neg (h2 1 (by decide))).trans (if_neg (h2 2 (by decide))))
theorem ftn_al {S : Nat → Nat} {n m g : Nat} {x y : Nat → Nat} (h : al7 x y) : ftn S n m x g = ftn S n m y g := by
  unfold ftn
  rw [cn_al (t := 0) h, cn_al (t := 1) h, cn_al (t := 2) h, tk_al (S := S) (t := 0) h 3 (by decide), tk_al (S := S) (t := 1) h 3 (by decide), tk_al (S := S) (t := 2) h 3 (by decide), bst_al m (tk_al (S := S) (t := 0) h), bst_al m (tk_al (S := S) (t := 1) h), bst_al m (tk_al (S := S) (t := 2) h)]
theorem gro_al {S : Nat → Nat} {n g : Nat} : ∀ (q : Nat) {x y : Nat → Nat} (a : Nat), al7 x y → gro S n g q x a = gro S n g q y a
  | 0, _, _, _, _ => rfl
  | q + 1, x, y, a, h => by
    unfold gro
    rw [ftn_al h]
    exact gro_al q _ (tk_al h)
theorem kq_lt {q : Nat} (h : q ≤ 6) : nI q - nI 1 < 0 ↔ q = 0 := by
  rcases (show q = 0 ∨ q = 1 ∨ q = 2 ∨ q = 3 ∨ q = 4 ∨ q = 5 ∨ q = 6 by omega) with rfl | rfl | rfl | rfl | rfl | rfl | rfl <;> decide
theorem kq_dec (a : Int32) : a + Int32.ofInt (-1) = a - nI 1 := by
  rw [Int32.sub_eq_add_neg]; rfl
set_option maxHeartbeats 8000000 in
theorem c_bestRow (l : Launch) (G : ks_G) (base : Nat) (Mx : ks_M) (Lx : ks_L) (i n B : Nat) (hi : i < 27) (hs : SH[i]? = some kSt) (hn6 : n ≤ 6) (hB : B + n < 200000) (hn : Mx 3 3 ≤ 6) (hS : ∀ q, Mx 6 q < 1000) (hro : rok (Mx 3 3) B (Mx i)) (hJ : Mx i 3 + 1000 * n < 2000000000) : KI l G base (n + 5) yX1_bestRow cX1_bestRow 8 .int [.ref (base + 25), .ref (base + 3), .ref (base + i), .int (nI (n))] SH Mx Lx (fun rr M1 L1 => rr = nI (gro (Mx 6) (Mx 3 3) (Mx i 3 + bst (Mx 6) (Mx 3 3) n (Mx i)) n (Mx i) 1) ∧ (∀ a, (a < 27 ∨ 35 ≤ a) → M1 a = Mx a) ∧ L1 = Lx) := by
  refine k_meti (by decide) (Nat.le_of_ble_eq_true rfl) (fun K hK X Y => ?_)
  subst hK
  refine r_pl [(0, .ref (base + 25)), (1, .ref (base + 3)), (2, .ref (base + i)), (3, .int (nI (n)))] ⟨rfl, rfl, rfl, rfl, trivial⟩ ?_
  have hbs0 := bst_le hS (Mx 3 3) n (Mx i)
  refine r_aload_n (q := 1) (i := 2) (j := 2) (x := base + i) X rfl rfl dX1_bestRow_0 rfl ?_
  refine r_getf (q := 4) (i := i) (v := .int (nI (Mx i 3))) X fk_X1_34 hs rfl rfl dX1_bestRow_1 rfl ?_
  refine r_aload_n (q := 5) (i := 0) (j := 0) (x := base + 25) X rfl rfl dX1_bestRow_4 rfl ?_
  refine r_aload_n (q := 6) (i := 1) (j := 1) (x := base + 3) X rfl rfl dX1_bestRow_5 rfl ?_
  refine r_aload_n (q := 7) (i := 2) (j := 2) (x := base + i) X rfl rfl dX1_bestRow_6 rfl ?_
  refine r_iload_n (q := 8) (i := 3) (j := 3) (x := nI (n)) X rfl rfl dX1_bestRow_7 rfl ?_
  refine r_callVi (q := 11) X (c_most K.2.1 G base Mx Lx i n B (Or.inl hi) hs hn6 hB hn hS hro hJ) kh_25 rfl ks_RX1_38 (by omega) (by decide) ⟨Nat.zero_le _, Nat.zero_le _⟩ rfl (Nat.le_of_ble_eq_true rfl) dX1_bestRow_8 rfl (fun r M1 L1 hp => ?_)
  obtain ⟨e1, hfr0, e3⟩ := hp
  subst e1
  replace e3 := e3.symm
  subst e3
  refine r_iaddR (q := 12) (x := nI (Mx i 3)) (y := nI (bst (Mx 6) (Mx 3 3) n (Mx i))) (v := nI ((Mx i 3) + (bst (Mx 6) (Mx 3 3) n (Mx i)))) X (nI_add _ _) dX1_bestRow_11 rfl ?_
  refine r_istore (q := 14) (i := 4) X (Nat.le_of_ble_eq_true rfl) dX1_bestRow_12 rfl ?_
  refine r_iconst (q := 15) (v := nI 1) X kc_1 dX1_bestRow_14 rfl ?_
  refine r_istore (q := 17) (i := 5) X (Nat.le_of_ble_eq_true rfl) dX1_bestRow_15 rfl ?_
  refine r_aload_n (q := 18) (i := 0) (j := 0) (x := base + 25) X rfl rfl dX1_bestRow_17 rfl ?_
  refine r_getf (q := 21) (i := 25) (v := .ref (base + 34)) X fk_X1_22 kh_25 rfl rfl dX1_bestRow_18 rfl ?_
  refine r_aload_n (q := 22) (i := 2) (j := 2) (x := base + i) X rfl rfl dX1_bestRow_21 rfl ?_
  refine r_callVv (q := 25) X (c_copy K.2.1 G base M1 Lx 34 kh_34 i hs (by omega)) kh_34 rfl ks_RX1_26 (by omega) (by decide) ⟨Nat.zero_le _, Nat.zero_le _⟩ rfl (Nat.le_of_ble_eq_true rfl) dX1_bestRow_22 rfl (fun M1 L1 hp => ?_)
  rw [hfr0 i (Or.inl hi)] at hp
  obtain ⟨e2, e3⟩ := hp
  replace e2 := e2.symm
  subst e2
  replace e3 := e3.symm
  subst e3
  refine r_iload_n (q := 26) (i := 3) (j := 3) (x := nI (n)) X rfl rfl dX1_bestRow_25 rfl ?_
  refine r_iconst (q := 27) (v := nI 1) X kc_1 dX1_bestRow_26 rfl ?_
  refine r_isubR (q := 28) (x := nI (n)) (y := nI 1) (v := (nI (n)) - (nI 1)) X rfl dX1_bestRow_27 rfl ?_
  refine r_istore (q := 30) (i := 6) X (Nat.le_of_ble_eq_true rfl) dX1_bestRow_28 rfl ?_
  have lp : ∀ (fuel : Nat) (q : Nat) (acc : Nat) (Mv : ks_M), q < fuel → (q ≤ n) → ((∀ a, (a < 27 ∨ 35 ≤ a) → Mv a = Mx a)) → (rok (Mx 3 3) (B + (n - q)) (Mv 34)) → (Mv 34 3 + 1000 * q < 2000000000) → (Mv 34 3 + bst (Mx 6) (Mx 3 3) q (Mv 34) = (Mx i 3 + bst (Mx 6) (Mx 3 3) n (Mx i))) → (gro (Mx 6) (Mx 3 3) (Mx i 3 + bst (Mx 6) (Mx 3 3) n (Mx i)) q (Mv 34) acc = gro (Mx 6) (Mx 3 3) (Mx i 3 + bst (Mx 6) (Mx 3 3) n (Mx i)) n (Mx i) 1) → RN K G base 8 0 0 SH Mv Lx 30 [(0, .ref (base + 25)), (1, .ref (base + 3)), (2, .ref (base + i)), (3, .int (nI (n))), (4, .int (nI ((Mx i 3 + bst (Mx 6) (Mx 3 3) n (Mx i))))), (5, .int (nI (acc))), (6, .int (nI (q) - nI 1))] [] := by
    intro fuel
    induction fuel with
    | zero => intro q acc Mv hfu; exact absurd hfu (Nat.not_lt_zero _)
    | succ fuel ih =>
      intro q acc Mv hfu hqn hfr hrv hjv hgv hrow
      refine r_iload (q := 32) (i := 6) (x := nI (q) - nI 1) X rfl dX1_bestRow_30 rfl ?_
      refine r_if_lt (q := 35) (tgt := 73) X (by decide) dX1_bestRow_32 rfl (fun c32 => ?_) (fun c32 => ?_)
      · skip
        have hq0 : q = 0 := (kq_lt (by omega)).mp c32
        subst hq0
        refine r_iload (q := 75) (i := 5) (x := nI (acc)) X rfl dX1_bestRow_73 rfl ?_
        refine r_iret X Y ?_ dX1_bestRow_75
        exact ⟨by rw [← hrow]; rfl, hfr, rfl⟩
      · skip
        have hq1 : q ≠ 0 := fun h => c32 ((kq_lt (by omega)).mpr h)
        obtain ⟨p, rfl⟩ : ∃ p, q = p + 1 := ⟨q - 1, by omega⟩
        refine r_pl [(0, .ref (base + 25)), (1, .ref (base + 3)), (2, .ref (base + i)), (3, .int (nI (n))), (4, .int (nI ((Mx i 3 + bst (Mx 6) (Mx 3 3) n (Mx i))))), (5, .int (nI (acc))), (6, .int (nI (p)))] ⟨rfl, rfl, rfl, rfl, rfl, rfl, by rw [show nI p = nI (p + 1) - nI 1 from (by rw [pk_sub (by omega), Nat.add_sub_cancel])]; rfl, trivial⟩ ?_
        refine r_aload_n (q := 36) (i := 0) (j := 0) (x := base + 25) X rfl rfl dX1_bestRow_35 rfl ?_
        refine r_aload_n (q := 37) (i := 1) (j := 1) (x := base + 3) X rfl rfl dX1_bestRow_36 rfl ?_
        refine r_iload (q := 39) (i := 4) (x := nI ((Mx i 3 + bst (Mx 6) (Mx 3 3) n (Mx i)))) X rfl dX1_bestRow_37 rfl ?_
        refine r_iload (q := 41) (i := 6) (x := nI (p)) X rfl dX1_bestRow_39 rfl ?_
        refine r_callVi (q := 44) X (c_firstTurnTo K.2.1 G base Mv Lx (Mx i 3 + bst (Mx 6) (Mx 3 3) n (Mx i)) p (B + (n - (p + 1))) (by omega) (by omega) (by omega) (by rw [(hfr 3 (Or.inl (by decide)))]; exact hn) (fun q => by rw [(hfr 6 (Or.inl (by decide)))]; exact hS q) (by rw [(hfr 3 (Or.inl (by decide)))]; exact hrv) (by omega)) kh_25 rfl ks_RX1_42 (by omega) (by decide) ⟨Nat.zero_le _, Nat.zero_le _⟩ rfl (Nat.le_of_ble_eq_true rfl) dX1_bestRow_41 rfl (fun r M1 L1 hp => ?_)
        rw [(hfr 3 (Or.inl (by decide))), (hfr 6 (Or.inl (by decide)))] at hp
        obtain ⟨t, e1, ht3, hgd, hno, hfr2, e3⟩ := hp
        subst e1
        replace e3 := e3.symm
        subst e3
        have e34 : M1 34 = Mv 34 := hfr2 34 (Or.inr (by decide))
        have e6 : M1 6 = Mx 6 := (hfr2 6 (Or.inl (by decide))).trans (hfr 6 (Or.inl (by decide)))
        obtain ⟨hst, hft⟩ := gd_step hgv ht3 hgd hno
        refine r_istore (q := 46) (i := 7) X (Nat.le_of_ble_eq_true rfl) dX1_bestRow_44 rfl ?_
        refine r_aload_n (q := 47) (i := 0) (j := 0) (x := base + 25) X rfl rfl dX1_bestRow_46 rfl ?_
        refine r_getf (q := 50) (i := 25) (v := .ref (base + 34)) X fk_X1_22 kh_25 rfl rfl dX1_bestRow_47 rfl ?_
        refine r_aload_n (q := 51) (i := 1) (j := 1) (x := base + 3) X rfl rfl dX1_bestRow_50 rfl ?_
        refine r_iload (q := 53) (i := 7) (x := nI (t)) X rfl dX1_bestRow_51 rfl ?_
        refine r_callVi (q := 56) X (c_take K.2.1 G base M1 Lx 34 kh_34 t (by omega) (by rw [e34]; exact hrv.1) (by rw [e34]; have h9 := hrv.2.2.2.1; omega) (by rw [e34]; have h9 := hrv.2.2.2.2.1; omega) (by rw [e34]; have h9 := hrv.2.2.2.2.2.1; omega) (by rw [e34]; have h9 := hrv.2.2.2.2.2.2; omega) (fun h => by rw [e34]; have h9 := (hgd (by omega)).1; rw [h] at h9; exact cn_0 h9) (fun h => by rw [e34]; have h9 := (hgd (by omega)).1; rw [h] at h9; exact cn_look h9)) kh_34 rfl ks_RX1_46 (by omega) (by decide) ⟨Nat.zero_le _, Nat.zero_le _⟩ rfl (Nat.le_of_ble_eq_true rfl) dX1_bestRow_53 rfl (fun r M1 L1 hp => ?_)
        rw [e34, e6] at hp
        obtain ⟨e1, e2, e3⟩ := hp
        subst e1
        replace e2 := e2.symm
        subst e2
        replace e3 := e3.symm
        subst e3
        refine r_pop (q := 57) X rfl dX1_bestRow_56 rfl ?_
        refine r_iload (q := 59) (i := 5) (x := nI (acc)) X rfl dX1_bestRow_57 rfl ?_
        refine r_bipush (q := 61) (v := nI 10) X kb_10 dX1_bestRow_59 rfl ?_
        refine r_imulR (q := 62) (x := nI (acc)) (y := nI 10) (v := nI (acc * 10)) X (pk_mul _ _) dX1_bestRow_61 rfl ?_
        refine r_iload (q := 64) (i := 7) (x := nI (t)) X rfl dX1_bestRow_62 rfl ?_
        refine r_iaddR (q := 65) (x := nI (acc * 10)) (y := nI (t)) (v := nI ((acc * 10) + t)) X (nI_add _ _) dX1_bestRow_64 rfl ?_
        refine r_istore (q := 67) (i := 5) X (Nat.le_of_ble_eq_true rfl) dX1_bestRow_65 rfl ?_
        refine r_iinc (q := 70) (i := 6) (x := nI (p)) (v := nI (p) + Int32.ofInt (-1)) X rfl (Nat.le_of_ble_eq_true rfl) rfl dX1_bestRow_67 rfl ?_
        refine r_goto (tgt := 30) X (by decide) dX1_bestRow_70 ?_
        refine r_pl [(0, .ref (base + 25)), (1, .ref (base + 3)), (2, .ref (base + i)), (3, .int (nI (n))), (4, .int (nI ((Mx i 3 + bst (Mx 6) (Mx 3 3) n (Mx i))))), (5, .int (nI (acc * 10 + t))), (6, .int (nI (p) - nI 1))] ⟨rfl, rfl, rfl, rfl, rfl, rfl, by rw [← kq_dec]; rfl, trivial⟩ ?_
        have h8 := gn_1000 hS (Mv 34)
        have hv3 := tk_3v (Mx 6) (Mv 34) (show t < 4 by omega)
        have hcn1 : cn (Mx 3 3) (Mv 34) t = 1 := by by_cases h : t < 3; exact (hgd h).1; obtain rfl : t = 3 := (by omega); exact cn_3 _ _
        refine ih p (acc * 10 + t) (sr M1 34 (tk (Mx 6) (Mv 34) t)) (by omega) (by omega) (fun a ha => (sr_o (by omega)).trans ((hfr2 a (by omega)).trans (hfr a ha))) ?_ ?_ ?_ ?_
        · rw [sr_s, show B + (n - p) = B + (n - (p + 1)) + 1 by omega]; exact tk_ok hn hrv hcn1 (by omega)
        · rw [sr_s, hv3]; split <;> omega
        · rw [sr_s]; exact hst
        · rw [sr_s, ← hrow]; show _ = gro _ _ _ p (tk (Mx 6) (Mv 34) (ftn _ _ p (Mv 34) _)) (acc * 10 + ftn _ _ p (Mv 34) _); rw [hft]
  refine r_pl [(0, .ref (base + 25)), (1, .ref (base + 3)), (2, .ref (base + i)), (3, .int (nI (n))), (4, .int (nI ((Mx i 3 + bst (Mx 6) (Mx 3 3) n (Mx i))))), (5, .int (nI (1))), (6, .int (nI (n) - nI 1))] ⟨rfl, rfl, rfl, rfl, rfl, rfl, rfl, trivial⟩ ?_
  refine lp (n + 1) n 1 (sr M1 34 (cp7 (M1 34) (Mx i))) (by omega) (Nat.le_refl _) (fun a ha => (sr_o (by omega)).trans (hfr0 a (by omega))) ?_ ?_ ?_ ?_
  · rw [sr_s, Nat.sub_self]; exact cp7_ok hro
  · rw [sr_s]; exact hJ
  · rw [sr_s, bst_al n (cp7_al (M1 34) (Mx i))]; rfl
  · rw [sr_s]; exact gro_al n 1 (cp7_al (M1 34) (Mx i))
