/-! THE TWO ROWS: of 7 (the class's) and of 12 (the reference's) -/
def smr (x y : Nat → Nat) : Prop := (∀ k, k < 6 → y k = x k) ∧ ∀ h, h < 6 → y (6 + h) = x 6 >>> (3 * h) &&& 7
/-- what holes show, told by hours up to six, is what the reference reckons -/
def smS (S : Nat → Nat) (M : ks_M) (n : Nat) : Prop := ∀ h, h < n → ∀ t, t < 6 → S (h * 6 + t) = shw (M 46 h) (M 47 (3 * h + t % 3)) t
theorem up1_o {x : Nat → Nat} {k n b : Nat} (h : b ≠ k) : up1 x k n b = x b := if_neg h
theorem up1_s (x : Nat → Nat) (k n : Nat) : up1 x k n k = n := if_pos rfl
theorem shw_mod (s v t : Nat) : shw s v (t % 6) = shw s v t := by
  unfold shw
  rw [show t % 6 % 2 = t % 2 by omega]
theorem sm_S {S : Nat → Nat} {M : ks_M} {n : Nat} (h : smS S M n) {a : Nat} (ha : a < n) (t : Nat) : S (a * 6 + t % 6) = shw (M 46 a) (M 47 (3 * a + t % 3)) t := by
  rw [h a ha (t % 6) (Nat.mod_lt _ (by decide)), shw_mod, show t % 6 % 3 = t % 3 by omega]
theorem sm_open : ∀ h, h < 6 → ∀ a, a < 64 → ∀ b, b < 64 → (((a &&& (4294967295 - b)) >>> h) &&& 1 = 0 ↔ ¬ (hsb a h = 1 ∧ hsb b h = 0)) := by decide +kernel
theorem sm_sg {S : Nat → Nat} {M : ks_M} {n : Nat} {x y : Nat → Nat} (hS : smS S M n) (h : smr x y) (h4 : x 4 < 64) (h5 : x 5 < 64) {a : Nat} (ha : a < n) (ha6 : a < 6) (t : Nat) : sg7 M y a t = sgv S x a t := by
  have e := sm_open a ha6 (x 4) h4 (x 5) h5
  unfold sg7 sgv
  rw [h.1 4 (by decide), h.1 5 (by decide), sm_S hS ha t]
  by_cases c : ((x 4 &&& (4294967295 - x 5)) >>> a) &&& 1 = 0
  · rw [if_pos c]
    have c2 := e.mp c
    by_cases c3 : hsb (x 4) a = 1
    · by_cases c4 : hsb (x 5) a = 0
      · exact absurd ⟨c3, c4⟩ c2
      · rw [if_pos c3, if_neg c4]
    · rw [if_neg c3]
  · rw [if_neg c]
    have c2 := Decidable.not_not.mp (fun h => c (e.mpr h))
    rw [if_pos c2.1, if_pos c2.2]
theorem sm_cn {n t : Nat} {x y : Nat → Nat} (h : smr x y) (h0 : x 0 < n ∨ x 0 = 0) (ht : t < 4) : cn7 n y t = cn n x t := by
  unfold cn7 cn
  rw [h.1 0 (by decide), h.1 1 (by decide)]
  rcases (show t = 0 ∨ t = 1 ∨ t = 2 ∨ t = 3 by omega) with rfl | rfl | rfl | rfl
  · rfl
  · rfl
  · show (if 0 < n ∧ 0 < x 1 then 1 else 0) = (if x 0 < n ∧ 0 < x 1 then 1 else 0)
    by_cases c : 0 < n ∧ 0 < x 1
    · rw [if_pos c, if_pos (by omega)]
    · rw [if_neg c, if_neg (by omega)]
  · rfl
theorem cn_two {n : Nat} {x : Nat → Nat} (h : cn n x 2 = 1) : x 0 < n ∧ 0 < x 1 := by
  unfold cn at h
  rw [if_neg (by decide), if_neg (by decide), if_pos rfl] at h
  split at h
  · assumption
  · cases h
theorem an0 (m k : Nat) : m &&& 1 <<< k = 0 ↔ m.testBit k = false := by
  constructor
  · intro h
    have h2 := congrArg (fun v => Nat.testBit v k) h
    simpa [Nat.testBit_and, Nat.one_shiftLeft, Nat.testBit_two_pow] using h2
  · intro h
    apply Nat.eq_of_testBit_eq; intro i
    simp only [Nat.testBit_and, Nat.one_shiftLeft, Nat.testBit_two_pow, Nat.zero_testBit]
    by_cases e : k = i
    · subst e; simp [h]
    · simp [e]
theorem tb7 (i : Nat) : Nat.testBit 7 i = decide (i < 3) := by
  have := Nat.testBit_two_pow_sub_one 3 i
  exact this
theorem sm_bit {x y : Nat → Nat} (h : smr x y) (h0 : x 0 < 6) : (y (6 + y 0) &&& bt7 y = 0 ↔ x 6 &&& bt x = 0) := by
  unfold bt7 bt
  have hm : x 2 % 3 < 3 := Nat.mod_lt _ (by decide)
  rw [an0, an0, h.1 0 (by decide), h.1 2 (by decide), h.2 _ h0, Nat.testBit_and, Nat.testBit_shiftRight, tb7, Nat.mul_comm (x 0) 3]
  simp [hm]
theorem sm_gn {S : Nat → Nat} {M : ks_M} {n B : Nat} {x y : Nat → Nat} (hS : smS S M n) (h : smr x y) (ok : rok n B x) (hc : x 0 < n) : gn7 M y = gn S x := by
  have e := sm_bit h ok.1
  unfold gn7 gn
  rw [show sg7 M y (y 0) (y 2) = sgv S x (x 0) (x 2) from by rw [h.1 0 (by decide), h.1 2 (by decide)]; exact sm_sg hS h ok.2.2.2.2.1 ok.2.2.2.2.2.1 hc ok.1 _]
  by_cases c : x 6 &&& bt x = 0
  · rw [if_pos c, if_pos (e.mpr c)]
  · rw [if_neg c, if_neg (fun h => c (e.mp h))]
theorem sm_or {m a r h : Nat} (hr : r < 3) : (m ||| 1 <<< (a * 3 + r)) >>> (3 * h) &&& 7 = if h = a then (m >>> (3 * a) &&& 7) ||| 1 <<< r else m >>> (3 * h) &&& 7 := by
  apply Nat.eq_of_testBit_eq; intro i
  by_cases e : h = a
  · subst e
    rw [if_pos rfl]
    simp only [Nat.testBit_and, Nat.testBit_or, Nat.testBit_shiftRight, Nat.one_shiftLeft, Nat.testBit_two_pow, tb7]
    by_cases hi : i < 3
    · have e2 : (h * 3 + r = 3 * h + i) ↔ r = i := by omega
      simp [e2, hi]
    · have e2 : ¬ r = i := by omega
      simp [e2, hi]
  · rw [if_neg e]
    simp only [Nat.testBit_and, Nat.testBit_or, Nat.testBit_shiftRight, Nat.one_shiftLeft, Nat.testBit_two_pow, tb7]
    by_cases hi : i < 3
    · have e2 : ¬ (a * 3 + r = 3 * h + i) := by omega
      simp [e2, hi]
    · simp [hi]
theorem sm_tk {S : Nat → Nat} {M : ks_M} {n B t : Nat} {x y : Nat → Nat} (hS : smS S M n) (h : smr x y) (ok : rok n B x) (hc : cn n x t = 1) (ht : t < 4) : smr (tk S x t) (tk7 M y t) := by
  have hy := h.1
  have hz := h.2
  rcases (show t = 0 ∨ t = 1 ∨ t = 2 ∨ t = 3 by omega) with rfl | rfl | rfl | rfl
  · rw [tk_0, tk7_0]
    refine ⟨fun k hk => ?_, fun q hq => ?_⟩
    · by_cases e2 : k = 2
      · subst e2; rw [up1_s, up1_s, hy 2 (by decide)]
      · rw [up1_o e2, up1_o e2]
        by_cases e0 : k = 0
        · subst e0; rw [up1_s, up1_s, hy 0 (by decide)]
        · rw [up1_o e0, up1_o e0]; exact hy k hk
    · rw [up1_o (by omega), up1_o (by omega)]; exact hz q hq
  · rw [tk_1, tk7_1]
    refine ⟨fun k hk => ?_, fun q hq => ?_⟩
    · by_cases e2 : k = 2
      · subst e2; rw [up1_s, up1_s, hy 2 (by decide)]
      · rw [up1_o e2, up1_o e2]
        by_cases e0 : k = 0
        · subst e0; rw [up1_s, up1_s, hy 0 (by decide)]
        · rw [up1_o e0, up1_o e0]; exact hy k hk
    · rw [up1_o (by omega), up1_o (by omega)]; exact hz q hq
  · have hg := sm_gn hS h ok (cn_two hc).1
    rw [tk_2, tk7_2]
    refine ⟨fun k hk => ?_, fun q hq => ?_⟩
    · by_cases e2 : k = 2
      · subst e2; rw [up1_s, up1_s, hy 2 (by decide)]
      · rw [up1_o e2, up1_o e2, up1_o (show k ≠ 6 by omega)]
        by_cases e3 : k = 3
        · subst e3; rw [up1_s, up1_s, hy 3 (by decide), hg]
        · rw [up1_o e3, up1_o e3]
          by_cases e1 : k = 1
          · subst e1; rw [up1_s, up1_s, hy 1 (by decide)]
          · rw [up1_o e1, up1_o e1, up1_o (by omega)]; exact hy k hk
    · rw [up1_o (show 6 + q ≠ 2 by omega), up1_o (show 6 + q ≠ 3 by omega), up1_o (show 6 + q ≠ 1 by omega)]
      show up1 y (6 + y 0) (y (6 + y 0) ||| bt7 y) (6 + q) = (x 6 ||| 1 <<< (x 0 * 3 + x 2 % 3)) >>> (3 * q) &&& 7
      rw [sm_or (Nat.mod_lt _ (by decide))]
      by_cases e : q = x 0
      · rw [if_pos e, hy 0 (by decide), e, up1_s, hz (x 0) ok.1]
        unfold bt7; rw [hy 2 (by decide)]
      · rw [if_neg e, up1_o (by rw [hy 0 (by decide)]; omega)]; exact hz q hq
  · rw [tk_3, tk7_3]
    refine ⟨fun k hk => ?_, fun q hq => ?_⟩
    · by_cases e2 : k = 2
      · subst e2; rw [up1_s, up1_s, hy 2 (by decide)]
      · rw [up1_o e2, up1_o e2]; exact hy k hk
    · rw [up1_o (by omega)]; exact hz q hq
theorem sm_cp {x y z w : Nat → Nat} (h : smr x y) : smr (cp7 z x) (cp12 w y) := by
  refine ⟨fun k hk => ?_, fun q hq => ?_⟩
  · show (if k < 12 then y k else w k) = (if k < 7 then x k else z k)
    rw [if_pos (by omega), if_pos (by omega)]; exact h.1 k hk
  · show (if 6 + q < 12 then y (6 + q) else w (6 + q)) = x 6 >>> (3 * q) &&& 7
    rw [if_pos (by omega)]; exact h.2 q hq
theorem sm_cpl {x y z : Nat → Nat} (h : smr x y) : smr (cp7 z x) y := ⟨fun k hk => (h.1 k hk).trans (if_pos (show k < 7 by omega)).symm, h.2⟩
theorem sm_cpr {x y w : Nat → Nat} (h : smr x y) : smr x (cp12 w y) := ⟨fun k hk => (if_pos (show k < 12 by omega)).trans (h.1 k hk), fun q hq => (if_pos (show 6 + q < 12 by omega)).trans (h.2 q hq)⟩
theorem sm_u4 {x y : Nat → Nat} (h : smr x y) (v : Nat) : smr (up1 x 4 v) (up1 y 4 v) := by
  refine ⟨fun k hk => ?_, fun q hq => ?_⟩
  · by_cases e : k = 4
    · subst e; rw [up1_s, up1_s]
    · rw [up1_o e, up1_o e]; exact h.1 k hk
  · rw [up1_o (by omega)]; exact h.2 q hq
theorem sm_u5 {x y : Nat → Nat} (h : smr x y) (v : Nat) : smr (up1 x 5 v) (up1 y 5 v) := by
  refine ⟨fun k hk => ?_, fun q hq => ?_⟩
  · by_cases e : k = 5
    · subst e; rw [up1_s, up1_s]
    · rw [up1_o e, up1_o e]; exact h.1 k hk
  · rw [up1_o (by omega)]; exact h.2 q hq
theorem sm_rn {S : Nat → Nat} {M : ks_M} {n B m : Nat} {X Y d : Nat → Nat} (hS : smS S M n) (hn : n ≤ 6) (h : smr X Y) (ok : rok n B X) (hd : ∀ p, p < m → d p < 4) : ∀ k, k ≤ m → (∀ p, p < k → cn n (rn S X d p) (d p) = 1) → smr (rn S X d k) (rn7 M Y d k)
  | 0, _, _ => h
  | k + 1, hk, hc => sm_tk hS (sm_rn hS hn h ok hd k (by omega) (fun p hp => hc p (by omega))) (rn_ok hn hd ok k (by omega) (fun p hp => hc p (by omega))) (hc k (by omega)) (hd k (by omega))
theorem sm_jg {S : Nat → Nat} {M : ks_M} {n B m : Nat} {X Y d : Nat → Nat} (hS : smS S M n) (hn : n ≤ 6) (h : smr X Y) (ok : rok n B X) (hd : ∀ p, p < m → d p < 4) {p : Nat} (hp : p < m) (hall : ∀ q, q < p → jg n S X d q) : jg n S X d p ↔ jg7 n M Y d p := by
  have hs := sm_rn hS hn h ok hd p (by omega) (fun q hq => (hall q hq).1)
  have ho := rn_ok hn hd ok p (by omega) (fun q hq => (hall q hq).1)
  unfold jg jg7
  rw [sm_cn hs ho.2.1 (hd p hp)]
  constructor
  · rintro ⟨h1, h2⟩
    refine ⟨h1, fun h3 => h2 ⟨h3.1, ?_⟩⟩
    rw [h3.1] at h1
    rw [← sm_gn hS hs ho (cn_two h1).1]; exact h3.2
  · rintro ⟨h1, h2⟩
    refine ⟨h1, fun h3 => h2 ⟨h3.1, ?_⟩⟩
    rw [h3.1] at h1
    rw [sm_gn hS hs ho (cn_two h1).1]; exact h3.2
theorem sm_pr {S : Nat → Nat} {M : ks_M} {n B kd : Nat} {x y : Nat → Nat} (hS : smS S M n) (h : smr x y) (ok : rok n B x) (hk : kd < 9) : smr (pr S n x kd) (pr7 M n y kd) := by
  unfold pr pr7
  by_cases c : kd < 3
  · rw [if_pos c, if_pos c, sm_cn h ok.2.1 (by omega)]
    by_cases c2 : cn n x kd = 1
    · rw [if_pos c2]; exact sm_tk hS h ok c2 (by omega)
    · rw [if_neg c2]; exact sm_tk hS h ok (cn_3 n x) (by decide)
  · rw [if_neg c, if_neg c]
    by_cases c2 : kd - 3 < n
    · rw [if_pos c2, if_pos c2, h.1 4 (by decide)]; exact sm_u4 h _
    · rw [if_neg c2, if_neg c2]; exact h
theorem sm_prn {S : Nat → Nat} {M : ks_M} {n B : Nat} {s : Int64} {X Y : Nat → Nat} (hS : smS S M n) (hn : n ≤ 6) (h : smr X Y) (ok : rok n B X) : ∀ i, smr (prn S n s X i) (prn7 M n s Y i)
  | 0 => h
  | i + 1 => sm_pr hS (sm_prn hS hn h ok i) (prn_ok hn ok i) (kdf_9 _)
theorem rj_c {V W : Nat → Nat} {a b : Nat} (h : V a = W a) : rj V a b = rj W a b := by unfold rj; rw [h]
theorem ctn_c {V W : Nat → Nat} {n a b : Nat} (h : ∀ q, q < n → V q = W q) (ha : a < n) : ctn V n a b = ctn W n a b := by
  unfold ctn
  have e : (∀ q, q < n → rj V q b ≤ rj V a b) ↔ (∀ q, q < n → rj W q b ≤ rj W a b) := by
    constructor
    · intro h2 q hq; have := h2 q hq; rw [rj_c (h q hq), rj_c (h a ha)] at this; exact this
    · intro h2 q hq; have := h2 q hq; rw [← rj_c (h q hq), ← rj_c (h a ha)] at this; exact this
  by_cases c : ∀ q, q < n → rj V q b ≤ rj V a b
  · rw [if_pos c, if_pos (e.mp c)]
  · rw [if_neg c, if_neg (fun h2 => c (e.mpr h2))]
theorem rst_c {V W : Nat → Nat} {n a b : Nat} (h : ∀ q, q < n → V q = W q) (ha : a < n) (hb : b < n) (s : Nat × Nat) : rst V n a b s = rst W n a b s := by
  unfold rst rq
  rw [ctn_c h ha, ctn_c h hb]
theorem rr1_c {V W : Nat → Nat} {n a : Nat} (h : ∀ q, q < n → V q = W q) (ha : a < n) (s : Nat × Nat) : ∀ b, b ≤ n → rr1 V n a b s = rr1 W n a b s
  | 0, _ => rfl
  | b + 1, hb => by
    show rst V n a b (rr1 V n a b s) = rst W n a b (rr1 W n a b s)
    rw [rr1_c h ha s b (by omega), rst_c h ha (by omega)]
theorem rr2_c {V W : Nat → Nat} {n : Nat} (h : ∀ q, q < n → V q = W q) : ∀ a, a ≤ n → rr2 V n a = rr2 W n a
  | 0, _ => rfl
  | a + 1, ha => by
    show rr1 V n a n (rr2 V n a) = rr1 W n a n (rr2 W n a)
    rw [rr2_c h a (by omega), rr1_c h (by omega) _ n (Nat.le_refl _)]
