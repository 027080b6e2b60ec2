/-! THE INVARIANT between the class's objects (0 .. 43) and the reference's (44 .. 60) -/
def tx (len : Nat) (T T' : Nat → Nat) (len' : Nat) : Prop := len' = len ∧ len ≤ 48 ∧ ∀ k, k < len → T' k = T k ∧ T k < 256
def sp (n n' : Nat) (s4 s5 s6 a46 a47 : Nat → Nat) : Prop := n' = n ∧ n ≤ 6 ∧ (∀ k, a46 k < 4) ∧ (∀ k, a47 k < 10) ∧ (∀ k, s6 k < 1000) ∧ (∀ h, h < n → s4 h = a46 h) ∧ (∀ h, h < n → ∀ j, j < 3 → s5 (h * 3 + j) = a47 (3 * h + j)) ∧ ∀ h, h < n → ∀ t, t < 6 → s6 (h * 6 + t) = shw (a46 h) (a47 (3 * h + t % 3)) t
def pp (n c : Nat) (x y : Nat → Nat) : Prop := smr x y ∧ rok n c x ∧ x 3 ≤ 1000 * c
def ap (n c cnt cnt' first : Nat) (rows : Nat → Nat → Nat) (book : Nat → Nat) : Prop := cnt' = cnt ∧ cnt ≤ 14 ∧ first < 14 ∧ ∀ k, k < cnt → pp n c (rows ((first + k) % 14)) (fun j => book (12 * k + j))
def kp (n c bits : Nat) (rows : Nat → Nat → Nat) (book fl : Nat → Nat) : Prop := bits < 4 ∧ (∀ j, fl j < 2) ∧ ∀ s, s < 2 → (fl s = 0 ∧ bits >>> s &&& 1 = 0) ∨ (fl s = 1 ∧ bits >>> s &&& 1 = 1 ∧ pp n c (rows s) (fun j => book (12 * s + j)))
def ep (cnt cnt' : Nat) (h v t g h' v' t' g' : Nat → Nat) : Prop := cnt' = cnt ∧ cnt ≤ 6 ∧ (h' = h ∧ v' = v ∧ t' = t ∧ g' = g) ∧ (∀ i, h i < 1000) ∧ (∀ i, v i < 1000) ∧ (∀ i, t i < 1000) ∧ ∀ i, g i < 1000
def INV (c : Nat) (M : ks_M) (L : ks_L) : Prop :=
  M 44 0 = 0 ∧ tx (M 1 1) (M 2) (M 45) (M 44 2) ∧ sp (M 3 3) (M 44 4) (M 4) (M 5) (M 6) (M 46) (M 47) ∧ pp (M 3 3) c (M 7) (M 49) ∧ (∀ h, 6 ≤ h → M 49 (6 + h) < 8) ∧ ap (M 3 3) c (M 9 2) (M 44 14) (M 9 1) (fun k => M (11 + k)) (M 52) ∧ kp (M 3 3) c (M 0 9) (fun s => M (41 + s)) (M 53) (M 54) ∧ ep (M 35 4) (M 44 17) (M 36) (M 37) (M 38) (M 39) (M 55) (M 56) (M 57) (M 58) ∧ L 44 = L 0
theorem rok_m {n B C : Nat} {x : Nat → Nat} (h : rok n B x) (e : B ≤ C) : rok n C x := ⟨h.1, h.2.1, h.2.2.1, Nat.le_trans h.2.2.2.1 e, h.2.2.2.2⟩
theorem pp_m {n c d : Nat} {x y : Nat → Nat} (h : pp n c x y) (e : c ≤ d) : pp n d x y := ⟨h.1, rok_m h.2.1 e, Nat.le_trans h.2.2 (Nat.mul_le_mul_left _ e)⟩
theorem ap_m {n c d cnt cnt' first : Nat} {rows : Nat → Nat → Nat} {book : Nat → Nat} (h : ap n c cnt cnt' first rows book) (e : c ≤ d) : ap n d cnt cnt' first rows book := ⟨h.1, h.2.1, h.2.2.1, fun k hk => pp_m (h.2.2.2 k hk) e⟩
theorem kp_m {n c d bits : Nat} {rows : Nat → Nat → Nat} {book fl : Nat → Nat} (h : kp n c bits rows book fl) (e : c ≤ d) : kp n d bits rows book fl := ⟨h.1, h.2.1, fun s hs => (h.2.2 s hs).elim Or.inl (fun h => Or.inr ⟨h.1, h.2.1, pp_m h.2.2 e⟩)⟩
theorem pp_y {n c : Nat} {x y z : Nat → Nat} (h : pp n c x y) (e : ∀ j, j < 12 → z j = y j) : pp n c x z :=
  ⟨⟨fun k hk => (e k (by omega)).trans (h.1.1 k hk), fun q hq => (e (6 + q) (by omega)).trans (h.1.2 q hq)⟩, h.2⟩
theorem pp_x {n c : Nat} {x y z : Nat → Nat} (h : pp n c x y) (e : ∀ k, k < 7 → z k = x k) : pp n c z y := by
  obtain ⟨⟨h1, h2⟩, ⟨a0, a1, a2, a3, a4, a5, a6⟩, h3⟩ := h
  have e0 := e 0 (by decide)
  have e1 := e 1 (by decide)
  have e2 := e 2 (by decide)
  have e3 := e 3 (by decide)
  have e4 := e 4 (by decide)
  have e5 := e 5 (by decide)
  have e6 := e 6 (by decide)
  refine ⟨⟨fun k hk => (h1 k hk).trans (e k (by omega)).symm, fun q hq => by rw [e6]; exact h2 q hq⟩, ⟨?_, ?_, ?_, ?_, ?_, ?_, ?_⟩, ?_⟩ <;> omega
theorem pp_cp {n c : Nat} {x y z : Nat → Nat} (h : pp n c x y) : pp n c (cp7 z x) y := pp_x h (fun k hk => if_pos hk)
theorem ap_c {n c cnt cnt' first : Nat} {rows rows2 : Nat → Nat → Nat} {book : Nat → Nat} (h : ap n c cnt cnt' first rows book) (e : ∀ k, k < 14 → rows2 k = rows k) : ap n c cnt cnt' first rows2 book :=
  ⟨h.1, h.2.1, h.2.2.1, fun k hk => by rw [e _ (Nat.mod_lt _ (by decide))]; exact h.2.2.2 k hk⟩
theorem kp_c {n c bits : Nat} {rows rows2 : Nat → Nat → Nat} {book fl : Nat → Nat} (h : kp n c bits rows book fl) (e : ∀ s, s < 2 → rows2 s = rows s) : kp n c bits rows2 book fl :=
  ⟨h.1, h.2.1, fun s hs => by rw [e s hs]; exact h.2.2 s hs⟩
theorem inv_0 : INV 0 M0 L0 := by
  have hz : ∀ k : Nat, 0 >>> k &&& 7 = 0 := fun k => by rw [Nat.zero_shiftRight]; rfl
  refine ⟨rfl, ⟨rfl, Nat.zero_le _, fun k hk => absurd hk (Nat.not_lt_zero _)⟩, ⟨rfl, Nat.zero_le _, fun k => by show 0 < 4; decide, fun k => by show 0 < 10; decide, fun k => by show 0 < 1000; decide, fun h hh => absurd hh (Nat.not_lt_zero _), fun h hh => absurd hh (Nat.not_lt_zero _), fun h hh => absurd hh (Nat.not_lt_zero _)⟩, ⟨⟨fun k hk => rfl, fun q hq => (hz _).symm⟩, ⟨by show 0 < 6; decide, Or.inr rfl, by show 0 < 1000; decide, Nat.le_refl _, by show 0 < 64; decide, by show 0 < 64; decide, by show 0 < 262144; decide⟩, Nat.le_refl _⟩, fun h _ => by show 0 < 8; decide, ⟨rfl, Nat.zero_le _, by show 0 < 14; decide, fun k hk => absurd hk (Nat.not_lt_zero _)⟩, ⟨by show 0 < 4; decide, fun j => by show 0 < 2; decide, fun s hs => Or.inl ⟨rfl, by show 0 >>> s &&& 1 = 0; rw [Nat.zero_shiftRight]; rfl⟩⟩, ⟨rfl, Nat.zero_le _, ⟨rfl, rfl, rfl, rfl⟩, fun i => by show 0 < 1000; decide, fun i => by show 0 < 1000; decide, fun i => by show 0 < 1000; decide, fun i => by show 0 < 1000; decide⟩, rfl⟩
-- what the contracts ask
theorem inv_ok6 {c : Nat} {M : ks_M} {L : ks_L} (I : INV c M L) (hc : c ≤ 100) : okN M := by
  obtain ⟨-, -, ⟨-, i1, -⟩, ⟨-, ⟨i2, -, i3, i4, i5, i6, i7⟩, -⟩, -, ⟨-, i8, i9, -⟩, -⟩ := I
  exact ⟨i1, i2, i3, by omega, i5, i6, i7, i9, i8⟩
theorem inv_0n {c : Nat} {M : ks_M} {L : ks_L} (I : INV c M L) : M 7 0 < M 3 3 ∨ M 7 0 = 0 := I.2.2.2.1.2.1.2.1
theorem inv_n6 {c : Nat} {M : ks_M} {L : ks_L} (I : INV c M L) : M 3 3 ≤ 6 := I.2.2.1.2.1
theorem inv_S {c : Nat} {M : ks_M} {L : ks_L} (I : INV c M L) : ∀ k, M 6 k < 1000 := I.2.2.1.2.2.2.2.1
theorem inv_J {c : Nat} {M : ks_M} {L : ks_L} (I : INV c M L) (hc : c ≤ 100) : M 7 3 < 1000000000 := by
  have := I.2.2.2.1.2.2; omega
def F6 (M M1 : ks_M) (L L1 : ks_L) : Prop := (∀ a, 44 ≤ a → M1 a = M a) ∧ L1 44 = L 44
theorem inv_ok7 {c : Nat} {M M1 : ks_M} {L L1 : ks_L} (I : INV c M L) (hc : c ≤ 100) (hf : F6 M M1 L L1) : okP M1 := by
  have h44 := hf.1 44 (by decide)
  have h46 := hf.1 46 (by decide)
  have h47 := hf.1 47 (by decide)
  have h49 := hf.1 49 (by decide)
  obtain ⟨i0, -, ⟨s0, s1, s2, s3, -⟩, ⟨⟨j0, j1⟩, ⟨i2, -, i3, i4, i5, i6, i7⟩, -⟩, j2, ⟨a0, a1, -⟩, -⟩ := I
  have e0 := j0 0 (by decide)
  have e1 := j0 1 (by decide)
  have e2 := j0 2 (by decide)
  have e4 := j0 4 (by decide)
  have e5 := j0 5 (by decide)
  unfold okP
  rw [h44, h46, h47, h49]
  refine ⟨i0, by omega, by omega, by omega, by omega, by omega, by omega, fun q => ?_, by omega, s2, s3⟩
  by_cases hq : q < 6
  · rw [j1 q hq]; exact Nat.lt_of_le_of_lt Nat.and_le_right (by decide)
  · exact j2 q (by omega)
theorem inv_n7 {c : Nat} {M M1 : ks_M} {L L1 : ks_L} (I : INV c M L) (hf : F6 M M1 L L1) : M1 44 4 = M 3 3 := by
  rw [hf.1 44 (by decide)]; exact I.2.2.1.1
theorem inv_07 {c : Nat} {M M1 : ks_M} {L L1 : ks_L} (I : INV c M L) (hf : F6 M M1 L L1) : M1 49 0 < M1 44 4 ∨ M1 49 0 = 0 := by
  rw [inv_n7 I hf, hf.1 49 (by decide), I.2.2.2.1.1.1 0 (by decide)]; exact inv_0n I
theorem inv_SS {c : Nat} {M M1 : ks_M} {L L1 : ks_L} (I : INV c M L) (hf : F6 M M1 L L1) : smS (M 6) M1 (M1 44 4) := by
  rw [inv_n7 I hf]
  intro h hh t ht
  rw [hf.1 46 (by decide), hf.1 47 (by decide)]
  exact I.2.2.1.2.2.2.2.2.2.2 h hh t ht
theorem inv_sm {c : Nat} {M M1 : ks_M} {L L1 : ks_L} (I : INV c M L) (hf : F6 M M1 L L1) : smr (M 7) (M1 49) := by
  rw [hf.1 49 (by decide)]; exact I.2.2.2.1.1
theorem inv_ro {c : Nat} {M M1 : ks_M} {L L1 : ks_L} (I : INV c M L) (hc : c ≤ 100) (hf : F6 M M1 L L1) : rok (M1 44 4) 100000 (M 7) := by
  rw [inv_n7 I hf]; exact rok_m I.2.2.2.1.2.1 (by omega)
def KPT (a : Nat) : Prop := a < 8 ∨ a = 9 ∨ (11 ≤ a ∧ a < 25) ∨ (35 ≤ a ∧ a < 40) ∨ a = 41 ∨ a = 42 ∨ (45 ≤ a ∧ a < 48) ∨ a = 49 ∨ (52 ≤ a ∧ a < 59)
theorem inv_fr {c : Nat} {M M2 : ks_M} {L L2 : ks_L} (I : INV c M L) (h44 : ∀ k, (k = 0 ∨ k = 2 ∨ k = 4 ∨ k = 14 ∨ k = 17) → M2 44 k = M 44 k) (hf : ∀ a, KPT a → M2 a = M a) (hL : L2 44 = L2 0) : INV (c + 1) M2 L2 := by
  have g : ∀ a, KPT a → M2 a = M a := hf
  unfold KPT at g
  obtain ⟨i0, i1, i2, i3, i4, i5, i6, i7, -⟩ := I
  unfold INV
  rw [h44 0 (by omega), h44 2 (by omega), h44 4 (by omega), h44 14 (by omega), h44 17 (by omega), g 0 (by omega), g 1 (by omega), g 2 (by omega), g 3 (by omega), g 4 (by omega), g 5 (by omega), g 6 (by omega), g 7 (by omega), g 9 (by omega), g 35 (by omega), g 36 (by omega), g 37 (by omega), g 38 (by omega), g 39 (by omega), g 45 (by omega), g 46 (by omega), g 47 (by omega), g 49 (by omega), g 52 (by omega), g 53 (by omega), g 54 (by omega), g 55 (by omega), g 56 (by omega), g 57 (by omega), g 58 (by omega)]
  exact ⟨i0, i1, i2, pp_m i3 (by omega), i4, ap_c (ap_m i5 (by omega)) (fun k hk => g (11 + k) (by omega)), kp_c (kp_m i6 (by omega)) (fun s hs => g (41 + s) (by omega)), i7, hL⟩
-- what is remembered, on both sides
theorem ap_rem {n c : Nat} {M M1 : ks_M} (h : ap n c (M 9 2) (M 44 14) (M 9 1) (fun k => M (11 + k)) (M 52)) (hp : pp n c (M 7) (M 49)) (h14 : M1 44 14 = M 44 14) (h52 : M1 52 = M 52) (h49 : M1 49 = M 49) : ap n c (rem6 M 7 9 2) (nt7 M1 44 14) (rem6 M 7 9 1) (fun k => rem6 M 7 (11 + k)) (nt7 M1 52) := by
  obtain ⟨a0, a1, a2, a3⟩ := h
  by_cases hc : M 9 2 < 14
  · have es : sh7 M1 = M1 := if_neg (by omega)
    have er : rem6 M 7 = up2 (sv6 M 7) 9 2 (M 9 2 + 1) := if_pos hc
    have e1 : nt7 M1 44 14 = M 9 2 + 1 := by unfold nt7; rw [up2_s, es, h14, a0]
    have e2 : rem6 M 7 9 2 = M 9 2 + 1 := by rw [er, up2_s]
    have e3 : rem6 M 7 9 1 = M 9 1 := by rw [er, up2_k (by decide)]; exact congrFun (sv6_o (by decide)) 1
    rw [e1, e2, e3]
    refine ⟨rfl, by omega, a2, fun k hk => ?_⟩
    have eb : ∀ q, nt7 M1 52 q = if 12 * M 9 2 ≤ q ∧ q < 12 * M 9 2 + 12 then M 49 (0 + (q - 12 * M 9 2)) else M 52 q := fun q => by
      unfold nt7; rw [up2_o (by decide), es, h14, a0, cpr, sr_s, h49, h52]
    show pp n c (rem6 M 7 (11 + (M 9 1 + k) % 14)) _
    rw [er, show up2 (sv6 M 7) 9 2 (M 9 2 + 1) (11 + (M 9 1 + k) % 14) = sv6 M 7 (11 + (M 9 1 + k) % 14) from by funext b; exact up2_o (by omega)]
    unfold sv6
    by_cases hk2 : k = M 9 2
    · subst hk2
      rw [sr_s]
      refine pp_cp (pp_y hp (fun j hj => ?_))
      show nt7 M1 52 (12 * M 9 2 + j) = M 49 j
      rw [eb, if_pos (by omega)]; congr 1; omega
    · rw [sr_o (by omega)]
      refine pp_y (a3 k (by omega)) (fun j hj => ?_)
      show nt7 M1 52 (12 * k + j) = M 52 (12 * k + j)
      rw [eb, if_neg (by omega)]
  · have h14' : M1 44 14 = 14 := by omega
    have es : sh7 M1 = up2 (cpr M1 52 52 0 12 156) 44 14 13 := if_pos h14'
    have er : rem6 M 7 = up2 (sv6 M 7) 9 1 ((M 9 1 + 1) % 14) := if_neg hc
    have e1 : nt7 M1 44 14 = 14 := by unfold nt7; rw [up2_s, es, up2_s]
    have e2 : rem6 M 7 9 2 = 14 := by rw [er, up2_k (by decide), show sv6 M 7 9 2 = M 9 2 from congrFun (sv6_o (by decide)) 2]; omega
    have e3 : rem6 M 7 9 1 = (M 9 1 + 1) % 14 := by rw [er, up2_s]
    rw [e1, e2, e3]
    refine ⟨rfl, by omega, Nat.mod_lt _ (by decide), fun k hk => ?_⟩
    have eb : ∀ q, q < 168 → nt7 M1 52 q = if 156 ≤ q then M 49 (q - 156) else M 52 (12 + q) := fun q hq => by
      unfold nt7; rw [up2_o (by decide), es, up2_s, cpr, sr_s]
      by_cases hq2 : 156 ≤ q
      · rw [if_pos (by omega), if_pos hq2, show up2 (cpr M1 52 52 0 12 156) 44 14 13 49 = M1 49 from by funext b; rw [up2_o (by decide), cpr_o (by decide)], h49]
        exact congrArg (M 49) (by omega)
      · rw [if_neg (by omega), if_neg hq2, up2_o (by decide), cpr, sr_s, if_pos (by omega), h52]
        congr 1
    show pp n c (rem6 M 7 (11 + ((M 9 1 + 1) % 14 + k) % 14)) _
    rw [er, show up2 (sv6 M 7) 9 1 ((M 9 1 + 1) % 14) (11 + ((M 9 1 + 1) % 14 + k) % 14) = sv6 M 7 (11 + ((M 9 1 + 1) % 14 + k) % 14) from by funext b; exact up2_o (by omega)]
    unfold sv6
    by_cases hk2 : k = 13
    · subst hk2
      rw [show 11 + ((M 9 1 + 1) % 14 + 13) % 14 = 11 + (M 9 1 + M 9 2) % 14 by omega, sr_s]
      refine pp_cp (pp_y hp (fun j hj => ?_))
      show nt7 M1 52 (12 * 13 + j) = M 49 j
      rw [eb _ (by omega), if_pos (by omega)]; exact congrArg (M 49) (by omega)
    · rw [sr_o (by omega)]
      refine pp_y (show pp n c (M (11 + ((M 9 1 + 1) % 14 + k) % 14)) (fun j => M 52 (12 * (k + 1) + j)) from by
        have h9 := a3 (k + 1) (by omega)
        rw [show ((M 9 1 + 1) % 14 + k) % 14 = (M 9 1 + (k + 1)) % 14 by omega]; exact h9) (fun j hj => ?_)
      show nt7 M1 52 (12 * k + j) = M 52 (12 * (k + 1) + j)
      rw [eb _ (by omega), if_neg (by omega)]; exact congrArg (M 52) (by omega)
theorem fitn_c {T T' : Nat → Nat} {p : Nat} (h : T' p = T p) : fitn T' p = fitn T p := by
  unfold fitn
  by_cases h0 : p = 0
  · subst h0; rw [if_pos rfl, if_pos rfl, h]
  · rw [if_neg h0, if_neg h0]
    by_cases h1 : p = 1
    · subst h1; rw [if_pos rfl, if_pos rfl, h]
    · rw [if_neg h1, if_neg h1, h]
theorem okT_c {T T' : Nat → Nat} {len : Nat} (h : ∀ k, k < len → T' k = T k) : okT T' len ↔ okT T len := by
  constructor
  · intro h1; exact ⟨fun q hq => by rw [← fitn_c (h q hq)]; exact h1.1 q hq, h1.2⟩
  · intro h1; exact ⟨fun q hq => by rw [fitn_c (h q hq)]; exact h1.1 q hq, h1.2⟩
theorem badT_no {T : Nat → Nat} {len v : Nat} (h : badT T len v) : ¬ okT T len := fun h2 => by
  obtain ⟨h3, h4 | h4⟩ := h
  · exact h4.2 (h2.1 v h4.1)
  · exact h4.2 h2
theorem badT_one {T T' : Nat → Nat} {len v w : Nat} (e : ∀ k, k < len → T' k = T k) (hv : v ≤ len) (hw : w ≤ len) (h : badT T len v) (h' : badT T' len w) : v = w := by
  rcases Nat.lt_trichotomy v w with h9 | h9 | h9
  · exfalso
    have h1 := h'.1 v h9
    rw [fitn_c (e v (by omega))] at h1
    rcases h.2 with h2 | h2
    · exact h2.2 h1
    · omega
  · exact h9
  · exfalso
    have h1 := h.1 w h9
    rw [← fitn_c (e w (by omega))] at h1
    rcases h'.2 with h2 | h2
    · exact h2.2 h1
    · omega
theorem nI_inj {a b : Nat} (ha : a < 2147483648) (hb : b < 2147483648) (h : nI a = nI b) : a = b := (kI_eq ha hb).mp h
