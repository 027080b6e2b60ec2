/-! Equal answers, and the invariant behind: the street made anew -/
theorem shw_10 {v : Nat} (s t : Nat) (h : v < 10) : shw s v t < 1000 := by unfold shw; (repeat' split) <;> omega
theorem bg6_7 (M : ks_M) : bg6 M 7 0 = 0 ∧ bg6 M 7 1 = M 3 4 ∧ bg6 M 7 2 = 0 ∧ bg6 M 7 3 = 0 ∧ bg6 M 7 4 = 1 <<< M 3 3 - 1 ∧ bg6 M 7 5 = 0 ∧ bg6 M 7 6 = 0 := by
  unfold bg6
  refine ⟨?_, ?_, ?_, ?_, ?_, ?_, ?_⟩ <;> simp [up2]
theorem bg6_o {M : ks_M} {a : Nat} (h : a ≠ 7) : bg6 M a = M a := by
  unfold bg6
  funext k
  rw [up2_o h, up2_o h, up2_o h, up2_o h, up2_o h, up2_o h, up2_o h]
theorem bg7_o {M : ks_M} {a : Nat} (h : a ≠ 44) (h2 : a ≠ 49) (h3 : a ≠ 54) : bg7 M a = M a := by
  unfold bg7
  funext k
  rw [up2_o h3, up2_o h3, up2_o h, up2_o h2, up2_o h2, zr_o h2]
theorem bg7_44 {M : ks_M} {k : Nat} (h : k ≠ 14) : bg7 M 44 k = M 44 k := by
  unfold bg7
  rw [up2_o (by decide), up2_o (by decide), up2_k h, up2_o (by decide), up2_o (by decide), zr_o (by decide)]
theorem bg7_14 (M : ks_M) : bg7 M 44 14 = 0 := by
  unfold bg7
  rw [up2_o (by decide), up2_o (by decide), up2_s]
theorem bg7_54 (M : ks_M) (k : Nat) : bg7 M 54 k = if k < 2 then 0 else M 54 k := by
  unfold bg7
  by_cases h1 : k = 1
  · subst h1; rw [up2_s]; rfl
  · rw [up2_k h1]
    by_cases h0 : k = 0
    · subst h0; rw [up2_s]; rfl
    · rw [up2_k h0, up2_o (by decide), up2_o (by decide), up2_o (by decide), zr_o (by decide), if_neg (by omega)]
theorem bg7_49 (M : ks_M) (k : Nat) : bg7 M 49 k = if k = 4 then 1 <<< M 44 4 - 1 else if k = 1 then M 44 7 else if k < 12 then 0 else M 49 k := by
  unfold bg7
  rw [up2_o (by decide), up2_o (by decide), up2_o (by decide)]
  by_cases h4 : k = 4
  · subst h4; rw [up2_s, if_pos rfl]
  · rw [up2_k h4, if_neg h4]
    by_cases h1 : k = 1
    · subst h1; rw [up2_s, if_pos rfl]
    · rw [up2_k h1, if_neg h1, zr, sr_s]
theorem b_street {c : Nat} {M M1 M2 : ks_M} {L L1 L2 : ks_L}  {r1 r2 : Int32} (I : INV c M L) (hc : c ≤ 100) (h6 : Q6_street M L  r1 M1 L1) (h7 : Q7_street M1 L1  r2 M2 L2) : r1 = r2 ∧ INV (c + 1) M2 L2 := by
  have hf := a_street h6
  unfold Q6_street at h6
  unfold Q7_street at h7
  have hI0 := I
  obtain ⟨i0, ⟨t0, t1, t2⟩, i2, i3, i4, i5, i6, i7, i8⟩ := I
  obtain ⟨s0, s1, s2, s3, s4, s5, s6, s7⟩ := i2
  have hT : ∀ k, k < M 1 1 → M1 45 k = M 2 k := fun k hk => by rw [hf.1 45 (by decide)]; exact (t2 k hk).1
  have hl : M1 44 2 = M 1 1 := by rw [hf.1 44 (by decide)]; exact t0
  obtain ⟨h6, rfl⟩ := h6
  obtain ⟨h7, rfl⟩ := h7
  rw [hl] at h7
  rcases h6 with ⟨rfl, hno, hM⟩ | ⟨hok, rfl, Mv, hI, hM⟩
  · rcases h7 with ⟨rfl, hno2, hr⟩ | ⟨hok2, -⟩
    · subst hM
      exact ⟨rfl, inv_fr hI0 (fun k hk => hr.2 k (by omega) (by omega) (by omega)) (fun a ha => by funext q; exact hr.1 a q (by unfold KPT at ha; omega) (by unfold KPT at ha; omega)) i8⟩
    · exact absurd ((okT_c hT).mp hok2) hno
  · rcases h7 with ⟨rfl, hno2, hr⟩ | ⟨hok2, rfl, Mr, Mw, hR, hW, hM2⟩
    · exact absurd ((okT_c hT).mpr hok) hno2
    · refine ⟨rfl, ?_⟩
      have hn6 := okT_n hok
      have hlen2 := hok.2.1
      have hlen5 := hok.2.2
      generalize hnn : (M 1 1 - 2) / 5 = n at *
      have hlen : M 1 1 = 2 + 5 * n := by omega
      obtain ⟨f1, f2, f3, f4, f5, f6, f7⟩ := hI
      obtain ⟨⟨r1, r2⟩, r3, r4, r5, r6, r7, r8, r9⟩ := hR
      obtain ⟨w1, w2, w3, w4, w5, w6, w7⟩ := hW
      -- the class's side
      have k1 : ∀ a, a ≠ 0 → a ≠ 7 → a ≠ 9 → M1 a = Mv a := fun a q0 q7 q9 => by rw [hM]; funext z; rw [up2_o q0, up2_o q9, bg6_o q7]
      have k2 : ∀ a, a ≠ 0 → a ≠ 3 → a ≠ 4 → a ≠ 5 → a ≠ 6 → a ≠ 7 → a ≠ 9 → M1 a = M a := fun a q0 q3 q4 q5 q6 q7 q9 => (k1 a q0 q7 q9).trans (f1 a q3 q4 q5 q6)
      have c09 : M1 0 9 = 0 := by rw [hM, up2_s]
      have c92 : M1 9 2 = 0 := by rw [hM, up2_o (by decide), up2_s]
      have c91 : M1 9 1 = M 9 1 := by rw [hM, up2_o (by decide), up2_k (by decide), bg6_o (by decide), f1 9 (by decide) (by decide) (by decide) (by decide)]
      have c7 : M1 7 = bg6 Mv 7 := by rw [hM]; funext z; rw [up2_o (by decide), up2_o (by decide)]
      obtain ⟨b0, b1, b2, b3, b4, b5, b6⟩ := bg6_7 Mv
      rw [← c7] at b0 b1 b2 b3 b4 b5 b6
      have c33 : M1 3 3 = n := by rw [k1 3 (by decide) (by decide) (by decide)]; exact f2
      -- the reference's side
      have g1 : ∀ a, a ≠ 44 → a ≠ 46 → a ≠ 47 → a ≠ 48 → a ≠ 49 → a ≠ 54 → M2 a = M1 a := fun a q1 q2 q3 q4 q5 q6 => by
        rw [hM2, bg7_o q1 q5 q6, w1 a q1 q2 q3]; funext z; exact r1 a z q1 q4
      have e44 : ∀ k, k ≠ 3 → k ≠ 4 → k ≠ 7 → k ≠ 8 → k ≠ 14 → M2 44 k = M 44 k := fun k q3 q4 q7 q8 q14 => by
        rw [hM2, bg7_44 q14, w2 k q4, r2 k q3 q7 q8]; exact F7_44 hf k
      have d44 : M2 44 4 = n := by rw [hM2, bg7_44 (by decide)]; exact w3
      have d14 : M2 44 14 = 0 := by rw [hM2]; exact bg7_14 _
      have d46 : M2 46 = Mw 46 := by rw [hM2]; exact bg7_o (by decide) (by decide) (by decide)
      have d47 : M2 47 = Mw 47 := by rw [hM2]; exact bg7_o (by decide) (by decide) (by decide)
      have v46 : ∀ q, q < n → Mw 46 q = M 2 (3 + 5 * q) - 48 := fun q hq => by
        rw [w4 q hq, r9 (4 * q) (by omega), show 3 + 5 * (4 * q / 4) + 4 * q % 4 = 3 + 5 * q by omega, hT _ (by omega)]
      have v47 : ∀ h, h < n → ∀ j, j < 3 → Mw 47 (3 * h + j) = M 2 (4 + 5 * h + j) - 48 := fun h hh j hj => by
        rw [w6 (3 * h + j) (by omega), r9 _ (by omega), show 3 + 5 * ((4 * ((3 * h + j) / 3) + 1 + (3 * h + j) % 3) / 4) + (4 * ((3 * h + j) / 3) + 1 + (3 * h + j) % 3) % 4 = 4 + 5 * h + j by omega, hT _ (by omega)]
      have dg9 : ∀ h, h < n → ∀ j, j < 3 → M 2 (4 + 5 * h + j) - 48 < 10 := fun h hh j hj => by
        have := (okT_d hok (p := 4 + 5 * h + j) (by omega) (by omega) (by omega)).2; omega
      have dg3 : ∀ h, h < n → M 2 (3 + 5 * h) - 48 < 4 := fun h hh => by
        have := okT_s hok (p := 3 + 5 * h) (by omega) (by omega) (by omega); omega
      have u46 : ∀ q, Mw 46 q < 4 := fun q => by
        by_cases hq : q < n
        · rw [v46 q hq]; exact dg3 q hq
        · rw [w5 q (by omega), r1 46 q (by decide) (by decide), hf.1 46 (by decide)]; exact s2 q
      have u47 : ∀ q, Mw 47 q < 10 := fun q => by
        by_cases hq : q < 3 * n
        · have := v47 (q / 3) (by omega) (q % 3) (by omega)
          rw [show 3 * (q / 3) + q % 3 = q by omega] at this
          rw [this]; exact dg9 _ (by omega) _ (by omega)
        · rw [w7 q (by omega), r1 47 q (by decide) (by decide), hf.1 47 (by decide)]; exact s3 q
      have c6 : M2 6 = Mv 6 := (g1 6 (by decide) (by decide) (by decide) (by decide) (by decide) (by decide)).trans (k1 6 (by decide) (by decide) (by decide))
      have c4 : M2 4 = Mv 4 := (g1 4 (by decide) (by decide) (by decide) (by decide) (by decide) (by decide)).trans (k1 4 (by decide) (by decide) (by decide))
      have c5 : M2 5 = Mv 5 := (g1 5 (by decide) (by decide) (by decide) (by decide) (by decide) (by decide)).trans (k1 5 (by decide) (by decide) (by decide))
      have v6 : ∀ h, h < n → ∀ t, t < 6 → Mv 6 (h * 6 + t) = shw (Mw 46 h) (Mw 47 (3 * h + t % 3)) t := fun h hh t ht => by
        rw [f6 (h * 6 + t) (by omega), v46 h hh, v47 h hh (t % 3) (Nat.mod_lt _ (by decide)), show (h * 6 + t) / 6 = h by omega, show (h * 6 + t) % 3 = t % 3 by omega, show (h * 6 + t) % 6 = t by omega]
      have d3 : M2 3 3 = n := by rw [g1 3 (by decide) (by decide) (by decide) (by decide) (by decide) (by decide)]; exact c33
      have hfr : ∀ a, a ≠ 0 → a ≠ 3 → a ≠ 4 → a ≠ 5 → a ≠ 6 → a ≠ 7 → a ≠ 9 → a ≠ 44 → a ≠ 46 → a ≠ 47 → a ≠ 48 → a ≠ 49 → a ≠ 54 → M2 a = M a := fun a q0 q3 q4 q5 q6 q7 q9 p1 p2 p3 p4 p5 p6 => (g1 a p1 p2 p3 p4 p5 p6).trans (k2 a q0 q3 q4 q5 q6 q7 q9)
      have d7 : M2 7 = M1 7 := g1 7 (by decide) (by decide) (by decide) (by decide) (by decide) (by decide)
      have p49 : ∀ k, M2 49 k = if k = 4 then 1 <<< n - 1 else if k = 1 then M 2 1 - 48 else if k < 12 then 0 else M 49 k := fun k => by
        rw [hM2, bg7_49, w3, w2 7 (by decide), r5, hT 1 (by omega), w1 49 (by decide) (by decide) (by decide), r1 49 k (by decide) (by decide), hf.1 49 (by decide)]
      have h1k := k1s hn6
      have hd1 := (okT_d hok (p := 1) (by omega) (by decide) (Or.inl rfl)).2
      rw [f3] at b1
      rw [f2] at b4
      refine ⟨(e44 0 (by decide) (by decide) (by decide) (by decide) (by decide)).trans i0, t_tx ⟨t0, t1, t2⟩ (hfr 1 (by decide) (by decide) (by decide) (by decide) (by decide) (by decide) (by decide) (by decide) (by decide) (by decide) (by decide) (by decide) (by decide)) (hfr 2 (by decide) (by decide) (by decide) (by decide) (by decide) (by decide) (by decide) (by decide) (by decide) (by decide) (by decide) (by decide) (by decide)) (hfr 45 (by decide) (by decide) (by decide) (by decide) (by decide) (by decide) (by decide) (by decide) (by decide) (by decide) (by decide) (by decide) (by decide)) (e44 2 (by decide) (by decide) (by decide) (by decide) (by decide)), ?_, ?_, ?_, ?_, ?_, t_ep i7 (fun a q1 q2 => hfr a (by omega) (by omega) (by omega) (by omega) (by omega) (by omega) (by omega) (by omega) (by omega) (by omega) (by omega) (by omega) (by omega)) (e44 17 (by decide) (by decide) (by decide) (by decide) (by decide)) (fun a q1 q2 => hfr a (by omega) (by omega) (by omega) (by omega) (by omega) (by omega) (by omega) (by omega) (by omega) (by omega) (by omega) (by omega) (by omega)), i8⟩
      · rw [d3, d44, c4, c5, c6, d46, d47]
        refine ⟨rfl, hn6, u46, u47, fun q => ?_, fun h hh => ?_, fun h hh j hj => ?_, v6⟩
        · by_cases hq : q < 6 * n
          · have := v6 (q / 6) (by omega) (q % 6) (by omega)
            rw [show q / 6 * 6 + q % 6 = q by omega] at this
            rw [this]; exact shw_10 _ _ (u47 _)
          · rw [f7 q (by omega)]; exact s4 q
        · rw [f4 h hh, v46 h hh]
        · rw [f5 (h * 3 + j) (by omega), v47 h hh j hj, show 4 + 5 * ((h * 3 + j) / 3) + (h * 3 + j) % 3 = 4 + 5 * h + j by omega]
      · rw [d3, d7]
        refine ⟨⟨fun k hk => ?_, fun q hq => ?_⟩, ⟨by omega, Or.inr b0, by omega, by omega, by omega, by omega, by omega⟩, by omega⟩
        · rw [p49]
          rcases (show k = 0 ∨ k = 1 ∨ k = 2 ∨ k = 3 ∨ k = 4 ∨ k = 5 by omega) with rfl | rfl | rfl | rfl | rfl | rfl
          · rw [b0]; rfl
          · rw [b1]; rfl
          · rw [b2]; rfl
          · rw [b3]; rfl
          · rw [b4]; rfl
          · rw [b5]; rfl
        · rw [p49, if_neg (by omega), if_neg (by omega), if_pos (by omega), b6, Nat.zero_shiftRight, Nat.zero_and]
      · intro h hh
        rw [p49, if_neg (by omega), if_neg (by omega), if_neg (by omega)]; exact i4 h hh
      · rw [d14, g1 9 (by decide) (by decide) (by decide) (by decide) (by decide) (by decide), c92, c91]
        exact ⟨rfl, Nat.zero_le _, i5.2.2.1, fun k hk => absurd hk (Nat.not_lt_zero _)⟩
      · rw [g1 0 (by decide) (by decide) (by decide) (by decide) (by decide) (by decide), c09]
        have p54 : ∀ k, M2 54 k = if k < 2 then 0 else M 54 k := fun k => by
          rw [hM2, bg7_54, w1 54 (by decide) (by decide) (by decide), r1 54 k (by decide) (by decide), hf.1 54 (by decide)]
        refine ⟨by decide, fun q => by rw [p54]; split; decide; exact i6.2.1 q, fun s hs => Or.inl ⟨by rw [p54, if_pos hs], by rw [Nat.zero_shiftRight, Nat.zero_and]⟩⟩
