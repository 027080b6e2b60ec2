/-! Equal answers, and the invariant behind: calls that change nothing but rooms for reckoning -/
theorem inv_id {c : Nat} {M : ks_M} {L : ks_L} (I : INV c M L) : INV (c + 1) M L := inv_fr I (fun _ _ => rfl) (fun _ _ => rfl) I.2.2.2.2.2.2.2.2
theorem inv_hL {c : Nat} {M M1 : ks_M} {L L1 : ks_L} (I : INV c M L) (hf : F6 M M1 L L1) (h : L1 0 = L 0) : L1 44 = L1 0 := by rw [hf.2, h]; exact I.2.2.2.2.2.2.2.2
theorem inv_sg {c : Nat} {M M1 : ks_M} {L L1 : ks_L} (I : INV c M L) (hf : F6 M M1 L L1) {k : Nat} (hk : k < M 3 3) (t : Nat) : sg7 M1 (M1 49) k t = sgv (M 6) (M 7) k t := by
  have hs := inv_SS I hf
  have hm := inv_sm I hf
  have hn := inv_n7 I hf
  have hr := I.2.2.2.1.2.1
  have h6 := inv_n6 I
  exact sm_sg hs hm hr.2.2.2.2.1 hr.2.2.2.2.2.1 (by omega) (by omega) t
theorem b_fault {c : Nat} {M M1 M2 : ks_M} {L L1 L2 : ks_L}  {r1 r2 : Int32} (I : INV c M L) (hc : c ≤ 100) (h6 : Q6_fault M L  r1 M1 L1) (h7 : Q7_fault M1 L1  r2 M2 L2) : r1 = r2 ∧ INV (c + 1) M2 L2 := by
  have hf := a_fault h6
  unfold Q6_fault at h6
  unfold Q7_fault at h7
  have ht := I.2.1
  have hT : ∀ k, k < M 1 1 → M1 45 k = M 2 k := fun k hk => by rw [hf.1 45 (by decide)]; exact (ht.2.2 k hk).1
  have hl : M1 44 2 = M 1 1 := by rw [hf.1 44 (by decide)]; exact ht.1
  have hfr : rsF M1 M2 → M1 = M → L2 = L1 → L1 = L → INV (c + 1) M2 L2 := fun h e eL eL2 => by
    subst e; subst eL; subst eL2
    refine inv_fr I (fun k hk => h.2 k (by omega) (by omega) (by omega)) (fun a ha => by funext q; exact h.1 a q (by unfold KPT at ha; omega) (by unfold KPT at ha; omega)) I.2.2.2.2.2.2.2.2
  rw [hl] at h7
  rcases h6 with ⟨v, rfl, hv, hb, hM, hL⟩ | ⟨rfl, hok, hM, hL⟩
  · rcases h7 with ⟨w, rfl, hw, hb2, hr, hL2⟩ | ⟨rfl, hok2, hr, hL2⟩
    · exact ⟨by rw [badT_one hT hv hw hb hb2], hfr hr hM hL2 hL⟩
    · exact absurd ((okT_c hT).mp hok2) (badT_no hb)
  · rcases h7 with ⟨w, rfl, hw, hb2, hr, hL2⟩ | ⟨rfl, hok2, hr, hL2⟩
    · exact absurd ((okT_c hT).mpr hok) (badT_no hb2)
    · exact ⟨rfl, hfr hr hM hL2 hL⟩
theorem b_about {c : Nat} {M M1 M2 : ks_M} {L L1 L2 : ks_L} {x : Int32} {r1 r2 : Int32} (I : INV c M L) (hc : c ≤ 100) (h6 : Q6_about M L x r1 M1 L1) (h7 : Q7_about M1 L1 x r2 M2 L2) : r1 = r2 ∧ INV (c + 1) M2 L2 := by
  have hf := a_about h6
  unfold Q6_about at h6
  unfold Q7_about at h7
  obtain ⟨i0, ⟨t0, -⟩, ⟨s0, -⟩, ⟨⟨p0, -⟩, -⟩, -, ⟨a0, -⟩, -, ⟨e0, -⟩, -⟩ := id I
  rcases h6 with ⟨j, hj, hx, rfl, rfl, rfl⟩ | ⟨rfl, hno, rfl, rfl⟩
  · rcases h7 with ⟨w, hw, hx2, rfl, rfl, rfl⟩ | ⟨rfl, hno2, rfl, rfl⟩
    · obtain rfl : j = w := nI_inj (by omega) (by omega) (hx.symm.trans hx2)
      refine ⟨congrArg nI ?_, inv_id I⟩
      unfold ab6 ab7
      rw [t0, s0, a0, e0, p0 0 (by decide), p0 1 (by decide), p0 2 (by decide), p0 3 (by decide), p0 4 (by decide), p0 5 (by decide)]
    · exact absurd hx (hno2 j hj)
  · rcases h7 with ⟨w, hw, hx2, rfl, rfl, rfl⟩ | ⟨rfl, hno2, rfl, rfl⟩
    · exact absurd hx2 (hno w hw)
    · exact ⟨rfl, inv_id I⟩
theorem b_house {c : Nat} {M M1 M2 : ks_M} {L L1 L2 : ks_L} {x : Int32} {z : Int32} {r1 r2 : Int32} (I : INV c M L) (hc : c ≤ 100) (h6 : Q6_house M L x z r1 M1 L1) (h7 : Q7_house M1 L1 x z r2 M2 L2) : r1 = r2 ∧ INV (c + 1) M2 L2 := by
  have hf := a_house h6
  unfold Q6_house at h6
  unfold Q7_house at h7
  have hn := inv_n7 I hf
  have hn6 := inv_n6 I
  obtain ⟨h6, rfl, rfl⟩ := h6
  obtain ⟨h7, rfl, rfl⟩ := h7
  rw [hn] at h7
  refine ⟨?_, inv_id I⟩
  rcases h6 with ⟨rfl, hno⟩ | ⟨k, hk, hx, h6⟩
  · rcases h7 with ⟨rfl, hno2⟩ | ⟨k2, hk2, hx2, h7⟩
    · rfl
    · exact absurd hx2 (hno k2 hk2)
  · rcases h7 with ⟨rfl, hno2⟩ | ⟨k2, hk2, hx2, h7⟩
    · exact absurd hx (hno2 k hk)
    · obtain rfl : k = k2 := nI_inj (by omega) (by omega) (hx.symm.trans hx2)
      rcases h6 with ⟨j, hj, hz, rfl⟩ | ⟨rfl, hno3⟩
      · rcases h7 with ⟨j2, hj2, hz2, rfl⟩ | ⟨rfl, hno4⟩
        · obtain rfl : j = j2 := nI_inj (by omega) (by omega) (hz.symm.trans hz2)
          refine congrArg nI ?_
          unfold hv6 hv7
          by_cases j0 : j = 0
          · rw [if_pos j0, if_pos j0]; exact I.2.2.1.2.2.2.2.2.1 k hk
          · rw [if_neg j0, if_neg j0]
            by_cases j4 : j < 4
            · rw [if_pos j4, if_pos j4, show 3 * k + j - 1 = 3 * k + (j - 1) by omega]; exact I.2.2.1.2.2.2.2.2.2.1 k hk (j - 1) (by omega)
            · rw [if_neg j4, if_neg j4, Nat.mul_comm k 3]; exact (I.2.2.2.1.1.2 k (by omega)).symm
        · exact absurd hz (hno4 j hj)
      · rcases h7 with ⟨j2, hj2, hz2, rfl⟩ | ⟨rfl, hno4⟩
        · exact absurd hz2 (hno3 j2 hj2)
        · rfl
theorem b_sight {c : Nat} {M M1 M2 : ks_M} {L L1 L2 : ks_L} {x : Int32} {z : Int32} {r1 r2 : Int32} (I : INV c M L) (hc : c ≤ 100) (h6 : Q6_sight M L x z r1 M1 L1) (h7 : Q7_sight M1 L1 x z r2 M2 L2) : r1 = r2 ∧ INV (c + 1) M2 L2 := by
  have hf := a_sight h6
  unfold Q6_sight at h6
  unfold Q7_sight at h7
  have hn := inv_n7 I hf
  have hn6 := inv_n6 I
  obtain ⟨h6, rfl, rfl⟩ := h6
  obtain ⟨h7, rfl, rfl⟩ := h7
  rw [hn] at h7
  refine ⟨?_, inv_id I⟩
  rcases h6 with ⟨rfl, hno⟩ | ⟨k, hk, hx, h6⟩
  · rcases h7 with ⟨rfl, hno2⟩ | ⟨k2, hk2, hx2, h7⟩
    · rfl
    · exact absurd hx2 (hno k2 hk2)
  · rcases h7 with ⟨rfl, hno2⟩ | ⟨k2, hk2, hx2, h7⟩
    · exact absurd hx (hno2 k hk)
    · obtain rfl : k = k2 := nI_inj (by omega) (by omega) (hx.symm.trans hx2)
      rcases h6 with ⟨j, hj, hz, rfl⟩ | ⟨rfl, hno3⟩
      · rcases h7 with ⟨j2, hj2, hz2, rfl⟩ | ⟨rfl, hno4⟩
        · obtain rfl : j = j2 := nI_inj (by omega) (by omega) (hz.symm.trans hz2)
          rw [inv_sg I hf hk]
        · exact absurd hz (hno4 j hj)
      · rcases h7 with ⟨j2, hj2, hz2, rfl⟩ | ⟨rfl, hno4⟩
        · exact absurd hz2 (hno3 j2 hj2)
        · rfl
theorem b_best {c : Nat} {M M1 M2 : ks_M} {L L1 L2 : ks_L} {x : Int32} {b : Nat} {r1 r2 : Int32} (I : INV c M L) (hc : c ≤ 100) (h6 : Q6_best M L x b r1 M1 L1) (h7 : Q7_best M1 L1 x b (M 6) (M 7) r2 M2 L2) : r1 = r2 ∧ INV (c + 1) M2 L2 := by
  have hf := a_best h6
  unfold Q6_best at h6
  unfold Q7_best at h7
  have hfin : (∀ a, (a < 27 ∧ a ≠ 8 ∨ 35 ≤ a) → M1 a = M a) → (∀ a, a ≠ 44 → a ≠ 50 → a ≠ 51 → a ≠ 59 → M2 a = M1 a) → (∀ k, k ≠ 23 → k ≠ 24 → M2 44 k = M1 44 k) → L2 = L1 → L1 = L → INV (c + 1) M2 L2 := fun q1 q2 q3 q4 q5 => by
    subst q4; subst q5
    refine inv_fr I (fun k hk => (q3 k (by omega) (by omega)).trans (by rw [q1 44 (by omega)])) (fun a ha => ?_) I.2.2.2.2.2.2.2.2
    unfold KPT at ha
    exact (q2 a (by omega) (by omega) (by omega) (by omega)).trans (q1 a (by omega))
  have hn := inv_n7 I hf
  rw [hn] at h7
  rcases h6 with ⟨rfl, hno, rfl, rfl⟩ | ⟨n, h1, h2, hx, hb0, hb1, hfr, hL⟩
  · rcases h7 with ⟨rfl, hno2, rfl, rfl⟩ | ⟨n2, g1, g2, hx2, -⟩
    · exact ⟨rfl, inv_id I⟩
    · exact absurd hx2 (hno n2 g1 g2)
  · rcases h7 with ⟨rfl, hno2, rfl, rfl⟩ | ⟨n2, g1, g2, hx2, gb0, gb1, gfa, gfc, gL⟩
    · exact absurd hx (hno2 n h1 h2)
    · obtain rfl : n = n2 := nI_inj (by omega) (by omega) (hx.symm.trans hx2)
      refine ⟨?_, hfin (fun a ha => hfr a (by omega)) (fun a q1 q2 q3 _ => gfa a q1 q2 q3) gfc gL hL⟩
      by_cases e : b = 0
      · rw [hb0 e, gb0 e]
      · rw [hb1 e, gb1 e]
theorem b_fewest {c : Nat} {M M1 M2 : ks_M} {L L1 L2 : ks_L} {x : Int32} {r1 r2 : Int32} (I : INV c M L) (hc : c ≤ 100) (h6 : Q6_fewest M L x r1 M1 L1) (h7 : Q7_fewest M1 L1 x (M 6) (M 7) r2 M2 L2) : r1 = r2 ∧ INV (c + 1) M2 L2 := by
  have hf := a_fewest h6
  unfold Q6_fewest at h6
  unfold Q7_fewest at h7
  have hfin : (∀ a, (a < 27 ∧ a ≠ 8 ∨ 35 ≤ a) → M1 a = M a) → (∀ a, a ≠ 44 → a ≠ 50 → a ≠ 51 → a ≠ 59 → M2 a = M1 a) → (∀ k, k ≠ 23 → k ≠ 24 → M2 44 k = M1 44 k) → L2 = L1 → L1 = L → INV (c + 1) M2 L2 := fun q1 q2 q3 q4 q5 => by
    subst q4; subst q5
    refine inv_fr I (fun k hk => (q3 k (by omega) (by omega)).trans (by rw [q1 44 (by omega)])) (fun a ha => ?_) I.2.2.2.2.2.2.2.2
    unfold KPT at ha
    exact (q2 a (by omega) (by omega) (by omega) (by omega)).trans (q1 a (by omega))
  have hn := inv_n7 I hf
  rw [hn] at h7
  rcases h6 with ⟨rfl, hno, rfl, rfl⟩ | ⟨n, h1, h2, hx, hb, hfr, hL⟩
  · rcases h7 with ⟨rfl, hno2, rfl, rfl⟩ | ⟨n2, g1, g2, hx2, -⟩
    · exact ⟨rfl, inv_id I⟩
    · exact absurd hx2 (hno n2 g1 g2)
  · rcases h7 with ⟨rfl, hno2, rfl, rfl⟩ | ⟨n2, g1, g2, hx2, gb, gfa, gfc, gL⟩
    · exact absurd hx (hno2 n h1 h2)
    · obtain rfl : n = n2 := nI_inj (by omega) (by omega) (hx.symm.trans hx2)
      refine ⟨?_, hfin (fun a ha => hfr a (by omega)) (fun a q1 q2 q3 _ => gfa a q1 q2 q3) gfc gL hL⟩
      rcases hb with ⟨k, k1, k2, rfl, k3, k4⟩ | ⟨rfl, k4⟩
      · rcases gb with ⟨j, j1, j2, rfl, j3, j4⟩ | ⟨rfl, j4⟩
        · congr 1
          rcases Nat.lt_trichotomy k j with h | h | h
          · have := j4 k k1 h; omega
          · exact h
          · have := k4 j j1 h; omega
        · have := j4 k k1 k2; omega
      · rcases gb with ⟨j, j1, j2, rfl, j3, j4⟩ | ⟨rfl, j4⟩
        · have := k4 j j1 j2; omega
        · rfl
theorem b_keys {c : Nat} {M M1 M2 : ks_M} {L L1 L2 : ks_L} {x : Int32} {z : Int32} {r1 r2 : Int32} (I : INV c M L) (hc : c ≤ 100) (h6 : Q6_keys M L x z r1 M1 L1) (h7 : Q7_keys M1 L1 x z (M 6) (M 7) r2 M2 L2) : r1 = r2 ∧ INV (c + 1) M2 L2 := by
  have hf := a_keys h6
  unfold Q6_keys at h6
  unfold Q7_keys at h7
  have hfin : (∀ a, (a < 27 ∧ a ≠ 8 ∨ 35 ≤ a) → M1 a = M a) → (∀ a, a ≠ 44 → a ≠ 50 → a ≠ 51 → a ≠ 59 → M2 a = M1 a) → (∀ k, k ≠ 23 → k ≠ 24 → M2 44 k = M1 44 k) → L2 = L1 → L1 = L → INV (c + 1) M2 L2 := fun q1 q2 q3 q4 q5 => by
    subst q4; subst q5
    refine inv_fr I (fun k hk => (q3 k (by omega) (by omega)).trans (by rw [q1 44 (by omega)])) (fun a ha => ?_) I.2.2.2.2.2.2.2.2
    unfold KPT at ha
    exact (q2 a (by omega) (by omega) (by omega) (by omega)).trans (q1 a (by omega))
  have hn := inv_n7 I hf
  rw [hn] at h7
  rcases h6 with ⟨rfl, hno, rfl, rfl⟩ | ⟨n, j, h1, h2, h3, hx, hz, rfl, hfr, hL⟩
  · rcases h7 with ⟨rfl, hno2, rfl, rfl⟩ | ⟨n2, j2, g1, g2, g3, hx2, hz2, -⟩
    · exact ⟨rfl, inv_id I⟩
    · exact absurd hz2 (hno n2 j2 g1 g2 g3 hx2)
  · rcases h7 with ⟨rfl, hno2, rfl, rfl⟩ | ⟨n2, j2, g1, g2, g3, hx2, hz2, rfl, gfa, gfc, gL⟩
    · exact absurd hz (hno2 n j h1 h2 h3 hx)
    · obtain rfl : n = n2 := nI_inj (by omega) (by omega) (hx.symm.trans hx2)
      obtain rfl : j = j2 := nI_inj (by omega) (by omega) (hz.symm.trans hz2)
      exact ⟨rfl, hfin hfr (fun a q1 q2 q3 _ => gfa a q1 q2 q3) gfc gL hL⟩
theorem b_share {c : Nat} {M M1 M2 : ks_M} {L L1 L2 : ks_L} {x : Int32} {b : Nat} {r1 r2 : Int32} (I : INV c M L) (hc : c ≤ 100) (h6 : Q6_share M L x b r1 M1 L1) (h7 : Q7_share M1 L1 x b (M 6) (M 7) r2 M2 L2) : r1 = r2 ∧ INV (c + 1) M2 L2 := by
  have hf := a_share h6
  unfold Q6_share at h6
  unfold Q7_share at h7
  have hfin : (∀ a, (a < 27 ∧ a ≠ 8 ∨ 35 ≤ a) → M1 a = M a) → (∀ a, a ≠ 44 → a ≠ 50 → a ≠ 51 → a ≠ 59 → M2 a = M1 a) → (∀ k, k ≠ 23 → k ≠ 24 → M2 44 k = M1 44 k) → L2 = L1 → L1 = L → INV (c + 1) M2 L2 := fun q1 q2 q3 q4 q5 => by
    subst q4; subst q5
    refine inv_fr I (fun k hk => (q3 k (by omega) (by omega)).trans (by rw [q1 44 (by omega)])) (fun a ha => ?_) I.2.2.2.2.2.2.2.2
    unfold KPT at ha
    exact (q2 a (by omega) (by omega) (by omega) (by omega)).trans (q1 a (by omega))
  have hn := inv_n7 I hf
  have hn6 := inv_n6 I
  rw [hn] at h7
  obtain ⟨h6, hfr, hL⟩ := h6
  rcases h6 with ⟨rfl, hno⟩ | ⟨k, hk, hx, rfl⟩
  · rcases h7 with ⟨rfl, hno2, rfl, rfl⟩ | ⟨k2, hk2, hx2, -⟩
    · exact ⟨rfl, hfin hfr (fun _ _ _ _ _ => rfl) (fun _ _ _ => rfl) rfl hL⟩
    · exact absurd hx2 (hno k2 hk2)
  · rcases h7 with ⟨rfl, hno2, rfl, rfl⟩ | ⟨k2, hk2, hx2, rfl, gfa, gfc, gL⟩
    · exact absurd hx (hno2 k hk)
    · obtain rfl : k = k2 := nI_inj (by omega) (by omega) (hx.symm.trans hx2)
      exact ⟨rfl, hfin hfr gfa gfc gL hL⟩
theorem b_judge {c : Nat} {M M1 M2 : ks_M} {L L1 L2 : ks_L} {x : Int32} {z : Int32} {r1 r2 : Int32} (I : INV c M L) (hc : c ≤ 100) (h6 : Q6_judge M L x z r1 M1 L1) (h7 : Q7_judge M1 L1 x z r2 M2 L2) : r1 = r2 ∧ INV (c + 1) M2 L2 := by
  have hf := a_judge h6
  unfold Q6_judge at h6
  unfold Q7_judge at h7
  have hn := inv_n7 I hf
  have hn6 := inv_n6 I
  have hS := inv_SS I hf
  have hfin : (∀ a, a ≠ 8 → M1 a = M a) → (∀ a, a ≠ 50 → M2 a = M1 a) → L2 = L1 → L1 = L → INV (c + 1) M2 L2 := fun q1 q2 q4 q5 => by
    subst q4; subst q5
    refine inv_fr I (fun k hk => by rw [q2 44 (by decide), q1 44 (by decide)]) (fun a ha => ?_) I.2.2.2.2.2.2.2.2
    unfold KPT at ha
    exact (q2 a (by omega)).trans (q1 a (by omega))
  rcases h6 with ⟨rfl, hno, rfl, rfl⟩ | ⟨n, ro, h1, h2, hx, hz, hj, hfr, hL⟩
  · rcases h7 with ⟨rfl, hno2, rfl, rfl⟩ | ⟨n2, r2, g1, g2, hx2, hz2, -⟩
    · exact ⟨rfl, inv_id I⟩
    · exact absurd hz2 (hno n2 r2 g1 g2 hx2)
  · rcases h7 with ⟨rfl, hno2, rfl, rfl⟩ | ⟨n2, r2, g1, g2, hx2, hz2, gj, gfr, gL⟩
    · exact absurd hz (hno2 n ro h1 h2 hx)
    · obtain rfl : n = n2 := nI_inj (by omega) (by omega) (hx.symm.trans hx2)
      obtain rfl : ro = r2 := okr_one h2 hz hz2
      refine ⟨?_, hfin hfr gfr gL hL⟩
      rw [hn] at gj hS
      have hsm : smr (cp7 (M 8) (M 7)) (cp12 (M1 50) (M1 49)) := sm_cp (inv_sm I hf)
      have hok : rok (M 3 3) 100000 (cp7 (M 8) (M 7)) := cp7_ok (okN_rok (inv_ok6 I hc) (inv_0n I))
      have hJ : ∀ p, p < n → (∀ q, q < p → jg (M 3 3) (M 6) (cp7 (M 8) (M 7)) (dg n ro) q) → (jg (M 3 3) (M 6) (cp7 (M 8) (M 7)) (dg n ro) p ↔ jg7 (M 3 3) M1 (cp12 (M1 50) (M1 49)) (dg n ro) p) := fun p hp ha => sm_jg hS hn6 hsm hok hz.2.2 hp ha
      rcases hj with ⟨p, hp, rfl, ha, hb⟩ | ⟨rfl, ha⟩
      · rcases gj with ⟨w, hw, rfl, ga, gb⟩ | ⟨rfl, ga⟩
        · congr 1
          rcases Nat.lt_trichotomy p w with h | h | h
          · exact absurd ((hJ p hp ha).mpr (ga p h)) hb
          · exact h
          · exact absurd ((hJ w hw (fun q hq => ha q (by omega))).mp (ha w h)) gb
        · exact absurd ((hJ p hp ha).mpr (ga p hp)) hb
      · rcases gj with ⟨w, hw, rfl, ga, gb⟩ | ⟨rfl, ga⟩
        · exact absurd ((hJ w hw (fun q hq => ha q (by omega))).mp (ha w hw)) gb
        · rfl
theorem b_rounds {c : Nat} {M M1 M2 : ks_M} {L L1 L2 : ks_L} {x : Int32} {r1 r2 : Int32} (I : INV c M L) (hc : c ≤ 100) (h6 : Q6_rounds M L x r1 M1 L1) (h7 : Q7_rounds M1 L1 x r2 M2 L2) : r1 = r2 ∧ INV (c + 1) M2 L2 := by
  have hf := a_rounds h6
  unfold Q6_rounds at h6
  unfold Q7_rounds at h7
  have hn := inv_n7 I hf
  have hn6 := inv_n6 I
  have hS := inv_SS I hf
  rcases h6 with ⟨rfl, hno, rfl, rfl⟩ | ⟨m, h1, h2, hx, rfl, hfr, hL⟩
  · rcases h7 with ⟨rfl, hno2, rfl, rfl⟩ | ⟨n2, g1, g2, hx2, -⟩
    · exact ⟨rfl, inv_id I⟩
    · exact absurd hx2 (hno n2 g1 g2)
  · rcases h7 with ⟨rfl, hno2, rfl, rfl⟩ | ⟨n2, g1, g2, hx2, rfl, gfr, gL⟩
    · exact absurd hx (hno2 m h1 h2)
    · obtain rfl : m = n2 := nI_inj (by omega) (by omega) (hx.symm.trans hx2)
      have hs44 : L1 44 = L 0 := by rw [hf.2]; exact I.2.2.2.2.2.2.2.2
      rw [hn] at hS ⊢
      have hsm : smr (cp7 (M 8) (M 7)) (cp12 (M1 50) (M1 49)) := sm_cp (inv_sm I hf)
      have hok : rok (M 3 3) 100000 (cp7 (M 8) (M 7)) := cp7_ok (okN_rok (inv_ok6 I hc) (inv_0n I))
      constructor
      · rw [hs44, (sm_prn hS hn6 hsm hok m).1 3 (by decide), (inv_sm I hf).1 3 (by decide)]
      · refine inv_fr I (fun k hk => by rw [gfr 44 (by decide), hf.1 44 (by decide)]) (fun a ha => ?_) ?_
        · unfold KPT at ha
          exact (gfr a (by omega)).trans (hfr a (by omega))
        · rw [gL, hs44, hL]; simp [upl]
theorem b_rests {c : Nat} {M M1 M2 : ks_M} {L L1 L2 : ks_L} {x : Int32} {r1 r2 : Int32} (I : INV c M L) (hc : c ≤ 100) (h6 : Q6_rests M L x r1 M1 L1) (h7 : Q7_rests M1 L1 x r2 M2 L2) : r1 = r2 ∧ INV (c + 1) M2 L2 := by
  have hf := a_rests h6
  unfold Q6_rests at h6
  unfold Q7_rests at h7
  have hn := inv_n7 I hf
  have hn6 := inv_n6 I
  have hV : ∀ q, q < M 3 3 → V6 M q = V7 M1 q := fun q hq => by
    unfold V6 V7
    rw [inv_sg I hf hq, (inv_sm I hf).1 2 (by decide)]
  have hfm : M1 = M → INV (c + 1) (fm7 M1 (rr2 (V7 M1) (M1 44 4) (M1 44 4))) L := fun e => by
    subst e
    exact inv_fr I (fun k hk => fm7_k (by omega) (by omega)) (fun a ha => fm7_o (by unfold KPT at ha; omega)) I.2.2.2.2.2.2.2.2
  have hr : rr2 (V7 M1) (M1 44 4) (M1 44 4) = rr2 (V6 M) (M 3 3) (M 3 3) := by rw [hn]; exact (rr2_c hV _ (Nat.le_refl _)).symm
  rcases h6 with ⟨rfl, x0, x1, hM, rfl⟩ | ⟨h6, hM, rfl⟩
  · rcases h7 with ⟨rfl, y0, y1, hM2, rfl⟩ | ⟨h7, hM2, rfl⟩
    · subst hM; subst hM2; exact ⟨rfl, inv_id I⟩
    · rcases h7 with ⟨h, -⟩ | ⟨h, -⟩
      · exact absurd h x0
      · exact absurd h x1
  · rcases h7 with ⟨rfl, y0, y1, hM2, rfl⟩ | ⟨h7, hM2, rfl⟩
    · rcases h6 with ⟨h, -⟩ | ⟨h, -⟩
      · exact absurd h y0
      · exact absurd h y1
    · refine ⟨?_, hM2 ▸ hfm hM⟩
      rw [hr] at h7
      rcases h6 with ⟨hx, rfl⟩ | ⟨hx, rfl⟩
      · rcases h7 with ⟨hy, rfl⟩ | ⟨hy, rfl⟩
        · rfl
        · exact absurd (hx.symm.trans hy) (by decide)
      · rcases h7 with ⟨hy, rfl⟩ | ⟨hy, rfl⟩
        · exact absurd (hx.symm.trans hy) (by decide)
        · rfl
theorem b_chance {c : Nat} {M M1 M2 : ks_M} {L L1 L2 : ks_L} {x : Int32} {z : Int32} {u : Int32} {v : Int32} {b : Nat} {r1 r2 : Int32} (I : INV c M L) (hc : c ≤ 100) (h6 : Q6_chance M L x z u v b r1 M1 L1) (h7 : Q7_chance M1 L1 x z u v b (M 6) (cp7 (M 8) (M 7)) r2 M2 L2) : r1 = r2 ∧ INV (c + 1) M2 L2 := by
  have hf := a_chance h6
  unfold Q6_chance at h6
  unfold Q7_chance at h7
  have hn := inv_n7 I hf
  have hfin : (∀ a, a ≠ 8 → a ≠ 43 → M1 a = M a) → (∀ a, a ≠ 44 → a ≠ 50 → a ≠ 60 → M2 a = M1 a) → (∀ k, k ≠ 29 → M2 44 k = M1 44 k) → L2 = L1 → L1 = L → INV (c + 1) M2 L2 := fun q1 q2 q3 q4 q5 => by
    subst q4; subst q5
    refine inv_fr I (fun k hk => (q3 k (by omega)).trans (by rw [q1 44 (by decide) (by decide)])) (fun a ha => ?_) I.2.2.2.2.2.2.2.2
    unfold KPT at ha
    exact (q2 a (by omega) (by omega) (by omega)).trans (q1 a (by omega) (by omega))
  rw [hn] at h7
  rcases h6 with ⟨rfl, hno, rfl, rfl⟩ | ⟨n, ro, j, y, h1, h2, hx, hz, h3, hu, h4, hv, hr, hfr, hL⟩
  · rcases h7 with ⟨rfl, hno2, rfl, rfl⟩ | ⟨n2, r2, j2, y2, g1, g2, gx, gz, g3, gu, g4, gv, -⟩
    · exact ⟨rfl, inv_id I⟩
    · exact absurd ⟨n2, r2, j2, y2, g1, g2, gx, gz, g3, gu, g4, gv⟩ hno
  · rcases h7 with ⟨rfl, hno2, rfl, rfl⟩ | ⟨n2, r2, j2, y2, g1, g2, gx, gz, g3, gu, g4, gv, gr, gfa, gfc, gL⟩
    · exact absurd ⟨n, ro, j, y, h1, h2, hx, hz, h3, hu, h4, hv⟩ hno2
    · obtain rfl : n = n2 := nI_inj (by omega) (by omega) (hx.symm.trans gx)
      obtain rfl : ro = r2 := okr_one (by omega) hz gz
      obtain rfl : j = j2 := nI_inj (by omega) (by omega) (hu.symm.trans gu)
      obtain rfl : y = y2 := nI_inj (by omega) (by omega) (hv.symm.trans gv)
      refine ⟨?_, hfin hfr gfa gfc gL hL⟩
      rcases hr with ⟨⟨q, hq, hb⟩, rfl⟩ | ⟨ha, g, hg, rfl⟩
      · rcases gr with ⟨-, rfl⟩ | ⟨ga, -⟩
        · rfl
        · exact absurd (ga q hq) hb
      · rcases gr with ⟨⟨q, hq, hb⟩, rfl⟩ | ⟨ga, w, hw, rfl⟩
        · exact absurd (ha q hq) hb
        · rw [goo_c (gat_c hg hw)]
