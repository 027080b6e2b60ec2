/-! Equal answers, and the invariant behind: text, street, seen, slots, seed, undo -/
/-- the text changed on both sides -/
theorem inv_text {c : Nat} {M M2 : ks_M} {L : ks_L} (I : INV c M L) (h44 : ∀ k, k ≠ 2 → M2 44 k = M 44 k) (hf : ∀ a, a ≠ 1 → a ≠ 2 → a ≠ 44 → a ≠ 45 → M2 a = M a) (ht : tx (M2 1 1) (M2 2) (M2 45) (M2 44 2)) : INV (c + 1) M2 L := by
  obtain ⟨i0, i1, i2, i3, i4, i5, i6, i7, i8⟩ := I
  have g : ∀ a, (a = 0 ∨ 3 ≤ a) → a ≠ 44 → a ≠ 45 → M2 a = M a := fun a q1 q2 q3 => hf a (by omega) (by omega) q2 q3
  have e3 : M2 3 = M 3 := g 3 (by decide) (by decide) (by decide)
  exact ⟨(h44 0 (by decide)).trans i0, ht, t_sp i2 e3 (h44 4 (by decide)) (g 4 (by decide) (by decide) (by decide)) (g 5 (by decide) (by decide) (by decide)) (g 6 (by decide) (by decide) (by decide)) (g 46 (by decide) (by decide) (by decide)) (g 47 (by decide) (by decide) (by decide)), t_pp i3 (by omega) e3 (g 7 (by decide) (by decide) (by decide)) (g 49 (by decide) (by decide) (by decide)), by rw [g 49 (by decide) (by decide) (by decide)]; exact i4, t_ap i5 (by omega) e3 (g 9 (by decide) (by decide) (by decide)) (h44 14 (by decide)) (g 52 (by decide) (by decide) (by decide)) (fun a q1 q2 => g a (by omega) (by omega) (by omega)), t_kp i6 (by omega) e3 (g 0 (by decide) (by decide) (by decide)) (g 53 (by decide) (by decide) (by decide)) (g 54 (by decide) (by decide) (by decide)) (g 41 (by decide) (by decide) (by decide)) (g 42 (by decide) (by decide) (by decide)), t_ep i7 (fun a q1 q2 => g a (by omega) (by omega) (by omega)) (h44 17 (by decide)) (fun a q1 q2 => g a (by omega) (by omega) (by omega)), i8⟩
/-- what is seen changed on both sides -/
theorem inv_seen {c : Nat} {M M2 : ks_M} {L : ks_L} (I : INV c M L) (h44 : ∀ k, k ≠ 17 → M2 44 k = M 44 k) (hf : ∀ a, (a < 35 ∨ (40 ≤ a ∧ a < 44) ∨ (45 ≤ a ∧ a < 55)) → M2 a = M a) (ht : ep (M2 35 4) (M2 44 17) (M2 36) (M2 37) (M2 38) (M2 39) (M2 55) (M2 56) (M2 57) (M2 58)) : INV (c + 1) M2 L := by
  obtain ⟨i0, i1, i2, i3, i4, i5, i6, i7, i8⟩ := I
  have e3 : M2 3 = M 3 := hf 3 (by decide)
  exact ⟨(h44 0 (by decide)).trans i0, t_tx i1 (hf 1 (by decide)) (hf 2 (by decide)) (hf 45 (by decide)) (h44 2 (by decide)), t_sp i2 e3 (h44 4 (by decide)) (hf 4 (by decide)) (hf 5 (by decide)) (hf 6 (by decide)) (hf 46 (by decide)) (hf 47 (by decide)), t_pp i3 (by omega) e3 (hf 7 (by decide)) (hf 49 (by decide)), by rw [hf 49 (by decide)]; exact i4, t_ap i5 (by omega) e3 (hf 9 (by decide)) (h44 14 (by decide)) (hf 52 (by decide)) (fun a q1 q2 => hf a (by omega)), t_kp i6 (by omega) e3 (hf 0 (by decide)) (hf 53 (by decide)) (hf 54 (by decide)) (hf 41 (by decide)) (hf 42 (by decide)), ht, i8⟩
theorem up1f {M : ks_M} {i k v : Nat} : up2 M i k v i = up1 (M i) k v := by funext b; unfold up2 up1; by_cases h : b = k <;> simp [h]
theorem lt_up1 {x : Nat → Nat} {k v b : Nat} (h : ∀ i, x i < b) (hv : v < b) : ∀ i, up1 x k v i < b := fun i => by
  unfold up1; split
  · exact hv
  · exact h i
theorem b_write {c : Nat} {M M1 M2 : ks_M} {L L1 L2 : ks_L} {x : Int32} {r1 r2 : Int32} (I : INV c M L) (hc : c ≤ 100) (h6 : Q6_write M L x r1 M1 L1) (h7 : Q7_write M1 L1 x r2 M2 L2) : r1 = r2 ∧ INV (c + 1) M2 L2 := by
  have hf := a_write h6
  unfold Q6_write at h6
  unfold Q7_write at h7
  obtain ⟨t0, t1, t2⟩ := I.2.1
  have hl : M1 44 2 = M1 44 2 := rfl
  rcases h6 with ⟨rfl, hno, rfl, rfl⟩ | ⟨b, rfl, hb, hx, hlen, rfl, rfl⟩ | ⟨b, rfl, hb, hx, hlen, hM, rfl⟩
  · rcases h7 with ⟨rfl, hno2, rfl, rfl⟩ | ⟨w, rfl, hw, hy, glen, rfl, rfl⟩ | ⟨w, rfl, hw, hy, glen, rfl, rfl⟩
    · exact ⟨rfl, inv_id I⟩
    · exact absurd hy (hno w hw)
    · exact absurd hy (hno w hw)
  · rcases h7 with ⟨rfl, hno2, rfl, rfl⟩ | ⟨w, rfl, hw, hy, glen, rfl, rfl⟩ | ⟨w, rfl, hw, hy, glen, rfl, rfl⟩
    · exact absurd hx (hno2 b hb)
    · exact ⟨rfl, inv_id I⟩
    · omega
  · have e44 := F7_44 hf 2
    rcases h7 with ⟨rfl, hno2, rfl, rfl⟩ | ⟨w, rfl, hw, hy, glen, rfl, rfl⟩ | ⟨w, rfl, hw, hy, glen, hM2, rfl⟩
    · exact absurd hx (hno2 b hb)
    · omega
    · obtain rfl : b = w := nI_inj (by omega) (by omega) (hx.symm.trans hy)
      refine ⟨by rw [e44, t0], inv_text I (fun k hk => ?_) (fun a q1 q2 q3 q4 => ?_) ?_⟩
      · rw [hM2, up2_k hk, up2_o (by decide)]; exact F7_44 hf k
      · rw [hM2, hM]; funext z; rw [up2_o q3, up2_o q4, up2_o q1, up2_o q2]
      · have d1 : M2 1 1 = M 1 1 + 1 := by rw [hM2, up2_o (by decide), up2_o (by decide), hM, up2_s]
        have d2 : M2 2 = up1 (M 2) (M 1 1) b := by funext z; rw [hM2, up2_o (by decide), up2_o (by decide), hM, up2_o (by decide), up1f]
        have d45 : M2 45 = up1 (M 45) (M 1 1) b := by funext z; rw [hM2, up2_o (by decide), up1f, e44, t0, hf.1 45 (by decide)]
        have d44 : M2 44 2 = M 1 1 + 1 := by rw [hM2, up2_s, e44, t0]
        rw [d1, d2, d45, d44]
        refine ⟨rfl, by omega, fun k hk => ?_⟩
        by_cases e : k = M 1 1
        · subst e; rw [up1_s, up1_s]; exact ⟨rfl, hb⟩
        · rw [up1_o e, up1_o e]; exact t2 k (by omega)
theorem b_wipe {c : Nat} {M M1 M2 : ks_M} {L L1 L2 : ks_L}  {r1 r2 : Int32} (I : INV c M L) (hc : c ≤ 100) (h6 : Q6_wipe M L  r1 M1 L1) (h7 : Q7_wipe M1 L1  r2 M2 L2) : r1 = r2 ∧ INV (c + 1) M2 L2 := by
  have hf := a_wipe h6
  unfold Q6_wipe at h6
  unfold Q7_wipe at h7
  obtain ⟨t0, t1, t2⟩ := I.2.1
  have e44 := F7_44 hf 2
  obtain ⟨rfl, hM, rfl⟩ := h6
  obtain ⟨rfl, hM2, rfl⟩ := h7
  refine ⟨by rw [e44, t0], inv_text I (fun k hk => ?_) (fun a q1 q2 q3 q4 => ?_) ?_⟩
  · rw [hM2, up2_k hk]; exact F7_44 hf k
  · rw [hM2, hM]; funext z; rw [up2_o q3, up2_o q1]
  · have d1 : M2 1 1 = 0 := by rw [hM2, up2_o (by decide), hM, up2_s]
    have d44 : M2 44 2 = 0 := by rw [hM2, up2_s]
    rw [d1, d44]
    exact ⟨rfl, Nat.zero_le _, fun k hk => absurd hk (Nat.not_lt_zero _)⟩
theorem b_unsee {c : Nat} {M M1 M2 : ks_M} {L L1 L2 : ks_L}  {r1 r2 : Int32} (I : INV c M L) (hc : c ≤ 100) (h6 : Q6_unsee M L  r1 M1 L1) (h7 : Q7_unsee M1 L1  r2 M2 L2) : r1 = r2 ∧ INV (c + 1) M2 L2 := by
  have hf := a_unsee h6
  unfold Q6_unsee at h6
  unfold Q7_unsee at h7
  obtain ⟨t0, t1, ⟨s1, s2, s3, s4⟩, t3, t4, t5, t6⟩ := I.2.2.2.2.2.2.2.1
  have e44 := F7_44 hf 17
  obtain ⟨rfl, hM, rfl⟩ := h6
  obtain ⟨rfl, hM2, rfl⟩ := h7
  have g : ∀ a, a ≠ 35 → a ≠ 44 → M2 a = M a := fun a q1 q2 => by rw [hM2, hM]; funext z; rw [up2_o q2, up2_o q1]
  refine ⟨by rw [e44, t0], inv_seen I (fun k hk => ?_) (fun a q1 => g a (by omega) (by omega)) ?_⟩
  · rw [hM2, up2_k hk]; exact F7_44 hf k
  · have d1 : M2 35 4 = 0 := by rw [hM2, up2_o (by decide), hM, up2_s]
    have d44 : M2 44 17 = 0 := by rw [hM2, up2_s]
    rw [d1, d44, g 36 (by decide) (by decide), g 37 (by decide) (by decide), g 38 (by decide) (by decide), g 39 (by decide) (by decide), g 55 (by decide) (by decide), g 56 (by decide) (by decide), g 57 (by decide) (by decide), g 58 (by decide) (by decide)]
    exact ⟨rfl, Nat.zero_le _, ⟨s1, s2, s3, s4⟩, t3, t4, t5, t6⟩
theorem b_see {c : Nat} {M M1 M2 : ks_M} {L L1 L2 : ks_L} {x : Int32} {y : Int32} {z : Int32} {u : Int32} {r1 r2 : Int32} (I : INV c M L) (hc : c ≤ 100) (h6 : Q6_see M L x y z u r1 M1 L1) (h7 : Q7_see M1 L1 x y z u r2 M2 L2) : r1 = r2 ∧ INV (c + 1) M2 L2 := by
  have hf := a_see h6
  unfold Q6_see at h6
  unfold Q7_see at h7
  obtain ⟨t0, t1, ⟨s1, s2, s3, s4⟩, t3, t4, t5, t6⟩ := I.2.2.2.2.2.2.2.1
  have e44 := F7_44 hf 17
  have hn := inv_n7 I hf
  have hn6 := inv_n6 I
  obtain ⟨h6, rfl⟩ := h6
  obtain ⟨h7, rfl⟩ := h7
  rw [hn] at h7
  rcases h6 with ⟨rfl, hno, hM⟩ | ⟨q, hq, hx, h6⟩
  · rcases h7 with ⟨rfl, hno2, rfl⟩ | ⟨w, hw, hy, -⟩
    · subst hM; exact ⟨rfl, inv_id I⟩
    · exact absurd hy (hno w hw)
  · rcases h7 with ⟨rfl, hno2, rfl⟩ | ⟨w, hw, hy, h7⟩
    · exact absurd hx (hno2 q hq)
    · obtain rfl : q = w := nI_inj (by omega) (by omega) (hx.symm.trans hy)
      rcases h6 with ⟨rfl, hb, hM⟩ | ⟨p1, p2, p3, b1, b2, b3, z1, z2, z3, h6⟩
      · rcases h7 with ⟨rfl, hb2, rfl⟩ | ⟨k1, k2, k3, g1, g2, g3, y1, y2, y3, -⟩
        · subst hM; exact ⟨rfl, inv_id I⟩
        · exact absurd ⟨k1, k2, k3, g1, g2, g3, y1, y2, y3⟩ hb
      · rcases h7 with ⟨rfl, hb2, rfl⟩ | ⟨k1, k2, k3, g1, g2, g3, y1, y2, y3, h7⟩
        · exact absurd ⟨p1, p2, p3, b1, b2, b3, z1, z2, z3⟩ hb2
        · obtain rfl : p1 = k1 := nI_inj (by omega) (by omega) (z1.symm.trans y1)
          obtain rfl : p2 = k2 := nI_inj (by omega) (by omega) (z2.symm.trans y2)
          obtain rfl : p3 = k3 := nI_inj (by omega) (by omega) (z3.symm.trans y3)
          rw [e44, t0] at h7
          rcases h6 with ⟨c6, rfl, hM⟩ | ⟨c6, rfl, hM⟩
          · rcases h7 with ⟨c7, rfl, rfl⟩ | ⟨c7, rfl, rfl⟩
            · subst hM; exact ⟨rfl, inv_id I⟩
            · omega
          · rcases h7 with ⟨c7, rfl, rfl⟩ | ⟨c7, rfl, hM2⟩
            · omega
            · unfold add6 at hM
              unfold add7 at hM2
              rw [e44, t0] at hM2
              have g : ∀ a, (a < 35 ∨ (40 ≤ a ∧ a < 44) ∨ (45 ≤ a ∧ a < 55)) → M2 a = M a := fun a q1 => by
                rw [hM2, hM]; funext z
                rw [up2_o (by omega), up2_o (by omega), up2_o (by omega), up2_o (by omega), up2_o (by omega), up2_o (by omega), up2_o (by omega), up2_o (by omega), up2_o (by omega), up2_o (by omega)]
              refine ⟨rfl, inv_seen I (fun k hk => ?_) g ?_⟩
              · rw [hM2, up2_k hk, up2_o (by decide), up2_o (by decide), up2_o (by decide), up2_o (by decide)]; exact F7_44 hf k
              · have d35 : M2 35 4 = M 35 4 + 1 := by rw [hM2, up2_o (by decide), up2_o (by decide), up2_o (by decide), up2_o (by decide), up2_o (by decide), hM, up2_s]
                have d44 : M2 44 17 = M 35 4 + 1 := by rw [hM2, up2_s]
                have d36 : M2 36 = up1 (M 36) (M 35 4) q := by funext z; rw [hM2, up2_o (by decide), up2_o (by decide), up2_o (by decide), up2_o (by decide), up2_o (by decide), hM, up2_o (by decide), up2_o (by decide), up2_o (by decide), up2_o (by decide), up1f]
                have d37 : M2 37 = up1 (M 37) (M 35 4) p1 := by funext z; rw [hM2, up2_o (by decide), up2_o (by decide), up2_o (by decide), up2_o (by decide), up2_o (by decide), hM, up2_o (by decide), up2_o (by decide), up2_o (by decide), up1f, show up2 M 36 (M 35 4) q 37 = M 37 from by funext z; rw [up2_o (by decide)]]
                have d38 : M2 38 = up1 (M 38) (M 35 4) p2 := by funext z; rw [hM2, up2_o (by decide), up2_o (by decide), up2_o (by decide), up2_o (by decide), up2_o (by decide), hM, up2_o (by decide), up2_o (by decide), up1f, show up2 (up2 M 36 (M 35 4) q) 37 (M 35 4) p1 38 = M 38 from by funext z; rw [up2_o (by decide), up2_o (by decide)]]
                have d39 : M2 39 = up1 (M 39) (M 35 4) p3 := by funext z; rw [hM2, up2_o (by decide), up2_o (by decide), up2_o (by decide), up2_o (by decide), up2_o (by decide), hM, up2_o (by decide), up1f, show up2 (up2 (up2 M 36 (M 35 4) q) 37 (M 35 4) p1) 38 (M 35 4) p2 39 = M 39 from by funext z; rw [up2_o (by decide), up2_o (by decide), up2_o (by decide)]]
                have d55 : M2 55 = up1 (M 36) (M 35 4) q := by funext z; rw [hM2, up2_o (by decide), up2_o (by decide), up2_o (by decide), up2_o (by decide), up1f, hf.1 55 (by decide), s1]
                have d56 : M2 56 = up1 (M 37) (M 35 4) p1 := by funext z; rw [hM2, up2_o (by decide), up2_o (by decide), up2_o (by decide), up1f, show up2 M1 55 (M 35 4) q 56 = M 37 from by funext z; rw [up2_o (by decide), hf.1 56 (by decide), s2]]
                have d57 : M2 57 = up1 (M 38) (M 35 4) p2 := by funext z; rw [hM2, up2_o (by decide), up2_o (by decide), up1f, show up2 (up2 M1 55 (M 35 4) q) 56 (M 35 4) p1 57 = M 38 from by funext z; rw [up2_o (by decide), up2_o (by decide), hf.1 57 (by decide), s3]]
                have d58 : M2 58 = up1 (M 39) (M 35 4) p3 := by funext z; rw [hM2, up2_o (by decide), up1f, show up2 (up2 (up2 M1 55 (M 35 4) q) 56 (M 35 4) p1) 57 (M 35 4) p2 58 = M 39 from by funext z; rw [up2_o (by decide), up2_o (by decide), up2_o (by decide), hf.1 58 (by decide), s4]]
                rw [d35, d44, d36, d37, d38, d39, d55, d56, d57, d58]
                exact ⟨rfl, by omega, ⟨rfl, rfl, rfl, rfl⟩, lt_up1 t3 (by omega), lt_up1 t4 (by omega), lt_up1 t5 (by omega), lt_up1 t6 (by omega)⟩
theorem b_shapes {c : Nat} {M M1 M2 : ks_M} {L L1 L2 : ks_L} {x : Int32} {r1 r2 : Int32} (I : INV c M L) (hc : c ≤ 100) (h6 : Q6_shapes M L x r1 M1 L1) (h7 : Q7_shapes M1 L1 x r2 M2 L2) : r1 = r2 ∧ INV (c + 1) M2 L2 := by
  have hf := a_shapes h6
  unfold Q6_shapes at h6
  unfold Q7_shapes at h7
  obtain ⟨t0, t1, ⟨s1, s2, s3, s4⟩, t3, t4, t5, t6⟩ := I.2.2.2.2.2.2.2.1
  have e44 := F7_44 hf 17
  have hn := inv_n7 I hf
  have hn6 := inv_n6 I
  obtain ⟨h6, rfl, rfl⟩ := h6
  obtain ⟨h7, rfl, rfl⟩ := h7
  rw [hn, t0, s1, s2, s3, s4] at h7
  refine ⟨?_, inv_id I⟩
  rcases h6 with ⟨rfl, hno⟩ | ⟨k, b, hk, hx, rfl, hs⟩
  · rcases h7 with ⟨rfl, hno2⟩ | ⟨w, b2, hw, hy, -⟩
    · rfl
    · exact absurd hy (hno w hw)
  · rcases h7 with ⟨rfl, hno2⟩ | ⟨w, b2, hw, hy, rfl, hs2⟩
    · exact absurd hx (hno2 k hk)
    · obtain rfl : k = w := nI_inj (by omega) (by omega) (hx.symm.trans hy)
      rw [shq_one hs hs2]
theorem b_seed {c : Nat} {M M1 M2 : ks_M} {L L1 L2 : ks_L} {v : Int64} {r1 r2 : Int64} (I : INV c M L) (hc : c ≤ 100) (h6 : Q6_seed M L v r1 M1 L1) (h7 : Q7_seed M1 L1 v r2 M2 L2) : r1 = r2 ∧ INV (c + 1) M2 L2 := by
  have hf := a_seed h6
  unfold Q6_seed at h6
  unfold Q7_seed at h7
  have h0 := I.2.2.2.2.2.2.2.2
  obtain ⟨rfl, rfl, rfl⟩ := h6
  obtain ⟨rfl, rfl, rfl⟩ := h7
  refine ⟨by simp [upl, h0], inv_fr I (fun _ _ => rfl) (fun _ _ => rfl) (by simp [upl])⟩
theorem b_undo {c : Nat} {M M1 M2 : ks_M} {L L1 L2 : ks_L}  {r1 r2 : Int32} (I : INV c M L) (hc : c ≤ 100) (h6 : Q6_undo M L  r1 M1 L1) (h7 : Q7_undo M1 L1  r2 M2 L2) : r1 = r2 ∧ INV (c + 1) M2 L2 := by
  have hf := a_undo h6
  unfold Q6_undo at h6
  unfold Q7_undo at h7
  have hI := I
  obtain ⟨i0, i1, i2, i3, i4, i5, i6, i7, i8⟩ := I
  obtain ⟨a0, a1, a2, a3⟩ := id i5
  have e44 := F7_44 hf 14
  obtain ⟨h6, rfl⟩ := h6
  obtain ⟨h7, rfl⟩ := h7
  rw [e44, a0] at h7
  rcases h6 with ⟨c0, rfl, hM⟩ | ⟨c0, rfl, hM⟩
  · rcases h7 with ⟨d0, rfl, rfl⟩ | ⟨d0, rfl, rfl⟩
    · subst hM; exact ⟨rfl, inv_id hI⟩
    · omega
  · rcases h7 with ⟨d0, rfl, rfl⟩ | ⟨d0, rfl, hM2⟩
    · omega
    · unfold bk6 at hM
      unfold un7 at hM2
      rw [e44, a0] at hM2
      have g : ∀ a, a ≠ 7 → a ≠ 9 → a ≠ 44 → a ≠ 49 → M2 a = M a := fun a q1 q2 q3 q4 => by
        rw [hM2, cpr_o q4, show up2 M1 44 14 (M 9 2 - 1) a = M1 a from by (funext z; exact up2_o q3), hM, sr_o q1]; funext z; exact up2_o q2
      have g44 : ∀ k, k ≠ 14 → M2 44 k = M 44 k := fun k hk => by rw [hM2, cpr_o (by decide), up2_k hk]; exact F7_44 hf k
      have e3 : M2 3 = M 3 := g 3 (by decide) (by decide) (by decide) (by decide)
      have h9a : M2 9 2 = M 9 2 - 1 := by rw [hM2, cpr_o (by decide), up2_o (by decide), hM, sr_o (by decide), up2_s]
      have h9b : M2 9 1 = M 9 1 := by rw [hM2, cpr_o (by decide), up2_o (by decide), hM, sr_o (by decide), up2_k (by decide)]
      have h14 : M2 44 14 = M 9 2 - 1 := by rw [hM2, cpr_o (by decide), up2_s]
      have h7r : M2 7 = cp7 (M 7) (M (11 + (M 9 1 + (M 9 2 - 1)) % 14)) := by
        rw [hM2, cpr_o (by decide), show up2 M1 44 14 (M 9 2 - 1) 7 = M1 7 from by (funext z; exact up2_o (by decide)), hM, sr_s]
      have h49 : ∀ j, M2 49 j = if j < 12 then M 52 (12 * (M 9 2 - 1) + j) else M 49 j := fun j => by
        rw [hM2, cpr, sr_s]
        by_cases hj : j < 12
        · rw [if_pos (by omega), if_pos hj, up2_o (by decide), hf.1 52 (by decide)]; congr 1
        · rw [if_neg (by omega), if_neg hj, up2_o (by decide), hf.1 49 (by decide)]
      refine ⟨rfl, (g44 0 (by decide)).trans i0, t_tx i1 (g 1 (by decide) (by decide) (by decide) (by decide)) (g 2 (by decide) (by decide) (by decide) (by decide)) (g 45 (by decide) (by decide) (by decide) (by decide)) (g44 2 (by decide)), t_sp i2 e3 (g44 4 (by decide)) (g 4 (by decide) (by decide) (by decide) (by decide)) (g 5 (by decide) (by decide) (by decide) (by decide)) (g 6 (by decide) (by decide) (by decide) (by decide)) (g 46 (by decide) (by decide) (by decide) (by decide)) (g 47 (by decide) (by decide) (by decide) (by decide)), ?_, fun h hh => by rw [h49, if_neg (by omega)]; exact i4 h hh, ?_, t_kp i6 (by omega) e3 (g 0 (by decide) (by decide) (by decide) (by decide)) (g 53 (by decide) (by decide) (by decide) (by decide)) (g 54 (by decide) (by decide) (by decide) (by decide)) (g 41 (by decide) (by decide) (by decide) (by decide)) (g 42 (by decide) (by decide) (by decide) (by decide)), t_ep i7 (fun a q1 q2 => g a (by omega) (by omega) (by omega) (by omega)) (g44 17 (by decide)) (fun a q1 q2 => g a (by omega) (by omega) (by omega) (by omega)), i8⟩
      · rw [e3, h7r]
        exact pp_cp (pp_y (pp_m (a3 (M 9 2 - 1) (by omega)) (by omega)) (fun j hj => by rw [h49, if_pos hj]))
      · rw [e3, h9a, h9b, h14, g 52 (by decide) (by decide) (by decide) (by decide)]
        exact ⟨rfl, by omega, a2, fun k hk => by
          show pp _ _ (M2 (11 + (M 9 1 + k) % 14)) _
          rw [g (11 + (M 9 1 + k) % 14) (by omega) (by omega) (by omega) (by omega)]
          exact pp_m (a3 k (by omega)) (by omega)⟩
theorem b_keep {c : Nat} {M M1 M2 : ks_M} {L L1 L2 : ks_L} {x : Int32} {r1 r2 : Int32} (I : INV c M L) (hc : c ≤ 100) (h6 : Q6_keep M L x r1 M1 L1) (h7 : Q7_keep M1 L1 x r2 M2 L2) : r1 = r2 ∧ INV (c + 1) M2 L2 := by
  have hf := a_keep h6
  unfold Q6_keep at h6
  unfold Q7_keep at h7
  have hI := I
  obtain ⟨i0, i1, i2, i3, i4, i5, i6, i7, i8⟩ := I
  obtain ⟨k0, k1, k2⟩ := id i6
  obtain ⟨h6, rfl⟩ := h6
  obtain ⟨h7, rfl⟩ := h7
  have e492 : M1 49 2 = M 7 2 := by rw [hf.1 49 (by decide)]; exact i3.1.1 2 (by decide)
  rw [e492] at h7
  rcases h6 with ⟨rfl, hno, hM⟩ | ⟨j, hj, hx, rfl, hM⟩
  · rcases h7 with ⟨rfl, hno2, rfl⟩ | ⟨w, hw, hy, -⟩
    · subst hM; exact ⟨rfl, inv_id hI⟩
    · exact absurd hy (hno w hw)
  · rcases h7 with ⟨rfl, hno2, rfl⟩ | ⟨w, hw, hy, rfl, hM2⟩
    · exact absurd hx (hno2 j hj)
    · obtain rfl : j = w := nI_inj (by omega) (by omega) (hx.symm.trans hy)
      unfold keep6 at hM
      unfold keep7 at hM2
      have g : ∀ a, a ≠ 0 → a ≠ 41 + j → a ≠ 53 → a ≠ 54 → M2 a = M a := fun a q1 q2 q3 q4 => by
        rw [hM2, cpr_o q3, show up2 M1 54 j 1 a = M1 a from by (funext z; exact up2_o q4), hM, show up2 (sr M (41 + j) (cp7 (M (41 + j)) (M 7))) 0 9 (M 0 9 ||| 1 <<< j) a = sr M (41 + j) (cp7 (M (41 + j)) (M 7)) a from by (funext z; exact up2_o q1), sr_o q2]
      have e3 : M2 3 = M 3 := g 3 (by decide) (by omega) (by decide) (by decide)
      have h09 : M2 0 9 = M 0 9 ||| 1 <<< j := by rw [hM2, cpr_o (by decide), up2_o (by decide), hM, up2_s]
      have h54 : ∀ q, M2 54 q = if q = j then 1 else M 54 q := fun q => by
        rw [hM2, cpr_o (by decide)]
        by_cases e : q = j
        · subst e; rw [up2_s, if_pos rfl]
        · rw [up2_k e, if_neg e, hf.1 54 (by decide)]
      have h41 : ∀ s, s < 2 → M2 (41 + s) = if s = j then cp7 (M (41 + s)) (M 7) else M (41 + s) := fun s hs => by
        rw [hM2, cpr_o (by omega), show up2 M1 54 j 1 (41 + s) = M1 (41 + s) from by (funext z; exact up2_o (by omega)), hM, show up2 (sr M (41 + j) (cp7 (M (41 + j)) (M 7))) 0 9 (M 0 9 ||| 1 <<< j) (41 + s) = sr M (41 + j) (cp7 (M (41 + j)) (M 7)) (41 + s) from by (funext z; exact up2_o (by omega))]
        by_cases e : s = j
        · subst e; rw [if_pos rfl, sr_s]
        · rw [if_neg e, sr_o (by omega)]
      have h53 : ∀ q, M2 53 q = if 12 * j ≤ q ∧ q < 12 * j + 12 then M 49 (q - 12 * j) else M 53 q := fun q => by
        rw [hM2, cpr, sr_s]
        by_cases e : 12 * j ≤ q ∧ q < 12 * j + 12
        · rw [if_pos e, if_pos e, up2_o (by decide), hf.1 49 (by decide)]; congr 1; omega
        · rw [if_neg e, if_neg e, up2_o (by decide), hf.1 53 (by decide)]
      have hbit : ∀ b, b < 4 → ∀ j, j < 2 → (b ||| 1 <<< j) < 4 ∧ ((b ||| 1 <<< j) >>> j &&& 1 = 1) ∧ ∀ s, s < 2 → s ≠ j → (b ||| 1 <<< j) >>> s &&& 1 = b >>> s &&& 1 := by decide +kernel
      obtain ⟨b0, b1, b2⟩ := hbit (M 0 9) k0 j hj
      refine ⟨rfl, (congrFun (g 44 (by decide) (by omega) (by decide) (by decide)) 0).trans i0, t_tx i1 (g 1 (by decide) (by omega) (by decide) (by decide)) (g 2 (by decide) (by omega) (by decide) (by decide)) (g 45 (by decide) (by omega) (by decide) (by decide)) (congrFun (g 44 (by decide) (by omega) (by decide) (by decide)) 2), t_sp i2 e3 (congrFun (g 44 (by decide) (by omega) (by decide) (by decide)) 4) (g 4 (by decide) (by omega) (by decide) (by decide)) (g 5 (by decide) (by omega) (by decide) (by decide)) (g 6 (by decide) (by omega) (by decide) (by decide)) (g 46 (by decide) (by omega) (by decide) (by decide)) (g 47 (by decide) (by omega) (by decide) (by decide)), t_pp i3 (by omega) e3 (g 7 (by decide) (by omega) (by decide) (by decide)) (g 49 (by decide) (by omega) (by decide) (by decide)), by rw [g 49 (by decide) (by omega) (by decide) (by decide)]; exact i4, t_ap i5 (by omega) e3 (g 9 (by decide) (by omega) (by decide) (by decide)) (congrFun (g 44 (by decide) (by omega) (by decide) (by decide)) 14) (g 52 (by decide) (by omega) (by decide) (by decide)) (fun a q1 q2 => g a (by omega) (by omega) (by omega) (by omega)), ?_, t_ep i7 (fun a q1 q2 => g a (by omega) (by omega) (by omega) (by omega)) (congrFun (g 44 (by decide) (by omega) (by decide) (by decide)) 17) (fun a q1 q2 => g a (by omega) (by omega) (by omega) (by omega)), i8⟩
      rw [e3, h09]
      refine ⟨b0, fun q => by rw [h54]; split; decide; exact k1 q, fun s hs => ?_⟩
      by_cases e : s = j
      · subst e
        refine Or.inr ⟨by rw [h54, if_pos rfl], b1, ?_⟩
        show pp _ _ (M2 (41 + s)) _
        rw [h41 s hs, if_pos rfl]
        exact pp_cp (pp_y (pp_m i3 (by omega)) (fun q hq => by show M2 53 (12 * s + q) = M 49 q; rw [h53, if_pos (by omega)]; congr 1; omega))
      · rw [h54, if_neg e, b2 s hs e]
        show _ ∨ (_ ∧ _ ∧ pp _ _ (M2 (41 + s)) _)
        rw [h41 s hs, if_neg e]
        rcases k2 s hs with h9 | ⟨h9, h8, h7⟩
        · exact Or.inl h9
        · exact Or.inr ⟨h9, h8, pp_y (pp_m h7 (by omega)) (fun q hq => by show M2 53 (12 * s + q) = M 53 (12 * s + q); rw [h53, if_neg (by omega)])⟩
theorem b_again {c : Nat} {M M1 M2 : ks_M} {L L1 L2 : ks_L} {x : Int32} {r1 r2 : Int32} (I : INV c M L) (hc : c ≤ 100) (h6 : Q6_again M L x r1 M1 L1) (h7 : Q7_again M1 L1 x r2 M2 L2) : r1 = r2 ∧ INV (c + 1) M2 L2 := by
  have hf := a_again h6
  unfold Q6_again at h6
  unfold Q7_again at h7
  have hI := I
  obtain ⟨i0, i1, i2, i3, i4, i5, i6, i7, i8⟩ := I
  obtain ⟨k0, k1, k2⟩ := id i6
  obtain ⟨h6, rfl⟩ := h6
  obtain ⟨h7, rfl⟩ := h7
  have e54 := hf.1 54 (by decide)
  have e53 := hf.1 53 (by decide)
  rw [e54, e53] at h7
  rcases h6 with ⟨rfl, hno, hM⟩ | ⟨j, hj, hx, h6⟩
  · rcases h7 with ⟨rfl, hno2, rfl⟩ | ⟨w, hw, hy, -⟩
    · subst hM; exact ⟨rfl, inv_id hI⟩
    · exact absurd hy (hno w hw)
  · rcases h7 with ⟨rfl, hno2, rfl⟩ | ⟨w, hw, hy, h7⟩
    · exact absurd hx (hno2 j hj)
    · obtain rfl : j = w := nI_inj (by omega) (by omega) (hx.symm.trans hy)
      have hk := k2 j hj
      rcases h6 with ⟨c0, rfl, hM⟩ | ⟨c0, rfl, hM⟩
      · rcases h7 with ⟨d0, rfl, rfl⟩ | ⟨d0, rfl, rfl⟩
        · subst hM; exact ⟨rfl, inv_id hI⟩
        · rcases hk with ⟨h1, -⟩ | ⟨-, h2, -⟩
          · exact absurd h1 d0
          · rw [c0] at h2; cases h2
      · rcases h7 with ⟨d0, rfl, rfl⟩ | ⟨d0, rfl, hM2⟩
        · rcases hk with ⟨-, h1⟩ | ⟨h2, -⟩
          · exact absurd h1 c0
          · rw [d0] at h2; cases h2
        · have hP : pp (M 3 3) c (M (41 + j)) (fun q => M 53 (12 * j + q)) := by
            rcases hk with ⟨h1, -⟩ | ⟨-, -, h3⟩
            · exact absurd h1 d0
            · exact h3
          unfold again6 at hM
          unfold again7 at hM2
          have g : ∀ a, a ≠ 7 → a ≠ 9 → a ≠ 44 → a ≠ 49 → M2 a = M a := fun a q1 q2 q3 q4 => by
            rw [hM2]
            show up2 (cpr M1 49 53 0 (12 * j) 12) 44 14 0 a = M a
            rw [show up2 (cpr M1 49 53 0 (12 * j) 12) 44 14 0 a = cpr M1 49 53 0 (12 * j) 12 a from by (funext z; exact up2_o q3), cpr_o q4, hM, show up2 (sr M 7 (cp7 (M 7) (M (41 + j)))) 9 2 0 a = sr M 7 (cp7 (M 7) (M (41 + j))) a from by (funext z; exact up2_o q2), sr_o q1]
          have g44 : ∀ k, k ≠ 14 → M2 44 k = M 44 k := fun k hk => by rw [hM2, up2_k hk, cpr_o (by decide)]; exact F7_44 hf k
          have e3 : M2 3 = M 3 := g 3 (by decide) (by decide) (by decide) (by decide)
          have h9a : M2 9 2 = 0 := by rw [hM2, up2_o (by decide), cpr_o (by decide), hM, up2_s]
          have h9b : M2 9 1 = M 9 1 := by rw [hM2, up2_o (by decide), cpr_o (by decide), hM, up2_k (by decide), sr_o (by decide)]
          have h14 : M2 44 14 = 0 := by rw [hM2, up2_s]
          have h7r : M2 7 = cp7 (M 7) (M (41 + j)) := by
            rw [hM2, show up2 (cpr M1 49 53 0 (12 * j) 12) 44 14 0 7 = cpr M1 49 53 0 (12 * j) 12 7 from by (funext z; exact up2_o (by decide)), cpr_o (by decide), hM, show up2 (sr M 7 (cp7 (M 7) (M (41 + j)))) 9 2 0 7 = sr M 7 (cp7 (M 7) (M (41 + j))) 7 from by (funext z; exact up2_o (by decide)), sr_s]
          have h49 : ∀ q, M2 49 q = if q < 12 then M 53 (12 * j + q) else M 49 q := fun q => by
            rw [hM2, up2_o (by decide), cpr, sr_s]
            by_cases hq : q < 12
            · rw [if_pos (by omega), if_pos hq, e53]; congr 1
            · rw [if_neg (by omega), if_neg hq, hf.1 49 (by decide)]
          refine ⟨congrArg nI (hP.1.1 2 (by decide)).symm, (g44 0 (by decide)).trans i0, t_tx i1 (g 1 (by decide) (by decide) (by decide) (by decide)) (g 2 (by decide) (by decide) (by decide) (by decide)) (g 45 (by decide) (by decide) (by decide) (by decide)) (g44 2 (by decide)), t_sp i2 e3 (g44 4 (by decide)) (g 4 (by decide) (by decide) (by decide) (by decide)) (g 5 (by decide) (by decide) (by decide) (by decide)) (g 6 (by decide) (by decide) (by decide) (by decide)) (g 46 (by decide) (by decide) (by decide) (by decide)) (g 47 (by decide) (by decide) (by decide) (by decide)), ?_, fun h hh => by rw [h49, if_neg (by omega)]; exact i4 h hh, ?_, t_kp i6 (by omega) e3 (g 0 (by decide) (by decide) (by decide) (by decide)) (g 53 (by decide) (by decide) (by decide) (by decide)) (g 54 (by decide) (by decide) (by decide) (by decide)) (g 41 (by decide) (by decide) (by decide) (by decide)) (g 42 (by decide) (by decide) (by decide) (by decide)), t_ep i7 (fun a q1 q2 => g a (by omega) (by omega) (by omega) (by omega)) (g44 17 (by decide)) (fun a q1 q2 => g a (by omega) (by omega) (by omega) (by omega)), i8⟩
          · rw [e3, h7r]
            exact pp_cp (pp_y (pp_m hP (by omega)) (fun q hq => by rw [h49, if_pos hq]))
          · rw [e3, h9a, h9b, h14]
            exact ⟨rfl, Nat.zero_le _, i5.2.2.1, fun k hk => absurd hk (Nat.not_lt_zero _)⟩
