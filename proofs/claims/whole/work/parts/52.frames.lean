/-! THE CALLS, class against reference: what both answer, and the invariant behind -/
def Q6_write (Mx : ks_M) (Lx : ks_L) (x : Int32) : Int32 → ks_M → ks_L → Prop := fun rr M1 L1 => (rr = (-2) ∧ (∀ b, b < 256 → x ≠ nI b) ∧ M1 = Mx ∧ L1 = Lx) ∨ (∃ b, rr = (-4) ∧ b < 256 ∧ x = nI b ∧ Mx 1 1 = 48 ∧ M1 = Mx ∧ L1 = Lx) ∨ (∃ b, rr = nI (Mx 1 1 + 1) ∧ b < 256 ∧ x = nI b ∧ Mx 1 1 < 48 ∧ M1 = up2 (up2 Mx 2 (Mx 1 1) b) 1 1 (Mx 1 1 + 1) ∧ L1 = Lx)
def Q7_write (Mx : ks_M) (Lx : ks_L) (x : Int32) : Int32 → ks_M → ks_L → Prop := fun rr M1 L1 => (rr = (-2) ∧ (∀ b, b < 256 → x ≠ nI b) ∧ M1 = Mx ∧ L1 = Lx) ∨ (∃ b, rr = (-4) ∧ b < 256 ∧ x = nI b ∧ Mx 44 2 = 48 ∧ M1 = Mx ∧ L1 = Lx) ∨ (∃ b, rr = nI (Mx 44 2 + 1) ∧ b < 256 ∧ x = nI b ∧ Mx 44 2 < 48 ∧ M1 = up2 (up2 Mx 45 (Mx 44 2) b) 44 2 (Mx 44 2 + 1) ∧ L1 = Lx)
def Q6_wipe (Mx : ks_M) (Lx : ks_L)  : Int32 → ks_M → ks_L → Prop := fun rr M1 L1 => rr = nI (Mx 1 1) ∧ M1 = up2 Mx 1 1 0 ∧ L1 = Lx
def Q7_wipe (Mx : ks_M) (Lx : ks_L)  : Int32 → ks_M → ks_L → Prop := fun rr M1 L1 => rr = nI (Mx 44 2) ∧ M1 = up2 Mx 44 2 0 ∧ L1 = Lx
def Q6_fault (Mx : ks_M) (Lx : ks_L)  : Int32 → ks_M → ks_L → Prop := fun rr M1 L1 => (∃ v, rr = nI v ∧ v ≤ Mx 1 1 ∧ badT (Mx 2) (Mx 1 1) v ∧ M1 = Mx ∧ L1 = Lx) ∨ (rr = (-9) ∧ okT (Mx 2) (Mx 1 1) ∧ M1 = Mx ∧ L1 = Lx)
def Q7_fault (Mx : ks_M) (Lx : ks_L)  : Int32 → ks_M → ks_L → Prop := fun rr M1 L1 => (∃ v, rr = nI v ∧ v ≤ Mx 44 2 ∧ badT (Mx 45) (Mx 44 2) v ∧ rsF Mx M1 ∧ L1 = Lx) ∨ (rr = (-9) ∧ okT (Mx 45) (Mx 44 2) ∧ rsF Mx M1 ∧ L1 = Lx)
def Q6_street (Mx : ks_M) (Lx : ks_L)  : Int32 → ks_M → ks_L → Prop := fun rr M1 L1 => ((rr = (-3) ∧ ¬ okT (Mx 2) (Mx 1 1) ∧ M1 = Mx) ∨ (okT (Mx 2) (Mx 1 1) ∧ rr = nI ((Mx 1 1 - 2) / 5) ∧ ∃ Mv, tkI Mx Mv ((Mx 1 1 - 2) / 5) ((Mx 1 1 - 2) / 5) (3 * ((Mx 1 1 - 2) / 5)) (6 * ((Mx 1 1 - 2) / 5)) ∧ M1 = up2 (up2 (bg6 Mv) 9 2 0) 0 9 0)) ∧ L1 = Lx
def Q7_street (Mx : ks_M) (Lx : ks_L)  : Int32 → ks_M → ks_L → Prop := fun rr M1 L1 => ((rr = (-3) ∧ ¬ okT (Mx 45) (Mx 44 2) ∧ rsF Mx M1) ∨ (okT (Mx 45) (Mx 44 2) ∧ rr = nI ((Mx 44 2 - 2) / 5) ∧ ∃ Mr Mv, rsI Mx Mr ((Mx 44 2 - 2) / 5) ∧ stI Mr Mv ((Mx 44 2 - 2) / 5) ((Mx 44 2 - 2) / 5) (3 * ((Mx 44 2 - 2) / 5)) ∧ M1 = bg7 Mv)) ∧ L1 = Lx
def Q6_about (Mx : ks_M) (Lx : ks_L) (x : Int32) : Int32 → ks_M → ks_L → Prop := fun rr M1 L1 => (∃ j, j ≤ 9 ∧ x = nI j ∧ rr = nI (ab6 Mx j) ∧ M1 = Mx ∧ L1 = Lx) ∨ (rr = (-2) ∧ (∀ j, j ≤ 9 → x ≠ nI j) ∧ M1 = Mx ∧ L1 = Lx)
def Q7_about (Mx : ks_M) (Lx : ks_L) (x : Int32) : Int32 → ks_M → ks_L → Prop := fun rr M1 L1 => (∃ j, j ≤ 9 ∧ x = nI j ∧ rr = nI (ab7 Mx j) ∧ M1 = Mx ∧ L1 = Lx) ∨ (rr = (-2) ∧ (∀ j, j ≤ 9 → x ≠ nI j) ∧ M1 = Mx ∧ L1 = Lx)
def Q6_house (Mx : ks_M) (Lx : ks_L) (x : Int32) (z : Int32) : Int32 → ks_M → ks_L → Prop := fun rr M1 L1 => ((rr = (-1) ∧ (∀ k, k < Mx 3 3 → x ≠ nI k)) ∨ (∃ k, k < Mx 3 3 ∧ x = nI k ∧ ((∃ j, j ≤ 4 ∧ z = nI j ∧ rr = nI (hv6 Mx k j)) ∨ (rr = (-2) ∧ ∀ j, j ≤ 4 → z ≠ nI j)))) ∧ M1 = Mx ∧ L1 = Lx
def Q7_house (Mx : ks_M) (Lx : ks_L) (x : Int32) (z : Int32) : Int32 → ks_M → ks_L → Prop := fun rr M1 L1 => ((rr = (-1) ∧ (∀ k, k < Mx 44 4 → x ≠ nI k)) ∨ (∃ k, k < Mx 44 4 ∧ x = nI k ∧ ((∃ j, j ≤ 4 ∧ z = nI j ∧ rr = nI (hv7 Mx k j)) ∨ (rr = (-2) ∧ ∀ j, j ≤ 4 → z ≠ nI j)))) ∧ M1 = Mx ∧ L1 = Lx
def Q6_sight (Mx : ks_M) (Lx : ks_L) (x : Int32) (z : Int32) : Int32 → ks_M → ks_L → Prop := fun rr M1 L1 => ((rr = (-1) ∧ (∀ k, k < Mx 3 3 → x ≠ nI k)) ∨ (∃ k, k < Mx 3 3 ∧ x = nI k ∧ ((∃ j, j ≤ 99 ∧ z = nI j ∧ rr = nI (sgv (Mx 6) (Mx 7) k j)) ∨ (rr = (-2) ∧ ∀ j, j ≤ 99 → z ≠ nI j)))) ∧ M1 = Mx ∧ L1 = Lx
def Q7_sight (Mx : ks_M) (Lx : ks_L) (x : Int32) (z : Int32) : Int32 → ks_M → ks_L → Prop := fun rr M1 L1 => ((rr = (-1) ∧ (∀ k, k < Mx 44 4 → x ≠ nI k)) ∨ (∃ k, k < Mx 44 4 ∧ x = nI k ∧ ((∃ j, j ≤ 99 ∧ z = nI j ∧ rr = nI (sg7 Mx (Mx 49) k j)) ∨ (rr = (-2) ∧ ∀ j, j ≤ 99 → z ≠ nI j)))) ∧ M1 = Mx ∧ L1 = Lx
def Q6_walk (Mx : ks_M) (Lx : ks_L) (x : Int32) : Int32 → ks_M → ks_L → Prop := fun rr M1 L1 => (rr = (-2) ∧ (∀ t, t < 2 → x ≠ nI t) ∧ M1 = Mx ∧ L1 = Lx) ∨ (∃ t, t < 2 ∧ x = nI t ∧ ((cn (Mx 3 3) (Mx 7) t = 0 ∧ rr = (-3) ∧ M1 = Mx) ∨ (cn (Mx 3 3) (Mx 7) t = 1 ∧ rr = nI (tk (Mx 6) (Mx 7) t 0) ∧ M1 = act6 Mx t)) ∧ L1 = Lx)
def Q7_walk (Mx : ks_M) (Lx : ks_L) (x : Int32) : Int32 → ks_M → ks_L → Prop := fun rr M1 L1 => (rr = (-2) ∧ (∀ t, t < 2 → x ≠ nI t) ∧ M1 = Mx ∧ L1 = Lx) ∨ (∃ t, t < 2 ∧ x = nI t ∧ ((cn7 (Mx 44 4) (Mx 49) t = 0 ∧ rr = (-3) ∧ M1 = Mx) ∨ (cn7 (Mx 44 4) (Mx 49) t = 1 ∧ rr = nI (tk7 Mx (Mx 49) t 0) ∧ M1 = act7 Mx t)) ∧ L1 = Lx)
def Q6_look (Mx : ks_M) (Lx : ks_L)  : Int32 → ks_M → ks_L → Prop := fun rr M1 L1 => ((cn (Mx 3 3) (Mx 7) 2 = 0 ∧ rr = (-3) ∧ M1 = Mx) ∨ (cn (Mx 3 3) (Mx 7) 2 = 1 ∧ rr = nI (gn (Mx 6) (Mx 7)) ∧ M1 = act6 Mx 2)) ∧ L1 = Lx
def Q7_look (Mx : ks_M) (Lx : ks_L)  : Int32 → ks_M → ks_L → Prop := fun rr M1 L1 => ((cn7 (Mx 44 4) (Mx 49) 2 = 0 ∧ rr = (-3) ∧ M1 = Mx) ∨ (cn7 (Mx 44 4) (Mx 49) 2 = 1 ∧ rr = nI (gn7 Mx (Mx 49)) ∧ M1 = act7 Mx 2)) ∧ L1 = Lx
def Q6_pause (Mx : ks_M) (Lx : ks_L)  : Int32 → ks_M → ks_L → Prop := fun rr M1 L1 => rr = nI (tk (Mx 6) (Mx 7) 3 2) ∧ M1 = act6 Mx 3 ∧ L1 = Lx
def Q7_pause (Mx : ks_M) (Lx : ks_L)  : Int32 → ks_M → ks_L → Prop := fun rr M1 L1 => rr = nI (tk7 Mx (Mx 49) 3 2) ∧ M1 = act7 Mx 3 ∧ L1 = Lx
def Q6_lamp (Mx : ks_M) (Lx : ks_L) (x : Int32) : Int32 → ks_M → ks_L → Prop := fun rr M1 L1 => ((rr = (-1) ∧ (∀ k, k < Mx 3 3 → x ≠ nI k) ∧ M1 = Mx) ∨ (∃ k, k < Mx 3 3 ∧ x = nI k ∧ rr = nI ((Mx 7 4 ^^^ 1 <<< k) >>> k &&& 1) ∧ M1 = up2 (rem6 Mx 7) 7 4 (Mx 7 4 ^^^ 1 <<< k))) ∧ L1 = Lx
def Q7_lamp (Mx : ks_M) (Lx : ks_L) (x : Int32) : Int32 → ks_M → ks_L → Prop := fun rr M1 L1 => ((rr = (-1) ∧ (∀ k, k < Mx 44 4 → x ≠ nI k) ∧ M1 = Mx) ∨ (∃ k, k < Mx 44 4 ∧ x = nI k ∧ rr = nI ((Mx 49 4 ^^^ 1 <<< k) >>> k &&& 1) ∧ M1 = up2 (nt7 Mx) 49 4 (Mx 49 4 ^^^ 1 <<< k))) ∧ L1 = Lx
def Q6_key (Mx : ks_M) (Lx : ks_L) (x : Int32) : Int32 → ks_M → ks_L → Prop := fun rr M1 L1 => ((rr = (-1) ∧ (∀ k, k < Mx 3 3 → x ≠ nI k) ∧ M1 = Mx) ∨ (∃ k, k < Mx 3 3 ∧ x = nI k ∧ rr = nI ((Mx 7 5 ^^^ 1 <<< k) >>> k &&& 1) ∧ M1 = up2 (rem6 Mx 7) 7 5 (Mx 7 5 ^^^ 1 <<< k))) ∧ L1 = Lx
def Q7_key (Mx : ks_M) (Lx : ks_L) (x : Int32) : Int32 → ks_M → ks_L → Prop := fun rr M1 L1 => ((rr = (-1) ∧ (∀ k, k < Mx 44 4 → x ≠ nI k) ∧ M1 = Mx) ∨ (∃ k, k < Mx 44 4 ∧ x = nI k ∧ rr = nI ((Mx 49 5 ^^^ 1 <<< k) >>> k &&& 1) ∧ M1 = up2 (nt7 Mx) 49 5 (Mx 49 5 ^^^ 1 <<< k))) ∧ L1 = Lx
def Q6_undo (Mx : ks_M) (Lx : ks_L)  : Int32 → ks_M → ks_L → Prop := fun rr M1 L1 => ((Mx 9 2 = 0 ∧ rr = (-3) ∧ M1 = Mx) ∨ (0 < Mx 9 2 ∧ rr = nI (Mx 9 2 - 1) ∧ M1 = bk6 Mx 7)) ∧ L1 = Lx
def Q7_undo (Mx : ks_M) (Lx : ks_L)  : Int32 → ks_M → ks_L → Prop := fun rr M1 L1 => ((Mx 44 14 = 0 ∧ rr = (-3) ∧ M1 = Mx) ∨ (0 < Mx 44 14 ∧ rr = nI (Mx 44 14 - 1) ∧ M1 = un7 Mx)) ∧ L1 = Lx
def Q6_best (Mx : ks_M) (Lx : ks_L) (x : Int32) (b : Nat) : Int32 → ks_M → ks_L → Prop := fun rr M1 L1 => (rr = (-2) ∧ (∀ n, 1 ≤ n → n ≤ 6 → x ≠ nI n) ∧ M1 = Mx ∧ L1 = Lx) ∨ (∃ n, 1 ≤ n ∧ n ≤ 6 ∧ x = nI n ∧ (b = 0 → rr = nI (bst (Mx 6) (Mx 3 3) n (Mx 7))) ∧ (b ≠ 0 → rr = nI (gro (Mx 6) (Mx 3 3) (Mx 7 3 + bst (Mx 6) (Mx 3 3) n (Mx 7)) n (Mx 7) 1)) ∧ (∀ a, (a < 27 ∨ 35 ≤ a) → M1 a = Mx a) ∧ L1 = Lx)
def Q7_best (Mx : ks_M) (Lx : ks_L) (z : Int32) (b : Nat) (S : Nat → Nat) (x : Nat → Nat) : Int32 → ks_M → ks_L → Prop := fun rr M1 L1 => (rr = (-2) ∧ (∀ n, 1 ≤ n → n ≤ 6 → z ≠ nI n) ∧ M1 = Mx ∧ L1 = Lx) ∨ (∃ n, 1 ≤ n ∧ n ≤ 6 ∧ z = nI n ∧ (b = 0 → rr = nI (bst S (Mx 44 4) n x)) ∧ (b ≠ 0 → rr = nI (gro S (Mx 44 4) (x 3 + bst S (Mx 44 4) n x) n x 1)) ∧ (∀ a, a ≠ 44 → a ≠ 50 → a ≠ 51 → M1 a = Mx a) ∧ (∀ c, c ≠ 23 → c ≠ 24 → M1 44 c = Mx 44 c) ∧ L1 = Lx)
def Q6_fewest (Mx : ks_M) (Lx : ks_L) (x : Int32) : Int32 → ks_M → ks_L → Prop := fun rr M1 L1 => (rr = (-2) ∧ (∀ n, 1 ≤ n → n ≤ 99 → x ≠ nI n) ∧ M1 = Mx ∧ L1 = Lx) ∨ (∃ n, 1 ≤ n ∧ n ≤ 99 ∧ x = nI n ∧ ((∃ k, 1 ≤ k ∧ k ≤ 6 ∧ rr = nI k ∧ n ≤ bst (Mx 6) (Mx 3 3) k (Mx 7) ∧ ∀ q, 1 ≤ q → q < k → bst (Mx 6) (Mx 3 3) q (Mx 7) < n) ∨ (rr = (-9) ∧ ∀ q, 1 ≤ q → q ≤ 6 → bst (Mx 6) (Mx 3 3) q (Mx 7) < n)) ∧ (∀ a, (a < 27 ∨ 35 ≤ a) → M1 a = Mx a) ∧ L1 = Lx)
def Q7_fewest (Mx : ks_M) (Lx : ks_L) (z : Int32) (S : Nat → Nat) (x : Nat → Nat) : Int32 → ks_M → ks_L → Prop := fun rr M1 L1 => (rr = (-2) ∧ (∀ n, 1 ≤ n → n ≤ 99 → z ≠ nI n) ∧ M1 = Mx ∧ L1 = Lx) ∨ (∃ n, 1 ≤ n ∧ n ≤ 99 ∧ z = nI n ∧ ((∃ k, 1 ≤ k ∧ k ≤ 6 ∧ rr = nI k ∧ n ≤ bst S (Mx 44 4) k x ∧ ∀ q, 1 ≤ q → q < k → bst S (Mx 44 4) q x < n) ∨ (rr = (-9) ∧ ∀ q, 1 ≤ q → q ≤ 6 → bst S (Mx 44 4) q x < n)) ∧ (∀ a, a ≠ 44 → a ≠ 50 → a ≠ 51 → M1 a = Mx a) ∧ (∀ c, c ≠ 23 → c ≠ 24 → M1 44 c = Mx 44 c) ∧ L1 = Lx)
def Q6_keys (Mx : ks_M) (Lx : ks_L) (x : Int32) (z : Int32) : Int32 → ks_M → ks_L → Prop := fun rr M1 L1 => (rr = (-2) ∧ (∀ n j, 1 ≤ n → n ≤ 3 → j ≤ 99 → x = nI n → z ≠ nI j) ∧ M1 = Mx ∧ L1 = Lx) ∨ (∃ n j, 1 ≤ n ∧ n ≤ 3 ∧ j ≤ 99 ∧ x = nI n ∧ z = nI j ∧ rr = (kyo (Mx 6) (Mx 3 3) n j (Mx 7) (1 <<< Mx 3 3)).1 ∧ (∀ a, (a < 27 ∧ a ≠ 8 ∨ 35 ≤ a) → M1 a = Mx a) ∧ L1 = Lx)
def Q7_keys (Mx : ks_M) (Lx : ks_L) (z : Int32) (u : Int32) (S : Nat → Nat) (x : Nat → Nat) : Int32 → ks_M → ks_L → Prop := fun rr M1 L1 => (rr = (-2) ∧ (∀ n j, 1 ≤ n → n ≤ 3 → j ≤ 99 → z = nI n → u ≠ nI j) ∧ M1 = Mx ∧ L1 = Lx) ∨ (∃ n j, 1 ≤ n ∧ n ≤ 3 ∧ j ≤ 99 ∧ z = nI n ∧ u = nI j ∧ rr = (kyo S (Mx 44 4) n j x (1 <<< Mx 44 4)).1 ∧ (∀ a, a ≠ 44 → a ≠ 50 → a ≠ 51 → M1 a = Mx a) ∧ (∀ c, c ≠ 23 → c ≠ 24 → M1 44 c = Mx 44 c) ∧ L1 = Lx)
def Q6_judge (Mx : ks_M) (Lx : ks_L) (x : Int32) (z : Int32) : Int32 → ks_M → ks_L → Prop := fun rr M1 L1 => (rr = (-2) ∧ (∀ n r, 1 ≤ n → n ≤ 8 → x = nI n → ¬ okr n z r) ∧ M1 = Mx ∧ L1 = Lx) ∨ (∃ n ro, 1 ≤ n ∧ n ≤ 8 ∧ x = nI n ∧ okr n z ro ∧ ((∃ p, p < n ∧ rr = nI p ∧ (∀ q, q < p → jg (Mx 3 3) (Mx 6) (cp7 (Mx 8) (Mx 7)) (dg n ro) (q)) ∧ ¬ jg (Mx 3 3) (Mx 6) (cp7 (Mx 8) (Mx 7)) (dg n ro) (p)) ∨ (rr = (-9) ∧ ∀ q, q < n → jg (Mx 3 3) (Mx 6) (cp7 (Mx 8) (Mx 7)) (dg n ro) (q))) ∧ (∀ a, a ≠ 8 → M1 a = Mx a) ∧ L1 = Lx)
def Q7_judge (Mx : ks_M) (Lx : ks_L) (x : Int32) (z : Int32) : Int32 → ks_M → ks_L → Prop := fun rr M1 L1 => (rr = (-2) ∧ (∀ n ro, 1 ≤ n → n ≤ 8 → x = nI n → ¬ okr n z ro) ∧ M1 = Mx ∧ L1 = Lx) ∨ (∃ n ro, 1 ≤ n ∧ n ≤ 8 ∧ x = nI n ∧ okr n z ro ∧ ((∃ p, p < n ∧ rr = nI p ∧ (∀ q, q < p → jg7 (Mx 44 4) Mx (cp12 (Mx 50) (Mx 49)) (dg n ro) (q)) ∧ ¬ jg7 (Mx 44 4) Mx (cp12 (Mx 50) (Mx 49)) (dg n ro) (p)) ∨ (rr = (-9) ∧ ∀ q, q < n → jg7 (Mx 44 4) Mx (cp12 (Mx 50) (Mx 49)) (dg n ro) (q))) ∧ (∀ a, a ≠ 50 → M1 a = Mx a) ∧ L1 = Lx)
def Q6_share (Mx : ks_M) (Lx : ks_L) (x : Int32) (b : Nat) : Int32 → ks_M → ks_L → Prop := fun rr M1 L1 => ((rr = (-1) ∧ ∀ k, k < Mx 3 3 → x ≠ nI k) ∨ (∃ k, k < Mx 3 3 ∧ x = nI k ∧ rr = nI (frc (sho (Mx 6) (Mx 3 3) k (Mx 7) (1 <<< Mx 3 3)) (fct (Mx 3 3)) b))) ∧ (∀ a, (a < 27 ∧ a ≠ 8 ∨ 35 ≤ a) → M1 a = Mx a) ∧ L1 = Lx
def Q7_share (Mx : ks_M) (Lx : ks_L) (z : Int32) (b : Nat) (S : Nat → Nat) (x : Nat → Nat) : Int32 → ks_M → ks_L → Prop := fun rr M1 L1 => (rr = (-1) ∧ (∀ k, k < Mx 44 4 → z ≠ nI k) ∧ M1 = Mx ∧ L1 = Lx) ∨ (∃ k, k < Mx 44 4 ∧ z = nI k ∧ rr = nI (frc (sho S (Mx 44 4) k x (1 <<< Mx 44 4)) (fct (Mx 44 4)) b) ∧ (∀ a, a ≠ 44 → a ≠ 50 → a ≠ 51 → a ≠ 59 → M1 a = Mx a) ∧ (∀ c, c ≠ 23 → c ≠ 24 → M1 44 c = Mx 44 c) ∧ L1 = Lx)
def Q6_see (Mx : ks_M) (Lx : ks_L) (x : Int32) (y : Int32) (z : Int32) (u : Int32) : Int32 → ks_M → ks_L → Prop := fun rr M1 L1 => ((rr = (-1) ∧ (∀ k, k < Mx 3 3 → x ≠ nI k) ∧ M1 = Mx) ∨ (∃ k, k < Mx 3 3 ∧ x = nI k ∧ ((rr = (-2) ∧ ¬ (∃ a b c, a ≤ 9 ∧ b ≤ 9 ∧ c ≤ 10 ∧ y = nI a ∧ z = nI b ∧ u = nI c) ∧ M1 = Mx) ∨ (∃ a b c, a ≤ 9 ∧ b ≤ 9 ∧ c ≤ 10 ∧ y = nI a ∧ z = nI b ∧ u = nI c ∧ ((Mx 35 4 = 6 ∧ rr = (-4) ∧ M1 = Mx) ∨ (Mx 35 4 < 6 ∧ rr = nI (Mx 35 4 + 1) ∧ M1 = add6 Mx k a b c)))))) ∧ L1 = Lx
def Q7_see (Mx : ks_M) (Lx : ks_L) (x : Int32) (y : Int32) (z : Int32) (u : Int32) : Int32 → ks_M → ks_L → Prop := fun rr M1 L1 => ((rr = (-1) ∧ (∀ k, k < Mx 44 4 → x ≠ nI k) ∧ M1 = Mx) ∨ (∃ k, k < Mx 44 4 ∧ x = nI k ∧ ((rr = (-2) ∧ ¬ (∃ a b c, a ≤ 9 ∧ b ≤ 9 ∧ c ≤ 10 ∧ y = nI a ∧ z = nI b ∧ u = nI c) ∧ M1 = Mx) ∨ (∃ a b c, a ≤ 9 ∧ b ≤ 9 ∧ c ≤ 10 ∧ y = nI a ∧ z = nI b ∧ u = nI c ∧ ((Mx 44 17 = 6 ∧ rr = (-4) ∧ M1 = Mx) ∨ (Mx 44 17 < 6 ∧ rr = nI (Mx 44 17 + 1) ∧ M1 = add7 Mx k a b c)))))) ∧ L1 = Lx
def Q6_unsee (Mx : ks_M) (Lx : ks_L)  : Int32 → ks_M → ks_L → Prop := fun rr M1 L1 => rr = nI (Mx 35 4) ∧ M1 = up2 Mx 35 4 0 ∧ L1 = Lx
def Q7_unsee (Mx : ks_M) (Lx : ks_L)  : Int32 → ks_M → ks_L → Prop := fun rr M1 L1 => rr = nI (Mx 44 17) ∧ M1 = up2 Mx 44 17 0 ∧ L1 = Lx
def Q6_shapes (Mx : ks_M) (Lx : ks_L) (x : Int32) : Int32 → ks_M → ks_L → Prop := fun rr M1 L1 => ((rr = (-1) ∧ (∀ k, k < Mx 3 3 → x ≠ nI k)) ∨ (∃ k b, k < Mx 3 3 ∧ x = nI k ∧ rr = nI b ∧ shq (alw (Mx 36) (Mx 37) (Mx 38) (Mx 39) (Mx 35 4) k) 4 b)) ∧ M1 = Mx ∧ L1 = Lx
def Q7_shapes (Mx : ks_M) (Lx : ks_L) (x : Int32) : Int32 → ks_M → ks_L → Prop := fun rr M1 L1 => ((rr = (-1) ∧ (∀ k, k < Mx 44 4 → x ≠ nI k)) ∨ (∃ k b, k < Mx 44 4 ∧ x = nI k ∧ rr = nI b ∧ shq (alw (Mx 55) (Mx 56) (Mx 57) (Mx 58) (Mx 44 17) k) 4 b)) ∧ M1 = Mx ∧ L1 = Lx
def Q6_rests (Mx : ks_M) (Lx : ks_L) (x : Int32) : Int32 → ks_M → ks_L → Prop := fun rr M1 L1 => (rr = (-2) ∧ x ≠ nI 0 ∧ x ≠ nI 1 ∧ M1 = Mx ∧ L1 = Lx) ∨ (((x = nI 0 ∧ rr = nI (rr2 (V6 Mx) (Mx 3 3) (Mx 3 3)).1) ∨ (x = nI 1 ∧ rr = nI (rr2 (V6 Mx) (Mx 3 3) (Mx 3 3)).2)) ∧ M1 = Mx ∧ L1 = Lx)
def Q7_rests (Mx : ks_M) (Lx : ks_L) (x : Int32) : Int32 → ks_M → ks_L → Prop := fun rr M1 L1 => (rr = (-2) ∧ x ≠ nI 0 ∧ x ≠ nI 1 ∧ M1 = Mx ∧ L1 = Lx) ∨ (((x = nI 0 ∧ rr = nI (rr2 (V7 Mx) (Mx 44 4) (Mx 44 4)).1) ∨ (x = nI 1 ∧ rr = nI (rr2 (V7 Mx) (Mx 44 4) (Mx 44 4)).2)) ∧ M1 = fm7 Mx (rr2 (V7 Mx) (Mx 44 4) (Mx 44 4)) ∧ L1 = Lx)
def Q6_chance (Mx : ks_M) (Lx : ks_L) (x : Int32) (z : Int32) (u : Int32) (v : Int32) (b : Nat) : Int32 → ks_M → ks_L → Prop := fun rr M1 L1 => (rr = (-2) ∧ ¬ (∃ n ro j y, 1 ≤ n ∧ n ≤ 6 ∧ x = nI n ∧ okr n z ro ∧ j ≤ 99 ∧ u = nI j ∧ y ≤ 10 ∧ v = nI y) ∧ M1 = Mx ∧ L1 = Lx) ∨ (∃ n ro j y, 1 ≤ n ∧ n ≤ 6 ∧ x = nI n ∧ okr n z ro ∧ j ≤ 99 ∧ u = nI j ∧ y ≤ 10 ∧ v = nI y ∧ (((∃ q, q < n ∧ ¬ cn (Mx 3 3) (rn (Mx 6) (cp7 (Mx 8) (Mx 7)) (dg n ro) (q)) (dg n ro q) = 1) ∧ rr = nI (frc 0 1 b)) ∨ ((∀ q, q < n → cn (Mx 3 3) (rn (Mx 6) (cp7 (Mx 8) (Mx 7)) (dg n ro) (q)) (dg n ro q) = 1) ∧ ∃ g, gat (Mx 6) (cp7 (Mx 8) (Mx 7)) (dg n ro) g n ∧ rr = nI (frc (goo g (lkn (dg n ro) (n)) j y (1 <<< lkn (dg n ro) (n))) (10 ^ (lkn (dg n ro) (n))) b))) ∧ (∀ a, a ≠ 8 → a ≠ 43 → M1 a = Mx a) ∧ L1 = Lx)
def Q7_chance (Mx : ks_M) (Lx : ks_L) (z : Int32) (u : Int32) (v : Int32) (k : Int32) (b : Nat) (S : Nat → Nat) (x : Nat → Nat) : Int32 → ks_M → ks_L → Prop := fun rr M1 L1 => (rr = (-2) ∧ ¬ (∃ n ro j y, 1 ≤ n ∧ n ≤ 6 ∧ z = nI n ∧ okr n u ro ∧ j ≤ 99 ∧ v = nI j ∧ y ≤ 10 ∧ k = nI y) ∧ M1 = Mx ∧ L1 = Lx) ∨ (∃ n ro j y, 1 ≤ n ∧ n ≤ 6 ∧ z = nI n ∧ okr n u ro ∧ j ≤ 99 ∧ v = nI j ∧ y ≤ 10 ∧ k = nI y ∧ (((∃ q, q < n ∧ ¬ cn (Mx 44 4) (rn S x (dg n ro) (q)) (dg n ro q) = 1) ∧ rr = nI (frc 0 1 b)) ∨ ((∀ q, q < n → cn (Mx 44 4) (rn S x (dg n ro) (q)) (dg n ro q) = 1) ∧ ∃ g, gat S x (dg n ro) g n ∧ rr = nI (frc (goo g (lkn (dg n ro) (n)) j y (1 <<< lkn (dg n ro) (n))) (10 ^ (lkn (dg n ro) (n))) b))) ∧ (∀ a, a ≠ 44 → a ≠ 50 → a ≠ 60 → M1 a = Mx a) ∧ (∀ c, c ≠ 29 → M1 44 c = Mx 44 c) ∧ L1 = Lx)
def Q6_seed (Mx : ks_M) (Lx : ks_L) (v : Int64) : Int64 → ks_M → ks_L → Prop := fun rr M1 L1 => rr = Lx 0 ∧ M1 = Mx ∧ L1 = upl Lx 0 v
def Q7_seed (Mx : ks_M) (Lx : ks_L) (v : Int64) : Int64 → ks_M → ks_L → Prop := fun rr M1 L1 => rr = Lx 44 ∧ M1 = Mx ∧ L1 = upl Lx 44 v
def Q6_rounds (Mx : ks_M) (Lx : ks_L) (x : Int32) : Int32 → ks_M → ks_L → Prop := fun rr M1 L1 => (rr = (-2) ∧ (∀ m, 1 ≤ m → m ≤ 30 → x ≠ nI m) ∧ M1 = Mx ∧ L1 = Lx) ∨ (∃ m, 1 ≤ m ∧ m ≤ 30 ∧ x = nI m ∧ rr = nI ((prn (Mx 6) (Mx 3 3) (Lx 0) (cp7 (Mx 8) (Mx 7)) (m)) 3 - Mx 7 3) ∧ (∀ a, a ≠ 8 → M1 a = Mx a) ∧ L1 = upl Lx 0 (sdn (Lx 0) m))
def Q7_rounds (Mx : ks_M) (Lx : ks_L) (x : Int32) : Int32 → ks_M → ks_L → Prop := fun rr M1 L1 => (rr = (-2) ∧ (∀ m, 1 ≤ m → m ≤ 30 → x ≠ nI m) ∧ M1 = Mx ∧ L1 = Lx) ∨ (∃ m, 1 ≤ m ∧ m ≤ 30 ∧ x = nI m ∧ rr = nI ((prn7 Mx (Mx 44 4) (Lx 44) (cp12 (Mx 50) (Mx 49)) (m)) 3 - Mx 49 3) ∧ (∀ a, a ≠ 50 → M1 a = Mx a) ∧ L1 = upl Lx 44 (sdn (Lx 44) m))
def Q6_keep (Mx : ks_M) (Lx : ks_L) (x : Int32) : Int32 → ks_M → ks_L → Prop := fun rr M1 L1 => ((rr = (-1) ∧ (∀ j, j < 2 → x ≠ nI j) ∧ M1 = Mx) ∨ (∃ j, j < 2 ∧ x = nI j ∧ rr = nI (Mx 7 2) ∧ M1 = keep6 Mx j)) ∧ L1 = Lx
def Q7_keep (Mx : ks_M) (Lx : ks_L) (x : Int32) : Int32 → ks_M → ks_L → Prop := fun rr M1 L1 => ((rr = (-1) ∧ (∀ j, j < 2 → x ≠ nI j) ∧ M1 = Mx) ∨ (∃ j, j < 2 ∧ x = nI j ∧ rr = nI (Mx 49 2) ∧ M1 = keep7 Mx j)) ∧ L1 = Lx
def Q6_again (Mx : ks_M) (Lx : ks_L) (x : Int32) : Int32 → ks_M → ks_L → Prop := fun rr M1 L1 => ((rr = (-1) ∧ (∀ j, j < 2 → x ≠ nI j) ∧ M1 = Mx) ∨ (∃ j, j < 2 ∧ x = nI j ∧ ((Mx 0 9 >>> j &&& 1 = 0 ∧ rr = (-3) ∧ M1 = Mx) ∨ (Mx 0 9 >>> j &&& 1 ≠ 0 ∧ rr = nI (Mx (41 + j) 2) ∧ M1 = again6 Mx j)))) ∧ L1 = Lx
def Q7_again (Mx : ks_M) (Lx : ks_L) (x : Int32) : Int32 → ks_M → ks_L → Prop := fun rr M1 L1 => ((rr = (-1) ∧ (∀ j, j < 2 → x ≠ nI j) ∧ M1 = Mx) ∨ (∃ j, j < 2 ∧ x = nI j ∧ ((Mx 54 j = 0 ∧ rr = (-3) ∧ M1 = Mx) ∨ (Mx 54 j ≠ 0 ∧ rr = nI (Mx 53 (12 * j + 2)) ∧ M1 = again7 Mx j)))) ∧ L1 = Lx
theorem F6_rf (M : ks_M) (L : ks_L) : F6 M M L L := ⟨fun _ _ => rfl, rfl⟩
theorem F6_up {M M1 : ks_M} {L L1 : ks_L} {i k v : Nat} (h : F6 M M1 L L1) (hi : i < 44) : F6 M (up2 M1 i k v) L L1 := ⟨fun a ha => by funext q; rw [up2_o (by omega), h.1 a ha], h.2⟩
theorem F6_sr {M M1 : ks_M} {L L1 : ks_L} {i : Nat} {x : Nat → Nat} (h : F6 M M1 L L1) (hi : i < 44) : F6 M (sr M1 i x) L L1 := ⟨fun a ha => (sr_o (by omega)).trans (h.1 a ha), h.2⟩
theorem F6_rem {M : ks_M} {L : ks_L} : F6 M (rem6 M 7) L L := by
  unfold rem6 sv6
  split
  · exact F6_up (F6_sr (F6_rf M L) (by omega)) (by decide)
  · exact F6_up (F6_sr (F6_rf M L) (by omega)) (by decide)
theorem F6_fr {M M1 : ks_M} {L : ks_L} (h : ∀ a, 44 ≤ a → M1 a = M a) : F6 M M1 L L := ⟨h, rfl⟩
theorem a_write {M M1 : ks_M} {L L1 : ks_L} {x : Int32} {rr : Int32} (h6 : Q6_write M L x rr M1 L1) : F6 M M1 L L1 := by
  unfold Q6_write at h6
  rcases h6 with ⟨-, -, rfl, rfl⟩ | ⟨b, -, -, -, -, rfl, rfl⟩ | ⟨b, -, -, -, -, rfl, rfl⟩
  · exact F6_rf _ _
  · exact F6_rf _ _
  · exact F6_up (F6_up (F6_rf _ _) (by decide)) (by decide)
theorem a_wipe {M M1 : ks_M} {L L1 : ks_L}  {rr : Int32} (h6 : Q6_wipe M L  rr M1 L1) : F6 M M1 L L1 := by
  unfold Q6_wipe at h6
  rcases h6 with ⟨-, rfl, rfl⟩
  · exact F6_up (F6_rf _ _) (by decide)
theorem a_fault {M M1 : ks_M} {L L1 : ks_L}  {rr : Int32} (h6 : Q6_fault M L  rr M1 L1) : F6 M M1 L L1 := by
  unfold Q6_fault at h6
  rcases h6 with ⟨v, -, -, -, rfl, rfl⟩ | ⟨-, -, rfl, rfl⟩
  · exact F6_rf _ _
  · exact F6_rf _ _
theorem a_street {M M1 : ks_M} {L L1 : ks_L}  {rr : Int32} (h6 : Q6_street M L  rr M1 L1) : F6 M M1 L L1 := by
  unfold Q6_street at h6
  rcases h6 with ⟨⟨-, -, rfl⟩ | ⟨-, -, Mv, hI, rfl⟩, rfl⟩
  · exact F6_rf _ _
  · unfold bg6
    have h0 : F6 M Mv L1 L1 := ⟨fun a ha => hI.1 a (by omega) (by omega) (by omega) (by omega), rfl⟩
    exact F6_up (F6_up (F6_up (F6_up (F6_up (F6_up (F6_up (F6_up (F6_up h0 (by decide)) (by decide)) (by decide)) (by decide)) (by decide)) (by decide)) (by decide)) (by decide)) (by decide)
theorem a_about {M M1 : ks_M} {L L1 : ks_L} {x : Int32} {rr : Int32} (h6 : Q6_about M L x rr M1 L1) : F6 M M1 L L1 := by
  unfold Q6_about at h6
  rcases h6 with ⟨j, -, -, -, rfl, rfl⟩ | ⟨-, -, rfl, rfl⟩
  · exact F6_rf _ _
  · exact F6_rf _ _
theorem a_house {M M1 : ks_M} {L L1 : ks_L} {x : Int32} {z : Int32} {rr : Int32} (h6 : Q6_house M L x z rr M1 L1) : F6 M M1 L L1 := by
  unfold Q6_house at h6
  rcases h6 with ⟨-, rfl, rfl⟩
  · exact F6_rf _ _
theorem a_sight {M M1 : ks_M} {L L1 : ks_L} {x : Int32} {z : Int32} {rr : Int32} (h6 : Q6_sight M L x z rr M1 L1) : F6 M M1 L L1 := by
  unfold Q6_sight at h6
  rcases h6 with ⟨-, rfl, rfl⟩
  · exact F6_rf _ _
theorem a_walk {M M1 : ks_M} {L L1 : ks_L} {x : Int32} {rr : Int32} (h6 : Q6_walk M L x rr M1 L1) : F6 M M1 L L1 := by
  unfold Q6_walk at h6
  rcases h6 with ⟨-, -, rfl, rfl⟩ | ⟨t, -, -, ⟨-, -, rfl⟩ | ⟨-, -, rfl⟩, rfl⟩
  · exact F6_rf _ _
  · exact F6_rf _ _
  · exact F6_sr F6_rem (by decide)
theorem a_look {M M1 : ks_M} {L L1 : ks_L}  {rr : Int32} (h6 : Q6_look M L  rr M1 L1) : F6 M M1 L L1 := by
  unfold Q6_look at h6
  rcases h6 with ⟨⟨-, -, rfl⟩ | ⟨-, -, rfl⟩, rfl⟩
  · exact F6_rf _ _
  · exact F6_sr F6_rem (by decide)
theorem a_pause {M M1 : ks_M} {L L1 : ks_L}  {rr : Int32} (h6 : Q6_pause M L  rr M1 L1) : F6 M M1 L L1 := by
  unfold Q6_pause at h6
  rcases h6 with ⟨-, rfl, rfl⟩
  · exact F6_sr F6_rem (by decide)
theorem a_lamp {M M1 : ks_M} {L L1 : ks_L} {x : Int32} {rr : Int32} (h6 : Q6_lamp M L x rr M1 L1) : F6 M M1 L L1 := by
  unfold Q6_lamp at h6
  rcases h6 with ⟨⟨-, -, rfl⟩ | ⟨k, -, -, -, rfl⟩, rfl⟩
  · exact F6_rf _ _
  · exact F6_up F6_rem (by decide)
theorem a_key {M M1 : ks_M} {L L1 : ks_L} {x : Int32} {rr : Int32} (h6 : Q6_key M L x rr M1 L1) : F6 M M1 L L1 := by
  unfold Q6_key at h6
  rcases h6 with ⟨⟨-, -, rfl⟩ | ⟨k, -, -, -, rfl⟩, rfl⟩
  · exact F6_rf _ _
  · exact F6_up F6_rem (by decide)
theorem a_undo {M M1 : ks_M} {L L1 : ks_L}  {rr : Int32} (h6 : Q6_undo M L  rr M1 L1) : F6 M M1 L L1 := by
  unfold Q6_undo at h6
  rcases h6 with ⟨⟨-, -, rfl⟩ | ⟨-, -, rfl⟩, rfl⟩
  · exact F6_rf _ _
  · exact F6_sr (F6_up (F6_rf _ _) (by decide)) (by decide)
theorem a_best {M M1 : ks_M} {L L1 : ks_L} {x : Int32} {b : Nat} {rr : Int32} (h6 : Q6_best M L x b rr M1 L1) : F6 M M1 L L1 := by
  unfold Q6_best at h6
  rcases h6 with ⟨-, -, rfl, rfl⟩ | ⟨n, -, -, -, -, -, hf, rfl⟩
  · exact F6_rf _ _
  · exact F6_fr (fun a ha => hf a (by omega))
theorem a_fewest {M M1 : ks_M} {L L1 : ks_L} {x : Int32} {rr : Int32} (h6 : Q6_fewest M L x rr M1 L1) : F6 M M1 L L1 := by
  unfold Q6_fewest at h6
  rcases h6 with ⟨-, -, rfl, rfl⟩ | ⟨n, -, -, -, -, hf, rfl⟩
  · exact F6_rf _ _
  · exact F6_fr (fun a ha => hf a (by omega))
theorem a_keys {M M1 : ks_M} {L L1 : ks_L} {x : Int32} {z : Int32} {rr : Int32} (h6 : Q6_keys M L x z rr M1 L1) : F6 M M1 L L1 := by
  unfold Q6_keys at h6
  rcases h6 with ⟨-, -, rfl, rfl⟩ | ⟨n, j, -, -, -, -, -, -, hf, rfl⟩
  · exact F6_rf _ _
  · exact F6_fr (fun a ha => hf a (by omega))
theorem a_judge {M M1 : ks_M} {L L1 : ks_L} {x : Int32} {z : Int32} {rr : Int32} (h6 : Q6_judge M L x z rr M1 L1) : F6 M M1 L L1 := by
  unfold Q6_judge at h6
  rcases h6 with ⟨-, -, rfl, rfl⟩ | ⟨n, ro, -, -, -, -, -, hf, rfl⟩
  · exact F6_rf _ _
  · exact F6_fr (fun a ha => hf a (by omega))
theorem a_share {M M1 : ks_M} {L L1 : ks_L} {x : Int32} {b : Nat} {rr : Int32} (h6 : Q6_share M L x b rr M1 L1) : F6 M M1 L L1 := by
  unfold Q6_share at h6
  rcases h6 with ⟨-, hf, rfl⟩
  · exact F6_fr (fun a ha => hf a (by omega))
theorem a_see {M M1 : ks_M} {L L1 : ks_L} {x : Int32} {y : Int32} {z : Int32} {u : Int32} {rr : Int32} (h6 : Q6_see M L x y z u rr M1 L1) : F6 M M1 L L1 := by
  unfold Q6_see at h6
  rcases h6 with ⟨⟨-, -, rfl⟩ | ⟨k, -, -, ⟨-, -, rfl⟩ | ⟨a, b, c, -, -, -, -, -, -, ⟨-, -, rfl⟩ | ⟨-, -, rfl⟩⟩⟩, rfl⟩
  · exact F6_rf _ _
  · exact F6_rf _ _
  · exact F6_rf _ _
  · exact F6_up (F6_up (F6_up (F6_up (F6_up (F6_rf _ _) (by decide)) (by decide)) (by decide)) (by decide)) (by decide)
theorem a_unsee {M M1 : ks_M} {L L1 : ks_L}  {rr : Int32} (h6 : Q6_unsee M L  rr M1 L1) : F6 M M1 L L1 := by
  unfold Q6_unsee at h6
  rcases h6 with ⟨-, rfl, rfl⟩
  · exact F6_up (F6_rf _ _) (by decide)
theorem a_shapes {M M1 : ks_M} {L L1 : ks_L} {x : Int32} {rr : Int32} (h6 : Q6_shapes M L x rr M1 L1) : F6 M M1 L L1 := by
  unfold Q6_shapes at h6
  rcases h6 with ⟨-, rfl, rfl⟩
  · exact F6_rf _ _
theorem a_rests {M M1 : ks_M} {L L1 : ks_L} {x : Int32} {rr : Int32} (h6 : Q6_rests M L x rr M1 L1) : F6 M M1 L L1 := by
  unfold Q6_rests at h6
  rcases h6 with ⟨-, -, -, rfl, rfl⟩ | ⟨-, rfl, rfl⟩
  · exact F6_rf _ _
  · exact F6_rf _ _
theorem a_chance {M M1 : ks_M} {L L1 : ks_L} {x : Int32} {z : Int32} {u : Int32} {v : Int32} {b : Nat} {rr : Int32} (h6 : Q6_chance M L x z u v b rr M1 L1) : F6 M M1 L L1 := by
  unfold Q6_chance at h6
  rcases h6 with ⟨-, -, rfl, rfl⟩ | ⟨n, ro, j, y, -, -, -, -, -, -, -, -, -, hf, rfl⟩
  · exact F6_rf _ _
  · exact F6_fr (fun a ha => hf a (by omega) (by omega))
theorem a_seed {M M1 : ks_M} {L L1 : ks_L} {v : Int64} {rr : Int64} (h6 : Q6_seed M L v rr M1 L1) : F6 M M1 L L1 := by
  unfold Q6_seed at h6
  rcases h6 with ⟨-, rfl, rfl⟩
  · exact ⟨fun _ _ => rfl, by simp [upl]⟩
theorem a_rounds {M M1 : ks_M} {L L1 : ks_L} {x : Int32} {rr : Int32} (h6 : Q6_rounds M L x rr M1 L1) : F6 M M1 L L1 := by
  unfold Q6_rounds at h6
  rcases h6 with ⟨-, -, rfl, rfl⟩ | ⟨m, -, -, -, -, hf, rfl⟩
  · exact F6_rf _ _
  · exact ⟨fun a ha => hf a (by omega), by simp [upl]⟩
theorem a_keep {M M1 : ks_M} {L L1 : ks_L} {x : Int32} {rr : Int32} (h6 : Q6_keep M L x rr M1 L1) : F6 M M1 L L1 := by
  unfold Q6_keep at h6
  rcases h6 with ⟨⟨-, -, rfl⟩ | ⟨j, hj, -, -, rfl⟩, rfl⟩
  · exact F6_rf _ _
  · exact F6_up (F6_sr (F6_rf _ _) (by omega)) (by decide)
theorem a_again {M M1 : ks_M} {L L1 : ks_L} {x : Int32} {rr : Int32} (h6 : Q6_again M L x rr M1 L1) : F6 M M1 L L1 := by
  unfold Q6_again at h6
  rcases h6 with ⟨⟨-, -, rfl⟩ | ⟨j, hj, -, ⟨-, -, rfl⟩ | ⟨-, -, rfl⟩⟩, rfl⟩
  · exact F6_rf _ _
  · exact F6_rf _ _
  · exact F6_up (F6_sr (F6_rf _ _) (by decide)) (by decide)
