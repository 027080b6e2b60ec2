/-! THE LAYER: the heap of both sides as a list of shapes and a memory of numbers; a walk over it, row by row -/
def ks_cl : List vw_C := [(RX0, TX0, 3), (RX1, TX1, 2), (RX2, TX2, 5), (RX3, TX3, 7), (RX4, TX4, 5), (RX5, TX5, 2), (RX6, TX6, 11), (RX7, TX7, 30)]
abbrev ks_S : Type := Nat × Nat × List (Nat × Nat)
abbrev ks_M : Type := Nat → Nat → Nat
abbrev ks_L : Type := Nat → Int64
abbrev ks_G : Type := va_G × ClassId × ClassId × ClassId
/-- a field: (0, _) an int, (1, _) a long, (2, _) null, (3, j) the object j -/
def ks_v (base : Nat) (f : Nat → Nat) (x : Int64) (k : Nat) (d : Nat × Nat) : Value := match d.1 with
  | 0 => .int (nI (f k))
  | 1 => .long x
  | 2 => .null
  | _ => .ref (base + d.2)
def ks_r (base : Nat) (d : List (Nat × Nat)) (k : Nat) : Option Nat := match d[k]? with
  | some (3, j) => some (base + j)
  | _ => none
/-- a shape: (0, ci, fields) an object; (1, n, _) ints; (2, n, _) booleans; (3, n, places) Stands -/
def ks_c (G : ks_G) (base : Nat) (e : ks_S) (f : Nat → Nat) (x : Int64) : va_E := match e.1 with
  | 0 => .inr (e.2.1, e.2.2.mapIdx (ks_v base f x))
  | 1 => .inl (G.2.1, e.2.1, .inl (fun j => nI (f j)))
  | 2 => .inl (G.2.2.1, e.2.1, .inl (fun j => nI (f j)))
  | _ => .inl (G.2.2.2, e.2.1, .inr (.inr (.inr (.inr (ks_r base e.2.2)))))
def ks_w (G : ks_G) (base : Nat) (sh : List ks_S) (M : ks_M) (L : ks_L) : va_W := sh.mapIdx (fun i e => (base + i, ks_c G base e (M i) (L i)))
def ks_R (G : ks_G) (base : Nat) (sh : List ks_S) (M : ks_M) (L : ks_L) (H : Heap) : Prop := va_P G.1 ks_cl (ks_w G base sh M L) H ∧ H.size = base + sh.length
def ks_A (base : Nat) : Nat → Prop := fun q => base ≤ q
def ks_T (G : ks_G) : List (ClassId × FieldType) := [(G.2.1, .int), (G.2.2.1, .boolean), (G.2.2.2, .object RX3)]
def ks_N : List (String × Nat × MethodName × String) := [(RX6, 9, yX5_init, "KeyholeNews"), (RX6, 18, yX4_init, "KeyholeNews"), (RX6, 25, yX3_init, "KeyholeNews"), (RX6, 35, yX0_init, "KeyholeNews"), (RX0, 9, yX6_newStands, "KeyholeNews"), (RX6, 42, yX1_init, "KeyholeNews"), (RX1, 9, yX6_newStands, "KeyholeNews"), (RX1, 21, yX3_init, "KeyholeNews"), (RX6, 49, yX2_init, "KeyholeNews")]
def ks_K (G : ks_G) (U : State) : Prop := va_K G.1 ks_cl (ks_T G) U ∧ va_AO RX3 U ∧ ∀ q ∈ ks_N, va_Nw (.methodLinkNest q.1 q.2.1 q.2.2.1 q.2.2.2) U
theorem ks_K.warm {G : ks_G} {s U : State} (hW : s.WarmedH U.vm) (h : ks_K G s) : ks_K G U := ⟨va_K.moved hW.alike h.1, va_AO.moved hW.alike h.2.1, fun q hq => va_Nw.warmM hW (h.2.2 q hq)⟩
theorem ks_K.same {G : ks_G} {s U : State} (e : s.vm = U.vm) (h : ks_K G s) : ks_K G U := ⟨va_K.moved (by rw [e]; exact Vm.Alike.refl U.vm) h.1, va_AO.moved (by rw [e]; exact Vm.Alike.refl U.vm) h.2.1, fun q hq => va_Nw.same rfl e (h.2.2 q hq)⟩
def ks_all : List Cond := lw_tbl.filter goodWord
theorem ks_nests : ∀ q ∈ ks_N, Cond.methodLinkNest q.1 q.2.1 q.2.2.1 q.2.2.2 ∈ lw_tbl := by decide +kernel
theorem ks_good : GoodIn ks_all ks_all := fun w hw => ⟨hw, good_of_word (List.mem_filter.mp hw).2⟩
def up2 (M : ks_M) (i k n : Nat) : ks_M := fun a b => if a = i ∧ b = k then n else M a b
def upl (L : ks_L) (i : Nat) (x : Int64) : ks_L := fun a => if a = i then x else L a
theorem up2_s (M : ks_M) (i k n : Nat) : up2 M i k n i k = n := by simp [up2]
theorem up2_o {M : ks_M} {i k n a b : Nat} (h : a ≠ i) : up2 M i k n a b = M a b := by simp [up2, h]
theorem up2_k {M : ks_M} {i k n a b : Nat} (h : b ≠ k) : up2 M i k n a b = M a b := by simp [up2, h]
theorem ks_w_get {G : ks_G} {base : Nat} {sh : List ks_S} {M : ks_M} {L : ks_L} {i : Nat} {e : ks_S} (h : sh[i]? = some e) : (ks_w G base sh M L)[i]? = some (base + i, ks_c G base e (M i) (L i)) := by
  simp [ks_w, List.getElem?_mapIdx, h]
theorem ks_w_in {G : ks_G} {base : Nat} {sh : List ks_S} {M : ks_M} {L : ks_L} {i : Nat} {q : Nat × va_E} (h : (ks_w G base sh M L)[i]? = some q) : ∃ e, sh[i]? = some e ∧ q = (base + i, ks_c G base e (M i) (L i)) := by
  rw [ks_w, List.getElem?_mapIdx] at h
  cases hs : sh[i]? with
  | none => rw [hs] at h; cases h
  | some e => rw [hs] at h; exact ⟨e, rfl, (Option.some.inj h).symm⟩
theorem ks_D {G : ks_G} {base : Nat} {sh : List ks_S} {M : ks_M} {L : ks_L} : va_D (ks_A base) (ks_w G base sh M L) := by
  refine ⟨fun i j p q hi hj hpq => ?_, fun k q hk => ?_⟩
  · obtain ⟨e1, h1, g1⟩ := ks_w_in hi
    obtain ⟨e2, h2, g2⟩ := ks_w_in hj
    rw [g1, g2] at hpq
    exact Nat.add_left_cancel hpq
  · obtain ⟨e1, h1, g1⟩ := ks_w_in hk
    rw [g1]
    exact Nat.le_add_right _ _
theorem ks_w_len {G : ks_G} {base : Nat} {sh : List ks_S} {M : ks_M} {L : ks_L} : (ks_w G base sh M L).length = sh.length := by simp [ks_w]
/-- the world behind a change of the object i -/
theorem ks_w_set {G : ks_G} {base : Nat} {sh : List ks_S} {M M' : ks_M} {L L' : ks_L} {i : Nat} {e e' : ks_S} {v : va_E} (h : sh[i]? = some e) (hv : ks_c G base e' (M' i) (L' i) = v) (hM : ∀ j, j ≠ i → M' j = M j) (hL : ∀ j, j ≠ i → L' j = L j) :
    (ks_w G base sh M L).set i (base + i, v) = ks_w G base (sh.set i e') M' L' := by
  have hi : i < sh.length := (List.getElem?_eq_some_iff.mp h).1
  refine List.ext_getElem? fun j => ?_
  by_cases hj : j = i
  · subst hj
    rw [List.getElem?_set_self (by rw [ks_w_len]; exact hi), ks_w_get (e := e') (by rw [List.getElem?_set_self hi]), hv]
  · rw [List.getElem?_set_ne (fun q => hj q.symm), ks_w, ks_w, List.getElem?_mapIdx, List.getElem?_mapIdx, List.getElem?_set_ne (fun q => hj q.symm), hM j hj, hL j hj]
theorem ks_set_self {sh : List ks_S} {i : Nat} {e : ks_S} (h : sh[i]? = some e) : sh.set i e = sh := by
  refine List.ext_getElem? fun j => ?_
  by_cases hj : j = i
  · subst hj
    rw [List.getElem?_set_self (List.getElem?_eq_some_iff.mp h).1, h]
  · rw [List.getElem?_set_ne (fun q => hj q.symm)]
theorem ks_mapIdx_set {base : Nat} {f f' : Nat → Nat} {x x' : Int64} {d : List (Nat × Nat)} {k : Nat} {t t' : Nat × Nat} {v : Value} (hk : d[k]? = some t) (hv : ks_v base f' x' k t' = v) (ho : ∀ j u, j ≠ k → d[j]? = some u → ks_v base f' x' j u = ks_v base f x j u) :
    (d.set k t').mapIdx (ks_v base f' x') = (d.mapIdx (ks_v base f x)).set k v := by
  have hi : k < d.length := (List.getElem?_eq_some_iff.mp hk).1
  refine List.ext_getElem? fun j => ?_
  by_cases hj : j = k
  · subst hj
    rw [List.getElem?_set_self (by rw [List.length_mapIdx]; exact hi), List.getElem?_mapIdx, List.getElem?_set_self hi, Option.map_some, hv]
  · rw [List.getElem?_set_ne (fun q => hj q.symm), List.getElem?_mapIdx, List.getElem?_mapIdx, List.getElem?_set_ne (fun q => hj q.symm)]
    cases hu : d[j]? with
    | none => rfl
    | some u => rw [Option.map_some, Option.map_some, ho j u hj hu]
/-- what the tables say of a kind of objects -/
def ks_ok (ci : Nat) (C : String) (T : u_T) (N : Nat) : Prop := ks_cl[ci]? = some (C, T, N) ∧ (∀ w ∈ u_ws C T N, w ∈ ks_all) ∧ (∃ ty : Nat → FieldType, ∀ k, k < N → parseFieldDescriptor (T k).2.2.1 = some (ty k)) ∧ (∀ a, a < N → ∀ b, b < N → a ≠ b → (T a).2.1 ≠ (T b).2.1)
def ks_lk (own : String) (idx ci : Nat) (C : String) (T : u_T) (N k : Nat) : Prop := ks_ok ci C T N ∧ k < N ∧ Cond.fieldLink own idx (T k).1 (T k).2.1 (T k).2.2.1 ∈ ks_all
theorem kX0 : ks_ok 0 RX0 TX0 3 := ⟨rfl, by decide +kernel, ⟨tyX0, tyX0_ok⟩, nmX0⟩
theorem kX1 : ks_ok 1 RX1 TX1 2 := ⟨rfl, by decide +kernel, ⟨tyX1, tyX1_ok⟩, nmX1⟩
theorem kX2 : ks_ok 2 RX2 TX2 5 := ⟨rfl, by decide +kernel, ⟨tyX2, tyX2_ok⟩, nmX2⟩
theorem kX3 : ks_ok 3 RX3 TX3 7 := ⟨rfl, by decide +kernel, ⟨tyX3, tyX3_ok⟩, nmX3⟩
theorem kX4 : ks_ok 4 RX4 TX4 5 := ⟨rfl, by decide +kernel, ⟨tyX4, tyX4_ok⟩, nmX4⟩
theorem kX5 : ks_ok 5 RX5 TX5 2 := ⟨rfl, by decide +kernel, ⟨tyX5, tyX5_ok⟩, nmX5⟩
theorem kX6 : ks_ok 6 RX6 TX6 11 := ⟨rfl, by decide +kernel, ⟨tyX6, tyX6_ok⟩, nmX6⟩
theorem kX7 : ks_ok 7 RX7 TX7 30 := ⟨rfl, by decide +kernel, ⟨tyX7, tyX7_ok⟩, nmX7⟩
def ks_rm (d mc ms : Nat) : Room := { frames := d, cells := mc, slots := ms, locals := 48 * d }
def ks_Pc (G : ks_G) (base : Nat) (as : List Value) (sh : List ks_S) (M : ks_M) (L : ks_L) : Array Value → State → Prop := va_Pc as (fun U => (ks_R G base sh M L U.heap ∧ ks_K G U))
def ks_Qi (G : ks_G) (base : Nat) (sh : List ks_S) (post : Int32 → ks_M → ks_L → Prop) : Array Value → State → Outcome → State → Prop := va_Qi (S := ks_M × ks_L) (fun r u => post r u.1 u.2) (fun u t => ks_R G base sh u.1 u.2 t.heap) (ks_A base)
def ks_Ql (G : ks_G) (base : Nat) (sh : List ks_S) (post : Int64 → ks_M → ks_L → Prop) : Array Value → State → Outcome → State → Prop := va_Ql (S := ks_M × ks_L) (fun r u => post r u.1 u.2) (fun u t => ks_R G base sh u.1 u.2 t.heap) (ks_A base)
def ks_Qv (G : ks_G) (base : Nat) (sh : List ks_S) (post : ks_M → ks_L → Prop) : Array Value → State → Outcome → State → Prop := va_Qv (S := ks_M × ks_L) (fun u => post u.1 u.2) (fun u t => ks_R G base sh u.1 u.2 t.heap) (ks_A base)
def ks_Qr (G : ks_G) (base : Nat) (sh : List ks_S) (j : Nat) (post : ks_M → ks_L → Prop) : Array Value → State → Outcome → State → Prop := va_Qr (S := ks_M × ks_L) (fun u => post u.1 u.2) (fun u a t => a = base + j ∧ ks_R G base sh u.1 u.2 t.heap) (ks_A base)
/-- contracts: an int (or boolean), a long, nothing, a reference -/
def KI (l : Launch) (G : ks_G) (base d : Nat) (y : MethodName) (cc : ByteArray) (nL : Nat) (rt : FieldType) (as : List Value) (sh : List ks_S) (M : ks_M) (L : ks_L) (post : Int32 → ks_M → ks_L → Prop) : Prop := Met l y (.code y cc nL (some rt) :: ks_all) (ks_rm d 0 0) (ks_Pc G base as sh M L) (ks_Qi G base sh post) 0 0 (ks_A base)
def KL (l : Launch) (G : ks_G) (base d : Nat) (y : MethodName) (cc : ByteArray) (nL : Nat) (as : List Value) (sh : List ks_S) (M : ks_M) (L : ks_L) (post : Int64 → ks_M → ks_L → Prop) : Prop := Met l y (.code y cc nL (some .long) :: ks_all) (ks_rm d 0 0) (ks_Pc G base as sh M L) (ks_Ql G base sh post) 0 0 (ks_A base)
def KV (l : Launch) (G : ks_G) (base d mc ms : Nat) (y : MethodName) (cc : ByteArray) (nL : Nat) (as : List Value) (sh sh' : List ks_S) (M : ks_M) (L : ks_L) (post : ks_M → ks_L → Prop) : Prop := Met l y (.code y cc nL none :: ks_all) (ks_rm d mc ms) (ks_Pc G base as sh M L) (ks_Qv G base sh' post) mc ms (ks_A base)
def KR (l : Launch) (G : ks_G) (base d mc ms : Nat) (y : MethodName) (cc : ByteArray) (nL : Nat) (rt : FieldType) (as : List Value) (sh sh' : List ks_S) (j : Nat) (M : ks_M) (L : ks_L) (post : ks_M → ks_L → Prop) : Prop := Met l y (.code y cc nL (some rt) :: ks_all) (ks_rm d mc ms) (ks_Pc G base as sh M L) (ks_Qr G base sh' j post) mc ms (ks_A base)
theorem kbeq (a b : Nat) : Nat.beq a b = (a == b) := by
  rw [Bool.eq_iff_iff, Nat.beq_eq, beq_iff_eq]
/-- locals: by the first row that names the place -/
def kl : List (Nat × Value) → Nat → Option Value
  | [], _ => none
  | (j, v) :: t, i => bif Nat.beq j i then some v else kl t i
def kdel : List (Nat × Value) → Nat → List (Nat × Value)
  | [], _ => []
  | (j, v) :: t, i => bif (Nat.beq j i || (Nat.beq (j + 1) i && Nat.beq v.category 2)) then kdel t i else (j, v) :: kdel t i
def kdel2 : List (Nat × Value) → Nat → List (Nat × Value)
  | [], _ => []
  | (j, v) :: t, i => bif (Nat.beq j i || (Nat.beq j (i + 1) || (Nat.beq (j + 1) i && Nat.beq v.category 2))) then kdel2 t i else (j, v) :: kdel2 t i
theorem kl_mem {pl : List (Nat × Value)} {i : Nat} {v : Value} (h : kl pl i = some v) : (i, v) ∈ pl := by
  induction pl with
  | nil => cases h
  | cons q t ih =>
    obtain ⟨j, w⟩ := q
    cases e : Nat.beq j i with
    | true =>
      have hji : j = i := Nat.eq_of_beq_eq_true e
      simp only [kl, e, cond_true] at h
      cases h
      subst hji
      exact List.mem_cons_self
    | false =>
      simp only [kl, e, cond_false] at h
      exact List.mem_cons_of_mem _ (ih h)
theorem kl_at {ls : Array Slot} {nL : Nat} {pl : List (Nat × Value)} (h : lv_has ls nL pl) {i : Nat} {v : Value} (hk : kl pl i = some v) : ls[i]? = some (.val v) := h.2.2 (i, v) (kl_mem hk)
theorem kdel_sub {pl : List (Nat × Value)} {i : Nat} : ∀ q ∈ kdel pl i, q ∈ pl.filter (fun q => !(q.1 == i) && !(q.1 + 1 == i && q.2.category == 2)) := by
  induction pl with
  | nil => intro q h; cases h
  | cons q t ih =>
    obtain ⟨j, w⟩ := q
    intro z hz
    cases e : (Nat.beq j i || (Nat.beq (j + 1) i && Nat.beq w.category 2)) with
    | true =>
      simp only [kdel, e, cond_true] at hz
      exact List.mem_filter.mpr ⟨List.mem_cons_of_mem _ (List.mem_filter.mp (ih z hz)).1, (List.mem_filter.mp (ih z hz)).2⟩
    | false =>
      simp only [kdel, e, cond_false] at hz
      rcases List.mem_cons.mp hz with rfl | hz
      · have e' : ((j == i) || ((j + 1 == i) && (w.category == 2))) = false := by rw [← kbeq, ← kbeq, ← kbeq]; exact e
        refine List.mem_filter.mpr ⟨List.mem_cons_self, ?_⟩
        simp only [Bool.or_eq_false_iff] at e'
        simp only [e'.1, e'.2, Bool.not_false, Bool.and_self]
      · exact List.mem_filter.mpr ⟨List.mem_cons_of_mem _ (List.mem_filter.mp (ih z hz)).1, (List.mem_filter.mp (ih z hz)).2⟩
theorem kdel2_sub {pl : List (Nat × Value)} {i : Nat} : ∀ q ∈ kdel2 pl i, q ∈ pl.filter (fun q => !(q.1 == i) && (!(q.1 == i + 1) && !(q.1 + 1 == i && q.2.category == 2))) := by
  induction pl with
  | nil => intro q h; cases h
  | cons q t ih =>
    obtain ⟨j, w⟩ := q
    intro z hz
    cases e : (Nat.beq j i || (Nat.beq j (i + 1) || (Nat.beq (j + 1) i && Nat.beq w.category 2))) with
    | true =>
      simp only [kdel2, e, cond_true] at hz
      exact List.mem_filter.mpr ⟨List.mem_cons_of_mem _ (List.mem_filter.mp (ih z hz)).1, (List.mem_filter.mp (ih z hz)).2⟩
    | false =>
      simp only [kdel2, e, cond_false] at hz
      rcases List.mem_cons.mp hz with rfl | hz
      · have e' : ((j == i) || ((j == i + 1) || ((j + 1 == i) && (w.category == 2)))) = false := by rw [← kbeq, ← kbeq, ← kbeq, ← kbeq]; exact e
        refine List.mem_filter.mpr ⟨List.mem_cons_self, ?_⟩
        simp only [Bool.or_eq_false_iff] at e'
        simp only [e'.1, e'.2.1, e'.2.2, Bool.not_false, Bool.and_self]
      · exact List.mem_filter.mpr ⟨List.mem_cons_of_mem _ (List.mem_filter.mp (ih z hz)).1, (List.mem_filter.mp (ih z hz)).2⟩
def ks1 (pl : List (Nat × Value)) (i : Nat) (v : Value) : List (Nat × Value) := (i, v) :: kdel pl i
def ks2 (pl : List (Nat × Value)) (i : Nat) (v : Value) : List (Nat × Value) := (i, v) :: kdel2 pl i
theorem ks1_has {ls : Array Slot} {nL i : Nat} {v : Value} {pl : List (Nat × Value)} (h : lv_has ls nL ((i, v) :: pl.filter (fun q => !(q.1 == i) && !(q.1 + 1 == i && q.2.category == 2)))) : lv_has ls nL (ks1 pl i v) :=
  ⟨h.1, h.2.1, fun q hq => h.2.2 q ((List.mem_cons.mp hq).elim (fun e => e ▸ List.mem_cons_self) (fun hq => List.mem_cons_of_mem _ (kdel_sub q hq)))⟩
theorem ks2_has {ls : Array Slot} {nL i : Nat} {v : Value} {pl : List (Nat × Value)} (h : lv_has ls nL ((i, v) :: pl.filter (fun q => !(q.1 == i) && (!(q.1 == i + 1) && !(q.1 + 1 == i && q.2.category == 2))))) : lv_has ls nL (ks2 pl i v) :=
  ⟨h.1, h.2.1, fun q hq => h.2.2 q ((List.mem_cons.mp hq).elim (fun e => e ▸ List.mem_cons_self) (fun hq => List.mem_cons_of_mem _ (kdel2_sub q hq)))⟩
/-- rows of locals that the locals hold -/
def kpick (pl : List (Nat × Value)) : List (Nat × Value) → Prop
  | [] => True
  | (i, v) :: t => kl pl i = some v ∧ kpick pl t
theorem kpick_has {ls : Array Slot} {nL : Nat} {pl pl' : List (Nat × Value)} (h : lv_has ls nL pl) (hp : kpick pl pl') : lv_has ls nL pl' := by
  refine ⟨h.1, h.2.1, ?_⟩
  induction pl' with
  | nil => intro q hq; cases hq
  | cons z t ih =>
    obtain ⟨i, v⟩ := z
    intro q hq
    rcases List.mem_cons.mp hq with rfl | hq
    · exact kl_at h hp.1
    · exact ih hp.2 q hq
