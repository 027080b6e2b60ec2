/-! THE ROWS: a walk over shapes and a memory, an instruction a row -/
abbrev ks_Cx : Type := Program × Launch × Env × Room × State × MethodId × Array Value × List Frame × Method × Code × (State → Prop)
def KW (K : ks_Cx) (H : Heap) (locs : List Loc) (cells slots : Nat) (g : JFrame) : Prop := W K.1 K.2.1 K.2.2.1 K.2.2.2.1 K.2.2.2.2.1 K.2.2.2.2.2.1 K.2.2.2.2.2.2.1 K.2.2.2.2.2.2.2.1 K.2.2.2.2.2.2.2.2.1 K.2.2.2.2.2.2.2.2.2.1 H locs cells slots K.2.2.2.2.2.2.2.2.2.2 g
def kR (K : ks_Cx) : Room := K.2.2.2.1
def kS (K : ks_Cx) : State := K.2.2.2.2.1
def kM (K : ks_Cx) : MethodId := K.2.2.2.2.2.1
def kA (K : ks_Cx) : Array Value := K.2.2.2.2.2.2.1
def kMe (K : ks_Cx) : Method := K.2.2.2.2.2.2.2.2.1
def kC (K : ks_Cx) : Code := K.2.2.2.2.2.2.2.2.2.1
/-- what holds all through a walk -/
def KX (K : ks_Cx) (G : ks_G) (base nL : Nat) (own : String) (cc : ByteArray) (d : Nat) : Prop :=
  K.1.tables.exec = Jvm.exec ∧ (kC K).code = cc ∧ (kC K).maxLocals = nL ∧ (kS K).vm.findClass own = some (kM K).cls ∧ (∀ w ∈ ks_all, w.before (kA K) (kS K) = true) ∧ ks_K G (kS K) ∧ base ≤ (kS K).heap.size ∧ d ≤ (kR K).frames ∧ 48 * d ≤ (kR K).locals
/-- the walk, from a place of the code, with these shapes, this memory, these locals, this stack -/
def RN (K : ks_Cx) (G : ks_G) (base nL cells slots : Nat) (sh : List ks_S) (M : ks_M) (L : ks_L) (pc : Nat) (pl : List (Nat × Value)) (st : List Value) : Prop :=
  ∀ (H : Heap) (locs : List Loc) (ls : Array Slot), ks_R G base sh M L H → va_S (ks_A base) (kS K).heap H locs → lv_has ls nL pl → KW K H locs cells slots (F0 (kM K) pc ls st)
section ROWS
variable {K : ks_Cx} {G : ks_G} {base nL : Nat} {own : String} {cc : ByteArray} {d cells slots : Nat} {sh : List ks_S} {M : ks_M} {L : ks_L} {pc q : Nat} {pl : List (Nat × Value)} {st : List Value}
theorem r_pl (pl' : List (Nat × Value)) (hp : kpick pl pl') (k : RN K G base nL cells slots sh M L pc pl' st) : RN K G base nL cells slots sh M L pc pl st := fun H locs ls hR hS hl => k H locs ls hR hS (kpick_has hl hp)
theorem r_mem (M' : ks_M) (hM : M = M') (k : RN K G base nL cells slots sh M' L pc pl st) : RN K G base nL cells slots sh M L pc pl st := hM ▸ k
theorem r_st (st' : List Value) (hM : st = st') (k : RN K G base nL cells slots sh M L pc pl st') : RN K G base nL cells slots sh M L pc pl st := hM ▸ k

theorem r_iconst (X : KX K G base nL own cc d) {n : Int} {v : Int32} (hv : Int32.ofInt n = v) (hd : decode cc pc = .ok (.iconst n, 1)) (hq : pc + 1 = q) (k : RN K G base nL cells slots sh M L q pl (.int v :: st)) : RN K G base nL cells slots sh M L pc pl (st) := by
  subst hq
  intro H locs ls hR hS hl
  exact lv_iconst X.1 X.2.1 hd hv (k H locs ls hR hS hl)
theorem r_bipush (X : KX K G base nL own cc d) {n : Int} {v : Int32} (hv : (Int8.ofInt n).toInt32 = v) (hd : decode cc pc = .ok (.bipush n, 2)) (hq : pc + 2 = q) (k : RN K G base nL cells slots sh M L q pl (.int v :: st)) : RN K G base nL cells slots sh M L pc pl (st) := by
  subst hq
  intro H locs ls hR hS hl
  exact lv_bipush X.1 X.2.1 hd hv (k H locs ls hR hS hl)
theorem r_sipush (X : KX K G base nL own cc d) {n : Int} {v : Int32} (hv : (Int16.ofInt n).toInt32 = v) (hd : decode cc pc = .ok (.sipush n, 3)) (hq : pc + 3 = q) (k : RN K G base nL cells slots sh M L q pl (.int v :: st)) : RN K G base nL cells slots sh M L pc pl (st) := by
  subst hq
  intro H locs ls hR hS hl
  exact lv_sipush X.1 X.2.1 hd hv (k H locs ls hR hS hl)
theorem r_lconst (X : KX K G base nL own cc d) {n : Fin 2} {v : Int64} (hv : Int64.ofNat (n : Nat) = v) (hd : decode cc pc = .ok (.lconst n, 1)) (hq : pc + 1 = q) (k : RN K G base nL cells slots sh M L q pl (.long v :: st)) : RN K G base nL cells slots sh M L pc pl (st) := by
  subst hq
  intro H locs ls hR hS hl
  exact lv_lconst X.1 X.2.1 hd hv (k H locs ls hR hS hl)
theorem r_ldc2 (X : KX K G base nL own cc d) {idx : Nat} {v : Int64} (hw : Jvm.Cond.constantLong own idx v ∈ ks_all) (hd : decode cc pc = .ok (.ldc2_w idx, 3)) (hq : pc + 3 = q) (k : RN K G base nL cells slots sh M L q pl (.long v :: st)) : RN K G base nL cells slots sh M L pc pl (st) := by
  subst hq
  intro H locs ls hR hS hl
  exact lv_ldc2 X.1 X.2.1 X.2.2.2.1 (X.2.2.2.2.1 _ hw) hd (k H locs ls hR hS hl)
theorem r_ldcw (X : KX K G base nL own cc d) {idx : Nat} {v : Int32} (hw : Jvm.Cond.constant own idx v ∈ ks_all) (hd : decode cc pc = .ok (.ldc_w idx, 3)) (hq : pc + 3 = q) (k : RN K G base nL cells slots sh M L q pl (.int v :: st)) : RN K G base nL cells slots sh M L pc pl (st) := by
  subst hq
  intro H locs ls hR hS hl
  exact lv_ldcw X.1 X.2.1 X.2.2.2.1 (X.2.2.2.2.1 _ hw) hd (k H locs ls hR hS hl)
theorem r_iload_n (X : KX K G base nL own cc d) {j : Fin 4} {i : Nat} {x : Int32} (hi : (j : Nat) = i) (hv : kl pl i = some (.int x)) (hd : decode cc pc = .ok (.iload_n j, 1)) (hq : pc + 1 = q) (k : RN K G base nL cells slots sh M L q pl (.int x :: st)) : RN K G base nL cells slots sh M L pc pl (st) := by
  subst hq
  intro H locs ls hR hS hl
  exact lv_iload_n X.1 X.2.1 hd hi (kl_at hl hv) (k H locs ls hR hS hl)
theorem r_iload (X : KX K G base nL own cc d) {i : Nat} {x : Int32} (hv : kl pl i = some (.int x)) (hd : decode cc pc = .ok (.iload i, 2)) (hq : pc + 2 = q) (k : RN K G base nL cells slots sh M L q pl (.int x :: st)) : RN K G base nL cells slots sh M L pc pl (st) := by
  subst hq
  intro H locs ls hR hS hl
  exact lv_iload X.1 X.2.1 hd (kl_at hl hv) (k H locs ls hR hS hl)
theorem r_istore_n (X : KX K G base nL own cc d) {j : Fin 4} {i : Nat} {x : Int32} (hi : (j : Nat) = i) (hn : i < nL) (hd : decode cc pc = .ok (.istore_n j, 1)) (hq : pc + 1 = q) (k : RN K G base nL cells slots sh M L q (ks1 pl i (.int x)) (st)) : RN K G base nL cells slots sh M L pc pl (.int x :: st) := by
  subst hq
  intro H locs ls hR hS hl
  exact lv_istore_n X.1 X.2.1 hd hi hl hn rfl (fun ls' h' => k H locs ls' hR hS (ks1_has h'))
theorem r_istore (X : KX K G base nL own cc d) {i : Nat} {x : Int32} (hn : i < nL) (hd : decode cc pc = .ok (.istore i, 2)) (hq : pc + 2 = q) (k : RN K G base nL cells slots sh M L q (ks1 pl i (.int x)) (st)) : RN K G base nL cells slots sh M L pc pl (.int x :: st) := by
  subst hq
  intro H locs ls hR hS hl
  exact lv_istore X.1 X.2.1 hd hl hn rfl (fun ls' h' => k H locs ls' hR hS (ks1_has h'))
theorem r_lload_n (X : KX K G base nL own cc d) {j : Fin 4} {i : Nat} {x : Int64} (hi : (j : Nat) = i) (hv : kl pl i = some (.long x)) (hd : decode cc pc = .ok (.lload_n j, 1)) (hq : pc + 1 = q) (k : RN K G base nL cells slots sh M L q pl (.long x :: st)) : RN K G base nL cells slots sh M L pc pl (st) := by
  subst hq
  intro H locs ls hR hS hl
  exact lv_lload_n X.1 X.2.1 hd hi (kl_at hl hv) (k H locs ls hR hS hl)
theorem r_lload (X : KX K G base nL own cc d) {i : Nat} {x : Int64} (hv : kl pl i = some (.long x)) (hd : decode cc pc = .ok (.lload i, 2)) (hq : pc + 2 = q) (k : RN K G base nL cells slots sh M L q pl (.long x :: st)) : RN K G base nL cells slots sh M L pc pl (st) := by
  subst hq
  intro H locs ls hR hS hl
  exact lv_lload X.1 X.2.1 hd (kl_at hl hv) (k H locs ls hR hS hl)
theorem r_lstore_n (X : KX K G base nL own cc d) {j : Fin 4} {i : Nat} {x : Int64} (hi : (j : Nat) = i) (hn : i + 1 < nL) (hd : decode cc pc = .ok (.lstore_n j, 1)) (hq : pc + 1 = q) (k : RN K G base nL cells slots sh M L q (ks2 pl i (.long x)) (st)) : RN K G base nL cells slots sh M L pc pl (.long x :: st) := by
  subst hq
  intro H locs ls hR hS hl
  exact lv_lstore_n X.1 X.2.1 hd hi hl hn rfl (fun ls' h' => k H locs ls' hR hS (ks2_has h'))
theorem r_lstore (X : KX K G base nL own cc d) {i : Nat} {x : Int64} (hn : i + 1 < nL) (hd : decode cc pc = .ok (.lstore i, 2)) (hq : pc + 2 = q) (k : RN K G base nL cells slots sh M L q (ks2 pl i (.long x)) (st)) : RN K G base nL cells slots sh M L pc pl (.long x :: st) := by
  subst hq
  intro H locs ls hR hS hl
  exact lv_lstore X.1 X.2.1 hd hl hn rfl (fun ls' h' => k H locs ls' hR hS (ks2_has h'))
theorem r_aload_n (X : KX K G base nL own cc d) {j : Fin 4} {i : Nat} {x : Nat} (hi : (j : Nat) = i) (hv : kl pl i = some (.ref x)) (hd : decode cc pc = .ok (.aload_n j, 1)) (hq : pc + 1 = q) (k : RN K G base nL cells slots sh M L q pl (.ref x :: st)) : RN K G base nL cells slots sh M L pc pl (st) := by
  subst hq
  intro H locs ls hR hS hl
  exact lv_aload_n X.1 X.2.1 hd hi (kl_at hl hv) (k H locs ls hR hS hl)
theorem r_aload (X : KX K G base nL own cc d) {i : Nat} {x : Nat} (hv : kl pl i = some (.ref x)) (hd : decode cc pc = .ok (.aload i, 2)) (hq : pc + 2 = q) (k : RN K G base nL cells slots sh M L q pl (.ref x :: st)) : RN K G base nL cells slots sh M L pc pl (st) := by
  subst hq
  intro H locs ls hR hS hl
  exact lv_aload X.1 X.2.1 hd (kl_at hl hv) (k H locs ls hR hS hl)
theorem r_astore_n (X : KX K G base nL own cc d) {j : Fin 4} {i : Nat} {x : Nat} (hi : (j : Nat) = i) (hn : i < nL) (hd : decode cc pc = .ok (.astore_n j, 1)) (hq : pc + 1 = q) (k : RN K G base nL cells slots sh M L q (ks1 pl i (.ref x)) (st)) : RN K G base nL cells slots sh M L pc pl (.ref x :: st) := by
  subst hq
  intro H locs ls hR hS hl
  exact lv_astore_n X.1 X.2.1 hd hi hl hn rfl (fun ls' h' => k H locs ls' hR hS (ks1_has h'))
theorem r_astore (X : KX K G base nL own cc d) {i : Nat} {x : Nat} (hn : i < nL) (hd : decode cc pc = .ok (.astore i, 2)) (hq : pc + 2 = q) (k : RN K G base nL cells slots sh M L q (ks1 pl i (.ref x)) (st)) : RN K G base nL cells slots sh M L pc pl (.ref x :: st) := by
  subst hq
  intro H locs ls hR hS hl
  exact lv_astore X.1 X.2.1 hd hl hn rfl (fun ls' h' => k H locs ls' hR hS (ks1_has h'))
theorem r_iinc (X : KX K G base nL own cc d) {i : Nat} {n : Int} {x v : Int32} (hv : kl pl i = some (.int x)) (hn : i < nL) (he : x + Int32.ofInt n = v) (hd : decode cc pc = .ok (.iinc i n, 3)) (hq : pc + 3 = q) (k : RN K G base nL cells slots sh M L q (ks1 pl i (.int v)) st) : RN K G base nL cells slots sh M L pc pl st := by
  subst hq
  intro H locs ls hR hS hl
  obtain ⟨j, hj⟩ := List.getElem?_of_mem (kl_mem hv)
  exact lv_iinc X.1 X.2.1 hd hl hj he hn rfl (fun ls' h' => k H locs ls' hR hS (ks1_has h'))
theorem r_iaddR (X : KX K G base nL own cc d) {x y v : Int32} (hv : x + y = v) (hd : decode cc pc = .ok (.iadd, 1)) (hq : pc + 1 = q) (k : RN K G base nL cells slots sh M L q pl (.int v :: st)) : RN K G base nL cells slots sh M L pc pl (.int y :: .int x :: st) := by
  subst hq
  subst hv
  intro H locs ls hR hS hl
  exact lv_iadd X.1 X.2.1 hd (k H locs ls hR hS hl)
theorem r_isubR (X : KX K G base nL own cc d) {x y v : Int32} (hv : x - y = v) (hd : decode cc pc = .ok (.isub, 1)) (hq : pc + 1 = q) (k : RN K G base nL cells slots sh M L q pl (.int v :: st)) : RN K G base nL cells slots sh M L pc pl (.int y :: .int x :: st) := by
  subst hq
  subst hv
  intro H locs ls hR hS hl
  exact lv_isub X.1 X.2.1 hd (k H locs ls hR hS hl)
theorem r_imulR (X : KX K G base nL own cc d) {x y v : Int32} (hv : x * y = v) (hd : decode cc pc = .ok (.imul, 1)) (hq : pc + 1 = q) (k : RN K G base nL cells slots sh M L q pl (.int v :: st)) : RN K G base nL cells slots sh M L pc pl (.int y :: .int x :: st) := by
  subst hq
  subst hv
  intro H locs ls hR hS hl
  exact lv_imul X.1 X.2.1 hd (k H locs ls hR hS hl)
theorem r_iandR (X : KX K G base nL own cc d) {x y v : Int32} (hv : x &&& y = v) (hd : decode cc pc = .ok (.iand, 1)) (hq : pc + 1 = q) (k : RN K G base nL cells slots sh M L q pl (.int v :: st)) : RN K G base nL cells slots sh M L pc pl (.int y :: .int x :: st) := by
  subst hq
  subst hv
  intro H locs ls hR hS hl
  exact lv_iand X.1 X.2.1 hd (k H locs ls hR hS hl)
theorem r_iorR (X : KX K G base nL own cc d) {x y v : Int32} (hv : x ||| y = v) (hd : decode cc pc = .ok (.ior, 1)) (hq : pc + 1 = q) (k : RN K G base nL cells slots sh M L q pl (.int v :: st)) : RN K G base nL cells slots sh M L pc pl (.int y :: .int x :: st) := by
  subst hq
  subst hv
  intro H locs ls hR hS hl
  exact lv_ior X.1 X.2.1 hd (k H locs ls hR hS hl)
theorem r_ixorR (X : KX K G base nL own cc d) {x y v : Int32} (hv : x ^^^ y = v) (hd : decode cc pc = .ok (.ixor, 1)) (hq : pc + 1 = q) (k : RN K G base nL cells slots sh M L q pl (.int v :: st)) : RN K G base nL cells slots sh M L pc pl (.int y :: .int x :: st) := by
  subst hq
  subst hv
  intro H locs ls hR hS hl
  exact lv_ixor X.1 X.2.1 hd (k H locs ls hR hS hl)
theorem r_ishlR (X : KX K G base nL own cc d) {x y v : Int32} (hv : x <<< (y &&& 31) = v) (hd : decode cc pc = .ok (.ishl, 1)) (hq : pc + 1 = q) (k : RN K G base nL cells slots sh M L q pl (.int v :: st)) : RN K G base nL cells slots sh M L pc pl (.int y :: .int x :: st) := by
  subst hq
  subst hv
  intro H locs ls hR hS hl
  exact lv_ishl X.1 X.2.1 hd (k H locs ls hR hS hl)
theorem r_ishrR (X : KX K G base nL own cc d) {x y v : Int32} (hv : x >>> (y &&& 31) = v) (hd : decode cc pc = .ok (.ishr, 1)) (hq : pc + 1 = q) (k : RN K G base nL cells slots sh M L q pl (.int v :: st)) : RN K G base nL cells slots sh M L pc pl (.int y :: .int x :: st) := by
  subst hq
  subst hv
  intro H locs ls hR hS hl
  exact lv_ishr X.1 X.2.1 hd (k H locs ls hR hS hl)
theorem r_idivR (X : KX K G base nL own cc d) {x y v : Int32} (h0 : ¬ y = 0) (hv : x / y = v) (hd : decode cc pc = .ok (.idiv, 1)) (hq : pc + 1 = q) (k : RN K G base nL cells slots sh M L q pl (.int v :: st)) : RN K G base nL cells slots sh M L pc pl (.int y :: .int x :: st) := by
  subst hq
  subst hv
  intro H locs ls hR hS hl
  exact lv_idiv X.1 X.2.1 hd h0 (k H locs ls hR hS hl)
theorem r_iremR (X : KX K G base nL own cc d) {x y v : Int32} (h0 : ¬ y = 0) (hv : x - x / y * y = v) (hd : decode cc pc = .ok (.irem, 1)) (hq : pc + 1 = q) (k : RN K G base nL cells slots sh M L q pl (.int v :: st)) : RN K G base nL cells slots sh M L pc pl (.int y :: .int x :: st) := by
  subst hq
  subst hv
  intro H locs ls hR hS hl
  exact lv_irem X.1 X.2.1 hd h0 (k H locs ls hR hS hl)
theorem r_ineg (X : KX K G base nL own cc d) {x : Int32} (hd : decode cc pc = .ok (.ineg, 1)) (hq : pc + 1 = q) (k : RN K G base nL cells slots sh M L q pl (.int (-x) :: st)) : RN K G base nL cells slots sh M L pc pl (.int x :: st) := by
  subst hq
  intro H locs ls hR hS hl
  exact lv_ineg X.1 X.2.1 hd (k H locs ls hR hS hl)
theorem r_iushrR (X : KX K G base nL own cc d) {x y v : Int32} (hv : (x.toUInt32 >>> (y.toUInt32 &&& Int32.toUInt32 31)).toInt32 = v) (hd : decode cc pc = .ok (.iushr, 1)) (hq : pc + 1 = q) (k : RN K G base nL cells slots sh M L q pl (.int v :: st)) : RN K G base nL cells slots sh M L pc pl (.int y :: .int x :: st) := by
  subst hq
  intro H locs ls hR hS hl
  exact lv_iushr X.1 X.2.1 hd hv (k H locs ls hR hS hl)
theorem r_ladd (X : KX K G base nL own cc d) {x y : Int64} (hd : decode cc pc = .ok (.ladd, 1)) (hq : pc + 1 = q) (k : RN K G base nL cells slots sh M L q pl (.long (x + y) :: st)) : RN K G base nL cells slots sh M L pc pl (.long y :: .long x :: st) := by
  subst hq
  intro H locs ls hR hS hl
  exact lv_ladd X.1 X.2.1 hd (k H locs ls hR hS hl)
theorem r_lmul (X : KX K G base nL own cc d) {x y : Int64} (hd : decode cc pc = .ok (.lmul, 1)) (hq : pc + 1 = q) (k : RN K G base nL cells slots sh M L q pl (.long (x * y) :: st)) : RN K G base nL cells slots sh M L pc pl (.long y :: .long x :: st) := by
  subst hq
  intro H locs ls hR hS hl
  exact lv_lmul X.1 X.2.1 hd (k H locs ls hR hS hl)
theorem r_land (X : KX K G base nL own cc d) {x y : Int64} (hd : decode cc pc = .ok (.land, 1)) (hq : pc + 1 = q) (k : RN K G base nL cells slots sh M L q pl (.long (x &&& y) :: st)) : RN K G base nL cells slots sh M L pc pl (.long y :: .long x :: st) := by
  subst hq
  intro H locs ls hR hS hl
  exact lv_land X.1 X.2.1 hd (k H locs ls hR hS hl)
theorem r_lor (X : KX K G base nL own cc d) {x y : Int64} (hd : decode cc pc = .ok (.lor, 1)) (hq : pc + 1 = q) (k : RN K G base nL cells slots sh M L q pl (.long (x ||| y) :: st)) : RN K G base nL cells slots sh M L pc pl (.long y :: .long x :: st) := by
  subst hq
  intro H locs ls hR hS hl
  exact lv_lor X.1 X.2.1 hd (k H locs ls hR hS hl)
theorem r_lsub (X : KX K G base nL own cc d) {x y : Int64} (hd : decode cc pc = .ok (.lsub, 1)) (hq : pc + 1 = q) (k : RN K G base nL cells slots sh M L q pl (.long (x - y) :: st)) : RN K G base nL cells slots sh M L pc pl (.long y :: .long x :: st) := by
  subst hq
  intro H locs ls hR hS hl
  exact lv_lsub X.1 X.2.1 hd (k H locs ls hR hS hl)
theorem r_lrem (X : KX K G base nL own cc d) {x y : Int64} (h0 : ¬ y = 0) (hd : decode cc pc = .ok (.lrem, 1)) (hq : pc + 1 = q) (k : RN K G base nL cells slots sh M L q pl (.long (x - x / y * y) :: st)) : RN K G base nL cells slots sh M L pc pl (.long y :: .long x :: st) := by
  subst hq
  intro H locs ls hR hS hl
  exact lv_lrem X.1 X.2.1 hd h0 (k H locs ls hR hS hl)
theorem r_lushr (X : KX K G base nL own cc d) {x v : Int64} {y : Int32} (hv : (x.toUInt64 >>> (y.toInt64.toUInt64 &&& Int64.toUInt64 63)).toInt64 = v) (hd : decode cc pc = .ok (.lushr, 1)) (hq : pc + 1 = q) (k : RN K G base nL cells slots sh M L q pl (.long v :: st)) : RN K G base nL cells slots sh M L pc pl (.int y :: .long x :: st) := by
  subst hq
  intro H locs ls hR hS hl
  exact lv_lushr X.1 X.2.1 hd hv (k H locs ls hR hS hl)
theorem r_lshl (X : KX K G base nL own cc d) {x v : Int64} {y : Int32} (hv : x <<< (y.toInt64 &&& 63) = v) (hd : decode cc pc = .ok (.lshl, 1)) (hq : pc + 1 = q) (k : RN K G base nL cells slots sh M L q pl (.long v :: st)) : RN K G base nL cells slots sh M L pc pl (.int y :: .long x :: st) := by
  subst hq
  intro H locs ls hR hS hl
  exact lv_lshl X.1 X.2.1 hd hv (k H locs ls hR hS hl)
theorem r_i2l (X : KX K G base nL own cc d) {x : Int32} {v : Int64} (hv : x.toInt64 = v) (hd : decode cc pc = .ok (.i2l, 1)) (hq : pc + 1 = q) (k : RN K G base nL cells slots sh M L q pl (.long v :: st)) : RN K G base nL cells slots sh M L pc pl (.int x :: st) := by
  subst hq
  intro H locs ls hR hS hl
  exact lv_i2l X.1 X.2.1 hd hv (k H locs ls hR hS hl)
theorem r_l2i (X : KX K G base nL own cc d) {x : Int64} {v : Int32} (hv : x.toInt32 = v) (hd : decode cc pc = .ok (.l2i, 1)) (hq : pc + 1 = q) (k : RN K G base nL cells slots sh M L q pl (.int v :: st)) : RN K G base nL cells slots sh M L pc pl (.long x :: st) := by
  subst hq
  intro H locs ls hR hS hl
  exact lv_l2i X.1 X.2.1 hd hv (k H locs ls hR hS hl)
theorem r_lcmp (X : KX K G base nL own cc d) {x y : Int64} (hd : decode cc pc = .ok (.lcmp, 1)) (hq : pc + 1 = q) (k : RN K G base nL cells slots sh M L q pl (.int (lg_cmp x y) :: st)) : RN K G base nL cells slots sh M L pc pl (.long y :: .long x :: st) := by
  subst hq
  intro H locs ls hR hS hl
  exact W.lcmp X.1 X.2.1 hd (k H locs ls hR hS hl)
theorem r_dup (X : KX K G base nL own cc d) {va : Value} (hc : va.category = 1) (hd : decode cc pc = .ok (.dup, 1)) (hq : pc + 1 = q) (k : RN K G base nL cells slots sh M L q pl (va :: va :: st)) : RN K G base nL cells slots sh M L pc pl (va :: st) := by
  subst hq
  intro H locs ls hR hS hl
  exact lv_dup X.1 X.2.1 hd hc (k H locs ls hR hS hl)
theorem r_pop (X : KX K G base nL own cc d) {va : Value} (hc : va.category = 1) (hd : decode cc pc = .ok (.pop, 1)) (hq : pc + 1 = q) (k : RN K G base nL cells slots sh M L q pl (st)) : RN K G base nL cells slots sh M L pc pl (va :: st) := by
  subst hq
  intro H locs ls hR hS hl
  exact lv_pop X.1 X.2.1 hd hc (k H locs ls hR hS hl)
theorem r_dup2 (X : KX K G base nL own cc d) {va vb : Value} (hc : va.category = 1) (hb : vb.category = 1) (hd : decode cc pc = .ok (.dup2, 1)) (hq : pc + 1 = q) (k : RN K G base nL cells slots sh M L q pl (va :: vb :: va :: vb :: st)) : RN K G base nL cells slots sh M L pc pl (va :: vb :: st) := by
  subst hq
  intro H locs ls hR hS hl
  exact lv_dup2_11 X.1 X.2.1 hd hc hb (k H locs ls hR hS hl)
theorem r_if_eq (X : KX K G base nL own cc d) {x : Int32} {off : Int} {tgt : Nat} (ht : (pc : Int) + off = (tgt : Int)) (hd : decode cc pc = .ok (.ifCond .eq off, 3)) (hq : pc + 3 = q) (kt : x = 0 → RN K G base nL cells slots sh M L tgt pl (st)) (kf : ¬ x = 0 → RN K G base nL cells slots sh M L q pl (st)) : RN K G base nL cells slots sh M L pc pl (.int x :: st) := by
  subst hq
  intro H locs ls hR hS hl
  exact lv_if_eq X.1 X.2.1 hd ht (fun h => kt h H locs ls hR hS hl) (fun h => kf h H locs ls hR hS hl)
theorem r_icmp_eq (X : KX K G base nL own cc d) {x y : Int32} {off : Int} {tgt : Nat} (ht : (pc : Int) + off = (tgt : Int)) (hd : decode cc pc = .ok (.if_icmp .eq off, 3)) (hq : pc + 3 = q) (kt : x = y → RN K G base nL cells slots sh M L tgt pl (st)) (kf : ¬ x = y → RN K G base nL cells slots sh M L q pl (st)) : RN K G base nL cells slots sh M L pc pl (.int y :: .int x :: st) := by
  subst hq
  intro H locs ls hR hS hl
  exact lv_icmp_eq X.1 X.2.1 hd ht (fun h => kt h H locs ls hR hS hl) (fun h => kf h H locs ls hR hS hl)
theorem r_if_ne (X : KX K G base nL own cc d) {x : Int32} {off : Int} {tgt : Nat} (ht : (pc : Int) + off = (tgt : Int)) (hd : decode cc pc = .ok (.ifCond .ne off, 3)) (hq : pc + 3 = q) (kt : ¬ x = 0 → RN K G base nL cells slots sh M L tgt pl (st)) (kf : x = 0 → RN K G base nL cells slots sh M L q pl (st)) : RN K G base nL cells slots sh M L pc pl (.int x :: st) := by
  subst hq
  intro H locs ls hR hS hl
  exact lv_if_ne X.1 X.2.1 hd ht (fun h => kt h H locs ls hR hS hl) (fun h => kf h H locs ls hR hS hl)
theorem r_icmp_ne (X : KX K G base nL own cc d) {x y : Int32} {off : Int} {tgt : Nat} (ht : (pc : Int) + off = (tgt : Int)) (hd : decode cc pc = .ok (.if_icmp .ne off, 3)) (hq : pc + 3 = q) (kt : ¬ x = y → RN K G base nL cells slots sh M L tgt pl (st)) (kf : x = y → RN K G base nL cells slots sh M L q pl (st)) : RN K G base nL cells slots sh M L pc pl (.int y :: .int x :: st) := by
  subst hq
  intro H locs ls hR hS hl
  exact lv_icmp_ne X.1 X.2.1 hd ht (fun h => kt h H locs ls hR hS hl) (fun h => kf h H locs ls hR hS hl)
theorem r_if_lt (X : KX K G base nL own cc d) {x : Int32} {off : Int} {tgt : Nat} (ht : (pc : Int) + off = (tgt : Int)) (hd : decode cc pc = .ok (.ifCond .lt off, 3)) (hq : pc + 3 = q) (kt : x < 0 → RN K G base nL cells slots sh M L tgt pl (st)) (kf : ¬ x < 0 → RN K G base nL cells slots sh M L q pl (st)) : RN K G base nL cells slots sh M L pc pl (.int x :: st) := by
  subst hq
  intro H locs ls hR hS hl
  exact lv_if_lt X.1 X.2.1 hd ht (fun h => kt h H locs ls hR hS hl) (fun h => kf h H locs ls hR hS hl)
theorem r_icmp_lt (X : KX K G base nL own cc d) {x y : Int32} {off : Int} {tgt : Nat} (ht : (pc : Int) + off = (tgt : Int)) (hd : decode cc pc = .ok (.if_icmp .lt off, 3)) (hq : pc + 3 = q) (kt : x < y → RN K G base nL cells slots sh M L tgt pl (st)) (kf : ¬ x < y → RN K G base nL cells slots sh M L q pl (st)) : RN K G base nL cells slots sh M L pc pl (.int y :: .int x :: st) := by
  subst hq
  intro H locs ls hR hS hl
  exact lv_icmp_lt X.1 X.2.1 hd ht (fun h => kt h H locs ls hR hS hl) (fun h => kf h H locs ls hR hS hl)
theorem r_if_ge (X : KX K G base nL own cc d) {x : Int32} {off : Int} {tgt : Nat} (ht : (pc : Int) + off = (tgt : Int)) (hd : decode cc pc = .ok (.ifCond .ge off, 3)) (hq : pc + 3 = q) (kt : 0 ≤ x → RN K G base nL cells slots sh M L tgt pl (st)) (kf : ¬ 0 ≤ x → RN K G base nL cells slots sh M L q pl (st)) : RN K G base nL cells slots sh M L pc pl (.int x :: st) := by
  subst hq
  intro H locs ls hR hS hl
  exact lv_if_ge X.1 X.2.1 hd ht (fun h => kt h H locs ls hR hS hl) (fun h => kf h H locs ls hR hS hl)
theorem r_icmp_ge (X : KX K G base nL own cc d) {x y : Int32} {off : Int} {tgt : Nat} (ht : (pc : Int) + off = (tgt : Int)) (hd : decode cc pc = .ok (.if_icmp .ge off, 3)) (hq : pc + 3 = q) (kt : y ≤ x → RN K G base nL cells slots sh M L tgt pl (st)) (kf : ¬ y ≤ x → RN K G base nL cells slots sh M L q pl (st)) : RN K G base nL cells slots sh M L pc pl (.int y :: .int x :: st) := by
  subst hq
  intro H locs ls hR hS hl
  exact lv_icmp_ge X.1 X.2.1 hd ht (fun h => kt h H locs ls hR hS hl) (fun h => kf h H locs ls hR hS hl)
theorem r_if_gt (X : KX K G base nL own cc d) {x : Int32} {off : Int} {tgt : Nat} (ht : (pc : Int) + off = (tgt : Int)) (hd : decode cc pc = .ok (.ifCond .gt off, 3)) (hq : pc + 3 = q) (kt : 0 < x → RN K G base nL cells slots sh M L tgt pl (st)) (kf : ¬ 0 < x → RN K G base nL cells slots sh M L q pl (st)) : RN K G base nL cells slots sh M L pc pl (.int x :: st) := by
  subst hq
  intro H locs ls hR hS hl
  exact lv_if_gt X.1 X.2.1 hd ht (fun h => kt h H locs ls hR hS hl) (fun h => kf h H locs ls hR hS hl)
theorem r_icmp_gt (X : KX K G base nL own cc d) {x y : Int32} {off : Int} {tgt : Nat} (ht : (pc : Int) + off = (tgt : Int)) (hd : decode cc pc = .ok (.if_icmp .gt off, 3)) (hq : pc + 3 = q) (kt : y < x → RN K G base nL cells slots sh M L tgt pl (st)) (kf : ¬ y < x → RN K G base nL cells slots sh M L q pl (st)) : RN K G base nL cells slots sh M L pc pl (.int y :: .int x :: st) := by
  subst hq
  intro H locs ls hR hS hl
  exact lv_icmp_gt X.1 X.2.1 hd ht (fun h => kt h H locs ls hR hS hl) (fun h => kf h H locs ls hR hS hl)
theorem r_if_le (X : KX K G base nL own cc d) {x : Int32} {off : Int} {tgt : Nat} (ht : (pc : Int) + off = (tgt : Int)) (hd : decode cc pc = .ok (.ifCond .le off, 3)) (hq : pc + 3 = q) (kt : x ≤ 0 → RN K G base nL cells slots sh M L tgt pl (st)) (kf : ¬ x ≤ 0 → RN K G base nL cells slots sh M L q pl (st)) : RN K G base nL cells slots sh M L pc pl (.int x :: st) := by
  subst hq
  intro H locs ls hR hS hl
  exact lv_if_le X.1 X.2.1 hd ht (fun h => kt h H locs ls hR hS hl) (fun h => kf h H locs ls hR hS hl)
theorem r_icmp_le (X : KX K G base nL own cc d) {x y : Int32} {off : Int} {tgt : Nat} (ht : (pc : Int) + off = (tgt : Int)) (hd : decode cc pc = .ok (.if_icmp .le off, 3)) (hq : pc + 3 = q) (kt : x ≤ y → RN K G base nL cells slots sh M L tgt pl (st)) (kf : ¬ x ≤ y → RN K G base nL cells slots sh M L q pl (st)) : RN K G base nL cells slots sh M L pc pl (.int y :: .int x :: st) := by
  subst hq
  intro H locs ls hR hS hl
  exact lv_icmp_le X.1 X.2.1 hd ht (fun h => kt h H locs ls hR hS hl) (fun h => kf h H locs ls hR hS hl)
theorem r_goto (X : KX K G base nL own cc d) {off : Int} {tgt : Nat} (ht : (pc : Int) + off = (tgt : Int)) (hd : decode cc pc = .ok (.goto off, 3)) (k : RN K G base nL cells slots sh M L tgt pl (st)) : RN K G base nL cells slots sh M L pc pl (st) := by
  intro H locs ls hR hS hl
  exact lv_goto X.1 X.2.1 hd ht (k H locs ls hR hS hl)
theorem r_tableOut (X : KX K G base nL own cc d) {dflt lo hi : Int} {offs : Array Int} {len : Nat} {x : Int32} {tgt : Nat} (h : x.toInt < lo ∨ hi < x.toInt) (ht : (pc : Int) + dflt = (tgt : Int)) (hd : decode cc pc = .ok (.tableswitch dflt lo hi offs, len)) (k : RN K G base nL cells slots sh M L tgt pl (st)) : RN K G base nL cells slots sh M L pc pl (.int x :: st) := by
  intro H locs ls hR hS hl
  exact lv_tableOut X.1 X.2.1 hd h ht (k H locs ls hR hS hl)
theorem r_tableIn (X : KX K G base nL own cc d) {dflt lo hi : Int} {offs : Array Int} {len : Nat} {x : Int32} {off : Int} {tgt : Nat} (h1 : ¬ x.toInt < lo) (h2 : ¬ hi < x.toInt) (ho : offs[(x.toInt - lo).toNat]? = some off) (ht : (pc : Int) + off = (tgt : Int)) (hd : decode cc pc = .ok (.tableswitch dflt lo hi offs, len)) (k : RN K G base nL cells slots sh M L tgt pl (st)) : RN K G base nL cells slots sh M L pc pl (.int x :: st) := by
  intro H locs ls hR hS hl
  exact lv_tableIn X.1 X.2.1 hd h1 h2 ho ht (k H locs ls hR hS hl)
theorem r_getf (X : KX K G base nL own cc d) {idx ci N f i : Nat} {C : String} {T : u_T} {ds : List (Nat × Nat)} {t : Nat × Nat} {v : Value} (hk : ks_lk own idx ci C T N f) (hs : sh[i]? = some (0, ci, ds)) (ht : ds[f]? = some t) (hv : ks_v base (M i) (L i) f t = v) (hd : decode cc pc = .ok (.getfield idx, 3)) (hq : pc + 3 = q) (k : RN K G base nL cells slots sh M L q pl (v :: st)) : RN K G base nL cells slots sh M L pc pl (.ref (base + i) :: st) := by
  subst hq
  intro H locs ls hR hS hl
  obtain ⟨⟨h1, h2, -, -⟩, h5, h6⟩ := hk
  have he : (ks_w G base sh M L)[i]? = some (base + i, .inr (ci, ds.mapIdx (ks_v base (M i) (L i)))) := ks_w_get hs
  exact va_get (D := G.1) (ci := ci) (v := v) X.1 X.2.1 X.2.2.2.2.1 h2 X.2.2.2.1 X.2.2.2.2.2.1.1 hR.1 i he h1 f h5 (X.2.2.2.2.1 _ h6) (fun _ h => h) (by rw [List.getElem?_mapIdx, ht, Option.map_some, hv]) hd (k H locs ls hR hS hl)
end ROWS
