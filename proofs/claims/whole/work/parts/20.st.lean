/-! a judgement of symbolic states: every heap and every array of locals that look so -/
abbrev EnvT : Type := Program × Launch × Env × Room × State × MethodId × Array Value × List Frame × Method × Code
def WE (E : EnvT) (H : Heap) (locs : List Loc) (cells slots : Nat) (Q : State → Prop) (pc : Nat) (ls : Array Slot) (st : List Value) : Prop :=
  W E.1 E.2.1 E.2.2.1 E.2.2.2.1 E.2.2.2.2.1 E.2.2.2.2.2.1 E.2.2.2.2.2.2.1 E.2.2.2.2.2.2.2.1 E.2.2.2.2.2.2.2.2.1 E.2.2.2.2.2.2.2.2.2 H locs cells slots Q (F0 E.2.2.2.2.2.1 pc ls st)
abbrev hpE (E : EnvT) : Heap := E.2.2.2.2.1.heap
def ST (E : EnvT) (nL : Nat) (Q : State → Prop) (cells slots : Nat) (Φ : Heap → List Loc → Prop) (lv : List (Nat × Value)) (st : List Value) (pc : Nat) : Prop :=
  ∀ (H : Heap) (locs : List Loc) (ls : Array Slot), Φ H locs → lv_has ls nL lv → WE E H locs cells slots Q pc ls st
def Cx (E : EnvT) (cc : ByteArray) (own : String) (nL : Nat) (D : va_G) (cA : ClassId) (d mR sR : Nat) : Prop :=
  E.1.tables.exec = Jvm.exec ∧ E.2.2.2.2.2.2.2.2.2.code = cc ∧ (∀ w ∈ bigW, w.before E.2.2.2.2.2.2.1 E.2.2.2.2.1 = true) ∧ E.2.2.2.2.1.vm.findClass own = some E.2.2.2.2.2.1.cls ∧ va_K D cls [(cA, .int)] E.2.2.2.2.1 ∧ E.2.2.2.2.2.2.2.2.2.maxLocals = nL ∧
  d ≤ E.2.2.2.1.frames ∧ 40 * d ≤ E.2.2.2.1.locals ∧ mR ≤ E.2.2.2.1.cells ∧ sR ≤ E.2.2.2.1.slots
def wf (E : EnvT) (A : Nat → Prop) (D : va_G) (ws : va_W) : Heap → List Loc → Prop := fun H locs => va_P D cls ws H ∧ va_D A ws ∧ va_S A (hpE E) H locs
def pf (E : EnvT) (D : va_G) (ws : va_W) : Heap → List Loc → Prop := fun H locs => H = hpE E ∧ locs = [] ∧ va_P D cls ws H
theorem wfP {E : EnvT} {A : Nat → Prop} {D : va_G} {ws : va_W} : ∀ H locs, wf E A D ws H locs → va_P D cls ws H := fun _ _ h => h.1
theorem pfP {E : EnvT} {D : va_G} {ws : va_W} : ∀ H locs, pf E D ws H locs → va_P D cls ws H := fun _ _ h => h.2.2
theorem fm_of {ws : va_W} : ∀ {is : List Nat} {ws' : va_W}, is.map (fun i => ws[i]?) = ws'.map some → is.filterMap (fun i => ws[i]?) = ws'
  | [], [], _ => rfl
  | [], _ :: _, h => by simp at h
  | _ :: _, [], h => by simp at h
  | i :: is, w :: ws', h => by
    simp only [List.map_cons, List.cons.injEq] at h
    rw [List.filterMap_cons_some h.1, fm_of h.2]
def rmL (d mc ms : Nat) : Room := { frames := d, cells := mc, slots := ms, locals := 40 * d }
section S20
variable {E : EnvT} {nL : Nat} {Q : State → Prop} {cells slots : Nat} {Φ : Heap → List Loc → Prop} {lv lv' : List (Nat × Value)} {st rest : List Value} {pc : Nat} {cc : ByteArray} {own : String} {D : va_G} {cA : ClassId} {d mR sR : Nat}
theorem s_lv (ks : List Nat) (h : lv_pick lv ks = lv') (k : ST E nL Q cells slots Φ lv' st pc) : ST E nL Q cells slots Φ lv st pc :=
  fun H locs ls hΦ hl => k H locs ls hΦ (lv_sub hl ks h)
theorem s_st {st' : List Value} (h : st = st') (k : ST E nL Q cells slots Φ lv st' pc) : ST E nL Q cells slots Φ lv st pc := h ▸ k
theorem s_top {x y : Int32} (h : x = y) (k : ST E nL Q cells slots Φ lv (.int y :: st) pc) : ST E nL Q cells slots Φ lv (.int x :: st) pc := h ▸ k
theorem s_widen {k n : Nat} (h1 : cells ≤ k) (h2 : slots ≤ n) (kk : ST E nL Q k n Φ lv st pc) : ST E nL Q cells slots Φ lv st pc :=
  fun H locs ls hΦ hl => W.widen h1 h2 (kk H locs ls hΦ hl)
theorem s_sub {A : Nat → Prop} {ws ws' : va_W} (is : List Nat) (h : is.map (fun i => ws[i]?) = ws'.map some) (hn : va_nd is = true) (k : ST E nL Q cells slots (wf E A D ws') lv st pc) : ST E nL Q cells slots (wf E A D ws) lv st pc :=
  fun H locs ls hΦ hl => k H locs ls ⟨hΦ.1.sub is (fm_of h), hΦ.2.1.sub is hn h, hΦ.2.2⟩ hl
theorem s_eqw {A : Nat → Prop} {ws ws' : va_W} (h : ws = ws') (k : ST E nL Q cells slots (wf E A D ws') lv st pc) : ST E nL Q cells slots (wf E A D ws) lv st pc := h ▸ k
theorem s_iconst {n : Int} (v : Int32) (C : Cx E cc own nL D cA d mR sR) (dg : decode cc pc = .ok (.iconst n, 1)) (hv : Int32.ofInt n = v) (k : ST E nL Q cells slots Φ lv (.int v :: st) (pc + 1)) : ST E nL Q cells slots Φ lv (st) pc :=
  fun H locs ls hΦ hl => lv_iconst C.1 C.2.1 dg hv (k H locs ls hΦ hl)
theorem s_bipush {n : Int} (v : Int32) (C : Cx E cc own nL D cA d mR sR) (dg : decode cc pc = .ok (.bipush n, 2)) (hv : (Int8.ofInt n).toInt32 = v) (k : ST E nL Q cells slots Φ lv (.int v :: st) (pc + 2)) : ST E nL Q cells slots Φ lv (st) pc :=
  fun H locs ls hΦ hl => lv_bipush C.1 C.2.1 dg hv (k H locs ls hΦ hl)
theorem s_sipush {n : Int} (v : Int32) (C : Cx E cc own nL D cA d mR sR) (dg : decode cc pc = .ok (.sipush n, 3)) (hv : (Int16.ofInt n).toInt32 = v) (k : ST E nL Q cells slots Φ lv (.int v :: st) (pc + 3)) : ST E nL Q cells slots Φ lv (st) pc :=
  fun H locs ls hΦ hl => lv_sipush C.1 C.2.1 dg hv (k H locs ls hΦ hl)
theorem s_iload_n {n : Fin 4} {x : Int32} (j : Nat) (C : Cx E cc own nL D cA d mR sR) (dg : decode cc pc = .ok (.iload_n n, 1)) (h : lv[j]? = some (n.val, .int x)) (k : ST E nL Q cells slots Φ lv (.int x :: st) (pc + 1)) : ST E nL Q cells slots Φ lv (st) pc :=
  fun H locs ls hΦ hl => lv_iload_n C.1 C.2.1 dg rfl (lv_at hl j h) (k H locs ls hΦ hl)
theorem s_iload {n : Nat} {x : Int32} (j : Nat) (C : Cx E cc own nL D cA d mR sR) (dg : decode cc pc = .ok (.iload n, 2)) (h : lv[j]? = some (n, .int x)) (k : ST E nL Q cells slots Φ lv (.int x :: st) (pc + 2)) : ST E nL Q cells slots Φ lv (st) pc :=
  fun H locs ls hΦ hl => lv_iload C.1 C.2.1 dg (lv_at hl j h) (k H locs ls hΦ hl)
theorem s_aload_n {n : Fin 4} {x : Nat} (j : Nat) (C : Cx E cc own nL D cA d mR sR) (dg : decode cc pc = .ok (.aload_n n, 1)) (h : lv[j]? = some (n.val, .ref x)) (k : ST E nL Q cells slots Φ lv (.ref x :: st) (pc + 1)) : ST E nL Q cells slots Φ lv (st) pc :=
  fun H locs ls hΦ hl => lv_aload_n C.1 C.2.1 dg rfl (lv_at hl j h) (k H locs ls hΦ hl)
theorem s_istore_n {n : Fin 4} {x : Int32} (lv' : List (Nat × Value)) (ks : List Nat) (C : Cx E cc own nL D cA d mR sR) (dg : decode cc pc = .ok (.istore_n n, 1)) (hn : n.val < nL) (h : lv_pick ((n.val, Value.int x) :: lv.filter (fun q => !(q.1 == n.val) && !(q.1 + 1 == n.val && q.2.category == 2))) ks = lv') (k : ST E nL Q cells slots Φ lv' st (pc + 1)) : ST E nL Q cells slots Φ lv (.int x :: st) pc :=
  fun H locs ls hΦ hl => lv_istore_n C.1 C.2.1 dg rfl hl hn rfl (fun ls' hl' => k H locs ls' hΦ (lv_sub hl' ks h))
theorem s_istore {n : Nat} {x : Int32} (lv' : List (Nat × Value)) (ks : List Nat) (C : Cx E cc own nL D cA d mR sR) (dg : decode cc pc = .ok (.istore n, 2)) (hn : n < nL) (h : lv_pick ((n, Value.int x) :: lv.filter (fun q => !(q.1 == n) && !(q.1 + 1 == n && q.2.category == 2))) ks = lv') (k : ST E nL Q cells slots Φ lv' st (pc + 2)) : ST E nL Q cells slots Φ lv (.int x :: st) pc :=
  fun H locs ls hΦ hl => lv_istore C.1 C.2.1 dg hl hn rfl (fun ls' hl' => k H locs ls' hΦ (lv_sub hl' ks h))
theorem s_astore_n {n : Fin 4} {x : Nat} (lv' : List (Nat × Value)) (ks : List Nat) (C : Cx E cc own nL D cA d mR sR) (dg : decode cc pc = .ok (.astore_n n, 1)) (hn : n.val < nL) (h : lv_pick ((n.val, Value.ref x) :: lv.filter (fun q => !(q.1 == n.val) && !(q.1 + 1 == n.val && q.2.category == 2))) ks = lv') (k : ST E nL Q cells slots Φ lv' st (pc + 1)) : ST E nL Q cells slots Φ lv (.ref x :: st) pc :=
  fun H locs ls hΦ hl => lv_astore_n C.1 C.2.1 dg rfl hl hn rfl (fun ls' hl' => k H locs ls' hΦ (lv_sub hl' ks h))
theorem s_iinc {i j : Nat} {n : Int} {x : Int32} (v : Int32) (lv' : List (Nat × Value)) (ks : List Nat) (C : Cx E cc own nL D cA d mR sR) (dg : decode cc pc = .ok (.iinc i n, 3)) (hj : lv[j]? = some (i, .int x)) (hv : x + Int32.ofInt n = v) (hn : i < nL) (h : lv_pick ((i, Value.int v) :: lv.filter (fun q => !(q.1 == i) && !(q.1 + 1 == i && q.2.category == 2))) ks = lv') (k : ST E nL Q cells slots Φ lv' st (pc + 3)) : ST E nL Q cells slots Φ lv st pc :=
  fun H locs ls hΦ hl => lv_iinc C.1 C.2.1 dg hl hj hv hn rfl (fun ls' hl' => k H locs ls' hΦ (lv_sub hl' ks h))
theorem s_iadd {x y : Int32} (C : Cx E cc own nL D cA d mR sR) (dg : decode cc pc = .ok (.iadd, 1)) (k : ST E nL Q cells slots Φ lv (.int (x + y) :: st) (pc + 1)) : ST E nL Q cells slots Φ lv (.int y :: .int x :: st) pc :=
  fun H locs ls hΦ hl => lv_iadd C.1 C.2.1 dg (k H locs ls hΦ hl)
theorem s_isub {x y : Int32} (C : Cx E cc own nL D cA d mR sR) (dg : decode cc pc = .ok (.isub, 1)) (k : ST E nL Q cells slots Φ lv (.int (x - y) :: st) (pc + 1)) : ST E nL Q cells slots Φ lv (.int y :: .int x :: st) pc :=
  fun H locs ls hΦ hl => lv_isub C.1 C.2.1 dg (k H locs ls hΦ hl)
theorem s_imul {x y : Int32} (C : Cx E cc own nL D cA d mR sR) (dg : decode cc pc = .ok (.imul, 1)) (k : ST E nL Q cells slots Φ lv (.int (x * y) :: st) (pc + 1)) : ST E nL Q cells slots Φ lv (.int y :: .int x :: st) pc :=
  fun H locs ls hΦ hl => lv_imul C.1 C.2.1 dg (k H locs ls hΦ hl)
theorem s_iand {x y : Int32} (C : Cx E cc own nL D cA d mR sR) (dg : decode cc pc = .ok (.iand, 1)) (k : ST E nL Q cells slots Φ lv (.int (x &&& y) :: st) (pc + 1)) : ST E nL Q cells slots Φ lv (.int y :: .int x :: st) pc :=
  fun H locs ls hΦ hl => lv_iand C.1 C.2.1 dg (k H locs ls hΦ hl)
theorem s_ior {x y : Int32} (C : Cx E cc own nL D cA d mR sR) (dg : decode cc pc = .ok (.ior, 1)) (k : ST E nL Q cells slots Φ lv (.int (x ||| y) :: st) (pc + 1)) : ST E nL Q cells slots Φ lv (.int y :: .int x :: st) pc :=
  fun H locs ls hΦ hl => lv_ior C.1 C.2.1 dg (k H locs ls hΦ hl)
theorem s_ixor {x y : Int32} (C : Cx E cc own nL D cA d mR sR) (dg : decode cc pc = .ok (.ixor, 1)) (k : ST E nL Q cells slots Φ lv (.int (x ^^^ y) :: st) (pc + 1)) : ST E nL Q cells slots Φ lv (.int y :: .int x :: st) pc :=
  fun H locs ls hΦ hl => lv_ixor C.1 C.2.1 dg (k H locs ls hΦ hl)
theorem s_ishl {x y : Int32} (C : Cx E cc own nL D cA d mR sR) (dg : decode cc pc = .ok (.ishl, 1)) (k : ST E nL Q cells slots Φ lv (.int (x <<< (y &&& 31)) :: st) (pc + 1)) : ST E nL Q cells slots Φ lv (.int y :: .int x :: st) pc :=
  fun H locs ls hΦ hl => lv_ishl C.1 C.2.1 dg (k H locs ls hΦ hl)
theorem s_ishr {x y : Int32} (C : Cx E cc own nL D cA d mR sR) (dg : decode cc pc = .ok (.ishr, 1)) (k : ST E nL Q cells slots Φ lv (.int (x >>> (y &&& 31)) :: st) (pc + 1)) : ST E nL Q cells slots Φ lv (.int y :: .int x :: st) pc :=
  fun H locs ls hΦ hl => lv_ishr C.1 C.2.1 dg (k H locs ls hΦ hl)
theorem s_idiv {x y : Int32} (C : Cx E cc own nL D cA d mR sR) (dg : decode cc pc = .ok (.idiv, 1)) (hne : ¬ y = 0) (k : ST E nL Q cells slots Φ lv (.int (x / y) :: st) (pc + 1)) : ST E nL Q cells slots Φ lv (.int y :: .int x :: st) pc :=
  fun H locs ls hΦ hl => lv_idiv C.1 C.2.1 dg hne (k H locs ls hΦ hl)
theorem s_dup {v : Value} (C : Cx E cc own nL D cA d mR sR) (dg : decode cc pc = .ok (.dup, 1)) (hc : v.category = 1) (k : ST E nL Q cells slots Φ lv (v :: v :: st) (pc + 1)) : ST E nL Q cells slots Φ lv (v :: st) pc :=
  fun H locs ls hΦ hl => lv_dup C.1 C.2.1 dg hc (k H locs ls hΦ hl)
theorem s_dup2 {v w : Value} (C : Cx E cc own nL D cA d mR sR) (dg : decode cc pc = .ok (.dup2, 1)) (hc : v.category = 1) (hd : w.category = 1) (k : ST E nL Q cells slots Φ lv (v :: w :: v :: w :: st) (pc + 1)) : ST E nL Q cells slots Φ lv (v :: w :: st) pc :=
  fun H locs ls hΦ hl => lv_dup2_11 C.1 C.2.1 dg hc hd (k H locs ls hΦ hl)
theorem s_goto {off : Int} {tgt : Nat} (C : Cx E cc own nL D cA d mR sR) (dg : decode cc pc = .ok (.goto off, 3)) (ht : (pc : Int) + off = (tgt : Int)) (k : ST E nL Q cells slots Φ lv st tgt) : ST E nL Q cells slots Φ lv st pc :=
  fun H locs ls hΦ hl => lv_goto C.1 C.2.1 dg ht (k H locs ls hΦ hl)
theorem s_icmp_eq {x y : Int32} {off : Int} (tgt : Nat) (C : Cx E cc own nL D cA d mR sR) (dg : decode cc pc = .ok (.if_icmp .eq off, 3)) (ht : (pc : Int) + off = (tgt : Int)) (kt : x = y → ST E nL Q cells slots Φ lv st tgt) (kf : ¬ x = y → ST E nL Q cells slots Φ lv st (pc + 3)) : ST E nL Q cells slots Φ lv (.int y :: .int x :: st) pc :=
  fun H locs ls hΦ hl => lv_icmp_eq C.1 C.2.1 dg ht (fun q => kt q H locs ls hΦ hl) (fun q => kf q H locs ls hΦ hl)
theorem s_if_eq {x : Int32} {off : Int} (tgt : Nat) (C : Cx E cc own nL D cA d mR sR) (dg : decode cc pc = .ok (.ifCond .eq off, 3)) (ht : (pc : Int) + off = (tgt : Int)) (kt : x = 0 → ST E nL Q cells slots Φ lv st tgt) (kf : ¬ x = 0 → ST E nL Q cells slots Φ lv st (pc + 3)) : ST E nL Q cells slots Φ lv (.int x :: st) pc :=
  fun H locs ls hΦ hl => lv_if_eq C.1 C.2.1 dg ht (fun q => kt q H locs ls hΦ hl) (fun q => kf q H locs ls hΦ hl)
theorem s_icmp_eqN {a b : Nat} {off : Int} (tgt : Nat) (C : Cx E cc own nL D cA d mR sR) (dg : decode cc pc = .ok (.if_icmp .eq off, 3)) (ht : (pc : Int) + off = (tgt : Int)) (ha : a < 2 ^ 31) (hb : b < 2 ^ 31) (kt : a = b → ST E nL Q cells slots Φ lv st tgt) (kf : a ≠ b → ST E nL Q cells slots Φ lv st (pc + 3)) : ST E nL Q cells slots Φ lv (.int (nI b) :: .int (nI a) :: st) pc :=
  s_icmp_eq tgt C dg ht (fun q => kt ((nI_eq ha hb).mp q)) (fun q => kf (fun z => q ((nI_eq ha hb).mpr z)))
theorem s_icmp_ne {x y : Int32} {off : Int} (tgt : Nat) (C : Cx E cc own nL D cA d mR sR) (dg : decode cc pc = .ok (.if_icmp .ne off, 3)) (ht : (pc : Int) + off = (tgt : Int)) (kt : ¬ x = y → ST E nL Q cells slots Φ lv st tgt) (kf : x = y → ST E nL Q cells slots Φ lv st (pc + 3)) : ST E nL Q cells slots Φ lv (.int y :: .int x :: st) pc :=
  fun H locs ls hΦ hl => lv_icmp_ne C.1 C.2.1 dg ht (fun q => kt q H locs ls hΦ hl) (fun q => kf q H locs ls hΦ hl)
theorem s_if_ne {x : Int32} {off : Int} (tgt : Nat) (C : Cx E cc own nL D cA d mR sR) (dg : decode cc pc = .ok (.ifCond .ne off, 3)) (ht : (pc : Int) + off = (tgt : Int)) (kt : ¬ x = 0 → ST E nL Q cells slots Φ lv st tgt) (kf : x = 0 → ST E nL Q cells slots Φ lv st (pc + 3)) : ST E nL Q cells slots Φ lv (.int x :: st) pc :=
  fun H locs ls hΦ hl => lv_if_ne C.1 C.2.1 dg ht (fun q => kt q H locs ls hΦ hl) (fun q => kf q H locs ls hΦ hl)
theorem s_icmp_neN {a b : Nat} {off : Int} (tgt : Nat) (C : Cx E cc own nL D cA d mR sR) (dg : decode cc pc = .ok (.if_icmp .ne off, 3)) (ht : (pc : Int) + off = (tgt : Int)) (ha : a < 2 ^ 31) (hb : b < 2 ^ 31) (kt : a ≠ b → ST E nL Q cells slots Φ lv st tgt) (kf : a = b → ST E nL Q cells slots Φ lv st (pc + 3)) : ST E nL Q cells slots Φ lv (.int (nI b) :: .int (nI a) :: st) pc :=
  s_icmp_ne tgt C dg ht (fun q => kt (fun z => q ((nI_eq ha hb).mpr z))) (fun q => kf ((nI_eq ha hb).mp q))
theorem s_icmp_lt {x y : Int32} {off : Int} (tgt : Nat) (C : Cx E cc own nL D cA d mR sR) (dg : decode cc pc = .ok (.if_icmp .lt off, 3)) (ht : (pc : Int) + off = (tgt : Int)) (kt : x < y → ST E nL Q cells slots Φ lv st tgt) (kf : ¬ x < y → ST E nL Q cells slots Φ lv st (pc + 3)) : ST E nL Q cells slots Φ lv (.int y :: .int x :: st) pc :=
  fun H locs ls hΦ hl => lv_icmp_lt C.1 C.2.1 dg ht (fun q => kt q H locs ls hΦ hl) (fun q => kf q H locs ls hΦ hl)
theorem s_if_lt {x : Int32} {off : Int} (tgt : Nat) (C : Cx E cc own nL D cA d mR sR) (dg : decode cc pc = .ok (.ifCond .lt off, 3)) (ht : (pc : Int) + off = (tgt : Int)) (kt : x < 0 → ST E nL Q cells slots Φ lv st tgt) (kf : ¬ x < 0 → ST E nL Q cells slots Φ lv st (pc + 3)) : ST E nL Q cells slots Φ lv (.int x :: st) pc :=
  fun H locs ls hΦ hl => lv_if_lt C.1 C.2.1 dg ht (fun q => kt q H locs ls hΦ hl) (fun q => kf q H locs ls hΦ hl)
theorem s_icmp_ltN {a b : Nat} {off : Int} (tgt : Nat) (C : Cx E cc own nL D cA d mR sR) (dg : decode cc pc = .ok (.if_icmp .lt off, 3)) (ht : (pc : Int) + off = (tgt : Int)) (ha : a < 2 ^ 31) (hb : b < 2 ^ 31) (kt : a < b → ST E nL Q cells slots Φ lv st tgt) (kf : b ≤ a → ST E nL Q cells slots Φ lv st (pc + 3)) : ST E nL Q cells slots Φ lv (.int (nI b) :: .int (nI a) :: st) pc :=
  s_icmp_lt tgt C dg ht (fun q => kt ((nI_ltI ha hb).mp q)) (fun q => kf (Nat.le_of_not_lt fun z => q ((nI_ltI ha hb).mpr z)))
theorem s_icmp_ge {x y : Int32} {off : Int} (tgt : Nat) (C : Cx E cc own nL D cA d mR sR) (dg : decode cc pc = .ok (.if_icmp .ge off, 3)) (ht : (pc : Int) + off = (tgt : Int)) (kt : y ≤ x → ST E nL Q cells slots Φ lv st tgt) (kf : ¬ y ≤ x → ST E nL Q cells slots Φ lv st (pc + 3)) : ST E nL Q cells slots Φ lv (.int y :: .int x :: st) pc :=
  fun H locs ls hΦ hl => lv_icmp_ge C.1 C.2.1 dg ht (fun q => kt q H locs ls hΦ hl) (fun q => kf q H locs ls hΦ hl)
theorem s_if_ge {x : Int32} {off : Int} (tgt : Nat) (C : Cx E cc own nL D cA d mR sR) (dg : decode cc pc = .ok (.ifCond .ge off, 3)) (ht : (pc : Int) + off = (tgt : Int)) (kt : 0 ≤ x → ST E nL Q cells slots Φ lv st tgt) (kf : ¬ 0 ≤ x → ST E nL Q cells slots Φ lv st (pc + 3)) : ST E nL Q cells slots Φ lv (.int x :: st) pc :=
  fun H locs ls hΦ hl => lv_if_ge C.1 C.2.1 dg ht (fun q => kt q H locs ls hΦ hl) (fun q => kf q H locs ls hΦ hl)
theorem s_icmp_geN {a b : Nat} {off : Int} (tgt : Nat) (C : Cx E cc own nL D cA d mR sR) (dg : decode cc pc = .ok (.if_icmp .ge off, 3)) (ht : (pc : Int) + off = (tgt : Int)) (ha : a < 2 ^ 31) (hb : b < 2 ^ 31) (kt : b ≤ a → ST E nL Q cells slots Φ lv st tgt) (kf : a < b → ST E nL Q cells slots Φ lv st (pc + 3)) : ST E nL Q cells slots Φ lv (.int (nI b) :: .int (nI a) :: st) pc :=
  s_icmp_ge tgt C dg ht (fun q => kt ((nI_leI hb ha).mp q)) (fun q => kf (Nat.lt_of_not_le fun z => q ((nI_leI hb ha).mpr z)))
theorem s_icmp_gt {x y : Int32} {off : Int} (tgt : Nat) (C : Cx E cc own nL D cA d mR sR) (dg : decode cc pc = .ok (.if_icmp .gt off, 3)) (ht : (pc : Int) + off = (tgt : Int)) (kt : y < x → ST E nL Q cells slots Φ lv st tgt) (kf : ¬ y < x → ST E nL Q cells slots Φ lv st (pc + 3)) : ST E nL Q cells slots Φ lv (.int y :: .int x :: st) pc :=
  fun H locs ls hΦ hl => lv_icmp_gt C.1 C.2.1 dg ht (fun q => kt q H locs ls hΦ hl) (fun q => kf q H locs ls hΦ hl)
theorem s_if_gt {x : Int32} {off : Int} (tgt : Nat) (C : Cx E cc own nL D cA d mR sR) (dg : decode cc pc = .ok (.ifCond .gt off, 3)) (ht : (pc : Int) + off = (tgt : Int)) (kt : 0 < x → ST E nL Q cells slots Φ lv st tgt) (kf : ¬ 0 < x → ST E nL Q cells slots Φ lv st (pc + 3)) : ST E nL Q cells slots Φ lv (.int x :: st) pc :=
  fun H locs ls hΦ hl => lv_if_gt C.1 C.2.1 dg ht (fun q => kt q H locs ls hΦ hl) (fun q => kf q H locs ls hΦ hl)
theorem s_icmp_gtN {a b : Nat} {off : Int} (tgt : Nat) (C : Cx E cc own nL D cA d mR sR) (dg : decode cc pc = .ok (.if_icmp .gt off, 3)) (ht : (pc : Int) + off = (tgt : Int)) (ha : a < 2 ^ 31) (hb : b < 2 ^ 31) (kt : b < a → ST E nL Q cells slots Φ lv st tgt) (kf : a ≤ b → ST E nL Q cells slots Φ lv st (pc + 3)) : ST E nL Q cells slots Φ lv (.int (nI b) :: .int (nI a) :: st) pc :=
  s_icmp_gt tgt C dg ht (fun q => kt ((nI_ltI hb ha).mp q)) (fun q => kf (Nat.le_of_not_lt fun z => q ((nI_ltI hb ha).mpr z)))
theorem s_icmp_le {x y : Int32} {off : Int} (tgt : Nat) (C : Cx E cc own nL D cA d mR sR) (dg : decode cc pc = .ok (.if_icmp .le off, 3)) (ht : (pc : Int) + off = (tgt : Int)) (kt : x ≤ y → ST E nL Q cells slots Φ lv st tgt) (kf : ¬ x ≤ y → ST E nL Q cells slots Φ lv st (pc + 3)) : ST E nL Q cells slots Φ lv (.int y :: .int x :: st) pc :=
  fun H locs ls hΦ hl => lv_icmp_le C.1 C.2.1 dg ht (fun q => kt q H locs ls hΦ hl) (fun q => kf q H locs ls hΦ hl)
theorem s_if_le {x : Int32} {off : Int} (tgt : Nat) (C : Cx E cc own nL D cA d mR sR) (dg : decode cc pc = .ok (.ifCond .le off, 3)) (ht : (pc : Int) + off = (tgt : Int)) (kt : x ≤ 0 → ST E nL Q cells slots Φ lv st tgt) (kf : ¬ x ≤ 0 → ST E nL Q cells slots Φ lv st (pc + 3)) : ST E nL Q cells slots Φ lv (.int x :: st) pc :=
  fun H locs ls hΦ hl => lv_if_le C.1 C.2.1 dg ht (fun q => kt q H locs ls hΦ hl) (fun q => kf q H locs ls hΦ hl)
theorem s_icmp_leN {a b : Nat} {off : Int} (tgt : Nat) (C : Cx E cc own nL D cA d mR sR) (dg : decode cc pc = .ok (.if_icmp .le off, 3)) (ht : (pc : Int) + off = (tgt : Int)) (ha : a < 2 ^ 31) (hb : b < 2 ^ 31) (kt : a ≤ b → ST E nL Q cells slots Φ lv st tgt) (kf : b < a → ST E nL Q cells slots Φ lv st (pc + 3)) : ST E nL Q cells slots Φ lv (.int (nI b) :: .int (nI a) :: st) pc :=
  s_icmp_le tgt C dg ht (fun q => kt ((nI_leI ha hb).mp q)) (fun q => kf (Nat.lt_of_not_le fun z => q ((nI_leI ha hb).mpr z)))
theorem s_if_eqN {a : Nat} {off : Int} (tgt : Nat) (C : Cx E cc own nL D cA d mR sR) (dg : decode cc pc = .ok (.ifCond .eq off, 3)) (ht : (pc : Int) + off = (tgt : Int)) (ha : a < 2 ^ 31) (kt : a = 0 → ST E nL Q cells slots Φ lv st tgt) (kf : a ≠ 0 → ST E nL Q cells slots Φ lv st (pc + 3)) : ST E nL Q cells slots Φ lv (.int (nI a) :: st) pc :=
  s_if_eq tgt C dg ht (fun q => kt ((nI_eq ha (by decide)).mp (q.trans nI_0.symm))) (fun q => kf (fun z => q (by rw [z]; exact nI_0)))
theorem s_if_neN {a : Nat} {off : Int} (tgt : Nat) (C : Cx E cc own nL D cA d mR sR) (dg : decode cc pc = .ok (.ifCond .ne off, 3)) (ht : (pc : Int) + off = (tgt : Int)) (ha : a < 2 ^ 31) (kt : a ≠ 0 → ST E nL Q cells slots Φ lv st tgt) (kf : a = 0 → ST E nL Q cells slots Φ lv st (pc + 3)) : ST E nL Q cells slots Φ lv (.int (nI a) :: st) pc :=
  s_if_ne tgt C dg ht (fun q => kt (fun z => q (by rw [z]; exact nI_0))) (fun q => kf ((nI_eq ha (by decide)).mp (q.trans nI_0.symm)))
theorem s_if_ltN {a : Nat} {off : Int} (tgt : Nat) (C : Cx E cc own nL D cA d mR sR) (dg : decode cc pc = .ok (.ifCond .lt off, 3)) (ht : (pc : Int) + off = (tgt : Int)) (ha : a < 2 ^ 31) (kf : ST E nL Q cells slots Φ lv st (pc + 3)) : ST E nL Q cells slots Φ lv (.int (nI a) :: st) pc :=
  s_if_lt tgt C dg ht (fun q => absurd q (nI_pos ha)) (fun _ => kf)
theorem s_if_leN {a : Nat} {off : Int} (tgt : Nat) (C : Cx E cc own nL D cA d mR sR) (dg : decode cc pc = .ok (.ifCond .le off, 3)) (ht : (pc : Int) + off = (tgt : Int)) (ha : a < 2 ^ 31) (kt : a = 0 → ST E nL Q cells slots Φ lv st tgt) (kf : 0 < a → ST E nL Q cells slots Φ lv st (pc + 3)) : ST E nL Q cells slots Φ lv (.int (nI a) :: st) pc :=
  s_if_le tgt C dg ht (fun q => kt ((by rcases Nat.eq_zero_or_pos a with z | z; exact z; exact absurd q (nI_nle z ha)))) (fun q => kf (Nat.pos_of_ne_zero (fun z => q (by rw [z, nI_0]; decide))))
theorem s_if_gtN {a : Nat} {off : Int} (tgt : Nat) (C : Cx E cc own nL D cA d mR sR) (dg : decode cc pc = .ok (.ifCond .gt off, 3)) (ht : (pc : Int) + off = (tgt : Int)) (ha : a < 2 ^ 31) (kt : 0 < a → ST E nL Q cells slots Φ lv st tgt) (kf : a = 0 → ST E nL Q cells slots Φ lv st (pc + 3)) : ST E nL Q cells slots Φ lv (.int (nI a) :: st) pc :=
  s_if_gt tgt C dg ht (fun q => kt (Nat.pos_of_ne_zero (fun z => by rw [z, nI_0] at q; exact absurd q (by decide)))) (fun q => kf (by rcases Nat.eq_zero_or_pos a with z | z; exact z; exact absurd ((nI_ltI (by decide) ha).mpr z) (by rw [nI_0]; exact q)))
theorem s_get {ws : va_W} {Cn : String} {T : u_T} {N ci index a : Nat} {fs : List Value} (v : Value) (q0 k : Nat) (C : Cx E cc own nL D cA d mR sR) (hΦ : ∀ H locs, Φ H locs → va_P D cls ws H) (hin : ∀ w ∈ u_ws Cn T N, w ∈ bigW) (hlink : Cond.fieldLink own index (T k).1 (T k).2.1 (T k).2.2.1 ∈ bigW) (dg : decode cc pc = .ok (.getfield index, 3)) (he : ws[q0]? = some (a, .inr (ci, fs))) (hc : cls[ci]? = some (Cn, T, N)) (hk : k < N) (hv : fs[k]? = some v)
    (kk : ST E nL Q cells slots Φ lv (v :: st) (pc + 3)) : ST E nL Q cells slots Φ lv (.ref a :: st) pc :=
  fun H locs ls hq hl => va_get (D := D) C.1 C.2.1 C.2.2.1 hin C.2.2.2.1 C.2.2.2.2.1 (hΦ H locs hq) q0 he hc k hk (C.2.2.1 _ hlink) (fun _ h => h) hv dg (kk H locs ls hq hl)
theorem s_put {A : Nat → Prop} {ws : va_W} {Cn : String} {T : u_T} {N ci index a : Nat} {fs : List Value} {v : Value} (q0 k : Nat) (ws' : va_W) (C : Cx E cc own nL D cA d mR sR) (hin : ∀ w ∈ u_ws Cn T N, w ∈ bigW) {ty0 : Nat → FieldType} (hty : ∀ k, k < N → parseFieldDescriptor (T k).2.2.1 = some (ty0 k)) (hnm : ∀ a, a < N → ∀ b, b < N → a ≠ b → (T a).2.1 ≠ (T b).2.1) (hlink : Cond.fieldLink own index (T k).1 (T k).2.1 (T k).2.2.1 ∈ bigW) (dg : decode cc pc = .ok (.putfield index, 3)) (he : ws[q0]? = some (a, .inr (ci, fs))) (hc : cls[ci]? = some (Cn, T, N)) (hk : k < N) (hfin : (T k).2.2.2 = false) (hn : narrow (ty0 k) v = v) (hfit : fits (ty0 k) v = true) (hl9 : k < fs.length) (hw : ws.set q0 (a, .inr (ci, fs.set k v)) = ws')
    (kk : ST E nL Q cells slots (wf E A D ws') lv st (pc + 3)) : ST E nL Q cells slots (wf E A D ws) lv (v :: .ref a :: st) pc :=
  fun H locs ls hq hl => va_put (D := D) C.1 C.2.1 C.2.2.1 hin ty0 hty hnm C.2.2.2.1 C.2.2.2.2.1 hq.1 hq.2.1 hq.2.2 q0 he hc k hk (C.2.2.1 _ hlink) (fun _ h => h) hfin (hty k hk) hn hfit hl9 dg (fun H1 locs1 h1 h2 h3 => kk H1 locs1 ls ⟨hw ▸ h1, hw ▸ h2, h3⟩ hl)
theorem s_putF {A : Nat → Prop} {ws : va_W} {T : u_T} {N ci index a : Nat} {fs : List Value} {v : Value} (q0 k : Nat) (ws' : va_W) (C : Cx E cc own nL D cA d mR sR) (hi : E.2.2.2.2.2.2.2.2.1.name = "<init>") (hin : ∀ w ∈ u_ws own T N, w ∈ bigW) {ty0 : Nat → FieldType} (hty : ∀ k, k < N → parseFieldDescriptor (T k).2.2.1 = some (ty0 k)) (hnm : ∀ a, a < N → ∀ b, b < N → a ≠ b → (T a).2.1 ≠ (T b).2.1) (hlink : Cond.fieldLink own index (T k).1 (T k).2.1 (T k).2.2.1 ∈ bigW) (dg : decode cc pc = .ok (.putfield index, 3)) (he : ws[q0]? = some (a, .inr (ci, fs))) (hc : cls[ci]? = some (own, T, N)) (hk : k < N) (hfin : (T k).2.2.2 = true) (hdec : (T k).1 = own) (hn : narrow (ty0 k) v = v) (hfit : fits (ty0 k) v = true) (hl9 : k < fs.length) (hw : ws.set q0 (a, .inr (ci, fs.set k v)) = ws')
    (kk : ST E nL Q cells slots (wf E A D ws') lv st (pc + 3)) : ST E nL Q cells slots (wf E A D ws) lv (v :: .ref a :: st) pc :=
  fun H locs ls hq hl => va_putF (D := D) C.1 C.2.1 C.2.2.1 hin ty0 hty hnm C.2.2.2.1 C.2.2.2.2.1 hq.1 hq.2.1 hq.2.2 q0 he hc k hk (C.2.2.1 _ hlink) (fun _ h => h) hfin hi hdec (hty k hk) hn hfit hl9 dg (fun H1 locs1 h1 h2 h3 => kk H1 locs1 ls ⟨hw ▸ h1, hw ▸ h2, h3⟩ hl)
theorem s_iald {ws : va_W} {a n j : Nat} {f : Nat → Int32} (q0 : Nat) (C : Cx E cc own nL D cA d mR sR) (hΦ : ∀ H locs, Φ H locs → va_P D cls ws H) (dg : decode cc pc = .ok (.iaload, 1)) (ha : ws[q0]? = some (a, .inl (cA, n, .inl f))) (hj : j < n) (hn : n < 2 ^ 31)
    (kk : ST E nL Q cells slots Φ lv (.int (f j) :: st) (pc + 1)) : ST E nL Q cells slots Φ lv (.int (nI j) :: .ref a :: st) pc := by
  intro H locs ls hq hl
  refine va_iald (D := D) C.1 C.2.1 C.2.2.2.2.1 (hΦ H locs hq) q0 0 ha rfl (vp_in_nI hj hn) dg ?_
  rw [nI_clamp (by omega)]
  exact kk H locs ls hq hl
theorem s_iast {A : Nat → Prop} {ws : va_W} {a n j : Nat} {f : Nat → Int32} {x : Int32} (q0 : Nat) (ws' : va_W) (C : Cx E cc own nL D cA d mR sR) (dg : decode cc pc = .ok (.iastore, 1)) (ha : ws[q0]? = some (a, .inl (cA, n, .inl f))) (hj : j < n) (hn : n < 2 ^ 31) (hw : ws.set q0 (a, .inl (cA, n, .inl (upd f j x))) = ws')
    (kk : ST E nL Q cells slots (wf E A D ws') lv st (pc + 1)) : ST E nL Q cells slots (wf E A D ws) lv (.int x :: .int (nI j) :: .ref a :: st) pc := by
  intro H locs ls hq hl
  refine va_iast (D := D) C.1 C.2.1 C.2.2.2.2.1 hq.1 hq.2.1 hq.2.2 q0 0 ha rfl (vp_in_nI hj hn) dg (fun H1 locs1 h1 h2 h3 => ?_)
  rw [nI_clamp (by omega)] at h1 h2
  exact kk H1 locs1 ls ⟨hw ▸ h1, hw ▸ h2, h3⟩ hl
theorem K_one {cB : ClassId} {U : State} (h : va_K D cls ([(cA, .int)] ++ [(cB, .int)]) U) : cB = cA := by
  have h1 : U.vm.findClass ("[" ++ FieldType.int.toString) = some cA := (h.2 0 _ rfl).2
  have h2 : U.vm.findClass ("[" ++ FieldType.int.toString) = some cB := (h.2 1 _ rfl).2
  rw [h1] at h2
  exact (Option.some.inj h2).symm
theorem s_newa {A : Nat → Prop} {ws : va_W} {n : Nat} (C : Cx E cc own nL D cA d mR sR) (hA : ∀ q, (hpE E).size ≤ q → A q) (dg : decode cc pc = .ok (.newarray .int, 2)) (hn : n < 10000) (hc : cells + 1 ≤ mR) (hs : slots + n ≤ sR)
    (kk : ∀ q : Nat, ST E nL Q (cells + 1) (slots + n) (wf E A D (ws ++ [(q, .inl (cA, n, .inl (fun _ => 0)))])) lv (.ref q :: st) (pc + 2)) : ST E nL Q cells slots (wf E A D ws) lv (.int (nI n) :: st) pc := by
  intro H locs ls hq hl
  have b1 : n * componentBytes .int ≤ 536870912 := by
    show n * 4 ≤ 536870912
    omega
  refine va_newa (D := D) (atype := .int) (a0 := (n, .inl (fun _ => 0))) C.1 C.2.1 (C.2.2.1 _ arrI) rfl C.2.2.2.2.1 hq.1 hq.2.1 hq.2.2 hA (fun cB => rfl) (nI_pos (by omega)) (nI_clamp (by omega)) b1 (Nat.le_trans hc C.2.2.2.2.2.2.2.2.1) (Nat.le_trans hs C.2.2.2.2.2.2.2.2.2) dg (fun q cB H1 hK h1 h2 h3 => ?_)
  have e := K_one hK
  subst e
  exact kk q H1 locs ls ⟨h1, h2, h3⟩ hl
theorem s_new {A : Nat → Prop} {ws : va_W} {Cn : String} {T : u_T} {N ci index : Nat} (fs : List Value) (C : Cx E cc own nL D cA d mR sR) (hA : ∀ q, (hpE E).size ≤ q → A q) (hin : ∀ w ∈ u_ws Cn T N, w ∈ bigW) {ty0 : Nat → FieldType} (hty : ∀ k, k < N → parseFieldDescriptor (T k).2.2.1 = some (ty0 k)) (hcl : Cond.classLink own index Cn ∈ bigW) (hins : Cond.instantiable Cn N ∈ bigW) (hini : Cond.initialized Cn ∈ bigW) (dg : decode cc pc = .ok (.new index, 3)) (hc : cls[ci]? = some (Cn, T, N)) (hfs : ∀ j, j < N → defaultValue (ty0 j) = vp_V fs j) (hcc : cells + 1 ≤ mR) (hss : slots + N ≤ sR)
    (kk : ∀ q : Nat, ST E nL Q (cells + 1) (slots + N) (wf E A D (ws ++ [(q, .inr (ci, fs))])) lv (.ref q :: st) (pc + 3)) : ST E nL Q cells slots (wf E A D ws) lv st pc :=
  fun H locs ls hq hl => va_new (D := D) C.1 C.2.1 C.2.2.1 hin ty0 hty C.2.2.2.1 (C.2.2.1 _ hcl) (C.2.2.1 _ hins) (C.2.2.1 _ hini) C.2.2.2.2.1 hq.1 hq.2.1 hq.2.2 hA hc hfs (Nat.le_trans hcc C.2.2.2.2.2.2.2.2.1) (Nat.le_trans hss C.2.2.2.2.2.2.2.2.2) dg (fun q H1 h1 h2 h3 => kk q H1 locs ls ⟨h1, h2, h3⟩ hl)
theorem s_objInit {idx a : Nat} (C : Cx E cc own nL D cA d mR sR) (hl0 : Cond.methodLink own idx objectInit ∈ bigW) (dg : decode cc pc = .ok (.invokespecial idx, 3)) (hd : 1 ≤ d) (hr : (rest.map fun v => v.category).sum ≤ 8)
    (kk : ST E nL Q cells slots Φ lv rest (pc + 3)) : ST E nL Q cells slots Φ lv (.ref a :: rest) pc := by
  intro H locs ls hq hl
  have g1 := C.2.2.2.2.2.2.1
  have g2 := C.2.2.2.2.2.2.2.1
  refine W.objInit (g := F0 E.2.2.2.2.2.1 pc ls (.ref a :: rest)) C.1 C.2.1 C.2.2.2.1 (C.2.2.1 _ hl0) (C.2.2.1 _ imO) (C.2.2.1 _ kcO) rfl (by rw [C.2.2.2.2.2.1]; exact hl.1) rfl dg (by omega) ?_ (kk H locs ls hq hl)
  show 2 * 0 + (rest.map fun v => v.category).sum + 12 ≤ E.2.2.2.1.locals
  omega
theorem s_min {idx : Nat} {x y : Int32} (C : Cx E cc own nL D cA d mR sR) (hl0 : Cond.methodLink own idx Lib.Math.min.name ∈ bigW) (dg : decode cc pc = .ok (.invokestatic idx, 3)) (hd : 1 ≤ d) (hr : (rest.map fun v => v.category).sum ≤ 8) (hc : cells ≤ mR) (hs : slots ≤ sR)
    (kk : ST E nL Q cells slots Φ lv (.int (if y < x then y else x) :: rest) (pc + 3)) : ST E nL Q cells slots Φ lv (.int y :: .int x :: rest) pc := by
  intro H locs ls hq hl
  have g1 := C.2.2.2.2.2.2.1
  have g2 := C.2.2.2.2.2.2.2.1
  exact va_mmin C.1 C.2.1 (by rw [C.2.2.2.2.2.1]; exact hl.1.symm) C.2.2.2.1 (C.2.2.1 _ hl0) (C.2.2.1 _ st_min) (C.2.2.1 _ iniJ) (C.2.2.1 _ kc_min) (by omega) (by omega) (Nat.le_trans hc C.2.2.2.2.2.2.2.2.1) (Nat.le_trans hs C.2.2.2.2.2.2.2.2.2) dg (kk H locs ls hq hl)
theorem s_max {idx : Nat} {x y : Int32} (C : Cx E cc own nL D cA d mR sR) (hl0 : Cond.methodLink own idx Lib.Math.max.name ∈ bigW) (dg : decode cc pc = .ok (.invokestatic idx, 3)) (hd : 1 ≤ d) (hr : (rest.map fun v => v.category).sum ≤ 8) (hc : cells ≤ mR) (hs : slots ≤ sR)
    (kk : ST E nL Q cells slots Φ lv (.int (if x < y then y else x) :: rest) (pc + 3)) : ST E nL Q cells slots Φ lv (.int y :: .int x :: rest) pc := by
  intro H locs ls hq hl
  have g1 := C.2.2.2.2.2.2.1
  have g2 := C.2.2.2.2.2.2.2.1
  exact va_mmax C.1 C.2.1 (by rw [C.2.2.2.2.2.1]; exact hl.1.symm) C.2.2.2.1 (C.2.2.1 _ hl0) (C.2.2.1 _ st_max) (C.2.2.1 _ iniJ) (C.2.2.1 _ kc_max) (by omega) (by omega) (Nat.le_trans hc C.2.2.2.2.2.2.2.2.1) (Nat.le_trans hs C.2.2.2.2.2.2.2.2.2) dg (kk H locs ls hq hl)
end S20
/-! contracts: one that only reads, one that writes (void, or an int) -/
def CtP (l : Launch) (y : MethodName) (cd : Cond) (d : Nat) (D : va_G) (cA : ClassId) (av : List Value) (ws : va_W) (post : Int32 → Prop) : Prop :=
  Met l y (cd :: bigW) (rmL d 0 0) (va_Pc av (fun U => va_P D cls ws U.heap ∧ va_K D cls [(cA, .int)] U)) (vp_Si post) 0 0 (fun _ => False)
def CtV {S : Type} (l : Launch) (y : MethodName) (cd : Cond) (d mc ms : Nat) (D : va_G) (cA : ClassId) (av : List Value) (ws : va_W) (post : S → Prop) (W1 : S → va_W) : Prop :=
  ∀ sz : Nat, Met l y (cd :: bigW) (rmL d mc ms) (va_Pc av (fun U => U.heap.size = sz ∧ va_P D cls ws U.heap ∧ va_K D cls [(cA, .int)] U ∧ va_D (fun _ => True) ws)) (va_Qv post (fun u t => va_P D cls (W1 u) t.heap ∧ va_K D cls [(cA, .int)] t ∧ va_D (va_A ws sz) (W1 u)) (va_A ws sz)) mc ms (va_A ws sz)
def CtI {S : Type} (l : Launch) (y : MethodName) (cd : Cond) (d mc ms : Nat) (D : va_G) (cA : ClassId) (av : List Value) (ws : va_W) (post : Int32 → S → Prop) (W1 : S → va_W) : Prop :=
  ∀ sz : Nat, Met l y (cd :: bigW) (rmL d mc ms) (va_Pc av (fun U => U.heap.size = sz ∧ va_P D cls ws U.heap ∧ va_K D cls [(cA, .int)] U ∧ va_D (fun _ => True) ws)) (va_Qi post (fun u t => va_P D cls (W1 u) t.heap ∧ va_K D cls [(cA, .int)] t ∧ va_D (va_A ws sz) (W1 u)) (va_A ws sz)) mc ms (va_A ws sz)
theorem mkP {l : Launch} {y : MethodName} {cc : ByteArray} {nL d : Nat} {rt : FieldType} {D : va_G} {cA : ClassId} {av : List Value} {ws : va_W} {post : Int32 → Prop} (lv0 : List (Nat × Value)) (hy : plainName y.cls = true) (hlv : lv_args 0 av = lv0) (hsl : (lg_sl av).length ≤ nL)
    (body : ∀ (E : EnvT) (Q : State → Prop), E.2.1 = l → Cx E cc y.cls nL D cA d 0 0 →
      (∀ (r : Int32) (lv : List (Nat × Value)) (pc : Nat), decode cc pc = .ok (.ireturn, 1) → narrow rt (.int r) = .int r → post r → ST E nL Q 0 0 (pf E D ws) lv [.int r] pc) →
      ST E nL Q 0 0 (pf E D ws) lv0 [] 0) : CtP l y (.code y cc nL (some rt)) d D cA av ws post := by
  refine Met.ofW (cc := cc) (maxL := nL) (ret := some rt) hy rfl ?_
  intro p e s m args below meth c s₁ B hml hv
  obtain ⟨rfl, hP, hK⟩ := hv
  have hlocks := B.notSynchronized
  have hl := lv_entry av (n := nL) hsl
  rw [lg_entry_eq]
  rw [hlv] at hl
  generalize (lg_sl av ++ List.replicate (nL - (lg_sl av).length) Slot.unset).toArray = ls at hl ⊢
  refine body (p, l, e, rmL d 0 0, s, m, av.toArray, below, meth, c) _ rfl ⟨B.exec, B.bytes, ws_in (atoms_spec (ws := .code y cc nL (some rt) :: bigW) B.pre), findClass_of_methodNamed B.named, hK, hml, Nat.le_refl _, Nat.le_refl _, Nat.le_refl _, Nat.le_refl _⟩ ?_ s.heap [] ls ⟨rfl, rfl, hP⟩ hl
  intro r lv pc dg hn hp H locs ls2 hΦ hl2
  obtain ⟨h1, h2, h3⟩ := hΦ
  subst h1; subst h2
  exact W.zret B.exec B.bytes B.returns hn (fun t ht hW => ⟨r, rfl, hp, ht⟩) (fun q hq => by cases hq) dg
theorem mkV {S : Type} {l : Launch} {y : MethodName} {cc : ByteArray} {nL d mc ms : Nat} {D : va_G} {cA : ClassId} {av : List Value} {ws : va_W} {post : S → Prop} {W1 : S → va_W} (lv0 : List (Nat × Value)) (hy : plainName y.cls = true) (hlv : lv_args 0 av = lv0) (hsl : (lg_sl av).length ≤ nL)
    (body : ∀ (E : EnvT) (A : Nat → Prop) (Q : State → Prop), E.2.1 = l → E.2.2.2.2.2.2.2.2.1.name = y.name → Cx E cc y.cls nL D cA d mc ms → (∀ q, (hpE E).size ≤ q → A q) →
      (∀ (u : S) (lv : List (Nat × Value)) (pc : Nat), decode cc pc = .ok (.return_, 1) → post u → ST E nL Q mc ms (wf E A D (W1 u)) lv [] pc) →
      ST E nL Q 0 0 (wf E A D ws) lv0 [] 0) : CtV l y (.code y cc nL none) d mc ms D cA av ws post W1 := by
  intro sz
  refine Met.ofW (cc := cc) (maxL := nL) (ret := none) hy rfl ?_
  intro p e s m args below meth c s₁ B hml hv
  obtain ⟨rfl, hsz, hP, hK, hD0⟩ := hv
  have hlocks := B.notSynchronized
  subst hsz
  have hD := hD0.self (sz := s.heap.size)
  have hl := lv_entry av (n := nL) hsl
  rw [lg_entry_eq]
  rw [hlv] at hl
  generalize (lg_sl av ++ List.replicate (nL - (lg_sl av).length) Slot.unset).toArray = ls at hl ⊢
  refine body (p, l, e, rmL d mc ms, s, m, av.toArray, below, meth, c) (va_A ws s.heap.size) _ rfl (name_of_methodNamed B.named B.method).1 ⟨B.exec, B.bytes, ws_in (atoms_spec (ws := .code y cc nL none :: bigW) B.pre), findClass_of_methodNamed B.named, hK, hml, Nat.le_refl _, Nat.le_refl _, Nat.le_refl _, Nat.le_refl _⟩ (fun q h => Or.inr h) ?_ s.heap [] ls ⟨hP, hD, va_S.rf⟩ hl
  intro u lv pc dg hp H locs ls2 hΦ hl2
  exact W.vret B.exec B.bytes B.returns (fun t ht hW => ⟨⟨u, rfl, hp, by rw [ht]; exact hΦ.1, va_K.moved hW.alike hK, hΦ.2.1⟩, hΦ.2.2.F ht⟩) hΦ.2.2.2.2 dg
theorem mkI {S : Type} {l : Launch} {y : MethodName} {cc : ByteArray} {nL d mc ms : Nat} {rt : FieldType} {D : va_G} {cA : ClassId} {av : List Value} {ws : va_W} {post : Int32 → S → Prop} {W1 : S → va_W} (lv0 : List (Nat × Value)) (hy : plainName y.cls = true) (hlv : lv_args 0 av = lv0) (hsl : (lg_sl av).length ≤ nL)
    (body : ∀ (E : EnvT) (A : Nat → Prop) (Q : State → Prop), E.2.1 = l → Cx E cc y.cls nL D cA d mc ms → (∀ q, (hpE E).size ≤ q → A q) →
      (∀ (r : Int32) (u : S) (lv : List (Nat × Value)) (pc : Nat), decode cc pc = .ok (.ireturn, 1) → narrow rt (.int r) = .int r → post r u → ST E nL Q mc ms (wf E A D (W1 u)) lv [.int r] pc) →
      ST E nL Q 0 0 (wf E A D ws) lv0 [] 0) : CtI l y (.code y cc nL (some rt)) d mc ms D cA av ws post W1 := by
  intro sz
  refine Met.ofW (cc := cc) (maxL := nL) (ret := some rt) hy rfl ?_
  intro p e s m args below meth c s₁ B hml hv
  obtain ⟨rfl, hsz, hP, hK, hD0⟩ := hv
  have hlocks := B.notSynchronized
  subst hsz
  have hD := hD0.self (sz := s.heap.size)
  have hl := lv_entry av (n := nL) hsl
  rw [lg_entry_eq]
  rw [hlv] at hl
  generalize (lg_sl av ++ List.replicate (nL - (lg_sl av).length) Slot.unset).toArray = ls at hl ⊢
  refine body (p, l, e, rmL d mc ms, s, m, av.toArray, below, meth, c) (va_A ws s.heap.size) _ rfl ⟨B.exec, B.bytes, ws_in (atoms_spec (ws := .code y cc nL (some rt) :: bigW) B.pre), findClass_of_methodNamed B.named, hK, hml, Nat.le_refl _, Nat.le_refl _, Nat.le_refl _, Nat.le_refl _⟩ (fun q h => Or.inr h) ?_ s.heap [] ls ⟨hP, hD, va_S.rf⟩ hl
  intro r u lv pc dg hn hp H locs ls2 hΦ hl2
  exact W.zret B.exec B.bytes B.returns hn (fun t ht hW => ⟨⟨r, u, rfl, hp, by rw [ht]; exact hΦ.1, va_K.moved hW.alike hK, hΦ.2.1⟩, hΦ.2.2.F ht⟩) hΦ.2.2.2.2 dg
section S21
variable {E : EnvT} {nL : Nat} {Q : State → Prop} {cells slots : Nat} {Φ : Heap → List Loc → Prop} {lv : List (Nat × Value)} {st rest : List Value} {pc : Nat} {cc : ByteArray} {own : String} {D : va_G} {cA : ClassId} {d mR sR : Nat}
variable {y : MethodName} {bytes : ByteArray} {maxL index n d' mc ms ci : Nat} {rt : FieldType} {Cn : String} {As fs : List Value} {b : Nat} {ws : va_W} {qc : vw_C}
theorem rmOK {R : Room} (h1 : d ≤ R.frames) (h2 : 40 * d ≤ R.locals) (h : d' < d) (hm : maxL ≤ 21) : (rmL d' mc ms).frames + 1 ≤ R.frames ∧ 8 + (maxL + 11) + (rmL d' mc ms).locals ≤ R.locals := by
  refine ⟨?_, ?_⟩
  · show d' + 1 ≤ R.frames; omega
  · show 8 + (maxL + 11) + 40 * d' ≤ R.locals; omega
theorem cxR (C : Cx E cc own nL D cA d mR sR) (h : d' < d) (hm : maxL ≤ 21) : (rmL d' mc ms).frames + 1 ≤ E.2.2.2.1.frames ∧ 8 + (maxL + 11) + (rmL d' mc ms).locals ≤ E.2.2.2.1.locals := rmOK C.2.2.2.2.2.2.1 C.2.2.2.2.2.2.2.1 h hm
/-- a call of a method that only reads -/
theorem s_callP {wc : va_W} {post : Int32 → Prop} (isC : List Nat) (r0 : Nat) (rest : List Value) (C : Cx E cc own nL D cA d mR sR) (hΦ : ∀ H locs, Φ H locs → va_P D cls ws H) (hM : CtP E.2.1 y (.code y bytes maxL (some rt)) d' D cA (.ref b :: As) wc post) (hG : GoodIn bigW (wsV own index Cn y (.code y bytes maxL (some rt) :: bigW))) (dg : decode cc pc = .ok (.invokevirtual index, 3)) (hd : y.cls = Cn ∧ y.cls ≠ "java/lang/invoke/MethodHandle" ∧ y.cls ≠ "java/lang/invoke/VarHandle" ∧ (parseMethodDescriptor y.desc).map (fun d => d.parameters.length) = some n) (hC : isC.map (fun i => ws[i]?) = wc.map some) (hr : wc[r0]? = some (b, .inr (ci, fs))) (hci : cls[ci]? = some qc) (hcn : qc.1 = Cn) (hdd : d' < d) (hmx : maxL ≤ 21) (hn : As.length = n) (hst : st = As.reverse ++ .ref b :: rest) (hroom : (rest.map fun v => v.category).sum ≤ 8) (hc : cells ≤ mR) (hs : slots ≤ sR)
    (k : ∀ r : Int32, post r → ST E nL Q cells slots Φ lv (.int r :: rest) (pc + 3)) : ST E nL Q cells slots Φ lv st pc := by
  intro H locs ls hq hl
  have hP := hΦ H locs hq
  have hPc := hP.sub (ws' := wc) isC (fm_of hC)
  have hK := C.2.2.2.2.1
  subst hcn
  have hc' := Nat.le_trans hc C.2.2.2.2.2.2.2.2.1
  have hs' := Nat.le_trans hs C.2.2.2.2.2.2.2.2.2
  refine vp_callSi (W.runV (g := F0 E.2.2.2.2.2.1 pc ls st) (As := As) (rest := rest) ⟨C.1, C.2.1, C.2.2.2.2.2.1, C.2.2.2.1, C.2.2.1⟩ hM (cwV n C.2.2.1 hG rfl rfl rfl hd (cxR C hdd hmx)) ⟨fun a U g mk q => ⟨q.1, q.2.1, va_K.moved (u := U) (U := U.calling g mk a) (Vm.Alike.refl U.vm) q.2.2⟩, va_recv hK hPc hci hr, fun U hU hW => ⟨rfl, by rw [hU]; exact hPc, va_K.moved hW.alike hK⟩⟩ rfl hn hl.1 hst (lv_room hroom) dg ⟨hc', hs'⟩) (fun r hp => k r hp H locs ls hq hl)
/-- a call of a static method that only reads -/
theorem s_callPS {wc : va_W} {post : Int32 → Prop} (isC : List Nat) (rest : List Value) (C : Cx E cc own nL D cA d mR sR) (hΦ : ∀ H locs, Φ H locs → va_P D cls ws H) (hM : CtP E.2.1 y (.code y bytes maxL (some rt)) d' D cA As wc post) (hG : GoodIn bigW (wsS own index y (.code y bytes maxL (some rt) :: bigW))) (dg : decode cc pc = .ok (.invokestatic index, 3)) (hd : y.cls = own ∧ y.cls ≠ "java/lang/invoke/MethodHandle" ∧ y.cls ≠ "java/lang/invoke/VarHandle" ∧ (parseMethodDescriptor y.desc).map (fun d => d.parameters.length) = some n) (hC : isC.map (fun i => ws[i]?) = wc.map some) (hdd : d' < d) (hmx : maxL ≤ 21) (hn : As.length = n) (hst : st = As.reverse ++ rest) (hroom : (rest.map fun v => v.category).sum ≤ 8) (hc : cells ≤ mR) (hs : slots ≤ sR)
    (k : ∀ r : Int32, post r → ST E nL Q cells slots Φ lv (.int r :: rest) (pc + 3)) : ST E nL Q cells slots Φ lv st pc := by
  intro H locs ls hq hl
  have hP := hΦ H locs hq
  have hPc := hP.sub (ws' := wc) isC (fm_of hC)
  have hK := C.2.2.2.2.1
  have hc' := Nat.le_trans hc C.2.2.2.2.2.2.2.2.1
  have hs' := Nat.le_trans hs C.2.2.2.2.2.2.2.2.2
  refine vp_callSi (W.runS (g := F0 E.2.2.2.2.2.1 pc ls st) (As := As) (rest := rest) ⟨C.1, C.2.1, C.2.2.2.2.2.1, C.2.2.2.1, C.2.2.1⟩ hM (cwS n C.2.2.1 hG rfl rfl rfl hd (cxR C hdd hmx)) ⟨fun a U g mk q => ⟨q.1, q.2.1, va_K.moved (u := U) (U := U.calling g mk a) (Vm.Alike.refl U.vm) q.2.2⟩, fun U hU hW => ⟨rfl, by rw [hU]; exact hPc, va_K.moved hW.alike hK⟩⟩ rfl hn hl.1 hst (lv_room hroom) dg ⟨hc', hs'⟩) (fun r hp => k r hp H locs ls hq hl)
theorem bl2 {av : List Value} {wc : va_W} {sz : Nat} {A : Nat → Prop} {tys : List (ClassId × FieldType)} : FrameBlind (va_Pc av (fun U => U.heap.size = sz ∧ va_P D cls wc U.heap ∧ va_K D cls tys U ∧ va_D A wc)) :=
  fun a U g mk q => ⟨q.1, q.2.1, q.2.2.1, va_K.moved (u := U) (U := U.calling g mk a) (Vm.Alike.refl U.vm) q.2.2.2.1, q.2.2.2.2⟩
/-- a call of a method that writes, void -/
theorem s_callV {S : Type} {A : Nat → Prop} {wc wr : va_W} {post : S → Prop} {W1 : S → va_W} (isC isR : List Nat) (r0 : Nat) (rest : List Value) (C : Cx E cc own nL D cA d mR sR) (hA : ∀ q, (hpE E).size ≤ q → A q) (hM : CtV E.2.1 y (.code y bytes maxL none) d' mc ms D cA (.ref b :: As) wc post W1) (hG : GoodIn bigW (wsV own index Cn y (.code y bytes maxL none :: bigW))) (dg : decode cc pc = .ok (.invokevirtual index, 3)) (hd : y.cls = Cn ∧ y.cls ≠ "java/lang/invoke/MethodHandle" ∧ y.cls ≠ "java/lang/invoke/VarHandle" ∧ (parseMethodDescriptor y.desc).map (fun d => d.parameters.length) = some n) (hC : isC.map (fun i => ws[i]?) = wc.map some) (hR : isR.map (fun i => ws[i]?) = wr.map some) (hnC : va_nd isC = true) (hnR : va_nd isR = true) (hdis : ∀ i ∈ isR, i ∉ isC) (hr : wc[r0]? = some (b, .inr (ci, fs))) (hci : cls[ci]? = some qc) (hcn : qc.1 = Cn) (hdd : d' < d) (hmx : maxL ≤ 21) (hn : As.length = n) (hst : st = As.reverse ++ .ref b :: rest) (hroom : (rest.map fun v => v.category).sum ≤ 8) (hc : cells + mc ≤ mR) (hs : slots + ms ≤ sR)
    (k : ∀ u : S, post u → ST E nL Q (cells + mc) (slots + ms) (wf E A D (wr ++ W1 u)) lv rest (pc + 3)) : ST E nL Q cells slots (wf E A D ws) lv st pc := by
  intro H locs ls hq hl
  obtain ⟨hP, hD, hS⟩ := hq
  have hPc := hP.sub (ws' := wc) isC (fm_of hC)
  have hDc := hD.sub (ws' := wc) isC hnC hC
  have hFc := va_free (wc := wc) hD hS hA isC hC
  have hK := C.2.2.2.2.1
  subst hcn
  have hc' := Nat.le_trans hc C.2.2.2.2.2.2.2.2.1
  have hs' := Nat.le_trans hs C.2.2.2.2.2.2.2.2.2
  refine va_callv (va_runV (g := F0 E.2.2.2.2.2.1 pc ls st) (As := As) (rest := rest) ⟨C.1, C.2.1, C.2.2.2.2.2.1, C.2.2.2.1, C.2.2.1⟩ (hM H.size) (cwV n C.2.2.1 hG rfl rfl rfl hd (cxR C hdd hmx)) ⟨bl2, va_recv hK hPc hci hr, fun U hU hW => ⟨rfl, by rw [hU], by rw [hU]; exact hPc, va_K.moved hW.alike hK, hDc.weaken (fun _ _ _ _ => trivial)⟩⟩ rfl hn hl.1 hst (lv_room hroom) dg ⟨hc', hs'⟩) hS (fun q _ h => hFc q h) hFc (fun u t H1 locs1 ht hvm hw hB hz1 hk1 hS1 => ?_)
  obtain ⟨hP1, hK1, hD1⟩ := hB
  rw [ht] at hP1
  obtain ⟨hP2, hD2⟩ := va_join (wr := wr) (w1 := W1 u) hP hD isC isR hC hR hnR hdis hk1 hFc hP1 hD1
  exact k u hw H1 locs1 ls ⟨hP2, hD2, hS1⟩ hl
/-- a call of a method that writes and answers an int -/
theorem s_callI {S : Type} {A : Nat → Prop} {wc wr : va_W} {post : Int32 → S → Prop} {W1 : S → va_W} (isC isR : List Nat) (r0 : Nat) (rest : List Value) (C : Cx E cc own nL D cA d mR sR) (hA : ∀ q, (hpE E).size ≤ q → A q) (hM : CtI E.2.1 y (.code y bytes maxL (some rt)) d' mc ms D cA (.ref b :: As) wc post W1) (hG : GoodIn bigW (wsV own index Cn y (.code y bytes maxL (some rt) :: bigW))) (dg : decode cc pc = .ok (.invokevirtual index, 3)) (hd : y.cls = Cn ∧ y.cls ≠ "java/lang/invoke/MethodHandle" ∧ y.cls ≠ "java/lang/invoke/VarHandle" ∧ (parseMethodDescriptor y.desc).map (fun d => d.parameters.length) = some n) (hC : isC.map (fun i => ws[i]?) = wc.map some) (hR : isR.map (fun i => ws[i]?) = wr.map some) (hnC : va_nd isC = true) (hnR : va_nd isR = true) (hdis : ∀ i ∈ isR, i ∉ isC) (hr : wc[r0]? = some (b, .inr (ci, fs))) (hci : cls[ci]? = some qc) (hcn : qc.1 = Cn) (hdd : d' < d) (hmx : maxL ≤ 21) (hn : As.length = n) (hst : st = As.reverse ++ .ref b :: rest) (hroom : (rest.map fun v => v.category).sum ≤ 8) (hc : cells + mc ≤ mR) (hs : slots + ms ≤ sR)
    (k : ∀ (r : Int32) (u : S), post r u → ST E nL Q (cells + mc) (slots + ms) (wf E A D (wr ++ W1 u)) lv (.int r :: rest) (pc + 3)) : ST E nL Q cells slots (wf E A D ws) lv st pc := by
  intro H locs ls hq hl
  obtain ⟨hP, hD, hS⟩ := hq
  have hPc := hP.sub (ws' := wc) isC (fm_of hC)
  have hDc := hD.sub (ws' := wc) isC hnC hC
  have hFc := va_free (wc := wc) hD hS hA isC hC
  have hK := C.2.2.2.2.1
  subst hcn
  have hc' := Nat.le_trans hc C.2.2.2.2.2.2.2.2.1
  have hs' := Nat.le_trans hs C.2.2.2.2.2.2.2.2.2
  refine va_calli (va_runV (g := F0 E.2.2.2.2.2.1 pc ls st) (As := As) (rest := rest) ⟨C.1, C.2.1, C.2.2.2.2.2.1, C.2.2.2.1, C.2.2.1⟩ (hM H.size) (cwV n C.2.2.1 hG rfl rfl rfl hd (cxR C hdd hmx)) ⟨bl2, va_recv hK hPc hci hr, fun U hU hW => ⟨rfl, by rw [hU], by rw [hU]; exact hPc, va_K.moved hW.alike hK, hDc.weaken (fun _ _ _ _ => trivial)⟩⟩ rfl hn hl.1 hst (lv_room hroom) dg ⟨hc', hs'⟩) hS (fun q _ h => hFc q h) hFc (fun r u t H1 locs1 ht hvm hw hB hz1 hk1 hS1 => ?_)
  obtain ⟨hP1, hK1, hD1⟩ := hB
  rw [ht] at hP1
  obtain ⟨hP2, hD2⟩ := va_join (wr := wr) (w1 := W1 u) hP hD isC isR hC hR hnR hdis hk1 hFc hP1 hD1
  exact k r u hw H1 locs1 ls ⟨hP2, hD2, hS1⟩ hl
/-- a call of a static method that writes, void -/
theorem s_callVS {S : Type} {A : Nat → Prop} {wc wr : va_W} {post : S → Prop} {W1 : S → va_W} (isC isR : List Nat) (rest : List Value) (C : Cx E cc own nL D cA d mR sR) (hA : ∀ q, (hpE E).size ≤ q → A q) (hM : CtV E.2.1 y (.code y bytes maxL none) d' mc ms D cA As wc post W1) (hG : GoodIn bigW (wsS own index y (.code y bytes maxL none :: bigW))) (dg : decode cc pc = .ok (.invokestatic index, 3)) (hd : y.cls = own ∧ y.cls ≠ "java/lang/invoke/MethodHandle" ∧ y.cls ≠ "java/lang/invoke/VarHandle" ∧ (parseMethodDescriptor y.desc).map (fun d => d.parameters.length) = some n) (hC : isC.map (fun i => ws[i]?) = wc.map some) (hR : isR.map (fun i => ws[i]?) = wr.map some) (hnC : va_nd isC = true) (hnR : va_nd isR = true) (hdis : ∀ i ∈ isR, i ∉ isC) (hdd : d' < d) (hmx : maxL ≤ 21) (hn : As.length = n) (hst : st = As.reverse ++ rest) (hroom : (rest.map fun v => v.category).sum ≤ 8) (hc : cells + mc ≤ mR) (hs : slots + ms ≤ sR)
    (k : ∀ u : S, post u → ST E nL Q (cells + mc) (slots + ms) (wf E A D (wr ++ W1 u)) lv rest (pc + 3)) : ST E nL Q cells slots (wf E A D ws) lv st pc := by
  intro H locs ls hq hl
  obtain ⟨hP, hD, hS⟩ := hq
  have hPc := hP.sub (ws' := wc) isC (fm_of hC)
  have hDc := hD.sub (ws' := wc) isC hnC hC
  have hFc := va_free (wc := wc) hD hS hA isC hC
  have hK := C.2.2.2.2.1
  have hc' := Nat.le_trans hc C.2.2.2.2.2.2.2.2.1
  have hs' := Nat.le_trans hs C.2.2.2.2.2.2.2.2.2
  refine va_callv (va_runS (g := F0 E.2.2.2.2.2.1 pc ls st) (As := As) (rest := rest) ⟨C.1, C.2.1, C.2.2.2.2.2.1, C.2.2.2.1, C.2.2.1⟩ (hM H.size) (cwS n C.2.2.1 hG rfl rfl rfl hd (cxR C hdd hmx)) ⟨bl2, fun U hU hW => ⟨rfl, by rw [hU], by rw [hU]; exact hPc, va_K.moved hW.alike hK, hDc.weaken (fun _ _ _ _ => trivial)⟩⟩ rfl hn hl.1 hst (lv_room hroom) dg ⟨hc', hs'⟩) hS (fun q _ h => hFc q h) hFc (fun u t H1 locs1 ht hvm hw hB hz1 hk1 hS1 => ?_)
  obtain ⟨hP1, hK1, hD1⟩ := hB
  rw [ht] at hP1
  obtain ⟨hP2, hD2⟩ := va_join (wr := wr) (w1 := W1 u) hP hD isC isR hC hR hnR hdis hk1 hFc hP1 hD1
  exact k u hw H1 locs1 ls ⟨hP2, hD2, hS1⟩ hl
/-- a constructor's call -/
theorem s_callC {S : Type} {A : Nat → Prop} {wc wr : va_W} {post : S → Prop} {W1 : S → va_W} (isC isR : List Nat) (rest : List Value) (C : Cx E cc own nL D cA d mR sR) (hA : ∀ q, (hpE E).size ≤ q → A q) (hM : CtV E.2.1 y (.code y bytes maxL none) d' mc ms D cA (.ref b :: As) wc post W1) (hk0 : .code y bytes maxL none ∈ bigW) (hlk : .methodLink own index y ∈ bigW) (him : .instanceMethod y ∈ bigW) (hii : .initialized y.cls ∈ bigW) (dg : decode cc pc = .ok (.invokespecial index, 3)) (hy1 : y.name = "<init>") (hd : y.cls ≠ "java/lang/invoke/MethodHandle" ∧ y.cls ≠ "java/lang/invoke/VarHandle" ∧ (parseMethodDescriptor y.desc).map (fun d => d.parameters.length) = some n) (hC : isC.map (fun i => ws[i]?) = wc.map some) (hR : isR.map (fun i => ws[i]?) = wr.map some) (hnC : va_nd isC = true) (hnR : va_nd isR = true) (hdis : ∀ i ∈ isR, i ∉ isC) (hdd : d' < d) (hmx : maxL ≤ 21) (hn : As.length = n) (hst : st = As.reverse ++ .ref b :: rest) (hroom : (rest.map fun v => v.category).sum ≤ 8) (hc : cells + mc ≤ mR) (hs : slots + ms ≤ sR)
    (k : ∀ u : S, post u → ST E nL Q (cells + mc) (slots + ms) (wf E A D (wr ++ W1 u)) lv rest (pc + 3)) : ST E nL Q cells slots (wf E A D ws) lv st pc := by
  intro H locs ls hq hl
  obtain ⟨hP, hD, hS⟩ := hq
  have hPc := hP.sub (ws' := wc) isC (fm_of hC)
  have hDc := hD.sub (ws' := wc) isC hnC hC
  have hFc := va_free (wc := wc) hD hS hA isC hC
  have hK := C.2.2.2.2.1
  have hc' := Nat.le_trans hc C.2.2.2.2.2.2.2.2.1
  have hs' := Nat.le_trans hs C.2.2.2.2.2.2.2.2.2
  refine va_callv (va_runI (g := F0 E.2.2.2.2.2.1 pc ls st) (As := As) (rest := rest) ⟨C.1, C.2.1, C.2.2.2.2.2.1, C.2.2.2.1, C.2.2.1⟩ (hM H.size) (cwI n C.2.2.1 (gI hk0) rfl rfl rfl (C.2.2.1 _ hii) (C.2.2.1 _ hlk) (C.2.2.1 _ him) hy1 hd (cxR C hdd hmx)) ⟨bl2, fun U hU hW => ⟨rfl, by rw [hU], by rw [hU]; exact hPc, va_K.moved hW.alike hK, hDc.weaken (fun _ _ _ _ => trivial)⟩⟩ rfl hn hl.1 hst (lv_room hroom) dg ⟨hc', hs'⟩) hS (fun q _ h => hFc q h) hFc (fun u t H1 locs1 ht hvm hw hB hz1 hk1 hS1 => ?_)
  obtain ⟨hP1, hK1, hD1⟩ := hB
  rw [ht] at hP1
  obtain ⟨hP2, hD2⟩ := va_join (wr := wr) (w1 := W1 u) hP hD isC isR hC hR hnR hdis hk1 hFc hP1 hD1
  exact k u hw H1 locs1 ls ⟨hP2, hD2, hS1⟩ hl
/-- a private constructor's call, of a nest mate -/
theorem s_callCN {S : Type} {A : Nat → Prop} {wc wr : va_W} {post : S → Prop} {W1 : S → va_W} {host : String} (isC isR : List Nat) (rest : List Value) (C : Cx E cc own nL D cA d mR sR) (hA : ∀ q, (hpE E).size ≤ q → A q) (hM : CtV E.2.1 y (.code y bytes maxL none) d' mc ms D cA (.ref b :: As) wc post W1) (hk0 : .code y bytes maxL none ∈ bigW) (hlk : va_Nw (.methodLinkNest own index y host) E.2.2.2.2.1) (him : .instanceMethod y ∈ bigW) (hii : .initialized y.cls ∈ bigW) (dg : decode cc pc = .ok (.invokespecial index, 3)) (hy1 : y.name = "<init>") (hd : y.cls ≠ "java/lang/invoke/MethodHandle" ∧ y.cls ≠ "java/lang/invoke/VarHandle" ∧ (parseMethodDescriptor y.desc).map (fun d => d.parameters.length) = some n) (hC : isC.map (fun i => ws[i]?) = wc.map some) (hR : isR.map (fun i => ws[i]?) = wr.map some) (hnC : va_nd isC = true) (hnR : va_nd isR = true) (hdis : ∀ i ∈ isR, i ∉ isC) (hdd : d' < d) (hmx : maxL ≤ 21) (hn : As.length = n) (hst : st = As.reverse ++ .ref b :: rest) (hroom : (rest.map fun v => v.category).sum ≤ 8) (hc : cells + mc ≤ mR) (hs : slots + ms ≤ sR)
    (k : ∀ u : S, post u → ST E nL Q (cells + mc) (slots + ms) (wf E A D (wr ++ W1 u)) lv rest (pc + 3)) : ST E nL Q cells slots (wf E A D ws) lv st pc := by
  intro H locs ls hq hl
  obtain ⟨hP, hD, hS⟩ := hq
  have hPc := hP.sub (ws' := wc) isC (fm_of hC)
  have hDc := hD.sub (ws' := wc) isC hnC hC
  have hFc := va_free (wc := wc) hD hS hA isC hC
  have hK := C.2.2.2.2.1
  have hc' := Nat.le_trans hc C.2.2.2.2.2.2.2.2.1
  have hs' := Nat.le_trans hs C.2.2.2.2.2.2.2.2.2
  refine va_callv (va_runIN (g := F0 E.2.2.2.2.2.1 pc ls st) (As := As) (rest := rest) (host := host) ⟨C.1, C.2.1, C.2.2.2.2.2.1, C.2.2.2.1, C.2.2.1⟩ (hM H.size) ⟨va_cnB n C.2.2.1 (gI hk0) rfl rfl rfl hlk (C.2.2.1 _ hii) hd (cxR C hdd hmx), hy1, C.2.2.1 _ him⟩ ⟨bl2, fun U hU hW => ⟨rfl, by rw [hU], by rw [hU]; exact hPc, va_K.moved hW.alike hK, hDc.weaken (fun _ _ _ _ => trivial)⟩⟩ rfl hn hl.1 hst (lv_room hroom) dg ⟨hc', hs'⟩) hS (fun q _ h => hFc q h) hFc (fun u t H1 locs1 ht hvm hw hB hz1 hk1 hS1 => ?_)
  obtain ⟨hP1, hK1, hD1⟩ := hB
  rw [ht] at hP1
  obtain ⟨hP2, hD2⟩ := va_join (wr := wr) (w1 := W1 u) hP hD isC isR hC hR hnR hdis hk1 hFc hP1 hD1
  exact k u hw H1 locs1 ls ⟨hP2, hD2, hS1⟩ hl
end S21
