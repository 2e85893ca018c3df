/-! numbers: what the walker's rows need -/
def ndf (a b : Nat) : Nat := a ^^^ (a &&& b)
theorem inc1 (a : Nat) : nI a + Int32.ofInt 1 = nI (a + 1) := nI_1 a
theorem inc3 (a : Nat) : nI a + Int32.ofInt 3 = nI (a + 3) := nI_add a 3
theorem dec1 {a : Nat} (h : 0 < a) : nI a + Int32.ofInt (-1) = nI (a - 1) := by
  obtain ⟨b, rfl⟩ : ∃ b, a = b + 1 := ⟨a - 1, by omega⟩
  exact pk_m1 b
theorem nx_and' (a b : Nat) : nI a &&& nI b = nI (a &&& b) := by
  apply Int32.toBitVec_inj.1
  show BitVec.ofNat 32 a &&& BitVec.ofNat 32 b = BitVec.ofNat 32 (a &&& b)
  apply BitVec.eq_of_getLsbD_eq
  intro i hi
  simp [hi]
theorem nx_or' (a b : Nat) : nI a ||| nI b = nI (a ||| b) := by
  apply Int32.toBitVec_inj.1
  show BitVec.ofNat 32 a ||| BitVec.ofNat 32 b = BitVec.ofNat 32 (a ||| b)
  apply BitVec.eq_of_getLsbD_eq
  intro i hi
  simp [hi]
theorem nx_xor' (a b : Nat) : nI a ^^^ nI b = nI (a ^^^ b) := by
  apply Int32.toBitVec_inj.1
  show BitVec.ofNat 32 a ^^^ BitVec.ofNat 32 b = BitVec.ofNat 32 (a ^^^ b)
  apply BitVec.eq_of_getLsbD_eq
  intro i hi
  simp [hi]
theorem ndf_bit (a b i : Nat) : (ndf a b).testBit i = (a.testBit i && !b.testBit i) := by
  unfold ndf
  rw [Nat.testBit_xor, Nat.testBit_and]
  cases a.testBit i <;> cases b.testBit i <;> rfl
theorem nx_ndf (a b : Nat) : nI a &&& (nI b ^^^ (-1)) = nI (ndf a b) := by
  apply Int32.toBitVec_inj.1
  show BitVec.ofNat 32 a &&& (BitVec.ofNat 32 b ^^^ (-1 : Int32).toBitVec) = BitVec.ofNat 32 (ndf a b)
  have e : (-1 : Int32).toBitVec = BitVec.allOnes 32 := by decide
  rw [e]
  apply BitVec.eq_of_getLsbD_eq
  intro i hi
  rw [BitVec.getLsbD_and, BitVec.getLsbD_xor, BitVec.getLsbD_ofNat, BitVec.getLsbD_ofNat, BitVec.getLsbD_ofNat, BitVec.getLsbD_allOnes, ndf_bit]
  simp [hi]
theorem s_l' : ∀ n, n < 32 → ((nI n &&& 31).toBitVec.smod 32).toNat = n := by decide +kernel
theorem nx_shr {a k : Nat} (ha : a < 2 ^ 31) (hk : k < 32) : nI a >>> (nI k &&& 31) = nI (a >>> k) := by
  rw [pk_shrN ha _ k (s_l' k hk), Nat.shiftRight_eq_div_pow]
theorem nx_shl1 {k : Nat} (hk : k < 32) : nI 1 <<< (nI k &&& 31) = nI (2 ^ k) := by
  rw [pk_shlN _ k (s_l' k hk) (by rw [Nat.one_mul]; exact Nat.pow_lt_pow_right (by decide) hk), Nat.one_mul]
theorem shr_bit (a k : Nat) : (a >>> k) &&& 1 = (bm a k).toNat := by
  show _ = (a.testBit k).toNat
  rw [Nat.testBit, Nat.and_one_is_mod]
  have h : (1 &&& (a >>> k)) = (a >>> k) % 2 := by rw [Nat.and_comm, Nat.and_one_is_mod]
  rw [h]
  rcases Nat.mod_two_eq_zero_or_one (a >>> k) with q | q <;> rw [q] <;> rfl
theorem bmT {b : Bool} : b.toNat = 1 ↔ b = true := by cases b <;> simp
theorem bmF {b : Bool} : b.toNat = 0 ↔ b = false := by cases b <;> simp
theorem bt31 (b : Bool) : b.toNat < 2 ^ 31 := by cases b <;> decide
section S22
variable {E : EnvT} {nL : Nat} {Q : State → Prop} {cells slots : Nat} {Φ : Heap → List Loc → Prop} {lv : List (Nat × Value)} {st : List Value} {pc : Nat} {cc : ByteArray} {own : String} {D : va_G} {cA : ClassId} {d mR sR a b k : Nat}
theorem s_iaddN (C : Cx E cc own nL D cA d mR sR) (dg : decode cc pc = .ok (.iadd, 1)) (kk : ST E nL Q cells slots Φ lv (.int (nI (a + b)) :: st) (pc + 1)) : ST E nL Q cells slots Φ lv (.int (nI b) :: .int (nI a) :: st) pc := s_iadd C dg (s_top (nI_add a b) kk)
theorem s_isubN (C : Cx E cc own nL D cA d mR sR) (dg : decode cc pc = .ok (.isub, 1)) (h : b ≤ a) (kk : ST E nL Q cells slots Φ lv (.int (nI (a - b)) :: st) (pc + 1)) : ST E nL Q cells slots Φ lv (.int (nI b) :: .int (nI a) :: st) pc := s_isub C dg (s_top (pk_sub h) kk)
theorem s_imulN (C : Cx E cc own nL D cA d mR sR) (dg : decode cc pc = .ok (.imul, 1)) (kk : ST E nL Q cells slots Φ lv (.int (nI (a * b)) :: st) (pc + 1)) : ST E nL Q cells slots Φ lv (.int (nI b) :: .int (nI a) :: st) pc := s_imul C dg (s_top (pk_mul a b) kk)
theorem s_iandN (C : Cx E cc own nL D cA d mR sR) (dg : decode cc pc = .ok (.iand, 1)) (kk : ST E nL Q cells slots Φ lv (.int (nI (a &&& b)) :: st) (pc + 1)) : ST E nL Q cells slots Φ lv (.int (nI b) :: .int (nI a) :: st) pc := s_iand C dg (s_top (nx_and' a b) kk)
theorem s_iorN (C : Cx E cc own nL D cA d mR sR) (dg : decode cc pc = .ok (.ior, 1)) (kk : ST E nL Q cells slots Φ lv (.int (nI (a ||| b)) :: st) (pc + 1)) : ST E nL Q cells slots Φ lv (.int (nI b) :: .int (nI a) :: st) pc := s_ior C dg (s_top (nx_or' a b) kk)
theorem s_ixorN (C : Cx E cc own nL D cA d mR sR) (dg : decode cc pc = .ok (.ixor, 1)) (kk : ST E nL Q cells slots Φ lv (.int (nI (a ^^^ b)) :: st) (pc + 1)) : ST E nL Q cells slots Φ lv (.int (nI b) :: .int (nI a) :: st) pc := s_ixor C dg (s_top (nx_xor' a b) kk)
theorem s_shl1 (C : Cx E cc own nL D cA d mR sR) (dg : decode cc pc = .ok (.ishl, 1)) (h : k < 32) (kk : ST E nL Q cells slots Φ lv (.int (nI (2 ^ k)) :: st) (pc + 1)) : ST E nL Q cells slots Φ lv (.int (nI k) :: .int (nI 1) :: st) pc := s_ishl C dg (s_top (nx_shl1 h) kk)
theorem s_ishrN (C : Cx E cc own nL D cA d mR sR) (dg : decode cc pc = .ok (.ishr, 1)) (ha : a < 2 ^ 31) (h : k < 32) (kk : ST E nL Q cells slots Φ lv (.int (nI (a >>> k)) :: st) (pc + 1)) : ST E nL Q cells slots Φ lv (.int (nI k) :: .int (nI a) :: st) pc := s_ishr C dg (s_top (nx_shr ha h) kk)
theorem s_bitN (C : Cx E cc own nL D cA d mR sR) (dg : decode cc pc = .ok (.iand, 1)) (kk : ST E nL Q cells slots Φ lv (.int (nI (bm a k).toNat) :: st) (pc + 1)) : ST E nL Q cells slots Φ lv (.int (nI 1) :: .int (nI (a >>> k)) :: st) pc := s_iand C dg (s_top (by rw [nx_and', shr_bit]) kk)
theorem s_idivN (C : Cx E cc own nL D cA d mR sR) (dg : decode cc pc = .ok (.idiv, 1)) (ha : a < 2 ^ 31) (hb : 0 < b) (hb2 : b < 2 ^ 31) (kk : ST E nL Q cells slots Φ lv (.int (nI (a / b)) :: st) (pc + 1)) : ST E nL Q cells slots Φ lv (.int (nI b) :: .int (nI a) :: st) pc := s_idiv C dg (nI_ne0 hb hb2) (s_top (pk_div ha hb hb2) kk)
theorem s_andnot (C : Cx E cc own nL D cA d mR sR) (dg : decode cc pc = .ok (.iand, 1)) (kk : ST E nL Q cells slots Φ lv (.int (nI (ndf a b)) :: st) (pc + 1)) : ST E nL Q cells slots Φ lv (.int (nI b ^^^ (-1)) :: .int (nI a) :: st) pc := s_iand C dg (s_top (nx_ndf a b) kk)
end S22
/-! arrays of numbers -/
def aN (f : Nat → Nat) : Nat → Int32 := fun j => nI (f j)
def nup (f : Nat → Nat) (k x : Nat) : Nat → Nat := fun j => if j = k then x else f j
theorem aN_up (f : Nat → Nat) (k x : Nat) : upd (aN f) k (nI x) = aN (nup f k x) := by
  funext j
  unfold upd aN nup
  by_cases h : j = k
  · simp [h]
  · simp [h]
theorem nup_s (f : Nat → Nat) (k x : Nat) : nup f k x k = x := if_pos rfl
theorem nup_n {f : Nat → Nat} {k x j : Nat} (h : j ≠ k) : nup f k x j = f j := if_neg h
theorem aN_0 : (fun _ => (0 : Int32)) = aN (fun _ => 0) := by
  funext j
  exact nI_0.symm
theorem vp_cg {cA : ClassId} {n : Nat} {f g : Nat → Int32} (h : ∀ j, j < n → f j = g j) : vp_cell cA (n, .inl f) = vp_cell cA (n, .inl g) := by
  show arrV cA n (fun j => .int (f j)) = arrV cA n (fun j => .int (g j))
  unfold arrV
  congr 2
  funext j
  show Value.int (f j.val) = Value.int (g j.val)
  rw [h j.val j.isLt]
section S23
variable {E : EnvT} {nL : Nat} {Q : State → Prop} {cells slots : Nat} {lv : List (Nat × Value)} {st : List Value} {pc : Nat} {cc : ByteArray} {own : String} {D : va_G} {cA : ClassId} {d mR sR : Nat}
theorem s_arr {A : Nat → Prop} {ws : va_W} {a n : Nat} {f : Nat → Int32} (g : Nat → Int32) (q0 : Nat) (ws' : va_W) (ha : ws[q0]? = some (a, .inl (cA, n, .inl f))) (h : ∀ j, j < n → f j = g j) (hw : ws.set q0 (a, .inl (cA, n, .inl g)) = ws') (k : ST E nL Q cells slots (wf E A D ws') lv st pc) : ST E nL Q cells slots (wf E A D ws) lv st pc := by
  intro H locs ls hq hl
  refine k H locs ls ⟨?_, ?_, hq.2.2⟩ hl
  · rw [← hw]
    refine hq.1.set hq.2.1 ha ?_ (fun _ _ => rfl)
    have h0 : H[a]? = some (vp_cell cA (n, .inl f)) := hq.1 q0 _ ha
    show H[a]? = some (vp_cell cA (n, .inl g))
    rw [h0, vp_cg h]
  · rw [← hw]
    exact hq.2.1.set ha
theorem s_iastN {A : Nat → Prop} {ws : va_W} {a n j x : Nat} {f : Nat → Nat} (q0 : Nat) (ws' : va_W) (C : Cx E cc own nL D cA d mR sR) (dg : decode cc pc = .ok (.iastore, 1)) (ha : ws[q0]? = some (a, .inl (cA, n, .inl (aN f)))) (hj : j < n) (hn : n < 2 ^ 31) (hw : ws.set q0 (a, .inl (cA, n, .inl (aN (nup f j x)))) = ws')
    (kk : ST E nL Q cells slots (wf E A D ws') lv st (pc + 1)) : ST E nL Q cells slots (wf E A D ws) lv (.int (nI x) :: .int (nI j) :: .ref a :: st) pc :=
  s_iast q0 _ C dg ha hj hn rfl (by rw [aN_up, hw]; exact kk)
theorem s_ialdN {Φ : Heap → List Loc → Prop} {ws : va_W} {a n j : Nat} {f : Nat → Nat} (q0 : Nat) (C : Cx E cc own nL D cA d mR sR) (hΦ : ∀ H locs, Φ H locs → va_P D cls ws H) (dg : decode cc pc = .ok (.iaload, 1)) (ha : ws[q0]? = some (a, .inl (cA, n, .inl (aN f)))) (hj : j < n) (hn : n < 2 ^ 31)
    (kk : ST E nL Q cells slots Φ lv (.int (nI (f j)) :: st) (pc + 1)) : ST E nL Q cells slots Φ lv (.int (nI j) :: .ref a :: st) pc :=
  s_iald q0 C hΦ dg ha hj hn kk
end S23
/-- a number that is a place below n -/
def inR (x : Int32) (n : Nat) : Prop := ∃ j : Nat, j < n ∧ x = nI j
theorem inR_no1 {x : Int32} {n : Nat} (h : x < 0) (hn : n < 2 ^ 31) : ¬ inR x n := by
  rintro ⟨j, hj, rfl⟩
  exact nI_pos (by omega) h
theorem inR_no2 {x : Int32} {n : Nat} (h : nI n ≤ x) (hn : n < 2 ^ 31) : ¬ inR x n := by
  rintro ⟨j, hj, rfl⟩
  exact nI_ge hj hn h
theorem inR_yes {x : Int32} {n : Nat} (h : ¬ x < 0) (h2 : ¬ nI n ≤ x) (hn : n < 2 ^ 31) : inR x n := by
  rcases pk_ix x hn with q | q | q
  · exact absurd q h
  · exact absurd q h2
  · exact q
