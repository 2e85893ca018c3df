/-! sets of edges as numbers; ORDER by the number read from its first bit on; the search -/
def bm (s : Nat) : Nat → Bool := fun j => s.testBit j
def nkey (M : Nat → Bool) : Nat → Nat
  | 0 => 0
  | k + 1 => 2 * nkey M k + (M k).toNat
theorem nkey_cg {M M' : Nat → Bool} : ∀ {n : Nat}, (∀ j, j < n → M j = M' j) → nkey M n = nkey M' n
  | 0, _ => rfl
  | n + 1, h => by
    show 2 * nkey M n + (M n).toNat = 2 * nkey M' n + (M' n).toNat
    rw [nkey_cg (n := n) (fun j hj => h j (by omega)), h n (by omega)]
theorem nkey_lt {M M' : Nat → Bool} {e : Nat} (h : ∀ j, j < e → M j = M' j) (h1 : M e = true) (h2 : M' e = false) : ∀ {N : Nat}, e < N → nkey M' N < nkey M N
  | 0, hN => absurd hN (by omega)
  | N + 1, hN => by
    show 2 * nkey M' N + (M' N).toNat < 2 * nkey M N + (M N).toNat
    rcases Nat.lt_or_ge e N with q | q
    · have := nkey_lt h h1 h2 (N := N) q
      have := Bool.toNat_le (M' N)
      omega
    · have e1 : e = N := by omega
      subst e1
      rw [nkey_cg h, h1, h2]
      simp
theorem nkey_inj {M M' : Nat → Bool} : ∀ {n : Nat}, nkey M n = nkey M' n → ∀ j, j < n → M j = M' j
  | 0, _, j, hj => absurd hj (by omega)
  | n + 1, h, j, hj => by
    have h' : 2 * nkey M n + (M n).toNat = 2 * nkey M' n + (M' n).toNat := h
    have b1 := Bool.toNat_le (M n)
    have b2 := Bool.toNat_le (M' n)
    rcases Nat.lt_or_ge j n with q | q
    · exact nkey_inj (n := n) (by omega) j q
    · have e1 : j = n := by omega
      subst e1
      have : (M j).toNat = (M' j).toNat := by omega
      cases hM : M j <;> cases hM' : M' j <;> simp [hM, hM'] at this ⊢
theorem nkey_bd (M : Nat → Bool) : ∀ n, nkey M n < 2 ^ n
  | 0 => by simp [nkey]
  | n + 1 => by
    show 2 * nkey M n + (M n).toNat < 2 ^ (n + 1)
    have := nkey_bd M n
    have := Bool.toNat_le (M n)
    rw [Nat.pow_succ]; omega
theorem hdg_cg {x y : Nat → Nat} {Q : Nat} {M M' : Nat → Bool} (h : ∀ j, j < Q → M j = M' j) (v : Nat) : hdg x y Q M v = hdg x y Q M' v := su_cg (fun j hj => by rw [h j hj])
theorem hsz_cg {Q : Nat} {M M' : Nat → Bool} (h : ∀ j, j < Q → M j = M' j) : hsz Q M = hsz Q M' := su_cg (fun j hj => by rw [h j hj])
theorem hfa_cg {x y : Nat → Nat} {P Q : Nat} {c : Nat → Nat} {M M' : Nat → Bool} (h : ∀ j, j < Q → M j = M' j) (hf : hfa x y P Q c M) : hfa x y P Q c M' := fun v hv => by
  rw [← hdg_cg h]; exact hf v hv
/-- a number with given bits below n -/
def tob (M : Nat → Bool) : Nat → Nat
  | 0 => 0
  | k + 1 => tob M k ||| (if M k then 2 ^ k else 0)
theorem tob_bit (M : Nat → Bool) (n j : Nat) : (tob M n).testBit j = (decide (j < n) && M j) := by
  induction n with
  | zero => simp [tob]
  | succ n ih =>
    show (tob M n ||| (if M n then 2 ^ n else 0)).testBit j = _
    rw [Nat.testBit_or, ih]
    by_cases e : j = n
    · subst e
      cases hM : M j <;> simp [hM, Nat.testBit_two_pow]
    · have e2 : decide (j < n + 1) = decide (j < n) := decide_eq_decide.mpr (by omega)
      have e3 : ¬ n = j := fun h => e h.symm
      rw [e2]
      cases hM : M n
      · simp
      · simp [Nat.testBit_two_pow, e3]
theorem tob_lt (M : Nat → Bool) (n : Nat) : tob M n < 2 ^ n := by
  refine Nat.lt_pow_two_of_testBit _ (fun i hi => ?_)
  rw [tob_bit]; simp; omega
theorem bm_tob (M : Nat → Bool) {n j : Nat} (h : j < n) : bm (tob M n) j = M j := by
  show (tob M n).testBit j = M j
  rw [tob_bit]; simp [h]
theorem bm_ge {s n j : Nat} (h : s < 2 ^ n) (hj : n ≤ j) : bm s j = false := Nat.testBit_lt_two_pow (Nat.lt_of_lt_of_le h (Nat.pow_le_pow_right (by omega) hj))
theorem bm_ext {s t n : Nat} (hs : s < 2 ^ n) (ht : t < 2 ^ n) (h : ∀ j, j < n → bm s j = bm t j) : s = t := by
  refine Nat.eq_of_testBit_eq (fun j => ?_)
  rcases Nat.lt_or_ge j n with q | q
  · exact h j q
  · exact (bm_ge hs q).trans (bm_ge ht q).symm
theorem bm_or {s e : Nat} (j : Nat) : bm (s ||| 2 ^ e) j = (bm s j || decide (j = e)) := by
  show (s ||| 2 ^ e).testBit j = _
  rw [Nat.testBit_or, Nat.testBit_two_pow]
  show (s.testBit j || decide (e = j)) = (s.testBit j || decide (j = e))
  simp [eq_comm]
theorem bm_0 (j : Nat) : bm 0 j = false := Nat.zero_testBit j
theorem bm_up {s e : Nat} (h : s < 2 ^ e) : bm (s ||| 2 ^ e) = bup (bm s) e true := by
  funext j
  rw [bm_or]
  unfold bup
  by_cases q : j = e
  · simp [q]
  · simp [q]
/-- THE BEST set -/
def bst (x y : Nat → Nat) (P Q : Nat) (c : Nat → Nat) (M : Nat → Bool) : Prop := hfa x y P Q c M ∧ (∀ K, hfa x y P Q c K → hsz Q K ≤ hsz Q M) ∧ ∀ K, hfa x y P Q c K → hsz Q K = hsz Q M → nkey K Q ≤ nkey M Q
theorem bst_ex (x y : Nat → Nat) (P Q : Nat) (c : Nat → Nat) : ∃ M, bst x y P Q c M := by
  obtain ⟨M0, h0⟩ := hmx_ex x y P Q c
  obtain ⟨M, ⟨h1, h2⟩, h3⟩ := mx_ex (fun M => hfa x y P Q c M ∧ hsz Q M = hsz Q M0) (fun M => nkey M Q) (2 ^ Q) (fun M _ => Nat.le_of_lt (nkey_bd M Q)) ⟨M0, h0.1, rfl⟩
  exact ⟨M, h1, fun K hK => by rw [h2]; exact h0.2 K hK, fun K hK he => h3 K ⟨hK, by rw [he, h2]⟩⟩
theorem bst_un {x y : Nat → Nat} {P Q : Nat} {c : Nat → Nat} {M M' : Nat → Bool} (h : bst x y P Q c M) (h' : bst x y P Q c M') : ∀ j, j < Q → M j = M' j := by
  have e : hsz Q M = hsz Q M' := Nat.le_antisymm (h'.2.1 M h.1) (h.2.1 M' h'.1)
  exact nkey_inj (Nat.le_antisymm (h'.2.2 M h.1 e) (h.2.2 M' h'.1 e.symm))
/-- of edges between the same two vertices the first ones -/
def tnm (tw : Nat → Nat) (N : Nat) (M : Nat → Bool) : Prop := ∀ j, j < N → M j = true → tw j < j → M (tw j) = true
def exT (x y : Nat → Nat) (N : Nat) (c tw : Nat → Nat) (e S : Nat) (M : Nat → Bool) : Prop := hfa x y 9 N c M ∧ tnm tw N M ∧ ∀ j, j < e → M j = bm S j
def exP (x y : Nat → Nat) (N : Nat) (c tw : Nat → Nat) (en e S ct fs g fs' g' : Nat) : Prop :=
  g ≤ g' ∧ (g' = g → fs' = fs) ∧ (g < g' → fs' < 2 ^ N ∧ exT x y N c tw e S (bm fs') ∧ hsz N (bm fs') + 1 = g' ∧ ∀ M, exT x y N c tw e S M → hsz N M + 1 = g' → nkey M N ≤ nkey (bm fs') N) ∧
  (g' ≤ en → ∀ M, exT x y N c tw e S M → hsz N M + 1 ≤ g') ∧ (en < g → ct < g → fs' = fs ∧ g' = g)
/-- what stands at a call of the search -/
def exB (x y : Nat → Nat) (N : Nat) (c tw : Nat → Nat) (e S ct : Nat) : Prop := e ≤ N ∧ S < 2 ^ e ∧ hsz N (bm S) = ct ∧ hfa x y 9 N c (bm S) ∧ tnm tw N (bm S)
theorem su_sp {f g h : Nat → Nat} {n : Nat} (e : ∀ i, i < n → f i = g i + h i) : su f n = su g n + su h n := by
  rw [← su_ad]; exact su_cg e
/-- a set that goes on from S: what it has behind e -/
theorem ex_split {x y : Nat → Nat} {N : Nat} {e S : Nat} {M : Nat → Bool} (hS : S < 2 ^ e) (h : ∀ j, j < e → M j = bm S j) :
    (∀ v, hdg x y N M v = hdg x y N (bm S) v + hdg x y N (fun j => M j && decide (e ≤ j)) v) ∧ hsz N M = hsz N (bm S) + hsz N (fun j => M j && decide (e ≤ j)) := by
  have key : ∀ j, (M j).toNat = (bm S j).toNat + (M j && decide (e ≤ j)).toNat := by
    intro j
    rcases Nat.lt_or_ge j e with q | q
    · rw [h j q]; simp; omega
    · rw [bm_ge hS q]; simp [q]
  constructor
  · intro v
    refine su_sp (fun j _ => ?_)
    rw [key j, Nat.add_mul]
  · exact su_sp (fun j _ => key j)
theorem ex_same {x y : Nat → Nat} {N : Nat} {c tw : Nat → Nat} {e S : Nat} {M : Nat → Bool} (hS : S < 2 ^ e) (h : exT x y N c tw e S M) (hz : hsz N M = hsz N (bm S)) : ∀ j, j < N → M j = bm S j := by
  intro j hj
  obtain ⟨_, h2⟩ := ex_split (x := x) (y := y) (N := N) hS h.2.2
  rcases Nat.lt_or_ge j e with q | q
  · exact h.2.2 j q
  · rw [bm_ge hS q]
    have h3 : hsz N (fun j => M j && decide (e ≤ j)) = 0 := by omega
    have h4 : (M j && decide (e ≤ j)).toNat ≤ su (fun i => (M i && decide (e ≤ i)).toNat) N := su_mem (f := fun i => (M i && decide (e ≤ i)).toNat) hj
    have h3' : su (fun i => (M i && decide (e ≤ i)).toNat) N = 0 := h3
    have h5 : (M j && decide (e ≤ j)).toNat = 0 := by
      omega
    cases hM : M j
    · rfl
    · simp [hM, q] at h5
/-- no more than this can come behind e -/
theorem ex_hope {x y : Nat → Nat} {N : Nat} {c tw : Nat → Nat} {e S : Nat} {M : Nat → Bool} (hE : hok x y 9 N) (hS : S < 2 ^ e) (h : exT x y N c tw e S M) :
    hsz N M ≤ hsz N (bm S) + su (fun v => min (c v - hdg x y N (bm S) v) (su (fun j => if e ≤ j then hin x y j v else 0) N)) 9 / 2 := by
  obtain ⟨h1, h2⟩ := ex_split (x := x) (y := y) (N := N) hS h.2.2
  have hs := hdg_hs hE (fun j => M j && decide (e ≤ j))
  have hle : su (fun v => hdg x y N (fun j => M j && decide (e ≤ j)) v) 9 ≤ su (fun v => min (c v - hdg x y N (bm S) v) (su (fun j => if e ≤ j then hin x y j v else 0) N)) 9 := by
    refine su_le (fun v hv => ?_)
    have a1 := h.1 v hv
    rw [h1 v] at a1
    have a2 : hdg x y N (fun j => M j && decide (e ≤ j)) v ≤ su (fun j => if e ≤ j then hin x y j v else 0) N := by
      refine su_le (fun j _ => ?_)
      show (M j && decide (e ≤ j)).toNat * hin x y j v ≤ if e ≤ j then hin x y j v else 0
      cases hM : M j
      · simp
      · by_cases q : e ≤ j
        · simp [q]
        · simp [q]
    omega
  omega
/-- the search turns back -/
theorem ex_leaf {x y : Nat → Nat} {N : Nat} {c tw : Nat → Nat} {en e S ct fs g : Nat} (hE : hok x y 9 N) (hB : exB x y N c tw e S ct)
    (hst : e = N ∨ en < max g (ct + 1) ∨ ct + su (fun v => min (c v - hdg x y N (bm S) v) (su (fun j => if e ≤ j then hin x y j v else 0) N)) 9 / 2 < max g (ct + 1)) :
    exP x y N c tw en e S ct fs g (if g ≤ ct then S else fs) (max g (ct + 1)) := by
  obtain ⟨he, hS, hct, hf, ht⟩ := hB
  have hS' : S < 2 ^ N := Nat.lt_of_lt_of_le hS (Nat.pow_le_pow_right (by omega) he)
  refine ⟨by omega, fun h => ?_, fun h => ?_, fun h M hM => ?_, fun h1 h2 => ?_⟩
  · rw [if_neg (by omega)]
  · have hg : g ≤ ct := by omega
    rw [if_pos hg]
    refine ⟨hS', ⟨hf, ht, fun _ _ => rfl⟩, by omega, fun M hM hz => ?_⟩
    rw [nkey_cg (ex_same hS hM (by omega))]
    exact Nat.le_refl _
  · rcases hst with q | q | q
    · subst q
      have : hsz e M = hsz e (bm S) := hsz_cg hM.2.2
      omega
    · omega
    · have := ex_hope hE hS hM
      omega
  · rw [if_neg (by omega)]; exact ⟨rfl, by omega⟩
def exM (x y : Nat → Nat) (N : Nat) (c tw : Nat → Nat) (e S : Nat) : Prop := (tw e < e → bm S (tw e) = true) ∧ hdg x y N (bm S) (x e) < c (x e) ∧ hdg x y N (bm S) (y e) < c (y e)
theorem exB_on {x y : Nat → Nat} {N : Nat} {c tw : Nat → Nat} {e S ct : Nat} (hE : hok x y 9 N) (hB : exB x y N c tw e S ct) (he : e < N) (hm : exM x y N c tw e S) : exB x y N c tw (e + 1) (S ||| 2 ^ e) (ct + 1) := by
  obtain ⟨_, hS, hct, hf, ht⟩ := hB
  have hoff : bm S e = false := bm_ge hS (Nat.le_refl _)
  obtain ⟨hx, hy, hne⟩ := hE e he
  refine ⟨he, ?_, ?_, ?_, ?_⟩
  · exact Nat.or_lt_two_pow (Nat.lt_of_lt_of_le hS (Nat.pow_le_pow_right (by omega) (by omega))) (Nat.pow_lt_pow_right (by omega) (by omega))
  · rw [bm_up hS, hsz_on he hoff, hct]
  · intro v hv
    rw [bm_up hS, hdg_on he hoff, hin_ind hne]
    have := hf v hv
    have h1 := hm.2.1
    have h2 := hm.2.2
    by_cases q : v = x e
    · subst q; rw [ind_s, ind_n (p := y e) (v := x e) hne]; omega
    · rw [ind_n q]
      by_cases r : v = y e
      · subst r; rw [ind_s]; omega
      · rw [ind_n r]; omega
  · intro j hj hon hlt
    rw [bm_or] at hon ⊢
    by_cases q : j = e
    · subst q
      rw [hm.1 hlt]; rfl
    · simp only [q, decide_false, Bool.or_false] at hon
      rw [ht j hj hon hlt]; rfl
theorem exB_off {x y : Nat → Nat} {N : Nat} {c tw : Nat → Nat} {e S ct : Nat} (hB : exB x y N c tw e S ct) (he : e < N) : exB x y N c tw (e + 1) S ct :=
  ⟨he, Nat.lt_of_lt_of_le hB.2.1 (Nat.pow_le_pow_right (by omega) (by omega)), hB.2.2.1, hB.2.2.2.1, hB.2.2.2.2⟩
/-- one edge: with it, then without -/
theorem ex_node {x y : Nat → Nat} {N : Nat} {c tw : Nat → Nat} {en e S ct fs g fs1 g1 fs2 g2 fs3 g3 : Nat} (hE : hok x y 9 N) (hB : exB x y N c tw e S ct) (he : e < N)
    (hf1 : fs1 = if g ≤ ct then S else fs) (hg1 : g1 = max g (ct + 1)) (hen : g1 ≤ en)
    (hon : exM x y N c tw e S → exP x y N c tw en (e + 1) (S ||| 2 ^ e) (ct + 1) fs1 g1 fs2 g2) (hno : ¬ exM x y N c tw e S → fs2 = fs1 ∧ g2 = g1)
    (hoff : exP x y N c tw en (e + 1) S ct fs2 g2 fs3 g3) : exP x y N c tw en e S ct fs g fs3 g3 := by
  obtain ⟨_, hS, hct, hf, ht⟩ := hB
  have hS' : S < 2 ^ N := Nat.lt_of_lt_of_le hS (Nat.pow_le_pow_right (by omega) (by omega))
  have hoffe : bm S e = false := bm_ge hS (Nat.le_refl _)
  -- where a set that goes on from S lies
  have hin1 : ∀ M, exT x y N c tw e S M → M e = true → exM x y N c tw e S ∧ exT x y N c tw (e + 1) (S ||| 2 ^ e) M := by
    intro M hM hMe
    obtain ⟨q1, q2⟩ := ex_split (x := x) (y := y) (N := N) hS hM.2.2
    have hpos : ∀ v, (x e = v ∨ y e = v) → 1 ≤ hdg x y N (fun j => M j && decide (e ≤ j)) v := by
      intro v hv
      have := su_mem (f := fun j => (M j && decide (e ≤ j)).toNat * hin x y j v) he
      simp only [hMe, hin_or hv, Nat.le_refl, decide_true, Bool.and_self, Bool.toNat_true] at this
      exact this
    obtain ⟨hx, hy, hne⟩ := hE e he
    refine ⟨⟨fun hlt => ?_, ?_, ?_⟩, hM.1, hM.2.1, fun j hj => ?_⟩
    · rw [← hM.2.2 _ hlt]; exact hM.2.1 e he hMe hlt
    · have a1 := hM.1 _ hx
      have a2 := hpos (x e) (Or.inl rfl)
      rw [q1] at a1; omega
    · have a1 := hM.1 _ hy
      have a2 := hpos (y e) (Or.inr rfl)
      rw [q1] at a1; omega
    · rw [bm_or]
      by_cases q : j = e
      · subst q; simp [hMe]
      · rw [hM.2.2 j (by omega)]; simp [q]
  have hin0 : ∀ M, exT x y N c tw e S M → M e = false → exT x y N c tw (e + 1) S M := by
    intro M hM hMe
    refine ⟨hM.1, hM.2.1, fun j hj => ?_⟩
    by_cases q : j = e
    · subst q; rw [hMe, hoffe]
    · exact hM.2.2 j (by omega)
  have hout1 : ∀ M, exT x y N c tw (e + 1) (S ||| 2 ^ e) M → exT x y N c tw e S M ∧ M e = true := by
    intro M hM
    refine ⟨⟨hM.1, hM.2.1, fun j hj => ?_⟩, ?_⟩
    · rw [hM.2.2 j (by omega), bm_or]; simp; omega
    · rw [hM.2.2 e (by omega), bm_or]; simp
  have hout0 : ∀ M, exT x y N c tw (e + 1) S M → exT x y N c tw e S M ∧ M e = false := fun M hM =>
    ⟨⟨hM.1, hM.2.1, fun j hj => hM.2.2 j (by omega)⟩, by rw [hM.2.2 e (by omega), hoffe]⟩
  have hST : exT x y N c tw e S (bm S) := ⟨hf, ht, fun _ _ => rfl⟩
  obtain ⟨c1, c2, c3, c4, c5⟩ := hoff
  -- the first of the two
  have d1 : g1 ≤ g2 := by
    by_cases hm : exM x y N c tw e S
    · exact (hon hm).1
    · exact Nat.le_of_eq (hno hm).2.symm
  have d2 : g2 = g1 → fs2 = fs1 := by
    by_cases hm : exM x y N c tw e S
    · exact (hon hm).2.1
    · exact fun _ => (hno hm).1
  have d3 : g1 < g2 → fs2 < 2 ^ N ∧ exT x y N c tw (e + 1) (S ||| 2 ^ e) (bm fs2) ∧ hsz N (bm fs2) + 1 = g2 ∧ ∀ M, exT x y N c tw (e + 1) (S ||| 2 ^ e) M → hsz N M + 1 = g2 → nkey M N ≤ nkey (bm fs2) N := by
    by_cases hm : exM x y N c tw e S
    · exact (hon hm).2.2.1
    · exact fun h => absurd h (by rw [(hno hm).2]; omega)
  have d4 : g2 ≤ en → ∀ M, exT x y N c tw e S M → M e = true → hsz N M + 1 ≤ g2 := by
    intro h M hM hMe
    obtain ⟨hm, hM'⟩ := hin1 M hM hMe
    exact (hon hm).2.2.2.1 h M hM'
  refine ⟨by omega, fun h => ?_, fun h => ?_, fun h M hM => ?_, fun h1 h2 => absurd hen (by omega)⟩
  · have e1 : g3 = g2 := by omega
    have e2 : g2 = g1 := by omega
    rw [c2 e1, d2 e2, hf1, if_neg (by omega)]
  · by_cases h3 : g2 < g3
    · obtain ⟨k1, k2, k3, k4⟩ := c3 h3
      refine ⟨k1, (hout0 _ k2).1, k3, fun M hM hz => ?_⟩
      cases hMe : M e with
      | false => exact k4 M (hin0 M hM hMe) hz
      | true =>
        by_cases hen2 : g2 ≤ en
        · have := d4 hen2 M hM hMe; omega
        · have := c5 (by omega) (by omega); omega
    · have e1 : g3 = g2 := by omega
      have e2 := c2 e1
      by_cases h4 : g1 < g2
      · obtain ⟨k1, k2, k3, k4⟩ := d3 h4
        rw [e2, e1]
        refine ⟨k1, (hout1 _ k2).1, k3, fun M hM hz => ?_⟩
        cases hMe : M e with
        | true => exact k4 M (hin1 M hM hMe).2 hz
        | false =>
          refine Nat.le_of_lt (nkey_lt (e := e) (fun j hj => ?_) (hout1 _ k2).2 hMe he)
          rw [hM.2.2 j hj, (hout1 _ k2).1.2.2 j hj]
      · have e3 : g2 = g1 := by omega
        have hg : g ≤ ct := by omega
        rw [e2, d2 e3, hf1, if_pos hg, e1, e3]
        refine ⟨hS', hST, by omega, fun M hM hz => ?_⟩
        rw [nkey_cg (ex_same hS hM (by omega))]
        exact Nat.le_refl _
  · cases hMe : M e with
    | false => exact c4 h M (hin0 M hM hMe)
    | true =>
      have := d4 (by omega) M hM hMe
      omega
theorem bst_tnm {x y : Nat → Nat} {P N : Nat} {c tw : Nat → Nat} {M : Nat → Bool} (htw : ∀ j, j < N → tw j < j → x (tw j) = x j ∧ y (tw j) = y j) (h : bst x y P N c M) : tnm tw N M := by
  intro j hj hMj hlt
  refine Classical.byContradiction (fun hn => ?_)
  have hMi : M (tw j) = false := by cases q : M (tw j) <;> simp [q] at hn ⊢
  obtain ⟨e1, e2⟩ := htw j hj hlt
  have hi : tw j < N := by omega
  have hne : tw j ≠ j := by omega
  have hMi' : (bup M j false) (tw j) = false := by unfold bup; rw [if_neg hne]; exact hMi
  have hin' : ∀ v, hin x y (tw j) v = hin x y j v := fun v => by unfold hin; rw [e1, e2]
  have hf : hfa x y P N c (bup (bup M j false) (tw j) true) := by
    intro v hv
    rw [hdg_on hi hMi', hin', hdg_off hj hMj]
    exact h.1 v hv
  have hz : hsz N (bup (bup M j false) (tw j) true) = hsz N M := by
    rw [hsz_on hi hMi', hsz_off hj hMj]
  have hk := h.2.2 _ hf hz
  have : nkey M N < nkey (bup (bup M j false) (tw j) true) N := by
    refine nkey_lt (e := tw j) (fun i hi2 => ?_) ?_ hMi hi
    · unfold bup; rw [if_neg (by omega), if_neg (by omega)]
    · unfold bup; rw [if_pos rfl]
  omega
theorem ex_all {x y : Nat → Nat} {N : Nat} {c tw : Nat → Nat} {M : Nat → Bool} (htw : ∀ j, j < N → tw j < j → x (tw j) = x j ∧ y (tw j) = y j) (h : bst x y 9 N c M) : exT x y N c tw 0 0 M :=
  ⟨h.1, bst_tnm htw h, fun j hj => absurd hj (by omega)⟩
theorem exB_0 (x y : Nat → Nat) (N : Nat) (c tw : Nat → Nat) : exB x y N c tw 0 0 0 := by
  have hb : ∀ j, bm 0 j = false := bm_0
  refine ⟨by omega, by decide, ?_, ?_, ?_⟩
  · exact su_z (fun j _ => by rw [hb]; rfl)
  · intro v _
    rw [hdg, su_z (fun j _ => by rw [hb]; simp)]
    exact Nat.zero_le _
  · intro j _ h
    rw [hb] at h; cases h
theorem ex_best {x y : Nat → Nat} {N : Nat} {c tw : Nat → Nat} {fs' g' : Nat} (htw : ∀ j, j < N → tw j < j → x (tw j) = x j ∧ y (tw j) = y j) (h : exP x y N c tw N 0 0 0 0 1 fs' g') : fs' < 2 ^ N ∧ bst x y 9 N c (bm fs') ∧ hsz N (bm fs') + 1 = g' := by
  obtain ⟨B, hB⟩ := bst_ex x y 9 N c
  have hT := ex_all htw hB
  obtain ⟨h1, h2, h3, h4, _⟩ := h
  have hzN := hsz_le N B
  have key : ∀ M, hfa x y 9 N c M → hsz N M ≤ hsz N B := hB.2.1
  by_cases q : 1 < g'
  · obtain ⟨k1, k2, k3, k4⟩ := h3 q
    have hmax : hsz N B ≤ hsz N (bm fs') := by
      by_cases r : g' ≤ N
      · have := h4 r B hT; omega
      · omega
    have heq : hsz N B = hsz N (bm fs') := Nat.le_antisymm hmax (key _ k2.1)
    refine ⟨k1, ⟨k2.1, fun K hK => by rw [← heq]; exact key K hK, fun K hK hz => ?_⟩, k3⟩
    exact Nat.le_trans (hB.2.2 K hK (by rw [hz, heq])) (k4 B hT (by rw [heq]; exact k3))
  · have e1 : g' = 1 := by omega
    have e2 := h2 e1
    have h0 : hsz N (bm 0) = 0 := (exB_0 x y N c tw).2.2.1
    have hf0 := (exB_0 x y N c tw).2.2.2.1
    have hz0 : hsz N B = 0 := by
      by_cases r : g' ≤ N
      · have := h4 r B hT; omega
      · omega
    have hall : ∀ K, hfa x y 9 N c K → ∀ j, j < N → K j = bm 0 j := by
      intro K hK j hj
      have a1 := key K hK
      have a2 := su_mem (f := fun i => (K i).toNat) hj
      have a3 : (K j).toNat = 0 := by unfold hsz at a1 hz0; omega
      rw [bm_0]
      cases hk : K j
      · rfl
      · rw [hk] at a3; cases a3
    rw [e2, e1]
    refine ⟨Nat.two_pow_pos N, ⟨hf0, fun K hK => ?_, fun K hK _ => ?_⟩, by omega⟩
    · have := key K hK; omega
    · rw [nkey_cg (hall K hK)]; exact Nat.le_refl _
theorem ex_reach {x y : Nat → Nat} {N : Nat} {c tw : Nat → Nat} {tg fs' g' : Nat} (htw : ∀ j, j < N → tw j < j → x (tw j) = x j ∧ y (tw j) = y j) (h : exP x y N c tw tg 0 0 0 0 tg fs' g') : tg < g' ↔ ∃ M, hfa x y 9 N c M ∧ tg ≤ hsz N M := by
  obtain ⟨h1, h2, h3, h4, _⟩ := h
  constructor
  · intro q
    obtain ⟨k1, k2, k3, k4⟩ := h3 q
    exact ⟨_, k2.1, by omega⟩
  · rintro ⟨M, hM, hz⟩
    refine Nat.lt_of_not_le (fun q => ?_)
    obtain ⟨B, hB⟩ := bst_ex x y 9 N c
    have a1 := h4 q B (ex_all htw hB)
    have a2 := hB.2.1 M hM
    omega
