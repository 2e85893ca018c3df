/-! edges inside a set, by the table's own way -/
def pm (fi se : Nat → Nat) (e : Nat) : Nat := 2 ^ fi e ||| 2 ^ se e
noncomputable def mtb (k p s : Nat) : Bool := @decide (∀ j, j < 9 → (j < k → bm p j = true → bm s j = true) ∧ (k ≤ j → bm p j = bm s j)) (Classical.propDecidable _)
theorem mtb_iff {k p s : Nat} : mtb k p s = true ↔ ∀ j, j < 9 → (j < k → bm p j = true → bm s j = true) ∧ (k ≤ j → bm p j = bm s j) := @decide_eq_true_iff _ (Classical.propDecidable _)
noncomputable def zt (fi se : Nat → Nat) (m k s : Nat) : Nat := su (fun e => (mtb k (pm fi se e) s).toNat) m
theorem bool_iff {a b : Bool} (h : a = true ↔ b = true) : a = b := by cases a <;> cases b <;> simp at h ⊢
theorem zt_off {fi se : Nat → Nat} {m k s : Nat} (h : bm s k = false) : zt fi se m (k + 1) s = zt fi se m k s := by
  refine su_cg (fun e _ => ?_)
  congr 1
  refine bool_iff ?_
  rw [mtb_iff, mtb_iff]
  constructor
  · intro q j hj
    obtain ⟨q1, q2⟩ := q j hj
    refine ⟨fun h1 => q1 (by omega), fun h1 => ?_⟩
    by_cases z : j = k
    · subst z
      cases y : bm (pm fi se e) j
      · exact h.symm
      · exact (q1 (by omega) y).symm
    · exact q2 (by omega)
  · intro q j hj
    obtain ⟨q1, q2⟩ := q j hj
    refine ⟨fun h1 h2 => ?_, fun h1 => q2 (by omega)⟩
    by_cases z : j = k
    · subst z
      rw [← q2 (Nat.le_refl _)]; exact h2
    · exact q1 (by omega) h2
theorem zt_on {fi se : Nat → Nat} {m k s : Nat} (hk : k < 9) (h : bm s k = true) : zt fi se m (k + 1) s = zt fi se m k s + zt fi se m k (s ^^^ 2 ^ k) := by
  unfold zt
  rw [← su_ad]
  refine su_cg (fun e _ => ?_)
  have hx : ∀ j, bm (s ^^^ 2 ^ k) j = (bm s j ^^ decide (j = k)) := fun j => by rw [bm_xor, bm_pow]
  generalize pm fi se e = p
  cases y : bm p k
  · have z1 : mtb k p s = false := by
      cases z : mtb k p s
      · rfl
      · have := (mtb_iff.mp z k hk).2 (Nat.le_refl _)
        rw [y, h] at this; cases this
    have z2 : mtb (k + 1) p s = mtb k p (s ^^^ 2 ^ k) := by
      refine bool_iff ?_
      rw [mtb_iff, mtb_iff]
      constructor
      · intro q j hj
        obtain ⟨q1, q2⟩ := q j hj
        rw [hx j]
        by_cases z : j = k
        · subst z
          refine ⟨fun h1 => absurd h1 (by omega), fun _ => ?_⟩
          rw [y, h]; simp
        · simp only [z, decide_false, Bool.xor_false]
          exact ⟨fun h1 => q1 (by omega), fun h1 => q2 (by omega)⟩
      · intro q j hj
        obtain ⟨q1, q2⟩ := q j hj
        rw [hx j] at q1 q2
        by_cases z : j = k
        · subst z
          exact ⟨fun _ h2 => absurd h2 (by rw [y]; decide), fun h1 => absurd h1 (by omega)⟩
        · simp only [z, decide_false, Bool.xor_false] at q1 q2
          exact ⟨fun h1 => q1 (by omega), fun h1 => q2 (by omega)⟩
    rw [z1, z2]; simp
  · have z1 : mtb k p (s ^^^ 2 ^ k) = false := by
      cases z : mtb k p (s ^^^ 2 ^ k)
      · rfl
      · have := (mtb_iff.mp z k hk).2 (Nat.le_refl _)
        rw [y, hx k, h] at this; simp at this
    have z2 : mtb (k + 1) p s = mtb k p s := by
      refine bool_iff ?_
      rw [mtb_iff, mtb_iff]
      constructor
      · intro q j hj
        obtain ⟨q1, q2⟩ := q j hj
        refine ⟨fun h1 => q1 (by omega), fun h1 => ?_⟩
        by_cases z : j = k
        · subst z; rw [y, h]
        · exact q2 (by omega)
      · intro q j hj
        obtain ⟨q1, q2⟩ := q j hj
        refine ⟨fun h1 h2 => ?_, fun h1 => q2 (by omega)⟩
        by_cases z : j = k
        · subst z; exact h
        · exact q1 (by omega) h2
    rw [z1, z2]; simp
theorem bm_pm (fi se : Nat → Nat) (e j : Nat) : bm (pm fi se e) j = (decide (j = fi e) || decide (j = se e)) := by
  unfold pm; rw [bm_orr, bm_pow, bm_pow]
theorem zt_0 {fi se : Nat → Nat} {n m s : Nat} (hn : n ≤ 9) (hfs : hok fi se n m) (hs : s < 2 ^ n) : zt fi se m 0 s = su (fun e => if pm fi se e = s then 1 else 0) m := by
  refine su_cg (fun e he => ?_)
  obtain ⟨x1, x2, _⟩ := hfs e he
  by_cases q : pm fi se e = s
  · rw [if_pos q, q]
    have : mtb 0 s s = true := mtb_iff.mpr (fun j _ => ⟨fun h => absurd h (by omega), fun _ => rfl⟩)
    rw [this]; rfl
  · rw [if_neg q]
    have : mtb 0 (pm fi se e) s = false := by
      cases z : mtb 0 (pm fi se e) s
      · rfl
      · refine absurd (bm_ext (n := 9) (bm_lt (fun i hi => ?_)) (Nat.lt_of_lt_of_le hs (p2_le hn)) (fun j hj => (mtb_iff.mp z j hj).2 (Nat.zero_le _))) q
        rw [bm_pm] at hi
        simp at hi
        omega
    rw [this]; rfl
theorem zt_n {fi se : Nat → Nat} {n m s : Nat} (hn : n ≤ 9) (hfs : hok fi se n m) (hs : s < 2 ^ n) : zt fi se m n s = ins fi se m s := by
  refine su_cg (fun e he => ?_)
  obtain ⟨x1, x2, _⟩ := hfs e he
  congr 1
  refine bool_iff ?_
  rw [mtb_iff, Bool.and_eq_true]
  constructor
  · intro q
    exact ⟨(q (fi e) (by omega)).1 x1 (by rw [bm_pm]; simp), (q (se e) (by omega)).1 x2 (by rw [bm_pm]; simp)⟩
  · rintro ⟨q1, q2⟩ j hj
    rw [bm_pm]
    refine ⟨fun _ h => ?_, fun h => ?_⟩
    · simp at h
      rcases h with h | h
      · rw [h]; exact q1
      · rw [h]; exact q2
    · rw [bm_ge hs h]; simp; omega
theorem xor_lt {i v n : Nat} (hi : i < 2 ^ n) (hb : bm i v = true) : i ^^^ 2 ^ v < i ∧ i ^^^ 2 ^ v < 2 ^ n := by
  have hv := lt_bm hi hb
  have h1 : i ^^^ 2 ^ v < 2 ^ n := bm_lt (fun j hj => by
    rw [bm_xor, bm_pow] at hj
    by_cases z : j = v
    · omega
    · simp only [z, decide_false, Bool.xor_false] at hj
      exact lt_bm hi hj)
  refine ⟨?_, h1⟩
  have e1 : i = (i ^^^ 2 ^ v) ||| 2 ^ v := Nat.eq_of_testBit_eq (fun j => by
    rw [Nat.testBit_or, Nat.testBit_xor, Nat.testBit_two_pow]
    by_cases z : v = j
    · subst z
      have : i.testBit v = true := hb
      rw [this]; simp
    · simp [z])
  refine Nat.lt_of_le_of_ne ?_ (fun q => ?_)
  · conv => rhs; rw [e1]
    exact Nat.left_le_or
  · have : bm (i ^^^ 2 ^ v) v = bm i v := by rw [q]
    rw [bm_xor, bm_pow, hb] at this
    simp at this
theorem or_add {low v : Nat} (h : low < 2 ^ v) : low ||| 2 ^ v = 2 ^ v + low := by
  have := Nat.two_pow_add_eq_or_of_lt h 1
  rw [Nat.mul_one] at this
  rw [this, Nat.or_comm]
theorem adj_up {fi se : Nat → Nat} {e a b : Nat} : adj fi se (e + 1) a b ↔ adj fi se e a b ∨ ((fi e = a ∧ se e = b) ∨ (fi e = b ∧ se e = a)) := by
  constructor
  · rintro ⟨j, hj, q⟩
    by_cases z : j = e
    · subst z; exact Or.inr q
    · exact Or.inl ⟨j, by omega, q⟩
  · rintro (⟨j, hj, q⟩ | q)
    · exact ⟨j, by omega, q⟩
    · exact ⟨e, by omega, q⟩
theorem near_up {fi se nr : Nat → Nat} {e : Nat} (hne : fi e ≠ se e) (h : ∀ v, v < 9 → ∀ c, bm (nr v) c = true ↔ adj fi se e v c) :
    ∀ v, v < 9 → ∀ c, bm (nup (nup nr (fi e) (nr (fi e) ||| 2 ^ se e)) (se e) (nup nr (fi e) (nr (fi e) ||| 2 ^ se e) (se e) ||| 2 ^ fi e) v) c = true ↔ adj fi se (e + 1) v c := by
  intro v hv c
  rw [adj_up, ← h v hv c]
  by_cases q : v = se e
  · subst q
    rw [nup_s, nup_n (Ne.symm hne), bm_or, Bool.or_eq_true, decide_eq_true_iff]
    constructor
    · rintro (y | y)
      · exact Or.inl y
      · exact Or.inr (Or.inr ⟨y.symm, rfl⟩)
    · rintro (y | y | y)
      · exact Or.inl y
      · exact absurd y.1 hne
      · exact Or.inr y.1.symm
  · rw [nup_n q]
    by_cases z : v = fi e
    · subst z
      rw [nup_s, bm_or, Bool.or_eq_true, decide_eq_true_iff]
      constructor
      · rintro (y | y)
        · exact Or.inl y
        · exact Or.inr (Or.inl ⟨rfl, y.symm⟩)
      · rintro (y | y | y)
        · exact Or.inl y
        · exact Or.inr y.2.symm
        · exact absurd y.2.symm hne
    · rw [nup_n z]
      constructor
      · exact fun y => Or.inl y
      · rintro (y | y)
        · exact y
        · omega
/-- the tables of a graph -/
def tabOK (fi se wa : Nat → Nat) (n m : Nat) (wt is pt : Nat → Nat) : Prop := (∀ s, s < 2 ^ n → wt s = wsum wa s) ∧ (∀ s, s < 2 ^ n → is s = ins fi se m s) ∧ ∀ s, 0 < s → s < 2 ^ n → prt fi se m s (pt s)
theorem bnd_ge {fi se : Nat → Nat} {n m u w : Nat} {wa : Nat → Nat} (hn : n ≤ 9) (hfs : hok fi se n m) (hu : u < 2 ^ n) (hd : dsj u w) : wsum wa u ≤ bnd fi se n m wa u w := by
  obtain ⟨d, hE⟩ := exa_ex fi se (m := m) hn hd
  rw [bnd_is hfs hE, nbd_st hn hfs hu hE (bm_rest n u w)]
  omega
theorem bnd_le {fi se : Nat → Nat} {n m u w : Nat} {wa : Nat → Nat} (hn : n ≤ 9) (hm : m ≤ 14) (hwa : ∀ v, v < 9 → wa v ≤ 14) : bnd fi se n m wa u w ≤ 1000 := by
  unfold bnd
  generalize Classical.epsilon (exa fi se n m u w) = d
  have h14 : su (fun _ => 14) 9 = 126 := by decide
  have hk : ∀ k, su (fun _ => 14) k = 14 * k := by
    intro k
    induction k with
    | zero => rfl
    | succ k ih => show su (fun _ => 14) k + 14 = 14 * (k + 1); rw [ih]; omega
  have h1 : ∀ l, hA n wa d l ≤ 126 := by
    intro l
    have : hA n wa d l ≤ su (fun _ => 14) n := su_le (fun v hv => by
      have := hwa v (by omega)
      split <;> omega)
    rw [hk] at this
    omega
  have one : ∀ k, su (fun _ => 1) k = k := by
    intro k
    induction k with
    | zero => rfl
    | succ k ih => show su (fun _ => 1) k + 1 = k + 1; rw [ih]
  have h2 : su (fun e => nww fi se d e) m ≤ m := by
    have : su (fun e => nww fi se d e) m ≤ su (fun _ => 1) m := su_le (fun e _ => by unfold nww; split <;> omega)
    rw [one] at this; exact this
  have h3 : ∀ l, su (fun e => nbt fi se d e l) m ≤ m := by
    intro l
    have : su (fun e => nbt fi se d e l) m ≤ su (fun _ => 1) m := su_le (fun e _ => by unfold nbt; split <;> omega)
    rw [one] at this; exact this
  have h4 : su (fun l => (hA n wa d (l + 2) + su (fun e => nbt fi se d e (l + 2)) m) / 2) 9 ≤ su (fun _ => 70) 9 := su_le (fun l _ => by
    have a1 := h1 (l + 2)
    have a2 := h3 (l + 2)
    omega)
  have h5 : su (fun _ => 70) 9 = 630 := by decide
  have := h1 0
  unfold nbd
  omega
theorem sub_oth {n u w : Nat} : ndf w (ndf (2 ^ n - 1) u) = 0 ↔ w < 2 ^ n ∧ dsj u w := by
  have hb : ∀ i, bm (ndf w (ndf (2 ^ n - 1) u)) i = (bm w i && !(decide (i < n) && !bm u i)) := fun i => by rw [bm_ndf, bm_ndf, bm_all]
  constructor
  · intro h
    have h0 : ∀ i, (bm w i && !(decide (i < n) && !bm u i)) = false := fun i => by rw [← hb, h, bm_0]
    refine ⟨bm_lt (fun i hi => ?_), fun v hv => ?_⟩
    · have := h0 i
      rw [hi] at this
      simp at this
      exact this.1
    · have := h0 v
      rw [hv.1, hv.2] at this
      simp at this
  · rintro ⟨h1, h2⟩
    refine Classical.byContradiction (fun q => ?_)
    obtain ⟨i, hi⟩ := bm_ne0.mp q
    rw [hb] at hi
    simp only [Bool.and_eq_true] at hi
    have hlt := lt_bm h1 hi.1
    have hu : bm u i = false := by
      cases z : bm u i
      · rfl
      · exact absurd ⟨z, hi.1⟩ (h2 i)
    rw [hu] at hi
    simp [hlt] at hi
theorem sub_all {n u : Nat} : ndf u (2 ^ n - 1) = 0 ↔ u < 2 ^ n := by
  constructor
  · intro h
    refine bm_lt (fun i hi => ?_)
    have : bm (ndf u (2 ^ n - 1)) i = false := by rw [h, bm_0]
    rw [bm_ndf, bm_all, hi] at this
    simp at this
    exact this
  · intro h
    refine Classical.byContradiction (fun q => ?_)
    obtain ⟨i, hi⟩ := bm_ne0.mp q
    rw [bm_ndf, bm_all] at hi
    simp only [Bool.and_eq_true] at hi
    have := lt_bm h hi.1
    simp [this] at hi
theorem ndf_le (a b : Nat) : ndf a b ≤ a := by
  refine Nat.le_of_not_lt (fun h => ?_)
  have e1 : a = ndf a b ||| (a &&& b) := Nat.eq_of_testBit_eq (fun i => by
    rw [Nat.testBit_or, ndf_bit, Nat.testBit_and]
    cases a.testBit i <;> cases b.testBit i <;> rfl)
  have : ndf a b ≤ a := by
    conv => rhs; rw [e1]
    exact Nat.left_le_or
  omega
