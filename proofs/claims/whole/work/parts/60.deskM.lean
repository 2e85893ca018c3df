/-! what is asked of a graph: n vertices, m edges between fi and se, demands wa -/
def GOK (n m : Nat) (fi se wa : Nat → Nat) : Prop := 1 ≤ n ∧ n ≤ 9 ∧ m ≤ 14 ∧ hok fi se n m ∧ (∀ v, v < 9 → wa v ≤ 14) ∧ ∀ v, n ≤ v → v < 9 → wa v = 0
theorem hok_9 {n m : Nat} {fi se : Nat → Nat} (hn : n ≤ 9) (h : hok fi se n m) : hok fi se 9 m := fun e he => by
  obtain ⟨h1, h2, h3⟩ := h e he
  exact ⟨by omega, by omega, h3⟩
theorem hdg_out {n m v : Nat} {fi se : Nat → Nat} {M : Nat → Bool} (h : hok fi se n m) (hv : n ≤ v) : hdg fi se m M v = 0 := su_z (fun e he => by
  obtain ⟨h1, h2, _⟩ := h e he
  rw [hin_no (by omega)]; simp)
theorem hfa_9 {n m : Nat} {fi se c : Nat → Nat} {M : Nat → Bool} (hn : n ≤ 9) (h : hok fi se n m) : hfa fi se 9 m c M ↔ hfa fi se n m c M := by
  refine ⟨fun q v hv => q v (by omega), fun q v hv => ?_⟩
  rcases Nat.lt_or_ge v n with z | z
  · exact q v z
  · rw [hdg_out h z]; omega
theorem hdg_hin {x y x' y' : Nat → Nat} {N : Nat} {M : Nat → Bool} {v : Nat} (h : ∀ j, j < N → hin x y j v = hin x' y' j v) : hdg x y N M v = hdg x' y' N M v := su_cg (fun j hj => by rw [h j hj])
theorem hfa_hin {x y x' y' : Nat → Nat} {P N : Nat} {c : Nat → Nat} {M : Nat → Bool} (h : ∀ j, j < N → ∀ v, hin x y j v = hin x' y' j v) : hfa x y P N c M ↔ hfa x' y' P N c M := by
  have e : ∀ v, hdg x y N M v = hdg x' y' N M v := fun v => hdg_hin (fun j hj => h j hj v)
  unfold hfa
  constructor
  · intro q v hv; rw [← e]; exact q v hv
  · intro q v hv; rw [e]; exact q v hv
theorem ld_hin {fi se : Nat → Nat} {w m : Nat} {hd tl : Nat → Nat} {TW : Nat → Int32} {ah : Nat → Nat} (h : ldI fi se w m hd tl TW ah) : ∀ j, j < ldN m w → ∀ v, hin hd tl j v = hin fi se (sk w j) v := by
  intro j hj v
  obtain ⟨e1, e2⟩ := h.2.2.1 j hj
  have iff : (hd j = v ∨ tl j = v) ↔ (fi (sk w j) = v ∨ se (sk w j) = v) := by rw [e1, e2]; omega
  unfold hin
  by_cases q : hd j = v ∨ tl j = v
  · rw [if_pos q, if_pos (iff.mp q)]
  · rw [if_neg q, if_neg (fun z => q (iff.mpr z))]
theorem ldN_full {m w : Nat} (h : m ≤ w) : ldN m w = m := if_pos h
theorem sk_lo {w j : Nat} (h : j < w) : sk w j = j := if_pos h
theorem ld_full {fi se : Nat → Nat} {w m : Nat} {hd tl : Nat → Nat} {TW : Nat → Int32} {ah : Nat → Nat} (hw : m ≤ w) (h : ldI fi se w m hd tl TW ah) : ∀ j, j < m → ∀ v, hin hd tl j v = hin fi se j v := by
  intro j hj v
  have := ld_hin h j (by rw [ldN_full hw]; exact hj) v
  rw [sk_lo (by omega)] at this
  exact this
theorem bst_hin {x y x' y' : Nat → Nat} {P N : Nat} {c : Nat → Nat} {M : Nat → Bool} (h : ∀ j, j < N → ∀ v, hin x y j v = hin x' y' j v) (hb : bst x y P N c M) : bst x' y' P N c M :=
  ⟨(hfa_hin h).mp hb.1, fun K hK => hb.2.1 K ((hfa_hin h).mpr hK), fun K hK => hb.2.2 K ((hfa_hin h).mpr hK)⟩
theorem su_sk (f : Nat → Nat) {w m : Nat} (h : w < m) : su f m = su (fun j => f (sk w j)) (m - 1) + f w := by
  induction m with
  | zero => omega
  | succ m ih =>
    show su f m + f m = su (fun j => f (sk w j)) m + f w
    rcases Nat.lt_or_ge w m with q | q
    · rw [ih q]
      obtain ⟨k, rfl⟩ : ∃ k, m = k + 1 := ⟨m - 1, by omega⟩
      show su (fun j => f (sk w j)) k + f w + f (k + 1) = su (fun j => f (sk w j)) k + f (sk w k) + f w
      have : sk w k = k + 1 := if_neg (by omega)
      rw [this]; omega
    · have e : w = m := by omega
      subst e
      rw [su_cg (f := fun j => f (sk w j)) (g := f) (fun j hj => by rw [sk_lo hj])]
/-- sets of edges with and without w, out of sets of the others -/
theorem sk_ex {fi se hd tl : Nat → Nat} {w m : Nat} (h : w < m) (hh : ∀ j, j < m - 1 → ∀ v, hin hd tl j v = hin fi se (sk w j) v) (M : Nat → Bool) :
    (∀ v, hdg fi se m M v = hdg hd tl (m - 1) (fun j => M (sk w j)) v + (M w).toNat * hin fi se w v) ∧ hsz m M = hsz (m - 1) (fun j => M (sk w j)) + (M w).toNat := by
  refine ⟨fun v => ?_, su_sk (fun j => (M j).toNat) h⟩
  rw [hdg, su_sk _ h]
  congr 1
  exact su_cg (fun j hj => by rw [hh j hj])
theorem sk_in (M : Nat → Bool) (w : Nat) (b : Bool) : (fun j => (fun i => if i = w then b else if i < w then M i else M (i - 1)) (sk w j)) = M := by
  funext j
  show (if sk w j = w then b else if sk w j < w then M (sk w j) else M (sk w j - 1)) = M j
  unfold sk
  by_cases q : j < w
  · rw [if_pos q, if_neg (by omega), if_pos q]
  · rw [if_neg q, if_neg (by omega), if_neg (by omega)]; simp
theorem sk_O {fi se hd tl c : Nat → Nat} {w m t : Nat} (h : w < m) (hh : ∀ j, j < m - 1 → ∀ v, hin hd tl j v = hin fi se (sk w j) v) :
    (∃ M, hfa hd tl 9 (m - 1) c M ∧ t ≤ hsz (m - 1) M) ↔ ∃ M, hfa fi se 9 m c M ∧ M w = false ∧ t ≤ hsz m M := by
  constructor
  · rintro ⟨M, h1, h2⟩
    obtain ⟨g1, g2⟩ := sk_ex h hh (fun i => if i = w then false else if i < w then M i else M (i - 1))
    rw [sk_in M w false] at g1 g2
    have e0 : (if w = w then false else if w < w then M w else M (w - 1)) = false := if_pos rfl
    refine ⟨fun i => if i = w then false else if i < w then M i else M (i - 1), fun v hv => ?_, e0, ?_⟩
    · have := h1 v hv
      rw [g1, e0]; simpa using this
    · rw [g2, e0]; simpa using h2
  · rintro ⟨M, h1, h2, h3⟩
    obtain ⟨g1, g2⟩ := sk_ex h hh M
    simp only [h2, Bool.toNat_false, Nat.zero_mul, Nat.add_zero] at g1 g2
    exact ⟨_, fun v hv => by rw [← g1]; exact h1 v hv, by rw [← g2]; exact h3⟩
theorem sk_W {fi se hd tl c : Nat → Nat} {w m t : Nat} (h : w < m) (hfs : hok fi se 9 m) (h1 : 0 < c (fi w)) (h2 : 0 < c (se w)) (hh : ∀ j, j < m - 1 → ∀ v, hin hd tl j v = hin fi se (sk w j) v) :
    (∃ M, hfa hd tl 9 (m - 1) (dn2 c (fi w) (se w)) M ∧ t ≤ hsz (m - 1) M) ↔ ∃ M, hfa fi se 9 m c M ∧ M w = true ∧ t + 1 ≤ hsz m M := by
  obtain ⟨f1, f2, f3⟩ := hfs w h
  have hc : ∀ v, dn2 c (fi w) (se w) v + hin fi se w v = c v ∨ (c v = 0 ∧ hin fi se w v = 0 ∧ dn2 c (fi w) (se w) v = 0) := by
    intro v
    rw [dn2_v f3, hin_ind f3]
    by_cases q : v = fi w
    · subst q; rw [ind_s, ind_n f3]; omega
    · by_cases z : v = se w
      · subst z; rw [ind_s, ind_n q]; omega
      · rw [ind_n q, ind_n z]; omega
  constructor
  · rintro ⟨M, m1, m2⟩
    obtain ⟨g1, g2⟩ := sk_ex h hh (fun i => if i = w then true else if i < w then M i else M (i - 1))
    rw [sk_in M w true] at g1 g2
    have e0 : (if w = w then true else if w < w then M w else M (w - 1)) = true := if_pos rfl
    refine ⟨fun i => if i = w then true else if i < w then M i else M (i - 1), fun v hv => ?_, e0, by rw [g2, e0]; simpa using m2⟩
    rw [g1, e0, Bool.toNat_true, Nat.one_mul]
    have a1 := m1 v hv
    have a2 := hc v
    omega
  · rintro ⟨M, m1, m2, m3⟩
    obtain ⟨g1, g2⟩ := sk_ex h hh M
    simp only [m2, Bool.toNat_true, Nat.one_mul] at g1 g2
    refine ⟨fun j => M (sk w j), fun v hv => ?_, by omega⟩
    have a1 := m1 v hv
    rw [g1] at a1
    have a2 := hc v
    omega
/-! the answers -/
def isFa (fi se wa : Nat → Nat) (n m s : Nat) : Prop := ∀ v, v < n → hdg fi se m (bm s) v = wa v
def mostP (fi se wa : Nat → Nat) (m : Nat) (r : Int32) : Prop := ∃ B, bst fi se 9 m wa B ∧ r = nI (hsz m B)
def bestP (fi se wa : Nat → Nat) (m : Nat) (r : Int32) : Prop := ∃ B, B < 2 ^ m ∧ bst fi se 9 m wa (bm B) ∧ r = nI B
def facP (fi se wa : Nat → Nat) (n m : Nat) (r : Int32) : Prop := (∃ F, F < 2 ^ m ∧ isFa fi se wa n m F ∧ (∀ F', F' < 2 ^ m → isFa fi se wa n m F' → okey F ≤ okey F') ∧ r = nI F) ∨ ((∀ F, F < 2 ^ m → ¬ isFa fi se wa n m F) ∧ r = -1)
def lgW (fi se wa : Nat → Nat) (m e : Nat) (B : Nat → Bool) (b : Bool) : Prop := ∃ M, hfa fi se 9 m wa M ∧ hsz m M = hsz m B ∧ M e = b
def roleP (fi se wa : Nat → Nat) (m e : Nat) (r : Int32) : Prop := ∃ B, bst fi se 9 m wa B ∧ ((¬ lgW fi se wa m e B true ∧ r = nI 0) ∨ (lgW fi se wa m e B true ∧ lgW fi se wa m e B false ∧ r = nI 1) ∨ (lgW fi se wa m e B true ∧ ¬ lgW fi se wa m e B false ∧ r = nI 2))
def rea (fi se : Nat → Nat) (m : Nat) (c : Nat → Nat) (t : Nat) : Prop := ∃ M, hfa fi se 9 m c M ∧ t ≤ hsz m M
def slkP (fi se wa : Nat → Nat) (m v : Nat) (r : Int32) : Prop := ∃ B, bst fi se 9 m wa B ∧ ∃ dd, dd ≤ wa v ∧ rea fi se m (nup wa v dd) (hsz m B) ∧ (∀ d', d' < dd → ¬ rea fi se m (nup wa v d') (hsz m B)) ∧ r = nI (wa v - dd)
def gnP (fi se wa : Nat → Nat) (m v : Nat) (r : Int32) : Prop := ∃ B B', bst fi se 9 m wa B ∧ bst fi se 9 m (nup wa v (wa v + 1)) B' ∧ r = nI (hsz m B' - hsz m B)
def isWit (fi se wa : Nat → Nat) (n m u w : Nat) : Prop := ∃ B, bst fi se 9 m wa B ∧ u < 2 ^ n ∧ okW fi se n m wa (hsz m B) u w ∧ (∀ u', u' < 2 ^ n → (∃ w', okW fi se n m wa (hsz m B) u' w') → okey u ≤ okey u') ∧ ∀ w', okW fi se n m wa (hsz m B) u w' → okey w ≤ okey w'
theorem bst_sz {x y : Nat → Nat} {P Q : Nat} {c : Nat → Nat} {M M' : Nat → Bool} (h : bst x y P Q c M) (h' : bst x y P Q c M') : hsz Q M = hsz Q M' := Nat.le_antisymm (h'.2.1 M h.1) (h.2.1 M' h'.1)
theorem mostP_un {fi se wa : Nat → Nat} {m : Nat} {r r' : Int32} (h : mostP fi se wa m r) (h' : mostP fi se wa m r') : r = r' := by
  obtain ⟨B, h1, e1⟩ := h
  obtain ⟨B', h2, e2⟩ := h'
  rw [e1, e2, bst_sz h1 h2]
theorem bestP_un {fi se wa : Nat → Nat} {m : Nat} {r r' : Int32} (h : bestP fi se wa m r) (h' : bestP fi se wa m r') : r = r' := by
  obtain ⟨B, l1, h1, e1⟩ := h
  obtain ⟨B', l2, h2, e2⟩ := h'
  rw [e1, e2, bm_ext l1 l2 (bst_un h1 h2)]
theorem facP_un {fi se wa : Nat → Nat} {n m : Nat} {r r' : Int32} (hm : m ≤ 14) (h : facP fi se wa n m r) (h' : facP fi se wa n m r') : r = r' := by
  rcases h with ⟨F, l1, h1, g1, e1⟩ | ⟨h1, e1⟩ <;> rcases h' with ⟨F', l2, h2, g2, e2⟩ | ⟨h2, e2⟩
  · have := Nat.le_antisymm (g1 F' l2 h2) (g2 F l1 h1)
    rw [e1, e2, okey_inj (Nat.lt_of_lt_of_le l1 (p2_le hm)) (Nat.lt_of_lt_of_le l2 (p2_le hm)) this]
  · exact absurd h1 (h2 F l1)
  · exact absurd h2 (h1 F' l2)
  · rw [e1, e2]
theorem roleP_un {fi se wa : Nat → Nat} {m e : Nat} {r r' : Int32} (h : roleP fi se wa m e r) (h' : roleP fi se wa m e r') : r = r' := by
  obtain ⟨B, h1, g1⟩ := h
  obtain ⟨B', h2, g2⟩ := h'
  have e : ∀ b, lgW fi se wa m e B b ↔ lgW fi se wa m e B' b := fun b => by unfold lgW; rw [bst_sz h1 h2]
  rw [e, e] at g1
  rcases g1 with ⟨a1, a2⟩ | ⟨a1, a2, a3⟩ | ⟨a1, a2, a3⟩ <;> rcases g2 with ⟨b1, b2⟩ | ⟨b1, b2, b3⟩ | ⟨b1, b2, b3⟩
  · rw [a2, b2]
  · exact absurd b1 a1
  · exact absurd b1 a1
  · exact absurd a1 b1
  · rw [a3, b3]
  · exact absurd a2 b2
  · exact absurd a1 b1
  · exact absurd b2 a2
  · rw [a3, b3]
theorem slkP_un {fi se wa : Nat → Nat} {m v : Nat} {r r' : Int32} (h : slkP fi se wa m v r) (h' : slkP fi se wa m v r') : r = r' := by
  obtain ⟨B, h1, d1, l1, a1, b1, e1⟩ := h
  obtain ⟨B', h2, d2, l2, a2, b2, e2⟩ := h'
  rw [bst_sz h2 h1] at a2 b2
  have : d1 = d2 := by
    rcases Nat.lt_trichotomy d1 d2 with q | q | q
    · exact absurd a1 (b2 d1 q)
    · exact q
    · exact absurd a2 (b1 d2 q)
  rw [e1, e2, this]
theorem gnP_un {fi se wa : Nat → Nat} {m v : Nat} {r r' : Int32} (h : gnP fi se wa m v r) (h' : gnP fi se wa m v r') : r = r' := by
  obtain ⟨B, C, h1, h2, e1⟩ := h
  obtain ⟨B', C', h3, h4, e2⟩ := h'
  rw [e1, e2, bst_sz h1 h3, bst_sz h2 h4]
theorem isWit_un {fi se wa : Nat → Nat} {n m u w u' w' : Nat} (hn : n ≤ 9) (h : isWit fi se wa n m u w) (h' : isWit fi se wa n m u' w') : u = u' ∧ w = w' := by
  obtain ⟨B, h1, l1, o1, a1, b1⟩ := h
  obtain ⟨B', h2, l2, o2, a2, b2⟩ := h'
  rw [bst_sz h2 h1] at o2 a2 b2
  have hp : 2 ^ n ≤ 2 ^ 14 := p2_le (by omega)
  have e1 : u = u' := okey_inj (by omega) (by omega) (Nat.le_antisymm (a1 u' l2 ⟨w', o2⟩) (a2 u l1 ⟨w, o1⟩))
  subst e1
  have := o1.1
  have := o2.1
  exact ⟨rfl, okey_inj (by omega) (by omega) (Nat.le_antisymm (b1 w' o2) (b2 w o1))⟩
/-! factors are the largest fair sets, where there are any -/
theorem nkey_pad {M : Nat → Bool} {m : Nat} (h : ∀ j, m ≤ j → M j = false) (k : Nat) : nkey M (m + k) = nkey M m * 2 ^ k := by
  induction k with
  | zero => simp
  | succ k ih =>
    show 2 * nkey M (m + k) + (M (m + k)).toNat = _
    rw [ih, h (m + k) (by omega), Nat.pow_succ]
    simp
    rw [Nat.mul_comm, Nat.mul_assoc]
theorem hsz_pad {M : Nat → Bool} {m : Nat} (h : ∀ j, m ≤ j → M j = false) (k : Nat) : hsz (m + k) M = hsz m M := by
  induction k with
  | zero => rfl
  | succ k ih =>
    show hsz (m + k) M + (M (m + k)).toNat = _
    rw [ih, h (m + k) (by omega)]; rfl
theorem okey_le {a b m : Nat} (hm : m ≤ 14) (ha : a < 2 ^ m) (hb : b < 2 ^ m) : okey a ≤ okey b ↔ hsz m (bm a) < hsz m (bm b) ∨ (hsz m (bm a) = hsz m (bm b) ∧ nkey (bm b) m ≤ nkey (bm a) m) := by
  have z1 := hsz_pad (M := bm a) (m := m) (fun j hj => bm_ge ha hj) (14 - m)
  have z2 := hsz_pad (M := bm b) (m := m) (fun j hj => bm_ge hb hj) (14 - m)
  have k1 := nkey_pad (M := bm a) (m := m) (fun j hj => bm_ge ha hj) (14 - m)
  have k2 := nkey_pad (M := bm b) (m := m) (fun j hj => bm_ge hb hj) (14 - m)
  rw [show m + (14 - m) = 14 by omega] at z1 z2 k1 k2
  have hp : 0 < 2 ^ (14 - m) := Nat.two_pow_pos _
  have hk : nkey (bm b) 14 ≤ nkey (bm a) 14 ↔ nkey (bm b) m ≤ nkey (bm a) m := by
    rw [k1, k2]
    exact ⟨fun q => Nat.le_of_mul_le_mul_right q hp, fun q => Nat.mul_le_mul_right _ q⟩
  have hnot : okey a ≤ okey b ↔ ¬ okey b < okey a := by omega
  rw [hnot, okey_lt, z1, z2]
  constructor
  · intro q
    rcases Nat.lt_trichotomy (hsz m (bm a)) (hsz m (bm b)) with y | y | y
    · exact Or.inl y
    · exact Or.inr ⟨y, hk.mp (Nat.le_of_not_lt (fun z => q (Or.inr ⟨y.symm, z⟩)))⟩
    · exact absurd (Or.inl y) q
  · rintro (y | ⟨y1, y2⟩) (z | ⟨z1', z2'⟩)
    · omega
    · omega
    · omega
    · have := hk.mpr y2; omega
theorem fac_sum {fi se wa : Nat → Nat} {n m F : Nat} (hfs : hok fi se n m) (h : isFa fi se wa n m F) : 2 * hsz m (bm F) = su wa n := by
  rw [← hdg_hs hfs]; exact su_cg h
theorem fair_sum {fi se wa : Nat → Nat} {n m : Nat} {M : Nat → Bool} (hfs : hok fi se n m) (h : hfa fi se n m wa M) : 2 * hsz m M ≤ su wa n := by
  rw [← hdg_hs hfs]; exact su_le h
theorem fac_best {fi se wa : Nat → Nat} {n m B : Nat} (hn : n ≤ 9) (hm : m ≤ 14) (hfs : hok fi se n m) (hl : B < 2 ^ m) (hB : bst fi se 9 m wa (bm B)) {r : Int32} (hr : (2 * hsz m (bm B) = su wa n ∧ r = nI B) ∨ (2 * hsz m (bm B) ≠ su wa n ∧ r = -1)) : facP fi se wa n m r := by
  have hf := (hfa_9 hn hfs).mp hB.1
  have key : ∀ F, isFa fi se wa n m F → hfa fi se 9 m wa (bm F) ∧ hsz m (bm F) = hsz m (bm B) := by
    intro F hF
    have h1 : hfa fi se 9 m wa (bm F) := (hfa_9 hn hfs).mpr (fun v hv => by rw [hF v hv]; exact Nat.le_refl _)
    refine ⟨h1, Nat.le_antisymm (hB.2.1 _ h1) ?_⟩
    have h2 := fac_sum hfs hF
    have h3 := fair_sum hfs hf
    omega
  rcases hr with ⟨e, er⟩ | ⟨e, er⟩
  · refine Or.inl ⟨B, hl, fun v hv => ?_, fun F hF1 hF2 => ?_, er⟩
    · refine Nat.le_antisymm (hf v hv) (Nat.le_of_not_lt (fun q => ?_))
      have := su_lt (n := n) (k := v) (f := fun v => hdg fi se m (bm B) v) (g := wa) (fun i hi => hf i hi) hv q
      rw [hdg_hs hfs] at this
      omega
    · obtain ⟨k1, k2⟩ := key F hF2
      exact (okey_le hm hl hF1).mpr (Or.inr ⟨k2.symm, hB.2.2 _ k1 k2⟩)
  · refine Or.inr ⟨fun F hF1 hF2 => e ?_, er⟩
    rw [← (key F hF2).2]; exact fac_sum hfs hF2
/-! demands that are less, or more by one -/
theorem hfa_up {x y : Nat → Nat} {P Q : Nat} {c c' : Nat → Nat} {M : Nat → Bool} (h : ∀ v, v < P → c v ≤ c' v) (hM : hfa x y P Q c M) : hfa x y P Q c' M := fun v hv => Nat.le_trans (hM v hv) (h v hv)
theorem rea_up {fi se wa : Nat → Nat} {m v d d' t : Nat} (h : d ≤ d') (hr : rea fi se m (nup wa v d) t) : rea fi se m (nup wa v d') t := by
  obtain ⟨M, h1, h2⟩ := hr
  refine ⟨M, hfa_up (fun u _ => ?_) h1, h2⟩
  unfold nup
  split <;> omega
theorem rea_dn {fi se wa : Nat → Nat} {m v t : Nat} (hfs : hok fi se 9 m) (hr : rea fi se m (nup wa v (wa v + 1)) (t + 1)) : rea fi se m wa t := by
  obtain ⟨M, h1, h2⟩ := hr
  by_cases q : hdg fi se m M v ≤ wa v
  · refine ⟨M, fun u hu => ?_, by omega⟩
    have := h1 u hu
    by_cases z : u = v
    · subst z; exact q
    · rw [nup_n z] at this; exact this
  · -- an edge at v goes
    have hpos : hdg fi se m (fun _ => false) v < hdg fi se m M v := by
      have : hdg fi se m (fun _ => false) v = 0 := su_z (fun j _ => by simp)
      omega
    obtain ⟨j, hj, hMj, _, hjv⟩ := hdg_lt hpos
    refine ⟨bup M j false, fun u hu => ?_, ?_⟩
    · have a1 := hdg_off (x := fi) (y := se) hj hMj u
      have a2 := h1 u hu
      by_cases z : u = v
      · subst z
        rw [nup_s] at a2
        rw [hin_or hjv] at a1
        omega
      · rw [nup_n z] at a2; omega
    · have := hsz_off hj hMj
      omega
theorem gn_is {fi se wa : Nat → Nat} {m v : Nat} {B : Nat → Bool} (hfs : hok fi se 9 m) (hB : bst fi se 9 m wa B) {r : Int32} (hr : (rea fi se m (nup wa v (wa v + 1)) (hsz m B + 1) ∧ r = nI 1) ∨ (¬ rea fi se m (nup wa v (wa v + 1)) (hsz m B + 1) ∧ r = nI 0)) : gnP fi se wa m v r := by
  obtain ⟨B', hB'⟩ := bst_ex fi se 9 m (nup wa v (wa v + 1))
  have lo : hsz m B ≤ hsz m B' := hB'.2.1 B (hfa_up (fun u _ => by unfold nup; split <;> (try subst u) <;> omega) hB.1)
  refine ⟨B, B', hB, hB', ?_⟩
  rcases hr with ⟨⟨M, h1, h2⟩, e⟩ | ⟨h, e⟩
  · have h3 := hB'.2.1 M h1
    have hi : hsz m B' ≤ hsz m B + 1 := by
      refine Nat.le_of_not_lt (fun q => ?_)
      obtain ⟨K, k1, k2⟩ := rea_dn (v := v) hfs (t := hsz m B + 1) ⟨B', hB'.1, by omega⟩
      have := hB.2.1 K k1
      omega
    rw [e, show hsz m B' - hsz m B = 1 by omega]
  · have hi : hsz m B' ≤ hsz m B := Nat.le_of_not_lt (fun q => h ⟨B', hB'.1, by omega⟩)
    rw [e, show hsz m B' - hsz m B = 0 by omega]
