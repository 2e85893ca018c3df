/-! what the search's rows need -/
theorem nI_one : nI 1 = 1 := by decide
theorem fc_int {g : Nat} (h : g < 2 ^ 30) : (nI g - 1).toInt = (g : Int) - 1 := by
  have := pk_sub_toInt (a := g) (b := 1) h (by decide)
  rw [nI_one] at this
  exact this
theorem fc_le {a g : Nat} (ha : a < 2 ^ 30) (hg : g < 2 ^ 30) : nI a ≤ nI g - 1 ↔ a < g := by
  rw [Int32.le_iff_toInt_le, fc_int hg, nI_toInt (by omega)]; omega
theorem fc_lt {a g : Nat} (ha : a < 2 ^ 30) (hg : g < 2 ^ 30) : nI g - 1 < nI a ↔ g ≤ a := by
  rw [Int32.lt_iff_toInt_lt, fc_int hg, nI_toInt (by omega)]; omega
theorem minI {a b : Nat} (ha : a < 2 ^ 31) (hb : b < 2 ^ 31) : (if nI b < nI a then nI b else nI a) = nI (min a b) := by
  by_cases h : b < a
  · rw [if_pos ((nI_ltI hb ha).mpr h), Nat.min_eq_right (by omega)]
  · rw [if_neg (fun q => h ((nI_ltI hb ha).mp q)), Nat.min_eq_left (by omega)]
theorem maxI {a b : Nat} (ha : a < 2 ^ 31) (hb : b < 2 ^ 31) : (if nI a < nI b then nI b else nI a) = nI (max a b) := by
  by_cases h : a < b
  · rw [if_pos ((nI_ltI ha hb).mpr h), Nat.max_eq_right (by omega)]
  · rw [if_neg (fun q => h ((nI_ltI ha hb).mp q)), Nat.max_eq_left (by omega)]
def twf (TW : Nat → Int32) (j : Nat) : Nat := if TW j < 0 then j else (TW j).toNatClampNeg
/-- the first of like edges, as the array of twins has them -/
def twOK (hd tl : Nat → Nat) (TW : Nat → Int32) (N : Nat) : Prop := ∀ j, j < N → TW j = -1 ∨ ∃ i, i < j ∧ TW j = nI i ∧ hd i = hd j ∧ tl i = tl j
theorem twf_m {TW : Nat → Int32} {j : Nat} (h : TW j = -1) : twf TW j = j := by
  unfold twf; rw [h, if_pos (by decide)]
theorem twf_n {TW : Nat → Int32} {j i : Nat} (h : TW j = nI i) (hi : i < 2 ^ 31) : twf TW j = i := by
  unfold twf; rw [h, if_neg (nI_pos hi), nI_clamp hi]
theorem twOK_tw {hd tl : Nat → Nat} {TW : Nat → Int32} {N : Nat} (hN : N ≤ 14) (h : twOK hd tl TW N) : ∀ j, j < N → twf TW j < j → hd (twf TW j) = hd j ∧ tl (twf TW j) = tl j := by
  intro j hj hlt
  rcases h j hj with q | ⟨i, hi, q, e1, e2⟩
  · rw [twf_m q] at hlt; omega
  · rw [twf_n q (by omega)]; exact ⟨e1, e2⟩
def mayM (hd tl lf : Nat → Nat) (TW : Nat → Int32) (e S : Nat) : Prop := (∀ i, TW e = nI i → i < 100 → bm S i = true) ∧ 0 < lf (hd e) ∧ 0 < lf (tl e)
theorem may_iff {hd tl lf c : Nat → Nat} {TW : Nat → Int32} {N e S : Nat} (hN : N ≤ 14) (hE : hok hd tl 9 N) (he : e < N) (hTW : twOK hd tl TW N) (hlf : ∀ v, v < 9 → lf v = c v - hdg hd tl N (bm S) v) : mayM hd tl lf TW e S ↔ exM hd tl N c (twf TW) e S := by
  obtain ⟨h1, h2, _⟩ := hE e he
  unfold mayM exM
  rw [hlf _ h1, hlf _ h2]
  have ht : (∀ i, TW e = nI i → i < 100 → bm S i = true) ↔ (twf TW e < e → bm S (twf TW e) = true) := by
    rcases hTW e he with q | ⟨i, hi, q, _, _⟩
    · rw [twf_m q]
      refine ⟨fun _ h => absurd h (by omega), fun _ i hi hi2 => ?_⟩
      rw [q] at hi
      exact absurd hi (by
        intro h
        have : (-1 : Int32) < 0 := by decide
        rw [h] at this
        exact nI_pos (by omega) this)
    · rw [twf_n q (by omega)]
      refine ⟨fun h _ => h i q (by omega), fun h i' q' hi' => ?_⟩
      rw [q] at q'
      rw [← (nI_eq (by omega) (by omega)).mp q']
      exact h hi
  rw [ht]
  refine ⟨fun h => ⟨h.1, ?_, ?_⟩, fun h => ⟨h.1, ?_, ?_⟩⟩ <;> (have a1 := h.2.1; have a2 := h.2.2; omega)
theorem ah_step {hd tl : Nat → Nat} {N e : Nat} (he : e < N) (v : Nat) : su (fun j => if e ≤ j then hin hd tl j v else 0) N = su (fun j => if e + 1 ≤ j then hin hd tl j v else 0) N + hin hd tl e v := by
  have h := su_1 (a := hin hd tl e v) he
  rw [← h, ← su_ad]
  refine su_cg (fun j _ => ?_)
  by_cases q : j = e
  · subst q; rw [if_pos (by omega), if_neg (by omega), if_pos rfl]; omega
  · rw [if_neg q]
    by_cases r : e ≤ j
    · rw [if_pos r, if_pos (by omega)]; rfl
    · rw [if_neg r, if_neg (by omega)]
def dn2 (f : Nat → Nat) (a b : Nat) : Nat → Nat := nup (nup f a (f a - 1)) b (nup f a (f a - 1) b - 1)
def up2 (f : Nat → Nat) (a b : Nat) : Nat → Nat := nup (nup f a (f a + 1)) b (nup f a (f a + 1) b + 1)
theorem dn2_v {f : Nat → Nat} {a b : Nat} (h : a ≠ b) (v : Nat) : dn2 f a b v = f v - (ind a v + ind b v) := by
  unfold dn2 nup ind
  by_cases q : v = b
  · subst q; simp [Ne.symm h]
  · by_cases r : v = a
    · subst r; simp [h]
    · simp [q, r]
theorem up2_v {f : Nat → Nat} {a b : Nat} (h : a ≠ b) (v : Nat) : up2 f a b v = f v + (ind a v + ind b v) := by
  unfold up2 nup ind
  by_cases q : v = b
  · subst q; simp [Ne.symm h]
  · by_cases r : v = a
    · subst r; simp [h]
    · simp [q, r]
theorem up_dn {f : Nat → Nat} {a b : Nat} (h : a ≠ b) (ha : 0 < f a) (hb : 0 < f b) : up2 (dn2 f a b) a b = f := by
  funext v
  rw [up2_v h, dn2_v h]
  by_cases q : v = b
  · subst q; rw [ind_s, ind_n (Ne.symm h)]; omega
  · rw [ind_n q]
    by_cases r : v = a
    · subst r; rw [ind_s]; omega
    · rw [ind_n r]; omega
theorem lf_step {hd tl lf c : Nat → Nat} {N e S : Nat} (hE : hok hd tl 9 N) (he : e < N) (hS : S < 2 ^ e) (hlf : ∀ v, v < 9 → lf v = c v - hdg hd tl N (bm S) v) : ∀ v, v < 9 → dn2 lf (hd e) (tl e) v = c v - hdg hd tl N (bm (S ||| 2 ^ e)) v := by
  intro v hv
  obtain ⟨_, _, hne⟩ := hE e he
  rw [dn2_v hne, bm_up hS, hdg_on he (bm_ge hS (Nat.le_refl _)), hin_ind hne, hlf v hv]
  omega
theorem ah_dn {hd tl ah : Nat → Nat} {N e : Nat} (hE : hok hd tl 9 N) (he : e < N) (hah : ∀ v, v < 9 → ah v = su (fun j => if e ≤ j then hin hd tl j v else 0) N) : ∀ v, v < 9 → dn2 ah (hd e) (tl e) v = su (fun j => if e + 1 ≤ j then hin hd tl j v else 0) N := by
  intro v hv
  obtain ⟨_, _, hne⟩ := hE e he
  rw [dn2_v hne, hah v hv, ah_step he, hin_ind hne]
  omega
theorem ah_pos {hd tl ah : Nat → Nat} {N e : Nat} (hE : hok hd tl 9 N) (he : e < N) (hah : ∀ v, v < 9 → ah v = su (fun j => if e ≤ j then hin hd tl j v else 0) N) : 0 < ah (hd e) ∧ 0 < ah (tl e) := by
  obtain ⟨h1, h2, hne⟩ := hE e he
  rw [hah _ h1, hah _ h2, ah_step he, ah_step he, hin_or (Or.inl rfl), hin_or (Or.inr rfl)]
  omega
theorem ex_bd {x y : Nat → Nat} {N : Nat} {c tw : Nat → Nat} {en e S ct fs g fs' g' : Nat} (h : exP x y N c tw en e S ct fs g fs' g') : g' ≤ max g (N + 1) := by
  by_cases q : g < g'
  · have h1 := (h.2.2.1 q).2.2.1
    have h2 := hsz_le N (bm fs')
    omega
  · omega
theorem ah_bd {hd tl ah : Nat → Nat} {N e : Nat} (hah : ∀ v, v < 9 → ah v = su (fun j => if e ≤ j then hin hd tl j v else 0) N) : ∀ v, v < 9 → ah v ≤ N := by
  intro v hv
  rw [hah v hv]
  have : ∀ q, su (fun j => if e ≤ j then hin hd tl j v else 0) q ≤ q := by
    intro q
    induction q with
    | zero => exact Nat.le_refl _
    | succ q ih =>
      show su (fun j => if e ≤ j then hin hd tl j v else 0) q + (if e ≤ q then hin hd tl q v else 0) ≤ q + 1
      have : (if e ≤ q then hin hd tl q v else 0) ≤ 1 := by
        unfold hin
        split
        · split <;> omega
        · omega
      omega
  exact this N
