/-! vertices with demands: the least bound is as many as the largest fair set has -/
theorem su_2 (f : Nat → Nat) (n m : Nat) : su f (n + 2 * m) = su f n + su (fun e => f (n + 2 * e) + f (n + 2 * e + 1)) m := by
  induction m with
  | zero => rfl
  | succ m ih =>
    show su f (n + 2 * m + 1 + 1) = su f n + (su (fun e => f (n + 2 * e) + f (n + 2 * e + 1)) m + (f (n + 2 * m) + f (n + 2 * m + 1)))
    show su f (n + 2 * m) + f (n + 2 * m) + f (n + 2 * m + 1) = _
    rw [ih]; omega
theorem su_3 (f : Nat → Nat) (m : Nat) : su f (3 * m) = su (fun e => f (3 * e) + f (3 * e + 1) + f (3 * e + 2)) m := by
  induction m with
  | zero => rfl
  | succ m ih =>
    show su f (3 * m + 1 + 1 + 1) = su (fun e => f (3 * e) + f (3 * e + 1) + f (3 * e + 2)) m + (f (3 * m) + f (3 * m + 1) + f (3 * m + 2))
    show su f (3 * m) + f (3 * m) + f (3 * m + 1) + f (3 * m + 2) = _
    rw [ih]; omega
def gX (n : Nat) (fi : Nat → Nat) (j : Nat) : Nat := if j % 3 = 0 then fi (j / 3) else if j % 3 = 1 then n + 2 * (j / 3) else n + 2 * (j / 3) + 1
def gY (n : Nat) (se : Nat → Nat) (j : Nat) : Nat := if j % 3 = 0 then n + 2 * (j / 3) else if j % 3 = 1 then n + 2 * (j / 3) + 1 else se (j / 3)
def gC (n : Nat) (b : Nat → Nat) (v : Nat) : Nat := if v < n then b v else 1
theorem gX0 (n : Nat) (fi : Nat → Nat) (e : Nat) : gX n fi (3 * e) = fi e := by
  unfold gX; rw [if_pos (by omega), show 3 * e / 3 = e by omega]
theorem gX1 (n : Nat) (fi : Nat → Nat) (e : Nat) : gX n fi (3 * e + 1) = n + 2 * e := by
  unfold gX; rw [if_neg (by omega), if_pos (by omega), show (3 * e + 1) / 3 = e by omega]
theorem gX2 (n : Nat) (fi : Nat → Nat) (e : Nat) : gX n fi (3 * e + 2) = n + 2 * e + 1 := by
  unfold gX; rw [if_neg (by omega), if_neg (by omega), show (3 * e + 2) / 3 = e by omega]
theorem gY0 (n : Nat) (se : Nat → Nat) (e : Nat) : gY n se (3 * e) = n + 2 * e := by
  unfold gY; rw [if_pos (by omega), show 3 * e / 3 = e by omega]
theorem gY1 (n : Nat) (se : Nat → Nat) (e : Nat) : gY n se (3 * e + 1) = n + 2 * e + 1 := by
  unfold gY; rw [if_neg (by omega), if_pos (by omega), show (3 * e + 1) / 3 = e by omega]
theorem gY2 (n : Nat) (se : Nat → Nat) (e : Nat) : gY n se (3 * e + 2) = se e := by
  unfold gY; rw [if_neg (by omega), if_neg (by omega), show (3 * e + 2) / 3 = e by omega]
theorem j3 {j m : Nat} (h : j < 3 * m) : ∃ e, e < m ∧ (j = 3 * e ∨ j = 3 * e + 1 ∨ j = 3 * e + 2) := ⟨j / 3, by omega, by omega⟩
/-- edges between the nodes of label l and those of label 1 -/
def nbt (fi se d : Nat → Nat) (e l : Nat) : Nat := if (d (fi e) = l ∧ d (se e) = 1) ∨ (d (fi e) = 1 ∧ d (se e) = l) then 1 else 0
def nww (fi se d : Nat → Nat) (e : Nat) : Nat := if d (fi e) = 1 ∧ d (se e) = 1 then 1 else 0
/-- the bound that a labelling gives: label 0 is U, label 1 is W, the parts have labels from 2 on -/
def nbd (fi se : Nat → Nat) (n m L : Nat) (b d : Nat → Nat) : Nat := hA n b d 0 + su (fun e => nww fi se d e) m + su (fun l => (hA n b d (l + 2) + su (fun e => nbt fi se d e (l + 2)) m) / 2) L
def nva (fi se : Nat → Nat) (m : Nat) (d : Nat → Nat) : Prop := ∀ e, e < m → 2 ≤ d (fi e) → 2 ≤ d (se e) → d (fi e) = d (se e)
theorem dual_bd {fi se : Nat → Nat} {n m : Nat} {b d : Nat → Nat} (hv : hva (gX n fi) (gY n se) (3 * m) d) (hd : ∀ v, d v < n + 2 * m + 2) :
    nbd fi se n m (n + 2 * m) b d + m ≤ hbd (n + 2 * m) (gC n b) d := by
  -- the nodes in the middle
  have e1 : ∀ e, e < m → (d (fi e) = 0 ∨ d (n + 2 * e) = 0 ∨ (d (fi e) = d (n + 2 * e) ∧ 2 ≤ d (fi e))) ∧ (d (n + 2 * e) = 0 ∨ d (n + 2 * e + 1) = 0 ∨ (d (n + 2 * e) = d (n + 2 * e + 1) ∧ 2 ≤ d (n + 2 * e))) ∧ (d (n + 2 * e + 1) = 0 ∨ d (se e) = 0 ∨ (d (n + 2 * e + 1) = d (se e) ∧ 2 ≤ d (n + 2 * e + 1))) := by
    intro e he
    have a0 := hv (3 * e) (by omega)
    have a1 := hv (3 * e + 1) (by omega)
    have a2 := hv (3 * e + 2) (by omega)
    rw [gX0, gY0] at a0
    rw [gX1, gY1] at a1
    rw [gX2, gY2] at a2
    exact ⟨a0, a1, a2⟩
  have hAs : ∀ l, hA (n + 2 * m) (gC n b) d l = hA n b d l + su (fun e => (if d (n + 2 * e) = l then 1 else 0) + (if d (n + 2 * e + 1) = l then 1 else 0)) m := by
    intro l
    unfold hA
    rw [su_2]
    congr 1
    · refine su_cg (fun v hv => ?_)
      unfold gC; rw [if_pos hv]
    · refine su_cg (fun e _ => ?_)
      unfold gC; rw [if_neg (show ¬ n + 2 * e < n by omega), if_neg (show ¬ n + 2 * e + 1 < n by omega)]
  -- p: both in the middle have one label; k: one of them has label 0
  have hp : ∀ l, su (fun e => (if d (n + 2 * e) = l + 2 then 1 else 0) + (if d (n + 2 * e + 1) = l + 2 then 1 else 0)) m = su (fun e => if d (n + 2 * e) ≠ 0 ∧ d (n + 2 * e + 1) ≠ 0 then 0 else (if d (n + 2 * e) = l + 2 then 1 else 0) + (if d (n + 2 * e + 1) = l + 2 then 1 else 0)) m + 2 * su (fun e => if d (n + 2 * e) ≠ 0 ∧ d (n + 2 * e + 1) ≠ 0 ∧ d (n + 2 * e) = l + 2 then 1 else 0) m := by
    intro l
    rw [← su_ml, ← su_ad]
    refine su_cg (fun e he => ?_)
    have := e1 e he
    by_cases q : d (n + 2 * e) ≠ 0 ∧ d (n + 2 * e + 1) ≠ 0
    · have eq : d (n + 2 * e) = d (n + 2 * e + 1) := by omega
      rw [if_pos q]
      by_cases r : d (n + 2 * e) = l + 2
      · rw [if_pos r, if_pos (by omega), if_pos ⟨q.1, q.2, r⟩]
      · rw [if_neg r, if_neg (by omega), if_neg (fun h => r h.2.2)]
    · rw [if_neg q, if_neg (c := d (n + 2 * e) ≠ 0 ∧ d (n + 2 * e + 1) ≠ 0 ∧ d (n + 2 * e) = l + 2) (fun h => q ⟨h.1, h.2.1⟩)]
      omega
  have hb : ∀ l, su (fun e => nbt fi se d e (l + 2)) m ≤ su (fun e => if d (n + 2 * e) ≠ 0 ∧ d (n + 2 * e + 1) ≠ 0 then 0 else (if d (n + 2 * e) = l + 2 then 1 else 0) + (if d (n + 2 * e + 1) = l + 2 then 1 else 0)) m + su (fun e => if d (n + 2 * e) = 0 ∧ d (n + 2 * e + 1) = 0 then nbt fi se d e (l + 2) else 0) m := by
    intro l
    rw [← su_ad]
    refine su_le (fun e he => ?_)
    have := e1 e he
    unfold nbt
    by_cases q : (d (fi e) = l + 2 ∧ d (se e) = 1) ∨ (d (fi e) = 1 ∧ d (se e) = l + 2)
    · rw [if_pos q]
      by_cases r : d (n + 2 * e) = 0 ∧ d (n + 2 * e + 1) = 0
      · rw [if_pos r]; omega
      · rw [if_neg r, if_neg (by omega)]
        rcases q with q | q
        · rw [if_pos (show d (n + 2 * e) = l + 2 by omega)]; omega
        · rw [if_pos (show d (n + 2 * e + 1) = l + 2 by omega)]; omega
    · rw [if_neg q]; omega
  have hl : su (fun l => (hA n b d (l + 2) + su (fun e => nbt fi se d e (l + 2)) m) / 2) (n + 2 * m) + su (fun l => su (fun e => if d (n + 2 * e) ≠ 0 ∧ d (n + 2 * e + 1) ≠ 0 ∧ d (n + 2 * e) = l + 2 then 1 else 0) m) (n + 2 * m) ≤ su (fun l => hA (n + 2 * m) (gC n b) d (l + 2) / 2) (n + 2 * m) + su (fun l => su (fun e => if d (n + 2 * e) = 0 ∧ d (n + 2 * e + 1) = 0 then nbt fi se d e (l + 2) else 0) m) (n + 2 * m) := by
    rw [← su_ad, ← su_ad]
    refine su_le (fun l _ => ?_)
    have a1 := hAs (l + 2)
    have a2 := hp l
    have a3 := hb l
    omega
  rw [su_sw (fun l e => if d (n + 2 * e) ≠ 0 ∧ d (n + 2 * e + 1) ≠ 0 ∧ d (n + 2 * e) = l + 2 then 1 else 0), su_sw (fun l e => if d (n + 2 * e) = 0 ∧ d (n + 2 * e + 1) = 0 then nbt fi se d e (l + 2) else 0)] at hl
  have one : ∀ k, su (fun _ => 1) k = k := by
    intro k
    induction k with
    | zero => rfl
    | succ k ih => show su (fun _ => 1) k + 1 = k + 1; rw [ih]
  have hper : su (fun e => nww fi se d e + su (fun l => if d (n + 2 * e) = 0 ∧ d (n + 2 * e + 1) = 0 then nbt fi se d e (l + 2) else 0) (n + 2 * m) + 1) m ≤ su (fun e => ((if d (n + 2 * e) = 0 then 1 else 0) + (if d (n + 2 * e + 1) = 0 then 1 else 0)) + su (fun l => if d (n + 2 * e) ≠ 0 ∧ d (n + 2 * e + 1) ≠ 0 ∧ d (n + 2 * e) = l + 2 then 1 else 0) (n + 2 * m)) m := by
    refine su_le (fun e he => ?_)
    have h1 := e1 e he
    unfold nww
    by_cases q : d (n + 2 * e) = 0 ∧ d (n + 2 * e + 1) = 0
    · rw [if_pos q.1, if_pos q.2]
      have hz : (if d (fi e) = 1 ∧ d (se e) = 1 then 1 else 0) + su (fun l => if d (n + 2 * e) = 0 ∧ d (n + 2 * e + 1) = 0 then nbt fi se d e (l + 2) else 0) (n + 2 * m) ≤ 1 := by
        by_cases r : d (fi e) = 1 ∧ d (se e) = 1
        · rw [if_pos r, su_z (fun l _ => ?_)]
          · omega
          · rw [if_pos q]; unfold nbt; rw [if_neg (by omega)]
        · rw [if_neg r]
          have := su_lab (if d (fi e) = 1 then d (se e) else d (fi e)) (n + 2 * m)
          have h4 : su (fun l => if d (n + 2 * e) = 0 ∧ d (n + 2 * e + 1) = 0 then nbt fi se d e (l + 2) else 0) (n + 2 * m) ≤ su (fun l => if (if d (fi e) = 1 then d (se e) else d (fi e)) = l + 2 then 1 else 0) (n + 2 * m) := by
            refine su_le (fun l _ => ?_)
            rw [if_pos q]
            unfold nbt
            by_cases t : (d (fi e) = l + 2 ∧ d (se e) = 1) ∨ (d (fi e) = 1 ∧ d (se e) = l + 2)
            · rw [if_pos t]
              rcases t with t | t
              · rw [if_neg (show ¬ d (fi e) = 1 by omega), if_pos t.1]; exact Nat.le_refl _
              · rw [if_pos t.1, if_pos t.2]; exact Nat.le_refl _
            · rw [if_neg t]; omega
          omega
      omega
    · have hz : su (fun l => if d (n + 2 * e) = 0 ∧ d (n + 2 * e + 1) = 0 then nbt fi se d e (l + 2) else 0) (n + 2 * m) = 0 := su_z (fun l _ => if_neg q)
      rw [hz]
      have hw : ¬ (d (fi e) = 1 ∧ d (se e) = 1) := by omega
      rw [if_neg hw]
      by_cases r : d (n + 2 * e) ≠ 0 ∧ d (n + 2 * e + 1) ≠ 0
      · have hlab := hd (n + 2 * e)
        have hs : su (fun l => if d (n + 2 * e) ≠ 0 ∧ d (n + 2 * e + 1) ≠ 0 ∧ d (n + 2 * e) = l + 2 then 1 else 0) (n + 2 * m) = su (fun l => if l = d (n + 2 * e) - 2 then 1 else 0) (n + 2 * m) := by
          refine su_cg (fun l _ => ?_)
          by_cases t : l = d (n + 2 * e) - 2
          · rw [if_pos t, if_pos (by omega)]
          · rw [if_neg t, if_neg (by omega)]
        rw [hs, su_1 (by omega)]
        omega
      · by_cases t : d (n + 2 * e) = 0
        · rw [if_pos t]; omega
        · rw [if_neg t, if_pos (show d (n + 2 * e + 1) = 0 by omega)]; omega
  rw [su_ad, su_ad (fun e => nww fi se d e), su_ad (fun e => (if d (n + 2 * e) = 0 then 1 else 0) + (if d (n + 2 * e + 1) = 0 then 1 else 0)), one] at hper
  unfold nbd hbd
  rw [hAs 0]
  omega
theorem dual_sz {fi se : Nat → Nat} {n m : Nat} {b : Nat → Nat} (hfs : hok fi se n m) {M : Nat → Bool} (hM : hfa (gX n fi) (gY n se) (n + 2 * m) (3 * m) (gC n b) M) :
    ∃ N, hfa fi se n m b N ∧ hsz (3 * m) M ≤ m + hsz m N := by
  refine ⟨fun e => M (3 * e) && M (3 * e + 2), ?_, ?_⟩
  · intro v hv
    have h1 := hM v (by omega)
    have hc : gC n b v = b v := if_pos hv
    rw [hc] at h1
    refine Nat.le_trans ?_ h1
    unfold hdg
    rw [su_3]
    refine su_le (fun e he => ?_)
    obtain ⟨hx, hy, hne⟩ := hfs e he
    have k0 : hin (gX n fi) (gY n se) (3 * e) v = ind (fi e) v := by
      unfold hin ind
      rw [gX0, gY0]
      by_cases q : v = fi e
      · rw [if_pos q, if_pos (Or.inl q.symm)]
      · rw [if_neg q, if_neg (by omega)]
    have k2 : hin (gX n fi) (gY n se) (3 * e + 2) v = ind (se e) v := by
      unfold hin ind
      rw [gX2, gY2]
      by_cases q : v = se e
      · rw [if_pos q, if_pos (Or.inr q.symm)]
      · rw [if_neg q, if_neg (by omega)]
    show (M (3 * e) && M (3 * e + 2)).toNat * hin fi se e v ≤ (M (3 * e)).toNat * hin (gX n fi) (gY n se) (3 * e) v + (M (3 * e + 1)).toNat * hin (gX n fi) (gY n se) (3 * e + 1) v + (M (3 * e + 2)).toNat * hin (gX n fi) (gY n se) (3 * e + 2) v
    rw [k0, k2, hin_ind hne]
    cases M (3 * e) <;> cases M (3 * e + 2) <;> simp <;> omega
  · unfold hsz
    rw [su_3]
    have one : ∀ k, su (fun _ => 1) k = k := by
      intro k
      induction k with
      | zero => rfl
      | succ k ih => show su (fun _ => 1) k + 1 = k + 1; rw [ih]
    have e : m + su (fun e => (M (3 * e) && M (3 * e + 2)).toNat) m = su (fun e => 1 + (M (3 * e) && M (3 * e + 2)).toNat) m := by
      rw [su_ad, one]
    rw [e]
    refine su_le (fun e he => ?_)
    have c1 : gC n b (n + 2 * e) = 1 := if_neg (by omega)
    have c2 : gC n b (n + 2 * e + 1) = 1 := if_neg (by omega)
    have h1 := hM (n + 2 * e) (by omega)
    have h2 := hM (n + 2 * e + 1) (by omega)
    rw [c1] at h1
    rw [c2] at h2
    unfold hdg at h1 h2
    rw [su_3] at h1 h2
    have g1 := su_mem (f := fun e' => (M (3 * e')).toNat * hin (gX n fi) (gY n se) (3 * e') (n + 2 * e) + (M (3 * e' + 1)).toNat * hin (gX n fi) (gY n se) (3 * e' + 1) (n + 2 * e) + (M (3 * e' + 2)).toNat * hin (gX n fi) (gY n se) (3 * e' + 2) (n + 2 * e)) he
    have g2 := su_mem (f := fun e' => (M (3 * e')).toNat * hin (gX n fi) (gY n se) (3 * e') (n + 2 * e + 1) + (M (3 * e' + 1)).toNat * hin (gX n fi) (gY n se) (3 * e' + 1) (n + 2 * e + 1) + (M (3 * e' + 2)).toNat * hin (gX n fi) (gY n se) (3 * e' + 2) (n + 2 * e + 1)) he
    have i1 : hin (gX n fi) (gY n se) (3 * e) (n + 2 * e) = 1 := hin_or (Or.inr (gY0 n se e))
    have i2 : hin (gX n fi) (gY n se) (3 * e + 1) (n + 2 * e) = 1 := hin_or (Or.inl (gX1 n fi e))
    have i3 : hin (gX n fi) (gY n se) (3 * e + 1) (n + 2 * e + 1) = 1 := hin_or (Or.inr (gY1 n se e))
    have i4 : hin (gX n fi) (gY n se) (3 * e + 2) (n + 2 * e + 1) = 1 := hin_or (Or.inl (gX2 n fi e))
    simp only [i1, i2, Nat.mul_one] at g1
    simp only [i3, i4, Nat.mul_one] at g2
    have t1 := Nat.le_trans g1 h1
    have t2 := Nat.le_trans g2 h2
    show (M (3 * e)).toNat + (M (3 * e + 1)).toNat + (M (3 * e + 2)).toNat ≤ 1 + (M (3 * e) && M (3 * e + 2)).toNat
    cases h5 : M (3 * e) <;> cases h6 : M (3 * e + 1) <;> cases h7 : M (3 * e + 2) <;> simp [h5, h6, h7] at t1 t2 ⊢
/-- THE THEOREM: some labelling's bound is no more than some fair set has -/
theorem dual {fi se : Nat → Nat} {n m : Nat} (b : Nat → Nat) (hfs : hok fi se n m) : ∃ d N, nva fi se m d ∧ (∀ v, d v < n + 2 * m + 2) ∧ hfa fi se n m b N ∧ nbd fi se n m (n + 2 * m) b d ≤ hsz m N := by
  have hE : hok (gX n fi) (gY n se) (n + 2 * m) (3 * m) := by
    intro j hj
    obtain ⟨e, he, q⟩ := j3 hj
    obtain ⟨h1, h2, h3⟩ := hfs e he
    rcases q with q | q | q <;> subst q
    · rw [gX0, gY0]; omega
    · rw [gX1, gY1]; omega
    · rw [gX2, gY2]; omega
  have hcp' : hcp (gX n fi) (gY n se) (3 * m) (gC n b) := by
    intro j hj
    obtain ⟨e, he, q⟩ := j3 hj
    have c1 : gC n b (n + 2 * e) = 1 := if_neg (by omega)
    have c2 : gC n b (n + 2 * e + 1) = 1 := if_neg (by omega)
    rcases q with q | q | q <;> subst q
    · rw [gX0, gY0, c1]; omega
    · rw [gX1, gY1, c1, c2]; omega
    · rw [gX2, gY2, c2]; omega
  obtain ⟨d, ⟨hv, hd, hopt⟩, hmin⟩ := mn_ex (fun d => hva (gX n fi) (gY n se) (3 * m) d ∧ (∀ v, d v < n + 2 * m + 2) ∧ ∀ M, hmx (gX n fi) (gY n se) (n + 2 * m) (3 * m) (gC n b) M → hbd (n + 2 * m) (gC n b) d ≤ hsz (3 * m) M) (fun d => hA (n + 2 * m) (fun _ => 1) d 0) (tb hE _ (gC n b) rfl hcp')
  obtain ⟨M, hM⟩ := hmx_ex (gX n fi) (gY n se) (n + 2 * m) (3 * m) (gC n b)
  obtain ⟨N, hN, hs⟩ := dual_sz hfs hM.1
  refine ⟨d, N, ?_, hd, hN, ?_⟩
  · intro e he h1 h2
    refine Classical.byContradiction (fun hne => ?_)
    have a0 := hv (3 * e) (by omega)
    have a1 := hv (3 * e + 1) (by omega)
    have a2 := hv (3 * e + 2) (by omega)
    rw [gX0, gY0] at a0
    rw [gX1, gY1] at a1
    rw [gX2, gY2] at a2
    obtain ⟨hx, hy, hxy⟩ := hfs e he
    have c1 : gC n b (n + 2 * e) = 1 := if_neg (by omega)
    have c2 : gC n b (n + 2 * e + 1) = 1 := if_neg (by omega)
    have mv : ∃ h, h < n + 2 * m ∧ gC n b h = 1 ∧ d h = 0 ∧ ∀ j, j < 3 * m → (gX n fi j = h → gY n se j ≠ h ∧ (d (gY n se j) = 0 ∨ d (gY n se j) = d (fi e) ∨ d (gY n se j) = d (se e))) ∧ (gY n se j = h → gX n fi j ≠ h ∧ (d (gX n fi j) = 0 ∨ d (gX n fi j) = d (fi e) ∨ d (gX n fi j) = d (se e))) := by
      by_cases q : d (n + 2 * e) = 0
      · refine ⟨n + 2 * e, by omega, c1, q, fun j hj => ?_⟩
        obtain ⟨e', he', r⟩ := j3 hj
        obtain ⟨hx', hy', _⟩ := hfs e' he'
        rcases r with r | r | r <;> subst r
        · rw [gX0, gY0]
          refine ⟨fun h => by omega, fun h => ?_⟩
          have : e' = e := by omega
          subst this
          exact ⟨by omega, Or.inr (Or.inl rfl)⟩
        · rw [gX1, gY1]
          refine ⟨fun h => ?_, fun h => by omega⟩
          have : e' = e := by omega
          subst this
          exact ⟨by omega, by omega⟩
        · rw [gX2, gY2]
          exact ⟨fun h => by omega, fun h => by omega⟩
      · refine ⟨n + 2 * e + 1, by omega, c2, by omega, fun j hj => ?_⟩
        obtain ⟨e', he', r⟩ := j3 hj
        obtain ⟨hx', hy', _⟩ := hfs e' he'
        rcases r with r | r | r <;> subst r
        · rw [gX0, gY0]
          exact ⟨fun h => by omega, fun h => by omega⟩
        · rw [gX1, gY1]
          refine ⟨fun h => by omega, fun h => ?_⟩
          have : e' = e := by omega
          subst this
          exact ⟨by omega, by omega⟩
        · rw [gX2, gY2]
          refine ⟨fun h => ?_, fun h => by omega⟩
          have : e' = e := by omega
          subst this
          exact ⟨by omega, by omega⟩
    obtain ⟨h, hh, hc, h0, hn⟩ := mv
    obtain ⟨d', m1, m2, m3, m4⟩ := tb_move (c := gC n b) hv hd hh hc h0 h1 h2 (hd _) (hd _) hn
    have := hmin d' ⟨m1, m2, fun K hK => Nat.le_trans m3 (hopt K hK)⟩
    omega
  · have h1 := dual_bd (b := b) hv hd
    have h2 := hopt M hM
    omega
