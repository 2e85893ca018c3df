/-! the graph as the search has it: without one of its edges, or with all -/
def ldN (e w : Nat) : Nat := if e ≤ w then e else e - 1
def sk (w j : Nat) : Nat := if j < w then j else j + 1
def ldI (fi se : Nat → Nat) (w e : Nat) (hd tl : Nat → Nat) (TW : Nat → Int32) (ah : Nat → Nat) : Prop :=
  hok hd tl 9 (ldN e w) ∧ twOK hd tl TW (ldN e w) ∧ (∀ j, j < ldN e w → hd j = min (fi (sk w j)) (se (sk w j)) ∧ tl j = max (fi (sk w j)) (se (sk w j))) ∧ ∀ v, v < 9 → ah v = su (fun j => hin hd tl j v) (ldN e w)
theorem ldN_le (e w : Nat) : ldN e w ≤ e := by unfold ldN; split <;> omega
theorem ldN_s {e w : Nat} (h : e = w) : ldN (e + 1) w = ldN e w := by unfold ldN; rw [if_neg (by omega), if_pos (by omega)]; omega
theorem ldN_n {e w : Nat} (h : e ≠ w) : ldN (e + 1) w = ldN e w + 1 := by
  unfold ldN
  by_cases q : e ≤ w
  · rw [if_pos (by omega), if_pos q]
  · rw [if_neg (by omega), if_neg q]; omega
theorem sk_N {e w : Nat} (h : e ≠ w) : sk w (ldN e w) = e := by
  unfold sk ldN
  by_cases q : e ≤ w
  · rw [if_pos q, if_pos (by omega)]
  · rw [if_neg q, if_neg (by omega)]; omega
theorem ld_0 (fi se : Nat → Nat) (w : Nat) (hd tl : Nat → Nat) (TW : Nat → Int32) : ldI fi se w 0 hd tl TW (fun _ => 0) := by
  have e : ldN 0 w = 0 := by unfold ldN; rw [if_pos (by omega)]
  refine ⟨?_, ?_, ?_, ?_⟩ <;> rw [e]
  · intro j hj; omega
  · intro j hj; omega
  · intro j hj; omega
  · intro v _; rfl
theorem ld_skip {fi se : Nat → Nat} {w e : Nat} {hd tl : Nat → Nat} {TW : Nat → Int32} {ah : Nat → Nat} (h : e = w) (hI : ldI fi se w e hd tl TW ah) : ldI fi se w (e + 1) hd tl TW ah := by
  unfold ldI at hI ⊢
  rw [ldN_s h]; exact hI
theorem ld_take {fi se : Nat → Nat} {w e : Nat} {hd tl : Nat → Nat} {TW u : Nat → Int32} {ah : Nat → Nat} (h : e ≠ w) (hf : fi e < 9) (hs : se e < 9) (hfs : fi e ≠ se e) (hI : ldI fi se w e hd tl TW ah)
    (hu : (∀ j, j ≠ ldN e w → u j = TW j) ∧ (u (ldN e w) = -1 ∨ ∃ i, i < ldN e w ∧ u (ldN e w) = nI i ∧ hd i = min (fi e) (se e) ∧ tl i = max (fi e) (se e))) :
    ldI fi se w (e + 1) (nup hd (ldN e w) (min (fi e) (se e))) (nup tl (ldN e w) (max (fi e) (se e))) u (up2 ah (min (fi e) (se e)) (max (fi e) (se e))) := by
  obtain ⟨h1, h2, h3, h4⟩ := hI
  obtain ⟨u1, u2⟩ := hu
  unfold ldI
  rw [ldN_n h]
  have hsk := sk_N h
  generalize ldN e w = N at *
  have lo : ∀ (f : Nat → Nat) (x j : Nat), j < N → nup f N x j = f j := fun f x j hj => nup_n (by omega)
  refine ⟨?_, ?_, ?_, ?_⟩
  · intro j hj
    by_cases q : j = N
    · subst q; rw [nup_s, nup_s]; omega
    · rw [lo _ _ j (by omega), lo _ _ j (by omega)]; exact h1 j (by omega)
  · intro j hj
    by_cases q : j = N
    · subst q
      rcases u2 with z | ⟨i, hi, z1, z2, z3⟩
      · exact Or.inl z
      · exact Or.inr ⟨i, hi, z1, by rw [nup_s, lo _ _ i hi]; exact z2, by rw [nup_s, lo _ _ i hi]; exact z3⟩
    · rw [u1 j q]
      rcases h2 j (by omega) with z | ⟨i, hi, z1, z2, z3⟩
      · exact Or.inl z
      · exact Or.inr ⟨i, hi, z1, by rw [lo _ _ i (by omega), lo _ _ j (by omega)]; exact z2, by rw [lo _ _ i (by omega), lo _ _ j (by omega)]; exact z3⟩
  · intro j hj
    by_cases q : j = N
    · subst q; rw [nup_s, nup_s, hsk]; exact ⟨rfl, rfl⟩
    · rw [lo _ _ j (by omega), lo _ _ j (by omega)]; exact h3 j (by omega)
  · intro v hv
    have hne : min (fi e) (se e) ≠ max (fi e) (se e) := by omega
    rw [up2_v hne, h4 v hv]
    show _ = su (fun j => hin (nup hd N (min (fi e) (se e))) (nup tl N (max (fi e) (se e))) j v) N + hin (nup hd N (min (fi e) (se e))) (nup tl N (max (fi e) (se e))) N v
    have e1 : hin (nup hd N (min (fi e) (se e))) (nup tl N (max (fi e) (se e))) N v = ind (min (fi e) (se e)) v + ind (max (fi e) (se e)) v := by
      rw [hin_ind (by rw [nup_s, nup_s]; exact hne), nup_s, nup_s]
    have e2 : su (fun j => hin (nup hd N (min (fi e) (se e))) (nup tl N (max (fi e) (se e))) j v) N = su (fun j => hin hd tl j v) N := su_cg (fun j hj => by
      show (if _ then 1 else 0) = (if _ then 1 else 0)
      rw [lo _ _ j hj, lo _ _ j hj])
    rw [e1, e2]
