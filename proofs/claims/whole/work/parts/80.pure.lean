/-! what the calls answer is determined; a graph that is sound stays so -/
theorem eqN {a b : Nat} {x : Int32} (ha : a < 2 ^ 31) (hb : b < 2 ^ 31) (h : x = nI a) (h' : x = nI b) : a = b := (nI_eq ha hb).mp (h.symm.trans h')
theorem begP_un {t r r' : Int32} {s s1 s2 : GrT} (h : begP t r s s1) (h' : begP t r' s s2) : r = r' ∧ s1 = s2 := by
  rcases h with ⟨j, a1, a2, e1, e2, e3⟩ | ⟨a1, e2, e3⟩ <;> rcases h' with ⟨j', b1, b2, f1, f2, f3⟩ | ⟨b1, f2, f3⟩
  · have := eqN (by omega) (by omega) e1 f1
    subst this
    exact ⟨e2.trans f2.symm, e3.trans f3.symm⟩
  · exact absurd ⟨j, a1, a2, e1⟩ b1
  · exact absurd ⟨j', b1, b2, f1⟩ a1
  · exact ⟨e2.trans f2.symm, e3.trans f3.symm⟩
theorem edgP_un {a b r r' : Int32} {s s1 s2 : GrT} (hn : s.1 ≤ 9) (h : edgP a b r s s1) (h' : edgP a b r' s s2) : r = r' ∧ s1 = s2 := by
  rcases h with ⟨i, j, h1, h2, h3, h4, e1, e2, e3, e4⟩ | ⟨h1, e3, e4⟩ <;> rcases h' with ⟨i', j', k1, k2, k3, k4, f1, f2, f3, f4⟩ | ⟨k1, f3, f4⟩
  · have q1 := eqN (by omega) (by omega) e1 f1
    have q2 := eqN (by omega) (by omega) e2 f2
    subst q1; subst q2
    exact ⟨e3.trans f3.symm, e4.trans f4.symm⟩
  · exact absurd ⟨h4, ⟨i, h1, e1⟩, ⟨j, h2, e2⟩, fun z => h3 (eqN (by omega) (by omega) e1 (z.trans e2))⟩ k1
  · exact absurd ⟨k4, ⟨i', k1, f1⟩, ⟨j', k2, f2⟩, fun z => k3 (eqN (by omega) (by omega) f1 (z.trans f2))⟩ h1
  · exact ⟨e3.trans f3.symm, e4.trans f4.symm⟩
theorem drpP_un {a r r' : Int32} {s s1 s2 : GrT} (hm : s.2.1 ≤ 14) (h : drpP a r s s1) (h' : drpP a r' s s2) : r = r' ∧ s1 = s2 := by
  rcases h with ⟨i, h1, e1, e3, e4⟩ | ⟨h1, e3, e4⟩ <;> rcases h' with ⟨i', k1, f1, f3, f4⟩ | ⟨k1, f3, f4⟩
  · have q1 := eqN (by omega) (by omega) e1 f1
    subst q1
    exact ⟨e3.trans f3.symm, e4.trans f4.symm⟩
  · exact absurd ⟨i, h1, e1⟩ k1
  · exact absurd ⟨i', k1, f1⟩ h1
  · exact ⟨e3.trans f3.symm, e4.trans f4.symm⟩
theorem askP_un {a b r r' : Int32} {s s1 s2 : GrT} (hn : s.1 ≤ 9) (h : askP a b r s s1) (h' : askP a b r' s s2) : r = r' ∧ s1 = s2 := by
  rcases h with ⟨i, j, h1, h2, e1, e2, e3, e4⟩ | ⟨h1, e3, e4⟩ <;> rcases h' with ⟨i', j', k1, k2, f1, f2, f3, f4⟩ | ⟨k1, f3, f4⟩
  · have q1 := eqN (by omega) (by omega) e1 f1
    have q2 := eqN (by omega) (by omega) e2 f2
    subst q1; subst q2
    exact ⟨e3.trans f3.symm, e4.trans f4.symm⟩
  · exact absurd ⟨⟨i, h1, e1⟩, ⟨j, by omega, e2⟩⟩ k1
  · exact absurd ⟨⟨i', k1, f1⟩, ⟨j', by omega, f2⟩⟩ h1
  · exact ⟨e3.trans f3.symm, e4.trans f4.symm⟩
def GOKs (s : GrT) : Prop := GOK s.1 s.2.1 s.2.2.1 s.2.2.2.1 s.2.2.2.2
theorem begP_ok {t r : Int32} {s s1 : GrT} (hG : GOKs s) (h : begP t r s s1) : GOKs s1 := by
  rcases h with ⟨j, a1, a2, e1, e2, e3⟩ | ⟨a1, e2, e3⟩
  · subst e3
    exact ⟨a1, a2, Nat.zero_le _, fun e he => absurd he (Nat.not_lt_zero _), fun _ _ => Nat.zero_le _, fun _ _ _ => rfl⟩
  · rw [e3]; exact hG
theorem edgP_ok {a b r : Int32} {s s1 : GrT} (hG : GOKs s) (h : edgP a b r s s1) : GOKs s1 := by
  rcases h with ⟨i, j, h1, h2, h3, h4, e1, e2, e3, e4⟩ | ⟨h1, e3, e4⟩
  · obtain ⟨g1, g2, g3, g4, g5, g6⟩ := hG
    subst e4
    refine ⟨g1, g2, h4, fun e he => ?_, g5, g6⟩
    show nup s.2.2.1 s.2.1 i e < s.1 ∧ nup s.2.2.2.1 s.2.1 j e < s.1 ∧ nup s.2.2.1 s.2.1 i e ≠ nup s.2.2.2.1 s.2.1 j e
    by_cases q : e = s.2.1
    · subst q; rw [nup_s, nup_s]; exact ⟨h1, h2, h3⟩
    · rw [nup_n q, nup_n q]; exact g4 e (by have : e < s.2.1 + 1 := he; omega)
  · rw [e4]; exact hG
theorem drpP_ok {a r : Int32} {s s1 : GrT} (hG : GOKs s) (h : drpP a r s s1) : GOKs s1 := by
  rcases h with ⟨i, h1, e1, e3, e4⟩ | ⟨h1, e3, e4⟩
  · obtain ⟨g1, g2, g3, g4, g5, g6⟩ := hG
    subst e4
    refine ⟨g1, g2, by show s.2.1 - 1 ≤ 14; omega, fun e he => ?_, g5, g6⟩
    have he2 : e < s.2.1 - 1 := he
    show rmF s.2.2.1 i s.2.1 e < s.1 ∧ rmF s.2.2.2.1 i s.2.1 e < s.1 ∧ rmF s.2.2.1 i s.2.1 e ≠ rmF s.2.2.2.1 i s.2.1 e
    unfold rmF
    by_cases q : i ≤ e ∧ e < s.2.1 - 1
    · rw [if_pos q, if_pos q]; exact g4 (e + 1) (by omega)
    · rw [if_neg q, if_neg q]; exact g4 e (by omega)
  · rw [e4]; exact hG
theorem askP_ok {a b r : Int32} {s s1 : GrT} (hG : GOKs s) (h : askP a b r s s1) : GOKs s1 := by
  rcases h with ⟨i, j, h1, h2, e1, e2, e3, e4⟩ | ⟨h1, e3, e4⟩
  · obtain ⟨g1, g2, g3, g4, g5, g6⟩ := hG
    subst e4
    refine ⟨g1, g2, g3, g4, fun v hv => ?_, fun v h8 h9 => ?_⟩
    · show nup s.2.2.2.2 i j v ≤ 14
      by_cases q : v = i
      · subst q; rw [nup_s]; exact h2
      · rw [nup_n q]; exact g5 v hv
    · show nup s.2.2.2.2 i j v = 0
      have h8' : s.1 ≤ v := h8
      rw [nup_n (by omega)]; exact g6 v h8 h9
  · rw [e4]; exact hG
theorem endP_un {e w r r' : Int32} {m : Nat} {fi se : Nat → Nat} (hm : m ≤ 14) (h : endP e w r m fi se) (h' : endP e w r' m fi se) : r = r' := by
  have z01 : (nI 0 : Int32) ≠ nI 1 := by decide
  rcases h with ⟨j, h1, h2, h3⟩ | ⟨h1, h2⟩ <;> rcases h' with ⟨j', k1, k2, k3⟩ | ⟨k1, k2⟩
  · have := eqN (by omega) (by omega) h2 k2
    subst this
    rcases h3 with ⟨a1, a2⟩ | ⟨a1, a2⟩ <;> rcases k3 with ⟨b1, b2⟩ | ⟨b1, b2⟩
    · exact a2.trans b2.symm
    · exact absurd (a1.symm.trans b1) z01
    · exact absurd (b1.symm.trans a1) z01
    · exact a2.trans b2.symm
  · exact absurd ⟨⟨j, h1, h2⟩, by rcases h3 with ⟨a1, _⟩ | ⟨a1, _⟩; exact ⟨0, by omega, a1⟩; exact ⟨1, by omega, a1⟩⟩ k1
  · exact absurd ⟨⟨j', k1, k2⟩, by rcases k3 with ⟨a1, _⟩ | ⟨a1, _⟩; exact ⟨0, by omega, a1⟩; exact ⟨1, by omega, a1⟩⟩ h1
  · exact h2.trans k2.symm
theorem demP_un {v r r' : Int32} {n : Nat} {wa : Nat → Nat} (hn : n ≤ 9) (h : demP v r n wa) (h' : demP v r' n wa) : r = r' := by
  rcases h with ⟨j, h1, h2, h3⟩ | ⟨h1, h2⟩ <;> rcases h' with ⟨j', k1, k2, k3⟩ | ⟨k1, k2⟩
  · have := eqN (by omega) (by omega) h2 k2
    subst this
    exact h3.trans k3.symm
  · exact absurd ⟨j, h1, h2⟩ k1
  · exact absurd ⟨j', k1, k2⟩ h1
  · exact h2.trans k2.symm
theorem p2m {m : Nat} (hm : m ≤ 14) : 2 ^ m ≤ 16384 := p2_le (k := 14) hm
theorem judP_un {x r r' : Int32} {n m : Nat} {fi se wa : Nat → Nat} (hm : m ≤ 14) (h : judP x r n m fi se wa) (h' : judP x r' n m fi se wa) : r = r' := by
  have hp := p2m hm
  rcases h with ⟨j, h1, h2, h3⟩ | ⟨h1, h2⟩ <;> rcases h' with ⟨j', k1, k2, k3⟩ | ⟨k1, k2⟩
  · have := eqN (by omega) (by omega) h2 k2
    subst this
    have hif : isFa fi se wa n m j → hfa fi se n m wa (bm j) := fun z v hv => Nat.le_of_eq (z v hv)
    rcases h3 with ⟨a1, a2⟩ | ⟨a0, a1, a2⟩ | ⟨a1, a2⟩ <;> rcases k3 with ⟨b1, b2⟩ | ⟨b0, b1, b2⟩ | ⟨b1, b2⟩
    · exact a2.trans b2.symm
    · exact absurd a1 b0
    · exact absurd (hif a1) b1
    · exact absurd b1 a0
    · exact a2.trans b2.symm
    · exact absurd a1 b1
    · exact absurd (hif b1) a1
    · exact absurd b1 a1
    · exact a2.trans b2.symm
  · exact absurd ⟨j, h1, h2⟩ k1
  · exact absurd ⟨j', k1, k2⟩ h1
  · exact h2.trans k2.symm
theorem roleQ_un {fi se wa : Nat → Nat} {m : Nat} {p r r' : Int32} (hm : m ≤ 14) (h : roleQ fi se wa m p r) (h' : roleQ fi se wa m p r') : r = r' := by
  rcases h with ⟨j, h1, h2, h3⟩ | ⟨h1, h2⟩ <;> rcases h' with ⟨j', k1, k2, k3⟩ | ⟨k1, k2⟩
  · have := eqN (by omega) (by omega) h2 k2
    subst this
    exact roleP_un h3 k3
  · exact absurd ⟨j, h1, h2⟩ k1
  · exact absurd ⟨j', k1, k2⟩ h1
  · exact h2.trans k2.symm
theorem slkQ_un {fi se wa : Nat → Nat} {n m : Nat} {p r r' : Int32} (hn : n ≤ 9) (h : slkQ fi se wa n m p r) (h' : slkQ fi se wa n m p r') : r = r' := by
  rcases h with ⟨j, h1, h2, h3⟩ | ⟨h1, h2⟩ <;> rcases h' with ⟨j', k1, k2, k3⟩ | ⟨k1, k2⟩
  · have := eqN (by omega) (by omega) h2 k2
    subst this
    exact slkP_un h3 k3
  · exact absurd ⟨j, h1, h2⟩ k1
  · exact absurd ⟨j', k1, k2⟩ h1
  · exact h2.trans k2.symm
theorem gnQ_un {fi se wa : Nat → Nat} {n m : Nat} {p r r' : Int32} (hn : n ≤ 9) (h : gnQ fi se wa n m p r) (h' : gnQ fi se wa n m p r') : r = r' := by
  rcases h with ⟨j, h1, h2, h3⟩ | ⟨h1, h2⟩ <;> rcases h' with ⟨j', k1, k2, k3⟩ | ⟨k1, k2⟩
  · have := eqN (by omega) (by omega) h2 k2
    subst this
    exact gnP_un h3 k3
  · exact absurd ⟨j, h1, h2⟩ k1
  · exact absurd ⟨j', k1, k2⟩ h1
  · exact h2.trans k2.symm
theorem bndQ_un {fi se wa : Nat → Nat} {n m : Nat} {p q r r' : Int32} (hn : n ≤ 9) (h : bndQ fi se wa n m p q r) (h' : bndQ fi se wa n m p q r') : r = r' := by
  have hp := p2m (m := n) (by omega)
  rcases h with ⟨i, j, h1, h2, h3, e1, e2, e3⟩ | ⟨h1, e3⟩ <;> rcases h' with ⟨i', j', k1, k2, k3, f1, f2, f3⟩ | ⟨k1, f3⟩
  · have q1 := eqN (by omega) (by omega) e1 f1
    have q2 := eqN (by omega) (by omega) e2 f2
    subst q1; subst q2
    exact e3.trans f3.symm
  · exact absurd ⟨i, j, h1, h2, h3, e1, e2⟩ k1
  · exact absurd ⟨i', j', k1, k2, k3, f1, f2⟩ h1
  · exact e3.trans f3.symm
theorem witQ_un {fi se wa : Nat → Nat} {n m : Nat} {q r r' : Int32} (hn : n ≤ 9) (h : witQ fi se wa n m q r) (h' : witQ fi se wa n m q r') : r = r' := by
  have z01 : (nI 0 : Int32) ≠ nI 1 := by decide
  rcases h with ⟨u, w, h1, h3⟩ | ⟨h1, h2⟩ <;> rcases h' with ⟨u', w', k1, k3⟩ | ⟨k1, k2⟩
  · obtain ⟨q1, q2⟩ := isWit_un hn h1 k1
    subst q1; subst q2
    rcases h3 with ⟨a1, a2⟩ | ⟨a1, a2⟩ <;> rcases k3 with ⟨b1, b2⟩ | ⟨b1, b2⟩
    · exact a2.trans b2.symm
    · exact absurd (a1.symm.trans b1) z01
    · exact absurd (b1.symm.trans a1) z01
    · exact a2.trans b2.symm
  · exact absurd (by rcases h3 with ⟨a1, _⟩ | ⟨a1, _⟩; exact ⟨0, by omega, a1⟩; exact ⟨1, by omega, a1⟩) k1
  · exact absurd (by rcases k3 with ⟨a1, _⟩ | ⟨a1, _⟩; exact ⟨0, by omega, a1⟩; exact ⟨1, by omega, a1⟩) h1
  · exact h2.trans k2.symm
/-- what is known stays right, or is forgotten -/
theorem kn_keep {s s1 : GrT} {so ta ex bs bc wu ww al : Int32} {wt is pt : Nat → Nat} {u : AnT} (hS : knS s.2.2.1 s.2.2.2.1 s.2.2.2.2 s.2.1 so bs bc) (hT : knT s.2.2.1 s.2.2.2.1 s.2.2.2.2 s.1 s.2.1 ta al wt is pt) (hE : knE s.2.2.1 s.2.2.2.1 s.2.2.2.2 s.1 s.2.1 ex wu ww) (h : (u = (so, ta, ex, bs, bc, wu, ww) ∧ s1 = s) ∨ u = (nI 0, nI 0, nI 0, bs, bc, wu, ww)) :
    knS s1.2.2.1 s1.2.2.2.1 s1.2.2.2.2 s1.2.1 u.1 u.2.2.2.1 u.2.2.2.2.1 ∧ knT s1.2.2.1 s1.2.2.2.1 s1.2.2.2.2 s1.1 s1.2.1 u.2.1 al wt is pt ∧ knE s1.2.2.1 s1.2.2.2.1 s1.2.2.2.2 s1.1 s1.2.1 u.2.2.1 u.2.2.2.2.2.1 u.2.2.2.2.2.2 := by
  rcases h with ⟨e1, e2⟩ | e1
  · subst e1; subst e2
    exact ⟨hS, hT, hE⟩
  · subst e1
    exact ⟨Or.inl rfl, Or.inl rfl, Or.inl rfl⟩
