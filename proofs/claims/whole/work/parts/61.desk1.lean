abbrev SrT : Type := Nat × (Nat → Nat) × (Nat → Nat) × (Nat → Int32) × (Nat → Int32) × (Nat → Int32) × Int32 × Int32 × Int32
abbrev BdT : Type := (Nat → Nat) × (Nat → Nat) × (Nat → Nat) × (Nat → Nat) × Int32 × Int32 × Int32
theorem nI_m1 {e : Nat} (h : e < 2 ^ 31) : nI e ≠ -1 := by
  intro q
  have : (-1 : Int32) < 0 := by decide
  rw [← q] at this
  exact nI_pos h this
theorem wo_m1 {m : Nat} (hm : m ≤ 14) : ∀ e, e < m → (nI e = -1 ↔ e = 100) := fun e he => ⟨fun q => absurd q (nI_m1 (by omega)), fun q => by omega⟩
theorem wo_e {m j : Nat} (hm : m ≤ 14) (hj : j < m) : ∀ e, e < m → (nI e = nI j ↔ e = j) := fun e he => nI_eq (by omega) (by omega)
/-- what is known -/
def knS (fi se wa : Nat → Nat) (m : Nat) (so bs bc : Int32) : Prop := so = nI 0 ∨ (so = nI 1 ∧ ∃ B, B < 2 ^ m ∧ bst fi se 9 m wa (bm B) ∧ bs = nI B ∧ bc = nI (hsz m (bm B)))
def knT (fi se wa : Nat → Nat) (n m : Nat) (ta al : Int32) (wt is pt : Nat → Nat) : Prop := ta = nI 0 ∨ (ta = nI 1 ∧ al = nI (2 ^ n - 1) ∧ tabOK fi se wa n m wt is pt)
def knE (fi se wa : Nat → Nat) (n m : Nat) (ex wu ww : Int32) : Prop := ex = nI 0 ∨ (ex = nI 1 ∧ ∃ u w, isWit fi se wa n m u w ∧ wu = nI u ∧ ww = nI w)
set_option maxHeartbeats 4000000 in
set_option maxRecDepth 100000 in
/-- is there a fair set of so many edges, the demand of v being d -/
theorem kF_reachesWith (l : Launch) (D : va_G) (cA : ClassId) (x k h s b1 b2 b3 b4 b5 g a1 a2 a3 o1 o2 o3 o4 o5 : Nat) (N : Nat) (hd tl : Nat → Nat) (TW LF AH : Nat → Int32) (en fs fc : Int32) (n m : Nat) (fi se wa : Nat → Nat) (hG : GOK n m fi se wa) (v d t : Nat) (hv : v < 9) (hd9 : d ≤ 50) (ht : t ≤ 20) : CtI (S := SrT) l yF_reachesWith (.code yF_reachesWith cF_reachesWith 4 (some .boolean)) 21 0 0 D cA [.ref x, .int (nI v), .int (nI d), .int (nI t)] [(x, .inr (4, [.ref g, .ref s, .ref h, .ref k])), (s, .inr (3, [.int (nI N), .ref b1, .ref b2, .ref b3, .ref b4, .ref b5, .int en, .int fs, .int fc])), (b1, .inl (cA, 14, .inl (aN hd))), (b2, .inl (cA, 14, .inl (aN tl))), (b3, .inl (cA, 14, .inl TW)), (b4, .inl (cA, 9, .inl LF)), (b5, .inl (cA, 9, .inl AH)), (g, .inr (2, [.int (nI n), .int (nI m), .ref a1, .ref a2, .ref a3])), (a1, .inl (cA, 14, .inl (aN fi))), (a2, .inl (cA, 14, .inl (aN se))), (a3, .inl (cA, 9, .inl (aN wa)))] (fun r _ => (r = nI 1 ∧ rea fi se m (nup wa v d) t) ∨ (r = nI 0 ∧ ¬ rea fi se m (nup wa v d) t)) (fun u => [(x, .inr (4, [.ref g, .ref s, .ref h, .ref k])), (s, .inr (3, [.int (nI u.1), .ref b1, .ref b2, .ref b3, .ref b4, .ref b5, .int u.2.2.2.2.2.2.1, .int u.2.2.2.2.2.2.2.1, .int u.2.2.2.2.2.2.2.2])), (b1, .inl (cA, 14, .inl (aN u.2.1))), (b2, .inl (cA, 14, .inl (aN u.2.2.1))), (b3, .inl (cA, 14, .inl u.2.2.2.1)), (b4, .inl (cA, 9, .inl u.2.2.2.2.1)), (b5, .inl (cA, 9, .inl u.2.2.2.2.2.1)), (g, .inr (2, [.int (nI n), .int (nI m), .ref a1, .ref a2, .ref a3])), (a1, .inl (cA, 14, .inl (aN fi))), (a2, .inl (cA, 14, .inl (aN se))), (a3, .inl (cA, 9, .inl (aN wa)))]) := by
  refine mkI [(0, .ref x), (1, .int (nI v)), (2, .int (nI d)), (3, .int (nI t))] (by decide) rfl (Nat.le_of_ble_eq_true rfl) ?_
  intro E A Q hE C hA hret
  obtain ⟨g1, g2, g3, g4, g5, g6⟩ := hG
  refine s_aload_n 0 C dF_reachesWith_0 rfl ?_
  refine s_get (.ref s) 0 1 C wfP inF flF_19 dF_reachesWith_1 rfl rfl (by decide) rfl ?_
  refine s_aload_n 0 C dF_reachesWith_4 rfl ?_
  refine s_get (.ref g) 0 0 C wfP inF flF_12 dF_reachesWith_5 rfl rfl (by decide) rfl ?_
  refine s_iconst (-1) C dF_reachesWith_8 (by decide) ?_
  refine s_callV (n := 2) (wr := [(x, .inr (4, [.ref g, .ref s, .ref h, .ref k]))]) [1, 2, 3, 4, 5, 6, 7, 8, 9, 10] [0] 0 [] C hA (kS_load E.2.1 D cA s b1 b2 b3 b4 b5 N hd tl TW LF AH en fs fc g a1 a2 a3 n m fi se wa 100 (-1) g3 (hok_9 g2 g4) (wo_m1 g3)) gF_92 dF_reachesWith_9 (by decide +kernel) rfl rfl (by decide) (by decide) (by decide) rfl rfl rfl (by decide) (by decide) rfl rfl (Nat.le_of_ble_eq_true rfl) (Nat.zero_le _) (Nat.zero_le _) (fun u hu => ?_)
  refine s_sub (ws' := [(x, .inr (4, [.ref g, .ref s, .ref h, .ref k])), (s, .inr (3, [.int (nI (ldN m 100)), .ref b1, .ref b2, .ref b3, .ref b4, .ref b5, .int en, .int fs, .int fc])), (b1, .inl (cA, 14, .inl (aN u.1))), (b2, .inl (cA, 14, .inl (aN u.2.1))), (b3, .inl (cA, 14, .inl u.2.2.1)), (b4, .inl (cA, 9, .inl (aN wa))), (b5, .inl (cA, 9, .inl (aN u.2.2.2))), (g, .inr (2, [.int (nI n), .int (nI m), .ref a1, .ref a2, .ref a3])), (a1, .inl (cA, 14, .inl (aN fi))), (a2, .inl (cA, 14, .inl (aN se))), (a3, .inl (cA, 9, .inl (aN wa)))]) [0, 1, 2, 3, 4, 5, 6, 7, 8, 9, 10] rfl (by decide) ?_
  have eN : ldN m 100 = m := ldN_full (by omega)
  refine s_aload_n 0 C dF_reachesWith_12 rfl ?_
  refine s_get (.ref s) 0 1 C wfP inF flF_19 dF_reachesWith_13 rfl rfl (by decide) rfl ?_
  refine s_get (.ref b4) 1 4 C wfP inS flF_152 dF_reachesWith_16 rfl rfl (by decide) rfl ?_
  refine s_iload_n 1 C dF_reachesWith_19 rfl ?_
  refine s_iload_n 2 C dF_reachesWith_20 rfl ?_
  refine s_iastN 5 [(x, .inr (4, [.ref g, .ref s, .ref h, .ref k])), (s, .inr (3, [.int (nI (ldN m 100)), .ref b1, .ref b2, .ref b3, .ref b4, .ref b5, .int en, .int fs, .int fc])), (b1, .inl (cA, 14, .inl (aN u.1))), (b2, .inl (cA, 14, .inl (aN u.2.1))), (b3, .inl (cA, 14, .inl u.2.2.1)), (b4, .inl (cA, 9, .inl (aN (nup wa v d)))), (b5, .inl (cA, 9, .inl (aN u.2.2.2))), (g, .inr (2, [.int (nI n), .int (nI m), .ref a1, .ref a2, .ref a3])), (a1, .inl (cA, 14, .inl (aN fi))), (a2, .inl (cA, 14, .inl (aN se))), (a3, .inl (cA, 9, .inl (aN wa)))] C dF_reachesWith_21 rfl (by omega) (by decide) rfl ?_
  refine s_aload_n 0 C dF_reachesWith_22 rfl ?_
  refine s_get (.ref s) 0 1 C wfP inF flF_19 dF_reachesWith_23 rfl rfl (by decide) rfl ?_
  refine s_iload_n 3 C dF_reachesWith_26 rfl ?_
  refine s_callI (n := 1) (wr := [(x, .inr (4, [.ref g, .ref s, .ref h, .ref k])), (g, .inr (2, [.int (nI n), .int (nI m), .ref a1, .ref a2, .ref a3])), (a1, .inl (cA, 14, .inl (aN fi))), (a2, .inl (cA, 14, .inl (aN se))), (a3, .inl (cA, 9, .inl (aN wa)))]) [1, 2, 3, 4, 5, 6] [0, 7, 8, 9, 10] 0 [] C hA (kS_reaches E.2.1 D cA s b1 b2 b3 b4 b5 (ldN m 100) u.1 u.2.1 (nup wa v d) u.2.2.2 u.2.2.1 en fs fc t ht (by rw [eN]; exact g3) hu.1 hu.2.1 (fun z hz => by have := g5 z hz; unfold nup; split <;> omega) hu.2.2.2) gF_96 dF_reachesWith_27 (by decide +kernel) rfl rfl (by decide) (by decide) (by decide) rfl rfl rfl (by decide) (by decide) rfl rfl (Nat.le_of_ble_eq_true rfl) (Nat.zero_le _) (Nat.zero_le _) (fun r q hq => ?_)
  refine s_sub (ws' := [(x, .inr (4, [.ref g, .ref s, .ref h, .ref k])), (s, .inr (3, [.int (nI (ldN m 100)), .ref b1, .ref b2, .ref b3, .ref b4, .ref b5, .int (nI t), .int (nI q.1), .int (nI q.2 - 1)])), (b1, .inl (cA, 14, .inl (aN u.1))), (b2, .inl (cA, 14, .inl (aN u.2.1))), (b3, .inl (cA, 14, .inl u.2.2.1)), (b4, .inl (cA, 9, .inl (aN (nup wa v d)))), (b5, .inl (cA, 9, .inl (aN u.2.2.2))), (g, .inr (2, [.int (nI n), .int (nI m), .ref a1, .ref a2, .ref a3])), (a1, .inl (cA, 14, .inl (aN fi))), (a2, .inl (cA, 14, .inl (aN se))), (a3, .inl (cA, 9, .inl (aN wa)))]) [0, 5, 6, 7, 8, 9, 10, 1, 2, 3, 4] rfl (by decide) ?_
  have hiff : (∃ M, hfa u.1 u.2.1 9 (ldN m 100) (nup wa v d) M ∧ t ≤ hsz (ldN m 100) M) ↔ rea fi se m (nup wa v d) t := by
    rw [eN]
    unfold rea
    constructor
    · rintro ⟨M, h1, h2⟩; exact ⟨M, (hfa_hin (ld_full (by omega) hu)).mp h1, h2⟩
    · rintro ⟨M, h1, h2⟩; exact ⟨M, (hfa_hin (ld_full (by omega) hu)).mpr h1, h2⟩
  rw [hiff] at hq
  refine hret _ (ldN m 100, u.1, u.2.1, u.2.2.1, aN (nup wa v d), aN u.2.2.2, nI t, nI q.1, nI q.2 - 1) _ _ dF_reachesWith_30 ?_ hq
  rcases hq with q | q <;> rw [q.1] <;> rfl
set_option maxHeartbeats 4000000 in
set_option maxRecDepth 100000 in
/-- the best set is known -/
theorem kF_solve (l : Launch) (D : va_G) (cA : ClassId) (x k h s b1 b2 b3 b4 b5 g a1 a2 a3 o1 o2 o3 o4 o5 : Nat) (N : Nat) (hd tl : Nat → Nat) (TW LF AH : Nat → Int32) (en fs fc : Int32) (n m : Nat) (fi se wa : Nat → Nat) (so ta ex bs bc wu ww : Int32) (hG : GOK n m fi se wa) (hS : knS fi se wa m so bs bc) : CtV (S := SrT × Int32 × Int32) l yF_solve (.code yF_solve cF_solve 1 none) 21 0 0 D cA [.ref x] [(x, .inr (4, [.ref g, .ref s, .ref h, .ref k])), (s, .inr (3, [.int (nI N), .ref b1, .ref b2, .ref b3, .ref b4, .ref b5, .int en, .int fs, .int fc])), (b1, .inl (cA, 14, .inl (aN hd))), (b2, .inl (cA, 14, .inl (aN tl))), (b3, .inl (cA, 14, .inl TW)), (b4, .inl (cA, 9, .inl LF)), (b5, .inl (cA, 9, .inl AH)), (g, .inr (2, [.int (nI n), .int (nI m), .ref a1, .ref a2, .ref a3])), (a1, .inl (cA, 14, .inl (aN fi))), (a2, .inl (cA, 14, .inl (aN se))), (a3, .inl (cA, 9, .inl (aN wa))), (k, .inr (0, [.int so, .int ta, .int ex, .int bs, .int bc, .int wu, .int ww]))] (fun u => ∃ B, B < 2 ^ m ∧ bst fi se 9 m wa (bm B) ∧ u.2.1 = nI B ∧ u.2.2 = nI (hsz m (bm B))) (fun u => [(x, .inr (4, [.ref g, .ref s, .ref h, .ref k])), (s, .inr (3, [.int (nI u.1.1), .ref b1, .ref b2, .ref b3, .ref b4, .ref b5, .int u.1.2.2.2.2.2.2.1, .int u.1.2.2.2.2.2.2.2.1, .int u.1.2.2.2.2.2.2.2.2])), (b1, .inl (cA, 14, .inl (aN u.1.2.1))), (b2, .inl (cA, 14, .inl (aN u.1.2.2.1))), (b3, .inl (cA, 14, .inl u.1.2.2.2.1)), (b4, .inl (cA, 9, .inl u.1.2.2.2.2.1)), (b5, .inl (cA, 9, .inl u.1.2.2.2.2.2.1)), (g, .inr (2, [.int (nI n), .int (nI m), .ref a1, .ref a2, .ref a3])), (a1, .inl (cA, 14, .inl (aN fi))), (a2, .inl (cA, 14, .inl (aN se))), (a3, .inl (cA, 9, .inl (aN wa))), (k, .inr (0, [.int (nI 1), .int ta, .int ex, .int u.2.1, .int u.2.2, .int wu, .int ww]))]) := by
  refine mkV [(0, .ref x)] (by decide) rfl (Nat.le_of_ble_eq_true rfl) ?_
  intro E A Q hE hi C hA hret
  obtain ⟨g1, g2, g3, g4, g5, g6⟩ := hG
  rcases hS with hS | ⟨hS, B, hB1, hB2, hB3, hB4⟩
  · subst hS
    refine s_aload_n 0 C dF_solve_0 rfl ?_
    refine s_get (.ref k) 0 3 C wfP inF flF_33 dF_solve_1 rfl rfl (by decide) rfl ?_
    refine s_get (.int (nI 0)) 11 0 C wfP inA flF_121 dF_solve_4 rfl rfl (by decide) rfl ?_
    refine s_if_neN 65 C dF_solve_7 (by decide) (by decide) (fun c1 => ?_) (fun c1 => ?_)
    · exact absurd rfl c1
    · refine s_aload_n 0 C dF_solve_10 rfl ?_
      refine s_get (.ref s) 0 1 C wfP inF flF_19 dF_solve_11 rfl rfl (by decide) rfl ?_
      refine s_aload_n 0 C dF_solve_14 rfl ?_
      refine s_get (.ref g) 0 0 C wfP inF flF_12 dF_solve_15 rfl rfl (by decide) rfl ?_
      refine s_iconst (-1) C dF_solve_18 (by decide) ?_
      refine s_callV (n := 2) (wr := [(x, .inr (4, [.ref g, .ref s, .ref h, .ref k])), (k, .inr (0, [.int (nI 0), .int ta, .int ex, .int bs, .int bc, .int wu, .int ww]))]) [1, 2, 3, 4, 5, 6, 7, 8, 9, 10] [0, 11] 0 [] C hA (kS_load E.2.1 D cA s b1 b2 b3 b4 b5 N hd tl TW LF AH en fs fc g a1 a2 a3 n m fi se wa 100 (-1) g3 (hok_9 g2 g4) (wo_m1 g3)) gF_92 dF_solve_19 (by decide +kernel) rfl rfl (by decide) (by decide) (by decide) rfl rfl rfl (by decide) (by decide) rfl rfl (Nat.le_of_ble_eq_true rfl) (Nat.zero_le _) (Nat.zero_le _) (fun u hu => ?_)
      refine s_sub (ws' := [(x, .inr (4, [.ref g, .ref s, .ref h, .ref k])), (s, .inr (3, [.int (nI (ldN m 100)), .ref b1, .ref b2, .ref b3, .ref b4, .ref b5, .int en, .int fs, .int fc])), (b1, .inl (cA, 14, .inl (aN u.1))), (b2, .inl (cA, 14, .inl (aN u.2.1))), (b3, .inl (cA, 14, .inl u.2.2.1)), (b4, .inl (cA, 9, .inl (aN wa))), (b5, .inl (cA, 9, .inl (aN u.2.2.2))), (g, .inr (2, [.int (nI n), .int (nI m), .ref a1, .ref a2, .ref a3])), (a1, .inl (cA, 14, .inl (aN fi))), (a2, .inl (cA, 14, .inl (aN se))), (a3, .inl (cA, 9, .inl (aN wa))), (k, .inr (0, [.int (nI 0), .int ta, .int ex, .int bs, .int bc, .int wu, .int ww]))]) [0, 2, 3, 4, 5, 6, 7, 8, 9, 10, 11, 1] rfl (by decide) ?_
      have eN : ldN m 100 = m := ldN_full (by omega)
      refine s_aload_n 0 C dF_solve_22 rfl ?_
      refine s_get (.ref s) 0 1 C wfP inF flF_19 dF_solve_23 rfl rfl (by decide) rfl ?_
      refine s_callV (n := 0) (wr := [(x, .inr (4, [.ref g, .ref s, .ref h, .ref k])), (g, .inr (2, [.int (nI n), .int (nI m), .ref a1, .ref a2, .ref a3])), (a1, .inl (cA, 14, .inl (aN fi))), (a2, .inl (cA, 14, .inl (aN se))), (a3, .inl (cA, 9, .inl (aN wa))), (k, .inr (0, [.int (nI 0), .int ta, .int ex, .int bs, .int bc, .int wu, .int ww]))]) [1, 2, 3, 4, 5, 6] [0, 7, 8, 9, 10, 11] 0 [] C hA (kS_maximize E.2.1 D cA s b1 b2 b3 b4 b5 (ldN m 100) u.1 u.2.1 wa u.2.2.2 u.2.2.1 en fs fc (by rw [eN]; exact g3) hu.1 hu.2.1 (fun z hz => by have := g5 z hz; omega) hu.2.2.2) gF_125 dF_solve_26 (by decide +kernel) rfl rfl (by decide) (by decide) (by decide) rfl rfl rfl (by decide) (by decide) rfl rfl (Nat.le_of_ble_eq_true rfl) (Nat.zero_le _) (Nat.zero_le _) (fun q hq => ?_)
      refine s_sub (ws' := [(x, .inr (4, [.ref g, .ref s, .ref h, .ref k])), (s, .inr (3, [.int (nI (ldN m 100)), .ref b1, .ref b2, .ref b3, .ref b4, .ref b5, .int (nI (ldN m 100)), .int (nI q.1), .int (nI q.2 - 1)])), (b1, .inl (cA, 14, .inl (aN u.1))), (b2, .inl (cA, 14, .inl (aN u.2.1))), (b3, .inl (cA, 14, .inl u.2.2.1)), (b4, .inl (cA, 9, .inl (aN wa))), (b5, .inl (cA, 9, .inl (aN u.2.2.2))), (g, .inr (2, [.int (nI n), .int (nI m), .ref a1, .ref a2, .ref a3])), (a1, .inl (cA, 14, .inl (aN fi))), (a2, .inl (cA, 14, .inl (aN se))), (a3, .inl (cA, 9, .inl (aN wa))), (k, .inr (0, [.int (nI 0), .int ta, .int ex, .int bs, .int bc, .int wu, .int ww]))]) [0, 6, 7, 8, 9, 10, 11, 1, 2, 3, 4, 5] rfl (by decide) ?_
      refine s_aload_n 0 C dF_solve_29 rfl ?_
      refine s_get (.ref k) 0 3 C wfP inF flF_33 dF_solve_30 rfl rfl (by decide) rfl ?_
      refine s_aload_n 0 C dF_solve_33 rfl ?_
      refine s_get (.ref s) 0 1 C wfP inF flF_19 dF_solve_34 rfl rfl (by decide) rfl ?_
      refine s_get (.int (nI q.1)) 1 7 C wfP inS flF_128 dF_solve_37 rfl rfl (by decide) rfl ?_
      refine s_put 11 3 [(x, .inr (4, [.ref g, .ref s, .ref h, .ref k])), (s, .inr (3, [.int (nI (ldN m 100)), .ref b1, .ref b2, .ref b3, .ref b4, .ref b5, .int (nI (ldN m 100)), .int (nI q.1), .int (nI q.2 - 1)])), (b1, .inl (cA, 14, .inl (aN u.1))), (b2, .inl (cA, 14, .inl (aN u.2.1))), (b3, .inl (cA, 14, .inl u.2.2.1)), (b4, .inl (cA, 9, .inl (aN wa))), (b5, .inl (cA, 9, .inl (aN u.2.2.2))), (g, .inr (2, [.int (nI n), .int (nI m), .ref a1, .ref a2, .ref a3])), (a1, .inl (cA, 14, .inl (aN fi))), (a2, .inl (cA, 14, .inl (aN se))), (a3, .inl (cA, 9, .inl (aN wa))), (k, .inr (0, [.int (nI 0), .int ta, .int ex, .int (nI q.1), .int bc, .int wu, .int ww]))] C inA tyA_ok nmA flF_85 dF_solve_40 rfl rfl (by decide) rfl rfl rfl (Nat.le_of_ble_eq_true rfl) rfl ?_
      refine s_aload_n 0 C dF_solve_43 rfl ?_
      refine s_get (.ref k) 0 3 C wfP inF flF_33 dF_solve_44 rfl rfl (by decide) rfl ?_
      refine s_aload_n 0 C dF_solve_47 rfl ?_
      refine s_get (.ref s) 0 1 C wfP inF flF_19 dF_solve_48 rfl rfl (by decide) rfl ?_
      refine s_get (.int (nI q.2 - 1)) 1 8 C wfP inS flF_131 dF_solve_51 rfl rfl (by decide) rfl ?_
      refine s_put 11 4 [(x, .inr (4, [.ref g, .ref s, .ref h, .ref k])), (s, .inr (3, [.int (nI (ldN m 100)), .ref b1, .ref b2, .ref b3, .ref b4, .ref b5, .int (nI (ldN m 100)), .int (nI q.1), .int (nI q.2 - 1)])), (b1, .inl (cA, 14, .inl (aN u.1))), (b2, .inl (cA, 14, .inl (aN u.2.1))), (b3, .inl (cA, 14, .inl u.2.2.1)), (b4, .inl (cA, 9, .inl (aN wa))), (b5, .inl (cA, 9, .inl (aN u.2.2.2))), (g, .inr (2, [.int (nI n), .int (nI m), .ref a1, .ref a2, .ref a3])), (a1, .inl (cA, 14, .inl (aN fi))), (a2, .inl (cA, 14, .inl (aN se))), (a3, .inl (cA, 9, .inl (aN wa))), (k, .inr (0, [.int (nI 0), .int ta, .int ex, .int (nI q.1), .int (nI q.2 - 1), .int wu, .int ww]))] C inA tyA_ok nmA flF_82 dF_solve_54 rfl rfl (by decide) rfl rfl rfl (Nat.le_of_ble_eq_true rfl) rfl ?_
      refine s_aload_n 0 C dF_solve_57 rfl ?_
      refine s_get (.ref k) 0 3 C wfP inF flF_33 dF_solve_58 rfl rfl (by decide) rfl ?_
      refine s_iconst (nI 1) C dF_solve_61 (by decide) ?_
      refine s_put 11 0 [(x, .inr (4, [.ref g, .ref s, .ref h, .ref k])), (s, .inr (3, [.int (nI (ldN m 100)), .ref b1, .ref b2, .ref b3, .ref b4, .ref b5, .int (nI (ldN m 100)), .int (nI q.1), .int (nI q.2 - 1)])), (b1, .inl (cA, 14, .inl (aN u.1))), (b2, .inl (cA, 14, .inl (aN u.2.1))), (b3, .inl (cA, 14, .inl u.2.2.1)), (b4, .inl (cA, 9, .inl (aN wa))), (b5, .inl (cA, 9, .inl (aN u.2.2.2))), (g, .inr (2, [.int (nI n), .int (nI m), .ref a1, .ref a2, .ref a3])), (a1, .inl (cA, 14, .inl (aN fi))), (a2, .inl (cA, 14, .inl (aN se))), (a3, .inl (cA, 9, .inl (aN wa))), (k, .inr (0, [.int (nI 1), .int ta, .int ex, .int (nI q.1), .int (nI q.2 - 1), .int wu, .int ww]))] C inA tyA_ok nmA flF_121 dF_solve_62 rfl rfl (by decide) rfl rfl rfl (Nat.le_of_ble_eq_true rfl) rfl ?_
      refine hret ((ldN m 100, u.1, u.2.1, u.2.2.1, aN wa, aN u.2.2.2, nI (ldN m 100), nI q.1, nI q.2 - 1), nI q.1, nI q.2 - 1) _ _ dF_solve_65 ?_
      rw [eN] at hq
      obtain ⟨q1, q2, q3⟩ := hq
      refine ⟨q.1, q1, bst_hin (ld_full (by omega) hu) q2, rfl, ?_⟩
      show nI q.2 - 1 = _
      rw [← q3, nI_pred]
  · subst hS
    refine s_aload_n 0 C dF_solve_0 rfl ?_
    refine s_get (.ref k) 0 3 C wfP inF flF_33 dF_solve_1 rfl rfl (by decide) rfl ?_
    refine s_get (.int (nI 1)) 11 0 C wfP inA flF_121 dF_solve_4 rfl rfl (by decide) rfl ?_
    refine s_if_neN 65 C dF_solve_7 (by decide) (by decide) (fun c1 => ?_) (fun c1 => ?_)
    · exact hret ((N, hd, tl, TW, LF, AH, en, fs, fc), bs, bc) _ _ dF_solve_65 ⟨B, hB1, hB2, hB3, hB4⟩
    · exact absurd c1 (by decide)
set_option maxHeartbeats 4000000 in
set_option maxRecDepth 100000 in
/-- the tables are there -/
theorem kF_tabulate (l : Launch) (D : va_G) (cA : ClassId) (x k h s b1 b2 b3 b4 b5 g a1 a2 a3 o1 o2 o3 o4 o5 : Nat) (n m : Nat) (fi se wa : Nat → Nat) (nr wt is pt : Nat → Nat) (al fu fw : Int32) (so ta ex bs bc wu ww : Int32) (hG : GOK n m fi se wa) (hT : knT fi se wa n m ta al wt is pt) (hw0 : wt 0 = 0) : CtV (S := BdT) l yF_tabulate (.code yF_tabulate cF_tabulate 1 none) 21 0 0 D cA [.ref x] [(x, .inr (4, [.ref g, .ref s, .ref h, .ref k])), (g, .inr (2, [.int (nI n), .int (nI m), .ref a1, .ref a2, .ref a3])), (a1, .inl (cA, 14, .inl (aN fi))), (a2, .inl (cA, 14, .inl (aN se))), (a3, .inl (cA, 9, .inl (aN wa))), (h, .inr (1, [.ref o1, .ref o2, .ref o3, .ref o4, .ref o5, .int al, .int fu, .int fw])), (o1, .inl (cA, 512, .inl (aN od))), (o2, .inl (cA, 9, .inl (aN nr))), (o3, .inl (cA, 512, .inl (aN wt))), (o4, .inl (cA, 512, .inl (aN is))), (o5, .inl (cA, 512, .inl (aN pt))), (k, .inr (0, [.int so, .int ta, .int ex, .int bs, .int bc, .int wu, .int ww]))] (fun u => u.2.2.2.2.1 = nI (2 ^ n - 1) ∧ tabOK fi se wa n m u.2.1 u.2.2.1 u.2.2.2.1 ∧ u.2.2.2.2.2 = (fu, fw)) (fun u => [(x, .inr (4, [.ref g, .ref s, .ref h, .ref k])), (g, .inr (2, [.int (nI n), .int (nI m), .ref a1, .ref a2, .ref a3])), (a1, .inl (cA, 14, .inl (aN fi))), (a2, .inl (cA, 14, .inl (aN se))), (a3, .inl (cA, 9, .inl (aN wa))), (h, .inr (1, [.ref o1, .ref o2, .ref o3, .ref o4, .ref o5, .int u.2.2.2.2.1, .int u.2.2.2.2.2.1, .int u.2.2.2.2.2.2])), (o1, .inl (cA, 512, .inl (aN od))), (o2, .inl (cA, 9, .inl (aN u.1))), (o3, .inl (cA, 512, .inl (aN u.2.1))), (o4, .inl (cA, 512, .inl (aN u.2.2.1))), (o5, .inl (cA, 512, .inl (aN u.2.2.2.1))), (k, .inr (0, [.int so, .int (nI 1), .int ex, .int bs, .int bc, .int wu, .int ww]))]) := by
  refine mkV [(0, .ref x)] (by decide) rfl (Nat.le_of_ble_eq_true rfl) ?_
  intro E A Q hE hi C hA hret
  obtain ⟨g1, g2, g3, g4, g5, g6⟩ := hG
  rcases hT with hT | ⟨hT, hT1, hT2⟩
  · subst hT
    refine s_aload_n 0 C dF_tabulate_0 rfl ?_
    refine s_get (.ref k) 0 3 C wfP inF flF_33 dF_tabulate_1 rfl rfl (by decide) rfl ?_
    refine s_get (.int (nI 0)) 11 1 C wfP inA flF_134 dF_tabulate_4 rfl rfl (by decide) rfl ?_
    refine s_if_neN 29 C dF_tabulate_7 (by decide) (by decide) (fun c1 => ?_) (fun c1 => ?_)
    · exact absurd rfl c1
    · refine s_aload_n 0 C dF_tabulate_10 rfl ?_
      refine s_get (.ref h) 0 2 C wfP inF flF_26 dF_tabulate_11 rfl rfl (by decide) rfl ?_
      refine s_aload_n 0 C dF_tabulate_14 rfl ?_
      refine s_get (.ref g) 0 0 C wfP inF flF_12 dF_tabulate_15 rfl rfl (by decide) rfl ?_
      refine s_callV (n := 1) (wr := [(x, .inr (4, [.ref g, .ref s, .ref h, .ref k])), (o1, .inl (cA, 512, .inl (aN od))), (k, .inr (0, [.int so, .int (nI 0), .int ex, .int bs, .int bc, .int wu, .int ww]))]) [5, 7, 8, 9, 10, 1, 2, 3, 4] [0, 6, 11] 0 [] C hA (kB_load E.2.1 D cA h o1 o2 o3 o4 o5 nr wt is pt al fu fw g a1 a2 a3 n m fi se wa g1 g2 g3 g4 g5 hw0) gF_137 dF_tabulate_18 (by decide +kernel) rfl rfl (by decide) (by decide) (by decide) rfl rfl rfl (by decide) (by decide) rfl rfl (Nat.le_of_ble_eq_true rfl) (Nat.zero_le _) (Nat.zero_le _) (fun u hu => ?_)
      refine s_sub (ws' := [(x, .inr (4, [.ref g, .ref s, .ref h, .ref k])), (g, .inr (2, [.int (nI n), .int (nI m), .ref a1, .ref a2, .ref a3])), (a1, .inl (cA, 14, .inl (aN fi))), (a2, .inl (cA, 14, .inl (aN se))), (a3, .inl (cA, 9, .inl (aN wa))), (h, .inr (1, [.ref o1, .ref o2, .ref o3, .ref o4, .ref o5, .int (nI (2 ^ n - 1)), .int fu, .int fw])), (o1, .inl (cA, 512, .inl (aN od))), (o2, .inl (cA, 9, .inl (aN u.1))), (o3, .inl (cA, 512, .inl (aN u.2.1))), (o4, .inl (cA, 512, .inl (aN u.2.2.1))), (o5, .inl (cA, 512, .inl (aN u.2.2.2))), (k, .inr (0, [.int so, .int (nI 0), .int ex, .int bs, .int bc, .int wu, .int ww]))]) [0, 8, 9, 10, 11, 3, 1, 4, 5, 6, 7, 2] rfl (by decide) ?_
      refine s_aload_n 0 C dF_tabulate_21 rfl ?_
      refine s_get (.ref k) 0 3 C wfP inF flF_33 dF_tabulate_22 rfl rfl (by decide) rfl ?_
      refine s_iconst (nI 1) C dF_tabulate_25 (by decide) ?_
      refine s_put 11 1 [(x, .inr (4, [.ref g, .ref s, .ref h, .ref k])), (g, .inr (2, [.int (nI n), .int (nI m), .ref a1, .ref a2, .ref a3])), (a1, .inl (cA, 14, .inl (aN fi))), (a2, .inl (cA, 14, .inl (aN se))), (a3, .inl (cA, 9, .inl (aN wa))), (h, .inr (1, [.ref o1, .ref o2, .ref o3, .ref o4, .ref o5, .int (nI (2 ^ n - 1)), .int fu, .int fw])), (o1, .inl (cA, 512, .inl (aN od))), (o2, .inl (cA, 9, .inl (aN u.1))), (o3, .inl (cA, 512, .inl (aN u.2.1))), (o4, .inl (cA, 512, .inl (aN u.2.2.1))), (o5, .inl (cA, 512, .inl (aN u.2.2.2))), (k, .inr (0, [.int so, .int (nI 1), .int ex, .int bs, .int bc, .int wu, .int ww]))] C inA tyA_ok nmA flF_134 dF_tabulate_26 rfl rfl (by decide) rfl rfl rfl (Nat.le_of_ble_eq_true rfl) rfl ?_
      exact hret (u.1, u.2.1, u.2.2.1, u.2.2.2, nI (2 ^ n - 1), fu, fw) _ _ dF_tabulate_29 ⟨rfl, hu, rfl⟩
  · subst hT
    refine s_aload_n 0 C dF_tabulate_0 rfl ?_
    refine s_get (.ref k) 0 3 C wfP inF flF_33 dF_tabulate_1 rfl rfl (by decide) rfl ?_
    refine s_get (.int (nI 1)) 11 1 C wfP inA flF_134 dF_tabulate_4 rfl rfl (by decide) rfl ?_
    refine s_if_neN 29 C dF_tabulate_7 (by decide) (by decide) (fun c1 => ?_) (fun c1 => ?_)
    · exact hret (nr, wt, is, pt, al, fu, fw) _ _ dF_tabulate_29 ⟨hT1, hT2, rfl⟩
    · exact absurd c1 (by decide)
set_option maxHeartbeats 4000000 in
set_option maxRecDepth 100000 in
/-- the witness is known -/
theorem kF_explain (l : Launch) (D : va_G) (cA : ClassId) (x k h s b1 b2 b3 b4 b5 g a1 a2 a3 o1 o2 o3 o4 o5 : Nat) (N : Nat) (hd tl : Nat → Nat) (TW LF AH : Nat → Int32) (en fs fc : Int32) (n m : Nat) (fi se wa : Nat → Nat) (nr wt is pt : Nat → Nat) (al fu fw : Int32) (so ta ex bs bc wu ww : Int32) (hG : GOK n m fi se wa) (hS : knS fi se wa m so bs bc) (hT : knT fi se wa n m ta al wt is pt) (hE9 : knE fi se wa n m ex wu ww) (hw0 : wt 0 = 0) : CtV (S := SrT × BdT × Int32 × Int32 × Int32 × Int32 × Int32 × Int32) l yF_explain (.code yF_explain cF_explain 1 none) 22 0 0 D cA [.ref x] [(x, .inr (4, [.ref g, .ref s, .ref h, .ref k])), (s, .inr (3, [.int (nI N), .ref b1, .ref b2, .ref b3, .ref b4, .ref b5, .int en, .int fs, .int fc])), (b1, .inl (cA, 14, .inl (aN hd))), (b2, .inl (cA, 14, .inl (aN tl))), (b3, .inl (cA, 14, .inl TW)), (b4, .inl (cA, 9, .inl LF)), (b5, .inl (cA, 9, .inl AH)), (g, .inr (2, [.int (nI n), .int (nI m), .ref a1, .ref a2, .ref a3])), (a1, .inl (cA, 14, .inl (aN fi))), (a2, .inl (cA, 14, .inl (aN se))), (a3, .inl (cA, 9, .inl (aN wa))), (h, .inr (1, [.ref o1, .ref o2, .ref o3, .ref o4, .ref o5, .int al, .int fu, .int fw])), (o1, .inl (cA, 512, .inl (aN od))), (o2, .inl (cA, 9, .inl (aN nr))), (o3, .inl (cA, 512, .inl (aN wt))), (o4, .inl (cA, 512, .inl (aN is))), (o5, .inl (cA, 512, .inl (aN pt))), (k, .inr (0, [.int so, .int ta, .int ex, .int bs, .int bc, .int wu, .int ww]))] (fun u => knS fi se wa m u.2.2.1 u.2.2.2.2.1 u.2.2.2.2.2.1 ∧ knT fi se wa n m u.2.2.2.1 u.2.1.2.2.2.2.1 u.2.1.2.1 u.2.1.2.2.1 u.2.1.2.2.2.1 ∧ u.2.1.2.1 0 = 0 ∧ ∃ a b, isWit fi se wa n m a b ∧ u.2.2.2.2.2.2.1 = nI a ∧ u.2.2.2.2.2.2.2 = nI b) (fun u => [(x, .inr (4, [.ref g, .ref s, .ref h, .ref k])), (s, .inr (3, [.int (nI u.1.1), .ref b1, .ref b2, .ref b3, .ref b4, .ref b5, .int u.1.2.2.2.2.2.2.1, .int u.1.2.2.2.2.2.2.2.1, .int u.1.2.2.2.2.2.2.2.2])), (b1, .inl (cA, 14, .inl (aN u.1.2.1))), (b2, .inl (cA, 14, .inl (aN u.1.2.2.1))), (b3, .inl (cA, 14, .inl u.1.2.2.2.1)), (b4, .inl (cA, 9, .inl u.1.2.2.2.2.1)), (b5, .inl (cA, 9, .inl u.1.2.2.2.2.2.1)), (g, .inr (2, [.int (nI n), .int (nI m), .ref a1, .ref a2, .ref a3])), (a1, .inl (cA, 14, .inl (aN fi))), (a2, .inl (cA, 14, .inl (aN se))), (a3, .inl (cA, 9, .inl (aN wa))), (h, .inr (1, [.ref o1, .ref o2, .ref o3, .ref o4, .ref o5, .int u.2.1.2.2.2.2.1, .int u.2.1.2.2.2.2.2.1, .int u.2.1.2.2.2.2.2.2])), (o1, .inl (cA, 512, .inl (aN od))), (o2, .inl (cA, 9, .inl (aN u.2.1.1))), (o3, .inl (cA, 512, .inl (aN u.2.1.2.1))), (o4, .inl (cA, 512, .inl (aN u.2.1.2.2.1))), (o5, .inl (cA, 512, .inl (aN u.2.1.2.2.2.1))), (k, .inr (0, [.int u.2.2.1, .int u.2.2.2.1, .int (nI 1), .int u.2.2.2.2.1, .int u.2.2.2.2.2.1, .int u.2.2.2.2.2.2.1, .int u.2.2.2.2.2.2.2]))]) := by
  refine mkV [(0, .ref x)] (by decide) rfl (Nat.le_of_ble_eq_true rfl) ?_
  intro E A Q hE hi C hA hret
  have hG0 := hG
  obtain ⟨g1, g2, g3, g4, g5, g6⟩ := hG
  rcases hE9 with h9 | ⟨h9, a, b, h1, h2, h3⟩
  · subst h9
    refine s_aload_n 0 C dF_explain_0 rfl ?_
    refine s_get (.ref k) 0 3 C wfP inF flF_33 dF_explain_1 rfl rfl (by decide) rfl ?_
    refine s_get (.int (nI 0)) 17 2 C wfP inA flF_140 dF_explain_4 rfl rfl (by decide) rfl ?_
    refine s_if_neN 68 C dF_explain_7 (by decide) (by decide) (fun c1 => ?_) (fun c1 => ?_)
    · exact absurd rfl c1
    · refine s_aload_n 0 C dF_explain_10 rfl ?_
      refine s_callV (n := 0) (wr := [(h, .inr (1, [.ref o1, .ref o2, .ref o3, .ref o4, .ref o5, .int al, .int fu, .int fw])), (o1, .inl (cA, 512, .inl (aN od))), (o2, .inl (cA, 9, .inl (aN nr))), (o3, .inl (cA, 512, .inl (aN wt))), (o4, .inl (cA, 512, .inl (aN is))), (o5, .inl (cA, 512, .inl (aN pt)))]) [0, 1, 2, 3, 4, 5, 6, 7, 8, 9, 10, 17] [11, 12, 13, 14, 15, 16] 0 [] C hA (kF_solve E.2.1 D cA x k h s b1 b2 b3 b4 b5 g a1 a2 a3 o1 o2 o3 o4 o5 N hd tl TW LF AH en fs fc n m fi se wa so ta (nI 0) bs bc wu ww hG0 hS) gF_79 dF_explain_11 (by decide +kernel) rfl rfl (by decide) (by decide) (by decide) rfl rfl rfl (by decide) (by decide) rfl rfl (Nat.le_of_ble_eq_true rfl) (Nat.zero_le _) (Nat.zero_le _) (fun u hu => ?_)
      refine s_sub (ws' := [(x, .inr (4, [.ref g, .ref s, .ref h, .ref k])), (s, .inr (3, [.int (nI u.1.1), .ref b1, .ref b2, .ref b3, .ref b4, .ref b5, .int u.1.2.2.2.2.2.2.1, .int u.1.2.2.2.2.2.2.2.1, .int u.1.2.2.2.2.2.2.2.2])), (b1, .inl (cA, 14, .inl (aN u.1.2.1))), (b2, .inl (cA, 14, .inl (aN u.1.2.2.1))), (b3, .inl (cA, 14, .inl u.1.2.2.2.1)), (b4, .inl (cA, 9, .inl u.1.2.2.2.2.1)), (b5, .inl (cA, 9, .inl u.1.2.2.2.2.2.1)), (g, .inr (2, [.int (nI n), .int (nI m), .ref a1, .ref a2, .ref a3])), (a1, .inl (cA, 14, .inl (aN fi))), (a2, .inl (cA, 14, .inl (aN se))), (a3, .inl (cA, 9, .inl (aN wa))), (h, .inr (1, [.ref o1, .ref o2, .ref o3, .ref o4, .ref o5, .int al, .int fu, .int fw])), (o1, .inl (cA, 512, .inl (aN od))), (o2, .inl (cA, 9, .inl (aN nr))), (o3, .inl (cA, 512, .inl (aN wt))), (o4, .inl (cA, 512, .inl (aN is))), (o5, .inl (cA, 512, .inl (aN pt))), (k, .inr (0, [.int (nI 1), .int ta, .int (nI 0), .int u.2.1, .int u.2.2, .int wu, .int ww]))]) [6, 7, 8, 9, 10, 11, 12, 13, 14, 15, 16, 0, 1, 2, 3, 4, 5, 17] rfl (by decide) ?_
      refine s_aload_n 0 C dF_explain_14 rfl ?_
      refine s_callV (n := 0) (wr := [(s, .inr (3, [.int (nI u.1.1), .ref b1, .ref b2, .ref b3, .ref b4, .ref b5, .int u.1.2.2.2.2.2.2.1, .int u.1.2.2.2.2.2.2.2.1, .int u.1.2.2.2.2.2.2.2.2])), (b1, .inl (cA, 14, .inl (aN u.1.2.1))), (b2, .inl (cA, 14, .inl (aN u.1.2.2.1))), (b3, .inl (cA, 14, .inl u.1.2.2.2.1)), (b4, .inl (cA, 9, .inl u.1.2.2.2.2.1)), (b5, .inl (cA, 9, .inl u.1.2.2.2.2.2.1))]) [0, 7, 8, 9, 10, 11, 12, 13, 14, 15, 16, 17] [1, 2, 3, 4, 5, 6] 0 [] C hA (kF_tabulate E.2.1 D cA x k h s b1 b2 b3 b4 b5 g a1 a2 a3 o1 o2 o3 o4 o5 n m fi se wa nr wt is pt al fu fw (nI 1) ta (nI 0) u.2.1 u.2.2 wu ww hG0 hT hw0) gF_106 dF_explain_15 (by decide +kernel) rfl rfl (by decide) (by decide) (by decide) rfl rfl rfl (by decide) (by decide) rfl rfl (Nat.le_of_ble_eq_true rfl) (Nat.zero_le _) (Nat.zero_le _) (fun t ht => ?_)
      refine s_sub (ws' := [(x, .inr (4, [.ref g, .ref s, .ref h, .ref k])), (s, .inr (3, [.int (nI u.1.1), .ref b1, .ref b2, .ref b3, .ref b4, .ref b5, .int u.1.2.2.2.2.2.2.1, .int u.1.2.2.2.2.2.2.2.1, .int u.1.2.2.2.2.2.2.2.2])), (b1, .inl (cA, 14, .inl (aN u.1.2.1))), (b2, .inl (cA, 14, .inl (aN u.1.2.2.1))), (b3, .inl (cA, 14, .inl u.1.2.2.2.1)), (b4, .inl (cA, 9, .inl u.1.2.2.2.2.1)), (b5, .inl (cA, 9, .inl u.1.2.2.2.2.2.1)), (g, .inr (2, [.int (nI n), .int (nI m), .ref a1, .ref a2, .ref a3])), (a1, .inl (cA, 14, .inl (aN fi))), (a2, .inl (cA, 14, .inl (aN se))), (a3, .inl (cA, 9, .inl (aN wa))), (h, .inr (1, [.ref o1, .ref o2, .ref o3, .ref o4, .ref o5, .int t.2.2.2.2.1, .int t.2.2.2.2.2.1, .int t.2.2.2.2.2.2])), (o1, .inl (cA, 512, .inl (aN od))), (o2, .inl (cA, 9, .inl (aN t.1))), (o3, .inl (cA, 512, .inl (aN t.2.1))), (o4, .inl (cA, 512, .inl (aN t.2.2.1))), (o5, .inl (cA, 512, .inl (aN t.2.2.2.1))), (k, .inr (0, [.int (nI 1), .int (nI 1), .int (nI 0), .int u.2.1, .int u.2.2, .int wu, .int ww]))]) [6, 0, 1, 2, 3, 4, 5, 7, 8, 9, 10, 11, 12, 13, 14, 15, 16, 17] rfl (by decide) ?_
      obtain ⟨B, hB1, hB2, hB3, hB4⟩ := hu
      obtain ⟨t1, t2, t3⟩ := ht
      obtain ⟨nr2, wt2, is2, pt2, al2, fu2, fw2⟩ := t
      obtain ⟨sr2, bs2, bc2⟩ := u
      dsimp only at hB3 hB4 t1 t2 t3
      subst hB3
      subst hB4
      subst t1
      refine s_eqw (ws' := [(x, .inr (4, [.ref g, .ref s, .ref h, .ref k])), (s, .inr (3, [.int (nI sr2.1), .ref b1, .ref b2, .ref b3, .ref b4, .ref b5, .int sr2.2.2.2.2.2.2.1, .int sr2.2.2.2.2.2.2.2.1, .int sr2.2.2.2.2.2.2.2.2])), (b1, .inl (cA, 14, .inl (aN sr2.2.1))), (b2, .inl (cA, 14, .inl (aN sr2.2.2.1))), (b3, .inl (cA, 14, .inl sr2.2.2.2.1)), (b4, .inl (cA, 9, .inl sr2.2.2.2.2.1)), (b5, .inl (cA, 9, .inl sr2.2.2.2.2.2.1)), (g, .inr (2, [.int (nI n), .int (nI m), .ref a1, .ref a2, .ref a3])), (a1, .inl (cA, 14, .inl (aN fi))), (a2, .inl (cA, 14, .inl (aN se))), (a3, .inl (cA, 9, .inl (aN wa))), (h, .inr (1, [.ref o1, .ref o2, .ref o3, .ref o4, .ref o5, .int (nI (2 ^ n - 1)), .int fu2, .int fw2])), (o1, .inl (cA, 512, .inl (aN od))), (o2, .inl (cA, 9, .inl (aN nr2))), (o3, .inl (cA, 512, .inl (aN wt2))), (o4, .inl (cA, 512, .inl (aN is2))), (o5, .inl (cA, 512, .inl (aN pt2))), (k, .inr (0, [.int (nI 1), .int (nI 1), .int (nI 0), .int (nI B), .int (nI (hsz m (bm B))), .int wu, .int ww]))]) rfl ?_
      have hmx9 : hmx fi se n m wa (bm B) := ⟨(hfa_9 g2 g4).mp hB2.1, fun K hK => hB2.2.1 K ((hfa_9 g2 g4).mpr hK)⟩
      obtain ⟨u0, w0, e1, e2, e3, e4⟩ := bnd_ex wa g2 g4 hmx9
      have hzm := hsz_le m (bm B)
      have hex : ∃ u w, u < 2 ^ n ∧ okW fi se n m wa (hsz m (bm B)) u w := ⟨u0, w0, e1, e2, e3, e4⟩
      refine s_aload_n 0 C dF_explain_18 rfl ?_
      refine s_get (.ref h) 0 2 C wfP inF flF_26 dF_explain_19 rfl rfl (by decide) rfl ?_
      refine s_aload_n 0 C dF_explain_22 rfl ?_
      refine s_get (.ref k) 0 3 C wfP inF flF_33 dF_explain_23 rfl rfl (by decide) rfl ?_
      refine s_get (.int (nI (hsz m (bm B)))) 17 4 C wfP inA flF_82 dF_explain_26 rfl rfl (by decide) rfl ?_
      refine s_callV (n := 1) (wr := [(x, .inr (4, [.ref g, .ref s, .ref h, .ref k])), (s, .inr (3, [.int (nI sr2.1), .ref b1, .ref b2, .ref b3, .ref b4, .ref b5, .int sr2.2.2.2.2.2.2.1, .int sr2.2.2.2.2.2.2.2.1, .int sr2.2.2.2.2.2.2.2.2])), (b1, .inl (cA, 14, .inl (aN sr2.2.1))), (b2, .inl (cA, 14, .inl (aN sr2.2.2.1))), (b3, .inl (cA, 14, .inl sr2.2.2.2.1)), (b4, .inl (cA, 9, .inl sr2.2.2.2.2.1)), (b5, .inl (cA, 9, .inl sr2.2.2.2.2.2.1)), (g, .inr (2, [.int (nI n), .int (nI m), .ref a1, .ref a2, .ref a3])), (a1, .inl (cA, 14, .inl (aN fi))), (a2, .inl (cA, 14, .inl (aN se))), (a3, .inl (cA, 9, .inl (aN wa))), (o2, .inl (cA, 9, .inl (aN nr2))), (k, .inr (0, [.int (nI 1), .int (nI 1), .int (nI 0), .int (nI B), .int (nI (hsz m (bm B))), .int wu, .int ww]))]) [11, 12, 14, 15, 16] [0, 1, 2, 3, 4, 5, 6, 7, 8, 9, 10, 13, 17] 0 [] C hA (kB_find E.2.1 D cA h o1 o2 o3 o4 o5 wt2 is2 pt2 fu2 fw2 n m fi se wa g2 g3 g4 g5 t2 (hsz m (bm B)) (by omega) hex) gF_143 dF_explain_29 (by decide +kernel) rfl rfl (by decide) (by decide) (by decide) rfl rfl rfl (by decide) (by decide) rfl rfl (Nat.le_of_ble_eq_true rfl) (Nat.zero_le _) (Nat.zero_le _) (fun y hy => ?_)
      refine s_sub (ws' := [(x, .inr (4, [.ref g, .ref s, .ref h, .ref k])), (s, .inr (3, [.int (nI sr2.1), .ref b1, .ref b2, .ref b3, .ref b4, .ref b5, .int sr2.2.2.2.2.2.2.1, .int sr2.2.2.2.2.2.2.2.1, .int sr2.2.2.2.2.2.2.2.2])), (b1, .inl (cA, 14, .inl (aN sr2.2.1))), (b2, .inl (cA, 14, .inl (aN sr2.2.2.1))), (b3, .inl (cA, 14, .inl sr2.2.2.2.1)), (b4, .inl (cA, 9, .inl sr2.2.2.2.2.1)), (b5, .inl (cA, 9, .inl sr2.2.2.2.2.2.1)), (g, .inr (2, [.int (nI n), .int (nI m), .ref a1, .ref a2, .ref a3])), (a1, .inl (cA, 14, .inl (aN fi))), (a2, .inl (cA, 14, .inl (aN se))), (a3, .inl (cA, 9, .inl (aN wa))), (h, .inr (1, [.ref o1, .ref o2, .ref o3, .ref o4, .ref o5, .int (nI (2 ^ n - 1)), .int y.1, .int y.2])), (o1, .inl (cA, 512, .inl (aN od))), (o2, .inl (cA, 9, .inl (aN nr2))), (o3, .inl (cA, 512, .inl (aN wt2))), (o4, .inl (cA, 512, .inl (aN is2))), (o5, .inl (cA, 512, .inl (aN pt2))), (k, .inr (0, [.int (nI 1), .int (nI 1), .int (nI 0), .int (nI B), .int (nI (hsz m (bm B))), .int wu, .int ww]))]) [0, 1, 2, 3, 4, 5, 6, 7, 8, 9, 10, 13, 14, 11, 15, 16, 17, 12] rfl (by decide) ?_
      refine s_aload_n 0 C dF_explain_32 rfl ?_
      refine s_get (.ref k) 0 3 C wfP inF flF_33 dF_explain_33 rfl rfl (by decide) rfl ?_
      refine s_aload_n 0 C dF_explain_36 rfl ?_
      refine s_get (.ref h) 0 2 C wfP inF flF_26 dF_explain_37 rfl rfl (by decide) rfl ?_
      refine s_get (.int y.1) 11 6 C wfP inB flF_146 dF_explain_40 rfl rfl (by decide) rfl ?_
      refine s_put 17 5 [(x, .inr (4, [.ref g, .ref s, .ref h, .ref k])), (s, .inr (3, [.int (nI sr2.1), .ref b1, .ref b2, .ref b3, .ref b4, .ref b5, .int sr2.2.2.2.2.2.2.1, .int sr2.2.2.2.2.2.2.2.1, .int sr2.2.2.2.2.2.2.2.2])), (b1, .inl (cA, 14, .inl (aN sr2.2.1))), (b2, .inl (cA, 14, .inl (aN sr2.2.2.1))), (b3, .inl (cA, 14, .inl sr2.2.2.2.1)), (b4, .inl (cA, 9, .inl sr2.2.2.2.2.1)), (b5, .inl (cA, 9, .inl sr2.2.2.2.2.2.1)), (g, .inr (2, [.int (nI n), .int (nI m), .ref a1, .ref a2, .ref a3])), (a1, .inl (cA, 14, .inl (aN fi))), (a2, .inl (cA, 14, .inl (aN se))), (a3, .inl (cA, 9, .inl (aN wa))), (h, .inr (1, [.ref o1, .ref o2, .ref o3, .ref o4, .ref o5, .int (nI (2 ^ n - 1)), .int y.1, .int y.2])), (o1, .inl (cA, 512, .inl (aN od))), (o2, .inl (cA, 9, .inl (aN nr2))), (o3, .inl (cA, 512, .inl (aN wt2))), (o4, .inl (cA, 512, .inl (aN is2))), (o5, .inl (cA, 512, .inl (aN pt2))), (k, .inr (0, [.int (nI 1), .int (nI 1), .int (nI 0), .int (nI B), .int (nI (hsz m (bm B))), .int y.1, .int ww]))] C inA tyA_ok nmA flF_115 dF_explain_43 rfl rfl (by decide) rfl rfl rfl (Nat.le_of_ble_eq_true rfl) rfl ?_
      refine s_aload_n 0 C dF_explain_46 rfl ?_
      refine s_get (.ref k) 0 3 C wfP inF flF_33 dF_explain_47 rfl rfl (by decide) rfl ?_
      refine s_aload_n 0 C dF_explain_50 rfl ?_
      refine s_get (.ref h) 0 2 C wfP inF flF_26 dF_explain_51 rfl rfl (by decide) rfl ?_
      refine s_get (.int y.2) 11 7 C wfP inB flF_149 dF_explain_54 rfl rfl (by decide) rfl ?_
      refine s_put 17 6 [(x, .inr (4, [.ref g, .ref s, .ref h, .ref k])), (s, .inr (3, [.int (nI sr2.1), .ref b1, .ref b2, .ref b3, .ref b4, .ref b5, .int sr2.2.2.2.2.2.2.1, .int sr2.2.2.2.2.2.2.2.1, .int sr2.2.2.2.2.2.2.2.2])), (b1, .inl (cA, 14, .inl (aN sr2.2.1))), (b2, .inl (cA, 14, .inl (aN sr2.2.2.1))), (b3, .inl (cA, 14, .inl sr2.2.2.2.1)), (b4, .inl (cA, 9, .inl sr2.2.2.2.2.1)), (b5, .inl (cA, 9, .inl sr2.2.2.2.2.2.1)), (g, .inr (2, [.int (nI n), .int (nI m), .ref a1, .ref a2, .ref a3])), (a1, .inl (cA, 14, .inl (aN fi))), (a2, .inl (cA, 14, .inl (aN se))), (a3, .inl (cA, 9, .inl (aN wa))), (h, .inr (1, [.ref o1, .ref o2, .ref o3, .ref o4, .ref o5, .int (nI (2 ^ n - 1)), .int y.1, .int y.2])), (o1, .inl (cA, 512, .inl (aN od))), (o2, .inl (cA, 9, .inl (aN nr2))), (o3, .inl (cA, 512, .inl (aN wt2))), (o4, .inl (cA, 512, .inl (aN is2))), (o5, .inl (cA, 512, .inl (aN pt2))), (k, .inr (0, [.int (nI 1), .int (nI 1), .int (nI 0), .int (nI B), .int (nI (hsz m (bm B))), .int y.1, .int y.2]))] C inA tyA_ok nmA flF_118 dF_explain_57 rfl rfl (by decide) rfl rfl rfl (Nat.le_of_ble_eq_true rfl) rfl ?_
      refine s_aload_n 0 C dF_explain_60 rfl ?_
      refine s_get (.ref k) 0 3 C wfP inF flF_33 dF_explain_61 rfl rfl (by decide) rfl ?_
      refine s_iconst (nI 1) C dF_explain_64 (by decide) ?_
      refine s_put 17 2 [(x, .inr (4, [.ref g, .ref s, .ref h, .ref k])), (s, .inr (3, [.int (nI sr2.1), .ref b1, .ref b2, .ref b3, .ref b4, .ref b5, .int sr2.2.2.2.2.2.2.1, .int sr2.2.2.2.2.2.2.2.1, .int sr2.2.2.2.2.2.2.2.2])), (b1, .inl (cA, 14, .inl (aN sr2.2.1))), (b2, .inl (cA, 14, .inl (aN sr2.2.2.1))), (b3, .inl (cA, 14, .inl sr2.2.2.2.1)), (b4, .inl (cA, 9, .inl sr2.2.2.2.2.1)), (b5, .inl (cA, 9, .inl sr2.2.2.2.2.2.1)), (g, .inr (2, [.int (nI n), .int (nI m), .ref a1, .ref a2, .ref a3])), (a1, .inl (cA, 14, .inl (aN fi))), (a2, .inl (cA, 14, .inl (aN se))), (a3, .inl (cA, 9, .inl (aN wa))), (h, .inr (1, [.ref o1, .ref o2, .ref o3, .ref o4, .ref o5, .int (nI (2 ^ n - 1)), .int y.1, .int y.2])), (o1, .inl (cA, 512, .inl (aN od))), (o2, .inl (cA, 9, .inl (aN nr2))), (o3, .inl (cA, 512, .inl (aN wt2))), (o4, .inl (cA, 512, .inl (aN is2))), (o5, .inl (cA, 512, .inl (aN pt2))), (k, .inr (0, [.int (nI 1), .int (nI 1), .int (nI 1), .int (nI B), .int (nI (hsz m (bm B))), .int y.1, .int y.2]))] C inA tyA_ok nmA flF_140 dF_explain_65 rfl rfl (by decide) rfl rfl rfl (Nat.le_of_ble_eq_true rfl) rfl ?_
      obtain ⟨i, j, hi, hj, y1, y2, y3, y4, y5⟩ := hy
      subst y5
      refine hret (sr2, (nr2, wt2, is2, pt2, nI (2 ^ n - 1), nI (od i), nI (od j)), nI 1, nI 1, nI B, nI (hsz m (bm B)), nI (od i), nI (od j)) _ _ dF_explain_68 ⟨Or.inr ⟨rfl, B, hB1, hB2, rfl, rfl⟩, Or.inr ⟨rfl, rfl, t2⟩, ?_, od i, od j, ⟨bm B, hB2, y1, y2, ?_, ?_⟩, rfl, rfl⟩
      · show wt2 0 = 0
        rw [t2.1 0 (Nat.two_pow_pos n), wsum_0]
      · intro u' hu' hw'
        have h2n : 2 ^ n ≤ 512 := p2_le (k := 9) g2
        obtain ⟨p1, p2⟩ := od_in u' (by omega)
        refine Nat.le_of_not_lt (fun q => ?_)
        rw [← p2] at q
        have hlt : ps u' < i := Nat.lt_of_not_le (fun z => by
          rcases Nat.lt_or_ge i (ps u') with y | y
          · have := od_mono y p1; omega
          · have e0 : i = ps u' := by omega
            rw [e0] at q; omega)
        exact y3 (ps u') hlt ⟨by rw [p2]; exact hu', by rw [p2]; exact hw'⟩
      · intro w' hw'
        have h2n : 2 ^ n ≤ 512 := p2_le (k := 9) g2
        have hw1 := hw'.1
        obtain ⟨p1, p2⟩ := od_in w' (by omega)
        refine Nat.le_of_not_lt (fun q => ?_)
        rw [← p2] at q
        have hlt : ps w' < j := Nat.lt_of_not_le (fun z => by
          rcases Nat.lt_or_ge j (ps w') with y | y
          · have := od_mono y p1; omega
          · have e0 : j = ps w' := by omega
            rw [e0] at q; omega)
        exact y4 (ps w') hlt (by rw [p2]; exact hw')
  · subst h9
    refine s_aload_n 0 C dF_explain_0 rfl ?_
    refine s_get (.ref k) 0 3 C wfP inF flF_33 dF_explain_1 rfl rfl (by decide) rfl ?_
    refine s_get (.int (nI 1)) 17 2 C wfP inA flF_140 dF_explain_4 rfl rfl (by decide) rfl ?_
    refine s_if_neN 68 C dF_explain_7 (by decide) (by decide) (fun c1 => ?_) (fun c1 => ?_)
    · exact hret ((N, hd, tl, TW, LF, AH, en, fs, fc), (nr, wt, is, pt, al, fu, fw), so, ta, bs, bc, wu, ww) _ _ dF_explain_68 ⟨hS, hT, hw0, a, b, h1, h2, h3⟩
    · exact absurd c1 (by decide)
