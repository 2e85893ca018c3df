def roleQ (fi se wa : Nat → Nat) (m : Nat) (p r : Int32) : Prop := (∃ j, j < m ∧ p = nI j ∧ roleP fi se wa m j r) ∨ (¬ inR p m ∧ r = -1)
def slkQ (fi se wa : Nat → Nat) (n m : Nat) (p r : Int32) : Prop := (∃ j, j < n ∧ p = nI j ∧ slkP fi se wa m j r) ∨ (¬ inR p n ∧ r = -1)
def gnQ (fi se wa : Nat → Nat) (n m : Nat) (p r : Int32) : Prop := (∃ j, j < n ∧ p = nI j ∧ gnP fi se wa m j r) ∨ (¬ inR p n ∧ r = -1)
def bndQ (fi se wa : Nat → Nat) (n m : Nat) (p q r : Int32) : Prop := (∃ a b, a < 2 ^ n ∧ b < 2 ^ n ∧ dsj a b ∧ p = nI a ∧ q = nI b ∧ r = nI (bnd fi se n m wa a b)) ∨ ((¬ ∃ a b, a < 2 ^ n ∧ b < 2 ^ n ∧ dsj a b ∧ p = nI a ∧ q = nI b) ∧ r = -1)
def witQ (fi se wa : Nat → Nat) (n m : Nat) (q r : Int32) : Prop := (∃ u w, isWit fi se wa n m u w ∧ ((q = nI 0 ∧ r = nI u) ∨ (q = nI 1 ∧ r = nI w))) ∨ (¬ inR q 2 ∧ r = -1)
theorem and_dsj {a b : Nat} : a &&& b = 0 ↔ dsj a b := by
  constructor
  · intro h v hv
    have : bm (a &&& b) v = false := by rw [h, bm_0]
    rw [bm_and, hv.1, hv.2] at this
    cases this
  · intro h
    refine Classical.byContradiction (fun q => ?_)
    obtain ⟨i, hi⟩ := bm_ne0.mp q
    rw [bm_and] at hi
    simp only [Bool.and_eq_true] at hi
    exact h i hi
theorem or_shr {a b n : Nat} : (a ||| b) >>> n = 0 ↔ a < 2 ^ n ∧ b < 2 ^ n := by
  rw [Nat.shiftRight_eq_div_pow, Nat.div_eq_zero_iff_lt (Nat.two_pow_pos n)]
  constructor
  · intro h
    exact ⟨Nat.lt_of_le_of_lt Nat.left_le_or h, Nat.lt_of_le_of_lt Nat.right_le_or h⟩
  · rintro ⟨h1, h2⟩
    exact Nat.or_lt_two_pow h1 h2
theorem su_wa {wa : Nat → Nat} {n : Nat} (hn : n ≤ 9) (h : ∀ v, v < 9 → wa v ≤ 14) : su wa n ≤ 126 := by
  have : ∀ k, k ≤ 9 → su wa k ≤ 14 * k := by
    intro k
    induction k with
    | zero => intro _; exact Nat.le_refl _
    | succ k ih =>
      intro hk
      show su wa k + wa k ≤ 14 * (k + 1)
      have a1 := ih (by omega)
      have a2 := h k (by omega)
      omega
  have := this n hn
  omega
/-- an edge that has room is a fair set -/
theorem one_ed {fi se wa : Nat → Nat} {m j : Nat} (hfs : hok fi se 9 m) (hj : j < m) (h1 : 0 < wa (fi j)) (h2 : 0 < wa (se j)) {B : Nat → Bool} (hB : bst fi se 9 m wa B) : 1 ≤ hsz m B := by
  obtain ⟨f1, f2, f3⟩ := hfs j hj
  have hz : hsz m (fun _ => false) = 0 := su_z (fun i _ => rfl)
  have hd : ∀ v, hdg fi se m (fun _ => false) v = 0 := fun v => su_z (fun i _ => by simp)
  have hf : hfa fi se 9 m wa (bup (fun _ => false) j true) := by
    intro v hv
    rw [hdg_on hj rfl, hd v, hin_ind f3]
    by_cases q : v = fi j
    · subst q; rw [ind_s, ind_n f3]; omega
    · by_cases z : v = se j
      · subst z; rw [ind_s, ind_n q]; omega
      · rw [ind_n q, ind_n z]; omega
  have := hB.2.1 _ hf
  rw [hsz_on hj rfl, hz] at this
  omega
theorem lgW_O {fi se wa : Nat → Nat} {m j : Nat} {B : Nat → Bool} (hB : bst fi se 9 m wa B) (b : Bool) : (∃ M, hfa fi se 9 m wa M ∧ M j = b ∧ hsz m B ≤ hsz m M) ↔ lgW fi se wa m j B b := by
  constructor
  · rintro ⟨M, h1, h2, h3⟩
    exact ⟨M, h1, Nat.le_antisymm (hB.2.1 M h1) h3, h2⟩
  · rintro ⟨M, h1, h2, h3⟩
    exact ⟨M, h1, h3, by omega⟩
theorem no_room {fi se wa : Nat → Nat} {m j : Nat} {B : Nat → Bool} (hfs : hok fi se 9 m) (hj : j < m) (h : wa (fi j) = 0 ∨ wa (se j) = 0) : ¬ lgW fi se wa m j B true := by
  rintro ⟨M, h1, _, h3⟩
  obtain ⟨f1, f2, f3⟩ := hfs j hj
  have key : ∀ v, (fi j = v ∨ se j = v) → 1 ≤ hdg fi se m M v := by
    intro v hv
    have := su_mem (f := fun i => (M i).toNat * hin fi se i v) hj
    simp only [h3, Bool.toNat_true, hin_or hv] at this
    exact this
  rcases h with h | h
  · have a1 := key _ (Or.inl rfl)
    have a2 := h1 _ f1
    omega
  · have a1 := key _ (Or.inr rfl)
    have a2 := h1 _ f2
    omega
set_option maxHeartbeats 4000000 in
set_option maxRecDepth 100000 in
/-- most -/
theorem kF_most (l : Launch) (D : va_G) (cA : ClassId) (x k h s b1 b2 b3 b4 b5 g a1 a2 a3 o1 o2 o3 o4 o5 : Nat) (N : Nat) (hd tl : Nat → Nat) (TW LF AH : Nat → Int32) (en fs fc : Int32) (n m : Nat) (fi se wa : Nat → Nat) (so ta ex bs bc wu ww : Int32) (hG : GOK n m fi se wa) (hS : knS fi se wa m so bs bc)  : CtI (S := SrT × Int32 × Int32 × Int32) l yF_most (.code yF_most cF_most 1 (some .int)) 23 0 0 D cA [.ref x] [(x, .inr (4, [.ref g, .ref s, .ref h, .ref k])), (s, .inr (3, [.int (nI N), .ref b1, .ref b2, .ref b3, .ref b4, .ref b5, .int en, .int fs, .int fc])), (b1, .inl (cA, 14, .inl (aN hd))), (b2, .inl (cA, 14, .inl (aN tl))), (b3, .inl (cA, 14, .inl TW)), (b4, .inl (cA, 9, .inl LF)), (b5, .inl (cA, 9, .inl AH)), (g, .inr (2, [.int (nI n), .int (nI m), .ref a1, .ref a2, .ref a3])), (a1, .inl (cA, 14, .inl (aN fi))), (a2, .inl (cA, 14, .inl (aN se))), (a3, .inl (cA, 9, .inl (aN wa))), (k, .inr (0, [.int so, .int ta, .int ex, .int bs, .int bc, .int wu, .int ww]))] (fun r u => knS fi se wa m u.2.1 u.2.2.1 u.2.2.2 ∧ mostP fi se wa m r) (fun u => [(x, .inr (4, [.ref g, .ref s, .ref h, .ref k])), (s, .inr (3, [.int (nI u.1.1), .ref b1, .ref b2, .ref b3, .ref b4, .ref b5, .int u.1.2.2.2.2.2.2.1, .int u.1.2.2.2.2.2.2.2.1, .int u.1.2.2.2.2.2.2.2.2])), (b1, .inl (cA, 14, .inl (aN u.1.2.1))), (b2, .inl (cA, 14, .inl (aN u.1.2.2.1))), (b3, .inl (cA, 14, .inl u.1.2.2.2.1)), (b4, .inl (cA, 9, .inl u.1.2.2.2.2.1)), (b5, .inl (cA, 9, .inl u.1.2.2.2.2.2.1)), (g, .inr (2, [.int (nI n), .int (nI m), .ref a1, .ref a2, .ref a3])), (a1, .inl (cA, 14, .inl (aN fi))), (a2, .inl (cA, 14, .inl (aN se))), (a3, .inl (cA, 9, .inl (aN wa))), (k, .inr (0, [.int u.2.1, .int ta, .int ex, .int u.2.2.1, .int u.2.2.2, .int wu, .int ww]))]) := by
  refine mkI [(0, .ref x)] (by decide) rfl (Nat.le_of_ble_eq_true rfl) ?_
  intro E A Q hE C hA hret
  have hG0 := hG
  obtain ⟨g1, g2, g3, g4, g5, g6⟩ := hG
  have hf9 := hok_9 g2 g4
  refine s_aload_n 0 C dF_most_0 rfl ?_
  refine s_callV (n := 0) (wr := []) [0, 1, 2, 3, 4, 5, 6, 7, 8, 9, 10, 11] [] 0 [] C hA (kF_solve E.2.1 D cA x k h s b1 b2 b3 b4 b5 g a1 a2 a3 o1 o2 o3 o4 o5 N hd tl TW LF AH en fs fc n m fi se wa so ta ex bs bc wu ww hG0 hS) gF_79 dF_most_1 (by decide +kernel) rfl rfl (by decide) (by decide) (by decide) rfl rfl rfl (by decide) (by decide) rfl rfl (Nat.le_of_ble_eq_true rfl) (Nat.zero_le _) (Nat.zero_le _) (fun u hu => ?_)
  refine s_sub (ws' := [(x, .inr (4, [.ref g, .ref s, .ref h, .ref k])), (s, .inr (3, [.int (nI u.1.1), .ref b1, .ref b2, .ref b3, .ref b4, .ref b5, .int u.1.2.2.2.2.2.2.1, .int u.1.2.2.2.2.2.2.2.1, .int u.1.2.2.2.2.2.2.2.2])), (b1, .inl (cA, 14, .inl (aN u.1.2.1))), (b2, .inl (cA, 14, .inl (aN u.1.2.2.1))), (b3, .inl (cA, 14, .inl u.1.2.2.2.1)), (b4, .inl (cA, 9, .inl u.1.2.2.2.2.1)), (b5, .inl (cA, 9, .inl u.1.2.2.2.2.2.1)), (g, .inr (2, [.int (nI n), .int (nI m), .ref a1, .ref a2, .ref a3])), (a1, .inl (cA, 14, .inl (aN fi))), (a2, .inl (cA, 14, .inl (aN se))), (a3, .inl (cA, 9, .inl (aN wa))), (k, .inr (0, [.int (nI 1), .int ta, .int ex, .int u.2.1, .int u.2.2, .int wu, .int ww]))]) [0, 1, 2, 3, 4, 5, 6, 7, 8, 9, 10, 11] rfl (by decide) ?_
  obtain ⟨B, hB1, hB2, hB3, hB4⟩ := hu
  obtain ⟨sr2, bs2, bc2⟩ := u
  dsimp only at hB3 hB4
  subst hB3
  subst hB4
  refine s_eqw (ws' := [(x, .inr (4, [.ref g, .ref s, .ref h, .ref k])), (s, .inr (3, [.int (nI sr2.1), .ref b1, .ref b2, .ref b3, .ref b4, .ref b5, .int sr2.2.2.2.2.2.2.1, .int sr2.2.2.2.2.2.2.2.1, .int sr2.2.2.2.2.2.2.2.2])), (b1, .inl (cA, 14, .inl (aN sr2.2.1))), (b2, .inl (cA, 14, .inl (aN sr2.2.2.1))), (b3, .inl (cA, 14, .inl sr2.2.2.2.1)), (b4, .inl (cA, 9, .inl sr2.2.2.2.2.1)), (b5, .inl (cA, 9, .inl sr2.2.2.2.2.2.1)), (g, .inr (2, [.int (nI n), .int (nI m), .ref a1, .ref a2, .ref a3])), (a1, .inl (cA, 14, .inl (aN fi))), (a2, .inl (cA, 14, .inl (aN se))), (a3, .inl (cA, 9, .inl (aN wa))), (k, .inr (0, [.int (nI 1), .int ta, .int ex, .int (nI B), .int (nI (hsz m (bm B))), .int wu, .int ww]))]) rfl ?_
  have hzm := hsz_le m (bm B)
  have hB14 : B < 2 ^ 14 := Nat.lt_of_lt_of_le hB1 (p2_le g3)
  refine s_aload_n 0 C dF_most_4 rfl ?_
  refine s_get (.ref k) 0 3 C wfP inF flF_33 dF_most_5 rfl rfl (by decide) rfl ?_
  refine s_get (.int (nI (hsz m (bm B)))) 11 4 C wfP inA flF_82 dF_most_8 rfl rfl (by decide) rfl ?_
  exact hret _ (sr2, nI 1, nI B, nI (hsz m (bm B))) _ _ dF_most_11 rfl ⟨Or.inr ⟨rfl, B, hB1, hB2, rfl, rfl⟩, ⟨bm B, hB2, rfl⟩⟩
set_option maxHeartbeats 4000000 in
set_option maxRecDepth 100000 in
/-- best -/
theorem kF_best (l : Launch) (D : va_G) (cA : ClassId) (x k h s b1 b2 b3 b4 b5 g a1 a2 a3 o1 o2 o3 o4 o5 : Nat) (N : Nat) (hd tl : Nat → Nat) (TW LF AH : Nat → Int32) (en fs fc : Int32) (n m : Nat) (fi se wa : Nat → Nat) (so ta ex bs bc wu ww : Int32) (hG : GOK n m fi se wa) (hS : knS fi se wa m so bs bc)  : CtI (S := SrT × Int32 × Int32 × Int32) l yF_best (.code yF_best cF_best 1 (some .int)) 23 0 0 D cA [.ref x] [(x, .inr (4, [.ref g, .ref s, .ref h, .ref k])), (s, .inr (3, [.int (nI N), .ref b1, .ref b2, .ref b3, .ref b4, .ref b5, .int en, .int fs, .int fc])), (b1, .inl (cA, 14, .inl (aN hd))), (b2, .inl (cA, 14, .inl (aN tl))), (b3, .inl (cA, 14, .inl TW)), (b4, .inl (cA, 9, .inl LF)), (b5, .inl (cA, 9, .inl AH)), (g, .inr (2, [.int (nI n), .int (nI m), .ref a1, .ref a2, .ref a3])), (a1, .inl (cA, 14, .inl (aN fi))), (a2, .inl (cA, 14, .inl (aN se))), (a3, .inl (cA, 9, .inl (aN wa))), (k, .inr (0, [.int so, .int ta, .int ex, .int bs, .int bc, .int wu, .int ww]))] (fun r u => knS fi se wa m u.2.1 u.2.2.1 u.2.2.2 ∧ bestP fi se wa m r) (fun u => [(x, .inr (4, [.ref g, .ref s, .ref h, .ref k])), (s, .inr (3, [.int (nI u.1.1), .ref b1, .ref b2, .ref b3, .ref b4, .ref b5, .int u.1.2.2.2.2.2.2.1, .int u.1.2.2.2.2.2.2.2.1, .int u.1.2.2.2.2.2.2.2.2])), (b1, .inl (cA, 14, .inl (aN u.1.2.1))), (b2, .inl (cA, 14, .inl (aN u.1.2.2.1))), (b3, .inl (cA, 14, .inl u.1.2.2.2.1)), (b4, .inl (cA, 9, .inl u.1.2.2.2.2.1)), (b5, .inl (cA, 9, .inl u.1.2.2.2.2.2.1)), (g, .inr (2, [.int (nI n), .int (nI m), .ref a1, .ref a2, .ref a3])), (a1, .inl (cA, 14, .inl (aN fi))), (a2, .inl (cA, 14, .inl (aN se))), (a3, .inl (cA, 9, .inl (aN wa))), (k, .inr (0, [.int u.2.1, .int ta, .int ex, .int u.2.2.1, .int u.2.2.2, .int wu, .int ww]))]) := by
  refine mkI [(0, .ref x)] (by decide) rfl (Nat.le_of_ble_eq_true rfl) ?_
  intro E A Q hE C hA hret
  have hG0 := hG
  obtain ⟨g1, g2, g3, g4, g5, g6⟩ := hG
  have hf9 := hok_9 g2 g4
  refine s_aload_n 0 C dF_best_0 rfl ?_
  refine s_callV (n := 0) (wr := []) [0, 1, 2, 3, 4, 5, 6, 7, 8, 9, 10, 11] [] 0 [] C hA (kF_solve E.2.1 D cA x k h s b1 b2 b3 b4 b5 g a1 a2 a3 o1 o2 o3 o4 o5 N hd tl TW LF AH en fs fc n m fi se wa so ta ex bs bc wu ww hG0 hS) gF_79 dF_best_1 (by decide +kernel) rfl rfl (by decide) (by decide) (by decide) rfl rfl rfl (by decide) (by decide) rfl rfl (Nat.le_of_ble_eq_true rfl) (Nat.zero_le _) (Nat.zero_le _) (fun u hu => ?_)
  refine s_sub (ws' := [(x, .inr (4, [.ref g, .ref s, .ref h, .ref k])), (s, .inr (3, [.int (nI u.1.1), .ref b1, .ref b2, .ref b3, .ref b4, .ref b5, .int u.1.2.2.2.2.2.2.1, .int u.1.2.2.2.2.2.2.2.1, .int u.1.2.2.2.2.2.2.2.2])), (b1, .inl (cA, 14, .inl (aN u.1.2.1))), (b2, .inl (cA, 14, .inl (aN u.1.2.2.1))), (b3, .inl (cA, 14, .inl u.1.2.2.2.1)), (b4, .inl (cA, 9, .inl u.1.2.2.2.2.1)), (b5, .inl (cA, 9, .inl u.1.2.2.2.2.2.1)), (g, .inr (2, [.int (nI n), .int (nI m), .ref a1, .ref a2, .ref a3])), (a1, .inl (cA, 14, .inl (aN fi))), (a2, .inl (cA, 14, .inl (aN se))), (a3, .inl (cA, 9, .inl (aN wa))), (k, .inr (0, [.int (nI 1), .int ta, .int ex, .int u.2.1, .int u.2.2, .int wu, .int ww]))]) [0, 1, 2, 3, 4, 5, 6, 7, 8, 9, 10, 11] rfl (by decide) ?_
  obtain ⟨B, hB1, hB2, hB3, hB4⟩ := hu
  obtain ⟨sr2, bs2, bc2⟩ := u
  dsimp only at hB3 hB4
  subst hB3
  subst hB4
  refine s_eqw (ws' := [(x, .inr (4, [.ref g, .ref s, .ref h, .ref k])), (s, .inr (3, [.int (nI sr2.1), .ref b1, .ref b2, .ref b3, .ref b4, .ref b5, .int sr2.2.2.2.2.2.2.1, .int sr2.2.2.2.2.2.2.2.1, .int sr2.2.2.2.2.2.2.2.2])), (b1, .inl (cA, 14, .inl (aN sr2.2.1))), (b2, .inl (cA, 14, .inl (aN sr2.2.2.1))), (b3, .inl (cA, 14, .inl sr2.2.2.2.1)), (b4, .inl (cA, 9, .inl sr2.2.2.2.2.1)), (b5, .inl (cA, 9, .inl sr2.2.2.2.2.2.1)), (g, .inr (2, [.int (nI n), .int (nI m), .ref a1, .ref a2, .ref a3])), (a1, .inl (cA, 14, .inl (aN fi))), (a2, .inl (cA, 14, .inl (aN se))), (a3, .inl (cA, 9, .inl (aN wa))), (k, .inr (0, [.int (nI 1), .int ta, .int ex, .int (nI B), .int (nI (hsz m (bm B))), .int wu, .int ww]))]) rfl ?_
  have hzm := hsz_le m (bm B)
  have hB14 : B < 2 ^ 14 := Nat.lt_of_lt_of_le hB1 (p2_le g3)
  refine s_aload_n 0 C dF_best_4 rfl ?_
  refine s_get (.ref k) 0 3 C wfP inF flF_33 dF_best_5 rfl rfl (by decide) rfl ?_
  refine s_get (.int (nI B)) 11 3 C wfP inA flF_85 dF_best_8 rfl rfl (by decide) rfl ?_
  exact hret _ (sr2, nI 1, nI B, nI (hsz m (bm B))) _ _ dF_best_11 rfl ⟨Or.inr ⟨rfl, B, hB1, hB2, rfl, rfl⟩, ⟨B, hB1, hB2, rfl⟩⟩
set_option maxHeartbeats 4000000 in
set_option maxRecDepth 100000 in
/-- factor -/
theorem kF_factor (l : Launch) (D : va_G) (cA : ClassId) (x k h s b1 b2 b3 b4 b5 g a1 a2 a3 o1 o2 o3 o4 o5 : Nat) (N : Nat) (hd tl : Nat → Nat) (TW LF AH : Nat → Int32) (en fs fc : Int32) (n m : Nat) (fi se wa : Nat → Nat) (so ta ex bs bc wu ww : Int32) (hG : GOK n m fi se wa) (hS : knS fi se wa m so bs bc)  : CtI (S := SrT × Int32 × Int32 × Int32) l yF_factor (.code yF_factor cF_factor 1 (some .int)) 23 0 0 D cA [.ref x] [(x, .inr (4, [.ref g, .ref s, .ref h, .ref k])), (s, .inr (3, [.int (nI N), .ref b1, .ref b2, .ref b3, .ref b4, .ref b5, .int en, .int fs, .int fc])), (b1, .inl (cA, 14, .inl (aN hd))), (b2, .inl (cA, 14, .inl (aN tl))), (b3, .inl (cA, 14, .inl TW)), (b4, .inl (cA, 9, .inl LF)), (b5, .inl (cA, 9, .inl AH)), (g, .inr (2, [.int (nI n), .int (nI m), .ref a1, .ref a2, .ref a3])), (a1, .inl (cA, 14, .inl (aN fi))), (a2, .inl (cA, 14, .inl (aN se))), (a3, .inl (cA, 9, .inl (aN wa))), (k, .inr (0, [.int so, .int ta, .int ex, .int bs, .int bc, .int wu, .int ww]))] (fun r u => knS fi se wa m u.2.1 u.2.2.1 u.2.2.2 ∧ facP fi se wa n m r) (fun u => [(x, .inr (4, [.ref g, .ref s, .ref h, .ref k])), (s, .inr (3, [.int (nI u.1.1), .ref b1, .ref b2, .ref b3, .ref b4, .ref b5, .int u.1.2.2.2.2.2.2.1, .int u.1.2.2.2.2.2.2.2.1, .int u.1.2.2.2.2.2.2.2.2])), (b1, .inl (cA, 14, .inl (aN u.1.2.1))), (b2, .inl (cA, 14, .inl (aN u.1.2.2.1))), (b3, .inl (cA, 14, .inl u.1.2.2.2.1)), (b4, .inl (cA, 9, .inl u.1.2.2.2.2.1)), (b5, .inl (cA, 9, .inl u.1.2.2.2.2.2.1)), (g, .inr (2, [.int (nI n), .int (nI m), .ref a1, .ref a2, .ref a3])), (a1, .inl (cA, 14, .inl (aN fi))), (a2, .inl (cA, 14, .inl (aN se))), (a3, .inl (cA, 9, .inl (aN wa))), (k, .inr (0, [.int u.2.1, .int ta, .int ex, .int u.2.2.1, .int u.2.2.2, .int wu, .int ww]))]) := by
  refine mkI [(0, .ref x)] (by decide) rfl (Nat.le_of_ble_eq_true rfl) ?_
  intro E A Q hE C hA hret
  have hG0 := hG
  obtain ⟨g1, g2, g3, g4, g5, g6⟩ := hG
  have hf9 := hok_9 g2 g4
  refine s_aload_n 0 C dF_factor_0 rfl ?_
  refine s_callV (n := 0) (wr := []) [0, 1, 2, 3, 4, 5, 6, 7, 8, 9, 10, 11] [] 0 [] C hA (kF_solve E.2.1 D cA x k h s b1 b2 b3 b4 b5 g a1 a2 a3 o1 o2 o3 o4 o5 N hd tl TW LF AH en fs fc n m fi se wa so ta ex bs bc wu ww hG0 hS) gF_79 dF_factor_1 (by decide +kernel) rfl rfl (by decide) (by decide) (by decide) rfl rfl rfl (by decide) (by decide) rfl rfl (Nat.le_of_ble_eq_true rfl) (Nat.zero_le _) (Nat.zero_le _) (fun u hu => ?_)
  refine s_sub (ws' := [(x, .inr (4, [.ref g, .ref s, .ref h, .ref k])), (s, .inr (3, [.int (nI u.1.1), .ref b1, .ref b2, .ref b3, .ref b4, .ref b5, .int u.1.2.2.2.2.2.2.1, .int u.1.2.2.2.2.2.2.2.1, .int u.1.2.2.2.2.2.2.2.2])), (b1, .inl (cA, 14, .inl (aN u.1.2.1))), (b2, .inl (cA, 14, .inl (aN u.1.2.2.1))), (b3, .inl (cA, 14, .inl u.1.2.2.2.1)), (b4, .inl (cA, 9, .inl u.1.2.2.2.2.1)), (b5, .inl (cA, 9, .inl u.1.2.2.2.2.2.1)), (g, .inr (2, [.int (nI n), .int (nI m), .ref a1, .ref a2, .ref a3])), (a1, .inl (cA, 14, .inl (aN fi))), (a2, .inl (cA, 14, .inl (aN se))), (a3, .inl (cA, 9, .inl (aN wa))), (k, .inr (0, [.int (nI 1), .int ta, .int ex, .int u.2.1, .int u.2.2, .int wu, .int ww]))]) [0, 1, 2, 3, 4, 5, 6, 7, 8, 9, 10, 11] rfl (by decide) ?_
  obtain ⟨B, hB1, hB2, hB3, hB4⟩ := hu
  obtain ⟨sr2, bs2, bc2⟩ := u
  dsimp only at hB3 hB4
  subst hB3
  subst hB4
  refine s_eqw (ws' := [(x, .inr (4, [.ref g, .ref s, .ref h, .ref k])), (s, .inr (3, [.int (nI sr2.1), .ref b1, .ref b2, .ref b3, .ref b4, .ref b5, .int sr2.2.2.2.2.2.2.1, .int sr2.2.2.2.2.2.2.2.1, .int sr2.2.2.2.2.2.2.2.2])), (b1, .inl (cA, 14, .inl (aN sr2.2.1))), (b2, .inl (cA, 14, .inl (aN sr2.2.2.1))), (b3, .inl (cA, 14, .inl sr2.2.2.2.1)), (b4, .inl (cA, 9, .inl sr2.2.2.2.2.1)), (b5, .inl (cA, 9, .inl sr2.2.2.2.2.2.1)), (g, .inr (2, [.int (nI n), .int (nI m), .ref a1, .ref a2, .ref a3])), (a1, .inl (cA, 14, .inl (aN fi))), (a2, .inl (cA, 14, .inl (aN se))), (a3, .inl (cA, 9, .inl (aN wa))), (k, .inr (0, [.int (nI 1), .int ta, .int ex, .int (nI B), .int (nI (hsz m (bm B))), .int wu, .int ww]))]) rfl ?_
  have hzm := hsz_le m (bm B)
  have hB14 : B < 2 ^ 14 := Nat.lt_of_lt_of_le hB1 (p2_le g3)
  refine s_iconst (nI 2) C dF_factor_4 (by decide) ?_
  refine s_aload_n 0 C dF_factor_5 rfl ?_
  refine s_get (.ref k) 0 3 C wfP inF flF_33 dF_factor_6 rfl rfl (by decide) rfl ?_
  refine s_get (.int (nI (hsz m (bm B)))) 11 4 C wfP inA flF_82 dF_factor_9 rfl rfl (by decide) rfl ?_
  refine s_imulN C dF_factor_12 ?_
  refine s_aload_n 0 C dF_factor_13 rfl ?_
  refine s_get (.ref g) 0 0 C wfP inF flF_12 dF_factor_14 rfl rfl (by decide) rfl ?_
  refine s_callP (n := 0) [7, 10] 0 [.int (nI (2 * (hsz m (bm B))))] C wfP (kG_wantedByAll E.2.1 D cA g a1 a2 a3 n m wa g2 g5) gF_88 dF_factor_17 (by decide +kernel) rfl rfl rfl rfl (by decide) (by decide) rfl rfl (Nat.le_of_ble_eq_true rfl) (Nat.zero_le _) (Nat.zero_le _) (fun rw9 hw => ?_)
  refine s_top hw ?_
  have hsw := su_wa g2 g5
  refine s_icmp_neN 33 C dF_factor_20 (by decide) (by omega) (by omega) (fun c1 => ?_) (fun c1 => ?_)
  · refine s_iconst (-1) C dF_factor_33 (by decide) ?_
    exact hret _ (sr2, nI 1, nI B, nI (hsz m (bm B))) _ _ dF_factor_34 rfl ⟨Or.inr ⟨rfl, B, hB1, hB2, rfl, rfl⟩, fac_best g2 g3 g4 hB1 hB2 (Or.inr ⟨c1, rfl⟩)⟩
  · refine s_aload_n 0 C dF_factor_23 rfl ?_
    refine s_get (.ref k) 0 3 C wfP inF flF_33 dF_factor_24 rfl rfl (by decide) rfl ?_
    refine s_get (.int (nI B)) 11 3 C wfP inA flF_85 dF_factor_27 rfl rfl (by decide) rfl ?_
    refine s_goto (tgt := 34) C dF_factor_30 (by decide) ?_
    exact hret _ (sr2, nI 1, nI B, nI (hsz m (bm B))) _ _ dF_factor_34 rfl ⟨Or.inr ⟨rfl, B, hB1, hB2, rfl, rfl⟩, fac_best g2 g3 g4 hB1 hB2 (Or.inl ⟨c1, rfl⟩)⟩
set_option maxHeartbeats 4000000 in
set_option maxRecDepth 100000 in
/-- role -/
theorem kF_role (l : Launch) (D : va_G) (cA : ClassId) (x k h s b1 b2 b3 b4 b5 g a1 a2 a3 o1 o2 o3 o4 o5 : Nat) (N : Nat) (hd tl : Nat → Nat) (TW LF AH : Nat → Int32) (en fs fc : Int32) (n m : Nat) (fi se wa : Nat → Nat) (so ta ex bs bc wu ww : Int32) (hG : GOK n m fi se wa) (hS : knS fi se wa m so bs bc) (p : Int32) : CtI (S := SrT × Int32 × Int32 × Int32) l yF_role (.code yF_role cF_role 3 (some .int)) 23 0 0 D cA [.ref x, .int p] [(x, .inr (4, [.ref g, .ref s, .ref h, .ref k])), (s, .inr (3, [.int (nI N), .ref b1, .ref b2, .ref b3, .ref b4, .ref b5, .int en, .int fs, .int fc])), (b1, .inl (cA, 14, .inl (aN hd))), (b2, .inl (cA, 14, .inl (aN tl))), (b3, .inl (cA, 14, .inl TW)), (b4, .inl (cA, 9, .inl LF)), (b5, .inl (cA, 9, .inl AH)), (g, .inr (2, [.int (nI n), .int (nI m), .ref a1, .ref a2, .ref a3])), (a1, .inl (cA, 14, .inl (aN fi))), (a2, .inl (cA, 14, .inl (aN se))), (a3, .inl (cA, 9, .inl (aN wa))), (k, .inr (0, [.int so, .int ta, .int ex, .int bs, .int bc, .int wu, .int ww]))] (fun r u => knS fi se wa m u.2.1 u.2.2.1 u.2.2.2 ∧ roleQ fi se wa m p r) (fun u => [(x, .inr (4, [.ref g, .ref s, .ref h, .ref k])), (s, .inr (3, [.int (nI u.1.1), .ref b1, .ref b2, .ref b3, .ref b4, .ref b5, .int u.1.2.2.2.2.2.2.1, .int u.1.2.2.2.2.2.2.2.1, .int u.1.2.2.2.2.2.2.2.2])), (b1, .inl (cA, 14, .inl (aN u.1.2.1))), (b2, .inl (cA, 14, .inl (aN u.1.2.2.1))), (b3, .inl (cA, 14, .inl u.1.2.2.2.1)), (b4, .inl (cA, 9, .inl u.1.2.2.2.2.1)), (b5, .inl (cA, 9, .inl u.1.2.2.2.2.2.1)), (g, .inr (2, [.int (nI n), .int (nI m), .ref a1, .ref a2, .ref a3])), (a1, .inl (cA, 14, .inl (aN fi))), (a2, .inl (cA, 14, .inl (aN se))), (a3, .inl (cA, 9, .inl (aN wa))), (k, .inr (0, [.int u.2.1, .int ta, .int ex, .int u.2.2.1, .int u.2.2.2, .int wu, .int ww]))]) := by
  refine mkI [(0, .ref x), (1, .int p)] (by decide) rfl (Nat.le_of_ble_eq_true rfl) ?_
  intro E A Q hE C hA hret
  have hG0 := hG
  obtain ⟨g1, g2, g3, g4, g5, g6⟩ := hG
  have hf9 := hok_9 g2 g4
  refine s_aload_n 0 C dF_role_0 rfl ?_
  refine s_get (.ref g) 0 0 C wfP inF flF_12 dF_role_1 rfl rfl (by decide) rfl ?_
  refine s_iload_n 1 C dF_role_4 rfl ?_
  refine s_callP (n := 1) [7] 0 [] C wfP (kG_hasEdge E.2.1 D cA g a1 a2 a3 n m p (by omega) (by omega)) gF_56 dF_role_5 (by decide +kernel) rfl rfl rfl rfl (by decide) (by decide) rfl rfl (Nat.le_of_ble_eq_true rfl) (Nat.zero_le _) (Nat.zero_le _) (fun rhv hv => ?_)
  rcases hv with ⟨er, hin⟩ | ⟨er, hin⟩
  · refine s_top er ?_
    refine s_if_neN 13 C dF_role_8 (by decide) (by decide) (fun c1 => ?_) (fun c1 => ?_)
    · obtain ⟨j, hj, rfl⟩ := hin
      refine s_aload_n 0 C dF_role_13 rfl ?_
      refine s_callV (n := 0) (wr := []) [0, 1, 2, 3, 4, 5, 6, 7, 8, 9, 10, 11] [] 0 [] C hA (kF_solve E.2.1 D cA x k h s b1 b2 b3 b4 b5 g a1 a2 a3 o1 o2 o3 o4 o5 N hd tl TW LF AH en fs fc n m fi se wa so ta ex bs bc wu ww hG0 hS) gF_79 dF_role_14 (by decide +kernel) rfl rfl (by decide) (by decide) (by decide) rfl rfl rfl (by decide) (by decide) rfl rfl (Nat.le_of_ble_eq_true rfl) (Nat.zero_le _) (Nat.zero_le _) (fun u hu => ?_)
      refine s_sub (ws' := [(x, .inr (4, [.ref g, .ref s, .ref h, .ref k])), (s, .inr (3, [.int (nI u.1.1), .ref b1, .ref b2, .ref b3, .ref b4, .ref b5, .int u.1.2.2.2.2.2.2.1, .int u.1.2.2.2.2.2.2.2.1, .int u.1.2.2.2.2.2.2.2.2])), (b1, .inl (cA, 14, .inl (aN u.1.2.1))), (b2, .inl (cA, 14, .inl (aN u.1.2.2.1))), (b3, .inl (cA, 14, .inl u.1.2.2.2.1)), (b4, .inl (cA, 9, .inl u.1.2.2.2.2.1)), (b5, .inl (cA, 9, .inl u.1.2.2.2.2.2.1)), (g, .inr (2, [.int (nI n), .int (nI m), .ref a1, .ref a2, .ref a3])), (a1, .inl (cA, 14, .inl (aN fi))), (a2, .inl (cA, 14, .inl (aN se))), (a3, .inl (cA, 9, .inl (aN wa))), (k, .inr (0, [.int (nI 1), .int ta, .int ex, .int u.2.1, .int u.2.2, .int wu, .int ww]))]) [0, 1, 2, 3, 4, 5, 6, 7, 8, 9, 10, 11] rfl (by decide) ?_
      obtain ⟨B, hB1, hB2, hB3, hB4⟩ := hu
      obtain ⟨sr2, bs2, bc2⟩ := u
      dsimp only at hB3 hB4
      subst hB3
      subst hB4
      refine s_eqw (ws' := [(x, .inr (4, [.ref g, .ref s, .ref h, .ref k])), (s, .inr (3, [.int (nI sr2.1), .ref b1, .ref b2, .ref b3, .ref b4, .ref b5, .int sr2.2.2.2.2.2.2.1, .int sr2.2.2.2.2.2.2.2.1, .int sr2.2.2.2.2.2.2.2.2])), (b1, .inl (cA, 14, .inl (aN sr2.2.1))), (b2, .inl (cA, 14, .inl (aN sr2.2.2.1))), (b3, .inl (cA, 14, .inl sr2.2.2.2.1)), (b4, .inl (cA, 9, .inl sr2.2.2.2.2.1)), (b5, .inl (cA, 9, .inl sr2.2.2.2.2.2.1)), (g, .inr (2, [.int (nI n), .int (nI m), .ref a1, .ref a2, .ref a3])), (a1, .inl (cA, 14, .inl (aN fi))), (a2, .inl (cA, 14, .inl (aN se))), (a3, .inl (cA, 9, .inl (aN wa))), (k, .inr (0, [.int (nI 1), .int ta, .int ex, .int (nI B), .int (nI (hsz m (bm B))), .int wu, .int ww]))]) rfl ?_
      have hzm := hsz_le m (bm B)
      have hB14 : B < 2 ^ 14 := Nat.lt_of_lt_of_le hB1 (p2_le g3)
      refine s_aload_n 0 C dF_role_17 rfl ?_
      refine s_get (.ref s) 0 1 C wfP inF flF_19 dF_role_18 rfl rfl (by decide) rfl ?_
      refine s_aload_n 0 C dF_role_21 rfl ?_
      refine s_get (.ref g) 0 0 C wfP inF flF_12 dF_role_22 rfl rfl (by decide) rfl ?_
      refine s_iload_n 1 C dF_role_25 rfl ?_
      refine s_callV (n := 2) (wr := [(x, .inr (4, [.ref g, .ref s, .ref h, .ref k])), (k, .inr (0, [.int (nI 1), .int ta, .int ex, .int (nI B), .int (nI (hsz m (bm B))), .int wu, .int ww]))]) [1, 2, 3, 4, 5, 6, 7, 8, 9, 10] [0, 11] 0 [] C hA (kS_load E.2.1 D cA s b1 b2 b3 b4 b5 sr2.1 sr2.2.1 sr2.2.2.1 sr2.2.2.2.1 sr2.2.2.2.2.1 sr2.2.2.2.2.2.1 sr2.2.2.2.2.2.2.1 sr2.2.2.2.2.2.2.2.1 sr2.2.2.2.2.2.2.2.2 g a1 a2 a3 n m fi se wa j (nI j) g3 (hok_9 g2 g4) (wo_e g3 hj)) gF_92 dF_role_26 (by decide +kernel) rfl rfl (by decide) (by decide) (by decide) rfl rfl rfl (by decide) (by decide) rfl rfl (Nat.le_of_ble_eq_true rfl) (Nat.zero_le _) (Nat.zero_le _) (fun u hu => ?_)
      refine s_sub (ws' := [(x, .inr (4, [.ref g, .ref s, .ref h, .ref k])), (s, .inr (3, [.int (nI (ldN m j)), .ref b1, .ref b2, .ref b3, .ref b4, .ref b5, .int sr2.2.2.2.2.2.2.1, .int sr2.2.2.2.2.2.2.2.1, .int sr2.2.2.2.2.2.2.2.2])), (b1, .inl (cA, 14, .inl (aN u.1))), (b2, .inl (cA, 14, .inl (aN u.2.1))), (b3, .inl (cA, 14, .inl u.2.2.1)), (b4, .inl (cA, 9, .inl (aN wa))), (b5, .inl (cA, 9, .inl (aN u.2.2.2))), (g, .inr (2, [.int (nI n), .int (nI m), .ref a1, .ref a2, .ref a3])), (a1, .inl (cA, 14, .inl (aN fi))), (a2, .inl (cA, 14, .inl (aN se))), (a3, .inl (cA, 9, .inl (aN wa))), (k, .inr (0, [.int (nI 1), .int ta, .int ex, .int (nI B), .int (nI (hsz m (bm B))), .int wu, .int ww]))]) [0, 2, 3, 4, 5, 6, 7, 8, 9, 10, 11, 1] rfl (by decide) ?_
      have eN : ldN m j = m - 1 := by unfold ldN; rw [if_neg (by omega)]
      have hh : ∀ i, i < m - 1 → ∀ v, hin u.1 u.2.1 i v = hin fi se (sk j i) v := fun i hi => ld_hin hu i (by rw [eN]; exact hi)
      obtain ⟨f1, f2, f3⟩ := hf9 j hj
      have hwf := g5 _ f1
      have hws := g5 _ f2
      refine s_aload_n 0 C dF_role_29 rfl ?_
      refine s_get (.ref k) 0 3 C wfP inF flF_33 dF_role_30 rfl rfl (by decide) rfl ?_
      refine s_get (.int (nI B)) 11 3 C wfP inA flF_85 dF_role_33 rfl rfl (by decide) rfl ?_
      refine s_iload_n 1 C dF_role_36 rfl ?_
      refine s_ishrN C dF_role_37 (by omega) (by omega) ?_
      refine s_iconst (nI 1) C dF_role_38 (by decide) ?_
      refine s_bitN C dF_role_39 ?_
      refine s_iconst (nI 1) C dF_role_40 (by decide) ?_
      refine s_icmp_neN 67 C dF_role_41 (by decide) (bt31 _) (by decide) (fun c2 => ?_) (fun c2 => ?_)
      · have hbj : bm B j = false := by
          cases hh9 : bm B j with
          | false => rfl
          | true => rw [hh9] at c2; exact absurd rfl c2
        have hO : lgW fi se wa m j (bm B) false := ⟨bm B, hB2.1, rfl, hbj⟩
        refine s_aload_n 0 C dF_role_67 rfl ?_
        refine s_get (.ref s) 0 1 C wfP inF flF_19 dF_role_68 rfl rfl (by decide) rfl ?_
        refine s_aload_n 0 C dF_role_71 rfl ?_
        refine s_get (.ref g) 0 0 C wfP inF flF_12 dF_role_72 rfl rfl (by decide) rfl ?_
        refine s_get (.ref a1) 7 2 C wfP inG flF_69 dF_role_75 rfl rfl (by decide) rfl ?_
        refine s_iload_n 1 C dF_role_78 rfl ?_
        refine s_ialdN 8 C wfP dF_role_79 rfl (by omega) (by decide) ?_
        refine s_callI (n := 1) (wr := [(x, .inr (4, [.ref g, .ref s, .ref h, .ref k])), (b1, .inl (cA, 14, .inl (aN u.1))), (b2, .inl (cA, 14, .inl (aN u.2.1))), (b3, .inl (cA, 14, .inl u.2.2.1)), (b5, .inl (cA, 9, .inl (aN u.2.2.2))), (g, .inr (2, [.int (nI n), .int (nI m), .ref a1, .ref a2, .ref a3])), (a1, .inl (cA, 14, .inl (aN fi))), (a2, .inl (cA, 14, .inl (aN se))), (a3, .inl (cA, 9, .inl (aN wa))), (k, .inr (0, [.int (nI 1), .int ta, .int ex, .int (nI B), .int (nI (hsz m (bm B))), .int wu, .int ww]))]) [1, 5] [0, 2, 3, 4, 6, 7, 8, 9, 10, 11] 0 [] C hA (kS_lend E.2.1 D cA s b1 b2 b3 b4 b5 (ldN m j) wa sr2.2.2.2.2.2.2.1 sr2.2.2.2.2.2.2.2.1 sr2.2.2.2.2.2.2.2.2 (fi j) f1 (fun z hz => by have := g5 z hz; omega)) gF_99 dF_role_80 (by decide +kernel) rfl rfl (by decide) (by decide) (by decide) rfl rfl rfl (by decide) (by decide) rfl rfl (Nat.le_of_ble_eq_true rfl) (Nat.zero_le _) (Nat.zero_le _) (fun r L1 hl1 => ?_)
        refine s_sub (ws' := [(x, .inr (4, [.ref g, .ref s, .ref h, .ref k])), (s, .inr (3, [.int (nI (ldN m j)), .ref b1, .ref b2, .ref b3, .ref b4, .ref b5, .int sr2.2.2.2.2.2.2.1, .int sr2.2.2.2.2.2.2.2.1, .int sr2.2.2.2.2.2.2.2.2])), (b1, .inl (cA, 14, .inl (aN u.1))), (b2, .inl (cA, 14, .inl (aN u.2.1))), (b3, .inl (cA, 14, .inl u.2.2.1)), (b4, .inl (cA, 9, .inl L1)), (b5, .inl (cA, 9, .inl (aN u.2.2.2))), (g, .inr (2, [.int (nI n), .int (nI m), .ref a1, .ref a2, .ref a3])), (a1, .inl (cA, 14, .inl (aN fi))), (a2, .inl (cA, 14, .inl (aN se))), (a3, .inl (cA, 9, .inl (aN wa))), (k, .inr (0, [.int (nI 1), .int ta, .int ex, .int (nI B), .int (nI (hsz m (bm B))), .int wu, .int ww]))]) [0, 10, 1, 2, 3, 11, 4, 5, 6, 7, 8, 9] rfl (by decide) ?_
        rcases hl1 with ⟨hp1, er, eL⟩ | ⟨hp1, er⟩
        · refine s_top er ?_
          subst eL
          refine s_eqw (ws' := [(x, .inr (4, [.ref g, .ref s, .ref h, .ref k])), (s, .inr (3, [.int (nI (ldN m j)), .ref b1, .ref b2, .ref b3, .ref b4, .ref b5, .int sr2.2.2.2.2.2.2.1, .int sr2.2.2.2.2.2.2.2.1, .int sr2.2.2.2.2.2.2.2.2])), (b1, .inl (cA, 14, .inl (aN u.1))), (b2, .inl (cA, 14, .inl (aN u.2.1))), (b3, .inl (cA, 14, .inl u.2.2.1)), (b4, .inl (cA, 9, .inl (aN (dn1 wa (fi j))))), (b5, .inl (cA, 9, .inl (aN u.2.2.2))), (g, .inr (2, [.int (nI n), .int (nI m), .ref a1, .ref a2, .ref a3])), (a1, .inl (cA, 14, .inl (aN fi))), (a2, .inl (cA, 14, .inl (aN se))), (a3, .inl (cA, 9, .inl (aN wa))), (k, .inr (0, [.int (nI 1), .int ta, .int ex, .int (nI B), .int (nI (hsz m (bm B))), .int wu, .int ww]))]) rfl ?_
          refine s_if_eqN 109 C dF_role_83 (by decide) (by decide) (fun c3 => ?_) (fun c3 => ?_)
          · exact absurd c3 (by decide)
          · refine s_aload_n 0 C dF_role_86 rfl ?_
            refine s_get (.ref s) 0 1 C wfP inF flF_19 dF_role_87 rfl rfl (by decide) rfl ?_
            refine s_aload_n 0 C dF_role_90 rfl ?_
            refine s_get (.ref g) 0 0 C wfP inF flF_12 dF_role_91 rfl rfl (by decide) rfl ?_
            refine s_get (.ref a2) 7 3 C wfP inG flF_72 dF_role_94 rfl rfl (by decide) rfl ?_
            refine s_iload_n 1 C dF_role_97 rfl ?_
            refine s_ialdN 9 C wfP dF_role_98 rfl (by omega) (by decide) ?_
            refine s_callI (n := 1) (wr := [(x, .inr (4, [.ref g, .ref s, .ref h, .ref k])), (b1, .inl (cA, 14, .inl (aN u.1))), (b2, .inl (cA, 14, .inl (aN u.2.1))), (b3, .inl (cA, 14, .inl u.2.2.1)), (b5, .inl (cA, 9, .inl (aN u.2.2.2))), (g, .inr (2, [.int (nI n), .int (nI m), .ref a1, .ref a2, .ref a3])), (a1, .inl (cA, 14, .inl (aN fi))), (a2, .inl (cA, 14, .inl (aN se))), (a3, .inl (cA, 9, .inl (aN wa))), (k, .inr (0, [.int (nI 1), .int ta, .int ex, .int (nI B), .int (nI (hsz m (bm B))), .int wu, .int ww]))]) [1, 5] [0, 2, 3, 4, 6, 7, 8, 9, 10, 11] 0 [] C hA (kS_lend E.2.1 D cA s b1 b2 b3 b4 b5 (ldN m j) (dn1 wa (fi j)) sr2.2.2.2.2.2.2.1 sr2.2.2.2.2.2.2.2.1 sr2.2.2.2.2.2.2.2.2 (se j) f2 (fun z hz => by have := g5 z hz; unfold dn1 nup; split <;> omega)) gF_99 dF_role_99 (by decide +kernel) rfl rfl (by decide) (by decide) (by decide) rfl rfl rfl (by decide) (by decide) rfl rfl (Nat.le_of_ble_eq_true rfl) (Nat.zero_le _) (Nat.zero_le _) (fun r L2 hl2 => ?_)
            refine s_sub (ws' := [(x, .inr (4, [.ref g, .ref s, .ref h, .ref k])), (s, .inr (3, [.int (nI (ldN m j)), .ref b1, .ref b2, .ref b3, .ref b4, .ref b5, .int sr2.2.2.2.2.2.2.1, .int sr2.2.2.2.2.2.2.2.1, .int sr2.2.2.2.2.2.2.2.2])), (b1, .inl (cA, 14, .inl (aN u.1))), (b2, .inl (cA, 14, .inl (aN u.2.1))), (b3, .inl (cA, 14, .inl u.2.2.1)), (b4, .inl (cA, 9, .inl L2)), (b5, .inl (cA, 9, .inl (aN u.2.2.2))), (g, .inr (2, [.int (nI n), .int (nI m), .ref a1, .ref a2, .ref a3])), (a1, .inl (cA, 14, .inl (aN fi))), (a2, .inl (cA, 14, .inl (aN se))), (a3, .inl (cA, 9, .inl (aN wa))), (k, .inr (0, [.int (nI 1), .int ta, .int ex, .int (nI B), .int (nI (hsz m (bm B))), .int wu, .int ww]))]) [0, 10, 1, 2, 3, 11, 4, 5, 6, 7, 8, 9] rfl (by decide) ?_
            have hd2 : dn1 wa (fi j) (se j) = wa (se j) := nup_n (Ne.symm f3)
            rw [hd2] at hl2
            rcases hl2 with ⟨hp2, er2, eL⟩ | ⟨hp2, er2⟩
            · refine s_top er2 ?_
              subst eL
              refine s_eqw (ws' := [(x, .inr (4, [.ref g, .ref s, .ref h, .ref k])), (s, .inr (3, [.int (nI (ldN m j)), .ref b1, .ref b2, .ref b3, .ref b4, .ref b5, .int sr2.2.2.2.2.2.2.1, .int sr2.2.2.2.2.2.2.2.1, .int sr2.2.2.2.2.2.2.2.2])), (b1, .inl (cA, 14, .inl (aN u.1))), (b2, .inl (cA, 14, .inl (aN u.2.1))), (b3, .inl (cA, 14, .inl u.2.2.1)), (b4, .inl (cA, 9, .inl (aN (dn2 wa (fi j) (se j))))), (b5, .inl (cA, 9, .inl (aN u.2.2.2))), (g, .inr (2, [.int (nI n), .int (nI m), .ref a1, .ref a2, .ref a3])), (a1, .inl (cA, 14, .inl (aN fi))), (a2, .inl (cA, 14, .inl (aN se))), (a3, .inl (cA, 9, .inl (aN wa))), (k, .inr (0, [.int (nI 1), .int ta, .int ex, .int (nI B), .int (nI (hsz m (bm B))), .int wu, .int ww]))]) rfl ?_
              refine s_if_eqN 109 C dF_role_102 (by decide) (by decide) (fun c4 => ?_) (fun c4 => ?_)
              · exact absurd c4 (by decide)
              · refine s_iconst (nI 1) C dF_role_105 (by decide) ?_
                refine s_goto (tgt := 110) C dF_role_106 (by decide) ?_
                refine s_istore_n [(0, .ref x), (1, .int (nI j)), (2, .int (nI 1))] [1, 2, 0] C dF_role_110 (by decide) rfl ?_
                refine s_iload_n 2 C dF_role_111 rfl ?_
                refine s_if_eqN 138 C dF_role_112 (by decide) (by decide) (fun c5 => ?_) (fun c5 => ?_)
                · exact absurd c5 (by decide)
                · have h1n := one_ed hf9 hj hp1 hp2 hB2
                  refine s_aload_n 0 C dF_role_115 rfl ?_
                  refine s_get (.ref s) 0 1 C wfP inF flF_19 dF_role_116 rfl rfl (by decide) rfl ?_
                  refine s_aload_n 0 C dF_role_119 rfl ?_
                  refine s_get (.ref k) 0 3 C wfP inF flF_33 dF_role_120 rfl rfl (by decide) rfl ?_
                  refine s_get (.int (nI (hsz m (bm B)))) 11 4 C wfP inA flF_82 dF_role_123 rfl rfl (by decide) rfl ?_
                  refine s_iconst (nI 1) C dF_role_126 (by decide) ?_
                  refine s_isubN C dF_role_127 (by omega) ?_
                  refine s_callI (n := 1) (wr := [(x, .inr (4, [.ref g, .ref s, .ref h, .ref k])), (g, .inr (2, [.int (nI n), .int (nI m), .ref a1, .ref a2, .ref a3])), (a1, .inl (cA, 14, .inl (aN fi))), (a2, .inl (cA, 14, .inl (aN se))), (a3, .inl (cA, 9, .inl (aN wa))), (k, .inr (0, [.int (nI 1), .int ta, .int ex, .int (nI B), .int (nI (hsz m (bm B))), .int wu, .int ww]))]) [1, 2, 3, 4, 5, 6] [0, 7, 8, 9, 10, 11] 0 [] C hA (kS_reaches E.2.1 D cA s b1 b2 b3 b4 b5 (ldN m j) u.1 u.2.1 (dn2 wa (fi j) (se j)) u.2.2.2 u.2.2.1 sr2.2.2.2.2.2.2.1 sr2.2.2.2.2.2.2.2.1 sr2.2.2.2.2.2.2.2.2 (hsz m (bm B) - 1) (by omega) (by rw [eN]; omega) hu.1 hu.2.1 (fun z hz => by have := g5 z hz; rw [dn2_v f3]; omega) hu.2.2.2) gF_96 dF_role_128 (by decide +kernel) rfl rfl (by decide) (by decide) (by decide) rfl rfl rfl (by decide) (by decide) rfl rfl (Nat.le_of_ble_eq_true rfl) (Nat.zero_le _) (Nat.zero_le _) (fun r q hq => ?_)
                  refine s_sub (ws' := [(x, .inr (4, [.ref g, .ref s, .ref h, .ref k])), (s, .inr (3, [.int (nI (ldN m j)), .ref b1, .ref b2, .ref b3, .ref b4, .ref b5, .int (nI (hsz m (bm B) - 1)), .int (nI q.1), .int (nI q.2 - 1)])), (b1, .inl (cA, 14, .inl (aN u.1))), (b2, .inl (cA, 14, .inl (aN u.2.1))), (b3, .inl (cA, 14, .inl u.2.2.1)), (b4, .inl (cA, 9, .inl (aN (dn2 wa (fi j) (se j))))), (b5, .inl (cA, 9, .inl (aN u.2.2.2))), (g, .inr (2, [.int (nI n), .int (nI m), .ref a1, .ref a2, .ref a3])), (a1, .inl (cA, 14, .inl (aN fi))), (a2, .inl (cA, 14, .inl (aN se))), (a3, .inl (cA, 9, .inl (aN wa))), (k, .inr (0, [.int (nI 1), .int ta, .int ex, .int (nI B), .int (nI (hsz m (bm B))), .int wu, .int ww]))]) [0, 6, 7, 8, 9, 10, 11, 1, 2, 3, 4, 5] rfl (by decide) ?_
                  rw [eN] at hq
                  rw [sk_W hj hf9 hp1 hp2 hh, show hsz m (bm B) - 1 + 1 = hsz m (bm B) by omega, lgW_O hB2] at hq
                  rcases hq with ⟨er, hW⟩ | ⟨er, hW⟩
                  · refine s_top er ?_
                    refine s_if_eqN 138 C dF_role_131 (by decide) (by decide) (fun c6 => ?_) (fun c6 => ?_)
                    · exact absurd c6 (by decide)
                    · refine s_iconst (nI 1) C dF_role_134 (by decide) ?_
                      refine s_goto (tgt := 139) C dF_role_135 (by decide) ?_
                      exact hret _ ((ldN m j, u.1, u.2.1, u.2.2.1, aN (dn2 wa (fi j) (se j)), aN u.2.2.2, nI (hsz m (bm B) - 1), nI q.1, nI q.2 - 1), nI 1, nI B, nI (hsz m (bm B))) _ _ dF_role_139 rfl ⟨Or.inr ⟨rfl, B, hB1, hB2, rfl, rfl⟩, Or.inl ⟨j, hj, rfl, bm B, hB2, Or.inr (Or.inl ⟨hW, hO, rfl⟩)⟩⟩
                  · refine s_top er ?_
                    refine s_if_eqN 138 C dF_role_131 (by decide) (by decide) (fun c6 => ?_) (fun c6 => ?_)
                    · refine s_iconst (nI 0) C dF_role_138 (by decide) ?_
                      exact hret _ ((ldN m j, u.1, u.2.1, u.2.2.1, aN (dn2 wa (fi j) (se j)), aN u.2.2.2, nI (hsz m (bm B) - 1), nI q.1, nI q.2 - 1), nI 1, nI B, nI (hsz m (bm B))) _ _ dF_role_139 rfl ⟨Or.inr ⟨rfl, B, hB1, hB2, rfl, rfl⟩, Or.inl ⟨j, hj, rfl, bm B, hB2, Or.inl ⟨hW, rfl⟩⟩⟩
                    · exact absurd rfl c6
            · refine s_top er2 ?_
              refine s_if_eqN 109 C dF_role_102 (by decide) (by decide) (fun c3 => ?_) (fun c3 => ?_)
              · refine s_iconst (nI 0) C dF_role_109 (by decide) ?_
                refine s_istore_n [(0, .ref x), (1, .int (nI j)), (2, .int (nI 0))] [1, 2, 0] C dF_role_110 (by decide) rfl ?_
                refine s_iload_n 2 C dF_role_111 rfl ?_
                refine s_if_eqN 138 C dF_role_112 (by decide) (by decide) (fun c4 => ?_) (fun c4 => ?_)
                · refine s_iconst (nI 0) C dF_role_138 (by decide) ?_
                  exact hret _ ((ldN m j, u.1, u.2.1, u.2.2.1, L2, aN u.2.2.2, sr2.2.2.2.2.2.2.1, sr2.2.2.2.2.2.2.2.1, sr2.2.2.2.2.2.2.2.2), nI 1, nI B, nI (hsz m (bm B))) _ _ dF_role_139 rfl ⟨Or.inr ⟨rfl, B, hB1, hB2, rfl, rfl⟩, Or.inl ⟨j, hj, rfl, bm B, hB2, Or.inl ⟨no_room hf9 hj (Or.inr hp2), rfl⟩⟩⟩
                · exact absurd rfl c4
              · exact absurd rfl c3
        · refine s_top er ?_
          refine s_if_eqN 109 C dF_role_83 (by decide) (by decide) (fun c3 => ?_) (fun c3 => ?_)
          · refine s_iconst (nI 0) C dF_role_109 (by decide) ?_
            refine s_istore_n [(0, .ref x), (1, .int (nI j)), (2, .int (nI 0))] [1, 2, 0] C dF_role_110 (by decide) rfl ?_
            refine s_iload_n 2 C dF_role_111 rfl ?_
            refine s_if_eqN 138 C dF_role_112 (by decide) (by decide) (fun c4 => ?_) (fun c4 => ?_)
            · refine s_iconst (nI 0) C dF_role_138 (by decide) ?_
              exact hret _ ((ldN m j, u.1, u.2.1, u.2.2.1, L1, aN u.2.2.2, sr2.2.2.2.2.2.2.1, sr2.2.2.2.2.2.2.2.1, sr2.2.2.2.2.2.2.2.2), nI 1, nI B, nI (hsz m (bm B))) _ _ dF_role_139 rfl ⟨Or.inr ⟨rfl, B, hB1, hB2, rfl, rfl⟩, Or.inl ⟨j, hj, rfl, bm B, hB2, Or.inl ⟨no_room hf9 hj (Or.inl hp1), rfl⟩⟩⟩
            · exact absurd rfl c4
          · exact absurd rfl c3
      · have hbj : bm B j = true := bmT.mp c2
        have hW : lgW fi se wa m j (bm B) true := ⟨bm B, hB2.1, rfl, hbj⟩
        refine s_aload_n 0 C dF_role_44 rfl ?_
        refine s_get (.ref s) 0 1 C wfP inF flF_19 dF_role_45 rfl rfl (by decide) rfl ?_
        refine s_aload_n 0 C dF_role_48 rfl ?_
        refine s_get (.ref k) 0 3 C wfP inF flF_33 dF_role_49 rfl rfl (by decide) rfl ?_
        refine s_get (.int (nI (hsz m (bm B)))) 11 4 C wfP inA flF_82 dF_role_52 rfl rfl (by decide) rfl ?_
        refine s_callI (n := 1) (wr := [(x, .inr (4, [.ref g, .ref s, .ref h, .ref k])), (g, .inr (2, [.int (nI n), .int (nI m), .ref a1, .ref a2, .ref a3])), (a1, .inl (cA, 14, .inl (aN fi))), (a2, .inl (cA, 14, .inl (aN se))), (a3, .inl (cA, 9, .inl (aN wa))), (k, .inr (0, [.int (nI 1), .int ta, .int ex, .int (nI B), .int (nI (hsz m (bm B))), .int wu, .int ww]))]) [1, 2, 3, 4, 5, 6] [0, 7, 8, 9, 10, 11] 0 [] C hA (kS_reaches E.2.1 D cA s b1 b2 b3 b4 b5 (ldN m j) u.1 u.2.1 wa u.2.2.2 u.2.2.1 sr2.2.2.2.2.2.2.1 sr2.2.2.2.2.2.2.2.1 sr2.2.2.2.2.2.2.2.2 (hsz m (bm B)) (by omega) (by rw [eN]; omega) hu.1 hu.2.1 (fun z hz => by have := g5 z hz; omega) hu.2.2.2) gF_96 dF_role_55 (by decide +kernel) rfl rfl (by decide) (by decide) (by decide) rfl rfl rfl (by decide) (by decide) rfl rfl (Nat.le_of_ble_eq_true rfl) (Nat.zero_le _) (Nat.zero_le _) (fun r q hq => ?_)
        refine s_sub (ws' := [(x, .inr (4, [.ref g, .ref s, .ref h, .ref k])), (s, .inr (3, [.int (nI (ldN m j)), .ref b1, .ref b2, .ref b3, .ref b4, .ref b5, .int (nI (hsz m (bm B))), .int (nI q.1), .int (nI q.2 - 1)])), (b1, .inl (cA, 14, .inl (aN u.1))), (b2, .inl (cA, 14, .inl (aN u.2.1))), (b3, .inl (cA, 14, .inl u.2.2.1)), (b4, .inl (cA, 9, .inl (aN wa))), (b5, .inl (cA, 9, .inl (aN u.2.2.2))), (g, .inr (2, [.int (nI n), .int (nI m), .ref a1, .ref a2, .ref a3])), (a1, .inl (cA, 14, .inl (aN fi))), (a2, .inl (cA, 14, .inl (aN se))), (a3, .inl (cA, 9, .inl (aN wa))), (k, .inr (0, [.int (nI 1), .int ta, .int ex, .int (nI B), .int (nI (hsz m (bm B))), .int wu, .int ww]))]) [0, 6, 7, 8, 9, 10, 11, 1, 2, 3, 4, 5] rfl (by decide) ?_
        rw [eN] at hq
        rw [sk_O hj hh, lgW_O hB2] at hq
        rcases hq with ⟨er, hO⟩ | ⟨er, hO⟩
        · refine s_top er ?_
          refine s_if_eqN 65 C dF_role_58 (by decide) (by decide) (fun c3 => ?_) (fun c3 => ?_)
          · exact absurd c3 (by decide)
          · refine s_iconst (nI 1) C dF_role_61 (by decide) ?_
            refine s_goto (tgt := 66) C dF_role_62 (by decide) ?_
            exact hret _ ((ldN m j, u.1, u.2.1, u.2.2.1, aN wa, aN u.2.2.2, nI (hsz m (bm B)), nI q.1, nI q.2 - 1), nI 1, nI B, nI (hsz m (bm B))) _ _ dF_role_66 rfl ⟨Or.inr ⟨rfl, B, hB1, hB2, rfl, rfl⟩, Or.inl ⟨j, hj, rfl, bm B, hB2, Or.inr (Or.inl ⟨hW, hO, rfl⟩)⟩⟩
        · refine s_top er ?_
          refine s_if_eqN 65 C dF_role_58 (by decide) (by decide) (fun c3 => ?_) (fun c3 => ?_)
          · refine s_iconst (nI 2) C dF_role_65 (by decide) ?_
            exact hret _ ((ldN m j, u.1, u.2.1, u.2.2.1, aN wa, aN u.2.2.2, nI (hsz m (bm B)), nI q.1, nI q.2 - 1), nI 1, nI B, nI (hsz m (bm B))) _ _ dF_role_66 rfl ⟨Or.inr ⟨rfl, B, hB1, hB2, rfl, rfl⟩, Or.inl ⟨j, hj, rfl, bm B, hB2, Or.inr (Or.inr ⟨hW, hO, rfl⟩)⟩⟩
          · exact absurd rfl c3
    · exact absurd c1 (by decide)
  · refine s_top er ?_
    refine s_if_neN 13 C dF_role_8 (by decide) (by decide) (fun c1 => ?_) (fun c1 => ?_)
    · exact absurd rfl c1
    · refine s_iconst (-1) C dF_role_11 (by decide) ?_
      exact hret _ ((N, hd, tl, TW, LF, AH, en, fs, fc), so, bs, bc) _ _ dF_role_12 rfl ⟨hS, Or.inr ⟨hin, rfl⟩⟩
set_option maxHeartbeats 4000000 in
set_option maxRecDepth 100000 in
/-- gain -/
theorem kF_gain (l : Launch) (D : va_G) (cA : ClassId) (x k h s b1 b2 b3 b4 b5 g a1 a2 a3 o1 o2 o3 o4 o5 : Nat) (N : Nat) (hd tl : Nat → Nat) (TW LF AH : Nat → Int32) (en fs fc : Int32) (n m : Nat) (fi se wa : Nat → Nat) (so ta ex bs bc wu ww : Int32) (hG : GOK n m fi se wa) (hS : knS fi se wa m so bs bc) (p : Int32) : CtI (S := SrT × Int32 × Int32 × Int32) l yF_gain (.code yF_gain cF_gain 2 (some .int)) 23 0 0 D cA [.ref x, .int p] [(x, .inr (4, [.ref g, .ref s, .ref h, .ref k])), (s, .inr (3, [.int (nI N), .ref b1, .ref b2, .ref b3, .ref b4, .ref b5, .int en, .int fs, .int fc])), (b1, .inl (cA, 14, .inl (aN hd))), (b2, .inl (cA, 14, .inl (aN tl))), (b3, .inl (cA, 14, .inl TW)), (b4, .inl (cA, 9, .inl LF)), (b5, .inl (cA, 9, .inl AH)), (g, .inr (2, [.int (nI n), .int (nI m), .ref a1, .ref a2, .ref a3])), (a1, .inl (cA, 14, .inl (aN fi))), (a2, .inl (cA, 14, .inl (aN se))), (a3, .inl (cA, 9, .inl (aN wa))), (k, .inr (0, [.int so, .int ta, .int ex, .int bs, .int bc, .int wu, .int ww]))] (fun r u => knS fi se wa m u.2.1 u.2.2.1 u.2.2.2 ∧ gnQ fi se wa n m p r) (fun u => [(x, .inr (4, [.ref g, .ref s, .ref h, .ref k])), (s, .inr (3, [.int (nI u.1.1), .ref b1, .ref b2, .ref b3, .ref b4, .ref b5, .int u.1.2.2.2.2.2.2.1, .int u.1.2.2.2.2.2.2.2.1, .int u.1.2.2.2.2.2.2.2.2])), (b1, .inl (cA, 14, .inl (aN u.1.2.1))), (b2, .inl (cA, 14, .inl (aN u.1.2.2.1))), (b3, .inl (cA, 14, .inl u.1.2.2.2.1)), (b4, .inl (cA, 9, .inl u.1.2.2.2.2.1)), (b5, .inl (cA, 9, .inl u.1.2.2.2.2.2.1)), (g, .inr (2, [.int (nI n), .int (nI m), .ref a1, .ref a2, .ref a3])), (a1, .inl (cA, 14, .inl (aN fi))), (a2, .inl (cA, 14, .inl (aN se))), (a3, .inl (cA, 9, .inl (aN wa))), (k, .inr (0, [.int u.2.1, .int ta, .int ex, .int u.2.2.1, .int u.2.2.2, .int wu, .int ww]))]) := by
  refine mkI [(0, .ref x), (1, .int p)] (by decide) rfl (Nat.le_of_ble_eq_true rfl) ?_
  intro E A Q hE C hA hret
  have hG0 := hG
  obtain ⟨g1, g2, g3, g4, g5, g6⟩ := hG
  have hf9 := hok_9 g2 g4
  refine s_aload_n 0 C dF_gain_0 rfl ?_
  refine s_get (.ref g) 0 0 C wfP inF flF_12 dF_gain_1 rfl rfl (by decide) rfl ?_
  refine s_iload_n 1 C dF_gain_4 rfl ?_
  refine s_callP (n := 1) [7] 0 [] C wfP (kG_hasVertex E.2.1 D cA g a1 a2 a3 n m p (by omega) (by omega)) gF_48 dF_gain_5 (by decide +kernel) rfl rfl rfl rfl (by decide) (by decide) rfl rfl (Nat.le_of_ble_eq_true rfl) (Nat.zero_le _) (Nat.zero_le _) (fun rhv hv => ?_)
  rcases hv with ⟨er, hin⟩ | ⟨er, hin⟩
  · refine s_top er ?_
    refine s_if_neN 13 C dF_gain_8 (by decide) (by decide) (fun c1 => ?_) (fun c1 => ?_)
    · obtain ⟨j, hj, rfl⟩ := hin
      refine s_aload_n 0 C dF_gain_13 rfl ?_
      refine s_callV (n := 0) (wr := []) [0, 1, 2, 3, 4, 5, 6, 7, 8, 9, 10, 11] [] 0 [] C hA (kF_solve E.2.1 D cA x k h s b1 b2 b3 b4 b5 g a1 a2 a3 o1 o2 o3 o4 o5 N hd tl TW LF AH en fs fc n m fi se wa so ta ex bs bc wu ww hG0 hS) gF_79 dF_gain_14 (by decide +kernel) rfl rfl (by decide) (by decide) (by decide) rfl rfl rfl (by decide) (by decide) rfl rfl (Nat.le_of_ble_eq_true rfl) (Nat.zero_le _) (Nat.zero_le _) (fun u hu => ?_)
      refine s_sub (ws' := [(x, .inr (4, [.ref g, .ref s, .ref h, .ref k])), (s, .inr (3, [.int (nI u.1.1), .ref b1, .ref b2, .ref b3, .ref b4, .ref b5, .int u.1.2.2.2.2.2.2.1, .int u.1.2.2.2.2.2.2.2.1, .int u.1.2.2.2.2.2.2.2.2])), (b1, .inl (cA, 14, .inl (aN u.1.2.1))), (b2, .inl (cA, 14, .inl (aN u.1.2.2.1))), (b3, .inl (cA, 14, .inl u.1.2.2.2.1)), (b4, .inl (cA, 9, .inl u.1.2.2.2.2.1)), (b5, .inl (cA, 9, .inl u.1.2.2.2.2.2.1)), (g, .inr (2, [.int (nI n), .int (nI m), .ref a1, .ref a2, .ref a3])), (a1, .inl (cA, 14, .inl (aN fi))), (a2, .inl (cA, 14, .inl (aN se))), (a3, .inl (cA, 9, .inl (aN wa))), (k, .inr (0, [.int (nI 1), .int ta, .int ex, .int u.2.1, .int u.2.2, .int wu, .int ww]))]) [0, 1, 2, 3, 4, 5, 6, 7, 8, 9, 10, 11] rfl (by decide) ?_
      obtain ⟨B, hB1, hB2, hB3, hB4⟩ := hu
      obtain ⟨sr2, bs2, bc2⟩ := u
      dsimp only at hB3 hB4
      subst hB3
      subst hB4
      refine s_eqw (ws' := [(x, .inr (4, [.ref g, .ref s, .ref h, .ref k])), (s, .inr (3, [.int (nI sr2.1), .ref b1, .ref b2, .ref b3, .ref b4, .ref b5, .int sr2.2.2.2.2.2.2.1, .int sr2.2.2.2.2.2.2.2.1, .int sr2.2.2.2.2.2.2.2.2])), (b1, .inl (cA, 14, .inl (aN sr2.2.1))), (b2, .inl (cA, 14, .inl (aN sr2.2.2.1))), (b3, .inl (cA, 14, .inl sr2.2.2.2.1)), (b4, .inl (cA, 9, .inl sr2.2.2.2.2.1)), (b5, .inl (cA, 9, .inl sr2.2.2.2.2.2.1)), (g, .inr (2, [.int (nI n), .int (nI m), .ref a1, .ref a2, .ref a3])), (a1, .inl (cA, 14, .inl (aN fi))), (a2, .inl (cA, 14, .inl (aN se))), (a3, .inl (cA, 9, .inl (aN wa))), (k, .inr (0, [.int (nI 1), .int ta, .int ex, .int (nI B), .int (nI (hsz m (bm B))), .int wu, .int ww]))]) rfl ?_
      have hzm := hsz_le m (bm B)
      have hB14 : B < 2 ^ 14 := Nat.lt_of_lt_of_le hB1 (p2_le g3)
      have hwj := g5 j (by omega)
      refine s_aload_n 0 C dF_gain_17 rfl ?_
      refine s_iload_n 1 C dF_gain_18 rfl ?_
      refine s_aload_n 0 C dF_gain_19 rfl ?_
      refine s_get (.ref g) 0 0 C wfP inF flF_12 dF_gain_20 rfl rfl (by decide) rfl ?_
      refine s_get (.ref a3) 7 4 C wfP inG flF_62 dF_gain_23 rfl rfl (by decide) rfl ?_
      refine s_iload_n 1 C dF_gain_26 rfl ?_
      refine s_ialdN 10 C wfP dF_gain_27 rfl (by omega) (by decide) ?_
      refine s_iconst (nI 1) C dF_gain_28 (by decide) ?_
      refine s_iaddN C dF_gain_29 ?_
      refine s_aload_n 0 C dF_gain_30 rfl ?_
      refine s_get (.ref k) 0 3 C wfP inF flF_33 dF_gain_31 rfl rfl (by decide) rfl ?_
      refine s_get (.int (nI (hsz m (bm B)))) 11 4 C wfP inA flF_82 dF_gain_34 rfl rfl (by decide) rfl ?_
      refine s_iconst (nI 1) C dF_gain_37 (by decide) ?_
      refine s_iaddN C dF_gain_38 ?_
      refine s_callI (n := 3) (wr := [(k, .inr (0, [.int (nI 1), .int ta, .int ex, .int (nI B), .int (nI (hsz m (bm B))), .int wu, .int ww]))]) [0, 1, 2, 3, 4, 5, 6, 7, 8, 9, 10] [11] 0 [] C hA (kF_reachesWith E.2.1 D cA x k h s b1 b2 b3 b4 b5 g a1 a2 a3 o1 o2 o3 o4 o5 sr2.1 sr2.2.1 sr2.2.2.1 sr2.2.2.2.1 sr2.2.2.2.2.1 sr2.2.2.2.2.2.1 sr2.2.2.2.2.2.2.1 sr2.2.2.2.2.2.2.2.1 sr2.2.2.2.2.2.2.2.2 n m fi se wa hG0 j (wa j + 1) (hsz m (bm B) + 1) (by omega) (by omega) (by omega)) gF_102 dF_gain_39 (by decide +kernel) rfl rfl (by decide) (by decide) (by decide) rfl rfl rfl (by decide) (by decide) rfl rfl (Nat.le_of_ble_eq_true rfl) (Nat.zero_le _) (Nat.zero_le _) (fun r u2 hq => ?_)
      refine s_sub (ws' := [(x, .inr (4, [.ref g, .ref s, .ref h, .ref k])), (s, .inr (3, [.int (nI u2.1), .ref b1, .ref b2, .ref b3, .ref b4, .ref b5, .int u2.2.2.2.2.2.2.1, .int u2.2.2.2.2.2.2.2.1, .int u2.2.2.2.2.2.2.2.2])), (b1, .inl (cA, 14, .inl (aN u2.2.1))), (b2, .inl (cA, 14, .inl (aN u2.2.2.1))), (b3, .inl (cA, 14, .inl u2.2.2.2.1)), (b4, .inl (cA, 9, .inl u2.2.2.2.2.1)), (b5, .inl (cA, 9, .inl u2.2.2.2.2.2.1)), (g, .inr (2, [.int (nI n), .int (nI m), .ref a1, .ref a2, .ref a3])), (a1, .inl (cA, 14, .inl (aN fi))), (a2, .inl (cA, 14, .inl (aN se))), (a3, .inl (cA, 9, .inl (aN wa))), (k, .inr (0, [.int (nI 1), .int ta, .int ex, .int (nI B), .int (nI (hsz m (bm B))), .int wu, .int ww]))]) [1, 2, 3, 4, 5, 6, 7, 8, 9, 10, 11, 0] rfl (by decide) ?_
      rcases hq with ⟨er, hr9⟩ | ⟨er, hr9⟩
      · refine s_top er ?_
        refine s_if_eqN 49 C dF_gain_42 (by decide) (by decide) (fun c3 => ?_) (fun c3 => ?_)
        · exact absurd c3 (by decide)
        · refine s_iconst (nI 1) C dF_gain_45 (by decide) ?_
          refine s_goto (tgt := 50) C dF_gain_46 (by decide) ?_
          exact hret _ (u2, nI 1, nI B, nI (hsz m (bm B))) _ _ dF_gain_50 rfl ⟨Or.inr ⟨rfl, B, hB1, hB2, rfl, rfl⟩, Or.inl ⟨j, hj, rfl, gn_is hf9 hB2 (Or.inl ⟨hr9, rfl⟩)⟩⟩
      · refine s_top er ?_
        refine s_if_eqN 49 C dF_gain_42 (by decide) (by decide) (fun c3 => ?_) (fun c3 => ?_)
        · refine s_iconst (nI 0) C dF_gain_49 (by decide) ?_
          exact hret _ (u2, nI 1, nI B, nI (hsz m (bm B))) _ _ dF_gain_50 rfl ⟨Or.inr ⟨rfl, B, hB1, hB2, rfl, rfl⟩, Or.inl ⟨j, hj, rfl, gn_is hf9 hB2 (Or.inr ⟨hr9, rfl⟩)⟩⟩
        · exact absurd rfl c3
    · exact absurd c1 (by decide)
  · refine s_top er ?_
    refine s_if_neN 13 C dF_gain_8 (by decide) (by decide) (fun c1 => ?_) (fun c1 => ?_)
    · exact absurd rfl c1
    · refine s_iconst (-1) C dF_gain_11 (by decide) ?_
      exact hret _ ((N, hd, tl, TW, LF, AH, en, fs, fc), so, bs, bc) _ _ dF_gain_12 rfl ⟨hS, Or.inr ⟨hin, rfl⟩⟩
set_option maxHeartbeats 4000000 in
set_option maxRecDepth 100000 in
/-- slack -/
theorem kF_slack (l : Launch) (D : va_G) (cA : ClassId) (x k h s b1 b2 b3 b4 b5 g a1 a2 a3 o1 o2 o3 o4 o5 : Nat) (N : Nat) (hd tl : Nat → Nat) (TW LF AH : Nat → Int32) (en fs fc : Int32) (n m : Nat) (fi se wa : Nat → Nat) (so ta ex bs bc wu ww : Int32) (hG : GOK n m fi se wa) (hS : knS fi se wa m so bs bc) (p : Int32) : CtI (S := SrT × Int32 × Int32 × Int32) l yF_slack (.code yF_slack cF_slack 3 (some .int)) 23 0 0 D cA [.ref x, .int p] [(x, .inr (4, [.ref g, .ref s, .ref h, .ref k])), (s, .inr (3, [.int (nI N), .ref b1, .ref b2, .ref b3, .ref b4, .ref b5, .int en, .int fs, .int fc])), (b1, .inl (cA, 14, .inl (aN hd))), (b2, .inl (cA, 14, .inl (aN tl))), (b3, .inl (cA, 14, .inl TW)), (b4, .inl (cA, 9, .inl LF)), (b5, .inl (cA, 9, .inl AH)), (g, .inr (2, [.int (nI n), .int (nI m), .ref a1, .ref a2, .ref a3])), (a1, .inl (cA, 14, .inl (aN fi))), (a2, .inl (cA, 14, .inl (aN se))), (a3, .inl (cA, 9, .inl (aN wa))), (k, .inr (0, [.int so, .int ta, .int ex, .int bs, .int bc, .int wu, .int ww]))] (fun r u => knS fi se wa m u.2.1 u.2.2.1 u.2.2.2 ∧ slkQ fi se wa n m p r) (fun u => [(x, .inr (4, [.ref g, .ref s, .ref h, .ref k])), (s, .inr (3, [.int (nI u.1.1), .ref b1, .ref b2, .ref b3, .ref b4, .ref b5, .int u.1.2.2.2.2.2.2.1, .int u.1.2.2.2.2.2.2.2.1, .int u.1.2.2.2.2.2.2.2.2])), (b1, .inl (cA, 14, .inl (aN u.1.2.1))), (b2, .inl (cA, 14, .inl (aN u.1.2.2.1))), (b3, .inl (cA, 14, .inl u.1.2.2.2.1)), (b4, .inl (cA, 9, .inl u.1.2.2.2.2.1)), (b5, .inl (cA, 9, .inl u.1.2.2.2.2.2.1)), (g, .inr (2, [.int (nI n), .int (nI m), .ref a1, .ref a2, .ref a3])), (a1, .inl (cA, 14, .inl (aN fi))), (a2, .inl (cA, 14, .inl (aN se))), (a3, .inl (cA, 9, .inl (aN wa))), (k, .inr (0, [.int u.2.1, .int ta, .int ex, .int u.2.2.1, .int u.2.2.2, .int wu, .int ww]))]) := by
  refine mkI [(0, .ref x), (1, .int p)] (by decide) rfl (Nat.le_of_ble_eq_true rfl) ?_
  intro E A Q hE C hA hret
  have hG0 := hG
  obtain ⟨g1, g2, g3, g4, g5, g6⟩ := hG
  have hf9 := hok_9 g2 g4
  refine s_aload_n 0 C dF_slack_0 rfl ?_
  refine s_get (.ref g) 0 0 C wfP inF flF_12 dF_slack_1 rfl rfl (by decide) rfl ?_
  refine s_iload_n 1 C dF_slack_4 rfl ?_
  refine s_callP (n := 1) [7] 0 [] C wfP (kG_hasVertex E.2.1 D cA g a1 a2 a3 n m p (by omega) (by omega)) gF_48 dF_slack_5 (by decide +kernel) rfl rfl rfl rfl (by decide) (by decide) rfl rfl (Nat.le_of_ble_eq_true rfl) (Nat.zero_le _) (Nat.zero_le _) (fun rhv hv => ?_)
  rcases hv with ⟨er, hin⟩ | ⟨er, hin⟩
  · refine s_top er ?_
    refine s_if_neN 13 C dF_slack_8 (by decide) (by decide) (fun c1 => ?_) (fun c1 => ?_)
    · obtain ⟨j, hj, rfl⟩ := hin
      refine s_aload_n 0 C dF_slack_13 rfl ?_
      refine s_callV (n := 0) (wr := []) [0, 1, 2, 3, 4, 5, 6, 7, 8, 9, 10, 11] [] 0 [] C hA (kF_solve E.2.1 D cA x k h s b1 b2 b3 b4 b5 g a1 a2 a3 o1 o2 o3 o4 o5 N hd tl TW LF AH en fs fc n m fi se wa so ta ex bs bc wu ww hG0 hS) gF_79 dF_slack_14 (by decide +kernel) rfl rfl (by decide) (by decide) (by decide) rfl rfl rfl (by decide) (by decide) rfl rfl (Nat.le_of_ble_eq_true rfl) (Nat.zero_le _) (Nat.zero_le _) (fun u hu => ?_)
      refine s_sub (ws' := [(x, .inr (4, [.ref g, .ref s, .ref h, .ref k])), (s, .inr (3, [.int (nI u.1.1), .ref b1, .ref b2, .ref b3, .ref b4, .ref b5, .int u.1.2.2.2.2.2.2.1, .int u.1.2.2.2.2.2.2.2.1, .int u.1.2.2.2.2.2.2.2.2])), (b1, .inl (cA, 14, .inl (aN u.1.2.1))), (b2, .inl (cA, 14, .inl (aN u.1.2.2.1))), (b3, .inl (cA, 14, .inl u.1.2.2.2.1)), (b4, .inl (cA, 9, .inl u.1.2.2.2.2.1)), (b5, .inl (cA, 9, .inl u.1.2.2.2.2.2.1)), (g, .inr (2, [.int (nI n), .int (nI m), .ref a1, .ref a2, .ref a3])), (a1, .inl (cA, 14, .inl (aN fi))), (a2, .inl (cA, 14, .inl (aN se))), (a3, .inl (cA, 9, .inl (aN wa))), (k, .inr (0, [.int (nI 1), .int ta, .int ex, .int u.2.1, .int u.2.2, .int wu, .int ww]))]) [0, 1, 2, 3, 4, 5, 6, 7, 8, 9, 10, 11] rfl (by decide) ?_
      obtain ⟨B, hB1, hB2, hB3, hB4⟩ := hu
      obtain ⟨sr2, bs2, bc2⟩ := u
      dsimp only at hB3 hB4
      subst hB3
      subst hB4
      refine s_eqw (ws' := [(x, .inr (4, [.ref g, .ref s, .ref h, .ref k])), (s, .inr (3, [.int (nI sr2.1), .ref b1, .ref b2, .ref b3, .ref b4, .ref b5, .int sr2.2.2.2.2.2.2.1, .int sr2.2.2.2.2.2.2.2.1, .int sr2.2.2.2.2.2.2.2.2])), (b1, .inl (cA, 14, .inl (aN sr2.2.1))), (b2, .inl (cA, 14, .inl (aN sr2.2.2.1))), (b3, .inl (cA, 14, .inl sr2.2.2.2.1)), (b4, .inl (cA, 9, .inl sr2.2.2.2.2.1)), (b5, .inl (cA, 9, .inl sr2.2.2.2.2.2.1)), (g, .inr (2, [.int (nI n), .int (nI m), .ref a1, .ref a2, .ref a3])), (a1, .inl (cA, 14, .inl (aN fi))), (a2, .inl (cA, 14, .inl (aN se))), (a3, .inl (cA, 9, .inl (aN wa))), (k, .inr (0, [.int (nI 1), .int ta, .int ex, .int (nI B), .int (nI (hsz m (bm B))), .int wu, .int ww]))]) rfl ?_
      have hzm := hsz_le m (bm B)
      have hB14 : B < 2 ^ 14 := Nat.lt_of_lt_of_le hB1 (p2_le g3)
      have hwj := g5 j (by omega)
      have hdj := hB2.1 j (by omega)
      refine s_aload_n 0 C dF_slack_17 rfl ?_
      refine s_get (.ref g) 0 0 C wfP inF flF_12 dF_slack_18 rfl rfl (by decide) rfl ?_
      refine s_iload_n 1 C dF_slack_21 rfl ?_
      refine s_aload_n 0 C dF_slack_22 rfl ?_
      refine s_get (.ref k) 0 3 C wfP inF flF_33 dF_slack_23 rfl rfl (by decide) rfl ?_
      refine s_get (.int (nI B)) 11 3 C wfP inA flF_85 dF_slack_26 rfl rfl (by decide) rfl ?_
      refine s_callP (n := 2) [7, 8, 9] 0 [] C wfP (kG_degree E.2.1 D cA g a1 a2 a3 n m j B fi se g3 (by omega) hB14 (fun e he => by have := (g4 e he).1; omega) (fun e he => by have := (g4 e he).2.1; omega)) gF_75 dF_slack_29 (by decide +kernel) rfl rfl rfl rfl (by decide) (by decide) rfl rfl (Nat.le_of_ble_eq_true rfl) (Nat.zero_le _) (Nat.zero_le _) (fun rd hd8 => ?_)
      refine s_top hd8 ?_
      refine s_istore_n [(0, .ref x), (1, .int (nI j)), (2, .int (nI (hdg fi se m (bm B) j)))] [1, 2, 0] C dF_slack_32 (by decide) rfl ?_
      have loop : ∀ (dd : Nat) (sr3 : SrT), dd ≤ wa j → rea fi se m (nup wa j dd) (hsz m (bm B)) → ST E 3 Q 0 0 (wf E A D [(x, .inr (4, [.ref g, .ref s, .ref h, .ref k])), (s, .inr (3, [.int (nI sr3.1), .ref b1, .ref b2, .ref b3, .ref b4, .ref b5, .int sr3.2.2.2.2.2.2.1, .int sr3.2.2.2.2.2.2.2.1, .int sr3.2.2.2.2.2.2.2.2])), (b1, .inl (cA, 14, .inl (aN sr3.2.1))), (b2, .inl (cA, 14, .inl (aN sr3.2.2.1))), (b3, .inl (cA, 14, .inl sr3.2.2.2.1)), (b4, .inl (cA, 9, .inl sr3.2.2.2.2.1)), (b5, .inl (cA, 9, .inl sr3.2.2.2.2.2.1)), (g, .inr (2, [.int (nI n), .int (nI m), .ref a1, .ref a2, .ref a3])), (a1, .inl (cA, 14, .inl (aN fi))), (a2, .inl (cA, 14, .inl (aN se))), (a3, .inl (cA, 9, .inl (aN wa))), (k, .inr (0, [.int (nI 1), .int ta, .int ex, .int (nI B), .int (nI (hsz m (bm B))), .int wu, .int ww]))]) [(0, .ref x), (1, .int (nI j)), (2, .int (nI dd))] [] 33 := by
        intro dd
        induction dd with
        | zero =>
          intro sr3 hdd hrea
          refine s_iload_n 2 C dF_slack_33 rfl ?_
          refine s_if_leN 61 C dF_slack_34 (by decide) (by omega) (fun c4 => ?_) (fun c4 => ?_)
          · refine s_aload_n 0 C dF_slack_61 rfl ?_
            refine s_get (.ref g) 0 0 C wfP inF flF_12 dF_slack_62 rfl rfl (by decide) rfl ?_
            refine s_get (.ref a3) 7 4 C wfP inG flF_62 dF_slack_65 rfl rfl (by decide) rfl ?_
            refine s_iload_n 1 C dF_slack_68 rfl ?_
            refine s_ialdN 10 C wfP dF_slack_69 rfl (by omega) (by decide) ?_
            refine s_iload_n 2 C dF_slack_70 rfl ?_
            refine s_isubN C dF_slack_71 (by omega) ?_
            exact hret _ (sr3, nI 1, nI B, nI (hsz m (bm B))) _ _ dF_slack_72 rfl ⟨Or.inr ⟨rfl, B, hB1, hB2, rfl, rfl⟩, Or.inl ⟨j, hj, rfl, bm B, hB2, 0, hdd, hrea, fun d9 h9 => absurd h9 (by omega), rfl⟩⟩
          · exact absurd c4 (by omega)
        | succ dd ih =>
          intro sr3 hdd hrea
          refine s_iload_n 2 C dF_slack_33 rfl ?_
          refine s_if_leN 61 C dF_slack_34 (by decide) (by omega) (fun c4 => ?_) (fun c4 => ?_)
          · exact absurd c4 (by omega)
          · refine s_aload_n 0 C dF_slack_37 rfl ?_
            refine s_iload_n 1 C dF_slack_38 rfl ?_
            refine s_iload_n 2 C dF_slack_39 rfl ?_
            refine s_iconst (nI 1) C dF_slack_40 (by decide) ?_
            refine s_isubN C dF_slack_41 (by omega) ?_
            refine s_top (y := nI dd) (by rw [Nat.add_sub_cancel]) ?_
            refine s_aload_n 0 C dF_slack_42 rfl ?_
            refine s_get (.ref k) 0 3 C wfP inF flF_33 dF_slack_43 rfl rfl (by decide) rfl ?_
            refine s_get (.int (nI (hsz m (bm B)))) 11 4 C wfP inA flF_82 dF_slack_46 rfl rfl (by decide) rfl ?_
            refine s_callI (n := 3) (wr := [(k, .inr (0, [.int (nI 1), .int ta, .int ex, .int (nI B), .int (nI (hsz m (bm B))), .int wu, .int ww]))]) [0, 1, 2, 3, 4, 5, 6, 7, 8, 9, 10] [11] 0 [] C hA (kF_reachesWith E.2.1 D cA x k h s b1 b2 b3 b4 b5 g a1 a2 a3 o1 o2 o3 o4 o5 sr3.1 sr3.2.1 sr3.2.2.1 sr3.2.2.2.1 sr3.2.2.2.2.1 sr3.2.2.2.2.2.1 sr3.2.2.2.2.2.2.1 sr3.2.2.2.2.2.2.2.1 sr3.2.2.2.2.2.2.2.2 n m fi se wa hG0 j dd (hsz m (bm B)) (by omega) (by omega) (by omega)) gF_102 dF_slack_49 (by decide +kernel) rfl rfl (by decide) (by decide) (by decide) rfl rfl rfl (by decide) (by decide) rfl rfl (Nat.le_of_ble_eq_true rfl) (Nat.zero_le _) (Nat.zero_le _) (fun r u2 hq => ?_)
            refine s_sub (ws' := [(x, .inr (4, [.ref g, .ref s, .ref h, .ref k])), (s, .inr (3, [.int (nI u2.1), .ref b1, .ref b2, .ref b3, .ref b4, .ref b5, .int u2.2.2.2.2.2.2.1, .int u2.2.2.2.2.2.2.2.1, .int u2.2.2.2.2.2.2.2.2])), (b1, .inl (cA, 14, .inl (aN u2.2.1))), (b2, .inl (cA, 14, .inl (aN u2.2.2.1))), (b3, .inl (cA, 14, .inl u2.2.2.2.1)), (b4, .inl (cA, 9, .inl u2.2.2.2.2.1)), (b5, .inl (cA, 9, .inl u2.2.2.2.2.2.1)), (g, .inr (2, [.int (nI n), .int (nI m), .ref a1, .ref a2, .ref a3])), (a1, .inl (cA, 14, .inl (aN fi))), (a2, .inl (cA, 14, .inl (aN se))), (a3, .inl (cA, 9, .inl (aN wa))), (k, .inr (0, [.int (nI 1), .int ta, .int ex, .int (nI B), .int (nI (hsz m (bm B))), .int wu, .int ww]))]) [1, 2, 3, 4, 5, 6, 7, 8, 9, 10, 11, 0] rfl (by decide) ?_
            rcases hq with ⟨er, hr9⟩ | ⟨er, hr9⟩
            · refine s_top er ?_
              refine s_if_eqN 61 C dF_slack_52 (by decide) (by decide) (fun c5 => ?_) (fun c5 => ?_)
              · exact absurd c5 (by decide)
              · refine s_iinc (j := 2) (nI ((dd + 1) - 1)) [(0, .ref x), (1, .int (nI j)), (2, .int (nI ((dd + 1) - 1)))] [1, 2, 0] C dF_slack_55 rfl (dec1 (by omega)) (by decide) rfl ?_
                refine s_goto (tgt := 33) C dF_slack_58 (by decide) ?_
                rw [Nat.add_sub_cancel]
                exact ih u2 (by omega) hr9
            · refine s_top er ?_
              refine s_if_eqN 61 C dF_slack_52 (by decide) (by decide) (fun c5 => ?_) (fun c5 => ?_)
              · refine s_aload_n 0 C dF_slack_61 rfl ?_
                refine s_get (.ref g) 0 0 C wfP inF flF_12 dF_slack_62 rfl rfl (by decide) rfl ?_
                refine s_get (.ref a3) 7 4 C wfP inG flF_62 dF_slack_65 rfl rfl (by decide) rfl ?_
                refine s_iload_n 1 C dF_slack_68 rfl ?_
                refine s_ialdN 10 C wfP dF_slack_69 rfl (by omega) (by decide) ?_
                refine s_iload_n 2 C dF_slack_70 rfl ?_
                refine s_isubN C dF_slack_71 (by omega) ?_
                exact hret _ (u2, nI 1, nI B, nI (hsz m (bm B))) _ _ dF_slack_72 rfl ⟨Or.inr ⟨rfl, B, hB1, hB2, rfl, rfl⟩, Or.inl ⟨j, hj, rfl, bm B, hB2, dd + 1, hdd, hrea, fun d9 h9 z => hr9 (rea_up (by omega) z), rfl⟩⟩
              · exact absurd rfl c5
      exact loop _ sr2 hdj ⟨bm B, fun v hv => by
        by_cases z : v = j
        · subst z; rw [nup_s]; exact Nat.le_refl _
        · rw [nup_n z]; exact hB2.1 v hv, Nat.le_refl _⟩
    · exact absurd c1 (by decide)
  · refine s_top er ?_
    refine s_if_neN 13 C dF_slack_8 (by decide) (by decide) (fun c1 => ?_) (fun c1 => ?_)
    · exact absurd rfl c1
    · refine s_iconst (-1) C dF_slack_11 (by decide) ?_
      exact hret _ ((N, hd, tl, TW, LF, AH, en, fs, fc), so, bs, bc) _ _ dF_slack_12 rfl ⟨hS, Or.inr ⟨hin, rfl⟩⟩
set_option maxHeartbeats 4000000 in
set_option maxRecDepth 100000 in
/-- bound -/
theorem kF_bound (l : Launch) (D : va_G) (cA : ClassId) (x k h s b1 b2 b3 b4 b5 g a1 a2 a3 o1 o2 o3 o4 o5 : Nat) (n m : Nat) (fi se wa : Nat → Nat) (nr wt is pt : Nat → Nat) (al fu fw : Int32) (so ta ex bs bc wu ww : Int32) (hG : GOK n m fi se wa) (hT : knT fi se wa n m ta al wt is pt) (hw0 : wt 0 = 0) (p q : Int32) : CtI (S := BdT × Int32) l yF_bound (.code yF_bound cF_bound 3 (some .int)) 23 0 0 D cA [.ref x, .int p, .int q] [(x, .inr (4, [.ref g, .ref s, .ref h, .ref k])), (g, .inr (2, [.int (nI n), .int (nI m), .ref a1, .ref a2, .ref a3])), (a1, .inl (cA, 14, .inl (aN fi))), (a2, .inl (cA, 14, .inl (aN se))), (a3, .inl (cA, 9, .inl (aN wa))), (h, .inr (1, [.ref o1, .ref o2, .ref o3, .ref o4, .ref o5, .int al, .int fu, .int fw])), (o1, .inl (cA, 512, .inl (aN od))), (o2, .inl (cA, 9, .inl (aN nr))), (o3, .inl (cA, 512, .inl (aN wt))), (o4, .inl (cA, 512, .inl (aN is))), (o5, .inl (cA, 512, .inl (aN pt))), (k, .inr (0, [.int so, .int ta, .int ex, .int bs, .int bc, .int wu, .int ww]))] (fun r u => knT fi se wa n m u.2 u.1.2.2.2.2.1 u.1.2.1 u.1.2.2.1 u.1.2.2.2.1 ∧ u.1.2.1 0 = 0 ∧ bndQ fi se wa n m p q r) (fun u => [(x, .inr (4, [.ref g, .ref s, .ref h, .ref k])), (g, .inr (2, [.int (nI n), .int (nI m), .ref a1, .ref a2, .ref a3])), (a1, .inl (cA, 14, .inl (aN fi))), (a2, .inl (cA, 14, .inl (aN se))), (a3, .inl (cA, 9, .inl (aN wa))), (h, .inr (1, [.ref o1, .ref o2, .ref o3, .ref o4, .ref o5, .int u.1.2.2.2.2.1, .int u.1.2.2.2.2.2.1, .int u.1.2.2.2.2.2.2])), (o1, .inl (cA, 512, .inl (aN od))), (o2, .inl (cA, 9, .inl (aN u.1.1))), (o3, .inl (cA, 512, .inl (aN u.1.2.1))), (o4, .inl (cA, 512, .inl (aN u.1.2.2.1))), (o5, .inl (cA, 512, .inl (aN u.1.2.2.2.1))), (k, .inr (0, [.int so, .int u.2, .int ex, .int bs, .int bc, .int wu, .int ww]))]) := by
  refine mkI [(0, .ref x), (1, .int p), (2, .int q)] (by decide) rfl (Nat.le_of_ble_eq_true rfl) ?_
  intro E A Q hE C hA hret
  have hG0 := hG
  obtain ⟨g1, g2, g3, g4, g5, g6⟩ := hG
  have h2n : 2 ^ n ≤ 512 := p2_le (k := 9) g2
  refine s_iload_n 1 C dF_bound_0 rfl ?_
  refine s_if_lt 28 C dF_bound_1 (by decide) (fun c1 => ?_) (fun c1 => ?_)
  · refine s_iconst (-1) C dF_bound_28 (by decide) ?_
    exact hret _ ((nr, wt, is, pt, al, fu, fw), ta) _ _ dF_bound_29 rfl ⟨hT, hw0, Or.inr ⟨fun ⟨a, b, h1, _, _, e1, _⟩ => inR_no1 c1 (n := 2 ^ n) (by omega) ⟨a, h1, e1⟩, rfl⟩⟩
  · refine s_iload_n 2 C dF_bound_4 rfl ?_
    refine s_if_lt 28 C dF_bound_5 (by decide) (fun c2 => ?_) (fun c2 => ?_)
    · refine s_iconst (-1) C dF_bound_28 (by decide) ?_
      exact hret _ ((nr, wt, is, pt, al, fu, fw), ta) _ _ dF_bound_29 rfl ⟨hT, hw0, Or.inr ⟨fun ⟨a, b, _, h1, _, _, e1⟩ => inR_no1 c2 (n := 2 ^ n) (by omega) ⟨b, h1, e1⟩, rfl⟩⟩
    · obtain ⟨ua, hua, rfl⟩ := nI_of c1
      obtain ⟨wb, hwb, rfl⟩ := nI_of c2
      refine s_iload_n 1 C dF_bound_8 rfl ?_
      refine s_iload_n 2 C dF_bound_9 rfl ?_
      refine s_iandN C dF_bound_10 ?_
      refine s_if_neN 28 C dF_bound_11 (by decide) (Nat.lt_of_le_of_lt Nat.and_le_left hua) (fun c3 => ?_) (fun c3 => ?_)
      · refine s_iconst (-1) C dF_bound_28 (by decide) ?_
        exact hret _ ((nr, wt, is, pt, al, fu, fw), ta) _ _ dF_bound_29 rfl ⟨hT, hw0, Or.inr ⟨fun ⟨a, b, h1, h2, h3, e1, e2⟩ => c3 (and_dsj.mpr (by rw [(nI_eq hua (by omega)).mp e1, (nI_eq hwb (by omega)).mp e2]; exact h3)), rfl⟩⟩
      · have hor : ua ||| wb < 2 ^ 31 := Nat.or_lt_two_pow hua hwb
        refine s_iload_n 1 C dF_bound_14 rfl ?_
        refine s_iload_n 2 C dF_bound_15 rfl ?_
        refine s_iorN C dF_bound_16 ?_
        refine s_aload_n 0 C dF_bound_17 rfl ?_
        refine s_get (.ref g) 0 0 C wfP inF flF_12 dF_bound_18 rfl rfl (by decide) rfl ?_
        refine s_get (.int (nI n)) 1 0 C wfP inG flF_66 dF_bound_21 rfl rfl (by decide) rfl ?_
        refine s_ishrN C dF_bound_24 (by omega) (by omega) ?_
        refine s_if_eqN 30 C dF_bound_25 (by decide) (Nat.lt_of_le_of_lt (Nat.shiftRight_le _ _) hor) (fun c4 => ?_) (fun c4 => ?_)
        · obtain ⟨hu9, hw9⟩ := or_shr.mp c4
          have hdj := and_dsj.mp c3
          refine s_aload_n 0 C dF_bound_30 rfl ?_
          refine s_callV (n := 0) (wr := []) [0, 1, 2, 3, 4, 5, 6, 7, 8, 9, 10, 11] [] 0 [] C hA (kF_tabulate E.2.1 D cA x k h s b1 b2 b3 b4 b5 g a1 a2 a3 o1 o2 o3 o4 o5 n m fi se wa nr wt is pt al fu fw so ta ex bs bc wu ww hG0 hT hw0) gF_106 dF_bound_31 (by decide +kernel) rfl rfl (by decide) (by decide) (by decide) rfl rfl rfl (by decide) (by decide) rfl rfl (Nat.le_of_ble_eq_true rfl) (Nat.zero_le _) (Nat.zero_le _) (fun t ht => ?_)
          refine s_sub (ws' := [(x, .inr (4, [.ref g, .ref s, .ref h, .ref k])), (g, .inr (2, [.int (nI n), .int (nI m), .ref a1, .ref a2, .ref a3])), (a1, .inl (cA, 14, .inl (aN fi))), (a2, .inl (cA, 14, .inl (aN se))), (a3, .inl (cA, 9, .inl (aN wa))), (h, .inr (1, [.ref o1, .ref o2, .ref o3, .ref o4, .ref o5, .int t.2.2.2.2.1, .int t.2.2.2.2.2.1, .int t.2.2.2.2.2.2])), (o1, .inl (cA, 512, .inl (aN od))), (o2, .inl (cA, 9, .inl (aN t.1))), (o3, .inl (cA, 512, .inl (aN t.2.1))), (o4, .inl (cA, 512, .inl (aN t.2.2.1))), (o5, .inl (cA, 512, .inl (aN t.2.2.2.1))), (k, .inr (0, [.int so, .int (nI 1), .int ex, .int bs, .int bc, .int wu, .int ww]))]) [0, 1, 2, 3, 4, 5, 6, 7, 8, 9, 10, 11] rfl (by decide) ?_
          obtain ⟨t1, t2, t3⟩ := ht
          obtain ⟨nr2, wt2, is2, pt2, al2, fu2, fw2⟩ := t
          dsimp only at t1 t2 t3
          subst t1
          refine s_eqw (ws' := [(x, .inr (4, [.ref g, .ref s, .ref h, .ref k])), (g, .inr (2, [.int (nI n), .int (nI m), .ref a1, .ref a2, .ref a3])), (a1, .inl (cA, 14, .inl (aN fi))), (a2, .inl (cA, 14, .inl (aN se))), (a3, .inl (cA, 9, .inl (aN wa))), (h, .inr (1, [.ref o1, .ref o2, .ref o3, .ref o4, .ref o5, .int (nI (2 ^ n - 1)), .int fu2, .int fw2])), (o1, .inl (cA, 512, .inl (aN od))), (o2, .inl (cA, 9, .inl (aN nr2))), (o3, .inl (cA, 512, .inl (aN wt2))), (o4, .inl (cA, 512, .inl (aN is2))), (o5, .inl (cA, 512, .inl (aN pt2))), (k, .inr (0, [.int so, .int (nI 1), .int ex, .int bs, .int bc, .int wu, .int ww]))]) rfl ?_
          refine s_aload_n 0 C dF_bound_34 rfl ?_
          refine s_get (.ref h) 0 2 C wfP inF flF_26 dF_bound_35 rfl rfl (by decide) rfl ?_
          refine s_iload_n 1 C dF_bound_38 rfl ?_
          refine s_iload_n 2 C dF_bound_39 rfl ?_
          refine s_callP (n := 2) [5, 8, 9, 10] 0 [] C wfP (kB_value E.2.1 D cA h o1 o2 o3 o4 o5 wt2 is2 pt2 fu2 fw2 n m fi se wa ua wb g2 g3 g4 g5 hu9 hw9 hdj t2.1 t2.2.1 t2.2.2) gF_109 dF_bound_40 (by decide +kernel) rfl rfl rfl rfl (by decide) (by decide) rfl rfl (Nat.le_of_ble_eq_true rfl) (Nat.zero_le _) (Nat.zero_le _) (fun r hv => ?_)
          exact hret _ ((nr2, wt2, is2, pt2, nI (2 ^ n - 1), fu2, fw2), nI 1) _ _ dF_bound_43 rfl ⟨Or.inr ⟨rfl, rfl, t2⟩, by show wt2 0 = 0; rw [t2.1 0 (Nat.two_pow_pos n), wsum_0], Or.inl ⟨ua, wb, hu9, hw9, hdj, rfl, rfl, hv⟩⟩
        · refine s_iconst (-1) C dF_bound_28 (by decide) ?_
          exact hret _ ((nr, wt, is, pt, al, fu, fw), ta) _ _ dF_bound_29 rfl ⟨hT, hw0, Or.inr ⟨fun ⟨a, b, h1, h2, h3, e1, e2⟩ => c4 (or_shr.mpr (by rw [(nI_eq hua (by omega)).mp e1, (nI_eq hwb (by omega)).mp e2]; exact ⟨h1, h2⟩)), rfl⟩⟩
set_option maxHeartbeats 4000000 in
set_option maxRecDepth 100000 in
/-- witness -/
theorem kF_witness (l : Launch) (D : va_G) (cA : ClassId) (x k h s b1 b2 b3 b4 b5 g a1 a2 a3 o1 o2 o3 o4 o5 : Nat) (N : Nat) (hd tl : Nat → Nat) (TW LF AH : Nat → Int32) (en fs fc : Int32) (n m : Nat) (fi se wa : Nat → Nat) (nr wt is pt : Nat → Nat) (al fu fw : Int32) (so ta ex bs bc wu ww : Int32) (hG : GOK n m fi se wa) (hS : knS fi se wa m so bs bc) (hT : knT fi se wa n m ta al wt is pt) (hE9 : knE fi se wa n m ex wu ww) (hw0 : wt 0 = 0) (q : Int32) : CtI (S := SrT × BdT × Int32 × Int32 × Int32 × Int32 × Int32 × Int32 × Int32) l yF_witness (.code yF_witness cF_witness 2 (some .int)) 23 0 0 D cA [.ref x, .int q] [(x, .inr (4, [.ref g, .ref s, .ref h, .ref k])), (s, .inr (3, [.int (nI N), .ref b1, .ref b2, .ref b3, .ref b4, .ref b5, .int en, .int fs, .int fc])), (b1, .inl (cA, 14, .inl (aN hd))), (b2, .inl (cA, 14, .inl (aN tl))), (b3, .inl (cA, 14, .inl TW)), (b4, .inl (cA, 9, .inl LF)), (b5, .inl (cA, 9, .inl AH)), (g, .inr (2, [.int (nI n), .int (nI m), .ref a1, .ref a2, .ref a3])), (a1, .inl (cA, 14, .inl (aN fi))), (a2, .inl (cA, 14, .inl (aN se))), (a3, .inl (cA, 9, .inl (aN wa))), (h, .inr (1, [.ref o1, .ref o2, .ref o3, .ref o4, .ref o5, .int al, .int fu, .int fw])), (o1, .inl (cA, 512, .inl (aN od))), (o2, .inl (cA, 9, .inl (aN nr))), (o3, .inl (cA, 512, .inl (aN wt))), (o4, .inl (cA, 512, .inl (aN is))), (o5, .inl (cA, 512, .inl (aN pt))), (k, .inr (0, [.int so, .int ta, .int ex, .int bs, .int bc, .int wu, .int ww]))] (fun r u => knS fi se wa m u.2.2.1 u.2.2.2.2.2.1 u.2.2.2.2.2.2.1 ∧ knT fi se wa n m u.2.2.2.1 u.2.1.2.2.2.2.1 u.2.1.2.1 u.2.1.2.2.1 u.2.1.2.2.2.1 ∧ u.2.1.2.1 0 = 0 ∧ knE fi se wa n m u.2.2.2.2.1 u.2.2.2.2.2.2.2.1 u.2.2.2.2.2.2.2.2 ∧ witQ fi se wa n m q r) (fun u => [(x, .inr (4, [.ref g, .ref s, .ref h, .ref k])), (s, .inr (3, [.int (nI u.1.1), .ref b1, .ref b2, .ref b3, .ref b4, .ref b5, .int u.1.2.2.2.2.2.2.1, .int u.1.2.2.2.2.2.2.2.1, .int u.1.2.2.2.2.2.2.2.2])), (b1, .inl (cA, 14, .inl (aN u.1.2.1))), (b2, .inl (cA, 14, .inl (aN u.1.2.2.1))), (b3, .inl (cA, 14, .inl u.1.2.2.2.1)), (b4, .inl (cA, 9, .inl u.1.2.2.2.2.1)), (b5, .inl (cA, 9, .inl u.1.2.2.2.2.2.1)), (g, .inr (2, [.int (nI n), .int (nI m), .ref a1, .ref a2, .ref a3])), (a1, .inl (cA, 14, .inl (aN fi))), (a2, .inl (cA, 14, .inl (aN se))), (a3, .inl (cA, 9, .inl (aN wa))), (h, .inr (1, [.ref o1, .ref o2, .ref o3, .ref o4, .ref o5, .int u.2.1.2.2.2.2.1, .int u.2.1.2.2.2.2.2.1, .int u.2.1.2.2.2.2.2.2])), (o1, .inl (cA, 512, .inl (aN od))), (o2, .inl (cA, 9, .inl (aN u.2.1.1))), (o3, .inl (cA, 512, .inl (aN u.2.1.2.1))), (o4, .inl (cA, 512, .inl (aN u.2.1.2.2.1))), (o5, .inl (cA, 512, .inl (aN u.2.1.2.2.2.1))), (k, .inr (0, [.int u.2.2.1, .int u.2.2.2.1, .int u.2.2.2.2.1, .int u.2.2.2.2.2.1, .int u.2.2.2.2.2.2.1, .int u.2.2.2.2.2.2.2.1, .int u.2.2.2.2.2.2.2.2]))]) := by
  refine mkI [(0, .ref x), (1, .int q)] (by decide) rfl (Nat.le_of_ble_eq_true rfl) ?_
  intro E A Q hE C hA hret
  refine s_iload_n 1 C dF_witness_0 rfl ?_
  refine s_if_lt 9 C dF_witness_1 (by decide) (fun c1 => ?_) (fun c1 => ?_)
  · refine s_iconst (-1) C dF_witness_9 (by decide) ?_
    exact hret _ ((N, hd, tl, TW, LF, AH, en, fs, fc), (nr, wt, is, pt, al, fu, fw), so, ta, ex, bs, bc, wu, ww) _ _ dF_witness_10 rfl ⟨hS, hT, hw0, hE9, Or.inr ⟨inR_no1 c1 (by decide), rfl⟩⟩
  · refine s_iload_n 1 C dF_witness_4 rfl ?_
    refine s_iconst (nI 1) C dF_witness_5 (by decide) ?_
    refine s_icmp_le 11 C dF_witness_6 (by decide) (fun c2 => ?_) (fun c2 => ?_)
    · obtain ⟨j, hj1, hj, rfl⟩ := rng_yes (a := 0) (by decide) (by decide) (by rw [nI_0]; exact c1) c2
      refine s_aload_n 0 C dF_witness_11 rfl ?_
      refine s_callV (n := 0) (wr := []) [0, 1, 2, 3, 4, 5, 6, 7, 8, 9, 10, 11, 12, 13, 14, 15, 16, 17] [] 0 [] C hA (kF_explain E.2.1 D cA x k h s b1 b2 b3 b4 b5 g a1 a2 a3 o1 o2 o3 o4 o5 N hd tl TW LF AH en fs fc n m fi se wa nr wt is pt al fu fw so ta ex bs bc wu ww hG hS hT hE9 hw0) gF_112 dF_witness_12 (by decide +kernel) rfl rfl (by decide) (by decide) (by decide) rfl rfl rfl (by decide) (by decide) rfl rfl (Nat.le_of_ble_eq_true rfl) (Nat.zero_le _) (Nat.zero_le _) (fun u hu => ?_)
      refine s_sub (ws' := [(x, .inr (4, [.ref g, .ref s, .ref h, .ref k])), (s, .inr (3, [.int (nI u.1.1), .ref b1, .ref b2, .ref b3, .ref b4, .ref b5, .int u.1.2.2.2.2.2.2.1, .int u.1.2.2.2.2.2.2.2.1, .int u.1.2.2.2.2.2.2.2.2])), (b1, .inl (cA, 14, .inl (aN u.1.2.1))), (b2, .inl (cA, 14, .inl (aN u.1.2.2.1))), (b3, .inl (cA, 14, .inl u.1.2.2.2.1)), (b4, .inl (cA, 9, .inl u.1.2.2.2.2.1)), (b5, .inl (cA, 9, .inl u.1.2.2.2.2.2.1)), (g, .inr (2, [.int (nI n), .int (nI m), .ref a1, .ref a2, .ref a3])), (a1, .inl (cA, 14, .inl (aN fi))), (a2, .inl (cA, 14, .inl (aN se))), (a3, .inl (cA, 9, .inl (aN wa))), (h, .inr (1, [.ref o1, .ref o2, .ref o3, .ref o4, .ref o5, .int u.2.1.2.2.2.2.1, .int u.2.1.2.2.2.2.2.1, .int u.2.1.2.2.2.2.2.2])), (o1, .inl (cA, 512, .inl (aN od))), (o2, .inl (cA, 9, .inl (aN u.2.1.1))), (o3, .inl (cA, 512, .inl (aN u.2.1.2.1))), (o4, .inl (cA, 512, .inl (aN u.2.1.2.2.1))), (o5, .inl (cA, 512, .inl (aN u.2.1.2.2.2.1))), (k, .inr (0, [.int u.2.2.1, .int u.2.2.2.1, .int (nI 1), .int u.2.2.2.2.1, .int u.2.2.2.2.2.1, .int u.2.2.2.2.2.2.1, .int u.2.2.2.2.2.2.2]))]) [0, 1, 2, 3, 4, 5, 6, 7, 8, 9, 10, 11, 12, 13, 14, 15, 16, 17] rfl (by decide) ?_
      obtain ⟨z1, z2, z3, wa9, wb9, z4, z5, z6⟩ := hu
      refine s_iload_n 1 C dF_witness_15 rfl ?_
      refine s_if_neN 29 C dF_witness_16 (by decide) (by omega) (fun c3 => ?_) (fun c3 => ?_)
      · refine s_aload_n 0 C dF_witness_29 rfl ?_
        refine s_get (.ref k) 0 3 C wfP inF flF_33 dF_witness_30 rfl rfl (by decide) rfl ?_
        refine s_get (.int u.2.2.2.2.2.2.2) 17 6 C wfP inA flF_118 dF_witness_33 rfl rfl (by decide) rfl ?_
        exact hret _ (u.1, u.2.1, u.2.2.1, u.2.2.2.1, nI 1, u.2.2.2.2.1, u.2.2.2.2.2.1, u.2.2.2.2.2.2.1, u.2.2.2.2.2.2.2) _ _ dF_witness_36 rfl ⟨z1, z2, z3, Or.inr ⟨rfl, wa9, wb9, z4, z5, z6⟩, Or.inl ⟨wa9, wb9, z4, Or.inr ⟨by rw [show j = 1 by omega], z6⟩⟩⟩
      · refine s_aload_n 0 C dF_witness_19 rfl ?_
        refine s_get (.ref k) 0 3 C wfP inF flF_33 dF_witness_20 rfl rfl (by decide) rfl ?_
        refine s_get (.int u.2.2.2.2.2.2.1) 17 5 C wfP inA flF_115 dF_witness_23 rfl rfl (by decide) rfl ?_
        refine s_goto (tgt := 36) C dF_witness_26 (by decide) ?_
        exact hret _ (u.1, u.2.1, u.2.2.1, u.2.2.2.1, nI 1, u.2.2.2.2.1, u.2.2.2.2.2.1, u.2.2.2.2.2.2.1, u.2.2.2.2.2.2.2) _ _ dF_witness_36 rfl ⟨z1, z2, z3, Or.inr ⟨rfl, wa9, wb9, z4, z5, z6⟩, Or.inl ⟨wa9, wb9, z4, Or.inl ⟨by rw [c3], z5⟩⟩⟩
    · refine s_iconst (-1) C dF_witness_9 (by decide) ?_
      exact hret _ ((N, hd, tl, TW, LF, AH, en, fs, fc), (nr, wt, is, pt, al, fu, fw), so, ta, ex, bs, bc, wu, ww) _ _ dF_witness_10 rfl ⟨hS, hT, hw0, hE9, Or.inr ⟨fun ⟨j, hj, e⟩ => c2 (by rw [e]; exact nI_le (by omega) (by decide)), rfl⟩⟩
