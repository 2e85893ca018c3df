abbrev GrT : Type := Nat × Nat × (Nat → Nat) × (Nat → Nat) × (Nat → Nat)
abbrev AnT : Type := Int32 × Int32 × Int32 × Int32 × Int32 × Int32 × Int32
theorem rng_yes {t : Int32} {a b : Nat} (ha : a < 2 ^ 31) (hb : b < 2 ^ 31) (h1 : ¬ t < nI a) (h2 : t ≤ nI b) : ∃ j, a ≤ j ∧ j ≤ b ∧ t = nI j := by
  rw [Int32.lt_iff_toInt_lt, nI_toInt ha] at h1
  rw [Int32.le_iff_toInt_le, nI_toInt hb] at h2
  obtain ⟨j, hj, e⟩ := nI_of (x := t) (by rw [Int32.lt_iff_toInt_lt, Int32.toInt_zero]; omega)
  rw [e, nI_toInt hj] at h1 h2
  exact ⟨j, by omega, by omega, e⟩
theorem rng_no1 {t : Int32} {a b : Nat} (hb : b < 2 ^ 31) (ha : a < 2 ^ 31) (h1 : t < nI a) : ¬ ∃ j, a ≤ j ∧ j ≤ b ∧ t = nI j := by
  rintro ⟨j, h2, h3, rfl⟩
  have := (nI_ltI (by omega) ha).mp h1
  omega
theorem rng_no2 {t : Int32} {a b : Nat} (hb : b < 2 ^ 31) (h1 : ¬ t ≤ nI b) : ¬ ∃ j, a ≤ j ∧ j ≤ b ∧ t = nI j := by
  rintro ⟨j, h2, h3, rfl⟩
  exact h1 ((nI_leI (by omega) hb).mpr h3)
theorem inR_un {i j n : Nat} (hn : n < 2 ^ 31) (hi : i < n) (hj : j < n) (h : nI i = nI j) : i = j := (nI_eq (by omega) (by omega)).mp h
/-! what a call does to the graph, and its answer -/
def begP (t r : Int32) (s s' : GrT) : Prop := (∃ j, 1 ≤ j ∧ j ≤ 9 ∧ t = nI j ∧ r = nI 1 ∧ s' = (j, 0, s.2.2.1, s.2.2.2.1, fun _ => 0)) ∨ ((¬ ∃ j, 1 ≤ j ∧ j ≤ 9 ∧ t = nI j) ∧ r = nI 0 ∧ s' = s)
def edgP (a b r : Int32) (s s' : GrT) : Prop := (∃ i j, i < s.1 ∧ j < s.1 ∧ i ≠ j ∧ s.2.1 < 14 ∧ a = nI i ∧ b = nI j ∧ r = nI s.2.1 ∧ s' = (s.1, s.2.1 + 1, nup s.2.2.1 s.2.1 i, nup s.2.2.2.1 s.2.1 j, s.2.2.2.2)) ∨ (¬ (s.2.1 < 14 ∧ inR a s.1 ∧ inR b s.1 ∧ a ≠ b) ∧ r = -1 ∧ s' = s)
def rmF (f : Nat → Nat) (t m : Nat) : Nat → Nat := fun j => if t ≤ j ∧ j < m - 1 then f (j + 1) else f j
def drpP (e r : Int32) (s s' : GrT) : Prop := (∃ t, t < s.2.1 ∧ e = nI t ∧ r = nI 1 ∧ s' = (s.1, s.2.1 - 1, rmF s.2.2.1 t s.2.1, rmF s.2.2.2.1 t s.2.1, s.2.2.2.2)) ∨ (¬ inR e s.2.1 ∧ r = nI 0 ∧ s' = s)
def askP (v d r : Int32) (s s' : GrT) : Prop := (∃ i j, i < s.1 ∧ j ≤ 14 ∧ v = nI i ∧ d = nI j ∧ r = nI 1 ∧ s' = (s.1, s.2.1, s.2.2.1, s.2.2.2.1, nup s.2.2.2.2 i j)) ∨ (¬ (inR v s.1 ∧ inR d 15) ∧ r = nI 0 ∧ s' = s)
def endP (e w r : Int32) (m : Nat) (fi se : Nat → Nat) : Prop := (∃ j, j < m ∧ e = nI j ∧ ((w = nI 0 ∧ r = nI (fi j)) ∨ (w = nI 1 ∧ r = nI (se j)))) ∨ (¬ (inR e m ∧ inR w 2) ∧ r = -1)
def demP (v r : Int32) (n : Nat) (wa : Nat → Nat) : Prop := (∃ j, j < n ∧ v = nI j ∧ r = nI (wa j)) ∨ (¬ inR v n ∧ r = -1)
def judP (x r : Int32) (n m : Nat) (fi se wa : Nat → Nat) : Prop := (∃ s, s < 2 ^ m ∧ x = nI s ∧ ((isFa fi se wa n m s ∧ r = nI 2) ∨ (¬ isFa fi se wa n m s ∧ hfa fi se n m wa (bm s) ∧ r = nI 1) ∨ (¬ hfa fi se n m wa (bm s) ∧ r = nI 0))) ∨ (¬ inR x (2 ^ m) ∧ r = -1)
set_option maxHeartbeats 4000000 in
set_option maxRecDepth 100000 in
/-- begin -/
theorem kF_begin (l : Launch) (D : va_G) (cA : ClassId) (x k h s b1 b2 b3 b4 b5 g a1 a2 a3 o1 o2 o3 o4 o5 : Nat) (n m : Nat) (fi se wa : Nat → Nat) (so ta ex bs bc wu ww : Int32) (t : Int32) : CtI (S := GrT × AnT) l yF_begin (.code yF_begin cF_begin 2 (some .boolean)) 23 0 0 D cA [.ref x, .int t] [(x, .inr (4, [.ref g, .ref s, .ref h, .ref k])), (g, .inr (2, [.int (nI n), .int (nI m), .ref a1, .ref a2, .ref a3])), (a1, .inl (cA, 14, .inl (aN fi))), (a2, .inl (cA, 14, .inl (aN se))), (a3, .inl (cA, 9, .inl (aN wa))), (k, .inr (0, [.int so, .int ta, .int ex, .int bs, .int bc, .int wu, .int ww]))] (fun r u => begP t r (n, m, fi, se, wa) u.1 ∧ ((u.2 = (so, ta, ex, bs, bc, wu, ww) ∧ u.1 = (n, m, fi, se, wa)) ∨ u.2 = (nI 0, nI 0, nI 0, bs, bc, wu, ww))) (fun u => [(x, .inr (4, [.ref g, .ref s, .ref h, .ref k])), (g, .inr (2, [.int (nI u.1.1), .int (nI u.1.2.1), .ref a1, .ref a2, .ref a3])), (a1, .inl (cA, 14, .inl (aN u.1.2.2.1))), (a2, .inl (cA, 14, .inl (aN u.1.2.2.2.1))), (a3, .inl (cA, 9, .inl (aN u.1.2.2.2.2))), (k, .inr (0, [.int u.2.1, .int u.2.2.1, .int u.2.2.2.1, .int u.2.2.2.2.1, .int u.2.2.2.2.2.1, .int u.2.2.2.2.2.2.1, .int u.2.2.2.2.2.2.2]))]) := by
  refine mkI [(0, .ref x), (1, .int t)] (by decide) rfl (Nat.le_of_ble_eq_true rfl) ?_
  intro E A Q hE C hA hret
  refine s_iload_n 1 C dF_begin_0 rfl ?_
  refine s_iconst (nI 1) C dF_begin_1 (by decide) ?_
  refine s_icmp_lt 11 C dF_begin_2 (by decide) (fun c1 => ?_) (fun c1 => ?_)
  · refine s_iconst (nI 0) C dF_begin_11 (by decide) ?_
    exact hret _ ((n, m, fi, se, wa), (so, ta, ex, bs, bc, wu, ww)) _ _ dF_begin_12 rfl ⟨Or.inr ⟨rng_no1 (by decide) (by decide) c1, rfl, rfl⟩, Or.inl ⟨rfl, rfl⟩⟩
  · refine s_iload_n 1 C dF_begin_5 rfl ?_
    refine s_bipush (nI 9) C dF_begin_6 (by decide) ?_
    refine s_icmp_le 13 C dF_begin_8 (by decide) (fun c2 => ?_) (fun c2 => ?_)
    · obtain ⟨kk, h1, h2, rfl⟩ := rng_yes (by decide) (by decide) c1 c2
      refine s_aload_n 0 C dF_begin_13 rfl ?_
      refine s_get (.ref g) 0 0 C wfP inF flF_12 dF_begin_14 rfl rfl (by decide) rfl ?_
      refine s_iload_n 1 C dF_begin_17 rfl ?_
      refine s_callV (n := 1) (wr := [(x, .inr (4, [.ref g, .ref s, .ref h, .ref k])), (a1, .inl (cA, 14, .inl (aN fi))), (a2, .inl (cA, 14, .inl (aN se))), (k, .inr (0, [.int so, .int ta, .int ex, .int bs, .int bc, .int wu, .int ww]))]) [1, 4] [0, 2, 3, 5] 0 [] C hA (kG_clear E.2.1 D cA g a1 a2 a3 n m kk wa) gF_37 dF_begin_18 (by decide +kernel) rfl rfl (by decide) (by decide) (by decide) rfl rfl rfl (by decide) (by decide) rfl rfl (Nat.le_of_ble_eq_true rfl) (Nat.zero_le _) (Nat.zero_le _) (fun u8 h8 => ?_)
      refine s_sub (ws' := [(x, .inr (4, [.ref g, .ref s, .ref h, .ref k])), (g, .inr (2, [.int (nI kk), .int (nI 0), .ref a1, .ref a2, .ref a3])), (a1, .inl (cA, 14, .inl (aN fi))), (a2, .inl (cA, 14, .inl (aN se))), (a3, .inl (cA, 9, .inl (aN (fun _ => 0)))), (k, .inr (0, [.int so, .int ta, .int ex, .int bs, .int bc, .int wu, .int ww]))]) [0, 4, 1, 2, 5, 3] rfl (by decide) ?_
      refine s_aload_n 0 C dF_begin_21 rfl ?_
      refine s_get (.ref k) 0 3 C wfP inF flF_33 dF_begin_22 rfl rfl (by decide) rfl ?_
      refine s_callV (n := 0) (wr := [(x, .inr (4, [.ref g, .ref s, .ref h, .ref k])), (g, .inr (2, [.int (nI kk), .int (nI 0), .ref a1, .ref a2, .ref a3])), (a1, .inl (cA, 14, .inl (aN fi))), (a2, .inl (cA, 14, .inl (aN se))), (a3, .inl (cA, 9, .inl (aN (fun _ => 0))))]) [5] [0, 1, 2, 3, 4] 0 [] C hA (kA_forget E.2.1 D cA k so ta ex bs bc wu ww) gF_41 dF_begin_25 (by decide +kernel) rfl rfl (by decide) (by decide) (by decide) rfl rfl rfl (by decide) (by decide) rfl rfl (Nat.le_of_ble_eq_true rfl) (Nat.zero_le _) (Nat.zero_le _) (fun u9 h9 => ?_)
      refine s_sub (ws' := [(x, .inr (4, [.ref g, .ref s, .ref h, .ref k])), (g, .inr (2, [.int (nI kk), .int (nI 0), .ref a1, .ref a2, .ref a3])), (a1, .inl (cA, 14, .inl (aN fi))), (a2, .inl (cA, 14, .inl (aN se))), (a3, .inl (cA, 9, .inl (aN (fun _ => 0)))), (k, .inr (0, [.int (nI 0), .int (nI 0), .int (nI 0), .int bs, .int bc, .int wu, .int ww]))]) [0, 1, 2, 3, 4, 5] rfl (by decide) ?_
      refine s_iconst (nI 1) C dF_begin_28 (by decide) ?_
      exact hret _ ((kk, 0, fi, se, fun _ => 0), (nI 0, nI 0, nI 0, bs, bc, wu, ww)) _ _ dF_begin_29 rfl ⟨Or.inl ⟨kk, h1, h2, rfl, rfl, rfl⟩, Or.inr rfl⟩
    · refine s_iconst (nI 0) C dF_begin_11 (by decide) ?_
      exact hret _ ((n, m, fi, se, wa), (so, ta, ex, bs, bc, wu, ww)) _ _ dF_begin_12 rfl ⟨Or.inr ⟨rng_no2 (by decide) c2, rfl, rfl⟩, Or.inl ⟨rfl, rfl⟩⟩
set_option maxHeartbeats 4000000 in
set_option maxRecDepth 100000 in
/-- edge -/
theorem kF_edge (l : Launch) (D : va_G) (cA : ClassId) (x k h s b1 b2 b3 b4 b5 g a1 a2 a3 o1 o2 o3 o4 o5 : Nat) (n m : Nat) (fi se wa : Nat → Nat) (so ta ex bs bc wu ww : Int32) (hG : GOK n m fi se wa) (p q : Int32) : CtI (S := GrT × AnT) l yF_edge (.code yF_edge cF_edge 3 (some .int)) 23 0 0 D cA [.ref x, .int p, .int q] [(x, .inr (4, [.ref g, .ref s, .ref h, .ref k])), (g, .inr (2, [.int (nI n), .int (nI m), .ref a1, .ref a2, .ref a3])), (a1, .inl (cA, 14, .inl (aN fi))), (a2, .inl (cA, 14, .inl (aN se))), (a3, .inl (cA, 9, .inl (aN wa))), (k, .inr (0, [.int so, .int ta, .int ex, .int bs, .int bc, .int wu, .int ww]))] (fun r u => edgP p q r (n, m, fi, se, wa) u.1 ∧ ((u.2 = (so, ta, ex, bs, bc, wu, ww) ∧ u.1 = (n, m, fi, se, wa)) ∨ u.2 = (nI 0, nI 0, nI 0, bs, bc, wu, ww))) (fun u => [(x, .inr (4, [.ref g, .ref s, .ref h, .ref k])), (g, .inr (2, [.int (nI u.1.1), .int (nI u.1.2.1), .ref a1, .ref a2, .ref a3])), (a1, .inl (cA, 14, .inl (aN u.1.2.2.1))), (a2, .inl (cA, 14, .inl (aN u.1.2.2.2.1))), (a3, .inl (cA, 9, .inl (aN u.1.2.2.2.2))), (k, .inr (0, [.int u.2.1, .int u.2.2.1, .int u.2.2.2.1, .int u.2.2.2.2.1, .int u.2.2.2.2.2.1, .int u.2.2.2.2.2.2.1, .int u.2.2.2.2.2.2.2]))]) := by
  refine mkI [(0, .ref x), (1, .int p), (2, .int q)] (by decide) rfl (Nat.le_of_ble_eq_true rfl) ?_
  intro E A Q hE C hA hret
  obtain ⟨g1, g2, g3, g4, g5, g6⟩ := hG
  refine s_aload_n 0 C dF_edge_0 rfl ?_
  refine s_get (.ref g) 0 0 C wfP inF flF_12 dF_edge_1 rfl rfl (by decide) rfl ?_
  refine s_get (.int (nI m)) 1 1 C wfP inG flF_44 dF_edge_4 rfl rfl (by decide) rfl ?_
  refine s_bipush (nI 14) C dF_edge_7 (by decide) ?_
  refine s_icmp_geN 39 C dF_edge_9 (by decide) (by omega) (by omega) (fun c1 => ?_) (fun c1 => ?_)
  · refine s_iconst (-1) C dF_edge_39 (by decide) ?_
    exact hret _ ((n, m, fi, se, wa), (so, ta, ex, bs, bc, wu, ww)) _ _ dF_edge_40 rfl ⟨Or.inr ⟨fun z => absurd z.1 (by show ¬ m < 14; omega), rfl, rfl⟩, Or.inl ⟨rfl, rfl⟩⟩
  · refine s_iload_n 1 C dF_edge_12 rfl ?_
    refine s_iload_n 2 C dF_edge_13 rfl ?_
    refine s_icmp_eq 39 C dF_edge_14 (by decide) (fun c2 => ?_) (fun c2 => ?_)
    · refine s_iconst (-1) C dF_edge_39 (by decide) ?_
      exact hret _ ((n, m, fi, se, wa), (so, ta, ex, bs, bc, wu, ww)) _ _ dF_edge_40 rfl ⟨Or.inr ⟨fun z => z.2.2.2 c2, rfl, rfl⟩, Or.inl ⟨rfl, rfl⟩⟩
    · refine s_aload_n 0 C dF_edge_17 rfl ?_
      refine s_get (.ref g) 0 0 C wfP inF flF_12 dF_edge_18 rfl rfl (by decide) rfl ?_
      refine s_iload_n 1 C dF_edge_21 rfl ?_
      refine s_callP (n := 1) [1] 0 [] C wfP (kG_hasVertex E.2.1 D cA g a1 a2 a3 n m p (by omega) (by omega)) gF_48 dF_edge_22 (by decide +kernel) rfl rfl rfl rfl (by decide) (by decide) rfl rfl (Nat.le_of_ble_eq_true rfl) (Nat.zero_le _) (Nat.zero_le _) (fun rhv hv => ?_)
      rcases hv with ⟨er, hin⟩ | ⟨er, hin⟩
      · refine s_top er ?_
        refine s_if_eqN 39 C dF_edge_25 (by decide) (by decide) (fun c3 => ?_) (fun c3 => ?_)
        · exact absurd c3 (by decide)
        · have hp1 := hin
          refine s_aload_n 0 C dF_edge_28 rfl ?_
          refine s_get (.ref g) 0 0 C wfP inF flF_12 dF_edge_29 rfl rfl (by decide) rfl ?_
          refine s_iload_n 2 C dF_edge_32 rfl ?_
          refine s_callP (n := 1) [1] 0 [] C wfP (kG_hasVertex E.2.1 D cA g a1 a2 a3 n m q (by omega) (by omega)) gF_48 dF_edge_33 (by decide +kernel) rfl rfl rfl rfl (by decide) (by decide) rfl rfl (Nat.le_of_ble_eq_true rfl) (Nat.zero_le _) (Nat.zero_le _) (fun rhv2 hv2 => ?_)
          rcases hv2 with ⟨er, hin2⟩ | ⟨er, hin2⟩
          · refine s_top er ?_
            refine s_if_neN 41 C dF_edge_36 (by decide) (by decide) (fun c4 => ?_) (fun c4 => ?_)
            · obtain ⟨i, hi, rfl⟩ := hp1
              obtain ⟨j, hj, rfl⟩ := hin2
              have hij : i ≠ j := fun z => c2 (by rw [z])
              refine s_aload_n 0 C dF_edge_41 rfl ?_
              refine s_get (.ref g) 0 0 C wfP inF flF_12 dF_edge_42 rfl rfl (by decide) rfl ?_
              refine s_iload_n 1 C dF_edge_45 rfl ?_
              refine s_iload_n 2 C dF_edge_46 rfl ?_
              refine s_callV (n := 2) (wr := [(x, .inr (4, [.ref g, .ref s, .ref h, .ref k])), (a3, .inl (cA, 9, .inl (aN wa))), (k, .inr (0, [.int so, .int ta, .int ex, .int bs, .int bc, .int wu, .int ww]))]) [1, 2, 3] [0, 4, 5] 0 [] C hA (kG_append E.2.1 D cA g a1 a2 a3 n m i j fi se (by omega)) gF_52 dF_edge_47 (by decide +kernel) rfl rfl (by decide) (by decide) (by decide) rfl rfl rfl (by decide) (by decide) rfl rfl (Nat.le_of_ble_eq_true rfl) (Nat.zero_le _) (Nat.zero_le _) (fun u8 h8 => ?_)
              refine s_sub (ws' := [(x, .inr (4, [.ref g, .ref s, .ref h, .ref k])), (g, .inr (2, [.int (nI n), .int (nI (m + 1)), .ref a1, .ref a2, .ref a3])), (a1, .inl (cA, 14, .inl (aN (nup fi m i)))), (a2, .inl (cA, 14, .inl (aN (nup se m j)))), (a3, .inl (cA, 9, .inl (aN wa))), (k, .inr (0, [.int so, .int ta, .int ex, .int bs, .int bc, .int wu, .int ww]))]) [0, 3, 4, 5, 1, 2] rfl (by decide) ?_
              refine s_aload_n 0 C dF_edge_50 rfl ?_
              refine s_get (.ref k) 0 3 C wfP inF flF_33 dF_edge_51 rfl rfl (by decide) rfl ?_
              refine s_callV (n := 0) (wr := [(x, .inr (4, [.ref g, .ref s, .ref h, .ref k])), (g, .inr (2, [.int (nI n), .int (nI (m + 1)), .ref a1, .ref a2, .ref a3])), (a1, .inl (cA, 14, .inl (aN (nup fi m i)))), (a2, .inl (cA, 14, .inl (aN (nup se m j)))), (a3, .inl (cA, 9, .inl (aN wa)))]) [5] [0, 1, 2, 3, 4] 0 [] C hA (kA_forget E.2.1 D cA k so ta ex bs bc wu ww) gF_41 dF_edge_54 (by decide +kernel) rfl rfl (by decide) (by decide) (by decide) rfl rfl rfl (by decide) (by decide) rfl rfl (Nat.le_of_ble_eq_true rfl) (Nat.zero_le _) (Nat.zero_le _) (fun u9 h9 => ?_)
              refine s_sub (ws' := [(x, .inr (4, [.ref g, .ref s, .ref h, .ref k])), (g, .inr (2, [.int (nI n), .int (nI (m + 1)), .ref a1, .ref a2, .ref a3])), (a1, .inl (cA, 14, .inl (aN (nup fi m i)))), (a2, .inl (cA, 14, .inl (aN (nup se m j)))), (a3, .inl (cA, 9, .inl (aN wa))), (k, .inr (0, [.int (nI 0), .int (nI 0), .int (nI 0), .int bs, .int bc, .int wu, .int ww]))]) [0, 1, 2, 3, 4, 5] rfl (by decide) ?_
              refine s_aload_n 0 C dF_edge_57 rfl ?_
              refine s_get (.ref g) 0 0 C wfP inF flF_12 dF_edge_58 rfl rfl (by decide) rfl ?_
              refine s_get (.int (nI (m + 1))) 1 1 C wfP inG flF_44 dF_edge_61 rfl rfl (by decide) rfl ?_
              refine s_iconst (nI 1) C dF_edge_64 (by decide) ?_
              refine s_isubN C dF_edge_65 (by omega) ?_
              exact hret _ ((n, m + 1, nup fi m i, nup se m j, wa), (nI 0, nI 0, nI 0, bs, bc, wu, ww)) _ _ dF_edge_66 rfl ⟨Or.inl ⟨i, j, hi, hj, hij, by show m < 14; omega, rfl, rfl, by rw [Nat.add_sub_cancel], rfl⟩, Or.inr rfl⟩
            · exact absurd c4 (by decide)
          · refine s_top er ?_
            refine s_if_neN 41 C dF_edge_36 (by decide) (by decide) (fun c4 => ?_) (fun c4 => ?_)
            · exact absurd rfl c4
            · refine s_iconst (-1) C dF_edge_39 (by decide) ?_
              exact hret _ ((n, m, fi, se, wa), (so, ta, ex, bs, bc, wu, ww)) _ _ dF_edge_40 rfl ⟨Or.inr ⟨fun z => hin2 z.2.2.1, rfl, rfl⟩, Or.inl ⟨rfl, rfl⟩⟩
      · refine s_top er ?_
        refine s_if_eqN 39 C dF_edge_25 (by decide) (by decide) (fun c3 => ?_) (fun c3 => ?_)
        · refine s_iconst (-1) C dF_edge_39 (by decide) ?_
          exact hret _ ((n, m, fi, se, wa), (so, ta, ex, bs, bc, wu, ww)) _ _ dF_edge_40 rfl ⟨Or.inr ⟨fun z => hin z.2.1, rfl, rfl⟩, Or.inl ⟨rfl, rfl⟩⟩
        · exact absurd rfl c3
set_option maxHeartbeats 4000000 in
set_option maxRecDepth 100000 in
/-- drop -/
theorem kF_drop (l : Launch) (D : va_G) (cA : ClassId) (x k h s b1 b2 b3 b4 b5 g a1 a2 a3 o1 o2 o3 o4 o5 : Nat) (n m : Nat) (fi se wa : Nat → Nat) (so ta ex bs bc wu ww : Int32) (hG : GOK n m fi se wa) (p : Int32) : CtI (S := GrT × AnT) l yF_drop (.code yF_drop cF_drop 2 (some .boolean)) 23 0 0 D cA [.ref x, .int p] [(x, .inr (4, [.ref g, .ref s, .ref h, .ref k])), (g, .inr (2, [.int (nI n), .int (nI m), .ref a1, .ref a2, .ref a3])), (a1, .inl (cA, 14, .inl (aN fi))), (a2, .inl (cA, 14, .inl (aN se))), (a3, .inl (cA, 9, .inl (aN wa))), (k, .inr (0, [.int so, .int ta, .int ex, .int bs, .int bc, .int wu, .int ww]))] (fun r u => drpP p r (n, m, fi, se, wa) u.1 ∧ ((u.2 = (so, ta, ex, bs, bc, wu, ww) ∧ u.1 = (n, m, fi, se, wa)) ∨ u.2 = (nI 0, nI 0, nI 0, bs, bc, wu, ww))) (fun u => [(x, .inr (4, [.ref g, .ref s, .ref h, .ref k])), (g, .inr (2, [.int (nI u.1.1), .int (nI u.1.2.1), .ref a1, .ref a2, .ref a3])), (a1, .inl (cA, 14, .inl (aN u.1.2.2.1))), (a2, .inl (cA, 14, .inl (aN u.1.2.2.2.1))), (a3, .inl (cA, 9, .inl (aN u.1.2.2.2.2))), (k, .inr (0, [.int u.2.1, .int u.2.2.1, .int u.2.2.2.1, .int u.2.2.2.2.1, .int u.2.2.2.2.2.1, .int u.2.2.2.2.2.2.1, .int u.2.2.2.2.2.2.2]))]) := by
  refine mkI [(0, .ref x), (1, .int p)] (by decide) rfl (Nat.le_of_ble_eq_true rfl) ?_
  intro E A Q hE C hA hret
  obtain ⟨g1, g2, g3, g4, g5, g6⟩ := hG
  refine s_aload_n 0 C dF_drop_0 rfl ?_
  refine s_get (.ref g) 0 0 C wfP inF flF_12 dF_drop_1 rfl rfl (by decide) rfl ?_
  refine s_iload_n 1 C dF_drop_4 rfl ?_
  refine s_callP (n := 1) [1] 0 [] C wfP (kG_hasEdge E.2.1 D cA g a1 a2 a3 n m p (by omega) (by omega)) gF_56 dF_drop_5 (by decide +kernel) rfl rfl rfl rfl (by decide) (by decide) rfl rfl (Nat.le_of_ble_eq_true rfl) (Nat.zero_le _) (Nat.zero_le _) (fun rhv hv => ?_)
  rcases hv with ⟨er, hin⟩ | ⟨er, hin⟩
  · refine s_top er ?_
    refine s_if_neN 13 C dF_drop_8 (by decide) (by decide) (fun c1 => ?_) (fun c1 => ?_)
    · obtain ⟨t, ht, rfl⟩ := hin
      refine s_aload_n 0 C dF_drop_13 rfl ?_
      refine s_get (.ref g) 0 0 C wfP inF flF_12 dF_drop_14 rfl rfl (by decide) rfl ?_
      refine s_iload_n 1 C dF_drop_17 rfl ?_
      refine s_callV (n := 1) (wr := [(x, .inr (4, [.ref g, .ref s, .ref h, .ref k])), (a3, .inl (cA, 9, .inl (aN wa))), (k, .inr (0, [.int so, .int ta, .int ex, .int bs, .int bc, .int wu, .int ww]))]) [1, 2, 3] [0, 4, 5] 0 [] C hA (kG_remove E.2.1 D cA g a1 a2 a3 n m t fi se g3 ht) gF_59 dF_drop_18 (by decide +kernel) rfl rfl (by decide) (by decide) (by decide) rfl rfl rfl (by decide) (by decide) rfl rfl (Nat.le_of_ble_eq_true rfl) (Nat.zero_le _) (Nat.zero_le _) (fun u8 h8 => ?_)
      refine s_sub (ws' := [(x, .inr (4, [.ref g, .ref s, .ref h, .ref k])), (g, .inr (2, [.int (nI n), .int (nI (m - 1)), .ref a1, .ref a2, .ref a3])), (a1, .inl (cA, 14, .inl (aN (rmF fi t m)))), (a2, .inl (cA, 14, .inl (aN (rmF se t m)))), (a3, .inl (cA, 9, .inl (aN wa))), (k, .inr (0, [.int so, .int ta, .int ex, .int bs, .int bc, .int wu, .int ww]))]) [0, 3, 4, 5, 1, 2] rfl (by decide) ?_
      refine s_aload_n 0 C dF_drop_21 rfl ?_
      refine s_get (.ref k) 0 3 C wfP inF flF_33 dF_drop_22 rfl rfl (by decide) rfl ?_
      refine s_callV (n := 0) (wr := [(x, .inr (4, [.ref g, .ref s, .ref h, .ref k])), (g, .inr (2, [.int (nI n), .int (nI (m - 1)), .ref a1, .ref a2, .ref a3])), (a1, .inl (cA, 14, .inl (aN (rmF fi t m)))), (a2, .inl (cA, 14, .inl (aN (rmF se t m)))), (a3, .inl (cA, 9, .inl (aN wa)))]) [5] [0, 1, 2, 3, 4] 0 [] C hA (kA_forget E.2.1 D cA k so ta ex bs bc wu ww) gF_41 dF_drop_25 (by decide +kernel) rfl rfl (by decide) (by decide) (by decide) rfl rfl rfl (by decide) (by decide) rfl rfl (Nat.le_of_ble_eq_true rfl) (Nat.zero_le _) (Nat.zero_le _) (fun u9 h9 => ?_)
      refine s_sub (ws' := [(x, .inr (4, [.ref g, .ref s, .ref h, .ref k])), (g, .inr (2, [.int (nI n), .int (nI (m - 1)), .ref a1, .ref a2, .ref a3])), (a1, .inl (cA, 14, .inl (aN (rmF fi t m)))), (a2, .inl (cA, 14, .inl (aN (rmF se t m)))), (a3, .inl (cA, 9, .inl (aN wa))), (k, .inr (0, [.int (nI 0), .int (nI 0), .int (nI 0), .int bs, .int bc, .int wu, .int ww]))]) [0, 1, 2, 3, 4, 5] rfl (by decide) ?_
      refine s_iconst (nI 1) C dF_drop_28 (by decide) ?_
      exact hret _ ((n, m - 1, rmF fi t m, rmF se t m, wa), (nI 0, nI 0, nI 0, bs, bc, wu, ww)) _ _ dF_drop_29 rfl ⟨Or.inl ⟨t, ht, rfl, rfl, rfl⟩, Or.inr rfl⟩
    · exact absurd c1 (by decide)
  · refine s_top er ?_
    refine s_if_neN 13 C dF_drop_8 (by decide) (by decide) (fun c1 => ?_) (fun c1 => ?_)
    · exact absurd rfl c1
    · refine s_iconst (nI 0) C dF_drop_11 (by decide) ?_
      exact hret _ ((n, m, fi, se, wa), (so, ta, ex, bs, bc, wu, ww)) _ _ dF_drop_12 rfl ⟨Or.inr ⟨hin, rfl, rfl⟩, Or.inl ⟨rfl, rfl⟩⟩
set_option maxHeartbeats 4000000 in
set_option maxRecDepth 100000 in
/-- ask -/
theorem kF_ask (l : Launch) (D : va_G) (cA : ClassId) (x k h s b1 b2 b3 b4 b5 g a1 a2 a3 o1 o2 o3 o4 o5 : Nat) (n m : Nat) (fi se wa : Nat → Nat) (so ta ex bs bc wu ww : Int32) (hG : GOK n m fi se wa) (p q : Int32) : CtI (S := GrT × AnT) l yF_ask (.code yF_ask cF_ask 3 (some .boolean)) 23 0 0 D cA [.ref x, .int p, .int q] [(x, .inr (4, [.ref g, .ref s, .ref h, .ref k])), (g, .inr (2, [.int (nI n), .int (nI m), .ref a1, .ref a2, .ref a3])), (a1, .inl (cA, 14, .inl (aN fi))), (a2, .inl (cA, 14, .inl (aN se))), (a3, .inl (cA, 9, .inl (aN wa))), (k, .inr (0, [.int so, .int ta, .int ex, .int bs, .int bc, .int wu, .int ww]))] (fun r u => askP p q r (n, m, fi, se, wa) u.1 ∧ ((u.2 = (so, ta, ex, bs, bc, wu, ww) ∧ u.1 = (n, m, fi, se, wa)) ∨ u.2 = (nI 0, nI 0, nI 0, bs, bc, wu, ww))) (fun u => [(x, .inr (4, [.ref g, .ref s, .ref h, .ref k])), (g, .inr (2, [.int (nI u.1.1), .int (nI u.1.2.1), .ref a1, .ref a2, .ref a3])), (a1, .inl (cA, 14, .inl (aN u.1.2.2.1))), (a2, .inl (cA, 14, .inl (aN u.1.2.2.2.1))), (a3, .inl (cA, 9, .inl (aN u.1.2.2.2.2))), (k, .inr (0, [.int u.2.1, .int u.2.2.1, .int u.2.2.2.1, .int u.2.2.2.2.1, .int u.2.2.2.2.2.1, .int u.2.2.2.2.2.2.1, .int u.2.2.2.2.2.2.2]))]) := by
  refine mkI [(0, .ref x), (1, .int p), (2, .int q)] (by decide) rfl (Nat.le_of_ble_eq_true rfl) ?_
  intro E A Q hE C hA hret
  obtain ⟨g1, g2, g3, g4, g5, g6⟩ := hG
  refine s_aload_n 0 C dF_ask_0 rfl ?_
  refine s_get (.ref g) 0 0 C wfP inF flF_12 dF_ask_1 rfl rfl (by decide) rfl ?_
  refine s_iload_n 1 C dF_ask_4 rfl ?_
  refine s_callP (n := 1) [1] 0 [] C wfP (kG_hasVertex E.2.1 D cA g a1 a2 a3 n m p (by omega) (by omega)) gF_48 dF_ask_5 (by decide +kernel) rfl rfl rfl rfl (by decide) (by decide) rfl rfl (Nat.le_of_ble_eq_true rfl) (Nat.zero_le _) (Nat.zero_le _) (fun rhv hv => ?_)
  rcases hv with ⟨er, hin⟩ | ⟨er, hin⟩
  · refine s_top er ?_
    refine s_if_eqN 21 C dF_ask_8 (by decide) (by decide) (fun c1 => ?_) (fun c1 => ?_)
    · exact absurd c1 (by decide)
    · refine s_iload_n 2 C dF_ask_11 rfl ?_
      refine s_if_lt 21 C dF_ask_12 (by decide) (fun c2 => ?_) (fun c2 => ?_)
      · refine s_iconst (nI 0) C dF_ask_21 (by decide) ?_
        exact hret _ ((n, m, fi, se, wa), (so, ta, ex, bs, bc, wu, ww)) _ _ dF_ask_22 rfl ⟨Or.inr ⟨fun z => inR_no1 c2 (by decide) z.2, rfl, rfl⟩, Or.inl ⟨rfl, rfl⟩⟩
      · refine s_iload_n 2 C dF_ask_15 rfl ?_
        refine s_bipush (nI 14) C dF_ask_16 (by decide) ?_
        refine s_icmp_le 23 C dF_ask_18 (by decide) (fun c3 => ?_) (fun c3 => ?_)
        · obtain ⟨i, hi, rfl⟩ := hin
          obtain ⟨j, hj1, hj, rfl⟩ := rng_yes (a := 0) (by decide) (by decide) (by rw [nI_0]; exact c2) c3
          refine s_aload_n 0 C dF_ask_23 rfl ?_
          refine s_get (.ref g) 0 0 C wfP inF flF_12 dF_ask_24 rfl rfl (by decide) rfl ?_
          refine s_get (.ref a3) 1 4 C wfP inG flF_62 dF_ask_27 rfl rfl (by decide) rfl ?_
          refine s_iload_n 1 C dF_ask_30 rfl ?_
          refine s_iload_n 2 C dF_ask_31 rfl ?_
          refine s_iastN 4 [(x, .inr (4, [.ref g, .ref s, .ref h, .ref k])), (g, .inr (2, [.int (nI n), .int (nI m), .ref a1, .ref a2, .ref a3])), (a1, .inl (cA, 14, .inl (aN fi))), (a2, .inl (cA, 14, .inl (aN se))), (a3, .inl (cA, 9, .inl (aN (nup wa i j)))), (k, .inr (0, [.int so, .int ta, .int ex, .int bs, .int bc, .int wu, .int ww]))] C dF_ask_32 rfl (by omega) (by decide) rfl ?_
          refine s_aload_n 0 C dF_ask_33 rfl ?_
          refine s_get (.ref k) 0 3 C wfP inF flF_33 dF_ask_34 rfl rfl (by decide) rfl ?_
          refine s_callV (n := 0) (wr := [(x, .inr (4, [.ref g, .ref s, .ref h, .ref k])), (g, .inr (2, [.int (nI n), .int (nI m), .ref a1, .ref a2, .ref a3])), (a1, .inl (cA, 14, .inl (aN fi))), (a2, .inl (cA, 14, .inl (aN se))), (a3, .inl (cA, 9, .inl (aN (nup wa i j))))]) [5] [0, 1, 2, 3, 4] 0 [] C hA (kA_forget E.2.1 D cA k so ta ex bs bc wu ww) gF_41 dF_ask_37 (by decide +kernel) rfl rfl (by decide) (by decide) (by decide) rfl rfl rfl (by decide) (by decide) rfl rfl (Nat.le_of_ble_eq_true rfl) (Nat.zero_le _) (Nat.zero_le _) (fun u9 h9 => ?_)
          refine s_sub (ws' := [(x, .inr (4, [.ref g, .ref s, .ref h, .ref k])), (g, .inr (2, [.int (nI n), .int (nI m), .ref a1, .ref a2, .ref a3])), (a1, .inl (cA, 14, .inl (aN fi))), (a2, .inl (cA, 14, .inl (aN se))), (a3, .inl (cA, 9, .inl (aN (nup wa i j)))), (k, .inr (0, [.int (nI 0), .int (nI 0), .int (nI 0), .int bs, .int bc, .int wu, .int ww]))]) [0, 1, 2, 3, 4, 5] rfl (by decide) ?_
          refine s_iconst (nI 1) C dF_ask_40 (by decide) ?_
          exact hret _ ((n, m, fi, se, nup wa i j), (nI 0, nI 0, nI 0, bs, bc, wu, ww)) _ _ dF_ask_41 rfl ⟨Or.inl ⟨i, j, hi, hj, rfl, rfl, rfl, rfl⟩, Or.inr rfl⟩
        · refine s_iconst (nI 0) C dF_ask_21 (by decide) ?_
          exact hret _ ((n, m, fi, se, wa), (so, ta, ex, bs, bc, wu, ww)) _ _ dF_ask_22 rfl ⟨Or.inr ⟨fun ⟨_, j, hj, e⟩ => c3 (by rw [e]; exact nI_le (by omega) (by decide)), rfl, rfl⟩, Or.inl ⟨rfl, rfl⟩⟩
  · refine s_top er ?_
    refine s_if_eqN 21 C dF_ask_8 (by decide) (by decide) (fun c1 => ?_) (fun c1 => ?_)
    · refine s_iconst (nI 0) C dF_ask_21 (by decide) ?_
      exact hret _ ((n, m, fi, se, wa), (so, ta, ex, bs, bc, wu, ww)) _ _ dF_ask_22 rfl ⟨Or.inr ⟨fun z => hin z.1, rfl, rfl⟩, Or.inl ⟨rfl, rfl⟩⟩
    · exact absurd rfl c1
set_option maxHeartbeats 4000000 in
set_option maxRecDepth 100000 in
/-- vertices -/
theorem kF_vertices (l : Launch) (D : va_G) (cA : ClassId) (x k h s b1 b2 b3 b4 b5 g a1 a2 a3 o1 o2 o3 o4 o5 : Nat) (n m : Nat) (fi se wa : Nat → Nat) (hG : GOK n m fi se wa)  : CtP l yF_vertices (.code yF_vertices cF_vertices 1 (some .int)) 0 D cA [.ref x] [(x, .inr (4, [.ref g, .ref s, .ref h, .ref k])), (g, .inr (2, [.int (nI n), .int (nI m), .ref a1, .ref a2, .ref a3]))] (fun r => r = nI n) := by
  refine mkP [(0, .ref x)] (by decide) rfl (Nat.le_of_ble_eq_true rfl) ?_
  intro E Q hE C hret
  refine s_aload_n 0 C dF_vertices_0 rfl ?_
  refine s_get (.ref g) 0 0 C pfP inF flF_12 dF_vertices_1 rfl rfl (by decide) rfl ?_
  refine s_get (.int (nI n)) 1 0 C pfP inG flF_66 dF_vertices_4 rfl rfl (by decide) rfl ?_
  exact hret _ _ _ dF_vertices_7 rfl rfl
set_option maxHeartbeats 4000000 in
set_option maxRecDepth 100000 in
/-- edges -/
theorem kF_edges (l : Launch) (D : va_G) (cA : ClassId) (x k h s b1 b2 b3 b4 b5 g a1 a2 a3 o1 o2 o3 o4 o5 : Nat) (n m : Nat) (fi se wa : Nat → Nat) (hG : GOK n m fi se wa)  : CtP l yF_edges (.code yF_edges cF_edges 1 (some .int)) 0 D cA [.ref x] [(x, .inr (4, [.ref g, .ref s, .ref h, .ref k])), (g, .inr (2, [.int (nI n), .int (nI m), .ref a1, .ref a2, .ref a3]))] (fun r => r = nI m) := by
  refine mkP [(0, .ref x)] (by decide) rfl (Nat.le_of_ble_eq_true rfl) ?_
  intro E Q hE C hret
  refine s_aload_n 0 C dF_edges_0 rfl ?_
  refine s_get (.ref g) 0 0 C pfP inF flF_12 dF_edges_1 rfl rfl (by decide) rfl ?_
  refine s_get (.int (nI m)) 1 1 C pfP inG flF_44 dF_edges_4 rfl rfl (by decide) rfl ?_
  exact hret _ _ _ dF_edges_7 rfl rfl
set_option maxHeartbeats 4000000 in
set_option maxRecDepth 100000 in
/-- end -/
theorem kF_end (l : Launch) (D : va_G) (cA : ClassId) (x k h s b1 b2 b3 b4 b5 g a1 a2 a3 o1 o2 o3 o4 o5 : Nat) (n m : Nat) (fi se wa : Nat → Nat) (hG : GOK n m fi se wa) (p q : Int32) : CtP l yF_end (.code yF_end cF_end 3 (some .int)) 2 D cA [.ref x, .int p, .int q] [(x, .inr (4, [.ref g, .ref s, .ref h, .ref k])), (g, .inr (2, [.int (nI n), .int (nI m), .ref a1, .ref a2, .ref a3])), (a1, .inl (cA, 14, .inl (aN fi))), (a2, .inl (cA, 14, .inl (aN se)))] (fun r => endP p q r m fi se) := by
  refine mkP [(0, .ref x), (1, .int p), (2, .int q)] (by decide) rfl (Nat.le_of_ble_eq_true rfl) ?_
  intro E Q hE C hret
  obtain ⟨g1, g2, g3, g4, g5, g6⟩ := hG
  refine s_aload_n 0 C dF_end_0 rfl ?_
  refine s_get (.ref g) 0 0 C pfP inF flF_12 dF_end_1 rfl rfl (by decide) rfl ?_
  refine s_iload_n 1 C dF_end_4 rfl ?_
  refine s_callP (n := 1) [1] 0 [] C pfP (kG_hasEdge E.2.1 D cA g a1 a2 a3 n m p (by omega) (by omega)) gF_56 dF_end_5 (by decide +kernel) rfl rfl rfl rfl (by decide) (by decide) rfl rfl (Nat.le_of_ble_eq_true rfl) (Nat.zero_le _) (Nat.zero_le _) (fun rhv hv => ?_)
  rcases hv with ⟨er, hin⟩ | ⟨er, hin⟩
  · refine s_top er ?_
    refine s_if_eqN 20 C dF_end_8 (by decide) (by decide) (fun c1 => ?_) (fun c1 => ?_)
    · exact absurd c1 (by decide)
    · refine s_iload_n 2 C dF_end_11 rfl ?_
      refine s_if_lt 20 C dF_end_12 (by decide) (fun c2 => ?_) (fun c2 => ?_)
      · refine s_iconst (-1) C dF_end_20 (by decide) ?_
        exact hret _ _ _ dF_end_21 rfl (Or.inr ⟨fun z => inR_no1 c2 (by decide) z.2, rfl⟩)
      · refine s_iload_n 2 C dF_end_15 rfl ?_
        refine s_iconst (nI 1) C dF_end_16 (by decide) ?_
        refine s_icmp_le 22 C dF_end_17 (by decide) (fun c3 => ?_) (fun c3 => ?_)
        · obtain ⟨i, hi, rfl⟩ := hin
          obtain ⟨j, hj1, hj, rfl⟩ := rng_yes (a := 0) (by decide) (by decide) (by rw [nI_0]; exact c2) c3
          refine s_iload_n 2 C dF_end_22 rfl ?_
          refine s_if_neN 38 C dF_end_23 (by decide) (by omega) (fun c4 => ?_) (fun c4 => ?_)
          · refine s_aload_n 0 C dF_end_38 rfl ?_
            refine s_get (.ref g) 0 0 C pfP inF flF_12 dF_end_39 rfl rfl (by decide) rfl ?_
            refine s_get (.ref a2) 1 3 C pfP inG flF_72 dF_end_42 rfl rfl (by decide) rfl ?_
            refine s_iload_n 1 C dF_end_45 rfl ?_
            refine s_ialdN 3 C pfP dF_end_46 rfl (by omega) (by decide) ?_
            exact hret _ _ _ dF_end_47 rfl (Or.inl ⟨i, hi, rfl, Or.inr ⟨by rw [show j = 1 by omega], rfl⟩⟩)
          · refine s_aload_n 0 C dF_end_26 rfl ?_
            refine s_get (.ref g) 0 0 C pfP inF flF_12 dF_end_27 rfl rfl (by decide) rfl ?_
            refine s_get (.ref a1) 1 2 C pfP inG flF_69 dF_end_30 rfl rfl (by decide) rfl ?_
            refine s_iload_n 1 C dF_end_33 rfl ?_
            refine s_ialdN 2 C pfP dF_end_34 rfl (by omega) (by decide) ?_
            refine s_goto (tgt := 47) C dF_end_35 (by decide) ?_
            exact hret _ _ _ dF_end_47 rfl (Or.inl ⟨i, hi, rfl, Or.inl ⟨by rw [c4], rfl⟩⟩)
        · refine s_iconst (-1) C dF_end_20 (by decide) ?_
          exact hret _ _ _ dF_end_21 rfl (Or.inr ⟨fun ⟨_, j, hj, e⟩ => c3 (by rw [e]; exact nI_le (by omega) (by decide)), rfl⟩)
  · refine s_top er ?_
    refine s_if_eqN 20 C dF_end_8 (by decide) (by decide) (fun c1 => ?_) (fun c1 => ?_)
    · refine s_iconst (-1) C dF_end_20 (by decide) ?_
      exact hret _ _ _ dF_end_21 rfl (Or.inr ⟨fun z => hin z.1, rfl⟩)
    · exact absurd rfl c1
set_option maxHeartbeats 4000000 in
set_option maxRecDepth 100000 in
/-- demand -/
theorem kF_demand (l : Launch) (D : va_G) (cA : ClassId) (x k h s b1 b2 b3 b4 b5 g a1 a2 a3 o1 o2 o3 o4 o5 : Nat) (n m : Nat) (fi se wa : Nat → Nat) (hG : GOK n m fi se wa) (p : Int32) : CtP l yF_demand (.code yF_demand cF_demand 2 (some .int)) 2 D cA [.ref x, .int p] [(x, .inr (4, [.ref g, .ref s, .ref h, .ref k])), (g, .inr (2, [.int (nI n), .int (nI m), .ref a1, .ref a2, .ref a3])), (a3, .inl (cA, 9, .inl (aN wa)))] (fun r => demP p r n wa) := by
  refine mkP [(0, .ref x), (1, .int p)] (by decide) rfl (Nat.le_of_ble_eq_true rfl) ?_
  intro E Q hE C hret
  obtain ⟨g1, g2, g3, g4, g5, g6⟩ := hG
  refine s_aload_n 0 C dF_demand_0 rfl ?_
  refine s_get (.ref g) 0 0 C pfP inF flF_12 dF_demand_1 rfl rfl (by decide) rfl ?_
  refine s_iload_n 1 C dF_demand_4 rfl ?_
  refine s_callP (n := 1) [1] 0 [] C pfP (kG_hasVertex E.2.1 D cA g a1 a2 a3 n m p (by omega) (by omega)) gF_48 dF_demand_5 (by decide +kernel) rfl rfl rfl rfl (by decide) (by decide) rfl rfl (Nat.le_of_ble_eq_true rfl) (Nat.zero_le _) (Nat.zero_le _) (fun rhv hv => ?_)
  rcases hv with ⟨er, hin⟩ | ⟨er, hin⟩
  · refine s_top er ?_
    refine s_if_eqN 23 C dF_demand_8 (by decide) (by decide) (fun c1 => ?_) (fun c1 => ?_)
    · exact absurd c1 (by decide)
    · obtain ⟨i, hi, rfl⟩ := hin
      refine s_aload_n 0 C dF_demand_11 rfl ?_
      refine s_get (.ref g) 0 0 C pfP inF flF_12 dF_demand_12 rfl rfl (by decide) rfl ?_
      refine s_get (.ref a3) 1 4 C pfP inG flF_62 dF_demand_15 rfl rfl (by decide) rfl ?_
      refine s_iload_n 1 C dF_demand_18 rfl ?_
      refine s_ialdN 2 C pfP dF_demand_19 rfl (by omega) (by decide) ?_
      refine s_goto (tgt := 24) C dF_demand_20 (by decide) ?_
      exact hret _ _ _ dF_demand_24 rfl (Or.inl ⟨i, hi, rfl, rfl⟩)
  · refine s_top er ?_
    refine s_if_eqN 23 C dF_demand_8 (by decide) (by decide) (fun c1 => ?_) (fun c1 => ?_)
    · refine s_iconst (-1) C dF_demand_23 (by decide) ?_
      exact hret _ _ _ dF_demand_24 rfl (Or.inr ⟨hin, rfl⟩)
    · exact absurd rfl c1
set_option maxHeartbeats 4000000 in
set_option maxRecDepth 100000 in
/-- judge -/
theorem kF_judge (l : Launch) (D : va_G) (cA : ClassId) (x k h s b1 b2 b3 b4 b5 g a1 a2 a3 o1 o2 o3 o4 o5 : Nat) (n m : Nat) (fi se wa : Nat → Nat) (hG : GOK n m fi se wa) (p : Int32) : CtP l yF_judge (.code yF_judge cF_judge 5 (some .int)) 2 D cA [.ref x, .int p] [(x, .inr (4, [.ref g, .ref s, .ref h, .ref k])), (g, .inr (2, [.int (nI n), .int (nI m), .ref a1, .ref a2, .ref a3])), (a1, .inl (cA, 14, .inl (aN fi))), (a2, .inl (cA, 14, .inl (aN se))), (a3, .inl (cA, 9, .inl (aN wa)))] (fun r => judP p r n m fi se wa) := by
  refine mkP [(0, .ref x), (1, .int p)] (by decide) rfl (Nat.le_of_ble_eq_true rfl) ?_
  intro E Q hE C hret
  obtain ⟨g1, g2, g3, g4, g5, g6⟩ := hG
  refine s_iload_n 1 C dF_judge_0 rfl ?_
  refine s_if_lt 16 C dF_judge_1 (by decide) (fun c1 => ?_) (fun c1 => ?_)
  · refine s_iconst (-1) C dF_judge_16 (by decide) ?_
    exact hret _ _ _ dF_judge_17 rfl (Or.inr ⟨inR_no1 c1 (Nat.lt_of_le_of_lt (p2_le g3) (by decide)), rfl⟩)
  · obtain ⟨sv, hs, rfl⟩ := nI_of c1
    refine s_iload_n 1 C dF_judge_4 rfl ?_
    refine s_aload_n 0 C dF_judge_5 rfl ?_
    refine s_get (.ref g) 0 0 C pfP inF flF_12 dF_judge_6 rfl rfl (by decide) rfl ?_
    refine s_get (.int (nI m)) 1 1 C pfP inG flF_44 dF_judge_9 rfl rfl (by decide) rfl ?_
    refine s_ishrN C dF_judge_12 (by omega) (by omega) ?_
    refine s_if_eqN 18 C dF_judge_13 (by decide) (Nat.lt_of_le_of_lt (Nat.shiftRight_le _ _) hs) (fun c2 => ?_) (fun c2 => ?_)
    · have hsm : sv < 2 ^ m := by
        rw [Nat.shiftRight_eq_div_pow] at c2
        exact (Nat.div_eq_zero_iff_lt (Nat.two_pow_pos m)).mp c2
      have hs14 : sv < 2 ^ 14 := Nat.lt_of_lt_of_le hsm (p2_le g3)
      refine s_iconst (nI 2) C dF_judge_18 (by decide) ?_
      refine s_istore_n [(0, .ref x), (1, .int (nI sv)), (2, .int (nI 2))] [1, 2, 0] C dF_judge_19 (by decide) rfl ?_
      refine s_iconst (nI 0) C dF_judge_20 (by decide) ?_
      refine s_istore_n [(0, .ref x), (1, .int (nI sv)), (2, .int (nI 2)), (3, .int (nI 0))] [1, 2, 3, 0] C dF_judge_21 (by decide) rfl ?_
      have loop : ∀ kf i (vd : Nat), i + kf = n → ((vd = 2 ∧ ∀ v, v < i → hdg fi se m (bm sv) v = wa v) ∨ (vd = 1 ∧ (∀ v, v < i → hdg fi se m (bm sv) v ≤ wa v) ∧ ∃ v, v < i ∧ hdg fi se m (bm sv) v < wa v)) → ST E 5 Q 0 0 (pf E D [(x, .inr (4, [.ref g, .ref s, .ref h, .ref k])), (g, .inr (2, [.int (nI n), .int (nI m), .ref a1, .ref a2, .ref a3])), (a1, .inl (cA, 14, .inl (aN fi))), (a2, .inl (cA, 14, .inl (aN se))), (a3, .inl (cA, 9, .inl (aN wa)))]) [(0, .ref x), (1, .int (nI sv)), (2, .int (nI vd)), (3, .int (nI i))] [] 22 := by
        intro kf
        induction kf with
        | zero =>
          intro i vd hi hvd
          refine s_iload_n 3 C dF_judge_22 rfl ?_
          refine s_aload_n 0 C dF_judge_23 rfl ?_
          refine s_get (.ref g) 0 0 C pfP inF flF_12 dF_judge_24 rfl rfl (by decide) rfl ?_
          refine s_get (.int (nI n)) 1 0 C pfP inG flF_66 dF_judge_27 rfl rfl (by decide) rfl ?_
          refine s_icmp_geN 82 C dF_judge_30 (by decide) (by omega) (by omega) (fun c3 => ?_) (fun c3 => ?_)
          · have e9 : n = i := by omega
            subst e9
            refine s_iload_n 2 C dF_judge_82 rfl ?_
            refine hret _ _ _ dF_judge_83 rfl (Or.inl ⟨sv, hsm, rfl, ?_⟩)
            rcases hvd with ⟨e1, h1⟩ | ⟨e1, h1, v, hv, h2⟩
            · exact Or.inl ⟨h1, by rw [e1]⟩
            · exact Or.inr (Or.inl ⟨fun z => absurd (z v hv) (by omega), h1, by rw [e1]⟩)
          · exact absurd c3 (by omega)
        | succ kf ih =>
          intro i vd hi hvd
          refine s_iload_n 3 C dF_judge_22 rfl ?_
          refine s_aload_n 0 C dF_judge_23 rfl ?_
          refine s_get (.ref g) 0 0 C pfP inF flF_12 dF_judge_24 rfl rfl (by decide) rfl ?_
          refine s_get (.int (nI n)) 1 0 C pfP inG flF_66 dF_judge_27 rfl rfl (by decide) rfl ?_
          refine s_icmp_geN 82 C dF_judge_30 (by decide) (by omega) (by omega) (fun c3 => ?_) (fun c3 => ?_)
          · exact absurd c3 (by omega)
          · have hgi := g5 i (by omega)
            have hdm : hdg fi se m (bm sv) i ≤ 14 := by
              have h1 : hdg fi se m (bm sv) i ≤ hsz m (bm sv) := su_le (fun j _ => by
                have a1 := Bool.toNat_le (bm sv j)
                have a2 : hin fi se j i ≤ 1 := by unfold hin; split <;> omega
                have := Nat.mul_le_mul_left (bm sv j).toNat a2
                omega)
              have h2 := hsz_le m (bm sv)
              omega
            refine s_aload_n 0 C dF_judge_33 rfl ?_
            refine s_get (.ref g) 0 0 C pfP inF flF_12 dF_judge_34 rfl rfl (by decide) rfl ?_
            refine s_iload_n 3 C dF_judge_37 rfl ?_
            refine s_iload_n 1 C dF_judge_38 rfl ?_
            refine s_callP (n := 2) [1, 2, 3] 0 [] C pfP (kG_degree E.2.1 D cA g a1 a2 a3 n m i sv fi se g3 (by omega) hs14 (fun e he => by have := (g4 e he).1; omega) (fun e he => by have := (g4 e he).2.1; omega)) gF_75 dF_judge_39 (by decide +kernel) rfl rfl rfl rfl (by decide) (by decide) rfl rfl (Nat.le_of_ble_eq_true rfl) (Nat.zero_le _) (Nat.zero_le _) (fun rd hd => ?_)
            refine s_top hd ?_
            refine s_istore [(0, .ref x), (1, .int (nI sv)), (2, .int (nI vd)), (3, .int (nI i)), (4, .int (nI (hdg fi se m (bm sv) i)))] [1, 2, 3, 4, 0] C dF_judge_42 (by decide) rfl ?_
            refine s_iload 4 C dF_judge_44 rfl ?_
            refine s_aload_n 0 C dF_judge_46 rfl ?_
            refine s_get (.ref g) 0 0 C pfP inF flF_12 dF_judge_47 rfl rfl (by decide) rfl ?_
            refine s_get (.ref a3) 1 4 C pfP inG flF_62 dF_judge_50 rfl rfl (by decide) rfl ?_
            refine s_iload_n 3 C dF_judge_53 rfl ?_
            refine s_ialdN 4 C pfP dF_judge_54 rfl (by omega) (by decide) ?_
            refine s_icmp_leN 60 C dF_judge_55 (by decide) (by omega) (by omega) (fun c4 => ?_) (fun c4 => ?_)
            · refine s_iload 4 C dF_judge_60 rfl ?_
              refine s_aload_n 0 C dF_judge_62 rfl ?_
              refine s_get (.ref g) 0 0 C pfP inF flF_12 dF_judge_63 rfl rfl (by decide) rfl ?_
              refine s_get (.ref a3) 1 4 C pfP inG flF_62 dF_judge_66 rfl rfl (by decide) rfl ?_
              refine s_iload_n 3 C dF_judge_69 rfl ?_
              refine s_ialdN 4 C pfP dF_judge_70 rfl (by omega) (by decide) ?_
              refine s_icmp_geN 76 C dF_judge_71 (by decide) (by omega) (by omega) (fun c5 => ?_) (fun c5 => ?_)
              · refine s_iinc (j := 3) (nI (i + 1)) [(0, .ref x), (1, .int (nI sv)), (2, .int (nI vd)), (3, .int (nI (i + 1))), (4, .int (nI (hdg fi se m (bm sv) i)))] [1, 2, 3, 0, 4] C dF_judge_76 rfl (inc1 _) (by decide) rfl ?_
                refine s_goto (tgt := 22) C dF_judge_79 (by decide) ?_
                refine s_lv (lv' := [(0, .ref x), (1, .int (nI sv)), (2, .int (nI vd)), (3, .int (nI (i + 1)))]) [0, 1, 2, 3] rfl ?_
                refine ih (i + 1) vd (by omega) ?_
                rcases hvd with ⟨e1, h1⟩ | ⟨e1, h1, h2⟩
                · refine Or.inl ⟨e1, fun v hv => ?_⟩
                  by_cases z : v = i
                  · subst z; omega
                  · exact h1 v (by omega)
                · obtain ⟨v, hv, h3⟩ := h2
                  refine Or.inr ⟨e1, fun v hv => ?_, v, by omega, h3⟩
                  by_cases z : v = i
                  · subst z; exact c4
                  · exact h1 v (by omega)
              · refine s_iconst (nI 1) C dF_judge_74 (by decide) ?_
                refine s_istore_n [(0, .ref x), (1, .int (nI sv)), (2, .int (nI 1)), (3, .int (nI i)), (4, .int (nI (hdg fi se m (bm sv) i)))] [1, 2, 0, 3, 4] C dF_judge_75 (by decide) rfl ?_
                refine s_iinc (j := 3) (nI (i + 1)) [(0, .ref x), (1, .int (nI sv)), (2, .int (nI 1)), (3, .int (nI (i + 1))), (4, .int (nI (hdg fi se m (bm sv) i)))] [1, 2, 3, 0, 4] C dF_judge_76 rfl (inc1 _) (by decide) rfl ?_
                refine s_goto (tgt := 22) C dF_judge_79 (by decide) ?_
                refine s_lv (lv' := [(0, .ref x), (1, .int (nI sv)), (2, .int (nI 1)), (3, .int (nI (i + 1)))]) [0, 1, 2, 3] rfl ?_
                refine ih (i + 1) 1 (by omega) (Or.inr ⟨rfl, fun v hv => ?_, i, by omega, c5⟩)
                by_cases z : v = i
                · subst z; exact c4
                · rcases hvd with ⟨e1, h1⟩ | ⟨e1, h1, h2⟩
                  · rw [h1 v (by omega)]; exact Nat.le_refl _
                  · exact h1 v (by omega)
            · refine s_iconst (nI 0) C dF_judge_58 (by decide) ?_
              exact hret _ _ _ dF_judge_59 rfl (Or.inl ⟨sv, hsm, rfl, Or.inr (Or.inr ⟨fun z => absurd (z i (by omega)) (by omega), rfl⟩)⟩)
      exact loop n 0 2 (by omega) (Or.inl ⟨rfl, fun v hv => absurd hv (by omega)⟩)
    · refine s_iconst (-1) C dF_judge_16 (by decide) ?_
      exact hret _ _ _ dF_judge_17 rfl (Or.inr ⟨fun ⟨j, hj, e⟩ => c2 (by rw [(nI_eq hs (Nat.lt_of_lt_of_le hj (Nat.le_trans (p2_le g3) (by decide)))).mp e, Nat.shiftRight_eq_div_pow, Nat.div_eq_of_lt hj]), rfl⟩)
