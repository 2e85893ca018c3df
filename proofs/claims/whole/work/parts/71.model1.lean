set_option maxHeartbeats 4000000 in
set_option maxRecDepth 100000 in
/-- is x a place below the count -/
theorem kM_isVertex (l : Launch) (D : va_G) (cA : ClassId) (y p1 p2 p3 p4 n m : Nat) (x : Int32) (hn : n < 100) (hm : m < 100) : CtP l yM_isVertex (.code yM_isVertex cM_isVertex 2 (some .boolean)) 0 D cA [.ref y, .int x] [(y, .inr (5, [.int (nI n), .int (nI m), .ref p1, .ref p2, .ref p3, .ref p4]))] (fun r => (r = nI 1 ∧ inR x n) ∨ (r = nI 0 ∧ ¬ inR x n)) := by
  refine mkP [(0, .ref y), (1, .int x)] (by decide) rfl (Nat.le_of_ble_eq_true rfl) ?_
  intro E Q hE C hret
  refine s_iload_n 1 C dM_isVertex_0 rfl ?_
  refine s_if_lt 16 C dM_isVertex_1 (by decide) (fun c1 => ?_) (fun c1 => ?_)
  · refine s_iconst (nI 0) C dM_isVertex_16 (by decide) ?_
    exact hret _ _ _ dM_isVertex_17 rfl (Or.inr ⟨rfl, inR_no1 c1 (by omega)⟩)
  · refine s_iload_n 1 C dM_isVertex_4 rfl ?_
    refine s_aload_n 0 C dM_isVertex_5 rfl ?_
    refine s_get (.int (nI n)) 0 0 C pfP inM flM_7 dM_isVertex_6 rfl rfl (by decide) rfl ?_
    refine s_icmp_ge 16 C dM_isVertex_9 (by decide) (fun c2 => ?_) (fun c2 => ?_)
    · refine s_iconst (nI 0) C dM_isVertex_16 (by decide) ?_
      exact hret _ _ _ dM_isVertex_17 rfl (Or.inr ⟨rfl, inR_no2 c2 (by omega)⟩)
    · refine s_iconst (nI 1) C dM_isVertex_12 (by decide) ?_
      refine s_goto (tgt := 17) C dM_isVertex_13 (by decide) ?_
      exact hret _ _ _ dM_isVertex_17 rfl (Or.inl ⟨rfl, inR_yes c1 c2 (by omega)⟩)
set_option maxHeartbeats 4000000 in
set_option maxRecDepth 100000 in
/-- is x a place below the count -/
theorem kM_isEdge (l : Launch) (D : va_G) (cA : ClassId) (y p1 p2 p3 p4 n m : Nat) (x : Int32) (hn : n < 100) (hm : m < 100) : CtP l yM_isEdge (.code yM_isEdge cM_isEdge 2 (some .boolean)) 0 D cA [.ref y, .int x] [(y, .inr (5, [.int (nI n), .int (nI m), .ref p1, .ref p2, .ref p3, .ref p4]))] (fun r => (r = nI 1 ∧ inR x m) ∨ (r = nI 0 ∧ ¬ inR x m)) := by
  refine mkP [(0, .ref y), (1, .int x)] (by decide) rfl (Nat.le_of_ble_eq_true rfl) ?_
  intro E Q hE C hret
  refine s_iload_n 1 C dM_isEdge_0 rfl ?_
  refine s_if_lt 16 C dM_isEdge_1 (by decide) (fun c1 => ?_) (fun c1 => ?_)
  · refine s_iconst (nI 0) C dM_isEdge_16 (by decide) ?_
    exact hret _ _ _ dM_isEdge_17 rfl (Or.inr ⟨rfl, inR_no1 c1 (by omega)⟩)
  · refine s_iload_n 1 C dM_isEdge_4 rfl ?_
    refine s_aload_n 0 C dM_isEdge_5 rfl ?_
    refine s_get (.int (nI m)) 0 1 C pfP inM flM_26 dM_isEdge_6 rfl rfl (by decide) rfl ?_
    refine s_icmp_ge 16 C dM_isEdge_9 (by decide) (fun c2 => ?_) (fun c2 => ?_)
    · refine s_iconst (nI 0) C dM_isEdge_16 (by decide) ?_
      exact hret _ _ _ dM_isEdge_17 rfl (Or.inr ⟨rfl, inR_no2 c2 (by omega)⟩)
    · refine s_iconst (nI 1) C dM_isEdge_12 (by decide) ?_
      refine s_goto (tgt := 17) C dM_isEdge_13 (by decide) ?_
      exact hret _ _ _ dM_isEdge_17 rfl (Or.inl ⟨rfl, inR_yes c1 c2 (by omega)⟩)
set_option maxHeartbeats 4000000 in
set_option maxRecDepth 100000 in
/-- begin -/
theorem kM_begin (l : Launch) (D : va_G) (cA : ClassId) (y p1 p2 p3 p4 : Nat) (n m : Nat) (fi se wa : Nat → Nat) (t : Int32) : CtI (S := GrT) l yM_begin (.code yM_begin cM_begin 3 (some .boolean)) 1 0 0 D cA [.ref y, .int t] [(y, .inr (5, [.int (nI n), .int (nI m), .ref p1, .ref p2, .ref p3, .ref p4])), (p1, .inl (cA, 14, .inl (aN fi))), (p2, .inl (cA, 14, .inl (aN se))), (p3, .inl (cA, 9, .inl (aN wa)))] (fun r u => begP t r (n, m, fi, se, wa) u) (fun u => [(y, .inr (5, [.int (nI u.1), .int (nI u.2.1), .ref p1, .ref p2, .ref p3, .ref p4])), (p1, .inl (cA, 14, .inl (aN u.2.2.1))), (p2, .inl (cA, 14, .inl (aN u.2.2.2.1))), (p3, .inl (cA, 9, .inl (aN u.2.2.2.2)))]) := by
  refine mkI [(0, .ref y), (1, .int t)] (by decide) rfl (Nat.le_of_ble_eq_true rfl) ?_
  intro E A Q hE C hA hret
  refine s_iload_n 1 C dM_begin_0 rfl ?_
  refine s_iconst (nI 1) C dM_begin_1 (by decide) ?_
  refine s_icmp_lt 11 C dM_begin_2 (by decide) (fun c1 => ?_) (fun c1 => ?_)
  · refine s_iconst (nI 0) C dM_begin_11 (by decide) ?_
    exact hret _ (n, m, fi, se, wa) _ _ dM_begin_12 rfl (Or.inr ⟨rng_no1 (by decide) (by decide) c1, rfl, rfl⟩)
  · refine s_iload_n 1 C dM_begin_5 rfl ?_
    refine s_bipush (nI 9) C dM_begin_6 (by decide) ?_
    refine s_icmp_le 13 C dM_begin_8 (by decide) (fun c2 => ?_) (fun c2 => ?_)
    · obtain ⟨kk, h1, h2, rfl⟩ := rng_yes (by decide) (by decide) c1 c2
      refine s_aload_n 0 C dM_begin_13 rfl ?_
      refine s_iload_n 1 C dM_begin_14 rfl ?_
      refine s_put 0 0 [(y, .inr (5, [.int (nI kk), .int (nI m), .ref p1, .ref p2, .ref p3, .ref p4])), (p1, .inl (cA, 14, .inl (aN fi))), (p2, .inl (cA, 14, .inl (aN se))), (p3, .inl (cA, 9, .inl (aN wa)))] C inM tyM_ok nmM flM_7 dM_begin_15 rfl rfl (by decide) rfl rfl rfl (Nat.le_of_ble_eq_true rfl) rfl ?_
      refine s_aload_n 0 C dM_begin_18 rfl ?_
      refine s_iconst (nI 0) C dM_begin_19 (by decide) ?_
      refine s_put 0 1 [(y, .inr (5, [.int (nI kk), .int (nI 0), .ref p1, .ref p2, .ref p3, .ref p4])), (p1, .inl (cA, 14, .inl (aN fi))), (p2, .inl (cA, 14, .inl (aN se))), (p3, .inl (cA, 9, .inl (aN wa)))] C inM tyM_ok nmM flM_26 dM_begin_20 rfl rfl (by decide) rfl rfl rfl (Nat.le_of_ble_eq_true rfl) rfl ?_
      refine s_iconst (nI 0) C dM_begin_23 (by decide) ?_
      refine s_istore_n [(0, .ref y), (1, .int (nI kk)), (2, .int (nI 0))] [1, 2, 0] C dM_begin_24 (by decide) rfl ?_
      have loop : ∀ k i, i + k = 9 → ST E 3 Q 0 0 (wf E A D [(y, .inr (5, [.int (nI kk), .int (nI 0), .ref p1, .ref p2, .ref p3, .ref p4])), (p1, .inl (cA, 14, .inl (aN fi))), (p2, .inl (cA, 14, .inl (aN se))), (p3, .inl (cA, 9, .inl (aN (fun j => if j < i then 0 else wa j))))]) [(0, .ref y), (1, .int (nI kk)), (2, .int (nI i))] [] 25 := by
        intro k
        induction k with
        | zero =>
          intro i hi
          refine s_iload_n 2 C dM_begin_25 rfl ?_
          refine s_bipush (nI 9) C dM_begin_26 (by decide) ?_
          refine s_icmp_geN 44 C dM_begin_28 (by decide) (by omega) (by omega) (fun c3 => ?_) (fun c3 => ?_)
          · have e : i = 9 := by omega
            subst e
            refine s_arr (aN (fun _ => 0)) 3 [(y, .inr (5, [.int (nI kk), .int (nI 0), .ref p1, .ref p2, .ref p3, .ref p4])), (p1, .inl (cA, 14, .inl (aN fi))), (p2, .inl (cA, 14, .inl (aN se))), (p3, .inl (cA, 9, .inl (aN (fun _ => 0))))] rfl (fun j hj => ?_) rfl ?_
            · show nI (if j < 9 then 0 else wa j) = nI 0
              rw [if_pos hj]
            refine s_iconst (nI 1) C dM_begin_44 (by decide) ?_
            exact hret _ (kk, 0, fi, se, fun _ => 0) _ _ dM_begin_45 rfl (Or.inl ⟨kk, h1, h2, rfl, rfl, rfl⟩)
          · exact absurd c3 (by omega)
        | succ k ih =>
          intro i hi
          refine s_iload_n 2 C dM_begin_25 rfl ?_
          refine s_bipush (nI 9) C dM_begin_26 (by decide) ?_
          refine s_icmp_geN 44 C dM_begin_28 (by decide) (by omega) (by omega) (fun c3 => ?_) (fun c3 => ?_)
          · exact absurd c3 (by omega)
          · refine s_aload_n 0 C dM_begin_31 rfl ?_
            refine s_get (.ref p3) 0 4 C wfP inM flM_20 dM_begin_32 rfl rfl (by decide) rfl ?_
            refine s_iload_n 2 C dM_begin_35 rfl ?_
            refine s_iconst (nI 0) C dM_begin_36 (by decide) ?_
            refine s_iastN 3 [(y, .inr (5, [.int (nI kk), .int (nI 0), .ref p1, .ref p2, .ref p3, .ref p4])), (p1, .inl (cA, 14, .inl (aN fi))), (p2, .inl (cA, 14, .inl (aN se))), (p3, .inl (cA, 9, .inl (aN (nup (fun j => if j < i then 0 else wa j) i 0))))] C dM_begin_37 rfl (by omega) (by decide) rfl ?_
            refine s_iinc (j := 2) (nI (i + 1)) [(0, .ref y), (1, .int (nI kk)), (2, .int (nI (i + 1)))] [1, 2, 0] C dM_begin_38 rfl (inc1 _) (by decide) rfl ?_
            refine s_goto (tgt := 25) C dM_begin_41 (by decide) ?_
            rw [lt_up (fun _ => 0) wa i]
            exact ih (i + 1) (by omega)
      have e0 : wa = (fun j => if j < 0 then 0 else wa j) := by
        funext j
        rw [if_neg (by omega)]
      have h0 := loop 9 0 (by omega)
      rw [← e0] at h0
      exact h0
    · refine s_iconst (nI 0) C dM_begin_11 (by decide) ?_
      exact hret _ (n, m, fi, se, wa) _ _ dM_begin_12 rfl (Or.inr ⟨rng_no2 (by decide) c2, rfl, rfl⟩)
set_option maxHeartbeats 4000000 in
set_option maxRecDepth 100000 in
/-- edge -/
theorem kM_edge (l : Launch) (D : va_G) (cA : ClassId) (y p1 p2 p3 p4 : Nat) (n m : Nat) (fi se wa : Nat → Nat) (hG : GOK n m fi se wa) (p q : Int32) : CtI (S := GrT) l yM_edge (.code yM_edge cM_edge 3 (some .int)) 1 0 0 D cA [.ref y, .int p, .int q] [(y, .inr (5, [.int (nI n), .int (nI m), .ref p1, .ref p2, .ref p3, .ref p4])), (p1, .inl (cA, 14, .inl (aN fi))), (p2, .inl (cA, 14, .inl (aN se))), (p3, .inl (cA, 9, .inl (aN wa)))] (fun r u => edgP p q r (n, m, fi, se, wa) u) (fun u => [(y, .inr (5, [.int (nI u.1), .int (nI u.2.1), .ref p1, .ref p2, .ref p3, .ref p4])), (p1, .inl (cA, 14, .inl (aN u.2.2.1))), (p2, .inl (cA, 14, .inl (aN u.2.2.2.1))), (p3, .inl (cA, 9, .inl (aN u.2.2.2.2)))]) := by
  refine mkI [(0, .ref y), (1, .int p), (2, .int q)] (by decide) rfl (Nat.le_of_ble_eq_true rfl) ?_
  intro E A Q hE C hA hret
  obtain ⟨g1, g2, g3, g4, g5, g6⟩ := hG
  refine s_aload_n 0 C dM_edge_0 rfl ?_
  refine s_get (.int (nI m)) 0 1 C wfP inM flM_26 dM_edge_1 rfl rfl (by decide) rfl ?_
  refine s_bipush (nI 14) C dM_edge_4 (by decide) ?_
  refine s_icmp_eqN 30 C dM_edge_6 (by decide) (by omega) (by omega) (fun c1 => ?_) (fun c1 => ?_)
  · refine s_iconst (-1) C dM_edge_30 (by decide) ?_
    exact hret _ (n, m, fi, se, wa) _ _ dM_edge_31 rfl (Or.inr ⟨fun z => absurd z.1 (by show ¬ m < 14; omega), rfl, rfl⟩)
  · refine s_aload_n 0 C dM_edge_9 rfl ?_
    refine s_iload_n 1 C dM_edge_10 rfl ?_
    refine s_callP (n := 1) [0] 0 [] C wfP (kM_isVertex E.2.1 D cA y p1 p2 p3 p4 n m p (by omega) (by omega)) gM_29 dM_edge_11 (by decide +kernel) rfl rfl rfl rfl (by decide) (by decide) rfl rfl (Nat.le_of_ble_eq_true rfl) (Nat.zero_le _) (Nat.zero_le _) (fun rhv hv => ?_)
    rcases hv with ⟨er, hin⟩ | ⟨er, hin⟩
    · refine s_top er ?_
      refine s_if_eqN 30 C dM_edge_14 (by decide) (by decide) (fun c2 => ?_) (fun c2 => ?_)
      · exact absurd c2 (by decide)
      · have hp1 := hin
        refine s_aload_n 0 C dM_edge_17 rfl ?_
        refine s_iload_n 2 C dM_edge_18 rfl ?_
        refine s_callP (n := 1) [0] 0 [] C wfP (kM_isVertex E.2.1 D cA y p1 p2 p3 p4 n m q (by omega) (by omega)) gM_29 dM_edge_19 (by decide +kernel) rfl rfl rfl rfl (by decide) (by decide) rfl rfl (Nat.le_of_ble_eq_true rfl) (Nat.zero_le _) (Nat.zero_le _) (fun rhv2 hv2 => ?_)
        rcases hv2 with ⟨er, hin2⟩ | ⟨er, hin2⟩
        · refine s_top er ?_
          refine s_if_eqN 30 C dM_edge_22 (by decide) (by decide) (fun c3 => ?_) (fun c3 => ?_)
          · exact absurd c3 (by decide)
          · refine s_iload_n 1 C dM_edge_25 rfl ?_
            refine s_iload_n 2 C dM_edge_26 rfl ?_
            refine s_icmp_ne 32 C dM_edge_27 (by decide) (fun c4 => ?_) (fun c4 => ?_)
            · obtain ⟨i, hi, rfl⟩ := hp1
              obtain ⟨j, hj, rfl⟩ := hin2
              have hij : i ≠ j := fun z => c4 (by rw [z])
              refine s_aload_n 0 C dM_edge_32 rfl ?_
              refine s_get (.ref p1) 0 2 C wfP inM flM_13 dM_edge_33 rfl rfl (by decide) rfl ?_
              refine s_aload_n 0 C dM_edge_36 rfl ?_
              refine s_get (.int (nI m)) 0 1 C wfP inM flM_26 dM_edge_37 rfl rfl (by decide) rfl ?_
              refine s_iload_n 1 C dM_edge_40 rfl ?_
              refine s_iastN 1 [(y, .inr (5, [.int (nI n), .int (nI m), .ref p1, .ref p2, .ref p3, .ref p4])), (p1, .inl (cA, 14, .inl (aN (nup fi m i)))), (p2, .inl (cA, 14, .inl (aN se))), (p3, .inl (cA, 9, .inl (aN wa)))] C dM_edge_41 rfl (by omega) (by decide) rfl ?_
              refine s_aload_n 0 C dM_edge_42 rfl ?_
              refine s_get (.ref p2) 0 3 C wfP inM flM_17 dM_edge_43 rfl rfl (by decide) rfl ?_
              refine s_aload_n 0 C dM_edge_46 rfl ?_
              refine s_get (.int (nI m)) 0 1 C wfP inM flM_26 dM_edge_47 rfl rfl (by decide) rfl ?_
              refine s_iload_n 2 C dM_edge_50 rfl ?_
              refine s_iastN 2 [(y, .inr (5, [.int (nI n), .int (nI m), .ref p1, .ref p2, .ref p3, .ref p4])), (p1, .inl (cA, 14, .inl (aN (nup fi m i)))), (p2, .inl (cA, 14, .inl (aN (nup se m j)))), (p3, .inl (cA, 9, .inl (aN wa)))] C dM_edge_51 rfl (by omega) (by decide) rfl ?_
              refine s_aload_n 0 C dM_edge_52 rfl ?_
              refine s_dup C dM_edge_53 rfl ?_
              refine s_get (.int (nI m)) 0 1 C wfP inM flM_26 dM_edge_54 rfl rfl (by decide) rfl ?_
              refine s_iconst (nI 1) C dM_edge_57 (by decide) ?_
              refine s_iaddN C dM_edge_58 ?_
              refine s_put 0 1 [(y, .inr (5, [.int (nI n), .int (nI (m + 1)), .ref p1, .ref p2, .ref p3, .ref p4])), (p1, .inl (cA, 14, .inl (aN (nup fi m i)))), (p2, .inl (cA, 14, .inl (aN (nup se m j)))), (p3, .inl (cA, 9, .inl (aN wa)))] C inM tyM_ok nmM flM_26 dM_edge_59 rfl rfl (by decide) rfl rfl rfl (Nat.le_of_ble_eq_true rfl) rfl ?_
              refine s_aload_n 0 C dM_edge_62 rfl ?_
              refine s_get (.int (nI (m + 1))) 0 1 C wfP inM flM_26 dM_edge_63 rfl rfl (by decide) rfl ?_
              refine s_iconst (nI 1) C dM_edge_66 (by decide) ?_
              refine s_isubN C dM_edge_67 (by omega) ?_
              exact hret _ (n, m + 1, nup fi m i, nup se m j, wa) _ _ dM_edge_68 rfl (Or.inl ⟨i, j, hi, hj, hij, by show m < 14; omega, rfl, rfl, by rw [Nat.add_sub_cancel], rfl⟩)
            · refine s_iconst (-1) C dM_edge_30 (by decide) ?_
              exact hret _ (n, m, fi, se, wa) _ _ dM_edge_31 rfl (Or.inr ⟨fun z => z.2.2.2 c4, rfl, rfl⟩)
        · refine s_top er ?_
          refine s_if_eqN 30 C dM_edge_22 (by decide) (by decide) (fun c3 => ?_) (fun c3 => ?_)
          · refine s_iconst (-1) C dM_edge_30 (by decide) ?_
            exact hret _ (n, m, fi, se, wa) _ _ dM_edge_31 rfl (Or.inr ⟨fun z => hin2 z.2.2.1, rfl, rfl⟩)
          · exact absurd rfl c3
    · refine s_top er ?_
      refine s_if_eqN 30 C dM_edge_14 (by decide) (by decide) (fun c2 => ?_) (fun c2 => ?_)
      · refine s_iconst (-1) C dM_edge_30 (by decide) ?_
        exact hret _ (n, m, fi, se, wa) _ _ dM_edge_31 rfl (Or.inr ⟨fun z => hin z.2.1, rfl, rfl⟩)
      · exact absurd rfl c2
set_option maxHeartbeats 4000000 in
set_option maxRecDepth 100000 in
/-- drop -/
theorem kM_drop (l : Launch) (D : va_G) (cA : ClassId) (y p1 p2 p3 p4 : Nat) (n m : Nat) (fi se wa : Nat → Nat) (hG : GOK n m fi se wa) (p : Int32) : CtI (S := GrT) l yM_drop (.code yM_drop cM_drop 3 (some .boolean)) 1 0 0 D cA [.ref y, .int p] [(y, .inr (5, [.int (nI n), .int (nI m), .ref p1, .ref p2, .ref p3, .ref p4])), (p1, .inl (cA, 14, .inl (aN fi))), (p2, .inl (cA, 14, .inl (aN se))), (p3, .inl (cA, 9, .inl (aN wa)))] (fun r u => drpP p r (n, m, fi, se, wa) u) (fun u => [(y, .inr (5, [.int (nI u.1), .int (nI u.2.1), .ref p1, .ref p2, .ref p3, .ref p4])), (p1, .inl (cA, 14, .inl (aN u.2.2.1))), (p2, .inl (cA, 14, .inl (aN u.2.2.2.1))), (p3, .inl (cA, 9, .inl (aN u.2.2.2.2)))]) := by
  refine mkI [(0, .ref y), (1, .int p)] (by decide) rfl (Nat.le_of_ble_eq_true rfl) ?_
  intro E A Q hE C hA hret
  obtain ⟨g1, g2, g3, g4, g5, g6⟩ := hG
  refine s_aload_n 0 C dM_drop_0 rfl ?_
  refine s_iload_n 1 C dM_drop_1 rfl ?_
  refine s_callP (n := 1) [0] 0 [] C wfP (kM_isEdge E.2.1 D cA y p1 p2 p3 p4 n m p (by omega) (by omega)) gM_33 dM_drop_2 (by decide +kernel) rfl rfl rfl rfl (by decide) (by decide) rfl rfl (Nat.le_of_ble_eq_true rfl) (Nat.zero_le _) (Nat.zero_le _) (fun rhv hv => ?_)
  rcases hv with ⟨er, hin⟩ | ⟨er, hin⟩
  · refine s_top er ?_
    refine s_if_neN 10 C dM_drop_5 (by decide) (by decide) (fun c2 => ?_) (fun c2 => ?_)
    · obtain ⟨t, ht, rfl⟩ := hin
      refine s_aload_n 0 C dM_drop_10 rfl ?_
      refine s_dup C dM_drop_11 rfl ?_
      refine s_get (.int (nI m)) 0 1 C wfP inM flM_26 dM_drop_12 rfl rfl (by decide) rfl ?_
      refine s_iconst (nI 1) C dM_drop_15 (by decide) ?_
      refine s_isubN C dM_drop_16 (by omega) ?_
      refine s_put 0 1 [(y, .inr (5, [.int (nI n), .int (nI (m - 1)), .ref p1, .ref p2, .ref p3, .ref p4])), (p1, .inl (cA, 14, .inl (aN fi))), (p2, .inl (cA, 14, .inl (aN se))), (p3, .inl (cA, 9, .inl (aN wa)))] C inM tyM_ok nmM flM_26 dM_drop_17 rfl rfl (by decide) rfl rfl rfl (Nat.le_of_ble_eq_true rfl) rfl ?_
      refine s_iload_n 1 C dM_drop_20 rfl ?_
      refine s_istore_n [(0, .ref y), (1, .int (nI t)), (2, .int (nI t))] [1, 2, 0] C dM_drop_21 (by decide) rfl ?_
      have loop : ∀ k i, i + k = m - 1 → t ≤ i → ST E 3 Q 0 0 (wf E A D [(y, .inr (5, [.int (nI n), .int (nI (m - 1)), .ref p1, .ref p2, .ref p3, .ref p4])), (p1, .inl (cA, 14, .inl (aN (fun j => if t ≤ j ∧ j < i then fi (j + 1) else fi j)))), (p2, .inl (cA, 14, .inl (aN (fun j => if t ≤ j ∧ j < i then se (j + 1) else se j)))), (p3, .inl (cA, 9, .inl (aN wa)))]) [(0, .ref y), (1, .int (nI t)), (2, .int (nI i))] [] 22 := by
        intro k
        induction k with
        | zero =>
          intro i hi hti
          refine s_iload_n 2 C dM_drop_22 rfl ?_
          refine s_aload_n 0 C dM_drop_23 rfl ?_
          refine s_get (.int (nI (m - 1))) 0 1 C wfP inM flM_26 dM_drop_24 rfl rfl (by decide) rfl ?_
          refine s_icmp_geN 64 C dM_drop_27 (by decide) (by omega) (by omega) (fun c3 => ?_) (fun c3 => ?_)
          · refine s_iconst (nI 1) C dM_drop_64 (by decide) ?_
            have e : i = m - 1 := by omega
            subst e
            exact hret _ (n, m - 1, rmF fi t m, rmF se t m, wa) _ _ dM_drop_65 rfl (Or.inl ⟨t, ht, rfl, rfl, rfl⟩)
          · exact absurd c3 (by omega)
        | succ k ih =>
          intro i hi hti
          refine s_iload_n 2 C dM_drop_22 rfl ?_
          refine s_aload_n 0 C dM_drop_23 rfl ?_
          refine s_get (.int (nI (m - 1))) 0 1 C wfP inM flM_26 dM_drop_24 rfl rfl (by decide) rfl ?_
          refine s_icmp_geN 64 C dM_drop_27 (by decide) (by omega) (by omega) (fun c3 => ?_) (fun c3 => ?_)
          · exact absurd c3 (by omega)
          · refine s_aload_n 0 C dM_drop_30 rfl ?_
            refine s_get (.ref p1) 0 2 C wfP inM flM_13 dM_drop_31 rfl rfl (by decide) rfl ?_
            refine s_iload_n 2 C dM_drop_34 rfl ?_
            refine s_aload_n 0 C dM_drop_35 rfl ?_
            refine s_get (.ref p1) 0 2 C wfP inM flM_13 dM_drop_36 rfl rfl (by decide) rfl ?_
            refine s_iload_n 2 C dM_drop_39 rfl ?_
            refine s_iconst (nI 1) C dM_drop_40 (by decide) ?_
            refine s_iaddN C dM_drop_41 ?_
            refine s_ialdN 1 C wfP dM_drop_42 rfl (by omega) (by decide) ?_
            refine s_top (congrArg nI (if_neg (by omega) : (if t ≤ i + 1 ∧ i + 1 < i then fi (i + 1 + 1) else fi (i + 1)) = fi (i + 1))) ?_
            refine s_iastN 1 [(y, .inr (5, [.int (nI n), .int (nI (m - 1)), .ref p1, .ref p2, .ref p3, .ref p4])), (p1, .inl (cA, 14, .inl (aN (nup (fun j => if t ≤ j ∧ j < i then fi (j + 1) else fi j) i (fi (i + 1)))))), (p2, .inl (cA, 14, .inl (aN (fun j => if t ≤ j ∧ j < i then se (j + 1) else se j)))), (p3, .inl (cA, 9, .inl (aN wa)))] C dM_drop_43 rfl (by omega) (by decide) rfl ?_
            refine s_aload_n 0 C dM_drop_44 rfl ?_
            refine s_get (.ref p2) 0 3 C wfP inM flM_17 dM_drop_45 rfl rfl (by decide) rfl ?_
            refine s_iload_n 2 C dM_drop_48 rfl ?_
            refine s_aload_n 0 C dM_drop_49 rfl ?_
            refine s_get (.ref p2) 0 3 C wfP inM flM_17 dM_drop_50 rfl rfl (by decide) rfl ?_
            refine s_iload_n 2 C dM_drop_53 rfl ?_
            refine s_iconst (nI 1) C dM_drop_54 (by decide) ?_
            refine s_iaddN C dM_drop_55 ?_
            refine s_ialdN 2 C wfP dM_drop_56 rfl (by omega) (by decide) ?_
            refine s_top (congrArg nI (if_neg (by omega) : (if t ≤ i + 1 ∧ i + 1 < i then se (i + 1 + 1) else se (i + 1)) = se (i + 1))) ?_
            refine s_iastN 2 [(y, .inr (5, [.int (nI n), .int (nI (m - 1)), .ref p1, .ref p2, .ref p3, .ref p4])), (p1, .inl (cA, 14, .inl (aN (nup (fun j => if t ≤ j ∧ j < i then fi (j + 1) else fi j) i (fi (i + 1)))))), (p2, .inl (cA, 14, .inl (aN (nup (fun j => if t ≤ j ∧ j < i then se (j + 1) else se j) i (se (i + 1)))))), (p3, .inl (cA, 9, .inl (aN wa)))] C dM_drop_57 rfl (by omega) (by decide) rfl ?_
            refine s_iinc (j := 2) (nI (i + 1)) [(0, .ref y), (1, .int (nI t)), (2, .int (nI (i + 1)))] [1, 2, 0] C dM_drop_58 rfl (inc1 _) (by decide) rfl ?_
            refine s_goto (tgt := 22) C dM_drop_61 (by decide) ?_
            rw [lt_rm fi t i hti, lt_rm se t i hti]
            exact ih (i + 1) (by omega) (by omega)
      have e0 : ∀ f : Nat → Nat, f = (fun j => if t ≤ j ∧ j < t then f (j + 1) else f j) := by
        intro f
        funext j
        rw [if_neg (by omega)]
      have h0 := loop (m - 1 - t) t (by omega) (Nat.le_refl _)
      rw [← e0 fi, ← e0 se] at h0
      exact h0
    · exact absurd c2 (by decide)
  · refine s_top er ?_
    refine s_if_neN 10 C dM_drop_5 (by decide) (by decide) (fun c2 => ?_) (fun c2 => ?_)
    · exact absurd rfl c2
    · refine s_iconst (nI 0) C dM_drop_8 (by decide) ?_
      exact hret _ (n, m, fi, se, wa) _ _ dM_drop_9 rfl (Or.inr ⟨hin, rfl, rfl⟩)
set_option maxHeartbeats 4000000 in
set_option maxRecDepth 100000 in
/-- ask -/
theorem kM_ask (l : Launch) (D : va_G) (cA : ClassId) (y p1 p2 p3 p4 : Nat) (n m : Nat) (fi se wa : Nat → Nat) (hG : GOK n m fi se wa) (p q : Int32) : CtI (S := GrT) l yM_ask (.code yM_ask cM_ask 3 (some .boolean)) 1 0 0 D cA [.ref y, .int p, .int q] [(y, .inr (5, [.int (nI n), .int (nI m), .ref p1, .ref p2, .ref p3, .ref p4])), (p1, .inl (cA, 14, .inl (aN fi))), (p2, .inl (cA, 14, .inl (aN se))), (p3, .inl (cA, 9, .inl (aN wa)))] (fun r u => askP p q r (n, m, fi, se, wa) u) (fun u => [(y, .inr (5, [.int (nI u.1), .int (nI u.2.1), .ref p1, .ref p2, .ref p3, .ref p4])), (p1, .inl (cA, 14, .inl (aN u.2.2.1))), (p2, .inl (cA, 14, .inl (aN u.2.2.2.1))), (p3, .inl (cA, 9, .inl (aN u.2.2.2.2)))]) := by
  refine mkI [(0, .ref y), (1, .int p), (2, .int q)] (by decide) rfl (Nat.le_of_ble_eq_true rfl) ?_
  intro E A Q hE C hA hret
  obtain ⟨g1, g2, g3, g4, g5, g6⟩ := hG
  refine s_aload_n 0 C dM_ask_0 rfl ?_
  refine s_iload_n 1 C dM_ask_1 rfl ?_
  refine s_callP (n := 1) [0] 0 [] C wfP (kM_isVertex E.2.1 D cA y p1 p2 p3 p4 n m p (by omega) (by omega)) gM_29 dM_ask_2 (by decide +kernel) rfl rfl rfl rfl (by decide) (by decide) rfl rfl (Nat.le_of_ble_eq_true rfl) (Nat.zero_le _) (Nat.zero_le _) (fun rhv hv => ?_)
  rcases hv with ⟨er, hin⟩ | ⟨er, hin⟩
  · refine s_top er ?_
    refine s_if_eqN 18 C dM_ask_5 (by decide) (by decide) (fun c2 => ?_) (fun c2 => ?_)
    · exact absurd c2 (by decide)
    · refine s_iload_n 2 C dM_ask_8 rfl ?_
      refine s_if_lt 18 C dM_ask_9 (by decide) (fun c3 => ?_) (fun c3 => ?_)
      · refine s_iconst (nI 0) C dM_ask_18 (by decide) ?_
        exact hret _ (n, m, fi, se, wa) _ _ dM_ask_19 rfl (Or.inr ⟨fun z => inR_no1 c3 (by decide) z.2, rfl, rfl⟩)
      · refine s_iload_n 2 C dM_ask_12 rfl ?_
        refine s_bipush (nI 14) C dM_ask_13 (by decide) ?_
        refine s_icmp_le 20 C dM_ask_15 (by decide) (fun c4 => ?_) (fun c4 => ?_)
        · obtain ⟨i, hi, rfl⟩ := hin
          obtain ⟨j, hj1, hj, rfl⟩ := rng_yes (a := 0) (by decide) (by decide) (by rw [nI_0]; exact c3) c4
          refine s_aload_n 0 C dM_ask_20 rfl ?_
          refine s_get (.ref p3) 0 4 C wfP inM flM_20 dM_ask_21 rfl rfl (by decide) rfl ?_
          refine s_iload_n 1 C dM_ask_24 rfl ?_
          refine s_iload_n 2 C dM_ask_25 rfl ?_
          refine s_iastN 3 [(y, .inr (5, [.int (nI n), .int (nI m), .ref p1, .ref p2, .ref p3, .ref p4])), (p1, .inl (cA, 14, .inl (aN fi))), (p2, .inl (cA, 14, .inl (aN se))), (p3, .inl (cA, 9, .inl (aN (nup wa i j))))] C dM_ask_26 rfl (by omega) (by decide) rfl ?_
          refine s_iconst (nI 1) C dM_ask_27 (by decide) ?_
          exact hret _ (n, m, fi, se, nup wa i j) _ _ dM_ask_28 rfl (Or.inl ⟨i, j, hi, hj, rfl, rfl, rfl, rfl⟩)
        · refine s_iconst (nI 0) C dM_ask_18 (by decide) ?_
          exact hret _ (n, m, fi, se, wa) _ _ dM_ask_19 rfl (Or.inr ⟨fun ⟨_, j, hj, e⟩ => c4 (by rw [e]; exact nI_le (by omega) (by decide)), rfl, rfl⟩)
  · refine s_top er ?_
    refine s_if_eqN 18 C dM_ask_5 (by decide) (by decide) (fun c2 => ?_) (fun c2 => ?_)
    · refine s_iconst (nI 0) C dM_ask_18 (by decide) ?_
      exact hret _ (n, m, fi, se, wa) _ _ dM_ask_19 rfl (Or.inr ⟨fun z => hin z.1, rfl, rfl⟩)
    · exact absurd rfl c2
set_option maxHeartbeats 4000000 in
set_option maxRecDepth 100000 in
/-- vertices -/
theorem kM_vertices (l : Launch) (D : va_G) (cA : ClassId) (y p1 p2 p3 p4 : Nat) (n m : Nat) (fi se wa : Nat → Nat) (hG : GOK n m fi se wa)  : CtP l yM_vertices (.code yM_vertices cM_vertices 1 (some .int)) 0 D cA [.ref y] [(y, .inr (5, [.int (nI n), .int (nI m), .ref p1, .ref p2, .ref p3, .ref p4]))] (fun r => r = nI n) := by
  refine mkP [(0, .ref y)] (by decide) rfl (Nat.le_of_ble_eq_true rfl) ?_
  intro E Q hE C hret
  refine s_aload_n 0 C dM_vertices_0 rfl ?_
  refine s_get (.int (nI n)) 0 0 C pfP inM flM_7 dM_vertices_1 rfl rfl (by decide) rfl ?_
  exact hret _ _ _ dM_vertices_4 rfl rfl
set_option maxHeartbeats 4000000 in
set_option maxRecDepth 100000 in
/-- edges -/
theorem kM_edges (l : Launch) (D : va_G) (cA : ClassId) (y p1 p2 p3 p4 : Nat) (n m : Nat) (fi se wa : Nat → Nat) (hG : GOK n m fi se wa)  : CtP l yM_edges (.code yM_edges cM_edges 1 (some .int)) 0 D cA [.ref y] [(y, .inr (5, [.int (nI n), .int (nI m), .ref p1, .ref p2, .ref p3, .ref p4]))] (fun r => r = nI m) := by
  refine mkP [(0, .ref y)] (by decide) rfl (Nat.le_of_ble_eq_true rfl) ?_
  intro E Q hE C hret
  refine s_aload_n 0 C dM_edges_0 rfl ?_
  refine s_get (.int (nI m)) 0 1 C pfP inM flM_26 dM_edges_1 rfl rfl (by decide) rfl ?_
  exact hret _ _ _ dM_edges_4 rfl rfl
set_option maxHeartbeats 4000000 in
set_option maxRecDepth 100000 in
/-- end -/
theorem kM_end (l : Launch) (D : va_G) (cA : ClassId) (y p1 p2 p3 p4 : Nat) (n m : Nat) (fi se wa : Nat → Nat) (hG : GOK n m fi se wa) (p q : Int32) : CtP l yM_end (.code yM_end cM_end 3 (some .int)) 1 D cA [.ref y, .int p, .int q] [(y, .inr (5, [.int (nI n), .int (nI m), .ref p1, .ref p2, .ref p3, .ref p4])), (p1, .inl (cA, 14, .inl (aN fi))), (p2, .inl (cA, 14, .inl (aN se)))] (fun r => endP p q r m fi se) := by
  refine mkP [(0, .ref y), (1, .int p), (2, .int q)] (by decide) rfl (Nat.le_of_ble_eq_true rfl) ?_
  intro E Q hE C hret
  obtain ⟨g1, g2, g3, g4, g5, g6⟩ := hG
  refine s_aload_n 0 C dM_end_0 rfl ?_
  refine s_iload_n 1 C dM_end_1 rfl ?_
  refine s_callP (n := 1) [0] 0 [] C pfP (kM_isEdge E.2.1 D cA y p1 p2 p3 p4 n m p (by omega) (by omega)) gM_33 dM_end_2 (by decide +kernel) rfl rfl rfl rfl (by decide) (by decide) rfl rfl (Nat.le_of_ble_eq_true rfl) (Nat.zero_le _) (Nat.zero_le _) (fun rhv hv => ?_)
  rcases hv with ⟨er, hin⟩ | ⟨er, hin⟩
  · refine s_top er ?_
    refine s_if_eqN 17 C dM_end_5 (by decide) (by decide) (fun c1 => ?_) (fun c1 => ?_)
    · exact absurd c1 (by decide)
    · refine s_iload_n 2 C dM_end_8 rfl ?_
      refine s_if_lt 17 C dM_end_9 (by decide) (fun c2 => ?_) (fun c2 => ?_)
      · refine s_iconst (-1) C dM_end_17 (by decide) ?_
        refine s_goto (tgt := 40) C dM_end_18 (by decide) ?_
        exact hret _ _ _ dM_end_40 rfl (Or.inr ⟨fun z => inR_no1 c2 (by decide) z.2, rfl⟩)
      · refine s_iload_n 2 C dM_end_12 rfl ?_
        refine s_iconst (nI 1) C dM_end_13 (by decide) ?_
        refine s_icmp_le 21 C dM_end_14 (by decide) (fun c3 => ?_) (fun c3 => ?_)
        · obtain ⟨i, hi, rfl⟩ := hin
          obtain ⟨j, hj1, hj, rfl⟩ := rng_yes (a := 0) (by decide) (by decide) (by rw [nI_0]; exact c2) c3
          refine s_iload_n 2 C dM_end_21 rfl ?_
          refine s_if_neN 34 C dM_end_22 (by decide) (by omega) (fun c4 => ?_) (fun c4 => ?_)
          · refine s_aload_n 0 C dM_end_34 rfl ?_
            refine s_get (.ref p2) 0 3 C pfP inM flM_17 dM_end_35 rfl rfl (by decide) rfl ?_
            refine s_iload_n 1 C dM_end_38 rfl ?_
            refine s_ialdN 2 C pfP dM_end_39 rfl (by omega) (by decide) ?_
            exact hret _ _ _ dM_end_40 rfl (Or.inl ⟨i, hi, rfl, Or.inr ⟨by rw [show j = 1 by omega], rfl⟩⟩)
          · refine s_aload_n 0 C dM_end_25 rfl ?_
            refine s_get (.ref p1) 0 2 C pfP inM flM_13 dM_end_26 rfl rfl (by decide) rfl ?_
            refine s_iload_n 1 C dM_end_29 rfl ?_
            refine s_ialdN 1 C pfP dM_end_30 rfl (by omega) (by decide) ?_
            refine s_goto (tgt := 40) C dM_end_31 (by decide) ?_
            exact hret _ _ _ dM_end_40 rfl (Or.inl ⟨i, hi, rfl, Or.inl ⟨by rw [c4], rfl⟩⟩)
        · refine s_iconst (-1) C dM_end_17 (by decide) ?_
          refine s_goto (tgt := 40) C dM_end_18 (by decide) ?_
          exact hret _ _ _ dM_end_40 rfl (Or.inr ⟨fun ⟨_, j, hj, e⟩ => c3 (by rw [e]; exact nI_le (by omega) (by decide)), rfl⟩)
  · refine s_top er ?_
    refine s_if_eqN 17 C dM_end_5 (by decide) (by decide) (fun c1 => ?_) (fun c1 => ?_)
    · refine s_iconst (-1) C dM_end_17 (by decide) ?_
      refine s_goto (tgt := 40) C dM_end_18 (by decide) ?_
      exact hret _ _ _ dM_end_40 rfl (Or.inr ⟨fun z => hin z.1, rfl⟩)
    · exact absurd rfl c1
set_option maxHeartbeats 4000000 in
set_option maxRecDepth 100000 in
/-- demand -/
theorem kM_demand (l : Launch) (D : va_G) (cA : ClassId) (y p1 p2 p3 p4 : Nat) (n m : Nat) (fi se wa : Nat → Nat) (hG : GOK n m fi se wa) (p : Int32) : CtP l yM_demand (.code yM_demand cM_demand 2 (some .int)) 1 D cA [.ref y, .int p] [(y, .inr (5, [.int (nI n), .int (nI m), .ref p1, .ref p2, .ref p3, .ref p4])), (p3, .inl (cA, 9, .inl (aN wa)))] (fun r => demP p r n wa) := by
  refine mkP [(0, .ref y), (1, .int p)] (by decide) rfl (Nat.le_of_ble_eq_true rfl) ?_
  intro E Q hE C hret
  obtain ⟨g1, g2, g3, g4, g5, g6⟩ := hG
  refine s_aload_n 0 C dM_demand_0 rfl ?_
  refine s_iload_n 1 C dM_demand_1 rfl ?_
  refine s_callP (n := 1) [0] 0 [] C pfP (kM_isVertex E.2.1 D cA y p1 p2 p3 p4 n m p (by omega) (by omega)) gM_29 dM_demand_2 (by decide +kernel) rfl rfl rfl rfl (by decide) (by decide) rfl rfl (Nat.le_of_ble_eq_true rfl) (Nat.zero_le _) (Nat.zero_le _) (fun rhv hv => ?_)
  rcases hv with ⟨er, hin⟩ | ⟨er, hin⟩
  · refine s_top er ?_
    refine s_if_eqN 17 C dM_demand_5 (by decide) (by decide) (fun c1 => ?_) (fun c1 => ?_)
    · exact absurd c1 (by decide)
    · obtain ⟨i, hi, rfl⟩ := hin
      refine s_aload_n 0 C dM_demand_8 rfl ?_
      refine s_get (.ref p3) 0 4 C pfP inM flM_20 dM_demand_9 rfl rfl (by decide) rfl ?_
      refine s_iload_n 1 C dM_demand_12 rfl ?_
      refine s_ialdN 1 C pfP dM_demand_13 rfl (by omega) (by decide) ?_
      refine s_goto (tgt := 18) C dM_demand_14 (by decide) ?_
      exact hret _ _ _ dM_demand_18 rfl (Or.inl ⟨i, hi, rfl, rfl⟩)
  · refine s_top er ?_
    refine s_if_eqN 17 C dM_demand_5 (by decide) (by decide) (fun c1 => ?_) (fun c1 => ?_)
    · refine s_iconst (-1) C dM_demand_17 (by decide) ?_
      exact hret _ _ _ dM_demand_18 rfl (Or.inr ⟨hin, rfl⟩)
    · exact absurd rfl c1
set_option maxHeartbeats 4000000 in
set_option maxRecDepth 100000 in
/-- a bit -/
theorem kM_has (l : Launch) (D : va_G) (cA : ClassId) (s b : Nat) (hs : s < 2 ^ 31) (hb : b < 32) : CtP l yM_has (.code yM_has cM_has 2 (some .boolean)) 0 D cA [.int (nI s), .int (nI b)] [] (fun r => r = nI (bm s b).toNat) := by
  refine mkP [(0, .int (nI s)), (1, .int (nI b))] (by decide) rfl (Nat.le_of_ble_eq_true rfl) ?_
  intro E Q hE C hret
  refine s_iload_n 0 C dM_has_0 rfl ?_
  refine s_iload_n 1 C dM_has_1 rfl ?_
  refine s_ishrN C dM_has_2 (by omega) (by omega) ?_
  refine s_iconst (nI 1) C dM_has_3 (by decide) ?_
  refine s_bitN C dM_has_4 ?_
  refine s_iconst (nI 1) C dM_has_5 (by decide) ?_
  refine s_icmp_neN 13 C dM_has_6 (by decide) (bt31 _) (by decide) (fun c1 => ?_) (fun c1 => ?_)
  · refine s_iconst (nI 0) C dM_has_13 (by decide) ?_
    refine hret _ _ _ dM_has_14 rfl ?_
    cases h : bm s b with
    | false => rfl
    | true => rw [h] at c1; exact absurd rfl c1
  · refine s_iconst (nI 1) C dM_has_9 (by decide) ?_
    refine s_goto (tgt := 14) C dM_has_10 (by decide) ?_
    exact hret _ _ _ dM_has_14 rfl (by rw [c1])
set_option maxHeartbeats 4000000 in
set_option maxRecDepth 100000 in
/-- how many -/
theorem kM_size (l : Launch) (D : va_G) (cA : ClassId) (s : Nat) (hs : s < 2 ^ 31) : CtP l yM_size (.code yM_size cM_size 3 (some .int)) 1 D cA [.int (nI s)] [] (fun r => r = nI (hsz 14 (bm s))) := by
  refine mkP [(0, .int (nI s))] (by decide) rfl (Nat.le_of_ble_eq_true rfl) ?_
  intro E Q hE C hret
  refine s_iconst (nI 0) C dM_size_0 (by decide) ?_
  refine s_istore_n [(0, .int (nI s)), (1, .int (nI 0))] [1, 0] C dM_size_1 (by decide) rfl ?_
  refine s_iconst (nI 0) C dM_size_2 (by decide) ?_
  refine s_istore_n [(0, .int (nI s)), (1, .int (nI 0)), (2, .int (nI 0))] [1, 2, 0] C dM_size_3 (by decide) rfl ?_
  have loop : ∀ k i, i + k = 14 → ST E 3 Q 0 0 (pf E D []) [(0, .int (nI s)), (1, .int (nI (hsz i (bm s)))), (2, .int (nI i))] [] 4 := by
    intro k
    induction k with
    | zero =>
      intro i hi
      refine s_iload_n 2 C dM_size_4 rfl ?_
      refine s_bipush (nI 14) C dM_size_5 (by decide) ?_
      refine s_icmp_geN 32 C dM_size_7 (by decide) (by omega) (by omega) (fun c1 => ?_) (fun c1 => ?_)
      · refine s_iload_n 1 C dM_size_32 rfl ?_
        have e : i = 14 := by omega
        subst e
        exact hret _ _ _ dM_size_33 rfl rfl
      · exact absurd c1 (by omega)
    | succ k ih =>
      intro i hi
      refine s_iload_n 2 C dM_size_4 rfl ?_
      refine s_bipush (nI 14) C dM_size_5 (by decide) ?_
      refine s_icmp_geN 32 C dM_size_7 (by decide) (by omega) (by omega) (fun c1 => ?_) (fun c1 => ?_)
      · exact absurd c1 (by omega)
      · refine s_iload_n 0 C dM_size_10 rfl ?_
        refine s_iload_n 2 C dM_size_11 rfl ?_
        refine s_callPS (n := 2) [] [] C pfP (kM_has E.2.1 D cA s i hs (by omega)) gM_36 dM_size_12 (by decide +kernel) rfl (by decide) (by decide) rfl rfl (Nat.le_of_ble_eq_true rfl) (Nat.zero_le _) (Nat.zero_le _) (fun rh hh9 => ?_)
        refine s_top hh9 ?_
        refine s_if_eqN 24 C dM_size_15 (by decide) (bt31 _) (fun c2 => ?_) (fun c2 => ?_)
        · refine s_iload_n 1 C dM_size_24 rfl ?_
          refine s_istore_n [(0, .int (nI s)), (1, .int (nI (hsz i (bm s)))), (2, .int (nI i))] [1, 0, 2] C dM_size_25 (by decide) rfl ?_
          refine s_iinc (j := 2) (nI (i + 1)) [(0, .int (nI s)), (1, .int (nI (hsz i (bm s)))), (2, .int (nI (i + 1)))] [1, 2, 0] C dM_size_26 rfl (inc1 _) (by decide) rfl ?_
          refine s_goto (tgt := 4) C dM_size_29 (by decide) ?_
          have e : hsz (i + 1) (bm s) = hsz i (bm s) := by
            show hsz i (bm s) + (bm s i).toNat = _
            rw [c2]; rfl
          have h9 := ih (i + 1) (by omega)
          rw [e] at h9
          exact h9
        · refine s_iload_n 1 C dM_size_18 rfl ?_
          refine s_iconst (nI 1) C dM_size_19 (by decide) ?_
          refine s_iaddN C dM_size_20 ?_
          refine s_goto (tgt := 25) C dM_size_21 (by decide) ?_
          refine s_istore_n [(0, .int (nI s)), (1, .int (nI (hsz i (bm s) + 1))), (2, .int (nI i))] [1, 0, 2] C dM_size_25 (by decide) rfl ?_
          refine s_iinc (j := 2) (nI (i + 1)) [(0, .int (nI s)), (1, .int (nI (hsz i (bm s) + 1))), (2, .int (nI (i + 1)))] [1, 2, 0] C dM_size_26 rfl (inc1 _) (by decide) rfl ?_
          refine s_goto (tgt := 4) C dM_size_29 (by decide) ?_
          have e : hsz (i + 1) (bm s) = hsz i (bm s) + 1 := by
            show hsz i (bm s) + (bm s i).toNat = _
            have := Bool.toNat_le (bm s i)
            omega
          have h9 := ih (i + 1) (by omega)
          rw [e] at h9
          exact h9
  exact loop 14 0 (by omega)
set_option maxHeartbeats 4000000 in
set_option maxRecDepth 100000 in
/-- is a before b in ORDER -/
theorem kM_isBefore (l : Launch) (D : va_G) (cA : ClassId) (a b : Nat) (ha : a < 2 ^ 14) (hb : b < 2 ^ 14) : CtP l yM_isBefore (.code yM_isBefore cM_isBefore 3 (some .boolean)) 2 D cA [.int (nI a), .int (nI b)] [] (fun r => (r = nI 1 ∧ okey a < okey b) ∨ (r = nI 0 ∧ ¬ okey a < okey b)) := by
  refine mkP [(0, .int (nI a)), (1, .int (nI b))] (by decide) rfl (Nat.le_of_ble_eq_true rfl) ?_
  intro E Q hE C hret
  have hza := hsz_le 14 (bm a)
  have hzb := hsz_le 14 (bm b)
  refine s_iload_n 0 C dM_isBefore_0 rfl ?_
  refine s_callPS (n := 1) [] [] C pfP (kM_size E.2.1 D cA a (by omega)) gM_40 dM_isBefore_1 (by decide +kernel) rfl (by decide) (by decide) rfl rfl (Nat.le_of_ble_eq_true rfl) (Nat.zero_le _) (Nat.zero_le _) (fun rs hs9 => ?_)
  refine s_top hs9 ?_
  refine s_iload_n 1 C dM_isBefore_4 rfl ?_
  refine s_callPS (n := 1) [] [.int (nI (hsz 14 (bm a)))] C pfP (kM_size E.2.1 D cA b (by omega)) gM_40 dM_isBefore_5 (by decide +kernel) rfl (by decide) (by decide) rfl rfl (Nat.le_of_ble_eq_true rfl) (Nat.zero_le _) (Nat.zero_le _) (fun rs hs9 => ?_)
  refine s_top hs9 ?_
  refine s_icmp_eqN 28 C dM_isBefore_8 (by decide) (by omega) (by omega) (fun c1 => ?_) (fun c1 => ?_)
  · refine s_iconst (nI 0) C dM_isBefore_28 (by decide) ?_
    refine s_istore_n [(0, .int (nI a)), (1, .int (nI b)), (2, .int (nI 0))] [1, 2, 0] C dM_isBefore_29 (by decide) rfl ?_
    have done : ∀ i : Nat, i ≤ 14 → (∀ j, j < i → bm a j = bm b j) → (i < 14 → bm a i ≠ bm b i) → ST E 3 Q 0 0 (pf E D []) [(0, .int (nI a)), (1, .int (nI b)), (2, .int (nI i))] [] 55 := by
      intro i hi heq hne
      refine s_iload_n 2 C dM_isBefore_55 rfl ?_
      refine s_bipush (nI 14) C dM_isBefore_56 (by decide) ?_
      refine s_icmp_geN 73 C dM_isBefore_58 (by decide) (by omega) (by omega) (fun c2 => ?_) (fun c2 => ?_)
      · refine s_iconst (nI 0) C dM_isBefore_73 (by decide) ?_
        have e14 : i = 14 := by omega
        subst e14
        have hk := nkey_cg heq
        exact hret _ _ _ dM_isBefore_74 rfl (Or.inr ⟨rfl, fun z => by rcases okey_lt.mp z with y | y <;> omega⟩)
      · refine s_iload_n 0 C dM_isBefore_61 rfl ?_
        refine s_iload_n 2 C dM_isBefore_62 rfl ?_
        refine s_callPS (n := 2) [] [] C pfP (kM_has E.2.1 D cA a i (by omega) (by omega)) gM_36 dM_isBefore_63 (by decide +kernel) rfl (by decide) (by decide) rfl rfl (Nat.le_of_ble_eq_true rfl) (Nat.zero_le _) (Nat.zero_le _) (fun rh hh9 => ?_)
        refine s_top hh9 ?_
        refine s_if_eqN 73 C dM_isBefore_66 (by decide) (bt31 _) (fun c3 => ?_) (fun c3 => ?_)
        · refine s_iconst (nI 0) C dM_isBefore_73 (by decide) ?_
          have za : bm a i = false := bmF.mp c3
          have zb : bm b i = true := by
            have := hne c2
            rw [za] at this
            cases z : bm b i
            · rw [z] at this; exact absurd rfl this
            · rfl
          have hk := nkey_lt (fun j hj => (heq j hj).symm) zb za c2
          exact hret _ _ _ dM_isBefore_74 rfl (Or.inr ⟨rfl, fun z => by rcases okey_lt.mp z with y | y <;> omega⟩)
        · refine s_iconst (nI 1) C dM_isBefore_69 (by decide) ?_
          refine s_goto (tgt := 74) C dM_isBefore_70 (by decide) ?_
          have za : bm a i = true := by
            cases z : bm a i
            · rw [z] at c3; exact absurd rfl c3
            · rfl
          have zb : bm b i = false := by
            have := hne c2
            rw [za] at this
            cases z : bm b i
            · rfl
            · rw [z] at this; exact absurd rfl this
          have hk := nkey_lt heq za zb c2
          exact hret _ _ _ dM_isBefore_74 rfl (Or.inl ⟨rfl, okey_lt.mpr (Or.inr ⟨c1, hk⟩)⟩)
    have loop : ∀ k i, i + k = 14 → (∀ j, j < i → bm a j = bm b j) → ST E 3 Q 0 0 (pf E D []) [(0, .int (nI a)), (1, .int (nI b)), (2, .int (nI i))] [] 30 := by
      intro k
      induction k with
      | zero =>
        intro i hi heq
        refine s_iload_n 2 C dM_isBefore_30 rfl ?_
        refine s_bipush (nI 14) C dM_isBefore_31 (by decide) ?_
        refine s_icmp_geN 55 C dM_isBefore_33 (by decide) (by omega) (by omega) (fun c2 => ?_) (fun c2 => ?_)
        · exact done i (by omega) heq (fun z => absurd z (by omega))
        · exact absurd c2 (by omega)
      | succ k ih =>
        intro i hi heq
        refine s_iload_n 2 C dM_isBefore_30 rfl ?_
        refine s_bipush (nI 14) C dM_isBefore_31 (by decide) ?_
        refine s_icmp_geN 55 C dM_isBefore_33 (by decide) (by omega) (by omega) (fun c2 => ?_) (fun c2 => ?_)
        · exact absurd c2 (by omega)
        · refine s_iload_n 0 C dM_isBefore_36 rfl ?_
          refine s_iload_n 2 C dM_isBefore_37 rfl ?_
          refine s_callPS (n := 2) [] [] C pfP (kM_has E.2.1 D cA a i (by omega) (by omega)) gM_36 dM_isBefore_38 (by decide +kernel) rfl (by decide) (by decide) rfl rfl (Nat.le_of_ble_eq_true rfl) (Nat.zero_le _) (Nat.zero_le _) (fun rh hh9 => ?_)
          refine s_top hh9 ?_
          refine s_iload_n 1 C dM_isBefore_41 rfl ?_
          refine s_iload_n 2 C dM_isBefore_42 rfl ?_
          refine s_callPS (n := 2) [] [.int (nI ((bm a i).toNat))] C pfP (kM_has E.2.1 D cA b i (by omega) (by omega)) gM_36 dM_isBefore_43 (by decide +kernel) rfl (by decide) (by decide) rfl rfl (Nat.le_of_ble_eq_true rfl) (Nat.zero_le _) (Nat.zero_le _) (fun rh hh9 => ?_)
          refine s_top hh9 ?_
          refine s_icmp_neN 55 C dM_isBefore_46 (by decide) (bt31 _) (bt31 _) (fun c3 => ?_) (fun c3 => ?_)
          · exact done i (by omega) heq (fun _ z => c3 (by rw [z]))
          · refine s_iinc (j := 2) (nI (i + 1)) [(0, .int (nI a)), (1, .int (nI b)), (2, .int (nI (i + 1)))] [1, 2, 0] C dM_isBefore_49 rfl (inc1 _) (by decide) rfl ?_
            refine s_goto (tgt := 30) C dM_isBefore_52 (by decide) ?_
            refine ih (i + 1) (by omega) (fun j hj => ?_)
            by_cases z : j = i
            · subst z
              cases z1 : bm a j <;> cases z2 : bm b j <;> simp [z1, z2] at c3 ⊢
            · exact heq j (by omega)
    exact loop 14 0 (by omega) (fun j hj => absurd hj (by omega))
  · refine s_iload_n 0 C dM_isBefore_11 rfl ?_
    refine s_callPS (n := 1) [] [] C pfP (kM_size E.2.1 D cA a (by omega)) gM_40 dM_isBefore_12 (by decide +kernel) rfl (by decide) (by decide) rfl rfl (Nat.le_of_ble_eq_true rfl) (Nat.zero_le _) (Nat.zero_le _) (fun rs hs9 => ?_)
    refine s_top hs9 ?_
    refine s_iload_n 1 C dM_isBefore_15 rfl ?_
    refine s_callPS (n := 1) [] [.int (nI (hsz 14 (bm a)))] C pfP (kM_size E.2.1 D cA b (by omega)) gM_40 dM_isBefore_16 (by decide +kernel) rfl (by decide) (by decide) rfl rfl (Nat.le_of_ble_eq_true rfl) (Nat.zero_le _) (Nat.zero_le _) (fun rs hs9 => ?_)
    refine s_top hs9 ?_
    refine s_icmp_geN 26 C dM_isBefore_19 (by decide) (by omega) (by omega) (fun c2 => ?_) (fun c2 => ?_)
    · refine s_iconst (nI 0) C dM_isBefore_26 (by decide) ?_
      exact hret _ _ _ dM_isBefore_27 rfl (Or.inr ⟨rfl, fun z => by rcases okey_lt.mp z with y | y <;> omega⟩)
    · refine s_iconst (nI 1) C dM_isBefore_22 (by decide) ?_
      refine s_goto (tgt := 27) C dM_isBefore_23 (by decide) ?_
      exact hret _ _ _ dM_isBefore_27 rfl (Or.inl ⟨rfl, okey_lt.mpr (Or.inl c2)⟩)
set_option maxHeartbeats 4000000 in
set_option maxRecDepth 100000 in
/-- how many edges of the set the vertex has -/
theorem kM_degree (l : Launch) (D : va_G) (cA : ClassId) (y p1 p2 p3 p4 : Nat) (n m : Nat) (fi se : Nat → Nat) (s v : Nat) (hm : m ≤ 14) (hv : v < 100) (hs : s < 2 ^ 14) (hfi : ∀ e, e < m → fi e < 100) (hse : ∀ e, e < m → se e < 100) : CtP l yM_degree (.code yM_degree cM_degree 5 (some .int)) 1 D cA [.ref y, .int (nI s), .int (nI v)] [(y, .inr (5, [.int (nI n), .int (nI m), .ref p1, .ref p2, .ref p3, .ref p4])), (p1, .inl (cA, 14, .inl (aN fi))), (p2, .inl (cA, 14, .inl (aN se)))] (fun r => r = nI (hdg fi se m (bm s) v)) := by
  refine mkP [(0, .ref y), (1, .int (nI s)), (2, .int (nI v))] (by decide) rfl (Nat.le_of_ble_eq_true rfl) ?_
  intro E Q hE C hret
  refine s_iconst (nI 0) C dM_degree_0 (by decide) ?_
  refine s_istore_n [(0, .ref y), (1, .int (nI s)), (2, .int (nI v)), (3, .int (nI 0))] [1, 2, 3, 0] C dM_degree_1 (by decide) rfl ?_
  refine s_iconst (nI 0) C dM_degree_2 (by decide) ?_
  refine s_istore [(0, .ref y), (1, .int (nI s)), (2, .int (nI v)), (3, .int (nI 0)), (4, .int (nI 0))] [1, 2, 3, 4, 0] C dM_degree_3 (by decide) rfl ?_
  have loop : ∀ k i, i + k = m → ST E 5 Q 0 0 (pf E D [(y, .inr (5, [.int (nI n), .int (nI m), .ref p1, .ref p2, .ref p3, .ref p4])), (p1, .inl (cA, 14, .inl (aN fi))), (p2, .inl (cA, 14, .inl (aN se)))]) [(0, .ref y), (1, .int (nI s)), (2, .int (nI v)), (3, .int (nI (su (fun j => (bm s j).toNat * hin fi se j v) i))), (4, .int (nI i))] [] 5 := by
    intro k
    induction k with
    | zero =>
      intro i hi
      refine s_iload 4 C dM_degree_5 rfl ?_
      refine s_aload_n 0 C dM_degree_7 rfl ?_
      refine s_get (.int (nI m)) 0 1 C pfP inM flM_26 dM_degree_8 rfl rfl (by decide) rfl ?_
      refine s_icmp_geN 59 C dM_degree_11 (by decide) (by omega) (by omega) (fun c1 => ?_) (fun c1 => ?_)
      · refine s_iload_n 3 C dM_degree_59 rfl ?_
        have e : i = m := by omega
        subst e
        exact hret _ _ _ dM_degree_60 rfl rfl
      · exact absurd c1 (by omega)
    | succ k ih =>
      intro i hi
      refine s_iload 4 C dM_degree_5 rfl ?_
      refine s_aload_n 0 C dM_degree_7 rfl ?_
      refine s_get (.int (nI m)) 0 1 C pfP inM flM_26 dM_degree_8 rfl rfl (by decide) rfl ?_
      refine s_icmp_geN 59 C dM_degree_11 (by decide) (by omega) (by omega) (fun c1 => ?_) (fun c1 => ?_)
      · exact absurd c1 (by omega)
      · have hsu : su (fun j => (bm s j).toNat * hin fi se j v) (i + 1) = su (fun j => (bm s j).toNat * hin fi se j v) i + (bm s i).toNat * hin fi se i v := rfl
        have f1 := hfi i c1
        have f2 := hse i c1
        refine s_iload_n 1 C dM_degree_14 rfl ?_
        refine s_iload 4 C dM_degree_15 rfl ?_
        refine s_callPS (n := 2) [] [] C pfP (kM_has E.2.1 D cA s i (by omega) (by omega)) gM_36 dM_degree_17 (by decide +kernel) rfl (by decide) (by decide) rfl rfl (Nat.le_of_ble_eq_true rfl) (Nat.zero_le _) (Nat.zero_le _) (fun rh hh9 => ?_)
        refine s_top hh9 ?_
        refine s_if_eqN 51 C dM_degree_20 (by decide) (bt31 _) (fun c2 => ?_) (fun c2 => ?_)
        · have c3 : bm s i = false := bmF.mp c2
          refine s_iload_n 3 C dM_degree_51 rfl ?_
          refine s_istore_n [(0, .ref y), (1, .int (nI s)), (2, .int (nI v)), (3, .int (nI (su (fun j => (bm s j).toNat * hin fi se j v) i))), (4, .int (nI i))] [1, 2, 3, 0, 4] C dM_degree_52 (by decide) rfl ?_
          refine s_iinc (j := 4) (nI (i + 1)) [(0, .ref y), (1, .int (nI s)), (2, .int (nI v)), (3, .int (nI (su (fun j => (bm s j).toNat * hin fi se j v) i))), (4, .int (nI (i + 1)))] [1, 2, 3, 4, 0] C dM_degree_53 rfl (inc1 _) (by decide) rfl ?_
          refine s_goto (tgt := 5) C dM_degree_56 (by decide) ?_
          have e : su (fun j => (bm s j).toNat * hin fi se j v) (i + 1) = su (fun j => (bm s j).toNat * hin fi se j v) i + 0 := by
            rw [hsu, c3]; simp
          have h9 := ih (i + 1) (by omega)
          rw [e] at h9
          exact h9
        · have c3 : bm s i = true := by
            cases z : bm s i
            · rw [z] at c2; exact absurd rfl c2
            · rfl
          refine s_aload_n 0 C dM_degree_23 rfl ?_
          refine s_get (.ref p1) 0 2 C pfP inM flM_13 dM_degree_24 rfl rfl (by decide) rfl ?_
          refine s_iload 4 C dM_degree_27 rfl ?_
          refine s_ialdN 1 C pfP dM_degree_29 rfl (by omega) (by decide) ?_
          refine s_iload_n 2 C dM_degree_30 rfl ?_
          refine s_icmp_eqN 45 C dM_degree_31 (by decide) (by omega) (by omega) (fun c4 => ?_) (fun c4 => ?_)
          · refine s_iload_n 3 C dM_degree_45 rfl ?_
            refine s_iconst (nI 1) C dM_degree_46 (by decide) ?_
            refine s_iaddN C dM_degree_47 ?_
            refine s_goto (tgt := 52) C dM_degree_48 (by decide) ?_
            refine s_istore_n [(0, .ref y), (1, .int (nI s)), (2, .int (nI v)), (3, .int (nI (su (fun j => (bm s j).toNat * hin fi se j v) i + 1))), (4, .int (nI i))] [1, 2, 3, 0, 4] C dM_degree_52 (by decide) rfl ?_
            refine s_iinc (j := 4) (nI (i + 1)) [(0, .ref y), (1, .int (nI s)), (2, .int (nI v)), (3, .int (nI (su (fun j => (bm s j).toNat * hin fi se j v) i + 1))), (4, .int (nI (i + 1)))] [1, 2, 3, 4, 0] C dM_degree_53 rfl (inc1 _) (by decide) rfl ?_
            refine s_goto (tgt := 5) C dM_degree_56 (by decide) ?_
            have e : su (fun j => (bm s j).toNat * hin fi se j v) (i + 1) = su (fun j => (bm s j).toNat * hin fi se j v) i + 1 := by
              rw [hsu, c3, hin_or (Or.inl c4)]; rfl
            have h9 := ih (i + 1) (by omega)
            rw [e] at h9
            exact h9
          · refine s_aload_n 0 C dM_degree_34 rfl ?_
            refine s_get (.ref p2) 0 3 C pfP inM flM_17 dM_degree_35 rfl rfl (by decide) rfl ?_
            refine s_iload 4 C dM_degree_38 rfl ?_
            refine s_ialdN 2 C pfP dM_degree_40 rfl (by omega) (by decide) ?_
            refine s_iload_n 2 C dM_degree_41 rfl ?_
            refine s_icmp_neN 51 C dM_degree_42 (by decide) (by omega) (by omega) (fun c5 => ?_) (fun c5 => ?_)
            · refine s_iload_n 3 C dM_degree_51 rfl ?_
              refine s_istore_n [(0, .ref y), (1, .int (nI s)), (2, .int (nI v)), (3, .int (nI (su (fun j => (bm s j).toNat * hin fi se j v) i))), (4, .int (nI i))] [1, 2, 3, 0, 4] C dM_degree_52 (by decide) rfl ?_
              refine s_iinc (j := 4) (nI (i + 1)) [(0, .ref y), (1, .int (nI s)), (2, .int (nI v)), (3, .int (nI (su (fun j => (bm s j).toNat * hin fi se j v) i))), (4, .int (nI (i + 1)))] [1, 2, 3, 4, 0] C dM_degree_53 rfl (inc1 _) (by decide) rfl ?_
              refine s_goto (tgt := 5) C dM_degree_56 (by decide) ?_
              have e : su (fun j => (bm s j).toNat * hin fi se j v) (i + 1) = su (fun j => (bm s j).toNat * hin fi se j v) i + 0 := by
                rw [hsu, c3, hin_no (by rintro (h | h); exact c4 h; exact c5 h)]; rfl
              have h9 := ih (i + 1) (by omega)
              rw [e] at h9
              exact h9
            · refine s_iload_n 3 C dM_degree_45 rfl ?_
              refine s_iconst (nI 1) C dM_degree_46 (by decide) ?_
              refine s_iaddN C dM_degree_47 ?_
              refine s_goto (tgt := 52) C dM_degree_48 (by decide) ?_
              refine s_istore_n [(0, .ref y), (1, .int (nI s)), (2, .int (nI v)), (3, .int (nI (su (fun j => (bm s j).toNat * hin fi se j v) i + 1))), (4, .int (nI i))] [1, 2, 3, 0, 4] C dM_degree_52 (by decide) rfl ?_
              refine s_iinc (j := 4) (nI (i + 1)) [(0, .ref y), (1, .int (nI s)), (2, .int (nI v)), (3, .int (nI (su (fun j => (bm s j).toNat * hin fi se j v) i + 1))), (4, .int (nI (i + 1)))] [1, 2, 3, 4, 0] C dM_degree_53 rfl (inc1 _) (by decide) rfl ?_
              refine s_goto (tgt := 5) C dM_degree_56 (by decide) ?_
              have e : su (fun j => (bm s j).toNat * hin fi se j v) (i + 1) = su (fun j => (bm s j).toNat * hin fi se j v) i + 1 := by
                rw [hsu, c3, hin_or (Or.inr c5)]; rfl
              have h9 := ih (i + 1) (by omega)
              rw [e] at h9
              exact h9
  exact loop m 0 (by omega)
set_option maxHeartbeats 4000000 in
set_option maxRecDepth 100000 in
/-- isFair -/
theorem kM_isFair (l : Launch) (D : va_G) (cA : ClassId) (y p1 p2 p3 p4 : Nat) (n m : Nat) (fi se wa : Nat → Nat) (g1 : 1 ≤ n) (g2 : n ≤ 9) (g3 : m ≤ 14) (g4 : hok fi se n m) (g5 : ∀ v, v < 9 → wa v ≤ 50) (s : Nat) (hs : s < 2 ^ 14) : CtP l yM_isFair (.code yM_isFair cM_isFair 3 (some .boolean)) 2 D cA [.ref y, .int (nI s)] [(y, .inr (5, [.int (nI n), .int (nI m), .ref p1, .ref p2, .ref p3, .ref p4])), (p1, .inl (cA, 14, .inl (aN fi))), (p2, .inl (cA, 14, .inl (aN se))), (p3, .inl (cA, 9, .inl (aN wa)))] (fun r => (r = nI 1 ∧ hfa fi se n m wa (bm s)) ∨ (r = nI 0 ∧ ¬ hfa fi se n m wa (bm s))) := by
  refine mkP [(0, .ref y), (1, .int (nI s))] (by decide) rfl (Nat.le_of_ble_eq_true rfl) ?_
  intro E Q hE C hret
  refine s_iconst (nI 0) C dM_isFair_0 (by decide) ?_
  refine s_istore_n [(0, .ref y), (1, .int (nI s)), (2, .int (nI 0))] [1, 2, 0] C dM_isFair_1 (by decide) rfl ?_
  have loop : ∀ k i, i + k = n → (∀ v, v < i → hdg fi se m (bm s) v ≤ wa v) → ST E 3 Q 0 0 (pf E D [(y, .inr (5, [.int (nI n), .int (nI m), .ref p1, .ref p2, .ref p3, .ref p4])), (p1, .inl (cA, 14, .inl (aN fi))), (p2, .inl (cA, 14, .inl (aN se))), (p3, .inl (cA, 9, .inl (aN wa)))]) [(0, .ref y), (1, .int (nI s)), (2, .int (nI i))] [] 2 := by
    intro k
    induction k with
    | zero =>
      intro i hi hall
      refine s_iload_n 2 C dM_isFair_2 rfl ?_
      refine s_aload_n 0 C dM_isFair_3 rfl ?_
      refine s_get (.int (nI n)) 0 0 C pfP inM flM_7 dM_isFair_4 rfl rfl (by decide) rfl ?_
      refine s_icmp_geN 33 C dM_isFair_7 (by decide) (by omega) (by omega) (fun c1 => ?_) (fun c1 => ?_)
      · refine s_iconst (nI 1) C dM_isFair_33 (by decide) ?_
        have e : n = i := by omega
        subst e
        exact hret _ _ _ dM_isFair_34 rfl (Or.inl ⟨rfl, hall⟩)
      · exact absurd c1 (by omega)
    | succ k ih =>
      intro i hi hall
      refine s_iload_n 2 C dM_isFair_2 rfl ?_
      refine s_aload_n 0 C dM_isFair_3 rfl ?_
      refine s_get (.int (nI n)) 0 0 C pfP inM flM_7 dM_isFair_4 rfl rfl (by decide) rfl ?_
      refine s_icmp_geN 33 C dM_isFair_7 (by decide) (by omega) (by omega) (fun c1 => ?_) (fun c1 => ?_)
      · exact absurd c1 (by omega)
      · have hgi := g5 i (by omega)
        have hdm : hdg fi se m (bm s) i ≤ 14 := by
          have h1 : hdg fi se m (bm s) i ≤ hsz m (bm s) := su_le (fun j _ => by
            have a1 := Bool.toNat_le (bm s j)
            have a2 : hin fi se j i ≤ 1 := by unfold hin; split <;> omega
            have := Nat.mul_le_mul_left (bm s j).toNat a2
            omega)
          have h2 := hsz_le m (bm s)
          omega
        refine s_aload_n 0 C dM_isFair_10 rfl ?_
        refine s_iload_n 1 C dM_isFair_11 rfl ?_
        refine s_iload_n 2 C dM_isFair_12 rfl ?_
        refine s_callP (n := 2) [0, 1, 2] 0 [] C pfP (kM_degree E.2.1 D cA y p1 p2 p3 p4 n m fi se s i g3 (by omega) hs (fun e he => by have := (g4 e he).1; omega) (fun e he => by have := (g4 e he).2.1; omega)) gM_44 dM_isFair_13 (by decide +kernel) rfl rfl rfl rfl (by decide) (by decide) rfl rfl (Nat.le_of_ble_eq_true rfl) (Nat.zero_le _) (Nat.zero_le _) (fun rd hd9 => ?_)
        refine s_top hd9 ?_
        refine s_aload_n 0 C dM_isFair_16 rfl ?_
        refine s_get (.ref p3) 0 4 C pfP inM flM_20 dM_isFair_17 rfl rfl (by decide) rfl ?_
        refine s_iload_n 2 C dM_isFair_20 rfl ?_
        refine s_ialdN 3 C pfP dM_isFair_21 rfl (by omega) (by decide) ?_
        refine s_icmp_leN 27 C dM_isFair_22 (by decide) (by omega) (by omega) (fun c2 => ?_) (fun c2 => ?_)
        · refine s_iinc (j := 2) (nI (i + 1)) [(0, .ref y), (1, .int (nI s)), (2, .int (nI (i + 1)))] [1, 2, 0] C dM_isFair_27 rfl (inc1 _) (by decide) rfl ?_
          refine s_goto (tgt := 2) C dM_isFair_30 (by decide) ?_
          refine ih (i + 1) (by omega) (fun v hv => ?_)
          by_cases z : v = i
          · subst z; exact c2
          · exact hall v (by omega)
        · refine s_iconst (nI 0) C dM_isFair_25 (by decide) ?_
          exact hret _ _ _ dM_isFair_26 rfl (Or.inr ⟨rfl, fun z => absurd (z i c1) (by omega)⟩)
  exact loop n 0 (by omega) (fun v hv => absurd hv (by omega))
set_option maxHeartbeats 4000000 in
set_option maxRecDepth 100000 in
/-- isFactor -/
theorem kM_isFactor (l : Launch) (D : va_G) (cA : ClassId) (y p1 p2 p3 p4 : Nat) (n m : Nat) (fi se wa : Nat → Nat) (g1 : 1 ≤ n) (g2 : n ≤ 9) (g3 : m ≤ 14) (g4 : hok fi se n m) (g5 : ∀ v, v < 9 → wa v ≤ 50) (s : Nat) (hs : s < 2 ^ 14) : CtP l yM_isFactor (.code yM_isFactor cM_isFactor 3 (some .boolean)) 2 D cA [.ref y, .int (nI s)] [(y, .inr (5, [.int (nI n), .int (nI m), .ref p1, .ref p2, .ref p3, .ref p4])), (p1, .inl (cA, 14, .inl (aN fi))), (p2, .inl (cA, 14, .inl (aN se))), (p3, .inl (cA, 9, .inl (aN wa)))] (fun r => (r = nI 1 ∧ isFa fi se wa n m s) ∨ (r = nI 0 ∧ ¬ isFa fi se wa n m s)) := by
  refine mkP [(0, .ref y), (1, .int (nI s))] (by decide) rfl (Nat.le_of_ble_eq_true rfl) ?_
  intro E Q hE C hret
  refine s_iconst (nI 0) C dM_isFactor_0 (by decide) ?_
  refine s_istore_n [(0, .ref y), (1, .int (nI s)), (2, .int (nI 0))] [1, 2, 0] C dM_isFactor_1 (by decide) rfl ?_
  have loop : ∀ k i, i + k = n → (∀ v, v < i → hdg fi se m (bm s) v = wa v) → ST E 3 Q 0 0 (pf E D [(y, .inr (5, [.int (nI n), .int (nI m), .ref p1, .ref p2, .ref p3, .ref p4])), (p1, .inl (cA, 14, .inl (aN fi))), (p2, .inl (cA, 14, .inl (aN se))), (p3, .inl (cA, 9, .inl (aN wa)))]) [(0, .ref y), (1, .int (nI s)), (2, .int (nI i))] [] 2 := by
    intro k
    induction k with
    | zero =>
      intro i hi hall
      refine s_iload_n 2 C dM_isFactor_2 rfl ?_
      refine s_aload_n 0 C dM_isFactor_3 rfl ?_
      refine s_get (.int (nI n)) 0 0 C pfP inM flM_7 dM_isFactor_4 rfl rfl (by decide) rfl ?_
      refine s_icmp_geN 33 C dM_isFactor_7 (by decide) (by omega) (by omega) (fun c1 => ?_) (fun c1 => ?_)
      · refine s_iconst (nI 1) C dM_isFactor_33 (by decide) ?_
        have e : n = i := by omega
        subst e
        exact hret _ _ _ dM_isFactor_34 rfl (Or.inl ⟨rfl, hall⟩)
      · exact absurd c1 (by omega)
    | succ k ih =>
      intro i hi hall
      refine s_iload_n 2 C dM_isFactor_2 rfl ?_
      refine s_aload_n 0 C dM_isFactor_3 rfl ?_
      refine s_get (.int (nI n)) 0 0 C pfP inM flM_7 dM_isFactor_4 rfl rfl (by decide) rfl ?_
      refine s_icmp_geN 33 C dM_isFactor_7 (by decide) (by omega) (by omega) (fun c1 => ?_) (fun c1 => ?_)
      · exact absurd c1 (by omega)
      · have hgi := g5 i (by omega)
        have hdm : hdg fi se m (bm s) i ≤ 14 := by
          have h1 : hdg fi se m (bm s) i ≤ hsz m (bm s) := su_le (fun j _ => by
            have a1 := Bool.toNat_le (bm s j)
            have a2 : hin fi se j i ≤ 1 := by unfold hin; split <;> omega
            have := Nat.mul_le_mul_left (bm s j).toNat a2
            omega)
          have h2 := hsz_le m (bm s)
          omega
        refine s_aload_n 0 C dM_isFactor_10 rfl ?_
        refine s_iload_n 1 C dM_isFactor_11 rfl ?_
        refine s_iload_n 2 C dM_isFactor_12 rfl ?_
        refine s_callP (n := 2) [0, 1, 2] 0 [] C pfP (kM_degree E.2.1 D cA y p1 p2 p3 p4 n m fi se s i g3 (by omega) hs (fun e he => by have := (g4 e he).1; omega) (fun e he => by have := (g4 e he).2.1; omega)) gM_44 dM_isFactor_13 (by decide +kernel) rfl rfl rfl rfl (by decide) (by decide) rfl rfl (Nat.le_of_ble_eq_true rfl) (Nat.zero_le _) (Nat.zero_le _) (fun rd hd9 => ?_)
        refine s_top hd9 ?_
        refine s_aload_n 0 C dM_isFactor_16 rfl ?_
        refine s_get (.ref p3) 0 4 C pfP inM flM_20 dM_isFactor_17 rfl rfl (by decide) rfl ?_
        refine s_iload_n 2 C dM_isFactor_20 rfl ?_
        refine s_ialdN 3 C pfP dM_isFactor_21 rfl (by omega) (by decide) ?_
        refine s_icmp_eqN 27 C dM_isFactor_22 (by decide) (by omega) (by omega) (fun c2 => ?_) (fun c2 => ?_)
        · refine s_iinc (j := 2) (nI (i + 1)) [(0, .ref y), (1, .int (nI s)), (2, .int (nI (i + 1)))] [1, 2, 0] C dM_isFactor_27 rfl (inc1 _) (by decide) rfl ?_
          refine s_goto (tgt := 2) C dM_isFactor_30 (by decide) ?_
          refine ih (i + 1) (by omega) (fun v hv => ?_)
          by_cases z : v = i
          · subst z; exact c2
          · exact hall v (by omega)
        · refine s_iconst (nI 0) C dM_isFactor_25 (by decide) ?_
          exact hret _ _ _ dM_isFactor_26 rfl (Or.inr ⟨rfl, fun z => absurd (z i c1) (by omega)⟩)
  exact loop n 0 (by omega) (fun v hv => absurd hv (by omega))
set_option maxHeartbeats 4000000 in
set_option maxRecDepth 100000 in
/-- all -/
theorem kM_allEdges (l : Launch) (D : va_G) (cA : ClassId) (y p1 p2 p3 p4 n m : Nat) (hm : m ≤ 14) : CtP l yM_allEdges (.code yM_allEdges cM_allEdges 1 (some .int)) 0 D cA [.ref y] [(y, .inr (5, [.int (nI n), .int (nI m), .ref p1, .ref p2, .ref p3, .ref p4]))] (fun r => r = nI (2 ^ m - 1)) := by
  refine mkP [(0, .ref y)] (by decide) rfl (Nat.le_of_ble_eq_true rfl) ?_
  intro E Q hE C hret
  have h2p : 1 ≤ 2 ^ m := Nat.one_le_two_pow
  refine s_iconst (nI 1) C dM_allEdges_0 (by decide) ?_
  refine s_aload_n 0 C dM_allEdges_1 rfl ?_
  refine s_get (.int (nI m)) 0 1 C pfP inM flM_26 dM_allEdges_2 rfl rfl (by decide) rfl ?_
  refine s_shl1 C dM_allEdges_5 (by omega) ?_
  refine s_iconst (nI 1) C dM_allEdges_6 (by decide) ?_
  refine s_isubN C dM_allEdges_7 (by omega) ?_
  exact hret _ _ _ dM_allEdges_8 rfl rfl
set_option maxHeartbeats 4000000 in
set_option maxRecDepth 100000 in
/-- judge -/
theorem kM_judge (l : Launch) (D : va_G) (cA : ClassId) (y p1 p2 p3 p4 : Nat) (n m : Nat) (fi se wa : Nat → Nat) (hG : GOK n m fi se wa) (p : Int32) : CtP l yM_judge (.code yM_judge cM_judge 2 (some .int)) 3 D cA [.ref y, .int p] [(y, .inr (5, [.int (nI n), .int (nI m), .ref p1, .ref p2, .ref p3, .ref p4])), (p1, .inl (cA, 14, .inl (aN fi))), (p2, .inl (cA, 14, .inl (aN se))), (p3, .inl (cA, 9, .inl (aN wa)))] (fun r => judP p r n m fi se wa) := by
  refine mkP [(0, .ref y), (1, .int p)] (by decide) rfl (Nat.le_of_ble_eq_true rfl) ?_
  intro E Q hE C hret
  obtain ⟨g1, g2, g3, g4, g50, g6⟩ := hG
  have g5 : ∀ v, v < 9 → wa v ≤ 50 := fun v hv => by have := g50 v hv; omega
  have h2m : 2 ^ m ≤ 2 ^ 14 := p2_le g3
  have h2p : 1 ≤ 2 ^ m := Nat.one_le_two_pow
  refine s_iload_n 1 C dM_judge_0 rfl ?_
  refine s_if_lt 12 C dM_judge_1 (by decide) (fun c1 => ?_) (fun c1 => ?_)
  · refine s_iconst (-1) C dM_judge_12 (by decide) ?_
    exact hret _ _ _ dM_judge_13 rfl (Or.inr ⟨inR_no1 c1 (by omega), rfl⟩)
  · obtain ⟨s, hs, rfl⟩ := nI_of c1
    refine s_iload_n 1 C dM_judge_4 rfl ?_
    refine s_aload_n 0 C dM_judge_5 rfl ?_
    refine s_callP (n := 0) [0] 0 [.int (nI s)] C pfP (kM_allEdges E.2.1 D cA y p1 p2 p3 p4 n m g3) gM_48 dM_judge_6 (by decide +kernel) rfl rfl rfl rfl (by decide) (by decide) rfl rfl (Nat.le_of_ble_eq_true rfl) (Nat.zero_le _) (Nat.zero_le _) (fun ra hall9 => ?_)
    refine s_top hall9 ?_
    refine s_icmp_leN 14 C dM_judge_9 (by decide) (by omega) (by omega) (fun c2 => ?_) (fun c2 => ?_)
    · have hsm : s < 2 ^ m := by omega
      refine s_aload_n 0 C dM_judge_14 rfl ?_
      refine s_iload_n 1 C dM_judge_15 rfl ?_
      refine s_callP (n := 1) [0, 1, 2, 3] 0 [] C pfP (kM_isFactor E.2.1 D cA y p1 p2 p3 p4 n m fi se wa g1 g2 g3 g4 g5 s (by omega)) gM_52 dM_judge_16 (by decide +kernel) rfl rfl rfl rfl (by decide) (by decide) rfl rfl (Nat.le_of_ble_eq_true rfl) (Nat.zero_le _) (Nat.zero_le _) (fun rf hfc => ?_)
      rcases hfc with ⟨er, hy⟩ | ⟨er, hn⟩
      · refine s_top er ?_
        refine s_if_eqN 26 C dM_judge_19 (by decide) (by decide) (fun c3 => ?_) (fun c3 => ?_)
        · exact absurd c3 (by decide)
        · refine s_iconst (nI 2) C dM_judge_22 (by decide) ?_
          refine s_goto (tgt := 39) C dM_judge_23 (by decide) ?_
          exact hret _ _ _ dM_judge_39 rfl (Or.inl ⟨s, hsm, rfl, Or.inl ⟨hy, rfl⟩⟩)
      · refine s_top er ?_
        refine s_if_eqN 26 C dM_judge_19 (by decide) (by decide) (fun c3 => ?_) (fun c3 => ?_)
        · refine s_aload_n 0 C dM_judge_26 rfl ?_
          refine s_iload_n 1 C dM_judge_27 rfl ?_
          refine s_callP (n := 1) [0, 1, 2, 3] 0 [] C pfP (kM_isFair E.2.1 D cA y p1 p2 p3 p4 n m fi se wa g1 g2 g3 g4 g5 s (by omega)) gM_55 dM_judge_28 (by decide +kernel) rfl rfl rfl rfl (by decide) (by decide) rfl rfl (Nat.le_of_ble_eq_true rfl) (Nat.zero_le _) (Nat.zero_le _) (fun rf hfr => ?_)
          rcases hfr with ⟨er, hy2⟩ | ⟨er, hn2⟩
          · refine s_top er ?_
            refine s_if_eqN 38 C dM_judge_31 (by decide) (by decide) (fun c4 => ?_) (fun c4 => ?_)
            · exact absurd c4 (by decide)
            · refine s_iconst (nI 1) C dM_judge_34 (by decide) ?_
              refine s_goto (tgt := 39) C dM_judge_35 (by decide) ?_
              exact hret _ _ _ dM_judge_39 rfl (Or.inl ⟨s, hsm, rfl, Or.inr (Or.inl ⟨hn, hy2, rfl⟩)⟩)
          · refine s_top er ?_
            refine s_if_eqN 38 C dM_judge_31 (by decide) (by decide) (fun c4 => ?_) (fun c4 => ?_)
            · refine s_iconst (nI 0) C dM_judge_38 (by decide) ?_
              exact hret _ _ _ dM_judge_39 rfl (Or.inl ⟨s, hsm, rfl, Or.inr (Or.inr ⟨hn2, rfl⟩)⟩)
            · exact absurd rfl c4
        · exact absurd rfl c3
    · refine s_iconst (-1) C dM_judge_12 (by decide) ?_
      exact hret _ _ _ dM_judge_13 rfl (Or.inr ⟨fun ⟨j, hj, e⟩ => absurd ((nI_eq hs (by omega)).mp e) (by omega), rfl⟩)
set_option maxHeartbeats 4000000 in
set_option maxRecDepth 100000 in
/-- best -/
theorem kM_best (l : Launch) (D : va_G) (cA : ClassId) (y p1 p2 p3 p4 : Nat) (n m : Nat) (fi se wa : Nat → Nat) (g1 : 1 ≤ n) (g2 : n ≤ 9) (g3 : m ≤ 14) (g4 : hok fi se n m) (g5 : ∀ v, v < 9 → wa v ≤ 50)  : CtP l yM_best (.code yM_best cM_best 4 (some .int)) 3 D cA [.ref y] [(y, .inr (5, [.int (nI n), .int (nI m), .ref p1, .ref p2, .ref p3, .ref p4])), (p1, .inl (cA, 14, .inl (aN fi))), (p2, .inl (cA, 14, .inl (aN se))), (p3, .inl (cA, 9, .inl (aN wa)))] (fun r => bestP fi se wa m r) := by
  refine mkP [(0, .ref y)] (by decide) rfl (Nat.le_of_ble_eq_true rfl) ?_
  intro E Q hE C hret
  have h2m : 2 ^ m ≤ 2 ^ 14 := p2_le g3
  have h2p : 1 ≤ 2 ^ m := Nat.one_le_two_pow
  refine s_iconst (nI 0) C dM_best_0 (by decide) ?_
  refine s_istore_n [(0, .ref y), (1, .int (nI 0))] [1, 0] C dM_best_1 (by decide) rfl ?_
  refine s_iconst (nI 0) C dM_best_2 (by decide) ?_
  refine s_istore_n [(0, .ref y), (1, .int (nI 0)), (2, .int (nI 0))] [1, 2, 0] C dM_best_3 (by decide) rfl ?_
  have loop : ∀ k i (f : Nat), i + k = 2 ^ m → bI fi se wa n m i f → ST E 4 Q 0 0 (pf E D [(y, .inr (5, [.int (nI n), .int (nI m), .ref p1, .ref p2, .ref p3, .ref p4])), (p1, .inl (cA, 14, .inl (aN fi))), (p2, .inl (cA, 14, .inl (aN se))), (p3, .inl (cA, 9, .inl (aN wa)))]) [(0, .ref y), (1, .int (nI f)), (2, .int (nI i))] [] 4 := by
    intro k
    induction k with
    | zero =>
      intro i f hi hI
      refine s_iload_n 2 C dM_best_4 rfl ?_
      refine s_aload_n 0 C dM_best_5 rfl ?_
      refine s_callP (n := 0) [0] 0 [.int (nI i)] C pfP (kM_allEdges E.2.1 D cA y p1 p2 p3 p4 n m g3) gM_48 dM_best_6 (by decide +kernel) rfl rfl rfl rfl (by decide) (by decide) rfl rfl (Nat.le_of_ble_eq_true rfl) (Nat.zero_le _) (Nat.zero_le _) (fun ra hall9 => ?_)
      refine s_top hall9 ?_
      refine s_icmp_gtN 54 C dM_best_9 (by decide) (by omega) (by omega) (fun c1 => ?_) (fun c1 => ?_)
      · refine s_iload_n 1 C dM_best_54 rfl ?_
        have e : 2 ^ m = i := by omega
        subst e
        exact hret _ _ _ dM_best_55 rfl ⟨f, hI.1, bI_end g2 g3 g4 hI, rfl⟩
      · exact absurd c1 (by omega)
    | succ k ih =>
      intro i f hi hI
      refine s_iload_n 2 C dM_best_4 rfl ?_
      refine s_aload_n 0 C dM_best_5 rfl ?_
      refine s_callP (n := 0) [0] 0 [.int (nI i)] C pfP (kM_allEdges E.2.1 D cA y p1 p2 p3 p4 n m g3) gM_48 dM_best_6 (by decide +kernel) rfl rfl rfl rfl (by decide) (by decide) rfl rfl (Nat.le_of_ble_eq_true rfl) (Nat.zero_le _) (Nat.zero_le _) (fun ra hall9 => ?_)
      refine s_top hall9 ?_
      refine s_icmp_gtN 54 C dM_best_9 (by decide) (by omega) (by omega) (fun c1 => ?_) (fun c1 => ?_)
      · exact absurd c1 (by omega)
      · have hf := hI.1
        have hzi := hsz_le 14 (bm i)
        have hzf := hsz_le 14 (bm f)
        refine s_iload_n 2 C dM_best_12 rfl ?_
        refine s_callPS (n := 1) [] [] C pfP (kM_size E.2.1 D cA i (by omega)) gM_40 dM_best_13 (by decide +kernel) rfl (by decide) (by decide) rfl rfl (Nat.le_of_ble_eq_true rfl) (Nat.zero_le _) (Nat.zero_le _) (fun rs hs9 => ?_)
        refine s_top hs9 ?_
        refine s_iload_n 1 C dM_best_16 rfl ?_
        refine s_callPS (n := 1) [] [.int (nI (hsz 14 (bm i)))] C pfP (kM_size E.2.1 D cA f (by omega)) gM_40 dM_best_17 (by decide +kernel) rfl (by decide) (by decide) rfl rfl (Nat.le_of_ble_eq_true rfl) (Nat.zero_le _) (Nat.zero_le _) (fun rs hs9 => ?_)
        refine s_top hs9 ?_
        rcases Nat.lt_or_ge (hsz 14 (bm i)) (hsz 14 (bm f)) with hlt | hge
        · refine s_isub C dM_best_20 ?_
          refine s_istore_n [(0, .ref y), (1, .int (nI f)), (2, .int (nI i)), (3, .int (nI (hsz 14 (bm i)) - nI (hsz 14 (bm f))))] [1, 2, 3, 0] C dM_best_21 (by decide) rfl ?_
          refine s_iload_n 3 C dM_best_22 rfl ?_
          refine s_if_lt 48 C dM_best_23 (by decide) (fun c2 => ?_) (fun c2 => ?_)
          · refine s_iinc (j := 2) (nI (i + 1)) [(0, .ref y), (1, .int (nI f)), (2, .int (nI (i + 1))), (3, .int (nI (hsz 14 (bm i)) - nI (hsz 14 (bm f))))] [1, 2, 0, 3] C dM_best_48 rfl (inc1 _) (by decide) rfl ?_
            refine s_goto (tgt := 4) C dM_best_51 (by decide) ?_
            refine s_lv (lv' := [(0, .ref y), (1, .int (nI f)), (2, .int (nI (i + 1)))]) [0, 1, 2] rfl ?_
            refine ih (i + 1) f (by omega) (⟨hI.1, hI.2.1, fun s hs hfs => by
              by_cases z : s = i
              · subst z; exact Or.inl hlt
              · exact hI.2.2 s (by omega) hfs⟩)
          · exact absurd (pk_sneg (by omega) hlt) c2
        · refine s_isubN C dM_best_20 (by omega) ?_
          refine s_istore_n [(0, .ref y), (1, .int (nI f)), (2, .int (nI i)), (3, .int (nI ((hsz 14 (bm i)) - (hsz 14 (bm f)))))] [1, 2, 3, 0] C dM_best_21 (by decide) rfl ?_
          refine s_iload_n 3 C dM_best_22 rfl ?_
          refine s_if_ltN 48 C dM_best_23 (by decide) (by omega) ?_
          refine s_aload_n 0 C dM_best_26 rfl ?_
          refine s_iload_n 2 C dM_best_27 rfl ?_
          refine s_callP (n := 1) [0, 1, 2, 3] 0 [] C pfP (kM_isFair E.2.1 D cA y p1 p2 p3 p4 n m fi se wa g1 g2 g3 g4 g5 i (by omega)) gM_55 dM_best_28 (by decide +kernel) rfl rfl rfl rfl (by decide) (by decide) rfl rfl (Nat.le_of_ble_eq_true rfl) (Nat.zero_le _) (Nat.zero_le _) (fun rf hfr => ?_)
          rcases hfr with ⟨er, hy⟩ | ⟨er, hn⟩
          · refine s_top er ?_
            refine s_if_eqN 48 C dM_best_31 (by decide) (by decide) (fun c3 => ?_) (fun c3 => ?_)
            · exact absurd c3 (by decide)
            · refine s_iload_n 3 C dM_best_34 rfl ?_
              refine s_if_gtN 46 C dM_best_35 (by decide) (by omega) (fun c4 => ?_) (fun c4 => ?_)
              · refine s_iload_n 2 C dM_best_46 rfl ?_
                refine s_istore_n [(0, .ref y), (1, .int (nI i)), (2, .int (nI i)), (3, .int (nI ((hsz 14 (bm i)) - (hsz 14 (bm f)))))] [1, 0, 2, 3] C dM_best_47 (by decide) rfl ?_
                refine s_iinc (j := 2) (nI (i + 1)) [(0, .ref y), (1, .int (nI i)), (2, .int (nI (i + 1))), (3, .int (nI ((hsz 14 (bm i)) - (hsz 14 (bm f)))))] [1, 2, 0, 3] C dM_best_48 rfl (inc1 _) (by decide) rfl ?_
                refine s_goto (tgt := 4) C dM_best_51 (by decide) ?_
                refine s_lv (lv' := [(0, .ref y), (1, .int (nI i)), (2, .int (nI (i + 1)))]) [0, 1, 2] rfl ?_
                refine ih (i + 1) i (by omega) (⟨by omega, hy, fun s hs hfs => by
                  by_cases z : s = i
                  · subst z; exact okL_rf _
                  · exact okL_tr (Or.inl (by omega)) (hI.2.2 s (by omega) hfs)⟩)
              · refine s_iload_n 2 C dM_best_38 rfl ?_
                refine s_iload_n 1 C dM_best_39 rfl ?_
                refine s_callPS (n := 2) [] [] C pfP (kM_isBefore E.2.1 D cA i f (by omega) (by omega)) gM_58 dM_best_40 (by decide +kernel) rfl (by decide) (by decide) rfl rfl (Nat.le_of_ble_eq_true rfl) (Nat.zero_le _) (Nat.zero_le _) (fun rb hbf => ?_)
                rcases hbf with ⟨er, hy2⟩ | ⟨er, hn2⟩
                · refine s_top er ?_
                  refine s_if_eqN 48 C dM_best_43 (by decide) (by decide) (fun c5 => ?_) (fun c5 => ?_)
                  · exact absurd c5 (by decide)
                  · refine s_iload_n 2 C dM_best_46 rfl ?_
                    refine s_istore_n [(0, .ref y), (1, .int (nI i)), (2, .int (nI i)), (3, .int (nI ((hsz 14 (bm i)) - (hsz 14 (bm f)))))] [1, 0, 2, 3] C dM_best_47 (by decide) rfl ?_
                    refine s_iinc (j := 2) (nI (i + 1)) [(0, .ref y), (1, .int (nI i)), (2, .int (nI (i + 1))), (3, .int (nI ((hsz 14 (bm i)) - (hsz 14 (bm f)))))] [1, 2, 0, 3] C dM_best_48 rfl (inc1 _) (by decide) rfl ?_
                    refine s_goto (tgt := 4) C dM_best_51 (by decide) ?_
                    refine s_lv (lv' := [(0, .ref y), (1, .int (nI i)), (2, .int (nI (i + 1)))]) [0, 1, 2] rfl ?_
                    refine ih (i + 1) i (by omega) (⟨by omega, hy, fun s hs hfs => by
                      by_cases z : s = i
                      · subst z; exact okL_rf _
                      · exact okL_tr (Or.inr ⟨by omega, Nat.le_of_lt hy2⟩) (hI.2.2 s (by omega) hfs)⟩)
                · refine s_top er ?_
                  refine s_if_eqN 48 C dM_best_43 (by decide) (by decide) (fun c5 => ?_) (fun c5 => ?_)
                  · refine s_iinc (j := 2) (nI (i + 1)) [(0, .ref y), (1, .int (nI f)), (2, .int (nI (i + 1))), (3, .int (nI ((hsz 14 (bm i)) - (hsz 14 (bm f)))))] [1, 2, 0, 3] C dM_best_48 rfl (inc1 _) (by decide) rfl ?_
                    refine s_goto (tgt := 4) C dM_best_51 (by decide) ?_
                    refine s_lv (lv' := [(0, .ref y), (1, .int (nI f)), (2, .int (nI (i + 1)))]) [0, 1, 2] rfl ?_
                    refine ih (i + 1) f (by omega) (⟨hI.1, hI.2.1, fun s hs hfs => by
                      by_cases z : s = i
                      · subst z; exact Or.inr ⟨by omega, by omega⟩
                      · exact hI.2.2 s (by omega) hfs⟩)
                  · exact absurd rfl c5
          · refine s_top er ?_
            refine s_if_eqN 48 C dM_best_31 (by decide) (by decide) (fun c3 => ?_) (fun c3 => ?_)
            · refine s_iinc (j := 2) (nI (i + 1)) [(0, .ref y), (1, .int (nI f)), (2, .int (nI (i + 1))), (3, .int (nI ((hsz 14 (bm i)) - (hsz 14 (bm f)))))] [1, 2, 0, 3] C dM_best_48 rfl (inc1 _) (by decide) rfl ?_
              refine s_goto (tgt := 4) C dM_best_51 (by decide) ?_
              refine s_lv (lv' := [(0, .ref y), (1, .int (nI f)), (2, .int (nI (i + 1)))]) [0, 1, 2] rfl ?_
              refine ih (i + 1) f (by omega) (⟨hI.1, hI.2.1, fun s hs hfs => by
                by_cases z : s = i
                · subst z; exact absurd hfs hn
                · exact hI.2.2 s (by omega) hfs⟩)
            · exact absurd rfl c3
  exact loop (2 ^ m) 0 0 (by omega) (bI_0 fi se wa n m)
set_option maxHeartbeats 4000000 in
set_option maxRecDepth 100000 in
/-- most -/
theorem kM_most (l : Launch) (D : va_G) (cA : ClassId) (y p1 p2 p3 p4 : Nat) (n m : Nat) (fi se wa : Nat → Nat) (g1 : 1 ≤ n) (g2 : n ≤ 9) (g3 : m ≤ 14) (g4 : hok fi se n m) (g5 : ∀ v, v < 9 → wa v ≤ 50)  : CtP l yM_most (.code yM_most cM_most 1 (some .int)) 4 D cA [.ref y] [(y, .inr (5, [.int (nI n), .int (nI m), .ref p1, .ref p2, .ref p3, .ref p4])), (p1, .inl (cA, 14, .inl (aN fi))), (p2, .inl (cA, 14, .inl (aN se))), (p3, .inl (cA, 9, .inl (aN wa)))] (fun r => mostP fi se wa m r) := by
  refine mkP [(0, .ref y)] (by decide) rfl (Nat.le_of_ble_eq_true rfl) ?_
  intro E Q hE C hret
  have h2m : 2 ^ m ≤ 2 ^ 14 := p2_le g3
  refine s_aload_n 0 C dM_most_0 rfl ?_
  refine s_callP (n := 0) [0, 1, 2, 3] 0 [] C pfP (kM_best E.2.1 D cA y p1 p2 p3 p4 n m fi se wa g1 g2 g3 g4 g5 ) gM_61 dM_most_1 (by decide +kernel) rfl rfl rfl rfl (by decide) (by decide) rfl rfl (Nat.le_of_ble_eq_true rfl) (Nat.zero_le _) (Nat.zero_le _) (fun rb hb9 => ?_)
  obtain ⟨B, b1, b2, b3⟩ := hb9
  refine s_top b3 ?_
  refine s_callPS (n := 1) [] [] C pfP (kM_size E.2.1 D cA B (by omega)) gM_40 dM_most_4 (by decide +kernel) rfl (by decide) (by decide) rfl rfl (Nat.le_of_ble_eq_true rfl) (Nat.zero_le _) (Nat.zero_le _) (fun rs hs9 => ?_)
  refine s_top hs9 ?_
  refine hret _ _ _ dM_most_7 rfl ⟨bm B, b2, ?_⟩
  have := hsz_pad (M := bm B) (m := m) (fun j hj => bm_ge b1 hj) (14 - m)
  rw [show m + (14 - m) = 14 by omega] at this
  rw [this]
set_option maxHeartbeats 4000000 in
set_option maxRecDepth 100000 in
/-- factor -/
theorem kM_factor (l : Launch) (D : va_G) (cA : ClassId) (y p1 p2 p3 p4 : Nat) (n m : Nat) (fi se wa : Nat → Nat) (hG : GOK n m fi se wa)  : CtP l yM_factor (.code yM_factor cM_factor 3 (some .int)) 3 D cA [.ref y] [(y, .inr (5, [.int (nI n), .int (nI m), .ref p1, .ref p2, .ref p3, .ref p4])), (p1, .inl (cA, 14, .inl (aN fi))), (p2, .inl (cA, 14, .inl (aN se))), (p3, .inl (cA, 9, .inl (aN wa)))] (fun r => facP fi se wa n m r) := by
  refine mkP [(0, .ref y)] (by decide) rfl (Nat.le_of_ble_eq_true rfl) ?_
  intro E Q hE C hret
  obtain ⟨g1, g2, g3, g4, g50, g6⟩ := hG
  have g5 : ∀ v, v < 9 → wa v ≤ 50 := fun v hv => by have := g50 v hv; omega
  have h2m : 2 ^ m ≤ 2 ^ 14 := p2_le g3
  have h2p : 1 ≤ 2 ^ m := Nat.one_le_two_pow
  refine s_iconst (-1) C dM_factor_0 (by decide) ?_
  refine s_istore_n [(0, .ref y), (1, .int (-1))] [1, 0] C dM_factor_1 (by decide) rfl ?_
  refine s_iconst (nI 0) C dM_factor_2 (by decide) ?_
  refine s_istore_n [(0, .ref y), (1, .int (-1)), (2, .int (nI 0))] [1, 2, 0] C dM_factor_3 (by decide) rfl ?_
  have loop : ∀ k i (fo : Int32), i + k = 2 ^ m → ((fo = -1 ∧ ∀ s, s < i → ¬ isFa fi se wa n m s) ∨ ∃ F, fo = nI F ∧ F < i ∧ isFa fi se wa n m F ∧ ∀ s, s < i → isFa fi se wa n m s → okey F ≤ okey s) → ST E 3 Q 0 0 (pf E D [(y, .inr (5, [.int (nI n), .int (nI m), .ref p1, .ref p2, .ref p3, .ref p4])), (p1, .inl (cA, 14, .inl (aN fi))), (p2, .inl (cA, 14, .inl (aN se))), (p3, .inl (cA, 9, .inl (aN wa)))]) [(0, .ref y), (1, .int fo), (2, .int (nI i))] [] 4 := by
    intro k
    induction k with
    | zero =>
      intro i fo hi hfo
      refine s_iload_n 2 C dM_factor_4 rfl ?_
      refine s_aload_n 0 C dM_factor_5 rfl ?_
      refine s_callP (n := 0) [0] 0 [.int (nI i)] C pfP (kM_allEdges E.2.1 D cA y p1 p2 p3 p4 n m g3) gM_48 dM_factor_6 (by decide +kernel) rfl rfl rfl rfl (by decide) (by decide) rfl rfl (Nat.le_of_ble_eq_true rfl) (Nat.zero_le _) (Nat.zero_le _) (fun ra hall9 => ?_)
      refine s_top hall9 ?_
      refine s_icmp_gtN 40 C dM_factor_9 (by decide) (by omega) (by omega) (fun c1 => ?_) (fun c1 => ?_)
      · refine s_iload_n 1 C dM_factor_40 rfl ?_
        have e : 2 ^ m = i := by omega
        subst e
        refine hret _ _ _ dM_factor_41 rfl ?_
        rcases hfo with ⟨f1, f2⟩ | ⟨F, f1, f2, f3, f4⟩
        · exact Or.inr ⟨f2, f1⟩
        · exact Or.inl ⟨F, f2, f3, f4, f1⟩
      · exact absurd c1 (by omega)
    | succ k ih =>
      intro i fo hi hfo
      refine s_iload_n 2 C dM_factor_4 rfl ?_
      refine s_aload_n 0 C dM_factor_5 rfl ?_
      refine s_callP (n := 0) [0] 0 [.int (nI i)] C pfP (kM_allEdges E.2.1 D cA y p1 p2 p3 p4 n m g3) gM_48 dM_factor_6 (by decide +kernel) rfl rfl rfl rfl (by decide) (by decide) rfl rfl (Nat.le_of_ble_eq_true rfl) (Nat.zero_le _) (Nat.zero_le _) (fun ra hall9 => ?_)
      refine s_top hall9 ?_
      refine s_icmp_gtN 40 C dM_factor_9 (by decide) (by omega) (by omega) (fun c1 => ?_) (fun c1 => ?_)
      · exact absurd c1 (by omega)
      · have chk : (∀ s, s < i → isFa fi se wa n m s → okey i ≤ okey s) → ST E 3 Q 0 0 (pf E D [(y, .inr (5, [.int (nI n), .int (nI m), .ref p1, .ref p2, .ref p3, .ref p4])), (p1, .inl (cA, 14, .inl (aN fi))), (p2, .inl (cA, 14, .inl (aN se))), (p3, .inl (cA, 9, .inl (aN wa)))]) [(0, .ref y), (1, .int fo), (2, .int (nI i))] [] 24 := by
          intro hle
          refine s_aload_n 0 C dM_factor_24 rfl ?_
          refine s_iload_n 2 C dM_factor_25 rfl ?_
          refine s_callP (n := 1) [0, 1, 2, 3] 0 [] C pfP (kM_isFactor E.2.1 D cA y p1 p2 p3 p4 n m fi se wa g1 g2 g3 g4 g5 i (by omega)) gM_52 dM_factor_26 (by decide +kernel) rfl rfl rfl rfl (by decide) (by decide) rfl rfl (Nat.le_of_ble_eq_true rfl) (Nat.zero_le _) (Nat.zero_le _) (fun rf hfc => ?_)
          rcases hfc with ⟨er, hy⟩ | ⟨er, hn⟩
          · refine s_top er ?_
            refine s_if_eqN 34 C dM_factor_29 (by decide) (by decide) (fun c4 => ?_) (fun c4 => ?_)
            · exact absurd c4 (by decide)
            · refine s_iload_n 2 C dM_factor_32 rfl ?_
              refine s_istore_n [(0, .ref y), (1, .int (nI i)), (2, .int (nI i))] [1, 0, 2] C dM_factor_33 (by decide) rfl ?_
              refine s_iinc (j := 2) (nI (i + 1)) [(0, .ref y), (1, .int (nI i)), (2, .int (nI (i + 1)))] [1, 2, 0] C dM_factor_34 rfl (inc1 _) (by decide) rfl ?_
              refine s_goto (tgt := 4) C dM_factor_37 (by decide) ?_
              refine ih (i + 1) (nI i) (by omega) (Or.inr ⟨i, rfl, by omega, hy, fun s hs hfs => ?_⟩)
              by_cases z : s = i
              · subst z; exact Nat.le_refl _
              · exact hle s (by omega) hfs
          · refine s_top er ?_
            refine s_if_eqN 34 C dM_factor_29 (by decide) (by decide) (fun c4 => ?_) (fun c4 => ?_)
            · refine s_iinc (j := 2) (nI (i + 1)) [(0, .ref y), (1, .int fo), (2, .int (nI (i + 1)))] [1, 2, 0] C dM_factor_34 rfl (inc1 _) (by decide) rfl ?_
              refine s_goto (tgt := 4) C dM_factor_37 (by decide) ?_
              refine ih (i + 1) fo (by omega) ?_
              rcases hfo with ⟨f1, f2⟩ | ⟨F, f1, f2, f3, f4⟩
              · refine Or.inl ⟨f1, fun s hs => ?_⟩
                by_cases z : s = i
                · subst z; exact hn
                · exact f2 s (by omega)
              · refine Or.inr ⟨F, f1, by omega, f3, fun s hs hfs => ?_⟩
                by_cases z : s = i
                · subst z; exact absurd hfs hn
                · exact f4 s (by omega) hfs
            · exact absurd rfl c4
        rcases id hfo with ⟨f1, f2⟩ | ⟨F, f1, f2, f3, f4⟩
        · refine s_iload_n 1 C dM_factor_12 rfl ?_
          refine s_if_lt 24 C dM_factor_13 (by decide) (fun c2 => ?_) (fun c2 => ?_)
          · exact chk (fun s hs hfs => absurd hfs (f2 s hs))
          · exact absurd (by rw [f1]; decide) c2
        · refine s_iload_n 1 C dM_factor_12 rfl ?_
          refine s_if_lt 24 C dM_factor_13 (by decide) (fun c2 => ?_) (fun c2 => ?_)
          · rw [f1] at c2
            exact absurd c2 (nI_pos (by omega))
          · refine s_iload_n 2 C dM_factor_16 rfl ?_
            refine s_iload_n 1 C dM_factor_17 rfl ?_
            refine s_top f1 ?_
            refine s_callPS (n := 2) [] [] C pfP (kM_isBefore E.2.1 D cA i F (by omega) (by omega)) gM_58 dM_factor_18 (by decide +kernel) rfl (by decide) (by decide) rfl rfl (Nat.le_of_ble_eq_true rfl) (Nat.zero_le _) (Nat.zero_le _) (fun rb hbf => ?_)
            rcases hbf with ⟨er, hy2⟩ | ⟨er, hn2⟩
            · refine s_top er ?_
              refine s_if_eqN 34 C dM_factor_21 (by decide) (by decide) (fun c3 => ?_) (fun c3 => ?_)
              · exact absurd c3 (by decide)
              · exact chk (fun s hs hfs => Nat.le_trans (Nat.le_of_lt hy2) (f4 s hs hfs))
            · refine s_top er ?_
              refine s_if_eqN 34 C dM_factor_21 (by decide) (by decide) (fun c3 => ?_) (fun c3 => ?_)
              · refine s_iinc (j := 2) (nI (i + 1)) [(0, .ref y), (1, .int fo), (2, .int (nI (i + 1)))] [1, 2, 0] C dM_factor_34 rfl (inc1 _) (by decide) rfl ?_
                refine s_goto (tgt := 4) C dM_factor_37 (by decide) ?_
                refine ih (i + 1) fo (by omega) (Or.inr ⟨F, f1, by omega, f3, fun s hs hfs => ?_⟩)
                by_cases z : s = i
                · subst z; omega
                · exact f4 s (by omega) hfs
              · exact absurd rfl c3
  exact loop (2 ^ m) 0 (-1) (by omega) (Or.inl ⟨rfl, fun s hs => absurd hs (by omega)⟩)
