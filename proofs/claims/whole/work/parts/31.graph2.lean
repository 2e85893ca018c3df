theorem lt_up (f g : Nat → Nat) (i : Nat) : nup (fun j => if j < i then f j else g j) i (f i) = (fun j => if j < i + 1 then f j else g j) := by
  funext j
  unfold nup
  by_cases q : j = i
  · subst q; rw [if_pos rfl, if_pos (by omega)]
  · rw [if_neg q]
    show (if j < i then f j else g j) = _
    by_cases r : j < i
    · rw [if_pos r, if_pos (by omega)]
    · rw [if_neg r, if_neg (by omega)]
set_option maxHeartbeats 4000000 in
set_option maxRecDepth 100000 in
/-- all that is asked -/
theorem kG_wantedByAll (l : Launch) (D : va_G) (cA : ClassId) (g a1 a2 a3 n m : Nat) (wa : Nat → Nat) (hn : n ≤ 9) (hw : ∀ v, v < 9 → wa v ≤ 14) : CtP l yG_wantedByAll (.code yG_wantedByAll cG_wantedByAll 3 (some .int)) 0 D cA [.ref g] [(g, .inr (2, [.int (nI n), .int (nI m), .ref a1, .ref a2, .ref a3])), (a3, .inl (cA, 9, .inl (aN wa)))] (fun r => r = nI (su wa n)) := by
  refine mkP [(0, .ref g)] (by decide) rfl (Nat.le_of_ble_eq_true rfl) ?_
  intro E Q hE C hret
  refine s_iconst (nI 0) C dG_wantedByAll_0 (by decide) ?_
  refine s_istore_n [(0, .ref g), (1, .int (nI 0))] [1, 0] C dG_wantedByAll_1 (by decide) rfl ?_
  refine s_iconst (nI 0) C dG_wantedByAll_2 (by decide) ?_
  refine s_istore_n [(0, .ref g), (1, .int (nI 0)), (2, .int (nI 0))] [1, 2, 0] C dG_wantedByAll_3 (by decide) rfl ?_
  have loop : ∀ k i, i + k = n → ST E 3 Q 0 0 (pf E D [(g, .inr (2, [.int (nI n), .int (nI m), .ref a1, .ref a2, .ref a3])), (a3, .inl (cA, 9, .inl (aN wa)))]) [(0, .ref g), (1, .int (nI (su wa i))), (2, .int (nI i))] [] 4 := by
    intro k
    induction k with
    | zero =>
      intro i hi
      refine s_iload_n 2 C dG_wantedByAll_4 rfl ?_
      refine s_aload_n 0 C dG_wantedByAll_5 rfl ?_
      refine s_get (.int (nI n)) 0 0 C pfP inG flG_9 dG_wantedByAll_6 rfl rfl (by decide) rfl ?_
      refine s_icmp_geN 27 C dG_wantedByAll_9 (by decide) (by omega) (by omega) (fun c1 => ?_) (fun c1 => ?_)
      · refine s_iload_n 1 C dG_wantedByAll_27 rfl ?_
        have e : i = n := by omega
        subst e
        exact hret _ _ _ dG_wantedByAll_28 rfl rfl
      · exact absurd c1 (by omega)
    | succ k ih =>
      intro i hi
      refine s_iload_n 2 C dG_wantedByAll_4 rfl ?_
      refine s_aload_n 0 C dG_wantedByAll_5 rfl ?_
      refine s_get (.int (nI n)) 0 0 C pfP inG flG_9 dG_wantedByAll_6 rfl rfl (by decide) rfl ?_
      refine s_icmp_geN 27 C dG_wantedByAll_9 (by decide) (by omega) (by omega) (fun c1 => ?_) (fun c1 => ?_)
      · exact absurd c1 (by omega)
      · refine s_iload_n 1 C dG_wantedByAll_12 rfl ?_
        refine s_aload_n 0 C dG_wantedByAll_13 rfl ?_
        refine s_get (.ref a3) 0 4 C pfP inG flG_22 dG_wantedByAll_14 rfl rfl (by decide) rfl ?_
        refine s_iload_n 2 C dG_wantedByAll_17 rfl ?_
        refine s_ialdN 1 C pfP dG_wantedByAll_18 rfl (by omega) (by decide) ?_
        refine s_iaddN C dG_wantedByAll_19 ?_
        refine s_istore_n [(0, .ref g), (1, .int (nI (su wa i + (wa i)))), (2, .int (nI i))] [1, 0, 2] C dG_wantedByAll_20 (by decide) rfl ?_
        refine s_iinc (j := 2) (nI (i + 1)) [(0, .ref g), (1, .int (nI (su wa i + (wa i)))), (2, .int (nI (i + 1)))] [1, 2, 0] C dG_wantedByAll_21 rfl (inc1 _) (by decide) rfl ?_
        refine s_goto (tgt := 4) C dG_wantedByAll_24 (by decide) ?_
        exact ih (i + 1) (by omega)
  exact loop n 0 (by omega)
set_option maxHeartbeats 4000000 in
set_option maxRecDepth 100000 in
/-- a new graph of t vertices -/
theorem kG_clear (l : Launch) (D : va_G) (cA : ClassId) (g a1 a2 a3 n m t : Nat) (wa : Nat → Nat) : CtV (S := Unit) l yG_clear (.code yG_clear cG_clear 3 none) 0 0 0 D cA [.ref g, .int (nI t)] [(g, .inr (2, [.int (nI n), .int (nI m), .ref a1, .ref a2, .ref a3])), (a3, .inl (cA, 9, .inl (aN wa)))] (fun _ => True) (fun _ => [(g, .inr (2, [.int (nI t), .int (nI 0), .ref a1, .ref a2, .ref a3])), (a3, .inl (cA, 9, .inl (aN (fun _ => 0))))]) := by
  refine mkV [(0, .ref g), (1, .int (nI t))] (by decide) rfl (Nat.le_of_ble_eq_true rfl) ?_
  intro E A Q hE hi C hA hret
  refine s_aload_n 0 C dG_clear_0 rfl ?_
  refine s_iload_n 1 C dG_clear_1 rfl ?_
  refine s_put 0 0 [(g, .inr (2, [.int (nI t), .int (nI m), .ref a1, .ref a2, .ref a3])), (a3, .inl (cA, 9, .inl (aN wa)))] C inG tyG_ok nmG flG_9 dG_clear_2 rfl rfl (by decide) rfl rfl rfl (Nat.le_of_ble_eq_true rfl) rfl ?_
  refine s_aload_n 0 C dG_clear_5 rfl ?_
  refine s_iconst (nI 0) C dG_clear_6 (by decide) ?_
  refine s_put 0 1 [(g, .inr (2, [.int (nI t), .int (nI 0), .ref a1, .ref a2, .ref a3])), (a3, .inl (cA, 9, .inl (aN wa)))] C inG tyG_ok nmG flG_25 dG_clear_7 rfl rfl (by decide) rfl rfl rfl (Nat.le_of_ble_eq_true rfl) rfl ?_
  refine s_iconst (nI 0) C dG_clear_10 (by decide) ?_
  refine s_istore_n [(0, .ref g), (1, .int (nI t)), (2, .int (nI 0))] [1, 2, 0] C dG_clear_11 (by decide) rfl ?_
  have loop : ∀ k i, i + k = 9 → ST E 3 Q 0 0 (wf E A D [(g, .inr (2, [.int (nI t), .int (nI 0), .ref a1, .ref a2, .ref a3])), (a3, .inl (cA, 9, .inl (aN (fun j => if j < i then 0 else wa j))))]) [(0, .ref g), (1, .int (nI t)), (2, .int (nI i))] [] 12 := by
    intro k
    induction k with
    | zero =>
      intro i hi
      refine s_iload_n 2 C dG_clear_12 rfl ?_
      refine s_bipush (nI 9) C dG_clear_13 (by decide) ?_
      refine s_icmp_geN 31 C dG_clear_15 (by decide) (by omega) (by omega) (fun c1 => ?_) (fun c1 => ?_)
      · have e : i = 9 := by omega
        subst e
        refine s_arr (aN (fun _ => 0)) 1 [(g, .inr (2, [.int (nI t), .int (nI 0), .ref a1, .ref a2, .ref a3])), (a3, .inl (cA, 9, .inl (aN (fun _ => 0))))] rfl (fun j hj => ?_) rfl ?_
        · show nI (if j < 9 then 0 else wa j) = nI 0
          rw [if_pos hj]
        exact hret () _ _ dG_clear_31 trivial
      · exact absurd c1 (by omega)
    | succ k ih =>
      intro i hi
      refine s_iload_n 2 C dG_clear_12 rfl ?_
      refine s_bipush (nI 9) C dG_clear_13 (by decide) ?_
      refine s_icmp_geN 31 C dG_clear_15 (by decide) (by omega) (by omega) (fun c1 => ?_) (fun c1 => ?_)
      · exact absurd c1 (by omega)
      · refine s_aload_n 0 C dG_clear_18 rfl ?_
        refine s_get (.ref a3) 0 4 C wfP inG flG_22 dG_clear_19 rfl rfl (by decide) rfl ?_
        refine s_iload_n 2 C dG_clear_22 rfl ?_
        refine s_iconst (nI 0) C dG_clear_23 (by decide) ?_
        refine s_iastN 1 [(g, .inr (2, [.int (nI t), .int (nI 0), .ref a1, .ref a2, .ref a3])), (a3, .inl (cA, 9, .inl (aN (nup (fun j => if j < i then 0 else wa j) i 0))))] C dG_clear_24 rfl (by omega) (by decide) rfl ?_
        refine s_iinc (j := 2) (nI (i + 1)) [(0, .ref g), (1, .int (nI t)), (2, .int (nI (i + 1)))] [1, 2, 0] C dG_clear_25 rfl (inc1 _) (by decide) rfl ?_
        refine s_goto (tgt := 12) C dG_clear_28 (by decide) ?_
        have e : nup (fun j => if j < i then 0 else wa j) i 0 = (fun j => if j < i + 1 then 0 else wa j) := lt_up (fun _ => 0) wa i
        rw [e]
        exact ih (i + 1) (by omega)
  have e0 : wa = (fun j => if j < 0 then 0 else wa j) := by
    funext j
    rw [if_neg (by omega)]
  have h0 := loop 9 0 (by omega)
  rw [← e0] at h0
  exact h0
set_option maxHeartbeats 4000000 in
set_option maxRecDepth 100000 in
/-- one more edge -/
theorem kG_append (l : Launch) (D : va_G) (cA : ClassId) (g a1 a2 a3 n m a b : Nat) (fi se : Nat → Nat) (hm : m < 14) : CtV (S := Unit) l yG_append (.code yG_append cG_append 3 none) 0 0 0 D cA [.ref g, .int (nI a), .int (nI b)] [(g, .inr (2, [.int (nI n), .int (nI m), .ref a1, .ref a2, .ref a3])), (a1, .inl (cA, 14, .inl (aN fi))), (a2, .inl (cA, 14, .inl (aN se)))] (fun _ => True) (fun _ => [(g, .inr (2, [.int (nI n), .int (nI (m + 1)), .ref a1, .ref a2, .ref a3])), (a1, .inl (cA, 14, .inl (aN (nup fi m a)))), (a2, .inl (cA, 14, .inl (aN (nup se m b))))]) := by
  refine mkV [(0, .ref g), (1, .int (nI a)), (2, .int (nI b))] (by decide) rfl (Nat.le_of_ble_eq_true rfl) ?_
  intro E A Q hE hi C hA hret
  refine s_aload_n 0 C dG_append_0 rfl ?_
  refine s_get (.ref a1) 0 2 C wfP inG flG_15 dG_append_1 rfl rfl (by decide) rfl ?_
  refine s_aload_n 0 C dG_append_4 rfl ?_
  refine s_get (.int (nI m)) 0 1 C wfP inG flG_25 dG_append_5 rfl rfl (by decide) rfl ?_
  refine s_iload_n 1 C dG_append_8 rfl ?_
  refine s_iastN 1 [(g, .inr (2, [.int (nI n), .int (nI m), .ref a1, .ref a2, .ref a3])), (a1, .inl (cA, 14, .inl (aN (nup fi m a)))), (a2, .inl (cA, 14, .inl (aN se)))] C dG_append_9 rfl (by omega) (by decide) rfl ?_
  refine s_aload_n 0 C dG_append_10 rfl ?_
  refine s_get (.ref a2) 0 3 C wfP inG flG_19 dG_append_11 rfl rfl (by decide) rfl ?_
  refine s_aload_n 0 C dG_append_14 rfl ?_
  refine s_get (.int (nI m)) 0 1 C wfP inG flG_25 dG_append_15 rfl rfl (by decide) rfl ?_
  refine s_iload_n 2 C dG_append_18 rfl ?_
  refine s_iastN 2 [(g, .inr (2, [.int (nI n), .int (nI m), .ref a1, .ref a2, .ref a3])), (a1, .inl (cA, 14, .inl (aN (nup fi m a)))), (a2, .inl (cA, 14, .inl (aN (nup se m b))))] C dG_append_19 rfl (by omega) (by decide) rfl ?_
  refine s_aload_n 0 C dG_append_20 rfl ?_
  refine s_dup C dG_append_21 rfl ?_
  refine s_get (.int (nI m)) 0 1 C wfP inG flG_25 dG_append_22 rfl rfl (by decide) rfl ?_
  refine s_iconst (nI 1) C dG_append_25 (by decide) ?_
  refine s_iaddN C dG_append_26 ?_
  refine s_put 0 1 [(g, .inr (2, [.int (nI n), .int (nI (m + 1)), .ref a1, .ref a2, .ref a3])), (a1, .inl (cA, 14, .inl (aN (nup fi m a)))), (a2, .inl (cA, 14, .inl (aN (nup se m b))))] C inG tyG_ok nmG flG_25 dG_append_27 rfl rfl (by decide) rfl rfl rfl (Nat.le_of_ble_eq_true rfl) rfl ?_
  exact hret () _ _ dG_append_30 trivial
theorem lt_rm (f : Nat → Nat) (e i : Nat) (h : e ≤ i) : nup (fun j => if e ≤ j ∧ j < i then f (j + 1) else f j) i (f (i + 1)) = (fun j => if e ≤ j ∧ j < i + 1 then f (j + 1) else f j) := by
  funext j
  unfold nup
  by_cases q : j = i
  · subst q; rw [if_pos rfl, if_pos (by omega)]
  · rw [if_neg q]
    show (if e ≤ j ∧ j < i then f (j + 1) else f j) = _
    by_cases r : e ≤ j ∧ j < i
    · rw [if_pos r, if_pos (by omega)]
    · rw [if_neg r, if_neg (by omega)]
set_option maxHeartbeats 4000000 in
set_option maxRecDepth 100000 in
/-- an edge goes -/
theorem kG_remove (l : Launch) (D : va_G) (cA : ClassId) (g a1 a2 a3 n m t : Nat) (fi se : Nat → Nat) (hm : m ≤ 14) (ht : t < m) : CtV (S := Unit) l yG_remove (.code yG_remove cG_remove 3 none) 0 0 0 D cA [.ref g, .int (nI t)] [(g, .inr (2, [.int (nI n), .int (nI m), .ref a1, .ref a2, .ref a3])), (a1, .inl (cA, 14, .inl (aN fi))), (a2, .inl (cA, 14, .inl (aN se)))] (fun _ => True) (fun _ => [(g, .inr (2, [.int (nI n), .int (nI (m - 1)), .ref a1, .ref a2, .ref a3])), (a1, .inl (cA, 14, .inl (aN (fun j => if t ≤ j ∧ j < m - 1 then fi (j + 1) else fi j)))), (a2, .inl (cA, 14, .inl (aN (fun j => if t ≤ j ∧ j < m - 1 then se (j + 1) else se j))))]) := by
  refine mkV [(0, .ref g), (1, .int (nI t))] (by decide) rfl (Nat.le_of_ble_eq_true rfl) ?_
  intro E A Q hE hi C hA hret
  refine s_aload_n 0 C dG_remove_0 rfl ?_
  refine s_dup C dG_remove_1 rfl ?_
  refine s_get (.int (nI m)) 0 1 C wfP inG flG_25 dG_remove_2 rfl rfl (by decide) rfl ?_
  refine s_iconst (nI 1) C dG_remove_5 (by decide) ?_
  refine s_isubN C dG_remove_6 (by omega) ?_
  refine s_put 0 1 [(g, .inr (2, [.int (nI n), .int (nI (m - 1)), .ref a1, .ref a2, .ref a3])), (a1, .inl (cA, 14, .inl (aN fi))), (a2, .inl (cA, 14, .inl (aN se)))] C inG tyG_ok nmG flG_25 dG_remove_7 rfl rfl (by decide) rfl rfl rfl (Nat.le_of_ble_eq_true rfl) rfl ?_
  refine s_iload_n 1 C dG_remove_10 rfl ?_
  refine s_istore_n [(0, .ref g), (1, .int (nI t)), (2, .int (nI t))] [1, 2, 0] C dG_remove_11 (by decide) rfl ?_
  have loop : ∀ k i, i + k = m - 1 → t ≤ i → ST E 3 Q 0 0 (wf E A D [(g, .inr (2, [.int (nI n), .int (nI (m - 1)), .ref a1, .ref a2, .ref a3])), (a1, .inl (cA, 14, .inl (aN (fun j => if t ≤ j ∧ j < i then fi (j + 1) else fi j)))), (a2, .inl (cA, 14, .inl (aN (fun j => if t ≤ j ∧ j < i then se (j + 1) else se j))))]) [(0, .ref g), (1, .int (nI t)), (2, .int (nI i))] [] 12 := by
    intro k
    induction k with
    | zero =>
      intro i hi hti
      refine s_iload_n 2 C dG_remove_12 rfl ?_
      refine s_aload_n 0 C dG_remove_13 rfl ?_
      refine s_get (.int (nI (m - 1))) 0 1 C wfP inG flG_25 dG_remove_14 rfl rfl (by decide) rfl ?_
      refine s_icmp_geN 54 C dG_remove_17 (by decide) (by omega) (by omega) (fun c1 => ?_) (fun c1 => ?_)
      · have e : i = m - 1 := by omega
        subst e
        exact hret () _ _ dG_remove_54 trivial
      · exact absurd c1 (by omega)
    | succ k ih =>
      intro i hi hti
      refine s_iload_n 2 C dG_remove_12 rfl ?_
      refine s_aload_n 0 C dG_remove_13 rfl ?_
      refine s_get (.int (nI (m - 1))) 0 1 C wfP inG flG_25 dG_remove_14 rfl rfl (by decide) rfl ?_
      refine s_icmp_geN 54 C dG_remove_17 (by decide) (by omega) (by omega) (fun c1 => ?_) (fun c1 => ?_)
      · exact absurd c1 (by omega)
      · refine s_aload_n 0 C dG_remove_20 rfl ?_
        refine s_get (.ref a1) 0 2 C wfP inG flG_15 dG_remove_21 rfl rfl (by decide) rfl ?_
        refine s_iload_n 2 C dG_remove_24 rfl ?_
        refine s_aload_n 0 C dG_remove_25 rfl ?_
        refine s_get (.ref a1) 0 2 C wfP inG flG_15 dG_remove_26 rfl rfl (by decide) rfl ?_
        refine s_iload_n 2 C dG_remove_29 rfl ?_
        refine s_iconst (nI 1) C dG_remove_30 (by decide) ?_
        refine s_iaddN C dG_remove_31 ?_
        refine s_ialdN 1 C wfP dG_remove_32 rfl (by omega) (by decide) ?_
        refine s_top (congrArg nI (if_neg (by omega) : (if t ≤ i + 1 ∧ i + 1 < i then fi (i + 1 + 1) else fi (i + 1)) = fi (i + 1))) ?_
        refine s_iastN 1 [(g, .inr (2, [.int (nI n), .int (nI (m - 1)), .ref a1, .ref a2, .ref a3])), (a1, .inl (cA, 14, .inl (aN (nup (fun j => if t ≤ j ∧ j < i then fi (j + 1) else fi j) i (fi (i + 1)))))), (a2, .inl (cA, 14, .inl (aN (fun j => if t ≤ j ∧ j < i then se (j + 1) else se j))))] C dG_remove_33 rfl (by omega) (by decide) rfl ?_
        refine s_aload_n 0 C dG_remove_34 rfl ?_
        refine s_get (.ref a2) 0 3 C wfP inG flG_19 dG_remove_35 rfl rfl (by decide) rfl ?_
        refine s_iload_n 2 C dG_remove_38 rfl ?_
        refine s_aload_n 0 C dG_remove_39 rfl ?_
        refine s_get (.ref a2) 0 3 C wfP inG flG_19 dG_remove_40 rfl rfl (by decide) rfl ?_
        refine s_iload_n 2 C dG_remove_43 rfl ?_
        refine s_iconst (nI 1) C dG_remove_44 (by decide) ?_
        refine s_iaddN C dG_remove_45 ?_
        refine s_ialdN 2 C wfP dG_remove_46 rfl (by omega) (by decide) ?_
        refine s_top (congrArg nI (if_neg (by omega) : (if t ≤ i + 1 ∧ i + 1 < i then se (i + 1 + 1) else se (i + 1)) = se (i + 1))) ?_
        refine s_iastN 2 [(g, .inr (2, [.int (nI n), .int (nI (m - 1)), .ref a1, .ref a2, .ref a3])), (a1, .inl (cA, 14, .inl (aN (nup (fun j => if t ≤ j ∧ j < i then fi (j + 1) else fi j) i (fi (i + 1)))))), (a2, .inl (cA, 14, .inl (aN (nup (fun j => if t ≤ j ∧ j < i then se (j + 1) else se j) i (se (i + 1))))))] C dG_remove_47 rfl (by omega) (by decide) rfl ?_
        refine s_iinc (j := 2) (nI (i + 1)) [(0, .ref g), (1, .int (nI t)), (2, .int (nI (i + 1)))] [1, 2, 0] C dG_remove_48 rfl (inc1 _) (by decide) rfl ?_
        refine s_goto (tgt := 12) C dG_remove_51 (by decide) ?_
        rw [lt_rm fi t i hti, lt_rm se t i hti]
        exact ih (i + 1) (by omega) (by omega)
  have e0 : ∀ f : Nat → Nat, f = (fun j => if t ≤ j ∧ j < t then f (j + 1) else f j) := by
    intro f
    funext j
    rw [if_neg (by omega)]
  have h0 := loop (m - 1 - t) t (by omega) (Nat.le_refl _)
  rw [← e0 fi, ← e0 se] at h0
  exact h0
set_option maxHeartbeats 4000000 in
set_option maxRecDepth 100000 in
/-- what is known goes -/
theorem kA_forget (l : Launch) (D : va_G) (cA : ClassId) (k : Nat) (so ta ex bs bc wu ww : Int32) : CtV (S := Unit) l yA_forget (.code yA_forget cA_forget 1 none) 0 0 0 D cA [.ref k] [(k, .inr (0, [.int so, .int ta, .int ex, .int bs, .int bc, .int wu, .int ww]))] (fun _ => True) (fun _ => [(k, .inr (0, [.int (nI 0), .int (nI 0), .int (nI 0), .int bs, .int bc, .int wu, .int ww]))]) := by
  refine mkV [(0, .ref k)] (by decide) rfl (Nat.le_of_ble_eq_true rfl) ?_
  intro E A Q hE hi C hA hret
  refine s_aload_n 0 C dA_forget_0 rfl ?_
  refine s_iconst (nI 0) C dA_forget_1 (by decide) ?_
  refine s_put 0 0 [(k, .inr (0, [.int (nI 0), .int ta, .int ex, .int bs, .int bc, .int wu, .int ww]))] C inA tyA_ok nmA flA_7 dA_forget_2 rfl rfl (by decide) rfl rfl rfl (Nat.le_of_ble_eq_true rfl) rfl ?_
  refine s_aload_n 0 C dA_forget_5 rfl ?_
  refine s_iconst (nI 0) C dA_forget_6 (by decide) ?_
  refine s_put 0 1 [(k, .inr (0, [.int (nI 0), .int (nI 0), .int ex, .int bs, .int bc, .int wu, .int ww]))] C inA tyA_ok nmA flA_13 dA_forget_7 rfl rfl (by decide) rfl rfl rfl (Nat.le_of_ble_eq_true rfl) rfl ?_
  refine s_aload_n 0 C dA_forget_10 rfl ?_
  refine s_iconst (nI 0) C dA_forget_11 (by decide) ?_
  refine s_put 0 2 [(k, .inr (0, [.int (nI 0), .int (nI 0), .int (nI 0), .int bs, .int bc, .int wu, .int ww]))] C inA tyA_ok nmA flA_16 dA_forget_12 rfl rfl (by decide) rfl rfl rfl (Nat.le_of_ble_eq_true rfl) rfl ?_
  exact hret () _ _ dA_forget_15 trivial
