set_option maxHeartbeats 4000000 in
set_option maxRecDepth 100000 in
/-- takes over the graph without the edge w -/
theorem kS_load (l : Launch) (D : va_G) (cA : ClassId) (s b1 b2 b3 b4 b5 N : Nat) (hd tl : Nat → Nat) (TW LF AH : Nat → Int32) (en fs fc : Int32) (g a1 a2 a3 n m : Nat) (fi se wa : Nat → Nat) (w : Nat) (wo : Int32) (hm : m ≤ 14) (hG : hok fi se 9 m) (hwo : ∀ e, e < m → (nI e = wo ↔ e = w)) : CtV (S := (Nat → Nat) × (Nat → Nat) × (Nat → Int32) × (Nat → Nat)) l yS_load (.code yS_load cS_load 4 none) 2 0 0 D cA [.ref s, .ref g, .int wo] [(s, .inr (3, [.int (nI N), .ref b1, .ref b2, .ref b3, .ref b4, .ref b5, .int en, .int fs, .int fc])), (b1, .inl (cA, 14, .inl (aN hd))), (b2, .inl (cA, 14, .inl (aN tl))), (b3, .inl (cA, 14, .inl TW)), (b4, .inl (cA, 9, .inl LF)), (b5, .inl (cA, 9, .inl AH)), (g, .inr (2, [.int (nI n), .int (nI m), .ref a1, .ref a2, .ref a3])), (a1, .inl (cA, 14, .inl (aN fi))), (a2, .inl (cA, 14, .inl (aN se))), (a3, .inl (cA, 9, .inl (aN wa)))] (fun u => ldI fi se w m u.1 u.2.1 u.2.2.1 u.2.2.2) (fun u => [(s, .inr (3, [.int (nI (ldN m w)), .ref b1, .ref b2, .ref b3, .ref b4, .ref b5, .int en, .int fs, .int fc])), (b1, .inl (cA, 14, .inl (aN u.1))), (b2, .inl (cA, 14, .inl (aN u.2.1))), (b3, .inl (cA, 14, .inl u.2.2.1)), (b4, .inl (cA, 9, .inl (aN wa))), (b5, .inl (cA, 9, .inl (aN u.2.2.2))), (g, .inr (2, [.int (nI n), .int (nI m), .ref a1, .ref a2, .ref a3])), (a1, .inl (cA, 14, .inl (aN fi))), (a2, .inl (cA, 14, .inl (aN se))), (a3, .inl (cA, 9, .inl (aN wa)))]) := by
  refine mkV [(0, .ref s), (1, .ref g), (2, .int wo)] (by decide) rfl (Nat.le_of_ble_eq_true rfl) ?_
  intro E A Q hE hi C hA hret
  refine s_aload_n 0 C dS_load_0 rfl ?_
  refine s_iconst (nI 0) C dS_load_1 (by decide) ?_
  refine s_put 0 0 [(s, .inr (3, [.int (nI 0), .ref b1, .ref b2, .ref b3, .ref b4, .ref b5, .int en, .int fs, .int fc])), (b1, .inl (cA, 14, .inl (aN hd))), (b2, .inl (cA, 14, .inl (aN tl))), (b3, .inl (cA, 14, .inl TW)), (b4, .inl (cA, 9, .inl LF)), (b5, .inl (cA, 9, .inl AH)), (g, .inr (2, [.int (nI n), .int (nI m), .ref a1, .ref a2, .ref a3])), (a1, .inl (cA, 14, .inl (aN fi))), (a2, .inl (cA, 14, .inl (aN se))), (a3, .inl (cA, 9, .inl (aN wa)))] C inS tyS_ok nmS flS_27 dS_load_2 rfl rfl (by decide) rfl rfl rfl (Nat.le_of_ble_eq_true rfl) rfl ?_
  refine s_iconst (nI 0) C dS_load_5 (by decide) ?_
  refine s_istore_n [(0, .ref s), (1, .ref g), (2, .int wo), (3, .int (nI 0))] [1, 2, 3, 0] C dS_load_6 (by decide) rfl ?_
  have loop : ∀ k i (T T2 : Nat → Int32), i + k = 9 → (∀ j, j < i → T j = nI (wa j)) → (∀ j, j < i → T2 j = nI 0) → ST E 4 Q 0 0 (wf E A D [(s, .inr (3, [.int (nI 0), .ref b1, .ref b2, .ref b3, .ref b4, .ref b5, .int en, .int fs, .int fc])), (b1, .inl (cA, 14, .inl (aN hd))), (b2, .inl (cA, 14, .inl (aN tl))), (b3, .inl (cA, 14, .inl TW)), (b4, .inl (cA, 9, .inl T)), (b5, .inl (cA, 9, .inl T2)), (g, .inr (2, [.int (nI n), .int (nI m), .ref a1, .ref a2, .ref a3])), (a1, .inl (cA, 14, .inl (aN fi))), (a2, .inl (cA, 14, .inl (aN se))), (a3, .inl (cA, 9, .inl (aN wa)))]) [(0, .ref s), (1, .ref g), (2, .int wo), (3, .int (nI i))] [] 7 := by
    intro k
    induction k with
    | zero =>
      intro i T T2 hi hT hT2
      refine s_iload_n 3 C dS_load_7 rfl ?_
      refine s_bipush (nI 9) C dS_load_8 (by decide) ?_
      refine s_icmp_geN 38 C dS_load_10 (by decide) (by omega) (by omega) (fun c1 => ?_) (fun c1 => ?_)
      · have e : i = 9 := by omega
        subst e
        refine s_arr (aN wa) 4 [(s, .inr (3, [.int (nI 0), .ref b1, .ref b2, .ref b3, .ref b4, .ref b5, .int en, .int fs, .int fc])), (b1, .inl (cA, 14, .inl (aN hd))), (b2, .inl (cA, 14, .inl (aN tl))), (b3, .inl (cA, 14, .inl TW)), (b4, .inl (cA, 9, .inl (aN wa))), (b5, .inl (cA, 9, .inl T2)), (g, .inr (2, [.int (nI n), .int (nI m), .ref a1, .ref a2, .ref a3])), (a1, .inl (cA, 14, .inl (aN fi))), (a2, .inl (cA, 14, .inl (aN se))), (a3, .inl (cA, 9, .inl (aN wa)))] rfl (fun j hj => hT j hj) rfl ?_
        refine s_arr (aN (fun _ => 0)) 5 [(s, .inr (3, [.int (nI 0), .ref b1, .ref b2, .ref b3, .ref b4, .ref b5, .int en, .int fs, .int fc])), (b1, .inl (cA, 14, .inl (aN hd))), (b2, .inl (cA, 14, .inl (aN tl))), (b3, .inl (cA, 14, .inl TW)), (b4, .inl (cA, 9, .inl (aN wa))), (b5, .inl (cA, 9, .inl (aN (fun _ => 0)))), (g, .inr (2, [.int (nI n), .int (nI m), .ref a1, .ref a2, .ref a3])), (a1, .inl (cA, 14, .inl (aN fi))), (a2, .inl (cA, 14, .inl (aN se))), (a3, .inl (cA, 9, .inl (aN wa)))] rfl (fun j hj => hT2 j hj) rfl ?_
        refine s_iconst (nI 0) C dS_load_38 (by decide) ?_
        refine s_istore_n [(0, .ref s), (1, .ref g), (2, .int wo), (3, .int (nI 0))] [1, 2, 3, 0] C dS_load_39 (by decide) rfl ?_
        have loop2 : ∀ k2 e (hd tl : Nat → Nat) (TW : Nat → Int32) (ah : Nat → Nat), e + k2 = m → ldI fi se w e hd tl TW ah → ST E 4 Q 0 0 (wf E A D [(s, .inr (3, [.int (nI (ldN e w)), .ref b1, .ref b2, .ref b3, .ref b4, .ref b5, .int en, .int fs, .int fc])), (b1, .inl (cA, 14, .inl (aN hd))), (b2, .inl (cA, 14, .inl (aN tl))), (b3, .inl (cA, 14, .inl TW)), (b4, .inl (cA, 9, .inl (aN wa))), (b5, .inl (cA, 9, .inl (aN ah))), (g, .inr (2, [.int (nI n), .int (nI m), .ref a1, .ref a2, .ref a3])), (a1, .inl (cA, 14, .inl (aN fi))), (a2, .inl (cA, 14, .inl (aN se))), (a3, .inl (cA, 9, .inl (aN wa)))]) [(0, .ref s), (1, .ref g), (2, .int wo), (3, .int (nI e))] [] 40 := by
          intro k2
          induction k2 with
          | zero =>
            intro e hd tl TW ah hi hI
            refine s_iload_n 3 C dS_load_40 rfl ?_
            refine s_aload_n 1 C dS_load_41 rfl ?_
            refine s_get (.int (nI m)) 6 1 C wfP inG flS_36 dS_load_42 rfl rfl (by decide) rfl ?_
            refine s_icmp_geN 93 C dS_load_45 (by decide) (by omega) (by omega) (fun c1 => ?_) (fun c1 => ?_)
            · have e9 : e = m := by omega
              subst e9
              exact hret (hd, tl, TW, ah) _ _ dS_load_93 hI
            · exact absurd c1 (by omega)
          | succ k2 ih2 =>
            intro e hd tl TW ah hi hI
            refine s_iload_n 3 C dS_load_40 rfl ?_
            refine s_aload_n 1 C dS_load_41 rfl ?_
            refine s_get (.int (nI m)) 6 1 C wfP inG flS_36 dS_load_42 rfl rfl (by decide) rfl ?_
            refine s_icmp_geN 93 C dS_load_45 (by decide) (by omega) (by omega) (fun c1 => ?_) (fun c1 => ?_)
            · exact absurd c1 (by omega)
            · refine s_iload_n 3 C dS_load_48 rfl ?_
              refine s_iload_n 2 C dS_load_49 rfl ?_
              refine s_icmp_eq 87 C dS_load_50 (by decide) (fun c2 => ?_) (fun c2 => ?_)
              · have ew : e = w := (hwo e c1).mp c2
                refine s_iinc (j := 3) (nI (e + 1)) [(0, .ref s), (1, .ref g), (2, .int wo), (3, .int (nI (e + 1)))] [1, 2, 3, 0] C dS_load_87 rfl (inc1 _) (by decide) rfl ?_
                refine s_goto (tgt := 40) C dS_load_90 (by decide) ?_
                have h9 := ih2 (e + 1) hd tl TW ah (by omega) (ld_skip ew hI)
                rw [ldN_s ew] at h9
                exact h9
              · have ew : e ≠ w := fun q => c2 ((hwo e c1).mpr q)
                obtain ⟨f1, f2, f3⟩ := hG e c1
                have hNe := ldN_le e w
                refine s_aload_n 0 C dS_load_53 rfl ?_
                refine s_aload_n 1 C dS_load_54 rfl ?_
                refine s_get (.ref a1) 6 2 C wfP inG flS_39 dS_load_55 rfl rfl (by decide) rfl ?_
                refine s_iload_n 3 C dS_load_58 rfl ?_
                refine s_ialdN 7 C wfP dS_load_59 rfl (by omega) (by decide) ?_
                refine s_aload_n 1 C dS_load_60 rfl ?_
                refine s_get (.ref a2) 6 3 C wfP inG flS_42 dS_load_61 rfl rfl (by decide) rfl ?_
                refine s_iload_n 3 C dS_load_64 rfl ?_
                refine s_ialdN 8 C wfP dS_load_65 rfl (by omega) (by decide) ?_
                refine s_min C mlS_45 dS_load_66 (by decide) (Nat.le_of_ble_eq_true rfl) (Nat.zero_le _) (Nat.zero_le _) ?_
                refine s_top (minI (by omega) (by omega)) ?_
                refine s_aload_n 1 C dS_load_69 rfl ?_
                refine s_get (.ref a1) 6 2 C wfP inG flS_39 dS_load_70 rfl rfl (by decide) rfl ?_
                refine s_iload_n 3 C dS_load_73 rfl ?_
                refine s_ialdN 7 C wfP dS_load_74 rfl (by omega) (by decide) ?_
                refine s_aload_n 1 C dS_load_75 rfl ?_
                refine s_get (.ref a2) 6 3 C wfP inG flS_42 dS_load_76 rfl rfl (by decide) rfl ?_
                refine s_iload_n 3 C dS_load_79 rfl ?_
                refine s_ialdN 8 C wfP dS_load_80 rfl (by omega) (by decide) ?_
                refine s_max C mlS_51 dS_load_81 (by decide) (Nat.le_of_ble_eq_true rfl) (Nat.zero_le _) (Nat.zero_le _) ?_
                refine s_top (maxI (by omega) (by omega)) ?_
                refine s_callV (n := 2) (wr := [(b4, .inl (cA, 9, .inl (aN wa))), (g, .inr (2, [.int (nI n), .int (nI m), .ref a1, .ref a2, .ref a3])), (a1, .inl (cA, 14, .inl (aN fi))), (a2, .inl (cA, 14, .inl (aN se))), (a3, .inl (cA, 9, .inl (aN wa)))]) [0, 1, 2, 3, 5] [4, 6, 7, 8, 9] 0 [] C hA (kS_take E.2.1 D cA s b1 b2 b3 b4 b5 (ldN e w) hd tl ah TW en fs fc (min (fi e) (se e)) (max (fi e) (se e)) (by omega) (by omega) (by omega) (fun j hj => (hI.1 j hj).1) (fun j hj => (hI.1 j hj).2.1)) gS_54 dS_load_84 (by decide +kernel) rfl rfl (by decide) (by decide) (by decide) rfl rfl rfl (by decide) (by decide) rfl rfl (Nat.le_of_ble_eq_true rfl) (Nat.zero_le _) (Nat.zero_le _) (fun u hu => ?_)
                refine s_sub (ws' := [(s, .inr (3, [.int (nI (ldN e w + 1)), .ref b1, .ref b2, .ref b3, .ref b4, .ref b5, .int en, .int fs, .int fc])), (b1, .inl (cA, 14, .inl (aN (nup hd (ldN e w) (min (fi e) (se e)))))), (b2, .inl (cA, 14, .inl (aN (nup tl (ldN e w) (max (fi e) (se e)))))), (b3, .inl (cA, 14, .inl u)), (b4, .inl (cA, 9, .inl (aN wa))), (b5, .inl (cA, 9, .inl (aN (up2 ah (min (fi e) (se e)) (max (fi e) (se e)))))), (g, .inr (2, [.int (nI n), .int (nI m), .ref a1, .ref a2, .ref a3])), (a1, .inl (cA, 14, .inl (aN fi))), (a2, .inl (cA, 14, .inl (aN se))), (a3, .inl (cA, 9, .inl (aN wa)))]) [5, 6, 7, 8, 0, 9, 1, 2, 3, 4] rfl (by decide) ?_
                refine s_iinc (j := 3) (nI (e + 1)) [(0, .ref s), (1, .ref g), (2, .int wo), (3, .int (nI (e + 1)))] [1, 2, 3, 0] C dS_load_87 rfl (inc1 _) (by decide) rfl ?_
                refine s_goto (tgt := 40) C dS_load_90 (by decide) ?_
                have h9 := ih2 (e + 1) _ _ u _ (by omega) (ld_take ew f1 f2 f3 hI hu)
                rw [ldN_n ew] at h9
                exact h9
        have h9 := loop2 m 0 hd tl TW _ (by omega) (ld_0 fi se w hd tl TW)
        exact h9
      · exact absurd c1 (by omega)
    | succ k ih =>
      intro i T T2 hi hT hT2
      refine s_iload_n 3 C dS_load_7 rfl ?_
      refine s_bipush (nI 9) C dS_load_8 (by decide) ?_
      refine s_icmp_geN 38 C dS_load_10 (by decide) (by omega) (by omega) (fun c1 => ?_) (fun c1 => ?_)
      · exact absurd c1 (by omega)
      · refine s_aload_n 0 C dS_load_13 rfl ?_
        refine s_get (.ref b4) 0 4 C wfP inS flS_21 dS_load_14 rfl rfl (by decide) rfl ?_
        refine s_iload_n 3 C dS_load_17 rfl ?_
        refine s_aload_n 1 C dS_load_18 rfl ?_
        refine s_get (.ref a3) 6 4 C wfP inG flS_31 dS_load_19 rfl rfl (by decide) rfl ?_
        refine s_iload_n 3 C dS_load_22 rfl ?_
        refine s_ialdN 9 C wfP dS_load_23 rfl (by omega) (by decide) ?_
        refine s_iast 4 [(s, .inr (3, [.int (nI 0), .ref b1, .ref b2, .ref b3, .ref b4, .ref b5, .int en, .int fs, .int fc])), (b1, .inl (cA, 14, .inl (aN hd))), (b2, .inl (cA, 14, .inl (aN tl))), (b3, .inl (cA, 14, .inl TW)), (b4, .inl (cA, 9, .inl (upd T i (nI (wa i))))), (b5, .inl (cA, 9, .inl T2)), (g, .inr (2, [.int (nI n), .int (nI m), .ref a1, .ref a2, .ref a3])), (a1, .inl (cA, 14, .inl (aN fi))), (a2, .inl (cA, 14, .inl (aN se))), (a3, .inl (cA, 9, .inl (aN wa)))] C dS_load_24 rfl (by omega) (by decide) rfl ?_
        refine s_aload_n 0 C dS_load_25 rfl ?_
        refine s_get (.ref b5) 0 5 C wfP inS flS_24 dS_load_26 rfl rfl (by decide) rfl ?_
        refine s_iload_n 3 C dS_load_29 rfl ?_
        refine s_iconst (nI 0) C dS_load_30 (by decide) ?_
        refine s_iast 5 [(s, .inr (3, [.int (nI 0), .ref b1, .ref b2, .ref b3, .ref b4, .ref b5, .int en, .int fs, .int fc])), (b1, .inl (cA, 14, .inl (aN hd))), (b2, .inl (cA, 14, .inl (aN tl))), (b3, .inl (cA, 14, .inl TW)), (b4, .inl (cA, 9, .inl (upd T i (nI (wa i))))), (b5, .inl (cA, 9, .inl (upd T2 i (nI 0)))), (g, .inr (2, [.int (nI n), .int (nI m), .ref a1, .ref a2, .ref a3])), (a1, .inl (cA, 14, .inl (aN fi))), (a2, .inl (cA, 14, .inl (aN se))), (a3, .inl (cA, 9, .inl (aN wa)))] C dS_load_31 rfl (by omega) (by decide) rfl ?_
        refine s_iinc (j := 3) (nI (i + 1)) [(0, .ref s), (1, .ref g), (2, .int wo), (3, .int (nI (i + 1)))] [1, 2, 3, 0] C dS_load_32 rfl (inc1 _) (by decide) rfl ?_
        refine s_goto (tgt := 7) C dS_load_35 (by decide) ?_
        refine ih (i + 1) _ _ (by omega) (fun j hj => ?_) (fun j hj => ?_)
        · unfold upd
          by_cases q : j = i
          · subst q; rw [if_pos rfl]
          · rw [if_neg q]; exact hT j (by omega)
        · unfold upd
          by_cases q : j = i
          · subst q; rw [if_pos rfl]
          · rw [if_neg q]; exact hT2 j (by omega)
  exact loop 9 0 LF AH (by omega) (fun j hj => absurd hj (by omega)) (fun j hj => absurd hj (by omega))
