set_option maxHeartbeats 4000000 in
set_option maxRecDepth 100000 in
/-- the best set -/
theorem kS_maximize (l : Launch) (D : va_G) (cA : ClassId) (s b1 b2 b3 b4 b5 N : Nat) (hd tl lf ah : Nat → Nat) (TW : Nat → Int32) (en fs fc : Int32) (hN : N ≤ 14) (hE : hok hd tl 9 N) (hTW : twOK hd tl TW N) (hlf : ∀ v, v < 9 → lf v ≤ 100) (hah : ∀ v, v < 9 → ah v = su (fun j => hin hd tl j v) N) : CtV (S := Nat × Nat) l yS_maximize (.code yS_maximize cS_maximize 1 none) 20 0 0 D cA [.ref s] [(s, .inr (3, [.int (nI N), .ref b1, .ref b2, .ref b3, .ref b4, .ref b5, .int en, .int fs, .int fc])), (b1, .inl (cA, 14, .inl (aN hd))), (b2, .inl (cA, 14, .inl (aN tl))), (b3, .inl (cA, 14, .inl TW)), (b4, .inl (cA, 9, .inl (aN lf))), (b5, .inl (cA, 9, .inl (aN ah)))] (fun u => u.1 < 2 ^ N ∧ bst hd tl 9 N lf (bm u.1) ∧ hsz N (bm u.1) + 1 = u.2) (fun u => [(s, .inr (3, [.int (nI N), .ref b1, .ref b2, .ref b3, .ref b4, .ref b5, .int (nI N), .int (nI u.1), .int (nI u.2 - 1)])), (b1, .inl (cA, 14, .inl (aN hd))), (b2, .inl (cA, 14, .inl (aN tl))), (b3, .inl (cA, 14, .inl TW)), (b4, .inl (cA, 9, .inl (aN lf))), (b5, .inl (cA, 9, .inl (aN ah)))]) := by
  refine mkV [(0, .ref s)] (by decide) rfl (Nat.le_of_ble_eq_true rfl) ?_
  intro E A Q hE1 hi C hA hret
  have hah2 : ∀ v, v < 9 → ah v = su (fun j => if 0 ≤ j then hin hd tl j v else 0) N := fun v hv => by
    rw [hah v hv]
    exact su_cg (fun j _ => by rw [if_pos (Nat.zero_le _)])
  have hlf2 : ∀ v, v < 9 → lf v = lf v - hdg hd tl N (bm 0) v := fun v hv => by
    have h0 : hdg hd tl N (bm 0) v = 0 := su_z (fun j _ => by rw [bm_0]; simp)
    omega
  refine s_aload_n 0 C dS_maximize_0 rfl ?_
  refine s_iconst (nI 0) C dS_maximize_1 (by decide) ?_
  refine s_put 0 7 [(s, .inr (3, [.int (nI N), .ref b1, .ref b2, .ref b3, .ref b4, .ref b5, .int en, .int (nI 0), .int fc])), (b1, .inl (cA, 14, .inl (aN hd))), (b2, .inl (cA, 14, .inl (aN tl))), (b3, .inl (cA, 14, .inl TW)), (b4, .inl (cA, 9, .inl (aN lf))), (b5, .inl (cA, 9, .inl (aN ah)))] C inS tyS_ok nmS flS_58 dS_maximize_2 rfl rfl (by decide) rfl rfl rfl (Nat.le_of_ble_eq_true rfl) rfl ?_
  refine s_aload_n 0 C dS_maximize_5 rfl ?_
  refine s_iconst (nI 0) C dS_maximize_6 (by decide) ?_
  refine s_put 0 8 [(s, .inr (3, [.int (nI N), .ref b1, .ref b2, .ref b3, .ref b4, .ref b5, .int en, .int (nI 0), .int (nI 0)])), (b1, .inl (cA, 14, .inl (aN hd))), (b2, .inl (cA, 14, .inl (aN tl))), (b3, .inl (cA, 14, .inl TW)), (b4, .inl (cA, 9, .inl (aN lf))), (b5, .inl (cA, 9, .inl (aN ah)))] C inS tyS_ok nmS flS_61 dS_maximize_7 rfl rfl (by decide) rfl rfl rfl (Nat.le_of_ble_eq_true rfl) rfl ?_
  refine s_aload_n 0 C dS_maximize_10 rfl ?_
  refine s_aload_n 0 C dS_maximize_11 rfl ?_
  refine s_get (.int (nI N)) 0 0 C wfP inS flS_27 dS_maximize_12 rfl rfl (by decide) rfl ?_
  refine s_put 0 6 [(s, .inr (3, [.int (nI N), .ref b1, .ref b2, .ref b3, .ref b4, .ref b5, .int (nI N), .int (nI 0), .int (nI 0)])), (b1, .inl (cA, 14, .inl (aN hd))), (b2, .inl (cA, 14, .inl (aN tl))), (b3, .inl (cA, 14, .inl TW)), (b4, .inl (cA, 9, .inl (aN lf))), (b5, .inl (cA, 9, .inl (aN ah)))] C inS tyS_ok nmS flS_64 dS_maximize_15 rfl rfl (by decide) rfl rfl rfl (Nat.le_of_ble_eq_true rfl) rfl ?_
  refine s_aload_n 0 C dS_maximize_18 rfl ?_
  refine s_iconst (nI 0) C dS_maximize_19 (by decide) ?_
  refine s_iconst (nI 0) C dS_maximize_20 (by decide) ?_
  refine s_iconst (nI 0) C dS_maximize_21 (by decide) ?_
  refine s_eqw (ws' := [(s, .inr (3, [.int (nI N), .ref b1, .ref b2, .ref b3, .ref b4, .ref b5, .int (nI N), .int (nI 0), .int (nI 1 - 1)])), (b1, .inl (cA, 14, .inl (aN hd))), (b2, .inl (cA, 14, .inl (aN tl))), (b3, .inl (cA, 14, .inl TW)), (b4, .inl (cA, 9, .inl (aN lf))), (b5, .inl (cA, 9, .inl (aN ah)))]) (by rw [nI_pred]) ?_
  refine s_callVS (n := 4) (wr := []) [0, 1, 2, 3, 4, 5] [] [] C hA (kS_explore E.2.1 D cA s b1 b2 b3 b4 b5 N hd tl lf TW N hN hE hTW hlf (by omega) N 0 0 0 0 1 lf ah (by omega) (exB_0 hd tl N lf (twf TW)) hlf2 hah2 (by omega)) gS_67 dS_maximize_22 (by decide +kernel) rfl rfl (by decide) (by decide) (by decide) (by omega) (by decide) rfl rfl (Nat.le_of_ble_eq_true rfl) (Nat.zero_le _) (Nat.zero_le _) (fun u hu => ?_)
  refine s_sub (ws' := [(s, .inr (3, [.int (nI N), .ref b1, .ref b2, .ref b3, .ref b4, .ref b5, .int (nI N), .int (nI u.1), .int (nI u.2 - 1)])), (b1, .inl (cA, 14, .inl (aN hd))), (b2, .inl (cA, 14, .inl (aN tl))), (b3, .inl (cA, 14, .inl TW)), (b4, .inl (cA, 9, .inl (aN lf))), (b5, .inl (cA, 9, .inl (aN ah)))]) [0, 1, 2, 3, 4, 5] rfl (by decide) ?_
  exact hret u _ _ dS_maximize_25 (ex_best (twOK_tw hN hTW) hu)
set_option maxHeartbeats 4000000 in
set_option maxRecDepth 100000 in
/-- is there a fair set of so many edges -/
theorem kS_reaches (l : Launch) (D : va_G) (cA : ClassId) (s b1 b2 b3 b4 b5 N : Nat) (hd tl lf ah : Nat → Nat) (TW : Nat → Int32) (en fs fc : Int32) (t : Nat) (ht : t ≤ 20) (hN : N ≤ 14) (hE : hok hd tl 9 N) (hTW : twOK hd tl TW N) (hlf : ∀ v, v < 9 → lf v ≤ 100) (hah : ∀ v, v < 9 → ah v = su (fun j => hin hd tl j v) N) : CtI (S := Nat × Nat) l yS_reaches (.code yS_reaches cS_reaches 2 (some .boolean)) 20 0 0 D cA [.ref s, .int (nI t)] [(s, .inr (3, [.int (nI N), .ref b1, .ref b2, .ref b3, .ref b4, .ref b5, .int en, .int fs, .int fc])), (b1, .inl (cA, 14, .inl (aN hd))), (b2, .inl (cA, 14, .inl (aN tl))), (b3, .inl (cA, 14, .inl TW)), (b4, .inl (cA, 9, .inl (aN lf))), (b5, .inl (cA, 9, .inl (aN ah)))] (fun r u => (r = nI 1 ∧ ∃ M, hfa hd tl 9 N lf M ∧ t ≤ hsz N M) ∨ (r = nI 0 ∧ ¬ ∃ M, hfa hd tl 9 N lf M ∧ t ≤ hsz N M)) (fun u => [(s, .inr (3, [.int (nI N), .ref b1, .ref b2, .ref b3, .ref b4, .ref b5, .int (nI t), .int (nI u.1), .int (nI u.2 - 1)])), (b1, .inl (cA, 14, .inl (aN hd))), (b2, .inl (cA, 14, .inl (aN tl))), (b3, .inl (cA, 14, .inl TW)), (b4, .inl (cA, 9, .inl (aN lf))), (b5, .inl (cA, 9, .inl (aN ah)))]) := by
  refine mkI [(0, .ref s), (1, .int (nI t))] (by decide) rfl (Nat.le_of_ble_eq_true rfl) ?_
  intro E A Q hE1 C hA hret
  have hah2 : ∀ v, v < 9 → ah v = su (fun j => if 0 ≤ j then hin hd tl j v else 0) N := fun v hv => by
    rw [hah v hv]
    exact su_cg (fun j _ => by rw [if_pos (Nat.zero_le _)])
  have hlf2 : ∀ v, v < 9 → lf v = lf v - hdg hd tl N (bm 0) v := fun v hv => by
    have h0 : hdg hd tl N (bm 0) v = 0 := su_z (fun j _ => by rw [bm_0]; simp)
    omega
  refine s_aload_n 0 C dS_reaches_0 rfl ?_
  refine s_iconst (nI 0) C dS_reaches_1 (by decide) ?_
  refine s_put 0 7 [(s, .inr (3, [.int (nI N), .ref b1, .ref b2, .ref b3, .ref b4, .ref b5, .int en, .int (nI 0), .int fc])), (b1, .inl (cA, 14, .inl (aN hd))), (b2, .inl (cA, 14, .inl (aN tl))), (b3, .inl (cA, 14, .inl TW)), (b4, .inl (cA, 9, .inl (aN lf))), (b5, .inl (cA, 9, .inl (aN ah)))] C inS tyS_ok nmS flS_58 dS_reaches_2 rfl rfl (by decide) rfl rfl rfl (Nat.le_of_ble_eq_true rfl) rfl ?_
  refine s_aload_n 0 C dS_reaches_5 rfl ?_
  refine s_iload_n 1 C dS_reaches_6 rfl ?_
  refine s_iconst (nI 1) C dS_reaches_7 (by decide) ?_
  refine s_isub C dS_reaches_8 ?_
  refine s_top (y := nI t - 1) (by rw [nI_one]) ?_
  refine s_put 0 8 [(s, .inr (3, [.int (nI N), .ref b1, .ref b2, .ref b3, .ref b4, .ref b5, .int en, .int (nI 0), .int (nI t - 1)])), (b1, .inl (cA, 14, .inl (aN hd))), (b2, .inl (cA, 14, .inl (aN tl))), (b3, .inl (cA, 14, .inl TW)), (b4, .inl (cA, 9, .inl (aN lf))), (b5, .inl (cA, 9, .inl (aN ah)))] C inS tyS_ok nmS flS_61 dS_reaches_9 rfl rfl (by decide) rfl rfl rfl (Nat.le_of_ble_eq_true rfl) rfl ?_
  refine s_aload_n 0 C dS_reaches_12 rfl ?_
  refine s_iload_n 1 C dS_reaches_13 rfl ?_
  refine s_put 0 6 [(s, .inr (3, [.int (nI N), .ref b1, .ref b2, .ref b3, .ref b4, .ref b5, .int (nI t), .int (nI 0), .int (nI t - 1)])), (b1, .inl (cA, 14, .inl (aN hd))), (b2, .inl (cA, 14, .inl (aN tl))), (b3, .inl (cA, 14, .inl TW)), (b4, .inl (cA, 9, .inl (aN lf))), (b5, .inl (cA, 9, .inl (aN ah)))] C inS tyS_ok nmS flS_64 dS_reaches_14 rfl rfl (by decide) rfl rfl rfl (Nat.le_of_ble_eq_true rfl) rfl ?_
  refine s_aload_n 0 C dS_reaches_17 rfl ?_
  refine s_iconst (nI 0) C dS_reaches_18 (by decide) ?_
  refine s_iconst (nI 0) C dS_reaches_19 (by decide) ?_
  refine s_iconst (nI 0) C dS_reaches_20 (by decide) ?_
  refine s_callVS (n := 4) (wr := []) [0, 1, 2, 3, 4, 5] [] [] C hA (kS_explore E.2.1 D cA s b1 b2 b3 b4 b5 N hd tl lf TW t hN hE hTW hlf ht N 0 0 0 0 t lf ah (by omega) (exB_0 hd tl N lf (twf TW)) hlf2 hah2 (by omega)) gS_67 dS_reaches_21 (by decide +kernel) rfl rfl (by decide) (by decide) (by decide) (by omega) (by decide) rfl rfl (Nat.le_of_ble_eq_true rfl) (Nat.zero_le _) (Nat.zero_le _) (fun u hu => ?_)
  refine s_sub (ws' := [(s, .inr (3, [.int (nI N), .ref b1, .ref b2, .ref b3, .ref b4, .ref b5, .int (nI t), .int (nI u.1), .int (nI u.2 - 1)])), (b1, .inl (cA, 14, .inl (aN hd))), (b2, .inl (cA, 14, .inl (aN tl))), (b3, .inl (cA, 14, .inl TW)), (b4, .inl (cA, 9, .inl (aN lf))), (b5, .inl (cA, 9, .inl (aN ah)))]) [0, 1, 2, 3, 4, 5] rfl (by decide) ?_
  have hub := ex_bd hu
  have hrc := ex_reach (twOK_tw hN hTW) hu
  refine s_aload_n 0 C dS_reaches_24 rfl ?_
  refine s_get (.int (nI u.2 - 1)) 0 8 C wfP inS flS_61 dS_reaches_25 rfl rfl (by decide) rfl ?_
  refine s_iload_n 1 C dS_reaches_28 rfl ?_
  refine s_icmp_lt 36 C dS_reaches_29 (by decide) (fun c1 => ?_) (fun c1 => ?_)
  · have c2 : u.2 ≤ t := (fc_lt (by omega) (by omega)).mp c1
    refine s_iconst (nI 0) C dS_reaches_36 (by decide) ?_
    exact hret _ u _ _ dS_reaches_37 rfl (Or.inr ⟨rfl, fun h => absurd (hrc.mpr h) (by omega)⟩)
  · have c2 : ¬ u.2 ≤ t := fun h => c1 ((fc_lt (by omega) (by omega)).mpr h)
    refine s_iconst (nI 1) C dS_reaches_32 (by decide) ?_
    refine s_goto (tgt := 37) C dS_reaches_33 (by decide) ?_
    exact hret _ u _ _ dS_reaches_37 rfl (Or.inl ⟨rfl, hrc.mp (by omega)⟩)
set_option maxHeartbeats 4000000 in
set_option maxRecDepth 100000 in
/-- Search() -/
theorem kS_init (l : Launch) (D : va_G) (cA : ClassId) (s : Nat) : CtV (S := Nat × Nat × Nat × Nat × Nat) l yS_init (.code yS_init cS_init 1 none) 1 5 60 D cA [.ref s] [(s, .inr (3, [.int 0, .null, .null, .null, .null, .null, .int 0, .int 0, .int 0]))] (fun _ => True) (fun u => [(s, .inr (3, [.int (nI 0), .ref u.1, .ref u.2.1, .ref u.2.2.1, .ref u.2.2.2.1, .ref u.2.2.2.2, .int (nI 0), .int (nI 0), .int (nI 0)])), (u.1, .inl (cA, 14, .inl (aN (fun _ => 0)))), (u.2.1, .inl (cA, 14, .inl (aN (fun _ => 0)))), (u.2.2.1, .inl (cA, 14, .inl (fun _ => 0))), (u.2.2.2.1, .inl (cA, 9, .inl (fun _ => 0))), (u.2.2.2.2, .inl (cA, 9, .inl (fun _ => 0)))]) := by
  refine mkV [(0, .ref s)] (by decide) rfl (Nat.le_of_ble_eq_true rfl) ?_
  intro E A Q hE hi C hA hret
  refine s_aload_n 0 C dS_init_0 rfl ?_
  refine s_objInit C mlS_3 dS_init_1 (by decide) (Nat.le_of_ble_eq_true rfl) ?_
  refine s_aload_n 0 C dS_init_4 rfl ?_
  refine s_bipush (nI 14) C dS_init_5 (by decide) ?_
  refine s_newa C hA dS_init_7 (by decide) (by decide) (by decide) (fun q1 => ?_)
  refine s_eqw (ws' := [(s, .inr (3, [.int 0, .null, .null, .null, .null, .null, .int 0, .int 0, .int 0])), (q1, .inl (cA, 14, .inl (fun _ => 0)))]) rfl ?_
  refine s_putF 0 1 [(s, .inr (3, [.int 0, .ref q1, .null, .null, .null, .null, .int 0, .int 0, .int 0])), (q1, .inl (cA, 14, .inl (fun _ => 0)))] C hi inS tyS_ok nmS flS_9 dS_init_9 rfl rfl (by decide) rfl rfl rfl rfl (Nat.le_of_ble_eq_true rfl) rfl ?_
  refine s_aload_n 0 C dS_init_12 rfl ?_
  refine s_bipush (nI 14) C dS_init_13 (by decide) ?_
  refine s_newa C hA dS_init_15 (by decide) (by decide) (by decide) (fun q2 => ?_)
  refine s_eqw (ws' := [(s, .inr (3, [.int 0, .ref q1, .null, .null, .null, .null, .int 0, .int 0, .int 0])), (q1, .inl (cA, 14, .inl (fun _ => 0))), (q2, .inl (cA, 14, .inl (fun _ => 0)))]) rfl ?_
  refine s_putF 0 2 [(s, .inr (3, [.int 0, .ref q1, .ref q2, .null, .null, .null, .int 0, .int 0, .int 0])), (q1, .inl (cA, 14, .inl (fun _ => 0))), (q2, .inl (cA, 14, .inl (fun _ => 0)))] C hi inS tyS_ok nmS flS_15 dS_init_17 rfl rfl (by decide) rfl rfl rfl rfl (Nat.le_of_ble_eq_true rfl) rfl ?_
  refine s_aload_n 0 C dS_init_20 rfl ?_
  refine s_bipush (nI 14) C dS_init_21 (by decide) ?_
  refine s_newa C hA dS_init_23 (by decide) (by decide) (by decide) (fun q3 => ?_)
  refine s_eqw (ws' := [(s, .inr (3, [.int 0, .ref q1, .ref q2, .null, .null, .null, .int 0, .int 0, .int 0])), (q1, .inl (cA, 14, .inl (fun _ => 0))), (q2, .inl (cA, 14, .inl (fun _ => 0))), (q3, .inl (cA, 14, .inl (fun _ => 0)))]) rfl ?_
  refine s_putF 0 3 [(s, .inr (3, [.int 0, .ref q1, .ref q2, .ref q3, .null, .null, .int 0, .int 0, .int 0])), (q1, .inl (cA, 14, .inl (fun _ => 0))), (q2, .inl (cA, 14, .inl (fun _ => 0))), (q3, .inl (cA, 14, .inl (fun _ => 0)))] C hi inS tyS_ok nmS flS_18 dS_init_25 rfl rfl (by decide) rfl rfl rfl rfl (Nat.le_of_ble_eq_true rfl) rfl ?_
  refine s_aload_n 0 C dS_init_28 rfl ?_
  refine s_bipush (nI 9) C dS_init_29 (by decide) ?_
  refine s_newa C hA dS_init_31 (by decide) (by decide) (by decide) (fun q4 => ?_)
  refine s_eqw (ws' := [(s, .inr (3, [.int 0, .ref q1, .ref q2, .ref q3, .null, .null, .int 0, .int 0, .int 0])), (q1, .inl (cA, 14, .inl (fun _ => 0))), (q2, .inl (cA, 14, .inl (fun _ => 0))), (q3, .inl (cA, 14, .inl (fun _ => 0))), (q4, .inl (cA, 9, .inl (fun _ => 0)))]) rfl ?_
  refine s_putF 0 4 [(s, .inr (3, [.int 0, .ref q1, .ref q2, .ref q3, .ref q4, .null, .int 0, .int 0, .int 0])), (q1, .inl (cA, 14, .inl (fun _ => 0))), (q2, .inl (cA, 14, .inl (fun _ => 0))), (q3, .inl (cA, 14, .inl (fun _ => 0))), (q4, .inl (cA, 9, .inl (fun _ => 0)))] C hi inS tyS_ok nmS flS_21 dS_init_33 rfl rfl (by decide) rfl rfl rfl rfl (Nat.le_of_ble_eq_true rfl) rfl ?_
  refine s_aload_n 0 C dS_init_36 rfl ?_
  refine s_bipush (nI 9) C dS_init_37 (by decide) ?_
  refine s_newa C hA dS_init_39 (by decide) (by decide) (by decide) (fun q5 => ?_)
  refine s_eqw (ws' := [(s, .inr (3, [.int 0, .ref q1, .ref q2, .ref q3, .ref q4, .null, .int 0, .int 0, .int 0])), (q1, .inl (cA, 14, .inl (fun _ => 0))), (q2, .inl (cA, 14, .inl (fun _ => 0))), (q3, .inl (cA, 14, .inl (fun _ => 0))), (q4, .inl (cA, 9, .inl (fun _ => 0))), (q5, .inl (cA, 9, .inl (fun _ => 0)))]) rfl ?_
  refine s_putF 0 5 [(s, .inr (3, [.int 0, .ref q1, .ref q2, .ref q3, .ref q4, .ref q5, .int 0, .int 0, .int 0])), (q1, .inl (cA, 14, .inl (fun _ => 0))), (q2, .inl (cA, 14, .inl (fun _ => 0))), (q3, .inl (cA, 14, .inl (fun _ => 0))), (q4, .inl (cA, 9, .inl (fun _ => 0))), (q5, .inl (cA, 9, .inl (fun _ => 0)))] C hi inS tyS_ok nmS flS_24 dS_init_41 rfl rfl (by decide) rfl rfl rfl rfl (Nat.le_of_ble_eq_true rfl) rfl ?_
  refine s_eqw (ws' := [(s, .inr (3, [.int (nI 0), .ref q1, .ref q2, .ref q3, .ref q4, .ref q5, .int (nI 0), .int (nI 0), .int (nI 0)])), (q1, .inl (cA, 14, .inl (aN (fun _ => 0)))), (q2, .inl (cA, 14, .inl (aN (fun _ => 0)))), (q3, .inl (cA, 14, .inl (fun _ => 0))), (q4, .inl (cA, 9, .inl (fun _ => 0))), (q5, .inl (cA, 9, .inl (fun _ => 0)))]) (by rw [nI_0, ← aN_0]) ?_
  exact hret (q1, q2, q3, q4, q5) _ _ dS_init_44 trivial
