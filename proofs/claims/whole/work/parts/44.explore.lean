set_option maxHeartbeats 4000000 in
set_option maxRecDepth 100000 in
/-- the search, from an edge on -/
theorem kS_explore (l : Launch) (D : va_G) (cA : ClassId) (s b1 b2 b3 b4 b5 N : Nat) (hd tl c : Nat → Nat) (TW : Nat → Int32) (en : Nat) (hN : N ≤ 14) (hE : hok hd tl 9 N) (hTW : twOK hd tl TW N) (hc : ∀ v, v < 9 → c v ≤ 100) (hen : en ≤ 20) : ∀ (k e S ct fs g : Nat) (lf ah : Nat → Nat), e + k = N → exB hd tl N c (twf TW) e S ct → (∀ v, v < 9 → lf v = c v - hdg hd tl N (bm S) v) → (∀ v, v < 9 → ah v = su (fun j => if e ≤ j then hin hd tl j v else 0) N) → g ≤ 20 → CtV (S := Nat × Nat) l yS_explore (.code yS_explore cS_explore 6 none) (2 + k) 0 0 D cA [.ref s, .int (nI e), .int (nI S), .int (nI ct)] [(s, .inr (3, [.int (nI N), .ref b1, .ref b2, .ref b3, .ref b4, .ref b5, .int (nI en), .int (nI fs), .int (nI g - 1)])), (b1, .inl (cA, 14, .inl (aN hd))), (b2, .inl (cA, 14, .inl (aN tl))), (b3, .inl (cA, 14, .inl TW)), (b4, .inl (cA, 9, .inl (aN lf))), (b5, .inl (cA, 9, .inl (aN ah)))] (fun u => exP hd tl N c (twf TW) en e S ct fs g u.1 u.2) (fun u => [(s, .inr (3, [.int (nI N), .ref b1, .ref b2, .ref b3, .ref b4, .ref b5, .int (nI en), .int (nI u.1), .int (nI u.2 - 1)])), (b1, .inl (cA, 14, .inl (aN hd))), (b2, .inl (cA, 14, .inl (aN tl))), (b3, .inl (cA, 14, .inl TW)), (b4, .inl (cA, 9, .inl (aN lf))), (b5, .inl (cA, 9, .inl (aN ah)))]) := by
  intro k
  induction k with
  | zero =>
    intro e S ct fs g lf ah hk hB hlf hah hg
    have hct : ct ≤ N := by rw [← hB.2.2.1]; exact hsz_le N _
    have hS2 : S < 2 ^ 14 := Nat.lt_of_lt_of_le hB.2.1 (Nat.pow_le_pow_right (by decide) (by omega))
    refine mkV [(0, .ref s), (1, .int (nI e)), (2, .int (nI S)), (3, .int (nI ct))] (by decide) rfl (Nat.le_of_ble_eq_true rfl) ?_
    intro E A Q hE0 hi C hA hret
    subst hE0
    have rest : ∀ fs1 g1 : Nat, fs1 = (if g ≤ ct then S else fs) → g1 = max g (ct + 1) → ST E 6 Q 0 0 (wf E A D [(s, .inr (3, [.int (nI N), .ref b1, .ref b2, .ref b3, .ref b4, .ref b5, .int (nI en), .int (nI fs1), .int (nI g1 - 1)])), (b1, .inl (cA, 14, .inl (aN hd))), (b2, .inl (cA, 14, .inl (aN tl))), (b3, .inl (cA, 14, .inl TW)), (b4, .inl (cA, 9, .inl (aN lf))), (b5, .inl (cA, 9, .inl (aN ah)))]) [(0, .ref s), (1, .int (nI e)), (2, .int (nI S)), (3, .int (nI ct))] [] 18 := by
      intro fs1 g1 ef eg
      refine s_iload_n 1 C dS_explore_18 rfl ?_
      refine s_aload_n 0 C dS_explore_19 rfl ?_
      refine s_get (.int (nI N)) 0 0 C wfP inS flS_27 dS_explore_20 rfl rfl (by decide) rfl ?_
      refine s_icmp_geN 50 C dS_explore_23 (by decide) (by omega) (by omega) (fun c1 => ?_) (fun c1 => ?_)
      · refine hret (fs1, g1) _ _ dS_explore_50 ?_
        show exP hd tl N c (twf TW) en e S ct fs g fs1 g1
        rw [ef, eg]
        refine ex_leaf hE hB (Or.inl (by omega))
      · exact absurd c1 (by omega)
    refine s_iload_n 3 C dS_explore_0 rfl ?_
    refine s_aload_n 0 C dS_explore_1 rfl ?_
    refine s_get (.int (nI g - 1)) 0 8 C wfP inS flS_61 dS_explore_2 rfl rfl (by decide) rfl ?_
    refine s_icmp_le 18 C dS_explore_5 (by decide) (fun c0 => ?_) (fun c0 => ?_)
    · have c9 : ct < g := (fc_le (by omega) (by omega)).mp c0
      exact rest fs g (by rw [if_neg (by omega)]) (by omega)
    · have c9 : ¬ ct < g := fun h => c0 ((fc_le (by omega) (by omega)).mpr h)
      refine s_aload_n 0 C dS_explore_8 rfl ?_
      refine s_iload_n 3 C dS_explore_9 rfl ?_
      refine s_put 0 8 [(s, .inr (3, [.int (nI N), .ref b1, .ref b2, .ref b3, .ref b4, .ref b5, .int (nI en), .int (nI fs), .int (nI ct)])), (b1, .inl (cA, 14, .inl (aN hd))), (b2, .inl (cA, 14, .inl (aN tl))), (b3, .inl (cA, 14, .inl TW)), (b4, .inl (cA, 9, .inl (aN lf))), (b5, .inl (cA, 9, .inl (aN ah)))] C inS tyS_ok nmS flS_61 dS_explore_10 rfl rfl (by decide) rfl rfl rfl (Nat.le_of_ble_eq_true rfl) rfl ?_
      refine s_aload_n 0 C dS_explore_13 rfl ?_
      refine s_iload_n 2 C dS_explore_14 rfl ?_
      refine s_put 0 7 [(s, .inr (3, [.int (nI N), .ref b1, .ref b2, .ref b3, .ref b4, .ref b5, .int (nI en), .int (nI S), .int (nI ct)])), (b1, .inl (cA, 14, .inl (aN hd))), (b2, .inl (cA, 14, .inl (aN tl))), (b3, .inl (cA, 14, .inl TW)), (b4, .inl (cA, 9, .inl (aN lf))), (b5, .inl (cA, 9, .inl (aN ah)))] C inS tyS_ok nmS flS_58 dS_explore_15 rfl rfl (by decide) rfl rfl rfl (Nat.le_of_ble_eq_true rfl) rfl ?_
      refine s_eqw (ws' := [(s, .inr (3, [.int (nI N), .ref b1, .ref b2, .ref b3, .ref b4, .ref b5, .int (nI en), .int (nI S), .int (nI (ct + 1) - 1)])), (b1, .inl (cA, 14, .inl (aN hd))), (b2, .inl (cA, 14, .inl (aN tl))), (b3, .inl (cA, 14, .inl TW)), (b4, .inl (cA, 9, .inl (aN lf))), (b5, .inl (cA, 9, .inl (aN ah)))]) (by rw [nI_pred]) ?_
      exact rest S (ct + 1) (by rw [if_pos (by omega)]) (by omega)
  | succ k ih =>
    intro e S ct fs g lf ah hk hB hlf hah hg
    have hct : ct ≤ N := by rw [← hB.2.2.1]; exact hsz_le N _
    have hS2 : S < 2 ^ 14 := Nat.lt_of_lt_of_le hB.2.1 (Nat.pow_le_pow_right (by decide) (by omega))
    refine mkV [(0, .ref s), (1, .int (nI e)), (2, .int (nI S)), (3, .int (nI ct))] (by decide) rfl (Nat.le_of_ble_eq_true rfl) ?_
    intro E A Q hE0 hi C hA hret
    subst hE0
    have rest : ∀ fs1 g1 : Nat, fs1 = (if g ≤ ct then S else fs) → g1 = max g (ct + 1) → ST E 6 Q 0 0 (wf E A D [(s, .inr (3, [.int (nI N), .ref b1, .ref b2, .ref b3, .ref b4, .ref b5, .int (nI en), .int (nI fs1), .int (nI g1 - 1)])), (b1, .inl (cA, 14, .inl (aN hd))), (b2, .inl (cA, 14, .inl (aN tl))), (b3, .inl (cA, 14, .inl TW)), (b4, .inl (cA, 9, .inl (aN lf))), (b5, .inl (cA, 9, .inl (aN ah)))]) [(0, .ref s), (1, .int (nI e)), (2, .int (nI S)), (3, .int (nI ct))] [] 18 := by
      intro fs1 g1 ef eg
      refine s_iload_n 1 C dS_explore_18 rfl ?_
      refine s_aload_n 0 C dS_explore_19 rfl ?_
      refine s_get (.int (nI N)) 0 0 C wfP inS flS_27 dS_explore_20 rfl rfl (by decide) rfl ?_
      refine s_icmp_geN 50 C dS_explore_23 (by decide) (by omega) (by omega) (fun c1 => ?_) (fun c1 => ?_)
      · exact absurd c1 (by omega)
      · refine s_aload_n 0 C dS_explore_26 rfl ?_
        refine s_get (.int (nI g1 - 1)) 0 8 C wfP inS flS_61 dS_explore_27 rfl rfl (by decide) rfl ?_
        refine s_aload_n 0 C dS_explore_30 rfl ?_
        refine s_get (.int (nI en)) 0 6 C wfP inS flS_64 dS_explore_31 rfl rfl (by decide) rfl ?_
        refine s_icmp_ge 50 C dS_explore_34 (by decide) (fun c2 => ?_) (fun c2 => ?_)
        · have c3 : en < g1 := (fc_le (by omega) (by omega)).mp c2
          refine hret (fs1, g1) _ _ dS_explore_50 ?_
          show exP hd tl N c (twf TW) en e S ct fs g fs1 g1
          rw [ef, eg]
          refine ex_leaf hE hB (Or.inr (Or.inl (by omega)))
        · have c3 : ¬ en < g1 := fun h => c2 ((fc_le (by omega) (by omega)).mpr h)
          have hlb : ∀ v, v < 9 → lf v ≤ 100 := fun v hv => by rw [hlf v hv]; have := hc v hv; omega
          have hab := ah_bd hah
          refine s_iload_n 3 C dS_explore_37 rfl ?_
          refine s_aload_n 0 C dS_explore_38 rfl ?_
          refine s_callP (n := 0) [0, 4, 5] 0 [.int (nI ct)] C wfP (kS_hope E.2.1 D cA s b1 b2 b3 b4 b5 N lf ah (nI en) (nI fs1) (nI g1 - 1) hlb (fun v hv => by have := hab v hv; omega)) gS_71 dS_explore_39 (by decide +kernel) rfl rfl rfl rfl (by omega) (by decide) rfl rfl (Nat.le_of_ble_eq_true rfl) (Nat.zero_le _) (Nat.zero_le _) (fun r hp => ?_)
          refine s_top hp ?_
          have hhp : su (fun v => min (lf v) (ah v)) 9 / 2 = su (fun v => min (c v - hdg hd tl N (bm S) v) (su (fun j => if e ≤ j then hin hd tl j v else 0) N)) 9 / 2 := by
            rw [su_cg (g := fun v => min (c v - hdg hd tl N (bm S) v) (su (fun j => if e ≤ j then hin hd tl j v else 0) N)) (fun v hv => by rw [hlf v hv, hah v hv])]
          have hhb : su (fun v => min (lf v) (ah v)) 9 / 2 ≤ 1000 := by
            have h9 : su (fun v => min (lf v) (ah v)) 9 ≤ su (fun _ => 100) 9 := su_le (fun v hv => by have := hlb v hv; omega)
            have h8 : su (fun _ => 100) 9 = 900 := by decide
            omega
          refine s_iaddN C dS_explore_42 ?_
          refine s_aload_n 0 C dS_explore_43 rfl ?_
          refine s_get (.int (nI g1 - 1)) 0 8 C wfP inS flS_61 dS_explore_44 rfl rfl (by decide) rfl ?_
          refine s_icmp_gt 51 C dS_explore_47 (by decide) (fun c4 => ?_) (fun c4 => ?_)
          · have c5 : g1 ≤ ct + su (fun v => min (lf v) (ah v)) 9 / 2 := (fc_lt (by omega) (by omega)).mp c4
            obtain ⟨hx1, hx2, hxn⟩ := hE e (by omega)
            obtain ⟨hp1, hp2⟩ := ah_pos hE (by omega) hah
            have hp3 : 0 < nup ah (hd e) (ah (hd e) - 1) (tl e) := by rw [nup_n (Ne.symm hxn)]; exact hp2
            refine s_aload_n 0 C dS_explore_51 rfl ?_
            refine s_get (.ref b1) 0 1 C wfP inS flS_9 dS_explore_52 rfl rfl (by decide) rfl ?_
            refine s_iload_n 1 C dS_explore_55 rfl ?_
            refine s_ialdN 1 C wfP dS_explore_56 rfl (by omega) (by decide) ?_
            refine s_istore [(0, .ref s), (1, .int (nI e)), (2, .int (nI S)), (3, .int (nI ct)), (4, .int (nI (hd e)))] [1, 2, 3, 4, 0] C dS_explore_57 (by decide) rfl ?_
            refine s_aload_n 0 C dS_explore_59 rfl ?_
            refine s_get (.ref b2) 0 2 C wfP inS flS_15 dS_explore_60 rfl rfl (by decide) rfl ?_
            refine s_iload_n 1 C dS_explore_63 rfl ?_
            refine s_ialdN 2 C wfP dS_explore_64 rfl (by omega) (by decide) ?_
            refine s_istore [(0, .ref s), (1, .int (nI e)), (2, .int (nI S)), (3, .int (nI ct)), (4, .int (nI (hd e))), (5, .int (nI (tl e)))] [1, 2, 3, 4, 5, 0] C dS_explore_65 (by decide) rfl ?_
            refine s_aload_n 0 C dS_explore_67 rfl ?_
            refine s_get (.ref b5) 0 5 C wfP inS flS_24 dS_explore_68 rfl rfl (by decide) rfl ?_
            refine s_iload 4 C dS_explore_71 rfl ?_
            refine s_dup2 C dS_explore_73 rfl rfl ?_
            refine s_ialdN 5 C wfP dS_explore_74 rfl (by omega) (by decide) ?_
            refine s_iconst (nI 1) C dS_explore_75 (by decide) ?_
            refine s_isubN C dS_explore_76 (by omega) ?_
            refine s_iastN 5 [(s, .inr (3, [.int (nI N), .ref b1, .ref b2, .ref b3, .ref b4, .ref b5, .int (nI en), .int (nI fs1), .int (nI g1 - 1)])), (b1, .inl (cA, 14, .inl (aN hd))), (b2, .inl (cA, 14, .inl (aN tl))), (b3, .inl (cA, 14, .inl TW)), (b4, .inl (cA, 9, .inl (aN lf))), (b5, .inl (cA, 9, .inl (aN (nup ah (hd e) ((ah (hd e)) - 1)))))] C dS_explore_77 rfl (by omega) (by decide) rfl ?_
            refine s_aload_n 0 C dS_explore_78 rfl ?_
            refine s_get (.ref b5) 0 5 C wfP inS flS_24 dS_explore_79 rfl rfl (by decide) rfl ?_
            refine s_iload 5 C dS_explore_82 rfl ?_
            refine s_dup2 C dS_explore_84 rfl rfl ?_
            refine s_ialdN 5 C wfP dS_explore_85 rfl (by omega) (by decide) ?_
            refine s_iconst (nI 1) C dS_explore_86 (by decide) ?_
            refine s_isubN C dS_explore_87 (by omega) ?_
            refine s_iastN 5 [(s, .inr (3, [.int (nI N), .ref b1, .ref b2, .ref b3, .ref b4, .ref b5, .int (nI en), .int (nI fs1), .int (nI g1 - 1)])), (b1, .inl (cA, 14, .inl (aN hd))), (b2, .inl (cA, 14, .inl (aN tl))), (b3, .inl (cA, 14, .inl TW)), (b4, .inl (cA, 9, .inl (aN lf))), (b5, .inl (cA, 9, .inl (aN (nup (nup ah (hd e) ((ah (hd e)) - 1)) (tl e) (((nup ah (hd e) ((ah (hd e)) - 1)) (tl e)) - 1)))))] C dS_explore_88 rfl (by omega) (by decide) rfl ?_
            have off : ∀ fs2 g2 : Nat, (exM hd tl N c (twf TW) e S → exP hd tl N c (twf TW) en (e + 1) (S ||| 2 ^ e) (ct + 1) fs1 g1 fs2 g2) → (¬ exM hd tl N c (twf TW) e S → fs2 = fs1 ∧ g2 = g1) → g2 ≤ 20 → ST E 6 Q 0 0 (wf E A D [(s, .inr (3, [.int (nI N), .ref b1, .ref b2, .ref b3, .ref b4, .ref b5, .int (nI en), .int (nI fs2), .int (nI g2 - 1)])), (b1, .inl (cA, 14, .inl (aN hd))), (b2, .inl (cA, 14, .inl (aN tl))), (b3, .inl (cA, 14, .inl TW)), (b4, .inl (cA, 9, .inl (aN lf))), (b5, .inl (cA, 9, .inl (aN (dn2 ah (hd e) (tl e)))))]) [(0, .ref s), (1, .int (nI e)), (2, .int (nI S)), (3, .int (nI ct)), (4, .int (nI (hd e))), (5, .int (nI (tl e)))] [] 157 := by
              intro fs2 g2 h1 h2 hg2
              refine s_aload_n 0 C dS_explore_157 rfl ?_
              refine s_iload_n 1 C dS_explore_158 rfl ?_
              refine s_iconst (nI 1) C dS_explore_159 (by decide) ?_
              refine s_iaddN C dS_explore_160 ?_
              refine s_iload_n 2 C dS_explore_161 rfl ?_
              refine s_iload_n 3 C dS_explore_162 rfl ?_
              refine s_callVS (n := 4) (wr := []) [0, 1, 2, 3, 4, 5] [] [] C hA (ih (e + 1) S ct fs2 g2 lf (dn2 ah (hd e) (tl e)) (by omega) (exB_off hB (by omega)) hlf (ah_dn hE (by omega) hah) hg2) gS_67 dS_explore_163 (by decide +kernel) rfl rfl (by decide) (by decide) (by decide) (by omega) (by decide) rfl rfl (Nat.le_of_ble_eq_true rfl) (Nat.zero_le _) (Nat.zero_le _) (fun u hu => ?_)
              refine s_sub (ws' := [(s, .inr (3, [.int (nI N), .ref b1, .ref b2, .ref b3, .ref b4, .ref b5, .int (nI en), .int (nI u.1), .int (nI u.2 - 1)])), (b1, .inl (cA, 14, .inl (aN hd))), (b2, .inl (cA, 14, .inl (aN tl))), (b3, .inl (cA, 14, .inl TW)), (b4, .inl (cA, 9, .inl (aN lf))), (b5, .inl (cA, 9, .inl (aN (dn2 ah (hd e) (tl e)))))]) [0, 1, 2, 3, 4, 5] rfl (by decide) ?_
              refine s_aload_n 0 C dS_explore_166 rfl ?_
              refine s_get (.ref b5) 0 5 C wfP inS flS_24 dS_explore_167 rfl rfl (by decide) rfl ?_
              refine s_iload 4 C dS_explore_170 rfl ?_
              refine s_dup2 C dS_explore_172 rfl rfl ?_
              refine s_ialdN 5 C wfP dS_explore_173 rfl (by omega) (by decide) ?_
              refine s_iconst (nI 1) C dS_explore_174 (by decide) ?_
              refine s_iaddN C dS_explore_175 ?_
              refine s_iastN 5 [(s, .inr (3, [.int (nI N), .ref b1, .ref b2, .ref b3, .ref b4, .ref b5, .int (nI en), .int (nI u.1), .int (nI u.2 - 1)])), (b1, .inl (cA, 14, .inl (aN hd))), (b2, .inl (cA, 14, .inl (aN tl))), (b3, .inl (cA, 14, .inl TW)), (b4, .inl (cA, 9, .inl (aN lf))), (b5, .inl (cA, 9, .inl (aN (nup (dn2 ah (hd e) (tl e)) (hd e) ((dn2 ah (hd e) (tl e)) (hd e) + 1)))))] C dS_explore_176 rfl (by omega) (by decide) rfl ?_
              refine s_aload_n 0 C dS_explore_177 rfl ?_
              refine s_get (.ref b5) 0 5 C wfP inS flS_24 dS_explore_178 rfl rfl (by decide) rfl ?_
              refine s_iload 5 C dS_explore_181 rfl ?_
              refine s_dup2 C dS_explore_183 rfl rfl ?_
              refine s_ialdN 5 C wfP dS_explore_184 rfl (by omega) (by decide) ?_
              refine s_iconst (nI 1) C dS_explore_185 (by decide) ?_
              refine s_iaddN C dS_explore_186 ?_
              refine s_iastN 5 [(s, .inr (3, [.int (nI N), .ref b1, .ref b2, .ref b3, .ref b4, .ref b5, .int (nI en), .int (nI u.1), .int (nI u.2 - 1)])), (b1, .inl (cA, 14, .inl (aN hd))), (b2, .inl (cA, 14, .inl (aN tl))), (b3, .inl (cA, 14, .inl TW)), (b4, .inl (cA, 9, .inl (aN lf))), (b5, .inl (cA, 9, .inl (aN (nup (nup (dn2 ah (hd e) (tl e)) (hd e) ((dn2 ah (hd e) (tl e)) (hd e) + 1)) (tl e) ((nup (dn2 ah (hd e) (tl e)) (hd e) ((dn2 ah (hd e) (tl e)) (hd e) + 1)) (tl e) + 1)))))] C dS_explore_187 rfl (by omega) (by decide) rfl ?_
              have er := up_dn (f := ah) hxn hp1 hp2
              refine s_eqw (ws' := [(s, .inr (3, [.int (nI N), .ref b1, .ref b2, .ref b3, .ref b4, .ref b5, .int (nI en), .int (nI u.1), .int (nI u.2 - 1)])), (b1, .inl (cA, 14, .inl (aN hd))), (b2, .inl (cA, 14, .inl (aN tl))), (b3, .inl (cA, 14, .inl TW)), (b4, .inl (cA, 9, .inl (aN lf))), (b5, .inl (cA, 9, .inl (aN (up2 (dn2 ah (hd e) (tl e)) (hd e) (tl e)))))]) rfl ?_
              rw [er]
              refine hret u _ _ dS_explore_188 ?_
              exact ex_node hE hB (by omega) ef eg (by omega) h1 h2 hu
            have hmay := may_iff (c := c) (lf := lf) (S := S) hN hE (by omega : e < N) hTW hlf
            refine s_aload_n 0 C dS_explore_89 rfl ?_
            refine s_iload_n 1 C dS_explore_90 rfl ?_
            refine s_iload_n 2 C dS_explore_91 rfl ?_
            refine s_callP (n := 2) [0, 1, 2, 3, 4] 0 [] C wfP (kS_mayAdd E.2.1 D cA s b1 b2 b3 b4 b5 N hd tl lf TW (nI en) (nI fs1) (nI g1 - 1) e S hN (by omega) hS2 hx1 hx2 (by rcases hTW e (by omega) with q | ⟨i, h1, h2, _⟩; exact Or.inl q; exact Or.inr ⟨i, h1, h2⟩) hlb) gS_75 dS_explore_92 (by decide +kernel) rfl rfl rfl rfl (by omega) (by decide) rfl rfl (Nat.le_of_ble_eq_true rfl) (Nat.zero_le _) (Nat.zero_le _) (fun r2 hp2 => ?_)
            rcases hp2 with ⟨er, hm⟩ | ⟨er, hm⟩
            · refine s_top er ?_
              refine s_if_eqN 157 C dS_explore_95 (by decide) (by decide) (fun c6 => ?_) (fun c6 => ?_)
              · exact absurd c6 (by decide)
              · have hl1 : 0 < lf (hd e) := hm.2.1
                have hl2 : 0 < lf (tl e) := hm.2.2
                have hl3 : 0 < nup lf (hd e) (lf (hd e) - 1) (tl e) := by rw [nup_n (Ne.symm hxn)]; exact hl2
                have hlb1 := hlb _ hx1
                have hlb2 := hlb _ hx2
                refine s_aload_n 0 C dS_explore_98 rfl ?_
                refine s_get (.ref b4) 0 4 C wfP inS flS_21 dS_explore_99 rfl rfl (by decide) rfl ?_
                refine s_iload 4 C dS_explore_102 rfl ?_
                refine s_dup2 C dS_explore_104 rfl rfl ?_
                refine s_ialdN 4 C wfP dS_explore_105 rfl (by omega) (by decide) ?_
                refine s_iconst (nI 1) C dS_explore_106 (by decide) ?_
                refine s_isubN C dS_explore_107 (by omega) ?_
                refine s_iastN 4 [(s, .inr (3, [.int (nI N), .ref b1, .ref b2, .ref b3, .ref b4, .ref b5, .int (nI en), .int (nI fs1), .int (nI g1 - 1)])), (b1, .inl (cA, 14, .inl (aN hd))), (b2, .inl (cA, 14, .inl (aN tl))), (b3, .inl (cA, 14, .inl TW)), (b4, .inl (cA, 9, .inl (aN (nup lf (hd e) ((lf (hd e)) - 1))))), (b5, .inl (cA, 9, .inl (aN (nup (nup ah (hd e) ((ah (hd e)) - 1)) (tl e) (((nup ah (hd e) ((ah (hd e)) - 1)) (tl e)) - 1)))))] C dS_explore_108 rfl (by omega) (by decide) rfl ?_
                refine s_aload_n 0 C dS_explore_109 rfl ?_
                refine s_get (.ref b4) 0 4 C wfP inS flS_21 dS_explore_110 rfl rfl (by decide) rfl ?_
                refine s_iload 5 C dS_explore_113 rfl ?_
                refine s_dup2 C dS_explore_115 rfl rfl ?_
                refine s_ialdN 4 C wfP dS_explore_116 rfl (by omega) (by decide) ?_
                refine s_iconst (nI 1) C dS_explore_117 (by decide) ?_
                refine s_isubN C dS_explore_118 (by omega) ?_
                refine s_iastN 4 [(s, .inr (3, [.int (nI N), .ref b1, .ref b2, .ref b3, .ref b4, .ref b5, .int (nI en), .int (nI fs1), .int (nI g1 - 1)])), (b1, .inl (cA, 14, .inl (aN hd))), (b2, .inl (cA, 14, .inl (aN tl))), (b3, .inl (cA, 14, .inl TW)), (b4, .inl (cA, 9, .inl (aN (nup (nup lf (hd e) ((lf (hd e)) - 1)) (tl e) (((nup lf (hd e) ((lf (hd e)) - 1)) (tl e)) - 1))))), (b5, .inl (cA, 9, .inl (aN (nup (nup ah (hd e) ((ah (hd e)) - 1)) (tl e) (((nup ah (hd e) ((ah (hd e)) - 1)) (tl e)) - 1)))))] C dS_explore_119 rfl (by omega) (by decide) rfl ?_
                refine s_aload_n 0 C dS_explore_120 rfl ?_
                refine s_iload_n 1 C dS_explore_121 rfl ?_
                refine s_iconst (nI 1) C dS_explore_122 (by decide) ?_
                refine s_iaddN C dS_explore_123 ?_
                refine s_iload_n 2 C dS_explore_124 rfl ?_
                refine s_iconst (nI 1) C dS_explore_125 (by decide) ?_
                refine s_iload_n 1 C dS_explore_126 rfl ?_
                refine s_shl1 C dS_explore_127 (by omega) ?_
                refine s_iorN C dS_explore_128 ?_
                refine s_iload_n 3 C dS_explore_129 rfl ?_
                refine s_iconst (nI 1) C dS_explore_130 (by decide) ?_
                refine s_iaddN C dS_explore_131 ?_
                refine s_callVS (n := 4) (wr := []) [0, 1, 2, 3, 4, 5] [] [] C hA (ih (e + 1) (S ||| 2 ^ e) (ct + 1) fs1 g1 (dn2 lf (hd e) (tl e)) (dn2 ah (hd e) (tl e)) (by omega) (exB_on hE hB (by omega) (hmay.mp hm)) (lf_step hE (by omega) hB.2.1 hlf) (ah_dn hE (by omega) hah) (by omega)) gS_67 dS_explore_132 (by decide +kernel) rfl rfl (by decide) (by decide) (by decide) (by omega) (by decide) rfl rfl (Nat.le_of_ble_eq_true rfl) (Nat.zero_le _) (Nat.zero_le _) (fun u hu => ?_)
                refine s_sub (ws' := [(s, .inr (3, [.int (nI N), .ref b1, .ref b2, .ref b3, .ref b4, .ref b5, .int (nI en), .int (nI u.1), .int (nI u.2 - 1)])), (b1, .inl (cA, 14, .inl (aN hd))), (b2, .inl (cA, 14, .inl (aN tl))), (b3, .inl (cA, 14, .inl TW)), (b4, .inl (cA, 9, .inl (aN (dn2 lf (hd e) (tl e))))), (b5, .inl (cA, 9, .inl (aN (dn2 ah (hd e) (tl e)))))]) [0, 1, 2, 3, 4, 5] rfl (by decide) ?_
                refine s_aload_n 0 C dS_explore_135 rfl ?_
                refine s_get (.ref b4) 0 4 C wfP inS flS_21 dS_explore_136 rfl rfl (by decide) rfl ?_
                refine s_iload 4 C dS_explore_139 rfl ?_
                refine s_dup2 C dS_explore_141 rfl rfl ?_
                refine s_ialdN 4 C wfP dS_explore_142 rfl (by omega) (by decide) ?_
                refine s_iconst (nI 1) C dS_explore_143 (by decide) ?_
                refine s_iaddN C dS_explore_144 ?_
                refine s_iastN 4 [(s, .inr (3, [.int (nI N), .ref b1, .ref b2, .ref b3, .ref b4, .ref b5, .int (nI en), .int (nI u.1), .int (nI u.2 - 1)])), (b1, .inl (cA, 14, .inl (aN hd))), (b2, .inl (cA, 14, .inl (aN tl))), (b3, .inl (cA, 14, .inl TW)), (b4, .inl (cA, 9, .inl (aN (nup (dn2 lf (hd e) (tl e)) (hd e) ((dn2 lf (hd e) (tl e)) (hd e) + 1))))), (b5, .inl (cA, 9, .inl (aN (dn2 ah (hd e) (tl e)))))] C dS_explore_145 rfl (by omega) (by decide) rfl ?_
                refine s_aload_n 0 C dS_explore_146 rfl ?_
                refine s_get (.ref b4) 0 4 C wfP inS flS_21 dS_explore_147 rfl rfl (by decide) rfl ?_
                refine s_iload 5 C dS_explore_150 rfl ?_
                refine s_dup2 C dS_explore_152 rfl rfl ?_
                refine s_ialdN 4 C wfP dS_explore_153 rfl (by omega) (by decide) ?_
                refine s_iconst (nI 1) C dS_explore_154 (by decide) ?_
                refine s_iaddN C dS_explore_155 ?_
                refine s_iastN 4 [(s, .inr (3, [.int (nI N), .ref b1, .ref b2, .ref b3, .ref b4, .ref b5, .int (nI en), .int (nI u.1), .int (nI u.2 - 1)])), (b1, .inl (cA, 14, .inl (aN hd))), (b2, .inl (cA, 14, .inl (aN tl))), (b3, .inl (cA, 14, .inl TW)), (b4, .inl (cA, 9, .inl (aN (nup (nup (dn2 lf (hd e) (tl e)) (hd e) ((dn2 lf (hd e) (tl e)) (hd e) + 1)) (tl e) ((nup (dn2 lf (hd e) (tl e)) (hd e) ((dn2 lf (hd e) (tl e)) (hd e) + 1)) (tl e) + 1))))), (b5, .inl (cA, 9, .inl (aN (dn2 ah (hd e) (tl e)))))] C dS_explore_156 rfl (by omega) (by decide) rfl ?_
                have erl := up_dn (f := lf) hxn hl1 hl2
                refine s_eqw (ws' := [(s, .inr (3, [.int (nI N), .ref b1, .ref b2, .ref b3, .ref b4, .ref b5, .int (nI en), .int (nI u.1), .int (nI u.2 - 1)])), (b1, .inl (cA, 14, .inl (aN hd))), (b2, .inl (cA, 14, .inl (aN tl))), (b3, .inl (cA, 14, .inl TW)), (b4, .inl (cA, 9, .inl (aN (up2 (dn2 lf (hd e) (tl e)) (hd e) (tl e))))), (b5, .inl (cA, 9, .inl (aN (dn2 ah (hd e) (tl e)))))]) rfl ?_
                rw [erl]
                have hub := ex_bd hu
                exact off u.1 u.2 (fun _ => hu) (fun h => absurd (hmay.mp hm) h) (by omega)
            · refine s_top er ?_
              refine s_if_eqN 157 C dS_explore_95 (by decide) (by decide) (fun c6 => ?_) (fun c6 => ?_)
              · exact off fs1 g1 (fun h => absurd (hmay.mpr h) hm) (fun _ => ⟨rfl, rfl⟩) (by omega)
              · exact absurd rfl c6
          · have c5 : ¬ g1 ≤ ct + su (fun v => min (lf v) (ah v)) 9 / 2 := fun h => c4 ((fc_lt (by omega) (by omega)).mpr h)
            refine hret (fs1, g1) _ _ dS_explore_50 ?_
            show exP hd tl N c (twf TW) en e S ct fs g fs1 g1
            rw [ef, eg]
            refine ex_leaf hE hB (Or.inr (Or.inr (by omega)))
    refine s_iload_n 3 C dS_explore_0 rfl ?_
    refine s_aload_n 0 C dS_explore_1 rfl ?_
    refine s_get (.int (nI g - 1)) 0 8 C wfP inS flS_61 dS_explore_2 rfl rfl (by decide) rfl ?_
    refine s_icmp_le 18 C dS_explore_5 (by decide) (fun c0 => ?_) (fun c0 => ?_)
    · have c9 : ct < g := (fc_le (by omega) (by omega)).mp c0
      exact rest fs g (by rw [if_neg (by omega)]) (by omega)
    · have c9 : ¬ ct < g := fun h => c0 ((fc_le (by omega) (by omega)).mpr h)
      refine s_aload_n 0 C dS_explore_8 rfl ?_
      refine s_iload_n 3 C dS_explore_9 rfl ?_
      refine s_put 0 8 [(s, .inr (3, [.int (nI N), .ref b1, .ref b2, .ref b3, .ref b4, .ref b5, .int (nI en), .int (nI fs), .int (nI ct)])), (b1, .inl (cA, 14, .inl (aN hd))), (b2, .inl (cA, 14, .inl (aN tl))), (b3, .inl (cA, 14, .inl TW)), (b4, .inl (cA, 9, .inl (aN lf))), (b5, .inl (cA, 9, .inl (aN ah)))] C inS tyS_ok nmS flS_61 dS_explore_10 rfl rfl (by decide) rfl rfl rfl (Nat.le_of_ble_eq_true rfl) rfl ?_
      refine s_aload_n 0 C dS_explore_13 rfl ?_
      refine s_iload_n 2 C dS_explore_14 rfl ?_
      refine s_put 0 7 [(s, .inr (3, [.int (nI N), .ref b1, .ref b2, .ref b3, .ref b4, .ref b5, .int (nI en), .int (nI S), .int (nI ct)])), (b1, .inl (cA, 14, .inl (aN hd))), (b2, .inl (cA, 14, .inl (aN tl))), (b3, .inl (cA, 14, .inl TW)), (b4, .inl (cA, 9, .inl (aN lf))), (b5, .inl (cA, 9, .inl (aN ah)))] C inS tyS_ok nmS flS_58 dS_explore_15 rfl rfl (by decide) rfl rfl rfl (Nat.le_of_ble_eq_true rfl) rfl ?_
      refine s_eqw (ws' := [(s, .inr (3, [.int (nI N), .ref b1, .ref b2, .ref b3, .ref b4, .ref b5, .int (nI en), .int (nI S), .int (nI (ct + 1) - 1)])), (b1, .inl (cA, 14, .inl (aN hd))), (b2, .inl (cA, 14, .inl (aN tl))), (b3, .inl (cA, 14, .inl TW)), (b4, .inl (cA, 9, .inl (aN lf))), (b5, .inl (cA, 9, .inl (aN ah)))]) (by rw [nI_pred]) ?_
      exact rest S (ct + 1) (by rw [if_pos (by omega)]) (by omega)
