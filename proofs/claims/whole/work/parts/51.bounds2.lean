set_option maxHeartbeats 4000000 in
set_option maxRecDepth 100000 in
/-- the edges inside each set, and who is near whom -/
theorem kB_countInside (l : Launch) (D : va_G) (cA : ClassId) (h o1 o2 o3 o4 o5 : Nat) (nr is : Nat → Nat) (fu fw : Int32) (g a1 a2 a3 n m : Nat) (fi se : Nat → Nat) (h1n : 1 ≤ n) (hn : n ≤ 9) (hm : m ≤ 14) (hfs : hok fi se n m)  : CtV (S := (Nat → Nat) × (Nat → Nat)) l yB_countInside (.code yB_countInside cB_countInside 5 none) 0 0 0 D cA [.ref h, .ref g] [(h, .inr (1, [.ref o1, .ref o2, .ref o3, .ref o4, .ref o5, .int (nI (2 ^ n - 1)), .int fu, .int fw])), (o2, .inl (cA, 9, .inl (aN nr))), (o4, .inl (cA, 512, .inl (aN is))), (g, .inr (2, [.int (nI n), .int (nI m), .ref a1, .ref a2, .ref a3])), (a1, .inl (cA, 14, .inl (aN fi))), (a2, .inl (cA, 14, .inl (aN se)))] (fun u => (∀ v, v < 9 → ∀ c, bm (u.1 v) c = true ↔ adj fi se m v c) ∧ ∀ s, s < 2 ^ n → u.2 s = ins fi se m s) (fun u => [(h, .inr (1, [.ref o1, .ref o2, .ref o3, .ref o4, .ref o5, .int (nI (2 ^ n - 1)), .int fu, .int fw])), (o2, .inl (cA, 9, .inl (aN u.1))), (o4, .inl (cA, 512, .inl (aN u.2))), (g, .inr (2, [.int (nI n), .int (nI m), .ref a1, .ref a2, .ref a3])), (a1, .inl (cA, 14, .inl (aN fi))), (a2, .inl (cA, 14, .inl (aN se)))]) := by
  refine mkV [(0, .ref h), (1, .ref g)] (by decide) rfl (Nat.le_of_ble_eq_true rfl) ?_
  intro E A Q hE hi C hA hret
  have h2n : 2 ^ n ≤ 512 := p2_le (k := 9) hn
  have h2p : 1 ≤ 2 ^ n := Nat.one_le_two_pow
  refine s_iconst (nI 0) C dB_countInside_0 (by decide) ?_
  refine s_istore_n [(0, .ref h), (1, .ref g), (2, .int (nI 0))] [1, 2, 0] C dB_countInside_1 (by decide) rfl ?_
  have loop : ∀ k i, i + k = 9 → ST E 5 Q 0 0 (wf E A D [(h, .inr (1, [.ref o1, .ref o2, .ref o3, .ref o4, .ref o5, .int (nI (2 ^ n - 1)), .int fu, .int fw])), (o2, .inl (cA, 9, .inl (aN (fun j => if j < i then 0 else nr j)))), (o4, .inl (cA, 512, .inl (aN is))), (g, .inr (2, [.int (nI n), .int (nI m), .ref a1, .ref a2, .ref a3])), (a1, .inl (cA, 14, .inl (aN fi))), (a2, .inl (cA, 14, .inl (aN se)))]) [(0, .ref h), (1, .ref g), (2, .int (nI i))] [] 2 := by
    intro k
    induction k with
    | zero =>
      intro i hi
      refine s_iload_n 2 C dB_countInside_2 rfl ?_
      refine s_bipush (nI 9) C dB_countInside_3 (by decide) ?_
      refine s_icmp_geN 21 C dB_countInside_5 (by decide) (by omega) (by omega) (fun c1 => ?_) (fun c1 => ?_)
      · have e : i = 9 := by omega
        subst e
        refine s_arr (aN (fun _ => 0)) 1 [(h, .inr (1, [.ref o1, .ref o2, .ref o3, .ref o4, .ref o5, .int (nI (2 ^ n - 1)), .int fu, .int fw])), (o2, .inl (cA, 9, .inl (aN (fun _ => 0)))), (o4, .inl (cA, 512, .inl (aN is))), (g, .inr (2, [.int (nI n), .int (nI m), .ref a1, .ref a2, .ref a3])), (a1, .inl (cA, 14, .inl (aN fi))), (a2, .inl (cA, 14, .inl (aN se)))] rfl (fun j hj => ?_) rfl ?_
        · show nI (if j < 9 then 0 else nr j) = nI 0
          rw [if_pos hj]
        refine s_iconst (nI 0) C dB_countInside_21 (by decide) ?_
        refine s_istore_n [(0, .ref h), (1, .ref g), (2, .int (nI 0))] [1, 2, 0] C dB_countInside_22 (by decide) rfl ?_
        have loop2 : ∀ k2 i, i + k2 = 2 ^ n → ST E 5 Q 0 0 (wf E A D [(h, .inr (1, [.ref o1, .ref o2, .ref o3, .ref o4, .ref o5, .int (nI (2 ^ n - 1)), .int fu, .int fw])), (o2, .inl (cA, 9, .inl (aN (fun _ => 0)))), (o4, .inl (cA, 512, .inl (aN (fun j => if j < i then 0 else is j)))), (g, .inr (2, [.int (nI n), .int (nI m), .ref a1, .ref a2, .ref a3])), (a1, .inl (cA, 14, .inl (aN fi))), (a2, .inl (cA, 14, .inl (aN se)))]) [(0, .ref h), (1, .ref g), (2, .int (nI i))] [] 23 := by
          intro k2
          induction k2 with
          | zero =>
            intro i hi
            refine s_iload_n 2 C dB_countInside_23 rfl ?_
            refine s_aload_n 0 C dB_countInside_24 rfl ?_
            refine s_get (.int (nI (2 ^ n - 1))) 0 5 C wfP inB flB_33 dB_countInside_25 rfl rfl (by decide) rfl ?_
            refine s_icmp_gtN 44 C dB_countInside_28 (by decide) (by omega) (by omega) (fun c2 => ?_) (fun c2 => ?_)
            · have e : i = 2 ^ n := by omega
              subst e
              refine s_iconst (nI 0) C dB_countInside_44 (by decide) ?_
              refine s_istore_n [(0, .ref h), (1, .ref g), (2, .int (nI 0))] [1, 2, 0] C dB_countInside_45 (by decide) rfl ?_
              have loop3 : ∀ k3 e (nr3 is3 : Nat → Nat), e + k3 = m → (∀ v, v < 9 → ∀ c, bm (nr3 v) c = true ↔ adj fi se e v c) → (∀ s, s < 2 ^ n → is3 s = su (fun e => if pm fi se e = s then 1 else 0) e) → ST E 5 Q 0 0 (wf E A D [(h, .inr (1, [.ref o1, .ref o2, .ref o3, .ref o4, .ref o5, .int (nI (2 ^ n - 1)), .int fu, .int fw])), (o2, .inl (cA, 9, .inl (aN nr3))), (o4, .inl (cA, 512, .inl (aN is3))), (g, .inr (2, [.int (nI n), .int (nI m), .ref a1, .ref a2, .ref a3])), (a1, .inl (cA, 14, .inl (aN fi))), (a2, .inl (cA, 14, .inl (aN se)))]) [(0, .ref h), (1, .ref g), (2, .int (nI e))] [] 46 := by
                intro k3
                induction k3 with
                | zero =>
                  intro e nr3 is3 hi hnr3 his3
                  refine s_iload_n 2 C dB_countInside_46 rfl ?_
                  refine s_aload_n 1 C dB_countInside_47 rfl ?_
                  refine s_get (.int (nI m)) 3 1 C wfP inG flB_47 dB_countInside_48 rfl rfl (by decide) rfl ?_
                  refine s_icmp_geN 118 C dB_countInside_51 (by decide) (by omega) (by omega) (fun c3 => ?_) (fun c3 => ?_)
                  · have e9 : m = e := by omega
                    subst e9
                    refine s_iconst (nI 0) C dB_countInside_118 (by decide) ?_
                    refine s_istore_n [(0, .ref h), (1, .ref g), (2, .int (nI 0))] [1, 2, 0] C dB_countInside_119 (by decide) rfl ?_
                    have loop4 : ∀ k4 v (is4 : Nat → Nat), v + k4 = n → (∀ s, s < 2 ^ n → is4 s = zt fi se m v s) → ST E 5 Q 0 0 (wf E A D [(h, .inr (1, [.ref o1, .ref o2, .ref o3, .ref o4, .ref o5, .int (nI (2 ^ n - 1)), .int fu, .int fw])), (o2, .inl (cA, 9, .inl (aN nr3))), (o4, .inl (cA, 512, .inl (aN is4))), (g, .inr (2, [.int (nI n), .int (nI m), .ref a1, .ref a2, .ref a3])), (a1, .inl (cA, 14, .inl (aN fi))), (a2, .inl (cA, 14, .inl (aN se)))]) [(0, .ref h), (1, .ref g), (2, .int (nI v))] [] 120 := by
                      intro k4
                      induction k4 with
                      | zero =>
                        intro v is4 hi his4
                        refine s_iload_n 2 C dB_countInside_120 rfl ?_
                        refine s_aload_n 1 C dB_countInside_121 rfl ?_
                        refine s_get (.int (nI n)) 3 0 C wfP inG flB_27 dB_countInside_122 rfl rfl (by decide) rfl ?_
                        refine s_icmp_geN 178 C dB_countInside_125 (by decide) (by omega) (by omega) (fun c4 => ?_) (fun c4 => ?_)
                        · have e9 : n = v := by omega
                          subst e9
                          exact hret (nr3, is4) _ _ dB_countInside_178 ⟨hnr3, fun s hs => by show is4 s = _; rw [his4 s hs]; exact zt_n hn hfs hs⟩
                        · exact absurd c4 (by omega)
                      | succ k4 ih4 =>
                        intro v is4 hi his4
                        refine s_iload_n 2 C dB_countInside_120 rfl ?_
                        refine s_aload_n 1 C dB_countInside_121 rfl ?_
                        refine s_get (.int (nI n)) 3 0 C wfP inG flB_27 dB_countInside_122 rfl rfl (by decide) rfl ?_
                        refine s_icmp_geN 178 C dB_countInside_125 (by decide) (by omega) (by omega) (fun c4 => ?_) (fun c4 => ?_)
                        · exact absurd c4 (by omega)
                        · refine s_iconst (nI 0) C dB_countInside_128 (by decide) ?_
                          refine s_istore_n [(0, .ref h), (1, .ref g), (2, .int (nI v)), (3, .int (nI 0))] [1, 2, 3, 0] C dB_countInside_129 (by decide) rfl ?_
                          have loop5 : ∀ k5 i5 (is5 : Nat → Nat), i5 + k5 = 2 ^ n → (∀ s, s < 2 ^ n → is5 s = if s < i5 then zt fi se m (v + 1) s else zt fi se m v s) → ST E 5 Q 0 0 (wf E A D [(h, .inr (1, [.ref o1, .ref o2, .ref o3, .ref o4, .ref o5, .int (nI (2 ^ n - 1)), .int fu, .int fw])), (o2, .inl (cA, 9, .inl (aN nr3))), (o4, .inl (cA, 512, .inl (aN is5))), (g, .inr (2, [.int (nI n), .int (nI m), .ref a1, .ref a2, .ref a3])), (a1, .inl (cA, 14, .inl (aN fi))), (a2, .inl (cA, 14, .inl (aN se)))]) [(0, .ref h), (1, .ref g), (2, .int (nI v)), (3, .int (nI i5))] [] 130 := by
                            intro k5
                            induction k5 with
                            | zero =>
                              intro i5 is5 hi5a his5
                              refine s_iload_n 3 C dB_countInside_130 rfl ?_
                              refine s_aload_n 0 C dB_countInside_131 rfl ?_
                              refine s_get (.int (nI (2 ^ n - 1))) 0 5 C wfP inB flB_33 dB_countInside_132 rfl rfl (by decide) rfl ?_
                              refine s_icmp_gtN 172 C dB_countInside_135 (by decide) (by omega) (by omega) (fun c5 => ?_) (fun c5 => ?_)
                              · refine s_iinc (j := 2) (nI (v + 1)) [(0, .ref h), (1, .ref g), (2, .int (nI (v + 1))), (3, .int (nI i5))] [1, 2, 0, 3] C dB_countInside_172 rfl (inc1 _) (by decide) rfl ?_
                                refine s_goto (tgt := 120) C dB_countInside_175 (by decide) ?_
                                refine s_lv (lv' := [(0, .ref h), (1, .ref g), (2, .int (nI (v + 1)))]) [0, 1, 2] rfl ?_
                                refine ih4 (v + 1) is5 (by omega) (fun s hs => ?_)
                                rw [his5 s hs, if_pos (by omega)]
                              · exact absurd c5 (by omega)
                            | succ k5 ih5 =>
                              intro i5 is5 hi5a his5
                              refine s_iload_n 3 C dB_countInside_130 rfl ?_
                              refine s_aload_n 0 C dB_countInside_131 rfl ?_
                              refine s_get (.int (nI (2 ^ n - 1))) 0 5 C wfP inB flB_33 dB_countInside_132 rfl rfl (by decide) rfl ?_
                              refine s_icmp_gtN 172 C dB_countInside_135 (by decide) (by omega) (by omega) (fun c5 => ?_) (fun c5 => ?_)
                              · exact absurd c5 (by omega)
                              · have hi5 : i5 < 2 ^ n := by omega
                                refine s_iload_n 3 C dB_countInside_138 rfl ?_
                                refine s_iload_n 2 C dB_countInside_139 rfl ?_
                                refine s_ishrN C dB_countInside_140 (by omega) (by omega) ?_
                                refine s_iconst (nI 1) C dB_countInside_141 (by decide) ?_
                                refine s_bitN C dB_countInside_142 ?_
                                refine s_iconst (nI 1) C dB_countInside_143 (by decide) ?_
                                refine s_icmp_neN 166 C dB_countInside_144 (by decide) (bt31 _) (by decide) (fun c6 => ?_) (fun c6 => ?_)
                                · have hb : bm i5 v = false := by
                                    cases hh : bm i5 v with
                                    | false => rfl
                                    | true => rw [hh] at c6; exact absurd rfl c6
                                  refine s_iinc (j := 3) (nI (i5 + 1)) [(0, .ref h), (1, .ref g), (2, .int (nI v)), (3, .int (nI (i5 + 1)))] [1, 2, 3, 0] C dB_countInside_166 rfl (inc1 _) (by decide) rfl ?_
                                  refine s_goto (tgt := 130) C dB_countInside_169 (by decide) ?_
                                  refine ih5 (i5 + 1) is5 (by omega) (fun s hs => ?_)
                                  rw [his5 s hs]
                                  by_cases q : s = i5
                                  · subst q; rw [if_neg (by omega), if_pos (by omega), zt_off hb]
                                  · by_cases r : s < i5
                                    · rw [if_pos r, if_pos (by omega)]
                                    · rw [if_neg r, if_neg (by omega)]
                                · have hb : bm i5 v = true := bmT.mp c6
                                  obtain ⟨x1, x2⟩ := xor_lt hi5 hb
                                  refine s_aload_n 0 C dB_countInside_147 rfl ?_
                                  refine s_get (.ref o4) 0 3 C wfP inB flB_21 dB_countInside_148 rfl rfl (by decide) rfl ?_
                                  refine s_iload_n 3 C dB_countInside_151 rfl ?_
                                  refine s_dup2 C dB_countInside_152 rfl rfl ?_
                                  refine s_ialdN 2 C wfP dB_countInside_153 rfl (by omega) (by decide) ?_
                                  refine s_aload_n 0 C dB_countInside_154 rfl ?_
                                  refine s_get (.ref o4) 0 3 C wfP inB flB_21 dB_countInside_155 rfl rfl (by decide) rfl ?_
                                  refine s_iload_n 3 C dB_countInside_158 rfl ?_
                                  refine s_iconst (nI 1) C dB_countInside_159 (by decide) ?_
                                  refine s_iload_n 2 C dB_countInside_160 rfl ?_
                                  refine s_shl1 C dB_countInside_161 (by omega) ?_
                                  refine s_ixorN C dB_countInside_162 ?_
                                  refine s_ialdN 2 C wfP dB_countInside_163 rfl (by omega) (by decide) ?_
                                  refine s_iaddN C dB_countInside_164 ?_
                                  refine s_iastN 2 [(h, .inr (1, [.ref o1, .ref o2, .ref o3, .ref o4, .ref o5, .int (nI (2 ^ n - 1)), .int fu, .int fw])), (o2, .inl (cA, 9, .inl (aN nr3))), (o4, .inl (cA, 512, .inl (aN (nup is5 i5 (is5 i5 + (is5 (i5 ^^^ (2 ^ v)))))))), (g, .inr (2, [.int (nI n), .int (nI m), .ref a1, .ref a2, .ref a3])), (a1, .inl (cA, 14, .inl (aN fi))), (a2, .inl (cA, 14, .inl (aN se)))] C dB_countInside_165 rfl (by omega) (by decide) rfl ?_
                                  refine s_iinc (j := 3) (nI (i5 + 1)) [(0, .ref h), (1, .ref g), (2, .int (nI v)), (3, .int (nI (i5 + 1)))] [1, 2, 3, 0] C dB_countInside_166 rfl (inc1 _) (by decide) rfl ?_
                                  refine s_goto (tgt := 130) C dB_countInside_169 (by decide) ?_
                                  refine ih5 (i5 + 1) _ (by omega) (fun s hs => ?_)
                                  by_cases q : s = i5
                                  · subst q
                                    rw [nup_s, if_pos (by omega), his5 s hs, if_neg (by omega), his5 _ x2, if_pos x1, zt_on (by omega) hb, zt_off (by rw [bm_xor, bm_pow, hb]; simp)]
                                  · rw [nup_n q, his5 s hs]
                                    by_cases r : s < i5
                                    · rw [if_pos r, if_pos (by omega)]
                                    · rw [if_neg r, if_neg (by omega)]
                          exact loop5 (2 ^ n) 0 is4 (by omega) (fun s hs => by rw [if_neg (by omega)]; exact his4 s hs)
                    exact loop4 n 0 is3 (by omega) (fun s hs => by rw [his3 s hs, zt_0 hn hfs hs])
                  · exact absurd c3 (by omega)
                | succ k3 ih3 =>
                  intro e nr3 is3 hi hnr3 his3
                  refine s_iload_n 2 C dB_countInside_46 rfl ?_
                  refine s_aload_n 1 C dB_countInside_47 rfl ?_
                  refine s_get (.int (nI m)) 3 1 C wfP inG flB_47 dB_countInside_48 rfl rfl (by decide) rfl ?_
                  refine s_icmp_geN 118 C dB_countInside_51 (by decide) (by omega) (by omega) (fun c3 => ?_) (fun c3 => ?_)
                  · exact absurd c3 (by omega)
                  · obtain ⟨f1, f2, f3⟩ := hfs e (by omega)
                    have hpl : 2 ^ fi e ||| 2 ^ se e < 2 ^ n := Nat.or_lt_two_pow (Nat.pow_lt_pow_right (by decide) f1) (Nat.pow_lt_pow_right (by decide) f2)
                    refine s_aload_n 1 C dB_countInside_54 rfl ?_
                    refine s_get (.ref a1) 3 2 C wfP inG flB_50 dB_countInside_55 rfl rfl (by decide) rfl ?_
                    refine s_iload_n 2 C dB_countInside_58 rfl ?_
                    refine s_ialdN 4 C wfP dB_countInside_59 rfl (by omega) (by decide) ?_
                    refine s_istore_n [(0, .ref h), (1, .ref g), (2, .int (nI e)), (3, .int (nI (fi e)))] [1, 2, 3, 0] C dB_countInside_60 (by decide) rfl ?_
                    refine s_aload_n 1 C dB_countInside_61 rfl ?_
                    refine s_get (.ref a2) 3 3 C wfP inG flB_53 dB_countInside_62 rfl rfl (by decide) rfl ?_
                    refine s_iload_n 2 C dB_countInside_65 rfl ?_
                    refine s_ialdN 5 C wfP dB_countInside_66 rfl (by omega) (by decide) ?_
                    refine s_istore [(0, .ref h), (1, .ref g), (2, .int (nI e)), (3, .int (nI (fi e))), (4, .int (nI (se e)))] [1, 2, 3, 4, 0] C dB_countInside_67 (by decide) rfl ?_
                    refine s_aload_n 0 C dB_countInside_69 rfl ?_
                    refine s_get (.ref o2) 0 1 C wfP inB flB_15 dB_countInside_70 rfl rfl (by decide) rfl ?_
                    refine s_iload_n 3 C dB_countInside_73 rfl ?_
                    refine s_dup2 C dB_countInside_74 rfl rfl ?_
                    refine s_ialdN 1 C wfP dB_countInside_75 rfl (by omega) (by decide) ?_
                    refine s_iconst (nI 1) C dB_countInside_76 (by decide) ?_
                    refine s_iload 4 C dB_countInside_77 rfl ?_
                    refine s_shl1 C dB_countInside_79 (by omega) ?_
                    refine s_iorN C dB_countInside_80 ?_
                    refine s_iastN 1 [(h, .inr (1, [.ref o1, .ref o2, .ref o3, .ref o4, .ref o5, .int (nI (2 ^ n - 1)), .int fu, .int fw])), (o2, .inl (cA, 9, .inl (aN (nup nr3 (fi e) ((nr3 (fi e)) ||| (2 ^ (se e))))))), (o4, .inl (cA, 512, .inl (aN is3))), (g, .inr (2, [.int (nI n), .int (nI m), .ref a1, .ref a2, .ref a3])), (a1, .inl (cA, 14, .inl (aN fi))), (a2, .inl (cA, 14, .inl (aN se)))] C dB_countInside_81 rfl (by omega) (by decide) rfl ?_
                    refine s_aload_n 0 C dB_countInside_82 rfl ?_
                    refine s_get (.ref o2) 0 1 C wfP inB flB_15 dB_countInside_83 rfl rfl (by decide) rfl ?_
                    refine s_iload 4 C dB_countInside_86 rfl ?_
                    refine s_dup2 C dB_countInside_88 rfl rfl ?_
                    refine s_ialdN 1 C wfP dB_countInside_89 rfl (by omega) (by decide) ?_
                    refine s_iconst (nI 1) C dB_countInside_90 (by decide) ?_
                    refine s_iload_n 3 C dB_countInside_91 rfl ?_
                    refine s_shl1 C dB_countInside_92 (by omega) ?_
                    refine s_iorN C dB_countInside_93 ?_
                    refine s_iastN 1 [(h, .inr (1, [.ref o1, .ref o2, .ref o3, .ref o4, .ref o5, .int (nI (2 ^ n - 1)), .int fu, .int fw])), (o2, .inl (cA, 9, .inl (aN (nup (nup nr3 (fi e) ((nr3 (fi e)) ||| (2 ^ (se e)))) (se e) (((nup nr3 (fi e) ((nr3 (fi e)) ||| (2 ^ (se e)))) (se e)) ||| (2 ^ (fi e))))))), (o4, .inl (cA, 512, .inl (aN is3))), (g, .inr (2, [.int (nI n), .int (nI m), .ref a1, .ref a2, .ref a3])), (a1, .inl (cA, 14, .inl (aN fi))), (a2, .inl (cA, 14, .inl (aN se)))] C dB_countInside_94 rfl (by omega) (by decide) rfl ?_
                    refine s_aload_n 0 C dB_countInside_95 rfl ?_
                    refine s_get (.ref o4) 0 3 C wfP inB flB_21 dB_countInside_96 rfl rfl (by decide) rfl ?_
                    refine s_iconst (nI 1) C dB_countInside_99 (by decide) ?_
                    refine s_iload_n 3 C dB_countInside_100 rfl ?_
                    refine s_shl1 C dB_countInside_101 (by omega) ?_
                    refine s_iconst (nI 1) C dB_countInside_102 (by decide) ?_
                    refine s_iload 4 C dB_countInside_103 rfl ?_
                    refine s_shl1 C dB_countInside_105 (by omega) ?_
                    refine s_iorN C dB_countInside_106 ?_
                    refine s_dup2 C dB_countInside_107 rfl rfl ?_
                    refine s_ialdN 2 C wfP dB_countInside_108 rfl (by omega) (by decide) ?_
                    refine s_iconst (nI 1) C dB_countInside_109 (by decide) ?_
                    refine s_iaddN C dB_countInside_110 ?_
                    refine s_iastN 2 [(h, .inr (1, [.ref o1, .ref o2, .ref o3, .ref o4, .ref o5, .int (nI (2 ^ n - 1)), .int fu, .int fw])), (o2, .inl (cA, 9, .inl (aN (nup (nup nr3 (fi e) ((nr3 (fi e)) ||| (2 ^ (se e)))) (se e) (((nup nr3 (fi e) ((nr3 (fi e)) ||| (2 ^ (se e)))) (se e)) ||| (2 ^ (fi e))))))), (o4, .inl (cA, 512, .inl (aN (nup is3 ((2 ^ (fi e)) ||| (2 ^ (se e))) (is3 ((2 ^ (fi e)) ||| (2 ^ (se e))) + 1))))), (g, .inr (2, [.int (nI n), .int (nI m), .ref a1, .ref a2, .ref a3])), (a1, .inl (cA, 14, .inl (aN fi))), (a2, .inl (cA, 14, .inl (aN se)))] C dB_countInside_111 rfl (by omega) (by decide) rfl ?_
                    refine s_iinc (j := 2) (nI (e + 1)) [(0, .ref h), (1, .ref g), (2, .int (nI (e + 1))), (3, .int (nI (fi e))), (4, .int (nI (se e)))] [1, 2, 0, 3, 4] C dB_countInside_112 rfl (inc1 _) (by decide) rfl ?_
                    refine s_goto (tgt := 46) C dB_countInside_115 (by decide) ?_
                    refine s_lv (lv' := [(0, .ref h), (1, .ref g), (2, .int (nI (e + 1)))]) [0, 1, 2] rfl ?_
                    refine ih3 (e + 1) _ _ (by omega) (near_up f3 hnr3) (fun s hs => ?_)
                    show _ = su (fun e => if pm fi se e = s then 1 else 0) e + (if pm fi se e = s then 1 else 0)
                    by_cases q : s = 2 ^ fi e ||| 2 ^ se e
                    · subst q; rw [nup_s, his3 _ hs, if_pos (show pm fi se e = 2 ^ fi e ||| 2 ^ se e from rfl)]
                    · rw [nup_n q, his3 _ hs, if_neg (show ¬ pm fi se e = s from fun z => q z.symm)]; rfl
              refine loop3 m 0 _ _ (by omega) (fun v hv c => ?_) (fun s hs => ?_)
              · rw [bm_0]
                exact ⟨fun h => absurd h (by decide), fun ⟨j, hj, _⟩ => absurd hj (by omega)⟩
              · show (if s < 2 ^ n then 0 else is s) = 0
                rw [if_pos hs]
            · exact absurd c2 (by omega)
          | succ k2 ih2 =>
            intro i hi
            refine s_iload_n 2 C dB_countInside_23 rfl ?_
            refine s_aload_n 0 C dB_countInside_24 rfl ?_
            refine s_get (.int (nI (2 ^ n - 1))) 0 5 C wfP inB flB_33 dB_countInside_25 rfl rfl (by decide) rfl ?_
            refine s_icmp_gtN 44 C dB_countInside_28 (by decide) (by omega) (by omega) (fun c2 => ?_) (fun c2 => ?_)
            · exact absurd c2 (by omega)
            · refine s_aload_n 0 C dB_countInside_31 rfl ?_
              refine s_get (.ref o4) 0 3 C wfP inB flB_21 dB_countInside_32 rfl rfl (by decide) rfl ?_
              refine s_iload_n 2 C dB_countInside_35 rfl ?_
              refine s_iconst (nI 0) C dB_countInside_36 (by decide) ?_
              refine s_iastN 2 [(h, .inr (1, [.ref o1, .ref o2, .ref o3, .ref o4, .ref o5, .int (nI (2 ^ n - 1)), .int fu, .int fw])), (o2, .inl (cA, 9, .inl (aN (fun _ => 0)))), (o4, .inl (cA, 512, .inl (aN (nup (fun j => if j < i then 0 else is j) i 0)))), (g, .inr (2, [.int (nI n), .int (nI m), .ref a1, .ref a2, .ref a3])), (a1, .inl (cA, 14, .inl (aN fi))), (a2, .inl (cA, 14, .inl (aN se)))] C dB_countInside_37 rfl (by omega) (by decide) rfl ?_
              refine s_iinc (j := 2) (nI (i + 1)) [(0, .ref h), (1, .ref g), (2, .int (nI (i + 1)))] [1, 2, 0] C dB_countInside_38 rfl (inc1 _) (by decide) rfl ?_
              refine s_goto (tgt := 23) C dB_countInside_41 (by decide) ?_
              rw [lt_up (fun _ => 0) is i]
              exact ih2 (i + 1) (by omega)
        have e0 : is = (fun j => if j < 0 then 0 else is j) := by
          funext j
          rw [if_neg (by omega)]
        have h0 := loop2 (2 ^ n) 0 (by omega)
        rw [← e0] at h0
        exact h0
      · exact absurd c1 (by omega)
    | succ k ih =>
      intro i hi
      refine s_iload_n 2 C dB_countInside_2 rfl ?_
      refine s_bipush (nI 9) C dB_countInside_3 (by decide) ?_
      refine s_icmp_geN 21 C dB_countInside_5 (by decide) (by omega) (by omega) (fun c1 => ?_) (fun c1 => ?_)
      · exact absurd c1 (by omega)
      · refine s_aload_n 0 C dB_countInside_8 rfl ?_
        refine s_get (.ref o2) 0 1 C wfP inB flB_15 dB_countInside_9 rfl rfl (by decide) rfl ?_
        refine s_iload_n 2 C dB_countInside_12 rfl ?_
        refine s_iconst (nI 0) C dB_countInside_13 (by decide) ?_
        refine s_iastN 1 [(h, .inr (1, [.ref o1, .ref o2, .ref o3, .ref o4, .ref o5, .int (nI (2 ^ n - 1)), .int fu, .int fw])), (o2, .inl (cA, 9, .inl (aN (nup (fun j => if j < i then 0 else nr j) i 0)))), (o4, .inl (cA, 512, .inl (aN is))), (g, .inr (2, [.int (nI n), .int (nI m), .ref a1, .ref a2, .ref a3])), (a1, .inl (cA, 14, .inl (aN fi))), (a2, .inl (cA, 14, .inl (aN se)))] C dB_countInside_14 rfl (by omega) (by decide) rfl ?_
        refine s_iinc (j := 2) (nI (i + 1)) [(0, .ref h), (1, .ref g), (2, .int (nI (i + 1)))] [1, 2, 0] C dB_countInside_15 rfl (inc1 _) (by decide) rfl ?_
        refine s_goto (tgt := 2) C dB_countInside_18 (by decide) ?_
        rw [lt_up (fun _ => 0) nr i]
        exact ih (i + 1) (by omega)
  have e0 : nr = (fun j => if j < 0 then 0 else nr j) := by
    funext j
    rw [if_neg (by omega)]
  have h0 := loop 9 0 (by omega)
  rw [← e0] at h0
  exact h0
set_option maxHeartbeats 4000000 in
set_option maxRecDepth 100000 in
/-- the tables of the graph -/
theorem kB_load (l : Launch) (D : va_G) (cA : ClassId) (h o1 o2 o3 o4 o5 : Nat) (nr wt is pt : Nat → Nat) (al fu fw : Int32) (g a1 a2 a3 n m : Nat) (fi se wa : Nat → Nat) (h1n : 1 ≤ n) (hn : n ≤ 9) (hm : m ≤ 14) (hfs : hok fi se n m) (hwa : ∀ v, v < 9 → wa v ≤ 14) (hwt0 : wt 0 = 0) : CtV (S := (Nat → Nat) × (Nat → Nat) × (Nat → Nat) × (Nat → Nat)) l yB_load (.code yB_load cB_load 4 none) 1 0 0 D cA [.ref h, .ref g] [(h, .inr (1, [.ref o1, .ref o2, .ref o3, .ref o4, .ref o5, .int al, .int fu, .int fw])), (o2, .inl (cA, 9, .inl (aN nr))), (o3, .inl (cA, 512, .inl (aN wt))), (o4, .inl (cA, 512, .inl (aN is))), (o5, .inl (cA, 512, .inl (aN pt))), (g, .inr (2, [.int (nI n), .int (nI m), .ref a1, .ref a2, .ref a3])), (a1, .inl (cA, 14, .inl (aN fi))), (a2, .inl (cA, 14, .inl (aN se))), (a3, .inl (cA, 9, .inl (aN wa)))] (fun u => tabOK fi se wa n m u.2.1 u.2.2.1 u.2.2.2) (fun u => [(h, .inr (1, [.ref o1, .ref o2, .ref o3, .ref o4, .ref o5, .int (nI (2 ^ n - 1)), .int fu, .int fw])), (o2, .inl (cA, 9, .inl (aN u.1))), (o3, .inl (cA, 512, .inl (aN u.2.1))), (o4, .inl (cA, 512, .inl (aN u.2.2.1))), (o5, .inl (cA, 512, .inl (aN u.2.2.2))), (g, .inr (2, [.int (nI n), .int (nI m), .ref a1, .ref a2, .ref a3])), (a1, .inl (cA, 14, .inl (aN fi))), (a2, .inl (cA, 14, .inl (aN se))), (a3, .inl (cA, 9, .inl (aN wa)))]) := by
  refine mkV [(0, .ref h), (1, .ref g)] (by decide) rfl (Nat.le_of_ble_eq_true rfl) ?_
  intro E A Q hE hi C hA hret
  have h2n : 2 ^ n ≤ 512 := p2_le (k := 9) hn
  have h2p : 1 ≤ 2 ^ n := Nat.one_le_two_pow
  refine s_aload_n 0 C dB_load_0 rfl ?_
  refine s_iconst (nI 1) C dB_load_1 (by decide) ?_
  refine s_aload_n 1 C dB_load_2 rfl ?_
  refine s_get (.int (nI n)) 5 0 C wfP inG flB_27 dB_load_3 rfl rfl (by decide) rfl ?_
  refine s_shl1 C dB_load_6 (by omega) ?_
  refine s_iconst (nI 1) C dB_load_7 (by decide) ?_
  refine s_isubN C dB_load_8 (by omega) ?_
  refine s_put 0 5 [(h, .inr (1, [.ref o1, .ref o2, .ref o3, .ref o4, .ref o5, .int (nI ((2 ^ n) - 1)), .int fu, .int fw])), (o2, .inl (cA, 9, .inl (aN nr))), (o3, .inl (cA, 512, .inl (aN wt))), (o4, .inl (cA, 512, .inl (aN is))), (o5, .inl (cA, 512, .inl (aN pt))), (g, .inr (2, [.int (nI n), .int (nI m), .ref a1, .ref a2, .ref a3])), (a1, .inl (cA, 14, .inl (aN fi))), (a2, .inl (cA, 14, .inl (aN se))), (a3, .inl (cA, 9, .inl (aN wa)))] C inB tyB_ok nmB flB_33 dB_load_9 rfl rfl (by decide) rfl rfl rfl (Nat.le_of_ble_eq_true rfl) rfl ?_
  refine s_aload_n 0 C dB_load_12 rfl ?_
  refine s_aload_n 1 C dB_load_13 rfl ?_
  refine s_callV (n := 1) (wr := [(o3, .inl (cA, 512, .inl (aN wt))), (o5, .inl (cA, 512, .inl (aN pt))), (a3, .inl (cA, 9, .inl (aN wa)))]) [0, 1, 3, 5, 6, 7] [2, 4, 8] 0 [] C hA (kB_countInside E.2.1 D cA h o1 o2 o3 o4 o5 nr is fu fw g a1 a2 a3 n m fi se h1n hn hm hfs) gB_36 dB_load_14 (by decide +kernel) rfl rfl (by decide) (by decide) (by decide) rfl rfl rfl (by decide) (by decide) rfl rfl (Nat.le_of_ble_eq_true rfl) (Nat.zero_le _) (Nat.zero_le _) (fun u hu => ?_)
  refine s_sub (ws' := [(h, .inr (1, [.ref o1, .ref o2, .ref o3, .ref o4, .ref o5, .int (nI (2 ^ n - 1)), .int fu, .int fw])), (o2, .inl (cA, 9, .inl (aN u.1))), (o3, .inl (cA, 512, .inl (aN wt))), (o4, .inl (cA, 512, .inl (aN u.2))), (o5, .inl (cA, 512, .inl (aN pt))), (g, .inr (2, [.int (nI n), .int (nI m), .ref a1, .ref a2, .ref a3])), (a1, .inl (cA, 14, .inl (aN fi))), (a2, .inl (cA, 14, .inl (aN se))), (a3, .inl (cA, 9, .inl (aN wa)))]) [3, 4, 0, 5, 1, 6, 7, 8, 2] rfl (by decide) ?_
  obtain ⟨nr1, is1⟩ := u
  obtain ⟨hnr, his⟩ := hu
  refine s_eqw (ws' := [(h, .inr (1, [.ref o1, .ref o2, .ref o3, .ref o4, .ref o5, .int (nI (2 ^ n - 1)), .int fu, .int fw])), (o2, .inl (cA, 9, .inl (aN nr1))), (o3, .inl (cA, 512, .inl (aN wt))), (o4, .inl (cA, 512, .inl (aN is1))), (o5, .inl (cA, 512, .inl (aN pt))), (g, .inr (2, [.int (nI n), .int (nI m), .ref a1, .ref a2, .ref a3])), (a1, .inl (cA, 14, .inl (aN fi))), (a2, .inl (cA, 14, .inl (aN se))), (a3, .inl (cA, 9, .inl (aN wa)))]) rfl ?_
  refine s_iconst (nI 0) C dB_load_17 (by decide) ?_
  refine s_istore_n [(0, .ref h), (1, .ref g), (2, .int (nI 0))] [1, 2, 0] C dB_load_18 (by decide) rfl ?_
  have loop : ∀ k v (wt1 pt1 : Nat → Nat), v + k = n → (∀ s, s < 2 ^ v → wt1 s = wsum wa s) → (∀ s, 0 < s → s < 2 ^ v → prt fi se m s (pt1 s)) → ST E 4 Q 0 0 (wf E A D [(h, .inr (1, [.ref o1, .ref o2, .ref o3, .ref o4, .ref o5, .int (nI (2 ^ n - 1)), .int fu, .int fw])), (o2, .inl (cA, 9, .inl (aN nr1))), (o3, .inl (cA, 512, .inl (aN wt1))), (o4, .inl (cA, 512, .inl (aN is1))), (o5, .inl (cA, 512, .inl (aN pt1))), (g, .inr (2, [.int (nI n), .int (nI m), .ref a1, .ref a2, .ref a3])), (a1, .inl (cA, 14, .inl (aN fi))), (a2, .inl (cA, 14, .inl (aN se))), (a3, .inl (cA, 9, .inl (aN wa)))]) [(0, .ref h), (1, .ref g), (2, .int (nI v))] [] 19 := by
    intro k
    induction k with
    | zero =>
      intro v wt1 pt1 hi hw1 hp1
      refine s_iload_n 2 C dB_load_19 rfl ?_
      refine s_aload_n 1 C dB_load_20 rfl ?_
      refine s_get (.int (nI n)) 5 0 C wfP inG flB_27 dB_load_21 rfl rfl (by decide) rfl ?_
      refine s_icmp_geN 87 C dB_load_24 (by decide) (by omega) (by omega) (fun c1 => ?_) (fun c1 => ?_)
      · have e9 : n = v := by omega
        subst e9
        exact hret (nr1, wt1, is1, pt1) _ _ dB_load_87 ⟨hw1, his, hp1⟩
      · exact absurd c1 (by omega)
    | succ k ih =>
      intro v wt1 pt1 hi hw1 hp1
      refine s_iload_n 2 C dB_load_19 rfl ?_
      refine s_aload_n 1 C dB_load_20 rfl ?_
      refine s_get (.int (nI n)) 5 0 C wfP inG flB_27 dB_load_21 rfl rfl (by decide) rfl ?_
      refine s_icmp_geN 87 C dB_load_24 (by decide) (by omega) (by omega) (fun c1 => ?_) (fun c1 => ?_)
      · exact absurd c1 (by omega)
      · have hv9 : v ≤ 8 := by omega
        have h2v : 2 ^ v ≤ 256 := p2_le (k := 8) hv9
        have hvw : 2 ^ (v + 1) = 2 * 2 ^ v := by rw [Nat.pow_succ]; omega
        refine s_iconst (nI 0) C dB_load_27 (by decide) ?_
        refine s_istore_n [(0, .ref h), (1, .ref g), (2, .int (nI v)), (3, .int (nI 0))] [1, 2, 3, 0] C dB_load_28 (by decide) rfl ?_
        have loop2 : ∀ k2 low (wt2 pt2 : Nat → Nat), low + k2 = 2 ^ v → (∀ s, s < 2 ^ v + low → wt2 s = wsum wa s) → (∀ s, 0 < s → s < 2 ^ v + low → prt fi se m s (pt2 s)) → ST E 4 Q 0 0 (wf E A D [(h, .inr (1, [.ref o1, .ref o2, .ref o3, .ref o4, .ref o5, .int (nI (2 ^ n - 1)), .int fu, .int fw])), (o2, .inl (cA, 9, .inl (aN nr1))), (o3, .inl (cA, 512, .inl (aN wt2))), (o4, .inl (cA, 512, .inl (aN is1))), (o5, .inl (cA, 512, .inl (aN pt2))), (g, .inr (2, [.int (nI n), .int (nI m), .ref a1, .ref a2, .ref a3])), (a1, .inl (cA, 14, .inl (aN fi))), (a2, .inl (cA, 14, .inl (aN se))), (a3, .inl (cA, 9, .inl (aN wa)))]) [(0, .ref h), (1, .ref g), (2, .int (nI v)), (3, .int (nI low))] [] 29 := by
          intro k2
          induction k2 with
          | zero =>
            intro low wt2 pt2 hi hw2 hp2
            refine s_iload_n 3 C dB_load_29 rfl ?_
            refine s_iconst (nI 1) C dB_load_30 (by decide) ?_
            refine s_iload_n 2 C dB_load_31 rfl ?_
            refine s_shl1 C dB_load_32 (by omega) ?_
            refine s_icmp_geN 81 C dB_load_33 (by decide) (by omega) (by omega) (fun c2 => ?_) (fun c2 => ?_)
            · refine s_iinc (j := 2) (nI (v + 1)) [(0, .ref h), (1, .ref g), (2, .int (nI (v + 1))), (3, .int (nI low))] [1, 2, 0, 3] C dB_load_81 rfl (inc1 _) (by decide) rfl ?_
              refine s_goto (tgt := 19) C dB_load_84 (by decide) ?_
              refine s_lv (lv' := [(0, .ref h), (1, .ref g), (2, .int (nI (v + 1)))]) [0, 1, 2] rfl ?_
              exact ih (v + 1) wt2 pt2 (by omega) (fun s hs => hw2 s (by omega)) (fun s h0 hs => hp2 s h0 (by omega))
            · exact absurd c2 (by omega)
          | succ k2 ih2 =>
            intro low wt2 pt2 hi hw2 hp2
            refine s_iload_n 3 C dB_load_29 rfl ?_
            refine s_iconst (nI 1) C dB_load_30 (by decide) ?_
            refine s_iload_n 2 C dB_load_31 rfl ?_
            refine s_shl1 C dB_load_32 (by omega) ?_
            refine s_icmp_geN 81 C dB_load_33 (by decide) (by omega) (by omega) (fun c2 => ?_) (fun c2 => ?_)
            · exact absurd c2 (by omega)
            · have hol := or_add (low := low) (v := v) (by omega)
              refine s_aload_n 0 C dB_load_36 rfl ?_
              refine s_get (.ref o3) 0 2 C wfP inB flB_18 dB_load_37 rfl rfl (by decide) rfl ?_
              refine s_iload_n 3 C dB_load_40 rfl ?_
              refine s_iconst (nI 1) C dB_load_41 (by decide) ?_
              refine s_iload_n 2 C dB_load_42 rfl ?_
              refine s_shl1 C dB_load_43 (by omega) ?_
              refine s_iorN C dB_load_44 ?_
              refine s_aload_n 0 C dB_load_45 rfl ?_
              refine s_get (.ref o3) 0 2 C wfP inB flB_18 dB_load_46 rfl rfl (by decide) rfl ?_
              refine s_iload_n 3 C dB_load_49 rfl ?_
              refine s_ialdN 2 C wfP dB_load_50 rfl (by omega) (by decide) ?_
              refine s_aload_n 1 C dB_load_51 rfl ?_
              refine s_get (.ref a3) 5 4 C wfP inG flB_40 dB_load_52 rfl rfl (by decide) rfl ?_
              refine s_iload_n 2 C dB_load_55 rfl ?_
              refine s_ialdN 8 C wfP dB_load_56 rfl (by omega) (by decide) ?_
              refine s_iaddN C dB_load_57 ?_
              refine s_iastN 2 [(h, .inr (1, [.ref o1, .ref o2, .ref o3, .ref o4, .ref o5, .int (nI (2 ^ n - 1)), .int fu, .int fw])), (o2, .inl (cA, 9, .inl (aN nr1))), (o3, .inl (cA, 512, .inl (aN (nup wt2 (low ||| (2 ^ v)) (wt2 low + (wa v)))))), (o4, .inl (cA, 512, .inl (aN is1))), (o5, .inl (cA, 512, .inl (aN pt2))), (g, .inr (2, [.int (nI n), .int (nI m), .ref a1, .ref a2, .ref a3])), (a1, .inl (cA, 14, .inl (aN fi))), (a2, .inl (cA, 14, .inl (aN se))), (a3, .inl (cA, 9, .inl (aN wa)))] C dB_load_58 rfl (by omega) (by decide) rfl ?_
              refine s_aload_n 0 C dB_load_59 rfl ?_
              refine s_get (.ref o5) 0 4 C wfP inB flB_24 dB_load_60 rfl rfl (by decide) rfl ?_
              refine s_iload_n 3 C dB_load_63 rfl ?_
              refine s_iconst (nI 1) C dB_load_64 (by decide) ?_
              refine s_iload_n 2 C dB_load_65 rfl ?_
              refine s_shl1 C dB_load_66 (by omega) ?_
              refine s_iorN C dB_load_67 ?_
              refine s_aload_n 0 C dB_load_68 rfl ?_
              refine s_iload_n 2 C dB_load_69 rfl ?_
              refine s_iload_n 3 C dB_load_70 rfl ?_
              refine s_callP (n := 2) [0, 1, 4] 0 [.int (nI (low ||| (2 ^ v))), .ref o5] C wfP (kB_partOf E.2.1 D cA h o1 o2 o3 o4 o5 nr1 pt2 (nI (2 ^ n - 1)) fu fw fi se m v low hv9 (by omega) (hnr v (by omega)) (fun s h0 hs => hp2 s h0 (by omega))) gB_43 dB_load_71 (by decide +kernel) rfl rfl rfl rfl (by decide) (by decide) rfl rfl (Nat.le_of_ble_eq_true rfl) (Nat.zero_le _) (Nat.zero_le _) (fun r hpp => ?_)
              obtain ⟨p, er, hp9, hpr⟩ := hpp
              refine s_top er ?_
              refine s_iastN 4 [(h, .inr (1, [.ref o1, .ref o2, .ref o3, .ref o4, .ref o5, .int (nI (2 ^ n - 1)), .int fu, .int fw])), (o2, .inl (cA, 9, .inl (aN nr1))), (o3, .inl (cA, 512, .inl (aN (nup wt2 (low ||| (2 ^ v)) (wt2 low + (wa v)))))), (o4, .inl (cA, 512, .inl (aN is1))), (o5, .inl (cA, 512, .inl (aN (nup pt2 (low ||| (2 ^ v)) p)))), (g, .inr (2, [.int (nI n), .int (nI m), .ref a1, .ref a2, .ref a3])), (a1, .inl (cA, 14, .inl (aN fi))), (a2, .inl (cA, 14, .inl (aN se))), (a3, .inl (cA, 9, .inl (aN wa)))] C dB_load_74 rfl (by omega) (by decide) rfl ?_
              refine s_iinc (j := 3) (nI (low + 1)) [(0, .ref h), (1, .ref g), (2, .int (nI v)), (3, .int (nI (low + 1)))] [1, 2, 3, 0] C dB_load_75 rfl (inc1 _) (by decide) rfl ?_
              refine s_goto (tgt := 29) C dB_load_78 (by decide) ?_
              refine ih2 (low + 1) _ _ (by omega) (fun s hs => ?_) (fun s h0 hs => ?_)
              · by_cases q : s = low ||| 2 ^ v
                · subst q; rw [nup_s, hw2 low (by omega), wsum_on (by omega) (by omega)]
                · rw [nup_n q]; exact hw2 s (by omega)
              · by_cases q : s = low ||| 2 ^ v
                · subst q; rw [nup_s]; exact hpr
                · rw [nup_n q]; exact hp2 s h0 (by omega)
        exact loop2 (2 ^ v) 0 wt1 pt1 (by omega) (fun s hs => hw1 s (by omega)) (fun s h0 hs => hp1 s h0 (by omega))
  refine loop n 0 wt pt (by omega) (fun s hs => ?_) (fun s h0 hs => absurd hs (by simp; omega))
  have e0 : s = 0 := by simp at hs; exact hs
  rw [e0, hwt0, wsum_0]
