def okW (fi se : Nat → Nat) (n m : Nat) (wa : Nat → Nat) (tg u w : Nat) : Prop := w < 2 ^ n ∧ dsj u w ∧ bnd fi se n m wa u w = tg
set_option maxHeartbeats 4000000 in
set_option maxRecDepth 100000 in
/-- Bounds() -/
theorem kB_init (l : Launch) (D : va_G) (cA : ClassId) (h : Nat) : CtV (S := Nat × Nat × Nat × Nat × Nat) l yB_init (.code yB_init cB_init 4 none) 1 5 2057 D cA [.ref h] [(h, .inr (1, [.null, .null, .null, .null, .null, .int 0, .int 0, .int 0]))] (fun _ => True) (fun u => [(h, .inr (1, [.ref u.1, .ref u.2.1, .ref u.2.2.1, .ref u.2.2.2.1, .ref u.2.2.2.2, .int 0, .int 0, .int 0])), (u.1, .inl (cA, 512, .inl (aN od))), (u.2.1, .inl (cA, 9, .inl (aN (fun _ => 0)))), (u.2.2.1, .inl (cA, 512, .inl (aN (fun _ => 0)))), (u.2.2.2.1, .inl (cA, 512, .inl (aN (fun _ => 0)))), (u.2.2.2.2, .inl (cA, 512, .inl (aN (fun _ => 0))))]) := by
  refine mkV [(0, .ref h)] (by decide) rfl (Nat.le_of_ble_eq_true rfl) ?_
  intro E A Q hE hi C hA hret
  refine s_aload_n 0 C dB_init_0 rfl ?_
  refine s_objInit C mlB_3 dB_init_1 (by decide) (Nat.le_of_ble_eq_true rfl) ?_
  refine s_aload_n 0 C dB_init_4 rfl ?_
  refine s_sipush (nI 512) C dB_init_5 (by decide) ?_
  refine s_newa C hA dB_init_8 (by decide) (by decide) (by decide) (fun q1 => ?_)
  refine s_eqw (ws' := [(h, .inr (1, [.null, .null, .null, .null, .null, .int 0, .int 0, .int 0])), (q1, .inl (cA, 512, .inl (fun _ => 0)))]) rfl ?_
  refine s_putF 0 0 [(h, .inr (1, [.ref q1, .null, .null, .null, .null, .int 0, .int 0, .int 0])), (q1, .inl (cA, 512, .inl (fun _ => 0)))] C hi inB tyB_ok nmB flB_9 dB_init_10 rfl rfl (by decide) rfl rfl rfl rfl (Nat.le_of_ble_eq_true rfl) rfl ?_
  refine s_aload_n 0 C dB_init_13 rfl ?_
  refine s_bipush (nI 9) C dB_init_14 (by decide) ?_
  refine s_newa C hA dB_init_16 (by decide) (by decide) (by decide) (fun q2 => ?_)
  refine s_eqw (ws' := [(h, .inr (1, [.ref q1, .null, .null, .null, .null, .int 0, .int 0, .int 0])), (q1, .inl (cA, 512, .inl (fun _ => 0))), (q2, .inl (cA, 9, .inl (fun _ => 0)))]) rfl ?_
  refine s_putF 0 1 [(h, .inr (1, [.ref q1, .ref q2, .null, .null, .null, .int 0, .int 0, .int 0])), (q1, .inl (cA, 512, .inl (fun _ => 0))), (q2, .inl (cA, 9, .inl (fun _ => 0)))] C hi inB tyB_ok nmB flB_15 dB_init_18 rfl rfl (by decide) rfl rfl rfl rfl (Nat.le_of_ble_eq_true rfl) rfl ?_
  refine s_aload_n 0 C dB_init_21 rfl ?_
  refine s_sipush (nI 512) C dB_init_22 (by decide) ?_
  refine s_newa C hA dB_init_25 (by decide) (by decide) (by decide) (fun q3 => ?_)
  refine s_eqw (ws' := [(h, .inr (1, [.ref q1, .ref q2, .null, .null, .null, .int 0, .int 0, .int 0])), (q1, .inl (cA, 512, .inl (fun _ => 0))), (q2, .inl (cA, 9, .inl (fun _ => 0))), (q3, .inl (cA, 512, .inl (fun _ => 0)))]) rfl ?_
  refine s_putF 0 2 [(h, .inr (1, [.ref q1, .ref q2, .ref q3, .null, .null, .int 0, .int 0, .int 0])), (q1, .inl (cA, 512, .inl (fun _ => 0))), (q2, .inl (cA, 9, .inl (fun _ => 0))), (q3, .inl (cA, 512, .inl (fun _ => 0)))] C hi inB tyB_ok nmB flB_18 dB_init_27 rfl rfl (by decide) rfl rfl rfl rfl (Nat.le_of_ble_eq_true rfl) rfl ?_
  refine s_aload_n 0 C dB_init_30 rfl ?_
  refine s_sipush (nI 512) C dB_init_31 (by decide) ?_
  refine s_newa C hA dB_init_34 (by decide) (by decide) (by decide) (fun q4 => ?_)
  refine s_eqw (ws' := [(h, .inr (1, [.ref q1, .ref q2, .ref q3, .null, .null, .int 0, .int 0, .int 0])), (q1, .inl (cA, 512, .inl (fun _ => 0))), (q2, .inl (cA, 9, .inl (fun _ => 0))), (q3, .inl (cA, 512, .inl (fun _ => 0))), (q4, .inl (cA, 512, .inl (fun _ => 0)))]) rfl ?_
  refine s_putF 0 3 [(h, .inr (1, [.ref q1, .ref q2, .ref q3, .ref q4, .null, .int 0, .int 0, .int 0])), (q1, .inl (cA, 512, .inl (fun _ => 0))), (q2, .inl (cA, 9, .inl (fun _ => 0))), (q3, .inl (cA, 512, .inl (fun _ => 0))), (q4, .inl (cA, 512, .inl (fun _ => 0)))] C hi inB tyB_ok nmB flB_21 dB_init_36 rfl rfl (by decide) rfl rfl rfl rfl (Nat.le_of_ble_eq_true rfl) rfl ?_
  refine s_aload_n 0 C dB_init_39 rfl ?_
  refine s_sipush (nI 512) C dB_init_40 (by decide) ?_
  refine s_newa C hA dB_init_43 (by decide) (by decide) (by decide) (fun q5 => ?_)
  refine s_eqw (ws' := [(h, .inr (1, [.ref q1, .ref q2, .ref q3, .ref q4, .null, .int 0, .int 0, .int 0])), (q1, .inl (cA, 512, .inl (fun _ => 0))), (q2, .inl (cA, 9, .inl (fun _ => 0))), (q3, .inl (cA, 512, .inl (fun _ => 0))), (q4, .inl (cA, 512, .inl (fun _ => 0))), (q5, .inl (cA, 512, .inl (fun _ => 0)))]) rfl ?_
  refine s_putF 0 4 [(h, .inr (1, [.ref q1, .ref q2, .ref q3, .ref q4, .ref q5, .int 0, .int 0, .int 0])), (q1, .inl (cA, 512, .inl (fun _ => 0))), (q2, .inl (cA, 9, .inl (fun _ => 0))), (q3, .inl (cA, 512, .inl (fun _ => 0))), (q4, .inl (cA, 512, .inl (fun _ => 0))), (q5, .inl (cA, 512, .inl (fun _ => 0)))] C hi inB tyB_ok nmB flB_24 dB_init_45 rfl rfl (by decide) rfl rfl rfl rfl (Nat.le_of_ble_eq_true rfl) rfl ?_
  refine s_eqw (ws' := [(h, .inr (1, [.ref q1, .ref q2, .ref q3, .ref q4, .ref q5, .int 0, .int 0, .int 0])), (q1, .inl (cA, 512, .inl (aN (fun _ => 0)))), (q2, .inl (cA, 9, .inl (aN (fun _ => 0)))), (q3, .inl (cA, 512, .inl (aN (fun _ => 0)))), (q4, .inl (cA, 512, .inl (aN (fun _ => 0)))), (q5, .inl (cA, 512, .inl (aN (fun _ => 0))))]) (by rw [← aN_0]) ?_
  refine s_iconst (nI 1) C dB_init_48 (by decide) ?_
  refine s_istore_n [(0, .ref h), (1, .int (nI 1))] [1, 0] C dB_init_49 (by decide) rfl ?_
  refine s_iconst (nI 0) C dB_init_50 (by decide) ?_
  refine s_istore_n [(0, .ref h), (1, .int (nI 1)), (2, .int (nI 0))] [1, 2, 0] C dB_init_51 (by decide) rfl ?_
  have loop : ∀ k i (T : Nat → Nat), i + k = 512 → (∀ j, j < cn i → T j = od j) → ST E 4 Q (0 + 1 + 1 + 1 + 1 + 1) (0 + 512 + 9 + 512 + 512 + 512) (wf E A D [(h, .inr (1, [.ref q1, .ref q2, .ref q3, .ref q4, .ref q5, .int 0, .int 0, .int 0])), (q1, .inl (cA, 512, .inl (aN T))), (q2, .inl (cA, 9, .inl (aN (fun _ => 0)))), (q3, .inl (cA, 512, .inl (aN (fun _ => 0)))), (q4, .inl (cA, 512, .inl (aN (fun _ => 0)))), (q5, .inl (cA, 512, .inl (aN (fun _ => 0))))]) [(0, .ref h), (1, .int (nI (cn i))), (2, .int (nI i))] [] 52 := by
    intro k
    induction k with
    | zero =>
      intro i T hi hT
      refine s_iload_n 2 C dB_init_52 rfl ?_
      refine s_sipush (nI 512) C dB_init_53 (by decide) ?_
      refine s_icmp_geN 117 C dB_init_56 (by decide) (by omega) (by omega) (fun c1 => ?_) (fun c1 => ?_)
      · have e9 : 512 = i := by omega
        subst e9
        refine s_arr (aN od) 1 [(h, .inr (1, [.ref q1, .ref q2, .ref q3, .ref q4, .ref q5, .int 0, .int 0, .int 0])), (q1, .inl (cA, 512, .inl (aN od))), (q2, .inl (cA, 9, .inl (aN (fun _ => 0)))), (q3, .inl (cA, 512, .inl (aN (fun _ => 0)))), (q4, .inl (cA, 512, .inl (aN (fun _ => 0)))), (q5, .inl (cA, 512, .inl (aN (fun _ => 0))))] rfl (fun j hj => ?_) rfl ?_
        · show nI (T j) = nI (od j)
          rw [hT j (by rw [cn_9]; exact hj)]
        exact hret (q1, q2, q3, q4, q5) _ _ dB_init_117 trivial
      · exact absurd c1 (by omega)
    | succ k ih =>
      intro i T hi hT
      refine s_iload_n 2 C dB_init_52 rfl ?_
      refine s_sipush (nI 512) C dB_init_53 (by decide) ?_
      refine s_icmp_geN 117 C dB_init_56 (by decide) (by omega) (by omega) (fun c1 => ?_) (fun c1 => ?_)
      · exact absurd c1 (by omega)
      · obtain ⟨r1, r2, r3⟩ := od_run i (by omega)
        have ho := od_lt i
        refine s_iconst (nI 0) C dB_init_59 (by decide) ?_
        refine s_istore_n [(0, .ref h), (1, .int (nI (cn i))), (2, .int (nI i)), (3, .int (nI 0))] [1, 2, 3, 0] C dB_init_60 (by decide) rfl ?_
        have loop2 : ∀ k2 v (T2 : Nat → Nat), v + k2 = 9 → (∀ j, j < cn i + (v - bl (od i)) → T2 j = od j) → ST E 4 Q (0 + 1 + 1 + 1 + 1 + 1) (0 + 512 + 9 + 512 + 512 + 512) (wf E A D [(h, .inr (1, [.ref q1, .ref q2, .ref q3, .ref q4, .ref q5, .int 0, .int 0, .int 0])), (q1, .inl (cA, 512, .inl (aN T2))), (q2, .inl (cA, 9, .inl (aN (fun _ => 0)))), (q3, .inl (cA, 512, .inl (aN (fun _ => 0)))), (q4, .inl (cA, 512, .inl (aN (fun _ => 0)))), (q5, .inl (cA, 512, .inl (aN (fun _ => 0))))]) [(0, .ref h), (1, .int (nI (cn i + (v - bl (od i))))), (2, .int (nI i)), (3, .int (nI v))] [] 61 := by
          intro k2
          induction k2 with
          | zero =>
            intro v T2 hi hT2
            refine s_iload_n 3 C dB_init_61 rfl ?_
            refine s_bipush (nI 9) C dB_init_62 (by decide) ?_
            refine s_icmp_geN 111 C dB_init_64 (by decide) (by omega) (by omega) (fun c2 => ?_) (fun c2 => ?_)
            · have e9 : 9 = v := by omega
              subst e9
              rw [← r2]
              refine s_iinc (j := 2) (nI (i + 1)) [(0, .ref h), (1, .int (nI (cn (i + 1)))), (2, .int (nI (i + 1))), (3, .int (nI 9))] [1, 2, 0, 3] C dB_init_111 rfl (inc1 _) (by decide) rfl ?_
              refine s_goto (tgt := 52) C dB_init_114 (by decide) ?_
              refine s_lv (lv' := [(0, .ref h), (1, .int (nI (cn (i + 1)))), (2, .int (nI (i + 1)))]) [0, 1, 2] rfl ?_
              exact ih (i + 1) T2 (by omega) (fun j hj => hT2 j (by omega))
            · exact absurd c2 (by omega)
          | succ k2 ih2 =>
            intro v T2 hi hT2
            refine s_iload_n 3 C dB_init_61 rfl ?_
            refine s_bipush (nI 9) C dB_init_62 (by decide) ?_
            refine s_icmp_geN 111 C dB_init_64 (by decide) (by omega) (by omega) (fun c2 => ?_) (fun c2 => ?_)
            · exact absurd c2 (by omega)
            · obtain ⟨s1, s2⟩ := r3 v (by omega)
              have h2v : 2 ^ v ≤ 256 := p2_le (k := 8) (by omega)
              have hti : T2 i = od i := hT2 i (by omega)
              refine s_iconst (nI 1) C dB_init_67 (by decide) ?_
              refine s_iload_n 3 C dB_init_68 rfl ?_
              refine s_shl1 C dB_init_69 (by omega) ?_
              refine s_aload_n 0 C dB_init_70 rfl ?_
              refine s_get (.ref q1) 0 0 C wfP inB flB_9 dB_init_71 rfl rfl (by decide) rfl ?_
              refine s_iload_n 2 C dB_init_74 rfl ?_
              refine s_ialdN 1 C wfP dB_init_75 rfl (by omega) (by decide) ?_
              refine s_top (congrArg nI hti) ?_
              refine s_icmp_leN 105 C dB_init_76 (by decide) (by omega) (by omega) (fun c3 => ?_) (fun c3 => ?_)
              · refine s_iinc (j := 3) (nI (v + 1)) [(0, .ref h), (1, .int (nI (cn i + (v - bl (od i))))), (2, .int (nI i)), (3, .int (nI (v + 1)))] [1, 2, 3, 0] C dB_init_105 rfl (inc1 _) (by decide) rfl ?_
                refine s_goto (tgt := 61) C dB_init_108 (by decide) ?_
                have e8 := s2 c3
                have e7 : cn i + (v - bl (od i)) = cn i + (v + 1 - bl (od i)) := by omega
                rw [e7]
                exact ih2 (v + 1) T2 (by omega) (fun j hj => hT2 j (by omega))
              · obtain ⟨t1, t2, t3⟩ := s1 c3
                refine s_iload_n 1 C dB_init_79 rfl ?_
                refine s_sipush (nI 512) C dB_init_80 (by decide) ?_
                refine s_icmp_geN 105 C dB_init_83 (by decide) (by omega) (by omega) (fun c4 => ?_) (fun c4 => ?_)
                · exact absurd c4 (by omega)
                · refine s_aload_n 0 C dB_init_86 rfl ?_
                  refine s_get (.ref q1) 0 0 C wfP inB flB_9 dB_init_87 rfl rfl (by decide) rfl ?_
                  refine s_iload_n 1 C dB_init_90 rfl ?_
                  refine s_aload_n 0 C dB_init_91 rfl ?_
                  refine s_get (.ref q1) 0 0 C wfP inB flB_9 dB_init_92 rfl rfl (by decide) rfl ?_
                  refine s_iload_n 2 C dB_init_95 rfl ?_
                  refine s_ialdN 1 C wfP dB_init_96 rfl (by omega) (by decide) ?_
                  refine s_top (congrArg nI hti) ?_
                  refine s_iconst (nI 1) C dB_init_97 (by decide) ?_
                  refine s_iload_n 3 C dB_init_98 rfl ?_
                  refine s_shl1 C dB_init_99 (by omega) ?_
                  refine s_iorN C dB_init_100 ?_
                  refine s_iastN 1 [(h, .inr (1, [.ref q1, .ref q2, .ref q3, .ref q4, .ref q5, .int 0, .int 0, .int 0])), (q1, .inl (cA, 512, .inl (aN (nup T2 (cn i + (v - bl (od i))) ((od i) ||| (2 ^ v)))))), (q2, .inl (cA, 9, .inl (aN (fun _ => 0)))), (q3, .inl (cA, 512, .inl (aN (fun _ => 0)))), (q4, .inl (cA, 512, .inl (aN (fun _ => 0)))), (q5, .inl (cA, 512, .inl (aN (fun _ => 0))))] C dB_init_101 rfl (by omega) (by decide) rfl ?_
                  refine s_iinc (j := 1) (nI (cn i + (v - bl (od i)) + 1)) [(0, .ref h), (1, .int (nI (cn i + (v - bl (od i)) + 1))), (2, .int (nI i)), (3, .int (nI v))] [1, 0, 2, 3] C dB_init_102 rfl (inc1 _) (by decide) rfl ?_
                  refine s_iinc (j := 3) (nI (v + 1)) [(0, .ref h), (1, .int (nI (cn i + (v - bl (od i)) + 1))), (2, .int (nI i)), (3, .int (nI (v + 1)))] [1, 2, 3, 0] C dB_init_105 rfl (inc1 _) (by decide) rfl ?_
                  refine s_goto (tgt := 61) C dB_init_108 (by decide) ?_
                  rw [← t3]
                  refine ih2 (v + 1) _ (by omega) (fun j hj => ?_)
                  by_cases q : j = cn i + (v - bl (od i))
                  · subst q; rw [nup_s]; exact t2.symm
                  · rw [nup_n q]; exact hT2 j (by omega)
        have h9 := loop2 9 0 T (by omega) (fun j hj => hT j (by omega))
        rw [Nat.zero_sub, Nat.add_zero] at h9
        exact h9
  have hT0 : ∀ j, j < cn 0 → (fun _ => 0) j = od j := by
    intro j hj
    rw [cn_0] at hj
    have e0 : j = 0 := by omega
    rw [e0, od_0]
  have h9 := loop 512 0 (fun _ => 0) (by omega) hT0
  rw [cn_0] at h9
  exact h9
set_option maxHeartbeats 4000000 in
set_option maxRecDepth 100000 in
/-- the first W for a U -/
theorem kB_findFor (l : Launch) (D : va_G) (cA : ClassId) (h o1 o2 o3 o4 o5 : Nat) (wt is pt : Nat → Nat) (fu fw : Int32) (n m : Nat) (fi se wa : Nat → Nat) (hn : n ≤ 9) (hm : m ≤ 14) (hfs : hok fi se n m) (hwa : ∀ v, v < 9 → wa v ≤ 14) (htab : tabOK fi se wa n m wt is pt) (tg : Nat) (htg : tg < 100) (u : Nat) (hu : u < 2 ^ n) : CtI (S := Int32 × Int32) l yB_findFor (.code yB_findFor cB_findFor 6 (some .boolean)) 1 0 0 D cA [.ref h, .int (nI u), .int (nI tg)] [(h, .inr (1, [.ref o1, .ref o2, .ref o3, .ref o4, .ref o5, .int (nI (2 ^ n - 1)), .int fu, .int fw])), (o1, .inl (cA, 512, .inl (aN od))), (o3, .inl (cA, 512, .inl (aN wt))), (o4, .inl (cA, 512, .inl (aN is))), (o5, .inl (cA, 512, .inl (aN pt)))] (fun r x => (∃ i, i < 512 ∧ okW fi se n m wa tg u (od i) ∧ (∀ j, j < i → ¬ okW fi se n m wa tg u (od j)) ∧ r = nI 1 ∧ x = (nI u, nI (od i))) ∨ ((∀ j, j < 512 → ¬ okW fi se n m wa tg u (od j)) ∧ r = nI 0 ∧ x = (fu, fw))) (fun x => [(h, .inr (1, [.ref o1, .ref o2, .ref o3, .ref o4, .ref o5, .int (nI (2 ^ n - 1)), .int x.1, .int x.2])), (o1, .inl (cA, 512, .inl (aN od))), (o3, .inl (cA, 512, .inl (aN wt))), (o4, .inl (cA, 512, .inl (aN is))), (o5, .inl (cA, 512, .inl (aN pt)))]) := by
  refine mkI [(0, .ref h), (1, .int (nI u)), (2, .int (nI tg))] (by decide) rfl (Nat.le_of_ble_eq_true rfl) ?_
  intro E A Q hE C hA hret
  have h2n : 2 ^ n ≤ 512 := p2_le (k := 9) hn
  refine s_aload_n 0 C dB_findFor_0 rfl ?_
  refine s_get (.int (nI (2 ^ n - 1))) 0 5 C wfP inB flB_33 dB_findFor_1 rfl rfl (by decide) rfl ?_
  refine s_iload_n 1 C dB_findFor_4 rfl ?_
  refine s_iconst (-1) C dB_findFor_5 (by decide) ?_
  refine s_ixor C dB_findFor_6 ?_
  refine s_andnot C dB_findFor_7 ?_
  refine s_istore_n [(0, .ref h), (1, .int (nI u)), (2, .int (nI tg)), (3, .int (nI (ndf (2 ^ n - 1) u)))] [1, 2, 3, 0] C dB_findFor_8 (by decide) rfl ?_
  refine s_iconst (nI 0) C dB_findFor_9 (by decide) ?_
  refine s_istore [(0, .ref h), (1, .int (nI u)), (2, .int (nI tg)), (3, .int (nI (ndf (2 ^ n - 1) u))), (4, .int (nI 0))] [1, 2, 3, 4, 0] C dB_findFor_10 (by decide) rfl ?_
  have loop : ∀ k i, i + k = 512 → (∀ j, j < i → ¬ okW fi se n m wa tg u (od j)) → ST E 6 Q 0 0 (wf E A D [(h, .inr (1, [.ref o1, .ref o2, .ref o3, .ref o4, .ref o5, .int (nI (2 ^ n - 1)), .int fu, .int fw])), (o1, .inl (cA, 512, .inl (aN od))), (o3, .inl (cA, 512, .inl (aN wt))), (o4, .inl (cA, 512, .inl (aN is))), (o5, .inl (cA, 512, .inl (aN pt)))]) [(0, .ref h), (1, .int (nI u)), (2, .int (nI tg)), (3, .int (nI (ndf (2 ^ n - 1) u))), (4, .int (nI i))] [] 12 := by
    intro k
    induction k with
    | zero =>
      intro i hi hno
      refine s_iload 4 C dB_findFor_12 rfl ?_
      refine s_sipush (nI 512) C dB_findFor_14 (by decide) ?_
      refine s_icmp_geN 68 C dB_findFor_17 (by decide) (by omega) (by omega) (fun c1 => ?_) (fun c1 => ?_)
      · refine s_iconst (nI 0) C dB_findFor_68 (by decide) ?_
        exact hret _ (fu, fw) _ _ dB_findFor_69 rfl (Or.inr ⟨fun j hj => hno j (by omega), rfl, rfl⟩)
      · exact absurd c1 (by omega)
    | succ k ih =>
      intro i hi hno
      refine s_iload 4 C dB_findFor_12 rfl ?_
      refine s_sipush (nI 512) C dB_findFor_14 (by decide) ?_
      refine s_icmp_geN 68 C dB_findFor_17 (by decide) (by omega) (by omega) (fun c1 => ?_) (fun c1 => ?_)
      · exact absurd c1 (by omega)
      · have ho := od_lt i
        refine s_aload_n 0 C dB_findFor_20 rfl ?_
        refine s_get (.ref o1) 0 0 C wfP inB flB_9 dB_findFor_21 rfl rfl (by decide) rfl ?_
        refine s_iload 4 C dB_findFor_24 rfl ?_
        refine s_ialdN 1 C wfP dB_findFor_26 rfl (by omega) (by decide) ?_
        refine s_istore [(0, .ref h), (1, .int (nI u)), (2, .int (nI tg)), (3, .int (nI (ndf (2 ^ n - 1) u))), (4, .int (nI i)), (5, .int (nI (od i)))] [1, 2, 3, 4, 5, 0] C dB_findFor_27 (by decide) rfl ?_
        refine s_iload 5 C dB_findFor_29 rfl ?_
        refine s_iload_n 3 C dB_findFor_31 rfl ?_
        refine s_iconst (-1) C dB_findFor_32 (by decide) ?_
        refine s_ixor C dB_findFor_33 ?_
        refine s_andnot C dB_findFor_34 ?_
        refine s_if_neN 62 C dB_findFor_35 (by decide) (by have := ndf_le (od i) (ndf (2 ^ n - 1) u); omega) (fun c2 => ?_) (fun c2 => ?_)
        · refine s_iinc (j := 4) (nI (i + 1)) [(0, .ref h), (1, .int (nI u)), (2, .int (nI tg)), (3, .int (nI (ndf (2 ^ n - 1) u))), (4, .int (nI (i + 1))), (5, .int (nI (od i)))] [1, 2, 3, 4, 0, 5] C dB_findFor_62 rfl (inc1 _) (by decide) rfl ?_
          refine s_goto (tgt := 12) C dB_findFor_65 (by decide) ?_
          refine s_lv (lv' := [(0, .ref h), (1, .int (nI u)), (2, .int (nI tg)), (3, .int (nI (ndf (2 ^ n - 1) u))), (4, .int (nI (i + 1)))]) [0, 1, 2, 3, 4] rfl ?_
          refine ih (i + 1) (by omega) (fun j hj => ?_)
          by_cases q : j = i
          · subst q; exact fun z => c2 (sub_oth.mpr ⟨z.1, z.2.1⟩)
          · exact hno j (by omega)
        · obtain ⟨w1, w2⟩ := sub_oth.mp c2
          have hbl := bnd_le (fi := fi) (se := se) (u := u) (w := od i) hn hm hwa
          refine s_aload_n 0 C dB_findFor_38 rfl ?_
          refine s_iload_n 1 C dB_findFor_39 rfl ?_
          refine s_iload 5 C dB_findFor_40 rfl ?_
          refine s_callP (n := 2) [0, 2, 3, 4] 0 [] C wfP (kB_value E.2.1 D cA h o1 o2 o3 o4 o5 wt is pt fu fw n m fi se wa u (od i) hn hm hfs hwa hu w1 w2 htab.1 htab.2.1 htab.2.2) gB_60 dB_findFor_42 (by decide +kernel) rfl rfl rfl rfl (by decide) (by decide) rfl rfl (Nat.le_of_ble_eq_true rfl) (Nat.zero_le _) (Nat.zero_le _) (fun r hv => ?_)
          refine s_top hv ?_
          refine s_iload_n 2 C dB_findFor_45 rfl ?_
          refine s_icmp_neN 62 C dB_findFor_46 (by decide) (by omega) (by omega) (fun c3 => ?_) (fun c3 => ?_)
          · refine s_iinc (j := 4) (nI (i + 1)) [(0, .ref h), (1, .int (nI u)), (2, .int (nI tg)), (3, .int (nI (ndf (2 ^ n - 1) u))), (4, .int (nI (i + 1))), (5, .int (nI (od i)))] [1, 2, 3, 4, 0, 5] C dB_findFor_62 rfl (inc1 _) (by decide) rfl ?_
            refine s_goto (tgt := 12) C dB_findFor_65 (by decide) ?_
            refine s_lv (lv' := [(0, .ref h), (1, .int (nI u)), (2, .int (nI tg)), (3, .int (nI (ndf (2 ^ n - 1) u))), (4, .int (nI (i + 1)))]) [0, 1, 2, 3, 4] rfl ?_
            refine ih (i + 1) (by omega) (fun j hj => ?_)
            by_cases q : j = i
            · subst q; exact fun z => c3 z.2.2
            · exact hno j (by omega)
          · refine s_aload_n 0 C dB_findFor_49 rfl ?_
            refine s_iload_n 1 C dB_findFor_50 rfl ?_
            refine s_put 0 6 [(h, .inr (1, [.ref o1, .ref o2, .ref o3, .ref o4, .ref o5, .int (nI (2 ^ n - 1)), .int (nI u), .int fw])), (o1, .inl (cA, 512, .inl (aN od))), (o3, .inl (cA, 512, .inl (aN wt))), (o4, .inl (cA, 512, .inl (aN is))), (o5, .inl (cA, 512, .inl (aN pt)))] C inB tyB_ok nmB flB_63 dB_findFor_51 rfl rfl (by decide) rfl rfl rfl (Nat.le_of_ble_eq_true rfl) rfl ?_
            refine s_aload_n 0 C dB_findFor_54 rfl ?_
            refine s_iload 5 C dB_findFor_55 rfl ?_
            refine s_put 0 7 [(h, .inr (1, [.ref o1, .ref o2, .ref o3, .ref o4, .ref o5, .int (nI (2 ^ n - 1)), .int (nI u), .int (nI (od i))])), (o1, .inl (cA, 512, .inl (aN od))), (o3, .inl (cA, 512, .inl (aN wt))), (o4, .inl (cA, 512, .inl (aN is))), (o5, .inl (cA, 512, .inl (aN pt)))] C inB tyB_ok nmB flB_66 dB_findFor_57 rfl rfl (by decide) rfl rfl rfl (Nat.le_of_ble_eq_true rfl) rfl ?_
            refine s_iconst (nI 1) C dB_findFor_60 (by decide) ?_
            exact hret _ (nI u, nI (od i)) _ _ dB_findFor_61 rfl (Or.inl ⟨i, by omega, ⟨w1, w2, c3⟩, hno, rfl, rfl⟩)
  exact loop 512 0 (by omega) (fun j hj => absurd hj (by omega))
set_option maxHeartbeats 4000000 in
set_option maxRecDepth 100000 in
/-- the first two sets whose bound is as told -/
theorem kB_find (l : Launch) (D : va_G) (cA : ClassId) (h o1 o2 o3 o4 o5 : Nat) (wt is pt : Nat → Nat) (fu fw : Int32) (n m : Nat) (fi se wa : Nat → Nat) (hn : n ≤ 9) (hm : m ≤ 14) (hfs : hok fi se n m) (hwa : ∀ v, v < 9 → wa v ≤ 14) (htab : tabOK fi se wa n m wt is pt) (tg : Nat) (htg : tg < 100) (hex : ∃ u w, u < 2 ^ n ∧ okW fi se n m wa tg u w) : CtV (S := Int32 × Int32) l yB_find (.code yB_find cB_find 4 none) 2 0 0 D cA [.ref h, .int (nI tg)] [(h, .inr (1, [.ref o1, .ref o2, .ref o3, .ref o4, .ref o5, .int (nI (2 ^ n - 1)), .int fu, .int fw])), (o1, .inl (cA, 512, .inl (aN od))), (o3, .inl (cA, 512, .inl (aN wt))), (o4, .inl (cA, 512, .inl (aN is))), (o5, .inl (cA, 512, .inl (aN pt)))] (fun x => ∃ i j, i < 512 ∧ j < 512 ∧ od i < 2 ^ n ∧ okW fi se n m wa tg (od i) (od j) ∧ (∀ i', i' < i → ¬ (od i' < 2 ^ n ∧ ∃ w, okW fi se n m wa tg (od i') w)) ∧ (∀ j', j' < j → ¬ okW fi se n m wa tg (od i) (od j')) ∧ x = (nI (od i), nI (od j))) (fun x => [(h, .inr (1, [.ref o1, .ref o2, .ref o3, .ref o4, .ref o5, .int (nI (2 ^ n - 1)), .int x.1, .int x.2])), (o1, .inl (cA, 512, .inl (aN od))), (o3, .inl (cA, 512, .inl (aN wt))), (o4, .inl (cA, 512, .inl (aN is))), (o5, .inl (cA, 512, .inl (aN pt)))]) := by
  refine mkV [(0, .ref h), (1, .int (nI tg))] (by decide) rfl (Nat.le_of_ble_eq_true rfl) ?_
  intro E A Q hE hi C hA hret
  have h2n : 2 ^ n ≤ 512 := p2_le (k := 9) hn
  refine s_iconst (nI 0) C dB_find_0 (by decide) ?_
  refine s_istore_n [(0, .ref h), (1, .int (nI tg)), (2, .int (nI 0))] [1, 2, 0] C dB_find_1 (by decide) rfl ?_
  have loop : ∀ k i, i + k = 512 → (∀ j, j < i → ¬ (od j < 2 ^ n ∧ ∃ w, okW fi se n m wa tg (od j) w)) → ST E 4 Q 0 0 (wf E A D [(h, .inr (1, [.ref o1, .ref o2, .ref o3, .ref o4, .ref o5, .int (nI (2 ^ n - 1)), .int fu, .int fw])), (o1, .inl (cA, 512, .inl (aN od))), (o3, .inl (cA, 512, .inl (aN wt))), (o4, .inl (cA, 512, .inl (aN is))), (o5, .inl (cA, 512, .inl (aN pt)))]) [(0, .ref h), (1, .int (nI tg)), (2, .int (nI i))] [] 2 := by
    intro k
    induction k with
    | zero =>
      intro i hi hno
      refine s_iload_n 2 C dB_find_2 rfl ?_
      refine s_sipush (nI 512) C dB_find_3 (by decide) ?_
      refine s_icmp_geN 53 C dB_find_6 (by decide) (by omega) (by omega) (fun c1 => ?_) (fun c1 => ?_)
      · obtain ⟨u, w, hu, hok1⟩ := hex
        obtain ⟨p1, p2⟩ := od_in u (by omega)
        exact absurd ⟨by rw [p2]; exact hu, w, by rw [p2]; exact hok1⟩ (hno (ps u) (by omega))
      · exact absurd c1 (by omega)
    | succ k ih =>
      intro i hi hno
      refine s_iload_n 2 C dB_find_2 rfl ?_
      refine s_sipush (nI 512) C dB_find_3 (by decide) ?_
      refine s_icmp_geN 53 C dB_find_6 (by decide) (by omega) (by omega) (fun c1 => ?_) (fun c1 => ?_)
      · exact absurd c1 (by omega)
      · have ho := od_lt i
        refine s_aload_n 0 C dB_find_9 rfl ?_
        refine s_get (.ref o1) 0 0 C wfP inB flB_9 dB_find_10 rfl rfl (by decide) rfl ?_
        refine s_iload_n 2 C dB_find_13 rfl ?_
        refine s_ialdN 1 C wfP dB_find_14 rfl (by omega) (by decide) ?_
        refine s_istore_n [(0, .ref h), (1, .int (nI tg)), (2, .int (nI i)), (3, .int (nI (od i)))] [1, 2, 3, 0] C dB_find_15 (by decide) rfl ?_
        refine s_iload_n 3 C dB_find_16 rfl ?_
        refine s_aload_n 0 C dB_find_17 rfl ?_
        refine s_get (.int (nI (2 ^ n - 1))) 0 5 C wfP inB flB_33 dB_find_18 rfl rfl (by decide) rfl ?_
        refine s_iconst (-1) C dB_find_21 (by decide) ?_
        refine s_ixor C dB_find_22 ?_
        refine s_andnot C dB_find_23 ?_
        refine s_if_neN 47 C dB_find_24 (by decide) (by have := ndf_le (od i) (2 ^ n - 1); omega) (fun c2 => ?_) (fun c2 => ?_)
        · refine s_iinc (j := 2) (nI (i + 1)) [(0, .ref h), (1, .int (nI tg)), (2, .int (nI (i + 1))), (3, .int (nI (od i)))] [1, 2, 0, 3] C dB_find_47 rfl (inc1 _) (by decide) rfl ?_
          refine s_goto (tgt := 2) C dB_find_50 (by decide) ?_
          refine s_lv (lv' := [(0, .ref h), (1, .int (nI tg)), (2, .int (nI (i + 1)))]) [0, 1, 2] rfl ?_
          refine ih (i + 1) (by omega) (fun j hj => ?_)
          by_cases q : j = i
          · subst q
            exact fun z => c2 (sub_all.mpr z.1)
          · exact hno j (by omega)
        · have hui := sub_all.mp c2
          have hwu := wsum_le hwa (od i)
          have hwi := htab.1 _ hui
          refine s_aload_n 0 C dB_find_27 rfl ?_
          refine s_get (.ref o3) 0 2 C wfP inB flB_18 dB_find_28 rfl rfl (by decide) rfl ?_
          refine s_iload_n 3 C dB_find_31 rfl ?_
          refine s_ialdN 2 C wfP dB_find_32 rfl (by omega) (by decide) ?_
          refine s_iload_n 1 C dB_find_33 rfl ?_
          refine s_icmp_gtN 47 C dB_find_34 (by decide) (by omega) (by omega) (fun c3 => ?_) (fun c3 => ?_)
          · refine s_iinc (j := 2) (nI (i + 1)) [(0, .ref h), (1, .int (nI tg)), (2, .int (nI (i + 1))), (3, .int (nI (od i)))] [1, 2, 0, 3] C dB_find_47 rfl (inc1 _) (by decide) rfl ?_
            refine s_goto (tgt := 2) C dB_find_50 (by decide) ?_
            refine s_lv (lv' := [(0, .ref h), (1, .int (nI tg)), (2, .int (nI (i + 1)))]) [0, 1, 2] rfl ?_
            refine ih (i + 1) (by omega) (fun j hj => ?_)
            by_cases q : j = i
            · subst q
              exact fun ⟨_, w, z⟩ => absurd (bnd_ge (wa := wa) hn hfs hui z.2.1) (by rw [z.2.2]; omega)
            · exact hno j (by omega)
          · refine s_aload_n 0 C dB_find_37 rfl ?_
            refine s_iload_n 3 C dB_find_38 rfl ?_
            refine s_iload_n 1 C dB_find_39 rfl ?_
            refine s_callI (n := 2) (wr := []) [0, 1, 2, 3, 4] [] 0 [] C hA (kB_findFor E.2.1 D cA h o1 o2 o3 o4 o5 wt is pt fu fw n m fi se wa hn hm hfs hwa htab tg htg (od i) hui) gB_56 dB_find_40 (by decide +kernel) rfl rfl (by decide) (by decide) (by decide) rfl rfl rfl (by decide) (by decide) rfl rfl (Nat.le_of_ble_eq_true rfl) (Nat.zero_le _) (Nat.zero_le _) (fun r x hx => ?_)
            refine s_sub (ws' := [(h, .inr (1, [.ref o1, .ref o2, .ref o3, .ref o4, .ref o5, .int (nI (2 ^ n - 1)), .int x.1, .int x.2])), (o1, .inl (cA, 512, .inl (aN od))), (o3, .inl (cA, 512, .inl (aN wt))), (o4, .inl (cA, 512, .inl (aN is))), (o5, .inl (cA, 512, .inl (aN pt)))]) [0, 1, 2, 3, 4] rfl (by decide) ?_
            rcases hx with ⟨j, hj, hw1, hw2, er, ex⟩ | ⟨hw1, er, ex⟩
            · refine s_top er ?_
              refine s_if_eqN 47 C dB_find_43 (by decide) (by decide) (fun c4 => ?_) (fun c4 => ?_)
              · exact absurd c4 (by decide)
              · exact hret x _ _ dB_find_46 ⟨i, j, by omega, hj, hui, hw1, hno, hw2, ex⟩
            · refine s_top er ?_
              subst ex
              refine s_eqw (ws' := [(h, .inr (1, [.ref o1, .ref o2, .ref o3, .ref o4, .ref o5, .int (nI (2 ^ n - 1)), .int fu, .int fw])), (o1, .inl (cA, 512, .inl (aN od))), (o3, .inl (cA, 512, .inl (aN wt))), (o4, .inl (cA, 512, .inl (aN is))), (o5, .inl (cA, 512, .inl (aN pt)))]) rfl ?_
              refine s_if_eqN 47 C dB_find_43 (by decide) (by decide) (fun c4 => ?_) (fun c4 => ?_)
              · refine s_iinc (j := 2) (nI (i + 1)) [(0, .ref h), (1, .int (nI tg)), (2, .int (nI (i + 1))), (3, .int (nI (od i)))] [1, 2, 0, 3] C dB_find_47 rfl (inc1 _) (by decide) rfl ?_
                refine s_goto (tgt := 2) C dB_find_50 (by decide) ?_
                refine s_lv (lv' := [(0, .ref h), (1, .int (nI tg)), (2, .int (nI (i + 1)))]) [0, 1, 2] rfl ?_
                refine ih (i + 1) (by omega) (fun j hj => ?_)
                by_cases q : j = i
                · subst q
                  exact fun ⟨_, w, z⟩ => by
                    obtain ⟨p1, p2⟩ := od_in w (by have := z.1; omega)
                    exact hw1 (ps w) p1 (by rw [p2]; exact z)
                · exact hno j (by omega)
              · exact absurd rfl c4
  exact loop 512 0 (by omega) (fun j hj => absurd hj (by omega))
