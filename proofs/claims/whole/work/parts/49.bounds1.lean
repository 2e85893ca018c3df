set_option maxHeartbeats 4000000 in
set_option maxRecDepth 100000 in
/-- the part that v is in when the vertices of others are there too -/
theorem kB_partOf (l : Launch) (D : va_G) (cA : ClassId) (h o1 o2 o3 o4 o5 : Nat) (nr pt : Nat → Nat) (al fu fw : Int32) (fi se : Nat → Nat) (m v low : Nat) (hv : v ≤ 8) (hlow : low < 2 ^ v) (hnr : ∀ c, bm (nr v) c = true ↔ adj fi se m v c) (hpt : ∀ s, 0 < s → s < 2 ^ v → prt fi se m s (pt s)) : CtP l yB_partOf (.code yB_partOf cB_partOf 7 (some .int)) 0 D cA [.ref h, .int (nI v), .int (nI low)] [(h, .inr (1, [.ref o1, .ref o2, .ref o3, .ref o4, .ref o5, .int al, .int fu, .int fw])), (o2, .inl (cA, 9, .inl (aN nr))), (o5, .inl (cA, 512, .inl (aN pt)))] (fun r => ∃ p, r = nI p ∧ p < 512 ∧ prt fi se m (low ||| 2 ^ v) p) := by
  refine mkP [(0, .ref h), (1, .int (nI v)), (2, .int (nI low))] (by decide) rfl (Nat.le_of_ble_eq_true rfl) ?_
  intro E Q hE C hret
  have h2v : 2 ^ v ≤ 256 := p2_le (k := 8) hv
  have h2w : 2 ^ (v + 1) ≤ 512 := p2_le (k := 9) (by omega)
  have hvl : bm low v = false := bm_ge hlow (Nat.le_refl _)
  refine s_iconst (nI 1) C dB_partOf_0 (by decide) ?_
  refine s_iload_n 1 C dB_partOf_1 rfl ?_
  refine s_shl1 C dB_partOf_2 (by omega) ?_
  refine s_istore_n [(0, .ref h), (1, .int (nI v)), (2, .int (nI low)), (3, .int (nI (2 ^ v)))] [1, 2, 3, 0] C dB_partOf_3 (by decide) rfl ?_
  refine s_iload_n 2 C dB_partOf_4 rfl ?_
  refine s_istore [(0, .ref h), (1, .int (nI v)), (2, .int (nI low)), (3, .int (nI (2 ^ v))), (4, .int (nI low))] [1, 2, 3, 4, 0] C dB_partOf_5 (by decide) rfl ?_
  refine s_iconst (nI 0) C dB_partOf_7 (by decide) ?_
  refine s_istore [(0, .ref h), (1, .int (nI v)), (2, .int (nI low)), (3, .int (nI (2 ^ v))), (4, .int (nI low)), (5, .int (nI 0))] [1, 2, 3, 4, 5, 0] C dB_partOf_8 (by decide) rfl ?_
  have loop : ∀ k i (rest jn : Nat), i + k = 9 → pJ fi se m v low rest jn → hsz 9 (bm rest) + i ≤ 8 → ST E 7 Q 0 0 (pf E D [(h, .inr (1, [.ref o1, .ref o2, .ref o3, .ref o4, .ref o5, .int al, .int fu, .int fw])), (o2, .inl (cA, 9, .inl (aN nr))), (o5, .inl (cA, 512, .inl (aN pt)))]) [(0, .ref h), (1, .int (nI v)), (2, .int (nI low)), (3, .int (nI jn)), (4, .int (nI rest)), (5, .int (nI i))] [] 10 := by
    intro k
    induction k with
    | zero =>
      intro i rest jn hi hJ hcd
      refine s_iload 5 C dB_partOf_10 rfl ?_
      refine s_bipush (nI 9) C dB_partOf_12 (by decide) ?_
      refine s_icmp_geN 63 C dB_partOf_14 (by decide) (by omega) (by omega) (fun c1 => ?_) (fun c1 => ?_)
      · exact absurd hcd (by omega)
      · exact absurd c1 (by omega)
    | succ k ih =>
      intro i rest jn hi hJ hcd
      refine s_iload 5 C dB_partOf_10 rfl ?_
      refine s_bipush (nI 9) C dB_partOf_12 (by decide) ?_
      refine s_icmp_geN 63 C dB_partOf_14 (by decide) (by omega) (by omega) (fun c1 => ?_) (fun c1 => ?_)
      · exact absurd c1 (by omega)
      · have hrl : rest < 2 ^ v := bm_lt (fun a ha => lt_bm hlow (hJ.1 a ha))
        have hjl := pJ_lt hlow hJ
        refine s_iload 4 C dB_partOf_17 rfl ?_
        refine s_if_eqN 63 C dB_partOf_19 (by decide) (by omega) (fun c2 => ?_) (fun c2 => ?_)
        · subst c2
          refine s_iload_n 3 C dB_partOf_63 rfl ?_
          exact hret _ _ _ dB_partOf_64 rfl ⟨jn, rfl, by omega, pJ_end hlow hJ⟩
        · have hp := hpt rest (by omega) hrl
          have hpl := prt_lt hrl hp
          have hst := pJ_step hvl hnr hJ hp
          have hcd2 : hsz 9 (bm (ndf rest (pt rest))) + (i + 1) ≤ 8 := by
            obtain ⟨t, t1, t2, t3, _⟩ := hp
            have := hsz_dn t1 t3 (lt_bm (Nat.lt_of_lt_of_le hrl (Nat.le_trans h2v (by decide : 256 ≤ 2 ^ 9))) t1)
            omega
          refine s_aload_n 0 C dB_partOf_22 rfl ?_
          refine s_get (.ref o5) 0 4 C pfP inB flB_24 dB_partOf_23 rfl rfl (by decide) rfl ?_
          refine s_iload 4 C dB_partOf_26 rfl ?_
          refine s_ialdN 2 C pfP dB_partOf_28 rfl (by omega) (by decide) ?_
          refine s_istore [(0, .ref h), (1, .int (nI v)), (2, .int (nI low)), (3, .int (nI jn)), (4, .int (nI rest)), (5, .int (nI i)), (6, .int (nI (pt rest)))] [1, 2, 3, 4, 5, 6, 0] C dB_partOf_29 (by decide) rfl ?_
          refine s_iload 6 C dB_partOf_31 rfl ?_
          refine s_aload_n 0 C dB_partOf_33 rfl ?_
          refine s_get (.ref o2) 0 1 C pfP inB flB_15 dB_partOf_34 rfl rfl (by decide) rfl ?_
          refine s_iload_n 1 C dB_partOf_37 rfl ?_
          refine s_ialdN 1 C pfP dB_partOf_38 rfl (by omega) (by decide) ?_
          refine s_iandN C dB_partOf_39 ?_
          refine s_if_eqN 48 C dB_partOf_40 (by decide) (Nat.lt_of_le_of_lt Nat.and_le_left (by omega)) (fun c3 => ?_) (fun c3 => ?_)
          · rw [if_neg (by simp [c3])] at hst
            refine s_iload 4 C dB_partOf_48 rfl ?_
            refine s_iload 6 C dB_partOf_50 rfl ?_
            refine s_iconst (-1) C dB_partOf_52 (by decide) ?_
            refine s_ixor C dB_partOf_53 ?_
            refine s_andnot C dB_partOf_54 ?_
            refine s_istore [(0, .ref h), (1, .int (nI v)), (2, .int (nI low)), (3, .int (nI jn)), (4, .int (nI (ndf rest (pt rest)))), (5, .int (nI i)), (6, .int (nI (pt rest)))] [1, 2, 3, 4, 0, 5, 6] C dB_partOf_55 (by decide) rfl ?_
            refine s_iinc (j := 5) (nI (i + 1)) [(0, .ref h), (1, .int (nI v)), (2, .int (nI low)), (3, .int (nI jn)), (4, .int (nI (ndf rest (pt rest)))), (5, .int (nI (i + 1))), (6, .int (nI (pt rest)))] [1, 2, 3, 4, 5, 0, 6] C dB_partOf_57 rfl (inc1 _) (by decide) rfl ?_
            refine s_goto (tgt := 10) C dB_partOf_60 (by decide) ?_
            refine s_lv (lv' := [(0, .ref h), (1, .int (nI v)), (2, .int (nI low)), (3, .int (nI jn)), (4, .int (nI (ndf rest (pt rest)))), (5, .int (nI (i + 1)))]) [0, 1, 2, 3, 4, 5] rfl ?_
            exact ih (i + 1) _ _ (by omega) hst hcd2
          · rw [if_pos c3] at hst
            refine s_iload_n 3 C dB_partOf_43 rfl ?_
            refine s_iload 6 C dB_partOf_44 rfl ?_
            refine s_iorN C dB_partOf_46 ?_
            refine s_istore_n [(0, .ref h), (1, .int (nI v)), (2, .int (nI low)), (3, .int (nI (jn ||| (pt rest)))), (4, .int (nI rest)), (5, .int (nI i)), (6, .int (nI (pt rest)))] [1, 2, 3, 0, 4, 5, 6] C dB_partOf_47 (by decide) rfl ?_
            refine s_iload 4 C dB_partOf_48 rfl ?_
            refine s_iload 6 C dB_partOf_50 rfl ?_
            refine s_iconst (-1) C dB_partOf_52 (by decide) ?_
            refine s_ixor C dB_partOf_53 ?_
            refine s_andnot C dB_partOf_54 ?_
            refine s_istore [(0, .ref h), (1, .int (nI v)), (2, .int (nI low)), (3, .int (nI (jn ||| (pt rest)))), (4, .int (nI (ndf rest (pt rest)))), (5, .int (nI i)), (6, .int (nI (pt rest)))] [1, 2, 3, 4, 0, 5, 6] C dB_partOf_55 (by decide) rfl ?_
            refine s_iinc (j := 5) (nI (i + 1)) [(0, .ref h), (1, .int (nI v)), (2, .int (nI low)), (3, .int (nI (jn ||| (pt rest)))), (4, .int (nI (ndf rest (pt rest)))), (5, .int (nI (i + 1))), (6, .int (nI (pt rest)))] [1, 2, 3, 4, 5, 0, 6] C dB_partOf_57 rfl (inc1 _) (by decide) rfl ?_
            refine s_goto (tgt := 10) C dB_partOf_60 (by decide) ?_
            refine s_lv (lv' := [(0, .ref h), (1, .int (nI v)), (2, .int (nI low)), (3, .int (nI (jn ||| (pt rest)))), (4, .int (nI (ndf rest (pt rest)))), (5, .int (nI (i + 1)))]) [0, 1, 2, 3, 4, 5] rfl ?_
            exact ih (i + 1) _ _ (by omega) hst hcd2
  have hc0 := hsz_bd hlow 9
  exact loop 9 0 low (2 ^ v) (by omega) (pJ_0 fi se m v low) (by omega)
set_option maxHeartbeats 4000000 in
set_option maxRecDepth 100000 in
/-- the bound of u and w -/
theorem kB_value (l : Launch) (D : va_G) (cA : ClassId) (h o1 o2 o3 o4 o5 : Nat) (wt is pt : Nat → Nat) (fu fw : Int32) (n m : Nat) (fi se wa : Nat → Nat) (u w : Nat) (hn : n ≤ 9) (hm : m ≤ 14) (hfs : hok fi se n m) (hwa : ∀ v, v < 9 → wa v ≤ 14) (hu : u < 2 ^ n) (hw : w < 2 ^ n) (hdj : dsj u w) (hwt : ∀ s, s < 2 ^ n → wt s = wsum wa s) (his : ∀ s, s < 2 ^ n → is s = ins fi se m s) (hpt : ∀ s, 0 < s → s < 2 ^ n → prt fi se m s (pt s)) : CtP l yB_value (.code yB_value cB_value 8 (some .int)) 0 D cA [.ref h, .int (nI u), .int (nI w)] [(h, .inr (1, [.ref o1, .ref o2, .ref o3, .ref o4, .ref o5, .int (nI (2 ^ n - 1)), .int fu, .int fw])), (o3, .inl (cA, 512, .inl (aN wt))), (o4, .inl (cA, 512, .inl (aN is))), (o5, .inl (cA, 512, .inl (aN pt)))] (fun r => r = nI (bnd fi se n m wa u w)) := by
  refine mkP [(0, .ref h), (1, .int (nI u)), (2, .int (nI w))] (by decide) rfl (Nat.le_of_ble_eq_true rfl) ?_
  intro E Q hE C hret
  have h2n : 2 ^ n ≤ 512 := p2_le (k := 9) hn
  obtain ⟨d, hEx⟩ := exa_ex fi se (m := m) hn hdj
  have hbd := bnd_is (b := wa) hfs hEx
  have hwu := wsum_le hwa u
  refine s_aload_n 0 C dB_value_0 rfl ?_
  refine s_get (.ref o3) 0 2 C pfP inB flB_18 dB_value_1 rfl rfl (by decide) rfl ?_
  refine s_iload_n 1 C dB_value_4 rfl ?_
  refine s_ialdN 1 C pfP dB_value_5 rfl (by omega) (by decide) ?_
  refine s_aload_n 0 C dB_value_6 rfl ?_
  refine s_get (.ref o4) 0 3 C pfP inB flB_21 dB_value_7 rfl rfl (by decide) rfl ?_
  refine s_iload_n 2 C dB_value_10 rfl ?_
  refine s_ialdN 2 C pfP dB_value_11 rfl (by omega) (by decide) ?_
  refine s_iaddN C dB_value_12 ?_
  refine s_istore_n [(0, .ref h), (1, .int (nI u)), (2, .int (nI w)), (3, .int (nI (wt u + (is w))))] [1, 2, 3, 0] C dB_value_13 (by decide) rfl ?_
  refine s_aload_n 0 C dB_value_14 rfl ?_
  refine s_get (.int (nI (2 ^ n - 1))) 0 5 C pfP inB flB_33 dB_value_15 rfl rfl (by decide) rfl ?_
  refine s_iload_n 1 C dB_value_18 rfl ?_
  refine s_iload_n 2 C dB_value_19 rfl ?_
  refine s_iorN C dB_value_20 ?_
  refine s_iconst (-1) C dB_value_21 (by decide) ?_
  refine s_ixor C dB_value_22 ?_
  refine s_andnot C dB_value_23 ?_
  refine s_istore [(0, .ref h), (1, .int (nI u)), (2, .int (nI w)), (3, .int (nI (wt u + (is w)))), (4, .int (nI (ndf (2 ^ n - 1) (u ||| w))))] [1, 2, 3, 4, 0] C dB_value_24 (by decide) rfl ?_
  refine s_iconst (nI 0) C dB_value_26 (by decide) ?_
  refine s_istore [(0, .ref h), (1, .int (nI u)), (2, .int (nI w)), (3, .int (nI (wt u + (is w)))), (4, .int (nI (ndf (2 ^ n - 1) (u ||| w)))), (5, .int (nI 0))] [1, 2, 3, 4, 5, 0] C dB_value_27 (by decide) rfl ?_
  have loop : ∀ k i (sm rest : Nat), i + k = 9 → sm + su (fun l => Yl fi se n m wa d rest w l / 2) 9 = nbd fi se n m 9 wa d → (∀ v, bm rest v = true → rsv n u w v) → (∀ a b, adj fi se m a b → bm rest a = true → rsv n u w b → bm rest b = true) → rest < 2 ^ n → hsz 9 (bm rest) + i ≤ 9 → ST E 8 Q 0 0 (pf E D [(h, .inr (1, [.ref o1, .ref o2, .ref o3, .ref o4, .ref o5, .int (nI (2 ^ n - 1)), .int fu, .int fw])), (o3, .inl (cA, 512, .inl (aN wt))), (o4, .inl (cA, 512, .inl (aN is))), (o5, .inl (cA, 512, .inl (aN pt)))]) [(0, .ref h), (1, .int (nI u)), (2, .int (nI w)), (3, .int (nI sm)), (4, .int (nI rest)), (5, .int (nI i))] [] 29 := by
    intro k
    induction k with
    | zero =>
      intro i sm rest hi hsm hrs hcl hrl hcd
      refine s_iload 5 C dB_value_29 rfl ?_
      refine s_bipush (nI 9) C dB_value_31 (by decide) ?_
      refine s_icmp_geN 106 C dB_value_33 (by decide) (by omega) (by omega) (fun c1 => ?_) (fun c1 => ?_)
      · refine s_iload_n 3 C dB_value_106 rfl ?_
        have e0 : rest = 0 := hsz_z (N := 9) (Nat.lt_of_lt_of_le hrl h2n) (by omega)
        subst e0
        refine hret _ _ _ dB_value_107 rfl ?_
        rw [hbd, ← hsm, su_z (fun l _ => by rw [Yl_0])]
        rfl
      · exact absurd c1 (by omega)
    | succ k ih =>
      intro i sm rest hi hsm hrs hcl hrl hcd
      refine s_iload 5 C dB_value_29 rfl ?_
      refine s_bipush (nI 9) C dB_value_31 (by decide) ?_
      refine s_icmp_geN 106 C dB_value_33 (by decide) (by omega) (by omega) (fun c1 => ?_) (fun c1 => ?_)
      · exact absurd c1 (by omega)
      · refine s_iload 4 C dB_value_36 rfl ?_
        refine s_if_eqN 106 C dB_value_38 (by decide) (by omega) (fun c2 => ?_) (fun c2 => ?_)
        · subst c2
          refine s_iload_n 3 C dB_value_106 rfl ?_
          refine hret _ _ _ dB_value_107 rfl ?_
          rw [hbd, ← hsm, su_z (fun l _ => by rw [Yl_0])]
          rfl
        · have hp := hpt rest (by omega) hrl
          have hpl := prt_lt hrl hp
          obtain ⟨v1, v2, v3⟩ := vl_step (wa := wa) hn hfs hw hEx hrs hcl hp
          have hor : pt rest ||| w < 2 ^ n := Nat.or_lt_two_pow hpl hw
          have i1 := his _ hor
          have i2 := his _ hpl
          have i3 := his _ hw
          have i4 := hwt _ hpl
          have i5 := wsum_le hwa (pt rest)
          have i6 := ins_le fi se m (pt rest ||| w)
          have hcd2 : hsz 9 (bm (ndf rest (pt rest))) + (i + 1) ≤ 9 := by
            obtain ⟨t, t1, t2, t3, _⟩ := hp
            have := hsz_dn (k := 9) t1 t3 (lt_bm (Nat.lt_of_lt_of_le hrl h2n) t1)
            omega
          refine s_aload_n 0 C dB_value_41 rfl ?_
          refine s_get (.ref o5) 0 4 C pfP inB flB_24 dB_value_42 rfl rfl (by decide) rfl ?_
          refine s_iload 4 C dB_value_45 rfl ?_
          refine s_ialdN 3 C pfP dB_value_47 rfl (by omega) (by decide) ?_
          refine s_istore [(0, .ref h), (1, .int (nI u)), (2, .int (nI w)), (3, .int (nI sm)), (4, .int (nI rest)), (5, .int (nI i)), (6, .int (nI (pt rest)))] [1, 2, 3, 4, 5, 6, 0] C dB_value_48 (by decide) rfl ?_
          refine s_aload_n 0 C dB_value_50 rfl ?_
          refine s_get (.ref o4) 0 3 C pfP inB flB_21 dB_value_51 rfl rfl (by decide) rfl ?_
          refine s_iload 6 C dB_value_54 rfl ?_
          refine s_iload_n 2 C dB_value_56 rfl ?_
          refine s_iorN C dB_value_57 ?_
          refine s_ialdN 2 C pfP dB_value_58 rfl (by omega) (by decide) ?_
          refine s_aload_n 0 C dB_value_59 rfl ?_
          refine s_get (.ref o4) 0 3 C pfP inB flB_21 dB_value_60 rfl rfl (by decide) rfl ?_
          refine s_iload 6 C dB_value_63 rfl ?_
          refine s_ialdN 2 C pfP dB_value_65 rfl (by omega) (by decide) ?_
          refine s_isubN C dB_value_66 (by omega) ?_
          refine s_aload_n 0 C dB_value_67 rfl ?_
          refine s_get (.ref o4) 0 3 C pfP inB flB_21 dB_value_68 rfl rfl (by decide) rfl ?_
          refine s_iload_n 2 C dB_value_71 rfl ?_
          refine s_ialdN 2 C pfP dB_value_72 rfl (by omega) (by decide) ?_
          refine s_isubN C dB_value_73 (by omega) ?_
          refine s_istore [(0, .ref h), (1, .int (nI u)), (2, .int (nI w)), (3, .int (nI sm)), (4, .int (nI rest)), (5, .int (nI i)), (6, .int (nI (pt rest))), (7, .int (nI (((is ((pt rest) ||| w)) - (is (pt rest))) - (is w))))] [1, 2, 3, 4, 5, 6, 7, 0] C dB_value_74 (by decide) rfl ?_
          refine s_iload_n 3 C dB_value_76 rfl ?_
          refine s_aload_n 0 C dB_value_77 rfl ?_
          refine s_get (.ref o3) 0 2 C pfP inB flB_18 dB_value_78 rfl rfl (by decide) rfl ?_
          refine s_iload 6 C dB_value_81 rfl ?_
          refine s_ialdN 1 C pfP dB_value_83 rfl (by omega) (by decide) ?_
          refine s_iload 7 C dB_value_84 rfl ?_
          refine s_iaddN C dB_value_86 ?_
          refine s_iconst (nI 2) C dB_value_87 (by decide) ?_
          refine s_idivN C dB_value_88 (by omega) (by decide) (by decide) ?_
          refine s_iaddN C dB_value_89 ?_
          refine s_istore_n [(0, .ref h), (1, .int (nI u)), (2, .int (nI w)), (3, .int (nI (sm + ((wt (pt rest) + (((is ((pt rest) ||| w)) - (is (pt rest))) - (is w))) / 2)))), (4, .int (nI rest)), (5, .int (nI i)), (6, .int (nI (pt rest))), (7, .int (nI (((is ((pt rest) ||| w)) - (is (pt rest))) - (is w))))] [1, 2, 3, 0, 4, 5, 6, 7] C dB_value_90 (by decide) rfl ?_
          refine s_iload 4 C dB_value_91 rfl ?_
          refine s_iload 6 C dB_value_93 rfl ?_
          refine s_iconst (-1) C dB_value_95 (by decide) ?_
          refine s_ixor C dB_value_96 ?_
          refine s_andnot C dB_value_97 ?_
          refine s_istore [(0, .ref h), (1, .int (nI u)), (2, .int (nI w)), (3, .int (nI (sm + ((wt (pt rest) + (((is ((pt rest) ||| w)) - (is (pt rest))) - (is w))) / 2)))), (4, .int (nI (ndf rest (pt rest)))), (5, .int (nI i)), (6, .int (nI (pt rest))), (7, .int (nI (((is ((pt rest) ||| w)) - (is (pt rest))) - (is w))))] [1, 2, 3, 4, 0, 5, 6, 7] C dB_value_98 (by decide) rfl ?_
          refine s_iinc (j := 5) (nI (i + 1)) [(0, .ref h), (1, .int (nI u)), (2, .int (nI w)), (3, .int (nI (sm + ((wt (pt rest) + (((is ((pt rest) ||| w)) - (is (pt rest))) - (is w))) / 2)))), (4, .int (nI (ndf rest (pt rest)))), (5, .int (nI (i + 1))), (6, .int (nI (pt rest))), (7, .int (nI (((is ((pt rest) ||| w)) - (is (pt rest))) - (is w))))] [1, 2, 3, 4, 5, 0, 6, 7] C dB_value_100 rfl (inc1 _) (by decide) rfl ?_
          refine s_goto (tgt := 29) C dB_value_103 (by decide) ?_
          refine s_lv (lv' := [(0, .ref h), (1, .int (nI u)), (2, .int (nI w)), (3, .int (nI (sm + ((wt (pt rest) + (((is ((pt rest) ||| w)) - (is (pt rest))) - (is w))) / 2)))), (4, .int (nI (ndf rest (pt rest)))), (5, .int (nI (i + 1)))]) [0, 1, 2, 3, 4, 5] rfl ?_
          refine ih (i + 1) _ _ (by omega) ?_ ?_ v3 ?_ hcd2
          · rw [i1, i2, i3, i4, Nat.add_assoc, ← v2]; exact hsm
          · exact fun v hv => hrs v (by rw [bm_ndf] at hv; simp only [Bool.and_eq_true] at hv; exact hv.1)
          · exact bm_lt (fun v hv => lt_bm hrl (by rw [bm_ndf] at hv; simp only [Bool.and_eq_true] at hv; exact hv.1))
  have hr0 := bm_rest n u w
  have hrl0 : ndf (2 ^ n - 1) (u ||| w) < 2 ^ n := bm_lt (fun v hv => ((hr0 v).mp hv).1)
  have hc0 := hsz_bd hrl0 9
  refine loop 9 0 _ _ (by omega) ?_ (fun v hv => (hr0 v).mp hv) (fun a b _ _ hb => (hr0 b).mpr hb) hrl0 (by omega)
  rw [hwt u hu, his w hw]
  exact (nbd_st hn hfs hu hEx hr0).symm
