theorem bndQ_v {fi se wa : Nat → Nat} {n m a b : Nat} {r : Int32} (hn : n ≤ 9) (ha : a < 2 ^ n) (hb : b < 2 ^ n) (hd : dsj a b) (h : bndQ fi se wa n m (nI a) (nI b) r) : r = nI (bnd fi se n m wa a b) := by
  have h2 : 2 ^ n ≤ 512 := p2_le (k := 9) hn
  rcases h with ⟨a', b', h1, h2', h3, e1, e2, e3⟩ | ⟨h1, _⟩
  · rw [(nI_eq (by omega) (by omega)).mp e1, (nI_eq (by omega) (by omega)).mp e2]; exact e3
  · exact absurd ⟨a, b, ha, hb, hd, rfl, rfl⟩ h1
/-- what the witness's loops have found so far -/
def wiI (fi se wa : Nat → Nat) (n m nu i k : Nat) (fu fw : Int32) : Prop :=
  (fu = -1 ∧ fw = -1 ∧ ∀ u w, (u < i ∨ (u = i ∧ w < k)) → u < 2 ^ n → ¬ okW fi se n m wa nu u w) ∨
  ∃ a b, fu = nI a ∧ fw = nI b ∧ a < 2 ^ n ∧ okW fi se n m wa nu a b ∧ ∀ u w, (u < i ∨ (u = i ∧ w < k)) → u < 2 ^ n → okW fi se n m wa nu u w → pky a b ≤ pky u w
theorem wi_no {fi se wa : Nat → Nat} {n m nu i k : Nat} {fu fw : Int32} (h : wiI fi se wa n m nu i k fu fw) (hno : ¬ okW fi se n m wa nu i k) : wiI fi se wa n m nu i (k + 1) fu fw := by
  rcases h with ⟨h1, h2, h3⟩ | ⟨a, b, h1, h2, h3, h4, h5⟩
  · refine Or.inl ⟨h1, h2, fun u w hp hu hok => ?_⟩
    by_cases q : u = i ∧ w = k
    · obtain ⟨rfl, rfl⟩ := q; exact hno hok
    · exact h3 u w (by omega) hu hok
  · refine Or.inr ⟨a, b, h1, h2, h3, h4, fun u w hp hu hok => ?_⟩
    by_cases q : u = i ∧ w = k
    · obtain ⟨rfl, rfl⟩ := q; exact absurd hok hno
    · exact h5 u w (by omega) hu hok
theorem wi_ge {fi se wa : Nat → Nat} {n m nu i k a b : Nat} (h3 : a < 2 ^ n) (h4 : okW fi se n m wa nu a b) (h5 : ∀ u w, (u < i ∨ (u = i ∧ w < k)) → u < 2 ^ n → okW fi se n m wa nu u w → pky a b ≤ pky u w) (hge : pky a b ≤ pky i k) : wiI fi se wa n m nu i (k + 1) (nI a) (nI b) := by
  refine Or.inr ⟨a, b, rfl, rfl, h3, h4, fun u w hp hu hok => ?_⟩
  by_cases q : u = i ∧ w = k
  · obtain ⟨rfl, rfl⟩ := q; exact hge
  · exact h5 u w (by omega) hu hok
theorem wi_new {fi se wa : Nat → Nat} {n m nu i k : Nat} {fu fw : Int32} (h : wiI fi se wa n m nu i k fu fw) (hi : i < 2 ^ n) (hok : okW fi se n m wa nu i k) (hb : ∀ a b, fu = nI a → fw = nI b → a < 2 ^ n → b < 2 ^ n → pky i k < pky a b) : wiI fi se wa n m nu i (k + 1) (nI i) (nI k) := by
  refine Or.inr ⟨i, k, rfl, rfl, hi, hok, fun u w hp hu hok' => ?_⟩
  by_cases q : u = i ∧ w = k
  · obtain ⟨rfl, rfl⟩ := q; exact Nat.le_refl _
  · rcases h with ⟨h1, h2, h3⟩ | ⟨a, b, h1, h2, h3, h4, h5⟩
    · exact absurd hok' (h3 u w (by omega) hu)
    · have h6 := h5 u w (by omega) hu hok'
      have h7 := hb a b h1 h2 h3 h4.1
      omega
set_option maxHeartbeats 4000000 in
set_option maxRecDepth 100000 in
/-- half of what a part holds -/
theorem kM_half (l : Launch) (D : va_G) (cA : ClassId) (y p1 p2 p3 p4 : Nat) (n m : Nat) (fi se wa : Nat → Nat) (PA : Nat → Int32) (g2 : n ≤ 9) (g3 : m ≤ 14) (g4 : hok fi se n m) (g5 : ∀ v, v < 9 → wa v ≤ 14) (u w p : Nat) (lb : Nat → Nat) (hw : w < 2 ^ n) (hd : dsj u w) (hP : paP fi se n m u w PA lb) (hp : p < n) : CtP l yM_half (.code yM_half cM_half 6 (some .int)) 1 D cA [.ref y, .int (nI p), .int (nI w)] [(y, .inr (5, [.int (nI n), .int (nI m), .ref p1, .ref p2, .ref p3, .ref p4])), (p1, .inl (cA, 14, .inl (aN fi))), (p2, .inl (cA, 14, .inl (aN se))), (p3, .inl (cA, 9, .inl (aN wa))), (p4, .inl (cA, 9, .inl PA))] (fun r => r = nI ((hA n wa (dlb u w lb) (p + 2) + su (fun e => nbt fi se (dlb u w lb) e (p + 2)) m) / 2)) := by
  refine mkP [(0, .ref y), (1, .int (nI p)), (2, .int (nI w))] (by decide) rfl (Nat.le_of_ble_eq_true rfl) ?_
  intro E Q hE C hret
  have h2n : 2 ^ n ≤ 512 := p2_le (k := 9) g2
  have his : ∀ v, v < n → (PA v = nI p ↔ (dlb u w lb) v = p + 2) := fun v hv => by rw [hP.1 v hv]; exact pa_is g2 hP.2 hv (by omega)
  refine s_iconst (nI 0) C dM_half_0 (by decide) ?_
  refine s_istore_n [(0, .ref y), (1, .int (nI p)), (2, .int (nI w)), (3, .int (nI 0))] [1, 2, 3, 0] C dM_half_1 (by decide) rfl ?_
  refine s_iconst (nI 0) C dM_half_2 (by decide) ?_
  refine s_istore [(0, .ref y), (1, .int (nI p)), (2, .int (nI w)), (3, .int (nI 0)), (4, .int (nI 0))] [1, 2, 3, 4, 0] C dM_half_3 (by decide) rfl ?_
  have loop : ∀ k i, i + k = n → ST E 6 Q 0 0 (pf E D [(y, .inr (5, [.int (nI n), .int (nI m), .ref p1, .ref p2, .ref p3, .ref p4])), (p1, .inl (cA, 14, .inl (aN fi))), (p2, .inl (cA, 14, .inl (aN se))), (p3, .inl (cA, 9, .inl (aN wa))), (p4, .inl (cA, 9, .inl PA))]) [(0, .ref y), (1, .int (nI p)), (2, .int (nI w)), (3, .int (nI (hA i wa (dlb u w lb) (p + 2)))), (4, .int (nI i))] [] 5 := by
    intro k
    induction k with
    | zero =>
      intro i hi
      refine s_iload 4 C dM_half_5 rfl ?_
      refine s_aload_n 0 C dM_half_7 rfl ?_
      refine s_get (.int (nI n)) 0 0 C pfP inM flM_7 dM_half_8 rfl rfl (by decide) rfl ?_
      refine s_icmp_geN 45 C dM_half_11 (by decide) (by omega) (by omega) (fun c1 => ?_) (fun c1 => ?_)
      · have e9 : n = i := by omega
        subst e9
        have hbA : hA n wa (dlb u w lb) (p + 2) ≤ 126 := by
          have h1 : hA n wa (dlb u w lb) (p + 2) ≤ su wa n := su_le (fun v _ => by split <;> omega)
          have h2 := su_wa g2 g5
          omega
        refine s_iconst (nI 0) C dM_half_45 (by decide) ?_
        refine s_istore [(0, .ref y), (1, .int (nI p)), (2, .int (nI w)), (3, .int (nI (hA n wa (dlb u w lb) (p + 2)))), (4, .int (nI 0))] [1, 2, 3, 4, 0] C dM_half_46 (by decide) rfl ?_
        have loop2 : ∀ k2 e, e + k2 = m → ST E 6 Q 0 0 (pf E D [(y, .inr (5, [.int (nI n), .int (nI m), .ref p1, .ref p2, .ref p3, .ref p4])), (p1, .inl (cA, 14, .inl (aN fi))), (p2, .inl (cA, 14, .inl (aN se))), (p3, .inl (cA, 9, .inl (aN wa))), (p4, .inl (cA, 9, .inl PA))]) [(0, .ref y), (1, .int (nI p)), (2, .int (nI w)), (3, .int (nI (hA n wa (dlb u w lb) (p + 2) + su (fun e => nbt fi se (dlb u w lb) e (p + 2)) e))), (4, .int (nI e))] [] 48 := by
          intro k2
          induction k2 with
          | zero =>
            intro e hi
            refine s_iload 4 C dM_half_48 rfl ?_
            refine s_aload_n 0 C dM_half_50 rfl ?_
            refine s_get (.int (nI m)) 0 1 C pfP inM flM_26 dM_half_51 rfl rfl (by decide) rfl ?_
            refine s_icmp_geN 143 C dM_half_54 (by decide) (by omega) (by omega) (fun c2 => ?_) (fun c2 => ?_)
            · have e9 : m = e := by omega
              subst e9
              have hbB : su (fun e => nbt fi se (dlb u w lb) e (p + 2)) m ≤ su (fun _ => 1) m := su_le (fun e _ => by unfold nbt; split <;> omega)
              have one : ∀ k, su (fun _ => 1) k = k := by
                intro k
                induction k with
                | zero => rfl
                | succ k ih => show su (fun _ => 1) k + 1 = k + 1; rw [ih]
              rw [one] at hbB
              refine s_iload_n 3 C dM_half_143 rfl ?_
              refine s_iconst (nI 2) C dM_half_144 (by decide) ?_
              refine s_idivN C dM_half_145 (by omega) (by decide) (by decide) ?_
              exact hret _ _ _ dM_half_146 rfl rfl
            · exact absurd c2 (by omega)
          | succ k2 ih2 =>
            intro e hi
            refine s_iload 4 C dM_half_48 rfl ?_
            refine s_aload_n 0 C dM_half_50 rfl ?_
            refine s_get (.int (nI m)) 0 1 C pfP inM flM_26 dM_half_51 rfl rfl (by decide) rfl ?_
            refine s_icmp_geN 143 C dM_half_54 (by decide) (by omega) (by omega) (fun c2 => ?_) (fun c2 => ?_)
            · exact absurd c2 (by omega)
            · obtain ⟨f1, f2, f3⟩ := g4 e (by omega)
              have i1 := his _ f1
              have i2 := his _ f2
              have d1 := dlb_w (lb := lb) (v := fi e) hd
              have d2 := dlb_w (lb := lb) (v := se e) hd
              have mid : ∀ t : Nat, t ≤ 1 → t = nbt fi se (dlb u w lb) e (p + 2) → ST E 6 Q 0 0 (pf E D [(y, .inr (5, [.int (nI n), .int (nI m), .ref p1, .ref p2, .ref p3, .ref p4])), (p1, .inl (cA, 14, .inl (aN fi))), (p2, .inl (cA, 14, .inl (aN se))), (p3, .inl (cA, 9, .inl (aN wa))), (p4, .inl (cA, 9, .inl PA))]) [(0, .ref y), (1, .int (nI p)), (2, .int (nI w)), (3, .int (nI (hA n wa (dlb u w lb) (p + 2) + su (fun e => nbt fi se (dlb u w lb) e (p + 2)) e))), (4, .int (nI e))] [.int (nI t)] 122 := by
                intro t ht0 ht1
                refine s_istore [(0, .ref y), (1, .int (nI p)), (2, .int (nI w)), (3, .int (nI (hA n wa (dlb u w lb) (p + 2) + su (fun e => nbt fi se (dlb u w lb) e (p + 2)) e))), (4, .int (nI e)), (5, .int (nI t))] [1, 2, 3, 4, 5, 0] C dM_half_122 (by decide) rfl ?_
                refine s_iload_n 3 C dM_half_124 rfl ?_
                refine s_iload 5 C dM_half_125 rfl ?_
                refine s_if_eqN 134 C dM_half_127 (by decide) (by omega) (fun c3 => ?_) (fun c3 => ?_)
                · refine s_iconst (nI 0) C dM_half_134 (by decide) ?_
                  refine s_iaddN C dM_half_135 ?_
                  refine s_istore_n [(0, .ref y), (1, .int (nI p)), (2, .int (nI w)), (3, .int (nI (hA n wa (dlb u w lb) (p + 2) + su (fun e => nbt fi se (dlb u w lb) e (p + 2)) e + 0))), (4, .int (nI e)), (5, .int (nI t))] [1, 2, 3, 0, 4, 5] C dM_half_136 (by decide) rfl ?_
                  refine s_iinc (j := 4) (nI (e + 1)) [(0, .ref y), (1, .int (nI p)), (2, .int (nI w)), (3, .int (nI (hA n wa (dlb u w lb) (p + 2) + su (fun e => nbt fi se (dlb u w lb) e (p + 2)) e + 0))), (4, .int (nI (e + 1))), (5, .int (nI t))] [1, 2, 3, 4, 0, 5] C dM_half_137 rfl (inc1 _) (by decide) rfl ?_
                  refine s_goto (tgt := 48) C dM_half_140 (by decide) ?_
                  refine s_lv (lv' := [(0, .ref y), (1, .int (nI p)), (2, .int (nI w)), (3, .int (nI (hA n wa (dlb u w lb) (p + 2) + su (fun e => nbt fi se (dlb u w lb) e (p + 2)) e + 0))), (4, .int (nI (e + 1)))]) [0, 1, 2, 3, 4] rfl ?_
                  have h9 := ih2 (e + 1) (by omega)
                  have e8 : su (fun e => nbt fi se (dlb u w lb) e (p + 2)) (e + 1) = su (fun e => nbt fi se (dlb u w lb) e (p + 2)) e + t := by rw [ht1]; rfl
                  rw [e8, ← Nat.add_assoc] at h9
                  rw [c3] at h9
                  exact h9
                · refine s_iconst (nI 1) C dM_half_130 (by decide) ?_
                  refine s_goto (tgt := 135) C dM_half_131 (by decide) ?_
                  refine s_iaddN C dM_half_135 ?_
                  refine s_istore_n [(0, .ref y), (1, .int (nI p)), (2, .int (nI w)), (3, .int (nI (hA n wa (dlb u w lb) (p + 2) + su (fun e => nbt fi se (dlb u w lb) e (p + 2)) e + 1))), (4, .int (nI e)), (5, .int (nI t))] [1, 2, 3, 0, 4, 5] C dM_half_136 (by decide) rfl ?_
                  refine s_iinc (j := 4) (nI (e + 1)) [(0, .ref y), (1, .int (nI p)), (2, .int (nI w)), (3, .int (nI (hA n wa (dlb u w lb) (p + 2) + su (fun e => nbt fi se (dlb u w lb) e (p + 2)) e + 1))), (4, .int (nI (e + 1))), (5, .int (nI t))] [1, 2, 3, 4, 0, 5] C dM_half_137 rfl (inc1 _) (by decide) rfl ?_
                  refine s_goto (tgt := 48) C dM_half_140 (by decide) ?_
                  refine s_lv (lv' := [(0, .ref y), (1, .int (nI p)), (2, .int (nI w)), (3, .int (nI (hA n wa (dlb u w lb) (p + 2) + su (fun e => nbt fi se (dlb u w lb) e (p + 2)) e + 1))), (4, .int (nI (e + 1)))]) [0, 1, 2, 3, 4] rfl ?_
                  have h9 := ih2 (e + 1) (by omega)
                  have e8 : su (fun e => nbt fi se (dlb u w lb) e (p + 2)) (e + 1) = su (fun e => nbt fi se (dlb u w lb) e (p + 2)) e + t := by rw [ht1]; rfl
                  rw [e8, ← Nat.add_assoc] at h9
                  rw [show t = 1 by omega] at h9
                  exact h9
              have sec : ¬ ((dlb u w lb) (fi e) = p + 2 ∧ (dlb u w lb) (se e) = 1) → ST E 6 Q 0 0 (pf E D [(y, .inr (5, [.int (nI n), .int (nI m), .ref p1, .ref p2, .ref p3, .ref p4])), (p1, .inl (cA, 14, .inl (aN fi))), (p2, .inl (cA, 14, .inl (aN se))), (p3, .inl (cA, 9, .inl (aN wa))), (p4, .inl (cA, 9, .inl PA))]) [(0, .ref y), (1, .int (nI p)), (2, .int (nI w)), (3, .int (nI (hA n wa (dlb u w lb) (p + 2) + su (fun e => nbt fi se (dlb u w lb) e (p + 2)) e))), (4, .int (nI e))] [] 87 := by
                intro hno
                refine s_aload_n 0 C dM_half_87 rfl ?_
                refine s_get (.ref p4) 0 5 C pfP inM flM_23 dM_half_88 rfl rfl (by decide) rfl ?_
                refine s_aload_n 0 C dM_half_91 rfl ?_
                refine s_get (.ref p2) 0 3 C pfP inM flM_17 dM_half_92 rfl rfl (by decide) rfl ?_
                refine s_iload 4 C dM_half_95 rfl ?_
                refine s_ialdN 2 C pfP dM_half_97 rfl (by omega) (by decide) ?_
                refine s_iald 4 C pfP dM_half_98 rfl (by omega) (by decide) ?_
                refine s_iload_n 1 C dM_half_99 rfl ?_
                refine s_icmp_ne 121 C dM_half_100 (by decide) (fun c3 => ?_) (fun c3 => ?_)
                · refine s_iconst (nI 0) C dM_half_121 (by decide) ?_
                  exact mid 0 (by omega) (if_neg (by rintro (q | q); exact hno q; exact c3 (i2.mpr q.2))).symm
                · refine s_iload_n 2 C dM_half_103 rfl ?_
                  refine s_aload_n 0 C dM_half_104 rfl ?_
                  refine s_get (.ref p1) 0 2 C pfP inM flM_13 dM_half_105 rfl rfl (by decide) rfl ?_
                  refine s_iload 4 C dM_half_108 rfl ?_
                  refine s_ialdN 1 C pfP dM_half_110 rfl (by omega) (by decide) ?_
                  refine s_callPS (n := 2) [] [] C pfP (kM_has E.2.1 D cA w (fi e) (by omega) (by omega)) gM_36 dM_half_111 (by decide +kernel) rfl (by decide) (by decide) rfl rfl (Nat.le_of_ble_eq_true rfl) (Nat.zero_le _) (Nat.zero_le _) (fun rh hh9 => ?_)
                  refine s_top hh9 ?_
                  refine s_if_eqN 121 C dM_half_114 (by decide) (bt31 _) (fun c4 => ?_) (fun c4 => ?_)
                  · refine s_iconst (nI 0) C dM_half_121 (by decide) ?_
                    exact mid 0 (by omega) (if_neg (by rintro (q | q); exact hno q; have := d1.mp q.1; rw [bmF.mp c4] at this; cases this)).symm
                  · refine s_iconst (nI 1) C dM_half_117 (by decide) ?_
                    refine s_goto (tgt := 122) C dM_half_118 (by decide) ?_
                    exact mid 1 (by omega) (if_pos (Or.inr ⟨d1.mpr (by cases z : bm w (fi e); rw [z] at c4; exact absurd rfl c4; rfl), i2.mp c3⟩)).symm
              refine s_aload_n 0 C dM_half_57 rfl ?_
              refine s_get (.ref p4) 0 5 C pfP inM flM_23 dM_half_58 rfl rfl (by decide) rfl ?_
              refine s_aload_n 0 C dM_half_61 rfl ?_
              refine s_get (.ref p1) 0 2 C pfP inM flM_13 dM_half_62 rfl rfl (by decide) rfl ?_
              refine s_iload 4 C dM_half_65 rfl ?_
              refine s_ialdN 1 C pfP dM_half_67 rfl (by omega) (by decide) ?_
              refine s_iald 4 C pfP dM_half_68 rfl (by omega) (by decide) ?_
              refine s_iload_n 1 C dM_half_69 rfl ?_
              refine s_icmp_ne 87 C dM_half_70 (by decide) (fun c3 => ?_) (fun c3 => ?_)
              · exact sec (fun q => c3 (i1.mpr q.1))
              · refine s_iload_n 2 C dM_half_73 rfl ?_
                refine s_aload_n 0 C dM_half_74 rfl ?_
                refine s_get (.ref p2) 0 3 C pfP inM flM_17 dM_half_75 rfl rfl (by decide) rfl ?_
                refine s_iload 4 C dM_half_78 rfl ?_
                refine s_ialdN 2 C pfP dM_half_80 rfl (by omega) (by decide) ?_
                refine s_callPS (n := 2) [] [] C pfP (kM_has E.2.1 D cA w (se e) (by omega) (by omega)) gM_36 dM_half_81 (by decide +kernel) rfl (by decide) (by decide) rfl rfl (Nat.le_of_ble_eq_true rfl) (Nat.zero_le _) (Nat.zero_le _) (fun rh hh9 => ?_)
                refine s_top hh9 ?_
                refine s_if_neN 117 C dM_half_84 (by decide) (bt31 _) (fun c4 => ?_) (fun c4 => ?_)
                · refine s_iconst (nI 1) C dM_half_117 (by decide) ?_
                  refine s_goto (tgt := 122) C dM_half_118 (by decide) ?_
                  exact mid 1 (by omega) (if_pos (Or.inl ⟨i1.mp c3, d2.mpr (by cases z : bm w (se e); rw [z] at c4; exact absurd rfl c4; rfl)⟩)).symm
                · exact sec (fun q => by have := d2.mp q.2; rw [bmF.mp c4] at this; cases this)
        exact loop2 m 0 (by omega)
      · exact absurd c1 (by omega)
    | succ k ih =>
      intro i hi
      refine s_iload 4 C dM_half_5 rfl ?_
      refine s_aload_n 0 C dM_half_7 rfl ?_
      refine s_get (.int (nI n)) 0 0 C pfP inM flM_7 dM_half_8 rfl rfl (by decide) rfl ?_
      refine s_icmp_geN 45 C dM_half_11 (by decide) (by omega) (by omega) (fun c1 => ?_) (fun c1 => ?_)
      · exact absurd c1 (by omega)
      · have ii := his i (by omega)
        refine s_iload_n 3 C dM_half_14 rfl ?_
        refine s_aload_n 0 C dM_half_15 rfl ?_
        refine s_get (.ref p4) 0 5 C pfP inM flM_23 dM_half_16 rfl rfl (by decide) rfl ?_
        refine s_iload 4 C dM_half_19 rfl ?_
        refine s_iald 4 C pfP dM_half_21 rfl (by omega) (by decide) ?_
        refine s_iload_n 1 C dM_half_22 rfl ?_
        refine s_icmp_ne 36 C dM_half_23 (by decide) (fun c3 => ?_) (fun c3 => ?_)
        · refine s_iconst (nI 0) C dM_half_36 (by decide) ?_
          refine s_iaddN C dM_half_37 ?_
          refine s_istore_n [(0, .ref y), (1, .int (nI p)), (2, .int (nI w)), (3, .int (nI (hA i wa (dlb u w lb) (p + 2) + 0))), (4, .int (nI i))] [1, 2, 3, 0, 4] C dM_half_38 (by decide) rfl ?_
          refine s_iinc (j := 4) (nI (i + 1)) [(0, .ref y), (1, .int (nI p)), (2, .int (nI w)), (3, .int (nI (hA i wa (dlb u w lb) (p + 2) + 0))), (4, .int (nI (i + 1)))] [1, 2, 3, 4, 0] C dM_half_39 rfl (inc1 _) (by decide) rfl ?_
          refine s_goto (tgt := 5) C dM_half_42 (by decide) ?_
          have h9 := ih (i + 1) (by omega)
          have e8 : hA (i + 1) wa (dlb u w lb) (p + 2) = hA i wa (dlb u w lb) (p + 2) + 0 := by show hA i wa (dlb u w lb) (p + 2) + (if (dlb u w lb) i = p + 2 then wa i else 0) = _; rw [if_neg (fun z => c3 (ii.mpr z))]
          rw [e8] at h9
          exact h9
        · refine s_aload_n 0 C dM_half_26 rfl ?_
          refine s_get (.ref p3) 0 4 C pfP inM flM_20 dM_half_27 rfl rfl (by decide) rfl ?_
          refine s_iload 4 C dM_half_30 rfl ?_
          refine s_ialdN 3 C pfP dM_half_32 rfl (by omega) (by decide) ?_
          refine s_goto (tgt := 37) C dM_half_33 (by decide) ?_
          refine s_iaddN C dM_half_37 ?_
          refine s_istore_n [(0, .ref y), (1, .int (nI p)), (2, .int (nI w)), (3, .int (nI (hA i wa (dlb u w lb) (p + 2) + (wa i)))), (4, .int (nI i))] [1, 2, 3, 0, 4] C dM_half_38 (by decide) rfl ?_
          refine s_iinc (j := 4) (nI (i + 1)) [(0, .ref y), (1, .int (nI p)), (2, .int (nI w)), (3, .int (nI (hA i wa (dlb u w lb) (p + 2) + (wa i)))), (4, .int (nI (i + 1)))] [1, 2, 3, 4, 0] C dM_half_39 rfl (inc1 _) (by decide) rfl ?_
          refine s_goto (tgt := 5) C dM_half_42 (by decide) ?_
          have h9 := ih (i + 1) (by omega)
          have e8 : hA (i + 1) wa (dlb u w lb) (p + 2) = hA i wa (dlb u w lb) (p + 2) + wa i := by show hA i wa (dlb u w lb) (p + 2) + (if (dlb u w lb) i = p + 2 then wa i else 0) = _; rw [if_pos (ii.mp c3)]
          rw [e8] at h9
          exact h9
  exact loop n 0 (by omega)
set_option maxHeartbeats 4000000 in
set_option maxRecDepth 100000 in
/-- are they sets apart -/
theorem kM_areSets (l : Launch) (D : va_G) (cA : ClassId) (y p1 p2 p3 p4 n m : Nat) (p q : Int32) (hn : n ≤ 9) : CtP l yM_areSets (.code yM_areSets cM_areSets 4 (some .boolean)) 0 D cA [.ref y, .int p, .int q] [(y, .inr (5, [.int (nI n), .int (nI m), .ref p1, .ref p2, .ref p3, .ref p4]))] (fun r => (r = nI 1 ∧ ∃ a b, a < 2 ^ n ∧ b < 2 ^ n ∧ dsj a b ∧ p = nI a ∧ q = nI b) ∨ (r = nI 0 ∧ ¬ ∃ a b, a < 2 ^ n ∧ b < 2 ^ n ∧ dsj a b ∧ p = nI a ∧ q = nI b)) := by
  refine mkP [(0, .ref y), (1, .int p), (2, .int q)] (by decide) rfl (Nat.le_of_ble_eq_true rfl) ?_
  intro E Q hE C hret
  have h2n : 2 ^ n ≤ 512 := p2_le (k := 9) hn
  have h2p : 1 ≤ 2 ^ n := Nat.one_le_two_pow
  refine s_iconst (nI 1) C dM_areSets_0 (by decide) ?_
  refine s_aload_n 0 C dM_areSets_1 rfl ?_
  refine s_get (.int (nI n)) 0 0 C pfP inM flM_7 dM_areSets_2 rfl rfl (by decide) rfl ?_
  refine s_shl1 C dM_areSets_5 (by omega) ?_
  refine s_iconst (nI 1) C dM_areSets_6 (by decide) ?_
  refine s_isubN C dM_areSets_7 (by omega) ?_
  refine s_istore_n [(0, .ref y), (1, .int p), (2, .int q), (3, .int (nI ((2 ^ n) - 1)))] [1, 2, 3, 0] C dM_areSets_8 (by decide) rfl ?_
  refine s_iload_n 1 C dM_areSets_9 rfl ?_
  refine s_if_lt 37 C dM_areSets_10 (by decide) (fun c1 => ?_) (fun c1 => ?_)
  · refine s_iconst (nI 0) C dM_areSets_37 (by decide) ?_
    exact hret _ _ _ dM_areSets_38 rfl (Or.inr ⟨rfl, fun ⟨a, b, h1, _, _, e1, _⟩ => inR_no1 c1 (n := 2 ^ n) (by omega) ⟨a, h1, e1⟩⟩)
  · refine s_iload_n 2 C dM_areSets_13 rfl ?_
    refine s_if_lt 37 C dM_areSets_14 (by decide) (fun c2 => ?_) (fun c2 => ?_)
    · refine s_iconst (nI 0) C dM_areSets_37 (by decide) ?_
      exact hret _ _ _ dM_areSets_38 rfl (Or.inr ⟨rfl, fun ⟨a, b, _, h1, _, _, e1⟩ => inR_no1 c2 (n := 2 ^ n) (by omega) ⟨b, h1, e1⟩⟩)
    · obtain ⟨ua, hua, rfl⟩ := nI_of c1
      obtain ⟨wb, hwb, rfl⟩ := nI_of c2
      refine s_iload_n 1 C dM_areSets_17 rfl ?_
      refine s_iload_n 3 C dM_areSets_18 rfl ?_
      refine s_icmp_gtN 37 C dM_areSets_19 (by decide) (by omega) (by omega) (fun c3 => ?_) (fun c3 => ?_)
      · refine s_iconst (nI 0) C dM_areSets_37 (by decide) ?_
        exact hret _ _ _ dM_areSets_38 rfl (Or.inr ⟨rfl, fun ⟨a, b, h1, h2, h3, e1, e2⟩ => absurd ((nI_eq hua (by omega)).mp e1) (by omega)⟩)
      · refine s_iload_n 2 C dM_areSets_22 rfl ?_
        refine s_iload_n 3 C dM_areSets_23 rfl ?_
        refine s_icmp_gtN 37 C dM_areSets_24 (by decide) (by omega) (by omega) (fun c4 => ?_) (fun c4 => ?_)
        · refine s_iconst (nI 0) C dM_areSets_37 (by decide) ?_
          exact hret _ _ _ dM_areSets_38 rfl (Or.inr ⟨rfl, fun ⟨a, b, h1, h2, h3, e1, e2⟩ => absurd ((nI_eq hwb (by omega)).mp e2) (by omega)⟩)
        · refine s_iload_n 1 C dM_areSets_27 rfl ?_
          refine s_iload_n 2 C dM_areSets_28 rfl ?_
          refine s_iandN C dM_areSets_29 ?_
          refine s_if_neN 37 C dM_areSets_30 (by decide) (Nat.lt_of_le_of_lt Nat.and_le_left hua) (fun c5 => ?_) (fun c5 => ?_)
          · refine s_iconst (nI 0) C dM_areSets_37 (by decide) ?_
            exact hret _ _ _ dM_areSets_38 rfl (Or.inr ⟨rfl, fun ⟨a, b, h1, h2, h3, e1, e2⟩ => c5 (and_dsj.mpr (by rw [(nI_eq hua (by omega)).mp e1, (nI_eq hwb (by omega)).mp e2]; exact h3))⟩)
          · refine s_iconst (nI 1) C dM_areSets_33 (by decide) ?_
            refine s_goto (tgt := 38) C dM_areSets_34 (by decide) ?_
            exact hret _ _ _ dM_areSets_38 rfl (Or.inl ⟨rfl, ua, wb, by omega, by omega, and_dsj.mp c5, rfl, rfl⟩)
set_option maxHeartbeats 4000000 in
set_option maxRecDepth 100000 in
/-- bound -/
theorem kM_bound (l : Launch) (D : va_G) (cA : ClassId) (y p1 p2 p3 p4 : Nat) (n m : Nat) (fi se wa : Nat → Nat) (PA : Nat → Int32) (hG : GOK n m fi se wa) (p q : Int32) : CtI (S := Nat → Int32) l yM_bound (.code yM_bound cM_bound 5 (some .int)) 3 0 0 D cA [.ref y, .int p, .int q] [(y, .inr (5, [.int (nI n), .int (nI m), .ref p1, .ref p2, .ref p3, .ref p4])), (p1, .inl (cA, 14, .inl (aN fi))), (p2, .inl (cA, 14, .inl (aN se))), (p3, .inl (cA, 9, .inl (aN wa))), (p4, .inl (cA, 9, .inl PA))] (fun r _ => bndQ fi se wa n m p q r) (fun T => [(y, .inr (5, [.int (nI n), .int (nI m), .ref p1, .ref p2, .ref p3, .ref p4])), (p1, .inl (cA, 14, .inl (aN fi))), (p2, .inl (cA, 14, .inl (aN se))), (p3, .inl (cA, 9, .inl (aN wa))), (p4, .inl (cA, 9, .inl T))]) := by
  refine mkI [(0, .ref y), (1, .int p), (2, .int q)] (by decide) rfl (Nat.le_of_ble_eq_true rfl) ?_
  intro E A Q hE C hAq hret
  obtain ⟨g1, g2, g3, g4, g5, g6⟩ := hG
  have h2n : 2 ^ n ≤ 512 := p2_le (k := 9) g2
  refine s_aload_n 0 C dM_bound_0 rfl ?_
  refine s_iload_n 1 C dM_bound_1 rfl ?_
  refine s_iload_n 2 C dM_bound_2 rfl ?_
  refine s_callP (n := 2) [0] 0 [] C wfP (kM_areSets E.2.1 D cA y p1 p2 p3 p4 n m p q g2) gM_70 dM_bound_3 (by decide +kernel) rfl rfl rfl rfl (by decide) (by decide) rfl rfl (Nat.le_of_ble_eq_true rfl) (Nat.zero_le _) (Nat.zero_le _) (fun rs hs9 => ?_)
  rcases hs9 with ⟨er, hin⟩ | ⟨er, hin⟩
  · refine s_top er ?_
    refine s_if_neN 11 C dM_bound_6 (by decide) (by decide) (fun c1 => ?_) (fun c1 => ?_)
    · obtain ⟨u, w, hu, hw, hd, rfl, rfl⟩ := hin
      refine s_iconst (nI 0) C dM_bound_11 (by decide) ?_
      refine s_istore_n [(0, .ref y), (1, .int (nI u)), (2, .int (nI w)), (3, .int (nI 0))] [1, 2, 3, 0] C dM_bound_12 (by decide) rfl ?_
      refine s_iconst (nI 0) C dM_bound_13 (by decide) ?_
      refine s_istore [(0, .ref y), (1, .int (nI u)), (2, .int (nI w)), (3, .int (nI 0)), (4, .int (nI 0))] [1, 2, 3, 4, 0] C dM_bound_14 (by decide) rfl ?_
      have loop : ∀ k i, i + k = n → ST E 5 Q 0 0 (wf E A D [(y, .inr (5, [.int (nI n), .int (nI m), .ref p1, .ref p2, .ref p3, .ref p4])), (p1, .inl (cA, 14, .inl (aN fi))), (p2, .inl (cA, 14, .inl (aN se))), (p3, .inl (cA, 9, .inl (aN wa))), (p4, .inl (cA, 9, .inl PA))]) [(0, .ref y), (1, .int (nI u)), (2, .int (nI w)), (3, .int (nI (su (fun v => (bm u v).toNat * wa v) i))), (4, .int (nI i))] [] 16 := by
        intro k
        induction k with
        | zero =>
          intro i hi
          refine s_iload 4 C dM_bound_16 rfl ?_
          refine s_aload_n 0 C dM_bound_18 rfl ?_
          refine s_get (.int (nI n)) 0 0 C wfP inM flM_7 dM_bound_19 rfl rfl (by decide) rfl ?_
          refine s_icmp_geN 54 C dM_bound_22 (by decide) (by omega) (by omega) (fun c2 => ?_) (fun c2 => ?_)
          · have e9 : n = i := by omega
            subst e9
            refine s_iconst (nI 0) C dM_bound_54 (by decide) ?_
            refine s_istore [(0, .ref y), (1, .int (nI u)), (2, .int (nI w)), (3, .int (nI (su (fun v => (bm u v).toNat * wa v) n))), (4, .int (nI 0))] [1, 2, 3, 4, 0] C dM_bound_55 (by decide) rfl ?_
            have loop2 : ∀ k2 e, e + k2 = m → ST E 5 Q 0 0 (wf E A D [(y, .inr (5, [.int (nI n), .int (nI m), .ref p1, .ref p2, .ref p3, .ref p4])), (p1, .inl (cA, 14, .inl (aN fi))), (p2, .inl (cA, 14, .inl (aN se))), (p3, .inl (cA, 9, .inl (aN wa))), (p4, .inl (cA, 9, .inl PA))]) [(0, .ref y), (1, .int (nI u)), (2, .int (nI w)), (3, .int (nI (su (fun v => (bm u v).toNat * wa v) n + su (fun e => (bm w (fi e) && bm w (se e)).toNat) e))), (4, .int (nI e))] [] 57 := by
              intro k2
              induction k2 with
              | zero =>
                intro e hi
                refine s_iload 4 C dM_bound_57 rfl ?_
                refine s_aload_n 0 C dM_bound_59 rfl ?_
                refine s_get (.int (nI m)) 0 1 C wfP inM flM_26 dM_bound_60 rfl rfl (by decide) rfl ?_
                refine s_icmp_geN 108 C dM_bound_63 (by decide) (by omega) (by omega) (fun c2 => ?_) (fun c2 => ?_)
                · have e9 : m = e := by omega
                  subst e9
                  refine s_aload_n 0 C dM_bound_108 rfl ?_
                  refine s_iload_n 1 C dM_bound_109 rfl ?_
                  refine s_iload_n 2 C dM_bound_110 rfl ?_
                  refine s_callI (n := 2) (wr := [(p3, .inl (cA, 9, .inl (aN wa)))]) [0, 1, 2, 4] [3] 0 [] C hAq (kM_partition E.2.1 D cA y p1 p2 p3 p4 n m fi se PA g2 g3 g4 u w hu hw) gM_73 dM_bound_111 (by decide +kernel) rfl rfl (by decide) (by decide) (by decide) rfl rfl rfl (by decide) (by decide) rfl rfl (Nat.le_of_ble_eq_true rfl) (Nat.zero_le _) (Nat.zero_le _) (fun rc T hT => ?_)
                  refine s_sub (ws' := [(y, .inr (5, [.int (nI n), .int (nI m), .ref p1, .ref p2, .ref p3, .ref p4])), (p1, .inl (cA, 14, .inl (aN fi))), (p2, .inl (cA, 14, .inl (aN se))), (p3, .inl (cA, 9, .inl (aN wa))), (p4, .inl (cA, 9, .inl T))]) [1, 2, 3, 0, 4] rfl (by decide) ?_
                  obtain ⟨lb, c, er, hc9, hP, hv, hc0⟩ := hT
                  refine s_top er ?_
                  have hbd := (bnd_is (b := wa) g4 (dlb_exa g2 hd hP.2 hv)).trans (nbd_lb g2 g4 hd hP.2 hv)
                  have his : ∀ v, v < n → (T v = nI v ↔ (dlb u w lb) v = v + 2) := fun v hv2 => by rw [hP.1 v hv2]; exact pa_is g2 hP.2 hv2 (by omega)
                  refine s_if_leN 161 C dM_bound_114 (by decide) (by omega) (fun c3 => ?_) (fun c3 => ?_)
                  · refine s_iload_n 3 C dM_bound_161 rfl ?_
                    refine hret _ T _ _ dM_bound_162 rfl (Or.inl ⟨u, w, hu, hw, hd, rfl, rfl, ?_⟩)
                    rw [hbd, su_z (f := fun l => if (dlb u w lb) l = l + 2 then (hA n wa (dlb u w lb) (l + 2) + su (fun e => nbt fi se (dlb u w lb) e (l + 2)) m) / 2 else 0) (fun l hl => if_neg (fun z => hc0 c3 l hl ((his l hl).mpr z)))]
                    rfl
                  · refine s_iconst (nI 0) C dM_bound_117 (by decide) ?_
                    refine s_istore [(0, .ref y), (1, .int (nI u)), (2, .int (nI w)), (3, .int (nI (su (fun v => (bm u v).toNat * wa v) n + su (fun e => (bm w (fi e) && bm w (se e)).toNat) m))), (4, .int (nI 0))] [1, 2, 3, 4, 0] C dM_bound_118 (by decide) rfl ?_
                    have loop3 : ∀ k3 v, v + k3 = n → ST E 5 Q 0 0 (wf E A D [(y, .inr (5, [.int (nI n), .int (nI m), .ref p1, .ref p2, .ref p3, .ref p4])), (p1, .inl (cA, 14, .inl (aN fi))), (p2, .inl (cA, 14, .inl (aN se))), (p3, .inl (cA, 9, .inl (aN wa))), (p4, .inl (cA, 9, .inl T))]) [(0, .ref y), (1, .int (nI u)), (2, .int (nI w)), (3, .int (nI (su (fun v => (bm u v).toNat * wa v) n + su (fun e => (bm w (fi e) && bm w (se e)).toNat) m + su (fun l => if (dlb u w lb) l = l + 2 then (hA n wa (dlb u w lb) (l + 2) + su (fun e => nbt fi se (dlb u w lb) e (l + 2)) m) / 2 else 0) v))), (4, .int (nI v))] [] 120 := by
                      intro k3
                      induction k3 with
                      | zero =>
                        intro v hi
                        refine s_iload 4 C dM_bound_120 rfl ?_
                        refine s_aload_n 0 C dM_bound_122 rfl ?_
                        refine s_get (.int (nI n)) 0 0 C wfP inM flM_7 dM_bound_123 rfl rfl (by decide) rfl ?_
                        refine s_icmp_geN 161 C dM_bound_126 (by decide) (by omega) (by omega) (fun c4 => ?_) (fun c4 => ?_)
                        · refine s_iload_n 3 C dM_bound_161 rfl ?_
                          have e9 : n = v := by omega
                          subst e9
                          refine hret _ T _ _ dM_bound_162 rfl (Or.inl ⟨u, w, hu, hw, hd, rfl, rfl, ?_⟩)
                          rw [hbd]
                        · exact absurd c4 (by omega)
                      | succ k3 ih3 =>
                        intro v hi
                        refine s_iload 4 C dM_bound_120 rfl ?_
                        refine s_aload_n 0 C dM_bound_122 rfl ?_
                        refine s_get (.int (nI n)) 0 0 C wfP inM flM_7 dM_bound_123 rfl rfl (by decide) rfl ?_
                        refine s_icmp_geN 161 C dM_bound_126 (by decide) (by omega) (by omega) (fun c4 => ?_) (fun c4 => ?_)
                        · exact absurd c4 (by omega)
                        · have ii := his v (by omega)
                          have e7 : su (fun l => if (dlb u w lb) l = l + 2 then (hA n wa (dlb u w lb) (l + 2) + su (fun e => nbt fi se (dlb u w lb) e (l + 2)) m) / 2 else 0) (v + 1) = su (fun l => if (dlb u w lb) l = l + 2 then (hA n wa (dlb u w lb) (l + 2) + su (fun e => nbt fi se (dlb u w lb) e (l + 2)) m) / 2 else 0) v + (if (dlb u w lb) v = v + 2 then (hA n wa (dlb u w lb) (v + 2) + su (fun e => nbt fi se (dlb u w lb) e (v + 2)) m) / 2 else 0) := rfl
                          refine s_iload_n 3 C dM_bound_129 rfl ?_
                          refine s_aload_n 0 C dM_bound_130 rfl ?_
                          refine s_get (.ref p4) 0 5 C wfP inM flM_23 dM_bound_131 rfl rfl (by decide) rfl ?_
                          refine s_iload 4 C dM_bound_134 rfl ?_
                          refine s_iald 4 C wfP dM_bound_136 rfl (by omega) (by decide) ?_
                          refine s_iload 4 C dM_bound_137 rfl ?_
                          refine s_icmp_ne 152 C dM_bound_139 (by decide) (fun c5 => ?_) (fun c5 => ?_)
                          · refine s_iconst (nI 0) C dM_bound_152 (by decide) ?_
                            refine s_iaddN C dM_bound_153 ?_
                            refine s_istore_n [(0, .ref y), (1, .int (nI u)), (2, .int (nI w)), (3, .int (nI (su (fun v => (bm u v).toNat * wa v) n + su (fun e => (bm w (fi e) && bm w (se e)).toNat) m + su (fun l => if (dlb u w lb) l = l + 2 then (hA n wa (dlb u w lb) (l + 2) + su (fun e => nbt fi se (dlb u w lb) e (l + 2)) m) / 2 else 0) v + 0))), (4, .int (nI v))] [1, 2, 3, 0, 4] C dM_bound_154 (by decide) rfl ?_
                            refine s_iinc (j := 4) (nI (v + 1)) [(0, .ref y), (1, .int (nI u)), (2, .int (nI w)), (3, .int (nI (su (fun v => (bm u v).toNat * wa v) n + su (fun e => (bm w (fi e) && bm w (se e)).toNat) m + su (fun l => if (dlb u w lb) l = l + 2 then (hA n wa (dlb u w lb) (l + 2) + su (fun e => nbt fi se (dlb u w lb) e (l + 2)) m) / 2 else 0) v + 0))), (4, .int (nI (v + 1)))] [1, 2, 3, 4, 0] C dM_bound_155 rfl (inc1 _) (by decide) rfl ?_
                            refine s_goto (tgt := 120) C dM_bound_158 (by decide) ?_
                            have h9 := ih3 (v + 1) (by omega)
                            rw [e7, if_neg (fun z => c5 (ii.mpr z)), ← Nat.add_assoc] at h9
                            exact h9
                          · refine s_aload_n 0 C dM_bound_142 rfl ?_
                            refine s_iload 4 C dM_bound_143 rfl ?_
                            refine s_iload_n 2 C dM_bound_145 rfl ?_
                            refine s_callP (n := 2) [0, 1, 2, 3, 4] 0 [.int (nI (su (fun v => (bm u v).toNat * wa v) n + su (fun e => (bm w (fi e) && bm w (se e)).toNat) m + su (fun l => if (dlb u w lb) l = l + 2 then (hA n wa (dlb u w lb) (l + 2) + su (fun e => nbt fi se (dlb u w lb) e (l + 2)) m) / 2 else 0) v))] C wfP (kM_half E.2.1 D cA y p1 p2 p3 p4 n m fi se wa T g2 g3 g4 g5 u w v lb hw hd hP (by omega)) gM_76 dM_bound_146 (by decide +kernel) rfl rfl rfl rfl (by decide) (by decide) rfl rfl (Nat.le_of_ble_eq_true rfl) (Nat.zero_le _) (Nat.zero_le _) (fun rh hh9 => ?_)
                            refine s_top hh9 ?_
                            refine s_goto (tgt := 153) C dM_bound_149 (by decide) ?_
                            refine s_iaddN C dM_bound_153 ?_
                            refine s_istore_n [(0, .ref y), (1, .int (nI u)), (2, .int (nI w)), (3, .int (nI (su (fun v => (bm u v).toNat * wa v) n + su (fun e => (bm w (fi e) && bm w (se e)).toNat) m + su (fun l => if (dlb u w lb) l = l + 2 then (hA n wa (dlb u w lb) (l + 2) + su (fun e => nbt fi se (dlb u w lb) e (l + 2)) m) / 2 else 0) v + ((hA n wa (dlb u w lb) (v + 2) + su (fun e => nbt fi se (dlb u w lb) e (v + 2)) m) / 2)))), (4, .int (nI v))] [1, 2, 3, 0, 4] C dM_bound_154 (by decide) rfl ?_
                            refine s_iinc (j := 4) (nI (v + 1)) [(0, .ref y), (1, .int (nI u)), (2, .int (nI w)), (3, .int (nI (su (fun v => (bm u v).toNat * wa v) n + su (fun e => (bm w (fi e) && bm w (se e)).toNat) m + su (fun l => if (dlb u w lb) l = l + 2 then (hA n wa (dlb u w lb) (l + 2) + su (fun e => nbt fi se (dlb u w lb) e (l + 2)) m) / 2 else 0) v + ((hA n wa (dlb u w lb) (v + 2) + su (fun e => nbt fi se (dlb u w lb) e (v + 2)) m) / 2)))), (4, .int (nI (v + 1)))] [1, 2, 3, 4, 0] C dM_bound_155 rfl (inc1 _) (by decide) rfl ?_
                            refine s_goto (tgt := 120) C dM_bound_158 (by decide) ?_
                            have h9 := ih3 (v + 1) (by omega)
                            rw [e7, if_pos (ii.mp c5), ← Nat.add_assoc] at h9
                            exact h9
                    exact loop3 n 0 (by omega)
                · exact absurd c2 (by omega)
              | succ k2 ih2 =>
                intro e hi
                refine s_iload 4 C dM_bound_57 rfl ?_
                refine s_aload_n 0 C dM_bound_59 rfl ?_
                refine s_get (.int (nI m)) 0 1 C wfP inM flM_26 dM_bound_60 rfl rfl (by decide) rfl ?_
                refine s_icmp_geN 108 C dM_bound_63 (by decide) (by omega) (by omega) (fun c2 => ?_) (fun c2 => ?_)
                · exact absurd c2 (by omega)
                · obtain ⟨f1, f2, f3⟩ := g4 e (by omega)
                  have e7 : su (fun e => (bm w (fi e) && bm w (se e)).toNat) (e + 1) = su (fun e => (bm w (fi e) && bm w (se e)).toNat) e + (bm w (fi e) && bm w (se e)).toNat := rfl
                  refine s_iload_n 3 C dM_bound_66 rfl ?_
                  refine s_iload_n 2 C dM_bound_67 rfl ?_
                  refine s_aload_n 0 C dM_bound_68 rfl ?_
                  refine s_get (.ref p1) 0 2 C wfP inM flM_13 dM_bound_69 rfl rfl (by decide) rfl ?_
                  refine s_iload 4 C dM_bound_72 rfl ?_
                  refine s_ialdN 1 C wfP dM_bound_74 rfl (by omega) (by decide) ?_
                  refine s_callPS (n := 2) [] [.int (nI (su (fun v => (bm u v).toNat * wa v) n + su (fun e => (bm w (fi e) && bm w (se e)).toNat) e))] C wfP (kM_has E.2.1 D cA w (fi e) (by omega) (by omega)) gM_36 dM_bound_75 (by decide +kernel) rfl (by decide) (by decide) rfl rfl (Nat.le_of_ble_eq_true rfl) (Nat.zero_le _) (Nat.zero_le _) (fun rh hh9 => ?_)
                  refine s_top hh9 ?_
                  refine s_if_eqN 99 C dM_bound_78 (by decide) (bt31 _) (fun c3 => ?_) (fun c3 => ?_)
                  · refine s_iconst (nI 0) C dM_bound_99 (by decide) ?_
                    refine s_iaddN C dM_bound_100 ?_
                    refine s_istore_n [(0, .ref y), (1, .int (nI u)), (2, .int (nI w)), (3, .int (nI (su (fun v => (bm u v).toNat * wa v) n + su (fun e => (bm w (fi e) && bm w (se e)).toNat) e + 0))), (4, .int (nI e))] [1, 2, 3, 0, 4] C dM_bound_101 (by decide) rfl ?_
                    refine s_iinc (j := 4) (nI (e + 1)) [(0, .ref y), (1, .int (nI u)), (2, .int (nI w)), (3, .int (nI (su (fun v => (bm u v).toNat * wa v) n + su (fun e => (bm w (fi e) && bm w (se e)).toNat) e + 0))), (4, .int (nI (e + 1)))] [1, 2, 3, 4, 0] C dM_bound_102 rfl (inc1 _) (by decide) rfl ?_
                    refine s_goto (tgt := 57) C dM_bound_105 (by decide) ?_
                    have h9 := ih2 (e + 1) (by omega)
                    rw [e7, bmF.mp c3, Bool.false_and, Bool.toNat_false, ← Nat.add_assoc] at h9
                    exact h9
                  · have zb : bm w (fi e) = true := by
                      cases z : bm w (fi e)
                      · rw [z] at c3; exact absurd rfl c3
                      · rfl
                    refine s_iload_n 2 C dM_bound_81 rfl ?_
                    refine s_aload_n 0 C dM_bound_82 rfl ?_
                    refine s_get (.ref p2) 0 3 C wfP inM flM_17 dM_bound_83 rfl rfl (by decide) rfl ?_
                    refine s_iload 4 C dM_bound_86 rfl ?_
                    refine s_ialdN 2 C wfP dM_bound_88 rfl (by omega) (by decide) ?_
                    refine s_callPS (n := 2) [] [.int (nI (su (fun v => (bm u v).toNat * wa v) n + su (fun e => (bm w (fi e) && bm w (se e)).toNat) e))] C wfP (kM_has E.2.1 D cA w (se e) (by omega) (by omega)) gM_36 dM_bound_89 (by decide +kernel) rfl (by decide) (by decide) rfl rfl (Nat.le_of_ble_eq_true rfl) (Nat.zero_le _) (Nat.zero_le _) (fun rh hh9 => ?_)
                    refine s_top hh9 ?_
                    refine s_if_eqN 99 C dM_bound_92 (by decide) (bt31 _) (fun c4 => ?_) (fun c4 => ?_)
                    · refine s_iconst (nI 0) C dM_bound_99 (by decide) ?_
                      refine s_iaddN C dM_bound_100 ?_
                      refine s_istore_n [(0, .ref y), (1, .int (nI u)), (2, .int (nI w)), (3, .int (nI (su (fun v => (bm u v).toNat * wa v) n + su (fun e => (bm w (fi e) && bm w (se e)).toNat) e + 0))), (4, .int (nI e))] [1, 2, 3, 0, 4] C dM_bound_101 (by decide) rfl ?_
                      refine s_iinc (j := 4) (nI (e + 1)) [(0, .ref y), (1, .int (nI u)), (2, .int (nI w)), (3, .int (nI (su (fun v => (bm u v).toNat * wa v) n + su (fun e => (bm w (fi e) && bm w (se e)).toNat) e + 0))), (4, .int (nI (e + 1)))] [1, 2, 3, 4, 0] C dM_bound_102 rfl (inc1 _) (by decide) rfl ?_
                      refine s_goto (tgt := 57) C dM_bound_105 (by decide) ?_
                      have h9 := ih2 (e + 1) (by omega)
                      rw [e7, bmF.mp c4, Bool.and_false, Bool.toNat_false, ← Nat.add_assoc] at h9
                      exact h9
                    · have zc : bm w (se e) = true := by
                        cases z : bm w (se e)
                        · rw [z] at c4; exact absurd rfl c4
                        · rfl
                      refine s_iconst (nI 1) C dM_bound_95 (by decide) ?_
                      refine s_goto (tgt := 100) C dM_bound_96 (by decide) ?_
                      refine s_iaddN C dM_bound_100 ?_
                      refine s_istore_n [(0, .ref y), (1, .int (nI u)), (2, .int (nI w)), (3, .int (nI (su (fun v => (bm u v).toNat * wa v) n + su (fun e => (bm w (fi e) && bm w (se e)).toNat) e + 1))), (4, .int (nI e))] [1, 2, 3, 0, 4] C dM_bound_101 (by decide) rfl ?_
                      refine s_iinc (j := 4) (nI (e + 1)) [(0, .ref y), (1, .int (nI u)), (2, .int (nI w)), (3, .int (nI (su (fun v => (bm u v).toNat * wa v) n + su (fun e => (bm w (fi e) && bm w (se e)).toNat) e + 1))), (4, .int (nI (e + 1)))] [1, 2, 3, 4, 0] C dM_bound_102 rfl (inc1 _) (by decide) rfl ?_
                      refine s_goto (tgt := 57) C dM_bound_105 (by decide) ?_
                      have h9 := ih2 (e + 1) (by omega)
                      rw [e7, zb, zc, Bool.and_self, Bool.toNat_true, ← Nat.add_assoc] at h9
                      exact h9
            exact loop2 m 0 (by omega)
          · exact absurd c2 (by omega)
        | succ k ih =>
          intro i hi
          refine s_iload 4 C dM_bound_16 rfl ?_
          refine s_aload_n 0 C dM_bound_18 rfl ?_
          refine s_get (.int (nI n)) 0 0 C wfP inM flM_7 dM_bound_19 rfl rfl (by decide) rfl ?_
          refine s_icmp_geN 54 C dM_bound_22 (by decide) (by omega) (by omega) (fun c2 => ?_) (fun c2 => ?_)
          · exact absurd c2 (by omega)
          · have e7 : su (fun v => (bm u v).toNat * wa v) (i + 1) = su (fun v => (bm u v).toNat * wa v) i + (bm u i).toNat * wa i := rfl
            refine s_iload_n 3 C dM_bound_25 rfl ?_
            refine s_iload_n 1 C dM_bound_26 rfl ?_
            refine s_iload 4 C dM_bound_27 rfl ?_
            refine s_callPS (n := 2) [] [.int (nI (su (fun v => (bm u v).toNat * wa v) i))] C wfP (kM_has E.2.1 D cA u i (by omega) (by omega)) gM_36 dM_bound_29 (by decide +kernel) rfl (by decide) (by decide) rfl rfl (Nat.le_of_ble_eq_true rfl) (Nat.zero_le _) (Nat.zero_le _) (fun rh hh9 => ?_)
            refine s_top hh9 ?_
            refine s_if_eqN 45 C dM_bound_32 (by decide) (bt31 _) (fun c3 => ?_) (fun c3 => ?_)
            · refine s_iconst (nI 0) C dM_bound_45 (by decide) ?_
              refine s_iaddN C dM_bound_46 ?_
              refine s_istore_n [(0, .ref y), (1, .int (nI u)), (2, .int (nI w)), (3, .int (nI (su (fun v => (bm u v).toNat * wa v) i + 0))), (4, .int (nI i))] [1, 2, 3, 0, 4] C dM_bound_47 (by decide) rfl ?_
              refine s_iinc (j := 4) (nI (i + 1)) [(0, .ref y), (1, .int (nI u)), (2, .int (nI w)), (3, .int (nI (su (fun v => (bm u v).toNat * wa v) i + 0))), (4, .int (nI (i + 1)))] [1, 2, 3, 4, 0] C dM_bound_48 rfl (inc1 _) (by decide) rfl ?_
              refine s_goto (tgt := 16) C dM_bound_51 (by decide) ?_
              have h9 := ih (i + 1) (by omega)
              rw [e7, bmF.mp c3, Bool.toNat_false, Nat.zero_mul] at h9
              exact h9
            · refine s_aload_n 0 C dM_bound_35 rfl ?_
              refine s_get (.ref p3) 0 4 C wfP inM flM_20 dM_bound_36 rfl rfl (by decide) rfl ?_
              refine s_iload 4 C dM_bound_39 rfl ?_
              refine s_ialdN 3 C wfP dM_bound_41 rfl (by omega) (by decide) ?_
              refine s_goto (tgt := 46) C dM_bound_42 (by decide) ?_
              refine s_iaddN C dM_bound_46 ?_
              refine s_istore_n [(0, .ref y), (1, .int (nI u)), (2, .int (nI w)), (3, .int (nI (su (fun v => (bm u v).toNat * wa v) i + (wa i)))), (4, .int (nI i))] [1, 2, 3, 0, 4] C dM_bound_47 (by decide) rfl ?_
              refine s_iinc (j := 4) (nI (i + 1)) [(0, .ref y), (1, .int (nI u)), (2, .int (nI w)), (3, .int (nI (su (fun v => (bm u v).toNat * wa v) i + (wa i)))), (4, .int (nI (i + 1)))] [1, 2, 3, 4, 0] C dM_bound_48 rfl (inc1 _) (by decide) rfl ?_
              refine s_goto (tgt := 16) C dM_bound_51 (by decide) ?_
              have zb : bm u i = true := by
                cases z : bm u i
                · rw [z] at c3; exact absurd rfl c3
                · rfl
              have h9 := ih (i + 1) (by omega)
              rw [e7, zb, Bool.toNat_true, Nat.one_mul] at h9
              exact h9
      exact loop n 0 (by omega)
    · exact absurd c1 (by decide)
  · refine s_top er ?_
    refine s_if_neN 11 C dM_bound_6 (by decide) (by decide) (fun c1 => ?_) (fun c1 => ?_)
    · exact absurd rfl c1
    · refine s_iconst (-1) C dM_bound_9 (by decide) ?_
      exact hret _ PA _ _ dM_bound_10 rfl (Or.inr ⟨hin, rfl⟩)
set_option maxHeartbeats 4000000 in
set_option maxRecDepth 100000 in
/-- witness -/
theorem kM_witness (l : Launch) (D : va_G) (cA : ClassId) (y p1 p2 p3 p4 : Nat) (n m : Nat) (fi se wa : Nat → Nat) (PA : Nat → Int32) (hG : GOK n m fi se wa) (q : Int32) : CtI (S := Nat → Int32) l yM_witness (.code yM_witness cM_witness 9 (some .int)) 6 0 0 D cA [.ref y, .int q] [(y, .inr (5, [.int (nI n), .int (nI m), .ref p1, .ref p2, .ref p3, .ref p4])), (p1, .inl (cA, 14, .inl (aN fi))), (p2, .inl (cA, 14, .inl (aN se))), (p3, .inl (cA, 9, .inl (aN wa))), (p4, .inl (cA, 9, .inl PA))] (fun r _ => witQ fi se wa n m q r) (fun T => [(y, .inr (5, [.int (nI n), .int (nI m), .ref p1, .ref p2, .ref p3, .ref p4])), (p1, .inl (cA, 14, .inl (aN fi))), (p2, .inl (cA, 14, .inl (aN se))), (p3, .inl (cA, 9, .inl (aN wa))), (p4, .inl (cA, 9, .inl T))]) := by
  refine mkI [(0, .ref y), (1, .int q)] (by decide) rfl (Nat.le_of_ble_eq_true rfl) ?_
  intro E A Q hE C hA hret
  have hG0 := hG
  obtain ⟨g1, g2, g3, g4, g50, g6⟩ := hG
  have g5 : ∀ v, v < 9 → wa v ≤ 50 := fun v hv => by have := g50 v hv; omega
  have h2n : 2 ^ n ≤ 512 := p2_le (k := 9) g2
  have h2p : 1 ≤ 2 ^ n := Nat.one_le_two_pow
  refine s_iload_n 1 C dM_witness_0 rfl ?_
  refine s_if_lt 9 C dM_witness_1 (by decide) (fun c1 => ?_) (fun c1 => ?_)
  · refine s_iconst (-1) C dM_witness_9 (by decide) ?_
    exact hret _ PA _ _ dM_witness_10 rfl (Or.inr ⟨inR_no1 c1 (by decide), rfl⟩)
  · refine s_iload_n 1 C dM_witness_4 rfl ?_
    refine s_iconst (nI 1) C dM_witness_5 (by decide) ?_
    refine s_icmp_le 11 C dM_witness_6 (by decide) (fun c2 => ?_) (fun c2 => ?_)
    · obtain ⟨j, hj1, hj, rfl⟩ := rng_yes (a := 0) (by decide) (by decide) (by rw [nI_0]; exact c1) c2
      refine s_aload_n 0 C dM_witness_11 rfl ?_
      refine s_callP (n := 0) [0, 1, 2, 3] 0 [] C wfP (kM_most E.2.1 D cA y p1 p2 p3 p4 n m fi se wa g1 g2 g3 g4 g5 ) gM_64 dM_witness_12 (by decide +kernel) rfl rfl rfl rfl (by decide) (by decide) rfl rfl (Nat.le_of_ble_eq_true rfl) (Nat.zero_le _) (Nat.zero_le _) (fun rm hm9 => ?_)
      obtain ⟨B, hB, eB⟩ := hm9
      have hzB := hsz_le m B
      refine s_top eB ?_
      refine s_istore_n [(0, .ref y), (1, .int (nI j)), (2, .int (nI (hsz m B)))] [1, 2, 0] C dM_witness_15 (by decide) rfl ?_
      refine s_iconst (-1) C dM_witness_16 (by decide) ?_
      refine s_istore_n [(0, .ref y), (1, .int (nI j)), (2, .int (nI (hsz m B))), (3, .int (-1))] [1, 2, 3, 0] C dM_witness_17 (by decide) rfl ?_
      refine s_iconst (-1) C dM_witness_18 (by decide) ?_
      refine s_istore [(0, .ref y), (1, .int (nI j)), (2, .int (nI (hsz m B))), (3, .int (-1)), (4, .int (-1))] [1, 2, 3, 4, 0] C dM_witness_19 (by decide) rfl ?_
      refine s_iconst (nI 1) C dM_witness_21 (by decide) ?_
      refine s_aload_n 0 C dM_witness_22 rfl ?_
      refine s_get (.int (nI n)) 0 0 C wfP inM flM_7 dM_witness_23 rfl rfl (by decide) rfl ?_
      refine s_shl1 C dM_witness_26 (by omega) ?_
      refine s_iconst (nI 1) C dM_witness_27 (by decide) ?_
      refine s_isubN C dM_witness_28 (by omega) ?_
      refine s_istore [(0, .ref y), (1, .int (nI j)), (2, .int (nI (hsz m B))), (3, .int (-1)), (4, .int (-1)), (5, .int (nI ((2 ^ n) - 1)))] [1, 2, 3, 4, 5, 0] C dM_witness_29 (by decide) rfl ?_
      refine s_iconst (nI 0) C dM_witness_31 (by decide) ?_
      refine s_istore [(0, .ref y), (1, .int (nI j)), (2, .int (nI (hsz m B))), (3, .int (-1)), (4, .int (-1)), (5, .int (nI ((2 ^ n) - 1))), (6, .int (nI 0))] [1, 2, 3, 4, 5, 6, 0] C dM_witness_32 (by decide) rfl ?_
      have loop : ∀ k i (T : Nat → Int32) (fu fw : Int32), i + k = 2 ^ n → wiI fi se wa n m (hsz m B) i 0 fu fw → ST E 9 Q 0 0 (wf E A D [(y, .inr (5, [.int (nI n), .int (nI m), .ref p1, .ref p2, .ref p3, .ref p4])), (p1, .inl (cA, 14, .inl (aN fi))), (p2, .inl (cA, 14, .inl (aN se))), (p3, .inl (cA, 9, .inl (aN wa))), (p4, .inl (cA, 9, .inl T))]) [(0, .ref y), (1, .int (nI j)), (2, .int (nI (hsz m B))), (3, .int fu), (4, .int fw), (5, .int (nI ((2 ^ n) - 1))), (6, .int (nI i))] [] 34 := by
        intro k
        induction k with
        | zero =>
          intro i T fu fw hi hWI
          refine s_iload 6 C dM_witness_34 rfl ?_
          refine s_iload 5 C dM_witness_36 rfl ?_
          refine s_icmp_gtN 134 C dM_witness_38 (by decide) (by omega) (by omega) (fun c3 => ?_) (fun c3 => ?_)
          · have e9 : 2 ^ n = i := by omega
            subst e9
            have hmx9 : hmx fi se n m wa B := ⟨(hfa_9 g2 g4).mp hB.1, fun K hK => hB.2.1 K ((hfa_9 g2 g4).mpr hK)⟩
            obtain ⟨u0, w0, e1, e2, e3, e4⟩ := bnd_ex wa g2 g4 hmx9
            have hok0 : okW fi se n m wa (hsz m B) u0 w0 := ⟨e2, e3, e4⟩
            rcases hWI with ⟨_, _, h3⟩ | ⟨a, b, f1, f2, h3, h4, h5⟩
            · exact absurd hok0 (h3 u0 w0 (Or.inl e1) e1)
            · have hwit := isWit_of g2 hB h3 h4 (fun u w hu hw => h5 u w (Or.inl hu) hu hw)
              refine s_iload_n 1 C dM_witness_134 rfl ?_
              refine s_if_neN 142 C dM_witness_135 (by decide) (by omega) (fun c4 => ?_) (fun c4 => ?_)
              · refine s_iload 4 C dM_witness_142 rfl ?_
                exact hret _ T _ _ dM_witness_144 rfl (Or.inl ⟨a, b, hwit, Or.inr ⟨by rw [show j = 1 by omega], f2⟩⟩)
              · refine s_iload_n 3 C dM_witness_138 rfl ?_
                refine s_goto (tgt := 144) C dM_witness_139 (by decide) ?_
                exact hret _ T _ _ dM_witness_144 rfl (Or.inl ⟨a, b, hwit, Or.inl ⟨by rw [c4], f1⟩⟩)
          · exact absurd c3 (by omega)
        | succ k ih =>
          intro i T fu fw hi hWI
          refine s_iload 6 C dM_witness_34 rfl ?_
          refine s_iload 5 C dM_witness_36 rfl ?_
          refine s_icmp_gtN 134 C dM_witness_38 (by decide) (by omega) (by omega) (fun c3 => ?_) (fun c3 => ?_)
          · exact absurd c3 (by omega)
          · refine s_iconst (nI 0) C dM_witness_41 (by decide) ?_
            refine s_istore [(0, .ref y), (1, .int (nI j)), (2, .int (nI (hsz m B))), (3, .int fu), (4, .int fw), (5, .int (nI ((2 ^ n) - 1))), (6, .int (nI i)), (7, .int (nI 0))] [1, 2, 3, 4, 5, 6, 7, 0] C dM_witness_42 (by decide) rfl ?_
            have loop2 : ∀ k2 k9 (T2 : Nat → Int32) (fu2 fw2 : Int32), k9 + k2 = 2 ^ n → wiI fi se wa n m (hsz m B) i k9 fu2 fw2 → ST E 9 Q 0 0 (wf E A D [(y, .inr (5, [.int (nI n), .int (nI m), .ref p1, .ref p2, .ref p3, .ref p4])), (p1, .inl (cA, 14, .inl (aN fi))), (p2, .inl (cA, 14, .inl (aN se))), (p3, .inl (cA, 9, .inl (aN wa))), (p4, .inl (cA, 9, .inl T2))]) [(0, .ref y), (1, .int (nI j)), (2, .int (nI (hsz m B))), (3, .int fu2), (4, .int fw2), (5, .int (nI ((2 ^ n) - 1))), (6, .int (nI i)), (7, .int (nI k9))] [] 44 := by
              intro k2
              induction k2 with
              | zero =>
                intro k9 T2 fu2 fw2 hi hW2
                refine s_iload 7 C dM_witness_44 rfl ?_
                refine s_iload 5 C dM_witness_46 rfl ?_
                refine s_icmp_gtN 128 C dM_witness_48 (by decide) (by omega) (by omega) (fun c4 => ?_) (fun c4 => ?_)
                · refine s_iinc (j := 6) (nI (i + 1)) [(0, .ref y), (1, .int (nI j)), (2, .int (nI (hsz m B))), (3, .int fu2), (4, .int fw2), (5, .int (nI ((2 ^ n) - 1))), (6, .int (nI (i + 1))), (7, .int (nI k9))] [1, 2, 3, 4, 5, 6, 0, 7] C dM_witness_128 rfl (inc1 _) (by decide) rfl ?_
                  refine s_goto (tgt := 34) C dM_witness_131 (by decide) ?_
                  refine s_lv (lv' := [(0, .ref y), (1, .int (nI j)), (2, .int (nI (hsz m B))), (3, .int fu2), (4, .int fw2), (5, .int (nI ((2 ^ n) - 1))), (6, .int (nI (i + 1)))]) [0, 1, 2, 3, 4, 5, 6] rfl ?_
                  have e9 : 2 ^ n = k9 := by omega
                  refine ih (i + 1) T2 fu2 fw2 (by omega) ?_
                  rcases hW2 with ⟨h1, h2, h3⟩ | ⟨a, b, h1, h2, h3, h4, h5⟩
                  · exact Or.inl ⟨h1, h2, fun u w hp hu hok => h3 u w (by have := hok.1; omega) hu hok⟩
                  · exact Or.inr ⟨a, b, h1, h2, h3, h4, fun u w hp hu hok => h5 u w (by have := hok.1; omega) hu hok⟩
                · exact absurd c4 (by omega)
              | succ k2 ih2 =>
                intro k9 T2 fu2 fw2 hi hW2
                refine s_iload 7 C dM_witness_44 rfl ?_
                refine s_iload 5 C dM_witness_46 rfl ?_
                refine s_icmp_gtN 128 C dM_witness_48 (by decide) (by omega) (by omega) (fun c4 => ?_) (fun c4 => ?_)
                · exact absurd c4 (by omega)
                · refine s_iload 6 C dM_witness_51 rfl ?_
                  refine s_iload 7 C dM_witness_53 rfl ?_
                  refine s_iandN C dM_witness_55 ?_
                  refine s_if_eqN 62 C dM_witness_56 (by decide) (Nat.lt_of_le_of_lt Nat.and_le_left (by omega)) (fun c5 => ?_) (fun c5 => ?_)
                  · have hdj := and_dsj.mp c5
                    have go : (∀ a b, fu2 = nI a → fw2 = nI b → a < 2 ^ n → b < 2 ^ n → pky i k9 < pky a b) → ST E 9 Q 0 0 (wf E A D [(y, .inr (5, [.int (nI n), .int (nI m), .ref p1, .ref p2, .ref p3, .ref p4])), (p1, .inl (cA, 14, .inl (aN fi))), (p2, .inl (cA, 14, .inl (aN se))), (p3, .inl (cA, 9, .inl (aN wa))), (p4, .inl (cA, 9, .inl T2))]) [(0, .ref y), (1, .int (nI j)), (2, .int (nI (hsz m B))), (3, .int fu2), (4, .int fw2), (5, .int (nI ((2 ^ n) - 1))), (6, .int (nI i)), (7, .int (nI k9))] [.int (nI 1)] 96 := by
                      intro hbt
                      refine s_istore [(0, .ref y), (1, .int (nI j)), (2, .int (nI (hsz m B))), (3, .int fu2), (4, .int fw2), (5, .int (nI ((2 ^ n) - 1))), (6, .int (nI i)), (7, .int (nI k9)), (8, .int (nI 1))] [1, 2, 3, 4, 5, 6, 7, 8, 0] C dM_witness_96 (by decide) rfl ?_
                      refine s_iload 8 C dM_witness_98 rfl ?_
                      refine s_if_eqN 122 C dM_witness_100 (by decide) (by decide) (fun c6 => ?_) (fun c6 => ?_)
                      · exact absurd c6 (by decide)
                      · refine s_aload_n 0 C dM_witness_103 rfl ?_
                        refine s_iload 6 C dM_witness_104 rfl ?_
                        refine s_iload 7 C dM_witness_106 rfl ?_
                        refine s_callI (n := 2) (wr := []) [0, 1, 2, 3, 4] [] 0 [] C hA (kM_bound E.2.1 D cA y p1 p2 p3 p4 n m fi se wa T2 hG0 (nI i) (nI k9)) gM_79 dM_witness_108 (by decide +kernel) rfl rfl (by decide) (by decide) (by decide) rfl rfl rfl (by decide) (by decide) rfl rfl (Nat.le_of_ble_eq_true rfl) (Nat.zero_le _) (Nat.zero_le _) (fun rb T3 hq => ?_)
                        refine s_sub (ws' := [(y, .inr (5, [.int (nI n), .int (nI m), .ref p1, .ref p2, .ref p3, .ref p4])), (p1, .inl (cA, 14, .inl (aN fi))), (p2, .inl (cA, 14, .inl (aN se))), (p3, .inl (cA, 9, .inl (aN wa))), (p4, .inl (cA, 9, .inl T3))]) [0, 1, 2, 3, 4] rfl (by decide) ?_
                        have hbv := bndQ_v g2 (by omega) (by omega) hdj hq
                        have hbl := bnd_le (fi := fi) (se := se) (u := i) (w := k9) g2 g3 g50
                        refine s_top hbv ?_
                        refine s_iload_n 2 C dM_witness_111 rfl ?_
                        refine s_icmp_neN 122 C dM_witness_112 (by decide) (by omega) (by omega) (fun c7 => ?_) (fun c7 => ?_)
                        · refine s_iinc (j := 7) (nI (k9 + 1)) [(0, .ref y), (1, .int (nI j)), (2, .int (nI (hsz m B))), (3, .int fu2), (4, .int fw2), (5, .int (nI ((2 ^ n) - 1))), (6, .int (nI i)), (7, .int (nI (k9 + 1))), (8, .int (nI 1))] [1, 2, 3, 4, 5, 6, 7, 0, 8] C dM_witness_122 rfl (inc1 _) (by decide) rfl ?_
                          refine s_goto (tgt := 44) C dM_witness_125 (by decide) ?_
                          refine s_lv (lv' := [(0, .ref y), (1, .int (nI j)), (2, .int (nI (hsz m B))), (3, .int fu2), (4, .int fw2), (5, .int (nI ((2 ^ n) - 1))), (6, .int (nI i)), (7, .int (nI (k9 + 1)))]) [0, 1, 2, 3, 4, 5, 6, 7] rfl ?_
                          exact ih2 (k9 + 1) T3 fu2 fw2 (by omega) (wi_no hW2 (fun z => c7 z.2.2))
                        · refine s_iload 6 C dM_witness_115 rfl ?_
                          refine s_istore_n [(0, .ref y), (1, .int (nI j)), (2, .int (nI (hsz m B))), (3, .int (nI i)), (4, .int fw2), (5, .int (nI ((2 ^ n) - 1))), (6, .int (nI i)), (7, .int (nI k9)), (8, .int (nI 1))] [1, 2, 3, 0, 4, 5, 6, 7, 8] C dM_witness_117 (by decide) rfl ?_
                          refine s_iload 7 C dM_witness_118 rfl ?_
                          refine s_istore [(0, .ref y), (1, .int (nI j)), (2, .int (nI (hsz m B))), (3, .int (nI i)), (4, .int (nI k9)), (5, .int (nI ((2 ^ n) - 1))), (6, .int (nI i)), (7, .int (nI k9)), (8, .int (nI 1))] [1, 2, 3, 4, 0, 5, 6, 7, 8] C dM_witness_120 (by decide) rfl ?_
                          refine s_iinc (j := 7) (nI (k9 + 1)) [(0, .ref y), (1, .int (nI j)), (2, .int (nI (hsz m B))), (3, .int (nI i)), (4, .int (nI k9)), (5, .int (nI ((2 ^ n) - 1))), (6, .int (nI i)), (7, .int (nI (k9 + 1))), (8, .int (nI 1))] [1, 2, 3, 4, 5, 6, 7, 0, 8] C dM_witness_122 rfl (inc1 _) (by decide) rfl ?_
                          refine s_goto (tgt := 44) C dM_witness_125 (by decide) ?_
                          refine s_lv (lv' := [(0, .ref y), (1, .int (nI j)), (2, .int (nI (hsz m B))), (3, .int (nI i)), (4, .int (nI k9)), (5, .int (nI ((2 ^ n) - 1))), (6, .int (nI i)), (7, .int (nI (k9 + 1)))]) [0, 1, 2, 3, 4, 5, 6, 7] rfl ?_
                          exact ih2 (k9 + 1) T3 (nI i) (nI k9) (by omega) (wi_new hW2 (by omega) ⟨by omega, hdj, c7⟩ hbt)
                    have nog : wiI fi se wa n m (hsz m B) i (k9 + 1) fu2 fw2 → ST E 9 Q 0 0 (wf E A D [(y, .inr (5, [.int (nI n), .int (nI m), .ref p1, .ref p2, .ref p3, .ref p4])), (p1, .inl (cA, 14, .inl (aN fi))), (p2, .inl (cA, 14, .inl (aN se))), (p3, .inl (cA, 9, .inl (aN wa))), (p4, .inl (cA, 9, .inl T2))]) [(0, .ref y), (1, .int (nI j)), (2, .int (nI (hsz m B))), (3, .int fu2), (4, .int fw2), (5, .int (nI ((2 ^ n) - 1))), (6, .int (nI i)), (7, .int (nI k9))] [.int (nI 0)] 96 := by
                      intro hw3
                      refine s_istore [(0, .ref y), (1, .int (nI j)), (2, .int (nI (hsz m B))), (3, .int fu2), (4, .int fw2), (5, .int (nI ((2 ^ n) - 1))), (6, .int (nI i)), (7, .int (nI k9)), (8, .int (nI 0))] [1, 2, 3, 4, 5, 6, 7, 8, 0] C dM_witness_96 (by decide) rfl ?_
                      refine s_iload 8 C dM_witness_98 rfl ?_
                      refine s_if_eqN 122 C dM_witness_100 (by decide) (by decide) (fun c6 => ?_) (fun c6 => ?_)
                      · refine s_iinc (j := 7) (nI (k9 + 1)) [(0, .ref y), (1, .int (nI j)), (2, .int (nI (hsz m B))), (3, .int fu2), (4, .int fw2), (5, .int (nI ((2 ^ n) - 1))), (6, .int (nI i)), (7, .int (nI (k9 + 1))), (8, .int (nI 0))] [1, 2, 3, 4, 5, 6, 7, 0, 8] C dM_witness_122 rfl (inc1 _) (by decide) rfl ?_
                        refine s_goto (tgt := 44) C dM_witness_125 (by decide) ?_
                        refine s_lv (lv' := [(0, .ref y), (1, .int (nI j)), (2, .int (nI (hsz m B))), (3, .int fu2), (4, .int fw2), (5, .int (nI ((2 ^ n) - 1))), (6, .int (nI i)), (7, .int (nI (k9 + 1)))]) [0, 1, 2, 3, 4, 5, 6, 7] rfl ?_
                        exact ih2 (k9 + 1) T2 fu2 fw2 (by omega) hw3
                      · exact absurd rfl c6
                    rcases id hW2 with ⟨h1, h2, h3⟩ | ⟨aa, bb, h1, h2, h3, h4, h5⟩
                    · refine s_iload_n 3 C dM_witness_62 rfl ?_
                      refine s_if_lt 91 C dM_witness_63 (by decide) (fun c6 => ?_) (fun c6 => ?_)
                      · refine s_iconst (nI 1) C dM_witness_91 (by decide) ?_
                        refine s_goto (tgt := 96) C dM_witness_92 (by decide) ?_
                        exact go (fun a b z _ ha _ => absurd (h1.symm.trans z).symm (nI_m1 (by omega)))
                      · exact absurd (by rw [h1]; decide) c6
                    · have hbw := h4.1
                      have h14 : (512 : Nat) ≤ 2 ^ 14 := by decide
                      have hpk := pky_lt (u := i) (w := k9) (a := aa) (b := bb) (by omega) (by omega)
                      have hgo : pky i k9 < pky aa bb → ∀ a b, fu2 = nI a → fw2 = nI b → a < 2 ^ n → b < 2 ^ n → pky i k9 < pky a b := fun z a b y1 y2 y3 y4 => by
                        rw [← (nI_eq (by omega) (by omega)).mp (h1.symm.trans y1), ← (nI_eq (by omega) (by omega)).mp (h2.symm.trans y2)]; exact z
                      have hno : ¬ pky i k9 < pky aa bb → wiI fi se wa n m (hsz m B) i (k9 + 1) fu2 fw2 := fun z => by
                        rw [h1, h2]; exact wi_ge h3 h4 h5 (by omega)
                      refine s_iload_n 3 C dM_witness_62 rfl ?_
                      refine s_if_lt 91 C dM_witness_63 (by decide) (fun c6 => ?_) (fun c6 => ?_)
                      · rw [h1] at c6
                        exact absurd c6 (nI_pos (by omega))
                      · refine s_iload 6 C dM_witness_66 rfl ?_
                        refine s_iload_n 3 C dM_witness_68 rfl ?_
                        refine s_top h1 ?_
                        refine s_callPS (n := 2) [] [] C wfP (kM_isBefore E.2.1 D cA i aa (by omega) (by omega)) gM_58 dM_witness_69 (by decide +kernel) rfl (by decide) (by decide) rfl rfl (Nat.le_of_ble_eq_true rfl) (Nat.zero_le _) (Nat.zero_le _) (fun rb hbf => ?_)
                        rcases hbf with ⟨er, hy2⟩ | ⟨er, hn2⟩
                        · refine s_top er ?_
                          refine s_if_neN 91 C dM_witness_72 (by decide) (by decide) (fun c7 => ?_) (fun c7 => ?_)
                          · refine s_iconst (nI 1) C dM_witness_91 (by decide) ?_
                            refine s_goto (tgt := 96) C dM_witness_92 (by decide) ?_
                            exact go (hgo (hpk.mpr (Or.inl hy2)))
                          · exact absurd c7 (by decide)
                        · refine s_top er ?_
                          refine s_if_neN 91 C dM_witness_72 (by decide) (by decide) (fun c7 => ?_) (fun c7 => ?_)
                          · exact absurd rfl c7
                          · refine s_iload 6 C dM_witness_75 rfl ?_
                            refine s_iload_n 3 C dM_witness_77 rfl ?_
                            refine s_top h1 ?_
                            refine s_icmp_neN 95 C dM_witness_78 (by decide) (by omega) (by omega) (fun c8 => ?_) (fun c8 => ?_)
                            · refine s_iconst (nI 0) C dM_witness_95 (by decide) ?_
                              exact nog (hno (fun z => by rcases hpk.mp z with y | y; exact hn2 y; exact c8 y.1))
                            · refine s_iload 7 C dM_witness_81 rfl ?_
                              refine s_iload 4 C dM_witness_83 rfl ?_
                              refine s_top h2 ?_
                              refine s_callPS (n := 2) [] [] C wfP (kM_isBefore E.2.1 D cA k9 bb (by omega) (by omega)) gM_58 dM_witness_85 (by decide +kernel) rfl (by decide) (by decide) rfl rfl (Nat.le_of_ble_eq_true rfl) (Nat.zero_le _) (Nat.zero_le _) (fun rb hbf2 => ?_)
                              rcases hbf2 with ⟨er, hy3⟩ | ⟨er, hn3⟩
                              · refine s_top er ?_
                                refine s_if_eqN 95 C dM_witness_88 (by decide) (by decide) (fun c9 => ?_) (fun c9 => ?_)
                                · exact absurd c9 (by decide)
                                · refine s_iconst (nI 1) C dM_witness_91 (by decide) ?_
                                  refine s_goto (tgt := 96) C dM_witness_92 (by decide) ?_
                                  exact go (hgo (hpk.mpr (Or.inr ⟨c8, hy3⟩)))
                              · refine s_top er ?_
                                refine s_if_eqN 95 C dM_witness_88 (by decide) (by decide) (fun c9 => ?_) (fun c9 => ?_)
                                · refine s_iconst (nI 0) C dM_witness_95 (by decide) ?_
                                  exact nog (hno (fun z => by rcases hpk.mp z with y | y; exact hn2 y; exact hn3 y.2))
                                · exact absurd rfl c9
                  · refine s_goto (tgt := 122) C dM_witness_59 (by decide) ?_
                    refine s_iinc (j := 7) (nI (k9 + 1)) [(0, .ref y), (1, .int (nI j)), (2, .int (nI (hsz m B))), (3, .int fu2), (4, .int fw2), (5, .int (nI ((2 ^ n) - 1))), (6, .int (nI i)), (7, .int (nI (k9 + 1)))] [1, 2, 3, 4, 5, 6, 7, 0] C dM_witness_122 rfl (inc1 _) (by decide) rfl ?_
                    refine s_goto (tgt := 44) C dM_witness_125 (by decide) ?_
                    exact ih2 (k9 + 1) T2 fu2 fw2 (by omega) (wi_no hW2 (fun z => c5 (and_dsj.mpr z.2.1)))
            exact loop2 (2 ^ n) 0 T fu fw (by omega) hWI
      exact loop (2 ^ n) 0 PA (-1) (-1) (by omega) (Or.inl ⟨rfl, rfl, fun u w hp => absurd hp (by omega)⟩)
    · refine s_iconst (-1) C dM_witness_9 (by decide) ?_
      exact hret _ PA _ _ dM_witness_10 rfl (Or.inr ⟨fun ⟨j, hj, e⟩ => c2 (by rw [e]; exact nI_le (by omega) (by decide)), rfl⟩)
