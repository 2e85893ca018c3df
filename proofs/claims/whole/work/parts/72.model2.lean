theorem good_ex {fi se wa : Nat → Nat} {n m e : Nat} {B : Nat → Bool} {b : Bool} (hn : n ≤ 9) (hm : m ≤ 14) (hfs : hok fi se n m) (he : e < m) : (∃ s, s < 2 ^ m ∧ hsz 14 (bm s) = hsz m B ∧ hfa fi se n m wa (bm s) ∧ bm s e = b) ↔ lgW fi se wa m e B b := by
  have z14 : ∀ s, s < 2 ^ m → hsz 14 (bm s) = hsz m (bm s) := fun s hs => by
    have := hsz_pad (M := bm s) (m := m) (fun j hj => bm_ge hs hj) (14 - m)
    rw [show m + (14 - m) = 14 by omega] at this
    exact this
  constructor
  · rintro ⟨s, h1, h2, h3, h4⟩
    exact ⟨bm s, (hfa_9 hn hfs).mpr h3, by rw [← h2, z14 s h1], h4⟩
  · rintro ⟨M, h1, h2, h3⟩
    have hb : ∀ j, j < m → bm (tob M m) j = M j := fun j hj => bm_tob M hj
    refine ⟨tob M m, tob_lt M m, ?_, (hfa_9 hn hfs).mp (hfa_cg (fun j hj => (hb j hj).symm) h1), by rw [hb e he]; exact h3⟩
    rw [z14 _ (tob_lt M m), hsz_cg hb, h2]
/-- a flag: some of the sets below i are good and have (or lack) e -/
def flg (G : Nat → Prop) (i t : Nat) : Prop := (t = 1 ∧ ∃ s, s < i ∧ G s) ∨ (t = 0 ∧ ∀ s, s < i → ¬ G s)
theorem flg_up {G : Nat → Prop} {i t t' : Nat} (h : flg G i t) (h1 : G i → t' = 1) (h2 : t = 1 → t' = 1) (h3 : ¬ G i → t = 0 → t' = 0) : flg G (i + 1) t' := by
  by_cases q : G i
  · exact Or.inl ⟨h1 q, i, by omega, q⟩
  · rcases h with ⟨a, s, b, c⟩ | ⟨a, b⟩
    · exact Or.inl ⟨h2 a, s, by omega, c⟩
    · refine Or.inr ⟨h3 q a, fun s hs => ?_⟩
      by_cases z : s = i
      · subst z; exact q
      · exact b s (by omega)
theorem nup_back (f : Nat → Nat) (v d : Nat) : nup (nup f v d) v (f v) = f := by
  funext j
  unfold nup
  by_cases q : j = v
  · subst q; rw [if_pos rfl]
  · rw [if_neg q, if_neg q]
/-- what an array of parts holds -/
def paF (u w : Nat) (lb : Nat → Nat) (v : Nat) : Int32 := if bm (u ||| w) v = true then -1 else nI (lb v)
def paP (fi se : Nat → Nat) (n m u w : Nat) (T : Nat → Int32) (lb : Nat → Nat) : Prop := (∀ v, v < n → T v = paF u w lb v) ∧ lbI fi se n m u w lb
theorem pa_cls (n u w v : Nat) (hv : v < n) : (bm (u ||| w) v = true ∧ ¬ rsv n u w v) ∨ (bm (u ||| w) v = false ∧ rsv n u w v) := by
  unfold rsv
  rw [bm_orr]
  cases h1 : bm u v <;> cases h2 : bm w v <;> simp [hv]
theorem pa_no {n u w v : Nat} {lb : Nat → Nat} (hv : v < n) (h : ¬ rsv n u w v) : paF u w lb v = -1 := by
  rcases pa_cls n u w v hv with q | q
  · exact if_pos q.1
  · exact absurd q.2 h
theorem pa_yes {n u w v : Nat} {lb : Nat → Nat} (h : rsv n u w v) : paF u w lb v = nI (lb v) := by
  rcases pa_cls n u w v h.1 with q | q
  · exact absurd h q.2
  · exact if_neg (by rw [q.1]; decide)
theorem pa_is {fi se : Nat → Nat} {n m u w v p : Nat} {lb : Nat → Nat} (hn : n ≤ 9) (hI : lbI fi se n m u w lb) (hv : v < n) (hp : p < 100) : (paF u w lb v = nI p) ↔ dlb u w lb v = p + 2 := by
  by_cases h : rsv n u w v
  · have := (hI v h).1.1
    rw [pa_yes h, dlb_r h, nI_eq (by omega) (by omega)]; omega
  · rw [pa_no hv h]
    constructor
    · intro q; exact absurd q.symm (nI_m1 (by omega))
    · intro q
      exfalso
      refine h ?_
      unfold dlb at q
      by_cases z1 : bm u v = true
      · rw [if_pos z1] at q; omega
      · rw [if_neg z1] at q
        by_cases z2 : bm w v = true
        · rw [if_pos z2] at q; omega
        · exact ⟨hv, by cases y : bm u v <;> simp [y] at z1 ⊢, by cases y : bm w v <;> simp [y] at z2 ⊢⟩
theorem dlb_w {u w v : Nat} {lb : Nat → Nat} (hd : dsj u w) : dlb u w lb v = 1 ↔ bm w v = true := by
  unfold dlb
  by_cases z1 : bm u v = true
  · rw [if_pos z1]
    exact ⟨fun q => by omega, fun q => absurd ⟨z1, q⟩ (hd v)⟩
  · rw [if_neg z1]
    by_cases z2 : bm w v = true
    · rw [if_pos z2]; simp [z2]
    · rw [if_neg z2]; simp [z2]
set_option maxHeartbeats 4000000 in
set_option maxRecDepth 100000 in
/-- role -/
theorem kM_role (l : Launch) (D : va_G) (cA : ClassId) (y p1 p2 p3 p4 : Nat) (n m : Nat) (fi se wa : Nat → Nat) (hG : GOK n m fi se wa) (p : Int32) : CtP l yM_role (.code yM_role cM_role 6 (some .int)) 5 D cA [.ref y, .int p] [(y, .inr (5, [.int (nI n), .int (nI m), .ref p1, .ref p2, .ref p3, .ref p4])), (p1, .inl (cA, 14, .inl (aN fi))), (p2, .inl (cA, 14, .inl (aN se))), (p3, .inl (cA, 9, .inl (aN wa)))] (fun r => roleQ fi se wa m p r) := by
  refine mkP [(0, .ref y), (1, .int p)] (by decide) rfl (Nat.le_of_ble_eq_true rfl) ?_
  intro E Q hE C hret
  obtain ⟨g1, g2, g3, g4, g50, g6⟩ := hG
  have g5 : ∀ v, v < 9 → wa v ≤ 50 := fun v hv => by have := g50 v hv; omega
  have h2m : 2 ^ m ≤ 2 ^ 14 := p2_le g3
  have h2p : 1 ≤ 2 ^ m := Nat.one_le_two_pow
  refine s_aload_n 0 C dM_role_0 rfl ?_
  refine s_iload_n 1 C dM_role_1 rfl ?_
  refine s_callP (n := 1) [0] 0 [] C pfP (kM_isEdge E.2.1 D cA y p1 p2 p3 p4 n m p (by omega) (by omega)) gM_33 dM_role_2 (by decide +kernel) rfl rfl rfl rfl (by decide) (by decide) rfl rfl (Nat.le_of_ble_eq_true rfl) (Nat.zero_le _) (Nat.zero_le _) (fun rhv hv => ?_)
  rcases hv with ⟨er, hin⟩ | ⟨er, hin⟩
  · refine s_top er ?_
    refine s_if_neN 10 C dM_role_5 (by decide) (by decide) (fun c1 => ?_) (fun c1 => ?_)
    · obtain ⟨j, hj, rfl⟩ := hin
      refine s_aload_n 0 C dM_role_10 rfl ?_
      refine s_callP (n := 0) [0, 1, 2, 3] 0 [] C pfP (kM_most E.2.1 D cA y p1 p2 p3 p4 n m fi se wa g1 g2 g3 g4 g5 ) gM_64 dM_role_11 (by decide +kernel) rfl rfl rfl rfl (by decide) (by decide) rfl rfl (Nat.le_of_ble_eq_true rfl) (Nat.zero_le _) (Nat.zero_le _) (fun rm hm9 => ?_)
      obtain ⟨B, hB, eB⟩ := hm9
      have hzB := hsz_le m B
      refine s_top eB ?_
      refine s_istore_n [(0, .ref y), (1, .int (nI j)), (2, .int (nI (hsz m B)))] [1, 2, 0] C dM_role_14 (by decide) rfl ?_
      refine s_iconst (nI 0) C dM_role_15 (by decide) ?_
      refine s_istore_n [(0, .ref y), (1, .int (nI j)), (2, .int (nI (hsz m B))), (3, .int (nI 0))] [1, 2, 3, 0] C dM_role_16 (by decide) rfl ?_
      refine s_iconst (nI 0) C dM_role_17 (by decide) ?_
      refine s_istore [(0, .ref y), (1, .int (nI j)), (2, .int (nI (hsz m B))), (3, .int (nI 0)), (4, .int (nI 0))] [1, 2, 3, 4, 0] C dM_role_18 (by decide) rfl ?_
      refine s_iconst (nI 0) C dM_role_20 (by decide) ?_
      refine s_istore [(0, .ref y), (1, .int (nI j)), (2, .int (nI (hsz m B))), (3, .int (nI 0)), (4, .int (nI 0)), (5, .int (nI 0))] [1, 2, 3, 4, 5, 0] C dM_role_21 (by decide) rfl ?_
      have loop : ∀ k i (wt wo : Nat), i + k = 2 ^ m → flg (fun s => hsz 14 (bm s) = hsz m B ∧ hfa fi se n m wa (bm s) ∧ bm s j = true) i wt → flg (fun s => hsz 14 (bm s) = hsz m B ∧ hfa fi se n m wa (bm s) ∧ bm s j = false) i wo → ST E 6 Q 0 0 (pf E D [(y, .inr (5, [.int (nI n), .int (nI m), .ref p1, .ref p2, .ref p3, .ref p4])), (p1, .inl (cA, 14, .inl (aN fi))), (p2, .inl (cA, 14, .inl (aN se))), (p3, .inl (cA, 9, .inl (aN wa)))]) [(0, .ref y), (1, .int (nI j)), (2, .int (nI (hsz m B))), (3, .int (nI wt)), (4, .int (nI wo)), (5, .int (nI i))] [] 23 := by
        intro k
        induction k with
        | zero =>
          intro i wt wo hi hwt hwo
          refine s_iload 5 C dM_role_23 rfl ?_
          refine s_aload_n 0 C dM_role_25 rfl ?_
          refine s_callP (n := 0) [0] 0 [.int (nI i)] C pfP (kM_allEdges E.2.1 D cA y p1 p2 p3 p4 n m g3) gM_48 dM_role_26 (by decide +kernel) rfl rfl rfl rfl (by decide) (by decide) rfl rfl (Nat.le_of_ble_eq_true rfl) (Nat.zero_le _) (Nat.zero_le _) (fun ra hall9 => ?_)
          refine s_top hall9 ?_
          refine s_icmp_gtN 96 C dM_role_29 (by decide) (by omega) (by omega) (fun c2 => ?_) (fun c2 => ?_)
          · have e : 2 ^ m = i := by omega
            subst e
            have hW := good_ex (wa := wa) (B := B) (b := true) g2 g3 g4 hj
            have hO := good_ex (wa := wa) (B := B) (b := false) g2 g3 g4 hj
            rcases hwt with ⟨e1, hw1⟩ | ⟨e1, hw1⟩
            · subst e1
              refine s_iload_n 3 C dM_role_96 rfl ?_
              refine s_if_neN 104 C dM_role_97 (by decide) (by decide) (fun c3 => ?_) (fun c3 => ?_)
              · rcases hwo with ⟨e2, hw2⟩ | ⟨e2, hw2⟩
                · subst e2
                  refine s_iload 4 C dM_role_104 rfl ?_
                  refine s_if_eqN 113 C dM_role_106 (by decide) (by decide) (fun c4 => ?_) (fun c4 => ?_)
                  · exact absurd c4 (by decide)
                  · refine s_iconst (nI 1) C dM_role_109 (by decide) ?_
                    refine s_goto (tgt := 114) C dM_role_110 (by decide) ?_
                    exact hret _ _ _ dM_role_114 rfl (Or.inl ⟨j, hj, rfl, B, hB, Or.inr (Or.inl ⟨hW.mp hw1, hO.mp hw2, rfl⟩)⟩)
                · subst e2
                  refine s_iload 4 C dM_role_104 rfl ?_
                  refine s_if_eqN 113 C dM_role_106 (by decide) (by decide) (fun c4 => ?_) (fun c4 => ?_)
                  · refine s_iconst (nI 2) C dM_role_113 (by decide) ?_
                    exact hret _ _ _ dM_role_114 rfl (Or.inl ⟨j, hj, rfl, B, hB, Or.inr (Or.inr ⟨hW.mp hw1, fun z => by obtain ⟨s, s1, s2⟩ := hO.mpr z; exact hw2 s s1 s2, rfl⟩)⟩)
                  · exact absurd rfl c4
              · exact absurd c3 (by decide)
            · subst e1
              refine s_iload_n 3 C dM_role_96 rfl ?_
              refine s_if_neN 104 C dM_role_97 (by decide) (by decide) (fun c3 => ?_) (fun c3 => ?_)
              · exact absurd rfl c3
              · refine s_iconst (nI 0) C dM_role_100 (by decide) ?_
                refine s_goto (tgt := 114) C dM_role_101 (by decide) ?_
                exact hret _ _ _ dM_role_114 rfl (Or.inl ⟨j, hj, rfl, B, hB, Or.inl ⟨fun z => by obtain ⟨s, s1, s2⟩ := hW.mpr z; exact hw1 s s1 s2, rfl⟩⟩)
          · exact absurd c2 (by omega)
        | succ k ih =>
          intro i wt wo hi hwt hwo
          refine s_iload 5 C dM_role_23 rfl ?_
          refine s_aload_n 0 C dM_role_25 rfl ?_
          refine s_callP (n := 0) [0] 0 [.int (nI i)] C pfP (kM_allEdges E.2.1 D cA y p1 p2 p3 p4 n m g3) gM_48 dM_role_26 (by decide +kernel) rfl rfl rfl rfl (by decide) (by decide) rfl rfl (Nat.le_of_ble_eq_true rfl) (Nat.zero_le _) (Nat.zero_le _) (fun ra hall9 => ?_)
          refine s_top hall9 ?_
          refine s_icmp_gtN 96 C dM_role_29 (by decide) (by omega) (by omega) (fun c2 => ?_) (fun c2 => ?_)
          · exact absurd c2 (by omega)
          · have hzi := hsz_le 14 (bm i)
            have hwt2 : wt ≤ 1 := by rcases hwt with q | q <;> omega
            have hwo2 : wo ≤ 1 := by rcases hwo with q | q <;> omega
            refine s_iload 5 C dM_role_32 rfl ?_
            refine s_callPS (n := 1) [] [] C pfP (kM_size E.2.1 D cA i (by omega)) gM_40 dM_role_34 (by decide +kernel) rfl (by decide) (by decide) rfl rfl (Nat.le_of_ble_eq_true rfl) (Nat.zero_le _) (Nat.zero_le _) (fun rs hs9 => ?_)
            refine s_top hs9 ?_
            refine s_iload_n 2 C dM_role_37 rfl ?_
            refine s_icmp_neN 90 C dM_role_38 (by decide) (by omega) (by omega) (fun c3 => ?_) (fun c3 => ?_)
            · refine s_iinc (j := 5) (nI (i + 1)) [(0, .ref y), (1, .int (nI j)), (2, .int (nI (hsz m B))), (3, .int (nI wt)), (4, .int (nI wo)), (5, .int (nI (i + 1)))] [1, 2, 3, 4, 5, 0] C dM_role_90 rfl (inc1 _) (by decide) rfl ?_
              refine s_goto (tgt := 23) C dM_role_93 (by decide) ?_
              exact ih (i + 1) wt wo (by omega) (flg_up hwt (fun h => absurd h.1 c3) (fun h => h) (fun _ h => h)) (flg_up hwo (fun h => absurd h.1 c3) (fun h => h) (fun _ h => h))
            · refine s_aload_n 0 C dM_role_41 rfl ?_
              refine s_iload 5 C dM_role_42 rfl ?_
              refine s_callP (n := 1) [0, 1, 2, 3] 0 [] C pfP (kM_isFair E.2.1 D cA y p1 p2 p3 p4 n m fi se wa g1 g2 g3 g4 g5 i (by omega)) gM_55 dM_role_44 (by decide +kernel) rfl rfl rfl rfl (by decide) (by decide) rfl rfl (Nat.le_of_ble_eq_true rfl) (Nat.zero_le _) (Nat.zero_le _) (fun rf hfr => ?_)
              rcases hfr with ⟨er, hy⟩ | ⟨er, hn⟩
              · refine s_top er ?_
                refine s_if_eqN 90 C dM_role_47 (by decide) (by decide) (fun c4 => ?_) (fun c4 => ?_)
                · exact absurd c4 (by decide)
                · have mid2 : ∀ t1 t2 : Nat, flg (fun s => hsz 14 (bm s) = hsz m B ∧ hfa fi se n m wa (bm s) ∧ bm s j = true) (i + 1) t1 → flg (fun s => hsz 14 (bm s) = hsz m B ∧ hfa fi se n m wa (bm s) ∧ bm s j = false) (i + 1) t2 → ST E 6 Q 0 0 (pf E D [(y, .inr (5, [.int (nI n), .int (nI m), .ref p1, .ref p2, .ref p3, .ref p4])), (p1, .inl (cA, 14, .inl (aN fi))), (p2, .inl (cA, 14, .inl (aN se))), (p3, .inl (cA, 9, .inl (aN wa)))]) [(0, .ref y), (1, .int (nI j)), (2, .int (nI (hsz m B))), (3, .int (nI t1)), (4, .int (nI wo)), (5, .int (nI i))] [.int (nI t2)] 88 := by
                    intro t1 t2 h1 h2
                    refine s_istore [(0, .ref y), (1, .int (nI j)), (2, .int (nI (hsz m B))), (3, .int (nI t1)), (4, .int (nI t2)), (5, .int (nI i))] [1, 2, 3, 4, 0, 5] C dM_role_88 (by decide) rfl ?_
                    refine s_iinc (j := 5) (nI (i + 1)) [(0, .ref y), (1, .int (nI j)), (2, .int (nI (hsz m B))), (3, .int (nI t1)), (4, .int (nI t2)), (5, .int (nI (i + 1)))] [1, 2, 3, 4, 5, 0] C dM_role_90 rfl (inc1 _) (by decide) rfl ?_
                    refine s_goto (tgt := 23) C dM_role_93 (by decide) ?_
                    exact ih (i + 1) t1 t2 (by omega) h1 h2
                  have mid1 : ∀ t1 : Nat, t1 ≤ 1 → flg (fun s => hsz 14 (bm s) = hsz m B ∧ hfa fi se n m wa (bm s) ∧ bm s j = true) (i + 1) t1 → ST E 6 Q 0 0 (pf E D [(y, .inr (5, [.int (nI n), .int (nI m), .ref p1, .ref p2, .ref p3, .ref p4])), (p1, .inl (cA, 14, .inl (aN fi))), (p2, .inl (cA, 14, .inl (aN se))), (p3, .inl (cA, 9, .inl (aN wa)))]) [(0, .ref y), (1, .int (nI j)), (2, .int (nI (hsz m B))), (3, .int (nI wt)), (4, .int (nI wo)), (5, .int (nI i))] [.int (nI t1)] 68 := by
                    intro t1 ht1 h1
                    refine s_istore_n [(0, .ref y), (1, .int (nI j)), (2, .int (nI (hsz m B))), (3, .int (nI t1)), (4, .int (nI wo)), (5, .int (nI i))] [1, 2, 3, 0, 4, 5] C dM_role_68 (by decide) rfl ?_
                    refine s_iload 4 C dM_role_69 rfl ?_
                    refine s_if_neN 83 C dM_role_71 (by decide) (by omega) (fun c5 => ?_) (fun c5 => ?_)
                    · refine s_iconst (nI 1) C dM_role_83 (by decide) ?_
                      refine s_goto (tgt := 88) C dM_role_84 (by decide) ?_
                      exact mid2 t1 1 h1 (flg_up hwo (fun _ => rfl) (fun _ => rfl) (fun _ h => by omega))
                    · refine s_iload 5 C dM_role_74 rfl ?_
                      refine s_iload_n 1 C dM_role_76 rfl ?_
                      refine s_callPS (n := 2) [] [] C pfP (kM_has E.2.1 D cA i j (by omega) (by omega)) gM_36 dM_role_77 (by decide +kernel) rfl (by decide) (by decide) rfl rfl (Nat.le_of_ble_eq_true rfl) (Nat.zero_le _) (Nat.zero_le _) (fun rh hh9 => ?_)
                      refine s_top hh9 ?_
                      refine s_if_neN 87 C dM_role_80 (by decide) (bt31 _) (fun c6 => ?_) (fun c6 => ?_)
                      · have zb : bm i j = true := by
                          cases z : bm i j
                          · rw [z] at c6; exact absurd rfl c6
                          · rfl
                        refine s_iconst (nI 0) C dM_role_87 (by decide) ?_
                        exact mid2 t1 0 h1 (flg_up hwo (fun h => absurd h.2.2 (by rw [zb]; decide)) (fun h => by omega) (fun _ _ => rfl))
                      · have zb : bm i j = false := bmF.mp c6
                        refine s_iconst (nI 1) C dM_role_83 (by decide) ?_
                        refine s_goto (tgt := 88) C dM_role_84 (by decide) ?_
                        exact mid2 t1 1 h1 (flg_up hwo (fun _ => rfl) (fun _ => rfl) (fun h => absurd ⟨c3, hy, zb⟩ h))
                  refine s_iload_n 3 C dM_role_50 rfl ?_
                  refine s_if_neN 63 C dM_role_51 (by decide) (by omega) (fun c5 => ?_) (fun c5 => ?_)
                  · refine s_iconst (nI 1) C dM_role_63 (by decide) ?_
                    refine s_goto (tgt := 68) C dM_role_64 (by decide) ?_
                    exact mid1 1 (by omega) (flg_up hwt (fun _ => rfl) (fun _ => rfl) (fun _ h => by omega))
                  · refine s_iload 5 C dM_role_54 rfl ?_
                    refine s_iload_n 1 C dM_role_56 rfl ?_
                    refine s_callPS (n := 2) [] [] C pfP (kM_has E.2.1 D cA i j (by omega) (by omega)) gM_36 dM_role_57 (by decide +kernel) rfl (by decide) (by decide) rfl rfl (Nat.le_of_ble_eq_true rfl) (Nat.zero_le _) (Nat.zero_le _) (fun rh hh9 => ?_)
                    refine s_top hh9 ?_
                    refine s_if_eqN 67 C dM_role_60 (by decide) (bt31 _) (fun c6 => ?_) (fun c6 => ?_)
                    · have zb : bm i j = false := bmF.mp c6
                      refine s_iconst (nI 0) C dM_role_67 (by decide) ?_
                      exact mid1 0 (by omega) (flg_up hwt (fun h => absurd h.2.2 (by rw [zb]; decide)) (fun h => by omega) (fun _ _ => rfl))
                    · have zb : bm i j = true := by
                        cases z : bm i j
                        · rw [z] at c6; exact absurd rfl c6
                        · rfl
                      refine s_iconst (nI 1) C dM_role_63 (by decide) ?_
                      refine s_goto (tgt := 68) C dM_role_64 (by decide) ?_
                      exact mid1 1 (by omega) (flg_up hwt (fun _ => rfl) (fun _ => rfl) (fun h => absurd ⟨c3, hy, zb⟩ h))
              · refine s_top er ?_
                refine s_if_eqN 90 C dM_role_47 (by decide) (by decide) (fun c4 => ?_) (fun c4 => ?_)
                · refine s_iinc (j := 5) (nI (i + 1)) [(0, .ref y), (1, .int (nI j)), (2, .int (nI (hsz m B))), (3, .int (nI wt)), (4, .int (nI wo)), (5, .int (nI (i + 1)))] [1, 2, 3, 4, 5, 0] C dM_role_90 rfl (inc1 _) (by decide) rfl ?_
                  refine s_goto (tgt := 23) C dM_role_93 (by decide) ?_
                  exact ih (i + 1) wt wo (by omega) (flg_up hwt (fun h => absurd h.2.1 hn) (fun h => h) (fun _ h => h)) (flg_up hwo (fun h => absurd h.2.1 hn) (fun h => h) (fun _ h => h))
                · exact absurd rfl c4
      exact loop (2 ^ m) 0 0 0 (by omega) (Or.inr ⟨rfl, fun s hs => absurd hs (by omega)⟩) (Or.inr ⟨rfl, fun s hs => absurd hs (by omega)⟩)
    · exact absurd c1 (by decide)
  · refine s_top er ?_
    refine s_if_neN 10 C dM_role_5 (by decide) (by decide) (fun c1 => ?_) (fun c1 => ?_)
    · exact absurd rfl c1
    · refine s_iconst (-1) C dM_role_8 (by decide) ?_
      exact hret _ _ _ dM_role_9 rfl (Or.inr ⟨hin, rfl⟩)
set_option maxHeartbeats 4000000 in
set_option maxRecDepth 100000 in
/-- most, the demand of v being d -/
theorem kM_mostWith (l : Launch) (D : va_G) (cA : ClassId) (y p1 p2 p3 p4 : Nat) (n m : Nat) (fi se wa : Nat → Nat) (hG : GOK n m fi se wa) (v d : Nat) (hv : v < 9) (hd9 : d ≤ 50) : CtI (S := Unit) l yM_mostWith (.code yM_mostWith cM_mostWith 5 (some .int)) 5 0 0 D cA [.ref y, .int (nI v), .int (nI d)] [(y, .inr (5, [.int (nI n), .int (nI m), .ref p1, .ref p2, .ref p3, .ref p4])), (p1, .inl (cA, 14, .inl (aN fi))), (p2, .inl (cA, 14, .inl (aN se))), (p3, .inl (cA, 9, .inl (aN wa)))] (fun r _ => mostP fi se (nup wa v d) m r) (fun _ => [(y, .inr (5, [.int (nI n), .int (nI m), .ref p1, .ref p2, .ref p3, .ref p4])), (p1, .inl (cA, 14, .inl (aN fi))), (p2, .inl (cA, 14, .inl (aN se))), (p3, .inl (cA, 9, .inl (aN wa)))]) := by
  refine mkI [(0, .ref y), (1, .int (nI v)), (2, .int (nI d))] (by decide) rfl (Nat.le_of_ble_eq_true rfl) ?_
  intro E A Q hE C hA hret
  obtain ⟨g1, g2, g3, g4, g50, g6⟩ := hG
  have g5 : ∀ z, z < 9 → (nup wa v d) z ≤ 50 := fun z hz => by have := g50 z hz; unfold nup; split <;> omega
  refine s_aload_n 0 C dM_mostWith_0 rfl ?_
  refine s_get (.ref p3) 0 4 C wfP inM flM_20 dM_mostWith_1 rfl rfl (by decide) rfl ?_
  refine s_iload_n 1 C dM_mostWith_4 rfl ?_
  refine s_ialdN 3 C wfP dM_mostWith_5 rfl (by omega) (by decide) ?_
  refine s_istore_n [(0, .ref y), (1, .int (nI v)), (2, .int (nI d)), (3, .int (nI (wa v)))] [1, 2, 3, 0] C dM_mostWith_6 (by decide) rfl ?_
  refine s_aload_n 0 C dM_mostWith_7 rfl ?_
  refine s_get (.ref p3) 0 4 C wfP inM flM_20 dM_mostWith_8 rfl rfl (by decide) rfl ?_
  refine s_iload_n 1 C dM_mostWith_11 rfl ?_
  refine s_iload_n 2 C dM_mostWith_12 rfl ?_
  refine s_iastN 3 [(y, .inr (5, [.int (nI n), .int (nI m), .ref p1, .ref p2, .ref p3, .ref p4])), (p1, .inl (cA, 14, .inl (aN fi))), (p2, .inl (cA, 14, .inl (aN se))), (p3, .inl (cA, 9, .inl (aN (nup wa v d))))] C dM_mostWith_13 rfl (by omega) (by decide) rfl ?_
  refine s_aload_n 0 C dM_mostWith_14 rfl ?_
  refine s_callP (n := 0) [0, 1, 2, 3] 0 [] C wfP (kM_most E.2.1 D cA y p1 p2 p3 p4 n m fi se (nup wa v d) g1 g2 g3 g4 g5 ) gM_64 dM_mostWith_15 (by decide +kernel) rfl rfl rfl rfl (by decide) (by decide) rfl rfl (Nat.le_of_ble_eq_true rfl) (Nat.zero_le _) (Nat.zero_le _) (fun rm hm9 => ?_)
  obtain ⟨B, hB, eB⟩ := hm9
  have hzB := hsz_le m B
  refine s_top eB ?_
  refine s_istore [(0, .ref y), (1, .int (nI v)), (2, .int (nI d)), (3, .int (nI (wa v))), (4, .int (nI (hsz m B)))] [1, 2, 3, 4, 0] C dM_mostWith_18 (by decide) rfl ?_
  refine s_aload_n 0 C dM_mostWith_20 rfl ?_
  refine s_get (.ref p3) 0 4 C wfP inM flM_20 dM_mostWith_21 rfl rfl (by decide) rfl ?_
  refine s_iload_n 1 C dM_mostWith_24 rfl ?_
  refine s_iload_n 3 C dM_mostWith_25 rfl ?_
  refine s_iastN 3 [(y, .inr (5, [.int (nI n), .int (nI m), .ref p1, .ref p2, .ref p3, .ref p4])), (p1, .inl (cA, 14, .inl (aN fi))), (p2, .inl (cA, 14, .inl (aN se))), (p3, .inl (cA, 9, .inl (aN (nup (nup wa v d) v (wa v)))))] C dM_mostWith_26 rfl (by omega) (by decide) rfl ?_
  refine s_iload 4 C dM_mostWith_27 rfl ?_
  rw [nup_back]
  exact hret _ () _ _ dM_mostWith_29 rfl ⟨B, hB, rfl⟩
set_option maxHeartbeats 4000000 in
set_option maxRecDepth 100000 in
/-- slack -/
theorem kM_slack (l : Launch) (D : va_G) (cA : ClassId) (y p1 p2 p3 p4 : Nat) (n m : Nat) (fi se wa : Nat → Nat) (hG : GOK n m fi se wa) (p : Int32) : CtI (S := Unit) l yM_slack (.code yM_slack cM_slack 4 (some .int)) 6 0 0 D cA [.ref y, .int p] [(y, .inr (5, [.int (nI n), .int (nI m), .ref p1, .ref p2, .ref p3, .ref p4])), (p1, .inl (cA, 14, .inl (aN fi))), (p2, .inl (cA, 14, .inl (aN se))), (p3, .inl (cA, 9, .inl (aN wa)))] (fun r _ => slkQ fi se wa n m p r) (fun _ => [(y, .inr (5, [.int (nI n), .int (nI m), .ref p1, .ref p2, .ref p3, .ref p4])), (p1, .inl (cA, 14, .inl (aN fi))), (p2, .inl (cA, 14, .inl (aN se))), (p3, .inl (cA, 9, .inl (aN wa)))]) := by
  refine mkI [(0, .ref y), (1, .int p)] (by decide) rfl (Nat.le_of_ble_eq_true rfl) ?_
  intro E A Q hE C hA hret
  have hG0 := hG
  obtain ⟨g1, g2, g3, g4, g50, g6⟩ := hG
  have g5 : ∀ v, v < 9 → wa v ≤ 50 := fun v hv => by have := g50 v hv; omega
  have hf9 := hok_9 g2 g4
  refine s_aload_n 0 C dM_slack_0 rfl ?_
  refine s_iload_n 1 C dM_slack_1 rfl ?_
  refine s_callP (n := 1) [0] 0 [] C wfP (kM_isVertex E.2.1 D cA y p1 p2 p3 p4 n m p (by omega) (by omega)) gM_29 dM_slack_2 (by decide +kernel) rfl rfl rfl rfl (by decide) (by decide) rfl rfl (Nat.le_of_ble_eq_true rfl) (Nat.zero_le _) (Nat.zero_le _) (fun rhv hv => ?_)
  rcases hv with ⟨er, hin⟩ | ⟨er, hin⟩
  · refine s_top er ?_
    refine s_if_neN 10 C dM_slack_5 (by decide) (by decide) (fun c1 => ?_) (fun c1 => ?_)
    · obtain ⟨j, hj, rfl⟩ := hin
      have hwj := g50 j (by omega)
      refine s_aload_n 0 C dM_slack_10 rfl ?_
      refine s_callP (n := 0) [0, 1, 2, 3] 0 [] C wfP (kM_most E.2.1 D cA y p1 p2 p3 p4 n m fi se wa g1 g2 g3 g4 g5 ) gM_64 dM_slack_11 (by decide +kernel) rfl rfl rfl rfl (by decide) (by decide) rfl rfl (Nat.le_of_ble_eq_true rfl) (Nat.zero_le _) (Nat.zero_le _) (fun rm hm9 => ?_)
      obtain ⟨B, hB, eB⟩ := hm9
      have hzB := hsz_le m B
      refine s_top eB ?_
      refine s_istore_n [(0, .ref y), (1, .int (nI j)), (2, .int (nI (hsz m B)))] [1, 2, 0] C dM_slack_14 (by decide) rfl ?_
      refine s_iconst (nI 0) C dM_slack_15 (by decide) ?_
      refine s_istore_n [(0, .ref y), (1, .int (nI j)), (2, .int (nI (hsz m B))), (3, .int (nI 0))] [1, 2, 3, 0] C dM_slack_16 (by decide) rfl ?_
      have loop : ∀ k ls, ls + k = wa j → rea fi se m (nup wa j (wa j - ls)) (hsz m B) → ST E 4 Q 0 0 (wf E A D [(y, .inr (5, [.int (nI n), .int (nI m), .ref p1, .ref p2, .ref p3, .ref p4])), (p1, .inl (cA, 14, .inl (aN fi))), (p2, .inl (cA, 14, .inl (aN se))), (p3, .inl (cA, 9, .inl (aN wa)))]) [(0, .ref y), (1, .int (nI j)), (2, .int (nI (hsz m B))), (3, .int (nI ls))] [] 17 := by
        intro k
        induction k with
        | zero =>
          intro ls hi hre
          refine s_iload_n 3 C dM_slack_17 rfl ?_
          refine s_aload_n 0 C dM_slack_18 rfl ?_
          refine s_get (.ref p3) 0 4 C wfP inM flM_20 dM_slack_19 rfl rfl (by decide) rfl ?_
          refine s_iload_n 1 C dM_slack_22 rfl ?_
          refine s_ialdN 3 C wfP dM_slack_23 rfl (by omega) (by decide) ?_
          refine s_icmp_geN 52 C dM_slack_24 (by decide) (by omega) (by omega) (fun c2 => ?_) (fun c2 => ?_)
          · refine s_iload_n 3 C dM_slack_52 rfl ?_
            have e : wa j = ls := by omega
            refine hret _ () _ _ dM_slack_53 rfl (Or.inl ⟨j, hj, rfl, B, hB, 0, by omega, ?_, fun d9 h9 => absurd h9 (by omega), ?_⟩)
            · rw [show (0 : Nat) = wa j - ls by omega]; exact hre
            · rw [e]; rfl
          · exact absurd c2 (by omega)
        | succ k ih =>
          intro ls hi hre
          refine s_iload_n 3 C dM_slack_17 rfl ?_
          refine s_aload_n 0 C dM_slack_18 rfl ?_
          refine s_get (.ref p3) 0 4 C wfP inM flM_20 dM_slack_19 rfl rfl (by decide) rfl ?_
          refine s_iload_n 1 C dM_slack_22 rfl ?_
          refine s_ialdN 3 C wfP dM_slack_23 rfl (by omega) (by decide) ?_
          refine s_icmp_geN 52 C dM_slack_24 (by decide) (by omega) (by omega) (fun c2 => ?_) (fun c2 => ?_)
          · exact absurd c2 (by omega)
          · refine s_aload_n 0 C dM_slack_27 rfl ?_
            refine s_iload_n 1 C dM_slack_28 rfl ?_
            refine s_aload_n 0 C dM_slack_29 rfl ?_
            refine s_get (.ref p3) 0 4 C wfP inM flM_20 dM_slack_30 rfl rfl (by decide) rfl ?_
            refine s_iload_n 1 C dM_slack_33 rfl ?_
            refine s_ialdN 3 C wfP dM_slack_34 rfl (by omega) (by decide) ?_
            refine s_iload_n 3 C dM_slack_35 rfl ?_
            refine s_isubN C dM_slack_36 (by omega) ?_
            refine s_iconst (nI 1) C dM_slack_37 (by decide) ?_
            refine s_isubN C dM_slack_38 (by omega) ?_
            refine s_callI (n := 2) (wr := []) [0, 1, 2, 3] [] 0 [] C hA (kM_mostWith E.2.1 D cA y p1 p2 p3 p4 n m fi se wa hG0 j (wa j - ls - 1) (by omega) (by omega)) gM_67 dM_slack_39 (by decide +kernel) rfl rfl (by decide) (by decide) (by decide) rfl rfl rfl (by decide) (by decide) rfl rfl (Nat.le_of_ble_eq_true rfl) (Nat.zero_le _) (Nat.zero_le _) (fun rw u7 hq => ?_)
            refine s_sub (ws' := [(y, .inr (5, [.int (nI n), .int (nI m), .ref p1, .ref p2, .ref p3, .ref p4])), (p1, .inl (cA, 14, .inl (aN fi))), (p2, .inl (cA, 14, .inl (aN se))), (p3, .inl (cA, 9, .inl (aN wa)))]) [0, 1, 2, 3] rfl (by decide) ?_
            obtain ⟨B2, hB2, eB2⟩ := hq
            have hzB2 := hsz_le m B2
            refine s_top eB2 ?_
            have hle : hsz m B2 ≤ hsz m B := hB.2.1 B2 (hfa_up (fun v _ => by unfold nup; split <;> (try subst v) <;> omega) hB2.1)
            refine s_iload_n 2 C dM_slack_42 rfl ?_
            refine s_icmp_neN 52 C dM_slack_43 (by decide) (by omega) (by omega) (fun c3 => ?_) (fun c3 => ?_)
            · refine s_iload_n 3 C dM_slack_52 rfl ?_
              exact hret _ () _ _ dM_slack_53 rfl (Or.inl ⟨j, hj, rfl, B, hB, wa j - ls, by omega, hre, fun d9 h9 z => c3 (Nat.le_antisymm hle (by obtain ⟨K, k1, k2⟩ := rea_up (d' := wa j - ls - 1) (by omega) z; exact Nat.le_trans k2 (hB2.2.1 K k1))), by rw [show wa j - (wa j - ls) = ls by omega]⟩)
            · refine s_iinc (j := 3) (nI (ls + 1)) [(0, .ref y), (1, .int (nI j)), (2, .int (nI (hsz m B))), (3, .int (nI (ls + 1)))] [1, 2, 3, 0] C dM_slack_46 rfl (inc1 _) (by decide) rfl ?_
              refine s_goto (tgt := 17) C dM_slack_49 (by decide) ?_
              refine ih (ls + 1) (by omega) ⟨B2, ?_, by omega⟩
              rw [show wa j - (ls + 1) = wa j - ls - 1 by omega]
              exact hB2.1
      refine loop (wa j) 0 (by omega) ⟨B, fun v hv => ?_, Nat.le_refl _⟩
      by_cases z : v = j
      · subst z; rw [nup_s]; exact hB.1 v hv
      · rw [nup_n z]; exact hB.1 v hv
    · exact absurd c1 (by decide)
  · refine s_top er ?_
    refine s_if_neN 10 C dM_slack_5 (by decide) (by decide) (fun c1 => ?_) (fun c1 => ?_)
    · exact absurd rfl c1
    · refine s_iconst (-1) C dM_slack_8 (by decide) ?_
      exact hret _ () _ _ dM_slack_9 rfl (Or.inr ⟨hin, rfl⟩)
set_option maxHeartbeats 4000000 in
set_option maxRecDepth 100000 in
/-- gain -/
theorem kM_gain (l : Launch) (D : va_G) (cA : ClassId) (y p1 p2 p3 p4 : Nat) (n m : Nat) (fi se wa : Nat → Nat) (hG : GOK n m fi se wa) (p : Int32) : CtI (S := Unit) l yM_gain (.code yM_gain cM_gain 2 (some .int)) 6 0 0 D cA [.ref y, .int p] [(y, .inr (5, [.int (nI n), .int (nI m), .ref p1, .ref p2, .ref p3, .ref p4])), (p1, .inl (cA, 14, .inl (aN fi))), (p2, .inl (cA, 14, .inl (aN se))), (p3, .inl (cA, 9, .inl (aN wa)))] (fun r _ => gnQ fi se wa n m p r) (fun _ => [(y, .inr (5, [.int (nI n), .int (nI m), .ref p1, .ref p2, .ref p3, .ref p4])), (p1, .inl (cA, 14, .inl (aN fi))), (p2, .inl (cA, 14, .inl (aN se))), (p3, .inl (cA, 9, .inl (aN wa)))]) := by
  refine mkI [(0, .ref y), (1, .int p)] (by decide) rfl (Nat.le_of_ble_eq_true rfl) ?_
  intro E A Q hE C hA hret
  have hG0 := hG
  obtain ⟨g1, g2, g3, g4, g50, g6⟩ := hG
  have g5 : ∀ v, v < 9 → wa v ≤ 50 := fun v hv => by have := g50 v hv; omega
  have hf9 := hok_9 g2 g4
  refine s_aload_n 0 C dM_gain_0 rfl ?_
  refine s_iload_n 1 C dM_gain_1 rfl ?_
  refine s_callP (n := 1) [0] 0 [] C wfP (kM_isVertex E.2.1 D cA y p1 p2 p3 p4 n m p (by omega) (by omega)) gM_29 dM_gain_2 (by decide +kernel) rfl rfl rfl rfl (by decide) (by decide) rfl rfl (Nat.le_of_ble_eq_true rfl) (Nat.zero_le _) (Nat.zero_le _) (fun rhv hv => ?_)
  rcases hv with ⟨er, hin⟩ | ⟨er, hin⟩
  · refine s_top er ?_
    refine s_if_eqN 29 C dM_gain_5 (by decide) (by decide) (fun c1 => ?_) (fun c1 => ?_)
    · exact absurd c1 (by decide)
    · obtain ⟨j, hj, rfl⟩ := hin
      have hwj := g50 j (by omega)
      refine s_aload_n 0 C dM_gain_8 rfl ?_
      refine s_iload_n 1 C dM_gain_9 rfl ?_
      refine s_aload_n 0 C dM_gain_10 rfl ?_
      refine s_get (.ref p3) 0 4 C wfP inM flM_20 dM_gain_11 rfl rfl (by decide) rfl ?_
      refine s_iload_n 1 C dM_gain_14 rfl ?_
      refine s_ialdN 3 C wfP dM_gain_15 rfl (by omega) (by decide) ?_
      refine s_iconst (nI 1) C dM_gain_16 (by decide) ?_
      refine s_iaddN C dM_gain_17 ?_
      refine s_callI (n := 2) (wr := []) [0, 1, 2, 3] [] 0 [] C hA (kM_mostWith E.2.1 D cA y p1 p2 p3 p4 n m fi se wa hG0 j (wa j + 1) (by omega) (by omega)) gM_67 dM_gain_18 (by decide +kernel) rfl rfl (by decide) (by decide) (by decide) rfl rfl rfl (by decide) (by decide) rfl rfl (Nat.le_of_ble_eq_true rfl) (Nat.zero_le _) (Nat.zero_le _) (fun rw u7 hq => ?_)
      refine s_sub (ws' := [(y, .inr (5, [.int (nI n), .int (nI m), .ref p1, .ref p2, .ref p3, .ref p4])), (p1, .inl (cA, 14, .inl (aN fi))), (p2, .inl (cA, 14, .inl (aN se))), (p3, .inl (cA, 9, .inl (aN wa)))]) [0, 1, 2, 3] rfl (by decide) ?_
      obtain ⟨B2, hB2, eB2⟩ := hq
      have hzB2 := hsz_le m B2
      refine s_top eB2 ?_
      refine s_aload_n 0 C dM_gain_21 rfl ?_
      refine s_callP (n := 0) [0, 1, 2, 3] 0 [.int (nI (hsz m B2))] C wfP (kM_most E.2.1 D cA y p1 p2 p3 p4 n m fi se wa g1 g2 g3 g4 g5 ) gM_64 dM_gain_22 (by decide +kernel) rfl rfl rfl rfl (by decide) (by decide) rfl rfl (Nat.le_of_ble_eq_true rfl) (Nat.zero_le _) (Nat.zero_le _) (fun rm hm9 => ?_)
      obtain ⟨B, hB, eB⟩ := hm9
      refine s_top eB ?_
      have hle : hsz m B ≤ hsz m B2 := hB2.2.1 B (hfa_up (fun v _ => by unfold nup; split <;> (try subst v) <;> omega) hB.1)
      refine s_isubN C dM_gain_25 (by omega) ?_
      refine s_goto (tgt := 30) C dM_gain_26 (by decide) ?_
      exact hret _ () _ _ dM_gain_30 rfl (Or.inl ⟨j, hj, rfl, B, B2, hB, hB2, rfl⟩)
  · refine s_top er ?_
    refine s_if_eqN 29 C dM_gain_5 (by decide) (by decide) (fun c1 => ?_) (fun c1 => ?_)
    · refine s_iconst (-1) C dM_gain_29 (by decide) ?_
      exact hret _ () _ _ dM_gain_30 rfl (Or.inr ⟨hin, rfl⟩)
    · exact absurd rfl c1
set_option maxHeartbeats 4000000 in
set_option maxRecDepth 100000 in
/-- the parts -/
theorem kM_partition (l : Launch) (D : va_G) (cA : ClassId) (y p1 p2 p3 p4 : Nat) (n m : Nat) (fi se : Nat → Nat) (PA : Nat → Int32) (g2 : n ≤ 9) (g3 : m ≤ 14) (g4 : hok fi se n m) (u w : Nat) (hu : u < 2 ^ n) (hw : w < 2 ^ n) : CtI (S := Nat → Int32) l yM_partition (.code yM_partition cM_partition 7 (some .int)) 1 0 0 D cA [.ref y, .int (nI u), .int (nI w)] [(y, .inr (5, [.int (nI n), .int (nI m), .ref p1, .ref p2, .ref p3, .ref p4])), (p1, .inl (cA, 14, .inl (aN fi))), (p2, .inl (cA, 14, .inl (aN se))), (p4, .inl (cA, 9, .inl PA))] (fun r T => ∃ lb c, r = nI c ∧ c < 100 ∧ paP fi se n m u w T lb ∧ vld fi se n m u w lb ∧ (c = 0 → ∀ v, v < n → T v ≠ nI v)) (fun T => [(y, .inr (5, [.int (nI n), .int (nI m), .ref p1, .ref p2, .ref p3, .ref p4])), (p1, .inl (cA, 14, .inl (aN fi))), (p2, .inl (cA, 14, .inl (aN se))), (p4, .inl (cA, 9, .inl T))]) := by
  refine mkI [(0, .ref y), (1, .int (nI u)), (2, .int (nI w))] (by decide) rfl (Nat.le_of_ble_eq_true rfl) ?_
  intro E A Q hE C hA hret
  have h2n : 2 ^ n ≤ 512 := p2_le (k := 9) g2
  have hor : u ||| w < 2 ^ n := Nat.or_lt_two_pow hu hw
  obtain ⟨fn, hF⟩ := fin_ex fi se n m u w
  refine s_iconst (nI 0) C dM_partition_0 (by decide) ?_
  refine s_istore_n [(0, .ref y), (1, .int (nI u)), (2, .int (nI w)), (3, .int (nI 0))] [1, 2, 3, 0] C dM_partition_1 (by decide) rfl ?_
  have loop : ∀ k i (T : Nat → Int32), i + k = n → (∀ v, v < i → T v = paF u w (fun v => v) v) → ST E 7 Q 0 0 (wf E A D [(y, .inr (5, [.int (nI n), .int (nI m), .ref p1, .ref p2, .ref p3, .ref p4])), (p1, .inl (cA, 14, .inl (aN fi))), (p2, .inl (cA, 14, .inl (aN se))), (p4, .inl (cA, 9, .inl T))]) [(0, .ref y), (1, .int (nI u)), (2, .int (nI w)), (3, .int (nI i))] [] 2 := by
    intro k
    induction k with
    | zero =>
      intro i T hi hT
      refine s_iload_n 3 C dM_partition_2 rfl ?_
      refine s_aload_n 0 C dM_partition_3 rfl ?_
      refine s_get (.int (nI n)) 0 0 C wfP inM flM_7 dM_partition_4 rfl rfl (by decide) rfl ?_
      refine s_icmp_geN 37 C dM_partition_7 (by decide) (by omega) (by omega) (fun c1 => ?_) (fun c1 => ?_)
      · have e9 : n = i := by omega
        subst e9
        refine s_iconst (nI 0) C dM_partition_37 (by decide) ?_
        refine s_istore_n [(0, .ref y), (1, .int (nI u)), (2, .int (nI w)), (3, .int (nI 0))] [1, 2, 3, 0] C dM_partition_38 (by decide) rfl ?_
        have loop2 : ∀ k2 tn (T2 : Nat → Int32) (lb : Nat → Nat), tn + k2 = n → paP fi se n m u w T2 lb → nfc n u w fn lb ≤ n - tn → ST E 7 Q 0 0 (wf E A D [(y, .inr (5, [.int (nI n), .int (nI m), .ref p1, .ref p2, .ref p3, .ref p4])), (p1, .inl (cA, 14, .inl (aN fi))), (p2, .inl (cA, 14, .inl (aN se))), (p4, .inl (cA, 9, .inl T2))]) [(0, .ref y), (1, .int (nI u)), (2, .int (nI w)), (3, .int (nI tn))] [] 39 := by
          intro k2
          induction k2 with
          | zero =>
            intro tn T2 lb hi hP hNF
            refine s_iload_n 3 C dM_partition_39 rfl ?_
            refine s_aload_n 0 C dM_partition_40 rfl ?_
            refine s_get (.int (nI n)) 0 0 C wfP inM flM_7 dM_partition_41 rfl rfl (by decide) rfl ?_
            refine s_icmp_geN 161 C dM_partition_44 (by decide) (by omega) (by omega) (fun c2 => ?_) (fun c2 => ?_)
            · have e9 : n = tn := by omega
              subst e9
              refine s_iconst (nI 0) C dM_partition_161 (by decide) ?_
              refine s_istore_n [(0, .ref y), (1, .int (nI u)), (2, .int (nI w)), (3, .int (nI 0))] [1, 2, 3, 0] C dM_partition_162 (by decide) rfl ?_
              refine s_iconst (nI 0) C dM_partition_163 (by decide) ?_
              refine s_istore [(0, .ref y), (1, .int (nI u)), (2, .int (nI w)), (3, .int (nI 0)), (4, .int (nI 0))] [1, 2, 3, 4, 0] C dM_partition_164 (by decide) rfl ?_
              have loop3 : ∀ k3 v (c : Nat), v + k3 = n → c ≤ v → (c = 0 → ∀ z, z < v → T2 z ≠ nI z) → ST E 7 Q 0 0 (wf E A D [(y, .inr (5, [.int (nI n), .int (nI m), .ref p1, .ref p2, .ref p3, .ref p4])), (p1, .inl (cA, 14, .inl (aN fi))), (p2, .inl (cA, 14, .inl (aN se))), (p4, .inl (cA, 9, .inl T2))]) [(0, .ref y), (1, .int (nI u)), (2, .int (nI w)), (3, .int (nI c)), (4, .int (nI v))] [] 166 := by
                intro k3
                induction k3 with
                | zero =>
                  intro v c hi hc1 hc2
                  refine s_iload 4 C dM_partition_166 rfl ?_
                  refine s_aload_n 0 C dM_partition_168 rfl ?_
                  refine s_get (.int (nI n)) 0 0 C wfP inM flM_7 dM_partition_169 rfl rfl (by decide) rfl ?_
                  refine s_icmp_geN 201 C dM_partition_172 (by decide) (by omega) (by omega) (fun c3 => ?_) (fun c3 => ?_)
                  · refine s_iload_n 3 C dM_partition_201 rfl ?_
                    have e9 : n = v := by omega
                    subst e9
                    exact hret _ T2 _ _ dM_partition_202 rfl ⟨lb, c, rfl, by omega, hP, lb_done hF (by omega), hc2⟩
                  · exact absurd c3 (by omega)
                | succ k3 ih3 =>
                  intro v c hi hc1 hc2
                  refine s_iload 4 C dM_partition_166 rfl ?_
                  refine s_aload_n 0 C dM_partition_168 rfl ?_
                  refine s_get (.int (nI n)) 0 0 C wfP inM flM_7 dM_partition_169 rfl rfl (by decide) rfl ?_
                  refine s_icmp_geN 201 C dM_partition_172 (by decide) (by omega) (by omega) (fun c3 => ?_) (fun c3 => ?_)
                  · exact absurd c3 (by omega)
                  · refine s_aload_n 0 C dM_partition_175 rfl ?_
                    refine s_get (.ref p4) 0 5 C wfP inM flM_23 dM_partition_176 rfl rfl (by decide) rfl ?_
                    refine s_iload 4 C dM_partition_179 rfl ?_
                    refine s_iald 3 C wfP dM_partition_181 rfl (by omega) (by decide) ?_
                    refine s_iload 4 C dM_partition_182 rfl ?_
                    refine s_icmp_ne 193 C dM_partition_184 (by decide) (fun c4 => ?_) (fun c4 => ?_)
                    · refine s_iload_n 3 C dM_partition_193 rfl ?_
                      refine s_istore_n [(0, .ref y), (1, .int (nI u)), (2, .int (nI w)), (3, .int (nI c)), (4, .int (nI v))] [1, 2, 3, 0, 4] C dM_partition_194 (by decide) rfl ?_
                      refine s_iinc (j := 4) (nI (v + 1)) [(0, .ref y), (1, .int (nI u)), (2, .int (nI w)), (3, .int (nI c)), (4, .int (nI (v + 1)))] [1, 2, 3, 4, 0] C dM_partition_195 rfl (inc1 _) (by decide) rfl ?_
                      refine s_goto (tgt := 166) C dM_partition_198 (by decide) ?_
                      refine ih3 (v + 1) c (by omega) (by omega) (fun h0 z hz => ?_)
                      by_cases q : z = v
                      · subst q; exact c4
                      · exact hc2 h0 z (by omega)
                    · refine s_iload_n 3 C dM_partition_187 rfl ?_
                      refine s_iconst (nI 1) C dM_partition_188 (by decide) ?_
                      refine s_iaddN C dM_partition_189 ?_
                      refine s_goto (tgt := 194) C dM_partition_190 (by decide) ?_
                      refine s_istore_n [(0, .ref y), (1, .int (nI u)), (2, .int (nI w)), (3, .int (nI (c + 1))), (4, .int (nI v))] [1, 2, 3, 0, 4] C dM_partition_194 (by decide) rfl ?_
                      refine s_iinc (j := 4) (nI (v + 1)) [(0, .ref y), (1, .int (nI u)), (2, .int (nI w)), (3, .int (nI (c + 1))), (4, .int (nI (v + 1)))] [1, 2, 3, 4, 0] C dM_partition_195 rfl (inc1 _) (by decide) rfl ?_
                      refine s_goto (tgt := 166) C dM_partition_198 (by decide) ?_
                      exact ih3 (v + 1) (c + 1) (by omega) (by omega) (fun h0 => absurd h0 (by omega))
              exact loop3 n 0 0 (by omega) (by omega) (fun _ z hz => absurd hz (by omega))
            · exact absurd c2 (by omega)
          | succ k2 ih2 =>
            intro tn T2 lb hi hP hNF
            refine s_iload_n 3 C dM_partition_39 rfl ?_
            refine s_aload_n 0 C dM_partition_40 rfl ?_
            refine s_get (.int (nI n)) 0 0 C wfP inM flM_7 dM_partition_41 rfl rfl (by decide) rfl ?_
            refine s_icmp_geN 161 C dM_partition_44 (by decide) (by omega) (by omega) (fun c2 => ?_) (fun c2 => ?_)
            · exact absurd c2 (by omega)
            · refine s_iconst (nI 0) C dM_partition_47 (by decide) ?_
              refine s_istore [(0, .ref y), (1, .int (nI u)), (2, .int (nI w)), (3, .int (nI tn)), (4, .int (nI 0))] [1, 2, 3, 4, 0] C dM_partition_48 (by decide) rfl ?_
              have loop4 : ∀ k4 e (T4 : Nat → Int32) (lb4 : Nat → Nat), e + k4 = m → (∀ v, v < n → T4 v = paF u w lb4 v) → trn fi se n m u w fn lb lb4 e → ST E 7 Q 0 0 (wf E A D [(y, .inr (5, [.int (nI n), .int (nI m), .ref p1, .ref p2, .ref p3, .ref p4])), (p1, .inl (cA, 14, .inl (aN fi))), (p2, .inl (cA, 14, .inl (aN se))), (p4, .inl (cA, 9, .inl T4))]) [(0, .ref y), (1, .int (nI u)), (2, .int (nI w)), (3, .int (nI tn)), (4, .int (nI e))] [] 50 := by
                intro k4
                induction k4 with
                | zero =>
                  intro e T4 lb4 hi hP4 hT4
                  refine s_iload 4 C dM_partition_50 rfl ?_
                  refine s_aload_n 0 C dM_partition_52 rfl ?_
                  refine s_get (.int (nI m)) 0 1 C wfP inM flM_26 dM_partition_53 rfl rfl (by decide) rfl ?_
                  refine s_icmp_geN 155 C dM_partition_56 (by decide) (by omega) (by omega) (fun c4 => ?_) (fun c4 => ?_)
                  · refine s_iinc (j := 3) (nI (tn + 1)) [(0, .ref y), (1, .int (nI u)), (2, .int (nI w)), (3, .int (nI (tn + 1))), (4, .int (nI e))] [1, 2, 3, 0, 4] C dM_partition_155 rfl (inc1 _) (by decide) rfl ?_
                    refine s_goto (tgt := 39) C dM_partition_158 (by decide) ?_
                    refine s_lv (lv' := [(0, .ref y), (1, .int (nI u)), (2, .int (nI w)), (3, .int (nI (tn + 1)))]) [0, 1, 2, 3] rfl ?_
                    have e9 : m = e := by omega
                    subst e9
                    exact ih2 (tn + 1) T4 lb4 (by omega) ⟨hP4, hT4.1⟩ (trn_end (k := n - (tn + 1)) g4 hF hP.2 hT4 (by omega))
                  · exact absurd c4 (by omega)
                | succ k4 ih4 =>
                  intro e T4 lb4 hi hP4 hT4
                  refine s_iload 4 C dM_partition_50 rfl ?_
                  refine s_aload_n 0 C dM_partition_52 rfl ?_
                  refine s_get (.int (nI m)) 0 1 C wfP inM flM_26 dM_partition_53 rfl rfl (by decide) rfl ?_
                  refine s_icmp_geN 155 C dM_partition_56 (by decide) (by omega) (by omega) (fun c4 => ?_) (fun c4 => ?_)
                  · exact absurd c4 (by omega)
                  · obtain ⟨f1, f2, f3⟩ := g4 e (by omega)
                    have hta := hP4 _ f1
                    have htb := hP4 _ f2
                    by_cases ra : rsv n u w (fi e)
                    · rw [pa_yes ra] at hta
                      have hla := (hT4.1 _ ra).1.1
                      by_cases rb : rsv n u w (se e)
                      · rw [pa_yes rb] at htb
                        have hlb := (hT4.1 _ rb).1.1
                        refine s_aload_n 0 C dM_partition_59 rfl ?_
                        refine s_get (.ref p4) 0 5 C wfP inM flM_23 dM_partition_60 rfl rfl (by decide) rfl ?_
                        refine s_aload_n 0 C dM_partition_63 rfl ?_
                        refine s_get (.ref p1) 0 2 C wfP inM flM_13 dM_partition_64 rfl rfl (by decide) rfl ?_
                        refine s_iload 4 C dM_partition_67 rfl ?_
                        refine s_ialdN 1 C wfP dM_partition_69 rfl (by omega) (by decide) ?_
                        refine s_iald 3 C wfP dM_partition_70 rfl (by omega) (by decide) ?_
                        refine s_top hta ?_
                        refine s_istore [(0, .ref y), (1, .int (nI u)), (2, .int (nI w)), (3, .int (nI tn)), (4, .int (nI e)), (5, .int (nI (lb4 (fi e))))] [1, 2, 3, 4, 5, 0] C dM_partition_71 (by decide) rfl ?_
                        refine s_aload_n 0 C dM_partition_73 rfl ?_
                        refine s_get (.ref p4) 0 5 C wfP inM flM_23 dM_partition_74 rfl rfl (by decide) rfl ?_
                        refine s_aload_n 0 C dM_partition_77 rfl ?_
                        refine s_get (.ref p2) 0 3 C wfP inM flM_17 dM_partition_78 rfl rfl (by decide) rfl ?_
                        refine s_iload 4 C dM_partition_81 rfl ?_
                        refine s_ialdN 2 C wfP dM_partition_83 rfl (by omega) (by decide) ?_
                        refine s_iald 3 C wfP dM_partition_84 rfl (by omega) (by decide) ?_
                        refine s_top htb ?_
                        refine s_istore [(0, .ref y), (1, .int (nI u)), (2, .int (nI w)), (3, .int (nI tn)), (4, .int (nI e)), (5, .int (nI (lb4 (fi e)))), (6, .int (nI (lb4 (se e))))] [1, 2, 3, 4, 5, 6, 0] C dM_partition_85 (by decide) rfl ?_
                        refine s_iload 5 C dM_partition_87 rfl ?_
                        refine s_if_ltN 149 C dM_partition_89 (by decide) (by omega) ?_
                        refine s_iload 6 C dM_partition_92 rfl ?_
                        refine s_if_ltN 149 C dM_partition_94 (by decide) (by omega) ?_
                        refine s_aload_n 0 C dM_partition_97 rfl ?_
                        refine s_get (.ref p4) 0 5 C wfP inM flM_23 dM_partition_98 rfl rfl (by decide) rfl ?_
                        refine s_aload_n 0 C dM_partition_101 rfl ?_
                        refine s_get (.ref p1) 0 2 C wfP inM flM_13 dM_partition_102 rfl rfl (by decide) rfl ?_
                        refine s_iload 4 C dM_partition_105 rfl ?_
                        refine s_ialdN 1 C wfP dM_partition_107 rfl (by omega) (by decide) ?_
                        refine s_iload 5 C dM_partition_108 rfl ?_
                        refine s_iload 6 C dM_partition_110 rfl ?_
                        refine s_icmp_geN 120 C dM_partition_112 (by decide) (by omega) (by omega) (fun c7 => ?_) (fun c7 => ?_)
                        · refine s_iload 6 C dM_partition_120 rfl ?_
                          refine s_iast 3 [(y, .inr (5, [.int (nI n), .int (nI m), .ref p1, .ref p2, .ref p3, .ref p4])), (p1, .inl (cA, 14, .inl (aN fi))), (p2, .inl (cA, 14, .inl (aN se))), (p4, .inl (cA, 9, .inl (upd T4 (fi e) (nI (lb4 (se e))))))] C dM_partition_122 rfl (by omega) (by decide) rfl ?_
                          refine s_aload_n 0 C dM_partition_123 rfl ?_
                          refine s_get (.ref p4) 0 5 C wfP inM flM_23 dM_partition_124 rfl rfl (by decide) rfl ?_
                          refine s_aload_n 0 C dM_partition_127 rfl ?_
                          refine s_get (.ref p2) 0 3 C wfP inM flM_17 dM_partition_128 rfl rfl (by decide) rfl ?_
                          refine s_iload 4 C dM_partition_131 rfl ?_
                          refine s_ialdN 2 C wfP dM_partition_133 rfl (by omega) (by decide) ?_
                          refine s_iload 5 C dM_partition_134 rfl ?_
                          refine s_iload 6 C dM_partition_136 rfl ?_
                          refine s_icmp_geN 146 C dM_partition_138 (by decide) (by omega) (by omega) (fun c8 => ?_) (fun c8 => ?_)
                          · refine s_iload 6 C dM_partition_146 rfl ?_
                            refine s_iast 3 [(y, .inr (5, [.int (nI n), .int (nI m), .ref p1, .ref p2, .ref p3, .ref p4])), (p1, .inl (cA, 14, .inl (aN fi))), (p2, .inl (cA, 14, .inl (aN se))), (p4, .inl (cA, 9, .inl (upd (upd T4 (fi e) (nI (lb4 (se e)))) (se e) (nI (lb4 (se e))))))] C dM_partition_148 rfl (by omega) (by decide) rfl ?_
                            refine s_iinc (j := 4) (nI (e + 1)) [(0, .ref y), (1, .int (nI u)), (2, .int (nI w)), (3, .int (nI tn)), (4, .int (nI (e + 1))), (5, .int (nI (lb4 (fi e)))), (6, .int (nI (lb4 (se e))))] [1, 2, 3, 4, 0, 5, 6] C dM_partition_149 rfl (inc1 _) (by decide) rfl ?_
                            refine s_goto (tgt := 50) C dM_partition_152 (by decide) ?_
                            refine s_lv (lv' := [(0, .ref y), (1, .int (nI u)), (2, .int (nI w)), (3, .int (nI tn)), (4, .int (nI (e + 1)))]) [0, 1, 2, 3, 4] rfl ?_
                            have emn : lb4 (se e) = min (lb4 (fi e)) (lb4 (se e)) := by omega
                            refine ih4 (e + 1) _ (stp fi se lb4 e) (by omega) (fun v hv => ?_) (trn_on hF (by omega) ra rb hT4)
                            unfold upd
                            by_cases z2 : v = se e
                            · rw [if_pos z2, z2, pa_yes rb, stp_v, if_pos (Or.inl rfl), ← emn]
                            · rw [if_neg z2]
                              by_cases z1 : v = fi e
                              · rw [if_pos z1, z1, pa_yes ra, stp_v, if_pos (Or.inr rfl), ← emn]
                              · rw [if_neg z1, hP4 v hv]
                                unfold paF
                                rw [stp_v, if_neg (c := v = se e ∨ v = fi e) (by omega)]
                          · exact absurd c8 (by omega)
                        · refine s_iload 5 C dM_partition_115 rfl ?_
                          refine s_goto (tgt := 122) C dM_partition_117 (by decide) ?_
                          refine s_iast 3 [(y, .inr (5, [.int (nI n), .int (nI m), .ref p1, .ref p2, .ref p3, .ref p4])), (p1, .inl (cA, 14, .inl (aN fi))), (p2, .inl (cA, 14, .inl (aN se))), (p4, .inl (cA, 9, .inl (upd T4 (fi e) (nI (lb4 (fi e))))))] C dM_partition_122 rfl (by omega) (by decide) rfl ?_
                          refine s_aload_n 0 C dM_partition_123 rfl ?_
                          refine s_get (.ref p4) 0 5 C wfP inM flM_23 dM_partition_124 rfl rfl (by decide) rfl ?_
                          refine s_aload_n 0 C dM_partition_127 rfl ?_
                          refine s_get (.ref p2) 0 3 C wfP inM flM_17 dM_partition_128 rfl rfl (by decide) rfl ?_
                          refine s_iload 4 C dM_partition_131 rfl ?_
                          refine s_ialdN 2 C wfP dM_partition_133 rfl (by omega) (by decide) ?_
                          refine s_iload 5 C dM_partition_134 rfl ?_
                          refine s_iload 6 C dM_partition_136 rfl ?_
                          refine s_icmp_geN 146 C dM_partition_138 (by decide) (by omega) (by omega) (fun c8 => ?_) (fun c8 => ?_)
                          · exact absurd c8 (by omega)
                          · refine s_iload 5 C dM_partition_141 rfl ?_
                            refine s_goto (tgt := 148) C dM_partition_143 (by decide) ?_
                            refine s_iast 3 [(y, .inr (5, [.int (nI n), .int (nI m), .ref p1, .ref p2, .ref p3, .ref p4])), (p1, .inl (cA, 14, .inl (aN fi))), (p2, .inl (cA, 14, .inl (aN se))), (p4, .inl (cA, 9, .inl (upd (upd T4 (fi e) (nI (lb4 (fi e)))) (se e) (nI (lb4 (fi e))))))] C dM_partition_148 rfl (by omega) (by decide) rfl ?_
                            refine s_iinc (j := 4) (nI (e + 1)) [(0, .ref y), (1, .int (nI u)), (2, .int (nI w)), (3, .int (nI tn)), (4, .int (nI (e + 1))), (5, .int (nI (lb4 (fi e)))), (6, .int (nI (lb4 (se e))))] [1, 2, 3, 4, 0, 5, 6] C dM_partition_149 rfl (inc1 _) (by decide) rfl ?_
                            refine s_goto (tgt := 50) C dM_partition_152 (by decide) ?_
                            refine s_lv (lv' := [(0, .ref y), (1, .int (nI u)), (2, .int (nI w)), (3, .int (nI tn)), (4, .int (nI (e + 1)))]) [0, 1, 2, 3, 4] rfl ?_
                            have emn : lb4 (fi e) = min (lb4 (fi e)) (lb4 (se e)) := by omega
                            refine ih4 (e + 1) _ (stp fi se lb4 e) (by omega) (fun v hv => ?_) (trn_on hF (by omega) ra rb hT4)
                            unfold upd
                            by_cases z2 : v = se e
                            · rw [if_pos z2, z2, pa_yes rb, stp_v, if_pos (Or.inl rfl), ← emn]
                            · rw [if_neg z2]
                              by_cases z1 : v = fi e
                              · rw [if_pos z1, z1, pa_yes ra, stp_v, if_pos (Or.inr rfl), ← emn]
                              · rw [if_neg z1, hP4 v hv]
                                unfold paF
                                rw [stp_v, if_neg (c := v = se e ∨ v = fi e) (by omega)]
                      · rw [pa_no f2 rb] at htb
                        refine s_aload_n 0 C dM_partition_59 rfl ?_
                        refine s_get (.ref p4) 0 5 C wfP inM flM_23 dM_partition_60 rfl rfl (by decide) rfl ?_
                        refine s_aload_n 0 C dM_partition_63 rfl ?_
                        refine s_get (.ref p1) 0 2 C wfP inM flM_13 dM_partition_64 rfl rfl (by decide) rfl ?_
                        refine s_iload 4 C dM_partition_67 rfl ?_
                        refine s_ialdN 1 C wfP dM_partition_69 rfl (by omega) (by decide) ?_
                        refine s_iald 3 C wfP dM_partition_70 rfl (by omega) (by decide) ?_
                        refine s_istore [(0, .ref y), (1, .int (nI u)), (2, .int (nI w)), (3, .int (nI tn)), (4, .int (nI e)), (5, .int (T4 (fi e)))] [1, 2, 3, 4, 5, 0] C dM_partition_71 (by decide) rfl ?_
                        refine s_aload_n 0 C dM_partition_73 rfl ?_
                        refine s_get (.ref p4) 0 5 C wfP inM flM_23 dM_partition_74 rfl rfl (by decide) rfl ?_
                        refine s_aload_n 0 C dM_partition_77 rfl ?_
                        refine s_get (.ref p2) 0 3 C wfP inM flM_17 dM_partition_78 rfl rfl (by decide) rfl ?_
                        refine s_iload 4 C dM_partition_81 rfl ?_
                        refine s_ialdN 2 C wfP dM_partition_83 rfl (by omega) (by decide) ?_
                        refine s_iald 3 C wfP dM_partition_84 rfl (by omega) (by decide) ?_
                        refine s_istore [(0, .ref y), (1, .int (nI u)), (2, .int (nI w)), (3, .int (nI tn)), (4, .int (nI e)), (5, .int (T4 (fi e))), (6, .int (T4 (se e)))] [1, 2, 3, 4, 5, 6, 0] C dM_partition_85 (by decide) rfl ?_
                        refine s_iload 5 C dM_partition_87 rfl ?_
                        refine s_if_lt 149 C dM_partition_89 (by decide) (fun c5 => ?_) (fun c5 => ?_)
                        · exact absurd (by rw [hta] at c5; exact c5) (nI_pos (by omega))
                        · refine s_iload 6 C dM_partition_92 rfl ?_
                          refine s_if_lt 149 C dM_partition_94 (by decide) (fun c6 => ?_) (fun c6 => ?_)
                          · refine s_iinc (j := 4) (nI (e + 1)) [(0, .ref y), (1, .int (nI u)), (2, .int (nI w)), (3, .int (nI tn)), (4, .int (nI (e + 1))), (5, .int (T4 (fi e))), (6, .int (T4 (se e)))] [1, 2, 3, 4, 0, 5, 6] C dM_partition_149 rfl (inc1 _) (by decide) rfl ?_
                            refine s_goto (tgt := 50) C dM_partition_152 (by decide) ?_
                            refine s_lv (lv' := [(0, .ref y), (1, .int (nI u)), (2, .int (nI w)), (3, .int (nI tn)), (4, .int (nI (e + 1)))]) [0, 1, 2, 3, 4] rfl ?_
                            exact ih4 (e + 1) T4 lb4 (by omega) hP4 (trn_no (fun z => rb z.2) hT4)
                          · exact absurd (by rw [htb]; decide) c6
                    · rw [pa_no f1 ra] at hta
                      refine s_aload_n 0 C dM_partition_59 rfl ?_
                      refine s_get (.ref p4) 0 5 C wfP inM flM_23 dM_partition_60 rfl rfl (by decide) rfl ?_
                      refine s_aload_n 0 C dM_partition_63 rfl ?_
                      refine s_get (.ref p1) 0 2 C wfP inM flM_13 dM_partition_64 rfl rfl (by decide) rfl ?_
                      refine s_iload 4 C dM_partition_67 rfl ?_
                      refine s_ialdN 1 C wfP dM_partition_69 rfl (by omega) (by decide) ?_
                      refine s_iald 3 C wfP dM_partition_70 rfl (by omega) (by decide) ?_
                      refine s_istore [(0, .ref y), (1, .int (nI u)), (2, .int (nI w)), (3, .int (nI tn)), (4, .int (nI e)), (5, .int (T4 (fi e)))] [1, 2, 3, 4, 5, 0] C dM_partition_71 (by decide) rfl ?_
                      refine s_aload_n 0 C dM_partition_73 rfl ?_
                      refine s_get (.ref p4) 0 5 C wfP inM flM_23 dM_partition_74 rfl rfl (by decide) rfl ?_
                      refine s_aload_n 0 C dM_partition_77 rfl ?_
                      refine s_get (.ref p2) 0 3 C wfP inM flM_17 dM_partition_78 rfl rfl (by decide) rfl ?_
                      refine s_iload 4 C dM_partition_81 rfl ?_
                      refine s_ialdN 2 C wfP dM_partition_83 rfl (by omega) (by decide) ?_
                      refine s_iald 3 C wfP dM_partition_84 rfl (by omega) (by decide) ?_
                      refine s_istore [(0, .ref y), (1, .int (nI u)), (2, .int (nI w)), (3, .int (nI tn)), (4, .int (nI e)), (5, .int (T4 (fi e))), (6, .int (T4 (se e)))] [1, 2, 3, 4, 5, 6, 0] C dM_partition_85 (by decide) rfl ?_
                      refine s_iload 5 C dM_partition_87 rfl ?_
                      refine s_if_lt 149 C dM_partition_89 (by decide) (fun c5 => ?_) (fun c5 => ?_)
                      · refine s_iinc (j := 4) (nI (e + 1)) [(0, .ref y), (1, .int (nI u)), (2, .int (nI w)), (3, .int (nI tn)), (4, .int (nI (e + 1))), (5, .int (T4 (fi e))), (6, .int (T4 (se e)))] [1, 2, 3, 4, 0, 5, 6] C dM_partition_149 rfl (inc1 _) (by decide) rfl ?_
                        refine s_goto (tgt := 50) C dM_partition_152 (by decide) ?_
                        refine s_lv (lv' := [(0, .ref y), (1, .int (nI u)), (2, .int (nI w)), (3, .int (nI tn)), (4, .int (nI (e + 1)))]) [0, 1, 2, 3, 4] rfl ?_
                        exact ih4 (e + 1) T4 lb4 (by omega) hP4 (trn_no (fun z => ra z.1) hT4)
                      · exact absurd (by rw [hta]; decide) c5
              exact loop4 m 0 T2 lb (by omega) hP.1 (trn_0 hP.2)
        exact loop2 n 0 T (fun v => v) (by omega) ⟨hT, fun v hv => ⟨hv, Nat.le_refl _, fun _ _ => rfl⟩⟩ (nfc_le n u w fn _)
      · exact absurd c1 (by omega)
    | succ k ih =>
      intro i T hi hT
      refine s_iload_n 3 C dM_partition_2 rfl ?_
      refine s_aload_n 0 C dM_partition_3 rfl ?_
      refine s_get (.int (nI n)) 0 0 C wfP inM flM_7 dM_partition_4 rfl rfl (by decide) rfl ?_
      refine s_icmp_geN 37 C dM_partition_7 (by decide) (by omega) (by omega) (fun c1 => ?_) (fun c1 => ?_)
      · exact absurd c1 (by omega)
      · refine s_aload_n 0 C dM_partition_10 rfl ?_
        refine s_get (.ref p4) 0 5 C wfP inM flM_23 dM_partition_11 rfl rfl (by decide) rfl ?_
        refine s_iload_n 3 C dM_partition_14 rfl ?_
        refine s_iload_n 1 C dM_partition_15 rfl ?_
        refine s_iload_n 2 C dM_partition_16 rfl ?_
        refine s_iorN C dM_partition_17 ?_
        refine s_iload_n 3 C dM_partition_18 rfl ?_
        refine s_callPS (n := 2) [] [.int (nI i), .ref p4] C wfP (kM_has E.2.1 D cA (u ||| w) i (by omega) (by omega)) gM_36 dM_partition_19 (by decide +kernel) rfl (by decide) (by decide) rfl rfl (Nat.le_of_ble_eq_true rfl) (Nat.zero_le _) (Nat.zero_le _) (fun rh hh9 => ?_)
        refine s_top hh9 ?_
        refine s_if_eqN 29 C dM_partition_22 (by decide) (bt31 _) (fun c5 => ?_) (fun c5 => ?_)
        · refine s_iload_n 3 C dM_partition_29 rfl ?_
          refine s_iast 3 [(y, .inr (5, [.int (nI n), .int (nI m), .ref p1, .ref p2, .ref p3, .ref p4])), (p1, .inl (cA, 14, .inl (aN fi))), (p2, .inl (cA, 14, .inl (aN se))), (p4, .inl (cA, 9, .inl (upd T i (nI i))))] C dM_partition_30 rfl (by omega) (by decide) rfl ?_
          refine s_iinc (j := 3) (nI (i + 1)) [(0, .ref y), (1, .int (nI u)), (2, .int (nI w)), (3, .int (nI (i + 1)))] [1, 2, 3, 0] C dM_partition_31 rfl (inc1 _) (by decide) rfl ?_
          refine s_goto (tgt := 2) C dM_partition_34 (by decide) ?_
          refine ih (i + 1) _ (by omega) (fun v hv => ?_)
          unfold upd
          by_cases z : v = i
          · rw [if_pos z, z]
            exact (if_neg (by rw [bmF.mp c5]; decide)).symm
          · rw [if_neg z]; exact hT v (by omega)
        · refine s_iconst (-1) C dM_partition_25 (by decide) ?_
          refine s_goto (tgt := 30) C dM_partition_26 (by decide) ?_
          refine s_iast 3 [(y, .inr (5, [.int (nI n), .int (nI m), .ref p1, .ref p2, .ref p3, .ref p4])), (p1, .inl (cA, 14, .inl (aN fi))), (p2, .inl (cA, 14, .inl (aN se))), (p4, .inl (cA, 9, .inl (upd T i (-1))))] C dM_partition_30 rfl (by omega) (by decide) rfl ?_
          refine s_iinc (j := 3) (nI (i + 1)) [(0, .ref y), (1, .int (nI u)), (2, .int (nI w)), (3, .int (nI (i + 1)))] [1, 2, 3, 0] C dM_partition_31 rfl (inc1 _) (by decide) rfl ?_
          refine s_goto (tgt := 2) C dM_partition_34 (by decide) ?_
          refine ih (i + 1) _ (by omega) (fun v hv => ?_)
          unfold upd
          by_cases z : v = i
          · rw [if_pos z, z]
            exact (if_pos (by cases y : bm (u ||| w) i; exact absurd (by rw [y]; rfl) c5; rfl)).symm
          · rw [if_neg z]; exact hT v (by omega)
  exact loop n 0 PA (by omega) (fun v hv => absurd hv (by omega))
