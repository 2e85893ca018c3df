set_option maxHeartbeats 4000000 in
set_option maxRecDepth 100000 in
/-- is x a place below the count -/
theorem kG_hasVertex (l : Launch) (D : va_G) (cA : ClassId) (g a1 a2 a3 n m : Nat) (x : Int32) (hn : n < 100) (hm : m < 100) : CtP l yG_hasVertex (.code yG_hasVertex cG_hasVertex 2 (some .boolean)) 0 D cA [.ref g, .int x] [(g, .inr (2, [.int (nI n), .int (nI m), .ref a1, .ref a2, .ref a3]))] (fun r => (r = nI 1 ∧ inR x n) ∨ (r = nI 0 ∧ ¬ inR x n)) := by
  refine mkP [(0, .ref g), (1, .int x)] (by decide) rfl (Nat.le_of_ble_eq_true rfl) ?_
  intro E Q hE C hret
  refine s_iload_n 1 C dG_hasVertex_0 rfl ?_
  refine s_if_lt 16 C dG_hasVertex_1 (by decide) (fun c1 => ?_) (fun c1 => ?_)
  · refine s_iconst (nI 0) C dG_hasVertex_16 (by decide) ?_
    exact hret _ _ _ dG_hasVertex_17 rfl (Or.inr ⟨rfl, inR_no1 c1 (by omega)⟩)
  · refine s_iload_n 1 C dG_hasVertex_4 rfl ?_
    refine s_aload_n 0 C dG_hasVertex_5 rfl ?_
    refine s_get (.int (nI n)) 0 0 C pfP inG flG_9 dG_hasVertex_6 rfl rfl (by decide) rfl ?_
    refine s_icmp_ge 16 C dG_hasVertex_9 (by decide) (fun c2 => ?_) (fun c2 => ?_)
    · refine s_iconst (nI 0) C dG_hasVertex_16 (by decide) ?_
      exact hret _ _ _ dG_hasVertex_17 rfl (Or.inr ⟨rfl, inR_no2 c2 (by omega)⟩)
    · refine s_iconst (nI 1) C dG_hasVertex_12 (by decide) ?_
      refine s_goto (tgt := 17) C dG_hasVertex_13 (by decide) ?_
      exact hret _ _ _ dG_hasVertex_17 rfl (Or.inl ⟨rfl, inR_yes c1 c2 (by omega)⟩)
set_option maxHeartbeats 4000000 in
set_option maxRecDepth 100000 in
/-- is x a place below the count -/
theorem kG_hasEdge (l : Launch) (D : va_G) (cA : ClassId) (g a1 a2 a3 n m : Nat) (x : Int32) (hn : n < 100) (hm : m < 100) : CtP l yG_hasEdge (.code yG_hasEdge cG_hasEdge 2 (some .boolean)) 0 D cA [.ref g, .int x] [(g, .inr (2, [.int (nI n), .int (nI m), .ref a1, .ref a2, .ref a3]))] (fun r => (r = nI 1 ∧ inR x m) ∨ (r = nI 0 ∧ ¬ inR x m)) := by
  refine mkP [(0, .ref g), (1, .int x)] (by decide) rfl (Nat.le_of_ble_eq_true rfl) ?_
  intro E Q hE C hret
  refine s_iload_n 1 C dG_hasEdge_0 rfl ?_
  refine s_if_lt 16 C dG_hasEdge_1 (by decide) (fun c1 => ?_) (fun c1 => ?_)
  · refine s_iconst (nI 0) C dG_hasEdge_16 (by decide) ?_
    exact hret _ _ _ dG_hasEdge_17 rfl (Or.inr ⟨rfl, inR_no1 c1 (by omega)⟩)
  · refine s_iload_n 1 C dG_hasEdge_4 rfl ?_
    refine s_aload_n 0 C dG_hasEdge_5 rfl ?_
    refine s_get (.int (nI m)) 0 1 C pfP inG flG_25 dG_hasEdge_6 rfl rfl (by decide) rfl ?_
    refine s_icmp_ge 16 C dG_hasEdge_9 (by decide) (fun c2 => ?_) (fun c2 => ?_)
    · refine s_iconst (nI 0) C dG_hasEdge_16 (by decide) ?_
      exact hret _ _ _ dG_hasEdge_17 rfl (Or.inr ⟨rfl, inR_no2 c2 (by omega)⟩)
    · refine s_iconst (nI 1) C dG_hasEdge_12 (by decide) ?_
      refine s_goto (tgt := 17) C dG_hasEdge_13 (by decide) ?_
      exact hret _ _ _ dG_hasEdge_17 rfl (Or.inl ⟨rfl, inR_yes c1 c2 (by omega)⟩)
set_option maxHeartbeats 4000000 in
set_option maxRecDepth 100000 in
/-- how many edges of the set the vertex has -/
theorem kG_degree (l : Launch) (D : va_G) (cA : ClassId) (g a1 a2 a3 n m v s : Nat) (fi se : Nat → Nat) (hm : m ≤ 14) (hv : v < 100) (hs : s < 2 ^ 14) (hfi : ∀ e, e < m → fi e < 100) (hse : ∀ e, e < m → se e < 100) : CtP l yG_degree (.code yG_degree cG_degree 5 (some .int)) 0 D cA [.ref g, .int (nI v), .int (nI s)] [(g, .inr (2, [.int (nI n), .int (nI m), .ref a1, .ref a2, .ref a3])), (a1, .inl (cA, 14, .inl (aN fi))), (a2, .inl (cA, 14, .inl (aN se)))] (fun r => r = nI (hdg fi se m (bm s) v)) := by
  refine mkP [(0, .ref g), (1, .int (nI v)), (2, .int (nI s))] (by decide) rfl (Nat.le_of_ble_eq_true rfl) ?_
  intro E Q hE C hret
  refine s_iconst (nI 0) C dG_degree_0 (by decide) ?_
  refine s_istore_n [(0, .ref g), (1, .int (nI v)), (2, .int (nI s)), (3, .int (nI 0))] [1, 2, 3, 0] C dG_degree_1 (by decide) rfl ?_
  refine s_iconst (nI 0) C dG_degree_2 (by decide) ?_
  refine s_istore [(0, .ref g), (1, .int (nI v)), (2, .int (nI s)), (3, .int (nI 0)), (4, .int (nI 0))] [1, 2, 3, 4, 0] C dG_degree_3 (by decide) rfl ?_
  have loop : ∀ k i, i + k = m → ST E 5 Q 0 0 (pf E D [(g, .inr (2, [.int (nI n), .int (nI m), .ref a1, .ref a2, .ref a3])), (a1, .inl (cA, 14, .inl (aN fi))), (a2, .inl (cA, 14, .inl (aN se)))]) [(0, .ref g), (1, .int (nI v)), (2, .int (nI s)), (3, .int (nI (su (fun j => (bm s j).toNat * hin fi se j v) i))), (4, .int (nI i))] [] 5 := by
    intro k
    induction k with
    | zero =>
      intro i hi
      refine s_iload 4 C dG_degree_5 rfl ?_
      refine s_aload_n 0 C dG_degree_7 rfl ?_
      refine s_get (.int (nI m)) 0 1 C pfP inG flG_25 dG_degree_8 rfl rfl (by decide) rfl ?_
      refine s_icmp_geN 55 C dG_degree_11 (by decide) (by omega) (by omega) (fun c1 => ?_) (fun c1 => ?_)
      · refine s_iload_n 3 C dG_degree_55 rfl ?_
        have e : i = m := by omega
        subst e
        exact hret _ _ _ dG_degree_56 rfl rfl
      · exact absurd c1 (by omega)
    | succ k ih =>
      intro i hi
      have hsu : su (fun j => (bm s j).toNat * hin fi se j v) (i + 1) = su (fun j => (bm s j).toNat * hin fi se j v) i + (bm s i).toNat * hin fi se i v := rfl
      have hle : su (fun j => (bm s j).toNat * hin fi se j v) i ≤ i := by
        have : ∀ q, su (fun j => (bm s j).toNat * hin fi se j v) q ≤ q := by
          intro q
          induction q with
          | zero => exact Nat.le_refl _
          | succ q ih2 =>
            show su (fun j => (bm s j).toNat * hin fi se j v) q + (bm s q).toNat * hin fi se q v ≤ q + 1
            have a1 := Bool.toNat_le (bm s q)
            have a2 : hin fi se q v ≤ 1 := by unfold hin; split <;> omega
            have := Nat.mul_le_mul a1 a2
            omega
        exact this i
      refine s_iload 4 C dG_degree_5 rfl ?_
      refine s_aload_n 0 C dG_degree_7 rfl ?_
      refine s_get (.int (nI m)) 0 1 C pfP inG flG_25 dG_degree_8 rfl rfl (by decide) rfl ?_
      refine s_icmp_geN 55 C dG_degree_11 (by decide) (by omega) (by omega) (fun c1 => ?_) (fun c1 => ?_)
      · exact absurd c1 (by omega)
      · have f1 := hfi i c1
        have f2 := hse i c1
        refine s_iload_n 2 C dG_degree_14 rfl ?_
        refine s_iload 4 C dG_degree_15 rfl ?_
        refine s_ishrN C dG_degree_17 (by omega) (by omega) ?_
        refine s_iconst (nI 1) C dG_degree_18 (by decide) ?_
        refine s_bitN C dG_degree_19 ?_
        refine s_iconst (nI 1) C dG_degree_20 (by decide) ?_
        refine s_icmp_neN 49 C dG_degree_21 (by decide) (bt31 _) (by decide) (fun c2 => ?_) (fun c2 => ?_)
        · have c3 : bm s i = false := by
            cases h : bm s i with
            | false => rfl
            | true => rw [h] at c2; exact absurd rfl c2
          have e : su (fun j => (bm s j).toNat * hin fi se j v) (i + 1) = su (fun j => (bm s j).toNat * hin fi se j v) i + 0 := by
            rw [hsu, c3]; simp
          refine s_iinc (j := 4) (nI (i + 1)) [(0, .ref g), (1, .int (nI v)), (2, .int (nI s)), (3, .int (nI (su (fun j => (bm s j).toNat * hin fi se j v) i))), (4, .int (nI (i + 1)))] [1, 2, 3, 4, 0] C dG_degree_49 rfl (inc1 _) (by decide) rfl ?_
          refine s_goto (tgt := 5) C dG_degree_52 (by decide) ?_
          have := ih (i + 1) (by omega)
          rw [e] at this
          exact this
        · have c3 : bm s i = true := bmT.mp c2
          refine s_aload_n 0 C dG_degree_24 rfl ?_
          refine s_get (.ref a1) 0 2 C pfP inG flG_15 dG_degree_25 rfl rfl (by decide) rfl ?_
          refine s_iload 4 C dG_degree_28 rfl ?_
          refine s_ialdN 1 C pfP dG_degree_30 rfl (by omega) (by decide) ?_
          refine s_iload_n 1 C dG_degree_31 rfl ?_
          refine s_icmp_eqN 46 C dG_degree_32 (by decide) (by omega) (by omega) (fun c4 => ?_) (fun c4 => ?_)
          · refine s_iinc (j := 3) (nI (su (fun j => (bm s j).toNat * hin fi se j v) i + 1)) [(0, .ref g), (1, .int (nI v)), (2, .int (nI s)), (3, .int (nI (su (fun j => (bm s j).toNat * hin fi se j v) i + 1))), (4, .int (nI i))] [1, 2, 3, 0, 4] C dG_degree_46 rfl (inc1 _) (by decide) rfl ?_
            refine s_iinc (j := 4) (nI (i + 1)) [(0, .ref g), (1, .int (nI v)), (2, .int (nI s)), (3, .int (nI (su (fun j => (bm s j).toNat * hin fi se j v) i + 1))), (4, .int (nI (i + 1)))] [1, 2, 3, 4, 0] C dG_degree_49 rfl (inc1 _) (by decide) rfl ?_
            refine s_goto (tgt := 5) C dG_degree_52 (by decide) ?_
            have e : su (fun j => (bm s j).toNat * hin fi se j v) (i + 1) = su (fun j => (bm s j).toNat * hin fi se j v) i + 1 := by
              rw [hsu, c3, hin_or (Or.inl c4)]; rfl
            have := ih (i + 1) (by omega)
            rw [e] at this
            exact this
          · refine s_aload_n 0 C dG_degree_35 rfl ?_
            refine s_get (.ref a2) 0 3 C pfP inG flG_19 dG_degree_36 rfl rfl (by decide) rfl ?_
            refine s_iload 4 C dG_degree_39 rfl ?_
            refine s_ialdN 2 C pfP dG_degree_41 rfl (by omega) (by decide) ?_
            refine s_iload_n 1 C dG_degree_42 rfl ?_
            refine s_icmp_neN 49 C dG_degree_43 (by decide) (by omega) (by omega) (fun c5 => ?_) (fun c5 => ?_)
            · have e : su (fun j => (bm s j).toNat * hin fi se j v) (i + 1) = su (fun j => (bm s j).toNat * hin fi se j v) i + 0 := by
                rw [hsu, c3, hin_no (by rintro (h | h); exact c4 h; exact c5 h)]; rfl
              refine s_iinc (j := 4) (nI (i + 1)) [(0, .ref g), (1, .int (nI v)), (2, .int (nI s)), (3, .int (nI (su (fun j => (bm s j).toNat * hin fi se j v) i))), (4, .int (nI (i + 1)))] [1, 2, 3, 4, 0] C dG_degree_49 rfl (inc1 _) (by decide) rfl ?_
              refine s_goto (tgt := 5) C dG_degree_52 (by decide) ?_
              have := ih (i + 1) (by omega)
              rw [e] at this
              exact this
            · refine s_iinc (j := 3) (nI (su (fun j => (bm s j).toNat * hin fi se j v) i + 1)) [(0, .ref g), (1, .int (nI v)), (2, .int (nI s)), (3, .int (nI (su (fun j => (bm s j).toNat * hin fi se j v) i + 1))), (4, .int (nI i))] [1, 2, 3, 0, 4] C dG_degree_46 rfl (inc1 _) (by decide) rfl ?_
              refine s_iinc (j := 4) (nI (i + 1)) [(0, .ref g), (1, .int (nI v)), (2, .int (nI s)), (3, .int (nI (su (fun j => (bm s j).toNat * hin fi se j v) i + 1))), (4, .int (nI (i + 1)))] [1, 2, 3, 4, 0] C dG_degree_49 rfl (inc1 _) (by decide) rfl ?_
              refine s_goto (tgt := 5) C dG_degree_52 (by decide) ?_
              have e : su (fun j => (bm s j).toNat * hin fi se j v) (i + 1) = su (fun j => (bm s j).toNat * hin fi se j v) i + 1 := by
                rw [hsu, c3, hin_or (Or.inr c5)]; rfl
              have := ih (i + 1) (by omega)
              rw [e] at this
              exact this
  exact loop m 0 (by omega)
