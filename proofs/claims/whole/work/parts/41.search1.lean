def dn1 (f : Nat → Nat) (a : Nat) : Nat → Nat := nup f a (f a - 1)
set_option maxHeartbeats 4000000 in
set_option maxRecDepth 100000 in
/-- a number of edges that those not yet tried cannot exceed -/
theorem kS_hope (l : Launch) (D : va_G) (cA : ClassId) (s b1 b2 b3 b4 b5 N : Nat) (lf ah : Nat → Nat) (en fs fc : Int32) (hl : ∀ v, v < 9 → lf v ≤ 100) (ha : ∀ v, v < 9 → ah v ≤ 100) : CtP l yS_hope (.code yS_hope cS_hope 3 (some .int)) 1 D cA [.ref s] [(s, .inr (3, [.int (nI N), .ref b1, .ref b2, .ref b3, .ref b4, .ref b5, .int en, .int fs, .int fc])), (b4, .inl (cA, 9, .inl (aN lf))), (b5, .inl (cA, 9, .inl (aN ah)))] (fun r => r = nI (su (fun v => min (lf v) (ah v)) 9 / 2)) := by
  refine mkP [(0, .ref s)] (by decide) rfl (Nat.le_of_ble_eq_true rfl) ?_
  intro E Q hE C hret
  have hsb : ∀ i, i ≤ 9 → su (fun v => min (lf v) (ah v)) i ≤ 100 * i := by
    intro i
    induction i with
    | zero => intro _; exact Nat.le_refl _
    | succ i ih =>
      intro h
      show su (fun v => min (lf v) (ah v)) i + min (lf i) (ah i) ≤ 100 * (i + 1)
      have a1 := ih (by omega)
      have a2 := hl i (by omega)
      omega
  refine s_iconst (nI 0) C dS_hope_0 (by decide) ?_
  refine s_istore_n [(0, .ref s), (1, .int (nI 0))] [1, 0] C dS_hope_1 (by decide) rfl ?_
  refine s_iconst (nI 0) C dS_hope_2 (by decide) ?_
  refine s_istore_n [(0, .ref s), (1, .int (nI 0)), (2, .int (nI 0))] [1, 2, 0] C dS_hope_3 (by decide) rfl ?_
  have loop : ∀ k i, i + k = 9 → ST E 3 Q 0 0 (pf E D [(s, .inr (3, [.int (nI N), .ref b1, .ref b2, .ref b3, .ref b4, .ref b5, .int en, .int fs, .int fc])), (b4, .inl (cA, 9, .inl (aN lf))), (b5, .inl (cA, 9, .inl (aN ah)))]) [(0, .ref s), (1, .int (nI (su (fun v => min (lf v) (ah v)) i))), (2, .int (nI i))] [] 4 := by
    intro k
    induction k with
    | zero =>
      intro i hi
      refine s_iload_n 2 C dS_hope_4 rfl ?_
      refine s_bipush (nI 9) C dS_hope_5 (by decide) ?_
      refine s_icmp_geN 34 C dS_hope_7 (by decide) (by omega) (by omega) (fun c1 => ?_) (fun c1 => ?_)
      · have e : i = 9 := by omega
        subst e
        have hb9 := hsb 9 (by omega)
        refine s_iload_n 1 C dS_hope_34 rfl ?_
        refine s_iconst (nI 2) C dS_hope_35 (by decide) ?_
        refine s_idivN C dS_hope_36 (by omega) (by decide) (by decide) ?_
        exact hret _ _ _ dS_hope_37 rfl rfl
      · exact absurd c1 (by omega)
    | succ k ih =>
      intro i hi
      refine s_iload_n 2 C dS_hope_4 rfl ?_
      refine s_bipush (nI 9) C dS_hope_5 (by decide) ?_
      refine s_icmp_geN 34 C dS_hope_7 (by decide) (by omega) (by omega) (fun c1 => ?_) (fun c1 => ?_)
      · exact absurd c1 (by omega)
      · have h1 := hl i (by omega)
        have h2 := ha i (by omega)
        have h3 := hsb i (by omega)
        refine s_iload_n 1 C dS_hope_10 rfl ?_
        refine s_aload_n 0 C dS_hope_11 rfl ?_
        refine s_get (.ref b4) 0 4 C pfP inS flS_21 dS_hope_12 rfl rfl (by decide) rfl ?_
        refine s_iload_n 2 C dS_hope_15 rfl ?_
        refine s_ialdN 1 C pfP dS_hope_16 rfl (by omega) (by decide) ?_
        refine s_aload_n 0 C dS_hope_17 rfl ?_
        refine s_get (.ref b5) 0 5 C pfP inS flS_24 dS_hope_18 rfl rfl (by decide) rfl ?_
        refine s_iload_n 2 C dS_hope_21 rfl ?_
        refine s_ialdN 2 C pfP dS_hope_22 rfl (by omega) (by decide) ?_
        refine s_min C mlS_45 dS_hope_23 (by decide) (Nat.le_of_ble_eq_true rfl) (Nat.zero_le _) (Nat.zero_le _) ?_
        refine s_top (minI (by omega) (by omega)) ?_
        refine s_iaddN C dS_hope_26 ?_
        refine s_istore_n [(0, .ref s), (1, .int (nI (su (fun v => min (lf v) (ah v)) i + (min (lf i) (ah i))))), (2, .int (nI i))] [1, 0, 2] C dS_hope_27 (by decide) rfl ?_
        refine s_iinc (j := 2) (nI (i + 1)) [(0, .ref s), (1, .int (nI (su (fun v => min (lf v) (ah v)) i + (min (lf i) (ah i))))), (2, .int (nI (i + 1)))] [1, 2, 0] C dS_hope_28 rfl (inc1 _) (by decide) rfl ?_
        refine s_goto (tgt := 4) C dS_hope_31 (by decide) ?_
        exact ih (i + 1) (by omega)
  exact loop 9 0 (by omega)
set_option maxHeartbeats 4000000 in
set_option maxRecDepth 100000 in
/-- may the edge be taken -/
theorem kS_mayAdd (l : Launch) (D : va_G) (cA : ClassId) (s b1 b2 b3 b4 b5 N : Nat) (hd tl lf : Nat → Nat) (TW : Nat → Int32) (en fs fc : Int32) (e S : Nat) (hN : N ≤ 14) (he : e < N) (hS : S < 2 ^ 14) (hh : hd e < 9) (ht : tl e < 9) (hTW : TW e = -1 ∨ ∃ i, i < e ∧ TW e = nI i) (hl : ∀ v, v < 9 → lf v ≤ 100) : CtP l yS_mayAdd (.code yS_mayAdd cS_mayAdd 4 (some .boolean)) 0 D cA [.ref s, .int (nI e), .int (nI S)] [(s, .inr (3, [.int (nI N), .ref b1, .ref b2, .ref b3, .ref b4, .ref b5, .int en, .int fs, .int fc])), (b1, .inl (cA, 14, .inl (aN hd))), (b2, .inl (cA, 14, .inl (aN tl))), (b3, .inl (cA, 14, .inl TW)), (b4, .inl (cA, 9, .inl (aN lf)))] (fun r => (r = nI 1 ∧ mayM hd tl lf TW e S) ∨ (r = nI 0 ∧ ¬ mayM hd tl lf TW e S)) := by
  refine mkP [(0, .ref s), (1, .int (nI e)), (2, .int (nI S))] (by decide) rfl (Nat.le_of_ble_eq_true rfl) ?_
  intro E Q hE C hret
  have hl1 := hl _ hh
  have hl2 := hl _ ht
  have rest : ∀ t : Nat, (t = 1 ∧ ∀ i, TW e = nI i → i < 100 → bm S i = true) ∨ (t = 0 ∧ ¬ ∀ i, TW e = nI i → i < 100 → bm S i = true) → ST E 4 Q 0 0 (pf E D [(s, .inr (3, [.int (nI N), .ref b1, .ref b2, .ref b3, .ref b4, .ref b5, .int en, .int fs, .int fc])), (b1, .inl (cA, 14, .inl (aN hd))), (b2, .inl (cA, 14, .inl (aN tl))), (b3, .inl (cA, 14, .inl TW)), (b4, .inl (cA, 9, .inl (aN lf)))]) [(0, .ref s), (1, .int (nI e)), (2, .int (nI S))] [.int (nI t)] 28 := by
    intro t ht0
    refine s_istore_n [(0, .ref s), (1, .int (nI e)), (2, .int (nI S)), (3, .int (nI t))] [1, 2, 3, 0] C dS_mayAdd_28 (by decide) rfl ?_
    refine s_iload_n 3 C dS_mayAdd_29 rfl ?_
    refine s_if_eqN 65 C dS_mayAdd_30 (by decide) (by omega) (fun c1 => ?_) (fun c1 => ?_)
    · refine s_iconst (nI 0) C dS_mayAdd_65 (by decide) ?_
      exact hret _ _ _ dS_mayAdd_66 rfl (Or.inr ⟨rfl, fun h => by rcases ht0 with q | q; omega; exact q.2 h.1⟩)
    · refine s_aload_n 0 C dS_mayAdd_33 rfl ?_
      refine s_get (.ref b4) 0 4 C pfP inS flS_21 dS_mayAdd_34 rfl rfl (by decide) rfl ?_
      refine s_aload_n 0 C dS_mayAdd_37 rfl ?_
      refine s_get (.ref b1) 0 1 C pfP inS flS_9 dS_mayAdd_38 rfl rfl (by decide) rfl ?_
      refine s_iload_n 1 C dS_mayAdd_41 rfl ?_
      refine s_ialdN 1 C pfP dS_mayAdd_42 rfl (by omega) (by decide) ?_
      refine s_ialdN 4 C pfP dS_mayAdd_43 rfl (by omega) (by decide) ?_
      refine s_if_leN 65 C dS_mayAdd_44 (by decide) (by omega) (fun c2 => ?_) (fun c2 => ?_)
      · refine s_iconst (nI 0) C dS_mayAdd_65 (by decide) ?_
        exact hret _ _ _ dS_mayAdd_66 rfl (Or.inr ⟨rfl, fun h => by have := h.2.1; omega⟩)
      · refine s_aload_n 0 C dS_mayAdd_47 rfl ?_
        refine s_get (.ref b4) 0 4 C pfP inS flS_21 dS_mayAdd_48 rfl rfl (by decide) rfl ?_
        refine s_aload_n 0 C dS_mayAdd_51 rfl ?_
        refine s_get (.ref b2) 0 2 C pfP inS flS_15 dS_mayAdd_52 rfl rfl (by decide) rfl ?_
        refine s_iload_n 1 C dS_mayAdd_55 rfl ?_
        refine s_ialdN 2 C pfP dS_mayAdd_56 rfl (by omega) (by decide) ?_
        refine s_ialdN 4 C pfP dS_mayAdd_57 rfl (by omega) (by decide) ?_
        refine s_if_leN 65 C dS_mayAdd_58 (by decide) (by omega) (fun c3 => ?_) (fun c3 => ?_)
        · refine s_iconst (nI 0) C dS_mayAdd_65 (by decide) ?_
          exact hret _ _ _ dS_mayAdd_66 rfl (Or.inr ⟨rfl, fun h => by have := h.2.2; omega⟩)
        · refine s_iconst (nI 1) C dS_mayAdd_61 (by decide) ?_
          refine s_goto (tgt := 66) C dS_mayAdd_62 (by decide) ?_
          exact hret _ _ _ dS_mayAdd_66 rfl (Or.inl ⟨rfl, by rcases ht0 with q | q; exact q.2; omega, c2, c3⟩)
  rcases hTW with h | ⟨i, hi, h⟩
  · refine s_aload_n 0 C dS_mayAdd_0 rfl ?_
    refine s_get (.ref b3) 0 3 C pfP inS flS_18 dS_mayAdd_1 rfl rfl (by decide) rfl ?_
    refine s_iload_n 1 C dS_mayAdd_4 rfl ?_
    refine s_iald 3 C pfP dS_mayAdd_5 rfl (by omega) (by decide) ?_
    refine s_top h ?_
    refine s_if_lt 23 C dS_mayAdd_6 (by decide) (fun c1 => ?_) (fun c1 => ?_)
    · refine s_iconst (nI 1) C dS_mayAdd_23 (by decide) ?_
      refine s_goto (tgt := 28) C dS_mayAdd_24 (by decide) ?_
      refine rest 1 (Or.inl ⟨rfl, fun i hi _ => ?_⟩)
      rw [h] at hi
      exact absurd (hi ▸ (by decide : (-1 : Int32) < 0)) (nI_pos (by omega))
    · exact absurd (by decide) c1
  · refine s_aload_n 0 C dS_mayAdd_0 rfl ?_
    refine s_get (.ref b3) 0 3 C pfP inS flS_18 dS_mayAdd_1 rfl rfl (by decide) rfl ?_
    refine s_iload_n 1 C dS_mayAdd_4 rfl ?_
    refine s_iald 3 C pfP dS_mayAdd_5 rfl (by omega) (by decide) ?_
    refine s_top h ?_
    refine s_if_ltN 23 C dS_mayAdd_6 (by decide) (by omega) ?_
    refine s_iload_n 2 C dS_mayAdd_9 rfl ?_
    refine s_aload_n 0 C dS_mayAdd_10 rfl ?_
    refine s_get (.ref b3) 0 3 C pfP inS flS_18 dS_mayAdd_11 rfl rfl (by decide) rfl ?_
    refine s_iload_n 1 C dS_mayAdd_14 rfl ?_
    refine s_iald 3 C pfP dS_mayAdd_15 rfl (by omega) (by decide) ?_
    refine s_top h ?_
    refine s_ishrN C dS_mayAdd_16 (by omega) (by omega) ?_
    refine s_iconst (nI 1) C dS_mayAdd_17 (by decide) ?_
    refine s_bitN C dS_mayAdd_18 ?_
    refine s_iconst (nI 1) C dS_mayAdd_19 (by decide) ?_
    refine s_icmp_neN 27 C dS_mayAdd_20 (by decide) (bt31 _) (by omega) (fun c2 => ?_) (fun c2 => ?_)
    · refine s_iconst (nI 0) C dS_mayAdd_27 (by decide) ?_
      refine rest 0 (Or.inr ⟨rfl, fun h9 => c2 (bmT.mpr (h9 i h (by omega)))⟩)
    · refine s_iconst (nI 1) C dS_mayAdd_23 (by decide) ?_
      refine s_goto (tgt := 28) C dS_mayAdd_24 (by decide) ?_
      refine rest 1 (Or.inl ⟨rfl, fun i2 h2 h3 => ?_⟩)
      rw [h] at h2
      rw [← (nI_eq (by omega) (by omega)).mp h2]
      exact bmT.mp c2
set_option maxHeartbeats 4000000 in
set_option maxRecDepth 100000 in
/-- uses up one edge's worth of what a vertex asks for -/
theorem kS_lend (l : Launch) (D : va_G) (cA : ClassId) (s b1 b2 b3 b4 b5 N : Nat) (lf : Nat → Nat) (en fs fc : Int32) (v : Nat) (hv : v < 9) (hl : ∀ v, v < 9 → lf v ≤ 100) : CtI (S := Nat → Int32) l yS_lend (.code yS_lend cS_lend 2 (some .boolean)) 0 0 0 D cA [.ref s, .int (nI v)] [(s, .inr (3, [.int (nI N), .ref b1, .ref b2, .ref b3, .ref b4, .ref b5, .int en, .int fs, .int fc])), (b4, .inl (cA, 9, .inl (aN lf)))] (fun r u => (0 < lf v ∧ r = nI 1 ∧ u = aN (dn1 lf v)) ∨ (lf v = 0 ∧ r = nI 0)) (fun u => [(s, .inr (3, [.int (nI N), .ref b1, .ref b2, .ref b3, .ref b4, .ref b5, .int en, .int fs, .int fc])), (b4, .inl (cA, 9, .inl u))]) := by
  refine mkI [(0, .ref s), (1, .int (nI v))] (by decide) rfl (Nat.le_of_ble_eq_true rfl) ?_
  intro E A Q hE C hA hret
  have hlv := hl v hv
  rcases Nat.eq_zero_or_pos (lf v) with h0 | h0
  · refine s_aload_n 0 C dS_lend_0 rfl ?_
    refine s_get (.ref b4) 0 4 C wfP inS flS_21 dS_lend_1 rfl rfl (by decide) rfl ?_
    refine s_iload_n 1 C dS_lend_4 rfl ?_
    refine s_dup2 C dS_lend_5 rfl rfl ?_
    refine s_ialdN 1 C wfP dS_lend_6 rfl (by omega) (by decide) ?_
    refine s_iconst (nI 1) C dS_lend_7 (by decide) ?_
    refine s_isub C dS_lend_8 ?_
    refine s_top (y := -1) (by rw [h0]; decide) ?_
    refine s_iast 1 [(s, .inr (3, [.int (nI N), .ref b1, .ref b2, .ref b3, .ref b4, .ref b5, .int en, .int fs, .int fc])), (b4, .inl (cA, 9, .inl (upd (aN lf) v (-1))))] C dS_lend_9 rfl (by omega) (by decide) rfl ?_
    refine s_aload_n 0 C dS_lend_10 rfl ?_
    refine s_get (.ref b4) 0 4 C wfP inS flS_21 dS_lend_11 rfl rfl (by decide) rfl ?_
    refine s_iload_n 1 C dS_lend_14 rfl ?_
    refine s_iald 1 C wfP dS_lend_15 rfl (by omega) (by decide) ?_
    refine s_top (y := -1) (by unfold upd; rw [if_pos rfl]) ?_
    refine s_if_lt 23 C dS_lend_16 (by decide) (fun c1 => ?_) (fun c1 => ?_)
    · refine s_iconst (nI 0) C dS_lend_23 (by decide) ?_
      exact hret _ (upd (aN lf) v (-1)) _ _ dS_lend_24 rfl (Or.inr ⟨h0, rfl⟩)
    · exact absurd (by decide) c1
  · refine s_aload_n 0 C dS_lend_0 rfl ?_
    refine s_get (.ref b4) 0 4 C wfP inS flS_21 dS_lend_1 rfl rfl (by decide) rfl ?_
    refine s_iload_n 1 C dS_lend_4 rfl ?_
    refine s_dup2 C dS_lend_5 rfl rfl ?_
    refine s_ialdN 1 C wfP dS_lend_6 rfl (by omega) (by decide) ?_
    refine s_iconst (nI 1) C dS_lend_7 (by decide) ?_
    refine s_isubN C dS_lend_8 (by omega) ?_
    refine s_iastN 1 [(s, .inr (3, [.int (nI N), .ref b1, .ref b2, .ref b3, .ref b4, .ref b5, .int en, .int fs, .int fc])), (b4, .inl (cA, 9, .inl (aN (nup lf v ((lf v) - 1)))))] C dS_lend_9 rfl (by omega) (by decide) rfl ?_
    refine s_aload_n 0 C dS_lend_10 rfl ?_
    refine s_get (.ref b4) 0 4 C wfP inS flS_21 dS_lend_11 rfl rfl (by decide) rfl ?_
    refine s_iload_n 1 C dS_lend_14 rfl ?_
    refine s_ialdN 1 C wfP dS_lend_15 rfl (by omega) (by decide) ?_
    refine s_top (congrArg nI (nup_s lf v (lf v - 1))) ?_
    refine s_if_ltN 23 C dS_lend_16 (by decide) (by omega) ?_
    refine s_iconst (nI 1) C dS_lend_19 (by decide) ?_
    refine s_goto (tgt := 24) C dS_lend_20 (by decide) ?_
    exact hret _ (aN (nup lf v ((lf v) - 1))) _ _ dS_lend_24 rfl (Or.inl ⟨h0, rfl, rfl⟩)
set_option maxHeartbeats 4000000 in
set_option maxRecDepth 100000 in
/-- one more edge -/
theorem kS_take (l : Launch) (D : va_G) (cA : ClassId) (s b1 b2 b3 b4 b5 N : Nat) (hd tl ah : Nat → Nat) (TW : Nat → Int32) (en fs fc : Int32) (a b : Nat) (hN : N < 14) (ha : a < 9) (hb : b < 9) (hhd : ∀ j, j < N → hd j < 9) (htl : ∀ j, j < N → tl j < 9) : CtV (S := Nat → Int32) l yS_take (.code yS_take cS_take 4 none) 0 0 0 D cA [.ref s, .int (nI a), .int (nI b)] [(s, .inr (3, [.int (nI N), .ref b1, .ref b2, .ref b3, .ref b4, .ref b5, .int en, .int fs, .int fc])), (b1, .inl (cA, 14, .inl (aN hd))), (b2, .inl (cA, 14, .inl (aN tl))), (b3, .inl (cA, 14, .inl TW)), (b5, .inl (cA, 9, .inl (aN ah)))] (fun u => (∀ j, j ≠ N → u j = TW j) ∧ (u N = -1 ∨ ∃ i, i < N ∧ u N = nI i ∧ hd i = a ∧ tl i = b)) (fun u => [(s, .inr (3, [.int (nI (N + 1)), .ref b1, .ref b2, .ref b3, .ref b4, .ref b5, .int en, .int fs, .int fc])), (b1, .inl (cA, 14, .inl (aN (nup hd N a)))), (b2, .inl (cA, 14, .inl (aN (nup tl N b)))), (b3, .inl (cA, 14, .inl u)), (b5, .inl (cA, 9, .inl (aN (up2 ah a b))))]) := by
  refine mkV [(0, .ref s), (1, .int (nI a)), (2, .int (nI b))] (by decide) rfl (Nat.le_of_ble_eq_true rfl) ?_
  intro E A Q hE hi C hA hret
  refine s_aload_n 0 C dS_take_0 rfl ?_
  refine s_get (.ref b3) 0 3 C wfP inS flS_18 dS_take_1 rfl rfl (by decide) rfl ?_
  refine s_aload_n 0 C dS_take_4 rfl ?_
  refine s_get (.int (nI N)) 0 0 C wfP inS flS_27 dS_take_5 rfl rfl (by decide) rfl ?_
  refine s_iconst (-1) C dS_take_8 (by decide) ?_
  refine s_iast 3 [(s, .inr (3, [.int (nI N), .ref b1, .ref b2, .ref b3, .ref b4, .ref b5, .int en, .int fs, .int fc])), (b1, .inl (cA, 14, .inl (aN hd))), (b2, .inl (cA, 14, .inl (aN tl))), (b3, .inl (cA, 14, .inl (upd TW N (-1)))), (b5, .inl (cA, 9, .inl (aN ah)))] C dS_take_9 rfl (by omega) (by decide) rfl ?_
  refine s_iconst (nI 0) C dS_take_10 (by decide) ?_
  refine s_istore_n [(0, .ref s), (1, .int (nI a)), (2, .int (nI b)), (3, .int (nI 0))] [1, 2, 3, 0] C dS_take_11 (by decide) rfl ?_
  have loop : ∀ k i (T : Nat → Int32), i + k = N → (∀ j, j ≠ N → T j = TW j) → (T N = -1 ∨ ∃ i, i < N ∧ T N = nI i ∧ hd i = a ∧ tl i = b) → ST E 4 Q 0 0 (wf E A D [(s, .inr (3, [.int (nI N), .ref b1, .ref b2, .ref b3, .ref b4, .ref b5, .int en, .int fs, .int fc])), (b1, .inl (cA, 14, .inl (aN hd))), (b2, .inl (cA, 14, .inl (aN tl))), (b3, .inl (cA, 14, .inl T)), (b5, .inl (cA, 9, .inl (aN ah)))]) [(0, .ref s), (1, .int (nI a)), (2, .int (nI b)), (3, .int (nI i))] [] 12 := by
    intro k
    induction k with
    | zero =>
      intro i T hi hT1 hT2
      refine s_iload_n 3 C dS_take_12 rfl ?_
      refine s_aload_n 0 C dS_take_13 rfl ?_
      refine s_get (.int (nI N)) 0 0 C wfP inS flS_27 dS_take_14 rfl rfl (by decide) rfl ?_
      refine s_icmp_geN 56 C dS_take_17 (by decide) (by omega) (by omega) (fun c1 => ?_) (fun c1 => ?_)
      · refine s_aload_n 0 C dS_take_56 rfl ?_
        refine s_get (.ref b1) 0 1 C wfP inS flS_9 dS_take_57 rfl rfl (by decide) rfl ?_
        refine s_aload_n 0 C dS_take_60 rfl ?_
        refine s_get (.int (nI N)) 0 0 C wfP inS flS_27 dS_take_61 rfl rfl (by decide) rfl ?_
        refine s_iload_n 1 C dS_take_64 rfl ?_
        refine s_iastN 1 [(s, .inr (3, [.int (nI N), .ref b1, .ref b2, .ref b3, .ref b4, .ref b5, .int en, .int fs, .int fc])), (b1, .inl (cA, 14, .inl (aN (nup hd N a)))), (b2, .inl (cA, 14, .inl (aN tl))), (b3, .inl (cA, 14, .inl T)), (b5, .inl (cA, 9, .inl (aN ah)))] C dS_take_65 rfl (by omega) (by decide) rfl ?_
        refine s_aload_n 0 C dS_take_66 rfl ?_
        refine s_get (.ref b2) 0 2 C wfP inS flS_15 dS_take_67 rfl rfl (by decide) rfl ?_
        refine s_aload_n 0 C dS_take_70 rfl ?_
        refine s_get (.int (nI N)) 0 0 C wfP inS flS_27 dS_take_71 rfl rfl (by decide) rfl ?_
        refine s_iload_n 2 C dS_take_74 rfl ?_
        refine s_iastN 2 [(s, .inr (3, [.int (nI N), .ref b1, .ref b2, .ref b3, .ref b4, .ref b5, .int en, .int fs, .int fc])), (b1, .inl (cA, 14, .inl (aN (nup hd N a)))), (b2, .inl (cA, 14, .inl (aN (nup tl N b)))), (b3, .inl (cA, 14, .inl T)), (b5, .inl (cA, 9, .inl (aN ah)))] C dS_take_75 rfl (by omega) (by decide) rfl ?_
        refine s_aload_n 0 C dS_take_76 rfl ?_
        refine s_get (.ref b5) 0 5 C wfP inS flS_24 dS_take_77 rfl rfl (by decide) rfl ?_
        refine s_iload_n 1 C dS_take_80 rfl ?_
        refine s_dup2 C dS_take_81 rfl rfl ?_
        refine s_ialdN 4 C wfP dS_take_82 rfl (by omega) (by decide) ?_
        refine s_iconst (nI 1) C dS_take_83 (by decide) ?_
        refine s_iaddN C dS_take_84 ?_
        refine s_iastN 4 [(s, .inr (3, [.int (nI N), .ref b1, .ref b2, .ref b3, .ref b4, .ref b5, .int en, .int fs, .int fc])), (b1, .inl (cA, 14, .inl (aN (nup hd N a)))), (b2, .inl (cA, 14, .inl (aN (nup tl N b)))), (b3, .inl (cA, 14, .inl T)), (b5, .inl (cA, 9, .inl (aN (nup ah a (ah a + 1)))))] C dS_take_85 rfl (by omega) (by decide) rfl ?_
        refine s_aload_n 0 C dS_take_86 rfl ?_
        refine s_get (.ref b5) 0 5 C wfP inS flS_24 dS_take_87 rfl rfl (by decide) rfl ?_
        refine s_iload_n 2 C dS_take_90 rfl ?_
        refine s_dup2 C dS_take_91 rfl rfl ?_
        refine s_ialdN 4 C wfP dS_take_92 rfl (by omega) (by decide) ?_
        refine s_iconst (nI 1) C dS_take_93 (by decide) ?_
        refine s_iaddN C dS_take_94 ?_
        refine s_iastN 4 [(s, .inr (3, [.int (nI N), .ref b1, .ref b2, .ref b3, .ref b4, .ref b5, .int en, .int fs, .int fc])), (b1, .inl (cA, 14, .inl (aN (nup hd N a)))), (b2, .inl (cA, 14, .inl (aN (nup tl N b)))), (b3, .inl (cA, 14, .inl T)), (b5, .inl (cA, 9, .inl (aN (nup (nup ah a (ah a + 1)) b ((nup ah a (ah a + 1)) b + 1)))))] C dS_take_95 rfl (by omega) (by decide) rfl ?_
        refine s_aload_n 0 C dS_take_96 rfl ?_
        refine s_dup C dS_take_97 rfl ?_
        refine s_get (.int (nI N)) 0 0 C wfP inS flS_27 dS_take_98 rfl rfl (by decide) rfl ?_
        refine s_iconst (nI 1) C dS_take_101 (by decide) ?_
        refine s_iaddN C dS_take_102 ?_
        refine s_put 0 0 [(s, .inr (3, [.int (nI (N + 1)), .ref b1, .ref b2, .ref b3, .ref b4, .ref b5, .int en, .int fs, .int fc])), (b1, .inl (cA, 14, .inl (aN (nup hd N a)))), (b2, .inl (cA, 14, .inl (aN (nup tl N b)))), (b3, .inl (cA, 14, .inl T)), (b5, .inl (cA, 9, .inl (aN (nup (nup ah a (ah a + 1)) b ((nup ah a (ah a + 1)) b + 1)))))] C inS tyS_ok nmS flS_27 dS_take_103 rfl rfl (by decide) rfl rfl rfl (Nat.le_of_ble_eq_true rfl) rfl ?_
        exact hret T _ _ dS_take_106 ⟨hT1, hT2⟩
      · exact absurd c1 (by omega)
    | succ k ih =>
      intro i T hi hT1 hT2
      refine s_iload_n 3 C dS_take_12 rfl ?_
      refine s_aload_n 0 C dS_take_13 rfl ?_
      refine s_get (.int (nI N)) 0 0 C wfP inS flS_27 dS_take_14 rfl rfl (by decide) rfl ?_
      refine s_icmp_geN 56 C dS_take_17 (by decide) (by omega) (by omega) (fun c1 => ?_) (fun c1 => ?_)
      · exact absurd c1 (by omega)
      · have f1 := hhd i (by omega)
        have f2 := htl i (by omega)
        refine s_aload_n 0 C dS_take_20 rfl ?_
        refine s_get (.ref b1) 0 1 C wfP inS flS_9 dS_take_21 rfl rfl (by decide) rfl ?_
        refine s_iload_n 3 C dS_take_24 rfl ?_
        refine s_ialdN 1 C wfP dS_take_25 rfl (by omega) (by decide) ?_
        refine s_iload_n 1 C dS_take_26 rfl ?_
        refine s_icmp_neN 50 C dS_take_27 (by decide) (by omega) (by omega) (fun c2 => ?_) (fun c2 => ?_)
        · refine s_iinc (j := 3) (nI (i + 1)) [(0, .ref s), (1, .int (nI a)), (2, .int (nI b)), (3, .int (nI (i + 1)))] [1, 2, 3, 0] C dS_take_50 rfl (inc1 _) (by decide) rfl ?_
          refine s_goto (tgt := 12) C dS_take_53 (by decide) ?_
          exact ih (i + 1) T (by omega) hT1 hT2
        · refine s_aload_n 0 C dS_take_30 rfl ?_
          refine s_get (.ref b2) 0 2 C wfP inS flS_15 dS_take_31 rfl rfl (by decide) rfl ?_
          refine s_iload_n 3 C dS_take_34 rfl ?_
          refine s_ialdN 2 C wfP dS_take_35 rfl (by omega) (by decide) ?_
          refine s_iload_n 2 C dS_take_36 rfl ?_
          refine s_icmp_neN 50 C dS_take_37 (by decide) (by omega) (by omega) (fun c3 => ?_) (fun c3 => ?_)
          · refine s_iinc (j := 3) (nI (i + 1)) [(0, .ref s), (1, .int (nI a)), (2, .int (nI b)), (3, .int (nI (i + 1)))] [1, 2, 3, 0] C dS_take_50 rfl (inc1 _) (by decide) rfl ?_
            refine s_goto (tgt := 12) C dS_take_53 (by decide) ?_
            exact ih (i + 1) T (by omega) hT1 hT2
          · refine s_aload_n 0 C dS_take_40 rfl ?_
            refine s_get (.ref b3) 0 3 C wfP inS flS_18 dS_take_41 rfl rfl (by decide) rfl ?_
            refine s_aload_n 0 C dS_take_44 rfl ?_
            refine s_get (.int (nI N)) 0 0 C wfP inS flS_27 dS_take_45 rfl rfl (by decide) rfl ?_
            refine s_iload_n 3 C dS_take_48 rfl ?_
            refine s_iast 3 [(s, .inr (3, [.int (nI N), .ref b1, .ref b2, .ref b3, .ref b4, .ref b5, .int en, .int fs, .int fc])), (b1, .inl (cA, 14, .inl (aN hd))), (b2, .inl (cA, 14, .inl (aN tl))), (b3, .inl (cA, 14, .inl (upd T N (nI i)))), (b5, .inl (cA, 9, .inl (aN ah)))] C dS_take_49 rfl (by omega) (by decide) rfl ?_
            refine s_iinc (j := 3) (nI (i + 1)) [(0, .ref s), (1, .int (nI a)), (2, .int (nI b)), (3, .int (nI (i + 1)))] [1, 2, 3, 0] C dS_take_50 rfl (inc1 _) (by decide) rfl ?_
            refine s_goto (tgt := 12) C dS_take_53 (by decide) ?_
            refine ih (i + 1) _ (by omega) (fun j hj => ?_) (Or.inr ⟨i, by omega, ?_, c2, c3⟩)
            · rw [← hT1 j hj]; unfold upd; rw [if_neg hj]
            · unfold upd; rw [if_pos rfl]
  refine loop N 0 _ (by omega) (fun j hj => ?_) (Or.inl ?_)
  · unfold upd; rw [if_neg hj]
  · unfold upd; rw [if_pos rfl]
