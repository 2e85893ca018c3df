/-! the bound of two sets of vertices, by labels: 0 for U, 1 for W, the parts from 2 on -/
theorem su_labc (k c n : Nat) : su (fun l => if k = l + 2 then c else 0) n ≤ c := by
  have h : su (fun l => if k = l + 2 then c else 0) n = c * su (fun l => if k = l + 2 then 1 else 0) n := by
    rw [← su_ml]
    exact su_cg (fun l _ => by split <;> simp)
  rw [h]
  have := Nat.mul_le_mul_left c (su_lab k n)
  omega
theorem su_half (f : Nat → Nat) (n : Nat) : su (fun l => f l / 2) n ≤ su f n / 2 := by
  induction n with
  | zero => exact Nat.zero_le _
  | succ n ih =>
    show su (fun l => f l / 2) n + f n / 2 ≤ (su f n + f n) / 2
    omega
theorem su_in {f : Nat → Nat} {k n c : Nat} (h : k < n) (hc : c ≤ f k) : c ≤ su f n := Nat.le_trans hc (su_mem h)
/-- finer labels give no greater bound -/
theorem nbd_mono {fi se : Nat → Nat} {n m L L' : Nat} {b d d' : Nat → Nat} (hfs : hok fi se n m) (h0 : ∀ v, v < n → (d v = 0 ↔ d' v = 0)) (h1 : ∀ v, v < n → (d v = 1 ↔ d' v = 1)) (hl' : ∀ v, v < n → d' v < L' + 2) (hfin : ∀ x y, x < n → y < n → 2 ≤ d x → d x = d y → d' x = d' y) :
    nbd fi se n m L b d ≤ nbd fi se n m L' b d' := by
  have ex : ∀ l, ∃ k, ∀ v, v < n → d v = l + 2 → d' v = k + 2 := by
    intro l
    by_cases h : ∃ v, v < n ∧ d v = l + 2
    · obtain ⟨v, hv, hd⟩ := h
      have a0 := h0 v hv
      have a1 := h1 v hv
      refine ⟨d' v - 2, fun x hx hdx => ?_⟩
      have := hfin v x hv hx (by omega) (by omega)
      omega
    · exact ⟨0, fun v hv hd => absurd ⟨v, hv, hd⟩ h⟩
  obtain ⟨φ, hφ⟩ := Classical.axiomOfChoice ex
  have e0 : hA n b d 0 = hA n b d' 0 := su_cg (fun v hv => by
    by_cases q : d v = 0
    · rw [if_pos q, if_pos ((h0 v hv).mp q)]
    · rw [if_neg q, if_neg (fun z => q ((h0 v hv).mpr z))])
  have e1 : su (fun e => nww fi se d e) m = su (fun e => nww fi se d' e) m := su_cg (fun e he => by
    obtain ⟨x1, x2, _⟩ := hfs e he
    unfold nww
    have a1 := h1 _ x1
    have a2 := h1 _ x2
    by_cases q : d (fi e) = 1 ∧ d (se e) = 1
    · rw [if_pos q, if_pos ⟨a1.mp q.1, a2.mp q.2⟩]
    · rw [if_neg q, if_neg (fun z => q ⟨a1.mpr z.1, a2.mpr z.2⟩)])
  -- what a label holds goes into the label that it is sent to
  have hY : ∀ k, su (fun l => if φ l = k then hA n b d (l + 2) + su (fun e => nbt fi se d e (l + 2)) m else 0) L ≤ hA n b d' (k + 2) + su (fun e => nbt fi se d' e (k + 2)) m := by
    intro k
    have s1 : su (fun l => if φ l = k then hA n b d (l + 2) + su (fun e => nbt fi se d e (l + 2)) m else 0) L = su (fun l => su (fun v => if φ l = k ∧ d v = l + 2 then b v else 0) n) L + su (fun l => su (fun e => if φ l = k then nbt fi se d e (l + 2) else 0) m) L := by
      rw [← su_ad]
      refine su_cg (fun l _ => ?_)
      by_cases q : φ l = k
      · rw [if_pos q]
        congr 1
        · exact su_cg (fun v _ => by
            by_cases r : d v = l + 2
            · rw [if_pos r, if_pos ⟨q, r⟩]
            · rw [if_neg r, if_neg (fun z => r z.2)])
        · exact su_cg (fun e _ => by rw [if_pos q])
      · rw [if_neg q, su_z (fun v _ => if_neg (fun z => q z.1)), su_z (fun e _ => if_neg q)]
    rw [s1, su_sw (fun l v => if φ l = k ∧ d v = l + 2 then b v else 0), su_sw (fun l e => if φ l = k then nbt fi se d e (l + 2) else 0)]
    refine Nat.add_le_add (su_le (fun v hv => ?_)) (su_le (fun e he => ?_))
    · show su (fun l => if φ l = k ∧ d v = l + 2 then b v else 0) L ≤ (if d' v = k + 2 then b v else 0)
      by_cases q : d' v = k + 2
      · rw [if_pos q]
        refine Nat.le_trans (su_le (fun l _ => ?_)) (su_labc (d v) (b v) L)
        by_cases r : d v = l + 2
        · rw [if_pos r]; split <;> omega
        · rw [if_neg r, if_neg (fun z => r z.2)]; omega
      · rw [if_neg q, su_z (fun l _ => if_neg (fun z => q (by rw [hφ l v hv z.2, z.1])))]
        omega
    · show su (fun l => if φ l = k then nbt fi se d e (l + 2) else 0) L ≤ nbt fi se d' e (k + 2)
      obtain ⟨x1, x2, _⟩ := hfs e he
      have a1 := h1 _ x1
      have a2 := h1 _ x2
      by_cases q : nbt fi se d' e (k + 2) = 1
      · rw [q]
        refine Nat.le_trans (su_le (g := fun l => if (if d (fi e) = 1 then d (se e) else d (fi e)) = l + 2 then 1 else 0) (fun l _ => ?_)) (su_lab _ L)
        by_cases r : φ l = k
        · rw [if_pos r]
          unfold nbt
          by_cases t : (d (fi e) = l + 2 ∧ d (se e) = 1) ∨ (d (fi e) = 1 ∧ d (se e) = l + 2)
          · rw [if_pos t]
            rcases t with t | t
            · rw [if_neg (show ¬ d (fi e) = 1 by omega), if_pos t.1]; exact Nat.le_refl _
            · rw [if_pos t.1, if_pos t.2]; exact Nat.le_refl _
          · rw [if_neg t]; omega
        · rw [if_neg r]; omega
      · have q0 : nbt fi se d' e (k + 2) = 0 := by
          unfold nbt at q ⊢
          split
          · rename_i z; rw [if_pos z] at q; omega
          · rfl
        rw [q0, su_z (fun l _ => ?_)]
        · omega
        · by_cases r : φ l = k
          · rw [if_pos r]
            unfold nbt
            refine if_neg (fun t => ?_)
            unfold nbt at q0
            rcases t with t | t
            · have := hφ l _ x1 t.1
              rw [if_pos (Or.inl ⟨by rw [this, r], a2.mp t.2⟩)] at q0
              omega
            · have := hφ l _ x2 t.2
              rw [if_pos (Or.inr ⟨a1.mp t.1, by rw [this, r]⟩)] at q0
              omega
          · rw [if_neg r]
  have hsum : su (fun l => (hA n b d (l + 2) + su (fun e => nbt fi se d e (l + 2)) m) / 2) L ≤ su (fun k => (hA n b d' (k + 2) + su (fun e => nbt fi se d' e (k + 2)) m) / 2) L' := by
    have t1 : su (fun l => (hA n b d (l + 2) + su (fun e => nbt fi se d e (l + 2)) m) / 2) L ≤ su (fun l => su (fun k => (if φ l = k then hA n b d (l + 2) + su (fun e => nbt fi se d e (l + 2)) m else 0) / 2) L') L := by
      refine su_le (fun l _ => ?_)
      by_cases hz : ∃ v, v < n ∧ d v = l + 2
      · obtain ⟨v, hv, hd⟩ := hz
        have hk := hφ l v hv hd
        have hlt := hl' v hv
        refine su_in (k := φ l) (by omega) ?_
        rw [if_pos rfl]; exact Nat.le_refl _
      · have z1 : hA n b d (l + 2) = 0 := su_z (fun v hv => if_neg (fun q => hz ⟨v, hv, q⟩))
        have z2 : su (fun e => nbt fi se d e (l + 2)) m = 0 := su_z (fun e he => by
          obtain ⟨x1, x2, _⟩ := hfs e he
          unfold nbt
          refine if_neg (fun t => ?_)
          rcases t with t | t
          · exact hz ⟨_, x1, t.1⟩
          · exact hz ⟨_, x2, t.2⟩)
        rw [z1, z2]; exact Nat.zero_le _
    refine Nat.le_trans t1 ?_
    rw [su_sw (fun l k => (if φ l = k then hA n b d (l + 2) + su (fun e => nbt fi se d e (l + 2)) m else 0) / 2)]
    refine su_le (fun k _ => ?_)
    refine Nat.le_trans (su_half (fun l => if φ l = k then hA n b d (l + 2) + su (fun e => nbt fi se d e (l + 2)) m else 0) L) ?_
    exact Nat.div_le_div_right (hY k)
  unfold nbd
  omega
/-- no fair set has more edges than a bound -/
theorem nbd_weak {fi se : Nat → Nat} {n m L : Nat} {b d : Nat → Nat} {M : Nat → Bool} (hfs : hok fi se n m) (hv : nva fi se m d) (hl : ∀ v, v < n → d v < L + 2) (hM : hfa fi se n m b M) : hsz m M ≤ nbd fi se n m L b d := by
  have hw : ∀ l, su (fun j => (M j).toNat * ((if d (fi j) = l then 1 else 0) + (if d (se j) = l then 1 else 0))) m ≤ hA n b d l := by
    intro l
    rw [← hdg_w hfs (fun v => if d v = l then 1 else 0) M]
    refine su_le (fun v hv => ?_)
    have := hM v hv
    show (if d v = l then 1 else 0) * hdg fi se m M v ≤ if d v = l then b v else 0
    split <;> omega
  -- the edges of a part, those to W among them
  have ht : ∀ l, su (fun e => (M e).toNat * (if (d (fi e) = l + 2 ∧ (d (se e) = l + 2 ∨ d (se e) = 1)) ∨ (d (fi e) = 1 ∧ d (se e) = l + 2) then 1 else 0)) m ≤ (hA n b d (l + 2) + su (fun e => nbt fi se d e (l + 2)) m) / 2 := by
    intro l
    have h2 : 2 * su (fun e => (M e).toNat * (if (d (fi e) = l + 2 ∧ (d (se e) = l + 2 ∨ d (se e) = 1)) ∨ (d (fi e) = 1 ∧ d (se e) = l + 2) then 1 else 0)) m ≤ su (fun j => (M j).toNat * ((if d (fi j) = l + 2 then 1 else 0) + (if d (se j) = l + 2 then 1 else 0))) m + su (fun e => nbt fi se d e (l + 2)) m := by
      rw [← su_ml, ← su_ad]
      refine su_le (fun e _ => ?_)
      unfold nbt
      cases M e
      · simp
      · simp only [Bool.toNat_true, Nat.one_mul]
        by_cases q1 : d (fi e) = l + 2
        · by_cases q2 : d (se e) = l + 2
          · rw [if_pos q1, if_pos q2, if_pos (Or.inl ⟨q1, Or.inl q2⟩)]; omega
          · by_cases q3 : d (se e) = 1
            · rw [if_pos q1, if_neg q2, if_pos (Or.inl ⟨q1, Or.inr q3⟩), if_pos (Or.inl ⟨q1, q3⟩)]; omega
            · rw [if_neg (c := (d (fi e) = l + 2 ∧ (d (se e) = l + 2 ∨ d (se e) = 1)) ∨ (d (fi e) = 1 ∧ d (se e) = l + 2)) (by omega)]; omega
        · by_cases q4 : d (fi e) = 1 ∧ d (se e) = l + 2
          · rw [if_pos (Or.inr q4), if_neg q1, if_pos q4.2, if_pos (Or.inr q4)]; omega
          · rw [if_neg (c := (d (fi e) = l + 2 ∧ (d (se e) = l + 2 ∨ d (se e) = 1)) ∨ (d (fi e) = 1 ∧ d (se e) = l + 2)) (by omega)]; omega
    have := hw (l + 2)
    omega
  have hall : hsz m M ≤ su (fun j => (M j).toNat * ((if d (fi j) = 0 then 1 else 0) + (if d (se j) = 0 then 1 else 0))) m + su (fun e => nww fi se d e) m + su (fun e => su (fun l => (M e).toNat * (if (d (fi e) = l + 2 ∧ (d (se e) = l + 2 ∨ d (se e) = 1)) ∨ (d (fi e) = 1 ∧ d (se e) = l + 2) then 1 else 0)) L) m := by
    rw [← su_ad, ← su_ad]
    refine su_le (fun e he => ?_)
    obtain ⟨x1, x2, _⟩ := hfs e he
    have b1 := hl _ x1
    have b2 := hl _ x2
    unfold nww
    cases hMe : M e
    · simp
    · simp only [Bool.toNat_true, Nat.one_mul]
      by_cases q1 : d (fi e) = 0
      · rw [if_pos q1]; omega
      · by_cases q2 : d (se e) = 0
        · rw [if_pos q2]; omega
        · by_cases q3 : d (fi e) = 1 ∧ d (se e) = 1
          · rw [if_pos q3]; omega
          · have hk : ∃ k, k < L ∧ ((d (fi e) = k + 2 ∧ (d (se e) = k + 2 ∨ d (se e) = 1)) ∨ (d (fi e) = 1 ∧ d (se e) = k + 2)) := by
              by_cases q4 : d (fi e) = 1
              · exact ⟨d (se e) - 2, by omega, by omega⟩
              · by_cases q5 : d (se e) = 1
                · exact ⟨d (fi e) - 2, by omega, by omega⟩
                · have := hv e he (by omega) (by omega)
                  exact ⟨d (fi e) - 2, by omega, by omega⟩
            obtain ⟨k, hk1, hk2⟩ := hk
            have := su_in (f := fun l => if (d (fi e) = l + 2 ∧ (d (se e) = l + 2 ∨ d (se e) = 1)) ∨ (d (fi e) = 1 ∧ d (se e) = l + 2) then 1 else 0) (c := 1) hk1 (by rw [if_pos hk2]; exact Nat.le_refl _)
            omega
  rw [su_sw (fun e l => (M e).toNat * (if (d (fi e) = l + 2 ∧ (d (se e) = l + 2 ∨ d (se e) = 1)) ∨ (d (fi e) = 1 ∧ d (se e) = l + 2) then 1 else 0))] at hall
  have h3 := su_le (n := L) (fun l _ => ht l)
  have h4 := hw 0
  unfold nbd
  omega
/-! labels as fine as can be -/
def rsv (n u w v : Nat) : Prop := v < n ∧ bm u v = false ∧ bm w v = false
def vld (fi se : Nat → Nat) (n m u w : Nat) (d : Nat → Nat) : Prop := ∀ e, e < m → rsv n u w (fi e) → rsv n u w (se e) → d (fi e) = d (se e)
def exa (fi se : Nat → Nat) (n m u w : Nat) (d : Nat → Nat) : Prop :=
  (∀ v, v < n → bm u v = true → d v = 0) ∧ (∀ v, v < n → bm w v = true → d v = 1) ∧ (∀ v, rsv n u w v → 2 ≤ d v ∧ d v < 11) ∧ vld fi se n m u w d ∧ ∀ d', vld fi se n m u w d' → ∀ a b, rsv n u w a → rsv n u w b → d a = d b → d' a = d' b
def dsj (u w : Nat) : Prop := ∀ v, ¬ (bm u v = true ∧ bm w v = true)
theorem exa_ex (fi se : Nat → Nat) {n m u w : Nat} (hn : n ≤ 9) (hd : dsj u w) : ∃ d, exa fi se n m u w d := by
  have ex : ∀ v, ∃ k, k < 9 ∧ (rsv n u w v → rsv n u w k ∧ (∀ d', vld fi se n m u w d' → d' v = d' k) ∧ ∀ j, rsv n u w j → (∀ d', vld fi se n m u w d' → d' v = d' j) → k ≤ j) := by
    intro v
    by_cases h : rsv n u w v
    · obtain ⟨k, ⟨h1, h2⟩, h3⟩ := mn_ex (fun k => rsv n u w k ∧ ∀ d', vld fi se n m u w d' → d' v = d' k) (fun k => k) ⟨v, h, fun _ _ => rfl⟩
      have := h1.1
      exact ⟨k, by omega, fun _ => ⟨h1, h2, fun j hj hj2 => h3 j ⟨hj, hj2⟩⟩⟩
    · exact ⟨0, by omega, fun q => absurd q h⟩
  obtain ⟨r, hr⟩ := Classical.axiomOfChoice ex
  have ru : ∀ v, bm u v = true → bm w v = false := fun v h => by
    cases q : bm w v
    · rfl
    · exact absurd ⟨h, q⟩ (hd v)
  have dr : ∀ v, rsv n u w v → (if bm u v = true then 0 else if bm w v = true then 1 else r v + 2) = r v + 2 := by
    intro v h
    rw [if_neg (by rw [h.2.1]; decide), if_neg (by rw [h.2.2]; decide)]
  refine ⟨fun v => if bm u v = true then 0 else if bm w v = true then 1 else r v + 2, fun v _ h => if_pos h, fun v _ h => ?_, fun v h => ?_, fun e he h1 h2 => ?_, fun d' hd' a b ha hb hab => ?_⟩
  · have : ¬ bm u v = true := fun q => hd v ⟨q, h⟩
    show (if bm u v = true then 0 else if bm w v = true then 1 else r v + 2) = 1
    rw [if_neg this, if_pos h]
  · show 2 ≤ (if bm u v = true then 0 else if bm w v = true then 1 else r v + 2) ∧ (if bm u v = true then 0 else if bm w v = true then 1 else r v + 2) < 11
    rw [dr v h]
    have := (hr v).1
    omega
  · show (if bm u (fi e) = true then 0 else if bm w (fi e) = true then 1 else r (fi e) + 2) = (if bm u (se e) = true then 0 else if bm w (se e) = true then 1 else r (se e) + 2)
    rw [dr _ h1, dr _ h2]
    obtain ⟨a1, a2, a3⟩ := (hr (fi e)).2 h1
    obtain ⟨b1, b2, b3⟩ := (hr (se e)).2 h2
    have c1 := a3 (r (se e)) b1 (fun d' q => (q e he h1 h2).trans (b2 d' q))
    have c2 := b3 (r (fi e)) a1 (fun d' q => (q e he h1 h2).symm.trans (a2 d' q))
    omega
  · have hab' : (if bm u a = true then 0 else if bm w a = true then 1 else r a + 2) = (if bm u b = true then 0 else if bm w b = true then 1 else r b + 2) := hab
    rw [dr _ ha, dr _ hb] at hab'
    have e1 : r a = r b := by omega
    rw [((hr a).2 ha).2.1 d' hd', ((hr b).2 hb).2.1 d' hd', e1]
theorem exa_cls {n u w v : Nat} (hv : v < n) : bm u v = true ∨ bm w v = true ∨ rsv n u w v := by
  cases h1 : bm u v
  · cases h2 : bm w v
    · exact Or.inr (Or.inr ⟨hv, h1, h2⟩)
    · exact Or.inr (Or.inl rfl)
  · exact Or.inl rfl
theorem exa_nva {fi se : Nat → Nat} {n m u w : Nat} {d : Nat → Nat} (hfs : hok fi se n m) (h : exa fi se n m u w d) : nva fi se m d := by
  intro e he h1 h2
  obtain ⟨x1, x2, _⟩ := hfs e he
  have r1 : rsv n u w (fi e) := by
    rcases exa_cls (u := u) (w := w) x1 with q | q | q
    · rw [h.1 _ x1 q] at h1; omega
    · rw [h.2.1 _ x1 q] at h1; omega
    · exact q
  have r2 : rsv n u w (se e) := by
    rcases exa_cls (u := u) (w := w) x2 with q | q | q
    · rw [h.1 _ x2 q] at h2; omega
    · rw [h.2.1 _ x2 q] at h2; omega
    · exact q
  exact h.2.2.2.1 e he r1 r2
theorem exa_lt {fi se : Nat → Nat} {n m u w : Nat} {d : Nat → Nat} (h : exa fi se n m u w d) {v : Nat} (hv : v < n) : d v < 9 + 2 := by
  rcases exa_cls (u := u) (w := w) hv with q | q | q
  · rw [h.1 v hv q]; omega
  · rw [h.2.1 v hv q]; omega
  · exact (h.2.2.1 v q).2
theorem exa_0 {fi se : Nat → Nat} {n m u w : Nat} {d : Nat → Nat} (h : exa fi se n m u w d) {v : Nat} (hv : v < n) : d v = 0 ↔ bm u v = true := by
  refine ⟨fun q => ?_, h.1 v hv⟩
  rcases exa_cls (u := u) (w := w) hv with z | z | z
  · exact z
  · rw [h.2.1 v hv z] at q; omega
  · have := (h.2.2.1 v z).1; omega
theorem exa_1 {fi se : Nat → Nat} {n m u w : Nat} {d : Nat → Nat} (h : exa fi se n m u w d) {v : Nat} (hv : v < n) : d v = 1 ↔ bm w v = true := by
  refine ⟨fun q => ?_, h.2.1 v hv⟩
  rcases exa_cls (u := u) (w := w) hv with z | z | z
  · rw [h.1 v hv z] at q; omega
  · exact z
  · have := (h.2.2.1 v z).1; omega
theorem exa_rs {fi se : Nat → Nat} {n m u w : Nat} {d : Nat → Nat} (h : exa fi se n m u w d) {v : Nat} (hv : v < n) (h2 : 2 ≤ d v) : rsv n u w v := by
  rcases exa_cls (u := u) (w := w) hv with z | z | z
  · rw [h.1 v hv z] at h2; omega
  · rw [h.2.1 v hv z] at h2; omega
  · exact z
/-- all finest labels give one bound -/
theorem exa_un {fi se : Nat → Nat} {n m u w : Nat} {b d d' : Nat → Nat} (hfs : hok fi se n m) (h : exa fi se n m u w d) (h' : exa fi se n m u w d') : nbd fi se n m 9 b d = nbd fi se n m 9 b d' := by
  refine Nat.le_antisymm (nbd_mono hfs (fun v hv => (exa_0 h hv).trans (exa_0 h' hv).symm) (fun v hv => (exa_1 h hv).trans (exa_1 h' hv).symm) (fun v hv => exa_lt h' hv) (fun x y hx hy h2 e => ?_)) (nbd_mono hfs (fun v hv => (exa_0 h' hv).trans (exa_0 h hv).symm) (fun v hv => (exa_1 h' hv).trans (exa_1 h hv).symm) (fun v hv => exa_lt h hv) (fun x y hx hy h2 e => ?_))
  · exact h.2.2.2.2 d' h'.2.2.2.1 x y (exa_rs h hx h2) (exa_rs h hy (by omega)) e
  · exact h'.2.2.2.2 d h.2.2.2.1 x y (exa_rs h' hx h2) (exa_rs h' hy (by omega)) e
/-- THE BOUND of u and w -/
noncomputable def bnd (fi se : Nat → Nat) (n m : Nat) (b : Nat → Nat) (u w : Nat) : Nat := nbd fi se n m 9 b (Classical.epsilon (exa fi se n m u w))
theorem bnd_is {fi se : Nat → Nat} {n m u w : Nat} {b d : Nat → Nat} (hfs : hok fi se n m) (h : exa fi se n m u w d) : bnd fi se n m b u w = nbd fi se n m 9 b d :=
  exa_un hfs (Classical.epsilon_spec ⟨d, h⟩) h
/-- some bound is as many as the best set has -/
theorem bnd_ex {fi se : Nat → Nat} {n m : Nat} (b : Nat → Nat) (hn : n ≤ 9) (hfs : hok fi se n m) {M : Nat → Bool} (hM : hmx fi se n m b M) : ∃ u w, u < 2 ^ n ∧ w < 2 ^ n ∧ dsj u w ∧ bnd fi se n m b u w = hsz m M := by
  obtain ⟨d, N, hv, hl, hN, hb⟩ := dual b hfs
  have bu : ∀ v, bm (tob (fun v => decide (d v = 0)) n) v = (decide (v < n) && decide (d v = 0)) := fun v => tob_bit _ n v
  have bw : ∀ v, bm (tob (fun v => decide (d v = 1)) n) v = (decide (v < n) && decide (d v = 1)) := fun v => tob_bit _ n v
  have hdj : dsj (tob (fun v => decide (d v = 0)) n) (tob (fun v => decide (d v = 1)) n) := by
    intro v h
    rw [bu, bw] at h
    simp at h
    omega
  refine ⟨tob (fun v => decide (d v = 0)) n, tob (fun v => decide (d v = 1)) n, tob_lt _ _, tob_lt _ _, hdj, ?_⟩
  obtain ⟨dE, hE⟩ := exa_ex fi se (m := m) hn hdj
  rw [bnd_is hfs hE]
  have i0 : ∀ v, v < n → (dE v = 0 ↔ d v = 0) := fun v hv => by
    rw [exa_0 hE hv, bu]; simp [hv]
  have i1 : ∀ v, v < n → (dE v = 1 ↔ d v = 1) := fun v hv => by
    rw [exa_1 hE hv, bw]; simp [hv]
  have up : nbd fi se n m 9 b dE ≤ nbd fi se n m (n + 2 * m) b d := by
    refine nbd_mono hfs i0 i1 (fun v _ => hl v) (fun x y hx hy h2 e => ?_)
    refine hE.2.2.2.2 d (fun e' he' r1 r2 => ?_) x y (exa_rs hE hx h2) (exa_rs hE hy (by omega)) e
    have a1 := i0 _ r1.1
    have a2 := i1 _ r1.1
    have a3 := i0 _ r2.1
    have a4 := i1 _ r2.1
    have b1 := hE.2.2.1 _ r1
    have b2 := hE.2.2.1 _ r2
    exact hv e' he' (by omega) (by omega)
  have lo := nbd_weak (L := 9) (b := b) hfs (exa_nva hfs hE) (fun v hv => exa_lt hE hv) hM.1
  have := hM.2 N hN
  omega
