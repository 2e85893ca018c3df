/-! the reference: labels that spread along the edges -/
def eqv (fi se : Nat → Nat) (n m u w a b : Nat) : Prop := ∀ d', vld fi se n m u w d' → d' a = d' b
def lbI (fi se : Nat → Nat) (n m u w : Nat) (lb : Nat → Nat) : Prop := ∀ v, rsv n u w v → rsv n u w (lb v) ∧ lb v ≤ v ∧ eqv fi se n m u w v (lb v)
def finP (fi se : Nat → Nat) (n m u w : Nat) (fn : Nat → Nat) : Prop := ∀ v, rsv n u w v → rsv n u w (fn v) ∧ eqv fi se n m u w v (fn v) ∧ ∀ j, rsv n u w j → eqv fi se n m u w v j → fn v ≤ j
theorem fin_ex (fi se : Nat → Nat) (n m u w : Nat) : ∃ fn, finP fi se n m u w fn := by
  have ex : ∀ v, ∃ k, rsv n u w v → rsv n u w k ∧ eqv fi se n m u w v k ∧ ∀ j, rsv n u w j → eqv fi se n m u w v j → k ≤ j := by
    intro v
    by_cases h : rsv n u w v
    · obtain ⟨k, ⟨h1, h2⟩, h3⟩ := mn_ex (fun k => rsv n u w k ∧ eqv fi se n m u w v k) (fun k => k) ⟨v, h, fun _ _ => rfl⟩
      exact ⟨k, fun _ => ⟨h1, h2, fun j hj hj2 => h3 j ⟨hj, hj2⟩⟩⟩
    · exact ⟨0, fun q => absurd q h⟩
  obtain ⟨r, hr⟩ := Classical.axiomOfChoice ex
  exact ⟨r, hr⟩
theorem fin_ff {fi se : Nat → Nat} {n m u w : Nat} {fn : Nat → Nat} (hF : finP fi se n m u w fn) {a b : Nat} (ha : rsv n u w a) (hb : rsv n u w b) (h : eqv fi se n m u w a b) : fn a = fn b := by
  obtain ⟨a1, a2, a3⟩ := hF a ha
  obtain ⟨b1, b2, b3⟩ := hF b hb
  have h1 := a3 (fn b) b1 (fun d' q => (h d' q).trans (b2 d' q))
  have h2 := b3 (fn a) a1 (fun d' q => (h d' q).symm.trans (a2 d' q))
  omega
theorem fin_le {fi se : Nat → Nat} {n m u w : Nat} {fn lb : Nat → Nat} (hF : finP fi se n m u w fn) (hI : lbI fi se n m u w lb) {v : Nat} (hv : rsv n u w v) : fn v ≤ lb v := (hF v hv).2.2 _ (hI v hv).1 (hI v hv).2.2
noncomputable def nfb (n u w : Nat) (fn lb : Nat → Nat) (v : Nat) : Bool := @decide (rsv n u w v ∧ lb v ≠ fn v) (Classical.propDecidable _)
theorem nfb_iff {n u w : Nat} {fn lb : Nat → Nat} {v : Nat} : nfb n u w fn lb v = true ↔ rsv n u w v ∧ lb v ≠ fn v := @decide_eq_true_iff _ (Classical.propDecidable _)
noncomputable def nfc (n u w : Nat) (fn lb : Nat → Nat) : Nat := hsz n (nfb n u w fn lb)
theorem nfc_le (n u w : Nat) (fn lb : Nat → Nat) : nfc n u w fn lb ≤ n := hsz_le n _
/-- one edge -/
def stp (fi se : Nat → Nat) (lb : Nat → Nat) (e : Nat) : Nat → Nat := nup (nup lb (fi e) (min (lb (fi e)) (lb (se e)))) (se e) (min (lb (fi e)) (lb (se e)))
theorem stp_v (fi se lb : Nat → Nat) (e v : Nat) : stp fi se lb e v = if v = se e ∨ v = fi e then min (lb (fi e)) (lb (se e)) else lb v := by
  unfold stp nup
  by_cases h1 : v = se e
  · rw [if_pos h1, if_pos (Or.inl h1)]
  · rw [if_neg h1]
    by_cases h2 : v = fi e
    · rw [if_pos h2, if_pos (Or.inr h2)]
    · rw [if_neg h2, if_neg (by omega)]
theorem stp_I {fi se : Nat → Nat} {n m u w e : Nat} {lb : Nat → Nat} (he : e < m) (h1 : rsv n u w (fi e)) (h2 : rsv n u w (se e)) (hI : lbI fi se n m u w lb) : lbI fi se n m u w (stp fi se lb e) := by
  intro v hv
  rw [stp_v]
  by_cases q : v = se e ∨ v = fi e
  · rw [if_pos q]
    obtain ⟨a1, a2, a3⟩ := hI _ h1
    obtain ⟨b1, b2, b3⟩ := hI _ h2
    have hab : eqv fi se n m u w (fi e) (se e) := fun d' z => z e he h1 h2
    have hva : eqv fi se n m u w v (fi e) := by
      rcases q with q | q
      · rw [q]; exact fun d' z => (hab d' z).symm
      · rw [q]; exact fun _ _ => rfl
    rcases Nat.le_total (lb (fi e)) (lb (se e)) with z | z
    · rw [Nat.min_eq_left z]
      refine ⟨a1, ?_, fun d' y => (hva d' y).trans (a3 d' y)⟩
      rcases q with q | q <;> omega
    · rw [Nat.min_eq_right z]
      refine ⟨b1, ?_, fun d' y => ((hva d' y).trans (hab d' y)).trans (b3 d' y)⟩
      rcases q with q | q <;> omega
  · rw [if_neg q]; exact hI v hv
/-- what holds in a turn: lb0 at its start, the edges below e done -/
def trn (fi se : Nat → Nat) (n m u w : Nat) (fn lb0 lb : Nat → Nat) (e : Nat) : Prop :=
  lbI fi se n m u w lb ∧ (∀ v, rsv n u w v → lb v ≤ lb0 v) ∧ ∀ e', e' < e → rsv n u w (fi e') → rsv n u w (se e') → (lb0 (fi e') = fn (fi e') ∨ lb0 (se e') = fn (se e')) → lb (fi e') = fn (fi e') ∧ lb (se e') = fn (se e')
theorem trn_0 {fi se : Nat → Nat} {n m u w : Nat} {fn lb : Nat → Nat} (hI : lbI fi se n m u w lb) : trn fi se n m u w fn lb lb 0 := ⟨hI, fun _ _ => Nat.le_refl _, fun e' h => absurd h (by omega)⟩
theorem trn_no {fi se : Nat → Nat} {n m u w e : Nat} {fn lb0 lb : Nat → Nat} (h : ¬ (rsv n u w (fi e) ∧ rsv n u w (se e))) (hT : trn fi se n m u w fn lb0 lb e) : trn fi se n m u w fn lb0 lb (e + 1) :=
  ⟨hT.1, hT.2.1, fun e' he' r1 r2 => by
    by_cases q : e' = e
    · subst q; exact absurd ⟨r1, r2⟩ h
    · exact hT.2.2 e' (by omega) r1 r2⟩
theorem trn_on {fi se : Nat → Nat} {n m u w e : Nat} {fn lb0 lb : Nat → Nat} (hF : finP fi se n m u w fn) (he : e < m) (h1 : rsv n u w (fi e)) (h2 : rsv n u w (se e)) (hT : trn fi se n m u w fn lb0 lb e) : trn fi se n m u w fn lb0 (stp fi se lb e) (e + 1) := by
  obtain ⟨t1, t2, t3⟩ := hT
  have hI' := stp_I he h1 h2 t1
  have hle : ∀ v, rsv n u w v → stp fi se lb e v ≤ lb v := by
    intro v hv
    rw [stp_v]
    by_cases q : v = se e ∨ v = fi e
    · rw [if_pos q]
      rcases q with q | q <;> rw [q] <;> omega
    · rw [if_neg q]; exact Nat.le_refl _
  have hkeep : ∀ v, rsv n u w v → lb v = fn v → stp fi se lb e v = fn v := fun v hv q => by
    have a1 := hle v hv
    have a2 := fin_le hF hI' hv
    omega
  refine ⟨hI', fun v hv => Nat.le_trans (hle v hv) (t2 v hv), fun e' he' r1 r2 hor => ?_⟩
  by_cases q : e' = e
  · subst q
    have hab := fin_ff hF h1 h2 (fun d' z => z e' he h1 h2)
    have a1 := fin_le hF t1 h1
    have a2 := fin_le hF t1 h2
    have a3 := t2 _ h1
    have a4 := t2 _ h2
    have e1 : stp fi se lb e' (fi e') = min (lb (fi e')) (lb (se e')) := by rw [stp_v, if_pos (Or.inr rfl)]
    have e2 : stp fi se lb e' (se e') = min (lb (fi e')) (lb (se e')) := by rw [stp_v, if_pos (Or.inl rfl)]
    rw [e1, e2]
    omega
  · obtain ⟨y1, y2⟩ := t3 e' (by omega) r1 r2 hor
    exact ⟨hkeep _ r1 y1, hkeep _ r2 y2⟩
/-- a turn makes one more right, while one is wrong -/
theorem trn_end {fi se : Nat → Nat} {n m u w : Nat} {fn lb0 lb : Nat → Nat} (hfs : hok fi se n m) (hF : finP fi se n m u w fn) (hI0 : lbI fi se n m u w lb0) (hT : trn fi se n m u w fn lb0 lb m) {k : Nat} (h : nfc n u w fn lb0 ≤ k + 1) : nfc n u w fn lb ≤ k := by
  obtain ⟨t1, t2, t3⟩ := hT
  have mono : ∀ v, (nfb n u w fn lb v).toNat ≤ (nfb n u w fn lb0 v).toNat := by
    intro v
    cases q : nfb n u w fn lb v
    · exact Nat.zero_le _
    · have h1 := nfb_iff.mp q
      have : nfb n u w fn lb0 v = true := nfb_iff.mpr ⟨h1.1, fun z => h1.2 (by
        have a1 := t2 v h1.1
        have a2 := fin_le hF t1 h1.1
        omega)⟩
      rw [this]
      exact Nat.le_refl _
  by_cases hz : nfc n u w fn lb0 = 0
  · have : nfc n u w fn lb ≤ nfc n u w fn lb0 := su_le (fun v _ => mono v)
    omega
  · -- a wrong one beside a right one
    have hex : ∃ e, e < m ∧ rsv n u w (fi e) ∧ rsv n u w (se e) ∧ ((lb0 (fi e) = fn (fi e) ∧ lb0 (se e) ≠ fn (se e)) ∨ (lb0 (fi e) ≠ fn (fi e) ∧ lb0 (se e) = fn (se e))) := by
      refine Classical.byContradiction (fun hc => ?_)
      have hex0 : ∃ y, rsv n u w y ∧ lb0 y ≠ fn y := by
        refine Classical.byContradiction (fun hc2 => hz (su_z (fun v _ => ?_)))
        cases q : nfb n u w fn lb0 v
        · rfl
        · exact absurd ⟨v, nfb_iff.mp q⟩ hc2
      obtain ⟨y, hy, hyn⟩ := hex0
      have hv' : vld fi se n m u w (fun v => (nfb n u w fn lb0 v).toNat) := by
        intro e he r1 r2
        show (nfb n u w fn lb0 (fi e)).toNat = (nfb n u w fn lb0 (se e)).toNat
        congr 1
        refine Bool.eq_iff_iff.mpr ?_
        rw [nfb_iff, nfb_iff]
        constructor
        · intro q
          exact ⟨r2, fun z => hc ⟨e, he, r1, r2, Or.inr ⟨q.2, z⟩⟩⟩
        · intro q
          exact ⟨r1, fun z => hc ⟨e, he, r1, r2, Or.inl ⟨z, q.2⟩⟩⟩
      obtain ⟨f1, f2, f3⟩ := hF y hy
      have heq := f2 _ hv'
      have hy1 : nfb n u w fn lb0 y = true := nfb_iff.mpr ⟨hy, hyn⟩
      have hff : lb0 (fn y) = fn (fn y) := by
        have a1 := (hI0 _ f1).2.1
        have a2 := fin_le hF hI0 f1
        have a3 := fin_ff hF hy f1 f2
        omega
      have hy2 : nfb n u w fn lb0 (fn y) = false := by
        cases q : nfb n u w fn lb0 (fn y)
        · rfl
        · exact absurd hff (nfb_iff.mp q).2
      have heq2 : (nfb n u w fn lb0 y).toNat = (nfb n u w fn lb0 (fn y)).toNat := heq
      rw [hy1, hy2] at heq2
      cases heq2
    obtain ⟨e, he, r1, r2, hor⟩ := hex
    obtain ⟨x1, x2, _⟩ := hfs e he
    obtain ⟨y1, y2⟩ := t3 e he r1 r2 (by rcases hor with q | q; exact Or.inl q.1; exact Or.inr q.2)
    have hlt : nfc n u w fn lb < nfc n u w fn lb0 := by
      rcases hor with q | q
      · refine su_lt (k := se e) (fun v _ => mono v) x2 ?_
        have z1 : nfb n u w fn lb0 (se e) = true := nfb_iff.mpr ⟨r2, q.2⟩
        have z2 : nfb n u w fn lb (se e) = false := by
          cases z : nfb n u w fn lb (se e)
          · rfl
          · exact absurd y2 (nfb_iff.mp z).2
        rw [z1, z2]; decide
      · refine su_lt (k := fi e) (fun v _ => mono v) x1 ?_
        have z1 : nfb n u w fn lb0 (fi e) = true := nfb_iff.mpr ⟨r1, q.1⟩
        have z2 : nfb n u w fn lb (fi e) = false := by
          cases z : nfb n u w fn lb (fi e)
          · rfl
          · exact absurd y1 (nfb_iff.mp z).2
        rw [z1, z2]; decide
    omega
theorem lb_done {fi se : Nat → Nat} {n m u w : Nat} {fn lb : Nat → Nat} (hF : finP fi se n m u w fn) (h : nfc n u w fn lb = 0) : vld fi se n m u w lb := by
  have key : ∀ v, rsv n u w v → lb v = fn v := by
    intro v hv
    refine Classical.byContradiction (fun q => ?_)
    have h1 : (nfb n u w fn lb v).toNat ≤ nfc n u w fn lb := su_mem (f := fun j => (nfb n u w fn lb j).toNat) hv.1
    rw [nfb_iff.mpr ⟨hv, q⟩] at h1
    simp at h1
    omega
  intro e he r1 r2
  rw [key _ r1, key _ r2]
  exact fin_ff hF r1 r2 (fun d' z => z e he r1 r2)
/-- the labels as bounds have them -/
def dlb (u w : Nat) (lb : Nat → Nat) (v : Nat) : Nat := if bm u v = true then 0 else if bm w v = true then 1 else lb v + 2
theorem dlb_r {n u w : Nat} {lb : Nat → Nat} {v : Nat} (h : rsv n u w v) : dlb u w lb v = lb v + 2 := by
  unfold dlb
  rw [if_neg (by rw [h.2.1]; decide), if_neg (by rw [h.2.2]; decide)]
theorem dlb_exa {fi se : Nat → Nat} {n m u w : Nat} {lb : Nat → Nat} (hn : n ≤ 9) (hd : dsj u w) (hI : lbI fi se n m u w lb) (hv : vld fi se n m u w lb) : exa fi se n m u w (dlb u w lb) := by
  refine ⟨fun v _ h => if_pos h, fun v _ h => ?_, fun v h => ?_, fun e he r1 r2 => ?_, fun d' hd' a b ha hb hab => ?_⟩
  · unfold dlb
    rw [if_neg (fun q => hd v ⟨q, h⟩), if_pos h]
  · rw [dlb_r h]
    have := (hI v h).1.1
    omega
  · rw [dlb_r r1, dlb_r r2, hv e he r1 r2]
  · rw [dlb_r ha, dlb_r hb] at hab
    rw [(hI a ha).2.2 d' hd', (hI b hb).2.2 d' hd', show lb a = lb b by omega]
/-- only the least of each part counts -/
theorem nbd_lb {fi se : Nat → Nat} {n m u w : Nat} {wa lb : Nat → Nat} (hn : n ≤ 9) (hfs : hok fi se n m) (hd : dsj u w) (hI : lbI fi se n m u w lb) (hv : vld fi se n m u w lb) :
    nbd fi se n m 9 wa (dlb u w lb) = su (fun v => (bm u v).toNat * wa v) n + su (fun e => (bm w (fi e) && bm w (se e)).toNat) m + su (fun l => if dlb u w lb l = l + 2 then (hA n wa (dlb u w lb) (l + 2) + su (fun e => nbt fi se (dlb u w lb) e (l + 2)) m) / 2 else 0) n := by
  have hE := dlb_exa hn hd hI hv
  have e1 : hA n wa (dlb u w lb) 0 = su (fun v => (bm u v).toNat * wa v) n := su_cg (fun v hv => by
    by_cases q : bm u v = true
    · rw [if_pos ((exa_0 hE hv).mpr q), q]; simp
    · rw [if_neg (fun z => q ((exa_0 hE hv).mp z))]
      have : bm u v = false := by cases z : bm u v <;> simp [z] at q ⊢
      rw [this]; simp)
  have e2 : su (fun e => nww fi se (dlb u w lb) e) m = su (fun e => (bm w (fi e) && bm w (se e)).toNat) m := su_cg (fun e he => by
    obtain ⟨x1, x2, _⟩ := hfs e he
    unfold nww
    have a1 := exa_1 hE x1
    have a2 := exa_1 hE x2
    cases z1 : bm w (fi e)
    · rw [if_neg (fun q => by rw [z1] at a1; simp at a1; exact a1 q.1)]; rfl
    · cases z2 : bm w (se e)
      · rw [if_neg (fun q => by rw [z2] at a2; simp at a2; exact a2 q.2)]; rfl
      · rw [if_pos ⟨a1.mpr z1, a2.mpr z2⟩]; rfl)
  have hno : ∀ l, ¬ (l < n ∧ dlb u w lb l = l + 2) → ∀ v, v < n → dlb u w lb v ≠ l + 2 := by
    intro l hl v hvn q
    have hr := exa_rs hE hvn (by omega)
    rw [dlb_r hr] at q
    have hlb : lb v = l := by omega
    obtain ⟨i1, i2, i3⟩ := hI v hr
    rw [hlb] at i1 i3
    refine hl ⟨i1.1, ?_⟩
    rw [dlb_r i1]
    have := i3 lb hv
    omega
  have hz : ∀ l, ¬ (l < n ∧ dlb u w lb l = l + 2) → (hA n wa (dlb u w lb) (l + 2) + su (fun e => nbt fi se (dlb u w lb) e (l + 2)) m) / 2 = 0 := by
    intro l hl
    have h1 := hno l hl
    rw [show hA n wa (dlb u w lb) (l + 2) = 0 from su_z (fun v hv => if_neg (h1 v hv)), su_z (fun e he => ?_)]
    obtain ⟨x1, x2, _⟩ := hfs e he
    unfold nbt
    exact if_neg (by
      rintro (q | q)
      · exact h1 _ x1 q.1
      · exact h1 _ x2 q.2)
  have e3 : su (fun l => (hA n wa (dlb u w lb) (l + 2) + su (fun e => nbt fi se (dlb u w lb) e (l + 2)) m) / 2) 9 = su (fun l => if dlb u w lb l = l + 2 then (hA n wa (dlb u w lb) (l + 2) + su (fun e => nbt fi se (dlb u w lb) e (l + 2)) m) / 2 else 0) n := by
    have hp : ∀ k, su (fun l => (hA n wa (dlb u w lb) (l + 2) + su (fun e => nbt fi se (dlb u w lb) e (l + 2)) m) / 2) (n + k) = su (fun l => if dlb u w lb l = l + 2 then (hA n wa (dlb u w lb) (l + 2) + su (fun e => nbt fi se (dlb u w lb) e (l + 2)) m) / 2 else 0) n := by
      intro k
      induction k with
      | zero =>
        refine su_cg (fun l hl => ?_)
        by_cases q : dlb u w lb l = l + 2
        · rw [if_pos q]
        · rw [if_neg q]; exact hz l (fun z => q z.2)
      | succ k ih =>
        show su (fun l => (hA n wa (dlb u w lb) (l + 2) + su (fun e => nbt fi se (dlb u w lb) e (l + 2)) m) / 2) (n + k) + (hA n wa (dlb u w lb) (n + k + 2) + su (fun e => nbt fi se (dlb u w lb) e (n + k + 2)) m) / 2 = _
        rw [ih, hz (n + k) (fun z => by omega)]
        rfl
    have := hp (9 - n)
    rw [show n + (9 - n) = 9 by omega] at this
    exact this
  unfold nbd
  rw [e1, e2, e3]
/-! sets one by one -/
def okL (f s : Nat) : Prop := hsz 14 (bm s) < hsz 14 (bm f) ∨ (hsz 14 (bm s) = hsz 14 (bm f) ∧ okey f ≤ okey s)
def bI (fi se wa : Nat → Nat) (n m k f : Nat) : Prop := f < 2 ^ m ∧ hfa fi se n m wa (bm f) ∧ ∀ s, s < k → hfa fi se n m wa (bm s) → okL f s
theorem okL_rf (f : Nat) : okL f f := Or.inr ⟨rfl, Nat.le_refl _⟩
theorem okL_tr {a b c : Nat} (h1 : okL a b) (h2 : okL b c) : okL a c := by
  unfold okL at *
  omega
theorem bI_0 (fi se wa : Nat → Nat) (n m : Nat) : bI fi se wa n m 0 0 := by
  refine ⟨Nat.two_pow_pos m, fun v _ => ?_, fun s h => absurd h (by omega)⟩
  rw [hdg, su_z (fun j _ => by rw [bm_0]; simp)]
  exact Nat.zero_le _
theorem bI_end {fi se wa : Nat → Nat} {n m f : Nat} (hn : n ≤ 9) (hm : m ≤ 14) (hfs : hok fi se n m) (h : bI fi se wa n m (2 ^ m) f) : bst fi se 9 m wa (bm f) := by
  obtain ⟨h1, h2, h3⟩ := h
  have z14 : ∀ s, s < 2 ^ m → hsz 14 (bm s) = hsz m (bm s) := fun s hs => by
    have := hsz_pad (M := bm s) (m := m) (fun j hj => bm_ge hs hj) (14 - m)
    rw [show m + (14 - m) = 14 by omega] at this
    exact this
  have key : ∀ K, hfa fi se 9 m wa K → hsz m K ≤ hsz m (bm f) ∧ (hsz m K = hsz m (bm f) → nkey K m ≤ nkey (bm f) m) := by
    intro K hK
    have hb : ∀ j, j < m → bm (tob K m) j = K j := fun j hj => bm_tob K hj
    have hl := tob_lt K m
    have hK' : hfa fi se n m wa (bm (tob K m)) := (hfa_9 hn hfs).mp (hfa_cg (fun j hj => (hb j hj).symm) hK)
    have hz : hsz m (bm (tob K m)) = hsz m K := hsz_cg hb
    have hk : nkey (bm (tob K m)) m = nkey K m := nkey_cg hb
    have := h3 _ hl hK'
    unfold okL at this
    rw [z14 _ hl, z14 _ h1, hz] at this
    refine ⟨by omega, fun e => ?_⟩
    rcases this with q | q
    · omega
    · rcases (okey_le hm h1 hl).mp q.2 with y | y
      · rw [hz] at y; omega
      · rw [← hk]; exact y.2
  exact ⟨(hfa_9 hn hfs).mpr h2, fun K hK => (key K hK).1, fun K hK e => (key K hK).2 e⟩
theorem okey_bd (s : Nat) : okey s < 2 ^ 18 := by
  unfold okey
  have := hsz_le 14 (bm s)
  omega
def pky (u w : Nat) : Nat := okey u * 2 ^ 18 + okey w
theorem pky_lt {u w a b : Nat} (hu : u < 2 ^ 14) (ha : a < 2 ^ 14) : pky u w < pky a b ↔ okey u < okey a ∨ (u = a ∧ okey w < okey b) := by
  unfold pky
  have b1 := okey_bd w
  have b2 := okey_bd b
  constructor
  · intro h
    rcases Nat.lt_trichotomy (okey u) (okey a) with q | q | q
    · exact Or.inl q
    · exact Or.inr ⟨okey_inj hu ha q, by omega⟩
    · omega
  · rintro (h | ⟨h1, h2⟩)
    · omega
    · subst h1; omega
theorem isWit_of {fi se wa : Nat → Nat} {n m a b : Nat} {B : Nat → Bool} (hn : n ≤ 9) (hB : bst fi se 9 m wa B) (h1 : a < 2 ^ n) (h2 : okW fi se n m wa (hsz m B) a b) (h3 : ∀ u w, u < 2 ^ n → okW fi se n m wa (hsz m B) u w → pky a b ≤ pky u w) : isWit fi se wa n m a b := by
  refine ⟨B, hB, h1, h2, fun u' hu' ⟨w', hw'⟩ => ?_, fun w' hw' => ?_⟩
  · have := h3 u' w' hu' hw'
    unfold pky at this
    have b1 := okey_bd b
    have b2 := okey_bd w'
    omega
  · have := h3 a w' h1 hw'
    unfold pky at this
    omega
