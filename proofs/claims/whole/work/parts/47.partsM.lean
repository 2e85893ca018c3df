/-! parts of a set of vertices, tables over sets -/
def adj (fi se : Nat → Nat) (m a b : Nat) : Prop := ∃ e, e < m ∧ ((fi e = a ∧ se e = b) ∨ (fi e = b ∧ se e = a))
theorem adj_sy {fi se : Nat → Nat} {m a b : Nat} (h : adj fi se m a b) : adj fi se m b a := by
  obtain ⟨e, he, q⟩ := h
  exact ⟨e, he, q.symm⟩
def isPt (fi se : Nat → Nat) (m s p t : Nat) : Prop :=
  bm s t = true ∧ (∀ j, t < j → bm s j = false) ∧ bm p t = true ∧ (∀ a, bm p a = true → bm s a = true) ∧ (∀ a b, adj fi se m a b → bm p a = true → bm s b = true → bm p b = true) ∧ ∀ q : Nat → Prop, q t → (∀ a b, adj fi se m a b → q a → bm s a = true → bm s b = true → q b) → ∀ a, bm p a = true → q a
def prt (fi se : Nat → Nat) (m s p : Nat) : Prop := ∃ t, isPt fi se m s p t
theorem bm_ndf (a b i : Nat) : bm (ndf a b) i = (bm a i && !bm b i) := ndf_bit a b i
theorem bm_orr (a b i : Nat) : bm (a ||| b) i = (bm a i || bm b i) := Nat.testBit_or a b i
theorem bm_and (a b i : Nat) : bm (a &&& b) i = (bm a i && bm b i) := Nat.testBit_and a b i
theorem bm_xor (a b i : Nat) : bm (a ^^^ b) i = (bm a i ^^ bm b i) := Nat.testBit_xor a b i
theorem bm_pow (k i : Nat) : bm (2 ^ k) i = decide (i = k) := by
  show (2 ^ k).testBit i = _
  rw [Nat.testBit_two_pow]
  simp [eq_comm]
theorem bm_ne0 {s : Nat} : s ≠ 0 ↔ ∃ i, bm s i = true := by
  constructor
  · intro h
    refine Classical.byContradiction (fun hc => h (Nat.eq_of_testBit_eq (fun i => ?_)))
    rw [Nat.zero_testBit]
    cases q : s.testBit i
    · rfl
    · exact absurd ⟨i, q⟩ hc
  · rintro ⟨i, hi⟩ h
    subst h
    rw [bm_0] at hi; cases hi
theorem bm_lt {s n : Nat} (h : ∀ i, bm s i = true → i < n) : s < 2 ^ n := by
  refine Nat.lt_pow_two_of_testBit _ (fun i hi => ?_)
  cases q : s.testBit i
  · rfl
  · have := h i q; omega
theorem lt_bm {s n i : Nat} (h : s < 2 ^ n) (hi : bm s i = true) : i < n := by
  refine Nat.lt_of_not_le (fun q => ?_)
  rw [bm_ge h q] at hi; cases hi
/-- what holds in partOf's loop -/
def pJ (fi se : Nat → Nat) (m v low rest jn : Nat) : Prop :=
  (∀ a, bm rest a = true → bm low a = true) ∧ (∀ a b, adj fi se m a b → bm rest a = true → bm low b = true → bm rest b = true) ∧ bm jn v = true ∧ (∀ a, bm jn a = true → a = v ∨ (bm low a = true ∧ bm rest a = false)) ∧
  (∀ a b, adj fi se m a b → bm low a = true → bm rest a = false → bm low b = true → bm jn a = true → bm jn b = true) ∧ (∀ a, adj fi se m v a → bm low a = true → bm rest a = false → bm jn a = true) ∧
  ∀ q : Nat → Prop, q v → (∀ a b, adj fi se m a b → q a → (a = v ∨ bm low a = true) → (b = v ∨ bm low b = true) → q b) → ∀ a, bm jn a = true → q a
theorem pJ_0 (fi se : Nat → Nat) (m v low : Nat) : pJ fi se m v low low (2 ^ v) := by
  have hb : ∀ a, bm (2 ^ v) a = true ↔ a = v := fun a => by rw [bm_pow]; simp
  refine ⟨fun _ h => h, fun a b _ _ h => h, (hb v).mpr rfl, fun a h => Or.inl ((hb a).mp h), fun a b _ h1 h2 => ?_, fun a _ h1 h2 => ?_, fun q hq _ a h => ?_⟩
  · rw [h1] at h2; cases h2
  · rw [h1] at h2; cases h2
  · rw [(hb a).mp h]; exact hq
theorem pJ_step {fi se : Nat → Nat} {m v low rest jn nx nr : Nat} (hv : bm low v = false) (hnr : ∀ c, bm nr c = true ↔ adj fi se m v c) (h : pJ fi se m v low rest jn) (hp : prt fi se m rest nx) :
    pJ fi se m v low (ndf rest nx) (if nx &&& nr ≠ 0 then jn ||| nx else jn) := by
  obtain ⟨t, t1, t2, t3, t4, t5, t6⟩ := hp
  obtain ⟨h1, h2, h3, h4, h5, h6, h7⟩ := h
  have hr : ∀ a, bm (ndf rest nx) a = true ↔ bm rest a = true ∧ bm nx a = false := fun a => by rw [bm_ndf]; simp
  have hrf : ∀ a, bm (ndf rest nx) a = false ↔ bm rest a = false ∨ bm nx a = true := fun a => by
    rw [bm_ndf]; cases bm rest a <;> cases bm nx a <;> simp
  have hc : (nx &&& nr ≠ 0) ↔ ∃ c, bm nx c = true ∧ adj fi se m v c := by
    rw [bm_ne0]
    constructor
    · rintro ⟨i, hi⟩
      rw [bm_and] at hi
      simp only [Bool.and_eq_true] at hi
      exact ⟨i, hi.1, (hnr i).mp hi.2⟩
    · rintro ⟨i, hi, hi2⟩
      exact ⟨i, by rw [bm_and, hi, (hnr i).mpr hi2]; rfl⟩
  have hj : ∀ a, bm (if nx &&& nr ≠ 0 then jn ||| nx else jn) a = true ↔ bm jn a = true ∨ ((nx &&& nr ≠ 0) ∧ bm nx a = true) := by
    intro a
    by_cases q : nx &&& nr ≠ 0
    · rw [if_pos q, bm_orr]; simp [q]
    · rw [if_neg q]; simp [q]
  refine ⟨fun a ha => h1 a ((hr a).mp ha).1, fun a b hab ha hb => ?_, (hj v).mpr (Or.inl h3), fun a ha => ?_, fun a b hab la ra lb ja => ?_, fun a hva la ra => ?_, fun q qv qc a ha => ?_⟩
  · obtain ⟨a1, a2⟩ := (hr a).mp ha
    refine (hr b).mpr ⟨h2 a b hab a1 hb, ?_⟩
    cases z : bm nx b
    · rfl
    · have := t5 b a (adj_sy hab) z a1
      rw [this] at a2; cases a2
  · rcases (hj a).mp ha with z | ⟨_, z⟩
    · rcases h4 a z with y | ⟨y1, y2⟩
      · exact Or.inl y
      · exact Or.inr ⟨y1, (hrf a).mpr (Or.inl y2)⟩
    · exact Or.inr ⟨h1 a (t4 a z), (hrf a).mpr (Or.inr z)⟩
  · rcases (hj a).mp ja with z | ⟨z0, z⟩
    · rcases h4 a z with y | ⟨y1, y2⟩
      · subst y; rw [hv] at la; cases la
      · exact (hj b).mpr (Or.inl (h5 a b hab y1 y2 lb z))
    · exact (hj b).mpr (Or.inr ⟨z0, t5 a b hab z (h2 a b hab (t4 a z) lb)⟩)
  · rcases (hrf a).mp ra with z | z
    · exact (hj a).mpr (Or.inl (h6 a hva la z))
    · exact (hj a).mpr (Or.inr ⟨hc.mpr ⟨a, z, hva⟩, z⟩)
  · rcases (hj a).mp ha with z | ⟨z0, z⟩
    · exact h7 q qv qc a z
    · obtain ⟨c, c1, c2⟩ := hc.mp z0
      have qcc : q c := qc v c c2 qv (Or.inl rfl) (Or.inr (h1 c (t4 c c1)))
      by_cases qt : q t
      · exact t6 q qt (fun x y hxy hqx hx hy => qc x y hxy hqx (Or.inr (h1 x hx)) (Or.inr (h1 y hy))) a z
      · have := t6 (fun x => ¬ q x) qt (fun x y hxy hqx hx hy hqy => hqx (qc y x (adj_sy hxy) hqy (Or.inr (h1 y hy)) (Or.inr (h1 x hx)))) c c1
        exact absurd qcc this
theorem pJ_end {fi se : Nat → Nat} {m v low jn : Nat} (hlow : low < 2 ^ v) (h : pJ fi se m v low 0 jn) : prt fi se m (low ||| 2 ^ v) jn := by
  obtain ⟨h1, h2, h3, h4, h5, h6, h7⟩ := h
  have hs : ∀ a, bm (low ||| 2 ^ v) a = true ↔ a = v ∨ bm low a = true := fun a => by
    rw [bm_or]; simp [or_comm]
  refine ⟨v, (hs v).mpr (Or.inl rfl), fun j hj => ?_, h3, fun a ha => ?_, fun a b hab ha hb => ?_, fun q qv qc => h7 q qv (fun a b hab qa ha hb => qc a b hab qa ((hs a).mpr ha) ((hs b).mpr hb))⟩
  · rw [bm_or, bm_ge hlow (by omega)]; simp; omega
  · rcases h4 a ha with z | z
    · exact (hs a).mpr (Or.inl z)
    · exact (hs a).mpr (Or.inr z.1)
  · rcases (hs b).mp hb with z | z
    · rw [z]; exact h3
    · rcases h4 a ha with y | y
      · subst y; exact h6 b hab z (bm_0 b)
      · exact h5 a b hab y.1 (bm_0 a) z ha
/-- a set with fewer members -/
theorem hsz_dn {rest nx t k : Nat} (h1 : bm rest t = true) (h2 : bm nx t = true) (ht : t < k) : hsz k (bm (ndf rest nx)) + 1 ≤ hsz k (bm rest) := by
  refine su_lt (k := t) (fun i _ => ?_) ht ?_
  · rw [bm_ndf]; cases bm rest i <;> cases bm nx i <;> simp
  · rw [bm_ndf, h1, h2]; decide
theorem pJ_lt {fi se : Nat → Nat} {m v low rest jn : Nat} (hlow : low < 2 ^ v) (h : pJ fi se m v low rest jn) : jn < 2 ^ (v + 1) := by
  refine bm_lt (fun i hi => ?_)
  rcases h.2.2.2.1 i hi with z | z
  · omega
  · have := lt_bm hlow z.1; omega
/-! sums of demands, edges inside -/
def wsum (wa : Nat → Nat) (s : Nat) : Nat := su (fun v => (bm s v).toNat * wa v) 9
def ins (fi se : Nat → Nat) (m s : Nat) : Nat := su (fun e => (bm s (fi e) && bm s (se e)).toNat) m
theorem wsum_0 (wa : Nat → Nat) : wsum wa 0 = 0 := su_z (fun v _ => by rw [bm_0]; simp)
theorem wsum_on {wa : Nat → Nat} {low v : Nat} (hv : v < 9) (hlow : low < 2 ^ v) : wsum wa (low ||| 2 ^ v) = wsum wa low + wa v := by
  have h := su_1 (a := wa v) hv
  unfold wsum
  rw [← h, ← su_ad]
  refine su_cg (fun i _ => ?_)
  rw [bm_or]
  by_cases q : i = v
  · subst q; rw [bm_ge hlow (Nat.le_refl _)]; simp
  · simp [q]
theorem wsum_le {wa : Nat → Nat} (h : ∀ v, v < 9 → wa v ≤ 14) (s : Nat) : wsum wa s ≤ 126 := by
  have h1 : wsum wa s ≤ su (fun _ => 14) 9 := su_le (fun v hv => by
    have := h v hv
    cases bm s v <;> simp <;> omega)
  have h2 : su (fun _ => 14) 9 = 126 := by decide
  omega
theorem ins_le (fi se : Nat → Nat) (m s : Nat) : ins fi se m s ≤ m := hsz_le m (fun e => bm s (fi e) && bm s (se e))
/-- the labels of those still in r, with w -/
def dlr (d : Nat → Nat) (r w v : Nat) : Nat := if bm r v = true then d v else if bm w v = true then 1 else 0
def Yl (fi se : Nat → Nat) (n m : Nat) (wa d : Nat → Nat) (r w l : Nat) : Nat := hA n wa (dlr d r w) (l + 2) + su (fun e => nbt fi se (dlr d r w) e (l + 2)) m
theorem Yl_0 {fi se : Nat → Nat} {n m : Nat} {wa d : Nat → Nat} {w l : Nat} : Yl fi se n m wa d 0 w l = 0 := by
  have h : ∀ v, dlr d 0 w v < 2 := fun v => by
    unfold dlr
    rw [bm_0]
    simp
    split <;> omega
  unfold Yl
  rw [show hA n wa (dlr d 0 w) (l + 2) = 0 from su_z (fun v _ => if_neg (by have := h v; omega)), su_z (fun e _ => ?_)]
  unfold nbt
  have h1 := h (fi e)
  have h2 := h (se e)
  exact if_neg (by omega)
theorem nbd_st {fi se : Nat → Nat} {n m u w r : Nat} {wa d : Nat → Nat} (hn : n ≤ 9) (hfs : hok fi se n m) (hu : u < 2 ^ n) (hE : exa fi se n m u w d) (hr : ∀ v, bm r v = true ↔ rsv n u w v) :
    nbd fi se n m 9 wa d = wsum wa u + ins fi se m w + su (fun l => Yl fi se n m wa d r w l / 2) 9 := by
  have e1 : hA n wa d 0 = wsum wa u := by
    have h1 : wsum wa u = su (fun v => (bm u v).toNat * wa v) n := by
      have : ∀ k, su (fun v => (bm u v).toNat * wa v) (n + k) = su (fun v => (bm u v).toNat * wa v) n := by
        intro k
        induction k with
        | zero => rfl
        | succ k ih =>
          show su (fun v => (bm u v).toNat * wa v) (n + k) + (bm u (n + k)).toNat * wa (n + k) = _
          rw [ih, bm_ge hu (by omega)]; simp
      have h9 := this (9 - n)
      rw [show n + (9 - n) = 9 by omega] at h9
      exact h9
    rw [h1]
    refine su_cg (fun v hv => ?_)
    by_cases q : bm u v = true
    · rw [if_pos ((exa_0 hE hv).mpr q), q]; simp
    · rw [if_neg (fun z => q ((exa_0 hE hv).mp z))]
      have : bm u v = false := by cases z : bm u v <;> simp [z] at q ⊢
      rw [this]; simp
  have e2 : su (fun e => nww fi se d e) m = ins fi se m w := su_cg (fun e he => by
    obtain ⟨x1, x2, _⟩ := hfs e he
    unfold nww
    have a1 := exa_1 hE x1
    have a2 := exa_1 hE x2
    cases z1 : bm w (fi e)
    · rw [if_neg (fun q => by rw [z1] at a1; simp at a1; exact a1 q.1)]; rfl
    · cases z2 : bm w (se e)
      · rw [if_neg (fun q => by rw [z2] at a2; simp at a2; exact a2 q.2)]; rfl
      · rw [if_pos ⟨a1.mpr z1, a2.mpr z2⟩]; rfl)
  have e3 : ∀ v, v < n → dlr d r w v = d v := by
    intro v hv
    unfold dlr
    by_cases q : bm r v = true
    · rw [if_pos q]
    · rw [if_neg q]
      by_cases z : bm w v = true
      · rw [if_pos z, hE.2.1 v hv z]
      · rw [if_neg z]
        rcases exa_cls (u := u) (w := w) hv with y | y | y
        · rw [hE.1 v hv y]
        · exact absurd y z
        · exact absurd ((hr v).mpr y) q
  have e4 : ∀ l, Yl fi se n m wa d r w l = hA n wa d (l + 2) + su (fun e => nbt fi se d e (l + 2)) m := by
    intro l
    unfold Yl
    congr 1
    · exact su_cg (fun v hv => by rw [e3 v hv])
    · exact su_cg (fun e he => by
        obtain ⟨x1, x2, _⟩ := hfs e he
        unfold nbt
        rw [e3 _ x1, e3 _ x2])
  unfold nbd
  rw [e1, e2, su_cg (g := fun l => Yl fi se n m wa d r w l / 2) (fun l _ => by rw [e4 l])]
/-- one part goes out of r -/
theorem vl_step {fi se : Nat → Nat} {n m u w r nx : Nat} {wa d : Nat → Nat} (hn : n ≤ 9) (hfs : hok fi se n m) (hw : w < 2 ^ n) (hE : exa fi se n m u w d) (hr : ∀ v, bm r v = true → rsv n u w v) (hcl : ∀ a b, adj fi se m a b → bm r a = true → rsv n u w b → bm r b = true) (hp : prt fi se m r nx) :
    ins fi se m nx + ins fi se m w ≤ ins fi se m (nx ||| w) ∧
    su (fun l => Yl fi se n m wa d r w l / 2) 9 = (wsum wa nx + (ins fi se m (nx ||| w) - ins fi se m nx - ins fi se m w)) / 2 + su (fun l => Yl fi se n m wa d (ndf r nx) w l / 2) 9 ∧
    (∀ a b, adj fi se m a b → bm (ndf r nx) a = true → rsv n u w b → bm (ndf r nx) b = true) := by
  obtain ⟨t, t1, t2, t3, t4, t5, t6⟩ := hp
  have ht := hr t t1
  have hdt := hE.2.2.1 t ht
  -- the part is a label's class
  have hcls : ∀ v, bm r v = true → (bm nx v = true ↔ d v = d t) := by
    intro v hv
    constructor
    · intro h
      refine t6 (fun x => d x = d t) rfl (fun a b hab ha h1 h2 => ?_) v h
      obtain ⟨e, he, q⟩ := hab
      have := hE.2.2.2.1 e he
      rcases q with q | q
      · rw [q.1, q.2] at this; rw [← this (hr a h1) (hr b h2)]; exact ha
      · rw [q.1, q.2] at this; rw [this (hr b h2) (hr a h1)]; exact ha
    · intro h
      have hv' : vld fi se n m u w (fun x => if bm nx x = true then 1 else 0) := by
        intro e he r1 r2
        have ha : adj fi se m (fi e) (se e) := ⟨e, he, Or.inl ⟨rfl, rfl⟩⟩
        show (if bm nx (fi e) = true then 1 else 0) = (if bm nx (se e) = true then 1 else 0)
        by_cases q : bm nx (fi e) = true
        · rw [if_pos q, if_pos (t5 _ _ ha q (hcl _ _ ha (t4 _ q) r2))]
        · rw [if_neg q]
          by_cases z : bm nx (se e) = true
          · exact absurd (t5 _ _ (adj_sy ha) z (hcl _ _ (adj_sy ha) (t4 _ z) r1)) q
          · rw [if_neg z]
      have := hE.2.2.2.2 _ hv' v t (hr v hv) ht h
      have h2 : (if bm nx v = true then 1 else 0) = (if bm nx t = true then 1 else 0) := this
      rw [if_pos t3] at h2
      exact Classical.byContradiction (fun q => by rw [if_neg q] at h2; omega)
  have hnw : ∀ v, ¬ (bm nx v = true ∧ bm w v = true) := fun v h => by
    have := (hr v (t4 v h.1)).2.2
    rw [h.2] at this; cases this
  have hbt : ∀ e, (bm (nx ||| w) (fi e) && bm (nx ||| w) (se e)).toNat = (bm nx (fi e) && bm nx (se e)).toNat + (bm w (fi e) && bm w (se e)).toNat + (if (bm nx (fi e) = true ∧ bm w (se e) = true) ∨ (bm w (fi e) = true ∧ bm nx (se e) = true) then 1 else 0) := by
    intro e
    rw [bm_orr, bm_orr]
    have g1 := hnw (fi e)
    have g2 := hnw (se e)
    cases z1 : bm nx (fi e) <;> cases z2 : bm nx (se e) <;> cases z3 : bm w (fi e) <;> cases z4 : bm w (se e) <;> simp [z1, z2, z3, z4] at g1 g2 ⊢
  have hbs : ins fi se m (nx ||| w) = ins fi se m nx + ins fi se m w + su (fun e => if (bm nx (fi e) = true ∧ bm w (se e) = true) ∨ (bm w (fi e) = true ∧ bm nx (se e) = true) then 1 else 0) m := by
    unfold ins
    rw [← su_ad, ← su_ad]
    exact su_cg (fun e _ => hbt e)
  have hrn : ∀ v, bm (ndf r nx) v = true ↔ bm r v = true ∧ ¬ d v = d t := fun v => by
    rw [bm_ndf]
    constructor
    · intro h
      simp only [Bool.and_eq_true, Bool.not_eq_true'] at h
      exact ⟨h.1, fun q => by rw [(hcls v h.1).mpr q] at h; exact absurd h.2 (by decide)⟩
    · rintro ⟨a1, a2⟩
      have : bm nx v = false := by
        cases z : bm nx v
        · rfl
        · exact absurd ((hcls v a1).mp z) a2
      rw [a1, this]; rfl
  -- labels behind the step
  have hlab : ∀ v, dlr d (ndf r nx) w v = if bm r v = true ∧ d v = d t then 0 else dlr d r w v := by
    intro v
    unfold dlr
    by_cases q : bm r v = true
    · by_cases z : d v = d t
      · have hwv : bm w v = false := (hr v q).2.2
        rw [if_neg (c := bm (ndf r nx) v = true) (fun y => ((hrn v).mp y).2 z), if_pos (c := bm r v = true ∧ d v = d t) ⟨q, z⟩, hwv]; rfl
      · rw [if_pos (c := bm (ndf r nx) v = true) ((hrn v).mpr ⟨q, z⟩), if_neg (c := bm r v = true ∧ d v = d t) (fun y => z y.2), if_pos q]
    · rw [if_neg (c := bm (ndf r nx) v = true) (fun y => q ((hrn v).mp y).1), if_neg (c := bm r v = true ∧ d v = d t) (fun y => q y.1), if_neg (c := bm r v = true) q]
  have l0 : d t - 2 < 9 := by omega
  have hY0 : Yl fi se n m wa d (ndf r nx) w (d t - 2) = 0 := by
    have hne : ∀ v, ¬ dlr d (ndf r nx) w v = d t - 2 + 2 := by
      intro v h
      rw [hlab v] at h
      by_cases q : bm r v = true ∧ d v = d t
      · rw [if_pos q] at h; omega
      · rw [if_neg q] at h
        unfold dlr at h
        by_cases z : bm r v = true
        · rw [if_pos z] at h; exact q ⟨z, by omega⟩
        · rw [if_neg z] at h
          by_cases y : bm w v = true
          · rw [if_pos y] at h; omega
          · rw [if_neg y] at h; omega
    unfold Yl
    rw [show hA n wa (dlr d (ndf r nx) w) (d t - 2 + 2) = 0 from su_z (fun v _ => if_neg (hne v)), su_z (fun e _ => ?_)]
    unfold nbt
    exact if_neg (by
      rintro (q | q)
      · exact hne _ q.1
      · exact hne _ q.2)
  have hYl : ∀ l, l ≠ d t - 2 → Yl fi se n m wa d (ndf r nx) w l = Yl fi se n m wa d r w l := by
    intro l hl
    have heq : ∀ v, (dlr d (ndf r nx) w v = l + 2 ↔ dlr d r w v = l + 2) := by
      intro v
      rw [hlab v]
      by_cases q : bm r v = true ∧ d v = d t
      · rw [if_pos q]
        unfold dlr
        rw [if_pos q.1]; omega
      · rw [if_neg q]
    have h1 : ∀ v, (dlr d (ndf r nx) w v = 1 ↔ dlr d r w v = 1) := by
      intro v
      rw [hlab v]
      by_cases q : bm r v = true ∧ d v = d t
      · rw [if_pos q]
        unfold dlr
        rw [if_pos q.1]; omega
      · rw [if_neg q]
    unfold Yl
    congr 1
    · exact su_cg (fun v _ => by
        by_cases q : dlr d r w v = l + 2
        · rw [if_pos q, if_pos ((heq v).mpr q)]
        · rw [if_neg q, if_neg (fun z => q ((heq v).mp z))])
    · refine su_cg (fun e _ => ?_)
      unfold nbt
      have g1 := heq (fi e)
      have g2 := heq (se e)
      have g3 := h1 (fi e)
      have g4 := h1 (se e)
      by_cases q : (dlr d r w (fi e) = l + 2 ∧ dlr d r w (se e) = 1) ∨ (dlr d r w (fi e) = 1 ∧ dlr d r w (se e) = l + 2)
      · rw [if_pos q, if_pos (by rcases q with q | q; exact Or.inl ⟨g1.mpr q.1, g4.mpr q.2⟩; exact Or.inr ⟨g3.mpr q.1, g2.mpr q.2⟩)]
      · rw [if_neg q, if_neg (fun z => q (by rcases z with z | z; exact Or.inl ⟨g1.mp z.1, g4.mp z.2⟩; exact Or.inr ⟨g3.mp z.1, g2.mp z.2⟩))]
  have hYt : Yl fi se n m wa d r w (d t - 2) = wsum wa nx + su (fun e => if (bm nx (fi e) = true ∧ bm w (se e) = true) ∨ (bm w (fi e) = true ∧ bm nx (se e) = true) then 1 else 0) m := by
    have hin : ∀ v, dlr d r w v = d t - 2 + 2 ↔ bm nx v = true := by
      intro v
      unfold dlr
      by_cases q : bm r v = true
      · rw [if_pos q, hcls v q]; omega
      · rw [if_neg q]
        constructor
        · intro h; split at h <;> omega
        · intro h; exact absurd (t4 v h) q
    have h1 : ∀ v, dlr d r w v = 1 ↔ bm w v = true := by
      intro v
      unfold dlr
      by_cases q : bm r v = true
      · have := hE.2.2.1 v (hr v q)
        have hwv : bm w v = false := (hr v q).2.2
        rw [if_pos q, hwv]; simp; omega
      · rw [if_neg q]
        by_cases z : bm w v = true
        · rw [if_pos z]; simp [z]
        · rw [if_neg z]; simp [z]
    unfold Yl
    congr 1
    · have hx : wsum wa nx = su (fun v => (bm nx v).toNat * wa v) n := by
        have : ∀ k, su (fun v => (bm nx v).toNat * wa v) (n + k) = su (fun v => (bm nx v).toNat * wa v) n := by
          intro k
          induction k with
          | zero => rfl
          | succ k ih =>
            show su (fun v => (bm nx v).toNat * wa v) (n + k) + (bm nx (n + k)).toNat * wa (n + k) = _
            have hz : bm nx (n + k) = false := by
              cases z : bm nx (n + k)
              · rfl
              · have := (hr _ (t4 _ z)).1; omega
            rw [ih, hz]; simp
        have h9 := this (9 - n)
        rw [show n + (9 - n) = 9 by omega] at h9
        exact h9
      rw [hx]
      refine su_cg (fun v _ => ?_)
      by_cases q : bm nx v = true
      · rw [if_pos ((hin v).mpr q), q]; simp
      · have hz : bm nx v = false := by cases z : bm nx v <;> simp [z] at q ⊢
        rw [if_neg (fun z => q ((hin v).mp z)), hz]; simp
    · refine su_cg (fun e _ => ?_)
      unfold nbt
      have g1 := hin (fi e)
      have g2 := hin (se e)
      have g3 := h1 (fi e)
      have g4 := h1 (se e)
      by_cases q : (bm nx (fi e) = true ∧ bm w (se e) = true) ∨ (bm w (fi e) = true ∧ bm nx (se e) = true)
      · rw [if_pos q, if_pos (by rcases q with q | q; exact Or.inl ⟨g1.mpr q.1, g4.mpr q.2⟩; exact Or.inr ⟨g3.mpr q.1, g2.mpr q.2⟩)]
      · rw [if_neg q, if_neg (fun z => q (by rcases z with z | z; exact Or.inl ⟨g1.mp z.1, g4.mp z.2⟩; exact Or.inr ⟨g3.mp z.1, g2.mp z.2⟩))]
  refine ⟨by omega, ?_, fun a b hab ha hb => ?_⟩
  · have hs := su_up (f := fun l => Yl fi se n m wa d r w l / 2) (k := d t - 2) (a := 0) l0
    have he : su (fun l => Yl fi se n m wa d (ndf r nx) w l / 2) 9 = su (fun i => if i = d t - 2 then 0 else Yl fi se n m wa d r w i / 2) 9 := su_cg (fun l _ => by
      by_cases q : l = d t - 2
      · rw [if_pos q, q, hY0]
      · rw [if_neg q, hYl l q])
    rw [he]
    have hs2 : su (fun i => if i = d t - 2 then 0 else Yl fi se n m wa d r w i / 2) 9 + Yl fi se n m wa d r w (d t - 2) / 2 = su (fun l => Yl fi se n m wa d r w l / 2) 9 + 0 := hs
    rw [hYt] at hs2
    have hsub : ins fi se m (nx ||| w) - ins fi se m nx - ins fi se m w = su (fun e => if (bm nx (fi e) = true ∧ bm w (se e) = true) ∨ (bm w (fi e) = true ∧ bm nx (se e) = true) then 1 else 0) m := by omega
    rw [hsub]
    omega
  · obtain ⟨a1, a2⟩ := (hrn a).mp ha
    refine (hrn b).mpr ⟨hcl a b hab a1 hb, fun q => a2 ?_⟩
    have hb2 := hcl a b hab a1 hb
    have := t5 b a (adj_sy hab) ((hcls b hb2).mpr q) a1
    exact (hcls a a1).mp this
