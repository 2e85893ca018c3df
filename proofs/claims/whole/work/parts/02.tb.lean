/-! the largest set with capacities: a labelling that shows why there can't be more -/
theorem hin_ind {x y : Nat → Nat} {j : Nat} (h : x j ≠ y j) (v : Nat) : hin x y j v = ind (x j) v + ind (y j) v := by
  unfold hin ind
  by_cases e1 : v = x j
  · subst e1; rw [if_pos (Or.inl rfl), if_pos rfl, if_neg h]
  · by_cases e2 : v = y j
    · subst e2; rw [if_pos (Or.inr rfl), if_neg e1, if_pos rfl]
    · rw [if_neg (by rintro (q | q); exact e1 q.symm; exact e2 q.symm), if_neg e1, if_neg e2]
theorem ind_s (p : Nat) : ind p p = 1 := if_pos rfl
theorem ind_n {p v : Nat} (h : v ≠ p) : ind p v = 0 := if_neg h
def hcp (x y : Nat → Nat) (Q : Nat) (c : Nat → Nat) : Prop := ∀ j, j < Q → c (x j) ≤ 1 ∨ c (y j) ≤ 1
theorem hre_ad {x y : Nat → Nat} {P Q : Nat} {c : Nat → Nat} (hE : hok x y P Q) (hc : hcp x y Q c) {j : Nat} (hj : j < Q) : hre x y P Q c (x j) (y j) := by
  intro M hM hf
  obtain ⟨hx, hy, hne⟩ := hE j hj
  have fx := hf (x j) hx
  have fy := hf (y j) hy
  rw [ind_s, ind_n (p := y j) (v := x j) hne] at fx
  rw [ind_s, ind_n (p := x j) (v := y j) (Ne.symm hne)] at fy
  cases e : M j with
  | true =>
    have mx : 1 ≤ hdg x y Q M (x j) := by
      have := su_mem (f := fun i => (M i).toNat * hin x y i (x j)) hj
      simp only [e, Bool.toNat_true, hin_or (x := x) (y := y) (j := j) (v := x j) (Or.inl rfl)] at this
      exact this
    have my : 1 ≤ hdg x y Q M (y j) := by
      have := su_mem (f := fun i => (M i).toNat * hin x y i (y j)) hj
      simp only [e, Bool.toNat_true, hin_or (x := x) (y := y) (j := j) (v := y j) (Or.inr rfl)] at this
      exact this
    have := hc j hj
    omega
  | false =>
    have hfa' : hfa x y P Q c (bup M j true) := by
      intro v hv
      rw [hdg_on hj e, hin_ind hne]
      have := hf v hv
      omega
    have := hM.2 _ hfa'
    rw [hsz_on hj e] at this
    omega
def hva (x y : Nat → Nat) (Q : Nat) (d : Nat → Nat) : Prop := ∀ j, j < Q → d (x j) = 0 ∨ d (y j) = 0 ∨ (d (x j) = d (y j) ∧ 2 ≤ d (x j))
/-- what the nodes of label l hold -/
def hA (P : Nat) (c d : Nat → Nat) (l : Nat) : Nat := su (fun v => if d v = l then c v else 0) P
def hbd (P : Nat) (c d : Nat → Nat) : Nat := hA P c d 0 + su (fun l => hA P c d (l + 2) / 2) P
def hgd (x y : Nat → Nat) (Q : Nat) (c : Nat → Nat) (v : Nat) : Prop := 1 ≤ c v ∧ ∃ j, j < Q ∧ ((x j = v ∧ 1 ≤ c (y j)) ∨ (y j = v ∧ 1 ≤ c (x j)))
theorem su_lab (k n : Nat) : su (fun l => if k = l + 2 then 1 else 0) n ≤ 1 := by
  rcases Nat.lt_or_ge k 2 with q | q
  · rw [su_z (fun i _ => if_neg (by omega))]; omega
  · rcases Nat.lt_or_ge (k - 2) n with r | r
    · have e : su (fun l => if k = l + 2 then 1 else 0) n = su (fun l => if l = k - 2 then 1 else 0) n := by
        refine su_cg (fun i _ => ?_)
        by_cases z : i = k - 2
        · rw [if_pos (by omega), if_pos z]
        · rw [if_neg (by omega), if_neg z]
      rw [e, su_1 r]; omega
    · rw [su_z (fun i hi => if_neg (by omega))]; omega
theorem tb_base {x y : Nat → Nat} {P Q : Nat} {c : Nat → Nat} (hE : hok x y P Q) (hc : hcp x y Q c) (hD : ∀ v, v < P → 1 ≤ c v → ∃ N, hmx x y P Q c N ∧ ∀ u, u < P → hdg x y Q N u + ind v u ≤ c u) :
    ∃ d, hva x y Q d ∧ (∀ v, d v < P + 2) ∧ ∀ M, hmx x y P Q c M → hbd P c d ≤ hsz Q M := by
  have refl : ∀ v, v < P → hgd x y Q c v → hre x y P Q c v v := by
    intro v hv hg
    obtain ⟨h1, j, hj, h2⟩ := hg
    obtain ⟨hx, hy, hne⟩ := hE j hj
    have had := hre_ad hE hc hj
    rcases h2 with ⟨e, h3⟩ | ⟨e, h3⟩
    · subst e
      exact hre_tr hE hx hy hx had (hre_sy had) (hD _ hy h3)
    · subst e
      exact hre_tr hE hy hx hy (hre_sy had) had (hD _ hx h3)
  have ex : ∀ v, ∃ k, k < P + 2 ∧ (c v = 0 → k = 0) ∧ (1 ≤ c v → ¬ hgd x y Q c v → k = 1) ∧ (v < P → hgd x y Q c v → ∃ w, k = w + 2 ∧ w < P ∧ hgd x y Q c w ∧ hre x y P Q c v w ∧ ∀ u, u < P → hgd x y Q c u → hre x y P Q c v u → w ≤ u) := by
    intro v
    by_cases hg : hgd x y Q c v
    · by_cases hv : v < P
      · obtain ⟨w, ⟨hw, hgw, hrw⟩, hmin⟩ := mn_ex (fun w => w < P ∧ hgd x y Q c w ∧ hre x y P Q c v w) (fun w => w) ⟨v, hv, hg, refl v hv hg⟩
        refine ⟨w + 2, by omega, fun h => absurd hg.1 (by omega), fun _ h => absurd hg h, fun _ _ => ⟨w, rfl, hw, hgw, hrw, fun u hu hgu hru => hmin u ⟨hu, hgu, hru⟩⟩⟩
      · exact ⟨0, by omega, fun _ => rfl, fun _ h => absurd hg h, fun h => absurd h hv⟩
    · by_cases h0 : c v = 0
      · exact ⟨0, by omega, fun _ => rfl, fun h => absurd h0 (by omega), fun _ h => absurd h hg⟩
      · exact ⟨1, by omega, fun h => absurd h h0, fun _ _ => rfl, fun _ h => absurd h hg⟩
  obtain ⟨d, hd⟩ := Classical.axiomOfChoice ex
  have lab : ∀ v, v < P → hgd x y Q c v → ∃ w, d v = w + 2 ∧ w < P ∧ hgd x y Q c w ∧ hre x y P Q c v w ∧ ∀ u, u < P → hgd x y Q c u → hre x y P Q c v u → w ≤ u := fun v hv hg => (hd v).2.2.2 hv hg
  have same : ∀ v u, v < P → u < P → hgd x y Q c v → hgd x y Q c u → hre x y P Q c v u → d v = d u := by
    intro v u hv hu hgv hgu hr
    obtain ⟨w, e1, hw, hgw, hrw, hm⟩ := lab v hv hgv
    obtain ⟨w', e2, hw', hgw', hrw', hm'⟩ := lab u hu hgu
    have a1 := hm w' hw' hgw' (hre_tr hE hv hu hw' hr hrw' (hD u hu hgu.1))
    have a2 := hm' w hw hgw (hre_tr hE hu hv hw (hre_sy hr) hrw (hD v hv hgv.1))
    omega
  have zero : ∀ v, d v = 0 → v < P → c v = 0 := by
    intro v h hv
    refine Classical.byContradiction (fun h0 => ?_)
    by_cases hg : hgd x y Q c v
    · obtain ⟨w, e1, _⟩ := lab v hv hg
      omega
    · have := (hd v).2.2.1 (by omega) hg
      omega
  have two : ∀ v, v < P → 2 ≤ d v → hgd x y Q c v := by
    intro v hv h
    refine Classical.byContradiction (fun hg => ?_)
    by_cases h0 : c v = 0
    · have := (hd v).2.1 h0; omega
    · have := (hd v).2.2.1 (by omega) hg; omega
  have rel : ∀ v u, v < P → u < P → 2 ≤ d v → d v = d u → hre x y P Q c v u := by
    intro v u hv hu h2 e
    obtain ⟨w, e1, hw, hgw, hrw, _⟩ := lab v hv (two v hv h2)
    obtain ⟨w', e2, hw', hgw', hrw', _⟩ := lab u hu (two u hu (by omega))
    have ew : w = w' := by omega
    subst ew
    exact hre_tr hE hv hw hu hrw (hre_sy hrw') (hD w hw hgw.1)
  have edge : ∀ j, j < Q → 1 ≤ c (x j) → 1 ≤ c (y j) → d (x j) = d (y j) ∧ 2 ≤ d (x j) := by
    intro j hj h1 h2
    obtain ⟨hx, hy, hne⟩ := hE j hj
    have g1 : hgd x y Q c (x j) := ⟨h1, j, hj, Or.inl ⟨rfl, h2⟩⟩
    have g2 : hgd x y Q c (y j) := ⟨h2, j, hj, Or.inr ⟨rfl, h1⟩⟩
    refine ⟨same _ _ hx hy g1 g2 (hre_ad hE hc hj), ?_⟩
    obtain ⟨w, e1, _⟩ := lab _ hx g1
    omega
  refine ⟨d, fun j hj => ?_, fun v => (hd v).1, fun M hM => ?_⟩
  · by_cases h1 : c (x j) = 0
    · exact Or.inl ((hd _).2.1 h1)
    · by_cases h2 : c (y j) = 0
      · exact Or.inr (Or.inl ((hd _).2.1 h2))
      · exact Or.inr (Or.inr (edge j hj (by omega) (by omega)))
  · have h0 : hA P c d 0 = 0 := su_z (fun v hv => by
      by_cases e : d v = 0
      · rw [if_pos e]; exact zero v e hv
      · rw [if_neg e])
    rw [hbd, h0, Nat.zero_add]
    have live : ∀ j, j < Q → M j = true → 1 ≤ c (x j) ∧ 1 ≤ c (y j) := by
      intro j hj e
      obtain ⟨hx, hy, hne⟩ := hE j hj
      have a1 := su_mem (f := fun i => (M i).toNat * hin x y i (x j)) hj
      have a2 := su_mem (f := fun i => (M i).toNat * hin x y i (y j)) hj
      simp only [e, Bool.toNat_true, hin_or (x := x) (y := y) (j := j) (v := x j) (Or.inl rfl)] at a1
      simp only [e, Bool.toNat_true, hin_or (x := x) (y := y) (j := j) (v := y j) (Or.inr rfl)] at a2
      exact ⟨Nat.le_trans a1 (hM.1 _ hx), Nat.le_trans a2 (hM.1 _ hy)⟩
    have per : ∀ l, l < P → hA P c d (l + 2) / 2 ≤ su (fun j => (M j).toNat * (if d (x j) = l + 2 then 1 else 0)) Q := by
      intro l _
      have hw := hdg_w hE (fun v => if d v = l + 2 then 1 else 0) M
      have hr : su (fun j => (M j).toNat * ((if d (x j) = l + 2 then 1 else 0) + (if d (y j) = l + 2 then 1 else 0))) Q = 2 * su (fun j => (M j).toNat * (if d (x j) = l + 2 then 1 else 0)) Q := by
        rw [← su_ml]
        refine su_cg (fun j hj => ?_)
        cases e : M j with
        | false => simp
        | true =>
          obtain ⟨b1, b2⟩ := live j hj e
          have := (edge j hj b1 b2).1
          rw [this]
          simp only [Bool.toNat_true]; omega
      rw [hr] at hw
      have key : hA P c d (l + 2) ≤ su (fun v => (if d v = l + 2 then 1 else 0) * hdg x y Q M v) P + 1 := by
        refine Nat.le_of_not_lt (fun hlt => ?_)
        obtain ⟨p, hp, hpl⟩ := su_ex (n := P) (f := fun v => (if d v = l + 2 then 1 else 0) * hdg x y Q M v) (g := fun v => if d v = l + 2 then c v else 0) (by unfold hA at hlt; omega)
        have ep : d p = l + 2 := Classical.byContradiction (fun h => by simp [h] at hpl)
        simp only [ep, if_true, Nat.one_mul] at hpl
        obtain ⟨q, hq, hql⟩ := su_ex (n := P) (f := fun v => (if d v = l + 2 then 1 else 0) * hdg x y Q M v + ind p v) (g := fun v => if d v = l + 2 then c v else 0) (by
          rw [su_ad, show su (fun v => ind p v) P = 1 from su_1 hp]
          unfold hA at hlt; omega)
        have eq : d q = l + 2 := Classical.byContradiction (fun h => by simp [h] at hql)
        simp only [eq, if_true, Nat.one_mul] at hql
        refine rel p q hp hq (by omega) (by omega) M hM (fun v hv => ?_)
        have hfv := hM.1 v hv
        by_cases e1 : v = q
        · subst e1; rw [ind_s]; omega
        · rw [ind_n e1]
          by_cases e2 : v = p
          · subst e2; rw [ind_s]; omega
          · rw [ind_n e2]; omega
      omega
    refine Nat.le_trans (su_le per) ?_
    rw [su_sw (fun l j => (M j).toNat * (if d (x j) = l + 2 then 1 else 0))]
    refine su_le (fun j _ => ?_)
    show su (fun l => (M j).toNat * (if d (x j) = l + 2 then 1 else 0)) P ≤ (M j).toNat
    rw [su_ml]
    have := Nat.mul_le_mul_left (M j).toNat (su_lab (d (x j)) P)
    omega
theorem hA_dec {P : Nat} {c d : Nat → Nat} {v : Nat} (hv : v < P) (h1 : 1 ≤ c v) (l : Nat) : hA P c d l = hA P (fun u => if u = v then c v - 1 else c u) d l + (if d v = l then 1 else 0) := by
  unfold hA
  have e := su_1 (a := if d v = l then 1 else 0) hv
  rw [← e, ← su_ad]
  refine su_cg (fun u _ => ?_)
  by_cases q : u = v
  · subst q
    by_cases r : d u = l
    · simp [r]; omega
    · simp [r]
  · simp [q]
theorem hbd_dec {P : Nat} {c d : Nat → Nat} {v : Nat} (hv : v < P) (h1 : 1 ≤ c v) : hbd P c d ≤ hbd P (fun u => if u = v then c v - 1 else c u) d + 1 := by
  unfold hbd
  rw [hA_dec hv h1 0]
  have h2 : su (fun l => hA P c d (l + 2) / 2) P ≤ su (fun l => hA P (fun u => if u = v then c v - 1 else c u) d (l + 2) / 2 + (if d v = l + 2 then 1 else 0)) P := by
    refine su_le (fun l _ => ?_)
    rw [hA_dec hv h1 (l + 2)]
    split <;> omega
  rw [su_ad] at h2
  have h3 := su_lab (d v) P
  by_cases e : d v = 0
  · have : su (fun l => if d v = l + 2 then 1 else 0) P = 0 := su_z (fun i _ => if_neg (by omega))
    rw [if_pos e]; omega
  · rw [if_neg e]; omega
theorem tb {x y : Nat → Nat} {P Q : Nat} (hE : hok x y P Q) : ∀ (s : Nat) (c : Nat → Nat), su c P = s → hcp x y Q c →
    ∃ d, hva x y Q d ∧ (∀ v, d v < P + 2) ∧ ∀ M, hmx x y P Q c M → hbd P c d ≤ hsz Q M := by
  intro s
  induction s with
  | zero =>
    intro c hs hc
    refine tb_base hE hc (fun v hv h1 => ?_)
    have := su_mem (f := c) hv
    omega
  | succ s ih =>
    intro c hs hc
    by_cases h : ∃ v, v < P ∧ 1 ≤ c v ∧ ∀ M, hmx x y P Q c M → c v ≤ hdg x y Q M v
    · obtain ⟨v, hv, h1, hall⟩ := h
      have hsu := su_up (f := c) (a := c v - 1) hv
      obtain ⟨d, hd1, hd2, hd3⟩ := ih (fun u => if u = v then c v - 1 else c u) (by omega) (fun j hj => by
        have := hc j hj
        show (if x j = v then c v - 1 else c (x j)) ≤ 1 ∨ (if y j = v then c v - 1 else c (y j)) ≤ 1
        by_cases e1 : x j = v
        · by_cases e2 : y j = v
          · rw [if_pos e1, if_pos e2]; rw [e1, e2] at this; omega
          · rw [if_pos e1, if_neg e2]; rw [e1] at this; omega
        · by_cases e2 : y j = v
          · rw [if_neg e1, if_pos e2]; rw [e2] at this; omega
          · rw [if_neg e1, if_neg e2]; exact this)
      refine ⟨d, hd1, hd2, fun M hM => ?_⟩
      obtain ⟨M', hM'⟩ := hmx_ex x y P Q (fun u => if u = v then c v - 1 else c u)
      have h3 := hd3 M' hM'
      have hf' : hfa x y P Q c M' := by
        intro u hu
        have := hM'.1 u hu
        by_cases e : u = v
        · subst e; simp only [if_true] at this; omega
        · simp only [if_neg e] at this; exact this
      have hlt : hsz Q M' + 1 ≤ hsz Q M := by
        refine Nat.lt_of_le_of_ne (hM.2 M' hf') (fun e => ?_)
        have hm : hmx x y P Q c M' := ⟨hf', fun K hK => by rw [e]; exact hM.2 K hK⟩
        have a1 := hall M' hm
        have a2 := hM'.1 v hv
        simp only [if_true] at a2
        omega
      have := hbd_dec (d := d) hv h1
      omega
    · refine tb_base hE hc (fun v hv h1 => ?_)
      refine Classical.byContradiction (fun hn => h ⟨v, hv, h1, fun M hM => Nat.le_of_not_lt (fun hl => hn ⟨M, hM, fun u hu => ?_⟩)⟩)
      have := hM.1 u hu
      by_cases e : u = v
      · subst e; rw [ind_s]; omega
      · rw [ind_n e]; omega
/-- a node of capacity 1 leaves label 0, and two labels become one -/
theorem tb_move {x y : Nat → Nat} {P Q : Nat} {c d : Nat → Nat} (hv : hva x y Q d) (hd : ∀ v, d v < P + 2) {h k1 k2 : Nat} (hh : h < P) (hc : c h = 1) (h0 : d h = 0) (hk1 : 2 ≤ k1) (hk2 : 2 ≤ k2) (hl1 : k1 < P + 2) (hl2 : k2 < P + 2)
    (hn : ∀ j, j < Q → (x j = h → y j ≠ h ∧ (d (y j) = 0 ∨ d (y j) = k1 ∨ d (y j) = k2)) ∧ (y j = h → x j ≠ h ∧ (d (x j) = 0 ∨ d (x j) = k1 ∨ d (x j) = k2))) :
    ∃ d', hva x y Q d' ∧ (∀ v, d' v < P + 2) ∧ hbd P c d' ≤ hbd P c d ∧ hA P (fun _ => 1) d' 0 < hA P (fun _ => 1) d 0 := by
  refine ⟨fun v => if v = h then k1 else if d v = k2 then k1 else d v, ?_, ?_, ?_, ?_⟩
  · intro j hj
    have hvj := hv j hj
    obtain ⟨n1, n2⟩ := hn j hj
    by_cases e1 : x j = h
    · obtain ⟨m1, m2⟩ := n1 e1
      simp only [e1, if_true, if_neg m1]
      by_cases e3 : d (y j) = k2
      · rw [if_pos e3]; right; right; exact ⟨rfl, hk1⟩
      · rw [if_neg e3]; omega
    · by_cases e2 : y j = h
      · obtain ⟨m1, m2⟩ := n2 e2
        simp only [e2, if_true, if_neg m1]
        by_cases e3 : d (x j) = k2
        · rw [if_pos e3]; right; right; exact ⟨rfl, hk1⟩
        · rw [if_neg e3]; omega
      · simp only [if_neg e1, if_neg e2]
        by_cases e3 : d (x j) = k2
        · by_cases e4 : d (y j) = k2
          · rw [if_pos e3, if_pos e4]; right; right; exact ⟨rfl, hk1⟩
          · rw [if_pos e3, if_neg e4]; omega
        · by_cases e4 : d (y j) = k2
          · rw [if_neg e3, if_pos e4]; omega
          · rw [if_neg e3, if_neg e4]; exact hvj
  · intro v
    show (if v = h then k1 else if d v = k2 then k1 else d v) < P + 2
    split
    · exact hl1
    · split
      · exact hl1
      · exact hd v
  · have z0 : hA P c (fun v => if v = h then k1 else if d v = k2 then k1 else d v) 0 + 1 = hA P c d 0 := by
      unfold hA
      have e := su_1 (a := 1) hh
      rw [← e, ← su_ad]
      refine su_cg (fun u _ => ?_)
      by_cases q : u = h
      · subst q
        simp only [if_true, h0]
        rw [if_neg (by omega), hc]
      · simp only [if_neg q]
        by_cases r : d u = k2
        · rw [if_pos r, if_neg (by omega), if_neg (by omega)]
        · rw [if_neg r]; simp
    have za : ∀ l, 2 ≤ l → l ≠ k1 → l ≠ k2 → hA P c (fun v => if v = h then k1 else if d v = k2 then k1 else d v) l = hA P c d l := by
      intro l hl a1 a2
      refine su_cg (fun u _ => ?_)
      by_cases q : u = h
      · subst q
        simp only [if_true, h0]
        rw [if_neg (by omega), if_neg (by omega)]
      · simp only [if_neg q]
        by_cases r : d u = k2
        · rw [if_pos r, if_neg (by omega), if_neg (by omega)]
        · rw [if_neg r]
    have e := su_1 (a := 1) hh
    unfold hbd
    by_cases ek : k1 = k2
    · subst ek
      have zk : hA P c (fun v => if v = h then k1 else if d v = k1 then k1 else d v) k1 = hA P c d k1 + 1 := by
        unfold hA
        rw [← e, ← su_ad]
        refine su_cg (fun u _ => ?_)
        by_cases q : u = h
        · subst q
          simp only [if_true, h0]
          rw [if_neg (by omega), hc]
        · simp only [if_neg q]
          by_cases r : d u = k1
          · rw [if_pos r]; simp [r]
          · rw [if_neg r]; simp
      have hs := su_up (f := fun l => hA P c d (l + 2) / 2) (k := k1 - 2) (a := (hA P c d k1 + 1) / 2) (n := P) (by omega)
      have he : su (fun l => hA P c (fun v => if v = h then k1 else if d v = k1 then k1 else d v) (l + 2) / 2) P = su (fun i => if i = k1 - 2 then (hA P c d k1 + 1) / 2 else hA P c d (i + 2) / 2) P := by
        refine su_cg (fun l _ => ?_)
        by_cases q : l = k1 - 2
        · rw [if_pos q, show l + 2 = k1 by omega, zk]
        · rw [if_neg q, za (l + 2) (by omega) (by omega) (by omega)]
      rw [he]
      simp only [show k1 - 2 + 2 = k1 by omega] at hs
      omega
    · have zk : hA P c (fun v => if v = h then k1 else if d v = k2 then k1 else d v) k1 = hA P c d k1 + hA P c d k2 + 1 := by
        unfold hA
        rw [← e, ← su_ad, ← su_ad]
        refine su_cg (fun u _ => ?_)
        by_cases q : u = h
        · subst q
          simp only [if_true, h0]
          rw [if_neg (by omega), if_neg (by omega), hc]
        · simp only [if_neg q]
          by_cases r : d u = k2
          · rw [if_pos r, r, if_pos rfl, if_neg (by omega), if_pos rfl]; omega
          · rw [if_neg r, if_neg r]; omega
      have zk2 : hA P c (fun v => if v = h then k1 else if d v = k2 then k1 else d v) k2 = 0 := by
        refine su_z (fun u _ => ?_)
        by_cases q : u = h
        · subst q
          simp only [if_true]
          rw [if_neg ek]
        · simp only [if_neg q]
          by_cases r : d u = k2
          · rw [if_pos r, if_neg ek]
          · rw [if_neg r, if_neg r]
      have hs1 := su_up (f := fun l => hA P c d (l + 2) / 2) (k := k2 - 2) (a := 0) (n := P) (by omega)
      have hs2 := su_up (f := fun i => if i = k2 - 2 then 0 else hA P c d (i + 2) / 2) (k := k1 - 2) (a := (hA P c d k1 + hA P c d k2 + 1) / 2) (n := P) (by omega)
      have he : su (fun l => hA P c (fun v => if v = h then k1 else if d v = k2 then k1 else d v) (l + 2) / 2) P = su (fun i => if i = k1 - 2 then (hA P c d k1 + hA P c d k2 + 1) / 2 else if i = k2 - 2 then 0 else hA P c d (i + 2) / 2) P := by
        refine su_cg (fun l _ => ?_)
        by_cases q : l = k1 - 2
        · rw [if_pos q, show l + 2 = k1 by omega, zk]
        · rw [if_neg q]
          by_cases r : l = k2 - 2
          · rw [if_pos r, show l + 2 = k2 by omega, zk2]
          · rw [if_neg r, za (l + 2) (by omega) (by omega) (by omega)]
      rw [he]
      simp only [show k1 - 2 + 2 = k1 by omega, show k2 - 2 + 2 = k2 by omega] at hs1 hs2
      rw [if_neg (by omega)] at hs2
      omega
  · have e := su_1 (a := 1) hh
    have z0 : hA P (fun _ => 1) d 0 = hA P (fun _ => 1) (fun v => if v = h then k1 else if d v = k2 then k1 else d v) 0 + su (fun i => if i = h then 1 else 0) P := by
      unfold hA
      rw [← su_ad]
      refine su_cg (fun u _ => ?_)
      by_cases q : u = h
      · subst q
        simp only [if_true, h0]
        rw [if_neg (by omega)]
      · simp only [if_neg q]
        by_cases r : d u = k2
        · rw [if_pos r, if_neg (by omega), if_neg (by omega)]
        · rw [if_neg r]; simp
    omega
