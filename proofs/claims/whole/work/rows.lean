section
/-! sums over 0 .. n-1, and the largest matching of a graph with capacities -/
def su (f : Nat → Nat) : Nat → Nat
  | 0 => 0
  | n + 1 => su f n + f n
theorem su_cg {f g : Nat → Nat} : ∀ {n : Nat}, (∀ i, i < n → f i = g i) → su f n = su g n
  | 0, _ => rfl
  | n + 1, h => by
    show su f n + f n = su g n + g n
    rw [su_cg (n := n) (fun i hi => h i (by omega)), h n (by omega)]
theorem su_le {f g : Nat → Nat} : ∀ {n : Nat}, (∀ i, i < n → f i ≤ g i) → su f n ≤ su g n
  | 0, _ => Nat.le_refl _
  | n + 1, h => Nat.add_le_add (su_le (n := n) (fun i hi => h i (by omega))) (h n (by omega))
theorem su_lt {f g : Nat → Nat} {k : Nat} : ∀ {n : Nat}, (∀ i, i < n → f i ≤ g i) → k < n → f k < g k → su f n < su g n
  | 0, _, hk, _ => absurd hk (by omega)
  | n + 1, h, hk, h2 => by
    show su f n + f n < su g n + g n
    rcases Nat.lt_or_ge k n with q | q
    · have := su_lt (n := n) (fun i hi => h i (by omega)) q h2
      have := h n (by omega)
      omega
    · have e : k = n := by omega
      subst e
      have := su_le (n := k) (f := f) (g := g) (fun i hi => h i (by omega))
      omega
theorem su_ad (f g : Nat → Nat) (n : Nat) : su (fun i => f i + g i) n = su f n + su g n := by
  induction n with
  | zero => rfl
  | succ n ih =>
    show su (fun i => f i + g i) n + (f n + g n) = su f n + f n + (su g n + g n)
    rw [ih]; omega
theorem su_ml (a : Nat) (f : Nat → Nat) (n : Nat) : su (fun i => a * f i) n = a * su f n := by
  induction n with
  | zero => rfl
  | succ n ih =>
    show su (fun i => a * f i) n + a * f n = a * (su f n + f n)
    rw [ih, Nat.mul_add]
theorem su_0 (n : Nat) : su (fun _ => 0) n = 0 := by
  induction n with
  | zero => rfl
  | succ n ih => show su (fun _ => 0) n + 0 = 0; rw [ih]
theorem su_z {f : Nat → Nat} {n : Nat} (h : ∀ i, i < n → f i = 0) : su f n = 0 := by
  rw [su_cg (g := fun _ => 0) h, su_0]
theorem su_sw (f : Nat → Nat → Nat) (n m : Nat) : su (fun i => su (fun j => f i j) m) n = su (fun j => su (fun i => f i j) n) m := by
  induction n with
  | zero => exact (su_0 m).symm
  | succ n ih =>
    show su (fun i => su (fun j => f i j) m) n + su (fun j => f n j) m = su (fun j => su (fun i => f i j) n + f n j) m
    rw [ih, su_ad]
theorem su_mem {f : Nat → Nat} {n k : Nat} (h : k < n) : f k ≤ su f n := by
  induction n with
  | zero => omega
  | succ n ih =>
    show f k ≤ su f n + f n
    rcases Nat.lt_or_ge k n with q | q
    · have := ih q; omega
    · have e : k = n := by omega
      subst e; omega
theorem su_up {f : Nat → Nat} {k a n : Nat} (h : k < n) : su (fun i => if i = k then a else f i) n + f k = su f n + a := by
  induction n with
  | zero => omega
  | succ n ih =>
    show su (fun i => if i = k then a else f i) n + (if n = k then a else f n) + f k = su f n + f n + a
    rcases Nat.lt_or_ge k n with q | q
    · have := ih q
      rw [if_neg (by omega)]; omega
    · have e : k = n := by omega
      subst e
      rw [if_pos rfl, su_cg (g := f) (fun i hi => if_neg (by omega))]; omega
theorem su_1 {k n a : Nat} (h : k < n) : su (fun i => if i = k then a else 0) n = a := by
  have := su_up (f := fun _ => 0) (a := a) h
  rw [su_0] at this
  simpa using this
theorem su_ex {f g : Nat → Nat} {n : Nat} (h : su f n < su g n) : ∃ i, i < n ∧ f i < g i :=
  Classical.byContradiction fun hc => absurd (su_le (n := n) (f := g) (g := f) (fun i hi => Nat.le_of_not_lt fun hl => hc ⟨i, hi, hl⟩)) (by omega)
theorem su_ex2 {f g : Nat → Nat} {n k : Nat} (h : su g n ≤ su f n) (hk : k < n) (h2 : f k < g k) : ∃ i, i < n ∧ g i < f i :=
  Classical.byContradiction fun hc => absurd (su_lt (n := n) (f := f) (g := g) (fun i hi => Nat.le_of_not_lt fun hl => hc ⟨i, hi, hl⟩) hk h2) (by omega)
theorem mx_ex {α : Type} (S : α → Prop) (f : α → Nat) (B : Nat) (hB : ∀ a, S a → f a ≤ B) (h : ∃ a, S a) : ∃ a, S a ∧ ∀ b, S b → f b ≤ f a := by
  obtain ⟨a0, h0⟩ := h
  have key : ∀ k a, S a → B ≤ f a + k → ∃ a, S a ∧ ∀ b, S b → f b ≤ f a := by
    intro k
    induction k with
    | zero => intro a ha hb; exact ⟨a, ha, fun b hb' => Nat.le_trans (hB b hb') hb⟩
    | succ k ih =>
      intro a ha hk
      by_cases hh : ∃ b, S b ∧ f a < f b
      · obtain ⟨b, hb, hl⟩ := hh
        exact ih b hb (by omega)
      · exact ⟨a, ha, fun b hb => Nat.le_of_not_lt fun hl => hh ⟨b, hb, hl⟩⟩
  exact key B a0 h0 (by omega)
theorem mn_ex {α : Type} (S : α → Prop) (f : α → Nat) (h : ∃ a, S a) : ∃ a, S a ∧ ∀ b, S b → f a ≤ f b := by
  obtain ⟨a0, h0⟩ := h
  have key : ∀ k a, S a → f a ≤ k → ∃ a, S a ∧ ∀ b, S b → f a ≤ f b := by
    intro k
    induction k with
    | zero => intro a ha hb; exact ⟨a, ha, fun b _ => by omega⟩
    | succ k ih =>
      intro a ha hk
      by_cases hh : ∃ b, S b ∧ f b < f a
      · obtain ⟨b, hb, hl⟩ := hh
        exact ih b hb (by omega)
      · exact ⟨a, ha, fun b hb => Nat.le_of_not_lt fun hl => hh ⟨b, hb, hl⟩⟩
  exact key (f a0) a0 h0 (Nat.le_refl _)
/-! a graph: edges j < Q between the nodes x j, y j < P; a set of edges M -/
def hin (x y : Nat → Nat) (j v : Nat) : Nat := if x j = v ∨ y j = v then 1 else 0
def hdg (x y : Nat → Nat) (Q : Nat) (M : Nat → Bool) (v : Nat) : Nat := su (fun j => (M j).toNat * hin x y j v) Q
def hsz (Q : Nat) (M : Nat → Bool) : Nat := su (fun j => (M j).toNat) Q
def hfa (x y : Nat → Nat) (P Q : Nat) (c : Nat → Nat) (M : Nat → Bool) : Prop := ∀ v, v < P → hdg x y Q M v ≤ c v
def hmx (x y : Nat → Nat) (P Q : Nat) (c : Nat → Nat) (M : Nat → Bool) : Prop := hfa x y P Q c M ∧ ∀ N, hfa x y P Q c N → hsz Q N ≤ hsz Q M
def hok (x y : Nat → Nat) (P Q : Nat) : Prop := ∀ j, j < Q → x j < P ∧ y j < P ∧ x j ≠ y j
def ind (p v : Nat) : Nat := if v = p then 1 else 0
def bup (M : Nat → Bool) (k : Nat) (b : Bool) : Nat → Bool := fun i => if i = k then b else M i
theorem hdg_w {x y : Nat → Nat} {P Q : Nat} (hE : hok x y P Q) (g : Nat → Nat) (M : Nat → Bool) : su (fun v => g v * hdg x y Q M v) P = su (fun j => (M j).toNat * (g (x j) + g (y j))) Q := by
  have h1 : ∀ v, g v * hdg x y Q M v = su (fun j => g v * ((M j).toNat * hin x y j v)) Q := fun v => (su_ml _ _ _).symm
  rw [su_cg (fun v _ => h1 v), su_sw (fun v j => g v * ((M j).toNat * hin x y j v))]
  refine su_cg (fun j hj => ?_)
  obtain ⟨hx, hy, hne⟩ := hE j hj
  have h2 : ∀ v, g v * ((M j).toNat * hin x y j v) = (M j).toNat * ((if v = x j then g (x j) else 0) + (if v = y j then g (y j) else 0)) := by
    intro v
    unfold hin
    by_cases e1 : v = x j
    · subst e1
      rw [if_pos (Or.inl rfl), if_pos rfl, if_neg hne, Nat.mul_one, Nat.add_zero, Nat.mul_comm]
    · by_cases e2 : v = y j
      · subst e2
        rw [if_pos (Or.inr rfl), if_neg e1, if_pos rfl, Nat.mul_one, Nat.zero_add, Nat.mul_comm]
      · rw [if_neg (by rintro (h | h); exact e1 h.symm; exact e2 h.symm), if_neg e1, if_neg e2]
        simp
  rw [su_cg (fun v _ => h2 v), su_ml, su_ad, su_1 hx, su_1 hy]
theorem hdg_hs {x y : Nat → Nat} {P Q : Nat} (hE : hok x y P Q) (M : Nat → Bool) : su (fun v => hdg x y Q M v) P = 2 * hsz Q M := by
  have h := hdg_w hE (fun _ => 1) M
  rw [su_cg (g := fun v => hdg x y Q M v) (fun v _ => Nat.one_mul _)] at h
  rw [h, hsz, ← su_ml]
  exact su_cg (fun j _ => by show (M j).toNat * (1 + 1) = 2 * (M j).toNat; omega)
theorem hdg_on {x y : Nat → Nat} {Q j : Nat} {M : Nat → Bool} (hj : j < Q) (h : M j = false) (v : Nat) : hdg x y Q (bup M j true) v = hdg x y Q M v + hin x y j v := by
  have := su_up (f := fun i => (M i).toNat * hin x y i v) (a := hin x y j v) hj
  have e : hdg x y Q (bup M j true) v = su (fun i => if i = j then hin x y j v else (M i).toNat * hin x y i v) Q := by
    refine su_cg (fun i _ => ?_)
    unfold bup
    by_cases e : i = j
    · subst e; simp
    · simp [e]
  rw [e]
  simp only [h, Bool.toNat_false, Nat.zero_mul, Nat.add_zero] at this
  exact this
theorem hdg_off {x y : Nat → Nat} {Q j : Nat} {M : Nat → Bool} (hj : j < Q) (h : M j = true) (v : Nat) : hdg x y Q (bup M j false) v + hin x y j v = hdg x y Q M v := by
  have := su_up (f := fun i => (M i).toNat * hin x y i v) (a := 0) hj
  have e : hdg x y Q (bup M j false) v = su (fun i => if i = j then 0 else (M i).toNat * hin x y i v) Q := by
    refine su_cg (fun i _ => ?_)
    unfold bup
    by_cases e : i = j
    · subst e; simp
    · simp [e]
  rw [e]
  simp only [h, Bool.toNat_true, Nat.one_mul, Nat.add_zero] at this
  exact this
theorem hsz_on {Q j : Nat} {M : Nat → Bool} (hj : j < Q) (h : M j = false) : hsz Q (bup M j true) = hsz Q M + 1 := by
  have := su_up (f := fun i => (M i).toNat) (a := 1) hj
  have e : hsz Q (bup M j true) = su (fun i => if i = j then 1 else (M i).toNat) Q := by
    refine su_cg (fun i _ => ?_)
    unfold bup
    by_cases e : i = j
    · subst e; simp
    · simp [e]
  rw [e]
  simp only [h, Bool.toNat_false, Nat.add_zero] at this
  exact this
theorem hsz_off {Q j : Nat} {M : Nat → Bool} (hj : j < Q) (h : M j = true) : hsz Q (bup M j false) + 1 = hsz Q M := by
  have := su_up (f := fun i => (M i).toNat) (a := 0) hj
  have e : hsz Q (bup M j false) = su (fun i => if i = j then 0 else (M i).toNat) Q := by
    refine su_cg (fun i _ => ?_)
    unfold bup
    by_cases e : i = j
    · subst e; simp
    · simp [e]
  rw [e]
  simp only [h, Bool.toNat_true, Nat.add_zero] at this
  exact this
theorem hsz_le (Q : Nat) (M : Nat → Bool) : hsz Q M ≤ Q := by
  have h : hsz Q M ≤ su (fun _ => 1) Q := su_le (fun i _ => Bool.toNat_le (M i))
  have e : ∀ n, su (fun _ => 1) n = n := by
    intro n
    induction n with
    | zero => rfl
    | succ n ih => show su (fun _ => 1) n + 1 = n + 1; rw [ih]
  rw [e] at h; exact h
theorem hmx_ex (x y : Nat → Nat) (P Q : Nat) (c : Nat → Nat) : ∃ M, hmx x y P Q c M := by
  refine mx_ex (hfa x y P Q c) (hsz Q) Q (fun M _ => hsz_le Q M) ⟨fun _ => false, fun v _ => ?_⟩
  rw [hdg, su_z (fun j _ => by simp)]
  exact Nat.zero_le _
theorem hdg_lt {x y : Nat → Nat} {Q : Nat} {M N : Nat → Bool} {v : Nat} (h : hdg x y Q N v < hdg x y Q M v) : ∃ j, j < Q ∧ M j = true ∧ N j = false ∧ (x j = v ∨ y j = v) := by
  obtain ⟨j, hj, hl⟩ := su_ex h
  refine ⟨j, hj, ?_⟩
  unfold hin at hl
  by_cases e : x j = v ∨ y j = v
  · rw [if_pos e] at hl
    cases hM : M j <;> cases hN : N j <;> simp [hM, hN] at hl ⊢
    exact e
  · rw [if_neg e] at hl; simp at hl
theorem hdg_ge {x y : Nat → Nat} {Q k : Nat} {M N : Nat → Bool} {v : Nat} (h : hdg x y Q M v ≤ hdg x y Q N v) (hk : k < Q) (hM : M k = true) (hN : N k = false) (hi : x k = v ∨ y k = v) : ∃ j, j < Q ∧ N j = true ∧ M j = false ∧ (x j = v ∨ y j = v) := by
  obtain ⟨j, hj, hl⟩ := su_ex2 (k := k) h hk (by simp [hM, hN, hin, hi])
  refine ⟨j, hj, ?_⟩
  unfold hin at hl
  by_cases e : x j = v ∨ y j = v
  · rw [if_pos e] at hl
    cases hM : M j <;> cases hN : N j <;> simp [hM, hN] at hl ⊢
    exact e
  · rw [if_neg e] at hl; simp at hl
/-- no largest set leaves room for a unit at p and a unit at q -/
def hre (x y : Nat → Nat) (P Q : Nat) (c : Nat → Nat) (p q : Nat) : Prop := ∀ M, hmx x y P Q c M → ¬ ∀ v, v < P → hdg x y Q M v + ind p v + ind q v ≤ c v
theorem hre_sy {x y : Nat → Nat} {P Q : Nat} {c : Nat → Nat} {p q : Nat} (h : hre x y P Q c p q) : hre x y P Q c q p := by
  intro M hM hf
  exact h M hM (fun v hv => by have := hf v hv; omega)
theorem hin_or {x y : Nat → Nat} {j v : Nat} (h : x j = v ∨ y j = v) : hin x y j v = 1 := if_pos h
theorem hin_no {x y : Nat → Nat} {j v : Nat} (h : ¬ (x j = v ∨ y j = v)) : hin x y j v = 0 := if_neg h
/-- THE EXCHANGE -/
theorem hre_tr {x y : Nat → Nat} {P Q : Nat} {c : Nat → Nat} (hE : hok x y P Q) {p t q : Nat} (hp : p < P) (ht : t < P) (hq : q < P) (h1 : hre x y P Q c p t) (h2 : hre x y P Q c t q) (hN : ∃ N, hmx x y P Q c N ∧ ∀ v, v < P → hdg x y Q N v + ind t v ≤ c v) : hre x y P Q c p q := by
  intro M hM hf
  obtain ⟨N, ⟨hNm, hNt⟩, hmax⟩ := mx_ex (fun N => hmx x y P Q c N ∧ ∀ v, v < P → hdg x y Q N v + ind t v ≤ c v) (fun N => hsz Q (fun j => M j && N j)) Q (fun N _ => hsz_le Q _) hN
  have hsz_eq : hsz Q N = hsz Q M := Nat.le_antisymm (hM.2 N hNm.1) (hNm.2 M hM.1)
  have at_p : ∀ r, r < P → hre x y P Q c r t → c r ≤ hdg x y Q N r + ind t r := by
    intro r hr hrt
    refine Nat.le_of_not_lt (fun hl => hrt N hNm (fun v hv => ?_))
    have := hNt v hv
    unfold ind at this hl ⊢
    by_cases e : v = r
    · subst e; simp only [if_pos rfl] at *; simp at *; omega
    · rw [if_neg e]; omega
  have hcp := at_p p hp h1
  have hcq := at_p q hq (hre_sy h2)
  have hsum : su (fun v => hdg x y Q N v + ind t v) P < su (fun v => hdg x y Q M v + ind p v + ind q v) P := by
    rw [su_ad, su_ad (fun v => hdg x y Q M v + ind p v), su_ad, hdg_hs hE, hdg_hs hE, hsz_eq]
    have e : ∀ r, r < P → su (fun v => ind r v) P = 1 := fun r hr => su_1 hr
    rw [e t ht, e p hp, e q hq]; omega
  obtain ⟨z, hz, hzl⟩ := su_ex hsum
  have zp : z ≠ p := by
    intro e; subst e
    have := hf z hz
    omega
  have zq : z ≠ q := by
    intro e; subst e
    have := hf z hz
    omega
  have hzM : hdg x y Q M z ≤ c z := hM.1 z hz
  have ip : ind p z = 0 := if_neg zp
  have iq : ind q z = 0 := if_neg zq
  simp only [ip, iq, Nat.add_zero] at hzl
  obtain ⟨j, hj, hMj, hNj, hjz⟩ := hdg_lt (x := x) (y := y) (Q := Q) (M := M) (N := N) (v := z) (by omega)
  -- the other end
  obtain ⟨w, hw, hwz, hjw⟩ : ∃ w, w < P ∧ w ≠ z ∧ (∀ v, hin x y j v = ind z v + ind w v) := by
    obtain ⟨hx, hy, hne⟩ := hE j hj
    rcases hjz with e | e
    · refine ⟨y j, hy, by omega, fun v => ?_⟩
      unfold hin ind
      by_cases e1 : v = z
      · subst e1; simp [e]; omega
      · by_cases e2 : v = y j
        · subst e2; simp [e1]
        · rw [if_neg (by rintro (h | h) <;> omega), if_neg e1, if_neg e2]
    · refine ⟨x j, hx, by omega, fun v => ?_⟩
      unfold hin ind
      by_cases e1 : v = z
      · subst e1; simp [e]; omega
      · by_cases e2 : v = x j
        · subst e2; simp [e1]
        · rw [if_neg (by rintro (h | h) <;> omega), if_neg e1, if_neg e2]
  have hjw1 : x j = w ∨ y j = w := by
    refine Classical.byContradiction (fun hc => ?_)
    have := hjw w
    rw [hin_no hc] at this
    unfold ind at this
    rw [if_pos rfl] at this
    omega
  -- N with j is too much at w
  have hfull : c w ≤ hdg x y Q N w := by
    refine Nat.le_of_not_lt (fun hl => ?_)
    have hfa' : hfa x y P Q c (bup N j true) := by
      intro v hv
      rw [hdg_on hj hNj, hjw]
      have := hNt v hv
      unfold ind
      by_cases e1 : v = z
      · subst e1
        rw [if_pos rfl, if_neg (by omega)]; omega
      · by_cases e2 : v = w
        · subst e2; rw [if_neg e1, if_pos rfl]; omega
        · rw [if_neg e1, if_neg e2]; omega
    have := hNm.2 _ hfa'
    rw [hsz_on hj hNj] at this
    omega
  obtain ⟨g, hg, hNg, hMg, hgw⟩ := hdg_ge (x := x) (y := y) (Q := Q) (k := j) (M := M) (N := N) (v := w) (Nat.le_trans (hM.1 w hw) hfull) hj hMj hNj hjw1
  have hgj : j ≠ g := by intro e; subst e; rw [hMg] at hMj; cases hMj
  have hNgj : (bup N g false) j = false := by unfold bup; rw [if_neg hgj]; exact hNj
  have hdeg : ∀ v, hdg x y Q (bup (bup N g false) j true) v + hin x y g v = hdg x y Q N v + hin x y j v := by
    intro v
    rw [hdg_on hj hNgj]
    have := hdg_off (x := x) (y := y) hg hNg v
    omega
  have hszN : hsz Q (bup (bup N g false) j true) = hsz Q N := by
    rw [hsz_on hj hNgj]
    have := hsz_off hg hNg
    omega
  have hN2t : ∀ v, v < P → hdg x y Q (bup (bup N g false) j true) v + ind t v ≤ c v := by
    intro v hv
    have h3 := hdeg v
    rw [hjw v] at h3
    have := hNt v hv
    by_cases e1 : v = z
    · subst e1
      have a1 : ind v v = 1 := if_pos rfl
      have a2 : ind w v = 0 := if_neg (by omega)
      omega
    · have a1 : ind z v = 0 := if_neg e1
      by_cases e2 : v = w
      · subst e2
        have a2 : ind v v = 1 := if_pos rfl
        have a3 := hin_or hgw
        omega
      · have a2 : ind w v = 0 := if_neg e2
        omega
  have hN2m : hmx x y P Q c (bup (bup N g false) j true) :=
    ⟨fun v hv => by have := hN2t v hv; omega, fun K hK => by rw [hszN]; exact hNm.2 K hK⟩
  have hbig := hmax _ ⟨hN2m, hN2t⟩
  have e : (fun i => M i && bup (bup N g false) j true i) = bup (fun i => M i && N i) j true := by
    funext i
    unfold bup
    by_cases e1 : i = j
    · subst e1; simp [hMj]
    · by_cases e2 : i = g
      · subst e2; simp [e1, hMg]
      · simp [e1, e2]
  rw [e, hsz_on hj (by simp [hNj])] at hbig
  omega
end
section
/-! the largest set with capacities: a labelling that shows why there can't be more -/
theorem hin_ind {x y : Nat → Nat} {j : Nat} (h : x j ≠ y j) (v : Nat) : hin x y j v = ind (x j) v + ind (y j) v := by
  unfold hin ind
  by_cases e1 : v = x j
  · subst e1; rw [if_pos (Or.inl rfl), if_pos rfl, if_neg h]
  · by_cases e2 : v = y j
    · subst e2; rw [if_pos (Or.inr rfl), if_neg e1, if_pos rfl]
    · rw [if_neg (by rintro (q | q); exact e1 q.symm; exact e2 q.symm), if_neg e1, if_neg e2]
theorem ind_s (p : Nat) : ind p p = 1 := if_pos rfl
theorem ind_n {p v : Nat} (h : v ≠ p) : ind p v = 0 := if_neg h
def hcp (x y : Nat → Nat) (Q : Nat) (c : Nat → Nat) : Prop := ∀ j, j < Q → c (x j) ≤ 1 ∨ c (y j) ≤ 1
theorem hre_ad {x y : Nat → Nat} {P Q : Nat} {c : Nat → Nat} (hE : hok x y P Q) (hc : hcp x y Q c) {j : Nat} (hj : j < Q) : hre x y P Q c (x j) (y j) := by
  intro M hM hf
  obtain ⟨hx, hy, hne⟩ := hE j hj
  have fx := hf (x j) hx
  have fy := hf (y j) hy
  rw [ind_s, ind_n (p := y j) (v := x j) hne] at fx
  rw [ind_s, ind_n (p := x j) (v := y j) (Ne.symm hne)] at fy
  cases e : M j with
  | true =>
    have mx : 1 ≤ hdg x y Q M (x j) := by
      have := su_mem (f := fun i => (M i).toNat * hin x y i (x j)) hj
      simp only [e, Bool.toNat_true, hin_or (x := x) (y := y) (j := j) (v := x j) (Or.inl rfl)] at this
      exact this
    have my : 1 ≤ hdg x y Q M (y j) := by
      have := su_mem (f := fun i => (M i).toNat * hin x y i (y j)) hj
      simp only [e, Bool.toNat_true, hin_or (x := x) (y := y) (j := j) (v := y j) (Or.inr rfl)] at this
      exact this
    have := hc j hj
    omega
  | false =>
    have hfa' : hfa x y P Q c (bup M j true) := by
      intro v hv
      rw [hdg_on hj e, hin_ind hne]
      have := hf v hv
      omega
    have := hM.2 _ hfa'
    rw [hsz_on hj e] at this
    omega
def hva (x y : Nat → Nat) (Q : Nat) (d : Nat → Nat) : Prop := ∀ j, j < Q → d (x j) = 0 ∨ d (y j) = 0 ∨ (d (x j) = d (y j) ∧ 2 ≤ d (x j))
/-- what the nodes of label l hold -/
def hA (P : Nat) (c d : Nat → Nat) (l : Nat) : Nat := su (fun v => if d v = l then c v else 0) P
def hbd (P : Nat) (c d : Nat → Nat) : Nat := hA P c d 0 + su (fun l => hA P c d (l + 2) / 2) P
def hgd (x y : Nat → Nat) (Q : Nat) (c : Nat → Nat) (v : Nat) : Prop := 1 ≤ c v ∧ ∃ j, j < Q ∧ ((x j = v ∧ 1 ≤ c (y j)) ∨ (y j = v ∧ 1 ≤ c (x j)))
theorem su_lab (k n : Nat) : su (fun l => if k = l + 2 then 1 else 0) n ≤ 1 := by
  rcases Nat.lt_or_ge k 2 with q | q
  · rw [su_z (fun i _ => if_neg (by omega))]; omega
  · rcases Nat.lt_or_ge (k - 2) n with r | r
    · have e : su (fun l => if k = l + 2 then 1 else 0) n = su (fun l => if l = k - 2 then 1 else 0) n := by
        refine su_cg (fun i _ => ?_)
        by_cases z : i = k - 2
        · rw [if_pos (by omega), if_pos z]
        · rw [if_neg (by omega), if_neg z]
      rw [e, su_1 r]; omega
    · rw [su_z (fun i hi => if_neg (by omega))]; omega
theorem tb_base {x y : Nat → Nat} {P Q : Nat} {c : Nat → Nat} (hE : hok x y P Q) (hc : hcp x y Q c) (hD : ∀ v, v < P → 1 ≤ c v → ∃ N, hmx x y P Q c N ∧ ∀ u, u < P → hdg x y Q N u + ind v u ≤ c u) :
    ∃ d, hva x y Q d ∧ (∀ v, d v < P + 2) ∧ ∀ M, hmx x y P Q c M → hbd P c d ≤ hsz Q M := by
  have refl : ∀ v, v < P → hgd x y Q c v → hre x y P Q c v v := by
    intro v hv hg
    obtain ⟨h1, j, hj, h2⟩ := hg
    obtain ⟨hx, hy, hne⟩ := hE j hj
    have had := hre_ad hE hc hj
    rcases h2 with ⟨e, h3⟩ | ⟨e, h3⟩
    · subst e
      exact hre_tr hE hx hy hx had (hre_sy had) (hD _ hy h3)
    · subst e
      exact hre_tr hE hy hx hy (hre_sy had) had (hD _ hx h3)
  have ex : ∀ v, ∃ k, k < P + 2 ∧ (c v = 0 → k = 0) ∧ (1 ≤ c v → ¬ hgd x y Q c v → k = 1) ∧ (v < P → hgd x y Q c v → ∃ w, k = w + 2 ∧ w < P ∧ hgd x y Q c w ∧ hre x y P Q c v w ∧ ∀ u, u < P → hgd x y Q c u → hre x y P Q c v u → w ≤ u) := by
    intro v
    by_cases hg : hgd x y Q c v
    · by_cases hv : v < P
      · obtain ⟨w, ⟨hw, hgw, hrw⟩, hmin⟩ := mn_ex (fun w => w < P ∧ hgd x y Q c w ∧ hre x y P Q c v w) (fun w => w) ⟨v, hv, hg, refl v hv hg⟩
        refine ⟨w + 2, by omega, fun h => absurd hg.1 (by omega), fun _ h => absurd hg h, fun _ _ => ⟨w, rfl, hw, hgw, hrw, fun u hu hgu hru => hmin u ⟨hu, hgu, hru⟩⟩⟩
      · exact ⟨0, by omega, fun _ => rfl, fun _ h => absurd hg h, fun h => absurd h hv⟩
    · by_cases h0 : c v = 0
      · exact ⟨0, by omega, fun _ => rfl, fun h => absurd h0 (by omega), fun _ h => absurd h hg⟩
      · exact ⟨1, by omega, fun h => absurd h h0, fun _ _ => rfl, fun _ h => absurd h hg⟩
  obtain ⟨d, hd⟩ := Classical.axiomOfChoice ex
  have lab : ∀ v, v < P → hgd x y Q c v → ∃ w, d v = w + 2 ∧ w < P ∧ hgd x y Q c w ∧ hre x y P Q c v w ∧ ∀ u, u < P → hgd x y Q c u → hre x y P Q c v u → w ≤ u := fun v hv hg => (hd v).2.2.2 hv hg
  have same : ∀ v u, v < P → u < P → hgd x y Q c v → hgd x y Q c u → hre x y P Q c v u → d v = d u := by
    intro v u hv hu hgv hgu hr
    obtain ⟨w, e1, hw, hgw, hrw, hm⟩ := lab v hv hgv
    obtain ⟨w', e2, hw', hgw', hrw', hm'⟩ := lab u hu hgu
    have a1 := hm w' hw' hgw' (hre_tr hE hv hu hw' hr hrw' (hD u hu hgu.1))
    have a2 := hm' w hw hgw (hre_tr hE hu hv hw (hre_sy hr) hrw (hD v hv hgv.1))
    omega
  have zero : ∀ v, d v = 0 → v < P → c v = 0 := by
    intro v h hv
    refine Classical.byContradiction (fun h0 => ?_)
    by_cases hg : hgd x y Q c v
    · obtain ⟨w, e1, _⟩ := lab v hv hg
      omega
    · have := (hd v).2.2.1 (by omega) hg
      omega
  have two : ∀ v, v < P → 2 ≤ d v → hgd x y Q c v := by
    intro v hv h
    refine Classical.byContradiction (fun hg => ?_)
    by_cases h0 : c v = 0
    · have := (hd v).2.1 h0; omega
    · have := (hd v).2.2.1 (by omega) hg; omega
  have rel : ∀ v u, v < P → u < P → 2 ≤ d v → d v = d u → hre x y P Q c v u := by
    intro v u hv hu h2 e
    obtain ⟨w, e1, hw, hgw, hrw, _⟩ := lab v hv (two v hv h2)
    obtain ⟨w', e2, hw', hgw', hrw', _⟩ := lab u hu (two u hu (by omega))
    have ew : w = w' := by omega
    subst ew
    exact hre_tr hE hv hw hu hrw (hre_sy hrw') (hD w hw hgw.1)
  have edge : ∀ j, j < Q → 1 ≤ c (x j) → 1 ≤ c (y j) → d (x j) = d (y j) ∧ 2 ≤ d (x j) := by
    intro j hj h1 h2
    obtain ⟨hx, hy, hne⟩ := hE j hj
    have g1 : hgd x y Q c (x j) := ⟨h1, j, hj, Or.inl ⟨rfl, h2⟩⟩
    have g2 : hgd x y Q c (y j) := ⟨h2, j, hj, Or.inr ⟨rfl, h1⟩⟩
    refine ⟨same _ _ hx hy g1 g2 (hre_ad hE hc hj), ?_⟩
    obtain ⟨w, e1, _⟩ := lab _ hx g1
    omega
  refine ⟨d, fun j hj => ?_, fun v => (hd v).1, fun M hM => ?_⟩
  · by_cases h1 : c (x j) = 0
    · exact Or.inl ((hd _).2.1 h1)
    · by_cases h2 : c (y j) = 0
      · exact Or.inr (Or.inl ((hd _).2.1 h2))
      · exact Or.inr (Or.inr (edge j hj (by omega) (by omega)))
  · have h0 : hA P c d 0 = 0 := su_z (fun v hv => by
      by_cases e : d v = 0
      · rw [if_pos e]; exact zero v e hv
      · rw [if_neg e])
    rw [hbd, h0, Nat.zero_add]
    have live : ∀ j, j < Q → M j = true → 1 ≤ c (x j) ∧ 1 ≤ c (y j) := by
      intro j hj e
      obtain ⟨hx, hy, hne⟩ := hE j hj
      have a1 := su_mem (f := fun i => (M i).toNat * hin x y i (x j)) hj
      have a2 := su_mem (f := fun i => (M i).toNat * hin x y i (y j)) hj
      simp only [e, Bool.toNat_true, hin_or (x := x) (y := y) (j := j) (v := x j) (Or.inl rfl)] at a1
      simp only [e, Bool.toNat_true, hin_or (x := x) (y := y) (j := j) (v := y j) (Or.inr rfl)] at a2
      exact ⟨Nat.le_trans a1 (hM.1 _ hx), Nat.le_trans a2 (hM.1 _ hy)⟩
    have per : ∀ l, l < P → hA P c d (l + 2) / 2 ≤ su (fun j => (M j).toNat * (if d (x j) = l + 2 then 1 else 0)) Q := by
      intro l _
      have hw := hdg_w hE (fun v => if d v = l + 2 then 1 else 0) M
      have hr : su (fun j => (M j).toNat * ((if d (x j) = l + 2 then 1 else 0) + (if d (y j) = l + 2 then 1 else 0))) Q = 2 * su (fun j => (M j).toNat * (if d (x j) = l + 2 then 1 else 0)) Q := by
        rw [← su_ml]
        refine su_cg (fun j hj => ?_)
        cases e : M j with
        | false => simp
        | true =>
          obtain ⟨b1, b2⟩ := live j hj e
          have := (edge j hj b1 b2).1
          rw [this]
          simp only [Bool.toNat_true]; omega
      rw [hr] at hw
      have key : hA P c d (l + 2) ≤ su (fun v => (if d v = l + 2 then 1 else 0) * hdg x y Q M v) P + 1 := by
        refine Nat.le_of_not_lt (fun hlt => ?_)
        obtain ⟨p, hp, hpl⟩ := su_ex (n := P) (f := fun v => (if d v = l + 2 then 1 else 0) * hdg x y Q M v) (g := fun v => if d v = l + 2 then c v else 0) (by unfold hA at hlt; omega)
        have ep : d p = l + 2 := Classical.byContradiction (fun h => by simp [h] at hpl)
        simp only [ep, if_true, Nat.one_mul] at hpl
        obtain ⟨q, hq, hql⟩ := su_ex (n := P) (f := fun v => (if d v = l + 2 then 1 else 0) * hdg x y Q M v + ind p v) (g := fun v => if d v = l + 2 then c v else 0) (by
          rw [su_ad, show su (fun v => ind p v) P = 1 from su_1 hp]
          unfold hA at hlt; omega)
        have eq : d q = l + 2 := Classical.byContradiction (fun h => by simp [h] at hql)
        simp only [eq, if_true, Nat.one_mul] at hql
        refine rel p q hp hq (by omega) (by omega) M hM (fun v hv => ?_)
        have hfv := hM.1 v hv
        by_cases e1 : v = q
        · subst e1; rw [ind_s]; omega
        · rw [ind_n e1]
          by_cases e2 : v = p
          · subst e2; rw [ind_s]; omega
          · rw [ind_n e2]; omega
      omega
    refine Nat.le_trans (su_le per) ?_
    rw [su_sw (fun l j => (M j).toNat * (if d (x j) = l + 2 then 1 else 0))]
    refine su_le (fun j _ => ?_)
    show su (fun l => (M j).toNat * (if d (x j) = l + 2 then 1 else 0)) P ≤ (M j).toNat
    rw [su_ml]
    have := Nat.mul_le_mul_left (M j).toNat (su_lab (d (x j)) P)
    omega
theorem hA_dec {P : Nat} {c d : Nat → Nat} {v : Nat} (hv : v < P) (h1 : 1 ≤ c v) (l : Nat) : hA P c d l = hA P (fun u => if u = v then c v - 1 else c u) d l + (if d v = l then 1 else 0) := by
  unfold hA
  have e := su_1 (a := if d v = l then 1 else 0) hv
  rw [← e, ← su_ad]
  refine su_cg (fun u _ => ?_)
  by_cases q : u = v
  · subst q
    by_cases r : d u = l
    · simp [r]; omega
    · simp [r]
  · simp [q]
theorem hbd_dec {P : Nat} {c d : Nat → Nat} {v : Nat} (hv : v < P) (h1 : 1 ≤ c v) : hbd P c d ≤ hbd P (fun u => if u = v then c v - 1 else c u) d + 1 := by
  unfold hbd
  rw [hA_dec hv h1 0]
  have h2 : su (fun l => hA P c d (l + 2) / 2) P ≤ su (fun l => hA P (fun u => if u = v then c v - 1 else c u) d (l + 2) / 2 + (if d v = l + 2 then 1 else 0)) P := by
    refine su_le (fun l _ => ?_)
    rw [hA_dec hv h1 (l + 2)]
    split <;> omega
  rw [su_ad] at h2
  have h3 := su_lab (d v) P
  by_cases e : d v = 0
  · have : su (fun l => if d v = l + 2 then 1 else 0) P = 0 := su_z (fun i _ => if_neg (by omega))
    rw [if_pos e]; omega
  · rw [if_neg e]; omega
theorem tb {x y : Nat → Nat} {P Q : Nat} (hE : hok x y P Q) : ∀ (s : Nat) (c : Nat → Nat), su c P = s → hcp x y Q c →
    ∃ d, hva x y Q d ∧ (∀ v, d v < P + 2) ∧ ∀ M, hmx x y P Q c M → hbd P c d ≤ hsz Q M := by
  intro s
  induction s with
  | zero =>
    intro c hs hc
    refine tb_base hE hc (fun v hv h1 => ?_)
    have := su_mem (f := c) hv
    omega
  | succ s ih =>
    intro c hs hc
    by_cases h : ∃ v, v < P ∧ 1 ≤ c v ∧ ∀ M, hmx x y P Q c M → c v ≤ hdg x y Q M v
    · obtain ⟨v, hv, h1, hall⟩ := h
      have hsu := su_up (f := c) (a := c v - 1) hv
      obtain ⟨d, hd1, hd2, hd3⟩ := ih (fun u => if u = v then c v - 1 else c u) (by omega) (fun j hj => by
        have := hc j hj
        show (if x j = v then c v - 1 else c (x j)) ≤ 1 ∨ (if y j = v then c v - 1 else c (y j)) ≤ 1
        by_cases e1 : x j = v
        · by_cases e2 : y j = v
          · rw [if_pos e1, if_pos e2]; rw [e1, e2] at this; omega
          · rw [if_pos e1, if_neg e2]; rw [e1] at this; omega
        · by_cases e2 : y j = v
          · rw [if_neg e1, if_pos e2]; rw [e2] at this; omega
          · rw [if_neg e1, if_neg e2]; exact this)
      refine ⟨d, hd1, hd2, fun M hM => ?_⟩
      obtain ⟨M', hM'⟩ := hmx_ex x y P Q (fun u => if u = v then c v - 1 else c u)
      have h3 := hd3 M' hM'
      have hf' : hfa x y P Q c M' := by
        intro u hu
        have := hM'.1 u hu
        by_cases e : u = v
        · subst e; simp only [if_true] at this; omega
        · simp only [if_neg e] at this; exact this
      have hlt : hsz Q M' + 1 ≤ hsz Q M := by
        refine Nat.lt_of_le_of_ne (hM.2 M' hf') (fun e => ?_)
        have hm : hmx x y P Q c M' := ⟨hf', fun K hK => by rw [e]; exact hM.2 K hK⟩
        have a1 := hall M' hm
        have a2 := hM'.1 v hv
        simp only [if_true] at a2
        omega
      have := hbd_dec (d := d) hv h1
      omega
    · refine tb_base hE hc (fun v hv h1 => ?_)
      refine Classical.byContradiction (fun hn => h ⟨v, hv, h1, fun M hM => Nat.le_of_not_lt (fun hl => hn ⟨M, hM, fun u hu => ?_⟩)⟩)
      have := hM.1 u hu
      by_cases e : u = v
      · subst e; rw [ind_s]; omega
      · rw [ind_n e]; omega
/-- a node of capacity 1 leaves label 0, and two labels become one -/
theorem tb_move {x y : Nat → Nat} {P Q : Nat} {c d : Nat → Nat} (hv : hva x y Q d) (hd : ∀ v, d v < P + 2) {h k1 k2 : Nat} (hh : h < P) (hc : c h = 1) (h0 : d h = 0) (hk1 : 2 ≤ k1) (hk2 : 2 ≤ k2) (hl1 : k1 < P + 2) (hl2 : k2 < P + 2)
    (hn : ∀ j, j < Q → (x j = h → y j ≠ h ∧ (d (y j) = 0 ∨ d (y j) = k1 ∨ d (y j) = k2)) ∧ (y j = h → x j ≠ h ∧ (d (x j) = 0 ∨ d (x j) = k1 ∨ d (x j) = k2))) :
    ∃ d', hva x y Q d' ∧ (∀ v, d' v < P + 2) ∧ hbd P c d' ≤ hbd P c d ∧ hA P (fun _ => 1) d' 0 < hA P (fun _ => 1) d 0 := by
  refine ⟨fun v => if v = h then k1 else if d v = k2 then k1 else d v, ?_, ?_, ?_, ?_⟩
  · intro j hj
    have hvj := hv j hj
    obtain ⟨n1, n2⟩ := hn j hj
    by_cases e1 : x j = h
    · obtain ⟨m1, m2⟩ := n1 e1
      simp only [e1, if_true, if_neg m1]
      by_cases e3 : d (y j) = k2
      · rw [if_pos e3]; right; right; exact ⟨rfl, hk1⟩
      · rw [if_neg e3]; omega
    · by_cases e2 : y j = h
      · obtain ⟨m1, m2⟩ := n2 e2
        simp only [e2, if_true, if_neg m1]
        by_cases e3 : d (x j) = k2
        · rw [if_pos e3]; right; right; exact ⟨rfl, hk1⟩
        · rw [if_neg e3]; omega
      · simp only [if_neg e1, if_neg e2]
        by_cases e3 : d (x j) = k2
        · by_cases e4 : d (y j) = k2
          · rw [if_pos e3, if_pos e4]; right; right; exact ⟨rfl, hk1⟩
          · rw [if_pos e3, if_neg e4]; omega
        · by_cases e4 : d (y j) = k2
          · rw [if_neg e3, if_pos e4]; omega
          · rw [if_neg e3, if_neg e4]; exact hvj
  · intro v
    show (if v = h then k1 else if d v = k2 then k1 else d v) < P + 2
    split
    · exact hl1
    · split
      · exact hl1
      · exact hd v
  · have z0 : hA P c (fun v => if v = h then k1 else if d v = k2 then k1 else d v) 0 + 1 = hA P c d 0 := by
      unfold hA
      have e := su_1 (a := 1) hh
      rw [← e, ← su_ad]
      refine su_cg (fun u _ => ?_)
      by_cases q : u = h
      · subst q
        simp only [if_true, h0]
        rw [if_neg (by omega), hc]
      · simp only [if_neg q]
        by_cases r : d u = k2
        · rw [if_pos r, if_neg (by omega), if_neg (by omega)]
        · rw [if_neg r]; simp
    have za : ∀ l, 2 ≤ l → l ≠ k1 → l ≠ k2 → hA P c (fun v => if v = h then k1 else if d v = k2 then k1 else d v) l = hA P c d l := by
      intro l hl a1 a2
      refine su_cg (fun u _ => ?_)
      by_cases q : u = h
      · subst q
        simp only [if_true, h0]
        rw [if_neg (by omega), if_neg (by omega)]
      · simp only [if_neg q]
        by_cases r : d u = k2
        · rw [if_pos r, if_neg (by omega), if_neg (by omega)]
        · rw [if_neg r]
    have e := su_1 (a := 1) hh
    unfold hbd
    by_cases ek : k1 = k2
    · subst ek
      have zk : hA P c (fun v => if v = h then k1 else if d v = k1 then k1 else d v) k1 = hA P c d k1 + 1 := by
        unfold hA
        rw [← e, ← su_ad]
        refine su_cg (fun u _ => ?_)
        by_cases q : u = h
        · subst q
          simp only [if_true, h0]
          rw [if_neg (by omega), hc]
        · simp only [if_neg q]
          by_cases r : d u = k1
          · rw [if_pos r]; simp [r]
          · rw [if_neg r]; simp
      have hs := su_up (f := fun l => hA P c d (l + 2) / 2) (k := k1 - 2) (a := (hA P c d k1 + 1) / 2) (n := P) (by omega)
      have he : su (fun l => hA P c (fun v => if v = h then k1 else if d v = k1 then k1 else d v) (l + 2) / 2) P = su (fun i => if i = k1 - 2 then (hA P c d k1 + 1) / 2 else hA P c d (i + 2) / 2) P := by
        refine su_cg (fun l _ => ?_)
        by_cases q : l = k1 - 2
        · rw [if_pos q, show l + 2 = k1 by omega, zk]
        · rw [if_neg q, za (l + 2) (by omega) (by omega) (by omega)]
      rw [he]
      simp only [show k1 - 2 + 2 = k1 by omega] at hs
      omega
    · have zk : hA P c (fun v => if v = h then k1 else if d v = k2 then k1 else d v) k1 = hA P c d k1 + hA P c d k2 + 1 := by
        unfold hA
        rw [← e, ← su_ad, ← su_ad]
        refine su_cg (fun u _ => ?_)
        by_cases q : u = h
        · subst q
          simp only [if_true, h0]
          rw [if_neg (by omega), if_neg (by omega), hc]
        · simp only [if_neg q]
          by_cases r : d u = k2
          · rw [if_pos r, r, if_pos rfl, if_neg (by omega), if_pos rfl]; omega
          · rw [if_neg r, if_neg r]; omega
      have zk2 : hA P c (fun v => if v = h then k1 else if d v = k2 then k1 else d v) k2 = 0 := by
        refine su_z (fun u _ => ?_)
        by_cases q : u = h
        · subst q
          simp only [if_true]
          rw [if_neg ek]
        · simp only [if_neg q]
          by_cases r : d u = k2
          · rw [if_pos r, if_neg ek]
          · rw [if_neg r, if_neg r]
      have hs1 := su_up (f := fun l => hA P c d (l + 2) / 2) (k := k2 - 2) (a := 0) (n := P) (by omega)
      have hs2 := su_up (f := fun i => if i = k2 - 2 then 0 else hA P c d (i + 2) / 2) (k := k1 - 2) (a := (hA P c d k1 + hA P c d k2 + 1) / 2) (n := P) (by omega)
      have he : su (fun l => hA P c (fun v => if v = h then k1 else if d v = k2 then k1 else d v) (l + 2) / 2) P = su (fun i => if i = k1 - 2 then (hA P c d k1 + hA P c d k2 + 1) / 2 else if i = k2 - 2 then 0 else hA P c d (i + 2) / 2) P := by
        refine su_cg (fun l _ => ?_)
        by_cases q : l = k1 - 2
        · rw [if_pos q, show l + 2 = k1 by omega, zk]
        · rw [if_neg q]
          by_cases r : l = k2 - 2
          · rw [if_pos r, show l + 2 = k2 by omega, zk2]
          · rw [if_neg r, za (l + 2) (by omega) (by omega) (by omega)]
      rw [he]
      simp only [show k1 - 2 + 2 = k1 by omega, show k2 - 2 + 2 = k2 by omega] at hs1 hs2
      rw [if_neg (by omega)] at hs2
      omega
  · have e := su_1 (a := 1) hh
    have z0 : hA P (fun _ => 1) d 0 = hA P (fun _ => 1) (fun v => if v = h then k1 else if d v = k2 then k1 else d v) 0 + su (fun i => if i = h then 1 else 0) P := by
      unfold hA
      rw [← su_ad]
      refine su_cg (fun u _ => ?_)
      by_cases q : u = h
      · subst q
        simp only [if_true, h0]
        rw [if_neg (by omega)]
      · simp only [if_neg q]
        by_cases r : d u = k2
        · rw [if_pos r, if_neg (by omega), if_neg (by omega)]
        · rw [if_neg r]; simp
    omega
end
section
/-! vertices with demands: the least bound is as many as the largest fair set has -/
theorem su_2 (f : Nat → Nat) (n m : Nat) : su f (n + 2 * m) = su f n + su (fun e => f (n + 2 * e) + f (n + 2 * e + 1)) m := by
  induction m with
  | zero => rfl
  | succ m ih =>
    show su f (n + 2 * m + 1 + 1) = su f n + (su (fun e => f (n + 2 * e) + f (n + 2 * e + 1)) m + (f (n + 2 * m) + f (n + 2 * m + 1)))
    show su f (n + 2 * m) + f (n + 2 * m) + f (n + 2 * m + 1) = _
    rw [ih]; omega
theorem su_3 (f : Nat → Nat) (m : Nat) : su f (3 * m) = su (fun e => f (3 * e) + f (3 * e + 1) + f (3 * e + 2)) m := by
  induction m with
  | zero => rfl
  | succ m ih =>
    show su f (3 * m + 1 + 1 + 1) = su (fun e => f (3 * e) + f (3 * e + 1) + f (3 * e + 2)) m + (f (3 * m) + f (3 * m + 1) + f (3 * m + 2))
    show su f (3 * m) + f (3 * m) + f (3 * m + 1) + f (3 * m + 2) = _
    rw [ih]; omega
def gX (n : Nat) (fi : Nat → Nat) (j : Nat) : Nat := if j % 3 = 0 then fi (j / 3) else if j % 3 = 1 then n + 2 * (j / 3) else n + 2 * (j / 3) + 1
def gY (n : Nat) (se : Nat → Nat) (j : Nat) : Nat := if j % 3 = 0 then n + 2 * (j / 3) else if j % 3 = 1 then n + 2 * (j / 3) + 1 else se (j / 3)
def gC (n : Nat) (b : Nat → Nat) (v : Nat) : Nat := if v < n then b v else 1
theorem gX0 (n : Nat) (fi : Nat → Nat) (e : Nat) : gX n fi (3 * e) = fi e := by
  unfold gX; rw [if_pos (by omega), show 3 * e / 3 = e by omega]
theorem gX1 (n : Nat) (fi : Nat → Nat) (e : Nat) : gX n fi (3 * e + 1) = n + 2 * e := by
  unfold gX; rw [if_neg (by omega), if_pos (by omega), show (3 * e + 1) / 3 = e by omega]
theorem gX2 (n : Nat) (fi : Nat → Nat) (e : Nat) : gX n fi (3 * e + 2) = n + 2 * e + 1 := by
  unfold gX; rw [if_neg (by omega), if_neg (by omega), show (3 * e + 2) / 3 = e by omega]
theorem gY0 (n : Nat) (se : Nat → Nat) (e : Nat) : gY n se (3 * e) = n + 2 * e := by
  unfold gY; rw [if_pos (by omega), show 3 * e / 3 = e by omega]
theorem gY1 (n : Nat) (se : Nat → Nat) (e : Nat) : gY n se (3 * e + 1) = n + 2 * e + 1 := by
  unfold gY; rw [if_neg (by omega), if_pos (by omega), show (3 * e + 1) / 3 = e by omega]
theorem gY2 (n : Nat) (se : Nat → Nat) (e : Nat) : gY n se (3 * e + 2) = se e := by
  unfold gY; rw [if_neg (by omega), if_neg (by omega), show (3 * e + 2) / 3 = e by omega]
theorem j3 {j m : Nat} (h : j < 3 * m) : ∃ e, e < m ∧ (j = 3 * e ∨ j = 3 * e + 1 ∨ j = 3 * e + 2) := ⟨j / 3, by omega, by omega⟩
/-- edges between the nodes of label l and those of label 1 -/
def nbt (fi se d : Nat → Nat) (e l : Nat) : Nat := if (d (fi e) = l ∧ d (se e) = 1) ∨ (d (fi e) = 1 ∧ d (se e) = l) then 1 else 0
def nww (fi se d : Nat → Nat) (e : Nat) : Nat := if d (fi e) = 1 ∧ d (se e) = 1 then 1 else 0
/-- the bound that a labelling gives: label 0 is U, label 1 is W, the parts have labels from 2 on -/
def nbd (fi se : Nat → Nat) (n m L : Nat) (b d : Nat → Nat) : Nat := hA n b d 0 + su (fun e => nww fi se d e) m + su (fun l => (hA n b d (l + 2) + su (fun e => nbt fi se d e (l + 2)) m) / 2) L
def nva (fi se : Nat → Nat) (m : Nat) (d : Nat → Nat) : Prop := ∀ e, e < m → 2 ≤ d (fi e) → 2 ≤ d (se e) → d (fi e) = d (se e)
theorem dual_bd {fi se : Nat → Nat} {n m : Nat} {b d : Nat → Nat} (hv : hva (gX n fi) (gY n se) (3 * m) d) (hd : ∀ v, d v < n + 2 * m + 2) :
    nbd fi se n m (n + 2 * m) b d + m ≤ hbd (n + 2 * m) (gC n b) d := by
  -- the nodes in the middle
  have e1 : ∀ e, e < m → (d (fi e) = 0 ∨ d (n + 2 * e) = 0 ∨ (d (fi e) = d (n + 2 * e) ∧ 2 ≤ d (fi e))) ∧ (d (n + 2 * e) = 0 ∨ d (n + 2 * e + 1) = 0 ∨ (d (n + 2 * e) = d (n + 2 * e + 1) ∧ 2 ≤ d (n + 2 * e))) ∧ (d (n + 2 * e + 1) = 0 ∨ d (se e) = 0 ∨ (d (n + 2 * e + 1) = d (se e) ∧ 2 ≤ d (n + 2 * e + 1))) := by
    intro e he
    have a0 := hv (3 * e) (by omega)
    have a1 := hv (3 * e + 1) (by omega)
    have a2 := hv (3 * e + 2) (by omega)
    rw [gX0, gY0] at a0
    rw [gX1, gY1] at a1
    rw [gX2, gY2] at a2
    exact ⟨a0, a1, a2⟩
  have hAs : ∀ l, hA (n + 2 * m) (gC n b) d l = hA n b d l + su (fun e => (if d (n + 2 * e) = l then 1 else 0) + (if d (n + 2 * e + 1) = l then 1 else 0)) m := by
    intro l
    unfold hA
    rw [su_2]
    congr 1
    · refine su_cg (fun v hv => ?_)
      unfold gC; rw [if_pos hv]
    · refine su_cg (fun e _ => ?_)
      unfold gC; rw [if_neg (show ¬ n + 2 * e < n by omega), if_neg (show ¬ n + 2 * e + 1 < n by omega)]
  -- p: both in the middle have one label; k: one of them has label 0
  have hp : ∀ l, su (fun e => (if d (n + 2 * e) = l + 2 then 1 else 0) + (if d (n + 2 * e + 1) = l + 2 then 1 else 0)) m = su (fun e => if d (n + 2 * e) ≠ 0 ∧ d (n + 2 * e + 1) ≠ 0 then 0 else (if d (n + 2 * e) = l + 2 then 1 else 0) + (if d (n + 2 * e + 1) = l + 2 then 1 else 0)) m + 2 * su (fun e => if d (n + 2 * e) ≠ 0 ∧ d (n + 2 * e + 1) ≠ 0 ∧ d (n + 2 * e) = l + 2 then 1 else 0) m := by
    intro l
    rw [← su_ml, ← su_ad]
    refine su_cg (fun e he => ?_)
    have := e1 e he
    by_cases q : d (n + 2 * e) ≠ 0 ∧ d (n + 2 * e + 1) ≠ 0
    · have eq : d (n + 2 * e) = d (n + 2 * e + 1) := by omega
      rw [if_pos q]
      by_cases r : d (n + 2 * e) = l + 2
      · rw [if_pos r, if_pos (by omega), if_pos ⟨q.1, q.2, r⟩]
      · rw [if_neg r, if_neg (by omega), if_neg (fun h => r h.2.2)]
    · rw [if_neg q, if_neg (c := d (n + 2 * e) ≠ 0 ∧ d (n + 2 * e + 1) ≠ 0 ∧ d (n + 2 * e) = l + 2) (fun h => q ⟨h.1, h.2.1⟩)]
      omega
  have hb : ∀ l, su (fun e => nbt fi se d e (l + 2)) m ≤ su (fun e => if d (n + 2 * e) ≠ 0 ∧ d (n + 2 * e + 1) ≠ 0 then 0 else (if d (n + 2 * e) = l + 2 then 1 else 0) + (if d (n + 2 * e + 1) = l + 2 then 1 else 0)) m + su (fun e => if d (n + 2 * e) = 0 ∧ d (n + 2 * e + 1) = 0 then nbt fi se d e (l + 2) else 0) m := by
    intro l
    rw [← su_ad]
    refine su_le (fun e he => ?_)
    have := e1 e he
    unfold nbt
    by_cases q : (d (fi e) = l + 2 ∧ d (se e) = 1) ∨ (d (fi e) = 1 ∧ d (se e) = l + 2)
    · rw [if_pos q]
      by_cases r : d (n + 2 * e) = 0 ∧ d (n + 2 * e + 1) = 0
      · rw [if_pos r]; omega
      · rw [if_neg r, if_neg (by omega)]
        rcases q with q | q
        · rw [if_pos (show d (n + 2 * e) = l + 2 by omega)]; omega
        · rw [if_pos (show d (n + 2 * e + 1) = l + 2 by omega)]; omega
    · rw [if_neg q]; omega
  have hl : su (fun l => (hA n b d (l + 2) + su (fun e => nbt fi se d e (l + 2)) m) / 2) (n + 2 * m) + su (fun l => su (fun e => if d (n + 2 * e) ≠ 0 ∧ d (n + 2 * e + 1) ≠ 0 ∧ d (n + 2 * e) = l + 2 then 1 else 0) m) (n + 2 * m) ≤ su (fun l => hA (n + 2 * m) (gC n b) d (l + 2) / 2) (n + 2 * m) + su (fun l => su (fun e => if d (n + 2 * e) = 0 ∧ d (n + 2 * e + 1) = 0 then nbt fi se d e (l + 2) else 0) m) (n + 2 * m) := by
    rw [← su_ad, ← su_ad]
    refine su_le (fun l _ => ?_)
    have a1 := hAs (l + 2)
    have a2 := hp l
    have a3 := hb l
    omega
  rw [su_sw (fun l e => if d (n + 2 * e) ≠ 0 ∧ d (n + 2 * e + 1) ≠ 0 ∧ d (n + 2 * e) = l + 2 then 1 else 0), su_sw (fun l e => if d (n + 2 * e) = 0 ∧ d (n + 2 * e + 1) = 0 then nbt fi se d e (l + 2) else 0)] at hl
  have one : ∀ k, su (fun _ => 1) k = k := by
    intro k
    induction k with
    | zero => rfl
    | succ k ih => show su (fun _ => 1) k + 1 = k + 1; rw [ih]
  have hper : su (fun e => nww fi se d e + su (fun l => if d (n + 2 * e) = 0 ∧ d (n + 2 * e + 1) = 0 then nbt fi se d e (l + 2) else 0) (n + 2 * m) + 1) m ≤ su (fun e => ((if d (n + 2 * e) = 0 then 1 else 0) + (if d (n + 2 * e + 1) = 0 then 1 else 0)) + su (fun l => if d (n + 2 * e) ≠ 0 ∧ d (n + 2 * e + 1) ≠ 0 ∧ d (n + 2 * e) = l + 2 then 1 else 0) (n + 2 * m)) m := by
    refine su_le (fun e he => ?_)
    have h1 := e1 e he
    unfold nww
    by_cases q : d (n + 2 * e) = 0 ∧ d (n + 2 * e + 1) = 0
    · rw [if_pos q.1, if_pos q.2]
      have hz : (if d (fi e) = 1 ∧ d (se e) = 1 then 1 else 0) + su (fun l => if d (n + 2 * e) = 0 ∧ d (n + 2 * e + 1) = 0 then nbt fi se d e (l + 2) else 0) (n + 2 * m) ≤ 1 := by
        by_cases r : d (fi e) = 1 ∧ d (se e) = 1
        · rw [if_pos r, su_z (fun l _ => ?_)]
          · omega
          · rw [if_pos q]; unfold nbt; rw [if_neg (by omega)]
        · rw [if_neg r]
          have := su_lab (if d (fi e) = 1 then d (se e) else d (fi e)) (n + 2 * m)
          have h4 : su (fun l => if d (n + 2 * e) = 0 ∧ d (n + 2 * e + 1) = 0 then nbt fi se d e (l + 2) else 0) (n + 2 * m) ≤ su (fun l => if (if d (fi e) = 1 then d (se e) else d (fi e)) = l + 2 then 1 else 0) (n + 2 * m) := by
            refine su_le (fun l _ => ?_)
            rw [if_pos q]
            unfold nbt
            by_cases t : (d (fi e) = l + 2 ∧ d (se e) = 1) ∨ (d (fi e) = 1 ∧ d (se e) = l + 2)
            · rw [if_pos t]
              rcases t with t | t
              · rw [if_neg (show ¬ d (fi e) = 1 by omega), if_pos t.1]; exact Nat.le_refl _
              · rw [if_pos t.1, if_pos t.2]; exact Nat.le_refl _
            · rw [if_neg t]; omega
          omega
      omega
    · have hz : su (fun l => if d (n + 2 * e) = 0 ∧ d (n + 2 * e + 1) = 0 then nbt fi se d e (l + 2) else 0) (n + 2 * m) = 0 := su_z (fun l _ => if_neg q)
      rw [hz]
      have hw : ¬ (d (fi e) = 1 ∧ d (se e) = 1) := by omega
      rw [if_neg hw]
      by_cases r : d (n + 2 * e) ≠ 0 ∧ d (n + 2 * e + 1) ≠ 0
      · have hlab := hd (n + 2 * e)
        have hs : su (fun l => if d (n + 2 * e) ≠ 0 ∧ d (n + 2 * e + 1) ≠ 0 ∧ d (n + 2 * e) = l + 2 then 1 else 0) (n + 2 * m) = su (fun l => if l = d (n + 2 * e) - 2 then 1 else 0) (n + 2 * m) := by
          refine su_cg (fun l _ => ?_)
          by_cases t : l = d (n + 2 * e) - 2
          · rw [if_pos t, if_pos (by omega)]
          · rw [if_neg t, if_neg (by omega)]
        rw [hs, su_1 (by omega)]
        omega
      · by_cases t : d (n + 2 * e) = 0
        · rw [if_pos t]; omega
        · rw [if_neg t, if_pos (show d (n + 2 * e + 1) = 0 by omega)]; omega
  rw [su_ad, su_ad (fun e => nww fi se d e), su_ad (fun e => (if d (n + 2 * e) = 0 then 1 else 0) + (if d (n + 2 * e + 1) = 0 then 1 else 0)), one] at hper
  unfold nbd hbd
  rw [hAs 0]
  omega
theorem dual_sz {fi se : Nat → Nat} {n m : Nat} {b : Nat → Nat} (hfs : hok fi se n m) {M : Nat → Bool} (hM : hfa (gX n fi) (gY n se) (n + 2 * m) (3 * m) (gC n b) M) :
    ∃ N, hfa fi se n m b N ∧ hsz (3 * m) M ≤ m + hsz m N := by
  refine ⟨fun e => M (3 * e) && M (3 * e + 2), ?_, ?_⟩
  · intro v hv
    have h1 := hM v (by omega)
    have hc : gC n b v = b v := if_pos hv
    rw [hc] at h1
    refine Nat.le_trans ?_ h1
    unfold hdg
    rw [su_3]
    refine su_le (fun e he => ?_)
    obtain ⟨hx, hy, hne⟩ := hfs e he
    have k0 : hin (gX n fi) (gY n se) (3 * e) v = ind (fi e) v := by
      unfold hin ind
      rw [gX0, gY0]
      by_cases q : v = fi e
      · rw [if_pos q, if_pos (Or.inl q.symm)]
      · rw [if_neg q, if_neg (by omega)]
    have k2 : hin (gX n fi) (gY n se) (3 * e + 2) v = ind (se e) v := by
      unfold hin ind
      rw [gX2, gY2]
      by_cases q : v = se e
      · rw [if_pos q, if_pos (Or.inr q.symm)]
      · rw [if_neg q, if_neg (by omega)]
    show (M (3 * e) && M (3 * e + 2)).toNat * hin fi se e v ≤ (M (3 * e)).toNat * hin (gX n fi) (gY n se) (3 * e) v + (M (3 * e + 1)).toNat * hin (gX n fi) (gY n se) (3 * e + 1) v + (M (3 * e + 2)).toNat * hin (gX n fi) (gY n se) (3 * e + 2) v
    rw [k0, k2, hin_ind hne]
    cases M (3 * e) <;> cases M (3 * e + 2) <;> simp <;> omega
  · unfold hsz
    rw [su_3]
    have one : ∀ k, su (fun _ => 1) k = k := by
      intro k
      induction k with
      | zero => rfl
      | succ k ih => show su (fun _ => 1) k + 1 = k + 1; rw [ih]
    have e : m + su (fun e => (M (3 * e) && M (3 * e + 2)).toNat) m = su (fun e => 1 + (M (3 * e) && M (3 * e + 2)).toNat) m := by
      rw [su_ad, one]
    rw [e]
    refine su_le (fun e he => ?_)
    have c1 : gC n b (n + 2 * e) = 1 := if_neg (by omega)
    have c2 : gC n b (n + 2 * e + 1) = 1 := if_neg (by omega)
    have h1 := hM (n + 2 * e) (by omega)
    have h2 := hM (n + 2 * e + 1) (by omega)
    rw [c1] at h1
    rw [c2] at h2
    unfold hdg at h1 h2
    rw [su_3] at h1 h2
    have g1 := su_mem (f := fun e' => (M (3 * e')).toNat * hin (gX n fi) (gY n se) (3 * e') (n + 2 * e) + (M (3 * e' + 1)).toNat * hin (gX n fi) (gY n se) (3 * e' + 1) (n + 2 * e) + (M (3 * e' + 2)).toNat * hin (gX n fi) (gY n se) (3 * e' + 2) (n + 2 * e)) he
    have g2 := su_mem (f := fun e' => (M (3 * e')).toNat * hin (gX n fi) (gY n se) (3 * e') (n + 2 * e + 1) + (M (3 * e' + 1)).toNat * hin (gX n fi) (gY n se) (3 * e' + 1) (n + 2 * e + 1) + (M (3 * e' + 2)).toNat * hin (gX n fi) (gY n se) (3 * e' + 2) (n + 2 * e + 1)) he
    have i1 : hin (gX n fi) (gY n se) (3 * e) (n + 2 * e) = 1 := hin_or (Or.inr (gY0 n se e))
    have i2 : hin (gX n fi) (gY n se) (3 * e + 1) (n + 2 * e) = 1 := hin_or (Or.inl (gX1 n fi e))
    have i3 : hin (gX n fi) (gY n se) (3 * e + 1) (n + 2 * e + 1) = 1 := hin_or (Or.inr (gY1 n se e))
    have i4 : hin (gX n fi) (gY n se) (3 * e + 2) (n + 2 * e + 1) = 1 := hin_or (Or.inl (gX2 n fi e))
    simp only [i1, i2, Nat.mul_one] at g1
    simp only [i3, i4, Nat.mul_one] at g2
    have t1 := Nat.le_trans g1 h1
    have t2 := Nat.le_trans g2 h2
    show (M (3 * e)).toNat + (M (3 * e + 1)).toNat + (M (3 * e + 2)).toNat ≤ 1 + (M (3 * e) && M (3 * e + 2)).toNat
    cases h5 : M (3 * e) <;> cases h6 : M (3 * e + 1) <;> cases h7 : M (3 * e + 2) <;> simp [h5, h6, h7] at t1 t2 ⊢
/-- THE THEOREM: some labelling's bound is no more than some fair set has -/
theorem dual {fi se : Nat → Nat} {n m : Nat} (b : Nat → Nat) (hfs : hok fi se n m) : ∃ d N, nva fi se m d ∧ (∀ v, d v < n + 2 * m + 2) ∧ hfa fi se n m b N ∧ nbd fi se n m (n + 2 * m) b d ≤ hsz m N := by
  have hE : hok (gX n fi) (gY n se) (n + 2 * m) (3 * m) := by
    intro j hj
    obtain ⟨e, he, q⟩ := j3 hj
    obtain ⟨h1, h2, h3⟩ := hfs e he
    rcases q with q | q | q <;> subst q
    · rw [gX0, gY0]; omega
    · rw [gX1, gY1]; omega
    · rw [gX2, gY2]; omega
  have hcp' : hcp (gX n fi) (gY n se) (3 * m) (gC n b) := by
    intro j hj
    obtain ⟨e, he, q⟩ := j3 hj
    have c1 : gC n b (n + 2 * e) = 1 := if_neg (by omega)
    have c2 : gC n b (n + 2 * e + 1) = 1 := if_neg (by omega)
    rcases q with q | q | q <;> subst q
    · rw [gX0, gY0, c1]; omega
    · rw [gX1, gY1, c1, c2]; omega
    · rw [gX2, gY2, c2]; omega
  obtain ⟨d, ⟨hv, hd, hopt⟩, hmin⟩ := mn_ex (fun d => hva (gX n fi) (gY n se) (3 * m) d ∧ (∀ v, d v < n + 2 * m + 2) ∧ ∀ M, hmx (gX n fi) (gY n se) (n + 2 * m) (3 * m) (gC n b) M → hbd (n + 2 * m) (gC n b) d ≤ hsz (3 * m) M) (fun d => hA (n + 2 * m) (fun _ => 1) d 0) (tb hE _ (gC n b) rfl hcp')
  obtain ⟨M, hM⟩ := hmx_ex (gX n fi) (gY n se) (n + 2 * m) (3 * m) (gC n b)
  obtain ⟨N, hN, hs⟩ := dual_sz hfs hM.1
  refine ⟨d, N, ?_, hd, hN, ?_⟩
  · intro e he h1 h2
    refine Classical.byContradiction (fun hne => ?_)
    have a0 := hv (3 * e) (by omega)
    have a1 := hv (3 * e + 1) (by omega)
    have a2 := hv (3 * e + 2) (by omega)
    rw [gX0, gY0] at a0
    rw [gX1, gY1] at a1
    rw [gX2, gY2] at a2
    obtain ⟨hx, hy, hxy⟩ := hfs e he
    have c1 : gC n b (n + 2 * e) = 1 := if_neg (by omega)
    have c2 : gC n b (n + 2 * e + 1) = 1 := if_neg (by omega)
    have mv : ∃ h, h < n + 2 * m ∧ gC n b h = 1 ∧ d h = 0 ∧ ∀ j, j < 3 * m → (gX n fi j = h → gY n se j ≠ h ∧ (d (gY n se j) = 0 ∨ d (gY n se j) = d (fi e) ∨ d (gY n se j) = d (se e))) ∧ (gY n se j = h → gX n fi j ≠ h ∧ (d (gX n fi j) = 0 ∨ d (gX n fi j) = d (fi e) ∨ d (gX n fi j) = d (se e))) := by
      by_cases q : d (n + 2 * e) = 0
      · refine ⟨n + 2 * e, by omega, c1, q, fun j hj => ?_⟩
        obtain ⟨e', he', r⟩ := j3 hj
        obtain ⟨hx', hy', _⟩ := hfs e' he'
        rcases r with r | r | r <;> subst r
        · rw [gX0, gY0]
          refine ⟨fun h => by omega, fun h => ?_⟩
          have : e' = e := by omega
          subst this
          exact ⟨by omega, Or.inr (Or.inl rfl)⟩
        · rw [gX1, gY1]
          refine ⟨fun h => ?_, fun h => by omega⟩
          have : e' = e := by omega
          subst this
          exact ⟨by omega, by omega⟩
        · rw [gX2, gY2]
          exact ⟨fun h => by omega, fun h => by omega⟩
      · refine ⟨n + 2 * e + 1, by omega, c2, by omega, fun j hj => ?_⟩
        obtain ⟨e', he', r⟩ := j3 hj
        obtain ⟨hx', hy', _⟩ := hfs e' he'
        rcases r with r | r | r <;> subst r
        · rw [gX0, gY0]
          exact ⟨fun h => by omega, fun h => by omega⟩
        · rw [gX1, gY1]
          refine ⟨fun h => by omega, fun h => ?_⟩
          have : e' = e := by omega
          subst this
          exact ⟨by omega, by omega⟩
        · rw [gX2, gY2]
          refine ⟨fun h => ?_, fun h => by omega⟩
          have : e' = e := by omega
          subst this
          exact ⟨by omega, by omega⟩
    obtain ⟨h, hh, hc, h0, hn⟩ := mv
    obtain ⟨d', m1, m2, m3, m4⟩ := tb_move (c := gC n b) hv hd hh hc h0 h1 h2 (hd _) (hd _) hn
    have := hmin d' ⟨m1, m2, fun K hK => Nat.le_trans m3 (hopt K hK)⟩
    omega
  · have h1 := dual_bd (b := b) hv hd
    have h2 := hopt M hM
    omega
end
section
/-! sets of edges as numbers; ORDER by the number read from its first bit on; the search -/
def bm (s : Nat) : Nat → Bool := fun j => s.testBit j
def nkey (M : Nat → Bool) : Nat → Nat
  | 0 => 0
  | k + 1 => 2 * nkey M k + (M k).toNat
theorem nkey_cg {M M' : Nat → Bool} : ∀ {n : Nat}, (∀ j, j < n → M j = M' j) → nkey M n = nkey M' n
  | 0, _ => rfl
  | n + 1, h => by
    show 2 * nkey M n + (M n).toNat = 2 * nkey M' n + (M' n).toNat
    rw [nkey_cg (n := n) (fun j hj => h j (by omega)), h n (by omega)]
theorem nkey_lt {M M' : Nat → Bool} {e : Nat} (h : ∀ j, j < e → M j = M' j) (h1 : M e = true) (h2 : M' e = false) : ∀ {N : Nat}, e < N → nkey M' N < nkey M N
  | 0, hN => absurd hN (by omega)
  | N + 1, hN => by
    show 2 * nkey M' N + (M' N).toNat < 2 * nkey M N + (M N).toNat
    rcases Nat.lt_or_ge e N with q | q
    · have := nkey_lt h h1 h2 (N := N) q
      have := Bool.toNat_le (M' N)
      omega
    · have e1 : e = N := by omega
      subst e1
      rw [nkey_cg h, h1, h2]
      simp
theorem nkey_inj {M M' : Nat → Bool} : ∀ {n : Nat}, nkey M n = nkey M' n → ∀ j, j < n → M j = M' j
  | 0, _, j, hj => absurd hj (by omega)
  | n + 1, h, j, hj => by
    have h' : 2 * nkey M n + (M n).toNat = 2 * nkey M' n + (M' n).toNat := h
    have b1 := Bool.toNat_le (M n)
    have b2 := Bool.toNat_le (M' n)
    rcases Nat.lt_or_ge j n with q | q
    · exact nkey_inj (n := n) (by omega) j q
    · have e1 : j = n := by omega
      subst e1
      have : (M j).toNat = (M' j).toNat := by omega
      cases hM : M j <;> cases hM' : M' j <;> simp [hM, hM'] at this ⊢
theorem nkey_bd (M : Nat → Bool) : ∀ n, nkey M n < 2 ^ n
  | 0 => by simp [nkey]
  | n + 1 => by
    show 2 * nkey M n + (M n).toNat < 2 ^ (n + 1)
    have := nkey_bd M n
    have := Bool.toNat_le (M n)
    rw [Nat.pow_succ]; omega
theorem hdg_cg {x y : Nat → Nat} {Q : Nat} {M M' : Nat → Bool} (h : ∀ j, j < Q → M j = M' j) (v : Nat) : hdg x y Q M v = hdg x y Q M' v := su_cg (fun j hj => by rw [h j hj])
theorem hsz_cg {Q : Nat} {M M' : Nat → Bool} (h : ∀ j, j < Q → M j = M' j) : hsz Q M = hsz Q M' := su_cg (fun j hj => by rw [h j hj])
theorem hfa_cg {x y : Nat → Nat} {P Q : Nat} {c : Nat → Nat} {M M' : Nat → Bool} (h : ∀ j, j < Q → M j = M' j) (hf : hfa x y P Q c M) : hfa x y P Q c M' := fun v hv => by
  rw [← hdg_cg h]; exact hf v hv
/-- a number with given bits below n -/
def tob (M : Nat → Bool) : Nat → Nat
  | 0 => 0
  | k + 1 => tob M k ||| (if M k then 2 ^ k else 0)
theorem tob_bit (M : Nat → Bool) (n j : Nat) : (tob M n).testBit j = (decide (j < n) && M j) := by
  induction n with
  | zero => simp [tob]
  | succ n ih =>
    show (tob M n ||| (if M n then 2 ^ n else 0)).testBit j = _
    rw [Nat.testBit_or, ih]
    by_cases e : j = n
    · subst e
      cases hM : M j <;> simp [hM, Nat.testBit_two_pow]
    · have e2 : decide (j < n + 1) = decide (j < n) := decide_eq_decide.mpr (by omega)
      have e3 : ¬ n = j := fun h => e h.symm
      rw [e2]
      cases hM : M n
      · simp
      · simp [Nat.testBit_two_pow, e3]
theorem tob_lt (M : Nat → Bool) (n : Nat) : tob M n < 2 ^ n := by
  refine Nat.lt_pow_two_of_testBit _ (fun i hi => ?_)
  rw [tob_bit]; simp; omega
theorem bm_tob (M : Nat → Bool) {n j : Nat} (h : j < n) : bm (tob M n) j = M j := by
  show (tob M n).testBit j = M j
  rw [tob_bit]; simp [h]
theorem bm_ge {s n j : Nat} (h : s < 2 ^ n) (hj : n ≤ j) : bm s j = false := Nat.testBit_lt_two_pow (Nat.lt_of_lt_of_le h (Nat.pow_le_pow_right (by omega) hj))
theorem bm_ext {s t n : Nat} (hs : s < 2 ^ n) (ht : t < 2 ^ n) (h : ∀ j, j < n → bm s j = bm t j) : s = t := by
  refine Nat.eq_of_testBit_eq (fun j => ?_)
  rcases Nat.lt_or_ge j n with q | q
  · exact h j q
  · exact (bm_ge hs q).trans (bm_ge ht q).symm
theorem bm_or {s e : Nat} (j : Nat) : bm (s ||| 2 ^ e) j = (bm s j || decide (j = e)) := by
  show (s ||| 2 ^ e).testBit j = _
  rw [Nat.testBit_or, Nat.testBit_two_pow]
  show (s.testBit j || decide (e = j)) = (s.testBit j || decide (j = e))
  simp [eq_comm]
theorem bm_0 (j : Nat) : bm 0 j = false := Nat.zero_testBit j
theorem bm_up {s e : Nat} (h : s < 2 ^ e) : bm (s ||| 2 ^ e) = bup (bm s) e true := by
  funext j
  rw [bm_or]
  unfold bup
  by_cases q : j = e
  · simp [q]
  · simp [q]
/-- THE BEST set -/
def bst (x y : Nat → Nat) (P Q : Nat) (c : Nat → Nat) (M : Nat → Bool) : Prop := hfa x y P Q c M ∧ (∀ K, hfa x y P Q c K → hsz Q K ≤ hsz Q M) ∧ ∀ K, hfa x y P Q c K → hsz Q K = hsz Q M → nkey K Q ≤ nkey M Q
theorem bst_ex (x y : Nat → Nat) (P Q : Nat) (c : Nat → Nat) : ∃ M, bst x y P Q c M := by
  obtain ⟨M0, h0⟩ := hmx_ex x y P Q c
  obtain ⟨M, ⟨h1, h2⟩, h3⟩ := mx_ex (fun M => hfa x y P Q c M ∧ hsz Q M = hsz Q M0) (fun M => nkey M Q) (2 ^ Q) (fun M _ => Nat.le_of_lt (nkey_bd M Q)) ⟨M0, h0.1, rfl⟩
  exact ⟨M, h1, fun K hK => by rw [h2]; exact h0.2 K hK, fun K hK he => h3 K ⟨hK, by rw [he, h2]⟩⟩
theorem bst_un {x y : Nat → Nat} {P Q : Nat} {c : Nat → Nat} {M M' : Nat → Bool} (h : bst x y P Q c M) (h' : bst x y P Q c M') : ∀ j, j < Q → M j = M' j := by
  have e : hsz Q M = hsz Q M' := Nat.le_antisymm (h'.2.1 M h.1) (h.2.1 M' h'.1)
  exact nkey_inj (Nat.le_antisymm (h'.2.2 M h.1 e) (h.2.2 M' h'.1 e.symm))
/-- of edges between the same two vertices the first ones -/
def tnm (tw : Nat → Nat) (N : Nat) (M : Nat → Bool) : Prop := ∀ j, j < N → M j = true → tw j < j → M (tw j) = true
def exT (x y : Nat → Nat) (N : Nat) (c tw : Nat → Nat) (e S : Nat) (M : Nat → Bool) : Prop := hfa x y 9 N c M ∧ tnm tw N M ∧ ∀ j, j < e → M j = bm S j
def exP (x y : Nat → Nat) (N : Nat) (c tw : Nat → Nat) (en e S ct fs g fs' g' : Nat) : Prop :=
  g ≤ g' ∧ (g' = g → fs' = fs) ∧ (g < g' → fs' < 2 ^ N ∧ exT x y N c tw e S (bm fs') ∧ hsz N (bm fs') + 1 = g' ∧ ∀ M, exT x y N c tw e S M → hsz N M + 1 = g' → nkey M N ≤ nkey (bm fs') N) ∧
  (g' ≤ en → ∀ M, exT x y N c tw e S M → hsz N M + 1 ≤ g') ∧ (en < g → ct < g → fs' = fs ∧ g' = g)
/-- what stands at a call of the search -/
def exB (x y : Nat → Nat) (N : Nat) (c tw : Nat → Nat) (e S ct : Nat) : Prop := e ≤ N ∧ S < 2 ^ e ∧ hsz N (bm S) = ct ∧ hfa x y 9 N c (bm S) ∧ tnm tw N (bm S)
theorem su_sp {f g h : Nat → Nat} {n : Nat} (e : ∀ i, i < n → f i = g i + h i) : su f n = su g n + su h n := by
  rw [← su_ad]; exact su_cg e
/-- a set that goes on from S: what it has behind e -/
theorem ex_split {x y : Nat → Nat} {N : Nat} {e S : Nat} {M : Nat → Bool} (hS : S < 2 ^ e) (h : ∀ j, j < e → M j = bm S j) :
    (∀ v, hdg x y N M v = hdg x y N (bm S) v + hdg x y N (fun j => M j && decide (e ≤ j)) v) ∧ hsz N M = hsz N (bm S) + hsz N (fun j => M j && decide (e ≤ j)) := by
  have key : ∀ j, (M j).toNat = (bm S j).toNat + (M j && decide (e ≤ j)).toNat := by
    intro j
    rcases Nat.lt_or_ge j e with q | q
    · rw [h j q]; simp; omega
    · rw [bm_ge hS q]; simp [q]
  constructor
  · intro v
    refine su_sp (fun j _ => ?_)
    rw [key j, Nat.add_mul]
  · exact su_sp (fun j _ => key j)
theorem ex_same {x y : Nat → Nat} {N : Nat} {c tw : Nat → Nat} {e S : Nat} {M : Nat → Bool} (hS : S < 2 ^ e) (h : exT x y N c tw e S M) (hz : hsz N M = hsz N (bm S)) : ∀ j, j < N → M j = bm S j := by
  intro j hj
  obtain ⟨_, h2⟩ := ex_split (x := x) (y := y) (N := N) hS h.2.2
  rcases Nat.lt_or_ge j e with q | q
  · exact h.2.2 j q
  · rw [bm_ge hS q]
    have h3 : hsz N (fun j => M j && decide (e ≤ j)) = 0 := by omega
    have h4 : (M j && decide (e ≤ j)).toNat ≤ su (fun i => (M i && decide (e ≤ i)).toNat) N := su_mem (f := fun i => (M i && decide (e ≤ i)).toNat) hj
    have h3' : su (fun i => (M i && decide (e ≤ i)).toNat) N = 0 := h3
    have h5 : (M j && decide (e ≤ j)).toNat = 0 := by
      omega
    cases hM : M j
    · rfl
    · simp [hM, q] at h5
/-- no more than this can come behind e -/
theorem ex_hope {x y : Nat → Nat} {N : Nat} {c tw : Nat → Nat} {e S : Nat} {M : Nat → Bool} (hE : hok x y 9 N) (hS : S < 2 ^ e) (h : exT x y N c tw e S M) :
    hsz N M ≤ hsz N (bm S) + su (fun v => min (c v - hdg x y N (bm S) v) (su (fun j => if e ≤ j then hin x y j v else 0) N)) 9 / 2 := by
  obtain ⟨h1, h2⟩ := ex_split (x := x) (y := y) (N := N) hS h.2.2
  have hs := hdg_hs hE (fun j => M j && decide (e ≤ j))
  have hle : su (fun v => hdg x y N (fun j => M j && decide (e ≤ j)) v) 9 ≤ su (fun v => min (c v - hdg x y N (bm S) v) (su (fun j => if e ≤ j then hin x y j v else 0) N)) 9 := by
    refine su_le (fun v hv => ?_)
    have a1 := h.1 v hv
    rw [h1 v] at a1
    have a2 : hdg x y N (fun j => M j && decide (e ≤ j)) v ≤ su (fun j => if e ≤ j then hin x y j v else 0) N := by
      refine su_le (fun j _ => ?_)
      show (M j && decide (e ≤ j)).toNat * hin x y j v ≤ if e ≤ j then hin x y j v else 0
      cases hM : M j
      · simp
      · by_cases q : e ≤ j
        · simp [q]
        · simp [q]
    omega
  omega
/-- the search turns back -/
theorem ex_leaf {x y : Nat → Nat} {N : Nat} {c tw : Nat → Nat} {en e S ct fs g : Nat} (hE : hok x y 9 N) (hB : exB x y N c tw e S ct)
    (hst : e = N ∨ en < max g (ct + 1) ∨ ct + su (fun v => min (c v - hdg x y N (bm S) v) (su (fun j => if e ≤ j then hin x y j v else 0) N)) 9 / 2 < max g (ct + 1)) :
    exP x y N c tw en e S ct fs g (if g ≤ ct then S else fs) (max g (ct + 1)) := by
  obtain ⟨he, hS, hct, hf, ht⟩ := hB
  have hS' : S < 2 ^ N := Nat.lt_of_lt_of_le hS (Nat.pow_le_pow_right (by omega) he)
  refine ⟨by omega, fun h => ?_, fun h => ?_, fun h M hM => ?_, fun h1 h2 => ?_⟩
  · rw [if_neg (by omega)]
  · have hg : g ≤ ct := by omega
    rw [if_pos hg]
    refine ⟨hS', ⟨hf, ht, fun _ _ => rfl⟩, by omega, fun M hM hz => ?_⟩
    rw [nkey_cg (ex_same hS hM (by omega))]
    exact Nat.le_refl _
  · rcases hst with q | q | q
    · subst q
      have : hsz e M = hsz e (bm S) := hsz_cg hM.2.2
      omega
    · omega
    · have := ex_hope hE hS hM
      omega
  · rw [if_neg (by omega)]; exact ⟨rfl, by omega⟩
def exM (x y : Nat → Nat) (N : Nat) (c tw : Nat → Nat) (e S : Nat) : Prop := (tw e < e → bm S (tw e) = true) ∧ hdg x y N (bm S) (x e) < c (x e) ∧ hdg x y N (bm S) (y e) < c (y e)
theorem exB_on {x y : Nat → Nat} {N : Nat} {c tw : Nat → Nat} {e S ct : Nat} (hE : hok x y 9 N) (hB : exB x y N c tw e S ct) (he : e < N) (hm : exM x y N c tw e S) : exB x y N c tw (e + 1) (S ||| 2 ^ e) (ct + 1) := by
  obtain ⟨_, hS, hct, hf, ht⟩ := hB
  have hoff : bm S e = false := bm_ge hS (Nat.le_refl _)
  obtain ⟨hx, hy, hne⟩ := hE e he
  refine ⟨he, ?_, ?_, ?_, ?_⟩
  · exact Nat.or_lt_two_pow (Nat.lt_of_lt_of_le hS (Nat.pow_le_pow_right (by omega) (by omega))) (Nat.pow_lt_pow_right (by omega) (by omega))
  · rw [bm_up hS, hsz_on he hoff, hct]
  · intro v hv
    rw [bm_up hS, hdg_on he hoff, hin_ind hne]
    have := hf v hv
    have h1 := hm.2.1
    have h2 := hm.2.2
    by_cases q : v = x e
    · subst q; rw [ind_s, ind_n (p := y e) (v := x e) hne]; omega
    · rw [ind_n q]
      by_cases r : v = y e
      · subst r; rw [ind_s]; omega
      · rw [ind_n r]; omega
  · intro j hj hon hlt
    rw [bm_or] at hon ⊢
    by_cases q : j = e
    · subst q
      rw [hm.1 hlt]; rfl
    · simp only [q, decide_false, Bool.or_false] at hon
      rw [ht j hj hon hlt]; rfl
theorem exB_off {x y : Nat → Nat} {N : Nat} {c tw : Nat → Nat} {e S ct : Nat} (hB : exB x y N c tw e S ct) (he : e < N) : exB x y N c tw (e + 1) S ct :=
  ⟨he, Nat.lt_of_lt_of_le hB.2.1 (Nat.pow_le_pow_right (by omega) (by omega)), hB.2.2.1, hB.2.2.2.1, hB.2.2.2.2⟩
/-- one edge: with it, then without -/
theorem ex_node {x y : Nat → Nat} {N : Nat} {c tw : Nat → Nat} {en e S ct fs g fs1 g1 fs2 g2 fs3 g3 : Nat} (hE : hok x y 9 N) (hB : exB x y N c tw e S ct) (he : e < N)
    (hf1 : fs1 = if g ≤ ct then S else fs) (hg1 : g1 = max g (ct + 1)) (hen : g1 ≤ en)
    (hon : exM x y N c tw e S → exP x y N c tw en (e + 1) (S ||| 2 ^ e) (ct + 1) fs1 g1 fs2 g2) (hno : ¬ exM x y N c tw e S → fs2 = fs1 ∧ g2 = g1)
    (hoff : exP x y N c tw en (e + 1) S ct fs2 g2 fs3 g3) : exP x y N c tw en e S ct fs g fs3 g3 := by
  obtain ⟨_, hS, hct, hf, ht⟩ := hB
  have hS' : S < 2 ^ N := Nat.lt_of_lt_of_le hS (Nat.pow_le_pow_right (by omega) (by omega))
  have hoffe : bm S e = false := bm_ge hS (Nat.le_refl _)
  -- where a set that goes on from S lies
  have hin1 : ∀ M, exT x y N c tw e S M → M e = true → exM x y N c tw e S ∧ exT x y N c tw (e + 1) (S ||| 2 ^ e) M := by
    intro M hM hMe
    obtain ⟨q1, q2⟩ := ex_split (x := x) (y := y) (N := N) hS hM.2.2
    have hpos : ∀ v, (x e = v ∨ y e = v) → 1 ≤ hdg x y N (fun j => M j && decide (e ≤ j)) v := by
      intro v hv
      have := su_mem (f := fun j => (M j && decide (e ≤ j)).toNat * hin x y j v) he
      simp only [hMe, hin_or hv, Nat.le_refl, decide_true, Bool.and_self, Bool.toNat_true] at this
      exact this
    obtain ⟨hx, hy, hne⟩ := hE e he
    refine ⟨⟨fun hlt => ?_, ?_, ?_⟩, hM.1, hM.2.1, fun j hj => ?_⟩
    · rw [← hM.2.2 _ hlt]; exact hM.2.1 e he hMe hlt
    · have a1 := hM.1 _ hx
      have a2 := hpos (x e) (Or.inl rfl)
      rw [q1] at a1; omega
    · have a1 := hM.1 _ hy
      have a2 := hpos (y e) (Or.inr rfl)
      rw [q1] at a1; omega
    · rw [bm_or]
      by_cases q : j = e
      · subst q; simp [hMe]
      · rw [hM.2.2 j (by omega)]; simp [q]
  have hin0 : ∀ M, exT x y N c tw e S M → M e = false → exT x y N c tw (e + 1) S M := by
    intro M hM hMe
    refine ⟨hM.1, hM.2.1, fun j hj => ?_⟩
    by_cases q : j = e
    · subst q; rw [hMe, hoffe]
    · exact hM.2.2 j (by omega)
  have hout1 : ∀ M, exT x y N c tw (e + 1) (S ||| 2 ^ e) M → exT x y N c tw e S M ∧ M e = true := by
    intro M hM
    refine ⟨⟨hM.1, hM.2.1, fun j hj => ?_⟩, ?_⟩
    · rw [hM.2.2 j (by omega), bm_or]; simp; omega
    · rw [hM.2.2 e (by omega), bm_or]; simp
  have hout0 : ∀ M, exT x y N c tw (e + 1) S M → exT x y N c tw e S M ∧ M e = false := fun M hM =>
    ⟨⟨hM.1, hM.2.1, fun j hj => hM.2.2 j (by omega)⟩, by rw [hM.2.2 e (by omega), hoffe]⟩
  have hST : exT x y N c tw e S (bm S) := ⟨hf, ht, fun _ _ => rfl⟩
  obtain ⟨c1, c2, c3, c4, c5⟩ := hoff
  -- the first of the two
  have d1 : g1 ≤ g2 := by
    by_cases hm : exM x y N c tw e S
    · exact (hon hm).1
    · exact Nat.le_of_eq (hno hm).2.symm
  have d2 : g2 = g1 → fs2 = fs1 := by
    by_cases hm : exM x y N c tw e S
    · exact (hon hm).2.1
    · exact fun _ => (hno hm).1
  have d3 : g1 < g2 → fs2 < 2 ^ N ∧ exT x y N c tw (e + 1) (S ||| 2 ^ e) (bm fs2) ∧ hsz N (bm fs2) + 1 = g2 ∧ ∀ M, exT x y N c tw (e + 1) (S ||| 2 ^ e) M → hsz N M + 1 = g2 → nkey M N ≤ nkey (bm fs2) N := by
    by_cases hm : exM x y N c tw e S
    · exact (hon hm).2.2.1
    · exact fun h => absurd h (by rw [(hno hm).2]; omega)
  have d4 : g2 ≤ en → ∀ M, exT x y N c tw e S M → M e = true → hsz N M + 1 ≤ g2 := by
    intro h M hM hMe
    obtain ⟨hm, hM'⟩ := hin1 M hM hMe
    exact (hon hm).2.2.2.1 h M hM'
  refine ⟨by omega, fun h => ?_, fun h => ?_, fun h M hM => ?_, fun h1 h2 => absurd hen (by omega)⟩
  · have e1 : g3 = g2 := by omega
    have e2 : g2 = g1 := by omega
    rw [c2 e1, d2 e2, hf1, if_neg (by omega)]
  · by_cases h3 : g2 < g3
    · obtain ⟨k1, k2, k3, k4⟩ := c3 h3
      refine ⟨k1, (hout0 _ k2).1, k3, fun M hM hz => ?_⟩
      cases hMe : M e with
      | false => exact k4 M (hin0 M hM hMe) hz
      | true =>
        by_cases hen2 : g2 ≤ en
        · have := d4 hen2 M hM hMe; omega
        · have := c5 (by omega) (by omega); omega
    · have e1 : g3 = g2 := by omega
      have e2 := c2 e1
      by_cases h4 : g1 < g2
      · obtain ⟨k1, k2, k3, k4⟩ := d3 h4
        rw [e2, e1]
        refine ⟨k1, (hout1 _ k2).1, k3, fun M hM hz => ?_⟩
        cases hMe : M e with
        | true => exact k4 M (hin1 M hM hMe).2 hz
        | false =>
          refine Nat.le_of_lt (nkey_lt (e := e) (fun j hj => ?_) (hout1 _ k2).2 hMe he)
          rw [hM.2.2 j hj, (hout1 _ k2).1.2.2 j hj]
      · have e3 : g2 = g1 := by omega
        have hg : g ≤ ct := by omega
        rw [e2, d2 e3, hf1, if_pos hg, e1, e3]
        refine ⟨hS', hST, by omega, fun M hM hz => ?_⟩
        rw [nkey_cg (ex_same hS hM (by omega))]
        exact Nat.le_refl _
  · cases hMe : M e with
    | false => exact c4 h M (hin0 M hM hMe)
    | true =>
      have := d4 (by omega) M hM hMe
      omega
theorem bst_tnm {x y : Nat → Nat} {P N : Nat} {c tw : Nat → Nat} {M : Nat → Bool} (htw : ∀ j, j < N → tw j < j → x (tw j) = x j ∧ y (tw j) = y j) (h : bst x y P N c M) : tnm tw N M := by
  intro j hj hMj hlt
  refine Classical.byContradiction (fun hn => ?_)
  have hMi : M (tw j) = false := by cases q : M (tw j) <;> simp [q] at hn ⊢
  obtain ⟨e1, e2⟩ := htw j hj hlt
  have hi : tw j < N := by omega
  have hne : tw j ≠ j := by omega
  have hMi' : (bup M j false) (tw j) = false := by unfold bup; rw [if_neg hne]; exact hMi
  have hin' : ∀ v, hin x y (tw j) v = hin x y j v := fun v => by unfold hin; rw [e1, e2]
  have hf : hfa x y P N c (bup (bup M j false) (tw j) true) := by
    intro v hv
    rw [hdg_on hi hMi', hin', hdg_off hj hMj]
    exact h.1 v hv
  have hz : hsz N (bup (bup M j false) (tw j) true) = hsz N M := by
    rw [hsz_on hi hMi', hsz_off hj hMj]
  have hk := h.2.2 _ hf hz
  have : nkey M N < nkey (bup (bup M j false) (tw j) true) N := by
    refine nkey_lt (e := tw j) (fun i hi2 => ?_) ?_ hMi hi
    · unfold bup; rw [if_neg (by omega), if_neg (by omega)]
    · unfold bup; rw [if_pos rfl]
  omega
theorem ex_all {x y : Nat → Nat} {N : Nat} {c tw : Nat → Nat} {M : Nat → Bool} (htw : ∀ j, j < N → tw j < j → x (tw j) = x j ∧ y (tw j) = y j) (h : bst x y 9 N c M) : exT x y N c tw 0 0 M :=
  ⟨h.1, bst_tnm htw h, fun j hj => absurd hj (by omega)⟩
theorem exB_0 (x y : Nat → Nat) (N : Nat) (c tw : Nat → Nat) : exB x y N c tw 0 0 0 := by
  have hb : ∀ j, bm 0 j = false := bm_0
  refine ⟨by omega, by decide, ?_, ?_, ?_⟩
  · exact su_z (fun j _ => by rw [hb]; rfl)
  · intro v _
    rw [hdg, su_z (fun j _ => by rw [hb]; simp)]
    exact Nat.zero_le _
  · intro j _ h
    rw [hb] at h; cases h
theorem ex_best {x y : Nat → Nat} {N : Nat} {c tw : Nat → Nat} {fs' g' : Nat} (htw : ∀ j, j < N → tw j < j → x (tw j) = x j ∧ y (tw j) = y j) (h : exP x y N c tw N 0 0 0 0 1 fs' g') : fs' < 2 ^ N ∧ bst x y 9 N c (bm fs') ∧ hsz N (bm fs') + 1 = g' := by
  obtain ⟨B, hB⟩ := bst_ex x y 9 N c
  have hT := ex_all htw hB
  obtain ⟨h1, h2, h3, h4, _⟩ := h
  have hzN := hsz_le N B
  have key : ∀ M, hfa x y 9 N c M → hsz N M ≤ hsz N B := hB.2.1
  by_cases q : 1 < g'
  · obtain ⟨k1, k2, k3, k4⟩ := h3 q
    have hmax : hsz N B ≤ hsz N (bm fs') := by
      by_cases r : g' ≤ N
      · have := h4 r B hT; omega
      · omega
    have heq : hsz N B = hsz N (bm fs') := Nat.le_antisymm hmax (key _ k2.1)
    refine ⟨k1, ⟨k2.1, fun K hK => by rw [← heq]; exact key K hK, fun K hK hz => ?_⟩, k3⟩
    exact Nat.le_trans (hB.2.2 K hK (by rw [hz, heq])) (k4 B hT (by rw [heq]; exact k3))
  · have e1 : g' = 1 := by omega
    have e2 := h2 e1
    have h0 : hsz N (bm 0) = 0 := (exB_0 x y N c tw).2.2.1
    have hf0 := (exB_0 x y N c tw).2.2.2.1
    have hz0 : hsz N B = 0 := by
      by_cases r : g' ≤ N
      · have := h4 r B hT; omega
      · omega
    have hall : ∀ K, hfa x y 9 N c K → ∀ j, j < N → K j = bm 0 j := by
      intro K hK j hj
      have a1 := key K hK
      have a2 := su_mem (f := fun i => (K i).toNat) hj
      have a3 : (K j).toNat = 0 := by unfold hsz at a1 hz0; omega
      rw [bm_0]
      cases hk : K j
      · rfl
      · rw [hk] at a3; cases a3
    rw [e2, e1]
    refine ⟨Nat.two_pow_pos N, ⟨hf0, fun K hK => ?_, fun K hK _ => ?_⟩, by omega⟩
    · have := key K hK; omega
    · rw [nkey_cg (hall K hK)]; exact Nat.le_refl _
theorem ex_reach {x y : Nat → Nat} {N : Nat} {c tw : Nat → Nat} {tg fs' g' : Nat} (htw : ∀ j, j < N → tw j < j → x (tw j) = x j ∧ y (tw j) = y j) (h : exP x y N c tw tg 0 0 0 0 tg fs' g') : tg < g' ↔ ∃ M, hfa x y 9 N c M ∧ tg ≤ hsz N M := by
  obtain ⟨h1, h2, h3, h4, _⟩ := h
  constructor
  · intro q
    obtain ⟨k1, k2, k3, k4⟩ := h3 q
    exact ⟨_, k2.1, by omega⟩
  · rintro ⟨M, hM, hz⟩
    refine Nat.lt_of_not_le (fun q => ?_)
    obtain ⟨B, hB⟩ := bst_ex x y 9 N c
    have a1 := h4 q B (ex_all htw hB)
    have a2 := hB.2.1 M hM
    omega
end
section
-- ===== PART A: goes FIRST, ahead of the names: the tables' words, and 'selects' of the private methods out of them =====
/-- a private method of a class that the tables say can be made, by its rows of tables_1 -/
def lw_okq (q : MethodName × Nat) : Prop := (q.1.cls ≠ "java/lang/invoke/MethodHandle" ∧ q.1.cls ≠ "java/lang/invoke/VarHandle") ∧ Cond.instantiable q.1.cls q.2 ∈ tables_1 ∧ Cond.privateMethod q.1 ∈ tables_1 ∧ Cond.instanceMethod q.1 ∈ tables_1
theorem lw_p0 : lw_okq (⟨"FactorDesk", "solve", "()V"⟩, 4) := ⟨⟨by decide +kernel, by decide +kernel⟩, List.mem_of_getElem? (i := 9) (by decide +kernel), List.mem_of_getElem? (i := 236) (by decide +kernel), List.mem_of_getElem? (i := 237) (by decide +kernel)⟩
theorem lw_p1 : lw_okq (⟨"FactorDesk$Search", "take", "(II)V"⟩, 9) := ⟨⟨by decide +kernel, by decide +kernel⟩, List.mem_of_getElem? (i := 54) (by decide +kernel), List.mem_of_getElem? (i := 250) (by decide +kernel), List.mem_of_getElem? (i := 251) (by decide +kernel)⟩
theorem lw_p2 : lw_okq (⟨"FactorDesk$Search", "hope", "()I"⟩, 9) := ⟨⟨by decide +kernel, by decide +kernel⟩, List.mem_of_getElem? (i := 54) (by decide +kernel), List.mem_of_getElem? (i := 261) (by decide +kernel), List.mem_of_getElem? (i := 262) (by decide +kernel)⟩
theorem lw_p3 : lw_okq (⟨"FactorDesk$Search", "mayAdd", "(II)Z"⟩, 9) := ⟨⟨by decide +kernel, by decide +kernel⟩, List.mem_of_getElem? (i := 54) (by decide +kernel), List.mem_of_getElem? (i := 265) (by decide +kernel), List.mem_of_getElem? (i := 266) (by decide +kernel)⟩
theorem lw_p4 : lw_okq (⟨"FactorDesk", "reachesWith", "(III)Z"⟩, 4) := ⟨⟨by decide +kernel, by decide +kernel⟩, List.mem_of_getElem? (i := 9) (by decide +kernel), List.mem_of_getElem? (i := 297) (by decide +kernel), List.mem_of_getElem? (i := 298) (by decide +kernel)⟩
theorem lw_p5 : lw_okq (⟨"FactorDesk", "tabulate", "()V"⟩, 4) := ⟨⟨by decide +kernel, by decide +kernel⟩, List.mem_of_getElem? (i := 9) (by decide +kernel), List.mem_of_getElem? (i := 309) (by decide +kernel), List.mem_of_getElem? (i := 310) (by decide +kernel)⟩
theorem lw_p6 : lw_okq (⟨"FactorDesk$Bounds", "countInside", "(LFactorDesk$Graph;)V"⟩, 8) := ⟨⟨by decide +kernel, by decide +kernel⟩, List.mem_of_getElem? (i := 91) (by decide +kernel), List.mem_of_getElem? (i := 317) (by decide +kernel), List.mem_of_getElem? (i := 318) (by decide +kernel)⟩
theorem lw_p7 : lw_okq (⟨"FactorDesk$Bounds", "partOf", "(II)I"⟩, 8) := ⟨⟨by decide +kernel, by decide +kernel⟩, List.mem_of_getElem? (i := 91) (by decide +kernel), List.mem_of_getElem? (i := 321) (by decide +kernel), List.mem_of_getElem? (i := 322) (by decide +kernel)⟩
theorem lw_p8 : lw_okq (⟨"FactorDesk", "explain", "()V"⟩, 4) := ⟨⟨by decide +kernel, by decide +kernel⟩, List.mem_of_getElem? (i := 9) (by decide +kernel), List.mem_of_getElem? (i := 333) (by decide +kernel), List.mem_of_getElem? (i := 334) (by decide +kernel)⟩
theorem lw_p9 : lw_okq (⟨"FactorDesk$Bounds", "findFor", "(II)Z"⟩, 8) := ⟨⟨by decide +kernel, by decide +kernel⟩, List.mem_of_getElem? (i := 91) (by decide +kernel), List.mem_of_getElem? (i := 341) (by decide +kernel), List.mem_of_getElem? (i := 342) (by decide +kernel)⟩
theorem lw_p10 : lw_okq (⟨"FactorDeskModel", "isVertex", "(I)Z"⟩, 6) := ⟨⟨by decide +kernel, by decide +kernel⟩, List.mem_of_getElem? (i := 346) (by decide +kernel), List.mem_of_getElem? (i := 379) (by decide +kernel), List.mem_of_getElem? (i := 380) (by decide +kernel)⟩
theorem lw_p11 : lw_okq (⟨"FactorDeskModel", "isEdge", "(I)Z"⟩, 6) := ⟨⟨by decide +kernel, by decide +kernel⟩, List.mem_of_getElem? (i := 346) (by decide +kernel), List.mem_of_getElem? (i := 387) (by decide +kernel), List.mem_of_getElem? (i := 388) (by decide +kernel)⟩
theorem lw_p12 : lw_okq (⟨"FactorDeskModel", "allEdges", "()I"⟩, 6) := ⟨⟨by decide +kernel, by decide +kernel⟩, List.mem_of_getElem? (i := 346) (by decide +kernel), List.mem_of_getElem? (i := 415) (by decide +kernel), List.mem_of_getElem? (i := 416) (by decide +kernel)⟩
theorem lw_p13 : lw_okq (⟨"FactorDeskModel", "isFactor", "(I)Z"⟩, 6) := ⟨⟨by decide +kernel, by decide +kernel⟩, List.mem_of_getElem? (i := 346) (by decide +kernel), List.mem_of_getElem? (i := 419) (by decide +kernel), List.mem_of_getElem? (i := 420) (by decide +kernel)⟩
theorem lw_p14 : lw_okq (⟨"FactorDeskModel", "degree", "(II)I"⟩, 6) := ⟨⟨by decide +kernel, by decide +kernel⟩, List.mem_of_getElem? (i := 346) (by decide +kernel), List.mem_of_getElem? (i := 423) (by decide +kernel), List.mem_of_getElem? (i := 424) (by decide +kernel)⟩
theorem lw_p15 : lw_okq (⟨"FactorDeskModel", "isFair", "(I)Z"⟩, 6) := ⟨⟨by decide +kernel, by decide +kernel⟩, List.mem_of_getElem? (i := 346) (by decide +kernel), List.mem_of_getElem? (i := 430) (by decide +kernel), List.mem_of_getElem? (i := 431) (by decide +kernel)⟩
def lw_privs_1 : List (MethodName × Nat) := [(⟨"FactorDesk", "solve", "()V"⟩, 4), (⟨"FactorDesk$Search", "take", "(II)V"⟩, 9), (⟨"FactorDesk$Search", "hope", "()I"⟩, 9), (⟨"FactorDesk$Search", "mayAdd", "(II)Z"⟩, 9), (⟨"FactorDesk", "reachesWith", "(III)Z"⟩, 4), (⟨"FactorDesk", "tabulate", "()V"⟩, 4), (⟨"FactorDesk$Bounds", "countInside", "(LFactorDesk$Graph;)V"⟩, 8), (⟨"FactorDesk$Bounds", "partOf", "(II)I"⟩, 8), (⟨"FactorDesk", "explain", "()V"⟩, 4), (⟨"FactorDesk$Bounds", "findFor", "(II)Z"⟩, 8), (⟨"FactorDeskModel", "isVertex", "(I)Z"⟩, 6), (⟨"FactorDeskModel", "isEdge", "(I)Z"⟩, 6), (⟨"FactorDeskModel", "allEdges", "()I"⟩, 6), (⟨"FactorDeskModel", "isFactor", "(I)Z"⟩, 6), (⟨"FactorDeskModel", "degree", "(II)I"⟩, 6), (⟨"FactorDeskModel", "isFair", "(I)Z"⟩, 6)]
theorem lw_r1 : ∀ q ∈ lw_privs_1, lw_okq q := List.forall_mem_cons.mpr ⟨lw_p0, List.forall_mem_cons.mpr ⟨lw_p1, List.forall_mem_cons.mpr ⟨lw_p2, List.forall_mem_cons.mpr ⟨lw_p3, List.forall_mem_cons.mpr ⟨lw_p4, List.forall_mem_cons.mpr ⟨lw_p5, List.forall_mem_cons.mpr ⟨lw_p6, List.forall_mem_cons.mpr ⟨lw_p7, List.forall_mem_cons.mpr ⟨lw_p8, List.forall_mem_cons.mpr ⟨lw_p9, List.forall_mem_cons.mpr ⟨lw_p10, List.forall_mem_cons.mpr ⟨lw_p11, List.forall_mem_cons.mpr ⟨lw_p12, List.forall_mem_cons.mpr ⟨lw_p13, List.forall_mem_cons.mpr ⟨lw_p14, List.forall_mem_cons.mpr ⟨lw_p15, fun _ h => absurd h List.not_mem_nil⟩⟩⟩⟩⟩⟩⟩⟩⟩⟩⟩⟩⟩⟩⟩⟩
theorem lw_p16 : lw_okq (⟨"FactorDeskModel", "mostWith", "(II)I"⟩, 6) := ⟨⟨by decide +kernel, by decide +kernel⟩, List.mem_of_getElem? (i := 346) (by decide +kernel), List.mem_of_getElem? (i := 462) (by decide +kernel), List.mem_of_getElem? (i := 463) (by decide +kernel)⟩
theorem lw_p17 : lw_okq (⟨"FactorDeskModel", "areSets", "(II)Z"⟩, 6) := ⟨⟨by decide +kernel, by decide +kernel⟩, List.mem_of_getElem? (i := 346) (by decide +kernel), List.mem_of_getElem? (i := 474) (by decide +kernel), List.mem_of_getElem? (i := 475) (by decide +kernel)⟩
theorem lw_p18 : lw_okq (⟨"FactorDeskModel", "partition", "(II)I"⟩, 6) := ⟨⟨by decide +kernel, by decide +kernel⟩, List.mem_of_getElem? (i := 346) (by decide +kernel), List.mem_of_getElem? (i := 478) (by decide +kernel), List.mem_of_getElem? (i := 479) (by decide +kernel)⟩
theorem lw_p19 : lw_okq (⟨"FactorDeskModel", "half", "(II)I"⟩, 6) := ⟨⟨by decide +kernel, by decide +kernel⟩, List.mem_of_getElem? (i := 346) (by decide +kernel), List.mem_of_getElem? (i := 482) (by decide +kernel), List.mem_of_getElem? (i := 483) (by decide +kernel)⟩
def lw_privs_2 : List (MethodName × Nat) := [(⟨"FactorDeskModel", "mostWith", "(II)I"⟩, 6), (⟨"FactorDeskModel", "areSets", "(II)Z"⟩, 6), (⟨"FactorDeskModel", "partition", "(II)I"⟩, 6), (⟨"FactorDeskModel", "half", "(II)I"⟩, 6)]
theorem lw_r2 : ∀ q ∈ lw_privs_2, lw_okq q := List.forall_mem_cons.mpr ⟨lw_p16, List.forall_mem_cons.mpr ⟨lw_p17, List.forall_mem_cons.mpr ⟨lw_p18, List.forall_mem_cons.mpr ⟨lw_p19, fun _ h => absurd h List.not_mem_nil⟩⟩⟩⟩
def lw_privs : List (MethodName × Nat) := lw_privs_1 ++ (lw_privs_2)
def lw_tbl : List Cond := k2_sels lw_privs ++ tables_1
theorem lw_privs_ok : ∀ q ∈ lw_privs, lw_okq q := by
  show ∀ q ∈ lw_privs_1 ++ (lw_privs_2), lw_okq q
  exact List.forall_mem_append.mpr ⟨lw_r1, lw_r2⟩

def bigW : List Cond := lw_tbl.filter goodWord
theorem big_in : ∀ w ∈ bigW, w ∈ lw_tbl := fun w h => (List.mem_filter.mp h).1
theorem big_gd : ∀ w ∈ bigW, (w.onTables && w.keeps) = true ∨ ∃ ty, w = .arrayClass ty := fun w h => good_of_word (List.mem_filter.mp h).2
theorem kw {w : Cond} {k : Nat} (h : lw_tbl[k]? = some w) (g : goodWord w = true) : w ∈ bigW := List.mem_filter.mpr ⟨List.mem_of_getElem? h, g⟩
theorem gV {own C : String} {i : Nat} {y : MethodName} {cd : Cond} (h1 : .methodLink own i y ∈ bigW) (h2 : .instanceMethod y ∈ bigW) (h3 : .selects C y y ∈ bigW) (h4 : .initialized C ∈ bigW) (h5 : cd ∈ bigW) : GoodIn bigW (wsV own i C y (cd :: bigW)) := by
  intro w hw
  unfold wsV at hw
  simp only [List.cons_append, List.nil_append, List.mem_cons] at hw
  have hm : w ∈ bigW := by rcases hw with rfl | rfl | rfl | rfl | rfl | h <;> assumption
  exact ⟨hm, big_gd w hm⟩
theorem gS {own : String} {i : Nat} {y : MethodName} {cd : Cond} (h1 : .methodLink own i y ∈ bigW) (h2 : .static y ∈ bigW) (h4 : .initialized own ∈ bigW) (h5 : cd ∈ bigW) : GoodIn bigW (wsS own i y (cd :: bigW)) := by
  intro w hw
  unfold wsS at hw
  simp only [List.cons_append, List.nil_append, List.mem_cons] at hw
  have hm : w ∈ bigW := by rcases hw with rfl | rfl | rfl | rfl | h <;> assumption
  exact ⟨hm, big_gd w hm⟩
theorem gI {cd : Cond} (h5 : cd ∈ bigW) : GoodIn bigW (cd :: bigW) := by
  intro w hw
  simp only [List.mem_cons] at hw
  have hm : w ∈ bigW := by rcases hw with rfl | h <;> assumption
  exact ⟨hm, big_gd w hm⟩
theorem ws_in {cd : Cond} {args : Array Value} {s : State} (h : ∀ w ∈ cd :: bigW, w.before args s = true) : ∀ w ∈ bigW, w.before args s = true := fun w hw => h w (List.mem_cons_of_mem _ hw)
abbrev rA : String := "FactorDesk$Answers"
abbrev rB : String := "FactorDesk$Bounds"
abbrev rG : String := "FactorDesk$Graph"
abbrev rS : String := "FactorDesk$Search"
abbrev rF : String := "FactorDesk"
abbrev rM : String := "FactorDeskModel"
abbrev rL : String := "FactorDeskLaw"
def TA : u_T := fun k => match k with
  | 0 => ("FactorDesk$Answers", "solved", "Z", false)
  | 1 => ("FactorDesk$Answers", "tabulated", "Z", false)
  | 2 => ("FactorDesk$Answers", "explained", "Z", false)
  | 3 => ("FactorDesk$Answers", "bestSet", "I", false)
  | 4 => ("FactorDesk$Answers", "bestCount", "I", false)
  | 5 => ("FactorDesk$Answers", "witnessU", "I", false)
  | _ => ("FactorDesk$Answers", "witnessW", "I", false)
def tyA : Nat → FieldType := fun k => match k with
  | 0 => .boolean
  | 1 => .boolean
  | 2 => .boolean
  | 3 => .int
  | 4 => .int
  | 5 => .int
  | _ => .int
theorem nmA : ∀ a, a < 7 → ∀ b, b < 7 → a ≠ b → (TA a).2.1 ≠ (TA b).2.1 := by decide +kernel
theorem tyA_ok : ∀ k, k < 7 → parseFieldDescriptor (TA k).2.2.1 = some (tyA k) := by decide +kernel
theorem inA : ∀ w ∈ u_ws rA TA 7, w ∈ bigW := by decide +kernel
def TB : u_T := fun k => match k with
  | 0 => ("FactorDesk$Bounds", "order", "[I", true)
  | 1 => ("FactorDesk$Bounds", "near", "[I", true)
  | 2 => ("FactorDesk$Bounds", "wants", "[I", true)
  | 3 => ("FactorDesk$Bounds", "inside", "[I", true)
  | 4 => ("FactorDesk$Bounds", "part", "[I", true)
  | 5 => ("FactorDesk$Bounds", "all", "I", false)
  | 6 => ("FactorDesk$Bounds", "foundU", "I", false)
  | _ => ("FactorDesk$Bounds", "foundW", "I", false)
def tyB : Nat → FieldType := fun k => match k with
  | 0 => .array .int
  | 1 => .array .int
  | 2 => .array .int
  | 3 => .array .int
  | 4 => .array .int
  | 5 => .int
  | 6 => .int
  | _ => .int
theorem nmB : ∀ a, a < 8 → ∀ b, b < 8 → a ≠ b → (TB a).2.1 ≠ (TB b).2.1 := by decide +kernel
theorem tyB_ok : ∀ k, k < 8 → parseFieldDescriptor (TB k).2.2.1 = some (tyB k) := by decide +kernel
theorem inB : ∀ w ∈ u_ws rB TB 8, w ∈ bigW := by decide +kernel
def TG : u_T := fun k => match k with
  | 0 => ("FactorDesk$Graph", "vertexCount", "I", false)
  | 1 => ("FactorDesk$Graph", "edgeCount", "I", false)
  | 2 => ("FactorDesk$Graph", "first", "[I", true)
  | 3 => ("FactorDesk$Graph", "second", "[I", true)
  | _ => ("FactorDesk$Graph", "wanted", "[I", true)
def tyG : Nat → FieldType := fun k => match k with
  | 0 => .int
  | 1 => .int
  | 2 => .array .int
  | 3 => .array .int
  | _ => .array .int
theorem nmG : ∀ a, a < 5 → ∀ b, b < 5 → a ≠ b → (TG a).2.1 ≠ (TG b).2.1 := by decide +kernel
theorem tyG_ok : ∀ k, k < 5 → parseFieldDescriptor (TG k).2.2.1 = some (tyG k) := by decide +kernel
theorem inG : ∀ w ∈ u_ws rG TG 5, w ∈ bigW := by decide +kernel
def TS : u_T := fun k => match k with
  | 0 => ("FactorDesk$Search", "size", "I", false)
  | 1 => ("FactorDesk$Search", "head", "[I", true)
  | 2 => ("FactorDesk$Search", "tail", "[I", true)
  | 3 => ("FactorDesk$Search", "twin", "[I", true)
  | 4 => ("FactorDesk$Search", "left", "[I", true)
  | 5 => ("FactorDesk$Search", "ahead", "[I", true)
  | 6 => ("FactorDesk$Search", "enough", "I", false)
  | 7 => ("FactorDesk$Search", "foundSet", "I", false)
  | _ => ("FactorDesk$Search", "foundCount", "I", false)
def tyS : Nat → FieldType := fun k => match k with
  | 0 => .int
  | 1 => .array .int
  | 2 => .array .int
  | 3 => .array .int
  | 4 => .array .int
  | 5 => .array .int
  | 6 => .int
  | 7 => .int
  | _ => .int
theorem nmS : ∀ a, a < 9 → ∀ b, b < 9 → a ≠ b → (TS a).2.1 ≠ (TS b).2.1 := by decide +kernel
theorem tyS_ok : ∀ k, k < 9 → parseFieldDescriptor (TS k).2.2.1 = some (tyS k) := by decide +kernel
theorem inS : ∀ w ∈ u_ws rS TS 9, w ∈ bigW := by decide +kernel
def TF : u_T := fun k => match k with
  | 0 => ("FactorDesk", "graph", "LFactorDesk$Graph;", true)
  | 1 => ("FactorDesk", "search", "LFactorDesk$Search;", true)
  | 2 => ("FactorDesk", "bounds", "LFactorDesk$Bounds;", true)
  | _ => ("FactorDesk", "known", "LFactorDesk$Answers;", true)
def tyF : Nat → FieldType := fun k => match k with
  | 0 => .object "FactorDesk$Graph"
  | 1 => .object "FactorDesk$Search"
  | 2 => .object "FactorDesk$Bounds"
  | _ => .object "FactorDesk$Answers"
theorem nmF : ∀ a, a < 4 → ∀ b, b < 4 → a ≠ b → (TF a).2.1 ≠ (TF b).2.1 := by decide +kernel
theorem tyF_ok : ∀ k, k < 4 → parseFieldDescriptor (TF k).2.2.1 = some (tyF k) := by decide +kernel
theorem inF : ∀ w ∈ u_ws rF TF 4, w ∈ bigW := by decide +kernel
def TM : u_T := fun k => match k with
  | 0 => ("FactorDeskModel", "n", "I", false)
  | 1 => ("FactorDeskModel", "count", "I", false)
  | 2 => ("FactorDeskModel", "first", "[I", true)
  | 3 => ("FactorDeskModel", "second", "[I", true)
  | 4 => ("FactorDeskModel", "demands", "[I", true)
  | _ => ("FactorDeskModel", "parts", "[I", true)
def tyM : Nat → FieldType := fun k => match k with
  | 0 => .int
  | 1 => .int
  | 2 => .array .int
  | 3 => .array .int
  | 4 => .array .int
  | _ => .array .int
theorem nmM : ∀ a, a < 6 → ∀ b, b < 6 → a ≠ b → (TM a).2.1 ≠ (TM b).2.1 := by decide +kernel
theorem tyM_ok : ∀ k, k < 6 → parseFieldDescriptor (TM k).2.2.1 = some (tyM k) := by decide +kernel
theorem inM : ∀ w ∈ u_ws rM TM 6, w ∈ bigW := by decide +kernel
abbrev cls : List vw_C := [(rA, TA, 7), (rB, TB, 8), (rG, TG, 5), (rS, TS, 9), (rF, TF, 4), (rM, TM, 6)]
theorem iniA : Cond.initialized rA ∈ bigW := kw (k := 25) (by decide +kernel) rfl
theorem iniB : Cond.initialized rB ∈ bigW := kw (k := 24) (by decide +kernel) rfl
theorem iniG : Cond.initialized rG ∈ bigW := kw (k := 22) (by decide +kernel) rfl
theorem iniS : Cond.initialized rS ∈ bigW := kw (k := 23) (by decide +kernel) rfl
theorem iniF : Cond.initialized rF ∈ bigW := kw (k := 21) (by decide +kernel) rfl
theorem iniM : Cond.initialized rM ∈ bigW := kw (k := 26) (by decide +kernel) rfl
theorem iniL : Cond.initialized rL ∈ bigW := kw (k := 20) (by decide +kernel) rfl
theorem iniJ : Cond.initialized "java/lang/Math" ∈ bigW := kw (k := 27) (by decide +kernel) rfl
theorem arrI : Cond.arrayClass .int ∈ bigW := kw (k := 72) (by decide +kernel) rfl
theorem insA : Cond.instantiable rA 7 ∈ bigW := kw (k := 144) (by decide +kernel) rfl
theorem insB : Cond.instantiable rB 8 ∈ bigW := kw (k := 111) (by decide +kernel) rfl
theorem insG : Cond.instantiable rG 5 ∈ bigW := kw (k := 37) (by decide +kernel) rfl
theorem insS : Cond.instantiable rS 9 ∈ bigW := kw (k := 74) (by decide +kernel) rfl
theorem insF : Cond.instantiable rF 4 ∈ bigW := kw (k := 29) (by decide +kernel) rfl
theorem insM : Cond.instantiable rM 6 ∈ bigW := kw (k := 366) (by decide +kernel) rfl
theorem clL_7 : Cond.classLink rL 7 rF ∈ bigW := kw (k := 28) (by decide +kernel) rfl
theorem clF_9 : Cond.classLink rF 9 rG ∈ bigW := kw (k := 36) (by decide +kernel) rfl
theorem flG_9 : Cond.fieldLink rG 9 rG "vertexCount" "I" ∈ bigW := kw (k := 42) (by decide +kernel) rfl
theorem flB_27 : Cond.fieldLink rB 27 rG "vertexCount" "I" ∈ bigW := kw (k := 43) (by decide +kernel) rfl
theorem flF_66 : Cond.fieldLink rF 66 rG "vertexCount" "I" ∈ bigW := kw (k := 44) (by decide +kernel) rfl
theorem flG_25 : Cond.fieldLink rG 25 rG "edgeCount" "I" ∈ bigW := kw (k := 45) (by decide +kernel) rfl
theorem flS_36 : Cond.fieldLink rS 36 rG "edgeCount" "I" ∈ bigW := kw (k := 46) (by decide +kernel) rfl
theorem flF_44 : Cond.fieldLink rF 44 rG "edgeCount" "I" ∈ bigW := kw (k := 47) (by decide +kernel) rfl
theorem flB_47 : Cond.fieldLink rB 47 rG "edgeCount" "I" ∈ bigW := kw (k := 48) (by decide +kernel) rfl
theorem flG_15 : Cond.fieldLink rG 15 rG "first" "[I" ∈ bigW := kw (k := 49) (by decide +kernel) rfl
theorem flS_39 : Cond.fieldLink rS 39 rG "first" "[I" ∈ bigW := kw (k := 50) (by decide +kernel) rfl
theorem flB_50 : Cond.fieldLink rB 50 rG "first" "[I" ∈ bigW := kw (k := 51) (by decide +kernel) rfl
theorem flF_69 : Cond.fieldLink rF 69 rG "first" "[I" ∈ bigW := kw (k := 52) (by decide +kernel) rfl
theorem flG_19 : Cond.fieldLink rG 19 rG "second" "[I" ∈ bigW := kw (k := 53) (by decide +kernel) rfl
theorem flS_42 : Cond.fieldLink rS 42 rG "second" "[I" ∈ bigW := kw (k := 54) (by decide +kernel) rfl
theorem flB_53 : Cond.fieldLink rB 53 rG "second" "[I" ∈ bigW := kw (k := 55) (by decide +kernel) rfl
theorem flF_72 : Cond.fieldLink rF 72 rG "second" "[I" ∈ bigW := kw (k := 56) (by decide +kernel) rfl
theorem flG_22 : Cond.fieldLink rG 22 rG "wanted" "[I" ∈ bigW := kw (k := 57) (by decide +kernel) rfl
theorem flS_31 : Cond.fieldLink rS 31 rG "wanted" "[I" ∈ bigW := kw (k := 58) (by decide +kernel) rfl
theorem flB_40 : Cond.fieldLink rB 40 rG "wanted" "[I" ∈ bigW := kw (k := 59) (by decide +kernel) rfl
theorem flF_62 : Cond.fieldLink rF 62 rG "wanted" "[I" ∈ bigW := kw (k := 60) (by decide +kernel) rfl
theorem clF_16 : Cond.classLink rF 16 rS ∈ bigW := kw (k := 73) (by decide +kernel) rfl
theorem flS_27 : Cond.fieldLink rS 27 rS "size" "I" ∈ bigW := kw (k := 79) (by decide +kernel) rfl
theorem flS_9 : Cond.fieldLink rS 9 rS "head" "[I" ∈ bigW := kw (k := 80) (by decide +kernel) rfl
theorem flS_15 : Cond.fieldLink rS 15 rS "tail" "[I" ∈ bigW := kw (k := 81) (by decide +kernel) rfl
theorem flS_18 : Cond.fieldLink rS 18 rS "twin" "[I" ∈ bigW := kw (k := 82) (by decide +kernel) rfl
theorem flS_21 : Cond.fieldLink rS 21 rS "left" "[I" ∈ bigW := kw (k := 83) (by decide +kernel) rfl
theorem flF_152 : Cond.fieldLink rF 152 rS "left" "[I" ∈ bigW := kw (k := 84) (by decide +kernel) rfl
theorem flS_24 : Cond.fieldLink rS 24 rS "ahead" "[I" ∈ bigW := kw (k := 85) (by decide +kernel) rfl
theorem flS_64 : Cond.fieldLink rS 64 rS "enough" "I" ∈ bigW := kw (k := 86) (by decide +kernel) rfl
theorem flS_58 : Cond.fieldLink rS 58 rS "foundSet" "I" ∈ bigW := kw (k := 87) (by decide +kernel) rfl
theorem flF_128 : Cond.fieldLink rF 128 rS "foundSet" "I" ∈ bigW := kw (k := 88) (by decide +kernel) rfl
theorem flS_61 : Cond.fieldLink rS 61 rS "foundCount" "I" ∈ bigW := kw (k := 89) (by decide +kernel) rfl
theorem flF_131 : Cond.fieldLink rF 131 rS "foundCount" "I" ∈ bigW := kw (k := 90) (by decide +kernel) rfl
theorem clF_23 : Cond.classLink rF 23 rB ∈ bigW := kw (k := 110) (by decide +kernel) rfl
theorem flB_9 : Cond.fieldLink rB 9 rB "order" "[I" ∈ bigW := kw (k := 116) (by decide +kernel) rfl
theorem flB_15 : Cond.fieldLink rB 15 rB "near" "[I" ∈ bigW := kw (k := 117) (by decide +kernel) rfl
theorem flB_18 : Cond.fieldLink rB 18 rB "wants" "[I" ∈ bigW := kw (k := 118) (by decide +kernel) rfl
theorem flB_21 : Cond.fieldLink rB 21 rB "inside" "[I" ∈ bigW := kw (k := 119) (by decide +kernel) rfl
theorem flB_24 : Cond.fieldLink rB 24 rB "part" "[I" ∈ bigW := kw (k := 120) (by decide +kernel) rfl
theorem flB_33 : Cond.fieldLink rB 33 rB "all" "I" ∈ bigW := kw (k := 121) (by decide +kernel) rfl
theorem flB_63 : Cond.fieldLink rB 63 rB "foundU" "I" ∈ bigW := kw (k := 122) (by decide +kernel) rfl
theorem flF_146 : Cond.fieldLink rF 146 rB "foundU" "I" ∈ bigW := kw (k := 123) (by decide +kernel) rfl
theorem flB_66 : Cond.fieldLink rB 66 rB "foundW" "I" ∈ bigW := kw (k := 124) (by decide +kernel) rfl
theorem flF_149 : Cond.fieldLink rF 149 rB "foundW" "I" ∈ bigW := kw (k := 125) (by decide +kernel) rfl
theorem clF_30 : Cond.classLink rF 30 rA ∈ bigW := kw (k := 143) (by decide +kernel) rfl
theorem flA_7 : Cond.fieldLink rA 7 rA "solved" "Z" ∈ bigW := kw (k := 149) (by decide +kernel) rfl
theorem flF_121 : Cond.fieldLink rF 121 rA "solved" "Z" ∈ bigW := kw (k := 150) (by decide +kernel) rfl
theorem flA_13 : Cond.fieldLink rA 13 rA "tabulated" "Z" ∈ bigW := kw (k := 151) (by decide +kernel) rfl
theorem flF_134 : Cond.fieldLink rF 134 rA "tabulated" "Z" ∈ bigW := kw (k := 152) (by decide +kernel) rfl
theorem flA_16 : Cond.fieldLink rA 16 rA "explained" "Z" ∈ bigW := kw (k := 153) (by decide +kernel) rfl
theorem flF_140 : Cond.fieldLink rF 140 rA "explained" "Z" ∈ bigW := kw (k := 154) (by decide +kernel) rfl
theorem flF_85 : Cond.fieldLink rF 85 rA "bestSet" "I" ∈ bigW := kw (k := 155) (by decide +kernel) rfl
theorem flF_82 : Cond.fieldLink rF 82 rA "bestCount" "I" ∈ bigW := kw (k := 156) (by decide +kernel) rfl
theorem flF_115 : Cond.fieldLink rF 115 rA "witnessU" "I" ∈ bigW := kw (k := 157) (by decide +kernel) rfl
theorem flF_118 : Cond.fieldLink rF 118 rA "witnessW" "I" ∈ bigW := kw (k := 158) (by decide +kernel) rfl
theorem flF_12 : Cond.fieldLink rF 12 rF "graph" "LFactorDesk$Graph;" ∈ bigW := kw (k := 174) (by decide +kernel) rfl
theorem flF_19 : Cond.fieldLink rF 19 rF "search" "LFactorDesk$Search;" ∈ bigW := kw (k := 175) (by decide +kernel) rfl
theorem flF_26 : Cond.fieldLink rF 26 rF "bounds" "LFactorDesk$Bounds;" ∈ bigW := kw (k := 176) (by decide +kernel) rfl
theorem flF_33 : Cond.fieldLink rF 33 rF "known" "LFactorDesk$Answers;" ∈ bigW := kw (k := 177) (by decide +kernel) rfl
theorem clL_10 : Cond.classLink rL 10 rM ∈ bigW := kw (k := 365) (by decide +kernel) rfl
theorem flM_7 : Cond.fieldLink rM 7 rM "n" "I" ∈ bigW := kw (k := 371) (by decide +kernel) rfl
theorem flM_26 : Cond.fieldLink rM 26 rM "count" "I" ∈ bigW := kw (k := 372) (by decide +kernel) rfl
theorem flM_13 : Cond.fieldLink rM 13 rM "first" "[I" ∈ bigW := kw (k := 373) (by decide +kernel) rfl
theorem flM_17 : Cond.fieldLink rM 17 rM "second" "[I" ∈ bigW := kw (k := 374) (by decide +kernel) rfl
theorem flM_20 : Cond.fieldLink rM 20 rM "demands" "[I" ∈ bigW := kw (k := 375) (by decide +kernel) rfl
theorem flM_23 : Cond.fieldLink rM 23 rM "parts" "[I" ∈ bigW := kw (k := 376) (by decide +kernel) rfl
abbrev cF_init : ByteArray := prog_1_method_1_code
def yF_init : MethodName := ⟨rF, "<init>", "()V"⟩
def wF_init : List Cond := .code yF_init cF_init 1 none :: bigW
theorem kcF_init : Cond.code yF_init cF_init 1 none ∈ bigW := kw (k := 32) (by decide +kernel) rfl
theorem imF_init : Cond.instanceMethod yF_init ∈ bigW := kw (k := 31) (by decide +kernel) rfl
abbrev cG_init : ByteArray := prog_4_method_1_code
def yG_init : MethodName := ⟨rG, "<init>", "()V"⟩
def wG_init : List Cond := .code yG_init cG_init 1 none :: bigW
theorem kcG_init : Cond.code yG_init cG_init 1 none ∈ bigW := kw (k := 40) (by decide +kernel) rfl
theorem imG_init : Cond.instanceMethod yG_init ∈ bigW := kw (k := 39) (by decide +kernel) rfl
abbrev cS_init : ByteArray := prog_5_method_1_code
def yS_init : MethodName := ⟨rS, "<init>", "()V"⟩
def wS_init : List Cond := .code yS_init cS_init 1 none :: bigW
theorem kcS_init : Cond.code yS_init cS_init 1 none ∈ bigW := kw (k := 77) (by decide +kernel) rfl
theorem imS_init : Cond.instanceMethod yS_init ∈ bigW := kw (k := 76) (by decide +kernel) rfl
abbrev cB_init : ByteArray := prog_3_method_1_code
def yB_init : MethodName := ⟨rB, "<init>", "()V"⟩
def wB_init : List Cond := .code yB_init cB_init 4 none :: bigW
theorem kcB_init : Cond.code yB_init cB_init 4 none ∈ bigW := kw (k := 114) (by decide +kernel) rfl
theorem imB_init : Cond.instanceMethod yB_init ∈ bigW := kw (k := 113) (by decide +kernel) rfl
abbrev cA_init : ByteArray := prog_2_method_1_code
def yA_init : MethodName := ⟨rA, "<init>", "()V"⟩
def wA_init : List Cond := .code yA_init cA_init 1 none :: bigW
theorem kcA_init : Cond.code yA_init cA_init 1 none ∈ bigW := kw (k := 147) (by decide +kernel) rfl
theorem imA_init : Cond.instanceMethod yA_init ∈ bigW := kw (k := 146) (by decide +kernel) rfl
abbrev cF_begin : ByteArray := prog_1_method_2_code
def yF_begin : MethodName := ⟨rF, "begin", "(I)Z"⟩
def wF_begin : List Cond := .code yF_begin cF_begin 2 (some .boolean) :: bigW
theorem kcF_begin : Cond.code yF_begin cF_begin 2 (some .boolean) ∈ bigW := kw (k := 190) (by decide +kernel) rfl
theorem imF_begin : Cond.instanceMethod yF_begin ∈ bigW := kw (k := 188) (by decide +kernel) rfl
theorem seF_begin : Cond.selects rF yF_begin yF_begin ∈ bigW := kw (k := 189) (by decide +kernel) rfl
abbrev cG_clear : ByteArray := prog_4_method_2_code
def yG_clear : MethodName := ⟨rG, "clear", "(I)V"⟩
def wG_clear : List Cond := .code yG_clear cG_clear 3 none :: bigW
theorem kcG_clear : Cond.code yG_clear cG_clear 3 none ∈ bigW := kw (k := 194) (by decide +kernel) rfl
theorem imG_clear : Cond.instanceMethod yG_clear ∈ bigW := kw (k := 192) (by decide +kernel) rfl
theorem seG_clear : Cond.selects rG yG_clear yG_clear ∈ bigW := kw (k := 193) (by decide +kernel) rfl
abbrev cA_forget : ByteArray := prog_2_method_2_code
def yA_forget : MethodName := ⟨rA, "forget", "()V"⟩
def wA_forget : List Cond := .code yA_forget cA_forget 1 none :: bigW
theorem kcA_forget : Cond.code yA_forget cA_forget 1 none ∈ bigW := kw (k := 198) (by decide +kernel) rfl
theorem imA_forget : Cond.instanceMethod yA_forget ∈ bigW := kw (k := 196) (by decide +kernel) rfl
theorem seA_forget : Cond.selects rA yA_forget yA_forget ∈ bigW := kw (k := 197) (by decide +kernel) rfl
abbrev cF_edge : ByteArray := prog_1_method_3_code
def yF_edge : MethodName := ⟨rF, "edge", "(II)I"⟩
def wF_edge : List Cond := .code yF_edge cF_edge 3 (some .int) :: bigW
theorem kcF_edge : Cond.code yF_edge cF_edge 3 (some .int) ∈ bigW := kw (k := 202) (by decide +kernel) rfl
theorem imF_edge : Cond.instanceMethod yF_edge ∈ bigW := kw (k := 200) (by decide +kernel) rfl
theorem seF_edge : Cond.selects rF yF_edge yF_edge ∈ bigW := kw (k := 201) (by decide +kernel) rfl
abbrev cG_hasVertex : ByteArray := prog_4_method_3_code
def yG_hasVertex : MethodName := ⟨rG, "hasVertex", "(I)Z"⟩
def wG_hasVertex : List Cond := .code yG_hasVertex cG_hasVertex 2 (some .boolean) :: bigW
theorem kcG_hasVertex : Cond.code yG_hasVertex cG_hasVertex 2 (some .boolean) ∈ bigW := kw (k := 206) (by decide +kernel) rfl
theorem imG_hasVertex : Cond.instanceMethod yG_hasVertex ∈ bigW := kw (k := 204) (by decide +kernel) rfl
theorem seG_hasVertex : Cond.selects rG yG_hasVertex yG_hasVertex ∈ bigW := kw (k := 205) (by decide +kernel) rfl
abbrev cG_append : ByteArray := prog_4_method_5_code
def yG_append : MethodName := ⟨rG, "append", "(II)V"⟩
def wG_append : List Cond := .code yG_append cG_append 3 none :: bigW
theorem kcG_append : Cond.code yG_append cG_append 3 none ∈ bigW := kw (k := 210) (by decide +kernel) rfl
theorem imG_append : Cond.instanceMethod yG_append ∈ bigW := kw (k := 208) (by decide +kernel) rfl
theorem seG_append : Cond.selects rG yG_append yG_append ∈ bigW := kw (k := 209) (by decide +kernel) rfl
abbrev cF_drop : ByteArray := prog_1_method_4_code
def yF_drop : MethodName := ⟨rF, "drop", "(I)Z"⟩
def wF_drop : List Cond := .code yF_drop cF_drop 2 (some .boolean) :: bigW
theorem kcF_drop : Cond.code yF_drop cF_drop 2 (some .boolean) ∈ bigW := kw (k := 214) (by decide +kernel) rfl
theorem imF_drop : Cond.instanceMethod yF_drop ∈ bigW := kw (k := 212) (by decide +kernel) rfl
theorem seF_drop : Cond.selects rF yF_drop yF_drop ∈ bigW := kw (k := 213) (by decide +kernel) rfl
abbrev cG_hasEdge : ByteArray := prog_4_method_4_code
def yG_hasEdge : MethodName := ⟨rG, "hasEdge", "(I)Z"⟩
def wG_hasEdge : List Cond := .code yG_hasEdge cG_hasEdge 2 (some .boolean) :: bigW
theorem kcG_hasEdge : Cond.code yG_hasEdge cG_hasEdge 2 (some .boolean) ∈ bigW := kw (k := 218) (by decide +kernel) rfl
theorem imG_hasEdge : Cond.instanceMethod yG_hasEdge ∈ bigW := kw (k := 216) (by decide +kernel) rfl
theorem seG_hasEdge : Cond.selects rG yG_hasEdge yG_hasEdge ∈ bigW := kw (k := 217) (by decide +kernel) rfl
abbrev cG_remove : ByteArray := prog_4_method_6_code
def yG_remove : MethodName := ⟨rG, "remove", "(I)V"⟩
def wG_remove : List Cond := .code yG_remove cG_remove 3 none :: bigW
theorem kcG_remove : Cond.code yG_remove cG_remove 3 none ∈ bigW := kw (k := 222) (by decide +kernel) rfl
theorem imG_remove : Cond.instanceMethod yG_remove ∈ bigW := kw (k := 220) (by decide +kernel) rfl
theorem seG_remove : Cond.selects rG yG_remove yG_remove ∈ bigW := kw (k := 221) (by decide +kernel) rfl
abbrev cF_ask : ByteArray := prog_1_method_5_code
def yF_ask : MethodName := ⟨rF, "ask", "(II)Z"⟩
def wF_ask : List Cond := .code yF_ask cF_ask 3 (some .boolean) :: bigW
theorem kcF_ask : Cond.code yF_ask cF_ask 3 (some .boolean) ∈ bigW := kw (k := 226) (by decide +kernel) rfl
theorem imF_ask : Cond.instanceMethod yF_ask ∈ bigW := kw (k := 224) (by decide +kernel) rfl
theorem seF_ask : Cond.selects rF yF_ask yF_ask ∈ bigW := kw (k := 225) (by decide +kernel) rfl
abbrev cF_vertices : ByteArray := prog_1_method_6_code
def yF_vertices : MethodName := ⟨rF, "vertices", "()I"⟩
def wF_vertices : List Cond := .code yF_vertices cF_vertices 1 (some .int) :: bigW
theorem kcF_vertices : Cond.code yF_vertices cF_vertices 1 (some .int) ∈ bigW := kw (k := 230) (by decide +kernel) rfl
theorem imF_vertices : Cond.instanceMethod yF_vertices ∈ bigW := kw (k := 228) (by decide +kernel) rfl
theorem seF_vertices : Cond.selects rF yF_vertices yF_vertices ∈ bigW := kw (k := 229) (by decide +kernel) rfl
abbrev cF_edges : ByteArray := prog_1_method_7_code
def yF_edges : MethodName := ⟨rF, "edges", "()I"⟩
def wF_edges : List Cond := .code yF_edges cF_edges 1 (some .int) :: bigW
theorem kcF_edges : Cond.code yF_edges cF_edges 1 (some .int) ∈ bigW := kw (k := 234) (by decide +kernel) rfl
theorem imF_edges : Cond.instanceMethod yF_edges ∈ bigW := kw (k := 232) (by decide +kernel) rfl
theorem seF_edges : Cond.selects rF yF_edges yF_edges ∈ bigW := kw (k := 233) (by decide +kernel) rfl
abbrev cF_end : ByteArray := prog_1_method_8_code
def yF_end : MethodName := ⟨rF, "end", "(II)I"⟩
def wF_end : List Cond := .code yF_end cF_end 3 (some .int) :: bigW
theorem kcF_end : Cond.code yF_end cF_end 3 (some .int) ∈ bigW := kw (k := 238) (by decide +kernel) rfl
theorem imF_end : Cond.instanceMethod yF_end ∈ bigW := kw (k := 236) (by decide +kernel) rfl
theorem seF_end : Cond.selects rF yF_end yF_end ∈ bigW := kw (k := 237) (by decide +kernel) rfl
abbrev cF_demand : ByteArray := prog_1_method_9_code
def yF_demand : MethodName := ⟨rF, "demand", "(I)I"⟩
def wF_demand : List Cond := .code yF_demand cF_demand 2 (some .int) :: bigW
theorem kcF_demand : Cond.code yF_demand cF_demand 2 (some .int) ∈ bigW := kw (k := 242) (by decide +kernel) rfl
theorem imF_demand : Cond.instanceMethod yF_demand ∈ bigW := kw (k := 240) (by decide +kernel) rfl
theorem seF_demand : Cond.selects rF yF_demand yF_demand ∈ bigW := kw (k := 241) (by decide +kernel) rfl
abbrev cF_judge : ByteArray := prog_1_method_10_code
def yF_judge : MethodName := ⟨rF, "judge", "(I)I"⟩
def wF_judge : List Cond := .code yF_judge cF_judge 5 (some .int) :: bigW
theorem kcF_judge : Cond.code yF_judge cF_judge 5 (some .int) ∈ bigW := kw (k := 246) (by decide +kernel) rfl
theorem imF_judge : Cond.instanceMethod yF_judge ∈ bigW := kw (k := 244) (by decide +kernel) rfl
theorem seF_judge : Cond.selects rF yF_judge yF_judge ∈ bigW := kw (k := 245) (by decide +kernel) rfl
abbrev cG_degree : ByteArray := prog_4_method_7_code
def yG_degree : MethodName := ⟨rG, "degree", "(II)I"⟩
def wG_degree : List Cond := .code yG_degree cG_degree 5 (some .int) :: bigW
theorem kcG_degree : Cond.code yG_degree cG_degree 5 (some .int) ∈ bigW := kw (k := 250) (by decide +kernel) rfl
theorem imG_degree : Cond.instanceMethod yG_degree ∈ bigW := kw (k := 248) (by decide +kernel) rfl
theorem seG_degree : Cond.selects rG yG_degree yG_degree ∈ bigW := kw (k := 249) (by decide +kernel) rfl
abbrev cF_most : ByteArray := prog_1_method_11_code
def yF_most : MethodName := ⟨rF, "most", "()I"⟩
def wF_most : List Cond := .code yF_most cF_most 1 (some .int) :: bigW
theorem kcF_most : Cond.code yF_most cF_most 1 (some .int) ∈ bigW := kw (k := 254) (by decide +kernel) rfl
theorem imF_most : Cond.instanceMethod yF_most ∈ bigW := kw (k := 252) (by decide +kernel) rfl
theorem seF_most : Cond.selects rF yF_most yF_most ∈ bigW := kw (k := 253) (by decide +kernel) rfl
abbrev cF_solve : ByteArray := prog_1_method_19_code
def yF_solve : MethodName := ⟨rF, "solve", "()V"⟩
def wF_solve : List Cond := .code yF_solve cF_solve 1 none :: bigW
theorem kcF_solve : Cond.code yF_solve cF_solve 1 none ∈ bigW := kw (k := 258) (by decide +kernel) rfl
theorem imF_solve : Cond.instanceMethod yF_solve ∈ bigW := kw (k := 257) (by decide +kernel) rfl
theorem seF_solve : Cond.selects rF yF_solve yF_solve ∈ bigW := kw (k := 0) (by decide +kernel) rfl
abbrev cS_load : ByteArray := prog_5_method_2_code
def yS_load : MethodName := ⟨rS, "load", "(LFactorDesk$Graph;I)V"⟩
def wS_load : List Cond := .code yS_load cS_load 4 none :: bigW
theorem kcS_load : Cond.code yS_load cS_load 4 none ∈ bigW := kw (k := 262) (by decide +kernel) rfl
theorem imS_load : Cond.instanceMethod yS_load ∈ bigW := kw (k := 260) (by decide +kernel) rfl
theorem seS_load : Cond.selects rS yS_load yS_load ∈ bigW := kw (k := 261) (by decide +kernel) rfl
abbrev cS_take : ByteArray := prog_5_method_3_code
def yS_take : MethodName := ⟨rS, "take", "(II)V"⟩
def wS_take : List Cond := .code yS_take cS_take 4 none :: bigW
theorem kcS_take : Cond.code yS_take cS_take 4 none ∈ bigW := kw (k := 272) (by decide +kernel) rfl
theorem imS_take : Cond.instanceMethod yS_take ∈ bigW := kw (k := 271) (by decide +kernel) rfl
theorem seS_take : Cond.selects rS yS_take yS_take ∈ bigW := kw (k := 1) (by decide +kernel) rfl
abbrev cS_maximize : ByteArray := prog_5_method_5_code
def yS_maximize : MethodName := ⟨rS, "maximize", "()V"⟩
def wS_maximize : List Cond := .code yS_maximize cS_maximize 1 none :: bigW
theorem kcS_maximize : Cond.code yS_maximize cS_maximize 1 none ∈ bigW := kw (k := 276) (by decide +kernel) rfl
theorem imS_maximize : Cond.instanceMethod yS_maximize ∈ bigW := kw (k := 274) (by decide +kernel) rfl
theorem seS_maximize : Cond.selects rS yS_maximize yS_maximize ∈ bigW := kw (k := 275) (by decide +kernel) rfl
abbrev cS_explore : ByteArray := prog_5_method_7_code
def yS_explore : MethodName := ⟨rS, "explore", "(LFactorDesk$Search;III)V"⟩
def wS_explore : List Cond := .code yS_explore cS_explore 6 none :: bigW
theorem kcS_explore : Cond.code yS_explore cS_explore 6 none ∈ bigW := kw (k := 279) (by decide +kernel) rfl
theorem stS_explore : Cond.static yS_explore ∈ bigW := kw (k := 278) (by decide +kernel) rfl
abbrev cS_hope : ByteArray := prog_5_method_9_code
def yS_hope : MethodName := ⟨rS, "hope", "()I"⟩
def wS_hope : List Cond := .code yS_hope cS_hope 3 (some .int) :: bigW
theorem kcS_hope : Cond.code yS_hope cS_hope 3 (some .int) ∈ bigW := kw (k := 283) (by decide +kernel) rfl
theorem imS_hope : Cond.instanceMethod yS_hope ∈ bigW := kw (k := 282) (by decide +kernel) rfl
theorem seS_hope : Cond.selects rS yS_hope yS_hope ∈ bigW := kw (k := 2) (by decide +kernel) rfl
abbrev cS_mayAdd : ByteArray := prog_5_method_8_code
def yS_mayAdd : MethodName := ⟨rS, "mayAdd", "(II)Z"⟩
def wS_mayAdd : List Cond := .code yS_mayAdd cS_mayAdd 4 (some .boolean) :: bigW
theorem kcS_mayAdd : Cond.code yS_mayAdd cS_mayAdd 4 (some .boolean) ∈ bigW := kw (k := 287) (by decide +kernel) rfl
theorem imS_mayAdd : Cond.instanceMethod yS_mayAdd ∈ bigW := kw (k := 286) (by decide +kernel) rfl
theorem seS_mayAdd : Cond.selects rS yS_mayAdd yS_mayAdd ∈ bigW := kw (k := 3) (by decide +kernel) rfl
abbrev cF_best : ByteArray := prog_1_method_12_code
def yF_best : MethodName := ⟨rF, "best", "()I"⟩
def wF_best : List Cond := .code yF_best cF_best 1 (some .int) :: bigW
theorem kcF_best : Cond.code yF_best cF_best 1 (some .int) ∈ bigW := kw (k := 291) (by decide +kernel) rfl
theorem imF_best : Cond.instanceMethod yF_best ∈ bigW := kw (k := 289) (by decide +kernel) rfl
theorem seF_best : Cond.selects rF yF_best yF_best ∈ bigW := kw (k := 290) (by decide +kernel) rfl
abbrev cF_factor : ByteArray := prog_1_method_13_code
def yF_factor : MethodName := ⟨rF, "factor", "()I"⟩
def wF_factor : List Cond := .code yF_factor cF_factor 1 (some .int) :: bigW
theorem kcF_factor : Cond.code yF_factor cF_factor 1 (some .int) ∈ bigW := kw (k := 295) (by decide +kernel) rfl
theorem imF_factor : Cond.instanceMethod yF_factor ∈ bigW := kw (k := 293) (by decide +kernel) rfl
theorem seF_factor : Cond.selects rF yF_factor yF_factor ∈ bigW := kw (k := 294) (by decide +kernel) rfl
abbrev cG_wantedByAll : ByteArray := prog_4_method_8_code
def yG_wantedByAll : MethodName := ⟨rG, "wantedByAll", "()I"⟩
def wG_wantedByAll : List Cond := .code yG_wantedByAll cG_wantedByAll 3 (some .int) :: bigW
theorem kcG_wantedByAll : Cond.code yG_wantedByAll cG_wantedByAll 3 (some .int) ∈ bigW := kw (k := 299) (by decide +kernel) rfl
theorem imG_wantedByAll : Cond.instanceMethod yG_wantedByAll ∈ bigW := kw (k := 297) (by decide +kernel) rfl
theorem seG_wantedByAll : Cond.selects rG yG_wantedByAll yG_wantedByAll ∈ bigW := kw (k := 298) (by decide +kernel) rfl
abbrev cF_role : ByteArray := prog_1_method_14_code
def yF_role : MethodName := ⟨rF, "role", "(I)I"⟩
def wF_role : List Cond := .code yF_role cF_role 3 (some .int) :: bigW
theorem kcF_role : Cond.code yF_role cF_role 3 (some .int) ∈ bigW := kw (k := 303) (by decide +kernel) rfl
theorem imF_role : Cond.instanceMethod yF_role ∈ bigW := kw (k := 301) (by decide +kernel) rfl
theorem seF_role : Cond.selects rF yF_role yF_role ∈ bigW := kw (k := 302) (by decide +kernel) rfl
abbrev cS_reaches : ByteArray := prog_5_method_6_code
def yS_reaches : MethodName := ⟨rS, "reaches", "(I)Z"⟩
def wS_reaches : List Cond := .code yS_reaches cS_reaches 2 (some .boolean) :: bigW
theorem kcS_reaches : Cond.code yS_reaches cS_reaches 2 (some .boolean) ∈ bigW := kw (k := 307) (by decide +kernel) rfl
theorem imS_reaches : Cond.instanceMethod yS_reaches ∈ bigW := kw (k := 305) (by decide +kernel) rfl
theorem seS_reaches : Cond.selects rS yS_reaches yS_reaches ∈ bigW := kw (k := 306) (by decide +kernel) rfl
abbrev cS_lend : ByteArray := prog_5_method_4_code
def yS_lend : MethodName := ⟨rS, "lend", "(I)Z"⟩
def wS_lend : List Cond := .code yS_lend cS_lend 2 (some .boolean) :: bigW
theorem kcS_lend : Cond.code yS_lend cS_lend 2 (some .boolean) ∈ bigW := kw (k := 311) (by decide +kernel) rfl
theorem imS_lend : Cond.instanceMethod yS_lend ∈ bigW := kw (k := 309) (by decide +kernel) rfl
theorem seS_lend : Cond.selects rS yS_lend yS_lend ∈ bigW := kw (k := 310) (by decide +kernel) rfl
abbrev cF_slack : ByteArray := prog_1_method_15_code
def yF_slack : MethodName := ⟨rF, "slack", "(I)I"⟩
def wF_slack : List Cond := .code yF_slack cF_slack 3 (some .int) :: bigW
theorem kcF_slack : Cond.code yF_slack cF_slack 3 (some .int) ∈ bigW := kw (k := 315) (by decide +kernel) rfl
theorem imF_slack : Cond.instanceMethod yF_slack ∈ bigW := kw (k := 313) (by decide +kernel) rfl
theorem seF_slack : Cond.selects rF yF_slack yF_slack ∈ bigW := kw (k := 314) (by decide +kernel) rfl
abbrev cF_reachesWith : ByteArray := prog_1_method_22_code
def yF_reachesWith : MethodName := ⟨rF, "reachesWith", "(III)Z"⟩
def wF_reachesWith : List Cond := .code yF_reachesWith cF_reachesWith 4 (some .boolean) :: bigW
theorem kcF_reachesWith : Cond.code yF_reachesWith cF_reachesWith 4 (some .boolean) ∈ bigW := kw (k := 319) (by decide +kernel) rfl
theorem imF_reachesWith : Cond.instanceMethod yF_reachesWith ∈ bigW := kw (k := 318) (by decide +kernel) rfl
theorem seF_reachesWith : Cond.selects rF yF_reachesWith yF_reachesWith ∈ bigW := kw (k := 4) (by decide +kernel) rfl
abbrev cF_gain : ByteArray := prog_1_method_16_code
def yF_gain : MethodName := ⟨rF, "gain", "(I)I"⟩
def wF_gain : List Cond := .code yF_gain cF_gain 2 (some .int) :: bigW
theorem kcF_gain : Cond.code yF_gain cF_gain 2 (some .int) ∈ bigW := kw (k := 323) (by decide +kernel) rfl
theorem imF_gain : Cond.instanceMethod yF_gain ∈ bigW := kw (k := 321) (by decide +kernel) rfl
theorem seF_gain : Cond.selects rF yF_gain yF_gain ∈ bigW := kw (k := 322) (by decide +kernel) rfl
abbrev cF_bound : ByteArray := prog_1_method_17_code
def yF_bound : MethodName := ⟨rF, "bound", "(II)I"⟩
def wF_bound : List Cond := .code yF_bound cF_bound 3 (some .int) :: bigW
theorem kcF_bound : Cond.code yF_bound cF_bound 3 (some .int) ∈ bigW := kw (k := 327) (by decide +kernel) rfl
theorem imF_bound : Cond.instanceMethod yF_bound ∈ bigW := kw (k := 325) (by decide +kernel) rfl
theorem seF_bound : Cond.selects rF yF_bound yF_bound ∈ bigW := kw (k := 326) (by decide +kernel) rfl
abbrev cF_tabulate : ByteArray := prog_1_method_20_code
def yF_tabulate : MethodName := ⟨rF, "tabulate", "()V"⟩
def wF_tabulate : List Cond := .code yF_tabulate cF_tabulate 1 none :: bigW
theorem kcF_tabulate : Cond.code yF_tabulate cF_tabulate 1 none ∈ bigW := kw (k := 331) (by decide +kernel) rfl
theorem imF_tabulate : Cond.instanceMethod yF_tabulate ∈ bigW := kw (k := 330) (by decide +kernel) rfl
theorem seF_tabulate : Cond.selects rF yF_tabulate yF_tabulate ∈ bigW := kw (k := 5) (by decide +kernel) rfl
abbrev cB_load : ByteArray := prog_3_method_2_code
def yB_load : MethodName := ⟨rB, "load", "(LFactorDesk$Graph;)V"⟩
def wB_load : List Cond := .code yB_load cB_load 4 none :: bigW
theorem kcB_load : Cond.code yB_load cB_load 4 none ∈ bigW := kw (k := 335) (by decide +kernel) rfl
theorem imB_load : Cond.instanceMethod yB_load ∈ bigW := kw (k := 333) (by decide +kernel) rfl
theorem seB_load : Cond.selects rB yB_load yB_load ∈ bigW := kw (k := 334) (by decide +kernel) rfl
abbrev cB_countInside : ByteArray := prog_3_method_3_code
def yB_countInside : MethodName := ⟨rB, "countInside", "(LFactorDesk$Graph;)V"⟩
def wB_countInside : List Cond := .code yB_countInside cB_countInside 5 none :: bigW
theorem kcB_countInside : Cond.code yB_countInside cB_countInside 5 none ∈ bigW := kw (k := 339) (by decide +kernel) rfl
theorem imB_countInside : Cond.instanceMethod yB_countInside ∈ bigW := kw (k := 338) (by decide +kernel) rfl
theorem seB_countInside : Cond.selects rB yB_countInside yB_countInside ∈ bigW := kw (k := 6) (by decide +kernel) rfl
abbrev cB_partOf : ByteArray := prog_3_method_4_code
def yB_partOf : MethodName := ⟨rB, "partOf", "(II)I"⟩
def wB_partOf : List Cond := .code yB_partOf cB_partOf 7 (some .int) :: bigW
theorem kcB_partOf : Cond.code yB_partOf cB_partOf 7 (some .int) ∈ bigW := kw (k := 343) (by decide +kernel) rfl
theorem imB_partOf : Cond.instanceMethod yB_partOf ∈ bigW := kw (k := 342) (by decide +kernel) rfl
theorem seB_partOf : Cond.selects rB yB_partOf yB_partOf ∈ bigW := kw (k := 7) (by decide +kernel) rfl
abbrev cB_value : ByteArray := prog_3_method_5_code
def yB_value : MethodName := ⟨rB, "value", "(II)I"⟩
def wB_value : List Cond := .code yB_value cB_value 8 (some .int) :: bigW
theorem kcB_value : Cond.code yB_value cB_value 8 (some .int) ∈ bigW := kw (k := 347) (by decide +kernel) rfl
theorem imB_value : Cond.instanceMethod yB_value ∈ bigW := kw (k := 345) (by decide +kernel) rfl
theorem seB_value : Cond.selects rB yB_value yB_value ∈ bigW := kw (k := 346) (by decide +kernel) rfl
abbrev cF_witness : ByteArray := prog_1_method_18_code
def yF_witness : MethodName := ⟨rF, "witness", "(I)I"⟩
def wF_witness : List Cond := .code yF_witness cF_witness 2 (some .int) :: bigW
theorem kcF_witness : Cond.code yF_witness cF_witness 2 (some .int) ∈ bigW := kw (k := 351) (by decide +kernel) rfl
theorem imF_witness : Cond.instanceMethod yF_witness ∈ bigW := kw (k := 349) (by decide +kernel) rfl
theorem seF_witness : Cond.selects rF yF_witness yF_witness ∈ bigW := kw (k := 350) (by decide +kernel) rfl
abbrev cF_explain : ByteArray := prog_1_method_21_code
def yF_explain : MethodName := ⟨rF, "explain", "()V"⟩
def wF_explain : List Cond := .code yF_explain cF_explain 1 none :: bigW
theorem kcF_explain : Cond.code yF_explain cF_explain 1 none ∈ bigW := kw (k := 355) (by decide +kernel) rfl
theorem imF_explain : Cond.instanceMethod yF_explain ∈ bigW := kw (k := 354) (by decide +kernel) rfl
theorem seF_explain : Cond.selects rF yF_explain yF_explain ∈ bigW := kw (k := 8) (by decide +kernel) rfl
abbrev cB_find : ByteArray := prog_3_method_6_code
def yB_find : MethodName := ⟨rB, "find", "(I)V"⟩
def wB_find : List Cond := .code yB_find cB_find 4 none :: bigW
theorem kcB_find : Cond.code yB_find cB_find 4 none ∈ bigW := kw (k := 359) (by decide +kernel) rfl
theorem imB_find : Cond.instanceMethod yB_find ∈ bigW := kw (k := 357) (by decide +kernel) rfl
theorem seB_find : Cond.selects rB yB_find yB_find ∈ bigW := kw (k := 358) (by decide +kernel) rfl
abbrev cB_findFor : ByteArray := prog_3_method_7_code
def yB_findFor : MethodName := ⟨rB, "findFor", "(II)Z"⟩
def wB_findFor : List Cond := .code yB_findFor cB_findFor 6 (some .boolean) :: bigW
theorem kcB_findFor : Cond.code yB_findFor cB_findFor 6 (some .boolean) ∈ bigW := kw (k := 363) (by decide +kernel) rfl
theorem imB_findFor : Cond.instanceMethod yB_findFor ∈ bigW := kw (k := 362) (by decide +kernel) rfl
theorem seB_findFor : Cond.selects rB yB_findFor yB_findFor ∈ bigW := kw (k := 9) (by decide +kernel) rfl
abbrev cM_init : ByteArray := prog_7_method_1_code
def yM_init : MethodName := ⟨rM, "<init>", "()V"⟩
def wM_init : List Cond := .code yM_init cM_init 1 none :: bigW
theorem kcM_init : Cond.code yM_init cM_init 1 none ∈ bigW := kw (k := 369) (by decide +kernel) rfl
theorem imM_init : Cond.instanceMethod yM_init ∈ bigW := kw (k := 368) (by decide +kernel) rfl
abbrev cM_begin : ByteArray := prog_7_method_5_code
def yM_begin : MethodName := ⟨rM, "begin", "(I)Z"⟩
def wM_begin : List Cond := .code yM_begin cM_begin 3 (some .boolean) :: bigW
theorem kcM_begin : Cond.code yM_begin cM_begin 3 (some .boolean) ∈ bigW := kw (k := 393) (by decide +kernel) rfl
theorem imM_begin : Cond.instanceMethod yM_begin ∈ bigW := kw (k := 391) (by decide +kernel) rfl
theorem seM_begin : Cond.selects rM yM_begin yM_begin ∈ bigW := kw (k := 392) (by decide +kernel) rfl
abbrev cM_edge : ByteArray := prog_7_method_6_code
def yM_edge : MethodName := ⟨rM, "edge", "(II)I"⟩
def wM_edge : List Cond := .code yM_edge cM_edge 3 (some .int) :: bigW
theorem kcM_edge : Cond.code yM_edge cM_edge 3 (some .int) ∈ bigW := kw (k := 397) (by decide +kernel) rfl
theorem imM_edge : Cond.instanceMethod yM_edge ∈ bigW := kw (k := 395) (by decide +kernel) rfl
theorem seM_edge : Cond.selects rM yM_edge yM_edge ∈ bigW := kw (k := 396) (by decide +kernel) rfl
abbrev cM_isVertex : ByteArray := prog_7_method_3_code
def yM_isVertex : MethodName := ⟨rM, "isVertex", "(I)Z"⟩
def wM_isVertex : List Cond := .code yM_isVertex cM_isVertex 2 (some .boolean) :: bigW
theorem kcM_isVertex : Cond.code yM_isVertex cM_isVertex 2 (some .boolean) ∈ bigW := kw (k := 401) (by decide +kernel) rfl
theorem imM_isVertex : Cond.instanceMethod yM_isVertex ∈ bigW := kw (k := 400) (by decide +kernel) rfl
theorem seM_isVertex : Cond.selects rM yM_isVertex yM_isVertex ∈ bigW := kw (k := 10) (by decide +kernel) rfl
abbrev cM_drop : ByteArray := prog_7_method_7_code
def yM_drop : MethodName := ⟨rM, "drop", "(I)Z"⟩
def wM_drop : List Cond := .code yM_drop cM_drop 3 (some .boolean) :: bigW
theorem kcM_drop : Cond.code yM_drop cM_drop 3 (some .boolean) ∈ bigW := kw (k := 405) (by decide +kernel) rfl
theorem imM_drop : Cond.instanceMethod yM_drop ∈ bigW := kw (k := 403) (by decide +kernel) rfl
theorem seM_drop : Cond.selects rM yM_drop yM_drop ∈ bigW := kw (k := 404) (by decide +kernel) rfl
abbrev cM_isEdge : ByteArray := prog_7_method_4_code
def yM_isEdge : MethodName := ⟨rM, "isEdge", "(I)Z"⟩
def wM_isEdge : List Cond := .code yM_isEdge cM_isEdge 2 (some .boolean) :: bigW
theorem kcM_isEdge : Cond.code yM_isEdge cM_isEdge 2 (some .boolean) ∈ bigW := kw (k := 409) (by decide +kernel) rfl
theorem imM_isEdge : Cond.instanceMethod yM_isEdge ∈ bigW := kw (k := 408) (by decide +kernel) rfl
theorem seM_isEdge : Cond.selects rM yM_isEdge yM_isEdge ∈ bigW := kw (k := 11) (by decide +kernel) rfl
abbrev cM_ask : ByteArray := prog_7_method_8_code
def yM_ask : MethodName := ⟨rM, "ask", "(II)Z"⟩
def wM_ask : List Cond := .code yM_ask cM_ask 3 (some .boolean) :: bigW
theorem kcM_ask : Cond.code yM_ask cM_ask 3 (some .boolean) ∈ bigW := kw (k := 413) (by decide +kernel) rfl
theorem imM_ask : Cond.instanceMethod yM_ask ∈ bigW := kw (k := 411) (by decide +kernel) rfl
theorem seM_ask : Cond.selects rM yM_ask yM_ask ∈ bigW := kw (k := 412) (by decide +kernel) rfl
abbrev cM_vertices : ByteArray := prog_7_method_9_code
def yM_vertices : MethodName := ⟨rM, "vertices", "()I"⟩
def wM_vertices : List Cond := .code yM_vertices cM_vertices 1 (some .int) :: bigW
theorem kcM_vertices : Cond.code yM_vertices cM_vertices 1 (some .int) ∈ bigW := kw (k := 417) (by decide +kernel) rfl
theorem imM_vertices : Cond.instanceMethod yM_vertices ∈ bigW := kw (k := 415) (by decide +kernel) rfl
theorem seM_vertices : Cond.selects rM yM_vertices yM_vertices ∈ bigW := kw (k := 416) (by decide +kernel) rfl
abbrev cM_edges : ByteArray := prog_7_method_10_code
def yM_edges : MethodName := ⟨rM, "edges", "()I"⟩
def wM_edges : List Cond := .code yM_edges cM_edges 1 (some .int) :: bigW
theorem kcM_edges : Cond.code yM_edges cM_edges 1 (some .int) ∈ bigW := kw (k := 421) (by decide +kernel) rfl
theorem imM_edges : Cond.instanceMethod yM_edges ∈ bigW := kw (k := 419) (by decide +kernel) rfl
theorem seM_edges : Cond.selects rM yM_edges yM_edges ∈ bigW := kw (k := 420) (by decide +kernel) rfl
abbrev cM_end : ByteArray := prog_7_method_11_code
def yM_end : MethodName := ⟨rM, "end", "(II)I"⟩
def wM_end : List Cond := .code yM_end cM_end 3 (some .int) :: bigW
theorem kcM_end : Cond.code yM_end cM_end 3 (some .int) ∈ bigW := kw (k := 425) (by decide +kernel) rfl
theorem imM_end : Cond.instanceMethod yM_end ∈ bigW := kw (k := 423) (by decide +kernel) rfl
theorem seM_end : Cond.selects rM yM_end yM_end ∈ bigW := kw (k := 424) (by decide +kernel) rfl
abbrev cM_demand : ByteArray := prog_7_method_12_code
def yM_demand : MethodName := ⟨rM, "demand", "(I)I"⟩
def wM_demand : List Cond := .code yM_demand cM_demand 2 (some .int) :: bigW
theorem kcM_demand : Cond.code yM_demand cM_demand 2 (some .int) ∈ bigW := kw (k := 429) (by decide +kernel) rfl
theorem imM_demand : Cond.instanceMethod yM_demand ∈ bigW := kw (k := 427) (by decide +kernel) rfl
theorem seM_demand : Cond.selects rM yM_demand yM_demand ∈ bigW := kw (k := 428) (by decide +kernel) rfl
abbrev cM_judge : ByteArray := prog_7_method_20_code
def yM_judge : MethodName := ⟨rM, "judge", "(I)I"⟩
def wM_judge : List Cond := .code yM_judge cM_judge 2 (some .int) :: bigW
theorem kcM_judge : Cond.code yM_judge cM_judge 2 (some .int) ∈ bigW := kw (k := 433) (by decide +kernel) rfl
theorem imM_judge : Cond.instanceMethod yM_judge ∈ bigW := kw (k := 431) (by decide +kernel) rfl
theorem seM_judge : Cond.selects rM yM_judge yM_judge ∈ bigW := kw (k := 432) (by decide +kernel) rfl
abbrev cM_allEdges : ByteArray := prog_7_method_19_code
def yM_allEdges : MethodName := ⟨rM, "allEdges", "()I"⟩
def wM_allEdges : List Cond := .code yM_allEdges cM_allEdges 1 (some .int) :: bigW
theorem kcM_allEdges : Cond.code yM_allEdges cM_allEdges 1 (some .int) ∈ bigW := kw (k := 437) (by decide +kernel) rfl
theorem imM_allEdges : Cond.instanceMethod yM_allEdges ∈ bigW := kw (k := 436) (by decide +kernel) rfl
theorem seM_allEdges : Cond.selects rM yM_allEdges yM_allEdges ∈ bigW := kw (k := 12) (by decide +kernel) rfl
abbrev cM_isFactor : ByteArray := prog_7_method_18_code
def yM_isFactor : MethodName := ⟨rM, "isFactor", "(I)Z"⟩
def wM_isFactor : List Cond := .code yM_isFactor cM_isFactor 3 (some .boolean) :: bigW
theorem kcM_isFactor : Cond.code yM_isFactor cM_isFactor 3 (some .boolean) ∈ bigW := kw (k := 441) (by decide +kernel) rfl
theorem imM_isFactor : Cond.instanceMethod yM_isFactor ∈ bigW := kw (k := 440) (by decide +kernel) rfl
theorem seM_isFactor : Cond.selects rM yM_isFactor yM_isFactor ∈ bigW := kw (k := 13) (by decide +kernel) rfl
abbrev cM_degree : ByteArray := prog_7_method_16_code
def yM_degree : MethodName := ⟨rM, "degree", "(II)I"⟩
def wM_degree : List Cond := .code yM_degree cM_degree 5 (some .int) :: bigW
theorem kcM_degree : Cond.code yM_degree cM_degree 5 (some .int) ∈ bigW := kw (k := 445) (by decide +kernel) rfl
theorem imM_degree : Cond.instanceMethod yM_degree ∈ bigW := kw (k := 444) (by decide +kernel) rfl
theorem seM_degree : Cond.selects rM yM_degree yM_degree ∈ bigW := kw (k := 14) (by decide +kernel) rfl
abbrev cM_has : ByteArray := prog_7_method_13_code
def yM_has : MethodName := ⟨rM, "has", "(II)Z"⟩
def wM_has : List Cond := .code yM_has cM_has 2 (some .boolean) :: bigW
theorem kcM_has : Cond.code yM_has cM_has 2 (some .boolean) ∈ bigW := kw (k := 448) (by decide +kernel) rfl
theorem stM_has : Cond.static yM_has ∈ bigW := kw (k := 447) (by decide +kernel) rfl
abbrev cM_isFair : ByteArray := prog_7_method_17_code
def yM_isFair : MethodName := ⟨rM, "isFair", "(I)Z"⟩
def wM_isFair : List Cond := .code yM_isFair cM_isFair 3 (some .boolean) :: bigW
theorem kcM_isFair : Cond.code yM_isFair cM_isFair 3 (some .boolean) ∈ bigW := kw (k := 452) (by decide +kernel) rfl
theorem imM_isFair : Cond.instanceMethod yM_isFair ∈ bigW := kw (k := 451) (by decide +kernel) rfl
theorem seM_isFair : Cond.selects rM yM_isFair yM_isFair ∈ bigW := kw (k := 15) (by decide +kernel) rfl
abbrev cM_best : ByteArray := prog_7_method_21_code
def yM_best : MethodName := ⟨rM, "best", "()I"⟩
def wM_best : List Cond := .code yM_best cM_best 4 (some .int) :: bigW
theorem kcM_best : Cond.code yM_best cM_best 4 (some .int) ∈ bigW := kw (k := 456) (by decide +kernel) rfl
theorem imM_best : Cond.instanceMethod yM_best ∈ bigW := kw (k := 454) (by decide +kernel) rfl
theorem seM_best : Cond.selects rM yM_best yM_best ∈ bigW := kw (k := 455) (by decide +kernel) rfl
abbrev cM_size : ByteArray := prog_7_method_14_code
def yM_size : MethodName := ⟨rM, "size", "(I)I"⟩
def wM_size : List Cond := .code yM_size cM_size 3 (some .int) :: bigW
theorem kcM_size : Cond.code yM_size cM_size 3 (some .int) ∈ bigW := kw (k := 459) (by decide +kernel) rfl
theorem stM_size : Cond.static yM_size ∈ bigW := kw (k := 458) (by decide +kernel) rfl
abbrev cM_isBefore : ByteArray := prog_7_method_15_code
def yM_isBefore : MethodName := ⟨rM, "isBefore", "(II)Z"⟩
def wM_isBefore : List Cond := .code yM_isBefore cM_isBefore 3 (some .boolean) :: bigW
theorem kcM_isBefore : Cond.code yM_isBefore cM_isBefore 3 (some .boolean) ∈ bigW := kw (k := 462) (by decide +kernel) rfl
theorem stM_isBefore : Cond.static yM_isBefore ∈ bigW := kw (k := 461) (by decide +kernel) rfl
abbrev cM_most : ByteArray := prog_7_method_22_code
def yM_most : MethodName := ⟨rM, "most", "()I"⟩
def wM_most : List Cond := .code yM_most cM_most 1 (some .int) :: bigW
theorem kcM_most : Cond.code yM_most cM_most 1 (some .int) ∈ bigW := kw (k := 466) (by decide +kernel) rfl
theorem imM_most : Cond.instanceMethod yM_most ∈ bigW := kw (k := 464) (by decide +kernel) rfl
theorem seM_most : Cond.selects rM yM_most yM_most ∈ bigW := kw (k := 465) (by decide +kernel) rfl
abbrev cM_factor : ByteArray := prog_7_method_23_code
def yM_factor : MethodName := ⟨rM, "factor", "()I"⟩
def wM_factor : List Cond := .code yM_factor cM_factor 3 (some .int) :: bigW
theorem kcM_factor : Cond.code yM_factor cM_factor 3 (some .int) ∈ bigW := kw (k := 471) (by decide +kernel) rfl
theorem imM_factor : Cond.instanceMethod yM_factor ∈ bigW := kw (k := 469) (by decide +kernel) rfl
theorem seM_factor : Cond.selects rM yM_factor yM_factor ∈ bigW := kw (k := 470) (by decide +kernel) rfl
abbrev cM_role : ByteArray := prog_7_method_24_code
def yM_role : MethodName := ⟨rM, "role", "(I)I"⟩
def wM_role : List Cond := .code yM_role cM_role 6 (some .int) :: bigW
theorem kcM_role : Cond.code yM_role cM_role 6 (some .int) ∈ bigW := kw (k := 475) (by decide +kernel) rfl
theorem imM_role : Cond.instanceMethod yM_role ∈ bigW := kw (k := 473) (by decide +kernel) rfl
theorem seM_role : Cond.selects rM yM_role yM_role ∈ bigW := kw (k := 474) (by decide +kernel) rfl
abbrev cM_slack : ByteArray := prog_7_method_26_code
def yM_slack : MethodName := ⟨rM, "slack", "(I)I"⟩
def wM_slack : List Cond := .code yM_slack cM_slack 4 (some .int) :: bigW
theorem kcM_slack : Cond.code yM_slack cM_slack 4 (some .int) ∈ bigW := kw (k := 480) (by decide +kernel) rfl
theorem imM_slack : Cond.instanceMethod yM_slack ∈ bigW := kw (k := 478) (by decide +kernel) rfl
theorem seM_slack : Cond.selects rM yM_slack yM_slack ∈ bigW := kw (k := 479) (by decide +kernel) rfl
abbrev cM_mostWith : ByteArray := prog_7_method_25_code
def yM_mostWith : MethodName := ⟨rM, "mostWith", "(II)I"⟩
def wM_mostWith : List Cond := .code yM_mostWith cM_mostWith 5 (some .int) :: bigW
theorem kcM_mostWith : Cond.code yM_mostWith cM_mostWith 5 (some .int) ∈ bigW := kw (k := 484) (by decide +kernel) rfl
theorem imM_mostWith : Cond.instanceMethod yM_mostWith ∈ bigW := kw (k := 483) (by decide +kernel) rfl
theorem seM_mostWith : Cond.selects rM yM_mostWith yM_mostWith ∈ bigW := kw (k := 16) (by decide +kernel) rfl
abbrev cM_gain : ByteArray := prog_7_method_27_code
def yM_gain : MethodName := ⟨rM, "gain", "(I)I"⟩
def wM_gain : List Cond := .code yM_gain cM_gain 2 (some .int) :: bigW
theorem kcM_gain : Cond.code yM_gain cM_gain 2 (some .int) ∈ bigW := kw (k := 488) (by decide +kernel) rfl
theorem imM_gain : Cond.instanceMethod yM_gain ∈ bigW := kw (k := 486) (by decide +kernel) rfl
theorem seM_gain : Cond.selects rM yM_gain yM_gain ∈ bigW := kw (k := 487) (by decide +kernel) rfl
abbrev cM_bound : ByteArray := prog_7_method_31_code
def yM_bound : MethodName := ⟨rM, "bound", "(II)I"⟩
def wM_bound : List Cond := .code yM_bound cM_bound 5 (some .int) :: bigW
theorem kcM_bound : Cond.code yM_bound cM_bound 5 (some .int) ∈ bigW := kw (k := 492) (by decide +kernel) rfl
theorem imM_bound : Cond.instanceMethod yM_bound ∈ bigW := kw (k := 490) (by decide +kernel) rfl
theorem seM_bound : Cond.selects rM yM_bound yM_bound ∈ bigW := kw (k := 491) (by decide +kernel) rfl
abbrev cM_areSets : ByteArray := prog_7_method_30_code
def yM_areSets : MethodName := ⟨rM, "areSets", "(II)Z"⟩
def wM_areSets : List Cond := .code yM_areSets cM_areSets 4 (some .boolean) :: bigW
theorem kcM_areSets : Cond.code yM_areSets cM_areSets 4 (some .boolean) ∈ bigW := kw (k := 496) (by decide +kernel) rfl
theorem imM_areSets : Cond.instanceMethod yM_areSets ∈ bigW := kw (k := 495) (by decide +kernel) rfl
theorem seM_areSets : Cond.selects rM yM_areSets yM_areSets ∈ bigW := kw (k := 17) (by decide +kernel) rfl
abbrev cM_partition : ByteArray := prog_7_method_28_code
def yM_partition : MethodName := ⟨rM, "partition", "(II)I"⟩
def wM_partition : List Cond := .code yM_partition cM_partition 7 (some .int) :: bigW
theorem kcM_partition : Cond.code yM_partition cM_partition 7 (some .int) ∈ bigW := kw (k := 500) (by decide +kernel) rfl
theorem imM_partition : Cond.instanceMethod yM_partition ∈ bigW := kw (k := 499) (by decide +kernel) rfl
theorem seM_partition : Cond.selects rM yM_partition yM_partition ∈ bigW := kw (k := 18) (by decide +kernel) rfl
abbrev cM_half : ByteArray := prog_7_method_29_code
def yM_half : MethodName := ⟨rM, "half", "(II)I"⟩
def wM_half : List Cond := .code yM_half cM_half 6 (some .int) :: bigW
theorem kcM_half : Cond.code yM_half cM_half 6 (some .int) ∈ bigW := kw (k := 504) (by decide +kernel) rfl
theorem imM_half : Cond.instanceMethod yM_half ∈ bigW := kw (k := 503) (by decide +kernel) rfl
theorem seM_half : Cond.selects rM yM_half yM_half ∈ bigW := kw (k := 19) (by decide +kernel) rfl
abbrev cM_witness : ByteArray := prog_7_method_32_code
def yM_witness : MethodName := ⟨rM, "witness", "(I)I"⟩
def wM_witness : List Cond := .code yM_witness cM_witness 9 (some .int) :: bigW
theorem kcM_witness : Cond.code yM_witness cM_witness 9 (some .int) ∈ bigW := kw (k := 508) (by decide +kernel) rfl
theorem imM_witness : Cond.instanceMethod yM_witness ∈ bigW := kw (k := 506) (by decide +kernel) rfl
theorem seM_witness : Cond.selects rM yM_witness yM_witness ∈ bigW := kw (k := 507) (by decide +kernel) rfl
theorem imO : Cond.instanceMethod objectInit ∈ bigW := kw (k := 34) (by decide +kernel) rfl
theorem kcO : Cond.code objectInit ⟨#[0xb1]⟩ 1 none ∈ bigW := kw (k := 35) (by decide +kernel) rfl
theorem st_min : Cond.static Lib.Math.min.name ∈ bigW := kw (k := 264) (by decide +kernel) rfl
theorem kc_min : Cond.code Lib.Math.min.name Lib.Math.min.code 2 (some .int) ∈ bigW := kw (k := 265) (by decide +kernel) rfl
theorem st_max : Cond.static Lib.Math.max.name ∈ bigW := kw (k := 267) (by decide +kernel) rfl
theorem kc_max : Cond.code Lib.Math.max.name Lib.Math.max.code 2 (some .int) ∈ bigW := kw (k := 268) (by decide +kernel) rfl
theorem mlL_9 : Cond.methodLink rL 9 yF_init ∈ bigW := kw (k := 30) (by decide +kernel) rfl
theorem mlF_3 : Cond.methodLink rF 3 objectInit ∈ bigW := kw (k := 33) (by decide +kernel) rfl
theorem mlG_3 : Cond.methodLink rG 3 objectInit ∈ bigW := kw (k := 41) (by decide +kernel) rfl
theorem mlS_3 : Cond.methodLink rS 3 objectInit ∈ bigW := kw (k := 78) (by decide +kernel) rfl
theorem mlF_25 : Cond.methodLink rF 25 yB_init ∈ bigW := kw (k := 112) (by decide +kernel) rfl
theorem mlB_3 : Cond.methodLink rB 3 objectInit ∈ bigW := kw (k := 115) (by decide +kernel) rfl
theorem mlA_1 : Cond.methodLink rA 1 objectInit ∈ bigW := kw (k := 148) (by decide +kernel) rfl
theorem mlL_13 : Cond.methodLink rL 13 yF_begin ∈ bigW := kw (k := 187) (by decide +kernel) rfl
theorem gL_13 : GoodIn bigW (wsV rL 13 rF yF_begin wF_begin) := gV mlL_13 imF_begin seF_begin iniF kcF_begin
theorem mlF_37 : Cond.methodLink rF 37 yG_clear ∈ bigW := kw (k := 191) (by decide +kernel) rfl
theorem gF_37 : GoodIn bigW (wsV rF 37 rG yG_clear wG_clear) := gV mlF_37 imG_clear seG_clear iniG kcG_clear
theorem mlF_41 : Cond.methodLink rF 41 yA_forget ∈ bigW := kw (k := 195) (by decide +kernel) rfl
theorem gF_41 : GoodIn bigW (wsV rF 41 rA yA_forget wA_forget) := gV mlF_41 imA_forget seA_forget iniA kcA_forget
theorem mlL_18 : Cond.methodLink rL 18 yF_edge ∈ bigW := kw (k := 199) (by decide +kernel) rfl
theorem gL_18 : GoodIn bigW (wsV rL 18 rF yF_edge wF_edge) := gV mlL_18 imF_edge seF_edge iniF kcF_edge
theorem mlF_48 : Cond.methodLink rF 48 yG_hasVertex ∈ bigW := kw (k := 203) (by decide +kernel) rfl
theorem gF_48 : GoodIn bigW (wsV rF 48 rG yG_hasVertex wG_hasVertex) := gV mlF_48 imG_hasVertex seG_hasVertex iniG kcG_hasVertex
theorem mlF_52 : Cond.methodLink rF 52 yG_append ∈ bigW := kw (k := 207) (by decide +kernel) rfl
theorem gF_52 : GoodIn bigW (wsV rF 52 rG yG_append wG_append) := gV mlF_52 imG_append seG_append iniG kcG_append
theorem mlL_23 : Cond.methodLink rL 23 yF_drop ∈ bigW := kw (k := 211) (by decide +kernel) rfl
theorem gL_23 : GoodIn bigW (wsV rL 23 rF yF_drop wF_drop) := gV mlL_23 imF_drop seF_drop iniF kcF_drop
theorem mlF_56 : Cond.methodLink rF 56 yG_hasEdge ∈ bigW := kw (k := 215) (by decide +kernel) rfl
theorem gF_56 : GoodIn bigW (wsV rF 56 rG yG_hasEdge wG_hasEdge) := gV mlF_56 imG_hasEdge seG_hasEdge iniG kcG_hasEdge
theorem mlF_59 : Cond.methodLink rF 59 yG_remove ∈ bigW := kw (k := 219) (by decide +kernel) rfl
theorem gF_59 : GoodIn bigW (wsV rF 59 rG yG_remove wG_remove) := gV mlF_59 imG_remove seG_remove iniG kcG_remove
theorem mlL_27 : Cond.methodLink rL 27 yF_ask ∈ bigW := kw (k := 223) (by decide +kernel) rfl
theorem gL_27 : GoodIn bigW (wsV rL 27 rF yF_ask wF_ask) := gV mlL_27 imF_ask seF_ask iniF kcF_ask
theorem mlL_32 : Cond.methodLink rL 32 yF_vertices ∈ bigW := kw (k := 227) (by decide +kernel) rfl
theorem gL_32 : GoodIn bigW (wsV rL 32 rF yF_vertices wF_vertices) := gV mlL_32 imF_vertices seF_vertices iniF kcF_vertices
theorem mlL_37 : Cond.methodLink rL 37 yF_edges ∈ bigW := kw (k := 231) (by decide +kernel) rfl
theorem gL_37 : GoodIn bigW (wsV rL 37 rF yF_edges wF_edges) := gV mlL_37 imF_edges seF_edges iniF kcF_edges
theorem mlL_41 : Cond.methodLink rL 41 yF_end ∈ bigW := kw (k := 235) (by decide +kernel) rfl
theorem gL_41 : GoodIn bigW (wsV rL 41 rF yF_end wF_end) := gV mlL_41 imF_end seF_end iniF kcF_end
theorem mlL_45 : Cond.methodLink rL 45 yF_demand ∈ bigW := kw (k := 239) (by decide +kernel) rfl
theorem gL_45 : GoodIn bigW (wsV rL 45 rF yF_demand wF_demand) := gV mlL_45 imF_demand seF_demand iniF kcF_demand
theorem mlL_50 : Cond.methodLink rL 50 yF_judge ∈ bigW := kw (k := 243) (by decide +kernel) rfl
theorem gL_50 : GoodIn bigW (wsV rL 50 rF yF_judge wF_judge) := gV mlL_50 imF_judge seF_judge iniF kcF_judge
theorem mlF_75 : Cond.methodLink rF 75 yG_degree ∈ bigW := kw (k := 247) (by decide +kernel) rfl
theorem gF_75 : GoodIn bigW (wsV rF 75 rG yG_degree wG_degree) := gV mlF_75 imG_degree seG_degree iniG kcG_degree
theorem mlL_54 : Cond.methodLink rL 54 yF_most ∈ bigW := kw (k := 251) (by decide +kernel) rfl
theorem gL_54 : GoodIn bigW (wsV rL 54 rF yF_most wF_most) := gV mlL_54 imF_most seF_most iniF kcF_most
theorem mlF_79 : Cond.methodLink rF 79 yF_solve ∈ bigW := kw (k := 255) (by decide +kernel) rfl
theorem gF_79 : GoodIn bigW (wsV rF 79 rF yF_solve wF_solve) := gV mlF_79 imF_solve seF_solve iniF kcF_solve
theorem mlF_92 : Cond.methodLink rF 92 yS_load ∈ bigW := kw (k := 259) (by decide +kernel) rfl
theorem gF_92 : GoodIn bigW (wsV rF 92 rS yS_load wS_load) := gV mlF_92 imS_load seS_load iniS kcS_load
theorem mlS_45 : Cond.methodLink rS 45 Lib.Math.min.name ∈ bigW := kw (k := 263) (by decide +kernel) rfl
theorem mlS_51 : Cond.methodLink rS 51 Lib.Math.max.name ∈ bigW := kw (k := 266) (by decide +kernel) rfl
theorem mlS_54 : Cond.methodLink rS 54 yS_take ∈ bigW := kw (k := 269) (by decide +kernel) rfl
theorem gS_54 : GoodIn bigW (wsV rS 54 rS yS_take wS_take) := gV mlS_54 imS_take seS_take iniS kcS_take
theorem mlF_125 : Cond.methodLink rF 125 yS_maximize ∈ bigW := kw (k := 273) (by decide +kernel) rfl
theorem gF_125 : GoodIn bigW (wsV rF 125 rS yS_maximize wS_maximize) := gV mlF_125 imS_maximize seS_maximize iniS kcS_maximize
theorem mlS_67 : Cond.methodLink rS 67 yS_explore ∈ bigW := kw (k := 277) (by decide +kernel) rfl
theorem gS_67 : GoodIn bigW (wsS rS 67 yS_explore wS_explore) := gS mlS_67 stS_explore iniS kcS_explore
theorem mlS_71 : Cond.methodLink rS 71 yS_hope ∈ bigW := kw (k := 280) (by decide +kernel) rfl
theorem gS_71 : GoodIn bigW (wsV rS 71 rS yS_hope wS_hope) := gV mlS_71 imS_hope seS_hope iniS kcS_hope
theorem mlS_75 : Cond.methodLink rS 75 yS_mayAdd ∈ bigW := kw (k := 284) (by decide +kernel) rfl
theorem gS_75 : GoodIn bigW (wsV rS 75 rS yS_mayAdd wS_mayAdd) := gV mlS_75 imS_mayAdd seS_mayAdd iniS kcS_mayAdd
theorem mlL_58 : Cond.methodLink rL 58 yF_best ∈ bigW := kw (k := 288) (by decide +kernel) rfl
theorem gL_58 : GoodIn bigW (wsV rL 58 rF yF_best wF_best) := gV mlL_58 imF_best seF_best iniF kcF_best
theorem mlL_62 : Cond.methodLink rL 62 yF_factor ∈ bigW := kw (k := 292) (by decide +kernel) rfl
theorem gL_62 : GoodIn bigW (wsV rL 62 rF yF_factor wF_factor) := gV mlL_62 imF_factor seF_factor iniF kcF_factor
theorem mlF_88 : Cond.methodLink rF 88 yG_wantedByAll ∈ bigW := kw (k := 296) (by decide +kernel) rfl
theorem gF_88 : GoodIn bigW (wsV rF 88 rG yG_wantedByAll wG_wantedByAll) := gV mlF_88 imG_wantedByAll seG_wantedByAll iniG kcG_wantedByAll
theorem mlL_66 : Cond.methodLink rL 66 yF_role ∈ bigW := kw (k := 300) (by decide +kernel) rfl
theorem gL_66 : GoodIn bigW (wsV rL 66 rF yF_role wF_role) := gV mlL_66 imF_role seF_role iniF kcF_role
theorem mlF_96 : Cond.methodLink rF 96 yS_reaches ∈ bigW := kw (k := 304) (by decide +kernel) rfl
theorem gF_96 : GoodIn bigW (wsV rF 96 rS yS_reaches wS_reaches) := gV mlF_96 imS_reaches seS_reaches iniS kcS_reaches
theorem mlF_99 : Cond.methodLink rF 99 yS_lend ∈ bigW := kw (k := 308) (by decide +kernel) rfl
theorem gF_99 : GoodIn bigW (wsV rF 99 rS yS_lend wS_lend) := gV mlF_99 imS_lend seS_lend iniS kcS_lend
theorem mlL_70 : Cond.methodLink rL 70 yF_slack ∈ bigW := kw (k := 312) (by decide +kernel) rfl
theorem gL_70 : GoodIn bigW (wsV rL 70 rF yF_slack wF_slack) := gV mlL_70 imF_slack seF_slack iniF kcF_slack
theorem mlF_102 : Cond.methodLink rF 102 yF_reachesWith ∈ bigW := kw (k := 316) (by decide +kernel) rfl
theorem gF_102 : GoodIn bigW (wsV rF 102 rF yF_reachesWith wF_reachesWith) := gV mlF_102 imF_reachesWith seF_reachesWith iniF kcF_reachesWith
theorem mlL_74 : Cond.methodLink rL 74 yF_gain ∈ bigW := kw (k := 320) (by decide +kernel) rfl
theorem gL_74 : GoodIn bigW (wsV rL 74 rF yF_gain wF_gain) := gV mlL_74 imF_gain seF_gain iniF kcF_gain
theorem mlL_78 : Cond.methodLink rL 78 yF_bound ∈ bigW := kw (k := 324) (by decide +kernel) rfl
theorem gL_78 : GoodIn bigW (wsV rL 78 rF yF_bound wF_bound) := gV mlL_78 imF_bound seF_bound iniF kcF_bound
theorem mlF_106 : Cond.methodLink rF 106 yF_tabulate ∈ bigW := kw (k := 328) (by decide +kernel) rfl
theorem gF_106 : GoodIn bigW (wsV rF 106 rF yF_tabulate wF_tabulate) := gV mlF_106 imF_tabulate seF_tabulate iniF kcF_tabulate
theorem mlF_137 : Cond.methodLink rF 137 yB_load ∈ bigW := kw (k := 332) (by decide +kernel) rfl
theorem gF_137 : GoodIn bigW (wsV rF 137 rB yB_load wB_load) := gV mlF_137 imB_load seB_load iniB kcB_load
theorem mlB_36 : Cond.methodLink rB 36 yB_countInside ∈ bigW := kw (k := 336) (by decide +kernel) rfl
theorem gB_36 : GoodIn bigW (wsV rB 36 rB yB_countInside wB_countInside) := gV mlB_36 imB_countInside seB_countInside iniB kcB_countInside
theorem mlB_43 : Cond.methodLink rB 43 yB_partOf ∈ bigW := kw (k := 340) (by decide +kernel) rfl
theorem gB_43 : GoodIn bigW (wsV rB 43 rB yB_partOf wB_partOf) := gV mlB_43 imB_partOf seB_partOf iniB kcB_partOf
theorem mlF_109 : Cond.methodLink rF 109 yB_value ∈ bigW := kw (k := 344) (by decide +kernel) rfl
theorem gF_109 : GoodIn bigW (wsV rF 109 rB yB_value wB_value) := gV mlF_109 imB_value seB_value iniB kcB_value
theorem mlL_82 : Cond.methodLink rL 82 yF_witness ∈ bigW := kw (k := 348) (by decide +kernel) rfl
theorem gL_82 : GoodIn bigW (wsV rL 82 rF yF_witness wF_witness) := gV mlL_82 imF_witness seF_witness iniF kcF_witness
theorem mlF_112 : Cond.methodLink rF 112 yF_explain ∈ bigW := kw (k := 352) (by decide +kernel) rfl
theorem gF_112 : GoodIn bigW (wsV rF 112 rF yF_explain wF_explain) := gV mlF_112 imF_explain seF_explain iniF kcF_explain
theorem mlF_143 : Cond.methodLink rF 143 yB_find ∈ bigW := kw (k := 356) (by decide +kernel) rfl
theorem gF_143 : GoodIn bigW (wsV rF 143 rB yB_find wB_find) := gV mlF_143 imB_find seB_find iniB kcB_find
theorem mlB_56 : Cond.methodLink rB 56 yB_findFor ∈ bigW := kw (k := 360) (by decide +kernel) rfl
theorem gB_56 : GoodIn bigW (wsV rB 56 rB yB_findFor wB_findFor) := gV mlB_56 imB_findFor seB_findFor iniB kcB_findFor
theorem mlB_60 : Cond.methodLink rB 60 yB_value ∈ bigW := kw (k := 364) (by decide +kernel) rfl
theorem gB_60 : GoodIn bigW (wsV rB 60 rB yB_value wB_value) := gV mlB_60 imB_value seB_value iniB kcB_value
theorem mlL_12 : Cond.methodLink rL 12 yM_init ∈ bigW := kw (k := 367) (by decide +kernel) rfl
theorem mlM_1 : Cond.methodLink rM 1 objectInit ∈ bigW := kw (k := 370) (by decide +kernel) rfl
theorem mlL_17 : Cond.methodLink rL 17 yM_begin ∈ bigW := kw (k := 390) (by decide +kernel) rfl
theorem gL_17 : GoodIn bigW (wsV rL 17 rM yM_begin wM_begin) := gV mlL_17 imM_begin seM_begin iniM kcM_begin
theorem mlL_22 : Cond.methodLink rL 22 yM_edge ∈ bigW := kw (k := 394) (by decide +kernel) rfl
theorem gL_22 : GoodIn bigW (wsV rL 22 rM yM_edge wM_edge) := gV mlL_22 imM_edge seM_edge iniM kcM_edge
theorem mlM_29 : Cond.methodLink rM 29 yM_isVertex ∈ bigW := kw (k := 398) (by decide +kernel) rfl
theorem gM_29 : GoodIn bigW (wsV rM 29 rM yM_isVertex wM_isVertex) := gV mlM_29 imM_isVertex seM_isVertex iniM kcM_isVertex
theorem mlL_26 : Cond.methodLink rL 26 yM_drop ∈ bigW := kw (k := 402) (by decide +kernel) rfl
theorem gL_26 : GoodIn bigW (wsV rL 26 rM yM_drop wM_drop) := gV mlL_26 imM_drop seM_drop iniM kcM_drop
theorem mlM_33 : Cond.methodLink rM 33 yM_isEdge ∈ bigW := kw (k := 406) (by decide +kernel) rfl
theorem gM_33 : GoodIn bigW (wsV rM 33 rM yM_isEdge wM_isEdge) := gV mlM_33 imM_isEdge seM_isEdge iniM kcM_isEdge
theorem mlL_31 : Cond.methodLink rL 31 yM_ask ∈ bigW := kw (k := 410) (by decide +kernel) rfl
theorem gL_31 : GoodIn bigW (wsV rL 31 rM yM_ask wM_ask) := gV mlL_31 imM_ask seM_ask iniM kcM_ask
theorem mlL_36 : Cond.methodLink rL 36 yM_vertices ∈ bigW := kw (k := 414) (by decide +kernel) rfl
theorem gL_36 : GoodIn bigW (wsV rL 36 rM yM_vertices wM_vertices) := gV mlL_36 imM_vertices seM_vertices iniM kcM_vertices
theorem mlL_40 : Cond.methodLink rL 40 yM_edges ∈ bigW := kw (k := 418) (by decide +kernel) rfl
theorem gL_40 : GoodIn bigW (wsV rL 40 rM yM_edges wM_edges) := gV mlL_40 imM_edges seM_edges iniM kcM_edges
theorem mlL_44 : Cond.methodLink rL 44 yM_end ∈ bigW := kw (k := 422) (by decide +kernel) rfl
theorem gL_44 : GoodIn bigW (wsV rL 44 rM yM_end wM_end) := gV mlL_44 imM_end seM_end iniM kcM_end
theorem mlL_49 : Cond.methodLink rL 49 yM_demand ∈ bigW := kw (k := 426) (by decide +kernel) rfl
theorem gL_49 : GoodIn bigW (wsV rL 49 rM yM_demand wM_demand) := gV mlL_49 imM_demand seM_demand iniM kcM_demand
theorem mlL_53 : Cond.methodLink rL 53 yM_judge ∈ bigW := kw (k := 430) (by decide +kernel) rfl
theorem gL_53 : GoodIn bigW (wsV rL 53 rM yM_judge wM_judge) := gV mlL_53 imM_judge seM_judge iniM kcM_judge
theorem mlM_48 : Cond.methodLink rM 48 yM_allEdges ∈ bigW := kw (k := 434) (by decide +kernel) rfl
theorem gM_48 : GoodIn bigW (wsV rM 48 rM yM_allEdges wM_allEdges) := gV mlM_48 imM_allEdges seM_allEdges iniM kcM_allEdges
theorem mlM_52 : Cond.methodLink rM 52 yM_isFactor ∈ bigW := kw (k := 438) (by decide +kernel) rfl
theorem gM_52 : GoodIn bigW (wsV rM 52 rM yM_isFactor wM_isFactor) := gV mlM_52 imM_isFactor seM_isFactor iniM kcM_isFactor
theorem mlM_44 : Cond.methodLink rM 44 yM_degree ∈ bigW := kw (k := 442) (by decide +kernel) rfl
theorem gM_44 : GoodIn bigW (wsV rM 44 rM yM_degree wM_degree) := gV mlM_44 imM_degree seM_degree iniM kcM_degree
theorem mlM_36 : Cond.methodLink rM 36 yM_has ∈ bigW := kw (k := 446) (by decide +kernel) rfl
theorem gM_36 : GoodIn bigW (wsS rM 36 yM_has wM_has) := gS mlM_36 stM_has iniM kcM_has
theorem mlM_55 : Cond.methodLink rM 55 yM_isFair ∈ bigW := kw (k := 449) (by decide +kernel) rfl
theorem gM_55 : GoodIn bigW (wsV rM 55 rM yM_isFair wM_isFair) := gV mlM_55 imM_isFair seM_isFair iniM kcM_isFair
theorem mlL_61 : Cond.methodLink rL 61 yM_best ∈ bigW := kw (k := 453) (by decide +kernel) rfl
theorem gL_61 : GoodIn bigW (wsV rL 61 rM yM_best wM_best) := gV mlL_61 imM_best seM_best iniM kcM_best
theorem mlM_40 : Cond.methodLink rM 40 yM_size ∈ bigW := kw (k := 457) (by decide +kernel) rfl
theorem gM_40 : GoodIn bigW (wsS rM 40 yM_size wM_size) := gS mlM_40 stM_size iniM kcM_size
theorem mlM_58 : Cond.methodLink rM 58 yM_isBefore ∈ bigW := kw (k := 460) (by decide +kernel) rfl
theorem gM_58 : GoodIn bigW (wsS rM 58 yM_isBefore wM_isBefore) := gS mlM_58 stM_isBefore iniM kcM_isBefore
theorem mlL_57 : Cond.methodLink rL 57 yM_most ∈ bigW := kw (k := 463) (by decide +kernel) rfl
theorem gL_57 : GoodIn bigW (wsV rL 57 rM yM_most wM_most) := gV mlL_57 imM_most seM_most iniM kcM_most
theorem mlM_61 : Cond.methodLink rM 61 yM_best ∈ bigW := kw (k := 467) (by decide +kernel) rfl
theorem gM_61 : GoodIn bigW (wsV rM 61 rM yM_best wM_best) := gV mlM_61 imM_best seM_best iniM kcM_best
theorem mlL_65 : Cond.methodLink rL 65 yM_factor ∈ bigW := kw (k := 468) (by decide +kernel) rfl
theorem gL_65 : GoodIn bigW (wsV rL 65 rM yM_factor wM_factor) := gV mlL_65 imM_factor seM_factor iniM kcM_factor
theorem mlL_69 : Cond.methodLink rL 69 yM_role ∈ bigW := kw (k := 472) (by decide +kernel) rfl
theorem gL_69 : GoodIn bigW (wsV rL 69 rM yM_role wM_role) := gV mlL_69 imM_role seM_role iniM kcM_role
theorem mlM_64 : Cond.methodLink rM 64 yM_most ∈ bigW := kw (k := 476) (by decide +kernel) rfl
theorem gM_64 : GoodIn bigW (wsV rM 64 rM yM_most wM_most) := gV mlM_64 imM_most seM_most iniM kcM_most
theorem mlL_73 : Cond.methodLink rL 73 yM_slack ∈ bigW := kw (k := 477) (by decide +kernel) rfl
theorem gL_73 : GoodIn bigW (wsV rL 73 rM yM_slack wM_slack) := gV mlL_73 imM_slack seM_slack iniM kcM_slack
theorem mlM_67 : Cond.methodLink rM 67 yM_mostWith ∈ bigW := kw (k := 481) (by decide +kernel) rfl
theorem gM_67 : GoodIn bigW (wsV rM 67 rM yM_mostWith wM_mostWith) := gV mlM_67 imM_mostWith seM_mostWith iniM kcM_mostWith
theorem mlL_77 : Cond.methodLink rL 77 yM_gain ∈ bigW := kw (k := 485) (by decide +kernel) rfl
theorem gL_77 : GoodIn bigW (wsV rL 77 rM yM_gain wM_gain) := gV mlL_77 imM_gain seM_gain iniM kcM_gain
theorem mlL_81 : Cond.methodLink rL 81 yM_bound ∈ bigW := kw (k := 489) (by decide +kernel) rfl
theorem gL_81 : GoodIn bigW (wsV rL 81 rM yM_bound wM_bound) := gV mlL_81 imM_bound seM_bound iniM kcM_bound
theorem mlM_70 : Cond.methodLink rM 70 yM_areSets ∈ bigW := kw (k := 493) (by decide +kernel) rfl
theorem gM_70 : GoodIn bigW (wsV rM 70 rM yM_areSets wM_areSets) := gV mlM_70 imM_areSets seM_areSets iniM kcM_areSets
theorem mlM_73 : Cond.methodLink rM 73 yM_partition ∈ bigW := kw (k := 497) (by decide +kernel) rfl
theorem gM_73 : GoodIn bigW (wsV rM 73 rM yM_partition wM_partition) := gV mlM_73 imM_partition seM_partition iniM kcM_partition
theorem mlM_76 : Cond.methodLink rM 76 yM_half ∈ bigW := kw (k := 501) (by decide +kernel) rfl
theorem gM_76 : GoodIn bigW (wsV rM 76 rM yM_half wM_half) := gV mlM_76 imM_half seM_half iniM kcM_half
theorem mlL_85 : Cond.methodLink rL 85 yM_witness ∈ bigW := kw (k := 505) (by decide +kernel) rfl
theorem gL_85 : GoodIn bigW (wsV rL 85 rM yM_witness wM_witness) := gV mlL_85 imM_witness seM_witness iniM kcM_witness
theorem mlM_79 : Cond.methodLink rM 79 yM_bound ∈ bigW := kw (k := 509) (by decide +kernel) rfl
theorem gM_79 : GoodIn bigW (wsV rM 79 rM yM_bound wM_bound) := gV mlM_79 imM_bound seM_bound iniM kcM_bound
end
section
theorem dA_init_0 : decode cA_init 0 = .ok (.aload_n 0, 1) := by decide +kernel
theorem dA_init_1 : decode cA_init 1 = .ok (.invokespecial 1, 3) := by decide +kernel
theorem dA_init_4 : decode cA_init 4 = .ok (.return_, 1) := by decide +kernel
theorem dA_forget_0 : decode cA_forget 0 = .ok (.aload_n 0, 1) := by decide +kernel
theorem dA_forget_1 : decode cA_forget 1 = .ok (.iconst 0, 1) := by decide +kernel
theorem dA_forget_2 : decode cA_forget 2 = .ok (.putfield 7, 3) := by decide +kernel
theorem dA_forget_5 : decode cA_forget 5 = .ok (.aload_n 0, 1) := by decide +kernel
theorem dA_forget_6 : decode cA_forget 6 = .ok (.iconst 0, 1) := by decide +kernel
theorem dA_forget_7 : decode cA_forget 7 = .ok (.putfield 13, 3) := by decide +kernel
theorem dA_forget_10 : decode cA_forget 10 = .ok (.aload_n 0, 1) := by decide +kernel
theorem dA_forget_11 : decode cA_forget 11 = .ok (.iconst 0, 1) := by decide +kernel
theorem dA_forget_12 : decode cA_forget 12 = .ok (.putfield 16, 3) := by decide +kernel
theorem dA_forget_15 : decode cA_forget 15 = .ok (.return_, 1) := by decide +kernel
end
section
theorem dG_init_0 : decode cG_init 0 = .ok (.aload_n 0, 1) := by decide +kernel
theorem dG_init_1 : decode cG_init 1 = .ok (.invokespecial 3, 3) := by decide +kernel
theorem dG_init_4 : decode cG_init 4 = .ok (.aload_n 0, 1) := by decide +kernel
theorem dG_init_5 : decode cG_init 5 = .ok (.iconst 1, 1) := by decide +kernel
theorem dG_init_6 : decode cG_init 6 = .ok (.putfield 9, 3) := by decide +kernel
theorem dG_init_9 : decode cG_init 9 = .ok (.aload_n 0, 1) := by decide +kernel
theorem dG_init_10 : decode cG_init 10 = .ok (.bipush 14, 2) := by decide +kernel
theorem dG_init_12 : decode cG_init 12 = .ok (.newarray .int, 2) := by decide +kernel
theorem dG_init_14 : decode cG_init 14 = .ok (.putfield 15, 3) := by decide +kernel
theorem dG_init_17 : decode cG_init 17 = .ok (.aload_n 0, 1) := by decide +kernel
theorem dG_init_18 : decode cG_init 18 = .ok (.bipush 14, 2) := by decide +kernel
theorem dG_init_20 : decode cG_init 20 = .ok (.newarray .int, 2) := by decide +kernel
theorem dG_init_22 : decode cG_init 22 = .ok (.putfield 19, 3) := by decide +kernel
theorem dG_init_25 : decode cG_init 25 = .ok (.aload_n 0, 1) := by decide +kernel
theorem dG_init_26 : decode cG_init 26 = .ok (.bipush 9, 2) := by decide +kernel
theorem dG_init_28 : decode cG_init 28 = .ok (.newarray .int, 2) := by decide +kernel
theorem dG_init_30 : decode cG_init 30 = .ok (.putfield 22, 3) := by decide +kernel
theorem dG_init_33 : decode cG_init 33 = .ok (.return_, 1) := by decide +kernel
theorem dG_clear_0 : decode cG_clear 0 = .ok (.aload_n 0, 1) := by decide +kernel
theorem dG_clear_1 : decode cG_clear 1 = .ok (.iload_n 1, 1) := by decide +kernel
theorem dG_clear_2 : decode cG_clear 2 = .ok (.putfield 9, 3) := by decide +kernel
theorem dG_clear_5 : decode cG_clear 5 = .ok (.aload_n 0, 1) := by decide +kernel
theorem dG_clear_6 : decode cG_clear 6 = .ok (.iconst 0, 1) := by decide +kernel
theorem dG_clear_7 : decode cG_clear 7 = .ok (.putfield 25, 3) := by decide +kernel
theorem dG_clear_10 : decode cG_clear 10 = .ok (.iconst 0, 1) := by decide +kernel
theorem dG_clear_11 : decode cG_clear 11 = .ok (.istore_n 2, 1) := by decide +kernel
theorem dG_clear_12 : decode cG_clear 12 = .ok (.iload_n 2, 1) := by decide +kernel
theorem dG_clear_13 : decode cG_clear 13 = .ok (.bipush 9, 2) := by decide +kernel
theorem dG_clear_15 : decode cG_clear 15 = .ok (.if_icmp .ge 16, 3) := by decide +kernel
theorem dG_clear_18 : decode cG_clear 18 = .ok (.aload_n 0, 1) := by decide +kernel
theorem dG_clear_19 : decode cG_clear 19 = .ok (.getfield 22, 3) := by decide +kernel
theorem dG_clear_22 : decode cG_clear 22 = .ok (.iload_n 2, 1) := by decide +kernel
theorem dG_clear_23 : decode cG_clear 23 = .ok (.iconst 0, 1) := by decide +kernel
theorem dG_clear_24 : decode cG_clear 24 = .ok (.iastore, 1) := by decide +kernel
theorem dG_clear_25 : decode cG_clear 25 = .ok (.iinc 2 1, 3) := by decide +kernel
theorem dG_clear_28 : decode cG_clear 28 = .ok (.goto (-16), 3) := by decide +kernel
theorem dG_clear_31 : decode cG_clear 31 = .ok (.return_, 1) := by decide +kernel
theorem dG_hasVertex_0 : decode cG_hasVertex 0 = .ok (.iload_n 1, 1) := by decide +kernel
theorem dG_hasVertex_1 : decode cG_hasVertex 1 = .ok (.ifCond .lt 15, 3) := by decide +kernel
theorem dG_hasVertex_4 : decode cG_hasVertex 4 = .ok (.iload_n 1, 1) := by decide +kernel
theorem dG_hasVertex_5 : decode cG_hasVertex 5 = .ok (.aload_n 0, 1) := by decide +kernel
theorem dG_hasVertex_6 : decode cG_hasVertex 6 = .ok (.getfield 9, 3) := by decide +kernel
theorem dG_hasVertex_9 : decode cG_hasVertex 9 = .ok (.if_icmp .ge 7, 3) := by decide +kernel
theorem dG_hasVertex_12 : decode cG_hasVertex 12 = .ok (.iconst 1, 1) := by decide +kernel
theorem dG_hasVertex_13 : decode cG_hasVertex 13 = .ok (.goto 4, 3) := by decide +kernel
theorem dG_hasVertex_16 : decode cG_hasVertex 16 = .ok (.iconst 0, 1) := by decide +kernel
theorem dG_hasVertex_17 : decode cG_hasVertex 17 = .ok (.ireturn, 1) := by decide +kernel
theorem dG_hasEdge_0 : decode cG_hasEdge 0 = .ok (.iload_n 1, 1) := by decide +kernel
theorem dG_hasEdge_1 : decode cG_hasEdge 1 = .ok (.ifCond .lt 15, 3) := by decide +kernel
theorem dG_hasEdge_4 : decode cG_hasEdge 4 = .ok (.iload_n 1, 1) := by decide +kernel
theorem dG_hasEdge_5 : decode cG_hasEdge 5 = .ok (.aload_n 0, 1) := by decide +kernel
theorem dG_hasEdge_6 : decode cG_hasEdge 6 = .ok (.getfield 25, 3) := by decide +kernel
theorem dG_hasEdge_9 : decode cG_hasEdge 9 = .ok (.if_icmp .ge 7, 3) := by decide +kernel
theorem dG_hasEdge_12 : decode cG_hasEdge 12 = .ok (.iconst 1, 1) := by decide +kernel
theorem dG_hasEdge_13 : decode cG_hasEdge 13 = .ok (.goto 4, 3) := by decide +kernel
theorem dG_hasEdge_16 : decode cG_hasEdge 16 = .ok (.iconst 0, 1) := by decide +kernel
theorem dG_hasEdge_17 : decode cG_hasEdge 17 = .ok (.ireturn, 1) := by decide +kernel
theorem dG_append_0 : decode cG_append 0 = .ok (.aload_n 0, 1) := by decide +kernel
theorem dG_append_1 : decode cG_append 1 = .ok (.getfield 15, 3) := by decide +kernel
theorem dG_append_4 : decode cG_append 4 = .ok (.aload_n 0, 1) := by decide +kernel
theorem dG_append_5 : decode cG_append 5 = .ok (.getfield 25, 3) := by decide +kernel
theorem dG_append_8 : decode cG_append 8 = .ok (.iload_n 1, 1) := by decide +kernel
theorem dG_append_9 : decode cG_append 9 = .ok (.iastore, 1) := by decide +kernel
theorem dG_append_10 : decode cG_append 10 = .ok (.aload_n 0, 1) := by decide +kernel
theorem dG_append_11 : decode cG_append 11 = .ok (.getfield 19, 3) := by decide +kernel
theorem dG_append_14 : decode cG_append 14 = .ok (.aload_n 0, 1) := by decide +kernel
theorem dG_append_15 : decode cG_append 15 = .ok (.getfield 25, 3) := by decide +kernel
theorem dG_append_18 : decode cG_append 18 = .ok (.iload_n 2, 1) := by decide +kernel
theorem dG_append_19 : decode cG_append 19 = .ok (.iastore, 1) := by decide +kernel
theorem dG_append_20 : decode cG_append 20 = .ok (.aload_n 0, 1) := by decide +kernel
theorem dG_append_21 : decode cG_append 21 = .ok (.dup, 1) := by decide +kernel
theorem dG_append_22 : decode cG_append 22 = .ok (.getfield 25, 3) := by decide +kernel
theorem dG_append_25 : decode cG_append 25 = .ok (.iconst 1, 1) := by decide +kernel
theorem dG_append_26 : decode cG_append 26 = .ok (.iadd, 1) := by decide +kernel
theorem dG_append_27 : decode cG_append 27 = .ok (.putfield 25, 3) := by decide +kernel
theorem dG_append_30 : decode cG_append 30 = .ok (.return_, 1) := by decide +kernel
theorem dG_remove_0 : decode cG_remove 0 = .ok (.aload_n 0, 1) := by decide +kernel
theorem dG_remove_1 : decode cG_remove 1 = .ok (.dup, 1) := by decide +kernel
theorem dG_remove_2 : decode cG_remove 2 = .ok (.getfield 25, 3) := by decide +kernel
theorem dG_remove_5 : decode cG_remove 5 = .ok (.iconst 1, 1) := by decide +kernel
theorem dG_remove_6 : decode cG_remove 6 = .ok (.isub, 1) := by decide +kernel
theorem dG_remove_7 : decode cG_remove 7 = .ok (.putfield 25, 3) := by decide +kernel
theorem dG_remove_10 : decode cG_remove 10 = .ok (.iload_n 1, 1) := by decide +kernel
theorem dG_remove_11 : decode cG_remove 11 = .ok (.istore_n 2, 1) := by decide +kernel
theorem dG_remove_12 : decode cG_remove 12 = .ok (.iload_n 2, 1) := by decide +kernel
theorem dG_remove_13 : decode cG_remove 13 = .ok (.aload_n 0, 1) := by decide +kernel
theorem dG_remove_14 : decode cG_remove 14 = .ok (.getfield 25, 3) := by decide +kernel
theorem dG_remove_17 : decode cG_remove 17 = .ok (.if_icmp .ge 37, 3) := by decide +kernel
theorem dG_remove_20 : decode cG_remove 20 = .ok (.aload_n 0, 1) := by decide +kernel
theorem dG_remove_21 : decode cG_remove 21 = .ok (.getfield 15, 3) := by decide +kernel
theorem dG_remove_24 : decode cG_remove 24 = .ok (.iload_n 2, 1) := by decide +kernel
theorem dG_remove_25 : decode cG_remove 25 = .ok (.aload_n 0, 1) := by decide +kernel
theorem dG_remove_26 : decode cG_remove 26 = .ok (.getfield 15, 3) := by decide +kernel
theorem dG_remove_29 : decode cG_remove 29 = .ok (.iload_n 2, 1) := by decide +kernel
theorem dG_remove_30 : decode cG_remove 30 = .ok (.iconst 1, 1) := by decide +kernel
theorem dG_remove_31 : decode cG_remove 31 = .ok (.iadd, 1) := by decide +kernel
theorem dG_remove_32 : decode cG_remove 32 = .ok (.iaload, 1) := by decide +kernel
theorem dG_remove_33 : decode cG_remove 33 = .ok (.iastore, 1) := by decide +kernel
theorem dG_remove_34 : decode cG_remove 34 = .ok (.aload_n 0, 1) := by decide +kernel
theorem dG_remove_35 : decode cG_remove 35 = .ok (.getfield 19, 3) := by decide +kernel
theorem dG_remove_38 : decode cG_remove 38 = .ok (.iload_n 2, 1) := by decide +kernel
theorem dG_remove_39 : decode cG_remove 39 = .ok (.aload_n 0, 1) := by decide +kernel
theorem dG_remove_40 : decode cG_remove 40 = .ok (.getfield 19, 3) := by decide +kernel
theorem dG_remove_43 : decode cG_remove 43 = .ok (.iload_n 2, 1) := by decide +kernel
theorem dG_remove_44 : decode cG_remove 44 = .ok (.iconst 1, 1) := by decide +kernel
theorem dG_remove_45 : decode cG_remove 45 = .ok (.iadd, 1) := by decide +kernel
theorem dG_remove_46 : decode cG_remove 46 = .ok (.iaload, 1) := by decide +kernel
theorem dG_remove_47 : decode cG_remove 47 = .ok (.iastore, 1) := by decide +kernel
theorem dG_remove_48 : decode cG_remove 48 = .ok (.iinc 2 1, 3) := by decide +kernel
theorem dG_remove_51 : decode cG_remove 51 = .ok (.goto (-39), 3) := by decide +kernel
theorem dG_remove_54 : decode cG_remove 54 = .ok (.return_, 1) := by decide +kernel
theorem dG_degree_0 : decode cG_degree 0 = .ok (.iconst 0, 1) := by decide +kernel
theorem dG_degree_1 : decode cG_degree 1 = .ok (.istore_n 3, 1) := by decide +kernel
theorem dG_degree_2 : decode cG_degree 2 = .ok (.iconst 0, 1) := by decide +kernel
theorem dG_degree_3 : decode cG_degree 3 = .ok (.istore 4, 2) := by decide +kernel
theorem dG_degree_5 : decode cG_degree 5 = .ok (.iload 4, 2) := by decide +kernel
theorem dG_degree_7 : decode cG_degree 7 = .ok (.aload_n 0, 1) := by decide +kernel
theorem dG_degree_8 : decode cG_degree 8 = .ok (.getfield 25, 3) := by decide +kernel
theorem dG_degree_11 : decode cG_degree 11 = .ok (.if_icmp .ge 44, 3) := by decide +kernel
theorem dG_degree_14 : decode cG_degree 14 = .ok (.iload_n 2, 1) := by decide +kernel
theorem dG_degree_15 : decode cG_degree 15 = .ok (.iload 4, 2) := by decide +kernel
theorem dG_degree_17 : decode cG_degree 17 = .ok (.ishr, 1) := by decide +kernel
theorem dG_degree_18 : decode cG_degree 18 = .ok (.iconst 1, 1) := by decide +kernel
theorem dG_degree_19 : decode cG_degree 19 = .ok (.iand, 1) := by decide +kernel
theorem dG_degree_20 : decode cG_degree 20 = .ok (.iconst 1, 1) := by decide +kernel
theorem dG_degree_21 : decode cG_degree 21 = .ok (.if_icmp .ne 28, 3) := by decide +kernel
theorem dG_degree_24 : decode cG_degree 24 = .ok (.aload_n 0, 1) := by decide +kernel
theorem dG_degree_25 : decode cG_degree 25 = .ok (.getfield 15, 3) := by decide +kernel
theorem dG_degree_28 : decode cG_degree 28 = .ok (.iload 4, 2) := by decide +kernel
theorem dG_degree_30 : decode cG_degree 30 = .ok (.iaload, 1) := by decide +kernel
theorem dG_degree_31 : decode cG_degree 31 = .ok (.iload_n 1, 1) := by decide +kernel
theorem dG_degree_32 : decode cG_degree 32 = .ok (.if_icmp .eq 14, 3) := by decide +kernel
theorem dG_degree_35 : decode cG_degree 35 = .ok (.aload_n 0, 1) := by decide +kernel
theorem dG_degree_36 : decode cG_degree 36 = .ok (.getfield 19, 3) := by decide +kernel
theorem dG_degree_39 : decode cG_degree 39 = .ok (.iload 4, 2) := by decide +kernel
theorem dG_degree_41 : decode cG_degree 41 = .ok (.iaload, 1) := by decide +kernel
theorem dG_degree_42 : decode cG_degree 42 = .ok (.iload_n 1, 1) := by decide +kernel
theorem dG_degree_43 : decode cG_degree 43 = .ok (.if_icmp .ne 6, 3) := by decide +kernel
theorem dG_degree_46 : decode cG_degree 46 = .ok (.iinc 3 1, 3) := by decide +kernel
theorem dG_degree_49 : decode cG_degree 49 = .ok (.iinc 4 1, 3) := by decide +kernel
theorem dG_degree_52 : decode cG_degree 52 = .ok (.goto (-47), 3) := by decide +kernel
theorem dG_degree_55 : decode cG_degree 55 = .ok (.iload_n 3, 1) := by decide +kernel
theorem dG_degree_56 : decode cG_degree 56 = .ok (.ireturn, 1) := by decide +kernel
theorem dG_wantedByAll_0 : decode cG_wantedByAll 0 = .ok (.iconst 0, 1) := by decide +kernel
theorem dG_wantedByAll_1 : decode cG_wantedByAll 1 = .ok (.istore_n 1, 1) := by decide +kernel
theorem dG_wantedByAll_2 : decode cG_wantedByAll 2 = .ok (.iconst 0, 1) := by decide +kernel
theorem dG_wantedByAll_3 : decode cG_wantedByAll 3 = .ok (.istore_n 2, 1) := by decide +kernel
theorem dG_wantedByAll_4 : decode cG_wantedByAll 4 = .ok (.iload_n 2, 1) := by decide +kernel
theorem dG_wantedByAll_5 : decode cG_wantedByAll 5 = .ok (.aload_n 0, 1) := by decide +kernel
theorem dG_wantedByAll_6 : decode cG_wantedByAll 6 = .ok (.getfield 9, 3) := by decide +kernel
theorem dG_wantedByAll_9 : decode cG_wantedByAll 9 = .ok (.if_icmp .ge 18, 3) := by decide +kernel
theorem dG_wantedByAll_12 : decode cG_wantedByAll 12 = .ok (.iload_n 1, 1) := by decide +kernel
theorem dG_wantedByAll_13 : decode cG_wantedByAll 13 = .ok (.aload_n 0, 1) := by decide +kernel
theorem dG_wantedByAll_14 : decode cG_wantedByAll 14 = .ok (.getfield 22, 3) := by decide +kernel
theorem dG_wantedByAll_17 : decode cG_wantedByAll 17 = .ok (.iload_n 2, 1) := by decide +kernel
theorem dG_wantedByAll_18 : decode cG_wantedByAll 18 = .ok (.iaload, 1) := by decide +kernel
theorem dG_wantedByAll_19 : decode cG_wantedByAll 19 = .ok (.iadd, 1) := by decide +kernel
theorem dG_wantedByAll_20 : decode cG_wantedByAll 20 = .ok (.istore_n 1, 1) := by decide +kernel
theorem dG_wantedByAll_21 : decode cG_wantedByAll 21 = .ok (.iinc 2 1, 3) := by decide +kernel
theorem dG_wantedByAll_24 : decode cG_wantedByAll 24 = .ok (.goto (-20), 3) := by decide +kernel
theorem dG_wantedByAll_27 : decode cG_wantedByAll 27 = .ok (.iload_n 1, 1) := by decide +kernel
theorem dG_wantedByAll_28 : decode cG_wantedByAll 28 = .ok (.ireturn, 1) := by decide +kernel
end
section
theorem dS_init_0 : decode cS_init 0 = .ok (.aload_n 0, 1) := by decide +kernel
theorem dS_init_1 : decode cS_init 1 = .ok (.invokespecial 3, 3) := by decide +kernel
theorem dS_init_4 : decode cS_init 4 = .ok (.aload_n 0, 1) := by decide +kernel
theorem dS_init_5 : decode cS_init 5 = .ok (.bipush 14, 2) := by decide +kernel
theorem dS_init_7 : decode cS_init 7 = .ok (.newarray .int, 2) := by decide +kernel
theorem dS_init_9 : decode cS_init 9 = .ok (.putfield 9, 3) := by decide +kernel
theorem dS_init_12 : decode cS_init 12 = .ok (.aload_n 0, 1) := by decide +kernel
theorem dS_init_13 : decode cS_init 13 = .ok (.bipush 14, 2) := by decide +kernel
theorem dS_init_15 : decode cS_init 15 = .ok (.newarray .int, 2) := by decide +kernel
theorem dS_init_17 : decode cS_init 17 = .ok (.putfield 15, 3) := by decide +kernel
theorem dS_init_20 : decode cS_init 20 = .ok (.aload_n 0, 1) := by decide +kernel
theorem dS_init_21 : decode cS_init 21 = .ok (.bipush 14, 2) := by decide +kernel
theorem dS_init_23 : decode cS_init 23 = .ok (.newarray .int, 2) := by decide +kernel
theorem dS_init_25 : decode cS_init 25 = .ok (.putfield 18, 3) := by decide +kernel
theorem dS_init_28 : decode cS_init 28 = .ok (.aload_n 0, 1) := by decide +kernel
theorem dS_init_29 : decode cS_init 29 = .ok (.bipush 9, 2) := by decide +kernel
theorem dS_init_31 : decode cS_init 31 = .ok (.newarray .int, 2) := by decide +kernel
theorem dS_init_33 : decode cS_init 33 = .ok (.putfield 21, 3) := by decide +kernel
theorem dS_init_36 : decode cS_init 36 = .ok (.aload_n 0, 1) := by decide +kernel
theorem dS_init_37 : decode cS_init 37 = .ok (.bipush 9, 2) := by decide +kernel
theorem dS_init_39 : decode cS_init 39 = .ok (.newarray .int, 2) := by decide +kernel
theorem dS_init_41 : decode cS_init 41 = .ok (.putfield 24, 3) := by decide +kernel
theorem dS_init_44 : decode cS_init 44 = .ok (.return_, 1) := by decide +kernel
theorem dS_load_0 : decode cS_load 0 = .ok (.aload_n 0, 1) := by decide +kernel
theorem dS_load_1 : decode cS_load 1 = .ok (.iconst 0, 1) := by decide +kernel
theorem dS_load_2 : decode cS_load 2 = .ok (.putfield 27, 3) := by decide +kernel
theorem dS_load_5 : decode cS_load 5 = .ok (.iconst 0, 1) := by decide +kernel
theorem dS_load_6 : decode cS_load 6 = .ok (.istore_n 3, 1) := by decide +kernel
theorem dS_load_7 : decode cS_load 7 = .ok (.iload_n 3, 1) := by decide +kernel
theorem dS_load_8 : decode cS_load 8 = .ok (.bipush 9, 2) := by decide +kernel
theorem dS_load_10 : decode cS_load 10 = .ok (.if_icmp .ge 28, 3) := by decide +kernel
theorem dS_load_13 : decode cS_load 13 = .ok (.aload_n 0, 1) := by decide +kernel
theorem dS_load_14 : decode cS_load 14 = .ok (.getfield 21, 3) := by decide +kernel
theorem dS_load_17 : decode cS_load 17 = .ok (.iload_n 3, 1) := by decide +kernel
theorem dS_load_18 : decode cS_load 18 = .ok (.aload_n 1, 1) := by decide +kernel
theorem dS_load_19 : decode cS_load 19 = .ok (.getfield 31, 3) := by decide +kernel
theorem dS_load_22 : decode cS_load 22 = .ok (.iload_n 3, 1) := by decide +kernel
theorem dS_load_23 : decode cS_load 23 = .ok (.iaload, 1) := by decide +kernel
theorem dS_load_24 : decode cS_load 24 = .ok (.iastore, 1) := by decide +kernel
theorem dS_load_25 : decode cS_load 25 = .ok (.aload_n 0, 1) := by decide +kernel
theorem dS_load_26 : decode cS_load 26 = .ok (.getfield 24, 3) := by decide +kernel
theorem dS_load_29 : decode cS_load 29 = .ok (.iload_n 3, 1) := by decide +kernel
theorem dS_load_30 : decode cS_load 30 = .ok (.iconst 0, 1) := by decide +kernel
theorem dS_load_31 : decode cS_load 31 = .ok (.iastore, 1) := by decide +kernel
theorem dS_load_32 : decode cS_load 32 = .ok (.iinc 3 1, 3) := by decide +kernel
theorem dS_load_35 : decode cS_load 35 = .ok (.goto (-28), 3) := by decide +kernel
theorem dS_load_38 : decode cS_load 38 = .ok (.iconst 0, 1) := by decide +kernel
theorem dS_load_39 : decode cS_load 39 = .ok (.istore_n 3, 1) := by decide +kernel
theorem dS_load_40 : decode cS_load 40 = .ok (.iload_n 3, 1) := by decide +kernel
theorem dS_load_41 : decode cS_load 41 = .ok (.aload_n 1, 1) := by decide +kernel
theorem dS_load_42 : decode cS_load 42 = .ok (.getfield 36, 3) := by decide +kernel
theorem dS_load_45 : decode cS_load 45 = .ok (.if_icmp .ge 48, 3) := by decide +kernel
theorem dS_load_48 : decode cS_load 48 = .ok (.iload_n 3, 1) := by decide +kernel
theorem dS_load_49 : decode cS_load 49 = .ok (.iload_n 2, 1) := by decide +kernel
theorem dS_load_50 : decode cS_load 50 = .ok (.if_icmp .eq 37, 3) := by decide +kernel
theorem dS_load_53 : decode cS_load 53 = .ok (.aload_n 0, 1) := by decide +kernel
theorem dS_load_54 : decode cS_load 54 = .ok (.aload_n 1, 1) := by decide +kernel
theorem dS_load_55 : decode cS_load 55 = .ok (.getfield 39, 3) := by decide +kernel
theorem dS_load_58 : decode cS_load 58 = .ok (.iload_n 3, 1) := by decide +kernel
theorem dS_load_59 : decode cS_load 59 = .ok (.iaload, 1) := by decide +kernel
theorem dS_load_60 : decode cS_load 60 = .ok (.aload_n 1, 1) := by decide +kernel
theorem dS_load_61 : decode cS_load 61 = .ok (.getfield 42, 3) := by decide +kernel
theorem dS_load_64 : decode cS_load 64 = .ok (.iload_n 3, 1) := by decide +kernel
theorem dS_load_65 : decode cS_load 65 = .ok (.iaload, 1) := by decide +kernel
theorem dS_load_66 : decode cS_load 66 = .ok (.invokestatic 45, 3) := by decide +kernel
theorem dS_load_69 : decode cS_load 69 = .ok (.aload_n 1, 1) := by decide +kernel
theorem dS_load_70 : decode cS_load 70 = .ok (.getfield 39, 3) := by decide +kernel
theorem dS_load_73 : decode cS_load 73 = .ok (.iload_n 3, 1) := by decide +kernel
theorem dS_load_74 : decode cS_load 74 = .ok (.iaload, 1) := by decide +kernel
theorem dS_load_75 : decode cS_load 75 = .ok (.aload_n 1, 1) := by decide +kernel
theorem dS_load_76 : decode cS_load 76 = .ok (.getfield 42, 3) := by decide +kernel
theorem dS_load_79 : decode cS_load 79 = .ok (.iload_n 3, 1) := by decide +kernel
theorem dS_load_80 : decode cS_load 80 = .ok (.iaload, 1) := by decide +kernel
theorem dS_load_81 : decode cS_load 81 = .ok (.invokestatic 51, 3) := by decide +kernel
theorem dS_load_84 : decode cS_load 84 = .ok (.invokevirtual 54, 3) := by decide +kernel
theorem dS_load_87 : decode cS_load 87 = .ok (.iinc 3 1, 3) := by decide +kernel
theorem dS_load_90 : decode cS_load 90 = .ok (.goto (-50), 3) := by decide +kernel
theorem dS_load_93 : decode cS_load 93 = .ok (.return_, 1) := by decide +kernel
theorem dS_take_0 : decode cS_take 0 = .ok (.aload_n 0, 1) := by decide +kernel
theorem dS_take_1 : decode cS_take 1 = .ok (.getfield 18, 3) := by decide +kernel
theorem dS_take_4 : decode cS_take 4 = .ok (.aload_n 0, 1) := by decide +kernel
theorem dS_take_5 : decode cS_take 5 = .ok (.getfield 27, 3) := by decide +kernel
theorem dS_take_8 : decode cS_take 8 = .ok (.iconst (-1), 1) := by decide +kernel
theorem dS_take_9 : decode cS_take 9 = .ok (.iastore, 1) := by decide +kernel
theorem dS_take_10 : decode cS_take 10 = .ok (.iconst 0, 1) := by decide +kernel
theorem dS_take_11 : decode cS_take 11 = .ok (.istore_n 3, 1) := by decide +kernel
theorem dS_take_12 : decode cS_take 12 = .ok (.iload_n 3, 1) := by decide +kernel
theorem dS_take_13 : decode cS_take 13 = .ok (.aload_n 0, 1) := by decide +kernel
theorem dS_take_14 : decode cS_take 14 = .ok (.getfield 27, 3) := by decide +kernel
theorem dS_take_17 : decode cS_take 17 = .ok (.if_icmp .ge 39, 3) := by decide +kernel
theorem dS_take_20 : decode cS_take 20 = .ok (.aload_n 0, 1) := by decide +kernel
theorem dS_take_21 : decode cS_take 21 = .ok (.getfield 9, 3) := by decide +kernel
theorem dS_take_24 : decode cS_take 24 = .ok (.iload_n 3, 1) := by decide +kernel
theorem dS_take_25 : decode cS_take 25 = .ok (.iaload, 1) := by decide +kernel
theorem dS_take_26 : decode cS_take 26 = .ok (.iload_n 1, 1) := by decide +kernel
theorem dS_take_27 : decode cS_take 27 = .ok (.if_icmp .ne 23, 3) := by decide +kernel
theorem dS_take_30 : decode cS_take 30 = .ok (.aload_n 0, 1) := by decide +kernel
theorem dS_take_31 : decode cS_take 31 = .ok (.getfield 15, 3) := by decide +kernel
theorem dS_take_34 : decode cS_take 34 = .ok (.iload_n 3, 1) := by decide +kernel
theorem dS_take_35 : decode cS_take 35 = .ok (.iaload, 1) := by decide +kernel
theorem dS_take_36 : decode cS_take 36 = .ok (.iload_n 2, 1) := by decide +kernel
theorem dS_take_37 : decode cS_take 37 = .ok (.if_icmp .ne 13, 3) := by decide +kernel
theorem dS_take_40 : decode cS_take 40 = .ok (.aload_n 0, 1) := by decide +kernel
theorem dS_take_41 : decode cS_take 41 = .ok (.getfield 18, 3) := by decide +kernel
theorem dS_take_44 : decode cS_take 44 = .ok (.aload_n 0, 1) := by decide +kernel
theorem dS_take_45 : decode cS_take 45 = .ok (.getfield 27, 3) := by decide +kernel
theorem dS_take_48 : decode cS_take 48 = .ok (.iload_n 3, 1) := by decide +kernel
theorem dS_take_49 : decode cS_take 49 = .ok (.iastore, 1) := by decide +kernel
theorem dS_take_50 : decode cS_take 50 = .ok (.iinc 3 1, 3) := by decide +kernel
theorem dS_take_53 : decode cS_take 53 = .ok (.goto (-41), 3) := by decide +kernel
theorem dS_take_56 : decode cS_take 56 = .ok (.aload_n 0, 1) := by decide +kernel
theorem dS_take_57 : decode cS_take 57 = .ok (.getfield 9, 3) := by decide +kernel
theorem dS_take_60 : decode cS_take 60 = .ok (.aload_n 0, 1) := by decide +kernel
theorem dS_take_61 : decode cS_take 61 = .ok (.getfield 27, 3) := by decide +kernel
theorem dS_take_64 : decode cS_take 64 = .ok (.iload_n 1, 1) := by decide +kernel
theorem dS_take_65 : decode cS_take 65 = .ok (.iastore, 1) := by decide +kernel
theorem dS_take_66 : decode cS_take 66 = .ok (.aload_n 0, 1) := by decide +kernel
theorem dS_take_67 : decode cS_take 67 = .ok (.getfield 15, 3) := by decide +kernel
theorem dS_take_70 : decode cS_take 70 = .ok (.aload_n 0, 1) := by decide +kernel
theorem dS_take_71 : decode cS_take 71 = .ok (.getfield 27, 3) := by decide +kernel
theorem dS_take_74 : decode cS_take 74 = .ok (.iload_n 2, 1) := by decide +kernel
theorem dS_take_75 : decode cS_take 75 = .ok (.iastore, 1) := by decide +kernel
theorem dS_take_76 : decode cS_take 76 = .ok (.aload_n 0, 1) := by decide +kernel
theorem dS_take_77 : decode cS_take 77 = .ok (.getfield 24, 3) := by decide +kernel
theorem dS_take_80 : decode cS_take 80 = .ok (.iload_n 1, 1) := by decide +kernel
theorem dS_take_81 : decode cS_take 81 = .ok (.dup2, 1) := by decide +kernel
theorem dS_take_82 : decode cS_take 82 = .ok (.iaload, 1) := by decide +kernel
theorem dS_take_83 : decode cS_take 83 = .ok (.iconst 1, 1) := by decide +kernel
theorem dS_take_84 : decode cS_take 84 = .ok (.iadd, 1) := by decide +kernel
theorem dS_take_85 : decode cS_take 85 = .ok (.iastore, 1) := by decide +kernel
theorem dS_take_86 : decode cS_take 86 = .ok (.aload_n 0, 1) := by decide +kernel
theorem dS_take_87 : decode cS_take 87 = .ok (.getfield 24, 3) := by decide +kernel
theorem dS_take_90 : decode cS_take 90 = .ok (.iload_n 2, 1) := by decide +kernel
theorem dS_take_91 : decode cS_take 91 = .ok (.dup2, 1) := by decide +kernel
theorem dS_take_92 : decode cS_take 92 = .ok (.iaload, 1) := by decide +kernel
theorem dS_take_93 : decode cS_take 93 = .ok (.iconst 1, 1) := by decide +kernel
theorem dS_take_94 : decode cS_take 94 = .ok (.iadd, 1) := by decide +kernel
theorem dS_take_95 : decode cS_take 95 = .ok (.iastore, 1) := by decide +kernel
theorem dS_take_96 : decode cS_take 96 = .ok (.aload_n 0, 1) := by decide +kernel
theorem dS_take_97 : decode cS_take 97 = .ok (.dup, 1) := by decide +kernel
theorem dS_take_98 : decode cS_take 98 = .ok (.getfield 27, 3) := by decide +kernel
theorem dS_take_101 : decode cS_take 101 = .ok (.iconst 1, 1) := by decide +kernel
theorem dS_take_102 : decode cS_take 102 = .ok (.iadd, 1) := by decide +kernel
theorem dS_take_103 : decode cS_take 103 = .ok (.putfield 27, 3) := by decide +kernel
theorem dS_take_106 : decode cS_take 106 = .ok (.return_, 1) := by decide +kernel
theorem dS_lend_0 : decode cS_lend 0 = .ok (.aload_n 0, 1) := by decide +kernel
theorem dS_lend_1 : decode cS_lend 1 = .ok (.getfield 21, 3) := by decide +kernel
theorem dS_lend_4 : decode cS_lend 4 = .ok (.iload_n 1, 1) := by decide +kernel
theorem dS_lend_5 : decode cS_lend 5 = .ok (.dup2, 1) := by decide +kernel
theorem dS_lend_6 : decode cS_lend 6 = .ok (.iaload, 1) := by decide +kernel
theorem dS_lend_7 : decode cS_lend 7 = .ok (.iconst 1, 1) := by decide +kernel
theorem dS_lend_8 : decode cS_lend 8 = .ok (.isub, 1) := by decide +kernel
theorem dS_lend_9 : decode cS_lend 9 = .ok (.iastore, 1) := by decide +kernel
theorem dS_lend_10 : decode cS_lend 10 = .ok (.aload_n 0, 1) := by decide +kernel
theorem dS_lend_11 : decode cS_lend 11 = .ok (.getfield 21, 3) := by decide +kernel
theorem dS_lend_14 : decode cS_lend 14 = .ok (.iload_n 1, 1) := by decide +kernel
theorem dS_lend_15 : decode cS_lend 15 = .ok (.iaload, 1) := by decide +kernel
theorem dS_lend_16 : decode cS_lend 16 = .ok (.ifCond .lt 7, 3) := by decide +kernel
theorem dS_lend_19 : decode cS_lend 19 = .ok (.iconst 1, 1) := by decide +kernel
theorem dS_lend_20 : decode cS_lend 20 = .ok (.goto 4, 3) := by decide +kernel
theorem dS_lend_23 : decode cS_lend 23 = .ok (.iconst 0, 1) := by decide +kernel
theorem dS_lend_24 : decode cS_lend 24 = .ok (.ireturn, 1) := by decide +kernel
theorem dS_maximize_0 : decode cS_maximize 0 = .ok (.aload_n 0, 1) := by decide +kernel
theorem dS_maximize_1 : decode cS_maximize 1 = .ok (.iconst 0, 1) := by decide +kernel
theorem dS_maximize_2 : decode cS_maximize 2 = .ok (.putfield 58, 3) := by decide +kernel
theorem dS_maximize_5 : decode cS_maximize 5 = .ok (.aload_n 0, 1) := by decide +kernel
theorem dS_maximize_6 : decode cS_maximize 6 = .ok (.iconst 0, 1) := by decide +kernel
theorem dS_maximize_7 : decode cS_maximize 7 = .ok (.putfield 61, 3) := by decide +kernel
theorem dS_maximize_10 : decode cS_maximize 10 = .ok (.aload_n 0, 1) := by decide +kernel
theorem dS_maximize_11 : decode cS_maximize 11 = .ok (.aload_n 0, 1) := by decide +kernel
theorem dS_maximize_12 : decode cS_maximize 12 = .ok (.getfield 27, 3) := by decide +kernel
theorem dS_maximize_15 : decode cS_maximize 15 = .ok (.putfield 64, 3) := by decide +kernel
theorem dS_maximize_18 : decode cS_maximize 18 = .ok (.aload_n 0, 1) := by decide +kernel
theorem dS_maximize_19 : decode cS_maximize 19 = .ok (.iconst 0, 1) := by decide +kernel
theorem dS_maximize_20 : decode cS_maximize 20 = .ok (.iconst 0, 1) := by decide +kernel
theorem dS_maximize_21 : decode cS_maximize 21 = .ok (.iconst 0, 1) := by decide +kernel
theorem dS_maximize_22 : decode cS_maximize 22 = .ok (.invokestatic 67, 3) := by decide +kernel
theorem dS_maximize_25 : decode cS_maximize 25 = .ok (.return_, 1) := by decide +kernel
theorem dS_reaches_0 : decode cS_reaches 0 = .ok (.aload_n 0, 1) := by decide +kernel
theorem dS_reaches_1 : decode cS_reaches 1 = .ok (.iconst 0, 1) := by decide +kernel
theorem dS_reaches_2 : decode cS_reaches 2 = .ok (.putfield 58, 3) := by decide +kernel
theorem dS_reaches_5 : decode cS_reaches 5 = .ok (.aload_n 0, 1) := by decide +kernel
theorem dS_reaches_6 : decode cS_reaches 6 = .ok (.iload_n 1, 1) := by decide +kernel
theorem dS_reaches_7 : decode cS_reaches 7 = .ok (.iconst 1, 1) := by decide +kernel
theorem dS_reaches_8 : decode cS_reaches 8 = .ok (.isub, 1) := by decide +kernel
theorem dS_reaches_9 : decode cS_reaches 9 = .ok (.putfield 61, 3) := by decide +kernel
theorem dS_reaches_12 : decode cS_reaches 12 = .ok (.aload_n 0, 1) := by decide +kernel
theorem dS_reaches_13 : decode cS_reaches 13 = .ok (.iload_n 1, 1) := by decide +kernel
theorem dS_reaches_14 : decode cS_reaches 14 = .ok (.putfield 64, 3) := by decide +kernel
theorem dS_reaches_17 : decode cS_reaches 17 = .ok (.aload_n 0, 1) := by decide +kernel
theorem dS_reaches_18 : decode cS_reaches 18 = .ok (.iconst 0, 1) := by decide +kernel
theorem dS_reaches_19 : decode cS_reaches 19 = .ok (.iconst 0, 1) := by decide +kernel
theorem dS_reaches_20 : decode cS_reaches 20 = .ok (.iconst 0, 1) := by decide +kernel
theorem dS_reaches_21 : decode cS_reaches 21 = .ok (.invokestatic 67, 3) := by decide +kernel
theorem dS_reaches_24 : decode cS_reaches 24 = .ok (.aload_n 0, 1) := by decide +kernel
theorem dS_reaches_25 : decode cS_reaches 25 = .ok (.getfield 61, 3) := by decide +kernel
theorem dS_reaches_28 : decode cS_reaches 28 = .ok (.iload_n 1, 1) := by decide +kernel
theorem dS_reaches_29 : decode cS_reaches 29 = .ok (.if_icmp .lt 7, 3) := by decide +kernel
theorem dS_reaches_32 : decode cS_reaches 32 = .ok (.iconst 1, 1) := by decide +kernel
theorem dS_reaches_33 : decode cS_reaches 33 = .ok (.goto 4, 3) := by decide +kernel
theorem dS_reaches_36 : decode cS_reaches 36 = .ok (.iconst 0, 1) := by decide +kernel
theorem dS_reaches_37 : decode cS_reaches 37 = .ok (.ireturn, 1) := by decide +kernel
theorem dS_explore_0 : decode cS_explore 0 = .ok (.iload_n 3, 1) := by decide +kernel
theorem dS_explore_1 : decode cS_explore 1 = .ok (.aload_n 0, 1) := by decide +kernel
theorem dS_explore_2 : decode cS_explore 2 = .ok (.getfield 61, 3) := by decide +kernel
theorem dS_explore_5 : decode cS_explore 5 = .ok (.if_icmp .le 13, 3) := by decide +kernel
theorem dS_explore_8 : decode cS_explore 8 = .ok (.aload_n 0, 1) := by decide +kernel
theorem dS_explore_9 : decode cS_explore 9 = .ok (.iload_n 3, 1) := by decide +kernel
theorem dS_explore_10 : decode cS_explore 10 = .ok (.putfield 61, 3) := by decide +kernel
theorem dS_explore_13 : decode cS_explore 13 = .ok (.aload_n 0, 1) := by decide +kernel
theorem dS_explore_14 : decode cS_explore 14 = .ok (.iload_n 2, 1) := by decide +kernel
theorem dS_explore_15 : decode cS_explore 15 = .ok (.putfield 58, 3) := by decide +kernel
theorem dS_explore_18 : decode cS_explore 18 = .ok (.iload_n 1, 1) := by decide +kernel
theorem dS_explore_19 : decode cS_explore 19 = .ok (.aload_n 0, 1) := by decide +kernel
theorem dS_explore_20 : decode cS_explore 20 = .ok (.getfield 27, 3) := by decide +kernel
theorem dS_explore_23 : decode cS_explore 23 = .ok (.if_icmp .ge 27, 3) := by decide +kernel
theorem dS_explore_26 : decode cS_explore 26 = .ok (.aload_n 0, 1) := by decide +kernel
theorem dS_explore_27 : decode cS_explore 27 = .ok (.getfield 61, 3) := by decide +kernel
theorem dS_explore_30 : decode cS_explore 30 = .ok (.aload_n 0, 1) := by decide +kernel
theorem dS_explore_31 : decode cS_explore 31 = .ok (.getfield 64, 3) := by decide +kernel
theorem dS_explore_34 : decode cS_explore 34 = .ok (.if_icmp .ge 16, 3) := by decide +kernel
theorem dS_explore_37 : decode cS_explore 37 = .ok (.iload_n 3, 1) := by decide +kernel
theorem dS_explore_38 : decode cS_explore 38 = .ok (.aload_n 0, 1) := by decide +kernel
theorem dS_explore_39 : decode cS_explore 39 = .ok (.invokevirtual 71, 3) := by decide +kernel
theorem dS_explore_42 : decode cS_explore 42 = .ok (.iadd, 1) := by decide +kernel
theorem dS_explore_43 : decode cS_explore 43 = .ok (.aload_n 0, 1) := by decide +kernel
theorem dS_explore_44 : decode cS_explore 44 = .ok (.getfield 61, 3) := by decide +kernel
theorem dS_explore_47 : decode cS_explore 47 = .ok (.if_icmp .gt 4, 3) := by decide +kernel
theorem dS_explore_50 : decode cS_explore 50 = .ok (.return_, 1) := by decide +kernel
theorem dS_explore_51 : decode cS_explore 51 = .ok (.aload_n 0, 1) := by decide +kernel
theorem dS_explore_52 : decode cS_explore 52 = .ok (.getfield 9, 3) := by decide +kernel
theorem dS_explore_55 : decode cS_explore 55 = .ok (.iload_n 1, 1) := by decide +kernel
theorem dS_explore_56 : decode cS_explore 56 = .ok (.iaload, 1) := by decide +kernel
theorem dS_explore_57 : decode cS_explore 57 = .ok (.istore 4, 2) := by decide +kernel
theorem dS_explore_59 : decode cS_explore 59 = .ok (.aload_n 0, 1) := by decide +kernel
theorem dS_explore_60 : decode cS_explore 60 = .ok (.getfield 15, 3) := by decide +kernel
theorem dS_explore_63 : decode cS_explore 63 = .ok (.iload_n 1, 1) := by decide +kernel
theorem dS_explore_64 : decode cS_explore 64 = .ok (.iaload, 1) := by decide +kernel
theorem dS_explore_65 : decode cS_explore 65 = .ok (.istore 5, 2) := by decide +kernel
theorem dS_explore_67 : decode cS_explore 67 = .ok (.aload_n 0, 1) := by decide +kernel
theorem dS_explore_68 : decode cS_explore 68 = .ok (.getfield 24, 3) := by decide +kernel
theorem dS_explore_71 : decode cS_explore 71 = .ok (.iload 4, 2) := by decide +kernel
theorem dS_explore_73 : decode cS_explore 73 = .ok (.dup2, 1) := by decide +kernel
theorem dS_explore_74 : decode cS_explore 74 = .ok (.iaload, 1) := by decide +kernel
theorem dS_explore_75 : decode cS_explore 75 = .ok (.iconst 1, 1) := by decide +kernel
theorem dS_explore_76 : decode cS_explore 76 = .ok (.isub, 1) := by decide +kernel
theorem dS_explore_77 : decode cS_explore 77 = .ok (.iastore, 1) := by decide +kernel
theorem dS_explore_78 : decode cS_explore 78 = .ok (.aload_n 0, 1) := by decide +kernel
theorem dS_explore_79 : decode cS_explore 79 = .ok (.getfield 24, 3) := by decide +kernel
theorem dS_explore_82 : decode cS_explore 82 = .ok (.iload 5, 2) := by decide +kernel
theorem dS_explore_84 : decode cS_explore 84 = .ok (.dup2, 1) := by decide +kernel
theorem dS_explore_85 : decode cS_explore 85 = .ok (.iaload, 1) := by decide +kernel
theorem dS_explore_86 : decode cS_explore 86 = .ok (.iconst 1, 1) := by decide +kernel
theorem dS_explore_87 : decode cS_explore 87 = .ok (.isub, 1) := by decide +kernel
theorem dS_explore_88 : decode cS_explore 88 = .ok (.iastore, 1) := by decide +kernel
theorem dS_explore_89 : decode cS_explore 89 = .ok (.aload_n 0, 1) := by decide +kernel
theorem dS_explore_90 : decode cS_explore 90 = .ok (.iload_n 1, 1) := by decide +kernel
theorem dS_explore_91 : decode cS_explore 91 = .ok (.iload_n 2, 1) := by decide +kernel
theorem dS_explore_92 : decode cS_explore 92 = .ok (.invokevirtual 75, 3) := by decide +kernel
theorem dS_explore_95 : decode cS_explore 95 = .ok (.ifCond .eq 62, 3) := by decide +kernel
theorem dS_explore_98 : decode cS_explore 98 = .ok (.aload_n 0, 1) := by decide +kernel
theorem dS_explore_99 : decode cS_explore 99 = .ok (.getfield 21, 3) := by decide +kernel
theorem dS_explore_102 : decode cS_explore 102 = .ok (.iload 4, 2) := by decide +kernel
theorem dS_explore_104 : decode cS_explore 104 = .ok (.dup2, 1) := by decide +kernel
theorem dS_explore_105 : decode cS_explore 105 = .ok (.iaload, 1) := by decide +kernel
theorem dS_explore_106 : decode cS_explore 106 = .ok (.iconst 1, 1) := by decide +kernel
theorem dS_explore_107 : decode cS_explore 107 = .ok (.isub, 1) := by decide +kernel
theorem dS_explore_108 : decode cS_explore 108 = .ok (.iastore, 1) := by decide +kernel
theorem dS_explore_109 : decode cS_explore 109 = .ok (.aload_n 0, 1) := by decide +kernel
theorem dS_explore_110 : decode cS_explore 110 = .ok (.getfield 21, 3) := by decide +kernel
theorem dS_explore_113 : decode cS_explore 113 = .ok (.iload 5, 2) := by decide +kernel
theorem dS_explore_115 : decode cS_explore 115 = .ok (.dup2, 1) := by decide +kernel
theorem dS_explore_116 : decode cS_explore 116 = .ok (.iaload, 1) := by decide +kernel
theorem dS_explore_117 : decode cS_explore 117 = .ok (.iconst 1, 1) := by decide +kernel
theorem dS_explore_118 : decode cS_explore 118 = .ok (.isub, 1) := by decide +kernel
theorem dS_explore_119 : decode cS_explore 119 = .ok (.iastore, 1) := by decide +kernel
theorem dS_explore_120 : decode cS_explore 120 = .ok (.aload_n 0, 1) := by decide +kernel
theorem dS_explore_121 : decode cS_explore 121 = .ok (.iload_n 1, 1) := by decide +kernel
theorem dS_explore_122 : decode cS_explore 122 = .ok (.iconst 1, 1) := by decide +kernel
theorem dS_explore_123 : decode cS_explore 123 = .ok (.iadd, 1) := by decide +kernel
theorem dS_explore_124 : decode cS_explore 124 = .ok (.iload_n 2, 1) := by decide +kernel
theorem dS_explore_125 : decode cS_explore 125 = .ok (.iconst 1, 1) := by decide +kernel
theorem dS_explore_126 : decode cS_explore 126 = .ok (.iload_n 1, 1) := by decide +kernel
theorem dS_explore_127 : decode cS_explore 127 = .ok (.ishl, 1) := by decide +kernel
theorem dS_explore_128 : decode cS_explore 128 = .ok (.ior, 1) := by decide +kernel
theorem dS_explore_129 : decode cS_explore 129 = .ok (.iload_n 3, 1) := by decide +kernel
theorem dS_explore_130 : decode cS_explore 130 = .ok (.iconst 1, 1) := by decide +kernel
theorem dS_explore_131 : decode cS_explore 131 = .ok (.iadd, 1) := by decide +kernel
theorem dS_explore_132 : decode cS_explore 132 = .ok (.invokestatic 67, 3) := by decide +kernel
theorem dS_explore_135 : decode cS_explore 135 = .ok (.aload_n 0, 1) := by decide +kernel
theorem dS_explore_136 : decode cS_explore 136 = .ok (.getfield 21, 3) := by decide +kernel
theorem dS_explore_139 : decode cS_explore 139 = .ok (.iload 4, 2) := by decide +kernel
theorem dS_explore_141 : decode cS_explore 141 = .ok (.dup2, 1) := by decide +kernel
theorem dS_explore_142 : decode cS_explore 142 = .ok (.iaload, 1) := by decide +kernel
theorem dS_explore_143 : decode cS_explore 143 = .ok (.iconst 1, 1) := by decide +kernel
theorem dS_explore_144 : decode cS_explore 144 = .ok (.iadd, 1) := by decide +kernel
theorem dS_explore_145 : decode cS_explore 145 = .ok (.iastore, 1) := by decide +kernel
theorem dS_explore_146 : decode cS_explore 146 = .ok (.aload_n 0, 1) := by decide +kernel
theorem dS_explore_147 : decode cS_explore 147 = .ok (.getfield 21, 3) := by decide +kernel
theorem dS_explore_150 : decode cS_explore 150 = .ok (.iload 5, 2) := by decide +kernel
theorem dS_explore_152 : decode cS_explore 152 = .ok (.dup2, 1) := by decide +kernel
theorem dS_explore_153 : decode cS_explore 153 = .ok (.iaload, 1) := by decide +kernel
theorem dS_explore_154 : decode cS_explore 154 = .ok (.iconst 1, 1) := by decide +kernel
theorem dS_explore_155 : decode cS_explore 155 = .ok (.iadd, 1) := by decide +kernel
theorem dS_explore_156 : decode cS_explore 156 = .ok (.iastore, 1) := by decide +kernel
theorem dS_explore_157 : decode cS_explore 157 = .ok (.aload_n 0, 1) := by decide +kernel
theorem dS_explore_158 : decode cS_explore 158 = .ok (.iload_n 1, 1) := by decide +kernel
theorem dS_explore_159 : decode cS_explore 159 = .ok (.iconst 1, 1) := by decide +kernel
theorem dS_explore_160 : decode cS_explore 160 = .ok (.iadd, 1) := by decide +kernel
theorem dS_explore_161 : decode cS_explore 161 = .ok (.iload_n 2, 1) := by decide +kernel
theorem dS_explore_162 : decode cS_explore 162 = .ok (.iload_n 3, 1) := by decide +kernel
theorem dS_explore_163 : decode cS_explore 163 = .ok (.invokestatic 67, 3) := by decide +kernel
theorem dS_explore_166 : decode cS_explore 166 = .ok (.aload_n 0, 1) := by decide +kernel
theorem dS_explore_167 : decode cS_explore 167 = .ok (.getfield 24, 3) := by decide +kernel
theorem dS_explore_170 : decode cS_explore 170 = .ok (.iload 4, 2) := by decide +kernel
theorem dS_explore_172 : decode cS_explore 172 = .ok (.dup2, 1) := by decide +kernel
theorem dS_explore_173 : decode cS_explore 173 = .ok (.iaload, 1) := by decide +kernel
theorem dS_explore_174 : decode cS_explore 174 = .ok (.iconst 1, 1) := by decide +kernel
theorem dS_explore_175 : decode cS_explore 175 = .ok (.iadd, 1) := by decide +kernel
theorem dS_explore_176 : decode cS_explore 176 = .ok (.iastore, 1) := by decide +kernel
theorem dS_explore_177 : decode cS_explore 177 = .ok (.aload_n 0, 1) := by decide +kernel
theorem dS_explore_178 : decode cS_explore 178 = .ok (.getfield 24, 3) := by decide +kernel
theorem dS_explore_181 : decode cS_explore 181 = .ok (.iload 5, 2) := by decide +kernel
theorem dS_explore_183 : decode cS_explore 183 = .ok (.dup2, 1) := by decide +kernel
theorem dS_explore_184 : decode cS_explore 184 = .ok (.iaload, 1) := by decide +kernel
theorem dS_explore_185 : decode cS_explore 185 = .ok (.iconst 1, 1) := by decide +kernel
theorem dS_explore_186 : decode cS_explore 186 = .ok (.iadd, 1) := by decide +kernel
theorem dS_explore_187 : decode cS_explore 187 = .ok (.iastore, 1) := by decide +kernel
theorem dS_explore_188 : decode cS_explore 188 = .ok (.return_, 1) := by decide +kernel
theorem dS_mayAdd_0 : decode cS_mayAdd 0 = .ok (.aload_n 0, 1) := by decide +kernel
end
section
theorem dS_mayAdd_1 : decode cS_mayAdd 1 = .ok (.getfield 18, 3) := by decide +kernel
theorem dS_mayAdd_4 : decode cS_mayAdd 4 = .ok (.iload_n 1, 1) := by decide +kernel
theorem dS_mayAdd_5 : decode cS_mayAdd 5 = .ok (.iaload, 1) := by decide +kernel
theorem dS_mayAdd_6 : decode cS_mayAdd 6 = .ok (.ifCond .lt 17, 3) := by decide +kernel
theorem dS_mayAdd_9 : decode cS_mayAdd 9 = .ok (.iload_n 2, 1) := by decide +kernel
theorem dS_mayAdd_10 : decode cS_mayAdd 10 = .ok (.aload_n 0, 1) := by decide +kernel
theorem dS_mayAdd_11 : decode cS_mayAdd 11 = .ok (.getfield 18, 3) := by decide +kernel
theorem dS_mayAdd_14 : decode cS_mayAdd 14 = .ok (.iload_n 1, 1) := by decide +kernel
theorem dS_mayAdd_15 : decode cS_mayAdd 15 = .ok (.iaload, 1) := by decide +kernel
theorem dS_mayAdd_16 : decode cS_mayAdd 16 = .ok (.ishr, 1) := by decide +kernel
theorem dS_mayAdd_17 : decode cS_mayAdd 17 = .ok (.iconst 1, 1) := by decide +kernel
theorem dS_mayAdd_18 : decode cS_mayAdd 18 = .ok (.iand, 1) := by decide +kernel
theorem dS_mayAdd_19 : decode cS_mayAdd 19 = .ok (.iconst 1, 1) := by decide +kernel
theorem dS_mayAdd_20 : decode cS_mayAdd 20 = .ok (.if_icmp .ne 7, 3) := by decide +kernel
theorem dS_mayAdd_23 : decode cS_mayAdd 23 = .ok (.iconst 1, 1) := by decide +kernel
theorem dS_mayAdd_24 : decode cS_mayAdd 24 = .ok (.goto 4, 3) := by decide +kernel
theorem dS_mayAdd_27 : decode cS_mayAdd 27 = .ok (.iconst 0, 1) := by decide +kernel
theorem dS_mayAdd_28 : decode cS_mayAdd 28 = .ok (.istore_n 3, 1) := by decide +kernel
theorem dS_mayAdd_29 : decode cS_mayAdd 29 = .ok (.iload_n 3, 1) := by decide +kernel
theorem dS_mayAdd_30 : decode cS_mayAdd 30 = .ok (.ifCond .eq 35, 3) := by decide +kernel
theorem dS_mayAdd_33 : decode cS_mayAdd 33 = .ok (.aload_n 0, 1) := by decide +kernel
theorem dS_mayAdd_34 : decode cS_mayAdd 34 = .ok (.getfield 21, 3) := by decide +kernel
theorem dS_mayAdd_37 : decode cS_mayAdd 37 = .ok (.aload_n 0, 1) := by decide +kernel
theorem dS_mayAdd_38 : decode cS_mayAdd 38 = .ok (.getfield 9, 3) := by decide +kernel
theorem dS_mayAdd_41 : decode cS_mayAdd 41 = .ok (.iload_n 1, 1) := by decide +kernel
theorem dS_mayAdd_42 : decode cS_mayAdd 42 = .ok (.iaload, 1) := by decide +kernel
theorem dS_mayAdd_43 : decode cS_mayAdd 43 = .ok (.iaload, 1) := by decide +kernel
theorem dS_mayAdd_44 : decode cS_mayAdd 44 = .ok (.ifCond .le 21, 3) := by decide +kernel
theorem dS_mayAdd_47 : decode cS_mayAdd 47 = .ok (.aload_n 0, 1) := by decide +kernel
theorem dS_mayAdd_48 : decode cS_mayAdd 48 = .ok (.getfield 21, 3) := by decide +kernel
theorem dS_mayAdd_51 : decode cS_mayAdd 51 = .ok (.aload_n 0, 1) := by decide +kernel
theorem dS_mayAdd_52 : decode cS_mayAdd 52 = .ok (.getfield 15, 3) := by decide +kernel
theorem dS_mayAdd_55 : decode cS_mayAdd 55 = .ok (.iload_n 1, 1) := by decide +kernel
theorem dS_mayAdd_56 : decode cS_mayAdd 56 = .ok (.iaload, 1) := by decide +kernel
theorem dS_mayAdd_57 : decode cS_mayAdd 57 = .ok (.iaload, 1) := by decide +kernel
theorem dS_mayAdd_58 : decode cS_mayAdd 58 = .ok (.ifCond .le 7, 3) := by decide +kernel
theorem dS_mayAdd_61 : decode cS_mayAdd 61 = .ok (.iconst 1, 1) := by decide +kernel
theorem dS_mayAdd_62 : decode cS_mayAdd 62 = .ok (.goto 4, 3) := by decide +kernel
theorem dS_mayAdd_65 : decode cS_mayAdd 65 = .ok (.iconst 0, 1) := by decide +kernel
theorem dS_mayAdd_66 : decode cS_mayAdd 66 = .ok (.ireturn, 1) := by decide +kernel
theorem dS_hope_0 : decode cS_hope 0 = .ok (.iconst 0, 1) := by decide +kernel
theorem dS_hope_1 : decode cS_hope 1 = .ok (.istore_n 1, 1) := by decide +kernel
theorem dS_hope_2 : decode cS_hope 2 = .ok (.iconst 0, 1) := by decide +kernel
theorem dS_hope_3 : decode cS_hope 3 = .ok (.istore_n 2, 1) := by decide +kernel
theorem dS_hope_4 : decode cS_hope 4 = .ok (.iload_n 2, 1) := by decide +kernel
theorem dS_hope_5 : decode cS_hope 5 = .ok (.bipush 9, 2) := by decide +kernel
theorem dS_hope_7 : decode cS_hope 7 = .ok (.if_icmp .ge 27, 3) := by decide +kernel
theorem dS_hope_10 : decode cS_hope 10 = .ok (.iload_n 1, 1) := by decide +kernel
theorem dS_hope_11 : decode cS_hope 11 = .ok (.aload_n 0, 1) := by decide +kernel
theorem dS_hope_12 : decode cS_hope 12 = .ok (.getfield 21, 3) := by decide +kernel
theorem dS_hope_15 : decode cS_hope 15 = .ok (.iload_n 2, 1) := by decide +kernel
theorem dS_hope_16 : decode cS_hope 16 = .ok (.iaload, 1) := by decide +kernel
theorem dS_hope_17 : decode cS_hope 17 = .ok (.aload_n 0, 1) := by decide +kernel
theorem dS_hope_18 : decode cS_hope 18 = .ok (.getfield 24, 3) := by decide +kernel
theorem dS_hope_21 : decode cS_hope 21 = .ok (.iload_n 2, 1) := by decide +kernel
theorem dS_hope_22 : decode cS_hope 22 = .ok (.iaload, 1) := by decide +kernel
theorem dS_hope_23 : decode cS_hope 23 = .ok (.invokestatic 45, 3) := by decide +kernel
theorem dS_hope_26 : decode cS_hope 26 = .ok (.iadd, 1) := by decide +kernel
theorem dS_hope_27 : decode cS_hope 27 = .ok (.istore_n 1, 1) := by decide +kernel
theorem dS_hope_28 : decode cS_hope 28 = .ok (.iinc 2 1, 3) := by decide +kernel
theorem dS_hope_31 : decode cS_hope 31 = .ok (.goto (-27), 3) := by decide +kernel
theorem dS_hope_34 : decode cS_hope 34 = .ok (.iload_n 1, 1) := by decide +kernel
theorem dS_hope_35 : decode cS_hope 35 = .ok (.iconst 2, 1) := by decide +kernel
theorem dS_hope_36 : decode cS_hope 36 = .ok (.idiv, 1) := by decide +kernel
theorem dS_hope_37 : decode cS_hope 37 = .ok (.ireturn, 1) := by decide +kernel
end
section
theorem dB_init_0 : decode cB_init 0 = .ok (.aload_n 0, 1) := by decide +kernel
theorem dB_init_1 : decode cB_init 1 = .ok (.invokespecial 3, 3) := by decide +kernel
theorem dB_init_4 : decode cB_init 4 = .ok (.aload_n 0, 1) := by decide +kernel
theorem dB_init_5 : decode cB_init 5 = .ok (.sipush 512, 3) := by decide +kernel
theorem dB_init_8 : decode cB_init 8 = .ok (.newarray .int, 2) := by decide +kernel
theorem dB_init_10 : decode cB_init 10 = .ok (.putfield 9, 3) := by decide +kernel
theorem dB_init_13 : decode cB_init 13 = .ok (.aload_n 0, 1) := by decide +kernel
theorem dB_init_14 : decode cB_init 14 = .ok (.bipush 9, 2) := by decide +kernel
theorem dB_init_16 : decode cB_init 16 = .ok (.newarray .int, 2) := by decide +kernel
theorem dB_init_18 : decode cB_init 18 = .ok (.putfield 15, 3) := by decide +kernel
theorem dB_init_21 : decode cB_init 21 = .ok (.aload_n 0, 1) := by decide +kernel
theorem dB_init_22 : decode cB_init 22 = .ok (.sipush 512, 3) := by decide +kernel
theorem dB_init_25 : decode cB_init 25 = .ok (.newarray .int, 2) := by decide +kernel
theorem dB_init_27 : decode cB_init 27 = .ok (.putfield 18, 3) := by decide +kernel
theorem dB_init_30 : decode cB_init 30 = .ok (.aload_n 0, 1) := by decide +kernel
theorem dB_init_31 : decode cB_init 31 = .ok (.sipush 512, 3) := by decide +kernel
theorem dB_init_34 : decode cB_init 34 = .ok (.newarray .int, 2) := by decide +kernel
theorem dB_init_36 : decode cB_init 36 = .ok (.putfield 21, 3) := by decide +kernel
theorem dB_init_39 : decode cB_init 39 = .ok (.aload_n 0, 1) := by decide +kernel
theorem dB_init_40 : decode cB_init 40 = .ok (.sipush 512, 3) := by decide +kernel
theorem dB_init_43 : decode cB_init 43 = .ok (.newarray .int, 2) := by decide +kernel
theorem dB_init_45 : decode cB_init 45 = .ok (.putfield 24, 3) := by decide +kernel
theorem dB_init_48 : decode cB_init 48 = .ok (.iconst 1, 1) := by decide +kernel
theorem dB_init_49 : decode cB_init 49 = .ok (.istore_n 1, 1) := by decide +kernel
theorem dB_init_50 : decode cB_init 50 = .ok (.iconst 0, 1) := by decide +kernel
theorem dB_init_51 : decode cB_init 51 = .ok (.istore_n 2, 1) := by decide +kernel
theorem dB_init_52 : decode cB_init 52 = .ok (.iload_n 2, 1) := by decide +kernel
theorem dB_init_53 : decode cB_init 53 = .ok (.sipush 512, 3) := by decide +kernel
theorem dB_init_56 : decode cB_init 56 = .ok (.if_icmp .ge 61, 3) := by decide +kernel
theorem dB_init_59 : decode cB_init 59 = .ok (.iconst 0, 1) := by decide +kernel
theorem dB_init_60 : decode cB_init 60 = .ok (.istore_n 3, 1) := by decide +kernel
theorem dB_init_61 : decode cB_init 61 = .ok (.iload_n 3, 1) := by decide +kernel
theorem dB_init_62 : decode cB_init 62 = .ok (.bipush 9, 2) := by decide +kernel
theorem dB_init_64 : decode cB_init 64 = .ok (.if_icmp .ge 47, 3) := by decide +kernel
theorem dB_init_67 : decode cB_init 67 = .ok (.iconst 1, 1) := by decide +kernel
theorem dB_init_68 : decode cB_init 68 = .ok (.iload_n 3, 1) := by decide +kernel
theorem dB_init_69 : decode cB_init 69 = .ok (.ishl, 1) := by decide +kernel
theorem dB_init_70 : decode cB_init 70 = .ok (.aload_n 0, 1) := by decide +kernel
theorem dB_init_71 : decode cB_init 71 = .ok (.getfield 9, 3) := by decide +kernel
theorem dB_init_74 : decode cB_init 74 = .ok (.iload_n 2, 1) := by decide +kernel
theorem dB_init_75 : decode cB_init 75 = .ok (.iaload, 1) := by decide +kernel
theorem dB_init_76 : decode cB_init 76 = .ok (.if_icmp .le 29, 3) := by decide +kernel
theorem dB_init_79 : decode cB_init 79 = .ok (.iload_n 1, 1) := by decide +kernel
theorem dB_init_80 : decode cB_init 80 = .ok (.sipush 512, 3) := by decide +kernel
theorem dB_init_83 : decode cB_init 83 = .ok (.if_icmp .ge 22, 3) := by decide +kernel
theorem dB_init_86 : decode cB_init 86 = .ok (.aload_n 0, 1) := by decide +kernel
theorem dB_init_87 : decode cB_init 87 = .ok (.getfield 9, 3) := by decide +kernel
theorem dB_init_90 : decode cB_init 90 = .ok (.iload_n 1, 1) := by decide +kernel
theorem dB_init_91 : decode cB_init 91 = .ok (.aload_n 0, 1) := by decide +kernel
theorem dB_init_92 : decode cB_init 92 = .ok (.getfield 9, 3) := by decide +kernel
theorem dB_init_95 : decode cB_init 95 = .ok (.iload_n 2, 1) := by decide +kernel
theorem dB_init_96 : decode cB_init 96 = .ok (.iaload, 1) := by decide +kernel
theorem dB_init_97 : decode cB_init 97 = .ok (.iconst 1, 1) := by decide +kernel
theorem dB_init_98 : decode cB_init 98 = .ok (.iload_n 3, 1) := by decide +kernel
theorem dB_init_99 : decode cB_init 99 = .ok (.ishl, 1) := by decide +kernel
theorem dB_init_100 : decode cB_init 100 = .ok (.ior, 1) := by decide +kernel
theorem dB_init_101 : decode cB_init 101 = .ok (.iastore, 1) := by decide +kernel
theorem dB_init_102 : decode cB_init 102 = .ok (.iinc 1 1, 3) := by decide +kernel
theorem dB_init_105 : decode cB_init 105 = .ok (.iinc 3 1, 3) := by decide +kernel
theorem dB_init_108 : decode cB_init 108 = .ok (.goto (-47), 3) := by decide +kernel
theorem dB_init_111 : decode cB_init 111 = .ok (.iinc 2 1, 3) := by decide +kernel
theorem dB_init_114 : decode cB_init 114 = .ok (.goto (-62), 3) := by decide +kernel
theorem dB_init_117 : decode cB_init 117 = .ok (.return_, 1) := by decide +kernel
theorem dB_load_0 : decode cB_load 0 = .ok (.aload_n 0, 1) := by decide +kernel
theorem dB_load_1 : decode cB_load 1 = .ok (.iconst 1, 1) := by decide +kernel
theorem dB_load_2 : decode cB_load 2 = .ok (.aload_n 1, 1) := by decide +kernel
theorem dB_load_3 : decode cB_load 3 = .ok (.getfield 27, 3) := by decide +kernel
theorem dB_load_6 : decode cB_load 6 = .ok (.ishl, 1) := by decide +kernel
theorem dB_load_7 : decode cB_load 7 = .ok (.iconst 1, 1) := by decide +kernel
theorem dB_load_8 : decode cB_load 8 = .ok (.isub, 1) := by decide +kernel
theorem dB_load_9 : decode cB_load 9 = .ok (.putfield 33, 3) := by decide +kernel
theorem dB_load_12 : decode cB_load 12 = .ok (.aload_n 0, 1) := by decide +kernel
theorem dB_load_13 : decode cB_load 13 = .ok (.aload_n 1, 1) := by decide +kernel
theorem dB_load_14 : decode cB_load 14 = .ok (.invokevirtual 36, 3) := by decide +kernel
theorem dB_load_17 : decode cB_load 17 = .ok (.iconst 0, 1) := by decide +kernel
theorem dB_load_18 : decode cB_load 18 = .ok (.istore_n 2, 1) := by decide +kernel
theorem dB_load_19 : decode cB_load 19 = .ok (.iload_n 2, 1) := by decide +kernel
theorem dB_load_20 : decode cB_load 20 = .ok (.aload_n 1, 1) := by decide +kernel
theorem dB_load_21 : decode cB_load 21 = .ok (.getfield 27, 3) := by decide +kernel
theorem dB_load_24 : decode cB_load 24 = .ok (.if_icmp .ge 63, 3) := by decide +kernel
theorem dB_load_27 : decode cB_load 27 = .ok (.iconst 0, 1) := by decide +kernel
theorem dB_load_28 : decode cB_load 28 = .ok (.istore_n 3, 1) := by decide +kernel
theorem dB_load_29 : decode cB_load 29 = .ok (.iload_n 3, 1) := by decide +kernel
theorem dB_load_30 : decode cB_load 30 = .ok (.iconst 1, 1) := by decide +kernel
theorem dB_load_31 : decode cB_load 31 = .ok (.iload_n 2, 1) := by decide +kernel
theorem dB_load_32 : decode cB_load 32 = .ok (.ishl, 1) := by decide +kernel
theorem dB_load_33 : decode cB_load 33 = .ok (.if_icmp .ge 48, 3) := by decide +kernel
theorem dB_load_36 : decode cB_load 36 = .ok (.aload_n 0, 1) := by decide +kernel
theorem dB_load_37 : decode cB_load 37 = .ok (.getfield 18, 3) := by decide +kernel
theorem dB_load_40 : decode cB_load 40 = .ok (.iload_n 3, 1) := by decide +kernel
theorem dB_load_41 : decode cB_load 41 = .ok (.iconst 1, 1) := by decide +kernel
theorem dB_load_42 : decode cB_load 42 = .ok (.iload_n 2, 1) := by decide +kernel
theorem dB_load_43 : decode cB_load 43 = .ok (.ishl, 1) := by decide +kernel
theorem dB_load_44 : decode cB_load 44 = .ok (.ior, 1) := by decide +kernel
theorem dB_load_45 : decode cB_load 45 = .ok (.aload_n 0, 1) := by decide +kernel
theorem dB_load_46 : decode cB_load 46 = .ok (.getfield 18, 3) := by decide +kernel
theorem dB_load_49 : decode cB_load 49 = .ok (.iload_n 3, 1) := by decide +kernel
theorem dB_load_50 : decode cB_load 50 = .ok (.iaload, 1) := by decide +kernel
theorem dB_load_51 : decode cB_load 51 = .ok (.aload_n 1, 1) := by decide +kernel
theorem dB_load_52 : decode cB_load 52 = .ok (.getfield 40, 3) := by decide +kernel
theorem dB_load_55 : decode cB_load 55 = .ok (.iload_n 2, 1) := by decide +kernel
theorem dB_load_56 : decode cB_load 56 = .ok (.iaload, 1) := by decide +kernel
theorem dB_load_57 : decode cB_load 57 = .ok (.iadd, 1) := by decide +kernel
theorem dB_load_58 : decode cB_load 58 = .ok (.iastore, 1) := by decide +kernel
theorem dB_load_59 : decode cB_load 59 = .ok (.aload_n 0, 1) := by decide +kernel
theorem dB_load_60 : decode cB_load 60 = .ok (.getfield 24, 3) := by decide +kernel
theorem dB_load_63 : decode cB_load 63 = .ok (.iload_n 3, 1) := by decide +kernel
theorem dB_load_64 : decode cB_load 64 = .ok (.iconst 1, 1) := by decide +kernel
theorem dB_load_65 : decode cB_load 65 = .ok (.iload_n 2, 1) := by decide +kernel
theorem dB_load_66 : decode cB_load 66 = .ok (.ishl, 1) := by decide +kernel
theorem dB_load_67 : decode cB_load 67 = .ok (.ior, 1) := by decide +kernel
theorem dB_load_68 : decode cB_load 68 = .ok (.aload_n 0, 1) := by decide +kernel
theorem dB_load_69 : decode cB_load 69 = .ok (.iload_n 2, 1) := by decide +kernel
theorem dB_load_70 : decode cB_load 70 = .ok (.iload_n 3, 1) := by decide +kernel
theorem dB_load_71 : decode cB_load 71 = .ok (.invokevirtual 43, 3) := by decide +kernel
theorem dB_load_74 : decode cB_load 74 = .ok (.iastore, 1) := by decide +kernel
theorem dB_load_75 : decode cB_load 75 = .ok (.iinc 3 1, 3) := by decide +kernel
theorem dB_load_78 : decode cB_load 78 = .ok (.goto (-49), 3) := by decide +kernel
theorem dB_load_81 : decode cB_load 81 = .ok (.iinc 2 1, 3) := by decide +kernel
theorem dB_load_84 : decode cB_load 84 = .ok (.goto (-65), 3) := by decide +kernel
theorem dB_load_87 : decode cB_load 87 = .ok (.return_, 1) := by decide +kernel
theorem dB_countInside_0 : decode cB_countInside 0 = .ok (.iconst 0, 1) := by decide +kernel
theorem dB_countInside_1 : decode cB_countInside 1 = .ok (.istore_n 2, 1) := by decide +kernel
theorem dB_countInside_2 : decode cB_countInside 2 = .ok (.iload_n 2, 1) := by decide +kernel
theorem dB_countInside_3 : decode cB_countInside 3 = .ok (.bipush 9, 2) := by decide +kernel
theorem dB_countInside_5 : decode cB_countInside 5 = .ok (.if_icmp .ge 16, 3) := by decide +kernel
theorem dB_countInside_8 : decode cB_countInside 8 = .ok (.aload_n 0, 1) := by decide +kernel
theorem dB_countInside_9 : decode cB_countInside 9 = .ok (.getfield 15, 3) := by decide +kernel
theorem dB_countInside_12 : decode cB_countInside 12 = .ok (.iload_n 2, 1) := by decide +kernel
theorem dB_countInside_13 : decode cB_countInside 13 = .ok (.iconst 0, 1) := by decide +kernel
theorem dB_countInside_14 : decode cB_countInside 14 = .ok (.iastore, 1) := by decide +kernel
theorem dB_countInside_15 : decode cB_countInside 15 = .ok (.iinc 2 1, 3) := by decide +kernel
theorem dB_countInside_18 : decode cB_countInside 18 = .ok (.goto (-16), 3) := by decide +kernel
theorem dB_countInside_21 : decode cB_countInside 21 = .ok (.iconst 0, 1) := by decide +kernel
theorem dB_countInside_22 : decode cB_countInside 22 = .ok (.istore_n 2, 1) := by decide +kernel
theorem dB_countInside_23 : decode cB_countInside 23 = .ok (.iload_n 2, 1) := by decide +kernel
theorem dB_countInside_24 : decode cB_countInside 24 = .ok (.aload_n 0, 1) := by decide +kernel
theorem dB_countInside_25 : decode cB_countInside 25 = .ok (.getfield 33, 3) := by decide +kernel
theorem dB_countInside_28 : decode cB_countInside 28 = .ok (.if_icmp .gt 16, 3) := by decide +kernel
theorem dB_countInside_31 : decode cB_countInside 31 = .ok (.aload_n 0, 1) := by decide +kernel
theorem dB_countInside_32 : decode cB_countInside 32 = .ok (.getfield 21, 3) := by decide +kernel
theorem dB_countInside_35 : decode cB_countInside 35 = .ok (.iload_n 2, 1) := by decide +kernel
theorem dB_countInside_36 : decode cB_countInside 36 = .ok (.iconst 0, 1) := by decide +kernel
theorem dB_countInside_37 : decode cB_countInside 37 = .ok (.iastore, 1) := by decide +kernel
theorem dB_countInside_38 : decode cB_countInside 38 = .ok (.iinc 2 1, 3) := by decide +kernel
theorem dB_countInside_41 : decode cB_countInside 41 = .ok (.goto (-18), 3) := by decide +kernel
theorem dB_countInside_44 : decode cB_countInside 44 = .ok (.iconst 0, 1) := by decide +kernel
theorem dB_countInside_45 : decode cB_countInside 45 = .ok (.istore_n 2, 1) := by decide +kernel
theorem dB_countInside_46 : decode cB_countInside 46 = .ok (.iload_n 2, 1) := by decide +kernel
theorem dB_countInside_47 : decode cB_countInside 47 = .ok (.aload_n 1, 1) := by decide +kernel
theorem dB_countInside_48 : decode cB_countInside 48 = .ok (.getfield 47, 3) := by decide +kernel
theorem dB_countInside_51 : decode cB_countInside 51 = .ok (.if_icmp .ge 67, 3) := by decide +kernel
theorem dB_countInside_54 : decode cB_countInside 54 = .ok (.aload_n 1, 1) := by decide +kernel
theorem dB_countInside_55 : decode cB_countInside 55 = .ok (.getfield 50, 3) := by decide +kernel
theorem dB_countInside_58 : decode cB_countInside 58 = .ok (.iload_n 2, 1) := by decide +kernel
theorem dB_countInside_59 : decode cB_countInside 59 = .ok (.iaload, 1) := by decide +kernel
theorem dB_countInside_60 : decode cB_countInside 60 = .ok (.istore_n 3, 1) := by decide +kernel
theorem dB_countInside_61 : decode cB_countInside 61 = .ok (.aload_n 1, 1) := by decide +kernel
theorem dB_countInside_62 : decode cB_countInside 62 = .ok (.getfield 53, 3) := by decide +kernel
theorem dB_countInside_65 : decode cB_countInside 65 = .ok (.iload_n 2, 1) := by decide +kernel
theorem dB_countInside_66 : decode cB_countInside 66 = .ok (.iaload, 1) := by decide +kernel
theorem dB_countInside_67 : decode cB_countInside 67 = .ok (.istore 4, 2) := by decide +kernel
theorem dB_countInside_69 : decode cB_countInside 69 = .ok (.aload_n 0, 1) := by decide +kernel
theorem dB_countInside_70 : decode cB_countInside 70 = .ok (.getfield 15, 3) := by decide +kernel
theorem dB_countInside_73 : decode cB_countInside 73 = .ok (.iload_n 3, 1) := by decide +kernel
theorem dB_countInside_74 : decode cB_countInside 74 = .ok (.dup2, 1) := by decide +kernel
theorem dB_countInside_75 : decode cB_countInside 75 = .ok (.iaload, 1) := by decide +kernel
theorem dB_countInside_76 : decode cB_countInside 76 = .ok (.iconst 1, 1) := by decide +kernel
theorem dB_countInside_77 : decode cB_countInside 77 = .ok (.iload 4, 2) := by decide +kernel
theorem dB_countInside_79 : decode cB_countInside 79 = .ok (.ishl, 1) := by decide +kernel
theorem dB_countInside_80 : decode cB_countInside 80 = .ok (.ior, 1) := by decide +kernel
theorem dB_countInside_81 : decode cB_countInside 81 = .ok (.iastore, 1) := by decide +kernel
theorem dB_countInside_82 : decode cB_countInside 82 = .ok (.aload_n 0, 1) := by decide +kernel
theorem dB_countInside_83 : decode cB_countInside 83 = .ok (.getfield 15, 3) := by decide +kernel
theorem dB_countInside_86 : decode cB_countInside 86 = .ok (.iload 4, 2) := by decide +kernel
theorem dB_countInside_88 : decode cB_countInside 88 = .ok (.dup2, 1) := by decide +kernel
theorem dB_countInside_89 : decode cB_countInside 89 = .ok (.iaload, 1) := by decide +kernel
theorem dB_countInside_90 : decode cB_countInside 90 = .ok (.iconst 1, 1) := by decide +kernel
theorem dB_countInside_91 : decode cB_countInside 91 = .ok (.iload_n 3, 1) := by decide +kernel
theorem dB_countInside_92 : decode cB_countInside 92 = .ok (.ishl, 1) := by decide +kernel
theorem dB_countInside_93 : decode cB_countInside 93 = .ok (.ior, 1) := by decide +kernel
theorem dB_countInside_94 : decode cB_countInside 94 = .ok (.iastore, 1) := by decide +kernel
theorem dB_countInside_95 : decode cB_countInside 95 = .ok (.aload_n 0, 1) := by decide +kernel
theorem dB_countInside_96 : decode cB_countInside 96 = .ok (.getfield 21, 3) := by decide +kernel
theorem dB_countInside_99 : decode cB_countInside 99 = .ok (.iconst 1, 1) := by decide +kernel
theorem dB_countInside_100 : decode cB_countInside 100 = .ok (.iload_n 3, 1) := by decide +kernel
theorem dB_countInside_101 : decode cB_countInside 101 = .ok (.ishl, 1) := by decide +kernel
theorem dB_countInside_102 : decode cB_countInside 102 = .ok (.iconst 1, 1) := by decide +kernel
theorem dB_countInside_103 : decode cB_countInside 103 = .ok (.iload 4, 2) := by decide +kernel
theorem dB_countInside_105 : decode cB_countInside 105 = .ok (.ishl, 1) := by decide +kernel
theorem dB_countInside_106 : decode cB_countInside 106 = .ok (.ior, 1) := by decide +kernel
theorem dB_countInside_107 : decode cB_countInside 107 = .ok (.dup2, 1) := by decide +kernel
theorem dB_countInside_108 : decode cB_countInside 108 = .ok (.iaload, 1) := by decide +kernel
theorem dB_countInside_109 : decode cB_countInside 109 = .ok (.iconst 1, 1) := by decide +kernel
theorem dB_countInside_110 : decode cB_countInside 110 = .ok (.iadd, 1) := by decide +kernel
theorem dB_countInside_111 : decode cB_countInside 111 = .ok (.iastore, 1) := by decide +kernel
theorem dB_countInside_112 : decode cB_countInside 112 = .ok (.iinc 2 1, 3) := by decide +kernel
theorem dB_countInside_115 : decode cB_countInside 115 = .ok (.goto (-69), 3) := by decide +kernel
theorem dB_countInside_118 : decode cB_countInside 118 = .ok (.iconst 0, 1) := by decide +kernel
theorem dB_countInside_119 : decode cB_countInside 119 = .ok (.istore_n 2, 1) := by decide +kernel
theorem dB_countInside_120 : decode cB_countInside 120 = .ok (.iload_n 2, 1) := by decide +kernel
theorem dB_countInside_121 : decode cB_countInside 121 = .ok (.aload_n 1, 1) := by decide +kernel
theorem dB_countInside_122 : decode cB_countInside 122 = .ok (.getfield 27, 3) := by decide +kernel
theorem dB_countInside_125 : decode cB_countInside 125 = .ok (.if_icmp .ge 53, 3) := by decide +kernel
theorem dB_countInside_128 : decode cB_countInside 128 = .ok (.iconst 0, 1) := by decide +kernel
theorem dB_countInside_129 : decode cB_countInside 129 = .ok (.istore_n 3, 1) := by decide +kernel
theorem dB_countInside_130 : decode cB_countInside 130 = .ok (.iload_n 3, 1) := by decide +kernel
theorem dB_countInside_131 : decode cB_countInside 131 = .ok (.aload_n 0, 1) := by decide +kernel
theorem dB_countInside_132 : decode cB_countInside 132 = .ok (.getfield 33, 3) := by decide +kernel
theorem dB_countInside_135 : decode cB_countInside 135 = .ok (.if_icmp .gt 37, 3) := by decide +kernel
theorem dB_countInside_138 : decode cB_countInside 138 = .ok (.iload_n 3, 1) := by decide +kernel
theorem dB_countInside_139 : decode cB_countInside 139 = .ok (.iload_n 2, 1) := by decide +kernel
theorem dB_countInside_140 : decode cB_countInside 140 = .ok (.ishr, 1) := by decide +kernel
theorem dB_countInside_141 : decode cB_countInside 141 = .ok (.iconst 1, 1) := by decide +kernel
theorem dB_countInside_142 : decode cB_countInside 142 = .ok (.iand, 1) := by decide +kernel
theorem dB_countInside_143 : decode cB_countInside 143 = .ok (.iconst 1, 1) := by decide +kernel
theorem dB_countInside_144 : decode cB_countInside 144 = .ok (.if_icmp .ne 22, 3) := by decide +kernel
theorem dB_countInside_147 : decode cB_countInside 147 = .ok (.aload_n 0, 1) := by decide +kernel
theorem dB_countInside_148 : decode cB_countInside 148 = .ok (.getfield 21, 3) := by decide +kernel
theorem dB_countInside_151 : decode cB_countInside 151 = .ok (.iload_n 3, 1) := by decide +kernel
theorem dB_countInside_152 : decode cB_countInside 152 = .ok (.dup2, 1) := by decide +kernel
theorem dB_countInside_153 : decode cB_countInside 153 = .ok (.iaload, 1) := by decide +kernel
theorem dB_countInside_154 : decode cB_countInside 154 = .ok (.aload_n 0, 1) := by decide +kernel
theorem dB_countInside_155 : decode cB_countInside 155 = .ok (.getfield 21, 3) := by decide +kernel
theorem dB_countInside_158 : decode cB_countInside 158 = .ok (.iload_n 3, 1) := by decide +kernel
theorem dB_countInside_159 : decode cB_countInside 159 = .ok (.iconst 1, 1) := by decide +kernel
theorem dB_countInside_160 : decode cB_countInside 160 = .ok (.iload_n 2, 1) := by decide +kernel
theorem dB_countInside_161 : decode cB_countInside 161 = .ok (.ishl, 1) := by decide +kernel
theorem dB_countInside_162 : decode cB_countInside 162 = .ok (.ixor, 1) := by decide +kernel
theorem dB_countInside_163 : decode cB_countInside 163 = .ok (.iaload, 1) := by decide +kernel
theorem dB_countInside_164 : decode cB_countInside 164 = .ok (.iadd, 1) := by decide +kernel
theorem dB_countInside_165 : decode cB_countInside 165 = .ok (.iastore, 1) := by decide +kernel
theorem dB_countInside_166 : decode cB_countInside 166 = .ok (.iinc 3 1, 3) := by decide +kernel
theorem dB_countInside_169 : decode cB_countInside 169 = .ok (.goto (-39), 3) := by decide +kernel
theorem dB_countInside_172 : decode cB_countInside 172 = .ok (.iinc 2 1, 3) := by decide +kernel
theorem dB_countInside_175 : decode cB_countInside 175 = .ok (.goto (-55), 3) := by decide +kernel
theorem dB_countInside_178 : decode cB_countInside 178 = .ok (.return_, 1) := by decide +kernel
theorem dB_partOf_0 : decode cB_partOf 0 = .ok (.iconst 1, 1) := by decide +kernel
theorem dB_partOf_1 : decode cB_partOf 1 = .ok (.iload_n 1, 1) := by decide +kernel
theorem dB_partOf_2 : decode cB_partOf 2 = .ok (.ishl, 1) := by decide +kernel
theorem dB_partOf_3 : decode cB_partOf 3 = .ok (.istore_n 3, 1) := by decide +kernel
theorem dB_partOf_4 : decode cB_partOf 4 = .ok (.iload_n 2, 1) := by decide +kernel
theorem dB_partOf_5 : decode cB_partOf 5 = .ok (.istore 4, 2) := by decide +kernel
theorem dB_partOf_7 : decode cB_partOf 7 = .ok (.iconst 0, 1) := by decide +kernel
theorem dB_partOf_8 : decode cB_partOf 8 = .ok (.istore 5, 2) := by decide +kernel
theorem dB_partOf_10 : decode cB_partOf 10 = .ok (.iload 5, 2) := by decide +kernel
theorem dB_partOf_12 : decode cB_partOf 12 = .ok (.bipush 9, 2) := by decide +kernel
theorem dB_partOf_14 : decode cB_partOf 14 = .ok (.if_icmp .ge 49, 3) := by decide +kernel
theorem dB_partOf_17 : decode cB_partOf 17 = .ok (.iload 4, 2) := by decide +kernel
theorem dB_partOf_19 : decode cB_partOf 19 = .ok (.ifCond .eq 44, 3) := by decide +kernel
theorem dB_partOf_22 : decode cB_partOf 22 = .ok (.aload_n 0, 1) := by decide +kernel
theorem dB_partOf_23 : decode cB_partOf 23 = .ok (.getfield 24, 3) := by decide +kernel
theorem dB_partOf_26 : decode cB_partOf 26 = .ok (.iload 4, 2) := by decide +kernel
theorem dB_partOf_28 : decode cB_partOf 28 = .ok (.iaload, 1) := by decide +kernel
theorem dB_partOf_29 : decode cB_partOf 29 = .ok (.istore 6, 2) := by decide +kernel
theorem dB_partOf_31 : decode cB_partOf 31 = .ok (.iload 6, 2) := by decide +kernel
theorem dB_partOf_33 : decode cB_partOf 33 = .ok (.aload_n 0, 1) := by decide +kernel
theorem dB_partOf_34 : decode cB_partOf 34 = .ok (.getfield 15, 3) := by decide +kernel
theorem dB_partOf_37 : decode cB_partOf 37 = .ok (.iload_n 1, 1) := by decide +kernel
theorem dB_partOf_38 : decode cB_partOf 38 = .ok (.iaload, 1) := by decide +kernel
theorem dB_partOf_39 : decode cB_partOf 39 = .ok (.iand, 1) := by decide +kernel
theorem dB_partOf_40 : decode cB_partOf 40 = .ok (.ifCond .eq 8, 3) := by decide +kernel
theorem dB_partOf_43 : decode cB_partOf 43 = .ok (.iload_n 3, 1) := by decide +kernel
theorem dB_partOf_44 : decode cB_partOf 44 = .ok (.iload 6, 2) := by decide +kernel
theorem dB_partOf_46 : decode cB_partOf 46 = .ok (.ior, 1) := by decide +kernel
theorem dB_partOf_47 : decode cB_partOf 47 = .ok (.istore_n 3, 1) := by decide +kernel
theorem dB_partOf_48 : decode cB_partOf 48 = .ok (.iload 4, 2) := by decide +kernel
theorem dB_partOf_50 : decode cB_partOf 50 = .ok (.iload 6, 2) := by decide +kernel
theorem dB_partOf_52 : decode cB_partOf 52 = .ok (.iconst (-1), 1) := by decide +kernel
theorem dB_partOf_53 : decode cB_partOf 53 = .ok (.ixor, 1) := by decide +kernel
theorem dB_partOf_54 : decode cB_partOf 54 = .ok (.iand, 1) := by decide +kernel
theorem dB_partOf_55 : decode cB_partOf 55 = .ok (.istore 4, 2) := by decide +kernel
theorem dB_partOf_57 : decode cB_partOf 57 = .ok (.iinc 5 1, 3) := by decide +kernel
theorem dB_partOf_60 : decode cB_partOf 60 = .ok (.goto (-50), 3) := by decide +kernel
theorem dB_partOf_63 : decode cB_partOf 63 = .ok (.iload_n 3, 1) := by decide +kernel
theorem dB_partOf_64 : decode cB_partOf 64 = .ok (.ireturn, 1) := by decide +kernel
theorem dB_value_0 : decode cB_value 0 = .ok (.aload_n 0, 1) := by decide +kernel
theorem dB_value_1 : decode cB_value 1 = .ok (.getfield 18, 3) := by decide +kernel
theorem dB_value_4 : decode cB_value 4 = .ok (.iload_n 1, 1) := by decide +kernel
theorem dB_value_5 : decode cB_value 5 = .ok (.iaload, 1) := by decide +kernel
theorem dB_value_6 : decode cB_value 6 = .ok (.aload_n 0, 1) := by decide +kernel
theorem dB_value_7 : decode cB_value 7 = .ok (.getfield 21, 3) := by decide +kernel
theorem dB_value_10 : decode cB_value 10 = .ok (.iload_n 2, 1) := by decide +kernel
theorem dB_value_11 : decode cB_value 11 = .ok (.iaload, 1) := by decide +kernel
theorem dB_value_12 : decode cB_value 12 = .ok (.iadd, 1) := by decide +kernel
theorem dB_value_13 : decode cB_value 13 = .ok (.istore_n 3, 1) := by decide +kernel
theorem dB_value_14 : decode cB_value 14 = .ok (.aload_n 0, 1) := by decide +kernel
theorem dB_value_15 : decode cB_value 15 = .ok (.getfield 33, 3) := by decide +kernel
theorem dB_value_18 : decode cB_value 18 = .ok (.iload_n 1, 1) := by decide +kernel
theorem dB_value_19 : decode cB_value 19 = .ok (.iload_n 2, 1) := by decide +kernel
theorem dB_value_20 : decode cB_value 20 = .ok (.ior, 1) := by decide +kernel
theorem dB_value_21 : decode cB_value 21 = .ok (.iconst (-1), 1) := by decide +kernel
theorem dB_value_22 : decode cB_value 22 = .ok (.ixor, 1) := by decide +kernel
theorem dB_value_23 : decode cB_value 23 = .ok (.iand, 1) := by decide +kernel
theorem dB_value_24 : decode cB_value 24 = .ok (.istore 4, 2) := by decide +kernel
theorem dB_value_26 : decode cB_value 26 = .ok (.iconst 0, 1) := by decide +kernel
theorem dB_value_27 : decode cB_value 27 = .ok (.istore 5, 2) := by decide +kernel
theorem dB_value_29 : decode cB_value 29 = .ok (.iload 5, 2) := by decide +kernel
theorem dB_value_31 : decode cB_value 31 = .ok (.bipush 9, 2) := by decide +kernel
theorem dB_value_33 : decode cB_value 33 = .ok (.if_icmp .ge 73, 3) := by decide +kernel
theorem dB_value_36 : decode cB_value 36 = .ok (.iload 4, 2) := by decide +kernel
theorem dB_value_38 : decode cB_value 38 = .ok (.ifCond .eq 68, 3) := by decide +kernel
theorem dB_value_41 : decode cB_value 41 = .ok (.aload_n 0, 1) := by decide +kernel
theorem dB_value_42 : decode cB_value 42 = .ok (.getfield 24, 3) := by decide +kernel
theorem dB_value_45 : decode cB_value 45 = .ok (.iload 4, 2) := by decide +kernel
theorem dB_value_47 : decode cB_value 47 = .ok (.iaload, 1) := by decide +kernel
theorem dB_value_48 : decode cB_value 48 = .ok (.istore 6, 2) := by decide +kernel
theorem dB_value_50 : decode cB_value 50 = .ok (.aload_n 0, 1) := by decide +kernel
theorem dB_value_51 : decode cB_value 51 = .ok (.getfield 21, 3) := by decide +kernel
theorem dB_value_54 : decode cB_value 54 = .ok (.iload 6, 2) := by decide +kernel
theorem dB_value_56 : decode cB_value 56 = .ok (.iload_n 2, 1) := by decide +kernel
theorem dB_value_57 : decode cB_value 57 = .ok (.ior, 1) := by decide +kernel
theorem dB_value_58 : decode cB_value 58 = .ok (.iaload, 1) := by decide +kernel
theorem dB_value_59 : decode cB_value 59 = .ok (.aload_n 0, 1) := by decide +kernel
theorem dB_value_60 : decode cB_value 60 = .ok (.getfield 21, 3) := by decide +kernel
theorem dB_value_63 : decode cB_value 63 = .ok (.iload 6, 2) := by decide +kernel
theorem dB_value_65 : decode cB_value 65 = .ok (.iaload, 1) := by decide +kernel
theorem dB_value_66 : decode cB_value 66 = .ok (.isub, 1) := by decide +kernel
theorem dB_value_67 : decode cB_value 67 = .ok (.aload_n 0, 1) := by decide +kernel
theorem dB_value_68 : decode cB_value 68 = .ok (.getfield 21, 3) := by decide +kernel
theorem dB_value_71 : decode cB_value 71 = .ok (.iload_n 2, 1) := by decide +kernel
theorem dB_value_72 : decode cB_value 72 = .ok (.iaload, 1) := by decide +kernel
theorem dB_value_73 : decode cB_value 73 = .ok (.isub, 1) := by decide +kernel
theorem dB_value_74 : decode cB_value 74 = .ok (.istore 7, 2) := by decide +kernel
theorem dB_value_76 : decode cB_value 76 = .ok (.iload_n 3, 1) := by decide +kernel
theorem dB_value_77 : decode cB_value 77 = .ok (.aload_n 0, 1) := by decide +kernel
theorem dB_value_78 : decode cB_value 78 = .ok (.getfield 18, 3) := by decide +kernel
theorem dB_value_81 : decode cB_value 81 = .ok (.iload 6, 2) := by decide +kernel
theorem dB_value_83 : decode cB_value 83 = .ok (.iaload, 1) := by decide +kernel
theorem dB_value_84 : decode cB_value 84 = .ok (.iload 7, 2) := by decide +kernel
end
section
theorem dB_value_86 : decode cB_value 86 = .ok (.iadd, 1) := by decide +kernel
theorem dB_value_87 : decode cB_value 87 = .ok (.iconst 2, 1) := by decide +kernel
theorem dB_value_88 : decode cB_value 88 = .ok (.idiv, 1) := by decide +kernel
theorem dB_value_89 : decode cB_value 89 = .ok (.iadd, 1) := by decide +kernel
theorem dB_value_90 : decode cB_value 90 = .ok (.istore_n 3, 1) := by decide +kernel
theorem dB_value_91 : decode cB_value 91 = .ok (.iload 4, 2) := by decide +kernel
theorem dB_value_93 : decode cB_value 93 = .ok (.iload 6, 2) := by decide +kernel
theorem dB_value_95 : decode cB_value 95 = .ok (.iconst (-1), 1) := by decide +kernel
theorem dB_value_96 : decode cB_value 96 = .ok (.ixor, 1) := by decide +kernel
theorem dB_value_97 : decode cB_value 97 = .ok (.iand, 1) := by decide +kernel
theorem dB_value_98 : decode cB_value 98 = .ok (.istore 4, 2) := by decide +kernel
theorem dB_value_100 : decode cB_value 100 = .ok (.iinc 5 1, 3) := by decide +kernel
theorem dB_value_103 : decode cB_value 103 = .ok (.goto (-74), 3) := by decide +kernel
theorem dB_value_106 : decode cB_value 106 = .ok (.iload_n 3, 1) := by decide +kernel
theorem dB_value_107 : decode cB_value 107 = .ok (.ireturn, 1) := by decide +kernel
theorem dB_find_0 : decode cB_find 0 = .ok (.iconst 0, 1) := by decide +kernel
theorem dB_find_1 : decode cB_find 1 = .ok (.istore_n 2, 1) := by decide +kernel
theorem dB_find_2 : decode cB_find 2 = .ok (.iload_n 2, 1) := by decide +kernel
theorem dB_find_3 : decode cB_find 3 = .ok (.sipush 512, 3) := by decide +kernel
theorem dB_find_6 : decode cB_find 6 = .ok (.if_icmp .ge 47, 3) := by decide +kernel
theorem dB_find_9 : decode cB_find 9 = .ok (.aload_n 0, 1) := by decide +kernel
theorem dB_find_10 : decode cB_find 10 = .ok (.getfield 9, 3) := by decide +kernel
theorem dB_find_13 : decode cB_find 13 = .ok (.iload_n 2, 1) := by decide +kernel
theorem dB_find_14 : decode cB_find 14 = .ok (.iaload, 1) := by decide +kernel
theorem dB_find_15 : decode cB_find 15 = .ok (.istore_n 3, 1) := by decide +kernel
theorem dB_find_16 : decode cB_find 16 = .ok (.iload_n 3, 1) := by decide +kernel
theorem dB_find_17 : decode cB_find 17 = .ok (.aload_n 0, 1) := by decide +kernel
theorem dB_find_18 : decode cB_find 18 = .ok (.getfield 33, 3) := by decide +kernel
theorem dB_find_21 : decode cB_find 21 = .ok (.iconst (-1), 1) := by decide +kernel
theorem dB_find_22 : decode cB_find 22 = .ok (.ixor, 1) := by decide +kernel
theorem dB_find_23 : decode cB_find 23 = .ok (.iand, 1) := by decide +kernel
theorem dB_find_24 : decode cB_find 24 = .ok (.ifCond .ne 23, 3) := by decide +kernel
theorem dB_find_27 : decode cB_find 27 = .ok (.aload_n 0, 1) := by decide +kernel
theorem dB_find_28 : decode cB_find 28 = .ok (.getfield 18, 3) := by decide +kernel
theorem dB_find_31 : decode cB_find 31 = .ok (.iload_n 3, 1) := by decide +kernel
theorem dB_find_32 : decode cB_find 32 = .ok (.iaload, 1) := by decide +kernel
theorem dB_find_33 : decode cB_find 33 = .ok (.iload_n 1, 1) := by decide +kernel
theorem dB_find_34 : decode cB_find 34 = .ok (.if_icmp .gt 13, 3) := by decide +kernel
theorem dB_find_37 : decode cB_find 37 = .ok (.aload_n 0, 1) := by decide +kernel
theorem dB_find_38 : decode cB_find 38 = .ok (.iload_n 3, 1) := by decide +kernel
theorem dB_find_39 : decode cB_find 39 = .ok (.iload_n 1, 1) := by decide +kernel
theorem dB_find_40 : decode cB_find 40 = .ok (.invokevirtual 56, 3) := by decide +kernel
theorem dB_find_43 : decode cB_find 43 = .ok (.ifCond .eq 4, 3) := by decide +kernel
theorem dB_find_46 : decode cB_find 46 = .ok (.return_, 1) := by decide +kernel
theorem dB_find_47 : decode cB_find 47 = .ok (.iinc 2 1, 3) := by decide +kernel
theorem dB_find_50 : decode cB_find 50 = .ok (.goto (-48), 3) := by decide +kernel
theorem dB_find_53 : decode cB_find 53 = .ok (.return_, 1) := by decide +kernel
theorem dB_findFor_0 : decode cB_findFor 0 = .ok (.aload_n 0, 1) := by decide +kernel
theorem dB_findFor_1 : decode cB_findFor 1 = .ok (.getfield 33, 3) := by decide +kernel
theorem dB_findFor_4 : decode cB_findFor 4 = .ok (.iload_n 1, 1) := by decide +kernel
theorem dB_findFor_5 : decode cB_findFor 5 = .ok (.iconst (-1), 1) := by decide +kernel
theorem dB_findFor_6 : decode cB_findFor 6 = .ok (.ixor, 1) := by decide +kernel
theorem dB_findFor_7 : decode cB_findFor 7 = .ok (.iand, 1) := by decide +kernel
theorem dB_findFor_8 : decode cB_findFor 8 = .ok (.istore_n 3, 1) := by decide +kernel
theorem dB_findFor_9 : decode cB_findFor 9 = .ok (.iconst 0, 1) := by decide +kernel
theorem dB_findFor_10 : decode cB_findFor 10 = .ok (.istore 4, 2) := by decide +kernel
theorem dB_findFor_12 : decode cB_findFor 12 = .ok (.iload 4, 2) := by decide +kernel
theorem dB_findFor_14 : decode cB_findFor 14 = .ok (.sipush 512, 3) := by decide +kernel
theorem dB_findFor_17 : decode cB_findFor 17 = .ok (.if_icmp .ge 51, 3) := by decide +kernel
theorem dB_findFor_20 : decode cB_findFor 20 = .ok (.aload_n 0, 1) := by decide +kernel
theorem dB_findFor_21 : decode cB_findFor 21 = .ok (.getfield 9, 3) := by decide +kernel
theorem dB_findFor_24 : decode cB_findFor 24 = .ok (.iload 4, 2) := by decide +kernel
theorem dB_findFor_26 : decode cB_findFor 26 = .ok (.iaload, 1) := by decide +kernel
theorem dB_findFor_27 : decode cB_findFor 27 = .ok (.istore 5, 2) := by decide +kernel
theorem dB_findFor_29 : decode cB_findFor 29 = .ok (.iload 5, 2) := by decide +kernel
theorem dB_findFor_31 : decode cB_findFor 31 = .ok (.iload_n 3, 1) := by decide +kernel
theorem dB_findFor_32 : decode cB_findFor 32 = .ok (.iconst (-1), 1) := by decide +kernel
theorem dB_findFor_33 : decode cB_findFor 33 = .ok (.ixor, 1) := by decide +kernel
theorem dB_findFor_34 : decode cB_findFor 34 = .ok (.iand, 1) := by decide +kernel
theorem dB_findFor_35 : decode cB_findFor 35 = .ok (.ifCond .ne 27, 3) := by decide +kernel
theorem dB_findFor_38 : decode cB_findFor 38 = .ok (.aload_n 0, 1) := by decide +kernel
theorem dB_findFor_39 : decode cB_findFor 39 = .ok (.iload_n 1, 1) := by decide +kernel
theorem dB_findFor_40 : decode cB_findFor 40 = .ok (.iload 5, 2) := by decide +kernel
theorem dB_findFor_42 : decode cB_findFor 42 = .ok (.invokevirtual 60, 3) := by decide +kernel
theorem dB_findFor_45 : decode cB_findFor 45 = .ok (.iload_n 2, 1) := by decide +kernel
theorem dB_findFor_46 : decode cB_findFor 46 = .ok (.if_icmp .ne 16, 3) := by decide +kernel
theorem dB_findFor_49 : decode cB_findFor 49 = .ok (.aload_n 0, 1) := by decide +kernel
theorem dB_findFor_50 : decode cB_findFor 50 = .ok (.iload_n 1, 1) := by decide +kernel
theorem dB_findFor_51 : decode cB_findFor 51 = .ok (.putfield 63, 3) := by decide +kernel
theorem dB_findFor_54 : decode cB_findFor 54 = .ok (.aload_n 0, 1) := by decide +kernel
theorem dB_findFor_55 : decode cB_findFor 55 = .ok (.iload 5, 2) := by decide +kernel
theorem dB_findFor_57 : decode cB_findFor 57 = .ok (.putfield 66, 3) := by decide +kernel
theorem dB_findFor_60 : decode cB_findFor 60 = .ok (.iconst 1, 1) := by decide +kernel
theorem dB_findFor_61 : decode cB_findFor 61 = .ok (.ireturn, 1) := by decide +kernel
theorem dB_findFor_62 : decode cB_findFor 62 = .ok (.iinc 4 1, 3) := by decide +kernel
theorem dB_findFor_65 : decode cB_findFor 65 = .ok (.goto (-53), 3) := by decide +kernel
theorem dB_findFor_68 : decode cB_findFor 68 = .ok (.iconst 0, 1) := by decide +kernel
theorem dB_findFor_69 : decode cB_findFor 69 = .ok (.ireturn, 1) := by decide +kernel
end
section
theorem dF_init_0 : decode cF_init 0 = .ok (.aload_n 0, 1) := by decide +kernel
theorem dF_init_1 : decode cF_init 1 = .ok (.invokespecial 3, 3) := by decide +kernel
theorem dF_init_4 : decode cF_init 4 = .ok (.aload_n 0, 1) := by decide +kernel
theorem dF_init_5 : decode cF_init 5 = .ok (.new 9, 3) := by decide +kernel
theorem dF_init_8 : decode cF_init 8 = .ok (.dup, 1) := by decide +kernel
theorem dF_init_9 : decode cF_init 9 = .ok (.invokespecial 11, 3) := by decide +kernel
theorem dF_init_12 : decode cF_init 12 = .ok (.putfield 12, 3) := by decide +kernel
theorem dF_init_15 : decode cF_init 15 = .ok (.aload_n 0, 1) := by decide +kernel
theorem dF_init_16 : decode cF_init 16 = .ok (.new 16, 3) := by decide +kernel
theorem dF_init_19 : decode cF_init 19 = .ok (.dup, 1) := by decide +kernel
theorem dF_init_20 : decode cF_init 20 = .ok (.invokespecial 18, 3) := by decide +kernel
theorem dF_init_23 : decode cF_init 23 = .ok (.putfield 19, 3) := by decide +kernel
theorem dF_init_26 : decode cF_init 26 = .ok (.aload_n 0, 1) := by decide +kernel
theorem dF_init_27 : decode cF_init 27 = .ok (.new 23, 3) := by decide +kernel
theorem dF_init_30 : decode cF_init 30 = .ok (.dup, 1) := by decide +kernel
theorem dF_init_31 : decode cF_init 31 = .ok (.invokespecial 25, 3) := by decide +kernel
theorem dF_init_34 : decode cF_init 34 = .ok (.putfield 26, 3) := by decide +kernel
theorem dF_init_37 : decode cF_init 37 = .ok (.aload_n 0, 1) := by decide +kernel
theorem dF_init_38 : decode cF_init 38 = .ok (.new 30, 3) := by decide +kernel
theorem dF_init_41 : decode cF_init 41 = .ok (.dup, 1) := by decide +kernel
theorem dF_init_42 : decode cF_init 42 = .ok (.invokespecial 32, 3) := by decide +kernel
theorem dF_init_45 : decode cF_init 45 = .ok (.putfield 33, 3) := by decide +kernel
theorem dF_init_48 : decode cF_init 48 = .ok (.return_, 1) := by decide +kernel
theorem dF_begin_0 : decode cF_begin 0 = .ok (.iload_n 1, 1) := by decide +kernel
theorem dF_begin_1 : decode cF_begin 1 = .ok (.iconst 1, 1) := by decide +kernel
theorem dF_begin_2 : decode cF_begin 2 = .ok (.if_icmp .lt 9, 3) := by decide +kernel
theorem dF_begin_5 : decode cF_begin 5 = .ok (.iload_n 1, 1) := by decide +kernel
theorem dF_begin_6 : decode cF_begin 6 = .ok (.bipush 9, 2) := by decide +kernel
theorem dF_begin_8 : decode cF_begin 8 = .ok (.if_icmp .le 5, 3) := by decide +kernel
theorem dF_begin_11 : decode cF_begin 11 = .ok (.iconst 0, 1) := by decide +kernel
theorem dF_begin_12 : decode cF_begin 12 = .ok (.ireturn, 1) := by decide +kernel
theorem dF_begin_13 : decode cF_begin 13 = .ok (.aload_n 0, 1) := by decide +kernel
theorem dF_begin_14 : decode cF_begin 14 = .ok (.getfield 12, 3) := by decide +kernel
theorem dF_begin_17 : decode cF_begin 17 = .ok (.iload_n 1, 1) := by decide +kernel
theorem dF_begin_18 : decode cF_begin 18 = .ok (.invokevirtual 37, 3) := by decide +kernel
theorem dF_begin_21 : decode cF_begin 21 = .ok (.aload_n 0, 1) := by decide +kernel
theorem dF_begin_22 : decode cF_begin 22 = .ok (.getfield 33, 3) := by decide +kernel
theorem dF_begin_25 : decode cF_begin 25 = .ok (.invokevirtual 41, 3) := by decide +kernel
theorem dF_begin_28 : decode cF_begin 28 = .ok (.iconst 1, 1) := by decide +kernel
theorem dF_begin_29 : decode cF_begin 29 = .ok (.ireturn, 1) := by decide +kernel
theorem dF_edge_0 : decode cF_edge 0 = .ok (.aload_n 0, 1) := by decide +kernel
theorem dF_edge_1 : decode cF_edge 1 = .ok (.getfield 12, 3) := by decide +kernel
theorem dF_edge_4 : decode cF_edge 4 = .ok (.getfield 44, 3) := by decide +kernel
theorem dF_edge_7 : decode cF_edge 7 = .ok (.bipush 14, 2) := by decide +kernel
theorem dF_edge_9 : decode cF_edge 9 = .ok (.if_icmp .ge 30, 3) := by decide +kernel
theorem dF_edge_12 : decode cF_edge 12 = .ok (.iload_n 1, 1) := by decide +kernel
theorem dF_edge_13 : decode cF_edge 13 = .ok (.iload_n 2, 1) := by decide +kernel
theorem dF_edge_14 : decode cF_edge 14 = .ok (.if_icmp .eq 25, 3) := by decide +kernel
theorem dF_edge_17 : decode cF_edge 17 = .ok (.aload_n 0, 1) := by decide +kernel
theorem dF_edge_18 : decode cF_edge 18 = .ok (.getfield 12, 3) := by decide +kernel
theorem dF_edge_21 : decode cF_edge 21 = .ok (.iload_n 1, 1) := by decide +kernel
theorem dF_edge_22 : decode cF_edge 22 = .ok (.invokevirtual 48, 3) := by decide +kernel
theorem dF_edge_25 : decode cF_edge 25 = .ok (.ifCond .eq 14, 3) := by decide +kernel
theorem dF_edge_28 : decode cF_edge 28 = .ok (.aload_n 0, 1) := by decide +kernel
theorem dF_edge_29 : decode cF_edge 29 = .ok (.getfield 12, 3) := by decide +kernel
theorem dF_edge_32 : decode cF_edge 32 = .ok (.iload_n 2, 1) := by decide +kernel
theorem dF_edge_33 : decode cF_edge 33 = .ok (.invokevirtual 48, 3) := by decide +kernel
theorem dF_edge_36 : decode cF_edge 36 = .ok (.ifCond .ne 5, 3) := by decide +kernel
theorem dF_edge_39 : decode cF_edge 39 = .ok (.iconst (-1), 1) := by decide +kernel
theorem dF_edge_40 : decode cF_edge 40 = .ok (.ireturn, 1) := by decide +kernel
theorem dF_edge_41 : decode cF_edge 41 = .ok (.aload_n 0, 1) := by decide +kernel
theorem dF_edge_42 : decode cF_edge 42 = .ok (.getfield 12, 3) := by decide +kernel
theorem dF_edge_45 : decode cF_edge 45 = .ok (.iload_n 1, 1) := by decide +kernel
theorem dF_edge_46 : decode cF_edge 46 = .ok (.iload_n 2, 1) := by decide +kernel
theorem dF_edge_47 : decode cF_edge 47 = .ok (.invokevirtual 52, 3) := by decide +kernel
theorem dF_edge_50 : decode cF_edge 50 = .ok (.aload_n 0, 1) := by decide +kernel
theorem dF_edge_51 : decode cF_edge 51 = .ok (.getfield 33, 3) := by decide +kernel
theorem dF_edge_54 : decode cF_edge 54 = .ok (.invokevirtual 41, 3) := by decide +kernel
theorem dF_edge_57 : decode cF_edge 57 = .ok (.aload_n 0, 1) := by decide +kernel
theorem dF_edge_58 : decode cF_edge 58 = .ok (.getfield 12, 3) := by decide +kernel
theorem dF_edge_61 : decode cF_edge 61 = .ok (.getfield 44, 3) := by decide +kernel
theorem dF_edge_64 : decode cF_edge 64 = .ok (.iconst 1, 1) := by decide +kernel
theorem dF_edge_65 : decode cF_edge 65 = .ok (.isub, 1) := by decide +kernel
theorem dF_edge_66 : decode cF_edge 66 = .ok (.ireturn, 1) := by decide +kernel
theorem dF_drop_0 : decode cF_drop 0 = .ok (.aload_n 0, 1) := by decide +kernel
theorem dF_drop_1 : decode cF_drop 1 = .ok (.getfield 12, 3) := by decide +kernel
theorem dF_drop_4 : decode cF_drop 4 = .ok (.iload_n 1, 1) := by decide +kernel
theorem dF_drop_5 : decode cF_drop 5 = .ok (.invokevirtual 56, 3) := by decide +kernel
theorem dF_drop_8 : decode cF_drop 8 = .ok (.ifCond .ne 5, 3) := by decide +kernel
theorem dF_drop_11 : decode cF_drop 11 = .ok (.iconst 0, 1) := by decide +kernel
theorem dF_drop_12 : decode cF_drop 12 = .ok (.ireturn, 1) := by decide +kernel
theorem dF_drop_13 : decode cF_drop 13 = .ok (.aload_n 0, 1) := by decide +kernel
theorem dF_drop_14 : decode cF_drop 14 = .ok (.getfield 12, 3) := by decide +kernel
theorem dF_drop_17 : decode cF_drop 17 = .ok (.iload_n 1, 1) := by decide +kernel
theorem dF_drop_18 : decode cF_drop 18 = .ok (.invokevirtual 59, 3) := by decide +kernel
theorem dF_drop_21 : decode cF_drop 21 = .ok (.aload_n 0, 1) := by decide +kernel
theorem dF_drop_22 : decode cF_drop 22 = .ok (.getfield 33, 3) := by decide +kernel
theorem dF_drop_25 : decode cF_drop 25 = .ok (.invokevirtual 41, 3) := by decide +kernel
theorem dF_drop_28 : decode cF_drop 28 = .ok (.iconst 1, 1) := by decide +kernel
theorem dF_drop_29 : decode cF_drop 29 = .ok (.ireturn, 1) := by decide +kernel
theorem dF_ask_0 : decode cF_ask 0 = .ok (.aload_n 0, 1) := by decide +kernel
theorem dF_ask_1 : decode cF_ask 1 = .ok (.getfield 12, 3) := by decide +kernel
theorem dF_ask_4 : decode cF_ask 4 = .ok (.iload_n 1, 1) := by decide +kernel
theorem dF_ask_5 : decode cF_ask 5 = .ok (.invokevirtual 48, 3) := by decide +kernel
theorem dF_ask_8 : decode cF_ask 8 = .ok (.ifCond .eq 13, 3) := by decide +kernel
theorem dF_ask_11 : decode cF_ask 11 = .ok (.iload_n 2, 1) := by decide +kernel
theorem dF_ask_12 : decode cF_ask 12 = .ok (.ifCond .lt 9, 3) := by decide +kernel
theorem dF_ask_15 : decode cF_ask 15 = .ok (.iload_n 2, 1) := by decide +kernel
theorem dF_ask_16 : decode cF_ask 16 = .ok (.bipush 14, 2) := by decide +kernel
theorem dF_ask_18 : decode cF_ask 18 = .ok (.if_icmp .le 5, 3) := by decide +kernel
theorem dF_ask_21 : decode cF_ask 21 = .ok (.iconst 0, 1) := by decide +kernel
theorem dF_ask_22 : decode cF_ask 22 = .ok (.ireturn, 1) := by decide +kernel
theorem dF_ask_23 : decode cF_ask 23 = .ok (.aload_n 0, 1) := by decide +kernel
theorem dF_ask_24 : decode cF_ask 24 = .ok (.getfield 12, 3) := by decide +kernel
theorem dF_ask_27 : decode cF_ask 27 = .ok (.getfield 62, 3) := by decide +kernel
theorem dF_ask_30 : decode cF_ask 30 = .ok (.iload_n 1, 1) := by decide +kernel
theorem dF_ask_31 : decode cF_ask 31 = .ok (.iload_n 2, 1) := by decide +kernel
theorem dF_ask_32 : decode cF_ask 32 = .ok (.iastore, 1) := by decide +kernel
theorem dF_ask_33 : decode cF_ask 33 = .ok (.aload_n 0, 1) := by decide +kernel
theorem dF_ask_34 : decode cF_ask 34 = .ok (.getfield 33, 3) := by decide +kernel
theorem dF_ask_37 : decode cF_ask 37 = .ok (.invokevirtual 41, 3) := by decide +kernel
theorem dF_ask_40 : decode cF_ask 40 = .ok (.iconst 1, 1) := by decide +kernel
theorem dF_ask_41 : decode cF_ask 41 = .ok (.ireturn, 1) := by decide +kernel
theorem dF_vertices_0 : decode cF_vertices 0 = .ok (.aload_n 0, 1) := by decide +kernel
theorem dF_vertices_1 : decode cF_vertices 1 = .ok (.getfield 12, 3) := by decide +kernel
theorem dF_vertices_4 : decode cF_vertices 4 = .ok (.getfield 66, 3) := by decide +kernel
theorem dF_vertices_7 : decode cF_vertices 7 = .ok (.ireturn, 1) := by decide +kernel
theorem dF_edges_0 : decode cF_edges 0 = .ok (.aload_n 0, 1) := by decide +kernel
theorem dF_edges_1 : decode cF_edges 1 = .ok (.getfield 12, 3) := by decide +kernel
theorem dF_edges_4 : decode cF_edges 4 = .ok (.getfield 44, 3) := by decide +kernel
theorem dF_edges_7 : decode cF_edges 7 = .ok (.ireturn, 1) := by decide +kernel
theorem dF_end_0 : decode cF_end 0 = .ok (.aload_n 0, 1) := by decide +kernel
theorem dF_end_1 : decode cF_end 1 = .ok (.getfield 12, 3) := by decide +kernel
theorem dF_end_4 : decode cF_end 4 = .ok (.iload_n 1, 1) := by decide +kernel
theorem dF_end_5 : decode cF_end 5 = .ok (.invokevirtual 56, 3) := by decide +kernel
theorem dF_end_8 : decode cF_end 8 = .ok (.ifCond .eq 12, 3) := by decide +kernel
theorem dF_end_11 : decode cF_end 11 = .ok (.iload_n 2, 1) := by decide +kernel
theorem dF_end_12 : decode cF_end 12 = .ok (.ifCond .lt 8, 3) := by decide +kernel
theorem dF_end_15 : decode cF_end 15 = .ok (.iload_n 2, 1) := by decide +kernel
theorem dF_end_16 : decode cF_end 16 = .ok (.iconst 1, 1) := by decide +kernel
theorem dF_end_17 : decode cF_end 17 = .ok (.if_icmp .le 5, 3) := by decide +kernel
theorem dF_end_20 : decode cF_end 20 = .ok (.iconst (-1), 1) := by decide +kernel
theorem dF_end_21 : decode cF_end 21 = .ok (.ireturn, 1) := by decide +kernel
theorem dF_end_22 : decode cF_end 22 = .ok (.iload_n 2, 1) := by decide +kernel
theorem dF_end_23 : decode cF_end 23 = .ok (.ifCond .ne 15, 3) := by decide +kernel
theorem dF_end_26 : decode cF_end 26 = .ok (.aload_n 0, 1) := by decide +kernel
theorem dF_end_27 : decode cF_end 27 = .ok (.getfield 12, 3) := by decide +kernel
theorem dF_end_30 : decode cF_end 30 = .ok (.getfield 69, 3) := by decide +kernel
theorem dF_end_33 : decode cF_end 33 = .ok (.iload_n 1, 1) := by decide +kernel
theorem dF_end_34 : decode cF_end 34 = .ok (.iaload, 1) := by decide +kernel
theorem dF_end_35 : decode cF_end 35 = .ok (.goto 12, 3) := by decide +kernel
theorem dF_end_38 : decode cF_end 38 = .ok (.aload_n 0, 1) := by decide +kernel
theorem dF_end_39 : decode cF_end 39 = .ok (.getfield 12, 3) := by decide +kernel
theorem dF_end_42 : decode cF_end 42 = .ok (.getfield 72, 3) := by decide +kernel
theorem dF_end_45 : decode cF_end 45 = .ok (.iload_n 1, 1) := by decide +kernel
theorem dF_end_46 : decode cF_end 46 = .ok (.iaload, 1) := by decide +kernel
theorem dF_end_47 : decode cF_end 47 = .ok (.ireturn, 1) := by decide +kernel
theorem dF_demand_0 : decode cF_demand 0 = .ok (.aload_n 0, 1) := by decide +kernel
theorem dF_demand_1 : decode cF_demand 1 = .ok (.getfield 12, 3) := by decide +kernel
theorem dF_demand_4 : decode cF_demand 4 = .ok (.iload_n 1, 1) := by decide +kernel
theorem dF_demand_5 : decode cF_demand 5 = .ok (.invokevirtual 48, 3) := by decide +kernel
theorem dF_demand_8 : decode cF_demand 8 = .ok (.ifCond .eq 15, 3) := by decide +kernel
theorem dF_demand_11 : decode cF_demand 11 = .ok (.aload_n 0, 1) := by decide +kernel
theorem dF_demand_12 : decode cF_demand 12 = .ok (.getfield 12, 3) := by decide +kernel
theorem dF_demand_15 : decode cF_demand 15 = .ok (.getfield 62, 3) := by decide +kernel
theorem dF_demand_18 : decode cF_demand 18 = .ok (.iload_n 1, 1) := by decide +kernel
theorem dF_demand_19 : decode cF_demand 19 = .ok (.iaload, 1) := by decide +kernel
theorem dF_demand_20 : decode cF_demand 20 = .ok (.goto 4, 3) := by decide +kernel
theorem dF_demand_23 : decode cF_demand 23 = .ok (.iconst (-1), 1) := by decide +kernel
theorem dF_demand_24 : decode cF_demand 24 = .ok (.ireturn, 1) := by decide +kernel
theorem dF_judge_0 : decode cF_judge 0 = .ok (.iload_n 1, 1) := by decide +kernel
theorem dF_judge_1 : decode cF_judge 1 = .ok (.ifCond .lt 15, 3) := by decide +kernel
theorem dF_judge_4 : decode cF_judge 4 = .ok (.iload_n 1, 1) := by decide +kernel
theorem dF_judge_5 : decode cF_judge 5 = .ok (.aload_n 0, 1) := by decide +kernel
theorem dF_judge_6 : decode cF_judge 6 = .ok (.getfield 12, 3) := by decide +kernel
theorem dF_judge_9 : decode cF_judge 9 = .ok (.getfield 44, 3) := by decide +kernel
theorem dF_judge_12 : decode cF_judge 12 = .ok (.ishr, 1) := by decide +kernel
theorem dF_judge_13 : decode cF_judge 13 = .ok (.ifCond .eq 5, 3) := by decide +kernel
theorem dF_judge_16 : decode cF_judge 16 = .ok (.iconst (-1), 1) := by decide +kernel
theorem dF_judge_17 : decode cF_judge 17 = .ok (.ireturn, 1) := by decide +kernel
theorem dF_judge_18 : decode cF_judge 18 = .ok (.iconst 2, 1) := by decide +kernel
theorem dF_judge_19 : decode cF_judge 19 = .ok (.istore_n 2, 1) := by decide +kernel
theorem dF_judge_20 : decode cF_judge 20 = .ok (.iconst 0, 1) := by decide +kernel
theorem dF_judge_21 : decode cF_judge 21 = .ok (.istore_n 3, 1) := by decide +kernel
theorem dF_judge_22 : decode cF_judge 22 = .ok (.iload_n 3, 1) := by decide +kernel
theorem dF_judge_23 : decode cF_judge 23 = .ok (.aload_n 0, 1) := by decide +kernel
theorem dF_judge_24 : decode cF_judge 24 = .ok (.getfield 12, 3) := by decide +kernel
theorem dF_judge_27 : decode cF_judge 27 = .ok (.getfield 66, 3) := by decide +kernel
theorem dF_judge_30 : decode cF_judge 30 = .ok (.if_icmp .ge 52, 3) := by decide +kernel
theorem dF_judge_33 : decode cF_judge 33 = .ok (.aload_n 0, 1) := by decide +kernel
theorem dF_judge_34 : decode cF_judge 34 = .ok (.getfield 12, 3) := by decide +kernel
theorem dF_judge_37 : decode cF_judge 37 = .ok (.iload_n 3, 1) := by decide +kernel
theorem dF_judge_38 : decode cF_judge 38 = .ok (.iload_n 1, 1) := by decide +kernel
theorem dF_judge_39 : decode cF_judge 39 = .ok (.invokevirtual 75, 3) := by decide +kernel
theorem dF_judge_42 : decode cF_judge 42 = .ok (.istore 4, 2) := by decide +kernel
theorem dF_judge_44 : decode cF_judge 44 = .ok (.iload 4, 2) := by decide +kernel
theorem dF_judge_46 : decode cF_judge 46 = .ok (.aload_n 0, 1) := by decide +kernel
theorem dF_judge_47 : decode cF_judge 47 = .ok (.getfield 12, 3) := by decide +kernel
theorem dF_judge_50 : decode cF_judge 50 = .ok (.getfield 62, 3) := by decide +kernel
theorem dF_judge_53 : decode cF_judge 53 = .ok (.iload_n 3, 1) := by decide +kernel
theorem dF_judge_54 : decode cF_judge 54 = .ok (.iaload, 1) := by decide +kernel
theorem dF_judge_55 : decode cF_judge 55 = .ok (.if_icmp .le 5, 3) := by decide +kernel
theorem dF_judge_58 : decode cF_judge 58 = .ok (.iconst 0, 1) := by decide +kernel
theorem dF_judge_59 : decode cF_judge 59 = .ok (.ireturn, 1) := by decide +kernel
theorem dF_judge_60 : decode cF_judge 60 = .ok (.iload 4, 2) := by decide +kernel
theorem dF_judge_62 : decode cF_judge 62 = .ok (.aload_n 0, 1) := by decide +kernel
theorem dF_judge_63 : decode cF_judge 63 = .ok (.getfield 12, 3) := by decide +kernel
theorem dF_judge_66 : decode cF_judge 66 = .ok (.getfield 62, 3) := by decide +kernel
theorem dF_judge_69 : decode cF_judge 69 = .ok (.iload_n 3, 1) := by decide +kernel
theorem dF_judge_70 : decode cF_judge 70 = .ok (.iaload, 1) := by decide +kernel
theorem dF_judge_71 : decode cF_judge 71 = .ok (.if_icmp .ge 5, 3) := by decide +kernel
theorem dF_judge_74 : decode cF_judge 74 = .ok (.iconst 1, 1) := by decide +kernel
theorem dF_judge_75 : decode cF_judge 75 = .ok (.istore_n 2, 1) := by decide +kernel
theorem dF_judge_76 : decode cF_judge 76 = .ok (.iinc 3 1, 3) := by decide +kernel
theorem dF_judge_79 : decode cF_judge 79 = .ok (.goto (-57), 3) := by decide +kernel
theorem dF_judge_82 : decode cF_judge 82 = .ok (.iload_n 2, 1) := by decide +kernel
theorem dF_judge_83 : decode cF_judge 83 = .ok (.ireturn, 1) := by decide +kernel
theorem dF_most_0 : decode cF_most 0 = .ok (.aload_n 0, 1) := by decide +kernel
theorem dF_most_1 : decode cF_most 1 = .ok (.invokevirtual 79, 3) := by decide +kernel
theorem dF_most_4 : decode cF_most 4 = .ok (.aload_n 0, 1) := by decide +kernel
theorem dF_most_5 : decode cF_most 5 = .ok (.getfield 33, 3) := by decide +kernel
theorem dF_most_8 : decode cF_most 8 = .ok (.getfield 82, 3) := by decide +kernel
theorem dF_most_11 : decode cF_most 11 = .ok (.ireturn, 1) := by decide +kernel
theorem dF_best_0 : decode cF_best 0 = .ok (.aload_n 0, 1) := by decide +kernel
theorem dF_best_1 : decode cF_best 1 = .ok (.invokevirtual 79, 3) := by decide +kernel
theorem dF_best_4 : decode cF_best 4 = .ok (.aload_n 0, 1) := by decide +kernel
theorem dF_best_5 : decode cF_best 5 = .ok (.getfield 33, 3) := by decide +kernel
theorem dF_best_8 : decode cF_best 8 = .ok (.getfield 85, 3) := by decide +kernel
theorem dF_best_11 : decode cF_best 11 = .ok (.ireturn, 1) := by decide +kernel
theorem dF_factor_0 : decode cF_factor 0 = .ok (.aload_n 0, 1) := by decide +kernel
theorem dF_factor_1 : decode cF_factor 1 = .ok (.invokevirtual 79, 3) := by decide +kernel
theorem dF_factor_4 : decode cF_factor 4 = .ok (.iconst 2, 1) := by decide +kernel
theorem dF_factor_5 : decode cF_factor 5 = .ok (.aload_n 0, 1) := by decide +kernel
theorem dF_factor_6 : decode cF_factor 6 = .ok (.getfield 33, 3) := by decide +kernel
theorem dF_factor_9 : decode cF_factor 9 = .ok (.getfield 82, 3) := by decide +kernel
theorem dF_factor_12 : decode cF_factor 12 = .ok (.imul, 1) := by decide +kernel
theorem dF_factor_13 : decode cF_factor 13 = .ok (.aload_n 0, 1) := by decide +kernel
theorem dF_factor_14 : decode cF_factor 14 = .ok (.getfield 12, 3) := by decide +kernel
theorem dF_factor_17 : decode cF_factor 17 = .ok (.invokevirtual 88, 3) := by decide +kernel
theorem dF_factor_20 : decode cF_factor 20 = .ok (.if_icmp .ne 13, 3) := by decide +kernel
theorem dF_factor_23 : decode cF_factor 23 = .ok (.aload_n 0, 1) := by decide +kernel
theorem dF_factor_24 : decode cF_factor 24 = .ok (.getfield 33, 3) := by decide +kernel
theorem dF_factor_27 : decode cF_factor 27 = .ok (.getfield 85, 3) := by decide +kernel
theorem dF_factor_30 : decode cF_factor 30 = .ok (.goto 4, 3) := by decide +kernel
theorem dF_factor_33 : decode cF_factor 33 = .ok (.iconst (-1), 1) := by decide +kernel
theorem dF_factor_34 : decode cF_factor 34 = .ok (.ireturn, 1) := by decide +kernel
theorem dF_role_0 : decode cF_role 0 = .ok (.aload_n 0, 1) := by decide +kernel
theorem dF_role_1 : decode cF_role 1 = .ok (.getfield 12, 3) := by decide +kernel
theorem dF_role_4 : decode cF_role 4 = .ok (.iload_n 1, 1) := by decide +kernel
theorem dF_role_5 : decode cF_role 5 = .ok (.invokevirtual 56, 3) := by decide +kernel
theorem dF_role_8 : decode cF_role 8 = .ok (.ifCond .ne 5, 3) := by decide +kernel
theorem dF_role_11 : decode cF_role 11 = .ok (.iconst (-1), 1) := by decide +kernel
theorem dF_role_12 : decode cF_role 12 = .ok (.ireturn, 1) := by decide +kernel
theorem dF_role_13 : decode cF_role 13 = .ok (.aload_n 0, 1) := by decide +kernel
theorem dF_role_14 : decode cF_role 14 = .ok (.invokevirtual 79, 3) := by decide +kernel
theorem dF_role_17 : decode cF_role 17 = .ok (.aload_n 0, 1) := by decide +kernel
theorem dF_role_18 : decode cF_role 18 = .ok (.getfield 19, 3) := by decide +kernel
theorem dF_role_21 : decode cF_role 21 = .ok (.aload_n 0, 1) := by decide +kernel
theorem dF_role_22 : decode cF_role 22 = .ok (.getfield 12, 3) := by decide +kernel
theorem dF_role_25 : decode cF_role 25 = .ok (.iload_n 1, 1) := by decide +kernel
theorem dF_role_26 : decode cF_role 26 = .ok (.invokevirtual 92, 3) := by decide +kernel
theorem dF_role_29 : decode cF_role 29 = .ok (.aload_n 0, 1) := by decide +kernel
theorem dF_role_30 : decode cF_role 30 = .ok (.getfield 33, 3) := by decide +kernel
theorem dF_role_33 : decode cF_role 33 = .ok (.getfield 85, 3) := by decide +kernel
theorem dF_role_36 : decode cF_role 36 = .ok (.iload_n 1, 1) := by decide +kernel
theorem dF_role_37 : decode cF_role 37 = .ok (.ishr, 1) := by decide +kernel
theorem dF_role_38 : decode cF_role 38 = .ok (.iconst 1, 1) := by decide +kernel
theorem dF_role_39 : decode cF_role 39 = .ok (.iand, 1) := by decide +kernel
theorem dF_role_40 : decode cF_role 40 = .ok (.iconst 1, 1) := by decide +kernel
theorem dF_role_41 : decode cF_role 41 = .ok (.if_icmp .ne 26, 3) := by decide +kernel
theorem dF_role_44 : decode cF_role 44 = .ok (.aload_n 0, 1) := by decide +kernel
theorem dF_role_45 : decode cF_role 45 = .ok (.getfield 19, 3) := by decide +kernel
theorem dF_role_48 : decode cF_role 48 = .ok (.aload_n 0, 1) := by decide +kernel
theorem dF_role_49 : decode cF_role 49 = .ok (.getfield 33, 3) := by decide +kernel
theorem dF_role_52 : decode cF_role 52 = .ok (.getfield 82, 3) := by decide +kernel
theorem dF_role_55 : decode cF_role 55 = .ok (.invokevirtual 96, 3) := by decide +kernel
theorem dF_role_58 : decode cF_role 58 = .ok (.ifCond .eq 7, 3) := by decide +kernel
theorem dF_role_61 : decode cF_role 61 = .ok (.iconst 1, 1) := by decide +kernel
theorem dF_role_62 : decode cF_role 62 = .ok (.goto 4, 3) := by decide +kernel
theorem dF_role_65 : decode cF_role 65 = .ok (.iconst 2, 1) := by decide +kernel
theorem dF_role_66 : decode cF_role 66 = .ok (.ireturn, 1) := by decide +kernel
theorem dF_role_67 : decode cF_role 67 = .ok (.aload_n 0, 1) := by decide +kernel
theorem dF_role_68 : decode cF_role 68 = .ok (.getfield 19, 3) := by decide +kernel
theorem dF_role_71 : decode cF_role 71 = .ok (.aload_n 0, 1) := by decide +kernel
theorem dF_role_72 : decode cF_role 72 = .ok (.getfield 12, 3) := by decide +kernel
theorem dF_role_75 : decode cF_role 75 = .ok (.getfield 69, 3) := by decide +kernel
theorem dF_role_78 : decode cF_role 78 = .ok (.iload_n 1, 1) := by decide +kernel
theorem dF_role_79 : decode cF_role 79 = .ok (.iaload, 1) := by decide +kernel
theorem dF_role_80 : decode cF_role 80 = .ok (.invokevirtual 99, 3) := by decide +kernel
theorem dF_role_83 : decode cF_role 83 = .ok (.ifCond .eq 26, 3) := by decide +kernel
theorem dF_role_86 : decode cF_role 86 = .ok (.aload_n 0, 1) := by decide +kernel
theorem dF_role_87 : decode cF_role 87 = .ok (.getfield 19, 3) := by decide +kernel
theorem dF_role_90 : decode cF_role 90 = .ok (.aload_n 0, 1) := by decide +kernel
theorem dF_role_91 : decode cF_role 91 = .ok (.getfield 12, 3) := by decide +kernel
theorem dF_role_94 : decode cF_role 94 = .ok (.getfield 72, 3) := by decide +kernel
theorem dF_role_97 : decode cF_role 97 = .ok (.iload_n 1, 1) := by decide +kernel
theorem dF_role_98 : decode cF_role 98 = .ok (.iaload, 1) := by decide +kernel
theorem dF_role_99 : decode cF_role 99 = .ok (.invokevirtual 99, 3) := by decide +kernel
theorem dF_role_102 : decode cF_role 102 = .ok (.ifCond .eq 7, 3) := by decide +kernel
theorem dF_role_105 : decode cF_role 105 = .ok (.iconst 1, 1) := by decide +kernel
theorem dF_role_106 : decode cF_role 106 = .ok (.goto 4, 3) := by decide +kernel
theorem dF_role_109 : decode cF_role 109 = .ok (.iconst 0, 1) := by decide +kernel
theorem dF_role_110 : decode cF_role 110 = .ok (.istore_n 2, 1) := by decide +kernel
theorem dF_role_111 : decode cF_role 111 = .ok (.iload_n 2, 1) := by decide +kernel
theorem dF_role_112 : decode cF_role 112 = .ok (.ifCond .eq 26, 3) := by decide +kernel
theorem dF_role_115 : decode cF_role 115 = .ok (.aload_n 0, 1) := by decide +kernel
theorem dF_role_116 : decode cF_role 116 = .ok (.getfield 19, 3) := by decide +kernel
theorem dF_role_119 : decode cF_role 119 = .ok (.aload_n 0, 1) := by decide +kernel
theorem dF_role_120 : decode cF_role 120 = .ok (.getfield 33, 3) := by decide +kernel
theorem dF_role_123 : decode cF_role 123 = .ok (.getfield 82, 3) := by decide +kernel
theorem dF_role_126 : decode cF_role 126 = .ok (.iconst 1, 1) := by decide +kernel
theorem dF_role_127 : decode cF_role 127 = .ok (.isub, 1) := by decide +kernel
theorem dF_role_128 : decode cF_role 128 = .ok (.invokevirtual 96, 3) := by decide +kernel
theorem dF_role_131 : decode cF_role 131 = .ok (.ifCond .eq 7, 3) := by decide +kernel
theorem dF_role_134 : decode cF_role 134 = .ok (.iconst 1, 1) := by decide +kernel
theorem dF_role_135 : decode cF_role 135 = .ok (.goto 4, 3) := by decide +kernel
theorem dF_role_138 : decode cF_role 138 = .ok (.iconst 0, 1) := by decide +kernel
theorem dF_role_139 : decode cF_role 139 = .ok (.ireturn, 1) := by decide +kernel
theorem dF_slack_0 : decode cF_slack 0 = .ok (.aload_n 0, 1) := by decide +kernel
theorem dF_slack_1 : decode cF_slack 1 = .ok (.getfield 12, 3) := by decide +kernel
theorem dF_slack_4 : decode cF_slack 4 = .ok (.iload_n 1, 1) := by decide +kernel
theorem dF_slack_5 : decode cF_slack 5 = .ok (.invokevirtual 48, 3) := by decide +kernel
theorem dF_slack_8 : decode cF_slack 8 = .ok (.ifCond .ne 5, 3) := by decide +kernel
theorem dF_slack_11 : decode cF_slack 11 = .ok (.iconst (-1), 1) := by decide +kernel
theorem dF_slack_12 : decode cF_slack 12 = .ok (.ireturn, 1) := by decide +kernel
theorem dF_slack_13 : decode cF_slack 13 = .ok (.aload_n 0, 1) := by decide +kernel
theorem dF_slack_14 : decode cF_slack 14 = .ok (.invokevirtual 79, 3) := by decide +kernel
theorem dF_slack_17 : decode cF_slack 17 = .ok (.aload_n 0, 1) := by decide +kernel
theorem dF_slack_18 : decode cF_slack 18 = .ok (.getfield 12, 3) := by decide +kernel
theorem dF_slack_21 : decode cF_slack 21 = .ok (.iload_n 1, 1) := by decide +kernel
theorem dF_slack_22 : decode cF_slack 22 = .ok (.aload_n 0, 1) := by decide +kernel
theorem dF_slack_23 : decode cF_slack 23 = .ok (.getfield 33, 3) := by decide +kernel
theorem dF_slack_26 : decode cF_slack 26 = .ok (.getfield 85, 3) := by decide +kernel
theorem dF_slack_29 : decode cF_slack 29 = .ok (.invokevirtual 75, 3) := by decide +kernel
theorem dF_slack_32 : decode cF_slack 32 = .ok (.istore_n 2, 1) := by decide +kernel
theorem dF_slack_33 : decode cF_slack 33 = .ok (.iload_n 2, 1) := by decide +kernel
theorem dF_slack_34 : decode cF_slack 34 = .ok (.ifCond .le 27, 3) := by decide +kernel
theorem dF_slack_37 : decode cF_slack 37 = .ok (.aload_n 0, 1) := by decide +kernel
theorem dF_slack_38 : decode cF_slack 38 = .ok (.iload_n 1, 1) := by decide +kernel
theorem dF_slack_39 : decode cF_slack 39 = .ok (.iload_n 2, 1) := by decide +kernel
end
section
theorem dF_slack_40 : decode cF_slack 40 = .ok (.iconst 1, 1) := by decide +kernel
theorem dF_slack_41 : decode cF_slack 41 = .ok (.isub, 1) := by decide +kernel
theorem dF_slack_42 : decode cF_slack 42 = .ok (.aload_n 0, 1) := by decide +kernel
theorem dF_slack_43 : decode cF_slack 43 = .ok (.getfield 33, 3) := by decide +kernel
theorem dF_slack_46 : decode cF_slack 46 = .ok (.getfield 82, 3) := by decide +kernel
theorem dF_slack_49 : decode cF_slack 49 = .ok (.invokevirtual 102, 3) := by decide +kernel
theorem dF_slack_52 : decode cF_slack 52 = .ok (.ifCond .eq 9, 3) := by decide +kernel
theorem dF_slack_55 : decode cF_slack 55 = .ok (.iinc 2 (-1), 3) := by decide +kernel
theorem dF_slack_58 : decode cF_slack 58 = .ok (.goto (-25), 3) := by decide +kernel
theorem dF_slack_61 : decode cF_slack 61 = .ok (.aload_n 0, 1) := by decide +kernel
theorem dF_slack_62 : decode cF_slack 62 = .ok (.getfield 12, 3) := by decide +kernel
theorem dF_slack_65 : decode cF_slack 65 = .ok (.getfield 62, 3) := by decide +kernel
theorem dF_slack_68 : decode cF_slack 68 = .ok (.iload_n 1, 1) := by decide +kernel
theorem dF_slack_69 : decode cF_slack 69 = .ok (.iaload, 1) := by decide +kernel
theorem dF_slack_70 : decode cF_slack 70 = .ok (.iload_n 2, 1) := by decide +kernel
theorem dF_slack_71 : decode cF_slack 71 = .ok (.isub, 1) := by decide +kernel
theorem dF_slack_72 : decode cF_slack 72 = .ok (.ireturn, 1) := by decide +kernel
theorem dF_gain_0 : decode cF_gain 0 = .ok (.aload_n 0, 1) := by decide +kernel
theorem dF_gain_1 : decode cF_gain 1 = .ok (.getfield 12, 3) := by decide +kernel
theorem dF_gain_4 : decode cF_gain 4 = .ok (.iload_n 1, 1) := by decide +kernel
theorem dF_gain_5 : decode cF_gain 5 = .ok (.invokevirtual 48, 3) := by decide +kernel
theorem dF_gain_8 : decode cF_gain 8 = .ok (.ifCond .ne 5, 3) := by decide +kernel
theorem dF_gain_11 : decode cF_gain 11 = .ok (.iconst (-1), 1) := by decide +kernel
theorem dF_gain_12 : decode cF_gain 12 = .ok (.ireturn, 1) := by decide +kernel
theorem dF_gain_13 : decode cF_gain 13 = .ok (.aload_n 0, 1) := by decide +kernel
theorem dF_gain_14 : decode cF_gain 14 = .ok (.invokevirtual 79, 3) := by decide +kernel
theorem dF_gain_17 : decode cF_gain 17 = .ok (.aload_n 0, 1) := by decide +kernel
theorem dF_gain_18 : decode cF_gain 18 = .ok (.iload_n 1, 1) := by decide +kernel
theorem dF_gain_19 : decode cF_gain 19 = .ok (.aload_n 0, 1) := by decide +kernel
theorem dF_gain_20 : decode cF_gain 20 = .ok (.getfield 12, 3) := by decide +kernel
theorem dF_gain_23 : decode cF_gain 23 = .ok (.getfield 62, 3) := by decide +kernel
theorem dF_gain_26 : decode cF_gain 26 = .ok (.iload_n 1, 1) := by decide +kernel
theorem dF_gain_27 : decode cF_gain 27 = .ok (.iaload, 1) := by decide +kernel
theorem dF_gain_28 : decode cF_gain 28 = .ok (.iconst 1, 1) := by decide +kernel
theorem dF_gain_29 : decode cF_gain 29 = .ok (.iadd, 1) := by decide +kernel
theorem dF_gain_30 : decode cF_gain 30 = .ok (.aload_n 0, 1) := by decide +kernel
theorem dF_gain_31 : decode cF_gain 31 = .ok (.getfield 33, 3) := by decide +kernel
theorem dF_gain_34 : decode cF_gain 34 = .ok (.getfield 82, 3) := by decide +kernel
theorem dF_gain_37 : decode cF_gain 37 = .ok (.iconst 1, 1) := by decide +kernel
theorem dF_gain_38 : decode cF_gain 38 = .ok (.iadd, 1) := by decide +kernel
theorem dF_gain_39 : decode cF_gain 39 = .ok (.invokevirtual 102, 3) := by decide +kernel
theorem dF_gain_42 : decode cF_gain 42 = .ok (.ifCond .eq 7, 3) := by decide +kernel
theorem dF_gain_45 : decode cF_gain 45 = .ok (.iconst 1, 1) := by decide +kernel
theorem dF_gain_46 : decode cF_gain 46 = .ok (.goto 4, 3) := by decide +kernel
theorem dF_gain_49 : decode cF_gain 49 = .ok (.iconst 0, 1) := by decide +kernel
theorem dF_gain_50 : decode cF_gain 50 = .ok (.ireturn, 1) := by decide +kernel
theorem dF_bound_0 : decode cF_bound 0 = .ok (.iload_n 1, 1) := by decide +kernel
theorem dF_bound_1 : decode cF_bound 1 = .ok (.ifCond .lt 27, 3) := by decide +kernel
theorem dF_bound_4 : decode cF_bound 4 = .ok (.iload_n 2, 1) := by decide +kernel
theorem dF_bound_5 : decode cF_bound 5 = .ok (.ifCond .lt 23, 3) := by decide +kernel
theorem dF_bound_8 : decode cF_bound 8 = .ok (.iload_n 1, 1) := by decide +kernel
theorem dF_bound_9 : decode cF_bound 9 = .ok (.iload_n 2, 1) := by decide +kernel
theorem dF_bound_10 : decode cF_bound 10 = .ok (.iand, 1) := by decide +kernel
theorem dF_bound_11 : decode cF_bound 11 = .ok (.ifCond .ne 17, 3) := by decide +kernel
theorem dF_bound_14 : decode cF_bound 14 = .ok (.iload_n 1, 1) := by decide +kernel
theorem dF_bound_15 : decode cF_bound 15 = .ok (.iload_n 2, 1) := by decide +kernel
theorem dF_bound_16 : decode cF_bound 16 = .ok (.ior, 1) := by decide +kernel
theorem dF_bound_17 : decode cF_bound 17 = .ok (.aload_n 0, 1) := by decide +kernel
theorem dF_bound_18 : decode cF_bound 18 = .ok (.getfield 12, 3) := by decide +kernel
theorem dF_bound_21 : decode cF_bound 21 = .ok (.getfield 66, 3) := by decide +kernel
theorem dF_bound_24 : decode cF_bound 24 = .ok (.ishr, 1) := by decide +kernel
theorem dF_bound_25 : decode cF_bound 25 = .ok (.ifCond .eq 5, 3) := by decide +kernel
theorem dF_bound_28 : decode cF_bound 28 = .ok (.iconst (-1), 1) := by decide +kernel
theorem dF_bound_29 : decode cF_bound 29 = .ok (.ireturn, 1) := by decide +kernel
theorem dF_bound_30 : decode cF_bound 30 = .ok (.aload_n 0, 1) := by decide +kernel
theorem dF_bound_31 : decode cF_bound 31 = .ok (.invokevirtual 106, 3) := by decide +kernel
theorem dF_bound_34 : decode cF_bound 34 = .ok (.aload_n 0, 1) := by decide +kernel
theorem dF_bound_35 : decode cF_bound 35 = .ok (.getfield 26, 3) := by decide +kernel
theorem dF_bound_38 : decode cF_bound 38 = .ok (.iload_n 1, 1) := by decide +kernel
theorem dF_bound_39 : decode cF_bound 39 = .ok (.iload_n 2, 1) := by decide +kernel
theorem dF_bound_40 : decode cF_bound 40 = .ok (.invokevirtual 109, 3) := by decide +kernel
theorem dF_bound_43 : decode cF_bound 43 = .ok (.ireturn, 1) := by decide +kernel
theorem dF_witness_0 : decode cF_witness 0 = .ok (.iload_n 1, 1) := by decide +kernel
theorem dF_witness_1 : decode cF_witness 1 = .ok (.ifCond .lt 8, 3) := by decide +kernel
theorem dF_witness_4 : decode cF_witness 4 = .ok (.iload_n 1, 1) := by decide +kernel
theorem dF_witness_5 : decode cF_witness 5 = .ok (.iconst 1, 1) := by decide +kernel
theorem dF_witness_6 : decode cF_witness 6 = .ok (.if_icmp .le 5, 3) := by decide +kernel
theorem dF_witness_9 : decode cF_witness 9 = .ok (.iconst (-1), 1) := by decide +kernel
theorem dF_witness_10 : decode cF_witness 10 = .ok (.ireturn, 1) := by decide +kernel
theorem dF_witness_11 : decode cF_witness 11 = .ok (.aload_n 0, 1) := by decide +kernel
theorem dF_witness_12 : decode cF_witness 12 = .ok (.invokevirtual 112, 3) := by decide +kernel
theorem dF_witness_15 : decode cF_witness 15 = .ok (.iload_n 1, 1) := by decide +kernel
theorem dF_witness_16 : decode cF_witness 16 = .ok (.ifCond .ne 13, 3) := by decide +kernel
theorem dF_witness_19 : decode cF_witness 19 = .ok (.aload_n 0, 1) := by decide +kernel
theorem dF_witness_20 : decode cF_witness 20 = .ok (.getfield 33, 3) := by decide +kernel
theorem dF_witness_23 : decode cF_witness 23 = .ok (.getfield 115, 3) := by decide +kernel
theorem dF_witness_26 : decode cF_witness 26 = .ok (.goto 10, 3) := by decide +kernel
theorem dF_witness_29 : decode cF_witness 29 = .ok (.aload_n 0, 1) := by decide +kernel
theorem dF_witness_30 : decode cF_witness 30 = .ok (.getfield 33, 3) := by decide +kernel
theorem dF_witness_33 : decode cF_witness 33 = .ok (.getfield 118, 3) := by decide +kernel
theorem dF_witness_36 : decode cF_witness 36 = .ok (.ireturn, 1) := by decide +kernel
theorem dF_solve_0 : decode cF_solve 0 = .ok (.aload_n 0, 1) := by decide +kernel
theorem dF_solve_1 : decode cF_solve 1 = .ok (.getfield 33, 3) := by decide +kernel
theorem dF_solve_4 : decode cF_solve 4 = .ok (.getfield 121, 3) := by decide +kernel
theorem dF_solve_7 : decode cF_solve 7 = .ok (.ifCond .ne 58, 3) := by decide +kernel
theorem dF_solve_10 : decode cF_solve 10 = .ok (.aload_n 0, 1) := by decide +kernel
theorem dF_solve_11 : decode cF_solve 11 = .ok (.getfield 19, 3) := by decide +kernel
theorem dF_solve_14 : decode cF_solve 14 = .ok (.aload_n 0, 1) := by decide +kernel
theorem dF_solve_15 : decode cF_solve 15 = .ok (.getfield 12, 3) := by decide +kernel
theorem dF_solve_18 : decode cF_solve 18 = .ok (.iconst (-1), 1) := by decide +kernel
theorem dF_solve_19 : decode cF_solve 19 = .ok (.invokevirtual 92, 3) := by decide +kernel
theorem dF_solve_22 : decode cF_solve 22 = .ok (.aload_n 0, 1) := by decide +kernel
theorem dF_solve_23 : decode cF_solve 23 = .ok (.getfield 19, 3) := by decide +kernel
theorem dF_solve_26 : decode cF_solve 26 = .ok (.invokevirtual 125, 3) := by decide +kernel
theorem dF_solve_29 : decode cF_solve 29 = .ok (.aload_n 0, 1) := by decide +kernel
theorem dF_solve_30 : decode cF_solve 30 = .ok (.getfield 33, 3) := by decide +kernel
theorem dF_solve_33 : decode cF_solve 33 = .ok (.aload_n 0, 1) := by decide +kernel
theorem dF_solve_34 : decode cF_solve 34 = .ok (.getfield 19, 3) := by decide +kernel
theorem dF_solve_37 : decode cF_solve 37 = .ok (.getfield 128, 3) := by decide +kernel
theorem dF_solve_40 : decode cF_solve 40 = .ok (.putfield 85, 3) := by decide +kernel
theorem dF_solve_43 : decode cF_solve 43 = .ok (.aload_n 0, 1) := by decide +kernel
theorem dF_solve_44 : decode cF_solve 44 = .ok (.getfield 33, 3) := by decide +kernel
theorem dF_solve_47 : decode cF_solve 47 = .ok (.aload_n 0, 1) := by decide +kernel
theorem dF_solve_48 : decode cF_solve 48 = .ok (.getfield 19, 3) := by decide +kernel
theorem dF_solve_51 : decode cF_solve 51 = .ok (.getfield 131, 3) := by decide +kernel
theorem dF_solve_54 : decode cF_solve 54 = .ok (.putfield 82, 3) := by decide +kernel
theorem dF_solve_57 : decode cF_solve 57 = .ok (.aload_n 0, 1) := by decide +kernel
theorem dF_solve_58 : decode cF_solve 58 = .ok (.getfield 33, 3) := by decide +kernel
theorem dF_solve_61 : decode cF_solve 61 = .ok (.iconst 1, 1) := by decide +kernel
theorem dF_solve_62 : decode cF_solve 62 = .ok (.putfield 121, 3) := by decide +kernel
theorem dF_solve_65 : decode cF_solve 65 = .ok (.return_, 1) := by decide +kernel
theorem dF_tabulate_0 : decode cF_tabulate 0 = .ok (.aload_n 0, 1) := by decide +kernel
theorem dF_tabulate_1 : decode cF_tabulate 1 = .ok (.getfield 33, 3) := by decide +kernel
theorem dF_tabulate_4 : decode cF_tabulate 4 = .ok (.getfield 134, 3) := by decide +kernel
theorem dF_tabulate_7 : decode cF_tabulate 7 = .ok (.ifCond .ne 22, 3) := by decide +kernel
theorem dF_tabulate_10 : decode cF_tabulate 10 = .ok (.aload_n 0, 1) := by decide +kernel
theorem dF_tabulate_11 : decode cF_tabulate 11 = .ok (.getfield 26, 3) := by decide +kernel
theorem dF_tabulate_14 : decode cF_tabulate 14 = .ok (.aload_n 0, 1) := by decide +kernel
theorem dF_tabulate_15 : decode cF_tabulate 15 = .ok (.getfield 12, 3) := by decide +kernel
theorem dF_tabulate_18 : decode cF_tabulate 18 = .ok (.invokevirtual 137, 3) := by decide +kernel
theorem dF_tabulate_21 : decode cF_tabulate 21 = .ok (.aload_n 0, 1) := by decide +kernel
theorem dF_tabulate_22 : decode cF_tabulate 22 = .ok (.getfield 33, 3) := by decide +kernel
theorem dF_tabulate_25 : decode cF_tabulate 25 = .ok (.iconst 1, 1) := by decide +kernel
theorem dF_tabulate_26 : decode cF_tabulate 26 = .ok (.putfield 134, 3) := by decide +kernel
theorem dF_tabulate_29 : decode cF_tabulate 29 = .ok (.return_, 1) := by decide +kernel
theorem dF_explain_0 : decode cF_explain 0 = .ok (.aload_n 0, 1) := by decide +kernel
theorem dF_explain_1 : decode cF_explain 1 = .ok (.getfield 33, 3) := by decide +kernel
theorem dF_explain_4 : decode cF_explain 4 = .ok (.getfield 140, 3) := by decide +kernel
theorem dF_explain_7 : decode cF_explain 7 = .ok (.ifCond .ne 61, 3) := by decide +kernel
theorem dF_explain_10 : decode cF_explain 10 = .ok (.aload_n 0, 1) := by decide +kernel
theorem dF_explain_11 : decode cF_explain 11 = .ok (.invokevirtual 79, 3) := by decide +kernel
theorem dF_explain_14 : decode cF_explain 14 = .ok (.aload_n 0, 1) := by decide +kernel
theorem dF_explain_15 : decode cF_explain 15 = .ok (.invokevirtual 106, 3) := by decide +kernel
theorem dF_explain_18 : decode cF_explain 18 = .ok (.aload_n 0, 1) := by decide +kernel
theorem dF_explain_19 : decode cF_explain 19 = .ok (.getfield 26, 3) := by decide +kernel
theorem dF_explain_22 : decode cF_explain 22 = .ok (.aload_n 0, 1) := by decide +kernel
theorem dF_explain_23 : decode cF_explain 23 = .ok (.getfield 33, 3) := by decide +kernel
theorem dF_explain_26 : decode cF_explain 26 = .ok (.getfield 82, 3) := by decide +kernel
theorem dF_explain_29 : decode cF_explain 29 = .ok (.invokevirtual 143, 3) := by decide +kernel
theorem dF_explain_32 : decode cF_explain 32 = .ok (.aload_n 0, 1) := by decide +kernel
theorem dF_explain_33 : decode cF_explain 33 = .ok (.getfield 33, 3) := by decide +kernel
theorem dF_explain_36 : decode cF_explain 36 = .ok (.aload_n 0, 1) := by decide +kernel
theorem dF_explain_37 : decode cF_explain 37 = .ok (.getfield 26, 3) := by decide +kernel
theorem dF_explain_40 : decode cF_explain 40 = .ok (.getfield 146, 3) := by decide +kernel
theorem dF_explain_43 : decode cF_explain 43 = .ok (.putfield 115, 3) := by decide +kernel
theorem dF_explain_46 : decode cF_explain 46 = .ok (.aload_n 0, 1) := by decide +kernel
theorem dF_explain_47 : decode cF_explain 47 = .ok (.getfield 33, 3) := by decide +kernel
theorem dF_explain_50 : decode cF_explain 50 = .ok (.aload_n 0, 1) := by decide +kernel
theorem dF_explain_51 : decode cF_explain 51 = .ok (.getfield 26, 3) := by decide +kernel
theorem dF_explain_54 : decode cF_explain 54 = .ok (.getfield 149, 3) := by decide +kernel
theorem dF_explain_57 : decode cF_explain 57 = .ok (.putfield 118, 3) := by decide +kernel
theorem dF_explain_60 : decode cF_explain 60 = .ok (.aload_n 0, 1) := by decide +kernel
theorem dF_explain_61 : decode cF_explain 61 = .ok (.getfield 33, 3) := by decide +kernel
theorem dF_explain_64 : decode cF_explain 64 = .ok (.iconst 1, 1) := by decide +kernel
theorem dF_explain_65 : decode cF_explain 65 = .ok (.putfield 140, 3) := by decide +kernel
theorem dF_explain_68 : decode cF_explain 68 = .ok (.return_, 1) := by decide +kernel
theorem dF_reachesWith_0 : decode cF_reachesWith 0 = .ok (.aload_n 0, 1) := by decide +kernel
theorem dF_reachesWith_1 : decode cF_reachesWith 1 = .ok (.getfield 19, 3) := by decide +kernel
theorem dF_reachesWith_4 : decode cF_reachesWith 4 = .ok (.aload_n 0, 1) := by decide +kernel
theorem dF_reachesWith_5 : decode cF_reachesWith 5 = .ok (.getfield 12, 3) := by decide +kernel
theorem dF_reachesWith_8 : decode cF_reachesWith 8 = .ok (.iconst (-1), 1) := by decide +kernel
theorem dF_reachesWith_9 : decode cF_reachesWith 9 = .ok (.invokevirtual 92, 3) := by decide +kernel
theorem dF_reachesWith_12 : decode cF_reachesWith 12 = .ok (.aload_n 0, 1) := by decide +kernel
theorem dF_reachesWith_13 : decode cF_reachesWith 13 = .ok (.getfield 19, 3) := by decide +kernel
theorem dF_reachesWith_16 : decode cF_reachesWith 16 = .ok (.getfield 152, 3) := by decide +kernel
theorem dF_reachesWith_19 : decode cF_reachesWith 19 = .ok (.iload_n 1, 1) := by decide +kernel
theorem dF_reachesWith_20 : decode cF_reachesWith 20 = .ok (.iload_n 2, 1) := by decide +kernel
theorem dF_reachesWith_21 : decode cF_reachesWith 21 = .ok (.iastore, 1) := by decide +kernel
theorem dF_reachesWith_22 : decode cF_reachesWith 22 = .ok (.aload_n 0, 1) := by decide +kernel
theorem dF_reachesWith_23 : decode cF_reachesWith 23 = .ok (.getfield 19, 3) := by decide +kernel
theorem dF_reachesWith_26 : decode cF_reachesWith 26 = .ok (.iload_n 3, 1) := by decide +kernel
theorem dF_reachesWith_27 : decode cF_reachesWith 27 = .ok (.invokevirtual 96, 3) := by decide +kernel
theorem dF_reachesWith_30 : decode cF_reachesWith 30 = .ok (.ireturn, 1) := by decide +kernel
end
section
theorem dM_init_0 : decode cM_init 0 = .ok (.aload_n 0, 1) := by decide +kernel
theorem dM_init_1 : decode cM_init 1 = .ok (.invokespecial 1, 3) := by decide +kernel
theorem dM_init_4 : decode cM_init 4 = .ok (.aload_n 0, 1) := by decide +kernel
theorem dM_init_5 : decode cM_init 5 = .ok (.iconst 1, 1) := by decide +kernel
theorem dM_init_6 : decode cM_init 6 = .ok (.putfield 7, 3) := by decide +kernel
theorem dM_init_9 : decode cM_init 9 = .ok (.aload_n 0, 1) := by decide +kernel
theorem dM_init_10 : decode cM_init 10 = .ok (.bipush 14, 2) := by decide +kernel
theorem dM_init_12 : decode cM_init 12 = .ok (.newarray .int, 2) := by decide +kernel
theorem dM_init_14 : decode cM_init 14 = .ok (.putfield 13, 3) := by decide +kernel
theorem dM_init_17 : decode cM_init 17 = .ok (.aload_n 0, 1) := by decide +kernel
theorem dM_init_18 : decode cM_init 18 = .ok (.bipush 14, 2) := by decide +kernel
theorem dM_init_20 : decode cM_init 20 = .ok (.newarray .int, 2) := by decide +kernel
theorem dM_init_22 : decode cM_init 22 = .ok (.putfield 17, 3) := by decide +kernel
theorem dM_init_25 : decode cM_init 25 = .ok (.aload_n 0, 1) := by decide +kernel
theorem dM_init_26 : decode cM_init 26 = .ok (.bipush 9, 2) := by decide +kernel
theorem dM_init_28 : decode cM_init 28 = .ok (.newarray .int, 2) := by decide +kernel
theorem dM_init_30 : decode cM_init 30 = .ok (.putfield 20, 3) := by decide +kernel
theorem dM_init_33 : decode cM_init 33 = .ok (.aload_n 0, 1) := by decide +kernel
theorem dM_init_34 : decode cM_init 34 = .ok (.bipush 9, 2) := by decide +kernel
theorem dM_init_36 : decode cM_init 36 = .ok (.newarray .int, 2) := by decide +kernel
theorem dM_init_38 : decode cM_init 38 = .ok (.putfield 23, 3) := by decide +kernel
theorem dM_init_41 : decode cM_init 41 = .ok (.return_, 1) := by decide +kernel
theorem dM_isVertex_0 : decode cM_isVertex 0 = .ok (.iload_n 1, 1) := by decide +kernel
theorem dM_isVertex_1 : decode cM_isVertex 1 = .ok (.ifCond .lt 15, 3) := by decide +kernel
theorem dM_isVertex_4 : decode cM_isVertex 4 = .ok (.iload_n 1, 1) := by decide +kernel
theorem dM_isVertex_5 : decode cM_isVertex 5 = .ok (.aload_n 0, 1) := by decide +kernel
theorem dM_isVertex_6 : decode cM_isVertex 6 = .ok (.getfield 7, 3) := by decide +kernel
theorem dM_isVertex_9 : decode cM_isVertex 9 = .ok (.if_icmp .ge 7, 3) := by decide +kernel
theorem dM_isVertex_12 : decode cM_isVertex 12 = .ok (.iconst 1, 1) := by decide +kernel
theorem dM_isVertex_13 : decode cM_isVertex 13 = .ok (.goto 4, 3) := by decide +kernel
theorem dM_isVertex_16 : decode cM_isVertex 16 = .ok (.iconst 0, 1) := by decide +kernel
theorem dM_isVertex_17 : decode cM_isVertex 17 = .ok (.ireturn, 1) := by decide +kernel
theorem dM_isEdge_0 : decode cM_isEdge 0 = .ok (.iload_n 1, 1) := by decide +kernel
theorem dM_isEdge_1 : decode cM_isEdge 1 = .ok (.ifCond .lt 15, 3) := by decide +kernel
theorem dM_isEdge_4 : decode cM_isEdge 4 = .ok (.iload_n 1, 1) := by decide +kernel
theorem dM_isEdge_5 : decode cM_isEdge 5 = .ok (.aload_n 0, 1) := by decide +kernel
theorem dM_isEdge_6 : decode cM_isEdge 6 = .ok (.getfield 26, 3) := by decide +kernel
theorem dM_isEdge_9 : decode cM_isEdge 9 = .ok (.if_icmp .ge 7, 3) := by decide +kernel
theorem dM_isEdge_12 : decode cM_isEdge 12 = .ok (.iconst 1, 1) := by decide +kernel
theorem dM_isEdge_13 : decode cM_isEdge 13 = .ok (.goto 4, 3) := by decide +kernel
theorem dM_isEdge_16 : decode cM_isEdge 16 = .ok (.iconst 0, 1) := by decide +kernel
theorem dM_isEdge_17 : decode cM_isEdge 17 = .ok (.ireturn, 1) := by decide +kernel
theorem dM_begin_0 : decode cM_begin 0 = .ok (.iload_n 1, 1) := by decide +kernel
theorem dM_begin_1 : decode cM_begin 1 = .ok (.iconst 1, 1) := by decide +kernel
theorem dM_begin_2 : decode cM_begin 2 = .ok (.if_icmp .lt 9, 3) := by decide +kernel
theorem dM_begin_5 : decode cM_begin 5 = .ok (.iload_n 1, 1) := by decide +kernel
theorem dM_begin_6 : decode cM_begin 6 = .ok (.bipush 9, 2) := by decide +kernel
theorem dM_begin_8 : decode cM_begin 8 = .ok (.if_icmp .le 5, 3) := by decide +kernel
theorem dM_begin_11 : decode cM_begin 11 = .ok (.iconst 0, 1) := by decide +kernel
theorem dM_begin_12 : decode cM_begin 12 = .ok (.ireturn, 1) := by decide +kernel
theorem dM_begin_13 : decode cM_begin 13 = .ok (.aload_n 0, 1) := by decide +kernel
theorem dM_begin_14 : decode cM_begin 14 = .ok (.iload_n 1, 1) := by decide +kernel
theorem dM_begin_15 : decode cM_begin 15 = .ok (.putfield 7, 3) := by decide +kernel
theorem dM_begin_18 : decode cM_begin 18 = .ok (.aload_n 0, 1) := by decide +kernel
theorem dM_begin_19 : decode cM_begin 19 = .ok (.iconst 0, 1) := by decide +kernel
theorem dM_begin_20 : decode cM_begin 20 = .ok (.putfield 26, 3) := by decide +kernel
theorem dM_begin_23 : decode cM_begin 23 = .ok (.iconst 0, 1) := by decide +kernel
theorem dM_begin_24 : decode cM_begin 24 = .ok (.istore_n 2, 1) := by decide +kernel
theorem dM_begin_25 : decode cM_begin 25 = .ok (.iload_n 2, 1) := by decide +kernel
theorem dM_begin_26 : decode cM_begin 26 = .ok (.bipush 9, 2) := by decide +kernel
theorem dM_begin_28 : decode cM_begin 28 = .ok (.if_icmp .ge 16, 3) := by decide +kernel
theorem dM_begin_31 : decode cM_begin 31 = .ok (.aload_n 0, 1) := by decide +kernel
theorem dM_begin_32 : decode cM_begin 32 = .ok (.getfield 20, 3) := by decide +kernel
theorem dM_begin_35 : decode cM_begin 35 = .ok (.iload_n 2, 1) := by decide +kernel
theorem dM_begin_36 : decode cM_begin 36 = .ok (.iconst 0, 1) := by decide +kernel
theorem dM_begin_37 : decode cM_begin 37 = .ok (.iastore, 1) := by decide +kernel
theorem dM_begin_38 : decode cM_begin 38 = .ok (.iinc 2 1, 3) := by decide +kernel
theorem dM_begin_41 : decode cM_begin 41 = .ok (.goto (-16), 3) := by decide +kernel
theorem dM_begin_44 : decode cM_begin 44 = .ok (.iconst 1, 1) := by decide +kernel
theorem dM_begin_45 : decode cM_begin 45 = .ok (.ireturn, 1) := by decide +kernel
theorem dM_edge_0 : decode cM_edge 0 = .ok (.aload_n 0, 1) := by decide +kernel
theorem dM_edge_1 : decode cM_edge 1 = .ok (.getfield 26, 3) := by decide +kernel
theorem dM_edge_4 : decode cM_edge 4 = .ok (.bipush 14, 2) := by decide +kernel
theorem dM_edge_6 : decode cM_edge 6 = .ok (.if_icmp .eq 24, 3) := by decide +kernel
theorem dM_edge_9 : decode cM_edge 9 = .ok (.aload_n 0, 1) := by decide +kernel
theorem dM_edge_10 : decode cM_edge 10 = .ok (.iload_n 1, 1) := by decide +kernel
theorem dM_edge_11 : decode cM_edge 11 = .ok (.invokevirtual 29, 3) := by decide +kernel
theorem dM_edge_14 : decode cM_edge 14 = .ok (.ifCond .eq 16, 3) := by decide +kernel
theorem dM_edge_17 : decode cM_edge 17 = .ok (.aload_n 0, 1) := by decide +kernel
theorem dM_edge_18 : decode cM_edge 18 = .ok (.iload_n 2, 1) := by decide +kernel
theorem dM_edge_19 : decode cM_edge 19 = .ok (.invokevirtual 29, 3) := by decide +kernel
theorem dM_edge_22 : decode cM_edge 22 = .ok (.ifCond .eq 8, 3) := by decide +kernel
theorem dM_edge_25 : decode cM_edge 25 = .ok (.iload_n 1, 1) := by decide +kernel
theorem dM_edge_26 : decode cM_edge 26 = .ok (.iload_n 2, 1) := by decide +kernel
theorem dM_edge_27 : decode cM_edge 27 = .ok (.if_icmp .ne 5, 3) := by decide +kernel
theorem dM_edge_30 : decode cM_edge 30 = .ok (.iconst (-1), 1) := by decide +kernel
theorem dM_edge_31 : decode cM_edge 31 = .ok (.ireturn, 1) := by decide +kernel
theorem dM_edge_32 : decode cM_edge 32 = .ok (.aload_n 0, 1) := by decide +kernel
theorem dM_edge_33 : decode cM_edge 33 = .ok (.getfield 13, 3) := by decide +kernel
theorem dM_edge_36 : decode cM_edge 36 = .ok (.aload_n 0, 1) := by decide +kernel
theorem dM_edge_37 : decode cM_edge 37 = .ok (.getfield 26, 3) := by decide +kernel
theorem dM_edge_40 : decode cM_edge 40 = .ok (.iload_n 1, 1) := by decide +kernel
theorem dM_edge_41 : decode cM_edge 41 = .ok (.iastore, 1) := by decide +kernel
theorem dM_edge_42 : decode cM_edge 42 = .ok (.aload_n 0, 1) := by decide +kernel
theorem dM_edge_43 : decode cM_edge 43 = .ok (.getfield 17, 3) := by decide +kernel
theorem dM_edge_46 : decode cM_edge 46 = .ok (.aload_n 0, 1) := by decide +kernel
theorem dM_edge_47 : decode cM_edge 47 = .ok (.getfield 26, 3) := by decide +kernel
theorem dM_edge_50 : decode cM_edge 50 = .ok (.iload_n 2, 1) := by decide +kernel
theorem dM_edge_51 : decode cM_edge 51 = .ok (.iastore, 1) := by decide +kernel
theorem dM_edge_52 : decode cM_edge 52 = .ok (.aload_n 0, 1) := by decide +kernel
theorem dM_edge_53 : decode cM_edge 53 = .ok (.dup, 1) := by decide +kernel
theorem dM_edge_54 : decode cM_edge 54 = .ok (.getfield 26, 3) := by decide +kernel
theorem dM_edge_57 : decode cM_edge 57 = .ok (.iconst 1, 1) := by decide +kernel
theorem dM_edge_58 : decode cM_edge 58 = .ok (.iadd, 1) := by decide +kernel
theorem dM_edge_59 : decode cM_edge 59 = .ok (.putfield 26, 3) := by decide +kernel
theorem dM_edge_62 : decode cM_edge 62 = .ok (.aload_n 0, 1) := by decide +kernel
theorem dM_edge_63 : decode cM_edge 63 = .ok (.getfield 26, 3) := by decide +kernel
theorem dM_edge_66 : decode cM_edge 66 = .ok (.iconst 1, 1) := by decide +kernel
theorem dM_edge_67 : decode cM_edge 67 = .ok (.isub, 1) := by decide +kernel
theorem dM_edge_68 : decode cM_edge 68 = .ok (.ireturn, 1) := by decide +kernel
theorem dM_drop_0 : decode cM_drop 0 = .ok (.aload_n 0, 1) := by decide +kernel
theorem dM_drop_1 : decode cM_drop 1 = .ok (.iload_n 1, 1) := by decide +kernel
theorem dM_drop_2 : decode cM_drop 2 = .ok (.invokevirtual 33, 3) := by decide +kernel
theorem dM_drop_5 : decode cM_drop 5 = .ok (.ifCond .ne 5, 3) := by decide +kernel
theorem dM_drop_8 : decode cM_drop 8 = .ok (.iconst 0, 1) := by decide +kernel
theorem dM_drop_9 : decode cM_drop 9 = .ok (.ireturn, 1) := by decide +kernel
theorem dM_drop_10 : decode cM_drop 10 = .ok (.aload_n 0, 1) := by decide +kernel
theorem dM_drop_11 : decode cM_drop 11 = .ok (.dup, 1) := by decide +kernel
theorem dM_drop_12 : decode cM_drop 12 = .ok (.getfield 26, 3) := by decide +kernel
theorem dM_drop_15 : decode cM_drop 15 = .ok (.iconst 1, 1) := by decide +kernel
theorem dM_drop_16 : decode cM_drop 16 = .ok (.isub, 1) := by decide +kernel
theorem dM_drop_17 : decode cM_drop 17 = .ok (.putfield 26, 3) := by decide +kernel
theorem dM_drop_20 : decode cM_drop 20 = .ok (.iload_n 1, 1) := by decide +kernel
theorem dM_drop_21 : decode cM_drop 21 = .ok (.istore_n 2, 1) := by decide +kernel
theorem dM_drop_22 : decode cM_drop 22 = .ok (.iload_n 2, 1) := by decide +kernel
theorem dM_drop_23 : decode cM_drop 23 = .ok (.aload_n 0, 1) := by decide +kernel
theorem dM_drop_24 : decode cM_drop 24 = .ok (.getfield 26, 3) := by decide +kernel
theorem dM_drop_27 : decode cM_drop 27 = .ok (.if_icmp .ge 37, 3) := by decide +kernel
theorem dM_drop_30 : decode cM_drop 30 = .ok (.aload_n 0, 1) := by decide +kernel
theorem dM_drop_31 : decode cM_drop 31 = .ok (.getfield 13, 3) := by decide +kernel
theorem dM_drop_34 : decode cM_drop 34 = .ok (.iload_n 2, 1) := by decide +kernel
theorem dM_drop_35 : decode cM_drop 35 = .ok (.aload_n 0, 1) := by decide +kernel
theorem dM_drop_36 : decode cM_drop 36 = .ok (.getfield 13, 3) := by decide +kernel
theorem dM_drop_39 : decode cM_drop 39 = .ok (.iload_n 2, 1) := by decide +kernel
theorem dM_drop_40 : decode cM_drop 40 = .ok (.iconst 1, 1) := by decide +kernel
theorem dM_drop_41 : decode cM_drop 41 = .ok (.iadd, 1) := by decide +kernel
theorem dM_drop_42 : decode cM_drop 42 = .ok (.iaload, 1) := by decide +kernel
theorem dM_drop_43 : decode cM_drop 43 = .ok (.iastore, 1) := by decide +kernel
theorem dM_drop_44 : decode cM_drop 44 = .ok (.aload_n 0, 1) := by decide +kernel
theorem dM_drop_45 : decode cM_drop 45 = .ok (.getfield 17, 3) := by decide +kernel
theorem dM_drop_48 : decode cM_drop 48 = .ok (.iload_n 2, 1) := by decide +kernel
theorem dM_drop_49 : decode cM_drop 49 = .ok (.aload_n 0, 1) := by decide +kernel
theorem dM_drop_50 : decode cM_drop 50 = .ok (.getfield 17, 3) := by decide +kernel
theorem dM_drop_53 : decode cM_drop 53 = .ok (.iload_n 2, 1) := by decide +kernel
theorem dM_drop_54 : decode cM_drop 54 = .ok (.iconst 1, 1) := by decide +kernel
theorem dM_drop_55 : decode cM_drop 55 = .ok (.iadd, 1) := by decide +kernel
theorem dM_drop_56 : decode cM_drop 56 = .ok (.iaload, 1) := by decide +kernel
theorem dM_drop_57 : decode cM_drop 57 = .ok (.iastore, 1) := by decide +kernel
theorem dM_drop_58 : decode cM_drop 58 = .ok (.iinc 2 1, 3) := by decide +kernel
theorem dM_drop_61 : decode cM_drop 61 = .ok (.goto (-39), 3) := by decide +kernel
theorem dM_drop_64 : decode cM_drop 64 = .ok (.iconst 1, 1) := by decide +kernel
theorem dM_drop_65 : decode cM_drop 65 = .ok (.ireturn, 1) := by decide +kernel
theorem dM_ask_0 : decode cM_ask 0 = .ok (.aload_n 0, 1) := by decide +kernel
theorem dM_ask_1 : decode cM_ask 1 = .ok (.iload_n 1, 1) := by decide +kernel
theorem dM_ask_2 : decode cM_ask 2 = .ok (.invokevirtual 29, 3) := by decide +kernel
theorem dM_ask_5 : decode cM_ask 5 = .ok (.ifCond .eq 13, 3) := by decide +kernel
theorem dM_ask_8 : decode cM_ask 8 = .ok (.iload_n 2, 1) := by decide +kernel
theorem dM_ask_9 : decode cM_ask 9 = .ok (.ifCond .lt 9, 3) := by decide +kernel
theorem dM_ask_12 : decode cM_ask 12 = .ok (.iload_n 2, 1) := by decide +kernel
theorem dM_ask_13 : decode cM_ask 13 = .ok (.bipush 14, 2) := by decide +kernel
theorem dM_ask_15 : decode cM_ask 15 = .ok (.if_icmp .le 5, 3) := by decide +kernel
theorem dM_ask_18 : decode cM_ask 18 = .ok (.iconst 0, 1) := by decide +kernel
theorem dM_ask_19 : decode cM_ask 19 = .ok (.ireturn, 1) := by decide +kernel
theorem dM_ask_20 : decode cM_ask 20 = .ok (.aload_n 0, 1) := by decide +kernel
theorem dM_ask_21 : decode cM_ask 21 = .ok (.getfield 20, 3) := by decide +kernel
theorem dM_ask_24 : decode cM_ask 24 = .ok (.iload_n 1, 1) := by decide +kernel
theorem dM_ask_25 : decode cM_ask 25 = .ok (.iload_n 2, 1) := by decide +kernel
theorem dM_ask_26 : decode cM_ask 26 = .ok (.iastore, 1) := by decide +kernel
theorem dM_ask_27 : decode cM_ask 27 = .ok (.iconst 1, 1) := by decide +kernel
theorem dM_ask_28 : decode cM_ask 28 = .ok (.ireturn, 1) := by decide +kernel
theorem dM_vertices_0 : decode cM_vertices 0 = .ok (.aload_n 0, 1) := by decide +kernel
theorem dM_vertices_1 : decode cM_vertices 1 = .ok (.getfield 7, 3) := by decide +kernel
theorem dM_vertices_4 : decode cM_vertices 4 = .ok (.ireturn, 1) := by decide +kernel
theorem dM_edges_0 : decode cM_edges 0 = .ok (.aload_n 0, 1) := by decide +kernel
theorem dM_edges_1 : decode cM_edges 1 = .ok (.getfield 26, 3) := by decide +kernel
theorem dM_edges_4 : decode cM_edges 4 = .ok (.ireturn, 1) := by decide +kernel
theorem dM_end_0 : decode cM_end 0 = .ok (.aload_n 0, 1) := by decide +kernel
theorem dM_end_1 : decode cM_end 1 = .ok (.iload_n 1, 1) := by decide +kernel
theorem dM_end_2 : decode cM_end 2 = .ok (.invokevirtual 33, 3) := by decide +kernel
theorem dM_end_5 : decode cM_end 5 = .ok (.ifCond .eq 12, 3) := by decide +kernel
theorem dM_end_8 : decode cM_end 8 = .ok (.iload_n 2, 1) := by decide +kernel
theorem dM_end_9 : decode cM_end 9 = .ok (.ifCond .lt 8, 3) := by decide +kernel
theorem dM_end_12 : decode cM_end 12 = .ok (.iload_n 2, 1) := by decide +kernel
theorem dM_end_13 : decode cM_end 13 = .ok (.iconst 1, 1) := by decide +kernel
theorem dM_end_14 : decode cM_end 14 = .ok (.if_icmp .le 7, 3) := by decide +kernel
theorem dM_end_17 : decode cM_end 17 = .ok (.iconst (-1), 1) := by decide +kernel
theorem dM_end_18 : decode cM_end 18 = .ok (.goto 22, 3) := by decide +kernel
theorem dM_end_21 : decode cM_end 21 = .ok (.iload_n 2, 1) := by decide +kernel
theorem dM_end_22 : decode cM_end 22 = .ok (.ifCond .ne 12, 3) := by decide +kernel
theorem dM_end_25 : decode cM_end 25 = .ok (.aload_n 0, 1) := by decide +kernel
theorem dM_end_26 : decode cM_end 26 = .ok (.getfield 13, 3) := by decide +kernel
theorem dM_end_29 : decode cM_end 29 = .ok (.iload_n 1, 1) := by decide +kernel
theorem dM_end_30 : decode cM_end 30 = .ok (.iaload, 1) := by decide +kernel
theorem dM_end_31 : decode cM_end 31 = .ok (.goto 9, 3) := by decide +kernel
theorem dM_end_34 : decode cM_end 34 = .ok (.aload_n 0, 1) := by decide +kernel
theorem dM_end_35 : decode cM_end 35 = .ok (.getfield 17, 3) := by decide +kernel
theorem dM_end_38 : decode cM_end 38 = .ok (.iload_n 1, 1) := by decide +kernel
theorem dM_end_39 : decode cM_end 39 = .ok (.iaload, 1) := by decide +kernel
theorem dM_end_40 : decode cM_end 40 = .ok (.ireturn, 1) := by decide +kernel
theorem dM_demand_0 : decode cM_demand 0 = .ok (.aload_n 0, 1) := by decide +kernel
theorem dM_demand_1 : decode cM_demand 1 = .ok (.iload_n 1, 1) := by decide +kernel
theorem dM_demand_2 : decode cM_demand 2 = .ok (.invokevirtual 29, 3) := by decide +kernel
theorem dM_demand_5 : decode cM_demand 5 = .ok (.ifCond .eq 12, 3) := by decide +kernel
theorem dM_demand_8 : decode cM_demand 8 = .ok (.aload_n 0, 1) := by decide +kernel
theorem dM_demand_9 : decode cM_demand 9 = .ok (.getfield 20, 3) := by decide +kernel
theorem dM_demand_12 : decode cM_demand 12 = .ok (.iload_n 1, 1) := by decide +kernel
theorem dM_demand_13 : decode cM_demand 13 = .ok (.iaload, 1) := by decide +kernel
theorem dM_demand_14 : decode cM_demand 14 = .ok (.goto 4, 3) := by decide +kernel
theorem dM_demand_17 : decode cM_demand 17 = .ok (.iconst (-1), 1) := by decide +kernel
theorem dM_demand_18 : decode cM_demand 18 = .ok (.ireturn, 1) := by decide +kernel
theorem dM_has_0 : decode cM_has 0 = .ok (.iload_n 0, 1) := by decide +kernel
theorem dM_has_1 : decode cM_has 1 = .ok (.iload_n 1, 1) := by decide +kernel
theorem dM_has_2 : decode cM_has 2 = .ok (.ishr, 1) := by decide +kernel
theorem dM_has_3 : decode cM_has 3 = .ok (.iconst 1, 1) := by decide +kernel
theorem dM_has_4 : decode cM_has 4 = .ok (.iand, 1) := by decide +kernel
theorem dM_has_5 : decode cM_has 5 = .ok (.iconst 1, 1) := by decide +kernel
theorem dM_has_6 : decode cM_has 6 = .ok (.if_icmp .ne 7, 3) := by decide +kernel
theorem dM_has_9 : decode cM_has 9 = .ok (.iconst 1, 1) := by decide +kernel
theorem dM_has_10 : decode cM_has 10 = .ok (.goto 4, 3) := by decide +kernel
theorem dM_has_13 : decode cM_has 13 = .ok (.iconst 0, 1) := by decide +kernel
theorem dM_has_14 : decode cM_has 14 = .ok (.ireturn, 1) := by decide +kernel
theorem dM_size_0 : decode cM_size 0 = .ok (.iconst 0, 1) := by decide +kernel
theorem dM_size_1 : decode cM_size 1 = .ok (.istore_n 1, 1) := by decide +kernel
theorem dM_size_2 : decode cM_size 2 = .ok (.iconst 0, 1) := by decide +kernel
theorem dM_size_3 : decode cM_size 3 = .ok (.istore_n 2, 1) := by decide +kernel
theorem dM_size_4 : decode cM_size 4 = .ok (.iload_n 2, 1) := by decide +kernel
theorem dM_size_5 : decode cM_size 5 = .ok (.bipush 14, 2) := by decide +kernel
theorem dM_size_7 : decode cM_size 7 = .ok (.if_icmp .ge 25, 3) := by decide +kernel
theorem dM_size_10 : decode cM_size 10 = .ok (.iload_n 0, 1) := by decide +kernel
theorem dM_size_11 : decode cM_size 11 = .ok (.iload_n 2, 1) := by decide +kernel
theorem dM_size_12 : decode cM_size 12 = .ok (.invokestatic 36, 3) := by decide +kernel
theorem dM_size_15 : decode cM_size 15 = .ok (.ifCond .eq 9, 3) := by decide +kernel
theorem dM_size_18 : decode cM_size 18 = .ok (.iload_n 1, 1) := by decide +kernel
theorem dM_size_19 : decode cM_size 19 = .ok (.iconst 1, 1) := by decide +kernel
theorem dM_size_20 : decode cM_size 20 = .ok (.iadd, 1) := by decide +kernel
theorem dM_size_21 : decode cM_size 21 = .ok (.goto 4, 3) := by decide +kernel
theorem dM_size_24 : decode cM_size 24 = .ok (.iload_n 1, 1) := by decide +kernel
theorem dM_size_25 : decode cM_size 25 = .ok (.istore_n 1, 1) := by decide +kernel
theorem dM_size_26 : decode cM_size 26 = .ok (.iinc 2 1, 3) := by decide +kernel
theorem dM_size_29 : decode cM_size 29 = .ok (.goto (-25), 3) := by decide +kernel
theorem dM_size_32 : decode cM_size 32 = .ok (.iload_n 1, 1) := by decide +kernel
theorem dM_size_33 : decode cM_size 33 = .ok (.ireturn, 1) := by decide +kernel
theorem dM_isBefore_0 : decode cM_isBefore 0 = .ok (.iload_n 0, 1) := by decide +kernel
theorem dM_isBefore_1 : decode cM_isBefore 1 = .ok (.invokestatic 40, 3) := by decide +kernel
theorem dM_isBefore_4 : decode cM_isBefore 4 = .ok (.iload_n 1, 1) := by decide +kernel
theorem dM_isBefore_5 : decode cM_isBefore 5 = .ok (.invokestatic 40, 3) := by decide +kernel
theorem dM_isBefore_8 : decode cM_isBefore 8 = .ok (.if_icmp .eq 20, 3) := by decide +kernel
theorem dM_isBefore_11 : decode cM_isBefore 11 = .ok (.iload_n 0, 1) := by decide +kernel
theorem dM_isBefore_12 : decode cM_isBefore 12 = .ok (.invokestatic 40, 3) := by decide +kernel
theorem dM_isBefore_15 : decode cM_isBefore 15 = .ok (.iload_n 1, 1) := by decide +kernel
theorem dM_isBefore_16 : decode cM_isBefore 16 = .ok (.invokestatic 40, 3) := by decide +kernel
theorem dM_isBefore_19 : decode cM_isBefore 19 = .ok (.if_icmp .ge 7, 3) := by decide +kernel
theorem dM_isBefore_22 : decode cM_isBefore 22 = .ok (.iconst 1, 1) := by decide +kernel
theorem dM_isBefore_23 : decode cM_isBefore 23 = .ok (.goto 4, 3) := by decide +kernel
theorem dM_isBefore_26 : decode cM_isBefore 26 = .ok (.iconst 0, 1) := by decide +kernel
theorem dM_isBefore_27 : decode cM_isBefore 27 = .ok (.ireturn, 1) := by decide +kernel
theorem dM_isBefore_28 : decode cM_isBefore 28 = .ok (.iconst 0, 1) := by decide +kernel
theorem dM_isBefore_29 : decode cM_isBefore 29 = .ok (.istore_n 2, 1) := by decide +kernel
theorem dM_isBefore_30 : decode cM_isBefore 30 = .ok (.iload_n 2, 1) := by decide +kernel
theorem dM_isBefore_31 : decode cM_isBefore 31 = .ok (.bipush 14, 2) := by decide +kernel
theorem dM_isBefore_33 : decode cM_isBefore 33 = .ok (.if_icmp .ge 22, 3) := by decide +kernel
theorem dM_isBefore_36 : decode cM_isBefore 36 = .ok (.iload_n 0, 1) := by decide +kernel
theorem dM_isBefore_37 : decode cM_isBefore 37 = .ok (.iload_n 2, 1) := by decide +kernel
theorem dM_isBefore_38 : decode cM_isBefore 38 = .ok (.invokestatic 36, 3) := by decide +kernel
theorem dM_isBefore_41 : decode cM_isBefore 41 = .ok (.iload_n 1, 1) := by decide +kernel
theorem dM_isBefore_42 : decode cM_isBefore 42 = .ok (.iload_n 2, 1) := by decide +kernel
theorem dM_isBefore_43 : decode cM_isBefore 43 = .ok (.invokestatic 36, 3) := by decide +kernel
theorem dM_isBefore_46 : decode cM_isBefore 46 = .ok (.if_icmp .ne 9, 3) := by decide +kernel
theorem dM_isBefore_49 : decode cM_isBefore 49 = .ok (.iinc 2 1, 3) := by decide +kernel
theorem dM_isBefore_52 : decode cM_isBefore 52 = .ok (.goto (-22), 3) := by decide +kernel
theorem dM_isBefore_55 : decode cM_isBefore 55 = .ok (.iload_n 2, 1) := by decide +kernel
theorem dM_isBefore_56 : decode cM_isBefore 56 = .ok (.bipush 14, 2) := by decide +kernel
theorem dM_isBefore_58 : decode cM_isBefore 58 = .ok (.if_icmp .ge 15, 3) := by decide +kernel
theorem dM_isBefore_61 : decode cM_isBefore 61 = .ok (.iload_n 0, 1) := by decide +kernel
theorem dM_isBefore_62 : decode cM_isBefore 62 = .ok (.iload_n 2, 1) := by decide +kernel
theorem dM_isBefore_63 : decode cM_isBefore 63 = .ok (.invokestatic 36, 3) := by decide +kernel
theorem dM_isBefore_66 : decode cM_isBefore 66 = .ok (.ifCond .eq 7, 3) := by decide +kernel
theorem dM_isBefore_69 : decode cM_isBefore 69 = .ok (.iconst 1, 1) := by decide +kernel
theorem dM_isBefore_70 : decode cM_isBefore 70 = .ok (.goto 4, 3) := by decide +kernel
theorem dM_isBefore_73 : decode cM_isBefore 73 = .ok (.iconst 0, 1) := by decide +kernel
theorem dM_isBefore_74 : decode cM_isBefore 74 = .ok (.ireturn, 1) := by decide +kernel
theorem dM_degree_0 : decode cM_degree 0 = .ok (.iconst 0, 1) := by decide +kernel
theorem dM_degree_1 : decode cM_degree 1 = .ok (.istore_n 3, 1) := by decide +kernel
theorem dM_degree_2 : decode cM_degree 2 = .ok (.iconst 0, 1) := by decide +kernel
theorem dM_degree_3 : decode cM_degree 3 = .ok (.istore 4, 2) := by decide +kernel
theorem dM_degree_5 : decode cM_degree 5 = .ok (.iload 4, 2) := by decide +kernel
theorem dM_degree_7 : decode cM_degree 7 = .ok (.aload_n 0, 1) := by decide +kernel
theorem dM_degree_8 : decode cM_degree 8 = .ok (.getfield 26, 3) := by decide +kernel
theorem dM_degree_11 : decode cM_degree 11 = .ok (.if_icmp .ge 48, 3) := by decide +kernel
theorem dM_degree_14 : decode cM_degree 14 = .ok (.iload_n 1, 1) := by decide +kernel
theorem dM_degree_15 : decode cM_degree 15 = .ok (.iload 4, 2) := by decide +kernel
theorem dM_degree_17 : decode cM_degree 17 = .ok (.invokestatic 36, 3) := by decide +kernel
theorem dM_degree_20 : decode cM_degree 20 = .ok (.ifCond .eq 31, 3) := by decide +kernel
theorem dM_degree_23 : decode cM_degree 23 = .ok (.aload_n 0, 1) := by decide +kernel
theorem dM_degree_24 : decode cM_degree 24 = .ok (.getfield 13, 3) := by decide +kernel
theorem dM_degree_27 : decode cM_degree 27 = .ok (.iload 4, 2) := by decide +kernel
theorem dM_degree_29 : decode cM_degree 29 = .ok (.iaload, 1) := by decide +kernel
theorem dM_degree_30 : decode cM_degree 30 = .ok (.iload_n 2, 1) := by decide +kernel
theorem dM_degree_31 : decode cM_degree 31 = .ok (.if_icmp .eq 14, 3) := by decide +kernel
theorem dM_degree_34 : decode cM_degree 34 = .ok (.aload_n 0, 1) := by decide +kernel
theorem dM_degree_35 : decode cM_degree 35 = .ok (.getfield 17, 3) := by decide +kernel
theorem dM_degree_38 : decode cM_degree 38 = .ok (.iload 4, 2) := by decide +kernel
theorem dM_degree_40 : decode cM_degree 40 = .ok (.iaload, 1) := by decide +kernel
theorem dM_degree_41 : decode cM_degree 41 = .ok (.iload_n 2, 1) := by decide +kernel
theorem dM_degree_42 : decode cM_degree 42 = .ok (.if_icmp .ne 9, 3) := by decide +kernel
theorem dM_degree_45 : decode cM_degree 45 = .ok (.iload_n 3, 1) := by decide +kernel
theorem dM_degree_46 : decode cM_degree 46 = .ok (.iconst 1, 1) := by decide +kernel
theorem dM_degree_47 : decode cM_degree 47 = .ok (.iadd, 1) := by decide +kernel
theorem dM_degree_48 : decode cM_degree 48 = .ok (.goto 4, 3) := by decide +kernel
theorem dM_degree_51 : decode cM_degree 51 = .ok (.iload_n 3, 1) := by decide +kernel
theorem dM_degree_52 : decode cM_degree 52 = .ok (.istore_n 3, 1) := by decide +kernel
theorem dM_degree_53 : decode cM_degree 53 = .ok (.iinc 4 1, 3) := by decide +kernel
theorem dM_degree_56 : decode cM_degree 56 = .ok (.goto (-51), 3) := by decide +kernel
theorem dM_degree_59 : decode cM_degree 59 = .ok (.iload_n 3, 1) := by decide +kernel
theorem dM_degree_60 : decode cM_degree 60 = .ok (.ireturn, 1) := by decide +kernel
theorem dM_isFair_0 : decode cM_isFair 0 = .ok (.iconst 0, 1) := by decide +kernel
theorem dM_isFair_1 : decode cM_isFair 1 = .ok (.istore_n 2, 1) := by decide +kernel
theorem dM_isFair_2 : decode cM_isFair 2 = .ok (.iload_n 2, 1) := by decide +kernel
theorem dM_isFair_3 : decode cM_isFair 3 = .ok (.aload_n 0, 1) := by decide +kernel
theorem dM_isFair_4 : decode cM_isFair 4 = .ok (.getfield 7, 3) := by decide +kernel
theorem dM_isFair_7 : decode cM_isFair 7 = .ok (.if_icmp .ge 26, 3) := by decide +kernel
theorem dM_isFair_10 : decode cM_isFair 10 = .ok (.aload_n 0, 1) := by decide +kernel
theorem dM_isFair_11 : decode cM_isFair 11 = .ok (.iload_n 1, 1) := by decide +kernel
theorem dM_isFair_12 : decode cM_isFair 12 = .ok (.iload_n 2, 1) := by decide +kernel
theorem dM_isFair_13 : decode cM_isFair 13 = .ok (.invokevirtual 44, 3) := by decide +kernel
theorem dM_isFair_16 : decode cM_isFair 16 = .ok (.aload_n 0, 1) := by decide +kernel
theorem dM_isFair_17 : decode cM_isFair 17 = .ok (.getfield 20, 3) := by decide +kernel
theorem dM_isFair_20 : decode cM_isFair 20 = .ok (.iload_n 2, 1) := by decide +kernel
theorem dM_isFair_21 : decode cM_isFair 21 = .ok (.iaload, 1) := by decide +kernel
theorem dM_isFair_22 : decode cM_isFair 22 = .ok (.if_icmp .le 5, 3) := by decide +kernel
end
section
theorem dM_isFair_25 : decode cM_isFair 25 = .ok (.iconst 0, 1) := by decide +kernel
theorem dM_isFair_26 : decode cM_isFair 26 = .ok (.ireturn, 1) := by decide +kernel
theorem dM_isFair_27 : decode cM_isFair 27 = .ok (.iinc 2 1, 3) := by decide +kernel
theorem dM_isFair_30 : decode cM_isFair 30 = .ok (.goto (-28), 3) := by decide +kernel
theorem dM_isFair_33 : decode cM_isFair 33 = .ok (.iconst 1, 1) := by decide +kernel
theorem dM_isFair_34 : decode cM_isFair 34 = .ok (.ireturn, 1) := by decide +kernel
theorem dM_isFactor_0 : decode cM_isFactor 0 = .ok (.iconst 0, 1) := by decide +kernel
theorem dM_isFactor_1 : decode cM_isFactor 1 = .ok (.istore_n 2, 1) := by decide +kernel
theorem dM_isFactor_2 : decode cM_isFactor 2 = .ok (.iload_n 2, 1) := by decide +kernel
theorem dM_isFactor_3 : decode cM_isFactor 3 = .ok (.aload_n 0, 1) := by decide +kernel
theorem dM_isFactor_4 : decode cM_isFactor 4 = .ok (.getfield 7, 3) := by decide +kernel
theorem dM_isFactor_7 : decode cM_isFactor 7 = .ok (.if_icmp .ge 26, 3) := by decide +kernel
theorem dM_isFactor_10 : decode cM_isFactor 10 = .ok (.aload_n 0, 1) := by decide +kernel
theorem dM_isFactor_11 : decode cM_isFactor 11 = .ok (.iload_n 1, 1) := by decide +kernel
theorem dM_isFactor_12 : decode cM_isFactor 12 = .ok (.iload_n 2, 1) := by decide +kernel
theorem dM_isFactor_13 : decode cM_isFactor 13 = .ok (.invokevirtual 44, 3) := by decide +kernel
theorem dM_isFactor_16 : decode cM_isFactor 16 = .ok (.aload_n 0, 1) := by decide +kernel
theorem dM_isFactor_17 : decode cM_isFactor 17 = .ok (.getfield 20, 3) := by decide +kernel
theorem dM_isFactor_20 : decode cM_isFactor 20 = .ok (.iload_n 2, 1) := by decide +kernel
theorem dM_isFactor_21 : decode cM_isFactor 21 = .ok (.iaload, 1) := by decide +kernel
theorem dM_isFactor_22 : decode cM_isFactor 22 = .ok (.if_icmp .eq 5, 3) := by decide +kernel
theorem dM_isFactor_25 : decode cM_isFactor 25 = .ok (.iconst 0, 1) := by decide +kernel
theorem dM_isFactor_26 : decode cM_isFactor 26 = .ok (.ireturn, 1) := by decide +kernel
theorem dM_isFactor_27 : decode cM_isFactor 27 = .ok (.iinc 2 1, 3) := by decide +kernel
theorem dM_isFactor_30 : decode cM_isFactor 30 = .ok (.goto (-28), 3) := by decide +kernel
theorem dM_isFactor_33 : decode cM_isFactor 33 = .ok (.iconst 1, 1) := by decide +kernel
theorem dM_isFactor_34 : decode cM_isFactor 34 = .ok (.ireturn, 1) := by decide +kernel
theorem dM_allEdges_0 : decode cM_allEdges 0 = .ok (.iconst 1, 1) := by decide +kernel
theorem dM_allEdges_1 : decode cM_allEdges 1 = .ok (.aload_n 0, 1) := by decide +kernel
theorem dM_allEdges_2 : decode cM_allEdges 2 = .ok (.getfield 26, 3) := by decide +kernel
theorem dM_allEdges_5 : decode cM_allEdges 5 = .ok (.ishl, 1) := by decide +kernel
theorem dM_allEdges_6 : decode cM_allEdges 6 = .ok (.iconst 1, 1) := by decide +kernel
theorem dM_allEdges_7 : decode cM_allEdges 7 = .ok (.isub, 1) := by decide +kernel
theorem dM_allEdges_8 : decode cM_allEdges 8 = .ok (.ireturn, 1) := by decide +kernel
theorem dM_judge_0 : decode cM_judge 0 = .ok (.iload_n 1, 1) := by decide +kernel
theorem dM_judge_1 : decode cM_judge 1 = .ok (.ifCond .lt 11, 3) := by decide +kernel
theorem dM_judge_4 : decode cM_judge 4 = .ok (.iload_n 1, 1) := by decide +kernel
theorem dM_judge_5 : decode cM_judge 5 = .ok (.aload_n 0, 1) := by decide +kernel
theorem dM_judge_6 : decode cM_judge 6 = .ok (.invokevirtual 48, 3) := by decide +kernel
theorem dM_judge_9 : decode cM_judge 9 = .ok (.if_icmp .le 5, 3) := by decide +kernel
theorem dM_judge_12 : decode cM_judge 12 = .ok (.iconst (-1), 1) := by decide +kernel
theorem dM_judge_13 : decode cM_judge 13 = .ok (.ireturn, 1) := by decide +kernel
theorem dM_judge_14 : decode cM_judge 14 = .ok (.aload_n 0, 1) := by decide +kernel
theorem dM_judge_15 : decode cM_judge 15 = .ok (.iload_n 1, 1) := by decide +kernel
theorem dM_judge_16 : decode cM_judge 16 = .ok (.invokevirtual 52, 3) := by decide +kernel
theorem dM_judge_19 : decode cM_judge 19 = .ok (.ifCond .eq 7, 3) := by decide +kernel
theorem dM_judge_22 : decode cM_judge 22 = .ok (.iconst 2, 1) := by decide +kernel
theorem dM_judge_23 : decode cM_judge 23 = .ok (.goto 16, 3) := by decide +kernel
theorem dM_judge_26 : decode cM_judge 26 = .ok (.aload_n 0, 1) := by decide +kernel
theorem dM_judge_27 : decode cM_judge 27 = .ok (.iload_n 1, 1) := by decide +kernel
theorem dM_judge_28 : decode cM_judge 28 = .ok (.invokevirtual 55, 3) := by decide +kernel
theorem dM_judge_31 : decode cM_judge 31 = .ok (.ifCond .eq 7, 3) := by decide +kernel
theorem dM_judge_34 : decode cM_judge 34 = .ok (.iconst 1, 1) := by decide +kernel
theorem dM_judge_35 : decode cM_judge 35 = .ok (.goto 4, 3) := by decide +kernel
theorem dM_judge_38 : decode cM_judge 38 = .ok (.iconst 0, 1) := by decide +kernel
theorem dM_judge_39 : decode cM_judge 39 = .ok (.ireturn, 1) := by decide +kernel
theorem dM_best_0 : decode cM_best 0 = .ok (.iconst 0, 1) := by decide +kernel
theorem dM_best_1 : decode cM_best 1 = .ok (.istore_n 1, 1) := by decide +kernel
theorem dM_best_2 : decode cM_best 2 = .ok (.iconst 0, 1) := by decide +kernel
theorem dM_best_3 : decode cM_best 3 = .ok (.istore_n 2, 1) := by decide +kernel
theorem dM_best_4 : decode cM_best 4 = .ok (.iload_n 2, 1) := by decide +kernel
theorem dM_best_5 : decode cM_best 5 = .ok (.aload_n 0, 1) := by decide +kernel
theorem dM_best_6 : decode cM_best 6 = .ok (.invokevirtual 48, 3) := by decide +kernel
theorem dM_best_9 : decode cM_best 9 = .ok (.if_icmp .gt 45, 3) := by decide +kernel
theorem dM_best_12 : decode cM_best 12 = .ok (.iload_n 2, 1) := by decide +kernel
theorem dM_best_13 : decode cM_best 13 = .ok (.invokestatic 40, 3) := by decide +kernel
theorem dM_best_16 : decode cM_best 16 = .ok (.iload_n 1, 1) := by decide +kernel
theorem dM_best_17 : decode cM_best 17 = .ok (.invokestatic 40, 3) := by decide +kernel
theorem dM_best_20 : decode cM_best 20 = .ok (.isub, 1) := by decide +kernel
theorem dM_best_21 : decode cM_best 21 = .ok (.istore_n 3, 1) := by decide +kernel
theorem dM_best_22 : decode cM_best 22 = .ok (.iload_n 3, 1) := by decide +kernel
theorem dM_best_23 : decode cM_best 23 = .ok (.ifCond .lt 25, 3) := by decide +kernel
theorem dM_best_26 : decode cM_best 26 = .ok (.aload_n 0, 1) := by decide +kernel
theorem dM_best_27 : decode cM_best 27 = .ok (.iload_n 2, 1) := by decide +kernel
theorem dM_best_28 : decode cM_best 28 = .ok (.invokevirtual 55, 3) := by decide +kernel
theorem dM_best_31 : decode cM_best 31 = .ok (.ifCond .eq 17, 3) := by decide +kernel
theorem dM_best_34 : decode cM_best 34 = .ok (.iload_n 3, 1) := by decide +kernel
theorem dM_best_35 : decode cM_best 35 = .ok (.ifCond .gt 11, 3) := by decide +kernel
theorem dM_best_38 : decode cM_best 38 = .ok (.iload_n 2, 1) := by decide +kernel
theorem dM_best_39 : decode cM_best 39 = .ok (.iload_n 1, 1) := by decide +kernel
theorem dM_best_40 : decode cM_best 40 = .ok (.invokestatic 58, 3) := by decide +kernel
theorem dM_best_43 : decode cM_best 43 = .ok (.ifCond .eq 5, 3) := by decide +kernel
theorem dM_best_46 : decode cM_best 46 = .ok (.iload_n 2, 1) := by decide +kernel
theorem dM_best_47 : decode cM_best 47 = .ok (.istore_n 1, 1) := by decide +kernel
theorem dM_best_48 : decode cM_best 48 = .ok (.iinc 2 1, 3) := by decide +kernel
theorem dM_best_51 : decode cM_best 51 = .ok (.goto (-47), 3) := by decide +kernel
theorem dM_best_54 : decode cM_best 54 = .ok (.iload_n 1, 1) := by decide +kernel
theorem dM_best_55 : decode cM_best 55 = .ok (.ireturn, 1) := by decide +kernel
theorem dM_most_0 : decode cM_most 0 = .ok (.aload_n 0, 1) := by decide +kernel
theorem dM_most_1 : decode cM_most 1 = .ok (.invokevirtual 61, 3) := by decide +kernel
theorem dM_most_4 : decode cM_most 4 = .ok (.invokestatic 40, 3) := by decide +kernel
theorem dM_most_7 : decode cM_most 7 = .ok (.ireturn, 1) := by decide +kernel
theorem dM_factor_0 : decode cM_factor 0 = .ok (.iconst (-1), 1) := by decide +kernel
theorem dM_factor_1 : decode cM_factor 1 = .ok (.istore_n 1, 1) := by decide +kernel
theorem dM_factor_2 : decode cM_factor 2 = .ok (.iconst 0, 1) := by decide +kernel
theorem dM_factor_3 : decode cM_factor 3 = .ok (.istore_n 2, 1) := by decide +kernel
theorem dM_factor_4 : decode cM_factor 4 = .ok (.iload_n 2, 1) := by decide +kernel
theorem dM_factor_5 : decode cM_factor 5 = .ok (.aload_n 0, 1) := by decide +kernel
theorem dM_factor_6 : decode cM_factor 6 = .ok (.invokevirtual 48, 3) := by decide +kernel
theorem dM_factor_9 : decode cM_factor 9 = .ok (.if_icmp .gt 31, 3) := by decide +kernel
theorem dM_factor_12 : decode cM_factor 12 = .ok (.iload_n 1, 1) := by decide +kernel
theorem dM_factor_13 : decode cM_factor 13 = .ok (.ifCond .lt 11, 3) := by decide +kernel
theorem dM_factor_16 : decode cM_factor 16 = .ok (.iload_n 2, 1) := by decide +kernel
theorem dM_factor_17 : decode cM_factor 17 = .ok (.iload_n 1, 1) := by decide +kernel
theorem dM_factor_18 : decode cM_factor 18 = .ok (.invokestatic 58, 3) := by decide +kernel
theorem dM_factor_21 : decode cM_factor 21 = .ok (.ifCond .eq 13, 3) := by decide +kernel
theorem dM_factor_24 : decode cM_factor 24 = .ok (.aload_n 0, 1) := by decide +kernel
theorem dM_factor_25 : decode cM_factor 25 = .ok (.iload_n 2, 1) := by decide +kernel
theorem dM_factor_26 : decode cM_factor 26 = .ok (.invokevirtual 52, 3) := by decide +kernel
theorem dM_factor_29 : decode cM_factor 29 = .ok (.ifCond .eq 5, 3) := by decide +kernel
theorem dM_factor_32 : decode cM_factor 32 = .ok (.iload_n 2, 1) := by decide +kernel
theorem dM_factor_33 : decode cM_factor 33 = .ok (.istore_n 1, 1) := by decide +kernel
theorem dM_factor_34 : decode cM_factor 34 = .ok (.iinc 2 1, 3) := by decide +kernel
theorem dM_factor_37 : decode cM_factor 37 = .ok (.goto (-33), 3) := by decide +kernel
theorem dM_factor_40 : decode cM_factor 40 = .ok (.iload_n 1, 1) := by decide +kernel
theorem dM_factor_41 : decode cM_factor 41 = .ok (.ireturn, 1) := by decide +kernel
theorem dM_role_0 : decode cM_role 0 = .ok (.aload_n 0, 1) := by decide +kernel
theorem dM_role_1 : decode cM_role 1 = .ok (.iload_n 1, 1) := by decide +kernel
theorem dM_role_2 : decode cM_role 2 = .ok (.invokevirtual 33, 3) := by decide +kernel
theorem dM_role_5 : decode cM_role 5 = .ok (.ifCond .ne 5, 3) := by decide +kernel
theorem dM_role_8 : decode cM_role 8 = .ok (.iconst (-1), 1) := by decide +kernel
theorem dM_role_9 : decode cM_role 9 = .ok (.ireturn, 1) := by decide +kernel
theorem dM_role_10 : decode cM_role 10 = .ok (.aload_n 0, 1) := by decide +kernel
theorem dM_role_11 : decode cM_role 11 = .ok (.invokevirtual 64, 3) := by decide +kernel
theorem dM_role_14 : decode cM_role 14 = .ok (.istore_n 2, 1) := by decide +kernel
theorem dM_role_15 : decode cM_role 15 = .ok (.iconst 0, 1) := by decide +kernel
theorem dM_role_16 : decode cM_role 16 = .ok (.istore_n 3, 1) := by decide +kernel
theorem dM_role_17 : decode cM_role 17 = .ok (.iconst 0, 1) := by decide +kernel
theorem dM_role_18 : decode cM_role 18 = .ok (.istore 4, 2) := by decide +kernel
theorem dM_role_20 : decode cM_role 20 = .ok (.iconst 0, 1) := by decide +kernel
theorem dM_role_21 : decode cM_role 21 = .ok (.istore 5, 2) := by decide +kernel
theorem dM_role_23 : decode cM_role 23 = .ok (.iload 5, 2) := by decide +kernel
theorem dM_role_25 : decode cM_role 25 = .ok (.aload_n 0, 1) := by decide +kernel
theorem dM_role_26 : decode cM_role 26 = .ok (.invokevirtual 48, 3) := by decide +kernel
theorem dM_role_29 : decode cM_role 29 = .ok (.if_icmp .gt 67, 3) := by decide +kernel
theorem dM_role_32 : decode cM_role 32 = .ok (.iload 5, 2) := by decide +kernel
theorem dM_role_34 : decode cM_role 34 = .ok (.invokestatic 40, 3) := by decide +kernel
theorem dM_role_37 : decode cM_role 37 = .ok (.iload_n 2, 1) := by decide +kernel
theorem dM_role_38 : decode cM_role 38 = .ok (.if_icmp .ne 52, 3) := by decide +kernel
theorem dM_role_41 : decode cM_role 41 = .ok (.aload_n 0, 1) := by decide +kernel
theorem dM_role_42 : decode cM_role 42 = .ok (.iload 5, 2) := by decide +kernel
theorem dM_role_44 : decode cM_role 44 = .ok (.invokevirtual 55, 3) := by decide +kernel
theorem dM_role_47 : decode cM_role 47 = .ok (.ifCond .eq 43, 3) := by decide +kernel
theorem dM_role_50 : decode cM_role 50 = .ok (.iload_n 3, 1) := by decide +kernel
theorem dM_role_51 : decode cM_role 51 = .ok (.ifCond .ne 12, 3) := by decide +kernel
theorem dM_role_54 : decode cM_role 54 = .ok (.iload 5, 2) := by decide +kernel
theorem dM_role_56 : decode cM_role 56 = .ok (.iload_n 1, 1) := by decide +kernel
theorem dM_role_57 : decode cM_role 57 = .ok (.invokestatic 36, 3) := by decide +kernel
theorem dM_role_60 : decode cM_role 60 = .ok (.ifCond .eq 7, 3) := by decide +kernel
theorem dM_role_63 : decode cM_role 63 = .ok (.iconst 1, 1) := by decide +kernel
theorem dM_role_64 : decode cM_role 64 = .ok (.goto 4, 3) := by decide +kernel
theorem dM_role_67 : decode cM_role 67 = .ok (.iconst 0, 1) := by decide +kernel
theorem dM_role_68 : decode cM_role 68 = .ok (.istore_n 3, 1) := by decide +kernel
theorem dM_role_69 : decode cM_role 69 = .ok (.iload 4, 2) := by decide +kernel
theorem dM_role_71 : decode cM_role 71 = .ok (.ifCond .ne 12, 3) := by decide +kernel
theorem dM_role_74 : decode cM_role 74 = .ok (.iload 5, 2) := by decide +kernel
theorem dM_role_76 : decode cM_role 76 = .ok (.iload_n 1, 1) := by decide +kernel
theorem dM_role_77 : decode cM_role 77 = .ok (.invokestatic 36, 3) := by decide +kernel
theorem dM_role_80 : decode cM_role 80 = .ok (.ifCond .ne 7, 3) := by decide +kernel
theorem dM_role_83 : decode cM_role 83 = .ok (.iconst 1, 1) := by decide +kernel
theorem dM_role_84 : decode cM_role 84 = .ok (.goto 4, 3) := by decide +kernel
theorem dM_role_87 : decode cM_role 87 = .ok (.iconst 0, 1) := by decide +kernel
theorem dM_role_88 : decode cM_role 88 = .ok (.istore 4, 2) := by decide +kernel
theorem dM_role_90 : decode cM_role 90 = .ok (.iinc 5 1, 3) := by decide +kernel
theorem dM_role_93 : decode cM_role 93 = .ok (.goto (-70), 3) := by decide +kernel
theorem dM_role_96 : decode cM_role 96 = .ok (.iload_n 3, 1) := by decide +kernel
theorem dM_role_97 : decode cM_role 97 = .ok (.ifCond .ne 7, 3) := by decide +kernel
theorem dM_role_100 : decode cM_role 100 = .ok (.iconst 0, 1) := by decide +kernel
theorem dM_role_101 : decode cM_role 101 = .ok (.goto 13, 3) := by decide +kernel
theorem dM_role_104 : decode cM_role 104 = .ok (.iload 4, 2) := by decide +kernel
theorem dM_role_106 : decode cM_role 106 = .ok (.ifCond .eq 7, 3) := by decide +kernel
theorem dM_role_109 : decode cM_role 109 = .ok (.iconst 1, 1) := by decide +kernel
theorem dM_role_110 : decode cM_role 110 = .ok (.goto 4, 3) := by decide +kernel
theorem dM_role_113 : decode cM_role 113 = .ok (.iconst 2, 1) := by decide +kernel
theorem dM_role_114 : decode cM_role 114 = .ok (.ireturn, 1) := by decide +kernel
theorem dM_mostWith_0 : decode cM_mostWith 0 = .ok (.aload_n 0, 1) := by decide +kernel
theorem dM_mostWith_1 : decode cM_mostWith 1 = .ok (.getfield 20, 3) := by decide +kernel
theorem dM_mostWith_4 : decode cM_mostWith 4 = .ok (.iload_n 1, 1) := by decide +kernel
theorem dM_mostWith_5 : decode cM_mostWith 5 = .ok (.iaload, 1) := by decide +kernel
theorem dM_mostWith_6 : decode cM_mostWith 6 = .ok (.istore_n 3, 1) := by decide +kernel
theorem dM_mostWith_7 : decode cM_mostWith 7 = .ok (.aload_n 0, 1) := by decide +kernel
theorem dM_mostWith_8 : decode cM_mostWith 8 = .ok (.getfield 20, 3) := by decide +kernel
theorem dM_mostWith_11 : decode cM_mostWith 11 = .ok (.iload_n 1, 1) := by decide +kernel
theorem dM_mostWith_12 : decode cM_mostWith 12 = .ok (.iload_n 2, 1) := by decide +kernel
theorem dM_mostWith_13 : decode cM_mostWith 13 = .ok (.iastore, 1) := by decide +kernel
theorem dM_mostWith_14 : decode cM_mostWith 14 = .ok (.aload_n 0, 1) := by decide +kernel
theorem dM_mostWith_15 : decode cM_mostWith 15 = .ok (.invokevirtual 64, 3) := by decide +kernel
theorem dM_mostWith_18 : decode cM_mostWith 18 = .ok (.istore 4, 2) := by decide +kernel
theorem dM_mostWith_20 : decode cM_mostWith 20 = .ok (.aload_n 0, 1) := by decide +kernel
theorem dM_mostWith_21 : decode cM_mostWith 21 = .ok (.getfield 20, 3) := by decide +kernel
theorem dM_mostWith_24 : decode cM_mostWith 24 = .ok (.iload_n 1, 1) := by decide +kernel
theorem dM_mostWith_25 : decode cM_mostWith 25 = .ok (.iload_n 3, 1) := by decide +kernel
theorem dM_mostWith_26 : decode cM_mostWith 26 = .ok (.iastore, 1) := by decide +kernel
theorem dM_mostWith_27 : decode cM_mostWith 27 = .ok (.iload 4, 2) := by decide +kernel
theorem dM_mostWith_29 : decode cM_mostWith 29 = .ok (.ireturn, 1) := by decide +kernel
theorem dM_slack_0 : decode cM_slack 0 = .ok (.aload_n 0, 1) := by decide +kernel
theorem dM_slack_1 : decode cM_slack 1 = .ok (.iload_n 1, 1) := by decide +kernel
theorem dM_slack_2 : decode cM_slack 2 = .ok (.invokevirtual 29, 3) := by decide +kernel
theorem dM_slack_5 : decode cM_slack 5 = .ok (.ifCond .ne 5, 3) := by decide +kernel
theorem dM_slack_8 : decode cM_slack 8 = .ok (.iconst (-1), 1) := by decide +kernel
theorem dM_slack_9 : decode cM_slack 9 = .ok (.ireturn, 1) := by decide +kernel
theorem dM_slack_10 : decode cM_slack 10 = .ok (.aload_n 0, 1) := by decide +kernel
theorem dM_slack_11 : decode cM_slack 11 = .ok (.invokevirtual 64, 3) := by decide +kernel
theorem dM_slack_14 : decode cM_slack 14 = .ok (.istore_n 2, 1) := by decide +kernel
theorem dM_slack_15 : decode cM_slack 15 = .ok (.iconst 0, 1) := by decide +kernel
theorem dM_slack_16 : decode cM_slack 16 = .ok (.istore_n 3, 1) := by decide +kernel
theorem dM_slack_17 : decode cM_slack 17 = .ok (.iload_n 3, 1) := by decide +kernel
theorem dM_slack_18 : decode cM_slack 18 = .ok (.aload_n 0, 1) := by decide +kernel
theorem dM_slack_19 : decode cM_slack 19 = .ok (.getfield 20, 3) := by decide +kernel
theorem dM_slack_22 : decode cM_slack 22 = .ok (.iload_n 1, 1) := by decide +kernel
theorem dM_slack_23 : decode cM_slack 23 = .ok (.iaload, 1) := by decide +kernel
theorem dM_slack_24 : decode cM_slack 24 = .ok (.if_icmp .ge 28, 3) := by decide +kernel
theorem dM_slack_27 : decode cM_slack 27 = .ok (.aload_n 0, 1) := by decide +kernel
theorem dM_slack_28 : decode cM_slack 28 = .ok (.iload_n 1, 1) := by decide +kernel
theorem dM_slack_29 : decode cM_slack 29 = .ok (.aload_n 0, 1) := by decide +kernel
theorem dM_slack_30 : decode cM_slack 30 = .ok (.getfield 20, 3) := by decide +kernel
theorem dM_slack_33 : decode cM_slack 33 = .ok (.iload_n 1, 1) := by decide +kernel
theorem dM_slack_34 : decode cM_slack 34 = .ok (.iaload, 1) := by decide +kernel
theorem dM_slack_35 : decode cM_slack 35 = .ok (.iload_n 3, 1) := by decide +kernel
theorem dM_slack_36 : decode cM_slack 36 = .ok (.isub, 1) := by decide +kernel
theorem dM_slack_37 : decode cM_slack 37 = .ok (.iconst 1, 1) := by decide +kernel
theorem dM_slack_38 : decode cM_slack 38 = .ok (.isub, 1) := by decide +kernel
theorem dM_slack_39 : decode cM_slack 39 = .ok (.invokevirtual 67, 3) := by decide +kernel
theorem dM_slack_42 : decode cM_slack 42 = .ok (.iload_n 2, 1) := by decide +kernel
theorem dM_slack_43 : decode cM_slack 43 = .ok (.if_icmp .ne 9, 3) := by decide +kernel
theorem dM_slack_46 : decode cM_slack 46 = .ok (.iinc 3 1, 3) := by decide +kernel
theorem dM_slack_49 : decode cM_slack 49 = .ok (.goto (-32), 3) := by decide +kernel
theorem dM_slack_52 : decode cM_slack 52 = .ok (.iload_n 3, 1) := by decide +kernel
theorem dM_slack_53 : decode cM_slack 53 = .ok (.ireturn, 1) := by decide +kernel
theorem dM_gain_0 : decode cM_gain 0 = .ok (.aload_n 0, 1) := by decide +kernel
theorem dM_gain_1 : decode cM_gain 1 = .ok (.iload_n 1, 1) := by decide +kernel
theorem dM_gain_2 : decode cM_gain 2 = .ok (.invokevirtual 29, 3) := by decide +kernel
theorem dM_gain_5 : decode cM_gain 5 = .ok (.ifCond .eq 24, 3) := by decide +kernel
theorem dM_gain_8 : decode cM_gain 8 = .ok (.aload_n 0, 1) := by decide +kernel
theorem dM_gain_9 : decode cM_gain 9 = .ok (.iload_n 1, 1) := by decide +kernel
theorem dM_gain_10 : decode cM_gain 10 = .ok (.aload_n 0, 1) := by decide +kernel
theorem dM_gain_11 : decode cM_gain 11 = .ok (.getfield 20, 3) := by decide +kernel
theorem dM_gain_14 : decode cM_gain 14 = .ok (.iload_n 1, 1) := by decide +kernel
theorem dM_gain_15 : decode cM_gain 15 = .ok (.iaload, 1) := by decide +kernel
theorem dM_gain_16 : decode cM_gain 16 = .ok (.iconst 1, 1) := by decide +kernel
theorem dM_gain_17 : decode cM_gain 17 = .ok (.iadd, 1) := by decide +kernel
theorem dM_gain_18 : decode cM_gain 18 = .ok (.invokevirtual 67, 3) := by decide +kernel
theorem dM_gain_21 : decode cM_gain 21 = .ok (.aload_n 0, 1) := by decide +kernel
theorem dM_gain_22 : decode cM_gain 22 = .ok (.invokevirtual 64, 3) := by decide +kernel
theorem dM_gain_25 : decode cM_gain 25 = .ok (.isub, 1) := by decide +kernel
theorem dM_gain_26 : decode cM_gain 26 = .ok (.goto 4, 3) := by decide +kernel
theorem dM_gain_29 : decode cM_gain 29 = .ok (.iconst (-1), 1) := by decide +kernel
theorem dM_gain_30 : decode cM_gain 30 = .ok (.ireturn, 1) := by decide +kernel
theorem dM_partition_0 : decode cM_partition 0 = .ok (.iconst 0, 1) := by decide +kernel
theorem dM_partition_1 : decode cM_partition 1 = .ok (.istore_n 3, 1) := by decide +kernel
theorem dM_partition_2 : decode cM_partition 2 = .ok (.iload_n 3, 1) := by decide +kernel
theorem dM_partition_3 : decode cM_partition 3 = .ok (.aload_n 0, 1) := by decide +kernel
theorem dM_partition_4 : decode cM_partition 4 = .ok (.getfield 7, 3) := by decide +kernel
theorem dM_partition_7 : decode cM_partition 7 = .ok (.if_icmp .ge 30, 3) := by decide +kernel
theorem dM_partition_10 : decode cM_partition 10 = .ok (.aload_n 0, 1) := by decide +kernel
theorem dM_partition_11 : decode cM_partition 11 = .ok (.getfield 23, 3) := by decide +kernel
theorem dM_partition_14 : decode cM_partition 14 = .ok (.iload_n 3, 1) := by decide +kernel
theorem dM_partition_15 : decode cM_partition 15 = .ok (.iload_n 1, 1) := by decide +kernel
theorem dM_partition_16 : decode cM_partition 16 = .ok (.iload_n 2, 1) := by decide +kernel
theorem dM_partition_17 : decode cM_partition 17 = .ok (.ior, 1) := by decide +kernel
theorem dM_partition_18 : decode cM_partition 18 = .ok (.iload_n 3, 1) := by decide +kernel
theorem dM_partition_19 : decode cM_partition 19 = .ok (.invokestatic 36, 3) := by decide +kernel
theorem dM_partition_22 : decode cM_partition 22 = .ok (.ifCond .eq 7, 3) := by decide +kernel
theorem dM_partition_25 : decode cM_partition 25 = .ok (.iconst (-1), 1) := by decide +kernel
theorem dM_partition_26 : decode cM_partition 26 = .ok (.goto 4, 3) := by decide +kernel
theorem dM_partition_29 : decode cM_partition 29 = .ok (.iload_n 3, 1) := by decide +kernel
theorem dM_partition_30 : decode cM_partition 30 = .ok (.iastore, 1) := by decide +kernel
theorem dM_partition_31 : decode cM_partition 31 = .ok (.iinc 3 1, 3) := by decide +kernel
theorem dM_partition_34 : decode cM_partition 34 = .ok (.goto (-32), 3) := by decide +kernel
theorem dM_partition_37 : decode cM_partition 37 = .ok (.iconst 0, 1) := by decide +kernel
theorem dM_partition_38 : decode cM_partition 38 = .ok (.istore_n 3, 1) := by decide +kernel
theorem dM_partition_39 : decode cM_partition 39 = .ok (.iload_n 3, 1) := by decide +kernel
theorem dM_partition_40 : decode cM_partition 40 = .ok (.aload_n 0, 1) := by decide +kernel
theorem dM_partition_41 : decode cM_partition 41 = .ok (.getfield 7, 3) := by decide +kernel
theorem dM_partition_44 : decode cM_partition 44 = .ok (.if_icmp .ge 117, 3) := by decide +kernel
theorem dM_partition_47 : decode cM_partition 47 = .ok (.iconst 0, 1) := by decide +kernel
theorem dM_partition_48 : decode cM_partition 48 = .ok (.istore 4, 2) := by decide +kernel
theorem dM_partition_50 : decode cM_partition 50 = .ok (.iload 4, 2) := by decide +kernel
theorem dM_partition_52 : decode cM_partition 52 = .ok (.aload_n 0, 1) := by decide +kernel
theorem dM_partition_53 : decode cM_partition 53 = .ok (.getfield 26, 3) := by decide +kernel
theorem dM_partition_56 : decode cM_partition 56 = .ok (.if_icmp .ge 99, 3) := by decide +kernel
theorem dM_partition_59 : decode cM_partition 59 = .ok (.aload_n 0, 1) := by decide +kernel
theorem dM_partition_60 : decode cM_partition 60 = .ok (.getfield 23, 3) := by decide +kernel
theorem dM_partition_63 : decode cM_partition 63 = .ok (.aload_n 0, 1) := by decide +kernel
theorem dM_partition_64 : decode cM_partition 64 = .ok (.getfield 13, 3) := by decide +kernel
theorem dM_partition_67 : decode cM_partition 67 = .ok (.iload 4, 2) := by decide +kernel
theorem dM_partition_69 : decode cM_partition 69 = .ok (.iaload, 1) := by decide +kernel
theorem dM_partition_70 : decode cM_partition 70 = .ok (.iaload, 1) := by decide +kernel
theorem dM_partition_71 : decode cM_partition 71 = .ok (.istore 5, 2) := by decide +kernel
theorem dM_partition_73 : decode cM_partition 73 = .ok (.aload_n 0, 1) := by decide +kernel
theorem dM_partition_74 : decode cM_partition 74 = .ok (.getfield 23, 3) := by decide +kernel
theorem dM_partition_77 : decode cM_partition 77 = .ok (.aload_n 0, 1) := by decide +kernel
theorem dM_partition_78 : decode cM_partition 78 = .ok (.getfield 17, 3) := by decide +kernel
theorem dM_partition_81 : decode cM_partition 81 = .ok (.iload 4, 2) := by decide +kernel
theorem dM_partition_83 : decode cM_partition 83 = .ok (.iaload, 1) := by decide +kernel
theorem dM_partition_84 : decode cM_partition 84 = .ok (.iaload, 1) := by decide +kernel
theorem dM_partition_85 : decode cM_partition 85 = .ok (.istore 6, 2) := by decide +kernel
theorem dM_partition_87 : decode cM_partition 87 = .ok (.iload 5, 2) := by decide +kernel
theorem dM_partition_89 : decode cM_partition 89 = .ok (.ifCond .lt 60, 3) := by decide +kernel
theorem dM_partition_92 : decode cM_partition 92 = .ok (.iload 6, 2) := by decide +kernel
theorem dM_partition_94 : decode cM_partition 94 = .ok (.ifCond .lt 55, 3) := by decide +kernel
theorem dM_partition_97 : decode cM_partition 97 = .ok (.aload_n 0, 1) := by decide +kernel
theorem dM_partition_98 : decode cM_partition 98 = .ok (.getfield 23, 3) := by decide +kernel
theorem dM_partition_101 : decode cM_partition 101 = .ok (.aload_n 0, 1) := by decide +kernel
theorem dM_partition_102 : decode cM_partition 102 = .ok (.getfield 13, 3) := by decide +kernel
theorem dM_partition_105 : decode cM_partition 105 = .ok (.iload 4, 2) := by decide +kernel
theorem dM_partition_107 : decode cM_partition 107 = .ok (.iaload, 1) := by decide +kernel
theorem dM_partition_108 : decode cM_partition 108 = .ok (.iload 5, 2) := by decide +kernel
theorem dM_partition_110 : decode cM_partition 110 = .ok (.iload 6, 2) := by decide +kernel
theorem dM_partition_112 : decode cM_partition 112 = .ok (.if_icmp .ge 8, 3) := by decide +kernel
theorem dM_partition_115 : decode cM_partition 115 = .ok (.iload 5, 2) := by decide +kernel
theorem dM_partition_117 : decode cM_partition 117 = .ok (.goto 5, 3) := by decide +kernel
theorem dM_partition_120 : decode cM_partition 120 = .ok (.iload 6, 2) := by decide +kernel
theorem dM_partition_122 : decode cM_partition 122 = .ok (.iastore, 1) := by decide +kernel
theorem dM_partition_123 : decode cM_partition 123 = .ok (.aload_n 0, 1) := by decide +kernel
theorem dM_partition_124 : decode cM_partition 124 = .ok (.getfield 23, 3) := by decide +kernel
theorem dM_partition_127 : decode cM_partition 127 = .ok (.aload_n 0, 1) := by decide +kernel
theorem dM_partition_128 : decode cM_partition 128 = .ok (.getfield 17, 3) := by decide +kernel
theorem dM_partition_131 : decode cM_partition 131 = .ok (.iload 4, 2) := by decide +kernel
theorem dM_partition_133 : decode cM_partition 133 = .ok (.iaload, 1) := by decide +kernel
theorem dM_partition_134 : decode cM_partition 134 = .ok (.iload 5, 2) := by decide +kernel
theorem dM_partition_136 : decode cM_partition 136 = .ok (.iload 6, 2) := by decide +kernel
theorem dM_partition_138 : decode cM_partition 138 = .ok (.if_icmp .ge 8, 3) := by decide +kernel
theorem dM_partition_141 : decode cM_partition 141 = .ok (.iload 5, 2) := by decide +kernel
theorem dM_partition_143 : decode cM_partition 143 = .ok (.goto 5, 3) := by decide +kernel
theorem dM_partition_146 : decode cM_partition 146 = .ok (.iload 6, 2) := by decide +kernel
theorem dM_partition_148 : decode cM_partition 148 = .ok (.iastore, 1) := by decide +kernel
theorem dM_partition_149 : decode cM_partition 149 = .ok (.iinc 4 1, 3) := by decide +kernel
theorem dM_partition_152 : decode cM_partition 152 = .ok (.goto (-102), 3) := by decide +kernel
theorem dM_partition_155 : decode cM_partition 155 = .ok (.iinc 3 1, 3) := by decide +kernel
end
section
theorem dM_partition_158 : decode cM_partition 158 = .ok (.goto (-119), 3) := by decide +kernel
theorem dM_partition_161 : decode cM_partition 161 = .ok (.iconst 0, 1) := by decide +kernel
theorem dM_partition_162 : decode cM_partition 162 = .ok (.istore_n 3, 1) := by decide +kernel
theorem dM_partition_163 : decode cM_partition 163 = .ok (.iconst 0, 1) := by decide +kernel
theorem dM_partition_164 : decode cM_partition 164 = .ok (.istore 4, 2) := by decide +kernel
theorem dM_partition_166 : decode cM_partition 166 = .ok (.iload 4, 2) := by decide +kernel
theorem dM_partition_168 : decode cM_partition 168 = .ok (.aload_n 0, 1) := by decide +kernel
theorem dM_partition_169 : decode cM_partition 169 = .ok (.getfield 7, 3) := by decide +kernel
theorem dM_partition_172 : decode cM_partition 172 = .ok (.if_icmp .ge 29, 3) := by decide +kernel
theorem dM_partition_175 : decode cM_partition 175 = .ok (.aload_n 0, 1) := by decide +kernel
theorem dM_partition_176 : decode cM_partition 176 = .ok (.getfield 23, 3) := by decide +kernel
theorem dM_partition_179 : decode cM_partition 179 = .ok (.iload 4, 2) := by decide +kernel
theorem dM_partition_181 : decode cM_partition 181 = .ok (.iaload, 1) := by decide +kernel
theorem dM_partition_182 : decode cM_partition 182 = .ok (.iload 4, 2) := by decide +kernel
theorem dM_partition_184 : decode cM_partition 184 = .ok (.if_icmp .ne 9, 3) := by decide +kernel
theorem dM_partition_187 : decode cM_partition 187 = .ok (.iload_n 3, 1) := by decide +kernel
theorem dM_partition_188 : decode cM_partition 188 = .ok (.iconst 1, 1) := by decide +kernel
theorem dM_partition_189 : decode cM_partition 189 = .ok (.iadd, 1) := by decide +kernel
theorem dM_partition_190 : decode cM_partition 190 = .ok (.goto 4, 3) := by decide +kernel
theorem dM_partition_193 : decode cM_partition 193 = .ok (.iload_n 3, 1) := by decide +kernel
theorem dM_partition_194 : decode cM_partition 194 = .ok (.istore_n 3, 1) := by decide +kernel
theorem dM_partition_195 : decode cM_partition 195 = .ok (.iinc 4 1, 3) := by decide +kernel
theorem dM_partition_198 : decode cM_partition 198 = .ok (.goto (-32), 3) := by decide +kernel
theorem dM_partition_201 : decode cM_partition 201 = .ok (.iload_n 3, 1) := by decide +kernel
theorem dM_partition_202 : decode cM_partition 202 = .ok (.ireturn, 1) := by decide +kernel
theorem dM_half_0 : decode cM_half 0 = .ok (.iconst 0, 1) := by decide +kernel
theorem dM_half_1 : decode cM_half 1 = .ok (.istore_n 3, 1) := by decide +kernel
theorem dM_half_2 : decode cM_half 2 = .ok (.iconst 0, 1) := by decide +kernel
theorem dM_half_3 : decode cM_half 3 = .ok (.istore 4, 2) := by decide +kernel
theorem dM_half_5 : decode cM_half 5 = .ok (.iload 4, 2) := by decide +kernel
theorem dM_half_7 : decode cM_half 7 = .ok (.aload_n 0, 1) := by decide +kernel
theorem dM_half_8 : decode cM_half 8 = .ok (.getfield 7, 3) := by decide +kernel
theorem dM_half_11 : decode cM_half 11 = .ok (.if_icmp .ge 34, 3) := by decide +kernel
theorem dM_half_14 : decode cM_half 14 = .ok (.iload_n 3, 1) := by decide +kernel
theorem dM_half_15 : decode cM_half 15 = .ok (.aload_n 0, 1) := by decide +kernel
theorem dM_half_16 : decode cM_half 16 = .ok (.getfield 23, 3) := by decide +kernel
theorem dM_half_19 : decode cM_half 19 = .ok (.iload 4, 2) := by decide +kernel
theorem dM_half_21 : decode cM_half 21 = .ok (.iaload, 1) := by decide +kernel
theorem dM_half_22 : decode cM_half 22 = .ok (.iload_n 1, 1) := by decide +kernel
theorem dM_half_23 : decode cM_half 23 = .ok (.if_icmp .ne 13, 3) := by decide +kernel
theorem dM_half_26 : decode cM_half 26 = .ok (.aload_n 0, 1) := by decide +kernel
theorem dM_half_27 : decode cM_half 27 = .ok (.getfield 20, 3) := by decide +kernel
theorem dM_half_30 : decode cM_half 30 = .ok (.iload 4, 2) := by decide +kernel
theorem dM_half_32 : decode cM_half 32 = .ok (.iaload, 1) := by decide +kernel
theorem dM_half_33 : decode cM_half 33 = .ok (.goto 4, 3) := by decide +kernel
theorem dM_half_36 : decode cM_half 36 = .ok (.iconst 0, 1) := by decide +kernel
theorem dM_half_37 : decode cM_half 37 = .ok (.iadd, 1) := by decide +kernel
theorem dM_half_38 : decode cM_half 38 = .ok (.istore_n 3, 1) := by decide +kernel
theorem dM_half_39 : decode cM_half 39 = .ok (.iinc 4 1, 3) := by decide +kernel
theorem dM_half_42 : decode cM_half 42 = .ok (.goto (-37), 3) := by decide +kernel
theorem dM_half_45 : decode cM_half 45 = .ok (.iconst 0, 1) := by decide +kernel
theorem dM_half_46 : decode cM_half 46 = .ok (.istore 4, 2) := by decide +kernel
theorem dM_half_48 : decode cM_half 48 = .ok (.iload 4, 2) := by decide +kernel
theorem dM_half_50 : decode cM_half 50 = .ok (.aload_n 0, 1) := by decide +kernel
theorem dM_half_51 : decode cM_half 51 = .ok (.getfield 26, 3) := by decide +kernel
theorem dM_half_54 : decode cM_half 54 = .ok (.if_icmp .ge 89, 3) := by decide +kernel
theorem dM_half_57 : decode cM_half 57 = .ok (.aload_n 0, 1) := by decide +kernel
theorem dM_half_58 : decode cM_half 58 = .ok (.getfield 23, 3) := by decide +kernel
theorem dM_half_61 : decode cM_half 61 = .ok (.aload_n 0, 1) := by decide +kernel
theorem dM_half_62 : decode cM_half 62 = .ok (.getfield 13, 3) := by decide +kernel
theorem dM_half_65 : decode cM_half 65 = .ok (.iload 4, 2) := by decide +kernel
theorem dM_half_67 : decode cM_half 67 = .ok (.iaload, 1) := by decide +kernel
theorem dM_half_68 : decode cM_half 68 = .ok (.iaload, 1) := by decide +kernel
theorem dM_half_69 : decode cM_half 69 = .ok (.iload_n 1, 1) := by decide +kernel
theorem dM_half_70 : decode cM_half 70 = .ok (.if_icmp .ne 17, 3) := by decide +kernel
theorem dM_half_73 : decode cM_half 73 = .ok (.iload_n 2, 1) := by decide +kernel
theorem dM_half_74 : decode cM_half 74 = .ok (.aload_n 0, 1) := by decide +kernel
theorem dM_half_75 : decode cM_half 75 = .ok (.getfield 17, 3) := by decide +kernel
theorem dM_half_78 : decode cM_half 78 = .ok (.iload 4, 2) := by decide +kernel
theorem dM_half_80 : decode cM_half 80 = .ok (.iaload, 1) := by decide +kernel
theorem dM_half_81 : decode cM_half 81 = .ok (.invokestatic 36, 3) := by decide +kernel
theorem dM_half_84 : decode cM_half 84 = .ok (.ifCond .ne 33, 3) := by decide +kernel
theorem dM_half_87 : decode cM_half 87 = .ok (.aload_n 0, 1) := by decide +kernel
theorem dM_half_88 : decode cM_half 88 = .ok (.getfield 23, 3) := by decide +kernel
theorem dM_half_91 : decode cM_half 91 = .ok (.aload_n 0, 1) := by decide +kernel
theorem dM_half_92 : decode cM_half 92 = .ok (.getfield 17, 3) := by decide +kernel
theorem dM_half_95 : decode cM_half 95 = .ok (.iload 4, 2) := by decide +kernel
theorem dM_half_97 : decode cM_half 97 = .ok (.iaload, 1) := by decide +kernel
theorem dM_half_98 : decode cM_half 98 = .ok (.iaload, 1) := by decide +kernel
theorem dM_half_99 : decode cM_half 99 = .ok (.iload_n 1, 1) := by decide +kernel
theorem dM_half_100 : decode cM_half 100 = .ok (.if_icmp .ne 21, 3) := by decide +kernel
theorem dM_half_103 : decode cM_half 103 = .ok (.iload_n 2, 1) := by decide +kernel
theorem dM_half_104 : decode cM_half 104 = .ok (.aload_n 0, 1) := by decide +kernel
theorem dM_half_105 : decode cM_half 105 = .ok (.getfield 13, 3) := by decide +kernel
theorem dM_half_108 : decode cM_half 108 = .ok (.iload 4, 2) := by decide +kernel
theorem dM_half_110 : decode cM_half 110 = .ok (.iaload, 1) := by decide +kernel
theorem dM_half_111 : decode cM_half 111 = .ok (.invokestatic 36, 3) := by decide +kernel
theorem dM_half_114 : decode cM_half 114 = .ok (.ifCond .eq 7, 3) := by decide +kernel
theorem dM_half_117 : decode cM_half 117 = .ok (.iconst 1, 1) := by decide +kernel
theorem dM_half_118 : decode cM_half 118 = .ok (.goto 4, 3) := by decide +kernel
theorem dM_half_121 : decode cM_half 121 = .ok (.iconst 0, 1) := by decide +kernel
theorem dM_half_122 : decode cM_half 122 = .ok (.istore 5, 2) := by decide +kernel
theorem dM_half_124 : decode cM_half 124 = .ok (.iload_n 3, 1) := by decide +kernel
theorem dM_half_125 : decode cM_half 125 = .ok (.iload 5, 2) := by decide +kernel
theorem dM_half_127 : decode cM_half 127 = .ok (.ifCond .eq 7, 3) := by decide +kernel
theorem dM_half_130 : decode cM_half 130 = .ok (.iconst 1, 1) := by decide +kernel
theorem dM_half_131 : decode cM_half 131 = .ok (.goto 4, 3) := by decide +kernel
theorem dM_half_134 : decode cM_half 134 = .ok (.iconst 0, 1) := by decide +kernel
theorem dM_half_135 : decode cM_half 135 = .ok (.iadd, 1) := by decide +kernel
theorem dM_half_136 : decode cM_half 136 = .ok (.istore_n 3, 1) := by decide +kernel
theorem dM_half_137 : decode cM_half 137 = .ok (.iinc 4 1, 3) := by decide +kernel
theorem dM_half_140 : decode cM_half 140 = .ok (.goto (-92), 3) := by decide +kernel
theorem dM_half_143 : decode cM_half 143 = .ok (.iload_n 3, 1) := by decide +kernel
theorem dM_half_144 : decode cM_half 144 = .ok (.iconst 2, 1) := by decide +kernel
theorem dM_half_145 : decode cM_half 145 = .ok (.idiv, 1) := by decide +kernel
theorem dM_half_146 : decode cM_half 146 = .ok (.ireturn, 1) := by decide +kernel
theorem dM_areSets_0 : decode cM_areSets 0 = .ok (.iconst 1, 1) := by decide +kernel
theorem dM_areSets_1 : decode cM_areSets 1 = .ok (.aload_n 0, 1) := by decide +kernel
theorem dM_areSets_2 : decode cM_areSets 2 = .ok (.getfield 7, 3) := by decide +kernel
theorem dM_areSets_5 : decode cM_areSets 5 = .ok (.ishl, 1) := by decide +kernel
theorem dM_areSets_6 : decode cM_areSets 6 = .ok (.iconst 1, 1) := by decide +kernel
theorem dM_areSets_7 : decode cM_areSets 7 = .ok (.isub, 1) := by decide +kernel
theorem dM_areSets_8 : decode cM_areSets 8 = .ok (.istore_n 3, 1) := by decide +kernel
theorem dM_areSets_9 : decode cM_areSets 9 = .ok (.iload_n 1, 1) := by decide +kernel
theorem dM_areSets_10 : decode cM_areSets 10 = .ok (.ifCond .lt 27, 3) := by decide +kernel
theorem dM_areSets_13 : decode cM_areSets 13 = .ok (.iload_n 2, 1) := by decide +kernel
theorem dM_areSets_14 : decode cM_areSets 14 = .ok (.ifCond .lt 23, 3) := by decide +kernel
theorem dM_areSets_17 : decode cM_areSets 17 = .ok (.iload_n 1, 1) := by decide +kernel
theorem dM_areSets_18 : decode cM_areSets 18 = .ok (.iload_n 3, 1) := by decide +kernel
theorem dM_areSets_19 : decode cM_areSets 19 = .ok (.if_icmp .gt 18, 3) := by decide +kernel
theorem dM_areSets_22 : decode cM_areSets 22 = .ok (.iload_n 2, 1) := by decide +kernel
theorem dM_areSets_23 : decode cM_areSets 23 = .ok (.iload_n 3, 1) := by decide +kernel
theorem dM_areSets_24 : decode cM_areSets 24 = .ok (.if_icmp .gt 13, 3) := by decide +kernel
theorem dM_areSets_27 : decode cM_areSets 27 = .ok (.iload_n 1, 1) := by decide +kernel
theorem dM_areSets_28 : decode cM_areSets 28 = .ok (.iload_n 2, 1) := by decide +kernel
theorem dM_areSets_29 : decode cM_areSets 29 = .ok (.iand, 1) := by decide +kernel
theorem dM_areSets_30 : decode cM_areSets 30 = .ok (.ifCond .ne 7, 3) := by decide +kernel
theorem dM_areSets_33 : decode cM_areSets 33 = .ok (.iconst 1, 1) := by decide +kernel
theorem dM_areSets_34 : decode cM_areSets 34 = .ok (.goto 4, 3) := by decide +kernel
theorem dM_areSets_37 : decode cM_areSets 37 = .ok (.iconst 0, 1) := by decide +kernel
theorem dM_areSets_38 : decode cM_areSets 38 = .ok (.ireturn, 1) := by decide +kernel
theorem dM_bound_0 : decode cM_bound 0 = .ok (.aload_n 0, 1) := by decide +kernel
theorem dM_bound_1 : decode cM_bound 1 = .ok (.iload_n 1, 1) := by decide +kernel
theorem dM_bound_2 : decode cM_bound 2 = .ok (.iload_n 2, 1) := by decide +kernel
theorem dM_bound_3 : decode cM_bound 3 = .ok (.invokevirtual 70, 3) := by decide +kernel
theorem dM_bound_6 : decode cM_bound 6 = .ok (.ifCond .ne 5, 3) := by decide +kernel
theorem dM_bound_9 : decode cM_bound 9 = .ok (.iconst (-1), 1) := by decide +kernel
theorem dM_bound_10 : decode cM_bound 10 = .ok (.ireturn, 1) := by decide +kernel
theorem dM_bound_11 : decode cM_bound 11 = .ok (.iconst 0, 1) := by decide +kernel
theorem dM_bound_12 : decode cM_bound 12 = .ok (.istore_n 3, 1) := by decide +kernel
theorem dM_bound_13 : decode cM_bound 13 = .ok (.iconst 0, 1) := by decide +kernel
theorem dM_bound_14 : decode cM_bound 14 = .ok (.istore 4, 2) := by decide +kernel
theorem dM_bound_16 : decode cM_bound 16 = .ok (.iload 4, 2) := by decide +kernel
theorem dM_bound_18 : decode cM_bound 18 = .ok (.aload_n 0, 1) := by decide +kernel
theorem dM_bound_19 : decode cM_bound 19 = .ok (.getfield 7, 3) := by decide +kernel
theorem dM_bound_22 : decode cM_bound 22 = .ok (.if_icmp .ge 32, 3) := by decide +kernel
theorem dM_bound_25 : decode cM_bound 25 = .ok (.iload_n 3, 1) := by decide +kernel
theorem dM_bound_26 : decode cM_bound 26 = .ok (.iload_n 1, 1) := by decide +kernel
theorem dM_bound_27 : decode cM_bound 27 = .ok (.iload 4, 2) := by decide +kernel
theorem dM_bound_29 : decode cM_bound 29 = .ok (.invokestatic 36, 3) := by decide +kernel
theorem dM_bound_32 : decode cM_bound 32 = .ok (.ifCond .eq 13, 3) := by decide +kernel
theorem dM_bound_35 : decode cM_bound 35 = .ok (.aload_n 0, 1) := by decide +kernel
theorem dM_bound_36 : decode cM_bound 36 = .ok (.getfield 20, 3) := by decide +kernel
theorem dM_bound_39 : decode cM_bound 39 = .ok (.iload 4, 2) := by decide +kernel
theorem dM_bound_41 : decode cM_bound 41 = .ok (.iaload, 1) := by decide +kernel
theorem dM_bound_42 : decode cM_bound 42 = .ok (.goto 4, 3) := by decide +kernel
theorem dM_bound_45 : decode cM_bound 45 = .ok (.iconst 0, 1) := by decide +kernel
theorem dM_bound_46 : decode cM_bound 46 = .ok (.iadd, 1) := by decide +kernel
theorem dM_bound_47 : decode cM_bound 47 = .ok (.istore_n 3, 1) := by decide +kernel
theorem dM_bound_48 : decode cM_bound 48 = .ok (.iinc 4 1, 3) := by decide +kernel
theorem dM_bound_51 : decode cM_bound 51 = .ok (.goto (-35), 3) := by decide +kernel
theorem dM_bound_54 : decode cM_bound 54 = .ok (.iconst 0, 1) := by decide +kernel
theorem dM_bound_55 : decode cM_bound 55 = .ok (.istore 4, 2) := by decide +kernel
theorem dM_bound_57 : decode cM_bound 57 = .ok (.iload 4, 2) := by decide +kernel
theorem dM_bound_59 : decode cM_bound 59 = .ok (.aload_n 0, 1) := by decide +kernel
theorem dM_bound_60 : decode cM_bound 60 = .ok (.getfield 26, 3) := by decide +kernel
theorem dM_bound_63 : decode cM_bound 63 = .ok (.if_icmp .ge 45, 3) := by decide +kernel
theorem dM_bound_66 : decode cM_bound 66 = .ok (.iload_n 3, 1) := by decide +kernel
theorem dM_bound_67 : decode cM_bound 67 = .ok (.iload_n 2, 1) := by decide +kernel
theorem dM_bound_68 : decode cM_bound 68 = .ok (.aload_n 0, 1) := by decide +kernel
theorem dM_bound_69 : decode cM_bound 69 = .ok (.getfield 13, 3) := by decide +kernel
theorem dM_bound_72 : decode cM_bound 72 = .ok (.iload 4, 2) := by decide +kernel
theorem dM_bound_74 : decode cM_bound 74 = .ok (.iaload, 1) := by decide +kernel
theorem dM_bound_75 : decode cM_bound 75 = .ok (.invokestatic 36, 3) := by decide +kernel
theorem dM_bound_78 : decode cM_bound 78 = .ok (.ifCond .eq 21, 3) := by decide +kernel
theorem dM_bound_81 : decode cM_bound 81 = .ok (.iload_n 2, 1) := by decide +kernel
theorem dM_bound_82 : decode cM_bound 82 = .ok (.aload_n 0, 1) := by decide +kernel
theorem dM_bound_83 : decode cM_bound 83 = .ok (.getfield 17, 3) := by decide +kernel
theorem dM_bound_86 : decode cM_bound 86 = .ok (.iload 4, 2) := by decide +kernel
theorem dM_bound_88 : decode cM_bound 88 = .ok (.iaload, 1) := by decide +kernel
theorem dM_bound_89 : decode cM_bound 89 = .ok (.invokestatic 36, 3) := by decide +kernel
theorem dM_bound_92 : decode cM_bound 92 = .ok (.ifCond .eq 7, 3) := by decide +kernel
theorem dM_bound_95 : decode cM_bound 95 = .ok (.iconst 1, 1) := by decide +kernel
theorem dM_bound_96 : decode cM_bound 96 = .ok (.goto 4, 3) := by decide +kernel
theorem dM_bound_99 : decode cM_bound 99 = .ok (.iconst 0, 1) := by decide +kernel
theorem dM_bound_100 : decode cM_bound 100 = .ok (.iadd, 1) := by decide +kernel
theorem dM_bound_101 : decode cM_bound 101 = .ok (.istore_n 3, 1) := by decide +kernel
theorem dM_bound_102 : decode cM_bound 102 = .ok (.iinc 4 1, 3) := by decide +kernel
theorem dM_bound_105 : decode cM_bound 105 = .ok (.goto (-48), 3) := by decide +kernel
theorem dM_bound_108 : decode cM_bound 108 = .ok (.aload_n 0, 1) := by decide +kernel
theorem dM_bound_109 : decode cM_bound 109 = .ok (.iload_n 1, 1) := by decide +kernel
theorem dM_bound_110 : decode cM_bound 110 = .ok (.iload_n 2, 1) := by decide +kernel
theorem dM_bound_111 : decode cM_bound 111 = .ok (.invokevirtual 73, 3) := by decide +kernel
theorem dM_bound_114 : decode cM_bound 114 = .ok (.ifCond .le 47, 3) := by decide +kernel
theorem dM_bound_117 : decode cM_bound 117 = .ok (.iconst 0, 1) := by decide +kernel
theorem dM_bound_118 : decode cM_bound 118 = .ok (.istore 4, 2) := by decide +kernel
theorem dM_bound_120 : decode cM_bound 120 = .ok (.iload 4, 2) := by decide +kernel
theorem dM_bound_122 : decode cM_bound 122 = .ok (.aload_n 0, 1) := by decide +kernel
theorem dM_bound_123 : decode cM_bound 123 = .ok (.getfield 7, 3) := by decide +kernel
theorem dM_bound_126 : decode cM_bound 126 = .ok (.if_icmp .ge 35, 3) := by decide +kernel
theorem dM_bound_129 : decode cM_bound 129 = .ok (.iload_n 3, 1) := by decide +kernel
theorem dM_bound_130 : decode cM_bound 130 = .ok (.aload_n 0, 1) := by decide +kernel
theorem dM_bound_131 : decode cM_bound 131 = .ok (.getfield 23, 3) := by decide +kernel
theorem dM_bound_134 : decode cM_bound 134 = .ok (.iload 4, 2) := by decide +kernel
theorem dM_bound_136 : decode cM_bound 136 = .ok (.iaload, 1) := by decide +kernel
theorem dM_bound_137 : decode cM_bound 137 = .ok (.iload 4, 2) := by decide +kernel
theorem dM_bound_139 : decode cM_bound 139 = .ok (.if_icmp .ne 13, 3) := by decide +kernel
theorem dM_bound_142 : decode cM_bound 142 = .ok (.aload_n 0, 1) := by decide +kernel
theorem dM_bound_143 : decode cM_bound 143 = .ok (.iload 4, 2) := by decide +kernel
theorem dM_bound_145 : decode cM_bound 145 = .ok (.iload_n 2, 1) := by decide +kernel
theorem dM_bound_146 : decode cM_bound 146 = .ok (.invokevirtual 76, 3) := by decide +kernel
theorem dM_bound_149 : decode cM_bound 149 = .ok (.goto 4, 3) := by decide +kernel
theorem dM_bound_152 : decode cM_bound 152 = .ok (.iconst 0, 1) := by decide +kernel
theorem dM_bound_153 : decode cM_bound 153 = .ok (.iadd, 1) := by decide +kernel
theorem dM_bound_154 : decode cM_bound 154 = .ok (.istore_n 3, 1) := by decide +kernel
theorem dM_bound_155 : decode cM_bound 155 = .ok (.iinc 4 1, 3) := by decide +kernel
theorem dM_bound_158 : decode cM_bound 158 = .ok (.goto (-38), 3) := by decide +kernel
theorem dM_bound_161 : decode cM_bound 161 = .ok (.iload_n 3, 1) := by decide +kernel
theorem dM_bound_162 : decode cM_bound 162 = .ok (.ireturn, 1) := by decide +kernel
theorem dM_witness_0 : decode cM_witness 0 = .ok (.iload_n 1, 1) := by decide +kernel
theorem dM_witness_1 : decode cM_witness 1 = .ok (.ifCond .lt 8, 3) := by decide +kernel
theorem dM_witness_4 : decode cM_witness 4 = .ok (.iload_n 1, 1) := by decide +kernel
theorem dM_witness_5 : decode cM_witness 5 = .ok (.iconst 1, 1) := by decide +kernel
theorem dM_witness_6 : decode cM_witness 6 = .ok (.if_icmp .le 5, 3) := by decide +kernel
theorem dM_witness_9 : decode cM_witness 9 = .ok (.iconst (-1), 1) := by decide +kernel
theorem dM_witness_10 : decode cM_witness 10 = .ok (.ireturn, 1) := by decide +kernel
theorem dM_witness_11 : decode cM_witness 11 = .ok (.aload_n 0, 1) := by decide +kernel
theorem dM_witness_12 : decode cM_witness 12 = .ok (.invokevirtual 64, 3) := by decide +kernel
theorem dM_witness_15 : decode cM_witness 15 = .ok (.istore_n 2, 1) := by decide +kernel
theorem dM_witness_16 : decode cM_witness 16 = .ok (.iconst (-1), 1) := by decide +kernel
theorem dM_witness_17 : decode cM_witness 17 = .ok (.istore_n 3, 1) := by decide +kernel
theorem dM_witness_18 : decode cM_witness 18 = .ok (.iconst (-1), 1) := by decide +kernel
theorem dM_witness_19 : decode cM_witness 19 = .ok (.istore 4, 2) := by decide +kernel
theorem dM_witness_21 : decode cM_witness 21 = .ok (.iconst 1, 1) := by decide +kernel
theorem dM_witness_22 : decode cM_witness 22 = .ok (.aload_n 0, 1) := by decide +kernel
theorem dM_witness_23 : decode cM_witness 23 = .ok (.getfield 7, 3) := by decide +kernel
theorem dM_witness_26 : decode cM_witness 26 = .ok (.ishl, 1) := by decide +kernel
theorem dM_witness_27 : decode cM_witness 27 = .ok (.iconst 1, 1) := by decide +kernel
theorem dM_witness_28 : decode cM_witness 28 = .ok (.isub, 1) := by decide +kernel
theorem dM_witness_29 : decode cM_witness 29 = .ok (.istore 5, 2) := by decide +kernel
theorem dM_witness_31 : decode cM_witness 31 = .ok (.iconst 0, 1) := by decide +kernel
theorem dM_witness_32 : decode cM_witness 32 = .ok (.istore 6, 2) := by decide +kernel
theorem dM_witness_34 : decode cM_witness 34 = .ok (.iload 6, 2) := by decide +kernel
theorem dM_witness_36 : decode cM_witness 36 = .ok (.iload 5, 2) := by decide +kernel
theorem dM_witness_38 : decode cM_witness 38 = .ok (.if_icmp .gt 96, 3) := by decide +kernel
theorem dM_witness_41 : decode cM_witness 41 = .ok (.iconst 0, 1) := by decide +kernel
theorem dM_witness_42 : decode cM_witness 42 = .ok (.istore 7, 2) := by decide +kernel
theorem dM_witness_44 : decode cM_witness 44 = .ok (.iload 7, 2) := by decide +kernel
theorem dM_witness_46 : decode cM_witness 46 = .ok (.iload 5, 2) := by decide +kernel
theorem dM_witness_48 : decode cM_witness 48 = .ok (.if_icmp .gt 80, 3) := by decide +kernel
theorem dM_witness_51 : decode cM_witness 51 = .ok (.iload 6, 2) := by decide +kernel
theorem dM_witness_53 : decode cM_witness 53 = .ok (.iload 7, 2) := by decide +kernel
theorem dM_witness_55 : decode cM_witness 55 = .ok (.iand, 1) := by decide +kernel
theorem dM_witness_56 : decode cM_witness 56 = .ok (.ifCond .eq 6, 3) := by decide +kernel
theorem dM_witness_59 : decode cM_witness 59 = .ok (.goto 63, 3) := by decide +kernel
theorem dM_witness_62 : decode cM_witness 62 = .ok (.iload_n 3, 1) := by decide +kernel
theorem dM_witness_63 : decode cM_witness 63 = .ok (.ifCond .lt 28, 3) := by decide +kernel
theorem dM_witness_66 : decode cM_witness 66 = .ok (.iload 6, 2) := by decide +kernel
theorem dM_witness_68 : decode cM_witness 68 = .ok (.iload_n 3, 1) := by decide +kernel
theorem dM_witness_69 : decode cM_witness 69 = .ok (.invokestatic 58, 3) := by decide +kernel
theorem dM_witness_72 : decode cM_witness 72 = .ok (.ifCond .ne 19, 3) := by decide +kernel
theorem dM_witness_75 : decode cM_witness 75 = .ok (.iload 6, 2) := by decide +kernel
theorem dM_witness_77 : decode cM_witness 77 = .ok (.iload_n 3, 1) := by decide +kernel
theorem dM_witness_78 : decode cM_witness 78 = .ok (.if_icmp .ne 17, 3) := by decide +kernel
theorem dM_witness_81 : decode cM_witness 81 = .ok (.iload 7, 2) := by decide +kernel
theorem dM_witness_83 : decode cM_witness 83 = .ok (.iload 4, 2) := by decide +kernel
theorem dM_witness_85 : decode cM_witness 85 = .ok (.invokestatic 58, 3) := by decide +kernel
theorem dM_witness_88 : decode cM_witness 88 = .ok (.ifCond .eq 7, 3) := by decide +kernel
theorem dM_witness_91 : decode cM_witness 91 = .ok (.iconst 1, 1) := by decide +kernel
theorem dM_witness_92 : decode cM_witness 92 = .ok (.goto 4, 3) := by decide +kernel
theorem dM_witness_95 : decode cM_witness 95 = .ok (.iconst 0, 1) := by decide +kernel
theorem dM_witness_96 : decode cM_witness 96 = .ok (.istore 8, 2) := by decide +kernel
theorem dM_witness_98 : decode cM_witness 98 = .ok (.iload 8, 2) := by decide +kernel
theorem dM_witness_100 : decode cM_witness 100 = .ok (.ifCond .eq 22, 3) := by decide +kernel
theorem dM_witness_103 : decode cM_witness 103 = .ok (.aload_n 0, 1) := by decide +kernel
theorem dM_witness_104 : decode cM_witness 104 = .ok (.iload 6, 2) := by decide +kernel
theorem dM_witness_106 : decode cM_witness 106 = .ok (.iload 7, 2) := by decide +kernel
theorem dM_witness_108 : decode cM_witness 108 = .ok (.invokevirtual 79, 3) := by decide +kernel
theorem dM_witness_111 : decode cM_witness 111 = .ok (.iload_n 2, 1) := by decide +kernel
theorem dM_witness_112 : decode cM_witness 112 = .ok (.if_icmp .ne 10, 3) := by decide +kernel
theorem dM_witness_115 : decode cM_witness 115 = .ok (.iload 6, 2) := by decide +kernel
theorem dM_witness_117 : decode cM_witness 117 = .ok (.istore_n 3, 1) := by decide +kernel
theorem dM_witness_118 : decode cM_witness 118 = .ok (.iload 7, 2) := by decide +kernel
theorem dM_witness_120 : decode cM_witness 120 = .ok (.istore 4, 2) := by decide +kernel
theorem dM_witness_122 : decode cM_witness 122 = .ok (.iinc 7 1, 3) := by decide +kernel
theorem dM_witness_125 : decode cM_witness 125 = .ok (.goto (-81), 3) := by decide +kernel
theorem dM_witness_128 : decode cM_witness 128 = .ok (.iinc 6 1, 3) := by decide +kernel
theorem dM_witness_131 : decode cM_witness 131 = .ok (.goto (-97), 3) := by decide +kernel
theorem dM_witness_134 : decode cM_witness 134 = .ok (.iload_n 1, 1) := by decide +kernel
theorem dM_witness_135 : decode cM_witness 135 = .ok (.ifCond .ne 7, 3) := by decide +kernel
theorem dM_witness_138 : decode cM_witness 138 = .ok (.iload_n 3, 1) := by decide +kernel
theorem dM_witness_139 : decode cM_witness 139 = .ok (.goto 5, 3) := by decide +kernel
theorem dM_witness_142 : decode cM_witness 142 = .ok (.iload 4, 2) := by decide +kernel
theorem dM_witness_144 : decode cM_witness 144 = .ok (.ireturn, 1) := by decide +kernel
end
section
theorem dL_law_0 : decode code 0 = .ok (.new 7, 3) := by decide +kernel
theorem dL_law_3 : decode code 3 = .ok (.dup, 1) := by decide +kernel
theorem dL_law_4 : decode code 4 = .ok (.invokespecial 9, 3) := by decide +kernel
theorem dL_law_7 : decode code 7 = .ok (.astore_n 1, 1) := by decide +kernel
theorem dL_law_8 : decode code 8 = .ok (.new 10, 3) := by decide +kernel
theorem dL_law_11 : decode code 11 = .ok (.dup, 1) := by decide +kernel
theorem dL_law_12 : decode code 12 = .ok (.invokespecial 12, 3) := by decide +kernel
theorem dL_law_15 : decode code 15 = .ok (.astore_n 2, 1) := by decide +kernel
theorem dL_law_16 : decode code 16 = .ok (.iconst 0, 1) := by decide +kernel
theorem dL_law_17 : decode code 17 = .ok (.istore_n 3, 1) := by decide +kernel
theorem dL_law_18 : decode code 18 = .ok (.iload_n 3, 1) := by decide +kernel
theorem dL_law_19 : decode code 19 = .ok (.aload_n 0, 1) := by decide +kernel
theorem dL_law_20 : decode code 20 = .ok (.arraylength, 1) := by decide +kernel
theorem dL_law_21 : decode code 21 = .ok (.iconst 3, 1) := by decide +kernel
theorem dL_law_22 : decode code 22 = .ok (.isub, 1) := by decide +kernel
theorem dL_law_23 : decode code 23 = .ok (.if_icmp .gt 480, 3) := by decide +kernel
theorem dL_law_26 : decode code 26 = .ok (.aload_n 0, 1) := by decide +kernel
theorem dL_law_27 : decode code 27 = .ok (.iload_n 3, 1) := by decide +kernel
theorem dL_law_28 : decode code 28 = .ok (.iaload, 1) := by decide +kernel
theorem dL_law_29 : decode code 29 = .ok (.bipush 31, 2) := by decide +kernel
theorem dL_law_31 : decode code 31 = .ok (.iand, 1) := by decide +kernel
theorem dL_law_32 : decode code 32 = .ok (.tableswitch 465 0 16 #[84, 107, 140, 163, 196, 209, 222, 255, 278, 301, 314, 327, 340, 363, 386, 409, 442], 84) := by decide +kernel
theorem dL_law_116 : decode code 116 = .ok (.aload_n 1, 1) := by decide +kernel
theorem dL_law_117 : decode code 117 = .ok (.aload_n 0, 1) := by decide +kernel
theorem dL_law_118 : decode code 118 = .ok (.iload_n 3, 1) := by decide +kernel
theorem dL_law_119 : decode code 119 = .ok (.iconst 1, 1) := by decide +kernel
theorem dL_law_120 : decode code 120 = .ok (.iadd, 1) := by decide +kernel
theorem dL_law_121 : decode code 121 = .ok (.iaload, 1) := by decide +kernel
theorem dL_law_122 : decode code 122 = .ok (.invokevirtual 13, 3) := by decide +kernel
theorem dL_law_125 : decode code 125 = .ok (.aload_n 2, 1) := by decide +kernel
theorem dL_law_126 : decode code 126 = .ok (.aload_n 0, 1) := by decide +kernel
theorem dL_law_127 : decode code 127 = .ok (.iload_n 3, 1) := by decide +kernel
theorem dL_law_128 : decode code 128 = .ok (.iconst 1, 1) := by decide +kernel
theorem dL_law_129 : decode code 129 = .ok (.iadd, 1) := by decide +kernel
theorem dL_law_130 : decode code 130 = .ok (.iaload, 1) := by decide +kernel
theorem dL_law_131 : decode code 131 = .ok (.invokevirtual 17, 3) := by decide +kernel
theorem dL_law_134 : decode code 134 = .ok (.if_icmp .eq 363, 3) := by decide +kernel
theorem dL_law_137 : decode code 137 = .ok (.iconst 0, 1) := by decide +kernel
theorem dL_law_138 : decode code 138 = .ok (.ireturn, 1) := by decide +kernel
theorem dL_law_139 : decode code 139 = .ok (.aload_n 1, 1) := by decide +kernel
theorem dL_law_140 : decode code 140 = .ok (.aload_n 0, 1) := by decide +kernel
theorem dL_law_141 : decode code 141 = .ok (.iload_n 3, 1) := by decide +kernel
theorem dL_law_142 : decode code 142 = .ok (.iconst 1, 1) := by decide +kernel
theorem dL_law_143 : decode code 143 = .ok (.iadd, 1) := by decide +kernel
theorem dL_law_144 : decode code 144 = .ok (.iaload, 1) := by decide +kernel
theorem dL_law_145 : decode code 145 = .ok (.aload_n 0, 1) := by decide +kernel
theorem dL_law_146 : decode code 146 = .ok (.iload_n 3, 1) := by decide +kernel
theorem dL_law_147 : decode code 147 = .ok (.iconst 2, 1) := by decide +kernel
theorem dL_law_148 : decode code 148 = .ok (.iadd, 1) := by decide +kernel
theorem dL_law_149 : decode code 149 = .ok (.iaload, 1) := by decide +kernel
theorem dL_law_150 : decode code 150 = .ok (.invokevirtual 18, 3) := by decide +kernel
theorem dL_law_153 : decode code 153 = .ok (.aload_n 2, 1) := by decide +kernel
theorem dL_law_154 : decode code 154 = .ok (.aload_n 0, 1) := by decide +kernel
theorem dL_law_155 : decode code 155 = .ok (.iload_n 3, 1) := by decide +kernel
theorem dL_law_156 : decode code 156 = .ok (.iconst 1, 1) := by decide +kernel
theorem dL_law_157 : decode code 157 = .ok (.iadd, 1) := by decide +kernel
theorem dL_law_158 : decode code 158 = .ok (.iaload, 1) := by decide +kernel
theorem dL_law_159 : decode code 159 = .ok (.aload_n 0, 1) := by decide +kernel
theorem dL_law_160 : decode code 160 = .ok (.iload_n 3, 1) := by decide +kernel
theorem dL_law_161 : decode code 161 = .ok (.iconst 2, 1) := by decide +kernel
theorem dL_law_162 : decode code 162 = .ok (.iadd, 1) := by decide +kernel
theorem dL_law_163 : decode code 163 = .ok (.iaload, 1) := by decide +kernel
theorem dL_law_164 : decode code 164 = .ok (.invokevirtual 22, 3) := by decide +kernel
theorem dL_law_167 : decode code 167 = .ok (.if_icmp .eq 330, 3) := by decide +kernel
theorem dL_law_170 : decode code 170 = .ok (.iconst 0, 1) := by decide +kernel
theorem dL_law_171 : decode code 171 = .ok (.ireturn, 1) := by decide +kernel
theorem dL_law_172 : decode code 172 = .ok (.aload_n 1, 1) := by decide +kernel
theorem dL_law_173 : decode code 173 = .ok (.aload_n 0, 1) := by decide +kernel
theorem dL_law_174 : decode code 174 = .ok (.iload_n 3, 1) := by decide +kernel
theorem dL_law_175 : decode code 175 = .ok (.iconst 1, 1) := by decide +kernel
theorem dL_law_176 : decode code 176 = .ok (.iadd, 1) := by decide +kernel
theorem dL_law_177 : decode code 177 = .ok (.iaload, 1) := by decide +kernel
theorem dL_law_178 : decode code 178 = .ok (.invokevirtual 23, 3) := by decide +kernel
theorem dL_law_181 : decode code 181 = .ok (.aload_n 2, 1) := by decide +kernel
theorem dL_law_182 : decode code 182 = .ok (.aload_n 0, 1) := by decide +kernel
theorem dL_law_183 : decode code 183 = .ok (.iload_n 3, 1) := by decide +kernel
theorem dL_law_184 : decode code 184 = .ok (.iconst 1, 1) := by decide +kernel
theorem dL_law_185 : decode code 185 = .ok (.iadd, 1) := by decide +kernel
theorem dL_law_186 : decode code 186 = .ok (.iaload, 1) := by decide +kernel
theorem dL_law_187 : decode code 187 = .ok (.invokevirtual 26, 3) := by decide +kernel
theorem dL_law_190 : decode code 190 = .ok (.if_icmp .eq 307, 3) := by decide +kernel
theorem dL_law_193 : decode code 193 = .ok (.iconst 0, 1) := by decide +kernel
theorem dL_law_194 : decode code 194 = .ok (.ireturn, 1) := by decide +kernel
theorem dL_law_195 : decode code 195 = .ok (.aload_n 1, 1) := by decide +kernel
theorem dL_law_196 : decode code 196 = .ok (.aload_n 0, 1) := by decide +kernel
theorem dL_law_197 : decode code 197 = .ok (.iload_n 3, 1) := by decide +kernel
theorem dL_law_198 : decode code 198 = .ok (.iconst 1, 1) := by decide +kernel
theorem dL_law_199 : decode code 199 = .ok (.iadd, 1) := by decide +kernel
theorem dL_law_200 : decode code 200 = .ok (.iaload, 1) := by decide +kernel
theorem dL_law_201 : decode code 201 = .ok (.aload_n 0, 1) := by decide +kernel
theorem dL_law_202 : decode code 202 = .ok (.iload_n 3, 1) := by decide +kernel
theorem dL_law_203 : decode code 203 = .ok (.iconst 2, 1) := by decide +kernel
theorem dL_law_204 : decode code 204 = .ok (.iadd, 1) := by decide +kernel
theorem dL_law_205 : decode code 205 = .ok (.iaload, 1) := by decide +kernel
theorem dL_law_206 : decode code 206 = .ok (.invokevirtual 27, 3) := by decide +kernel
theorem dL_law_209 : decode code 209 = .ok (.aload_n 2, 1) := by decide +kernel
theorem dL_law_210 : decode code 210 = .ok (.aload_n 0, 1) := by decide +kernel
theorem dL_law_211 : decode code 211 = .ok (.iload_n 3, 1) := by decide +kernel
theorem dL_law_212 : decode code 212 = .ok (.iconst 1, 1) := by decide +kernel
theorem dL_law_213 : decode code 213 = .ok (.iadd, 1) := by decide +kernel
theorem dL_law_214 : decode code 214 = .ok (.iaload, 1) := by decide +kernel
theorem dL_law_215 : decode code 215 = .ok (.aload_n 0, 1) := by decide +kernel
theorem dL_law_216 : decode code 216 = .ok (.iload_n 3, 1) := by decide +kernel
theorem dL_law_217 : decode code 217 = .ok (.iconst 2, 1) := by decide +kernel
theorem dL_law_218 : decode code 218 = .ok (.iadd, 1) := by decide +kernel
theorem dL_law_219 : decode code 219 = .ok (.iaload, 1) := by decide +kernel
theorem dL_law_220 : decode code 220 = .ok (.invokevirtual 31, 3) := by decide +kernel
theorem dL_law_223 : decode code 223 = .ok (.if_icmp .eq 274, 3) := by decide +kernel
theorem dL_law_226 : decode code 226 = .ok (.iconst 0, 1) := by decide +kernel
theorem dL_law_227 : decode code 227 = .ok (.ireturn, 1) := by decide +kernel
theorem dL_law_228 : decode code 228 = .ok (.aload_n 1, 1) := by decide +kernel
theorem dL_law_229 : decode code 229 = .ok (.invokevirtual 32, 3) := by decide +kernel
theorem dL_law_232 : decode code 232 = .ok (.aload_n 2, 1) := by decide +kernel
theorem dL_law_233 : decode code 233 = .ok (.invokevirtual 36, 3) := by decide +kernel
theorem dL_law_236 : decode code 236 = .ok (.if_icmp .eq 261, 3) := by decide +kernel
theorem dL_law_239 : decode code 239 = .ok (.iconst 0, 1) := by decide +kernel
theorem dL_law_240 : decode code 240 = .ok (.ireturn, 1) := by decide +kernel
theorem dL_law_241 : decode code 241 = .ok (.aload_n 1, 1) := by decide +kernel
theorem dL_law_242 : decode code 242 = .ok (.invokevirtual 37, 3) := by decide +kernel
theorem dL_law_245 : decode code 245 = .ok (.aload_n 2, 1) := by decide +kernel
theorem dL_law_246 : decode code 246 = .ok (.invokevirtual 40, 3) := by decide +kernel
theorem dL_law_249 : decode code 249 = .ok (.if_icmp .eq 248, 3) := by decide +kernel
theorem dL_law_252 : decode code 252 = .ok (.iconst 0, 1) := by decide +kernel
theorem dL_law_253 : decode code 253 = .ok (.ireturn, 1) := by decide +kernel
theorem dL_law_254 : decode code 254 = .ok (.aload_n 1, 1) := by decide +kernel
theorem dL_law_255 : decode code 255 = .ok (.aload_n 0, 1) := by decide +kernel
theorem dL_law_256 : decode code 256 = .ok (.iload_n 3, 1) := by decide +kernel
theorem dL_law_257 : decode code 257 = .ok (.iconst 1, 1) := by decide +kernel
theorem dL_law_258 : decode code 258 = .ok (.iadd, 1) := by decide +kernel
theorem dL_law_259 : decode code 259 = .ok (.iaload, 1) := by decide +kernel
theorem dL_law_260 : decode code 260 = .ok (.aload_n 0, 1) := by decide +kernel
theorem dL_law_261 : decode code 261 = .ok (.iload_n 3, 1) := by decide +kernel
theorem dL_law_262 : decode code 262 = .ok (.iconst 2, 1) := by decide +kernel
theorem dL_law_263 : decode code 263 = .ok (.iadd, 1) := by decide +kernel
theorem dL_law_264 : decode code 264 = .ok (.iaload, 1) := by decide +kernel
theorem dL_law_265 : decode code 265 = .ok (.invokevirtual 41, 3) := by decide +kernel
theorem dL_law_268 : decode code 268 = .ok (.aload_n 2, 1) := by decide +kernel
theorem dL_law_269 : decode code 269 = .ok (.aload_n 0, 1) := by decide +kernel
theorem dL_law_270 : decode code 270 = .ok (.iload_n 3, 1) := by decide +kernel
theorem dL_law_271 : decode code 271 = .ok (.iconst 1, 1) := by decide +kernel
theorem dL_law_272 : decode code 272 = .ok (.iadd, 1) := by decide +kernel
theorem dL_law_273 : decode code 273 = .ok (.iaload, 1) := by decide +kernel
theorem dL_law_274 : decode code 274 = .ok (.aload_n 0, 1) := by decide +kernel
theorem dL_law_275 : decode code 275 = .ok (.iload_n 3, 1) := by decide +kernel
theorem dL_law_276 : decode code 276 = .ok (.iconst 2, 1) := by decide +kernel
theorem dL_law_277 : decode code 277 = .ok (.iadd, 1) := by decide +kernel
theorem dL_law_278 : decode code 278 = .ok (.iaload, 1) := by decide +kernel
theorem dL_law_279 : decode code 279 = .ok (.invokevirtual 44, 3) := by decide +kernel
theorem dL_law_282 : decode code 282 = .ok (.if_icmp .eq 215, 3) := by decide +kernel
theorem dL_law_285 : decode code 285 = .ok (.iconst 0, 1) := by decide +kernel
theorem dL_law_286 : decode code 286 = .ok (.ireturn, 1) := by decide +kernel
theorem dL_law_287 : decode code 287 = .ok (.aload_n 1, 1) := by decide +kernel
theorem dL_law_288 : decode code 288 = .ok (.aload_n 0, 1) := by decide +kernel
theorem dL_law_289 : decode code 289 = .ok (.iload_n 3, 1) := by decide +kernel
theorem dL_law_290 : decode code 290 = .ok (.iconst 1, 1) := by decide +kernel
theorem dL_law_291 : decode code 291 = .ok (.iadd, 1) := by decide +kernel
theorem dL_law_292 : decode code 292 = .ok (.iaload, 1) := by decide +kernel
theorem dL_law_293 : decode code 293 = .ok (.invokevirtual 45, 3) := by decide +kernel
theorem dL_law_296 : decode code 296 = .ok (.aload_n 2, 1) := by decide +kernel
theorem dL_law_297 : decode code 297 = .ok (.aload_n 0, 1) := by decide +kernel
theorem dL_law_298 : decode code 298 = .ok (.iload_n 3, 1) := by decide +kernel
theorem dL_law_299 : decode code 299 = .ok (.iconst 1, 1) := by decide +kernel
theorem dL_law_300 : decode code 300 = .ok (.iadd, 1) := by decide +kernel
theorem dL_law_301 : decode code 301 = .ok (.iaload, 1) := by decide +kernel
theorem dL_law_302 : decode code 302 = .ok (.invokevirtual 49, 3) := by decide +kernel
theorem dL_law_305 : decode code 305 = .ok (.if_icmp .eq 192, 3) := by decide +kernel
theorem dL_law_308 : decode code 308 = .ok (.iconst 0, 1) := by decide +kernel
theorem dL_law_309 : decode code 309 = .ok (.ireturn, 1) := by decide +kernel
theorem dL_law_310 : decode code 310 = .ok (.aload_n 1, 1) := by decide +kernel
theorem dL_law_311 : decode code 311 = .ok (.aload_n 0, 1) := by decide +kernel
theorem dL_law_312 : decode code 312 = .ok (.iload_n 3, 1) := by decide +kernel
theorem dL_law_313 : decode code 313 = .ok (.iconst 1, 1) := by decide +kernel
theorem dL_law_314 : decode code 314 = .ok (.iadd, 1) := by decide +kernel
theorem dL_law_315 : decode code 315 = .ok (.iaload, 1) := by decide +kernel
theorem dL_law_316 : decode code 316 = .ok (.invokevirtual 50, 3) := by decide +kernel
theorem dL_law_319 : decode code 319 = .ok (.aload_n 2, 1) := by decide +kernel
theorem dL_law_320 : decode code 320 = .ok (.aload_n 0, 1) := by decide +kernel
theorem dL_law_321 : decode code 321 = .ok (.iload_n 3, 1) := by decide +kernel
theorem dL_law_322 : decode code 322 = .ok (.iconst 1, 1) := by decide +kernel
theorem dL_law_323 : decode code 323 = .ok (.iadd, 1) := by decide +kernel
theorem dL_law_324 : decode code 324 = .ok (.iaload, 1) := by decide +kernel
theorem dL_law_325 : decode code 325 = .ok (.invokevirtual 53, 3) := by decide +kernel
theorem dL_law_328 : decode code 328 = .ok (.if_icmp .eq 169, 3) := by decide +kernel
theorem dL_law_331 : decode code 331 = .ok (.iconst 0, 1) := by decide +kernel
theorem dL_law_332 : decode code 332 = .ok (.ireturn, 1) := by decide +kernel
theorem dL_law_333 : decode code 333 = .ok (.aload_n 1, 1) := by decide +kernel
theorem dL_law_334 : decode code 334 = .ok (.invokevirtual 54, 3) := by decide +kernel
theorem dL_law_337 : decode code 337 = .ok (.aload_n 2, 1) := by decide +kernel
theorem dL_law_338 : decode code 338 = .ok (.invokevirtual 57, 3) := by decide +kernel
theorem dL_law_341 : decode code 341 = .ok (.if_icmp .eq 156, 3) := by decide +kernel
theorem dL_law_344 : decode code 344 = .ok (.iconst 0, 1) := by decide +kernel
theorem dL_law_345 : decode code 345 = .ok (.ireturn, 1) := by decide +kernel
theorem dL_law_346 : decode code 346 = .ok (.aload_n 1, 1) := by decide +kernel
theorem dL_law_347 : decode code 347 = .ok (.invokevirtual 58, 3) := by decide +kernel
theorem dL_law_350 : decode code 350 = .ok (.aload_n 2, 1) := by decide +kernel
theorem dL_law_351 : decode code 351 = .ok (.invokevirtual 61, 3) := by decide +kernel
theorem dL_law_354 : decode code 354 = .ok (.if_icmp .eq 143, 3) := by decide +kernel
theorem dL_law_357 : decode code 357 = .ok (.iconst 0, 1) := by decide +kernel
theorem dL_law_358 : decode code 358 = .ok (.ireturn, 1) := by decide +kernel
theorem dL_law_359 : decode code 359 = .ok (.aload_n 1, 1) := by decide +kernel
theorem dL_law_360 : decode code 360 = .ok (.invokevirtual 62, 3) := by decide +kernel
theorem dL_law_363 : decode code 363 = .ok (.aload_n 2, 1) := by decide +kernel
theorem dL_law_364 : decode code 364 = .ok (.invokevirtual 65, 3) := by decide +kernel
theorem dL_law_367 : decode code 367 = .ok (.if_icmp .eq 130, 3) := by decide +kernel
theorem dL_law_370 : decode code 370 = .ok (.iconst 0, 1) := by decide +kernel
theorem dL_law_371 : decode code 371 = .ok (.ireturn, 1) := by decide +kernel
theorem dL_law_372 : decode code 372 = .ok (.aload_n 1, 1) := by decide +kernel
theorem dL_law_373 : decode code 373 = .ok (.aload_n 0, 1) := by decide +kernel
theorem dL_law_374 : decode code 374 = .ok (.iload_n 3, 1) := by decide +kernel
theorem dL_law_375 : decode code 375 = .ok (.iconst 1, 1) := by decide +kernel
theorem dL_law_376 : decode code 376 = .ok (.iadd, 1) := by decide +kernel
theorem dL_law_377 : decode code 377 = .ok (.iaload, 1) := by decide +kernel
theorem dL_law_378 : decode code 378 = .ok (.invokevirtual 66, 3) := by decide +kernel
theorem dL_law_381 : decode code 381 = .ok (.aload_n 2, 1) := by decide +kernel
theorem dL_law_382 : decode code 382 = .ok (.aload_n 0, 1) := by decide +kernel
theorem dL_law_383 : decode code 383 = .ok (.iload_n 3, 1) := by decide +kernel
theorem dL_law_384 : decode code 384 = .ok (.iconst 1, 1) := by decide +kernel
theorem dL_law_385 : decode code 385 = .ok (.iadd, 1) := by decide +kernel
theorem dL_law_386 : decode code 386 = .ok (.iaload, 1) := by decide +kernel
theorem dL_law_387 : decode code 387 = .ok (.invokevirtual 69, 3) := by decide +kernel
theorem dL_law_390 : decode code 390 = .ok (.if_icmp .eq 107, 3) := by decide +kernel
theorem dL_law_393 : decode code 393 = .ok (.iconst 0, 1) := by decide +kernel
theorem dL_law_394 : decode code 394 = .ok (.ireturn, 1) := by decide +kernel
theorem dL_law_395 : decode code 395 = .ok (.aload_n 1, 1) := by decide +kernel
theorem dL_law_396 : decode code 396 = .ok (.aload_n 0, 1) := by decide +kernel
theorem dL_law_397 : decode code 397 = .ok (.iload_n 3, 1) := by decide +kernel
theorem dL_law_398 : decode code 398 = .ok (.iconst 1, 1) := by decide +kernel
theorem dL_law_399 : decode code 399 = .ok (.iadd, 1) := by decide +kernel
theorem dL_law_400 : decode code 400 = .ok (.iaload, 1) := by decide +kernel
theorem dL_law_401 : decode code 401 = .ok (.invokevirtual 70, 3) := by decide +kernel
theorem dL_law_404 : decode code 404 = .ok (.aload_n 2, 1) := by decide +kernel
theorem dL_law_405 : decode code 405 = .ok (.aload_n 0, 1) := by decide +kernel
theorem dL_law_406 : decode code 406 = .ok (.iload_n 3, 1) := by decide +kernel
theorem dL_law_407 : decode code 407 = .ok (.iconst 1, 1) := by decide +kernel
theorem dL_law_408 : decode code 408 = .ok (.iadd, 1) := by decide +kernel
theorem dL_law_409 : decode code 409 = .ok (.iaload, 1) := by decide +kernel
theorem dL_law_410 : decode code 410 = .ok (.invokevirtual 73, 3) := by decide +kernel
theorem dL_law_413 : decode code 413 = .ok (.if_icmp .eq 84, 3) := by decide +kernel
theorem dL_law_416 : decode code 416 = .ok (.iconst 0, 1) := by decide +kernel
theorem dL_law_417 : decode code 417 = .ok (.ireturn, 1) := by decide +kernel
theorem dL_law_418 : decode code 418 = .ok (.aload_n 1, 1) := by decide +kernel
theorem dL_law_419 : decode code 419 = .ok (.aload_n 0, 1) := by decide +kernel
theorem dL_law_420 : decode code 420 = .ok (.iload_n 3, 1) := by decide +kernel
theorem dL_law_421 : decode code 421 = .ok (.iconst 1, 1) := by decide +kernel
theorem dL_law_422 : decode code 422 = .ok (.iadd, 1) := by decide +kernel
theorem dL_law_423 : decode code 423 = .ok (.iaload, 1) := by decide +kernel
theorem dL_law_424 : decode code 424 = .ok (.invokevirtual 74, 3) := by decide +kernel
theorem dL_law_427 : decode code 427 = .ok (.aload_n 2, 1) := by decide +kernel
theorem dL_law_428 : decode code 428 = .ok (.aload_n 0, 1) := by decide +kernel
theorem dL_law_429 : decode code 429 = .ok (.iload_n 3, 1) := by decide +kernel
theorem dL_law_430 : decode code 430 = .ok (.iconst 1, 1) := by decide +kernel
theorem dL_law_431 : decode code 431 = .ok (.iadd, 1) := by decide +kernel
theorem dL_law_432 : decode code 432 = .ok (.iaload, 1) := by decide +kernel
theorem dL_law_433 : decode code 433 = .ok (.invokevirtual 77, 3) := by decide +kernel
theorem dL_law_436 : decode code 436 = .ok (.if_icmp .eq 61, 3) := by decide +kernel
theorem dL_law_439 : decode code 439 = .ok (.iconst 0, 1) := by decide +kernel
theorem dL_law_440 : decode code 440 = .ok (.ireturn, 1) := by decide +kernel
theorem dL_law_441 : decode code 441 = .ok (.aload_n 1, 1) := by decide +kernel
theorem dL_law_442 : decode code 442 = .ok (.aload_n 0, 1) := by decide +kernel
theorem dL_law_443 : decode code 443 = .ok (.iload_n 3, 1) := by decide +kernel
theorem dL_law_444 : decode code 444 = .ok (.iconst 1, 1) := by decide +kernel
theorem dL_law_445 : decode code 445 = .ok (.iadd, 1) := by decide +kernel
theorem dL_law_446 : decode code 446 = .ok (.iaload, 1) := by decide +kernel
theorem dL_law_447 : decode code 447 = .ok (.aload_n 0, 1) := by decide +kernel
theorem dL_law_448 : decode code 448 = .ok (.iload_n 3, 1) := by decide +kernel
theorem dL_law_449 : decode code 449 = .ok (.iconst 2, 1) := by decide +kernel
theorem dL_law_450 : decode code 450 = .ok (.iadd, 1) := by decide +kernel
theorem dL_law_451 : decode code 451 = .ok (.iaload, 1) := by decide +kernel
theorem dL_law_452 : decode code 452 = .ok (.invokevirtual 78, 3) := by decide +kernel
theorem dL_law_455 : decode code 455 = .ok (.aload_n 2, 1) := by decide +kernel
theorem dL_law_456 : decode code 456 = .ok (.aload_n 0, 1) := by decide +kernel
theorem dL_law_457 : decode code 457 = .ok (.iload_n 3, 1) := by decide +kernel
theorem dL_law_458 : decode code 458 = .ok (.iconst 1, 1) := by decide +kernel
theorem dL_law_459 : decode code 459 = .ok (.iadd, 1) := by decide +kernel
theorem dL_law_460 : decode code 460 = .ok (.iaload, 1) := by decide +kernel
theorem dL_law_461 : decode code 461 = .ok (.aload_n 0, 1) := by decide +kernel
theorem dL_law_462 : decode code 462 = .ok (.iload_n 3, 1) := by decide +kernel
theorem dL_law_463 : decode code 463 = .ok (.iconst 2, 1) := by decide +kernel
theorem dL_law_464 : decode code 464 = .ok (.iadd, 1) := by decide +kernel
theorem dL_law_465 : decode code 465 = .ok (.iaload, 1) := by decide +kernel
theorem dL_law_466 : decode code 466 = .ok (.invokevirtual 81, 3) := by decide +kernel
theorem dL_law_469 : decode code 469 = .ok (.if_icmp .eq 28, 3) := by decide +kernel
theorem dL_law_472 : decode code 472 = .ok (.iconst 0, 1) := by decide +kernel
theorem dL_law_473 : decode code 473 = .ok (.ireturn, 1) := by decide +kernel
theorem dL_law_474 : decode code 474 = .ok (.aload_n 1, 1) := by decide +kernel
theorem dL_law_475 : decode code 475 = .ok (.aload_n 0, 1) := by decide +kernel
theorem dL_law_476 : decode code 476 = .ok (.iload_n 3, 1) := by decide +kernel
theorem dL_law_477 : decode code 477 = .ok (.iconst 1, 1) := by decide +kernel
theorem dL_law_478 : decode code 478 = .ok (.iadd, 1) := by decide +kernel
theorem dL_law_479 : decode code 479 = .ok (.iaload, 1) := by decide +kernel
theorem dL_law_480 : decode code 480 = .ok (.invokevirtual 82, 3) := by decide +kernel
theorem dL_law_483 : decode code 483 = .ok (.aload_n 2, 1) := by decide +kernel
theorem dL_law_484 : decode code 484 = .ok (.aload_n 0, 1) := by decide +kernel
theorem dL_law_485 : decode code 485 = .ok (.iload_n 3, 1) := by decide +kernel
theorem dL_law_486 : decode code 486 = .ok (.iconst 1, 1) := by decide +kernel
theorem dL_law_487 : decode code 487 = .ok (.iadd, 1) := by decide +kernel
theorem dL_law_488 : decode code 488 = .ok (.iaload, 1) := by decide +kernel
theorem dL_law_489 : decode code 489 = .ok (.invokevirtual 85, 3) := by decide +kernel
theorem dL_law_492 : decode code 492 = .ok (.if_icmp .eq 5, 3) := by decide +kernel
theorem dL_law_495 : decode code 495 = .ok (.iconst 0, 1) := by decide +kernel
theorem dL_law_496 : decode code 496 = .ok (.ireturn, 1) := by decide +kernel
theorem dL_law_497 : decode code 497 = .ok (.iinc 3 3, 3) := by decide +kernel
theorem dL_law_500 : decode code 500 = .ok (.goto (-482), 3) := by decide +kernel
theorem dL_law_503 : decode code 503 = .ok (.iconst 1, 1) := by decide +kernel
theorem dL_law_504 : decode code 504 = .ok (.ireturn, 1) := by decide +kernel
end
section
/-! a judgement of symbolic states: every heap and every array of locals that look so -/
abbrev EnvT : Type := Program × Launch × Env × Room × State × MethodId × Array Value × List Frame × Method × Code
def WE (E : EnvT) (H : Heap) (locs : List Loc) (cells slots : Nat) (Q : State → Prop) (pc : Nat) (ls : Array Slot) (st : List Value) : Prop :=
  W E.1 E.2.1 E.2.2.1 E.2.2.2.1 E.2.2.2.2.1 E.2.2.2.2.2.1 E.2.2.2.2.2.2.1 E.2.2.2.2.2.2.2.1 E.2.2.2.2.2.2.2.2.1 E.2.2.2.2.2.2.2.2.2 H locs cells slots Q (F0 E.2.2.2.2.2.1 pc ls st)
abbrev hpE (E : EnvT) : Heap := E.2.2.2.2.1.heap
def ST (E : EnvT) (nL : Nat) (Q : State → Prop) (cells slots : Nat) (Φ : Heap → List Loc → Prop) (lv : List (Nat × Value)) (st : List Value) (pc : Nat) : Prop :=
  ∀ (H : Heap) (locs : List Loc) (ls : Array Slot), Φ H locs → lv_has ls nL lv → WE E H locs cells slots Q pc ls st
def Cx (E : EnvT) (cc : ByteArray) (own : String) (nL : Nat) (D : va_G) (cA : ClassId) (d mR sR : Nat) : Prop :=
  E.1.tables.exec = Jvm.exec ∧ E.2.2.2.2.2.2.2.2.2.code = cc ∧ (∀ w ∈ bigW, w.before E.2.2.2.2.2.2.1 E.2.2.2.2.1 = true) ∧ E.2.2.2.2.1.vm.findClass own = some E.2.2.2.2.2.1.cls ∧ va_K D cls [(cA, .int)] E.2.2.2.2.1 ∧ E.2.2.2.2.2.2.2.2.2.maxLocals = nL ∧
  d ≤ E.2.2.2.1.frames ∧ 40 * d ≤ E.2.2.2.1.locals ∧ mR ≤ E.2.2.2.1.cells ∧ sR ≤ E.2.2.2.1.slots
def wf (E : EnvT) (A : Nat → Prop) (D : va_G) (ws : va_W) : Heap → List Loc → Prop := fun H locs => va_P D cls ws H ∧ va_D A ws ∧ va_S A (hpE E) H locs
def pf (E : EnvT) (D : va_G) (ws : va_W) : Heap → List Loc → Prop := fun H locs => H = hpE E ∧ locs = [] ∧ va_P D cls ws H
theorem wfP {E : EnvT} {A : Nat → Prop} {D : va_G} {ws : va_W} : ∀ H locs, wf E A D ws H locs → va_P D cls ws H := fun _ _ h => h.1
theorem pfP {E : EnvT} {D : va_G} {ws : va_W} : ∀ H locs, pf E D ws H locs → va_P D cls ws H := fun _ _ h => h.2.2
theorem fm_of {ws : va_W} : ∀ {is : List Nat} {ws' : va_W}, is.map (fun i => ws[i]?) = ws'.map some → is.filterMap (fun i => ws[i]?) = ws'
  | [], [], _ => rfl
  | [], _ :: _, h => by simp at h
  | _ :: _, [], h => by simp at h
  | i :: is, w :: ws', h => by
    simp only [List.map_cons, List.cons.injEq] at h
    rw [List.filterMap_cons_some h.1, fm_of h.2]
def rmL (d mc ms : Nat) : Room := { frames := d, cells := mc, slots := ms, locals := 40 * d }
section S20
variable {E : EnvT} {nL : Nat} {Q : State → Prop} {cells slots : Nat} {Φ : Heap → List Loc → Prop} {lv lv' : List (Nat × Value)} {st rest : List Value} {pc : Nat} {cc : ByteArray} {own : String} {D : va_G} {cA : ClassId} {d mR sR : Nat}
theorem s_lv (ks : List Nat) (h : lv_pick lv ks = lv') (k : ST E nL Q cells slots Φ lv' st pc) : ST E nL Q cells slots Φ lv st pc :=
  fun H locs ls hΦ hl => k H locs ls hΦ (lv_sub hl ks h)
theorem s_st {st' : List Value} (h : st = st') (k : ST E nL Q cells slots Φ lv st' pc) : ST E nL Q cells slots Φ lv st pc := h ▸ k
theorem s_top {x y : Int32} (h : x = y) (k : ST E nL Q cells slots Φ lv (.int y :: st) pc) : ST E nL Q cells slots Φ lv (.int x :: st) pc := h ▸ k
theorem s_widen {k n : Nat} (h1 : cells ≤ k) (h2 : slots ≤ n) (kk : ST E nL Q k n Φ lv st pc) : ST E nL Q cells slots Φ lv st pc :=
  fun H locs ls hΦ hl => W.widen h1 h2 (kk H locs ls hΦ hl)
theorem s_sub {A : Nat → Prop} {ws ws' : va_W} (is : List Nat) (h : is.map (fun i => ws[i]?) = ws'.map some) (hn : va_nd is = true) (k : ST E nL Q cells slots (wf E A D ws') lv st pc) : ST E nL Q cells slots (wf E A D ws) lv st pc :=
  fun H locs ls hΦ hl => k H locs ls ⟨hΦ.1.sub is (fm_of h), hΦ.2.1.sub is hn h, hΦ.2.2⟩ hl
theorem s_eqw {A : Nat → Prop} {ws ws' : va_W} (h : ws = ws') (k : ST E nL Q cells slots (wf E A D ws') lv st pc) : ST E nL Q cells slots (wf E A D ws) lv st pc := h ▸ k
theorem s_iconst {n : Int} (v : Int32) (C : Cx E cc own nL D cA d mR sR) (dg : decode cc pc = .ok (.iconst n, 1)) (hv : Int32.ofInt n = v) (k : ST E nL Q cells slots Φ lv (.int v :: st) (pc + 1)) : ST E nL Q cells slots Φ lv (st) pc :=
  fun H locs ls hΦ hl => lv_iconst C.1 C.2.1 dg hv (k H locs ls hΦ hl)
theorem s_bipush {n : Int} (v : Int32) (C : Cx E cc own nL D cA d mR sR) (dg : decode cc pc = .ok (.bipush n, 2)) (hv : (Int8.ofInt n).toInt32 = v) (k : ST E nL Q cells slots Φ lv (.int v :: st) (pc + 2)) : ST E nL Q cells slots Φ lv (st) pc :=
  fun H locs ls hΦ hl => lv_bipush C.1 C.2.1 dg hv (k H locs ls hΦ hl)
theorem s_sipush {n : Int} (v : Int32) (C : Cx E cc own nL D cA d mR sR) (dg : decode cc pc = .ok (.sipush n, 3)) (hv : (Int16.ofInt n).toInt32 = v) (k : ST E nL Q cells slots Φ lv (.int v :: st) (pc + 3)) : ST E nL Q cells slots Φ lv (st) pc :=
  fun H locs ls hΦ hl => lv_sipush C.1 C.2.1 dg hv (k H locs ls hΦ hl)
theorem s_iload_n {n : Fin 4} {x : Int32} (j : Nat) (C : Cx E cc own nL D cA d mR sR) (dg : decode cc pc = .ok (.iload_n n, 1)) (h : lv[j]? = some (n.val, .int x)) (k : ST E nL Q cells slots Φ lv (.int x :: st) (pc + 1)) : ST E nL Q cells slots Φ lv (st) pc :=
  fun H locs ls hΦ hl => lv_iload_n C.1 C.2.1 dg rfl (lv_at hl j h) (k H locs ls hΦ hl)
theorem s_iload {n : Nat} {x : Int32} (j : Nat) (C : Cx E cc own nL D cA d mR sR) (dg : decode cc pc = .ok (.iload n, 2)) (h : lv[j]? = some (n, .int x)) (k : ST E nL Q cells slots Φ lv (.int x :: st) (pc + 2)) : ST E nL Q cells slots Φ lv (st) pc :=
  fun H locs ls hΦ hl => lv_iload C.1 C.2.1 dg (lv_at hl j h) (k H locs ls hΦ hl)
theorem s_aload_n {n : Fin 4} {x : Nat} (j : Nat) (C : Cx E cc own nL D cA d mR sR) (dg : decode cc pc = .ok (.aload_n n, 1)) (h : lv[j]? = some (n.val, .ref x)) (k : ST E nL Q cells slots Φ lv (.ref x :: st) (pc + 1)) : ST E nL Q cells slots Φ lv (st) pc :=
  fun H locs ls hΦ hl => lv_aload_n C.1 C.2.1 dg rfl (lv_at hl j h) (k H locs ls hΦ hl)
theorem s_istore_n {n : Fin 4} {x : Int32} (lv' : List (Nat × Value)) (ks : List Nat) (C : Cx E cc own nL D cA d mR sR) (dg : decode cc pc = .ok (.istore_n n, 1)) (hn : n.val < nL) (h : lv_pick ((n.val, Value.int x) :: lv.filter (fun q => !(q.1 == n.val) && !(q.1 + 1 == n.val && q.2.category == 2))) ks = lv') (k : ST E nL Q cells slots Φ lv' st (pc + 1)) : ST E nL Q cells slots Φ lv (.int x :: st) pc :=
  fun H locs ls hΦ hl => lv_istore_n C.1 C.2.1 dg rfl hl hn rfl (fun ls' hl' => k H locs ls' hΦ (lv_sub hl' ks h))
theorem s_istore {n : Nat} {x : Int32} (lv' : List (Nat × Value)) (ks : List Nat) (C : Cx E cc own nL D cA d mR sR) (dg : decode cc pc = .ok (.istore n, 2)) (hn : n < nL) (h : lv_pick ((n, Value.int x) :: lv.filter (fun q => !(q.1 == n) && !(q.1 + 1 == n && q.2.category == 2))) ks = lv') (k : ST E nL Q cells slots Φ lv' st (pc + 2)) : ST E nL Q cells slots Φ lv (.int x :: st) pc :=
  fun H locs ls hΦ hl => lv_istore C.1 C.2.1 dg hl hn rfl (fun ls' hl' => k H locs ls' hΦ (lv_sub hl' ks h))
theorem s_astore_n {n : Fin 4} {x : Nat} (lv' : List (Nat × Value)) (ks : List Nat) (C : Cx E cc own nL D cA d mR sR) (dg : decode cc pc = .ok (.astore_n n, 1)) (hn : n.val < nL) (h : lv_pick ((n.val, Value.ref x) :: lv.filter (fun q => !(q.1 == n.val) && !(q.1 + 1 == n.val && q.2.category == 2))) ks = lv') (k : ST E nL Q cells slots Φ lv' st (pc + 1)) : ST E nL Q cells slots Φ lv (.ref x :: st) pc :=
  fun H locs ls hΦ hl => lv_astore_n C.1 C.2.1 dg rfl hl hn rfl (fun ls' hl' => k H locs ls' hΦ (lv_sub hl' ks h))
theorem s_iinc {i j : Nat} {n : Int} {x : Int32} (v : Int32) (lv' : List (Nat × Value)) (ks : List Nat) (C : Cx E cc own nL D cA d mR sR) (dg : decode cc pc = .ok (.iinc i n, 3)) (hj : lv[j]? = some (i, .int x)) (hv : x + Int32.ofInt n = v) (hn : i < nL) (h : lv_pick ((i, Value.int v) :: lv.filter (fun q => !(q.1 == i) && !(q.1 + 1 == i && q.2.category == 2))) ks = lv') (k : ST E nL Q cells slots Φ lv' st (pc + 3)) : ST E nL Q cells slots Φ lv st pc :=
  fun H locs ls hΦ hl => lv_iinc C.1 C.2.1 dg hl hj hv hn rfl (fun ls' hl' => k H locs ls' hΦ (lv_sub hl' ks h))
theorem s_iadd {x y : Int32} (C : Cx E cc own nL D cA d mR sR) (dg : decode cc pc = .ok (.iadd, 1)) (k : ST E nL Q cells slots Φ lv (.int (x + y) :: st) (pc + 1)) : ST E nL Q cells slots Φ lv (.int y :: .int x :: st) pc :=
  fun H locs ls hΦ hl => lv_iadd C.1 C.2.1 dg (k H locs ls hΦ hl)
theorem s_isub {x y : Int32} (C : Cx E cc own nL D cA d mR sR) (dg : decode cc pc = .ok (.isub, 1)) (k : ST E nL Q cells slots Φ lv (.int (x - y) :: st) (pc + 1)) : ST E nL Q cells slots Φ lv (.int y :: .int x :: st) pc :=
  fun H locs ls hΦ hl => lv_isub C.1 C.2.1 dg (k H locs ls hΦ hl)
theorem s_imul {x y : Int32} (C : Cx E cc own nL D cA d mR sR) (dg : decode cc pc = .ok (.imul, 1)) (k : ST E nL Q cells slots Φ lv (.int (x * y) :: st) (pc + 1)) : ST E nL Q cells slots Φ lv (.int y :: .int x :: st) pc :=
  fun H locs ls hΦ hl => lv_imul C.1 C.2.1 dg (k H locs ls hΦ hl)
theorem s_iand {x y : Int32} (C : Cx E cc own nL D cA d mR sR) (dg : decode cc pc = .ok (.iand, 1)) (k : ST E nL Q cells slots Φ lv (.int (x &&& y) :: st) (pc + 1)) : ST E nL Q cells slots Φ lv (.int y :: .int x :: st) pc :=
  fun H locs ls hΦ hl => lv_iand C.1 C.2.1 dg (k H locs ls hΦ hl)
theorem s_ior {x y : Int32} (C : Cx E cc own nL D cA d mR sR) (dg : decode cc pc = .ok (.ior, 1)) (k : ST E nL Q cells slots Φ lv (.int (x ||| y) :: st) (pc + 1)) : ST E nL Q cells slots Φ lv (.int y :: .int x :: st) pc :=
  fun H locs ls hΦ hl => lv_ior C.1 C.2.1 dg (k H locs ls hΦ hl)
theorem s_ixor {x y : Int32} (C : Cx E cc own nL D cA d mR sR) (dg : decode cc pc = .ok (.ixor, 1)) (k : ST E nL Q cells slots Φ lv (.int (x ^^^ y) :: st) (pc + 1)) : ST E nL Q cells slots Φ lv (.int y :: .int x :: st) pc :=
  fun H locs ls hΦ hl => lv_ixor C.1 C.2.1 dg (k H locs ls hΦ hl)
theorem s_ishl {x y : Int32} (C : Cx E cc own nL D cA d mR sR) (dg : decode cc pc = .ok (.ishl, 1)) (k : ST E nL Q cells slots Φ lv (.int (x <<< (y &&& 31)) :: st) (pc + 1)) : ST E nL Q cells slots Φ lv (.int y :: .int x :: st) pc :=
  fun H locs ls hΦ hl => lv_ishl C.1 C.2.1 dg (k H locs ls hΦ hl)
theorem s_ishr {x y : Int32} (C : Cx E cc own nL D cA d mR sR) (dg : decode cc pc = .ok (.ishr, 1)) (k : ST E nL Q cells slots Φ lv (.int (x >>> (y &&& 31)) :: st) (pc + 1)) : ST E nL Q cells slots Φ lv (.int y :: .int x :: st) pc :=
  fun H locs ls hΦ hl => lv_ishr C.1 C.2.1 dg (k H locs ls hΦ hl)
theorem s_idiv {x y : Int32} (C : Cx E cc own nL D cA d mR sR) (dg : decode cc pc = .ok (.idiv, 1)) (hne : ¬ y = 0) (k : ST E nL Q cells slots Φ lv (.int (x / y) :: st) (pc + 1)) : ST E nL Q cells slots Φ lv (.int y :: .int x :: st) pc :=
  fun H locs ls hΦ hl => lv_idiv C.1 C.2.1 dg hne (k H locs ls hΦ hl)
theorem s_dup {v : Value} (C : Cx E cc own nL D cA d mR sR) (dg : decode cc pc = .ok (.dup, 1)) (hc : v.category = 1) (k : ST E nL Q cells slots Φ lv (v :: v :: st) (pc + 1)) : ST E nL Q cells slots Φ lv (v :: st) pc :=
  fun H locs ls hΦ hl => lv_dup C.1 C.2.1 dg hc (k H locs ls hΦ hl)
theorem s_dup2 {v w : Value} (C : Cx E cc own nL D cA d mR sR) (dg : decode cc pc = .ok (.dup2, 1)) (hc : v.category = 1) (hd : w.category = 1) (k : ST E nL Q cells slots Φ lv (v :: w :: v :: w :: st) (pc + 1)) : ST E nL Q cells slots Φ lv (v :: w :: st) pc :=
  fun H locs ls hΦ hl => lv_dup2_11 C.1 C.2.1 dg hc hd (k H locs ls hΦ hl)
theorem s_goto {off : Int} {tgt : Nat} (C : Cx E cc own nL D cA d mR sR) (dg : decode cc pc = .ok (.goto off, 3)) (ht : (pc : Int) + off = (tgt : Int)) (k : ST E nL Q cells slots Φ lv st tgt) : ST E nL Q cells slots Φ lv st pc :=
  fun H locs ls hΦ hl => lv_goto C.1 C.2.1 dg ht (k H locs ls hΦ hl)
theorem s_icmp_eq {x y : Int32} {off : Int} (tgt : Nat) (C : Cx E cc own nL D cA d mR sR) (dg : decode cc pc = .ok (.if_icmp .eq off, 3)) (ht : (pc : Int) + off = (tgt : Int)) (kt : x = y → ST E nL Q cells slots Φ lv st tgt) (kf : ¬ x = y → ST E nL Q cells slots Φ lv st (pc + 3)) : ST E nL Q cells slots Φ lv (.int y :: .int x :: st) pc :=
  fun H locs ls hΦ hl => lv_icmp_eq C.1 C.2.1 dg ht (fun q => kt q H locs ls hΦ hl) (fun q => kf q H locs ls hΦ hl)
theorem s_if_eq {x : Int32} {off : Int} (tgt : Nat) (C : Cx E cc own nL D cA d mR sR) (dg : decode cc pc = .ok (.ifCond .eq off, 3)) (ht : (pc : Int) + off = (tgt : Int)) (kt : x = 0 → ST E nL Q cells slots Φ lv st tgt) (kf : ¬ x = 0 → ST E nL Q cells slots Φ lv st (pc + 3)) : ST E nL Q cells slots Φ lv (.int x :: st) pc :=
  fun H locs ls hΦ hl => lv_if_eq C.1 C.2.1 dg ht (fun q => kt q H locs ls hΦ hl) (fun q => kf q H locs ls hΦ hl)
theorem s_icmp_eqN {a b : Nat} {off : Int} (tgt : Nat) (C : Cx E cc own nL D cA d mR sR) (dg : decode cc pc = .ok (.if_icmp .eq off, 3)) (ht : (pc : Int) + off = (tgt : Int)) (ha : a < 2 ^ 31) (hb : b < 2 ^ 31) (kt : a = b → ST E nL Q cells slots Φ lv st tgt) (kf : a ≠ b → ST E nL Q cells slots Φ lv st (pc + 3)) : ST E nL Q cells slots Φ lv (.int (nI b) :: .int (nI a) :: st) pc :=
  s_icmp_eq tgt C dg ht (fun q => kt ((nI_eq ha hb).mp q)) (fun q => kf (fun z => q ((nI_eq ha hb).mpr z)))
theorem s_icmp_ne {x y : Int32} {off : Int} (tgt : Nat) (C : Cx E cc own nL D cA d mR sR) (dg : decode cc pc = .ok (.if_icmp .ne off, 3)) (ht : (pc : Int) + off = (tgt : Int)) (kt : ¬ x = y → ST E nL Q cells slots Φ lv st tgt) (kf : x = y → ST E nL Q cells slots Φ lv st (pc + 3)) : ST E nL Q cells slots Φ lv (.int y :: .int x :: st) pc :=
  fun H locs ls hΦ hl => lv_icmp_ne C.1 C.2.1 dg ht (fun q => kt q H locs ls hΦ hl) (fun q => kf q H locs ls hΦ hl)
theorem s_if_ne {x : Int32} {off : Int} (tgt : Nat) (C : Cx E cc own nL D cA d mR sR) (dg : decode cc pc = .ok (.ifCond .ne off, 3)) (ht : (pc : Int) + off = (tgt : Int)) (kt : ¬ x = 0 → ST E nL Q cells slots Φ lv st tgt) (kf : x = 0 → ST E nL Q cells slots Φ lv st (pc + 3)) : ST E nL Q cells slots Φ lv (.int x :: st) pc :=
  fun H locs ls hΦ hl => lv_if_ne C.1 C.2.1 dg ht (fun q => kt q H locs ls hΦ hl) (fun q => kf q H locs ls hΦ hl)
theorem s_icmp_neN {a b : Nat} {off : Int} (tgt : Nat) (C : Cx E cc own nL D cA d mR sR) (dg : decode cc pc = .ok (.if_icmp .ne off, 3)) (ht : (pc : Int) + off = (tgt : Int)) (ha : a < 2 ^ 31) (hb : b < 2 ^ 31) (kt : a ≠ b → ST E nL Q cells slots Φ lv st tgt) (kf : a = b → ST E nL Q cells slots Φ lv st (pc + 3)) : ST E nL Q cells slots Φ lv (.int (nI b) :: .int (nI a) :: st) pc :=
  s_icmp_ne tgt C dg ht (fun q => kt (fun z => q ((nI_eq ha hb).mpr z))) (fun q => kf ((nI_eq ha hb).mp q))
theorem s_icmp_lt {x y : Int32} {off : Int} (tgt : Nat) (C : Cx E cc own nL D cA d mR sR) (dg : decode cc pc = .ok (.if_icmp .lt off, 3)) (ht : (pc : Int) + off = (tgt : Int)) (kt : x < y → ST E nL Q cells slots Φ lv st tgt) (kf : ¬ x < y → ST E nL Q cells slots Φ lv st (pc + 3)) : ST E nL Q cells slots Φ lv (.int y :: .int x :: st) pc :=
  fun H locs ls hΦ hl => lv_icmp_lt C.1 C.2.1 dg ht (fun q => kt q H locs ls hΦ hl) (fun q => kf q H locs ls hΦ hl)
theorem s_if_lt {x : Int32} {off : Int} (tgt : Nat) (C : Cx E cc own nL D cA d mR sR) (dg : decode cc pc = .ok (.ifCond .lt off, 3)) (ht : (pc : Int) + off = (tgt : Int)) (kt : x < 0 → ST E nL Q cells slots Φ lv st tgt) (kf : ¬ x < 0 → ST E nL Q cells slots Φ lv st (pc + 3)) : ST E nL Q cells slots Φ lv (.int x :: st) pc :=
  fun H locs ls hΦ hl => lv_if_lt C.1 C.2.1 dg ht (fun q => kt q H locs ls hΦ hl) (fun q => kf q H locs ls hΦ hl)
theorem s_icmp_ltN {a b : Nat} {off : Int} (tgt : Nat) (C : Cx E cc own nL D cA d mR sR) (dg : decode cc pc = .ok (.if_icmp .lt off, 3)) (ht : (pc : Int) + off = (tgt : Int)) (ha : a < 2 ^ 31) (hb : b < 2 ^ 31) (kt : a < b → ST E nL Q cells slots Φ lv st tgt) (kf : b ≤ a → ST E nL Q cells slots Φ lv st (pc + 3)) : ST E nL Q cells slots Φ lv (.int (nI b) :: .int (nI a) :: st) pc :=
  s_icmp_lt tgt C dg ht (fun q => kt ((nI_ltI ha hb).mp q)) (fun q => kf (Nat.le_of_not_lt fun z => q ((nI_ltI ha hb).mpr z)))
theorem s_icmp_ge {x y : Int32} {off : Int} (tgt : Nat) (C : Cx E cc own nL D cA d mR sR) (dg : decode cc pc = .ok (.if_icmp .ge off, 3)) (ht : (pc : Int) + off = (tgt : Int)) (kt : y ≤ x → ST E nL Q cells slots Φ lv st tgt) (kf : ¬ y ≤ x → ST E nL Q cells slots Φ lv st (pc + 3)) : ST E nL Q cells slots Φ lv (.int y :: .int x :: st) pc :=
  fun H locs ls hΦ hl => lv_icmp_ge C.1 C.2.1 dg ht (fun q => kt q H locs ls hΦ hl) (fun q => kf q H locs ls hΦ hl)
theorem s_if_ge {x : Int32} {off : Int} (tgt : Nat) (C : Cx E cc own nL D cA d mR sR) (dg : decode cc pc = .ok (.ifCond .ge off, 3)) (ht : (pc : Int) + off = (tgt : Int)) (kt : 0 ≤ x → ST E nL Q cells slots Φ lv st tgt) (kf : ¬ 0 ≤ x → ST E nL Q cells slots Φ lv st (pc + 3)) : ST E nL Q cells slots Φ lv (.int x :: st) pc :=
  fun H locs ls hΦ hl => lv_if_ge C.1 C.2.1 dg ht (fun q => kt q H locs ls hΦ hl) (fun q => kf q H locs ls hΦ hl)
theorem s_icmp_geN {a b : Nat} {off : Int} (tgt : Nat) (C : Cx E cc own nL D cA d mR sR) (dg : decode cc pc = .ok (.if_icmp .ge off, 3)) (ht : (pc : Int) + off = (tgt : Int)) (ha : a < 2 ^ 31) (hb : b < 2 ^ 31) (kt : b ≤ a → ST E nL Q cells slots Φ lv st tgt) (kf : a < b → ST E nL Q cells slots Φ lv st (pc + 3)) : ST E nL Q cells slots Φ lv (.int (nI b) :: .int (nI a) :: st) pc :=
  s_icmp_ge tgt C dg ht (fun q => kt ((nI_leI hb ha).mp q)) (fun q => kf (Nat.lt_of_not_le fun z => q ((nI_leI hb ha).mpr z)))
theorem s_icmp_gt {x y : Int32} {off : Int} (tgt : Nat) (C : Cx E cc own nL D cA d mR sR) (dg : decode cc pc = .ok (.if_icmp .gt off, 3)) (ht : (pc : Int) + off = (tgt : Int)) (kt : y < x → ST E nL Q cells slots Φ lv st tgt) (kf : ¬ y < x → ST E nL Q cells slots Φ lv st (pc + 3)) : ST E nL Q cells slots Φ lv (.int y :: .int x :: st) pc :=
  fun H locs ls hΦ hl => lv_icmp_gt C.1 C.2.1 dg ht (fun q => kt q H locs ls hΦ hl) (fun q => kf q H locs ls hΦ hl)
theorem s_if_gt {x : Int32} {off : Int} (tgt : Nat) (C : Cx E cc own nL D cA d mR sR) (dg : decode cc pc = .ok (.ifCond .gt off, 3)) (ht : (pc : Int) + off = (tgt : Int)) (kt : 0 < x → ST E nL Q cells slots Φ lv st tgt) (kf : ¬ 0 < x → ST E nL Q cells slots Φ lv st (pc + 3)) : ST E nL Q cells slots Φ lv (.int x :: st) pc :=
  fun H locs ls hΦ hl => lv_if_gt C.1 C.2.1 dg ht (fun q => kt q H locs ls hΦ hl) (fun q => kf q H locs ls hΦ hl)
theorem s_icmp_gtN {a b : Nat} {off : Int} (tgt : Nat) (C : Cx E cc own nL D cA d mR sR) (dg : decode cc pc = .ok (.if_icmp .gt off, 3)) (ht : (pc : Int) + off = (tgt : Int)) (ha : a < 2 ^ 31) (hb : b < 2 ^ 31) (kt : b < a → ST E nL Q cells slots Φ lv st tgt) (kf : a ≤ b → ST E nL Q cells slots Φ lv st (pc + 3)) : ST E nL Q cells slots Φ lv (.int (nI b) :: .int (nI a) :: st) pc :=
  s_icmp_gt tgt C dg ht (fun q => kt ((nI_ltI hb ha).mp q)) (fun q => kf (Nat.le_of_not_lt fun z => q ((nI_ltI hb ha).mpr z)))
theorem s_icmp_le {x y : Int32} {off : Int} (tgt : Nat) (C : Cx E cc own nL D cA d mR sR) (dg : decode cc pc = .ok (.if_icmp .le off, 3)) (ht : (pc : Int) + off = (tgt : Int)) (kt : x ≤ y → ST E nL Q cells slots Φ lv st tgt) (kf : ¬ x ≤ y → ST E nL Q cells slots Φ lv st (pc + 3)) : ST E nL Q cells slots Φ lv (.int y :: .int x :: st) pc :=
  fun H locs ls hΦ hl => lv_icmp_le C.1 C.2.1 dg ht (fun q => kt q H locs ls hΦ hl) (fun q => kf q H locs ls hΦ hl)
theorem s_if_le {x : Int32} {off : Int} (tgt : Nat) (C : Cx E cc own nL D cA d mR sR) (dg : decode cc pc = .ok (.ifCond .le off, 3)) (ht : (pc : Int) + off = (tgt : Int)) (kt : x ≤ 0 → ST E nL Q cells slots Φ lv st tgt) (kf : ¬ x ≤ 0 → ST E nL Q cells slots Φ lv st (pc + 3)) : ST E nL Q cells slots Φ lv (.int x :: st) pc :=
  fun H locs ls hΦ hl => lv_if_le C.1 C.2.1 dg ht (fun q => kt q H locs ls hΦ hl) (fun q => kf q H locs ls hΦ hl)
theorem s_icmp_leN {a b : Nat} {off : Int} (tgt : Nat) (C : Cx E cc own nL D cA d mR sR) (dg : decode cc pc = .ok (.if_icmp .le off, 3)) (ht : (pc : Int) + off = (tgt : Int)) (ha : a < 2 ^ 31) (hb : b < 2 ^ 31) (kt : a ≤ b → ST E nL Q cells slots Φ lv st tgt) (kf : b < a → ST E nL Q cells slots Φ lv st (pc + 3)) : ST E nL Q cells slots Φ lv (.int (nI b) :: .int (nI a) :: st) pc :=
  s_icmp_le tgt C dg ht (fun q => kt ((nI_leI ha hb).mp q)) (fun q => kf (Nat.lt_of_not_le fun z => q ((nI_leI ha hb).mpr z)))
theorem s_if_eqN {a : Nat} {off : Int} (tgt : Nat) (C : Cx E cc own nL D cA d mR sR) (dg : decode cc pc = .ok (.ifCond .eq off, 3)) (ht : (pc : Int) + off = (tgt : Int)) (ha : a < 2 ^ 31) (kt : a = 0 → ST E nL Q cells slots Φ lv st tgt) (kf : a ≠ 0 → ST E nL Q cells slots Φ lv st (pc + 3)) : ST E nL Q cells slots Φ lv (.int (nI a) :: st) pc :=
  s_if_eq tgt C dg ht (fun q => kt ((nI_eq ha (by decide)).mp (q.trans nI_0.symm))) (fun q => kf (fun z => q (by rw [z]; exact nI_0)))
theorem s_if_neN {a : Nat} {off : Int} (tgt : Nat) (C : Cx E cc own nL D cA d mR sR) (dg : decode cc pc = .ok (.ifCond .ne off, 3)) (ht : (pc : Int) + off = (tgt : Int)) (ha : a < 2 ^ 31) (kt : a ≠ 0 → ST E nL Q cells slots Φ lv st tgt) (kf : a = 0 → ST E nL Q cells slots Φ lv st (pc + 3)) : ST E nL Q cells slots Φ lv (.int (nI a) :: st) pc :=
  s_if_ne tgt C dg ht (fun q => kt (fun z => q (by rw [z]; exact nI_0))) (fun q => kf ((nI_eq ha (by decide)).mp (q.trans nI_0.symm)))
theorem s_if_ltN {a : Nat} {off : Int} (tgt : Nat) (C : Cx E cc own nL D cA d mR sR) (dg : decode cc pc = .ok (.ifCond .lt off, 3)) (ht : (pc : Int) + off = (tgt : Int)) (ha : a < 2 ^ 31) (kf : ST E nL Q cells slots Φ lv st (pc + 3)) : ST E nL Q cells slots Φ lv (.int (nI a) :: st) pc :=
  s_if_lt tgt C dg ht (fun q => absurd q (nI_pos ha)) (fun _ => kf)
theorem s_if_leN {a : Nat} {off : Int} (tgt : Nat) (C : Cx E cc own nL D cA d mR sR) (dg : decode cc pc = .ok (.ifCond .le off, 3)) (ht : (pc : Int) + off = (tgt : Int)) (ha : a < 2 ^ 31) (kt : a = 0 → ST E nL Q cells slots Φ lv st tgt) (kf : 0 < a → ST E nL Q cells slots Φ lv st (pc + 3)) : ST E nL Q cells slots Φ lv (.int (nI a) :: st) pc :=
  s_if_le tgt C dg ht (fun q => kt ((by rcases Nat.eq_zero_or_pos a with z | z; exact z; exact absurd q (nI_nle z ha)))) (fun q => kf (Nat.pos_of_ne_zero (fun z => q (by rw [z, nI_0]; decide))))
theorem s_if_gtN {a : Nat} {off : Int} (tgt : Nat) (C : Cx E cc own nL D cA d mR sR) (dg : decode cc pc = .ok (.ifCond .gt off, 3)) (ht : (pc : Int) + off = (tgt : Int)) (ha : a < 2 ^ 31) (kt : 0 < a → ST E nL Q cells slots Φ lv st tgt) (kf : a = 0 → ST E nL Q cells slots Φ lv st (pc + 3)) : ST E nL Q cells slots Φ lv (.int (nI a) :: st) pc :=
  s_if_gt tgt C dg ht (fun q => kt (Nat.pos_of_ne_zero (fun z => by rw [z, nI_0] at q; exact absurd q (by decide)))) (fun q => kf (by rcases Nat.eq_zero_or_pos a with z | z; exact z; exact absurd ((nI_ltI (by decide) ha).mpr z) (by rw [nI_0]; exact q)))
theorem s_get {ws : va_W} {Cn : String} {T : u_T} {N ci index a : Nat} {fs : List Value} (v : Value) (q0 k : Nat) (C : Cx E cc own nL D cA d mR sR) (hΦ : ∀ H locs, Φ H locs → va_P D cls ws H) (hin : ∀ w ∈ u_ws Cn T N, w ∈ bigW) (hlink : Cond.fieldLink own index (T k).1 (T k).2.1 (T k).2.2.1 ∈ bigW) (dg : decode cc pc = .ok (.getfield index, 3)) (he : ws[q0]? = some (a, .inr (ci, fs))) (hc : cls[ci]? = some (Cn, T, N)) (hk : k < N) (hv : fs[k]? = some v)
    (kk : ST E nL Q cells slots Φ lv (v :: st) (pc + 3)) : ST E nL Q cells slots Φ lv (.ref a :: st) pc :=
  fun H locs ls hq hl => va_get (D := D) C.1 C.2.1 C.2.2.1 hin C.2.2.2.1 C.2.2.2.2.1 (hΦ H locs hq) q0 he hc k hk (C.2.2.1 _ hlink) (fun _ h => h) hv dg (kk H locs ls hq hl)
theorem s_put {A : Nat → Prop} {ws : va_W} {Cn : String} {T : u_T} {N ci index a : Nat} {fs : List Value} {v : Value} (q0 k : Nat) (ws' : va_W) (C : Cx E cc own nL D cA d mR sR) (hin : ∀ w ∈ u_ws Cn T N, w ∈ bigW) {ty0 : Nat → FieldType} (hty : ∀ k, k < N → parseFieldDescriptor (T k).2.2.1 = some (ty0 k)) (hnm : ∀ a, a < N → ∀ b, b < N → a ≠ b → (T a).2.1 ≠ (T b).2.1) (hlink : Cond.fieldLink own index (T k).1 (T k).2.1 (T k).2.2.1 ∈ bigW) (dg : decode cc pc = .ok (.putfield index, 3)) (he : ws[q0]? = some (a, .inr (ci, fs))) (hc : cls[ci]? = some (Cn, T, N)) (hk : k < N) (hfin : (T k).2.2.2 = false) (hn : narrow (ty0 k) v = v) (hfit : fits (ty0 k) v = true) (hl9 : k < fs.length) (hw : ws.set q0 (a, .inr (ci, fs.set k v)) = ws')
    (kk : ST E nL Q cells slots (wf E A D ws') lv st (pc + 3)) : ST E nL Q cells slots (wf E A D ws) lv (v :: .ref a :: st) pc :=
  fun H locs ls hq hl => va_put (D := D) C.1 C.2.1 C.2.2.1 hin ty0 hty hnm C.2.2.2.1 C.2.2.2.2.1 hq.1 hq.2.1 hq.2.2 q0 he hc k hk (C.2.2.1 _ hlink) (fun _ h => h) hfin (hty k hk) hn hfit hl9 dg (fun H1 locs1 h1 h2 h3 => kk H1 locs1 ls ⟨hw ▸ h1, hw ▸ h2, h3⟩ hl)
theorem s_putF {A : Nat → Prop} {ws : va_W} {T : u_T} {N ci index a : Nat} {fs : List Value} {v : Value} (q0 k : Nat) (ws' : va_W) (C : Cx E cc own nL D cA d mR sR) (hi : E.2.2.2.2.2.2.2.2.1.name = "<init>") (hin : ∀ w ∈ u_ws own T N, w ∈ bigW) {ty0 : Nat → FieldType} (hty : ∀ k, k < N → parseFieldDescriptor (T k).2.2.1 = some (ty0 k)) (hnm : ∀ a, a < N → ∀ b, b < N → a ≠ b → (T a).2.1 ≠ (T b).2.1) (hlink : Cond.fieldLink own index (T k).1 (T k).2.1 (T k).2.2.1 ∈ bigW) (dg : decode cc pc = .ok (.putfield index, 3)) (he : ws[q0]? = some (a, .inr (ci, fs))) (hc : cls[ci]? = some (own, T, N)) (hk : k < N) (hfin : (T k).2.2.2 = true) (hdec : (T k).1 = own) (hn : narrow (ty0 k) v = v) (hfit : fits (ty0 k) v = true) (hl9 : k < fs.length) (hw : ws.set q0 (a, .inr (ci, fs.set k v)) = ws')
    (kk : ST E nL Q cells slots (wf E A D ws') lv st (pc + 3)) : ST E nL Q cells slots (wf E A D ws) lv (v :: .ref a :: st) pc :=
  fun H locs ls hq hl => va_putF (D := D) C.1 C.2.1 C.2.2.1 hin ty0 hty hnm C.2.2.2.1 C.2.2.2.2.1 hq.1 hq.2.1 hq.2.2 q0 he hc k hk (C.2.2.1 _ hlink) (fun _ h => h) hfin hi hdec (hty k hk) hn hfit hl9 dg (fun H1 locs1 h1 h2 h3 => kk H1 locs1 ls ⟨hw ▸ h1, hw ▸ h2, h3⟩ hl)
theorem s_iald {ws : va_W} {a n j : Nat} {f : Nat → Int32} (q0 : Nat) (C : Cx E cc own nL D cA d mR sR) (hΦ : ∀ H locs, Φ H locs → va_P D cls ws H) (dg : decode cc pc = .ok (.iaload, 1)) (ha : ws[q0]? = some (a, .inl (cA, n, .inl f))) (hj : j < n) (hn : n < 2 ^ 31)
    (kk : ST E nL Q cells slots Φ lv (.int (f j) :: st) (pc + 1)) : ST E nL Q cells slots Φ lv (.int (nI j) :: .ref a :: st) pc := by
  intro H locs ls hq hl
  refine va_iald (D := D) C.1 C.2.1 C.2.2.2.2.1 (hΦ H locs hq) q0 0 ha rfl (vp_in_nI hj hn) dg ?_
  rw [nI_clamp (by omega)]
  exact kk H locs ls hq hl
theorem s_iast {A : Nat → Prop} {ws : va_W} {a n j : Nat} {f : Nat → Int32} {x : Int32} (q0 : Nat) (ws' : va_W) (C : Cx E cc own nL D cA d mR sR) (dg : decode cc pc = .ok (.iastore, 1)) (ha : ws[q0]? = some (a, .inl (cA, n, .inl f))) (hj : j < n) (hn : n < 2 ^ 31) (hw : ws.set q0 (a, .inl (cA, n, .inl (upd f j x))) = ws')
    (kk : ST E nL Q cells slots (wf E A D ws') lv st (pc + 1)) : ST E nL Q cells slots (wf E A D ws) lv (.int x :: .int (nI j) :: .ref a :: st) pc := by
  intro H locs ls hq hl
  refine va_iast (D := D) C.1 C.2.1 C.2.2.2.2.1 hq.1 hq.2.1 hq.2.2 q0 0 ha rfl (vp_in_nI hj hn) dg (fun H1 locs1 h1 h2 h3 => ?_)
  rw [nI_clamp (by omega)] at h1 h2
  exact kk H1 locs1 ls ⟨hw ▸ h1, hw ▸ h2, h3⟩ hl
theorem K_one {cB : ClassId} {U : State} (h : va_K D cls ([(cA, .int)] ++ [(cB, .int)]) U) : cB = cA := by
  have h1 : U.vm.findClass ("[" ++ FieldType.int.toString) = some cA := (h.2 0 _ rfl).2
  have h2 : U.vm.findClass ("[" ++ FieldType.int.toString) = some cB := (h.2 1 _ rfl).2
  rw [h1] at h2
  exact (Option.some.inj h2).symm
theorem s_newa {A : Nat → Prop} {ws : va_W} {n : Nat} (C : Cx E cc own nL D cA d mR sR) (hA : ∀ q, (hpE E).size ≤ q → A q) (dg : decode cc pc = .ok (.newarray .int, 2)) (hn : n < 10000) (hc : cells + 1 ≤ mR) (hs : slots + n ≤ sR)
    (kk : ∀ q : Nat, ST E nL Q (cells + 1) (slots + n) (wf E A D (ws ++ [(q, .inl (cA, n, .inl (fun _ => 0)))])) lv (.ref q :: st) (pc + 2)) : ST E nL Q cells slots (wf E A D ws) lv (.int (nI n) :: st) pc := by
  intro H locs ls hq hl
  have b1 : n * componentBytes .int ≤ 536870912 := by
    show n * 4 ≤ 536870912
    omega
  refine va_newa (D := D) (atype := .int) (a0 := (n, .inl (fun _ => 0))) C.1 C.2.1 (C.2.2.1 _ arrI) rfl C.2.2.2.2.1 hq.1 hq.2.1 hq.2.2 hA (fun cB => rfl) (nI_pos (by omega)) (nI_clamp (by omega)) b1 (Nat.le_trans hc C.2.2.2.2.2.2.2.2.1) (Nat.le_trans hs C.2.2.2.2.2.2.2.2.2) dg (fun q cB H1 hK h1 h2 h3 => ?_)
  have e := K_one hK
  subst e
  exact kk q H1 locs ls ⟨h1, h2, h3⟩ hl
theorem s_new {A : Nat → Prop} {ws : va_W} {Cn : String} {T : u_T} {N ci index : Nat} (fs : List Value) (C : Cx E cc own nL D cA d mR sR) (hA : ∀ q, (hpE E).size ≤ q → A q) (hin : ∀ w ∈ u_ws Cn T N, w ∈ bigW) {ty0 : Nat → FieldType} (hty : ∀ k, k < N → parseFieldDescriptor (T k).2.2.1 = some (ty0 k)) (hcl : Cond.classLink own index Cn ∈ bigW) (hins : Cond.instantiable Cn N ∈ bigW) (hini : Cond.initialized Cn ∈ bigW) (dg : decode cc pc = .ok (.new index, 3)) (hc : cls[ci]? = some (Cn, T, N)) (hfs : ∀ j, j < N → defaultValue (ty0 j) = vp_V fs j) (hcc : cells + 1 ≤ mR) (hss : slots + N ≤ sR)
    (kk : ∀ q : Nat, ST E nL Q (cells + 1) (slots + N) (wf E A D (ws ++ [(q, .inr (ci, fs))])) lv (.ref q :: st) (pc + 3)) : ST E nL Q cells slots (wf E A D ws) lv st pc :=
  fun H locs ls hq hl => va_new (D := D) C.1 C.2.1 C.2.2.1 hin ty0 hty C.2.2.2.1 (C.2.2.1 _ hcl) (C.2.2.1 _ hins) (C.2.2.1 _ hini) C.2.2.2.2.1 hq.1 hq.2.1 hq.2.2 hA hc hfs (Nat.le_trans hcc C.2.2.2.2.2.2.2.2.1) (Nat.le_trans hss C.2.2.2.2.2.2.2.2.2) dg (fun q H1 h1 h2 h3 => kk q H1 locs ls ⟨h1, h2, h3⟩ hl)
theorem s_objInit {idx a : Nat} (C : Cx E cc own nL D cA d mR sR) (hl0 : Cond.methodLink own idx objectInit ∈ bigW) (dg : decode cc pc = .ok (.invokespecial idx, 3)) (hd : 1 ≤ d) (hr : (rest.map fun v => v.category).sum ≤ 8)
    (kk : ST E nL Q cells slots Φ lv rest (pc + 3)) : ST E nL Q cells slots Φ lv (.ref a :: rest) pc := by
  intro H locs ls hq hl
  have g1 := C.2.2.2.2.2.2.1
  have g2 := C.2.2.2.2.2.2.2.1
  refine W.objInit (g := F0 E.2.2.2.2.2.1 pc ls (.ref a :: rest)) C.1 C.2.1 C.2.2.2.1 (C.2.2.1 _ hl0) (C.2.2.1 _ imO) (C.2.2.1 _ kcO) rfl (by rw [C.2.2.2.2.2.1]; exact hl.1) rfl dg (by omega) ?_ (kk H locs ls hq hl)
  show 2 * 0 + (rest.map fun v => v.category).sum + 12 ≤ E.2.2.2.1.locals
  omega
theorem s_min {idx : Nat} {x y : Int32} (C : Cx E cc own nL D cA d mR sR) (hl0 : Cond.methodLink own idx Lib.Math.min.name ∈ bigW) (dg : decode cc pc = .ok (.invokestatic idx, 3)) (hd : 1 ≤ d) (hr : (rest.map fun v => v.category).sum ≤ 8) (hc : cells ≤ mR) (hs : slots ≤ sR)
    (kk : ST E nL Q cells slots Φ lv (.int (if y < x then y else x) :: rest) (pc + 3)) : ST E nL Q cells slots Φ lv (.int y :: .int x :: rest) pc := by
  intro H locs ls hq hl
  have g1 := C.2.2.2.2.2.2.1
  have g2 := C.2.2.2.2.2.2.2.1
  exact va_mmin C.1 C.2.1 (by rw [C.2.2.2.2.2.1]; exact hl.1.symm) C.2.2.2.1 (C.2.2.1 _ hl0) (C.2.2.1 _ st_min) (C.2.2.1 _ iniJ) (C.2.2.1 _ kc_min) (by omega) (by omega) (Nat.le_trans hc C.2.2.2.2.2.2.2.2.1) (Nat.le_trans hs C.2.2.2.2.2.2.2.2.2) dg (kk H locs ls hq hl)
theorem s_max {idx : Nat} {x y : Int32} (C : Cx E cc own nL D cA d mR sR) (hl0 : Cond.methodLink own idx Lib.Math.max.name ∈ bigW) (dg : decode cc pc = .ok (.invokestatic idx, 3)) (hd : 1 ≤ d) (hr : (rest.map fun v => v.category).sum ≤ 8) (hc : cells ≤ mR) (hs : slots ≤ sR)
    (kk : ST E nL Q cells slots Φ lv (.int (if x < y then y else x) :: rest) (pc + 3)) : ST E nL Q cells slots Φ lv (.int y :: .int x :: rest) pc := by
  intro H locs ls hq hl
  have g1 := C.2.2.2.2.2.2.1
  have g2 := C.2.2.2.2.2.2.2.1
  exact va_mmax C.1 C.2.1 (by rw [C.2.2.2.2.2.1]; exact hl.1.symm) C.2.2.2.1 (C.2.2.1 _ hl0) (C.2.2.1 _ st_max) (C.2.2.1 _ iniJ) (C.2.2.1 _ kc_max) (by omega) (by omega) (Nat.le_trans hc C.2.2.2.2.2.2.2.2.1) (Nat.le_trans hs C.2.2.2.2.2.2.2.2.2) dg (kk H locs ls hq hl)
end S20
/-! contracts: one that only reads, one that writes (void, or an int) -/
def CtP (l : Launch) (y : MethodName) (cd : Cond) (d : Nat) (D : va_G) (cA : ClassId) (av : List Value) (ws : va_W) (post : Int32 → Prop) : Prop :=
  Met l y (cd :: bigW) (rmL d 0 0) (va_Pc av (fun U => va_P D cls ws U.heap ∧ va_K D cls [(cA, .int)] U)) (vp_Si post) 0 0 (fun _ => False)
def CtV {S : Type} (l : Launch) (y : MethodName) (cd : Cond) (d mc ms : Nat) (D : va_G) (cA : ClassId) (av : List Value) (ws : va_W) (post : S → Prop) (W1 : S → va_W) : Prop :=
  ∀ sz : Nat, Met l y (cd :: bigW) (rmL d mc ms) (va_Pc av (fun U => U.heap.size = sz ∧ va_P D cls ws U.heap ∧ va_K D cls [(cA, .int)] U ∧ va_D (fun _ => True) ws)) (va_Qv post (fun u t => va_P D cls (W1 u) t.heap ∧ va_K D cls [(cA, .int)] t ∧ va_D (va_A ws sz) (W1 u)) (va_A ws sz)) mc ms (va_A ws sz)
def CtI {S : Type} (l : Launch) (y : MethodName) (cd : Cond) (d mc ms : Nat) (D : va_G) (cA : ClassId) (av : List Value) (ws : va_W) (post : Int32 → S → Prop) (W1 : S → va_W) : Prop :=
  ∀ sz : Nat, Met l y (cd :: bigW) (rmL d mc ms) (va_Pc av (fun U => U.heap.size = sz ∧ va_P D cls ws U.heap ∧ va_K D cls [(cA, .int)] U ∧ va_D (fun _ => True) ws)) (va_Qi post (fun u t => va_P D cls (W1 u) t.heap ∧ va_K D cls [(cA, .int)] t ∧ va_D (va_A ws sz) (W1 u)) (va_A ws sz)) mc ms (va_A ws sz)
theorem mkP {l : Launch} {y : MethodName} {cc : ByteArray} {nL d : Nat} {rt : FieldType} {D : va_G} {cA : ClassId} {av : List Value} {ws : va_W} {post : Int32 → Prop} (lv0 : List (Nat × Value)) (hy : plainName y.cls = true) (hlv : lv_args 0 av = lv0) (hsl : (lg_sl av).length ≤ nL)
    (body : ∀ (E : EnvT) (Q : State → Prop), E.2.1 = l → Cx E cc y.cls nL D cA d 0 0 →
      (∀ (r : Int32) (lv : List (Nat × Value)) (pc : Nat), decode cc pc = .ok (.ireturn, 1) → narrow rt (.int r) = .int r → post r → ST E nL Q 0 0 (pf E D ws) lv [.int r] pc) →
      ST E nL Q 0 0 (pf E D ws) lv0 [] 0) : CtP l y (.code y cc nL (some rt)) d D cA av ws post := by
  refine Met.ofW (cc := cc) (maxL := nL) (ret := some rt) hy rfl ?_
  intro p e s m args below meth c s₁ B hml hv
  obtain ⟨rfl, hP, hK⟩ := hv
  have hlocks := B.notSynchronized
  have hl := lv_entry av (n := nL) hsl
  rw [lg_entry_eq]
  rw [hlv] at hl
  generalize (lg_sl av ++ List.replicate (nL - (lg_sl av).length) Slot.unset).toArray = ls at hl ⊢
  refine body (p, l, e, rmL d 0 0, s, m, av.toArray, below, meth, c) _ rfl ⟨B.exec, B.bytes, ws_in (atoms_spec (ws := .code y cc nL (some rt) :: bigW) B.pre), findClass_of_methodNamed B.named, hK, hml, Nat.le_refl _, Nat.le_refl _, Nat.le_refl _, Nat.le_refl _⟩ ?_ s.heap [] ls ⟨rfl, rfl, hP⟩ hl
  intro r lv pc dg hn hp H locs ls2 hΦ hl2
  obtain ⟨h1, h2, h3⟩ := hΦ
  subst h1; subst h2
  exact W.zret B.exec B.bytes B.returns hn (fun t ht hW => ⟨r, rfl, hp, ht⟩) (fun q hq => by cases hq) dg
theorem mkV {S : Type} {l : Launch} {y : MethodName} {cc : ByteArray} {nL d mc ms : Nat} {D : va_G} {cA : ClassId} {av : List Value} {ws : va_W} {post : S → Prop} {W1 : S → va_W} (lv0 : List (Nat × Value)) (hy : plainName y.cls = true) (hlv : lv_args 0 av = lv0) (hsl : (lg_sl av).length ≤ nL)
    (body : ∀ (E : EnvT) (A : Nat → Prop) (Q : State → Prop), E.2.1 = l → E.2.2.2.2.2.2.2.2.1.name = y.name → Cx E cc y.cls nL D cA d mc ms → (∀ q, (hpE E).size ≤ q → A q) →
      (∀ (u : S) (lv : List (Nat × Value)) (pc : Nat), decode cc pc = .ok (.return_, 1) → post u → ST E nL Q mc ms (wf E A D (W1 u)) lv [] pc) →
      ST E nL Q 0 0 (wf E A D ws) lv0 [] 0) : CtV l y (.code y cc nL none) d mc ms D cA av ws post W1 := by
  intro sz
  refine Met.ofW (cc := cc) (maxL := nL) (ret := none) hy rfl ?_
  intro p e s m args below meth c s₁ B hml hv
  obtain ⟨rfl, hsz, hP, hK, hD0⟩ := hv
  have hlocks := B.notSynchronized
  subst hsz
  have hD := hD0.self (sz := s.heap.size)
  have hl := lv_entry av (n := nL) hsl
  rw [lg_entry_eq]
  rw [hlv] at hl
  generalize (lg_sl av ++ List.replicate (nL - (lg_sl av).length) Slot.unset).toArray = ls at hl ⊢
  refine body (p, l, e, rmL d mc ms, s, m, av.toArray, below, meth, c) (va_A ws s.heap.size) _ rfl (name_of_methodNamed B.named B.method).1 ⟨B.exec, B.bytes, ws_in (atoms_spec (ws := .code y cc nL none :: bigW) B.pre), findClass_of_methodNamed B.named, hK, hml, Nat.le_refl _, Nat.le_refl _, Nat.le_refl _, Nat.le_refl _⟩ (fun q h => Or.inr h) ?_ s.heap [] ls ⟨hP, hD, va_S.rf⟩ hl
  intro u lv pc dg hp H locs ls2 hΦ hl2
  exact W.vret B.exec B.bytes B.returns (fun t ht hW => ⟨⟨u, rfl, hp, by rw [ht]; exact hΦ.1, va_K.moved hW.alike hK, hΦ.2.1⟩, hΦ.2.2.F ht⟩) hΦ.2.2.2.2 dg
theorem mkI {S : Type} {l : Launch} {y : MethodName} {cc : ByteArray} {nL d mc ms : Nat} {rt : FieldType} {D : va_G} {cA : ClassId} {av : List Value} {ws : va_W} {post : Int32 → S → Prop} {W1 : S → va_W} (lv0 : List (Nat × Value)) (hy : plainName y.cls = true) (hlv : lv_args 0 av = lv0) (hsl : (lg_sl av).length ≤ nL)
    (body : ∀ (E : EnvT) (A : Nat → Prop) (Q : State → Prop), E.2.1 = l → Cx E cc y.cls nL D cA d mc ms → (∀ q, (hpE E).size ≤ q → A q) →
      (∀ (r : Int32) (u : S) (lv : List (Nat × Value)) (pc : Nat), decode cc pc = .ok (.ireturn, 1) → narrow rt (.int r) = .int r → post r u → ST E nL Q mc ms (wf E A D (W1 u)) lv [.int r] pc) →
      ST E nL Q 0 0 (wf E A D ws) lv0 [] 0) : CtI l y (.code y cc nL (some rt)) d mc ms D cA av ws post W1 := by
  intro sz
  refine Met.ofW (cc := cc) (maxL := nL) (ret := some rt) hy rfl ?_
  intro p e s m args below meth c s₁ B hml hv
  obtain ⟨rfl, hsz, hP, hK, hD0⟩ := hv
  have hlocks := B.notSynchronized
  subst hsz
  have hD := hD0.self (sz := s.heap.size)
  have hl := lv_entry av (n := nL) hsl
  rw [lg_entry_eq]
  rw [hlv] at hl
  generalize (lg_sl av ++ List.replicate (nL - (lg_sl av).length) Slot.unset).toArray = ls at hl ⊢
  refine body (p, l, e, rmL d mc ms, s, m, av.toArray, below, meth, c) (va_A ws s.heap.size) _ rfl ⟨B.exec, B.bytes, ws_in (atoms_spec (ws := .code y cc nL (some rt) :: bigW) B.pre), findClass_of_methodNamed B.named, hK, hml, Nat.le_refl _, Nat.le_refl _, Nat.le_refl _, Nat.le_refl _⟩ (fun q h => Or.inr h) ?_ s.heap [] ls ⟨hP, hD, va_S.rf⟩ hl
  intro r u lv pc dg hn hp H locs ls2 hΦ hl2
  exact W.zret B.exec B.bytes B.returns hn (fun t ht hW => ⟨⟨r, u, rfl, hp, by rw [ht]; exact hΦ.1, va_K.moved hW.alike hK, hΦ.2.1⟩, hΦ.2.2.F ht⟩) hΦ.2.2.2.2 dg
section S21
variable {E : EnvT} {nL : Nat} {Q : State → Prop} {cells slots : Nat} {Φ : Heap → List Loc → Prop} {lv : List (Nat × Value)} {st rest : List Value} {pc : Nat} {cc : ByteArray} {own : String} {D : va_G} {cA : ClassId} {d mR sR : Nat}
variable {y : MethodName} {bytes : ByteArray} {maxL index n d' mc ms ci : Nat} {rt : FieldType} {Cn : String} {As fs : List Value} {b : Nat} {ws : va_W} {qc : vw_C}
theorem rmOK {R : Room} (h1 : d ≤ R.frames) (h2 : 40 * d ≤ R.locals) (h : d' < d) (hm : maxL ≤ 21) : (rmL d' mc ms).frames + 1 ≤ R.frames ∧ 8 + (maxL + 11) + (rmL d' mc ms).locals ≤ R.locals := by
  refine ⟨?_, ?_⟩
  · show d' + 1 ≤ R.frames; omega
  · show 8 + (maxL + 11) + 40 * d' ≤ R.locals; omega
theorem cxR (C : Cx E cc own nL D cA d mR sR) (h : d' < d) (hm : maxL ≤ 21) : (rmL d' mc ms).frames + 1 ≤ E.2.2.2.1.frames ∧ 8 + (maxL + 11) + (rmL d' mc ms).locals ≤ E.2.2.2.1.locals := rmOK C.2.2.2.2.2.2.1 C.2.2.2.2.2.2.2.1 h hm
/-- a call of a method that only reads -/
theorem s_callP {wc : va_W} {post : Int32 → Prop} (isC : List Nat) (r0 : Nat) (rest : List Value) (C : Cx E cc own nL D cA d mR sR) (hΦ : ∀ H locs, Φ H locs → va_P D cls ws H) (hM : CtP E.2.1 y (.code y bytes maxL (some rt)) d' D cA (.ref b :: As) wc post) (hG : GoodIn bigW (wsV own index Cn y (.code y bytes maxL (some rt) :: bigW))) (dg : decode cc pc = .ok (.invokevirtual index, 3)) (hd : y.cls = Cn ∧ y.cls ≠ "java/lang/invoke/MethodHandle" ∧ y.cls ≠ "java/lang/invoke/VarHandle" ∧ (parseMethodDescriptor y.desc).map (fun d => d.parameters.length) = some n) (hC : isC.map (fun i => ws[i]?) = wc.map some) (hr : wc[r0]? = some (b, .inr (ci, fs))) (hci : cls[ci]? = some qc) (hcn : qc.1 = Cn) (hdd : d' < d) (hmx : maxL ≤ 21) (hn : As.length = n) (hst : st = As.reverse ++ .ref b :: rest) (hroom : (rest.map fun v => v.category).sum ≤ 8) (hc : cells ≤ mR) (hs : slots ≤ sR)
    (k : ∀ r : Int32, post r → ST E nL Q cells slots Φ lv (.int r :: rest) (pc + 3)) : ST E nL Q cells slots Φ lv st pc := by
  intro H locs ls hq hl
  have hP := hΦ H locs hq
  have hPc := hP.sub (ws' := wc) isC (fm_of hC)
  have hK := C.2.2.2.2.1
  subst hcn
  have hc' := Nat.le_trans hc C.2.2.2.2.2.2.2.2.1
  have hs' := Nat.le_trans hs C.2.2.2.2.2.2.2.2.2
  refine vp_callSi (W.runV (g := F0 E.2.2.2.2.2.1 pc ls st) (As := As) (rest := rest) ⟨C.1, C.2.1, C.2.2.2.2.2.1, C.2.2.2.1, C.2.2.1⟩ hM (cwV n C.2.2.1 hG rfl rfl rfl hd (cxR C hdd hmx)) ⟨fun a U g mk q => ⟨q.1, q.2.1, va_K.moved (u := U) (U := U.calling g mk a) (Vm.Alike.refl U.vm) q.2.2⟩, va_recv hK hPc hci hr, fun U hU hW => ⟨rfl, by rw [hU]; exact hPc, va_K.moved hW.alike hK⟩⟩ rfl hn hl.1 hst (lv_room hroom) dg ⟨hc', hs'⟩) (fun r hp => k r hp H locs ls hq hl)
/-- a call of a static method that only reads -/
theorem s_callPS {wc : va_W} {post : Int32 → Prop} (isC : List Nat) (rest : List Value) (C : Cx E cc own nL D cA d mR sR) (hΦ : ∀ H locs, Φ H locs → va_P D cls ws H) (hM : CtP E.2.1 y (.code y bytes maxL (some rt)) d' D cA As wc post) (hG : GoodIn bigW (wsS own index y (.code y bytes maxL (some rt) :: bigW))) (dg : decode cc pc = .ok (.invokestatic index, 3)) (hd : y.cls = own ∧ y.cls ≠ "java/lang/invoke/MethodHandle" ∧ y.cls ≠ "java/lang/invoke/VarHandle" ∧ (parseMethodDescriptor y.desc).map (fun d => d.parameters.length) = some n) (hC : isC.map (fun i => ws[i]?) = wc.map some) (hdd : d' < d) (hmx : maxL ≤ 21) (hn : As.length = n) (hst : st = As.reverse ++ rest) (hroom : (rest.map fun v => v.category).sum ≤ 8) (hc : cells ≤ mR) (hs : slots ≤ sR)
    (k : ∀ r : Int32, post r → ST E nL Q cells slots Φ lv (.int r :: rest) (pc + 3)) : ST E nL Q cells slots Φ lv st pc := by
  intro H locs ls hq hl
  have hP := hΦ H locs hq
  have hPc := hP.sub (ws' := wc) isC (fm_of hC)
  have hK := C.2.2.2.2.1
  have hc' := Nat.le_trans hc C.2.2.2.2.2.2.2.2.1
  have hs' := Nat.le_trans hs C.2.2.2.2.2.2.2.2.2
  refine vp_callSi (W.runS (g := F0 E.2.2.2.2.2.1 pc ls st) (As := As) (rest := rest) ⟨C.1, C.2.1, C.2.2.2.2.2.1, C.2.2.2.1, C.2.2.1⟩ hM (cwS n C.2.2.1 hG rfl rfl rfl hd (cxR C hdd hmx)) ⟨fun a U g mk q => ⟨q.1, q.2.1, va_K.moved (u := U) (U := U.calling g mk a) (Vm.Alike.refl U.vm) q.2.2⟩, fun U hU hW => ⟨rfl, by rw [hU]; exact hPc, va_K.moved hW.alike hK⟩⟩ rfl hn hl.1 hst (lv_room hroom) dg ⟨hc', hs'⟩) (fun r hp => k r hp H locs ls hq hl)
theorem bl2 {av : List Value} {wc : va_W} {sz : Nat} {A : Nat → Prop} {tys : List (ClassId × FieldType)} : FrameBlind (va_Pc av (fun U => U.heap.size = sz ∧ va_P D cls wc U.heap ∧ va_K D cls tys U ∧ va_D A wc)) :=
  fun a U g mk q => ⟨q.1, q.2.1, q.2.2.1, va_K.moved (u := U) (U := U.calling g mk a) (Vm.Alike.refl U.vm) q.2.2.2.1, q.2.2.2.2⟩
/-- a call of a method that writes, void -/
theorem s_callV {S : Type} {A : Nat → Prop} {wc wr : va_W} {post : S → Prop} {W1 : S → va_W} (isC isR : List Nat) (r0 : Nat) (rest : List Value) (C : Cx E cc own nL D cA d mR sR) (hA : ∀ q, (hpE E).size ≤ q → A q) (hM : CtV E.2.1 y (.code y bytes maxL none) d' mc ms D cA (.ref b :: As) wc post W1) (hG : GoodIn bigW (wsV own index Cn y (.code y bytes maxL none :: bigW))) (dg : decode cc pc = .ok (.invokevirtual index, 3)) (hd : y.cls = Cn ∧ y.cls ≠ "java/lang/invoke/MethodHandle" ∧ y.cls ≠ "java/lang/invoke/VarHandle" ∧ (parseMethodDescriptor y.desc).map (fun d => d.parameters.length) = some n) (hC : isC.map (fun i => ws[i]?) = wc.map some) (hR : isR.map (fun i => ws[i]?) = wr.map some) (hnC : va_nd isC = true) (hnR : va_nd isR = true) (hdis : ∀ i ∈ isR, i ∉ isC) (hr : wc[r0]? = some (b, .inr (ci, fs))) (hci : cls[ci]? = some qc) (hcn : qc.1 = Cn) (hdd : d' < d) (hmx : maxL ≤ 21) (hn : As.length = n) (hst : st = As.reverse ++ .ref b :: rest) (hroom : (rest.map fun v => v.category).sum ≤ 8) (hc : cells + mc ≤ mR) (hs : slots + ms ≤ sR)
    (k : ∀ u : S, post u → ST E nL Q (cells + mc) (slots + ms) (wf E A D (wr ++ W1 u)) lv rest (pc + 3)) : ST E nL Q cells slots (wf E A D ws) lv st pc := by
  intro H locs ls hq hl
  obtain ⟨hP, hD, hS⟩ := hq
  have hPc := hP.sub (ws' := wc) isC (fm_of hC)
  have hDc := hD.sub (ws' := wc) isC hnC hC
  have hFc := va_free (wc := wc) hD hS hA isC hC
  have hK := C.2.2.2.2.1
  subst hcn
  have hc' := Nat.le_trans hc C.2.2.2.2.2.2.2.2.1
  have hs' := Nat.le_trans hs C.2.2.2.2.2.2.2.2.2
  refine va_callv (va_runV (g := F0 E.2.2.2.2.2.1 pc ls st) (As := As) (rest := rest) ⟨C.1, C.2.1, C.2.2.2.2.2.1, C.2.2.2.1, C.2.2.1⟩ (hM H.size) (cwV n C.2.2.1 hG rfl rfl rfl hd (cxR C hdd hmx)) ⟨bl2, va_recv hK hPc hci hr, fun U hU hW => ⟨rfl, by rw [hU], by rw [hU]; exact hPc, va_K.moved hW.alike hK, hDc.weaken (fun _ _ _ _ => trivial)⟩⟩ rfl hn hl.1 hst (lv_room hroom) dg ⟨hc', hs'⟩) hS (fun q _ h => hFc q h) hFc (fun u t H1 locs1 ht hvm hw hB hz1 hk1 hS1 => ?_)
  obtain ⟨hP1, hK1, hD1⟩ := hB
  rw [ht] at hP1
  obtain ⟨hP2, hD2⟩ := va_join (wr := wr) (w1 := W1 u) hP hD isC isR hC hR hnR hdis hk1 hFc hP1 hD1
  exact k u hw H1 locs1 ls ⟨hP2, hD2, hS1⟩ hl
/-- a call of a method that writes and answers an int -/
theorem s_callI {S : Type} {A : Nat → Prop} {wc wr : va_W} {post : Int32 → S → Prop} {W1 : S → va_W} (isC isR : List Nat) (r0 : Nat) (rest : List Value) (C : Cx E cc own nL D cA d mR sR) (hA : ∀ q, (hpE E).size ≤ q → A q) (hM : CtI E.2.1 y (.code y bytes maxL (some rt)) d' mc ms D cA (.ref b :: As) wc post W1) (hG : GoodIn bigW (wsV own index Cn y (.code y bytes maxL (some rt) :: bigW))) (dg : decode cc pc = .ok (.invokevirtual index, 3)) (hd : y.cls = Cn ∧ y.cls ≠ "java/lang/invoke/MethodHandle" ∧ y.cls ≠ "java/lang/invoke/VarHandle" ∧ (parseMethodDescriptor y.desc).map (fun d => d.parameters.length) = some n) (hC : isC.map (fun i => ws[i]?) = wc.map some) (hR : isR.map (fun i => ws[i]?) = wr.map some) (hnC : va_nd isC = true) (hnR : va_nd isR = true) (hdis : ∀ i ∈ isR, i ∉ isC) (hr : wc[r0]? = some (b, .inr (ci, fs))) (hci : cls[ci]? = some qc) (hcn : qc.1 = Cn) (hdd : d' < d) (hmx : maxL ≤ 21) (hn : As.length = n) (hst : st = As.reverse ++ .ref b :: rest) (hroom : (rest.map fun v => v.category).sum ≤ 8) (hc : cells + mc ≤ mR) (hs : slots + ms ≤ sR)
    (k : ∀ (r : Int32) (u : S), post r u → ST E nL Q (cells + mc) (slots + ms) (wf E A D (wr ++ W1 u)) lv (.int r :: rest) (pc + 3)) : ST E nL Q cells slots (wf E A D ws) lv st pc := by
  intro H locs ls hq hl
  obtain ⟨hP, hD, hS⟩ := hq
  have hPc := hP.sub (ws' := wc) isC (fm_of hC)
  have hDc := hD.sub (ws' := wc) isC hnC hC
  have hFc := va_free (wc := wc) hD hS hA isC hC
  have hK := C.2.2.2.2.1
  subst hcn
  have hc' := Nat.le_trans hc C.2.2.2.2.2.2.2.2.1
  have hs' := Nat.le_trans hs C.2.2.2.2.2.2.2.2.2
  refine va_calli (va_runV (g := F0 E.2.2.2.2.2.1 pc ls st) (As := As) (rest := rest) ⟨C.1, C.2.1, C.2.2.2.2.2.1, C.2.2.2.1, C.2.2.1⟩ (hM H.size) (cwV n C.2.2.1 hG rfl rfl rfl hd (cxR C hdd hmx)) ⟨bl2, va_recv hK hPc hci hr, fun U hU hW => ⟨rfl, by rw [hU], by rw [hU]; exact hPc, va_K.moved hW.alike hK, hDc.weaken (fun _ _ _ _ => trivial)⟩⟩ rfl hn hl.1 hst (lv_room hroom) dg ⟨hc', hs'⟩) hS (fun q _ h => hFc q h) hFc (fun r u t H1 locs1 ht hvm hw hB hz1 hk1 hS1 => ?_)
  obtain ⟨hP1, hK1, hD1⟩ := hB
  rw [ht] at hP1
  obtain ⟨hP2, hD2⟩ := va_join (wr := wr) (w1 := W1 u) hP hD isC isR hC hR hnR hdis hk1 hFc hP1 hD1
  exact k r u hw H1 locs1 ls ⟨hP2, hD2, hS1⟩ hl
/-- a call of a static method that writes, void -/
theorem s_callVS {S : Type} {A : Nat → Prop} {wc wr : va_W} {post : S → Prop} {W1 : S → va_W} (isC isR : List Nat) (rest : List Value) (C : Cx E cc own nL D cA d mR sR) (hA : ∀ q, (hpE E).size ≤ q → A q) (hM : CtV E.2.1 y (.code y bytes maxL none) d' mc ms D cA As wc post W1) (hG : GoodIn bigW (wsS own index y (.code y bytes maxL none :: bigW))) (dg : decode cc pc = .ok (.invokestatic index, 3)) (hd : y.cls = own ∧ y.cls ≠ "java/lang/invoke/MethodHandle" ∧ y.cls ≠ "java/lang/invoke/VarHandle" ∧ (parseMethodDescriptor y.desc).map (fun d => d.parameters.length) = some n) (hC : isC.map (fun i => ws[i]?) = wc.map some) (hR : isR.map (fun i => ws[i]?) = wr.map some) (hnC : va_nd isC = true) (hnR : va_nd isR = true) (hdis : ∀ i ∈ isR, i ∉ isC) (hdd : d' < d) (hmx : maxL ≤ 21) (hn : As.length = n) (hst : st = As.reverse ++ rest) (hroom : (rest.map fun v => v.category).sum ≤ 8) (hc : cells + mc ≤ mR) (hs : slots + ms ≤ sR)
    (k : ∀ u : S, post u → ST E nL Q (cells + mc) (slots + ms) (wf E A D (wr ++ W1 u)) lv rest (pc + 3)) : ST E nL Q cells slots (wf E A D ws) lv st pc := by
  intro H locs ls hq hl
  obtain ⟨hP, hD, hS⟩ := hq
  have hPc := hP.sub (ws' := wc) isC (fm_of hC)
  have hDc := hD.sub (ws' := wc) isC hnC hC
  have hFc := va_free (wc := wc) hD hS hA isC hC
  have hK := C.2.2.2.2.1
  have hc' := Nat.le_trans hc C.2.2.2.2.2.2.2.2.1
  have hs' := Nat.le_trans hs C.2.2.2.2.2.2.2.2.2
  refine va_callv (va_runS (g := F0 E.2.2.2.2.2.1 pc ls st) (As := As) (rest := rest) ⟨C.1, C.2.1, C.2.2.2.2.2.1, C.2.2.2.1, C.2.2.1⟩ (hM H.size) (cwS n C.2.2.1 hG rfl rfl rfl hd (cxR C hdd hmx)) ⟨bl2, fun U hU hW => ⟨rfl, by rw [hU], by rw [hU]; exact hPc, va_K.moved hW.alike hK, hDc.weaken (fun _ _ _ _ => trivial)⟩⟩ rfl hn hl.1 hst (lv_room hroom) dg ⟨hc', hs'⟩) hS (fun q _ h => hFc q h) hFc (fun u t H1 locs1 ht hvm hw hB hz1 hk1 hS1 => ?_)
  obtain ⟨hP1, hK1, hD1⟩ := hB
  rw [ht] at hP1
  obtain ⟨hP2, hD2⟩ := va_join (wr := wr) (w1 := W1 u) hP hD isC isR hC hR hnR hdis hk1 hFc hP1 hD1
  exact k u hw H1 locs1 ls ⟨hP2, hD2, hS1⟩ hl
/-- a constructor's call -/
theorem s_callC {S : Type} {A : Nat → Prop} {wc wr : va_W} {post : S → Prop} {W1 : S → va_W} (isC isR : List Nat) (rest : List Value) (C : Cx E cc own nL D cA d mR sR) (hA : ∀ q, (hpE E).size ≤ q → A q) (hM : CtV E.2.1 y (.code y bytes maxL none) d' mc ms D cA (.ref b :: As) wc post W1) (hk0 : .code y bytes maxL none ∈ bigW) (hlk : .methodLink own index y ∈ bigW) (him : .instanceMethod y ∈ bigW) (hii : .initialized y.cls ∈ bigW) (dg : decode cc pc = .ok (.invokespecial index, 3)) (hy1 : y.name = "<init>") (hd : y.cls ≠ "java/lang/invoke/MethodHandle" ∧ y.cls ≠ "java/lang/invoke/VarHandle" ∧ (parseMethodDescriptor y.desc).map (fun d => d.parameters.length) = some n) (hC : isC.map (fun i => ws[i]?) = wc.map some) (hR : isR.map (fun i => ws[i]?) = wr.map some) (hnC : va_nd isC = true) (hnR : va_nd isR = true) (hdis : ∀ i ∈ isR, i ∉ isC) (hdd : d' < d) (hmx : maxL ≤ 21) (hn : As.length = n) (hst : st = As.reverse ++ .ref b :: rest) (hroom : (rest.map fun v => v.category).sum ≤ 8) (hc : cells + mc ≤ mR) (hs : slots + ms ≤ sR)
    (k : ∀ u : S, post u → ST E nL Q (cells + mc) (slots + ms) (wf E A D (wr ++ W1 u)) lv rest (pc + 3)) : ST E nL Q cells slots (wf E A D ws) lv st pc := by
  intro H locs ls hq hl
  obtain ⟨hP, hD, hS⟩ := hq
  have hPc := hP.sub (ws' := wc) isC (fm_of hC)
  have hDc := hD.sub (ws' := wc) isC hnC hC
  have hFc := va_free (wc := wc) hD hS hA isC hC
  have hK := C.2.2.2.2.1
  have hc' := Nat.le_trans hc C.2.2.2.2.2.2.2.2.1
  have hs' := Nat.le_trans hs C.2.2.2.2.2.2.2.2.2
  refine va_callv (va_runI (g := F0 E.2.2.2.2.2.1 pc ls st) (As := As) (rest := rest) ⟨C.1, C.2.1, C.2.2.2.2.2.1, C.2.2.2.1, C.2.2.1⟩ (hM H.size) (cwI n C.2.2.1 (gI hk0) rfl rfl rfl (C.2.2.1 _ hii) (C.2.2.1 _ hlk) (C.2.2.1 _ him) hy1 hd (cxR C hdd hmx)) ⟨bl2, fun U hU hW => ⟨rfl, by rw [hU], by rw [hU]; exact hPc, va_K.moved hW.alike hK, hDc.weaken (fun _ _ _ _ => trivial)⟩⟩ rfl hn hl.1 hst (lv_room hroom) dg ⟨hc', hs'⟩) hS (fun q _ h => hFc q h) hFc (fun u t H1 locs1 ht hvm hw hB hz1 hk1 hS1 => ?_)
  obtain ⟨hP1, hK1, hD1⟩ := hB
  rw [ht] at hP1
  obtain ⟨hP2, hD2⟩ := va_join (wr := wr) (w1 := W1 u) hP hD isC isR hC hR hnR hdis hk1 hFc hP1 hD1
  exact k u hw H1 locs1 ls ⟨hP2, hD2, hS1⟩ hl
/-- a private constructor's call, of a nest mate -/
theorem s_callCN {S : Type} {A : Nat → Prop} {wc wr : va_W} {post : S → Prop} {W1 : S → va_W} {host : String} (isC isR : List Nat) (rest : List Value) (C : Cx E cc own nL D cA d mR sR) (hA : ∀ q, (hpE E).size ≤ q → A q) (hM : CtV E.2.1 y (.code y bytes maxL none) d' mc ms D cA (.ref b :: As) wc post W1) (hk0 : .code y bytes maxL none ∈ bigW) (hlk : va_Nw (.methodLinkNest own index y host) E.2.2.2.2.1) (him : .instanceMethod y ∈ bigW) (hii : .initialized y.cls ∈ bigW) (dg : decode cc pc = .ok (.invokespecial index, 3)) (hy1 : y.name = "<init>") (hd : y.cls ≠ "java/lang/invoke/MethodHandle" ∧ y.cls ≠ "java/lang/invoke/VarHandle" ∧ (parseMethodDescriptor y.desc).map (fun d => d.parameters.length) = some n) (hC : isC.map (fun i => ws[i]?) = wc.map some) (hR : isR.map (fun i => ws[i]?) = wr.map some) (hnC : va_nd isC = true) (hnR : va_nd isR = true) (hdis : ∀ i ∈ isR, i ∉ isC) (hdd : d' < d) (hmx : maxL ≤ 21) (hn : As.length = n) (hst : st = As.reverse ++ .ref b :: rest) (hroom : (rest.map fun v => v.category).sum ≤ 8) (hc : cells + mc ≤ mR) (hs : slots + ms ≤ sR)
    (k : ∀ u : S, post u → ST E nL Q (cells + mc) (slots + ms) (wf E A D (wr ++ W1 u)) lv rest (pc + 3)) : ST E nL Q cells slots (wf E A D ws) lv st pc := by
  intro H locs ls hq hl
  obtain ⟨hP, hD, hS⟩ := hq
  have hPc := hP.sub (ws' := wc) isC (fm_of hC)
  have hDc := hD.sub (ws' := wc) isC hnC hC
  have hFc := va_free (wc := wc) hD hS hA isC hC
  have hK := C.2.2.2.2.1
  have hc' := Nat.le_trans hc C.2.2.2.2.2.2.2.2.1
  have hs' := Nat.le_trans hs C.2.2.2.2.2.2.2.2.2
  refine va_callv (va_runIN (g := F0 E.2.2.2.2.2.1 pc ls st) (As := As) (rest := rest) (host := host) ⟨C.1, C.2.1, C.2.2.2.2.2.1, C.2.2.2.1, C.2.2.1⟩ (hM H.size) ⟨va_cnB n C.2.2.1 (gI hk0) rfl rfl rfl hlk (C.2.2.1 _ hii) hd (cxR C hdd hmx), hy1, C.2.2.1 _ him⟩ ⟨bl2, fun U hU hW => ⟨rfl, by rw [hU], by rw [hU]; exact hPc, va_K.moved hW.alike hK, hDc.weaken (fun _ _ _ _ => trivial)⟩⟩ rfl hn hl.1 hst (lv_room hroom) dg ⟨hc', hs'⟩) hS (fun q _ h => hFc q h) hFc (fun u t H1 locs1 ht hvm hw hB hz1 hk1 hS1 => ?_)
  obtain ⟨hP1, hK1, hD1⟩ := hB
  rw [ht] at hP1
  obtain ⟨hP2, hD2⟩ := va_join (wr := wr) (w1 := W1 u) hP hD isC isR hC hR hnR hdis hk1 hFc hP1 hD1
  exact k u hw H1 locs1 ls ⟨hP2, hD2, hS1⟩ hl
end S21
end
section
/-! numbers: what the walker's rows need -/
def ndf (a b : Nat) : Nat := a ^^^ (a &&& b)
theorem inc1 (a : Nat) : nI a + Int32.ofInt 1 = nI (a + 1) := nI_1 a
theorem inc3 (a : Nat) : nI a + Int32.ofInt 3 = nI (a + 3) := nI_add a 3
theorem dec1 {a : Nat} (h : 0 < a) : nI a + Int32.ofInt (-1) = nI (a - 1) := by
  obtain ⟨b, rfl⟩ : ∃ b, a = b + 1 := ⟨a - 1, by omega⟩
  exact pk_m1 b
theorem nx_and' (a b : Nat) : nI a &&& nI b = nI (a &&& b) := by
  apply Int32.toBitVec_inj.1
  show BitVec.ofNat 32 a &&& BitVec.ofNat 32 b = BitVec.ofNat 32 (a &&& b)
  apply BitVec.eq_of_getLsbD_eq
  intro i hi
  simp [hi]
theorem nx_or' (a b : Nat) : nI a ||| nI b = nI (a ||| b) := by
  apply Int32.toBitVec_inj.1
  show BitVec.ofNat 32 a ||| BitVec.ofNat 32 b = BitVec.ofNat 32 (a ||| b)
  apply BitVec.eq_of_getLsbD_eq
  intro i hi
  simp [hi]
theorem nx_xor' (a b : Nat) : nI a ^^^ nI b = nI (a ^^^ b) := by
  apply Int32.toBitVec_inj.1
  show BitVec.ofNat 32 a ^^^ BitVec.ofNat 32 b = BitVec.ofNat 32 (a ^^^ b)
  apply BitVec.eq_of_getLsbD_eq
  intro i hi
  simp [hi]
theorem ndf_bit (a b i : Nat) : (ndf a b).testBit i = (a.testBit i && !b.testBit i) := by
  unfold ndf
  rw [Nat.testBit_xor, Nat.testBit_and]
  cases a.testBit i <;> cases b.testBit i <;> rfl
theorem nx_ndf (a b : Nat) : nI a &&& (nI b ^^^ (-1)) = nI (ndf a b) := by
  apply Int32.toBitVec_inj.1
  show BitVec.ofNat 32 a &&& (BitVec.ofNat 32 b ^^^ (-1 : Int32).toBitVec) = BitVec.ofNat 32 (ndf a b)
  have e : (-1 : Int32).toBitVec = BitVec.allOnes 32 := by decide
  rw [e]
  apply BitVec.eq_of_getLsbD_eq
  intro i hi
  rw [BitVec.getLsbD_and, BitVec.getLsbD_xor, BitVec.getLsbD_ofNat, BitVec.getLsbD_ofNat, BitVec.getLsbD_ofNat, BitVec.getLsbD_allOnes, ndf_bit]
  simp [hi]
theorem s_l' : ∀ n, n < 32 → ((nI n &&& 31).toBitVec.smod 32).toNat = n := by decide +kernel
theorem nx_shr {a k : Nat} (ha : a < 2 ^ 31) (hk : k < 32) : nI a >>> (nI k &&& 31) = nI (a >>> k) := by
  rw [pk_shrN ha _ k (s_l' k hk), Nat.shiftRight_eq_div_pow]
theorem nx_shl1 {k : Nat} (hk : k < 32) : nI 1 <<< (nI k &&& 31) = nI (2 ^ k) := by
  rw [pk_shlN _ k (s_l' k hk) (by rw [Nat.one_mul]; exact Nat.pow_lt_pow_right (by decide) hk), Nat.one_mul]
theorem shr_bit (a k : Nat) : (a >>> k) &&& 1 = (bm a k).toNat := by
  show _ = (a.testBit k).toNat
  rw [Nat.testBit, Nat.and_one_is_mod]
  have h : (1 &&& (a >>> k)) = (a >>> k) % 2 := by rw [Nat.and_comm, Nat.and_one_is_mod]
  rw [h]
  rcases Nat.mod_two_eq_zero_or_one (a >>> k) with q | q <;> rw [q] <;> rfl
theorem bmT {b : Bool} : b.toNat = 1 ↔ b = true := by cases b <;> simp
theorem bmF {b : Bool} : b.toNat = 0 ↔ b = false := by cases b <;> simp
theorem bt31 (b : Bool) : b.toNat < 2 ^ 31 := by cases b <;> decide
section S22
variable {E : EnvT} {nL : Nat} {Q : State → Prop} {cells slots : Nat} {Φ : Heap → List Loc → Prop} {lv : List (Nat × Value)} {st : List Value} {pc : Nat} {cc : ByteArray} {own : String} {D : va_G} {cA : ClassId} {d mR sR a b k : Nat}
theorem s_iaddN (C : Cx E cc own nL D cA d mR sR) (dg : decode cc pc = .ok (.iadd, 1)) (kk : ST E nL Q cells slots Φ lv (.int (nI (a + b)) :: st) (pc + 1)) : ST E nL Q cells slots Φ lv (.int (nI b) :: .int (nI a) :: st) pc := s_iadd C dg (s_top (nI_add a b) kk)
theorem s_isubN (C : Cx E cc own nL D cA d mR sR) (dg : decode cc pc = .ok (.isub, 1)) (h : b ≤ a) (kk : ST E nL Q cells slots Φ lv (.int (nI (a - b)) :: st) (pc + 1)) : ST E nL Q cells slots Φ lv (.int (nI b) :: .int (nI a) :: st) pc := s_isub C dg (s_top (pk_sub h) kk)
theorem s_imulN (C : Cx E cc own nL D cA d mR sR) (dg : decode cc pc = .ok (.imul, 1)) (kk : ST E nL Q cells slots Φ lv (.int (nI (a * b)) :: st) (pc + 1)) : ST E nL Q cells slots Φ lv (.int (nI b) :: .int (nI a) :: st) pc := s_imul C dg (s_top (pk_mul a b) kk)
theorem s_iandN (C : Cx E cc own nL D cA d mR sR) (dg : decode cc pc = .ok (.iand, 1)) (kk : ST E nL Q cells slots Φ lv (.int (nI (a &&& b)) :: st) (pc + 1)) : ST E nL Q cells slots Φ lv (.int (nI b) :: .int (nI a) :: st) pc := s_iand C dg (s_top (nx_and' a b) kk)
theorem s_iorN (C : Cx E cc own nL D cA d mR sR) (dg : decode cc pc = .ok (.ior, 1)) (kk : ST E nL Q cells slots Φ lv (.int (nI (a ||| b)) :: st) (pc + 1)) : ST E nL Q cells slots Φ lv (.int (nI b) :: .int (nI a) :: st) pc := s_ior C dg (s_top (nx_or' a b) kk)
theorem s_ixorN (C : Cx E cc own nL D cA d mR sR) (dg : decode cc pc = .ok (.ixor, 1)) (kk : ST E nL Q cells slots Φ lv (.int (nI (a ^^^ b)) :: st) (pc + 1)) : ST E nL Q cells slots Φ lv (.int (nI b) :: .int (nI a) :: st) pc := s_ixor C dg (s_top (nx_xor' a b) kk)
theorem s_shl1 (C : Cx E cc own nL D cA d mR sR) (dg : decode cc pc = .ok (.ishl, 1)) (h : k < 32) (kk : ST E nL Q cells slots Φ lv (.int (nI (2 ^ k)) :: st) (pc + 1)) : ST E nL Q cells slots Φ lv (.int (nI k) :: .int (nI 1) :: st) pc := s_ishl C dg (s_top (nx_shl1 h) kk)
theorem s_ishrN (C : Cx E cc own nL D cA d mR sR) (dg : decode cc pc = .ok (.ishr, 1)) (ha : a < 2 ^ 31) (h : k < 32) (kk : ST E nL Q cells slots Φ lv (.int (nI (a >>> k)) :: st) (pc + 1)) : ST E nL Q cells slots Φ lv (.int (nI k) :: .int (nI a) :: st) pc := s_ishr C dg (s_top (nx_shr ha h) kk)
theorem s_bitN (C : Cx E cc own nL D cA d mR sR) (dg : decode cc pc = .ok (.iand, 1)) (kk : ST E nL Q cells slots Φ lv (.int (nI (bm a k).toNat) :: st) (pc + 1)) : ST E nL Q cells slots Φ lv (.int (nI 1) :: .int (nI (a >>> k)) :: st) pc := s_iand C dg (s_top (by rw [nx_and', shr_bit]) kk)
theorem s_idivN (C : Cx E cc own nL D cA d mR sR) (dg : decode cc pc = .ok (.idiv, 1)) (ha : a < 2 ^ 31) (hb : 0 < b) (hb2 : b < 2 ^ 31) (kk : ST E nL Q cells slots Φ lv (.int (nI (a / b)) :: st) (pc + 1)) : ST E nL Q cells slots Φ lv (.int (nI b) :: .int (nI a) :: st) pc := s_idiv C dg (nI_ne0 hb hb2) (s_top (pk_div ha hb hb2) kk)
theorem s_andnot (C : Cx E cc own nL D cA d mR sR) (dg : decode cc pc = .ok (.iand, 1)) (kk : ST E nL Q cells slots Φ lv (.int (nI (ndf a b)) :: st) (pc + 1)) : ST E nL Q cells slots Φ lv (.int (nI b ^^^ (-1)) :: .int (nI a) :: st) pc := s_iand C dg (s_top (nx_ndf a b) kk)
end S22
/-! arrays of numbers -/
def aN (f : Nat → Nat) : Nat → Int32 := fun j => nI (f j)
def nup (f : Nat → Nat) (k x : Nat) : Nat → Nat := fun j => if j = k then x else f j
theorem aN_up (f : Nat → Nat) (k x : Nat) : upd (aN f) k (nI x) = aN (nup f k x) := by
  funext j
  unfold upd aN nup
  by_cases h : j = k
  · simp [h]
  · simp [h]
theorem nup_s (f : Nat → Nat) (k x : Nat) : nup f k x k = x := if_pos rfl
theorem nup_n {f : Nat → Nat} {k x j : Nat} (h : j ≠ k) : nup f k x j = f j := if_neg h
theorem aN_0 : (fun _ => (0 : Int32)) = aN (fun _ => 0) := by
  funext j
  exact nI_0.symm
theorem vp_cg {cA : ClassId} {n : Nat} {f g : Nat → Int32} (h : ∀ j, j < n → f j = g j) : vp_cell cA (n, .inl f) = vp_cell cA (n, .inl g) := by
  show arrV cA n (fun j => .int (f j)) = arrV cA n (fun j => .int (g j))
  unfold arrV
  congr 2
  funext j
  show Value.int (f j.val) = Value.int (g j.val)
  rw [h j.val j.isLt]
section S23
variable {E : EnvT} {nL : Nat} {Q : State → Prop} {cells slots : Nat} {lv : List (Nat × Value)} {st : List Value} {pc : Nat} {cc : ByteArray} {own : String} {D : va_G} {cA : ClassId} {d mR sR : Nat}
theorem s_arr {A : Nat → Prop} {ws : va_W} {a n : Nat} {f : Nat → Int32} (g : Nat → Int32) (q0 : Nat) (ws' : va_W) (ha : ws[q0]? = some (a, .inl (cA, n, .inl f))) (h : ∀ j, j < n → f j = g j) (hw : ws.set q0 (a, .inl (cA, n, .inl g)) = ws') (k : ST E nL Q cells slots (wf E A D ws') lv st pc) : ST E nL Q cells slots (wf E A D ws) lv st pc := by
  intro H locs ls hq hl
  refine k H locs ls ⟨?_, ?_, hq.2.2⟩ hl
  · rw [← hw]
    refine hq.1.set hq.2.1 ha ?_ (fun _ _ => rfl)
    have h0 : H[a]? = some (vp_cell cA (n, .inl f)) := hq.1 q0 _ ha
    show H[a]? = some (vp_cell cA (n, .inl g))
    rw [h0, vp_cg h]
  · rw [← hw]
    exact hq.2.1.set ha
theorem s_iastN {A : Nat → Prop} {ws : va_W} {a n j x : Nat} {f : Nat → Nat} (q0 : Nat) (ws' : va_W) (C : Cx E cc own nL D cA d mR sR) (dg : decode cc pc = .ok (.iastore, 1)) (ha : ws[q0]? = some (a, .inl (cA, n, .inl (aN f)))) (hj : j < n) (hn : n < 2 ^ 31) (hw : ws.set q0 (a, .inl (cA, n, .inl (aN (nup f j x)))) = ws')
    (kk : ST E nL Q cells slots (wf E A D ws') lv st (pc + 1)) : ST E nL Q cells slots (wf E A D ws) lv (.int (nI x) :: .int (nI j) :: .ref a :: st) pc :=
  s_iast q0 _ C dg ha hj hn rfl (by rw [aN_up, hw]; exact kk)
theorem s_ialdN {Φ : Heap → List Loc → Prop} {ws : va_W} {a n j : Nat} {f : Nat → Nat} (q0 : Nat) (C : Cx E cc own nL D cA d mR sR) (hΦ : ∀ H locs, Φ H locs → va_P D cls ws H) (dg : decode cc pc = .ok (.iaload, 1)) (ha : ws[q0]? = some (a, .inl (cA, n, .inl (aN f)))) (hj : j < n) (hn : n < 2 ^ 31)
    (kk : ST E nL Q cells slots Φ lv (.int (nI (f j)) :: st) (pc + 1)) : ST E nL Q cells slots Φ lv (.int (nI j) :: .ref a :: st) pc :=
  s_iald q0 C hΦ dg ha hj hn kk
end S23
/-- a number that is a place below n -/
def inR (x : Int32) (n : Nat) : Prop := ∃ j : Nat, j < n ∧ x = nI j
theorem inR_no1 {x : Int32} {n : Nat} (h : x < 0) (hn : n < 2 ^ 31) : ¬ inR x n := by
  rintro ⟨j, hj, rfl⟩
  exact nI_pos (by omega) h
theorem inR_no2 {x : Int32} {n : Nat} (h : nI n ≤ x) (hn : n < 2 ^ 31) : ¬ inR x n := by
  rintro ⟨j, hj, rfl⟩
  exact nI_ge hj hn h
theorem inR_yes {x : Int32} {n : Nat} (h : ¬ x < 0) (h2 : ¬ nI n ≤ x) (hn : n < 2 ^ 31) : inR x n := by
  rcases pk_ix x hn with q | q | q
  · exact absurd q h
  · exact absurd q h2
  · exact q
end
section
set_option maxHeartbeats 4000000 in
set_option maxRecDepth 100000 in
/-- is x a place below the count -/
theorem kG_hasVertex (l : Launch) (D : va_G) (cA : ClassId) (g a1 a2 a3 n m : Nat) (x : Int32) (hn : n < 100) (hm : m < 100) : CtP l yG_hasVertex (.code yG_hasVertex cG_hasVertex 2 (some .boolean)) 0 D cA [.ref g, .int x] [(g, .inr (2, [.int (nI n), .int (nI m), .ref a1, .ref a2, .ref a3]))] (fun r => (r = nI 1 ∧ inR x n) ∨ (r = nI 0 ∧ ¬ inR x n)) := by
  refine mkP [(0, .ref g), (1, .int x)] (by decide) rfl (Nat.le_of_ble_eq_true rfl) ?_
  intro E Q hE C hret
  refine s_iload_n 1 C dG_hasVertex_0 rfl ?_
  refine s_if_lt 16 C dG_hasVertex_1 (by decide) (fun c1 => ?_) (fun c1 => ?_)
  · refine s_iconst (nI 0) C dG_hasVertex_16 (by decide) ?_
    exact hret _ _ _ dG_hasVertex_17 rfl (Or.inr ⟨rfl, inR_no1 c1 (by omega)⟩)
  · refine s_iload_n 1 C dG_hasVertex_4 rfl ?_
    refine s_aload_n 0 C dG_hasVertex_5 rfl ?_
    refine s_get (.int (nI n)) 0 0 C pfP inG flG_9 dG_hasVertex_6 rfl rfl (by decide) rfl ?_
    refine s_icmp_ge 16 C dG_hasVertex_9 (by decide) (fun c2 => ?_) (fun c2 => ?_)
    · refine s_iconst (nI 0) C dG_hasVertex_16 (by decide) ?_
      exact hret _ _ _ dG_hasVertex_17 rfl (Or.inr ⟨rfl, inR_no2 c2 (by omega)⟩)
    · refine s_iconst (nI 1) C dG_hasVertex_12 (by decide) ?_
      refine s_goto (tgt := 17) C dG_hasVertex_13 (by decide) ?_
      exact hret _ _ _ dG_hasVertex_17 rfl (Or.inl ⟨rfl, inR_yes c1 c2 (by omega)⟩)
set_option maxHeartbeats 4000000 in
set_option maxRecDepth 100000 in
/-- is x a place below the count -/
theorem kG_hasEdge (l : Launch) (D : va_G) (cA : ClassId) (g a1 a2 a3 n m : Nat) (x : Int32) (hn : n < 100) (hm : m < 100) : CtP l yG_hasEdge (.code yG_hasEdge cG_hasEdge 2 (some .boolean)) 0 D cA [.ref g, .int x] [(g, .inr (2, [.int (nI n), .int (nI m), .ref a1, .ref a2, .ref a3]))] (fun r => (r = nI 1 ∧ inR x m) ∨ (r = nI 0 ∧ ¬ inR x m)) := by
  refine mkP [(0, .ref g), (1, .int x)] (by decide) rfl (Nat.le_of_ble_eq_true rfl) ?_
  intro E Q hE C hret
  refine s_iload_n 1 C dG_hasEdge_0 rfl ?_
  refine s_if_lt 16 C dG_hasEdge_1 (by decide) (fun c1 => ?_) (fun c1 => ?_)
  · refine s_iconst (nI 0) C dG_hasEdge_16 (by decide) ?_
    exact hret _ _ _ dG_hasEdge_17 rfl (Or.inr ⟨rfl, inR_no1 c1 (by omega)⟩)
  · refine s_iload_n 1 C dG_hasEdge_4 rfl ?_
    refine s_aload_n 0 C dG_hasEdge_5 rfl ?_
    refine s_get (.int (nI m)) 0 1 C pfP inG flG_25 dG_hasEdge_6 rfl rfl (by decide) rfl ?_
    refine s_icmp_ge 16 C dG_hasEdge_9 (by decide) (fun c2 => ?_) (fun c2 => ?_)
    · refine s_iconst (nI 0) C dG_hasEdge_16 (by decide) ?_
      exact hret _ _ _ dG_hasEdge_17 rfl (Or.inr ⟨rfl, inR_no2 c2 (by omega)⟩)
    · refine s_iconst (nI 1) C dG_hasEdge_12 (by decide) ?_
      refine s_goto (tgt := 17) C dG_hasEdge_13 (by decide) ?_
      exact hret _ _ _ dG_hasEdge_17 rfl (Or.inl ⟨rfl, inR_yes c1 c2 (by omega)⟩)
set_option maxHeartbeats 4000000 in
set_option maxRecDepth 100000 in
/-- how many edges of the set the vertex has -/
theorem kG_degree (l : Launch) (D : va_G) (cA : ClassId) (g a1 a2 a3 n m v s : Nat) (fi se : Nat → Nat) (hm : m ≤ 14) (hv : v < 100) (hs : s < 2 ^ 14) (hfi : ∀ e, e < m → fi e < 100) (hse : ∀ e, e < m → se e < 100) : CtP l yG_degree (.code yG_degree cG_degree 5 (some .int)) 0 D cA [.ref g, .int (nI v), .int (nI s)] [(g, .inr (2, [.int (nI n), .int (nI m), .ref a1, .ref a2, .ref a3])), (a1, .inl (cA, 14, .inl (aN fi))), (a2, .inl (cA, 14, .inl (aN se)))] (fun r => r = nI (hdg fi se m (bm s) v)) := by
  refine mkP [(0, .ref g), (1, .int (nI v)), (2, .int (nI s))] (by decide) rfl (Nat.le_of_ble_eq_true rfl) ?_
  intro E Q hE C hret
  refine s_iconst (nI 0) C dG_degree_0 (by decide) ?_
  refine s_istore_n [(0, .ref g), (1, .int (nI v)), (2, .int (nI s)), (3, .int (nI 0))] [1, 2, 3, 0] C dG_degree_1 (by decide) rfl ?_
  refine s_iconst (nI 0) C dG_degree_2 (by decide) ?_
  refine s_istore [(0, .ref g), (1, .int (nI v)), (2, .int (nI s)), (3, .int (nI 0)), (4, .int (nI 0))] [1, 2, 3, 4, 0] C dG_degree_3 (by decide) rfl ?_
  have loop : ∀ k i, i + k = m → ST E 5 Q 0 0 (pf E D [(g, .inr (2, [.int (nI n), .int (nI m), .ref a1, .ref a2, .ref a3])), (a1, .inl (cA, 14, .inl (aN fi))), (a2, .inl (cA, 14, .inl (aN se)))]) [(0, .ref g), (1, .int (nI v)), (2, .int (nI s)), (3, .int (nI (su (fun j => (bm s j).toNat * hin fi se j v) i))), (4, .int (nI i))] [] 5 := by
    intro k
    induction k with
    | zero =>
      intro i hi
      refine s_iload 4 C dG_degree_5 rfl ?_
      refine s_aload_n 0 C dG_degree_7 rfl ?_
      refine s_get (.int (nI m)) 0 1 C pfP inG flG_25 dG_degree_8 rfl rfl (by decide) rfl ?_
      refine s_icmp_geN 55 C dG_degree_11 (by decide) (by omega) (by omega) (fun c1 => ?_) (fun c1 => ?_)
      · refine s_iload_n 3 C dG_degree_55 rfl ?_
        have e : i = m := by omega
        subst e
        exact hret _ _ _ dG_degree_56 rfl rfl
      · exact absurd c1 (by omega)
    | succ k ih =>
      intro i hi
      have hsu : su (fun j => (bm s j).toNat * hin fi se j v) (i + 1) = su (fun j => (bm s j).toNat * hin fi se j v) i + (bm s i).toNat * hin fi se i v := rfl
      have hle : su (fun j => (bm s j).toNat * hin fi se j v) i ≤ i := by
        have : ∀ q, su (fun j => (bm s j).toNat * hin fi se j v) q ≤ q := by
          intro q
          induction q with
          | zero => exact Nat.le_refl _
          | succ q ih2 =>
            show su (fun j => (bm s j).toNat * hin fi se j v) q + (bm s q).toNat * hin fi se q v ≤ q + 1
            have a1 := Bool.toNat_le (bm s q)
            have a2 : hin fi se q v ≤ 1 := by unfold hin; split <;> omega
            have := Nat.mul_le_mul a1 a2
            omega
        exact this i
      refine s_iload 4 C dG_degree_5 rfl ?_
      refine s_aload_n 0 C dG_degree_7 rfl ?_
      refine s_get (.int (nI m)) 0 1 C pfP inG flG_25 dG_degree_8 rfl rfl (by decide) rfl ?_
      refine s_icmp_geN 55 C dG_degree_11 (by decide) (by omega) (by omega) (fun c1 => ?_) (fun c1 => ?_)
      · exact absurd c1 (by omega)
      · have f1 := hfi i c1
        have f2 := hse i c1
        refine s_iload_n 2 C dG_degree_14 rfl ?_
        refine s_iload 4 C dG_degree_15 rfl ?_
        refine s_ishrN C dG_degree_17 (by omega) (by omega) ?_
        refine s_iconst (nI 1) C dG_degree_18 (by decide) ?_
        refine s_bitN C dG_degree_19 ?_
        refine s_iconst (nI 1) C dG_degree_20 (by decide) ?_
        refine s_icmp_neN 49 C dG_degree_21 (by decide) (bt31 _) (by decide) (fun c2 => ?_) (fun c2 => ?_)
        · have c3 : bm s i = false := by
            cases h : bm s i with
            | false => rfl
            | true => rw [h] at c2; exact absurd rfl c2
          have e : su (fun j => (bm s j).toNat * hin fi se j v) (i + 1) = su (fun j => (bm s j).toNat * hin fi se j v) i + 0 := by
            rw [hsu, c3]; simp
          refine s_iinc (j := 4) (nI (i + 1)) [(0, .ref g), (1, .int (nI v)), (2, .int (nI s)), (3, .int (nI (su (fun j => (bm s j).toNat * hin fi se j v) i))), (4, .int (nI (i + 1)))] [1, 2, 3, 4, 0] C dG_degree_49 rfl (inc1 _) (by decide) rfl ?_
          refine s_goto (tgt := 5) C dG_degree_52 (by decide) ?_
          have := ih (i + 1) (by omega)
          rw [e] at this
          exact this
        · have c3 : bm s i = true := bmT.mp c2
          refine s_aload_n 0 C dG_degree_24 rfl ?_
          refine s_get (.ref a1) 0 2 C pfP inG flG_15 dG_degree_25 rfl rfl (by decide) rfl ?_
          refine s_iload 4 C dG_degree_28 rfl ?_
          refine s_ialdN 1 C pfP dG_degree_30 rfl (by omega) (by decide) ?_
          refine s_iload_n 1 C dG_degree_31 rfl ?_
          refine s_icmp_eqN 46 C dG_degree_32 (by decide) (by omega) (by omega) (fun c4 => ?_) (fun c4 => ?_)
          · refine s_iinc (j := 3) (nI (su (fun j => (bm s j).toNat * hin fi se j v) i + 1)) [(0, .ref g), (1, .int (nI v)), (2, .int (nI s)), (3, .int (nI (su (fun j => (bm s j).toNat * hin fi se j v) i + 1))), (4, .int (nI i))] [1, 2, 3, 0, 4] C dG_degree_46 rfl (inc1 _) (by decide) rfl ?_
            refine s_iinc (j := 4) (nI (i + 1)) [(0, .ref g), (1, .int (nI v)), (2, .int (nI s)), (3, .int (nI (su (fun j => (bm s j).toNat * hin fi se j v) i + 1))), (4, .int (nI (i + 1)))] [1, 2, 3, 4, 0] C dG_degree_49 rfl (inc1 _) (by decide) rfl ?_
            refine s_goto (tgt := 5) C dG_degree_52 (by decide) ?_
            have e : su (fun j => (bm s j).toNat * hin fi se j v) (i + 1) = su (fun j => (bm s j).toNat * hin fi se j v) i + 1 := by
              rw [hsu, c3, hin_or (Or.inl c4)]; rfl
            have := ih (i + 1) (by omega)
            rw [e] at this
            exact this
          · refine s_aload_n 0 C dG_degree_35 rfl ?_
            refine s_get (.ref a2) 0 3 C pfP inG flG_19 dG_degree_36 rfl rfl (by decide) rfl ?_
            refine s_iload 4 C dG_degree_39 rfl ?_
            refine s_ialdN 2 C pfP dG_degree_41 rfl (by omega) (by decide) ?_
            refine s_iload_n 1 C dG_degree_42 rfl ?_
            refine s_icmp_neN 49 C dG_degree_43 (by decide) (by omega) (by omega) (fun c5 => ?_) (fun c5 => ?_)
            · have e : su (fun j => (bm s j).toNat * hin fi se j v) (i + 1) = su (fun j => (bm s j).toNat * hin fi se j v) i + 0 := by
                rw [hsu, c3, hin_no (by rintro (h | h); exact c4 h; exact c5 h)]; rfl
              refine s_iinc (j := 4) (nI (i + 1)) [(0, .ref g), (1, .int (nI v)), (2, .int (nI s)), (3, .int (nI (su (fun j => (bm s j).toNat * hin fi se j v) i))), (4, .int (nI (i + 1)))] [1, 2, 3, 4, 0] C dG_degree_49 rfl (inc1 _) (by decide) rfl ?_
              refine s_goto (tgt := 5) C dG_degree_52 (by decide) ?_
              have := ih (i + 1) (by omega)
              rw [e] at this
              exact this
            · refine s_iinc (j := 3) (nI (su (fun j => (bm s j).toNat * hin fi se j v) i + 1)) [(0, .ref g), (1, .int (nI v)), (2, .int (nI s)), (3, .int (nI (su (fun j => (bm s j).toNat * hin fi se j v) i + 1))), (4, .int (nI i))] [1, 2, 3, 0, 4] C dG_degree_46 rfl (inc1 _) (by decide) rfl ?_
              refine s_iinc (j := 4) (nI (i + 1)) [(0, .ref g), (1, .int (nI v)), (2, .int (nI s)), (3, .int (nI (su (fun j => (bm s j).toNat * hin fi se j v) i + 1))), (4, .int (nI (i + 1)))] [1, 2, 3, 4, 0] C dG_degree_49 rfl (inc1 _) (by decide) rfl ?_
              refine s_goto (tgt := 5) C dG_degree_52 (by decide) ?_
              have e : su (fun j => (bm s j).toNat * hin fi se j v) (i + 1) = su (fun j => (bm s j).toNat * hin fi se j v) i + 1 := by
                rw [hsu, c3, hin_or (Or.inr c5)]; rfl
              have := ih (i + 1) (by omega)
              rw [e] at this
              exact this
  exact loop m 0 (by omega)
end
section
theorem lt_up (f g : Nat → Nat) (i : Nat) : nup (fun j => if j < i then f j else g j) i (f i) = (fun j => if j < i + 1 then f j else g j) := by
  funext j
  unfold nup
  by_cases q : j = i
  · subst q; rw [if_pos rfl, if_pos (by omega)]
  · rw [if_neg q]
    show (if j < i then f j else g j) = _
    by_cases r : j < i
    · rw [if_pos r, if_pos (by omega)]
    · rw [if_neg r, if_neg (by omega)]
set_option maxHeartbeats 4000000 in
set_option maxRecDepth 100000 in
/-- all that is asked -/
theorem kG_wantedByAll (l : Launch) (D : va_G) (cA : ClassId) (g a1 a2 a3 n m : Nat) (wa : Nat → Nat) (hn : n ≤ 9) (hw : ∀ v, v < 9 → wa v ≤ 14) : CtP l yG_wantedByAll (.code yG_wantedByAll cG_wantedByAll 3 (some .int)) 0 D cA [.ref g] [(g, .inr (2, [.int (nI n), .int (nI m), .ref a1, .ref a2, .ref a3])), (a3, .inl (cA, 9, .inl (aN wa)))] (fun r => r = nI (su wa n)) := by
  refine mkP [(0, .ref g)] (by decide) rfl (Nat.le_of_ble_eq_true rfl) ?_
  intro E Q hE C hret
  refine s_iconst (nI 0) C dG_wantedByAll_0 (by decide) ?_
  refine s_istore_n [(0, .ref g), (1, .int (nI 0))] [1, 0] C dG_wantedByAll_1 (by decide) rfl ?_
  refine s_iconst (nI 0) C dG_wantedByAll_2 (by decide) ?_
  refine s_istore_n [(0, .ref g), (1, .int (nI 0)), (2, .int (nI 0))] [1, 2, 0] C dG_wantedByAll_3 (by decide) rfl ?_
  have loop : ∀ k i, i + k = n → ST E 3 Q 0 0 (pf E D [(g, .inr (2, [.int (nI n), .int (nI m), .ref a1, .ref a2, .ref a3])), (a3, .inl (cA, 9, .inl (aN wa)))]) [(0, .ref g), (1, .int (nI (su wa i))), (2, .int (nI i))] [] 4 := by
    intro k
    induction k with
    | zero =>
      intro i hi
      refine s_iload_n 2 C dG_wantedByAll_4 rfl ?_
      refine s_aload_n 0 C dG_wantedByAll_5 rfl ?_
      refine s_get (.int (nI n)) 0 0 C pfP inG flG_9 dG_wantedByAll_6 rfl rfl (by decide) rfl ?_
      refine s_icmp_geN 27 C dG_wantedByAll_9 (by decide) (by omega) (by omega) (fun c1 => ?_) (fun c1 => ?_)
      · refine s_iload_n 1 C dG_wantedByAll_27 rfl ?_
        have e : i = n := by omega
        subst e
        exact hret _ _ _ dG_wantedByAll_28 rfl rfl
      · exact absurd c1 (by omega)
    | succ k ih =>
      intro i hi
      refine s_iload_n 2 C dG_wantedByAll_4 rfl ?_
      refine s_aload_n 0 C dG_wantedByAll_5 rfl ?_
      refine s_get (.int (nI n)) 0 0 C pfP inG flG_9 dG_wantedByAll_6 rfl rfl (by decide) rfl ?_
      refine s_icmp_geN 27 C dG_wantedByAll_9 (by decide) (by omega) (by omega) (fun c1 => ?_) (fun c1 => ?_)
      · exact absurd c1 (by omega)
      · refine s_iload_n 1 C dG_wantedByAll_12 rfl ?_
        refine s_aload_n 0 C dG_wantedByAll_13 rfl ?_
        refine s_get (.ref a3) 0 4 C pfP inG flG_22 dG_wantedByAll_14 rfl rfl (by decide) rfl ?_
        refine s_iload_n 2 C dG_wantedByAll_17 rfl ?_
        refine s_ialdN 1 C pfP dG_wantedByAll_18 rfl (by omega) (by decide) ?_
        refine s_iaddN C dG_wantedByAll_19 ?_
        refine s_istore_n [(0, .ref g), (1, .int (nI (su wa i + (wa i)))), (2, .int (nI i))] [1, 0, 2] C dG_wantedByAll_20 (by decide) rfl ?_
        refine s_iinc (j := 2) (nI (i + 1)) [(0, .ref g), (1, .int (nI (su wa i + (wa i)))), (2, .int (nI (i + 1)))] [1, 2, 0] C dG_wantedByAll_21 rfl (inc1 _) (by decide) rfl ?_
        refine s_goto (tgt := 4) C dG_wantedByAll_24 (by decide) ?_
        exact ih (i + 1) (by omega)
  exact loop n 0 (by omega)
set_option maxHeartbeats 4000000 in
set_option maxRecDepth 100000 in
/-- a new graph of t vertices -/
theorem kG_clear (l : Launch) (D : va_G) (cA : ClassId) (g a1 a2 a3 n m t : Nat) (wa : Nat → Nat) : CtV (S := Unit) l yG_clear (.code yG_clear cG_clear 3 none) 0 0 0 D cA [.ref g, .int (nI t)] [(g, .inr (2, [.int (nI n), .int (nI m), .ref a1, .ref a2, .ref a3])), (a3, .inl (cA, 9, .inl (aN wa)))] (fun _ => True) (fun _ => [(g, .inr (2, [.int (nI t), .int (nI 0), .ref a1, .ref a2, .ref a3])), (a3, .inl (cA, 9, .inl (aN (fun _ => 0))))]) := by
  refine mkV [(0, .ref g), (1, .int (nI t))] (by decide) rfl (Nat.le_of_ble_eq_true rfl) ?_
  intro E A Q hE hi C hA hret
  refine s_aload_n 0 C dG_clear_0 rfl ?_
  refine s_iload_n 1 C dG_clear_1 rfl ?_
  refine s_put 0 0 [(g, .inr (2, [.int (nI t), .int (nI m), .ref a1, .ref a2, .ref a3])), (a3, .inl (cA, 9, .inl (aN wa)))] C inG tyG_ok nmG flG_9 dG_clear_2 rfl rfl (by decide) rfl rfl rfl (Nat.le_of_ble_eq_true rfl) rfl ?_
  refine s_aload_n 0 C dG_clear_5 rfl ?_
  refine s_iconst (nI 0) C dG_clear_6 (by decide) ?_
  refine s_put 0 1 [(g, .inr (2, [.int (nI t), .int (nI 0), .ref a1, .ref a2, .ref a3])), (a3, .inl (cA, 9, .inl (aN wa)))] C inG tyG_ok nmG flG_25 dG_clear_7 rfl rfl (by decide) rfl rfl rfl (Nat.le_of_ble_eq_true rfl) rfl ?_
  refine s_iconst (nI 0) C dG_clear_10 (by decide) ?_
  refine s_istore_n [(0, .ref g), (1, .int (nI t)), (2, .int (nI 0))] [1, 2, 0] C dG_clear_11 (by decide) rfl ?_
  have loop : ∀ k i, i + k = 9 → ST E 3 Q 0 0 (wf E A D [(g, .inr (2, [.int (nI t), .int (nI 0), .ref a1, .ref a2, .ref a3])), (a3, .inl (cA, 9, .inl (aN (fun j => if j < i then 0 else wa j))))]) [(0, .ref g), (1, .int (nI t)), (2, .int (nI i))] [] 12 := by
    intro k
    induction k with
    | zero =>
      intro i hi
      refine s_iload_n 2 C dG_clear_12 rfl ?_
      refine s_bipush (nI 9) C dG_clear_13 (by decide) ?_
      refine s_icmp_geN 31 C dG_clear_15 (by decide) (by omega) (by omega) (fun c1 => ?_) (fun c1 => ?_)
      · have e : i = 9 := by omega
        subst e
        refine s_arr (aN (fun _ => 0)) 1 [(g, .inr (2, [.int (nI t), .int (nI 0), .ref a1, .ref a2, .ref a3])), (a3, .inl (cA, 9, .inl (aN (fun _ => 0))))] rfl (fun j hj => ?_) rfl ?_
        · show nI (if j < 9 then 0 else wa j) = nI 0
          rw [if_pos hj]
        exact hret () _ _ dG_clear_31 trivial
      · exact absurd c1 (by omega)
    | succ k ih =>
      intro i hi
      refine s_iload_n 2 C dG_clear_12 rfl ?_
      refine s_bipush (nI 9) C dG_clear_13 (by decide) ?_
      refine s_icmp_geN 31 C dG_clear_15 (by decide) (by omega) (by omega) (fun c1 => ?_) (fun c1 => ?_)
      · exact absurd c1 (by omega)
      · refine s_aload_n 0 C dG_clear_18 rfl ?_
        refine s_get (.ref a3) 0 4 C wfP inG flG_22 dG_clear_19 rfl rfl (by decide) rfl ?_
        refine s_iload_n 2 C dG_clear_22 rfl ?_
        refine s_iconst (nI 0) C dG_clear_23 (by decide) ?_
        refine s_iastN 1 [(g, .inr (2, [.int (nI t), .int (nI 0), .ref a1, .ref a2, .ref a3])), (a3, .inl (cA, 9, .inl (aN (nup (fun j => if j < i then 0 else wa j) i 0))))] C dG_clear_24 rfl (by omega) (by decide) rfl ?_
        refine s_iinc (j := 2) (nI (i + 1)) [(0, .ref g), (1, .int (nI t)), (2, .int (nI (i + 1)))] [1, 2, 0] C dG_clear_25 rfl (inc1 _) (by decide) rfl ?_
        refine s_goto (tgt := 12) C dG_clear_28 (by decide) ?_
        have e : nup (fun j => if j < i then 0 else wa j) i 0 = (fun j => if j < i + 1 then 0 else wa j) := lt_up (fun _ => 0) wa i
        rw [e]
        exact ih (i + 1) (by omega)
  have e0 : wa = (fun j => if j < 0 then 0 else wa j) := by
    funext j
    rw [if_neg (by omega)]
  have h0 := loop 9 0 (by omega)
  rw [← e0] at h0
  exact h0
set_option maxHeartbeats 4000000 in
set_option maxRecDepth 100000 in
/-- one more edge -/
theorem kG_append (l : Launch) (D : va_G) (cA : ClassId) (g a1 a2 a3 n m a b : Nat) (fi se : Nat → Nat) (hm : m < 14) : CtV (S := Unit) l yG_append (.code yG_append cG_append 3 none) 0 0 0 D cA [.ref g, .int (nI a), .int (nI b)] [(g, .inr (2, [.int (nI n), .int (nI m), .ref a1, .ref a2, .ref a3])), (a1, .inl (cA, 14, .inl (aN fi))), (a2, .inl (cA, 14, .inl (aN se)))] (fun _ => True) (fun _ => [(g, .inr (2, [.int (nI n), .int (nI (m + 1)), .ref a1, .ref a2, .ref a3])), (a1, .inl (cA, 14, .inl (aN (nup fi m a)))), (a2, .inl (cA, 14, .inl (aN (nup se m b))))]) := by
  refine mkV [(0, .ref g), (1, .int (nI a)), (2, .int (nI b))] (by decide) rfl (Nat.le_of_ble_eq_true rfl) ?_
  intro E A Q hE hi C hA hret
  refine s_aload_n 0 C dG_append_0 rfl ?_
  refine s_get (.ref a1) 0 2 C wfP inG flG_15 dG_append_1 rfl rfl (by decide) rfl ?_
  refine s_aload_n 0 C dG_append_4 rfl ?_
  refine s_get (.int (nI m)) 0 1 C wfP inG flG_25 dG_append_5 rfl rfl (by decide) rfl ?_
  refine s_iload_n 1 C dG_append_8 rfl ?_
  refine s_iastN 1 [(g, .inr (2, [.int (nI n), .int (nI m), .ref a1, .ref a2, .ref a3])), (a1, .inl (cA, 14, .inl (aN (nup fi m a)))), (a2, .inl (cA, 14, .inl (aN se)))] C dG_append_9 rfl (by omega) (by decide) rfl ?_
  refine s_aload_n 0 C dG_append_10 rfl ?_
  refine s_get (.ref a2) 0 3 C wfP inG flG_19 dG_append_11 rfl rfl (by decide) rfl ?_
  refine s_aload_n 0 C dG_append_14 rfl ?_
  refine s_get (.int (nI m)) 0 1 C wfP inG flG_25 dG_append_15 rfl rfl (by decide) rfl ?_
  refine s_iload_n 2 C dG_append_18 rfl ?_
  refine s_iastN 2 [(g, .inr (2, [.int (nI n), .int (nI m), .ref a1, .ref a2, .ref a3])), (a1, .inl (cA, 14, .inl (aN (nup fi m a)))), (a2, .inl (cA, 14, .inl (aN (nup se m b))))] C dG_append_19 rfl (by omega) (by decide) rfl ?_
  refine s_aload_n 0 C dG_append_20 rfl ?_
  refine s_dup C dG_append_21 rfl ?_
  refine s_get (.int (nI m)) 0 1 C wfP inG flG_25 dG_append_22 rfl rfl (by decide) rfl ?_
  refine s_iconst (nI 1) C dG_append_25 (by decide) ?_
  refine s_iaddN C dG_append_26 ?_
  refine s_put 0 1 [(g, .inr (2, [.int (nI n), .int (nI (m + 1)), .ref a1, .ref a2, .ref a3])), (a1, .inl (cA, 14, .inl (aN (nup fi m a)))), (a2, .inl (cA, 14, .inl (aN (nup se m b))))] C inG tyG_ok nmG flG_25 dG_append_27 rfl rfl (by decide) rfl rfl rfl (Nat.le_of_ble_eq_true rfl) rfl ?_
  exact hret () _ _ dG_append_30 trivial
theorem lt_rm (f : Nat → Nat) (e i : Nat) (h : e ≤ i) : nup (fun j => if e ≤ j ∧ j < i then f (j + 1) else f j) i (f (i + 1)) = (fun j => if e ≤ j ∧ j < i + 1 then f (j + 1) else f j) := by
  funext j
  unfold nup
  by_cases q : j = i
  · subst q; rw [if_pos rfl, if_pos (by omega)]
  · rw [if_neg q]
    show (if e ≤ j ∧ j < i then f (j + 1) else f j) = _
    by_cases r : e ≤ j ∧ j < i
    · rw [if_pos r, if_pos (by omega)]
    · rw [if_neg r, if_neg (by omega)]
set_option maxHeartbeats 4000000 in
set_option maxRecDepth 100000 in
/-- an edge goes -/
theorem kG_remove (l : Launch) (D : va_G) (cA : ClassId) (g a1 a2 a3 n m t : Nat) (fi se : Nat → Nat) (hm : m ≤ 14) (ht : t < m) : CtV (S := Unit) l yG_remove (.code yG_remove cG_remove 3 none) 0 0 0 D cA [.ref g, .int (nI t)] [(g, .inr (2, [.int (nI n), .int (nI m), .ref a1, .ref a2, .ref a3])), (a1, .inl (cA, 14, .inl (aN fi))), (a2, .inl (cA, 14, .inl (aN se)))] (fun _ => True) (fun _ => [(g, .inr (2, [.int (nI n), .int (nI (m - 1)), .ref a1, .ref a2, .ref a3])), (a1, .inl (cA, 14, .inl (aN (fun j => if t ≤ j ∧ j < m - 1 then fi (j + 1) else fi j)))), (a2, .inl (cA, 14, .inl (aN (fun j => if t ≤ j ∧ j < m - 1 then se (j + 1) else se j))))]) := by
  refine mkV [(0, .ref g), (1, .int (nI t))] (by decide) rfl (Nat.le_of_ble_eq_true rfl) ?_
  intro E A Q hE hi C hA hret
  refine s_aload_n 0 C dG_remove_0 rfl ?_
  refine s_dup C dG_remove_1 rfl ?_
  refine s_get (.int (nI m)) 0 1 C wfP inG flG_25 dG_remove_2 rfl rfl (by decide) rfl ?_
  refine s_iconst (nI 1) C dG_remove_5 (by decide) ?_
  refine s_isubN C dG_remove_6 (by omega) ?_
  refine s_put 0 1 [(g, .inr (2, [.int (nI n), .int (nI (m - 1)), .ref a1, .ref a2, .ref a3])), (a1, .inl (cA, 14, .inl (aN fi))), (a2, .inl (cA, 14, .inl (aN se)))] C inG tyG_ok nmG flG_25 dG_remove_7 rfl rfl (by decide) rfl rfl rfl (Nat.le_of_ble_eq_true rfl) rfl ?_
  refine s_iload_n 1 C dG_remove_10 rfl ?_
  refine s_istore_n [(0, .ref g), (1, .int (nI t)), (2, .int (nI t))] [1, 2, 0] C dG_remove_11 (by decide) rfl ?_
  have loop : ∀ k i, i + k = m - 1 → t ≤ i → ST E 3 Q 0 0 (wf E A D [(g, .inr (2, [.int (nI n), .int (nI (m - 1)), .ref a1, .ref a2, .ref a3])), (a1, .inl (cA, 14, .inl (aN (fun j => if t ≤ j ∧ j < i then fi (j + 1) else fi j)))), (a2, .inl (cA, 14, .inl (aN (fun j => if t ≤ j ∧ j < i then se (j + 1) else se j))))]) [(0, .ref g), (1, .int (nI t)), (2, .int (nI i))] [] 12 := by
    intro k
    induction k with
    | zero =>
      intro i hi hti
      refine s_iload_n 2 C dG_remove_12 rfl ?_
      refine s_aload_n 0 C dG_remove_13 rfl ?_
      refine s_get (.int (nI (m - 1))) 0 1 C wfP inG flG_25 dG_remove_14 rfl rfl (by decide) rfl ?_
      refine s_icmp_geN 54 C dG_remove_17 (by decide) (by omega) (by omega) (fun c1 => ?_) (fun c1 => ?_)
      · have e : i = m - 1 := by omega
        subst e
        exact hret () _ _ dG_remove_54 trivial
      · exact absurd c1 (by omega)
    | succ k ih =>
      intro i hi hti
      refine s_iload_n 2 C dG_remove_12 rfl ?_
      refine s_aload_n 0 C dG_remove_13 rfl ?_
      refine s_get (.int (nI (m - 1))) 0 1 C wfP inG flG_25 dG_remove_14 rfl rfl (by decide) rfl ?_
      refine s_icmp_geN 54 C dG_remove_17 (by decide) (by omega) (by omega) (fun c1 => ?_) (fun c1 => ?_)
      · exact absurd c1 (by omega)
      · refine s_aload_n 0 C dG_remove_20 rfl ?_
        refine s_get (.ref a1) 0 2 C wfP inG flG_15 dG_remove_21 rfl rfl (by decide) rfl ?_
        refine s_iload_n 2 C dG_remove_24 rfl ?_
        refine s_aload_n 0 C dG_remove_25 rfl ?_
        refine s_get (.ref a1) 0 2 C wfP inG flG_15 dG_remove_26 rfl rfl (by decide) rfl ?_
        refine s_iload_n 2 C dG_remove_29 rfl ?_
        refine s_iconst (nI 1) C dG_remove_30 (by decide) ?_
        refine s_iaddN C dG_remove_31 ?_
        refine s_ialdN 1 C wfP dG_remove_32 rfl (by omega) (by decide) ?_
        refine s_top (congrArg nI (if_neg (by omega) : (if t ≤ i + 1 ∧ i + 1 < i then fi (i + 1 + 1) else fi (i + 1)) = fi (i + 1))) ?_
        refine s_iastN 1 [(g, .inr (2, [.int (nI n), .int (nI (m - 1)), .ref a1, .ref a2, .ref a3])), (a1, .inl (cA, 14, .inl (aN (nup (fun j => if t ≤ j ∧ j < i then fi (j + 1) else fi j) i (fi (i + 1)))))), (a2, .inl (cA, 14, .inl (aN (fun j => if t ≤ j ∧ j < i then se (j + 1) else se j))))] C dG_remove_33 rfl (by omega) (by decide) rfl ?_
        refine s_aload_n 0 C dG_remove_34 rfl ?_
        refine s_get (.ref a2) 0 3 C wfP inG flG_19 dG_remove_35 rfl rfl (by decide) rfl ?_
        refine s_iload_n 2 C dG_remove_38 rfl ?_
        refine s_aload_n 0 C dG_remove_39 rfl ?_
        refine s_get (.ref a2) 0 3 C wfP inG flG_19 dG_remove_40 rfl rfl (by decide) rfl ?_
        refine s_iload_n 2 C dG_remove_43 rfl ?_
        refine s_iconst (nI 1) C dG_remove_44 (by decide) ?_
        refine s_iaddN C dG_remove_45 ?_
        refine s_ialdN 2 C wfP dG_remove_46 rfl (by omega) (by decide) ?_
        refine s_top (congrArg nI (if_neg (by omega) : (if t ≤ i + 1 ∧ i + 1 < i then se (i + 1 + 1) else se (i + 1)) = se (i + 1))) ?_
        refine s_iastN 2 [(g, .inr (2, [.int (nI n), .int (nI (m - 1)), .ref a1, .ref a2, .ref a3])), (a1, .inl (cA, 14, .inl (aN (nup (fun j => if t ≤ j ∧ j < i then fi (j + 1) else fi j) i (fi (i + 1)))))), (a2, .inl (cA, 14, .inl (aN (nup (fun j => if t ≤ j ∧ j < i then se (j + 1) else se j) i (se (i + 1))))))] C dG_remove_47 rfl (by omega) (by decide) rfl ?_
        refine s_iinc (j := 2) (nI (i + 1)) [(0, .ref g), (1, .int (nI t)), (2, .int (nI (i + 1)))] [1, 2, 0] C dG_remove_48 rfl (inc1 _) (by decide) rfl ?_
        refine s_goto (tgt := 12) C dG_remove_51 (by decide) ?_
        rw [lt_rm fi t i hti, lt_rm se t i hti]
        exact ih (i + 1) (by omega) (by omega)
  have e0 : ∀ f : Nat → Nat, f = (fun j => if t ≤ j ∧ j < t then f (j + 1) else f j) := by
    intro f
    funext j
    rw [if_neg (by omega)]
  have h0 := loop (m - 1 - t) t (by omega) (Nat.le_refl _)
  rw [← e0 fi, ← e0 se] at h0
  exact h0
set_option maxHeartbeats 4000000 in
set_option maxRecDepth 100000 in
/-- what is known goes -/
theorem kA_forget (l : Launch) (D : va_G) (cA : ClassId) (k : Nat) (so ta ex bs bc wu ww : Int32) : CtV (S := Unit) l yA_forget (.code yA_forget cA_forget 1 none) 0 0 0 D cA [.ref k] [(k, .inr (0, [.int so, .int ta, .int ex, .int bs, .int bc, .int wu, .int ww]))] (fun _ => True) (fun _ => [(k, .inr (0, [.int (nI 0), .int (nI 0), .int (nI 0), .int bs, .int bc, .int wu, .int ww]))]) := by
  refine mkV [(0, .ref k)] (by decide) rfl (Nat.le_of_ble_eq_true rfl) ?_
  intro E A Q hE hi C hA hret
  refine s_aload_n 0 C dA_forget_0 rfl ?_
  refine s_iconst (nI 0) C dA_forget_1 (by decide) ?_
  refine s_put 0 0 [(k, .inr (0, [.int (nI 0), .int ta, .int ex, .int bs, .int bc, .int wu, .int ww]))] C inA tyA_ok nmA flA_7 dA_forget_2 rfl rfl (by decide) rfl rfl rfl (Nat.le_of_ble_eq_true rfl) rfl ?_
  refine s_aload_n 0 C dA_forget_5 rfl ?_
  refine s_iconst (nI 0) C dA_forget_6 (by decide) ?_
  refine s_put 0 1 [(k, .inr (0, [.int (nI 0), .int (nI 0), .int ex, .int bs, .int bc, .int wu, .int ww]))] C inA tyA_ok nmA flA_13 dA_forget_7 rfl rfl (by decide) rfl rfl rfl (Nat.le_of_ble_eq_true rfl) rfl ?_
  refine s_aload_n 0 C dA_forget_10 rfl ?_
  refine s_iconst (nI 0) C dA_forget_11 (by decide) ?_
  refine s_put 0 2 [(k, .inr (0, [.int (nI 0), .int (nI 0), .int (nI 0), .int bs, .int bc, .int wu, .int ww]))] C inA tyA_ok nmA flA_16 dA_forget_12 rfl rfl (by decide) rfl rfl rfl (Nat.le_of_ble_eq_true rfl) rfl ?_
  exact hret () _ _ dA_forget_15 trivial
end
section
/-! what the search's rows need -/
theorem nI_one : nI 1 = 1 := by decide
theorem fc_int {g : Nat} (h : g < 2 ^ 30) : (nI g - 1).toInt = (g : Int) - 1 := by
  have := pk_sub_toInt (a := g) (b := 1) h (by decide)
  rw [nI_one] at this
  exact this
theorem fc_le {a g : Nat} (ha : a < 2 ^ 30) (hg : g < 2 ^ 30) : nI a ≤ nI g - 1 ↔ a < g := by
  rw [Int32.le_iff_toInt_le, fc_int hg, nI_toInt (by omega)]; omega
theorem fc_lt {a g : Nat} (ha : a < 2 ^ 30) (hg : g < 2 ^ 30) : nI g - 1 < nI a ↔ g ≤ a := by
  rw [Int32.lt_iff_toInt_lt, fc_int hg, nI_toInt (by omega)]; omega
theorem minI {a b : Nat} (ha : a < 2 ^ 31) (hb : b < 2 ^ 31) : (if nI b < nI a then nI b else nI a) = nI (min a b) := by
  by_cases h : b < a
  · rw [if_pos ((nI_ltI hb ha).mpr h), Nat.min_eq_right (by omega)]
  · rw [if_neg (fun q => h ((nI_ltI hb ha).mp q)), Nat.min_eq_left (by omega)]
theorem maxI {a b : Nat} (ha : a < 2 ^ 31) (hb : b < 2 ^ 31) : (if nI a < nI b then nI b else nI a) = nI (max a b) := by
  by_cases h : a < b
  · rw [if_pos ((nI_ltI ha hb).mpr h), Nat.max_eq_right (by omega)]
  · rw [if_neg (fun q => h ((nI_ltI ha hb).mp q)), Nat.max_eq_left (by omega)]
def twf (TW : Nat → Int32) (j : Nat) : Nat := if TW j < 0 then j else (TW j).toNatClampNeg
/-- the first of like edges, as the array of twins has them -/
def twOK (hd tl : Nat → Nat) (TW : Nat → Int32) (N : Nat) : Prop := ∀ j, j < N → TW j = -1 ∨ ∃ i, i < j ∧ TW j = nI i ∧ hd i = hd j ∧ tl i = tl j
theorem twf_m {TW : Nat → Int32} {j : Nat} (h : TW j = -1) : twf TW j = j := by
  unfold twf; rw [h, if_pos (by decide)]
theorem twf_n {TW : Nat → Int32} {j i : Nat} (h : TW j = nI i) (hi : i < 2 ^ 31) : twf TW j = i := by
  unfold twf; rw [h, if_neg (nI_pos hi), nI_clamp hi]
theorem twOK_tw {hd tl : Nat → Nat} {TW : Nat → Int32} {N : Nat} (hN : N ≤ 14) (h : twOK hd tl TW N) : ∀ j, j < N → twf TW j < j → hd (twf TW j) = hd j ∧ tl (twf TW j) = tl j := by
  intro j hj hlt
  rcases h j hj with q | ⟨i, hi, q, e1, e2⟩
  · rw [twf_m q] at hlt; omega
  · rw [twf_n q (by omega)]; exact ⟨e1, e2⟩
def mayM (hd tl lf : Nat → Nat) (TW : Nat → Int32) (e S : Nat) : Prop := (∀ i, TW e = nI i → i < 100 → bm S i = true) ∧ 0 < lf (hd e) ∧ 0 < lf (tl e)
theorem may_iff {hd tl lf c : Nat → Nat} {TW : Nat → Int32} {N e S : Nat} (hN : N ≤ 14) (hE : hok hd tl 9 N) (he : e < N) (hTW : twOK hd tl TW N) (hlf : ∀ v, v < 9 → lf v = c v - hdg hd tl N (bm S) v) : mayM hd tl lf TW e S ↔ exM hd tl N c (twf TW) e S := by
  obtain ⟨h1, h2, _⟩ := hE e he
  unfold mayM exM
  rw [hlf _ h1, hlf _ h2]
  have ht : (∀ i, TW e = nI i → i < 100 → bm S i = true) ↔ (twf TW e < e → bm S (twf TW e) = true) := by
    rcases hTW e he with q | ⟨i, hi, q, _, _⟩
    · rw [twf_m q]
      refine ⟨fun _ h => absurd h (by omega), fun _ i hi hi2 => ?_⟩
      rw [q] at hi
      exact absurd hi (by
        intro h
        have : (-1 : Int32) < 0 := by decide
        rw [h] at this
        exact nI_pos (by omega) this)
    · rw [twf_n q (by omega)]
      refine ⟨fun h _ => h i q (by omega), fun h i' q' hi' => ?_⟩
      rw [q] at q'
      rw [← (nI_eq (by omega) (by omega)).mp q']
      exact h hi
  rw [ht]
  refine ⟨fun h => ⟨h.1, ?_, ?_⟩, fun h => ⟨h.1, ?_, ?_⟩⟩ <;> (have a1 := h.2.1; have a2 := h.2.2; omega)
theorem ah_step {hd tl : Nat → Nat} {N e : Nat} (he : e < N) (v : Nat) : su (fun j => if e ≤ j then hin hd tl j v else 0) N = su (fun j => if e + 1 ≤ j then hin hd tl j v else 0) N + hin hd tl e v := by
  have h := su_1 (a := hin hd tl e v) he
  rw [← h, ← su_ad]
  refine su_cg (fun j _ => ?_)
  by_cases q : j = e
  · subst q; rw [if_pos (by omega), if_neg (by omega), if_pos rfl]; omega
  · rw [if_neg q]
    by_cases r : e ≤ j
    · rw [if_pos r, if_pos (by omega)]; rfl
    · rw [if_neg r, if_neg (by omega)]
def dn2 (f : Nat → Nat) (a b : Nat) : Nat → Nat := nup (nup f a (f a - 1)) b (nup f a (f a - 1) b - 1)
def up2 (f : Nat → Nat) (a b : Nat) : Nat → Nat := nup (nup f a (f a + 1)) b (nup f a (f a + 1) b + 1)
theorem dn2_v {f : Nat → Nat} {a b : Nat} (h : a ≠ b) (v : Nat) : dn2 f a b v = f v - (ind a v + ind b v) := by
  unfold dn2 nup ind
  by_cases q : v = b
  · subst q; simp [Ne.symm h]
  · by_cases r : v = a
    · subst r; simp [h]
    · simp [q, r]
theorem up2_v {f : Nat → Nat} {a b : Nat} (h : a ≠ b) (v : Nat) : up2 f a b v = f v + (ind a v + ind b v) := by
  unfold up2 nup ind
  by_cases q : v = b
  · subst q; simp [Ne.symm h]
  · by_cases r : v = a
    · subst r; simp [h]
    · simp [q, r]
theorem up_dn {f : Nat → Nat} {a b : Nat} (h : a ≠ b) (ha : 0 < f a) (hb : 0 < f b) : up2 (dn2 f a b) a b = f := by
  funext v
  rw [up2_v h, dn2_v h]
  by_cases q : v = b
  · subst q; rw [ind_s, ind_n (Ne.symm h)]; omega
  · rw [ind_n q]
    by_cases r : v = a
    · subst r; rw [ind_s]; omega
    · rw [ind_n r]; omega
theorem lf_step {hd tl lf c : Nat → Nat} {N e S : Nat} (hE : hok hd tl 9 N) (he : e < N) (hS : S < 2 ^ e) (hlf : ∀ v, v < 9 → lf v = c v - hdg hd tl N (bm S) v) : ∀ v, v < 9 → dn2 lf (hd e) (tl e) v = c v - hdg hd tl N (bm (S ||| 2 ^ e)) v := by
  intro v hv
  obtain ⟨_, _, hne⟩ := hE e he
  rw [dn2_v hne, bm_up hS, hdg_on he (bm_ge hS (Nat.le_refl _)), hin_ind hne, hlf v hv]
  omega
theorem ah_dn {hd tl ah : Nat → Nat} {N e : Nat} (hE : hok hd tl 9 N) (he : e < N) (hah : ∀ v, v < 9 → ah v = su (fun j => if e ≤ j then hin hd tl j v else 0) N) : ∀ v, v < 9 → dn2 ah (hd e) (tl e) v = su (fun j => if e + 1 ≤ j then hin hd tl j v else 0) N := by
  intro v hv
  obtain ⟨_, _, hne⟩ := hE e he
  rw [dn2_v hne, hah v hv, ah_step he, hin_ind hne]
  omega
theorem ah_pos {hd tl ah : Nat → Nat} {N e : Nat} (hE : hok hd tl 9 N) (he : e < N) (hah : ∀ v, v < 9 → ah v = su (fun j => if e ≤ j then hin hd tl j v else 0) N) : 0 < ah (hd e) ∧ 0 < ah (tl e) := by
  obtain ⟨h1, h2, hne⟩ := hE e he
  rw [hah _ h1, hah _ h2, ah_step he, ah_step he, hin_or (Or.inl rfl), hin_or (Or.inr rfl)]
  omega
theorem ex_bd {x y : Nat → Nat} {N : Nat} {c tw : Nat → Nat} {en e S ct fs g fs' g' : Nat} (h : exP x y N c tw en e S ct fs g fs' g') : g' ≤ max g (N + 1) := by
  by_cases q : g < g'
  · have h1 := (h.2.2.1 q).2.2.1
    have h2 := hsz_le N (bm fs')
    omega
  · omega
theorem ah_bd {hd tl ah : Nat → Nat} {N e : Nat} (hah : ∀ v, v < 9 → ah v = su (fun j => if e ≤ j then hin hd tl j v else 0) N) : ∀ v, v < 9 → ah v ≤ N := by
  intro v hv
  rw [hah v hv]
  have : ∀ q, su (fun j => if e ≤ j then hin hd tl j v else 0) q ≤ q := by
    intro q
    induction q with
    | zero => exact Nat.le_refl _
    | succ q ih =>
      show su (fun j => if e ≤ j then hin hd tl j v else 0) q + (if e ≤ q then hin hd tl q v else 0) ≤ q + 1
      have : (if e ≤ q then hin hd tl q v else 0) ≤ 1 := by
        unfold hin
        split
        · split <;> omega
        · omega
      omega
  exact this N
end
section
def dn1 (f : Nat → Nat) (a : Nat) : Nat → Nat := nup f a (f a - 1)
set_option maxHeartbeats 4000000 in
set_option maxRecDepth 100000 in
/-- a number of edges that those not yet tried cannot exceed -/
theorem kS_hope (l : Launch) (D : va_G) (cA : ClassId) (s b1 b2 b3 b4 b5 N : Nat) (lf ah : Nat → Nat) (en fs fc : Int32) (hl : ∀ v, v < 9 → lf v ≤ 100) (ha : ∀ v, v < 9 → ah v ≤ 100) : CtP l yS_hope (.code yS_hope cS_hope 3 (some .int)) 1 D cA [.ref s] [(s, .inr (3, [.int (nI N), .ref b1, .ref b2, .ref b3, .ref b4, .ref b5, .int en, .int fs, .int fc])), (b4, .inl (cA, 9, .inl (aN lf))), (b5, .inl (cA, 9, .inl (aN ah)))] (fun r => r = nI (su (fun v => min (lf v) (ah v)) 9 / 2)) := by
  refine mkP [(0, .ref s)] (by decide) rfl (Nat.le_of_ble_eq_true rfl) ?_
  intro E Q hE C hret
  have hsb : ∀ i, i ≤ 9 → su (fun v => min (lf v) (ah v)) i ≤ 100 * i := by
    intro i
    induction i with
    | zero => intro _; exact Nat.le_refl _
    | succ i ih =>
      intro h
      show su (fun v => min (lf v) (ah v)) i + min (lf i) (ah i) ≤ 100 * (i + 1)
      have a1 := ih (by omega)
      have a2 := hl i (by omega)
      omega
  refine s_iconst (nI 0) C dS_hope_0 (by decide) ?_
  refine s_istore_n [(0, .ref s), (1, .int (nI 0))] [1, 0] C dS_hope_1 (by decide) rfl ?_
  refine s_iconst (nI 0) C dS_hope_2 (by decide) ?_
  refine s_istore_n [(0, .ref s), (1, .int (nI 0)), (2, .int (nI 0))] [1, 2, 0] C dS_hope_3 (by decide) rfl ?_
  have loop : ∀ k i, i + k = 9 → ST E 3 Q 0 0 (pf E D [(s, .inr (3, [.int (nI N), .ref b1, .ref b2, .ref b3, .ref b4, .ref b5, .int en, .int fs, .int fc])), (b4, .inl (cA, 9, .inl (aN lf))), (b5, .inl (cA, 9, .inl (aN ah)))]) [(0, .ref s), (1, .int (nI (su (fun v => min (lf v) (ah v)) i))), (2, .int (nI i))] [] 4 := by
    intro k
    induction k with
    | zero =>
      intro i hi
      refine s_iload_n 2 C dS_hope_4 rfl ?_
      refine s_bipush (nI 9) C dS_hope_5 (by decide) ?_
      refine s_icmp_geN 34 C dS_hope_7 (by decide) (by omega) (by omega) (fun c1 => ?_) (fun c1 => ?_)
      · have e : i = 9 := by omega
        subst e
        have hb9 := hsb 9 (by omega)
        refine s_iload_n 1 C dS_hope_34 rfl ?_
        refine s_iconst (nI 2) C dS_hope_35 (by decide) ?_
        refine s_idivN C dS_hope_36 (by omega) (by decide) (by decide) ?_
        exact hret _ _ _ dS_hope_37 rfl rfl
      · exact absurd c1 (by omega)
    | succ k ih =>
      intro i hi
      refine s_iload_n 2 C dS_hope_4 rfl ?_
      refine s_bipush (nI 9) C dS_hope_5 (by decide) ?_
      refine s_icmp_geN 34 C dS_hope_7 (by decide) (by omega) (by omega) (fun c1 => ?_) (fun c1 => ?_)
      · exact absurd c1 (by omega)
      · have h1 := hl i (by omega)
        have h2 := ha i (by omega)
        have h3 := hsb i (by omega)
        refine s_iload_n 1 C dS_hope_10 rfl ?_
        refine s_aload_n 0 C dS_hope_11 rfl ?_
        refine s_get (.ref b4) 0 4 C pfP inS flS_21 dS_hope_12 rfl rfl (by decide) rfl ?_
        refine s_iload_n 2 C dS_hope_15 rfl ?_
        refine s_ialdN 1 C pfP dS_hope_16 rfl (by omega) (by decide) ?_
        refine s_aload_n 0 C dS_hope_17 rfl ?_
        refine s_get (.ref b5) 0 5 C pfP inS flS_24 dS_hope_18 rfl rfl (by decide) rfl ?_
        refine s_iload_n 2 C dS_hope_21 rfl ?_
        refine s_ialdN 2 C pfP dS_hope_22 rfl (by omega) (by decide) ?_
        refine s_min C mlS_45 dS_hope_23 (by decide) (Nat.le_of_ble_eq_true rfl) (Nat.zero_le _) (Nat.zero_le _) ?_
        refine s_top (minI (by omega) (by omega)) ?_
        refine s_iaddN C dS_hope_26 ?_
        refine s_istore_n [(0, .ref s), (1, .int (nI (su (fun v => min (lf v) (ah v)) i + (min (lf i) (ah i))))), (2, .int (nI i))] [1, 0, 2] C dS_hope_27 (by decide) rfl ?_
        refine s_iinc (j := 2) (nI (i + 1)) [(0, .ref s), (1, .int (nI (su (fun v => min (lf v) (ah v)) i + (min (lf i) (ah i))))), (2, .int (nI (i + 1)))] [1, 2, 0] C dS_hope_28 rfl (inc1 _) (by decide) rfl ?_
        refine s_goto (tgt := 4) C dS_hope_31 (by decide) ?_
        exact ih (i + 1) (by omega)
  exact loop 9 0 (by omega)
set_option maxHeartbeats 4000000 in
set_option maxRecDepth 100000 in
/-- may the edge be taken -/
theorem kS_mayAdd (l : Launch) (D : va_G) (cA : ClassId) (s b1 b2 b3 b4 b5 N : Nat) (hd tl lf : Nat → Nat) (TW : Nat → Int32) (en fs fc : Int32) (e S : Nat) (hN : N ≤ 14) (he : e < N) (hS : S < 2 ^ 14) (hh : hd e < 9) (ht : tl e < 9) (hTW : TW e = -1 ∨ ∃ i, i < e ∧ TW e = nI i) (hl : ∀ v, v < 9 → lf v ≤ 100) : CtP l yS_mayAdd (.code yS_mayAdd cS_mayAdd 4 (some .boolean)) 0 D cA [.ref s, .int (nI e), .int (nI S)] [(s, .inr (3, [.int (nI N), .ref b1, .ref b2, .ref b3, .ref b4, .ref b5, .int en, .int fs, .int fc])), (b1, .inl (cA, 14, .inl (aN hd))), (b2, .inl (cA, 14, .inl (aN tl))), (b3, .inl (cA, 14, .inl TW)), (b4, .inl (cA, 9, .inl (aN lf)))] (fun r => (r = nI 1 ∧ mayM hd tl lf TW e S) ∨ (r = nI 0 ∧ ¬ mayM hd tl lf TW e S)) := by
  refine mkP [(0, .ref s), (1, .int (nI e)), (2, .int (nI S))] (by decide) rfl (Nat.le_of_ble_eq_true rfl) ?_
  intro E Q hE C hret
  have hl1 := hl _ hh
  have hl2 := hl _ ht
  have rest : ∀ t : Nat, (t = 1 ∧ ∀ i, TW e = nI i → i < 100 → bm S i = true) ∨ (t = 0 ∧ ¬ ∀ i, TW e = nI i → i < 100 → bm S i = true) → ST E 4 Q 0 0 (pf E D [(s, .inr (3, [.int (nI N), .ref b1, .ref b2, .ref b3, .ref b4, .ref b5, .int en, .int fs, .int fc])), (b1, .inl (cA, 14, .inl (aN hd))), (b2, .inl (cA, 14, .inl (aN tl))), (b3, .inl (cA, 14, .inl TW)), (b4, .inl (cA, 9, .inl (aN lf)))]) [(0, .ref s), (1, .int (nI e)), (2, .int (nI S))] [.int (nI t)] 28 := by
    intro t ht0
    refine s_istore_n [(0, .ref s), (1, .int (nI e)), (2, .int (nI S)), (3, .int (nI t))] [1, 2, 3, 0] C dS_mayAdd_28 (by decide) rfl ?_
    refine s_iload_n 3 C dS_mayAdd_29 rfl ?_
    refine s_if_eqN 65 C dS_mayAdd_30 (by decide) (by omega) (fun c1 => ?_) (fun c1 => ?_)
    · refine s_iconst (nI 0) C dS_mayAdd_65 (by decide) ?_
      exact hret _ _ _ dS_mayAdd_66 rfl (Or.inr ⟨rfl, fun h => by rcases ht0 with q | q; omega; exact q.2 h.1⟩)
    · refine s_aload_n 0 C dS_mayAdd_33 rfl ?_
      refine s_get (.ref b4) 0 4 C pfP inS flS_21 dS_mayAdd_34 rfl rfl (by decide) rfl ?_
      refine s_aload_n 0 C dS_mayAdd_37 rfl ?_
      refine s_get (.ref b1) 0 1 C pfP inS flS_9 dS_mayAdd_38 rfl rfl (by decide) rfl ?_
      refine s_iload_n 1 C dS_mayAdd_41 rfl ?_
      refine s_ialdN 1 C pfP dS_mayAdd_42 rfl (by omega) (by decide) ?_
      refine s_ialdN 4 C pfP dS_mayAdd_43 rfl (by omega) (by decide) ?_
      refine s_if_leN 65 C dS_mayAdd_44 (by decide) (by omega) (fun c2 => ?_) (fun c2 => ?_)
      · refine s_iconst (nI 0) C dS_mayAdd_65 (by decide) ?_
        exact hret _ _ _ dS_mayAdd_66 rfl (Or.inr ⟨rfl, fun h => by have := h.2.1; omega⟩)
      · refine s_aload_n 0 C dS_mayAdd_47 rfl ?_
        refine s_get (.ref b4) 0 4 C pfP inS flS_21 dS_mayAdd_48 rfl rfl (by decide) rfl ?_
        refine s_aload_n 0 C dS_mayAdd_51 rfl ?_
        refine s_get (.ref b2) 0 2 C pfP inS flS_15 dS_mayAdd_52 rfl rfl (by decide) rfl ?_
        refine s_iload_n 1 C dS_mayAdd_55 rfl ?_
        refine s_ialdN 2 C pfP dS_mayAdd_56 rfl (by omega) (by decide) ?_
        refine s_ialdN 4 C pfP dS_mayAdd_57 rfl (by omega) (by decide) ?_
        refine s_if_leN 65 C dS_mayAdd_58 (by decide) (by omega) (fun c3 => ?_) (fun c3 => ?_)
        · refine s_iconst (nI 0) C dS_mayAdd_65 (by decide) ?_
          exact hret _ _ _ dS_mayAdd_66 rfl (Or.inr ⟨rfl, fun h => by have := h.2.2; omega⟩)
        · refine s_iconst (nI 1) C dS_mayAdd_61 (by decide) ?_
          refine s_goto (tgt := 66) C dS_mayAdd_62 (by decide) ?_
          exact hret _ _ _ dS_mayAdd_66 rfl (Or.inl ⟨rfl, by rcases ht0 with q | q; exact q.2; omega, c2, c3⟩)
  rcases hTW with h | ⟨i, hi, h⟩
  · refine s_aload_n 0 C dS_mayAdd_0 rfl ?_
    refine s_get (.ref b3) 0 3 C pfP inS flS_18 dS_mayAdd_1 rfl rfl (by decide) rfl ?_
    refine s_iload_n 1 C dS_mayAdd_4 rfl ?_
    refine s_iald 3 C pfP dS_mayAdd_5 rfl (by omega) (by decide) ?_
    refine s_top h ?_
    refine s_if_lt 23 C dS_mayAdd_6 (by decide) (fun c1 => ?_) (fun c1 => ?_)
    · refine s_iconst (nI 1) C dS_mayAdd_23 (by decide) ?_
      refine s_goto (tgt := 28) C dS_mayAdd_24 (by decide) ?_
      refine rest 1 (Or.inl ⟨rfl, fun i hi _ => ?_⟩)
      rw [h] at hi
      exact absurd (hi ▸ (by decide : (-1 : Int32) < 0)) (nI_pos (by omega))
    · exact absurd (by decide) c1
  · refine s_aload_n 0 C dS_mayAdd_0 rfl ?_
    refine s_get (.ref b3) 0 3 C pfP inS flS_18 dS_mayAdd_1 rfl rfl (by decide) rfl ?_
    refine s_iload_n 1 C dS_mayAdd_4 rfl ?_
    refine s_iald 3 C pfP dS_mayAdd_5 rfl (by omega) (by decide) ?_
    refine s_top h ?_
    refine s_if_ltN 23 C dS_mayAdd_6 (by decide) (by omega) ?_
    refine s_iload_n 2 C dS_mayAdd_9 rfl ?_
    refine s_aload_n 0 C dS_mayAdd_10 rfl ?_
    refine s_get (.ref b3) 0 3 C pfP inS flS_18 dS_mayAdd_11 rfl rfl (by decide) rfl ?_
    refine s_iload_n 1 C dS_mayAdd_14 rfl ?_
    refine s_iald 3 C pfP dS_mayAdd_15 rfl (by omega) (by decide) ?_
    refine s_top h ?_
    refine s_ishrN C dS_mayAdd_16 (by omega) (by omega) ?_
    refine s_iconst (nI 1) C dS_mayAdd_17 (by decide) ?_
    refine s_bitN C dS_mayAdd_18 ?_
    refine s_iconst (nI 1) C dS_mayAdd_19 (by decide) ?_
    refine s_icmp_neN 27 C dS_mayAdd_20 (by decide) (bt31 _) (by omega) (fun c2 => ?_) (fun c2 => ?_)
    · refine s_iconst (nI 0) C dS_mayAdd_27 (by decide) ?_
      refine rest 0 (Or.inr ⟨rfl, fun h9 => c2 (bmT.mpr (h9 i h (by omega)))⟩)
    · refine s_iconst (nI 1) C dS_mayAdd_23 (by decide) ?_
      refine s_goto (tgt := 28) C dS_mayAdd_24 (by decide) ?_
      refine rest 1 (Or.inl ⟨rfl, fun i2 h2 h3 => ?_⟩)
      rw [h] at h2
      rw [← (nI_eq (by omega) (by omega)).mp h2]
      exact bmT.mp c2
set_option maxHeartbeats 4000000 in
set_option maxRecDepth 100000 in
/-- uses up one edge's worth of what a vertex asks for -/
theorem kS_lend (l : Launch) (D : va_G) (cA : ClassId) (s b1 b2 b3 b4 b5 N : Nat) (lf : Nat → Nat) (en fs fc : Int32) (v : Nat) (hv : v < 9) (hl : ∀ v, v < 9 → lf v ≤ 100) : CtI (S := Nat → Int32) l yS_lend (.code yS_lend cS_lend 2 (some .boolean)) 0 0 0 D cA [.ref s, .int (nI v)] [(s, .inr (3, [.int (nI N), .ref b1, .ref b2, .ref b3, .ref b4, .ref b5, .int en, .int fs, .int fc])), (b4, .inl (cA, 9, .inl (aN lf)))] (fun r u => (0 < lf v ∧ r = nI 1 ∧ u = aN (dn1 lf v)) ∨ (lf v = 0 ∧ r = nI 0)) (fun u => [(s, .inr (3, [.int (nI N), .ref b1, .ref b2, .ref b3, .ref b4, .ref b5, .int en, .int fs, .int fc])), (b4, .inl (cA, 9, .inl u))]) := by
  refine mkI [(0, .ref s), (1, .int (nI v))] (by decide) rfl (Nat.le_of_ble_eq_true rfl) ?_
  intro E A Q hE C hA hret
  have hlv := hl v hv
  rcases Nat.eq_zero_or_pos (lf v) with h0 | h0
  · refine s_aload_n 0 C dS_lend_0 rfl ?_
    refine s_get (.ref b4) 0 4 C wfP inS flS_21 dS_lend_1 rfl rfl (by decide) rfl ?_
    refine s_iload_n 1 C dS_lend_4 rfl ?_
    refine s_dup2 C dS_lend_5 rfl rfl ?_
    refine s_ialdN 1 C wfP dS_lend_6 rfl (by omega) (by decide) ?_
    refine s_iconst (nI 1) C dS_lend_7 (by decide) ?_
    refine s_isub C dS_lend_8 ?_
    refine s_top (y := -1) (by rw [h0]; decide) ?_
    refine s_iast 1 [(s, .inr (3, [.int (nI N), .ref b1, .ref b2, .ref b3, .ref b4, .ref b5, .int en, .int fs, .int fc])), (b4, .inl (cA, 9, .inl (upd (aN lf) v (-1))))] C dS_lend_9 rfl (by omega) (by decide) rfl ?_
    refine s_aload_n 0 C dS_lend_10 rfl ?_
    refine s_get (.ref b4) 0 4 C wfP inS flS_21 dS_lend_11 rfl rfl (by decide) rfl ?_
    refine s_iload_n 1 C dS_lend_14 rfl ?_
    refine s_iald 1 C wfP dS_lend_15 rfl (by omega) (by decide) ?_
    refine s_top (y := -1) (by unfold upd; rw [if_pos rfl]) ?_
    refine s_if_lt 23 C dS_lend_16 (by decide) (fun c1 => ?_) (fun c1 => ?_)
    · refine s_iconst (nI 0) C dS_lend_23 (by decide) ?_
      exact hret _ (upd (aN lf) v (-1)) _ _ dS_lend_24 rfl (Or.inr ⟨h0, rfl⟩)
    · exact absurd (by decide) c1
  · refine s_aload_n 0 C dS_lend_0 rfl ?_
    refine s_get (.ref b4) 0 4 C wfP inS flS_21 dS_lend_1 rfl rfl (by decide) rfl ?_
    refine s_iload_n 1 C dS_lend_4 rfl ?_
    refine s_dup2 C dS_lend_5 rfl rfl ?_
    refine s_ialdN 1 C wfP dS_lend_6 rfl (by omega) (by decide) ?_
    refine s_iconst (nI 1) C dS_lend_7 (by decide) ?_
    refine s_isubN C dS_lend_8 (by omega) ?_
    refine s_iastN 1 [(s, .inr (3, [.int (nI N), .ref b1, .ref b2, .ref b3, .ref b4, .ref b5, .int en, .int fs, .int fc])), (b4, .inl (cA, 9, .inl (aN (nup lf v ((lf v) - 1)))))] C dS_lend_9 rfl (by omega) (by decide) rfl ?_
    refine s_aload_n 0 C dS_lend_10 rfl ?_
    refine s_get (.ref b4) 0 4 C wfP inS flS_21 dS_lend_11 rfl rfl (by decide) rfl ?_
    refine s_iload_n 1 C dS_lend_14 rfl ?_
    refine s_ialdN 1 C wfP dS_lend_15 rfl (by omega) (by decide) ?_
    refine s_top (congrArg nI (nup_s lf v (lf v - 1))) ?_
    refine s_if_ltN 23 C dS_lend_16 (by decide) (by omega) ?_
    refine s_iconst (nI 1) C dS_lend_19 (by decide) ?_
    refine s_goto (tgt := 24) C dS_lend_20 (by decide) ?_
    exact hret _ (aN (nup lf v ((lf v) - 1))) _ _ dS_lend_24 rfl (Or.inl ⟨h0, rfl, rfl⟩)
set_option maxHeartbeats 4000000 in
set_option maxRecDepth 100000 in
/-- one more edge -/
theorem kS_take (l : Launch) (D : va_G) (cA : ClassId) (s b1 b2 b3 b4 b5 N : Nat) (hd tl ah : Nat → Nat) (TW : Nat → Int32) (en fs fc : Int32) (a b : Nat) (hN : N < 14) (ha : a < 9) (hb : b < 9) (hhd : ∀ j, j < N → hd j < 9) (htl : ∀ j, j < N → tl j < 9) : CtV (S := Nat → Int32) l yS_take (.code yS_take cS_take 4 none) 0 0 0 D cA [.ref s, .int (nI a), .int (nI b)] [(s, .inr (3, [.int (nI N), .ref b1, .ref b2, .ref b3, .ref b4, .ref b5, .int en, .int fs, .int fc])), (b1, .inl (cA, 14, .inl (aN hd))), (b2, .inl (cA, 14, .inl (aN tl))), (b3, .inl (cA, 14, .inl TW)), (b5, .inl (cA, 9, .inl (aN ah)))] (fun u => (∀ j, j ≠ N → u j = TW j) ∧ (u N = -1 ∨ ∃ i, i < N ∧ u N = nI i ∧ hd i = a ∧ tl i = b)) (fun u => [(s, .inr (3, [.int (nI (N + 1)), .ref b1, .ref b2, .ref b3, .ref b4, .ref b5, .int en, .int fs, .int fc])), (b1, .inl (cA, 14, .inl (aN (nup hd N a)))), (b2, .inl (cA, 14, .inl (aN (nup tl N b)))), (b3, .inl (cA, 14, .inl u)), (b5, .inl (cA, 9, .inl (aN (up2 ah a b))))]) := by
  refine mkV [(0, .ref s), (1, .int (nI a)), (2, .int (nI b))] (by decide) rfl (Nat.le_of_ble_eq_true rfl) ?_
  intro E A Q hE hi C hA hret
  refine s_aload_n 0 C dS_take_0 rfl ?_
  refine s_get (.ref b3) 0 3 C wfP inS flS_18 dS_take_1 rfl rfl (by decide) rfl ?_
  refine s_aload_n 0 C dS_take_4 rfl ?_
  refine s_get (.int (nI N)) 0 0 C wfP inS flS_27 dS_take_5 rfl rfl (by decide) rfl ?_
  refine s_iconst (-1) C dS_take_8 (by decide) ?_
  refine s_iast 3 [(s, .inr (3, [.int (nI N), .ref b1, .ref b2, .ref b3, .ref b4, .ref b5, .int en, .int fs, .int fc])), (b1, .inl (cA, 14, .inl (aN hd))), (b2, .inl (cA, 14, .inl (aN tl))), (b3, .inl (cA, 14, .inl (upd TW N (-1)))), (b5, .inl (cA, 9, .inl (aN ah)))] C dS_take_9 rfl (by omega) (by decide) rfl ?_
  refine s_iconst (nI 0) C dS_take_10 (by decide) ?_
  refine s_istore_n [(0, .ref s), (1, .int (nI a)), (2, .int (nI b)), (3, .int (nI 0))] [1, 2, 3, 0] C dS_take_11 (by decide) rfl ?_
  have loop : ∀ k i (T : Nat → Int32), i + k = N → (∀ j, j ≠ N → T j = TW j) → (T N = -1 ∨ ∃ i, i < N ∧ T N = nI i ∧ hd i = a ∧ tl i = b) → ST E 4 Q 0 0 (wf E A D [(s, .inr (3, [.int (nI N), .ref b1, .ref b2, .ref b3, .ref b4, .ref b5, .int en, .int fs, .int fc])), (b1, .inl (cA, 14, .inl (aN hd))), (b2, .inl (cA, 14, .inl (aN tl))), (b3, .inl (cA, 14, .inl T)), (b5, .inl (cA, 9, .inl (aN ah)))]) [(0, .ref s), (1, .int (nI a)), (2, .int (nI b)), (3, .int (nI i))] [] 12 := by
    intro k
    induction k with
    | zero =>
      intro i T hi hT1 hT2
      refine s_iload_n 3 C dS_take_12 rfl ?_
      refine s_aload_n 0 C dS_take_13 rfl ?_
      refine s_get (.int (nI N)) 0 0 C wfP inS flS_27 dS_take_14 rfl rfl (by decide) rfl ?_
      refine s_icmp_geN 56 C dS_take_17 (by decide) (by omega) (by omega) (fun c1 => ?_) (fun c1 => ?_)
      · refine s_aload_n 0 C dS_take_56 rfl ?_
        refine s_get (.ref b1) 0 1 C wfP inS flS_9 dS_take_57 rfl rfl (by decide) rfl ?_
        refine s_aload_n 0 C dS_take_60 rfl ?_
        refine s_get (.int (nI N)) 0 0 C wfP inS flS_27 dS_take_61 rfl rfl (by decide) rfl ?_
        refine s_iload_n 1 C dS_take_64 rfl ?_
        refine s_iastN 1 [(s, .inr (3, [.int (nI N), .ref b1, .ref b2, .ref b3, .ref b4, .ref b5, .int en, .int fs, .int fc])), (b1, .inl (cA, 14, .inl (aN (nup hd N a)))), (b2, .inl (cA, 14, .inl (aN tl))), (b3, .inl (cA, 14, .inl T)), (b5, .inl (cA, 9, .inl (aN ah)))] C dS_take_65 rfl (by omega) (by decide) rfl ?_
        refine s_aload_n 0 C dS_take_66 rfl ?_
        refine s_get (.ref b2) 0 2 C wfP inS flS_15 dS_take_67 rfl rfl (by decide) rfl ?_
        refine s_aload_n 0 C dS_take_70 rfl ?_
        refine s_get (.int (nI N)) 0 0 C wfP inS flS_27 dS_take_71 rfl rfl (by decide) rfl ?_
        refine s_iload_n 2 C dS_take_74 rfl ?_
        refine s_iastN 2 [(s, .inr (3, [.int (nI N), .ref b1, .ref b2, .ref b3, .ref b4, .ref b5, .int en, .int fs, .int fc])), (b1, .inl (cA, 14, .inl (aN (nup hd N a)))), (b2, .inl (cA, 14, .inl (aN (nup tl N b)))), (b3, .inl (cA, 14, .inl T)), (b5, .inl (cA, 9, .inl (aN ah)))] C dS_take_75 rfl (by omega) (by decide) rfl ?_
        refine s_aload_n 0 C dS_take_76 rfl ?_
        refine s_get (.ref b5) 0 5 C wfP inS flS_24 dS_take_77 rfl rfl (by decide) rfl ?_
        refine s_iload_n 1 C dS_take_80 rfl ?_
        refine s_dup2 C dS_take_81 rfl rfl ?_
        refine s_ialdN 4 C wfP dS_take_82 rfl (by omega) (by decide) ?_
        refine s_iconst (nI 1) C dS_take_83 (by decide) ?_
        refine s_iaddN C dS_take_84 ?_
        refine s_iastN 4 [(s, .inr (3, [.int (nI N), .ref b1, .ref b2, .ref b3, .ref b4, .ref b5, .int en, .int fs, .int fc])), (b1, .inl (cA, 14, .inl (aN (nup hd N a)))), (b2, .inl (cA, 14, .inl (aN (nup tl N b)))), (b3, .inl (cA, 14, .inl T)), (b5, .inl (cA, 9, .inl (aN (nup ah a (ah a + 1)))))] C dS_take_85 rfl (by omega) (by decide) rfl ?_
        refine s_aload_n 0 C dS_take_86 rfl ?_
        refine s_get (.ref b5) 0 5 C wfP inS flS_24 dS_take_87 rfl rfl (by decide) rfl ?_
        refine s_iload_n 2 C dS_take_90 rfl ?_
        refine s_dup2 C dS_take_91 rfl rfl ?_
        refine s_ialdN 4 C wfP dS_take_92 rfl (by omega) (by decide) ?_
        refine s_iconst (nI 1) C dS_take_93 (by decide) ?_
        refine s_iaddN C dS_take_94 ?_
        refine s_iastN 4 [(s, .inr (3, [.int (nI N), .ref b1, .ref b2, .ref b3, .ref b4, .ref b5, .int en, .int fs, .int fc])), (b1, .inl (cA, 14, .inl (aN (nup hd N a)))), (b2, .inl (cA, 14, .inl (aN (nup tl N b)))), (b3, .inl (cA, 14, .inl T)), (b5, .inl (cA, 9, .inl (aN (nup (nup ah a (ah a + 1)) b ((nup ah a (ah a + 1)) b + 1)))))] C dS_take_95 rfl (by omega) (by decide) rfl ?_
        refine s_aload_n 0 C dS_take_96 rfl ?_
        refine s_dup C dS_take_97 rfl ?_
        refine s_get (.int (nI N)) 0 0 C wfP inS flS_27 dS_take_98 rfl rfl (by decide) rfl ?_
        refine s_iconst (nI 1) C dS_take_101 (by decide) ?_
        refine s_iaddN C dS_take_102 ?_
        refine s_put 0 0 [(s, .inr (3, [.int (nI (N + 1)), .ref b1, .ref b2, .ref b3, .ref b4, .ref b5, .int en, .int fs, .int fc])), (b1, .inl (cA, 14, .inl (aN (nup hd N a)))), (b2, .inl (cA, 14, .inl (aN (nup tl N b)))), (b3, .inl (cA, 14, .inl T)), (b5, .inl (cA, 9, .inl (aN (nup (nup ah a (ah a + 1)) b ((nup ah a (ah a + 1)) b + 1)))))] C inS tyS_ok nmS flS_27 dS_take_103 rfl rfl (by decide) rfl rfl rfl (Nat.le_of_ble_eq_true rfl) rfl ?_
        exact hret T _ _ dS_take_106 ⟨hT1, hT2⟩
      · exact absurd c1 (by omega)
    | succ k ih =>
      intro i T hi hT1 hT2
      refine s_iload_n 3 C dS_take_12 rfl ?_
      refine s_aload_n 0 C dS_take_13 rfl ?_
      refine s_get (.int (nI N)) 0 0 C wfP inS flS_27 dS_take_14 rfl rfl (by decide) rfl ?_
      refine s_icmp_geN 56 C dS_take_17 (by decide) (by omega) (by omega) (fun c1 => ?_) (fun c1 => ?_)
      · exact absurd c1 (by omega)
      · have f1 := hhd i (by omega)
        have f2 := htl i (by omega)
        refine s_aload_n 0 C dS_take_20 rfl ?_
        refine s_get (.ref b1) 0 1 C wfP inS flS_9 dS_take_21 rfl rfl (by decide) rfl ?_
        refine s_iload_n 3 C dS_take_24 rfl ?_
        refine s_ialdN 1 C wfP dS_take_25 rfl (by omega) (by decide) ?_
        refine s_iload_n 1 C dS_take_26 rfl ?_
        refine s_icmp_neN 50 C dS_take_27 (by decide) (by omega) (by omega) (fun c2 => ?_) (fun c2 => ?_)
        · refine s_iinc (j := 3) (nI (i + 1)) [(0, .ref s), (1, .int (nI a)), (2, .int (nI b)), (3, .int (nI (i + 1)))] [1, 2, 3, 0] C dS_take_50 rfl (inc1 _) (by decide) rfl ?_
          refine s_goto (tgt := 12) C dS_take_53 (by decide) ?_
          exact ih (i + 1) T (by omega) hT1 hT2
        · refine s_aload_n 0 C dS_take_30 rfl ?_
          refine s_get (.ref b2) 0 2 C wfP inS flS_15 dS_take_31 rfl rfl (by decide) rfl ?_
          refine s_iload_n 3 C dS_take_34 rfl ?_
          refine s_ialdN 2 C wfP dS_take_35 rfl (by omega) (by decide) ?_
          refine s_iload_n 2 C dS_take_36 rfl ?_
          refine s_icmp_neN 50 C dS_take_37 (by decide) (by omega) (by omega) (fun c3 => ?_) (fun c3 => ?_)
          · refine s_iinc (j := 3) (nI (i + 1)) [(0, .ref s), (1, .int (nI a)), (2, .int (nI b)), (3, .int (nI (i + 1)))] [1, 2, 3, 0] C dS_take_50 rfl (inc1 _) (by decide) rfl ?_
            refine s_goto (tgt := 12) C dS_take_53 (by decide) ?_
            exact ih (i + 1) T (by omega) hT1 hT2
          · refine s_aload_n 0 C dS_take_40 rfl ?_
            refine s_get (.ref b3) 0 3 C wfP inS flS_18 dS_take_41 rfl rfl (by decide) rfl ?_
            refine s_aload_n 0 C dS_take_44 rfl ?_
            refine s_get (.int (nI N)) 0 0 C wfP inS flS_27 dS_take_45 rfl rfl (by decide) rfl ?_
            refine s_iload_n 3 C dS_take_48 rfl ?_
            refine s_iast 3 [(s, .inr (3, [.int (nI N), .ref b1, .ref b2, .ref b3, .ref b4, .ref b5, .int en, .int fs, .int fc])), (b1, .inl (cA, 14, .inl (aN hd))), (b2, .inl (cA, 14, .inl (aN tl))), (b3, .inl (cA, 14, .inl (upd T N (nI i)))), (b5, .inl (cA, 9, .inl (aN ah)))] C dS_take_49 rfl (by omega) (by decide) rfl ?_
            refine s_iinc (j := 3) (nI (i + 1)) [(0, .ref s), (1, .int (nI a)), (2, .int (nI b)), (3, .int (nI (i + 1)))] [1, 2, 3, 0] C dS_take_50 rfl (inc1 _) (by decide) rfl ?_
            refine s_goto (tgt := 12) C dS_take_53 (by decide) ?_
            refine ih (i + 1) _ (by omega) (fun j hj => ?_) (Or.inr ⟨i, by omega, ?_, c2, c3⟩)
            · rw [← hT1 j hj]; unfold upd; rw [if_neg hj]
            · unfold upd; rw [if_pos rfl]
  refine loop N 0 _ (by omega) (fun j hj => ?_) (Or.inl ?_)
  · unfold upd; rw [if_neg hj]
  · unfold upd; rw [if_pos rfl]
end
section
/-! the graph as the search has it: without one of its edges, or with all -/
def ldN (e w : Nat) : Nat := if e ≤ w then e else e - 1
def sk (w j : Nat) : Nat := if j < w then j else j + 1
def ldI (fi se : Nat → Nat) (w e : Nat) (hd tl : Nat → Nat) (TW : Nat → Int32) (ah : Nat → Nat) : Prop :=
  hok hd tl 9 (ldN e w) ∧ twOK hd tl TW (ldN e w) ∧ (∀ j, j < ldN e w → hd j = min (fi (sk w j)) (se (sk w j)) ∧ tl j = max (fi (sk w j)) (se (sk w j))) ∧ ∀ v, v < 9 → ah v = su (fun j => hin hd tl j v) (ldN e w)
theorem ldN_le (e w : Nat) : ldN e w ≤ e := by unfold ldN; split <;> omega
theorem ldN_s {e w : Nat} (h : e = w) : ldN (e + 1) w = ldN e w := by unfold ldN; rw [if_neg (by omega), if_pos (by omega)]; omega
theorem ldN_n {e w : Nat} (h : e ≠ w) : ldN (e + 1) w = ldN e w + 1 := by
  unfold ldN
  by_cases q : e ≤ w
  · rw [if_pos (by omega), if_pos q]
  · rw [if_neg (by omega), if_neg q]; omega
theorem sk_N {e w : Nat} (h : e ≠ w) : sk w (ldN e w) = e := by
  unfold sk ldN
  by_cases q : e ≤ w
  · rw [if_pos q, if_pos (by omega)]
  · rw [if_neg q, if_neg (by omega)]; omega
theorem ld_0 (fi se : Nat → Nat) (w : Nat) (hd tl : Nat → Nat) (TW : Nat → Int32) : ldI fi se w 0 hd tl TW (fun _ => 0) := by
  have e : ldN 0 w = 0 := by unfold ldN; rw [if_pos (by omega)]
  refine ⟨?_, ?_, ?_, ?_⟩ <;> rw [e]
  · intro j hj; omega
  · intro j hj; omega
  · intro j hj; omega
  · intro v _; rfl
theorem ld_skip {fi se : Nat → Nat} {w e : Nat} {hd tl : Nat → Nat} {TW : Nat → Int32} {ah : Nat → Nat} (h : e = w) (hI : ldI fi se w e hd tl TW ah) : ldI fi se w (e + 1) hd tl TW ah := by
  unfold ldI at hI ⊢
  rw [ldN_s h]; exact hI
theorem ld_take {fi se : Nat → Nat} {w e : Nat} {hd tl : Nat → Nat} {TW u : Nat → Int32} {ah : Nat → Nat} (h : e ≠ w) (hf : fi e < 9) (hs : se e < 9) (hfs : fi e ≠ se e) (hI : ldI fi se w e hd tl TW ah)
    (hu : (∀ j, j ≠ ldN e w → u j = TW j) ∧ (u (ldN e w) = -1 ∨ ∃ i, i < ldN e w ∧ u (ldN e w) = nI i ∧ hd i = min (fi e) (se e) ∧ tl i = max (fi e) (se e))) :
    ldI fi se w (e + 1) (nup hd (ldN e w) (min (fi e) (se e))) (nup tl (ldN e w) (max (fi e) (se e))) u (up2 ah (min (fi e) (se e)) (max (fi e) (se e))) := by
  obtain ⟨h1, h2, h3, h4⟩ := hI
  obtain ⟨u1, u2⟩ := hu
  unfold ldI
  rw [ldN_n h]
  have hsk := sk_N h
  generalize ldN e w = N at *
  have lo : ∀ (f : Nat → Nat) (x j : Nat), j < N → nup f N x j = f j := fun f x j hj => nup_n (by omega)
  refine ⟨?_, ?_, ?_, ?_⟩
  · intro j hj
    by_cases q : j = N
    · subst q; rw [nup_s, nup_s]; omega
    · rw [lo _ _ j (by omega), lo _ _ j (by omega)]; exact h1 j (by omega)
  · intro j hj
    by_cases q : j = N
    · subst q
      rcases u2 with z | ⟨i, hi, z1, z2, z3⟩
      · exact Or.inl z
      · exact Or.inr ⟨i, hi, z1, by rw [nup_s, lo _ _ i hi]; exact z2, by rw [nup_s, lo _ _ i hi]; exact z3⟩
    · rw [u1 j q]
      rcases h2 j (by omega) with z | ⟨i, hi, z1, z2, z3⟩
      · exact Or.inl z
      · exact Or.inr ⟨i, hi, z1, by rw [lo _ _ i (by omega), lo _ _ j (by omega)]; exact z2, by rw [lo _ _ i (by omega), lo _ _ j (by omega)]; exact z3⟩
  · intro j hj
    by_cases q : j = N
    · subst q; rw [nup_s, nup_s, hsk]; exact ⟨rfl, rfl⟩
    · rw [lo _ _ j (by omega), lo _ _ j (by omega)]; exact h3 j (by omega)
  · intro v hv
    have hne : min (fi e) (se e) ≠ max (fi e) (se e) := by omega
    rw [up2_v hne, h4 v hv]
    show _ = su (fun j => hin (nup hd N (min (fi e) (se e))) (nup tl N (max (fi e) (se e))) j v) N + hin (nup hd N (min (fi e) (se e))) (nup tl N (max (fi e) (se e))) N v
    have e1 : hin (nup hd N (min (fi e) (se e))) (nup tl N (max (fi e) (se e))) N v = ind (min (fi e) (se e)) v + ind (max (fi e) (se e)) v := by
      rw [hin_ind (by rw [nup_s, nup_s]; exact hne), nup_s, nup_s]
    have e2 : su (fun j => hin (nup hd N (min (fi e) (se e))) (nup tl N (max (fi e) (se e))) j v) N = su (fun j => hin hd tl j v) N := su_cg (fun j hj => by
      show (if _ then 1 else 0) = (if _ then 1 else 0)
      rw [lo _ _ j hj, lo _ _ j hj])
    rw [e1, e2]
end
section
set_option maxHeartbeats 4000000 in
set_option maxRecDepth 100000 in
/-- takes over the graph without the edge w -/
theorem kS_load (l : Launch) (D : va_G) (cA : ClassId) (s b1 b2 b3 b4 b5 N : Nat) (hd tl : Nat → Nat) (TW LF AH : Nat → Int32) (en fs fc : Int32) (g a1 a2 a3 n m : Nat) (fi se wa : Nat → Nat) (w : Nat) (wo : Int32) (hm : m ≤ 14) (hG : hok fi se 9 m) (hwo : ∀ e, e < m → (nI e = wo ↔ e = w)) : CtV (S := (Nat → Nat) × (Nat → Nat) × (Nat → Int32) × (Nat → Nat)) l yS_load (.code yS_load cS_load 4 none) 2 0 0 D cA [.ref s, .ref g, .int wo] [(s, .inr (3, [.int (nI N), .ref b1, .ref b2, .ref b3, .ref b4, .ref b5, .int en, .int fs, .int fc])), (b1, .inl (cA, 14, .inl (aN hd))), (b2, .inl (cA, 14, .inl (aN tl))), (b3, .inl (cA, 14, .inl TW)), (b4, .inl (cA, 9, .inl LF)), (b5, .inl (cA, 9, .inl AH)), (g, .inr (2, [.int (nI n), .int (nI m), .ref a1, .ref a2, .ref a3])), (a1, .inl (cA, 14, .inl (aN fi))), (a2, .inl (cA, 14, .inl (aN se))), (a3, .inl (cA, 9, .inl (aN wa)))] (fun u => ldI fi se w m u.1 u.2.1 u.2.2.1 u.2.2.2) (fun u => [(s, .inr (3, [.int (nI (ldN m w)), .ref b1, .ref b2, .ref b3, .ref b4, .ref b5, .int en, .int fs, .int fc])), (b1, .inl (cA, 14, .inl (aN u.1))), (b2, .inl (cA, 14, .inl (aN u.2.1))), (b3, .inl (cA, 14, .inl u.2.2.1)), (b4, .inl (cA, 9, .inl (aN wa))), (b5, .inl (cA, 9, .inl (aN u.2.2.2))), (g, .inr (2, [.int (nI n), .int (nI m), .ref a1, .ref a2, .ref a3])), (a1, .inl (cA, 14, .inl (aN fi))), (a2, .inl (cA, 14, .inl (aN se))), (a3, .inl (cA, 9, .inl (aN wa)))]) := by
  refine mkV [(0, .ref s), (1, .ref g), (2, .int wo)] (by decide) rfl (Nat.le_of_ble_eq_true rfl) ?_
  intro E A Q hE hi C hA hret
  refine s_aload_n 0 C dS_load_0 rfl ?_
  refine s_iconst (nI 0) C dS_load_1 (by decide) ?_
  refine s_put 0 0 [(s, .inr (3, [.int (nI 0), .ref b1, .ref b2, .ref b3, .ref b4, .ref b5, .int en, .int fs, .int fc])), (b1, .inl (cA, 14, .inl (aN hd))), (b2, .inl (cA, 14, .inl (aN tl))), (b3, .inl (cA, 14, .inl TW)), (b4, .inl (cA, 9, .inl LF)), (b5, .inl (cA, 9, .inl AH)), (g, .inr (2, [.int (nI n), .int (nI m), .ref a1, .ref a2, .ref a3])), (a1, .inl (cA, 14, .inl (aN fi))), (a2, .inl (cA, 14, .inl (aN se))), (a3, .inl (cA, 9, .inl (aN wa)))] C inS tyS_ok nmS flS_27 dS_load_2 rfl rfl (by decide) rfl rfl rfl (Nat.le_of_ble_eq_true rfl) rfl ?_
  refine s_iconst (nI 0) C dS_load_5 (by decide) ?_
  refine s_istore_n [(0, .ref s), (1, .ref g), (2, .int wo), (3, .int (nI 0))] [1, 2, 3, 0] C dS_load_6 (by decide) rfl ?_
  have loop : ∀ k i (T T2 : Nat → Int32), i + k = 9 → (∀ j, j < i → T j = nI (wa j)) → (∀ j, j < i → T2 j = nI 0) → ST E 4 Q 0 0 (wf E A D [(s, .inr (3, [.int (nI 0), .ref b1, .ref b2, .ref b3, .ref b4, .ref b5, .int en, .int fs, .int fc])), (b1, .inl (cA, 14, .inl (aN hd))), (b2, .inl (cA, 14, .inl (aN tl))), (b3, .inl (cA, 14, .inl TW)), (b4, .inl (cA, 9, .inl T)), (b5, .inl (cA, 9, .inl T2)), (g, .inr (2, [.int (nI n), .int (nI m), .ref a1, .ref a2, .ref a3])), (a1, .inl (cA, 14, .inl (aN fi))), (a2, .inl (cA, 14, .inl (aN se))), (a3, .inl (cA, 9, .inl (aN wa)))]) [(0, .ref s), (1, .ref g), (2, .int wo), (3, .int (nI i))] [] 7 := by
    intro k
    induction k with
    | zero =>
      intro i T T2 hi hT hT2
      refine s_iload_n 3 C dS_load_7 rfl ?_
      refine s_bipush (nI 9) C dS_load_8 (by decide) ?_
      refine s_icmp_geN 38 C dS_load_10 (by decide) (by omega) (by omega) (fun c1 => ?_) (fun c1 => ?_)
      · have e : i = 9 := by omega
        subst e
        refine s_arr (aN wa) 4 [(s, .inr (3, [.int (nI 0), .ref b1, .ref b2, .ref b3, .ref b4, .ref b5, .int en, .int fs, .int fc])), (b1, .inl (cA, 14, .inl (aN hd))), (b2, .inl (cA, 14, .inl (aN tl))), (b3, .inl (cA, 14, .inl TW)), (b4, .inl (cA, 9, .inl (aN wa))), (b5, .inl (cA, 9, .inl T2)), (g, .inr (2, [.int (nI n), .int (nI m), .ref a1, .ref a2, .ref a3])), (a1, .inl (cA, 14, .inl (aN fi))), (a2, .inl (cA, 14, .inl (aN se))), (a3, .inl (cA, 9, .inl (aN wa)))] rfl (fun j hj => hT j hj) rfl ?_
        refine s_arr (aN (fun _ => 0)) 5 [(s, .inr (3, [.int (nI 0), .ref b1, .ref b2, .ref b3, .ref b4, .ref b5, .int en, .int fs, .int fc])), (b1, .inl (cA, 14, .inl (aN hd))), (b2, .inl (cA, 14, .inl (aN tl))), (b3, .inl (cA, 14, .inl TW)), (b4, .inl (cA, 9, .inl (aN wa))), (b5, .inl (cA, 9, .inl (aN (fun _ => 0)))), (g, .inr (2, [.int (nI n), .int (nI m), .ref a1, .ref a2, .ref a3])), (a1, .inl (cA, 14, .inl (aN fi))), (a2, .inl (cA, 14, .inl (aN se))), (a3, .inl (cA, 9, .inl (aN wa)))] rfl (fun j hj => hT2 j hj) rfl ?_
        refine s_iconst (nI 0) C dS_load_38 (by decide) ?_
        refine s_istore_n [(0, .ref s), (1, .ref g), (2, .int wo), (3, .int (nI 0))] [1, 2, 3, 0] C dS_load_39 (by decide) rfl ?_
        have loop2 : ∀ k2 e (hd tl : Nat → Nat) (TW : Nat → Int32) (ah : Nat → Nat), e + k2 = m → ldI fi se w e hd tl TW ah → ST E 4 Q 0 0 (wf E A D [(s, .inr (3, [.int (nI (ldN e w)), .ref b1, .ref b2, .ref b3, .ref b4, .ref b5, .int en, .int fs, .int fc])), (b1, .inl (cA, 14, .inl (aN hd))), (b2, .inl (cA, 14, .inl (aN tl))), (b3, .inl (cA, 14, .inl TW)), (b4, .inl (cA, 9, .inl (aN wa))), (b5, .inl (cA, 9, .inl (aN ah))), (g, .inr (2, [.int (nI n), .int (nI m), .ref a1, .ref a2, .ref a3])), (a1, .inl (cA, 14, .inl (aN fi))), (a2, .inl (cA, 14, .inl (aN se))), (a3, .inl (cA, 9, .inl (aN wa)))]) [(0, .ref s), (1, .ref g), (2, .int wo), (3, .int (nI e))] [] 40 := by
          intro k2
          induction k2 with
          | zero =>
            intro e hd tl TW ah hi hI
            refine s_iload_n 3 C dS_load_40 rfl ?_
            refine s_aload_n 1 C dS_load_41 rfl ?_
            refine s_get (.int (nI m)) 6 1 C wfP inG flS_36 dS_load_42 rfl rfl (by decide) rfl ?_
            refine s_icmp_geN 93 C dS_load_45 (by decide) (by omega) (by omega) (fun c1 => ?_) (fun c1 => ?_)
            · have e9 : e = m := by omega
              subst e9
              exact hret (hd, tl, TW, ah) _ _ dS_load_93 hI
            · exact absurd c1 (by omega)
          | succ k2 ih2 =>
            intro e hd tl TW ah hi hI
            refine s_iload_n 3 C dS_load_40 rfl ?_
            refine s_aload_n 1 C dS_load_41 rfl ?_
            refine s_get (.int (nI m)) 6 1 C wfP inG flS_36 dS_load_42 rfl rfl (by decide) rfl ?_
            refine s_icmp_geN 93 C dS_load_45 (by decide) (by omega) (by omega) (fun c1 => ?_) (fun c1 => ?_)
            · exact absurd c1 (by omega)
            · refine s_iload_n 3 C dS_load_48 rfl ?_
              refine s_iload_n 2 C dS_load_49 rfl ?_
              refine s_icmp_eq 87 C dS_load_50 (by decide) (fun c2 => ?_) (fun c2 => ?_)
              · have ew : e = w := (hwo e c1).mp c2
                refine s_iinc (j := 3) (nI (e + 1)) [(0, .ref s), (1, .ref g), (2, .int wo), (3, .int (nI (e + 1)))] [1, 2, 3, 0] C dS_load_87 rfl (inc1 _) (by decide) rfl ?_
                refine s_goto (tgt := 40) C dS_load_90 (by decide) ?_
                have h9 := ih2 (e + 1) hd tl TW ah (by omega) (ld_skip ew hI)
                rw [ldN_s ew] at h9
                exact h9
              · have ew : e ≠ w := fun q => c2 ((hwo e c1).mpr q)
                obtain ⟨f1, f2, f3⟩ := hG e c1
                have hNe := ldN_le e w
                refine s_aload_n 0 C dS_load_53 rfl ?_
                refine s_aload_n 1 C dS_load_54 rfl ?_
                refine s_get (.ref a1) 6 2 C wfP inG flS_39 dS_load_55 rfl rfl (by decide) rfl ?_
                refine s_iload_n 3 C dS_load_58 rfl ?_
                refine s_ialdN 7 C wfP dS_load_59 rfl (by omega) (by decide) ?_
                refine s_aload_n 1 C dS_load_60 rfl ?_
                refine s_get (.ref a2) 6 3 C wfP inG flS_42 dS_load_61 rfl rfl (by decide) rfl ?_
                refine s_iload_n 3 C dS_load_64 rfl ?_
                refine s_ialdN 8 C wfP dS_load_65 rfl (by omega) (by decide) ?_
                refine s_min C mlS_45 dS_load_66 (by decide) (Nat.le_of_ble_eq_true rfl) (Nat.zero_le _) (Nat.zero_le _) ?_
                refine s_top (minI (by omega) (by omega)) ?_
                refine s_aload_n 1 C dS_load_69 rfl ?_
                refine s_get (.ref a1) 6 2 C wfP inG flS_39 dS_load_70 rfl rfl (by decide) rfl ?_
                refine s_iload_n 3 C dS_load_73 rfl ?_
                refine s_ialdN 7 C wfP dS_load_74 rfl (by omega) (by decide) ?_
                refine s_aload_n 1 C dS_load_75 rfl ?_
                refine s_get (.ref a2) 6 3 C wfP inG flS_42 dS_load_76 rfl rfl (by decide) rfl ?_
                refine s_iload_n 3 C dS_load_79 rfl ?_
                refine s_ialdN 8 C wfP dS_load_80 rfl (by omega) (by decide) ?_
                refine s_max C mlS_51 dS_load_81 (by decide) (Nat.le_of_ble_eq_true rfl) (Nat.zero_le _) (Nat.zero_le _) ?_
                refine s_top (maxI (by omega) (by omega)) ?_
                refine s_callV (n := 2) (wr := [(b4, .inl (cA, 9, .inl (aN wa))), (g, .inr (2, [.int (nI n), .int (nI m), .ref a1, .ref a2, .ref a3])), (a1, .inl (cA, 14, .inl (aN fi))), (a2, .inl (cA, 14, .inl (aN se))), (a3, .inl (cA, 9, .inl (aN wa)))]) [0, 1, 2, 3, 5] [4, 6, 7, 8, 9] 0 [] C hA (kS_take E.2.1 D cA s b1 b2 b3 b4 b5 (ldN e w) hd tl ah TW en fs fc (min (fi e) (se e)) (max (fi e) (se e)) (by omega) (by omega) (by omega) (fun j hj => (hI.1 j hj).1) (fun j hj => (hI.1 j hj).2.1)) gS_54 dS_load_84 (by decide +kernel) rfl rfl (by decide) (by decide) (by decide) rfl rfl rfl (by decide) (by decide) rfl rfl (Nat.le_of_ble_eq_true rfl) (Nat.zero_le _) (Nat.zero_le _) (fun u hu => ?_)
                refine s_sub (ws' := [(s, .inr (3, [.int (nI (ldN e w + 1)), .ref b1, .ref b2, .ref b3, .ref b4, .ref b5, .int en, .int fs, .int fc])), (b1, .inl (cA, 14, .inl (aN (nup hd (ldN e w) (min (fi e) (se e)))))), (b2, .inl (cA, 14, .inl (aN (nup tl (ldN e w) (max (fi e) (se e)))))), (b3, .inl (cA, 14, .inl u)), (b4, .inl (cA, 9, .inl (aN wa))), (b5, .inl (cA, 9, .inl (aN (up2 ah (min (fi e) (se e)) (max (fi e) (se e)))))), (g, .inr (2, [.int (nI n), .int (nI m), .ref a1, .ref a2, .ref a3])), (a1, .inl (cA, 14, .inl (aN fi))), (a2, .inl (cA, 14, .inl (aN se))), (a3, .inl (cA, 9, .inl (aN wa)))]) [5, 6, 7, 8, 0, 9, 1, 2, 3, 4] rfl (by decide) ?_
                refine s_iinc (j := 3) (nI (e + 1)) [(0, .ref s), (1, .ref g), (2, .int wo), (3, .int (nI (e + 1)))] [1, 2, 3, 0] C dS_load_87 rfl (inc1 _) (by decide) rfl ?_
                refine s_goto (tgt := 40) C dS_load_90 (by decide) ?_
                have h9 := ih2 (e + 1) _ _ u _ (by omega) (ld_take ew f1 f2 f3 hI hu)
                rw [ldN_n ew] at h9
                exact h9
        have h9 := loop2 m 0 hd tl TW _ (by omega) (ld_0 fi se w hd tl TW)
        exact h9
      · exact absurd c1 (by omega)
    | succ k ih =>
      intro i T T2 hi hT hT2
      refine s_iload_n 3 C dS_load_7 rfl ?_
      refine s_bipush (nI 9) C dS_load_8 (by decide) ?_
      refine s_icmp_geN 38 C dS_load_10 (by decide) (by omega) (by omega) (fun c1 => ?_) (fun c1 => ?_)
      · exact absurd c1 (by omega)
      · refine s_aload_n 0 C dS_load_13 rfl ?_
        refine s_get (.ref b4) 0 4 C wfP inS flS_21 dS_load_14 rfl rfl (by decide) rfl ?_
        refine s_iload_n 3 C dS_load_17 rfl ?_
        refine s_aload_n 1 C dS_load_18 rfl ?_
        refine s_get (.ref a3) 6 4 C wfP inG flS_31 dS_load_19 rfl rfl (by decide) rfl ?_
        refine s_iload_n 3 C dS_load_22 rfl ?_
        refine s_ialdN 9 C wfP dS_load_23 rfl (by omega) (by decide) ?_
        refine s_iast 4 [(s, .inr (3, [.int (nI 0), .ref b1, .ref b2, .ref b3, .ref b4, .ref b5, .int en, .int fs, .int fc])), (b1, .inl (cA, 14, .inl (aN hd))), (b2, .inl (cA, 14, .inl (aN tl))), (b3, .inl (cA, 14, .inl TW)), (b4, .inl (cA, 9, .inl (upd T i (nI (wa i))))), (b5, .inl (cA, 9, .inl T2)), (g, .inr (2, [.int (nI n), .int (nI m), .ref a1, .ref a2, .ref a3])), (a1, .inl (cA, 14, .inl (aN fi))), (a2, .inl (cA, 14, .inl (aN se))), (a3, .inl (cA, 9, .inl (aN wa)))] C dS_load_24 rfl (by omega) (by decide) rfl ?_
        refine s_aload_n 0 C dS_load_25 rfl ?_
        refine s_get (.ref b5) 0 5 C wfP inS flS_24 dS_load_26 rfl rfl (by decide) rfl ?_
        refine s_iload_n 3 C dS_load_29 rfl ?_
        refine s_iconst (nI 0) C dS_load_30 (by decide) ?_
        refine s_iast 5 [(s, .inr (3, [.int (nI 0), .ref b1, .ref b2, .ref b3, .ref b4, .ref b5, .int en, .int fs, .int fc])), (b1, .inl (cA, 14, .inl (aN hd))), (b2, .inl (cA, 14, .inl (aN tl))), (b3, .inl (cA, 14, .inl TW)), (b4, .inl (cA, 9, .inl (upd T i (nI (wa i))))), (b5, .inl (cA, 9, .inl (upd T2 i (nI 0)))), (g, .inr (2, [.int (nI n), .int (nI m), .ref a1, .ref a2, .ref a3])), (a1, .inl (cA, 14, .inl (aN fi))), (a2, .inl (cA, 14, .inl (aN se))), (a3, .inl (cA, 9, .inl (aN wa)))] C dS_load_31 rfl (by omega) (by decide) rfl ?_
        refine s_iinc (j := 3) (nI (i + 1)) [(0, .ref s), (1, .ref g), (2, .int wo), (3, .int (nI (i + 1)))] [1, 2, 3, 0] C dS_load_32 rfl (inc1 _) (by decide) rfl ?_
        refine s_goto (tgt := 7) C dS_load_35 (by decide) ?_
        refine ih (i + 1) _ _ (by omega) (fun j hj => ?_) (fun j hj => ?_)
        · unfold upd
          by_cases q : j = i
          · subst q; rw [if_pos rfl]
          · rw [if_neg q]; exact hT j (by omega)
        · unfold upd
          by_cases q : j = i
          · subst q; rw [if_pos rfl]
          · rw [if_neg q]; exact hT2 j (by omega)
  exact loop 9 0 LF AH (by omega) (fun j hj => absurd hj (by omega)) (fun j hj => absurd hj (by omega))
end
section
set_option maxHeartbeats 4000000 in
set_option maxRecDepth 100000 in
/-- the search, from an edge on -/
theorem kS_explore (l : Launch) (D : va_G) (cA : ClassId) (s b1 b2 b3 b4 b5 N : Nat) (hd tl c : Nat → Nat) (TW : Nat → Int32) (en : Nat) (hN : N ≤ 14) (hE : hok hd tl 9 N) (hTW : twOK hd tl TW N) (hc : ∀ v, v < 9 → c v ≤ 100) (hen : en ≤ 20) : ∀ (k e S ct fs g : Nat) (lf ah : Nat → Nat), e + k = N → exB hd tl N c (twf TW) e S ct → (∀ v, v < 9 → lf v = c v - hdg hd tl N (bm S) v) → (∀ v, v < 9 → ah v = su (fun j => if e ≤ j then hin hd tl j v else 0) N) → g ≤ 20 → CtV (S := Nat × Nat) l yS_explore (.code yS_explore cS_explore 6 none) (2 + k) 0 0 D cA [.ref s, .int (nI e), .int (nI S), .int (nI ct)] [(s, .inr (3, [.int (nI N), .ref b1, .ref b2, .ref b3, .ref b4, .ref b5, .int (nI en), .int (nI fs), .int (nI g - 1)])), (b1, .inl (cA, 14, .inl (aN hd))), (b2, .inl (cA, 14, .inl (aN tl))), (b3, .inl (cA, 14, .inl TW)), (b4, .inl (cA, 9, .inl (aN lf))), (b5, .inl (cA, 9, .inl (aN ah)))] (fun u => exP hd tl N c (twf TW) en e S ct fs g u.1 u.2) (fun u => [(s, .inr (3, [.int (nI N), .ref b1, .ref b2, .ref b3, .ref b4, .ref b5, .int (nI en), .int (nI u.1), .int (nI u.2 - 1)])), (b1, .inl (cA, 14, .inl (aN hd))), (b2, .inl (cA, 14, .inl (aN tl))), (b3, .inl (cA, 14, .inl TW)), (b4, .inl (cA, 9, .inl (aN lf))), (b5, .inl (cA, 9, .inl (aN ah)))]) := by
  intro k
  induction k with
  | zero =>
    intro e S ct fs g lf ah hk hB hlf hah hg
    have hct : ct ≤ N := by rw [← hB.2.2.1]; exact hsz_le N _
    have hS2 : S < 2 ^ 14 := Nat.lt_of_lt_of_le hB.2.1 (Nat.pow_le_pow_right (by decide) (by omega))
    refine mkV [(0, .ref s), (1, .int (nI e)), (2, .int (nI S)), (3, .int (nI ct))] (by decide) rfl (Nat.le_of_ble_eq_true rfl) ?_
    intro E A Q hE0 hi C hA hret
    subst hE0
    have rest : ∀ fs1 g1 : Nat, fs1 = (if g ≤ ct then S else fs) → g1 = max g (ct + 1) → ST E 6 Q 0 0 (wf E A D [(s, .inr (3, [.int (nI N), .ref b1, .ref b2, .ref b3, .ref b4, .ref b5, .int (nI en), .int (nI fs1), .int (nI g1 - 1)])), (b1, .inl (cA, 14, .inl (aN hd))), (b2, .inl (cA, 14, .inl (aN tl))), (b3, .inl (cA, 14, .inl TW)), (b4, .inl (cA, 9, .inl (aN lf))), (b5, .inl (cA, 9, .inl (aN ah)))]) [(0, .ref s), (1, .int (nI e)), (2, .int (nI S)), (3, .int (nI ct))] [] 18 := by
      intro fs1 g1 ef eg
      refine s_iload_n 1 C dS_explore_18 rfl ?_
      refine s_aload_n 0 C dS_explore_19 rfl ?_
      refine s_get (.int (nI N)) 0 0 C wfP inS flS_27 dS_explore_20 rfl rfl (by decide) rfl ?_
      refine s_icmp_geN 50 C dS_explore_23 (by decide) (by omega) (by omega) (fun c1 => ?_) (fun c1 => ?_)
      · refine hret (fs1, g1) _ _ dS_explore_50 ?_
        show exP hd tl N c (twf TW) en e S ct fs g fs1 g1
        rw [ef, eg]
        refine ex_leaf hE hB (Or.inl (by omega))
      · exact absurd c1 (by omega)
    refine s_iload_n 3 C dS_explore_0 rfl ?_
    refine s_aload_n 0 C dS_explore_1 rfl ?_
    refine s_get (.int (nI g - 1)) 0 8 C wfP inS flS_61 dS_explore_2 rfl rfl (by decide) rfl ?_
    refine s_icmp_le 18 C dS_explore_5 (by decide) (fun c0 => ?_) (fun c0 => ?_)
    · have c9 : ct < g := (fc_le (by omega) (by omega)).mp c0
      exact rest fs g (by rw [if_neg (by omega)]) (by omega)
    · have c9 : ¬ ct < g := fun h => c0 ((fc_le (by omega) (by omega)).mpr h)
      refine s_aload_n 0 C dS_explore_8 rfl ?_
      refine s_iload_n 3 C dS_explore_9 rfl ?_
      refine s_put 0 8 [(s, .inr (3, [.int (nI N), .ref b1, .ref b2, .ref b3, .ref b4, .ref b5, .int (nI en), .int (nI fs), .int (nI ct)])), (b1, .inl (cA, 14, .inl (aN hd))), (b2, .inl (cA, 14, .inl (aN tl))), (b3, .inl (cA, 14, .inl TW)), (b4, .inl (cA, 9, .inl (aN lf))), (b5, .inl (cA, 9, .inl (aN ah)))] C inS tyS_ok nmS flS_61 dS_explore_10 rfl rfl (by decide) rfl rfl rfl (Nat.le_of_ble_eq_true rfl) rfl ?_
      refine s_aload_n 0 C dS_explore_13 rfl ?_
      refine s_iload_n 2 C dS_explore_14 rfl ?_
      refine s_put 0 7 [(s, .inr (3, [.int (nI N), .ref b1, .ref b2, .ref b3, .ref b4, .ref b5, .int (nI en), .int (nI S), .int (nI ct)])), (b1, .inl (cA, 14, .inl (aN hd))), (b2, .inl (cA, 14, .inl (aN tl))), (b3, .inl (cA, 14, .inl TW)), (b4, .inl (cA, 9, .inl (aN lf))), (b5, .inl (cA, 9, .inl (aN ah)))] C inS tyS_ok nmS flS_58 dS_explore_15 rfl rfl (by decide) rfl rfl rfl (Nat.le_of_ble_eq_true rfl) rfl ?_
      refine s_eqw (ws' := [(s, .inr (3, [.int (nI N), .ref b1, .ref b2, .ref b3, .ref b4, .ref b5, .int (nI en), .int (nI S), .int (nI (ct + 1) - 1)])), (b1, .inl (cA, 14, .inl (aN hd))), (b2, .inl (cA, 14, .inl (aN tl))), (b3, .inl (cA, 14, .inl TW)), (b4, .inl (cA, 9, .inl (aN lf))), (b5, .inl (cA, 9, .inl (aN ah)))]) (by rw [nI_pred]) ?_
      exact rest S (ct + 1) (by rw [if_pos (by omega)]) (by omega)
  | succ k ih =>
    intro e S ct fs g lf ah hk hB hlf hah hg
    have hct : ct ≤ N := by rw [← hB.2.2.1]; exact hsz_le N _
    have hS2 : S < 2 ^ 14 := Nat.lt_of_lt_of_le hB.2.1 (Nat.pow_le_pow_right (by decide) (by omega))
    refine mkV [(0, .ref s), (1, .int (nI e)), (2, .int (nI S)), (3, .int (nI ct))] (by decide) rfl (Nat.le_of_ble_eq_true rfl) ?_
    intro E A Q hE0 hi C hA hret
    subst hE0
    have rest : ∀ fs1 g1 : Nat, fs1 = (if g ≤ ct then S else fs) → g1 = max g (ct + 1) → ST E 6 Q 0 0 (wf E A D [(s, .inr (3, [.int (nI N), .ref b1, .ref b2, .ref b3, .ref b4, .ref b5, .int (nI en), .int (nI fs1), .int (nI g1 - 1)])), (b1, .inl (cA, 14, .inl (aN hd))), (b2, .inl (cA, 14, .inl (aN tl))), (b3, .inl (cA, 14, .inl TW)), (b4, .inl (cA, 9, .inl (aN lf))), (b5, .inl (cA, 9, .inl (aN ah)))]) [(0, .ref s), (1, .int (nI e)), (2, .int (nI S)), (3, .int (nI ct))] [] 18 := by
      intro fs1 g1 ef eg
      refine s_iload_n 1 C dS_explore_18 rfl ?_
      refine s_aload_n 0 C dS_explore_19 rfl ?_
      refine s_get (.int (nI N)) 0 0 C wfP inS flS_27 dS_explore_20 rfl rfl (by decide) rfl ?_
      refine s_icmp_geN 50 C dS_explore_23 (by decide) (by omega) (by omega) (fun c1 => ?_) (fun c1 => ?_)
      · exact absurd c1 (by omega)
      · refine s_aload_n 0 C dS_explore_26 rfl ?_
        refine s_get (.int (nI g1 - 1)) 0 8 C wfP inS flS_61 dS_explore_27 rfl rfl (by decide) rfl ?_
        refine s_aload_n 0 C dS_explore_30 rfl ?_
        refine s_get (.int (nI en)) 0 6 C wfP inS flS_64 dS_explore_31 rfl rfl (by decide) rfl ?_
        refine s_icmp_ge 50 C dS_explore_34 (by decide) (fun c2 => ?_) (fun c2 => ?_)
        · have c3 : en < g1 := (fc_le (by omega) (by omega)).mp c2
          refine hret (fs1, g1) _ _ dS_explore_50 ?_
          show exP hd tl N c (twf TW) en e S ct fs g fs1 g1
          rw [ef, eg]
          refine ex_leaf hE hB (Or.inr (Or.inl (by omega)))
        · have c3 : ¬ en < g1 := fun h => c2 ((fc_le (by omega) (by omega)).mpr h)
          have hlb : ∀ v, v < 9 → lf v ≤ 100 := fun v hv => by rw [hlf v hv]; have := hc v hv; omega
          have hab := ah_bd hah
          refine s_iload_n 3 C dS_explore_37 rfl ?_
          refine s_aload_n 0 C dS_explore_38 rfl ?_
          refine s_callP (n := 0) [0, 4, 5] 0 [.int (nI ct)] C wfP (kS_hope E.2.1 D cA s b1 b2 b3 b4 b5 N lf ah (nI en) (nI fs1) (nI g1 - 1) hlb (fun v hv => by have := hab v hv; omega)) gS_71 dS_explore_39 (by decide +kernel) rfl rfl rfl rfl (by omega) (by decide) rfl rfl (Nat.le_of_ble_eq_true rfl) (Nat.zero_le _) (Nat.zero_le _) (fun r hp => ?_)
          refine s_top hp ?_
          have hhp : su (fun v => min (lf v) (ah v)) 9 / 2 = su (fun v => min (c v - hdg hd tl N (bm S) v) (su (fun j => if e ≤ j then hin hd tl j v else 0) N)) 9 / 2 := by
            rw [su_cg (g := fun v => min (c v - hdg hd tl N (bm S) v) (su (fun j => if e ≤ j then hin hd tl j v else 0) N)) (fun v hv => by rw [hlf v hv, hah v hv])]
          have hhb : su (fun v => min (lf v) (ah v)) 9 / 2 ≤ 1000 := by
            have h9 : su (fun v => min (lf v) (ah v)) 9 ≤ su (fun _ => 100) 9 := su_le (fun v hv => by have := hlb v hv; omega)
            have h8 : su (fun _ => 100) 9 = 900 := by decide
            omega
          refine s_iaddN C dS_explore_42 ?_
          refine s_aload_n 0 C dS_explore_43 rfl ?_
          refine s_get (.int (nI g1 - 1)) 0 8 C wfP inS flS_61 dS_explore_44 rfl rfl (by decide) rfl ?_
          refine s_icmp_gt 51 C dS_explore_47 (by decide) (fun c4 => ?_) (fun c4 => ?_)
          · have c5 : g1 ≤ ct + su (fun v => min (lf v) (ah v)) 9 / 2 := (fc_lt (by omega) (by omega)).mp c4
            obtain ⟨hx1, hx2, hxn⟩ := hE e (by omega)
            obtain ⟨hp1, hp2⟩ := ah_pos hE (by omega) hah
            have hp3 : 0 < nup ah (hd e) (ah (hd e) - 1) (tl e) := by rw [nup_n (Ne.symm hxn)]; exact hp2
            refine s_aload_n 0 C dS_explore_51 rfl ?_
            refine s_get (.ref b1) 0 1 C wfP inS flS_9 dS_explore_52 rfl rfl (by decide) rfl ?_
            refine s_iload_n 1 C dS_explore_55 rfl ?_
            refine s_ialdN 1 C wfP dS_explore_56 rfl (by omega) (by decide) ?_
            refine s_istore [(0, .ref s), (1, .int (nI e)), (2, .int (nI S)), (3, .int (nI ct)), (4, .int (nI (hd e)))] [1, 2, 3, 4, 0] C dS_explore_57 (by decide) rfl ?_
            refine s_aload_n 0 C dS_explore_59 rfl ?_
            refine s_get (.ref b2) 0 2 C wfP inS flS_15 dS_explore_60 rfl rfl (by decide) rfl ?_
            refine s_iload_n 1 C dS_explore_63 rfl ?_
            refine s_ialdN 2 C wfP dS_explore_64 rfl (by omega) (by decide) ?_
            refine s_istore [(0, .ref s), (1, .int (nI e)), (2, .int (nI S)), (3, .int (nI ct)), (4, .int (nI (hd e))), (5, .int (nI (tl e)))] [1, 2, 3, 4, 5, 0] C dS_explore_65 (by decide) rfl ?_
            refine s_aload_n 0 C dS_explore_67 rfl ?_
            refine s_get (.ref b5) 0 5 C wfP inS flS_24 dS_explore_68 rfl rfl (by decide) rfl ?_
            refine s_iload 4 C dS_explore_71 rfl ?_
            refine s_dup2 C dS_explore_73 rfl rfl ?_
            refine s_ialdN 5 C wfP dS_explore_74 rfl (by omega) (by decide) ?_
            refine s_iconst (nI 1) C dS_explore_75 (by decide) ?_
            refine s_isubN C dS_explore_76 (by omega) ?_
            refine s_iastN 5 [(s, .inr (3, [.int (nI N), .ref b1, .ref b2, .ref b3, .ref b4, .ref b5, .int (nI en), .int (nI fs1), .int (nI g1 - 1)])), (b1, .inl (cA, 14, .inl (aN hd))), (b2, .inl (cA, 14, .inl (aN tl))), (b3, .inl (cA, 14, .inl TW)), (b4, .inl (cA, 9, .inl (aN lf))), (b5, .inl (cA, 9, .inl (aN (nup ah (hd e) ((ah (hd e)) - 1)))))] C dS_explore_77 rfl (by omega) (by decide) rfl ?_
            refine s_aload_n 0 C dS_explore_78 rfl ?_
            refine s_get (.ref b5) 0 5 C wfP inS flS_24 dS_explore_79 rfl rfl (by decide) rfl ?_
            refine s_iload 5 C dS_explore_82 rfl ?_
            refine s_dup2 C dS_explore_84 rfl rfl ?_
            refine s_ialdN 5 C wfP dS_explore_85 rfl (by omega) (by decide) ?_
            refine s_iconst (nI 1) C dS_explore_86 (by decide) ?_
            refine s_isubN C dS_explore_87 (by omega) ?_
            refine s_iastN 5 [(s, .inr (3, [.int (nI N), .ref b1, .ref b2, .ref b3, .ref b4, .ref b5, .int (nI en), .int (nI fs1), .int (nI g1 - 1)])), (b1, .inl (cA, 14, .inl (aN hd))), (b2, .inl (cA, 14, .inl (aN tl))), (b3, .inl (cA, 14, .inl TW)), (b4, .inl (cA, 9, .inl (aN lf))), (b5, .inl (cA, 9, .inl (aN (nup (nup ah (hd e) ((ah (hd e)) - 1)) (tl e) (((nup ah (hd e) ((ah (hd e)) - 1)) (tl e)) - 1)))))] C dS_explore_88 rfl (by omega) (by decide) rfl ?_
            have off : ∀ fs2 g2 : Nat, (exM hd tl N c (twf TW) e S → exP hd tl N c (twf TW) en (e + 1) (S ||| 2 ^ e) (ct + 1) fs1 g1 fs2 g2) → (¬ exM hd tl N c (twf TW) e S → fs2 = fs1 ∧ g2 = g1) → g2 ≤ 20 → ST E 6 Q 0 0 (wf E A D [(s, .inr (3, [.int (nI N), .ref b1, .ref b2, .ref b3, .ref b4, .ref b5, .int (nI en), .int (nI fs2), .int (nI g2 - 1)])), (b1, .inl (cA, 14, .inl (aN hd))), (b2, .inl (cA, 14, .inl (aN tl))), (b3, .inl (cA, 14, .inl TW)), (b4, .inl (cA, 9, .inl (aN lf))), (b5, .inl (cA, 9, .inl (aN (dn2 ah (hd e) (tl e)))))]) [(0, .ref s), (1, .int (nI e)), (2, .int (nI S)), (3, .int (nI ct)), (4, .int (nI (hd e))), (5, .int (nI (tl e)))] [] 157 := by
              intro fs2 g2 h1 h2 hg2
              refine s_aload_n 0 C dS_explore_157 rfl ?_
              refine s_iload_n 1 C dS_explore_158 rfl ?_
              refine s_iconst (nI 1) C dS_explore_159 (by decide) ?_
              refine s_iaddN C dS_explore_160 ?_
              refine s_iload_n 2 C dS_explore_161 rfl ?_
              refine s_iload_n 3 C dS_explore_162 rfl ?_
              refine s_callVS (n := 4) (wr := []) [0, 1, 2, 3, 4, 5] [] [] C hA (ih (e + 1) S ct fs2 g2 lf (dn2 ah (hd e) (tl e)) (by omega) (exB_off hB (by omega)) hlf (ah_dn hE (by omega) hah) hg2) gS_67 dS_explore_163 (by decide +kernel) rfl rfl (by decide) (by decide) (by decide) (by omega) (by decide) rfl rfl (Nat.le_of_ble_eq_true rfl) (Nat.zero_le _) (Nat.zero_le _) (fun u hu => ?_)
              refine s_sub (ws' := [(s, .inr (3, [.int (nI N), .ref b1, .ref b2, .ref b3, .ref b4, .ref b5, .int (nI en), .int (nI u.1), .int (nI u.2 - 1)])), (b1, .inl (cA, 14, .inl (aN hd))), (b2, .inl (cA, 14, .inl (aN tl))), (b3, .inl (cA, 14, .inl TW)), (b4, .inl (cA, 9, .inl (aN lf))), (b5, .inl (cA, 9, .inl (aN (dn2 ah (hd e) (tl e)))))]) [0, 1, 2, 3, 4, 5] rfl (by decide) ?_
              refine s_aload_n 0 C dS_explore_166 rfl ?_
              refine s_get (.ref b5) 0 5 C wfP inS flS_24 dS_explore_167 rfl rfl (by decide) rfl ?_
              refine s_iload 4 C dS_explore_170 rfl ?_
              refine s_dup2 C dS_explore_172 rfl rfl ?_
              refine s_ialdN 5 C wfP dS_explore_173 rfl (by omega) (by decide) ?_
              refine s_iconst (nI 1) C dS_explore_174 (by decide) ?_
              refine s_iaddN C dS_explore_175 ?_
              refine s_iastN 5 [(s, .inr (3, [.int (nI N), .ref b1, .ref b2, .ref b3, .ref b4, .ref b5, .int (nI en), .int (nI u.1), .int (nI u.2 - 1)])), (b1, .inl (cA, 14, .inl (aN hd))), (b2, .inl (cA, 14, .inl (aN tl))), (b3, .inl (cA, 14, .inl TW)), (b4, .inl (cA, 9, .inl (aN lf))), (b5, .inl (cA, 9, .inl (aN (nup (dn2 ah (hd e) (tl e)) (hd e) ((dn2 ah (hd e) (tl e)) (hd e) + 1)))))] C dS_explore_176 rfl (by omega) (by decide) rfl ?_
              refine s_aload_n 0 C dS_explore_177 rfl ?_
              refine s_get (.ref b5) 0 5 C wfP inS flS_24 dS_explore_178 rfl rfl (by decide) rfl ?_
              refine s_iload 5 C dS_explore_181 rfl ?_
              refine s_dup2 C dS_explore_183 rfl rfl ?_
              refine s_ialdN 5 C wfP dS_explore_184 rfl (by omega) (by decide) ?_
              refine s_iconst (nI 1) C dS_explore_185 (by decide) ?_
              refine s_iaddN C dS_explore_186 ?_
              refine s_iastN 5 [(s, .inr (3, [.int (nI N), .ref b1, .ref b2, .ref b3, .ref b4, .ref b5, .int (nI en), .int (nI u.1), .int (nI u.2 - 1)])), (b1, .inl (cA, 14, .inl (aN hd))), (b2, .inl (cA, 14, .inl (aN tl))), (b3, .inl (cA, 14, .inl TW)), (b4, .inl (cA, 9, .inl (aN lf))), (b5, .inl (cA, 9, .inl (aN (nup (nup (dn2 ah (hd e) (tl e)) (hd e) ((dn2 ah (hd e) (tl e)) (hd e) + 1)) (tl e) ((nup (dn2 ah (hd e) (tl e)) (hd e) ((dn2 ah (hd e) (tl e)) (hd e) + 1)) (tl e) + 1)))))] C dS_explore_187 rfl (by omega) (by decide) rfl ?_
              have er := up_dn (f := ah) hxn hp1 hp2
              refine s_eqw (ws' := [(s, .inr (3, [.int (nI N), .ref b1, .ref b2, .ref b3, .ref b4, .ref b5, .int (nI en), .int (nI u.1), .int (nI u.2 - 1)])), (b1, .inl (cA, 14, .inl (aN hd))), (b2, .inl (cA, 14, .inl (aN tl))), (b3, .inl (cA, 14, .inl TW)), (b4, .inl (cA, 9, .inl (aN lf))), (b5, .inl (cA, 9, .inl (aN (up2 (dn2 ah (hd e) (tl e)) (hd e) (tl e)))))]) rfl ?_
              rw [er]
              refine hret u _ _ dS_explore_188 ?_
              exact ex_node hE hB (by omega) ef eg (by omega) h1 h2 hu
            have hmay := may_iff (c := c) (lf := lf) (S := S) hN hE (by omega : e < N) hTW hlf
            refine s_aload_n 0 C dS_explore_89 rfl ?_
            refine s_iload_n 1 C dS_explore_90 rfl ?_
            refine s_iload_n 2 C dS_explore_91 rfl ?_
            refine s_callP (n := 2) [0, 1, 2, 3, 4] 0 [] C wfP (kS_mayAdd E.2.1 D cA s b1 b2 b3 b4 b5 N hd tl lf TW (nI en) (nI fs1) (nI g1 - 1) e S hN (by omega) hS2 hx1 hx2 (by rcases hTW e (by omega) with q | ⟨i, h1, h2, _⟩; exact Or.inl q; exact Or.inr ⟨i, h1, h2⟩) hlb) gS_75 dS_explore_92 (by decide +kernel) rfl rfl rfl rfl (by omega) (by decide) rfl rfl (Nat.le_of_ble_eq_true rfl) (Nat.zero_le _) (Nat.zero_le _) (fun r2 hp2 => ?_)
            rcases hp2 with ⟨er, hm⟩ | ⟨er, hm⟩
            · refine s_top er ?_
              refine s_if_eqN 157 C dS_explore_95 (by decide) (by decide) (fun c6 => ?_) (fun c6 => ?_)
              · exact absurd c6 (by decide)
              · have hl1 : 0 < lf (hd e) := hm.2.1
                have hl2 : 0 < lf (tl e) := hm.2.2
                have hl3 : 0 < nup lf (hd e) (lf (hd e) - 1) (tl e) := by rw [nup_n (Ne.symm hxn)]; exact hl2
                have hlb1 := hlb _ hx1
                have hlb2 := hlb _ hx2
                refine s_aload_n 0 C dS_explore_98 rfl ?_
                refine s_get (.ref b4) 0 4 C wfP inS flS_21 dS_explore_99 rfl rfl (by decide) rfl ?_
                refine s_iload 4 C dS_explore_102 rfl ?_
                refine s_dup2 C dS_explore_104 rfl rfl ?_
                refine s_ialdN 4 C wfP dS_explore_105 rfl (by omega) (by decide) ?_
                refine s_iconst (nI 1) C dS_explore_106 (by decide) ?_
                refine s_isubN C dS_explore_107 (by omega) ?_
                refine s_iastN 4 [(s, .inr (3, [.int (nI N), .ref b1, .ref b2, .ref b3, .ref b4, .ref b5, .int (nI en), .int (nI fs1), .int (nI g1 - 1)])), (b1, .inl (cA, 14, .inl (aN hd))), (b2, .inl (cA, 14, .inl (aN tl))), (b3, .inl (cA, 14, .inl TW)), (b4, .inl (cA, 9, .inl (aN (nup lf (hd e) ((lf (hd e)) - 1))))), (b5, .inl (cA, 9, .inl (aN (nup (nup ah (hd e) ((ah (hd e)) - 1)) (tl e) (((nup ah (hd e) ((ah (hd e)) - 1)) (tl e)) - 1)))))] C dS_explore_108 rfl (by omega) (by decide) rfl ?_
                refine s_aload_n 0 C dS_explore_109 rfl ?_
                refine s_get (.ref b4) 0 4 C wfP inS flS_21 dS_explore_110 rfl rfl (by decide) rfl ?_
                refine s_iload 5 C dS_explore_113 rfl ?_
                refine s_dup2 C dS_explore_115 rfl rfl ?_
                refine s_ialdN 4 C wfP dS_explore_116 rfl (by omega) (by decide) ?_
                refine s_iconst (nI 1) C dS_explore_117 (by decide) ?_
                refine s_isubN C dS_explore_118 (by omega) ?_
                refine s_iastN 4 [(s, .inr (3, [.int (nI N), .ref b1, .ref b2, .ref b3, .ref b4, .ref b5, .int (nI en), .int (nI fs1), .int (nI g1 - 1)])), (b1, .inl (cA, 14, .inl (aN hd))), (b2, .inl (cA, 14, .inl (aN tl))), (b3, .inl (cA, 14, .inl TW)), (b4, .inl (cA, 9, .inl (aN (nup (nup lf (hd e) ((lf (hd e)) - 1)) (tl e) (((nup lf (hd e) ((lf (hd e)) - 1)) (tl e)) - 1))))), (b5, .inl (cA, 9, .inl (aN (nup (nup ah (hd e) ((ah (hd e)) - 1)) (tl e) (((nup ah (hd e) ((ah (hd e)) - 1)) (tl e)) - 1)))))] C dS_explore_119 rfl (by omega) (by decide) rfl ?_
                refine s_aload_n 0 C dS_explore_120 rfl ?_
                refine s_iload_n 1 C dS_explore_121 rfl ?_
                refine s_iconst (nI 1) C dS_explore_122 (by decide) ?_
                refine s_iaddN C dS_explore_123 ?_
                refine s_iload_n 2 C dS_explore_124 rfl ?_
                refine s_iconst (nI 1) C dS_explore_125 (by decide) ?_
                refine s_iload_n 1 C dS_explore_126 rfl ?_
                refine s_shl1 C dS_explore_127 (by omega) ?_
                refine s_iorN C dS_explore_128 ?_
                refine s_iload_n 3 C dS_explore_129 rfl ?_
                refine s_iconst (nI 1) C dS_explore_130 (by decide) ?_
                refine s_iaddN C dS_explore_131 ?_
                refine s_callVS (n := 4) (wr := []) [0, 1, 2, 3, 4, 5] [] [] C hA (ih (e + 1) (S ||| 2 ^ e) (ct + 1) fs1 g1 (dn2 lf (hd e) (tl e)) (dn2 ah (hd e) (tl e)) (by omega) (exB_on hE hB (by omega) (hmay.mp hm)) (lf_step hE (by omega) hB.2.1 hlf) (ah_dn hE (by omega) hah) (by omega)) gS_67 dS_explore_132 (by decide +kernel) rfl rfl (by decide) (by decide) (by decide) (by omega) (by decide) rfl rfl (Nat.le_of_ble_eq_true rfl) (Nat.zero_le _) (Nat.zero_le _) (fun u hu => ?_)
                refine s_sub (ws' := [(s, .inr (3, [.int (nI N), .ref b1, .ref b2, .ref b3, .ref b4, .ref b5, .int (nI en), .int (nI u.1), .int (nI u.2 - 1)])), (b1, .inl (cA, 14, .inl (aN hd))), (b2, .inl (cA, 14, .inl (aN tl))), (b3, .inl (cA, 14, .inl TW)), (b4, .inl (cA, 9, .inl (aN (dn2 lf (hd e) (tl e))))), (b5, .inl (cA, 9, .inl (aN (dn2 ah (hd e) (tl e)))))]) [0, 1, 2, 3, 4, 5] rfl (by decide) ?_
                refine s_aload_n 0 C dS_explore_135 rfl ?_
                refine s_get (.ref b4) 0 4 C wfP inS flS_21 dS_explore_136 rfl rfl (by decide) rfl ?_
                refine s_iload 4 C dS_explore_139 rfl ?_
                refine s_dup2 C dS_explore_141 rfl rfl ?_
                refine s_ialdN 4 C wfP dS_explore_142 rfl (by omega) (by decide) ?_
                refine s_iconst (nI 1) C dS_explore_143 (by decide) ?_
                refine s_iaddN C dS_explore_144 ?_
                refine s_iastN 4 [(s, .inr (3, [.int (nI N), .ref b1, .ref b2, .ref b3, .ref b4, .ref b5, .int (nI en), .int (nI u.1), .int (nI u.2 - 1)])), (b1, .inl (cA, 14, .inl (aN hd))), (b2, .inl (cA, 14, .inl (aN tl))), (b3, .inl (cA, 14, .inl TW)), (b4, .inl (cA, 9, .inl (aN (nup (dn2 lf (hd e) (tl e)) (hd e) ((dn2 lf (hd e) (tl e)) (hd e) + 1))))), (b5, .inl (cA, 9, .inl (aN (dn2 ah (hd e) (tl e)))))] C dS_explore_145 rfl (by omega) (by decide) rfl ?_
                refine s_aload_n 0 C dS_explore_146 rfl ?_
                refine s_get (.ref b4) 0 4 C wfP inS flS_21 dS_explore_147 rfl rfl (by decide) rfl ?_
                refine s_iload 5 C dS_explore_150 rfl ?_
                refine s_dup2 C dS_explore_152 rfl rfl ?_
                refine s_ialdN 4 C wfP dS_explore_153 rfl (by omega) (by decide) ?_
                refine s_iconst (nI 1) C dS_explore_154 (by decide) ?_
                refine s_iaddN C dS_explore_155 ?_
                refine s_iastN 4 [(s, .inr (3, [.int (nI N), .ref b1, .ref b2, .ref b3, .ref b4, .ref b5, .int (nI en), .int (nI u.1), .int (nI u.2 - 1)])), (b1, .inl (cA, 14, .inl (aN hd))), (b2, .inl (cA, 14, .inl (aN tl))), (b3, .inl (cA, 14, .inl TW)), (b4, .inl (cA, 9, .inl (aN (nup (nup (dn2 lf (hd e) (tl e)) (hd e) ((dn2 lf (hd e) (tl e)) (hd e) + 1)) (tl e) ((nup (dn2 lf (hd e) (tl e)) (hd e) ((dn2 lf (hd e) (tl e)) (hd e) + 1)) (tl e) + 1))))), (b5, .inl (cA, 9, .inl (aN (dn2 ah (hd e) (tl e)))))] C dS_explore_156 rfl (by omega) (by decide) rfl ?_
                have erl := up_dn (f := lf) hxn hl1 hl2
                refine s_eqw (ws' := [(s, .inr (3, [.int (nI N), .ref b1, .ref b2, .ref b3, .ref b4, .ref b5, .int (nI en), .int (nI u.1), .int (nI u.2 - 1)])), (b1, .inl (cA, 14, .inl (aN hd))), (b2, .inl (cA, 14, .inl (aN tl))), (b3, .inl (cA, 14, .inl TW)), (b4, .inl (cA, 9, .inl (aN (up2 (dn2 lf (hd e) (tl e)) (hd e) (tl e))))), (b5, .inl (cA, 9, .inl (aN (dn2 ah (hd e) (tl e)))))]) rfl ?_
                rw [erl]
                have hub := ex_bd hu
                exact off u.1 u.2 (fun _ => hu) (fun h => absurd (hmay.mp hm) h) (by omega)
            · refine s_top er ?_
              refine s_if_eqN 157 C dS_explore_95 (by decide) (by decide) (fun c6 => ?_) (fun c6 => ?_)
              · exact off fs1 g1 (fun h => absurd (hmay.mpr h) hm) (fun _ => ⟨rfl, rfl⟩) (by omega)
              · exact absurd rfl c6
          · have c5 : ¬ g1 ≤ ct + su (fun v => min (lf v) (ah v)) 9 / 2 := fun h => c4 ((fc_lt (by omega) (by omega)).mpr h)
            refine hret (fs1, g1) _ _ dS_explore_50 ?_
            show exP hd tl N c (twf TW) en e S ct fs g fs1 g1
            rw [ef, eg]
            refine ex_leaf hE hB (Or.inr (Or.inr (by omega)))
    refine s_iload_n 3 C dS_explore_0 rfl ?_
    refine s_aload_n 0 C dS_explore_1 rfl ?_
    refine s_get (.int (nI g - 1)) 0 8 C wfP inS flS_61 dS_explore_2 rfl rfl (by decide) rfl ?_
    refine s_icmp_le 18 C dS_explore_5 (by decide) (fun c0 => ?_) (fun c0 => ?_)
    · have c9 : ct < g := (fc_le (by omega) (by omega)).mp c0
      exact rest fs g (by rw [if_neg (by omega)]) (by omega)
    · have c9 : ¬ ct < g := fun h => c0 ((fc_le (by omega) (by omega)).mpr h)
      refine s_aload_n 0 C dS_explore_8 rfl ?_
      refine s_iload_n 3 C dS_explore_9 rfl ?_
      refine s_put 0 8 [(s, .inr (3, [.int (nI N), .ref b1, .ref b2, .ref b3, .ref b4, .ref b5, .int (nI en), .int (nI fs), .int (nI ct)])), (b1, .inl (cA, 14, .inl (aN hd))), (b2, .inl (cA, 14, .inl (aN tl))), (b3, .inl (cA, 14, .inl TW)), (b4, .inl (cA, 9, .inl (aN lf))), (b5, .inl (cA, 9, .inl (aN ah)))] C inS tyS_ok nmS flS_61 dS_explore_10 rfl rfl (by decide) rfl rfl rfl (Nat.le_of_ble_eq_true rfl) rfl ?_
      refine s_aload_n 0 C dS_explore_13 rfl ?_
      refine s_iload_n 2 C dS_explore_14 rfl ?_
      refine s_put 0 7 [(s, .inr (3, [.int (nI N), .ref b1, .ref b2, .ref b3, .ref b4, .ref b5, .int (nI en), .int (nI S), .int (nI ct)])), (b1, .inl (cA, 14, .inl (aN hd))), (b2, .inl (cA, 14, .inl (aN tl))), (b3, .inl (cA, 14, .inl TW)), (b4, .inl (cA, 9, .inl (aN lf))), (b5, .inl (cA, 9, .inl (aN ah)))] C inS tyS_ok nmS flS_58 dS_explore_15 rfl rfl (by decide) rfl rfl rfl (Nat.le_of_ble_eq_true rfl) rfl ?_
      refine s_eqw (ws' := [(s, .inr (3, [.int (nI N), .ref b1, .ref b2, .ref b3, .ref b4, .ref b5, .int (nI en), .int (nI S), .int (nI (ct + 1) - 1)])), (b1, .inl (cA, 14, .inl (aN hd))), (b2, .inl (cA, 14, .inl (aN tl))), (b3, .inl (cA, 14, .inl TW)), (b4, .inl (cA, 9, .inl (aN lf))), (b5, .inl (cA, 9, .inl (aN ah)))]) (by rw [nI_pred]) ?_
      exact rest S (ct + 1) (by rw [if_pos (by omega)]) (by omega)
end
section
set_option maxHeartbeats 4000000 in
set_option maxRecDepth 100000 in
/-- the best set -/
theorem kS_maximize (l : Launch) (D : va_G) (cA : ClassId) (s b1 b2 b3 b4 b5 N : Nat) (hd tl lf ah : Nat → Nat) (TW : Nat → Int32) (en fs fc : Int32) (hN : N ≤ 14) (hE : hok hd tl 9 N) (hTW : twOK hd tl TW N) (hlf : ∀ v, v < 9 → lf v ≤ 100) (hah : ∀ v, v < 9 → ah v = su (fun j => hin hd tl j v) N) : CtV (S := Nat × Nat) l yS_maximize (.code yS_maximize cS_maximize 1 none) 20 0 0 D cA [.ref s] [(s, .inr (3, [.int (nI N), .ref b1, .ref b2, .ref b3, .ref b4, .ref b5, .int en, .int fs, .int fc])), (b1, .inl (cA, 14, .inl (aN hd))), (b2, .inl (cA, 14, .inl (aN tl))), (b3, .inl (cA, 14, .inl TW)), (b4, .inl (cA, 9, .inl (aN lf))), (b5, .inl (cA, 9, .inl (aN ah)))] (fun u => u.1 < 2 ^ N ∧ bst hd tl 9 N lf (bm u.1) ∧ hsz N (bm u.1) + 1 = u.2) (fun u => [(s, .inr (3, [.int (nI N), .ref b1, .ref b2, .ref b3, .ref b4, .ref b5, .int (nI N), .int (nI u.1), .int (nI u.2 - 1)])), (b1, .inl (cA, 14, .inl (aN hd))), (b2, .inl (cA, 14, .inl (aN tl))), (b3, .inl (cA, 14, .inl TW)), (b4, .inl (cA, 9, .inl (aN lf))), (b5, .inl (cA, 9, .inl (aN ah)))]) := by
  refine mkV [(0, .ref s)] (by decide) rfl (Nat.le_of_ble_eq_true rfl) ?_
  intro E A Q hE1 hi C hA hret
  have hah2 : ∀ v, v < 9 → ah v = su (fun j => if 0 ≤ j then hin hd tl j v else 0) N := fun v hv => by
    rw [hah v hv]
    exact su_cg (fun j _ => by rw [if_pos (Nat.zero_le _)])
  have hlf2 : ∀ v, v < 9 → lf v = lf v - hdg hd tl N (bm 0) v := fun v hv => by
    have h0 : hdg hd tl N (bm 0) v = 0 := su_z (fun j _ => by rw [bm_0]; simp)
    omega
  refine s_aload_n 0 C dS_maximize_0 rfl ?_
  refine s_iconst (nI 0) C dS_maximize_1 (by decide) ?_
  refine s_put 0 7 [(s, .inr (3, [.int (nI N), .ref b1, .ref b2, .ref b3, .ref b4, .ref b5, .int en, .int (nI 0), .int fc])), (b1, .inl (cA, 14, .inl (aN hd))), (b2, .inl (cA, 14, .inl (aN tl))), (b3, .inl (cA, 14, .inl TW)), (b4, .inl (cA, 9, .inl (aN lf))), (b5, .inl (cA, 9, .inl (aN ah)))] C inS tyS_ok nmS flS_58 dS_maximize_2 rfl rfl (by decide) rfl rfl rfl (Nat.le_of_ble_eq_true rfl) rfl ?_
  refine s_aload_n 0 C dS_maximize_5 rfl ?_
  refine s_iconst (nI 0) C dS_maximize_6 (by decide) ?_
  refine s_put 0 8 [(s, .inr (3, [.int (nI N), .ref b1, .ref b2, .ref b3, .ref b4, .ref b5, .int en, .int (nI 0), .int (nI 0)])), (b1, .inl (cA, 14, .inl (aN hd))), (b2, .inl (cA, 14, .inl (aN tl))), (b3, .inl (cA, 14, .inl TW)), (b4, .inl (cA, 9, .inl (aN lf))), (b5, .inl (cA, 9, .inl (aN ah)))] C inS tyS_ok nmS flS_61 dS_maximize_7 rfl rfl (by decide) rfl rfl rfl (Nat.le_of_ble_eq_true rfl) rfl ?_
  refine s_aload_n 0 C dS_maximize_10 rfl ?_
  refine s_aload_n 0 C dS_maximize_11 rfl ?_
  refine s_get (.int (nI N)) 0 0 C wfP inS flS_27 dS_maximize_12 rfl rfl (by decide) rfl ?_
  refine s_put 0 6 [(s, .inr (3, [.int (nI N), .ref b1, .ref b2, .ref b3, .ref b4, .ref b5, .int (nI N), .int (nI 0), .int (nI 0)])), (b1, .inl (cA, 14, .inl (aN hd))), (b2, .inl (cA, 14, .inl (aN tl))), (b3, .inl (cA, 14, .inl TW)), (b4, .inl (cA, 9, .inl (aN lf))), (b5, .inl (cA, 9, .inl (aN ah)))] C inS tyS_ok nmS flS_64 dS_maximize_15 rfl rfl (by decide) rfl rfl rfl (Nat.le_of_ble_eq_true rfl) rfl ?_
  refine s_aload_n 0 C dS_maximize_18 rfl ?_
  refine s_iconst (nI 0) C dS_maximize_19 (by decide) ?_
  refine s_iconst (nI 0) C dS_maximize_20 (by decide) ?_
  refine s_iconst (nI 0) C dS_maximize_21 (by decide) ?_
  refine s_eqw (ws' := [(s, .inr (3, [.int (nI N), .ref b1, .ref b2, .ref b3, .ref b4, .ref b5, .int (nI N), .int (nI 0), .int (nI 1 - 1)])), (b1, .inl (cA, 14, .inl (aN hd))), (b2, .inl (cA, 14, .inl (aN tl))), (b3, .inl (cA, 14, .inl TW)), (b4, .inl (cA, 9, .inl (aN lf))), (b5, .inl (cA, 9, .inl (aN ah)))]) (by rw [nI_pred]) ?_
  refine s_callVS (n := 4) (wr := []) [0, 1, 2, 3, 4, 5] [] [] C hA (kS_explore E.2.1 D cA s b1 b2 b3 b4 b5 N hd tl lf TW N hN hE hTW hlf (by omega) N 0 0 0 0 1 lf ah (by omega) (exB_0 hd tl N lf (twf TW)) hlf2 hah2 (by omega)) gS_67 dS_maximize_22 (by decide +kernel) rfl rfl (by decide) (by decide) (by decide) (by omega) (by decide) rfl rfl (Nat.le_of_ble_eq_true rfl) (Nat.zero_le _) (Nat.zero_le _) (fun u hu => ?_)
  refine s_sub (ws' := [(s, .inr (3, [.int (nI N), .ref b1, .ref b2, .ref b3, .ref b4, .ref b5, .int (nI N), .int (nI u.1), .int (nI u.2 - 1)])), (b1, .inl (cA, 14, .inl (aN hd))), (b2, .inl (cA, 14, .inl (aN tl))), (b3, .inl (cA, 14, .inl TW)), (b4, .inl (cA, 9, .inl (aN lf))), (b5, .inl (cA, 9, .inl (aN ah)))]) [0, 1, 2, 3, 4, 5] rfl (by decide) ?_
  exact hret u _ _ dS_maximize_25 (ex_best (twOK_tw hN hTW) hu)
set_option maxHeartbeats 4000000 in
set_option maxRecDepth 100000 in
/-- is there a fair set of so many edges -/
theorem kS_reaches (l : Launch) (D : va_G) (cA : ClassId) (s b1 b2 b3 b4 b5 N : Nat) (hd tl lf ah : Nat → Nat) (TW : Nat → Int32) (en fs fc : Int32) (t : Nat) (ht : t ≤ 20) (hN : N ≤ 14) (hE : hok hd tl 9 N) (hTW : twOK hd tl TW N) (hlf : ∀ v, v < 9 → lf v ≤ 100) (hah : ∀ v, v < 9 → ah v = su (fun j => hin hd tl j v) N) : CtI (S := Nat × Nat) l yS_reaches (.code yS_reaches cS_reaches 2 (some .boolean)) 20 0 0 D cA [.ref s, .int (nI t)] [(s, .inr (3, [.int (nI N), .ref b1, .ref b2, .ref b3, .ref b4, .ref b5, .int en, .int fs, .int fc])), (b1, .inl (cA, 14, .inl (aN hd))), (b2, .inl (cA, 14, .inl (aN tl))), (b3, .inl (cA, 14, .inl TW)), (b4, .inl (cA, 9, .inl (aN lf))), (b5, .inl (cA, 9, .inl (aN ah)))] (fun r u => (r = nI 1 ∧ ∃ M, hfa hd tl 9 N lf M ∧ t ≤ hsz N M) ∨ (r = nI 0 ∧ ¬ ∃ M, hfa hd tl 9 N lf M ∧ t ≤ hsz N M)) (fun u => [(s, .inr (3, [.int (nI N), .ref b1, .ref b2, .ref b3, .ref b4, .ref b5, .int (nI t), .int (nI u.1), .int (nI u.2 - 1)])), (b1, .inl (cA, 14, .inl (aN hd))), (b2, .inl (cA, 14, .inl (aN tl))), (b3, .inl (cA, 14, .inl TW)), (b4, .inl (cA, 9, .inl (aN lf))), (b5, .inl (cA, 9, .inl (aN ah)))]) := by
  refine mkI [(0, .ref s), (1, .int (nI t))] (by decide) rfl (Nat.le_of_ble_eq_true rfl) ?_
  intro E A Q hE1 C hA hret
  have hah2 : ∀ v, v < 9 → ah v = su (fun j => if 0 ≤ j then hin hd tl j v else 0) N := fun v hv => by
    rw [hah v hv]
    exact su_cg (fun j _ => by rw [if_pos (Nat.zero_le _)])
  have hlf2 : ∀ v, v < 9 → lf v = lf v - hdg hd tl N (bm 0) v := fun v hv => by
    have h0 : hdg hd tl N (bm 0) v = 0 := su_z (fun j _ => by rw [bm_0]; simp)
    omega
  refine s_aload_n 0 C dS_reaches_0 rfl ?_
  refine s_iconst (nI 0) C dS_reaches_1 (by decide) ?_
  refine s_put 0 7 [(s, .inr (3, [.int (nI N), .ref b1, .ref b2, .ref b3, .ref b4, .ref b5, .int en, .int (nI 0), .int fc])), (b1, .inl (cA, 14, .inl (aN hd))), (b2, .inl (cA, 14, .inl (aN tl))), (b3, .inl (cA, 14, .inl TW)), (b4, .inl (cA, 9, .inl (aN lf))), (b5, .inl (cA, 9, .inl (aN ah)))] C inS tyS_ok nmS flS_58 dS_reaches_2 rfl rfl (by decide) rfl rfl rfl (Nat.le_of_ble_eq_true rfl) rfl ?_
  refine s_aload_n 0 C dS_reaches_5 rfl ?_
  refine s_iload_n 1 C dS_reaches_6 rfl ?_
  refine s_iconst (nI 1) C dS_reaches_7 (by decide) ?_
  refine s_isub C dS_reaches_8 ?_
  refine s_top (y := nI t - 1) (by rw [nI_one]) ?_
  refine s_put 0 8 [(s, .inr (3, [.int (nI N), .ref b1, .ref b2, .ref b3, .ref b4, .ref b5, .int en, .int (nI 0), .int (nI t - 1)])), (b1, .inl (cA, 14, .inl (aN hd))), (b2, .inl (cA, 14, .inl (aN tl))), (b3, .inl (cA, 14, .inl TW)), (b4, .inl (cA, 9, .inl (aN lf))), (b5, .inl (cA, 9, .inl (aN ah)))] C inS tyS_ok nmS flS_61 dS_reaches_9 rfl rfl (by decide) rfl rfl rfl (Nat.le_of_ble_eq_true rfl) rfl ?_
  refine s_aload_n 0 C dS_reaches_12 rfl ?_
  refine s_iload_n 1 C dS_reaches_13 rfl ?_
  refine s_put 0 6 [(s, .inr (3, [.int (nI N), .ref b1, .ref b2, .ref b3, .ref b4, .ref b5, .int (nI t), .int (nI 0), .int (nI t - 1)])), (b1, .inl (cA, 14, .inl (aN hd))), (b2, .inl (cA, 14, .inl (aN tl))), (b3, .inl (cA, 14, .inl TW)), (b4, .inl (cA, 9, .inl (aN lf))), (b5, .inl (cA, 9, .inl (aN ah)))] C inS tyS_ok nmS flS_64 dS_reaches_14 rfl rfl (by decide) rfl rfl rfl (Nat.le_of_ble_eq_true rfl) rfl ?_
  refine s_aload_n 0 C dS_reaches_17 rfl ?_
  refine s_iconst (nI 0) C dS_reaches_18 (by decide) ?_
  refine s_iconst (nI 0) C dS_reaches_19 (by decide) ?_
  refine s_iconst (nI 0) C dS_reaches_20 (by decide) ?_
  refine s_callVS (n := 4) (wr := []) [0, 1, 2, 3, 4, 5] [] [] C hA (kS_explore E.2.1 D cA s b1 b2 b3 b4 b5 N hd tl lf TW t hN hE hTW hlf ht N 0 0 0 0 t lf ah (by omega) (exB_0 hd tl N lf (twf TW)) hlf2 hah2 (by omega)) gS_67 dS_reaches_21 (by decide +kernel) rfl rfl (by decide) (by decide) (by decide) (by omega) (by decide) rfl rfl (Nat.le_of_ble_eq_true rfl) (Nat.zero_le _) (Nat.zero_le _) (fun u hu => ?_)
  refine s_sub (ws' := [(s, .inr (3, [.int (nI N), .ref b1, .ref b2, .ref b3, .ref b4, .ref b5, .int (nI t), .int (nI u.1), .int (nI u.2 - 1)])), (b1, .inl (cA, 14, .inl (aN hd))), (b2, .inl (cA, 14, .inl (aN tl))), (b3, .inl (cA, 14, .inl TW)), (b4, .inl (cA, 9, .inl (aN lf))), (b5, .inl (cA, 9, .inl (aN ah)))]) [0, 1, 2, 3, 4, 5] rfl (by decide) ?_
  have hub := ex_bd hu
  have hrc := ex_reach (twOK_tw hN hTW) hu
  refine s_aload_n 0 C dS_reaches_24 rfl ?_
  refine s_get (.int (nI u.2 - 1)) 0 8 C wfP inS flS_61 dS_reaches_25 rfl rfl (by decide) rfl ?_
  refine s_iload_n 1 C dS_reaches_28 rfl ?_
  refine s_icmp_lt 36 C dS_reaches_29 (by decide) (fun c1 => ?_) (fun c1 => ?_)
  · have c2 : u.2 ≤ t := (fc_lt (by omega) (by omega)).mp c1
    refine s_iconst (nI 0) C dS_reaches_36 (by decide) ?_
    exact hret _ u _ _ dS_reaches_37 rfl (Or.inr ⟨rfl, fun h => absurd (hrc.mpr h) (by omega)⟩)
  · have c2 : ¬ u.2 ≤ t := fun h => c1 ((fc_lt (by omega) (by omega)).mpr h)
    refine s_iconst (nI 1) C dS_reaches_32 (by decide) ?_
    refine s_goto (tgt := 37) C dS_reaches_33 (by decide) ?_
    exact hret _ u _ _ dS_reaches_37 rfl (Or.inl ⟨rfl, hrc.mp (by omega)⟩)
set_option maxHeartbeats 4000000 in
set_option maxRecDepth 100000 in
/-- Search() -/
theorem kS_init (l : Launch) (D : va_G) (cA : ClassId) (s : Nat) : CtV (S := Nat × Nat × Nat × Nat × Nat) l yS_init (.code yS_init cS_init 1 none) 1 5 60 D cA [.ref s] [(s, .inr (3, [.int 0, .null, .null, .null, .null, .null, .int 0, .int 0, .int 0]))] (fun _ => True) (fun u => [(s, .inr (3, [.int (nI 0), .ref u.1, .ref u.2.1, .ref u.2.2.1, .ref u.2.2.2.1, .ref u.2.2.2.2, .int (nI 0), .int (nI 0), .int (nI 0)])), (u.1, .inl (cA, 14, .inl (aN (fun _ => 0)))), (u.2.1, .inl (cA, 14, .inl (aN (fun _ => 0)))), (u.2.2.1, .inl (cA, 14, .inl (fun _ => 0))), (u.2.2.2.1, .inl (cA, 9, .inl (fun _ => 0))), (u.2.2.2.2, .inl (cA, 9, .inl (fun _ => 0)))]) := by
  refine mkV [(0, .ref s)] (by decide) rfl (Nat.le_of_ble_eq_true rfl) ?_
  intro E A Q hE hi C hA hret
  refine s_aload_n 0 C dS_init_0 rfl ?_
  refine s_objInit C mlS_3 dS_init_1 (by decide) (Nat.le_of_ble_eq_true rfl) ?_
  refine s_aload_n 0 C dS_init_4 rfl ?_
  refine s_bipush (nI 14) C dS_init_5 (by decide) ?_
  refine s_newa C hA dS_init_7 (by decide) (by decide) (by decide) (fun q1 => ?_)
  refine s_eqw (ws' := [(s, .inr (3, [.int 0, .null, .null, .null, .null, .null, .int 0, .int 0, .int 0])), (q1, .inl (cA, 14, .inl (fun _ => 0)))]) rfl ?_
  refine s_putF 0 1 [(s, .inr (3, [.int 0, .ref q1, .null, .null, .null, .null, .int 0, .int 0, .int 0])), (q1, .inl (cA, 14, .inl (fun _ => 0)))] C hi inS tyS_ok nmS flS_9 dS_init_9 rfl rfl (by decide) rfl rfl rfl rfl (Nat.le_of_ble_eq_true rfl) rfl ?_
  refine s_aload_n 0 C dS_init_12 rfl ?_
  refine s_bipush (nI 14) C dS_init_13 (by decide) ?_
  refine s_newa C hA dS_init_15 (by decide) (by decide) (by decide) (fun q2 => ?_)
  refine s_eqw (ws' := [(s, .inr (3, [.int 0, .ref q1, .null, .null, .null, .null, .int 0, .int 0, .int 0])), (q1, .inl (cA, 14, .inl (fun _ => 0))), (q2, .inl (cA, 14, .inl (fun _ => 0)))]) rfl ?_
  refine s_putF 0 2 [(s, .inr (3, [.int 0, .ref q1, .ref q2, .null, .null, .null, .int 0, .int 0, .int 0])), (q1, .inl (cA, 14, .inl (fun _ => 0))), (q2, .inl (cA, 14, .inl (fun _ => 0)))] C hi inS tyS_ok nmS flS_15 dS_init_17 rfl rfl (by decide) rfl rfl rfl rfl (Nat.le_of_ble_eq_true rfl) rfl ?_
  refine s_aload_n 0 C dS_init_20 rfl ?_
  refine s_bipush (nI 14) C dS_init_21 (by decide) ?_
  refine s_newa C hA dS_init_23 (by decide) (by decide) (by decide) (fun q3 => ?_)
  refine s_eqw (ws' := [(s, .inr (3, [.int 0, .ref q1, .ref q2, .null, .null, .null, .int 0, .int 0, .int 0])), (q1, .inl (cA, 14, .inl (fun _ => 0))), (q2, .inl (cA, 14, .inl (fun _ => 0))), (q3, .inl (cA, 14, .inl (fun _ => 0)))]) rfl ?_
  refine s_putF 0 3 [(s, .inr (3, [.int 0, .ref q1, .ref q2, .ref q3, .null, .null, .int 0, .int 0, .int 0])), (q1, .inl (cA, 14, .inl (fun _ => 0))), (q2, .inl (cA, 14, .inl (fun _ => 0))), (q3, .inl (cA, 14, .inl (fun _ => 0)))] C hi inS tyS_ok nmS flS_18 dS_init_25 rfl rfl (by decide) rfl rfl rfl rfl (Nat.le_of_ble_eq_true rfl) rfl ?_
  refine s_aload_n 0 C dS_init_28 rfl ?_
  refine s_bipush (nI 9) C dS_init_29 (by decide) ?_
  refine s_newa C hA dS_init_31 (by decide) (by decide) (by decide) (fun q4 => ?_)
  refine s_eqw (ws' := [(s, .inr (3, [.int 0, .ref q1, .ref q2, .ref q3, .null, .null, .int 0, .int 0, .int 0])), (q1, .inl (cA, 14, .inl (fun _ => 0))), (q2, .inl (cA, 14, .inl (fun _ => 0))), (q3, .inl (cA, 14, .inl (fun _ => 0))), (q4, .inl (cA, 9, .inl (fun _ => 0)))]) rfl ?_
  refine s_putF 0 4 [(s, .inr (3, [.int 0, .ref q1, .ref q2, .ref q3, .ref q4, .null, .int 0, .int 0, .int 0])), (q1, .inl (cA, 14, .inl (fun _ => 0))), (q2, .inl (cA, 14, .inl (fun _ => 0))), (q3, .inl (cA, 14, .inl (fun _ => 0))), (q4, .inl (cA, 9, .inl (fun _ => 0)))] C hi inS tyS_ok nmS flS_21 dS_init_33 rfl rfl (by decide) rfl rfl rfl rfl (Nat.le_of_ble_eq_true rfl) rfl ?_
  refine s_aload_n 0 C dS_init_36 rfl ?_
  refine s_bipush (nI 9) C dS_init_37 (by decide) ?_
  refine s_newa C hA dS_init_39 (by decide) (by decide) (by decide) (fun q5 => ?_)
  refine s_eqw (ws' := [(s, .inr (3, [.int 0, .ref q1, .ref q2, .ref q3, .ref q4, .null, .int 0, .int 0, .int 0])), (q1, .inl (cA, 14, .inl (fun _ => 0))), (q2, .inl (cA, 14, .inl (fun _ => 0))), (q3, .inl (cA, 14, .inl (fun _ => 0))), (q4, .inl (cA, 9, .inl (fun _ => 0))), (q5, .inl (cA, 9, .inl (fun _ => 0)))]) rfl ?_
  refine s_putF 0 5 [(s, .inr (3, [.int 0, .ref q1, .ref q2, .ref q3, .ref q4, .ref q5, .int 0, .int 0, .int 0])), (q1, .inl (cA, 14, .inl (fun _ => 0))), (q2, .inl (cA, 14, .inl (fun _ => 0))), (q3, .inl (cA, 14, .inl (fun _ => 0))), (q4, .inl (cA, 9, .inl (fun _ => 0))), (q5, .inl (cA, 9, .inl (fun _ => 0)))] C hi inS tyS_ok nmS flS_24 dS_init_41 rfl rfl (by decide) rfl rfl rfl rfl (Nat.le_of_ble_eq_true rfl) rfl ?_
  refine s_eqw (ws' := [(s, .inr (3, [.int (nI 0), .ref q1, .ref q2, .ref q3, .ref q4, .ref q5, .int (nI 0), .int (nI 0), .int (nI 0)])), (q1, .inl (cA, 14, .inl (aN (fun _ => 0)))), (q2, .inl (cA, 14, .inl (aN (fun _ => 0)))), (q3, .inl (cA, 14, .inl (fun _ => 0))), (q4, .inl (cA, 9, .inl (fun _ => 0))), (q5, .inl (cA, 9, .inl (fun _ => 0)))]) (by rw [nI_0, ← aN_0]) ?_
  exact hret (q1, q2, q3, q4, q5) _ _ dS_init_44 trivial
end
section
/-! the bound of two sets of vertices, by labels: 0 for U, 1 for W, the parts from 2 on -/
theorem su_labc (k c n : Nat) : su (fun l => if k = l + 2 then c else 0) n ≤ c := by
  have h : su (fun l => if k = l + 2 then c else 0) n = c * su (fun l => if k = l + 2 then 1 else 0) n := by
    rw [← su_ml]
    exact su_cg (fun l _ => by split <;> simp)
  rw [h]
  have := Nat.mul_le_mul_left c (su_lab k n)
  omega
theorem su_half (f : Nat → Nat) (n : Nat) : su (fun l => f l / 2) n ≤ su f n / 2 := by
  induction n with
  | zero => exact Nat.zero_le _
  | succ n ih =>
    show su (fun l => f l / 2) n + f n / 2 ≤ (su f n + f n) / 2
    omega
theorem su_in {f : Nat → Nat} {k n c : Nat} (h : k < n) (hc : c ≤ f k) : c ≤ su f n := Nat.le_trans hc (su_mem h)
/-- finer labels give no greater bound -/
theorem nbd_mono {fi se : Nat → Nat} {n m L L' : Nat} {b d d' : Nat → Nat} (hfs : hok fi se n m) (h0 : ∀ v, v < n → (d v = 0 ↔ d' v = 0)) (h1 : ∀ v, v < n → (d v = 1 ↔ d' v = 1)) (hl' : ∀ v, v < n → d' v < L' + 2) (hfin : ∀ x y, x < n → y < n → 2 ≤ d x → d x = d y → d' x = d' y) :
    nbd fi se n m L b d ≤ nbd fi se n m L' b d' := by
  have ex : ∀ l, ∃ k, ∀ v, v < n → d v = l + 2 → d' v = k + 2 := by
    intro l
    by_cases h : ∃ v, v < n ∧ d v = l + 2
    · obtain ⟨v, hv, hd⟩ := h
      have a0 := h0 v hv
      have a1 := h1 v hv
      refine ⟨d' v - 2, fun x hx hdx => ?_⟩
      have := hfin v x hv hx (by omega) (by omega)
      omega
    · exact ⟨0, fun v hv hd => absurd ⟨v, hv, hd⟩ h⟩
  obtain ⟨φ, hφ⟩ := Classical.axiomOfChoice ex
  have e0 : hA n b d 0 = hA n b d' 0 := su_cg (fun v hv => by
    by_cases q : d v = 0
    · rw [if_pos q, if_pos ((h0 v hv).mp q)]
    · rw [if_neg q, if_neg (fun z => q ((h0 v hv).mpr z))])
  have e1 : su (fun e => nww fi se d e) m = su (fun e => nww fi se d' e) m := su_cg (fun e he => by
    obtain ⟨x1, x2, _⟩ := hfs e he
    unfold nww
    have a1 := h1 _ x1
    have a2 := h1 _ x2
    by_cases q : d (fi e) = 1 ∧ d (se e) = 1
    · rw [if_pos q, if_pos ⟨a1.mp q.1, a2.mp q.2⟩]
    · rw [if_neg q, if_neg (fun z => q ⟨a1.mpr z.1, a2.mpr z.2⟩)])
  -- what a label holds goes into the label that it is sent to
  have hY : ∀ k, su (fun l => if φ l = k then hA n b d (l + 2) + su (fun e => nbt fi se d e (l + 2)) m else 0) L ≤ hA n b d' (k + 2) + su (fun e => nbt fi se d' e (k + 2)) m := by
    intro k
    have s1 : su (fun l => if φ l = k then hA n b d (l + 2) + su (fun e => nbt fi se d e (l + 2)) m else 0) L = su (fun l => su (fun v => if φ l = k ∧ d v = l + 2 then b v else 0) n) L + su (fun l => su (fun e => if φ l = k then nbt fi se d e (l + 2) else 0) m) L := by
      rw [← su_ad]
      refine su_cg (fun l _ => ?_)
      by_cases q : φ l = k
      · rw [if_pos q]
        congr 1
        · exact su_cg (fun v _ => by
            by_cases r : d v = l + 2
            · rw [if_pos r, if_pos ⟨q, r⟩]
            · rw [if_neg r, if_neg (fun z => r z.2)])
        · exact su_cg (fun e _ => by rw [if_pos q])
      · rw [if_neg q, su_z (fun v _ => if_neg (fun z => q z.1)), su_z (fun e _ => if_neg q)]
    rw [s1, su_sw (fun l v => if φ l = k ∧ d v = l + 2 then b v else 0), su_sw (fun l e => if φ l = k then nbt fi se d e (l + 2) else 0)]
    refine Nat.add_le_add (su_le (fun v hv => ?_)) (su_le (fun e he => ?_))
    · show su (fun l => if φ l = k ∧ d v = l + 2 then b v else 0) L ≤ (if d' v = k + 2 then b v else 0)
      by_cases q : d' v = k + 2
      · rw [if_pos q]
        refine Nat.le_trans (su_le (fun l _ => ?_)) (su_labc (d v) (b v) L)
        by_cases r : d v = l + 2
        · rw [if_pos r]; split <;> omega
        · rw [if_neg r, if_neg (fun z => r z.2)]; omega
      · rw [if_neg q, su_z (fun l _ => if_neg (fun z => q (by rw [hφ l v hv z.2, z.1])))]
        omega
    · show su (fun l => if φ l = k then nbt fi se d e (l + 2) else 0) L ≤ nbt fi se d' e (k + 2)
      obtain ⟨x1, x2, _⟩ := hfs e he
      have a1 := h1 _ x1
      have a2 := h1 _ x2
      by_cases q : nbt fi se d' e (k + 2) = 1
      · rw [q]
        refine Nat.le_trans (su_le (g := fun l => if (if d (fi e) = 1 then d (se e) else d (fi e)) = l + 2 then 1 else 0) (fun l _ => ?_)) (su_lab _ L)
        by_cases r : φ l = k
        · rw [if_pos r]
          unfold nbt
          by_cases t : (d (fi e) = l + 2 ∧ d (se e) = 1) ∨ (d (fi e) = 1 ∧ d (se e) = l + 2)
          · rw [if_pos t]
            rcases t with t | t
            · rw [if_neg (show ¬ d (fi e) = 1 by omega), if_pos t.1]; exact Nat.le_refl _
            · rw [if_pos t.1, if_pos t.2]; exact Nat.le_refl _
          · rw [if_neg t]; omega
        · rw [if_neg r]; omega
      · have q0 : nbt fi se d' e (k + 2) = 0 := by
          unfold nbt at q ⊢
          split
          · rename_i z; rw [if_pos z] at q; omega
          · rfl
        rw [q0, su_z (fun l _ => ?_)]
        · omega
        · by_cases r : φ l = k
          · rw [if_pos r]
            unfold nbt
            refine if_neg (fun t => ?_)
            unfold nbt at q0
            rcases t with t | t
            · have := hφ l _ x1 t.1
              rw [if_pos (Or.inl ⟨by rw [this, r], a2.mp t.2⟩)] at q0
              omega
            · have := hφ l _ x2 t.2
              rw [if_pos (Or.inr ⟨a1.mp t.1, by rw [this, r]⟩)] at q0
              omega
          · rw [if_neg r]
  have hsum : su (fun l => (hA n b d (l + 2) + su (fun e => nbt fi se d e (l + 2)) m) / 2) L ≤ su (fun k => (hA n b d' (k + 2) + su (fun e => nbt fi se d' e (k + 2)) m) / 2) L' := by
    have t1 : su (fun l => (hA n b d (l + 2) + su (fun e => nbt fi se d e (l + 2)) m) / 2) L ≤ su (fun l => su (fun k => (if φ l = k then hA n b d (l + 2) + su (fun e => nbt fi se d e (l + 2)) m else 0) / 2) L') L := by
      refine su_le (fun l _ => ?_)
      by_cases hz : ∃ v, v < n ∧ d v = l + 2
      · obtain ⟨v, hv, hd⟩ := hz
        have hk := hφ l v hv hd
        have hlt := hl' v hv
        refine su_in (k := φ l) (by omega) ?_
        rw [if_pos rfl]; exact Nat.le_refl _
      · have z1 : hA n b d (l + 2) = 0 := su_z (fun v hv => if_neg (fun q => hz ⟨v, hv, q⟩))
        have z2 : su (fun e => nbt fi se d e (l + 2)) m = 0 := su_z (fun e he => by
          obtain ⟨x1, x2, _⟩ := hfs e he
          unfold nbt
          refine if_neg (fun t => ?_)
          rcases t with t | t
          · exact hz ⟨_, x1, t.1⟩
          · exact hz ⟨_, x2, t.2⟩)
        rw [z1, z2]; exact Nat.zero_le _
    refine Nat.le_trans t1 ?_
    rw [su_sw (fun l k => (if φ l = k then hA n b d (l + 2) + su (fun e => nbt fi se d e (l + 2)) m else 0) / 2)]
    refine su_le (fun k _ => ?_)
    refine Nat.le_trans (su_half (fun l => if φ l = k then hA n b d (l + 2) + su (fun e => nbt fi se d e (l + 2)) m else 0) L) ?_
    exact Nat.div_le_div_right (hY k)
  unfold nbd
  omega
/-- no fair set has more edges than a bound -/
theorem nbd_weak {fi se : Nat → Nat} {n m L : Nat} {b d : Nat → Nat} {M : Nat → Bool} (hfs : hok fi se n m) (hv : nva fi se m d) (hl : ∀ v, v < n → d v < L + 2) (hM : hfa fi se n m b M) : hsz m M ≤ nbd fi se n m L b d := by
  have hw : ∀ l, su (fun j => (M j).toNat * ((if d (fi j) = l then 1 else 0) + (if d (se j) = l then 1 else 0))) m ≤ hA n b d l := by
    intro l
    rw [← hdg_w hfs (fun v => if d v = l then 1 else 0) M]
    refine su_le (fun v hv => ?_)
    have := hM v hv
    show (if d v = l then 1 else 0) * hdg fi se m M v ≤ if d v = l then b v else 0
    split <;> omega
  -- the edges of a part, those to W among them
  have ht : ∀ l, su (fun e => (M e).toNat * (if (d (fi e) = l + 2 ∧ (d (se e) = l + 2 ∨ d (se e) = 1)) ∨ (d (fi e) = 1 ∧ d (se e) = l + 2) then 1 else 0)) m ≤ (hA n b d (l + 2) + su (fun e => nbt fi se d e (l + 2)) m) / 2 := by
    intro l
    have h2 : 2 * su (fun e => (M e).toNat * (if (d (fi e) = l + 2 ∧ (d (se e) = l + 2 ∨ d (se e) = 1)) ∨ (d (fi e) = 1 ∧ d (se e) = l + 2) then 1 else 0)) m ≤ su (fun j => (M j).toNat * ((if d (fi j) = l + 2 then 1 else 0) + (if d (se j) = l + 2 then 1 else 0))) m + su (fun e => nbt fi se d e (l + 2)) m := by
      rw [← su_ml, ← su_ad]
      refine su_le (fun e _ => ?_)
      unfold nbt
      cases M e
      · simp
      · simp only [Bool.toNat_true, Nat.one_mul]
        by_cases q1 : d (fi e) = l + 2
        · by_cases q2 : d (se e) = l + 2
          · rw [if_pos q1, if_pos q2, if_pos (Or.inl ⟨q1, Or.inl q2⟩)]; omega
          · by_cases q3 : d (se e) = 1
            · rw [if_pos q1, if_neg q2, if_pos (Or.inl ⟨q1, Or.inr q3⟩), if_pos (Or.inl ⟨q1, q3⟩)]; omega
            · rw [if_neg (c := (d (fi e) = l + 2 ∧ (d (se e) = l + 2 ∨ d (se e) = 1)) ∨ (d (fi e) = 1 ∧ d (se e) = l + 2)) (by omega)]; omega
        · by_cases q4 : d (fi e) = 1 ∧ d (se e) = l + 2
          · rw [if_pos (Or.inr q4), if_neg q1, if_pos q4.2, if_pos (Or.inr q4)]; omega
          · rw [if_neg (c := (d (fi e) = l + 2 ∧ (d (se e) = l + 2 ∨ d (se e) = 1)) ∨ (d (fi e) = 1 ∧ d (se e) = l + 2)) (by omega)]; omega
    have := hw (l + 2)
    omega
  have hall : hsz m M ≤ su (fun j => (M j).toNat * ((if d (fi j) = 0 then 1 else 0) + (if d (se j) = 0 then 1 else 0))) m + su (fun e => nww fi se d e) m + su (fun e => su (fun l => (M e).toNat * (if (d (fi e) = l + 2 ∧ (d (se e) = l + 2 ∨ d (se e) = 1)) ∨ (d (fi e) = 1 ∧ d (se e) = l + 2) then 1 else 0)) L) m := by
    rw [← su_ad, ← su_ad]
    refine su_le (fun e he => ?_)
    obtain ⟨x1, x2, _⟩ := hfs e he
    have b1 := hl _ x1
    have b2 := hl _ x2
    unfold nww
    cases hMe : M e
    · simp
    · simp only [Bool.toNat_true, Nat.one_mul]
      by_cases q1 : d (fi e) = 0
      · rw [if_pos q1]; omega
      · by_cases q2 : d (se e) = 0
        · rw [if_pos q2]; omega
        · by_cases q3 : d (fi e) = 1 ∧ d (se e) = 1
          · rw [if_pos q3]; omega
          · have hk : ∃ k, k < L ∧ ((d (fi e) = k + 2 ∧ (d (se e) = k + 2 ∨ d (se e) = 1)) ∨ (d (fi e) = 1 ∧ d (se e) = k + 2)) := by
              by_cases q4 : d (fi e) = 1
              · exact ⟨d (se e) - 2, by omega, by omega⟩
              · by_cases q5 : d (se e) = 1
                · exact ⟨d (fi e) - 2, by omega, by omega⟩
                · have := hv e he (by omega) (by omega)
                  exact ⟨d (fi e) - 2, by omega, by omega⟩
            obtain ⟨k, hk1, hk2⟩ := hk
            have := su_in (f := fun l => if (d (fi e) = l + 2 ∧ (d (se e) = l + 2 ∨ d (se e) = 1)) ∨ (d (fi e) = 1 ∧ d (se e) = l + 2) then 1 else 0) (c := 1) hk1 (by rw [if_pos hk2]; exact Nat.le_refl _)
            omega
  rw [su_sw (fun e l => (M e).toNat * (if (d (fi e) = l + 2 ∧ (d (se e) = l + 2 ∨ d (se e) = 1)) ∨ (d (fi e) = 1 ∧ d (se e) = l + 2) then 1 else 0))] at hall
  have h3 := su_le (n := L) (fun l _ => ht l)
  have h4 := hw 0
  unfold nbd
  omega
/-! labels as fine as can be -/
def rsv (n u w v : Nat) : Prop := v < n ∧ bm u v = false ∧ bm w v = false
def vld (fi se : Nat → Nat) (n m u w : Nat) (d : Nat → Nat) : Prop := ∀ e, e < m → rsv n u w (fi e) → rsv n u w (se e) → d (fi e) = d (se e)
def exa (fi se : Nat → Nat) (n m u w : Nat) (d : Nat → Nat) : Prop :=
  (∀ v, v < n → bm u v = true → d v = 0) ∧ (∀ v, v < n → bm w v = true → d v = 1) ∧ (∀ v, rsv n u w v → 2 ≤ d v ∧ d v < 11) ∧ vld fi se n m u w d ∧ ∀ d', vld fi se n m u w d' → ∀ a b, rsv n u w a → rsv n u w b → d a = d b → d' a = d' b
def dsj (u w : Nat) : Prop := ∀ v, ¬ (bm u v = true ∧ bm w v = true)
theorem exa_ex (fi se : Nat → Nat) {n m u w : Nat} (hn : n ≤ 9) (hd : dsj u w) : ∃ d, exa fi se n m u w d := by
  have ex : ∀ v, ∃ k, k < 9 ∧ (rsv n u w v → rsv n u w k ∧ (∀ d', vld fi se n m u w d' → d' v = d' k) ∧ ∀ j, rsv n u w j → (∀ d', vld fi se n m u w d' → d' v = d' j) → k ≤ j) := by
    intro v
    by_cases h : rsv n u w v
    · obtain ⟨k, ⟨h1, h2⟩, h3⟩ := mn_ex (fun k => rsv n u w k ∧ ∀ d', vld fi se n m u w d' → d' v = d' k) (fun k => k) ⟨v, h, fun _ _ => rfl⟩
      have := h1.1
      exact ⟨k, by omega, fun _ => ⟨h1, h2, fun j hj hj2 => h3 j ⟨hj, hj2⟩⟩⟩
    · exact ⟨0, by omega, fun q => absurd q h⟩
  obtain ⟨r, hr⟩ := Classical.axiomOfChoice ex
  have ru : ∀ v, bm u v = true → bm w v = false := fun v h => by
    cases q : bm w v
    · rfl
    · exact absurd ⟨h, q⟩ (hd v)
  have dr : ∀ v, rsv n u w v → (if bm u v = true then 0 else if bm w v = true then 1 else r v + 2) = r v + 2 := by
    intro v h
    rw [if_neg (by rw [h.2.1]; decide), if_neg (by rw [h.2.2]; decide)]
  refine ⟨fun v => if bm u v = true then 0 else if bm w v = true then 1 else r v + 2, fun v _ h => if_pos h, fun v _ h => ?_, fun v h => ?_, fun e he h1 h2 => ?_, fun d' hd' a b ha hb hab => ?_⟩
  · have : ¬ bm u v = true := fun q => hd v ⟨q, h⟩
    show (if bm u v = true then 0 else if bm w v = true then 1 else r v + 2) = 1
    rw [if_neg this, if_pos h]
  · show 2 ≤ (if bm u v = true then 0 else if bm w v = true then 1 else r v + 2) ∧ (if bm u v = true then 0 else if bm w v = true then 1 else r v + 2) < 11
    rw [dr v h]
    have := (hr v).1
    omega
  · show (if bm u (fi e) = true then 0 else if bm w (fi e) = true then 1 else r (fi e) + 2) = (if bm u (se e) = true then 0 else if bm w (se e) = true then 1 else r (se e) + 2)
    rw [dr _ h1, dr _ h2]
    obtain ⟨a1, a2, a3⟩ := (hr (fi e)).2 h1
    obtain ⟨b1, b2, b3⟩ := (hr (se e)).2 h2
    have c1 := a3 (r (se e)) b1 (fun d' q => (q e he h1 h2).trans (b2 d' q))
    have c2 := b3 (r (fi e)) a1 (fun d' q => (q e he h1 h2).symm.trans (a2 d' q))
    omega
  · have hab' : (if bm u a = true then 0 else if bm w a = true then 1 else r a + 2) = (if bm u b = true then 0 else if bm w b = true then 1 else r b + 2) := hab
    rw [dr _ ha, dr _ hb] at hab'
    have e1 : r a = r b := by omega
    rw [((hr a).2 ha).2.1 d' hd', ((hr b).2 hb).2.1 d' hd', e1]
theorem exa_cls {n u w v : Nat} (hv : v < n) : bm u v = true ∨ bm w v = true ∨ rsv n u w v := by
  cases h1 : bm u v
  · cases h2 : bm w v
    · exact Or.inr (Or.inr ⟨hv, h1, h2⟩)
    · exact Or.inr (Or.inl rfl)
  · exact Or.inl rfl
theorem exa_nva {fi se : Nat → Nat} {n m u w : Nat} {d : Nat → Nat} (hfs : hok fi se n m) (h : exa fi se n m u w d) : nva fi se m d := by
  intro e he h1 h2
  obtain ⟨x1, x2, _⟩ := hfs e he
  have r1 : rsv n u w (fi e) := by
    rcases exa_cls (u := u) (w := w) x1 with q | q | q
    · rw [h.1 _ x1 q] at h1; omega
    · rw [h.2.1 _ x1 q] at h1; omega
    · exact q
  have r2 : rsv n u w (se e) := by
    rcases exa_cls (u := u) (w := w) x2 with q | q | q
    · rw [h.1 _ x2 q] at h2; omega
    · rw [h.2.1 _ x2 q] at h2; omega
    · exact q
  exact h.2.2.2.1 e he r1 r2
theorem exa_lt {fi se : Nat → Nat} {n m u w : Nat} {d : Nat → Nat} (h : exa fi se n m u w d) {v : Nat} (hv : v < n) : d v < 9 + 2 := by
  rcases exa_cls (u := u) (w := w) hv with q | q | q
  · rw [h.1 v hv q]; omega
  · rw [h.2.1 v hv q]; omega
  · exact (h.2.2.1 v q).2
theorem exa_0 {fi se : Nat → Nat} {n m u w : Nat} {d : Nat → Nat} (h : exa fi se n m u w d) {v : Nat} (hv : v < n) : d v = 0 ↔ bm u v = true := by
  refine ⟨fun q => ?_, h.1 v hv⟩
  rcases exa_cls (u := u) (w := w) hv with z | z | z
  · exact z
  · rw [h.2.1 v hv z] at q; omega
  · have := (h.2.2.1 v z).1; omega
theorem exa_1 {fi se : Nat → Nat} {n m u w : Nat} {d : Nat → Nat} (h : exa fi se n m u w d) {v : Nat} (hv : v < n) : d v = 1 ↔ bm w v = true := by
  refine ⟨fun q => ?_, h.2.1 v hv⟩
  rcases exa_cls (u := u) (w := w) hv with z | z | z
  · rw [h.1 v hv z] at q; omega
  · exact z
  · have := (h.2.2.1 v z).1; omega
theorem exa_rs {fi se : Nat → Nat} {n m u w : Nat} {d : Nat → Nat} (h : exa fi se n m u w d) {v : Nat} (hv : v < n) (h2 : 2 ≤ d v) : rsv n u w v := by
  rcases exa_cls (u := u) (w := w) hv with z | z | z
  · rw [h.1 v hv z] at h2; omega
  · rw [h.2.1 v hv z] at h2; omega
  · exact z
/-- all finest labels give one bound -/
theorem exa_un {fi se : Nat → Nat} {n m u w : Nat} {b d d' : Nat → Nat} (hfs : hok fi se n m) (h : exa fi se n m u w d) (h' : exa fi se n m u w d') : nbd fi se n m 9 b d = nbd fi se n m 9 b d' := by
  refine Nat.le_antisymm (nbd_mono hfs (fun v hv => (exa_0 h hv).trans (exa_0 h' hv).symm) (fun v hv => (exa_1 h hv).trans (exa_1 h' hv).symm) (fun v hv => exa_lt h' hv) (fun x y hx hy h2 e => ?_)) (nbd_mono hfs (fun v hv => (exa_0 h' hv).trans (exa_0 h hv).symm) (fun v hv => (exa_1 h' hv).trans (exa_1 h hv).symm) (fun v hv => exa_lt h hv) (fun x y hx hy h2 e => ?_))
  · exact h.2.2.2.2 d' h'.2.2.2.1 x y (exa_rs h hx h2) (exa_rs h hy (by omega)) e
  · exact h'.2.2.2.2 d h.2.2.2.1 x y (exa_rs h' hx h2) (exa_rs h' hy (by omega)) e
/-- THE BOUND of u and w -/
noncomputable def bnd (fi se : Nat → Nat) (n m : Nat) (b : Nat → Nat) (u w : Nat) : Nat := nbd fi se n m 9 b (Classical.epsilon (exa fi se n m u w))
theorem bnd_is {fi se : Nat → Nat} {n m u w : Nat} {b d : Nat → Nat} (hfs : hok fi se n m) (h : exa fi se n m u w d) : bnd fi se n m b u w = nbd fi se n m 9 b d :=
  exa_un hfs (Classical.epsilon_spec ⟨d, h⟩) h
/-- some bound is as many as the best set has -/
theorem bnd_ex {fi se : Nat → Nat} {n m : Nat} (b : Nat → Nat) (hn : n ≤ 9) (hfs : hok fi se n m) {M : Nat → Bool} (hM : hmx fi se n m b M) : ∃ u w, u < 2 ^ n ∧ w < 2 ^ n ∧ dsj u w ∧ bnd fi se n m b u w = hsz m M := by
  obtain ⟨d, N, hv, hl, hN, hb⟩ := dual b hfs
  have bu : ∀ v, bm (tob (fun v => decide (d v = 0)) n) v = (decide (v < n) && decide (d v = 0)) := fun v => tob_bit _ n v
  have bw : ∀ v, bm (tob (fun v => decide (d v = 1)) n) v = (decide (v < n) && decide (d v = 1)) := fun v => tob_bit _ n v
  have hdj : dsj (tob (fun v => decide (d v = 0)) n) (tob (fun v => decide (d v = 1)) n) := by
    intro v h
    rw [bu, bw] at h
    simp at h
    omega
  refine ⟨tob (fun v => decide (d v = 0)) n, tob (fun v => decide (d v = 1)) n, tob_lt _ _, tob_lt _ _, hdj, ?_⟩
  obtain ⟨dE, hE⟩ := exa_ex fi se (m := m) hn hdj
  rw [bnd_is hfs hE]
  have i0 : ∀ v, v < n → (dE v = 0 ↔ d v = 0) := fun v hv => by
    rw [exa_0 hE hv, bu]; simp [hv]
  have i1 : ∀ v, v < n → (dE v = 1 ↔ d v = 1) := fun v hv => by
    rw [exa_1 hE hv, bw]; simp [hv]
  have up : nbd fi se n m 9 b dE ≤ nbd fi se n m (n + 2 * m) b d := by
    refine nbd_mono hfs i0 i1 (fun v _ => hl v) (fun x y hx hy h2 e => ?_)
    refine hE.2.2.2.2 d (fun e' he' r1 r2 => ?_) x y (exa_rs hE hx h2) (exa_rs hE hy (by omega)) e
    have a1 := i0 _ r1.1
    have a2 := i1 _ r1.1
    have a3 := i0 _ r2.1
    have a4 := i1 _ r2.1
    have b1 := hE.2.2.1 _ r1
    have b2 := hE.2.2.1 _ r2
    exact hv e' he' (by omega) (by omega)
  have lo := nbd_weak (L := 9) (b := b) hfs (exa_nva hfs hE) (fun v hv => exa_lt hE hv) hM.1
  have := hM.2 N hN
  omega
end
section
/-! parts of a set of vertices, tables over sets -/
def adj (fi se : Nat → Nat) (m a b : Nat) : Prop := ∃ e, e < m ∧ ((fi e = a ∧ se e = b) ∨ (fi e = b ∧ se e = a))
theorem adj_sy {fi se : Nat → Nat} {m a b : Nat} (h : adj fi se m a b) : adj fi se m b a := by
  obtain ⟨e, he, q⟩ := h
  exact ⟨e, he, q.symm⟩
def isPt (fi se : Nat → Nat) (m s p t : Nat) : Prop :=
  bm s t = true ∧ (∀ j, t < j → bm s j = false) ∧ bm p t = true ∧ (∀ a, bm p a = true → bm s a = true) ∧ (∀ a b, adj fi se m a b → bm p a = true → bm s b = true → bm p b = true) ∧ ∀ q : Nat → Prop, q t → (∀ a b, adj fi se m a b → q a → bm s a = true → bm s b = true → q b) → ∀ a, bm p a = true → q a
def prt (fi se : Nat → Nat) (m s p : Nat) : Prop := ∃ t, isPt fi se m s p t
theorem bm_ndf (a b i : Nat) : bm (ndf a b) i = (bm a i && !bm b i) := ndf_bit a b i
theorem bm_orr (a b i : Nat) : bm (a ||| b) i = (bm a i || bm b i) := Nat.testBit_or a b i
theorem bm_and (a b i : Nat) : bm (a &&& b) i = (bm a i && bm b i) := Nat.testBit_and a b i
theorem bm_xor (a b i : Nat) : bm (a ^^^ b) i = (bm a i ^^ bm b i) := Nat.testBit_xor a b i
theorem bm_pow (k i : Nat) : bm (2 ^ k) i = decide (i = k) := by
  show (2 ^ k).testBit i = _
  rw [Nat.testBit_two_pow]
  simp [eq_comm]
theorem bm_ne0 {s : Nat} : s ≠ 0 ↔ ∃ i, bm s i = true := by
  constructor
  · intro h
    refine Classical.byContradiction (fun hc => h (Nat.eq_of_testBit_eq (fun i => ?_)))
    rw [Nat.zero_testBit]
    cases q : s.testBit i
    · rfl
    · exact absurd ⟨i, q⟩ hc
  · rintro ⟨i, hi⟩ h
    subst h
    rw [bm_0] at hi; cases hi
theorem bm_lt {s n : Nat} (h : ∀ i, bm s i = true → i < n) : s < 2 ^ n := by
  refine Nat.lt_pow_two_of_testBit _ (fun i hi => ?_)
  cases q : s.testBit i
  · rfl
  · have := h i q; omega
theorem lt_bm {s n i : Nat} (h : s < 2 ^ n) (hi : bm s i = true) : i < n := by
  refine Nat.lt_of_not_le (fun q => ?_)
  rw [bm_ge h q] at hi; cases hi
/-- what holds in partOf's loop -/
def pJ (fi se : Nat → Nat) (m v low rest jn : Nat) : Prop :=
  (∀ a, bm rest a = true → bm low a = true) ∧ (∀ a b, adj fi se m a b → bm rest a = true → bm low b = true → bm rest b = true) ∧ bm jn v = true ∧ (∀ a, bm jn a = true → a = v ∨ (bm low a = true ∧ bm rest a = false)) ∧
  (∀ a b, adj fi se m a b → bm low a = true → bm rest a = false → bm low b = true → bm jn a = true → bm jn b = true) ∧ (∀ a, adj fi se m v a → bm low a = true → bm rest a = false → bm jn a = true) ∧
  ∀ q : Nat → Prop, q v → (∀ a b, adj fi se m a b → q a → (a = v ∨ bm low a = true) → (b = v ∨ bm low b = true) → q b) → ∀ a, bm jn a = true → q a
theorem pJ_0 (fi se : Nat → Nat) (m v low : Nat) : pJ fi se m v low low (2 ^ v) := by
  have hb : ∀ a, bm (2 ^ v) a = true ↔ a = v := fun a => by rw [bm_pow]; simp
  refine ⟨fun _ h => h, fun a b _ _ h => h, (hb v).mpr rfl, fun a h => Or.inl ((hb a).mp h), fun a b _ h1 h2 => ?_, fun a _ h1 h2 => ?_, fun q hq _ a h => ?_⟩
  · rw [h1] at h2; cases h2
  · rw [h1] at h2; cases h2
  · rw [(hb a).mp h]; exact hq
theorem pJ_step {fi se : Nat → Nat} {m v low rest jn nx nr : Nat} (hv : bm low v = false) (hnr : ∀ c, bm nr c = true ↔ adj fi se m v c) (h : pJ fi se m v low rest jn) (hp : prt fi se m rest nx) :
    pJ fi se m v low (ndf rest nx) (if nx &&& nr ≠ 0 then jn ||| nx else jn) := by
  obtain ⟨t, t1, t2, t3, t4, t5, t6⟩ := hp
  obtain ⟨h1, h2, h3, h4, h5, h6, h7⟩ := h
  have hr : ∀ a, bm (ndf rest nx) a = true ↔ bm rest a = true ∧ bm nx a = false := fun a => by rw [bm_ndf]; simp
  have hrf : ∀ a, bm (ndf rest nx) a = false ↔ bm rest a = false ∨ bm nx a = true := fun a => by
    rw [bm_ndf]; cases bm rest a <;> cases bm nx a <;> simp
  have hc : (nx &&& nr ≠ 0) ↔ ∃ c, bm nx c = true ∧ adj fi se m v c := by
    rw [bm_ne0]
    constructor
    · rintro ⟨i, hi⟩
      rw [bm_and] at hi
      simp only [Bool.and_eq_true] at hi
      exact ⟨i, hi.1, (hnr i).mp hi.2⟩
    · rintro ⟨i, hi, hi2⟩
      exact ⟨i, by rw [bm_and, hi, (hnr i).mpr hi2]; rfl⟩
  have hj : ∀ a, bm (if nx &&& nr ≠ 0 then jn ||| nx else jn) a = true ↔ bm jn a = true ∨ ((nx &&& nr ≠ 0) ∧ bm nx a = true) := by
    intro a
    by_cases q : nx &&& nr ≠ 0
    · rw [if_pos q, bm_orr]; simp [q]
    · rw [if_neg q]; simp [q]
  refine ⟨fun a ha => h1 a ((hr a).mp ha).1, fun a b hab ha hb => ?_, (hj v).mpr (Or.inl h3), fun a ha => ?_, fun a b hab la ra lb ja => ?_, fun a hva la ra => ?_, fun q qv qc a ha => ?_⟩
  · obtain ⟨a1, a2⟩ := (hr a).mp ha
    refine (hr b).mpr ⟨h2 a b hab a1 hb, ?_⟩
    cases z : bm nx b
    · rfl
    · have := t5 b a (adj_sy hab) z a1
      rw [this] at a2; cases a2
  · rcases (hj a).mp ha with z | ⟨_, z⟩
    · rcases h4 a z with y | ⟨y1, y2⟩
      · exact Or.inl y
      · exact Or.inr ⟨y1, (hrf a).mpr (Or.inl y2)⟩
    · exact Or.inr ⟨h1 a (t4 a z), (hrf a).mpr (Or.inr z)⟩
  · rcases (hj a).mp ja with z | ⟨z0, z⟩
    · rcases h4 a z with y | ⟨y1, y2⟩
      · subst y; rw [hv] at la; cases la
      · exact (hj b).mpr (Or.inl (h5 a b hab y1 y2 lb z))
    · exact (hj b).mpr (Or.inr ⟨z0, t5 a b hab z (h2 a b hab (t4 a z) lb)⟩)
  · rcases (hrf a).mp ra with z | z
    · exact (hj a).mpr (Or.inl (h6 a hva la z))
    · exact (hj a).mpr (Or.inr ⟨hc.mpr ⟨a, z, hva⟩, z⟩)
  · rcases (hj a).mp ha with z | ⟨z0, z⟩
    · exact h7 q qv qc a z
    · obtain ⟨c, c1, c2⟩ := hc.mp z0
      have qcc : q c := qc v c c2 qv (Or.inl rfl) (Or.inr (h1 c (t4 c c1)))
      by_cases qt : q t
      · exact t6 q qt (fun x y hxy hqx hx hy => qc x y hxy hqx (Or.inr (h1 x hx)) (Or.inr (h1 y hy))) a z
      · have := t6 (fun x => ¬ q x) qt (fun x y hxy hqx hx hy hqy => hqx (qc y x (adj_sy hxy) hqy (Or.inr (h1 y hy)) (Or.inr (h1 x hx)))) c c1
        exact absurd qcc this
theorem pJ_end {fi se : Nat → Nat} {m v low jn : Nat} (hlow : low < 2 ^ v) (h : pJ fi se m v low 0 jn) : prt fi se m (low ||| 2 ^ v) jn := by
  obtain ⟨h1, h2, h3, h4, h5, h6, h7⟩ := h
  have hs : ∀ a, bm (low ||| 2 ^ v) a = true ↔ a = v ∨ bm low a = true := fun a => by
    rw [bm_or]; simp [or_comm]
  refine ⟨v, (hs v).mpr (Or.inl rfl), fun j hj => ?_, h3, fun a ha => ?_, fun a b hab ha hb => ?_, fun q qv qc => h7 q qv (fun a b hab qa ha hb => qc a b hab qa ((hs a).mpr ha) ((hs b).mpr hb))⟩
  · rw [bm_or, bm_ge hlow (by omega)]; simp; omega
  · rcases h4 a ha with z | z
    · exact (hs a).mpr (Or.inl z)
    · exact (hs a).mpr (Or.inr z.1)
  · rcases (hs b).mp hb with z | z
    · rw [z]; exact h3
    · rcases h4 a ha with y | y
      · subst y; exact h6 b hab z (bm_0 b)
      · exact h5 a b hab y.1 (bm_0 a) z ha
/-- a set with fewer members -/
theorem hsz_dn {rest nx t k : Nat} (h1 : bm rest t = true) (h2 : bm nx t = true) (ht : t < k) : hsz k (bm (ndf rest nx)) + 1 ≤ hsz k (bm rest) := by
  refine su_lt (k := t) (fun i _ => ?_) ht ?_
  · rw [bm_ndf]; cases bm rest i <;> cases bm nx i <;> simp
  · rw [bm_ndf, h1, h2]; decide
theorem pJ_lt {fi se : Nat → Nat} {m v low rest jn : Nat} (hlow : low < 2 ^ v) (h : pJ fi se m v low rest jn) : jn < 2 ^ (v + 1) := by
  refine bm_lt (fun i hi => ?_)
  rcases h.2.2.2.1 i hi with z | z
  · omega
  · have := lt_bm hlow z.1; omega
/-! sums of demands, edges inside -/
def wsum (wa : Nat → Nat) (s : Nat) : Nat := su (fun v => (bm s v).toNat * wa v) 9
def ins (fi se : Nat → Nat) (m s : Nat) : Nat := su (fun e => (bm s (fi e) && bm s (se e)).toNat) m
theorem wsum_0 (wa : Nat → Nat) : wsum wa 0 = 0 := su_z (fun v _ => by rw [bm_0]; simp)
theorem wsum_on {wa : Nat → Nat} {low v : Nat} (hv : v < 9) (hlow : low < 2 ^ v) : wsum wa (low ||| 2 ^ v) = wsum wa low + wa v := by
  have h := su_1 (a := wa v) hv
  unfold wsum
  rw [← h, ← su_ad]
  refine su_cg (fun i _ => ?_)
  rw [bm_or]
  by_cases q : i = v
  · subst q; rw [bm_ge hlow (Nat.le_refl _)]; simp
  · simp [q]
theorem wsum_le {wa : Nat → Nat} (h : ∀ v, v < 9 → wa v ≤ 14) (s : Nat) : wsum wa s ≤ 126 := by
  have h1 : wsum wa s ≤ su (fun _ => 14) 9 := su_le (fun v hv => by
    have := h v hv
    cases bm s v <;> simp <;> omega)
  have h2 : su (fun _ => 14) 9 = 126 := by decide
  omega
theorem ins_le (fi se : Nat → Nat) (m s : Nat) : ins fi se m s ≤ m := hsz_le m (fun e => bm s (fi e) && bm s (se e))
/-- the labels of those still in r, with w -/
def dlr (d : Nat → Nat) (r w v : Nat) : Nat := if bm r v = true then d v else if bm w v = true then 1 else 0
def Yl (fi se : Nat → Nat) (n m : Nat) (wa d : Nat → Nat) (r w l : Nat) : Nat := hA n wa (dlr d r w) (l + 2) + su (fun e => nbt fi se (dlr d r w) e (l + 2)) m
theorem Yl_0 {fi se : Nat → Nat} {n m : Nat} {wa d : Nat → Nat} {w l : Nat} : Yl fi se n m wa d 0 w l = 0 := by
  have h : ∀ v, dlr d 0 w v < 2 := fun v => by
    unfold dlr
    rw [bm_0]
    simp
    split <;> omega
  unfold Yl
  rw [show hA n wa (dlr d 0 w) (l + 2) = 0 from su_z (fun v _ => if_neg (by have := h v; omega)), su_z (fun e _ => ?_)]
  unfold nbt
  have h1 := h (fi e)
  have h2 := h (se e)
  exact if_neg (by omega)
theorem nbd_st {fi se : Nat → Nat} {n m u w r : Nat} {wa d : Nat → Nat} (hn : n ≤ 9) (hfs : hok fi se n m) (hu : u < 2 ^ n) (hE : exa fi se n m u w d) (hr : ∀ v, bm r v = true ↔ rsv n u w v) :
    nbd fi se n m 9 wa d = wsum wa u + ins fi se m w + su (fun l => Yl fi se n m wa d r w l / 2) 9 := by
  have e1 : hA n wa d 0 = wsum wa u := by
    have h1 : wsum wa u = su (fun v => (bm u v).toNat * wa v) n := by
      have : ∀ k, su (fun v => (bm u v).toNat * wa v) (n + k) = su (fun v => (bm u v).toNat * wa v) n := by
        intro k
        induction k with
        | zero => rfl
        | succ k ih =>
          show su (fun v => (bm u v).toNat * wa v) (n + k) + (bm u (n + k)).toNat * wa (n + k) = _
          rw [ih, bm_ge hu (by omega)]; simp
      have h9 := this (9 - n)
      rw [show n + (9 - n) = 9 by omega] at h9
      exact h9
    rw [h1]
    refine su_cg (fun v hv => ?_)
    by_cases q : bm u v = true
    · rw [if_pos ((exa_0 hE hv).mpr q), q]; simp
    · rw [if_neg (fun z => q ((exa_0 hE hv).mp z))]
      have : bm u v = false := by cases z : bm u v <;> simp [z] at q ⊢
      rw [this]; simp
  have e2 : su (fun e => nww fi se d e) m = ins fi se m w := su_cg (fun e he => by
    obtain ⟨x1, x2, _⟩ := hfs e he
    unfold nww
    have a1 := exa_1 hE x1
    have a2 := exa_1 hE x2
    cases z1 : bm w (fi e)
    · rw [if_neg (fun q => by rw [z1] at a1; simp at a1; exact a1 q.1)]; rfl
    · cases z2 : bm w (se e)
      · rw [if_neg (fun q => by rw [z2] at a2; simp at a2; exact a2 q.2)]; rfl
      · rw [if_pos ⟨a1.mpr z1, a2.mpr z2⟩]; rfl)
  have e3 : ∀ v, v < n → dlr d r w v = d v := by
    intro v hv
    unfold dlr
    by_cases q : bm r v = true
    · rw [if_pos q]
    · rw [if_neg q]
      by_cases z : bm w v = true
      · rw [if_pos z, hE.2.1 v hv z]
      · rw [if_neg z]
        rcases exa_cls (u := u) (w := w) hv with y | y | y
        · rw [hE.1 v hv y]
        · exact absurd y z
        · exact absurd ((hr v).mpr y) q
  have e4 : ∀ l, Yl fi se n m wa d r w l = hA n wa d (l + 2) + su (fun e => nbt fi se d e (l + 2)) m := by
    intro l
    unfold Yl
    congr 1
    · exact su_cg (fun v hv => by rw [e3 v hv])
    · exact su_cg (fun e he => by
        obtain ⟨x1, x2, _⟩ := hfs e he
        unfold nbt
        rw [e3 _ x1, e3 _ x2])
  unfold nbd
  rw [e1, e2, su_cg (g := fun l => Yl fi se n m wa d r w l / 2) (fun l _ => by rw [e4 l])]
/-- one part goes out of r -/
theorem vl_step {fi se : Nat → Nat} {n m u w r nx : Nat} {wa d : Nat → Nat} (hn : n ≤ 9) (hfs : hok fi se n m) (hw : w < 2 ^ n) (hE : exa fi se n m u w d) (hr : ∀ v, bm r v = true → rsv n u w v) (hcl : ∀ a b, adj fi se m a b → bm r a = true → rsv n u w b → bm r b = true) (hp : prt fi se m r nx) :
    ins fi se m nx + ins fi se m w ≤ ins fi se m (nx ||| w) ∧
    su (fun l => Yl fi se n m wa d r w l / 2) 9 = (wsum wa nx + (ins fi se m (nx ||| w) - ins fi se m nx - ins fi se m w)) / 2 + su (fun l => Yl fi se n m wa d (ndf r nx) w l / 2) 9 ∧
    (∀ a b, adj fi se m a b → bm (ndf r nx) a = true → rsv n u w b → bm (ndf r nx) b = true) := by
  obtain ⟨t, t1, t2, t3, t4, t5, t6⟩ := hp
  have ht := hr t t1
  have hdt := hE.2.2.1 t ht
  -- the part is a label's class
  have hcls : ∀ v, bm r v = true → (bm nx v = true ↔ d v = d t) := by
    intro v hv
    constructor
    · intro h
      refine t6 (fun x => d x = d t) rfl (fun a b hab ha h1 h2 => ?_) v h
      obtain ⟨e, he, q⟩ := hab
      have := hE.2.2.2.1 e he
      rcases q with q | q
      · rw [q.1, q.2] at this; rw [← this (hr a h1) (hr b h2)]; exact ha
      · rw [q.1, q.2] at this; rw [this (hr b h2) (hr a h1)]; exact ha
    · intro h
      have hv' : vld fi se n m u w (fun x => if bm nx x = true then 1 else 0) := by
        intro e he r1 r2
        have ha : adj fi se m (fi e) (se e) := ⟨e, he, Or.inl ⟨rfl, rfl⟩⟩
        show (if bm nx (fi e) = true then 1 else 0) = (if bm nx (se e) = true then 1 else 0)
        by_cases q : bm nx (fi e) = true
        · rw [if_pos q, if_pos (t5 _ _ ha q (hcl _ _ ha (t4 _ q) r2))]
        · rw [if_neg q]
          by_cases z : bm nx (se e) = true
          · exact absurd (t5 _ _ (adj_sy ha) z (hcl _ _ (adj_sy ha) (t4 _ z) r1)) q
          · rw [if_neg z]
      have := hE.2.2.2.2 _ hv' v t (hr v hv) ht h
      have h2 : (if bm nx v = true then 1 else 0) = (if bm nx t = true then 1 else 0) := this
      rw [if_pos t3] at h2
      exact Classical.byContradiction (fun q => by rw [if_neg q] at h2; omega)
  have hnw : ∀ v, ¬ (bm nx v = true ∧ bm w v = true) := fun v h => by
    have := (hr v (t4 v h.1)).2.2
    rw [h.2] at this; cases this
  have hbt : ∀ e, (bm (nx ||| w) (fi e) && bm (nx ||| w) (se e)).toNat = (bm nx (fi e) && bm nx (se e)).toNat + (bm w (fi e) && bm w (se e)).toNat + (if (bm nx (fi e) = true ∧ bm w (se e) = true) ∨ (bm w (fi e) = true ∧ bm nx (se e) = true) then 1 else 0) := by
    intro e
    rw [bm_orr, bm_orr]
    have g1 := hnw (fi e)
    have g2 := hnw (se e)
    cases z1 : bm nx (fi e) <;> cases z2 : bm nx (se e) <;> cases z3 : bm w (fi e) <;> cases z4 : bm w (se e) <;> simp [z1, z2, z3, z4] at g1 g2 ⊢
  have hbs : ins fi se m (nx ||| w) = ins fi se m nx + ins fi se m w + su (fun e => if (bm nx (fi e) = true ∧ bm w (se e) = true) ∨ (bm w (fi e) = true ∧ bm nx (se e) = true) then 1 else 0) m := by
    unfold ins
    rw [← su_ad, ← su_ad]
    exact su_cg (fun e _ => hbt e)
  have hrn : ∀ v, bm (ndf r nx) v = true ↔ bm r v = true ∧ ¬ d v = d t := fun v => by
    rw [bm_ndf]
    constructor
    · intro h
      simp only [Bool.and_eq_true, Bool.not_eq_true'] at h
      exact ⟨h.1, fun q => by rw [(hcls v h.1).mpr q] at h; exact absurd h.2 (by decide)⟩
    · rintro ⟨a1, a2⟩
      have : bm nx v = false := by
        cases z : bm nx v
        · rfl
        · exact absurd ((hcls v a1).mp z) a2
      rw [a1, this]; rfl
  -- labels behind the step
  have hlab : ∀ v, dlr d (ndf r nx) w v = if bm r v = true ∧ d v = d t then 0 else dlr d r w v := by
    intro v
    unfold dlr
    by_cases q : bm r v = true
    · by_cases z : d v = d t
      · have hwv : bm w v = false := (hr v q).2.2
        rw [if_neg (c := bm (ndf r nx) v = true) (fun y => ((hrn v).mp y).2 z), if_pos (c := bm r v = true ∧ d v = d t) ⟨q, z⟩, hwv]; rfl
      · rw [if_pos (c := bm (ndf r nx) v = true) ((hrn v).mpr ⟨q, z⟩), if_neg (c := bm r v = true ∧ d v = d t) (fun y => z y.2), if_pos q]
    · rw [if_neg (c := bm (ndf r nx) v = true) (fun y => q ((hrn v).mp y).1), if_neg (c := bm r v = true ∧ d v = d t) (fun y => q y.1), if_neg (c := bm r v = true) q]
  have l0 : d t - 2 < 9 := by omega
  have hY0 : Yl fi se n m wa d (ndf r nx) w (d t - 2) = 0 := by
    have hne : ∀ v, ¬ dlr d (ndf r nx) w v = d t - 2 + 2 := by
      intro v h
      rw [hlab v] at h
      by_cases q : bm r v = true ∧ d v = d t
      · rw [if_pos q] at h; omega
      · rw [if_neg q] at h
        unfold dlr at h
        by_cases z : bm r v = true
        · rw [if_pos z] at h; exact q ⟨z, by omega⟩
        · rw [if_neg z] at h
          by_cases y : bm w v = true
          · rw [if_pos y] at h; omega
          · rw [if_neg y] at h; omega
    unfold Yl
    rw [show hA n wa (dlr d (ndf r nx) w) (d t - 2 + 2) = 0 from su_z (fun v _ => if_neg (hne v)), su_z (fun e _ => ?_)]
    unfold nbt
    exact if_neg (by
      rintro (q | q)
      · exact hne _ q.1
      · exact hne _ q.2)
  have hYl : ∀ l, l ≠ d t - 2 → Yl fi se n m wa d (ndf r nx) w l = Yl fi se n m wa d r w l := by
    intro l hl
    have heq : ∀ v, (dlr d (ndf r nx) w v = l + 2 ↔ dlr d r w v = l + 2) := by
      intro v
      rw [hlab v]
      by_cases q : bm r v = true ∧ d v = d t
      · rw [if_pos q]
        unfold dlr
        rw [if_pos q.1]; omega
      · rw [if_neg q]
    have h1 : ∀ v, (dlr d (ndf r nx) w v = 1 ↔ dlr d r w v = 1) := by
      intro v
      rw [hlab v]
      by_cases q : bm r v = true ∧ d v = d t
      · rw [if_pos q]
        unfold dlr
        rw [if_pos q.1]; omega
      · rw [if_neg q]
    unfold Yl
    congr 1
    · exact su_cg (fun v _ => by
        by_cases q : dlr d r w v = l + 2
        · rw [if_pos q, if_pos ((heq v).mpr q)]
        · rw [if_neg q, if_neg (fun z => q ((heq v).mp z))])
    · refine su_cg (fun e _ => ?_)
      unfold nbt
      have g1 := heq (fi e)
      have g2 := heq (se e)
      have g3 := h1 (fi e)
      have g4 := h1 (se e)
      by_cases q : (dlr d r w (fi e) = l + 2 ∧ dlr d r w (se e) = 1) ∨ (dlr d r w (fi e) = 1 ∧ dlr d r w (se e) = l + 2)
      · rw [if_pos q, if_pos (by rcases q with q | q; exact Or.inl ⟨g1.mpr q.1, g4.mpr q.2⟩; exact Or.inr ⟨g3.mpr q.1, g2.mpr q.2⟩)]
      · rw [if_neg q, if_neg (fun z => q (by rcases z with z | z; exact Or.inl ⟨g1.mp z.1, g4.mp z.2⟩; exact Or.inr ⟨g3.mp z.1, g2.mp z.2⟩))]
  have hYt : Yl fi se n m wa d r w (d t - 2) = wsum wa nx + su (fun e => if (bm nx (fi e) = true ∧ bm w (se e) = true) ∨ (bm w (fi e) = true ∧ bm nx (se e) = true) then 1 else 0) m := by
    have hin : ∀ v, dlr d r w v = d t - 2 + 2 ↔ bm nx v = true := by
      intro v
      unfold dlr
      by_cases q : bm r v = true
      · rw [if_pos q, hcls v q]; omega
      · rw [if_neg q]
        constructor
        · intro h; split at h <;> omega
        · intro h; exact absurd (t4 v h) q
    have h1 : ∀ v, dlr d r w v = 1 ↔ bm w v = true := by
      intro v
      unfold dlr
      by_cases q : bm r v = true
      · have := hE.2.2.1 v (hr v q)
        have hwv : bm w v = false := (hr v q).2.2
        rw [if_pos q, hwv]; simp; omega
      · rw [if_neg q]
        by_cases z : bm w v = true
        · rw [if_pos z]; simp [z]
        · rw [if_neg z]; simp [z]
    unfold Yl
    congr 1
    · have hx : wsum wa nx = su (fun v => (bm nx v).toNat * wa v) n := by
        have : ∀ k, su (fun v => (bm nx v).toNat * wa v) (n + k) = su (fun v => (bm nx v).toNat * wa v) n := by
          intro k
          induction k with
          | zero => rfl
          | succ k ih =>
            show su (fun v => (bm nx v).toNat * wa v) (n + k) + (bm nx (n + k)).toNat * wa (n + k) = _
            have hz : bm nx (n + k) = false := by
              cases z : bm nx (n + k)
              · rfl
              · have := (hr _ (t4 _ z)).1; omega
            rw [ih, hz]; simp
        have h9 := this (9 - n)
        rw [show n + (9 - n) = 9 by omega] at h9
        exact h9
      rw [hx]
      refine su_cg (fun v _ => ?_)
      by_cases q : bm nx v = true
      · rw [if_pos ((hin v).mpr q), q]; simp
      · have hz : bm nx v = false := by cases z : bm nx v <;> simp [z] at q ⊢
        rw [if_neg (fun z => q ((hin v).mp z)), hz]; simp
    · refine su_cg (fun e _ => ?_)
      unfold nbt
      have g1 := hin (fi e)
      have g2 := hin (se e)
      have g3 := h1 (fi e)
      have g4 := h1 (se e)
      by_cases q : (bm nx (fi e) = true ∧ bm w (se e) = true) ∨ (bm w (fi e) = true ∧ bm nx (se e) = true)
      · rw [if_pos q, if_pos (by rcases q with q | q; exact Or.inl ⟨g1.mpr q.1, g4.mpr q.2⟩; exact Or.inr ⟨g3.mpr q.1, g2.mpr q.2⟩)]
      · rw [if_neg q, if_neg (fun z => q (by rcases z with z | z; exact Or.inl ⟨g1.mp z.1, g4.mp z.2⟩; exact Or.inr ⟨g3.mp z.1, g2.mp z.2⟩))]
  refine ⟨by omega, ?_, fun a b hab ha hb => ?_⟩
  · have hs := su_up (f := fun l => Yl fi se n m wa d r w l / 2) (k := d t - 2) (a := 0) l0
    have he : su (fun l => Yl fi se n m wa d (ndf r nx) w l / 2) 9 = su (fun i => if i = d t - 2 then 0 else Yl fi se n m wa d r w i / 2) 9 := su_cg (fun l _ => by
      by_cases q : l = d t - 2
      · rw [if_pos q, q, hY0]
      · rw [if_neg q, hYl l q])
    rw [he]
    have hs2 : su (fun i => if i = d t - 2 then 0 else Yl fi se n m wa d r w i / 2) 9 + Yl fi se n m wa d r w (d t - 2) / 2 = su (fun l => Yl fi se n m wa d r w l / 2) 9 + 0 := hs
    rw [hYt] at hs2
    have hsub : ins fi se m (nx ||| w) - ins fi se m nx - ins fi se m w = su (fun e => if (bm nx (fi e) = true ∧ bm w (se e) = true) ∨ (bm w (fi e) = true ∧ bm nx (se e) = true) then 1 else 0) m := by omega
    rw [hsub]
    omega
  · obtain ⟨a1, a2⟩ := (hrn a).mp ha
    refine (hrn b).mpr ⟨hcl a b hab a1 hb, fun q => a2 ?_⟩
    have hb2 := hcl a b hab a1 hb
    have := t5 b a (adj_sy hab) ((hcls b hb2).mpr q) a1
    exact (hcls a a1).mp this
end
section
theorem hsz_bd {s k : Nat} (h : s < 2 ^ k) (N : Nat) : hsz N (bm s) ≤ k := by
  have : ∀ N, hsz N (bm s) ≤ min N k := by
    intro N
    induction N with
    | zero => exact Nat.zero_le _
    | succ N ih =>
      show hsz N (bm s) + (bm s N).toNat ≤ min (N + 1) k
      have b1 := Bool.toNat_le (bm s N)
      rcases Nat.lt_or_ge N k with q | q
      · omega
      · rw [bm_ge h q]; simp; omega
  have := this N
  omega
theorem hsz_z {s N : Nat} (h : s < 2 ^ N) (hz : hsz N (bm s) = 0) : s = 0 := by
  refine Classical.byContradiction (fun q => ?_)
  obtain ⟨i, hi⟩ := bm_ne0.mp q
  have hlt := lt_bm h hi
  have h1 : (bm s i).toNat ≤ hsz N (bm s) := su_mem (f := fun j => (bm s j).toNat) hlt
  rw [hi] at h1
  simp at h1
  omega
theorem bm_all (n v : Nat) : bm (2 ^ n - 1) v = decide (v < n) := Nat.testBit_two_pow_sub_one n v
theorem bm_rest (n u w v : Nat) : bm (ndf (2 ^ n - 1) (u ||| w)) v = true ↔ rsv n u w v := by
  rw [bm_ndf, bm_all, bm_orr]
  unfold rsv
  cases bm u v <;> cases bm w v <;> simp
theorem prt_lt {fi se : Nat → Nat} {m s p k : Nat} (hs : s < 2 ^ k) (h : prt fi se m s p) : p < 2 ^ k := by
  obtain ⟨t, t1, t2, t3, t4, _⟩ := h
  exact bm_lt (fun i hi => lt_bm hs (t4 i hi))
theorem p2_le {v k : Nat} (h : v ≤ k) : 2 ^ v ≤ 2 ^ k := Nat.pow_le_pow_right (by decide) h
end
section
set_option maxHeartbeats 4000000 in
set_option maxRecDepth 100000 in
/-- the part that v is in when the vertices of others are there too -/
theorem kB_partOf (l : Launch) (D : va_G) (cA : ClassId) (h o1 o2 o3 o4 o5 : Nat) (nr pt : Nat → Nat) (al fu fw : Int32) (fi se : Nat → Nat) (m v low : Nat) (hv : v ≤ 8) (hlow : low < 2 ^ v) (hnr : ∀ c, bm (nr v) c = true ↔ adj fi se m v c) (hpt : ∀ s, 0 < s → s < 2 ^ v → prt fi se m s (pt s)) : CtP l yB_partOf (.code yB_partOf cB_partOf 7 (some .int)) 0 D cA [.ref h, .int (nI v), .int (nI low)] [(h, .inr (1, [.ref o1, .ref o2, .ref o3, .ref o4, .ref o5, .int al, .int fu, .int fw])), (o2, .inl (cA, 9, .inl (aN nr))), (o5, .inl (cA, 512, .inl (aN pt)))] (fun r => ∃ p, r = nI p ∧ p < 512 ∧ prt fi se m (low ||| 2 ^ v) p) := by
  refine mkP [(0, .ref h), (1, .int (nI v)), (2, .int (nI low))] (by decide) rfl (Nat.le_of_ble_eq_true rfl) ?_
  intro E Q hE C hret
  have h2v : 2 ^ v ≤ 256 := p2_le (k := 8) hv
  have h2w : 2 ^ (v + 1) ≤ 512 := p2_le (k := 9) (by omega)
  have hvl : bm low v = false := bm_ge hlow (Nat.le_refl _)
  refine s_iconst (nI 1) C dB_partOf_0 (by decide) ?_
  refine s_iload_n 1 C dB_partOf_1 rfl ?_
  refine s_shl1 C dB_partOf_2 (by omega) ?_
  refine s_istore_n [(0, .ref h), (1, .int (nI v)), (2, .int (nI low)), (3, .int (nI (2 ^ v)))] [1, 2, 3, 0] C dB_partOf_3 (by decide) rfl ?_
  refine s_iload_n 2 C dB_partOf_4 rfl ?_
  refine s_istore [(0, .ref h), (1, .int (nI v)), (2, .int (nI low)), (3, .int (nI (2 ^ v))), (4, .int (nI low))] [1, 2, 3, 4, 0] C dB_partOf_5 (by decide) rfl ?_
  refine s_iconst (nI 0) C dB_partOf_7 (by decide) ?_
  refine s_istore [(0, .ref h), (1, .int (nI v)), (2, .int (nI low)), (3, .int (nI (2 ^ v))), (4, .int (nI low)), (5, .int (nI 0))] [1, 2, 3, 4, 5, 0] C dB_partOf_8 (by decide) rfl ?_
  have loop : ∀ k i (rest jn : Nat), i + k = 9 → pJ fi se m v low rest jn → hsz 9 (bm rest) + i ≤ 8 → ST E 7 Q 0 0 (pf E D [(h, .inr (1, [.ref o1, .ref o2, .ref o3, .ref o4, .ref o5, .int al, .int fu, .int fw])), (o2, .inl (cA, 9, .inl (aN nr))), (o5, .inl (cA, 512, .inl (aN pt)))]) [(0, .ref h), (1, .int (nI v)), (2, .int (nI low)), (3, .int (nI jn)), (4, .int (nI rest)), (5, .int (nI i))] [] 10 := by
    intro k
    induction k with
    | zero =>
      intro i rest jn hi hJ hcd
      refine s_iload 5 C dB_partOf_10 rfl ?_
      refine s_bipush (nI 9) C dB_partOf_12 (by decide) ?_
      refine s_icmp_geN 63 C dB_partOf_14 (by decide) (by omega) (by omega) (fun c1 => ?_) (fun c1 => ?_)
      · exact absurd hcd (by omega)
      · exact absurd c1 (by omega)
    | succ k ih =>
      intro i rest jn hi hJ hcd
      refine s_iload 5 C dB_partOf_10 rfl ?_
      refine s_bipush (nI 9) C dB_partOf_12 (by decide) ?_
      refine s_icmp_geN 63 C dB_partOf_14 (by decide) (by omega) (by omega) (fun c1 => ?_) (fun c1 => ?_)
      · exact absurd c1 (by omega)
      · have hrl : rest < 2 ^ v := bm_lt (fun a ha => lt_bm hlow (hJ.1 a ha))
        have hjl := pJ_lt hlow hJ
        refine s_iload 4 C dB_partOf_17 rfl ?_
        refine s_if_eqN 63 C dB_partOf_19 (by decide) (by omega) (fun c2 => ?_) (fun c2 => ?_)
        · subst c2
          refine s_iload_n 3 C dB_partOf_63 rfl ?_
          exact hret _ _ _ dB_partOf_64 rfl ⟨jn, rfl, by omega, pJ_end hlow hJ⟩
        · have hp := hpt rest (by omega) hrl
          have hpl := prt_lt hrl hp
          have hst := pJ_step hvl hnr hJ hp
          have hcd2 : hsz 9 (bm (ndf rest (pt rest))) + (i + 1) ≤ 8 := by
            obtain ⟨t, t1, t2, t3, _⟩ := hp
            have := hsz_dn t1 t3 (lt_bm (Nat.lt_of_lt_of_le hrl (Nat.le_trans h2v (by decide : 256 ≤ 2 ^ 9))) t1)
            omega
          refine s_aload_n 0 C dB_partOf_22 rfl ?_
          refine s_get (.ref o5) 0 4 C pfP inB flB_24 dB_partOf_23 rfl rfl (by decide) rfl ?_
          refine s_iload 4 C dB_partOf_26 rfl ?_
          refine s_ialdN 2 C pfP dB_partOf_28 rfl (by omega) (by decide) ?_
          refine s_istore [(0, .ref h), (1, .int (nI v)), (2, .int (nI low)), (3, .int (nI jn)), (4, .int (nI rest)), (5, .int (nI i)), (6, .int (nI (pt rest)))] [1, 2, 3, 4, 5, 6, 0] C dB_partOf_29 (by decide) rfl ?_
          refine s_iload 6 C dB_partOf_31 rfl ?_
          refine s_aload_n 0 C dB_partOf_33 rfl ?_
          refine s_get (.ref o2) 0 1 C pfP inB flB_15 dB_partOf_34 rfl rfl (by decide) rfl ?_
          refine s_iload_n 1 C dB_partOf_37 rfl ?_
          refine s_ialdN 1 C pfP dB_partOf_38 rfl (by omega) (by decide) ?_
          refine s_iandN C dB_partOf_39 ?_
          refine s_if_eqN 48 C dB_partOf_40 (by decide) (Nat.lt_of_le_of_lt Nat.and_le_left (by omega)) (fun c3 => ?_) (fun c3 => ?_)
          · rw [if_neg (by simp [c3])] at hst
            refine s_iload 4 C dB_partOf_48 rfl ?_
            refine s_iload 6 C dB_partOf_50 rfl ?_
            refine s_iconst (-1) C dB_partOf_52 (by decide) ?_
            refine s_ixor C dB_partOf_53 ?_
            refine s_andnot C dB_partOf_54 ?_
            refine s_istore [(0, .ref h), (1, .int (nI v)), (2, .int (nI low)), (3, .int (nI jn)), (4, .int (nI (ndf rest (pt rest)))), (5, .int (nI i)), (6, .int (nI (pt rest)))] [1, 2, 3, 4, 0, 5, 6] C dB_partOf_55 (by decide) rfl ?_
            refine s_iinc (j := 5) (nI (i + 1)) [(0, .ref h), (1, .int (nI v)), (2, .int (nI low)), (3, .int (nI jn)), (4, .int (nI (ndf rest (pt rest)))), (5, .int (nI (i + 1))), (6, .int (nI (pt rest)))] [1, 2, 3, 4, 5, 0, 6] C dB_partOf_57 rfl (inc1 _) (by decide) rfl ?_
            refine s_goto (tgt := 10) C dB_partOf_60 (by decide) ?_
            refine s_lv (lv' := [(0, .ref h), (1, .int (nI v)), (2, .int (nI low)), (3, .int (nI jn)), (4, .int (nI (ndf rest (pt rest)))), (5, .int (nI (i + 1)))]) [0, 1, 2, 3, 4, 5] rfl ?_
            exact ih (i + 1) _ _ (by omega) hst hcd2
          · rw [if_pos c3] at hst
            refine s_iload_n 3 C dB_partOf_43 rfl ?_
            refine s_iload 6 C dB_partOf_44 rfl ?_
            refine s_iorN C dB_partOf_46 ?_
            refine s_istore_n [(0, .ref h), (1, .int (nI v)), (2, .int (nI low)), (3, .int (nI (jn ||| (pt rest)))), (4, .int (nI rest)), (5, .int (nI i)), (6, .int (nI (pt rest)))] [1, 2, 3, 0, 4, 5, 6] C dB_partOf_47 (by decide) rfl ?_
            refine s_iload 4 C dB_partOf_48 rfl ?_
            refine s_iload 6 C dB_partOf_50 rfl ?_
            refine s_iconst (-1) C dB_partOf_52 (by decide) ?_
            refine s_ixor C dB_partOf_53 ?_
            refine s_andnot C dB_partOf_54 ?_
            refine s_istore [(0, .ref h), (1, .int (nI v)), (2, .int (nI low)), (3, .int (nI (jn ||| (pt rest)))), (4, .int (nI (ndf rest (pt rest)))), (5, .int (nI i)), (6, .int (nI (pt rest)))] [1, 2, 3, 4, 0, 5, 6] C dB_partOf_55 (by decide) rfl ?_
            refine s_iinc (j := 5) (nI (i + 1)) [(0, .ref h), (1, .int (nI v)), (2, .int (nI low)), (3, .int (nI (jn ||| (pt rest)))), (4, .int (nI (ndf rest (pt rest)))), (5, .int (nI (i + 1))), (6, .int (nI (pt rest)))] [1, 2, 3, 4, 5, 0, 6] C dB_partOf_57 rfl (inc1 _) (by decide) rfl ?_
            refine s_goto (tgt := 10) C dB_partOf_60 (by decide) ?_
            refine s_lv (lv' := [(0, .ref h), (1, .int (nI v)), (2, .int (nI low)), (3, .int (nI (jn ||| (pt rest)))), (4, .int (nI (ndf rest (pt rest)))), (5, .int (nI (i + 1)))]) [0, 1, 2, 3, 4, 5] rfl ?_
            exact ih (i + 1) _ _ (by omega) hst hcd2
  have hc0 := hsz_bd hlow 9
  exact loop 9 0 low (2 ^ v) (by omega) (pJ_0 fi se m v low) (by omega)
set_option maxHeartbeats 4000000 in
set_option maxRecDepth 100000 in
/-- the bound of u and w -/
theorem kB_value (l : Launch) (D : va_G) (cA : ClassId) (h o1 o2 o3 o4 o5 : Nat) (wt is pt : Nat → Nat) (fu fw : Int32) (n m : Nat) (fi se wa : Nat → Nat) (u w : Nat) (hn : n ≤ 9) (hm : m ≤ 14) (hfs : hok fi se n m) (hwa : ∀ v, v < 9 → wa v ≤ 14) (hu : u < 2 ^ n) (hw : w < 2 ^ n) (hdj : dsj u w) (hwt : ∀ s, s < 2 ^ n → wt s = wsum wa s) (his : ∀ s, s < 2 ^ n → is s = ins fi se m s) (hpt : ∀ s, 0 < s → s < 2 ^ n → prt fi se m s (pt s)) : CtP l yB_value (.code yB_value cB_value 8 (some .int)) 0 D cA [.ref h, .int (nI u), .int (nI w)] [(h, .inr (1, [.ref o1, .ref o2, .ref o3, .ref o4, .ref o5, .int (nI (2 ^ n - 1)), .int fu, .int fw])), (o3, .inl (cA, 512, .inl (aN wt))), (o4, .inl (cA, 512, .inl (aN is))), (o5, .inl (cA, 512, .inl (aN pt)))] (fun r => r = nI (bnd fi se n m wa u w)) := by
  refine mkP [(0, .ref h), (1, .int (nI u)), (2, .int (nI w))] (by decide) rfl (Nat.le_of_ble_eq_true rfl) ?_
  intro E Q hE C hret
  have h2n : 2 ^ n ≤ 512 := p2_le (k := 9) hn
  obtain ⟨d, hEx⟩ := exa_ex fi se (m := m) hn hdj
  have hbd := bnd_is (b := wa) hfs hEx
  have hwu := wsum_le hwa u
  refine s_aload_n 0 C dB_value_0 rfl ?_
  refine s_get (.ref o3) 0 2 C pfP inB flB_18 dB_value_1 rfl rfl (by decide) rfl ?_
  refine s_iload_n 1 C dB_value_4 rfl ?_
  refine s_ialdN 1 C pfP dB_value_5 rfl (by omega) (by decide) ?_
  refine s_aload_n 0 C dB_value_6 rfl ?_
  refine s_get (.ref o4) 0 3 C pfP inB flB_21 dB_value_7 rfl rfl (by decide) rfl ?_
  refine s_iload_n 2 C dB_value_10 rfl ?_
  refine s_ialdN 2 C pfP dB_value_11 rfl (by omega) (by decide) ?_
  refine s_iaddN C dB_value_12 ?_
  refine s_istore_n [(0, .ref h), (1, .int (nI u)), (2, .int (nI w)), (3, .int (nI (wt u + (is w))))] [1, 2, 3, 0] C dB_value_13 (by decide) rfl ?_
  refine s_aload_n 0 C dB_value_14 rfl ?_
  refine s_get (.int (nI (2 ^ n - 1))) 0 5 C pfP inB flB_33 dB_value_15 rfl rfl (by decide) rfl ?_
  refine s_iload_n 1 C dB_value_18 rfl ?_
  refine s_iload_n 2 C dB_value_19 rfl ?_
  refine s_iorN C dB_value_20 ?_
  refine s_iconst (-1) C dB_value_21 (by decide) ?_
  refine s_ixor C dB_value_22 ?_
  refine s_andnot C dB_value_23 ?_
  refine s_istore [(0, .ref h), (1, .int (nI u)), (2, .int (nI w)), (3, .int (nI (wt u + (is w)))), (4, .int (nI (ndf (2 ^ n - 1) (u ||| w))))] [1, 2, 3, 4, 0] C dB_value_24 (by decide) rfl ?_
  refine s_iconst (nI 0) C dB_value_26 (by decide) ?_
  refine s_istore [(0, .ref h), (1, .int (nI u)), (2, .int (nI w)), (3, .int (nI (wt u + (is w)))), (4, .int (nI (ndf (2 ^ n - 1) (u ||| w)))), (5, .int (nI 0))] [1, 2, 3, 4, 5, 0] C dB_value_27 (by decide) rfl ?_
  have loop : ∀ k i (sm rest : Nat), i + k = 9 → sm + su (fun l => Yl fi se n m wa d rest w l / 2) 9 = nbd fi se n m 9 wa d → (∀ v, bm rest v = true → rsv n u w v) → (∀ a b, adj fi se m a b → bm rest a = true → rsv n u w b → bm rest b = true) → rest < 2 ^ n → hsz 9 (bm rest) + i ≤ 9 → ST E 8 Q 0 0 (pf E D [(h, .inr (1, [.ref o1, .ref o2, .ref o3, .ref o4, .ref o5, .int (nI (2 ^ n - 1)), .int fu, .int fw])), (o3, .inl (cA, 512, .inl (aN wt))), (o4, .inl (cA, 512, .inl (aN is))), (o5, .inl (cA, 512, .inl (aN pt)))]) [(0, .ref h), (1, .int (nI u)), (2, .int (nI w)), (3, .int (nI sm)), (4, .int (nI rest)), (5, .int (nI i))] [] 29 := by
    intro k
    induction k with
    | zero =>
      intro i sm rest hi hsm hrs hcl hrl hcd
      refine s_iload 5 C dB_value_29 rfl ?_
      refine s_bipush (nI 9) C dB_value_31 (by decide) ?_
      refine s_icmp_geN 106 C dB_value_33 (by decide) (by omega) (by omega) (fun c1 => ?_) (fun c1 => ?_)
      · refine s_iload_n 3 C dB_value_106 rfl ?_
        have e0 : rest = 0 := hsz_z (N := 9) (Nat.lt_of_lt_of_le hrl h2n) (by omega)
        subst e0
        refine hret _ _ _ dB_value_107 rfl ?_
        rw [hbd, ← hsm, su_z (fun l _ => by rw [Yl_0])]
        rfl
      · exact absurd c1 (by omega)
    | succ k ih =>
      intro i sm rest hi hsm hrs hcl hrl hcd
      refine s_iload 5 C dB_value_29 rfl ?_
      refine s_bipush (nI 9) C dB_value_31 (by decide) ?_
      refine s_icmp_geN 106 C dB_value_33 (by decide) (by omega) (by omega) (fun c1 => ?_) (fun c1 => ?_)
      · exact absurd c1 (by omega)
      · refine s_iload 4 C dB_value_36 rfl ?_
        refine s_if_eqN 106 C dB_value_38 (by decide) (by omega) (fun c2 => ?_) (fun c2 => ?_)
        · subst c2
          refine s_iload_n 3 C dB_value_106 rfl ?_
          refine hret _ _ _ dB_value_107 rfl ?_
          rw [hbd, ← hsm, su_z (fun l _ => by rw [Yl_0])]
          rfl
        · have hp := hpt rest (by omega) hrl
          have hpl := prt_lt hrl hp
          obtain ⟨v1, v2, v3⟩ := vl_step (wa := wa) hn hfs hw hEx hrs hcl hp
          have hor : pt rest ||| w < 2 ^ n := Nat.or_lt_two_pow hpl hw
          have i1 := his _ hor
          have i2 := his _ hpl
          have i3 := his _ hw
          have i4 := hwt _ hpl
          have i5 := wsum_le hwa (pt rest)
          have i6 := ins_le fi se m (pt rest ||| w)
          have hcd2 : hsz 9 (bm (ndf rest (pt rest))) + (i + 1) ≤ 9 := by
            obtain ⟨t, t1, t2, t3, _⟩ := hp
            have := hsz_dn (k := 9) t1 t3 (lt_bm (Nat.lt_of_lt_of_le hrl h2n) t1)
            omega
          refine s_aload_n 0 C dB_value_41 rfl ?_
          refine s_get (.ref o5) 0 4 C pfP inB flB_24 dB_value_42 rfl rfl (by decide) rfl ?_
          refine s_iload 4 C dB_value_45 rfl ?_
          refine s_ialdN 3 C pfP dB_value_47 rfl (by omega) (by decide) ?_
          refine s_istore [(0, .ref h), (1, .int (nI u)), (2, .int (nI w)), (3, .int (nI sm)), (4, .int (nI rest)), (5, .int (nI i)), (6, .int (nI (pt rest)))] [1, 2, 3, 4, 5, 6, 0] C dB_value_48 (by decide) rfl ?_
          refine s_aload_n 0 C dB_value_50 rfl ?_
          refine s_get (.ref o4) 0 3 C pfP inB flB_21 dB_value_51 rfl rfl (by decide) rfl ?_
          refine s_iload 6 C dB_value_54 rfl ?_
          refine s_iload_n 2 C dB_value_56 rfl ?_
          refine s_iorN C dB_value_57 ?_
          refine s_ialdN 2 C pfP dB_value_58 rfl (by omega) (by decide) ?_
          refine s_aload_n 0 C dB_value_59 rfl ?_
          refine s_get (.ref o4) 0 3 C pfP inB flB_21 dB_value_60 rfl rfl (by decide) rfl ?_
          refine s_iload 6 C dB_value_63 rfl ?_
          refine s_ialdN 2 C pfP dB_value_65 rfl (by omega) (by decide) ?_
          refine s_isubN C dB_value_66 (by omega) ?_
          refine s_aload_n 0 C dB_value_67 rfl ?_
          refine s_get (.ref o4) 0 3 C pfP inB flB_21 dB_value_68 rfl rfl (by decide) rfl ?_
          refine s_iload_n 2 C dB_value_71 rfl ?_
          refine s_ialdN 2 C pfP dB_value_72 rfl (by omega) (by decide) ?_
          refine s_isubN C dB_value_73 (by omega) ?_
          refine s_istore [(0, .ref h), (1, .int (nI u)), (2, .int (nI w)), (3, .int (nI sm)), (4, .int (nI rest)), (5, .int (nI i)), (6, .int (nI (pt rest))), (7, .int (nI (((is ((pt rest) ||| w)) - (is (pt rest))) - (is w))))] [1, 2, 3, 4, 5, 6, 7, 0] C dB_value_74 (by decide) rfl ?_
          refine s_iload_n 3 C dB_value_76 rfl ?_
          refine s_aload_n 0 C dB_value_77 rfl ?_
          refine s_get (.ref o3) 0 2 C pfP inB flB_18 dB_value_78 rfl rfl (by decide) rfl ?_
          refine s_iload 6 C dB_value_81 rfl ?_
          refine s_ialdN 1 C pfP dB_value_83 rfl (by omega) (by decide) ?_
          refine s_iload 7 C dB_value_84 rfl ?_
          refine s_iaddN C dB_value_86 ?_
          refine s_iconst (nI 2) C dB_value_87 (by decide) ?_
          refine s_idivN C dB_value_88 (by omega) (by decide) (by decide) ?_
          refine s_iaddN C dB_value_89 ?_
          refine s_istore_n [(0, .ref h), (1, .int (nI u)), (2, .int (nI w)), (3, .int (nI (sm + ((wt (pt rest) + (((is ((pt rest) ||| w)) - (is (pt rest))) - (is w))) / 2)))), (4, .int (nI rest)), (5, .int (nI i)), (6, .int (nI (pt rest))), (7, .int (nI (((is ((pt rest) ||| w)) - (is (pt rest))) - (is w))))] [1, 2, 3, 0, 4, 5, 6, 7] C dB_value_90 (by decide) rfl ?_
          refine s_iload 4 C dB_value_91 rfl ?_
          refine s_iload 6 C dB_value_93 rfl ?_
          refine s_iconst (-1) C dB_value_95 (by decide) ?_
          refine s_ixor C dB_value_96 ?_
          refine s_andnot C dB_value_97 ?_
          refine s_istore [(0, .ref h), (1, .int (nI u)), (2, .int (nI w)), (3, .int (nI (sm + ((wt (pt rest) + (((is ((pt rest) ||| w)) - (is (pt rest))) - (is w))) / 2)))), (4, .int (nI (ndf rest (pt rest)))), (5, .int (nI i)), (6, .int (nI (pt rest))), (7, .int (nI (((is ((pt rest) ||| w)) - (is (pt rest))) - (is w))))] [1, 2, 3, 4, 0, 5, 6, 7] C dB_value_98 (by decide) rfl ?_
          refine s_iinc (j := 5) (nI (i + 1)) [(0, .ref h), (1, .int (nI u)), (2, .int (nI w)), (3, .int (nI (sm + ((wt (pt rest) + (((is ((pt rest) ||| w)) - (is (pt rest))) - (is w))) / 2)))), (4, .int (nI (ndf rest (pt rest)))), (5, .int (nI (i + 1))), (6, .int (nI (pt rest))), (7, .int (nI (((is ((pt rest) ||| w)) - (is (pt rest))) - (is w))))] [1, 2, 3, 4, 5, 0, 6, 7] C dB_value_100 rfl (inc1 _) (by decide) rfl ?_
          refine s_goto (tgt := 29) C dB_value_103 (by decide) ?_
          refine s_lv (lv' := [(0, .ref h), (1, .int (nI u)), (2, .int (nI w)), (3, .int (nI (sm + ((wt (pt rest) + (((is ((pt rest) ||| w)) - (is (pt rest))) - (is w))) / 2)))), (4, .int (nI (ndf rest (pt rest)))), (5, .int (nI (i + 1)))]) [0, 1, 2, 3, 4, 5] rfl ?_
          refine ih (i + 1) _ _ (by omega) ?_ ?_ v3 ?_ hcd2
          · rw [i1, i2, i3, i4, Nat.add_assoc, ← v2]; exact hsm
          · exact fun v hv => hrs v (by rw [bm_ndf] at hv; simp only [Bool.and_eq_true] at hv; exact hv.1)
          · exact bm_lt (fun v hv => lt_bm hrl (by rw [bm_ndf] at hv; simp only [Bool.and_eq_true] at hv; exact hv.1))
  have hr0 := bm_rest n u w
  have hrl0 : ndf (2 ^ n - 1) (u ||| w) < 2 ^ n := bm_lt (fun v hv => ((hr0 v).mp hv).1)
  have hc0 := hsz_bd hrl0 9
  refine loop 9 0 _ _ (by omega) ?_ (fun v hv => (hr0 v).mp hv) (fun a b _ _ hb => (hr0 b).mpr hb) hrl0 (by omega)
  rw [hwt u hu, his w hw]
  exact (nbd_st hn hfs hu hEx hr0).symm
end
section
/-! edges inside a set, by the table's own way -/
def pm (fi se : Nat → Nat) (e : Nat) : Nat := 2 ^ fi e ||| 2 ^ se e
noncomputable def mtb (k p s : Nat) : Bool := @decide (∀ j, j < 9 → (j < k → bm p j = true → bm s j = true) ∧ (k ≤ j → bm p j = bm s j)) (Classical.propDecidable _)
theorem mtb_iff {k p s : Nat} : mtb k p s = true ↔ ∀ j, j < 9 → (j < k → bm p j = true → bm s j = true) ∧ (k ≤ j → bm p j = bm s j) := @decide_eq_true_iff _ (Classical.propDecidable _)
noncomputable def zt (fi se : Nat → Nat) (m k s : Nat) : Nat := su (fun e => (mtb k (pm fi se e) s).toNat) m
theorem bool_iff {a b : Bool} (h : a = true ↔ b = true) : a = b := by cases a <;> cases b <;> simp at h ⊢
theorem zt_off {fi se : Nat → Nat} {m k s : Nat} (h : bm s k = false) : zt fi se m (k + 1) s = zt fi se m k s := by
  refine su_cg (fun e _ => ?_)
  congr 1
  refine bool_iff ?_
  rw [mtb_iff, mtb_iff]
  constructor
  · intro q j hj
    obtain ⟨q1, q2⟩ := q j hj
    refine ⟨fun h1 => q1 (by omega), fun h1 => ?_⟩
    by_cases z : j = k
    · subst z
      cases y : bm (pm fi se e) j
      · exact h.symm
      · exact (q1 (by omega) y).symm
    · exact q2 (by omega)
  · intro q j hj
    obtain ⟨q1, q2⟩ := q j hj
    refine ⟨fun h1 h2 => ?_, fun h1 => q2 (by omega)⟩
    by_cases z : j = k
    · subst z
      rw [← q2 (Nat.le_refl _)]; exact h2
    · exact q1 (by omega) h2
theorem zt_on {fi se : Nat → Nat} {m k s : Nat} (hk : k < 9) (h : bm s k = true) : zt fi se m (k + 1) s = zt fi se m k s + zt fi se m k (s ^^^ 2 ^ k) := by
  unfold zt
  rw [← su_ad]
  refine su_cg (fun e _ => ?_)
  have hx : ∀ j, bm (s ^^^ 2 ^ k) j = (bm s j ^^ decide (j = k)) := fun j => by rw [bm_xor, bm_pow]
  generalize pm fi se e = p
  cases y : bm p k
  · have z1 : mtb k p s = false := by
      cases z : mtb k p s
      · rfl
      · have := (mtb_iff.mp z k hk).2 (Nat.le_refl _)
        rw [y, h] at this; cases this
    have z2 : mtb (k + 1) p s = mtb k p (s ^^^ 2 ^ k) := by
      refine bool_iff ?_
      rw [mtb_iff, mtb_iff]
      constructor
      · intro q j hj
        obtain ⟨q1, q2⟩ := q j hj
        rw [hx j]
        by_cases z : j = k
        · subst z
          refine ⟨fun h1 => absurd h1 (by omega), fun _ => ?_⟩
          rw [y, h]; simp
        · simp only [z, decide_false, Bool.xor_false]
          exact ⟨fun h1 => q1 (by omega), fun h1 => q2 (by omega)⟩
      · intro q j hj
        obtain ⟨q1, q2⟩ := q j hj
        rw [hx j] at q1 q2
        by_cases z : j = k
        · subst z
          exact ⟨fun _ h2 => absurd h2 (by rw [y]; decide), fun h1 => absurd h1 (by omega)⟩
        · simp only [z, decide_false, Bool.xor_false] at q1 q2
          exact ⟨fun h1 => q1 (by omega), fun h1 => q2 (by omega)⟩
    rw [z1, z2]; simp
  · have z1 : mtb k p (s ^^^ 2 ^ k) = false := by
      cases z : mtb k p (s ^^^ 2 ^ k)
      · rfl
      · have := (mtb_iff.mp z k hk).2 (Nat.le_refl _)
        rw [y, hx k, h] at this; simp at this
    have z2 : mtb (k + 1) p s = mtb k p s := by
      refine bool_iff ?_
      rw [mtb_iff, mtb_iff]
      constructor
      · intro q j hj
        obtain ⟨q1, q2⟩ := q j hj
        refine ⟨fun h1 => q1 (by omega), fun h1 => ?_⟩
        by_cases z : j = k
        · subst z; rw [y, h]
        · exact q2 (by omega)
      · intro q j hj
        obtain ⟨q1, q2⟩ := q j hj
        refine ⟨fun h1 h2 => ?_, fun h1 => q2 (by omega)⟩
        by_cases z : j = k
        · subst z; exact h
        · exact q1 (by omega) h2
    rw [z1, z2]; simp
theorem bm_pm (fi se : Nat → Nat) (e j : Nat) : bm (pm fi se e) j = (decide (j = fi e) || decide (j = se e)) := by
  unfold pm; rw [bm_orr, bm_pow, bm_pow]
theorem zt_0 {fi se : Nat → Nat} {n m s : Nat} (hn : n ≤ 9) (hfs : hok fi se n m) (hs : s < 2 ^ n) : zt fi se m 0 s = su (fun e => if pm fi se e = s then 1 else 0) m := by
  refine su_cg (fun e he => ?_)
  obtain ⟨x1, x2, _⟩ := hfs e he
  by_cases q : pm fi se e = s
  · rw [if_pos q, q]
    have : mtb 0 s s = true := mtb_iff.mpr (fun j _ => ⟨fun h => absurd h (by omega), fun _ => rfl⟩)
    rw [this]; rfl
  · rw [if_neg q]
    have : mtb 0 (pm fi se e) s = false := by
      cases z : mtb 0 (pm fi se e) s
      · rfl
      · refine absurd (bm_ext (n := 9) (bm_lt (fun i hi => ?_)) (Nat.lt_of_lt_of_le hs (p2_le hn)) (fun j hj => (mtb_iff.mp z j hj).2 (Nat.zero_le _))) q
        rw [bm_pm] at hi
        simp at hi
        omega
    rw [this]; rfl
theorem zt_n {fi se : Nat → Nat} {n m s : Nat} (hn : n ≤ 9) (hfs : hok fi se n m) (hs : s < 2 ^ n) : zt fi se m n s = ins fi se m s := by
  refine su_cg (fun e he => ?_)
  obtain ⟨x1, x2, _⟩ := hfs e he
  congr 1
  refine bool_iff ?_
  rw [mtb_iff, Bool.and_eq_true]
  constructor
  · intro q
    exact ⟨(q (fi e) (by omega)).1 x1 (by rw [bm_pm]; simp), (q (se e) (by omega)).1 x2 (by rw [bm_pm]; simp)⟩
  · rintro ⟨q1, q2⟩ j hj
    rw [bm_pm]
    refine ⟨fun _ h => ?_, fun h => ?_⟩
    · simp at h
      rcases h with h | h
      · rw [h]; exact q1
      · rw [h]; exact q2
    · rw [bm_ge hs h]; simp; omega
theorem xor_lt {i v n : Nat} (hi : i < 2 ^ n) (hb : bm i v = true) : i ^^^ 2 ^ v < i ∧ i ^^^ 2 ^ v < 2 ^ n := by
  have hv := lt_bm hi hb
  have h1 : i ^^^ 2 ^ v < 2 ^ n := bm_lt (fun j hj => by
    rw [bm_xor, bm_pow] at hj
    by_cases z : j = v
    · omega
    · simp only [z, decide_false, Bool.xor_false] at hj
      exact lt_bm hi hj)
  refine ⟨?_, h1⟩
  have e1 : i = (i ^^^ 2 ^ v) ||| 2 ^ v := Nat.eq_of_testBit_eq (fun j => by
    rw [Nat.testBit_or, Nat.testBit_xor, Nat.testBit_two_pow]
    by_cases z : v = j
    · subst z
      have : i.testBit v = true := hb
      rw [this]; simp
    · simp [z])
  refine Nat.lt_of_le_of_ne ?_ (fun q => ?_)
  · conv => rhs; rw [e1]
    exact Nat.left_le_or
  · have : bm (i ^^^ 2 ^ v) v = bm i v := by rw [q]
    rw [bm_xor, bm_pow, hb] at this
    simp at this
theorem or_add {low v : Nat} (h : low < 2 ^ v) : low ||| 2 ^ v = 2 ^ v + low := by
  have := Nat.two_pow_add_eq_or_of_lt h 1
  rw [Nat.mul_one] at this
  rw [this, Nat.or_comm]
theorem adj_up {fi se : Nat → Nat} {e a b : Nat} : adj fi se (e + 1) a b ↔ adj fi se e a b ∨ ((fi e = a ∧ se e = b) ∨ (fi e = b ∧ se e = a)) := by
  constructor
  · rintro ⟨j, hj, q⟩
    by_cases z : j = e
    · subst z; exact Or.inr q
    · exact Or.inl ⟨j, by omega, q⟩
  · rintro (⟨j, hj, q⟩ | q)
    · exact ⟨j, by omega, q⟩
    · exact ⟨e, by omega, q⟩
theorem near_up {fi se nr : Nat → Nat} {e : Nat} (hne : fi e ≠ se e) (h : ∀ v, v < 9 → ∀ c, bm (nr v) c = true ↔ adj fi se e v c) :
    ∀ v, v < 9 → ∀ c, bm (nup (nup nr (fi e) (nr (fi e) ||| 2 ^ se e)) (se e) (nup nr (fi e) (nr (fi e) ||| 2 ^ se e) (se e) ||| 2 ^ fi e) v) c = true ↔ adj fi se (e + 1) v c := by
  intro v hv c
  rw [adj_up, ← h v hv c]
  by_cases q : v = se e
  · subst q
    rw [nup_s, nup_n (Ne.symm hne), bm_or, Bool.or_eq_true, decide_eq_true_iff]
    constructor
    · rintro (y | y)
      · exact Or.inl y
      · exact Or.inr (Or.inr ⟨y.symm, rfl⟩)
    · rintro (y | y | y)
      · exact Or.inl y
      · exact absurd y.1 hne
      · exact Or.inr y.1.symm
  · rw [nup_n q]
    by_cases z : v = fi e
    · subst z
      rw [nup_s, bm_or, Bool.or_eq_true, decide_eq_true_iff]
      constructor
      · rintro (y | y)
        · exact Or.inl y
        · exact Or.inr (Or.inl ⟨rfl, y.symm⟩)
      · rintro (y | y | y)
        · exact Or.inl y
        · exact Or.inr y.2.symm
        · exact absurd y.2.symm hne
    · rw [nup_n z]
      constructor
      · exact fun y => Or.inl y
      · rintro (y | y)
        · exact y
        · omega
/-- the tables of a graph -/
def tabOK (fi se wa : Nat → Nat) (n m : Nat) (wt is pt : Nat → Nat) : Prop := (∀ s, s < 2 ^ n → wt s = wsum wa s) ∧ (∀ s, s < 2 ^ n → is s = ins fi se m s) ∧ ∀ s, 0 < s → s < 2 ^ n → prt fi se m s (pt s)
theorem bnd_ge {fi se : Nat → Nat} {n m u w : Nat} {wa : Nat → Nat} (hn : n ≤ 9) (hfs : hok fi se n m) (hu : u < 2 ^ n) (hd : dsj u w) : wsum wa u ≤ bnd fi se n m wa u w := by
  obtain ⟨d, hE⟩ := exa_ex fi se (m := m) hn hd
  rw [bnd_is hfs hE, nbd_st hn hfs hu hE (bm_rest n u w)]
  omega
theorem bnd_le {fi se : Nat → Nat} {n m u w : Nat} {wa : Nat → Nat} (hn : n ≤ 9) (hm : m ≤ 14) (hwa : ∀ v, v < 9 → wa v ≤ 14) : bnd fi se n m wa u w ≤ 1000 := by
  unfold bnd
  generalize Classical.epsilon (exa fi se n m u w) = d
  have h14 : su (fun _ => 14) 9 = 126 := by decide
  have hk : ∀ k, su (fun _ => 14) k = 14 * k := by
    intro k
    induction k with
    | zero => rfl
    | succ k ih => show su (fun _ => 14) k + 14 = 14 * (k + 1); rw [ih]; omega
  have h1 : ∀ l, hA n wa d l ≤ 126 := by
    intro l
    have : hA n wa d l ≤ su (fun _ => 14) n := su_le (fun v hv => by
      have := hwa v (by omega)
      split <;> omega)
    rw [hk] at this
    omega
  have one : ∀ k, su (fun _ => 1) k = k := by
    intro k
    induction k with
    | zero => rfl
    | succ k ih => show su (fun _ => 1) k + 1 = k + 1; rw [ih]
  have h2 : su (fun e => nww fi se d e) m ≤ m := by
    have : su (fun e => nww fi se d e) m ≤ su (fun _ => 1) m := su_le (fun e _ => by unfold nww; split <;> omega)
    rw [one] at this; exact this
  have h3 : ∀ l, su (fun e => nbt fi se d e l) m ≤ m := by
    intro l
    have : su (fun e => nbt fi se d e l) m ≤ su (fun _ => 1) m := su_le (fun e _ => by unfold nbt; split <;> omega)
    rw [one] at this; exact this
  have h4 : su (fun l => (hA n wa d (l + 2) + su (fun e => nbt fi se d e (l + 2)) m) / 2) 9 ≤ su (fun _ => 70) 9 := su_le (fun l _ => by
    have a1 := h1 (l + 2)
    have a2 := h3 (l + 2)
    omega)
  have h5 : su (fun _ => 70) 9 = 630 := by decide
  have := h1 0
  unfold nbd
  omega
theorem sub_oth {n u w : Nat} : ndf w (ndf (2 ^ n - 1) u) = 0 ↔ w < 2 ^ n ∧ dsj u w := by
  have hb : ∀ i, bm (ndf w (ndf (2 ^ n - 1) u)) i = (bm w i && !(decide (i < n) && !bm u i)) := fun i => by rw [bm_ndf, bm_ndf, bm_all]
  constructor
  · intro h
    have h0 : ∀ i, (bm w i && !(decide (i < n) && !bm u i)) = false := fun i => by rw [← hb, h, bm_0]
    refine ⟨bm_lt (fun i hi => ?_), fun v hv => ?_⟩
    · have := h0 i
      rw [hi] at this
      simp at this
      exact this.1
    · have := h0 v
      rw [hv.1, hv.2] at this
      simp at this
  · rintro ⟨h1, h2⟩
    refine Classical.byContradiction (fun q => ?_)
    obtain ⟨i, hi⟩ := bm_ne0.mp q
    rw [hb] at hi
    simp only [Bool.and_eq_true] at hi
    have hlt := lt_bm h1 hi.1
    have hu : bm u i = false := by
      cases z : bm u i
      · rfl
      · exact absurd ⟨z, hi.1⟩ (h2 i)
    rw [hu] at hi
    simp [hlt] at hi
theorem sub_all {n u : Nat} : ndf u (2 ^ n - 1) = 0 ↔ u < 2 ^ n := by
  constructor
  · intro h
    refine bm_lt (fun i hi => ?_)
    have : bm (ndf u (2 ^ n - 1)) i = false := by rw [h, bm_0]
    rw [bm_ndf, bm_all, hi] at this
    simp at this
    exact this
  · intro h
    refine Classical.byContradiction (fun q => ?_)
    obtain ⟨i, hi⟩ := bm_ne0.mp q
    rw [bm_ndf, bm_all] at hi
    simp only [Bool.and_eq_true] at hi
    have := lt_bm h hi.1
    simp [this] at hi
theorem ndf_le (a b : Nat) : ndf a b ≤ a := by
  refine Nat.le_of_not_lt (fun h => ?_)
  have e1 : a = ndf a b ||| (a &&& b) := Nat.eq_of_testBit_eq (fun i => by
    rw [Nat.testBit_or, ndf_bit, Nat.testBit_and]
    cases a.testBit i <;> cases b.testBit i <;> rfl)
  have : ndf a b ≤ a := by
    conv => rhs; rw [e1]
    exact Nat.left_le_or
  omega
end
section
set_option maxHeartbeats 4000000 in
set_option maxRecDepth 100000 in
/-- the edges inside each set, and who is near whom -/
theorem kB_countInside (l : Launch) (D : va_G) (cA : ClassId) (h o1 o2 o3 o4 o5 : Nat) (nr is : Nat → Nat) (fu fw : Int32) (g a1 a2 a3 n m : Nat) (fi se : Nat → Nat) (h1n : 1 ≤ n) (hn : n ≤ 9) (hm : m ≤ 14) (hfs : hok fi se n m)  : CtV (S := (Nat → Nat) × (Nat → Nat)) l yB_countInside (.code yB_countInside cB_countInside 5 none) 0 0 0 D cA [.ref h, .ref g] [(h, .inr (1, [.ref o1, .ref o2, .ref o3, .ref o4, .ref o5, .int (nI (2 ^ n - 1)), .int fu, .int fw])), (o2, .inl (cA, 9, .inl (aN nr))), (o4, .inl (cA, 512, .inl (aN is))), (g, .inr (2, [.int (nI n), .int (nI m), .ref a1, .ref a2, .ref a3])), (a1, .inl (cA, 14, .inl (aN fi))), (a2, .inl (cA, 14, .inl (aN se)))] (fun u => (∀ v, v < 9 → ∀ c, bm (u.1 v) c = true ↔ adj fi se m v c) ∧ ∀ s, s < 2 ^ n → u.2 s = ins fi se m s) (fun u => [(h, .inr (1, [.ref o1, .ref o2, .ref o3, .ref o4, .ref o5, .int (nI (2 ^ n - 1)), .int fu, .int fw])), (o2, .inl (cA, 9, .inl (aN u.1))), (o4, .inl (cA, 512, .inl (aN u.2))), (g, .inr (2, [.int (nI n), .int (nI m), .ref a1, .ref a2, .ref a3])), (a1, .inl (cA, 14, .inl (aN fi))), (a2, .inl (cA, 14, .inl (aN se)))]) := by
  refine mkV [(0, .ref h), (1, .ref g)] (by decide) rfl (Nat.le_of_ble_eq_true rfl) ?_
  intro E A Q hE hi C hA hret
  have h2n : 2 ^ n ≤ 512 := p2_le (k := 9) hn
  have h2p : 1 ≤ 2 ^ n := Nat.one_le_two_pow
  refine s_iconst (nI 0) C dB_countInside_0 (by decide) ?_
  refine s_istore_n [(0, .ref h), (1, .ref g), (2, .int (nI 0))] [1, 2, 0] C dB_countInside_1 (by decide) rfl ?_
  have loop : ∀ k i, i + k = 9 → ST E 5 Q 0 0 (wf E A D [(h, .inr (1, [.ref o1, .ref o2, .ref o3, .ref o4, .ref o5, .int (nI (2 ^ n - 1)), .int fu, .int fw])), (o2, .inl (cA, 9, .inl (aN (fun j => if j < i then 0 else nr j)))), (o4, .inl (cA, 512, .inl (aN is))), (g, .inr (2, [.int (nI n), .int (nI m), .ref a1, .ref a2, .ref a3])), (a1, .inl (cA, 14, .inl (aN fi))), (a2, .inl (cA, 14, .inl (aN se)))]) [(0, .ref h), (1, .ref g), (2, .int (nI i))] [] 2 := by
    intro k
    induction k with
    | zero =>
      intro i hi
      refine s_iload_n 2 C dB_countInside_2 rfl ?_
      refine s_bipush (nI 9) C dB_countInside_3 (by decide) ?_
      refine s_icmp_geN 21 C dB_countInside_5 (by decide) (by omega) (by omega) (fun c1 => ?_) (fun c1 => ?_)
      · have e : i = 9 := by omega
        subst e
        refine s_arr (aN (fun _ => 0)) 1 [(h, .inr (1, [.ref o1, .ref o2, .ref o3, .ref o4, .ref o5, .int (nI (2 ^ n - 1)), .int fu, .int fw])), (o2, .inl (cA, 9, .inl (aN (fun _ => 0)))), (o4, .inl (cA, 512, .inl (aN is))), (g, .inr (2, [.int (nI n), .int (nI m), .ref a1, .ref a2, .ref a3])), (a1, .inl (cA, 14, .inl (aN fi))), (a2, .inl (cA, 14, .inl (aN se)))] rfl (fun j hj => ?_) rfl ?_
        · show nI (if j < 9 then 0 else nr j) = nI 0
          rw [if_pos hj]
        refine s_iconst (nI 0) C dB_countInside_21 (by decide) ?_
        refine s_istore_n [(0, .ref h), (1, .ref g), (2, .int (nI 0))] [1, 2, 0] C dB_countInside_22 (by decide) rfl ?_
        have loop2 : ∀ k2 i, i + k2 = 2 ^ n → ST E 5 Q 0 0 (wf E A D [(h, .inr (1, [.ref o1, .ref o2, .ref o3, .ref o4, .ref o5, .int (nI (2 ^ n - 1)), .int fu, .int fw])), (o2, .inl (cA, 9, .inl (aN (fun _ => 0)))), (o4, .inl (cA, 512, .inl (aN (fun j => if j < i then 0 else is j)))), (g, .inr (2, [.int (nI n), .int (nI m), .ref a1, .ref a2, .ref a3])), (a1, .inl (cA, 14, .inl (aN fi))), (a2, .inl (cA, 14, .inl (aN se)))]) [(0, .ref h), (1, .ref g), (2, .int (nI i))] [] 23 := by
          intro k2
          induction k2 with
          | zero =>
            intro i hi
            refine s_iload_n 2 C dB_countInside_23 rfl ?_
            refine s_aload_n 0 C dB_countInside_24 rfl ?_
            refine s_get (.int (nI (2 ^ n - 1))) 0 5 C wfP inB flB_33 dB_countInside_25 rfl rfl (by decide) rfl ?_
            refine s_icmp_gtN 44 C dB_countInside_28 (by decide) (by omega) (by omega) (fun c2 => ?_) (fun c2 => ?_)
            · have e : i = 2 ^ n := by omega
              subst e
              refine s_iconst (nI 0) C dB_countInside_44 (by decide) ?_
              refine s_istore_n [(0, .ref h), (1, .ref g), (2, .int (nI 0))] [1, 2, 0] C dB_countInside_45 (by decide) rfl ?_
              have loop3 : ∀ k3 e (nr3 is3 : Nat → Nat), e + k3 = m → (∀ v, v < 9 → ∀ c, bm (nr3 v) c = true ↔ adj fi se e v c) → (∀ s, s < 2 ^ n → is3 s = su (fun e => if pm fi se e = s then 1 else 0) e) → ST E 5 Q 0 0 (wf E A D [(h, .inr (1, [.ref o1, .ref o2, .ref o3, .ref o4, .ref o5, .int (nI (2 ^ n - 1)), .int fu, .int fw])), (o2, .inl (cA, 9, .inl (aN nr3))), (o4, .inl (cA, 512, .inl (aN is3))), (g, .inr (2, [.int (nI n), .int (nI m), .ref a1, .ref a2, .ref a3])), (a1, .inl (cA, 14, .inl (aN fi))), (a2, .inl (cA, 14, .inl (aN se)))]) [(0, .ref h), (1, .ref g), (2, .int (nI e))] [] 46 := by
                intro k3
                induction k3 with
                | zero =>
                  intro e nr3 is3 hi hnr3 his3
                  refine s_iload_n 2 C dB_countInside_46 rfl ?_
                  refine s_aload_n 1 C dB_countInside_47 rfl ?_
                  refine s_get (.int (nI m)) 3 1 C wfP inG flB_47 dB_countInside_48 rfl rfl (by decide) rfl ?_
                  refine s_icmp_geN 118 C dB_countInside_51 (by decide) (by omega) (by omega) (fun c3 => ?_) (fun c3 => ?_)
                  · have e9 : m = e := by omega
                    subst e9
                    refine s_iconst (nI 0) C dB_countInside_118 (by decide) ?_
                    refine s_istore_n [(0, .ref h), (1, .ref g), (2, .int (nI 0))] [1, 2, 0] C dB_countInside_119 (by decide) rfl ?_
                    have loop4 : ∀ k4 v (is4 : Nat → Nat), v + k4 = n → (∀ s, s < 2 ^ n → is4 s = zt fi se m v s) → ST E 5 Q 0 0 (wf E A D [(h, .inr (1, [.ref o1, .ref o2, .ref o3, .ref o4, .ref o5, .int (nI (2 ^ n - 1)), .int fu, .int fw])), (o2, .inl (cA, 9, .inl (aN nr3))), (o4, .inl (cA, 512, .inl (aN is4))), (g, .inr (2, [.int (nI n), .int (nI m), .ref a1, .ref a2, .ref a3])), (a1, .inl (cA, 14, .inl (aN fi))), (a2, .inl (cA, 14, .inl (aN se)))]) [(0, .ref h), (1, .ref g), (2, .int (nI v))] [] 120 := by
                      intro k4
                      induction k4 with
                      | zero =>
                        intro v is4 hi his4
                        refine s_iload_n 2 C dB_countInside_120 rfl ?_
                        refine s_aload_n 1 C dB_countInside_121 rfl ?_
                        refine s_get (.int (nI n)) 3 0 C wfP inG flB_27 dB_countInside_122 rfl rfl (by decide) rfl ?_
                        refine s_icmp_geN 178 C dB_countInside_125 (by decide) (by omega) (by omega) (fun c4 => ?_) (fun c4 => ?_)
                        · have e9 : n = v := by omega
                          subst e9
                          exact hret (nr3, is4) _ _ dB_countInside_178 ⟨hnr3, fun s hs => by show is4 s = _; rw [his4 s hs]; exact zt_n hn hfs hs⟩
                        · exact absurd c4 (by omega)
                      | succ k4 ih4 =>
                        intro v is4 hi his4
                        refine s_iload_n 2 C dB_countInside_120 rfl ?_
                        refine s_aload_n 1 C dB_countInside_121 rfl ?_
                        refine s_get (.int (nI n)) 3 0 C wfP inG flB_27 dB_countInside_122 rfl rfl (by decide) rfl ?_
                        refine s_icmp_geN 178 C dB_countInside_125 (by decide) (by omega) (by omega) (fun c4 => ?_) (fun c4 => ?_)
                        · exact absurd c4 (by omega)
                        · refine s_iconst (nI 0) C dB_countInside_128 (by decide) ?_
                          refine s_istore_n [(0, .ref h), (1, .ref g), (2, .int (nI v)), (3, .int (nI 0))] [1, 2, 3, 0] C dB_countInside_129 (by decide) rfl ?_
                          have loop5 : ∀ k5 i5 (is5 : Nat → Nat), i5 + k5 = 2 ^ n → (∀ s, s < 2 ^ n → is5 s = if s < i5 then zt fi se m (v + 1) s else zt fi se m v s) → ST E 5 Q 0 0 (wf E A D [(h, .inr (1, [.ref o1, .ref o2, .ref o3, .ref o4, .ref o5, .int (nI (2 ^ n - 1)), .int fu, .int fw])), (o2, .inl (cA, 9, .inl (aN nr3))), (o4, .inl (cA, 512, .inl (aN is5))), (g, .inr (2, [.int (nI n), .int (nI m), .ref a1, .ref a2, .ref a3])), (a1, .inl (cA, 14, .inl (aN fi))), (a2, .inl (cA, 14, .inl (aN se)))]) [(0, .ref h), (1, .ref g), (2, .int (nI v)), (3, .int (nI i5))] [] 130 := by
                            intro k5
                            induction k5 with
                            | zero =>
                              intro i5 is5 hi5a his5
                              refine s_iload_n 3 C dB_countInside_130 rfl ?_
                              refine s_aload_n 0 C dB_countInside_131 rfl ?_
                              refine s_get (.int (nI (2 ^ n - 1))) 0 5 C wfP inB flB_33 dB_countInside_132 rfl rfl (by decide) rfl ?_
                              refine s_icmp_gtN 172 C dB_countInside_135 (by decide) (by omega) (by omega) (fun c5 => ?_) (fun c5 => ?_)
                              · refine s_iinc (j := 2) (nI (v + 1)) [(0, .ref h), (1, .ref g), (2, .int (nI (v + 1))), (3, .int (nI i5))] [1, 2, 0, 3] C dB_countInside_172 rfl (inc1 _) (by decide) rfl ?_
                                refine s_goto (tgt := 120) C dB_countInside_175 (by decide) ?_
                                refine s_lv (lv' := [(0, .ref h), (1, .ref g), (2, .int (nI (v + 1)))]) [0, 1, 2] rfl ?_
                                refine ih4 (v + 1) is5 (by omega) (fun s hs => ?_)
                                rw [his5 s hs, if_pos (by omega)]
                              · exact absurd c5 (by omega)
                            | succ k5 ih5 =>
                              intro i5 is5 hi5a his5
                              refine s_iload_n 3 C dB_countInside_130 rfl ?_
                              refine s_aload_n 0 C dB_countInside_131 rfl ?_
                              refine s_get (.int (nI (2 ^ n - 1))) 0 5 C wfP inB flB_33 dB_countInside_132 rfl rfl (by decide) rfl ?_
                              refine s_icmp_gtN 172 C dB_countInside_135 (by decide) (by omega) (by omega) (fun c5 => ?_) (fun c5 => ?_)
                              · exact absurd c5 (by omega)
                              · have hi5 : i5 < 2 ^ n := by omega
                                refine s_iload_n 3 C dB_countInside_138 rfl ?_
                                refine s_iload_n 2 C dB_countInside_139 rfl ?_
                                refine s_ishrN C dB_countInside_140 (by omega) (by omega) ?_
                                refine s_iconst (nI 1) C dB_countInside_141 (by decide) ?_
                                refine s_bitN C dB_countInside_142 ?_
                                refine s_iconst (nI 1) C dB_countInside_143 (by decide) ?_
                                refine s_icmp_neN 166 C dB_countInside_144 (by decide) (bt31 _) (by decide) (fun c6 => ?_) (fun c6 => ?_)
                                · have hb : bm i5 v = false := by
                                    cases hh : bm i5 v with
                                    | false => rfl
                                    | true => rw [hh] at c6; exact absurd rfl c6
                                  refine s_iinc (j := 3) (nI (i5 + 1)) [(0, .ref h), (1, .ref g), (2, .int (nI v)), (3, .int (nI (i5 + 1)))] [1, 2, 3, 0] C dB_countInside_166 rfl (inc1 _) (by decide) rfl ?_
                                  refine s_goto (tgt := 130) C dB_countInside_169 (by decide) ?_
                                  refine ih5 (i5 + 1) is5 (by omega) (fun s hs => ?_)
                                  rw [his5 s hs]
                                  by_cases q : s = i5
                                  · subst q; rw [if_neg (by omega), if_pos (by omega), zt_off hb]
                                  · by_cases r : s < i5
                                    · rw [if_pos r, if_pos (by omega)]
                                    · rw [if_neg r, if_neg (by omega)]
                                · have hb : bm i5 v = true := bmT.mp c6
                                  obtain ⟨x1, x2⟩ := xor_lt hi5 hb
                                  refine s_aload_n 0 C dB_countInside_147 rfl ?_
                                  refine s_get (.ref o4) 0 3 C wfP inB flB_21 dB_countInside_148 rfl rfl (by decide) rfl ?_
                                  refine s_iload_n 3 C dB_countInside_151 rfl ?_
                                  refine s_dup2 C dB_countInside_152 rfl rfl ?_
                                  refine s_ialdN 2 C wfP dB_countInside_153 rfl (by omega) (by decide) ?_
                                  refine s_aload_n 0 C dB_countInside_154 rfl ?_
                                  refine s_get (.ref o4) 0 3 C wfP inB flB_21 dB_countInside_155 rfl rfl (by decide) rfl ?_
                                  refine s_iload_n 3 C dB_countInside_158 rfl ?_
                                  refine s_iconst (nI 1) C dB_countInside_159 (by decide) ?_
                                  refine s_iload_n 2 C dB_countInside_160 rfl ?_
                                  refine s_shl1 C dB_countInside_161 (by omega) ?_
                                  refine s_ixorN C dB_countInside_162 ?_
                                  refine s_ialdN 2 C wfP dB_countInside_163 rfl (by omega) (by decide) ?_
                                  refine s_iaddN C dB_countInside_164 ?_
                                  refine s_iastN 2 [(h, .inr (1, [.ref o1, .ref o2, .ref o3, .ref o4, .ref o5, .int (nI (2 ^ n - 1)), .int fu, .int fw])), (o2, .inl (cA, 9, .inl (aN nr3))), (o4, .inl (cA, 512, .inl (aN (nup is5 i5 (is5 i5 + (is5 (i5 ^^^ (2 ^ v)))))))), (g, .inr (2, [.int (nI n), .int (nI m), .ref a1, .ref a2, .ref a3])), (a1, .inl (cA, 14, .inl (aN fi))), (a2, .inl (cA, 14, .inl (aN se)))] C dB_countInside_165 rfl (by omega) (by decide) rfl ?_
                                  refine s_iinc (j := 3) (nI (i5 + 1)) [(0, .ref h), (1, .ref g), (2, .int (nI v)), (3, .int (nI (i5 + 1)))] [1, 2, 3, 0] C dB_countInside_166 rfl (inc1 _) (by decide) rfl ?_
                                  refine s_goto (tgt := 130) C dB_countInside_169 (by decide) ?_
                                  refine ih5 (i5 + 1) _ (by omega) (fun s hs => ?_)
                                  by_cases q : s = i5
                                  · subst q
                                    rw [nup_s, if_pos (by omega), his5 s hs, if_neg (by omega), his5 _ x2, if_pos x1, zt_on (by omega) hb, zt_off (by rw [bm_xor, bm_pow, hb]; simp)]
                                  · rw [nup_n q, his5 s hs]
                                    by_cases r : s < i5
                                    · rw [if_pos r, if_pos (by omega)]
                                    · rw [if_neg r, if_neg (by omega)]
                          exact loop5 (2 ^ n) 0 is4 (by omega) (fun s hs => by rw [if_neg (by omega)]; exact his4 s hs)
                    exact loop4 n 0 is3 (by omega) (fun s hs => by rw [his3 s hs, zt_0 hn hfs hs])
                  · exact absurd c3 (by omega)
                | succ k3 ih3 =>
                  intro e nr3 is3 hi hnr3 his3
                  refine s_iload_n 2 C dB_countInside_46 rfl ?_
                  refine s_aload_n 1 C dB_countInside_47 rfl ?_
                  refine s_get (.int (nI m)) 3 1 C wfP inG flB_47 dB_countInside_48 rfl rfl (by decide) rfl ?_
                  refine s_icmp_geN 118 C dB_countInside_51 (by decide) (by omega) (by omega) (fun c3 => ?_) (fun c3 => ?_)
                  · exact absurd c3 (by omega)
                  · obtain ⟨f1, f2, f3⟩ := hfs e (by omega)
                    have hpl : 2 ^ fi e ||| 2 ^ se e < 2 ^ n := Nat.or_lt_two_pow (Nat.pow_lt_pow_right (by decide) f1) (Nat.pow_lt_pow_right (by decide) f2)
                    refine s_aload_n 1 C dB_countInside_54 rfl ?_
                    refine s_get (.ref a1) 3 2 C wfP inG flB_50 dB_countInside_55 rfl rfl (by decide) rfl ?_
                    refine s_iload_n 2 C dB_countInside_58 rfl ?_
                    refine s_ialdN 4 C wfP dB_countInside_59 rfl (by omega) (by decide) ?_
                    refine s_istore_n [(0, .ref h), (1, .ref g), (2, .int (nI e)), (3, .int (nI (fi e)))] [1, 2, 3, 0] C dB_countInside_60 (by decide) rfl ?_
                    refine s_aload_n 1 C dB_countInside_61 rfl ?_
                    refine s_get (.ref a2) 3 3 C wfP inG flB_53 dB_countInside_62 rfl rfl (by decide) rfl ?_
                    refine s_iload_n 2 C dB_countInside_65 rfl ?_
                    refine s_ialdN 5 C wfP dB_countInside_66 rfl (by omega) (by decide) ?_
                    refine s_istore [(0, .ref h), (1, .ref g), (2, .int (nI e)), (3, .int (nI (fi e))), (4, .int (nI (se e)))] [1, 2, 3, 4, 0] C dB_countInside_67 (by decide) rfl ?_
                    refine s_aload_n 0 C dB_countInside_69 rfl ?_
                    refine s_get (.ref o2) 0 1 C wfP inB flB_15 dB_countInside_70 rfl rfl (by decide) rfl ?_
                    refine s_iload_n 3 C dB_countInside_73 rfl ?_
                    refine s_dup2 C dB_countInside_74 rfl rfl ?_
                    refine s_ialdN 1 C wfP dB_countInside_75 rfl (by omega) (by decide) ?_
                    refine s_iconst (nI 1) C dB_countInside_76 (by decide) ?_
                    refine s_iload 4 C dB_countInside_77 rfl ?_
                    refine s_shl1 C dB_countInside_79 (by omega) ?_
                    refine s_iorN C dB_countInside_80 ?_
                    refine s_iastN 1 [(h, .inr (1, [.ref o1, .ref o2, .ref o3, .ref o4, .ref o5, .int (nI (2 ^ n - 1)), .int fu, .int fw])), (o2, .inl (cA, 9, .inl (aN (nup nr3 (fi e) ((nr3 (fi e)) ||| (2 ^ (se e))))))), (o4, .inl (cA, 512, .inl (aN is3))), (g, .inr (2, [.int (nI n), .int (nI m), .ref a1, .ref a2, .ref a3])), (a1, .inl (cA, 14, .inl (aN fi))), (a2, .inl (cA, 14, .inl (aN se)))] C dB_countInside_81 rfl (by omega) (by decide) rfl ?_
                    refine s_aload_n 0 C dB_countInside_82 rfl ?_
                    refine s_get (.ref o2) 0 1 C wfP inB flB_15 dB_countInside_83 rfl rfl (by decide) rfl ?_
                    refine s_iload 4 C dB_countInside_86 rfl ?_
                    refine s_dup2 C dB_countInside_88 rfl rfl ?_
                    refine s_ialdN 1 C wfP dB_countInside_89 rfl (by omega) (by decide) ?_
                    refine s_iconst (nI 1) C dB_countInside_90 (by decide) ?_
                    refine s_iload_n 3 C dB_countInside_91 rfl ?_
                    refine s_shl1 C dB_countInside_92 (by omega) ?_
                    refine s_iorN C dB_countInside_93 ?_
                    refine s_iastN 1 [(h, .inr (1, [.ref o1, .ref o2, .ref o3, .ref o4, .ref o5, .int (nI (2 ^ n - 1)), .int fu, .int fw])), (o2, .inl (cA, 9, .inl (aN (nup (nup nr3 (fi e) ((nr3 (fi e)) ||| (2 ^ (se e)))) (se e) (((nup nr3 (fi e) ((nr3 (fi e)) ||| (2 ^ (se e)))) (se e)) ||| (2 ^ (fi e))))))), (o4, .inl (cA, 512, .inl (aN is3))), (g, .inr (2, [.int (nI n), .int (nI m), .ref a1, .ref a2, .ref a3])), (a1, .inl (cA, 14, .inl (aN fi))), (a2, .inl (cA, 14, .inl (aN se)))] C dB_countInside_94 rfl (by omega) (by decide) rfl ?_
                    refine s_aload_n 0 C dB_countInside_95 rfl ?_
                    refine s_get (.ref o4) 0 3 C wfP inB flB_21 dB_countInside_96 rfl rfl (by decide) rfl ?_
                    refine s_iconst (nI 1) C dB_countInside_99 (by decide) ?_
                    refine s_iload_n 3 C dB_countInside_100 rfl ?_
                    refine s_shl1 C dB_countInside_101 (by omega) ?_
                    refine s_iconst (nI 1) C dB_countInside_102 (by decide) ?_
                    refine s_iload 4 C dB_countInside_103 rfl ?_
                    refine s_shl1 C dB_countInside_105 (by omega) ?_
                    refine s_iorN C dB_countInside_106 ?_
                    refine s_dup2 C dB_countInside_107 rfl rfl ?_
                    refine s_ialdN 2 C wfP dB_countInside_108 rfl (by omega) (by decide) ?_
                    refine s_iconst (nI 1) C dB_countInside_109 (by decide) ?_
                    refine s_iaddN C dB_countInside_110 ?_
                    refine s_iastN 2 [(h, .inr (1, [.ref o1, .ref o2, .ref o3, .ref o4, .ref o5, .int (nI (2 ^ n - 1)), .int fu, .int fw])), (o2, .inl (cA, 9, .inl (aN (nup (nup nr3 (fi e) ((nr3 (fi e)) ||| (2 ^ (se e)))) (se e) (((nup nr3 (fi e) ((nr3 (fi e)) ||| (2 ^ (se e)))) (se e)) ||| (2 ^ (fi e))))))), (o4, .inl (cA, 512, .inl (aN (nup is3 ((2 ^ (fi e)) ||| (2 ^ (se e))) (is3 ((2 ^ (fi e)) ||| (2 ^ (se e))) + 1))))), (g, .inr (2, [.int (nI n), .int (nI m), .ref a1, .ref a2, .ref a3])), (a1, .inl (cA, 14, .inl (aN fi))), (a2, .inl (cA, 14, .inl (aN se)))] C dB_countInside_111 rfl (by omega) (by decide) rfl ?_
                    refine s_iinc (j := 2) (nI (e + 1)) [(0, .ref h), (1, .ref g), (2, .int (nI (e + 1))), (3, .int (nI (fi e))), (4, .int (nI (se e)))] [1, 2, 0, 3, 4] C dB_countInside_112 rfl (inc1 _) (by decide) rfl ?_
                    refine s_goto (tgt := 46) C dB_countInside_115 (by decide) ?_
                    refine s_lv (lv' := [(0, .ref h), (1, .ref g), (2, .int (nI (e + 1)))]) [0, 1, 2] rfl ?_
                    refine ih3 (e + 1) _ _ (by omega) (near_up f3 hnr3) (fun s hs => ?_)
                    show _ = su (fun e => if pm fi se e = s then 1 else 0) e + (if pm fi se e = s then 1 else 0)
                    by_cases q : s = 2 ^ fi e ||| 2 ^ se e
                    · subst q; rw [nup_s, his3 _ hs, if_pos (show pm fi se e = 2 ^ fi e ||| 2 ^ se e from rfl)]
                    · rw [nup_n q, his3 _ hs, if_neg (show ¬ pm fi se e = s from fun z => q z.symm)]; rfl
              refine loop3 m 0 _ _ (by omega) (fun v hv c => ?_) (fun s hs => ?_)
              · rw [bm_0]
                exact ⟨fun h => absurd h (by decide), fun ⟨j, hj, _⟩ => absurd hj (by omega)⟩
              · show (if s < 2 ^ n then 0 else is s) = 0
                rw [if_pos hs]
            · exact absurd c2 (by omega)
          | succ k2 ih2 =>
            intro i hi
            refine s_iload_n 2 C dB_countInside_23 rfl ?_
            refine s_aload_n 0 C dB_countInside_24 rfl ?_
            refine s_get (.int (nI (2 ^ n - 1))) 0 5 C wfP inB flB_33 dB_countInside_25 rfl rfl (by decide) rfl ?_
            refine s_icmp_gtN 44 C dB_countInside_28 (by decide) (by omega) (by omega) (fun c2 => ?_) (fun c2 => ?_)
            · exact absurd c2 (by omega)
            · refine s_aload_n 0 C dB_countInside_31 rfl ?_
              refine s_get (.ref o4) 0 3 C wfP inB flB_21 dB_countInside_32 rfl rfl (by decide) rfl ?_
              refine s_iload_n 2 C dB_countInside_35 rfl ?_
              refine s_iconst (nI 0) C dB_countInside_36 (by decide) ?_
              refine s_iastN 2 [(h, .inr (1, [.ref o1, .ref o2, .ref o3, .ref o4, .ref o5, .int (nI (2 ^ n - 1)), .int fu, .int fw])), (o2, .inl (cA, 9, .inl (aN (fun _ => 0)))), (o4, .inl (cA, 512, .inl (aN (nup (fun j => if j < i then 0 else is j) i 0)))), (g, .inr (2, [.int (nI n), .int (nI m), .ref a1, .ref a2, .ref a3])), (a1, .inl (cA, 14, .inl (aN fi))), (a2, .inl (cA, 14, .inl (aN se)))] C dB_countInside_37 rfl (by omega) (by decide) rfl ?_
              refine s_iinc (j := 2) (nI (i + 1)) [(0, .ref h), (1, .ref g), (2, .int (nI (i + 1)))] [1, 2, 0] C dB_countInside_38 rfl (inc1 _) (by decide) rfl ?_
              refine s_goto (tgt := 23) C dB_countInside_41 (by decide) ?_
              rw [lt_up (fun _ => 0) is i]
              exact ih2 (i + 1) (by omega)
        have e0 : is = (fun j => if j < 0 then 0 else is j) := by
          funext j
          rw [if_neg (by omega)]
        have h0 := loop2 (2 ^ n) 0 (by omega)
        rw [← e0] at h0
        exact h0
      · exact absurd c1 (by omega)
    | succ k ih =>
      intro i hi
      refine s_iload_n 2 C dB_countInside_2 rfl ?_
      refine s_bipush (nI 9) C dB_countInside_3 (by decide) ?_
      refine s_icmp_geN 21 C dB_countInside_5 (by decide) (by omega) (by omega) (fun c1 => ?_) (fun c1 => ?_)
      · exact absurd c1 (by omega)
      · refine s_aload_n 0 C dB_countInside_8 rfl ?_
        refine s_get (.ref o2) 0 1 C wfP inB flB_15 dB_countInside_9 rfl rfl (by decide) rfl ?_
        refine s_iload_n 2 C dB_countInside_12 rfl ?_
        refine s_iconst (nI 0) C dB_countInside_13 (by decide) ?_
        refine s_iastN 1 [(h, .inr (1, [.ref o1, .ref o2, .ref o3, .ref o4, .ref o5, .int (nI (2 ^ n - 1)), .int fu, .int fw])), (o2, .inl (cA, 9, .inl (aN (nup (fun j => if j < i then 0 else nr j) i 0)))), (o4, .inl (cA, 512, .inl (aN is))), (g, .inr (2, [.int (nI n), .int (nI m), .ref a1, .ref a2, .ref a3])), (a1, .inl (cA, 14, .inl (aN fi))), (a2, .inl (cA, 14, .inl (aN se)))] C dB_countInside_14 rfl (by omega) (by decide) rfl ?_
        refine s_iinc (j := 2) (nI (i + 1)) [(0, .ref h), (1, .ref g), (2, .int (nI (i + 1)))] [1, 2, 0] C dB_countInside_15 rfl (inc1 _) (by decide) rfl ?_
        refine s_goto (tgt := 2) C dB_countInside_18 (by decide) ?_
        rw [lt_up (fun _ => 0) nr i]
        exact ih (i + 1) (by omega)
  have e0 : nr = (fun j => if j < 0 then 0 else nr j) := by
    funext j
    rw [if_neg (by omega)]
  have h0 := loop 9 0 (by omega)
  rw [← e0] at h0
  exact h0
set_option maxHeartbeats 4000000 in
set_option maxRecDepth 100000 in
/-- the tables of the graph -/
theorem kB_load (l : Launch) (D : va_G) (cA : ClassId) (h o1 o2 o3 o4 o5 : Nat) (nr wt is pt : Nat → Nat) (al fu fw : Int32) (g a1 a2 a3 n m : Nat) (fi se wa : Nat → Nat) (h1n : 1 ≤ n) (hn : n ≤ 9) (hm : m ≤ 14) (hfs : hok fi se n m) (hwa : ∀ v, v < 9 → wa v ≤ 14) (hwt0 : wt 0 = 0) : CtV (S := (Nat → Nat) × (Nat → Nat) × (Nat → Nat) × (Nat → Nat)) l yB_load (.code yB_load cB_load 4 none) 1 0 0 D cA [.ref h, .ref g] [(h, .inr (1, [.ref o1, .ref o2, .ref o3, .ref o4, .ref o5, .int al, .int fu, .int fw])), (o2, .inl (cA, 9, .inl (aN nr))), (o3, .inl (cA, 512, .inl (aN wt))), (o4, .inl (cA, 512, .inl (aN is))), (o5, .inl (cA, 512, .inl (aN pt))), (g, .inr (2, [.int (nI n), .int (nI m), .ref a1, .ref a2, .ref a3])), (a1, .inl (cA, 14, .inl (aN fi))), (a2, .inl (cA, 14, .inl (aN se))), (a3, .inl (cA, 9, .inl (aN wa)))] (fun u => tabOK fi se wa n m u.2.1 u.2.2.1 u.2.2.2) (fun u => [(h, .inr (1, [.ref o1, .ref o2, .ref o3, .ref o4, .ref o5, .int (nI (2 ^ n - 1)), .int fu, .int fw])), (o2, .inl (cA, 9, .inl (aN u.1))), (o3, .inl (cA, 512, .inl (aN u.2.1))), (o4, .inl (cA, 512, .inl (aN u.2.2.1))), (o5, .inl (cA, 512, .inl (aN u.2.2.2))), (g, .inr (2, [.int (nI n), .int (nI m), .ref a1, .ref a2, .ref a3])), (a1, .inl (cA, 14, .inl (aN fi))), (a2, .inl (cA, 14, .inl (aN se))), (a3, .inl (cA, 9, .inl (aN wa)))]) := by
  refine mkV [(0, .ref h), (1, .ref g)] (by decide) rfl (Nat.le_of_ble_eq_true rfl) ?_
  intro E A Q hE hi C hA hret
  have h2n : 2 ^ n ≤ 512 := p2_le (k := 9) hn
  have h2p : 1 ≤ 2 ^ n := Nat.one_le_two_pow
  refine s_aload_n 0 C dB_load_0 rfl ?_
  refine s_iconst (nI 1) C dB_load_1 (by decide) ?_
  refine s_aload_n 1 C dB_load_2 rfl ?_
  refine s_get (.int (nI n)) 5 0 C wfP inG flB_27 dB_load_3 rfl rfl (by decide) rfl ?_
  refine s_shl1 C dB_load_6 (by omega) ?_
  refine s_iconst (nI 1) C dB_load_7 (by decide) ?_
  refine s_isubN C dB_load_8 (by omega) ?_
  refine s_put 0 5 [(h, .inr (1, [.ref o1, .ref o2, .ref o3, .ref o4, .ref o5, .int (nI ((2 ^ n) - 1)), .int fu, .int fw])), (o2, .inl (cA, 9, .inl (aN nr))), (o3, .inl (cA, 512, .inl (aN wt))), (o4, .inl (cA, 512, .inl (aN is))), (o5, .inl (cA, 512, .inl (aN pt))), (g, .inr (2, [.int (nI n), .int (nI m), .ref a1, .ref a2, .ref a3])), (a1, .inl (cA, 14, .inl (aN fi))), (a2, .inl (cA, 14, .inl (aN se))), (a3, .inl (cA, 9, .inl (aN wa)))] C inB tyB_ok nmB flB_33 dB_load_9 rfl rfl (by decide) rfl rfl rfl (Nat.le_of_ble_eq_true rfl) rfl ?_
  refine s_aload_n 0 C dB_load_12 rfl ?_
  refine s_aload_n 1 C dB_load_13 rfl ?_
  refine s_callV (n := 1) (wr := [(o3, .inl (cA, 512, .inl (aN wt))), (o5, .inl (cA, 512, .inl (aN pt))), (a3, .inl (cA, 9, .inl (aN wa)))]) [0, 1, 3, 5, 6, 7] [2, 4, 8] 0 [] C hA (kB_countInside E.2.1 D cA h o1 o2 o3 o4 o5 nr is fu fw g a1 a2 a3 n m fi se h1n hn hm hfs) gB_36 dB_load_14 (by decide +kernel) rfl rfl (by decide) (by decide) (by decide) rfl rfl rfl (by decide) (by decide) rfl rfl (Nat.le_of_ble_eq_true rfl) (Nat.zero_le _) (Nat.zero_le _) (fun u hu => ?_)
  refine s_sub (ws' := [(h, .inr (1, [.ref o1, .ref o2, .ref o3, .ref o4, .ref o5, .int (nI (2 ^ n - 1)), .int fu, .int fw])), (o2, .inl (cA, 9, .inl (aN u.1))), (o3, .inl (cA, 512, .inl (aN wt))), (o4, .inl (cA, 512, .inl (aN u.2))), (o5, .inl (cA, 512, .inl (aN pt))), (g, .inr (2, [.int (nI n), .int (nI m), .ref a1, .ref a2, .ref a3])), (a1, .inl (cA, 14, .inl (aN fi))), (a2, .inl (cA, 14, .inl (aN se))), (a3, .inl (cA, 9, .inl (aN wa)))]) [3, 4, 0, 5, 1, 6, 7, 8, 2] rfl (by decide) ?_
  obtain ⟨nr1, is1⟩ := u
  obtain ⟨hnr, his⟩ := hu
  refine s_eqw (ws' := [(h, .inr (1, [.ref o1, .ref o2, .ref o3, .ref o4, .ref o5, .int (nI (2 ^ n - 1)), .int fu, .int fw])), (o2, .inl (cA, 9, .inl (aN nr1))), (o3, .inl (cA, 512, .inl (aN wt))), (o4, .inl (cA, 512, .inl (aN is1))), (o5, .inl (cA, 512, .inl (aN pt))), (g, .inr (2, [.int (nI n), .int (nI m), .ref a1, .ref a2, .ref a3])), (a1, .inl (cA, 14, .inl (aN fi))), (a2, .inl (cA, 14, .inl (aN se))), (a3, .inl (cA, 9, .inl (aN wa)))]) rfl ?_
  refine s_iconst (nI 0) C dB_load_17 (by decide) ?_
  refine s_istore_n [(0, .ref h), (1, .ref g), (2, .int (nI 0))] [1, 2, 0] C dB_load_18 (by decide) rfl ?_
  have loop : ∀ k v (wt1 pt1 : Nat → Nat), v + k = n → (∀ s, s < 2 ^ v → wt1 s = wsum wa s) → (∀ s, 0 < s → s < 2 ^ v → prt fi se m s (pt1 s)) → ST E 4 Q 0 0 (wf E A D [(h, .inr (1, [.ref o1, .ref o2, .ref o3, .ref o4, .ref o5, .int (nI (2 ^ n - 1)), .int fu, .int fw])), (o2, .inl (cA, 9, .inl (aN nr1))), (o3, .inl (cA, 512, .inl (aN wt1))), (o4, .inl (cA, 512, .inl (aN is1))), (o5, .inl (cA, 512, .inl (aN pt1))), (g, .inr (2, [.int (nI n), .int (nI m), .ref a1, .ref a2, .ref a3])), (a1, .inl (cA, 14, .inl (aN fi))), (a2, .inl (cA, 14, .inl (aN se))), (a3, .inl (cA, 9, .inl (aN wa)))]) [(0, .ref h), (1, .ref g), (2, .int (nI v))] [] 19 := by
    intro k
    induction k with
    | zero =>
      intro v wt1 pt1 hi hw1 hp1
      refine s_iload_n 2 C dB_load_19 rfl ?_
      refine s_aload_n 1 C dB_load_20 rfl ?_
      refine s_get (.int (nI n)) 5 0 C wfP inG flB_27 dB_load_21 rfl rfl (by decide) rfl ?_
      refine s_icmp_geN 87 C dB_load_24 (by decide) (by omega) (by omega) (fun c1 => ?_) (fun c1 => ?_)
      · have e9 : n = v := by omega
        subst e9
        exact hret (nr1, wt1, is1, pt1) _ _ dB_load_87 ⟨hw1, his, hp1⟩
      · exact absurd c1 (by omega)
    | succ k ih =>
      intro v wt1 pt1 hi hw1 hp1
      refine s_iload_n 2 C dB_load_19 rfl ?_
      refine s_aload_n 1 C dB_load_20 rfl ?_
      refine s_get (.int (nI n)) 5 0 C wfP inG flB_27 dB_load_21 rfl rfl (by decide) rfl ?_
      refine s_icmp_geN 87 C dB_load_24 (by decide) (by omega) (by omega) (fun c1 => ?_) (fun c1 => ?_)
      · exact absurd c1 (by omega)
      · have hv9 : v ≤ 8 := by omega
        have h2v : 2 ^ v ≤ 256 := p2_le (k := 8) hv9
        have hvw : 2 ^ (v + 1) = 2 * 2 ^ v := by rw [Nat.pow_succ]; omega
        refine s_iconst (nI 0) C dB_load_27 (by decide) ?_
        refine s_istore_n [(0, .ref h), (1, .ref g), (2, .int (nI v)), (3, .int (nI 0))] [1, 2, 3, 0] C dB_load_28 (by decide) rfl ?_
        have loop2 : ∀ k2 low (wt2 pt2 : Nat → Nat), low + k2 = 2 ^ v → (∀ s, s < 2 ^ v + low → wt2 s = wsum wa s) → (∀ s, 0 < s → s < 2 ^ v + low → prt fi se m s (pt2 s)) → ST E 4 Q 0 0 (wf E A D [(h, .inr (1, [.ref o1, .ref o2, .ref o3, .ref o4, .ref o5, .int (nI (2 ^ n - 1)), .int fu, .int fw])), (o2, .inl (cA, 9, .inl (aN nr1))), (o3, .inl (cA, 512, .inl (aN wt2))), (o4, .inl (cA, 512, .inl (aN is1))), (o5, .inl (cA, 512, .inl (aN pt2))), (g, .inr (2, [.int (nI n), .int (nI m), .ref a1, .ref a2, .ref a3])), (a1, .inl (cA, 14, .inl (aN fi))), (a2, .inl (cA, 14, .inl (aN se))), (a3, .inl (cA, 9, .inl (aN wa)))]) [(0, .ref h), (1, .ref g), (2, .int (nI v)), (3, .int (nI low))] [] 29 := by
          intro k2
          induction k2 with
          | zero =>
            intro low wt2 pt2 hi hw2 hp2
            refine s_iload_n 3 C dB_load_29 rfl ?_
            refine s_iconst (nI 1) C dB_load_30 (by decide) ?_
            refine s_iload_n 2 C dB_load_31 rfl ?_
            refine s_shl1 C dB_load_32 (by omega) ?_
            refine s_icmp_geN 81 C dB_load_33 (by decide) (by omega) (by omega) (fun c2 => ?_) (fun c2 => ?_)
            · refine s_iinc (j := 2) (nI (v + 1)) [(0, .ref h), (1, .ref g), (2, .int (nI (v + 1))), (3, .int (nI low))] [1, 2, 0, 3] C dB_load_81 rfl (inc1 _) (by decide) rfl ?_
              refine s_goto (tgt := 19) C dB_load_84 (by decide) ?_
              refine s_lv (lv' := [(0, .ref h), (1, .ref g), (2, .int (nI (v + 1)))]) [0, 1, 2] rfl ?_
              exact ih (v + 1) wt2 pt2 (by omega) (fun s hs => hw2 s (by omega)) (fun s h0 hs => hp2 s h0 (by omega))
            · exact absurd c2 (by omega)
          | succ k2 ih2 =>
            intro low wt2 pt2 hi hw2 hp2
            refine s_iload_n 3 C dB_load_29 rfl ?_
            refine s_iconst (nI 1) C dB_load_30 (by decide) ?_
            refine s_iload_n 2 C dB_load_31 rfl ?_
            refine s_shl1 C dB_load_32 (by omega) ?_
            refine s_icmp_geN 81 C dB_load_33 (by decide) (by omega) (by omega) (fun c2 => ?_) (fun c2 => ?_)
            · exact absurd c2 (by omega)
            · have hol := or_add (low := low) (v := v) (by omega)
              refine s_aload_n 0 C dB_load_36 rfl ?_
              refine s_get (.ref o3) 0 2 C wfP inB flB_18 dB_load_37 rfl rfl (by decide) rfl ?_
              refine s_iload_n 3 C dB_load_40 rfl ?_
              refine s_iconst (nI 1) C dB_load_41 (by decide) ?_
              refine s_iload_n 2 C dB_load_42 rfl ?_
              refine s_shl1 C dB_load_43 (by omega) ?_
              refine s_iorN C dB_load_44 ?_
              refine s_aload_n 0 C dB_load_45 rfl ?_
              refine s_get (.ref o3) 0 2 C wfP inB flB_18 dB_load_46 rfl rfl (by decide) rfl ?_
              refine s_iload_n 3 C dB_load_49 rfl ?_
              refine s_ialdN 2 C wfP dB_load_50 rfl (by omega) (by decide) ?_
              refine s_aload_n 1 C dB_load_51 rfl ?_
              refine s_get (.ref a3) 5 4 C wfP inG flB_40 dB_load_52 rfl rfl (by decide) rfl ?_
              refine s_iload_n 2 C dB_load_55 rfl ?_
              refine s_ialdN 8 C wfP dB_load_56 rfl (by omega) (by decide) ?_
              refine s_iaddN C dB_load_57 ?_
              refine s_iastN 2 [(h, .inr (1, [.ref o1, .ref o2, .ref o3, .ref o4, .ref o5, .int (nI (2 ^ n - 1)), .int fu, .int fw])), (o2, .inl (cA, 9, .inl (aN nr1))), (o3, .inl (cA, 512, .inl (aN (nup wt2 (low ||| (2 ^ v)) (wt2 low + (wa v)))))), (o4, .inl (cA, 512, .inl (aN is1))), (o5, .inl (cA, 512, .inl (aN pt2))), (g, .inr (2, [.int (nI n), .int (nI m), .ref a1, .ref a2, .ref a3])), (a1, .inl (cA, 14, .inl (aN fi))), (a2, .inl (cA, 14, .inl (aN se))), (a3, .inl (cA, 9, .inl (aN wa)))] C dB_load_58 rfl (by omega) (by decide) rfl ?_
              refine s_aload_n 0 C dB_load_59 rfl ?_
              refine s_get (.ref o5) 0 4 C wfP inB flB_24 dB_load_60 rfl rfl (by decide) rfl ?_
              refine s_iload_n 3 C dB_load_63 rfl ?_
              refine s_iconst (nI 1) C dB_load_64 (by decide) ?_
              refine s_iload_n 2 C dB_load_65 rfl ?_
              refine s_shl1 C dB_load_66 (by omega) ?_
              refine s_iorN C dB_load_67 ?_
              refine s_aload_n 0 C dB_load_68 rfl ?_
              refine s_iload_n 2 C dB_load_69 rfl ?_
              refine s_iload_n 3 C dB_load_70 rfl ?_
              refine s_callP (n := 2) [0, 1, 4] 0 [.int (nI (low ||| (2 ^ v))), .ref o5] C wfP (kB_partOf E.2.1 D cA h o1 o2 o3 o4 o5 nr1 pt2 (nI (2 ^ n - 1)) fu fw fi se m v low hv9 (by omega) (hnr v (by omega)) (fun s h0 hs => hp2 s h0 (by omega))) gB_43 dB_load_71 (by decide +kernel) rfl rfl rfl rfl (by decide) (by decide) rfl rfl (Nat.le_of_ble_eq_true rfl) (Nat.zero_le _) (Nat.zero_le _) (fun r hpp => ?_)
              obtain ⟨p, er, hp9, hpr⟩ := hpp
              refine s_top er ?_
              refine s_iastN 4 [(h, .inr (1, [.ref o1, .ref o2, .ref o3, .ref o4, .ref o5, .int (nI (2 ^ n - 1)), .int fu, .int fw])), (o2, .inl (cA, 9, .inl (aN nr1))), (o3, .inl (cA, 512, .inl (aN (nup wt2 (low ||| (2 ^ v)) (wt2 low + (wa v)))))), (o4, .inl (cA, 512, .inl (aN is1))), (o5, .inl (cA, 512, .inl (aN (nup pt2 (low ||| (2 ^ v)) p)))), (g, .inr (2, [.int (nI n), .int (nI m), .ref a1, .ref a2, .ref a3])), (a1, .inl (cA, 14, .inl (aN fi))), (a2, .inl (cA, 14, .inl (aN se))), (a3, .inl (cA, 9, .inl (aN wa)))] C dB_load_74 rfl (by omega) (by decide) rfl ?_
              refine s_iinc (j := 3) (nI (low + 1)) [(0, .ref h), (1, .ref g), (2, .int (nI v)), (3, .int (nI (low + 1)))] [1, 2, 3, 0] C dB_load_75 rfl (inc1 _) (by decide) rfl ?_
              refine s_goto (tgt := 29) C dB_load_78 (by decide) ?_
              refine ih2 (low + 1) _ _ (by omega) (fun s hs => ?_) (fun s h0 hs => ?_)
              · by_cases q : s = low ||| 2 ^ v
                · subst q; rw [nup_s, hw2 low (by omega), wsum_on (by omega) (by omega)]
                · rw [nup_n q]; exact hw2 s (by omega)
              · by_cases q : s = low ||| 2 ^ v
                · subst q; rw [nup_s]; exact hpr
                · rw [nup_n q]; exact hp2 s h0 (by omega)
        exact loop2 (2 ^ v) 0 wt1 pt1 (by omega) (fun s hs => hw1 s (by omega)) (fun s h0 hs => hp1 s h0 (by omega))
  refine loop n 0 wt pt (by omega) (fun s hs => ?_) (fun s h0 hs => absurd hs (by simp; omega))
  have e0 : s = 0 := by simp at hs; exact hs
  rw [e0, hwt0, wsum_0]
end
section
/-! the sets of nine vertices in ORDER -/
def odN : Nat := 14002911899602118811482256462345246028828012844163097269122723642004419222514332838218341547148344634769354661019445377382139637042289170933328325024471414755290404027839723910243197243991580596826603916935304222765680882892350131673243724236280064766699973294332171480491397141310069374383547201678655643077311941874321442057145988591997326494271504461913180979405081861223886036161493924018907661309065379342405723258981661489159446989090991219259702435620977246938333265749130892569224358966963116876973748913548370159905230040175334334520160492032493839172331357167365618878797070528757689326564311431000968030888360102233150442073998919392799700717065336590799779608259372165673911874515771211199967489161925741004163301522145910589655894586206929410418371652539947607441499558832567212511157568094559126933903411122883785464518756479791741573109473959597990423005349676136300296148616530988367749834494769874563307961091249537152678538739475038045748456526899587313324544743557576063697053692160462457954751741887095079875730361310254806053704014610594767310197208045638781490985374020447851064877232754127293268480684250685730135824217309501346987534662824495224594381235490221949975855168223658415765376959292355181911888597259635021489079120208882933344704047021226219178820287341159166264329496642406746228129665060078582545702961858829569649788411606658848268120060182999335424
def cnN : Nat := 96221491278916497285369097297368798241434226371345670857276884228922397920215263998731399670006919985648666232005339697717597383121343410538113765381733434654413411022121508863594465313214952670103528574300921353468288277567117660760521632811920050320215319234121149337558530298480636150510380602243009246553480425761525496038758210293750871395344970414571146635345684283496643943517632474820927338620358419435563117908424649319897295133030098694314126775825350282331858374469701163213243111591932133214731125308246043473296797985118995131114150488565550095612839819088674273095688023818327412811755829937916053486516319734305060481360986944126026661008381022106122976874740950866327539176108608359453752307749942979437109504804111191991033964433972591362217209642085865795519912565441286812767418218129809849592436872843020531566789571607215592125090405608898021501648464695718811442920001486385702666931870033274137278489295143436323987076735323913764306059491891109419374985994371703783727528925623190525245871022384444005445946612910240861636882974379241515949731783480609236040245816963147663730804532554216244173143046969303132584571123850860162922989373136100642434696987852631856516099109587873427478017004684181118820813820891873067676297933854680231386427921319989918641025207397467834575332222398126788123873180089490991324251530386896653212662605437684615798257728951414993227202721166897309701515026179332434528408929987382185634818039689500060081497627497018708852763314187263021586318520558467954445202283279458993812902938421249
def psN : Nat := 14002911898381492856787523834900632115070114040510913242060010690487442607586042608439459465786196781773318699961110578390370893307707525197778192011434743532606363438857851671919759565181485911166029999866974537902254503483829099160540683893270099209580130149979795663098876572266656289380681712197413400426943677504275570343079951351232015681274475502531158761848426947872879633825923465031660491638275824997461985960222190589625025068183516206854359919256521169750089683293394111444141560544637370737762543301399088204119743457116046655990732001781900974309350026436992658543430414804133071115638959386540687366294569220151826523504895475885662461509204984762717652454704649319440893803802879983759123066485731921670561603384117313520583807868309876130373641001924974389290741779322519470781784901103995659087846337738065961735498766314970915053225397881068954954206645447931165334617047993708731010329565808074710986443407300884849544356548445433582452443777722352703903791642433930496557248557177812375707228506705603501460117321198230991126062920931285474873161939589667624456427246038577454345626404109191382836933260937453485986332858124760496479398698500758000580267029522770205417917311351096279434484625970339092150579347695437366094143424234103924354276502698486653183755341239779750163794586968043860937362044875760105700928005988551083061071594937017824542938376669688758784
def od (i : Nat) : Nat := (odN >>> (9 * i)) % 512
def cn (i : Nat) : Nat := (cnN >>> (10 * i)) % 1024
def ps (i : Nat) : Nat := (psN >>> (9 * i)) % 512
def bl (x : Nat) : Nat := if x = 0 then 0 else Nat.log2 x + 1
def okey (s : Nat) : Nat := hsz 14 (bm s) * 2 ^ 14 + (2 ^ 14 - 1 - nkey (bm s) 14)
set_option maxRecDepth 100000 in
theorem od_run : ∀ i, i < 512 → i < cn i ∧ cn (i + 1) = cn i + (9 - bl (od i)) ∧ ∀ v, v < 9 → (od i < 2 ^ v → cn i + (v - bl (od i)) < 512 ∧ od (cn i + (v - bl (od i))) = od i ||| 2 ^ v ∧ cn i + (v + 1 - bl (od i)) = cn i + (v - bl (od i)) + 1) ∧ (2 ^ v ≤ od i → v + 1 - bl (od i) = 0) := by decide +kernel
set_option maxRecDepth 100000 in
theorem od_in : ∀ s, s < 512 → ps s < 512 ∧ od (ps s) = s := by decide +kernel
set_option maxRecDepth 100000 in
theorem od_nx : ∀ i, i < 511 → okey (od i) < okey (od (i + 1)) := by decide +kernel
theorem cn_0 : cn 0 = 1 := by decide +kernel
theorem cn_9 : cn 512 = 512 := by decide +kernel
theorem od_0 : od 0 = 0 := by decide +kernel
theorem od_lt (i : Nat) : od i < 512 := Nat.mod_lt _ (by decide)
theorem od_mono {i j : Nat} (h : i < j) (hj : j < 512) : okey (od i) < okey (od j) := by
  induction j with
  | zero => omega
  | succ j ih =>
    have h1 := od_nx j (by omega)
    rcases Nat.lt_or_ge i j with q | q
    · have := ih q (by omega); omega
    · have e : i = j := by omega
      subst e; exact h1
theorem nkey_le14 (M : Nat → Bool) : nkey M 14 ≤ 2 ^ 14 - 1 := by
  have := nkey_bd M 14
  omega
theorem okey_lt {a b : Nat} : okey a < okey b ↔ hsz 14 (bm a) < hsz 14 (bm b) ∨ (hsz 14 (bm a) = hsz 14 (bm b) ∧ nkey (bm b) 14 < nkey (bm a) 14) := by
  unfold okey
  have h1 := nkey_le14 (bm a)
  have h2 := nkey_le14 (bm b)
  omega
theorem okey_inj {a b : Nat} (ha : a < 2 ^ 14) (hb : b < 2 ^ 14) (h : okey a = okey b) : a = b := by
  have h0 : hsz 14 (bm a) = hsz 14 (bm b) ∧ nkey (bm a) 14 = nkey (bm b) 14 := by
    unfold okey at h
    have h1 := nkey_le14 (bm a)
    have h2 := nkey_le14 (bm b)
    omega
  exact bm_ext ha hb (nkey_inj h0.2)
end
section
def okW (fi se : Nat → Nat) (n m : Nat) (wa : Nat → Nat) (tg u w : Nat) : Prop := w < 2 ^ n ∧ dsj u w ∧ bnd fi se n m wa u w = tg
set_option maxHeartbeats 4000000 in
set_option maxRecDepth 100000 in
/-- Bounds() -/
theorem kB_init (l : Launch) (D : va_G) (cA : ClassId) (h : Nat) : CtV (S := Nat × Nat × Nat × Nat × Nat) l yB_init (.code yB_init cB_init 4 none) 1 5 2057 D cA [.ref h] [(h, .inr (1, [.null, .null, .null, .null, .null, .int 0, .int 0, .int 0]))] (fun _ => True) (fun u => [(h, .inr (1, [.ref u.1, .ref u.2.1, .ref u.2.2.1, .ref u.2.2.2.1, .ref u.2.2.2.2, .int 0, .int 0, .int 0])), (u.1, .inl (cA, 512, .inl (aN od))), (u.2.1, .inl (cA, 9, .inl (aN (fun _ => 0)))), (u.2.2.1, .inl (cA, 512, .inl (aN (fun _ => 0)))), (u.2.2.2.1, .inl (cA, 512, .inl (aN (fun _ => 0)))), (u.2.2.2.2, .inl (cA, 512, .inl (aN (fun _ => 0))))]) := by
  refine mkV [(0, .ref h)] (by decide) rfl (Nat.le_of_ble_eq_true rfl) ?_
  intro E A Q hE hi C hA hret
  refine s_aload_n 0 C dB_init_0 rfl ?_
  refine s_objInit C mlB_3 dB_init_1 (by decide) (Nat.le_of_ble_eq_true rfl) ?_
  refine s_aload_n 0 C dB_init_4 rfl ?_
  refine s_sipush (nI 512) C dB_init_5 (by decide) ?_
  refine s_newa C hA dB_init_8 (by decide) (by decide) (by decide) (fun q1 => ?_)
  refine s_eqw (ws' := [(h, .inr (1, [.null, .null, .null, .null, .null, .int 0, .int 0, .int 0])), (q1, .inl (cA, 512, .inl (fun _ => 0)))]) rfl ?_
  refine s_putF 0 0 [(h, .inr (1, [.ref q1, .null, .null, .null, .null, .int 0, .int 0, .int 0])), (q1, .inl (cA, 512, .inl (fun _ => 0)))] C hi inB tyB_ok nmB flB_9 dB_init_10 rfl rfl (by decide) rfl rfl rfl rfl (Nat.le_of_ble_eq_true rfl) rfl ?_
  refine s_aload_n 0 C dB_init_13 rfl ?_
  refine s_bipush (nI 9) C dB_init_14 (by decide) ?_
  refine s_newa C hA dB_init_16 (by decide) (by decide) (by decide) (fun q2 => ?_)
  refine s_eqw (ws' := [(h, .inr (1, [.ref q1, .null, .null, .null, .null, .int 0, .int 0, .int 0])), (q1, .inl (cA, 512, .inl (fun _ => 0))), (q2, .inl (cA, 9, .inl (fun _ => 0)))]) rfl ?_
  refine s_putF 0 1 [(h, .inr (1, [.ref q1, .ref q2, .null, .null, .null, .int 0, .int 0, .int 0])), (q1, .inl (cA, 512, .inl (fun _ => 0))), (q2, .inl (cA, 9, .inl (fun _ => 0)))] C hi inB tyB_ok nmB flB_15 dB_init_18 rfl rfl (by decide) rfl rfl rfl rfl (Nat.le_of_ble_eq_true rfl) rfl ?_
  refine s_aload_n 0 C dB_init_21 rfl ?_
  refine s_sipush (nI 512) C dB_init_22 (by decide) ?_
  refine s_newa C hA dB_init_25 (by decide) (by decide) (by decide) (fun q3 => ?_)
  refine s_eqw (ws' := [(h, .inr (1, [.ref q1, .ref q2, .null, .null, .null, .int 0, .int 0, .int 0])), (q1, .inl (cA, 512, .inl (fun _ => 0))), (q2, .inl (cA, 9, .inl (fun _ => 0))), (q3, .inl (cA, 512, .inl (fun _ => 0)))]) rfl ?_
  refine s_putF 0 2 [(h, .inr (1, [.ref q1, .ref q2, .ref q3, .null, .null, .int 0, .int 0, .int 0])), (q1, .inl (cA, 512, .inl (fun _ => 0))), (q2, .inl (cA, 9, .inl (fun _ => 0))), (q3, .inl (cA, 512, .inl (fun _ => 0)))] C hi inB tyB_ok nmB flB_18 dB_init_27 rfl rfl (by decide) rfl rfl rfl rfl (Nat.le_of_ble_eq_true rfl) rfl ?_
  refine s_aload_n 0 C dB_init_30 rfl ?_
  refine s_sipush (nI 512) C dB_init_31 (by decide) ?_
  refine s_newa C hA dB_init_34 (by decide) (by decide) (by decide) (fun q4 => ?_)
  refine s_eqw (ws' := [(h, .inr (1, [.ref q1, .ref q2, .ref q3, .null, .null, .int 0, .int 0, .int 0])), (q1, .inl (cA, 512, .inl (fun _ => 0))), (q2, .inl (cA, 9, .inl (fun _ => 0))), (q3, .inl (cA, 512, .inl (fun _ => 0))), (q4, .inl (cA, 512, .inl (fun _ => 0)))]) rfl ?_
  refine s_putF 0 3 [(h, .inr (1, [.ref q1, .ref q2, .ref q3, .ref q4, .null, .int 0, .int 0, .int 0])), (q1, .inl (cA, 512, .inl (fun _ => 0))), (q2, .inl (cA, 9, .inl (fun _ => 0))), (q3, .inl (cA, 512, .inl (fun _ => 0))), (q4, .inl (cA, 512, .inl (fun _ => 0)))] C hi inB tyB_ok nmB flB_21 dB_init_36 rfl rfl (by decide) rfl rfl rfl rfl (Nat.le_of_ble_eq_true rfl) rfl ?_
  refine s_aload_n 0 C dB_init_39 rfl ?_
  refine s_sipush (nI 512) C dB_init_40 (by decide) ?_
  refine s_newa C hA dB_init_43 (by decide) (by decide) (by decide) (fun q5 => ?_)
  refine s_eqw (ws' := [(h, .inr (1, [.ref q1, .ref q2, .ref q3, .ref q4, .null, .int 0, .int 0, .int 0])), (q1, .inl (cA, 512, .inl (fun _ => 0))), (q2, .inl (cA, 9, .inl (fun _ => 0))), (q3, .inl (cA, 512, .inl (fun _ => 0))), (q4, .inl (cA, 512, .inl (fun _ => 0))), (q5, .inl (cA, 512, .inl (fun _ => 0)))]) rfl ?_
  refine s_putF 0 4 [(h, .inr (1, [.ref q1, .ref q2, .ref q3, .ref q4, .ref q5, .int 0, .int 0, .int 0])), (q1, .inl (cA, 512, .inl (fun _ => 0))), (q2, .inl (cA, 9, .inl (fun _ => 0))), (q3, .inl (cA, 512, .inl (fun _ => 0))), (q4, .inl (cA, 512, .inl (fun _ => 0))), (q5, .inl (cA, 512, .inl (fun _ => 0)))] C hi inB tyB_ok nmB flB_24 dB_init_45 rfl rfl (by decide) rfl rfl rfl rfl (Nat.le_of_ble_eq_true rfl) rfl ?_
  refine s_eqw (ws' := [(h, .inr (1, [.ref q1, .ref q2, .ref q3, .ref q4, .ref q5, .int 0, .int 0, .int 0])), (q1, .inl (cA, 512, .inl (aN (fun _ => 0)))), (q2, .inl (cA, 9, .inl (aN (fun _ => 0)))), (q3, .inl (cA, 512, .inl (aN (fun _ => 0)))), (q4, .inl (cA, 512, .inl (aN (fun _ => 0)))), (q5, .inl (cA, 512, .inl (aN (fun _ => 0))))]) (by rw [← aN_0]) ?_
  refine s_iconst (nI 1) C dB_init_48 (by decide) ?_
  refine s_istore_n [(0, .ref h), (1, .int (nI 1))] [1, 0] C dB_init_49 (by decide) rfl ?_
  refine s_iconst (nI 0) C dB_init_50 (by decide) ?_
  refine s_istore_n [(0, .ref h), (1, .int (nI 1)), (2, .int (nI 0))] [1, 2, 0] C dB_init_51 (by decide) rfl ?_
  have loop : ∀ k i (T : Nat → Nat), i + k = 512 → (∀ j, j < cn i → T j = od j) → ST E 4 Q (0 + 1 + 1 + 1 + 1 + 1) (0 + 512 + 9 + 512 + 512 + 512) (wf E A D [(h, .inr (1, [.ref q1, .ref q2, .ref q3, .ref q4, .ref q5, .int 0, .int 0, .int 0])), (q1, .inl (cA, 512, .inl (aN T))), (q2, .inl (cA, 9, .inl (aN (fun _ => 0)))), (q3, .inl (cA, 512, .inl (aN (fun _ => 0)))), (q4, .inl (cA, 512, .inl (aN (fun _ => 0)))), (q5, .inl (cA, 512, .inl (aN (fun _ => 0))))]) [(0, .ref h), (1, .int (nI (cn i))), (2, .int (nI i))] [] 52 := by
    intro k
    induction k with
    | zero =>
      intro i T hi hT
      refine s_iload_n 2 C dB_init_52 rfl ?_
      refine s_sipush (nI 512) C dB_init_53 (by decide) ?_
      refine s_icmp_geN 117 C dB_init_56 (by decide) (by omega) (by omega) (fun c1 => ?_) (fun c1 => ?_)
      · have e9 : 512 = i := by omega
        subst e9
        refine s_arr (aN od) 1 [(h, .inr (1, [.ref q1, .ref q2, .ref q3, .ref q4, .ref q5, .int 0, .int 0, .int 0])), (q1, .inl (cA, 512, .inl (aN od))), (q2, .inl (cA, 9, .inl (aN (fun _ => 0)))), (q3, .inl (cA, 512, .inl (aN (fun _ => 0)))), (q4, .inl (cA, 512, .inl (aN (fun _ => 0)))), (q5, .inl (cA, 512, .inl (aN (fun _ => 0))))] rfl (fun j hj => ?_) rfl ?_
        · show nI (T j) = nI (od j)
          rw [hT j (by rw [cn_9]; exact hj)]
        exact hret (q1, q2, q3, q4, q5) _ _ dB_init_117 trivial
      · exact absurd c1 (by omega)
    | succ k ih =>
      intro i T hi hT
      refine s_iload_n 2 C dB_init_52 rfl ?_
      refine s_sipush (nI 512) C dB_init_53 (by decide) ?_
      refine s_icmp_geN 117 C dB_init_56 (by decide) (by omega) (by omega) (fun c1 => ?_) (fun c1 => ?_)
      · exact absurd c1 (by omega)
      · obtain ⟨r1, r2, r3⟩ := od_run i (by omega)
        have ho := od_lt i
        refine s_iconst (nI 0) C dB_init_59 (by decide) ?_
        refine s_istore_n [(0, .ref h), (1, .int (nI (cn i))), (2, .int (nI i)), (3, .int (nI 0))] [1, 2, 3, 0] C dB_init_60 (by decide) rfl ?_
        have loop2 : ∀ k2 v (T2 : Nat → Nat), v + k2 = 9 → (∀ j, j < cn i + (v - bl (od i)) → T2 j = od j) → ST E 4 Q (0 + 1 + 1 + 1 + 1 + 1) (0 + 512 + 9 + 512 + 512 + 512) (wf E A D [(h, .inr (1, [.ref q1, .ref q2, .ref q3, .ref q4, .ref q5, .int 0, .int 0, .int 0])), (q1, .inl (cA, 512, .inl (aN T2))), (q2, .inl (cA, 9, .inl (aN (fun _ => 0)))), (q3, .inl (cA, 512, .inl (aN (fun _ => 0)))), (q4, .inl (cA, 512, .inl (aN (fun _ => 0)))), (q5, .inl (cA, 512, .inl (aN (fun _ => 0))))]) [(0, .ref h), (1, .int (nI (cn i + (v - bl (od i))))), (2, .int (nI i)), (3, .int (nI v))] [] 61 := by
          intro k2
          induction k2 with
          | zero =>
            intro v T2 hi hT2
            refine s_iload_n 3 C dB_init_61 rfl ?_
            refine s_bipush (nI 9) C dB_init_62 (by decide) ?_
            refine s_icmp_geN 111 C dB_init_64 (by decide) (by omega) (by omega) (fun c2 => ?_) (fun c2 => ?_)
            · have e9 : 9 = v := by omega
              subst e9
              rw [← r2]
              refine s_iinc (j := 2) (nI (i + 1)) [(0, .ref h), (1, .int (nI (cn (i + 1)))), (2, .int (nI (i + 1))), (3, .int (nI 9))] [1, 2, 0, 3] C dB_init_111 rfl (inc1 _) (by decide) rfl ?_
              refine s_goto (tgt := 52) C dB_init_114 (by decide) ?_
              refine s_lv (lv' := [(0, .ref h), (1, .int (nI (cn (i + 1)))), (2, .int (nI (i + 1)))]) [0, 1, 2] rfl ?_
              exact ih (i + 1) T2 (by omega) (fun j hj => hT2 j (by omega))
            · exact absurd c2 (by omega)
          | succ k2 ih2 =>
            intro v T2 hi hT2
            refine s_iload_n 3 C dB_init_61 rfl ?_
            refine s_bipush (nI 9) C dB_init_62 (by decide) ?_
            refine s_icmp_geN 111 C dB_init_64 (by decide) (by omega) (by omega) (fun c2 => ?_) (fun c2 => ?_)
            · exact absurd c2 (by omega)
            · obtain ⟨s1, s2⟩ := r3 v (by omega)
              have h2v : 2 ^ v ≤ 256 := p2_le (k := 8) (by omega)
              have hti : T2 i = od i := hT2 i (by omega)
              refine s_iconst (nI 1) C dB_init_67 (by decide) ?_
              refine s_iload_n 3 C dB_init_68 rfl ?_
              refine s_shl1 C dB_init_69 (by omega) ?_
              refine s_aload_n 0 C dB_init_70 rfl ?_
              refine s_get (.ref q1) 0 0 C wfP inB flB_9 dB_init_71 rfl rfl (by decide) rfl ?_
              refine s_iload_n 2 C dB_init_74 rfl ?_
              refine s_ialdN 1 C wfP dB_init_75 rfl (by omega) (by decide) ?_
              refine s_top (congrArg nI hti) ?_
              refine s_icmp_leN 105 C dB_init_76 (by decide) (by omega) (by omega) (fun c3 => ?_) (fun c3 => ?_)
              · refine s_iinc (j := 3) (nI (v + 1)) [(0, .ref h), (1, .int (nI (cn i + (v - bl (od i))))), (2, .int (nI i)), (3, .int (nI (v + 1)))] [1, 2, 3, 0] C dB_init_105 rfl (inc1 _) (by decide) rfl ?_
                refine s_goto (tgt := 61) C dB_init_108 (by decide) ?_
                have e8 := s2 c3
                have e7 : cn i + (v - bl (od i)) = cn i + (v + 1 - bl (od i)) := by omega
                rw [e7]
                exact ih2 (v + 1) T2 (by omega) (fun j hj => hT2 j (by omega))
              · obtain ⟨t1, t2, t3⟩ := s1 c3
                refine s_iload_n 1 C dB_init_79 rfl ?_
                refine s_sipush (nI 512) C dB_init_80 (by decide) ?_
                refine s_icmp_geN 105 C dB_init_83 (by decide) (by omega) (by omega) (fun c4 => ?_) (fun c4 => ?_)
                · exact absurd c4 (by omega)
                · refine s_aload_n 0 C dB_init_86 rfl ?_
                  refine s_get (.ref q1) 0 0 C wfP inB flB_9 dB_init_87 rfl rfl (by decide) rfl ?_
                  refine s_iload_n 1 C dB_init_90 rfl ?_
                  refine s_aload_n 0 C dB_init_91 rfl ?_
                  refine s_get (.ref q1) 0 0 C wfP inB flB_9 dB_init_92 rfl rfl (by decide) rfl ?_
                  refine s_iload_n 2 C dB_init_95 rfl ?_
                  refine s_ialdN 1 C wfP dB_init_96 rfl (by omega) (by decide) ?_
                  refine s_top (congrArg nI hti) ?_
                  refine s_iconst (nI 1) C dB_init_97 (by decide) ?_
                  refine s_iload_n 3 C dB_init_98 rfl ?_
                  refine s_shl1 C dB_init_99 (by omega) ?_
                  refine s_iorN C dB_init_100 ?_
                  refine s_iastN 1 [(h, .inr (1, [.ref q1, .ref q2, .ref q3, .ref q4, .ref q5, .int 0, .int 0, .int 0])), (q1, .inl (cA, 512, .inl (aN (nup T2 (cn i + (v - bl (od i))) ((od i) ||| (2 ^ v)))))), (q2, .inl (cA, 9, .inl (aN (fun _ => 0)))), (q3, .inl (cA, 512, .inl (aN (fun _ => 0)))), (q4, .inl (cA, 512, .inl (aN (fun _ => 0)))), (q5, .inl (cA, 512, .inl (aN (fun _ => 0))))] C dB_init_101 rfl (by omega) (by decide) rfl ?_
                  refine s_iinc (j := 1) (nI (cn i + (v - bl (od i)) + 1)) [(0, .ref h), (1, .int (nI (cn i + (v - bl (od i)) + 1))), (2, .int (nI i)), (3, .int (nI v))] [1, 0, 2, 3] C dB_init_102 rfl (inc1 _) (by decide) rfl ?_
                  refine s_iinc (j := 3) (nI (v + 1)) [(0, .ref h), (1, .int (nI (cn i + (v - bl (od i)) + 1))), (2, .int (nI i)), (3, .int (nI (v + 1)))] [1, 2, 3, 0] C dB_init_105 rfl (inc1 _) (by decide) rfl ?_
                  refine s_goto (tgt := 61) C dB_init_108 (by decide) ?_
                  rw [← t3]
                  refine ih2 (v + 1) _ (by omega) (fun j hj => ?_)
                  by_cases q : j = cn i + (v - bl (od i))
                  · subst q; rw [nup_s]; exact t2.symm
                  · rw [nup_n q]; exact hT2 j (by omega)
        have h9 := loop2 9 0 T (by omega) (fun j hj => hT j (by omega))
        rw [Nat.zero_sub, Nat.add_zero] at h9
        exact h9
  have hT0 : ∀ j, j < cn 0 → (fun _ => 0) j = od j := by
    intro j hj
    rw [cn_0] at hj
    have e0 : j = 0 := by omega
    rw [e0, od_0]
  have h9 := loop 512 0 (fun _ => 0) (by omega) hT0
  rw [cn_0] at h9
  exact h9
set_option maxHeartbeats 4000000 in
set_option maxRecDepth 100000 in
/-- the first W for a U -/
theorem kB_findFor (l : Launch) (D : va_G) (cA : ClassId) (h o1 o2 o3 o4 o5 : Nat) (wt is pt : Nat → Nat) (fu fw : Int32) (n m : Nat) (fi se wa : Nat → Nat) (hn : n ≤ 9) (hm : m ≤ 14) (hfs : hok fi se n m) (hwa : ∀ v, v < 9 → wa v ≤ 14) (htab : tabOK fi se wa n m wt is pt) (tg : Nat) (htg : tg < 100) (u : Nat) (hu : u < 2 ^ n) : CtI (S := Int32 × Int32) l yB_findFor (.code yB_findFor cB_findFor 6 (some .boolean)) 1 0 0 D cA [.ref h, .int (nI u), .int (nI tg)] [(h, .inr (1, [.ref o1, .ref o2, .ref o3, .ref o4, .ref o5, .int (nI (2 ^ n - 1)), .int fu, .int fw])), (o1, .inl (cA, 512, .inl (aN od))), (o3, .inl (cA, 512, .inl (aN wt))), (o4, .inl (cA, 512, .inl (aN is))), (o5, .inl (cA, 512, .inl (aN pt)))] (fun r x => (∃ i, i < 512 ∧ okW fi se n m wa tg u (od i) ∧ (∀ j, j < i → ¬ okW fi se n m wa tg u (od j)) ∧ r = nI 1 ∧ x = (nI u, nI (od i))) ∨ ((∀ j, j < 512 → ¬ okW fi se n m wa tg u (od j)) ∧ r = nI 0 ∧ x = (fu, fw))) (fun x => [(h, .inr (1, [.ref o1, .ref o2, .ref o3, .ref o4, .ref o5, .int (nI (2 ^ n - 1)), .int x.1, .int x.2])), (o1, .inl (cA, 512, .inl (aN od))), (o3, .inl (cA, 512, .inl (aN wt))), (o4, .inl (cA, 512, .inl (aN is))), (o5, .inl (cA, 512, .inl (aN pt)))]) := by
  refine mkI [(0, .ref h), (1, .int (nI u)), (2, .int (nI tg))] (by decide) rfl (Nat.le_of_ble_eq_true rfl) ?_
  intro E A Q hE C hA hret
  have h2n : 2 ^ n ≤ 512 := p2_le (k := 9) hn
  refine s_aload_n 0 C dB_findFor_0 rfl ?_
  refine s_get (.int (nI (2 ^ n - 1))) 0 5 C wfP inB flB_33 dB_findFor_1 rfl rfl (by decide) rfl ?_
  refine s_iload_n 1 C dB_findFor_4 rfl ?_
  refine s_iconst (-1) C dB_findFor_5 (by decide) ?_
  refine s_ixor C dB_findFor_6 ?_
  refine s_andnot C dB_findFor_7 ?_
  refine s_istore_n [(0, .ref h), (1, .int (nI u)), (2, .int (nI tg)), (3, .int (nI (ndf (2 ^ n - 1) u)))] [1, 2, 3, 0] C dB_findFor_8 (by decide) rfl ?_
  refine s_iconst (nI 0) C dB_findFor_9 (by decide) ?_
  refine s_istore [(0, .ref h), (1, .int (nI u)), (2, .int (nI tg)), (3, .int (nI (ndf (2 ^ n - 1) u))), (4, .int (nI 0))] [1, 2, 3, 4, 0] C dB_findFor_10 (by decide) rfl ?_
  have loop : ∀ k i, i + k = 512 → (∀ j, j < i → ¬ okW fi se n m wa tg u (od j)) → ST E 6 Q 0 0 (wf E A D [(h, .inr (1, [.ref o1, .ref o2, .ref o3, .ref o4, .ref o5, .int (nI (2 ^ n - 1)), .int fu, .int fw])), (o1, .inl (cA, 512, .inl (aN od))), (o3, .inl (cA, 512, .inl (aN wt))), (o4, .inl (cA, 512, .inl (aN is))), (o5, .inl (cA, 512, .inl (aN pt)))]) [(0, .ref h), (1, .int (nI u)), (2, .int (nI tg)), (3, .int (nI (ndf (2 ^ n - 1) u))), (4, .int (nI i))] [] 12 := by
    intro k
    induction k with
    | zero =>
      intro i hi hno
      refine s_iload 4 C dB_findFor_12 rfl ?_
      refine s_sipush (nI 512) C dB_findFor_14 (by decide) ?_
      refine s_icmp_geN 68 C dB_findFor_17 (by decide) (by omega) (by omega) (fun c1 => ?_) (fun c1 => ?_)
      · refine s_iconst (nI 0) C dB_findFor_68 (by decide) ?_
        exact hret _ (fu, fw) _ _ dB_findFor_69 rfl (Or.inr ⟨fun j hj => hno j (by omega), rfl, rfl⟩)
      · exact absurd c1 (by omega)
    | succ k ih =>
      intro i hi hno
      refine s_iload 4 C dB_findFor_12 rfl ?_
      refine s_sipush (nI 512) C dB_findFor_14 (by decide) ?_
      refine s_icmp_geN 68 C dB_findFor_17 (by decide) (by omega) (by omega) (fun c1 => ?_) (fun c1 => ?_)
      · exact absurd c1 (by omega)
      · have ho := od_lt i
        refine s_aload_n 0 C dB_findFor_20 rfl ?_
        refine s_get (.ref o1) 0 0 C wfP inB flB_9 dB_findFor_21 rfl rfl (by decide) rfl ?_
        refine s_iload 4 C dB_findFor_24 rfl ?_
        refine s_ialdN 1 C wfP dB_findFor_26 rfl (by omega) (by decide) ?_
        refine s_istore [(0, .ref h), (1, .int (nI u)), (2, .int (nI tg)), (3, .int (nI (ndf (2 ^ n - 1) u))), (4, .int (nI i)), (5, .int (nI (od i)))] [1, 2, 3, 4, 5, 0] C dB_findFor_27 (by decide) rfl ?_
        refine s_iload 5 C dB_findFor_29 rfl ?_
        refine s_iload_n 3 C dB_findFor_31 rfl ?_
        refine s_iconst (-1) C dB_findFor_32 (by decide) ?_
        refine s_ixor C dB_findFor_33 ?_
        refine s_andnot C dB_findFor_34 ?_
        refine s_if_neN 62 C dB_findFor_35 (by decide) (by have := ndf_le (od i) (ndf (2 ^ n - 1) u); omega) (fun c2 => ?_) (fun c2 => ?_)
        · refine s_iinc (j := 4) (nI (i + 1)) [(0, .ref h), (1, .int (nI u)), (2, .int (nI tg)), (3, .int (nI (ndf (2 ^ n - 1) u))), (4, .int (nI (i + 1))), (5, .int (nI (od i)))] [1, 2, 3, 4, 0, 5] C dB_findFor_62 rfl (inc1 _) (by decide) rfl ?_
          refine s_goto (tgt := 12) C dB_findFor_65 (by decide) ?_
          refine s_lv (lv' := [(0, .ref h), (1, .int (nI u)), (2, .int (nI tg)), (3, .int (nI (ndf (2 ^ n - 1) u))), (4, .int (nI (i + 1)))]) [0, 1, 2, 3, 4] rfl ?_
          refine ih (i + 1) (by omega) (fun j hj => ?_)
          by_cases q : j = i
          · subst q; exact fun z => c2 (sub_oth.mpr ⟨z.1, z.2.1⟩)
          · exact hno j (by omega)
        · obtain ⟨w1, w2⟩ := sub_oth.mp c2
          have hbl := bnd_le (fi := fi) (se := se) (u := u) (w := od i) hn hm hwa
          refine s_aload_n 0 C dB_findFor_38 rfl ?_
          refine s_iload_n 1 C dB_findFor_39 rfl ?_
          refine s_iload 5 C dB_findFor_40 rfl ?_
          refine s_callP (n := 2) [0, 2, 3, 4] 0 [] C wfP (kB_value E.2.1 D cA h o1 o2 o3 o4 o5 wt is pt fu fw n m fi se wa u (od i) hn hm hfs hwa hu w1 w2 htab.1 htab.2.1 htab.2.2) gB_60 dB_findFor_42 (by decide +kernel) rfl rfl rfl rfl (by decide) (by decide) rfl rfl (Nat.le_of_ble_eq_true rfl) (Nat.zero_le _) (Nat.zero_le _) (fun r hv => ?_)
          refine s_top hv ?_
          refine s_iload_n 2 C dB_findFor_45 rfl ?_
          refine s_icmp_neN 62 C dB_findFor_46 (by decide) (by omega) (by omega) (fun c3 => ?_) (fun c3 => ?_)
          · refine s_iinc (j := 4) (nI (i + 1)) [(0, .ref h), (1, .int (nI u)), (2, .int (nI tg)), (3, .int (nI (ndf (2 ^ n - 1) u))), (4, .int (nI (i + 1))), (5, .int (nI (od i)))] [1, 2, 3, 4, 0, 5] C dB_findFor_62 rfl (inc1 _) (by decide) rfl ?_
            refine s_goto (tgt := 12) C dB_findFor_65 (by decide) ?_
            refine s_lv (lv' := [(0, .ref h), (1, .int (nI u)), (2, .int (nI tg)), (3, .int (nI (ndf (2 ^ n - 1) u))), (4, .int (nI (i + 1)))]) [0, 1, 2, 3, 4] rfl ?_
            refine ih (i + 1) (by omega) (fun j hj => ?_)
            by_cases q : j = i
            · subst q; exact fun z => c3 z.2.2
            · exact hno j (by omega)
          · refine s_aload_n 0 C dB_findFor_49 rfl ?_
            refine s_iload_n 1 C dB_findFor_50 rfl ?_
            refine s_put 0 6 [(h, .inr (1, [.ref o1, .ref o2, .ref o3, .ref o4, .ref o5, .int (nI (2 ^ n - 1)), .int (nI u), .int fw])), (o1, .inl (cA, 512, .inl (aN od))), (o3, .inl (cA, 512, .inl (aN wt))), (o4, .inl (cA, 512, .inl (aN is))), (o5, .inl (cA, 512, .inl (aN pt)))] C inB tyB_ok nmB flB_63 dB_findFor_51 rfl rfl (by decide) rfl rfl rfl (Nat.le_of_ble_eq_true rfl) rfl ?_
            refine s_aload_n 0 C dB_findFor_54 rfl ?_
            refine s_iload 5 C dB_findFor_55 rfl ?_
            refine s_put 0 7 [(h, .inr (1, [.ref o1, .ref o2, .ref o3, .ref o4, .ref o5, .int (nI (2 ^ n - 1)), .int (nI u), .int (nI (od i))])), (o1, .inl (cA, 512, .inl (aN od))), (o3, .inl (cA, 512, .inl (aN wt))), (o4, .inl (cA, 512, .inl (aN is))), (o5, .inl (cA, 512, .inl (aN pt)))] C inB tyB_ok nmB flB_66 dB_findFor_57 rfl rfl (by decide) rfl rfl rfl (Nat.le_of_ble_eq_true rfl) rfl ?_
            refine s_iconst (nI 1) C dB_findFor_60 (by decide) ?_
            exact hret _ (nI u, nI (od i)) _ _ dB_findFor_61 rfl (Or.inl ⟨i, by omega, ⟨w1, w2, c3⟩, hno, rfl, rfl⟩)
  exact loop 512 0 (by omega) (fun j hj => absurd hj (by omega))
set_option maxHeartbeats 4000000 in
set_option maxRecDepth 100000 in
/-- the first two sets whose bound is as told -/
theorem kB_find (l : Launch) (D : va_G) (cA : ClassId) (h o1 o2 o3 o4 o5 : Nat) (wt is pt : Nat → Nat) (fu fw : Int32) (n m : Nat) (fi se wa : Nat → Nat) (hn : n ≤ 9) (hm : m ≤ 14) (hfs : hok fi se n m) (hwa : ∀ v, v < 9 → wa v ≤ 14) (htab : tabOK fi se wa n m wt is pt) (tg : Nat) (htg : tg < 100) (hex : ∃ u w, u < 2 ^ n ∧ okW fi se n m wa tg u w) : CtV (S := Int32 × Int32) l yB_find (.code yB_find cB_find 4 none) 2 0 0 D cA [.ref h, .int (nI tg)] [(h, .inr (1, [.ref o1, .ref o2, .ref o3, .ref o4, .ref o5, .int (nI (2 ^ n - 1)), .int fu, .int fw])), (o1, .inl (cA, 512, .inl (aN od))), (o3, .inl (cA, 512, .inl (aN wt))), (o4, .inl (cA, 512, .inl (aN is))), (o5, .inl (cA, 512, .inl (aN pt)))] (fun x => ∃ i j, i < 512 ∧ j < 512 ∧ od i < 2 ^ n ∧ okW fi se n m wa tg (od i) (od j) ∧ (∀ i', i' < i → ¬ (od i' < 2 ^ n ∧ ∃ w, okW fi se n m wa tg (od i') w)) ∧ (∀ j', j' < j → ¬ okW fi se n m wa tg (od i) (od j')) ∧ x = (nI (od i), nI (od j))) (fun x => [(h, .inr (1, [.ref o1, .ref o2, .ref o3, .ref o4, .ref o5, .int (nI (2 ^ n - 1)), .int x.1, .int x.2])), (o1, .inl (cA, 512, .inl (aN od))), (o3, .inl (cA, 512, .inl (aN wt))), (o4, .inl (cA, 512, .inl (aN is))), (o5, .inl (cA, 512, .inl (aN pt)))]) := by
  refine mkV [(0, .ref h), (1, .int (nI tg))] (by decide) rfl (Nat.le_of_ble_eq_true rfl) ?_
  intro E A Q hE hi C hA hret
  have h2n : 2 ^ n ≤ 512 := p2_le (k := 9) hn
  refine s_iconst (nI 0) C dB_find_0 (by decide) ?_
  refine s_istore_n [(0, .ref h), (1, .int (nI tg)), (2, .int (nI 0))] [1, 2, 0] C dB_find_1 (by decide) rfl ?_
  have loop : ∀ k i, i + k = 512 → (∀ j, j < i → ¬ (od j < 2 ^ n ∧ ∃ w, okW fi se n m wa tg (od j) w)) → ST E 4 Q 0 0 (wf E A D [(h, .inr (1, [.ref o1, .ref o2, .ref o3, .ref o4, .ref o5, .int (nI (2 ^ n - 1)), .int fu, .int fw])), (o1, .inl (cA, 512, .inl (aN od))), (o3, .inl (cA, 512, .inl (aN wt))), (o4, .inl (cA, 512, .inl (aN is))), (o5, .inl (cA, 512, .inl (aN pt)))]) [(0, .ref h), (1, .int (nI tg)), (2, .int (nI i))] [] 2 := by
    intro k
    induction k with
    | zero =>
      intro i hi hno
      refine s_iload_n 2 C dB_find_2 rfl ?_
      refine s_sipush (nI 512) C dB_find_3 (by decide) ?_
      refine s_icmp_geN 53 C dB_find_6 (by decide) (by omega) (by omega) (fun c1 => ?_) (fun c1 => ?_)
      · obtain ⟨u, w, hu, hok1⟩ := hex
        obtain ⟨p1, p2⟩ := od_in u (by omega)
        exact absurd ⟨by rw [p2]; exact hu, w, by rw [p2]; exact hok1⟩ (hno (ps u) (by omega))
      · exact absurd c1 (by omega)
    | succ k ih =>
      intro i hi hno
      refine s_iload_n 2 C dB_find_2 rfl ?_
      refine s_sipush (nI 512) C dB_find_3 (by decide) ?_
      refine s_icmp_geN 53 C dB_find_6 (by decide) (by omega) (by omega) (fun c1 => ?_) (fun c1 => ?_)
      · exact absurd c1 (by omega)
      · have ho := od_lt i
        refine s_aload_n 0 C dB_find_9 rfl ?_
        refine s_get (.ref o1) 0 0 C wfP inB flB_9 dB_find_10 rfl rfl (by decide) rfl ?_
        refine s_iload_n 2 C dB_find_13 rfl ?_
        refine s_ialdN 1 C wfP dB_find_14 rfl (by omega) (by decide) ?_
        refine s_istore_n [(0, .ref h), (1, .int (nI tg)), (2, .int (nI i)), (3, .int (nI (od i)))] [1, 2, 3, 0] C dB_find_15 (by decide) rfl ?_
        refine s_iload_n 3 C dB_find_16 rfl ?_
        refine s_aload_n 0 C dB_find_17 rfl ?_
        refine s_get (.int (nI (2 ^ n - 1))) 0 5 C wfP inB flB_33 dB_find_18 rfl rfl (by decide) rfl ?_
        refine s_iconst (-1) C dB_find_21 (by decide) ?_
        refine s_ixor C dB_find_22 ?_
        refine s_andnot C dB_find_23 ?_
        refine s_if_neN 47 C dB_find_24 (by decide) (by have := ndf_le (od i) (2 ^ n - 1); omega) (fun c2 => ?_) (fun c2 => ?_)
        · refine s_iinc (j := 2) (nI (i + 1)) [(0, .ref h), (1, .int (nI tg)), (2, .int (nI (i + 1))), (3, .int (nI (od i)))] [1, 2, 0, 3] C dB_find_47 rfl (inc1 _) (by decide) rfl ?_
          refine s_goto (tgt := 2) C dB_find_50 (by decide) ?_
          refine s_lv (lv' := [(0, .ref h), (1, .int (nI tg)), (2, .int (nI (i + 1)))]) [0, 1, 2] rfl ?_
          refine ih (i + 1) (by omega) (fun j hj => ?_)
          by_cases q : j = i
          · subst q
            exact fun z => c2 (sub_all.mpr z.1)
          · exact hno j (by omega)
        · have hui := sub_all.mp c2
          have hwu := wsum_le hwa (od i)
          have hwi := htab.1 _ hui
          refine s_aload_n 0 C dB_find_27 rfl ?_
          refine s_get (.ref o3) 0 2 C wfP inB flB_18 dB_find_28 rfl rfl (by decide) rfl ?_
          refine s_iload_n 3 C dB_find_31 rfl ?_
          refine s_ialdN 2 C wfP dB_find_32 rfl (by omega) (by decide) ?_
          refine s_iload_n 1 C dB_find_33 rfl ?_
          refine s_icmp_gtN 47 C dB_find_34 (by decide) (by omega) (by omega) (fun c3 => ?_) (fun c3 => ?_)
          · refine s_iinc (j := 2) (nI (i + 1)) [(0, .ref h), (1, .int (nI tg)), (2, .int (nI (i + 1))), (3, .int (nI (od i)))] [1, 2, 0, 3] C dB_find_47 rfl (inc1 _) (by decide) rfl ?_
            refine s_goto (tgt := 2) C dB_find_50 (by decide) ?_
            refine s_lv (lv' := [(0, .ref h), (1, .int (nI tg)), (2, .int (nI (i + 1)))]) [0, 1, 2] rfl ?_
            refine ih (i + 1) (by omega) (fun j hj => ?_)
            by_cases q : j = i
            · subst q
              exact fun ⟨_, w, z⟩ => absurd (bnd_ge (wa := wa) hn hfs hui z.2.1) (by rw [z.2.2]; omega)
            · exact hno j (by omega)
          · refine s_aload_n 0 C dB_find_37 rfl ?_
            refine s_iload_n 3 C dB_find_38 rfl ?_
            refine s_iload_n 1 C dB_find_39 rfl ?_
            refine s_callI (n := 2) (wr := []) [0, 1, 2, 3, 4] [] 0 [] C hA (kB_findFor E.2.1 D cA h o1 o2 o3 o4 o5 wt is pt fu fw n m fi se wa hn hm hfs hwa htab tg htg (od i) hui) gB_56 dB_find_40 (by decide +kernel) rfl rfl (by decide) (by decide) (by decide) rfl rfl rfl (by decide) (by decide) rfl rfl (Nat.le_of_ble_eq_true rfl) (Nat.zero_le _) (Nat.zero_le _) (fun r x hx => ?_)
            refine s_sub (ws' := [(h, .inr (1, [.ref o1, .ref o2, .ref o3, .ref o4, .ref o5, .int (nI (2 ^ n - 1)), .int x.1, .int x.2])), (o1, .inl (cA, 512, .inl (aN od))), (o3, .inl (cA, 512, .inl (aN wt))), (o4, .inl (cA, 512, .inl (aN is))), (o5, .inl (cA, 512, .inl (aN pt)))]) [0, 1, 2, 3, 4] rfl (by decide) ?_
            rcases hx with ⟨j, hj, hw1, hw2, er, ex⟩ | ⟨hw1, er, ex⟩
            · refine s_top er ?_
              refine s_if_eqN 47 C dB_find_43 (by decide) (by decide) (fun c4 => ?_) (fun c4 => ?_)
              · exact absurd c4 (by decide)
              · exact hret x _ _ dB_find_46 ⟨i, j, by omega, hj, hui, hw1, hno, hw2, ex⟩
            · refine s_top er ?_
              subst ex
              refine s_eqw (ws' := [(h, .inr (1, [.ref o1, .ref o2, .ref o3, .ref o4, .ref o5, .int (nI (2 ^ n - 1)), .int fu, .int fw])), (o1, .inl (cA, 512, .inl (aN od))), (o3, .inl (cA, 512, .inl (aN wt))), (o4, .inl (cA, 512, .inl (aN is))), (o5, .inl (cA, 512, .inl (aN pt)))]) rfl ?_
              refine s_if_eqN 47 C dB_find_43 (by decide) (by decide) (fun c4 => ?_) (fun c4 => ?_)
              · refine s_iinc (j := 2) (nI (i + 1)) [(0, .ref h), (1, .int (nI tg)), (2, .int (nI (i + 1))), (3, .int (nI (od i)))] [1, 2, 0, 3] C dB_find_47 rfl (inc1 _) (by decide) rfl ?_
                refine s_goto (tgt := 2) C dB_find_50 (by decide) ?_
                refine s_lv (lv' := [(0, .ref h), (1, .int (nI tg)), (2, .int (nI (i + 1)))]) [0, 1, 2] rfl ?_
                refine ih (i + 1) (by omega) (fun j hj => ?_)
                by_cases q : j = i
                · subst q
                  exact fun ⟨_, w, z⟩ => by
                    obtain ⟨p1, p2⟩ := od_in w (by have := z.1; omega)
                    exact hw1 (ps w) p1 (by rw [p2]; exact z)
                · exact hno j (by omega)
              · exact absurd rfl c4
  exact loop 512 0 (by omega) (fun j hj => absurd hj (by omega))
end
section
/-! what is asked of a graph: n vertices, m edges between fi and se, demands wa -/
def GOK (n m : Nat) (fi se wa : Nat → Nat) : Prop := 1 ≤ n ∧ n ≤ 9 ∧ m ≤ 14 ∧ hok fi se n m ∧ (∀ v, v < 9 → wa v ≤ 14) ∧ ∀ v, n ≤ v → v < 9 → wa v = 0
theorem hok_9 {n m : Nat} {fi se : Nat → Nat} (hn : n ≤ 9) (h : hok fi se n m) : hok fi se 9 m := fun e he => by
  obtain ⟨h1, h2, h3⟩ := h e he
  exact ⟨by omega, by omega, h3⟩
theorem hdg_out {n m v : Nat} {fi se : Nat → Nat} {M : Nat → Bool} (h : hok fi se n m) (hv : n ≤ v) : hdg fi se m M v = 0 := su_z (fun e he => by
  obtain ⟨h1, h2, _⟩ := h e he
  rw [hin_no (by omega)]; simp)
theorem hfa_9 {n m : Nat} {fi se c : Nat → Nat} {M : Nat → Bool} (hn : n ≤ 9) (h : hok fi se n m) : hfa fi se 9 m c M ↔ hfa fi se n m c M := by
  refine ⟨fun q v hv => q v (by omega), fun q v hv => ?_⟩
  rcases Nat.lt_or_ge v n with z | z
  · exact q v z
  · rw [hdg_out h z]; omega
theorem hdg_hin {x y x' y' : Nat → Nat} {N : Nat} {M : Nat → Bool} {v : Nat} (h : ∀ j, j < N → hin x y j v = hin x' y' j v) : hdg x y N M v = hdg x' y' N M v := su_cg (fun j hj => by rw [h j hj])
theorem hfa_hin {x y x' y' : Nat → Nat} {P N : Nat} {c : Nat → Nat} {M : Nat → Bool} (h : ∀ j, j < N → ∀ v, hin x y j v = hin x' y' j v) : hfa x y P N c M ↔ hfa x' y' P N c M := by
  have e : ∀ v, hdg x y N M v = hdg x' y' N M v := fun v => hdg_hin (fun j hj => h j hj v)
  unfold hfa
  constructor
  · intro q v hv; rw [← e]; exact q v hv
  · intro q v hv; rw [e]; exact q v hv
theorem ld_hin {fi se : Nat → Nat} {w m : Nat} {hd tl : Nat → Nat} {TW : Nat → Int32} {ah : Nat → Nat} (h : ldI fi se w m hd tl TW ah) : ∀ j, j < ldN m w → ∀ v, hin hd tl j v = hin fi se (sk w j) v := by
  intro j hj v
  obtain ⟨e1, e2⟩ := h.2.2.1 j hj
  have iff : (hd j = v ∨ tl j = v) ↔ (fi (sk w j) = v ∨ se (sk w j) = v) := by rw [e1, e2]; omega
  unfold hin
  by_cases q : hd j = v ∨ tl j = v
  · rw [if_pos q, if_pos (iff.mp q)]
  · rw [if_neg q, if_neg (fun z => q (iff.mpr z))]
theorem ldN_full {m w : Nat} (h : m ≤ w) : ldN m w = m := if_pos h
theorem sk_lo {w j : Nat} (h : j < w) : sk w j = j := if_pos h
theorem ld_full {fi se : Nat → Nat} {w m : Nat} {hd tl : Nat → Nat} {TW : Nat → Int32} {ah : Nat → Nat} (hw : m ≤ w) (h : ldI fi se w m hd tl TW ah) : ∀ j, j < m → ∀ v, hin hd tl j v = hin fi se j v := by
  intro j hj v
  have := ld_hin h j (by rw [ldN_full hw]; exact hj) v
  rw [sk_lo (by omega)] at this
  exact this
theorem bst_hin {x y x' y' : Nat → Nat} {P N : Nat} {c : Nat → Nat} {M : Nat → Bool} (h : ∀ j, j < N → ∀ v, hin x y j v = hin x' y' j v) (hb : bst x y P N c M) : bst x' y' P N c M :=
  ⟨(hfa_hin h).mp hb.1, fun K hK => hb.2.1 K ((hfa_hin h).mpr hK), fun K hK => hb.2.2 K ((hfa_hin h).mpr hK)⟩
theorem su_sk (f : Nat → Nat) {w m : Nat} (h : w < m) : su f m = su (fun j => f (sk w j)) (m - 1) + f w := by
  induction m with
  | zero => omega
  | succ m ih =>
    show su f m + f m = su (fun j => f (sk w j)) m + f w
    rcases Nat.lt_or_ge w m with q | q
    · rw [ih q]
      obtain ⟨k, rfl⟩ : ∃ k, m = k + 1 := ⟨m - 1, by omega⟩
      show su (fun j => f (sk w j)) k + f w + f (k + 1) = su (fun j => f (sk w j)) k + f (sk w k) + f w
      have : sk w k = k + 1 := if_neg (by omega)
      rw [this]; omega
    · have e : w = m := by omega
      subst e
      rw [su_cg (f := fun j => f (sk w j)) (g := f) (fun j hj => by rw [sk_lo hj])]
/-- sets of edges with and without w, out of sets of the others -/
theorem sk_ex {fi se hd tl : Nat → Nat} {w m : Nat} (h : w < m) (hh : ∀ j, j < m - 1 → ∀ v, hin hd tl j v = hin fi se (sk w j) v) (M : Nat → Bool) :
    (∀ v, hdg fi se m M v = hdg hd tl (m - 1) (fun j => M (sk w j)) v + (M w).toNat * hin fi se w v) ∧ hsz m M = hsz (m - 1) (fun j => M (sk w j)) + (M w).toNat := by
  refine ⟨fun v => ?_, su_sk (fun j => (M j).toNat) h⟩
  rw [hdg, su_sk _ h]
  congr 1
  exact su_cg (fun j hj => by rw [hh j hj])
theorem sk_in (M : Nat → Bool) (w : Nat) (b : Bool) : (fun j => (fun i => if i = w then b else if i < w then M i else M (i - 1)) (sk w j)) = M := by
  funext j
  show (if sk w j = w then b else if sk w j < w then M (sk w j) else M (sk w j - 1)) = M j
  unfold sk
  by_cases q : j < w
  · rw [if_pos q, if_neg (by omega), if_pos q]
  · rw [if_neg q, if_neg (by omega), if_neg (by omega)]; simp
theorem sk_O {fi se hd tl c : Nat → Nat} {w m t : Nat} (h : w < m) (hh : ∀ j, j < m - 1 → ∀ v, hin hd tl j v = hin fi se (sk w j) v) :
    (∃ M, hfa hd tl 9 (m - 1) c M ∧ t ≤ hsz (m - 1) M) ↔ ∃ M, hfa fi se 9 m c M ∧ M w = false ∧ t ≤ hsz m M := by
  constructor
  · rintro ⟨M, h1, h2⟩
    obtain ⟨g1, g2⟩ := sk_ex h hh (fun i => if i = w then false else if i < w then M i else M (i - 1))
    rw [sk_in M w false] at g1 g2
    have e0 : (if w = w then false else if w < w then M w else M (w - 1)) = false := if_pos rfl
    refine ⟨fun i => if i = w then false else if i < w then M i else M (i - 1), fun v hv => ?_, e0, ?_⟩
    · have := h1 v hv
      rw [g1, e0]; simpa using this
    · rw [g2, e0]; simpa using h2
  · rintro ⟨M, h1, h2, h3⟩
    obtain ⟨g1, g2⟩ := sk_ex h hh M
    simp only [h2, Bool.toNat_false, Nat.zero_mul, Nat.add_zero] at g1 g2
    exact ⟨_, fun v hv => by rw [← g1]; exact h1 v hv, by rw [← g2]; exact h3⟩
theorem sk_W {fi se hd tl c : Nat → Nat} {w m t : Nat} (h : w < m) (hfs : hok fi se 9 m) (h1 : 0 < c (fi w)) (h2 : 0 < c (se w)) (hh : ∀ j, j < m - 1 → ∀ v, hin hd tl j v = hin fi se (sk w j) v) :
    (∃ M, hfa hd tl 9 (m - 1) (dn2 c (fi w) (se w)) M ∧ t ≤ hsz (m - 1) M) ↔ ∃ M, hfa fi se 9 m c M ∧ M w = true ∧ t + 1 ≤ hsz m M := by
  obtain ⟨f1, f2, f3⟩ := hfs w h
  have hc : ∀ v, dn2 c (fi w) (se w) v + hin fi se w v = c v ∨ (c v = 0 ∧ hin fi se w v = 0 ∧ dn2 c (fi w) (se w) v = 0) := by
    intro v
    rw [dn2_v f3, hin_ind f3]
    by_cases q : v = fi w
    · subst q; rw [ind_s, ind_n f3]; omega
    · by_cases z : v = se w
      · subst z; rw [ind_s, ind_n q]; omega
      · rw [ind_n q, ind_n z]; omega
  constructor
  · rintro ⟨M, m1, m2⟩
    obtain ⟨g1, g2⟩ := sk_ex h hh (fun i => if i = w then true else if i < w then M i else M (i - 1))
    rw [sk_in M w true] at g1 g2
    have e0 : (if w = w then true else if w < w then M w else M (w - 1)) = true := if_pos rfl
    refine ⟨fun i => if i = w then true else if i < w then M i else M (i - 1), fun v hv => ?_, e0, by rw [g2, e0]; simpa using m2⟩
    rw [g1, e0, Bool.toNat_true, Nat.one_mul]
    have a1 := m1 v hv
    have a2 := hc v
    omega
  · rintro ⟨M, m1, m2, m3⟩
    obtain ⟨g1, g2⟩ := sk_ex h hh M
    simp only [m2, Bool.toNat_true, Nat.one_mul] at g1 g2
    refine ⟨fun j => M (sk w j), fun v hv => ?_, by omega⟩
    have a1 := m1 v hv
    rw [g1] at a1
    have a2 := hc v
    omega
/-! the answers -/
def isFa (fi se wa : Nat → Nat) (n m s : Nat) : Prop := ∀ v, v < n → hdg fi se m (bm s) v = wa v
def mostP (fi se wa : Nat → Nat) (m : Nat) (r : Int32) : Prop := ∃ B, bst fi se 9 m wa B ∧ r = nI (hsz m B)
def bestP (fi se wa : Nat → Nat) (m : Nat) (r : Int32) : Prop := ∃ B, B < 2 ^ m ∧ bst fi se 9 m wa (bm B) ∧ r = nI B
def facP (fi se wa : Nat → Nat) (n m : Nat) (r : Int32) : Prop := (∃ F, F < 2 ^ m ∧ isFa fi se wa n m F ∧ (∀ F', F' < 2 ^ m → isFa fi se wa n m F' → okey F ≤ okey F') ∧ r = nI F) ∨ ((∀ F, F < 2 ^ m → ¬ isFa fi se wa n m F) ∧ r = -1)
def lgW (fi se wa : Nat → Nat) (m e : Nat) (B : Nat → Bool) (b : Bool) : Prop := ∃ M, hfa fi se 9 m wa M ∧ hsz m M = hsz m B ∧ M e = b
def roleP (fi se wa : Nat → Nat) (m e : Nat) (r : Int32) : Prop := ∃ B, bst fi se 9 m wa B ∧ ((¬ lgW fi se wa m e B true ∧ r = nI 0) ∨ (lgW fi se wa m e B true ∧ lgW fi se wa m e B false ∧ r = nI 1) ∨ (lgW fi se wa m e B true ∧ ¬ lgW fi se wa m e B false ∧ r = nI 2))
def rea (fi se : Nat → Nat) (m : Nat) (c : Nat → Nat) (t : Nat) : Prop := ∃ M, hfa fi se 9 m c M ∧ t ≤ hsz m M
def slkP (fi se wa : Nat → Nat) (m v : Nat) (r : Int32) : Prop := ∃ B, bst fi se 9 m wa B ∧ ∃ dd, dd ≤ wa v ∧ rea fi se m (nup wa v dd) (hsz m B) ∧ (∀ d', d' < dd → ¬ rea fi se m (nup wa v d') (hsz m B)) ∧ r = nI (wa v - dd)
def gnP (fi se wa : Nat → Nat) (m v : Nat) (r : Int32) : Prop := ∃ B B', bst fi se 9 m wa B ∧ bst fi se 9 m (nup wa v (wa v + 1)) B' ∧ r = nI (hsz m B' - hsz m B)
def isWit (fi se wa : Nat → Nat) (n m u w : Nat) : Prop := ∃ B, bst fi se 9 m wa B ∧ u < 2 ^ n ∧ okW fi se n m wa (hsz m B) u w ∧ (∀ u', u' < 2 ^ n → (∃ w', okW fi se n m wa (hsz m B) u' w') → okey u ≤ okey u') ∧ ∀ w', okW fi se n m wa (hsz m B) u w' → okey w ≤ okey w'
theorem bst_sz {x y : Nat → Nat} {P Q : Nat} {c : Nat → Nat} {M M' : Nat → Bool} (h : bst x y P Q c M) (h' : bst x y P Q c M') : hsz Q M = hsz Q M' := Nat.le_antisymm (h'.2.1 M h.1) (h.2.1 M' h'.1)
theorem mostP_un {fi se wa : Nat → Nat} {m : Nat} {r r' : Int32} (h : mostP fi se wa m r) (h' : mostP fi se wa m r') : r = r' := by
  obtain ⟨B, h1, e1⟩ := h
  obtain ⟨B', h2, e2⟩ := h'
  rw [e1, e2, bst_sz h1 h2]
theorem bestP_un {fi se wa : Nat → Nat} {m : Nat} {r r' : Int32} (h : bestP fi se wa m r) (h' : bestP fi se wa m r') : r = r' := by
  obtain ⟨B, l1, h1, e1⟩ := h
  obtain ⟨B', l2, h2, e2⟩ := h'
  rw [e1, e2, bm_ext l1 l2 (bst_un h1 h2)]
theorem facP_un {fi se wa : Nat → Nat} {n m : Nat} {r r' : Int32} (hm : m ≤ 14) (h : facP fi se wa n m r) (h' : facP fi se wa n m r') : r = r' := by
  rcases h with ⟨F, l1, h1, g1, e1⟩ | ⟨h1, e1⟩ <;> rcases h' with ⟨F', l2, h2, g2, e2⟩ | ⟨h2, e2⟩
  · have := Nat.le_antisymm (g1 F' l2 h2) (g2 F l1 h1)
    rw [e1, e2, okey_inj (Nat.lt_of_lt_of_le l1 (p2_le hm)) (Nat.lt_of_lt_of_le l2 (p2_le hm)) this]
  · exact absurd h1 (h2 F l1)
  · exact absurd h2 (h1 F' l2)
  · rw [e1, e2]
theorem roleP_un {fi se wa : Nat → Nat} {m e : Nat} {r r' : Int32} (h : roleP fi se wa m e r) (h' : roleP fi se wa m e r') : r = r' := by
  obtain ⟨B, h1, g1⟩ := h
  obtain ⟨B', h2, g2⟩ := h'
  have e : ∀ b, lgW fi se wa m e B b ↔ lgW fi se wa m e B' b := fun b => by unfold lgW; rw [bst_sz h1 h2]
  rw [e, e] at g1
  rcases g1 with ⟨a1, a2⟩ | ⟨a1, a2, a3⟩ | ⟨a1, a2, a3⟩ <;> rcases g2 with ⟨b1, b2⟩ | ⟨b1, b2, b3⟩ | ⟨b1, b2, b3⟩
  · rw [a2, b2]
  · exact absurd b1 a1
  · exact absurd b1 a1
  · exact absurd a1 b1
  · rw [a3, b3]
  · exact absurd a2 b2
  · exact absurd a1 b1
  · exact absurd b2 a2
  · rw [a3, b3]
theorem slkP_un {fi se wa : Nat → Nat} {m v : Nat} {r r' : Int32} (h : slkP fi se wa m v r) (h' : slkP fi se wa m v r') : r = r' := by
  obtain ⟨B, h1, d1, l1, a1, b1, e1⟩ := h
  obtain ⟨B', h2, d2, l2, a2, b2, e2⟩ := h'
  rw [bst_sz h2 h1] at a2 b2
  have : d1 = d2 := by
    rcases Nat.lt_trichotomy d1 d2 with q | q | q
    · exact absurd a1 (b2 d1 q)
    · exact q
    · exact absurd a2 (b1 d2 q)
  rw [e1, e2, this]
theorem gnP_un {fi se wa : Nat → Nat} {m v : Nat} {r r' : Int32} (h : gnP fi se wa m v r) (h' : gnP fi se wa m v r') : r = r' := by
  obtain ⟨B, C, h1, h2, e1⟩ := h
  obtain ⟨B', C', h3, h4, e2⟩ := h'
  rw [e1, e2, bst_sz h1 h3, bst_sz h2 h4]
theorem isWit_un {fi se wa : Nat → Nat} {n m u w u' w' : Nat} (hn : n ≤ 9) (h : isWit fi se wa n m u w) (h' : isWit fi se wa n m u' w') : u = u' ∧ w = w' := by
  obtain ⟨B, h1, l1, o1, a1, b1⟩ := h
  obtain ⟨B', h2, l2, o2, a2, b2⟩ := h'
  rw [bst_sz h2 h1] at o2 a2 b2
  have hp : 2 ^ n ≤ 2 ^ 14 := p2_le (by omega)
  have e1 : u = u' := okey_inj (by omega) (by omega) (Nat.le_antisymm (a1 u' l2 ⟨w', o2⟩) (a2 u l1 ⟨w, o1⟩))
  subst e1
  have := o1.1
  have := o2.1
  exact ⟨rfl, okey_inj (by omega) (by omega) (Nat.le_antisymm (b1 w' o2) (b2 w o1))⟩
/-! factors are the largest fair sets, where there are any -/
theorem nkey_pad {M : Nat → Bool} {m : Nat} (h : ∀ j, m ≤ j → M j = false) (k : Nat) : nkey M (m + k) = nkey M m * 2 ^ k := by
  induction k with
  | zero => simp
  | succ k ih =>
    show 2 * nkey M (m + k) + (M (m + k)).toNat = _
    rw [ih, h (m + k) (by omega), Nat.pow_succ]
    simp
    rw [Nat.mul_comm, Nat.mul_assoc]
theorem hsz_pad {M : Nat → Bool} {m : Nat} (h : ∀ j, m ≤ j → M j = false) (k : Nat) : hsz (m + k) M = hsz m M := by
  induction k with
  | zero => rfl
  | succ k ih =>
    show hsz (m + k) M + (M (m + k)).toNat = _
    rw [ih, h (m + k) (by omega)]; rfl
theorem okey_le {a b m : Nat} (hm : m ≤ 14) (ha : a < 2 ^ m) (hb : b < 2 ^ m) : okey a ≤ okey b ↔ hsz m (bm a) < hsz m (bm b) ∨ (hsz m (bm a) = hsz m (bm b) ∧ nkey (bm b) m ≤ nkey (bm a) m) := by
  have z1 := hsz_pad (M := bm a) (m := m) (fun j hj => bm_ge ha hj) (14 - m)
  have z2 := hsz_pad (M := bm b) (m := m) (fun j hj => bm_ge hb hj) (14 - m)
  have k1 := nkey_pad (M := bm a) (m := m) (fun j hj => bm_ge ha hj) (14 - m)
  have k2 := nkey_pad (M := bm b) (m := m) (fun j hj => bm_ge hb hj) (14 - m)
  rw [show m + (14 - m) = 14 by omega] at z1 z2 k1 k2
  have hp : 0 < 2 ^ (14 - m) := Nat.two_pow_pos _
  have hk : nkey (bm b) 14 ≤ nkey (bm a) 14 ↔ nkey (bm b) m ≤ nkey (bm a) m := by
    rw [k1, k2]
    exact ⟨fun q => Nat.le_of_mul_le_mul_right q hp, fun q => Nat.mul_le_mul_right _ q⟩
  have hnot : okey a ≤ okey b ↔ ¬ okey b < okey a := by omega
  rw [hnot, okey_lt, z1, z2]
  constructor
  · intro q
    rcases Nat.lt_trichotomy (hsz m (bm a)) (hsz m (bm b)) with y | y | y
    · exact Or.inl y
    · exact Or.inr ⟨y, hk.mp (Nat.le_of_not_lt (fun z => q (Or.inr ⟨y.symm, z⟩)))⟩
    · exact absurd (Or.inl y) q
  · rintro (y | ⟨y1, y2⟩) (z | ⟨z1', z2'⟩)
    · omega
    · omega
    · omega
    · have := hk.mpr y2; omega
theorem fac_sum {fi se wa : Nat → Nat} {n m F : Nat} (hfs : hok fi se n m) (h : isFa fi se wa n m F) : 2 * hsz m (bm F) = su wa n := by
  rw [← hdg_hs hfs]; exact su_cg h
theorem fair_sum {fi se wa : Nat → Nat} {n m : Nat} {M : Nat → Bool} (hfs : hok fi se n m) (h : hfa fi se n m wa M) : 2 * hsz m M ≤ su wa n := by
  rw [← hdg_hs hfs]; exact su_le h
theorem fac_best {fi se wa : Nat → Nat} {n m B : Nat} (hn : n ≤ 9) (hm : m ≤ 14) (hfs : hok fi se n m) (hl : B < 2 ^ m) (hB : bst fi se 9 m wa (bm B)) {r : Int32} (hr : (2 * hsz m (bm B) = su wa n ∧ r = nI B) ∨ (2 * hsz m (bm B) ≠ su wa n ∧ r = -1)) : facP fi se wa n m r := by
  have hf := (hfa_9 hn hfs).mp hB.1
  have key : ∀ F, isFa fi se wa n m F → hfa fi se 9 m wa (bm F) ∧ hsz m (bm F) = hsz m (bm B) := by
    intro F hF
    have h1 : hfa fi se 9 m wa (bm F) := (hfa_9 hn hfs).mpr (fun v hv => by rw [hF v hv]; exact Nat.le_refl _)
    refine ⟨h1, Nat.le_antisymm (hB.2.1 _ h1) ?_⟩
    have h2 := fac_sum hfs hF
    have h3 := fair_sum hfs hf
    omega
  rcases hr with ⟨e, er⟩ | ⟨e, er⟩
  · refine Or.inl ⟨B, hl, fun v hv => ?_, fun F hF1 hF2 => ?_, er⟩
    · refine Nat.le_antisymm (hf v hv) (Nat.le_of_not_lt (fun q => ?_))
      have := su_lt (n := n) (k := v) (f := fun v => hdg fi se m (bm B) v) (g := wa) (fun i hi => hf i hi) hv q
      rw [hdg_hs hfs] at this
      omega
    · obtain ⟨k1, k2⟩ := key F hF2
      exact (okey_le hm hl hF1).mpr (Or.inr ⟨k2.symm, hB.2.2 _ k1 k2⟩)
  · refine Or.inr ⟨fun F hF1 hF2 => e ?_, er⟩
    rw [← (key F hF2).2]; exact fac_sum hfs hF2
/-! demands that are less, or more by one -/
theorem hfa_up {x y : Nat → Nat} {P Q : Nat} {c c' : Nat → Nat} {M : Nat → Bool} (h : ∀ v, v < P → c v ≤ c' v) (hM : hfa x y P Q c M) : hfa x y P Q c' M := fun v hv => Nat.le_trans (hM v hv) (h v hv)
theorem rea_up {fi se wa : Nat → Nat} {m v d d' t : Nat} (h : d ≤ d') (hr : rea fi se m (nup wa v d) t) : rea fi se m (nup wa v d') t := by
  obtain ⟨M, h1, h2⟩ := hr
  refine ⟨M, hfa_up (fun u _ => ?_) h1, h2⟩
  unfold nup
  split <;> omega
theorem rea_dn {fi se wa : Nat → Nat} {m v t : Nat} (hfs : hok fi se 9 m) (hr : rea fi se m (nup wa v (wa v + 1)) (t + 1)) : rea fi se m wa t := by
  obtain ⟨M, h1, h2⟩ := hr
  by_cases q : hdg fi se m M v ≤ wa v
  · refine ⟨M, fun u hu => ?_, by omega⟩
    have := h1 u hu
    by_cases z : u = v
    · subst z; exact q
    · rw [nup_n z] at this; exact this
  · -- an edge at v goes
    have hpos : hdg fi se m (fun _ => false) v < hdg fi se m M v := by
      have : hdg fi se m (fun _ => false) v = 0 := su_z (fun j _ => by simp)
      omega
    obtain ⟨j, hj, hMj, _, hjv⟩ := hdg_lt hpos
    refine ⟨bup M j false, fun u hu => ?_, ?_⟩
    · have a1 := hdg_off (x := fi) (y := se) hj hMj u
      have a2 := h1 u hu
      by_cases z : u = v
      · subst z
        rw [nup_s] at a2
        rw [hin_or hjv] at a1
        omega
      · rw [nup_n z] at a2; omega
    · have := hsz_off hj hMj
      omega
theorem gn_is {fi se wa : Nat → Nat} {m v : Nat} {B : Nat → Bool} (hfs : hok fi se 9 m) (hB : bst fi se 9 m wa B) {r : Int32} (hr : (rea fi se m (nup wa v (wa v + 1)) (hsz m B + 1) ∧ r = nI 1) ∨ (¬ rea fi se m (nup wa v (wa v + 1)) (hsz m B + 1) ∧ r = nI 0)) : gnP fi se wa m v r := by
  obtain ⟨B', hB'⟩ := bst_ex fi se 9 m (nup wa v (wa v + 1))
  have lo : hsz m B ≤ hsz m B' := hB'.2.1 B (hfa_up (fun u _ => by unfold nup; split <;> (try subst u) <;> omega) hB.1)
  refine ⟨B, B', hB, hB', ?_⟩
  rcases hr with ⟨⟨M, h1, h2⟩, e⟩ | ⟨h, e⟩
  · have h3 := hB'.2.1 M h1
    have hi : hsz m B' ≤ hsz m B + 1 := by
      refine Nat.le_of_not_lt (fun q => ?_)
      obtain ⟨K, k1, k2⟩ := rea_dn (v := v) hfs (t := hsz m B + 1) ⟨B', hB'.1, by omega⟩
      have := hB.2.1 K k1
      omega
    rw [e, show hsz m B' - hsz m B = 1 by omega]
  · have hi : hsz m B' ≤ hsz m B := Nat.le_of_not_lt (fun q => h ⟨B', hB'.1, by omega⟩)
    rw [e, show hsz m B' - hsz m B = 0 by omega]
end
section
abbrev SrT : Type := Nat × (Nat → Nat) × (Nat → Nat) × (Nat → Int32) × (Nat → Int32) × (Nat → Int32) × Int32 × Int32 × Int32
abbrev BdT : Type := (Nat → Nat) × (Nat → Nat) × (Nat → Nat) × (Nat → Nat) × Int32 × Int32 × Int32
theorem nI_m1 {e : Nat} (h : e < 2 ^ 31) : nI e ≠ -1 := by
  intro q
  have : (-1 : Int32) < 0 := by decide
  rw [← q] at this
  exact nI_pos h this
theorem wo_m1 {m : Nat} (hm : m ≤ 14) : ∀ e, e < m → (nI e = -1 ↔ e = 100) := fun e he => ⟨fun q => absurd q (nI_m1 (by omega)), fun q => by omega⟩
theorem wo_e {m j : Nat} (hm : m ≤ 14) (hj : j < m) : ∀ e, e < m → (nI e = nI j ↔ e = j) := fun e he => nI_eq (by omega) (by omega)
/-- what is known -/
def knS (fi se wa : Nat → Nat) (m : Nat) (so bs bc : Int32) : Prop := so = nI 0 ∨ (so = nI 1 ∧ ∃ B, B < 2 ^ m ∧ bst fi se 9 m wa (bm B) ∧ bs = nI B ∧ bc = nI (hsz m (bm B)))
def knT (fi se wa : Nat → Nat) (n m : Nat) (ta al : Int32) (wt is pt : Nat → Nat) : Prop := ta = nI 0 ∨ (ta = nI 1 ∧ al = nI (2 ^ n - 1) ∧ tabOK fi se wa n m wt is pt)
def knE (fi se wa : Nat → Nat) (n m : Nat) (ex wu ww : Int32) : Prop := ex = nI 0 ∨ (ex = nI 1 ∧ ∃ u w, isWit fi se wa n m u w ∧ wu = nI u ∧ ww = nI w)
set_option maxHeartbeats 4000000 in
set_option maxRecDepth 100000 in
/-- is there a fair set of so many edges, the demand of v being d -/
theorem kF_reachesWith (l : Launch) (D : va_G) (cA : ClassId) (x k h s b1 b2 b3 b4 b5 g a1 a2 a3 o1 o2 o3 o4 o5 : Nat) (N : Nat) (hd tl : Nat → Nat) (TW LF AH : Nat → Int32) (en fs fc : Int32) (n m : Nat) (fi se wa : Nat → Nat) (hG : GOK n m fi se wa) (v d t : Nat) (hv : v < 9) (hd9 : d ≤ 50) (ht : t ≤ 20) : CtI (S := SrT) l yF_reachesWith (.code yF_reachesWith cF_reachesWith 4 (some .boolean)) 21 0 0 D cA [.ref x, .int (nI v), .int (nI d), .int (nI t)] [(x, .inr (4, [.ref g, .ref s, .ref h, .ref k])), (s, .inr (3, [.int (nI N), .ref b1, .ref b2, .ref b3, .ref b4, .ref b5, .int en, .int fs, .int fc])), (b1, .inl (cA, 14, .inl (aN hd))), (b2, .inl (cA, 14, .inl (aN tl))), (b3, .inl (cA, 14, .inl TW)), (b4, .inl (cA, 9, .inl LF)), (b5, .inl (cA, 9, .inl AH)), (g, .inr (2, [.int (nI n), .int (nI m), .ref a1, .ref a2, .ref a3])), (a1, .inl (cA, 14, .inl (aN fi))), (a2, .inl (cA, 14, .inl (aN se))), (a3, .inl (cA, 9, .inl (aN wa)))] (fun r _ => (r = nI 1 ∧ rea fi se m (nup wa v d) t) ∨ (r = nI 0 ∧ ¬ rea fi se m (nup wa v d) t)) (fun u => [(x, .inr (4, [.ref g, .ref s, .ref h, .ref k])), (s, .inr (3, [.int (nI u.1), .ref b1, .ref b2, .ref b3, .ref b4, .ref b5, .int u.2.2.2.2.2.2.1, .int u.2.2.2.2.2.2.2.1, .int u.2.2.2.2.2.2.2.2])), (b1, .inl (cA, 14, .inl (aN u.2.1))), (b2, .inl (cA, 14, .inl (aN u.2.2.1))), (b3, .inl (cA, 14, .inl u.2.2.2.1)), (b4, .inl (cA, 9, .inl u.2.2.2.2.1)), (b5, .inl (cA, 9, .inl u.2.2.2.2.2.1)), (g, .inr (2, [.int (nI n), .int (nI m), .ref a1, .ref a2, .ref a3])), (a1, .inl (cA, 14, .inl (aN fi))), (a2, .inl (cA, 14, .inl (aN se))), (a3, .inl (cA, 9, .inl (aN wa)))]) := by
  refine mkI [(0, .ref x), (1, .int (nI v)), (2, .int (nI d)), (3, .int (nI t))] (by decide) rfl (Nat.le_of_ble_eq_true rfl) ?_
  intro E A Q hE C hA hret
  obtain ⟨g1, g2, g3, g4, g5, g6⟩ := hG
  refine s_aload_n 0 C dF_reachesWith_0 rfl ?_
  refine s_get (.ref s) 0 1 C wfP inF flF_19 dF_reachesWith_1 rfl rfl (by decide) rfl ?_
  refine s_aload_n 0 C dF_reachesWith_4 rfl ?_
  refine s_get (.ref g) 0 0 C wfP inF flF_12 dF_reachesWith_5 rfl rfl (by decide) rfl ?_
  refine s_iconst (-1) C dF_reachesWith_8 (by decide) ?_
  refine s_callV (n := 2) (wr := [(x, .inr (4, [.ref g, .ref s, .ref h, .ref k]))]) [1, 2, 3, 4, 5, 6, 7, 8, 9, 10] [0] 0 [] C hA (kS_load E.2.1 D cA s b1 b2 b3 b4 b5 N hd tl TW LF AH en fs fc g a1 a2 a3 n m fi se wa 100 (-1) g3 (hok_9 g2 g4) (wo_m1 g3)) gF_92 dF_reachesWith_9 (by decide +kernel) rfl rfl (by decide) (by decide) (by decide) rfl rfl rfl (by decide) (by decide) rfl rfl (Nat.le_of_ble_eq_true rfl) (Nat.zero_le _) (Nat.zero_le _) (fun u hu => ?_)
  refine s_sub (ws' := [(x, .inr (4, [.ref g, .ref s, .ref h, .ref k])), (s, .inr (3, [.int (nI (ldN m 100)), .ref b1, .ref b2, .ref b3, .ref b4, .ref b5, .int en, .int fs, .int fc])), (b1, .inl (cA, 14, .inl (aN u.1))), (b2, .inl (cA, 14, .inl (aN u.2.1))), (b3, .inl (cA, 14, .inl u.2.2.1)), (b4, .inl (cA, 9, .inl (aN wa))), (b5, .inl (cA, 9, .inl (aN u.2.2.2))), (g, .inr (2, [.int (nI n), .int (nI m), .ref a1, .ref a2, .ref a3])), (a1, .inl (cA, 14, .inl (aN fi))), (a2, .inl (cA, 14, .inl (aN se))), (a3, .inl (cA, 9, .inl (aN wa)))]) [0, 1, 2, 3, 4, 5, 6, 7, 8, 9, 10] rfl (by decide) ?_
  have eN : ldN m 100 = m := ldN_full (by omega)
  refine s_aload_n 0 C dF_reachesWith_12 rfl ?_
  refine s_get (.ref s) 0 1 C wfP inF flF_19 dF_reachesWith_13 rfl rfl (by decide) rfl ?_
  refine s_get (.ref b4) 1 4 C wfP inS flF_152 dF_reachesWith_16 rfl rfl (by decide) rfl ?_
  refine s_iload_n 1 C dF_reachesWith_19 rfl ?_
  refine s_iload_n 2 C dF_reachesWith_20 rfl ?_
  refine s_iastN 5 [(x, .inr (4, [.ref g, .ref s, .ref h, .ref k])), (s, .inr (3, [.int (nI (ldN m 100)), .ref b1, .ref b2, .ref b3, .ref b4, .ref b5, .int en, .int fs, .int fc])), (b1, .inl (cA, 14, .inl (aN u.1))), (b2, .inl (cA, 14, .inl (aN u.2.1))), (b3, .inl (cA, 14, .inl u.2.2.1)), (b4, .inl (cA, 9, .inl (aN (nup wa v d)))), (b5, .inl (cA, 9, .inl (aN u.2.2.2))), (g, .inr (2, [.int (nI n), .int (nI m), .ref a1, .ref a2, .ref a3])), (a1, .inl (cA, 14, .inl (aN fi))), (a2, .inl (cA, 14, .inl (aN se))), (a3, .inl (cA, 9, .inl (aN wa)))] C dF_reachesWith_21 rfl (by omega) (by decide) rfl ?_
  refine s_aload_n 0 C dF_reachesWith_22 rfl ?_
  refine s_get (.ref s) 0 1 C wfP inF flF_19 dF_reachesWith_23 rfl rfl (by decide) rfl ?_
  refine s_iload_n 3 C dF_reachesWith_26 rfl ?_
  refine s_callI (n := 1) (wr := [(x, .inr (4, [.ref g, .ref s, .ref h, .ref k])), (g, .inr (2, [.int (nI n), .int (nI m), .ref a1, .ref a2, .ref a3])), (a1, .inl (cA, 14, .inl (aN fi))), (a2, .inl (cA, 14, .inl (aN se))), (a3, .inl (cA, 9, .inl (aN wa)))]) [1, 2, 3, 4, 5, 6] [0, 7, 8, 9, 10] 0 [] C hA (kS_reaches E.2.1 D cA s b1 b2 b3 b4 b5 (ldN m 100) u.1 u.2.1 (nup wa v d) u.2.2.2 u.2.2.1 en fs fc t ht (by rw [eN]; exact g3) hu.1 hu.2.1 (fun z hz => by have := g5 z hz; unfold nup; split <;> omega) hu.2.2.2) gF_96 dF_reachesWith_27 (by decide +kernel) rfl rfl (by decide) (by decide) (by decide) rfl rfl rfl (by decide) (by decide) rfl rfl (Nat.le_of_ble_eq_true rfl) (Nat.zero_le _) (Nat.zero_le _) (fun r q hq => ?_)
  refine s_sub (ws' := [(x, .inr (4, [.ref g, .ref s, .ref h, .ref k])), (s, .inr (3, [.int (nI (ldN m 100)), .ref b1, .ref b2, .ref b3, .ref b4, .ref b5, .int (nI t), .int (nI q.1), .int (nI q.2 - 1)])), (b1, .inl (cA, 14, .inl (aN u.1))), (b2, .inl (cA, 14, .inl (aN u.2.1))), (b3, .inl (cA, 14, .inl u.2.2.1)), (b4, .inl (cA, 9, .inl (aN (nup wa v d)))), (b5, .inl (cA, 9, .inl (aN u.2.2.2))), (g, .inr (2, [.int (nI n), .int (nI m), .ref a1, .ref a2, .ref a3])), (a1, .inl (cA, 14, .inl (aN fi))), (a2, .inl (cA, 14, .inl (aN se))), (a3, .inl (cA, 9, .inl (aN wa)))]) [0, 5, 6, 7, 8, 9, 10, 1, 2, 3, 4] rfl (by decide) ?_
  have hiff : (∃ M, hfa u.1 u.2.1 9 (ldN m 100) (nup wa v d) M ∧ t ≤ hsz (ldN m 100) M) ↔ rea fi se m (nup wa v d) t := by
    rw [eN]
    unfold rea
    constructor
    · rintro ⟨M, h1, h2⟩; exact ⟨M, (hfa_hin (ld_full (by omega) hu)).mp h1, h2⟩
    · rintro ⟨M, h1, h2⟩; exact ⟨M, (hfa_hin (ld_full (by omega) hu)).mpr h1, h2⟩
  rw [hiff] at hq
  refine hret _ (ldN m 100, u.1, u.2.1, u.2.2.1, aN (nup wa v d), aN u.2.2.2, nI t, nI q.1, nI q.2 - 1) _ _ dF_reachesWith_30 ?_ hq
  rcases hq with q | q <;> rw [q.1] <;> rfl
set_option maxHeartbeats 4000000 in
set_option maxRecDepth 100000 in
/-- the best set is known -/
theorem kF_solve (l : Launch) (D : va_G) (cA : ClassId) (x k h s b1 b2 b3 b4 b5 g a1 a2 a3 o1 o2 o3 o4 o5 : Nat) (N : Nat) (hd tl : Nat → Nat) (TW LF AH : Nat → Int32) (en fs fc : Int32) (n m : Nat) (fi se wa : Nat → Nat) (so ta ex bs bc wu ww : Int32) (hG : GOK n m fi se wa) (hS : knS fi se wa m so bs bc) : CtV (S := SrT × Int32 × Int32) l yF_solve (.code yF_solve cF_solve 1 none) 21 0 0 D cA [.ref x] [(x, .inr (4, [.ref g, .ref s, .ref h, .ref k])), (s, .inr (3, [.int (nI N), .ref b1, .ref b2, .ref b3, .ref b4, .ref b5, .int en, .int fs, .int fc])), (b1, .inl (cA, 14, .inl (aN hd))), (b2, .inl (cA, 14, .inl (aN tl))), (b3, .inl (cA, 14, .inl TW)), (b4, .inl (cA, 9, .inl LF)), (b5, .inl (cA, 9, .inl AH)), (g, .inr (2, [.int (nI n), .int (nI m), .ref a1, .ref a2, .ref a3])), (a1, .inl (cA, 14, .inl (aN fi))), (a2, .inl (cA, 14, .inl (aN se))), (a3, .inl (cA, 9, .inl (aN wa))), (k, .inr (0, [.int so, .int ta, .int ex, .int bs, .int bc, .int wu, .int ww]))] (fun u => ∃ B, B < 2 ^ m ∧ bst fi se 9 m wa (bm B) ∧ u.2.1 = nI B ∧ u.2.2 = nI (hsz m (bm B))) (fun u => [(x, .inr (4, [.ref g, .ref s, .ref h, .ref k])), (s, .inr (3, [.int (nI u.1.1), .ref b1, .ref b2, .ref b3, .ref b4, .ref b5, .int u.1.2.2.2.2.2.2.1, .int u.1.2.2.2.2.2.2.2.1, .int u.1.2.2.2.2.2.2.2.2])), (b1, .inl (cA, 14, .inl (aN u.1.2.1))), (b2, .inl (cA, 14, .inl (aN u.1.2.2.1))), (b3, .inl (cA, 14, .inl u.1.2.2.2.1)), (b4, .inl (cA, 9, .inl u.1.2.2.2.2.1)), (b5, .inl (cA, 9, .inl u.1.2.2.2.2.2.1)), (g, .inr (2, [.int (nI n), .int (nI m), .ref a1, .ref a2, .ref a3])), (a1, .inl (cA, 14, .inl (aN fi))), (a2, .inl (cA, 14, .inl (aN se))), (a3, .inl (cA, 9, .inl (aN wa))), (k, .inr (0, [.int (nI 1), .int ta, .int ex, .int u.2.1, .int u.2.2, .int wu, .int ww]))]) := by
  refine mkV [(0, .ref x)] (by decide) rfl (Nat.le_of_ble_eq_true rfl) ?_
  intro E A Q hE hi C hA hret
  obtain ⟨g1, g2, g3, g4, g5, g6⟩ := hG
  rcases hS with hS | ⟨hS, B, hB1, hB2, hB3, hB4⟩
  · subst hS
    refine s_aload_n 0 C dF_solve_0 rfl ?_
    refine s_get (.ref k) 0 3 C wfP inF flF_33 dF_solve_1 rfl rfl (by decide) rfl ?_
    refine s_get (.int (nI 0)) 11 0 C wfP inA flF_121 dF_solve_4 rfl rfl (by decide) rfl ?_
    refine s_if_neN 65 C dF_solve_7 (by decide) (by decide) (fun c1 => ?_) (fun c1 => ?_)
    · exact absurd rfl c1
    · refine s_aload_n 0 C dF_solve_10 rfl ?_
      refine s_get (.ref s) 0 1 C wfP inF flF_19 dF_solve_11 rfl rfl (by decide) rfl ?_
      refine s_aload_n 0 C dF_solve_14 rfl ?_
      refine s_get (.ref g) 0 0 C wfP inF flF_12 dF_solve_15 rfl rfl (by decide) rfl ?_
      refine s_iconst (-1) C dF_solve_18 (by decide) ?_
      refine s_callV (n := 2) (wr := [(x, .inr (4, [.ref g, .ref s, .ref h, .ref k])), (k, .inr (0, [.int (nI 0), .int ta, .int ex, .int bs, .int bc, .int wu, .int ww]))]) [1, 2, 3, 4, 5, 6, 7, 8, 9, 10] [0, 11] 0 [] C hA (kS_load E.2.1 D cA s b1 b2 b3 b4 b5 N hd tl TW LF AH en fs fc g a1 a2 a3 n m fi se wa 100 (-1) g3 (hok_9 g2 g4) (wo_m1 g3)) gF_92 dF_solve_19 (by decide +kernel) rfl rfl (by decide) (by decide) (by decide) rfl rfl rfl (by decide) (by decide) rfl rfl (Nat.le_of_ble_eq_true rfl) (Nat.zero_le _) (Nat.zero_le _) (fun u hu => ?_)
      refine s_sub (ws' := [(x, .inr (4, [.ref g, .ref s, .ref h, .ref k])), (s, .inr (3, [.int (nI (ldN m 100)), .ref b1, .ref b2, .ref b3, .ref b4, .ref b5, .int en, .int fs, .int fc])), (b1, .inl (cA, 14, .inl (aN u.1))), (b2, .inl (cA, 14, .inl (aN u.2.1))), (b3, .inl (cA, 14, .inl u.2.2.1)), (b4, .inl (cA, 9, .inl (aN wa))), (b5, .inl (cA, 9, .inl (aN u.2.2.2))), (g, .inr (2, [.int (nI n), .int (nI m), .ref a1, .ref a2, .ref a3])), (a1, .inl (cA, 14, .inl (aN fi))), (a2, .inl (cA, 14, .inl (aN se))), (a3, .inl (cA, 9, .inl (aN wa))), (k, .inr (0, [.int (nI 0), .int ta, .int ex, .int bs, .int bc, .int wu, .int ww]))]) [0, 2, 3, 4, 5, 6, 7, 8, 9, 10, 11, 1] rfl (by decide) ?_
      have eN : ldN m 100 = m := ldN_full (by omega)
      refine s_aload_n 0 C dF_solve_22 rfl ?_
      refine s_get (.ref s) 0 1 C wfP inF flF_19 dF_solve_23 rfl rfl (by decide) rfl ?_
      refine s_callV (n := 0) (wr := [(x, .inr (4, [.ref g, .ref s, .ref h, .ref k])), (g, .inr (2, [.int (nI n), .int (nI m), .ref a1, .ref a2, .ref a3])), (a1, .inl (cA, 14, .inl (aN fi))), (a2, .inl (cA, 14, .inl (aN se))), (a3, .inl (cA, 9, .inl (aN wa))), (k, .inr (0, [.int (nI 0), .int ta, .int ex, .int bs, .int bc, .int wu, .int ww]))]) [1, 2, 3, 4, 5, 6] [0, 7, 8, 9, 10, 11] 0 [] C hA (kS_maximize E.2.1 D cA s b1 b2 b3 b4 b5 (ldN m 100) u.1 u.2.1 wa u.2.2.2 u.2.2.1 en fs fc (by rw [eN]; exact g3) hu.1 hu.2.1 (fun z hz => by have := g5 z hz; omega) hu.2.2.2) gF_125 dF_solve_26 (by decide +kernel) rfl rfl (by decide) (by decide) (by decide) rfl rfl rfl (by decide) (by decide) rfl rfl (Nat.le_of_ble_eq_true rfl) (Nat.zero_le _) (Nat.zero_le _) (fun q hq => ?_)
      refine s_sub (ws' := [(x, .inr (4, [.ref g, .ref s, .ref h, .ref k])), (s, .inr (3, [.int (nI (ldN m 100)), .ref b1, .ref b2, .ref b3, .ref b4, .ref b5, .int (nI (ldN m 100)), .int (nI q.1), .int (nI q.2 - 1)])), (b1, .inl (cA, 14, .inl (aN u.1))), (b2, .inl (cA, 14, .inl (aN u.2.1))), (b3, .inl (cA, 14, .inl u.2.2.1)), (b4, .inl (cA, 9, .inl (aN wa))), (b5, .inl (cA, 9, .inl (aN u.2.2.2))), (g, .inr (2, [.int (nI n), .int (nI m), .ref a1, .ref a2, .ref a3])), (a1, .inl (cA, 14, .inl (aN fi))), (a2, .inl (cA, 14, .inl (aN se))), (a3, .inl (cA, 9, .inl (aN wa))), (k, .inr (0, [.int (nI 0), .int ta, .int ex, .int bs, .int bc, .int wu, .int ww]))]) [0, 6, 7, 8, 9, 10, 11, 1, 2, 3, 4, 5] rfl (by decide) ?_
      refine s_aload_n 0 C dF_solve_29 rfl ?_
      refine s_get (.ref k) 0 3 C wfP inF flF_33 dF_solve_30 rfl rfl (by decide) rfl ?_
      refine s_aload_n 0 C dF_solve_33 rfl ?_
      refine s_get (.ref s) 0 1 C wfP inF flF_19 dF_solve_34 rfl rfl (by decide) rfl ?_
      refine s_get (.int (nI q.1)) 1 7 C wfP inS flF_128 dF_solve_37 rfl rfl (by decide) rfl ?_
      refine s_put 11 3 [(x, .inr (4, [.ref g, .ref s, .ref h, .ref k])), (s, .inr (3, [.int (nI (ldN m 100)), .ref b1, .ref b2, .ref b3, .ref b4, .ref b5, .int (nI (ldN m 100)), .int (nI q.1), .int (nI q.2 - 1)])), (b1, .inl (cA, 14, .inl (aN u.1))), (b2, .inl (cA, 14, .inl (aN u.2.1))), (b3, .inl (cA, 14, .inl u.2.2.1)), (b4, .inl (cA, 9, .inl (aN wa))), (b5, .inl (cA, 9, .inl (aN u.2.2.2))), (g, .inr (2, [.int (nI n), .int (nI m), .ref a1, .ref a2, .ref a3])), (a1, .inl (cA, 14, .inl (aN fi))), (a2, .inl (cA, 14, .inl (aN se))), (a3, .inl (cA, 9, .inl (aN wa))), (k, .inr (0, [.int (nI 0), .int ta, .int ex, .int (nI q.1), .int bc, .int wu, .int ww]))] C inA tyA_ok nmA flF_85 dF_solve_40 rfl rfl (by decide) rfl rfl rfl (Nat.le_of_ble_eq_true rfl) rfl ?_
      refine s_aload_n 0 C dF_solve_43 rfl ?_
      refine s_get (.ref k) 0 3 C wfP inF flF_33 dF_solve_44 rfl rfl (by decide) rfl ?_
      refine s_aload_n 0 C dF_solve_47 rfl ?_
      refine s_get (.ref s) 0 1 C wfP inF flF_19 dF_solve_48 rfl rfl (by decide) rfl ?_
      refine s_get (.int (nI q.2 - 1)) 1 8 C wfP inS flF_131 dF_solve_51 rfl rfl (by decide) rfl ?_
      refine s_put 11 4 [(x, .inr (4, [.ref g, .ref s, .ref h, .ref k])), (s, .inr (3, [.int (nI (ldN m 100)), .ref b1, .ref b2, .ref b3, .ref b4, .ref b5, .int (nI (ldN m 100)), .int (nI q.1), .int (nI q.2 - 1)])), (b1, .inl (cA, 14, .inl (aN u.1))), (b2, .inl (cA, 14, .inl (aN u.2.1))), (b3, .inl (cA, 14, .inl u.2.2.1)), (b4, .inl (cA, 9, .inl (aN wa))), (b5, .inl (cA, 9, .inl (aN u.2.2.2))), (g, .inr (2, [.int (nI n), .int (nI m), .ref a1, .ref a2, .ref a3])), (a1, .inl (cA, 14, .inl (aN fi))), (a2, .inl (cA, 14, .inl (aN se))), (a3, .inl (cA, 9, .inl (aN wa))), (k, .inr (0, [.int (nI 0), .int ta, .int ex, .int (nI q.1), .int (nI q.2 - 1), .int wu, .int ww]))] C inA tyA_ok nmA flF_82 dF_solve_54 rfl rfl (by decide) rfl rfl rfl (Nat.le_of_ble_eq_true rfl) rfl ?_
      refine s_aload_n 0 C dF_solve_57 rfl ?_
      refine s_get (.ref k) 0 3 C wfP inF flF_33 dF_solve_58 rfl rfl (by decide) rfl ?_
      refine s_iconst (nI 1) C dF_solve_61 (by decide) ?_
      refine s_put 11 0 [(x, .inr (4, [.ref g, .ref s, .ref h, .ref k])), (s, .inr (3, [.int (nI (ldN m 100)), .ref b1, .ref b2, .ref b3, .ref b4, .ref b5, .int (nI (ldN m 100)), .int (nI q.1), .int (nI q.2 - 1)])), (b1, .inl (cA, 14, .inl (aN u.1))), (b2, .inl (cA, 14, .inl (aN u.2.1))), (b3, .inl (cA, 14, .inl u.2.2.1)), (b4, .inl (cA, 9, .inl (aN wa))), (b5, .inl (cA, 9, .inl (aN u.2.2.2))), (g, .inr (2, [.int (nI n), .int (nI m), .ref a1, .ref a2, .ref a3])), (a1, .inl (cA, 14, .inl (aN fi))), (a2, .inl (cA, 14, .inl (aN se))), (a3, .inl (cA, 9, .inl (aN wa))), (k, .inr (0, [.int (nI 1), .int ta, .int ex, .int (nI q.1), .int (nI q.2 - 1), .int wu, .int ww]))] C inA tyA_ok nmA flF_121 dF_solve_62 rfl rfl (by decide) rfl rfl rfl (Nat.le_of_ble_eq_true rfl) rfl ?_
      refine hret ((ldN m 100, u.1, u.2.1, u.2.2.1, aN wa, aN u.2.2.2, nI (ldN m 100), nI q.1, nI q.2 - 1), nI q.1, nI q.2 - 1) _ _ dF_solve_65 ?_
      rw [eN] at hq
      obtain ⟨q1, q2, q3⟩ := hq
      refine ⟨q.1, q1, bst_hin (ld_full (by omega) hu) q2, rfl, ?_⟩
      show nI q.2 - 1 = _
      rw [← q3, nI_pred]
  · subst hS
    refine s_aload_n 0 C dF_solve_0 rfl ?_
    refine s_get (.ref k) 0 3 C wfP inF flF_33 dF_solve_1 rfl rfl (by decide) rfl ?_
    refine s_get (.int (nI 1)) 11 0 C wfP inA flF_121 dF_solve_4 rfl rfl (by decide) rfl ?_
    refine s_if_neN 65 C dF_solve_7 (by decide) (by decide) (fun c1 => ?_) (fun c1 => ?_)
    · exact hret ((N, hd, tl, TW, LF, AH, en, fs, fc), bs, bc) _ _ dF_solve_65 ⟨B, hB1, hB2, hB3, hB4⟩
    · exact absurd c1 (by decide)
set_option maxHeartbeats 4000000 in
set_option maxRecDepth 100000 in
/-- the tables are there -/
theorem kF_tabulate (l : Launch) (D : va_G) (cA : ClassId) (x k h s b1 b2 b3 b4 b5 g a1 a2 a3 o1 o2 o3 o4 o5 : Nat) (n m : Nat) (fi se wa : Nat → Nat) (nr wt is pt : Nat → Nat) (al fu fw : Int32) (so ta ex bs bc wu ww : Int32) (hG : GOK n m fi se wa) (hT : knT fi se wa n m ta al wt is pt) (hw0 : wt 0 = 0) : CtV (S := BdT) l yF_tabulate (.code yF_tabulate cF_tabulate 1 none) 21 0 0 D cA [.ref x] [(x, .inr (4, [.ref g, .ref s, .ref h, .ref k])), (g, .inr (2, [.int (nI n), .int (nI m), .ref a1, .ref a2, .ref a3])), (a1, .inl (cA, 14, .inl (aN fi))), (a2, .inl (cA, 14, .inl (aN se))), (a3, .inl (cA, 9, .inl (aN wa))), (h, .inr (1, [.ref o1, .ref o2, .ref o3, .ref o4, .ref o5, .int al, .int fu, .int fw])), (o1, .inl (cA, 512, .inl (aN od))), (o2, .inl (cA, 9, .inl (aN nr))), (o3, .inl (cA, 512, .inl (aN wt))), (o4, .inl (cA, 512, .inl (aN is))), (o5, .inl (cA, 512, .inl (aN pt))), (k, .inr (0, [.int so, .int ta, .int ex, .int bs, .int bc, .int wu, .int ww]))] (fun u => u.2.2.2.2.1 = nI (2 ^ n - 1) ∧ tabOK fi se wa n m u.2.1 u.2.2.1 u.2.2.2.1 ∧ u.2.2.2.2.2 = (fu, fw)) (fun u => [(x, .inr (4, [.ref g, .ref s, .ref h, .ref k])), (g, .inr (2, [.int (nI n), .int (nI m), .ref a1, .ref a2, .ref a3])), (a1, .inl (cA, 14, .inl (aN fi))), (a2, .inl (cA, 14, .inl (aN se))), (a3, .inl (cA, 9, .inl (aN wa))), (h, .inr (1, [.ref o1, .ref o2, .ref o3, .ref o4, .ref o5, .int u.2.2.2.2.1, .int u.2.2.2.2.2.1, .int u.2.2.2.2.2.2])), (o1, .inl (cA, 512, .inl (aN od))), (o2, .inl (cA, 9, .inl (aN u.1))), (o3, .inl (cA, 512, .inl (aN u.2.1))), (o4, .inl (cA, 512, .inl (aN u.2.2.1))), (o5, .inl (cA, 512, .inl (aN u.2.2.2.1))), (k, .inr (0, [.int so, .int (nI 1), .int ex, .int bs, .int bc, .int wu, .int ww]))]) := by
  refine mkV [(0, .ref x)] (by decide) rfl (Nat.le_of_ble_eq_true rfl) ?_
  intro E A Q hE hi C hA hret
  obtain ⟨g1, g2, g3, g4, g5, g6⟩ := hG
  rcases hT with hT | ⟨hT, hT1, hT2⟩
  · subst hT
    refine s_aload_n 0 C dF_tabulate_0 rfl ?_
    refine s_get (.ref k) 0 3 C wfP inF flF_33 dF_tabulate_1 rfl rfl (by decide) rfl ?_
    refine s_get (.int (nI 0)) 11 1 C wfP inA flF_134 dF_tabulate_4 rfl rfl (by decide) rfl ?_
    refine s_if_neN 29 C dF_tabulate_7 (by decide) (by decide) (fun c1 => ?_) (fun c1 => ?_)
    · exact absurd rfl c1
    · refine s_aload_n 0 C dF_tabulate_10 rfl ?_
      refine s_get (.ref h) 0 2 C wfP inF flF_26 dF_tabulate_11 rfl rfl (by decide) rfl ?_
      refine s_aload_n 0 C dF_tabulate_14 rfl ?_
      refine s_get (.ref g) 0 0 C wfP inF flF_12 dF_tabulate_15 rfl rfl (by decide) rfl ?_
      refine s_callV (n := 1) (wr := [(x, .inr (4, [.ref g, .ref s, .ref h, .ref k])), (o1, .inl (cA, 512, .inl (aN od))), (k, .inr (0, [.int so, .int (nI 0), .int ex, .int bs, .int bc, .int wu, .int ww]))]) [5, 7, 8, 9, 10, 1, 2, 3, 4] [0, 6, 11] 0 [] C hA (kB_load E.2.1 D cA h o1 o2 o3 o4 o5 nr wt is pt al fu fw g a1 a2 a3 n m fi se wa g1 g2 g3 g4 g5 hw0) gF_137 dF_tabulate_18 (by decide +kernel) rfl rfl (by decide) (by decide) (by decide) rfl rfl rfl (by decide) (by decide) rfl rfl (Nat.le_of_ble_eq_true rfl) (Nat.zero_le _) (Nat.zero_le _) (fun u hu => ?_)
      refine s_sub (ws' := [(x, .inr (4, [.ref g, .ref s, .ref h, .ref k])), (g, .inr (2, [.int (nI n), .int (nI m), .ref a1, .ref a2, .ref a3])), (a1, .inl (cA, 14, .inl (aN fi))), (a2, .inl (cA, 14, .inl (aN se))), (a3, .inl (cA, 9, .inl (aN wa))), (h, .inr (1, [.ref o1, .ref o2, .ref o3, .ref o4, .ref o5, .int (nI (2 ^ n - 1)), .int fu, .int fw])), (o1, .inl (cA, 512, .inl (aN od))), (o2, .inl (cA, 9, .inl (aN u.1))), (o3, .inl (cA, 512, .inl (aN u.2.1))), (o4, .inl (cA, 512, .inl (aN u.2.2.1))), (o5, .inl (cA, 512, .inl (aN u.2.2.2))), (k, .inr (0, [.int so, .int (nI 0), .int ex, .int bs, .int bc, .int wu, .int ww]))]) [0, 8, 9, 10, 11, 3, 1, 4, 5, 6, 7, 2] rfl (by decide) ?_
      refine s_aload_n 0 C dF_tabulate_21 rfl ?_
      refine s_get (.ref k) 0 3 C wfP inF flF_33 dF_tabulate_22 rfl rfl (by decide) rfl ?_
      refine s_iconst (nI 1) C dF_tabulate_25 (by decide) ?_
      refine s_put 11 1 [(x, .inr (4, [.ref g, .ref s, .ref h, .ref k])), (g, .inr (2, [.int (nI n), .int (nI m), .ref a1, .ref a2, .ref a3])), (a1, .inl (cA, 14, .inl (aN fi))), (a2, .inl (cA, 14, .inl (aN se))), (a3, .inl (cA, 9, .inl (aN wa))), (h, .inr (1, [.ref o1, .ref o2, .ref o3, .ref o4, .ref o5, .int (nI (2 ^ n - 1)), .int fu, .int fw])), (o1, .inl (cA, 512, .inl (aN od))), (o2, .inl (cA, 9, .inl (aN u.1))), (o3, .inl (cA, 512, .inl (aN u.2.1))), (o4, .inl (cA, 512, .inl (aN u.2.2.1))), (o5, .inl (cA, 512, .inl (aN u.2.2.2))), (k, .inr (0, [.int so, .int (nI 1), .int ex, .int bs, .int bc, .int wu, .int ww]))] C inA tyA_ok nmA flF_134 dF_tabulate_26 rfl rfl (by decide) rfl rfl rfl (Nat.le_of_ble_eq_true rfl) rfl ?_
      exact hret (u.1, u.2.1, u.2.2.1, u.2.2.2, nI (2 ^ n - 1), fu, fw) _ _ dF_tabulate_29 ⟨rfl, hu, rfl⟩
  · subst hT
    refine s_aload_n 0 C dF_tabulate_0 rfl ?_
    refine s_get (.ref k) 0 3 C wfP inF flF_33 dF_tabulate_1 rfl rfl (by decide) rfl ?_
    refine s_get (.int (nI 1)) 11 1 C wfP inA flF_134 dF_tabulate_4 rfl rfl (by decide) rfl ?_
    refine s_if_neN 29 C dF_tabulate_7 (by decide) (by decide) (fun c1 => ?_) (fun c1 => ?_)
    · exact hret (nr, wt, is, pt, al, fu, fw) _ _ dF_tabulate_29 ⟨hT1, hT2, rfl⟩
    · exact absurd c1 (by decide)
set_option maxHeartbeats 4000000 in
set_option maxRecDepth 100000 in
/-- the witness is known -/
theorem kF_explain (l : Launch) (D : va_G) (cA : ClassId) (x k h s b1 b2 b3 b4 b5 g a1 a2 a3 o1 o2 o3 o4 o5 : Nat) (N : Nat) (hd tl : Nat → Nat) (TW LF AH : Nat → Int32) (en fs fc : Int32) (n m : Nat) (fi se wa : Nat → Nat) (nr wt is pt : Nat → Nat) (al fu fw : Int32) (so ta ex bs bc wu ww : Int32) (hG : GOK n m fi se wa) (hS : knS fi se wa m so bs bc) (hT : knT fi se wa n m ta al wt is pt) (hE9 : knE fi se wa n m ex wu ww) (hw0 : wt 0 = 0) : CtV (S := SrT × BdT × Int32 × Int32 × Int32 × Int32 × Int32 × Int32) l yF_explain (.code yF_explain cF_explain 1 none) 22 0 0 D cA [.ref x] [(x, .inr (4, [.ref g, .ref s, .ref h, .ref k])), (s, .inr (3, [.int (nI N), .ref b1, .ref b2, .ref b3, .ref b4, .ref b5, .int en, .int fs, .int fc])), (b1, .inl (cA, 14, .inl (aN hd))), (b2, .inl (cA, 14, .inl (aN tl))), (b3, .inl (cA, 14, .inl TW)), (b4, .inl (cA, 9, .inl LF)), (b5, .inl (cA, 9, .inl AH)), (g, .inr (2, [.int (nI n), .int (nI m), .ref a1, .ref a2, .ref a3])), (a1, .inl (cA, 14, .inl (aN fi))), (a2, .inl (cA, 14, .inl (aN se))), (a3, .inl (cA, 9, .inl (aN wa))), (h, .inr (1, [.ref o1, .ref o2, .ref o3, .ref o4, .ref o5, .int al, .int fu, .int fw])), (o1, .inl (cA, 512, .inl (aN od))), (o2, .inl (cA, 9, .inl (aN nr))), (o3, .inl (cA, 512, .inl (aN wt))), (o4, .inl (cA, 512, .inl (aN is))), (o5, .inl (cA, 512, .inl (aN pt))), (k, .inr (0, [.int so, .int ta, .int ex, .int bs, .int bc, .int wu, .int ww]))] (fun u => knS fi se wa m u.2.2.1 u.2.2.2.2.1 u.2.2.2.2.2.1 ∧ knT fi se wa n m u.2.2.2.1 u.2.1.2.2.2.2.1 u.2.1.2.1 u.2.1.2.2.1 u.2.1.2.2.2.1 ∧ u.2.1.2.1 0 = 0 ∧ ∃ a b, isWit fi se wa n m a b ∧ u.2.2.2.2.2.2.1 = nI a ∧ u.2.2.2.2.2.2.2 = nI b) (fun u => [(x, .inr (4, [.ref g, .ref s, .ref h, .ref k])), (s, .inr (3, [.int (nI u.1.1), .ref b1, .ref b2, .ref b3, .ref b4, .ref b5, .int u.1.2.2.2.2.2.2.1, .int u.1.2.2.2.2.2.2.2.1, .int u.1.2.2.2.2.2.2.2.2])), (b1, .inl (cA, 14, .inl (aN u.1.2.1))), (b2, .inl (cA, 14, .inl (aN u.1.2.2.1))), (b3, .inl (cA, 14, .inl u.1.2.2.2.1)), (b4, .inl (cA, 9, .inl u.1.2.2.2.2.1)), (b5, .inl (cA, 9, .inl u.1.2.2.2.2.2.1)), (g, .inr (2, [.int (nI n), .int (nI m), .ref a1, .ref a2, .ref a3])), (a1, .inl (cA, 14, .inl (aN fi))), (a2, .inl (cA, 14, .inl (aN se))), (a3, .inl (cA, 9, .inl (aN wa))), (h, .inr (1, [.ref o1, .ref o2, .ref o3, .ref o4, .ref o5, .int u.2.1.2.2.2.2.1, .int u.2.1.2.2.2.2.2.1, .int u.2.1.2.2.2.2.2.2])), (o1, .inl (cA, 512, .inl (aN od))), (o2, .inl (cA, 9, .inl (aN u.2.1.1))), (o3, .inl (cA, 512, .inl (aN u.2.1.2.1))), (o4, .inl (cA, 512, .inl (aN u.2.1.2.2.1))), (o5, .inl (cA, 512, .inl (aN u.2.1.2.2.2.1))), (k, .inr (0, [.int u.2.2.1, .int u.2.2.2.1, .int (nI 1), .int u.2.2.2.2.1, .int u.2.2.2.2.2.1, .int u.2.2.2.2.2.2.1, .int u.2.2.2.2.2.2.2]))]) := by
  refine mkV [(0, .ref x)] (by decide) rfl (Nat.le_of_ble_eq_true rfl) ?_
  intro E A Q hE hi C hA hret
  have hG0 := hG
  obtain ⟨g1, g2, g3, g4, g5, g6⟩ := hG
  rcases hE9 with h9 | ⟨h9, a, b, h1, h2, h3⟩
  · subst h9
    refine s_aload_n 0 C dF_explain_0 rfl ?_
    refine s_get (.ref k) 0 3 C wfP inF flF_33 dF_explain_1 rfl rfl (by decide) rfl ?_
    refine s_get (.int (nI 0)) 17 2 C wfP inA flF_140 dF_explain_4 rfl rfl (by decide) rfl ?_
    refine s_if_neN 68 C dF_explain_7 (by decide) (by decide) (fun c1 => ?_) (fun c1 => ?_)
    · exact absurd rfl c1
    · refine s_aload_n 0 C dF_explain_10 rfl ?_
      refine s_callV (n := 0) (wr := [(h, .inr (1, [.ref o1, .ref o2, .ref o3, .ref o4, .ref o5, .int al, .int fu, .int fw])), (o1, .inl (cA, 512, .inl (aN od))), (o2, .inl (cA, 9, .inl (aN nr))), (o3, .inl (cA, 512, .inl (aN wt))), (o4, .inl (cA, 512, .inl (aN is))), (o5, .inl (cA, 512, .inl (aN pt)))]) [0, 1, 2, 3, 4, 5, 6, 7, 8, 9, 10, 17] [11, 12, 13, 14, 15, 16] 0 [] C hA (kF_solve E.2.1 D cA x k h s b1 b2 b3 b4 b5 g a1 a2 a3 o1 o2 o3 o4 o5 N hd tl TW LF AH en fs fc n m fi se wa so ta (nI 0) bs bc wu ww hG0 hS) gF_79 dF_explain_11 (by decide +kernel) rfl rfl (by decide) (by decide) (by decide) rfl rfl rfl (by decide) (by decide) rfl rfl (Nat.le_of_ble_eq_true rfl) (Nat.zero_le _) (Nat.zero_le _) (fun u hu => ?_)
      refine s_sub (ws' := [(x, .inr (4, [.ref g, .ref s, .ref h, .ref k])), (s, .inr (3, [.int (nI u.1.1), .ref b1, .ref b2, .ref b3, .ref b4, .ref b5, .int u.1.2.2.2.2.2.2.1, .int u.1.2.2.2.2.2.2.2.1, .int u.1.2.2.2.2.2.2.2.2])), (b1, .inl (cA, 14, .inl (aN u.1.2.1))), (b2, .inl (cA, 14, .inl (aN u.1.2.2.1))), (b3, .inl (cA, 14, .inl u.1.2.2.2.1)), (b4, .inl (cA, 9, .inl u.1.2.2.2.2.1)), (b5, .inl (cA, 9, .inl u.1.2.2.2.2.2.1)), (g, .inr (2, [.int (nI n), .int (nI m), .ref a1, .ref a2, .ref a3])), (a1, .inl (cA, 14, .inl (aN fi))), (a2, .inl (cA, 14, .inl (aN se))), (a3, .inl (cA, 9, .inl (aN wa))), (h, .inr (1, [.ref o1, .ref o2, .ref o3, .ref o4, .ref o5, .int al, .int fu, .int fw])), (o1, .inl (cA, 512, .inl (aN od))), (o2, .inl (cA, 9, .inl (aN nr))), (o3, .inl (cA, 512, .inl (aN wt))), (o4, .inl (cA, 512, .inl (aN is))), (o5, .inl (cA, 512, .inl (aN pt))), (k, .inr (0, [.int (nI 1), .int ta, .int (nI 0), .int u.2.1, .int u.2.2, .int wu, .int ww]))]) [6, 7, 8, 9, 10, 11, 12, 13, 14, 15, 16, 0, 1, 2, 3, 4, 5, 17] rfl (by decide) ?_
      refine s_aload_n 0 C dF_explain_14 rfl ?_
      refine s_callV (n := 0) (wr := [(s, .inr (3, [.int (nI u.1.1), .ref b1, .ref b2, .ref b3, .ref b4, .ref b5, .int u.1.2.2.2.2.2.2.1, .int u.1.2.2.2.2.2.2.2.1, .int u.1.2.2.2.2.2.2.2.2])), (b1, .inl (cA, 14, .inl (aN u.1.2.1))), (b2, .inl (cA, 14, .inl (aN u.1.2.2.1))), (b3, .inl (cA, 14, .inl u.1.2.2.2.1)), (b4, .inl (cA, 9, .inl u.1.2.2.2.2.1)), (b5, .inl (cA, 9, .inl u.1.2.2.2.2.2.1))]) [0, 7, 8, 9, 10, 11, 12, 13, 14, 15, 16, 17] [1, 2, 3, 4, 5, 6] 0 [] C hA (kF_tabulate E.2.1 D cA x k h s b1 b2 b3 b4 b5 g a1 a2 a3 o1 o2 o3 o4 o5 n m fi se wa nr wt is pt al fu fw (nI 1) ta (nI 0) u.2.1 u.2.2 wu ww hG0 hT hw0) gF_106 dF_explain_15 (by decide +kernel) rfl rfl (by decide) (by decide) (by decide) rfl rfl rfl (by decide) (by decide) rfl rfl (Nat.le_of_ble_eq_true rfl) (Nat.zero_le _) (Nat.zero_le _) (fun t ht => ?_)
      refine s_sub (ws' := [(x, .inr (4, [.ref g, .ref s, .ref h, .ref k])), (s, .inr (3, [.int (nI u.1.1), .ref b1, .ref b2, .ref b3, .ref b4, .ref b5, .int u.1.2.2.2.2.2.2.1, .int u.1.2.2.2.2.2.2.2.1, .int u.1.2.2.2.2.2.2.2.2])), (b1, .inl (cA, 14, .inl (aN u.1.2.1))), (b2, .inl (cA, 14, .inl (aN u.1.2.2.1))), (b3, .inl (cA, 14, .inl u.1.2.2.2.1)), (b4, .inl (cA, 9, .inl u.1.2.2.2.2.1)), (b5, .inl (cA, 9, .inl u.1.2.2.2.2.2.1)), (g, .inr (2, [.int (nI n), .int (nI m), .ref a1, .ref a2, .ref a3])), (a1, .inl (cA, 14, .inl (aN fi))), (a2, .inl (cA, 14, .inl (aN se))), (a3, .inl (cA, 9, .inl (aN wa))), (h, .inr (1, [.ref o1, .ref o2, .ref o3, .ref o4, .ref o5, .int t.2.2.2.2.1, .int t.2.2.2.2.2.1, .int t.2.2.2.2.2.2])), (o1, .inl (cA, 512, .inl (aN od))), (o2, .inl (cA, 9, .inl (aN t.1))), (o3, .inl (cA, 512, .inl (aN t.2.1))), (o4, .inl (cA, 512, .inl (aN t.2.2.1))), (o5, .inl (cA, 512, .inl (aN t.2.2.2.1))), (k, .inr (0, [.int (nI 1), .int (nI 1), .int (nI 0), .int u.2.1, .int u.2.2, .int wu, .int ww]))]) [6, 0, 1, 2, 3, 4, 5, 7, 8, 9, 10, 11, 12, 13, 14, 15, 16, 17] rfl (by decide) ?_
      obtain ⟨B, hB1, hB2, hB3, hB4⟩ := hu
      obtain ⟨t1, t2, t3⟩ := ht
      obtain ⟨nr2, wt2, is2, pt2, al2, fu2, fw2⟩ := t
      obtain ⟨sr2, bs2, bc2⟩ := u
      dsimp only at hB3 hB4 t1 t2 t3
      subst hB3
      subst hB4
      subst t1
      refine s_eqw (ws' := [(x, .inr (4, [.ref g, .ref s, .ref h, .ref k])), (s, .inr (3, [.int (nI sr2.1), .ref b1, .ref b2, .ref b3, .ref b4, .ref b5, .int sr2.2.2.2.2.2.2.1, .int sr2.2.2.2.2.2.2.2.1, .int sr2.2.2.2.2.2.2.2.2])), (b1, .inl (cA, 14, .inl (aN sr2.2.1))), (b2, .inl (cA, 14, .inl (aN sr2.2.2.1))), (b3, .inl (cA, 14, .inl sr2.2.2.2.1)), (b4, .inl (cA, 9, .inl sr2.2.2.2.2.1)), (b5, .inl (cA, 9, .inl sr2.2.2.2.2.2.1)), (g, .inr (2, [.int (nI n), .int (nI m), .ref a1, .ref a2, .ref a3])), (a1, .inl (cA, 14, .inl (aN fi))), (a2, .inl (cA, 14, .inl (aN se))), (a3, .inl (cA, 9, .inl (aN wa))), (h, .inr (1, [.ref o1, .ref o2, .ref o3, .ref o4, .ref o5, .int (nI (2 ^ n - 1)), .int fu2, .int fw2])), (o1, .inl (cA, 512, .inl (aN od))), (o2, .inl (cA, 9, .inl (aN nr2))), (o3, .inl (cA, 512, .inl (aN wt2))), (o4, .inl (cA, 512, .inl (aN is2))), (o5, .inl (cA, 512, .inl (aN pt2))), (k, .inr (0, [.int (nI 1), .int (nI 1), .int (nI 0), .int (nI B), .int (nI (hsz m (bm B))), .int wu, .int ww]))]) rfl ?_
      have hmx9 : hmx fi se n m wa (bm B) := ⟨(hfa_9 g2 g4).mp hB2.1, fun K hK => hB2.2.1 K ((hfa_9 g2 g4).mpr hK)⟩
      obtain ⟨u0, w0, e1, e2, e3, e4⟩ := bnd_ex wa g2 g4 hmx9
      have hzm := hsz_le m (bm B)
      have hex : ∃ u w, u < 2 ^ n ∧ okW fi se n m wa (hsz m (bm B)) u w := ⟨u0, w0, e1, e2, e3, e4⟩
      refine s_aload_n 0 C dF_explain_18 rfl ?_
      refine s_get (.ref h) 0 2 C wfP inF flF_26 dF_explain_19 rfl rfl (by decide) rfl ?_
      refine s_aload_n 0 C dF_explain_22 rfl ?_
      refine s_get (.ref k) 0 3 C wfP inF flF_33 dF_explain_23 rfl rfl (by decide) rfl ?_
      refine s_get (.int (nI (hsz m (bm B)))) 17 4 C wfP inA flF_82 dF_explain_26 rfl rfl (by decide) rfl ?_
      refine s_callV (n := 1) (wr := [(x, .inr (4, [.ref g, .ref s, .ref h, .ref k])), (s, .inr (3, [.int (nI sr2.1), .ref b1, .ref b2, .ref b3, .ref b4, .ref b5, .int sr2.2.2.2.2.2.2.1, .int sr2.2.2.2.2.2.2.2.1, .int sr2.2.2.2.2.2.2.2.2])), (b1, .inl (cA, 14, .inl (aN sr2.2.1))), (b2, .inl (cA, 14, .inl (aN sr2.2.2.1))), (b3, .inl (cA, 14, .inl sr2.2.2.2.1)), (b4, .inl (cA, 9, .inl sr2.2.2.2.2.1)), (b5, .inl (cA, 9, .inl sr2.2.2.2.2.2.1)), (g, .inr (2, [.int (nI n), .int (nI m), .ref a1, .ref a2, .ref a3])), (a1, .inl (cA, 14, .inl (aN fi))), (a2, .inl (cA, 14, .inl (aN se))), (a3, .inl (cA, 9, .inl (aN wa))), (o2, .inl (cA, 9, .inl (aN nr2))), (k, .inr (0, [.int (nI 1), .int (nI 1), .int (nI 0), .int (nI B), .int (nI (hsz m (bm B))), .int wu, .int ww]))]) [11, 12, 14, 15, 16] [0, 1, 2, 3, 4, 5, 6, 7, 8, 9, 10, 13, 17] 0 [] C hA (kB_find E.2.1 D cA h o1 o2 o3 o4 o5 wt2 is2 pt2 fu2 fw2 n m fi se wa g2 g3 g4 g5 t2 (hsz m (bm B)) (by omega) hex) gF_143 dF_explain_29 (by decide +kernel) rfl rfl (by decide) (by decide) (by decide) rfl rfl rfl (by decide) (by decide) rfl rfl (Nat.le_of_ble_eq_true rfl) (Nat.zero_le _) (Nat.zero_le _) (fun y hy => ?_)
      refine s_sub (ws' := [(x, .inr (4, [.ref g, .ref s, .ref h, .ref k])), (s, .inr (3, [.int (nI sr2.1), .ref b1, .ref b2, .ref b3, .ref b4, .ref b5, .int sr2.2.2.2.2.2.2.1, .int sr2.2.2.2.2.2.2.2.1, .int sr2.2.2.2.2.2.2.2.2])), (b1, .inl (cA, 14, .inl (aN sr2.2.1))), (b2, .inl (cA, 14, .inl (aN sr2.2.2.1))), (b3, .inl (cA, 14, .inl sr2.2.2.2.1)), (b4, .inl (cA, 9, .inl sr2.2.2.2.2.1)), (b5, .inl (cA, 9, .inl sr2.2.2.2.2.2.1)), (g, .inr (2, [.int (nI n), .int (nI m), .ref a1, .ref a2, .ref a3])), (a1, .inl (cA, 14, .inl (aN fi))), (a2, .inl (cA, 14, .inl (aN se))), (a3, .inl (cA, 9, .inl (aN wa))), (h, .inr (1, [.ref o1, .ref o2, .ref o3, .ref o4, .ref o5, .int (nI (2 ^ n - 1)), .int y.1, .int y.2])), (o1, .inl (cA, 512, .inl (aN od))), (o2, .inl (cA, 9, .inl (aN nr2))), (o3, .inl (cA, 512, .inl (aN wt2))), (o4, .inl (cA, 512, .inl (aN is2))), (o5, .inl (cA, 512, .inl (aN pt2))), (k, .inr (0, [.int (nI 1), .int (nI 1), .int (nI 0), .int (nI B), .int (nI (hsz m (bm B))), .int wu, .int ww]))]) [0, 1, 2, 3, 4, 5, 6, 7, 8, 9, 10, 13, 14, 11, 15, 16, 17, 12] rfl (by decide) ?_
      refine s_aload_n 0 C dF_explain_32 rfl ?_
      refine s_get (.ref k) 0 3 C wfP inF flF_33 dF_explain_33 rfl rfl (by decide) rfl ?_
      refine s_aload_n 0 C dF_explain_36 rfl ?_
      refine s_get (.ref h) 0 2 C wfP inF flF_26 dF_explain_37 rfl rfl (by decide) rfl ?_
      refine s_get (.int y.1) 11 6 C wfP inB flF_146 dF_explain_40 rfl rfl (by decide) rfl ?_
      refine s_put 17 5 [(x, .inr (4, [.ref g, .ref s, .ref h, .ref k])), (s, .inr (3, [.int (nI sr2.1), .ref b1, .ref b2, .ref b3, .ref b4, .ref b5, .int sr2.2.2.2.2.2.2.1, .int sr2.2.2.2.2.2.2.2.1, .int sr2.2.2.2.2.2.2.2.2])), (b1, .inl (cA, 14, .inl (aN sr2.2.1))), (b2, .inl (cA, 14, .inl (aN sr2.2.2.1))), (b3, .inl (cA, 14, .inl sr2.2.2.2.1)), (b4, .inl (cA, 9, .inl sr2.2.2.2.2.1)), (b5, .inl (cA, 9, .inl sr2.2.2.2.2.2.1)), (g, .inr (2, [.int (nI n), .int (nI m), .ref a1, .ref a2, .ref a3])), (a1, .inl (cA, 14, .inl (aN fi))), (a2, .inl (cA, 14, .inl (aN se))), (a3, .inl (cA, 9, .inl (aN wa))), (h, .inr (1, [.ref o1, .ref o2, .ref o3, .ref o4, .ref o5, .int (nI (2 ^ n - 1)), .int y.1, .int y.2])), (o1, .inl (cA, 512, .inl (aN od))), (o2, .inl (cA, 9, .inl (aN nr2))), (o3, .inl (cA, 512, .inl (aN wt2))), (o4, .inl (cA, 512, .inl (aN is2))), (o5, .inl (cA, 512, .inl (aN pt2))), (k, .inr (0, [.int (nI 1), .int (nI 1), .int (nI 0), .int (nI B), .int (nI (hsz m (bm B))), .int y.1, .int ww]))] C inA tyA_ok nmA flF_115 dF_explain_43 rfl rfl (by decide) rfl rfl rfl (Nat.le_of_ble_eq_true rfl) rfl ?_
      refine s_aload_n 0 C dF_explain_46 rfl ?_
      refine s_get (.ref k) 0 3 C wfP inF flF_33 dF_explain_47 rfl rfl (by decide) rfl ?_
      refine s_aload_n 0 C dF_explain_50 rfl ?_
      refine s_get (.ref h) 0 2 C wfP inF flF_26 dF_explain_51 rfl rfl (by decide) rfl ?_
      refine s_get (.int y.2) 11 7 C wfP inB flF_149 dF_explain_54 rfl rfl (by decide) rfl ?_
      refine s_put 17 6 [(x, .inr (4, [.ref g, .ref s, .ref h, .ref k])), (s, .inr (3, [.int (nI sr2.1), .ref b1, .ref b2, .ref b3, .ref b4, .ref b5, .int sr2.2.2.2.2.2.2.1, .int sr2.2.2.2.2.2.2.2.1, .int sr2.2.2.2.2.2.2.2.2])), (b1, .inl (cA, 14, .inl (aN sr2.2.1))), (b2, .inl (cA, 14, .inl (aN sr2.2.2.1))), (b3, .inl (cA, 14, .inl sr2.2.2.2.1)), (b4, .inl (cA, 9, .inl sr2.2.2.2.2.1)), (b5, .inl (cA, 9, .inl sr2.2.2.2.2.2.1)), (g, .inr (2, [.int (nI n), .int (nI m), .ref a1, .ref a2, .ref a3])), (a1, .inl (cA, 14, .inl (aN fi))), (a2, .inl (cA, 14, .inl (aN se))), (a3, .inl (cA, 9, .inl (aN wa))), (h, .inr (1, [.ref o1, .ref o2, .ref o3, .ref o4, .ref o5, .int (nI (2 ^ n - 1)), .int y.1, .int y.2])), (o1, .inl (cA, 512, .inl (aN od))), (o2, .inl (cA, 9, .inl (aN nr2))), (o3, .inl (cA, 512, .inl (aN wt2))), (o4, .inl (cA, 512, .inl (aN is2))), (o5, .inl (cA, 512, .inl (aN pt2))), (k, .inr (0, [.int (nI 1), .int (nI 1), .int (nI 0), .int (nI B), .int (nI (hsz m (bm B))), .int y.1, .int y.2]))] C inA tyA_ok nmA flF_118 dF_explain_57 rfl rfl (by decide) rfl rfl rfl (Nat.le_of_ble_eq_true rfl) rfl ?_
      refine s_aload_n 0 C dF_explain_60 rfl ?_
      refine s_get (.ref k) 0 3 C wfP inF flF_33 dF_explain_61 rfl rfl (by decide) rfl ?_
      refine s_iconst (nI 1) C dF_explain_64 (by decide) ?_
      refine s_put 17 2 [(x, .inr (4, [.ref g, .ref s, .ref h, .ref k])), (s, .inr (3, [.int (nI sr2.1), .ref b1, .ref b2, .ref b3, .ref b4, .ref b5, .int sr2.2.2.2.2.2.2.1, .int sr2.2.2.2.2.2.2.2.1, .int sr2.2.2.2.2.2.2.2.2])), (b1, .inl (cA, 14, .inl (aN sr2.2.1))), (b2, .inl (cA, 14, .inl (aN sr2.2.2.1))), (b3, .inl (cA, 14, .inl sr2.2.2.2.1)), (b4, .inl (cA, 9, .inl sr2.2.2.2.2.1)), (b5, .inl (cA, 9, .inl sr2.2.2.2.2.2.1)), (g, .inr (2, [.int (nI n), .int (nI m), .ref a1, .ref a2, .ref a3])), (a1, .inl (cA, 14, .inl (aN fi))), (a2, .inl (cA, 14, .inl (aN se))), (a3, .inl (cA, 9, .inl (aN wa))), (h, .inr (1, [.ref o1, .ref o2, .ref o3, .ref o4, .ref o5, .int (nI (2 ^ n - 1)), .int y.1, .int y.2])), (o1, .inl (cA, 512, .inl (aN od))), (o2, .inl (cA, 9, .inl (aN nr2))), (o3, .inl (cA, 512, .inl (aN wt2))), (o4, .inl (cA, 512, .inl (aN is2))), (o5, .inl (cA, 512, .inl (aN pt2))), (k, .inr (0, [.int (nI 1), .int (nI 1), .int (nI 1), .int (nI B), .int (nI (hsz m (bm B))), .int y.1, .int y.2]))] C inA tyA_ok nmA flF_140 dF_explain_65 rfl rfl (by decide) rfl rfl rfl (Nat.le_of_ble_eq_true rfl) rfl ?_
      obtain ⟨i, j, hi, hj, y1, y2, y3, y4, y5⟩ := hy
      subst y5
      refine hret (sr2, (nr2, wt2, is2, pt2, nI (2 ^ n - 1), nI (od i), nI (od j)), nI 1, nI 1, nI B, nI (hsz m (bm B)), nI (od i), nI (od j)) _ _ dF_explain_68 ⟨Or.inr ⟨rfl, B, hB1, hB2, rfl, rfl⟩, Or.inr ⟨rfl, rfl, t2⟩, ?_, od i, od j, ⟨bm B, hB2, y1, y2, ?_, ?_⟩, rfl, rfl⟩
      · show wt2 0 = 0
        rw [t2.1 0 (Nat.two_pow_pos n), wsum_0]
      · intro u' hu' hw'
        have h2n : 2 ^ n ≤ 512 := p2_le (k := 9) g2
        obtain ⟨p1, p2⟩ := od_in u' (by omega)
        refine Nat.le_of_not_lt (fun q => ?_)
        rw [← p2] at q
        have hlt : ps u' < i := Nat.lt_of_not_le (fun z => by
          rcases Nat.lt_or_ge i (ps u') with y | y
          · have := od_mono y p1; omega
          · have e0 : i = ps u' := by omega
            rw [e0] at q; omega)
        exact y3 (ps u') hlt ⟨by rw [p2]; exact hu', by rw [p2]; exact hw'⟩
      · intro w' hw'
        have h2n : 2 ^ n ≤ 512 := p2_le (k := 9) g2
        have hw1 := hw'.1
        obtain ⟨p1, p2⟩ := od_in w' (by omega)
        refine Nat.le_of_not_lt (fun q => ?_)
        rw [← p2] at q
        have hlt : ps w' < j := Nat.lt_of_not_le (fun z => by
          rcases Nat.lt_or_ge j (ps w') with y | y
          · have := od_mono y p1; omega
          · have e0 : j = ps w' := by omega
            rw [e0] at q; omega)
        exact y4 (ps w') hlt (by rw [p2]; exact hw')
  · subst h9
    refine s_aload_n 0 C dF_explain_0 rfl ?_
    refine s_get (.ref k) 0 3 C wfP inF flF_33 dF_explain_1 rfl rfl (by decide) rfl ?_
    refine s_get (.int (nI 1)) 17 2 C wfP inA flF_140 dF_explain_4 rfl rfl (by decide) rfl ?_
    refine s_if_neN 68 C dF_explain_7 (by decide) (by decide) (fun c1 => ?_) (fun c1 => ?_)
    · exact hret ((N, hd, tl, TW, LF, AH, en, fs, fc), (nr, wt, is, pt, al, fu, fw), so, ta, bs, bc, wu, ww) _ _ dF_explain_68 ⟨hS, hT, hw0, a, b, h1, h2, h3⟩
    · exact absurd c1 (by decide)
end
section
abbrev GrT : Type := Nat × Nat × (Nat → Nat) × (Nat → Nat) × (Nat → Nat)
abbrev AnT : Type := Int32 × Int32 × Int32 × Int32 × Int32 × Int32 × Int32
theorem rng_yes {t : Int32} {a b : Nat} (ha : a < 2 ^ 31) (hb : b < 2 ^ 31) (h1 : ¬ t < nI a) (h2 : t ≤ nI b) : ∃ j, a ≤ j ∧ j ≤ b ∧ t = nI j := by
  rw [Int32.lt_iff_toInt_lt, nI_toInt ha] at h1
  rw [Int32.le_iff_toInt_le, nI_toInt hb] at h2
  obtain ⟨j, hj, e⟩ := nI_of (x := t) (by rw [Int32.lt_iff_toInt_lt, Int32.toInt_zero]; omega)
  rw [e, nI_toInt hj] at h1 h2
  exact ⟨j, by omega, by omega, e⟩
theorem rng_no1 {t : Int32} {a b : Nat} (hb : b < 2 ^ 31) (ha : a < 2 ^ 31) (h1 : t < nI a) : ¬ ∃ j, a ≤ j ∧ j ≤ b ∧ t = nI j := by
  rintro ⟨j, h2, h3, rfl⟩
  have := (nI_ltI (by omega) ha).mp h1
  omega
theorem rng_no2 {t : Int32} {a b : Nat} (hb : b < 2 ^ 31) (h1 : ¬ t ≤ nI b) : ¬ ∃ j, a ≤ j ∧ j ≤ b ∧ t = nI j := by
  rintro ⟨j, h2, h3, rfl⟩
  exact h1 ((nI_leI (by omega) hb).mpr h3)
theorem inR_un {i j n : Nat} (hn : n < 2 ^ 31) (hi : i < n) (hj : j < n) (h : nI i = nI j) : i = j := (nI_eq (by omega) (by omega)).mp h
/-! what a call does to the graph, and its answer -/
def begP (t r : Int32) (s s' : GrT) : Prop := (∃ j, 1 ≤ j ∧ j ≤ 9 ∧ t = nI j ∧ r = nI 1 ∧ s' = (j, 0, s.2.2.1, s.2.2.2.1, fun _ => 0)) ∨ ((¬ ∃ j, 1 ≤ j ∧ j ≤ 9 ∧ t = nI j) ∧ r = nI 0 ∧ s' = s)
def edgP (a b r : Int32) (s s' : GrT) : Prop := (∃ i j, i < s.1 ∧ j < s.1 ∧ i ≠ j ∧ s.2.1 < 14 ∧ a = nI i ∧ b = nI j ∧ r = nI s.2.1 ∧ s' = (s.1, s.2.1 + 1, nup s.2.2.1 s.2.1 i, nup s.2.2.2.1 s.2.1 j, s.2.2.2.2)) ∨ (¬ (s.2.1 < 14 ∧ inR a s.1 ∧ inR b s.1 ∧ a ≠ b) ∧ r = -1 ∧ s' = s)
def rmF (f : Nat → Nat) (t m : Nat) : Nat → Nat := fun j => if t ≤ j ∧ j < m - 1 then f (j + 1) else f j
def drpP (e r : Int32) (s s' : GrT) : Prop := (∃ t, t < s.2.1 ∧ e = nI t ∧ r = nI 1 ∧ s' = (s.1, s.2.1 - 1, rmF s.2.2.1 t s.2.1, rmF s.2.2.2.1 t s.2.1, s.2.2.2.2)) ∨ (¬ inR e s.2.1 ∧ r = nI 0 ∧ s' = s)
def askP (v d r : Int32) (s s' : GrT) : Prop := (∃ i j, i < s.1 ∧ j ≤ 14 ∧ v = nI i ∧ d = nI j ∧ r = nI 1 ∧ s' = (s.1, s.2.1, s.2.2.1, s.2.2.2.1, nup s.2.2.2.2 i j)) ∨ (¬ (inR v s.1 ∧ inR d 15) ∧ r = nI 0 ∧ s' = s)
def endP (e w r : Int32) (m : Nat) (fi se : Nat → Nat) : Prop := (∃ j, j < m ∧ e = nI j ∧ ((w = nI 0 ∧ r = nI (fi j)) ∨ (w = nI 1 ∧ r = nI (se j)))) ∨ (¬ (inR e m ∧ inR w 2) ∧ r = -1)
def demP (v r : Int32) (n : Nat) (wa : Nat → Nat) : Prop := (∃ j, j < n ∧ v = nI j ∧ r = nI (wa j)) ∨ (¬ inR v n ∧ r = -1)
def judP (x r : Int32) (n m : Nat) (fi se wa : Nat → Nat) : Prop := (∃ s, s < 2 ^ m ∧ x = nI s ∧ ((isFa fi se wa n m s ∧ r = nI 2) ∨ (¬ isFa fi se wa n m s ∧ hfa fi se n m wa (bm s) ∧ r = nI 1) ∨ (¬ hfa fi se n m wa (bm s) ∧ r = nI 0))) ∨ (¬ inR x (2 ^ m) ∧ r = -1)
set_option maxHeartbeats 4000000 in
set_option maxRecDepth 100000 in
/-- begin -/
theorem kF_begin (l : Launch) (D : va_G) (cA : ClassId) (x k h s b1 b2 b3 b4 b5 g a1 a2 a3 o1 o2 o3 o4 o5 : Nat) (n m : Nat) (fi se wa : Nat → Nat) (so ta ex bs bc wu ww : Int32) (t : Int32) : CtI (S := GrT × AnT) l yF_begin (.code yF_begin cF_begin 2 (some .boolean)) 23 0 0 D cA [.ref x, .int t] [(x, .inr (4, [.ref g, .ref s, .ref h, .ref k])), (g, .inr (2, [.int (nI n), .int (nI m), .ref a1, .ref a2, .ref a3])), (a1, .inl (cA, 14, .inl (aN fi))), (a2, .inl (cA, 14, .inl (aN se))), (a3, .inl (cA, 9, .inl (aN wa))), (k, .inr (0, [.int so, .int ta, .int ex, .int bs, .int bc, .int wu, .int ww]))] (fun r u => begP t r (n, m, fi, se, wa) u.1 ∧ ((u.2 = (so, ta, ex, bs, bc, wu, ww) ∧ u.1 = (n, m, fi, se, wa)) ∨ u.2 = (nI 0, nI 0, nI 0, bs, bc, wu, ww))) (fun u => [(x, .inr (4, [.ref g, .ref s, .ref h, .ref k])), (g, .inr (2, [.int (nI u.1.1), .int (nI u.1.2.1), .ref a1, .ref a2, .ref a3])), (a1, .inl (cA, 14, .inl (aN u.1.2.2.1))), (a2, .inl (cA, 14, .inl (aN u.1.2.2.2.1))), (a3, .inl (cA, 9, .inl (aN u.1.2.2.2.2))), (k, .inr (0, [.int u.2.1, .int u.2.2.1, .int u.2.2.2.1, .int u.2.2.2.2.1, .int u.2.2.2.2.2.1, .int u.2.2.2.2.2.2.1, .int u.2.2.2.2.2.2.2]))]) := by
  refine mkI [(0, .ref x), (1, .int t)] (by decide) rfl (Nat.le_of_ble_eq_true rfl) ?_
  intro E A Q hE C hA hret
  refine s_iload_n 1 C dF_begin_0 rfl ?_
  refine s_iconst (nI 1) C dF_begin_1 (by decide) ?_
  refine s_icmp_lt 11 C dF_begin_2 (by decide) (fun c1 => ?_) (fun c1 => ?_)
  · refine s_iconst (nI 0) C dF_begin_11 (by decide) ?_
    exact hret _ ((n, m, fi, se, wa), (so, ta, ex, bs, bc, wu, ww)) _ _ dF_begin_12 rfl ⟨Or.inr ⟨rng_no1 (by decide) (by decide) c1, rfl, rfl⟩, Or.inl ⟨rfl, rfl⟩⟩
  · refine s_iload_n 1 C dF_begin_5 rfl ?_
    refine s_bipush (nI 9) C dF_begin_6 (by decide) ?_
    refine s_icmp_le 13 C dF_begin_8 (by decide) (fun c2 => ?_) (fun c2 => ?_)
    · obtain ⟨kk, h1, h2, rfl⟩ := rng_yes (by decide) (by decide) c1 c2
      refine s_aload_n 0 C dF_begin_13 rfl ?_
      refine s_get (.ref g) 0 0 C wfP inF flF_12 dF_begin_14 rfl rfl (by decide) rfl ?_
      refine s_iload_n 1 C dF_begin_17 rfl ?_
      refine s_callV (n := 1) (wr := [(x, .inr (4, [.ref g, .ref s, .ref h, .ref k])), (a1, .inl (cA, 14, .inl (aN fi))), (a2, .inl (cA, 14, .inl (aN se))), (k, .inr (0, [.int so, .int ta, .int ex, .int bs, .int bc, .int wu, .int ww]))]) [1, 4] [0, 2, 3, 5] 0 [] C hA (kG_clear E.2.1 D cA g a1 a2 a3 n m kk wa) gF_37 dF_begin_18 (by decide +kernel) rfl rfl (by decide) (by decide) (by decide) rfl rfl rfl (by decide) (by decide) rfl rfl (Nat.le_of_ble_eq_true rfl) (Nat.zero_le _) (Nat.zero_le _) (fun u8 h8 => ?_)
      refine s_sub (ws' := [(x, .inr (4, [.ref g, .ref s, .ref h, .ref k])), (g, .inr (2, [.int (nI kk), .int (nI 0), .ref a1, .ref a2, .ref a3])), (a1, .inl (cA, 14, .inl (aN fi))), (a2, .inl (cA, 14, .inl (aN se))), (a3, .inl (cA, 9, .inl (aN (fun _ => 0)))), (k, .inr (0, [.int so, .int ta, .int ex, .int bs, .int bc, .int wu, .int ww]))]) [0, 4, 1, 2, 5, 3] rfl (by decide) ?_
      refine s_aload_n 0 C dF_begin_21 rfl ?_
      refine s_get (.ref k) 0 3 C wfP inF flF_33 dF_begin_22 rfl rfl (by decide) rfl ?_
      refine s_callV (n := 0) (wr := [(x, .inr (4, [.ref g, .ref s, .ref h, .ref k])), (g, .inr (2, [.int (nI kk), .int (nI 0), .ref a1, .ref a2, .ref a3])), (a1, .inl (cA, 14, .inl (aN fi))), (a2, .inl (cA, 14, .inl (aN se))), (a3, .inl (cA, 9, .inl (aN (fun _ => 0))))]) [5] [0, 1, 2, 3, 4] 0 [] C hA (kA_forget E.2.1 D cA k so ta ex bs bc wu ww) gF_41 dF_begin_25 (by decide +kernel) rfl rfl (by decide) (by decide) (by decide) rfl rfl rfl (by decide) (by decide) rfl rfl (Nat.le_of_ble_eq_true rfl) (Nat.zero_le _) (Nat.zero_le _) (fun u9 h9 => ?_)
      refine s_sub (ws' := [(x, .inr (4, [.ref g, .ref s, .ref h, .ref k])), (g, .inr (2, [.int (nI kk), .int (nI 0), .ref a1, .ref a2, .ref a3])), (a1, .inl (cA, 14, .inl (aN fi))), (a2, .inl (cA, 14, .inl (aN se))), (a3, .inl (cA, 9, .inl (aN (fun _ => 0)))), (k, .inr (0, [.int (nI 0), .int (nI 0), .int (nI 0), .int bs, .int bc, .int wu, .int ww]))]) [0, 1, 2, 3, 4, 5] rfl (by decide) ?_
      refine s_iconst (nI 1) C dF_begin_28 (by decide) ?_
      exact hret _ ((kk, 0, fi, se, fun _ => 0), (nI 0, nI 0, nI 0, bs, bc, wu, ww)) _ _ dF_begin_29 rfl ⟨Or.inl ⟨kk, h1, h2, rfl, rfl, rfl⟩, Or.inr rfl⟩
    · refine s_iconst (nI 0) C dF_begin_11 (by decide) ?_
      exact hret _ ((n, m, fi, se, wa), (so, ta, ex, bs, bc, wu, ww)) _ _ dF_begin_12 rfl ⟨Or.inr ⟨rng_no2 (by decide) c2, rfl, rfl⟩, Or.inl ⟨rfl, rfl⟩⟩
set_option maxHeartbeats 4000000 in
set_option maxRecDepth 100000 in
/-- edge -/
theorem kF_edge (l : Launch) (D : va_G) (cA : ClassId) (x k h s b1 b2 b3 b4 b5 g a1 a2 a3 o1 o2 o3 o4 o5 : Nat) (n m : Nat) (fi se wa : Nat → Nat) (so ta ex bs bc wu ww : Int32) (hG : GOK n m fi se wa) (p q : Int32) : CtI (S := GrT × AnT) l yF_edge (.code yF_edge cF_edge 3 (some .int)) 23 0 0 D cA [.ref x, .int p, .int q] [(x, .inr (4, [.ref g, .ref s, .ref h, .ref k])), (g, .inr (2, [.int (nI n), .int (nI m), .ref a1, .ref a2, .ref a3])), (a1, .inl (cA, 14, .inl (aN fi))), (a2, .inl (cA, 14, .inl (aN se))), (a3, .inl (cA, 9, .inl (aN wa))), (k, .inr (0, [.int so, .int ta, .int ex, .int bs, .int bc, .int wu, .int ww]))] (fun r u => edgP p q r (n, m, fi, se, wa) u.1 ∧ ((u.2 = (so, ta, ex, bs, bc, wu, ww) ∧ u.1 = (n, m, fi, se, wa)) ∨ u.2 = (nI 0, nI 0, nI 0, bs, bc, wu, ww))) (fun u => [(x, .inr (4, [.ref g, .ref s, .ref h, .ref k])), (g, .inr (2, [.int (nI u.1.1), .int (nI u.1.2.1), .ref a1, .ref a2, .ref a3])), (a1, .inl (cA, 14, .inl (aN u.1.2.2.1))), (a2, .inl (cA, 14, .inl (aN u.1.2.2.2.1))), (a3, .inl (cA, 9, .inl (aN u.1.2.2.2.2))), (k, .inr (0, [.int u.2.1, .int u.2.2.1, .int u.2.2.2.1, .int u.2.2.2.2.1, .int u.2.2.2.2.2.1, .int u.2.2.2.2.2.2.1, .int u.2.2.2.2.2.2.2]))]) := by
  refine mkI [(0, .ref x), (1, .int p), (2, .int q)] (by decide) rfl (Nat.le_of_ble_eq_true rfl) ?_
  intro E A Q hE C hA hret
  obtain ⟨g1, g2, g3, g4, g5, g6⟩ := hG
  refine s_aload_n 0 C dF_edge_0 rfl ?_
  refine s_get (.ref g) 0 0 C wfP inF flF_12 dF_edge_1 rfl rfl (by decide) rfl ?_
  refine s_get (.int (nI m)) 1 1 C wfP inG flF_44 dF_edge_4 rfl rfl (by decide) rfl ?_
  refine s_bipush (nI 14) C dF_edge_7 (by decide) ?_
  refine s_icmp_geN 39 C dF_edge_9 (by decide) (by omega) (by omega) (fun c1 => ?_) (fun c1 => ?_)
  · refine s_iconst (-1) C dF_edge_39 (by decide) ?_
    exact hret _ ((n, m, fi, se, wa), (so, ta, ex, bs, bc, wu, ww)) _ _ dF_edge_40 rfl ⟨Or.inr ⟨fun z => absurd z.1 (by show ¬ m < 14; omega), rfl, rfl⟩, Or.inl ⟨rfl, rfl⟩⟩
  · refine s_iload_n 1 C dF_edge_12 rfl ?_
    refine s_iload_n 2 C dF_edge_13 rfl ?_
    refine s_icmp_eq 39 C dF_edge_14 (by decide) (fun c2 => ?_) (fun c2 => ?_)
    · refine s_iconst (-1) C dF_edge_39 (by decide) ?_
      exact hret _ ((n, m, fi, se, wa), (so, ta, ex, bs, bc, wu, ww)) _ _ dF_edge_40 rfl ⟨Or.inr ⟨fun z => z.2.2.2 c2, rfl, rfl⟩, Or.inl ⟨rfl, rfl⟩⟩
    · refine s_aload_n 0 C dF_edge_17 rfl ?_
      refine s_get (.ref g) 0 0 C wfP inF flF_12 dF_edge_18 rfl rfl (by decide) rfl ?_
      refine s_iload_n 1 C dF_edge_21 rfl ?_
      refine s_callP (n := 1) [1] 0 [] C wfP (kG_hasVertex E.2.1 D cA g a1 a2 a3 n m p (by omega) (by omega)) gF_48 dF_edge_22 (by decide +kernel) rfl rfl rfl rfl (by decide) (by decide) rfl rfl (Nat.le_of_ble_eq_true rfl) (Nat.zero_le _) (Nat.zero_le _) (fun rhv hv => ?_)
      rcases hv with ⟨er, hin⟩ | ⟨er, hin⟩
      · refine s_top er ?_
        refine s_if_eqN 39 C dF_edge_25 (by decide) (by decide) (fun c3 => ?_) (fun c3 => ?_)
        · exact absurd c3 (by decide)
        · have hp1 := hin
          refine s_aload_n 0 C dF_edge_28 rfl ?_
          refine s_get (.ref g) 0 0 C wfP inF flF_12 dF_edge_29 rfl rfl (by decide) rfl ?_
          refine s_iload_n 2 C dF_edge_32 rfl ?_
          refine s_callP (n := 1) [1] 0 [] C wfP (kG_hasVertex E.2.1 D cA g a1 a2 a3 n m q (by omega) (by omega)) gF_48 dF_edge_33 (by decide +kernel) rfl rfl rfl rfl (by decide) (by decide) rfl rfl (Nat.le_of_ble_eq_true rfl) (Nat.zero_le _) (Nat.zero_le _) (fun rhv2 hv2 => ?_)
          rcases hv2 with ⟨er, hin2⟩ | ⟨er, hin2⟩
          · refine s_top er ?_
            refine s_if_neN 41 C dF_edge_36 (by decide) (by decide) (fun c4 => ?_) (fun c4 => ?_)
            · obtain ⟨i, hi, rfl⟩ := hp1
              obtain ⟨j, hj, rfl⟩ := hin2
              have hij : i ≠ j := fun z => c2 (by rw [z])
              refine s_aload_n 0 C dF_edge_41 rfl ?_
              refine s_get (.ref g) 0 0 C wfP inF flF_12 dF_edge_42 rfl rfl (by decide) rfl ?_
              refine s_iload_n 1 C dF_edge_45 rfl ?_
              refine s_iload_n 2 C dF_edge_46 rfl ?_
              refine s_callV (n := 2) (wr := [(x, .inr (4, [.ref g, .ref s, .ref h, .ref k])), (a3, .inl (cA, 9, .inl (aN wa))), (k, .inr (0, [.int so, .int ta, .int ex, .int bs, .int bc, .int wu, .int ww]))]) [1, 2, 3] [0, 4, 5] 0 [] C hA (kG_append E.2.1 D cA g a1 a2 a3 n m i j fi se (by omega)) gF_52 dF_edge_47 (by decide +kernel) rfl rfl (by decide) (by decide) (by decide) rfl rfl rfl (by decide) (by decide) rfl rfl (Nat.le_of_ble_eq_true rfl) (Nat.zero_le _) (Nat.zero_le _) (fun u8 h8 => ?_)
              refine s_sub (ws' := [(x, .inr (4, [.ref g, .ref s, .ref h, .ref k])), (g, .inr (2, [.int (nI n), .int (nI (m + 1)), .ref a1, .ref a2, .ref a3])), (a1, .inl (cA, 14, .inl (aN (nup fi m i)))), (a2, .inl (cA, 14, .inl (aN (nup se m j)))), (a3, .inl (cA, 9, .inl (aN wa))), (k, .inr (0, [.int so, .int ta, .int ex, .int bs, .int bc, .int wu, .int ww]))]) [0, 3, 4, 5, 1, 2] rfl (by decide) ?_
              refine s_aload_n 0 C dF_edge_50 rfl ?_
              refine s_get (.ref k) 0 3 C wfP inF flF_33 dF_edge_51 rfl rfl (by decide) rfl ?_
              refine s_callV (n := 0) (wr := [(x, .inr (4, [.ref g, .ref s, .ref h, .ref k])), (g, .inr (2, [.int (nI n), .int (nI (m + 1)), .ref a1, .ref a2, .ref a3])), (a1, .inl (cA, 14, .inl (aN (nup fi m i)))), (a2, .inl (cA, 14, .inl (aN (nup se m j)))), (a3, .inl (cA, 9, .inl (aN wa)))]) [5] [0, 1, 2, 3, 4] 0 [] C hA (kA_forget E.2.1 D cA k so ta ex bs bc wu ww) gF_41 dF_edge_54 (by decide +kernel) rfl rfl (by decide) (by decide) (by decide) rfl rfl rfl (by decide) (by decide) rfl rfl (Nat.le_of_ble_eq_true rfl) (Nat.zero_le _) (Nat.zero_le _) (fun u9 h9 => ?_)
              refine s_sub (ws' := [(x, .inr (4, [.ref g, .ref s, .ref h, .ref k])), (g, .inr (2, [.int (nI n), .int (nI (m + 1)), .ref a1, .ref a2, .ref a3])), (a1, .inl (cA, 14, .inl (aN (nup fi m i)))), (a2, .inl (cA, 14, .inl (aN (nup se m j)))), (a3, .inl (cA, 9, .inl (aN wa))), (k, .inr (0, [.int (nI 0), .int (nI 0), .int (nI 0), .int bs, .int bc, .int wu, .int ww]))]) [0, 1, 2, 3, 4, 5] rfl (by decide) ?_
              refine s_aload_n 0 C dF_edge_57 rfl ?_
              refine s_get (.ref g) 0 0 C wfP inF flF_12 dF_edge_58 rfl rfl (by decide) rfl ?_
              refine s_get (.int (nI (m + 1))) 1 1 C wfP inG flF_44 dF_edge_61 rfl rfl (by decide) rfl ?_
              refine s_iconst (nI 1) C dF_edge_64 (by decide) ?_
              refine s_isubN C dF_edge_65 (by omega) ?_
              exact hret _ ((n, m + 1, nup fi m i, nup se m j, wa), (nI 0, nI 0, nI 0, bs, bc, wu, ww)) _ _ dF_edge_66 rfl ⟨Or.inl ⟨i, j, hi, hj, hij, by show m < 14; omega, rfl, rfl, by rw [Nat.add_sub_cancel], rfl⟩, Or.inr rfl⟩
            · exact absurd c4 (by decide)
          · refine s_top er ?_
            refine s_if_neN 41 C dF_edge_36 (by decide) (by decide) (fun c4 => ?_) (fun c4 => ?_)
            · exact absurd rfl c4
            · refine s_iconst (-1) C dF_edge_39 (by decide) ?_
              exact hret _ ((n, m, fi, se, wa), (so, ta, ex, bs, bc, wu, ww)) _ _ dF_edge_40 rfl ⟨Or.inr ⟨fun z => hin2 z.2.2.1, rfl, rfl⟩, Or.inl ⟨rfl, rfl⟩⟩
      · refine s_top er ?_
        refine s_if_eqN 39 C dF_edge_25 (by decide) (by decide) (fun c3 => ?_) (fun c3 => ?_)
        · refine s_iconst (-1) C dF_edge_39 (by decide) ?_
          exact hret _ ((n, m, fi, se, wa), (so, ta, ex, bs, bc, wu, ww)) _ _ dF_edge_40 rfl ⟨Or.inr ⟨fun z => hin z.2.1, rfl, rfl⟩, Or.inl ⟨rfl, rfl⟩⟩
        · exact absurd rfl c3
set_option maxHeartbeats 4000000 in
set_option maxRecDepth 100000 in
/-- drop -/
theorem kF_drop (l : Launch) (D : va_G) (cA : ClassId) (x k h s b1 b2 b3 b4 b5 g a1 a2 a3 o1 o2 o3 o4 o5 : Nat) (n m : Nat) (fi se wa : Nat → Nat) (so ta ex bs bc wu ww : Int32) (hG : GOK n m fi se wa) (p : Int32) : CtI (S := GrT × AnT) l yF_drop (.code yF_drop cF_drop 2 (some .boolean)) 23 0 0 D cA [.ref x, .int p] [(x, .inr (4, [.ref g, .ref s, .ref h, .ref k])), (g, .inr (2, [.int (nI n), .int (nI m), .ref a1, .ref a2, .ref a3])), (a1, .inl (cA, 14, .inl (aN fi))), (a2, .inl (cA, 14, .inl (aN se))), (a3, .inl (cA, 9, .inl (aN wa))), (k, .inr (0, [.int so, .int ta, .int ex, .int bs, .int bc, .int wu, .int ww]))] (fun r u => drpP p r (n, m, fi, se, wa) u.1 ∧ ((u.2 = (so, ta, ex, bs, bc, wu, ww) ∧ u.1 = (n, m, fi, se, wa)) ∨ u.2 = (nI 0, nI 0, nI 0, bs, bc, wu, ww))) (fun u => [(x, .inr (4, [.ref g, .ref s, .ref h, .ref k])), (g, .inr (2, [.int (nI u.1.1), .int (nI u.1.2.1), .ref a1, .ref a2, .ref a3])), (a1, .inl (cA, 14, .inl (aN u.1.2.2.1))), (a2, .inl (cA, 14, .inl (aN u.1.2.2.2.1))), (a3, .inl (cA, 9, .inl (aN u.1.2.2.2.2))), (k, .inr (0, [.int u.2.1, .int u.2.2.1, .int u.2.2.2.1, .int u.2.2.2.2.1, .int u.2.2.2.2.2.1, .int u.2.2.2.2.2.2.1, .int u.2.2.2.2.2.2.2]))]) := by
  refine mkI [(0, .ref x), (1, .int p)] (by decide) rfl (Nat.le_of_ble_eq_true rfl) ?_
  intro E A Q hE C hA hret
  obtain ⟨g1, g2, g3, g4, g5, g6⟩ := hG
  refine s_aload_n 0 C dF_drop_0 rfl ?_
  refine s_get (.ref g) 0 0 C wfP inF flF_12 dF_drop_1 rfl rfl (by decide) rfl ?_
  refine s_iload_n 1 C dF_drop_4 rfl ?_
  refine s_callP (n := 1) [1] 0 [] C wfP (kG_hasEdge E.2.1 D cA g a1 a2 a3 n m p (by omega) (by omega)) gF_56 dF_drop_5 (by decide +kernel) rfl rfl rfl rfl (by decide) (by decide) rfl rfl (Nat.le_of_ble_eq_true rfl) (Nat.zero_le _) (Nat.zero_le _) (fun rhv hv => ?_)
  rcases hv with ⟨er, hin⟩ | ⟨er, hin⟩
  · refine s_top er ?_
    refine s_if_neN 13 C dF_drop_8 (by decide) (by decide) (fun c1 => ?_) (fun c1 => ?_)
    · obtain ⟨t, ht, rfl⟩ := hin
      refine s_aload_n 0 C dF_drop_13 rfl ?_
      refine s_get (.ref g) 0 0 C wfP inF flF_12 dF_drop_14 rfl rfl (by decide) rfl ?_
      refine s_iload_n 1 C dF_drop_17 rfl ?_
      refine s_callV (n := 1) (wr := [(x, .inr (4, [.ref g, .ref s, .ref h, .ref k])), (a3, .inl (cA, 9, .inl (aN wa))), (k, .inr (0, [.int so, .int ta, .int ex, .int bs, .int bc, .int wu, .int ww]))]) [1, 2, 3] [0, 4, 5] 0 [] C hA (kG_remove E.2.1 D cA g a1 a2 a3 n m t fi se g3 ht) gF_59 dF_drop_18 (by decide +kernel) rfl rfl (by decide) (by decide) (by decide) rfl rfl rfl (by decide) (by decide) rfl rfl (Nat.le_of_ble_eq_true rfl) (Nat.zero_le _) (Nat.zero_le _) (fun u8 h8 => ?_)
      refine s_sub (ws' := [(x, .inr (4, [.ref g, .ref s, .ref h, .ref k])), (g, .inr (2, [.int (nI n), .int (nI (m - 1)), .ref a1, .ref a2, .ref a3])), (a1, .inl (cA, 14, .inl (aN (rmF fi t m)))), (a2, .inl (cA, 14, .inl (aN (rmF se t m)))), (a3, .inl (cA, 9, .inl (aN wa))), (k, .inr (0, [.int so, .int ta, .int ex, .int bs, .int bc, .int wu, .int ww]))]) [0, 3, 4, 5, 1, 2] rfl (by decide) ?_
      refine s_aload_n 0 C dF_drop_21 rfl ?_
      refine s_get (.ref k) 0 3 C wfP inF flF_33 dF_drop_22 rfl rfl (by decide) rfl ?_
      refine s_callV (n := 0) (wr := [(x, .inr (4, [.ref g, .ref s, .ref h, .ref k])), (g, .inr (2, [.int (nI n), .int (nI (m - 1)), .ref a1, .ref a2, .ref a3])), (a1, .inl (cA, 14, .inl (aN (rmF fi t m)))), (a2, .inl (cA, 14, .inl (aN (rmF se t m)))), (a3, .inl (cA, 9, .inl (aN wa)))]) [5] [0, 1, 2, 3, 4] 0 [] C hA (kA_forget E.2.1 D cA k so ta ex bs bc wu ww) gF_41 dF_drop_25 (by decide +kernel) rfl rfl (by decide) (by decide) (by decide) rfl rfl rfl (by decide) (by decide) rfl rfl (Nat.le_of_ble_eq_true rfl) (Nat.zero_le _) (Nat.zero_le _) (fun u9 h9 => ?_)
      refine s_sub (ws' := [(x, .inr (4, [.ref g, .ref s, .ref h, .ref k])), (g, .inr (2, [.int (nI n), .int (nI (m - 1)), .ref a1, .ref a2, .ref a3])), (a1, .inl (cA, 14, .inl (aN (rmF fi t m)))), (a2, .inl (cA, 14, .inl (aN (rmF se t m)))), (a3, .inl (cA, 9, .inl (aN wa))), (k, .inr (0, [.int (nI 0), .int (nI 0), .int (nI 0), .int bs, .int bc, .int wu, .int ww]))]) [0, 1, 2, 3, 4, 5] rfl (by decide) ?_
      refine s_iconst (nI 1) C dF_drop_28 (by decide) ?_
      exact hret _ ((n, m - 1, rmF fi t m, rmF se t m, wa), (nI 0, nI 0, nI 0, bs, bc, wu, ww)) _ _ dF_drop_29 rfl ⟨Or.inl ⟨t, ht, rfl, rfl, rfl⟩, Or.inr rfl⟩
    · exact absurd c1 (by decide)
  · refine s_top er ?_
    refine s_if_neN 13 C dF_drop_8 (by decide) (by decide) (fun c1 => ?_) (fun c1 => ?_)
    · exact absurd rfl c1
    · refine s_iconst (nI 0) C dF_drop_11 (by decide) ?_
      exact hret _ ((n, m, fi, se, wa), (so, ta, ex, bs, bc, wu, ww)) _ _ dF_drop_12 rfl ⟨Or.inr ⟨hin, rfl, rfl⟩, Or.inl ⟨rfl, rfl⟩⟩
set_option maxHeartbeats 4000000 in
set_option maxRecDepth 100000 in
/-- ask -/
theorem kF_ask (l : Launch) (D : va_G) (cA : ClassId) (x k h s b1 b2 b3 b4 b5 g a1 a2 a3 o1 o2 o3 o4 o5 : Nat) (n m : Nat) (fi se wa : Nat → Nat) (so ta ex bs bc wu ww : Int32) (hG : GOK n m fi se wa) (p q : Int32) : CtI (S := GrT × AnT) l yF_ask (.code yF_ask cF_ask 3 (some .boolean)) 23 0 0 D cA [.ref x, .int p, .int q] [(x, .inr (4, [.ref g, .ref s, .ref h, .ref k])), (g, .inr (2, [.int (nI n), .int (nI m), .ref a1, .ref a2, .ref a3])), (a1, .inl (cA, 14, .inl (aN fi))), (a2, .inl (cA, 14, .inl (aN se))), (a3, .inl (cA, 9, .inl (aN wa))), (k, .inr (0, [.int so, .int ta, .int ex, .int bs, .int bc, .int wu, .int ww]))] (fun r u => askP p q r (n, m, fi, se, wa) u.1 ∧ ((u.2 = (so, ta, ex, bs, bc, wu, ww) ∧ u.1 = (n, m, fi, se, wa)) ∨ u.2 = (nI 0, nI 0, nI 0, bs, bc, wu, ww))) (fun u => [(x, .inr (4, [.ref g, .ref s, .ref h, .ref k])), (g, .inr (2, [.int (nI u.1.1), .int (nI u.1.2.1), .ref a1, .ref a2, .ref a3])), (a1, .inl (cA, 14, .inl (aN u.1.2.2.1))), (a2, .inl (cA, 14, .inl (aN u.1.2.2.2.1))), (a3, .inl (cA, 9, .inl (aN u.1.2.2.2.2))), (k, .inr (0, [.int u.2.1, .int u.2.2.1, .int u.2.2.2.1, .int u.2.2.2.2.1, .int u.2.2.2.2.2.1, .int u.2.2.2.2.2.2.1, .int u.2.2.2.2.2.2.2]))]) := by
  refine mkI [(0, .ref x), (1, .int p), (2, .int q)] (by decide) rfl (Nat.le_of_ble_eq_true rfl) ?_
  intro E A Q hE C hA hret
  obtain ⟨g1, g2, g3, g4, g5, g6⟩ := hG
  refine s_aload_n 0 C dF_ask_0 rfl ?_
  refine s_get (.ref g) 0 0 C wfP inF flF_12 dF_ask_1 rfl rfl (by decide) rfl ?_
  refine s_iload_n 1 C dF_ask_4 rfl ?_
  refine s_callP (n := 1) [1] 0 [] C wfP (kG_hasVertex E.2.1 D cA g a1 a2 a3 n m p (by omega) (by omega)) gF_48 dF_ask_5 (by decide +kernel) rfl rfl rfl rfl (by decide) (by decide) rfl rfl (Nat.le_of_ble_eq_true rfl) (Nat.zero_le _) (Nat.zero_le _) (fun rhv hv => ?_)
  rcases hv with ⟨er, hin⟩ | ⟨er, hin⟩
  · refine s_top er ?_
    refine s_if_eqN 21 C dF_ask_8 (by decide) (by decide) (fun c1 => ?_) (fun c1 => ?_)
    · exact absurd c1 (by decide)
    · refine s_iload_n 2 C dF_ask_11 rfl ?_
      refine s_if_lt 21 C dF_ask_12 (by decide) (fun c2 => ?_) (fun c2 => ?_)
      · refine s_iconst (nI 0) C dF_ask_21 (by decide) ?_
        exact hret _ ((n, m, fi, se, wa), (so, ta, ex, bs, bc, wu, ww)) _ _ dF_ask_22 rfl ⟨Or.inr ⟨fun z => inR_no1 c2 (by decide) z.2, rfl, rfl⟩, Or.inl ⟨rfl, rfl⟩⟩
      · refine s_iload_n 2 C dF_ask_15 rfl ?_
        refine s_bipush (nI 14) C dF_ask_16 (by decide) ?_
        refine s_icmp_le 23 C dF_ask_18 (by decide) (fun c3 => ?_) (fun c3 => ?_)
        · obtain ⟨i, hi, rfl⟩ := hin
          obtain ⟨j, hj1, hj, rfl⟩ := rng_yes (a := 0) (by decide) (by decide) (by rw [nI_0]; exact c2) c3
          refine s_aload_n 0 C dF_ask_23 rfl ?_
          refine s_get (.ref g) 0 0 C wfP inF flF_12 dF_ask_24 rfl rfl (by decide) rfl ?_
          refine s_get (.ref a3) 1 4 C wfP inG flF_62 dF_ask_27 rfl rfl (by decide) rfl ?_
          refine s_iload_n 1 C dF_ask_30 rfl ?_
          refine s_iload_n 2 C dF_ask_31 rfl ?_
          refine s_iastN 4 [(x, .inr (4, [.ref g, .ref s, .ref h, .ref k])), (g, .inr (2, [.int (nI n), .int (nI m), .ref a1, .ref a2, .ref a3])), (a1, .inl (cA, 14, .inl (aN fi))), (a2, .inl (cA, 14, .inl (aN se))), (a3, .inl (cA, 9, .inl (aN (nup wa i j)))), (k, .inr (0, [.int so, .int ta, .int ex, .int bs, .int bc, .int wu, .int ww]))] C dF_ask_32 rfl (by omega) (by decide) rfl ?_
          refine s_aload_n 0 C dF_ask_33 rfl ?_
          refine s_get (.ref k) 0 3 C wfP inF flF_33 dF_ask_34 rfl rfl (by decide) rfl ?_
          refine s_callV (n := 0) (wr := [(x, .inr (4, [.ref g, .ref s, .ref h, .ref k])), (g, .inr (2, [.int (nI n), .int (nI m), .ref a1, .ref a2, .ref a3])), (a1, .inl (cA, 14, .inl (aN fi))), (a2, .inl (cA, 14, .inl (aN se))), (a3, .inl (cA, 9, .inl (aN (nup wa i j))))]) [5] [0, 1, 2, 3, 4] 0 [] C hA (kA_forget E.2.1 D cA k so ta ex bs bc wu ww) gF_41 dF_ask_37 (by decide +kernel) rfl rfl (by decide) (by decide) (by decide) rfl rfl rfl (by decide) (by decide) rfl rfl (Nat.le_of_ble_eq_true rfl) (Nat.zero_le _) (Nat.zero_le _) (fun u9 h9 => ?_)
          refine s_sub (ws' := [(x, .inr (4, [.ref g, .ref s, .ref h, .ref k])), (g, .inr (2, [.int (nI n), .int (nI m), .ref a1, .ref a2, .ref a3])), (a1, .inl (cA, 14, .inl (aN fi))), (a2, .inl (cA, 14, .inl (aN se))), (a3, .inl (cA, 9, .inl (aN (nup wa i j)))), (k, .inr (0, [.int (nI 0), .int (nI 0), .int (nI 0), .int bs, .int bc, .int wu, .int ww]))]) [0, 1, 2, 3, 4, 5] rfl (by decide) ?_
          refine s_iconst (nI 1) C dF_ask_40 (by decide) ?_
          exact hret _ ((n, m, fi, se, nup wa i j), (nI 0, nI 0, nI 0, bs, bc, wu, ww)) _ _ dF_ask_41 rfl ⟨Or.inl ⟨i, j, hi, hj, rfl, rfl, rfl, rfl⟩, Or.inr rfl⟩
        · refine s_iconst (nI 0) C dF_ask_21 (by decide) ?_
          exact hret _ ((n, m, fi, se, wa), (so, ta, ex, bs, bc, wu, ww)) _ _ dF_ask_22 rfl ⟨Or.inr ⟨fun ⟨_, j, hj, e⟩ => c3 (by rw [e]; exact nI_le (by omega) (by decide)), rfl, rfl⟩, Or.inl ⟨rfl, rfl⟩⟩
  · refine s_top er ?_
    refine s_if_eqN 21 C dF_ask_8 (by decide) (by decide) (fun c1 => ?_) (fun c1 => ?_)
    · refine s_iconst (nI 0) C dF_ask_21 (by decide) ?_
      exact hret _ ((n, m, fi, se, wa), (so, ta, ex, bs, bc, wu, ww)) _ _ dF_ask_22 rfl ⟨Or.inr ⟨fun z => hin z.1, rfl, rfl⟩, Or.inl ⟨rfl, rfl⟩⟩
    · exact absurd rfl c1
set_option maxHeartbeats 4000000 in
set_option maxRecDepth 100000 in
/-- vertices -/
theorem kF_vertices (l : Launch) (D : va_G) (cA : ClassId) (x k h s b1 b2 b3 b4 b5 g a1 a2 a3 o1 o2 o3 o4 o5 : Nat) (n m : Nat) (fi se wa : Nat → Nat) (hG : GOK n m fi se wa)  : CtP l yF_vertices (.code yF_vertices cF_vertices 1 (some .int)) 0 D cA [.ref x] [(x, .inr (4, [.ref g, .ref s, .ref h, .ref k])), (g, .inr (2, [.int (nI n), .int (nI m), .ref a1, .ref a2, .ref a3]))] (fun r => r = nI n) := by
  refine mkP [(0, .ref x)] (by decide) rfl (Nat.le_of_ble_eq_true rfl) ?_
  intro E Q hE C hret
  refine s_aload_n 0 C dF_vertices_0 rfl ?_
  refine s_get (.ref g) 0 0 C pfP inF flF_12 dF_vertices_1 rfl rfl (by decide) rfl ?_
  refine s_get (.int (nI n)) 1 0 C pfP inG flF_66 dF_vertices_4 rfl rfl (by decide) rfl ?_
  exact hret _ _ _ dF_vertices_7 rfl rfl
set_option maxHeartbeats 4000000 in
set_option maxRecDepth 100000 in
/-- edges -/
theorem kF_edges (l : Launch) (D : va_G) (cA : ClassId) (x k h s b1 b2 b3 b4 b5 g a1 a2 a3 o1 o2 o3 o4 o5 : Nat) (n m : Nat) (fi se wa : Nat → Nat) (hG : GOK n m fi se wa)  : CtP l yF_edges (.code yF_edges cF_edges 1 (some .int)) 0 D cA [.ref x] [(x, .inr (4, [.ref g, .ref s, .ref h, .ref k])), (g, .inr (2, [.int (nI n), .int (nI m), .ref a1, .ref a2, .ref a3]))] (fun r => r = nI m) := by
  refine mkP [(0, .ref x)] (by decide) rfl (Nat.le_of_ble_eq_true rfl) ?_
  intro E Q hE C hret
  refine s_aload_n 0 C dF_edges_0 rfl ?_
  refine s_get (.ref g) 0 0 C pfP inF flF_12 dF_edges_1 rfl rfl (by decide) rfl ?_
  refine s_get (.int (nI m)) 1 1 C pfP inG flF_44 dF_edges_4 rfl rfl (by decide) rfl ?_
  exact hret _ _ _ dF_edges_7 rfl rfl
set_option maxHeartbeats 4000000 in
set_option maxRecDepth 100000 in
/-- end -/
theorem kF_end (l : Launch) (D : va_G) (cA : ClassId) (x k h s b1 b2 b3 b4 b5 g a1 a2 a3 o1 o2 o3 o4 o5 : Nat) (n m : Nat) (fi se wa : Nat → Nat) (hG : GOK n m fi se wa) (p q : Int32) : CtP l yF_end (.code yF_end cF_end 3 (some .int)) 2 D cA [.ref x, .int p, .int q] [(x, .inr (4, [.ref g, .ref s, .ref h, .ref k])), (g, .inr (2, [.int (nI n), .int (nI m), .ref a1, .ref a2, .ref a3])), (a1, .inl (cA, 14, .inl (aN fi))), (a2, .inl (cA, 14, .inl (aN se)))] (fun r => endP p q r m fi se) := by
  refine mkP [(0, .ref x), (1, .int p), (2, .int q)] (by decide) rfl (Nat.le_of_ble_eq_true rfl) ?_
  intro E Q hE C hret
  obtain ⟨g1, g2, g3, g4, g5, g6⟩ := hG
  refine s_aload_n 0 C dF_end_0 rfl ?_
  refine s_get (.ref g) 0 0 C pfP inF flF_12 dF_end_1 rfl rfl (by decide) rfl ?_
  refine s_iload_n 1 C dF_end_4 rfl ?_
  refine s_callP (n := 1) [1] 0 [] C pfP (kG_hasEdge E.2.1 D cA g a1 a2 a3 n m p (by omega) (by omega)) gF_56 dF_end_5 (by decide +kernel) rfl rfl rfl rfl (by decide) (by decide) rfl rfl (Nat.le_of_ble_eq_true rfl) (Nat.zero_le _) (Nat.zero_le _) (fun rhv hv => ?_)
  rcases hv with ⟨er, hin⟩ | ⟨er, hin⟩
  · refine s_top er ?_
    refine s_if_eqN 20 C dF_end_8 (by decide) (by decide) (fun c1 => ?_) (fun c1 => ?_)
    · exact absurd c1 (by decide)
    · refine s_iload_n 2 C dF_end_11 rfl ?_
      refine s_if_lt 20 C dF_end_12 (by decide) (fun c2 => ?_) (fun c2 => ?_)
      · refine s_iconst (-1) C dF_end_20 (by decide) ?_
        exact hret _ _ _ dF_end_21 rfl (Or.inr ⟨fun z => inR_no1 c2 (by decide) z.2, rfl⟩)
      · refine s_iload_n 2 C dF_end_15 rfl ?_
        refine s_iconst (nI 1) C dF_end_16 (by decide) ?_
        refine s_icmp_le 22 C dF_end_17 (by decide) (fun c3 => ?_) (fun c3 => ?_)
        · obtain ⟨i, hi, rfl⟩ := hin
          obtain ⟨j, hj1, hj, rfl⟩ := rng_yes (a := 0) (by decide) (by decide) (by rw [nI_0]; exact c2) c3
          refine s_iload_n 2 C dF_end_22 rfl ?_
          refine s_if_neN 38 C dF_end_23 (by decide) (by omega) (fun c4 => ?_) (fun c4 => ?_)
          · refine s_aload_n 0 C dF_end_38 rfl ?_
            refine s_get (.ref g) 0 0 C pfP inF flF_12 dF_end_39 rfl rfl (by decide) rfl ?_
            refine s_get (.ref a2) 1 3 C pfP inG flF_72 dF_end_42 rfl rfl (by decide) rfl ?_
            refine s_iload_n 1 C dF_end_45 rfl ?_
            refine s_ialdN 3 C pfP dF_end_46 rfl (by omega) (by decide) ?_
            exact hret _ _ _ dF_end_47 rfl (Or.inl ⟨i, hi, rfl, Or.inr ⟨by rw [show j = 1 by omega], rfl⟩⟩)
          · refine s_aload_n 0 C dF_end_26 rfl ?_
            refine s_get (.ref g) 0 0 C pfP inF flF_12 dF_end_27 rfl rfl (by decide) rfl ?_
            refine s_get (.ref a1) 1 2 C pfP inG flF_69 dF_end_30 rfl rfl (by decide) rfl ?_
            refine s_iload_n 1 C dF_end_33 rfl ?_
            refine s_ialdN 2 C pfP dF_end_34 rfl (by omega) (by decide) ?_
            refine s_goto (tgt := 47) C dF_end_35 (by decide) ?_
            exact hret _ _ _ dF_end_47 rfl (Or.inl ⟨i, hi, rfl, Or.inl ⟨by rw [c4], rfl⟩⟩)
        · refine s_iconst (-1) C dF_end_20 (by decide) ?_
          exact hret _ _ _ dF_end_21 rfl (Or.inr ⟨fun ⟨_, j, hj, e⟩ => c3 (by rw [e]; exact nI_le (by omega) (by decide)), rfl⟩)
  · refine s_top er ?_
    refine s_if_eqN 20 C dF_end_8 (by decide) (by decide) (fun c1 => ?_) (fun c1 => ?_)
    · refine s_iconst (-1) C dF_end_20 (by decide) ?_
      exact hret _ _ _ dF_end_21 rfl (Or.inr ⟨fun z => hin z.1, rfl⟩)
    · exact absurd rfl c1
set_option maxHeartbeats 4000000 in
set_option maxRecDepth 100000 in
/-- demand -/
theorem kF_demand (l : Launch) (D : va_G) (cA : ClassId) (x k h s b1 b2 b3 b4 b5 g a1 a2 a3 o1 o2 o3 o4 o5 : Nat) (n m : Nat) (fi se wa : Nat → Nat) (hG : GOK n m fi se wa) (p : Int32) : CtP l yF_demand (.code yF_demand cF_demand 2 (some .int)) 2 D cA [.ref x, .int p] [(x, .inr (4, [.ref g, .ref s, .ref h, .ref k])), (g, .inr (2, [.int (nI n), .int (nI m), .ref a1, .ref a2, .ref a3])), (a3, .inl (cA, 9, .inl (aN wa)))] (fun r => demP p r n wa) := by
  refine mkP [(0, .ref x), (1, .int p)] (by decide) rfl (Nat.le_of_ble_eq_true rfl) ?_
  intro E Q hE C hret
  obtain ⟨g1, g2, g3, g4, g5, g6⟩ := hG
  refine s_aload_n 0 C dF_demand_0 rfl ?_
  refine s_get (.ref g) 0 0 C pfP inF flF_12 dF_demand_1 rfl rfl (by decide) rfl ?_
  refine s_iload_n 1 C dF_demand_4 rfl ?_
  refine s_callP (n := 1) [1] 0 [] C pfP (kG_hasVertex E.2.1 D cA g a1 a2 a3 n m p (by omega) (by omega)) gF_48 dF_demand_5 (by decide +kernel) rfl rfl rfl rfl (by decide) (by decide) rfl rfl (Nat.le_of_ble_eq_true rfl) (Nat.zero_le _) (Nat.zero_le _) (fun rhv hv => ?_)
  rcases hv with ⟨er, hin⟩ | ⟨er, hin⟩
  · refine s_top er ?_
    refine s_if_eqN 23 C dF_demand_8 (by decide) (by decide) (fun c1 => ?_) (fun c1 => ?_)
    · exact absurd c1 (by decide)
    · obtain ⟨i, hi, rfl⟩ := hin
      refine s_aload_n 0 C dF_demand_11 rfl ?_
      refine s_get (.ref g) 0 0 C pfP inF flF_12 dF_demand_12 rfl rfl (by decide) rfl ?_
      refine s_get (.ref a3) 1 4 C pfP inG flF_62 dF_demand_15 rfl rfl (by decide) rfl ?_
      refine s_iload_n 1 C dF_demand_18 rfl ?_
      refine s_ialdN 2 C pfP dF_demand_19 rfl (by omega) (by decide) ?_
      refine s_goto (tgt := 24) C dF_demand_20 (by decide) ?_
      exact hret _ _ _ dF_demand_24 rfl (Or.inl ⟨i, hi, rfl, rfl⟩)
  · refine s_top er ?_
    refine s_if_eqN 23 C dF_demand_8 (by decide) (by decide) (fun c1 => ?_) (fun c1 => ?_)
    · refine s_iconst (-1) C dF_demand_23 (by decide) ?_
      exact hret _ _ _ dF_demand_24 rfl (Or.inr ⟨hin, rfl⟩)
    · exact absurd rfl c1
set_option maxHeartbeats 4000000 in
set_option maxRecDepth 100000 in
/-- judge -/
theorem kF_judge (l : Launch) (D : va_G) (cA : ClassId) (x k h s b1 b2 b3 b4 b5 g a1 a2 a3 o1 o2 o3 o4 o5 : Nat) (n m : Nat) (fi se wa : Nat → Nat) (hG : GOK n m fi se wa) (p : Int32) : CtP l yF_judge (.code yF_judge cF_judge 5 (some .int)) 2 D cA [.ref x, .int p] [(x, .inr (4, [.ref g, .ref s, .ref h, .ref k])), (g, .inr (2, [.int (nI n), .int (nI m), .ref a1, .ref a2, .ref a3])), (a1, .inl (cA, 14, .inl (aN fi))), (a2, .inl (cA, 14, .inl (aN se))), (a3, .inl (cA, 9, .inl (aN wa)))] (fun r => judP p r n m fi se wa) := by
  refine mkP [(0, .ref x), (1, .int p)] (by decide) rfl (Nat.le_of_ble_eq_true rfl) ?_
  intro E Q hE C hret
  obtain ⟨g1, g2, g3, g4, g5, g6⟩ := hG
  refine s_iload_n 1 C dF_judge_0 rfl ?_
  refine s_if_lt 16 C dF_judge_1 (by decide) (fun c1 => ?_) (fun c1 => ?_)
  · refine s_iconst (-1) C dF_judge_16 (by decide) ?_
    exact hret _ _ _ dF_judge_17 rfl (Or.inr ⟨inR_no1 c1 (Nat.lt_of_le_of_lt (p2_le g3) (by decide)), rfl⟩)
  · obtain ⟨sv, hs, rfl⟩ := nI_of c1
    refine s_iload_n 1 C dF_judge_4 rfl ?_
    refine s_aload_n 0 C dF_judge_5 rfl ?_
    refine s_get (.ref g) 0 0 C pfP inF flF_12 dF_judge_6 rfl rfl (by decide) rfl ?_
    refine s_get (.int (nI m)) 1 1 C pfP inG flF_44 dF_judge_9 rfl rfl (by decide) rfl ?_
    refine s_ishrN C dF_judge_12 (by omega) (by omega) ?_
    refine s_if_eqN 18 C dF_judge_13 (by decide) (Nat.lt_of_le_of_lt (Nat.shiftRight_le _ _) hs) (fun c2 => ?_) (fun c2 => ?_)
    · have hsm : sv < 2 ^ m := by
        rw [Nat.shiftRight_eq_div_pow] at c2
        exact (Nat.div_eq_zero_iff_lt (Nat.two_pow_pos m)).mp c2
      have hs14 : sv < 2 ^ 14 := Nat.lt_of_lt_of_le hsm (p2_le g3)
      refine s_iconst (nI 2) C dF_judge_18 (by decide) ?_
      refine s_istore_n [(0, .ref x), (1, .int (nI sv)), (2, .int (nI 2))] [1, 2, 0] C dF_judge_19 (by decide) rfl ?_
      refine s_iconst (nI 0) C dF_judge_20 (by decide) ?_
      refine s_istore_n [(0, .ref x), (1, .int (nI sv)), (2, .int (nI 2)), (3, .int (nI 0))] [1, 2, 3, 0] C dF_judge_21 (by decide) rfl ?_
      have loop : ∀ kf i (vd : Nat), i + kf = n → ((vd = 2 ∧ ∀ v, v < i → hdg fi se m (bm sv) v = wa v) ∨ (vd = 1 ∧ (∀ v, v < i → hdg fi se m (bm sv) v ≤ wa v) ∧ ∃ v, v < i ∧ hdg fi se m (bm sv) v < wa v)) → ST E 5 Q 0 0 (pf E D [(x, .inr (4, [.ref g, .ref s, .ref h, .ref k])), (g, .inr (2, [.int (nI n), .int (nI m), .ref a1, .ref a2, .ref a3])), (a1, .inl (cA, 14, .inl (aN fi))), (a2, .inl (cA, 14, .inl (aN se))), (a3, .inl (cA, 9, .inl (aN wa)))]) [(0, .ref x), (1, .int (nI sv)), (2, .int (nI vd)), (3, .int (nI i))] [] 22 := by
        intro kf
        induction kf with
        | zero =>
          intro i vd hi hvd
          refine s_iload_n 3 C dF_judge_22 rfl ?_
          refine s_aload_n 0 C dF_judge_23 rfl ?_
          refine s_get (.ref g) 0 0 C pfP inF flF_12 dF_judge_24 rfl rfl (by decide) rfl ?_
          refine s_get (.int (nI n)) 1 0 C pfP inG flF_66 dF_judge_27 rfl rfl (by decide) rfl ?_
          refine s_icmp_geN 82 C dF_judge_30 (by decide) (by omega) (by omega) (fun c3 => ?_) (fun c3 => ?_)
          · have e9 : n = i := by omega
            subst e9
            refine s_iload_n 2 C dF_judge_82 rfl ?_
            refine hret _ _ _ dF_judge_83 rfl (Or.inl ⟨sv, hsm, rfl, ?_⟩)
            rcases hvd with ⟨e1, h1⟩ | ⟨e1, h1, v, hv, h2⟩
            · exact Or.inl ⟨h1, by rw [e1]⟩
            · exact Or.inr (Or.inl ⟨fun z => absurd (z v hv) (by omega), h1, by rw [e1]⟩)
          · exact absurd c3 (by omega)
        | succ kf ih =>
          intro i vd hi hvd
          refine s_iload_n 3 C dF_judge_22 rfl ?_
          refine s_aload_n 0 C dF_judge_23 rfl ?_
          refine s_get (.ref g) 0 0 C pfP inF flF_12 dF_judge_24 rfl rfl (by decide) rfl ?_
          refine s_get (.int (nI n)) 1 0 C pfP inG flF_66 dF_judge_27 rfl rfl (by decide) rfl ?_
          refine s_icmp_geN 82 C dF_judge_30 (by decide) (by omega) (by omega) (fun c3 => ?_) (fun c3 => ?_)
          · exact absurd c3 (by omega)
          · have hgi := g5 i (by omega)
            have hdm : hdg fi se m (bm sv) i ≤ 14 := by
              have h1 : hdg fi se m (bm sv) i ≤ hsz m (bm sv) := su_le (fun j _ => by
                have a1 := Bool.toNat_le (bm sv j)
                have a2 : hin fi se j i ≤ 1 := by unfold hin; split <;> omega
                have := Nat.mul_le_mul_left (bm sv j).toNat a2
                omega)
              have h2 := hsz_le m (bm sv)
              omega
            refine s_aload_n 0 C dF_judge_33 rfl ?_
            refine s_get (.ref g) 0 0 C pfP inF flF_12 dF_judge_34 rfl rfl (by decide) rfl ?_
            refine s_iload_n 3 C dF_judge_37 rfl ?_
            refine s_iload_n 1 C dF_judge_38 rfl ?_
            refine s_callP (n := 2) [1, 2, 3] 0 [] C pfP (kG_degree E.2.1 D cA g a1 a2 a3 n m i sv fi se g3 (by omega) hs14 (fun e he => by have := (g4 e he).1; omega) (fun e he => by have := (g4 e he).2.1; omega)) gF_75 dF_judge_39 (by decide +kernel) rfl rfl rfl rfl (by decide) (by decide) rfl rfl (Nat.le_of_ble_eq_true rfl) (Nat.zero_le _) (Nat.zero_le _) (fun rd hd => ?_)
            refine s_top hd ?_
            refine s_istore [(0, .ref x), (1, .int (nI sv)), (2, .int (nI vd)), (3, .int (nI i)), (4, .int (nI (hdg fi se m (bm sv) i)))] [1, 2, 3, 4, 0] C dF_judge_42 (by decide) rfl ?_
            refine s_iload 4 C dF_judge_44 rfl ?_
            refine s_aload_n 0 C dF_judge_46 rfl ?_
            refine s_get (.ref g) 0 0 C pfP inF flF_12 dF_judge_47 rfl rfl (by decide) rfl ?_
            refine s_get (.ref a3) 1 4 C pfP inG flF_62 dF_judge_50 rfl rfl (by decide) rfl ?_
            refine s_iload_n 3 C dF_judge_53 rfl ?_
            refine s_ialdN 4 C pfP dF_judge_54 rfl (by omega) (by decide) ?_
            refine s_icmp_leN 60 C dF_judge_55 (by decide) (by omega) (by omega) (fun c4 => ?_) (fun c4 => ?_)
            · refine s_iload 4 C dF_judge_60 rfl ?_
              refine s_aload_n 0 C dF_judge_62 rfl ?_
              refine s_get (.ref g) 0 0 C pfP inF flF_12 dF_judge_63 rfl rfl (by decide) rfl ?_
              refine s_get (.ref a3) 1 4 C pfP inG flF_62 dF_judge_66 rfl rfl (by decide) rfl ?_
              refine s_iload_n 3 C dF_judge_69 rfl ?_
              refine s_ialdN 4 C pfP dF_judge_70 rfl (by omega) (by decide) ?_
              refine s_icmp_geN 76 C dF_judge_71 (by decide) (by omega) (by omega) (fun c5 => ?_) (fun c5 => ?_)
              · refine s_iinc (j := 3) (nI (i + 1)) [(0, .ref x), (1, .int (nI sv)), (2, .int (nI vd)), (3, .int (nI (i + 1))), (4, .int (nI (hdg fi se m (bm sv) i)))] [1, 2, 3, 0, 4] C dF_judge_76 rfl (inc1 _) (by decide) rfl ?_
                refine s_goto (tgt := 22) C dF_judge_79 (by decide) ?_
                refine s_lv (lv' := [(0, .ref x), (1, .int (nI sv)), (2, .int (nI vd)), (3, .int (nI (i + 1)))]) [0, 1, 2, 3] rfl ?_
                refine ih (i + 1) vd (by omega) ?_
                rcases hvd with ⟨e1, h1⟩ | ⟨e1, h1, h2⟩
                · refine Or.inl ⟨e1, fun v hv => ?_⟩
                  by_cases z : v = i
                  · subst z; omega
                  · exact h1 v (by omega)
                · obtain ⟨v, hv, h3⟩ := h2
                  refine Or.inr ⟨e1, fun v hv => ?_, v, by omega, h3⟩
                  by_cases z : v = i
                  · subst z; exact c4
                  · exact h1 v (by omega)
              · refine s_iconst (nI 1) C dF_judge_74 (by decide) ?_
                refine s_istore_n [(0, .ref x), (1, .int (nI sv)), (2, .int (nI 1)), (3, .int (nI i)), (4, .int (nI (hdg fi se m (bm sv) i)))] [1, 2, 0, 3, 4] C dF_judge_75 (by decide) rfl ?_
                refine s_iinc (j := 3) (nI (i + 1)) [(0, .ref x), (1, .int (nI sv)), (2, .int (nI 1)), (3, .int (nI (i + 1))), (4, .int (nI (hdg fi se m (bm sv) i)))] [1, 2, 3, 0, 4] C dF_judge_76 rfl (inc1 _) (by decide) rfl ?_
                refine s_goto (tgt := 22) C dF_judge_79 (by decide) ?_
                refine s_lv (lv' := [(0, .ref x), (1, .int (nI sv)), (2, .int (nI 1)), (3, .int (nI (i + 1)))]) [0, 1, 2, 3] rfl ?_
                refine ih (i + 1) 1 (by omega) (Or.inr ⟨rfl, fun v hv => ?_, i, by omega, c5⟩)
                by_cases z : v = i
                · subst z; exact c4
                · rcases hvd with ⟨e1, h1⟩ | ⟨e1, h1, h2⟩
                  · rw [h1 v (by omega)]; exact Nat.le_refl _
                  · exact h1 v (by omega)
            · refine s_iconst (nI 0) C dF_judge_58 (by decide) ?_
              exact hret _ _ _ dF_judge_59 rfl (Or.inl ⟨sv, hsm, rfl, Or.inr (Or.inr ⟨fun z => absurd (z i (by omega)) (by omega), rfl⟩)⟩)
      exact loop n 0 2 (by omega) (Or.inl ⟨rfl, fun v hv => absurd hv (by omega)⟩)
    · refine s_iconst (-1) C dF_judge_16 (by decide) ?_
      exact hret _ _ _ dF_judge_17 rfl (Or.inr ⟨fun ⟨j, hj, e⟩ => c2 (by rw [(nI_eq hs (Nat.lt_of_lt_of_le hj (Nat.le_trans (p2_le g3) (by decide)))).mp e, Nat.shiftRight_eq_div_pow, Nat.div_eq_of_lt hj]), rfl⟩)
end
section
def roleQ (fi se wa : Nat → Nat) (m : Nat) (p r : Int32) : Prop := (∃ j, j < m ∧ p = nI j ∧ roleP fi se wa m j r) ∨ (¬ inR p m ∧ r = -1)
def slkQ (fi se wa : Nat → Nat) (n m : Nat) (p r : Int32) : Prop := (∃ j, j < n ∧ p = nI j ∧ slkP fi se wa m j r) ∨ (¬ inR p n ∧ r = -1)
def gnQ (fi se wa : Nat → Nat) (n m : Nat) (p r : Int32) : Prop := (∃ j, j < n ∧ p = nI j ∧ gnP fi se wa m j r) ∨ (¬ inR p n ∧ r = -1)
def bndQ (fi se wa : Nat → Nat) (n m : Nat) (p q r : Int32) : Prop := (∃ a b, a < 2 ^ n ∧ b < 2 ^ n ∧ dsj a b ∧ p = nI a ∧ q = nI b ∧ r = nI (bnd fi se n m wa a b)) ∨ ((¬ ∃ a b, a < 2 ^ n ∧ b < 2 ^ n ∧ dsj a b ∧ p = nI a ∧ q = nI b) ∧ r = -1)
def witQ (fi se wa : Nat → Nat) (n m : Nat) (q r : Int32) : Prop := (∃ u w, isWit fi se wa n m u w ∧ ((q = nI 0 ∧ r = nI u) ∨ (q = nI 1 ∧ r = nI w))) ∨ (¬ inR q 2 ∧ r = -1)
theorem and_dsj {a b : Nat} : a &&& b = 0 ↔ dsj a b := by
  constructor
  · intro h v hv
    have : bm (a &&& b) v = false := by rw [h, bm_0]
    rw [bm_and, hv.1, hv.2] at this
    cases this
  · intro h
    refine Classical.byContradiction (fun q => ?_)
    obtain ⟨i, hi⟩ := bm_ne0.mp q
    rw [bm_and] at hi
    simp only [Bool.and_eq_true] at hi
    exact h i hi
theorem or_shr {a b n : Nat} : (a ||| b) >>> n = 0 ↔ a < 2 ^ n ∧ b < 2 ^ n := by
  rw [Nat.shiftRight_eq_div_pow, Nat.div_eq_zero_iff_lt (Nat.two_pow_pos n)]
  constructor
  · intro h
    exact ⟨Nat.lt_of_le_of_lt Nat.left_le_or h, Nat.lt_of_le_of_lt Nat.right_le_or h⟩
  · rintro ⟨h1, h2⟩
    exact Nat.or_lt_two_pow h1 h2
theorem su_wa {wa : Nat → Nat} {n : Nat} (hn : n ≤ 9) (h : ∀ v, v < 9 → wa v ≤ 14) : su wa n ≤ 126 := by
  have : ∀ k, k ≤ 9 → su wa k ≤ 14 * k := by
    intro k
    induction k with
    | zero => intro _; exact Nat.le_refl _
    | succ k ih =>
      intro hk
      show su wa k + wa k ≤ 14 * (k + 1)
      have a1 := ih (by omega)
      have a2 := h k (by omega)
      omega
  have := this n hn
  omega
/-- an edge that has room is a fair set -/
theorem one_ed {fi se wa : Nat → Nat} {m j : Nat} (hfs : hok fi se 9 m) (hj : j < m) (h1 : 0 < wa (fi j)) (h2 : 0 < wa (se j)) {B : Nat → Bool} (hB : bst fi se 9 m wa B) : 1 ≤ hsz m B := by
  obtain ⟨f1, f2, f3⟩ := hfs j hj
  have hz : hsz m (fun _ => false) = 0 := su_z (fun i _ => rfl)
  have hd : ∀ v, hdg fi se m (fun _ => false) v = 0 := fun v => su_z (fun i _ => by simp)
  have hf : hfa fi se 9 m wa (bup (fun _ => false) j true) := by
    intro v hv
    rw [hdg_on hj rfl, hd v, hin_ind f3]
    by_cases q : v = fi j
    · subst q; rw [ind_s, ind_n f3]; omega
    · by_cases z : v = se j
      · subst z; rw [ind_s, ind_n q]; omega
      · rw [ind_n q, ind_n z]; omega
  have := hB.2.1 _ hf
  rw [hsz_on hj rfl, hz] at this
  omega
theorem lgW_O {fi se wa : Nat → Nat} {m j : Nat} {B : Nat → Bool} (hB : bst fi se 9 m wa B) (b : Bool) : (∃ M, hfa fi se 9 m wa M ∧ M j = b ∧ hsz m B ≤ hsz m M) ↔ lgW fi se wa m j B b := by
  constructor
  · rintro ⟨M, h1, h2, h3⟩
    exact ⟨M, h1, Nat.le_antisymm (hB.2.1 M h1) h3, h2⟩
  · rintro ⟨M, h1, h2, h3⟩
    exact ⟨M, h1, h3, by omega⟩
theorem no_room {fi se wa : Nat → Nat} {m j : Nat} {B : Nat → Bool} (hfs : hok fi se 9 m) (hj : j < m) (h : wa (fi j) = 0 ∨ wa (se j) = 0) : ¬ lgW fi se wa m j B true := by
  rintro ⟨M, h1, _, h3⟩
  obtain ⟨f1, f2, f3⟩ := hfs j hj
  have key : ∀ v, (fi j = v ∨ se j = v) → 1 ≤ hdg fi se m M v := by
    intro v hv
    have := su_mem (f := fun i => (M i).toNat * hin fi se i v) hj
    simp only [h3, Bool.toNat_true, hin_or hv] at this
    exact this
  rcases h with h | h
  · have a1 := key _ (Or.inl rfl)
    have a2 := h1 _ f1
    omega
  · have a1 := key _ (Or.inr rfl)
    have a2 := h1 _ f2
    omega
set_option maxHeartbeats 4000000 in
set_option maxRecDepth 100000 in
/-- most -/
theorem kF_most (l : Launch) (D : va_G) (cA : ClassId) (x k h s b1 b2 b3 b4 b5 g a1 a2 a3 o1 o2 o3 o4 o5 : Nat) (N : Nat) (hd tl : Nat → Nat) (TW LF AH : Nat → Int32) (en fs fc : Int32) (n m : Nat) (fi se wa : Nat → Nat) (so ta ex bs bc wu ww : Int32) (hG : GOK n m fi se wa) (hS : knS fi se wa m so bs bc)  : CtI (S := SrT × Int32 × Int32 × Int32) l yF_most (.code yF_most cF_most 1 (some .int)) 23 0 0 D cA [.ref x] [(x, .inr (4, [.ref g, .ref s, .ref h, .ref k])), (s, .inr (3, [.int (nI N), .ref b1, .ref b2, .ref b3, .ref b4, .ref b5, .int en, .int fs, .int fc])), (b1, .inl (cA, 14, .inl (aN hd))), (b2, .inl (cA, 14, .inl (aN tl))), (b3, .inl (cA, 14, .inl TW)), (b4, .inl (cA, 9, .inl LF)), (b5, .inl (cA, 9, .inl AH)), (g, .inr (2, [.int (nI n), .int (nI m), .ref a1, .ref a2, .ref a3])), (a1, .inl (cA, 14, .inl (aN fi))), (a2, .inl (cA, 14, .inl (aN se))), (a3, .inl (cA, 9, .inl (aN wa))), (k, .inr (0, [.int so, .int ta, .int ex, .int bs, .int bc, .int wu, .int ww]))] (fun r u => knS fi se wa m u.2.1 u.2.2.1 u.2.2.2 ∧ mostP fi se wa m r) (fun u => [(x, .inr (4, [.ref g, .ref s, .ref h, .ref k])), (s, .inr (3, [.int (nI u.1.1), .ref b1, .ref b2, .ref b3, .ref b4, .ref b5, .int u.1.2.2.2.2.2.2.1, .int u.1.2.2.2.2.2.2.2.1, .int u.1.2.2.2.2.2.2.2.2])), (b1, .inl (cA, 14, .inl (aN u.1.2.1))), (b2, .inl (cA, 14, .inl (aN u.1.2.2.1))), (b3, .inl (cA, 14, .inl u.1.2.2.2.1)), (b4, .inl (cA, 9, .inl u.1.2.2.2.2.1)), (b5, .inl (cA, 9, .inl u.1.2.2.2.2.2.1)), (g, .inr (2, [.int (nI n), .int (nI m), .ref a1, .ref a2, .ref a3])), (a1, .inl (cA, 14, .inl (aN fi))), (a2, .inl (cA, 14, .inl (aN se))), (a3, .inl (cA, 9, .inl (aN wa))), (k, .inr (0, [.int u.2.1, .int ta, .int ex, .int u.2.2.1, .int u.2.2.2, .int wu, .int ww]))]) := by
  refine mkI [(0, .ref x)] (by decide) rfl (Nat.le_of_ble_eq_true rfl) ?_
  intro E A Q hE C hA hret
  have hG0 := hG
  obtain ⟨g1, g2, g3, g4, g5, g6⟩ := hG
  have hf9 := hok_9 g2 g4
  refine s_aload_n 0 C dF_most_0 rfl ?_
  refine s_callV (n := 0) (wr := []) [0, 1, 2, 3, 4, 5, 6, 7, 8, 9, 10, 11] [] 0 [] C hA (kF_solve E.2.1 D cA x k h s b1 b2 b3 b4 b5 g a1 a2 a3 o1 o2 o3 o4 o5 N hd tl TW LF AH en fs fc n m fi se wa so ta ex bs bc wu ww hG0 hS) gF_79 dF_most_1 (by decide +kernel) rfl rfl (by decide) (by decide) (by decide) rfl rfl rfl (by decide) (by decide) rfl rfl (Nat.le_of_ble_eq_true rfl) (Nat.zero_le _) (Nat.zero_le _) (fun u hu => ?_)
  refine s_sub (ws' := [(x, .inr (4, [.ref g, .ref s, .ref h, .ref k])), (s, .inr (3, [.int (nI u.1.1), .ref b1, .ref b2, .ref b3, .ref b4, .ref b5, .int u.1.2.2.2.2.2.2.1, .int u.1.2.2.2.2.2.2.2.1, .int u.1.2.2.2.2.2.2.2.2])), (b1, .inl (cA, 14, .inl (aN u.1.2.1))), (b2, .inl (cA, 14, .inl (aN u.1.2.2.1))), (b3, .inl (cA, 14, .inl u.1.2.2.2.1)), (b4, .inl (cA, 9, .inl u.1.2.2.2.2.1)), (b5, .inl (cA, 9, .inl u.1.2.2.2.2.2.1)), (g, .inr (2, [.int (nI n), .int (nI m), .ref a1, .ref a2, .ref a3])), (a1, .inl (cA, 14, .inl (aN fi))), (a2, .inl (cA, 14, .inl (aN se))), (a3, .inl (cA, 9, .inl (aN wa))), (k, .inr (0, [.int (nI 1), .int ta, .int ex, .int u.2.1, .int u.2.2, .int wu, .int ww]))]) [0, 1, 2, 3, 4, 5, 6, 7, 8, 9, 10, 11] rfl (by decide) ?_
  obtain ⟨B, hB1, hB2, hB3, hB4⟩ := hu
  obtain ⟨sr2, bs2, bc2⟩ := u
  dsimp only at hB3 hB4
  subst hB3
  subst hB4
  refine s_eqw (ws' := [(x, .inr (4, [.ref g, .ref s, .ref h, .ref k])), (s, .inr (3, [.int (nI sr2.1), .ref b1, .ref b2, .ref b3, .ref b4, .ref b5, .int sr2.2.2.2.2.2.2.1, .int sr2.2.2.2.2.2.2.2.1, .int sr2.2.2.2.2.2.2.2.2])), (b1, .inl (cA, 14, .inl (aN sr2.2.1))), (b2, .inl (cA, 14, .inl (aN sr2.2.2.1))), (b3, .inl (cA, 14, .inl sr2.2.2.2.1)), (b4, .inl (cA, 9, .inl sr2.2.2.2.2.1)), (b5, .inl (cA, 9, .inl sr2.2.2.2.2.2.1)), (g, .inr (2, [.int (nI n), .int (nI m), .ref a1, .ref a2, .ref a3])), (a1, .inl (cA, 14, .inl (aN fi))), (a2, .inl (cA, 14, .inl (aN se))), (a3, .inl (cA, 9, .inl (aN wa))), (k, .inr (0, [.int (nI 1), .int ta, .int ex, .int (nI B), .int (nI (hsz m (bm B))), .int wu, .int ww]))]) rfl ?_
  have hzm := hsz_le m (bm B)
  have hB14 : B < 2 ^ 14 := Nat.lt_of_lt_of_le hB1 (p2_le g3)
  refine s_aload_n 0 C dF_most_4 rfl ?_
  refine s_get (.ref k) 0 3 C wfP inF flF_33 dF_most_5 rfl rfl (by decide) rfl ?_
  refine s_get (.int (nI (hsz m (bm B)))) 11 4 C wfP inA flF_82 dF_most_8 rfl rfl (by decide) rfl ?_
  exact hret _ (sr2, nI 1, nI B, nI (hsz m (bm B))) _ _ dF_most_11 rfl ⟨Or.inr ⟨rfl, B, hB1, hB2, rfl, rfl⟩, ⟨bm B, hB2, rfl⟩⟩
set_option maxHeartbeats 4000000 in
set_option maxRecDepth 100000 in
/-- best -/
theorem kF_best (l : Launch) (D : va_G) (cA : ClassId) (x k h s b1 b2 b3 b4 b5 g a1 a2 a3 o1 o2 o3 o4 o5 : Nat) (N : Nat) (hd tl : Nat → Nat) (TW LF AH : Nat → Int32) (en fs fc : Int32) (n m : Nat) (fi se wa : Nat → Nat) (so ta ex bs bc wu ww : Int32) (hG : GOK n m fi se wa) (hS : knS fi se wa m so bs bc)  : CtI (S := SrT × Int32 × Int32 × Int32) l yF_best (.code yF_best cF_best 1 (some .int)) 23 0 0 D cA [.ref x] [(x, .inr (4, [.ref g, .ref s, .ref h, .ref k])), (s, .inr (3, [.int (nI N), .ref b1, .ref b2, .ref b3, .ref b4, .ref b5, .int en, .int fs, .int fc])), (b1, .inl (cA, 14, .inl (aN hd))), (b2, .inl (cA, 14, .inl (aN tl))), (b3, .inl (cA, 14, .inl TW)), (b4, .inl (cA, 9, .inl LF)), (b5, .inl (cA, 9, .inl AH)), (g, .inr (2, [.int (nI n), .int (nI m), .ref a1, .ref a2, .ref a3])), (a1, .inl (cA, 14, .inl (aN fi))), (a2, .inl (cA, 14, .inl (aN se))), (a3, .inl (cA, 9, .inl (aN wa))), (k, .inr (0, [.int so, .int ta, .int ex, .int bs, .int bc, .int wu, .int ww]))] (fun r u => knS fi se wa m u.2.1 u.2.2.1 u.2.2.2 ∧ bestP fi se wa m r) (fun u => [(x, .inr (4, [.ref g, .ref s, .ref h, .ref k])), (s, .inr (3, [.int (nI u.1.1), .ref b1, .ref b2, .ref b3, .ref b4, .ref b5, .int u.1.2.2.2.2.2.2.1, .int u.1.2.2.2.2.2.2.2.1, .int u.1.2.2.2.2.2.2.2.2])), (b1, .inl (cA, 14, .inl (aN u.1.2.1))), (b2, .inl (cA, 14, .inl (aN u.1.2.2.1))), (b3, .inl (cA, 14, .inl u.1.2.2.2.1)), (b4, .inl (cA, 9, .inl u.1.2.2.2.2.1)), (b5, .inl (cA, 9, .inl u.1.2.2.2.2.2.1)), (g, .inr (2, [.int (nI n), .int (nI m), .ref a1, .ref a2, .ref a3])), (a1, .inl (cA, 14, .inl (aN fi))), (a2, .inl (cA, 14, .inl (aN se))), (a3, .inl (cA, 9, .inl (aN wa))), (k, .inr (0, [.int u.2.1, .int ta, .int ex, .int u.2.2.1, .int u.2.2.2, .int wu, .int ww]))]) := by
  refine mkI [(0, .ref x)] (by decide) rfl (Nat.le_of_ble_eq_true rfl) ?_
  intro E A Q hE C hA hret
  have hG0 := hG
  obtain ⟨g1, g2, g3, g4, g5, g6⟩ := hG
  have hf9 := hok_9 g2 g4
  refine s_aload_n 0 C dF_best_0 rfl ?_
  refine s_callV (n := 0) (wr := []) [0, 1, 2, 3, 4, 5, 6, 7, 8, 9, 10, 11] [] 0 [] C hA (kF_solve E.2.1 D cA x k h s b1 b2 b3 b4 b5 g a1 a2 a3 o1 o2 o3 o4 o5 N hd tl TW LF AH en fs fc n m fi se wa so ta ex bs bc wu ww hG0 hS) gF_79 dF_best_1 (by decide +kernel) rfl rfl (by decide) (by decide) (by decide) rfl rfl rfl (by decide) (by decide) rfl rfl (Nat.le_of_ble_eq_true rfl) (Nat.zero_le _) (Nat.zero_le _) (fun u hu => ?_)
  refine s_sub (ws' := [(x, .inr (4, [.ref g, .ref s, .ref h, .ref k])), (s, .inr (3, [.int (nI u.1.1), .ref b1, .ref b2, .ref b3, .ref b4, .ref b5, .int u.1.2.2.2.2.2.2.1, .int u.1.2.2.2.2.2.2.2.1, .int u.1.2.2.2.2.2.2.2.2])), (b1, .inl (cA, 14, .inl (aN u.1.2.1))), (b2, .inl (cA, 14, .inl (aN u.1.2.2.1))), (b3, .inl (cA, 14, .inl u.1.2.2.2.1)), (b4, .inl (cA, 9, .inl u.1.2.2.2.2.1)), (b5, .inl (cA, 9, .inl u.1.2.2.2.2.2.1)), (g, .inr (2, [.int (nI n), .int (nI m), .ref a1, .ref a2, .ref a3])), (a1, .inl (cA, 14, .inl (aN fi))), (a2, .inl (cA, 14, .inl (aN se))), (a3, .inl (cA, 9, .inl (aN wa))), (k, .inr (0, [.int (nI 1), .int ta, .int ex, .int u.2.1, .int u.2.2, .int wu, .int ww]))]) [0, 1, 2, 3, 4, 5, 6, 7, 8, 9, 10, 11] rfl (by decide) ?_
  obtain ⟨B, hB1, hB2, hB3, hB4⟩ := hu
  obtain ⟨sr2, bs2, bc2⟩ := u
  dsimp only at hB3 hB4
  subst hB3
  subst hB4
  refine s_eqw (ws' := [(x, .inr (4, [.ref g, .ref s, .ref h, .ref k])), (s, .inr (3, [.int (nI sr2.1), .ref b1, .ref b2, .ref b3, .ref b4, .ref b5, .int sr2.2.2.2.2.2.2.1, .int sr2.2.2.2.2.2.2.2.1, .int sr2.2.2.2.2.2.2.2.2])), (b1, .inl (cA, 14, .inl (aN sr2.2.1))), (b2, .inl (cA, 14, .inl (aN sr2.2.2.1))), (b3, .inl (cA, 14, .inl sr2.2.2.2.1)), (b4, .inl (cA, 9, .inl sr2.2.2.2.2.1)), (b5, .inl (cA, 9, .inl sr2.2.2.2.2.2.1)), (g, .inr (2, [.int (nI n), .int (nI m), .ref a1, .ref a2, .ref a3])), (a1, .inl (cA, 14, .inl (aN fi))), (a2, .inl (cA, 14, .inl (aN se))), (a3, .inl (cA, 9, .inl (aN wa))), (k, .inr (0, [.int (nI 1), .int ta, .int ex, .int (nI B), .int (nI (hsz m (bm B))), .int wu, .int ww]))]) rfl ?_
  have hzm := hsz_le m (bm B)
  have hB14 : B < 2 ^ 14 := Nat.lt_of_lt_of_le hB1 (p2_le g3)
  refine s_aload_n 0 C dF_best_4 rfl ?_
  refine s_get (.ref k) 0 3 C wfP inF flF_33 dF_best_5 rfl rfl (by decide) rfl ?_
  refine s_get (.int (nI B)) 11 3 C wfP inA flF_85 dF_best_8 rfl rfl (by decide) rfl ?_
  exact hret _ (sr2, nI 1, nI B, nI (hsz m (bm B))) _ _ dF_best_11 rfl ⟨Or.inr ⟨rfl, B, hB1, hB2, rfl, rfl⟩, ⟨B, hB1, hB2, rfl⟩⟩
set_option maxHeartbeats 4000000 in
set_option maxRecDepth 100000 in
/-- factor -/
theorem kF_factor (l : Launch) (D : va_G) (cA : ClassId) (x k h s b1 b2 b3 b4 b5 g a1 a2 a3 o1 o2 o3 o4 o5 : Nat) (N : Nat) (hd tl : Nat → Nat) (TW LF AH : Nat → Int32) (en fs fc : Int32) (n m : Nat) (fi se wa : Nat → Nat) (so ta ex bs bc wu ww : Int32) (hG : GOK n m fi se wa) (hS : knS fi se wa m so bs bc)  : CtI (S := SrT × Int32 × Int32 × Int32) l yF_factor (.code yF_factor cF_factor 1 (some .int)) 23 0 0 D cA [.ref x] [(x, .inr (4, [.ref g, .ref s, .ref h, .ref k])), (s, .inr (3, [.int (nI N), .ref b1, .ref b2, .ref b3, .ref b4, .ref b5, .int en, .int fs, .int fc])), (b1, .inl (cA, 14, .inl (aN hd))), (b2, .inl (cA, 14, .inl (aN tl))), (b3, .inl (cA, 14, .inl TW)), (b4, .inl (cA, 9, .inl LF)), (b5, .inl (cA, 9, .inl AH)), (g, .inr (2, [.int (nI n), .int (nI m), .ref a1, .ref a2, .ref a3])), (a1, .inl (cA, 14, .inl (aN fi))), (a2, .inl (cA, 14, .inl (aN se))), (a3, .inl (cA, 9, .inl (aN wa))), (k, .inr (0, [.int so, .int ta, .int ex, .int bs, .int bc, .int wu, .int ww]))] (fun r u => knS fi se wa m u.2.1 u.2.2.1 u.2.2.2 ∧ facP fi se wa n m r) (fun u => [(x, .inr (4, [.ref g, .ref s, .ref h, .ref k])), (s, .inr (3, [.int (nI u.1.1), .ref b1, .ref b2, .ref b3, .ref b4, .ref b5, .int u.1.2.2.2.2.2.2.1, .int u.1.2.2.2.2.2.2.2.1, .int u.1.2.2.2.2.2.2.2.2])), (b1, .inl (cA, 14, .inl (aN u.1.2.1))), (b2, .inl (cA, 14, .inl (aN u.1.2.2.1))), (b3, .inl (cA, 14, .inl u.1.2.2.2.1)), (b4, .inl (cA, 9, .inl u.1.2.2.2.2.1)), (b5, .inl (cA, 9, .inl u.1.2.2.2.2.2.1)), (g, .inr (2, [.int (nI n), .int (nI m), .ref a1, .ref a2, .ref a3])), (a1, .inl (cA, 14, .inl (aN fi))), (a2, .inl (cA, 14, .inl (aN se))), (a3, .inl (cA, 9, .inl (aN wa))), (k, .inr (0, [.int u.2.1, .int ta, .int ex, .int u.2.2.1, .int u.2.2.2, .int wu, .int ww]))]) := by
  refine mkI [(0, .ref x)] (by decide) rfl (Nat.le_of_ble_eq_true rfl) ?_
  intro E A Q hE C hA hret
  have hG0 := hG
  obtain ⟨g1, g2, g3, g4, g5, g6⟩ := hG
  have hf9 := hok_9 g2 g4
  refine s_aload_n 0 C dF_factor_0 rfl ?_
  refine s_callV (n := 0) (wr := []) [0, 1, 2, 3, 4, 5, 6, 7, 8, 9, 10, 11] [] 0 [] C hA (kF_solve E.2.1 D cA x k h s b1 b2 b3 b4 b5 g a1 a2 a3 o1 o2 o3 o4 o5 N hd tl TW LF AH en fs fc n m fi se wa so ta ex bs bc wu ww hG0 hS) gF_79 dF_factor_1 (by decide +kernel) rfl rfl (by decide) (by decide) (by decide) rfl rfl rfl (by decide) (by decide) rfl rfl (Nat.le_of_ble_eq_true rfl) (Nat.zero_le _) (Nat.zero_le _) (fun u hu => ?_)
  refine s_sub (ws' := [(x, .inr (4, [.ref g, .ref s, .ref h, .ref k])), (s, .inr (3, [.int (nI u.1.1), .ref b1, .ref b2, .ref b3, .ref b4, .ref b5, .int u.1.2.2.2.2.2.2.1, .int u.1.2.2.2.2.2.2.2.1, .int u.1.2.2.2.2.2.2.2.2])), (b1, .inl (cA, 14, .inl (aN u.1.2.1))), (b2, .inl (cA, 14, .inl (aN u.1.2.2.1))), (b3, .inl (cA, 14, .inl u.1.2.2.2.1)), (b4, .inl (cA, 9, .inl u.1.2.2.2.2.1)), (b5, .inl (cA, 9, .inl u.1.2.2.2.2.2.1)), (g, .inr (2, [.int (nI n), .int (nI m), .ref a1, .ref a2, .ref a3])), (a1, .inl (cA, 14, .inl (aN fi))), (a2, .inl (cA, 14, .inl (aN se))), (a3, .inl (cA, 9, .inl (aN wa))), (k, .inr (0, [.int (nI 1), .int ta, .int ex, .int u.2.1, .int u.2.2, .int wu, .int ww]))]) [0, 1, 2, 3, 4, 5, 6, 7, 8, 9, 10, 11] rfl (by decide) ?_
  obtain ⟨B, hB1, hB2, hB3, hB4⟩ := hu
  obtain ⟨sr2, bs2, bc2⟩ := u
  dsimp only at hB3 hB4
  subst hB3
  subst hB4
  refine s_eqw (ws' := [(x, .inr (4, [.ref g, .ref s, .ref h, .ref k])), (s, .inr (3, [.int (nI sr2.1), .ref b1, .ref b2, .ref b3, .ref b4, .ref b5, .int sr2.2.2.2.2.2.2.1, .int sr2.2.2.2.2.2.2.2.1, .int sr2.2.2.2.2.2.2.2.2])), (b1, .inl (cA, 14, .inl (aN sr2.2.1))), (b2, .inl (cA, 14, .inl (aN sr2.2.2.1))), (b3, .inl (cA, 14, .inl sr2.2.2.2.1)), (b4, .inl (cA, 9, .inl sr2.2.2.2.2.1)), (b5, .inl (cA, 9, .inl sr2.2.2.2.2.2.1)), (g, .inr (2, [.int (nI n), .int (nI m), .ref a1, .ref a2, .ref a3])), (a1, .inl (cA, 14, .inl (aN fi))), (a2, .inl (cA, 14, .inl (aN se))), (a3, .inl (cA, 9, .inl (aN wa))), (k, .inr (0, [.int (nI 1), .int ta, .int ex, .int (nI B), .int (nI (hsz m (bm B))), .int wu, .int ww]))]) rfl ?_
  have hzm := hsz_le m (bm B)
  have hB14 : B < 2 ^ 14 := Nat.lt_of_lt_of_le hB1 (p2_le g3)
  refine s_iconst (nI 2) C dF_factor_4 (by decide) ?_
  refine s_aload_n 0 C dF_factor_5 rfl ?_
  refine s_get (.ref k) 0 3 C wfP inF flF_33 dF_factor_6 rfl rfl (by decide) rfl ?_
  refine s_get (.int (nI (hsz m (bm B)))) 11 4 C wfP inA flF_82 dF_factor_9 rfl rfl (by decide) rfl ?_
  refine s_imulN C dF_factor_12 ?_
  refine s_aload_n 0 C dF_factor_13 rfl ?_
  refine s_get (.ref g) 0 0 C wfP inF flF_12 dF_factor_14 rfl rfl (by decide) rfl ?_
  refine s_callP (n := 0) [7, 10] 0 [.int (nI (2 * (hsz m (bm B))))] C wfP (kG_wantedByAll E.2.1 D cA g a1 a2 a3 n m wa g2 g5) gF_88 dF_factor_17 (by decide +kernel) rfl rfl rfl rfl (by decide) (by decide) rfl rfl (Nat.le_of_ble_eq_true rfl) (Nat.zero_le _) (Nat.zero_le _) (fun rw9 hw => ?_)
  refine s_top hw ?_
  have hsw := su_wa g2 g5
  refine s_icmp_neN 33 C dF_factor_20 (by decide) (by omega) (by omega) (fun c1 => ?_) (fun c1 => ?_)
  · refine s_iconst (-1) C dF_factor_33 (by decide) ?_
    exact hret _ (sr2, nI 1, nI B, nI (hsz m (bm B))) _ _ dF_factor_34 rfl ⟨Or.inr ⟨rfl, B, hB1, hB2, rfl, rfl⟩, fac_best g2 g3 g4 hB1 hB2 (Or.inr ⟨c1, rfl⟩)⟩
  · refine s_aload_n 0 C dF_factor_23 rfl ?_
    refine s_get (.ref k) 0 3 C wfP inF flF_33 dF_factor_24 rfl rfl (by decide) rfl ?_
    refine s_get (.int (nI B)) 11 3 C wfP inA flF_85 dF_factor_27 rfl rfl (by decide) rfl ?_
    refine s_goto (tgt := 34) C dF_factor_30 (by decide) ?_
    exact hret _ (sr2, nI 1, nI B, nI (hsz m (bm B))) _ _ dF_factor_34 rfl ⟨Or.inr ⟨rfl, B, hB1, hB2, rfl, rfl⟩, fac_best g2 g3 g4 hB1 hB2 (Or.inl ⟨c1, rfl⟩)⟩
set_option maxHeartbeats 4000000 in
set_option maxRecDepth 100000 in
/-- role -/
theorem kF_role (l : Launch) (D : va_G) (cA : ClassId) (x k h s b1 b2 b3 b4 b5 g a1 a2 a3 o1 o2 o3 o4 o5 : Nat) (N : Nat) (hd tl : Nat → Nat) (TW LF AH : Nat → Int32) (en fs fc : Int32) (n m : Nat) (fi se wa : Nat → Nat) (so ta ex bs bc wu ww : Int32) (hG : GOK n m fi se wa) (hS : knS fi se wa m so bs bc) (p : Int32) : CtI (S := SrT × Int32 × Int32 × Int32) l yF_role (.code yF_role cF_role 3 (some .int)) 23 0 0 D cA [.ref x, .int p] [(x, .inr (4, [.ref g, .ref s, .ref h, .ref k])), (s, .inr (3, [.int (nI N), .ref b1, .ref b2, .ref b3, .ref b4, .ref b5, .int en, .int fs, .int fc])), (b1, .inl (cA, 14, .inl (aN hd))), (b2, .inl (cA, 14, .inl (aN tl))), (b3, .inl (cA, 14, .inl TW)), (b4, .inl (cA, 9, .inl LF)), (b5, .inl (cA, 9, .inl AH)), (g, .inr (2, [.int (nI n), .int (nI m), .ref a1, .ref a2, .ref a3])), (a1, .inl (cA, 14, .inl (aN fi))), (a2, .inl (cA, 14, .inl (aN se))), (a3, .inl (cA, 9, .inl (aN wa))), (k, .inr (0, [.int so, .int ta, .int ex, .int bs, .int bc, .int wu, .int ww]))] (fun r u => knS fi se wa m u.2.1 u.2.2.1 u.2.2.2 ∧ roleQ fi se wa m p r) (fun u => [(x, .inr (4, [.ref g, .ref s, .ref h, .ref k])), (s, .inr (3, [.int (nI u.1.1), .ref b1, .ref b2, .ref b3, .ref b4, .ref b5, .int u.1.2.2.2.2.2.2.1, .int u.1.2.2.2.2.2.2.2.1, .int u.1.2.2.2.2.2.2.2.2])), (b1, .inl (cA, 14, .inl (aN u.1.2.1))), (b2, .inl (cA, 14, .inl (aN u.1.2.2.1))), (b3, .inl (cA, 14, .inl u.1.2.2.2.1)), (b4, .inl (cA, 9, .inl u.1.2.2.2.2.1)), (b5, .inl (cA, 9, .inl u.1.2.2.2.2.2.1)), (g, .inr (2, [.int (nI n), .int (nI m), .ref a1, .ref a2, .ref a3])), (a1, .inl (cA, 14, .inl (aN fi))), (a2, .inl (cA, 14, .inl (aN se))), (a3, .inl (cA, 9, .inl (aN wa))), (k, .inr (0, [.int u.2.1, .int ta, .int ex, .int u.2.2.1, .int u.2.2.2, .int wu, .int ww]))]) := by
  refine mkI [(0, .ref x), (1, .int p)] (by decide) rfl (Nat.le_of_ble_eq_true rfl) ?_
  intro E A Q hE C hA hret
  have hG0 := hG
  obtain ⟨g1, g2, g3, g4, g5, g6⟩ := hG
  have hf9 := hok_9 g2 g4
  refine s_aload_n 0 C dF_role_0 rfl ?_
  refine s_get (.ref g) 0 0 C wfP inF flF_12 dF_role_1 rfl rfl (by decide) rfl ?_
  refine s_iload_n 1 C dF_role_4 rfl ?_
  refine s_callP (n := 1) [7] 0 [] C wfP (kG_hasEdge E.2.1 D cA g a1 a2 a3 n m p (by omega) (by omega)) gF_56 dF_role_5 (by decide +kernel) rfl rfl rfl rfl (by decide) (by decide) rfl rfl (Nat.le_of_ble_eq_true rfl) (Nat.zero_le _) (Nat.zero_le _) (fun rhv hv => ?_)
  rcases hv with ⟨er, hin⟩ | ⟨er, hin⟩
  · refine s_top er ?_
    refine s_if_neN 13 C dF_role_8 (by decide) (by decide) (fun c1 => ?_) (fun c1 => ?_)
    · obtain ⟨j, hj, rfl⟩ := hin
      refine s_aload_n 0 C dF_role_13 rfl ?_
      refine s_callV (n := 0) (wr := []) [0, 1, 2, 3, 4, 5, 6, 7, 8, 9, 10, 11] [] 0 [] C hA (kF_solve E.2.1 D cA x k h s b1 b2 b3 b4 b5 g a1 a2 a3 o1 o2 o3 o4 o5 N hd tl TW LF AH en fs fc n m fi se wa so ta ex bs bc wu ww hG0 hS) gF_79 dF_role_14 (by decide +kernel) rfl rfl (by decide) (by decide) (by decide) rfl rfl rfl (by decide) (by decide) rfl rfl (Nat.le_of_ble_eq_true rfl) (Nat.zero_le _) (Nat.zero_le _) (fun u hu => ?_)
      refine s_sub (ws' := [(x, .inr (4, [.ref g, .ref s, .ref h, .ref k])), (s, .inr (3, [.int (nI u.1.1), .ref b1, .ref b2, .ref b3, .ref b4, .ref b5, .int u.1.2.2.2.2.2.2.1, .int u.1.2.2.2.2.2.2.2.1, .int u.1.2.2.2.2.2.2.2.2])), (b1, .inl (cA, 14, .inl (aN u.1.2.1))), (b2, .inl (cA, 14, .inl (aN u.1.2.2.1))), (b3, .inl (cA, 14, .inl u.1.2.2.2.1)), (b4, .inl (cA, 9, .inl u.1.2.2.2.2.1)), (b5, .inl (cA, 9, .inl u.1.2.2.2.2.2.1)), (g, .inr (2, [.int (nI n), .int (nI m), .ref a1, .ref a2, .ref a3])), (a1, .inl (cA, 14, .inl (aN fi))), (a2, .inl (cA, 14, .inl (aN se))), (a3, .inl (cA, 9, .inl (aN wa))), (k, .inr (0, [.int (nI 1), .int ta, .int ex, .int u.2.1, .int u.2.2, .int wu, .int ww]))]) [0, 1, 2, 3, 4, 5, 6, 7, 8, 9, 10, 11] rfl (by decide) ?_
      obtain ⟨B, hB1, hB2, hB3, hB4⟩ := hu
      obtain ⟨sr2, bs2, bc2⟩ := u
      dsimp only at hB3 hB4
      subst hB3
      subst hB4
      refine s_eqw (ws' := [(x, .inr (4, [.ref g, .ref s, .ref h, .ref k])), (s, .inr (3, [.int (nI sr2.1), .ref b1, .ref b2, .ref b3, .ref b4, .ref b5, .int sr2.2.2.2.2.2.2.1, .int sr2.2.2.2.2.2.2.2.1, .int sr2.2.2.2.2.2.2.2.2])), (b1, .inl (cA, 14, .inl (aN sr2.2.1))), (b2, .inl (cA, 14, .inl (aN sr2.2.2.1))), (b3, .inl (cA, 14, .inl sr2.2.2.2.1)), (b4, .inl (cA, 9, .inl sr2.2.2.2.2.1)), (b5, .inl (cA, 9, .inl sr2.2.2.2.2.2.1)), (g, .inr (2, [.int (nI n), .int (nI m), .ref a1, .ref a2, .ref a3])), (a1, .inl (cA, 14, .inl (aN fi))), (a2, .inl (cA, 14, .inl (aN se))), (a3, .inl (cA, 9, .inl (aN wa))), (k, .inr (0, [.int (nI 1), .int ta, .int ex, .int (nI B), .int (nI (hsz m (bm B))), .int wu, .int ww]))]) rfl ?_
      have hzm := hsz_le m (bm B)
      have hB14 : B < 2 ^ 14 := Nat.lt_of_lt_of_le hB1 (p2_le g3)
      refine s_aload_n 0 C dF_role_17 rfl ?_
      refine s_get (.ref s) 0 1 C wfP inF flF_19 dF_role_18 rfl rfl (by decide) rfl ?_
      refine s_aload_n 0 C dF_role_21 rfl ?_
      refine s_get (.ref g) 0 0 C wfP inF flF_12 dF_role_22 rfl rfl (by decide) rfl ?_
      refine s_iload_n 1 C dF_role_25 rfl ?_
      refine s_callV (n := 2) (wr := [(x, .inr (4, [.ref g, .ref s, .ref h, .ref k])), (k, .inr (0, [.int (nI 1), .int ta, .int ex, .int (nI B), .int (nI (hsz m (bm B))), .int wu, .int ww]))]) [1, 2, 3, 4, 5, 6, 7, 8, 9, 10] [0, 11] 0 [] C hA (kS_load E.2.1 D cA s b1 b2 b3 b4 b5 sr2.1 sr2.2.1 sr2.2.2.1 sr2.2.2.2.1 sr2.2.2.2.2.1 sr2.2.2.2.2.2.1 sr2.2.2.2.2.2.2.1 sr2.2.2.2.2.2.2.2.1 sr2.2.2.2.2.2.2.2.2 g a1 a2 a3 n m fi se wa j (nI j) g3 (hok_9 g2 g4) (wo_e g3 hj)) gF_92 dF_role_26 (by decide +kernel) rfl rfl (by decide) (by decide) (by decide) rfl rfl rfl (by decide) (by decide) rfl rfl (Nat.le_of_ble_eq_true rfl) (Nat.zero_le _) (Nat.zero_le _) (fun u hu => ?_)
      refine s_sub (ws' := [(x, .inr (4, [.ref g, .ref s, .ref h, .ref k])), (s, .inr (3, [.int (nI (ldN m j)), .ref b1, .ref b2, .ref b3, .ref b4, .ref b5, .int sr2.2.2.2.2.2.2.1, .int sr2.2.2.2.2.2.2.2.1, .int sr2.2.2.2.2.2.2.2.2])), (b1, .inl (cA, 14, .inl (aN u.1))), (b2, .inl (cA, 14, .inl (aN u.2.1))), (b3, .inl (cA, 14, .inl u.2.2.1)), (b4, .inl (cA, 9, .inl (aN wa))), (b5, .inl (cA, 9, .inl (aN u.2.2.2))), (g, .inr (2, [.int (nI n), .int (nI m), .ref a1, .ref a2, .ref a3])), (a1, .inl (cA, 14, .inl (aN fi))), (a2, .inl (cA, 14, .inl (aN se))), (a3, .inl (cA, 9, .inl (aN wa))), (k, .inr (0, [.int (nI 1), .int ta, .int ex, .int (nI B), .int (nI (hsz m (bm B))), .int wu, .int ww]))]) [0, 2, 3, 4, 5, 6, 7, 8, 9, 10, 11, 1] rfl (by decide) ?_
      have eN : ldN m j = m - 1 := by unfold ldN; rw [if_neg (by omega)]
      have hh : ∀ i, i < m - 1 → ∀ v, hin u.1 u.2.1 i v = hin fi se (sk j i) v := fun i hi => ld_hin hu i (by rw [eN]; exact hi)
      obtain ⟨f1, f2, f3⟩ := hf9 j hj
      have hwf := g5 _ f1
      have hws := g5 _ f2
      refine s_aload_n 0 C dF_role_29 rfl ?_
      refine s_get (.ref k) 0 3 C wfP inF flF_33 dF_role_30 rfl rfl (by decide) rfl ?_
      refine s_get (.int (nI B)) 11 3 C wfP inA flF_85 dF_role_33 rfl rfl (by decide) rfl ?_
      refine s_iload_n 1 C dF_role_36 rfl ?_
      refine s_ishrN C dF_role_37 (by omega) (by omega) ?_
      refine s_iconst (nI 1) C dF_role_38 (by decide) ?_
      refine s_bitN C dF_role_39 ?_
      refine s_iconst (nI 1) C dF_role_40 (by decide) ?_
      refine s_icmp_neN 67 C dF_role_41 (by decide) (bt31 _) (by decide) (fun c2 => ?_) (fun c2 => ?_)
      · have hbj : bm B j = false := by
          cases hh9 : bm B j with
          | false => rfl
          | true => rw [hh9] at c2; exact absurd rfl c2
        have hO : lgW fi se wa m j (bm B) false := ⟨bm B, hB2.1, rfl, hbj⟩
        refine s_aload_n 0 C dF_role_67 rfl ?_
        refine s_get (.ref s) 0 1 C wfP inF flF_19 dF_role_68 rfl rfl (by decide) rfl ?_
        refine s_aload_n 0 C dF_role_71 rfl ?_
        refine s_get (.ref g) 0 0 C wfP inF flF_12 dF_role_72 rfl rfl (by decide) rfl ?_
        refine s_get (.ref a1) 7 2 C wfP inG flF_69 dF_role_75 rfl rfl (by decide) rfl ?_
        refine s_iload_n 1 C dF_role_78 rfl ?_
        refine s_ialdN 8 C wfP dF_role_79 rfl (by omega) (by decide) ?_
        refine s_callI (n := 1) (wr := [(x, .inr (4, [.ref g, .ref s, .ref h, .ref k])), (b1, .inl (cA, 14, .inl (aN u.1))), (b2, .inl (cA, 14, .inl (aN u.2.1))), (b3, .inl (cA, 14, .inl u.2.2.1)), (b5, .inl (cA, 9, .inl (aN u.2.2.2))), (g, .inr (2, [.int (nI n), .int (nI m), .ref a1, .ref a2, .ref a3])), (a1, .inl (cA, 14, .inl (aN fi))), (a2, .inl (cA, 14, .inl (aN se))), (a3, .inl (cA, 9, .inl (aN wa))), (k, .inr (0, [.int (nI 1), .int ta, .int ex, .int (nI B), .int (nI (hsz m (bm B))), .int wu, .int ww]))]) [1, 5] [0, 2, 3, 4, 6, 7, 8, 9, 10, 11] 0 [] C hA (kS_lend E.2.1 D cA s b1 b2 b3 b4 b5 (ldN m j) wa sr2.2.2.2.2.2.2.1 sr2.2.2.2.2.2.2.2.1 sr2.2.2.2.2.2.2.2.2 (fi j) f1 (fun z hz => by have := g5 z hz; omega)) gF_99 dF_role_80 (by decide +kernel) rfl rfl (by decide) (by decide) (by decide) rfl rfl rfl (by decide) (by decide) rfl rfl (Nat.le_of_ble_eq_true rfl) (Nat.zero_le _) (Nat.zero_le _) (fun r L1 hl1 => ?_)
        refine s_sub (ws' := [(x, .inr (4, [.ref g, .ref s, .ref h, .ref k])), (s, .inr (3, [.int (nI (ldN m j)), .ref b1, .ref b2, .ref b3, .ref b4, .ref b5, .int sr2.2.2.2.2.2.2.1, .int sr2.2.2.2.2.2.2.2.1, .int sr2.2.2.2.2.2.2.2.2])), (b1, .inl (cA, 14, .inl (aN u.1))), (b2, .inl (cA, 14, .inl (aN u.2.1))), (b3, .inl (cA, 14, .inl u.2.2.1)), (b4, .inl (cA, 9, .inl L1)), (b5, .inl (cA, 9, .inl (aN u.2.2.2))), (g, .inr (2, [.int (nI n), .int (nI m), .ref a1, .ref a2, .ref a3])), (a1, .inl (cA, 14, .inl (aN fi))), (a2, .inl (cA, 14, .inl (aN se))), (a3, .inl (cA, 9, .inl (aN wa))), (k, .inr (0, [.int (nI 1), .int ta, .int ex, .int (nI B), .int (nI (hsz m (bm B))), .int wu, .int ww]))]) [0, 10, 1, 2, 3, 11, 4, 5, 6, 7, 8, 9] rfl (by decide) ?_
        rcases hl1 with ⟨hp1, er, eL⟩ | ⟨hp1, er⟩
        · refine s_top er ?_
          subst eL
          refine s_eqw (ws' := [(x, .inr (4, [.ref g, .ref s, .ref h, .ref k])), (s, .inr (3, [.int (nI (ldN m j)), .ref b1, .ref b2, .ref b3, .ref b4, .ref b5, .int sr2.2.2.2.2.2.2.1, .int sr2.2.2.2.2.2.2.2.1, .int sr2.2.2.2.2.2.2.2.2])), (b1, .inl (cA, 14, .inl (aN u.1))), (b2, .inl (cA, 14, .inl (aN u.2.1))), (b3, .inl (cA, 14, .inl u.2.2.1)), (b4, .inl (cA, 9, .inl (aN (dn1 wa (fi j))))), (b5, .inl (cA, 9, .inl (aN u.2.2.2))), (g, .inr (2, [.int (nI n), .int (nI m), .ref a1, .ref a2, .ref a3])), (a1, .inl (cA, 14, .inl (aN fi))), (a2, .inl (cA, 14, .inl (aN se))), (a3, .inl (cA, 9, .inl (aN wa))), (k, .inr (0, [.int (nI 1), .int ta, .int ex, .int (nI B), .int (nI (hsz m (bm B))), .int wu, .int ww]))]) rfl ?_
          refine s_if_eqN 109 C dF_role_83 (by decide) (by decide) (fun c3 => ?_) (fun c3 => ?_)
          · exact absurd c3 (by decide)
          · refine s_aload_n 0 C dF_role_86 rfl ?_
            refine s_get (.ref s) 0 1 C wfP inF flF_19 dF_role_87 rfl rfl (by decide) rfl ?_
            refine s_aload_n 0 C dF_role_90 rfl ?_
            refine s_get (.ref g) 0 0 C wfP inF flF_12 dF_role_91 rfl rfl (by decide) rfl ?_
            refine s_get (.ref a2) 7 3 C wfP inG flF_72 dF_role_94 rfl rfl (by decide) rfl ?_
            refine s_iload_n 1 C dF_role_97 rfl ?_
            refine s_ialdN 9 C wfP dF_role_98 rfl (by omega) (by decide) ?_
            refine s_callI (n := 1) (wr := [(x, .inr (4, [.ref g, .ref s, .ref h, .ref k])), (b1, .inl (cA, 14, .inl (aN u.1))), (b2, .inl (cA, 14, .inl (aN u.2.1))), (b3, .inl (cA, 14, .inl u.2.2.1)), (b5, .inl (cA, 9, .inl (aN u.2.2.2))), (g, .inr (2, [.int (nI n), .int (nI m), .ref a1, .ref a2, .ref a3])), (a1, .inl (cA, 14, .inl (aN fi))), (a2, .inl (cA, 14, .inl (aN se))), (a3, .inl (cA, 9, .inl (aN wa))), (k, .inr (0, [.int (nI 1), .int ta, .int ex, .int (nI B), .int (nI (hsz m (bm B))), .int wu, .int ww]))]) [1, 5] [0, 2, 3, 4, 6, 7, 8, 9, 10, 11] 0 [] C hA (kS_lend E.2.1 D cA s b1 b2 b3 b4 b5 (ldN m j) (dn1 wa (fi j)) sr2.2.2.2.2.2.2.1 sr2.2.2.2.2.2.2.2.1 sr2.2.2.2.2.2.2.2.2 (se j) f2 (fun z hz => by have := g5 z hz; unfold dn1 nup; split <;> omega)) gF_99 dF_role_99 (by decide +kernel) rfl rfl (by decide) (by decide) (by decide) rfl rfl rfl (by decide) (by decide) rfl rfl (Nat.le_of_ble_eq_true rfl) (Nat.zero_le _) (Nat.zero_le _) (fun r L2 hl2 => ?_)
            refine s_sub (ws' := [(x, .inr (4, [.ref g, .ref s, .ref h, .ref k])), (s, .inr (3, [.int (nI (ldN m j)), .ref b1, .ref b2, .ref b3, .ref b4, .ref b5, .int sr2.2.2.2.2.2.2.1, .int sr2.2.2.2.2.2.2.2.1, .int sr2.2.2.2.2.2.2.2.2])), (b1, .inl (cA, 14, .inl (aN u.1))), (b2, .inl (cA, 14, .inl (aN u.2.1))), (b3, .inl (cA, 14, .inl u.2.2.1)), (b4, .inl (cA, 9, .inl L2)), (b5, .inl (cA, 9, .inl (aN u.2.2.2))), (g, .inr (2, [.int (nI n), .int (nI m), .ref a1, .ref a2, .ref a3])), (a1, .inl (cA, 14, .inl (aN fi))), (a2, .inl (cA, 14, .inl (aN se))), (a3, .inl (cA, 9, .inl (aN wa))), (k, .inr (0, [.int (nI 1), .int ta, .int ex, .int (nI B), .int (nI (hsz m (bm B))), .int wu, .int ww]))]) [0, 10, 1, 2, 3, 11, 4, 5, 6, 7, 8, 9] rfl (by decide) ?_
            have hd2 : dn1 wa (fi j) (se j) = wa (se j) := nup_n (Ne.symm f3)
            rw [hd2] at hl2
            rcases hl2 with ⟨hp2, er2, eL⟩ | ⟨hp2, er2⟩
            · refine s_top er2 ?_
              subst eL
              refine s_eqw (ws' := [(x, .inr (4, [.ref g, .ref s, .ref h, .ref k])), (s, .inr (3, [.int (nI (ldN m j)), .ref b1, .ref b2, .ref b3, .ref b4, .ref b5, .int sr2.2.2.2.2.2.2.1, .int sr2.2.2.2.2.2.2.2.1, .int sr2.2.2.2.2.2.2.2.2])), (b1, .inl (cA, 14, .inl (aN u.1))), (b2, .inl (cA, 14, .inl (aN u.2.1))), (b3, .inl (cA, 14, .inl u.2.2.1)), (b4, .inl (cA, 9, .inl (aN (dn2 wa (fi j) (se j))))), (b5, .inl (cA, 9, .inl (aN u.2.2.2))), (g, .inr (2, [.int (nI n), .int (nI m), .ref a1, .ref a2, .ref a3])), (a1, .inl (cA, 14, .inl (aN fi))), (a2, .inl (cA, 14, .inl (aN se))), (a3, .inl (cA, 9, .inl (aN wa))), (k, .inr (0, [.int (nI 1), .int ta, .int ex, .int (nI B), .int (nI (hsz m (bm B))), .int wu, .int ww]))]) rfl ?_
              refine s_if_eqN 109 C dF_role_102 (by decide) (by decide) (fun c4 => ?_) (fun c4 => ?_)
              · exact absurd c4 (by decide)
              · refine s_iconst (nI 1) C dF_role_105 (by decide) ?_
                refine s_goto (tgt := 110) C dF_role_106 (by decide) ?_
                refine s_istore_n [(0, .ref x), (1, .int (nI j)), (2, .int (nI 1))] [1, 2, 0] C dF_role_110 (by decide) rfl ?_
                refine s_iload_n 2 C dF_role_111 rfl ?_
                refine s_if_eqN 138 C dF_role_112 (by decide) (by decide) (fun c5 => ?_) (fun c5 => ?_)
                · exact absurd c5 (by decide)
                · have h1n := one_ed hf9 hj hp1 hp2 hB2
                  refine s_aload_n 0 C dF_role_115 rfl ?_
                  refine s_get (.ref s) 0 1 C wfP inF flF_19 dF_role_116 rfl rfl (by decide) rfl ?_
                  refine s_aload_n 0 C dF_role_119 rfl ?_
                  refine s_get (.ref k) 0 3 C wfP inF flF_33 dF_role_120 rfl rfl (by decide) rfl ?_
                  refine s_get (.int (nI (hsz m (bm B)))) 11 4 C wfP inA flF_82 dF_role_123 rfl rfl (by decide) rfl ?_
                  refine s_iconst (nI 1) C dF_role_126 (by decide) ?_
                  refine s_isubN C dF_role_127 (by omega) ?_
                  refine s_callI (n := 1) (wr := [(x, .inr (4, [.ref g, .ref s, .ref h, .ref k])), (g, .inr (2, [.int (nI n), .int (nI m), .ref a1, .ref a2, .ref a3])), (a1, .inl (cA, 14, .inl (aN fi))), (a2, .inl (cA, 14, .inl (aN se))), (a3, .inl (cA, 9, .inl (aN wa))), (k, .inr (0, [.int (nI 1), .int ta, .int ex, .int (nI B), .int (nI (hsz m (bm B))), .int wu, .int ww]))]) [1, 2, 3, 4, 5, 6] [0, 7, 8, 9, 10, 11] 0 [] C hA (kS_reaches E.2.1 D cA s b1 b2 b3 b4 b5 (ldN m j) u.1 u.2.1 (dn2 wa (fi j) (se j)) u.2.2.2 u.2.2.1 sr2.2.2.2.2.2.2.1 sr2.2.2.2.2.2.2.2.1 sr2.2.2.2.2.2.2.2.2 (hsz m (bm B) - 1) (by omega) (by rw [eN]; omega) hu.1 hu.2.1 (fun z hz => by have := g5 z hz; rw [dn2_v f3]; omega) hu.2.2.2) gF_96 dF_role_128 (by decide +kernel) rfl rfl (by decide) (by decide) (by decide) rfl rfl rfl (by decide) (by decide) rfl rfl (Nat.le_of_ble_eq_true rfl) (Nat.zero_le _) (Nat.zero_le _) (fun r q hq => ?_)
                  refine s_sub (ws' := [(x, .inr (4, [.ref g, .ref s, .ref h, .ref k])), (s, .inr (3, [.int (nI (ldN m j)), .ref b1, .ref b2, .ref b3, .ref b4, .ref b5, .int (nI (hsz m (bm B) - 1)), .int (nI q.1), .int (nI q.2 - 1)])), (b1, .inl (cA, 14, .inl (aN u.1))), (b2, .inl (cA, 14, .inl (aN u.2.1))), (b3, .inl (cA, 14, .inl u.2.2.1)), (b4, .inl (cA, 9, .inl (aN (dn2 wa (fi j) (se j))))), (b5, .inl (cA, 9, .inl (aN u.2.2.2))), (g, .inr (2, [.int (nI n), .int (nI m), .ref a1, .ref a2, .ref a3])), (a1, .inl (cA, 14, .inl (aN fi))), (a2, .inl (cA, 14, .inl (aN se))), (a3, .inl (cA, 9, .inl (aN wa))), (k, .inr (0, [.int (nI 1), .int ta, .int ex, .int (nI B), .int (nI (hsz m (bm B))), .int wu, .int ww]))]) [0, 6, 7, 8, 9, 10, 11, 1, 2, 3, 4, 5] rfl (by decide) ?_
                  rw [eN] at hq
                  rw [sk_W hj hf9 hp1 hp2 hh, show hsz m (bm B) - 1 + 1 = hsz m (bm B) by omega, lgW_O hB2] at hq
                  rcases hq with ⟨er, hW⟩ | ⟨er, hW⟩
                  · refine s_top er ?_
                    refine s_if_eqN 138 C dF_role_131 (by decide) (by decide) (fun c6 => ?_) (fun c6 => ?_)
                    · exact absurd c6 (by decide)
                    · refine s_iconst (nI 1) C dF_role_134 (by decide) ?_
                      refine s_goto (tgt := 139) C dF_role_135 (by decide) ?_
                      exact hret _ ((ldN m j, u.1, u.2.1, u.2.2.1, aN (dn2 wa (fi j) (se j)), aN u.2.2.2, nI (hsz m (bm B) - 1), nI q.1, nI q.2 - 1), nI 1, nI B, nI (hsz m (bm B))) _ _ dF_role_139 rfl ⟨Or.inr ⟨rfl, B, hB1, hB2, rfl, rfl⟩, Or.inl ⟨j, hj, rfl, bm B, hB2, Or.inr (Or.inl ⟨hW, hO, rfl⟩)⟩⟩
                  · refine s_top er ?_
                    refine s_if_eqN 138 C dF_role_131 (by decide) (by decide) (fun c6 => ?_) (fun c6 => ?_)
                    · refine s_iconst (nI 0) C dF_role_138 (by decide) ?_
                      exact hret _ ((ldN m j, u.1, u.2.1, u.2.2.1, aN (dn2 wa (fi j) (se j)), aN u.2.2.2, nI (hsz m (bm B) - 1), nI q.1, nI q.2 - 1), nI 1, nI B, nI (hsz m (bm B))) _ _ dF_role_139 rfl ⟨Or.inr ⟨rfl, B, hB1, hB2, rfl, rfl⟩, Or.inl ⟨j, hj, rfl, bm B, hB2, Or.inl ⟨hW, rfl⟩⟩⟩
                    · exact absurd rfl c6
            · refine s_top er2 ?_
              refine s_if_eqN 109 C dF_role_102 (by decide) (by decide) (fun c3 => ?_) (fun c3 => ?_)
              · refine s_iconst (nI 0) C dF_role_109 (by decide) ?_
                refine s_istore_n [(0, .ref x), (1, .int (nI j)), (2, .int (nI 0))] [1, 2, 0] C dF_role_110 (by decide) rfl ?_
                refine s_iload_n 2 C dF_role_111 rfl ?_
                refine s_if_eqN 138 C dF_role_112 (by decide) (by decide) (fun c4 => ?_) (fun c4 => ?_)
                · refine s_iconst (nI 0) C dF_role_138 (by decide) ?_
                  exact hret _ ((ldN m j, u.1, u.2.1, u.2.2.1, L2, aN u.2.2.2, sr2.2.2.2.2.2.2.1, sr2.2.2.2.2.2.2.2.1, sr2.2.2.2.2.2.2.2.2), nI 1, nI B, nI (hsz m (bm B))) _ _ dF_role_139 rfl ⟨Or.inr ⟨rfl, B, hB1, hB2, rfl, rfl⟩, Or.inl ⟨j, hj, rfl, bm B, hB2, Or.inl ⟨no_room hf9 hj (Or.inr hp2), rfl⟩⟩⟩
                · exact absurd rfl c4
              · exact absurd rfl c3
        · refine s_top er ?_
          refine s_if_eqN 109 C dF_role_83 (by decide) (by decide) (fun c3 => ?_) (fun c3 => ?_)
          · refine s_iconst (nI 0) C dF_role_109 (by decide) ?_
            refine s_istore_n [(0, .ref x), (1, .int (nI j)), (2, .int (nI 0))] [1, 2, 0] C dF_role_110 (by decide) rfl ?_
            refine s_iload_n 2 C dF_role_111 rfl ?_
            refine s_if_eqN 138 C dF_role_112 (by decide) (by decide) (fun c4 => ?_) (fun c4 => ?_)
            · refine s_iconst (nI 0) C dF_role_138 (by decide) ?_
              exact hret _ ((ldN m j, u.1, u.2.1, u.2.2.1, L1, aN u.2.2.2, sr2.2.2.2.2.2.2.1, sr2.2.2.2.2.2.2.2.1, sr2.2.2.2.2.2.2.2.2), nI 1, nI B, nI (hsz m (bm B))) _ _ dF_role_139 rfl ⟨Or.inr ⟨rfl, B, hB1, hB2, rfl, rfl⟩, Or.inl ⟨j, hj, rfl, bm B, hB2, Or.inl ⟨no_room hf9 hj (Or.inl hp1), rfl⟩⟩⟩
            · exact absurd rfl c4
          · exact absurd rfl c3
      · have hbj : bm B j = true := bmT.mp c2
        have hW : lgW fi se wa m j (bm B) true := ⟨bm B, hB2.1, rfl, hbj⟩
        refine s_aload_n 0 C dF_role_44 rfl ?_
        refine s_get (.ref s) 0 1 C wfP inF flF_19 dF_role_45 rfl rfl (by decide) rfl ?_
        refine s_aload_n 0 C dF_role_48 rfl ?_
        refine s_get (.ref k) 0 3 C wfP inF flF_33 dF_role_49 rfl rfl (by decide) rfl ?_
        refine s_get (.int (nI (hsz m (bm B)))) 11 4 C wfP inA flF_82 dF_role_52 rfl rfl (by decide) rfl ?_
        refine s_callI (n := 1) (wr := [(x, .inr (4, [.ref g, .ref s, .ref h, .ref k])), (g, .inr (2, [.int (nI n), .int (nI m), .ref a1, .ref a2, .ref a3])), (a1, .inl (cA, 14, .inl (aN fi))), (a2, .inl (cA, 14, .inl (aN se))), (a3, .inl (cA, 9, .inl (aN wa))), (k, .inr (0, [.int (nI 1), .int ta, .int ex, .int (nI B), .int (nI (hsz m (bm B))), .int wu, .int ww]))]) [1, 2, 3, 4, 5, 6] [0, 7, 8, 9, 10, 11] 0 [] C hA (kS_reaches E.2.1 D cA s b1 b2 b3 b4 b5 (ldN m j) u.1 u.2.1 wa u.2.2.2 u.2.2.1 sr2.2.2.2.2.2.2.1 sr2.2.2.2.2.2.2.2.1 sr2.2.2.2.2.2.2.2.2 (hsz m (bm B)) (by omega) (by rw [eN]; omega) hu.1 hu.2.1 (fun z hz => by have := g5 z hz; omega) hu.2.2.2) gF_96 dF_role_55 (by decide +kernel) rfl rfl (by decide) (by decide) (by decide) rfl rfl rfl (by decide) (by decide) rfl rfl (Nat.le_of_ble_eq_true rfl) (Nat.zero_le _) (Nat.zero_le _) (fun r q hq => ?_)
        refine s_sub (ws' := [(x, .inr (4, [.ref g, .ref s, .ref h, .ref k])), (s, .inr (3, [.int (nI (ldN m j)), .ref b1, .ref b2, .ref b3, .ref b4, .ref b5, .int (nI (hsz m (bm B))), .int (nI q.1), .int (nI q.2 - 1)])), (b1, .inl (cA, 14, .inl (aN u.1))), (b2, .inl (cA, 14, .inl (aN u.2.1))), (b3, .inl (cA, 14, .inl u.2.2.1)), (b4, .inl (cA, 9, .inl (aN wa))), (b5, .inl (cA, 9, .inl (aN u.2.2.2))), (g, .inr (2, [.int (nI n), .int (nI m), .ref a1, .ref a2, .ref a3])), (a1, .inl (cA, 14, .inl (aN fi))), (a2, .inl (cA, 14, .inl (aN se))), (a3, .inl (cA, 9, .inl (aN wa))), (k, .inr (0, [.int (nI 1), .int ta, .int ex, .int (nI B), .int (nI (hsz m (bm B))), .int wu, .int ww]))]) [0, 6, 7, 8, 9, 10, 11, 1, 2, 3, 4, 5] rfl (by decide) ?_
        rw [eN] at hq
        rw [sk_O hj hh, lgW_O hB2] at hq
        rcases hq with ⟨er, hO⟩ | ⟨er, hO⟩
        · refine s_top er ?_
          refine s_if_eqN 65 C dF_role_58 (by decide) (by decide) (fun c3 => ?_) (fun c3 => ?_)
          · exact absurd c3 (by decide)
          · refine s_iconst (nI 1) C dF_role_61 (by decide) ?_
            refine s_goto (tgt := 66) C dF_role_62 (by decide) ?_
            exact hret _ ((ldN m j, u.1, u.2.1, u.2.2.1, aN wa, aN u.2.2.2, nI (hsz m (bm B)), nI q.1, nI q.2 - 1), nI 1, nI B, nI (hsz m (bm B))) _ _ dF_role_66 rfl ⟨Or.inr ⟨rfl, B, hB1, hB2, rfl, rfl⟩, Or.inl ⟨j, hj, rfl, bm B, hB2, Or.inr (Or.inl ⟨hW, hO, rfl⟩)⟩⟩
        · refine s_top er ?_
          refine s_if_eqN 65 C dF_role_58 (by decide) (by decide) (fun c3 => ?_) (fun c3 => ?_)
          · refine s_iconst (nI 2) C dF_role_65 (by decide) ?_
            exact hret _ ((ldN m j, u.1, u.2.1, u.2.2.1, aN wa, aN u.2.2.2, nI (hsz m (bm B)), nI q.1, nI q.2 - 1), nI 1, nI B, nI (hsz m (bm B))) _ _ dF_role_66 rfl ⟨Or.inr ⟨rfl, B, hB1, hB2, rfl, rfl⟩, Or.inl ⟨j, hj, rfl, bm B, hB2, Or.inr (Or.inr ⟨hW, hO, rfl⟩)⟩⟩
          · exact absurd rfl c3
    · exact absurd c1 (by decide)
  · refine s_top er ?_
    refine s_if_neN 13 C dF_role_8 (by decide) (by decide) (fun c1 => ?_) (fun c1 => ?_)
    · exact absurd rfl c1
    · refine s_iconst (-1) C dF_role_11 (by decide) ?_
      exact hret _ ((N, hd, tl, TW, LF, AH, en, fs, fc), so, bs, bc) _ _ dF_role_12 rfl ⟨hS, Or.inr ⟨hin, rfl⟩⟩
set_option maxHeartbeats 4000000 in
set_option maxRecDepth 100000 in
/-- gain -/
theorem kF_gain (l : Launch) (D : va_G) (cA : ClassId) (x k h s b1 b2 b3 b4 b5 g a1 a2 a3 o1 o2 o3 o4 o5 : Nat) (N : Nat) (hd tl : Nat → Nat) (TW LF AH : Nat → Int32) (en fs fc : Int32) (n m : Nat) (fi se wa : Nat → Nat) (so ta ex bs bc wu ww : Int32) (hG : GOK n m fi se wa) (hS : knS fi se wa m so bs bc) (p : Int32) : CtI (S := SrT × Int32 × Int32 × Int32) l yF_gain (.code yF_gain cF_gain 2 (some .int)) 23 0 0 D cA [.ref x, .int p] [(x, .inr (4, [.ref g, .ref s, .ref h, .ref k])), (s, .inr (3, [.int (nI N), .ref b1, .ref b2, .ref b3, .ref b4, .ref b5, .int en, .int fs, .int fc])), (b1, .inl (cA, 14, .inl (aN hd))), (b2, .inl (cA, 14, .inl (aN tl))), (b3, .inl (cA, 14, .inl TW)), (b4, .inl (cA, 9, .inl LF)), (b5, .inl (cA, 9, .inl AH)), (g, .inr (2, [.int (nI n), .int (nI m), .ref a1, .ref a2, .ref a3])), (a1, .inl (cA, 14, .inl (aN fi))), (a2, .inl (cA, 14, .inl (aN se))), (a3, .inl (cA, 9, .inl (aN wa))), (k, .inr (0, [.int so, .int ta, .int ex, .int bs, .int bc, .int wu, .int ww]))] (fun r u => knS fi se wa m u.2.1 u.2.2.1 u.2.2.2 ∧ gnQ fi se wa n m p r) (fun u => [(x, .inr (4, [.ref g, .ref s, .ref h, .ref k])), (s, .inr (3, [.int (nI u.1.1), .ref b1, .ref b2, .ref b3, .ref b4, .ref b5, .int u.1.2.2.2.2.2.2.1, .int u.1.2.2.2.2.2.2.2.1, .int u.1.2.2.2.2.2.2.2.2])), (b1, .inl (cA, 14, .inl (aN u.1.2.1))), (b2, .inl (cA, 14, .inl (aN u.1.2.2.1))), (b3, .inl (cA, 14, .inl u.1.2.2.2.1)), (b4, .inl (cA, 9, .inl u.1.2.2.2.2.1)), (b5, .inl (cA, 9, .inl u.1.2.2.2.2.2.1)), (g, .inr (2, [.int (nI n), .int (nI m), .ref a1, .ref a2, .ref a3])), (a1, .inl (cA, 14, .inl (aN fi))), (a2, .inl (cA, 14, .inl (aN se))), (a3, .inl (cA, 9, .inl (aN wa))), (k, .inr (0, [.int u.2.1, .int ta, .int ex, .int u.2.2.1, .int u.2.2.2, .int wu, .int ww]))]) := by
  refine mkI [(0, .ref x), (1, .int p)] (by decide) rfl (Nat.le_of_ble_eq_true rfl) ?_
  intro E A Q hE C hA hret
  have hG0 := hG
  obtain ⟨g1, g2, g3, g4, g5, g6⟩ := hG
  have hf9 := hok_9 g2 g4
  refine s_aload_n 0 C dF_gain_0 rfl ?_
  refine s_get (.ref g) 0 0 C wfP inF flF_12 dF_gain_1 rfl rfl (by decide) rfl ?_
  refine s_iload_n 1 C dF_gain_4 rfl ?_
  refine s_callP (n := 1) [7] 0 [] C wfP (kG_hasVertex E.2.1 D cA g a1 a2 a3 n m p (by omega) (by omega)) gF_48 dF_gain_5 (by decide +kernel) rfl rfl rfl rfl (by decide) (by decide) rfl rfl (Nat.le_of_ble_eq_true rfl) (Nat.zero_le _) (Nat.zero_le _) (fun rhv hv => ?_)
  rcases hv with ⟨er, hin⟩ | ⟨er, hin⟩
  · refine s_top er ?_
    refine s_if_neN 13 C dF_gain_8 (by decide) (by decide) (fun c1 => ?_) (fun c1 => ?_)
    · obtain ⟨j, hj, rfl⟩ := hin
      refine s_aload_n 0 C dF_gain_13 rfl ?_
      refine s_callV (n := 0) (wr := []) [0, 1, 2, 3, 4, 5, 6, 7, 8, 9, 10, 11] [] 0 [] C hA (kF_solve E.2.1 D cA x k h s b1 b2 b3 b4 b5 g a1 a2 a3 o1 o2 o3 o4 o5 N hd tl TW LF AH en fs fc n m fi se wa so ta ex bs bc wu ww hG0 hS) gF_79 dF_gain_14 (by decide +kernel) rfl rfl (by decide) (by decide) (by decide) rfl rfl rfl (by decide) (by decide) rfl rfl (Nat.le_of_ble_eq_true rfl) (Nat.zero_le _) (Nat.zero_le _) (fun u hu => ?_)
      refine s_sub (ws' := [(x, .inr (4, [.ref g, .ref s, .ref h, .ref k])), (s, .inr (3, [.int (nI u.1.1), .ref b1, .ref b2, .ref b3, .ref b4, .ref b5, .int u.1.2.2.2.2.2.2.1, .int u.1.2.2.2.2.2.2.2.1, .int u.1.2.2.2.2.2.2.2.2])), (b1, .inl (cA, 14, .inl (aN u.1.2.1))), (b2, .inl (cA, 14, .inl (aN u.1.2.2.1))), (b3, .inl (cA, 14, .inl u.1.2.2.2.1)), (b4, .inl (cA, 9, .inl u.1.2.2.2.2.1)), (b5, .inl (cA, 9, .inl u.1.2.2.2.2.2.1)), (g, .inr (2, [.int (nI n), .int (nI m), .ref a1, .ref a2, .ref a3])), (a1, .inl (cA, 14, .inl (aN fi))), (a2, .inl (cA, 14, .inl (aN se))), (a3, .inl (cA, 9, .inl (aN wa))), (k, .inr (0, [.int (nI 1), .int ta, .int ex, .int u.2.1, .int u.2.2, .int wu, .int ww]))]) [0, 1, 2, 3, 4, 5, 6, 7, 8, 9, 10, 11] rfl (by decide) ?_
      obtain ⟨B, hB1, hB2, hB3, hB4⟩ := hu
      obtain ⟨sr2, bs2, bc2⟩ := u
      dsimp only at hB3 hB4
      subst hB3
      subst hB4
      refine s_eqw (ws' := [(x, .inr (4, [.ref g, .ref s, .ref h, .ref k])), (s, .inr (3, [.int (nI sr2.1), .ref b1, .ref b2, .ref b3, .ref b4, .ref b5, .int sr2.2.2.2.2.2.2.1, .int sr2.2.2.2.2.2.2.2.1, .int sr2.2.2.2.2.2.2.2.2])), (b1, .inl (cA, 14, .inl (aN sr2.2.1))), (b2, .inl (cA, 14, .inl (aN sr2.2.2.1))), (b3, .inl (cA, 14, .inl sr2.2.2.2.1)), (b4, .inl (cA, 9, .inl sr2.2.2.2.2.1)), (b5, .inl (cA, 9, .inl sr2.2.2.2.2.2.1)), (g, .inr (2, [.int (nI n), .int (nI m), .ref a1, .ref a2, .ref a3])), (a1, .inl (cA, 14, .inl (aN fi))), (a2, .inl (cA, 14, .inl (aN se))), (a3, .inl (cA, 9, .inl (aN wa))), (k, .inr (0, [.int (nI 1), .int ta, .int ex, .int (nI B), .int (nI (hsz m (bm B))), .int wu, .int ww]))]) rfl ?_
      have hzm := hsz_le m (bm B)
      have hB14 : B < 2 ^ 14 := Nat.lt_of_lt_of_le hB1 (p2_le g3)
      have hwj := g5 j (by omega)
      refine s_aload_n 0 C dF_gain_17 rfl ?_
      refine s_iload_n 1 C dF_gain_18 rfl ?_
      refine s_aload_n 0 C dF_gain_19 rfl ?_
      refine s_get (.ref g) 0 0 C wfP inF flF_12 dF_gain_20 rfl rfl (by decide) rfl ?_
      refine s_get (.ref a3) 7 4 C wfP inG flF_62 dF_gain_23 rfl rfl (by decide) rfl ?_
      refine s_iload_n 1 C dF_gain_26 rfl ?_
      refine s_ialdN 10 C wfP dF_gain_27 rfl (by omega) (by decide) ?_
      refine s_iconst (nI 1) C dF_gain_28 (by decide) ?_
      refine s_iaddN C dF_gain_29 ?_
      refine s_aload_n 0 C dF_gain_30 rfl ?_
      refine s_get (.ref k) 0 3 C wfP inF flF_33 dF_gain_31 rfl rfl (by decide) rfl ?_
      refine s_get (.int (nI (hsz m (bm B)))) 11 4 C wfP inA flF_82 dF_gain_34 rfl rfl (by decide) rfl ?_
      refine s_iconst (nI 1) C dF_gain_37 (by decide) ?_
      refine s_iaddN C dF_gain_38 ?_
      refine s_callI (n := 3) (wr := [(k, .inr (0, [.int (nI 1), .int ta, .int ex, .int (nI B), .int (nI (hsz m (bm B))), .int wu, .int ww]))]) [0, 1, 2, 3, 4, 5, 6, 7, 8, 9, 10] [11] 0 [] C hA (kF_reachesWith E.2.1 D cA x k h s b1 b2 b3 b4 b5 g a1 a2 a3 o1 o2 o3 o4 o5 sr2.1 sr2.2.1 sr2.2.2.1 sr2.2.2.2.1 sr2.2.2.2.2.1 sr2.2.2.2.2.2.1 sr2.2.2.2.2.2.2.1 sr2.2.2.2.2.2.2.2.1 sr2.2.2.2.2.2.2.2.2 n m fi se wa hG0 j (wa j + 1) (hsz m (bm B) + 1) (by omega) (by omega) (by omega)) gF_102 dF_gain_39 (by decide +kernel) rfl rfl (by decide) (by decide) (by decide) rfl rfl rfl (by decide) (by decide) rfl rfl (Nat.le_of_ble_eq_true rfl) (Nat.zero_le _) (Nat.zero_le _) (fun r u2 hq => ?_)
      refine s_sub (ws' := [(x, .inr (4, [.ref g, .ref s, .ref h, .ref k])), (s, .inr (3, [.int (nI u2.1), .ref b1, .ref b2, .ref b3, .ref b4, .ref b5, .int u2.2.2.2.2.2.2.1, .int u2.2.2.2.2.2.2.2.1, .int u2.2.2.2.2.2.2.2.2])), (b1, .inl (cA, 14, .inl (aN u2.2.1))), (b2, .inl (cA, 14, .inl (aN u2.2.2.1))), (b3, .inl (cA, 14, .inl u2.2.2.2.1)), (b4, .inl (cA, 9, .inl u2.2.2.2.2.1)), (b5, .inl (cA, 9, .inl u2.2.2.2.2.2.1)), (g, .inr (2, [.int (nI n), .int (nI m), .ref a1, .ref a2, .ref a3])), (a1, .inl (cA, 14, .inl (aN fi))), (a2, .inl (cA, 14, .inl (aN se))), (a3, .inl (cA, 9, .inl (aN wa))), (k, .inr (0, [.int (nI 1), .int ta, .int ex, .int (nI B), .int (nI (hsz m (bm B))), .int wu, .int ww]))]) [1, 2, 3, 4, 5, 6, 7, 8, 9, 10, 11, 0] rfl (by decide) ?_
      rcases hq with ⟨er, hr9⟩ | ⟨er, hr9⟩
      · refine s_top er ?_
        refine s_if_eqN 49 C dF_gain_42 (by decide) (by decide) (fun c3 => ?_) (fun c3 => ?_)
        · exact absurd c3 (by decide)
        · refine s_iconst (nI 1) C dF_gain_45 (by decide) ?_
          refine s_goto (tgt := 50) C dF_gain_46 (by decide) ?_
          exact hret _ (u2, nI 1, nI B, nI (hsz m (bm B))) _ _ dF_gain_50 rfl ⟨Or.inr ⟨rfl, B, hB1, hB2, rfl, rfl⟩, Or.inl ⟨j, hj, rfl, gn_is hf9 hB2 (Or.inl ⟨hr9, rfl⟩)⟩⟩
      · refine s_top er ?_
        refine s_if_eqN 49 C dF_gain_42 (by decide) (by decide) (fun c3 => ?_) (fun c3 => ?_)
        · refine s_iconst (nI 0) C dF_gain_49 (by decide) ?_
          exact hret _ (u2, nI 1, nI B, nI (hsz m (bm B))) _ _ dF_gain_50 rfl ⟨Or.inr ⟨rfl, B, hB1, hB2, rfl, rfl⟩, Or.inl ⟨j, hj, rfl, gn_is hf9 hB2 (Or.inr ⟨hr9, rfl⟩)⟩⟩
        · exact absurd rfl c3
    · exact absurd c1 (by decide)
  · refine s_top er ?_
    refine s_if_neN 13 C dF_gain_8 (by decide) (by decide) (fun c1 => ?_) (fun c1 => ?_)
    · exact absurd rfl c1
    · refine s_iconst (-1) C dF_gain_11 (by decide) ?_
      exact hret _ ((N, hd, tl, TW, LF, AH, en, fs, fc), so, bs, bc) _ _ dF_gain_12 rfl ⟨hS, Or.inr ⟨hin, rfl⟩⟩
set_option maxHeartbeats 4000000 in
set_option maxRecDepth 100000 in
/-- slack -/
theorem kF_slack (l : Launch) (D : va_G) (cA : ClassId) (x k h s b1 b2 b3 b4 b5 g a1 a2 a3 o1 o2 o3 o4 o5 : Nat) (N : Nat) (hd tl : Nat → Nat) (TW LF AH : Nat → Int32) (en fs fc : Int32) (n m : Nat) (fi se wa : Nat → Nat) (so ta ex bs bc wu ww : Int32) (hG : GOK n m fi se wa) (hS : knS fi se wa m so bs bc) (p : Int32) : CtI (S := SrT × Int32 × Int32 × Int32) l yF_slack (.code yF_slack cF_slack 3 (some .int)) 23 0 0 D cA [.ref x, .int p] [(x, .inr (4, [.ref g, .ref s, .ref h, .ref k])), (s, .inr (3, [.int (nI N), .ref b1, .ref b2, .ref b3, .ref b4, .ref b5, .int en, .int fs, .int fc])), (b1, .inl (cA, 14, .inl (aN hd))), (b2, .inl (cA, 14, .inl (aN tl))), (b3, .inl (cA, 14, .inl TW)), (b4, .inl (cA, 9, .inl LF)), (b5, .inl (cA, 9, .inl AH)), (g, .inr (2, [.int (nI n), .int (nI m), .ref a1, .ref a2, .ref a3])), (a1, .inl (cA, 14, .inl (aN fi))), (a2, .inl (cA, 14, .inl (aN se))), (a3, .inl (cA, 9, .inl (aN wa))), (k, .inr (0, [.int so, .int ta, .int ex, .int bs, .int bc, .int wu, .int ww]))] (fun r u => knS fi se wa m u.2.1 u.2.2.1 u.2.2.2 ∧ slkQ fi se wa n m p r) (fun u => [(x, .inr (4, [.ref g, .ref s, .ref h, .ref k])), (s, .inr (3, [.int (nI u.1.1), .ref b1, .ref b2, .ref b3, .ref b4, .ref b5, .int u.1.2.2.2.2.2.2.1, .int u.1.2.2.2.2.2.2.2.1, .int u.1.2.2.2.2.2.2.2.2])), (b1, .inl (cA, 14, .inl (aN u.1.2.1))), (b2, .inl (cA, 14, .inl (aN u.1.2.2.1))), (b3, .inl (cA, 14, .inl u.1.2.2.2.1)), (b4, .inl (cA, 9, .inl u.1.2.2.2.2.1)), (b5, .inl (cA, 9, .inl u.1.2.2.2.2.2.1)), (g, .inr (2, [.int (nI n), .int (nI m), .ref a1, .ref a2, .ref a3])), (a1, .inl (cA, 14, .inl (aN fi))), (a2, .inl (cA, 14, .inl (aN se))), (a3, .inl (cA, 9, .inl (aN wa))), (k, .inr (0, [.int u.2.1, .int ta, .int ex, .int u.2.2.1, .int u.2.2.2, .int wu, .int ww]))]) := by
  refine mkI [(0, .ref x), (1, .int p)] (by decide) rfl (Nat.le_of_ble_eq_true rfl) ?_
  intro E A Q hE C hA hret
  have hG0 := hG
  obtain ⟨g1, g2, g3, g4, g5, g6⟩ := hG
  have hf9 := hok_9 g2 g4
  refine s_aload_n 0 C dF_slack_0 rfl ?_
  refine s_get (.ref g) 0 0 C wfP inF flF_12 dF_slack_1 rfl rfl (by decide) rfl ?_
  refine s_iload_n 1 C dF_slack_4 rfl ?_
  refine s_callP (n := 1) [7] 0 [] C wfP (kG_hasVertex E.2.1 D cA g a1 a2 a3 n m p (by omega) (by omega)) gF_48 dF_slack_5 (by decide +kernel) rfl rfl rfl rfl (by decide) (by decide) rfl rfl (Nat.le_of_ble_eq_true rfl) (Nat.zero_le _) (Nat.zero_le _) (fun rhv hv => ?_)
  rcases hv with ⟨er, hin⟩ | ⟨er, hin⟩
  · refine s_top er ?_
    refine s_if_neN 13 C dF_slack_8 (by decide) (by decide) (fun c1 => ?_) (fun c1 => ?_)
    · obtain ⟨j, hj, rfl⟩ := hin
      refine s_aload_n 0 C dF_slack_13 rfl ?_
      refine s_callV (n := 0) (wr := []) [0, 1, 2, 3, 4, 5, 6, 7, 8, 9, 10, 11] [] 0 [] C hA (kF_solve E.2.1 D cA x k h s b1 b2 b3 b4 b5 g a1 a2 a3 o1 o2 o3 o4 o5 N hd tl TW LF AH en fs fc n m fi se wa so ta ex bs bc wu ww hG0 hS) gF_79 dF_slack_14 (by decide +kernel) rfl rfl (by decide) (by decide) (by decide) rfl rfl rfl (by decide) (by decide) rfl rfl (Nat.le_of_ble_eq_true rfl) (Nat.zero_le _) (Nat.zero_le _) (fun u hu => ?_)
      refine s_sub (ws' := [(x, .inr (4, [.ref g, .ref s, .ref h, .ref k])), (s, .inr (3, [.int (nI u.1.1), .ref b1, .ref b2, .ref b3, .ref b4, .ref b5, .int u.1.2.2.2.2.2.2.1, .int u.1.2.2.2.2.2.2.2.1, .int u.1.2.2.2.2.2.2.2.2])), (b1, .inl (cA, 14, .inl (aN u.1.2.1))), (b2, .inl (cA, 14, .inl (aN u.1.2.2.1))), (b3, .inl (cA, 14, .inl u.1.2.2.2.1)), (b4, .inl (cA, 9, .inl u.1.2.2.2.2.1)), (b5, .inl (cA, 9, .inl u.1.2.2.2.2.2.1)), (g, .inr (2, [.int (nI n), .int (nI m), .ref a1, .ref a2, .ref a3])), (a1, .inl (cA, 14, .inl (aN fi))), (a2, .inl (cA, 14, .inl (aN se))), (a3, .inl (cA, 9, .inl (aN wa))), (k, .inr (0, [.int (nI 1), .int ta, .int ex, .int u.2.1, .int u.2.2, .int wu, .int ww]))]) [0, 1, 2, 3, 4, 5, 6, 7, 8, 9, 10, 11] rfl (by decide) ?_
      obtain ⟨B, hB1, hB2, hB3, hB4⟩ := hu
      obtain ⟨sr2, bs2, bc2⟩ := u
      dsimp only at hB3 hB4
      subst hB3
      subst hB4
      refine s_eqw (ws' := [(x, .inr (4, [.ref g, .ref s, .ref h, .ref k])), (s, .inr (3, [.int (nI sr2.1), .ref b1, .ref b2, .ref b3, .ref b4, .ref b5, .int sr2.2.2.2.2.2.2.1, .int sr2.2.2.2.2.2.2.2.1, .int sr2.2.2.2.2.2.2.2.2])), (b1, .inl (cA, 14, .inl (aN sr2.2.1))), (b2, .inl (cA, 14, .inl (aN sr2.2.2.1))), (b3, .inl (cA, 14, .inl sr2.2.2.2.1)), (b4, .inl (cA, 9, .inl sr2.2.2.2.2.1)), (b5, .inl (cA, 9, .inl sr2.2.2.2.2.2.1)), (g, .inr (2, [.int (nI n), .int (nI m), .ref a1, .ref a2, .ref a3])), (a1, .inl (cA, 14, .inl (aN fi))), (a2, .inl (cA, 14, .inl (aN se))), (a3, .inl (cA, 9, .inl (aN wa))), (k, .inr (0, [.int (nI 1), .int ta, .int ex, .int (nI B), .int (nI (hsz m (bm B))), .int wu, .int ww]))]) rfl ?_
      have hzm := hsz_le m (bm B)
      have hB14 : B < 2 ^ 14 := Nat.lt_of_lt_of_le hB1 (p2_le g3)
      have hwj := g5 j (by omega)
      have hdj := hB2.1 j (by omega)
      refine s_aload_n 0 C dF_slack_17 rfl ?_
      refine s_get (.ref g) 0 0 C wfP inF flF_12 dF_slack_18 rfl rfl (by decide) rfl ?_
      refine s_iload_n 1 C dF_slack_21 rfl ?_
      refine s_aload_n 0 C dF_slack_22 rfl ?_
      refine s_get (.ref k) 0 3 C wfP inF flF_33 dF_slack_23 rfl rfl (by decide) rfl ?_
      refine s_get (.int (nI B)) 11 3 C wfP inA flF_85 dF_slack_26 rfl rfl (by decide) rfl ?_
      refine s_callP (n := 2) [7, 8, 9] 0 [] C wfP (kG_degree E.2.1 D cA g a1 a2 a3 n m j B fi se g3 (by omega) hB14 (fun e he => by have := (g4 e he).1; omega) (fun e he => by have := (g4 e he).2.1; omega)) gF_75 dF_slack_29 (by decide +kernel) rfl rfl rfl rfl (by decide) (by decide) rfl rfl (Nat.le_of_ble_eq_true rfl) (Nat.zero_le _) (Nat.zero_le _) (fun rd hd8 => ?_)
      refine s_top hd8 ?_
      refine s_istore_n [(0, .ref x), (1, .int (nI j)), (2, .int (nI (hdg fi se m (bm B) j)))] [1, 2, 0] C dF_slack_32 (by decide) rfl ?_
      have loop : ∀ (dd : Nat) (sr3 : SrT), dd ≤ wa j → rea fi se m (nup wa j dd) (hsz m (bm B)) → ST E 3 Q 0 0 (wf E A D [(x, .inr (4, [.ref g, .ref s, .ref h, .ref k])), (s, .inr (3, [.int (nI sr3.1), .ref b1, .ref b2, .ref b3, .ref b4, .ref b5, .int sr3.2.2.2.2.2.2.1, .int sr3.2.2.2.2.2.2.2.1, .int sr3.2.2.2.2.2.2.2.2])), (b1, .inl (cA, 14, .inl (aN sr3.2.1))), (b2, .inl (cA, 14, .inl (aN sr3.2.2.1))), (b3, .inl (cA, 14, .inl sr3.2.2.2.1)), (b4, .inl (cA, 9, .inl sr3.2.2.2.2.1)), (b5, .inl (cA, 9, .inl sr3.2.2.2.2.2.1)), (g, .inr (2, [.int (nI n), .int (nI m), .ref a1, .ref a2, .ref a3])), (a1, .inl (cA, 14, .inl (aN fi))), (a2, .inl (cA, 14, .inl (aN se))), (a3, .inl (cA, 9, .inl (aN wa))), (k, .inr (0, [.int (nI 1), .int ta, .int ex, .int (nI B), .int (nI (hsz m (bm B))), .int wu, .int ww]))]) [(0, .ref x), (1, .int (nI j)), (2, .int (nI dd))] [] 33 := by
        intro dd
        induction dd with
        | zero =>
          intro sr3 hdd hrea
          refine s_iload_n 2 C dF_slack_33 rfl ?_
          refine s_if_leN 61 C dF_slack_34 (by decide) (by omega) (fun c4 => ?_) (fun c4 => ?_)
          · refine s_aload_n 0 C dF_slack_61 rfl ?_
            refine s_get (.ref g) 0 0 C wfP inF flF_12 dF_slack_62 rfl rfl (by decide) rfl ?_
            refine s_get (.ref a3) 7 4 C wfP inG flF_62 dF_slack_65 rfl rfl (by decide) rfl ?_
            refine s_iload_n 1 C dF_slack_68 rfl ?_
            refine s_ialdN 10 C wfP dF_slack_69 rfl (by omega) (by decide) ?_
            refine s_iload_n 2 C dF_slack_70 rfl ?_
            refine s_isubN C dF_slack_71 (by omega) ?_
            exact hret _ (sr3, nI 1, nI B, nI (hsz m (bm B))) _ _ dF_slack_72 rfl ⟨Or.inr ⟨rfl, B, hB1, hB2, rfl, rfl⟩, Or.inl ⟨j, hj, rfl, bm B, hB2, 0, hdd, hrea, fun d9 h9 => absurd h9 (by omega), rfl⟩⟩
          · exact absurd c4 (by omega)
        | succ dd ih =>
          intro sr3 hdd hrea
          refine s_iload_n 2 C dF_slack_33 rfl ?_
          refine s_if_leN 61 C dF_slack_34 (by decide) (by omega) (fun c4 => ?_) (fun c4 => ?_)
          · exact absurd c4 (by omega)
          · refine s_aload_n 0 C dF_slack_37 rfl ?_
            refine s_iload_n 1 C dF_slack_38 rfl ?_
            refine s_iload_n 2 C dF_slack_39 rfl ?_
            refine s_iconst (nI 1) C dF_slack_40 (by decide) ?_
            refine s_isubN C dF_slack_41 (by omega) ?_
            refine s_top (y := nI dd) (by rw [Nat.add_sub_cancel]) ?_
            refine s_aload_n 0 C dF_slack_42 rfl ?_
            refine s_get (.ref k) 0 3 C wfP inF flF_33 dF_slack_43 rfl rfl (by decide) rfl ?_
            refine s_get (.int (nI (hsz m (bm B)))) 11 4 C wfP inA flF_82 dF_slack_46 rfl rfl (by decide) rfl ?_
            refine s_callI (n := 3) (wr := [(k, .inr (0, [.int (nI 1), .int ta, .int ex, .int (nI B), .int (nI (hsz m (bm B))), .int wu, .int ww]))]) [0, 1, 2, 3, 4, 5, 6, 7, 8, 9, 10] [11] 0 [] C hA (kF_reachesWith E.2.1 D cA x k h s b1 b2 b3 b4 b5 g a1 a2 a3 o1 o2 o3 o4 o5 sr3.1 sr3.2.1 sr3.2.2.1 sr3.2.2.2.1 sr3.2.2.2.2.1 sr3.2.2.2.2.2.1 sr3.2.2.2.2.2.2.1 sr3.2.2.2.2.2.2.2.1 sr3.2.2.2.2.2.2.2.2 n m fi se wa hG0 j dd (hsz m (bm B)) (by omega) (by omega) (by omega)) gF_102 dF_slack_49 (by decide +kernel) rfl rfl (by decide) (by decide) (by decide) rfl rfl rfl (by decide) (by decide) rfl rfl (Nat.le_of_ble_eq_true rfl) (Nat.zero_le _) (Nat.zero_le _) (fun r u2 hq => ?_)
            refine s_sub (ws' := [(x, .inr (4, [.ref g, .ref s, .ref h, .ref k])), (s, .inr (3, [.int (nI u2.1), .ref b1, .ref b2, .ref b3, .ref b4, .ref b5, .int u2.2.2.2.2.2.2.1, .int u2.2.2.2.2.2.2.2.1, .int u2.2.2.2.2.2.2.2.2])), (b1, .inl (cA, 14, .inl (aN u2.2.1))), (b2, .inl (cA, 14, .inl (aN u2.2.2.1))), (b3, .inl (cA, 14, .inl u2.2.2.2.1)), (b4, .inl (cA, 9, .inl u2.2.2.2.2.1)), (b5, .inl (cA, 9, .inl u2.2.2.2.2.2.1)), (g, .inr (2, [.int (nI n), .int (nI m), .ref a1, .ref a2, .ref a3])), (a1, .inl (cA, 14, .inl (aN fi))), (a2, .inl (cA, 14, .inl (aN se))), (a3, .inl (cA, 9, .inl (aN wa))), (k, .inr (0, [.int (nI 1), .int ta, .int ex, .int (nI B), .int (nI (hsz m (bm B))), .int wu, .int ww]))]) [1, 2, 3, 4, 5, 6, 7, 8, 9, 10, 11, 0] rfl (by decide) ?_
            rcases hq with ⟨er, hr9⟩ | ⟨er, hr9⟩
            · refine s_top er ?_
              refine s_if_eqN 61 C dF_slack_52 (by decide) (by decide) (fun c5 => ?_) (fun c5 => ?_)
              · exact absurd c5 (by decide)
              · refine s_iinc (j := 2) (nI ((dd + 1) - 1)) [(0, .ref x), (1, .int (nI j)), (2, .int (nI ((dd + 1) - 1)))] [1, 2, 0] C dF_slack_55 rfl (dec1 (by omega)) (by decide) rfl ?_
                refine s_goto (tgt := 33) C dF_slack_58 (by decide) ?_
                rw [Nat.add_sub_cancel]
                exact ih u2 (by omega) hr9
            · refine s_top er ?_
              refine s_if_eqN 61 C dF_slack_52 (by decide) (by decide) (fun c5 => ?_) (fun c5 => ?_)
              · refine s_aload_n 0 C dF_slack_61 rfl ?_
                refine s_get (.ref g) 0 0 C wfP inF flF_12 dF_slack_62 rfl rfl (by decide) rfl ?_
                refine s_get (.ref a3) 7 4 C wfP inG flF_62 dF_slack_65 rfl rfl (by decide) rfl ?_
                refine s_iload_n 1 C dF_slack_68 rfl ?_
                refine s_ialdN 10 C wfP dF_slack_69 rfl (by omega) (by decide) ?_
                refine s_iload_n 2 C dF_slack_70 rfl ?_
                refine s_isubN C dF_slack_71 (by omega) ?_
                exact hret _ (u2, nI 1, nI B, nI (hsz m (bm B))) _ _ dF_slack_72 rfl ⟨Or.inr ⟨rfl, B, hB1, hB2, rfl, rfl⟩, Or.inl ⟨j, hj, rfl, bm B, hB2, dd + 1, hdd, hrea, fun d9 h9 z => hr9 (rea_up (by omega) z), rfl⟩⟩
              · exact absurd rfl c5
      exact loop _ sr2 hdj ⟨bm B, fun v hv => by
        by_cases z : v = j
        · subst z; rw [nup_s]; exact Nat.le_refl _
        · rw [nup_n z]; exact hB2.1 v hv, Nat.le_refl _⟩
    · exact absurd c1 (by decide)
  · refine s_top er ?_
    refine s_if_neN 13 C dF_slack_8 (by decide) (by decide) (fun c1 => ?_) (fun c1 => ?_)
    · exact absurd rfl c1
    · refine s_iconst (-1) C dF_slack_11 (by decide) ?_
      exact hret _ ((N, hd, tl, TW, LF, AH, en, fs, fc), so, bs, bc) _ _ dF_slack_12 rfl ⟨hS, Or.inr ⟨hin, rfl⟩⟩
set_option maxHeartbeats 4000000 in
set_option maxRecDepth 100000 in
/-- bound -/
theorem kF_bound (l : Launch) (D : va_G) (cA : ClassId) (x k h s b1 b2 b3 b4 b5 g a1 a2 a3 o1 o2 o3 o4 o5 : Nat) (n m : Nat) (fi se wa : Nat → Nat) (nr wt is pt : Nat → Nat) (al fu fw : Int32) (so ta ex bs bc wu ww : Int32) (hG : GOK n m fi se wa) (hT : knT fi se wa n m ta al wt is pt) (hw0 : wt 0 = 0) (p q : Int32) : CtI (S := BdT × Int32) l yF_bound (.code yF_bound cF_bound 3 (some .int)) 23 0 0 D cA [.ref x, .int p, .int q] [(x, .inr (4, [.ref g, .ref s, .ref h, .ref k])), (g, .inr (2, [.int (nI n), .int (nI m), .ref a1, .ref a2, .ref a3])), (a1, .inl (cA, 14, .inl (aN fi))), (a2, .inl (cA, 14, .inl (aN se))), (a3, .inl (cA, 9, .inl (aN wa))), (h, .inr (1, [.ref o1, .ref o2, .ref o3, .ref o4, .ref o5, .int al, .int fu, .int fw])), (o1, .inl (cA, 512, .inl (aN od))), (o2, .inl (cA, 9, .inl (aN nr))), (o3, .inl (cA, 512, .inl (aN wt))), (o4, .inl (cA, 512, .inl (aN is))), (o5, .inl (cA, 512, .inl (aN pt))), (k, .inr (0, [.int so, .int ta, .int ex, .int bs, .int bc, .int wu, .int ww]))] (fun r u => knT fi se wa n m u.2 u.1.2.2.2.2.1 u.1.2.1 u.1.2.2.1 u.1.2.2.2.1 ∧ u.1.2.1 0 = 0 ∧ bndQ fi se wa n m p q r) (fun u => [(x, .inr (4, [.ref g, .ref s, .ref h, .ref k])), (g, .inr (2, [.int (nI n), .int (nI m), .ref a1, .ref a2, .ref a3])), (a1, .inl (cA, 14, .inl (aN fi))), (a2, .inl (cA, 14, .inl (aN se))), (a3, .inl (cA, 9, .inl (aN wa))), (h, .inr (1, [.ref o1, .ref o2, .ref o3, .ref o4, .ref o5, .int u.1.2.2.2.2.1, .int u.1.2.2.2.2.2.1, .int u.1.2.2.2.2.2.2])), (o1, .inl (cA, 512, .inl (aN od))), (o2, .inl (cA, 9, .inl (aN u.1.1))), (o3, .inl (cA, 512, .inl (aN u.1.2.1))), (o4, .inl (cA, 512, .inl (aN u.1.2.2.1))), (o5, .inl (cA, 512, .inl (aN u.1.2.2.2.1))), (k, .inr (0, [.int so, .int u.2, .int ex, .int bs, .int bc, .int wu, .int ww]))]) := by
  refine mkI [(0, .ref x), (1, .int p), (2, .int q)] (by decide) rfl (Nat.le_of_ble_eq_true rfl) ?_
  intro E A Q hE C hA hret
  have hG0 := hG
  obtain ⟨g1, g2, g3, g4, g5, g6⟩ := hG
  have h2n : 2 ^ n ≤ 512 := p2_le (k := 9) g2
  refine s_iload_n 1 C dF_bound_0 rfl ?_
  refine s_if_lt 28 C dF_bound_1 (by decide) (fun c1 => ?_) (fun c1 => ?_)
  · refine s_iconst (-1) C dF_bound_28 (by decide) ?_
    exact hret _ ((nr, wt, is, pt, al, fu, fw), ta) _ _ dF_bound_29 rfl ⟨hT, hw0, Or.inr ⟨fun ⟨a, b, h1, _, _, e1, _⟩ => inR_no1 c1 (n := 2 ^ n) (by omega) ⟨a, h1, e1⟩, rfl⟩⟩
  · refine s_iload_n 2 C dF_bound_4 rfl ?_
    refine s_if_lt 28 C dF_bound_5 (by decide) (fun c2 => ?_) (fun c2 => ?_)
    · refine s_iconst (-1) C dF_bound_28 (by decide) ?_
      exact hret _ ((nr, wt, is, pt, al, fu, fw), ta) _ _ dF_bound_29 rfl ⟨hT, hw0, Or.inr ⟨fun ⟨a, b, _, h1, _, _, e1⟩ => inR_no1 c2 (n := 2 ^ n) (by omega) ⟨b, h1, e1⟩, rfl⟩⟩
    · obtain ⟨ua, hua, rfl⟩ := nI_of c1
      obtain ⟨wb, hwb, rfl⟩ := nI_of c2
      refine s_iload_n 1 C dF_bound_8 rfl ?_
      refine s_iload_n 2 C dF_bound_9 rfl ?_
      refine s_iandN C dF_bound_10 ?_
      refine s_if_neN 28 C dF_bound_11 (by decide) (Nat.lt_of_le_of_lt Nat.and_le_left hua) (fun c3 => ?_) (fun c3 => ?_)
      · refine s_iconst (-1) C dF_bound_28 (by decide) ?_
        exact hret _ ((nr, wt, is, pt, al, fu, fw), ta) _ _ dF_bound_29 rfl ⟨hT, hw0, Or.inr ⟨fun ⟨a, b, h1, h2, h3, e1, e2⟩ => c3 (and_dsj.mpr (by rw [(nI_eq hua (by omega)).mp e1, (nI_eq hwb (by omega)).mp e2]; exact h3)), rfl⟩⟩
      · have hor : ua ||| wb < 2 ^ 31 := Nat.or_lt_two_pow hua hwb
        refine s_iload_n 1 C dF_bound_14 rfl ?_
        refine s_iload_n 2 C dF_bound_15 rfl ?_
        refine s_iorN C dF_bound_16 ?_
        refine s_aload_n 0 C dF_bound_17 rfl ?_
        refine s_get (.ref g) 0 0 C wfP inF flF_12 dF_bound_18 rfl rfl (by decide) rfl ?_
        refine s_get (.int (nI n)) 1 0 C wfP inG flF_66 dF_bound_21 rfl rfl (by decide) rfl ?_
        refine s_ishrN C dF_bound_24 (by omega) (by omega) ?_
        refine s_if_eqN 30 C dF_bound_25 (by decide) (Nat.lt_of_le_of_lt (Nat.shiftRight_le _ _) hor) (fun c4 => ?_) (fun c4 => ?_)
        · obtain ⟨hu9, hw9⟩ := or_shr.mp c4
          have hdj := and_dsj.mp c3
          refine s_aload_n 0 C dF_bound_30 rfl ?_
          refine s_callV (n := 0) (wr := []) [0, 1, 2, 3, 4, 5, 6, 7, 8, 9, 10, 11] [] 0 [] C hA (kF_tabulate E.2.1 D cA x k h s b1 b2 b3 b4 b5 g a1 a2 a3 o1 o2 o3 o4 o5 n m fi se wa nr wt is pt al fu fw so ta ex bs bc wu ww hG0 hT hw0) gF_106 dF_bound_31 (by decide +kernel) rfl rfl (by decide) (by decide) (by decide) rfl rfl rfl (by decide) (by decide) rfl rfl (Nat.le_of_ble_eq_true rfl) (Nat.zero_le _) (Nat.zero_le _) (fun t ht => ?_)
          refine s_sub (ws' := [(x, .inr (4, [.ref g, .ref s, .ref h, .ref k])), (g, .inr (2, [.int (nI n), .int (nI m), .ref a1, .ref a2, .ref a3])), (a1, .inl (cA, 14, .inl (aN fi))), (a2, .inl (cA, 14, .inl (aN se))), (a3, .inl (cA, 9, .inl (aN wa))), (h, .inr (1, [.ref o1, .ref o2, .ref o3, .ref o4, .ref o5, .int t.2.2.2.2.1, .int t.2.2.2.2.2.1, .int t.2.2.2.2.2.2])), (o1, .inl (cA, 512, .inl (aN od))), (o2, .inl (cA, 9, .inl (aN t.1))), (o3, .inl (cA, 512, .inl (aN t.2.1))), (o4, .inl (cA, 512, .inl (aN t.2.2.1))), (o5, .inl (cA, 512, .inl (aN t.2.2.2.1))), (k, .inr (0, [.int so, .int (nI 1), .int ex, .int bs, .int bc, .int wu, .int ww]))]) [0, 1, 2, 3, 4, 5, 6, 7, 8, 9, 10, 11] rfl (by decide) ?_
          obtain ⟨t1, t2, t3⟩ := ht
          obtain ⟨nr2, wt2, is2, pt2, al2, fu2, fw2⟩ := t
          dsimp only at t1 t2 t3
          subst t1
          refine s_eqw (ws' := [(x, .inr (4, [.ref g, .ref s, .ref h, .ref k])), (g, .inr (2, [.int (nI n), .int (nI m), .ref a1, .ref a2, .ref a3])), (a1, .inl (cA, 14, .inl (aN fi))), (a2, .inl (cA, 14, .inl (aN se))), (a3, .inl (cA, 9, .inl (aN wa))), (h, .inr (1, [.ref o1, .ref o2, .ref o3, .ref o4, .ref o5, .int (nI (2 ^ n - 1)), .int fu2, .int fw2])), (o1, .inl (cA, 512, .inl (aN od))), (o2, .inl (cA, 9, .inl (aN nr2))), (o3, .inl (cA, 512, .inl (aN wt2))), (o4, .inl (cA, 512, .inl (aN is2))), (o5, .inl (cA, 512, .inl (aN pt2))), (k, .inr (0, [.int so, .int (nI 1), .int ex, .int bs, .int bc, .int wu, .int ww]))]) rfl ?_
          refine s_aload_n 0 C dF_bound_34 rfl ?_
          refine s_get (.ref h) 0 2 C wfP inF flF_26 dF_bound_35 rfl rfl (by decide) rfl ?_
          refine s_iload_n 1 C dF_bound_38 rfl ?_
          refine s_iload_n 2 C dF_bound_39 rfl ?_
          refine s_callP (n := 2) [5, 8, 9, 10] 0 [] C wfP (kB_value E.2.1 D cA h o1 o2 o3 o4 o5 wt2 is2 pt2 fu2 fw2 n m fi se wa ua wb g2 g3 g4 g5 hu9 hw9 hdj t2.1 t2.2.1 t2.2.2) gF_109 dF_bound_40 (by decide +kernel) rfl rfl rfl rfl (by decide) (by decide) rfl rfl (Nat.le_of_ble_eq_true rfl) (Nat.zero_le _) (Nat.zero_le _) (fun r hv => ?_)
          exact hret _ ((nr2, wt2, is2, pt2, nI (2 ^ n - 1), fu2, fw2), nI 1) _ _ dF_bound_43 rfl ⟨Or.inr ⟨rfl, rfl, t2⟩, by show wt2 0 = 0; rw [t2.1 0 (Nat.two_pow_pos n), wsum_0], Or.inl ⟨ua, wb, hu9, hw9, hdj, rfl, rfl, hv⟩⟩
        · refine s_iconst (-1) C dF_bound_28 (by decide) ?_
          exact hret _ ((nr, wt, is, pt, al, fu, fw), ta) _ _ dF_bound_29 rfl ⟨hT, hw0, Or.inr ⟨fun ⟨a, b, h1, h2, h3, e1, e2⟩ => c4 (or_shr.mpr (by rw [(nI_eq hua (by omega)).mp e1, (nI_eq hwb (by omega)).mp e2]; exact ⟨h1, h2⟩)), rfl⟩⟩
set_option maxHeartbeats 4000000 in
set_option maxRecDepth 100000 in
/-- witness -/
theorem kF_witness (l : Launch) (D : va_G) (cA : ClassId) (x k h s b1 b2 b3 b4 b5 g a1 a2 a3 o1 o2 o3 o4 o5 : Nat) (N : Nat) (hd tl : Nat → Nat) (TW LF AH : Nat → Int32) (en fs fc : Int32) (n m : Nat) (fi se wa : Nat → Nat) (nr wt is pt : Nat → Nat) (al fu fw : Int32) (so ta ex bs bc wu ww : Int32) (hG : GOK n m fi se wa) (hS : knS fi se wa m so bs bc) (hT : knT fi se wa n m ta al wt is pt) (hE9 : knE fi se wa n m ex wu ww) (hw0 : wt 0 = 0) (q : Int32) : CtI (S := SrT × BdT × Int32 × Int32 × Int32 × Int32 × Int32 × Int32 × Int32) l yF_witness (.code yF_witness cF_witness 2 (some .int)) 23 0 0 D cA [.ref x, .int q] [(x, .inr (4, [.ref g, .ref s, .ref h, .ref k])), (s, .inr (3, [.int (nI N), .ref b1, .ref b2, .ref b3, .ref b4, .ref b5, .int en, .int fs, .int fc])), (b1, .inl (cA, 14, .inl (aN hd))), (b2, .inl (cA, 14, .inl (aN tl))), (b3, .inl (cA, 14, .inl TW)), (b4, .inl (cA, 9, .inl LF)), (b5, .inl (cA, 9, .inl AH)), (g, .inr (2, [.int (nI n), .int (nI m), .ref a1, .ref a2, .ref a3])), (a1, .inl (cA, 14, .inl (aN fi))), (a2, .inl (cA, 14, .inl (aN se))), (a3, .inl (cA, 9, .inl (aN wa))), (h, .inr (1, [.ref o1, .ref o2, .ref o3, .ref o4, .ref o5, .int al, .int fu, .int fw])), (o1, .inl (cA, 512, .inl (aN od))), (o2, .inl (cA, 9, .inl (aN nr))), (o3, .inl (cA, 512, .inl (aN wt))), (o4, .inl (cA, 512, .inl (aN is))), (o5, .inl (cA, 512, .inl (aN pt))), (k, .inr (0, [.int so, .int ta, .int ex, .int bs, .int bc, .int wu, .int ww]))] (fun r u => knS fi se wa m u.2.2.1 u.2.2.2.2.2.1 u.2.2.2.2.2.2.1 ∧ knT fi se wa n m u.2.2.2.1 u.2.1.2.2.2.2.1 u.2.1.2.1 u.2.1.2.2.1 u.2.1.2.2.2.1 ∧ u.2.1.2.1 0 = 0 ∧ knE fi se wa n m u.2.2.2.2.1 u.2.2.2.2.2.2.2.1 u.2.2.2.2.2.2.2.2 ∧ witQ fi se wa n m q r) (fun u => [(x, .inr (4, [.ref g, .ref s, .ref h, .ref k])), (s, .inr (3, [.int (nI u.1.1), .ref b1, .ref b2, .ref b3, .ref b4, .ref b5, .int u.1.2.2.2.2.2.2.1, .int u.1.2.2.2.2.2.2.2.1, .int u.1.2.2.2.2.2.2.2.2])), (b1, .inl (cA, 14, .inl (aN u.1.2.1))), (b2, .inl (cA, 14, .inl (aN u.1.2.2.1))), (b3, .inl (cA, 14, .inl u.1.2.2.2.1)), (b4, .inl (cA, 9, .inl u.1.2.2.2.2.1)), (b5, .inl (cA, 9, .inl u.1.2.2.2.2.2.1)), (g, .inr (2, [.int (nI n), .int (nI m), .ref a1, .ref a2, .ref a3])), (a1, .inl (cA, 14, .inl (aN fi))), (a2, .inl (cA, 14, .inl (aN se))), (a3, .inl (cA, 9, .inl (aN wa))), (h, .inr (1, [.ref o1, .ref o2, .ref o3, .ref o4, .ref o5, .int u.2.1.2.2.2.2.1, .int u.2.1.2.2.2.2.2.1, .int u.2.1.2.2.2.2.2.2])), (o1, .inl (cA, 512, .inl (aN od))), (o2, .inl (cA, 9, .inl (aN u.2.1.1))), (o3, .inl (cA, 512, .inl (aN u.2.1.2.1))), (o4, .inl (cA, 512, .inl (aN u.2.1.2.2.1))), (o5, .inl (cA, 512, .inl (aN u.2.1.2.2.2.1))), (k, .inr (0, [.int u.2.2.1, .int u.2.2.2.1, .int u.2.2.2.2.1, .int u.2.2.2.2.2.1, .int u.2.2.2.2.2.2.1, .int u.2.2.2.2.2.2.2.1, .int u.2.2.2.2.2.2.2.2]))]) := by
  refine mkI [(0, .ref x), (1, .int q)] (by decide) rfl (Nat.le_of_ble_eq_true rfl) ?_
  intro E A Q hE C hA hret
  refine s_iload_n 1 C dF_witness_0 rfl ?_
  refine s_if_lt 9 C dF_witness_1 (by decide) (fun c1 => ?_) (fun c1 => ?_)
  · refine s_iconst (-1) C dF_witness_9 (by decide) ?_
    exact hret _ ((N, hd, tl, TW, LF, AH, en, fs, fc), (nr, wt, is, pt, al, fu, fw), so, ta, ex, bs, bc, wu, ww) _ _ dF_witness_10 rfl ⟨hS, hT, hw0, hE9, Or.inr ⟨inR_no1 c1 (by decide), rfl⟩⟩
  · refine s_iload_n 1 C dF_witness_4 rfl ?_
    refine s_iconst (nI 1) C dF_witness_5 (by decide) ?_
    refine s_icmp_le 11 C dF_witness_6 (by decide) (fun c2 => ?_) (fun c2 => ?_)
    · obtain ⟨j, hj1, hj, rfl⟩ := rng_yes (a := 0) (by decide) (by decide) (by rw [nI_0]; exact c1) c2
      refine s_aload_n 0 C dF_witness_11 rfl ?_
      refine s_callV (n := 0) (wr := []) [0, 1, 2, 3, 4, 5, 6, 7, 8, 9, 10, 11, 12, 13, 14, 15, 16, 17] [] 0 [] C hA (kF_explain E.2.1 D cA x k h s b1 b2 b3 b4 b5 g a1 a2 a3 o1 o2 o3 o4 o5 N hd tl TW LF AH en fs fc n m fi se wa nr wt is pt al fu fw so ta ex bs bc wu ww hG hS hT hE9 hw0) gF_112 dF_witness_12 (by decide +kernel) rfl rfl (by decide) (by decide) (by decide) rfl rfl rfl (by decide) (by decide) rfl rfl (Nat.le_of_ble_eq_true rfl) (Nat.zero_le _) (Nat.zero_le _) (fun u hu => ?_)
      refine s_sub (ws' := [(x, .inr (4, [.ref g, .ref s, .ref h, .ref k])), (s, .inr (3, [.int (nI u.1.1), .ref b1, .ref b2, .ref b3, .ref b4, .ref b5, .int u.1.2.2.2.2.2.2.1, .int u.1.2.2.2.2.2.2.2.1, .int u.1.2.2.2.2.2.2.2.2])), (b1, .inl (cA, 14, .inl (aN u.1.2.1))), (b2, .inl (cA, 14, .inl (aN u.1.2.2.1))), (b3, .inl (cA, 14, .inl u.1.2.2.2.1)), (b4, .inl (cA, 9, .inl u.1.2.2.2.2.1)), (b5, .inl (cA, 9, .inl u.1.2.2.2.2.2.1)), (g, .inr (2, [.int (nI n), .int (nI m), .ref a1, .ref a2, .ref a3])), (a1, .inl (cA, 14, .inl (aN fi))), (a2, .inl (cA, 14, .inl (aN se))), (a3, .inl (cA, 9, .inl (aN wa))), (h, .inr (1, [.ref o1, .ref o2, .ref o3, .ref o4, .ref o5, .int u.2.1.2.2.2.2.1, .int u.2.1.2.2.2.2.2.1, .int u.2.1.2.2.2.2.2.2])), (o1, .inl (cA, 512, .inl (aN od))), (o2, .inl (cA, 9, .inl (aN u.2.1.1))), (o3, .inl (cA, 512, .inl (aN u.2.1.2.1))), (o4, .inl (cA, 512, .inl (aN u.2.1.2.2.1))), (o5, .inl (cA, 512, .inl (aN u.2.1.2.2.2.1))), (k, .inr (0, [.int u.2.2.1, .int u.2.2.2.1, .int (nI 1), .int u.2.2.2.2.1, .int u.2.2.2.2.2.1, .int u.2.2.2.2.2.2.1, .int u.2.2.2.2.2.2.2]))]) [0, 1, 2, 3, 4, 5, 6, 7, 8, 9, 10, 11, 12, 13, 14, 15, 16, 17] rfl (by decide) ?_
      obtain ⟨z1, z2, z3, wa9, wb9, z4, z5, z6⟩ := hu
      refine s_iload_n 1 C dF_witness_15 rfl ?_
      refine s_if_neN 29 C dF_witness_16 (by decide) (by omega) (fun c3 => ?_) (fun c3 => ?_)
      · refine s_aload_n 0 C dF_witness_29 rfl ?_
        refine s_get (.ref k) 0 3 C wfP inF flF_33 dF_witness_30 rfl rfl (by decide) rfl ?_
        refine s_get (.int u.2.2.2.2.2.2.2) 17 6 C wfP inA flF_118 dF_witness_33 rfl rfl (by decide) rfl ?_
        exact hret _ (u.1, u.2.1, u.2.2.1, u.2.2.2.1, nI 1, u.2.2.2.2.1, u.2.2.2.2.2.1, u.2.2.2.2.2.2.1, u.2.2.2.2.2.2.2) _ _ dF_witness_36 rfl ⟨z1, z2, z3, Or.inr ⟨rfl, wa9, wb9, z4, z5, z6⟩, Or.inl ⟨wa9, wb9, z4, Or.inr ⟨by rw [show j = 1 by omega], z6⟩⟩⟩
      · refine s_aload_n 0 C dF_witness_19 rfl ?_
        refine s_get (.ref k) 0 3 C wfP inF flF_33 dF_witness_20 rfl rfl (by decide) rfl ?_
        refine s_get (.int u.2.2.2.2.2.2.1) 17 5 C wfP inA flF_115 dF_witness_23 rfl rfl (by decide) rfl ?_
        refine s_goto (tgt := 36) C dF_witness_26 (by decide) ?_
        exact hret _ (u.1, u.2.1, u.2.2.1, u.2.2.2.1, nI 1, u.2.2.2.2.1, u.2.2.2.2.2.1, u.2.2.2.2.2.2.1, u.2.2.2.2.2.2.2) _ _ dF_witness_36 rfl ⟨z1, z2, z3, Or.inr ⟨rfl, wa9, wb9, z4, z5, z6⟩, Or.inl ⟨wa9, wb9, z4, Or.inl ⟨by rw [c3], z5⟩⟩⟩
    · refine s_iconst (-1) C dF_witness_9 (by decide) ?_
      exact hret _ ((N, hd, tl, TW, LF, AH, en, fs, fc), (nr, wt, is, pt, al, fu, fw), so, ta, ex, bs, bc, wu, ww) _ _ dF_witness_10 rfl ⟨hS, hT, hw0, hE9, Or.inr ⟨fun ⟨j, hj, e⟩ => c2 (by rw [e]; exact nI_le (by omega) (by decide)), rfl⟩⟩
end
section
/-! the reference: labels that spread along the edges -/
def eqv (fi se : Nat → Nat) (n m u w a b : Nat) : Prop := ∀ d', vld fi se n m u w d' → d' a = d' b
def lbI (fi se : Nat → Nat) (n m u w : Nat) (lb : Nat → Nat) : Prop := ∀ v, rsv n u w v → rsv n u w (lb v) ∧ lb v ≤ v ∧ eqv fi se n m u w v (lb v)
def finP (fi se : Nat → Nat) (n m u w : Nat) (fn : Nat → Nat) : Prop := ∀ v, rsv n u w v → rsv n u w (fn v) ∧ eqv fi se n m u w v (fn v) ∧ ∀ j, rsv n u w j → eqv fi se n m u w v j → fn v ≤ j
theorem fin_ex (fi se : Nat → Nat) (n m u w : Nat) : ∃ fn, finP fi se n m u w fn := by
  have ex : ∀ v, ∃ k, rsv n u w v → rsv n u w k ∧ eqv fi se n m u w v k ∧ ∀ j, rsv n u w j → eqv fi se n m u w v j → k ≤ j := by
    intro v
    by_cases h : rsv n u w v
    · obtain ⟨k, ⟨h1, h2⟩, h3⟩ := mn_ex (fun k => rsv n u w k ∧ eqv fi se n m u w v k) (fun k => k) ⟨v, h, fun _ _ => rfl⟩
      exact ⟨k, fun _ => ⟨h1, h2, fun j hj hj2 => h3 j ⟨hj, hj2⟩⟩⟩
    · exact ⟨0, fun q => absurd q h⟩
  obtain ⟨r, hr⟩ := Classical.axiomOfChoice ex
  exact ⟨r, hr⟩
theorem fin_ff {fi se : Nat → Nat} {n m u w : Nat} {fn : Nat → Nat} (hF : finP fi se n m u w fn) {a b : Nat} (ha : rsv n u w a) (hb : rsv n u w b) (h : eqv fi se n m u w a b) : fn a = fn b := by
  obtain ⟨a1, a2, a3⟩ := hF a ha
  obtain ⟨b1, b2, b3⟩ := hF b hb
  have h1 := a3 (fn b) b1 (fun d' q => (h d' q).trans (b2 d' q))
  have h2 := b3 (fn a) a1 (fun d' q => (h d' q).symm.trans (a2 d' q))
  omega
theorem fin_le {fi se : Nat → Nat} {n m u w : Nat} {fn lb : Nat → Nat} (hF : finP fi se n m u w fn) (hI : lbI fi se n m u w lb) {v : Nat} (hv : rsv n u w v) : fn v ≤ lb v := (hF v hv).2.2 _ (hI v hv).1 (hI v hv).2.2
noncomputable def nfb (n u w : Nat) (fn lb : Nat → Nat) (v : Nat) : Bool := @decide (rsv n u w v ∧ lb v ≠ fn v) (Classical.propDecidable _)
theorem nfb_iff {n u w : Nat} {fn lb : Nat → Nat} {v : Nat} : nfb n u w fn lb v = true ↔ rsv n u w v ∧ lb v ≠ fn v := @decide_eq_true_iff _ (Classical.propDecidable _)
noncomputable def nfc (n u w : Nat) (fn lb : Nat → Nat) : Nat := hsz n (nfb n u w fn lb)
theorem nfc_le (n u w : Nat) (fn lb : Nat → Nat) : nfc n u w fn lb ≤ n := hsz_le n _
/-- one edge -/
def stp (fi se : Nat → Nat) (lb : Nat → Nat) (e : Nat) : Nat → Nat := nup (nup lb (fi e) (min (lb (fi e)) (lb (se e)))) (se e) (min (lb (fi e)) (lb (se e)))
theorem stp_v (fi se lb : Nat → Nat) (e v : Nat) : stp fi se lb e v = if v = se e ∨ v = fi e then min (lb (fi e)) (lb (se e)) else lb v := by
  unfold stp nup
  by_cases h1 : v = se e
  · rw [if_pos h1, if_pos (Or.inl h1)]
  · rw [if_neg h1]
    by_cases h2 : v = fi e
    · rw [if_pos h2, if_pos (Or.inr h2)]
    · rw [if_neg h2, if_neg (by omega)]
theorem stp_I {fi se : Nat → Nat} {n m u w e : Nat} {lb : Nat → Nat} (he : e < m) (h1 : rsv n u w (fi e)) (h2 : rsv n u w (se e)) (hI : lbI fi se n m u w lb) : lbI fi se n m u w (stp fi se lb e) := by
  intro v hv
  rw [stp_v]
  by_cases q : v = se e ∨ v = fi e
  · rw [if_pos q]
    obtain ⟨a1, a2, a3⟩ := hI _ h1
    obtain ⟨b1, b2, b3⟩ := hI _ h2
    have hab : eqv fi se n m u w (fi e) (se e) := fun d' z => z e he h1 h2
    have hva : eqv fi se n m u w v (fi e) := by
      rcases q with q | q
      · rw [q]; exact fun d' z => (hab d' z).symm
      · rw [q]; exact fun _ _ => rfl
    rcases Nat.le_total (lb (fi e)) (lb (se e)) with z | z
    · rw [Nat.min_eq_left z]
      refine ⟨a1, ?_, fun d' y => (hva d' y).trans (a3 d' y)⟩
      rcases q with q | q <;> omega
    · rw [Nat.min_eq_right z]
      refine ⟨b1, ?_, fun d' y => ((hva d' y).trans (hab d' y)).trans (b3 d' y)⟩
      rcases q with q | q <;> omega
  · rw [if_neg q]; exact hI v hv
/-- what holds in a turn: lb0 at its start, the edges below e done -/
def trn (fi se : Nat → Nat) (n m u w : Nat) (fn lb0 lb : Nat → Nat) (e : Nat) : Prop :=
  lbI fi se n m u w lb ∧ (∀ v, rsv n u w v → lb v ≤ lb0 v) ∧ ∀ e', e' < e → rsv n u w (fi e') → rsv n u w (se e') → (lb0 (fi e') = fn (fi e') ∨ lb0 (se e') = fn (se e')) → lb (fi e') = fn (fi e') ∧ lb (se e') = fn (se e')
theorem trn_0 {fi se : Nat → Nat} {n m u w : Nat} {fn lb : Nat → Nat} (hI : lbI fi se n m u w lb) : trn fi se n m u w fn lb lb 0 := ⟨hI, fun _ _ => Nat.le_refl _, fun e' h => absurd h (by omega)⟩
theorem trn_no {fi se : Nat → Nat} {n m u w e : Nat} {fn lb0 lb : Nat → Nat} (h : ¬ (rsv n u w (fi e) ∧ rsv n u w (se e))) (hT : trn fi se n m u w fn lb0 lb e) : trn fi se n m u w fn lb0 lb (e + 1) :=
  ⟨hT.1, hT.2.1, fun e' he' r1 r2 => by
    by_cases q : e' = e
    · subst q; exact absurd ⟨r1, r2⟩ h
    · exact hT.2.2 e' (by omega) r1 r2⟩
theorem trn_on {fi se : Nat → Nat} {n m u w e : Nat} {fn lb0 lb : Nat → Nat} (hF : finP fi se n m u w fn) (he : e < m) (h1 : rsv n u w (fi e)) (h2 : rsv n u w (se e)) (hT : trn fi se n m u w fn lb0 lb e) : trn fi se n m u w fn lb0 (stp fi se lb e) (e + 1) := by
  obtain ⟨t1, t2, t3⟩ := hT
  have hI' := stp_I he h1 h2 t1
  have hle : ∀ v, rsv n u w v → stp fi se lb e v ≤ lb v := by
    intro v hv
    rw [stp_v]
    by_cases q : v = se e ∨ v = fi e
    · rw [if_pos q]
      rcases q with q | q <;> rw [q] <;> omega
    · rw [if_neg q]; exact Nat.le_refl _
  have hkeep : ∀ v, rsv n u w v → lb v = fn v → stp fi se lb e v = fn v := fun v hv q => by
    have a1 := hle v hv
    have a2 := fin_le hF hI' hv
    omega
  refine ⟨hI', fun v hv => Nat.le_trans (hle v hv) (t2 v hv), fun e' he' r1 r2 hor => ?_⟩
  by_cases q : e' = e
  · subst q
    have hab := fin_ff hF h1 h2 (fun d' z => z e' he h1 h2)
    have a1 := fin_le hF t1 h1
    have a2 := fin_le hF t1 h2
    have a3 := t2 _ h1
    have a4 := t2 _ h2
    have e1 : stp fi se lb e' (fi e') = min (lb (fi e')) (lb (se e')) := by rw [stp_v, if_pos (Or.inr rfl)]
    have e2 : stp fi se lb e' (se e') = min (lb (fi e')) (lb (se e')) := by rw [stp_v, if_pos (Or.inl rfl)]
    rw [e1, e2]
    omega
  · obtain ⟨y1, y2⟩ := t3 e' (by omega) r1 r2 hor
    exact ⟨hkeep _ r1 y1, hkeep _ r2 y2⟩
/-- a turn makes one more right, while one is wrong -/
theorem trn_end {fi se : Nat → Nat} {n m u w : Nat} {fn lb0 lb : Nat → Nat} (hfs : hok fi se n m) (hF : finP fi se n m u w fn) (hI0 : lbI fi se n m u w lb0) (hT : trn fi se n m u w fn lb0 lb m) {k : Nat} (h : nfc n u w fn lb0 ≤ k + 1) : nfc n u w fn lb ≤ k := by
  obtain ⟨t1, t2, t3⟩ := hT
  have mono : ∀ v, (nfb n u w fn lb v).toNat ≤ (nfb n u w fn lb0 v).toNat := by
    intro v
    cases q : nfb n u w fn lb v
    · exact Nat.zero_le _
    · have h1 := nfb_iff.mp q
      have : nfb n u w fn lb0 v = true := nfb_iff.mpr ⟨h1.1, fun z => h1.2 (by
        have a1 := t2 v h1.1
        have a2 := fin_le hF t1 h1.1
        omega)⟩
      rw [this]
      exact Nat.le_refl _
  by_cases hz : nfc n u w fn lb0 = 0
  · have : nfc n u w fn lb ≤ nfc n u w fn lb0 := su_le (fun v _ => mono v)
    omega
  · -- a wrong one beside a right one
    have hex : ∃ e, e < m ∧ rsv n u w (fi e) ∧ rsv n u w (se e) ∧ ((lb0 (fi e) = fn (fi e) ∧ lb0 (se e) ≠ fn (se e)) ∨ (lb0 (fi e) ≠ fn (fi e) ∧ lb0 (se e) = fn (se e))) := by
      refine Classical.byContradiction (fun hc => ?_)
      have hex0 : ∃ y, rsv n u w y ∧ lb0 y ≠ fn y := by
        refine Classical.byContradiction (fun hc2 => hz (su_z (fun v _ => ?_)))
        cases q : nfb n u w fn lb0 v
        · rfl
        · exact absurd ⟨v, nfb_iff.mp q⟩ hc2
      obtain ⟨y, hy, hyn⟩ := hex0
      have hv' : vld fi se n m u w (fun v => (nfb n u w fn lb0 v).toNat) := by
        intro e he r1 r2
        show (nfb n u w fn lb0 (fi e)).toNat = (nfb n u w fn lb0 (se e)).toNat
        congr 1
        refine Bool.eq_iff_iff.mpr ?_
        rw [nfb_iff, nfb_iff]
        constructor
        · intro q
          exact ⟨r2, fun z => hc ⟨e, he, r1, r2, Or.inr ⟨q.2, z⟩⟩⟩
        · intro q
          exact ⟨r1, fun z => hc ⟨e, he, r1, r2, Or.inl ⟨z, q.2⟩⟩⟩
      obtain ⟨f1, f2, f3⟩ := hF y hy
      have heq := f2 _ hv'
      have hy1 : nfb n u w fn lb0 y = true := nfb_iff.mpr ⟨hy, hyn⟩
      have hff : lb0 (fn y) = fn (fn y) := by
        have a1 := (hI0 _ f1).2.1
        have a2 := fin_le hF hI0 f1
        have a3 := fin_ff hF hy f1 f2
        omega
      have hy2 : nfb n u w fn lb0 (fn y) = false := by
        cases q : nfb n u w fn lb0 (fn y)
        · rfl
        · exact absurd hff (nfb_iff.mp q).2
      have heq2 : (nfb n u w fn lb0 y).toNat = (nfb n u w fn lb0 (fn y)).toNat := heq
      rw [hy1, hy2] at heq2
      cases heq2
    obtain ⟨e, he, r1, r2, hor⟩ := hex
    obtain ⟨x1, x2, _⟩ := hfs e he
    obtain ⟨y1, y2⟩ := t3 e he r1 r2 (by rcases hor with q | q; exact Or.inl q.1; exact Or.inr q.2)
    have hlt : nfc n u w fn lb < nfc n u w fn lb0 := by
      rcases hor with q | q
      · refine su_lt (k := se e) (fun v _ => mono v) x2 ?_
        have z1 : nfb n u w fn lb0 (se e) = true := nfb_iff.mpr ⟨r2, q.2⟩
        have z2 : nfb n u w fn lb (se e) = false := by
          cases z : nfb n u w fn lb (se e)
          · rfl
          · exact absurd y2 (nfb_iff.mp z).2
        rw [z1, z2]; decide
      · refine su_lt (k := fi e) (fun v _ => mono v) x1 ?_
        have z1 : nfb n u w fn lb0 (fi e) = true := nfb_iff.mpr ⟨r1, q.1⟩
        have z2 : nfb n u w fn lb (fi e) = false := by
          cases z : nfb n u w fn lb (fi e)
          · rfl
          · exact absurd y1 (nfb_iff.mp z).2
        rw [z1, z2]; decide
    omega
theorem lb_done {fi se : Nat → Nat} {n m u w : Nat} {fn lb : Nat → Nat} (hF : finP fi se n m u w fn) (h : nfc n u w fn lb = 0) : vld fi se n m u w lb := by
  have key : ∀ v, rsv n u w v → lb v = fn v := by
    intro v hv
    refine Classical.byContradiction (fun q => ?_)
    have h1 : (nfb n u w fn lb v).toNat ≤ nfc n u w fn lb := su_mem (f := fun j => (nfb n u w fn lb j).toNat) hv.1
    rw [nfb_iff.mpr ⟨hv, q⟩] at h1
    simp at h1
    omega
  intro e he r1 r2
  rw [key _ r1, key _ r2]
  exact fin_ff hF r1 r2 (fun d' z => z e he r1 r2)
/-- the labels as bounds have them -/
def dlb (u w : Nat) (lb : Nat → Nat) (v : Nat) : Nat := if bm u v = true then 0 else if bm w v = true then 1 else lb v + 2
theorem dlb_r {n u w : Nat} {lb : Nat → Nat} {v : Nat} (h : rsv n u w v) : dlb u w lb v = lb v + 2 := by
  unfold dlb
  rw [if_neg (by rw [h.2.1]; decide), if_neg (by rw [h.2.2]; decide)]
theorem dlb_exa {fi se : Nat → Nat} {n m u w : Nat} {lb : Nat → Nat} (hn : n ≤ 9) (hd : dsj u w) (hI : lbI fi se n m u w lb) (hv : vld fi se n m u w lb) : exa fi se n m u w (dlb u w lb) := by
  refine ⟨fun v _ h => if_pos h, fun v _ h => ?_, fun v h => ?_, fun e he r1 r2 => ?_, fun d' hd' a b ha hb hab => ?_⟩
  · unfold dlb
    rw [if_neg (fun q => hd v ⟨q, h⟩), if_pos h]
  · rw [dlb_r h]
    have := (hI v h).1.1
    omega
  · rw [dlb_r r1, dlb_r r2, hv e he r1 r2]
  · rw [dlb_r ha, dlb_r hb] at hab
    rw [(hI a ha).2.2 d' hd', (hI b hb).2.2 d' hd', show lb a = lb b by omega]
/-- only the least of each part counts -/
theorem nbd_lb {fi se : Nat → Nat} {n m u w : Nat} {wa lb : Nat → Nat} (hn : n ≤ 9) (hfs : hok fi se n m) (hd : dsj u w) (hI : lbI fi se n m u w lb) (hv : vld fi se n m u w lb) :
    nbd fi se n m 9 wa (dlb u w lb) = su (fun v => (bm u v).toNat * wa v) n + su (fun e => (bm w (fi e) && bm w (se e)).toNat) m + su (fun l => if dlb u w lb l = l + 2 then (hA n wa (dlb u w lb) (l + 2) + su (fun e => nbt fi se (dlb u w lb) e (l + 2)) m) / 2 else 0) n := by
  have hE := dlb_exa hn hd hI hv
  have e1 : hA n wa (dlb u w lb) 0 = su (fun v => (bm u v).toNat * wa v) n := su_cg (fun v hv => by
    by_cases q : bm u v = true
    · rw [if_pos ((exa_0 hE hv).mpr q), q]; simp
    · rw [if_neg (fun z => q ((exa_0 hE hv).mp z))]
      have : bm u v = false := by cases z : bm u v <;> simp [z] at q ⊢
      rw [this]; simp)
  have e2 : su (fun e => nww fi se (dlb u w lb) e) m = su (fun e => (bm w (fi e) && bm w (se e)).toNat) m := su_cg (fun e he => by
    obtain ⟨x1, x2, _⟩ := hfs e he
    unfold nww
    have a1 := exa_1 hE x1
    have a2 := exa_1 hE x2
    cases z1 : bm w (fi e)
    · rw [if_neg (fun q => by rw [z1] at a1; simp at a1; exact a1 q.1)]; rfl
    · cases z2 : bm w (se e)
      · rw [if_neg (fun q => by rw [z2] at a2; simp at a2; exact a2 q.2)]; rfl
      · rw [if_pos ⟨a1.mpr z1, a2.mpr z2⟩]; rfl)
  have hno : ∀ l, ¬ (l < n ∧ dlb u w lb l = l + 2) → ∀ v, v < n → dlb u w lb v ≠ l + 2 := by
    intro l hl v hvn q
    have hr := exa_rs hE hvn (by omega)
    rw [dlb_r hr] at q
    have hlb : lb v = l := by omega
    obtain ⟨i1, i2, i3⟩ := hI v hr
    rw [hlb] at i1 i3
    refine hl ⟨i1.1, ?_⟩
    rw [dlb_r i1]
    have := i3 lb hv
    omega
  have hz : ∀ l, ¬ (l < n ∧ dlb u w lb l = l + 2) → (hA n wa (dlb u w lb) (l + 2) + su (fun e => nbt fi se (dlb u w lb) e (l + 2)) m) / 2 = 0 := by
    intro l hl
    have h1 := hno l hl
    rw [show hA n wa (dlb u w lb) (l + 2) = 0 from su_z (fun v hv => if_neg (h1 v hv)), su_z (fun e he => ?_)]
    obtain ⟨x1, x2, _⟩ := hfs e he
    unfold nbt
    exact if_neg (by
      rintro (q | q)
      · exact h1 _ x1 q.1
      · exact h1 _ x2 q.2)
  have e3 : su (fun l => (hA n wa (dlb u w lb) (l + 2) + su (fun e => nbt fi se (dlb u w lb) e (l + 2)) m) / 2) 9 = su (fun l => if dlb u w lb l = l + 2 then (hA n wa (dlb u w lb) (l + 2) + su (fun e => nbt fi se (dlb u w lb) e (l + 2)) m) / 2 else 0) n := by
    have hp : ∀ k, su (fun l => (hA n wa (dlb u w lb) (l + 2) + su (fun e => nbt fi se (dlb u w lb) e (l + 2)) m) / 2) (n + k) = su (fun l => if dlb u w lb l = l + 2 then (hA n wa (dlb u w lb) (l + 2) + su (fun e => nbt fi se (dlb u w lb) e (l + 2)) m) / 2 else 0) n := by
      intro k
      induction k with
      | zero =>
        refine su_cg (fun l hl => ?_)
        by_cases q : dlb u w lb l = l + 2
        · rw [if_pos q]
        · rw [if_neg q]; exact hz l (fun z => q z.2)
      | succ k ih =>
        show su (fun l => (hA n wa (dlb u w lb) (l + 2) + su (fun e => nbt fi se (dlb u w lb) e (l + 2)) m) / 2) (n + k) + (hA n wa (dlb u w lb) (n + k + 2) + su (fun e => nbt fi se (dlb u w lb) e (n + k + 2)) m) / 2 = _
        rw [ih, hz (n + k) (fun z => by omega)]
        rfl
    have := hp (9 - n)
    rw [show n + (9 - n) = 9 by omega] at this
    exact this
  unfold nbd
  rw [e1, e2, e3]
/-! sets one by one -/
def okL (f s : Nat) : Prop := hsz 14 (bm s) < hsz 14 (bm f) ∨ (hsz 14 (bm s) = hsz 14 (bm f) ∧ okey f ≤ okey s)
def bI (fi se wa : Nat → Nat) (n m k f : Nat) : Prop := f < 2 ^ m ∧ hfa fi se n m wa (bm f) ∧ ∀ s, s < k → hfa fi se n m wa (bm s) → okL f s
theorem okL_rf (f : Nat) : okL f f := Or.inr ⟨rfl, Nat.le_refl _⟩
theorem okL_tr {a b c : Nat} (h1 : okL a b) (h2 : okL b c) : okL a c := by
  unfold okL at *
  omega
theorem bI_0 (fi se wa : Nat → Nat) (n m : Nat) : bI fi se wa n m 0 0 := by
  refine ⟨Nat.two_pow_pos m, fun v _ => ?_, fun s h => absurd h (by omega)⟩
  rw [hdg, su_z (fun j _ => by rw [bm_0]; simp)]
  exact Nat.zero_le _
theorem bI_end {fi se wa : Nat → Nat} {n m f : Nat} (hn : n ≤ 9) (hm : m ≤ 14) (hfs : hok fi se n m) (h : bI fi se wa n m (2 ^ m) f) : bst fi se 9 m wa (bm f) := by
  obtain ⟨h1, h2, h3⟩ := h
  have z14 : ∀ s, s < 2 ^ m → hsz 14 (bm s) = hsz m (bm s) := fun s hs => by
    have := hsz_pad (M := bm s) (m := m) (fun j hj => bm_ge hs hj) (14 - m)
    rw [show m + (14 - m) = 14 by omega] at this
    exact this
  have key : ∀ K, hfa fi se 9 m wa K → hsz m K ≤ hsz m (bm f) ∧ (hsz m K = hsz m (bm f) → nkey K m ≤ nkey (bm f) m) := by
    intro K hK
    have hb : ∀ j, j < m → bm (tob K m) j = K j := fun j hj => bm_tob K hj
    have hl := tob_lt K m
    have hK' : hfa fi se n m wa (bm (tob K m)) := (hfa_9 hn hfs).mp (hfa_cg (fun j hj => (hb j hj).symm) hK)
    have hz : hsz m (bm (tob K m)) = hsz m K := hsz_cg hb
    have hk : nkey (bm (tob K m)) m = nkey K m := nkey_cg hb
    have := h3 _ hl hK'
    unfold okL at this
    rw [z14 _ hl, z14 _ h1, hz] at this
    refine ⟨by omega, fun e => ?_⟩
    rcases this with q | q
    · omega
    · rcases (okey_le hm h1 hl).mp q.2 with y | y
      · rw [hz] at y; omega
      · rw [← hk]; exact y.2
  exact ⟨(hfa_9 hn hfs).mpr h2, fun K hK => (key K hK).1, fun K hK e => (key K hK).2 e⟩
theorem okey_bd (s : Nat) : okey s < 2 ^ 18 := by
  unfold okey
  have := hsz_le 14 (bm s)
  omega
def pky (u w : Nat) : Nat := okey u * 2 ^ 18 + okey w
theorem pky_lt {u w a b : Nat} (hu : u < 2 ^ 14) (ha : a < 2 ^ 14) : pky u w < pky a b ↔ okey u < okey a ∨ (u = a ∧ okey w < okey b) := by
  unfold pky
  have b1 := okey_bd w
  have b2 := okey_bd b
  constructor
  · intro h
    rcases Nat.lt_trichotomy (okey u) (okey a) with q | q | q
    · exact Or.inl q
    · exact Or.inr ⟨okey_inj hu ha q, by omega⟩
    · omega
  · rintro (h | ⟨h1, h2⟩)
    · omega
    · subst h1; omega
theorem isWit_of {fi se wa : Nat → Nat} {n m a b : Nat} {B : Nat → Bool} (hn : n ≤ 9) (hB : bst fi se 9 m wa B) (h1 : a < 2 ^ n) (h2 : okW fi se n m wa (hsz m B) a b) (h3 : ∀ u w, u < 2 ^ n → okW fi se n m wa (hsz m B) u w → pky a b ≤ pky u w) : isWit fi se wa n m a b := by
  refine ⟨B, hB, h1, h2, fun u' hu' ⟨w', hw'⟩ => ?_, fun w' hw' => ?_⟩
  · have := h3 u' w' hu' hw'
    unfold pky at this
    have b1 := okey_bd b
    have b2 := okey_bd w'
    omega
  · have := h3 a w' h1 hw'
    unfold pky at this
    omega
end
section
set_option maxHeartbeats 4000000 in
set_option maxRecDepth 100000 in
/-- is x a place below the count -/
theorem kM_isVertex (l : Launch) (D : va_G) (cA : ClassId) (y p1 p2 p3 p4 n m : Nat) (x : Int32) (hn : n < 100) (hm : m < 100) : CtP l yM_isVertex (.code yM_isVertex cM_isVertex 2 (some .boolean)) 0 D cA [.ref y, .int x] [(y, .inr (5, [.int (nI n), .int (nI m), .ref p1, .ref p2, .ref p3, .ref p4]))] (fun r => (r = nI 1 ∧ inR x n) ∨ (r = nI 0 ∧ ¬ inR x n)) := by
  refine mkP [(0, .ref y), (1, .int x)] (by decide) rfl (Nat.le_of_ble_eq_true rfl) ?_
  intro E Q hE C hret
  refine s_iload_n 1 C dM_isVertex_0 rfl ?_
  refine s_if_lt 16 C dM_isVertex_1 (by decide) (fun c1 => ?_) (fun c1 => ?_)
  · refine s_iconst (nI 0) C dM_isVertex_16 (by decide) ?_
    exact hret _ _ _ dM_isVertex_17 rfl (Or.inr ⟨rfl, inR_no1 c1 (by omega)⟩)
  · refine s_iload_n 1 C dM_isVertex_4 rfl ?_
    refine s_aload_n 0 C dM_isVertex_5 rfl ?_
    refine s_get (.int (nI n)) 0 0 C pfP inM flM_7 dM_isVertex_6 rfl rfl (by decide) rfl ?_
    refine s_icmp_ge 16 C dM_isVertex_9 (by decide) (fun c2 => ?_) (fun c2 => ?_)
    · refine s_iconst (nI 0) C dM_isVertex_16 (by decide) ?_
      exact hret _ _ _ dM_isVertex_17 rfl (Or.inr ⟨rfl, inR_no2 c2 (by omega)⟩)
    · refine s_iconst (nI 1) C dM_isVertex_12 (by decide) ?_
      refine s_goto (tgt := 17) C dM_isVertex_13 (by decide) ?_
      exact hret _ _ _ dM_isVertex_17 rfl (Or.inl ⟨rfl, inR_yes c1 c2 (by omega)⟩)
set_option maxHeartbeats 4000000 in
set_option maxRecDepth 100000 in
/-- is x a place below the count -/
theorem kM_isEdge (l : Launch) (D : va_G) (cA : ClassId) (y p1 p2 p3 p4 n m : Nat) (x : Int32) (hn : n < 100) (hm : m < 100) : CtP l yM_isEdge (.code yM_isEdge cM_isEdge 2 (some .boolean)) 0 D cA [.ref y, .int x] [(y, .inr (5, [.int (nI n), .int (nI m), .ref p1, .ref p2, .ref p3, .ref p4]))] (fun r => (r = nI 1 ∧ inR x m) ∨ (r = nI 0 ∧ ¬ inR x m)) := by
  refine mkP [(0, .ref y), (1, .int x)] (by decide) rfl (Nat.le_of_ble_eq_true rfl) ?_
  intro E Q hE C hret
  refine s_iload_n 1 C dM_isEdge_0 rfl ?_
  refine s_if_lt 16 C dM_isEdge_1 (by decide) (fun c1 => ?_) (fun c1 => ?_)
  · refine s_iconst (nI 0) C dM_isEdge_16 (by decide) ?_
    exact hret _ _ _ dM_isEdge_17 rfl (Or.inr ⟨rfl, inR_no1 c1 (by omega)⟩)
  · refine s_iload_n 1 C dM_isEdge_4 rfl ?_
    refine s_aload_n 0 C dM_isEdge_5 rfl ?_
    refine s_get (.int (nI m)) 0 1 C pfP inM flM_26 dM_isEdge_6 rfl rfl (by decide) rfl ?_
    refine s_icmp_ge 16 C dM_isEdge_9 (by decide) (fun c2 => ?_) (fun c2 => ?_)
    · refine s_iconst (nI 0) C dM_isEdge_16 (by decide) ?_
      exact hret _ _ _ dM_isEdge_17 rfl (Or.inr ⟨rfl, inR_no2 c2 (by omega)⟩)
    · refine s_iconst (nI 1) C dM_isEdge_12 (by decide) ?_
      refine s_goto (tgt := 17) C dM_isEdge_13 (by decide) ?_
      exact hret _ _ _ dM_isEdge_17 rfl (Or.inl ⟨rfl, inR_yes c1 c2 (by omega)⟩)
set_option maxHeartbeats 4000000 in
set_option maxRecDepth 100000 in
/-- begin -/
theorem kM_begin (l : Launch) (D : va_G) (cA : ClassId) (y p1 p2 p3 p4 : Nat) (n m : Nat) (fi se wa : Nat → Nat) (t : Int32) : CtI (S := GrT) l yM_begin (.code yM_begin cM_begin 3 (some .boolean)) 1 0 0 D cA [.ref y, .int t] [(y, .inr (5, [.int (nI n), .int (nI m), .ref p1, .ref p2, .ref p3, .ref p4])), (p1, .inl (cA, 14, .inl (aN fi))), (p2, .inl (cA, 14, .inl (aN se))), (p3, .inl (cA, 9, .inl (aN wa)))] (fun r u => begP t r (n, m, fi, se, wa) u) (fun u => [(y, .inr (5, [.int (nI u.1), .int (nI u.2.1), .ref p1, .ref p2, .ref p3, .ref p4])), (p1, .inl (cA, 14, .inl (aN u.2.2.1))), (p2, .inl (cA, 14, .inl (aN u.2.2.2.1))), (p3, .inl (cA, 9, .inl (aN u.2.2.2.2)))]) := by
  refine mkI [(0, .ref y), (1, .int t)] (by decide) rfl (Nat.le_of_ble_eq_true rfl) ?_
  intro E A Q hE C hA hret
  refine s_iload_n 1 C dM_begin_0 rfl ?_
  refine s_iconst (nI 1) C dM_begin_1 (by decide) ?_
  refine s_icmp_lt 11 C dM_begin_2 (by decide) (fun c1 => ?_) (fun c1 => ?_)
  · refine s_iconst (nI 0) C dM_begin_11 (by decide) ?_
    exact hret _ (n, m, fi, se, wa) _ _ dM_begin_12 rfl (Or.inr ⟨rng_no1 (by decide) (by decide) c1, rfl, rfl⟩)
  · refine s_iload_n 1 C dM_begin_5 rfl ?_
    refine s_bipush (nI 9) C dM_begin_6 (by decide) ?_
    refine s_icmp_le 13 C dM_begin_8 (by decide) (fun c2 => ?_) (fun c2 => ?_)
    · obtain ⟨kk, h1, h2, rfl⟩ := rng_yes (by decide) (by decide) c1 c2
      refine s_aload_n 0 C dM_begin_13 rfl ?_
      refine s_iload_n 1 C dM_begin_14 rfl ?_
      refine s_put 0 0 [(y, .inr (5, [.int (nI kk), .int (nI m), .ref p1, .ref p2, .ref p3, .ref p4])), (p1, .inl (cA, 14, .inl (aN fi))), (p2, .inl (cA, 14, .inl (aN se))), (p3, .inl (cA, 9, .inl (aN wa)))] C inM tyM_ok nmM flM_7 dM_begin_15 rfl rfl (by decide) rfl rfl rfl (Nat.le_of_ble_eq_true rfl) rfl ?_
      refine s_aload_n 0 C dM_begin_18 rfl ?_
      refine s_iconst (nI 0) C dM_begin_19 (by decide) ?_
      refine s_put 0 1 [(y, .inr (5, [.int (nI kk), .int (nI 0), .ref p1, .ref p2, .ref p3, .ref p4])), (p1, .inl (cA, 14, .inl (aN fi))), (p2, .inl (cA, 14, .inl (aN se))), (p3, .inl (cA, 9, .inl (aN wa)))] C inM tyM_ok nmM flM_26 dM_begin_20 rfl rfl (by decide) rfl rfl rfl (Nat.le_of_ble_eq_true rfl) rfl ?_
      refine s_iconst (nI 0) C dM_begin_23 (by decide) ?_
      refine s_istore_n [(0, .ref y), (1, .int (nI kk)), (2, .int (nI 0))] [1, 2, 0] C dM_begin_24 (by decide) rfl ?_
      have loop : ∀ k i, i + k = 9 → ST E 3 Q 0 0 (wf E A D [(y, .inr (5, [.int (nI kk), .int (nI 0), .ref p1, .ref p2, .ref p3, .ref p4])), (p1, .inl (cA, 14, .inl (aN fi))), (p2, .inl (cA, 14, .inl (aN se))), (p3, .inl (cA, 9, .inl (aN (fun j => if j < i then 0 else wa j))))]) [(0, .ref y), (1, .int (nI kk)), (2, .int (nI i))] [] 25 := by
        intro k
        induction k with
        | zero =>
          intro i hi
          refine s_iload_n 2 C dM_begin_25 rfl ?_
          refine s_bipush (nI 9) C dM_begin_26 (by decide) ?_
          refine s_icmp_geN 44 C dM_begin_28 (by decide) (by omega) (by omega) (fun c3 => ?_) (fun c3 => ?_)
          · have e : i = 9 := by omega
            subst e
            refine s_arr (aN (fun _ => 0)) 3 [(y, .inr (5, [.int (nI kk), .int (nI 0), .ref p1, .ref p2, .ref p3, .ref p4])), (p1, .inl (cA, 14, .inl (aN fi))), (p2, .inl (cA, 14, .inl (aN se))), (p3, .inl (cA, 9, .inl (aN (fun _ => 0))))] rfl (fun j hj => ?_) rfl ?_
            · show nI (if j < 9 then 0 else wa j) = nI 0
              rw [if_pos hj]
            refine s_iconst (nI 1) C dM_begin_44 (by decide) ?_
            exact hret _ (kk, 0, fi, se, fun _ => 0) _ _ dM_begin_45 rfl (Or.inl ⟨kk, h1, h2, rfl, rfl, rfl⟩)
          · exact absurd c3 (by omega)
        | succ k ih =>
          intro i hi
          refine s_iload_n 2 C dM_begin_25 rfl ?_
          refine s_bipush (nI 9) C dM_begin_26 (by decide) ?_
          refine s_icmp_geN 44 C dM_begin_28 (by decide) (by omega) (by omega) (fun c3 => ?_) (fun c3 => ?_)
          · exact absurd c3 (by omega)
          · refine s_aload_n 0 C dM_begin_31 rfl ?_
            refine s_get (.ref p3) 0 4 C wfP inM flM_20 dM_begin_32 rfl rfl (by decide) rfl ?_
            refine s_iload_n 2 C dM_begin_35 rfl ?_
            refine s_iconst (nI 0) C dM_begin_36 (by decide) ?_
            refine s_iastN 3 [(y, .inr (5, [.int (nI kk), .int (nI 0), .ref p1, .ref p2, .ref p3, .ref p4])), (p1, .inl (cA, 14, .inl (aN fi))), (p2, .inl (cA, 14, .inl (aN se))), (p3, .inl (cA, 9, .inl (aN (nup (fun j => if j < i then 0 else wa j) i 0))))] C dM_begin_37 rfl (by omega) (by decide) rfl ?_
            refine s_iinc (j := 2) (nI (i + 1)) [(0, .ref y), (1, .int (nI kk)), (2, .int (nI (i + 1)))] [1, 2, 0] C dM_begin_38 rfl (inc1 _) (by decide) rfl ?_
            refine s_goto (tgt := 25) C dM_begin_41 (by decide) ?_
            rw [lt_up (fun _ => 0) wa i]
            exact ih (i + 1) (by omega)
      have e0 : wa = (fun j => if j < 0 then 0 else wa j) := by
        funext j
        rw [if_neg (by omega)]
      have h0 := loop 9 0 (by omega)
      rw [← e0] at h0
      exact h0
    · refine s_iconst (nI 0) C dM_begin_11 (by decide) ?_
      exact hret _ (n, m, fi, se, wa) _ _ dM_begin_12 rfl (Or.inr ⟨rng_no2 (by decide) c2, rfl, rfl⟩)
set_option maxHeartbeats 4000000 in
set_option maxRecDepth 100000 in
/-- edge -/
theorem kM_edge (l : Launch) (D : va_G) (cA : ClassId) (y p1 p2 p3 p4 : Nat) (n m : Nat) (fi se wa : Nat → Nat) (hG : GOK n m fi se wa) (p q : Int32) : CtI (S := GrT) l yM_edge (.code yM_edge cM_edge 3 (some .int)) 1 0 0 D cA [.ref y, .int p, .int q] [(y, .inr (5, [.int (nI n), .int (nI m), .ref p1, .ref p2, .ref p3, .ref p4])), (p1, .inl (cA, 14, .inl (aN fi))), (p2, .inl (cA, 14, .inl (aN se))), (p3, .inl (cA, 9, .inl (aN wa)))] (fun r u => edgP p q r (n, m, fi, se, wa) u) (fun u => [(y, .inr (5, [.int (nI u.1), .int (nI u.2.1), .ref p1, .ref p2, .ref p3, .ref p4])), (p1, .inl (cA, 14, .inl (aN u.2.2.1))), (p2, .inl (cA, 14, .inl (aN u.2.2.2.1))), (p3, .inl (cA, 9, .inl (aN u.2.2.2.2)))]) := by
  refine mkI [(0, .ref y), (1, .int p), (2, .int q)] (by decide) rfl (Nat.le_of_ble_eq_true rfl) ?_
  intro E A Q hE C hA hret
  obtain ⟨g1, g2, g3, g4, g5, g6⟩ := hG
  refine s_aload_n 0 C dM_edge_0 rfl ?_
  refine s_get (.int (nI m)) 0 1 C wfP inM flM_26 dM_edge_1 rfl rfl (by decide) rfl ?_
  refine s_bipush (nI 14) C dM_edge_4 (by decide) ?_
  refine s_icmp_eqN 30 C dM_edge_6 (by decide) (by omega) (by omega) (fun c1 => ?_) (fun c1 => ?_)
  · refine s_iconst (-1) C dM_edge_30 (by decide) ?_
    exact hret _ (n, m, fi, se, wa) _ _ dM_edge_31 rfl (Or.inr ⟨fun z => absurd z.1 (by show ¬ m < 14; omega), rfl, rfl⟩)
  · refine s_aload_n 0 C dM_edge_9 rfl ?_
    refine s_iload_n 1 C dM_edge_10 rfl ?_
    refine s_callP (n := 1) [0] 0 [] C wfP (kM_isVertex E.2.1 D cA y p1 p2 p3 p4 n m p (by omega) (by omega)) gM_29 dM_edge_11 (by decide +kernel) rfl rfl rfl rfl (by decide) (by decide) rfl rfl (Nat.le_of_ble_eq_true rfl) (Nat.zero_le _) (Nat.zero_le _) (fun rhv hv => ?_)
    rcases hv with ⟨er, hin⟩ | ⟨er, hin⟩
    · refine s_top er ?_
      refine s_if_eqN 30 C dM_edge_14 (by decide) (by decide) (fun c2 => ?_) (fun c2 => ?_)
      · exact absurd c2 (by decide)
      · have hp1 := hin
        refine s_aload_n 0 C dM_edge_17 rfl ?_
        refine s_iload_n 2 C dM_edge_18 rfl ?_
        refine s_callP (n := 1) [0] 0 [] C wfP (kM_isVertex E.2.1 D cA y p1 p2 p3 p4 n m q (by omega) (by omega)) gM_29 dM_edge_19 (by decide +kernel) rfl rfl rfl rfl (by decide) (by decide) rfl rfl (Nat.le_of_ble_eq_true rfl) (Nat.zero_le _) (Nat.zero_le _) (fun rhv2 hv2 => ?_)
        rcases hv2 with ⟨er, hin2⟩ | ⟨er, hin2⟩
        · refine s_top er ?_
          refine s_if_eqN 30 C dM_edge_22 (by decide) (by decide) (fun c3 => ?_) (fun c3 => ?_)
          · exact absurd c3 (by decide)
          · refine s_iload_n 1 C dM_edge_25 rfl ?_
            refine s_iload_n 2 C dM_edge_26 rfl ?_
            refine s_icmp_ne 32 C dM_edge_27 (by decide) (fun c4 => ?_) (fun c4 => ?_)
            · obtain ⟨i, hi, rfl⟩ := hp1
              obtain ⟨j, hj, rfl⟩ := hin2
              have hij : i ≠ j := fun z => c4 (by rw [z])
              refine s_aload_n 0 C dM_edge_32 rfl ?_
              refine s_get (.ref p1) 0 2 C wfP inM flM_13 dM_edge_33 rfl rfl (by decide) rfl ?_
              refine s_aload_n 0 C dM_edge_36 rfl ?_
              refine s_get (.int (nI m)) 0 1 C wfP inM flM_26 dM_edge_37 rfl rfl (by decide) rfl ?_
              refine s_iload_n 1 C dM_edge_40 rfl ?_
              refine s_iastN 1 [(y, .inr (5, [.int (nI n), .int (nI m), .ref p1, .ref p2, .ref p3, .ref p4])), (p1, .inl (cA, 14, .inl (aN (nup fi m i)))), (p2, .inl (cA, 14, .inl (aN se))), (p3, .inl (cA, 9, .inl (aN wa)))] C dM_edge_41 rfl (by omega) (by decide) rfl ?_
              refine s_aload_n 0 C dM_edge_42 rfl ?_
              refine s_get (.ref p2) 0 3 C wfP inM flM_17 dM_edge_43 rfl rfl (by decide) rfl ?_
              refine s_aload_n 0 C dM_edge_46 rfl ?_
              refine s_get (.int (nI m)) 0 1 C wfP inM flM_26 dM_edge_47 rfl rfl (by decide) rfl ?_
              refine s_iload_n 2 C dM_edge_50 rfl ?_
              refine s_iastN 2 [(y, .inr (5, [.int (nI n), .int (nI m), .ref p1, .ref p2, .ref p3, .ref p4])), (p1, .inl (cA, 14, .inl (aN (nup fi m i)))), (p2, .inl (cA, 14, .inl (aN (nup se m j)))), (p3, .inl (cA, 9, .inl (aN wa)))] C dM_edge_51 rfl (by omega) (by decide) rfl ?_
              refine s_aload_n 0 C dM_edge_52 rfl ?_
              refine s_dup C dM_edge_53 rfl ?_
              refine s_get (.int (nI m)) 0 1 C wfP inM flM_26 dM_edge_54 rfl rfl (by decide) rfl ?_
              refine s_iconst (nI 1) C dM_edge_57 (by decide) ?_
              refine s_iaddN C dM_edge_58 ?_
              refine s_put 0 1 [(y, .inr (5, [.int (nI n), .int (nI (m + 1)), .ref p1, .ref p2, .ref p3, .ref p4])), (p1, .inl (cA, 14, .inl (aN (nup fi m i)))), (p2, .inl (cA, 14, .inl (aN (nup se m j)))), (p3, .inl (cA, 9, .inl (aN wa)))] C inM tyM_ok nmM flM_26 dM_edge_59 rfl rfl (by decide) rfl rfl rfl (Nat.le_of_ble_eq_true rfl) rfl ?_
              refine s_aload_n 0 C dM_edge_62 rfl ?_
              refine s_get (.int (nI (m + 1))) 0 1 C wfP inM flM_26 dM_edge_63 rfl rfl (by decide) rfl ?_
              refine s_iconst (nI 1) C dM_edge_66 (by decide) ?_
              refine s_isubN C dM_edge_67 (by omega) ?_
              exact hret _ (n, m + 1, nup fi m i, nup se m j, wa) _ _ dM_edge_68 rfl (Or.inl ⟨i, j, hi, hj, hij, by show m < 14; omega, rfl, rfl, by rw [Nat.add_sub_cancel], rfl⟩)
            · refine s_iconst (-1) C dM_edge_30 (by decide) ?_
              exact hret _ (n, m, fi, se, wa) _ _ dM_edge_31 rfl (Or.inr ⟨fun z => z.2.2.2 c4, rfl, rfl⟩)
        · refine s_top er ?_
          refine s_if_eqN 30 C dM_edge_22 (by decide) (by decide) (fun c3 => ?_) (fun c3 => ?_)
          · refine s_iconst (-1) C dM_edge_30 (by decide) ?_
            exact hret _ (n, m, fi, se, wa) _ _ dM_edge_31 rfl (Or.inr ⟨fun z => hin2 z.2.2.1, rfl, rfl⟩)
          · exact absurd rfl c3
    · refine s_top er ?_
      refine s_if_eqN 30 C dM_edge_14 (by decide) (by decide) (fun c2 => ?_) (fun c2 => ?_)
      · refine s_iconst (-1) C dM_edge_30 (by decide) ?_
        exact hret _ (n, m, fi, se, wa) _ _ dM_edge_31 rfl (Or.inr ⟨fun z => hin z.2.1, rfl, rfl⟩)
      · exact absurd rfl c2
set_option maxHeartbeats 4000000 in
set_option maxRecDepth 100000 in
/-- drop -/
theorem kM_drop (l : Launch) (D : va_G) (cA : ClassId) (y p1 p2 p3 p4 : Nat) (n m : Nat) (fi se wa : Nat → Nat) (hG : GOK n m fi se wa) (p : Int32) : CtI (S := GrT) l yM_drop (.code yM_drop cM_drop 3 (some .boolean)) 1 0 0 D cA [.ref y, .int p] [(y, .inr (5, [.int (nI n), .int (nI m), .ref p1, .ref p2, .ref p3, .ref p4])), (p1, .inl (cA, 14, .inl (aN fi))), (p2, .inl (cA, 14, .inl (aN se))), (p3, .inl (cA, 9, .inl (aN wa)))] (fun r u => drpP p r (n, m, fi, se, wa) u) (fun u => [(y, .inr (5, [.int (nI u.1), .int (nI u.2.1), .ref p1, .ref p2, .ref p3, .ref p4])), (p1, .inl (cA, 14, .inl (aN u.2.2.1))), (p2, .inl (cA, 14, .inl (aN u.2.2.2.1))), (p3, .inl (cA, 9, .inl (aN u.2.2.2.2)))]) := by
  refine mkI [(0, .ref y), (1, .int p)] (by decide) rfl (Nat.le_of_ble_eq_true rfl) ?_
  intro E A Q hE C hA hret
  obtain ⟨g1, g2, g3, g4, g5, g6⟩ := hG
  refine s_aload_n 0 C dM_drop_0 rfl ?_
  refine s_iload_n 1 C dM_drop_1 rfl ?_
  refine s_callP (n := 1) [0] 0 [] C wfP (kM_isEdge E.2.1 D cA y p1 p2 p3 p4 n m p (by omega) (by omega)) gM_33 dM_drop_2 (by decide +kernel) rfl rfl rfl rfl (by decide) (by decide) rfl rfl (Nat.le_of_ble_eq_true rfl) (Nat.zero_le _) (Nat.zero_le _) (fun rhv hv => ?_)
  rcases hv with ⟨er, hin⟩ | ⟨er, hin⟩
  · refine s_top er ?_
    refine s_if_neN 10 C dM_drop_5 (by decide) (by decide) (fun c2 => ?_) (fun c2 => ?_)
    · obtain ⟨t, ht, rfl⟩ := hin
      refine s_aload_n 0 C dM_drop_10 rfl ?_
      refine s_dup C dM_drop_11 rfl ?_
      refine s_get (.int (nI m)) 0 1 C wfP inM flM_26 dM_drop_12 rfl rfl (by decide) rfl ?_
      refine s_iconst (nI 1) C dM_drop_15 (by decide) ?_
      refine s_isubN C dM_drop_16 (by omega) ?_
      refine s_put 0 1 [(y, .inr (5, [.int (nI n), .int (nI (m - 1)), .ref p1, .ref p2, .ref p3, .ref p4])), (p1, .inl (cA, 14, .inl (aN fi))), (p2, .inl (cA, 14, .inl (aN se))), (p3, .inl (cA, 9, .inl (aN wa)))] C inM tyM_ok nmM flM_26 dM_drop_17 rfl rfl (by decide) rfl rfl rfl (Nat.le_of_ble_eq_true rfl) rfl ?_
      refine s_iload_n 1 C dM_drop_20 rfl ?_
      refine s_istore_n [(0, .ref y), (1, .int (nI t)), (2, .int (nI t))] [1, 2, 0] C dM_drop_21 (by decide) rfl ?_
      have loop : ∀ k i, i + k = m - 1 → t ≤ i → ST E 3 Q 0 0 (wf E A D [(y, .inr (5, [.int (nI n), .int (nI (m - 1)), .ref p1, .ref p2, .ref p3, .ref p4])), (p1, .inl (cA, 14, .inl (aN (fun j => if t ≤ j ∧ j < i then fi (j + 1) else fi j)))), (p2, .inl (cA, 14, .inl (aN (fun j => if t ≤ j ∧ j < i then se (j + 1) else se j)))), (p3, .inl (cA, 9, .inl (aN wa)))]) [(0, .ref y), (1, .int (nI t)), (2, .int (nI i))] [] 22 := by
        intro k
        induction k with
        | zero =>
          intro i hi hti
          refine s_iload_n 2 C dM_drop_22 rfl ?_
          refine s_aload_n 0 C dM_drop_23 rfl ?_
          refine s_get (.int (nI (m - 1))) 0 1 C wfP inM flM_26 dM_drop_24 rfl rfl (by decide) rfl ?_
          refine s_icmp_geN 64 C dM_drop_27 (by decide) (by omega) (by omega) (fun c3 => ?_) (fun c3 => ?_)
          · refine s_iconst (nI 1) C dM_drop_64 (by decide) ?_
            have e : i = m - 1 := by omega
            subst e
            exact hret _ (n, m - 1, rmF fi t m, rmF se t m, wa) _ _ dM_drop_65 rfl (Or.inl ⟨t, ht, rfl, rfl, rfl⟩)
          · exact absurd c3 (by omega)
        | succ k ih =>
          intro i hi hti
          refine s_iload_n 2 C dM_drop_22 rfl ?_
          refine s_aload_n 0 C dM_drop_23 rfl ?_
          refine s_get (.int (nI (m - 1))) 0 1 C wfP inM flM_26 dM_drop_24 rfl rfl (by decide) rfl ?_
          refine s_icmp_geN 64 C dM_drop_27 (by decide) (by omega) (by omega) (fun c3 => ?_) (fun c3 => ?_)
          · exact absurd c3 (by omega)
          · refine s_aload_n 0 C dM_drop_30 rfl ?_
            refine s_get (.ref p1) 0 2 C wfP inM flM_13 dM_drop_31 rfl rfl (by decide) rfl ?_
            refine s_iload_n 2 C dM_drop_34 rfl ?_
            refine s_aload_n 0 C dM_drop_35 rfl ?_
            refine s_get (.ref p1) 0 2 C wfP inM flM_13 dM_drop_36 rfl rfl (by decide) rfl ?_
            refine s_iload_n 2 C dM_drop_39 rfl ?_
            refine s_iconst (nI 1) C dM_drop_40 (by decide) ?_
            refine s_iaddN C dM_drop_41 ?_
            refine s_ialdN 1 C wfP dM_drop_42 rfl (by omega) (by decide) ?_
            refine s_top (congrArg nI (if_neg (by omega) : (if t ≤ i + 1 ∧ i + 1 < i then fi (i + 1 + 1) else fi (i + 1)) = fi (i + 1))) ?_
            refine s_iastN 1 [(y, .inr (5, [.int (nI n), .int (nI (m - 1)), .ref p1, .ref p2, .ref p3, .ref p4])), (p1, .inl (cA, 14, .inl (aN (nup (fun j => if t ≤ j ∧ j < i then fi (j + 1) else fi j) i (fi (i + 1)))))), (p2, .inl (cA, 14, .inl (aN (fun j => if t ≤ j ∧ j < i then se (j + 1) else se j)))), (p3, .inl (cA, 9, .inl (aN wa)))] C dM_drop_43 rfl (by omega) (by decide) rfl ?_
            refine s_aload_n 0 C dM_drop_44 rfl ?_
            refine s_get (.ref p2) 0 3 C wfP inM flM_17 dM_drop_45 rfl rfl (by decide) rfl ?_
            refine s_iload_n 2 C dM_drop_48 rfl ?_
            refine s_aload_n 0 C dM_drop_49 rfl ?_
            refine s_get (.ref p2) 0 3 C wfP inM flM_17 dM_drop_50 rfl rfl (by decide) rfl ?_
            refine s_iload_n 2 C dM_drop_53 rfl ?_
            refine s_iconst (nI 1) C dM_drop_54 (by decide) ?_
            refine s_iaddN C dM_drop_55 ?_
            refine s_ialdN 2 C wfP dM_drop_56 rfl (by omega) (by decide) ?_
            refine s_top (congrArg nI (if_neg (by omega) : (if t ≤ i + 1 ∧ i + 1 < i then se (i + 1 + 1) else se (i + 1)) = se (i + 1))) ?_
            refine s_iastN 2 [(y, .inr (5, [.int (nI n), .int (nI (m - 1)), .ref p1, .ref p2, .ref p3, .ref p4])), (p1, .inl (cA, 14, .inl (aN (nup (fun j => if t ≤ j ∧ j < i then fi (j + 1) else fi j) i (fi (i + 1)))))), (p2, .inl (cA, 14, .inl (aN (nup (fun j => if t ≤ j ∧ j < i then se (j + 1) else se j) i (se (i + 1)))))), (p3, .inl (cA, 9, .inl (aN wa)))] C dM_drop_57 rfl (by omega) (by decide) rfl ?_
            refine s_iinc (j := 2) (nI (i + 1)) [(0, .ref y), (1, .int (nI t)), (2, .int (nI (i + 1)))] [1, 2, 0] C dM_drop_58 rfl (inc1 _) (by decide) rfl ?_
            refine s_goto (tgt := 22) C dM_drop_61 (by decide) ?_
            rw [lt_rm fi t i hti, lt_rm se t i hti]
            exact ih (i + 1) (by omega) (by omega)
      have e0 : ∀ f : Nat → Nat, f = (fun j => if t ≤ j ∧ j < t then f (j + 1) else f j) := by
        intro f
        funext j
        rw [if_neg (by omega)]
      have h0 := loop (m - 1 - t) t (by omega) (Nat.le_refl _)
      rw [← e0 fi, ← e0 se] at h0
      exact h0
    · exact absurd c2 (by decide)
  · refine s_top er ?_
    refine s_if_neN 10 C dM_drop_5 (by decide) (by decide) (fun c2 => ?_) (fun c2 => ?_)
    · exact absurd rfl c2
    · refine s_iconst (nI 0) C dM_drop_8 (by decide) ?_
      exact hret _ (n, m, fi, se, wa) _ _ dM_drop_9 rfl (Or.inr ⟨hin, rfl, rfl⟩)
set_option maxHeartbeats 4000000 in
set_option maxRecDepth 100000 in
/-- ask -/
theorem kM_ask (l : Launch) (D : va_G) (cA : ClassId) (y p1 p2 p3 p4 : Nat) (n m : Nat) (fi se wa : Nat → Nat) (hG : GOK n m fi se wa) (p q : Int32) : CtI (S := GrT) l yM_ask (.code yM_ask cM_ask 3 (some .boolean)) 1 0 0 D cA [.ref y, .int p, .int q] [(y, .inr (5, [.int (nI n), .int (nI m), .ref p1, .ref p2, .ref p3, .ref p4])), (p1, .inl (cA, 14, .inl (aN fi))), (p2, .inl (cA, 14, .inl (aN se))), (p3, .inl (cA, 9, .inl (aN wa)))] (fun r u => askP p q r (n, m, fi, se, wa) u) (fun u => [(y, .inr (5, [.int (nI u.1), .int (nI u.2.1), .ref p1, .ref p2, .ref p3, .ref p4])), (p1, .inl (cA, 14, .inl (aN u.2.2.1))), (p2, .inl (cA, 14, .inl (aN u.2.2.2.1))), (p3, .inl (cA, 9, .inl (aN u.2.2.2.2)))]) := by
  refine mkI [(0, .ref y), (1, .int p), (2, .int q)] (by decide) rfl (Nat.le_of_ble_eq_true rfl) ?_
  intro E A Q hE C hA hret
  obtain ⟨g1, g2, g3, g4, g5, g6⟩ := hG
  refine s_aload_n 0 C dM_ask_0 rfl ?_
  refine s_iload_n 1 C dM_ask_1 rfl ?_
  refine s_callP (n := 1) [0] 0 [] C wfP (kM_isVertex E.2.1 D cA y p1 p2 p3 p4 n m p (by omega) (by omega)) gM_29 dM_ask_2 (by decide +kernel) rfl rfl rfl rfl (by decide) (by decide) rfl rfl (Nat.le_of_ble_eq_true rfl) (Nat.zero_le _) (Nat.zero_le _) (fun rhv hv => ?_)
  rcases hv with ⟨er, hin⟩ | ⟨er, hin⟩
  · refine s_top er ?_
    refine s_if_eqN 18 C dM_ask_5 (by decide) (by decide) (fun c2 => ?_) (fun c2 => ?_)
    · exact absurd c2 (by decide)
    · refine s_iload_n 2 C dM_ask_8 rfl ?_
      refine s_if_lt 18 C dM_ask_9 (by decide) (fun c3 => ?_) (fun c3 => ?_)
      · refine s_iconst (nI 0) C dM_ask_18 (by decide) ?_
        exact hret _ (n, m, fi, se, wa) _ _ dM_ask_19 rfl (Or.inr ⟨fun z => inR_no1 c3 (by decide) z.2, rfl, rfl⟩)
      · refine s_iload_n 2 C dM_ask_12 rfl ?_
        refine s_bipush (nI 14) C dM_ask_13 (by decide) ?_
        refine s_icmp_le 20 C dM_ask_15 (by decide) (fun c4 => ?_) (fun c4 => ?_)
        · obtain ⟨i, hi, rfl⟩ := hin
          obtain ⟨j, hj1, hj, rfl⟩ := rng_yes (a := 0) (by decide) (by decide) (by rw [nI_0]; exact c3) c4
          refine s_aload_n 0 C dM_ask_20 rfl ?_
          refine s_get (.ref p3) 0 4 C wfP inM flM_20 dM_ask_21 rfl rfl (by decide) rfl ?_
          refine s_iload_n 1 C dM_ask_24 rfl ?_
          refine s_iload_n 2 C dM_ask_25 rfl ?_
          refine s_iastN 3 [(y, .inr (5, [.int (nI n), .int (nI m), .ref p1, .ref p2, .ref p3, .ref p4])), (p1, .inl (cA, 14, .inl (aN fi))), (p2, .inl (cA, 14, .inl (aN se))), (p3, .inl (cA, 9, .inl (aN (nup wa i j))))] C dM_ask_26 rfl (by omega) (by decide) rfl ?_
          refine s_iconst (nI 1) C dM_ask_27 (by decide) ?_
          exact hret _ (n, m, fi, se, nup wa i j) _ _ dM_ask_28 rfl (Or.inl ⟨i, j, hi, hj, rfl, rfl, rfl, rfl⟩)
        · refine s_iconst (nI 0) C dM_ask_18 (by decide) ?_
          exact hret _ (n, m, fi, se, wa) _ _ dM_ask_19 rfl (Or.inr ⟨fun ⟨_, j, hj, e⟩ => c4 (by rw [e]; exact nI_le (by omega) (by decide)), rfl, rfl⟩)
  · refine s_top er ?_
    refine s_if_eqN 18 C dM_ask_5 (by decide) (by decide) (fun c2 => ?_) (fun c2 => ?_)
    · refine s_iconst (nI 0) C dM_ask_18 (by decide) ?_
      exact hret _ (n, m, fi, se, wa) _ _ dM_ask_19 rfl (Or.inr ⟨fun z => hin z.1, rfl, rfl⟩)
    · exact absurd rfl c2
set_option maxHeartbeats 4000000 in
set_option maxRecDepth 100000 in
/-- vertices -/
theorem kM_vertices (l : Launch) (D : va_G) (cA : ClassId) (y p1 p2 p3 p4 : Nat) (n m : Nat) (fi se wa : Nat → Nat) (hG : GOK n m fi se wa)  : CtP l yM_vertices (.code yM_vertices cM_vertices 1 (some .int)) 0 D cA [.ref y] [(y, .inr (5, [.int (nI n), .int (nI m), .ref p1, .ref p2, .ref p3, .ref p4]))] (fun r => r = nI n) := by
  refine mkP [(0, .ref y)] (by decide) rfl (Nat.le_of_ble_eq_true rfl) ?_
  intro E Q hE C hret
  refine s_aload_n 0 C dM_vertices_0 rfl ?_
  refine s_get (.int (nI n)) 0 0 C pfP inM flM_7 dM_vertices_1 rfl rfl (by decide) rfl ?_
  exact hret _ _ _ dM_vertices_4 rfl rfl
set_option maxHeartbeats 4000000 in
set_option maxRecDepth 100000 in
/-- edges -/
theorem kM_edges (l : Launch) (D : va_G) (cA : ClassId) (y p1 p2 p3 p4 : Nat) (n m : Nat) (fi se wa : Nat → Nat) (hG : GOK n m fi se wa)  : CtP l yM_edges (.code yM_edges cM_edges 1 (some .int)) 0 D cA [.ref y] [(y, .inr (5, [.int (nI n), .int (nI m), .ref p1, .ref p2, .ref p3, .ref p4]))] (fun r => r = nI m) := by
  refine mkP [(0, .ref y)] (by decide) rfl (Nat.le_of_ble_eq_true rfl) ?_
  intro E Q hE C hret
  refine s_aload_n 0 C dM_edges_0 rfl ?_
  refine s_get (.int (nI m)) 0 1 C pfP inM flM_26 dM_edges_1 rfl rfl (by decide) rfl ?_
  exact hret _ _ _ dM_edges_4 rfl rfl
set_option maxHeartbeats 4000000 in
set_option maxRecDepth 100000 in
/-- end -/
theorem kM_end (l : Launch) (D : va_G) (cA : ClassId) (y p1 p2 p3 p4 : Nat) (n m : Nat) (fi se wa : Nat → Nat) (hG : GOK n m fi se wa) (p q : Int32) : CtP l yM_end (.code yM_end cM_end 3 (some .int)) 1 D cA [.ref y, .int p, .int q] [(y, .inr (5, [.int (nI n), .int (nI m), .ref p1, .ref p2, .ref p3, .ref p4])), (p1, .inl (cA, 14, .inl (aN fi))), (p2, .inl (cA, 14, .inl (aN se)))] (fun r => endP p q r m fi se) := by
  refine mkP [(0, .ref y), (1, .int p), (2, .int q)] (by decide) rfl (Nat.le_of_ble_eq_true rfl) ?_
  intro E Q hE C hret
  obtain ⟨g1, g2, g3, g4, g5, g6⟩ := hG
  refine s_aload_n 0 C dM_end_0 rfl ?_
  refine s_iload_n 1 C dM_end_1 rfl ?_
  refine s_callP (n := 1) [0] 0 [] C pfP (kM_isEdge E.2.1 D cA y p1 p2 p3 p4 n m p (by omega) (by omega)) gM_33 dM_end_2 (by decide +kernel) rfl rfl rfl rfl (by decide) (by decide) rfl rfl (Nat.le_of_ble_eq_true rfl) (Nat.zero_le _) (Nat.zero_le _) (fun rhv hv => ?_)
  rcases hv with ⟨er, hin⟩ | ⟨er, hin⟩
  · refine s_top er ?_
    refine s_if_eqN 17 C dM_end_5 (by decide) (by decide) (fun c1 => ?_) (fun c1 => ?_)
    · exact absurd c1 (by decide)
    · refine s_iload_n 2 C dM_end_8 rfl ?_
      refine s_if_lt 17 C dM_end_9 (by decide) (fun c2 => ?_) (fun c2 => ?_)
      · refine s_iconst (-1) C dM_end_17 (by decide) ?_
        refine s_goto (tgt := 40) C dM_end_18 (by decide) ?_
        exact hret _ _ _ dM_end_40 rfl (Or.inr ⟨fun z => inR_no1 c2 (by decide) z.2, rfl⟩)
      · refine s_iload_n 2 C dM_end_12 rfl ?_
        refine s_iconst (nI 1) C dM_end_13 (by decide) ?_
        refine s_icmp_le 21 C dM_end_14 (by decide) (fun c3 => ?_) (fun c3 => ?_)
        · obtain ⟨i, hi, rfl⟩ := hin
          obtain ⟨j, hj1, hj, rfl⟩ := rng_yes (a := 0) (by decide) (by decide) (by rw [nI_0]; exact c2) c3
          refine s_iload_n 2 C dM_end_21 rfl ?_
          refine s_if_neN 34 C dM_end_22 (by decide) (by omega) (fun c4 => ?_) (fun c4 => ?_)
          · refine s_aload_n 0 C dM_end_34 rfl ?_
            refine s_get (.ref p2) 0 3 C pfP inM flM_17 dM_end_35 rfl rfl (by decide) rfl ?_
            refine s_iload_n 1 C dM_end_38 rfl ?_
            refine s_ialdN 2 C pfP dM_end_39 rfl (by omega) (by decide) ?_
            exact hret _ _ _ dM_end_40 rfl (Or.inl ⟨i, hi, rfl, Or.inr ⟨by rw [show j = 1 by omega], rfl⟩⟩)
          · refine s_aload_n 0 C dM_end_25 rfl ?_
            refine s_get (.ref p1) 0 2 C pfP inM flM_13 dM_end_26 rfl rfl (by decide) rfl ?_
            refine s_iload_n 1 C dM_end_29 rfl ?_
            refine s_ialdN 1 C pfP dM_end_30 rfl (by omega) (by decide) ?_
            refine s_goto (tgt := 40) C dM_end_31 (by decide) ?_
            exact hret _ _ _ dM_end_40 rfl (Or.inl ⟨i, hi, rfl, Or.inl ⟨by rw [c4], rfl⟩⟩)
        · refine s_iconst (-1) C dM_end_17 (by decide) ?_
          refine s_goto (tgt := 40) C dM_end_18 (by decide) ?_
          exact hret _ _ _ dM_end_40 rfl (Or.inr ⟨fun ⟨_, j, hj, e⟩ => c3 (by rw [e]; exact nI_le (by omega) (by decide)), rfl⟩)
  · refine s_top er ?_
    refine s_if_eqN 17 C dM_end_5 (by decide) (by decide) (fun c1 => ?_) (fun c1 => ?_)
    · refine s_iconst (-1) C dM_end_17 (by decide) ?_
      refine s_goto (tgt := 40) C dM_end_18 (by decide) ?_
      exact hret _ _ _ dM_end_40 rfl (Or.inr ⟨fun z => hin z.1, rfl⟩)
    · exact absurd rfl c1
set_option maxHeartbeats 4000000 in
set_option maxRecDepth 100000 in
/-- demand -/
theorem kM_demand (l : Launch) (D : va_G) (cA : ClassId) (y p1 p2 p3 p4 : Nat) (n m : Nat) (fi se wa : Nat → Nat) (hG : GOK n m fi se wa) (p : Int32) : CtP l yM_demand (.code yM_demand cM_demand 2 (some .int)) 1 D cA [.ref y, .int p] [(y, .inr (5, [.int (nI n), .int (nI m), .ref p1, .ref p2, .ref p3, .ref p4])), (p3, .inl (cA, 9, .inl (aN wa)))] (fun r => demP p r n wa) := by
  refine mkP [(0, .ref y), (1, .int p)] (by decide) rfl (Nat.le_of_ble_eq_true rfl) ?_
  intro E Q hE C hret
  obtain ⟨g1, g2, g3, g4, g5, g6⟩ := hG
  refine s_aload_n 0 C dM_demand_0 rfl ?_
  refine s_iload_n 1 C dM_demand_1 rfl ?_
  refine s_callP (n := 1) [0] 0 [] C pfP (kM_isVertex E.2.1 D cA y p1 p2 p3 p4 n m p (by omega) (by omega)) gM_29 dM_demand_2 (by decide +kernel) rfl rfl rfl rfl (by decide) (by decide) rfl rfl (Nat.le_of_ble_eq_true rfl) (Nat.zero_le _) (Nat.zero_le _) (fun rhv hv => ?_)
  rcases hv with ⟨er, hin⟩ | ⟨er, hin⟩
  · refine s_top er ?_
    refine s_if_eqN 17 C dM_demand_5 (by decide) (by decide) (fun c1 => ?_) (fun c1 => ?_)
    · exact absurd c1 (by decide)
    · obtain ⟨i, hi, rfl⟩ := hin
      refine s_aload_n 0 C dM_demand_8 rfl ?_
      refine s_get (.ref p3) 0 4 C pfP inM flM_20 dM_demand_9 rfl rfl (by decide) rfl ?_
      refine s_iload_n 1 C dM_demand_12 rfl ?_
      refine s_ialdN 1 C pfP dM_demand_13 rfl (by omega) (by decide) ?_
      refine s_goto (tgt := 18) C dM_demand_14 (by decide) ?_
      exact hret _ _ _ dM_demand_18 rfl (Or.inl ⟨i, hi, rfl, rfl⟩)
  · refine s_top er ?_
    refine s_if_eqN 17 C dM_demand_5 (by decide) (by decide) (fun c1 => ?_) (fun c1 => ?_)
    · refine s_iconst (-1) C dM_demand_17 (by decide) ?_
      exact hret _ _ _ dM_demand_18 rfl (Or.inr ⟨hin, rfl⟩)
    · exact absurd rfl c1
set_option maxHeartbeats 4000000 in
set_option maxRecDepth 100000 in
/-- a bit -/
theorem kM_has (l : Launch) (D : va_G) (cA : ClassId) (s b : Nat) (hs : s < 2 ^ 31) (hb : b < 32) : CtP l yM_has (.code yM_has cM_has 2 (some .boolean)) 0 D cA [.int (nI s), .int (nI b)] [] (fun r => r = nI (bm s b).toNat) := by
  refine mkP [(0, .int (nI s)), (1, .int (nI b))] (by decide) rfl (Nat.le_of_ble_eq_true rfl) ?_
  intro E Q hE C hret
  refine s_iload_n 0 C dM_has_0 rfl ?_
  refine s_iload_n 1 C dM_has_1 rfl ?_
  refine s_ishrN C dM_has_2 (by omega) (by omega) ?_
  refine s_iconst (nI 1) C dM_has_3 (by decide) ?_
  refine s_bitN C dM_has_4 ?_
  refine s_iconst (nI 1) C dM_has_5 (by decide) ?_
  refine s_icmp_neN 13 C dM_has_6 (by decide) (bt31 _) (by decide) (fun c1 => ?_) (fun c1 => ?_)
  · refine s_iconst (nI 0) C dM_has_13 (by decide) ?_
    refine hret _ _ _ dM_has_14 rfl ?_
    cases h : bm s b with
    | false => rfl
    | true => rw [h] at c1; exact absurd rfl c1
  · refine s_iconst (nI 1) C dM_has_9 (by decide) ?_
    refine s_goto (tgt := 14) C dM_has_10 (by decide) ?_
    exact hret _ _ _ dM_has_14 rfl (by rw [c1])
set_option maxHeartbeats 4000000 in
set_option maxRecDepth 100000 in
/-- how many -/
theorem kM_size (l : Launch) (D : va_G) (cA : ClassId) (s : Nat) (hs : s < 2 ^ 31) : CtP l yM_size (.code yM_size cM_size 3 (some .int)) 1 D cA [.int (nI s)] [] (fun r => r = nI (hsz 14 (bm s))) := by
  refine mkP [(0, .int (nI s))] (by decide) rfl (Nat.le_of_ble_eq_true rfl) ?_
  intro E Q hE C hret
  refine s_iconst (nI 0) C dM_size_0 (by decide) ?_
  refine s_istore_n [(0, .int (nI s)), (1, .int (nI 0))] [1, 0] C dM_size_1 (by decide) rfl ?_
  refine s_iconst (nI 0) C dM_size_2 (by decide) ?_
  refine s_istore_n [(0, .int (nI s)), (1, .int (nI 0)), (2, .int (nI 0))] [1, 2, 0] C dM_size_3 (by decide) rfl ?_
  have loop : ∀ k i, i + k = 14 → ST E 3 Q 0 0 (pf E D []) [(0, .int (nI s)), (1, .int (nI (hsz i (bm s)))), (2, .int (nI i))] [] 4 := by
    intro k
    induction k with
    | zero =>
      intro i hi
      refine s_iload_n 2 C dM_size_4 rfl ?_
      refine s_bipush (nI 14) C dM_size_5 (by decide) ?_
      refine s_icmp_geN 32 C dM_size_7 (by decide) (by omega) (by omega) (fun c1 => ?_) (fun c1 => ?_)
      · refine s_iload_n 1 C dM_size_32 rfl ?_
        have e : i = 14 := by omega
        subst e
        exact hret _ _ _ dM_size_33 rfl rfl
      · exact absurd c1 (by omega)
    | succ k ih =>
      intro i hi
      refine s_iload_n 2 C dM_size_4 rfl ?_
      refine s_bipush (nI 14) C dM_size_5 (by decide) ?_
      refine s_icmp_geN 32 C dM_size_7 (by decide) (by omega) (by omega) (fun c1 => ?_) (fun c1 => ?_)
      · exact absurd c1 (by omega)
      · refine s_iload_n 0 C dM_size_10 rfl ?_
        refine s_iload_n 2 C dM_size_11 rfl ?_
        refine s_callPS (n := 2) [] [] C pfP (kM_has E.2.1 D cA s i hs (by omega)) gM_36 dM_size_12 (by decide +kernel) rfl (by decide) (by decide) rfl rfl (Nat.le_of_ble_eq_true rfl) (Nat.zero_le _) (Nat.zero_le _) (fun rh hh9 => ?_)
        refine s_top hh9 ?_
        refine s_if_eqN 24 C dM_size_15 (by decide) (bt31 _) (fun c2 => ?_) (fun c2 => ?_)
        · refine s_iload_n 1 C dM_size_24 rfl ?_
          refine s_istore_n [(0, .int (nI s)), (1, .int (nI (hsz i (bm s)))), (2, .int (nI i))] [1, 0, 2] C dM_size_25 (by decide) rfl ?_
          refine s_iinc (j := 2) (nI (i + 1)) [(0, .int (nI s)), (1, .int (nI (hsz i (bm s)))), (2, .int (nI (i + 1)))] [1, 2, 0] C dM_size_26 rfl (inc1 _) (by decide) rfl ?_
          refine s_goto (tgt := 4) C dM_size_29 (by decide) ?_
          have e : hsz (i + 1) (bm s) = hsz i (bm s) := by
            show hsz i (bm s) + (bm s i).toNat = _
            rw [c2]; rfl
          have h9 := ih (i + 1) (by omega)
          rw [e] at h9
          exact h9
        · refine s_iload_n 1 C dM_size_18 rfl ?_
          refine s_iconst (nI 1) C dM_size_19 (by decide) ?_
          refine s_iaddN C dM_size_20 ?_
          refine s_goto (tgt := 25) C dM_size_21 (by decide) ?_
          refine s_istore_n [(0, .int (nI s)), (1, .int (nI (hsz i (bm s) + 1))), (2, .int (nI i))] [1, 0, 2] C dM_size_25 (by decide) rfl ?_
          refine s_iinc (j := 2) (nI (i + 1)) [(0, .int (nI s)), (1, .int (nI (hsz i (bm s) + 1))), (2, .int (nI (i + 1)))] [1, 2, 0] C dM_size_26 rfl (inc1 _) (by decide) rfl ?_
          refine s_goto (tgt := 4) C dM_size_29 (by decide) ?_
          have e : hsz (i + 1) (bm s) = hsz i (bm s) + 1 := by
            show hsz i (bm s) + (bm s i).toNat = _
            have := Bool.toNat_le (bm s i)
            omega
          have h9 := ih (i + 1) (by omega)
          rw [e] at h9
          exact h9
  exact loop 14 0 (by omega)
set_option maxHeartbeats 4000000 in
set_option maxRecDepth 100000 in
/-- is a before b in ORDER -/
theorem kM_isBefore (l : Launch) (D : va_G) (cA : ClassId) (a b : Nat) (ha : a < 2 ^ 14) (hb : b < 2 ^ 14) : CtP l yM_isBefore (.code yM_isBefore cM_isBefore 3 (some .boolean)) 2 D cA [.int (nI a), .int (nI b)] [] (fun r => (r = nI 1 ∧ okey a < okey b) ∨ (r = nI 0 ∧ ¬ okey a < okey b)) := by
  refine mkP [(0, .int (nI a)), (1, .int (nI b))] (by decide) rfl (Nat.le_of_ble_eq_true rfl) ?_
  intro E Q hE C hret
  have hza := hsz_le 14 (bm a)
  have hzb := hsz_le 14 (bm b)
  refine s_iload_n 0 C dM_isBefore_0 rfl ?_
  refine s_callPS (n := 1) [] [] C pfP (kM_size E.2.1 D cA a (by omega)) gM_40 dM_isBefore_1 (by decide +kernel) rfl (by decide) (by decide) rfl rfl (Nat.le_of_ble_eq_true rfl) (Nat.zero_le _) (Nat.zero_le _) (fun rs hs9 => ?_)
  refine s_top hs9 ?_
  refine s_iload_n 1 C dM_isBefore_4 rfl ?_
  refine s_callPS (n := 1) [] [.int (nI (hsz 14 (bm a)))] C pfP (kM_size E.2.1 D cA b (by omega)) gM_40 dM_isBefore_5 (by decide +kernel) rfl (by decide) (by decide) rfl rfl (Nat.le_of_ble_eq_true rfl) (Nat.zero_le _) (Nat.zero_le _) (fun rs hs9 => ?_)
  refine s_top hs9 ?_
  refine s_icmp_eqN 28 C dM_isBefore_8 (by decide) (by omega) (by omega) (fun c1 => ?_) (fun c1 => ?_)
  · refine s_iconst (nI 0) C dM_isBefore_28 (by decide) ?_
    refine s_istore_n [(0, .int (nI a)), (1, .int (nI b)), (2, .int (nI 0))] [1, 2, 0] C dM_isBefore_29 (by decide) rfl ?_
    have done : ∀ i : Nat, i ≤ 14 → (∀ j, j < i → bm a j = bm b j) → (i < 14 → bm a i ≠ bm b i) → ST E 3 Q 0 0 (pf E D []) [(0, .int (nI a)), (1, .int (nI b)), (2, .int (nI i))] [] 55 := by
      intro i hi heq hne
      refine s_iload_n 2 C dM_isBefore_55 rfl ?_
      refine s_bipush (nI 14) C dM_isBefore_56 (by decide) ?_
      refine s_icmp_geN 73 C dM_isBefore_58 (by decide) (by omega) (by omega) (fun c2 => ?_) (fun c2 => ?_)
      · refine s_iconst (nI 0) C dM_isBefore_73 (by decide) ?_
        have e14 : i = 14 := by omega
        subst e14
        have hk := nkey_cg heq
        exact hret _ _ _ dM_isBefore_74 rfl (Or.inr ⟨rfl, fun z => by rcases okey_lt.mp z with y | y <;> omega⟩)
      · refine s_iload_n 0 C dM_isBefore_61 rfl ?_
        refine s_iload_n 2 C dM_isBefore_62 rfl ?_
        refine s_callPS (n := 2) [] [] C pfP (kM_has E.2.1 D cA a i (by omega) (by omega)) gM_36 dM_isBefore_63 (by decide +kernel) rfl (by decide) (by decide) rfl rfl (Nat.le_of_ble_eq_true rfl) (Nat.zero_le _) (Nat.zero_le _) (fun rh hh9 => ?_)
        refine s_top hh9 ?_
        refine s_if_eqN 73 C dM_isBefore_66 (by decide) (bt31 _) (fun c3 => ?_) (fun c3 => ?_)
        · refine s_iconst (nI 0) C dM_isBefore_73 (by decide) ?_
          have za : bm a i = false := bmF.mp c3
          have zb : bm b i = true := by
            have := hne c2
            rw [za] at this
            cases z : bm b i
            · rw [z] at this; exact absurd rfl this
            · rfl
          have hk := nkey_lt (fun j hj => (heq j hj).symm) zb za c2
          exact hret _ _ _ dM_isBefore_74 rfl (Or.inr ⟨rfl, fun z => by rcases okey_lt.mp z with y | y <;> omega⟩)
        · refine s_iconst (nI 1) C dM_isBefore_69 (by decide) ?_
          refine s_goto (tgt := 74) C dM_isBefore_70 (by decide) ?_
          have za : bm a i = true := by
            cases z : bm a i
            · rw [z] at c3; exact absurd rfl c3
            · rfl
          have zb : bm b i = false := by
            have := hne c2
            rw [za] at this
            cases z : bm b i
            · rfl
            · rw [z] at this; exact absurd rfl this
          have hk := nkey_lt heq za zb c2
          exact hret _ _ _ dM_isBefore_74 rfl (Or.inl ⟨rfl, okey_lt.mpr (Or.inr ⟨c1, hk⟩)⟩)
    have loop : ∀ k i, i + k = 14 → (∀ j, j < i → bm a j = bm b j) → ST E 3 Q 0 0 (pf E D []) [(0, .int (nI a)), (1, .int (nI b)), (2, .int (nI i))] [] 30 := by
      intro k
      induction k with
      | zero =>
        intro i hi heq
        refine s_iload_n 2 C dM_isBefore_30 rfl ?_
        refine s_bipush (nI 14) C dM_isBefore_31 (by decide) ?_
        refine s_icmp_geN 55 C dM_isBefore_33 (by decide) (by omega) (by omega) (fun c2 => ?_) (fun c2 => ?_)
        · exact done i (by omega) heq (fun z => absurd z (by omega))
        · exact absurd c2 (by omega)
      | succ k ih =>
        intro i hi heq
        refine s_iload_n 2 C dM_isBefore_30 rfl ?_
        refine s_bipush (nI 14) C dM_isBefore_31 (by decide) ?_
        refine s_icmp_geN 55 C dM_isBefore_33 (by decide) (by omega) (by omega) (fun c2 => ?_) (fun c2 => ?_)
        · exact absurd c2 (by omega)
        · refine s_iload_n 0 C dM_isBefore_36 rfl ?_
          refine s_iload_n 2 C dM_isBefore_37 rfl ?_
          refine s_callPS (n := 2) [] [] C pfP (kM_has E.2.1 D cA a i (by omega) (by omega)) gM_36 dM_isBefore_38 (by decide +kernel) rfl (by decide) (by decide) rfl rfl (Nat.le_of_ble_eq_true rfl) (Nat.zero_le _) (Nat.zero_le _) (fun rh hh9 => ?_)
          refine s_top hh9 ?_
          refine s_iload_n 1 C dM_isBefore_41 rfl ?_
          refine s_iload_n 2 C dM_isBefore_42 rfl ?_
          refine s_callPS (n := 2) [] [.int (nI ((bm a i).toNat))] C pfP (kM_has E.2.1 D cA b i (by omega) (by omega)) gM_36 dM_isBefore_43 (by decide +kernel) rfl (by decide) (by decide) rfl rfl (Nat.le_of_ble_eq_true rfl) (Nat.zero_le _) (Nat.zero_le _) (fun rh hh9 => ?_)
          refine s_top hh9 ?_
          refine s_icmp_neN 55 C dM_isBefore_46 (by decide) (bt31 _) (bt31 _) (fun c3 => ?_) (fun c3 => ?_)
          · exact done i (by omega) heq (fun _ z => c3 (by rw [z]))
          · refine s_iinc (j := 2) (nI (i + 1)) [(0, .int (nI a)), (1, .int (nI b)), (2, .int (nI (i + 1)))] [1, 2, 0] C dM_isBefore_49 rfl (inc1 _) (by decide) rfl ?_
            refine s_goto (tgt := 30) C dM_isBefore_52 (by decide) ?_
            refine ih (i + 1) (by omega) (fun j hj => ?_)
            by_cases z : j = i
            · subst z
              cases z1 : bm a j <;> cases z2 : bm b j <;> simp [z1, z2] at c3 ⊢
            · exact heq j (by omega)
    exact loop 14 0 (by omega) (fun j hj => absurd hj (by omega))
  · refine s_iload_n 0 C dM_isBefore_11 rfl ?_
    refine s_callPS (n := 1) [] [] C pfP (kM_size E.2.1 D cA a (by omega)) gM_40 dM_isBefore_12 (by decide +kernel) rfl (by decide) (by decide) rfl rfl (Nat.le_of_ble_eq_true rfl) (Nat.zero_le _) (Nat.zero_le _) (fun rs hs9 => ?_)
    refine s_top hs9 ?_
    refine s_iload_n 1 C dM_isBefore_15 rfl ?_
    refine s_callPS (n := 1) [] [.int (nI (hsz 14 (bm a)))] C pfP (kM_size E.2.1 D cA b (by omega)) gM_40 dM_isBefore_16 (by decide +kernel) rfl (by decide) (by decide) rfl rfl (Nat.le_of_ble_eq_true rfl) (Nat.zero_le _) (Nat.zero_le _) (fun rs hs9 => ?_)
    refine s_top hs9 ?_
    refine s_icmp_geN 26 C dM_isBefore_19 (by decide) (by omega) (by omega) (fun c2 => ?_) (fun c2 => ?_)
    · refine s_iconst (nI 0) C dM_isBefore_26 (by decide) ?_
      exact hret _ _ _ dM_isBefore_27 rfl (Or.inr ⟨rfl, fun z => by rcases okey_lt.mp z with y | y <;> omega⟩)
    · refine s_iconst (nI 1) C dM_isBefore_22 (by decide) ?_
      refine s_goto (tgt := 27) C dM_isBefore_23 (by decide) ?_
      exact hret _ _ _ dM_isBefore_27 rfl (Or.inl ⟨rfl, okey_lt.mpr (Or.inl c2)⟩)
set_option maxHeartbeats 4000000 in
set_option maxRecDepth 100000 in
/-- how many edges of the set the vertex has -/
theorem kM_degree (l : Launch) (D : va_G) (cA : ClassId) (y p1 p2 p3 p4 : Nat) (n m : Nat) (fi se : Nat → Nat) (s v : Nat) (hm : m ≤ 14) (hv : v < 100) (hs : s < 2 ^ 14) (hfi : ∀ e, e < m → fi e < 100) (hse : ∀ e, e < m → se e < 100) : CtP l yM_degree (.code yM_degree cM_degree 5 (some .int)) 1 D cA [.ref y, .int (nI s), .int (nI v)] [(y, .inr (5, [.int (nI n), .int (nI m), .ref p1, .ref p2, .ref p3, .ref p4])), (p1, .inl (cA, 14, .inl (aN fi))), (p2, .inl (cA, 14, .inl (aN se)))] (fun r => r = nI (hdg fi se m (bm s) v)) := by
  refine mkP [(0, .ref y), (1, .int (nI s)), (2, .int (nI v))] (by decide) rfl (Nat.le_of_ble_eq_true rfl) ?_
  intro E Q hE C hret
  refine s_iconst (nI 0) C dM_degree_0 (by decide) ?_
  refine s_istore_n [(0, .ref y), (1, .int (nI s)), (2, .int (nI v)), (3, .int (nI 0))] [1, 2, 3, 0] C dM_degree_1 (by decide) rfl ?_
  refine s_iconst (nI 0) C dM_degree_2 (by decide) ?_
  refine s_istore [(0, .ref y), (1, .int (nI s)), (2, .int (nI v)), (3, .int (nI 0)), (4, .int (nI 0))] [1, 2, 3, 4, 0] C dM_degree_3 (by decide) rfl ?_
  have loop : ∀ k i, i + k = m → ST E 5 Q 0 0 (pf E D [(y, .inr (5, [.int (nI n), .int (nI m), .ref p1, .ref p2, .ref p3, .ref p4])), (p1, .inl (cA, 14, .inl (aN fi))), (p2, .inl (cA, 14, .inl (aN se)))]) [(0, .ref y), (1, .int (nI s)), (2, .int (nI v)), (3, .int (nI (su (fun j => (bm s j).toNat * hin fi se j v) i))), (4, .int (nI i))] [] 5 := by
    intro k
    induction k with
    | zero =>
      intro i hi
      refine s_iload 4 C dM_degree_5 rfl ?_
      refine s_aload_n 0 C dM_degree_7 rfl ?_
      refine s_get (.int (nI m)) 0 1 C pfP inM flM_26 dM_degree_8 rfl rfl (by decide) rfl ?_
      refine s_icmp_geN 59 C dM_degree_11 (by decide) (by omega) (by omega) (fun c1 => ?_) (fun c1 => ?_)
      · refine s_iload_n 3 C dM_degree_59 rfl ?_
        have e : i = m := by omega
        subst e
        exact hret _ _ _ dM_degree_60 rfl rfl
      · exact absurd c1 (by omega)
    | succ k ih =>
      intro i hi
      refine s_iload 4 C dM_degree_5 rfl ?_
      refine s_aload_n 0 C dM_degree_7 rfl ?_
      refine s_get (.int (nI m)) 0 1 C pfP inM flM_26 dM_degree_8 rfl rfl (by decide) rfl ?_
      refine s_icmp_geN 59 C dM_degree_11 (by decide) (by omega) (by omega) (fun c1 => ?_) (fun c1 => ?_)
      · exact absurd c1 (by omega)
      · have hsu : su (fun j => (bm s j).toNat * hin fi se j v) (i + 1) = su (fun j => (bm s j).toNat * hin fi se j v) i + (bm s i).toNat * hin fi se i v := rfl
        have f1 := hfi i c1
        have f2 := hse i c1
        refine s_iload_n 1 C dM_degree_14 rfl ?_
        refine s_iload 4 C dM_degree_15 rfl ?_
        refine s_callPS (n := 2) [] [] C pfP (kM_has E.2.1 D cA s i (by omega) (by omega)) gM_36 dM_degree_17 (by decide +kernel) rfl (by decide) (by decide) rfl rfl (Nat.le_of_ble_eq_true rfl) (Nat.zero_le _) (Nat.zero_le _) (fun rh hh9 => ?_)
        refine s_top hh9 ?_
        refine s_if_eqN 51 C dM_degree_20 (by decide) (bt31 _) (fun c2 => ?_) (fun c2 => ?_)
        · have c3 : bm s i = false := bmF.mp c2
          refine s_iload_n 3 C dM_degree_51 rfl ?_
          refine s_istore_n [(0, .ref y), (1, .int (nI s)), (2, .int (nI v)), (3, .int (nI (su (fun j => (bm s j).toNat * hin fi se j v) i))), (4, .int (nI i))] [1, 2, 3, 0, 4] C dM_degree_52 (by decide) rfl ?_
          refine s_iinc (j := 4) (nI (i + 1)) [(0, .ref y), (1, .int (nI s)), (2, .int (nI v)), (3, .int (nI (su (fun j => (bm s j).toNat * hin fi se j v) i))), (4, .int (nI (i + 1)))] [1, 2, 3, 4, 0] C dM_degree_53 rfl (inc1 _) (by decide) rfl ?_
          refine s_goto (tgt := 5) C dM_degree_56 (by decide) ?_
          have e : su (fun j => (bm s j).toNat * hin fi se j v) (i + 1) = su (fun j => (bm s j).toNat * hin fi se j v) i + 0 := by
            rw [hsu, c3]; simp
          have h9 := ih (i + 1) (by omega)
          rw [e] at h9
          exact h9
        · have c3 : bm s i = true := by
            cases z : bm s i
            · rw [z] at c2; exact absurd rfl c2
            · rfl
          refine s_aload_n 0 C dM_degree_23 rfl ?_
          refine s_get (.ref p1) 0 2 C pfP inM flM_13 dM_degree_24 rfl rfl (by decide) rfl ?_
          refine s_iload 4 C dM_degree_27 rfl ?_
          refine s_ialdN 1 C pfP dM_degree_29 rfl (by omega) (by decide) ?_
          refine s_iload_n 2 C dM_degree_30 rfl ?_
          refine s_icmp_eqN 45 C dM_degree_31 (by decide) (by omega) (by omega) (fun c4 => ?_) (fun c4 => ?_)
          · refine s_iload_n 3 C dM_degree_45 rfl ?_
            refine s_iconst (nI 1) C dM_degree_46 (by decide) ?_
            refine s_iaddN C dM_degree_47 ?_
            refine s_goto (tgt := 52) C dM_degree_48 (by decide) ?_
            refine s_istore_n [(0, .ref y), (1, .int (nI s)), (2, .int (nI v)), (3, .int (nI (su (fun j => (bm s j).toNat * hin fi se j v) i + 1))), (4, .int (nI i))] [1, 2, 3, 0, 4] C dM_degree_52 (by decide) rfl ?_
            refine s_iinc (j := 4) (nI (i + 1)) [(0, .ref y), (1, .int (nI s)), (2, .int (nI v)), (3, .int (nI (su (fun j => (bm s j).toNat * hin fi se j v) i + 1))), (4, .int (nI (i + 1)))] [1, 2, 3, 4, 0] C dM_degree_53 rfl (inc1 _) (by decide) rfl ?_
            refine s_goto (tgt := 5) C dM_degree_56 (by decide) ?_
            have e : su (fun j => (bm s j).toNat * hin fi se j v) (i + 1) = su (fun j => (bm s j).toNat * hin fi se j v) i + 1 := by
              rw [hsu, c3, hin_or (Or.inl c4)]; rfl
            have h9 := ih (i + 1) (by omega)
            rw [e] at h9
            exact h9
          · refine s_aload_n 0 C dM_degree_34 rfl ?_
            refine s_get (.ref p2) 0 3 C pfP inM flM_17 dM_degree_35 rfl rfl (by decide) rfl ?_
            refine s_iload 4 C dM_degree_38 rfl ?_
            refine s_ialdN 2 C pfP dM_degree_40 rfl (by omega) (by decide) ?_
            refine s_iload_n 2 C dM_degree_41 rfl ?_
            refine s_icmp_neN 51 C dM_degree_42 (by decide) (by omega) (by omega) (fun c5 => ?_) (fun c5 => ?_)
            · refine s_iload_n 3 C dM_degree_51 rfl ?_
              refine s_istore_n [(0, .ref y), (1, .int (nI s)), (2, .int (nI v)), (3, .int (nI (su (fun j => (bm s j).toNat * hin fi se j v) i))), (4, .int (nI i))] [1, 2, 3, 0, 4] C dM_degree_52 (by decide) rfl ?_
              refine s_iinc (j := 4) (nI (i + 1)) [(0, .ref y), (1, .int (nI s)), (2, .int (nI v)), (3, .int (nI (su (fun j => (bm s j).toNat * hin fi se j v) i))), (4, .int (nI (i + 1)))] [1, 2, 3, 4, 0] C dM_degree_53 rfl (inc1 _) (by decide) rfl ?_
              refine s_goto (tgt := 5) C dM_degree_56 (by decide) ?_
              have e : su (fun j => (bm s j).toNat * hin fi se j v) (i + 1) = su (fun j => (bm s j).toNat * hin fi se j v) i + 0 := by
                rw [hsu, c3, hin_no (by rintro (h | h); exact c4 h; exact c5 h)]; rfl
              have h9 := ih (i + 1) (by omega)
              rw [e] at h9
              exact h9
            · refine s_iload_n 3 C dM_degree_45 rfl ?_
              refine s_iconst (nI 1) C dM_degree_46 (by decide) ?_
              refine s_iaddN C dM_degree_47 ?_
              refine s_goto (tgt := 52) C dM_degree_48 (by decide) ?_
              refine s_istore_n [(0, .ref y), (1, .int (nI s)), (2, .int (nI v)), (3, .int (nI (su (fun j => (bm s j).toNat * hin fi se j v) i + 1))), (4, .int (nI i))] [1, 2, 3, 0, 4] C dM_degree_52 (by decide) rfl ?_
              refine s_iinc (j := 4) (nI (i + 1)) [(0, .ref y), (1, .int (nI s)), (2, .int (nI v)), (3, .int (nI (su (fun j => (bm s j).toNat * hin fi se j v) i + 1))), (4, .int (nI (i + 1)))] [1, 2, 3, 4, 0] C dM_degree_53 rfl (inc1 _) (by decide) rfl ?_
              refine s_goto (tgt := 5) C dM_degree_56 (by decide) ?_
              have e : su (fun j => (bm s j).toNat * hin fi se j v) (i + 1) = su (fun j => (bm s j).toNat * hin fi se j v) i + 1 := by
                rw [hsu, c3, hin_or (Or.inr c5)]; rfl
              have h9 := ih (i + 1) (by omega)
              rw [e] at h9
              exact h9
  exact loop m 0 (by omega)
set_option maxHeartbeats 4000000 in
set_option maxRecDepth 100000 in
/-- isFair -/
theorem kM_isFair (l : Launch) (D : va_G) (cA : ClassId) (y p1 p2 p3 p4 : Nat) (n m : Nat) (fi se wa : Nat → Nat) (g1 : 1 ≤ n) (g2 : n ≤ 9) (g3 : m ≤ 14) (g4 : hok fi se n m) (g5 : ∀ v, v < 9 → wa v ≤ 50) (s : Nat) (hs : s < 2 ^ 14) : CtP l yM_isFair (.code yM_isFair cM_isFair 3 (some .boolean)) 2 D cA [.ref y, .int (nI s)] [(y, .inr (5, [.int (nI n), .int (nI m), .ref p1, .ref p2, .ref p3, .ref p4])), (p1, .inl (cA, 14, .inl (aN fi))), (p2, .inl (cA, 14, .inl (aN se))), (p3, .inl (cA, 9, .inl (aN wa)))] (fun r => (r = nI 1 ∧ hfa fi se n m wa (bm s)) ∨ (r = nI 0 ∧ ¬ hfa fi se n m wa (bm s))) := by
  refine mkP [(0, .ref y), (1, .int (nI s))] (by decide) rfl (Nat.le_of_ble_eq_true rfl) ?_
  intro E Q hE C hret
  refine s_iconst (nI 0) C dM_isFair_0 (by decide) ?_
  refine s_istore_n [(0, .ref y), (1, .int (nI s)), (2, .int (nI 0))] [1, 2, 0] C dM_isFair_1 (by decide) rfl ?_
  have loop : ∀ k i, i + k = n → (∀ v, v < i → hdg fi se m (bm s) v ≤ wa v) → ST E 3 Q 0 0 (pf E D [(y, .inr (5, [.int (nI n), .int (nI m), .ref p1, .ref p2, .ref p3, .ref p4])), (p1, .inl (cA, 14, .inl (aN fi))), (p2, .inl (cA, 14, .inl (aN se))), (p3, .inl (cA, 9, .inl (aN wa)))]) [(0, .ref y), (1, .int (nI s)), (2, .int (nI i))] [] 2 := by
    intro k
    induction k with
    | zero =>
      intro i hi hall
      refine s_iload_n 2 C dM_isFair_2 rfl ?_
      refine s_aload_n 0 C dM_isFair_3 rfl ?_
      refine s_get (.int (nI n)) 0 0 C pfP inM flM_7 dM_isFair_4 rfl rfl (by decide) rfl ?_
      refine s_icmp_geN 33 C dM_isFair_7 (by decide) (by omega) (by omega) (fun c1 => ?_) (fun c1 => ?_)
      · refine s_iconst (nI 1) C dM_isFair_33 (by decide) ?_
        have e : n = i := by omega
        subst e
        exact hret _ _ _ dM_isFair_34 rfl (Or.inl ⟨rfl, hall⟩)
      · exact absurd c1 (by omega)
    | succ k ih =>
      intro i hi hall
      refine s_iload_n 2 C dM_isFair_2 rfl ?_
      refine s_aload_n 0 C dM_isFair_3 rfl ?_
      refine s_get (.int (nI n)) 0 0 C pfP inM flM_7 dM_isFair_4 rfl rfl (by decide) rfl ?_
      refine s_icmp_geN 33 C dM_isFair_7 (by decide) (by omega) (by omega) (fun c1 => ?_) (fun c1 => ?_)
      · exact absurd c1 (by omega)
      · have hgi := g5 i (by omega)
        have hdm : hdg fi se m (bm s) i ≤ 14 := by
          have h1 : hdg fi se m (bm s) i ≤ hsz m (bm s) := su_le (fun j _ => by
            have a1 := Bool.toNat_le (bm s j)
            have a2 : hin fi se j i ≤ 1 := by unfold hin; split <;> omega
            have := Nat.mul_le_mul_left (bm s j).toNat a2
            omega)
          have h2 := hsz_le m (bm s)
          omega
        refine s_aload_n 0 C dM_isFair_10 rfl ?_
        refine s_iload_n 1 C dM_isFair_11 rfl ?_
        refine s_iload_n 2 C dM_isFair_12 rfl ?_
        refine s_callP (n := 2) [0, 1, 2] 0 [] C pfP (kM_degree E.2.1 D cA y p1 p2 p3 p4 n m fi se s i g3 (by omega) hs (fun e he => by have := (g4 e he).1; omega) (fun e he => by have := (g4 e he).2.1; omega)) gM_44 dM_isFair_13 (by decide +kernel) rfl rfl rfl rfl (by decide) (by decide) rfl rfl (Nat.le_of_ble_eq_true rfl) (Nat.zero_le _) (Nat.zero_le _) (fun rd hd9 => ?_)
        refine s_top hd9 ?_
        refine s_aload_n 0 C dM_isFair_16 rfl ?_
        refine s_get (.ref p3) 0 4 C pfP inM flM_20 dM_isFair_17 rfl rfl (by decide) rfl ?_
        refine s_iload_n 2 C dM_isFair_20 rfl ?_
        refine s_ialdN 3 C pfP dM_isFair_21 rfl (by omega) (by decide) ?_
        refine s_icmp_leN 27 C dM_isFair_22 (by decide) (by omega) (by omega) (fun c2 => ?_) (fun c2 => ?_)
        · refine s_iinc (j := 2) (nI (i + 1)) [(0, .ref y), (1, .int (nI s)), (2, .int (nI (i + 1)))] [1, 2, 0] C dM_isFair_27 rfl (inc1 _) (by decide) rfl ?_
          refine s_goto (tgt := 2) C dM_isFair_30 (by decide) ?_
          refine ih (i + 1) (by omega) (fun v hv => ?_)
          by_cases z : v = i
          · subst z; exact c2
          · exact hall v (by omega)
        · refine s_iconst (nI 0) C dM_isFair_25 (by decide) ?_
          exact hret _ _ _ dM_isFair_26 rfl (Or.inr ⟨rfl, fun z => absurd (z i c1) (by omega)⟩)
  exact loop n 0 (by omega) (fun v hv => absurd hv (by omega))
set_option maxHeartbeats 4000000 in
set_option maxRecDepth 100000 in
/-- isFactor -/
theorem kM_isFactor (l : Launch) (D : va_G) (cA : ClassId) (y p1 p2 p3 p4 : Nat) (n m : Nat) (fi se wa : Nat → Nat) (g1 : 1 ≤ n) (g2 : n ≤ 9) (g3 : m ≤ 14) (g4 : hok fi se n m) (g5 : ∀ v, v < 9 → wa v ≤ 50) (s : Nat) (hs : s < 2 ^ 14) : CtP l yM_isFactor (.code yM_isFactor cM_isFactor 3 (some .boolean)) 2 D cA [.ref y, .int (nI s)] [(y, .inr (5, [.int (nI n), .int (nI m), .ref p1, .ref p2, .ref p3, .ref p4])), (p1, .inl (cA, 14, .inl (aN fi))), (p2, .inl (cA, 14, .inl (aN se))), (p3, .inl (cA, 9, .inl (aN wa)))] (fun r => (r = nI 1 ∧ isFa fi se wa n m s) ∨ (r = nI 0 ∧ ¬ isFa fi se wa n m s)) := by
  refine mkP [(0, .ref y), (1, .int (nI s))] (by decide) rfl (Nat.le_of_ble_eq_true rfl) ?_
  intro E Q hE C hret
  refine s_iconst (nI 0) C dM_isFactor_0 (by decide) ?_
  refine s_istore_n [(0, .ref y), (1, .int (nI s)), (2, .int (nI 0))] [1, 2, 0] C dM_isFactor_1 (by decide) rfl ?_
  have loop : ∀ k i, i + k = n → (∀ v, v < i → hdg fi se m (bm s) v = wa v) → ST E 3 Q 0 0 (pf E D [(y, .inr (5, [.int (nI n), .int (nI m), .ref p1, .ref p2, .ref p3, .ref p4])), (p1, .inl (cA, 14, .inl (aN fi))), (p2, .inl (cA, 14, .inl (aN se))), (p3, .inl (cA, 9, .inl (aN wa)))]) [(0, .ref y), (1, .int (nI s)), (2, .int (nI i))] [] 2 := by
    intro k
    induction k with
    | zero =>
      intro i hi hall
      refine s_iload_n 2 C dM_isFactor_2 rfl ?_
      refine s_aload_n 0 C dM_isFactor_3 rfl ?_
      refine s_get (.int (nI n)) 0 0 C pfP inM flM_7 dM_isFactor_4 rfl rfl (by decide) rfl ?_
      refine s_icmp_geN 33 C dM_isFactor_7 (by decide) (by omega) (by omega) (fun c1 => ?_) (fun c1 => ?_)
      · refine s_iconst (nI 1) C dM_isFactor_33 (by decide) ?_
        have e : n = i := by omega
        subst e
        exact hret _ _ _ dM_isFactor_34 rfl (Or.inl ⟨rfl, hall⟩)
      · exact absurd c1 (by omega)
    | succ k ih =>
      intro i hi hall
      refine s_iload_n 2 C dM_isFactor_2 rfl ?_
      refine s_aload_n 0 C dM_isFactor_3 rfl ?_
      refine s_get (.int (nI n)) 0 0 C pfP inM flM_7 dM_isFactor_4 rfl rfl (by decide) rfl ?_
      refine s_icmp_geN 33 C dM_isFactor_7 (by decide) (by omega) (by omega) (fun c1 => ?_) (fun c1 => ?_)
      · exact absurd c1 (by omega)
      · have hgi := g5 i (by omega)
        have hdm : hdg fi se m (bm s) i ≤ 14 := by
          have h1 : hdg fi se m (bm s) i ≤ hsz m (bm s) := su_le (fun j _ => by
            have a1 := Bool.toNat_le (bm s j)
            have a2 : hin fi se j i ≤ 1 := by unfold hin; split <;> omega
            have := Nat.mul_le_mul_left (bm s j).toNat a2
            omega)
          have h2 := hsz_le m (bm s)
          omega
        refine s_aload_n 0 C dM_isFactor_10 rfl ?_
        refine s_iload_n 1 C dM_isFactor_11 rfl ?_
        refine s_iload_n 2 C dM_isFactor_12 rfl ?_
        refine s_callP (n := 2) [0, 1, 2] 0 [] C pfP (kM_degree E.2.1 D cA y p1 p2 p3 p4 n m fi se s i g3 (by omega) hs (fun e he => by have := (g4 e he).1; omega) (fun e he => by have := (g4 e he).2.1; omega)) gM_44 dM_isFactor_13 (by decide +kernel) rfl rfl rfl rfl (by decide) (by decide) rfl rfl (Nat.le_of_ble_eq_true rfl) (Nat.zero_le _) (Nat.zero_le _) (fun rd hd9 => ?_)
        refine s_top hd9 ?_
        refine s_aload_n 0 C dM_isFactor_16 rfl ?_
        refine s_get (.ref p3) 0 4 C pfP inM flM_20 dM_isFactor_17 rfl rfl (by decide) rfl ?_
        refine s_iload_n 2 C dM_isFactor_20 rfl ?_
        refine s_ialdN 3 C pfP dM_isFactor_21 rfl (by omega) (by decide) ?_
        refine s_icmp_eqN 27 C dM_isFactor_22 (by decide) (by omega) (by omega) (fun c2 => ?_) (fun c2 => ?_)
        · refine s_iinc (j := 2) (nI (i + 1)) [(0, .ref y), (1, .int (nI s)), (2, .int (nI (i + 1)))] [1, 2, 0] C dM_isFactor_27 rfl (inc1 _) (by decide) rfl ?_
          refine s_goto (tgt := 2) C dM_isFactor_30 (by decide) ?_
          refine ih (i + 1) (by omega) (fun v hv => ?_)
          by_cases z : v = i
          · subst z; exact c2
          · exact hall v (by omega)
        · refine s_iconst (nI 0) C dM_isFactor_25 (by decide) ?_
          exact hret _ _ _ dM_isFactor_26 rfl (Or.inr ⟨rfl, fun z => absurd (z i c1) (by omega)⟩)
  exact loop n 0 (by omega) (fun v hv => absurd hv (by omega))
set_option maxHeartbeats 4000000 in
set_option maxRecDepth 100000 in
/-- all -/
theorem kM_allEdges (l : Launch) (D : va_G) (cA : ClassId) (y p1 p2 p3 p4 n m : Nat) (hm : m ≤ 14) : CtP l yM_allEdges (.code yM_allEdges cM_allEdges 1 (some .int)) 0 D cA [.ref y] [(y, .inr (5, [.int (nI n), .int (nI m), .ref p1, .ref p2, .ref p3, .ref p4]))] (fun r => r = nI (2 ^ m - 1)) := by
  refine mkP [(0, .ref y)] (by decide) rfl (Nat.le_of_ble_eq_true rfl) ?_
  intro E Q hE C hret
  have h2p : 1 ≤ 2 ^ m := Nat.one_le_two_pow
  refine s_iconst (nI 1) C dM_allEdges_0 (by decide) ?_
  refine s_aload_n 0 C dM_allEdges_1 rfl ?_
  refine s_get (.int (nI m)) 0 1 C pfP inM flM_26 dM_allEdges_2 rfl rfl (by decide) rfl ?_
  refine s_shl1 C dM_allEdges_5 (by omega) ?_
  refine s_iconst (nI 1) C dM_allEdges_6 (by decide) ?_
  refine s_isubN C dM_allEdges_7 (by omega) ?_
  exact hret _ _ _ dM_allEdges_8 rfl rfl
set_option maxHeartbeats 4000000 in
set_option maxRecDepth 100000 in
/-- judge -/
theorem kM_judge (l : Launch) (D : va_G) (cA : ClassId) (y p1 p2 p3 p4 : Nat) (n m : Nat) (fi se wa : Nat → Nat) (hG : GOK n m fi se wa) (p : Int32) : CtP l yM_judge (.code yM_judge cM_judge 2 (some .int)) 3 D cA [.ref y, .int p] [(y, .inr (5, [.int (nI n), .int (nI m), .ref p1, .ref p2, .ref p3, .ref p4])), (p1, .inl (cA, 14, .inl (aN fi))), (p2, .inl (cA, 14, .inl (aN se))), (p3, .inl (cA, 9, .inl (aN wa)))] (fun r => judP p r n m fi se wa) := by
  refine mkP [(0, .ref y), (1, .int p)] (by decide) rfl (Nat.le_of_ble_eq_true rfl) ?_
  intro E Q hE C hret
  obtain ⟨g1, g2, g3, g4, g50, g6⟩ := hG
  have g5 : ∀ v, v < 9 → wa v ≤ 50 := fun v hv => by have := g50 v hv; omega
  have h2m : 2 ^ m ≤ 2 ^ 14 := p2_le g3
  have h2p : 1 ≤ 2 ^ m := Nat.one_le_two_pow
  refine s_iload_n 1 C dM_judge_0 rfl ?_
  refine s_if_lt 12 C dM_judge_1 (by decide) (fun c1 => ?_) (fun c1 => ?_)
  · refine s_iconst (-1) C dM_judge_12 (by decide) ?_
    exact hret _ _ _ dM_judge_13 rfl (Or.inr ⟨inR_no1 c1 (by omega), rfl⟩)
  · obtain ⟨s, hs, rfl⟩ := nI_of c1
    refine s_iload_n 1 C dM_judge_4 rfl ?_
    refine s_aload_n 0 C dM_judge_5 rfl ?_
    refine s_callP (n := 0) [0] 0 [.int (nI s)] C pfP (kM_allEdges E.2.1 D cA y p1 p2 p3 p4 n m g3) gM_48 dM_judge_6 (by decide +kernel) rfl rfl rfl rfl (by decide) (by decide) rfl rfl (Nat.le_of_ble_eq_true rfl) (Nat.zero_le _) (Nat.zero_le _) (fun ra hall9 => ?_)
    refine s_top hall9 ?_
    refine s_icmp_leN 14 C dM_judge_9 (by decide) (by omega) (by omega) (fun c2 => ?_) (fun c2 => ?_)
    · have hsm : s < 2 ^ m := by omega
      refine s_aload_n 0 C dM_judge_14 rfl ?_
      refine s_iload_n 1 C dM_judge_15 rfl ?_
      refine s_callP (n := 1) [0, 1, 2, 3] 0 [] C pfP (kM_isFactor E.2.1 D cA y p1 p2 p3 p4 n m fi se wa g1 g2 g3 g4 g5 s (by omega)) gM_52 dM_judge_16 (by decide +kernel) rfl rfl rfl rfl (by decide) (by decide) rfl rfl (Nat.le_of_ble_eq_true rfl) (Nat.zero_le _) (Nat.zero_le _) (fun rf hfc => ?_)
      rcases hfc with ⟨er, hy⟩ | ⟨er, hn⟩
      · refine s_top er ?_
        refine s_if_eqN 26 C dM_judge_19 (by decide) (by decide) (fun c3 => ?_) (fun c3 => ?_)
        · exact absurd c3 (by decide)
        · refine s_iconst (nI 2) C dM_judge_22 (by decide) ?_
          refine s_goto (tgt := 39) C dM_judge_23 (by decide) ?_
          exact hret _ _ _ dM_judge_39 rfl (Or.inl ⟨s, hsm, rfl, Or.inl ⟨hy, rfl⟩⟩)
      · refine s_top er ?_
        refine s_if_eqN 26 C dM_judge_19 (by decide) (by decide) (fun c3 => ?_) (fun c3 => ?_)
        · refine s_aload_n 0 C dM_judge_26 rfl ?_
          refine s_iload_n 1 C dM_judge_27 rfl ?_
          refine s_callP (n := 1) [0, 1, 2, 3] 0 [] C pfP (kM_isFair E.2.1 D cA y p1 p2 p3 p4 n m fi se wa g1 g2 g3 g4 g5 s (by omega)) gM_55 dM_judge_28 (by decide +kernel) rfl rfl rfl rfl (by decide) (by decide) rfl rfl (Nat.le_of_ble_eq_true rfl) (Nat.zero_le _) (Nat.zero_le _) (fun rf hfr => ?_)
          rcases hfr with ⟨er, hy2⟩ | ⟨er, hn2⟩
          · refine s_top er ?_
            refine s_if_eqN 38 C dM_judge_31 (by decide) (by decide) (fun c4 => ?_) (fun c4 => ?_)
            · exact absurd c4 (by decide)
            · refine s_iconst (nI 1) C dM_judge_34 (by decide) ?_
              refine s_goto (tgt := 39) C dM_judge_35 (by decide) ?_
              exact hret _ _ _ dM_judge_39 rfl (Or.inl ⟨s, hsm, rfl, Or.inr (Or.inl ⟨hn, hy2, rfl⟩)⟩)
          · refine s_top er ?_
            refine s_if_eqN 38 C dM_judge_31 (by decide) (by decide) (fun c4 => ?_) (fun c4 => ?_)
            · refine s_iconst (nI 0) C dM_judge_38 (by decide) ?_
              exact hret _ _ _ dM_judge_39 rfl (Or.inl ⟨s, hsm, rfl, Or.inr (Or.inr ⟨hn2, rfl⟩)⟩)
            · exact absurd rfl c4
        · exact absurd rfl c3
    · refine s_iconst (-1) C dM_judge_12 (by decide) ?_
      exact hret _ _ _ dM_judge_13 rfl (Or.inr ⟨fun ⟨j, hj, e⟩ => absurd ((nI_eq hs (by omega)).mp e) (by omega), rfl⟩)
set_option maxHeartbeats 4000000 in
set_option maxRecDepth 100000 in
/-- best -/
theorem kM_best (l : Launch) (D : va_G) (cA : ClassId) (y p1 p2 p3 p4 : Nat) (n m : Nat) (fi se wa : Nat → Nat) (g1 : 1 ≤ n) (g2 : n ≤ 9) (g3 : m ≤ 14) (g4 : hok fi se n m) (g5 : ∀ v, v < 9 → wa v ≤ 50)  : CtP l yM_best (.code yM_best cM_best 4 (some .int)) 3 D cA [.ref y] [(y, .inr (5, [.int (nI n), .int (nI m), .ref p1, .ref p2, .ref p3, .ref p4])), (p1, .inl (cA, 14, .inl (aN fi))), (p2, .inl (cA, 14, .inl (aN se))), (p3, .inl (cA, 9, .inl (aN wa)))] (fun r => bestP fi se wa m r) := by
  refine mkP [(0, .ref y)] (by decide) rfl (Nat.le_of_ble_eq_true rfl) ?_
  intro E Q hE C hret
  have h2m : 2 ^ m ≤ 2 ^ 14 := p2_le g3
  have h2p : 1 ≤ 2 ^ m := Nat.one_le_two_pow
  refine s_iconst (nI 0) C dM_best_0 (by decide) ?_
  refine s_istore_n [(0, .ref y), (1, .int (nI 0))] [1, 0] C dM_best_1 (by decide) rfl ?_
  refine s_iconst (nI 0) C dM_best_2 (by decide) ?_
  refine s_istore_n [(0, .ref y), (1, .int (nI 0)), (2, .int (nI 0))] [1, 2, 0] C dM_best_3 (by decide) rfl ?_
  have loop : ∀ k i (f : Nat), i + k = 2 ^ m → bI fi se wa n m i f → ST E 4 Q 0 0 (pf E D [(y, .inr (5, [.int (nI n), .int (nI m), .ref p1, .ref p2, .ref p3, .ref p4])), (p1, .inl (cA, 14, .inl (aN fi))), (p2, .inl (cA, 14, .inl (aN se))), (p3, .inl (cA, 9, .inl (aN wa)))]) [(0, .ref y), (1, .int (nI f)), (2, .int (nI i))] [] 4 := by
    intro k
    induction k with
    | zero =>
      intro i f hi hI
      refine s_iload_n 2 C dM_best_4 rfl ?_
      refine s_aload_n 0 C dM_best_5 rfl ?_
      refine s_callP (n := 0) [0] 0 [.int (nI i)] C pfP (kM_allEdges E.2.1 D cA y p1 p2 p3 p4 n m g3) gM_48 dM_best_6 (by decide +kernel) rfl rfl rfl rfl (by decide) (by decide) rfl rfl (Nat.le_of_ble_eq_true rfl) (Nat.zero_le _) (Nat.zero_le _) (fun ra hall9 => ?_)
      refine s_top hall9 ?_
      refine s_icmp_gtN 54 C dM_best_9 (by decide) (by omega) (by omega) (fun c1 => ?_) (fun c1 => ?_)
      · refine s_iload_n 1 C dM_best_54 rfl ?_
        have e : 2 ^ m = i := by omega
        subst e
        exact hret _ _ _ dM_best_55 rfl ⟨f, hI.1, bI_end g2 g3 g4 hI, rfl⟩
      · exact absurd c1 (by omega)
    | succ k ih =>
      intro i f hi hI
      refine s_iload_n 2 C dM_best_4 rfl ?_
      refine s_aload_n 0 C dM_best_5 rfl ?_
      refine s_callP (n := 0) [0] 0 [.int (nI i)] C pfP (kM_allEdges E.2.1 D cA y p1 p2 p3 p4 n m g3) gM_48 dM_best_6 (by decide +kernel) rfl rfl rfl rfl (by decide) (by decide) rfl rfl (Nat.le_of_ble_eq_true rfl) (Nat.zero_le _) (Nat.zero_le _) (fun ra hall9 => ?_)
      refine s_top hall9 ?_
      refine s_icmp_gtN 54 C dM_best_9 (by decide) (by omega) (by omega) (fun c1 => ?_) (fun c1 => ?_)
      · exact absurd c1 (by omega)
      · have hf := hI.1
        have hzi := hsz_le 14 (bm i)
        have hzf := hsz_le 14 (bm f)
        refine s_iload_n 2 C dM_best_12 rfl ?_
        refine s_callPS (n := 1) [] [] C pfP (kM_size E.2.1 D cA i (by omega)) gM_40 dM_best_13 (by decide +kernel) rfl (by decide) (by decide) rfl rfl (Nat.le_of_ble_eq_true rfl) (Nat.zero_le _) (Nat.zero_le _) (fun rs hs9 => ?_)
        refine s_top hs9 ?_
        refine s_iload_n 1 C dM_best_16 rfl ?_
        refine s_callPS (n := 1) [] [.int (nI (hsz 14 (bm i)))] C pfP (kM_size E.2.1 D cA f (by omega)) gM_40 dM_best_17 (by decide +kernel) rfl (by decide) (by decide) rfl rfl (Nat.le_of_ble_eq_true rfl) (Nat.zero_le _) (Nat.zero_le _) (fun rs hs9 => ?_)
        refine s_top hs9 ?_
        rcases Nat.lt_or_ge (hsz 14 (bm i)) (hsz 14 (bm f)) with hlt | hge
        · refine s_isub C dM_best_20 ?_
          refine s_istore_n [(0, .ref y), (1, .int (nI f)), (2, .int (nI i)), (3, .int (nI (hsz 14 (bm i)) - nI (hsz 14 (bm f))))] [1, 2, 3, 0] C dM_best_21 (by decide) rfl ?_
          refine s_iload_n 3 C dM_best_22 rfl ?_
          refine s_if_lt 48 C dM_best_23 (by decide) (fun c2 => ?_) (fun c2 => ?_)
          · refine s_iinc (j := 2) (nI (i + 1)) [(0, .ref y), (1, .int (nI f)), (2, .int (nI (i + 1))), (3, .int (nI (hsz 14 (bm i)) - nI (hsz 14 (bm f))))] [1, 2, 0, 3] C dM_best_48 rfl (inc1 _) (by decide) rfl ?_
            refine s_goto (tgt := 4) C dM_best_51 (by decide) ?_
            refine s_lv (lv' := [(0, .ref y), (1, .int (nI f)), (2, .int (nI (i + 1)))]) [0, 1, 2] rfl ?_
            refine ih (i + 1) f (by omega) (⟨hI.1, hI.2.1, fun s hs hfs => by
              by_cases z : s = i
              · subst z; exact Or.inl hlt
              · exact hI.2.2 s (by omega) hfs⟩)
          · exact absurd (pk_sneg (by omega) hlt) c2
        · refine s_isubN C dM_best_20 (by omega) ?_
          refine s_istore_n [(0, .ref y), (1, .int (nI f)), (2, .int (nI i)), (3, .int (nI ((hsz 14 (bm i)) - (hsz 14 (bm f)))))] [1, 2, 3, 0] C dM_best_21 (by decide) rfl ?_
          refine s_iload_n 3 C dM_best_22 rfl ?_
          refine s_if_ltN 48 C dM_best_23 (by decide) (by omega) ?_
          refine s_aload_n 0 C dM_best_26 rfl ?_
          refine s_iload_n 2 C dM_best_27 rfl ?_
          refine s_callP (n := 1) [0, 1, 2, 3] 0 [] C pfP (kM_isFair E.2.1 D cA y p1 p2 p3 p4 n m fi se wa g1 g2 g3 g4 g5 i (by omega)) gM_55 dM_best_28 (by decide +kernel) rfl rfl rfl rfl (by decide) (by decide) rfl rfl (Nat.le_of_ble_eq_true rfl) (Nat.zero_le _) (Nat.zero_le _) (fun rf hfr => ?_)
          rcases hfr with ⟨er, hy⟩ | ⟨er, hn⟩
          · refine s_top er ?_
            refine s_if_eqN 48 C dM_best_31 (by decide) (by decide) (fun c3 => ?_) (fun c3 => ?_)
            · exact absurd c3 (by decide)
            · refine s_iload_n 3 C dM_best_34 rfl ?_
              refine s_if_gtN 46 C dM_best_35 (by decide) (by omega) (fun c4 => ?_) (fun c4 => ?_)
              · refine s_iload_n 2 C dM_best_46 rfl ?_
                refine s_istore_n [(0, .ref y), (1, .int (nI i)), (2, .int (nI i)), (3, .int (nI ((hsz 14 (bm i)) - (hsz 14 (bm f)))))] [1, 0, 2, 3] C dM_best_47 (by decide) rfl ?_
                refine s_iinc (j := 2) (nI (i + 1)) [(0, .ref y), (1, .int (nI i)), (2, .int (nI (i + 1))), (3, .int (nI ((hsz 14 (bm i)) - (hsz 14 (bm f)))))] [1, 2, 0, 3] C dM_best_48 rfl (inc1 _) (by decide) rfl ?_
                refine s_goto (tgt := 4) C dM_best_51 (by decide) ?_
                refine s_lv (lv' := [(0, .ref y), (1, .int (nI i)), (2, .int (nI (i + 1)))]) [0, 1, 2] rfl ?_
                refine ih (i + 1) i (by omega) (⟨by omega, hy, fun s hs hfs => by
                  by_cases z : s = i
                  · subst z; exact okL_rf _
                  · exact okL_tr (Or.inl (by omega)) (hI.2.2 s (by omega) hfs)⟩)
              · refine s_iload_n 2 C dM_best_38 rfl ?_
                refine s_iload_n 1 C dM_best_39 rfl ?_
                refine s_callPS (n := 2) [] [] C pfP (kM_isBefore E.2.1 D cA i f (by omega) (by omega)) gM_58 dM_best_40 (by decide +kernel) rfl (by decide) (by decide) rfl rfl (Nat.le_of_ble_eq_true rfl) (Nat.zero_le _) (Nat.zero_le _) (fun rb hbf => ?_)
                rcases hbf with ⟨er, hy2⟩ | ⟨er, hn2⟩
                · refine s_top er ?_
                  refine s_if_eqN 48 C dM_best_43 (by decide) (by decide) (fun c5 => ?_) (fun c5 => ?_)
                  · exact absurd c5 (by decide)
                  · refine s_iload_n 2 C dM_best_46 rfl ?_
                    refine s_istore_n [(0, .ref y), (1, .int (nI i)), (2, .int (nI i)), (3, .int (nI ((hsz 14 (bm i)) - (hsz 14 (bm f)))))] [1, 0, 2, 3] C dM_best_47 (by decide) rfl ?_
                    refine s_iinc (j := 2) (nI (i + 1)) [(0, .ref y), (1, .int (nI i)), (2, .int (nI (i + 1))), (3, .int (nI ((hsz 14 (bm i)) - (hsz 14 (bm f)))))] [1, 2, 0, 3] C dM_best_48 rfl (inc1 _) (by decide) rfl ?_
                    refine s_goto (tgt := 4) C dM_best_51 (by decide) ?_
                    refine s_lv (lv' := [(0, .ref y), (1, .int (nI i)), (2, .int (nI (i + 1)))]) [0, 1, 2] rfl ?_
                    refine ih (i + 1) i (by omega) (⟨by omega, hy, fun s hs hfs => by
                      by_cases z : s = i
                      · subst z; exact okL_rf _
                      · exact okL_tr (Or.inr ⟨by omega, Nat.le_of_lt hy2⟩) (hI.2.2 s (by omega) hfs)⟩)
                · refine s_top er ?_
                  refine s_if_eqN 48 C dM_best_43 (by decide) (by decide) (fun c5 => ?_) (fun c5 => ?_)
                  · refine s_iinc (j := 2) (nI (i + 1)) [(0, .ref y), (1, .int (nI f)), (2, .int (nI (i + 1))), (3, .int (nI ((hsz 14 (bm i)) - (hsz 14 (bm f)))))] [1, 2, 0, 3] C dM_best_48 rfl (inc1 _) (by decide) rfl ?_
                    refine s_goto (tgt := 4) C dM_best_51 (by decide) ?_
                    refine s_lv (lv' := [(0, .ref y), (1, .int (nI f)), (2, .int (nI (i + 1)))]) [0, 1, 2] rfl ?_
                    refine ih (i + 1) f (by omega) (⟨hI.1, hI.2.1, fun s hs hfs => by
                      by_cases z : s = i
                      · subst z; exact Or.inr ⟨by omega, by omega⟩
                      · exact hI.2.2 s (by omega) hfs⟩)
                  · exact absurd rfl c5
          · refine s_top er ?_
            refine s_if_eqN 48 C dM_best_31 (by decide) (by decide) (fun c3 => ?_) (fun c3 => ?_)
            · refine s_iinc (j := 2) (nI (i + 1)) [(0, .ref y), (1, .int (nI f)), (2, .int (nI (i + 1))), (3, .int (nI ((hsz 14 (bm i)) - (hsz 14 (bm f)))))] [1, 2, 0, 3] C dM_best_48 rfl (inc1 _) (by decide) rfl ?_
              refine s_goto (tgt := 4) C dM_best_51 (by decide) ?_
              refine s_lv (lv' := [(0, .ref y), (1, .int (nI f)), (2, .int (nI (i + 1)))]) [0, 1, 2] rfl ?_
              refine ih (i + 1) f (by omega) (⟨hI.1, hI.2.1, fun s hs hfs => by
                by_cases z : s = i
                · subst z; exact absurd hfs hn
                · exact hI.2.2 s (by omega) hfs⟩)
            · exact absurd rfl c3
  exact loop (2 ^ m) 0 0 (by omega) (bI_0 fi se wa n m)
set_option maxHeartbeats 4000000 in
set_option maxRecDepth 100000 in
/-- most -/
theorem kM_most (l : Launch) (D : va_G) (cA : ClassId) (y p1 p2 p3 p4 : Nat) (n m : Nat) (fi se wa : Nat → Nat) (g1 : 1 ≤ n) (g2 : n ≤ 9) (g3 : m ≤ 14) (g4 : hok fi se n m) (g5 : ∀ v, v < 9 → wa v ≤ 50)  : CtP l yM_most (.code yM_most cM_most 1 (some .int)) 4 D cA [.ref y] [(y, .inr (5, [.int (nI n), .int (nI m), .ref p1, .ref p2, .ref p3, .ref p4])), (p1, .inl (cA, 14, .inl (aN fi))), (p2, .inl (cA, 14, .inl (aN se))), (p3, .inl (cA, 9, .inl (aN wa)))] (fun r => mostP fi se wa m r) := by
  refine mkP [(0, .ref y)] (by decide) rfl (Nat.le_of_ble_eq_true rfl) ?_
  intro E Q hE C hret
  have h2m : 2 ^ m ≤ 2 ^ 14 := p2_le g3
  refine s_aload_n 0 C dM_most_0 rfl ?_
  refine s_callP (n := 0) [0, 1, 2, 3] 0 [] C pfP (kM_best E.2.1 D cA y p1 p2 p3 p4 n m fi se wa g1 g2 g3 g4 g5 ) gM_61 dM_most_1 (by decide +kernel) rfl rfl rfl rfl (by decide) (by decide) rfl rfl (Nat.le_of_ble_eq_true rfl) (Nat.zero_le _) (Nat.zero_le _) (fun rb hb9 => ?_)
  obtain ⟨B, b1, b2, b3⟩ := hb9
  refine s_top b3 ?_
  refine s_callPS (n := 1) [] [] C pfP (kM_size E.2.1 D cA B (by omega)) gM_40 dM_most_4 (by decide +kernel) rfl (by decide) (by decide) rfl rfl (Nat.le_of_ble_eq_true rfl) (Nat.zero_le _) (Nat.zero_le _) (fun rs hs9 => ?_)
  refine s_top hs9 ?_
  refine hret _ _ _ dM_most_7 rfl ⟨bm B, b2, ?_⟩
  have := hsz_pad (M := bm B) (m := m) (fun j hj => bm_ge b1 hj) (14 - m)
  rw [show m + (14 - m) = 14 by omega] at this
  rw [this]
set_option maxHeartbeats 4000000 in
set_option maxRecDepth 100000 in
/-- factor -/
theorem kM_factor (l : Launch) (D : va_G) (cA : ClassId) (y p1 p2 p3 p4 : Nat) (n m : Nat) (fi se wa : Nat → Nat) (hG : GOK n m fi se wa)  : CtP l yM_factor (.code yM_factor cM_factor 3 (some .int)) 3 D cA [.ref y] [(y, .inr (5, [.int (nI n), .int (nI m), .ref p1, .ref p2, .ref p3, .ref p4])), (p1, .inl (cA, 14, .inl (aN fi))), (p2, .inl (cA, 14, .inl (aN se))), (p3, .inl (cA, 9, .inl (aN wa)))] (fun r => facP fi se wa n m r) := by
  refine mkP [(0, .ref y)] (by decide) rfl (Nat.le_of_ble_eq_true rfl) ?_
  intro E Q hE C hret
  obtain ⟨g1, g2, g3, g4, g50, g6⟩ := hG
  have g5 : ∀ v, v < 9 → wa v ≤ 50 := fun v hv => by have := g50 v hv; omega
  have h2m : 2 ^ m ≤ 2 ^ 14 := p2_le g3
  have h2p : 1 ≤ 2 ^ m := Nat.one_le_two_pow
  refine s_iconst (-1) C dM_factor_0 (by decide) ?_
  refine s_istore_n [(0, .ref y), (1, .int (-1))] [1, 0] C dM_factor_1 (by decide) rfl ?_
  refine s_iconst (nI 0) C dM_factor_2 (by decide) ?_
  refine s_istore_n [(0, .ref y), (1, .int (-1)), (2, .int (nI 0))] [1, 2, 0] C dM_factor_3 (by decide) rfl ?_
  have loop : ∀ k i (fo : Int32), i + k = 2 ^ m → ((fo = -1 ∧ ∀ s, s < i → ¬ isFa fi se wa n m s) ∨ ∃ F, fo = nI F ∧ F < i ∧ isFa fi se wa n m F ∧ ∀ s, s < i → isFa fi se wa n m s → okey F ≤ okey s) → ST E 3 Q 0 0 (pf E D [(y, .inr (5, [.int (nI n), .int (nI m), .ref p1, .ref p2, .ref p3, .ref p4])), (p1, .inl (cA, 14, .inl (aN fi))), (p2, .inl (cA, 14, .inl (aN se))), (p3, .inl (cA, 9, .inl (aN wa)))]) [(0, .ref y), (1, .int fo), (2, .int (nI i))] [] 4 := by
    intro k
    induction k with
    | zero =>
      intro i fo hi hfo
      refine s_iload_n 2 C dM_factor_4 rfl ?_
      refine s_aload_n 0 C dM_factor_5 rfl ?_
      refine s_callP (n := 0) [0] 0 [.int (nI i)] C pfP (kM_allEdges E.2.1 D cA y p1 p2 p3 p4 n m g3) gM_48 dM_factor_6 (by decide +kernel) rfl rfl rfl rfl (by decide) (by decide) rfl rfl (Nat.le_of_ble_eq_true rfl) (Nat.zero_le _) (Nat.zero_le _) (fun ra hall9 => ?_)
      refine s_top hall9 ?_
      refine s_icmp_gtN 40 C dM_factor_9 (by decide) (by omega) (by omega) (fun c1 => ?_) (fun c1 => ?_)
      · refine s_iload_n 1 C dM_factor_40 rfl ?_
        have e : 2 ^ m = i := by omega
        subst e
        refine hret _ _ _ dM_factor_41 rfl ?_
        rcases hfo with ⟨f1, f2⟩ | ⟨F, f1, f2, f3, f4⟩
        · exact Or.inr ⟨f2, f1⟩
        · exact Or.inl ⟨F, f2, f3, f4, f1⟩
      · exact absurd c1 (by omega)
    | succ k ih =>
      intro i fo hi hfo
      refine s_iload_n 2 C dM_factor_4 rfl ?_
      refine s_aload_n 0 C dM_factor_5 rfl ?_
      refine s_callP (n := 0) [0] 0 [.int (nI i)] C pfP (kM_allEdges E.2.1 D cA y p1 p2 p3 p4 n m g3) gM_48 dM_factor_6 (by decide +kernel) rfl rfl rfl rfl (by decide) (by decide) rfl rfl (Nat.le_of_ble_eq_true rfl) (Nat.zero_le _) (Nat.zero_le _) (fun ra hall9 => ?_)
      refine s_top hall9 ?_
      refine s_icmp_gtN 40 C dM_factor_9 (by decide) (by omega) (by omega) (fun c1 => ?_) (fun c1 => ?_)
      · exact absurd c1 (by omega)
      · have chk : (∀ s, s < i → isFa fi se wa n m s → okey i ≤ okey s) → ST E 3 Q 0 0 (pf E D [(y, .inr (5, [.int (nI n), .int (nI m), .ref p1, .ref p2, .ref p3, .ref p4])), (p1, .inl (cA, 14, .inl (aN fi))), (p2, .inl (cA, 14, .inl (aN se))), (p3, .inl (cA, 9, .inl (aN wa)))]) [(0, .ref y), (1, .int fo), (2, .int (nI i))] [] 24 := by
          intro hle
          refine s_aload_n 0 C dM_factor_24 rfl ?_
          refine s_iload_n 2 C dM_factor_25 rfl ?_
          refine s_callP (n := 1) [0, 1, 2, 3] 0 [] C pfP (kM_isFactor E.2.1 D cA y p1 p2 p3 p4 n m fi se wa g1 g2 g3 g4 g5 i (by omega)) gM_52 dM_factor_26 (by decide +kernel) rfl rfl rfl rfl (by decide) (by decide) rfl rfl (Nat.le_of_ble_eq_true rfl) (Nat.zero_le _) (Nat.zero_le _) (fun rf hfc => ?_)
          rcases hfc with ⟨er, hy⟩ | ⟨er, hn⟩
          · refine s_top er ?_
            refine s_if_eqN 34 C dM_factor_29 (by decide) (by decide) (fun c4 => ?_) (fun c4 => ?_)
            · exact absurd c4 (by decide)
            · refine s_iload_n 2 C dM_factor_32 rfl ?_
              refine s_istore_n [(0, .ref y), (1, .int (nI i)), (2, .int (nI i))] [1, 0, 2] C dM_factor_33 (by decide) rfl ?_
              refine s_iinc (j := 2) (nI (i + 1)) [(0, .ref y), (1, .int (nI i)), (2, .int (nI (i + 1)))] [1, 2, 0] C dM_factor_34 rfl (inc1 _) (by decide) rfl ?_
              refine s_goto (tgt := 4) C dM_factor_37 (by decide) ?_
              refine ih (i + 1) (nI i) (by omega) (Or.inr ⟨i, rfl, by omega, hy, fun s hs hfs => ?_⟩)
              by_cases z : s = i
              · subst z; exact Nat.le_refl _
              · exact hle s (by omega) hfs
          · refine s_top er ?_
            refine s_if_eqN 34 C dM_factor_29 (by decide) (by decide) (fun c4 => ?_) (fun c4 => ?_)
            · refine s_iinc (j := 2) (nI (i + 1)) [(0, .ref y), (1, .int fo), (2, .int (nI (i + 1)))] [1, 2, 0] C dM_factor_34 rfl (inc1 _) (by decide) rfl ?_
              refine s_goto (tgt := 4) C dM_factor_37 (by decide) ?_
              refine ih (i + 1) fo (by omega) ?_
              rcases hfo with ⟨f1, f2⟩ | ⟨F, f1, f2, f3, f4⟩
              · refine Or.inl ⟨f1, fun s hs => ?_⟩
                by_cases z : s = i
                · subst z; exact hn
                · exact f2 s (by omega)
              · refine Or.inr ⟨F, f1, by omega, f3, fun s hs hfs => ?_⟩
                by_cases z : s = i
                · subst z; exact absurd hfs hn
                · exact f4 s (by omega) hfs
            · exact absurd rfl c4
        rcases id hfo with ⟨f1, f2⟩ | ⟨F, f1, f2, f3, f4⟩
        · refine s_iload_n 1 C dM_factor_12 rfl ?_
          refine s_if_lt 24 C dM_factor_13 (by decide) (fun c2 => ?_) (fun c2 => ?_)
          · exact chk (fun s hs hfs => absurd hfs (f2 s hs))
          · exact absurd (by rw [f1]; decide) c2
        · refine s_iload_n 1 C dM_factor_12 rfl ?_
          refine s_if_lt 24 C dM_factor_13 (by decide) (fun c2 => ?_) (fun c2 => ?_)
          · rw [f1] at c2
            exact absurd c2 (nI_pos (by omega))
          · refine s_iload_n 2 C dM_factor_16 rfl ?_
            refine s_iload_n 1 C dM_factor_17 rfl ?_
            refine s_top f1 ?_
            refine s_callPS (n := 2) [] [] C pfP (kM_isBefore E.2.1 D cA i F (by omega) (by omega)) gM_58 dM_factor_18 (by decide +kernel) rfl (by decide) (by decide) rfl rfl (Nat.le_of_ble_eq_true rfl) (Nat.zero_le _) (Nat.zero_le _) (fun rb hbf => ?_)
            rcases hbf with ⟨er, hy2⟩ | ⟨er, hn2⟩
            · refine s_top er ?_
              refine s_if_eqN 34 C dM_factor_21 (by decide) (by decide) (fun c3 => ?_) (fun c3 => ?_)
              · exact absurd c3 (by decide)
              · exact chk (fun s hs hfs => Nat.le_trans (Nat.le_of_lt hy2) (f4 s hs hfs))
            · refine s_top er ?_
              refine s_if_eqN 34 C dM_factor_21 (by decide) (by decide) (fun c3 => ?_) (fun c3 => ?_)
              · refine s_iinc (j := 2) (nI (i + 1)) [(0, .ref y), (1, .int fo), (2, .int (nI (i + 1)))] [1, 2, 0] C dM_factor_34 rfl (inc1 _) (by decide) rfl ?_
                refine s_goto (tgt := 4) C dM_factor_37 (by decide) ?_
                refine ih (i + 1) fo (by omega) (Or.inr ⟨F, f1, by omega, f3, fun s hs hfs => ?_⟩)
                by_cases z : s = i
                · subst z; omega
                · exact f4 s (by omega) hfs
              · exact absurd rfl c3
  exact loop (2 ^ m) 0 (-1) (by omega) (Or.inl ⟨rfl, fun s hs => absurd hs (by omega)⟩)
end
