section
/-! sums over 0 .. n-1, and the largest matching of a graph with capacities -/
def su (f : Nat → Nat) : Nat → Nat
  | 0 => 0
  | n + 1 => su f n + f n
theorem su_cg {f g : Nat → Nat} : ∀ {n : Nat}, (∀ i, i < n → f i = g i) → su f n = su g n
  | 0, _ => rfl
  | n + 1, h => by
    show su f n + f n = su g n + g n
    rw [su_cg (n := n) (fun i hi => h i (by omega)), h n (by omega)]
theorem su_le {f g : Nat → Nat} : ∀ {n : Nat}, (∀ i, i < n → f i ≤ g i) → su f n ≤ su g n
  | 0, _ => Nat.le_refl _
  | n + 1, h => Nat.add_le_add (su_le (n := n) (fun i hi => h i (by omega))) (h n (by omega))
theorem su_lt {f g : Nat → Nat} {k : Nat} : ∀ {n : Nat}, (∀ i, i < n → f i ≤ g i) → k < n → f k < g k → su f n < su g n
  | 0, _, hk, _ => absurd hk (by omega)
  | n + 1, h, hk, h2 => by
    show su f n + f n < su g n + g n
    rcases Nat.lt_or_ge k n with q | q
    · have := su_lt (n := n) (fun i hi => h i (by omega)) q h2
      have := h n (by omega)
      omega
    · have e : k = n := by omega
      subst e
      have := su_le (n := k) (f := f) (g := g) (fun i hi => h i (by omega))
      omega
theorem su_ad (f g : Nat → Nat) (n : Nat) : su (fun i => f i + g i) n = su f n + su g n := by
  induction n with
  | zero => rfl
  | succ n ih =>
    show su (fun i => f i + g i) n + (f n + g n) = su f n + f n + (su g n + g n)
    rw [ih]; omega
theorem su_ml (a : Nat) (f : Nat → Nat) (n : Nat) : su (fun i => a * f i) n = a * su f n := by
  induction n with
  | zero => rfl
  | succ n ih =>
    show su (fun i => a * f i) n + a * f n = a * (su f n + f n)
    rw [ih, Nat.mul_add]
theorem su_0 (n : Nat) : su (fun _ => 0) n = 0 := by
  induction n with
  | zero => rfl
  | succ n ih => show su (fun _ => 0) n + 0 = 0; rw [ih]
theorem su_z {f : Nat → Nat} {n : Nat} (h : ∀ i, i < n → f i = 0) : su f n = 0 := by
  rw [su_cg (g := fun _ => 0) h, su_0]
theorem su_sw (f : Nat → Nat → Nat) (n m : Nat) : su (fun i => su (fun j => f i j) m) n = su (fun j => su (fun i => f i j) n) m := by
  induction n with
  | zero => exact (su_0 m).symm
  | succ n ih =>
    show su (fun i => su (fun j => f i j) m) n + su (fun j => f n j) m = su (fun j => su (fun i => f i j) n + f n j) m
    rw [ih, su_ad]
theorem su_mem {f : Nat → Nat} {n k : Nat} (h : k < n) : f k ≤ su f n := by
  induction n with
  | zero => omega
  | succ n ih =>
    show f k ≤ su f n + f n
    rcases Nat.lt_or_ge k n with q | q
    · have := ih q; omega
    · have e : k = n := by omega
      subst e; omega
theorem su_up {f : Nat → Nat} {k a n : Nat} (h : k < n) : su (fun i => if i = k then a else f i) n + f k = su f n + a := by
  induction n with
  | zero => omega
  | succ n ih =>
    show su (fun i => if i = k then a else f i) n + (if n = k then a else f n) + f k = su f n + f n + a
    rcases Nat.lt_or_ge k n with q | q
    · have := ih q
      rw [if_neg (by omega)]; omega
    · have e : k = n := by omega
      subst e
      rw [if_pos rfl, su_cg (g := f) (fun i hi => if_neg (by omega))]; omega
theorem su_1 {k n a : Nat} (h : k < n) : su (fun i => if i = k then a else 0) n = a := by
  have := su_up (f := fun _ => 0) (a := a) h
  rw [su_0] at this
  simpa using this
theorem su_ex {f g : Nat → Nat} {n : Nat} (h : su f n < su g n) : ∃ i, i < n ∧ f i < g i :=
  Classical.byContradiction fun hc => absurd (su_le (n := n) (f := g) (g := f) (fun i hi => Nat.le_of_not_lt fun hl => hc ⟨i, hi, hl⟩)) (by omega)
theorem su_ex2 {f g : Nat → Nat} {n k : Nat} (h : su g n ≤ su f n) (hk : k < n) (h2 : f k < g k) : ∃ i, i < n ∧ g i < f i :=
  Classical.byContradiction fun hc => absurd (su_lt (n := n) (f := f) (g := g) (fun i hi => Nat.le_of_not_lt fun hl => hc ⟨i, hi, hl⟩) hk h2) (by omega)
theorem mx_ex {α : Type} (S : α → Prop) (f : α → Nat) (B : Nat) (hB : ∀ a, S a → f a ≤ B) (h : ∃ a, S a) : ∃ a, S a ∧ ∀ b, S b → f b ≤ f a := by
  obtain ⟨a0, h0⟩ := h
  have key : ∀ k a, S a → B ≤ f a + k → ∃ a, S a ∧ ∀ b, S b → f b ≤ f a := by
    intro k
    induction k with
    | zero => intro a ha hb; exact ⟨a, ha, fun b hb' => Nat.le_trans (hB b hb') hb⟩
    | succ k ih =>
      intro a ha hk
      by_cases hh : ∃ b, S b ∧ f a < f b
      · obtain ⟨b, hb, hl⟩ := hh
        exact ih b hb (by omega)
      · exact ⟨a, ha, fun b hb => Nat.le_of_not_lt fun hl => hh ⟨b, hb, hl⟩⟩
  exact key B a0 h0 (by omega)
theorem mn_ex {α : Type} (S : α → Prop) (f : α → Nat) (h : ∃ a, S a) : ∃ a, S a ∧ ∀ b, S b → f a ≤ f b := by
  obtain ⟨a0, h0⟩ := h
  have key : ∀ k a, S a → f a ≤ k → ∃ a, S a ∧ ∀ b, S b → f a ≤ f b := by
    intro k
    induction k with
    | zero => intro a ha hb; exact ⟨a, ha, fun b _ => by omega⟩
    | succ k ih =>
      intro a ha hk
      by_cases hh : ∃ b, S b ∧ f b < f a
      · obtain ⟨b, hb, hl⟩ := hh
        exact ih b hb (by omega)
      · exact ⟨a, ha, fun b hb => Nat.le_of_not_lt fun hl => hh ⟨b, hb, hl⟩⟩
  exact key (f a0) a0 h0 (Nat.le_refl _)
/-! a graph: edges j < Q between the nodes x j, y j < P; a set of edges M -/
def hin (x y : Nat → Nat) (j v : Nat) : Nat := if x j = v ∨ y j = v then 1 else 0
def hdg (x y : Nat → Nat) (Q : Nat) (M : Nat → Bool) (v : Nat) : Nat := su (fun j => (M j).toNat * hin x y j v) Q
def hsz (Q : Nat) (M : Nat → Bool) : Nat := su (fun j => (M j).toNat) Q
def hfa (x y : Nat → Nat) (P Q : Nat) (c : Nat → Nat) (M : Nat → Bool) : Prop := ∀ v, v < P → hdg x y Q M v ≤ c v
def hmx (x y : Nat → Nat) (P Q : Nat) (c : Nat → Nat) (M : Nat → Bool) : Prop := hfa x y P Q c M ∧ ∀ N, hfa x y P Q c N → hsz Q N ≤ hsz Q M
def hok (x y : Nat → Nat) (P Q : Nat) : Prop := ∀ j, j < Q → x j < P ∧ y j < P ∧ x j ≠ y j
def ind (p v : Nat) : Nat := if v = p then 1 else 0
def bup (M : Nat → Bool) (k : Nat) (b : Bool) : Nat → Bool := fun i => if i = k then b else M i
theorem hdg_w {x y : Nat → Nat} {P Q : Nat} (hE : hok x y P Q) (g : Nat → Nat) (M : Nat → Bool) : su (fun v => g v * hdg x y Q M v) P = su (fun j => (M j).toNat * (g (x j) + g (y j))) Q := by
  have h1 : ∀ v, g v * hdg x y Q M v = su (fun j => g v * ((M j).toNat * hin x y j v)) Q := fun v => (su_ml _ _ _).symm
  rw [su_cg (fun v _ => h1 v), su_sw (fun v j => g v * ((M j).toNat * hin x y j v))]
  refine su_cg (fun j hj => ?_)
  obtain ⟨hx, hy, hne⟩ := hE j hj
  have h2 : ∀ v, g v * ((M j).toNat * hin x y j v) = (M j).toNat * ((if v = x j then g (x j) else 0) + (if v = y j then g (y j) else 0)) := by
    intro v
    unfold hin
    by_cases e1 : v = x j
    · subst e1
      rw [if_pos (Or.inl rfl), if_pos rfl, if_neg hne, Nat.mul_one, Nat.add_zero, Nat.mul_comm]
    · by_cases e2 : v = y j
      · subst e2
        rw [if_pos (Or.inr rfl), if_neg e1, if_pos rfl, Nat.mul_one, Nat.zero_add, Nat.mul_comm]
      · rw [if_neg (by rintro (h | h); exact e1 h.symm; exact e2 h.symm), if_neg e1, if_neg e2]
        simp
  rw [su_cg (fun v _ => h2 v), su_ml, su_ad, su_1 hx, su_1 hy]
theorem hdg_hs {x y : Nat → Nat} {P Q : Nat} (hE : hok x y P Q) (M : Nat → Bool) : su (fun v => hdg x y Q M v) P = 2 * hsz Q M := by
  have h := hdg_w hE (fun _ => 1) M
  rw [su_cg (g := fun v => hdg x y Q M v) (fun v _ => Nat.one_mul _)] at h
  rw [h, hsz, ← su_ml]
  exact su_cg (fun j _ => by show (M j).toNat * (1 + 1) = 2 * (M j).toNat; omega)
theorem hdg_on {x y : Nat → Nat} {Q j : Nat} {M : Nat → Bool} (hj : j < Q) (h : M j = false) (v : Nat) : hdg x y Q (bup M j true) v = hdg x y Q M v + hin x y j v := by
  have := su_up (f := fun i => (M i).toNat * hin x y i v) (a := hin x y j v) hj
  have e : hdg x y Q (bup M j true) v = su (fun i => if i = j then hin x y j v else (M i).toNat * hin x y i v) Q := by
    refine su_cg (fun i _ => ?_)
    unfold bup
    by_cases e : i = j
    · subst e; simp
    · simp [e]
  rw [e]
  simp only [h, Bool.toNat_false, Nat.zero_mul, Nat.add_zero] at this
  exact this
theorem hdg_off {x y : Nat → Nat} {Q j : Nat} {M : Nat → Bool} (hj : j < Q) (h : M j = true) (v : Nat) : hdg x y Q (bup M j false) v + hin x y j v = hdg x y Q M v := by
  have := su_up (f := fun i => (M i).toNat * hin x y i v) (a := 0) hj
  have e : hdg x y Q (bup M j false) v = su (fun i => if i = j then 0 else (M i).toNat * hin x y i v) Q := by
    refine su_cg (fun i _ => ?_)
    unfold bup
    by_cases e : i = j
    · subst e; simp
    · simp [e]
  rw [e]
  simp only [h, Bool.toNat_true, Nat.one_mul, Nat.add_zero] at this
  exact this
theorem hsz_on {Q j : Nat} {M : Nat → Bool} (hj : j < Q) (h : M j = false) : hsz Q (bup M j true) = hsz Q M + 1 := by
  have := su_up (f := fun i => (M i).toNat) (a := 1) hj
  have e : hsz Q (bup M j true) = su (fun i => if i = j then 1 else (M i).toNat) Q := by
    refine su_cg (fun i _ => ?_)
    unfold bup
    by_cases e : i = j
    · subst e; simp
    · simp [e]
  rw [e]
  simp only [h, Bool.toNat_false, Nat.add_zero] at this
  exact this
theorem hsz_off {Q j : Nat} {M : Nat → Bool} (hj : j < Q) (h : M j = true) : hsz Q (bup M j false) + 1 = hsz Q M := by
  have := su_up (f := fun i => (M i).toNat) (a := 0) hj
  have e : hsz Q (bup M j false) = su (fun i => if i = j then 0 else (M i).toNat) Q := by
    refine su_cg (fun i _ => ?_)
    unfold bup
    by_cases e : i = j
    · subst e; simp
    · simp [e]
  rw [e]
  simp only [h, Bool.toNat_true, Nat.add_zero] at this
  exact this
theorem hsz_le (Q : Nat) (M : Nat → Bool) : hsz Q M ≤ Q := by
  have h : hsz Q M ≤ su (fun _ => 1) Q := su_le (fun i _ => Bool.toNat_le (M i))
  have e : ∀ n, su (fun _ => 1) n = n := by
    intro n
    induction n with
    | zero => rfl
    | succ n ih => show su (fun _ => 1) n + 1 = n + 1; rw [ih]
  rw [e] at h; exact h
theorem hmx_ex (x y : Nat → Nat) (P Q : Nat) (c : Nat → Nat) : ∃ M, hmx x y P Q c M := by
  refine mx_ex (hfa x y P Q c) (hsz Q) Q (fun M _ => hsz_le Q M) ⟨fun _ => false, fun v _ => ?_⟩
  rw [hdg, su_z (fun j _ => by simp)]
  exact Nat.zero_le _
theorem hdg_lt {x y : Nat → Nat} {Q : Nat} {M N : Nat → Bool} {v : Nat} (h : hdg x y Q N v < hdg x y Q M v) : ∃ j, j < Q ∧ M j = true ∧ N j = false ∧ (x j = v ∨ y j = v) := by
  obtain ⟨j, hj, hl⟩ := su_ex h
  refine ⟨j, hj, ?_⟩
  unfold hin at hl
  by_cases e : x j = v ∨ y j = v
  · rw [if_pos e] at hl
    cases hM : M j <;> cases hN : N j <;> simp [hM, hN] at hl ⊢
    exact e
  · rw [if_neg e] at hl; simp at hl
theorem hdg_ge {x y : Nat → Nat} {Q k : Nat} {M N : Nat → Bool} {v : Nat} (h : hdg x y Q M v ≤ hdg x y Q N v) (hk : k < Q) (hM : M k = true) (hN : N k = false) (hi : x k = v ∨ y k = v) : ∃ j, j < Q ∧ N j = true ∧ M j = false ∧ (x j = v ∨ y j = v) := by
  obtain ⟨j, hj, hl⟩ := su_ex2 (k := k) h hk (by simp [hM, hN, hin, hi])
  refine ⟨j, hj, ?_⟩
  unfold hin at hl
  by_cases e : x j = v ∨ y j = v
  · rw [if_pos e] at hl
    cases hM : M j <;> cases hN : N j <;> simp [hM, hN] at hl ⊢
    exact e
  · rw [if_neg e] at hl; simp at hl
/-- no largest set leaves room for a unit at p and a unit at q -/
def hre (x y : Nat → Nat) (P Q : Nat) (c : Nat → Nat) (p q : Nat) : Prop := ∀ M, hmx x y P Q c M → ¬ ∀ v, v < P → hdg x y Q M v + ind p v + ind q v ≤ c v
theorem hre_sy {x y : Nat → Nat} {P Q : Nat} {c : Nat → Nat} {p q : Nat} (h : hre x y P Q c p q) : hre x y P Q c q p := by
  intro M hM hf
  exact h M hM (fun v hv => by have := hf v hv; omega)
theorem hin_or {x y : Nat → Nat} {j v : Nat} (h : x j = v ∨ y j = v) : hin x y j v = 1 := if_pos h
theorem hin_no {x y : Nat → Nat} {j v : Nat} (h : ¬ (x j = v ∨ y j = v)) : hin x y j v = 0 := if_neg h
/-- THE EXCHANGE -/
theorem hre_tr {x y : Nat → Nat} {P Q : Nat} {c : Nat → Nat} (hE : hok x y P Q) {p t q : Nat} (hp : p < P) (ht : t < P) (hq : q < P) (h1 : hre x y P Q c p t) (h2 : hre x y P Q c t q) (hN : ∃ N, hmx x y P Q c N ∧ ∀ v, v < P → hdg x y Q N v + ind t v ≤ c v) : hre x y P Q c p q := by
  intro M hM hf
  obtain ⟨N, ⟨hNm, hNt⟩, hmax⟩ := mx_ex (fun N => hmx x y P Q c N ∧ ∀ v, v < P → hdg x y Q N v + ind t v ≤ c v) (fun N => hsz Q (fun j => M j && N j)) Q (fun N _ => hsz_le Q _) hN
  have hsz_eq : hsz Q N = hsz Q M := Nat.le_antisymm (hM.2 N hNm.1) (hNm.2 M hM.1)
  have at_p : ∀ r, r < P → hre x y P Q c r t → c r ≤ hdg x y Q N r + ind t r := by
    intro r hr hrt
    refine Nat.le_of_not_lt (fun hl => hrt N hNm (fun v hv => ?_))
    have := hNt v hv
    unfold ind at this hl ⊢
    by_cases e : v = r
    · subst e; simp only [if_pos rfl] at *; simp at *; omega
    · rw [if_neg e]; omega
  have hcp := at_p p hp h1
  have hcq := at_p q hq (hre_sy h2)
  have hsum : su (fun v => hdg x y Q N v + ind t v) P < su (fun v => hdg x y Q M v + ind p v + ind q v) P := by
    rw [su_ad, su_ad (fun v => hdg x y Q M v + ind p v), su_ad, hdg_hs hE, hdg_hs hE, hsz_eq]
    have e : ∀ r, r < P → su (fun v => ind r v) P = 1 := fun r hr => su_1 hr
    rw [e t ht, e p hp, e q hq]; omega
  obtain ⟨z, hz, hzl⟩ := su_ex hsum
  have zp : z ≠ p := by
    intro e; subst e
    have := hf z hz
    omega
  have zq : z ≠ q := by
    intro e; subst e
    have := hf z hz
    omega
  have hzM : hdg x y Q M z ≤ c z := hM.1 z hz
  have ip : ind p z = 0 := if_neg zp
  have iq : ind q z = 0 := if_neg zq
  simp only [ip, iq, Nat.add_zero] at hzl
  obtain ⟨j, hj, hMj, hNj, hjz⟩ := hdg_lt (x := x) (y := y) (Q := Q) (M := M) (N := N) (v := z) (by omega)
  -- the other end
  obtain ⟨w, hw, hwz, hjw⟩ : ∃ w, w < P ∧ w ≠ z ∧ (∀ v, hin x y j v = ind z v + ind w v) := by
    obtain ⟨hx, hy, hne⟩ := hE j hj
    rcases hjz with e | e
    · refine ⟨y j, hy, by omega, fun v => ?_⟩
      unfold hin ind
      by_cases e1 : v = z
      · subst e1; simp [e]; omega
      · by_cases e2 : v = y j
        · subst e2; simp [e1]
        · rw [if_neg (by rintro (h | h) <;> omega), if_neg e1, if_neg e2]
    · refine ⟨x j, hx, by omega, fun v => ?_⟩
      unfold hin ind
      by_cases e1 : v = z
      · subst e1; simp [e]; omega
      · by_cases e2 : v = x j
        · subst e2; simp [e1]
        · rw [if_neg (by rintro (h | h) <;> omega), if_neg e1, if_neg e2]
  have hjw1 : x j = w ∨ y j = w := by
    refine Classical.byContradiction (fun hc => ?_)
    have := hjw w
    rw [hin_no hc] at this
    unfold ind at this
    rw [if_pos rfl] at this
    omega
  -- N with j is too much at w
  have hfull : c w ≤ hdg x y Q N w := by
    refine Nat.le_of_not_lt (fun hl => ?_)
    have hfa' : hfa x y P Q c (bup N j true) := by
      intro v hv
      rw [hdg_on hj hNj, hjw]
      have := hNt v hv
      unfold ind
      by_cases e1 : v = z
      · subst e1
        rw [if_pos rfl, if_neg (by omega)]; omega
      · by_cases e2 : v = w
        · subst e2; rw [if_neg e1, if_pos rfl]; omega
        · rw [if_neg e1, if_neg e2]; omega
    have := hNm.2 _ hfa'
    rw [hsz_on hj hNj] at this
    omega
  obtain ⟨g, hg, hNg, hMg, hgw⟩ := hdg_ge (x := x) (y := y) (Q := Q) (k := j) (M := M) (N := N) (v := w) (Nat.le_trans (hM.1 w hw) hfull) hj hMj hNj hjw1
  have hgj : j ≠ g := by intro e; subst e; rw [hMg] at hMj; cases hMj
  have hNgj : (bup N g false) j = false := by unfold bup; rw [if_neg hgj]; exact hNj
  have hdeg : ∀ v, hdg x y Q (bup (bup N g false) j true) v + hin x y g v = hdg x y Q N v + hin x y j v := by
    intro v
    rw [hdg_on hj hNgj]
    have := hdg_off (x := x) (y := y) hg hNg v
    omega
  have hszN : hsz Q (bup (bup N g false) j true) = hsz Q N := by
    rw [hsz_on hj hNgj]
    have := hsz_off hg hNg
    omega
  have hN2t : ∀ v, v < P → hdg x y Q (bup (bup N g false) j true) v + ind t v ≤ c v := by
    intro v hv
    have h3 := hdeg v
    rw [hjw v] at h3
    have := hNt v hv
    by_cases e1 : v = z
    · subst e1
      have a1 : ind v v = 1 := if_pos rfl
      have a2 : ind w v = 0 := if_neg (by omega)
      omega
    · have a1 : ind z v = 0 := if_neg e1
      by_cases e2 : v = w
      · subst e2
        have a2 : ind v v = 1 := if_pos rfl
        have a3 := hin_or hgw
        omega
      · have a2 : ind w v = 0 := if_neg e2
        omega
  have hN2m : hmx x y P Q c (bup (bup N g false) j true) :=
    ⟨fun v hv => by have := hN2t v hv; omega, fun K hK => by rw [hszN]; exact hNm.2 K hK⟩
  have hbig := hmax _ ⟨hN2m, hN2t⟩
  have e : (fun i => M i && bup (bup N g false) j true i) = bup (fun i => M i && N i) j true := by
    funext i
    unfold bup
    by_cases e1 : i = j
    · subst e1; simp [hMj]
    · by_cases e2 : i = g
      · subst e2; simp [e1, hMg]
      · simp [e1, e2]
  rw [e, hsz_on hj (by simp [hNj])] at hbig
  omega
end
section
/-! the largest set with capacities: a labelling that shows why there can't be more -/
theorem hin_ind {x y : Nat → Nat} {j : Nat} (h : x j ≠ y j) (v : Nat) : hin x y j v = ind (x j) v + ind (y j) v := by
  unfold hin ind
  by_cases e1 : v = x j
  · subst e1; rw [if_pos (Or.inl rfl), if_pos rfl, if_neg h]
  · by_cases e2 : v = y j
    · subst e2; rw [if_pos (Or.inr rfl), if_neg e1, if_pos rfl]
    · rw [if_neg (by rintro (q | q); exact e1 q.symm; exact e2 q.symm), if_neg e1, if_neg e2]
theorem ind_s (p : Nat) : ind p p = 1 := if_pos rfl
theorem ind_n {p v : Nat} (h : v ≠ p) : ind p v = 0 := if_neg h
def hcp (x y : Nat → Nat) (Q : Nat) (c : Nat → Nat) : Prop := ∀ j, j < Q → c (x j) ≤ 1 ∨ c (y j) ≤ 1
theorem hre_ad {x y : Nat → Nat} {P Q : Nat} {c : Nat → Nat} (hE : hok x y P Q) (hc : hcp x y Q c) {j : Nat} (hj : j < Q) : hre x y P Q c (x j) (y j) := by
  intro M hM hf
  obtain ⟨hx, hy, hne⟩ := hE j hj
  have fx := hf (x j) hx
  have fy := hf (y j) hy
  rw [ind_s, ind_n (p := y j) (v := x j) hne] at fx
  rw [ind_s, ind_n (p := x j) (v := y j) (Ne.symm hne)] at fy
  cases e : M j with
  | true =>
    have mx : 1 ≤ hdg x y Q M (x j) := by
      have := su_mem (f := fun i => (M i).toNat * hin x y i (x j)) hj
      simp only [e, Bool.toNat_true, hin_or (x := x) (y := y) (j := j) (v := x j) (Or.inl rfl)] at this
      exact this
    have my : 1 ≤ hdg x y Q M (y j) := by
      have := su_mem (f := fun i => (M i).toNat * hin x y i (y j)) hj
      simp only [e, Bool.toNat_true, hin_or (x := x) (y := y) (j := j) (v := y j) (Or.inr rfl)] at this
      exact this
    have := hc j hj
    omega
  | false =>
    have hfa' : hfa x y P Q c (bup M j true) := by
      intro v hv
      rw [hdg_on hj e, hin_ind hne]
      have := hf v hv
      omega
    have := hM.2 _ hfa'
    rw [hsz_on hj e] at this
    omega
def hva (x y : Nat → Nat) (Q : Nat) (d : Nat → Nat) : Prop := ∀ j, j < Q → d (x j) = 0 ∨ d (y j) = 0 ∨ (d (x j) = d (y j) ∧ 2 ≤ d (x j))
/-- what the nodes of label l hold -/
def hA (P : Nat) (c d : Nat → Nat) (l : Nat) : Nat := su (fun v => if d v = l then c v else 0) P
def hbd (P : Nat) (c d : Nat → Nat) : Nat := hA P c d 0 + su (fun l => hA P c d (l + 2) / 2) P
def hgd (x y : Nat → Nat) (Q : Nat) (c : Nat → Nat) (v : Nat) : Prop := 1 ≤ c v ∧ ∃ j, j < Q ∧ ((x j = v ∧ 1 ≤ c (y j)) ∨ (y j = v ∧ 1 ≤ c (x j)))
theorem su_lab (k n : Nat) : su (fun l => if k = l + 2 then 1 else 0) n ≤ 1 := by
  rcases Nat.lt_or_ge k 2 with q | q
  · rw [su_z (fun i _ => if_neg (by omega))]; omega
  · rcases Nat.lt_or_ge (k - 2) n with r | r
    · have e : su (fun l => if k = l + 2 then 1 else 0) n = su (fun l => if l = k - 2 then 1 else 0) n := by
        refine su_cg (fun i _ => ?_)
        by_cases z : i = k - 2
        · rw [if_pos (by omega), if_pos z]
        · rw [if_neg (by omega), if_neg z]
      rw [e, su_1 r]; omega
    · rw [su_z (fun i hi => if_neg (by omega))]; omega
theorem tb_base {x y : Nat → Nat} {P Q : Nat} {c : Nat → Nat} (hE : hok x y P Q) (hc : hcp x y Q c) (hD : ∀ v, v < P → 1 ≤ c v → ∃ N, hmx x y P Q c N ∧ ∀ u, u < P → hdg x y Q N u + ind v u ≤ c u) :
    ∃ d, hva x y Q d ∧ (∀ v, d v < P + 2) ∧ ∀ M, hmx x y P Q c M → hbd P c d ≤ hsz Q M := by
  have refl : ∀ v, v < P → hgd x y Q c v → hre x y P Q c v v := by
    intro v hv hg
    obtain ⟨h1, j, hj, h2⟩ := hg
    obtain ⟨hx, hy, hne⟩ := hE j hj
    have had := hre_ad hE hc hj
    rcases h2 with ⟨e, h3⟩ | ⟨e, h3⟩
    · subst e
      exact hre_tr hE hx hy hx had (hre_sy had) (hD _ hy h3)
    · subst e
      exact hre_tr hE hy hx hy (hre_sy had) had (hD _ hx h3)
  have ex : ∀ v, ∃ k, k < P + 2 ∧ (c v = 0 → k = 0) ∧ (1 ≤ c v → ¬ hgd x y Q c v → k = 1) ∧ (v < P → hgd x y Q c v → ∃ w, k = w + 2 ∧ w < P ∧ hgd x y Q c w ∧ hre x y P Q c v w ∧ ∀ u, u < P → hgd x y Q c u → hre x y P Q c v u → w ≤ u) := by
    intro v
    by_cases hg : hgd x y Q c v
    · by_cases hv : v < P
      · obtain ⟨w, ⟨hw, hgw, hrw⟩, hmin⟩ := mn_ex (fun w => w < P ∧ hgd x y Q c w ∧ hre x y P Q c v w) (fun w => w) ⟨v, hv, hg, refl v hv hg⟩
        refine ⟨w + 2, by omega, fun h => absurd hg.1 (by omega), fun _ h => absurd hg h, fun _ _ => ⟨w, rfl, hw, hgw, hrw, fun u hu hgu hru => hmin u ⟨hu, hgu, hru⟩⟩⟩
      · exact ⟨0, by omega, fun _ => rfl, fun _ h => absurd hg h, fun h => absurd h hv⟩
    · by_cases h0 : c v = 0
      · exact ⟨0, by omega, fun _ => rfl, fun h => absurd h0 (by omega), fun _ h => absurd h hg⟩
      · exact ⟨1, by omega, fun h => absurd h h0, fun _ _ => rfl, fun _ h => absurd h hg⟩
  obtain ⟨d, hd⟩ := Classical.axiomOfChoice ex
  have lab : ∀ v, v < P → hgd x y Q c v → ∃ w, d v = w + 2 ∧ w < P ∧ hgd x y Q c w ∧ hre x y P Q c v w ∧ ∀ u, u < P → hgd x y Q c u → hre x y P Q c v u → w ≤ u := fun v hv hg => (hd v).2.2.2 hv hg
  have same : ∀ v u, v < P → u < P → hgd x y Q c v → hgd x y Q c u → hre x y P Q c v u → d v = d u := by
    intro v u hv hu hgv hgu hr
    obtain ⟨w, e1, hw, hgw, hrw, hm⟩ := lab v hv hgv
    obtain ⟨w', e2, hw', hgw', hrw', hm'⟩ := lab u hu hgu
    have a1 := hm w' hw' hgw' (hre_tr hE hv hu hw' hr hrw' (hD u hu hgu.1))
    have a2 := hm' w hw hgw (hre_tr hE hu hv hw (hre_sy hr) hrw (hD v hv hgv.1))
    omega
  have zero : ∀ v, d v = 0 → v < P → c v = 0 := by
    intro v h hv
    refine Classical.byContradiction (fun h0 => ?_)
    by_cases hg : hgd x y Q c v
    · obtain ⟨w, e1, _⟩ := lab v hv hg
      omega
    · have := (hd v).2.2.1 (by omega) hg
      omega
  have two : ∀ v, v < P → 2 ≤ d v → hgd x y Q c v := by
    intro v hv h
    refine Classical.byContradiction (fun hg => ?_)
    by_cases h0 : c v = 0
    · have := (hd v).2.1 h0; omega
    · have := (hd v).2.2.1 (by omega) hg; omega
  have rel : ∀ v u, v < P → u < P → 2 ≤ d v → d v = d u → hre x y P Q c v u := by
    intro v u hv hu h2 e
    obtain ⟨w, e1, hw, hgw, hrw, _⟩ := lab v hv (two v hv h2)
    obtain ⟨w', e2, hw', hgw', hrw', _⟩ := lab u hu (two u hu (by omega))
    have ew : w = w' := by omega
    subst ew
    exact hre_tr hE hv hw hu hrw (hre_sy hrw') (hD w hw hgw.1)
  have edge : ∀ j, j < Q → 1 ≤ c (x j) → 1 ≤ c (y j) → d (x j) = d (y j) ∧ 2 ≤ d (x j) := by
    intro j hj h1 h2
    obtain ⟨hx, hy, hne⟩ := hE j hj
    have g1 : hgd x y Q c (x j) := ⟨h1, j, hj, Or.inl ⟨rfl, h2⟩⟩
    have g2 : hgd x y Q c (y j) := ⟨h2, j, hj, Or.inr ⟨rfl, h1⟩⟩
    refine ⟨same _ _ hx hy g1 g2 (hre_ad hE hc hj), ?_⟩
    obtain ⟨w, e1, _⟩ := lab _ hx g1
    omega
  refine ⟨d, fun j hj => ?_, fun v => (hd v).1, fun M hM => ?_⟩
  · by_cases h1 : c (x j) = 0
    · exact Or.inl ((hd _).2.1 h1)
    · by_cases h2 : c (y j) = 0
      · exact Or.inr (Or.inl ((hd _).2.1 h2))
      · exact Or.inr (Or.inr (edge j hj (by omega) (by omega)))
  · have h0 : hA P c d 0 = 0 := su_z (fun v hv => by
      by_cases e : d v = 0
      · rw [if_pos e]; exact zero v e hv
      · rw [if_neg e])
    rw [hbd, h0, Nat.zero_add]
    have live : ∀ j, j < Q → M j = true → 1 ≤ c (x j) ∧ 1 ≤ c (y j) := by
      intro j hj e
      obtain ⟨hx, hy, hne⟩ := hE j hj
      have a1 := su_mem (f := fun i => (M i).toNat * hin x y i (x j)) hj
      have a2 := su_mem (f := fun i => (M i).toNat * hin x y i (y j)) hj
      simp only [e, Bool.toNat_true, hin_or (x := x) (y := y) (j := j) (v := x j) (Or.inl rfl)] at a1
      simp only [e, Bool.toNat_true, hin_or (x := x) (y := y) (j := j) (v := y j) (Or.inr rfl)] at a2
      exact ⟨Nat.le_trans a1 (hM.1 _ hx), Nat.le_trans a2 (hM.1 _ hy)⟩
    have per : ∀ l, l < P → hA P c d (l + 2) / 2 ≤ su (fun j => (M j).toNat * (if d (x j) = l + 2 then 1 else 0)) Q := by
      intro l _
      have hw := hdg_w hE (fun v => if d v = l + 2 then 1 else 0) M
      have hr : su (fun j => (M j).toNat * ((if d (x j) = l + 2 then 1 else 0) + (if d (y j) = l + 2 then 1 else 0))) Q = 2 * su (fun j => (M j).toNat * (if d (x j) = l + 2 then 1 else 0)) Q := by
        rw [← su_ml]
        refine su_cg (fun j hj => ?_)
        cases e : M j with
        | false => simp
        | true =>
          obtain ⟨b1, b2⟩ := live j hj e
          have := (edge j hj b1 b2).1
          rw [this]
          simp only [Bool.toNat_true]; omega
      rw [hr] at hw
      have key : hA P c d (l + 2) ≤ su (fun v => (if d v = l + 2 then 1 else 0) * hdg x y Q M v) P + 1 := by
        refine Nat.le_of_not_lt (fun hlt => ?_)
        obtain ⟨p, hp, hpl⟩ := su_ex (n := P) (f := fun v => (if d v = l + 2 then 1 else 0) * hdg x y Q M v) (g := fun v => if d v = l + 2 then c v else 0) (by unfold hA at hlt; omega)
        have ep : d p = l + 2 := Classical.byContradiction (fun h => by simp [h] at hpl)
        simp only [ep, if_true, Nat.one_mul] at hpl
        obtain ⟨q, hq, hql⟩ := su_ex (n := P) (f := fun v => (if d v = l + 2 then 1 else 0) * hdg x y Q M v + ind p v) (g := fun v => if d v = l + 2 then c v else 0) (by
          rw [su_ad, show su (fun v => ind p v) P = 1 from su_1 hp]
          unfold hA at hlt; omega)
        have eq : d q = l + 2 := Classical.byContradiction (fun h => by simp [h] at hql)
        simp only [eq, if_true, Nat.one_mul] at hql
        refine rel p q hp hq (by omega) (by omega) M hM (fun v hv => ?_)
        have hfv := hM.1 v hv
        by_cases e1 : v = q
        · subst e1; rw [ind_s]; omega
        · rw [ind_n e1]
          by_cases e2 : v = p
          · subst e2; rw [ind_s]; omega
          · rw [ind_n e2]; omega
      omega
    refine Nat.le_trans (su_le per) ?_
    rw [su_sw (fun l j => (M j).toNat * (if d (x j) = l + 2 then 1 else 0))]
    refine su_le (fun j _ => ?_)
    show su (fun l => (M j).toNat * (if d (x j) = l + 2 then 1 else 0)) P ≤ (M j).toNat
    rw [su_ml]
    have := Nat.mul_le_mul_left (M j).toNat (su_lab (d (x j)) P)
    omega
theorem hA_dec {P : Nat} {c d : Nat → Nat} {v : Nat} (hv : v < P) (h1 : 1 ≤ c v) (l : Nat) : hA P c d l = hA P (fun u => if u = v then c v - 1 else c u) d l + (if d v = l then 1 else 0) := by
  unfold hA
  have e := su_1 (a := if d v = l then 1 else 0) hv
  rw [← e, ← su_ad]
  refine su_cg (fun u _ => ?_)
  by_cases q : u = v
  · subst q
    by_cases r : d u = l
    · simp [r]; omega
    · simp [r]
  · simp [q]
theorem hbd_dec {P : Nat} {c d : Nat → Nat} {v : Nat} (hv : v < P) (h1 : 1 ≤ c v) : hbd P c d ≤ hbd P (fun u => if u = v then c v - 1 else c u) d + 1 := by
  unfold hbd
  rw [hA_dec hv h1 0]
  have h2 : su (fun l => hA P c d (l + 2) / 2) P ≤ su (fun l => hA P (fun u => if u = v then c v - 1 else c u) d (l + 2) / 2 + (if d v = l + 2 then 1 else 0)) P := by
    refine su_le (fun l _ => ?_)
    rw [hA_dec hv h1 (l + 2)]
    split <;> omega
  rw [su_ad] at h2
  have h3 := su_lab (d v) P
  by_cases e : d v = 0
  · have : su (fun l => if d v = l + 2 then 1 else 0) P = 0 := su_z (fun i _ => if_neg (by omega))
    rw [if_pos e]; omega
  · rw [if_neg e]; omega
theorem tb {x y : Nat → Nat} {P Q : Nat} (hE : hok x y P Q) : ∀ (s : Nat) (c : Nat → Nat), su c P = s → hcp x y Q c →
    ∃ d, hva x y Q d ∧ (∀ v, d v < P + 2) ∧ ∀ M, hmx x y P Q c M → hbd P c d ≤ hsz Q M := by
  intro s
  induction s with
  | zero =>
    intro c hs hc
    refine tb_base hE hc (fun v hv h1 => ?_)
    have := su_mem (f := c) hv
    omega
  | succ s ih =>
    intro c hs hc
    by_cases h : ∃ v, v < P ∧ 1 ≤ c v ∧ ∀ M, hmx x y P Q c M → c v ≤ hdg x y Q M v
    · obtain ⟨v, hv, h1, hall⟩ := h
      have hsu := su_up (f := c) (a := c v - 1) hv
      obtain ⟨d, hd1, hd2, hd3⟩ := ih (fun u => if u = v then c v - 1 else c u) (by omega) (fun j hj => by
        have := hc j hj
        show (if x j = v then c v - 1 else c (x j)) ≤ 1 ∨ (if y j = v then c v - 1 else c (y j)) ≤ 1
        by_cases e1 : x j = v
        · by_cases e2 : y j = v
          · rw [if_pos e1, if_pos e2]; rw [e1, e2] at this; omega
          · rw [if_pos e1, if_neg e2]; rw [e1] at this; omega
        · by_cases e2 : y j = v
          · rw [if_neg e1, if_pos e2]; rw [e2] at this; omega
          · rw [if_neg e1, if_neg e2]; exact this)
      refine ⟨d, hd1, hd2, fun M hM => ?_⟩
      obtain ⟨M', hM'⟩ := hmx_ex x y P Q (fun u => if u = v then c v - 1 else c u)
      have h3 := hd3 M' hM'
      have hf' : hfa x y P Q c M' := by
        intro u hu
        have := hM'.1 u hu
        by_cases e : u = v
        · subst e; simp only [if_true] at this; omega
        · simp only [if_neg e] at this; exact this
      have hlt : hsz Q M' + 1 ≤ hsz Q M := by
        refine Nat.lt_of_le_of_ne (hM.2 M' hf') (fun e => ?_)
        have hm : hmx x y P Q c M' := ⟨hf', fun K hK => by rw [e]; exact hM.2 K hK⟩
        have a1 := hall M' hm
        have a2 := hM'.1 v hv
        simp only [if_true] at a2
        omega
      have := hbd_dec (d := d) hv h1
      omega
    · refine tb_base hE hc (fun v hv h1 => ?_)
      refine Classical.byContradiction (fun hn => h ⟨v, hv, h1, fun M hM => Nat.le_of_not_lt (fun hl => hn ⟨M, hM, fun u hu => ?_⟩)⟩)
      have := hM.1 u hu
      by_cases e : u = v
      · subst e; rw [ind_s]; omega
      · rw [ind_n e]; omega
/-- a node of capacity 1 leaves label 0, and two labels become one -/
theorem tb_move {x y : Nat → Nat} {P Q : Nat} {c d : Nat → Nat} (hv : hva x y Q d) (hd : ∀ v, d v < P + 2) {h k1 k2 : Nat} (hh : h < P) (hc : c h = 1) (h0 : d h = 0) (hk1 : 2 ≤ k1) (hk2 : 2 ≤ k2) (hl1 : k1 < P + 2) (hl2 : k2 < P + 2)
    (hn : ∀ j, j < Q → (x j = h → y j ≠ h ∧ (d (y j) = 0 ∨ d (y j) = k1 ∨ d (y j) = k2)) ∧ (y j = h → x j ≠ h ∧ (d (x j) = 0 ∨ d (x j) = k1 ∨ d (x j) = k2))) :
    ∃ d', hva x y Q d' ∧ (∀ v, d' v < P + 2) ∧ hbd P c d' ≤ hbd P c d ∧ hA P (fun _ => 1) d' 0 < hA P (fun _ => 1) d 0 := by
  refine ⟨fun v => if v = h then k1 else if d v = k2 then k1 else d v, ?_, ?_, ?_, ?_⟩
  · intro j hj
    have hvj := hv j hj
    obtain ⟨n1, n2⟩ := hn j hj
    by_cases e1 : x j = h
    · obtain ⟨m1, m2⟩ := n1 e1
      simp only [e1, if_true, if_neg m1]
      by_cases e3 : d (y j) = k2
      · rw [if_pos e3]; right; right; exact ⟨rfl, hk1⟩
      · rw [if_neg e3]; omega
    · by_cases e2 : y j = h
      · obtain ⟨m1, m2⟩ := n2 e2
        simp only [e2, if_true, if_neg m1]
        by_cases e3 : d (x j) = k2
        · rw [if_pos e3]; right; right; exact ⟨rfl, hk1⟩
        · rw [if_neg e3]; omega
      · simp only [if_neg e1, if_neg e2]
        by_cases e3 : d (x j) = k2
        · by_cases e4 : d (y j) = k2
          · rw [if_pos e3, if_pos e4]; right; right; exact ⟨rfl, hk1⟩
          · rw [if_pos e3, if_neg e4]; omega
        · by_cases e4 : d (y j) = k2
          · rw [if_neg e3, if_pos e4]; omega
          · rw [if_neg e3, if_neg e4]; exact hvj
  · intro v
    show (if v = h then k1 else if d v = k2 then k1 else d v) < P + 2
    split
    · exact hl1
    · split
      · exact hl1
      · exact hd v
  · have z0 : hA P c (fun v => if v = h then k1 else if d v = k2 then k1 else d v) 0 + 1 = hA P c d 0 := by
      unfold hA
      have e := su_1 (a := 1) hh
      rw [← e, ← su_ad]
      refine su_cg (fun u _ => ?_)
      by_cases q : u = h
      · subst q
        simp only [if_true, h0]
        rw [if_neg (by omega), hc]
      · simp only [if_neg q]
        by_cases r : d u = k2
        · rw [if_pos r, if_neg (by omega), if_neg (by omega)]
        · rw [if_neg r]; simp
    have za : ∀ l, 2 ≤ l → l ≠ k1 → l ≠ k2 → hA P c (fun v => if v = h then k1 else if d v = k2 then k1 else d v) l = hA P c d l := by
      intro l hl a1 a2
      refine su_cg (fun u _ => ?_)
      by_cases q : u = h
      · subst q
        simp only [if_true, h0]
        rw [if_neg (by omega), if_neg (by omega)]
      · simp only [if_neg q]
        by_cases r : d u = k2
        · rw [if_pos r, if_neg (by omega), if_neg (by omega)]
        · rw [if_neg r]
    have e := su_1 (a := 1) hh
    unfold hbd
    by_cases ek : k1 = k2
    · subst ek
      have zk : hA P c (fun v => if v = h then k1 else if d v = k1 then k1 else d v) k1 = hA P c d k1 + 1 := by
        unfold hA
        rw [← e, ← su_ad]
        refine su_cg (fun u _ => ?_)
        by_cases q : u = h
        · subst q
          simp only [if_true, h0]
          rw [if_neg (by omega), hc]
        · simp only [if_neg q]
          by_cases r : d u = k1
          · rw [if_pos r]; simp [r]
          · rw [if_neg r]; simp
      have hs := su_up (f := fun l => hA P c d (l + 2) / 2) (k := k1 - 2) (a := (hA P c d k1 + 1) / 2) (n := P) (by omega)
      have he : su (fun l => hA P c (fun v => if v = h then k1 else if d v = k1 then k1 else d v) (l + 2) / 2) P = su (fun i => if i = k1 - 2 then (hA P c d k1 + 1) / 2 else hA P c d (i + 2) / 2) P := by
        refine su_cg (fun l _ => ?_)
        by_cases q : l = k1 - 2
        · rw [if_pos q, show l + 2 = k1 by omega, zk]
        · rw [if_neg q, za (l + 2) (by omega) (by omega) (by omega)]
      rw [he]
      simp only [show k1 - 2 + 2 = k1 by omega] at hs
      omega
    · have zk : hA P c (fun v => if v = h then k1 else if d v = k2 then k1 else d v) k1 = hA P c d k1 + hA P c d k2 + 1 := by
        unfold hA
        rw [← e, ← su_ad, ← su_ad]
        refine su_cg (fun u _ => ?_)
        by_cases q : u = h
        · subst q
          simp only [if_true, h0]
          rw [if_neg (by omega), if_neg (by omega), hc]
        · simp only [if_neg q]
          by_cases r : d u = k2
          · rw [if_pos r, r, if_pos rfl, if_neg (by omega), if_pos rfl]; omega
          · rw [if_neg r, if_neg r]; omega
      have zk2 : hA P c (fun v => if v = h then k1 else if d v = k2 then k1 else d v) k2 = 0 := by
        refine su_z (fun u _ => ?_)
        by_cases q : u = h
        · subst q
          simp only [if_true]
          rw [if_neg ek]
        · simp only [if_neg q]
          by_cases r : d u = k2
          · rw [if_pos r, if_neg ek]
          · rw [if_neg r, if_neg r]
      have hs1 := su_up (f := fun l => hA P c d (l + 2) / 2) (k := k2 - 2) (a := 0) (n := P) (by omega)
      have hs2 := su_up (f := fun i => if i = k2 - 2 then 0 else hA P c d (i + 2) / 2) (k := k1 - 2) (a := (hA P c d k1 + hA P c d k2 + 1) / 2) (n := P) (by omega)
      have he : su (fun l => hA P c (fun v => if v = h then k1 else if d v = k2 then k1 else d v) (l + 2) / 2) P = su (fun i => if i = k1 - 2 then (hA P c d k1 + hA P c d k2 + 1) / 2 else if i = k2 - 2 then 0 else hA P c d (i + 2) / 2) P := by
        refine su_cg (fun l _ => ?_)
        by_cases q : l = k1 - 2
        · rw [if_pos q, show l + 2 = k1 by omega, zk]
        · rw [if_neg q]
          by_cases r : l = k2 - 2
          · rw [if_pos r, show l + 2 = k2 by omega, zk2]
          · rw [if_neg r, za (l + 2) (by omega) (by omega) (by omega)]
      rw [he]
      simp only [show k1 - 2 + 2 = k1 by omega, show k2 - 2 + 2 = k2 by omega] at hs1 hs2
      rw [if_neg (by omega)] at hs2
      omega
  · have e := su_1 (a := 1) hh
    have z0 : hA P (fun _ => 1) d 0 = hA P (fun _ => 1) (fun v => if v = h then k1 else if d v = k2 then k1 else d v) 0 + su (fun i => if i = h then 1 else 0) P := by
      unfold hA
      rw [← su_ad]
      refine su_cg (fun u _ => ?_)
      by_cases q : u = h
      · subst q
        simp only [if_true, h0]
        rw [if_neg (by omega)]
      · simp only [if_neg q]
        by_cases r : d u = k2
        · rw [if_pos r, if_neg (by omega), if_neg (by omega)]
        · rw [if_neg r]; simp
    omega
end
section
/-! vertices with demands: the least bound is as many as the largest fair set has -/
theorem su_2 (f : Nat → Nat) (n m : Nat) : su f (n + 2 * m) = su f n + su (fun e => f (n + 2 * e) + f (n + 2 * e + 1)) m := by
  induction m with
  | zero => rfl
  | succ m ih =>
    show su f (n + 2 * m + 1 + 1) = su f n + (su (fun e => f (n + 2 * e) + f (n + 2 * e + 1)) m + (f (n + 2 * m) + f (n + 2 * m + 1)))
    show su f (n + 2 * m) + f (n + 2 * m) + f (n + 2 * m + 1) = _
    rw [ih]; omega
theorem su_3 (f : Nat → Nat) (m : Nat) : su f (3 * m) = su (fun e => f (3 * e) + f (3 * e + 1) + f (3 * e + 2)) m := by
  induction m with
  | zero => rfl
  | succ m ih =>
    show su f (3 * m + 1 + 1 + 1) = su (fun e => f (3 * e) + f (3 * e + 1) + f (3 * e + 2)) m + (f (3 * m) + f (3 * m + 1) + f (3 * m + 2))
    show su f (3 * m) + f (3 * m) + f (3 * m + 1) + f (3 * m + 2) = _
    rw [ih]; omega
def gX (n : Nat) (fi : Nat → Nat) (j : Nat) : Nat := if j % 3 = 0 then fi (j / 3) else if j % 3 = 1 then n + 2 * (j / 3) else n + 2 * (j / 3) + 1
def gY (n : Nat) (se : Nat → Nat) (j : Nat) : Nat := if j % 3 = 0 then n + 2 * (j / 3) else if j % 3 = 1 then n + 2 * (j / 3) + 1 else se (j / 3)
def gC (n : Nat) (b : Nat → Nat) (v : Nat) : Nat := if v < n then b v else 1
theorem gX0 (n : Nat) (fi : Nat → Nat) (e : Nat) : gX n fi (3 * e) = fi e := by
  unfold gX; rw [if_pos (by omega), show 3 * e / 3 = e by omega]
theorem gX1 (n : Nat) (fi : Nat → Nat) (e : Nat) : gX n fi (3 * e + 1) = n + 2 * e := by
  unfold gX; rw [if_neg (by omega), if_pos (by omega), show (3 * e + 1) / 3 = e by omega]
theorem gX2 (n : Nat) (fi : Nat → Nat) (e : Nat) : gX n fi (3 * e + 2) = n + 2 * e + 1 := by
  unfold gX; rw [if_neg (by omega), if_neg (by omega), show (3 * e + 2) / 3 = e by omega]
theorem gY0 (n : Nat) (se : Nat → Nat) (e : Nat) : gY n se (3 * e) = n + 2 * e := by
  unfold gY; rw [if_pos (by omega), show 3 * e / 3 = e by omega]
theorem gY1 (n : Nat) (se : Nat → Nat) (e : Nat) : gY n se (3 * e + 1) = n + 2 * e + 1 := by
  unfold gY; rw [if_neg (by omega), if_pos (by omega), show (3 * e + 1) / 3 = e by omega]
theorem gY2 (n : Nat) (se : Nat → Nat) (e : Nat) : gY n se (3 * e + 2) = se e := by
  unfold gY; rw [if_neg (by omega), if_neg (by omega), show (3 * e + 2) / 3 = e by omega]
theorem j3 {j m : Nat} (h : j < 3 * m) : ∃ e, e < m ∧ (j = 3 * e ∨ j = 3 * e + 1 ∨ j = 3 * e + 2) := ⟨j / 3, by omega, by omega⟩
/-- edges between the nodes of label l and those of label 1 -/
def nbt (fi se d : Nat → Nat) (e l : Nat) : Nat := if (d (fi e) = l ∧ d (se e) = 1) ∨ (d (fi e) = 1 ∧ d (se e) = l) then 1 else 0
def nww (fi se d : Nat → Nat) (e : Nat) : Nat := if d (fi e) = 1 ∧ d (se e) = 1 then 1 else 0
/-- the bound that a labelling gives: label 0 is U, label 1 is W, the parts have labels from 2 on -/
def nbd (fi se : Nat → Nat) (n m L : Nat) (b d : Nat → Nat) : Nat := hA n b d 0 + su (fun e => nww fi se d e) m + su (fun l => (hA n b d (l + 2) + su (fun e => nbt fi se d e (l + 2)) m) / 2) L
def nva (fi se : Nat → Nat) (m : Nat) (d : Nat → Nat) : Prop := ∀ e, e < m → 2 ≤ d (fi e) → 2 ≤ d (se e) → d (fi e) = d (se e)
theorem dual_bd {fi se : Nat → Nat} {n m : Nat} {b d : Nat → Nat} (hv : hva (gX n fi) (gY n se) (3 * m) d) (hd : ∀ v, d v < n + 2 * m + 2) :
    nbd fi se n m (n + 2 * m) b d + m ≤ hbd (n + 2 * m) (gC n b) d := by
  -- the nodes in the middle
  have e1 : ∀ e, e < m → (d (fi e) = 0 ∨ d (n + 2 * e) = 0 ∨ (d (fi e) = d (n + 2 * e) ∧ 2 ≤ d (fi e))) ∧ (d (n + 2 * e) = 0 ∨ d (n + 2 * e + 1) = 0 ∨ (d (n + 2 * e) = d (n + 2 * e + 1) ∧ 2 ≤ d (n + 2 * e))) ∧ (d (n + 2 * e + 1) = 0 ∨ d (se e) = 0 ∨ (d (n + 2 * e + 1) = d (se e) ∧ 2 ≤ d (n + 2 * e + 1))) := by
    intro e he
    have a0 := hv (3 * e) (by omega)
    have a1 := hv (3 * e + 1) (by omega)
    have a2 := hv (3 * e + 2) (by omega)
    rw [gX0, gY0] at a0
    rw [gX1, gY1] at a1
    rw [gX2, gY2] at a2
    exact ⟨a0, a1, a2⟩
  have hAs : ∀ l, hA (n + 2 * m) (gC n b) d l = hA n b d l + su (fun e => (if d (n + 2 * e) = l then 1 else 0) + (if d (n + 2 * e + 1) = l then 1 else 0)) m := by
    intro l
    unfold hA
    rw [su_2]
    congr 1
    · refine su_cg (fun v hv => ?_)
      unfold gC; rw [if_pos hv]
    · refine su_cg (fun e _ => ?_)
      unfold gC; rw [if_neg (show ¬ n + 2 * e < n by omega), if_neg (show ¬ n + 2 * e + 1 < n by omega)]
  -- p: both in the middle have one label; k: one of them has label 0
  have hp : ∀ l, su (fun e => (if d (n + 2 * e) = l + 2 then 1 else 0) + (if d (n + 2 * e + 1) = l + 2 then 1 else 0)) m = su (fun e => if d (n + 2 * e) ≠ 0 ∧ d (n + 2 * e + 1) ≠ 0 then 0 else (if d (n + 2 * e) = l + 2 then 1 else 0) + (if d (n + 2 * e + 1) = l + 2 then 1 else 0)) m + 2 * su (fun e => if d (n + 2 * e) ≠ 0 ∧ d (n + 2 * e + 1) ≠ 0 ∧ d (n + 2 * e) = l + 2 then 1 else 0) m := by
    intro l
    rw [← su_ml, ← su_ad]
    refine su_cg (fun e he => ?_)
    have := e1 e he
    by_cases q : d (n + 2 * e) ≠ 0 ∧ d (n + 2 * e + 1) ≠ 0
    · have eq : d (n + 2 * e) = d (n + 2 * e + 1) := by omega
      rw [if_pos q]
      by_cases r : d (n + 2 * e) = l + 2
      · rw [if_pos r, if_pos (by omega), if_pos ⟨q.1, q.2, r⟩]
      · rw [if_neg r, if_neg (by omega), if_neg (fun h => r h.2.2)]
    · rw [if_neg q, if_neg (c := d (n + 2 * e) ≠ 0 ∧ d (n + 2 * e + 1) ≠ 0 ∧ d (n + 2 * e) = l + 2) (fun h => q ⟨h.1, h.2.1⟩)]
      omega
  have hb : ∀ l, su (fun e => nbt fi se d e (l + 2)) m ≤ su (fun e => if d (n + 2 * e) ≠ 0 ∧ d (n + 2 * e + 1) ≠ 0 then 0 else (if d (n + 2 * e) = l + 2 then 1 else 0) + (if d (n + 2 * e + 1) = l + 2 then 1 else 0)) m + su (fun e => if d (n + 2 * e) = 0 ∧ d (n + 2 * e + 1) = 0 then nbt fi se d e (l + 2) else 0) m := by
    intro l
    rw [← su_ad]
    refine su_le (fun e he => ?_)
    have := e1 e he
    unfold nbt
    by_cases q : (d (fi e) = l + 2 ∧ d (se e) = 1) ∨ (d (fi e) = 1 ∧ d (se e) = l + 2)
    · rw [if_pos q]
      by_cases r : d (n + 2 * e) = 0 ∧ d (n + 2 * e + 1) = 0
      · rw [if_pos r]; omega
      · rw [if_neg r, if_neg (by omega)]
        rcases q with q | q
        · rw [if_pos (show d (n + 2 * e) = l + 2 by omega)]; omega
        · rw [if_pos (show d (n + 2 * e + 1) = l + 2 by omega)]; omega
    · rw [if_neg q]; omega
  have hl : su (fun l => (hA n b d (l + 2) + su (fun e => nbt fi se d e (l + 2)) m) / 2) (n + 2 * m) + su (fun l => su (fun e => if d (n + 2 * e) ≠ 0 ∧ d (n + 2 * e + 1) ≠ 0 ∧ d (n + 2 * e) = l + 2 then 1 else 0) m) (n + 2 * m) ≤ su (fun l => hA (n + 2 * m) (gC n b) d (l + 2) / 2) (n + 2 * m) + su (fun l => su (fun e => if d (n + 2 * e) = 0 ∧ d (n + 2 * e + 1) = 0 then nbt fi se d e (l + 2) else 0) m) (n + 2 * m) := by
    rw [← su_ad, ← su_ad]
    refine su_le (fun l _ => ?_)
    have a1 := hAs (l + 2)
    have a2 := hp l
    have a3 := hb l
    omega
  rw [su_sw (fun l e => if d (n + 2 * e) ≠ 0 ∧ d (n + 2 * e + 1) ≠ 0 ∧ d (n + 2 * e) = l + 2 then 1 else 0), su_sw (fun l e => if d (n + 2 * e) = 0 ∧ d (n + 2 * e + 1) = 0 then nbt fi se d e (l + 2) else 0)] at hl
  have one : ∀ k, su (fun _ => 1) k = k := by
    intro k
    induction k with
    | zero => rfl
    | succ k ih => show su (fun _ => 1) k + 1 = k + 1; rw [ih]
  have hper : su (fun e => nww fi se d e + su (fun l => if d (n + 2 * e) = 0 ∧ d (n + 2 * e + 1) = 0 then nbt fi se d e (l + 2) else 0) (n + 2 * m) + 1) m ≤ su (fun e => ((if d (n + 2 * e) = 0 then 1 else 0) + (if d (n + 2 * e + 1) = 0 then 1 else 0)) + su (fun l => if d (n + 2 * e) ≠ 0 ∧ d (n + 2 * e + 1) ≠ 0 ∧ d (n + 2 * e) = l + 2 then 1 else 0) (n + 2 * m)) m := by
    refine su_le (fun e he => ?_)
    have h1 := e1 e he
    unfold nww
    by_cases q : d (n + 2 * e) = 0 ∧ d (n + 2 * e + 1) = 0
    · rw [if_pos q.1, if_pos q.2]
      have hz : (if d (fi e) = 1 ∧ d (se e) = 1 then 1 else 0) + su (fun l => if d (n + 2 * e) = 0 ∧ d (n + 2 * e + 1) = 0 then nbt fi se d e (l + 2) else 0) (n + 2 * m) ≤ 1 := by
        by_cases r : d (fi e) = 1 ∧ d (se e) = 1
        · rw [if_pos r, su_z (fun l _ => ?_)]
          · omega
          · rw [if_pos q]; unfold nbt; rw [if_neg (by omega)]
        · rw [if_neg r]
          have := su_lab (if d (fi e) = 1 then d (se e) else d (fi e)) (n + 2 * m)
          have h4 : su (fun l => if d (n + 2 * e) = 0 ∧ d (n + 2 * e + 1) = 0 then nbt fi se d e (l + 2) else 0) (n + 2 * m) ≤ su (fun l => if (if d (fi e) = 1 then d (se e) else d (fi e)) = l + 2 then 1 else 0) (n + 2 * m) := by
            refine su_le (fun l _ => ?_)
            rw [if_pos q]
            unfold nbt
            by_cases t : (d (fi e) = l + 2 ∧ d (se e) = 1) ∨ (d (fi e) = 1 ∧ d (se e) = l + 2)
            · rw [if_pos t]
              rcases t with t | t
              · rw [if_neg (show ¬ d (fi e) = 1 by omega), if_pos t.1]; exact Nat.le_refl _
              · rw [if_pos t.1, if_pos t.2]; exact Nat.le_refl _
            · rw [if_neg t]; omega
          omega
      omega
    · have hz : su (fun l => if d (n + 2 * e) = 0 ∧ d (n + 2 * e + 1) = 0 then nbt fi se d e (l + 2) else 0) (n + 2 * m) = 0 := su_z (fun l _ => if_neg q)
      rw [hz]
      have hw : ¬ (d (fi e) = 1 ∧ d (se e) = 1) := by omega
      rw [if_neg hw]
      by_cases r : d (n + 2 * e) ≠ 0 ∧ d (n + 2 * e + 1) ≠ 0
      · have hlab := hd (n + 2 * e)
        have hs : su (fun l => if d (n + 2 * e) ≠ 0 ∧ d (n + 2 * e + 1) ≠ 0 ∧ d (n + 2 * e) = l + 2 then 1 else 0) (n + 2 * m) = su (fun l => if l = d (n + 2 * e) - 2 then 1 else 0) (n + 2 * m) := by
          refine su_cg (fun l _ => ?_)
          by_cases t : l = d (n + 2 * e) - 2
          · rw [if_pos t, if_pos (by omega)]
          · rw [if_neg t, if_neg (by omega)]
        rw [hs, su_1 (by omega)]
        omega
      · by_cases t : d (n + 2 * e) = 0
        · rw [if_pos t]; omega
        · rw [if_neg t, if_pos (show d (n + 2 * e + 1) = 0 by omega)]; omega
  rw [su_ad, su_ad (fun e => nww fi se d e), su_ad (fun e => (if d (n + 2 * e) = 0 then 1 else 0) + (if d (n + 2 * e + 1) = 0 then 1 else 0)), one] at hper
  unfold nbd hbd
  rw [hAs 0]
  omega
theorem dual_sz {fi se : Nat → Nat} {n m : Nat} {b : Nat → Nat} (hfs : hok fi se n m) {M : Nat → Bool} (hM : hfa (gX n fi) (gY n se) (n + 2 * m) (3 * m) (gC n b) M) :
    ∃ N, hfa fi se n m b N ∧ hsz (3 * m) M ≤ m + hsz m N := by
  refine ⟨fun e => M (3 * e) && M (3 * e + 2), ?_, ?_⟩
  · intro v hv
    have h1 := hM v (by omega)
    have hc : gC n b v = b v := if_pos hv
    rw [hc] at h1
    refine Nat.le_trans ?_ h1
    unfold hdg
    rw [su_3]
    refine su_le (fun e he => ?_)
    obtain ⟨hx, hy, hne⟩ := hfs e he
    have k0 : hin (gX n fi) (gY n se) (3 * e) v = ind (fi e) v := by
      unfold hin ind
      rw [gX0, gY0]
      by_cases q : v = fi e
      · rw [if_pos q, if_pos (Or.inl q.symm)]
      · rw [if_neg q, if_neg (by omega)]
    have k2 : hin (gX n fi) (gY n se) (3 * e + 2) v = ind (se e) v := by
      unfold hin ind
      rw [gX2, gY2]
      by_cases q : v = se e
      · rw [if_pos q, if_pos (Or.inr q.symm)]
      · rw [if_neg q, if_neg (by omega)]
    show (M (3 * e) && M (3 * e + 2)).toNat * hin fi se e v ≤ (M (3 * e)).toNat * hin (gX n fi) (gY n se) (3 * e) v + (M (3 * e + 1)).toNat * hin (gX n fi) (gY n se) (3 * e + 1) v + (M (3 * e + 2)).toNat * hin (gX n fi) (gY n se) (3 * e + 2) v
    rw [k0, k2, hin_ind hne]
    cases M (3 * e) <;> cases M (3 * e + 2) <;> simp <;> omega
  · unfold hsz
    rw [su_3]
    have one : ∀ k, su (fun _ => 1) k = k := by
      intro k
      induction k with
      | zero => rfl
      | succ k ih => show su (fun _ => 1) k + 1 = k + 1; rw [ih]
    have e : m + su (fun e => (M (3 * e) && M (3 * e + 2)).toNat) m = su (fun e => 1 + (M (3 * e) && M (3 * e + 2)).toNat) m := by
      rw [su_ad, one]
    rw [e]
    refine su_le (fun e he => ?_)
    have c1 : gC n b (n + 2 * e) = 1 := if_neg (by omega)
    have c2 : gC n b (n + 2 * e + 1) = 1 := if_neg (by omega)
    have h1 := hM (n + 2 * e) (by omega)
    have h2 := hM (n + 2 * e + 1) (by omega)
    rw [c1] at h1
    rw [c2] at h2
    unfold hdg at h1 h2
    rw [su_3] at h1 h2
    have g1 := su_mem (f := fun e' => (M (3 * e')).toNat * hin (gX n fi) (gY n se) (3 * e') (n + 2 * e) + (M (3 * e' + 1)).toNat * hin (gX n fi) (gY n se) (3 * e' + 1) (n + 2 * e) + (M (3 * e' + 2)).toNat * hin (gX n fi) (gY n se) (3 * e' + 2) (n + 2 * e)) he
    have g2 := su_mem (f := fun e' => (M (3 * e')).toNat * hin (gX n fi) (gY n se) (3 * e') (n + 2 * e + 1) + (M (3 * e' + 1)).toNat * hin (gX n fi) (gY n se) (3 * e' + 1) (n + 2 * e + 1) + (M (3 * e' + 2)).toNat * hin (gX n fi) (gY n se) (3 * e' + 2) (n + 2 * e + 1)) he
    have i1 : hin (gX n fi) (gY n se) (3 * e) (n + 2 * e) = 1 := hin_or (Or.inr (gY0 n se e))
    have i2 : hin (gX n fi) (gY n se) (3 * e + 1) (n + 2 * e) = 1 := hin_or (Or.inl (gX1 n fi e))
    have i3 : hin (gX n fi) (gY n se) (3 * e + 1) (n + 2 * e + 1) = 1 := hin_or (Or.inr (gY1 n se e))
    have i4 : hin (gX n fi) (gY n se) (3 * e + 2) (n + 2 * e + 1) = 1 := hin_or (Or.inl (gX2 n fi e))
    simp only [i1, i2, Nat.mul_one] at g1
    simp only [i3, i4, Nat.mul_one] at g2
    have t1 := Nat.le_trans g1 h1
    have t2 := Nat.le_trans g2 h2
    show (M (3 * e)).toNat + (M (3 * e + 1)).toNat + (M (3 * e + 2)).toNat ≤ 1 + (M (3 * e) && M (3 * e + 2)).toNat
    cases h5 : M (3 * e) <;> cases h6 : M (3 * e + 1) <;> cases h7 : M (3 * e + 2) <;> simp [h5, h6, h7] at t1 t2 ⊢
/-- THE THEOREM: some labelling's bound is no more than some fair set has -/
theorem dual {fi se : Nat → Nat} {n m : Nat} (b : Nat → Nat) (hfs : hok fi se n m) : ∃ d N, nva fi se m d ∧ (∀ v, d v < n + 2 * m + 2) ∧ hfa fi se n m b N ∧ nbd fi se n m (n + 2 * m) b d ≤ hsz m N := by
  have hE : hok (gX n fi) (gY n se) (n + 2 * m) (3 * m) := by
    intro j hj
    obtain ⟨e, he, q⟩ := j3 hj
    obtain ⟨h1, h2, h3⟩ := hfs e he
    rcases q with q | q | q <;> subst q
    · rw [gX0, gY0]; omega
    · rw [gX1, gY1]; omega
    · rw [gX2, gY2]; omega
  have hcp' : hcp (gX n fi) (gY n se) (3 * m) (gC n b) := by
    intro j hj
    obtain ⟨e, he, q⟩ := j3 hj
    have c1 : gC n b (n + 2 * e) = 1 := if_neg (by omega)
    have c2 : gC n b (n + 2 * e + 1) = 1 := if_neg (by omega)
    rcases q with q | q | q <;> subst q
    · rw [gX0, gY0, c1]; omega
    · rw [gX1, gY1, c1, c2]; omega
    · rw [gX2, gY2, c2]; omega
  obtain ⟨d, ⟨hv, hd, hopt⟩, hmin⟩ := mn_ex (fun d => hva (gX n fi) (gY n se) (3 * m) d ∧ (∀ v, d v < n + 2 * m + 2) ∧ ∀ M, hmx (gX n fi) (gY n se) (n + 2 * m) (3 * m) (gC n b) M → hbd (n + 2 * m) (gC n b) d ≤ hsz (3 * m) M) (fun d => hA (n + 2 * m) (fun _ => 1) d 0) (tb hE _ (gC n b) rfl hcp')
  obtain ⟨M, hM⟩ := hmx_ex (gX n fi) (gY n se) (n + 2 * m) (3 * m) (gC n b)
  obtain ⟨N, hN, hs⟩ := dual_sz hfs hM.1
  refine ⟨d, N, ?_, hd, hN, ?_⟩
  · intro e he h1 h2
    refine Classical.byContradiction (fun hne => ?_)
    have a0 := hv (3 * e) (by omega)
    have a1 := hv (3 * e + 1) (by omega)
    have a2 := hv (3 * e + 2) (by omega)
    rw [gX0, gY0] at a0
    rw [gX1, gY1] at a1
    rw [gX2, gY2] at a2
    obtain ⟨hx, hy, hxy⟩ := hfs e he
    have c1 : gC n b (n + 2 * e) = 1 := if_neg (by omega)
    have c2 : gC n b (n + 2 * e + 1) = 1 := if_neg (by omega)
    have mv : ∃ h, h < n + 2 * m ∧ gC n b h = 1 ∧ d h = 0 ∧ ∀ j, j < 3 * m → (gX n fi j = h → gY n se j ≠ h ∧ (d (gY n se j) = 0 ∨ d (gY n se j) = d (fi e) ∨ d (gY n se j) = d (se e))) ∧ (gY n se j = h → gX n fi j ≠ h ∧ (d (gX n fi j) = 0 ∨ d (gX n fi j) = d (fi e) ∨ d (gX n fi j) = d (se e))) := by
      by_cases q : d (n + 2 * e) = 0
      · refine ⟨n + 2 * e, by omega, c1, q, fun j hj => ?_⟩
        obtain ⟨e', he', r⟩ := j3 hj
        obtain ⟨hx', hy', _⟩ := hfs e' he'
        rcases r with r | r | r <;> subst r
        · rw [gX0, gY0]
          refine ⟨fun h => by omega, fun h => ?_⟩
          have : e' = e := by omega
          subst this
          exact ⟨by omega, Or.inr (Or.inl rfl)⟩
        · rw [gX1, gY1]
          refine ⟨fun h => ?_, fun h => by omega⟩
          have : e' = e := by omega
          subst this
          exact ⟨by omega, by omega⟩
        · rw [gX2, gY2]
          exact ⟨fun h => by omega, fun h => by omega⟩
      · refine ⟨n + 2 * e + 1, by omega, c2, by omega, fun j hj => ?_⟩
        obtain ⟨e', he', r⟩ := j3 hj
        obtain ⟨hx', hy', _⟩ := hfs e' he'
        rcases r with r | r | r <;> subst r
        · rw [gX0, gY0]
          exact ⟨fun h => by omega, fun h => by omega⟩
        · rw [gX1, gY1]
          refine ⟨fun h => by omega, fun h => ?_⟩
          have : e' = e := by omega
          subst this
          exact ⟨by omega, by omega⟩
        · rw [gX2, gY2]
          refine ⟨fun h => ?_, fun h => by omega⟩
          have : e' = e := by omega
          subst this
          exact ⟨by omega, by omega⟩
    obtain ⟨h, hh, hc, h0, hn⟩ := mv
    obtain ⟨d', m1, m2, m3, m4⟩ := tb_move (c := gC n b) hv hd hh hc h0 h1 h2 (hd _) (hd _) hn
    have := hmin d' ⟨m1, m2, fun K hK => Nat.le_trans m3 (hopt K hK)⟩
    omega
  · have h1 := dual_bd (b := b) hv hd
    have h2 := hopt M hM
    omega
end
section
/-! sets of edges as numbers; ORDER by the number read from its first bit on; the search -/
def bm (s : Nat) : Nat → Bool := fun j => s.testBit j
def nkey (M : Nat → Bool) : Nat → Nat
  | 0 => 0
  | k + 1 => 2 * nkey M k + (M k).toNat
theorem nkey_cg {M M' : Nat → Bool} : ∀ {n : Nat}, (∀ j, j < n → M j = M' j) → nkey M n = nkey M' n
  | 0, _ => rfl
  | n + 1, h => by
    show 2 * nkey M n + (M n).toNat = 2 * nkey M' n + (M' n).toNat
    rw [nkey_cg (n := n) (fun j hj => h j (by omega)), h n (by omega)]
theorem nkey_lt {M M' : Nat → Bool} {e : Nat} (h : ∀ j, j < e → M j = M' j) (h1 : M e = true) (h2 : M' e = false) : ∀ {N : Nat}, e < N → nkey M' N < nkey M N
  | 0, hN => absurd hN (by omega)
  | N + 1, hN => by
    show 2 * nkey M' N + (M' N).toNat < 2 * nkey M N + (M N).toNat
    rcases Nat.lt_or_ge e N with q | q
    · have := nkey_lt h h1 h2 (N := N) q
      have := Bool.toNat_le (M' N)
      omega
    · have e1 : e = N := by omega
      subst e1
      rw [nkey_cg h, h1, h2]
      simp
theorem nkey_inj {M M' : Nat → Bool} : ∀ {n : Nat}, nkey M n = nkey M' n → ∀ j, j < n → M j = M' j
  | 0, _, j, hj => absurd hj (by omega)
  | n + 1, h, j, hj => by
    have h' : 2 * nkey M n + (M n).toNat = 2 * nkey M' n + (M' n).toNat := h
    have b1 := Bool.toNat_le (M n)
    have b2 := Bool.toNat_le (M' n)
    rcases Nat.lt_or_ge j n with q | q
    · exact nkey_inj (n := n) (by omega) j q
    · have e1 : j = n := by omega
      subst e1
      have : (M j).toNat = (M' j).toNat := by omega
      cases hM : M j <;> cases hM' : M' j <;> simp [hM, hM'] at this ⊢
theorem nkey_bd (M : Nat → Bool) : ∀ n, nkey M n < 2 ^ n
  | 0 => by simp [nkey]
  | n + 1 => by
    show 2 * nkey M n + (M n).toNat < 2 ^ (n + 1)
    have := nkey_bd M n
    have := Bool.toNat_le (M n)
    rw [Nat.pow_succ]; omega
theorem hdg_cg {x y : Nat → Nat} {Q : Nat} {M M' : Nat → Bool} (h : ∀ j, j < Q → M j = M' j) (v : Nat) : hdg x y Q M v = hdg x y Q M' v := su_cg (fun j hj => by rw [h j hj])
theorem hsz_cg {Q : Nat} {M M' : Nat → Bool} (h : ∀ j, j < Q → M j = M' j) : hsz Q M = hsz Q M' := su_cg (fun j hj => by rw [h j hj])
theorem hfa_cg {x y : Nat → Nat} {P Q : Nat} {c : Nat → Nat} {M M' : Nat → Bool} (h : ∀ j, j < Q → M j = M' j) (hf : hfa x y P Q c M) : hfa x y P Q c M' := fun v hv => by
  rw [← hdg_cg h]; exact hf v hv
/-- a number with given bits below n -/
def tob (M : Nat → Bool) : Nat → Nat
  | 0 => 0
  | k + 1 => tob M k ||| (if M k then 2 ^ k else 0)
theorem tob_bit (M : Nat → Bool) (n j : Nat) : (tob M n).testBit j = (decide (j < n) && M j) := by
  induction n with
  | zero => simp [tob]
  | succ n ih =>
    show (tob M n ||| (if M n then 2 ^ n else 0)).testBit j = _
    rw [Nat.testBit_or, ih]
    by_cases e : j = n
    · subst e
      cases hM : M j <;> simp [hM, Nat.testBit_two_pow]
    · have e2 : decide (j < n + 1) = decide (j < n) := decide_eq_decide.mpr (by omega)
      have e3 : ¬ n = j := fun h => e h.symm
      rw [e2]
      cases hM : M n
      · simp
      · simp [Nat.testBit_two_pow, e3]
theorem tob_lt (M : Nat → Bool) (n : Nat) : tob M n < 2 ^ n := by
  refine Nat.lt_pow_two_of_testBit _ (fun i hi => ?_)
  rw [tob_bit]; simp; omega
theorem bm_tob (M : Nat → Bool) {n j : Nat} (h : j < n) : bm (tob M n) j = M j := by
  show (tob M n).testBit j = M j
  rw [tob_bit]; simp [h]
theorem bm_ge {s n j : Nat} (h : s < 2 ^ n) (hj : n ≤ j) : bm s j = false := Nat.testBit_lt_two_pow (Nat.lt_of_lt_of_le h (Nat.pow_le_pow_right (by omega) hj))
theorem bm_ext {s t n : Nat} (hs : s < 2 ^ n) (ht : t < 2 ^ n) (h : ∀ j, j < n → bm s j = bm t j) : s = t := by
  refine Nat.eq_of_testBit_eq (fun j => ?_)
  rcases Nat.lt_or_ge j n with q | q
  · exact h j q
  · exact (bm_ge hs q).trans (bm_ge ht q).symm
theorem bm_or {s e : Nat} (j : Nat) : bm (s ||| 2 ^ e) j = (bm s j || decide (j = e)) := by
  show (s ||| 2 ^ e).testBit j = _
  rw [Nat.testBit_or, Nat.testBit_two_pow]
  show (s.testBit j || decide (e = j)) = (s.testBit j || decide (j = e))
  simp [eq_comm]
theorem bm_0 (j : Nat) : bm 0 j = false := Nat.zero_testBit j
theorem bm_up {s e : Nat} (h : s < 2 ^ e) : bm (s ||| 2 ^ e) = bup (bm s) e true := by
  funext j
  rw [bm_or]
  unfold bup
  by_cases q : j = e
  · simp [q]
  · simp [q]
/-- THE BEST set -/
def bst (x y : Nat → Nat) (P Q : Nat) (c : Nat → Nat) (M : Nat → Bool) : Prop := hfa x y P Q c M ∧ (∀ K, hfa x y P Q c K → hsz Q K ≤ hsz Q M) ∧ ∀ K, hfa x y P Q c K → hsz Q K = hsz Q M → nkey K Q ≤ nkey M Q
theorem bst_ex (x y : Nat → Nat) (P Q : Nat) (c : Nat → Nat) : ∃ M, bst x y P Q c M := by
  obtain ⟨M0, h0⟩ := hmx_ex x y P Q c
  obtain ⟨M, ⟨h1, h2⟩, h3⟩ := mx_ex (fun M => hfa x y P Q c M ∧ hsz Q M = hsz Q M0) (fun M => nkey M Q) (2 ^ Q) (fun M _ => Nat.le_of_lt (nkey_bd M Q)) ⟨M0, h0.1, rfl⟩
  exact ⟨M, h1, fun K hK => by rw [h2]; exact h0.2 K hK, fun K hK he => h3 K ⟨hK, by rw [he, h2]⟩⟩
theorem bst_un {x y : Nat → Nat} {P Q : Nat} {c : Nat → Nat} {M M' : Nat → Bool} (h : bst x y P Q c M) (h' : bst x y P Q c M') : ∀ j, j < Q → M j = M' j := by
  have e : hsz Q M = hsz Q M' := Nat.le_antisymm (h'.2.1 M h.1) (h.2.1 M' h'.1)
  exact nkey_inj (Nat.le_antisymm (h'.2.2 M h.1 e) (h.2.2 M' h'.1 e.symm))
/-- of edges between the same two vertices the first ones -/
def tnm (tw : Nat → Nat) (N : Nat) (M : Nat → Bool) : Prop := ∀ j, j < N → M j = true → tw j < j → M (tw j) = true
def exT (x y : Nat → Nat) (N : Nat) (c tw : Nat → Nat) (e S : Nat) (M : Nat → Bool) : Prop := hfa x y 9 N c M ∧ tnm tw N M ∧ ∀ j, j < e → M j = bm S j
def exP (x y : Nat → Nat) (N : Nat) (c tw : Nat → Nat) (en e S ct fs g fs' g' : Nat) : Prop :=
  g ≤ g' ∧ (g' = g → fs' = fs) ∧ (g < g' → fs' < 2 ^ N ∧ exT x y N c tw e S (bm fs') ∧ hsz N (bm fs') + 1 = g' ∧ ∀ M, exT x y N c tw e S M → hsz N M + 1 = g' → nkey M N ≤ nkey (bm fs') N) ∧
  (g' ≤ en → ∀ M, exT x y N c tw e S M → hsz N M + 1 ≤ g') ∧ (en < g → ct < g → fs' = fs ∧ g' = g)
/-- what stands at a call of the search -/
def exB (x y : Nat → Nat) (N : Nat) (c tw : Nat → Nat) (e S ct : Nat) : Prop := e ≤ N ∧ S < 2 ^ e ∧ hsz N (bm S) = ct ∧ hfa x y 9 N c (bm S) ∧ tnm tw N (bm S)
theorem su_sp {f g h : Nat → Nat} {n : Nat} (e : ∀ i, i < n → f i = g i + h i) : su f n = su g n + su h n := by
  rw [← su_ad]; exact su_cg e
/-- a set that goes on from S: what it has behind e -/
theorem ex_split {x y : Nat → Nat} {N : Nat} {e S : Nat} {M : Nat → Bool} (hS : S < 2 ^ e) (h : ∀ j, j < e → M j = bm S j) :
    (∀ v, hdg x y N M v = hdg x y N (bm S) v + hdg x y N (fun j => M j && decide (e ≤ j)) v) ∧ hsz N M = hsz N (bm S) + hsz N (fun j => M j && decide (e ≤ j)) := by
  have key : ∀ j, (M j).toNat = (bm S j).toNat + (M j && decide (e ≤ j)).toNat := by
    intro j
    rcases Nat.lt_or_ge j e with q | q
    · rw [h j q]; simp; omega
    · rw [bm_ge hS q]; simp [q]
  constructor
  · intro v
    refine su_sp (fun j _ => ?_)
    rw [key j, Nat.add_mul]
  · exact su_sp (fun j _ => key j)
theorem ex_same {x y : Nat → Nat} {N : Nat} {c tw : Nat → Nat} {e S : Nat} {M : Nat → Bool} (hS : S < 2 ^ e) (h : exT x y N c tw e S M) (hz : hsz N M = hsz N (bm S)) : ∀ j, j < N → M j = bm S j := by
  intro j hj
  obtain ⟨_, h2⟩ := ex_split (x := x) (y := y) (N := N) hS h.2.2
  rcases Nat.lt_or_ge j e with q | q
  · exact h.2.2 j q
  · rw [bm_ge hS q]
    have h3 : hsz N (fun j => M j && decide (e ≤ j)) = 0 := by omega
    have h4 : (M j && decide (e ≤ j)).toNat ≤ su (fun i => (M i && decide (e ≤ i)).toNat) N := su_mem (f := fun i => (M i && decide (e ≤ i)).toNat) hj
    have h3' : su (fun i => (M i && decide (e ≤ i)).toNat) N = 0 := h3
    have h5 : (M j && decide (e ≤ j)).toNat = 0 := by
      omega
    cases hM : M j
    · rfl
    · simp [hM, q] at h5
/-- no more than this can come behind e -/
theorem ex_hope {x y : Nat → Nat} {N : Nat} {c tw : Nat → Nat} {e S : Nat} {M : Nat → Bool} (hE : hok x y 9 N) (hS : S < 2 ^ e) (h : exT x y N c tw e S M) :
    hsz N M ≤ hsz N (bm S) + su (fun v => min (c v - hdg x y N (bm S) v) (su (fun j => if e ≤ j then hin x y j v else 0) N)) 9 / 2 := by
  obtain ⟨h1, h2⟩ := ex_split (x := x) (y := y) (N := N) hS h.2.2
  have hs := hdg_hs hE (fun j => M j && decide (e ≤ j))
  have hle : su (fun v => hdg x y N (fun j => M j && decide (e ≤ j)) v) 9 ≤ su (fun v => min (c v - hdg x y N (bm S) v) (su (fun j => if e ≤ j then hin x y j v else 0) N)) 9 := by
    refine su_le (fun v hv => ?_)
    have a1 := h.1 v hv
    rw [h1 v] at a1
    have a2 : hdg x y N (fun j => M j && decide (e ≤ j)) v ≤ su (fun j => if e ≤ j then hin x y j v else 0) N := by
      refine su_le (fun j _ => ?_)
      show (M j && decide (e ≤ j)).toNat * hin x y j v ≤ if e ≤ j then hin x y j v else 0
      cases hM : M j
      · simp
      · by_cases q : e ≤ j
        · simp [q]
        · simp [q]
    omega
  omega
/-- the search turns back -/
theorem ex_leaf {x y : Nat → Nat} {N : Nat} {c tw : Nat → Nat} {en e S ct fs g : Nat} (hE : hok x y 9 N) (hB : exB x y N c tw e S ct)
    (hst : e = N ∨ en < max g (ct + 1) ∨ ct + su (fun v => min (c v - hdg x y N (bm S) v) (su (fun j => if e ≤ j then hin x y j v else 0) N)) 9 / 2 < max g (ct + 1)) :
    exP x y N c tw en e S ct fs g (if g ≤ ct then S else fs) (max g (ct + 1)) := by
  obtain ⟨he, hS, hct, hf, ht⟩ := hB
  have hS' : S < 2 ^ N := Nat.lt_of_lt_of_le hS (Nat.pow_le_pow_right (by omega) he)
  refine ⟨by omega, fun h => ?_, fun h => ?_, fun h M hM => ?_, fun h1 h2 => ?_⟩
  · rw [if_neg (by omega)]
  · have hg : g ≤ ct := by omega
    rw [if_pos hg]
    refine ⟨hS', ⟨hf, ht, fun _ _ => rfl⟩, by omega, fun M hM hz => ?_⟩
    rw [nkey_cg (ex_same hS hM (by omega))]
    exact Nat.le_refl _
  · rcases hst with q | q | q
    · subst q
      have : hsz e M = hsz e (bm S) := hsz_cg hM.2.2
      omega
    · omega
    · have := ex_hope hE hS hM
      omega
  · rw [if_neg (by omega)]; exact ⟨rfl, by omega⟩
def exM (x y : Nat → Nat) (N : Nat) (c tw : Nat → Nat) (e S : Nat) : Prop := (tw e < e → bm S (tw e) = true) ∧ hdg x y N (bm S) (x e) < c (x e) ∧ hdg x y N (bm S) (y e) < c (y e)
theorem exB_on {x y : Nat → Nat} {N : Nat} {c tw : Nat → Nat} {e S ct : Nat} (hE : hok x y 9 N) (hB : exB x y N c tw e S ct) (he : e < N) (hm : exM x y N c tw e S) : exB x y N c tw (e + 1) (S ||| 2 ^ e) (ct + 1) := by
  obtain ⟨_, hS, hct, hf, ht⟩ := hB
  have hoff : bm S e = false := bm_ge hS (Nat.le_refl _)
  obtain ⟨hx, hy, hne⟩ := hE e he
  refine ⟨he, ?_, ?_, ?_, ?_⟩
  · exact Nat.or_lt_two_pow (Nat.lt_of_lt_of_le hS (Nat.pow_le_pow_right (by omega) (by omega))) (Nat.pow_lt_pow_right (by omega) (by omega))
  · rw [bm_up hS, hsz_on he hoff, hct]
  · intro v hv
    rw [bm_up hS, hdg_on he hoff, hin_ind hne]
    have := hf v hv
    have h1 := hm.2.1
    have h2 := hm.2.2
    by_cases q : v = x e
    · subst q; rw [ind_s, ind_n (p := y e) (v := x e) hne]; omega
    · rw [ind_n q]
      by_cases r : v = y e
      · subst r; rw [ind_s]; omega
      · rw [ind_n r]; omega
  · intro j hj hon hlt
    rw [bm_or] at hon ⊢
    by_cases q : j = e
    · subst q
      rw [hm.1 hlt]; rfl
    · simp only [q, decide_false, Bool.or_false] at hon
      rw [ht j hj hon hlt]; rfl
theorem exB_off {x y : Nat → Nat} {N : Nat} {c tw : Nat → Nat} {e S ct : Nat} (hB : exB x y N c tw e S ct) (he : e < N) : exB x y N c tw (e + 1) S ct :=
  ⟨he, Nat.lt_of_lt_of_le hB.2.1 (Nat.pow_le_pow_right (by omega) (by omega)), hB.2.2.1, hB.2.2.2.1, hB.2.2.2.2⟩
/-- one edge: with it, then without -/
theorem ex_node {x y : Nat → Nat} {N : Nat} {c tw : Nat → Nat} {en e S ct fs g fs1 g1 fs2 g2 fs3 g3 : Nat} (hE : hok x y 9 N) (hB : exB x y N c tw e S ct) (he : e < N)
    (hf1 : fs1 = if g ≤ ct then S else fs) (hg1 : g1 = max g (ct + 1)) (hen : g1 ≤ en)
    (hon : exM x y N c tw e S → exP x y N c tw en (e + 1) (S ||| 2 ^ e) (ct + 1) fs1 g1 fs2 g2) (hno : ¬ exM x y N c tw e S → fs2 = fs1 ∧ g2 = g1)
    (hoff : exP x y N c tw en (e + 1) S ct fs2 g2 fs3 g3) : exP x y N c tw en e S ct fs g fs3 g3 := by
  obtain ⟨_, hS, hct, hf, ht⟩ := hB
  have hS' : S < 2 ^ N := Nat.lt_of_lt_of_le hS (Nat.pow_le_pow_right (by omega) (by omega))
  have hoffe : bm S e = false := bm_ge hS (Nat.le_refl _)
  -- where a set that goes on from S lies
  have hin1 : ∀ M, exT x y N c tw e S M → M e = true → exM x y N c tw e S ∧ exT x y N c tw (e + 1) (S ||| 2 ^ e) M := by
    intro M hM hMe
    obtain ⟨q1, q2⟩ := ex_split (x := x) (y := y) (N := N) hS hM.2.2
    have hpos : ∀ v, (x e = v ∨ y e = v) → 1 ≤ hdg x y N (fun j => M j && decide (e ≤ j)) v := by
      intro v hv
      have := su_mem (f := fun j => (M j && decide (e ≤ j)).toNat * hin x y j v) he
      simp only [hMe, hin_or hv, Nat.le_refl, decide_true, Bool.and_self, Bool.toNat_true] at this
      exact this
    obtain ⟨hx, hy, hne⟩ := hE e he
    refine ⟨⟨fun hlt => ?_, ?_, ?_⟩, hM.1, hM.2.1, fun j hj => ?_⟩
    · rw [← hM.2.2 _ hlt]; exact hM.2.1 e he hMe hlt
    · have a1 := hM.1 _ hx
      have a2 := hpos (x e) (Or.inl rfl)
      rw [q1] at a1; omega
    · have a1 := hM.1 _ hy
      have a2 := hpos (y e) (Or.inr rfl)
      rw [q1] at a1; omega
    · rw [bm_or]
      by_cases q : j = e
      · subst q; simp [hMe]
      · rw [hM.2.2 j (by omega)]; simp [q]
  have hin0 : ∀ M, exT x y N c tw e S M → M e = false → exT x y N c tw (e + 1) S M := by
    intro M hM hMe
    refine ⟨hM.1, hM.2.1, fun j hj => ?_⟩
    by_cases q : j = e
    · subst q; rw [hMe, hoffe]
    · exact hM.2.2 j (by omega)
  have hout1 : ∀ M, exT x y N c tw (e + 1) (S ||| 2 ^ e) M → exT x y N c tw e S M ∧ M e = true := by
    intro M hM
    refine ⟨⟨hM.1, hM.2.1, fun j hj => ?_⟩, ?_⟩
    · rw [hM.2.2 j (by omega), bm_or]; simp; omega
    · rw [hM.2.2 e (by omega), bm_or]; simp
  have hout0 : ∀ M, exT x y N c tw (e + 1) S M → exT x y N c tw e S M ∧ M e = false := fun M hM =>
    ⟨⟨hM.1, hM.2.1, fun j hj => hM.2.2 j (by omega)⟩, by rw [hM.2.2 e (by omega), hoffe]⟩
  have hST : exT x y N c tw e S (bm S) := ⟨hf, ht, fun _ _ => rfl⟩
  obtain ⟨c1, c2, c3, c4, c5⟩ := hoff
  -- the first of the two
  have d1 : g1 ≤ g2 := by
    by_cases hm : exM x y N c tw e S
    · exact (hon hm).1
    · exact Nat.le_of_eq (hno hm).2.symm
  have d2 : g2 = g1 → fs2 = fs1 := by
    by_cases hm : exM x y N c tw e S
    · exact (hon hm).2.1
    · exact fun _ => (hno hm).1
  have d3 : g1 < g2 → fs2 < 2 ^ N ∧ exT x y N c tw (e + 1) (S ||| 2 ^ e) (bm fs2) ∧ hsz N (bm fs2) + 1 = g2 ∧ ∀ M, exT x y N c tw (e + 1) (S ||| 2 ^ e) M → hsz N M + 1 = g2 → nkey M N ≤ nkey (bm fs2) N := by
    by_cases hm : exM x y N c tw e S
    · exact (hon hm).2.2.1
    · exact fun h => absurd h (by rw [(hno hm).2]; omega)
  have d4 : g2 ≤ en → ∀ M, exT x y N c tw e S M → M e = true → hsz N M + 1 ≤ g2 := by
    intro h M hM hMe
    obtain ⟨hm, hM'⟩ := hin1 M hM hMe
    exact (hon hm).2.2.2.1 h M hM'
  refine ⟨by omega, fun h => ?_, fun h => ?_, fun h M hM => ?_, fun h1 h2 => absurd hen (by omega)⟩
  · have e1 : g3 = g2 := by omega
    have e2 : g2 = g1 := by omega
    rw [c2 e1, d2 e2, hf1, if_neg (by omega)]
  · by_cases h3 : g2 < g3
    · obtain ⟨k1, k2, k3, k4⟩ := c3 h3
      refine ⟨k1, (hout0 _ k2).1, k3, fun M hM hz => ?_⟩
      cases hMe : M e with
      | false => exact k4 M (hin0 M hM hMe) hz
      | true =>
        by_cases hen2 : g2 ≤ en
        · have := d4 hen2 M hM hMe; omega
        · have := c5 (by omega) (by omega); omega
    · have e1 : g3 = g2 := by omega
      have e2 := c2 e1
      by_cases h4 : g1 < g2
      · obtain ⟨k1, k2, k3, k4⟩ := d3 h4
        rw [e2, e1]
        refine ⟨k1, (hout1 _ k2).1, k3, fun M hM hz => ?_⟩
        cases hMe : M e with
        | true => exact k4 M (hin1 M hM hMe).2 hz
        | false =>
          refine Nat.le_of_lt (nkey_lt (e := e) (fun j hj => ?_) (hout1 _ k2).2 hMe he)
          rw [hM.2.2 j hj, (hout1 _ k2).1.2.2 j hj]
      · have e3 : g2 = g1 := by omega
        have hg : g ≤ ct := by omega
        rw [e2, d2 e3, hf1, if_pos hg, e1, e3]
        refine ⟨hS', hST, by omega, fun M hM hz => ?_⟩
        rw [nkey_cg (ex_same hS hM (by omega))]
        exact Nat.le_refl _
  · cases hMe : M e with
    | false => exact c4 h M (hin0 M hM hMe)
    | true =>
      have := d4 (by omega) M hM hMe
      omega
theorem bst_tnm {x y : Nat → Nat} {P N : Nat} {c tw : Nat → Nat} {M : Nat → Bool} (htw : ∀ j, j < N → tw j < j → x (tw j) = x j ∧ y (tw j) = y j) (h : bst x y P N c M) : tnm tw N M := by
  intro j hj hMj hlt
  refine Classical.byContradiction (fun hn => ?_)
  have hMi : M (tw j) = false := by cases q : M (tw j) <;> simp [q] at hn ⊢
  obtain ⟨e1, e2⟩ := htw j hj hlt
  have hi : tw j < N := by omega
  have hne : tw j ≠ j := by omega
  have hMi' : (bup M j false) (tw j) = false := by unfold bup; rw [if_neg hne]; exact hMi
  have hin' : ∀ v, hin x y (tw j) v = hin x y j v := fun v => by unfold hin; rw [e1, e2]
  have hf : hfa x y P N c (bup (bup M j false) (tw j) true) := by
    intro v hv
    rw [hdg_on hi hMi', hin', hdg_off hj hMj]
    exact h.1 v hv
  have hz : hsz N (bup (bup M j false) (tw j) true) = hsz N M := by
    rw [hsz_on hi hMi', hsz_off hj hMj]
  have hk := h.2.2 _ hf hz
  have : nkey M N < nkey (bup (bup M j false) (tw j) true) N := by
    refine nkey_lt (e := tw j) (fun i hi2 => ?_) ?_ hMi hi
    · unfold bup; rw [if_neg (by omega), if_neg (by omega)]
    · unfold bup; rw [if_pos rfl]
  omega
theorem ex_all {x y : Nat → Nat} {N : Nat} {c tw : Nat → Nat} {M : Nat → Bool} (htw : ∀ j, j < N → tw j < j → x (tw j) = x j ∧ y (tw j) = y j) (h : bst x y 9 N c M) : exT x y N c tw 0 0 M :=
  ⟨h.1, bst_tnm htw h, fun j hj => absurd hj (by omega)⟩
theorem exB_0 (x y : Nat → Nat) (N : Nat) (c tw : Nat → Nat) : exB x y N c tw 0 0 0 := by
  have hb : ∀ j, bm 0 j = false := bm_0
  refine ⟨by omega, by decide, ?_, ?_, ?_⟩
  · exact su_z (fun j _ => by rw [hb]; rfl)
  · intro v _
    rw [hdg, su_z (fun j _ => by rw [hb]; simp)]
    exact Nat.zero_le _
  · intro j _ h
    rw [hb] at h; cases h
theorem ex_best {x y : Nat → Nat} {N : Nat} {c tw : Nat → Nat} {fs' g' : Nat} (htw : ∀ j, j < N → tw j < j → x (tw j) = x j ∧ y (tw j) = y j) (h : exP x y N c tw N 0 0 0 0 1 fs' g') : fs' < 2 ^ N ∧ bst x y 9 N c (bm fs') ∧ hsz N (bm fs') + 1 = g' := by
  obtain ⟨B, hB⟩ := bst_ex x y 9 N c
  have hT := ex_all htw hB
  obtain ⟨h1, h2, h3, h4, _⟩ := h
  have hzN := hsz_le N B
  have key : ∀ M, hfa x y 9 N c M → hsz N M ≤ hsz N B := hB.2.1
  by_cases q : 1 < g'
  · obtain ⟨k1, k2, k3, k4⟩ := h3 q
    have hmax : hsz N B ≤ hsz N (bm fs') := by
      by_cases r : g' ≤ N
      · have := h4 r B hT; omega
      · omega
    have heq : hsz N B = hsz N (bm fs') := Nat.le_antisymm hmax (key _ k2.1)
    refine ⟨k1, ⟨k2.1, fun K hK => by rw [← heq]; exact key K hK, fun K hK hz => ?_⟩, k3⟩
    exact Nat.le_trans (hB.2.2 K hK (by rw [hz, heq])) (k4 B hT (by rw [heq]; exact k3))
  · have e1 : g' = 1 := by omega
    have e2 := h2 e1
    have h0 : hsz N (bm 0) = 0 := (exB_0 x y N c tw).2.2.1
    have hf0 := (exB_0 x y N c tw).2.2.2.1
    have hz0 : hsz N B = 0 := by
      by_cases r : g' ≤ N
      · have := h4 r B hT; omega
      · omega
    have hall : ∀ K, hfa x y 9 N c K → ∀ j, j < N → K j = bm 0 j := by
      intro K hK j hj
      have a1 := key K hK
      have a2 := su_mem (f := fun i => (K i).toNat) hj
      have a3 : (K j).toNat = 0 := by unfold hsz at a1 hz0; omega
      rw [bm_0]
      cases hk : K j
      · rfl
      · rw [hk] at a3; cases a3
    rw [e2, e1]
    refine ⟨Nat.two_pow_pos N, ⟨hf0, fun K hK => ?_, fun K hK _ => ?_⟩, by omega⟩
    · have := key K hK; omega
    · rw [nkey_cg (hall K hK)]; exact Nat.le_refl _
theorem ex_reach {x y : Nat → Nat} {N : Nat} {c tw : Nat → Nat} {tg fs' g' : Nat} (htw : ∀ j, j < N → tw j < j → x (tw j) = x j ∧ y (tw j) = y j) (h : exP x y N c tw tg 0 0 0 0 tg fs' g') : tg < g' ↔ ∃ M, hfa x y 9 N c M ∧ tg ≤ hsz N M := by
  obtain ⟨h1, h2, h3, h4, _⟩ := h
  constructor
  · intro q
    obtain ⟨k1, k2, k3, k4⟩ := h3 q
    exact ⟨_, k2.1, by omega⟩
  · rintro ⟨M, hM, hz⟩
    refine Nat.lt_of_not_le (fun q => ?_)
    obtain ⟨B, hB⟩ := bst_ex x y 9 N c
    have a1 := h4 q B (ex_all htw hB)
    have a2 := hB.2.1 M hM
    omega
end
