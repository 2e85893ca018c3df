/-! sums over 0 .. n-1, and the largest matching of a graph with capacities -/
def su (f : Nat → Nat) : Nat → Nat
  | 0 => 0
  | n + 1 => su f n + f n
theorem su_cg {f g : Nat → Nat} : ∀ {n : Nat}, (∀ i, i < n → f i = g i) → su f n = su g n
  | 0, _ => rfl
  | n + 1, h => by
    show su f n + f n = su g n + g n
    rw [su_cg (n := n) (fun i hi => h i (by omega)), h n (by omega)]
theorem su_le {f g : Nat → Nat} : ∀ {n : Nat}, (∀ i, i < n → f i ≤ g i) → su f n ≤ su g n
  | 0, _ => Nat.le_refl _
  | n + 1, h => Nat.add_le_add (su_le (n := n) (fun i hi => h i (by omega))) (h n (by omega))
theorem su_lt {f g : Nat → Nat} {k : Nat} : ∀ {n : Nat}, (∀ i, i < n → f i ≤ g i) → k < n → f k < g k → su f n < su g n
  | 0, _, hk, _ => absurd hk (by omega)
  | n + 1, h, hk, h2 => by
    show su f n + f n < su g n + g n
    rcases Nat.lt_or_ge k n with q | q
    · have := su_lt (n := n) (fun i hi => h i (by omega)) q h2
      have := h n (by omega)
      omega
    · have e : k = n := by omega
      subst e
      have := su_le (n := k) (f := f) (g := g) (fun i hi => h i (by omega))
      omega
theorem su_ad (f g : Nat → Nat) (n : Nat) : su (fun i => f i + g i) n = su f n + su g n := by
  induction n with
  | zero => rfl
  | succ n ih =>
    show su (fun i => f i + g i) n + (f n + g n) = su f n + f n + (su g n + g n)
    rw [ih]; omega
theorem su_ml (a : Nat) (f : Nat → Nat) (n : Nat) : su (fun i => a * f i) n = a * su f n := by
  induction n with
  | zero => rfl
  | succ n ih =>
    show su (fun i => a * f i) n + a * f n = a * (su f n + f n)
    rw [ih, Nat.mul_add]
theorem su_0 (n : Nat) : su (fun _ => 0) n = 0 := by
  induction n with
  | zero => rfl
  | succ n ih => show su (fun _ => 0) n + 0 = 0; rw [ih]
theorem su_z {f : Nat → Nat} {n : Nat} (h : ∀ i, i < n → f i = 0) : su f n = 0 := by
  rw [su_cg (g := fun _ => 0) h, su_0]
theorem su_sw (f : Nat → Nat → Nat) (n m : Nat) : su (fun i => su (fun j => f i j) m) n = su (fun j => su (fun i => f i j) n) m := by
  induction n with
  | zero => exact (su_0 m).symm
  | succ n ih =>
    show su (fun i => su (fun j => f i j) m) n + su (fun j => f n j) m = su (fun j => su (fun i => f i j) n + f n j) m
    rw [ih, su_ad]
theorem su_mem {f : Nat → Nat} {n k : Nat} (h : k < n) : f k ≤ su f n := by
  induction n with
  | zero => omega
  | succ n ih =>
    show f k ≤ su f n + f n
    rcases Nat.lt_or_ge k n with q | q
    · have := ih q; omega
    · have e : k = n := by omega
      subst e; omega
theorem su_up {f : Nat → Nat} {k a n : Nat} (h : k < n) : su (fun i => if i = k then a else f i) n + f k = su f n + a := by
  induction n with
  | zero => omega
  | succ n ih =>
    show su (fun i => if i = k then a else f i) n + (if n = k then a else f n) + f k = su f n + f n + a
    rcases Nat.lt_or_ge k n with q | q
    · have := ih q
      rw [if_neg (by omega)]; omega
    · have e : k = n := by omega
      subst e
      rw [if_pos rfl, su_cg (g := f) (fun i hi => if_neg (by omega))]; omega
theorem su_1 {k n a : Nat} (h : k < n) : su (fun i => if i = k then a else 0) n = a := by
  have := su_up (f := fun _ => 0) (a := a) h
  rw [su_0] at this
  simpa using this
theorem su_ex {f g : Nat → Nat} {n : Nat} (h : su f n < su g n) : ∃ i, i < n ∧ f i < g i :=
  Classical.byContradiction fun hc => absurd (su_le (n := n) (f := g) (g := f) (fun i hi => Nat.le_of_not_lt fun hl => hc ⟨i, hi, hl⟩)) (by omega)
theorem su_ex2 {f g : Nat → Nat} {n k : Nat} (h : su g n ≤ su f n) (hk : k < n) (h2 : f k < g k) : ∃ i, i < n ∧ g i < f i :=
  Classical.byContradiction fun hc => absurd (su_lt (n := n) (f := f) (g := g) (fun i hi => Nat.le_of_not_lt fun hl => hc ⟨i, hi, hl⟩) hk h2) (by omega)
theorem mx_ex {α : Type} (S : α → Prop) (f : α → Nat) (B : Nat) (hB : ∀ a, S a → f a ≤ B) (h : ∃ a, S a) : ∃ a, S a ∧ ∀ b, S b → f b ≤ f a := by
  obtain ⟨a0, h0⟩ := h
  have key : ∀ k a, S a → B ≤ f a + k → ∃ a, S a ∧ ∀ b, S b → f b ≤ f a := by
    intro k
    induction k with
    | zero => intro a ha hb; exact ⟨a, ha, fun b hb' => Nat.le_trans (hB b hb') hb⟩
    | succ k ih =>
      intro a ha hk
      by_cases hh : ∃ b, S b ∧ f a < f b
      · obtain ⟨b, hb, hl⟩ := hh
        exact ih b hb (by omega)
      · exact ⟨a, ha, fun b hb => Nat.le_of_not_lt fun hl => hh ⟨b, hb, hl⟩⟩
  exact key B a0 h0 (by omega)
theorem mn_ex {α : Type} (S : α → Prop) (f : α → Nat) (h : ∃ a, S a) : ∃ a, S a ∧ ∀ b, S b → f a ≤ f b := by
  obtain ⟨a0, h0⟩ := h
  have key : ∀ k a, S a → f a ≤ k → ∃ a, S a ∧ ∀ b, S b → f a ≤ f b := by
    intro k
    induction k with
    | zero => intro a ha hb; exact ⟨a, ha, fun b _ => by omega⟩
    | succ k ih =>
      intro a ha hk
      by_cases hh : ∃ b, S b ∧ f b < f a
      · obtain ⟨b, hb, hl⟩ := hh
        exact ih b hb (by omega)
      · exact ⟨a, ha, fun b hb => Nat.le_of_not_lt fun hl => hh ⟨b, hb, hl⟩⟩
  exact key (f a0) a0 h0 (Nat.le_refl _)
/-! a graph: edges j < Q between the nodes x j, y j < P; a set of edges M -/
def hin (x y : Nat → Nat) (j v : Nat) : Nat := if x j = v ∨ y j = v then 1 else 0
def hdg (x y : Nat → Nat) (Q : Nat) (M : Nat → Bool) (v : Nat) : Nat := su (fun j => (M j).toNat * hin x y j v) Q
def hsz (Q : Nat) (M : Nat → Bool) : Nat := su (fun j => (M j).toNat) Q
def hfa (x y : Nat → Nat) (P Q : Nat) (c : Nat → Nat) (M : Nat → Bool) : Prop := ∀ v, v < P → hdg x y Q M v ≤ c v
def hmx (x y : Nat → Nat) (P Q : Nat) (c : Nat → Nat) (M : Nat → Bool) : Prop := hfa x y P Q c M ∧ ∀ N, hfa x y P Q c N → hsz Q N ≤ hsz Q M
def hok (x y : Nat → Nat) (P Q : Nat) : Prop := ∀ j, j < Q → x j < P ∧ y j < P ∧ x j ≠ y j
def ind (p v : Nat) : Nat := if v = p then 1 else 0
def bup (M : Nat → Bool) (k : Nat) (b : Bool) : Nat → Bool := fun i => if i = k then b else M i
theorem hdg_w {x y : Nat → Nat} {P Q : Nat} (hE : hok x y P Q) (g : Nat → Nat) (M : Nat → Bool) : su (fun v => g v * hdg x y Q M v) P = su (fun j => (M j).toNat * (g (x j) + g (y j))) Q := by
  have h1 : ∀ v, g v * hdg x y Q M v = su (fun j => g v * ((M j).toNat * hin x y j v)) Q := fun v => (su_ml _ _ _).symm
  rw [su_cg (fun v _ => h1 v), su_sw (fun v j => g v * ((M j).toNat * hin x y j v))]
  refine su_cg (fun j hj => ?_)
  obtain ⟨hx, hy, hne⟩ := hE j hj
  have h2 : ∀ v, g v * ((M j).toNat * hin x y j v) = (M j).toNat * ((if v = x j then g (x j) else 0) + (if v = y j then g (y j) else 0)) := by
    intro v
    unfold hin
    by_cases e1 : v = x j
    · subst e1
      rw [if_pos (Or.inl rfl), if_pos rfl, if_neg hne, Nat.mul_one, Nat.add_zero, Nat.mul_comm]
    · by_cases e2 : v = y j
      · subst e2
        rw [if_pos (Or.inr rfl), if_neg e1, if_pos rfl, Nat.mul_one, Nat.zero_add, Nat.mul_comm]
      · rw [if_neg (by rintro (h | h); exact e1 h.symm; exact e2 h.symm), if_neg e1, if_neg e2]
        simp
  rw [su_cg (fun v _ => h2 v), su_ml, su_ad, su_1 hx, su_1 hy]
theorem hdg_hs {x y : Nat → Nat} {P Q : Nat} (hE : hok x y P Q) (M : Nat → Bool) : su (fun v => hdg x y Q M v) P = 2 * hsz Q M := by
  have h := hdg_w hE (fun _ => 1) M
  rw [su_cg (g := fun v => hdg x y Q M v) (fun v _ => Nat.one_mul _)] at h
  rw [h, hsz, ← su_ml]
  exact su_cg (fun j _ => by show (M j).toNat * (1 + 1) = 2 * (M j).toNat; omega)
theorem hdg_on {x y : Nat → Nat} {Q j : Nat} {M : Nat → Bool} (hj : j < Q) (h : M j = false) (v : Nat) : hdg x y Q (bup M j true) v = hdg x y Q M v + hin x y j v := by
  have := su_up (f := fun i => (M i).toNat * hin x y i v) (a := hin x y j v) hj
  have e : hdg x y Q (bup M j true) v = su (fun i => if i = j then hin x y j v else (M i).toNat * hin x y i v) Q := by
    refine su_cg (fun i _ => ?_)
    unfold bup
    by_cases e : i = j
    · subst e; simp
    · simp [e]
  rw [e]
  simp only [h, Bool.toNat_false, Nat.zero_mul, Nat.add_zero] at this
  exact this
theorem hdg_off {x y : Nat → Nat} {Q j : Nat} {M : Nat → Bool} (hj : j < Q) (h : M j = true) (v : Nat) : hdg x y Q (bup M j false) v + hin x y j v = hdg x y Q M v := by
  have := su_up (f := fun i => (M i).toNat * hin x y i v) (a := 0) hj
  have e : hdg x y Q (bup M j false) v = su (fun i => if i = j then 0 else (M i).toNat * hin x y i v) Q := by
    refine su_cg (fun i _ => ?_)
    unfold bup
    by_cases e : i = j
    · subst e; simp
    · simp [e]
  rw [e]
  simp only [h, Bool.toNat_true, Nat.one_mul, Nat.add_zero] at this
  exact this
theorem hsz_on {Q j : Nat} {M : Nat → Bool} (hj : j < Q) (h : M j = false) : hsz Q (bup M j true) = hsz Q M + 1 := by
  have := su_up (f := fun i => (M i).toNat) (a := 1) hj
  have e : hsz Q (bup M j true) = su (fun i => if i = j then 1 else (M i).toNat) Q := by
    refine su_cg (fun i _ => ?_)
    unfold bup
    by_cases e : i = j
    · subst e; simp
    · simp [e]
  rw [e]
  simp only [h, Bool.toNat_false, Nat.add_zero] at this
  exact this
theorem hsz_off {Q j : Nat} {M : Nat → Bool} (hj : j < Q) (h : M j = true) : hsz Q (bup M j false) + 1 = hsz Q M := by
  have := su_up (f := fun i => (M i).toNat) (a := 0) hj
  have e : hsz Q (bup M j false) = su (fun i => if i = j then 0 else (M i).toNat) Q := by
    refine su_cg (fun i _ => ?_)
    unfold bup
    by_cases e : i = j
    · subst e; simp
    · simp [e]
  rw [e]
  simp only [h, Bool.toNat_true, Nat.add_zero] at this
  exact this
theorem hsz_le (Q : Nat) (M : Nat → Bool) : hsz Q M ≤ Q := by
  have h : hsz Q M ≤ su (fun _ => 1) Q := su_le (fun i _ => Bool.toNat_le (M i))
  have e : ∀ n, su (fun _ => 1) n = n := by
    intro n
    induction n with
    | zero => rfl
    | succ n ih => show su (fun _ => 1) n + 1 = n + 1; rw [ih]
  rw [e] at h; exact h
theorem hmx_ex (x y : Nat → Nat) (P Q : Nat) (c : Nat → Nat) : ∃ M, hmx x y P Q c M := by
  refine mx_ex (hfa x y P Q c) (hsz Q) Q (fun M _ => hsz_le Q M) ⟨fun _ => false, fun v _ => ?_⟩
  rw [hdg, su_z (fun j _ => by simp)]
  exact Nat.zero_le _
theorem hdg_lt {x y : Nat → Nat} {Q : Nat} {M N : Nat → Bool} {v : Nat} (h : hdg x y Q N v < hdg x y Q M v) : ∃ j, j < Q ∧ M j = true ∧ N j = false ∧ (x j = v ∨ y j = v) := by
  obtain ⟨j, hj, hl⟩ := su_ex h
  refine ⟨j, hj, ?_⟩
  unfold hin at hl
  by_cases e : x j = v ∨ y j = v
  · rw [if_pos e] at hl
    cases hM : M j <;> cases hN : N j <;> simp [hM, hN] at hl ⊢
    exact e
  · rw [if_neg e] at hl; simp at hl
theorem hdg_ge {x y : Nat → Nat} {Q k : Nat} {M N : Nat → Bool} {v : Nat} (h : hdg x y Q M v ≤ hdg x y Q N v) (hk : k < Q) (hM : M k = true) (hN : N k = false) (hi : x k = v ∨ y k = v) : ∃ j, j < Q ∧ N j = true ∧ M j = false ∧ (x j = v ∨ y j = v) := by
  obtain ⟨j, hj, hl⟩ := su_ex2 (k := k) h hk (by simp [hM, hN, hin, hi])
  refine ⟨j, hj, ?_⟩
  unfold hin at hl
  by_cases e : x j = v ∨ y j = v
  · rw [if_pos e] at hl
    cases hM : M j <;> cases hN : N j <;> simp [hM, hN] at hl ⊢
    exact e
  · rw [if_neg e] at hl; simp at hl
/-- no largest set leaves room for a unit at p and a unit at q -/
def hre (x y : Nat → Nat) (P Q : Nat) (c : Nat → Nat) (p q : Nat) : Prop := ∀ M, hmx x y P Q c M → ¬ ∀ v, v < P → hdg x y Q M v + ind p v + ind q v ≤ c v
theorem hre_sy {x y : Nat → Nat} {P Q : Nat} {c : Nat → Nat} {p q : Nat} (h : hre x y P Q c p q) : hre x y P Q c q p := by
  intro M hM hf
  exact h M hM (fun v hv => by have := hf v hv; omega)
theorem hin_or {x y : Nat → Nat} {j v : Nat} (h : x j = v ∨ y j = v) : hin x y j v = 1 := if_pos h
theorem hin_no {x y : Nat → Nat} {j v : Nat} (h : ¬ (x j = v ∨ y j = v)) : hin x y j v = 0 := if_neg h
/-- THE EXCHANGE -/
theorem hre_tr {x y : Nat → Nat} {P Q : Nat} {c : Nat → Nat} (hE : hok x y P Q) {p t q : Nat} (hp : p < P) (ht : t < P) (hq : q < P) (h1 : hre x y P Q c p t) (h2 : hre x y P Q c t q) (hN : ∃ N, hmx x y P Q c N ∧ ∀ v, v < P → hdg x y Q N v + ind t v ≤ c v) : hre x y P Q c p q := by
  intro M hM hf
  obtain ⟨N, ⟨hNm, hNt⟩, hmax⟩ := mx_ex (fun N => hmx x y P Q c N ∧ ∀ v, v < P → hdg x y Q N v + ind t v ≤ c v) (fun N => hsz Q (fun j => M j && N j)) Q (fun N _ => hsz_le Q _) hN
  have hsz_eq : hsz Q N = hsz Q M := Nat.le_antisymm (hM.2 N hNm.1) (hNm.2 M hM.1)
  have at_p : ∀ r, r < P → hre x y P Q c r t → c r ≤ hdg x y Q N r + ind t r := by
    intro r hr hrt
    refine Nat.le_of_not_lt (fun hl => hrt N hNm (fun v hv => ?_))
    have := hNt v hv
    unfold ind at this hl ⊢
    by_cases e : v = r
    · subst e; simp only [if_pos rfl] at *; simp at *; omega
    · rw [if_neg e]; omega
  have hcp := at_p p hp h1
  have hcq := at_p q hq (hre_sy h2)
  have hsum : su (fun v => hdg x y Q N v + ind t v) P < su (fun v => hdg x y Q M v + ind p v + ind q v) P := by
    rw [su_ad, su_ad (fun v => hdg x y Q M v + ind p v), su_ad, hdg_hs hE, hdg_hs hE, hsz_eq]
    have e : ∀ r, r < P → su (fun v => ind r v) P = 1 := fun r hr => su_1 hr
    rw [e t ht, e p hp, e q hq]; omega
  obtain ⟨z, hz, hzl⟩ := su_ex hsum
  have zp : z ≠ p := by
    intro e; subst e
    have := hf z hz
    omega
  have zq : z ≠ q := by
    intro e; subst e
    have := hf z hz
    omega
  have hzM : hdg x y Q M z ≤ c z := hM.1 z hz
  have ip : ind p z = 0 := if_neg zp
  have iq : ind q z = 0 := if_neg zq
  simp only [ip, iq, Nat.add_zero] at hzl
  obtain ⟨j, hj, hMj, hNj, hjz⟩ := hdg_lt (x := x) (y := y) (Q := Q) (M := M) (N := N) (v := z) (by omega)
  -- the other end
  obtain ⟨w, hw, hwz, hjw⟩ : ∃ w, w < P ∧ w ≠ z ∧ (∀ v, hin x y j v = ind z v + ind w v) := by
    obtain ⟨hx, hy, hne⟩ := hE j hj
    rcases hjz with e | e
    · refine ⟨y j, hy, by omega, fun v => ?_⟩
      unfold hin ind
      by_cases e1 : v = z
      · subst e1; simp [e]; omega
      · by_cases e2 : v = y j
        · subst e2; simp [e1]
        · rw [if_neg (by rintro (h | h) <;> omega), if_neg e1, if_neg e2]
    · refine ⟨x j, hx, by omega, fun v => ?_⟩
      unfold hin ind
      by_cases e1 : v = z
      · subst e1; simp [e]; omega
      · by_cases e2 : v = x j
        · subst e2; simp [e1]
        · rw [if_neg (by rintro (h | h) <;> omega), if_neg e1, if_neg e2]
  have hjw1 : x j = w ∨ y j = w := by
    refine Classical.byContradiction (fun hc => ?_)
    have := hjw w
    rw [hin_no hc] at this
    unfold ind at this
    rw [if_pos rfl] at this
    omega
  -- N with j is too much at w
  have hfull : c w ≤ hdg x y Q N w := by
    refine Nat.le_of_not_lt (fun hl => ?_)
    have hfa' : hfa x y P Q c (bup N j true) := by
      intro v hv
      rw [hdg_on hj hNj, hjw]
      have := hNt v hv
      unfold ind
      by_cases e1 : v = z
      · subst e1
        rw [if_pos rfl, if_neg (by omega)]; omega
      · by_cases e2 : v = w
        · subst e2; rw [if_neg e1, if_pos rfl]; omega
        · rw [if_neg e1, if_neg e2]; omega
    have := hNm.2 _ hfa'
    rw [hsz_on hj hNj] at this
    omega
  obtain ⟨g, hg, hNg, hMg, hgw⟩ := hdg_ge (x := x) (y := y) (Q := Q) (k := j) (M := M) (N := N) (v := w) (Nat.le_trans (hM.1 w hw) hfull) hj hMj hNj hjw1
  have hgj : j ≠ g := by intro e; subst e; rw [hMg] at hMj; cases hMj
  have hNgj : (bup N g false) j = false := by unfold bup; rw [if_neg hgj]; exact hNj
  have hdeg : ∀ v, hdg x y Q (bup (bup N g false) j true) v + hin x y g v = hdg x y Q N v + hin x y j v := by
    intro v
    rw [hdg_on hj hNgj]
    have := hdg_off (x := x) (y := y) hg hNg v
    omega
  have hszN : hsz Q (bup (bup N g false) j true) = hsz Q N := by
    rw [hsz_on hj hNgj]
    have := hsz_off hg hNg
    omega
  have hN2t : ∀ v, v < P → hdg x y Q (bup (bup N g false) j true) v + ind t v ≤ c v := by
    intro v hv
    have h3 := hdeg v
    rw [hjw v] at h3
    have := hNt v hv
    by_cases e1 : v = z
    · subst e1
      have a1 : ind v v = 1 := if_pos rfl
      have a2 : ind w v = 0 := if_neg (by omega)
      omega
    · have a1 : ind z v = 0 := if_neg e1
      by_cases e2 : v = w
      · subst e2
        have a2 : ind v v = 1 := if_pos rfl
        have a3 := hin_or hgw
        omega
      · have a2 : ind w v = 0 := if_neg e2
        omega
  have hN2m : hmx x y P Q c (bup (bup N g false) j true) :=
    ⟨fun v hv => by have := hN2t v hv; omega, fun K hK => by rw [hszN]; exact hNm.2 K hK⟩
  have hbig := hmax _ ⟨hN2m, hN2t⟩
  have e : (fun i => M i && bup (bup N g false) j true i) = bup (fun i => M i && N i) j true := by
    funext i
    unfold bup
    by_cases e1 : i = j
    · subst e1; simp [hMj]
    · by_cases e2 : i = g
      · subst e2; simp [e1, hMg]
      · simp [e1, e2]
  rw [e, hsz_on hj (by simp [hNj])] at hbig
  omega
