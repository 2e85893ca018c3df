theorem hsz_bd {s k : Nat} (h : s < 2 ^ k) (N : Nat) : hsz N (bm s) ≤ k := by
  have : ∀ N, hsz N (bm s) ≤ min N k := by
    intro N
    induction N with
    | zero => exact Nat.zero_le _
    | succ N ih =>
      show hsz N (bm s) + (bm s N).toNat ≤ min (N + 1) k
      have b1 := Bool.toNat_le (bm s N)
      rcases Nat.lt_or_ge N k with q | q
      · omega
      · rw [bm_ge h q]; simp; omega
  have := this N
  omega
theorem hsz_z {s N : Nat} (h : s < 2 ^ N) (hz : hsz N (bm s) = 0) : s = 0 := by
  refine Classical.byContradiction (fun q => ?_)
  obtain ⟨i, hi⟩ := bm_ne0.mp q
  have hlt := lt_bm h hi
  have h1 : (bm s i).toNat ≤ hsz N (bm s) := su_mem (f := fun j => (bm s j).toNat) hlt
  rw [hi] at h1
  simp at h1
  omega
theorem bm_all (n v : Nat) : bm (2 ^ n - 1) v = decide (v < n) := Nat.testBit_two_pow_sub_one n v
theorem bm_rest (n u w v : Nat) : bm (ndf (2 ^ n - 1) (u ||| w)) v = true ↔ rsv n u w v := by
  rw [bm_ndf, bm_all, bm_orr]
  unfold rsv
  cases bm u v <;> cases bm w v <;> simp
theorem prt_lt {fi se : Nat → Nat} {m s p k : Nat} (hs : s < 2 ^ k) (h : prt fi se m s p) : p < 2 ^ k := by
  obtain ⟨t, t1, t2, t3, t4, _⟩ := h
  exact bm_lt (fun i hi => lt_bm hs (t4 i hi))
theorem p2_le {v k : Nat} (h : v ≤ k) : 2 ^ v ≤ 2 ^ k := Nat.pow_le_pow_right (by decide) h
