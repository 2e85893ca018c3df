/-! the law's body: one step of the script after the other -/
def scr (E : EnvT) (A : Nat → Prop) (b L : Nat) (xs : Nat → Int32) : Prop := va_X b L xs E.2.2.2.2.1 (hpE E) ∧ b < (hpE E).size ∧ ¬ A b
theorem and31 (x : Int32) : ∃ j, j < 32 ∧ x &&& nI 31 = nI j := by
  refine ⟨x.toBitVec.toNat &&& 31, Nat.lt_of_le_of_lt Nat.and_le_right (by decide), ?_⟩
  rw [← nx_and']
  congr 1
  rw [← Int32.toBitVec_inj]
  show x.toBitVec = BitVec.ofNat 32 x.toBitVec.toNat
  rw [BitVec.ofNat_toNat, BitVec.setWidth_eq]
theorem gt3 {L i : Nat} (hL : L ≤ 1536) (hi : i ≤ L + 2) (h : ¬ nI L - nI 3 < nI i) : i + 3 ≤ L := by
  rcases Nat.lt_or_ge L 3 with q | q
  · exfalso
    apply h
    rw [Int32.lt_iff_toInt_lt, nI_toInt (by omega)]
    have : (nI L - nI 3).toInt < 0 := by
      rcases (show L = 0 ∨ L = 1 ∨ L = 2 by omega) with rfl | rfl | rfl <;> decide
    omega
  · rw [pk_sub q, nI_ltI (by omega) (by omega)] at h
    omega
section S81
variable {E : EnvT} {nL : Nat} {Q : State → Prop} {cells slots : Nat} {lv : List (Nat × Value)} {st : List Value} {pc : Nat} {cc : ByteArray} {own : String} {D : va_G} {cA : ClassId} {d mR sR : Nat} {A : Nat → Prop} {ws : va_W} {b L : Nat} {xs : Nat → Int32}
theorem s_slen (C : Cx E cc own nL D cA d mR sR) (X : scr E A b L xs) (dg : decode cc pc = .ok (.arraylength, 1)) (kk : ST E nL Q cells slots (wf E A D ws) lv (.int (nI L) :: st) (pc + 1)) : ST E nL Q cells slots (wf E A D ws) lv (.ref b :: st) pc :=
  fun H locs ls hq hl => va_slen C.1 C.2.1 X.1 X.2.1 X.2.2 hq.2.2 dg (kk H locs ls hq hl)
theorem s_sld {i : Nat} (C : Cx E cc own nL D cA d mR sR) (X : scr E A b L xs) (hL : L ≤ 1536) (dg : decode cc pc = .ok (.iaload, 1)) (hi : i < L) (kk : ST E nL Q cells slots (wf E A D ws) lv (.int (xs i) :: st) (pc + 1)) : ST E nL Q cells slots (wf E A D ws) lv (.int (nI i) :: .ref b :: st) pc := by
  intro H locs ls hq hl
  refine va_sld C.1 C.2.1 X.1 X.2.1 X.2.2 hq.2.2 (vp_in_nI hi (by omega)) dg ?_
  rw [nI_clamp (by omega)]
  exact kk H locs ls hq hl
theorem s_tin {j len : Nat} {dflt off : Int} {offs : Array Int} (tgt : Nat) (C : Cx E cc own nL D cA d mR sR) (dg : decode cc pc = .ok (.tableswitch dflt 0 16 offs, len)) (hj : j ≤ 16) (ho : offs[j]? = some off) (ht : (pc : Int) + off = (tgt : Int)) (kk : ST E nL Q cells slots (wf E A D ws) lv st tgt) : ST E nL Q cells slots (wf E A D ws) lv (.int (nI j) :: st) pc := by
  intro H locs ls hq hl
  refine lv_tableIn C.1 C.2.1 dg ?_ ?_ ?_ ht (kk H locs ls hq hl)
  · rw [nI_toInt (by omega)]; omega
  · rw [nI_toInt (by omega)]; omega
  · rw [nI_toInt (by omega)]
    rw [show ((j : Int) - 0).toNat = j by omega]
    exact ho
theorem s_tout {j len : Nat} {dflt : Int} {offs : Array Int} (tgt : Nat) (C : Cx E cc own nL D cA d mR sR) (dg : decode cc pc = .ok (.tableswitch dflt 0 16 offs, len)) (hj : 16 < j) (hj2 : j < 32) (ht : (pc : Int) + dflt = (tgt : Int)) (kk : ST E nL Q cells slots (wf E A D ws) lv st tgt) : ST E nL Q cells slots (wf E A D ws) lv (.int (nI j) :: st) pc := by
  intro H locs ls hq hl
  refine lv_tableOut C.1 C.2.1 dg (Or.inr ?_) ht (kk H locs ls hq hl)
  rw [nI_toInt (by omega)]; omega
end S81
/-- the state of the class's object and of the reference's, at a place of the law: what both hold is the same graph -/
def LI (E : EnvT) (A : Nat → Prop) (Q : State → Prop) (D : va_G) (cA : ClassId) (x k h s b1 b2 b3 b4 b5 g a1 a2 a3 o1 o2 o3 o4 o5 : Nat) (y p1 p2 p3 p4 b : Nat) (i pc : Nat) : Prop :=
  ∀ (N : Nat) (hd tl : Nat → Nat) (TW LF AH : Nat → Int32) (en fs fc : Int32) (n m : Nat) (fi se wa : Nat → Nat) (nr wt is pt : Nat → Nat) (al fu fw : Int32) (so ta ex bs bc wu ww : Int32) (PA : Nat → Int32), GOK n m fi se wa → knS fi se wa m so bs bc → knT fi se wa n m ta al wt is pt → knE fi se wa n m ex wu ww → wt 0 = 0 → ST E 4 Q 23 2239 (wf E A D [(x, .inr (4, [.ref g, .ref s, .ref h, .ref k])), (g, .inr (2, [.int (nI n), .int (nI m), .ref a1, .ref a2, .ref a3])), (a1, .inl (cA, 14, .inl (aN fi))), (a2, .inl (cA, 14, .inl (aN se))), (a3, .inl (cA, 9, .inl (aN wa))), (s, .inr (3, [.int (nI N), .ref b1, .ref b2, .ref b3, .ref b4, .ref b5, .int en, .int fs, .int fc])), (b1, .inl (cA, 14, .inl (aN hd))), (b2, .inl (cA, 14, .inl (aN tl))), (b3, .inl (cA, 14, .inl TW)), (b4, .inl (cA, 9, .inl LF)), (b5, .inl (cA, 9, .inl AH)), (h, .inr (1, [.ref o1, .ref o2, .ref o3, .ref o4, .ref o5, .int al, .int fu, .int fw])), (o1, .inl (cA, 512, .inl (aN od))), (o2, .inl (cA, 9, .inl (aN nr))), (o3, .inl (cA, 512, .inl (aN wt))), (o4, .inl (cA, 512, .inl (aN is))), (o5, .inl (cA, 512, .inl (aN pt))), (k, .inr (0, [.int so, .int ta, .int ex, .int bs, .int bc, .int wu, .int ww])), (y, .inr (5, [.int (nI n), .int (nI m), .ref p1, .ref p2, .ref p3, .ref p4])), (p1, .inl (cA, 14, .inl (aN fi))), (p2, .inl (cA, 14, .inl (aN se))), (p3, .inl (cA, 9, .inl (aN wa))), (p4, .inl (cA, 9, .inl PA))]) [(0, .ref b), (1, .ref x), (2, .ref y), (3, .int (nI i))] [] pc
set_option maxHeartbeats 4000000 in
set_option maxRecDepth 100000 in
/-- begin -/
theorem lc_begin {E : EnvT} {A : Nat → Prop} {Q : State → Prop} {D : va_G} {cA : ClassId} (x k h s b1 b2 b3 b4 b5 g a1 a2 a3 o1 o2 o3 o4 o5 : Nat) (y p1 p2 p3 p4 b : Nat) (L i : Nat) (xs : Nat → Int32) (C : Cx E code rL 4 D cA 2048 600000 7302250) (hA : ∀ q, (hpE E).size ≤ q → A q) (X : scr E A b L xs) (hL : L ≤ 1536) (hi : i + 3 ≤ L) (K : LI E A Q D cA x k h s b1 b2 b3 b4 b5 g a1 a2 a3 o1 o2 o3 o4 o5 y p1 p2 p3 p4 b i 497) : LI E A Q D cA x k h s b1 b2 b3 b4 b5 g a1 a2 a3 o1 o2 o3 o4 o5 y p1 p2 p3 p4 b i 116 := by
  intro N hd tl TW LF AH en fs fc n m fi se wa nr wt is pt al fu fw so ta ex bs bc wu ww PA hG hS hT hE9 hw0
  have hG0 := hG
  obtain ⟨g1, g2, g3, g4, g5, g6⟩ := hG
  refine s_aload_n 1 C dL_law_116 rfl ?_
  refine s_aload_n 0 C dL_law_117 rfl ?_
  refine s_iload_n 3 C dL_law_118 rfl ?_
  refine s_iconst (nI 1) C dL_law_119 (by decide) ?_
  refine s_iaddN C dL_law_120 ?_
  refine s_sld C X hL dL_law_121 (by omega) ?_
  refine s_callI (n := 1) (wr := [(s, .inr (3, [.int (nI N), .ref b1, .ref b2, .ref b3, .ref b4, .ref b5, .int en, .int fs, .int fc])), (b1, .inl (cA, 14, .inl (aN hd))), (b2, .inl (cA, 14, .inl (aN tl))), (b3, .inl (cA, 14, .inl TW)), (b4, .inl (cA, 9, .inl LF)), (b5, .inl (cA, 9, .inl AH)), (h, .inr (1, [.ref o1, .ref o2, .ref o3, .ref o4, .ref o5, .int al, .int fu, .int fw])), (o1, .inl (cA, 512, .inl (aN od))), (o2, .inl (cA, 9, .inl (aN nr))), (o3, .inl (cA, 512, .inl (aN wt))), (o4, .inl (cA, 512, .inl (aN is))), (o5, .inl (cA, 512, .inl (aN pt))), (y, .inr (5, [.int (nI n), .int (nI m), .ref p1, .ref p2, .ref p3, .ref p4])), (p1, .inl (cA, 14, .inl (aN fi))), (p2, .inl (cA, 14, .inl (aN se))), (p3, .inl (cA, 9, .inl (aN wa))), (p4, .inl (cA, 9, .inl PA))]) [0, 1, 2, 3, 4, 17] [5, 6, 7, 8, 9, 10, 11, 12, 13, 14, 15, 16, 18, 19, 20, 21, 22] 0 [] C hA (kF_begin E.2.1 D cA x k h s b1 b2 b3 b4 b5 g a1 a2 a3 o1 o2 o3 o4 o5 n m fi se wa so ta ex bs bc wu ww (xs (i + 1))) gL_13 dL_law_122 (by decide +kernel) rfl rfl (by decide) (by decide) (by decide) rfl rfl rfl (by decide) (by decide) rfl rfl (Nat.le_of_ble_eq_true rfl) (Nat.le_of_ble_eq_true rfl) (Nat.le_of_ble_eq_true rfl) (fun r1 u hu => ?_)
  refine s_sub (ws' := [(x, .inr (4, [.ref g, .ref s, .ref h, .ref k])), (g, .inr (2, [.int (nI u.1.1), .int (nI u.1.2.1), .ref a1, .ref a2, .ref a3])), (a1, .inl (cA, 14, .inl (aN u.1.2.2.1))), (a2, .inl (cA, 14, .inl (aN u.1.2.2.2.1))), (a3, .inl (cA, 9, .inl (aN u.1.2.2.2.2))), (s, .inr (3, [.int (nI N), .ref b1, .ref b2, .ref b3, .ref b4, .ref b5, .int en, .int fs, .int fc])), (b1, .inl (cA, 14, .inl (aN hd))), (b2, .inl (cA, 14, .inl (aN tl))), (b3, .inl (cA, 14, .inl TW)), (b4, .inl (cA, 9, .inl LF)), (b5, .inl (cA, 9, .inl AH)), (h, .inr (1, [.ref o1, .ref o2, .ref o3, .ref o4, .ref o5, .int al, .int fu, .int fw])), (o1, .inl (cA, 512, .inl (aN od))), (o2, .inl (cA, 9, .inl (aN nr))), (o3, .inl (cA, 512, .inl (aN wt))), (o4, .inl (cA, 512, .inl (aN is))), (o5, .inl (cA, 512, .inl (aN pt))), (k, .inr (0, [.int u.2.1, .int u.2.2.1, .int u.2.2.2.1, .int u.2.2.2.2.1, .int u.2.2.2.2.2.1, .int u.2.2.2.2.2.2.1, .int u.2.2.2.2.2.2.2])), (y, .inr (5, [.int (nI n), .int (nI m), .ref p1, .ref p2, .ref p3, .ref p4])), (p1, .inl (cA, 14, .inl (aN fi))), (p2, .inl (cA, 14, .inl (aN se))), (p3, .inl (cA, 9, .inl (aN wa))), (p4, .inl (cA, 9, .inl PA))]) [17, 18, 19, 20, 21, 0, 1, 2, 3, 4, 5, 6, 7, 8, 9, 10, 11, 22, 12, 13, 14, 15, 16] rfl (by decide) ?_
  refine s_aload_n 2 C dL_law_125 rfl ?_
  refine s_aload_n 0 C dL_law_126 rfl ?_
  refine s_iload_n 3 C dL_law_127 rfl ?_
  refine s_iconst (nI 1) C dL_law_128 (by decide) ?_
  refine s_iaddN C dL_law_129 ?_
  refine s_sld C X hL dL_law_130 (by omega) ?_
  refine s_callI (n := 1) (wr := [(x, .inr (4, [.ref g, .ref s, .ref h, .ref k])), (g, .inr (2, [.int (nI u.1.1), .int (nI u.1.2.1), .ref a1, .ref a2, .ref a3])), (a1, .inl (cA, 14, .inl (aN u.1.2.2.1))), (a2, .inl (cA, 14, .inl (aN u.1.2.2.2.1))), (a3, .inl (cA, 9, .inl (aN u.1.2.2.2.2))), (s, .inr (3, [.int (nI N), .ref b1, .ref b2, .ref b3, .ref b4, .ref b5, .int en, .int fs, .int fc])), (b1, .inl (cA, 14, .inl (aN hd))), (b2, .inl (cA, 14, .inl (aN tl))), (b3, .inl (cA, 14, .inl TW)), (b4, .inl (cA, 9, .inl LF)), (b5, .inl (cA, 9, .inl AH)), (h, .inr (1, [.ref o1, .ref o2, .ref o3, .ref o4, .ref o5, .int al, .int fu, .int fw])), (o1, .inl (cA, 512, .inl (aN od))), (o2, .inl (cA, 9, .inl (aN nr))), (o3, .inl (cA, 512, .inl (aN wt))), (o4, .inl (cA, 512, .inl (aN is))), (o5, .inl (cA, 512, .inl (aN pt))), (k, .inr (0, [.int u.2.1, .int u.2.2.1, .int u.2.2.2.1, .int u.2.2.2.2.1, .int u.2.2.2.2.2.1, .int u.2.2.2.2.2.2.1, .int u.2.2.2.2.2.2.2])), (p4, .inl (cA, 9, .inl PA))]) [18, 19, 20, 21] [0, 1, 2, 3, 4, 5, 6, 7, 8, 9, 10, 11, 12, 13, 14, 15, 16, 17, 22] 0 [.int r1] C hA (kM_begin E.2.1 D cA y p1 p2 p3 p4 n m fi se wa (xs (i + 1))) gL_17 dL_law_131 (by decide +kernel) rfl rfl (by decide) (by decide) (by decide) rfl rfl rfl (by decide) (by decide) rfl rfl (Nat.le_of_ble_eq_true rfl) (Nat.le_of_ble_eq_true rfl) (Nat.le_of_ble_eq_true rfl) (fun r2 v hv => ?_)
  refine s_sub (ws' := [(x, .inr (4, [.ref g, .ref s, .ref h, .ref k])), (g, .inr (2, [.int (nI u.1.1), .int (nI u.1.2.1), .ref a1, .ref a2, .ref a3])), (a1, .inl (cA, 14, .inl (aN u.1.2.2.1))), (a2, .inl (cA, 14, .inl (aN u.1.2.2.2.1))), (a3, .inl (cA, 9, .inl (aN u.1.2.2.2.2))), (s, .inr (3, [.int (nI N), .ref b1, .ref b2, .ref b3, .ref b4, .ref b5, .int en, .int fs, .int fc])), (b1, .inl (cA, 14, .inl (aN hd))), (b2, .inl (cA, 14, .inl (aN tl))), (b3, .inl (cA, 14, .inl TW)), (b4, .inl (cA, 9, .inl LF)), (b5, .inl (cA, 9, .inl AH)), (h, .inr (1, [.ref o1, .ref o2, .ref o3, .ref o4, .ref o5, .int al, .int fu, .int fw])), (o1, .inl (cA, 512, .inl (aN od))), (o2, .inl (cA, 9, .inl (aN nr))), (o3, .inl (cA, 512, .inl (aN wt))), (o4, .inl (cA, 512, .inl (aN is))), (o5, .inl (cA, 512, .inl (aN pt))), (k, .inr (0, [.int u.2.1, .int u.2.2.1, .int u.2.2.2.1, .int u.2.2.2.2.1, .int u.2.2.2.2.2.1, .int u.2.2.2.2.2.2.1, .int u.2.2.2.2.2.2.2])), (y, .inr (5, [.int (nI v.1), .int (nI v.2.1), .ref p1, .ref p2, .ref p3, .ref p4])), (p1, .inl (cA, 14, .inl (aN v.2.2.1))), (p2, .inl (cA, 14, .inl (aN v.2.2.2.1))), (p3, .inl (cA, 9, .inl (aN v.2.2.2.2))), (p4, .inl (cA, 9, .inl PA))]) [0, 1, 2, 3, 4, 5, 6, 7, 8, 9, 10, 11, 12, 13, 14, 15, 16, 17, 19, 20, 21, 22, 18] rfl (by decide) ?_
  obtain ⟨q1, q2⟩ := begP_un (s := (n, m, fi, se, wa)) hu.1 hv
  obtain ⟨k1, k2, k3⟩ := kn_keep (s := (n, m, fi, se, wa)) hS hT hE9 hu.2
  have hG2 := begP_ok (s := (n, m, fi, se, wa)) hG0 hu.1
  subst q2
  refine s_icmp_eq 497 C dL_law_134 (by decide) (fun c1 => ?_) (fun c1 => ?_)
  · exact K N hd tl TW LF AH en fs fc  u.1.1 u.1.2.1 u.1.2.2.1 u.1.2.2.2.1 u.1.2.2.2.2 nr wt is pt al fu fw  u.2.1 u.2.2.1 u.2.2.2.1 u.2.2.2.2.1 u.2.2.2.2.2.1 u.2.2.2.2.2.2.1 u.2.2.2.2.2.2.2 PA hG2 k1 k2 k3 hw0
  · exact absurd q1 c1
set_option maxHeartbeats 4000000 in
set_option maxRecDepth 100000 in
/-- edge -/
theorem lc_edge {E : EnvT} {A : Nat → Prop} {Q : State → Prop} {D : va_G} {cA : ClassId} (x k h s b1 b2 b3 b4 b5 g a1 a2 a3 o1 o2 o3 o4 o5 : Nat) (y p1 p2 p3 p4 b : Nat) (L i : Nat) (xs : Nat → Int32) (C : Cx E code rL 4 D cA 2048 600000 7302250) (hA : ∀ q, (hpE E).size ≤ q → A q) (X : scr E A b L xs) (hL : L ≤ 1536) (hi : i + 3 ≤ L) (K : LI E A Q D cA x k h s b1 b2 b3 b4 b5 g a1 a2 a3 o1 o2 o3 o4 o5 y p1 p2 p3 p4 b i 497) : LI E A Q D cA x k h s b1 b2 b3 b4 b5 g a1 a2 a3 o1 o2 o3 o4 o5 y p1 p2 p3 p4 b i 139 := by
  intro N hd tl TW LF AH en fs fc n m fi se wa nr wt is pt al fu fw so ta ex bs bc wu ww PA hG hS hT hE9 hw0
  have hG0 := hG
  obtain ⟨g1, g2, g3, g4, g5, g6⟩ := hG
  refine s_aload_n 1 C dL_law_139 rfl ?_
  refine s_aload_n 0 C dL_law_140 rfl ?_
  refine s_iload_n 3 C dL_law_141 rfl ?_
  refine s_iconst (nI 1) C dL_law_142 (by decide) ?_
  refine s_iaddN C dL_law_143 ?_
  refine s_sld C X hL dL_law_144 (by omega) ?_
  refine s_aload_n 0 C dL_law_145 rfl ?_
  refine s_iload_n 3 C dL_law_146 rfl ?_
  refine s_iconst (nI 2) C dL_law_147 (by decide) ?_
  refine s_iaddN C dL_law_148 ?_
  refine s_sld C X hL dL_law_149 (by omega) ?_
  refine s_callI (n := 2) (wr := [(s, .inr (3, [.int (nI N), .ref b1, .ref b2, .ref b3, .ref b4, .ref b5, .int en, .int fs, .int fc])), (b1, .inl (cA, 14, .inl (aN hd))), (b2, .inl (cA, 14, .inl (aN tl))), (b3, .inl (cA, 14, .inl TW)), (b4, .inl (cA, 9, .inl LF)), (b5, .inl (cA, 9, .inl AH)), (h, .inr (1, [.ref o1, .ref o2, .ref o3, .ref o4, .ref o5, .int al, .int fu, .int fw])), (o1, .inl (cA, 512, .inl (aN od))), (o2, .inl (cA, 9, .inl (aN nr))), (o3, .inl (cA, 512, .inl (aN wt))), (o4, .inl (cA, 512, .inl (aN is))), (o5, .inl (cA, 512, .inl (aN pt))), (y, .inr (5, [.int (nI n), .int (nI m), .ref p1, .ref p2, .ref p3, .ref p4])), (p1, .inl (cA, 14, .inl (aN fi))), (p2, .inl (cA, 14, .inl (aN se))), (p3, .inl (cA, 9, .inl (aN wa))), (p4, .inl (cA, 9, .inl PA))]) [0, 1, 2, 3, 4, 17] [5, 6, 7, 8, 9, 10, 11, 12, 13, 14, 15, 16, 18, 19, 20, 21, 22] 0 [] C hA (kF_edge E.2.1 D cA x k h s b1 b2 b3 b4 b5 g a1 a2 a3 o1 o2 o3 o4 o5 n m fi se wa so ta ex bs bc wu ww hG0 (xs (i + 1)) (xs (i + 2))) gL_18 dL_law_150 (by decide +kernel) rfl rfl (by decide) (by decide) (by decide) rfl rfl rfl (by decide) (by decide) rfl rfl (Nat.le_of_ble_eq_true rfl) (Nat.le_of_ble_eq_true rfl) (Nat.le_of_ble_eq_true rfl) (fun r1 u hu => ?_)
  refine s_sub (ws' := [(x, .inr (4, [.ref g, .ref s, .ref h, .ref k])), (g, .inr (2, [.int (nI u.1.1), .int (nI u.1.2.1), .ref a1, .ref a2, .ref a3])), (a1, .inl (cA, 14, .inl (aN u.1.2.2.1))), (a2, .inl (cA, 14, .inl (aN u.1.2.2.2.1))), (a3, .inl (cA, 9, .inl (aN u.1.2.2.2.2))), (s, .inr (3, [.int (nI N), .ref b1, .ref b2, .ref b3, .ref b4, .ref b5, .int en, .int fs, .int fc])), (b1, .inl (cA, 14, .inl (aN hd))), (b2, .inl (cA, 14, .inl (aN tl))), (b3, .inl (cA, 14, .inl TW)), (b4, .inl (cA, 9, .inl LF)), (b5, .inl (cA, 9, .inl AH)), (h, .inr (1, [.ref o1, .ref o2, .ref o3, .ref o4, .ref o5, .int al, .int fu, .int fw])), (o1, .inl (cA, 512, .inl (aN od))), (o2, .inl (cA, 9, .inl (aN nr))), (o3, .inl (cA, 512, .inl (aN wt))), (o4, .inl (cA, 512, .inl (aN is))), (o5, .inl (cA, 512, .inl (aN pt))), (k, .inr (0, [.int u.2.1, .int u.2.2.1, .int u.2.2.2.1, .int u.2.2.2.2.1, .int u.2.2.2.2.2.1, .int u.2.2.2.2.2.2.1, .int u.2.2.2.2.2.2.2])), (y, .inr (5, [.int (nI n), .int (nI m), .ref p1, .ref p2, .ref p3, .ref p4])), (p1, .inl (cA, 14, .inl (aN fi))), (p2, .inl (cA, 14, .inl (aN se))), (p3, .inl (cA, 9, .inl (aN wa))), (p4, .inl (cA, 9, .inl PA))]) [17, 18, 19, 20, 21, 0, 1, 2, 3, 4, 5, 6, 7, 8, 9, 10, 11, 22, 12, 13, 14, 15, 16] rfl (by decide) ?_
  refine s_aload_n 2 C dL_law_153 rfl ?_
  refine s_aload_n 0 C dL_law_154 rfl ?_
  refine s_iload_n 3 C dL_law_155 rfl ?_
  refine s_iconst (nI 1) C dL_law_156 (by decide) ?_
  refine s_iaddN C dL_law_157 ?_
  refine s_sld C X hL dL_law_158 (by omega) ?_
  refine s_aload_n 0 C dL_law_159 rfl ?_
  refine s_iload_n 3 C dL_law_160 rfl ?_
  refine s_iconst (nI 2) C dL_law_161 (by decide) ?_
  refine s_iaddN C dL_law_162 ?_
  refine s_sld C X hL dL_law_163 (by omega) ?_
  refine s_callI (n := 2) (wr := [(x, .inr (4, [.ref g, .ref s, .ref h, .ref k])), (g, .inr (2, [.int (nI u.1.1), .int (nI u.1.2.1), .ref a1, .ref a2, .ref a3])), (a1, .inl (cA, 14, .inl (aN u.1.2.2.1))), (a2, .inl (cA, 14, .inl (aN u.1.2.2.2.1))), (a3, .inl (cA, 9, .inl (aN u.1.2.2.2.2))), (s, .inr (3, [.int (nI N), .ref b1, .ref b2, .ref b3, .ref b4, .ref b5, .int en, .int fs, .int fc])), (b1, .inl (cA, 14, .inl (aN hd))), (b2, .inl (cA, 14, .inl (aN tl))), (b3, .inl (cA, 14, .inl TW)), (b4, .inl (cA, 9, .inl LF)), (b5, .inl (cA, 9, .inl AH)), (h, .inr (1, [.ref o1, .ref o2, .ref o3, .ref o4, .ref o5, .int al, .int fu, .int fw])), (o1, .inl (cA, 512, .inl (aN od))), (o2, .inl (cA, 9, .inl (aN nr))), (o3, .inl (cA, 512, .inl (aN wt))), (o4, .inl (cA, 512, .inl (aN is))), (o5, .inl (cA, 512, .inl (aN pt))), (k, .inr (0, [.int u.2.1, .int u.2.2.1, .int u.2.2.2.1, .int u.2.2.2.2.1, .int u.2.2.2.2.2.1, .int u.2.2.2.2.2.2.1, .int u.2.2.2.2.2.2.2])), (p4, .inl (cA, 9, .inl PA))]) [18, 19, 20, 21] [0, 1, 2, 3, 4, 5, 6, 7, 8, 9, 10, 11, 12, 13, 14, 15, 16, 17, 22] 0 [.int r1] C hA (kM_edge E.2.1 D cA y p1 p2 p3 p4 n m fi se wa hG0 (xs (i + 1)) (xs (i + 2))) gL_22 dL_law_164 (by decide +kernel) rfl rfl (by decide) (by decide) (by decide) rfl rfl rfl (by decide) (by decide) rfl rfl (Nat.le_of_ble_eq_true rfl) (Nat.le_of_ble_eq_true rfl) (Nat.le_of_ble_eq_true rfl) (fun r2 v hv => ?_)
  refine s_sub (ws' := [(x, .inr (4, [.ref g, .ref s, .ref h, .ref k])), (g, .inr (2, [.int (nI u.1.1), .int (nI u.1.2.1), .ref a1, .ref a2, .ref a3])), (a1, .inl (cA, 14, .inl (aN u.1.2.2.1))), (a2, .inl (cA, 14, .inl (aN u.1.2.2.2.1))), (a3, .inl (cA, 9, .inl (aN u.1.2.2.2.2))), (s, .inr (3, [.int (nI N), .ref b1, .ref b2, .ref b3, .ref b4, .ref b5, .int en, .int fs, .int fc])), (b1, .inl (cA, 14, .inl (aN hd))), (b2, .inl (cA, 14, .inl (aN tl))), (b3, .inl (cA, 14, .inl TW)), (b4, .inl (cA, 9, .inl LF)), (b5, .inl (cA, 9, .inl AH)), (h, .inr (1, [.ref o1, .ref o2, .ref o3, .ref o4, .ref o5, .int al, .int fu, .int fw])), (o1, .inl (cA, 512, .inl (aN od))), (o2, .inl (cA, 9, .inl (aN nr))), (o3, .inl (cA, 512, .inl (aN wt))), (o4, .inl (cA, 512, .inl (aN is))), (o5, .inl (cA, 512, .inl (aN pt))), (k, .inr (0, [.int u.2.1, .int u.2.2.1, .int u.2.2.2.1, .int u.2.2.2.2.1, .int u.2.2.2.2.2.1, .int u.2.2.2.2.2.2.1, .int u.2.2.2.2.2.2.2])), (y, .inr (5, [.int (nI v.1), .int (nI v.2.1), .ref p1, .ref p2, .ref p3, .ref p4])), (p1, .inl (cA, 14, .inl (aN v.2.2.1))), (p2, .inl (cA, 14, .inl (aN v.2.2.2.1))), (p3, .inl (cA, 9, .inl (aN v.2.2.2.2))), (p4, .inl (cA, 9, .inl PA))]) [0, 1, 2, 3, 4, 5, 6, 7, 8, 9, 10, 11, 12, 13, 14, 15, 16, 17, 19, 20, 21, 22, 18] rfl (by decide) ?_
  obtain ⟨q1, q2⟩ := edgP_un (s := (n, m, fi, se, wa)) g2 hu.1 hv
  obtain ⟨k1, k2, k3⟩ := kn_keep (s := (n, m, fi, se, wa)) hS hT hE9 hu.2
  have hG2 := edgP_ok (s := (n, m, fi, se, wa)) hG0 hu.1
  subst q2
  refine s_icmp_eq 497 C dL_law_167 (by decide) (fun c1 => ?_) (fun c1 => ?_)
  · exact K N hd tl TW LF AH en fs fc  u.1.1 u.1.2.1 u.1.2.2.1 u.1.2.2.2.1 u.1.2.2.2.2 nr wt is pt al fu fw  u.2.1 u.2.2.1 u.2.2.2.1 u.2.2.2.2.1 u.2.2.2.2.2.1 u.2.2.2.2.2.2.1 u.2.2.2.2.2.2.2 PA hG2 k1 k2 k3 hw0
  · exact absurd q1 c1
set_option maxHeartbeats 4000000 in
set_option maxRecDepth 100000 in
/-- drop -/
theorem lc_drop {E : EnvT} {A : Nat → Prop} {Q : State → Prop} {D : va_G} {cA : ClassId} (x k h s b1 b2 b3 b4 b5 g a1 a2 a3 o1 o2 o3 o4 o5 : Nat) (y p1 p2 p3 p4 b : Nat) (L i : Nat) (xs : Nat → Int32) (C : Cx E code rL 4 D cA 2048 600000 7302250) (hA : ∀ q, (hpE E).size ≤ q → A q) (X : scr E A b L xs) (hL : L ≤ 1536) (hi : i + 3 ≤ L) (K : LI E A Q D cA x k h s b1 b2 b3 b4 b5 g a1 a2 a3 o1 o2 o3 o4 o5 y p1 p2 p3 p4 b i 497) : LI E A Q D cA x k h s b1 b2 b3 b4 b5 g a1 a2 a3 o1 o2 o3 o4 o5 y p1 p2 p3 p4 b i 172 := by
  intro N hd tl TW LF AH en fs fc n m fi se wa nr wt is pt al fu fw so ta ex bs bc wu ww PA hG hS hT hE9 hw0
  have hG0 := hG
  obtain ⟨g1, g2, g3, g4, g5, g6⟩ := hG
  refine s_aload_n 1 C dL_law_172 rfl ?_
  refine s_aload_n 0 C dL_law_173 rfl ?_
  refine s_iload_n 3 C dL_law_174 rfl ?_
  refine s_iconst (nI 1) C dL_law_175 (by decide) ?_
  refine s_iaddN C dL_law_176 ?_
  refine s_sld C X hL dL_law_177 (by omega) ?_
  refine s_callI (n := 1) (wr := [(s, .inr (3, [.int (nI N), .ref b1, .ref b2, .ref b3, .ref b4, .ref b5, .int en, .int fs, .int fc])), (b1, .inl (cA, 14, .inl (aN hd))), (b2, .inl (cA, 14, .inl (aN tl))), (b3, .inl (cA, 14, .inl TW)), (b4, .inl (cA, 9, .inl LF)), (b5, .inl (cA, 9, .inl AH)), (h, .inr (1, [.ref o1, .ref o2, .ref o3, .ref o4, .ref o5, .int al, .int fu, .int fw])), (o1, .inl (cA, 512, .inl (aN od))), (o2, .inl (cA, 9, .inl (aN nr))), (o3, .inl (cA, 512, .inl (aN wt))), (o4, .inl (cA, 512, .inl (aN is))), (o5, .inl (cA, 512, .inl (aN pt))), (y, .inr (5, [.int (nI n), .int (nI m), .ref p1, .ref p2, .ref p3, .ref p4])), (p1, .inl (cA, 14, .inl (aN fi))), (p2, .inl (cA, 14, .inl (aN se))), (p3, .inl (cA, 9, .inl (aN wa))), (p4, .inl (cA, 9, .inl PA))]) [0, 1, 2, 3, 4, 17] [5, 6, 7, 8, 9, 10, 11, 12, 13, 14, 15, 16, 18, 19, 20, 21, 22] 0 [] C hA (kF_drop E.2.1 D cA x k h s b1 b2 b3 b4 b5 g a1 a2 a3 o1 o2 o3 o4 o5 n m fi se wa so ta ex bs bc wu ww hG0 (xs (i + 1))) gL_23 dL_law_178 (by decide +kernel) rfl rfl (by decide) (by decide) (by decide) rfl rfl rfl (by decide) (by decide) rfl rfl (Nat.le_of_ble_eq_true rfl) (Nat.le_of_ble_eq_true rfl) (Nat.le_of_ble_eq_true rfl) (fun r1 u hu => ?_)
  refine s_sub (ws' := [(x, .inr (4, [.ref g, .ref s, .ref h, .ref k])), (g, .inr (2, [.int (nI u.1.1), .int (nI u.1.2.1), .ref a1, .ref a2, .ref a3])), (a1, .inl (cA, 14, .inl (aN u.1.2.2.1))), (a2, .inl (cA, 14, .inl (aN u.1.2.2.2.1))), (a3, .inl (cA, 9, .inl (aN u.1.2.2.2.2))), (s, .inr (3, [.int (nI N), .ref b1, .ref b2, .ref b3, .ref b4, .ref b5, .int en, .int fs, .int fc])), (b1, .inl (cA, 14, .inl (aN hd))), (b2, .inl (cA, 14, .inl (aN tl))), (b3, .inl (cA, 14, .inl TW)), (b4, .inl (cA, 9, .inl LF)), (b5, .inl (cA, 9, .inl AH)), (h, .inr (1, [.ref o1, .ref o2, .ref o3, .ref o4, .ref o5, .int al, .int fu, .int fw])), (o1, .inl (cA, 512, .inl (aN od))), (o2, .inl (cA, 9, .inl (aN nr))), (o3, .inl (cA, 512, .inl (aN wt))), (o4, .inl (cA, 512, .inl (aN is))), (o5, .inl (cA, 512, .inl (aN pt))), (k, .inr (0, [.int u.2.1, .int u.2.2.1, .int u.2.2.2.1, .int u.2.2.2.2.1, .int u.2.2.2.2.2.1, .int u.2.2.2.2.2.2.1, .int u.2.2.2.2.2.2.2])), (y, .inr (5, [.int (nI n), .int (nI m), .ref p1, .ref p2, .ref p3, .ref p4])), (p1, .inl (cA, 14, .inl (aN fi))), (p2, .inl (cA, 14, .inl (aN se))), (p3, .inl (cA, 9, .inl (aN wa))), (p4, .inl (cA, 9, .inl PA))]) [17, 18, 19, 20, 21, 0, 1, 2, 3, 4, 5, 6, 7, 8, 9, 10, 11, 22, 12, 13, 14, 15, 16] rfl (by decide) ?_
  refine s_aload_n 2 C dL_law_181 rfl ?_
  refine s_aload_n 0 C dL_law_182 rfl ?_
  refine s_iload_n 3 C dL_law_183 rfl ?_
  refine s_iconst (nI 1) C dL_law_184 (by decide) ?_
  refine s_iaddN C dL_law_185 ?_
  refine s_sld C X hL dL_law_186 (by omega) ?_
  refine s_callI (n := 1) (wr := [(x, .inr (4, [.ref g, .ref s, .ref h, .ref k])), (g, .inr (2, [.int (nI u.1.1), .int (nI u.1.2.1), .ref a1, .ref a2, .ref a3])), (a1, .inl (cA, 14, .inl (aN u.1.2.2.1))), (a2, .inl (cA, 14, .inl (aN u.1.2.2.2.1))), (a3, .inl (cA, 9, .inl (aN u.1.2.2.2.2))), (s, .inr (3, [.int (nI N), .ref b1, .ref b2, .ref b3, .ref b4, .ref b5, .int en, .int fs, .int fc])), (b1, .inl (cA, 14, .inl (aN hd))), (b2, .inl (cA, 14, .inl (aN tl))), (b3, .inl (cA, 14, .inl TW)), (b4, .inl (cA, 9, .inl LF)), (b5, .inl (cA, 9, .inl AH)), (h, .inr (1, [.ref o1, .ref o2, .ref o3, .ref o4, .ref o5, .int al, .int fu, .int fw])), (o1, .inl (cA, 512, .inl (aN od))), (o2, .inl (cA, 9, .inl (aN nr))), (o3, .inl (cA, 512, .inl (aN wt))), (o4, .inl (cA, 512, .inl (aN is))), (o5, .inl (cA, 512, .inl (aN pt))), (k, .inr (0, [.int u.2.1, .int u.2.2.1, .int u.2.2.2.1, .int u.2.2.2.2.1, .int u.2.2.2.2.2.1, .int u.2.2.2.2.2.2.1, .int u.2.2.2.2.2.2.2])), (p4, .inl (cA, 9, .inl PA))]) [18, 19, 20, 21] [0, 1, 2, 3, 4, 5, 6, 7, 8, 9, 10, 11, 12, 13, 14, 15, 16, 17, 22] 0 [.int r1] C hA (kM_drop E.2.1 D cA y p1 p2 p3 p4 n m fi se wa hG0 (xs (i + 1))) gL_26 dL_law_187 (by decide +kernel) rfl rfl (by decide) (by decide) (by decide) rfl rfl rfl (by decide) (by decide) rfl rfl (Nat.le_of_ble_eq_true rfl) (Nat.le_of_ble_eq_true rfl) (Nat.le_of_ble_eq_true rfl) (fun r2 v hv => ?_)
  refine s_sub (ws' := [(x, .inr (4, [.ref g, .ref s, .ref h, .ref k])), (g, .inr (2, [.int (nI u.1.1), .int (nI u.1.2.1), .ref a1, .ref a2, .ref a3])), (a1, .inl (cA, 14, .inl (aN u.1.2.2.1))), (a2, .inl (cA, 14, .inl (aN u.1.2.2.2.1))), (a3, .inl (cA, 9, .inl (aN u.1.2.2.2.2))), (s, .inr (3, [.int (nI N), .ref b1, .ref b2, .ref b3, .ref b4, .ref b5, .int en, .int fs, .int fc])), (b1, .inl (cA, 14, .inl (aN hd))), (b2, .inl (cA, 14, .inl (aN tl))), (b3, .inl (cA, 14, .inl TW)), (b4, .inl (cA, 9, .inl LF)), (b5, .inl (cA, 9, .inl AH)), (h, .inr (1, [.ref o1, .ref o2, .ref o3, .ref o4, .ref o5, .int al, .int fu, .int fw])), (o1, .inl (cA, 512, .inl (aN od))), (o2, .inl (cA, 9, .inl (aN nr))), (o3, .inl (cA, 512, .inl (aN wt))), (o4, .inl (cA, 512, .inl (aN is))), (o5, .inl (cA, 512, .inl (aN pt))), (k, .inr (0, [.int u.2.1, .int u.2.2.1, .int u.2.2.2.1, .int u.2.2.2.2.1, .int u.2.2.2.2.2.1, .int u.2.2.2.2.2.2.1, .int u.2.2.2.2.2.2.2])), (y, .inr (5, [.int (nI v.1), .int (nI v.2.1), .ref p1, .ref p2, .ref p3, .ref p4])), (p1, .inl (cA, 14, .inl (aN v.2.2.1))), (p2, .inl (cA, 14, .inl (aN v.2.2.2.1))), (p3, .inl (cA, 9, .inl (aN v.2.2.2.2))), (p4, .inl (cA, 9, .inl PA))]) [0, 1, 2, 3, 4, 5, 6, 7, 8, 9, 10, 11, 12, 13, 14, 15, 16, 17, 19, 20, 21, 22, 18] rfl (by decide) ?_
  obtain ⟨q1, q2⟩ := drpP_un (s := (n, m, fi, se, wa)) g3 hu.1 hv
  obtain ⟨k1, k2, k3⟩ := kn_keep (s := (n, m, fi, se, wa)) hS hT hE9 hu.2
  have hG2 := drpP_ok (s := (n, m, fi, se, wa)) hG0 hu.1
  subst q2
  refine s_icmp_eq 497 C dL_law_190 (by decide) (fun c1 => ?_) (fun c1 => ?_)
  · exact K N hd tl TW LF AH en fs fc  u.1.1 u.1.2.1 u.1.2.2.1 u.1.2.2.2.1 u.1.2.2.2.2 nr wt is pt al fu fw  u.2.1 u.2.2.1 u.2.2.2.1 u.2.2.2.2.1 u.2.2.2.2.2.1 u.2.2.2.2.2.2.1 u.2.2.2.2.2.2.2 PA hG2 k1 k2 k3 hw0
  · exact absurd q1 c1
set_option maxHeartbeats 4000000 in
set_option maxRecDepth 100000 in
/-- ask -/
theorem lc_ask {E : EnvT} {A : Nat → Prop} {Q : State → Prop} {D : va_G} {cA : ClassId} (x k h s b1 b2 b3 b4 b5 g a1 a2 a3 o1 o2 o3 o4 o5 : Nat) (y p1 p2 p3 p4 b : Nat) (L i : Nat) (xs : Nat → Int32) (C : Cx E code rL 4 D cA 2048 600000 7302250) (hA : ∀ q, (hpE E).size ≤ q → A q) (X : scr E A b L xs) (hL : L ≤ 1536) (hi : i + 3 ≤ L) (K : LI E A Q D cA x k h s b1 b2 b3 b4 b5 g a1 a2 a3 o1 o2 o3 o4 o5 y p1 p2 p3 p4 b i 497) : LI E A Q D cA x k h s b1 b2 b3 b4 b5 g a1 a2 a3 o1 o2 o3 o4 o5 y p1 p2 p3 p4 b i 195 := by
  intro N hd tl TW LF AH en fs fc n m fi se wa nr wt is pt al fu fw so ta ex bs bc wu ww PA hG hS hT hE9 hw0
  have hG0 := hG
  obtain ⟨g1, g2, g3, g4, g5, g6⟩ := hG
  refine s_aload_n 1 C dL_law_195 rfl ?_
  refine s_aload_n 0 C dL_law_196 rfl ?_
  refine s_iload_n 3 C dL_law_197 rfl ?_
  refine s_iconst (nI 1) C dL_law_198 (by decide) ?_
  refine s_iaddN C dL_law_199 ?_
  refine s_sld C X hL dL_law_200 (by omega) ?_
  refine s_aload_n 0 C dL_law_201 rfl ?_
  refine s_iload_n 3 C dL_law_202 rfl ?_
  refine s_iconst (nI 2) C dL_law_203 (by decide) ?_
  refine s_iaddN C dL_law_204 ?_
  refine s_sld C X hL dL_law_205 (by omega) ?_
  refine s_callI (n := 2) (wr := [(s, .inr (3, [.int (nI N), .ref b1, .ref b2, .ref b3, .ref b4, .ref b5, .int en, .int fs, .int fc])), (b1, .inl (cA, 14, .inl (aN hd))), (b2, .inl (cA, 14, .inl (aN tl))), (b3, .inl (cA, 14, .inl TW)), (b4, .inl (cA, 9, .inl LF)), (b5, .inl (cA, 9, .inl AH)), (h, .inr (1, [.ref o1, .ref o2, .ref o3, .ref o4, .ref o5, .int al, .int fu, .int fw])), (o1, .inl (cA, 512, .inl (aN od))), (o2, .inl (cA, 9, .inl (aN nr))), (o3, .inl (cA, 512, .inl (aN wt))), (o4, .inl (cA, 512, .inl (aN is))), (o5, .inl (cA, 512, .inl (aN pt))), (y, .inr (5, [.int (nI n), .int (nI m), .ref p1, .ref p2, .ref p3, .ref p4])), (p1, .inl (cA, 14, .inl (aN fi))), (p2, .inl (cA, 14, .inl (aN se))), (p3, .inl (cA, 9, .inl (aN wa))), (p4, .inl (cA, 9, .inl PA))]) [0, 1, 2, 3, 4, 17] [5, 6, 7, 8, 9, 10, 11, 12, 13, 14, 15, 16, 18, 19, 20, 21, 22] 0 [] C hA (kF_ask E.2.1 D cA x k h s b1 b2 b3 b4 b5 g a1 a2 a3 o1 o2 o3 o4 o5 n m fi se wa so ta ex bs bc wu ww hG0 (xs (i + 1)) (xs (i + 2))) gL_27 dL_law_206 (by decide +kernel) rfl rfl (by decide) (by decide) (by decide) rfl rfl rfl (by decide) (by decide) rfl rfl (Nat.le_of_ble_eq_true rfl) (Nat.le_of_ble_eq_true rfl) (Nat.le_of_ble_eq_true rfl) (fun r1 u hu => ?_)
  refine s_sub (ws' := [(x, .inr (4, [.ref g, .ref s, .ref h, .ref k])), (g, .inr (2, [.int (nI u.1.1), .int (nI u.1.2.1), .ref a1, .ref a2, .ref a3])), (a1, .inl (cA, 14, .inl (aN u.1.2.2.1))), (a2, .inl (cA, 14, .inl (aN u.1.2.2.2.1))), (a3, .inl (cA, 9, .inl (aN u.1.2.2.2.2))), (s, .inr (3, [.int (nI N), .ref b1, .ref b2, .ref b3, .ref b4, .ref b5, .int en, .int fs, .int fc])), (b1, .inl (cA, 14, .inl (aN hd))), (b2, .inl (cA, 14, .inl (aN tl))), (b3, .inl (cA, 14, .inl TW)), (b4, .inl (cA, 9, .inl LF)), (b5, .inl (cA, 9, .inl AH)), (h, .inr (1, [.ref o1, .ref o2, .ref o3, .ref o4, .ref o5, .int al, .int fu, .int fw])), (o1, .inl (cA, 512, .inl (aN od))), (o2, .inl (cA, 9, .inl (aN nr))), (o3, .inl (cA, 512, .inl (aN wt))), (o4, .inl (cA, 512, .inl (aN is))), (o5, .inl (cA, 512, .inl (aN pt))), (k, .inr (0, [.int u.2.1, .int u.2.2.1, .int u.2.2.2.1, .int u.2.2.2.2.1, .int u.2.2.2.2.2.1, .int u.2.2.2.2.2.2.1, .int u.2.2.2.2.2.2.2])), (y, .inr (5, [.int (nI n), .int (nI m), .ref p1, .ref p2, .ref p3, .ref p4])), (p1, .inl (cA, 14, .inl (aN fi))), (p2, .inl (cA, 14, .inl (aN se))), (p3, .inl (cA, 9, .inl (aN wa))), (p4, .inl (cA, 9, .inl PA))]) [17, 18, 19, 20, 21, 0, 1, 2, 3, 4, 5, 6, 7, 8, 9, 10, 11, 22, 12, 13, 14, 15, 16] rfl (by decide) ?_
  refine s_aload_n 2 C dL_law_209 rfl ?_
  refine s_aload_n 0 C dL_law_210 rfl ?_
  refine s_iload_n 3 C dL_law_211 rfl ?_
  refine s_iconst (nI 1) C dL_law_212 (by decide) ?_
  refine s_iaddN C dL_law_213 ?_
  refine s_sld C X hL dL_law_214 (by omega) ?_
  refine s_aload_n 0 C dL_law_215 rfl ?_
  refine s_iload_n 3 C dL_law_216 rfl ?_
  refine s_iconst (nI 2) C dL_law_217 (by decide) ?_
  refine s_iaddN C dL_law_218 ?_
  refine s_sld C X hL dL_law_219 (by omega) ?_
  refine s_callI (n := 2) (wr := [(x, .inr (4, [.ref g, .ref s, .ref h, .ref k])), (g, .inr (2, [.int (nI u.1.1), .int (nI u.1.2.1), .ref a1, .ref a2, .ref a3])), (a1, .inl (cA, 14, .inl (aN u.1.2.2.1))), (a2, .inl (cA, 14, .inl (aN u.1.2.2.2.1))), (a3, .inl (cA, 9, .inl (aN u.1.2.2.2.2))), (s, .inr (3, [.int (nI N), .ref b1, .ref b2, .ref b3, .ref b4, .ref b5, .int en, .int fs, .int fc])), (b1, .inl (cA, 14, .inl (aN hd))), (b2, .inl (cA, 14, .inl (aN tl))), (b3, .inl (cA, 14, .inl TW)), (b4, .inl (cA, 9, .inl LF)), (b5, .inl (cA, 9, .inl AH)), (h, .inr (1, [.ref o1, .ref o2, .ref o3, .ref o4, .ref o5, .int al, .int fu, .int fw])), (o1, .inl (cA, 512, .inl (aN od))), (o2, .inl (cA, 9, .inl (aN nr))), (o3, .inl (cA, 512, .inl (aN wt))), (o4, .inl (cA, 512, .inl (aN is))), (o5, .inl (cA, 512, .inl (aN pt))), (k, .inr (0, [.int u.2.1, .int u.2.2.1, .int u.2.2.2.1, .int u.2.2.2.2.1, .int u.2.2.2.2.2.1, .int u.2.2.2.2.2.2.1, .int u.2.2.2.2.2.2.2])), (p4, .inl (cA, 9, .inl PA))]) [18, 19, 20, 21] [0, 1, 2, 3, 4, 5, 6, 7, 8, 9, 10, 11, 12, 13, 14, 15, 16, 17, 22] 0 [.int r1] C hA (kM_ask E.2.1 D cA y p1 p2 p3 p4 n m fi se wa hG0 (xs (i + 1)) (xs (i + 2))) gL_31 dL_law_220 (by decide +kernel) rfl rfl (by decide) (by decide) (by decide) rfl rfl rfl (by decide) (by decide) rfl rfl (Nat.le_of_ble_eq_true rfl) (Nat.le_of_ble_eq_true rfl) (Nat.le_of_ble_eq_true rfl) (fun r2 v hv => ?_)
  refine s_sub (ws' := [(x, .inr (4, [.ref g, .ref s, .ref h, .ref k])), (g, .inr (2, [.int (nI u.1.1), .int (nI u.1.2.1), .ref a1, .ref a2, .ref a3])), (a1, .inl (cA, 14, .inl (aN u.1.2.2.1))), (a2, .inl (cA, 14, .inl (aN u.1.2.2.2.1))), (a3, .inl (cA, 9, .inl (aN u.1.2.2.2.2))), (s, .inr (3, [.int (nI N), .ref b1, .ref b2, .ref b3, .ref b4, .ref b5, .int en, .int fs, .int fc])), (b1, .inl (cA, 14, .inl (aN hd))), (b2, .inl (cA, 14, .inl (aN tl))), (b3, .inl (cA, 14, .inl TW)), (b4, .inl (cA, 9, .inl LF)), (b5, .inl (cA, 9, .inl AH)), (h, .inr (1, [.ref o1, .ref o2, .ref o3, .ref o4, .ref o5, .int al, .int fu, .int fw])), (o1, .inl (cA, 512, .inl (aN od))), (o2, .inl (cA, 9, .inl (aN nr))), (o3, .inl (cA, 512, .inl (aN wt))), (o4, .inl (cA, 512, .inl (aN is))), (o5, .inl (cA, 512, .inl (aN pt))), (k, .inr (0, [.int u.2.1, .int u.2.2.1, .int u.2.2.2.1, .int u.2.2.2.2.1, .int u.2.2.2.2.2.1, .int u.2.2.2.2.2.2.1, .int u.2.2.2.2.2.2.2])), (y, .inr (5, [.int (nI v.1), .int (nI v.2.1), .ref p1, .ref p2, .ref p3, .ref p4])), (p1, .inl (cA, 14, .inl (aN v.2.2.1))), (p2, .inl (cA, 14, .inl (aN v.2.2.2.1))), (p3, .inl (cA, 9, .inl (aN v.2.2.2.2))), (p4, .inl (cA, 9, .inl PA))]) [0, 1, 2, 3, 4, 5, 6, 7, 8, 9, 10, 11, 12, 13, 14, 15, 16, 17, 19, 20, 21, 22, 18] rfl (by decide) ?_
  obtain ⟨q1, q2⟩ := askP_un (s := (n, m, fi, se, wa)) g2 hu.1 hv
  obtain ⟨k1, k2, k3⟩ := kn_keep (s := (n, m, fi, se, wa)) hS hT hE9 hu.2
  have hG2 := askP_ok (s := (n, m, fi, se, wa)) hG0 hu.1
  subst q2
  refine s_icmp_eq 497 C dL_law_223 (by decide) (fun c1 => ?_) (fun c1 => ?_)
  · exact K N hd tl TW LF AH en fs fc  u.1.1 u.1.2.1 u.1.2.2.1 u.1.2.2.2.1 u.1.2.2.2.2 nr wt is pt al fu fw  u.2.1 u.2.2.1 u.2.2.2.1 u.2.2.2.2.1 u.2.2.2.2.2.1 u.2.2.2.2.2.2.1 u.2.2.2.2.2.2.2 PA hG2 k1 k2 k3 hw0
  · exact absurd q1 c1
set_option maxHeartbeats 4000000 in
set_option maxRecDepth 100000 in
/-- vertices -/
theorem lc_vertices {E : EnvT} {A : Nat → Prop} {Q : State → Prop} {D : va_G} {cA : ClassId} (x k h s b1 b2 b3 b4 b5 g a1 a2 a3 o1 o2 o3 o4 o5 : Nat) (y p1 p2 p3 p4 b : Nat) (L i : Nat) (xs : Nat → Int32) (C : Cx E code rL 4 D cA 2048 600000 7302250) (hA : ∀ q, (hpE E).size ≤ q → A q) (X : scr E A b L xs) (hL : L ≤ 1536) (hi : i + 3 ≤ L) (K : LI E A Q D cA x k h s b1 b2 b3 b4 b5 g a1 a2 a3 o1 o2 o3 o4 o5 y p1 p2 p3 p4 b i 497) : LI E A Q D cA x k h s b1 b2 b3 b4 b5 g a1 a2 a3 o1 o2 o3 o4 o5 y p1 p2 p3 p4 b i 228 := by
  intro N hd tl TW LF AH en fs fc n m fi se wa nr wt is pt al fu fw so ta ex bs bc wu ww PA hG hS hT hE9 hw0
  have hG0 := hG
  obtain ⟨g1, g2, g3, g4, g5, g6⟩ := hG
  refine s_aload_n 1 C dL_law_228 rfl ?_
  refine s_callP (n := 0) [0, 1] 0 [] C wfP (kF_vertices E.2.1 D cA x k h s b1 b2 b3 b4 b5 g a1 a2 a3 o1 o2 o3 o4 o5 n m fi se wa hG0 ) gL_32 dL_law_229 (by decide +kernel) rfl rfl rfl rfl (by decide) (by decide) rfl rfl (Nat.le_of_ble_eq_true rfl) (Nat.le_of_ble_eq_true rfl) (Nat.le_of_ble_eq_true rfl) (fun r1 hu => ?_)
  refine s_aload_n 2 C dL_law_232 rfl ?_
  refine s_callP (n := 0) [18] 0 [.int r1] C wfP (kM_vertices E.2.1 D cA y p1 p2 p3 p4 n m fi se wa hG0 ) gL_36 dL_law_233 (by decide +kernel) rfl rfl rfl rfl (by decide) (by decide) rfl rfl (Nat.le_of_ble_eq_true rfl) (Nat.le_of_ble_eq_true rfl) (Nat.le_of_ble_eq_true rfl) (fun r2 hv => ?_)
  refine s_icmp_eq 497 C dL_law_236 (by decide) (fun c1 => ?_) (fun c1 => ?_)
  · exact K N hd tl TW LF AH en fs fc n m fi se wa nr wt is pt al fu fw so ta ex bs bc wu ww PA hG0 hS hT hE9 hw0
  · exact absurd (hu.trans hv.symm) c1
set_option maxHeartbeats 4000000 in
set_option maxRecDepth 100000 in
/-- edges -/
theorem lc_edges {E : EnvT} {A : Nat → Prop} {Q : State → Prop} {D : va_G} {cA : ClassId} (x k h s b1 b2 b3 b4 b5 g a1 a2 a3 o1 o2 o3 o4 o5 : Nat) (y p1 p2 p3 p4 b : Nat) (L i : Nat) (xs : Nat → Int32) (C : Cx E code rL 4 D cA 2048 600000 7302250) (hA : ∀ q, (hpE E).size ≤ q → A q) (X : scr E A b L xs) (hL : L ≤ 1536) (hi : i + 3 ≤ L) (K : LI E A Q D cA x k h s b1 b2 b3 b4 b5 g a1 a2 a3 o1 o2 o3 o4 o5 y p1 p2 p3 p4 b i 497) : LI E A Q D cA x k h s b1 b2 b3 b4 b5 g a1 a2 a3 o1 o2 o3 o4 o5 y p1 p2 p3 p4 b i 241 := by
  intro N hd tl TW LF AH en fs fc n m fi se wa nr wt is pt al fu fw so ta ex bs bc wu ww PA hG hS hT hE9 hw0
  have hG0 := hG
  obtain ⟨g1, g2, g3, g4, g5, g6⟩ := hG
  refine s_aload_n 1 C dL_law_241 rfl ?_
  refine s_callP (n := 0) [0, 1] 0 [] C wfP (kF_edges E.2.1 D cA x k h s b1 b2 b3 b4 b5 g a1 a2 a3 o1 o2 o3 o4 o5 n m fi se wa hG0 ) gL_37 dL_law_242 (by decide +kernel) rfl rfl rfl rfl (by decide) (by decide) rfl rfl (Nat.le_of_ble_eq_true rfl) (Nat.le_of_ble_eq_true rfl) (Nat.le_of_ble_eq_true rfl) (fun r1 hu => ?_)
  refine s_aload_n 2 C dL_law_245 rfl ?_
  refine s_callP (n := 0) [18] 0 [.int r1] C wfP (kM_edges E.2.1 D cA y p1 p2 p3 p4 n m fi se wa hG0 ) gL_40 dL_law_246 (by decide +kernel) rfl rfl rfl rfl (by decide) (by decide) rfl rfl (Nat.le_of_ble_eq_true rfl) (Nat.le_of_ble_eq_true rfl) (Nat.le_of_ble_eq_true rfl) (fun r2 hv => ?_)
  refine s_icmp_eq 497 C dL_law_249 (by decide) (fun c1 => ?_) (fun c1 => ?_)
  · exact K N hd tl TW LF AH en fs fc n m fi se wa nr wt is pt al fu fw so ta ex bs bc wu ww PA hG0 hS hT hE9 hw0
  · exact absurd (hu.trans hv.symm) c1
set_option maxHeartbeats 4000000 in
set_option maxRecDepth 100000 in
/-- end -/
theorem lc_end {E : EnvT} {A : Nat → Prop} {Q : State → Prop} {D : va_G} {cA : ClassId} (x k h s b1 b2 b3 b4 b5 g a1 a2 a3 o1 o2 o3 o4 o5 : Nat) (y p1 p2 p3 p4 b : Nat) (L i : Nat) (xs : Nat → Int32) (C : Cx E code rL 4 D cA 2048 600000 7302250) (hA : ∀ q, (hpE E).size ≤ q → A q) (X : scr E A b L xs) (hL : L ≤ 1536) (hi : i + 3 ≤ L) (K : LI E A Q D cA x k h s b1 b2 b3 b4 b5 g a1 a2 a3 o1 o2 o3 o4 o5 y p1 p2 p3 p4 b i 497) : LI E A Q D cA x k h s b1 b2 b3 b4 b5 g a1 a2 a3 o1 o2 o3 o4 o5 y p1 p2 p3 p4 b i 254 := by
  intro N hd tl TW LF AH en fs fc n m fi se wa nr wt is pt al fu fw so ta ex bs bc wu ww PA hG hS hT hE9 hw0
  have hG0 := hG
  obtain ⟨g1, g2, g3, g4, g5, g6⟩ := hG
  refine s_aload_n 1 C dL_law_254 rfl ?_
  refine s_aload_n 0 C dL_law_255 rfl ?_
  refine s_iload_n 3 C dL_law_256 rfl ?_
  refine s_iconst (nI 1) C dL_law_257 (by decide) ?_
  refine s_iaddN C dL_law_258 ?_
  refine s_sld C X hL dL_law_259 (by omega) ?_
  refine s_aload_n 0 C dL_law_260 rfl ?_
  refine s_iload_n 3 C dL_law_261 rfl ?_
  refine s_iconst (nI 2) C dL_law_262 (by decide) ?_
  refine s_iaddN C dL_law_263 ?_
  refine s_sld C X hL dL_law_264 (by omega) ?_
  refine s_callP (n := 2) [0, 1, 2, 3] 0 [] C wfP (kF_end E.2.1 D cA x k h s b1 b2 b3 b4 b5 g a1 a2 a3 o1 o2 o3 o4 o5 n m fi se wa hG0 (xs (i + 1)) (xs (i + 2))) gL_41 dL_law_265 (by decide +kernel) rfl rfl rfl rfl (by decide) (by decide) rfl rfl (Nat.le_of_ble_eq_true rfl) (Nat.le_of_ble_eq_true rfl) (Nat.le_of_ble_eq_true rfl) (fun r1 hu => ?_)
  refine s_aload_n 2 C dL_law_268 rfl ?_
  refine s_aload_n 0 C dL_law_269 rfl ?_
  refine s_iload_n 3 C dL_law_270 rfl ?_
  refine s_iconst (nI 1) C dL_law_271 (by decide) ?_
  refine s_iaddN C dL_law_272 ?_
  refine s_sld C X hL dL_law_273 (by omega) ?_
  refine s_aload_n 0 C dL_law_274 rfl ?_
  refine s_iload_n 3 C dL_law_275 rfl ?_
  refine s_iconst (nI 2) C dL_law_276 (by decide) ?_
  refine s_iaddN C dL_law_277 ?_
  refine s_sld C X hL dL_law_278 (by omega) ?_
  refine s_callP (n := 2) [18, 19, 20] 0 [.int r1] C wfP (kM_end E.2.1 D cA y p1 p2 p3 p4 n m fi se wa hG0 (xs (i + 1)) (xs (i + 2))) gL_44 dL_law_279 (by decide +kernel) rfl rfl rfl rfl (by decide) (by decide) rfl rfl (Nat.le_of_ble_eq_true rfl) (Nat.le_of_ble_eq_true rfl) (Nat.le_of_ble_eq_true rfl) (fun r2 hv => ?_)
  refine s_icmp_eq 497 C dL_law_282 (by decide) (fun c1 => ?_) (fun c1 => ?_)
  · exact K N hd tl TW LF AH en fs fc n m fi se wa nr wt is pt al fu fw so ta ex bs bc wu ww PA hG0 hS hT hE9 hw0
  · exact absurd (endP_un g3 hu hv) c1
set_option maxHeartbeats 4000000 in
set_option maxRecDepth 100000 in
/-- demand -/
theorem lc_demand {E : EnvT} {A : Nat → Prop} {Q : State → Prop} {D : va_G} {cA : ClassId} (x k h s b1 b2 b3 b4 b5 g a1 a2 a3 o1 o2 o3 o4 o5 : Nat) (y p1 p2 p3 p4 b : Nat) (L i : Nat) (xs : Nat → Int32) (C : Cx E code rL 4 D cA 2048 600000 7302250) (hA : ∀ q, (hpE E).size ≤ q → A q) (X : scr E A b L xs) (hL : L ≤ 1536) (hi : i + 3 ≤ L) (K : LI E A Q D cA x k h s b1 b2 b3 b4 b5 g a1 a2 a3 o1 o2 o3 o4 o5 y p1 p2 p3 p4 b i 497) : LI E A Q D cA x k h s b1 b2 b3 b4 b5 g a1 a2 a3 o1 o2 o3 o4 o5 y p1 p2 p3 p4 b i 287 := by
  intro N hd tl TW LF AH en fs fc n m fi se wa nr wt is pt al fu fw so ta ex bs bc wu ww PA hG hS hT hE9 hw0
  have hG0 := hG
  obtain ⟨g1, g2, g3, g4, g5, g6⟩ := hG
  refine s_aload_n 1 C dL_law_287 rfl ?_
  refine s_aload_n 0 C dL_law_288 rfl ?_
  refine s_iload_n 3 C dL_law_289 rfl ?_
  refine s_iconst (nI 1) C dL_law_290 (by decide) ?_
  refine s_iaddN C dL_law_291 ?_
  refine s_sld C X hL dL_law_292 (by omega) ?_
  refine s_callP (n := 1) [0, 1, 4] 0 [] C wfP (kF_demand E.2.1 D cA x k h s b1 b2 b3 b4 b5 g a1 a2 a3 o1 o2 o3 o4 o5 n m fi se wa hG0 (xs (i + 1))) gL_45 dL_law_293 (by decide +kernel) rfl rfl rfl rfl (by decide) (by decide) rfl rfl (Nat.le_of_ble_eq_true rfl) (Nat.le_of_ble_eq_true rfl) (Nat.le_of_ble_eq_true rfl) (fun r1 hu => ?_)
  refine s_aload_n 2 C dL_law_296 rfl ?_
  refine s_aload_n 0 C dL_law_297 rfl ?_
  refine s_iload_n 3 C dL_law_298 rfl ?_
  refine s_iconst (nI 1) C dL_law_299 (by decide) ?_
  refine s_iaddN C dL_law_300 ?_
  refine s_sld C X hL dL_law_301 (by omega) ?_
  refine s_callP (n := 1) [18, 21] 0 [.int r1] C wfP (kM_demand E.2.1 D cA y p1 p2 p3 p4 n m fi se wa hG0 (xs (i + 1))) gL_49 dL_law_302 (by decide +kernel) rfl rfl rfl rfl (by decide) (by decide) rfl rfl (Nat.le_of_ble_eq_true rfl) (Nat.le_of_ble_eq_true rfl) (Nat.le_of_ble_eq_true rfl) (fun r2 hv => ?_)
  refine s_icmp_eq 497 C dL_law_305 (by decide) (fun c1 => ?_) (fun c1 => ?_)
  · exact K N hd tl TW LF AH en fs fc n m fi se wa nr wt is pt al fu fw so ta ex bs bc wu ww PA hG0 hS hT hE9 hw0
  · exact absurd (demP_un g2 hu hv) c1
set_option maxHeartbeats 4000000 in
set_option maxRecDepth 100000 in
/-- judge -/
theorem lc_judge {E : EnvT} {A : Nat → Prop} {Q : State → Prop} {D : va_G} {cA : ClassId} (x k h s b1 b2 b3 b4 b5 g a1 a2 a3 o1 o2 o3 o4 o5 : Nat) (y p1 p2 p3 p4 b : Nat) (L i : Nat) (xs : Nat → Int32) (C : Cx E code rL 4 D cA 2048 600000 7302250) (hA : ∀ q, (hpE E).size ≤ q → A q) (X : scr E A b L xs) (hL : L ≤ 1536) (hi : i + 3 ≤ L) (K : LI E A Q D cA x k h s b1 b2 b3 b4 b5 g a1 a2 a3 o1 o2 o3 o4 o5 y p1 p2 p3 p4 b i 497) : LI E A Q D cA x k h s b1 b2 b3 b4 b5 g a1 a2 a3 o1 o2 o3 o4 o5 y p1 p2 p3 p4 b i 310 := by
  intro N hd tl TW LF AH en fs fc n m fi se wa nr wt is pt al fu fw so ta ex bs bc wu ww PA hG hS hT hE9 hw0
  have hG0 := hG
  obtain ⟨g1, g2, g3, g4, g5, g6⟩ := hG
  refine s_aload_n 1 C dL_law_310 rfl ?_
  refine s_aload_n 0 C dL_law_311 rfl ?_
  refine s_iload_n 3 C dL_law_312 rfl ?_
  refine s_iconst (nI 1) C dL_law_313 (by decide) ?_
  refine s_iaddN C dL_law_314 ?_
  refine s_sld C X hL dL_law_315 (by omega) ?_
  refine s_callP (n := 1) [0, 1, 2, 3, 4] 0 [] C wfP (kF_judge E.2.1 D cA x k h s b1 b2 b3 b4 b5 g a1 a2 a3 o1 o2 o3 o4 o5 n m fi se wa hG0 (xs (i + 1))) gL_50 dL_law_316 (by decide +kernel) rfl rfl rfl rfl (by decide) (by decide) rfl rfl (Nat.le_of_ble_eq_true rfl) (Nat.le_of_ble_eq_true rfl) (Nat.le_of_ble_eq_true rfl) (fun r1 hu => ?_)
  refine s_aload_n 2 C dL_law_319 rfl ?_
  refine s_aload_n 0 C dL_law_320 rfl ?_
  refine s_iload_n 3 C dL_law_321 rfl ?_
  refine s_iconst (nI 1) C dL_law_322 (by decide) ?_
  refine s_iaddN C dL_law_323 ?_
  refine s_sld C X hL dL_law_324 (by omega) ?_
  refine s_callP (n := 1) [18, 19, 20, 21] 0 [.int r1] C wfP (kM_judge E.2.1 D cA y p1 p2 p3 p4 n m fi se wa hG0 (xs (i + 1))) gL_53 dL_law_325 (by decide +kernel) rfl rfl rfl rfl (by decide) (by decide) rfl rfl (Nat.le_of_ble_eq_true rfl) (Nat.le_of_ble_eq_true rfl) (Nat.le_of_ble_eq_true rfl) (fun r2 hv => ?_)
  refine s_icmp_eq 497 C dL_law_328 (by decide) (fun c1 => ?_) (fun c1 => ?_)
  · exact K N hd tl TW LF AH en fs fc n m fi se wa nr wt is pt al fu fw so ta ex bs bc wu ww PA hG0 hS hT hE9 hw0
  · exact absurd (judP_un g3 hu hv) c1
set_option maxHeartbeats 4000000 in
set_option maxRecDepth 100000 in
/-- most -/
theorem lc_most {E : EnvT} {A : Nat → Prop} {Q : State → Prop} {D : va_G} {cA : ClassId} (x k h s b1 b2 b3 b4 b5 g a1 a2 a3 o1 o2 o3 o4 o5 : Nat) (y p1 p2 p3 p4 b : Nat) (L i : Nat) (xs : Nat → Int32) (C : Cx E code rL 4 D cA 2048 600000 7302250) (hA : ∀ q, (hpE E).size ≤ q → A q) (X : scr E A b L xs) (hL : L ≤ 1536) (hi : i + 3 ≤ L) (K : LI E A Q D cA x k h s b1 b2 b3 b4 b5 g a1 a2 a3 o1 o2 o3 o4 o5 y p1 p2 p3 p4 b i 497) : LI E A Q D cA x k h s b1 b2 b3 b4 b5 g a1 a2 a3 o1 o2 o3 o4 o5 y p1 p2 p3 p4 b i 333 := by
  intro N hd tl TW LF AH en fs fc n m fi se wa nr wt is pt al fu fw so ta ex bs bc wu ww PA hG hS hT hE9 hw0
  have hG0 := hG
  obtain ⟨g1, g2, g3, g4, g5, g6⟩ := hG
  refine s_aload_n 1 C dL_law_333 rfl ?_
  refine s_callI (n := 0) (wr := [(h, .inr (1, [.ref o1, .ref o2, .ref o3, .ref o4, .ref o5, .int al, .int fu, .int fw])), (o1, .inl (cA, 512, .inl (aN od))), (o2, .inl (cA, 9, .inl (aN nr))), (o3, .inl (cA, 512, .inl (aN wt))), (o4, .inl (cA, 512, .inl (aN is))), (o5, .inl (cA, 512, .inl (aN pt))), (y, .inr (5, [.int (nI n), .int (nI m), .ref p1, .ref p2, .ref p3, .ref p4])), (p1, .inl (cA, 14, .inl (aN fi))), (p2, .inl (cA, 14, .inl (aN se))), (p3, .inl (cA, 9, .inl (aN wa))), (p4, .inl (cA, 9, .inl PA))]) [0, 5, 6, 7, 8, 9, 10, 1, 2, 3, 4, 17] [11, 12, 13, 14, 15, 16, 18, 19, 20, 21, 22] 0 [] C hA (kF_most E.2.1 D cA x k h s b1 b2 b3 b4 b5 g a1 a2 a3 o1 o2 o3 o4 o5 N hd tl TW LF AH en fs fc n m fi se wa so ta ex bs bc wu ww hG0 hS ) gL_54 dL_law_334 (by decide +kernel) rfl rfl (by decide) (by decide) (by decide) rfl rfl rfl (by decide) (by decide) rfl rfl (Nat.le_of_ble_eq_true rfl) (Nat.le_of_ble_eq_true rfl) (Nat.le_of_ble_eq_true rfl) (fun r1 u hu => ?_)
  refine s_sub (ws' := [(x, .inr (4, [.ref g, .ref s, .ref h, .ref k])), (g, .inr (2, [.int (nI n), .int (nI m), .ref a1, .ref a2, .ref a3])), (a1, .inl (cA, 14, .inl (aN fi))), (a2, .inl (cA, 14, .inl (aN se))), (a3, .inl (cA, 9, .inl (aN wa))), (s, .inr (3, [.int (nI u.1.1), .ref b1, .ref b2, .ref b3, .ref b4, .ref b5, .int u.1.2.2.2.2.2.2.1, .int u.1.2.2.2.2.2.2.2.1, .int u.1.2.2.2.2.2.2.2.2])), (b1, .inl (cA, 14, .inl (aN u.1.2.1))), (b2, .inl (cA, 14, .inl (aN u.1.2.2.1))), (b3, .inl (cA, 14, .inl u.1.2.2.2.1)), (b4, .inl (cA, 9, .inl u.1.2.2.2.2.1)), (b5, .inl (cA, 9, .inl u.1.2.2.2.2.2.1)), (h, .inr (1, [.ref o1, .ref o2, .ref o3, .ref o4, .ref o5, .int al, .int fu, .int fw])), (o1, .inl (cA, 512, .inl (aN od))), (o2, .inl (cA, 9, .inl (aN nr))), (o3, .inl (cA, 512, .inl (aN wt))), (o4, .inl (cA, 512, .inl (aN is))), (o5, .inl (cA, 512, .inl (aN pt))), (k, .inr (0, [.int u.2.1, .int ta, .int ex, .int u.2.2.1, .int u.2.2.2, .int wu, .int ww])), (y, .inr (5, [.int (nI n), .int (nI m), .ref p1, .ref p2, .ref p3, .ref p4])), (p1, .inl (cA, 14, .inl (aN fi))), (p2, .inl (cA, 14, .inl (aN se))), (p3, .inl (cA, 9, .inl (aN wa))), (p4, .inl (cA, 9, .inl PA))]) [11, 18, 19, 20, 21, 12, 13, 14, 15, 16, 17, 0, 1, 2, 3, 4, 5, 22, 6, 7, 8, 9, 10] rfl (by decide) ?_
  refine s_aload_n 2 C dL_law_337 rfl ?_
  refine s_callP (n := 0) [18, 19, 20, 21] 0 [.int r1] C wfP (kM_most E.2.1 D cA y p1 p2 p3 p4 n m fi se wa g1 g2 g3 g4 (fun v hv9 => Nat.le_trans (g5 v hv9) (by decide)) ) gL_57 dL_law_338 (by decide +kernel) rfl rfl rfl rfl (by decide) (by decide) rfl rfl (Nat.le_of_ble_eq_true rfl) (Nat.le_of_ble_eq_true rfl) (Nat.le_of_ble_eq_true rfl) (fun r2 hv => ?_)
  refine s_icmp_eq 497 C dL_law_341 (by decide) (fun c1 => ?_) (fun c1 => ?_)
  · exact K u.1.1 u.1.2.1 u.1.2.2.1 u.1.2.2.2.1 u.1.2.2.2.2.1 u.1.2.2.2.2.2.1 u.1.2.2.2.2.2.2.1 u.1.2.2.2.2.2.2.2.1 u.1.2.2.2.2.2.2.2.2 n m fi se wa nr wt is pt al fu fw u.2.1 ta ex u.2.2.1 u.2.2.2 wu ww PA hG0 hu.1 hT hE9 hw0
  · exact absurd (mostP_un hu.2 hv) c1
set_option maxHeartbeats 4000000 in
set_option maxRecDepth 100000 in
/-- best -/
theorem lc_best {E : EnvT} {A : Nat → Prop} {Q : State → Prop} {D : va_G} {cA : ClassId} (x k h s b1 b2 b3 b4 b5 g a1 a2 a3 o1 o2 o3 o4 o5 : Nat) (y p1 p2 p3 p4 b : Nat) (L i : Nat) (xs : Nat → Int32) (C : Cx E code rL 4 D cA 2048 600000 7302250) (hA : ∀ q, (hpE E).size ≤ q → A q) (X : scr E A b L xs) (hL : L ≤ 1536) (hi : i + 3 ≤ L) (K : LI E A Q D cA x k h s b1 b2 b3 b4 b5 g a1 a2 a3 o1 o2 o3 o4 o5 y p1 p2 p3 p4 b i 497) : LI E A Q D cA x k h s b1 b2 b3 b4 b5 g a1 a2 a3 o1 o2 o3 o4 o5 y p1 p2 p3 p4 b i 346 := by
  intro N hd tl TW LF AH en fs fc n m fi se wa nr wt is pt al fu fw so ta ex bs bc wu ww PA hG hS hT hE9 hw0
  have hG0 := hG
  obtain ⟨g1, g2, g3, g4, g5, g6⟩ := hG
  refine s_aload_n 1 C dL_law_346 rfl ?_
  refine s_callI (n := 0) (wr := [(h, .inr (1, [.ref o1, .ref o2, .ref o3, .ref o4, .ref o5, .int al, .int fu, .int fw])), (o1, .inl (cA, 512, .inl (aN od))), (o2, .inl (cA, 9, .inl (aN nr))), (o3, .inl (cA, 512, .inl (aN wt))), (o4, .inl (cA, 512, .inl (aN is))), (o5, .inl (cA, 512, .inl (aN pt))), (y, .inr (5, [.int (nI n), .int (nI m), .ref p1, .ref p2, .ref p3, .ref p4])), (p1, .inl (cA, 14, .inl (aN fi))), (p2, .inl (cA, 14, .inl (aN se))), (p3, .inl (cA, 9, .inl (aN wa))), (p4, .inl (cA, 9, .inl PA))]) [0, 5, 6, 7, 8, 9, 10, 1, 2, 3, 4, 17] [11, 12, 13, 14, 15, 16, 18, 19, 20, 21, 22] 0 [] C hA (kF_best E.2.1 D cA x k h s b1 b2 b3 b4 b5 g a1 a2 a3 o1 o2 o3 o4 o5 N hd tl TW LF AH en fs fc n m fi se wa so ta ex bs bc wu ww hG0 hS ) gL_58 dL_law_347 (by decide +kernel) rfl rfl (by decide) (by decide) (by decide) rfl rfl rfl (by decide) (by decide) rfl rfl (Nat.le_of_ble_eq_true rfl) (Nat.le_of_ble_eq_true rfl) (Nat.le_of_ble_eq_true rfl) (fun r1 u hu => ?_)
  refine s_sub (ws' := [(x, .inr (4, [.ref g, .ref s, .ref h, .ref k])), (g, .inr (2, [.int (nI n), .int (nI m), .ref a1, .ref a2, .ref a3])), (a1, .inl (cA, 14, .inl (aN fi))), (a2, .inl (cA, 14, .inl (aN se))), (a3, .inl (cA, 9, .inl (aN wa))), (s, .inr (3, [.int (nI u.1.1), .ref b1, .ref b2, .ref b3, .ref b4, .ref b5, .int u.1.2.2.2.2.2.2.1, .int u.1.2.2.2.2.2.2.2.1, .int u.1.2.2.2.2.2.2.2.2])), (b1, .inl (cA, 14, .inl (aN u.1.2.1))), (b2, .inl (cA, 14, .inl (aN u.1.2.2.1))), (b3, .inl (cA, 14, .inl u.1.2.2.2.1)), (b4, .inl (cA, 9, .inl u.1.2.2.2.2.1)), (b5, .inl (cA, 9, .inl u.1.2.2.2.2.2.1)), (h, .inr (1, [.ref o1, .ref o2, .ref o3, .ref o4, .ref o5, .int al, .int fu, .int fw])), (o1, .inl (cA, 512, .inl (aN od))), (o2, .inl (cA, 9, .inl (aN nr))), (o3, .inl (cA, 512, .inl (aN wt))), (o4, .inl (cA, 512, .inl (aN is))), (o5, .inl (cA, 512, .inl (aN pt))), (k, .inr (0, [.int u.2.1, .int ta, .int ex, .int u.2.2.1, .int u.2.2.2, .int wu, .int ww])), (y, .inr (5, [.int (nI n), .int (nI m), .ref p1, .ref p2, .ref p3, .ref p4])), (p1, .inl (cA, 14, .inl (aN fi))), (p2, .inl (cA, 14, .inl (aN se))), (p3, .inl (cA, 9, .inl (aN wa))), (p4, .inl (cA, 9, .inl PA))]) [11, 18, 19, 20, 21, 12, 13, 14, 15, 16, 17, 0, 1, 2, 3, 4, 5, 22, 6, 7, 8, 9, 10] rfl (by decide) ?_
  refine s_aload_n 2 C dL_law_350 rfl ?_
  refine s_callP (n := 0) [18, 19, 20, 21] 0 [.int r1] C wfP (kM_best E.2.1 D cA y p1 p2 p3 p4 n m fi se wa g1 g2 g3 g4 (fun v hv9 => Nat.le_trans (g5 v hv9) (by decide)) ) gL_61 dL_law_351 (by decide +kernel) rfl rfl rfl rfl (by decide) (by decide) rfl rfl (Nat.le_of_ble_eq_true rfl) (Nat.le_of_ble_eq_true rfl) (Nat.le_of_ble_eq_true rfl) (fun r2 hv => ?_)
  refine s_icmp_eq 497 C dL_law_354 (by decide) (fun c1 => ?_) (fun c1 => ?_)
  · exact K u.1.1 u.1.2.1 u.1.2.2.1 u.1.2.2.2.1 u.1.2.2.2.2.1 u.1.2.2.2.2.2.1 u.1.2.2.2.2.2.2.1 u.1.2.2.2.2.2.2.2.1 u.1.2.2.2.2.2.2.2.2 n m fi se wa nr wt is pt al fu fw u.2.1 ta ex u.2.2.1 u.2.2.2 wu ww PA hG0 hu.1 hT hE9 hw0
  · exact absurd (bestP_un hu.2 hv) c1
set_option maxHeartbeats 4000000 in
set_option maxRecDepth 100000 in
/-- factor -/
theorem lc_factor {E : EnvT} {A : Nat → Prop} {Q : State → Prop} {D : va_G} {cA : ClassId} (x k h s b1 b2 b3 b4 b5 g a1 a2 a3 o1 o2 o3 o4 o5 : Nat) (y p1 p2 p3 p4 b : Nat) (L i : Nat) (xs : Nat → Int32) (C : Cx E code rL 4 D cA 2048 600000 7302250) (hA : ∀ q, (hpE E).size ≤ q → A q) (X : scr E A b L xs) (hL : L ≤ 1536) (hi : i + 3 ≤ L) (K : LI E A Q D cA x k h s b1 b2 b3 b4 b5 g a1 a2 a3 o1 o2 o3 o4 o5 y p1 p2 p3 p4 b i 497) : LI E A Q D cA x k h s b1 b2 b3 b4 b5 g a1 a2 a3 o1 o2 o3 o4 o5 y p1 p2 p3 p4 b i 359 := by
  intro N hd tl TW LF AH en fs fc n m fi se wa nr wt is pt al fu fw so ta ex bs bc wu ww PA hG hS hT hE9 hw0
  have hG0 := hG
  obtain ⟨g1, g2, g3, g4, g5, g6⟩ := hG
  refine s_aload_n 1 C dL_law_359 rfl ?_
  refine s_callI (n := 0) (wr := [(h, .inr (1, [.ref o1, .ref o2, .ref o3, .ref o4, .ref o5, .int al, .int fu, .int fw])), (o1, .inl (cA, 512, .inl (aN od))), (o2, .inl (cA, 9, .inl (aN nr))), (o3, .inl (cA, 512, .inl (aN wt))), (o4, .inl (cA, 512, .inl (aN is))), (o5, .inl (cA, 512, .inl (aN pt))), (y, .inr (5, [.int (nI n), .int (nI m), .ref p1, .ref p2, .ref p3, .ref p4])), (p1, .inl (cA, 14, .inl (aN fi))), (p2, .inl (cA, 14, .inl (aN se))), (p3, .inl (cA, 9, .inl (aN wa))), (p4, .inl (cA, 9, .inl PA))]) [0, 5, 6, 7, 8, 9, 10, 1, 2, 3, 4, 17] [11, 12, 13, 14, 15, 16, 18, 19, 20, 21, 22] 0 [] C hA (kF_factor E.2.1 D cA x k h s b1 b2 b3 b4 b5 g a1 a2 a3 o1 o2 o3 o4 o5 N hd tl TW LF AH en fs fc n m fi se wa so ta ex bs bc wu ww hG0 hS ) gL_62 dL_law_360 (by decide +kernel) rfl rfl (by decide) (by decide) (by decide) rfl rfl rfl (by decide) (by decide) rfl rfl (Nat.le_of_ble_eq_true rfl) (Nat.le_of_ble_eq_true rfl) (Nat.le_of_ble_eq_true rfl) (fun r1 u hu => ?_)
  refine s_sub (ws' := [(x, .inr (4, [.ref g, .ref s, .ref h, .ref k])), (g, .inr (2, [.int (nI n), .int (nI m), .ref a1, .ref a2, .ref a3])), (a1, .inl (cA, 14, .inl (aN fi))), (a2, .inl (cA, 14, .inl (aN se))), (a3, .inl (cA, 9, .inl (aN wa))), (s, .inr (3, [.int (nI u.1.1), .ref b1, .ref b2, .ref b3, .ref b4, .ref b5, .int u.1.2.2.2.2.2.2.1, .int u.1.2.2.2.2.2.2.2.1, .int u.1.2.2.2.2.2.2.2.2])), (b1, .inl (cA, 14, .inl (aN u.1.2.1))), (b2, .inl (cA, 14, .inl (aN u.1.2.2.1))), (b3, .inl (cA, 14, .inl u.1.2.2.2.1)), (b4, .inl (cA, 9, .inl u.1.2.2.2.2.1)), (b5, .inl (cA, 9, .inl u.1.2.2.2.2.2.1)), (h, .inr (1, [.ref o1, .ref o2, .ref o3, .ref o4, .ref o5, .int al, .int fu, .int fw])), (o1, .inl (cA, 512, .inl (aN od))), (o2, .inl (cA, 9, .inl (aN nr))), (o3, .inl (cA, 512, .inl (aN wt))), (o4, .inl (cA, 512, .inl (aN is))), (o5, .inl (cA, 512, .inl (aN pt))), (k, .inr (0, [.int u.2.1, .int ta, .int ex, .int u.2.2.1, .int u.2.2.2, .int wu, .int ww])), (y, .inr (5, [.int (nI n), .int (nI m), .ref p1, .ref p2, .ref p3, .ref p4])), (p1, .inl (cA, 14, .inl (aN fi))), (p2, .inl (cA, 14, .inl (aN se))), (p3, .inl (cA, 9, .inl (aN wa))), (p4, .inl (cA, 9, .inl PA))]) [11, 18, 19, 20, 21, 12, 13, 14, 15, 16, 17, 0, 1, 2, 3, 4, 5, 22, 6, 7, 8, 9, 10] rfl (by decide) ?_
  refine s_aload_n 2 C dL_law_363 rfl ?_
  refine s_callP (n := 0) [18, 19, 20, 21] 0 [.int r1] C wfP (kM_factor E.2.1 D cA y p1 p2 p3 p4 n m fi se wa hG0 ) gL_65 dL_law_364 (by decide +kernel) rfl rfl rfl rfl (by decide) (by decide) rfl rfl (Nat.le_of_ble_eq_true rfl) (Nat.le_of_ble_eq_true rfl) (Nat.le_of_ble_eq_true rfl) (fun r2 hv => ?_)
  refine s_icmp_eq 497 C dL_law_367 (by decide) (fun c1 => ?_) (fun c1 => ?_)
  · exact K u.1.1 u.1.2.1 u.1.2.2.1 u.1.2.2.2.1 u.1.2.2.2.2.1 u.1.2.2.2.2.2.1 u.1.2.2.2.2.2.2.1 u.1.2.2.2.2.2.2.2.1 u.1.2.2.2.2.2.2.2.2 n m fi se wa nr wt is pt al fu fw u.2.1 ta ex u.2.2.1 u.2.2.2 wu ww PA hG0 hu.1 hT hE9 hw0
  · exact absurd (facP_un g3 hu.2 hv) c1
set_option maxHeartbeats 4000000 in
set_option maxRecDepth 100000 in
/-- role -/
theorem lc_role {E : EnvT} {A : Nat → Prop} {Q : State → Prop} {D : va_G} {cA : ClassId} (x k h s b1 b2 b3 b4 b5 g a1 a2 a3 o1 o2 o3 o4 o5 : Nat) (y p1 p2 p3 p4 b : Nat) (L i : Nat) (xs : Nat → Int32) (C : Cx E code rL 4 D cA 2048 600000 7302250) (hA : ∀ q, (hpE E).size ≤ q → A q) (X : scr E A b L xs) (hL : L ≤ 1536) (hi : i + 3 ≤ L) (K : LI E A Q D cA x k h s b1 b2 b3 b4 b5 g a1 a2 a3 o1 o2 o3 o4 o5 y p1 p2 p3 p4 b i 497) : LI E A Q D cA x k h s b1 b2 b3 b4 b5 g a1 a2 a3 o1 o2 o3 o4 o5 y p1 p2 p3 p4 b i 372 := by
  intro N hd tl TW LF AH en fs fc n m fi se wa nr wt is pt al fu fw so ta ex bs bc wu ww PA hG hS hT hE9 hw0
  have hG0 := hG
  obtain ⟨g1, g2, g3, g4, g5, g6⟩ := hG
  refine s_aload_n 1 C dL_law_372 rfl ?_
  refine s_aload_n 0 C dL_law_373 rfl ?_
  refine s_iload_n 3 C dL_law_374 rfl ?_
  refine s_iconst (nI 1) C dL_law_375 (by decide) ?_
  refine s_iaddN C dL_law_376 ?_
  refine s_sld C X hL dL_law_377 (by omega) ?_
  refine s_callI (n := 1) (wr := [(h, .inr (1, [.ref o1, .ref o2, .ref o3, .ref o4, .ref o5, .int al, .int fu, .int fw])), (o1, .inl (cA, 512, .inl (aN od))), (o2, .inl (cA, 9, .inl (aN nr))), (o3, .inl (cA, 512, .inl (aN wt))), (o4, .inl (cA, 512, .inl (aN is))), (o5, .inl (cA, 512, .inl (aN pt))), (y, .inr (5, [.int (nI n), .int (nI m), .ref p1, .ref p2, .ref p3, .ref p4])), (p1, .inl (cA, 14, .inl (aN fi))), (p2, .inl (cA, 14, .inl (aN se))), (p3, .inl (cA, 9, .inl (aN wa))), (p4, .inl (cA, 9, .inl PA))]) [0, 5, 6, 7, 8, 9, 10, 1, 2, 3, 4, 17] [11, 12, 13, 14, 15, 16, 18, 19, 20, 21, 22] 0 [] C hA (kF_role E.2.1 D cA x k h s b1 b2 b3 b4 b5 g a1 a2 a3 o1 o2 o3 o4 o5 N hd tl TW LF AH en fs fc n m fi se wa so ta ex bs bc wu ww hG0 hS (xs (i + 1))) gL_66 dL_law_378 (by decide +kernel) rfl rfl (by decide) (by decide) (by decide) rfl rfl rfl (by decide) (by decide) rfl rfl (Nat.le_of_ble_eq_true rfl) (Nat.le_of_ble_eq_true rfl) (Nat.le_of_ble_eq_true rfl) (fun r1 u hu => ?_)
  refine s_sub (ws' := [(x, .inr (4, [.ref g, .ref s, .ref h, .ref k])), (g, .inr (2, [.int (nI n), .int (nI m), .ref a1, .ref a2, .ref a3])), (a1, .inl (cA, 14, .inl (aN fi))), (a2, .inl (cA, 14, .inl (aN se))), (a3, .inl (cA, 9, .inl (aN wa))), (s, .inr (3, [.int (nI u.1.1), .ref b1, .ref b2, .ref b3, .ref b4, .ref b5, .int u.1.2.2.2.2.2.2.1, .int u.1.2.2.2.2.2.2.2.1, .int u.1.2.2.2.2.2.2.2.2])), (b1, .inl (cA, 14, .inl (aN u.1.2.1))), (b2, .inl (cA, 14, .inl (aN u.1.2.2.1))), (b3, .inl (cA, 14, .inl u.1.2.2.2.1)), (b4, .inl (cA, 9, .inl u.1.2.2.2.2.1)), (b5, .inl (cA, 9, .inl u.1.2.2.2.2.2.1)), (h, .inr (1, [.ref o1, .ref o2, .ref o3, .ref o4, .ref o5, .int al, .int fu, .int fw])), (o1, .inl (cA, 512, .inl (aN od))), (o2, .inl (cA, 9, .inl (aN nr))), (o3, .inl (cA, 512, .inl (aN wt))), (o4, .inl (cA, 512, .inl (aN is))), (o5, .inl (cA, 512, .inl (aN pt))), (k, .inr (0, [.int u.2.1, .int ta, .int ex, .int u.2.2.1, .int u.2.2.2, .int wu, .int ww])), (y, .inr (5, [.int (nI n), .int (nI m), .ref p1, .ref p2, .ref p3, .ref p4])), (p1, .inl (cA, 14, .inl (aN fi))), (p2, .inl (cA, 14, .inl (aN se))), (p3, .inl (cA, 9, .inl (aN wa))), (p4, .inl (cA, 9, .inl PA))]) [11, 18, 19, 20, 21, 12, 13, 14, 15, 16, 17, 0, 1, 2, 3, 4, 5, 22, 6, 7, 8, 9, 10] rfl (by decide) ?_
  refine s_aload_n 2 C dL_law_381 rfl ?_
  refine s_aload_n 0 C dL_law_382 rfl ?_
  refine s_iload_n 3 C dL_law_383 rfl ?_
  refine s_iconst (nI 1) C dL_law_384 (by decide) ?_
  refine s_iaddN C dL_law_385 ?_
  refine s_sld C X hL dL_law_386 (by omega) ?_
  refine s_callP (n := 1) [18, 19, 20, 21] 0 [.int r1] C wfP (kM_role E.2.1 D cA y p1 p2 p3 p4 n m fi se wa hG0 (xs (i + 1))) gL_69 dL_law_387 (by decide +kernel) rfl rfl rfl rfl (by decide) (by decide) rfl rfl (Nat.le_of_ble_eq_true rfl) (Nat.le_of_ble_eq_true rfl) (Nat.le_of_ble_eq_true rfl) (fun r2 hv => ?_)
  refine s_icmp_eq 497 C dL_law_390 (by decide) (fun c1 => ?_) (fun c1 => ?_)
  · exact K u.1.1 u.1.2.1 u.1.2.2.1 u.1.2.2.2.1 u.1.2.2.2.2.1 u.1.2.2.2.2.2.1 u.1.2.2.2.2.2.2.1 u.1.2.2.2.2.2.2.2.1 u.1.2.2.2.2.2.2.2.2 n m fi se wa nr wt is pt al fu fw u.2.1 ta ex u.2.2.1 u.2.2.2 wu ww PA hG0 hu.1 hT hE9 hw0
  · exact absurd (roleQ_un g3 hu.2 hv) c1
set_option maxHeartbeats 4000000 in
set_option maxRecDepth 100000 in
/-- slack -/
theorem lc_slack {E : EnvT} {A : Nat → Prop} {Q : State → Prop} {D : va_G} {cA : ClassId} (x k h s b1 b2 b3 b4 b5 g a1 a2 a3 o1 o2 o3 o4 o5 : Nat) (y p1 p2 p3 p4 b : Nat) (L i : Nat) (xs : Nat → Int32) (C : Cx E code rL 4 D cA 2048 600000 7302250) (hA : ∀ q, (hpE E).size ≤ q → A q) (X : scr E A b L xs) (hL : L ≤ 1536) (hi : i + 3 ≤ L) (K : LI E A Q D cA x k h s b1 b2 b3 b4 b5 g a1 a2 a3 o1 o2 o3 o4 o5 y p1 p2 p3 p4 b i 497) : LI E A Q D cA x k h s b1 b2 b3 b4 b5 g a1 a2 a3 o1 o2 o3 o4 o5 y p1 p2 p3 p4 b i 395 := by
  intro N hd tl TW LF AH en fs fc n m fi se wa nr wt is pt al fu fw so ta ex bs bc wu ww PA hG hS hT hE9 hw0
  have hG0 := hG
  obtain ⟨g1, g2, g3, g4, g5, g6⟩ := hG
  refine s_aload_n 1 C dL_law_395 rfl ?_
  refine s_aload_n 0 C dL_law_396 rfl ?_
  refine s_iload_n 3 C dL_law_397 rfl ?_
  refine s_iconst (nI 1) C dL_law_398 (by decide) ?_
  refine s_iaddN C dL_law_399 ?_
  refine s_sld C X hL dL_law_400 (by omega) ?_
  refine s_callI (n := 1) (wr := [(h, .inr (1, [.ref o1, .ref o2, .ref o3, .ref o4, .ref o5, .int al, .int fu, .int fw])), (o1, .inl (cA, 512, .inl (aN od))), (o2, .inl (cA, 9, .inl (aN nr))), (o3, .inl (cA, 512, .inl (aN wt))), (o4, .inl (cA, 512, .inl (aN is))), (o5, .inl (cA, 512, .inl (aN pt))), (y, .inr (5, [.int (nI n), .int (nI m), .ref p1, .ref p2, .ref p3, .ref p4])), (p1, .inl (cA, 14, .inl (aN fi))), (p2, .inl (cA, 14, .inl (aN se))), (p3, .inl (cA, 9, .inl (aN wa))), (p4, .inl (cA, 9, .inl PA))]) [0, 5, 6, 7, 8, 9, 10, 1, 2, 3, 4, 17] [11, 12, 13, 14, 15, 16, 18, 19, 20, 21, 22] 0 [] C hA (kF_slack E.2.1 D cA x k h s b1 b2 b3 b4 b5 g a1 a2 a3 o1 o2 o3 o4 o5 N hd tl TW LF AH en fs fc n m fi se wa so ta ex bs bc wu ww hG0 hS (xs (i + 1))) gL_70 dL_law_401 (by decide +kernel) rfl rfl (by decide) (by decide) (by decide) rfl rfl rfl (by decide) (by decide) rfl rfl (Nat.le_of_ble_eq_true rfl) (Nat.le_of_ble_eq_true rfl) (Nat.le_of_ble_eq_true rfl) (fun r1 u hu => ?_)
  refine s_sub (ws' := [(x, .inr (4, [.ref g, .ref s, .ref h, .ref k])), (g, .inr (2, [.int (nI n), .int (nI m), .ref a1, .ref a2, .ref a3])), (a1, .inl (cA, 14, .inl (aN fi))), (a2, .inl (cA, 14, .inl (aN se))), (a3, .inl (cA, 9, .inl (aN wa))), (s, .inr (3, [.int (nI u.1.1), .ref b1, .ref b2, .ref b3, .ref b4, .ref b5, .int u.1.2.2.2.2.2.2.1, .int u.1.2.2.2.2.2.2.2.1, .int u.1.2.2.2.2.2.2.2.2])), (b1, .inl (cA, 14, .inl (aN u.1.2.1))), (b2, .inl (cA, 14, .inl (aN u.1.2.2.1))), (b3, .inl (cA, 14, .inl u.1.2.2.2.1)), (b4, .inl (cA, 9, .inl u.1.2.2.2.2.1)), (b5, .inl (cA, 9, .inl u.1.2.2.2.2.2.1)), (h, .inr (1, [.ref o1, .ref o2, .ref o3, .ref o4, .ref o5, .int al, .int fu, .int fw])), (o1, .inl (cA, 512, .inl (aN od))), (o2, .inl (cA, 9, .inl (aN nr))), (o3, .inl (cA, 512, .inl (aN wt))), (o4, .inl (cA, 512, .inl (aN is))), (o5, .inl (cA, 512, .inl (aN pt))), (k, .inr (0, [.int u.2.1, .int ta, .int ex, .int u.2.2.1, .int u.2.2.2, .int wu, .int ww])), (y, .inr (5, [.int (nI n), .int (nI m), .ref p1, .ref p2, .ref p3, .ref p4])), (p1, .inl (cA, 14, .inl (aN fi))), (p2, .inl (cA, 14, .inl (aN se))), (p3, .inl (cA, 9, .inl (aN wa))), (p4, .inl (cA, 9, .inl PA))]) [11, 18, 19, 20, 21, 12, 13, 14, 15, 16, 17, 0, 1, 2, 3, 4, 5, 22, 6, 7, 8, 9, 10] rfl (by decide) ?_
  refine s_aload_n 2 C dL_law_404 rfl ?_
  refine s_aload_n 0 C dL_law_405 rfl ?_
  refine s_iload_n 3 C dL_law_406 rfl ?_
  refine s_iconst (nI 1) C dL_law_407 (by decide) ?_
  refine s_iaddN C dL_law_408 ?_
  refine s_sld C X hL dL_law_409 (by omega) ?_
  refine s_callI (n := 1) (wr := [(x, .inr (4, [.ref g, .ref s, .ref h, .ref k])), (g, .inr (2, [.int (nI n), .int (nI m), .ref a1, .ref a2, .ref a3])), (a1, .inl (cA, 14, .inl (aN fi))), (a2, .inl (cA, 14, .inl (aN se))), (a3, .inl (cA, 9, .inl (aN wa))), (s, .inr (3, [.int (nI u.1.1), .ref b1, .ref b2, .ref b3, .ref b4, .ref b5, .int u.1.2.2.2.2.2.2.1, .int u.1.2.2.2.2.2.2.2.1, .int u.1.2.2.2.2.2.2.2.2])), (b1, .inl (cA, 14, .inl (aN u.1.2.1))), (b2, .inl (cA, 14, .inl (aN u.1.2.2.1))), (b3, .inl (cA, 14, .inl u.1.2.2.2.1)), (b4, .inl (cA, 9, .inl u.1.2.2.2.2.1)), (b5, .inl (cA, 9, .inl u.1.2.2.2.2.2.1)), (h, .inr (1, [.ref o1, .ref o2, .ref o3, .ref o4, .ref o5, .int al, .int fu, .int fw])), (o1, .inl (cA, 512, .inl (aN od))), (o2, .inl (cA, 9, .inl (aN nr))), (o3, .inl (cA, 512, .inl (aN wt))), (o4, .inl (cA, 512, .inl (aN is))), (o5, .inl (cA, 512, .inl (aN pt))), (k, .inr (0, [.int u.2.1, .int ta, .int ex, .int u.2.2.1, .int u.2.2.2, .int wu, .int ww])), (p4, .inl (cA, 9, .inl PA))]) [18, 19, 20, 21] [0, 1, 2, 3, 4, 5, 6, 7, 8, 9, 10, 11, 12, 13, 14, 15, 16, 17, 22] 0 [.int r1] C hA (kM_slack E.2.1 D cA y p1 p2 p3 p4 n m fi se wa hG0 (xs (i + 1))) gL_73 dL_law_410 (by decide +kernel) rfl rfl (by decide) (by decide) (by decide) rfl rfl rfl (by decide) (by decide) rfl rfl (Nat.le_of_ble_eq_true rfl) (Nat.le_of_ble_eq_true rfl) (Nat.le_of_ble_eq_true rfl) (fun r2 v hv => ?_)
  refine s_sub (ws' := [(x, .inr (4, [.ref g, .ref s, .ref h, .ref k])), (g, .inr (2, [.int (nI n), .int (nI m), .ref a1, .ref a2, .ref a3])), (a1, .inl (cA, 14, .inl (aN fi))), (a2, .inl (cA, 14, .inl (aN se))), (a3, .inl (cA, 9, .inl (aN wa))), (s, .inr (3, [.int (nI u.1.1), .ref b1, .ref b2, .ref b3, .ref b4, .ref b5, .int u.1.2.2.2.2.2.2.1, .int u.1.2.2.2.2.2.2.2.1, .int u.1.2.2.2.2.2.2.2.2])), (b1, .inl (cA, 14, .inl (aN u.1.2.1))), (b2, .inl (cA, 14, .inl (aN u.1.2.2.1))), (b3, .inl (cA, 14, .inl u.1.2.2.2.1)), (b4, .inl (cA, 9, .inl u.1.2.2.2.2.1)), (b5, .inl (cA, 9, .inl u.1.2.2.2.2.2.1)), (h, .inr (1, [.ref o1, .ref o2, .ref o3, .ref o4, .ref o5, .int al, .int fu, .int fw])), (o1, .inl (cA, 512, .inl (aN od))), (o2, .inl (cA, 9, .inl (aN nr))), (o3, .inl (cA, 512, .inl (aN wt))), (o4, .inl (cA, 512, .inl (aN is))), (o5, .inl (cA, 512, .inl (aN pt))), (k, .inr (0, [.int u.2.1, .int ta, .int ex, .int u.2.2.1, .int u.2.2.2, .int wu, .int ww])), (y, .inr (5, [.int (nI n), .int (nI m), .ref p1, .ref p2, .ref p3, .ref p4])), (p1, .inl (cA, 14, .inl (aN fi))), (p2, .inl (cA, 14, .inl (aN se))), (p3, .inl (cA, 9, .inl (aN wa))), (p4, .inl (cA, 9, .inl PA))]) [0, 1, 2, 3, 4, 5, 6, 7, 8, 9, 10, 11, 12, 13, 14, 15, 16, 17, 19, 20, 21, 22, 18] rfl (by decide) ?_
  refine s_icmp_eq 497 C dL_law_413 (by decide) (fun c1 => ?_) (fun c1 => ?_)
  · exact K u.1.1 u.1.2.1 u.1.2.2.1 u.1.2.2.2.1 u.1.2.2.2.2.1 u.1.2.2.2.2.2.1 u.1.2.2.2.2.2.2.1 u.1.2.2.2.2.2.2.2.1 u.1.2.2.2.2.2.2.2.2 n m fi se wa nr wt is pt al fu fw u.2.1 ta ex u.2.2.1 u.2.2.2 wu ww PA hG0 hu.1 hT hE9 hw0
  · exact absurd (slkQ_un g2 hu.2 hv) c1
set_option maxHeartbeats 4000000 in
set_option maxRecDepth 100000 in
/-- gain -/
theorem lc_gain {E : EnvT} {A : Nat → Prop} {Q : State → Prop} {D : va_G} {cA : ClassId} (x k h s b1 b2 b3 b4 b5 g a1 a2 a3 o1 o2 o3 o4 o5 : Nat) (y p1 p2 p3 p4 b : Nat) (L i : Nat) (xs : Nat → Int32) (C : Cx E code rL 4 D cA 2048 600000 7302250) (hA : ∀ q, (hpE E).size ≤ q → A q) (X : scr E A b L xs) (hL : L ≤ 1536) (hi : i + 3 ≤ L) (K : LI E A Q D cA x k h s b1 b2 b3 b4 b5 g a1 a2 a3 o1 o2 o3 o4 o5 y p1 p2 p3 p4 b i 497) : LI E A Q D cA x k h s b1 b2 b3 b4 b5 g a1 a2 a3 o1 o2 o3 o4 o5 y p1 p2 p3 p4 b i 418 := by
  intro N hd tl TW LF AH en fs fc n m fi se wa nr wt is pt al fu fw so ta ex bs bc wu ww PA hG hS hT hE9 hw0
  have hG0 := hG
  obtain ⟨g1, g2, g3, g4, g5, g6⟩ := hG
  refine s_aload_n 1 C dL_law_418 rfl ?_
  refine s_aload_n 0 C dL_law_419 rfl ?_
  refine s_iload_n 3 C dL_law_420 rfl ?_
  refine s_iconst (nI 1) C dL_law_421 (by decide) ?_
  refine s_iaddN C dL_law_422 ?_
  refine s_sld C X hL dL_law_423 (by omega) ?_
  refine s_callI (n := 1) (wr := [(h, .inr (1, [.ref o1, .ref o2, .ref o3, .ref o4, .ref o5, .int al, .int fu, .int fw])), (o1, .inl (cA, 512, .inl (aN od))), (o2, .inl (cA, 9, .inl (aN nr))), (o3, .inl (cA, 512, .inl (aN wt))), (o4, .inl (cA, 512, .inl (aN is))), (o5, .inl (cA, 512, .inl (aN pt))), (y, .inr (5, [.int (nI n), .int (nI m), .ref p1, .ref p2, .ref p3, .ref p4])), (p1, .inl (cA, 14, .inl (aN fi))), (p2, .inl (cA, 14, .inl (aN se))), (p3, .inl (cA, 9, .inl (aN wa))), (p4, .inl (cA, 9, .inl PA))]) [0, 5, 6, 7, 8, 9, 10, 1, 2, 3, 4, 17] [11, 12, 13, 14, 15, 16, 18, 19, 20, 21, 22] 0 [] C hA (kF_gain E.2.1 D cA x k h s b1 b2 b3 b4 b5 g a1 a2 a3 o1 o2 o3 o4 o5 N hd tl TW LF AH en fs fc n m fi se wa so ta ex bs bc wu ww hG0 hS (xs (i + 1))) gL_74 dL_law_424 (by decide +kernel) rfl rfl (by decide) (by decide) (by decide) rfl rfl rfl (by decide) (by decide) rfl rfl (Nat.le_of_ble_eq_true rfl) (Nat.le_of_ble_eq_true rfl) (Nat.le_of_ble_eq_true rfl) (fun r1 u hu => ?_)
  refine s_sub (ws' := [(x, .inr (4, [.ref g, .ref s, .ref h, .ref k])), (g, .inr (2, [.int (nI n), .int (nI m), .ref a1, .ref a2, .ref a3])), (a1, .inl (cA, 14, .inl (aN fi))), (a2, .inl (cA, 14, .inl (aN se))), (a3, .inl (cA, 9, .inl (aN wa))), (s, .inr (3, [.int (nI u.1.1), .ref b1, .ref b2, .ref b3, .ref b4, .ref b5, .int u.1.2.2.2.2.2.2.1, .int u.1.2.2.2.2.2.2.2.1, .int u.1.2.2.2.2.2.2.2.2])), (b1, .inl (cA, 14, .inl (aN u.1.2.1))), (b2, .inl (cA, 14, .inl (aN u.1.2.2.1))), (b3, .inl (cA, 14, .inl u.1.2.2.2.1)), (b4, .inl (cA, 9, .inl u.1.2.2.2.2.1)), (b5, .inl (cA, 9, .inl u.1.2.2.2.2.2.1)), (h, .inr (1, [.ref o1, .ref o2, .ref o3, .ref o4, .ref o5, .int al, .int fu, .int fw])), (o1, .inl (cA, 512, .inl (aN od))), (o2, .inl (cA, 9, .inl (aN nr))), (o3, .inl (cA, 512, .inl (aN wt))), (o4, .inl (cA, 512, .inl (aN is))), (o5, .inl (cA, 512, .inl (aN pt))), (k, .inr (0, [.int u.2.1, .int ta, .int ex, .int u.2.2.1, .int u.2.2.2, .int wu, .int ww])), (y, .inr (5, [.int (nI n), .int (nI m), .ref p1, .ref p2, .ref p3, .ref p4])), (p1, .inl (cA, 14, .inl (aN fi))), (p2, .inl (cA, 14, .inl (aN se))), (p3, .inl (cA, 9, .inl (aN wa))), (p4, .inl (cA, 9, .inl PA))]) [11, 18, 19, 20, 21, 12, 13, 14, 15, 16, 17, 0, 1, 2, 3, 4, 5, 22, 6, 7, 8, 9, 10] rfl (by decide) ?_
  refine s_aload_n 2 C dL_law_427 rfl ?_
  refine s_aload_n 0 C dL_law_428 rfl ?_
  refine s_iload_n 3 C dL_law_429 rfl ?_
  refine s_iconst (nI 1) C dL_law_430 (by decide) ?_
  refine s_iaddN C dL_law_431 ?_
  refine s_sld C X hL dL_law_432 (by omega) ?_
  refine s_callI (n := 1) (wr := [(x, .inr (4, [.ref g, .ref s, .ref h, .ref k])), (g, .inr (2, [.int (nI n), .int (nI m), .ref a1, .ref a2, .ref a3])), (a1, .inl (cA, 14, .inl (aN fi))), (a2, .inl (cA, 14, .inl (aN se))), (a3, .inl (cA, 9, .inl (aN wa))), (s, .inr (3, [.int (nI u.1.1), .ref b1, .ref b2, .ref b3, .ref b4, .ref b5, .int u.1.2.2.2.2.2.2.1, .int u.1.2.2.2.2.2.2.2.1, .int u.1.2.2.2.2.2.2.2.2])), (b1, .inl (cA, 14, .inl (aN u.1.2.1))), (b2, .inl (cA, 14, .inl (aN u.1.2.2.1))), (b3, .inl (cA, 14, .inl u.1.2.2.2.1)), (b4, .inl (cA, 9, .inl u.1.2.2.2.2.1)), (b5, .inl (cA, 9, .inl u.1.2.2.2.2.2.1)), (h, .inr (1, [.ref o1, .ref o2, .ref o3, .ref o4, .ref o5, .int al, .int fu, .int fw])), (o1, .inl (cA, 512, .inl (aN od))), (o2, .inl (cA, 9, .inl (aN nr))), (o3, .inl (cA, 512, .inl (aN wt))), (o4, .inl (cA, 512, .inl (aN is))), (o5, .inl (cA, 512, .inl (aN pt))), (k, .inr (0, [.int u.2.1, .int ta, .int ex, .int u.2.2.1, .int u.2.2.2, .int wu, .int ww])), (p4, .inl (cA, 9, .inl PA))]) [18, 19, 20, 21] [0, 1, 2, 3, 4, 5, 6, 7, 8, 9, 10, 11, 12, 13, 14, 15, 16, 17, 22] 0 [.int r1] C hA (kM_gain E.2.1 D cA y p1 p2 p3 p4 n m fi se wa hG0 (xs (i + 1))) gL_77 dL_law_433 (by decide +kernel) rfl rfl (by decide) (by decide) (by decide) rfl rfl rfl (by decide) (by decide) rfl rfl (Nat.le_of_ble_eq_true rfl) (Nat.le_of_ble_eq_true rfl) (Nat.le_of_ble_eq_true rfl) (fun r2 v hv => ?_)
  refine s_sub (ws' := [(x, .inr (4, [.ref g, .ref s, .ref h, .ref k])), (g, .inr (2, [.int (nI n), .int (nI m), .ref a1, .ref a2, .ref a3])), (a1, .inl (cA, 14, .inl (aN fi))), (a2, .inl (cA, 14, .inl (aN se))), (a3, .inl (cA, 9, .inl (aN wa))), (s, .inr (3, [.int (nI u.1.1), .ref b1, .ref b2, .ref b3, .ref b4, .ref b5, .int u.1.2.2.2.2.2.2.1, .int u.1.2.2.2.2.2.2.2.1, .int u.1.2.2.2.2.2.2.2.2])), (b1, .inl (cA, 14, .inl (aN u.1.2.1))), (b2, .inl (cA, 14, .inl (aN u.1.2.2.1))), (b3, .inl (cA, 14, .inl u.1.2.2.2.1)), (b4, .inl (cA, 9, .inl u.1.2.2.2.2.1)), (b5, .inl (cA, 9, .inl u.1.2.2.2.2.2.1)), (h, .inr (1, [.ref o1, .ref o2, .ref o3, .ref o4, .ref o5, .int al, .int fu, .int fw])), (o1, .inl (cA, 512, .inl (aN od))), (o2, .inl (cA, 9, .inl (aN nr))), (o3, .inl (cA, 512, .inl (aN wt))), (o4, .inl (cA, 512, .inl (aN is))), (o5, .inl (cA, 512, .inl (aN pt))), (k, .inr (0, [.int u.2.1, .int ta, .int ex, .int u.2.2.1, .int u.2.2.2, .int wu, .int ww])), (y, .inr (5, [.int (nI n), .int (nI m), .ref p1, .ref p2, .ref p3, .ref p4])), (p1, .inl (cA, 14, .inl (aN fi))), (p2, .inl (cA, 14, .inl (aN se))), (p3, .inl (cA, 9, .inl (aN wa))), (p4, .inl (cA, 9, .inl PA))]) [0, 1, 2, 3, 4, 5, 6, 7, 8, 9, 10, 11, 12, 13, 14, 15, 16, 17, 19, 20, 21, 22, 18] rfl (by decide) ?_
  refine s_icmp_eq 497 C dL_law_436 (by decide) (fun c1 => ?_) (fun c1 => ?_)
  · exact K u.1.1 u.1.2.1 u.1.2.2.1 u.1.2.2.2.1 u.1.2.2.2.2.1 u.1.2.2.2.2.2.1 u.1.2.2.2.2.2.2.1 u.1.2.2.2.2.2.2.2.1 u.1.2.2.2.2.2.2.2.2 n m fi se wa nr wt is pt al fu fw u.2.1 ta ex u.2.2.1 u.2.2.2 wu ww PA hG0 hu.1 hT hE9 hw0
  · exact absurd (gnQ_un g2 hu.2 hv) c1
set_option maxHeartbeats 4000000 in
set_option maxRecDepth 100000 in
/-- bound -/
theorem lc_bound {E : EnvT} {A : Nat → Prop} {Q : State → Prop} {D : va_G} {cA : ClassId} (x k h s b1 b2 b3 b4 b5 g a1 a2 a3 o1 o2 o3 o4 o5 : Nat) (y p1 p2 p3 p4 b : Nat) (L i : Nat) (xs : Nat → Int32) (C : Cx E code rL 4 D cA 2048 600000 7302250) (hA : ∀ q, (hpE E).size ≤ q → A q) (X : scr E A b L xs) (hL : L ≤ 1536) (hi : i + 3 ≤ L) (K : LI E A Q D cA x k h s b1 b2 b3 b4 b5 g a1 a2 a3 o1 o2 o3 o4 o5 y p1 p2 p3 p4 b i 497) : LI E A Q D cA x k h s b1 b2 b3 b4 b5 g a1 a2 a3 o1 o2 o3 o4 o5 y p1 p2 p3 p4 b i 441 := by
  intro N hd tl TW LF AH en fs fc n m fi se wa nr wt is pt al fu fw so ta ex bs bc wu ww PA hG hS hT hE9 hw0
  have hG0 := hG
  obtain ⟨g1, g2, g3, g4, g5, g6⟩ := hG
  refine s_aload_n 1 C dL_law_441 rfl ?_
  refine s_aload_n 0 C dL_law_442 rfl ?_
  refine s_iload_n 3 C dL_law_443 rfl ?_
  refine s_iconst (nI 1) C dL_law_444 (by decide) ?_
  refine s_iaddN C dL_law_445 ?_
  refine s_sld C X hL dL_law_446 (by omega) ?_
  refine s_aload_n 0 C dL_law_447 rfl ?_
  refine s_iload_n 3 C dL_law_448 rfl ?_
  refine s_iconst (nI 2) C dL_law_449 (by decide) ?_
  refine s_iaddN C dL_law_450 ?_
  refine s_sld C X hL dL_law_451 (by omega) ?_
  refine s_callI (n := 2) (wr := [(s, .inr (3, [.int (nI N), .ref b1, .ref b2, .ref b3, .ref b4, .ref b5, .int en, .int fs, .int fc])), (b1, .inl (cA, 14, .inl (aN hd))), (b2, .inl (cA, 14, .inl (aN tl))), (b3, .inl (cA, 14, .inl TW)), (b4, .inl (cA, 9, .inl LF)), (b5, .inl (cA, 9, .inl AH)), (y, .inr (5, [.int (nI n), .int (nI m), .ref p1, .ref p2, .ref p3, .ref p4])), (p1, .inl (cA, 14, .inl (aN fi))), (p2, .inl (cA, 14, .inl (aN se))), (p3, .inl (cA, 9, .inl (aN wa))), (p4, .inl (cA, 9, .inl PA))]) [0, 1, 2, 3, 4, 11, 12, 13, 14, 15, 16, 17] [5, 6, 7, 8, 9, 10, 18, 19, 20, 21, 22] 0 [] C hA (kF_bound E.2.1 D cA x k h s b1 b2 b3 b4 b5 g a1 a2 a3 o1 o2 o3 o4 o5 n m fi se wa nr wt is pt al fu fw so ta ex bs bc wu ww hG0 hT hw0 (xs (i + 1)) (xs (i + 2))) gL_78 dL_law_452 (by decide +kernel) rfl rfl (by decide) (by decide) (by decide) rfl rfl rfl (by decide) (by decide) rfl rfl (Nat.le_of_ble_eq_true rfl) (Nat.le_of_ble_eq_true rfl) (Nat.le_of_ble_eq_true rfl) (fun r1 u hu => ?_)
  refine s_sub (ws' := [(x, .inr (4, [.ref g, .ref s, .ref h, .ref k])), (g, .inr (2, [.int (nI n), .int (nI m), .ref a1, .ref a2, .ref a3])), (a1, .inl (cA, 14, .inl (aN fi))), (a2, .inl (cA, 14, .inl (aN se))), (a3, .inl (cA, 9, .inl (aN wa))), (s, .inr (3, [.int (nI N), .ref b1, .ref b2, .ref b3, .ref b4, .ref b5, .int en, .int fs, .int fc])), (b1, .inl (cA, 14, .inl (aN hd))), (b2, .inl (cA, 14, .inl (aN tl))), (b3, .inl (cA, 14, .inl TW)), (b4, .inl (cA, 9, .inl LF)), (b5, .inl (cA, 9, .inl AH)), (h, .inr (1, [.ref o1, .ref o2, .ref o3, .ref o4, .ref o5, .int u.1.2.2.2.2.1, .int u.1.2.2.2.2.2.1, .int u.1.2.2.2.2.2.2])), (o1, .inl (cA, 512, .inl (aN od))), (o2, .inl (cA, 9, .inl (aN u.1.1))), (o3, .inl (cA, 512, .inl (aN u.1.2.1))), (o4, .inl (cA, 512, .inl (aN u.1.2.2.1))), (o5, .inl (cA, 512, .inl (aN u.1.2.2.2.1))), (k, .inr (0, [.int so, .int u.2, .int ex, .int bs, .int bc, .int wu, .int ww])), (y, .inr (5, [.int (nI n), .int (nI m), .ref p1, .ref p2, .ref p3, .ref p4])), (p1, .inl (cA, 14, .inl (aN fi))), (p2, .inl (cA, 14, .inl (aN se))), (p3, .inl (cA, 9, .inl (aN wa))), (p4, .inl (cA, 9, .inl PA))]) [11, 12, 13, 14, 15, 0, 1, 2, 3, 4, 5, 16, 17, 18, 19, 20, 21, 22, 6, 7, 8, 9, 10] rfl (by decide) ?_
  refine s_aload_n 2 C dL_law_455 rfl ?_
  refine s_aload_n 0 C dL_law_456 rfl ?_
  refine s_iload_n 3 C dL_law_457 rfl ?_
  refine s_iconst (nI 1) C dL_law_458 (by decide) ?_
  refine s_iaddN C dL_law_459 ?_
  refine s_sld C X hL dL_law_460 (by omega) ?_
  refine s_aload_n 0 C dL_law_461 rfl ?_
  refine s_iload_n 3 C dL_law_462 rfl ?_
  refine s_iconst (nI 2) C dL_law_463 (by decide) ?_
  refine s_iaddN C dL_law_464 ?_
  refine s_sld C X hL dL_law_465 (by omega) ?_
  refine s_callI (n := 2) (wr := [(x, .inr (4, [.ref g, .ref s, .ref h, .ref k])), (g, .inr (2, [.int (nI n), .int (nI m), .ref a1, .ref a2, .ref a3])), (a1, .inl (cA, 14, .inl (aN fi))), (a2, .inl (cA, 14, .inl (aN se))), (a3, .inl (cA, 9, .inl (aN wa))), (s, .inr (3, [.int (nI N), .ref b1, .ref b2, .ref b3, .ref b4, .ref b5, .int en, .int fs, .int fc])), (b1, .inl (cA, 14, .inl (aN hd))), (b2, .inl (cA, 14, .inl (aN tl))), (b3, .inl (cA, 14, .inl TW)), (b4, .inl (cA, 9, .inl LF)), (b5, .inl (cA, 9, .inl AH)), (h, .inr (1, [.ref o1, .ref o2, .ref o3, .ref o4, .ref o5, .int u.1.2.2.2.2.1, .int u.1.2.2.2.2.2.1, .int u.1.2.2.2.2.2.2])), (o1, .inl (cA, 512, .inl (aN od))), (o2, .inl (cA, 9, .inl (aN u.1.1))), (o3, .inl (cA, 512, .inl (aN u.1.2.1))), (o4, .inl (cA, 512, .inl (aN u.1.2.2.1))), (o5, .inl (cA, 512, .inl (aN u.1.2.2.2.1))), (k, .inr (0, [.int so, .int u.2, .int ex, .int bs, .int bc, .int wu, .int ww]))]) [18, 19, 20, 21, 22] [0, 1, 2, 3, 4, 5, 6, 7, 8, 9, 10, 11, 12, 13, 14, 15, 16, 17] 0 [.int r1] C hA (kM_bound E.2.1 D cA y p1 p2 p3 p4 n m fi se wa PA hG0 (xs (i + 1)) (xs (i + 2))) gL_81 dL_law_466 (by decide +kernel) rfl rfl (by decide) (by decide) (by decide) rfl rfl rfl (by decide) (by decide) rfl rfl (Nat.le_of_ble_eq_true rfl) (Nat.le_of_ble_eq_true rfl) (Nat.le_of_ble_eq_true rfl) (fun r2 v hv => ?_)
  refine s_sub (ws' := [(x, .inr (4, [.ref g, .ref s, .ref h, .ref k])), (g, .inr (2, [.int (nI n), .int (nI m), .ref a1, .ref a2, .ref a3])), (a1, .inl (cA, 14, .inl (aN fi))), (a2, .inl (cA, 14, .inl (aN se))), (a3, .inl (cA, 9, .inl (aN wa))), (s, .inr (3, [.int (nI N), .ref b1, .ref b2, .ref b3, .ref b4, .ref b5, .int en, .int fs, .int fc])), (b1, .inl (cA, 14, .inl (aN hd))), (b2, .inl (cA, 14, .inl (aN tl))), (b3, .inl (cA, 14, .inl TW)), (b4, .inl (cA, 9, .inl LF)), (b5, .inl (cA, 9, .inl AH)), (h, .inr (1, [.ref o1, .ref o2, .ref o3, .ref o4, .ref o5, .int u.1.2.2.2.2.1, .int u.1.2.2.2.2.2.1, .int u.1.2.2.2.2.2.2])), (o1, .inl (cA, 512, .inl (aN od))), (o2, .inl (cA, 9, .inl (aN u.1.1))), (o3, .inl (cA, 512, .inl (aN u.1.2.1))), (o4, .inl (cA, 512, .inl (aN u.1.2.2.1))), (o5, .inl (cA, 512, .inl (aN u.1.2.2.2.1))), (k, .inr (0, [.int so, .int u.2, .int ex, .int bs, .int bc, .int wu, .int ww])), (y, .inr (5, [.int (nI n), .int (nI m), .ref p1, .ref p2, .ref p3, .ref p4])), (p1, .inl (cA, 14, .inl (aN fi))), (p2, .inl (cA, 14, .inl (aN se))), (p3, .inl (cA, 9, .inl (aN wa))), (p4, .inl (cA, 9, .inl v))]) [0, 1, 2, 3, 4, 5, 6, 7, 8, 9, 10, 11, 12, 13, 14, 15, 16, 17, 18, 19, 20, 21, 22] rfl (by decide) ?_
  refine s_icmp_eq 497 C dL_law_469 (by decide) (fun c1 => ?_) (fun c1 => ?_)
  · exact K N hd tl TW LF AH en fs fc n m fi se wa u.1.1 u.1.2.1 u.1.2.2.1 u.1.2.2.2.1 u.1.2.2.2.2.1 u.1.2.2.2.2.2.1 u.1.2.2.2.2.2.2 so u.2 ex bs bc wu ww v hG0 hS hu.1 hE9 hu.2.1
  · exact absurd (bndQ_un g2 hu.2.2 hv) c1
set_option maxHeartbeats 4000000 in
set_option maxRecDepth 100000 in
/-- witness -/
theorem lc_witness {E : EnvT} {A : Nat → Prop} {Q : State → Prop} {D : va_G} {cA : ClassId} (x k h s b1 b2 b3 b4 b5 g a1 a2 a3 o1 o2 o3 o4 o5 : Nat) (y p1 p2 p3 p4 b : Nat) (L i : Nat) (xs : Nat → Int32) (C : Cx E code rL 4 D cA 2048 600000 7302250) (hA : ∀ q, (hpE E).size ≤ q → A q) (X : scr E A b L xs) (hL : L ≤ 1536) (hi : i + 3 ≤ L) (K : LI E A Q D cA x k h s b1 b2 b3 b4 b5 g a1 a2 a3 o1 o2 o3 o4 o5 y p1 p2 p3 p4 b i 497) : LI E A Q D cA x k h s b1 b2 b3 b4 b5 g a1 a2 a3 o1 o2 o3 o4 o5 y p1 p2 p3 p4 b i 474 := by
  intro N hd tl TW LF AH en fs fc n m fi se wa nr wt is pt al fu fw so ta ex bs bc wu ww PA hG hS hT hE9 hw0
  have hG0 := hG
  obtain ⟨g1, g2, g3, g4, g5, g6⟩ := hG
  refine s_aload_n 1 C dL_law_474 rfl ?_
  refine s_aload_n 0 C dL_law_475 rfl ?_
  refine s_iload_n 3 C dL_law_476 rfl ?_
  refine s_iconst (nI 1) C dL_law_477 (by decide) ?_
  refine s_iaddN C dL_law_478 ?_
  refine s_sld C X hL dL_law_479 (by omega) ?_
  refine s_callI (n := 1) (wr := [(y, .inr (5, [.int (nI n), .int (nI m), .ref p1, .ref p2, .ref p3, .ref p4])), (p1, .inl (cA, 14, .inl (aN fi))), (p2, .inl (cA, 14, .inl (aN se))), (p3, .inl (cA, 9, .inl (aN wa))), (p4, .inl (cA, 9, .inl PA))]) [0, 5, 6, 7, 8, 9, 10, 1, 2, 3, 4, 11, 12, 13, 14, 15, 16, 17] [18, 19, 20, 21, 22] 0 [] C hA (kF_witness E.2.1 D cA x k h s b1 b2 b3 b4 b5 g a1 a2 a3 o1 o2 o3 o4 o5 N hd tl TW LF AH en fs fc n m fi se wa nr wt is pt al fu fw so ta ex bs bc wu ww hG0 hS hT hE9 hw0 (xs (i + 1))) gL_82 dL_law_480 (by decide +kernel) rfl rfl (by decide) (by decide) (by decide) rfl rfl rfl (by decide) (by decide) rfl rfl (Nat.le_of_ble_eq_true rfl) (Nat.le_of_ble_eq_true rfl) (Nat.le_of_ble_eq_true rfl) (fun r1 u hu => ?_)
  refine s_sub (ws' := [(x, .inr (4, [.ref g, .ref s, .ref h, .ref k])), (g, .inr (2, [.int (nI n), .int (nI m), .ref a1, .ref a2, .ref a3])), (a1, .inl (cA, 14, .inl (aN fi))), (a2, .inl (cA, 14, .inl (aN se))), (a3, .inl (cA, 9, .inl (aN wa))), (s, .inr (3, [.int (nI u.1.1), .ref b1, .ref b2, .ref b3, .ref b4, .ref b5, .int u.1.2.2.2.2.2.2.1, .int u.1.2.2.2.2.2.2.2.1, .int u.1.2.2.2.2.2.2.2.2])), (b1, .inl (cA, 14, .inl (aN u.1.2.1))), (b2, .inl (cA, 14, .inl (aN u.1.2.2.1))), (b3, .inl (cA, 14, .inl u.1.2.2.2.1)), (b4, .inl (cA, 9, .inl u.1.2.2.2.2.1)), (b5, .inl (cA, 9, .inl u.1.2.2.2.2.2.1)), (h, .inr (1, [.ref o1, .ref o2, .ref o3, .ref o4, .ref o5, .int u.2.1.2.2.2.2.1, .int u.2.1.2.2.2.2.2.1, .int u.2.1.2.2.2.2.2.2])), (o1, .inl (cA, 512, .inl (aN od))), (o2, .inl (cA, 9, .inl (aN u.2.1.1))), (o3, .inl (cA, 512, .inl (aN u.2.1.2.1))), (o4, .inl (cA, 512, .inl (aN u.2.1.2.2.1))), (o5, .inl (cA, 512, .inl (aN u.2.1.2.2.2.1))), (k, .inr (0, [.int u.2.2.1, .int u.2.2.2.1, .int u.2.2.2.2.1, .int u.2.2.2.2.2.1, .int u.2.2.2.2.2.2.1, .int u.2.2.2.2.2.2.2.1, .int u.2.2.2.2.2.2.2.2])), (y, .inr (5, [.int (nI n), .int (nI m), .ref p1, .ref p2, .ref p3, .ref p4])), (p1, .inl (cA, 14, .inl (aN fi))), (p2, .inl (cA, 14, .inl (aN se))), (p3, .inl (cA, 9, .inl (aN wa))), (p4, .inl (cA, 9, .inl PA))]) [5, 12, 13, 14, 15, 6, 7, 8, 9, 10, 11, 16, 17, 18, 19, 20, 21, 22, 0, 1, 2, 3, 4] rfl (by decide) ?_
  refine s_aload_n 2 C dL_law_483 rfl ?_
  refine s_aload_n 0 C dL_law_484 rfl ?_
  refine s_iload_n 3 C dL_law_485 rfl ?_
  refine s_iconst (nI 1) C dL_law_486 (by decide) ?_
  refine s_iaddN C dL_law_487 ?_
  refine s_sld C X hL dL_law_488 (by omega) ?_
  refine s_callI (n := 1) (wr := [(x, .inr (4, [.ref g, .ref s, .ref h, .ref k])), (g, .inr (2, [.int (nI n), .int (nI m), .ref a1, .ref a2, .ref a3])), (a1, .inl (cA, 14, .inl (aN fi))), (a2, .inl (cA, 14, .inl (aN se))), (a3, .inl (cA, 9, .inl (aN wa))), (s, .inr (3, [.int (nI u.1.1), .ref b1, .ref b2, .ref b3, .ref b4, .ref b5, .int u.1.2.2.2.2.2.2.1, .int u.1.2.2.2.2.2.2.2.1, .int u.1.2.2.2.2.2.2.2.2])), (b1, .inl (cA, 14, .inl (aN u.1.2.1))), (b2, .inl (cA, 14, .inl (aN u.1.2.2.1))), (b3, .inl (cA, 14, .inl u.1.2.2.2.1)), (b4, .inl (cA, 9, .inl u.1.2.2.2.2.1)), (b5, .inl (cA, 9, .inl u.1.2.2.2.2.2.1)), (h, .inr (1, [.ref o1, .ref o2, .ref o3, .ref o4, .ref o5, .int u.2.1.2.2.2.2.1, .int u.2.1.2.2.2.2.2.1, .int u.2.1.2.2.2.2.2.2])), (o1, .inl (cA, 512, .inl (aN od))), (o2, .inl (cA, 9, .inl (aN u.2.1.1))), (o3, .inl (cA, 512, .inl (aN u.2.1.2.1))), (o4, .inl (cA, 512, .inl (aN u.2.1.2.2.1))), (o5, .inl (cA, 512, .inl (aN u.2.1.2.2.2.1))), (k, .inr (0, [.int u.2.2.1, .int u.2.2.2.1, .int u.2.2.2.2.1, .int u.2.2.2.2.2.1, .int u.2.2.2.2.2.2.1, .int u.2.2.2.2.2.2.2.1, .int u.2.2.2.2.2.2.2.2]))]) [18, 19, 20, 21, 22] [0, 1, 2, 3, 4, 5, 6, 7, 8, 9, 10, 11, 12, 13, 14, 15, 16, 17] 0 [.int r1] C hA (kM_witness E.2.1 D cA y p1 p2 p3 p4 n m fi se wa PA hG0 (xs (i + 1))) gL_85 dL_law_489 (by decide +kernel) rfl rfl (by decide) (by decide) (by decide) rfl rfl rfl (by decide) (by decide) rfl rfl (Nat.le_of_ble_eq_true rfl) (Nat.le_of_ble_eq_true rfl) (Nat.le_of_ble_eq_true rfl) (fun r2 v hv => ?_)
  refine s_sub (ws' := [(x, .inr (4, [.ref g, .ref s, .ref h, .ref k])), (g, .inr (2, [.int (nI n), .int (nI m), .ref a1, .ref a2, .ref a3])), (a1, .inl (cA, 14, .inl (aN fi))), (a2, .inl (cA, 14, .inl (aN se))), (a3, .inl (cA, 9, .inl (aN wa))), (s, .inr (3, [.int (nI u.1.1), .ref b1, .ref b2, .ref b3, .ref b4, .ref b5, .int u.1.2.2.2.2.2.2.1, .int u.1.2.2.2.2.2.2.2.1, .int u.1.2.2.2.2.2.2.2.2])), (b1, .inl (cA, 14, .inl (aN u.1.2.1))), (b2, .inl (cA, 14, .inl (aN u.1.2.2.1))), (b3, .inl (cA, 14, .inl u.1.2.2.2.1)), (b4, .inl (cA, 9, .inl u.1.2.2.2.2.1)), (b5, .inl (cA, 9, .inl u.1.2.2.2.2.2.1)), (h, .inr (1, [.ref o1, .ref o2, .ref o3, .ref o4, .ref o5, .int u.2.1.2.2.2.2.1, .int u.2.1.2.2.2.2.2.1, .int u.2.1.2.2.2.2.2.2])), (o1, .inl (cA, 512, .inl (aN od))), (o2, .inl (cA, 9, .inl (aN u.2.1.1))), (o3, .inl (cA, 512, .inl (aN u.2.1.2.1))), (o4, .inl (cA, 512, .inl (aN u.2.1.2.2.1))), (o5, .inl (cA, 512, .inl (aN u.2.1.2.2.2.1))), (k, .inr (0, [.int u.2.2.1, .int u.2.2.2.1, .int u.2.2.2.2.1, .int u.2.2.2.2.2.1, .int u.2.2.2.2.2.2.1, .int u.2.2.2.2.2.2.2.1, .int u.2.2.2.2.2.2.2.2])), (y, .inr (5, [.int (nI n), .int (nI m), .ref p1, .ref p2, .ref p3, .ref p4])), (p1, .inl (cA, 14, .inl (aN fi))), (p2, .inl (cA, 14, .inl (aN se))), (p3, .inl (cA, 9, .inl (aN wa))), (p4, .inl (cA, 9, .inl v))]) [0, 1, 2, 3, 4, 5, 6, 7, 8, 9, 10, 11, 12, 13, 14, 15, 16, 17, 18, 19, 20, 21, 22] rfl (by decide) ?_
  refine s_icmp_eq 497 C dL_law_492 (by decide) (fun c1 => ?_) (fun c1 => ?_)
  · exact K u.1.1 u.1.2.1 u.1.2.2.1 u.1.2.2.2.1 u.1.2.2.2.2.1 u.1.2.2.2.2.2.1 u.1.2.2.2.2.2.2.1 u.1.2.2.2.2.2.2.2.1 u.1.2.2.2.2.2.2.2.2 n m fi se wa u.2.1.1 u.2.1.2.1 u.2.1.2.2.1 u.2.1.2.2.2.1 u.2.1.2.2.2.2.1 u.2.1.2.2.2.2.2.1 u.2.1.2.2.2.2.2.2 u.2.2.1 u.2.2.2.1 u.2.2.2.2.1 u.2.2.2.2.2.1 u.2.2.2.2.2.2.1 u.2.2.2.2.2.2.2.1 u.2.2.2.2.2.2.2.2 v hG0 hu.1 hu.2.1 hu.2.2.2.1 hu.2.2.1
  · exact absurd (witQ_un g2 hu.2.2.2.2 hv) c1
set_option maxHeartbeats 4000000 in
set_option maxRecDepth 100000 in
/-- the loop over the script -/
theorem law_loop {E : EnvT} {A : Nat → Prop} {Q : State → Prop} {D : va_G} {cA : ClassId} (x k h s b1 b2 b3 b4 b5 g a1 a2 a3 o1 o2 o3 o4 o5 : Nat) (y p1 p2 p3 p4 b : Nat) (L : Nat) (xs : Nat → Int32) (C : Cx E code rL 4 D cA 2048 600000 7302250) (hA : ∀ q, (hpE E).size ≤ q → A q) (X : scr E A b L xs) (hL : L ≤ 1536) (hx : ∀ (ws : va_W) (lv : List (Nat × Value)), ST E 4 Q 23 2239 (wf E A D ws) lv [] 503) : ∀ K i, i ≤ L + 2 → L ≤ i + K → LI E A Q D cA x k h s b1 b2 b3 b4 b5 g a1 a2 a3 o1 o2 o3 o4 o5 y p1 p2 p3 p4 b i 18 := by
  intro K
  induction K with
  | zero =>
    intro i hi1 hi2 N hd tl TW LF AH en fs fc n m fi se wa nr wt is pt al fu fw so ta ex bs bc wu ww PA hG hS hT hE9 hw0
    refine s_iload_n 3 C dL_law_18 rfl ?_
    refine s_aload_n 0 C dL_law_19 rfl ?_
    refine s_slen C X dL_law_20 ?_
    refine s_iconst (nI 3) C dL_law_21 (by decide) ?_
    refine s_isub C dL_law_22 ?_
    refine s_icmp_gt 503 C dL_law_23 (by decide) (fun c1 => ?_) (fun c1 => ?_)
    · exact hx _ _
    · have hi : i + 3 ≤ L := gt3 hL hi1 c1
      exact absurd hi (by omega)
  | succ K ih =>
    intro i hi1 hi2 N hd tl TW LF AH en fs fc n m fi se wa nr wt is pt al fu fw so ta ex bs bc wu ww PA hG hS hT hE9 hw0
    refine s_iload_n 3 C dL_law_18 rfl ?_
    refine s_aload_n 0 C dL_law_19 rfl ?_
    refine s_slen C X dL_law_20 ?_
    refine s_iconst (nI 3) C dL_law_21 (by decide) ?_
    refine s_isub C dL_law_22 ?_
    refine s_icmp_gt 503 C dL_law_23 (by decide) (fun c1 => ?_) (fun c1 => ?_)
    · exact hx _ _
    · have hi : i + 3 ≤ L := gt3 hL hi1 c1
      have K9 : LI E A Q D cA x k h s b1 b2 b3 b4 b5 g a1 a2 a3 o1 o2 o3 o4 o5 y p1 p2 p3 p4 b i 497 := by
        intro N hd tl TW LF AH en fs fc n m fi se wa nr wt is pt al fu fw so ta ex bs bc wu ww PA hG hS hT hE9 hw0
        refine s_iinc (j := 3) (nI (i + 3)) [(0, .ref b), (1, .ref x), (2, .ref y), (3, .int (nI (i + 3)))] [1, 2, 3, 0] C dL_law_497 rfl (inc3 _) (by decide) rfl ?_
        refine s_goto (tgt := 18) C dL_law_500 (by decide) ?_
        exact ih (i + 3) (by omega) (by omega) N hd tl TW LF AH en fs fc n m fi se wa nr wt is pt al fu fw so ta ex bs bc wu ww PA hG hS hT hE9 hw0
      refine s_aload_n 0 C dL_law_26 rfl ?_
      refine s_iload_n 3 C dL_law_27 rfl ?_
      refine s_sld C X hL dL_law_28 (by omega) ?_
      refine s_bipush (nI 31) C dL_law_29 (by decide) ?_
      refine s_iand C dL_law_31 ?_
      obtain ⟨j, hj, ej⟩ := and31 (xs i)
      refine s_top ej ?_
      rcases Nat.lt_or_ge 16 j with hj2 | hj2
      · exact s_tout 497 C dL_law_32 hj2 hj (by decide) (K9 N hd tl TW LF AH en fs fc n m fi se wa nr wt is pt al fu fw so ta ex bs bc wu ww PA hG hS hT hE9 hw0)
      · rcases (show j = 0 ∨ j = 1 ∨ j = 2 ∨ j = 3 ∨ j = 4 ∨ j = 5 ∨ j = 6 ∨ j = 7 ∨ j = 8 ∨ j = 9 ∨ j = 10 ∨ j = 11 ∨ j = 12 ∨ j = 13 ∨ j = 14 ∨ j = 15 ∨ j = 16 by omega) with rfl | rfl | rfl | rfl | rfl | rfl | rfl | rfl | rfl | rfl | rfl | rfl | rfl | rfl | rfl | rfl | rfl
        · exact s_tin 116 C dL_law_32 (by decide) rfl (by decide) (lc_begin x k h s b1 b2 b3 b4 b5 g a1 a2 a3 o1 o2 o3 o4 o5 y p1 p2 p3 p4 b L i xs C hA X hL hi K9 N hd tl TW LF AH en fs fc n m fi se wa nr wt is pt al fu fw so ta ex bs bc wu ww PA hG hS hT hE9 hw0)
        · exact s_tin 139 C dL_law_32 (by decide) rfl (by decide) (lc_edge x k h s b1 b2 b3 b4 b5 g a1 a2 a3 o1 o2 o3 o4 o5 y p1 p2 p3 p4 b L i xs C hA X hL hi K9 N hd tl TW LF AH en fs fc n m fi se wa nr wt is pt al fu fw so ta ex bs bc wu ww PA hG hS hT hE9 hw0)
        · exact s_tin 172 C dL_law_32 (by decide) rfl (by decide) (lc_drop x k h s b1 b2 b3 b4 b5 g a1 a2 a3 o1 o2 o3 o4 o5 y p1 p2 p3 p4 b L i xs C hA X hL hi K9 N hd tl TW LF AH en fs fc n m fi se wa nr wt is pt al fu fw so ta ex bs bc wu ww PA hG hS hT hE9 hw0)
        · exact s_tin 195 C dL_law_32 (by decide) rfl (by decide) (lc_ask x k h s b1 b2 b3 b4 b5 g a1 a2 a3 o1 o2 o3 o4 o5 y p1 p2 p3 p4 b L i xs C hA X hL hi K9 N hd tl TW LF AH en fs fc n m fi se wa nr wt is pt al fu fw so ta ex bs bc wu ww PA hG hS hT hE9 hw0)
        · exact s_tin 228 C dL_law_32 (by decide) rfl (by decide) (lc_vertices x k h s b1 b2 b3 b4 b5 g a1 a2 a3 o1 o2 o3 o4 o5 y p1 p2 p3 p4 b L i xs C hA X hL hi K9 N hd tl TW LF AH en fs fc n m fi se wa nr wt is pt al fu fw so ta ex bs bc wu ww PA hG hS hT hE9 hw0)
        · exact s_tin 241 C dL_law_32 (by decide) rfl (by decide) (lc_edges x k h s b1 b2 b3 b4 b5 g a1 a2 a3 o1 o2 o3 o4 o5 y p1 p2 p3 p4 b L i xs C hA X hL hi K9 N hd tl TW LF AH en fs fc n m fi se wa nr wt is pt al fu fw so ta ex bs bc wu ww PA hG hS hT hE9 hw0)
        · exact s_tin 254 C dL_law_32 (by decide) rfl (by decide) (lc_end x k h s b1 b2 b3 b4 b5 g a1 a2 a3 o1 o2 o3 o4 o5 y p1 p2 p3 p4 b L i xs C hA X hL hi K9 N hd tl TW LF AH en fs fc n m fi se wa nr wt is pt al fu fw so ta ex bs bc wu ww PA hG hS hT hE9 hw0)
        · exact s_tin 287 C dL_law_32 (by decide) rfl (by decide) (lc_demand x k h s b1 b2 b3 b4 b5 g a1 a2 a3 o1 o2 o3 o4 o5 y p1 p2 p3 p4 b L i xs C hA X hL hi K9 N hd tl TW LF AH en fs fc n m fi se wa nr wt is pt al fu fw so ta ex bs bc wu ww PA hG hS hT hE9 hw0)
        · exact s_tin 310 C dL_law_32 (by decide) rfl (by decide) (lc_judge x k h s b1 b2 b3 b4 b5 g a1 a2 a3 o1 o2 o3 o4 o5 y p1 p2 p3 p4 b L i xs C hA X hL hi K9 N hd tl TW LF AH en fs fc n m fi se wa nr wt is pt al fu fw so ta ex bs bc wu ww PA hG hS hT hE9 hw0)
        · exact s_tin 333 C dL_law_32 (by decide) rfl (by decide) (lc_most x k h s b1 b2 b3 b4 b5 g a1 a2 a3 o1 o2 o3 o4 o5 y p1 p2 p3 p4 b L i xs C hA X hL hi K9 N hd tl TW LF AH en fs fc n m fi se wa nr wt is pt al fu fw so ta ex bs bc wu ww PA hG hS hT hE9 hw0)
        · exact s_tin 346 C dL_law_32 (by decide) rfl (by decide) (lc_best x k h s b1 b2 b3 b4 b5 g a1 a2 a3 o1 o2 o3 o4 o5 y p1 p2 p3 p4 b L i xs C hA X hL hi K9 N hd tl TW LF AH en fs fc n m fi se wa nr wt is pt al fu fw so ta ex bs bc wu ww PA hG hS hT hE9 hw0)
        · exact s_tin 359 C dL_law_32 (by decide) rfl (by decide) (lc_factor x k h s b1 b2 b3 b4 b5 g a1 a2 a3 o1 o2 o3 o4 o5 y p1 p2 p3 p4 b L i xs C hA X hL hi K9 N hd tl TW LF AH en fs fc n m fi se wa nr wt is pt al fu fw so ta ex bs bc wu ww PA hG hS hT hE9 hw0)
        · exact s_tin 372 C dL_law_32 (by decide) rfl (by decide) (lc_role x k h s b1 b2 b3 b4 b5 g a1 a2 a3 o1 o2 o3 o4 o5 y p1 p2 p3 p4 b L i xs C hA X hL hi K9 N hd tl TW LF AH en fs fc n m fi se wa nr wt is pt al fu fw so ta ex bs bc wu ww PA hG hS hT hE9 hw0)
        · exact s_tin 395 C dL_law_32 (by decide) rfl (by decide) (lc_slack x k h s b1 b2 b3 b4 b5 g a1 a2 a3 o1 o2 o3 o4 o5 y p1 p2 p3 p4 b L i xs C hA X hL hi K9 N hd tl TW LF AH en fs fc n m fi se wa nr wt is pt al fu fw so ta ex bs bc wu ww PA hG hS hT hE9 hw0)
        · exact s_tin 418 C dL_law_32 (by decide) rfl (by decide) (lc_gain x k h s b1 b2 b3 b4 b5 g a1 a2 a3 o1 o2 o3 o4 o5 y p1 p2 p3 p4 b L i xs C hA X hL hi K9 N hd tl TW LF AH en fs fc n m fi se wa nr wt is pt al fu fw so ta ex bs bc wu ww PA hG hS hT hE9 hw0)
        · exact s_tin 441 C dL_law_32 (by decide) rfl (by decide) (lc_bound x k h s b1 b2 b3 b4 b5 g a1 a2 a3 o1 o2 o3 o4 o5 y p1 p2 p3 p4 b L i xs C hA X hL hi K9 N hd tl TW LF AH en fs fc n m fi se wa nr wt is pt al fu fw so ta ex bs bc wu ww PA hG hS hT hE9 hw0)
        · exact s_tin 474 C dL_law_32 (by decide) rfl (by decide) (lc_witness x k h s b1 b2 b3 b4 b5 g a1 a2 a3 o1 o2 o3 o4 o5 y p1 p2 p3 p4 b L i xs C hA X hL hi K9 N hd tl TW LF AH en fs fc n m fi se wa nr wt is pt al fu fw so ta ex bs bc wu ww PA hG hS hT hE9 hw0)
set_option maxHeartbeats 4000000 in
set_option maxRecDepth 100000 in
/-- from the entry to the end -/
theorem law_all {E : EnvT} {A : Nat → Prop} {Q : State → Prop} {D : va_G} {cA : ClassId} (b L : Nat) (xs : Nat → Int32) (C : Cx E code rL 4 D cA 2048 600000 7302250) (hN : nstP E.2.2.2.2.1) (hA : ∀ q, (hpE E).size ≤ q → A q) (X : scr E A b L xs) (hL : L ≤ 1536) (hx : ∀ (ws : va_W) (lv : List (Nat × Value)), ST E 4 Q 23 2239 (wf E A D ws) lv [] 503) : ST E 4 Q 0 0 (wf E A D []) [(0, .ref b)] [] 0 := by
  refine s_new (ci := 4) [.null, .null, .null, .null] C hA inF tyF_ok clL_7 insF iniF dL_law_0 rfl (fun j hj => by rcases (show j = 0 ∨ j = 1 ∨ j = 2 ∨ j = 3 by omega) with rfl | rfl | rfl | rfl <;> rfl) (Nat.le_of_ble_eq_true rfl) (Nat.le_of_ble_eq_true rfl) (fun x => ?_)
  refine s_eqw (ws' := [(x, .inr (4, [.null, .null, .null, .null]))]) rfl ?_
  refine s_dup C dL_law_3 rfl ?_
  refine s_callCX (n := 0) (wr := []) [0] [] [.ref x] C hN hA (kF_init E.2.1 D cA x) kcF_init mlL_9 imF_init iniF dL_law_4 rfl (by decide +kernel) rfl rfl (by decide) (by decide) (by decide) (by decide) (by decide) rfl rfl (Nat.le_of_ble_eq_true rfl) (Nat.le_of_ble_eq_true rfl) (Nat.le_of_ble_eq_true rfl) (fun uf hf => ?_)
  refine s_eqw (ws' := [(x, .inr (4, [.ref uf.1, .ref uf.2.1, .ref uf.2.2.1, .ref uf.2.2.2.1])), (uf.1, .inr (2, [.int (nI 1), .int (nI 0), .ref uf.2.2.2.2.1.1, .ref uf.2.2.2.2.1.2.1, .ref uf.2.2.2.2.1.2.2])), (uf.2.2.2.2.1.1, .inl (cA, 14, .inl (aN (fun _ => 0)))), (uf.2.2.2.2.1.2.1, .inl (cA, 14, .inl (aN (fun _ => 0)))), (uf.2.2.2.2.1.2.2, .inl (cA, 9, .inl (aN (fun _ => 0)))), (uf.2.1, .inr (3, [.int (nI 0), .ref uf.2.2.2.2.2.1.1, .ref uf.2.2.2.2.2.1.2.1, .ref uf.2.2.2.2.2.1.2.2.1, .ref uf.2.2.2.2.2.1.2.2.2.1, .ref uf.2.2.2.2.2.1.2.2.2.2, .int (nI 0), .int (nI 0), .int (nI 0)])), (uf.2.2.2.2.2.1.1, .inl (cA, 14, .inl (aN (fun _ => 0)))), (uf.2.2.2.2.2.1.2.1, .inl (cA, 14, .inl (aN (fun _ => 0)))), (uf.2.2.2.2.2.1.2.2.1, .inl (cA, 14, .inl (fun _ => 0))), (uf.2.2.2.2.2.1.2.2.2.1, .inl (cA, 9, .inl (fun _ => 0))), (uf.2.2.2.2.2.1.2.2.2.2, .inl (cA, 9, .inl (fun _ => 0))), (uf.2.2.1, .inr (1, [.ref uf.2.2.2.2.2.2.1, .ref uf.2.2.2.2.2.2.2.1, .ref uf.2.2.2.2.2.2.2.2.1, .ref uf.2.2.2.2.2.2.2.2.2.1, .ref uf.2.2.2.2.2.2.2.2.2.2, .int 0, .int 0, .int 0])), (uf.2.2.2.2.2.2.1, .inl (cA, 512, .inl (aN od))), (uf.2.2.2.2.2.2.2.1, .inl (cA, 9, .inl (aN (fun _ => 0)))), (uf.2.2.2.2.2.2.2.2.1, .inl (cA, 512, .inl (aN (fun _ => 0)))), (uf.2.2.2.2.2.2.2.2.2.1, .inl (cA, 512, .inl (aN (fun _ => 0)))), (uf.2.2.2.2.2.2.2.2.2.2, .inl (cA, 512, .inl (aN (fun _ => 0)))), (uf.2.2.2.1, .inr (0, [.int (nI 0), .int (nI 0), .int (nI 0), .int (nI 0), .int (nI 0), .int (nI 0), .int (nI 0)]))]) rfl ?_
  refine s_astore_n [(0, .ref b), (1, .ref x)] [1, 0] C dL_law_7 (by decide) rfl ?_
  refine s_new (ci := 5) [.int 0, .int 0, .null, .null, .null, .null] C hA inM tyM_ok clL_10 insM iniM dL_law_8 rfl (fun j hj => by rcases (show j = 0 ∨ j = 1 ∨ j = 2 ∨ j = 3 ∨ j = 4 ∨ j = 5 by omega) with rfl | rfl | rfl | rfl | rfl | rfl <;> rfl) (Nat.le_of_ble_eq_true rfl) (Nat.le_of_ble_eq_true rfl) (fun y => ?_)
  refine s_eqw (ws' := [(x, .inr (4, [.ref uf.1, .ref uf.2.1, .ref uf.2.2.1, .ref uf.2.2.2.1])), (uf.1, .inr (2, [.int (nI 1), .int (nI 0), .ref uf.2.2.2.2.1.1, .ref uf.2.2.2.2.1.2.1, .ref uf.2.2.2.2.1.2.2])), (uf.2.2.2.2.1.1, .inl (cA, 14, .inl (aN (fun _ => 0)))), (uf.2.2.2.2.1.2.1, .inl (cA, 14, .inl (aN (fun _ => 0)))), (uf.2.2.2.2.1.2.2, .inl (cA, 9, .inl (aN (fun _ => 0)))), (uf.2.1, .inr (3, [.int (nI 0), .ref uf.2.2.2.2.2.1.1, .ref uf.2.2.2.2.2.1.2.1, .ref uf.2.2.2.2.2.1.2.2.1, .ref uf.2.2.2.2.2.1.2.2.2.1, .ref uf.2.2.2.2.2.1.2.2.2.2, .int (nI 0), .int (nI 0), .int (nI 0)])), (uf.2.2.2.2.2.1.1, .inl (cA, 14, .inl (aN (fun _ => 0)))), (uf.2.2.2.2.2.1.2.1, .inl (cA, 14, .inl (aN (fun _ => 0)))), (uf.2.2.2.2.2.1.2.2.1, .inl (cA, 14, .inl (fun _ => 0))), (uf.2.2.2.2.2.1.2.2.2.1, .inl (cA, 9, .inl (fun _ => 0))), (uf.2.2.2.2.2.1.2.2.2.2, .inl (cA, 9, .inl (fun _ => 0))), (uf.2.2.1, .inr (1, [.ref uf.2.2.2.2.2.2.1, .ref uf.2.2.2.2.2.2.2.1, .ref uf.2.2.2.2.2.2.2.2.1, .ref uf.2.2.2.2.2.2.2.2.2.1, .ref uf.2.2.2.2.2.2.2.2.2.2, .int 0, .int 0, .int 0])), (uf.2.2.2.2.2.2.1, .inl (cA, 512, .inl (aN od))), (uf.2.2.2.2.2.2.2.1, .inl (cA, 9, .inl (aN (fun _ => 0)))), (uf.2.2.2.2.2.2.2.2.1, .inl (cA, 512, .inl (aN (fun _ => 0)))), (uf.2.2.2.2.2.2.2.2.2.1, .inl (cA, 512, .inl (aN (fun _ => 0)))), (uf.2.2.2.2.2.2.2.2.2.2, .inl (cA, 512, .inl (aN (fun _ => 0)))), (uf.2.2.2.1, .inr (0, [.int (nI 0), .int (nI 0), .int (nI 0), .int (nI 0), .int (nI 0), .int (nI 0), .int (nI 0)])), (y, .inr (5, [.int 0, .int 0, .null, .null, .null, .null]))]) rfl ?_
  refine s_dup C dL_law_11 rfl ?_
  refine s_callC (n := 0) (wr := [(x, .inr (4, [.ref uf.1, .ref uf.2.1, .ref uf.2.2.1, .ref uf.2.2.2.1])), (uf.1, .inr (2, [.int (nI 1), .int (nI 0), .ref uf.2.2.2.2.1.1, .ref uf.2.2.2.2.1.2.1, .ref uf.2.2.2.2.1.2.2])), (uf.2.2.2.2.1.1, .inl (cA, 14, .inl (aN (fun _ => 0)))), (uf.2.2.2.2.1.2.1, .inl (cA, 14, .inl (aN (fun _ => 0)))), (uf.2.2.2.2.1.2.2, .inl (cA, 9, .inl (aN (fun _ => 0)))), (uf.2.1, .inr (3, [.int (nI 0), .ref uf.2.2.2.2.2.1.1, .ref uf.2.2.2.2.2.1.2.1, .ref uf.2.2.2.2.2.1.2.2.1, .ref uf.2.2.2.2.2.1.2.2.2.1, .ref uf.2.2.2.2.2.1.2.2.2.2, .int (nI 0), .int (nI 0), .int (nI 0)])), (uf.2.2.2.2.2.1.1, .inl (cA, 14, .inl (aN (fun _ => 0)))), (uf.2.2.2.2.2.1.2.1, .inl (cA, 14, .inl (aN (fun _ => 0)))), (uf.2.2.2.2.2.1.2.2.1, .inl (cA, 14, .inl (fun _ => 0))), (uf.2.2.2.2.2.1.2.2.2.1, .inl (cA, 9, .inl (fun _ => 0))), (uf.2.2.2.2.2.1.2.2.2.2, .inl (cA, 9, .inl (fun _ => 0))), (uf.2.2.1, .inr (1, [.ref uf.2.2.2.2.2.2.1, .ref uf.2.2.2.2.2.2.2.1, .ref uf.2.2.2.2.2.2.2.2.1, .ref uf.2.2.2.2.2.2.2.2.2.1, .ref uf.2.2.2.2.2.2.2.2.2.2, .int 0, .int 0, .int 0])), (uf.2.2.2.2.2.2.1, .inl (cA, 512, .inl (aN od))), (uf.2.2.2.2.2.2.2.1, .inl (cA, 9, .inl (aN (fun _ => 0)))), (uf.2.2.2.2.2.2.2.2.1, .inl (cA, 512, .inl (aN (fun _ => 0)))), (uf.2.2.2.2.2.2.2.2.2.1, .inl (cA, 512, .inl (aN (fun _ => 0)))), (uf.2.2.2.2.2.2.2.2.2.2, .inl (cA, 512, .inl (aN (fun _ => 0)))), (uf.2.2.2.1, .inr (0, [.int (nI 0), .int (nI 0), .int (nI 0), .int (nI 0), .int (nI 0), .int (nI 0), .int (nI 0)]))]) [18] [0, 1, 2, 3, 4, 5, 6, 7, 8, 9, 10, 11, 12, 13, 14, 15, 16, 17] [.ref y] C hA (kM_init E.2.1 D cA y) kcM_init mlL_12 imM_init iniM dL_law_12 rfl (by decide +kernel) rfl rfl (by decide) (by decide) (by decide) (by decide) (by decide) rfl rfl (Nat.le_of_ble_eq_true rfl) (Nat.le_of_ble_eq_true rfl) (Nat.le_of_ble_eq_true rfl) (fun um hm => ?_)
  refine s_eqw (ws' := [(x, .inr (4, [.ref uf.1, .ref uf.2.1, .ref uf.2.2.1, .ref uf.2.2.2.1])), (uf.1, .inr (2, [.int (nI 1), .int (nI 0), .ref uf.2.2.2.2.1.1, .ref uf.2.2.2.2.1.2.1, .ref uf.2.2.2.2.1.2.2])), (uf.2.2.2.2.1.1, .inl (cA, 14, .inl (aN (fun _ => 0)))), (uf.2.2.2.2.1.2.1, .inl (cA, 14, .inl (aN (fun _ => 0)))), (uf.2.2.2.2.1.2.2, .inl (cA, 9, .inl (aN (fun _ => 0)))), (uf.2.1, .inr (3, [.int (nI 0), .ref uf.2.2.2.2.2.1.1, .ref uf.2.2.2.2.2.1.2.1, .ref uf.2.2.2.2.2.1.2.2.1, .ref uf.2.2.2.2.2.1.2.2.2.1, .ref uf.2.2.2.2.2.1.2.2.2.2, .int (nI 0), .int (nI 0), .int (nI 0)])), (uf.2.2.2.2.2.1.1, .inl (cA, 14, .inl (aN (fun _ => 0)))), (uf.2.2.2.2.2.1.2.1, .inl (cA, 14, .inl (aN (fun _ => 0)))), (uf.2.2.2.2.2.1.2.2.1, .inl (cA, 14, .inl (fun _ => 0))), (uf.2.2.2.2.2.1.2.2.2.1, .inl (cA, 9, .inl (fun _ => 0))), (uf.2.2.2.2.2.1.2.2.2.2, .inl (cA, 9, .inl (fun _ => 0))), (uf.2.2.1, .inr (1, [.ref uf.2.2.2.2.2.2.1, .ref uf.2.2.2.2.2.2.2.1, .ref uf.2.2.2.2.2.2.2.2.1, .ref uf.2.2.2.2.2.2.2.2.2.1, .ref uf.2.2.2.2.2.2.2.2.2.2, .int 0, .int 0, .int 0])), (uf.2.2.2.2.2.2.1, .inl (cA, 512, .inl (aN od))), (uf.2.2.2.2.2.2.2.1, .inl (cA, 9, .inl (aN (fun _ => 0)))), (uf.2.2.2.2.2.2.2.2.1, .inl (cA, 512, .inl (aN (fun _ => 0)))), (uf.2.2.2.2.2.2.2.2.2.1, .inl (cA, 512, .inl (aN (fun _ => 0)))), (uf.2.2.2.2.2.2.2.2.2.2, .inl (cA, 512, .inl (aN (fun _ => 0)))), (uf.2.2.2.1, .inr (0, [.int (nI 0), .int (nI 0), .int (nI 0), .int (nI 0), .int (nI 0), .int (nI 0), .int (nI 0)])), (y, .inr (5, [.int (nI 1), .int (nI 0), .ref um.1, .ref um.2.1, .ref um.2.2.1, .ref um.2.2.2])), (um.1, .inl (cA, 14, .inl (aN (fun _ => 0)))), (um.2.1, .inl (cA, 14, .inl (aN (fun _ => 0)))), (um.2.2.1, .inl (cA, 9, .inl (aN (fun _ => 0)))), (um.2.2.2, .inl (cA, 9, .inl (aN (fun _ => 0))))]) rfl ?_
  refine s_astore_n [(0, .ref b), (1, .ref x), (2, .ref y)] [1, 2, 0] C dL_law_15 (by decide) rfl ?_
  refine s_iconst (nI 0) C dL_law_16 (by decide) ?_
  refine s_istore_n [(0, .ref b), (1, .ref x), (2, .ref y), (3, .int (nI 0))] [1, 2, 3, 0] C dL_law_17 (by decide) rfl ?_
  refine s_widen (k := 23) (n := 2239) (Nat.le_of_ble_eq_true rfl) (Nat.le_of_ble_eq_true rfl) ?_
  exact law_loop x uf.2.2.2.1 uf.2.2.1 uf.2.1 uf.2.2.2.2.2.1.1 uf.2.2.2.2.2.1.2.1 uf.2.2.2.2.2.1.2.2.1 uf.2.2.2.2.2.1.2.2.2.1 uf.2.2.2.2.2.1.2.2.2.2 uf.1 uf.2.2.2.2.1.1 uf.2.2.2.2.1.2.1 uf.2.2.2.2.1.2.2 uf.2.2.2.2.2.2.1 uf.2.2.2.2.2.2.2.1 uf.2.2.2.2.2.2.2.2.1 uf.2.2.2.2.2.2.2.2.2.1 uf.2.2.2.2.2.2.2.2.2.2 y um.1 um.2.1 um.2.2.1 um.2.2.2 b L xs C hA X hL hx L 0 (Nat.zero_le _) (by omega) 0 (fun _ => 0) (fun _ => 0) (fun _ => 0) (fun _ => 0) (fun _ => 0) (nI 0) (nI 0) (nI 0) 1 0 (fun _ => 0) (fun _ => 0) (fun _ => 0) (fun _ => 0) (fun _ => 0) (fun _ => 0) (fun _ => 0) 0 0 0 (nI 0) (nI 0) (nI 0) (nI 0) (nI 0) (nI 0) (nI 0) (aN (fun _ => 0)) ⟨Nat.le_refl _, by decide, by decide, fun e he => absurd he (Nat.not_lt_zero _), fun _ _ => Nat.zero_le _, fun _ _ _ => rfl⟩ (Or.inl rfl) (Or.inl rfl) (Or.inl rfl) rfl
