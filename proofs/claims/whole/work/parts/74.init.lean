/-! the constructors; the words of the private ones, that only their nest mates may call -/
def nstP (U : State) : Prop := va_Nw (.methodLinkNest rF 11 yG_init rF) U ∧ va_Nw (.methodLinkNest rF 18 yS_init rF) U ∧ va_Nw (.methodLinkNest rF 32 yA_init rF) U
theorem nstP_same {u U : State} (h : u.vm = U.vm) (hZ : nstP u) : nstP U := ⟨va_Nw.same rfl h hZ.1, va_Nw.same rfl h hZ.2.1, va_Nw.same rfl h hZ.2.2⟩
theorem nstP_warm {s U : State} (hW : s.WarmedH U.vm) (hZ : nstP s) : nstP U := ⟨va_Nw.warmM hW hZ.1, va_Nw.warmM hW hZ.2.1, va_Nw.warmM hW hZ.2.2⟩
def CtVN {S : Type} (l : Launch) (y : MethodName) (cd : Cond) (d mc ms : Nat) (D : va_G) (cA : ClassId) (av : List Value) (ws : va_W) (post : S → Prop) (W1 : S → va_W) : Prop :=
  ∀ sz : Nat, Met l y (cd :: bigW) (rmL d mc ms) (va_Pc av (fun U => U.heap.size = sz ∧ va_P D cls ws U.heap ∧ va_K D cls [(cA, .int)] U ∧ va_D (fun _ => True) ws ∧ nstP U)) (va_Qv post (fun u t => va_P D cls (W1 u) t.heap ∧ va_K D cls [(cA, .int)] t ∧ va_D (va_A ws sz) (W1 u)) (va_A ws sz)) mc ms (va_A ws sz)
theorem mkVN {S : Type} {l : Launch} {y : MethodName} {cc : ByteArray} {nL d mc ms : Nat} {D : va_G} {cA : ClassId} {av : List Value} {ws : va_W} {post : S → Prop} {W1 : S → va_W} (lv0 : List (Nat × Value)) (hy : plainName y.cls = true) (hlv : lv_args 0 av = lv0) (hsl : (lg_sl av).length ≤ nL)
    (body : ∀ (E : EnvT) (A : Nat → Prop) (Q : State → Prop), E.2.1 = l → E.2.2.2.2.2.2.2.2.1.name = y.name → nstP E.2.2.2.2.1 → Cx E cc y.cls nL D cA d mc ms → (∀ q, (hpE E).size ≤ q → A q) →
      (∀ (u : S) (lv : List (Nat × Value)) (pc : Nat), decode cc pc = .ok (.return_, 1) → post u → ST E nL Q mc ms (wf E A D (W1 u)) lv [] pc) →
      ST E nL Q 0 0 (wf E A D ws) lv0 [] 0) : CtVN l y (.code y cc nL none) d mc ms D cA av ws post W1 := by
  intro sz
  refine Met.ofW (cc := cc) (maxL := nL) (ret := none) hy rfl ?_
  intro p e s m args below meth c s₁ B hml hv
  obtain ⟨rfl, hsz, hP, hK, hD0, hN⟩ := hv
  have hlocks := B.notSynchronized
  subst hsz
  have hD := hD0.self (sz := s.heap.size)
  have hl := lv_entry av (n := nL) hsl
  rw [lg_entry_eq]
  rw [hlv] at hl
  generalize (lg_sl av ++ List.replicate (nL - (lg_sl av).length) Slot.unset).toArray = ls at hl ⊢
  refine body (p, l, e, rmL d mc ms, s, m, av.toArray, below, meth, c) (va_A ws s.heap.size) _ rfl (name_of_methodNamed B.named B.method).1 hN ⟨B.exec, B.bytes, ws_in (atoms_spec (ws := .code y cc nL none :: bigW) B.pre), findClass_of_methodNamed B.named, hK, hml, Nat.le_refl _, Nat.le_refl _, Nat.le_refl _, Nat.le_refl _⟩ (fun q h => Or.inr h) ?_ s.heap [] ls ⟨hP, hD, va_S.rf⟩ hl
  intro u lv pc dg hp H locs ls2 hΦ hl2
  exact W.vret B.exec B.bytes B.returns (fun t ht hW => ⟨⟨u, rfl, hp, by rw [ht]; exact hΦ.1, va_K.moved hW.alike hK, hΦ.2.1⟩, hΦ.2.2.F ht⟩) hΦ.2.2.2.2 dg
section S74
variable {E : EnvT} {nL : Nat} {Q : State → Prop} {cells slots : Nat} {lv : List (Nat × Value)} {st rest : List Value} {pc : Nat} {cc : ByteArray} {own : String} {D : va_G} {cA : ClassId} {d mR sR : Nat}
variable {y : MethodName} {bytes : ByteArray} {maxL index n d' mc ms : Nat} {As : List Value} {b : Nat} {ws : va_W}
theorem bl3 {av : List Value} {wc : va_W} {sz : Nat} {A : Nat → Prop} {tys : List (ClassId × FieldType)} : FrameBlind (va_Pc av (fun U => U.heap.size = sz ∧ va_P D cls wc U.heap ∧ va_K D cls tys U ∧ va_D A wc ∧ nstP U)) :=
  fun a U g mk q => ⟨q.1, q.2.1, q.2.2.1, va_K.moved (u := U) (U := U.calling g mk a) (Vm.Alike.refl U.vm) q.2.2.2.1, q.2.2.2.2.1, nstP_same (u := U) (U := U.calling g mk a) rfl q.2.2.2.2.2⟩
/-- a constructor's call, of one that calls private ones of its nest -/
theorem s_callCX {S : Type} {A : Nat → Prop} {wc wr : va_W} {post : S → Prop} {W1 : S → va_W} (isC isR : List Nat) (rest : List Value) (C : Cx E cc own nL D cA d mR sR) (hN : nstP E.2.2.2.2.1) (hA : ∀ q, (hpE E).size ≤ q → A q) (hM : CtVN E.2.1 y (.code y bytes maxL none) d' mc ms D cA (.ref b :: As) wc post W1) (hk0 : .code y bytes maxL none ∈ bigW) (hlk : .methodLink own index y ∈ bigW) (him : .instanceMethod y ∈ bigW) (hii : .initialized y.cls ∈ bigW) (dg : decode cc pc = .ok (.invokespecial index, 3)) (hy1 : y.name = "<init>") (hd : y.cls ≠ "java/lang/invoke/MethodHandle" ∧ y.cls ≠ "java/lang/invoke/VarHandle" ∧ (parseMethodDescriptor y.desc).map (fun d => d.parameters.length) = some n) (hC : isC.map (fun i => ws[i]?) = wc.map some) (hR : isR.map (fun i => ws[i]?) = wr.map some) (hnC : va_nd isC = true) (hnR : va_nd isR = true) (hdis : ∀ i ∈ isR, i ∉ isC) (hdd : d' < d) (hmx : maxL ≤ 21) (hn : As.length = n) (hst : st = As.reverse ++ .ref b :: rest) (hroom : (rest.map fun v => v.category).sum ≤ 8) (hc : cells + mc ≤ mR) (hs : slots + ms ≤ sR)
    (k : ∀ u : S, post u → ST E nL Q (cells + mc) (slots + ms) (wf E A D (wr ++ W1 u)) lv rest (pc + 3)) : ST E nL Q cells slots (wf E A D ws) lv st pc := by
  intro H locs ls hq hl
  obtain ⟨hP, hD, hS⟩ := hq
  have hPc := hP.sub (ws' := wc) isC (fm_of hC)
  have hDc := hD.sub (ws' := wc) isC hnC hC
  have hFc := va_free (wc := wc) hD hS hA isC hC
  have hK := C.2.2.2.2.1
  have hc' := Nat.le_trans hc C.2.2.2.2.2.2.2.2.1
  have hs' := Nat.le_trans hs C.2.2.2.2.2.2.2.2.2
  refine va_callv (va_runI (g := F0 E.2.2.2.2.2.1 pc ls st) (As := As) (rest := rest) ⟨C.1, C.2.1, C.2.2.2.2.2.1, C.2.2.2.1, C.2.2.1⟩ (hM H.size) (cwI n C.2.2.1 (gI hk0) rfl rfl rfl (C.2.2.1 _ hii) (C.2.2.1 _ hlk) (C.2.2.1 _ him) hy1 hd (cxR C hdd hmx)) ⟨bl3, fun U hU hW => ⟨rfl, by rw [hU], by rw [hU]; exact hPc, va_K.moved hW.alike hK, hDc.weaken (fun _ _ _ _ => trivial), nstP_warm hW hN⟩⟩ rfl hn hl.1 hst (lv_room hroom) dg ⟨hc', hs'⟩) hS (fun q _ h => hFc q h) hFc (fun u t H1 locs1 ht hvm hw hB hz1 hk1 hS1 => ?_)
  obtain ⟨hP1, hK1, hD1⟩ := hB
  rw [ht] at hP1
  obtain ⟨hP2, hD2⟩ := va_join (wr := wr) (w1 := W1 u) hP hD isC isR hC hR hnR hdis hk1 hFc hP1 hD1
  exact k u hw H1 locs1 ls ⟨hP2, hD2, hS1⟩ hl
end S74
set_option maxHeartbeats 4000000 in
set_option maxRecDepth 100000 in
/-- G_init -/
theorem kG_init (l : Launch) (D : va_G) (cA : ClassId) (y : Nat) : CtV (S := Nat × Nat × Nat) l yG_init (.code yG_init cG_init 1 none) 1 3 37 D cA [.ref y] [(y, .inr (2, [.int 0, .int 0, .null, .null, .null]))] (fun _ => True) (fun u => [(y, .inr (2, [.int (nI 1), .int (nI 0), .ref u.1, .ref u.2.1, .ref u.2.2])), (u.1, .inl (cA, 14, .inl (aN (fun _ => 0)))), (u.2.1, .inl (cA, 14, .inl (aN (fun _ => 0)))), (u.2.2, .inl (cA, 9, .inl (aN (fun _ => 0))))]) := by
  refine mkV [(0, .ref y)] (by decide) rfl (Nat.le_of_ble_eq_true rfl) ?_
  intro E A Q hE hi C hA hret
  refine s_aload_n 0 C dG_init_0 rfl ?_
  refine s_objInit C mlG_3 dG_init_1 (by decide) (Nat.le_of_ble_eq_true rfl) ?_
  refine s_aload_n 0 C dG_init_4 rfl ?_
  refine s_iconst (nI 1) C dG_init_5 (by decide) ?_
  refine s_put 0 0 [(y, .inr (2, [.int (nI 1), .int 0, .null, .null, .null]))] C inG tyG_ok nmG flG_9 dG_init_6 rfl rfl (by decide) rfl rfl rfl (Nat.le_of_ble_eq_true rfl) rfl ?_
  refine s_aload_n 0 C dG_init_9 rfl ?_
  refine s_bipush (nI 14) C dG_init_10 (by decide) ?_
  refine s_newa C hA dG_init_12 (by decide) (by decide) (by decide) (fun q1 => ?_)
  refine s_eqw (ws' := [(y, .inr (2, [.int (nI 1), .int 0, .null, .null, .null])), (q1, .inl (cA, 14, .inl (fun _ => 0)))]) rfl ?_
  refine s_putF 0 2 [(y, .inr (2, [.int (nI 1), .int 0, .ref q1, .null, .null])), (q1, .inl (cA, 14, .inl (fun _ => 0)))] C hi inG tyG_ok nmG flG_15 dG_init_14 rfl rfl (by decide) rfl rfl rfl rfl (Nat.le_of_ble_eq_true rfl) rfl ?_
  refine s_aload_n 0 C dG_init_17 rfl ?_
  refine s_bipush (nI 14) C dG_init_18 (by decide) ?_
  refine s_newa C hA dG_init_20 (by decide) (by decide) (by decide) (fun q2 => ?_)
  refine s_eqw (ws' := [(y, .inr (2, [.int (nI 1), .int 0, .ref q1, .null, .null])), (q1, .inl (cA, 14, .inl (fun _ => 0))), (q2, .inl (cA, 14, .inl (fun _ => 0)))]) rfl ?_
  refine s_putF 0 3 [(y, .inr (2, [.int (nI 1), .int 0, .ref q1, .ref q2, .null])), (q1, .inl (cA, 14, .inl (fun _ => 0))), (q2, .inl (cA, 14, .inl (fun _ => 0)))] C hi inG tyG_ok nmG flG_19 dG_init_22 rfl rfl (by decide) rfl rfl rfl rfl (Nat.le_of_ble_eq_true rfl) rfl ?_
  refine s_aload_n 0 C dG_init_25 rfl ?_
  refine s_bipush (nI 9) C dG_init_26 (by decide) ?_
  refine s_newa C hA dG_init_28 (by decide) (by decide) (by decide) (fun q3 => ?_)
  refine s_eqw (ws' := [(y, .inr (2, [.int (nI 1), .int 0, .ref q1, .ref q2, .null])), (q1, .inl (cA, 14, .inl (fun _ => 0))), (q2, .inl (cA, 14, .inl (fun _ => 0))), (q3, .inl (cA, 9, .inl (fun _ => 0)))]) rfl ?_
  refine s_putF 0 4 [(y, .inr (2, [.int (nI 1), .int 0, .ref q1, .ref q2, .ref q3])), (q1, .inl (cA, 14, .inl (fun _ => 0))), (q2, .inl (cA, 14, .inl (fun _ => 0))), (q3, .inl (cA, 9, .inl (fun _ => 0)))] C hi inG tyG_ok nmG flG_22 dG_init_30 rfl rfl (by decide) rfl rfl rfl rfl (Nat.le_of_ble_eq_true rfl) rfl ?_
  refine s_eqw (ws' := [(y, .inr (2, [.int (nI 1), .int (nI 0), .ref q1, .ref q2, .ref q3])), (q1, .inl (cA, 14, .inl (aN (fun _ => 0)))), (q2, .inl (cA, 14, .inl (aN (fun _ => 0)))), (q3, .inl (cA, 9, .inl (aN (fun _ => 0))))]) (by rw [nI_0, ← aN_0]) ?_
  exact hret (q1, q2, q3) _ _ dG_init_33 trivial
set_option maxHeartbeats 4000000 in
set_option maxRecDepth 100000 in
/-- M_init -/
theorem kM_init (l : Launch) (D : va_G) (cA : ClassId) (y : Nat) : CtV (S := Nat × Nat × Nat × Nat) l yM_init (.code yM_init cM_init 1 none) 1 4 46 D cA [.ref y] [(y, .inr (5, [.int 0, .int 0, .null, .null, .null, .null]))] (fun _ => True) (fun u => [(y, .inr (5, [.int (nI 1), .int (nI 0), .ref u.1, .ref u.2.1, .ref u.2.2.1, .ref u.2.2.2])), (u.1, .inl (cA, 14, .inl (aN (fun _ => 0)))), (u.2.1, .inl (cA, 14, .inl (aN (fun _ => 0)))), (u.2.2.1, .inl (cA, 9, .inl (aN (fun _ => 0)))), (u.2.2.2, .inl (cA, 9, .inl (aN (fun _ => 0))))]) := by
  refine mkV [(0, .ref y)] (by decide) rfl (Nat.le_of_ble_eq_true rfl) ?_
  intro E A Q hE hi C hA hret
  refine s_aload_n 0 C dM_init_0 rfl ?_
  refine s_objInit C mlM_1 dM_init_1 (by decide) (Nat.le_of_ble_eq_true rfl) ?_
  refine s_aload_n 0 C dM_init_4 rfl ?_
  refine s_iconst (nI 1) C dM_init_5 (by decide) ?_
  refine s_put 0 0 [(y, .inr (5, [.int (nI 1), .int 0, .null, .null, .null, .null]))] C inM tyM_ok nmM flM_7 dM_init_6 rfl rfl (by decide) rfl rfl rfl (Nat.le_of_ble_eq_true rfl) rfl ?_
  refine s_aload_n 0 C dM_init_9 rfl ?_
  refine s_bipush (nI 14) C dM_init_10 (by decide) ?_
  refine s_newa C hA dM_init_12 (by decide) (by decide) (by decide) (fun q1 => ?_)
  refine s_eqw (ws' := [(y, .inr (5, [.int (nI 1), .int 0, .null, .null, .null, .null])), (q1, .inl (cA, 14, .inl (fun _ => 0)))]) rfl ?_
  refine s_putF 0 2 [(y, .inr (5, [.int (nI 1), .int 0, .ref q1, .null, .null, .null])), (q1, .inl (cA, 14, .inl (fun _ => 0)))] C hi inM tyM_ok nmM flM_13 dM_init_14 rfl rfl (by decide) rfl rfl rfl rfl (Nat.le_of_ble_eq_true rfl) rfl ?_
  refine s_aload_n 0 C dM_init_17 rfl ?_
  refine s_bipush (nI 14) C dM_init_18 (by decide) ?_
  refine s_newa C hA dM_init_20 (by decide) (by decide) (by decide) (fun q2 => ?_)
  refine s_eqw (ws' := [(y, .inr (5, [.int (nI 1), .int 0, .ref q1, .null, .null, .null])), (q1, .inl (cA, 14, .inl (fun _ => 0))), (q2, .inl (cA, 14, .inl (fun _ => 0)))]) rfl ?_
  refine s_putF 0 3 [(y, .inr (5, [.int (nI 1), .int 0, .ref q1, .ref q2, .null, .null])), (q1, .inl (cA, 14, .inl (fun _ => 0))), (q2, .inl (cA, 14, .inl (fun _ => 0)))] C hi inM tyM_ok nmM flM_17 dM_init_22 rfl rfl (by decide) rfl rfl rfl rfl (Nat.le_of_ble_eq_true rfl) rfl ?_
  refine s_aload_n 0 C dM_init_25 rfl ?_
  refine s_bipush (nI 9) C dM_init_26 (by decide) ?_
  refine s_newa C hA dM_init_28 (by decide) (by decide) (by decide) (fun q3 => ?_)
  refine s_eqw (ws' := [(y, .inr (5, [.int (nI 1), .int 0, .ref q1, .ref q2, .null, .null])), (q1, .inl (cA, 14, .inl (fun _ => 0))), (q2, .inl (cA, 14, .inl (fun _ => 0))), (q3, .inl (cA, 9, .inl (fun _ => 0)))]) rfl ?_
  refine s_putF 0 4 [(y, .inr (5, [.int (nI 1), .int 0, .ref q1, .ref q2, .ref q3, .null])), (q1, .inl (cA, 14, .inl (fun _ => 0))), (q2, .inl (cA, 14, .inl (fun _ => 0))), (q3, .inl (cA, 9, .inl (fun _ => 0)))] C hi inM tyM_ok nmM flM_20 dM_init_30 rfl rfl (by decide) rfl rfl rfl rfl (Nat.le_of_ble_eq_true rfl) rfl ?_
  refine s_aload_n 0 C dM_init_33 rfl ?_
  refine s_bipush (nI 9) C dM_init_34 (by decide) ?_
  refine s_newa C hA dM_init_36 (by decide) (by decide) (by decide) (fun q4 => ?_)
  refine s_eqw (ws' := [(y, .inr (5, [.int (nI 1), .int 0, .ref q1, .ref q2, .ref q3, .null])), (q1, .inl (cA, 14, .inl (fun _ => 0))), (q2, .inl (cA, 14, .inl (fun _ => 0))), (q3, .inl (cA, 9, .inl (fun _ => 0))), (q4, .inl (cA, 9, .inl (fun _ => 0)))]) rfl ?_
  refine s_putF 0 5 [(y, .inr (5, [.int (nI 1), .int 0, .ref q1, .ref q2, .ref q3, .ref q4])), (q1, .inl (cA, 14, .inl (fun _ => 0))), (q2, .inl (cA, 14, .inl (fun _ => 0))), (q3, .inl (cA, 9, .inl (fun _ => 0))), (q4, .inl (cA, 9, .inl (fun _ => 0)))] C hi inM tyM_ok nmM flM_23 dM_init_38 rfl rfl (by decide) rfl rfl rfl rfl (Nat.le_of_ble_eq_true rfl) rfl ?_
  refine s_eqw (ws' := [(y, .inr (5, [.int (nI 1), .int (nI 0), .ref q1, .ref q2, .ref q3, .ref q4])), (q1, .inl (cA, 14, .inl (aN (fun _ => 0)))), (q2, .inl (cA, 14, .inl (aN (fun _ => 0)))), (q3, .inl (cA, 9, .inl (aN (fun _ => 0)))), (q4, .inl (cA, 9, .inl (aN (fun _ => 0))))]) (by rw [nI_0, ← aN_0]) ?_
  exact hret (q1, q2, q3, q4) _ _ dM_init_41 trivial
set_option maxHeartbeats 4000000 in
set_option maxRecDepth 100000 in
/-- Answers() -/
theorem kA_init (l : Launch) (D : va_G) (cA : ClassId) (k : Nat) : CtV (S := Unit) l yA_init (.code yA_init cA_init 1 none) 1 0 0 D cA [.ref k] [(k, .inr (0, [.int 0, .int 0, .int 0, .int 0, .int 0, .int 0, .int 0]))] (fun _ => True) (fun _ => [(k, .inr (0, [.int (nI 0), .int (nI 0), .int (nI 0), .int (nI 0), .int (nI 0), .int (nI 0), .int (nI 0)]))]) := by
  refine mkV [(0, .ref k)] (by decide) rfl (Nat.le_of_ble_eq_true rfl) ?_
  intro E A Q hE hi C hA hret
  refine s_aload_n 0 C dA_init_0 rfl ?_
  refine s_objInit C mlA_1 dA_init_1 (by decide) (Nat.le_of_ble_eq_true rfl) ?_
  refine s_eqw (ws' := [(k, .inr (0, [.int (nI 0), .int (nI 0), .int (nI 0), .int (nI 0), .int (nI 0), .int (nI 0), .int (nI 0)]))]) (by rw [nI_0]) ?_
  exact hret () _ _ dA_init_4 trivial
set_option maxHeartbeats 4000000 in
set_option maxRecDepth 100000 in
/-- FactorDesk() -/
theorem kF_init (l : Launch) (D : va_G) (cA : ClassId) (x : Nat) : CtVN (S := Nat × Nat × Nat × Nat × (Nat × Nat × Nat) × (Nat × Nat × Nat × Nat × Nat) × (Nat × Nat × Nat × Nat × Nat)) l yF_init (.code yF_init cF_init 1 none) 2 17 2183 D cA [.ref x] [(x, .inr (4, [.null, .null, .null, .null]))] (fun _ => True) (fun u => [(x, .inr (4, [.ref u.1, .ref u.2.1, .ref u.2.2.1, .ref u.2.2.2.1])), (u.1, .inr (2, [.int (nI 1), .int (nI 0), .ref u.2.2.2.2.1.1, .ref u.2.2.2.2.1.2.1, .ref u.2.2.2.2.1.2.2])), (u.2.2.2.2.1.1, .inl (cA, 14, .inl (aN (fun _ => 0)))), (u.2.2.2.2.1.2.1, .inl (cA, 14, .inl (aN (fun _ => 0)))), (u.2.2.2.2.1.2.2, .inl (cA, 9, .inl (aN (fun _ => 0)))), (u.2.1, .inr (3, [.int (nI 0), .ref u.2.2.2.2.2.1.1, .ref u.2.2.2.2.2.1.2.1, .ref u.2.2.2.2.2.1.2.2.1, .ref u.2.2.2.2.2.1.2.2.2.1, .ref u.2.2.2.2.2.1.2.2.2.2, .int (nI 0), .int (nI 0), .int (nI 0)])), (u.2.2.2.2.2.1.1, .inl (cA, 14, .inl (aN (fun _ => 0)))), (u.2.2.2.2.2.1.2.1, .inl (cA, 14, .inl (aN (fun _ => 0)))), (u.2.2.2.2.2.1.2.2.1, .inl (cA, 14, .inl (fun _ => 0))), (u.2.2.2.2.2.1.2.2.2.1, .inl (cA, 9, .inl (fun _ => 0))), (u.2.2.2.2.2.1.2.2.2.2, .inl (cA, 9, .inl (fun _ => 0))), (u.2.2.1, .inr (1, [.ref u.2.2.2.2.2.2.1, .ref u.2.2.2.2.2.2.2.1, .ref u.2.2.2.2.2.2.2.2.1, .ref u.2.2.2.2.2.2.2.2.2.1, .ref u.2.2.2.2.2.2.2.2.2.2, .int 0, .int 0, .int 0])), (u.2.2.2.2.2.2.1, .inl (cA, 512, .inl (aN od))), (u.2.2.2.2.2.2.2.1, .inl (cA, 9, .inl (aN (fun _ => 0)))), (u.2.2.2.2.2.2.2.2.1, .inl (cA, 512, .inl (aN (fun _ => 0)))), (u.2.2.2.2.2.2.2.2.2.1, .inl (cA, 512, .inl (aN (fun _ => 0)))), (u.2.2.2.2.2.2.2.2.2.2, .inl (cA, 512, .inl (aN (fun _ => 0)))), (u.2.2.2.1, .inr (0, [.int (nI 0), .int (nI 0), .int (nI 0), .int (nI 0), .int (nI 0), .int (nI 0), .int (nI 0)]))]) := by
  refine mkVN [(0, .ref x)] (by decide) rfl (Nat.le_of_ble_eq_true rfl) ?_
  intro E A Q hE hi hN C hA hret
  refine s_aload_n 0 C dF_init_0 rfl ?_
  refine s_objInit C mlF_3 dF_init_1 (by decide) (Nat.le_of_ble_eq_true rfl) ?_
  refine s_aload_n 0 C dF_init_4 rfl ?_
  refine s_new (ci := 2) [.int 0, .int 0, .null, .null, .null] C hA inG tyG_ok clF_9 insG iniG dF_init_5 rfl (fun j hj => by rcases (show j = 0 ∨ j = 1 ∨ j = 2 ∨ j = 3 ∨ j = 4 by omega) with rfl | rfl | rfl | rfl | rfl <;> rfl) (by decide) (by decide) (fun g => ?_)
  refine s_eqw (ws' := [(x, .inr (4, [.null, .null, .null, .null])), (g, .inr (2, [.int 0, .int 0, .null, .null, .null]))]) rfl ?_
  refine s_dup C dF_init_8 rfl ?_
  refine s_callCN (n := 0) (wr := [(x, .inr (4, [.null, .null, .null, .null]))]) (host := rF) [1] [0] [.ref g, .ref x] C hA (kG_init E.2.1 D cA g) kcG_init hN.1 imG_init iniG dF_init_9 rfl (by decide +kernel) rfl rfl (by decide) (by decide) (by decide) (by decide) (by decide) rfl rfl (Nat.le_of_ble_eq_true rfl) (by decide) (by decide) (fun ug hg => ?_)
  refine s_eqw (ws' := [(x, .inr (4, [.null, .null, .null, .null])), (g, .inr (2, [.int (nI 1), .int (nI 0), .ref ug.1, .ref ug.2.1, .ref ug.2.2])), (ug.1, .inl (cA, 14, .inl (aN (fun _ => 0)))), (ug.2.1, .inl (cA, 14, .inl (aN (fun _ => 0)))), (ug.2.2, .inl (cA, 9, .inl (aN (fun _ => 0))))]) rfl ?_
  refine s_putF 0 0 [(x, .inr (4, [.ref g, .null, .null, .null])), (g, .inr (2, [.int (nI 1), .int (nI 0), .ref ug.1, .ref ug.2.1, .ref ug.2.2])), (ug.1, .inl (cA, 14, .inl (aN (fun _ => 0)))), (ug.2.1, .inl (cA, 14, .inl (aN (fun _ => 0)))), (ug.2.2, .inl (cA, 9, .inl (aN (fun _ => 0))))] C hi inF tyF_ok nmF flF_12 dF_init_12 rfl rfl (by decide) rfl rfl rfl rfl (Nat.le_of_ble_eq_true rfl) rfl ?_
  refine s_aload_n 0 C dF_init_15 rfl ?_
  refine s_new (ci := 3) [.int 0, .null, .null, .null, .null, .null, .int 0, .int 0, .int 0] C hA inS tyS_ok clF_16 insS iniS dF_init_16 rfl (fun j hj => by rcases (show j = 0 ∨ j = 1 ∨ j = 2 ∨ j = 3 ∨ j = 4 ∨ j = 5 ∨ j = 6 ∨ j = 7 ∨ j = 8 by omega) with rfl | rfl | rfl | rfl | rfl | rfl | rfl | rfl | rfl <;> rfl) (by decide) (by decide) (fun s => ?_)
  refine s_eqw (ws' := [(x, .inr (4, [.ref g, .null, .null, .null])), (g, .inr (2, [.int (nI 1), .int (nI 0), .ref ug.1, .ref ug.2.1, .ref ug.2.2])), (ug.1, .inl (cA, 14, .inl (aN (fun _ => 0)))), (ug.2.1, .inl (cA, 14, .inl (aN (fun _ => 0)))), (ug.2.2, .inl (cA, 9, .inl (aN (fun _ => 0)))), (s, .inr (3, [.int 0, .null, .null, .null, .null, .null, .int 0, .int 0, .int 0]))]) rfl ?_
  refine s_dup C dF_init_19 rfl ?_
  refine s_callCN (n := 0) (wr := [(x, .inr (4, [.ref g, .null, .null, .null])), (g, .inr (2, [.int (nI 1), .int (nI 0), .ref ug.1, .ref ug.2.1, .ref ug.2.2])), (ug.1, .inl (cA, 14, .inl (aN (fun _ => 0)))), (ug.2.1, .inl (cA, 14, .inl (aN (fun _ => 0)))), (ug.2.2, .inl (cA, 9, .inl (aN (fun _ => 0))))]) (host := rF) [5] [0, 1, 2, 3, 4] [.ref s, .ref x] C hA (kS_init E.2.1 D cA s) kcS_init hN.2.1 imS_init iniS dF_init_20 rfl (by decide +kernel) rfl rfl (by decide) (by decide) (by decide) (by decide) (by decide) rfl rfl (Nat.le_of_ble_eq_true rfl) (by decide) (by decide) (fun us hs => ?_)
  refine s_eqw (ws' := [(x, .inr (4, [.ref g, .null, .null, .null])), (g, .inr (2, [.int (nI 1), .int (nI 0), .ref ug.1, .ref ug.2.1, .ref ug.2.2])), (ug.1, .inl (cA, 14, .inl (aN (fun _ => 0)))), (ug.2.1, .inl (cA, 14, .inl (aN (fun _ => 0)))), (ug.2.2, .inl (cA, 9, .inl (aN (fun _ => 0)))), (s, .inr (3, [.int (nI 0), .ref us.1, .ref us.2.1, .ref us.2.2.1, .ref us.2.2.2.1, .ref us.2.2.2.2, .int (nI 0), .int (nI 0), .int (nI 0)])), (us.1, .inl (cA, 14, .inl (aN (fun _ => 0)))), (us.2.1, .inl (cA, 14, .inl (aN (fun _ => 0)))), (us.2.2.1, .inl (cA, 14, .inl (fun _ => 0))), (us.2.2.2.1, .inl (cA, 9, .inl (fun _ => 0))), (us.2.2.2.2, .inl (cA, 9, .inl (fun _ => 0)))]) rfl ?_
  refine s_putF 0 1 [(x, .inr (4, [.ref g, .ref s, .null, .null])), (g, .inr (2, [.int (nI 1), .int (nI 0), .ref ug.1, .ref ug.2.1, .ref ug.2.2])), (ug.1, .inl (cA, 14, .inl (aN (fun _ => 0)))), (ug.2.1, .inl (cA, 14, .inl (aN (fun _ => 0)))), (ug.2.2, .inl (cA, 9, .inl (aN (fun _ => 0)))), (s, .inr (3, [.int (nI 0), .ref us.1, .ref us.2.1, .ref us.2.2.1, .ref us.2.2.2.1, .ref us.2.2.2.2, .int (nI 0), .int (nI 0), .int (nI 0)])), (us.1, .inl (cA, 14, .inl (aN (fun _ => 0)))), (us.2.1, .inl (cA, 14, .inl (aN (fun _ => 0)))), (us.2.2.1, .inl (cA, 14, .inl (fun _ => 0))), (us.2.2.2.1, .inl (cA, 9, .inl (fun _ => 0))), (us.2.2.2.2, .inl (cA, 9, .inl (fun _ => 0)))] C hi inF tyF_ok nmF flF_19 dF_init_23 rfl rfl (by decide) rfl rfl rfl rfl (Nat.le_of_ble_eq_true rfl) rfl ?_
  refine s_aload_n 0 C dF_init_26 rfl ?_
  refine s_new (ci := 1) [.null, .null, .null, .null, .null, .int 0, .int 0, .int 0] C hA inB tyB_ok clF_23 insB iniB dF_init_27 rfl (fun j hj => by rcases (show j = 0 ∨ j = 1 ∨ j = 2 ∨ j = 3 ∨ j = 4 ∨ j = 5 ∨ j = 6 ∨ j = 7 by omega) with rfl | rfl | rfl | rfl | rfl | rfl | rfl | rfl <;> rfl) (by decide) (by decide) (fun h => ?_)
  refine s_eqw (ws' := [(x, .inr (4, [.ref g, .ref s, .null, .null])), (g, .inr (2, [.int (nI 1), .int (nI 0), .ref ug.1, .ref ug.2.1, .ref ug.2.2])), (ug.1, .inl (cA, 14, .inl (aN (fun _ => 0)))), (ug.2.1, .inl (cA, 14, .inl (aN (fun _ => 0)))), (ug.2.2, .inl (cA, 9, .inl (aN (fun _ => 0)))), (s, .inr (3, [.int (nI 0), .ref us.1, .ref us.2.1, .ref us.2.2.1, .ref us.2.2.2.1, .ref us.2.2.2.2, .int (nI 0), .int (nI 0), .int (nI 0)])), (us.1, .inl (cA, 14, .inl (aN (fun _ => 0)))), (us.2.1, .inl (cA, 14, .inl (aN (fun _ => 0)))), (us.2.2.1, .inl (cA, 14, .inl (fun _ => 0))), (us.2.2.2.1, .inl (cA, 9, .inl (fun _ => 0))), (us.2.2.2.2, .inl (cA, 9, .inl (fun _ => 0))), (h, .inr (1, [.null, .null, .null, .null, .null, .int 0, .int 0, .int 0]))]) rfl ?_
  refine s_dup C dF_init_30 rfl ?_
  refine s_callC (n := 0) (wr := [(x, .inr (4, [.ref g, .ref s, .null, .null])), (g, .inr (2, [.int (nI 1), .int (nI 0), .ref ug.1, .ref ug.2.1, .ref ug.2.2])), (ug.1, .inl (cA, 14, .inl (aN (fun _ => 0)))), (ug.2.1, .inl (cA, 14, .inl (aN (fun _ => 0)))), (ug.2.2, .inl (cA, 9, .inl (aN (fun _ => 0)))), (s, .inr (3, [.int (nI 0), .ref us.1, .ref us.2.1, .ref us.2.2.1, .ref us.2.2.2.1, .ref us.2.2.2.2, .int (nI 0), .int (nI 0), .int (nI 0)])), (us.1, .inl (cA, 14, .inl (aN (fun _ => 0)))), (us.2.1, .inl (cA, 14, .inl (aN (fun _ => 0)))), (us.2.2.1, .inl (cA, 14, .inl (fun _ => 0))), (us.2.2.2.1, .inl (cA, 9, .inl (fun _ => 0))), (us.2.2.2.2, .inl (cA, 9, .inl (fun _ => 0)))]) [11] [0, 1, 2, 3, 4, 5, 6, 7, 8, 9, 10] [.ref h, .ref x] C hA (kB_init E.2.1 D cA h) kcB_init mlF_25 imB_init iniB dF_init_31 rfl (by decide +kernel) rfl rfl (by decide) (by decide) (by decide) (by decide) (by decide) rfl rfl (Nat.le_of_ble_eq_true rfl) (by decide) (by decide) (fun ub hb => ?_)
  refine s_eqw (ws' := [(x, .inr (4, [.ref g, .ref s, .null, .null])), (g, .inr (2, [.int (nI 1), .int (nI 0), .ref ug.1, .ref ug.2.1, .ref ug.2.2])), (ug.1, .inl (cA, 14, .inl (aN (fun _ => 0)))), (ug.2.1, .inl (cA, 14, .inl (aN (fun _ => 0)))), (ug.2.2, .inl (cA, 9, .inl (aN (fun _ => 0)))), (s, .inr (3, [.int (nI 0), .ref us.1, .ref us.2.1, .ref us.2.2.1, .ref us.2.2.2.1, .ref us.2.2.2.2, .int (nI 0), .int (nI 0), .int (nI 0)])), (us.1, .inl (cA, 14, .inl (aN (fun _ => 0)))), (us.2.1, .inl (cA, 14, .inl (aN (fun _ => 0)))), (us.2.2.1, .inl (cA, 14, .inl (fun _ => 0))), (us.2.2.2.1, .inl (cA, 9, .inl (fun _ => 0))), (us.2.2.2.2, .inl (cA, 9, .inl (fun _ => 0))), (h, .inr (1, [.ref ub.1, .ref ub.2.1, .ref ub.2.2.1, .ref ub.2.2.2.1, .ref ub.2.2.2.2, .int 0, .int 0, .int 0])), (ub.1, .inl (cA, 512, .inl (aN od))), (ub.2.1, .inl (cA, 9, .inl (aN (fun _ => 0)))), (ub.2.2.1, .inl (cA, 512, .inl (aN (fun _ => 0)))), (ub.2.2.2.1, .inl (cA, 512, .inl (aN (fun _ => 0)))), (ub.2.2.2.2, .inl (cA, 512, .inl (aN (fun _ => 0))))]) rfl ?_
  refine s_putF 0 2 [(x, .inr (4, [.ref g, .ref s, .ref h, .null])), (g, .inr (2, [.int (nI 1), .int (nI 0), .ref ug.1, .ref ug.2.1, .ref ug.2.2])), (ug.1, .inl (cA, 14, .inl (aN (fun _ => 0)))), (ug.2.1, .inl (cA, 14, .inl (aN (fun _ => 0)))), (ug.2.2, .inl (cA, 9, .inl (aN (fun _ => 0)))), (s, .inr (3, [.int (nI 0), .ref us.1, .ref us.2.1, .ref us.2.2.1, .ref us.2.2.2.1, .ref us.2.2.2.2, .int (nI 0), .int (nI 0), .int (nI 0)])), (us.1, .inl (cA, 14, .inl (aN (fun _ => 0)))), (us.2.1, .inl (cA, 14, .inl (aN (fun _ => 0)))), (us.2.2.1, .inl (cA, 14, .inl (fun _ => 0))), (us.2.2.2.1, .inl (cA, 9, .inl (fun _ => 0))), (us.2.2.2.2, .inl (cA, 9, .inl (fun _ => 0))), (h, .inr (1, [.ref ub.1, .ref ub.2.1, .ref ub.2.2.1, .ref ub.2.2.2.1, .ref ub.2.2.2.2, .int 0, .int 0, .int 0])), (ub.1, .inl (cA, 512, .inl (aN od))), (ub.2.1, .inl (cA, 9, .inl (aN (fun _ => 0)))), (ub.2.2.1, .inl (cA, 512, .inl (aN (fun _ => 0)))), (ub.2.2.2.1, .inl (cA, 512, .inl (aN (fun _ => 0)))), (ub.2.2.2.2, .inl (cA, 512, .inl (aN (fun _ => 0))))] C hi inF tyF_ok nmF flF_26 dF_init_34 rfl rfl (by decide) rfl rfl rfl rfl (Nat.le_of_ble_eq_true rfl) rfl ?_
  refine s_aload_n 0 C dF_init_37 rfl ?_
  refine s_new (ci := 0) [.int 0, .int 0, .int 0, .int 0, .int 0, .int 0, .int 0] C hA inA tyA_ok clF_30 insA iniA dF_init_38 rfl (fun j hj => by rcases (show j = 0 ∨ j = 1 ∨ j = 2 ∨ j = 3 ∨ j = 4 ∨ j = 5 ∨ j = 6 by omega) with rfl | rfl | rfl | rfl | rfl | rfl | rfl <;> rfl) (by decide) (by decide) (fun k => ?_)
  refine s_eqw (ws' := [(x, .inr (4, [.ref g, .ref s, .ref h, .null])), (g, .inr (2, [.int (nI 1), .int (nI 0), .ref ug.1, .ref ug.2.1, .ref ug.2.2])), (ug.1, .inl (cA, 14, .inl (aN (fun _ => 0)))), (ug.2.1, .inl (cA, 14, .inl (aN (fun _ => 0)))), (ug.2.2, .inl (cA, 9, .inl (aN (fun _ => 0)))), (s, .inr (3, [.int (nI 0), .ref us.1, .ref us.2.1, .ref us.2.2.1, .ref us.2.2.2.1, .ref us.2.2.2.2, .int (nI 0), .int (nI 0), .int (nI 0)])), (us.1, .inl (cA, 14, .inl (aN (fun _ => 0)))), (us.2.1, .inl (cA, 14, .inl (aN (fun _ => 0)))), (us.2.2.1, .inl (cA, 14, .inl (fun _ => 0))), (us.2.2.2.1, .inl (cA, 9, .inl (fun _ => 0))), (us.2.2.2.2, .inl (cA, 9, .inl (fun _ => 0))), (h, .inr (1, [.ref ub.1, .ref ub.2.1, .ref ub.2.2.1, .ref ub.2.2.2.1, .ref ub.2.2.2.2, .int 0, .int 0, .int 0])), (ub.1, .inl (cA, 512, .inl (aN od))), (ub.2.1, .inl (cA, 9, .inl (aN (fun _ => 0)))), (ub.2.2.1, .inl (cA, 512, .inl (aN (fun _ => 0)))), (ub.2.2.2.1, .inl (cA, 512, .inl (aN (fun _ => 0)))), (ub.2.2.2.2, .inl (cA, 512, .inl (aN (fun _ => 0)))), (k, .inr (0, [.int 0, .int 0, .int 0, .int 0, .int 0, .int 0, .int 0]))]) rfl ?_
  refine s_dup C dF_init_41 rfl ?_
  refine s_callCN (n := 0) (wr := [(x, .inr (4, [.ref g, .ref s, .ref h, .null])), (g, .inr (2, [.int (nI 1), .int (nI 0), .ref ug.1, .ref ug.2.1, .ref ug.2.2])), (ug.1, .inl (cA, 14, .inl (aN (fun _ => 0)))), (ug.2.1, .inl (cA, 14, .inl (aN (fun _ => 0)))), (ug.2.2, .inl (cA, 9, .inl (aN (fun _ => 0)))), (s, .inr (3, [.int (nI 0), .ref us.1, .ref us.2.1, .ref us.2.2.1, .ref us.2.2.2.1, .ref us.2.2.2.2, .int (nI 0), .int (nI 0), .int (nI 0)])), (us.1, .inl (cA, 14, .inl (aN (fun _ => 0)))), (us.2.1, .inl (cA, 14, .inl (aN (fun _ => 0)))), (us.2.2.1, .inl (cA, 14, .inl (fun _ => 0))), (us.2.2.2.1, .inl (cA, 9, .inl (fun _ => 0))), (us.2.2.2.2, .inl (cA, 9, .inl (fun _ => 0))), (h, .inr (1, [.ref ub.1, .ref ub.2.1, .ref ub.2.2.1, .ref ub.2.2.2.1, .ref ub.2.2.2.2, .int 0, .int 0, .int 0])), (ub.1, .inl (cA, 512, .inl (aN od))), (ub.2.1, .inl (cA, 9, .inl (aN (fun _ => 0)))), (ub.2.2.1, .inl (cA, 512, .inl (aN (fun _ => 0)))), (ub.2.2.2.1, .inl (cA, 512, .inl (aN (fun _ => 0)))), (ub.2.2.2.2, .inl (cA, 512, .inl (aN (fun _ => 0))))]) (host := rF) [17] [0, 1, 2, 3, 4, 5, 6, 7, 8, 9, 10, 11, 12, 13, 14, 15, 16] [.ref k, .ref x] C hA (kA_init E.2.1 D cA k) kcA_init hN.2.2 imA_init iniA dF_init_42 rfl (by decide +kernel) rfl rfl (by decide) (by decide) (by decide) (by decide) (by decide) rfl rfl (Nat.le_of_ble_eq_true rfl) (by decide) (by decide) (fun uk hk => ?_)
  refine s_eqw (ws' := [(x, .inr (4, [.ref g, .ref s, .ref h, .null])), (g, .inr (2, [.int (nI 1), .int (nI 0), .ref ug.1, .ref ug.2.1, .ref ug.2.2])), (ug.1, .inl (cA, 14, .inl (aN (fun _ => 0)))), (ug.2.1, .inl (cA, 14, .inl (aN (fun _ => 0)))), (ug.2.2, .inl (cA, 9, .inl (aN (fun _ => 0)))), (s, .inr (3, [.int (nI 0), .ref us.1, .ref us.2.1, .ref us.2.2.1, .ref us.2.2.2.1, .ref us.2.2.2.2, .int (nI 0), .int (nI 0), .int (nI 0)])), (us.1, .inl (cA, 14, .inl (aN (fun _ => 0)))), (us.2.1, .inl (cA, 14, .inl (aN (fun _ => 0)))), (us.2.2.1, .inl (cA, 14, .inl (fun _ => 0))), (us.2.2.2.1, .inl (cA, 9, .inl (fun _ => 0))), (us.2.2.2.2, .inl (cA, 9, .inl (fun _ => 0))), (h, .inr (1, [.ref ub.1, .ref ub.2.1, .ref ub.2.2.1, .ref ub.2.2.2.1, .ref ub.2.2.2.2, .int 0, .int 0, .int 0])), (ub.1, .inl (cA, 512, .inl (aN od))), (ub.2.1, .inl (cA, 9, .inl (aN (fun _ => 0)))), (ub.2.2.1, .inl (cA, 512, .inl (aN (fun _ => 0)))), (ub.2.2.2.1, .inl (cA, 512, .inl (aN (fun _ => 0)))), (ub.2.2.2.2, .inl (cA, 512, .inl (aN (fun _ => 0)))), (k, .inr (0, [.int (nI 0), .int (nI 0), .int (nI 0), .int (nI 0), .int (nI 0), .int (nI 0), .int (nI 0)]))]) rfl ?_
  refine s_putF 0 3 [(x, .inr (4, [.ref g, .ref s, .ref h, .ref k])), (g, .inr (2, [.int (nI 1), .int (nI 0), .ref ug.1, .ref ug.2.1, .ref ug.2.2])), (ug.1, .inl (cA, 14, .inl (aN (fun _ => 0)))), (ug.2.1, .inl (cA, 14, .inl (aN (fun _ => 0)))), (ug.2.2, .inl (cA, 9, .inl (aN (fun _ => 0)))), (s, .inr (3, [.int (nI 0), .ref us.1, .ref us.2.1, .ref us.2.2.1, .ref us.2.2.2.1, .ref us.2.2.2.2, .int (nI 0), .int (nI 0), .int (nI 0)])), (us.1, .inl (cA, 14, .inl (aN (fun _ => 0)))), (us.2.1, .inl (cA, 14, .inl (aN (fun _ => 0)))), (us.2.2.1, .inl (cA, 14, .inl (fun _ => 0))), (us.2.2.2.1, .inl (cA, 9, .inl (fun _ => 0))), (us.2.2.2.2, .inl (cA, 9, .inl (fun _ => 0))), (h, .inr (1, [.ref ub.1, .ref ub.2.1, .ref ub.2.2.1, .ref ub.2.2.2.1, .ref ub.2.2.2.2, .int 0, .int 0, .int 0])), (ub.1, .inl (cA, 512, .inl (aN od))), (ub.2.1, .inl (cA, 9, .inl (aN (fun _ => 0)))), (ub.2.2.1, .inl (cA, 512, .inl (aN (fun _ => 0)))), (ub.2.2.2.1, .inl (cA, 512, .inl (aN (fun _ => 0)))), (ub.2.2.2.2, .inl (cA, 512, .inl (aN (fun _ => 0)))), (k, .inr (0, [.int (nI 0), .int (nI 0), .int (nI 0), .int (nI 0), .int (nI 0), .int (nI 0), .int (nI 0)]))] C hi inF tyF_ok nmF flF_33 dF_init_45 rfl rfl (by decide) rfl rfl rfl rfl (Nat.le_of_ble_eq_true rfl) rfl ?_
  exact hret (g, s, h, k, ug, us, ub) _ _ dF_init_48 trivial
