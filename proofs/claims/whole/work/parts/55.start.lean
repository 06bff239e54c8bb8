/-! the law's start: both objects are made -/
theorem law_d0 : (decide (decode code 0 = .ok (.new 7, 3)) && (decide (decode code 3 = .ok (.dup, 1)) && (decide (decode code 4 = .ok (.invokespecial 9, 3)) && (decide (decode code 7 = .ok (.astore_n 1, 1)) && (decide (decode code 8 = .ok (.new 10, 3)) && (decide (decode code 11 = .ok (.dup, 1)) && (decide (decode code 12 = .ok (.invokespecial 12, 3)) && (decide (decode code 15 = .ok (.astore_n 2, 1)) && (decide (decode code 16 = .ok (.iconst 0, 1)) && decide (decode code 17 = .ok (.istore_n 3, 1))))))))))) = true := by decide +kernel
section LAWS
variable {p : Program} {l : Launch} {e : Env} {s : State} {m : MethodId} {below : List Frame} {meth : Method} {c : Code} {H H0 : Heap} {locs : List Loc} {Q : State → Prop}
variable {b : Nat} {A : Nat → Prop} {dA dC : Nat → ClassId} {dI : Nat → Nat → Nat} {as : List Nat} {cs : List ci_E} {pc cells slots : Nat} {ls : Array Slot} {st : List Value}
theorem law_new (hx : p.tables.exec = Jvm.exec) (hb : c.code = code) (hown : s.vm.findClass R_law = some m.cls) (hts : ∀ w ∈ pz_ws, w.before #[Value.ref b] s = true) (hK : pz_K dA dC dI s) (hA : ∀ q, H0.size ≤ q → A q) {ci index N : Nat} {C : String} {T : u_T} (hc : pz_cs[ci]? = some (C, T, N)) (w1 : Jvm.Cond.classLink R_law index C ∈ pz_ws) (w2 : Jvm.Cond.instantiable C N ∈ pz_ws) (w3 : Jvm.Cond.initialized C ∈ pz_ws) (o1 : cs.all (ci_okc cs.length) = true) (hW : ci_W A dA dC dI as cs H) (hS : va_S A H0 H locs) (hcl : cells + 1 ≤ room_1.cells) (hsl : slots + N ≤ room_1.slots) (hd : decode code pc = .ok (.new index, 3))
    (kk : ∀ (q : Nat) (H1 : Heap), ci_W A dA dC dI (as ++ [q]) (cs ++ [.inl (ci, ci_zero ci)]) H1 → va_S A H0 H1 locs → W p l e room_1 s m #[Value.ref b] below meth c H1 locs (cells + 1) (slots + N) Q (F0 m (pc + 3) ls (.ref q :: st))) : W p l e room_1 s m #[Value.ref b] below meth c H locs cells slots Q (F0 m pc ls st) := by
  obtain ⟨hty, hnm, hf1⟩ := pz_cs_ok hc
  have hN : ci_nn ci = N := by unfold ci_nn; rw [hc]
  have hfs : ∀ j, j < N → defaultValue (pz_fty ci j) = vp_V (ci_zero ci) j := by
    intro j hj
    unfold vp_V ci_zero
    rw [List.getD_eq_getElem?_getD, List.getElem?_map, List.getElem?_range (by rw [hN]; exact hj)]
    rfl
  refine va_new (D := (dC, dI)) (cl := pz_cs) (ci := ci) (fs := ci_zero ci) (C := C) (T := T) (N := N) hx hb hts (pz_cs_in hc) (pz_fty ci) hty hown (hts _ w1) (hts _ w2) (hts _ w3) hK.1 hW.2.1 hW.2.2 hS hA hc hfs hcl hsl hd (fun q H1 hP1 hD1 hS1 => ?_)
  have e1 : ci_w dA as cs ++ [(q, .inr (ci, ci_zero ci))] = ci_w dA (as ++ [q]) (cs ++ [.inl (ci, ci_zero ci)]) := by
    rw [← ci_w_push hW.1 o1]
    show _ = ci_w dA as cs ++ [(q, .inr (ci, (ci_zero ci).map (ci_v (as ++ [q]))))]
    rw [ci_zero_m]
  rw [e1] at hP1 hD1
  exact kk q H1 ⟨by rw [List.length_append, List.length_append, hW.1]; rfl, hP1, hD1⟩ hS1
theorem law_init (hx : p.tables.exec = Jvm.exec) (hb : c.code = code) (hml : c.maxLocals = 4) (hown : s.vm.findClass R_law = some m.cls) (hts : ∀ w ∈ pz_ws, w.before #[Value.ref b] s = true) (hK : pz_K dA dC dI s) (hO : ci_O s) (hA : ∀ q, H0.size ≤ q → A q) {n k idx b0 : Nat} {r : List ci_E × Nat × Nat} (hk : ci_kok k) (hpk : pz_pk (pz_pt k) [] = true) (h1 : ci_run n 3 k 0 (pz_lc k [.ref b0]) [] cs = some r) (hlink : Jvm.Cond.methodLink R_law idx (pz_y k) ∈ pz_ws) (hd : decode code pc = .ok (.invokespecial idx, 3)) (hW : ci_W A dA dC dI as cs H) (hS : va_S A H0 H locs) (hcl : cells + r.2.1 ≤ room_1.cells) (hsl : slots + r.2.2 ≤ room_1.slots) (hl4 : ls.size = 4) (hrl : st.length ≤ 4)
    (kk : ∀ (u : List Nat) (H1 : Heap) (locs1 : List Loc), ci_W A dA dC dI (as ++ u) r.1 H1 → va_S A H0 H1 locs1 → W p l e room_1 s m #[Value.ref b] below meth c H1 locs1 (cells + r.2.1) (slots + r.2.2) Q (F0 m (pc + 3) ls st)) : W p l e room_1 s m #[Value.ref b] below meth c H locs cells slots Q (F0 m pc ls (.ref (as.getD b0 0) :: st)) := by
  have hM := ci_met (dA := dA) (dC := dC) (dI := dI) (l := l) hk hpk h1 as H.size
  obtain ⟨k1, k2, k3, k4, k5, k6, k7, k8, k9, k10, k11⟩ := hk
  have hroom : (st.map fun v => v.category).sum ≤ 8 := by have := pz_cat st; omega
  have hpar : ∀ sig, parseMethodDescriptor (pz_y k).desc = some sig → ([] : List Value).length = sig.parameters.length := by
    intro sig hsig
    rw [hsig] at k4
    obtain ⟨hal, -⟩ := pz_pk_all _ _ hpk
    rw [hal]
    exact (Option.some.inj k4).symm
  have hF : (ci_rm 3 r.2.1 r.2.2).frames + 1 ≤ room_1.frames ∧ 8 + (pz_n k + 11) + (ci_rm 3 r.2.1 r.2.2).locals ≤ room_1.locals := by
    refine ⟨by show 3 + 1 + 1 ≤ 9; decide, ?_⟩
    show 8 + (pz_n k + 11) + 32 * (3 + 1) ≤ 308
    omega
  have hpay := pay_in hts (pz_good k k6)
  have hcm : Jvm.Cond.code (pz_y k) (pz_b k) (pz_n k) none ∈ pz_wk k := by rw [← k10]; exact List.mem_cons_self
  have hcb : (Jvm.Cond.code (pz_y k) (pz_b k) (pz_n k) none).before #[Value.ref b] s = true := by rw [← k10]; exact hts _ k6
  have hfr : ∀ q, ci_fr as H.size q → A q := fun q hq => by
    rcases hq with hq | hq
    · exact ci_w_A hW.1 hW.2.2 hq
    · exact hA q (Nat.le_trans hS.1 hq)
  have hpre : PreS s H (ci_Pc dA dC dI as H.size [.ref b0] cs) [.ref (as.getD b0 0)] := ⟨ci_blind, fun U hU hWm => ⟨rfl, by rw [hU], by rw [hU]; exact hW.weak (fun q hq _ => Or.inl hq), hK.warm hWm, hO.moved hWm.alike⟩⟩
  refine va_callv (A0 := A) (A1 := ci_fr as H.size) (va_runI (cc := code) (nL := 4) (n := 0) (Ts := pz_ws) (As := []) ⟨hx, hb, hml, hown, hts⟩ hM ⟨⟨rfl, rfl, hF.1, hF.2, hpay, hcm, hcb, hts _ k7, k3, hpar, hts _ hlink⟩, k9, hts _ k8⟩ hpre rfl rfl hl4 rfl (lv_room hroom) hd ⟨hcl, hsl⟩) hS (fun q _ hq => hfr q hq) hfr ?_
  intro u t H1 locs1 ht hvm _ hB hz1 hk1 hS1
  rw [← ht]
  rw [← ht] at hS1
  exact kk u t.heap locs1 (ci_W.weak (A := ci_fr as H.size) hB (fun q _ hq => hfr q hq)) hS1
end LAWS
theorem law_W0 {A : Nat → Prop} {dA dC : Nat → ClassId} {dI : Nat → Nat → Nat} {H : Heap} : ci_W A dA dC dI [] [] H := ⟨rfl, (fun k q h => by cases h), (fun i j p q h => by cases h), (fun k q h => by cases h)⟩
theorem law_okP : ci_cP.all (ci_okc ci_cP.length) = true := by decide +kernel
theorem law_lnP : ci_cP.length = 51 := by decide +kernel
set_option maxRecDepth 100000 in
/-- from the entry, for every script of at most 2048 ints, the law comes to its end with true -/
theorem whole_start {p : Program} {e : Env} {s : State} {m : MethodId} {below : List Frame} {meth : Method} {c : Code} (l : Launch) {b L : Nat} {xs : Nat → Int32} (hL : L ≤ 2048) (C0 : lw_At p s m meth c b L xs) : W p l e room_1 s m #[Value.ref b] below meth c s.heap [] 0 0 (lw_Z below #[Value.ref b] s) (entryFrame m ([Value.ref b] : List Value).toArray 4) := by
  obtain ⟨hx, hb, hr, hml, hown, htsA, hX, hbl, hlk, hgv⟩ := C0
  have hts := kn_hts htsA
  have hO := kn_O htsA
  obtain ⟨dA, dC, dI, hK⟩ := kn_K htsA
  have hd := law_d0
  simp only [Bool.and_eq_true, decide_eq_true_eq] at hd
  obtain ⟨d0, d1, d2, d3, d4, d5, d6, d7, d8, d9⟩ := hd
  have hA : ∀ q, s.heap.size ≤ q → (fun q => s.heap.size ≤ q) q := fun _ h => h
  rw [lg_entry_eq]
  have hl0 : lv_has ((lg_sl [Value.ref b] ++ List.replicate (4 - (lg_sl [Value.ref b]).length) Slot.unset).toArray) 4 [(0, .ref b)] := lv_entry [Value.ref b] (n := 4) (by show 1 ≤ 4; decide)
  generalize ((lg_sl [Value.ref b] ++ List.replicate (4 - (lg_sl [Value.ref b]).length) Slot.unset).toArray) = ls0 at hl0 ⊢
  refine law_new (A := fun q => s.heap.size ≤ q) (dA := dA) (dC := dC) (dI := dI) (as := []) (cs := []) (ci := 0) (N := 5) hx hb hown hts hK hA rfl (pz_at 96 rfl rfl) (pz_at 97 rfl rfl) (pz_at 88 rfl rfl) rfl law_W0 va_S.rf (by decide) (by decide) d0 (fun q0 H1 W1 S1 => ?_)
  refine lv_dup hx hb d1 rfl ?_
  refine law_init (as := [] ++ [q0]) (b0 := 0) hx hb hml hown hts hK hO hA ci_k0 rfl ci_evP (pz_at 98 rfl rfl) d2 W1 S1 (by decide) (by decide) hl0.1 (by show 1 ≤ 4; decide) (fun u0 H2 locs2 W2 S2 => ?_)
  refine lv_astore_n hx hb d3 rfl hl0 (by decide) (lv' := [(1, .ref q0), (0, .ref b)]) rfl (fun ls1 hl1 => ?_)
  have n2 : (([] ++ [q0]) ++ u0).length = 51 := by rw [W2.1]; exact law_lnP
  refine law_new (ci := 6) (N := 24) hx hb hown hts hK hA rfl (pz_at 645 rfl rfl) (pz_at 646 rfl rfl) (pz_at 94 rfl rfl) law_okP W2 S2 (by decide) (by decide) d4 (fun q1 H3 W3 S3 => ?_)
  refine lv_dup hx hb d5 rfl ?_
  have e3 : ((([] ++ [q0]) ++ u0) ++ [q1]).getD 51 0 = q1 := ci_last n2
  have key := fun K => law_init (p := p) (l := l) (e := e) (s := s) (m := m) (below := below) (meth := meth) (c := c) (Q := lw_Z below #[Value.ref b] s) (ls := ls1) (st := [.ref q1]) (b0 := 51) hx hb hml hown hts hK hO hA ci_k86 rfl ci_evX (pz_at 647 rfl rfl) d6 W3 S3 (cells := 0 + 1 + 50 + 1) (slots := 0 + 5 + 556 + 24) (by decide) (by decide) hl1.1 (by show 1 ≤ 4; decide) K
  rw [e3] at key
  refine key (fun u1 H4 locs4 W4 S4 => ?_)
  refine lv_astore_n hx hb d7 rfl hl1 (by decide) (lv' := [(2, .ref q1), (1, .ref q0), (0, .ref b)]) rfl (fun ls2 hl2 => ?_)
  refine lv_iconst hx hb d8 (v := nI (4 * 0)) (by decide) ?_
  refine lv_istore_n hx hb d9 rfl hl2 (by decide) (lv' := law_lv b q0 q1 (4 * 0)) rfl (fun ls3 hl3 => ?_)
  generalize has : ((([] ++ [q0]) ++ u0) ++ [q1]) ++ u1 = as at W4
  have hin : ∀ a ∈ as, s.heap.size ≤ a := fun a ha => ci_w_A W4.1 W4.2.2 ha
  have a0 : iw_ad as H4.size 0 = q0 := by
    rw [← has]
    rfl
  have a100 : iw_ad as H4.size 100 = q1 := by
    show as.getD 51 0 = q1
    rw [← has, ci_getD (by rw [List.length_append, n2]; show 51 < 51 + 1; decide), e3]
  refine va_forget (fun q hq => S4.2.2 q hq) ?_
  refine law_loop (L := L) (xs := xs) (dA := dA) (dC := dC) (dI := dI) (as := as) (ad := iw_ad as H4.size) (ix := iw_ix as H4.size) (H0 := H4) ⟨hx, hb, hml, hown, hts, hK, iw_A W4, hX.kept (S4.2.1 b hbl (fun q => Nat.not_le.mpr hbl q)), Nat.lt_of_lt_of_le hbl S4.1, fun q => Nat.not_le.mpr hbl (hin b q), hL⟩ hin hr hlk 512 0 0 iE iπ 24 iD H4 [] ls3 (by omega) (by decide) (Nat.le_refl _) iw_GR ?_ (iw_W W4) va_S.rf
  rw [a0, a100]
  exact hl3
