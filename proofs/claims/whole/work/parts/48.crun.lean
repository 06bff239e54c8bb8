/-! the constructors' machine is the machine: a run, a contract -/
def ci_rm (d mc ms : Nat) : Room := { frames := d + 1, cells := mc, slots := ms, locals := 32 * (d + 1) }
def ci_fr (as : List Nat) (sz : Nat) : Nat → Prop := fun q => q ∈ as ∨ sz ≤ q
def ci_Pc (dA dC : Nat → ClassId) (dI : Nat → Nat → Nat) (as : List Nat) (sz : Nat) (vs : List Value) (cs : List ci_E) : Array Value → State → Prop := va_Pc (vs.map (ci_v as)) (fun U => U.heap.size = sz ∧ ci_W (ci_fr as sz) dA dC dI as cs U.heap ∧ pz_K dA dC dI U ∧ ci_O U)
def ci_Qc (A : Nat → Prop) (dA dC : Nat → ClassId) (dI : Nat → Nat → Nat) (as : List Nat) (cs : List ci_E) : Array Value → State → Outcome → State → Prop := va_Qv (fun _ : List Nat => True) (fun l t => ci_W A dA dC dI (as ++ l) cs t.heap) A
theorem ci_w_in {dA : Nat → ClassId} {as : List Nat} {cs : List ci_E} (hl : as.length = cs.length) {k : Nat} {q : Nat × va_E} (h : (ci_w dA as cs)[k]? = some q) : q.1 ∈ as := by
  unfold ci_w at h
  rw [List.getElem?_mapIdx] at h
  cases hc : cs[k]? with
  | none => rw [hc] at h; cases h
  | some c =>
    rw [hc] at h
    cases h
    have hk : k < as.length := by rw [hl]; exact (List.getElem?_eq_some_iff.mp hc).1
    show as.getD k 0 ∈ as
    rw [List.getD_eq_getElem?_getD, List.getElem?_eq_getElem hk]
    exact List.getElem_mem hk
theorem ci_w_A {dA : Nat → ClassId} {as : List Nat} {cs : List ci_E} {A : Nat → Prop} (hl : as.length = cs.length) (h : va_D A (ci_w dA as cs)) {q : Nat} (hq : q ∈ as) : A q := by
  obtain ⟨k, hk, rfl⟩ := List.getElem_of_mem hq
  have hc : cs[k]? = some cs[k] := List.getElem?_eq_getElem (by omega)
  have h2 := h.2 k _ (ci_w_at (dA := dA) (as := as) hc)
  have e : as.getD k 0 = as[k] := by rw [List.getD_eq_getElem?_getD, List.getElem?_eq_getElem hk]; rfl
  rw [← e]
  exact h2
theorem ci_W.weak {A B : Nat → Prop} {dA dC : Nat → ClassId} {dI : Nat → Nat → Nat} {as : List Nat} {cs : List ci_E} {H : Heap} (h : ci_W A dA dC dI as cs H) (hAB : ∀ q, q ∈ as → A q → B q) : ci_W B dA dC dI as cs H := ⟨h.1, h.2.1, h.2.2.weaken (fun k q hk ha => hAB _ (ci_w_in h.1 hk) ha)⟩
theorem ci_blind {dA dC : Nat → ClassId} {dI : Nat → Nat → Nat} {as : List Nat} {sz : Nat} {vs : List Value} {cs : List ci_E} : FrameBlind (ci_Pc dA dC dI as sz vs cs) := by
  intro a U g mk q
  obtain ⟨q0, q1, q2, q3, q4⟩ := q
  exact ⟨q0, q1, q2, pz_K.same (s := U) (U := U.calling g mk a) rfl q3, q4.moved (U := U.calling g mk a) (Vm.Alike.refl U.vm)⟩
theorem ci_lc (as : List Nat) (k : Nat) (vs : List Value) : (pz_lc k vs).map (ci_v as) = pz_lc k (vs.map (ci_v as)) := by
  unfold pz_lc
  rw [List.map_append, List.map_replicate, List.length_map]
  rfl
theorem ci_pk {as : List Nat} : ∀ (bs : List Bool) (vs : List Value), pz_pk bs vs = true → pz_pk bs (vs.map (ci_v as)) = true
  | [], [], _ => rfl
  | true :: bs, .int x :: vs, h => ci_pk bs vs h
  | false :: bs, .ref x :: vs, h => ci_pk bs vs h
/-- what soundness of runs of at most n steps says -/
def ci_Snd (dA dC : Nat → ClassId) (dI : Nat → Nat → Nat) (l : Launch) (n : Nat) : Prop := ∀ (d k pc : Nat) (ls st : List Value) (cs : List ci_E) (r : List ci_E × Nat × Nat), ci_run n d k pc ls st cs = some r → ∀ (p : Program) (e : Env) (R : Room) (s : State) (m : MethodId) (args : Array Value) (below : List Frame) (meth : Method) (c : Code) (H : Heap) (locs : List Loc) (lsA : Array Slot) (A : Nat → Prop) (as0 as1 : List Nat) (cells slots MC MS : Nat),
  p.tables.exec = Jvm.exec → c.code = pz_b k → c.maxLocals = pz_n k → s.vm.findClass (pz_on (pz_kc k)) = some m.cls → (∀ w ∈ pz_ws, w.before args s = true) → pz_K dA dC dI s → ci_O s → meth.name = "<init>" → (∀ q, s.heap.size ≤ q → A q) → (d + 1 ≤ R.frames ∧ 32 * (d + 1) ≤ R.locals) → meth.sig.returnType = none → meth.locks = false →
  cells + r.2.1 = MC → slots + r.2.2 = MS → MC ≤ R.cells → MS ≤ R.slots →
  pz_L (pz_n k) (ls.map (ci_v (as0 ++ as1))) lsA → ci_W A dA dC dI (as0 ++ as1) cs H → va_S A s.heap H locs → W p l e R s m args below meth c H locs cells slots (MQ below (ci_Qc A dA dC dI as0 r.1) args s MC MS A) (F0 m pc lsA (st.map (ci_v (as0 ++ as1))))
theorem ci_metOf {dA dC : Nat → ClassId} {dI : Nat → Nat → Nat} {l : Launch} {n d k : Nat} (hs : ci_Snd dA dC dI l n) (hk : ci_kok k) {b : Nat} {As : List Value} {cs : List ci_E} {r : List ci_E × Nat × Nat} (hp : pz_pk (pz_pt k) As = true) (h : ci_run n d k 0 (pz_lc k (.ref b :: As)) [] cs = some r) (as : List Nat) (sz : Nat) : Met l (pz_y k) (pz_wk k) (ci_rm d r.2.1 r.2.2) (ci_Pc dA dC dI as sz (.ref b :: As) cs) (ci_Qc (ci_fr as sz) dA dC dI as r.1) r.2.1 r.2.2 (ci_fr as sz) := by
  obtain ⟨k1, k2, k3, k4, k5, k6, k7, k8, k9, k10, k11⟩ := hk
  refine Met.ofW (cc := pz_b k) (maxL := pz_n k) (ret := pz_ret k) k1 rfl ?_
  intro p e s m args below meth c s₁ B hml hv
  obtain ⟨rfl, hsz, hW, hK, hO⟩ := hv
  have hts := atoms_spec (ws := pz_wk k) B.pre
  have hown : s.vm.findClass (pz_y k).cls = some m.cls := findClass_of_methodNamed B.named
  rw [k2] at hown
  have hin : meth.name = "<init>" := ((name_of_methodNamed B.named B.method).1).trans k9
  obtain ⟨hal, hall⟩ := pz_pk_all _ _ (ci_pk (as := as) _ _ hp)
  rw [lg_entry_eq]
  obtain ⟨h1, h2⟩ := pz_lc_L (k := k) (as := (Value.ref b :: As).map (ci_v as)) (by
    show ((Value.ref (as.getD b 0)) :: As.map (ci_v as)).all _ = true
    simp only [List.all_cons, Bool.and_eq_true]
    exact ⟨⟨rfl, rfl⟩, hall⟩) (by
    show (As.map (ci_v as)).length + 1 ≤ _
    omega)
  subst hsz
  have key := hs d k 0 (pz_lc k (.ref b :: As)) [] cs r h p e (headSpec (pz_wk k) (ci_rm d r.2.1 r.2.2)).room s m ((Value.ref b :: As).map (ci_v as)).toArray below meth c s.heap [] _ (ci_fr as s.heap.size) as [] 0 0 r.2.1 r.2.2 B.exec B.bytes hml hown (fun w hw => hts w (List.mem_cons_of_mem _ hw)) hK hO hin (fun q hq => Or.inr hq) ⟨Nat.le_refl _, Nat.le_refl _⟩ (B.returns.trans k10) B.notSynchronized (Nat.zero_add _) (Nat.zero_add _) (Nat.le_refl _) (Nat.le_refl _) (by rw [List.append_nil, ci_lc]; exact h2) (by rw [List.append_nil]; exact hW) va_S.rf
  exact key
set_option maxHeartbeats 4000000 in
theorem ci_snd (dA dC : Nat → ClassId) (dI : Nat → Nat → Nat) (l : Launch) : ∀ n, ci_Snd dA dC dI l n := by
  intro n
  induction n with
  | zero =>
    intro d k pc ls st cs r h
    cases h
  | succ n ih =>
    intro d k pc ls st cs r h p e R s m args below meth c H locs lsA A as0 as1 cells slots MC MS hx hb hml hown hts hK hO hin hA hR hr hlk hmc hms hMC hMS hL hW hS
    unfold ci_run at h
    split at h
    · cases h
    · rename_i q hq
      replace h := Option.map_eq_some_iff.mp h; obtain ⟨r1, h1, rfl⟩ := h
      dsimp only at hmc hms
      refine ci_step hx hb hml hown hts hK hO hin hA ⟨by omega, by omega⟩ hq (by omega) (by omega) hL hW hS (fun l' H' locs' lsA' w1 w2 w3 => ?_)
      rw [List.append_assoc] at w1 w2 ⊢
      exact ih d k q.1 q.2.1 q.2.2.1 q.2.2.2.1 r1 h1 p e R s m args below meth c H' locs' lsA' A as0 (as1 ++ l') _ _ MC MS hx hb hml hown hts hK hO hin hA hR hr hlk (by omega) (by omega) hMC hMS w1 w2 w3
    · rename_i q hq
      obtain ⟨k', vs, rest⟩ := q
      split at h
      · cases h
      · rename_i d'
        replace h := Option.bind_eq_some_iff.mp h; obtain ⟨r1, h1, h⟩ := h
        replace h := Option.map_eq_some_iff.mp h; obtain ⟨r2, h2, rfl⟩ := h
        dsimp only at h1 h2 hmc hms
        obtain ⟨idx, b, As, hd, hm, hrl, hok, hpk, rfl, rfl⟩ := ci_stp_c hq
        obtain ⟨hlink, hkok⟩ := ci_mth_ok hm
        have hM := ci_metOf (l := l) ih hkok hpk h1 (as0 ++ as1) H.size
        obtain ⟨k1, k2, k3, k4, k5, k6, k7, k8, k9, k10, k11⟩ := hkok
        obtain ⟨o1, o2, o3⟩ := ci_ok_inv hok
        obtain ⟨hal, hall⟩ := pz_pk_all _ _ (ci_pk (as := as0 ++ as1) _ _ hpk)
        have hroom : ((rest.map (ci_v (as0 ++ as1))).map fun v => v.category).sum ≤ 8 := by
          have := pz_cat (rest.map (ci_v (as0 ++ as1)))
          rw [List.length_map] at this
          omega
        have hpar : ∀ sig, parseMethodDescriptor (pz_y k').desc = some sig → (As.map (ci_v (as0 ++ as1))).length = sig.parameters.length := by
          intro sig hsig
          rw [hsig] at k4
          rw [hal]
          exact (Option.some.inj k4).symm
        have hF : (ci_rm d' r1.2.1 r1.2.2).frames + 1 ≤ R.frames ∧ 8 + (pz_n k' + 11) + (ci_rm d' r1.2.1 r1.2.2).locals ≤ R.locals := by
          refine ⟨hR.1, ?_⟩
          show 8 + (pz_n k' + 11) + 32 * (d' + 1) ≤ R.locals
          omega
        have hpay := pay_in hts (pz_good k' k6)
        have hcm : Jvm.Cond.code (pz_y k') (pz_b k') (pz_n k') none ∈ pz_wk k' := by rw [← k10]; exact List.mem_cons_self
        have hcb : (Jvm.Cond.code (pz_y k') (pz_b k') (pz_n k') none).before args s = true := by rw [← k10]; exact hts _ k6
        have hfr : ∀ q, ci_fr (as0 ++ as1) H.size q → A q := fun q hq => by
          rcases hq with hq | hq
          · exact ci_w_A hW.1 hW.2.2 hq
          · exact hA q (Nat.le_trans hS.1 hq)
        have hpre : PreS s H (ci_Pc dA dC dI (as0 ++ as1) H.size (.ref b :: As) cs) (.ref ((as0 ++ as1).getD b 0) :: As.map (ci_v (as0 ++ as1))) := ⟨ci_blind, fun U hU hWm => ⟨rfl, by rw [hU], by rw [hU]; exact hW.weak (fun q hq _ => Or.inl hq), hK.warm hWm, hO.moved hWm.alike⟩⟩
        have hstk : (As.reverse ++ .ref b :: rest).map (ci_v (as0 ++ as1)) = (As.map (ci_v (as0 ++ as1))).reverse ++ .ref ((as0 ++ as1).getD b 0) :: rest.map (ci_v (as0 ++ as1)) := by
          rw [List.map_append, List.map_reverse]
          rfl
        rw [hstk]
        have fin : ∀ (u : List Nat) (t : State) (H1 : Heap) (locs1 : List Loc), t.heap = H1 → s.vm.Alike t.vm → True → ci_W (ci_fr (as0 ++ as1) H.size) dA dC dI ((as0 ++ as1) ++ u) r1.1 t.heap → H.size ≤ H1.size → (∀ q : Nat, q < H.size → ¬ ci_fr (as0 ++ as1) H.size q → H1[q]? = H[q]?) → va_S A s.heap H1 locs1 → W p l e R s m args below meth c H1 locs1 (cells + r1.2.1) (slots + r1.2.2) (MQ below (ci_Qc A dA dC dI as0 r2.1) args s MC MS A) (F0 m (pc + 3) lsA (rest.map (ci_v (as0 ++ as1)))) := by
          intro u t H1 locs1 ht hvm _ hB hz1 hk1 hS1
          rw [ht] at hB
          have hB2 := hB.weak (fun q _ hq => hfr q hq)
          have e1 : rest.map (ci_v (as0 ++ as1)) = rest.map (ci_v (as0 ++ (as1 ++ u))) := by rw [← List.append_assoc, ci_vs_app hW.1 o3]
          have e2 : ls.map (ci_v (as0 ++ as1)) = ls.map (ci_v (as0 ++ (as1 ++ u))) := by rw [← List.append_assoc, ci_vs_app hW.1 o2]
          rw [e1]
          rw [e2] at hL
          rw [List.append_assoc] at hB2
          exact ih (d' + 1) k (pc + 3) ls rest r1.1 r2 h2 p e R s m args below meth c H1 locs1 lsA A as0 (as1 ++ u) _ _ MC MS hx hb hml hown hts hK hO hin hA hR hr hlk (by omega) (by omega) hMC hMS hL hB2 hS1
        rcases hlink with hlink | ⟨host, hlink⟩
        · exact va_callv (A0 := A) (A1 := ci_fr (as0 ++ as1) H.size) (va_runI (cc := pz_b k) (nL := pz_n k) (n := (As.map (ci_v (as0 ++ as1))).length) (Ts := pz_ws) ⟨hx, hb, hml, hown, hts⟩ hM ⟨⟨rfl, rfl, hF.1, hF.2, hpay, hcm, hcb, hts _ k7, k3, hpar, hts _ hlink⟩, k9, hts _ k8⟩ hpre rfl rfl hL.1 rfl (lv_room hroom) hd ⟨by omega, by omega⟩) hS (fun q _ hq => hfr q hq) hfr fin
        · exact va_callv (A0 := A) (A1 := ci_fr (as0 ++ as1) H.size) (va_runIN (cc := pz_b k) (nL := pz_n k) (n := (As.map (ci_v (as0 ++ as1))).length) (Ts := pz_ws) (host := host) ⟨hx, hb, hml, hown, hts⟩ hM ⟨⟨⟨rfl, rfl, hF.1, hF.2, hpay, hcm⟩, hcb, hts _ k7, k3, hpar, va_Nw.use rfl (hK.2 _ hlink)⟩, k9, hts _ k8⟩ hpre rfl rfl hL.1 rfl (lv_room hroom) hd ⟨by omega, by omega⟩) hS (fun q _ hq => hfr q hq) hfr fin
    · rename_i q hq
      cases h
      obtain ⟨hd, rfl⟩ := ci_stp_r hq
      dsimp only at hmc hms
      rw [Nat.add_zero] at hmc hms
      subst hmc
      subst hms
      exact W.vret hx hb hr (fun t ht hWm => ⟨⟨as1, rfl, trivial, by show ci_W A dA dC dI (as0 ++ as1) cs t.heap; rw [ht]; exact hW⟩, hS.F ht⟩) hS.2.2 hd hlk
/-- a constructor's contract out of its run -/
theorem ci_met {dA dC : Nat → ClassId} {dI : Nat → Nat → Nat} {l : Launch} {n d k : Nat} (hk : ci_kok k) {b : Nat} {As : List Value} {cs : List ci_E} {r : List ci_E × Nat × Nat} (hp : pz_pk (pz_pt k) As = true) (h : ci_run n d k 0 (pz_lc k (.ref b :: As)) [] cs = some r) (as : List Nat) (sz : Nat) : Met l (pz_y k) (pz_wk k) (ci_rm d r.2.1 r.2.2) (ci_Pc dA dC dI as sz (.ref b :: As) cs) (ci_Qc (ci_fr as sz) dA dC dI as r.1) r.2.1 r.2.2 (ci_fr as sz) := ci_metOf (ci_snd dA dC dI l n) hk hp h as sz
