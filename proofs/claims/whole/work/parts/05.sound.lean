/-! the pure machine is the machine: calls, ends, whole methods -/
def pz_rm (d : Nat) : Room := { frames := d + 1, cells := 0, slots := 0, locals := 32 * (d + 1) }
def pz_wk (k : Nat) : List Jvm.Cond := .code (pz_y k) (pz_b k) (pz_n k) (pz_ret k) :: pz_ws
def pz_Pc (dA dC : Nat → ClassId) (dI : Nat → Nat → Nat) (L : List Nat) (as : List Value) (f : pz_F) : Array Value → State → Prop := va_Pc as (fun U => pz_W dC dI L f U.heap ∧ pz_K dA dC dI U)
def pz_Qc (dC : Nat → ClassId) (dI : Nat → Nat → Nat) (L : List Nat) (Q : Option Value → pz_F → Prop) : Array Value → State → Outcome → State → Prop := fun _ st oc t => (∃ r f', oc = .returned r ∧ Q r f' ∧ pz_W dC dI L f' t.heap) ∧ va_F (fun q => q ∈ L) st t
theorem pz_good (k : Nat) (hk : Jvm.Cond.code (pz_y k) (pz_b k) (pz_n k) (pz_ret k) ∈ pz_ws) : GoodIn pz_ws (pz_wk k) := by
  intro w hw
  have h : w ∈ pz_ws := by
    rcases List.mem_cons.mp hw with rfl | h
    · exact hk
    · exact h
  exact ⟨h, pz_ws_good w h⟩
theorem pz_K.warm {dA dC : Nat → ClassId} {dI : Nat → Nat → Nat} {s U : State} (hW : s.WarmedH U.vm) (h : pz_K dA dC dI s) : pz_K dA dC dI U := ⟨va_K.moved hW.alike h.1, fun w hw => pz_nw_warm hW w hw (h.2 w hw)⟩
theorem pz_K.same {dA dC : Nat → ClassId} {dI : Nat → Nat → Nat} {s U : State} (hv : s.vm = U.vm) (h : pz_K dA dC dI s) : pz_K dA dC dI U := ⟨va_K.moved (by rw [hv]; exact Vm.Alike.refl U.vm) h.1, fun w hw => (h.2 w hw).same (pz_nw_tab w hw) hv⟩
theorem pz_blind {dA dC : Nat → ClassId} {dI : Nat → Nat → Nat} {L : List Nat} {as : List Value} {f : pz_F} : FrameBlind (pz_Pc dA dC dI L as f) := by
  intro a U g mk q
  obtain ⟨q0, q1, q2⟩ := q
  exact ⟨q0, q1, pz_K.same (s := U) (U := U.calling g mk a) rfl q2⟩
theorem pz_lc_L {k : Nat} {as : List Value} (hp : as.all (fun v => v.category == 1 && v != .retAddr 0) = true) (hn : as.length ≤ pz_n k) : (lg_sl as).length ≤ pz_n k ∧ pz_L (pz_n k) (pz_lc k as) ((lg_sl as ++ List.replicate (pz_n k - (lg_sl as).length) Slot.unset).toArray) := by
  have h1 : ∀ (as : List Value), as.all (fun v => v.category == 1 && v != .retAddr 0) = true → (lg_sl as).length = as.length := by
    intro as
    induction as with
    | nil => intro _; rfl
    | cons v as ih =>
      intro h
      simp only [List.all_cons, Bool.and_eq_true, beq_iff_eq, bne_iff_ne, ne_eq] at h
      have h2 := ih h.2
      simp only [lg_sl, List.flatMap_cons, List.length_append, List.length_cons] at h2 ⊢
      rw [if_neg (by omega), h2]
      simp
      omega
  have h2 : ∀ (as : List Value) (j : Nat), as.all (fun v => v.category == 1 && v != .retAddr 0) = true → ∀ i v, as[i]? = some v → (j + i, v) ∈ lv_args j as := by
    intro as
    induction as with
    | nil => intro j _ i v h; simp at h
    | cons w as ih =>
      intro j h i v hi
      simp only [List.all_cons, Bool.and_eq_true, beq_iff_eq, bne_iff_ne, ne_eq] at h
      cases i with
      | zero =>
        simp only [List.getElem?_cons_zero, Option.some.injEq] at hi
        subst hi
        exact List.mem_cons_self
      | succ i =>
        rw [List.getElem?_cons_succ] at hi
        have h3 := ih (j + 1) h.2 i v hi
        simp only [lv_args]
        rw [if_neg (by omega)]
        refine List.mem_cons_of_mem _ ?_
        have e : j + (i + 1) = j + 1 + i := by omega
        rw [e]
        exact h3
  have hl : (lg_sl as).length ≤ pz_n k := by rw [h1 as hp]; exact hn
  have hh := lv_entry as hl
  refine ⟨hl, hh.1, hh.2.1, by simp [pz_lc]; omega, fun i v hi hv => ?_⟩
  unfold pz_lc at hi
  by_cases hia : i < as.length
  · rw [List.getElem?_append_left hia] at hi
    have h4 := h2 as 0 hp i v hi
    rw [Nat.zero_add] at h4
    have h5 := List.all_eq_true.mp hp v (List.mem_of_getElem? hi)
    simp only [Bool.and_eq_true, beq_iff_eq, bne_iff_ne, ne_eq] at h5
    exact ⟨h5.1, hh.2.2 _ h4⟩
  · rw [List.getElem?_append_right (by omega)] at hi
    exact absurd (List.eq_of_mem_replicate (List.mem_of_getElem? hi)) hv
theorem pz_pk_all : ∀ (bs : List Bool) (as : List Value), pz_pk bs as = true → as.length = bs.length ∧ as.all (fun v => v.category == 1 && v != .retAddr 0) = true
  | [], [], _ => ⟨rfl, rfl⟩
  | true :: bs, .int x :: vs, h => by
    obtain ⟨h1, h2⟩ := pz_pk_all bs vs h
    exact ⟨by simp [h1], by simp [List.all_cons, Value.category] at h2 ⊢; exact h2⟩
  | false :: bs, .ref x :: vs, h => by
    obtain ⟨h1, h2⟩ := pz_pk_all bs vs h
    exact ⟨by simp [h1], by simp [List.all_cons, Value.category] at h2 ⊢; exact h2⟩
section PZC
variable {p : Program} {l : Launch} {e : Env} {R : Room} {s : State} {m : MethodId} {args : Array Value} {below : List Frame} {meth : Method} {c : Code} {H H0 : Heap} {locs : List Loc} {cells slots : Nat} {Q : State → Prop}
variable {dA dC : Nat → ClassId} {dI : Nat → Nat → Nat} {L : List Nat}
/-- behind a call -/
theorem pz_behind {pc : Nat} {ls : Array Slot} {st0 rest : List Value} {a : Array Value} {Q1 : Option Value → pz_F → Prop} (hr : va_Run p l e R s m args below meth c H locs cells slots 0 0 (F0 m pc ls st0) rest (pz_Qc dC dI L Q1 a) (fun q => q ∈ L)) (hS : va_S (fun q => q ∈ L) H0 H locs)
    (kk : ∀ (r : Option Value) (f' : pz_F) (H1 : Heap) (locs1 : List Loc), Q1 r f' → pz_W dC dI L f' H1 → va_S (fun q => q ∈ L) H0 H1 locs1 → W p l e R s m args below meth c H1 locs1 cells slots Q (F0 m (pc + 3) ls (r.toList ++ rest))) : W p l e R s m args below meth c H locs cells slots Q (F0 m pc ls st0) := by
  intro T hT X
  obtain ⟨v, st₀, t, T', Ls, h0, X', hL, e1, e2, ⟨⟨r, f', hv, hq, hw⟩, hz, hk⟩, st⟩ := hr T hT X
  cases hv
  rw [h0] at hz hk
  obtain ⟨t2, a1, b1⟩ := kk v f' T'.heap (locs ++ Ls) hq (by rw [e1]; exact hw)
    ⟨Nat.le_trans hS.1 (by rw [e1]; exact hz), fun q h1 h2 => by rw [e1, hk q (Nat.lt_of_lt_of_le h1 hS.1) h2]; exact hS.2.1 q h1 h2, fun q hq => by
      rcases List.mem_append.mp hq with h | h
      · exact hS.2.2 q h
      · exact hL q h⟩ T' rfl X'
  exact ⟨t2, st t2 a1, b1⟩
end PZC
/-- what soundness to depth d says -/
def pz_Snd (dA dC : Nat → ClassId) (dI : Nat → Nat → Nat) (L : List Nat) (l : Launch) (d : Nat) : Prop := ∀ (k pc : Nat) (ls st : List Value) (f : pz_F) (Qp : Option Value → pz_F → Prop), pz_R dA d k pc ls st f Qp → ∀ (p : Program) (e : Env) (R : Room) (s : State) (m : MethodId) (args : Array Value) (below : List Frame) (meth : Method) (c : Code) (H : Heap) (locs : List Loc) (lsA : Array Slot),
  p.tables.exec = Jvm.exec → c.code = pz_b k → c.maxLocals = pz_n k → s.vm.findClass (pz_on (pz_kc k)) = some m.cls → (∀ w ∈ pz_ws, w.before args s = true) → pz_K dA dC dI s → (d + 1 ≤ R.frames ∧ 32 * (d + 1) ≤ R.locals) → meth.sig.returnType = pz_ret k → meth.locks = false →
  pz_L (pz_n k) ls lsA → pz_W dC dI L f H → va_S (fun q => q ∈ L) s.heap H locs → W p l e R s m args below meth c H locs 0 0 (MQ below (pz_Qc dC dI L Qp) args s 0 0 (fun q => q ∈ L)) (F0 m pc lsA st)
theorem pz_metOf {dA dC : Nat → ClassId} {dI : Nat → Nat → Nat} {L : List Nat} {l : Launch} {d k : Nat} (hs : pz_Snd dA dC dI L l d) (hk : pz_kok k) {as : List Value} {f : pz_F} {Q : Option Value → pz_F → Prop} (hp : as.all (fun v => v.category == 1 && v != .retAddr 0) = true) (hn : as.length ≤ pz_n k) (h : pz_C dA d k as f Q) : Met l (pz_y k) (pz_wk k) (pz_rm d) (pz_Pc dA dC dI L as f) (pz_Qc dC dI L Q) 0 0 (fun q => q ∈ L) := by
  refine Met.ofW (cc := pz_b k) (maxL := pz_n k) (ret := pz_ret k) hk.1 rfl ?_
  intro p e s m args below meth c s₁ B hml hv
  obtain ⟨rfl, hW, hK⟩ := hv
  have hts := atoms_spec (ws := pz_wk k) B.pre
  have hown : s.vm.findClass (pz_y k).cls = some m.cls := findClass_of_methodNamed B.named
  rw [hk.2.1] at hown
  rw [lg_entry_eq]
  obtain ⟨h1, h2⟩ := pz_lc_L hp hn
  exact hs k 0 _ _ f Q h p e _ s m _ below meth c s.heap [] _ B.exec B.bytes hml hown (fun w hw => hts w (List.mem_cons_of_mem _ hw)) hK ⟨Nat.le_refl _, Nat.le_refl _⟩ B.returns B.notSynchronized h2 hW va_S.rf
section PZD
variable {p : Program} {l : Launch} {e : Env} {R : Room} {s : State} {m : MethodId} {args : Array Value} {below : List Frame} {meth : Method} {c : Code} {H H0 : Heap} {locs : List Loc} {Q : State → Prop}
variable {dA dC : Nat → ClassId} {dI : Nat → Nat → Nat} {L : List Nat} {k pc : Nat} {lsA : Array Slot} {ls st : List Value} {f : pz_F}
set_option maxHeartbeats 4000000 in
theorem pz_callW {d k' : Nat} {as rest : List Value} {Q1 : Option Value → pz_F → Prop} (hx : p.tables.exec = Jvm.exec) (hb : c.code = pz_b k) (hml : c.maxLocals = pz_n k) (hown : s.vm.findClass (pz_on (pz_kc k)) = some m.cls) (hts : ∀ w ∈ pz_ws, w.before args s = true) (hK : pz_K dA dC dI s) (hR : d + 2 ≤ R.frames ∧ 32 * (d + 2) ≤ R.locals)
    (hz : pz_stp dA k pc ls st f = some (.inr (.inl (k', as, rest)))) (hsn : pz_Snd dA dC dI L l d) (hC : pz_C dA d k' as f Q1) (hL : pz_L (pz_n k) ls lsA) (hW : pz_W dC dI L f H) (hS : va_S (fun q => q ∈ L) H0 H locs)
    (kk : ∀ (r : Option Value) (f' : pz_F) (H1 : Heap) (locs1 : List Loc), Q1 r f' → pz_W dC dI L f' H1 → va_S (fun q => q ∈ L) H0 H1 locs1 → W p l e R s m args below meth c H1 locs1 0 0 Q (F0 m (pc + 3) lsA (r.toList ++ rest))) : W p l e R s m args below meth c H locs 0 0 Q (F0 m pc lsA st) := by
  obtain ⟨idx, hm, hlen, As, hpk, hcase⟩ := pz_stp_c hz
  obtain ⟨hlink, hkok⟩ := pz_mth_ok hm
  obtain ⟨hpl, hcn, hnh, hpd, hn13, hcode, hini, hvir, hsta⟩ := hkok
  obtain ⟨hal, hall⟩ := pz_pk_all _ _ hpk
  have hroom : (rest.map fun v => v.category).sum ≤ 8 := by have := pz_cat rest; omega
  have hF : (pz_rm d).frames + 1 ≤ R.frames ∧ 8 + (pz_n k' + 11) + (pz_rm d).locals ≤ R.locals := by
    refine ⟨hR.1, ?_⟩
    show 8 + (pz_n k' + 11) + 32 * (d + 1) ≤ R.locals
    omega
  have hpar : ∀ sig, parseMethodDescriptor (pz_y k').desc = some sig → As.length = sig.parameters.length := by
    intro sig hsig
    rw [hsig] at hpd
    rw [hal]
    exact (Option.some.inj hpd).symm
  have hpay := pay_in hts (pz_good k' hcode)
  have hcm : Jvm.Cond.code (pz_y k') (pz_b k') (pz_n k') (pz_ret k') ∈ pz_wk k' := List.mem_cons_self
  rcases hcase with ⟨hd, hvi, b, fs, rfl, rfl, hbf⟩ | ⟨hd, hvi, rfl, rfl⟩
  · obtain ⟨hinst, hsel, T, N, hcls, hnk⟩ := hvir hvi
    have hobj : ∃ cellB : Cell, H[b]? = some cellB ∧ cellB.vm.isStatics = false ∧ s.vm.findClass (pz_y k').cls = some cellB.cls := by
      obtain ⟨fw, k0, -, hP, -, hk0, -⟩ := hW.at hbf
      exact va_recv hK.1 hP hcls hk0
    have hM := pz_metOf hsn ⟨hpl, hcn, hnh, hpd, hn13, hcode, hini, hvir, hsta⟩ (as := .ref b :: As) (by simp only [List.all_cons, Bool.and_eq_true]; exact ⟨⟨rfl, rfl⟩, hall⟩) (by simp only [List.length_cons]; omega) hC
    have hpre : PreV s H (pz_y k').cls b (pz_Pc dA dC dI L (.ref b :: As) f) As := ⟨pz_blind, hobj, fun U hU hWm => ⟨rfl, by rw [hU]; exact hW, hK.warm hWm⟩⟩
    rcases hlink with hlink | ⟨host, hlink⟩
    · exact pz_behind (va_runV (cc := pz_b k) (nL := pz_n k) (n := As.length) (Ts := pz_ws) ⟨hx, hb, hml, hown, hts⟩ hM ⟨⟨rfl, rfl, hF.1, hF.2, hpay, hcm, hts _ hcode, hts _ hini, hnh, hpar, hts _ hlink⟩, hts _ hinst, hts _ hsel⟩ hpre rfl rfl hL.1 rfl (lv_room hroom) hd ⟨Nat.zero_le _, Nat.zero_le _⟩) hS kk
    · exact pz_behind (va_runVN (cc := pz_b k) (nL := pz_n k) (n := As.length) (Ts := pz_ws) (host := host) ⟨hx, hb, hml, hown, hts⟩ hM ⟨⟨⟨rfl, rfl, hF.1, hF.2, hpay, hcm⟩, hts _ hcode, hts _ hini, hnh, hpar, va_Nw.use rfl (hK.2 _ hlink)⟩, hts _ hinst, hts _ hsel⟩ hpre rfl rfl hL.1 rfl (lv_room hroom) hd ⟨Nat.zero_le _, Nat.zero_le _⟩) hS kk
  · obtain ⟨hstat, hnk⟩ := hsta hvi
    have hM := pz_metOf hsn ⟨hpl, hcn, hnh, hpd, hn13, hcode, hini, hvir, hsta⟩ hall (by omega) hC
    have hpre : PreS s H (pz_Pc dA dC dI L as f) as := ⟨pz_blind, fun U hU hWm => ⟨rfl, by rw [hU]; exact hW, hK.warm hWm⟩⟩
    rcases hlink with hlink | ⟨host, hlink⟩
    · exact pz_behind (va_runS (cc := pz_b k) (nL := pz_n k) (n := as.length) (Ts := pz_ws) ⟨hx, hb, hml, hown, hts⟩ hM ⟨⟨rfl, rfl, hF.1, hF.2, hpay, hcm, hts _ hcode, hts _ hini, hnh, hpar, hts _ hlink⟩, hts _ hstat⟩ hpre rfl rfl hL.1 rfl (lv_room hroom) hd ⟨Nat.zero_le _, Nat.zero_le _⟩) hS kk
    · exact pz_behind (va_runSN (cc := pz_b k) (nL := pz_n k) (n := as.length) (Ts := pz_ws) (host := host) ⟨hx, hb, hml, hown, hts⟩ hM ⟨⟨⟨rfl, rfl, hF.1, hF.2, hpay, hcm⟩, hts _ hcode, hts _ hini, hnh, hpar, va_Nw.use rfl (hK.2 _ hlink)⟩, hts _ hstat, trivial⟩ hpre rfl rfl hL.1 rfl (lv_room hroom) hd ⟨Nat.zero_le _, Nat.zero_le _⟩) hS kk
theorem pz_retW {Qp : Option Value → pz_F → Prop} {v : Option Value} (hx : p.tables.exec = Jvm.exec) (hb : c.code = pz_b k) (hr : meth.sig.returnType = pz_ret k) (hlk : meth.locks = false)
    (hz : pz_stp dA k pc ls st f = some (.inr (.inr v))) (hq : Qp v f) (hW : pz_W dC dI L f H) (hS : va_S (fun q => q ∈ L) s.heap H locs) : W p l e R s m args below meth c H locs 0 0 (MQ below (pz_Qc dC dI L Qp) args s 0 0 (fun q => q ∈ L)) (F0 m pc lsA st) := by
  rcases pz_stp_r hz with ⟨x, ty, hd, rfl, rfl, hty, hn⟩ | ⟨y, n, hd, rfl, rfl, hty, hy⟩ | ⟨hd, rfl, rfl, hty⟩
  · exact W.zret hx hb (hr.trans hty) hn (fun t ht hWm => ⟨⟨_, f, rfl, hq, by rw [ht]; exact hW⟩, hS.F ht⟩) hS.2.2 hd hlk
  · exact W.aret hx hb (hr.trans hty) (Or.inl ⟨n, rfl⟩) hy (fun t ht hWm => ⟨⟨_, f, rfl, hq, by rw [ht]; exact hW⟩, hS.F ht⟩) hS.2.2 hd hlk
  · exact W.vret hx hb (hr.trans hty) (fun t ht hWm => ⟨⟨_, f, rfl, hq, by rw [ht]; exact hW⟩, hS.F ht⟩) hS.2.2 hd hlk
end PZD
theorem pz_snd (dA dC : Nat → ClassId) (dI : Nat → Nat → Nat) (L : List Nat) (l : Launch) : ∀ d, pz_Snd dA dC dI L l d := by
  intro d
  induction d with
  | zero =>
    intro k pc ls st f Qp h p e R s m args below meth c H locs lsA hx hb hml hown hts hK hR hr hlk hL hW hS
    have h : pz_lf dA (pz_Cd dA 0) Qp k pc ls st f := h
    refine h (fun pc ls st f => ∀ (H : Heap) (locs : List Loc) (lsA : Array Slot), pz_L (pz_n k) ls lsA → pz_W dC dI L f H → va_S (fun q => q ∈ L) s.heap H locs → W p l e R s m args below meth c H locs 0 0 (MQ below (pz_Qc dC dI L Qp) args s 0 0 (fun q => q ∈ L)) (F0 m pc lsA st)) ?_ H locs lsA hL hW hS
    intro pc ls st f hw H locs lsA hL hW hS
    generalize hz : pz_stp dA k pc ls st f = z at hw
    match z, hz, hw with
    | some (.inl (pc', ls', st', f')), hz, hw => exact pz_step hx hb hml hown hts hK ⟨by omega, by omega, Nat.zero_le _, Nat.zero_le _⟩ hz hL hW hS hw
    | some (.inr (.inl c)), hz, hw => exact hw.elim
    | some (.inr (.inr v)), hz, hw => exact pz_retW hx hb hr hlk hz hw hW hS
  | succ d ih =>
    intro k pc ls st f Qp h p e R s m args below meth c H locs lsA hx hb hml hown hts hK hR hr hlk hL hW hS
    have h : pz_lf dA (pz_Cd dA (d + 1)) Qp k pc ls st f := h
    refine h (fun pc ls st f => ∀ (H : Heap) (locs : List Loc) (lsA : Array Slot), pz_L (pz_n k) ls lsA → pz_W dC dI L f H → va_S (fun q => q ∈ L) s.heap H locs → W p l e R s m args below meth c H locs 0 0 (MQ below (pz_Qc dC dI L Qp) args s 0 0 (fun q => q ∈ L)) (F0 m pc lsA st)) ?_ H locs lsA hL hW hS
    intro pc ls st f hw H locs lsA hL hW hS
    generalize hz : pz_stp dA k pc ls st f = z at hw
    match z, hz, hw with
    | some (.inl (pc', ls', st', f')), hz, hw => exact pz_step hx hb hml hown hts hK ⟨by omega, by omega, Nat.zero_le _, Nat.zero_le _⟩ hz hL hW hS hw
    | some (.inr (.inl (k', as, rest))), hz, hw => exact pz_callW hx hb hml hown hts hK hR hz ih hw hL hW hS (fun r f' H1 locs1 h1 h2 h3 => h1 H1 locs1 lsA hL h2 h3)
    | some (.inr (.inr v)), hz, hw => exact pz_retW hx hb hr hlk hz hw hW hS
/-- a method's contract out of its pure run -/
theorem pz_met {dA dC : Nat → ClassId} {dI : Nat → Nat → Nat} {L : List Nat} {l : Launch} {d k : Nat} (hk : pz_kok k) {as : List Value} {f : pz_F} {Q : Option Value → pz_F → Prop} (hp : as.all (fun v => v.category == 1 && v != .retAddr 0) = true) (hn : as.length ≤ pz_n k) (h : pz_C dA d k as f Q) : Met l (pz_y k) (pz_wk k) (pz_rm d) (pz_Pc dA dC dI L as f) (pz_Qc dC dI L Q) 0 0 (fun q => q ∈ L) := pz_metOf (pz_snd dA dC dI L l d) hk hp hn h
