/-! the pure machine is the machine: locals, cells, one step -/
def pz_lv (ls : List Value) : List (Nat × Value) := (List.range ls.length).filterMap (fun i => match ls[i]? with
  | some v => if v = .retAddr 0 then none else some (i, v)
  | none => none)
theorem pz_lv_mem {ls : List Value} {i : Nat} {v : Value} (h : ls[i]? = some v) (hv : v ≠ .retAddr 0) : (i, v) ∈ pz_lv ls := by
  have hi : i < ls.length := (List.getElem?_eq_some_iff.mp h).1
  refine List.mem_filterMap.mpr ⟨i, List.mem_range.mpr hi, ?_⟩
  rw [h]
  simp [hv]
theorem pz_lv_of {ls : List Value} {q : Nat × Value} (h : q ∈ pz_lv ls) : ls[q.1]? = some q.2 ∧ q.2 ≠ .retAddr 0 := by
  obtain ⟨i, -, h2⟩ := List.mem_filterMap.mp h
  cases hx : ls[i]? with
  | none => rw [hx] at h2; cases h2
  | some v =>
    rw [hx] at h2
    dsimp only at h2
    split at h2
    · cases h2
    · rename_i hv
      cases h2
      exact ⟨hx, hv⟩
def pz_L (n : Nat) (ls : List Value) (lsA : Array Slot) : Prop := lsA.size = n ∧ lv_wf lsA ∧ ls.length = n ∧ ∀ (i : Nat) (v : Value), ls[i]? = some v → v ≠ .retAddr 0 → v.category = 1 ∧ lsA[i]? = some (.val v)
theorem pz_L.has {n : Nat} {ls : List Value} {lsA : Array Slot} (h : pz_L n ls lsA) : lv_has lsA n (pz_lv ls) := ⟨h.1, h.2.1, fun q hq => (h.2.2.2 _ _ (pz_lv_of hq).1 (pz_lv_of hq).2).2⟩
theorem pz_L.set {n i : Nat} {ls : List Value} {lsA lsA' : Array Slot} {v : Value} (h : pz_L n ls lsA) (hv : v.category = 1) (h' : lv_has lsA' n ((i, v) :: (pz_lv ls).filter (fun q => !(q.1 == i) && !(q.1 + 1 == i && q.2.category == 2)))) : pz_L n (ls.set i v) lsA' := by
  refine ⟨h'.1, h'.2.1, by rw [List.length_set]; exact h.2.2.1, fun j w hj hw => ?_⟩
  by_cases e : j = i
  · subst e
    have hl : j < ls.length := by
      have := (List.getElem?_eq_some_iff.mp hj).1
      rwa [List.length_set] at this
    rw [List.getElem?_set_self hl] at hj
    cases hj
    exact ⟨hv, h'.2.2 (j, v) List.mem_cons_self⟩
  · rw [List.getElem?_set_ne (Ne.symm e)] at hj
    obtain ⟨c1, -⟩ := h.2.2.2 j w hj hw
    refine ⟨c1, h'.2.2 (j, w) (List.mem_cons_of_mem _ (List.mem_filter.mpr ⟨pz_lv_mem hj hw, ?_⟩))⟩
    simp [e, c1]
theorem pz_L.int {n i : Nat} {ls : List Value} {lsA : Array Slot} {x : Int32} (h : pz_L n ls lsA) (hi : ls[i]? = some (.int x)) : lsA[i]? = some (.val (.int x)) := (h.2.2.2 _ _ hi (fun q => by cases q)).2
theorem pz_L.ref {n i : Nat} {ls : List Value} {lsA : Array Slot} {x : Nat} (h : pz_L n ls lsA) (hi : ls[i]? = some (.ref x)) : lsA[i]? = some (.val (.ref x)) := (h.2.2.2 _ _ hi (fun q => by cases q)).2
theorem pz_L.nul {n i : Nat} {ls : List Value} {lsA : Array Slot} (h : pz_L n ls lsA) (hi : ls[i]? = some .null) : lsA[i]? = some (.val .null) := (h.2.2.2 _ _ hi (fun q => by cases q)).2
/-- the cells of the world -/
def pz_W (dC : Nat → ClassId) (dI : Nat → Nat → Nat) (L : List Nat) (f : pz_F) (H : Heap) : Prop := ∃ fw : Nat → va_E, (∀ a e, f a = some e → a ∈ L ∧ fw a = e) ∧ va_P (dC, dI) pz_cs (va_pl L fw) H ∧ va_D (fun q => q ∈ L) (va_pl L fw)
theorem pz_W.at {dC : Nat → ClassId} {dI : Nat → Nat → Nat} {L : List Nat} {f : pz_F} {H : Heap} (h : pz_W dC dI L f H) {a : Nat} {e : va_E} (ha : f a = some e) : ∃ (fw : Nat → va_E) (k : Nat), (∀ a e, f a = some e → a ∈ L ∧ fw a = e) ∧ va_P (dC, dI) pz_cs (va_pl L fw) H ∧ va_D (fun q => q ∈ L) (va_pl L fw) ∧ (va_pl L fw)[k]? = some (a, e) ∧ (∀ e', (va_pl L fw).set k (a, e') = va_pl L (va_up fw a e')) := by
  obtain ⟨fw, h1, h2, h3⟩ := h
  obtain ⟨hl, he⟩ := h1 a e ha
  obtain ⟨k, hk⟩ := va_pl_get (X := []) (f := fw) hl
  have hk' : (va_pl L fw)[k]? = some (a, fw a) := hk
  refine ⟨fw, k, h1, h2, h3, by rw [hk', he], fun e' => ?_⟩
  have := va_pl_set (A := fun q => q ∈ L) (X := []) (f := fw) (e := e') (by simpa using h3) hl hk
  simpa using this
theorem pz_W.to {dC : Nat → ClassId} {dI : Nat → Nat → Nat} {L : List Nat} {f : pz_F} {H : Heap} {fw : Nat → va_E} {a : Nat} {e e0 : va_E} (ha : f a = some e0) (h1 : ∀ a e, f a = some e → a ∈ L ∧ fw a = e) (h2 : va_P (dC, dI) pz_cs (va_pl L (va_up fw a e)) H) (h3 : va_D (fun q => q ∈ L) (va_pl L (va_up fw a e))) : pz_W dC dI L (pz_up f a e) H := by
  refine ⟨va_up fw a e, fun b e' hb => ?_, h2, h3⟩
  by_cases hba : b = a
  · subst hba
    rw [pz_up_s] at hb
    cases hb
    exact ⟨(h1 b e0 ha).1, va_up_self _ _ _⟩
  · rw [pz_up_n _ _ hba] at hb
    rw [va_up_ne _ _ hba]
    exact h1 b e' hb
def pz_K (dA dC : Nat → ClassId) (dI : Nat → Nat → Nat) (U : State) : Prop := va_K (dC, dI) pz_cs (pz_ty dA) U ∧ ∀ w ∈ pz_nw, va_Nw w U
section PZS
variable {p : Program} {l : Launch} {e : Env} {R : Room} {s : State} {m : MethodId} {args : Array Value} {below : List Frame} {meth : Method} {c : Code} {H H0 : Heap} {locs : List Loc} {cells slots : Nat} {Q : State → Prop}
variable {dA dC : Nat → ClassId} {dI : Nat → Nat → Nat} {L : List Nat} {k pc : Nat} {lsA : Array Slot} {st : List Value} {f : pz_F}
theorem pz_getW {idx a ci j : Nat} {v : Value} {r : List Value} (hx : p.tables.exec = Jvm.exec) (hb : c.code = pz_b k) (hown : s.vm.findClass (pz_on (pz_kc k)) = some m.cls) (hts : ∀ w ∈ pz_ws, w.before args s = true) (hK : pz_K dA dC dI s) (hW : pz_W dC dI L f H)
    (hd : decode (pz_b k) pc = .ok (.getfield idx, 3)) (hq : pz_fld (pz_kc k) idx = some (ci, j)) (hv : pz_gf f a ci j = some v) (kk : W p l e R s m args below meth c H locs cells slots Q (F0 m (pc + 3) lsA (v :: r))) : W p l e R s m args below meth c H locs cells slots Q (F0 m pc lsA (.ref a :: r)) := by
  obtain ⟨fs, ha, hj⟩ := pz_gf_inv hv
  obtain ⟨fw, k0, -, hP, -, hk0, -⟩ := hW.at ha
  obtain ⟨C, T, N, hc, hjN, hin, hdecl, hlink⟩ := pz_fld_ok hq
  rcases hlink with hlink | ⟨host, hlink⟩
  · exact va_get (ref := C) hx hb hts hin hown hK.1 hP k0 hk0 hc j hjN (hts _ hlink) (fun x h => by rw [← hdecl]; exact h) hj hd kk
  · exact va_getN (ref := C) (host := host) hx hb hts hin hown hK.1 hP k0 hk0 hc j hjN (va_Nw.use rfl (hK.2 _ hlink)) (fun x h => by rw [← hdecl]; exact h) hj hd kk
theorem pz_putW {idx a ci j : Nat} {v : Value} {r : List Value} {f' : pz_F} (hx : p.tables.exec = Jvm.exec) (hb : c.code = pz_b k) (hown : s.vm.findClass (pz_on (pz_kc k)) = some m.cls) (hts : ∀ w ∈ pz_ws, w.before args s = true) (hK : pz_K dA dC dI s) (hW : pz_W dC dI L f H) (hS : va_S (fun q => q ∈ L) H0 H locs)
    (hd : decode (pz_b k) pc = .ok (.putfield idx, 3)) (hq : pz_fld (pz_kc k) idx = some (ci, j)) (hfin : pz_wr ci j = true) (hn : narrow (pz_fty ci j) v = v) (hfit : fits (pz_fty ci j) v = true) (hv : pz_pf f a ci j v = some f') (kk : ∀ (H' : Heap) (locs' : List Loc), pz_W dC dI L f' H' → va_S (fun q => q ∈ L) H0 H' locs' → W p l e R s m args below meth c H' locs' cells slots Q (F0 m (pc + 3) lsA r)) : W p l e R s m args below meth c H locs cells slots Q (F0 m pc lsA (v :: .ref a :: r)) := by
  obtain ⟨fs, ha, hj, rfl⟩ := pz_pf_inv hv
  obtain ⟨fw, k0, hfw, hP, hD, hk0, hset⟩ := hW.at ha
  obtain ⟨C, T, N, hc, hjN, hin, hdecl, hlink⟩ := pz_fld_ok hq
  obtain ⟨hty, hnm, hf1⟩ := pz_cs_ok hc
  have hfin' : (T j).2.2.2 = false := by rw [hf1 j hjN, hfin]; rfl
  rcases hlink with hlink | ⟨host, hlink⟩
  · refine va_put (ref := C) hx hb hts hin (pz_fty ci) hty hnm hown hK.1 hP hD hS k0 hk0 hc j hjN (hts _ hlink) (fun x h => by rw [← hdecl]; exact h) hfin' (hty j hjN) hn hfit hj hd (fun H1 locs1 hP1 hD1 hS1 => ?_)
    rw [hset] at hP1 hD1
    exact kk H1 locs1 (pz_W.to ha hfw hP1 hD1) hS1
  · refine va_putN (ref := C) (host := host) hx hb hts hin (pz_fty ci) hty hnm hown hK.1 hP hD hS k0 hk0 hc j hjN (va_Nw.use rfl (hK.2 _ hlink)) (fun x h => by rw [← hdecl]; exact h) hfin' (hty j hjN) hn hfit hj hd (fun H1 locs1 hP1 hD1 hS1 => ?_)
    rw [hset] at hP1 hD1
    exact kk H1 locs1 (pz_W.to ha hfw hP1 hD1) hS1

theorem pz_cat : ∀ r : List Value, (r.map fun v => v.category).sum ≤ 2 * r.length
  | [] => Nat.le_refl _
  | v :: r => by
    have h := pz_cat r
    rcases lv_cat v with h1 | h1 <;> simp only [List.map_cons, List.sum_cons, List.length_cons, h1] <;> omega
set_option maxHeartbeats 4000000 in
set_option maxRecDepth 100000 in
theorem pz_step {pc' : Nat} {ls ls' st' : List Value} {f' : pz_F} (hx : p.tables.exec = Jvm.exec) (hb : c.code = pz_b k) (hml : c.maxLocals = pz_n k) (hown : s.vm.findClass (pz_on (pz_kc k)) = some m.cls) (hts : ∀ w ∈ pz_ws, w.before args s = true) (hK : pz_K dA dC dI s) (hR : 1 ≤ R.frames ∧ 24 ≤ R.locals ∧ cells ≤ R.cells ∧ slots ≤ R.slots)
    (h : pz_stp dA k pc ls st f = some (.inl (pc', ls', st', f'))) (hL : pz_L (pz_n k) ls lsA) (hW : pz_W dC dI L f H) (hS : va_S (fun q => q ∈ L) H0 H locs)
    (kk : ∀ (H' : Heap) (locs' : List Loc) (lsA' : Array Slot), pz_L (pz_n k) ls' lsA' → pz_W dC dI L f' H' → va_S (fun q => q ∈ L) H0 H' locs' → W p l e R s m args below meth c H' locs' cells slots Q (F0 m pc' lsA' st')) : W p l e R s m args below meth c H locs cells slots Q (F0 m pc lsA st) := by
  replace h := pz_stp_ex h; obtain ⟨i, n, hd, h⟩ := h
  unfold pz_ex at h
  split at h
  · -- iconst
    replace h := pz_g1_inv h; obtain ⟨rfl, h⟩ := h
    cases h
    exact lv_iconst hx hb hd rfl (kk _ _ _ hL hW hS)
  · -- bipush
    replace h := pz_g1_inv h; obtain ⟨rfl, h⟩ := h
    cases h
    exact lv_bipush hx hb hd rfl (kk _ _ _ hL hW hS)
  · -- sipush
    replace h := pz_g1_inv h; obtain ⟨rfl, h⟩ := h
    cases h
    exact lv_sipush hx hb hd rfl (kk _ _ _ hL hW hS)
  · -- aconst_null
    replace h := pz_g1_inv h; obtain ⟨rfl, h⟩ := h
    cases h
    exact lv_null hx hb hd (kk _ _ _ hL hW hS)
  · -- iload_n
    replace h := pz_g1_inv h; obtain ⟨rfl, h⟩ := h
    replace h := pz_li_inv h; obtain ⟨x, hi, h⟩ := h
    cases h
    exact lv_iload_n hx hb hd rfl (hL.int hi) (kk _ _ _ hL hW hS)
  · -- iload
    replace h := pz_g1_inv h; obtain ⟨rfl, h⟩ := h
    replace h := pz_li_inv h; obtain ⟨x, hi, h⟩ := h
    cases h
    exact lv_iload hx hb hd (hL.int hi) (kk _ _ _ hL hW hS)
  · -- aload_n
    replace h := pz_g1_inv h; obtain ⟨rfl, h⟩ := h
    replace h := pz_la_inv h; rcases h with ⟨a, hi, h⟩ | ⟨hi, h⟩
    · cases h
      exact lv_aload_n hx hb hd rfl (hL.ref hi) (kk _ _ _ hL hW hS)
    · cases h
      exact lv_aload_nN hx hb hd rfl (hL.nul hi) (kk _ _ _ hL hW hS)
  · -- aload
    replace h := pz_g1_inv h; obtain ⟨rfl, h⟩ := h
    replace h := pz_la_inv h; rcases h with ⟨a, hi, h⟩ | ⟨hi, h⟩
    · cases h
      exact lv_aload hx hb hd (hL.ref hi) (kk _ _ _ hL hW hS)
    · cases h
      exact lv_aloadN hx hb hd (hL.nul hi) (kk _ _ _ hL hW hS)
  · -- istore_n
    replace h := pz_g1_inv h; obtain ⟨rfl, h⟩ := h
    replace h := pz_si_inv h; obtain ⟨x, r, rfl, h⟩ := h
    split at h
    · rename_i hj
      cases h
      exact lv_istore_n hx hb hd rfl hL.has (by rw [← hL.2.2.1]; exact hj) rfl (fun ls1 h1 => kk _ _ _ (hL.set rfl h1) hW hS)
    · cases h
  · -- istore
    replace h := pz_g1_inv h; obtain ⟨rfl, h⟩ := h
    replace h := pz_si_inv h; obtain ⟨x, r, rfl, h⟩ := h
    split at h
    · rename_i hj
      cases h
      exact lv_istore hx hb hd hL.has (by rw [← hL.2.2.1]; exact hj) rfl (fun ls1 h1 => kk _ _ _ (hL.set rfl h1) hW hS)
    · cases h
  · -- astore_n
    replace h := pz_g1_inv h; obtain ⟨rfl, h⟩ := h
    replace h := pz_sv_inv h; obtain ⟨v, r, rfl, h⟩ := h
    replace h := pz_ra_inv h; obtain ⟨hv, h⟩ := h
    split at h
    · rename_i hj
      cases h
      rcases hv with ⟨a, rfl⟩ | rfl
      · exact lv_astore_n hx hb hd rfl hL.has (by rw [← hL.2.2.1]; exact hj) rfl (fun ls1 h1 => kk _ _ _ (hL.set rfl h1) hW hS)
      · exact lv_astore_nN hx hb hd rfl hL.has (by rw [← hL.2.2.1]; exact hj) rfl (fun ls1 h1 => kk _ _ _ (hL.set rfl h1) hW hS)
    · cases h
  · -- astore
    replace h := pz_g1_inv h; obtain ⟨rfl, h⟩ := h
    replace h := pz_sv_inv h; obtain ⟨v, r, rfl, h⟩ := h
    replace h := pz_ra_inv h; obtain ⟨hv, h⟩ := h
    split at h
    · rename_i hj
      cases h
      rcases hv with ⟨a, rfl⟩ | rfl
      · exact lv_astore hx hb hd hL.has (by rw [← hL.2.2.1]; exact hj) rfl (fun ls1 h1 => kk _ _ _ (hL.set rfl h1) hW hS)
      · exact lv_astoreN hx hb hd hL.has (by rw [← hL.2.2.1]; exact hj) rfl (fun ls1 h1 => kk _ _ _ (hL.set rfl h1) hW hS)
    · cases h
  · -- iinc
    replace h := pz_g1_inv h; obtain ⟨rfl, h⟩ := h
    replace h := pz_li_inv h; obtain ⟨x, hi, h⟩ := h
    cases h
    obtain ⟨k9, hk9⟩ := List.getElem?_of_mem (pz_lv_mem hi (fun q => by cases q))
    exact lv_iinc hx hb hd hL.has hk9 rfl (by rw [← hL.2.2.1]; exact (List.getElem?_eq_some_iff.mp hi).1) rfl (fun ls1 h1 => kk _ _ _ (hL.set rfl h1) hW hS)
  · -- iadd
    replace h := pz_g1_inv h; obtain ⟨rfl, h⟩ := h
    replace h := pz_sii_inv h; obtain ⟨x, y, r, rfl, h⟩ := h
    cases h
    exact lv_iadd hx hb hd (kk _ _ _ hL hW hS)
  · -- isub
    replace h := pz_g1_inv h; obtain ⟨rfl, h⟩ := h
    replace h := pz_sii_inv h; obtain ⟨x, y, r, rfl, h⟩ := h
    cases h
    exact lv_isub hx hb hd (kk _ _ _ hL hW hS)
  · -- imul
    replace h := pz_g1_inv h; obtain ⟨rfl, h⟩ := h
    replace h := pz_sii_inv h; obtain ⟨x, y, r, rfl, h⟩ := h
    cases h
    exact lv_imul hx hb hd (kk _ _ _ hL hW hS)
  · -- irem
    replace h := pz_g1_inv h; obtain ⟨rfl, h⟩ := h
    replace h := pz_sii_inv h; obtain ⟨x, y, r, rfl, h⟩ := h
    split at h
    · cases h
    · rename_i hy
      cases h
      exact lv_irem hx hb hd hy (kk _ _ _ hL hW hS)
  · -- iand
    replace h := pz_g1_inv h; obtain ⟨rfl, h⟩ := h
    replace h := pz_sii_inv h; obtain ⟨x, y, r, rfl, h⟩ := h
    cases h
    exact lv_iand hx hb hd (kk _ _ _ hL hW hS)
  · -- ior
    replace h := pz_g1_inv h; obtain ⟨rfl, h⟩ := h
    replace h := pz_sii_inv h; obtain ⟨x, y, r, rfl, h⟩ := h
    cases h
    exact lv_ior hx hb hd (kk _ _ _ hL hW hS)
  · -- ixor
    replace h := pz_g1_inv h; obtain ⟨rfl, h⟩ := h
    replace h := pz_sii_inv h; obtain ⟨x, y, r, rfl, h⟩ := h
    cases h
    exact lv_ixor hx hb hd (kk _ _ _ hL hW hS)
  · -- ishl
    replace h := pz_g1_inv h; obtain ⟨rfl, h⟩ := h
    replace h := pz_sii_inv h; obtain ⟨x, y, r, rfl, h⟩ := h
    cases h
    exact lv_ishl hx hb hd (kk _ _ _ hL hW hS)
  · -- ishr
    replace h := pz_g1_inv h; obtain ⟨rfl, h⟩ := h
    replace h := pz_sii_inv h; obtain ⟨x, y, r, rfl, h⟩ := h
    cases h
    exact lv_ishr hx hb hd (kk _ _ _ hL hW hS)
  · -- ifCond
    replace h := pz_g1_inv h; obtain ⟨rfl, h⟩ := h
    replace h := pz_si_inv h; obtain ⟨x, r, rfl, h⟩ := h
    replace h := pz_j_inv h; obtain ⟨tgt, ht, h⟩ := h
    unfold pz_br at h
    split at h
    · split at h
      · rename_i hc
        cases h
        exact lv_if_eq hx hb hd ht (fun _ => (kk _ _ _ hL hW hS)) (fun q => absurd hc q)
      · rename_i hc
        cases h
        exact lv_if_eq hx hb hd ht (fun q => absurd q hc) (fun _ => (kk _ _ _ hL hW hS))
    · split at h
      · rename_i hc
        cases h
        exact lv_if_ne hx hb hd ht (fun q => absurd hc q) (fun _ => (kk _ _ _ hL hW hS))
      · rename_i hc
        cases h
        exact lv_if_ne hx hb hd ht (fun _ => (kk _ _ _ hL hW hS)) (fun q => absurd q hc)
    · split at h
      · rename_i hc
        cases h
        exact lv_if_lt hx hb hd ht (fun _ => (kk _ _ _ hL hW hS)) (fun q => absurd hc q)
      · rename_i hc
        cases h
        exact lv_if_lt hx hb hd ht (fun q => absurd q hc) (fun _ => (kk _ _ _ hL hW hS))
    · split at h
      · rename_i hc
        cases h
        exact lv_if_ge hx hb hd ht (fun _ => (kk _ _ _ hL hW hS)) (fun q => absurd hc q)
      · rename_i hc
        cases h
        exact lv_if_ge hx hb hd ht (fun q => absurd q hc) (fun _ => (kk _ _ _ hL hW hS))
    · split at h
      · rename_i hc
        cases h
        exact lv_if_gt hx hb hd ht (fun _ => (kk _ _ _ hL hW hS)) (fun q => absurd hc q)
      · rename_i hc
        cases h
        exact lv_if_gt hx hb hd ht (fun q => absurd q hc) (fun _ => (kk _ _ _ hL hW hS))
    · split at h
      · rename_i hc
        cases h
        exact lv_if_le hx hb hd ht (fun _ => (kk _ _ _ hL hW hS)) (fun q => absurd hc q)
      · rename_i hc
        cases h
        exact lv_if_le hx hb hd ht (fun q => absurd q hc) (fun _ => (kk _ _ _ hL hW hS))
  · -- if_icmp
    replace h := pz_g1_inv h; obtain ⟨rfl, h⟩ := h
    replace h := pz_sii_inv h; obtain ⟨x, y, r, rfl, h⟩ := h
    replace h := pz_j_inv h; obtain ⟨tgt, ht, h⟩ := h
    unfold pz_br at h
    split at h
    · split at h
      · rename_i hc
        cases h
        exact lv_icmp_eq hx hb hd ht (fun _ => (kk _ _ _ hL hW hS)) (fun q => absurd hc q)
      · rename_i hc
        cases h
        exact lv_icmp_eq hx hb hd ht (fun q => absurd q hc) (fun _ => (kk _ _ _ hL hW hS))
    · split at h
      · rename_i hc
        cases h
        exact lv_icmp_ne hx hb hd ht (fun q => absurd hc q) (fun _ => (kk _ _ _ hL hW hS))
      · rename_i hc
        cases h
        exact lv_icmp_ne hx hb hd ht (fun _ => (kk _ _ _ hL hW hS)) (fun q => absurd q hc)
    · split at h
      · rename_i hc
        cases h
        exact lv_icmp_lt hx hb hd ht (fun _ => (kk _ _ _ hL hW hS)) (fun q => absurd hc q)
      · rename_i hc
        cases h
        exact lv_icmp_lt hx hb hd ht (fun q => absurd q hc) (fun _ => (kk _ _ _ hL hW hS))
    · split at h
      · rename_i hc
        cases h
        exact lv_icmp_ge hx hb hd ht (fun _ => (kk _ _ _ hL hW hS)) (fun q => absurd hc q)
      · rename_i hc
        cases h
        exact lv_icmp_ge hx hb hd ht (fun q => absurd q hc) (fun _ => (kk _ _ _ hL hW hS))
    · split at h
      · rename_i hc
        cases h
        exact lv_icmp_gt hx hb hd ht (fun _ => (kk _ _ _ hL hW hS)) (fun q => absurd hc q)
      · rename_i hc
        cases h
        exact lv_icmp_gt hx hb hd ht (fun q => absurd q hc) (fun _ => (kk _ _ _ hL hW hS))
    · split at h
      · rename_i hc
        cases h
        exact lv_icmp_le hx hb hd ht (fun _ => (kk _ _ _ hL hW hS)) (fun q => absurd hc q)
      · rename_i hc
        cases h
        exact lv_icmp_le hx hb hd ht (fun q => absurd q hc) (fun _ => (kk _ _ _ hL hW hS))
  · -- goto
    replace h := pz_g1_inv h; obtain ⟨rfl, h⟩ := h
    replace h := pz_j_inv h; obtain ⟨tgt, ht, h⟩ := h
    cases h
    exact lv_goto hx hb hd ht (kk _ _ _ hL hW hS)
  · -- ifnull
    replace h := pz_g1_inv h; obtain ⟨rfl, h⟩ := h
    replace h := pz_sv_inv h; obtain ⟨v, r, rfl, h⟩ := h
    replace h := pz_j_inv h; obtain ⟨tgt, ht, h⟩ := h
    split at h
    · cases h
      exact lv_ifnullN hx hb hd ht (kk _ _ _ hL hW hS)
    · cases h
      exact lv_ifnull hx hb hd (kk _ _ _ hL hW hS)
    · cases h
  · -- ifnonnull
    replace h := pz_g1_inv h; obtain ⟨rfl, h⟩ := h
    replace h := pz_sv_inv h; obtain ⟨v, r, rfl, h⟩ := h
    replace h := pz_j_inv h; obtain ⟨tgt, ht, h⟩ := h
    split at h
    · cases h
      exact lv_ifnonnullN hx hb hd (kk _ _ _ hL hW hS)
    · cases h
      exact lv_ifnonnull hx hb hd ht (kk _ _ _ hL hW hS)
    · cases h
  · -- tableswitch
    replace h := pz_si_inv h; obtain ⟨x, r, rfl, h⟩ := h
    split at h
    · rename_i hc
      replace h := pz_j_inv h; obtain ⟨tgt, ht, h⟩ := h
      cases h
      exact lv_tableOut hx hb hd hc ht (kk _ _ _ hL hW hS)
    · rename_i hc
      split at h
      · rename_i off ho
        replace h := pz_j_inv h; obtain ⟨tgt, ht, h⟩ := h
        cases h
        exact lv_tableIn hx hb hd (fun q => hc (Or.inl q)) (fun q => hc (Or.inr q)) ho ht (kk _ _ _ hL hW hS)
      · cases h
  · -- lookupswitch
    replace h := pz_si_inv h; obtain ⟨x, r, rfl, h⟩ := h
    split at h
    · rename_i hc
      replace h := pz_j_inv h; obtain ⟨tgt, ht, h⟩ := h
      cases h
      exact lv_lookup hx hb hd hc rfl ht (kk _ _ _ hL hW hS)
    · cases h
  · -- dup
    replace h := pz_g1_inv h; obtain ⟨rfl, h⟩ := h
    replace h := pz_sv_inv h; obtain ⟨v, r, rfl, h⟩ := h
    split at h
    · rename_i hc
      cases h
      exact lv_dup hx hb hd hc (kk _ _ _ hL hW hS)
    · cases h
  · -- dup2
    replace h := pz_g1_inv h; obtain ⟨rfl, h⟩ := h
    replace h := pz_svv_inv h; obtain ⟨v, w, r, rfl, h⟩ := h
    split at h
    · rename_i hc
      cases h
      exact lv_dup2_11 hx hb hd hc.1 hc.2 (kk _ _ _ hL hW hS)
    · cases h
  · -- dup_x1
    replace h := pz_g1_inv h; obtain ⟨rfl, h⟩ := h
    replace h := pz_svv_inv h; obtain ⟨v, w, r, rfl, h⟩ := h
    split at h
    · rename_i hc
      cases h
      exact lv_dup_x1 hx hb hd hc.1 hc.2 (kk _ _ _ hL hW hS)
    · cases h
  · -- pop
    replace h := pz_g1_inv h; obtain ⟨rfl, h⟩ := h
    replace h := pz_sv_inv h; obtain ⟨v, r, rfl, h⟩ := h
    split at h
    · rename_i hc
      cases h
      exact lv_pop hx hb hd hc (kk _ _ _ hL hW hS)
    · cases h
  · -- getfield
    replace h := pz_g1_inv h; obtain ⟨rfl, h⟩ := h
    replace h := pz_sr_inv h; obtain ⟨a, r, rfl, h⟩ := h
    split at h
    · rename_i q hq
      replace h := Option.bind_eq_some_iff.mp h; obtain ⟨v, hv, h⟩ := h
      cases h
      exact pz_getW hx hb hown hts hK hW hd hq hv (kk _ _ _ hL hW hS)
    · cases h
  · -- putfield
    replace h := pz_g1_inv h; obtain ⟨rfl, h⟩ := h
    replace h := pz_svr_inv h; obtain ⟨v, a, r, rfl, h⟩ := h
    split at h
    · rename_i q hq
      split at h
      · rename_i hc
        replace h := Option.bind_eq_some_iff.mp h; obtain ⟨v, hv, h⟩ := h
        cases h
        exact pz_putW hx hb hown hts hK hW hS hd hq hc.1 hc.2.1 hc.2.2 hv (fun H1 locs1 hW1 hS1 => kk _ _ _ hL hW1 hS1)
      · cases h
    · cases h
  · -- iaload
    replace h := pz_g1_inv h; obtain ⟨rfl, h⟩ := h
    replace h := pz_sir_inv h; obtain ⟨i, a, r, rfl, h⟩ := h
    replace h := Option.bind_eq_some_iff.mp h; obtain ⟨v, hv, h⟩ := h
    cases h
    obtain ⟨n0, g, ha, hin, rfl⟩ := pz_il_inv hv
    obtain ⟨fw, k0, -, hP, -, hk0, -⟩ := hW.at ha
    exact va_iald hx hb hK.1 hP k0 0 hk0 rfl hin hd (kk _ _ _ hL hW hS)
  · -- iastore
    replace h := pz_g1_inv h; obtain ⟨rfl, h⟩ := h
    replace h := pz_siir_inv h; obtain ⟨x, i, a, r, rfl, h⟩ := h
    replace h := Option.bind_eq_some_iff.mp h; obtain ⟨v, hv, h⟩ := h
    cases h
    obtain ⟨n0, g, ha, hin, rfl⟩ := pz_is_inv hv
    obtain ⟨fw, k0, hfw, hP, hD, hk0, hset⟩ := hW.at ha
    refine va_iast hx hb hK.1 hP hD hS k0 0 hk0 rfl hin hd (fun H1 locs1 hP1 hD1 hS1 => ?_)
    rw [hset] at hP1 hD1
    exact kk _ _ _ hL (pz_W.to ha hfw hP1 hD1) hS1
  · -- baload
    replace h := pz_g1_inv h; obtain ⟨rfl, h⟩ := h
    replace h := pz_sir_inv h; obtain ⟨i, a, r, rfl, h⟩ := h
    replace h := Option.bind_eq_some_iff.mp h; obtain ⟨v, hv, h⟩ := h
    cases h
    obtain ⟨n0, g, ha, hin, rfl⟩ := pz_il_inv hv
    obtain ⟨fw, k0, -, hP, -, hk0, -⟩ := hW.at ha
    exact va_zald hx hb hK.1 hP k0 1 hk0 rfl hin hd (kk _ _ _ hL hW hS)
  · -- bastore
    replace h := pz_g1_inv h; obtain ⟨rfl, h⟩ := h
    replace h := pz_siir_inv h; obtain ⟨x, i, a, r, rfl, h⟩ := h
    replace h := Option.bind_eq_some_iff.mp h; obtain ⟨v, hv, h⟩ := h
    cases h
    obtain ⟨n0, g, ha, hin, rfl⟩ := pz_is_inv hv
    obtain ⟨fw, k0, hfw, hP, hD, hk0, hset⟩ := hW.at ha
    refine va_zast hx hb hK.1 hP hD hS k0 1 hk0 rfl hin hd (fun H1 locs1 hP1 hD1 hS1 => ?_)
    rw [hset] at hP1 hD1
    exact kk _ _ _ hL (pz_W.to ha hfw hP1 hD1) hS1
  · -- aaload
    replace h := pz_g1_inv h; obtain ⟨rfl, h⟩ := h
    replace h := pz_sir_inv h; obtain ⟨i, a, r, rfl, h⟩ := h
    replace h := Option.bind_eq_some_iff.mp h; obtain ⟨v, hv, h⟩ := h
    cases h
    obtain ⟨t, n0, g, ht, ha, hin, rfl⟩ := pz_rl_inv hv
    obtain ⟨fw, k0, -, hP, -, hk0, -⟩ := hW.at ha
    obtain ⟨C, hC⟩ := pz_ty_r (dA := dA) ht
    exact va_aldq hx hb hK.1 hP k0 t hk0 hC hin hd (kk _ _ _ hL hW hS)
  · -- aastore
    replace h := pz_g1_inv h; obtain ⟨rfl, h⟩ := h
    replace h := pz_srir_inv h; obtain ⟨q, i, a, r, rfl, h⟩ := h
    replace h := Option.bind_eq_some_iff.mp h; obtain ⟨v, hv, h⟩ := h
    cases h
    obtain ⟨n0, g, ci, fs, hct, ha, hq, hin, rfl⟩ := pz_rs_inv hv
    obtain ⟨fw, k0, hfw, hP, hD, hk0, hset⟩ := hW.at ha
    obtain ⟨hql, hqe⟩ := hfw q _ hq
    obtain ⟨k1, hk1⟩ := va_pl_get (X := []) (f := fw) hql
    have hk1 : (va_pl L fw)[k1]? = some (q, .inr (ci, fs)) := by rw [← hqe]; exact hk1
    obtain ⟨r0, hr0, -⟩ := hP k1 _ hk1
    refine va_astq hx hb hK.1 hP hD hS k0 (pz_ct ci) k1 ci hk0 (pz_ty_s hct hr0) hk1 hr0 hin hd (fun H1 locs1 hP1 hD1 hS1 => ?_)
    rw [hset] at hP1 hD1
    exact kk _ _ _ hL (pz_W.to ha hfw hP1 hD1) hS1
  · -- invokestatic
    replace h := pz_g1_inv h; obtain ⟨rfl, h⟩ := h
    split at h
    · rename_i hc
      replace h := pz_sii_inv h; obtain ⟨x, y, r, rfl, h⟩ := h
      split at h
      · rename_i hr
        cases h
        obtain ⟨w1, w2, w3, w4⟩ := pz_mx_ok hc
        exact va_mmax hx hb (by rw [hml]; exact hL.1.symm) hown (hts _ w1) (hts _ w2) (hts _ w3) (hts _ w4) hR.1 (by have := pz_cat r; omega) hR.2.2.1 hR.2.2.2 hd (kk _ _ _ hL hW hS)
      · cases h
    · split at h
      · rename_i hc
        replace h := pz_sii_inv h; obtain ⟨x, y, r, rfl, h⟩ := h
        split at h
        · rename_i hr
          cases h
          obtain ⟨w1, w2, w3, w4⟩ := pz_mn_ok hc
          exact va_mmin hx hb (by rw [hml]; exact hL.1.symm) hown (hts _ w1) (hts _ w2) (hts _ w3) (hts _ w4) hR.1 (by have := pz_cat r; omega) hR.2.2.1 hR.2.2.2 hd (kk _ _ _ hL hW hS)
        · cases h
      · cases h
  · -- default
    cases h
end PZS
