/-! the constructors' machine is the machine: one step -/
theorem ci_gf_inv {cs : List ci_E} {a ci j : Nat} {v : Value} (h : ci_gf cs a ci j = some v) : ∃ fs, cs[a]? = some (.inl (ci, fs)) ∧ fs[j]? = some v := by
  unfold ci_gf at h
  split at h
  · rename_i o ho
    split at h
    · rename_i hc
      obtain ⟨o1, o2⟩ := o
      subst hc
      exact ⟨o2, ho, h⟩
    · cases h
  · cases h
theorem ci_pf_inv {cs cs' : List ci_E} {a ci j : Nat} {v : Value} (h : ci_pf cs a ci j v = some cs') : ∃ fs, cs[a]? = some (.inl (ci, fs)) ∧ j < fs.length ∧ cs' = cs.set a (.inl (ci, fs.set j v)) := by
  unfold ci_pf at h
  split at h
  · rename_i o ho
    split at h
    · rename_i hc
      obtain ⟨o1, o2⟩ := o
      obtain ⟨h1, h2⟩ := hc
      dsimp only at h1 h2 ho h
      subst h1
      exact ⟨o2, ho, h2, (Option.some.inj h).symm⟩
    · cases h
  · cases h
theorem ci_is_inv {cs cs' : List ci_E} {a : Nat} {i x : Int32} (h : ci_is cs a i x = some cs') : ∃ xs, cs[a]? = some (.inr (0, .inl xs)) ∧ vp_in i xs.length ∧ cs' = cs.set a (.inr (0, .inl (xs.set i.toNatClampNeg x))) := by
  unfold ci_is at h
  split at h
  · rename_i t xs ho
    split at h
    · rename_i hc
      obtain ⟨h1, h2⟩ := hc
      subst h1
      exact ⟨xs, ho, h2, (Option.some.inj h).symm⟩
    · cases h
  · cases h
theorem ci_rs_inv {cs cs' : List ci_E} {a q : Nat} {i : Int32} (h : ci_rs cs a i q = some cs') : ∃ rs ci fs, pz_ct ci < 6 ∧ cs[a]? = some (.inr (pz_ct ci, .inr rs)) ∧ cs[q]? = some (.inl (ci, fs)) ∧ vp_in i rs.length ∧ cs' = cs.set a (.inr (pz_ct ci, .inr (rs.set i.toNatClampNeg (some q)))) := by
  unfold ci_rs at h
  split at h
  · rename_i t rs o ho hq
    split at h
    · rename_i hc
      obtain ⟨⟨h0, h1⟩, h2⟩ := hc
      obtain ⟨o1, o2⟩ := o
      subst h1
      exact ⟨rs, o1, o2, h0, ho, hq, h2, (Option.some.inj h).symm⟩
    · cases h
  · cases h
theorem ci_la_inv {β : Type} {ls : List Value} {i : Nat} {K : Nat → Option β} {z : β} (h : ci_la ls i K = some z) : ∃ a, ls[i]? = some (.ref a) ∧ K a = some z := by
  unfold ci_la at h
  split at h
  · rename_i a ha
    exact ⟨a, ha, h⟩
  · cases h
theorem ci_fit_ok {ty : FieldType} {v : Value} {as : List Nat} (h : ci_fit ty v = true) : narrow ty (ci_v as v) = ci_v as v ∧ fits ty (ci_v as v) = true := by
  unfold ci_fit at h
  split at h
  · exact ⟨rfl, rfl⟩
  · rename_i x
    simp only [Bool.or_eq_true, decide_eq_true_eq] at h
    rcases h with rfl | rfl
    · exact ⟨show narrow .boolean (.int 0) = .int 0 by decide, show fits .boolean (.int 0) = true by decide⟩
    · exact ⟨show narrow .boolean (.int 1) = .int 1 by decide, show fits .boolean (.int 1) = true by decide⟩
  · exact ⟨rfl, rfl⟩
  · exact ⟨rfl, rfl⟩
  · cases h
theorem ci_df (as : List Nat) (ty : FieldType) : ci_v as (defaultValue ty) = defaultValue ty := by cases ty <;> rfl
theorem ci_zero_m (as : List Nat) (ci : Nat) : (ci_zero ci).map (ci_v as) = ci_zero ci := by
  unfold ci_zero
  rw [List.map_map]
  apply List.map_congr_left
  intro j _
  exact ci_df as _
theorem ci_ra {s : State} {cA cB : ClassId} {ty : FieldType} (h1 : va_RA s cA ty) (h2 : va_RA s cB ty) : cA = cB := by
  cases ty with
  | object C =>
    obtain ⟨-, -, -, -, -, a⟩ := h1
    obtain ⟨-, -, -, -, -, b⟩ := h2
    exact Option.some.inj (a.symm.trans b)
  | _ => exact Option.some.inj (h1.symm.trans h2)
theorem ci_rep0 (n : Nat) : (fun j => (List.replicate n (0 : Int32)).getD j 0) = fun _ => 0 := by
  funext j
  rw [List.getD_eq_getElem?_getD, List.getElem?_replicate]
  split <;> rfl
theorem ci_repN (n : Nat) (g : Nat → Nat) : (fun j => ((List.replicate n (none : Option Nat)).getD j none).map g) = fun _ => none := by
  funext j
  rw [List.getD_eq_getElem?_getD, List.getElem?_replicate]
  split <;> rfl
theorem ci_setI {xs : List Int32} {i : Nat} {x : Int32} (h : i < xs.length) : (fun j => (xs.set i x).getD j 0) = upd (fun j => xs.getD j 0) i x := by
  funext j
  unfold upd
  rw [List.getD_eq_getElem?_getD, List.getElem?_set]
  by_cases e : i = j
  · subst e
    rw [if_pos rfl, if_pos h, if_pos rfl]
    rfl
  · rw [if_neg e, if_neg (Ne.symm e)]
    show _ = xs.getD j 0
    rw [List.getD_eq_getElem?_getD]
theorem ci_setR {rs : List (Option Nat)} {i q : Nat} {g : Nat → Nat} (h : i < rs.length) : (fun j => ((rs.set i (some q)).getD j none).map g) = va_up (fun j => (rs.getD j none).map g) i (some (g q)) := by
  funext j
  unfold va_up
  rw [List.getD_eq_getElem?_getD, List.getElem?_set]
  by_cases e : i = j
  · subst e
    rw [if_pos rfl, if_pos h, if_pos rfl]
    rfl
  · rw [if_neg e, if_neg (Ne.symm e)]
    show _ = Option.map g (rs.getD j none)
    rw [List.getD_eq_getElem?_getD]
/-- the cells of the world -/
def ci_W (A : Nat → Prop) (dA dC : Nat → ClassId) (dI : Nat → Nat → Nat) (as : List Nat) (cs : List ci_E) (H : Heap) : Prop := as.length = cs.length ∧ va_P (dC, dI) pz_cs (ci_w dA as cs) H ∧ va_D A (ci_w dA as cs)
section CIS
variable {p : Program} {l : Launch} {e : Env} {R : Room} {s : State} {m : MethodId} {args : Array Value} {below : List Frame} {meth : Method} {c : Code} {H H0 : Heap} {locs : List Loc} {cells slots : Nat} {Q : State → Prop}
variable {dA dC : Nat → ClassId} {dI : Nat → Nat → Nat} {A : Nat → Prop} {as : List Nat} {cs : List ci_E} {k pc : Nat} {lsA : Array Slot} {ls st : List Value}
theorem ci_getW {idx a ci j : Nat} {v : Value} {r : List Value} (hx : p.tables.exec = Jvm.exec) (hb : c.code = pz_b k) (hown : s.vm.findClass (pz_on (pz_kc k)) = some m.cls) (hts : ∀ w ∈ pz_ws, w.before args s = true) (hK : pz_K dA dC dI s) (hW : ci_W A dA dC dI as cs H)
    (hd : decode (pz_b k) pc = .ok (.getfield idx, 3)) (hq : pz_fld (pz_kc k) idx = some (ci, j)) (hv : ci_gf cs a ci j = some v) (kk : W p l e R s m args below meth c H locs cells slots Q (F0 m (pc + 3) lsA (ci_v as v :: r))) : W p l e R s m args below meth c H locs cells slots Q (F0 m pc lsA (.ref (as.getD a 0) :: r)) := by
  obtain ⟨fs, ha, hj⟩ := ci_gf_inv hv
  obtain ⟨C, T, N, hc, hjN, hin, hdecl, hlink⟩ := pz_fld_ok hq
  have hk0 : (ci_w dA as cs)[a]? = some (as.getD a 0, .inr (ci, fs.map (ci_v as))) := ci_w_at ha
  have hj2 : (fs.map (ci_v as))[j]? = some (ci_v as v) := by rw [List.getElem?_map, hj]; rfl
  rcases hlink with hlink | ⟨host, hlink⟩
  · exact va_get (ref := C) hx hb hts hin hown hK.1 hW.2.1 a hk0 hc j hjN (hts _ hlink) (fun x h => by rw [← hdecl]; exact h) hj2 hd kk
  · exact va_getN (ref := C) (host := host) hx hb hts hin hown hK.1 hW.2.1 a hk0 hc j hjN (va_Nw.use rfl (hK.2 _ hlink)) (fun x h => by rw [← hdecl]; exact h) hj2 hd kk
theorem ci_putW {idx a ci j : Nat} {v : Value} {r : List Value} {cs' : List ci_E} (hx : p.tables.exec = Jvm.exec) (hb : c.code = pz_b k) (hown : s.vm.findClass (pz_on (pz_kc k)) = some m.cls) (hts : ∀ w ∈ pz_ws, w.before args s = true) (hK : pz_K dA dC dI s) (hin9 : meth.name = "<init>") (hW : ci_W A dA dC dI as cs H) (hS : va_S A H0 H locs)
    (hd : decode (pz_b k) pc = .ok (.putfield idx, 3)) (hq : pz_fld (pz_kc k) idx = some (ci, j)) (hwr : pz_wr ci j = true ∨ ci = pz_kc k) (hfit : ci_fit (pz_fty ci j) v = true) (hv : ci_pf cs a ci j v = some cs') (kk : ∀ (H' : Heap) (locs' : List Loc), ci_W A dA dC dI as cs' H' → va_S A H0 H' locs' → W p l e R s m args below meth c H' locs' cells slots Q (F0 m (pc + 3) lsA r)) : W p l e R s m args below meth c H locs cells slots Q (F0 m pc lsA (ci_v as v :: .ref (as.getD a 0) :: r)) := by
  obtain ⟨fs, ha, hj, rfl⟩ := ci_pf_inv hv
  obtain ⟨C, T, N, hc, hjN, hin, hdecl, hlink⟩ := pz_fld_ok hq
  obtain ⟨hty, hnm, hf1⟩ := pz_cs_ok hc
  obtain ⟨hn, hfi⟩ := ci_fit_ok (as := as) hfit
  have hk0 : (ci_w dA as cs)[a]? = some (as.getD a 0, .inr (ci, fs.map (ci_v as))) := ci_w_at ha
  have hset : (ci_w dA as cs).set a (as.getD a 0, .inr (ci, (fs.map (ci_v as)).set j (ci_v as v))) = ci_w dA as (cs.set a (.inl (ci, fs.set j v))) := by
    rw [← ci_w_set]
    show _ = (ci_w dA as cs).set a (as.getD a 0, .inr (ci, (fs.set j v).map (ci_v as)))
    rw [List.map_set]
  have hjl : j < (fs.map (ci_v as)).length := by rw [List.length_map]; exact hj
  have fin : ∀ (H1 : Heap) (locs1 : List Loc), va_P (dC, dI) pz_cs ((ci_w dA as cs).set a (as.getD a 0, .inr (ci, (fs.map (ci_v as)).set j (ci_v as v)))) H1 → va_D A ((ci_w dA as cs).set a (as.getD a 0, .inr (ci, (fs.map (ci_v as)).set j (ci_v as v)))) → va_S A H0 H1 locs1 → W p l e R s m args below meth c H1 locs1 cells slots Q (F0 m (pc + 3) lsA r) := by
    intro H1 locs1 hP1 hD1 hS1
    rw [hset] at hP1 hD1
    exact kk H1 locs1 ⟨by rw [List.length_set]; exact hW.1, hP1, hD1⟩ hS1
  cases hw : pz_wr ci j with
  | true =>
    have hfin' : (T j).2.2.2 = false := by rw [hf1 j hjN, hw]; rfl
    rcases hlink with hlink | ⟨host, hlink⟩
    · exact va_put (ref := C) hx hb hts hin (pz_fty ci) hty hnm hown hK.1 hW.2.1 hW.2.2 hS a hk0 hc j hjN (hts _ hlink) (fun x h => by rw [← hdecl]; exact h) hfin' (hty j hjN) hn hfi hjl hd fin
    · exact va_putN (ref := C) (host := host) hx hb hts hin (pz_fty ci) hty hnm hown hK.1 hW.2.1 hW.2.2 hS a hk0 hc j hjN (va_Nw.use rfl (hK.2 _ hlink)) (fun x h => by rw [← hdecl]; exact h) hfin' (hty j hjN) hn hfi hjl hd fin
  | false =>
    have hfin' : (T j).2.2.2 = true := by rw [hf1 j hjN, hw]; rfl
    have he : ci = pz_kc k := by
      rcases hwr with h | h
      · rw [hw] at h; cases h
      · exact h
    subst he
    obtain ⟨hl2, hC⟩ := ci_own_ok hq hc
    exact va_putF (ref := C) hx hb hts hin (pz_fty (pz_kc k)) hty hnm hown hK.1 hW.2.1 hW.2.2 hS a hk0 hc j hjN (hts _ hl2) (fun x h => by rw [← hdecl]; exact h) hfin' hin9 (hdecl.trans hC) (hty j hjN) hn hfi hjl hd fin
theorem ci_stp_ex {k pc : Nat} {ls st : List Value} {cs : List ci_E} {z : ci_P} (h : ci_stp k pc ls st cs = some (.inl z)) : ∃ i n, decode (pz_b k) pc = .ok (i, n) ∧ ci_ex k pc n ls st cs i = some z := by
  unfold ci_stp at h
  split at h
  · cases h
  · rename_i q hd
    obtain ⟨i, n⟩ := q
    refine ⟨i, n, hd, ?_⟩
    dsimp only at h
    unfold ci_st1 at h
    split at h
    · split at h
      · replace h := pz_g1_inv h; obtain ⟨-, h⟩ := h
        replace h := pz_sr_inv h; obtain ⟨b, r, -, h⟩ := h
        split at h
        · cases h
        · cases h
      · replace h := Option.map_eq_some_iff.mp h; obtain ⟨y, h1, h2⟩ := h
        cases h2
        exact h1
    · replace h := pz_g1_inv h; obtain ⟨-, h⟩ := h
      split at h
      · cases h
      · cases h
    · replace h := Option.map_eq_some_iff.mp h; obtain ⟨y, h1, h2⟩ := h
      cases h2
      exact h1
theorem ci_stp_c {k pc k' : Nat} {ls st vs rest : List Value} {cs : List ci_E} (h : ci_stp k pc ls st cs = some (.inr (.inl (k', vs, rest)))) : ∃ idx b As, decode (pz_b k) pc = .ok (.invokespecial idx, 3) ∧ ci_mth (pz_kc k) idx = some k' ∧ rest.length ≤ 4 ∧ ci_ok cs ls rest = true ∧ pz_pk (pz_pt k') As = true ∧ vs = .ref b :: As ∧ st = As.reverse ++ .ref b :: rest := by
  unfold ci_stp at h
  split at h
  · cases h
  · rename_i q hd
    obtain ⟨i, n⟩ := q
    dsimp only at h
    unfold ci_st1 at h
    split at h
    · rename_i idx
      split at h
      · rename_i k2 hk
        replace h := pz_g1_inv h; obtain ⟨rfl, h⟩ := h
        replace h := pz_sr_inv h; obtain ⟨b, r, hst, h⟩ := h
        split at h
        · rename_i hc
          cases h
          refine ⟨idx, b, _, hd, hk, hc.1, hc.2.1, hc.2.2, rfl, ?_⟩
          rw [List.reverse_reverse, ← hst, List.take_append_drop]
        · cases h
      · replace h := Option.map_eq_some_iff.mp h; obtain ⟨y, h1, h2⟩ := h
        cases h2
    · replace h := pz_g1_inv h; obtain ⟨-, h⟩ := h
      split at h
      · cases h
      · cases h
    · replace h := Option.map_eq_some_iff.mp h; obtain ⟨y, h1, h2⟩ := h
      cases h2
theorem ci_stp_r {k pc : Nat} {ls st : List Value} {cs : List ci_E} {u : Unit} (h : ci_stp k pc ls st cs = some (.inr (.inr u))) : decode (pz_b k) pc = .ok (.return_, 1) ∧ st = [] := by
  unfold ci_stp at h
  split at h
  · cases h
  · rename_i q hd
    obtain ⟨i, n⟩ := q
    dsimp only at h
    unfold ci_st1 at h
    split at h
    · split at h
      · replace h := pz_g1_inv h; obtain ⟨-, h⟩ := h
        replace h := pz_sr_inv h; obtain ⟨b, r, -, h⟩ := h
        split at h
        · cases h
        · cases h
      · replace h := Option.map_eq_some_iff.mp h; obtain ⟨y, h1, h2⟩ := h
        cases h2
    · replace h := pz_g1_inv h; obtain ⟨rfl, h⟩ := h
      split at h
      · exact ⟨hd, rfl⟩
      · cases h
    · replace h := Option.map_eq_some_iff.mp h; obtain ⟨y, h1, h2⟩ := h
      cases h2
theorem ci_ok_inv {cs : List ci_E} {ls st : List Value} (h : ci_ok cs ls st = true) : cs.all (ci_okc cs.length) = true ∧ ls.all (ci_okv cs.length) = true ∧ st.all (ci_okv cs.length) = true := by
  unfold ci_ok at h
  simp only [Bool.and_eq_true] at h
  exact ⟨h.1.1, h.1.2, h.2⟩
theorem ci_last {as : List Nat} {q n : Nat} (h : as.length = n) : (as ++ [q]).getD n 0 = q := by
  subst h
  rw [List.getD_eq_getElem?_getD, List.getElem?_append_right (Nat.le_refl _)]
  simp
theorem ci_atys {ty : FieldType} (t : Nat) (hK : pz_K dA dC dI s) (ht : (pz_ty dA)[t]? = some (dA t, ty)) {cA : ClassId} (h : va_K (dC, dI) pz_cs (pz_ty dA ++ [(cA, ty)]) s) : cA = dA t := ci_ra (h.2 6 (cA, ty) rfl).2 (hK.1.2 t (dA t, ty) ht).2
set_option maxHeartbeats 4000000 in
set_option maxRecDepth 100000 in
theorem ci_step {z : ci_P} (hx : p.tables.exec = Jvm.exec) (hb : c.code = pz_b k) (hml : c.maxLocals = pz_n k) (hown : s.vm.findClass (pz_on (pz_kc k)) = some m.cls) (hts : ∀ w ∈ pz_ws, w.before args s = true) (hK : pz_K dA dC dI s) (hO : ci_O s) (hin9 : meth.name = "<init>") (hA : ∀ q, H0.size ≤ q → A q) (hR : 1 ≤ R.frames ∧ 24 ≤ R.locals)
    (h : ci_stp k pc ls st cs = some (.inl z)) (hcl : cells + z.2.2.2.2.1 ≤ R.cells) (hsl : slots + z.2.2.2.2.2 ≤ R.slots) (hL : pz_L (pz_n k) (ls.map (ci_v as)) lsA) (hW : ci_W A dA dC dI as cs H) (hS : va_S A H0 H locs)
    (kk : ∀ (l' : List Nat) (H' : Heap) (locs' : List Loc) (lsA' : Array Slot), pz_L (pz_n k) (z.2.1.map (ci_v (as ++ l'))) lsA' → ci_W A dA dC dI (as ++ l') z.2.2.2.1 H' → va_S A H0 H' locs' → W p l e R s m args below meth c H' locs' (cells + z.2.2.2.2.1) (slots + z.2.2.2.2.2) Q (F0 m z.1 lsA' (z.2.2.1.map (ci_v (as ++ l'))))) : W p l e R s m args below meth c H locs cells slots Q (F0 m pc lsA (st.map (ci_v as))) := by
  have k0 := kk []
  rw [List.append_nil] at k0
  replace h := ci_stp_ex h; obtain ⟨i, n, hd, h⟩ := h
  unfold ci_ex at h
  split at h
  · -- iconst
    replace h := pz_g1_inv h; obtain ⟨rfl, h⟩ := h
    cases h
    exact lv_iconst hx hb hd rfl (k0 _ _ _ hL hW hS)
  · -- bipush
    replace h := pz_g1_inv h; obtain ⟨rfl, h⟩ := h
    cases h
    exact lv_bipush hx hb hd rfl (k0 _ _ _ hL hW hS)
  · -- sipush
    replace h := pz_g1_inv h; obtain ⟨rfl, h⟩ := h
    cases h
    exact lv_sipush hx hb hd rfl (k0 _ _ _ hL hW hS)
  · -- iload_n
    replace h := pz_g1_inv h; obtain ⟨rfl, h⟩ := h
    replace h := pz_li_inv h; obtain ⟨x, hi, h⟩ := h
    cases h
    exact lv_iload_n hx hb hd rfl (hL.int (by rw [List.getElem?_map, hi]; rfl)) (k0 _ _ _ hL hW hS)
  · -- aload_n
    replace h := pz_g1_inv h; obtain ⟨rfl, h⟩ := h
    replace h := ci_la_inv h; obtain ⟨a, hi, h⟩ := h
    cases h
    exact lv_aload_n hx hb hd rfl (hL.ref (x := as.getD a 0) (by rw [List.getElem?_map, hi]; rfl)) (k0 _ _ _ hL hW hS)
  · -- istore_n
    replace h := pz_g1_inv h; obtain ⟨rfl, h⟩ := h
    replace h := pz_si_inv h; obtain ⟨x, r, rfl, h⟩ := h
    split at h
    · rename_i j hj
      cases h
      refine lv_istore_n (rest := r.map (ci_v as)) hx hb hd rfl hL.has (by rw [← hL.2.2.1, List.length_map]; exact hj) rfl (fun ls1 h1 => k0 _ _ _ ?_ hW hS)
      have := hL.set (v := .int x) rfl h1
      rw [List.map_set]
      exact this
    · cases h
  · -- iinc
    rename_i jj cc
    replace h := pz_g1_inv h; obtain ⟨rfl, h⟩ := h
    replace h := pz_li_inv h; obtain ⟨x, hi, h⟩ := h
    cases h
    have hi2 : (ls.map (ci_v as))[jj]? = some (Value.int x) := by rw [List.getElem?_map, hi]; rfl
    obtain ⟨k9, hk9⟩ := List.getElem?_of_mem (pz_lv_mem hi2 (fun q => by cases q))
    refine lv_iinc hx hb hd hL.has hk9 rfl (by rw [← hL.2.2.1]; exact (List.getElem?_eq_some_iff.mp hi2).1) rfl (fun ls1 h1 => k0 _ _ _ ?_ hW hS)
    have := hL.set (v := .int _) rfl h1
    rw [List.map_set]
    exact this
  · -- if_icmp
    replace h := pz_g1_inv h; obtain ⟨rfl, h⟩ := h
    replace h := pz_sii_inv h; obtain ⟨x, y, r, rfl, h⟩ := h
    replace h := pz_j_inv h; obtain ⟨tgt, ht, h⟩ := h
    split at h
    · rename_i hc
      cases h
      exact lv_icmp_ge (rest := r.map (ci_v as)) hx hb hd ht (fun _ => (k0 _ _ _ hL hW hS)) (fun q => absurd hc q)
    · rename_i hc
      cases h
      exact lv_icmp_ge (rest := r.map (ci_v as)) hx hb hd ht (fun q => absurd q hc) (fun _ => (k0 _ _ _ hL hW hS))
  · -- goto
    replace h := pz_g1_inv h; obtain ⟨rfl, h⟩ := h
    replace h := pz_j_inv h; obtain ⟨tgt, ht, h⟩ := h
    cases h
    exact lv_goto hx hb hd ht (k0 _ _ _ hL hW hS)
  · -- dup
    replace h := pz_g1_inv h; obtain ⟨rfl, h⟩ := h
    replace h := pz_sr_inv h; obtain ⟨a, r, rfl, h⟩ := h
    cases h
    exact lv_dup (va := .ref (as.getD a 0)) (rest := r.map (ci_v as)) hx hb hd rfl (k0 _ _ _ hL hW hS)
  · -- getfield
    replace h := pz_g1_inv h; obtain ⟨rfl, h⟩ := h
    replace h := pz_sr_inv h; obtain ⟨a, r, rfl, h⟩ := h
    split at h
    · rename_i q hq
      replace h := Option.bind_eq_some_iff.mp h; obtain ⟨v, hv, h⟩ := h
      cases h
      exact ci_getW (r := r.map (ci_v as)) hx hb hown hts hK hW hd hq hv (k0 _ _ _ hL hW hS)
    · cases h
  · -- putfield
    replace h := pz_g1_inv h; obtain ⟨rfl, h⟩ := h
    replace h := pz_svr_inv h; obtain ⟨v, a, r, rfl, h⟩ := h
    split at h
    · rename_i q hq
      split at h
      · rename_i hc
        replace h := Option.bind_eq_some_iff.mp h; obtain ⟨cs', hv, h⟩ := h
        cases h
        exact ci_putW (r := r.map (ci_v as)) hx hb hown hts hK hin9 hW hS hd hq hc.1 hc.2 hv (fun H' locs' w1 w2 => k0 _ _ _ hL w1 w2)
      · cases h
    · cases h
  · -- iastore
    replace h := pz_g1_inv h; obtain ⟨rfl, h⟩ := h
    replace h := pz_siir_inv h; obtain ⟨x, i, a, r, rfl, h⟩ := h
    replace h := Option.bind_eq_some_iff.mp h; obtain ⟨cs', hv, h⟩ := h
    cases h
    obtain ⟨xs, ha, hin, rfl⟩ := ci_is_inv hv
    have hk0 : (ci_w dA as cs)[a]? = some (as.getD a 0, .inl (dA 0, xs.length, .inl (fun j => xs.getD j 0))) := ci_w_at ha
    have hlt : i.toNatClampNeg < xs.length := Nat.not_le.mp fun q => hin (Or.inr q)
    have hset : (ci_w dA as cs).set a (as.getD a 0, .inl (dA 0, xs.length, .inl (upd (fun j => xs.getD j 0) i.toNatClampNeg x))) = ci_w dA as (cs.set a (.inr (0, .inl (xs.set i.toNatClampNeg x)))) := by
      rw [← ci_w_set]
      show _ = (ci_w dA as cs).set a (as.getD a 0, .inl (dA 0, (xs.set i.toNatClampNeg x).length, .inl (fun j => (xs.set i.toNatClampNeg x).getD j 0)))
      rw [ci_setI hlt, List.length_set]
    refine va_iast (rest := r.map (ci_v as)) hx hb hK.1 hW.2.1 hW.2.2 hS a 0 hk0 rfl hin hd (fun H1 locs1 hP1 hD1 hS1 => ?_)
    rw [hset] at hP1 hD1
    exact k0 _ _ _ hL ⟨by rw [List.length_set]; exact hW.1, hP1, hD1⟩ hS1
  · -- aastore
    replace h := pz_g1_inv h; obtain ⟨rfl, h⟩ := h
    replace h := pz_srir_inv h; obtain ⟨q, i, a, r, rfl, h⟩ := h
    replace h := Option.bind_eq_some_iff.mp h; obtain ⟨cs', hv, h⟩ := h
    cases h
    obtain ⟨rs, ci, fs, hct, ha, hq, hin, rfl⟩ := ci_rs_inv hv
    have hk0 : (ci_w dA as cs)[a]? = some (as.getD a 0, .inl (dA (pz_ct ci), rs.length, .inr (.inr (.inr (.inr (fun j => (rs.getD j none).map (fun i => as.getD i 0))))))) := ci_w_at ha
    have hk1 : (ci_w dA as cs)[q]? = some (as.getD q 0, .inr (ci, fs.map (ci_v as))) := ci_w_at hq
    have hlt : i.toNatClampNeg < rs.length := Nat.not_le.mp fun q => hin (Or.inr q)
    have hset : (ci_w dA as cs).set a (as.getD a 0, .inl (dA (pz_ct ci), rs.length, .inr (.inr (.inr (.inr (va_up (fun j => (rs.getD j none).map (fun i => as.getD i 0)) i.toNatClampNeg (some (as.getD q 0)))))))) = ci_w dA as (cs.set a (.inr (pz_ct ci, .inr (rs.set i.toNatClampNeg (some q))))) := by
      rw [← ci_w_set]
      show _ = (ci_w dA as cs).set a (as.getD a 0, .inl (dA (pz_ct ci), (rs.set i.toNatClampNeg (some q)).length, .inr (.inr (.inr (.inr (fun j => ((rs.set i.toNatClampNeg (some q)).getD j none).map (fun i => as.getD i 0)))))))
      rw [ci_setR hlt, List.length_set]
    obtain ⟨r0, hr0, -⟩ := hW.2.1 q _ hk1
    refine va_astq (rest := r.map (ci_v as)) hx hb hK.1 hW.2.1 hW.2.2 hS a (pz_ct ci) q ci hk0 (pz_ty_s hct hr0) hk1 hr0 hin hd (fun H1 locs1 hP1 hD1 hS1 => ?_)
    rw [hset] at hP1 hD1
    exact k0 _ _ _ hL ⟨by rw [List.length_set]; exact hW.1, hP1, hD1⟩ hS1
  · -- new
    replace h := pz_g1_inv h; obtain ⟨rfl, h⟩ := h
    split at h
    · rename_i idx ci hci
      split at h
      · rename_i hok
        cases h
        obtain ⟨o1, o2, o3⟩ := ci_ok_inv hok
        obtain ⟨C, T, N, hc, -, w1, w2, w3⟩ := ci_nw_ok hci
        obtain ⟨hty, hnm, hf1⟩ := pz_cs_ok hc
        have hN : ci_nn ci = N := by unfold ci_nn; rw [hc]
        have hfs : ∀ j, j < N → defaultValue (pz_fty ci j) = vp_V (ci_zero ci) j := by
          intro j hj
          unfold vp_V ci_zero
          rw [List.getD_eq_getElem?_getD, List.getElem?_map, List.getElem?_range (by rw [hN]; exact hj)]
          rfl
        dsimp only at hcl hsl kk
        rw [hN] at hsl kk
        refine va_new (D := (dC, dI)) (cl := pz_cs) (ci := ci) (fs := ci_zero ci) (C := C) (T := T) (N := N) hx hb hts (pz_cs_in hc) (pz_fty ci) hty hown (hts _ w1) (hts _ w2) (hts _ w3) hK.1 hW.2.1 hW.2.2 hS hA hc hfs hcl hsl hd (fun q H1 hP1 hD1 hS1 => ?_)
        have e1 : ci_w dA as cs ++ [(q, .inr (ci, ci_zero ci))] = ci_w dA (as ++ [q]) (cs ++ [.inl (ci, ci_zero ci)]) := by
          rw [← ci_w_push hW.1 o1]
          show _ = ci_w dA as cs ++ [(q, .inr (ci, (ci_zero ci).map (ci_v (as ++ [q]))))]
          rw [ci_zero_m]
        rw [e1] at hP1 hD1
        have k1 := kk [q] H1 locs lsA (by rw [ci_vs_app hW.1 o2]; exact hL) ⟨by rw [List.length_append, List.length_append, hW.1]; rfl, hP1, hD1⟩ hS1
        have e2 : (Value.ref cs.length :: st).map (ci_v (as ++ [q])) = .ref q :: st.map (ci_v as) := by
          rw [List.map_cons, ci_vs_app hW.1 o3]
          show Value.ref ((as ++ [q]).getD cs.length 0) :: _ = _
          rw [ci_last hW.1]
        rw [e2] at k1
        exact k1
      · cases h
    · cases h
  · -- anewarray
    replace h := pz_g1_inv h; obtain ⟨rfl, h⟩ := h
    replace h := pz_si_inv h; obtain ⟨x, r, rfl, h⟩ := h
    split at h
    · rename_i idx ci hci
      split at h
      · rename_i hok
        cases h
        obtain ⟨hok, hct, hx0, hxn⟩ := hok
        obtain ⟨o1, o2, o3⟩ := ci_ok_inv hok
        obtain ⟨C, T, N, hc, -, w1, w2, w3⟩ := ci_nw_ok hci
        dsimp only at hcl hsl kk
        refine va_newq (rest := r.map (ci_v as)) (D := (dC, dI)) (cl := pz_cs) (C := C) (N' := x.toNatClampNeg) hx hb hown (hts _ w1) (hO.at hct hc) hK.1 hW.2.1 hW.2.2 hS hA hx0 rfl (by omega) hcl hsl hd (fun q cA H1 hK1 hP1 hD1 hS1 => ?_)
        have hcA : cA = dA (pz_ct ci) := ci_atys (pz_ct ci) hK (pz_ty_s hct hc) hK1
        subst hcA
        have e1 : ci_w dA as cs ++ [(q, .inl (dA (pz_ct ci), x.toNatClampNeg, .inr (.inr (.inr (.inr (fun _ => none))))))] = ci_w dA (as ++ [q]) (cs ++ [.inr (pz_ct ci, .inr (List.replicate x.toNatClampNeg none))]) := by
          rw [← ci_w_push hW.1 o1]
          show _ = ci_w dA as cs ++ [(q, .inl (dA (pz_ct ci), (List.replicate x.toNatClampNeg (none : Option Nat)).length, .inr (.inr (.inr (.inr (fun j => ((List.replicate x.toNatClampNeg none).getD j none).map (fun i => (as ++ [q]).getD i 0)))))))]
          rw [ci_repN, List.length_replicate]
        rw [e1] at hP1 hD1
        have k1 := kk [q] H1 locs lsA (by rw [ci_vs_app hW.1 o2]; exact hL) ⟨by rw [List.length_append, List.length_append, hW.1]; rfl, hP1, hD1⟩ hS1
        have e2 : (Value.ref cs.length :: r).map (ci_v (as ++ [q])) = .ref q :: r.map (ci_v as) := by
          rw [List.map_cons, ci_vs_app hW.1 o3]
          show Value.ref ((as ++ [q]).getD cs.length 0) :: _ = _
          rw [ci_last hW.1]
        rw [e2] at k1
        exact k1
      · cases h
    · cases h
  · -- newarray
    replace h := pz_g1_inv h; obtain ⟨rfl, h⟩ := h
    replace h := pz_si_inv h; obtain ⟨x, r, rfl, h⟩ := h
    split at h
    · rename_i at9 t hat
      split at h
      · rename_i hok
        cases h
        obtain ⟨hok, hx0, hxn⟩ := hok
        obtain ⟨o1, o2, o3⟩ := ci_ok_inv hok
        dsimp only at hcl hsl kk
        have key : ∀ (q : Nat) (H1 : Heap), va_P (dC, dI) pz_cs (ci_w dA as cs ++ [(q, .inl (dA t, x.toNatClampNeg, .inl (fun _ => 0)))]) H1 → va_D A (ci_w dA as cs ++ [(q, .inl (dA t, x.toNatClampNeg, .inl (fun _ => 0)))]) → va_S A H0 H1 locs → W p l e R s m args below meth c H1 locs (cells + 1) (slots + x.toNatClampNeg) Q (F0 m (pc + 2) lsA (.ref q :: r.map (ci_v as))) := by
          intro q H1 hP1 hD1 hS1
          have e1 : ci_w dA as cs ++ [(q, .inl (dA t, x.toNatClampNeg, .inl (fun _ => 0)))] = ci_w dA (as ++ [q]) (cs ++ [.inr (t, .inl (List.replicate x.toNatClampNeg 0))]) := by
            rw [← ci_w_push hW.1 o1]
            show _ = ci_w dA as cs ++ [(q, .inl (dA t, (List.replicate x.toNatClampNeg (0 : Int32)).length, .inl (fun j => (List.replicate x.toNatClampNeg (0 : Int32)).getD j 0)))]
            rw [ci_rep0, List.length_replicate]
          rw [e1] at hP1 hD1
          have k1 := kk [q] H1 locs lsA (by rw [ci_vs_app hW.1 o2]; exact hL) ⟨by rw [List.length_append, List.length_append, hW.1]; rfl, hP1, hD1⟩ hS1
          have e2 : (Value.ref cs.length :: r).map (ci_v (as ++ [q])) = .ref q :: r.map (ci_v as) := by
            rw [List.map_cons, ci_vs_app hW.1 o3]
            show Value.ref ((as ++ [q]).getD cs.length 0) :: _ = _
            rw [ci_last hW.1]
          rw [e2] at k1
          exact k1
        unfold ci_ty at hat
        split at hat
        · cases hat
          refine va_newa (rest := r.map (ci_v as)) (D := (dC, dI)) (cl := pz_cs) (atype := .int) (ty := .int) (N' := x.toNatClampNeg) (a0 := (x.toNatClampNeg, .inl (fun _ => 0))) hx hb (hts _ ci_ai) rfl hK.1 hW.2.1 hW.2.2 hS hA (fun cA => rfl) hx0 rfl (by show x.toNatClampNeg * 4 ≤ _; omega) hcl hsl hd (fun q cA H1 hK1 hP1 hD1 hS1 => ?_)
          have hcA : cA = dA 0 := ci_atys 0 hK rfl hK1
          subst hcA
          exact key q H1 hP1 hD1 hS1
        · cases hat
          refine va_newa (rest := r.map (ci_v as)) (D := (dC, dI)) (cl := pz_cs) (atype := .boolean) (ty := .boolean) (N' := x.toNatClampNeg) (a0 := (x.toNatClampNeg, .inl (fun _ => 0))) hx hb (hts _ ci_ab) rfl hK.1 hW.2.1 hW.2.2 hS hA (fun cA => rfl) hx0 rfl (by show x.toNatClampNeg * 1 ≤ _; omega) hcl hsl hd (fun q cA H1 hK1 hP1 hD1 hS1 => ?_)
          have hcA : cA = dA 1 := ci_atys 1 hK rfl hK1
          subst hcA
          exact key q H1 hP1 hD1 hS1
        · cases hat
      · cases h
    · cases h
  · -- Object.<init>
    replace h := pz_g1_inv h; obtain ⟨rfl, h⟩ := h
    split at h
    · rename_i hob
      replace h := pz_sr_inv h; obtain ⟨a, r, rfl, h⟩ := h
      split at h
      · rename_i hr
        cases h
        have hcat := pz_cat (r.map (ci_v as))
        rw [List.length_map] at hcat
        refine W.objInit hx hb hown (hts _ (ci_ob_ok hob)) (hts _ ci_ob_i) (hts _ ci_ob_c) rfl (by rw [hml]; exact hL.1) (a := as.getD a 0) (rest := r.map (ci_v as)) rfl hd hR.1 ?_ (k0 _ _ _ hL hW hS)
        have h9 : 2 * (F0 m pc lsA (Value.ref (as.getD a 0) :: r.map (ci_v as))).monitorRoom = 0 := by simp [F0, JFrame.monitorRoom]
        show 2 * (F0 m pc lsA (Value.ref (as.getD a 0) :: r.map (ci_v as))).monitorRoom + _ + 12 ≤ _
        omega
      · cases h
    · cases h
  · cases h
end CIS
