/-! constructors: cells by number, a run that is evaluated -/
abbrev ci_E : Type := (Nat × List Value) ⊕ (Nat × (List Int32 ⊕ List (Option Nat)))
def ci_v (as : List Nat) (v : Value) : Value := match v with
  | .ref i => .ref (as.getD i 0)
  | v => v
def ci_c (dA : Nat → ClassId) (as : List Nat) (c : ci_E) : va_E := match c with
  | .inl o => .inr (o.1, o.2.map (ci_v as))
  | .inr (t, .inl xs) => .inl (dA t, xs.length, .inl (fun j => xs.getD j 0))
  | .inr (t, .inr rs) => .inl (dA t, rs.length, .inr (.inr (.inr (.inr (fun j => (rs.getD j none).map (fun i => as.getD i 0))))))
def ci_w (dA : Nat → ClassId) (as : List Nat) (cs : List ci_E) : va_W := cs.mapIdx (fun i c => (as.getD i 0, ci_c dA as c))
/-- every number is one of a cell -/
def ci_okv (n : Nat) (v : Value) : Bool := match v with
  | .ref i => decide (i < n)
  | _ => true
def ci_okc (n : Nat) (c : ci_E) : Bool := match c with
  | .inl o => o.2.all (ci_okv n)
  | .inr (_, .inl _) => true
  | .inr (_, .inr rs) => rs.all (fun r => match r with
    | some i => decide (i < n)
    | none => true)
theorem ci_getD {as l : List Nat} {i : Nat} (h : i < as.length) : (as ++ l).getD i 0 = as.getD i 0 := by
  rw [List.getD_eq_getElem?_getD, List.getD_eq_getElem?_getD, List.getElem?_append_left h]
theorem ci_v_app {as l : List Nat} {n : Nat} {v : Value} (hn : as.length = n) (h : ci_okv n v = true) : ci_v (as ++ l) v = ci_v as v := by
  subst hn
  cases v with
  | ref i =>
    have h2 : i < as.length := of_decide_eq_true h
    show Value.ref ((as ++ l).getD i 0) = Value.ref (as.getD i 0)
    rw [ci_getD h2]
  | _ => rfl
theorem ci_vs_app {as l : List Nat} {n : Nat} {vs : List Value} (hn : as.length = n) (h : vs.all (ci_okv n) = true) : vs.map (ci_v (as ++ l)) = vs.map (ci_v as) := by
  apply List.map_congr_left
  intro v hv
  exact ci_v_app hn (List.all_eq_true.mp h v hv)
theorem ci_c_app {dA : Nat → ClassId} {as l : List Nat} {n : Nat} {c : ci_E} (hn : as.length = n) (h : ci_okc n c = true) : ci_c dA (as ++ l) c = ci_c dA as c := by
  subst hn
  match c, h with
  | .inl o, h =>
    show (Sum.inr (o.1, o.2.map (ci_v (as ++ l))) : va_E) = Sum.inr (o.1, o.2.map (ci_v as))
    rw [ci_vs_app rfl h]
  | .inr (t, .inl xs), _ => rfl
  | .inr (t, .inr rs), h =>
    have h : rs.all (fun r => match r with
      | some i => decide (i < as.length)
      | none => true) = true := h
    show (Sum.inl (dA t, rs.length, .inr (.inr (.inr (.inr (fun j => (rs.getD j none).map (fun i => (as ++ l).getD i 0)))))) : va_E) = Sum.inl (dA t, rs.length, .inr (.inr (.inr (.inr (fun j => (rs.getD j none).map (fun i => as.getD i 0))))))
    congr 7
    funext j
    rw [List.getD_eq_getElem?_getD]
    cases hj : rs[j]? with
    | none => rfl
    | some r =>
      have := List.all_eq_true.mp h r (List.mem_of_getElem? hj)
      cases r with
      | none => rfl
      | some i =>
        simp only [decide_eq_true_eq] at this
        simp only [Option.getD_some, Option.map_some]
        rw [ci_getD this]
theorem ci_w_at {dA : Nat → ClassId} {as : List Nat} {cs : List ci_E} {i : Nat} {c : ci_E} (h : cs[i]? = some c) : (ci_w dA as cs)[i]? = some (as.getD i 0, ci_c dA as c) := by
  unfold ci_w
  rw [List.getElem?_mapIdx, h]
  rfl
theorem ci_w_set {dA : Nat → ClassId} {as : List Nat} {cs : List ci_E} {i : Nat} {c : ci_E} : (ci_w dA as cs).set i (as.getD i 0, ci_c dA as c) = ci_w dA as (cs.set i c) := by
  unfold ci_w
  apply List.ext_getElem?
  intro j
  rw [List.getElem?_mapIdx, List.getElem?_set, List.getElem?_set, List.getElem?_mapIdx, List.length_mapIdx]
  by_cases h : i = j
  · subst h
    rw [if_pos rfl, if_pos rfl]
    split <;> rfl
  · rw [if_neg h, if_neg h]
theorem ci_w_push {dA : Nat → ClassId} {as : List Nat} {cs : List ci_E} {q : Nat} {c : ci_E} (hl : as.length = cs.length) (hc : cs.all (ci_okc cs.length) = true) : ci_w dA as cs ++ [(q, ci_c dA (as ++ [q]) c)] = ci_w dA (as ++ [q]) (cs ++ [c]) := by
  unfold ci_w
  apply List.ext_getElem?
  intro j
  rw [List.getElem?_mapIdx]
  by_cases h : j < cs.length
  · rw [List.getElem?_append_left (by rw [List.length_mapIdx]; exact h), List.getElem?_append_left h, List.getElem?_mapIdx, List.getElem?_eq_getElem h]
    have := List.all_eq_true.mp hc _ (List.getElem_mem h)
    simp only [Option.map_some]
    rw [ci_c_app hl this, ci_getD (by omega)]
  · rw [List.getElem?_append_right (by rw [List.length_mapIdx]; omega), List.getElem?_append_right (by omega), List.length_mapIdx]
    by_cases h2 : j = cs.length
    · subst h2
      simp only [Nat.sub_self, List.getElem?_cons_zero, Option.map_some]
      congr 2
      rw [← hl, List.getD_eq_getElem?_getD, List.getElem?_append_right (Nat.le_refl _)]
      simp
    · rw [List.getElem?_eq_none (by simp; omega), List.getElem?_eq_none (by simp; omega)]
      rfl
/-- classes that are linked in constructors -/
def ci_cls : List (Nat × Nat × Nat × Nat × Nat × Nat) := [(0, 17, 1, 104, 106, 89), (1, 18, 2, 111, 113, 90), (0, 26, 3, 180, 182, 91), (0, 33, 4, 207, 208, 92), (4, 9, 5, 213, 215, 93)]
def ci_nw (kc idx : Nat) : Option Nat := (ci_cls.find? (fun e => e.1 == kc && e.2.1 == idx)).map (fun e => e.2.2.1)
def ci_nn (ci : Nat) : Nat := match pz_cs[ci]? with
  | some q => q.2.2
  | none => 0
def ci_nck (e : Nat × Nat × Nat × Nat × Nat × Nat) : Bool := match pz_cs[e.2.2.1]? with
  | some q => decide (q.1 = pz_on e.2.2.1) && decide (lw_tbl[e.2.2.2.1]? = some (.classLink (pz_on e.1) e.2.1 q.1)) && decide (lw_tbl[e.2.2.2.2.1]? = some (.instantiable q.1 q.2.2)) && decide (lw_tbl[e.2.2.2.2.2]? = some (.initialized q.1))
  | none => false
set_option maxRecDepth 100000 in
theorem ci_nck_all : ci_cls.all ci_nck = true := by decide +kernel
theorem ci_nw_ok {kc idx ci : Nat} (h : ci_nw kc idx = some ci) : ∃ C T N, pz_cs[ci]? = some (C, T, N) ∧ C = pz_on ci ∧ Jvm.Cond.classLink (pz_on kc) idx C ∈ pz_ws ∧ Jvm.Cond.instantiable C N ∈ pz_ws ∧ Jvm.Cond.initialized C ∈ pz_ws := by
  unfold ci_nw at h
  obtain ⟨e, he, h2⟩ := Option.map_eq_some_iff.mp h
  have hm := List.mem_of_find?_eq_some he
  have hp := List.find?_some he
  obtain ⟨e1, e2, e3, e4, e5, e6⟩ := e
  simp only [Bool.and_eq_true, beq_iff_eq] at hp
  obtain ⟨rfl, rfl⟩ := hp
  dsimp only at h2
  subst h2
  have hc := List.all_eq_true.mp ci_nck_all _ hm
  unfold ci_nck at hc
  split at hc
  · rename_i q hq
    obtain ⟨C, T, N⟩ := q
    simp only [Bool.and_eq_true, decide_eq_true_eq] at hc
    exact ⟨C, T, N, hq, hc.1.1.1, pz_at _ hc.1.1.2 rfl, pz_at _ hc.1.2 rfl, pz_at _ hc.2 rfl⟩
  · cases hc
def ci_obs : List (Nat × Nat × Nat) := [(0, 1, 101), (1, 3, 110), (2, 3, 117), (3, 3, 186), (4, 3, 212), (5, 3, 219), (6, 1, 650)]
def ci_ob (kc idx : Nat) : Bool := (ci_obs.find? (fun e => e.1 == kc && e.2.1 == idx)).isSome
set_option maxRecDepth 100000 in
theorem ci_ock_all : ci_obs.all (fun e => decide (lw_tbl[e.2.2]? = some (.methodLink (pz_on e.1) e.2.1 Lib.objectInit))) = true := by decide +kernel
theorem ci_ob_ok {kc idx : Nat} (h : ci_ob kc idx = true) : Jvm.Cond.methodLink (pz_on kc) idx Lib.objectInit ∈ pz_ws := by
  unfold ci_ob at h
  obtain ⟨e, he⟩ := Option.isSome_iff_exists.mp h
  have hm := List.mem_of_find?_eq_some he
  have hp := List.find?_some he
  obtain ⟨e1, e2, e3⟩ := e
  simp only [Bool.and_eq_true, beq_iff_eq] at hp
  obtain ⟨rfl, rfl⟩ := hp
  have hc := List.all_eq_true.mp ci_ock_all _ hm
  simp only [decide_eq_true_eq] at hc
  exact pz_at _ hc rfl
set_option maxRecDepth 100000 in
theorem ci_ob_i : Jvm.Cond.instanceMethod Lib.objectInit ∈ pz_ws := pz_at 102 rfl rfl
set_option maxRecDepth 100000 in
theorem ci_ob_c : Jvm.Cond.code Lib.objectInit ⟨#[0xb1]⟩ 1 none ∈ pz_ws := pz_at 103 rfl rfl
def ci_mls : List (Nat × Nat × Nat × Nat) := [(0, 23, 35, 107), (1, 24, 48, 114), (0, 32, 64, 183), (0, 35, 72, 209), (4, 17, 80, 216)]
def ci_mth (kc idx : Nat) : Option Nat := (ci_mls.find? (fun e => e.1 == kc && e.2.1 == idx)).map (fun e => e.2.2.1)
set_option maxRecDepth 100000 in
theorem ci_mck_all : ci_mls.all pz_mck = true := by decide +kernel
def ci_kok (k : Nat) : Prop := plainName (pz_y k).cls = true ∧ (pz_y k).cls = pz_on (pz_kc k) ∧ ((pz_y k).cls ≠ "java/lang/invoke/MethodHandle" ∧ (pz_y k).cls ≠ "java/lang/invoke/VarHandle") ∧ (parseMethodDescriptor (pz_y k).desc).map (fun d => d.parameters.length) = some (pz_pt k).length ∧ pz_n k ≤ 13 ∧ Jvm.Cond.code (pz_y k) (pz_b k) (pz_n k) (pz_ret k) ∈ pz_ws ∧ Jvm.Cond.initialized (pz_y k).cls ∈ pz_ws ∧ Jvm.Cond.instanceMethod (pz_y k) ∈ pz_ws ∧ (pz_y k).name = "<init>" ∧ pz_ret k = none ∧ (pz_pt k).length + 1 ≤ pz_n k
set_option maxRecDepth 100000 in
theorem ci_k0 : ci_kok 0 := ⟨by decide +kernel, rfl, ⟨by decide +kernel, by decide +kernel⟩, by decide +kernel, by decide +kernel, pz_at 100 rfl rfl, pz_at 88 rfl rfl, pz_at 99 rfl rfl, rfl, rfl, by decide +kernel⟩
set_option maxRecDepth 100000 in
theorem ci_k35 : ci_kok 35 := ⟨by decide +kernel, rfl, ⟨by decide +kernel, by decide +kernel⟩, by decide +kernel, by decide +kernel, pz_at 109 rfl rfl, pz_at 89 rfl rfl, pz_at 108 rfl rfl, rfl, rfl, by decide +kernel⟩
set_option maxRecDepth 100000 in
theorem ci_k48 : ci_kok 48 := ⟨by decide +kernel, rfl, ⟨by decide +kernel, by decide +kernel⟩, by decide +kernel, by decide +kernel, pz_at 116 rfl rfl, pz_at 90 rfl rfl, pz_at 115 rfl rfl, rfl, rfl, by decide +kernel⟩
set_option maxRecDepth 100000 in
theorem ci_k64 : ci_kok 64 := ⟨by decide +kernel, rfl, ⟨by decide +kernel, by decide +kernel⟩, by decide +kernel, by decide +kernel, pz_at 185 rfl rfl, pz_at 91 rfl rfl, pz_at 184 rfl rfl, rfl, rfl, by decide +kernel⟩
set_option maxRecDepth 100000 in
theorem ci_k72 : ci_kok 72 := ⟨by decide +kernel, rfl, ⟨by decide +kernel, by decide +kernel⟩, by decide +kernel, by decide +kernel, pz_at 211 rfl rfl, pz_at 92 rfl rfl, pz_at 210 rfl rfl, rfl, rfl, by decide +kernel⟩
set_option maxRecDepth 100000 in
theorem ci_k80 : ci_kok 80 := ⟨by decide +kernel, rfl, ⟨by decide +kernel, by decide +kernel⟩, by decide +kernel, by decide +kernel, pz_at 218 rfl rfl, pz_at 93 rfl rfl, pz_at 217 rfl rfl, rfl, rfl, by decide +kernel⟩
set_option maxRecDepth 100000 in
theorem ci_k86 : ci_kok 86 := ⟨by decide +kernel, rfl, ⟨by decide +kernel, by decide +kernel⟩, by decide +kernel, by decide +kernel, pz_at 649 rfl rfl, pz_at 94 rfl rfl, pz_at 648 rfl rfl, rfl, rfl, by decide +kernel⟩
def ci_ks : List Nat := [0, 35, 48, 64, 72, 80, 86]
theorem ci_kall : ∀ k ∈ ci_ks, ci_kok k := List.forall_mem_cons.mpr ⟨ci_k0, List.forall_mem_cons.mpr ⟨ci_k35, List.forall_mem_cons.mpr ⟨ci_k48, List.forall_mem_cons.mpr ⟨ci_k64, List.forall_mem_cons.mpr ⟨ci_k72, List.forall_mem_cons.mpr ⟨ci_k80, List.forall_mem_cons.mpr ⟨ci_k86, fun _ h => absurd h List.not_mem_nil⟩⟩⟩⟩⟩⟩⟩
theorem ci_mls_in : ci_mls.all (fun e => ci_ks.contains e.2.2.1) = true := by decide +kernel
theorem ci_mth_ok {kc idx k : Nat} (h : ci_mth kc idx = some k) : (Jvm.Cond.methodLink (pz_on kc) idx (pz_y k) ∈ pz_ws ∨ ∃ host, Jvm.Cond.methodLinkNest (pz_on kc) idx (pz_y k) host ∈ pz_nw) ∧ ci_kok k := by
  unfold ci_mth at h
  obtain ⟨e, he, h2⟩ := Option.map_eq_some_iff.mp h
  have hm := List.mem_of_find?_eq_some he
  have hp := List.find?_some he
  obtain ⟨e1, e2, e3, e4⟩ := e
  simp only [Bool.and_eq_true, beq_iff_eq] at hp
  obtain ⟨rfl, rfl⟩ := hp
  dsimp only at h2
  subst h2
  have hc := List.all_eq_true.mp ci_mck_all _ hm
  have hi := List.all_eq_true.mp ci_mls_in _ hm
  simp only [List.contains_iff_mem] at hi
  refine ⟨?_, ci_kall _ hi⟩
  unfold pz_mck at hc
  simp only [Bool.or_eq_true, decide_eq_true_eq] at hc
  rcases hc with h3 | h3
  · exact Or.inl (pz_at _ h3 rfl)
  · exact Or.inr ⟨_, pz_atn _ h3 rfl⟩
set_option maxRecDepth 100000 in
/-- a class's own fields are linked directly -/
theorem ci_own_all : pz_flds.all (fun e => !(e.1 == e.2.2.1) || (match pz_cs[e.2.2.1]? with
  | some q => decide (lw_tbl[e.2.2.2.2]? = some (.fieldLink (pz_on e.1) e.2.1 q.1 (q.2.1 e.2.2.2.1).2.1 (q.2.1 e.2.2.2.1).2.2.1)) && decide (q.1 = pz_on e.1)
  | none => false)) = true := by decide +kernel
theorem ci_own_ok {kc idx j : Nat} {C : String} {T : u_T} {N : Nat} (h : pz_fld kc idx = some (kc, j)) (hc : pz_cs[kc]? = some (C, T, N)) : Jvm.Cond.fieldLink (pz_on kc) idx C (T j).2.1 (T j).2.2.1 ∈ pz_ws ∧ C = pz_on kc := by
  unfold pz_fld at h
  obtain ⟨e, he, h2⟩ := Option.map_eq_some_iff.mp h
  have hm := List.mem_of_find?_eq_some he
  have hp := List.find?_some he
  obtain ⟨e1, e2, e3, e4, e5⟩ := e
  simp only [Bool.and_eq_true, beq_iff_eq] at hp
  obtain ⟨rfl, rfl⟩ := hp
  simp only [Prod.mk.injEq] at h2
  obtain ⟨rfl, rfl⟩ := h2
  have hq := List.all_eq_true.mp ci_own_all _ hm
  simp only [hc, beq_self_eq_true, Bool.not_true, Bool.false_or, Bool.and_eq_true, decide_eq_true_eq] at hq
  exact ⟨pz_at _ hq.1 rfl, hq.2⟩
set_option maxRecDepth 100000 in
theorem ci_ai : Jvm.Cond.arrayClass .int ∈ pz_ws := pz_at 724 rfl rfl
set_option maxRecDepth 100000 in
theorem ci_ab : Jvm.Cond.arrayClass .boolean ∈ pz_ws := pz_at 725 rfl rfl
/-- arrays of the class ci can be made -/
def ci_O (U : State) : Prop := va_AO "LeasePair$Server" U ∧ va_AO "LeasePair$Client" U ∧ va_AO "LeasePair$LeaseRecord" U ∧ va_AO "LeasePair$Message" U
theorem ci_O.moved {u U : State} (hvm : u.vm.Alike U.vm) (h : ci_O u) : ci_O U := ⟨h.1.moved hvm, h.2.1.moved hvm, h.2.2.1.moved hvm, h.2.2.2.moved hvm⟩
theorem ci_O.at {U : State} (h : ci_O U) {ci : Nat} {r : vw_C} (hc : pz_ct ci < 6) (hr : pz_cs[ci]? = some r) : va_AO r.1 U := by
  rcases pz_cs_at hr with ⟨rfl, rfl⟩ | ⟨rfl, rfl⟩ | ⟨rfl, rfl⟩ | ⟨rfl, rfl⟩ | ⟨rfl, rfl⟩ | ⟨rfl, rfl⟩ | ⟨rfl, rfl⟩
  · exact absurd hc (by decide)
  · exact h.1
  · exact h.2.2.1
  · exact h.2.1
  · exact absurd hc (by decide)
  · exact h.2.2.2
  · exact absurd hc (by decide)
