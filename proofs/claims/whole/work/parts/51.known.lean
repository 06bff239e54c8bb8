/-! what is known of classes and arrays at the law's entry -/
theorem kn_hts {b : Nat} {s : State} (hts : ∀ w ∈ lw_tbl, w.before #[Value.ref b] s = true) : ∀ w ∈ pz_ws, w.before #[Value.ref b] s = true := fun w h => hts w (List.mem_filter.mp h).1
theorem kn_at {b : Nat} {s : State} (hts : ∀ w ∈ lw_tbl, w.before #[Value.ref b] s = true) (i : Nat) {w : Cond} (h : lw_tbl[i]? = some w) : w.before #[Value.ref b] s = true := hts w (List.mem_of_getElem? h)
theorem kn_arr {args : Array Value} {s : State} {ty : FieldType} (ht : ty = .int ∨ ty = .boolean) (h : (Cond.arrayClass ty).before args s = true) : ∃ cA, ArrOfT s cA ty ∧ va_RA s cA ty := by
  obtain ⟨cA, kA, comp, h1, h2, h3⟩ := Cond.arrayClass_spec h
  refine ⟨cA, fun n z => ⟨(fun k h => by cases h), kA, h2, comp, h3⟩, ?_⟩
  rcases ht with rfl | rfl
  · exact h1
  · exact h1
theorem kn_over {args : Array Value} {s : State} {C : String} (h : (Cond.arrayOver (.object C)).before args s = true) : ∃ cA, ArrOfT s cA (.object C) ∧ va_RA s cA (.object C) := by
  obtain ⟨comp, cA, kA, h1, -, h3, h4, h5⟩ := Cond.arrayOver_spec h
  exact ⟨cA, fun n z => ⟨(fun k h => by cases h), kA, h3, comp, h4⟩, kA, comp, h3, h4, h1, h5⟩
def kn_f {α : Type} (a0 a1 a2 a3 a4 a5 a6 : α) (i : Nat) : α := match i with
  | 0 => a0
  | 1 => a1
  | 2 => a2
  | 3 => a3
  | 4 => a4
  | 5 => a5
  | _ => a6
theorem kn_O {b : Nat} {s : State} (hts : ∀ w ∈ lw_tbl, w.before #[Value.ref b] s = true) : ci_O s := ⟨va_AO.of (kn_at hts (87 + 18) rfl), va_AO.of (kn_at hts (87 + 94) rfl), va_AO.of (kn_at hts (87 + 25) rfl), va_AO.of (kn_at hts (87 + 127) rfl)⟩
set_option maxRecDepth 100000 in
theorem kn_K {b : Nat} {s : State} (hts : ∀ w ∈ lw_tbl, w.before #[Value.ref b] s = true) : ∃ (dA dC : Nat → ClassId) (dI : Nat → Nat → Nat), pz_K dA dC dI s := by
  have hw := kn_hts hts
  obtain ⟨c0, i0, k0⟩ := u_known hw (pz_cs_in (ci := 0) rfl) (kn_at hts (87 + 10) rfl)
  obtain ⟨c1, i1, k1⟩ := u_known hw (pz_cs_in (ci := 1) rfl) (kn_at hts (87 + 19) rfl)
  obtain ⟨c2, i2, k2⟩ := u_known hw (pz_cs_in (ci := 2) rfl) (kn_at hts (87 + 26) rfl)
  obtain ⟨c3, i3, k3⟩ := u_known hw (pz_cs_in (ci := 3) rfl) (kn_at hts (87 + 95) rfl)
  obtain ⟨c4, i4, k4⟩ := u_known hw (pz_cs_in (ci := 4) rfl) (kn_at hts (87 + 121) rfl)
  obtain ⟨c5, i5, k5⟩ := u_known hw (pz_cs_in (ci := 5) rfl) (kn_at hts (87 + 128) rfl)
  obtain ⟨c6, i6, k6⟩ := u_known hw (pz_cs_in (ci := 6) rfl) (kn_at hts (87 + 559) rfl)
  obtain ⟨a0, x0⟩ := kn_arr (Or.inl rfl) (kn_at hts (87 + 637) rfl)
  obtain ⟨a1, x1⟩ := kn_arr (Or.inr rfl) (kn_at hts (87 + 638) rfl)
  obtain ⟨a2, x2⟩ := kn_over (kn_at hts (87 + 18) (w := .arrayOver (.object "LeasePair$Server")) rfl)
  obtain ⟨a3, x3⟩ := kn_over (kn_at hts (87 + 94) (w := .arrayOver (.object "LeasePair$Client")) rfl)
  obtain ⟨a4, x4⟩ := kn_over (kn_at hts (87 + 25) (w := .arrayOver (.object "LeasePair$LeaseRecord")) rfl)
  obtain ⟨a5, x5⟩ := kn_over (kn_at hts (87 + 127) (w := .arrayOver (.object "LeasePair$Message")) rfl)
  refine ⟨kn_f a0 a1 a2 a3 a4 a5 a5, kn_f c0 c1 c2 c3 c4 c5 c6, kn_f i0 i1 i2 i3 i4 i5 i6, ⟨fun c q hq => ?_, fun k q hk => ?_⟩, fun w hw => va_Nw.of (pz_nw_tab w hw) (hts w (List.mem_filter.mp hw).1)⟩
  · rcases pz_cs_at hq with ⟨rfl, rfl⟩ | ⟨rfl, rfl⟩ | ⟨rfl, rfl⟩ | ⟨rfl, rfl⟩ | ⟨rfl, rfl⟩ | ⟨rfl, rfl⟩ | ⟨rfl, rfl⟩
    · exact k0
    · exact k1
    · exact k2
    · exact k3
    · exact k4
    · exact k5
    · exact k6
  · match k, hk with
    | 0, hk => cases hk; exact x0
    | 1, hk => cases hk; exact x1
    | 2, hk => cases hk; exact x2
    | 3, hk => cases hk; exact x3
    | 4, hk => cases hk; exact x4
    | 5, hk => cases hk; exact x5
    | k + 6, hk => cases hk
