/-! the relation between the class's world and the reference's -/
def mR (t : Nat) (e m : Nat → Int32) : Prop :=
  (e 0 = m 0 ∧ e 1 = m 1 ∧ e 2 = m 2 ∧ e 3 = m 5) ∧ (∃ u, u ≤ t ∧ m 5 = nI u) ∧
  ((m 0 = 0 ∧ (∃ s, s < 2 ∧ m 2 = nI s) ∧ (∃ c, c < 5 ∧ m 1 = nI c) ∧ e 4 = m 3 ∧ m 4 = 0) ∨
   (m 0 = 1 ∧ (∃ c, c < 5 ∧ m 2 = nI c) ∧ e 4 = m 3 ∧ e 5 = m 4 ∧ (∃ a, a < 6 ∧ m 4 = nI a) ∧ e 8 = m 7) ∨
   (m 0 = 2 ∧ (∃ c, c < 5 ∧ m 2 = nI c) ∧ e 4 = m 3 ∧ m 4 = 0) ∨
   (m 0 = 3 ∧ (∃ s, s < 2 ∧ m 2 = nI s) ∧ e 5 = m 3 ∧ (∃ a, a < 6 ∧ m 3 = nI a) ∧ m 4 = 0) ∨
   (m 0 = 4 ∧ (∃ s, s < 2 ∧ m 2 = nI s ∧ m 1 = nI (1 - s)) ∧ e 5 = m 3 ∧ (∃ a, a < 6 ∧ m 3 = nI a) ∧ e 6 = m 4 ∧ (m 4 = 0 ∨ m 4 = 1 ∨ m 4 = 2) ∧ e 7 = m 6 ∧ e 8 = m 7 ∧ e 9 = m 8 ∧ e 10 = m 9 ∧ e 11 = m 10 ∧ e 12 = m 11) ∨
   (m 0 = 5 ∧ (∃ s, s < 2 ∧ m 2 = nI s) ∧ e 5 = m 3 ∧ (∃ a, a < 6 ∧ m 3 = nI a) ∧ e 10 = m 4 ∧ e 10 = m 9 ∧ e 9 = m 8 ∧ e 11 = m 10) ∨
   (m 0 = 6 ∧ (∃ s, s < 2 ∧ m 2 = nI s) ∧ e 13 = m 3 ∧ m 4 = 0 ∧ e 12 = m 11))
theorem mR.up {t t' : Nat} (ht : t ≤ t') {e m : Nat → Int32} (h : mR t e m) : mR t' e m := by
  obtain ⟨h1, ⟨u, hu, h2⟩, h3⟩ := h
  exact ⟨h1, ⟨u, by omega, h2⟩, h3⟩
/-- marking changes nothing that the relation reads -/
theorem mR.ext {t : Nat} {e e' m : Nat → Int32} (he : ∀ j, j ≠ 14 → e' j = e j) (h : mR t e m) : mR t e' m := by
  unfold mR at *
  rw [he 0 (by decide), he 1 (by decide), he 2 (by decide), he 3 (by decide), he 4 (by decide), he 5 (by decide), he 6 (by decide), he 7 (by decide), he 8 (by decide), he 9 (by decide), he 10 (by decide), he 11 (by decide), he 12 (by decide), he 13 (by decide)]
  exact h
def sI (t : Nat) (D : Nat → Nat → Int32) : Prop := D 0 0 = nI t ∧ (∀ r, r < 12 → (D 14 r = 0 ∨ D 14 r = 1)) ∧ (∀ c, c < 5 → D 15 c = -1 ∨ ∃ a, a < 6 ∧ D 15 c = nI a) ∧ (∀ s, s < 2 → ∃ g, g < 64 ∧ D 6 s = nI g) ∧ (∀ r, r < 12 → D 7 r = 0 ∨ D 7 r = 1 ∨ D 7 r = 2) ∧ (∀ s, s < 2 → D 2 s = 0 ∨ D 2 s = 1 ∨ D 2 s = 2 ∨ D 2 s = 3 ∨ D 2 s = 4)
def mI (t : Nat) (E : Nat → Nat → Int32) (π : Nat → Nat) (D : Nat → Nat → Int32) : Prop := ∃ n, n ≤ 24 ∧ D 20 0 = nI n ∧ fa2 (mR t) (es E π n) (mls D n)
def rI (E D : Nat → Nat → Int32) : Prop := ∀ c, c < 5 → (E 25 c = D 19 c ∨ (E 25 c = -4 ∧ D 19 c = -9))
def GR (t : Nat) (E : Nat → Nat → Int32) (π : Nat → Nat) (τ : Nat) (D : Nat → Nat → Int32) : Prop := sI t D ∧ PI π τ ∧ mI t E π D ∧ rI E D
/-- the same where the class looks -/
def Sh (B D : Nat → Nat → Int32) : Prop := ∀ k i, (k < 19 ∨ k = 20) → B k i = D k i
theorem Sh.rf (D : Nat → Nat → Int32) : Sh D D := fun _ _ _ => rfl
theorem cw_sh {dA ad : Nat → Nat} {B B' E D : Nat → Nat → Int32} {π : Nat → Nat} {τ : Nat} (h : Sh B B') : cw dA ad B E π τ D = cw dA ad B' E π τ D := by
  have h0 := fun i => h 0 i (by omega)
  have h1 := fun i => h 1 i (by omega)
  have h2 := fun i => h 2 i (by omega)
  have h3 := fun i => h 3 i (by omega)
  have h4 := fun i => h 4 i (by omega)
  have h5 := fun i => h 5 i (by omega)
  have h6 := fun i => h 6 i (by omega)
  have h7 := fun i => h 7 i (by omega)
  have h8 := fun i => h 8 i (by omega)
  have h9 := fun i => h 9 i (by omega)
  have h10 := fun i => h 10 i (by omega)
  have h11 := fun i => h 11 i (by omega)
  have h12 := fun i => h 12 i (by omega)
  have h13 := fun i => h 13 i (by omega)
  have h14 := fun i => h 14 i (by omega)
  have h15 := fun i => h 15 i (by omega)
  have h16 := fun i => h 16 i (by omega)
  have h17 := fun i => h 17 i (by omega)
  have h18 := fun i => h 18 i (by omega)
  have h20 := fun i => h 20 i (by omega)
  funext i
  unfold cw cC
  simp only [h0, h1, h2, h3, h4, h5, h6, h7, h8, h9, h10, h11, h12, h13, h14, h15, h16, h17, h18, h20]
theorem Sh.u2 {B D : Nat → Nat → Int32} (h : Sh B D) (k i : Nat) (v : Int32) : Sh (u2 B k i v) (u2 D k i v) := by
  intro k' i' hk
  rw [u2_e, u2_e, h k' i' hk]
theorem Sh.tr {A B D : Nat → Nat → Int32} (h : Sh A B) (h2 : Sh B D) : Sh A D := fun k i hk => (h k i hk).trans (h2 k i hk)
theorem Sh.of {B D D' : Nat → Nat → Int32} (h : Sh B D) (h2 : ∀ k i, (k < 19 ∨ k = 20) → D' k i = D k i) : Sh B D' := fun k i hk => (h k i hk).trans (h2 k i hk).symm
/-- a send on both sides -/
theorem send_ok {t n : Nat} {B E D D' : Nat → Nat → Int32} {π : Nat → Nat} {τ : Nat} {l : List (Nat × Int32)} (hP : PI π τ) (hn : n ≤ 24) (hc : D 20 0 = nI n) (hD : ∀ k i, k ≠ 23 → D' k i = D k i) (hS : Sh B D) (hf : fa2 (mR t) (es E π n) (mls D n)) (hm : mR t (stm E (π n) l (π n)) (nxt D')) : Sh (pB B) (pX D') ∧ mI t (pE B E π l) π (pX D') ∧ ∀ c, pE B E π l 25 c = E 25 c := by
  have hcB : B 20 0 = nI n := (hS 20 0 (by omega)).trans hc
  have hcD : D' 20 0 = nI n := (hD 20 0 (by decide)).trans hc
  have hml : ∀ j, mls D' j = mls D j := fun j => mls_ext (fun q _ => hD 21 q (by decide))
  rcases Nat.lt_or_ge n 24 with h | h
  · refine ⟨?_, ⟨n + 1, by omega, ?_, ?_⟩, ?_⟩
    · rw [pB_lt h hcB, pXn h hcD]
      intro k i hk
      rw [u2_e, u2_e]
      by_cases h9 : k = 20 ∧ i = 0
      · rw [if_pos h9, if_pos h9]
      · rw [if_neg h9, if_neg h9, lp_k (fun D a => u2_k _ _ _ _ (by omega)), hD k i (by omega)]
        exact hS k i hk
    · rw [pXn h hcD, u2_s]
    · rw [mls_pX h hcD, es_pE hP h hcB, hml]
      exact fa2_app hf hm
    · intro c
      rw [pE_lt h hcB, stm_o (fun q => absurd (hP.1 n) (by omega))]
  · have h9 : n = 24 := by omega
    subst h9
    rw [pB_24 hcB, pX24 hcD, pE_24 hcB]
    refine ⟨hS.of (fun k i hk => hD k i (by omega)), ⟨24, hn, hcD, ?_⟩, fun _ => rfl⟩
    rw [hml]
    exact hf
theorem sI.ext {t : Nat} {D D' : Nat → Nat → Int32} (h : sI t D) (e : ∀ k i, (k = 0 ∨ k = 2 ∨ k = 6 ∨ k = 7 ∨ k = 14 ∨ k = 15) → D' k i = D k i) : sI t D' := by
  unfold sI at *
  obtain ⟨h1, h2, h3, h4, h5, h6⟩ := h
  refine ⟨by rw [e 0 0 (by omega)]; exact h1, fun r hr => ?_, fun c hc => ?_, fun s hs => ?_, fun r hr => ?_, fun s hs => ?_⟩
  · rw [e 14 r (by omega)]; exact h2 r hr
  · rw [e 15 c (by omega)]; exact h3 c hc
  · rw [e 6 s (by omega)]; exact h4 s hs
  · rw [e 7 r (by omega)]; exact h5 r hr
  · rw [e 2 s (by omega)]; exact h6 s hs
def okv (t k : Nat) (v : Int32) : Prop := (k = 0 → v = nI t) ∧ (k = 14 → v = 0 ∨ v = 1) ∧ (k = 15 → v = -1 ∨ ∃ a, a < 6 ∧ v = nI a) ∧ (k = 6 → ∃ g, g < 64 ∧ v = nI g) ∧ (k = 7 → v = 0 ∨ v = 1 ∨ v = 2) ∧ (k = 2 → v = 0 ∨ v = 1 ∨ v = 2 ∨ v = 3 ∨ v = 4)
theorem sI.u2 {t : Nat} {D : Nat → Nat → Int32} (h : sI t D) {k i : Nat} {v : Int32} (hv : okv t k v) : sI t (u2 D k i v) := by
  obtain ⟨h1, h2, h3, h4, h5, h6⟩ := h
  obtain ⟨v1, v2, v3, v4, v5, v6⟩ := hv
  refine ⟨?_, fun r hr => ?_, fun c hc => ?_, fun s hs => ?_, fun r hr => ?_, fun s hs => ?_⟩ <;> rw [u2_e] <;> split
  · rename_i q
    exact v1 q.1.symm
  · exact h1
  · rename_i q
    exact v2 q.1.symm
  · exact h2 r hr
  · rename_i q
    exact v3 q.1.symm
  · exact h3 c hc
  · rename_i q
    exact v4 q.1.symm
  · exact h4 s hs
  · rename_i q
    exact v5 q.1.symm
  · exact h5 r hr
  · rename_i q
    exact v6 q.1.symm
  · exact h6 s hs
theorem okv_o {t k : Nat} {v : Int32} (h : k ≠ 0 ∧ k ≠ 6 ∧ k ≠ 7 ∧ k ≠ 14 ∧ k ≠ 15 ∧ k ≠ 2) : okv t k v := ⟨fun q => absurd q h.1, fun q => absurd q h.2.2.2.1, fun q => absurd q h.2.2.2.2.1, fun q => absurd q h.2.1, fun q => absurd q h.2.2.1, fun q => absurd q h.2.2.2.2.2⟩
theorem okv_7 {t : Nat} {v : Int32} (h : v = 0 ∨ v = 1 ∨ v = 2) : okv t 7 v := ⟨fun q => absurd q (by decide), fun q => absurd q (by decide), fun q => absurd q (by decide), fun q => absurd q (by decide), fun _ => h, fun q => absurd q (by decide)⟩
theorem okv_14 {t : Nat} {v : Int32} (h : v = 0 ∨ v = 1) : okv t 14 v := ⟨fun q => absurd q (by decide), fun _ => h, fun q => absurd q (by decide), fun q => absurd q (by decide), fun q => absurd q (by decide), fun q => absurd q (by decide)⟩
theorem okv_15 {t : Nat} {v : Int32} (h : v = -1 ∨ ∃ a, a < 6 ∧ v = nI a) : okv t 15 v := ⟨fun q => absurd q (by decide), fun q => absurd q (by decide), fun _ => h, fun q => absurd q (by decide), fun q => absurd q (by decide), fun q => absurd q (by decide)⟩
theorem okv_6 {t : Nat} {v : Int32} (h : ∃ g, g < 64 ∧ v = nI g) : okv t 6 v := ⟨fun q => absurd q (by decide), fun q => absurd q (by decide), fun q => absurd q (by decide), fun _ => h, fun q => absurd q (by decide), fun q => absurd q (by decide)⟩
theorem okv_2 {t : Nat} {v : Int32} (h : v = 0 ∨ v = 1 ∨ v = 2 ∨ v = 3 ∨ v = 4) : okv t 2 v := ⟨fun q => absurd q (by decide), fun q => absurd q (by decide), fun q => absurd q (by decide), fun q => absurd q (by decide), fun q => absurd q (by decide), fun _ => h⟩
theorem GR.of {t τ : Nat} {E D D' : Nat → Nat → Int32} {π : Nat → Nat} (hG : GR t E π τ D) (hs : sI t D') (e : ∀ k i, (k = 19 ∨ k = 20 ∨ k = 21) → D' k i = D k i) : GR t E π τ D' := by
  obtain ⟨h1, h2, ⟨n, hn, hc, hf⟩, h4⟩ := hG
  refine ⟨hs, h2, ⟨n, hn, by rw [e 20 0 (by omega)]; exact hc, ?_⟩, fun c hc => by rw [e 19 c (by omega)]; exact h4 c hc⟩
  rw [mls_ext (fun q _ => e 21 q (by omega))]
  exact hf
/-! reads -/
theorem look_ok {t : Nat} {e m : Nat → Int32} (h : mR t e m) (w : Int32) : lkM e w = lkX m w := by
  obtain ⟨⟨a0, a1, a2, a3⟩, -, hk⟩ := h
  unfold lkM lkX
  rw [a0, a1, a2, a3]
  rcases hk with ⟨b, -, -, c1, c2⟩ | ⟨b, -, c1, c2, -, -⟩ | ⟨b, -, c1, c2⟩ | ⟨b, -, c1, -, c2⟩ | ⟨b, -, c1, -, c2, -⟩ | ⟨b, -, c1, -, c2, -⟩ | ⟨b, -, c1, c2, -⟩ <;> simp only [b, c1, c2, if_true, if_false, li_0_1, li_0_2, li_0_3, li_0_4, li_0_5, li_0_6, li_1_2, li_1_3, li_1_4, li_1_5, li_1_6, li_2_1, li_2_3, li_2_4, li_2_5, li_2_6, li_3_1, li_3_2, li_4_1, li_4_2, li_4_3, li_5_1, li_5_2, li_5_3, li_5_4, li_6_1, li_6_2, li_6_3, li_6_4, li_6_5]
theorem lkX_ext (m : Nat → Int32) (D : Nat → Nat → Int32) (k : Nat) (w : Int32) : lkX (ml D k) w = lkX (fun j => D 21 (12 * k + j)) w := rfl
