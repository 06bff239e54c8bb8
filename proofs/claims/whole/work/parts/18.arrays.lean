/-! arrays of the worlds; small numbers -/
theorem sx_mul (s : Nat) : (6 : Int32) * nI s = nI (6 * s) := pk_mul 6 s
theorem tw_mul (s : Nat) : (12 : Int32) * nI s = nI (12 * s) := pk_mul 12 s
theorem nI_inb {a n : Nat} (h : a < n) (hn : n < 2 ^ 31) : ¬ (nI a < 0 ∨ n ≤ (nI a).toNatClampNeg) := nI_in h hn
theorem u2_e (B : Nat → Nat → Int32) (k i : Nat) (v : Int32) (k' i' : Nat) : u2 B k i v k' i' = if k' = k ∧ i' = i then v else B k' i' := rfl
theorem i10 : ((1 : Int32) = 0) = False := by simp
theorem i01 : ((0 : Int32) = 1) = False := by simp
section CWA
variable {dA ad : Nat → Nat} {B E : Nat → Nat → Int32} {π : Nat → Nat} {τ : Nat} {D : Nat → Nat → Int32}
theorem cX_set {k i t n : Nat} {v : Int32} (h0 : k ≠ 0) (h1 : k ≠ 1) (h2 : k ≠ 20) (h3 : k < 24) (ht : cXt k = t) (hn : cXn k = n) : pz_up (cw dA ad B E π τ D) (100 + k) (.inl (dA t, n, .inl (upd (D k) i v))) = cw dA ad B E π τ (u2 D k i v) := by
  funext a
  by_cases ha : a = 100 + k
  · subst ha
    rw [pz_up_s]
    unfold cw cX
    rw [if_neg (by omega), Nat.add_sub_cancel_left, if_neg h0, if_pos ⟨h3, h1, h2⟩, ht, hn]
    have e : upd (D k) i v = u2 D k i v k := by
      funext j
      simp [upd, u2]
    rw [e]
  · rw [pz_up_n _ _ ha]
    unfold cw
    by_cases hr : a < 100
    · rw [if_pos hr, if_pos hr]
    · rw [if_neg hr, if_neg hr]
      have h9 : a - 100 ≠ k := by omega
      have e1 : ∀ j i', j ≠ k → u2 D k i v j i' = D j i' := fun j i' hj => u2_k D i i' v hj
      unfold cX
      rw [e1 0 0 (Ne.symm h0), e1 1 0 (Ne.symm h1), e1 20 0 (Ne.symm h2), show u2 D k i v (a - 100) = D (a - 100) from funext fun i' => e1 _ i' h9]
theorem rl_1 {s : Nat} (hs : s < 2) : pz_rl dA (cw dA ad B E π τ D) 1 (nI s) = some (.ref (ad (10 + s))) := by
  have h1 := nI_inb hs (by decide)
  show (if (dA 2 = dA 2 ∨ dA 2 = dA 3 ∨ dA 2 = dA 4 ∨ dA 2 = dA 5) ∧ ¬ (nI s < 0 ∨ 2 ≤ (nI s).toNatClampNeg) then some (va_rf (some (ad (10 + (nI s).toNatClampNeg)))) else none) = _
  rw [if_pos ⟨Or.inl rfl, h1⟩, nI_clamp (by omega)]
  rfl
theorem rl_2 {s : Nat} (hs : s < 5) : pz_rl dA (cw dA ad B E π τ D) 2 (nI s) = some (.ref (ad (20 + s))) := by
  have h1 := nI_inb hs (by decide)
  show (if (dA 3 = dA 2 ∨ dA 3 = dA 3 ∨ dA 3 = dA 4 ∨ dA 3 = dA 5) ∧ ¬ (nI s < 0 ∨ 5 ≤ (nI s).toNatClampNeg) then some (va_rf (some (ad (20 + (nI s).toNatClampNeg)))) else none) = _
  rw [if_pos ⟨Or.inr (Or.inl rfl), h1⟩, nI_clamp (by omega)]
  rfl
theorem rl_4 {s : Nat} (hs : s < 24) : pz_rl dA (cw dA ad B E π τ D) 4 (nI s) = some (.ref (ad (60 + π s))) := by
  have h1 := nI_inb hs (by decide)
  show (if (dA 5 = dA 2 ∨ dA 5 = dA 3 ∨ dA 5 = dA 4 ∨ dA 5 = dA 5) ∧ ¬ (nI s < 0 ∨ 24 ≤ (nI s).toNatClampNeg) then some (va_rf (some (ad (60 + π (nI s).toNatClampNeg)))) else none) = _
  rw [if_pos ⟨Or.inr (Or.inr (Or.inr rfl)), h1⟩, nI_clamp (by omega)]
  rfl
theorem cw_A {s : Nat} (hs : s < 2) : cw dA ad B E π τ D (12 + s) = some (.inl (dA 4, 6, .inr (.inr (.inr (.inr (fun a => some (ad (30 + (6 * s + a))))))))) := by
  have e1 : 12 + s - 12 = s := by omega
  unfold cw cC
  rw [if_pos (by omega), if_neg (by omega), if_neg (by omega), if_neg (by omega), if_neg (by omega), if_neg (by omega), if_neg (by omega), if_pos (by omega), e1]
theorem rl_12 {s a : Nat} (hs : s < 2) (ha : a < 6) : pz_rl dA (cw dA ad B E π τ D) (12 + s) (nI a) = some (.ref (ad (30 + (6 * s + a)))) := by
  have h1 := nI_inb ha (by decide)
  unfold pz_rl
  rw [cw_A hs]
  show (if (dA 4 = dA 2 ∨ dA 4 = dA 3 ∨ dA 4 = dA 4 ∨ dA 4 = dA 5) ∧ ¬ (nI a < 0 ∨ 6 ≤ (nI a).toNatClampNeg) then some (va_rf (some (ad (30 + (6 * s + (nI a).toNatClampNeg))))) else none) = _
  rw [if_pos ⟨Or.inr (Or.inr (Or.inl rfl)), h1⟩, nI_clamp (by omega)]
  rfl
theorem rt_4 {s m : Nat} (hs : s < 24) (hm : m < 25) : pz_rt dA ad (cw dA ad B E π τ D) 4 (nI s) (60 + m) = some (cw dA ad B E (va_up π s m) τ D) := by
  have h1 := nI_inb hs (by decide)
  unfold pz_rt
  rw [cw_M hm]
  show (if (pz_ct 5 < 6 ∧ dA 5 = dA (pz_ct 5)) ∧ ¬ (nI s < 0 ∨ 24 ≤ (nI s).toNatClampNeg) then some (pz_up (cw dA ad B E π τ D) 4 (.inl (dA 5, 24, .inr (.inr (.inr (.inr (va_up (fun s => some (ad (60 + π s))) (nI s).toNatClampNeg (some (ad (60 + m)))))))))) else none) = _
  rw [if_pos ⟨⟨by decide, rfl⟩, h1⟩, nI_clamp (by omega)]
  refine congrArg some (funext fun i => ?_)
  by_cases hi : i = 4
  · subst hi
    rw [pz_up_s]
    show _ = some (Sum.inl (dA 5, 24, Sum.inr (Sum.inr (Sum.inr (Sum.inr (fun j => some (ad (60 + va_up π s m j))))))))
    have e : va_up (fun s => some (ad (60 + π s))) s (some (ad (60 + m))) = fun j => some (ad (60 + va_up π s m j)) := by
      funext j
      by_cases hj : j = s
      · subst hj
        simp [va_up]
      · simp [va_up, hj]
    rw [e]
  · rw [pz_up_n _ _ hi]
    simp [cw, cC, hi]

theorem il_2 {i : Nat} (hi : i < 2) : pz_il (dA 0) (cw dA ad B E π τ D) 102 (nI i) = some (D 2 i) := by
  have h1 := nI_inb hi (by decide)
  show (if dA 0 = dA 0 ∧ ¬ (nI i < 0 ∨ 2 ≤ (nI i).toNatClampNeg) then some (D 2 (nI i).toNatClampNeg) else none) = _
  rw [if_pos ⟨rfl, h1⟩, nI_clamp (by omega)]
theorem is_2 {i : Nat} (hi : i < 2) {v : Int32} : pz_is (dA 0) (cw dA ad B E π τ D) 102 (nI i) v = some (cw dA ad B E π τ (u2 D 2 i v)) := by
  have h1 := nI_inb hi (by decide)
  show (if dA 0 = dA 0 ∧ ¬ (nI i < 0 ∨ 2 ≤ (nI i).toNatClampNeg) then some (pz_up (cw dA ad B E π τ D) 102 (.inl (dA 0, 2, .inl (upd (D 2) (nI i).toNatClampNeg v)))) else none) = _
  rw [if_pos ⟨rfl, h1⟩, nI_clamp (by omega)]
  exact congrArg some (cX_set (k := 2) (by decide) (by decide) (by decide) (by decide) rfl rfl)
theorem il_3 {i : Nat} (hi : i < 2) : pz_il (dA 0) (cw dA ad B E π τ D) 103 (nI i) = some (D 3 i) := by
  have h1 := nI_inb hi (by decide)
  show (if dA 0 = dA 0 ∧ ¬ (nI i < 0 ∨ 2 ≤ (nI i).toNatClampNeg) then some (D 3 (nI i).toNatClampNeg) else none) = _
  rw [if_pos ⟨rfl, h1⟩, nI_clamp (by omega)]
theorem is_3 {i : Nat} (hi : i < 2) {v : Int32} : pz_is (dA 0) (cw dA ad B E π τ D) 103 (nI i) v = some (cw dA ad B E π τ (u2 D 3 i v)) := by
  have h1 := nI_inb hi (by decide)
  show (if dA 0 = dA 0 ∧ ¬ (nI i < 0 ∨ 2 ≤ (nI i).toNatClampNeg) then some (pz_up (cw dA ad B E π τ D) 103 (.inl (dA 0, 2, .inl (upd (D 3) (nI i).toNatClampNeg v)))) else none) = _
  rw [if_pos ⟨rfl, h1⟩, nI_clamp (by omega)]
  exact congrArg some (cX_set (k := 3) (by decide) (by decide) (by decide) (by decide) rfl rfl)
theorem il_4 {i : Nat} (hi : i < 2) : pz_il (dA 0) (cw dA ad B E π τ D) 104 (nI i) = some (D 4 i) := by
  have h1 := nI_inb hi (by decide)
  show (if dA 0 = dA 0 ∧ ¬ (nI i < 0 ∨ 2 ≤ (nI i).toNatClampNeg) then some (D 4 (nI i).toNatClampNeg) else none) = _
  rw [if_pos ⟨rfl, h1⟩, nI_clamp (by omega)]
theorem is_4 {i : Nat} (hi : i < 2) {v : Int32} : pz_is (dA 0) (cw dA ad B E π τ D) 104 (nI i) v = some (cw dA ad B E π τ (u2 D 4 i v)) := by
  have h1 := nI_inb hi (by decide)
  show (if dA 0 = dA 0 ∧ ¬ (nI i < 0 ∨ 2 ≤ (nI i).toNatClampNeg) then some (pz_up (cw dA ad B E π τ D) 104 (.inl (dA 0, 2, .inl (upd (D 4) (nI i).toNatClampNeg v)))) else none) = _
  rw [if_pos ⟨rfl, h1⟩, nI_clamp (by omega)]
  exact congrArg some (cX_set (k := 4) (by decide) (by decide) (by decide) (by decide) rfl rfl)
theorem il_5 {i : Nat} (hi : i < 2) : pz_il (dA 0) (cw dA ad B E π τ D) 105 (nI i) = some (D 5 i) := by
  have h1 := nI_inb hi (by decide)
  show (if dA 0 = dA 0 ∧ ¬ (nI i < 0 ∨ 2 ≤ (nI i).toNatClampNeg) then some (D 5 (nI i).toNatClampNeg) else none) = _
  rw [if_pos ⟨rfl, h1⟩, nI_clamp (by omega)]
theorem is_5 {i : Nat} (hi : i < 2) {v : Int32} : pz_is (dA 0) (cw dA ad B E π τ D) 105 (nI i) v = some (cw dA ad B E π τ (u2 D 5 i v)) := by
  have h1 := nI_inb hi (by decide)
  show (if dA 0 = dA 0 ∧ ¬ (nI i < 0 ∨ 2 ≤ (nI i).toNatClampNeg) then some (pz_up (cw dA ad B E π τ D) 105 (.inl (dA 0, 2, .inl (upd (D 5) (nI i).toNatClampNeg v)))) else none) = _
  rw [if_pos ⟨rfl, h1⟩, nI_clamp (by omega)]
  exact congrArg some (cX_set (k := 5) (by decide) (by decide) (by decide) (by decide) rfl rfl)
theorem il_6 {i : Nat} (hi : i < 2) : pz_il (dA 0) (cw dA ad B E π τ D) 106 (nI i) = some (D 6 i) := by
  have h1 := nI_inb hi (by decide)
  show (if dA 0 = dA 0 ∧ ¬ (nI i < 0 ∨ 2 ≤ (nI i).toNatClampNeg) then some (D 6 (nI i).toNatClampNeg) else none) = _
  rw [if_pos ⟨rfl, h1⟩, nI_clamp (by omega)]
theorem is_6 {i : Nat} (hi : i < 2) {v : Int32} : pz_is (dA 0) (cw dA ad B E π τ D) 106 (nI i) v = some (cw dA ad B E π τ (u2 D 6 i v)) := by
  have h1 := nI_inb hi (by decide)
  show (if dA 0 = dA 0 ∧ ¬ (nI i < 0 ∨ 2 ≤ (nI i).toNatClampNeg) then some (pz_up (cw dA ad B E π τ D) 106 (.inl (dA 0, 2, .inl (upd (D 6) (nI i).toNatClampNeg v)))) else none) = _
  rw [if_pos ⟨rfl, h1⟩, nI_clamp (by omega)]
  exact congrArg some (cX_set (k := 6) (by decide) (by decide) (by decide) (by decide) rfl rfl)
theorem il_7 {i : Nat} (hi : i < 12) : pz_il (dA 0) (cw dA ad B E π τ D) 107 (nI i) = some (D 7 i) := by
  have h1 := nI_inb hi (by decide)
  show (if dA 0 = dA 0 ∧ ¬ (nI i < 0 ∨ 12 ≤ (nI i).toNatClampNeg) then some (D 7 (nI i).toNatClampNeg) else none) = _
  rw [if_pos ⟨rfl, h1⟩, nI_clamp (by omega)]
theorem is_7 {i : Nat} (hi : i < 12) {v : Int32} : pz_is (dA 0) (cw dA ad B E π τ D) 107 (nI i) v = some (cw dA ad B E π τ (u2 D 7 i v)) := by
  have h1 := nI_inb hi (by decide)
  show (if dA 0 = dA 0 ∧ ¬ (nI i < 0 ∨ 12 ≤ (nI i).toNatClampNeg) then some (pz_up (cw dA ad B E π τ D) 107 (.inl (dA 0, 12, .inl (upd (D 7) (nI i).toNatClampNeg v)))) else none) = _
  rw [if_pos ⟨rfl, h1⟩, nI_clamp (by omega)]
  exact congrArg some (cX_set (k := 7) (by decide) (by decide) (by decide) (by decide) rfl rfl)
theorem il_8 {i : Nat} (hi : i < 12) : pz_il (dA 0) (cw dA ad B E π τ D) 108 (nI i) = some (D 8 i) := by
  have h1 := nI_inb hi (by decide)
  show (if dA 0 = dA 0 ∧ ¬ (nI i < 0 ∨ 12 ≤ (nI i).toNatClampNeg) then some (D 8 (nI i).toNatClampNeg) else none) = _
  rw [if_pos ⟨rfl, h1⟩, nI_clamp (by omega)]
theorem is_8 {i : Nat} (hi : i < 12) {v : Int32} : pz_is (dA 0) (cw dA ad B E π τ D) 108 (nI i) v = some (cw dA ad B E π τ (u2 D 8 i v)) := by
  have h1 := nI_inb hi (by decide)
  show (if dA 0 = dA 0 ∧ ¬ (nI i < 0 ∨ 12 ≤ (nI i).toNatClampNeg) then some (pz_up (cw dA ad B E π τ D) 108 (.inl (dA 0, 12, .inl (upd (D 8) (nI i).toNatClampNeg v)))) else none) = _
  rw [if_pos ⟨rfl, h1⟩, nI_clamp (by omega)]
  exact congrArg some (cX_set (k := 8) (by decide) (by decide) (by decide) (by decide) rfl rfl)
theorem il_9 {i : Nat} (hi : i < 12) : pz_il (dA 0) (cw dA ad B E π τ D) 109 (nI i) = some (D 9 i) := by
  have h1 := nI_inb hi (by decide)
  show (if dA 0 = dA 0 ∧ ¬ (nI i < 0 ∨ 12 ≤ (nI i).toNatClampNeg) then some (D 9 (nI i).toNatClampNeg) else none) = _
  rw [if_pos ⟨rfl, h1⟩, nI_clamp (by omega)]
theorem is_9 {i : Nat} (hi : i < 12) {v : Int32} : pz_is (dA 0) (cw dA ad B E π τ D) 109 (nI i) v = some (cw dA ad B E π τ (u2 D 9 i v)) := by
  have h1 := nI_inb hi (by decide)
  show (if dA 0 = dA 0 ∧ ¬ (nI i < 0 ∨ 12 ≤ (nI i).toNatClampNeg) then some (pz_up (cw dA ad B E π τ D) 109 (.inl (dA 0, 12, .inl (upd (D 9) (nI i).toNatClampNeg v)))) else none) = _
  rw [if_pos ⟨rfl, h1⟩, nI_clamp (by omega)]
  exact congrArg some (cX_set (k := 9) (by decide) (by decide) (by decide) (by decide) rfl rfl)
theorem il_10 {i : Nat} (hi : i < 12) : pz_il (dA 0) (cw dA ad B E π τ D) 110 (nI i) = some (D 10 i) := by
  have h1 := nI_inb hi (by decide)
  show (if dA 0 = dA 0 ∧ ¬ (nI i < 0 ∨ 12 ≤ (nI i).toNatClampNeg) then some (D 10 (nI i).toNatClampNeg) else none) = _
  rw [if_pos ⟨rfl, h1⟩, nI_clamp (by omega)]
theorem is_10 {i : Nat} (hi : i < 12) {v : Int32} : pz_is (dA 0) (cw dA ad B E π τ D) 110 (nI i) v = some (cw dA ad B E π τ (u2 D 10 i v)) := by
  have h1 := nI_inb hi (by decide)
  show (if dA 0 = dA 0 ∧ ¬ (nI i < 0 ∨ 12 ≤ (nI i).toNatClampNeg) then some (pz_up (cw dA ad B E π τ D) 110 (.inl (dA 0, 12, .inl (upd (D 10) (nI i).toNatClampNeg v)))) else none) = _
  rw [if_pos ⟨rfl, h1⟩, nI_clamp (by omega)]
  exact congrArg some (cX_set (k := 10) (by decide) (by decide) (by decide) (by decide) rfl rfl)
theorem il_11 {i : Nat} (hi : i < 12) : pz_il (dA 0) (cw dA ad B E π τ D) 111 (nI i) = some (D 11 i) := by
  have h1 := nI_inb hi (by decide)
  show (if dA 0 = dA 0 ∧ ¬ (nI i < 0 ∨ 12 ≤ (nI i).toNatClampNeg) then some (D 11 (nI i).toNatClampNeg) else none) = _
  rw [if_pos ⟨rfl, h1⟩, nI_clamp (by omega)]
theorem is_11 {i : Nat} (hi : i < 12) {v : Int32} : pz_is (dA 0) (cw dA ad B E π τ D) 111 (nI i) v = some (cw dA ad B E π τ (u2 D 11 i v)) := by
  have h1 := nI_inb hi (by decide)
  show (if dA 0 = dA 0 ∧ ¬ (nI i < 0 ∨ 12 ≤ (nI i).toNatClampNeg) then some (pz_up (cw dA ad B E π τ D) 111 (.inl (dA 0, 12, .inl (upd (D 11) (nI i).toNatClampNeg v)))) else none) = _
  rw [if_pos ⟨rfl, h1⟩, nI_clamp (by omega)]
  exact congrArg some (cX_set (k := 11) (by decide) (by decide) (by decide) (by decide) rfl rfl)
theorem il_12 {i : Nat} (hi : i < 12) : pz_il (dA 0) (cw dA ad B E π τ D) 112 (nI i) = some (D 12 i) := by
  have h1 := nI_inb hi (by decide)
  show (if dA 0 = dA 0 ∧ ¬ (nI i < 0 ∨ 12 ≤ (nI i).toNatClampNeg) then some (D 12 (nI i).toNatClampNeg) else none) = _
  rw [if_pos ⟨rfl, h1⟩, nI_clamp (by omega)]
theorem is_12 {i : Nat} (hi : i < 12) {v : Int32} : pz_is (dA 0) (cw dA ad B E π τ D) 112 (nI i) v = some (cw dA ad B E π τ (u2 D 12 i v)) := by
  have h1 := nI_inb hi (by decide)
  show (if dA 0 = dA 0 ∧ ¬ (nI i < 0 ∨ 12 ≤ (nI i).toNatClampNeg) then some (pz_up (cw dA ad B E π τ D) 112 (.inl (dA 0, 12, .inl (upd (D 12) (nI i).toNatClampNeg v)))) else none) = _
  rw [if_pos ⟨rfl, h1⟩, nI_clamp (by omega)]
  exact congrArg some (cX_set (k := 12) (by decide) (by decide) (by decide) (by decide) rfl rfl)
theorem il_13 {i : Nat} (hi : i < 12) : pz_il (dA 0) (cw dA ad B E π τ D) 113 (nI i) = some (D 13 i) := by
  have h1 := nI_inb hi (by decide)
  show (if dA 0 = dA 0 ∧ ¬ (nI i < 0 ∨ 12 ≤ (nI i).toNatClampNeg) then some (D 13 (nI i).toNatClampNeg) else none) = _
  rw [if_pos ⟨rfl, h1⟩, nI_clamp (by omega)]
theorem is_13 {i : Nat} (hi : i < 12) {v : Int32} : pz_is (dA 0) (cw dA ad B E π τ D) 113 (nI i) v = some (cw dA ad B E π τ (u2 D 13 i v)) := by
  have h1 := nI_inb hi (by decide)
  show (if dA 0 = dA 0 ∧ ¬ (nI i < 0 ∨ 12 ≤ (nI i).toNatClampNeg) then some (pz_up (cw dA ad B E π τ D) 113 (.inl (dA 0, 12, .inl (upd (D 13) (nI i).toNatClampNeg v)))) else none) = _
  rw [if_pos ⟨rfl, h1⟩, nI_clamp (by omega)]
  exact congrArg some (cX_set (k := 13) (by decide) (by decide) (by decide) (by decide) rfl rfl)
theorem il_14 {i : Nat} (hi : i < 12) : pz_il (dA 1) (cw dA ad B E π τ D) 114 (nI i) = some (D 14 i) := by
  have h1 := nI_inb hi (by decide)
  show (if dA 1 = dA 1 ∧ ¬ (nI i < 0 ∨ 12 ≤ (nI i).toNatClampNeg) then some (D 14 (nI i).toNatClampNeg) else none) = _
  rw [if_pos ⟨rfl, h1⟩, nI_clamp (by omega)]
theorem is_14 {i : Nat} (hi : i < 12) {v : Int32} : pz_is (dA 1) (cw dA ad B E π τ D) 114 (nI i) v = some (cw dA ad B E π τ (u2 D 14 i v)) := by
  have h1 := nI_inb hi (by decide)
  show (if dA 1 = dA 1 ∧ ¬ (nI i < 0 ∨ 12 ≤ (nI i).toNatClampNeg) then some (pz_up (cw dA ad B E π τ D) 114 (.inl (dA 1, 12, .inl (upd (D 14) (nI i).toNatClampNeg v)))) else none) = _
  rw [if_pos ⟨rfl, h1⟩, nI_clamp (by omega)]
  exact congrArg some (cX_set (k := 14) (by decide) (by decide) (by decide) (by decide) rfl rfl)
theorem il_15 {i : Nat} (hi : i < 5) : pz_il (dA 0) (cw dA ad B E π τ D) 115 (nI i) = some (D 15 i) := by
  have h1 := nI_inb hi (by decide)
  show (if dA 0 = dA 0 ∧ ¬ (nI i < 0 ∨ 5 ≤ (nI i).toNatClampNeg) then some (D 15 (nI i).toNatClampNeg) else none) = _
  rw [if_pos ⟨rfl, h1⟩, nI_clamp (by omega)]
theorem is_15 {i : Nat} (hi : i < 5) {v : Int32} : pz_is (dA 0) (cw dA ad B E π τ D) 115 (nI i) v = some (cw dA ad B E π τ (u2 D 15 i v)) := by
  have h1 := nI_inb hi (by decide)
  show (if dA 0 = dA 0 ∧ ¬ (nI i < 0 ∨ 5 ≤ (nI i).toNatClampNeg) then some (pz_up (cw dA ad B E π τ D) 115 (.inl (dA 0, 5, .inl (upd (D 15) (nI i).toNatClampNeg v)))) else none) = _
  rw [if_pos ⟨rfl, h1⟩, nI_clamp (by omega)]
  exact congrArg some (cX_set (k := 15) (by decide) (by decide) (by decide) (by decide) rfl rfl)
theorem il_16 {i : Nat} (hi : i < 5) : pz_il (dA 0) (cw dA ad B E π τ D) 116 (nI i) = some (D 16 i) := by
  have h1 := nI_inb hi (by decide)
  show (if dA 0 = dA 0 ∧ ¬ (nI i < 0 ∨ 5 ≤ (nI i).toNatClampNeg) then some (D 16 (nI i).toNatClampNeg) else none) = _
  rw [if_pos ⟨rfl, h1⟩, nI_clamp (by omega)]
theorem is_16 {i : Nat} (hi : i < 5) {v : Int32} : pz_is (dA 0) (cw dA ad B E π τ D) 116 (nI i) v = some (cw dA ad B E π τ (u2 D 16 i v)) := by
  have h1 := nI_inb hi (by decide)
  show (if dA 0 = dA 0 ∧ ¬ (nI i < 0 ∨ 5 ≤ (nI i).toNatClampNeg) then some (pz_up (cw dA ad B E π τ D) 116 (.inl (dA 0, 5, .inl (upd (D 16) (nI i).toNatClampNeg v)))) else none) = _
  rw [if_pos ⟨rfl, h1⟩, nI_clamp (by omega)]
  exact congrArg some (cX_set (k := 16) (by decide) (by decide) (by decide) (by decide) rfl rfl)
theorem il_17 {i : Nat} (hi : i < 5) : pz_il (dA 0) (cw dA ad B E π τ D) 117 (nI i) = some (D 17 i) := by
  have h1 := nI_inb hi (by decide)
  show (if dA 0 = dA 0 ∧ ¬ (nI i < 0 ∨ 5 ≤ (nI i).toNatClampNeg) then some (D 17 (nI i).toNatClampNeg) else none) = _
  rw [if_pos ⟨rfl, h1⟩, nI_clamp (by omega)]
theorem is_17 {i : Nat} (hi : i < 5) {v : Int32} : pz_is (dA 0) (cw dA ad B E π τ D) 117 (nI i) v = some (cw dA ad B E π τ (u2 D 17 i v)) := by
  have h1 := nI_inb hi (by decide)
  show (if dA 0 = dA 0 ∧ ¬ (nI i < 0 ∨ 5 ≤ (nI i).toNatClampNeg) then some (pz_up (cw dA ad B E π τ D) 117 (.inl (dA 0, 5, .inl (upd (D 17) (nI i).toNatClampNeg v)))) else none) = _
  rw [if_pos ⟨rfl, h1⟩, nI_clamp (by omega)]
  exact congrArg some (cX_set (k := 17) (by decide) (by decide) (by decide) (by decide) rfl rfl)
theorem il_18 {i : Nat} (hi : i < 5) : pz_il (dA 1) (cw dA ad B E π τ D) 118 (nI i) = some (D 18 i) := by
  have h1 := nI_inb hi (by decide)
  show (if dA 1 = dA 1 ∧ ¬ (nI i < 0 ∨ 5 ≤ (nI i).toNatClampNeg) then some (D 18 (nI i).toNatClampNeg) else none) = _
  rw [if_pos ⟨rfl, h1⟩, nI_clamp (by omega)]
theorem is_18 {i : Nat} (hi : i < 5) {v : Int32} : pz_is (dA 1) (cw dA ad B E π τ D) 118 (nI i) v = some (cw dA ad B E π τ (u2 D 18 i v)) := by
  have h1 := nI_inb hi (by decide)
  show (if dA 1 = dA 1 ∧ ¬ (nI i < 0 ∨ 5 ≤ (nI i).toNatClampNeg) then some (pz_up (cw dA ad B E π τ D) 118 (.inl (dA 1, 5, .inl (upd (D 18) (nI i).toNatClampNeg v)))) else none) = _
  rw [if_pos ⟨rfl, h1⟩, nI_clamp (by omega)]
  exact congrArg some (cX_set (k := 18) (by decide) (by decide) (by decide) (by decide) rfl rfl)
theorem il_19 {i : Nat} (hi : i < 5) : pz_il (dA 0) (cw dA ad B E π τ D) 119 (nI i) = some (D 19 i) := by
  have h1 := nI_inb hi (by decide)
  show (if dA 0 = dA 0 ∧ ¬ (nI i < 0 ∨ 5 ≤ (nI i).toNatClampNeg) then some (D 19 (nI i).toNatClampNeg) else none) = _
  rw [if_pos ⟨rfl, h1⟩, nI_clamp (by omega)]
theorem is_19 {i : Nat} (hi : i < 5) {v : Int32} : pz_is (dA 0) (cw dA ad B E π τ D) 119 (nI i) v = some (cw dA ad B E π τ (u2 D 19 i v)) := by
  have h1 := nI_inb hi (by decide)
  show (if dA 0 = dA 0 ∧ ¬ (nI i < 0 ∨ 5 ≤ (nI i).toNatClampNeg) then some (pz_up (cw dA ad B E π τ D) 119 (.inl (dA 0, 5, .inl (upd (D 19) (nI i).toNatClampNeg v)))) else none) = _
  rw [if_pos ⟨rfl, h1⟩, nI_clamp (by omega)]
  exact congrArg some (cX_set (k := 19) (by decide) (by decide) (by decide) (by decide) rfl rfl)
theorem il_21 {i : Nat} (hi : i < 288) : pz_il (dA 0) (cw dA ad B E π τ D) 121 (nI i) = some (D 21 i) := by
  have h1 := nI_inb hi (by decide)
  show (if dA 0 = dA 0 ∧ ¬ (nI i < 0 ∨ 288 ≤ (nI i).toNatClampNeg) then some (D 21 (nI i).toNatClampNeg) else none) = _
  rw [if_pos ⟨rfl, h1⟩, nI_clamp (by omega)]
theorem is_21 {i : Nat} (hi : i < 288) {v : Int32} : pz_is (dA 0) (cw dA ad B E π τ D) 121 (nI i) v = some (cw dA ad B E π τ (u2 D 21 i v)) := by
  have h1 := nI_inb hi (by decide)
  show (if dA 0 = dA 0 ∧ ¬ (nI i < 0 ∨ 288 ≤ (nI i).toNatClampNeg) then some (pz_up (cw dA ad B E π τ D) 121 (.inl (dA 0, 288, .inl (upd (D 21) (nI i).toNatClampNeg v)))) else none) = _
  rw [if_pos ⟨rfl, h1⟩, nI_clamp (by omega)]
  exact congrArg some (cX_set (k := 21) (by decide) (by decide) (by decide) (by decide) rfl rfl)
theorem il_22 {i : Nat} (hi : i < 12) : pz_il (dA 0) (cw dA ad B E π τ D) 122 (nI i) = some (D 22 i) := by
  have h1 := nI_inb hi (by decide)
  show (if dA 0 = dA 0 ∧ ¬ (nI i < 0 ∨ 12 ≤ (nI i).toNatClampNeg) then some (D 22 (nI i).toNatClampNeg) else none) = _
  rw [if_pos ⟨rfl, h1⟩, nI_clamp (by omega)]
theorem is_22 {i : Nat} (hi : i < 12) {v : Int32} : pz_is (dA 0) (cw dA ad B E π τ D) 122 (nI i) v = some (cw dA ad B E π τ (u2 D 22 i v)) := by
  have h1 := nI_inb hi (by decide)
  show (if dA 0 = dA 0 ∧ ¬ (nI i < 0 ∨ 12 ≤ (nI i).toNatClampNeg) then some (pz_up (cw dA ad B E π τ D) 122 (.inl (dA 0, 12, .inl (upd (D 22) (nI i).toNatClampNeg v)))) else none) = _
  rw [if_pos ⟨rfl, h1⟩, nI_clamp (by omega)]
  exact congrArg some (cX_set (k := 22) (by decide) (by decide) (by decide) (by decide) rfl rfl)
theorem il_23 {i : Nat} (hi : i < 12) : pz_il (dA 0) (cw dA ad B E π τ D) 123 (nI i) = some (D 23 i) := by
  have h1 := nI_inb hi (by decide)
  show (if dA 0 = dA 0 ∧ ¬ (nI i < 0 ∨ 12 ≤ (nI i).toNatClampNeg) then some (D 23 (nI i).toNatClampNeg) else none) = _
  rw [if_pos ⟨rfl, h1⟩, nI_clamp (by omega)]
theorem is_23 {i : Nat} (hi : i < 12) {v : Int32} : pz_is (dA 0) (cw dA ad B E π τ D) 123 (nI i) v = some (cw dA ad B E π τ (u2 D 23 i v)) := by
  have h1 := nI_inb hi (by decide)
  show (if dA 0 = dA 0 ∧ ¬ (nI i < 0 ∨ 12 ≤ (nI i).toNatClampNeg) then some (pz_up (cw dA ad B E π τ D) 123 (.inl (dA 0, 12, .inl (upd (D 23) (nI i).toNatClampNeg v)))) else none) = _
  rw [if_pos ⟨rfl, h1⟩, nI_clamp (by omega)]
  exact congrArg some (cX_set (k := 23) (by decide) (by decide) (by decide) (by decide) rfl rfl)
end CWA
