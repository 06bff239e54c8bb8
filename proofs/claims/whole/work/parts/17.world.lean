/-! worlds: cells by number; ad gives a number's address, ix is its inverse -/
def pz_wf (ad ix : Nat → Nat) (c : pz_F) : pz_F := fun a => if ad (ix a) = a then c (ix a) else none
theorem pz_wf_at {ad ix : Nat → Nat} (hA : ∀ i, ix (ad i) = i) (c : pz_F) (i : Nat) : pz_wf ad ix c (ad i) = c i := by
  unfold pz_wf
  rw [hA, if_pos rfl]
theorem pz_wf_up {ad ix : Nat → Nat} (hA : ∀ i, ix (ad i) = i) (c : pz_F) (i : Nat) (e : va_E) : pz_up (pz_wf ad ix c) (ad i) e = pz_wf ad ix (pz_up c i e) := by
  funext a
  unfold pz_up pz_wf
  by_cases h : a = ad i
  · subst h
    simp [hA]
  · rw [if_neg h]
    by_cases h2 : ad (ix a) = a
    · have h3 : ¬ ix a = i := fun q => h (by rw [← h2, q])
      simp [h2, h3]
    · simp [h2]
section PZW
variable {ad ix : Nat → Nat} {c : pz_F} {i ci j : Nat} {dA : Nat → ClassId}
theorem wf_gf (hA : ∀ i, ix (ad i) = i) : pz_gf (pz_wf ad ix c) (ad i) ci j = pz_gf c i ci j := by
  unfold pz_gf
  rw [pz_wf_at hA]
theorem wf_gu (hA : ∀ i, ix (ad i) = i) : pz_gu (pz_wf ad ix c) (ad i) ci = pz_gu c i ci := by
  unfold pz_gu
  rw [pz_wf_at hA]
theorem wf_pf (hA : ∀ i, ix (ad i) = i) {v : Value} : pz_pf (pz_wf ad ix c) (ad i) ci j v = (pz_pf c i ci j v).map (pz_wf ad ix) := by
  unfold pz_pf
  rw [pz_wf_at hA]
  split
  · split
    · rw [pz_wf_up hA]
      rfl
    · rfl
  · rfl
theorem wf_il (hA : ∀ i, ix (ad i) = i) {cA : ClassId} {x : Int32} : pz_il cA (pz_wf ad ix c) (ad i) x = pz_il cA c i x := by
  unfold pz_il
  rw [pz_wf_at hA]
theorem wf_is (hA : ∀ i, ix (ad i) = i) {cA : ClassId} {x y : Int32} : pz_is cA (pz_wf ad ix c) (ad i) x y = (pz_is cA c i x y).map (pz_wf ad ix) := by
  unfold pz_is
  rw [pz_wf_at hA]
  split
  · split
    · rw [pz_wf_up hA]
      rfl
    · rfl
  · rfl
theorem wf_rl (hA : ∀ i, ix (ad i) = i) {x : Int32} : pz_rl dA (pz_wf ad ix c) (ad i) x = pz_rl dA c i x := by
  unfold pz_rl
  rw [pz_wf_at hA]
/-- storing a reference to the cell j, by numbers -/
def pz_rt (dA ad : Nat → Nat) (c : pz_F) (i : Nat) (x : Int32) (j : Nat) : Option pz_F := match c i, c j with
  | some (.inl (k, n, .inr (.inr (.inr (.inr g))))), some (.inr o) => if (pz_ct o.1 < 6 ∧ k = dA (pz_ct o.1)) ∧ ¬ (x < 0 ∨ n ≤ x.toNatClampNeg) then some (pz_up c i (.inl (k, n, .inr (.inr (.inr (.inr (va_up g x.toNatClampNeg (some (ad j)))))))))  else none
  | _, _ => none
theorem wf_rs (hA : ∀ i, ix (ad i) = i) {x : Int32} : pz_rs dA (pz_wf ad ix c) (ad i) x (ad j) = (pz_rt dA ad c i x j).map (pz_wf ad ix) := by
  unfold pz_rs pz_rt
  rw [pz_wf_at hA, pz_wf_at hA]
  generalize c i = z1
  generalize c j = z2
  split
  · rename_i k n g o
    by_cases h : (pz_ct o.1 < 6 ∧ k = dA (pz_ct o.1)) ∧ ¬ (x < 0 ∨ n ≤ x.toNatClampNeg)
    · dsimp only
      rw [if_pos h, if_pos h, pz_wf_up hA]
      rfl
    · dsimp only
      rw [if_neg h, if_neg h]
      rfl
  · rename_i h
    split
    · exact absurd rfl (h _ _ _ _ rfl)
    · rfl
end PZW
def u2 (B : Nat → Nat → Int32) (k i : Nat) (v : Int32) : Nat → Nat → Int32 := fun k' i' => if k' = k ∧ i' = i then v else B k' i'
theorem u2_s (B : Nat → Nat → Int32) (k i : Nat) (v : Int32) : u2 B k i v k i = v := by simp [u2]
theorem u2_k (B : Nat → Nat → Int32) {k k' : Nat} (i i' : Nat) (v : Int32) (h : k' ≠ k) : u2 B k i v k' i' = B k' i' := by simp [u2, h]
theorem u2_i (B : Nat → Nat → Int32) (k k' : Nat) {i i' : Nat} (v : Int32) (h : i' ≠ i) : u2 B k i v k' i' = B k' i' := by simp [u2, h]

/-- the objects of the system, by number -/
def cC (dA ad : Nat → Nat) (B E : Nat → Nat → Int32) (π : Nat → Nat) (τ : Nat) (i : Nat) : Option va_E :=
  if i = 0 then some (.inr (0, [.int (B 0 0), .int (B 1 0), .ref (ad 1), .ref (ad 2), .ref (ad 3)]))
  else if i = 1 then some (.inl (dA 2, 2, .inr (.inr (.inr (.inr (fun s => some (ad (10 + s))))))))
  else if i = 2 then some (.inl (dA 3, 5, .inr (.inr (.inr (.inr (fun s => some (ad (20 + s))))))))
  else if i = 3 then some (.inr (4, [.ref (ad 4), .int (B 20 0), .ref (ad (60 + τ))]))
  else if i = 4 then some (.inl (dA 5, 24, .inr (.inr (.inr (.inr (fun s => some (ad (60 + π s))))))))
  else if 10 ≤ i ∧ i < 12 then some (.inr (1, [.int (nI (i - 10)), .ref (ad (i + 2)), .int (B 2 (i - 10)), .int (B 3 (i - 10)), .int (B 4 (i - 10)), .int (B 5 (i - 10)), .int (B 6 (i - 10))]))
  else if 12 ≤ i ∧ i < 14 then some (.inl (dA 4, 6, .inr (.inr (.inr (.inr (fun s => some (ad (30 + (6 * (i - 12) + s)))))))))
  else if 20 ≤ i ∧ i < 25 then some (.inr (3, [.int (B 15 (i - 20)), .int (B 16 (i - 20)), .int (B 17 (i - 20)), .int (B 18 (i - 20)), .int (E 25 (i - 20))]))
  else if 30 ≤ i ∧ i < 42 then some (.inr (2, [.int (B 7 (i - 30)), .int (B 8 (i - 30)), .int (B 9 (i - 30)), .int (B 10 (i - 30)), .int (B 11 (i - 30)), .int (B 12 (i - 30)), .int (B 13 (i - 30)), .int (B 14 (i - 30))]))
  else if 60 ≤ i ∧ i < 85 then some (.inr (5, [.int (E (i - 60) 0), .int (E (i - 60) 1), .int (E (i - 60) 2), .int (E (i - 60) 3), .int (E (i - 60) 4), .int (E (i - 60) 5), .int (E (i - 60) 6), .int (E (i - 60) 7), .int (E (i - 60) 8), .int (E (i - 60) 9), .int (E (i - 60) 10), .int (E (i - 60) 11), .int (E (i - 60) 12), .int (E (i - 60) 13), .int (E (i - 60) 14)]))
  else none
def cXn (k : Nat) : Nat := if k < 7 then 2 else if k < 15 then 12 else if k < 20 then 5 else if k = 21 then 288 else 12
def cXt (k : Nat) : Nat := if k = 14 then 1 else if k = 18 then 1 else 0
/-- the reference's, by number -/
def cX (dA ad : Nat → Nat) (D : Nat → Nat → Int32) (k : Nat) : Option va_E :=
  if k = 0 then some (.inr (6, [.int (D 0 0), .int (D 1 0), .ref (ad 102), .ref (ad 103), .ref (ad 104), .ref (ad 105), .ref (ad 106), .ref (ad 107), .ref (ad 108), .ref (ad 109), .ref (ad 110), .ref (ad 111), .ref (ad 112), .ref (ad 113), .ref (ad 114), .ref (ad 115), .ref (ad 116), .ref (ad 117), .ref (ad 118), .ref (ad 119), .int (D 20 0), .ref (ad 121), .ref (ad 122), .ref (ad 123)]))
  else if k < 24 ∧ k ≠ 1 ∧ k ≠ 20 then some (.inl (dA (cXt k), cXn k, .inl (D k)))
  else none
def cw (dA ad : Nat → Nat) (B E : Nat → Nat → Int32) (π : Nat → Nat) (τ : Nat) (D : Nat → Nat → Int32) : pz_F := fun i => if i < 100 then cC dA ad B E π τ i else cX dA ad D (i - 100)
section CWS
variable {dA ad : Nat → Nat} {B E : Nat → Nat → Int32} {π : Nat → Nat} {τ : Nat} {D : Nat → Nat → Int32}
theorem cw_P : cw dA ad B E π τ D 0 = some (.inr (0, [.int (B 0 0), .int (B 1 0), .ref (ad 1), .ref (ad 2), .ref (ad 3)])) := by
  rfl
theorem gu_P : pz_gu (cw dA ad B E π τ D) 0 0 = some () := by
  unfold pz_gu
  rw [cw_P ]
  rfl
theorem gf_P0 : pz_gf (cw dA ad B E π τ D) 0 0 0 = some (.int (B 0 0)) := by
  unfold pz_gf
  rw [cw_P ]
  rfl
theorem gf_P1 : pz_gf (cw dA ad B E π τ D) 0 0 1 = some (.int (B 1 0)) := by
  unfold pz_gf
  rw [cw_P ]
  rfl
theorem gf_P2 : pz_gf (cw dA ad B E π τ D) 0 0 2 = some (.ref (ad 1)) := by
  unfold pz_gf
  rw [cw_P ]
  rfl
theorem gf_P3 : pz_gf (cw dA ad B E π τ D) 0 0 3 = some (.ref (ad 2)) := by
  unfold pz_gf
  rw [cw_P ]
  rfl
theorem gf_P4 : pz_gf (cw dA ad B E π τ D) 0 0 4 = some (.ref (ad 3)) := by
  unfold pz_gf
  rw [cw_P ]
  rfl
theorem cw_L : cw dA ad B E π τ D 3 = some (.inr (4, [.ref (ad 4), .int (B 20 0), .ref (ad (60 + τ))])) := by
  rfl
theorem gu_L : pz_gu (cw dA ad B E π τ D) 3 4 = some () := by
  unfold pz_gu
  rw [cw_L ]
  rfl
theorem gf_L0 : pz_gf (cw dA ad B E π τ D) 3 4 0 = some (.ref (ad 4)) := by
  unfold pz_gf
  rw [cw_L ]
  rfl
theorem gf_L1 : pz_gf (cw dA ad B E π τ D) 3 4 1 = some (.int (B 20 0)) := by
  unfold pz_gf
  rw [cw_L ]
  rfl
theorem gf_L2 : pz_gf (cw dA ad B E π τ D) 3 4 2 = some (.ref (ad (60 + τ))) := by
  unfold pz_gf
  rw [cw_L ]
  rfl
theorem cw_S {s : Nat} (hs : s < 2) : cw dA ad B E π τ D (10 + s) = some (.inr (1, [.int (nI s), .ref (ad (12 + s)), .int (B 2 s), .int (B 3 s), .int (B 4 s), .int (B 5 s), .int (B 6 s)])) := by
  have e1 : 10 + s - 10 = s := by omega
  unfold cw cC
  rw [if_pos (by omega), if_neg (by omega), if_neg (by omega), if_neg (by omega), if_neg (by omega), if_neg (by omega), if_pos (by omega), e1]
  rw [show 10 + s + 2 = 12 + s by omega]
theorem gu_S {s : Nat} (hs : s < 2) : pz_gu (cw dA ad B E π τ D) (10 + s) 1 = some () := by
  unfold pz_gu
  rw [cw_S hs]
  rfl
theorem gf_S0 {s : Nat} (hs : s < 2) : pz_gf (cw dA ad B E π τ D) (10 + s) 1 0 = some (.int (nI s)) := by
  unfold pz_gf
  rw [cw_S hs]
  rfl
theorem gf_S1 {s : Nat} (hs : s < 2) : pz_gf (cw dA ad B E π τ D) (10 + s) 1 1 = some (.ref (ad (12 + s))) := by
  unfold pz_gf
  rw [cw_S hs]
  rfl
theorem gf_S2 {s : Nat} (hs : s < 2) : pz_gf (cw dA ad B E π τ D) (10 + s) 1 2 = some (.int (B 2 s)) := by
  unfold pz_gf
  rw [cw_S hs]
  rfl
theorem gf_S3 {s : Nat} (hs : s < 2) : pz_gf (cw dA ad B E π τ D) (10 + s) 1 3 = some (.int (B 3 s)) := by
  unfold pz_gf
  rw [cw_S hs]
  rfl
theorem gf_S4 {s : Nat} (hs : s < 2) : pz_gf (cw dA ad B E π τ D) (10 + s) 1 4 = some (.int (B 4 s)) := by
  unfold pz_gf
  rw [cw_S hs]
  rfl
theorem gf_S5 {s : Nat} (hs : s < 2) : pz_gf (cw dA ad B E π τ D) (10 + s) 1 5 = some (.int (B 5 s)) := by
  unfold pz_gf
  rw [cw_S hs]
  rfl
theorem gf_S6 {s : Nat} (hs : s < 2) : pz_gf (cw dA ad B E π τ D) (10 + s) 1 6 = some (.int (B 6 s)) := by
  unfold pz_gf
  rw [cw_S hs]
  rfl
theorem cw_C {s : Nat} (hs : s < 5) : cw dA ad B E π τ D (20 + s) = some (.inr (3, [.int (B 15 s), .int (B 16 s), .int (B 17 s), .int (B 18 s), .int (E 25 s)])) := by
  have e1 : 20 + s - 20 = s := by omega
  unfold cw cC
  rw [if_pos (by omega), if_neg (by omega), if_neg (by omega), if_neg (by omega), if_neg (by omega), if_neg (by omega), if_neg (by omega), if_neg (by omega), if_pos (by omega), e1]
theorem gu_C {s : Nat} (hs : s < 5) : pz_gu (cw dA ad B E π τ D) (20 + s) 3 = some () := by
  unfold pz_gu
  rw [cw_C hs]
  rfl
theorem gf_C0 {s : Nat} (hs : s < 5) : pz_gf (cw dA ad B E π τ D) (20 + s) 3 0 = some (.int (B 15 s)) := by
  unfold pz_gf
  rw [cw_C hs]
  rfl
theorem gf_C1 {s : Nat} (hs : s < 5) : pz_gf (cw dA ad B E π τ D) (20 + s) 3 1 = some (.int (B 16 s)) := by
  unfold pz_gf
  rw [cw_C hs]
  rfl
theorem gf_C2 {s : Nat} (hs : s < 5) : pz_gf (cw dA ad B E π τ D) (20 + s) 3 2 = some (.int (B 17 s)) := by
  unfold pz_gf
  rw [cw_C hs]
  rfl
theorem gf_C3 {s : Nat} (hs : s < 5) : pz_gf (cw dA ad B E π τ D) (20 + s) 3 3 = some (.int (B 18 s)) := by
  unfold pz_gf
  rw [cw_C hs]
  rfl
theorem gf_C4 {s : Nat} (hs : s < 5) : pz_gf (cw dA ad B E π τ D) (20 + s) 3 4 = some (.int (E 25 s)) := by
  unfold pz_gf
  rw [cw_C hs]
  rfl
theorem cw_R {s : Nat} (hs : s < 12) : cw dA ad B E π τ D (30 + s) = some (.inr (2, [.int (B 7 s), .int (B 8 s), .int (B 9 s), .int (B 10 s), .int (B 11 s), .int (B 12 s), .int (B 13 s), .int (B 14 s)])) := by
  have e1 : 30 + s - 30 = s := by omega
  unfold cw cC
  rw [if_pos (by omega), if_neg (by omega), if_neg (by omega), if_neg (by omega), if_neg (by omega), if_neg (by omega), if_neg (by omega), if_neg (by omega), if_neg (by omega), if_pos (by omega), e1]
theorem gu_R {s : Nat} (hs : s < 12) : pz_gu (cw dA ad B E π τ D) (30 + s) 2 = some () := by
  unfold pz_gu
  rw [cw_R hs]
  rfl
theorem gf_R0 {s : Nat} (hs : s < 12) : pz_gf (cw dA ad B E π τ D) (30 + s) 2 0 = some (.int (B 7 s)) := by
  unfold pz_gf
  rw [cw_R hs]
  rfl
theorem gf_R1 {s : Nat} (hs : s < 12) : pz_gf (cw dA ad B E π τ D) (30 + s) 2 1 = some (.int (B 8 s)) := by
  unfold pz_gf
  rw [cw_R hs]
  rfl
theorem gf_R2 {s : Nat} (hs : s < 12) : pz_gf (cw dA ad B E π τ D) (30 + s) 2 2 = some (.int (B 9 s)) := by
  unfold pz_gf
  rw [cw_R hs]
  rfl
theorem gf_R3 {s : Nat} (hs : s < 12) : pz_gf (cw dA ad B E π τ D) (30 + s) 2 3 = some (.int (B 10 s)) := by
  unfold pz_gf
  rw [cw_R hs]
  rfl
theorem gf_R4 {s : Nat} (hs : s < 12) : pz_gf (cw dA ad B E π τ D) (30 + s) 2 4 = some (.int (B 11 s)) := by
  unfold pz_gf
  rw [cw_R hs]
  rfl
theorem gf_R5 {s : Nat} (hs : s < 12) : pz_gf (cw dA ad B E π τ D) (30 + s) 2 5 = some (.int (B 12 s)) := by
  unfold pz_gf
  rw [cw_R hs]
  rfl
theorem gf_R6 {s : Nat} (hs : s < 12) : pz_gf (cw dA ad B E π τ D) (30 + s) 2 6 = some (.int (B 13 s)) := by
  unfold pz_gf
  rw [cw_R hs]
  rfl
theorem gf_R7 {s : Nat} (hs : s < 12) : pz_gf (cw dA ad B E π τ D) (30 + s) 2 7 = some (.int (B 14 s)) := by
  unfold pz_gf
  rw [cw_R hs]
  rfl
theorem cw_M {s : Nat} (hs : s < 25) : cw dA ad B E π τ D (60 + s) = some (.inr (5, [.int (E s 0), .int (E s 1), .int (E s 2), .int (E s 3), .int (E s 4), .int (E s 5), .int (E s 6), .int (E s 7), .int (E s 8), .int (E s 9), .int (E s 10), .int (E s 11), .int (E s 12), .int (E s 13), .int (E s 14)])) := by
  have e1 : 60 + s - 60 = s := by omega
  unfold cw cC
  rw [if_pos (by omega), if_neg (by omega), if_neg (by omega), if_neg (by omega), if_neg (by omega), if_neg (by omega), if_neg (by omega), if_neg (by omega), if_neg (by omega), if_neg (by omega), if_pos (by omega), e1]
theorem gu_M {s : Nat} (hs : s < 25) : pz_gu (cw dA ad B E π τ D) (60 + s) 5 = some () := by
  unfold pz_gu
  rw [cw_M hs]
  rfl
theorem gf_M0 {s : Nat} (hs : s < 25) : pz_gf (cw dA ad B E π τ D) (60 + s) 5 0 = some (.int (E s 0)) := by
  unfold pz_gf
  rw [cw_M hs]
  rfl
theorem gf_M1 {s : Nat} (hs : s < 25) : pz_gf (cw dA ad B E π τ D) (60 + s) 5 1 = some (.int (E s 1)) := by
  unfold pz_gf
  rw [cw_M hs]
  rfl
theorem gf_M2 {s : Nat} (hs : s < 25) : pz_gf (cw dA ad B E π τ D) (60 + s) 5 2 = some (.int (E s 2)) := by
  unfold pz_gf
  rw [cw_M hs]
  rfl
theorem gf_M3 {s : Nat} (hs : s < 25) : pz_gf (cw dA ad B E π τ D) (60 + s) 5 3 = some (.int (E s 3)) := by
  unfold pz_gf
  rw [cw_M hs]
  rfl
theorem gf_M4 {s : Nat} (hs : s < 25) : pz_gf (cw dA ad B E π τ D) (60 + s) 5 4 = some (.int (E s 4)) := by
  unfold pz_gf
  rw [cw_M hs]
  rfl
theorem gf_M5 {s : Nat} (hs : s < 25) : pz_gf (cw dA ad B E π τ D) (60 + s) 5 5 = some (.int (E s 5)) := by
  unfold pz_gf
  rw [cw_M hs]
  rfl
theorem gf_M6 {s : Nat} (hs : s < 25) : pz_gf (cw dA ad B E π τ D) (60 + s) 5 6 = some (.int (E s 6)) := by
  unfold pz_gf
  rw [cw_M hs]
  rfl
theorem gf_M7 {s : Nat} (hs : s < 25) : pz_gf (cw dA ad B E π τ D) (60 + s) 5 7 = some (.int (E s 7)) := by
  unfold pz_gf
  rw [cw_M hs]
  rfl
theorem gf_M8 {s : Nat} (hs : s < 25) : pz_gf (cw dA ad B E π τ D) (60 + s) 5 8 = some (.int (E s 8)) := by
  unfold pz_gf
  rw [cw_M hs]
  rfl
theorem gf_M9 {s : Nat} (hs : s < 25) : pz_gf (cw dA ad B E π τ D) (60 + s) 5 9 = some (.int (E s 9)) := by
  unfold pz_gf
  rw [cw_M hs]
  rfl
theorem gf_M10 {s : Nat} (hs : s < 25) : pz_gf (cw dA ad B E π τ D) (60 + s) 5 10 = some (.int (E s 10)) := by
  unfold pz_gf
  rw [cw_M hs]
  rfl
theorem gf_M11 {s : Nat} (hs : s < 25) : pz_gf (cw dA ad B E π τ D) (60 + s) 5 11 = some (.int (E s 11)) := by
  unfold pz_gf
  rw [cw_M hs]
  rfl
theorem gf_M12 {s : Nat} (hs : s < 25) : pz_gf (cw dA ad B E π τ D) (60 + s) 5 12 = some (.int (E s 12)) := by
  unfold pz_gf
  rw [cw_M hs]
  rfl
theorem gf_M13 {s : Nat} (hs : s < 25) : pz_gf (cw dA ad B E π τ D) (60 + s) 5 13 = some (.int (E s 13)) := by
  unfold pz_gf
  rw [cw_M hs]
  rfl
theorem gf_M14 {s : Nat} (hs : s < 25) : pz_gf (cw dA ad B E π τ D) (60 + s) 5 14 = some (.int (E s 14)) := by
  unfold pz_gf
  rw [cw_M hs]
  rfl
theorem cw_X : cw dA ad B E π τ D 100 = some (.inr (6, [.int (D 0 0), .int (D 1 0), .ref (ad 102), .ref (ad 103), .ref (ad 104), .ref (ad 105), .ref (ad 106), .ref (ad 107), .ref (ad 108), .ref (ad 109), .ref (ad 110), .ref (ad 111), .ref (ad 112), .ref (ad 113), .ref (ad 114), .ref (ad 115), .ref (ad 116), .ref (ad 117), .ref (ad 118), .ref (ad 119), .int (D 20 0), .ref (ad 121), .ref (ad 122), .ref (ad 123)])) := by
  rfl
theorem gu_X : pz_gu (cw dA ad B E π τ D) 100 6 = some () := by
  unfold pz_gu
  rw [cw_X ]
  rfl
theorem gf_X0 : pz_gf (cw dA ad B E π τ D) 100 6 0 = some (.int (D 0 0)) := by
  unfold pz_gf
  rw [cw_X ]
  rfl
theorem gf_X1 : pz_gf (cw dA ad B E π τ D) 100 6 1 = some (.int (D 1 0)) := by
  unfold pz_gf
  rw [cw_X ]
  rfl
theorem gf_X2 : pz_gf (cw dA ad B E π τ D) 100 6 2 = some (.ref (ad 102)) := by
  unfold pz_gf
  rw [cw_X ]
  rfl
theorem gf_X3 : pz_gf (cw dA ad B E π τ D) 100 6 3 = some (.ref (ad 103)) := by
  unfold pz_gf
  rw [cw_X ]
  rfl
theorem gf_X4 : pz_gf (cw dA ad B E π τ D) 100 6 4 = some (.ref (ad 104)) := by
  unfold pz_gf
  rw [cw_X ]
  rfl
theorem gf_X5 : pz_gf (cw dA ad B E π τ D) 100 6 5 = some (.ref (ad 105)) := by
  unfold pz_gf
  rw [cw_X ]
  rfl
theorem gf_X6 : pz_gf (cw dA ad B E π τ D) 100 6 6 = some (.ref (ad 106)) := by
  unfold pz_gf
  rw [cw_X ]
  rfl
theorem gf_X7 : pz_gf (cw dA ad B E π τ D) 100 6 7 = some (.ref (ad 107)) := by
  unfold pz_gf
  rw [cw_X ]
  rfl
theorem gf_X8 : pz_gf (cw dA ad B E π τ D) 100 6 8 = some (.ref (ad 108)) := by
  unfold pz_gf
  rw [cw_X ]
  rfl
theorem gf_X9 : pz_gf (cw dA ad B E π τ D) 100 6 9 = some (.ref (ad 109)) := by
  unfold pz_gf
  rw [cw_X ]
  rfl
theorem gf_X10 : pz_gf (cw dA ad B E π τ D) 100 6 10 = some (.ref (ad 110)) := by
  unfold pz_gf
  rw [cw_X ]
  rfl
theorem gf_X11 : pz_gf (cw dA ad B E π τ D) 100 6 11 = some (.ref (ad 111)) := by
  unfold pz_gf
  rw [cw_X ]
  rfl
theorem gf_X12 : pz_gf (cw dA ad B E π τ D) 100 6 12 = some (.ref (ad 112)) := by
  unfold pz_gf
  rw [cw_X ]
  rfl
theorem gf_X13 : pz_gf (cw dA ad B E π τ D) 100 6 13 = some (.ref (ad 113)) := by
  unfold pz_gf
  rw [cw_X ]
  rfl
theorem gf_X14 : pz_gf (cw dA ad B E π τ D) 100 6 14 = some (.ref (ad 114)) := by
  unfold pz_gf
  rw [cw_X ]
  rfl
theorem gf_X15 : pz_gf (cw dA ad B E π τ D) 100 6 15 = some (.ref (ad 115)) := by
  unfold pz_gf
  rw [cw_X ]
  rfl
theorem gf_X16 : pz_gf (cw dA ad B E π τ D) 100 6 16 = some (.ref (ad 116)) := by
  unfold pz_gf
  rw [cw_X ]
  rfl
theorem gf_X17 : pz_gf (cw dA ad B E π τ D) 100 6 17 = some (.ref (ad 117)) := by
  unfold pz_gf
  rw [cw_X ]
  rfl
theorem gf_X18 : pz_gf (cw dA ad B E π τ D) 100 6 18 = some (.ref (ad 118)) := by
  unfold pz_gf
  rw [cw_X ]
  rfl
theorem gf_X19 : pz_gf (cw dA ad B E π τ D) 100 6 19 = some (.ref (ad 119)) := by
  unfold pz_gf
  rw [cw_X ]
  rfl
theorem gf_X20 : pz_gf (cw dA ad B E π τ D) 100 6 20 = some (.int (D 20 0)) := by
  unfold pz_gf
  rw [cw_X ]
  rfl
theorem gf_X21 : pz_gf (cw dA ad B E π τ D) 100 6 21 = some (.ref (ad 121)) := by
  unfold pz_gf
  rw [cw_X ]
  rfl
theorem gf_X22 : pz_gf (cw dA ad B E π τ D) 100 6 22 = some (.ref (ad 122)) := by
  unfold pz_gf
  rw [cw_X ]
  rfl
theorem gf_X23 : pz_gf (cw dA ad B E π τ D) 100 6 23 = some (.ref (ad 123)) := by
  unfold pz_gf
  rw [cw_X ]
  rfl
theorem cX_keep {k j : Nat} {v : Int32} (hk : k ≠ 0) (hj : j = 0 ∨ j = 1 ∨ j = 20) : cX dA ad (u2 D j 0 v) k = cX dA ad D k := by
  unfold cX
  rw [if_neg hk, if_neg hk]
  by_cases h : k < 24 ∧ k ≠ 1 ∧ k ≠ 20
  · rw [if_pos h, if_pos h]
    have e : u2 D j 0 v k = D k := by
      funext i
      exact u2_k D 0 i v (by omega)
    rw [e]
  · rw [if_neg h, if_neg h]
theorem pf_P0 {v : Int32} : pz_pf (cw dA ad B E π τ D) 0 0 0 (.int v) = some (cw dA ad (u2 B 0 0 v) E π τ D) := by
  unfold pz_pf
  rw [cw_P ]
  show some (pz_up _ _ _) = _
  refine congrArg some (funext fun i => ?_)
  by_cases hi : i = 0
  · subst hi
    rw [pz_up_s, cw_P ]
    simp [u2]
  · rw [pz_up_n _ _ hi]
    simp [cw, cC, cX, u2, hi]
theorem pf_P1 {v : Int32} : pz_pf (cw dA ad B E π τ D) 0 0 1 (.int v) = some (cw dA ad (u2 B 1 0 v) E π τ D) := by
  unfold pz_pf
  rw [cw_P ]
  show some (pz_up _ _ _) = _
  refine congrArg some (funext fun i => ?_)
  by_cases hi : i = 0
  · subst hi
    rw [pz_up_s, cw_P ]
    simp [u2]
  · rw [pz_up_n _ _ hi]
    simp [cw, cC, cX, u2, hi]
theorem pf_L1 {v : Int32} : pz_pf (cw dA ad B E π τ D) 3 4 1 (.int v) = some (cw dA ad (u2 B 20 0 v) E π τ D) := by
  unfold pz_pf
  rw [cw_L ]
  show some (pz_up _ _ _) = _
  refine congrArg some (funext fun i => ?_)
  by_cases hi : i = 3
  · subst hi
    rw [pz_up_s, cw_L ]
    simp [u2]
  · rw [pz_up_n _ _ hi]
    simp [cw, cC, cX, u2, hi]
theorem pf_S2 {s : Nat} (hs : s < 2) {v : Int32} : pz_pf (cw dA ad B E π τ D) (10 + s) 1 2 (.int v) = some (cw dA ad (u2 B 2 s v) E π τ D) := by
  unfold pz_pf
  rw [cw_S hs]
  show some (pz_up _ _ _) = _
  refine congrArg some (funext fun i => ?_)
  by_cases hi : i = (10 + s)
  · subst hi
    rw [pz_up_s, cw_S hs]
    simp [u2]
  · rw [pz_up_n _ _ hi]
    by_cases hr : 10 ≤ i ∧ i < 12
    · have h9 : ¬ (i - 10 = s) := by omega
      simp [cw, cC, cX, u2, hr, h9]
    · simp [cw, cC, cX, u2, hr]
theorem pf_S3 {s : Nat} (hs : s < 2) {v : Int32} : pz_pf (cw dA ad B E π τ D) (10 + s) 1 3 (.int v) = some (cw dA ad (u2 B 3 s v) E π τ D) := by
  unfold pz_pf
  rw [cw_S hs]
  show some (pz_up _ _ _) = _
  refine congrArg some (funext fun i => ?_)
  by_cases hi : i = (10 + s)
  · subst hi
    rw [pz_up_s, cw_S hs]
    simp [u2]
  · rw [pz_up_n _ _ hi]
    by_cases hr : 10 ≤ i ∧ i < 12
    · have h9 : ¬ (i - 10 = s) := by omega
      simp [cw, cC, cX, u2, hr, h9]
    · simp [cw, cC, cX, u2, hr]
theorem pf_S4 {s : Nat} (hs : s < 2) {v : Int32} : pz_pf (cw dA ad B E π τ D) (10 + s) 1 4 (.int v) = some (cw dA ad (u2 B 4 s v) E π τ D) := by
  unfold pz_pf
  rw [cw_S hs]
  show some (pz_up _ _ _) = _
  refine congrArg some (funext fun i => ?_)
  by_cases hi : i = (10 + s)
  · subst hi
    rw [pz_up_s, cw_S hs]
    simp [u2]
  · rw [pz_up_n _ _ hi]
    by_cases hr : 10 ≤ i ∧ i < 12
    · have h9 : ¬ (i - 10 = s) := by omega
      simp [cw, cC, cX, u2, hr, h9]
    · simp [cw, cC, cX, u2, hr]
theorem pf_S5 {s : Nat} (hs : s < 2) {v : Int32} : pz_pf (cw dA ad B E π τ D) (10 + s) 1 5 (.int v) = some (cw dA ad (u2 B 5 s v) E π τ D) := by
  unfold pz_pf
  rw [cw_S hs]
  show some (pz_up _ _ _) = _
  refine congrArg some (funext fun i => ?_)
  by_cases hi : i = (10 + s)
  · subst hi
    rw [pz_up_s, cw_S hs]
    simp [u2]
  · rw [pz_up_n _ _ hi]
    by_cases hr : 10 ≤ i ∧ i < 12
    · have h9 : ¬ (i - 10 = s) := by omega
      simp [cw, cC, cX, u2, hr, h9]
    · simp [cw, cC, cX, u2, hr]
theorem pf_S6 {s : Nat} (hs : s < 2) {v : Int32} : pz_pf (cw dA ad B E π τ D) (10 + s) 1 6 (.int v) = some (cw dA ad (u2 B 6 s v) E π τ D) := by
  unfold pz_pf
  rw [cw_S hs]
  show some (pz_up _ _ _) = _
  refine congrArg some (funext fun i => ?_)
  by_cases hi : i = (10 + s)
  · subst hi
    rw [pz_up_s, cw_S hs]
    simp [u2]
  · rw [pz_up_n _ _ hi]
    by_cases hr : 10 ≤ i ∧ i < 12
    · have h9 : ¬ (i - 10 = s) := by omega
      simp [cw, cC, cX, u2, hr, h9]
    · simp [cw, cC, cX, u2, hr]
theorem pf_C0 {s : Nat} (hs : s < 5) {v : Int32} : pz_pf (cw dA ad B E π τ D) (20 + s) 3 0 (.int v) = some (cw dA ad (u2 B 15 s v) E π τ D) := by
  unfold pz_pf
  rw [cw_C hs]
  show some (pz_up _ _ _) = _
  refine congrArg some (funext fun i => ?_)
  by_cases hi : i = (20 + s)
  · subst hi
    rw [pz_up_s, cw_C hs]
    simp [u2]
  · rw [pz_up_n _ _ hi]
    by_cases hr : 20 ≤ i ∧ i < 25
    · have h9 : ¬ (i - 20 = s) := by omega
      simp [cw, cC, cX, u2, hr, h9]
    · simp [cw, cC, cX, u2, hr]
theorem pf_C1 {s : Nat} (hs : s < 5) {v : Int32} : pz_pf (cw dA ad B E π τ D) (20 + s) 3 1 (.int v) = some (cw dA ad (u2 B 16 s v) E π τ D) := by
  unfold pz_pf
  rw [cw_C hs]
  show some (pz_up _ _ _) = _
  refine congrArg some (funext fun i => ?_)
  by_cases hi : i = (20 + s)
  · subst hi
    rw [pz_up_s, cw_C hs]
    simp [u2]
  · rw [pz_up_n _ _ hi]
    by_cases hr : 20 ≤ i ∧ i < 25
    · have h9 : ¬ (i - 20 = s) := by omega
      simp [cw, cC, cX, u2, hr, h9]
    · simp [cw, cC, cX, u2, hr]
theorem pf_C2 {s : Nat} (hs : s < 5) {v : Int32} : pz_pf (cw dA ad B E π τ D) (20 + s) 3 2 (.int v) = some (cw dA ad (u2 B 17 s v) E π τ D) := by
  unfold pz_pf
  rw [cw_C hs]
  show some (pz_up _ _ _) = _
  refine congrArg some (funext fun i => ?_)
  by_cases hi : i = (20 + s)
  · subst hi
    rw [pz_up_s, cw_C hs]
    simp [u2]
  · rw [pz_up_n _ _ hi]
    by_cases hr : 20 ≤ i ∧ i < 25
    · have h9 : ¬ (i - 20 = s) := by omega
      simp [cw, cC, cX, u2, hr, h9]
    · simp [cw, cC, cX, u2, hr]
theorem pf_C3 {s : Nat} (hs : s < 5) {v : Int32} : pz_pf (cw dA ad B E π τ D) (20 + s) 3 3 (.int v) = some (cw dA ad (u2 B 18 s v) E π τ D) := by
  unfold pz_pf
  rw [cw_C hs]
  show some (pz_up _ _ _) = _
  refine congrArg some (funext fun i => ?_)
  by_cases hi : i = (20 + s)
  · subst hi
    rw [pz_up_s, cw_C hs]
    simp [u2]
  · rw [pz_up_n _ _ hi]
    by_cases hr : 20 ≤ i ∧ i < 25
    · have h9 : ¬ (i - 20 = s) := by omega
      simp [cw, cC, cX, u2, hr, h9]
    · simp [cw, cC, cX, u2, hr]
theorem pf_C4 {s : Nat} (hs : s < 5) {v : Int32} : pz_pf (cw dA ad B E π τ D) (20 + s) 3 4 (.int v) = some (cw dA ad B (u2 E 25 s v) π τ D) := by
  unfold pz_pf
  rw [cw_C hs]
  show some (pz_up _ _ _) = _
  refine congrArg some (funext fun i => ?_)
  by_cases hi : i = (20 + s)
  · subst hi
    rw [pz_up_s, cw_C hs]
    simp [u2]
  · rw [pz_up_n _ _ hi]
    by_cases hr : 20 ≤ i ∧ i < 25
    · have h9 : ¬ (i - 20 = s) := by omega
      have h8 : ¬ (60 ≤ i ∧ i < 85) := by omega
      simp [cw, cC, cX, u2, hr, h9, h8]
    · by_cases h8 : 60 ≤ i ∧ i < 85
      · have h7 : ¬ (i - 60 = 25) := by omega
        simp [cw, cC, cX, u2, hr, h8, h7]
      · simp [cw, cC, cX, u2, hr, h8]
theorem pf_R0 {s : Nat} (hs : s < 12) {v : Int32} : pz_pf (cw dA ad B E π τ D) (30 + s) 2 0 (.int v) = some (cw dA ad (u2 B 7 s v) E π τ D) := by
  unfold pz_pf
  rw [cw_R hs]
  show some (pz_up _ _ _) = _
  refine congrArg some (funext fun i => ?_)
  by_cases hi : i = (30 + s)
  · subst hi
    rw [pz_up_s, cw_R hs]
    simp [u2]
  · rw [pz_up_n _ _ hi]
    by_cases hr : 30 ≤ i ∧ i < 42
    · have h9 : ¬ (i - 30 = s) := by omega
      simp [cw, cC, cX, u2, hr, h9]
    · simp [cw, cC, cX, u2, hr]
theorem pf_R1 {s : Nat} (hs : s < 12) {v : Int32} : pz_pf (cw dA ad B E π τ D) (30 + s) 2 1 (.int v) = some (cw dA ad (u2 B 8 s v) E π τ D) := by
  unfold pz_pf
  rw [cw_R hs]
  show some (pz_up _ _ _) = _
  refine congrArg some (funext fun i => ?_)
  by_cases hi : i = (30 + s)
  · subst hi
    rw [pz_up_s, cw_R hs]
    simp [u2]
  · rw [pz_up_n _ _ hi]
    by_cases hr : 30 ≤ i ∧ i < 42
    · have h9 : ¬ (i - 30 = s) := by omega
      simp [cw, cC, cX, u2, hr, h9]
    · simp [cw, cC, cX, u2, hr]
theorem pf_R2 {s : Nat} (hs : s < 12) {v : Int32} : pz_pf (cw dA ad B E π τ D) (30 + s) 2 2 (.int v) = some (cw dA ad (u2 B 9 s v) E π τ D) := by
  unfold pz_pf
  rw [cw_R hs]
  show some (pz_up _ _ _) = _
  refine congrArg some (funext fun i => ?_)
  by_cases hi : i = (30 + s)
  · subst hi
    rw [pz_up_s, cw_R hs]
    simp [u2]
  · rw [pz_up_n _ _ hi]
    by_cases hr : 30 ≤ i ∧ i < 42
    · have h9 : ¬ (i - 30 = s) := by omega
      simp [cw, cC, cX, u2, hr, h9]
    · simp [cw, cC, cX, u2, hr]
theorem pf_R3 {s : Nat} (hs : s < 12) {v : Int32} : pz_pf (cw dA ad B E π τ D) (30 + s) 2 3 (.int v) = some (cw dA ad (u2 B 10 s v) E π τ D) := by
  unfold pz_pf
  rw [cw_R hs]
  show some (pz_up _ _ _) = _
  refine congrArg some (funext fun i => ?_)
  by_cases hi : i = (30 + s)
  · subst hi
    rw [pz_up_s, cw_R hs]
    simp [u2]
  · rw [pz_up_n _ _ hi]
    by_cases hr : 30 ≤ i ∧ i < 42
    · have h9 : ¬ (i - 30 = s) := by omega
      simp [cw, cC, cX, u2, hr, h9]
    · simp [cw, cC, cX, u2, hr]
theorem pf_R4 {s : Nat} (hs : s < 12) {v : Int32} : pz_pf (cw dA ad B E π τ D) (30 + s) 2 4 (.int v) = some (cw dA ad (u2 B 11 s v) E π τ D) := by
  unfold pz_pf
  rw [cw_R hs]
  show some (pz_up _ _ _) = _
  refine congrArg some (funext fun i => ?_)
  by_cases hi : i = (30 + s)
  · subst hi
    rw [pz_up_s, cw_R hs]
    simp [u2]
  · rw [pz_up_n _ _ hi]
    by_cases hr : 30 ≤ i ∧ i < 42
    · have h9 : ¬ (i - 30 = s) := by omega
      simp [cw, cC, cX, u2, hr, h9]
    · simp [cw, cC, cX, u2, hr]
theorem pf_R5 {s : Nat} (hs : s < 12) {v : Int32} : pz_pf (cw dA ad B E π τ D) (30 + s) 2 5 (.int v) = some (cw dA ad (u2 B 12 s v) E π τ D) := by
  unfold pz_pf
  rw [cw_R hs]
  show some (pz_up _ _ _) = _
  refine congrArg some (funext fun i => ?_)
  by_cases hi : i = (30 + s)
  · subst hi
    rw [pz_up_s, cw_R hs]
    simp [u2]
  · rw [pz_up_n _ _ hi]
    by_cases hr : 30 ≤ i ∧ i < 42
    · have h9 : ¬ (i - 30 = s) := by omega
      simp [cw, cC, cX, u2, hr, h9]
    · simp [cw, cC, cX, u2, hr]
theorem pf_R6 {s : Nat} (hs : s < 12) {v : Int32} : pz_pf (cw dA ad B E π τ D) (30 + s) 2 6 (.int v) = some (cw dA ad (u2 B 13 s v) E π τ D) := by
  unfold pz_pf
  rw [cw_R hs]
  show some (pz_up _ _ _) = _
  refine congrArg some (funext fun i => ?_)
  by_cases hi : i = (30 + s)
  · subst hi
    rw [pz_up_s, cw_R hs]
    simp [u2]
  · rw [pz_up_n _ _ hi]
    by_cases hr : 30 ≤ i ∧ i < 42
    · have h9 : ¬ (i - 30 = s) := by omega
      simp [cw, cC, cX, u2, hr, h9]
    · simp [cw, cC, cX, u2, hr]
theorem pf_R7 {s : Nat} (hs : s < 12) {v : Int32} : pz_pf (cw dA ad B E π τ D) (30 + s) 2 7 (.int v) = some (cw dA ad (u2 B 14 s v) E π τ D) := by
  unfold pz_pf
  rw [cw_R hs]
  show some (pz_up _ _ _) = _
  refine congrArg some (funext fun i => ?_)
  by_cases hi : i = (30 + s)
  · subst hi
    rw [pz_up_s, cw_R hs]
    simp [u2]
  · rw [pz_up_n _ _ hi]
    by_cases hr : 30 ≤ i ∧ i < 42
    · have h9 : ¬ (i - 30 = s) := by omega
      simp [cw, cC, cX, u2, hr, h9]
    · simp [cw, cC, cX, u2, hr]
theorem pf_M0 {s : Nat} (hs : s < 25) {v : Int32} : pz_pf (cw dA ad B E π τ D) (60 + s) 5 0 (.int v) = some (cw dA ad B (u2 E s 0 v) π τ D) := by
  unfold pz_pf
  rw [cw_M hs]
  show some (pz_up _ _ _) = _
  refine congrArg some (funext fun i => ?_)
  by_cases hi : i = (60 + s)
  · subst hi
    rw [pz_up_s, cw_M hs]
    simp [u2]
  · rw [pz_up_n _ _ hi]
    have h8 : ¬ (25 = s) := by omega
    by_cases hr : 60 ≤ i ∧ i < 85
    · have h9 : ¬ (i - 60 = s) := by omega
      simp [cw, cC, cX, u2, hr, h8, h9]
    · simp [cw, cC, cX, u2, hr, h8]
theorem pf_M1 {s : Nat} (hs : s < 25) {v : Int32} : pz_pf (cw dA ad B E π τ D) (60 + s) 5 1 (.int v) = some (cw dA ad B (u2 E s 1 v) π τ D) := by
  unfold pz_pf
  rw [cw_M hs]
  show some (pz_up _ _ _) = _
  refine congrArg some (funext fun i => ?_)
  by_cases hi : i = (60 + s)
  · subst hi
    rw [pz_up_s, cw_M hs]
    simp [u2]
  · rw [pz_up_n _ _ hi]
    have h8 : ¬ (25 = s) := by omega
    by_cases hr : 60 ≤ i ∧ i < 85
    · have h9 : ¬ (i - 60 = s) := by omega
      simp [cw, cC, cX, u2, hr, h8, h9]
    · simp [cw, cC, cX, u2, hr, h8]
theorem pf_M2 {s : Nat} (hs : s < 25) {v : Int32} : pz_pf (cw dA ad B E π τ D) (60 + s) 5 2 (.int v) = some (cw dA ad B (u2 E s 2 v) π τ D) := by
  unfold pz_pf
  rw [cw_M hs]
  show some (pz_up _ _ _) = _
  refine congrArg some (funext fun i => ?_)
  by_cases hi : i = (60 + s)
  · subst hi
    rw [pz_up_s, cw_M hs]
    simp [u2]
  · rw [pz_up_n _ _ hi]
    have h8 : ¬ (25 = s) := by omega
    by_cases hr : 60 ≤ i ∧ i < 85
    · have h9 : ¬ (i - 60 = s) := by omega
      simp [cw, cC, cX, u2, hr, h8, h9]
    · simp [cw, cC, cX, u2, hr, h8]
theorem pf_M3 {s : Nat} (hs : s < 25) {v : Int32} : pz_pf (cw dA ad B E π τ D) (60 + s) 5 3 (.int v) = some (cw dA ad B (u2 E s 3 v) π τ D) := by
  unfold pz_pf
  rw [cw_M hs]
  show some (pz_up _ _ _) = _
  refine congrArg some (funext fun i => ?_)
  by_cases hi : i = (60 + s)
  · subst hi
    rw [pz_up_s, cw_M hs]
    simp [u2]
  · rw [pz_up_n _ _ hi]
    have h8 : ¬ (25 = s) := by omega
    by_cases hr : 60 ≤ i ∧ i < 85
    · have h9 : ¬ (i - 60 = s) := by omega
      simp [cw, cC, cX, u2, hr, h8, h9]
    · simp [cw, cC, cX, u2, hr, h8]
theorem pf_M4 {s : Nat} (hs : s < 25) {v : Int32} : pz_pf (cw dA ad B E π τ D) (60 + s) 5 4 (.int v) = some (cw dA ad B (u2 E s 4 v) π τ D) := by
  unfold pz_pf
  rw [cw_M hs]
  show some (pz_up _ _ _) = _
  refine congrArg some (funext fun i => ?_)
  by_cases hi : i = (60 + s)
  · subst hi
    rw [pz_up_s, cw_M hs]
    simp [u2]
  · rw [pz_up_n _ _ hi]
    have h8 : ¬ (25 = s) := by omega
    by_cases hr : 60 ≤ i ∧ i < 85
    · have h9 : ¬ (i - 60 = s) := by omega
      simp [cw, cC, cX, u2, hr, h8, h9]
    · simp [cw, cC, cX, u2, hr, h8]
theorem pf_M5 {s : Nat} (hs : s < 25) {v : Int32} : pz_pf (cw dA ad B E π τ D) (60 + s) 5 5 (.int v) = some (cw dA ad B (u2 E s 5 v) π τ D) := by
  unfold pz_pf
  rw [cw_M hs]
  show some (pz_up _ _ _) = _
  refine congrArg some (funext fun i => ?_)
  by_cases hi : i = (60 + s)
  · subst hi
    rw [pz_up_s, cw_M hs]
    simp [u2]
  · rw [pz_up_n _ _ hi]
    have h8 : ¬ (25 = s) := by omega
    by_cases hr : 60 ≤ i ∧ i < 85
    · have h9 : ¬ (i - 60 = s) := by omega
      simp [cw, cC, cX, u2, hr, h8, h9]
    · simp [cw, cC, cX, u2, hr, h8]
theorem pf_M6 {s : Nat} (hs : s < 25) {v : Int32} : pz_pf (cw dA ad B E π τ D) (60 + s) 5 6 (.int v) = some (cw dA ad B (u2 E s 6 v) π τ D) := by
  unfold pz_pf
  rw [cw_M hs]
  show some (pz_up _ _ _) = _
  refine congrArg some (funext fun i => ?_)
  by_cases hi : i = (60 + s)
  · subst hi
    rw [pz_up_s, cw_M hs]
    simp [u2]
  · rw [pz_up_n _ _ hi]
    have h8 : ¬ (25 = s) := by omega
    by_cases hr : 60 ≤ i ∧ i < 85
    · have h9 : ¬ (i - 60 = s) := by omega
      simp [cw, cC, cX, u2, hr, h8, h9]
    · simp [cw, cC, cX, u2, hr, h8]
theorem pf_M7 {s : Nat} (hs : s < 25) {v : Int32} : pz_pf (cw dA ad B E π τ D) (60 + s) 5 7 (.int v) = some (cw dA ad B (u2 E s 7 v) π τ D) := by
  unfold pz_pf
  rw [cw_M hs]
  show some (pz_up _ _ _) = _
  refine congrArg some (funext fun i => ?_)
  by_cases hi : i = (60 + s)
  · subst hi
    rw [pz_up_s, cw_M hs]
    simp [u2]
  · rw [pz_up_n _ _ hi]
    have h8 : ¬ (25 = s) := by omega
    by_cases hr : 60 ≤ i ∧ i < 85
    · have h9 : ¬ (i - 60 = s) := by omega
      simp [cw, cC, cX, u2, hr, h8, h9]
    · simp [cw, cC, cX, u2, hr, h8]
theorem pf_M8 {s : Nat} (hs : s < 25) {v : Int32} : pz_pf (cw dA ad B E π τ D) (60 + s) 5 8 (.int v) = some (cw dA ad B (u2 E s 8 v) π τ D) := by
  unfold pz_pf
  rw [cw_M hs]
  show some (pz_up _ _ _) = _
  refine congrArg some (funext fun i => ?_)
  by_cases hi : i = (60 + s)
  · subst hi
    rw [pz_up_s, cw_M hs]
    simp [u2]
  · rw [pz_up_n _ _ hi]
    have h8 : ¬ (25 = s) := by omega
    by_cases hr : 60 ≤ i ∧ i < 85
    · have h9 : ¬ (i - 60 = s) := by omega
      simp [cw, cC, cX, u2, hr, h8, h9]
    · simp [cw, cC, cX, u2, hr, h8]
theorem pf_M9 {s : Nat} (hs : s < 25) {v : Int32} : pz_pf (cw dA ad B E π τ D) (60 + s) 5 9 (.int v) = some (cw dA ad B (u2 E s 9 v) π τ D) := by
  unfold pz_pf
  rw [cw_M hs]
  show some (pz_up _ _ _) = _
  refine congrArg some (funext fun i => ?_)
  by_cases hi : i = (60 + s)
  · subst hi
    rw [pz_up_s, cw_M hs]
    simp [u2]
  · rw [pz_up_n _ _ hi]
    have h8 : ¬ (25 = s) := by omega
    by_cases hr : 60 ≤ i ∧ i < 85
    · have h9 : ¬ (i - 60 = s) := by omega
      simp [cw, cC, cX, u2, hr, h8, h9]
    · simp [cw, cC, cX, u2, hr, h8]
theorem pf_M10 {s : Nat} (hs : s < 25) {v : Int32} : pz_pf (cw dA ad B E π τ D) (60 + s) 5 10 (.int v) = some (cw dA ad B (u2 E s 10 v) π τ D) := by
  unfold pz_pf
  rw [cw_M hs]
  show some (pz_up _ _ _) = _
  refine congrArg some (funext fun i => ?_)
  by_cases hi : i = (60 + s)
  · subst hi
    rw [pz_up_s, cw_M hs]
    simp [u2]
  · rw [pz_up_n _ _ hi]
    have h8 : ¬ (25 = s) := by omega
    by_cases hr : 60 ≤ i ∧ i < 85
    · have h9 : ¬ (i - 60 = s) := by omega
      simp [cw, cC, cX, u2, hr, h8, h9]
    · simp [cw, cC, cX, u2, hr, h8]
theorem pf_M11 {s : Nat} (hs : s < 25) {v : Int32} : pz_pf (cw dA ad B E π τ D) (60 + s) 5 11 (.int v) = some (cw dA ad B (u2 E s 11 v) π τ D) := by
  unfold pz_pf
  rw [cw_M hs]
  show some (pz_up _ _ _) = _
  refine congrArg some (funext fun i => ?_)
  by_cases hi : i = (60 + s)
  · subst hi
    rw [pz_up_s, cw_M hs]
    simp [u2]
  · rw [pz_up_n _ _ hi]
    have h8 : ¬ (25 = s) := by omega
    by_cases hr : 60 ≤ i ∧ i < 85
    · have h9 : ¬ (i - 60 = s) := by omega
      simp [cw, cC, cX, u2, hr, h8, h9]
    · simp [cw, cC, cX, u2, hr, h8]
theorem pf_M12 {s : Nat} (hs : s < 25) {v : Int32} : pz_pf (cw dA ad B E π τ D) (60 + s) 5 12 (.int v) = some (cw dA ad B (u2 E s 12 v) π τ D) := by
  unfold pz_pf
  rw [cw_M hs]
  show some (pz_up _ _ _) = _
  refine congrArg some (funext fun i => ?_)
  by_cases hi : i = (60 + s)
  · subst hi
    rw [pz_up_s, cw_M hs]
    simp [u2]
  · rw [pz_up_n _ _ hi]
    have h8 : ¬ (25 = s) := by omega
    by_cases hr : 60 ≤ i ∧ i < 85
    · have h9 : ¬ (i - 60 = s) := by omega
      simp [cw, cC, cX, u2, hr, h8, h9]
    · simp [cw, cC, cX, u2, hr, h8]
theorem pf_M13 {s : Nat} (hs : s < 25) {v : Int32} : pz_pf (cw dA ad B E π τ D) (60 + s) 5 13 (.int v) = some (cw dA ad B (u2 E s 13 v) π τ D) := by
  unfold pz_pf
  rw [cw_M hs]
  show some (pz_up _ _ _) = _
  refine congrArg some (funext fun i => ?_)
  by_cases hi : i = (60 + s)
  · subst hi
    rw [pz_up_s, cw_M hs]
    simp [u2]
  · rw [pz_up_n _ _ hi]
    have h8 : ¬ (25 = s) := by omega
    by_cases hr : 60 ≤ i ∧ i < 85
    · have h9 : ¬ (i - 60 = s) := by omega
      simp [cw, cC, cX, u2, hr, h8, h9]
    · simp [cw, cC, cX, u2, hr, h8]
theorem pf_M14 {s : Nat} (hs : s < 25) {v : Int32} : pz_pf (cw dA ad B E π τ D) (60 + s) 5 14 (.int v) = some (cw dA ad B (u2 E s 14 v) π τ D) := by
  unfold pz_pf
  rw [cw_M hs]
  show some (pz_up _ _ _) = _
  refine congrArg some (funext fun i => ?_)
  by_cases hi : i = (60 + s)
  · subst hi
    rw [pz_up_s, cw_M hs]
    simp [u2]
  · rw [pz_up_n _ _ hi]
    have h8 : ¬ (25 = s) := by omega
    by_cases hr : 60 ≤ i ∧ i < 85
    · have h9 : ¬ (i - 60 = s) := by omega
      simp [cw, cC, cX, u2, hr, h8, h9]
    · simp [cw, cC, cX, u2, hr, h8]
theorem pf_X0 {v : Int32} : pz_pf (cw dA ad B E π τ D) 100 6 0 (.int v) = some (cw dA ad B E π τ (u2 D 0 0 v)) := by
  unfold pz_pf
  rw [cw_X ]
  show some (pz_up _ _ _) = _
  refine congrArg some (funext fun i => ?_)
  by_cases hi : i = 100
  · subst hi
    rw [pz_up_s, cw_X ]
    simp [u2]
  · rw [pz_up_n _ _ hi]
    by_cases hr : i < 100
    · simp [cw, hr]
    · have h9 : i - 100 ≠ 0 := by omega
      simp only [cw, if_neg hr]
      exact (cX_keep h9 (by simp)).symm
theorem pf_X1 {v : Int32} : pz_pf (cw dA ad B E π τ D) 100 6 1 (.int v) = some (cw dA ad B E π τ (u2 D 1 0 v)) := by
  unfold pz_pf
  rw [cw_X ]
  show some (pz_up _ _ _) = _
  refine congrArg some (funext fun i => ?_)
  by_cases hi : i = 100
  · subst hi
    rw [pz_up_s, cw_X ]
    simp [u2]
  · rw [pz_up_n _ _ hi]
    by_cases hr : i < 100
    · simp [cw, hr]
    · have h9 : i - 100 ≠ 0 := by omega
      simp only [cw, if_neg hr]
      exact (cX_keep h9 (by simp)).symm
theorem pf_X20 {v : Int32} : pz_pf (cw dA ad B E π τ D) 100 6 20 (.int v) = some (cw dA ad B E π τ (u2 D 20 0 v)) := by
  unfold pz_pf
  rw [cw_X ]
  show some (pz_up _ _ _) = _
  refine congrArg some (funext fun i => ?_)
  by_cases hi : i = 100
  · subst hi
    rw [pz_up_s, cw_X ]
    simp [u2]
  · rw [pz_up_n _ _ hi]
    by_cases hr : i < 100
    · simp [cw, hr]
    · have h9 : i - 100 ≠ 0 := by omega
      simp only [cw, if_neg hr]
      exact (cX_keep h9 (by simp)).symm
theorem pf_L2 {v : Nat} : pz_pf (cw dA ad B E π τ D) 3 4 2 (.ref (ad (60 + v))) = some (cw dA ad B E π v D) := by
  unfold pz_pf
  rw [cw_L ]
  show some (pz_up _ _ _) = _
  refine congrArg some (funext fun i => ?_)
  by_cases hi : i = 3
  · subst hi
    rw [pz_up_s, cw_L ]
    simp [u2]
  · rw [pz_up_n _ _ hi]
    simp [cw, cC, cX, u2, hi]
end CWS
