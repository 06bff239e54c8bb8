/-! the first world as the machine's world -/
theorem iw_gap : ∀ i, i < 124 → 73 ≤ iw_pos i → (4 < i ∧ i < 10) ∨ (13 < i ∧ i < 20) ∨ (24 < i ∧ i < 30) ∨ (41 < i ∧ i < 60) ∨ (84 < i ∧ i < 100) ∨ i = 101 ∨ i = 120 := by decide +kernel
theorem iw_gap2 {i : Nat} (h : 73 ≤ iw_pos i) : (4 < i ∧ i < 10) ∨ (13 < i ∧ i < 20) ∨ (24 < i ∧ i < 30) ∨ (41 < i ∧ i < 60) ∨ (84 < i ∧ i < 100) ∨ i = 101 ∨ i = 120 ∨ 124 ≤ i := by
  rcases Nat.lt_or_ge i 124 with h1 | h1
  · have := iw_gap i h1 h
    omega
  · omega
theorem cw_none {dA ad : Nat → Nat} {B E : Nat → Nat → Int32} {π : Nat → Nat} {τ : Nat} {D : Nat → Nat → Int32} {i : Nat} (h : 73 ≤ iw_pos i) : cw dA ad B E π τ D i = none := by
  have g := iw_gap2 h
  unfold cw
  by_cases h1 : i < 100
  · rw [if_pos h1]
    unfold cC
    rw [if_neg (by omega), if_neg (by omega), if_neg (by omega), if_neg (by omega), if_neg (by omega), if_neg (by omega), if_neg (by omega), if_neg (by omega), if_neg (by omega), if_neg (by omega)]
  · rw [if_neg h1]
    unfold cX
    rw [if_neg (by omega), if_neg (by omega)]
theorem cw_some {dA ad : Nat → Nat} {B E : Nat → Nat → Int32} {π : Nat → Nat} {τ : Nat} {D : Nat → Nat → Int32} {i : Nat} {e : va_E} (h : cw dA ad B E π τ D i = some e) : iw_pos i < 73 := by
  rcases Nat.lt_or_ge (iw_pos i) 73 with h1 | h1
  · exact h1
  · rw [cw_none h1] at h
    cases h
theorem iw_len : (ci_cP ++ ci_cX).length = 73 := by decide +kernel
section IW2
variable {A : Nat → Prop} {dA dC : Nat → ClassId} {dI : Nat → Nat → Nat} {as : List Nat} {H : Heap}
theorem iw_cell {k : Nat} (hk : k < 73) : (ci_cP ++ ci_cX)[k]? = some ((ci_cP ++ ci_cX).getD k (.inl (0, []))) := by
  have h := iw_len
  rw [List.getD_eq_getElem?_getD, List.getElem?_eq_getElem (by omega)]
  rfl
theorem iw_dis (h : ci_W A dA dC dI as (ci_cP ++ ci_cX) H) (i j : Nat) (hi : i < 73) (hj : j < 73) (he : as.getD i 0 = as.getD j 0) : i = j :=
  h.2.2.1 i j _ _ (ci_w_at (iw_cell hi)) (ci_w_at (iw_cell hj)) he
theorem iw_al (h : ci_W A dA dC dI as (ci_cP ++ ci_cX) H) : as.length = 73 := by
  rw [h.1, iw_len]
theorem iw_get {k : Nat} (hk : k < as.length) : as.getD k 0 = as[k] := by
  rw [List.getD_eq_getElem?_getD, List.getElem?_eq_getElem hk]
  rfl
theorem iw_lt (h : ci_W A dA dC dI as (ci_cP ++ ci_cX) H) (a : Nat) (ha : a ∈ as) : a < H.size := by
  obtain ⟨k, hk, rfl⟩ := List.getElem_of_mem ha
  have hk2 : k < 73 := by rw [← iw_al h]; exact hk
  have h1 := (h.2.1 k _ (ci_w_at (iw_cell hk2))).lt
  rw [iw_get hk] at h1
  exact h1
theorem iw_A (h : ci_W A dA dC dI as (ci_cP ++ ci_cX) H) (i : Nat) : iw_ix as H.size (iw_ad as H.size i) = i := iw_hA (iw_al h) (iw_dis h) (iw_lt h) i
theorem iw_ixk (h : ci_W A dA dC dI as (ci_cP ++ ci_cX) H) {k : Nat} (hk : k < 73) : iw_ix as H.size (as.getD k 0) = iw_id k := by
  have e : as.getD k 0 = iw_ad as H.size (iw_id k) := by
    unfold iw_ad
    rw [iw_pi k hk, if_pos hk]
  rw [e, iw_A h]
theorem iw_W (h : ci_W A dA dC dI as (ci_cP ++ ci_cX) H) : pz_W dC dI as (pz_wf (iw_ad as H.size) (iw_ix as H.size) (cw dA (iw_ad as H.size) iD iE iπ 24 iD)) H := by
  refine ⟨fun a => (cw dA (iw_ad as H.size) iD iE iπ 24 iD (iw_ix as H.size a)).getD (.inr (0, [])), fun a e he => ?_, fun k q hq => ?_, ⟨fun i j p q hi hj he => ?_, fun k q hq => ?_⟩⟩
  · unfold pz_wf at he
    by_cases h1 : iw_ad as H.size (iw_ix as H.size a) = a
    · rw [if_pos h1] at he
      have h2 := cw_some he
      refine ⟨?_, by dsimp only; rw [he]; rfl⟩
      rw [← h1]
      unfold iw_ad
      rw [if_pos h2, iw_get (by rw [iw_al h]; exact h2)]
      exact List.getElem_mem _
    · rw [if_neg h1] at he
      cases he
  · unfold va_pl at hq
    rw [List.getElem?_map] at hq
    cases ha : as[k]? with
    | none => rw [ha] at hq; cases hq
    | some a =>
      rw [ha] at hq
      cases hq
      have hk : k < 73 := by rw [← iw_al h]; exact (List.getElem?_eq_some_iff.mp ha).1
      have ea : as.getD k 0 = a := by rw [List.getD_eq_getElem?_getD, ha]; rfl
      have h1 := h.2.1 k _ (ci_w_at (iw_cell hk))
      rw [ea] at h1
      obtain ⟨e, he, hv⟩ := iw_call (M := H.size) k hk h1
      rw [← iw_ixk h hk, ea] at he
      show va_at (dC, dI) pz_cs (a, (cw dA (iw_ad as H.size) iD iE iπ 24 iD (iw_ix as H.size a)).getD (.inr (0, []))) H
      rw [he]
      exact hv
  · unfold va_pl at hi hj
    rw [List.getElem?_map] at hi hj
    cases ha : as[i]? with
    | none => rw [ha] at hi; cases hi
    | some a =>
      cases hb : as[j]? with
      | none => rw [hb] at hj; cases hj
      | some b =>
        rw [ha] at hi
        rw [hb] at hj
        cases hi
        cases hj
        have h1 : i < 73 := by rw [← iw_al h]; exact (List.getElem?_eq_some_iff.mp ha).1
        have h2 : j < 73 := by rw [← iw_al h]; exact (List.getElem?_eq_some_iff.mp hb).1
        refine iw_dis h i j h1 h2 ?_
        rw [List.getD_eq_getElem?_getD, ha, List.getD_eq_getElem?_getD, hb]
        exact he
  · unfold va_pl at hq
    rw [List.getElem?_map] at hq
    cases ha : as[k]? with
    | none => rw [ha] at hq; cases hq
    | some a =>
      rw [ha] at hq
      cases hq
      exact List.mem_of_getElem? ha
end IW2
