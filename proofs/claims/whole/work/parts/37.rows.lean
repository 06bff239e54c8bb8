/-! the class's rows: taking, removing, sending; the reference's mail: removing -/
theorem shf_at : ∀ (t i : Nat) (π : Nat → Nat) (j : Nat), shf t i π j = if i ≤ j ∧ j < i + t then π (j + 1) else π j := by
  intro t
  induction t with
  | zero =>
    intro i π j
    rw [if_neg (by omega)]
    rfl
  | succ t ih =>
    intro i π j
    show shf t (i + 1) (va_up π i (π (i + 1))) j = _
    rw [ih]
    by_cases h : i + 1 ≤ j ∧ j < i + 1 + t
    · rw [if_pos h, if_pos (by omega), va_up_ne _ _ (by omega)]
    · rw [if_neg h]
      by_cases h2 : j = i
      · subst h2
        rw [va_up_self, if_pos (by omega)]
      · rw [va_up_ne _ _ h2, if_neg (by omega)]
theorem pt_at {π : Nat → Nat} {τ n k j : Nat} (hk : k < n + 1) : pt π τ n k j = if j = n then τ else if k ≤ j ∧ j < n then π (j + 1) else π j := by
  unfold pt
  by_cases h : j = n
  · subst h
    rw [va_up_self, if_pos rfl]
  · rw [va_up_ne _ _ h, if_neg h, shf_at]
    by_cases h2 : k ≤ j ∧ j < n
    · rw [if_pos h2, if_pos (by omega)]
    · rw [if_neg h2, if_neg (by omega)]
/-- the rows and the taken one are all apart -/
def PI (π : Nat → Nat) (τ : Nat) : Prop := (∀ j, π j < 25) ∧ τ < 25 ∧ (∀ i j, i < 24 → j < 24 → π i = π j → i = j) ∧ ∀ i, i < 24 → π i ≠ τ
theorem PI.take {π : Nat → Nat} {τ n k : Nat} (h : PI π τ) (hk : k < n + 1) (hn : n + 1 ≤ 24) : PI (pt π τ n k) (π k) := by
  obtain ⟨h1, h2, h3, h4⟩ := h
  have key : ∀ j, j < 24 → (j = n ∧ pt π τ n k j = τ) ∨ (j ≠ n ∧ ∃ q, q < 24 ∧ pt π τ n k j = π q ∧ q ≠ k ∧ (q = j ∨ q = j + 1) ∧ (q = j + 1 ↔ (k ≤ j ∧ j < n))) := by
    intro j hj
    rw [pt_at hk]
    by_cases a : j = n
    · exact Or.inl ⟨a, if_pos a⟩
    · rw [if_neg a]
      by_cases b : k ≤ j ∧ j < n
      · rw [if_pos b]
        exact Or.inr ⟨a, j + 1, by omega, rfl, by omega, Or.inr rfl, by omega⟩
      · rw [if_neg b]
        exact Or.inr ⟨a, j, hj, rfl, by omega, Or.inl rfl, by omega⟩
  refine ⟨?_, h1 k, ?_, ?_⟩
  · intro j
    unfold pt
    exact va_up_lt (shf_lt _ _ _ h1) n h2 j
  · intro i j hi hj e
    rcases key i hi with ⟨a1, a2⟩ | ⟨a1, q, a2, a3, a4, a5, a6⟩ <;> rcases key j hj with ⟨b1, b2⟩ | ⟨b1, p, b2, b3, b4, b5, b6⟩
    · omega
    · rw [a2, b3] at e
      exact absurd e.symm (h4 p b2)
    · rw [a3, b2] at e
      exact absurd e (h4 q a2)
    · rw [a3, b3] at e
      have := h3 q p a2 b2 e
      omega
  · intro i hi e
    rcases key i hi with ⟨a1, a2⟩ | ⟨a1, q, a2, a3, a4, -, -⟩
    · rw [a2] at e
      exact h4 k (by omega) e.symm
    · rw [a3] at e
      exact a4 (h3 q k a2 (by omega) e)
theorem es_pt {E : Nat → Nat → Int32} {π : Nat → Nat} {τ n k : Nat} (hk : k < n + 1) : es E (pt π τ n k) n = (es E π (n + 1)).eraseIdx k := by
  apply List.ext_getElem?
  intro j
  rw [List.getElem?_eraseIdx]
  by_cases hj : j < n
  · rw [es_get hj, pt_at hk, if_neg (show ¬ j = n by omega)]
    by_cases h : j < k
    · rw [if_neg (show ¬ (k ≤ j ∧ j < n) by omega), if_pos h, es_get (by omega)]
    · rw [if_pos (show k ≤ j ∧ j < n by omega), if_neg h, es_get (by omega)]
  · have h1 : (es E (pt π τ n k) n)[j]? = none := List.getElem?_eq_none (by rw [es_len]; omega)
    rw [h1]
    split
    · rename_i h
      omega
    · exact (List.getElem?_eq_none (by rw [es_len]; omega)).symm
/-! sending -/
theorem stm_o {m q : Nat} (h : q ≠ m) : ∀ (l : List (Nat × Int32)) (E : Nat → Nat → Int32), stm E m l q = E q
  | [], _ => rfl
  | x :: l, E => by
    show stm (u2 E m x.1 x.2) m l q = E q
    rw [stm_o h l]
    funext j
    exact u2_k _ _ _ _ h
theorem es_pE {B E : Nat → Nat → Int32} {π : Nat → Nat} {τ n : Nat} {l : List (Nat × Int32)} (h : PI π τ) (hn : n < 24) (hc : B 20 0 = nI n) : es (pE B E π l) π (n + 1) = es E π n ++ [stm E (π n) l (π n)] := by
  rw [pE_lt hn hc, es_s]
  congr 1
  unfold es
  apply List.map_congr_left
  intro k hk
  rw [List.mem_range] at hk
  exact stm_o (fun q => absurd (h.2.2.1 k n (by omega) hn q) (by omega)) l E
/-! marking and removing -/
theorem mrk_o (π : Nat → Nat) (v : (Nat → Nat → Int32) → Nat → Int32) {m j : Nat} (h : j ≠ 14) : ∀ (t i : Nat) (E : Nat → Nat → Int32), mrk π v t i E m j = E m j := by
  intro t
  induction t with
  | zero => intro i E; rfl
  | succ t ih =>
    intro i E
    show mrk π v t (i + 1) (u2 E (π i) 14 (v E (π i))) m j = E m j
    rw [ih]
    exact u2_i _ _ _ _ h
theorem mrk_a {π : Nat → Nat} {v : (Nat → Nat → Int32) → Nat → Int32} {n : Nat} (hπ : ∀ i j, i < n → j < n → π i = π j → i = j) (hv : ∀ (E E' : Nat → Nat → Int32) m, (∀ j, j ≠ 14 → E m j = E' m j) → v E m = v E' m) : ∀ (t i : Nat) (E : Nat → Nat → Int32) (k : Nat), i + t = n → k < n → mrk π v t i E (π k) 14 = if i ≤ k then v E (π k) else E (π k) 14 := by
  intro t
  induction t with
  | zero =>
    intro i E k h hk
    rw [if_neg (by omega)]
    rfl
  | succ t ih =>
    intro i E k h hk
    show mrk π v t (i + 1) (u2 E (π i) 14 (v E (π i))) (π k) 14 = _
    rw [ih (i + 1) _ k (by omega) hk]
    by_cases h1 : i + 1 ≤ k
    · rw [if_pos h1, if_pos (by omega)]
      exact hv _ _ _ (fun j hj => u2_i _ _ _ _ hj)
    · rw [if_neg h1]
      by_cases h2 : k = i
      · subst h2
        rw [u2_s, if_pos (by omega)]
      · rw [if_neg (by omega)]
        exact u2_k _ _ _ _ (fun q => h2 (hπ k i hk (by omega) q))
theorem swp_at (π : Nat → Nat) (i j a : Nat) : swp π i j a = if a = j then π i else if a = i then π j else π a := by
  unfold swp
  by_cases h : a = j
  · subst h
    rw [va_up_self, if_pos rfl]
  · rw [va_up_ne _ _ h, if_neg h]
    by_cases h2 : a = i
    · subst h2
      rw [va_up_self, if_pos rfl]
    · rw [va_up_ne _ _ h2, if_neg h2]
theorem PI.swap {π : Nat → Nat} {τ i j : Nat} (h : PI π τ) (hi : i < 24) (hj : j < 24) : PI (swp π i j) τ := by
  obtain ⟨h1, h2, h3, h4⟩ := h
  have key : ∀ a, a < 24 → ∃ q, q < 24 ∧ swp π i j a = π q ∧ ((a = j ∧ q = i) ∨ (a ≠ j ∧ a = i ∧ q = j) ∨ (a ≠ j ∧ a ≠ i ∧ q = a)) := by
    intro a ha
    rw [swp_at]
    by_cases c : a = j
    · exact ⟨i, hi, if_pos c, Or.inl ⟨c, rfl⟩⟩
    · rw [if_neg c]
      by_cases e : a = i
      · exact ⟨j, hj, if_pos e, Or.inr (Or.inl ⟨c, e, rfl⟩)⟩
      · exact ⟨a, ha, if_neg e, Or.inr (Or.inr ⟨c, e, rfl⟩)⟩
  refine ⟨swp_lt h1 i j, h2, ?_, ?_⟩
  · intro a b ha hb e
    obtain ⟨q, q1, q2, q3⟩ := key a ha
    obtain ⟨p, p1, p2, p3⟩ := key b hb
    rw [q2, p2] at e
    have := h3 q p q1 p1 e
    omega
  · intro a ha e
    obtain ⟨q, q1, q2, -⟩ := key a ha
    rw [q2] at e
    exact h4 q q1 e
/-- the rows from i on -/
def esF (E : Nat → Nat → Int32) (π : Nat → Nat) (i t : Nat) : List (Nat → Int32) := (List.range t).map (fun k => E (π (i + k)))
theorem esF_s (E : Nat → Nat → Int32) (π : Nat → Nat) (i t : Nat) : esF E π i (t + 1) = E (π i) :: esF E π (i + 1) t := by
  unfold esF
  rw [List.range_succ_eq_map]
  simp only [List.map_cons, List.map_map, Nat.add_zero]
  congr 1
  apply List.map_congr_left
  intro k _
  simp only [Function.comp]
  congr 2
  omega
theorem rmv_a {E : Nat → Nat → Int32} {τ n : Nat} (hn : n ≤ 24) : ∀ (t i kp : Nat) (π : Nat → Nat), i + t = n → kp ≤ i → PI π τ → PI (rmv E t i kp π).1 τ ∧ (rmv E t i kp π).2 ≤ n ∧ es E (rmv E t i kp π).1 (rmv E t i kp π).2 = es E π kp ++ (esF E π i t).filter (fun e => decide (e 14 = 0)) := by
  intro t
  induction t with
  | zero =>
    intro i kp π h1 h2 h3
    exact ⟨h3, by show kp ≤ n; omega, by show es E π kp = _; simp [esF]⟩
  | succ t ih =>
    intro i kp π h1 h2 h3
    rw [esF_s]
    by_cases h : E (π i) 14 = 0
    · have e1 : rmv E (t + 1) i kp π = rmv E t (i + 1) (kp + 1) (swp π kp i) := by
        show (if E (π i) 14 = 0 then _ else _) = _
        rw [if_pos h]
      rw [e1]
      obtain ⟨a1, a2, a3⟩ := ih (i + 1) (kp + 1) (swp π kp i) (by omega) (by omega) (h3.swap (by omega) (by omega))
      refine ⟨a1, a2, ?_⟩
      rw [a3, es_s]
      have b1 : es E (swp π kp i) kp = es E π kp := by
        unfold es
        apply List.map_congr_left
        intro k hk
        rw [List.mem_range] at hk
        rw [swp_at, if_neg (by omega), if_neg (by omega)]
      have b2 : swp π kp i kp = π i := by
        rw [swp_at]
        by_cases c : kp = i
        · rw [if_pos c, c]
        · rw [if_neg c, if_pos rfl]
      have b3 : esF E (swp π kp i) (i + 1) t = esF E π (i + 1) t := by
        unfold esF
        apply List.map_congr_left
        intro k _
        rw [swp_at, if_neg (by omega), if_neg (by omega)]
      rw [b1, b2, b3]
      simp [List.filter_cons, h]
    · have e1 : rmv E (t + 1) i kp π = rmv E t (i + 1) kp π := by
        show (if E (π i) 14 = 0 then _ else _) = _
        rw [if_neg h]
      rw [e1]
      obtain ⟨a1, a2, a3⟩ := ih (i + 1) kp π (by omega) (by omega) h3
      refine ⟨a1, a2, ?_⟩
      rw [a3]
      simp [List.filter_cons, h]
theorem rmv_w {E : Nat → Nat → Int32} {π : Nat → Nat} {τ n : Nat} (hn : n ≤ 24) (h : PI π τ) : PI (rmv E n 0 0 π).1 τ ∧ (rmv E n 0 0 π).2 ≤ n ∧ es E (rmv E n 0 0 π).1 (rmv E n 0 0 π).2 = (es E π n).filter (fun e => decide (e 14 = 0)) := by
  obtain ⟨a1, a2, a3⟩ := rmv_a (E := E) hn n 0 0 π (by omega) (Nat.le_refl 0) h
  refine ⟨a1, a2, a3.trans ?_⟩
  have e : esF E π 0 n = es E π n := by
    unfold esF es
    simp
  rw [e]
  simp [es]
/-! the reference's mail, from above -/
theorem flX_w {c : (Nat → Nat → Int32) → Nat → Bool} {p : (Nat → Int32) → Bool} (t0 : Int32) (hcp : ∀ D m, D 0 0 = t0 → c D m = p (ml D m)) : ∀ (m : Nat) (D : Nat → Nat → Int32) (n : Nat), m ≤ n → n ≤ 24 → D 20 0 = nI n → D 0 0 = t0 → ∃ n', n' ≤ n ∧ flX c m D 20 0 = nI n' ∧ mls (flX c m D) n' = ((mls D n).take m).filter (fun x => !p x) ++ (mls D n).drop m := by
  intro m
  induction m with
  | zero =>
    intro D n h1 h2 h3 h4
    exact ⟨n, Nat.le_refl n, h3, by simp [flX]⟩
  | succ m ih =>
    intro D n h1 h2 h3 h4
    have h9 : (D 20 0).toNatClampNeg = n := by rw [h3, nI_clamp (by omega)]
    have hg : (mls D n)[m]? = some (ml D m) := mls_get (by omega)
    have hl : m < (mls D n).length := by rw [mls_len]; omega
    have htk : (mls D n).take (m + 1) = (mls D n).take m ++ [ml D m] := by
      rw [List.take_add_one, hg]
      rfl
    have hdr : (mls D n).drop m = ml D m :: (mls D n).drop (m + 1) := by
      have e := List.drop_eq_getElem_cons hl
      rw [e]
      congr 1
      have := (List.getElem?_eq_some_iff.mp hg).2
      exact this
    unfold flX
    by_cases hc : c D m = true
    · rw [if_pos hc, h9]
      obtain ⟨n', a1, a2, a3⟩ := ih (oX D (n - 1) m) (n - 1) (by omega) (by omega) oX_20 (by rw [oX_k (by decide)]; exact h4)
      refine ⟨n', by omega, a2, ?_⟩
      rw [a3]
      have e1 : mls (oX D (n - 1) m) (n - 1) = (mls D n).eraseIdx m := by
        have := mls_oX (D := D) (n := n - 1) (k := m) (by omega)
        rw [this]
        congr 2
        omega
      rw [e1, htk, List.filter_append]
      have hp : p (ml D m) = true := by rw [← hcp D m h4]; exact hc
      have e2 : ((mls D n).eraseIdx m).take m = (mls D n).take m := by
        rw [List.eraseIdx_eq_take_drop_succ, List.take_append_of_le_length (by rw [List.length_take]; omega), List.take_take]
        simp
      have e3 : ((mls D n).eraseIdx m).drop m = (mls D n).drop (m + 1) := by
        rw [List.eraseIdx_eq_take_drop_succ, List.drop_append_of_le_length (by rw [List.length_take]; omega)]
        have : ((mls D n).take m).drop m = [] := List.drop_eq_nil_of_le (by rw [List.length_take]; omega)
        rw [this]
        rfl
      rw [e2, e3]
      simp [hp]
    · rw [if_neg hc]
      obtain ⟨n', a1, a2, a3⟩ := ih D n (by omega) h2 h3 h4
      refine ⟨n', a1, a2, ?_⟩
      have hp : p (ml D m) = false := by rw [← hcp D m h4]; simpa using hc
      rw [a3, htk, List.filter_append, hdr]
      simp [hp]
