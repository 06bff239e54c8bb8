/-! lists side by side; rows and mail as lists -/
def fa2 {α β : Type} (R : α → β → Prop) : List α → List β → Prop
  | [], [] => True
  | a :: l, b :: m => R a b ∧ fa2 R l m
  | _, _ => False
theorem fa2_len {α β : Type} {R : α → β → Prop} : ∀ {l : List α} {m : List β}, fa2 R l m → l.length = m.length
  | [], [], _ => rfl
  | a :: l, b :: m, h => by simp [fa2_len h.2]
  | [], _ :: _, h => h.elim
  | _ :: _, [], h => h.elim
theorem fa2_app {α β : Type} {R : α → β → Prop} : ∀ {l : List α} {m : List β} {a : α} {b : β}, fa2 R l m → R a b → fa2 R (l ++ [a]) (m ++ [b])
  | [], [], _, _, _, hr => ⟨hr, trivial⟩
  | _ :: _, _ :: _, _, _, h, hr => ⟨h.1, fa2_app h.2 hr⟩
  | [], _ :: _, _, _, h, _ => h.elim
  | _ :: _, [], _, _, h, _ => h.elim
theorem fa2_get {α β : Type} {R : α → β → Prop} : ∀ {l : List α} {m : List β} {k : Nat} {a : α} {b : β}, fa2 R l m → l[k]? = some a → m[k]? = some b → R a b
  | _ :: _, _ :: _, 0, _, _, h, h1, h2 => by
    simp only [List.getElem?_cons_zero, Option.some.injEq] at h1 h2
    rw [← h1, ← h2]
    exact h.1
  | _ :: _, _ :: _, k + 1, _, _, h, h1, h2 => by
    rw [List.getElem?_cons_succ] at h1 h2
    exact fa2_get h.2 h1 h2
  | [], [], _, _, _, _, h1, _ => by simp at h1
  | [], _ :: _, _, _, _, h, _, _ => h.elim
  | _ :: _, [], _, _, _, h, _, _ => h.elim
theorem fa2_era {α β : Type} {R : α → β → Prop} : ∀ {l : List α} {m : List β} (k : Nat), fa2 R l m → fa2 R (l.eraseIdx k) (m.eraseIdx k)
  | [], [], _, _ => trivial
  | _ :: _, _ :: _, 0, h => h.2
  | _ :: _, _ :: _, k + 1, h => ⟨h.1, fa2_era k h.2⟩
  | [], _ :: _, _, h => h.elim
  | _ :: _, [], _, h => h.elim
theorem fa2_fil {α β : Type} {R : α → β → Prop} {p : α → Bool} {q : β → Bool} (hpq : ∀ a b, R a b → p a = q b) : ∀ {l : List α} {m : List β}, fa2 R l m → fa2 R (l.filter p) (m.filter q)
  | [], [], _ => trivial
  | a :: l, b :: m, h => by
    have e := hpq a b h.1
    have ih := fa2_fil hpq h.2
    simp only [List.filter_cons, e]
    split
    · exact ⟨h.1, ih⟩
    · exact ih
  | [], _ :: _, h => h.elim
  | _ :: _, [], h => h.elim
theorem fa2_imp {α β : Type} {R S : α → β → Prop} (hrs : ∀ a b, R a b → S a b) : ∀ {l : List α} {m : List β}, fa2 R l m → fa2 S l m
  | [], [], _ => trivial
  | _ :: _, _ :: _, h => ⟨hrs _ _ h.1, fa2_imp hrs h.2⟩
  | [], _ :: _, h => h.elim
  | _ :: _, [], h => h.elim
theorem fa2_map {α β γ : Type} {R : α → β → Prop} {S : γ → β → Prop} {f : α → γ} (hrs : ∀ a b, R a b → S (f a) b) : ∀ {l : List α} {m : List β}, fa2 R l m → fa2 S (l.map f) m
  | [], [], _ => trivial
  | _ :: _, _ :: _, h => ⟨hrs _ _ h.1, fa2_map hrs h.2⟩
  | [], _ :: _, h => h.elim
  | _ :: _, [], h => h.elim
/-- the mail of the reference, the rows of the class -/
def ml (D : Nat → Nat → Int32) (k : Nat) : Nat → Int32 := fun j => if j < 12 then D 21 (12 * k + j) else 0
def mls (D : Nat → Nat → Int32) (n : Nat) : List (Nat → Int32) := (List.range n).map (ml D)
def es (E : Nat → Nat → Int32) (π : Nat → Nat) (n : Nat) : List (Nat → Int32) := (List.range n).map (fun k => E (π k))
theorem mls_get {D : Nat → Nat → Int32} {n k : Nat} (h : k < n) : (mls D n)[k]? = some (ml D k) := by
  simp [mls, h]
theorem es_get {E : Nat → Nat → Int32} {π : Nat → Nat} {n k : Nat} (h : k < n) : (es E π n)[k]? = some (E (π k)) := by
  simp [es, h]
theorem mls_len {D : Nat → Nat → Int32} {n : Nat} : (mls D n).length = n := by simp [mls]
theorem es_len {E : Nat → Nat → Int32} {π : Nat → Nat} {n : Nat} : (es E π n).length = n := by simp [es]
theorem mls_ext {D D' : Nat → Nat → Int32} {n : Nat} (h : ∀ q, q < 12 * n → D' 21 q = D 21 q) : mls D' n = mls D n := by
  unfold mls
  apply List.map_congr_left
  intro k hk
  rw [List.mem_range] at hk
  funext j
  unfold ml
  split
  · exact h _ (by omega)
  · rfl
theorem mls_s (D : Nat → Nat → Int32) (n : Nat) : mls D (n + 1) = mls D n ++ [ml D n] := by
  simp [mls, List.range_succ]
theorem es_s (E : Nat → Nat → Int32) (π : Nat → Nat) (n : Nat) : es E π (n + 1) = es E π n ++ [E (π n)] := by
  simp [es, List.range_succ]
/-! what the loops write -/
theorem lp_cp {n : Nat} : ∀ (t i : Nat) (D : Nat → Nat → Int32) (q : Nat), lp (fun D' k => u2 D' 21 (12 * n + k) (D' 23 k)) t i D 21 q = if 12 * n + i ≤ q ∧ q < 12 * n + i + t then D 23 (q - 12 * n) else D 21 q := by
  intro t
  induction t with
  | zero =>
    intro i D q
    rw [if_neg (by omega)]
    rfl
  | succ t ih =>
    intro i D q
    show lp (fun D' k => u2 D' 21 (12 * n + k) (D' 23 k)) t (i + 1) (u2 D 21 (12 * n + i) (D 23 i)) 21 q = _
    rw [ih, u2_k _ _ _ _ (show 23 ≠ 21 by decide)]
    by_cases h : 12 * n + (i + 1) ≤ q ∧ q < 12 * n + (i + 1) + t
    · rw [if_pos h, if_pos (by omega)]
    · rw [if_neg h]
      by_cases h2 : q = 12 * n + i
      · subst h2
        rw [u2_s, if_pos (by omega)]
        congr 1
        omega
      · rw [u2_i _ _ _ _ h2, if_neg (by omega)]
theorem lp_sh : ∀ (t i : Nat) (D : Nat → Nat → Int32) (q : Nat), lp (fun D p => u2 D 21 p (D 21 (p + 12))) t i D 21 q = if i ≤ q ∧ q < i + t then D 21 (q + 12) else D 21 q := by
  intro t
  induction t with
  | zero =>
    intro i D q
    rw [if_neg (by omega)]
    rfl
  | succ t ih =>
    intro i D q
    show lp (fun D p => u2 D 21 p (D 21 (p + 12))) t (i + 1) (u2 D 21 i (D 21 (i + 12))) 21 q = _
    rw [ih]
    by_cases h : i + 1 ≤ q ∧ q < i + 1 + t
    · rw [if_pos h, if_pos (by omega), u2_i _ _ _ _ (by omega)]
    · rw [if_neg h]
      by_cases h2 : q = i
      · subst h2
        rw [u2_s, if_pos (by omega)]
      · rw [u2_i _ _ _ _ h2, if_neg (by omega)]
theorem lp_nw {k : Nat} : ∀ (t i : Nat) (D : Nat → Nat → Int32) (q : Nat), lp (fun D p => u2 D 22 p (D 21 (12 * k + p))) t i D 22 q = if i ≤ q ∧ q < i + t then D 21 (12 * k + q) else D 22 q := by
  intro t
  induction t with
  | zero =>
    intro i D q
    rw [if_neg (by omega)]
    rfl
  | succ t ih =>
    intro i D q
    show lp (fun D p => u2 D 22 p (D 21 (12 * k + p))) t (i + 1) (u2 D 22 i (D 21 (12 * k + i))) 22 q = _
    rw [ih, u2_k _ _ _ _ (show 21 ≠ 22 by decide)]
    by_cases h : i + 1 ≤ q ∧ q < i + 1 + t
    · rw [if_pos h, if_pos (by omega)]
    · rw [if_neg h]
      by_cases h2 : q = i
      · subst h2
        rw [u2_s, if_pos (by omega)]
      · rw [u2_i _ _ _ _ h2, if_neg (by omega)]
theorem lp_zr : ∀ (t i : Nat) (D : Nat → Nat → Int32) (q : Nat), lp (fun D k => u2 D 23 k 0) t i D 23 q = if i ≤ q ∧ q < i + t then 0 else D 23 q := by
  intro t
  induction t with
  | zero =>
    intro i D q
    rw [if_neg (by omega)]
    rfl
  | succ t ih =>
    intro i D q
    show lp (fun D k => u2 D 23 k 0) t (i + 1) (u2 D 23 i 0) 23 q = _
    rw [ih]
    by_cases h : i + 1 ≤ q ∧ q < i + 1 + t
    · rw [if_pos h, if_pos (by omega)]
    · rw [if_neg h]
      by_cases h2 : q = i
      · subst h2
        rw [u2_s, if_pos (by omega)]
      · rw [u2_i _ _ _ _ h2, if_neg (by omega)]
/-- what is being written next, as a mail -/
def nxt (D : Nat → Nat → Int32) : Nat → Int32 := fun j => if j < 12 then D 23 j else 0
theorem mls_pX {D : Nat → Nat → Int32} {n : Nat} (hn : n < 24) (hc : D 20 0 = nI n) : mls (pX D) (n + 1) = mls D n ++ [nxt D] := by
  rw [pXn hn hc, mls_s]
  have e : ∀ q, u2 (lp (fun D' k => u2 D' 21 (12 * n + k) (D' 23 k)) 12 0 D) 20 0 (nI (n + 1)) 21 q = if 12 * n + 0 ≤ q ∧ q < 12 * n + 0 + 12 then D 23 (q - 12 * n) else D 21 q := by
    intro q
    rw [u2_k _ _ _ _ (by decide), lp_cp]
  congr 1
  · exact mls_ext (fun q hq => by rw [e, if_neg (by omega)])
  · congr 1
    funext j
    unfold ml nxt
    split
    · rw [e, if_pos (by omega)]
      congr 1
      omega
    · rfl
theorem mls_oX {D : Nat → Nat → Int32} {n k : Nat} (hk : k < n + 1) : mls (oX D n k) n = (mls D (n + 1)).eraseIdx k := by
  have e : ∀ q, oX D n k 21 q = if 12 * k ≤ q ∧ q < 12 * k + 12 * (n - k) then D 21 (q + 12) else D 21 q := by
    intro q
    unfold oX
    rw [u2_k _ _ _ _ (by decide), lp_sh]
  apply List.ext_getElem?
  intro j
  rw [List.getElem?_eraseIdx]
  by_cases hj : j < n
  · rw [mls_get hj]
    split
    · rename_i h
      rw [mls_get (by omega)]
      congr 1
      funext i
      unfold ml
      split
      · rw [e, if_neg (by omega)]
      · rfl
    · rename_i h
      rw [mls_get (by omega)]
      congr 1
      funext i
      unfold ml
      split
      · rw [e, if_pos (by omega)]
        congr 1
        omega
      · rfl
  · have h1 : (mls (oX D n k) n)[j]? = none := List.getElem?_eq_none (by rw [mls_len]; omega)
    rw [h1]
    split
    · rename_i h
      omega
    · exact (List.getElem?_eq_none (by rw [mls_len]; omega)).symm
