/-! filters on both sides; stop -/
theorem fa2_of {R : (Nat → Int32) → (Nat → Int32) → Prop} {E D : Nat → Nat → Int32} {π : Nat → Nat} : ∀ n, (∀ k, k < n → R (E (π k)) (ml D k)) → fa2 R (es E π n) (mls D n) := by
  intro n
  induction n with
  | zero => intro _; exact trivial
  | succ n ih =>
    intro h
    rw [es_s, mls_s]
    exact fa2_app (ih (fun k hk => h k (by omega))) (h n (by omega))
theorem flX_20 (c : (Nat → Nat → Int32) → Nat → Bool) {i : Nat} (h : i ≠ 0) : ∀ (m : Nat) (D : Nat → Nat → Int32), flX c m D 20 i = D 20 i := by
  intro m
  induction m with
  | zero => intro D; rfl
  | succ m ih =>
    intro D
    unfold flX
    rw [ih]
    split
    · unfold oX
      rw [u2_i _ _ _ _ h, lp_k (fun D a => u2_k _ _ _ _ (by decide))]
    · rfl
theorem mrk_25 {π : Nat → Nat} (v : (Nat → Nat → Int32) → Nat → Int32) (hπ : ∀ j, π j < 25) {c : Nat} : ∀ (t i : Nat) (E : Nat → Nat → Int32), mrk π v t i E 25 c = E 25 c := by
  intro t
  induction t with
  | zero => intro i E; rfl
  | succ t ih =>
    intro i E
    show mrk π v t (i + 1) (u2 E (π i) 14 (v E (π i))) 25 c = E 25 c
    rw [ih]
    exact u2_k _ _ _ _ (by have := hπ i; omega)
theorem flt_ok {t n τ : Nat} {E D : Nat → Nat → Int32} {π : Nat → Nat} {v : (Nat → Nat → Int32) → Nat → Int32} {c : (Nat → Nat → Int32) → Nat → Bool} {p : (Nat → Int32) → Bool} (t0 : Int32) (hP : PI π τ) (hn : n ≤ 24) (hc : D 20 0 = nI n) (h0 : D 0 0 = t0) (hcp : ∀ D m, D 0 0 = t0 → c D m = p (ml D m)) (hv : ∀ (E E' : Nat → Nat → Int32) m, (∀ j, j ≠ 14 → E m j = E' m j) → v E m = v E' m) (hf : fa2 (mR t) (es E π n) (mls D n)) (hpq : ∀ k, k < n → mR t (E (π k)) (ml D k) → (v E (π k) = 0 ↔ p (ml D k) = false)) :
    PI (rmv (mrk π v n 0 E) n 0 0 π).1 τ ∧ (rmv (mrk π v n 0 E) n 0 0 π).2 ≤ 24 ∧ flX c n D 20 0 = nI (rmv (mrk π v n 0 E) n 0 0 π).2 ∧ fa2 (mR t) (es (mrk π v n 0 E) (rmv (mrk π v n 0 E) n 0 0 π).1 (rmv (mrk π v n 0 E) n 0 0 π).2) (mls (flX c n D) (rmv (mrk π v n 0 E) n 0 0 π).2) ∧ ∀ c, mrk π v n 0 E 25 c = E 25 c := by
  obtain ⟨a1, a2, a3⟩ := rmv_w (E := mrk π v n 0 E) hn hP
  obtain ⟨n', b1, b2, b3⟩ := flX_w t0 hcp n D n (Nat.le_refl n) hn hc h0
  have g : fa2 (fun e m => mR t e m ∧ (e 14 = 0 ↔ p m = false)) (es (mrk π v n 0 E) π n) (mls D n) := by
    refine fa2_of n (fun k hk => ?_)
    have r := fa2_get hf (es_get hk) (mls_get hk)
    refine ⟨r.ext (fun j hj => mrk_o π v hj n 0 E), ?_⟩
    rw [mrk_a (n := n) (fun i j hi hj => hP.2.2.1 i j (by omega) (by omega)) hv n 0 E k (by omega) hk, if_pos (Nat.zero_le k)]
    exact hpq k hk r
  have g2 := fa2_imp (S := mR t) (fun a b h => h.1) (fa2_fil (p := fun e => decide (e 14 = 0)) (q := fun x => !p x) (fun a b h => by
    have h2 := h.2
    cases hp : p b
    · rw [hp] at h2
      simp [h2.mpr rfl]
    · rw [hp] at h2
      have : ¬ a 14 = 0 := fun q => by have := h2.mp q; cases this
      simp [this]) g)
  have b4 : mls (flX c n D) n' = (mls D n).filter (fun x => !p x) := by
    rw [b3, List.take_of_length_le (by rw [mls_len]; omega), List.drop_of_length_le (by rw [mls_len]; omega), List.append_nil]
  rw [← a3, ← b4] at g2
  have hl := fa2_len g2
  rw [es_len, mls_len] at hl
  rw [← hl] at b2 g2
  exact ⟨a1, by omega, b2, g2, fun c => mrk_25 v hP.1 n 0 E⟩
theorem bi_0 {c : Prop} [Decidable c] : (bi c = 0) ↔ ¬ c := by
  unfold bi
  split
  · rename_i h
    exact ⟨fun q => absurd q (by decide), fun q => absurd h q⟩
  · rename_i h
    exact ⟨fun _ => h, fun _ => rfl⟩
theorem bi_ext {c d : Prop} [Decidable c] [Decidable d] (h : c ↔ d) : bi c = bi d := by
  unfold bi
  by_cases hc : c
  · rw [if_pos hc, if_pos (h.mp hc)]
  · rw [if_neg hc, if_neg (fun q => hc (h.mpr q))]
section STEPS3
variable {dA ad ix : Nat → Nat} {E D : Nat → Nat → Int32} {π : Nat → Nat} {τ t : Nat}
theorem st_stop (hA : ∀ i, ix (ad i) = i) (hG : GR t E π τ D) (x : Int32) : stepOK dA ad ix t E π τ D 6 120 [.int x] := by
  obtain ⟨h1, h2, ⟨n, hn, hc, hf⟩, h4⟩ := id hG
  rcases cs2 x with h | ⟨s, hs, rfl⟩
  · exact step_id hG 0 (fun Q => m6n hA h) (fun Q => m120n hA h)
  · by_cases a : D 2 0 = 0 ∨ D 2 0 = 4 ∨ D 2 1 = 0 ∨ D 2 1 = 4
    · exact step_id hG 0 (fun Q => by rw [m6 hA hn h2.1 hs hc, if_pos a]) (fun Q => by rw [m120 hA hn hs hc, if_pos a])
    · have hml : mls (u2 D 2 s 0) n = mls D n := mls_ext (fun q _ => u2_k _ _ _ _ (by decide))
      obtain ⟨k1, k2, k3, k4, k5⟩ := flt_ok (t := t) (n := n) (E := E) (D := u2 D 2 s 0) (π := π) (τ := τ) (v := fun E m => bi (E m 0 = 4 ∨ E m 0 = 5 ∨ E m 0 = 6)) (c := c_btw) (p := fun x => !decide (x 0 ≤ 3)) (D 0 0) h2 hn (by rw [u2_k _ _ _ _ (by decide)]; exact hc) (u2_k _ _ _ _ (by decide)) (fun D m _ => rfl) (fun E E' m he => by simp only [he 0 (by decide)]) (by rw [hml]; exact hf) (fun k hk r => by
        obtain ⟨⟨e0, -⟩, -, r⟩ := r
        simp only [bi_0, e0]
        rcases r with ⟨b, -⟩ | ⟨b, -⟩ | ⟨b, -⟩ | ⟨b, -⟩ | ⟨b, -⟩ | ⟨b, -⟩ | ⟨b, -⟩ <;> rw [b] <;> decide)
      refine ⟨1, u2 (u2 D 2 s 0) 20 0 (nI (spR π n E).2), spM π n E, (spR π n E).1, τ, flX c_btw n (u2 D 2 s 0), t, Nat.le_succ t, fun Q => by rw [m6 hA hn h2.1 hs hc, if_neg a], fun Q => by rw [m120 hA hn hs hc, if_neg a], ?_, ?_, k1, ⟨_, k2, k3, k4⟩, ?_⟩
      · intro k i hk
        rw [u2_e]
        by_cases h9 : k = 20 ∧ i = 0
        · obtain ⟨rfl, rfl⟩ := h9
          rw [if_pos ⟨rfl, rfl⟩, k3]
          rfl
        · rw [if_neg h9]
          by_cases h8 : k = 20
          · subst h8
            rw [flX_20 _ (fun q => h9 ⟨rfl, q⟩)]
          · rw [flX_k _ (by omega)]
      · exact (h1.u2 (k := 2) (i := s) (v := 0) (okv_2 (Or.inl rfl))).ext (fun k i hk => by rw [flX_k _ (by omega)])
      · intro c hc
        rw [flX_k _ (by decide), u2_k _ _ _ _ (by decide)]
        show mrk π _ n 0 E 25 c = _ ∨ (mrk π _ n 0 E 25 c = _ ∧ _)
        rw [k5]
        exact h4 c hc
end STEPS3
