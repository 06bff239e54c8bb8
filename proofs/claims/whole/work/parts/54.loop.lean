/-! the law's loop -/
theorem law_d18 : (decide (decode code 18 = .ok (.iload_n 3, 1)) && (decide (decode code 19 = .ok (.aload_n 0, 1)) && (decide (decode code 20 = .ok (.arraylength, 1)) && (decide (decode code 21 = .ok (.iconst 4, 1)) && (decide (decode code 22 = .ok (.isub, 1)) && decide (decode code 23 = .ok (.if_icmp .gt 465, 3))))))) = true := by decide +kernel
theorem law_d26 : (decide (decode code 26 = .ok (.aload_n 0, 1)) && (decide (decode code 27 = .ok (.iload_n 3, 1)) && (decide (decode code 28 = .ok (.iaload, 1)) && (decide (decode code 29 = .ok (.bipush 15, 2)) && (decide (decode code 31 = .ok (.iand, 1)) && decide (decode code 32 = .ok (.tableswitch 450 0 13 #[72, 85, 118, 151, 174, 197, 220, 243, 266, 305, 328, 371, 404, 417], 72))))))) = true := by decide +kernel
theorem law_d482 : (decide (decode code 482 = .ok (.iinc 3 4, 3)) && (decide (decode code 485 = .ok (.goto (-467), 3)) && (decide (decode code 488 = .ok (.iconst 1, 1)) && decide (decode code 489 = .ok (.ireturn, 1))))) = true := by decide +kernel
section LAWL
variable {p : Program} {l : Launch} {e : Env} {s : State} {m : MethodId} {below : List Frame} {meth : Method} {c : Code} {H H0 : Heap} {locs : List Loc} {Q : State → Prop}
variable {b L : Nat} {xs : Nat → Int32} {dA dC : Nat → ClassId} {dI : Nat → Nat → Nat} {as : List Nat} {ad ix : Nat → Nat} {i P X : Nat} {ls : Array Slot}
variable {E : Nat → Nat → Int32} {π : Nat → Nat} {τ : Nat} {D : Nat → Nat → Int32} {t : Nat}
theorem law_head (C : LC p s m c b L xs dA dC dI as ad ix H0) {j : Nat} (hj : 4 * j ≤ 4096) (hl : lv_has ls 4 (law_lv b P X (4 * j))) (hS : va_S (fun q => q ∈ as) H0 H locs) (kt : L < 4 * j + 4 → W p l e room_1 s m #[Value.ref b] below meth c H locs 73 1028 Q (F0 m 488 ls [])) (kf : 4 * j + 4 ≤ L → W p l e room_1 s m #[Value.ref b] below meth c H locs 73 1028 Q (F0 m 26 ls [])) : W p l e room_1 s m #[Value.ref b] below meth c H locs 73 1028 Q (F0 m 18 ls []) := by
  obtain ⟨hx, hb, hml, hown, hts, hK, hA, hX, hbl, hbA, hL⟩ := C
  have hd := law_d18
  simp only [Bool.and_eq_true, decide_eq_true_eq] at hd
  obtain ⟨d0, d1, d2, d3, d4, d5⟩ := hd
  refine lv_iload_n hx hb d0 rfl (lv_at hl 0 rfl) ?_
  refine lv_aload_n hx hb d1 rfl (lv_at hl 3 rfl) ?_
  refine va_slen (A := fun q => q ∈ as) hx hb hX hbl hbA hS d2 ?_
  refine lv_iconst hx hb d3 (v := nI 4) (by decide) ?_
  refine lv_isub hx hb d4 ?_
  have hy : (Int32.ofNat L - nI 4).toInt = (L : Int) - ((4 : Nat) : Int) := pk_sub_toInt (a := L) (b := 4) (by omega) (by decide)
  have hz : (nI (4 * j)).toInt = ((4 * j : Nat) : Int) := nI_toInt (by omega)
  refine lv_icmp_gt (tgt := 488) hx hb d5 (by decide) (fun q => kt ?_) (fun q => kf ?_)
  · rw [Int32.lt_iff_toInt_lt, hy, hz] at q
    omega
  · rw [Int32.lt_iff_toInt_lt, hy, hz] at q
    omega
theorem law_exit (C : LC p s m c b L xs dA dC dI as ad ix H0) (has : ∀ a ∈ as, s.heap.size ≤ a) (hr : meth.sig.returnType = ret) (hlk : meth.locks = false) (hS : va_S (fun q => q ∈ as) H0 H locs) : W p l e room_1 s m #[Value.ref b] below meth c H locs 73 1028 (lw_Z below #[Value.ref b] s) (F0 m 488 ls []) := by
  obtain ⟨hx, hb, -⟩ := C
  have hd := law_d482
  simp only [Bool.and_eq_true, decide_eq_true_eq] at hd
  obtain ⟨d0, d1, d2, d3⟩ := hd
  refine va_forget (fun q hq => has _ (hS.2.2 q hq)) ?_
  refine W.widen (k := 600000) (n := 7302250) (by decide) (by decide) ?_
  refine lv_iconst hx hb d2 (v := 1) rfl ?_
  exact lw_ret hx hb hr hlk d3
set_option maxRecDepth 100000 in
theorem law_iter (C : LC p s m c b L xs dA dC dI as ad ix H0) (ht : t < 1000) (hG : GR t E π τ D) (hi : i + 3 < L) (hl : lv_has ls 4 (law_lv b (ad 0) (ad 100) i)) (hW : pz_W dC dI as (pz_wf ad ix (cw dA ad D E π τ D)) H) (hS : va_S (fun q => q ∈ as) H0 H locs)
    (kk : ∀ (E1 : Nat → Nat → Int32) (π1 : Nat → Nat) (τ1 : Nat) (D1 : Nat → Nat → Int32) (t1 : Nat) (H1 : Heap) (locs1 : List Loc), t1 ≤ t + 1 → GR t1 E1 π1 τ1 D1 → pz_W dC dI as (pz_wf ad ix (cw dA ad D1 E1 π1 τ1 D1)) H1 → va_S (fun q => q ∈ as) H0 H1 locs1 → W p l e room_1 s m #[Value.ref b] below meth c H1 locs1 73 1028 Q (F0 m 482 ls [])) : W p l e room_1 s m #[Value.ref b] below meth c H locs 73 1028 Q (F0 m 26 ls []) := by
  have C0 := C
  obtain ⟨hx, hb, hml, hown, hts, hK, hA, hX, hbl, hbA, hL⟩ := C0
  have hd := law_d26
  simp only [Bool.and_eq_true, decide_eq_true_eq] at hd
  obtain ⟨d0, d1, d2, d3, d4, d5⟩ := hd
  refine lv_aload_n hx hb d0 rfl (lv_at hl 3 rfl) ?_
  refine lv_iload_n hx hb d1 rfl (lv_at hl 0 rfl) ?_
  refine va_sld (A := fun q => q ∈ as) hx hb hX hbl hbA hS (pk_in i L (by omega)) d2 ?_
  refine lv_bipush hx hb d3 (v := 15) (by decide) ?_
  refine lv_iand hx hb d4 ?_
  obtain ⟨k, hk, he⟩ := pk_andE (xs (nI i).toNatClampNeg) (m := 15) 4 (by decide)
  rw [he]
  have hk2 : k < 16 := hk
  rcases (by omega : k = 0 ∨ k = 1 ∨ k = 2 ∨ k = 3 ∨ k = 4 ∨ k = 5 ∨ k = 6 ∨ k = 7 ∨ k = 8 ∨ k = 9 ∨ k = 10 ∨ k = 11 ∨ k = 12 ∨ k = 13 ∨ k = 14 ∨ k = 15) with rfl | rfl | rfl | rfl | rfl | rfl | rfl | rfl | rfl | rfl | rfl | rfl | rfl | rfl | rfl | rfl
  · refine lv_tableIn (off := 72) (tgt := 104) hx hb d5 (by decide +kernel) (by decide +kernel) (by decide +kernel) (by decide) ?_
    exact law_t_tick C ht hG hi hl hW hS kk
  · refine lv_tableIn (off := 85) (tgt := 117) hx hb d5 (by decide +kernel) (by decide +kernel) (by decide +kernel) (by decide) ?_
    exact law_t_ask C ht hG hi hl hW hS kk
  · refine lv_tableIn (off := 118) (tgt := 150) hx hb d5 (by decide +kernel) (by decide +kernel) (by decide +kernel) (by decide) ?_
    exact law_t_release C ht hG hi hl hW hS kk
  · refine lv_tableIn (off := 151) (tgt := 183) hx hb d5 (by decide +kernel) (by decide +kernel) (by decide +kernel) (by decide) ?_
    exact law_t_deliver C ht hG hi hl hW hS kk
  · refine lv_tableIn (off := 174) (tgt := 206) hx hb d5 (by decide +kernel) (by decide +kernel) (by decide +kernel) (by decide) ?_
    exact law_t_lose C ht hG hi hl hW hS kk
  · refine lv_tableIn (off := 197) (tgt := 229) hx hb d5 (by decide +kernel) (by decide +kernel) (by decide +kernel) (by decide) ?_
    exact law_t_stop C ht hG hi hl hW hS kk
  · refine lv_tableIn (off := 220) (tgt := 252) hx hb d5 (by decide +kernel) (by decide +kernel) (by decide +kernel) (by decide) ?_
    exact law_t_start C ht hG hi hl hW hS kk
  · refine lv_tableIn (off := 243) (tgt := 275) hx hb d5 (by decide +kernel) (by decide +kernel) (by decide +kernel) (by decide) ?_
    exact law_t_alone C ht hG hi hl hW hS kk
  · refine lv_tableIn (off := 266) (tgt := 298) hx hb d5 (by decide +kernel) (by decide +kernel) (by decide +kernel) (by decide) ?_
    exact law_t_link C ht hG hi hl hW hS kk
  · refine lv_tableIn (off := 305) (tgt := 337) hx hb d5 (by decide +kernel) (by decide +kernel) (by decide +kernel) (by decide) ?_
    exact law_t_state C ht hG hi hl hW hS kk
  · refine lv_tableIn (off := 328) (tgt := 360) hx hb d5 (by decide +kernel) (by decide +kernel) (by decide +kernel) (by decide) ?_
    exact law_t_entry C ht hG hi hl hW hS kk
  · refine lv_tableIn (off := 371) (tgt := 403) hx hb d5 (by decide +kernel) (by decide +kernel) (by decide +kernel) (by decide) ?_
    exact law_t_client C ht hG hi hl hW hS kk
  · refine lv_tableIn (off := 404) (tgt := 436) hx hb d5 (by decide +kernel) (by decide +kernel) (by decide +kernel) (by decide) ?_
    exact law_t_messages C ht hG hi hl hW hS kk
  · refine lv_tableIn (off := 417) (tgt := 449) hx hb d5 (by decide +kernel) (by decide +kernel) (by decide +kernel) (by decide) ?_
    exact law_t_message C ht hG hi hl hW hS kk
  · refine lv_tableOut (tgt := 482) hx hb d5 (Or.inr (by decide +kernel)) (by decide) ?_
    exact kk E π τ D t H locs (by omega) hG hW hS
  · refine lv_tableOut (tgt := 482) hx hb d5 (Or.inr (by decide +kernel)) (by decide) ?_
    exact kk E π τ D t H locs (by omega) hG hW hS
theorem law_loop (C : LC p s m c b L xs dA dC dI as ad ix H0) (has : ∀ a ∈ as, s.heap.size ≤ a) (hr : meth.sig.returnType = ret) (hlk : meth.locks = false) : ∀ (f j t : Nat) (E : Nat → Nat → Int32) (π : Nat → Nat) (τ : Nat) (D : Nat → Nat → Int32) (H : Heap) (locs : List Loc) (ls : Array Slot), L ≤ 4 * (j + f) → j ≤ 512 → t ≤ j → GR t E π τ D → lv_has ls 4 (law_lv b (ad 0) (ad 100) (4 * j)) → pz_W dC dI as (pz_wf ad ix (cw dA ad D E π τ D)) H → va_S (fun q => q ∈ as) H0 H locs →
    W p l e room_1 s m #[Value.ref b] below meth c H locs 73 1028 (lw_Z below #[Value.ref b] s) (F0 m 18 ls []) := by
  have C0 := C
  obtain ⟨hx, hb, hml, hown, hts, hK, hA, hX, hbl, hbA, hL⟩ := C0
  have hd := law_d482
  simp only [Bool.and_eq_true, decide_eq_true_eq] at hd
  obtain ⟨d0, d1, -, -⟩ := hd
  intro f
  induction f with
  | zero =>
    intro j t E π τ D H locs ls h1 h2 h3 hG hl hW hS
    exact law_head C (by omega) hl hS (fun _ => law_exit C has hr hlk hS) (fun q => absurd q (by omega))
  | succ f ih =>
    intro j t E π τ D H locs ls h1 h2 h3 hG hl hW hS
    refine law_head C (by omega) hl hS (fun _ => law_exit C has hr hlk hS) (fun q => ?_)
    refine law_iter C (by omega) hG (by omega) hl hW hS (fun E1 π1 τ1 D1 t1 H1 locs1 a1 a2 a3 a4 => ?_)
    refine lv_iinc (k := 0) (v := nI (4 * (j + 1))) (lv' := law_lv b (ad 0) (ad 100) (4 * (j + 1))) hx hb d0 hl rfl ?_ (by decide) rfl (fun ls' hl' => ?_)
    · rw [show Int32.ofInt 4 = nI 4 by decide, nI_add]
      congr 1
    · refine lv_goto (tgt := 18) hx hb d1 (by decide) ?_
      exact ih (j + 1) t1 E1 π1 τ1 D1 H1 locs1 ls' (by omega) (by omega) (by omega) a2 hl' a3 a4
end LAWL
