/-! the law: its claim's words, and rows of its body -/
def R_law : String := "LeasePairLaw"
def lw_P (b : Addr) (xs : List Int32) (args : Array Value) (s : State) : Prop := args = #[.ref b] ∧ s.IntsAt b xs ∧ xs.length ≤ 2048 ∧ (Jvm.Cond.and given_1 narrow_1).before args s = true
def lw_Q (_ : Array Value) (s : State) (o : Outcome) (t : State) : Prop := o = .returned (some (.int 1)) ∧ Framed s o t [] 600000 7302250
def lw_Z (below : List Frame) (a : Array Value) (s : State) : State → Prop := fun t => ∃ o, t.status = .running ∧ Ended t below o ∧ lw_Q a s o t
/-- the law's own end, with 1 on the stack, nothing written that was there before, its room as the claim has it -/
theorem lw_ret {p : Program} {l : Launch} {e : Env} {s : State} {m : MethodId} {below : List Frame} {meth : Method} {c : Code} {b : Nat} (hx : p.tables.exec = Jvm.exec) (hb : c.code = code) (hr : meth.sig.returnType = ret) (hlocks : meth.locks = false) {pc : Nat} {H : Heap} {ls : Array Slot} (hdg : decode code pc = .ok (.ireturn, 1)) : W p l e room_1 s m #[Value.ref b] below meth c H [] 600000 7302250 (lw_Z below #[Value.ref b] s) (F0 m pc ls [.int 1]) := by
  intro T hT X
  obtain ⟨fs, hret, hrun, hended, hW, hframe⟩ := X.leave (v := some (.int 1)) (hlocks := hlocks) (fun h => by rw [hr] at h; cases h)
  have hmeth' : T.vm.method? m = some meth := X.method'
  refine ⟨T.setFrames fs, ?_, .returned (some (.int 1)), hrun, hended, rfl, ⟨_, rfl⟩, hW, hframe⟩
  jvm_step X.here [X.here.top, hx, hb, hdg, hmeth', hr, ret, narrow_b1]
  (try refine ⟨rfl, ?_⟩); (try refine ⟨rfl, ?_⟩)
  first | (intro acts; rw [hret _ acts rfl rfl rfl]) | rw [hret _ _ rfl rfl rfl]
  exact Steps.refl _
/-- what holds at the law's entry: the machine, the code, the tables' words (any of lw_tbl by 'hts w (by decide +kernel)'), the script of L ints xs at the cell b, what the Statement gives of the start (any of its parts by flat_of_before) -/
def lw_At (p : Program) (s : State) (m : MethodId) (meth : Method) (c : Code) (b L : Nat) (xs : Nat → Int32) : Prop :=
  p.tables.exec = Jvm.exec ∧ c.code = code ∧ meth.sig.returnType = ret ∧ c.maxLocals = 4 ∧ s.vm.findClass R_law = some m.cls ∧ (∀ w ∈ lw_tbl, w.before #[Value.ref b] s = true) ∧ va_X b L xs s s.heap ∧ b < s.heap.size ∧ meth.locks = false ∧ (Jvm.Cond.and given_1 narrow_1).before #[Value.ref b] s = true

def ld1 (pc : Nat) (nn : Int) : Bool := decide (decode code pc = .ok (.aload_n 0, 1)) && (decide (decode code (pc + 1) = .ok (.iload_n 3, 1)) && (decide (decode code (pc + 2) = .ok (.iconst nn, 1)) && (decide (decode code (pc + 3) = .ok (.iadd, 1)) && decide (decode code (pc + 4) = .ok (.iaload, 1)))))
def ldN (pc : Nat) : Nat → Bool
  | 0 => true
  | n + 1 => ldN pc n && ld1 (pc + 5 * n) ((n + 1 : Nat) : Int)
def ldT (pc n ic im : Nat) (off : Int) : Bool := decide (decode code pc = .ok (.aload_n 1, 1)) && (ldN (pc + 1) n && (decide (decode code (pc + 1 + 5 * n) = .ok (.invokevirtual ic, 3)) && (decide (decode code (pc + 1 + 5 * n + 3) = .ok (.aload_n 2, 1)) && (ldN (pc + 1 + 5 * n + 3 + 1) n && (decide (decode code (pc + 1 + 5 * n + 3 + 1 + 5 * n) = .ok (.invokevirtual im, 3)) && decide (decode code (pc + 1 + 5 * n + 3 + 1 + 5 * n + 3) = .ok (.if_icmp .eq off, 3)))))))
def ldB (pc : Nat) : Bool := decide (decode code pc = .ok (.ifCond .eq 7, 3)) && (decide (decode code (pc + 3) = .ok (.iconst 1, 1)) && (decide (decode code (pc + 4) = .ok (.goto 4, 3)) && decide (decode code (pc + 7) = .ok (.iconst 0, 1))))
def law_lv (b P X i : Nat) : List (Nat × Value) := [(3, Value.int (nI i)), (2, .ref X), (1, .ref P), (0, .ref b)]
def law_as (xs : Nat → Int32) (i n : Nat) : List Value := (List.range n).map (fun j => .int (xs (i + (j + 1))))
/-- what stands all through the law's loop -/
def LC (p : Program) (s : State) (m : MethodId) (c : Code) (b L : Nat) (xs : Nat → Int32) (dA dC : Nat → ClassId) (dI : Nat → Nat → Nat) (as : List Nat) (ad ix : Nat → Nat) (H0 : Heap) : Prop :=
  p.tables.exec = Jvm.exec ∧ c.code = code ∧ c.maxLocals = 4 ∧ s.vm.findClass R_law = some m.cls ∧ (∀ w ∈ pz_ws, w.before #[Value.ref b] s = true) ∧ pz_K dA dC dI s ∧ (∀ i, ix (ad i) = i) ∧ va_X b L xs s H0 ∧ b < H0.size ∧ ¬ b ∈ as ∧ L ≤ 2048
theorem law_ofI {n : Nat} (h : n ≤ 3) : Int32.ofInt (n : Int) = nI n := by
  rcases (by omega : n = 0 ∨ n = 1 ∨ n = 2 ∨ n = 3) with rfl | rfl | rfl | rfl <;> decide +kernel
section LAW
variable {p : Program} {l : Launch} {e : Env} {s : State} {m : MethodId} {below : List Frame} {meth : Method} {c : Code} {H H0 : Heap} {locs : List Loc} {Q : State → Prop}
variable {b L : Nat} {xs : Nat → Int32} {dA dC : Nat → ClassId} {dI : Nat → Nat → Nat} {as : List Nat} {ad ix : Nat → Nat} {pc i P X : Nat} {ls : Array Slot} {st : List Value}
theorem law_arg (C : LC p s m c b L xs dA dC dI as ad ix H0) {n : Nat} {nn : Int} (h : ld1 pc nn = true) (hn : Int32.ofInt nn = nI n) (hi : i + n < L) (hl : lv_has ls 4 (law_lv b P X i)) (hS : va_S (fun q => q ∈ as) H0 H locs)
    (kk : W p l e room_1 s m #[Value.ref b] below meth c H locs 73 1028 Q (F0 m (pc + 5) ls (.int (xs (i + n)) :: st))) : W p l e room_1 s m #[Value.ref b] below meth c H locs 73 1028 Q (F0 m pc ls st) := by
  obtain ⟨hx, hb, hml, hown, hts, hK, hA, hX, hbl, hbA, hL⟩ := C
  unfold ld1 at h
  simp only [Bool.and_eq_true, decide_eq_true_eq] at h
  obtain ⟨d0, d1, d2, d3, d4⟩ := h
  refine lv_aload_n hx hb d0 rfl (lv_at hl 3 rfl) ?_
  refine lv_iload_n hx hb d1 rfl (lv_at hl 0 rfl) ?_
  refine lv_iconst hx hb d2 hn ?_
  refine lv_iadd hx hb d3 ?_
  rw [nI_add]
  refine va_sld (A := fun q => q ∈ as) hx hb hX hbl hbA hS (pk_in (i + n) L hi) d4 ?_
  rw [nI_clamp (by omega)]
  exact kk
theorem law_args (C : LC p s m c b L xs dA dC dI as ad ix H0) (hl : lv_has ls 4 (law_lv b P X i)) (hS : va_S (fun q => q ∈ as) H0 H locs) : ∀ n, n ≤ 3 → ldN pc n = true → i + n < L → W p l e room_1 s m #[Value.ref b] below meth c H locs 73 1028 Q (F0 m (pc + 5 * n) ls ((law_as xs i n).reverse ++ st)) → W p l e room_1 s m #[Value.ref b] below meth c H locs 73 1028 Q (F0 m pc ls st) := by
  intro n
  induction n with
  | zero =>
    intro _ _ _ k
    exact k
  | succ n ih =>
    intro hn h hi k
    unfold ldN at h
    rw [Bool.and_eq_true] at h
    refine ih (by omega) h.1 (by omega) ?_
    refine law_arg C (n := n + 1) h.2 (law_ofI hn) hi hl hS ?_
    have e1 : pc + 5 * (n + 1) = pc + 5 * n + 5 := by omega
    have e2 : (law_as xs i (n + 1)).reverse ++ st = .int (xs (i + (n + 1))) :: ((law_as xs i n).reverse ++ st) := by
      unfold law_as
      rw [List.range_succ, List.map_append, List.reverse_append]
      rfl
    rw [e1, e2] at k
    exact k
theorem law_bool (hx : p.tables.exec = Jvm.exec) (hb : c.code = code) {x : Int32} {cells slots : Nat} {R : Room} {args : Array Value} (h : ldB pc = true) (kk : W p l e R s m args below meth c H locs cells slots Q (F0 m (pc + 8) ls (.int (if x = 0 then 0 else 1) :: st))) : W p l e R s m args below meth c H locs cells slots Q (F0 m pc ls (.int x :: st)) := by
  unfold ldB at h
  simp only [Bool.and_eq_true, decide_eq_true_eq] at h
  obtain ⟨d0, d1, d2, d3⟩ := h
  refine lv_if_eq (tgt := pc + 7) hx hb d0 (by omega) (fun hz => ?_) (fun hz => ?_)
  · refine lv_iconst hx hb d3 (v := 0) rfl ?_
    rw [if_pos hz] at kk
    exact kk
  · refine lv_iconst hx hb d1 (v := 1) rfl ?_
    refine lv_goto (tgt := pc + 8) hx hb d2 (by omega) ?_
    rw [if_neg hz] at kk
    exact kk
theorem law_call (C : LC p s m c b L xs dA dC dI as ad ix H0) {k idx o : Nat} {r : Int32} {As rest : List Value} {w w' : pz_F} {fs : List Value} (hk : pz_kok k) (hvi : pz_vi k = true) (hlink : Jvm.Cond.methodLink R_law idx (pz_y k) ∈ pz_ws) (hd : decode code pc = .ok (.invokevirtual idx, 3)) (hpk : pz_pk (pz_pt k) As = true) (ho : w o = some (.inr (pz_ko k, fs)))
    (hC : ∀ Q, pz_C dA 6 k (.ref (ad o) :: As) (pz_wf ad ix w) Q = Q (some (.int r)) (pz_wf ad ix w')) (hrl : rest.length ≤ 4) (hl4 : ls.size = 4) (hW : pz_W dC dI as (pz_wf ad ix w) H) (hS : va_S (fun q => q ∈ as) H0 H locs)
    (kk : ∀ (H1 : Heap) (locs1 : List Loc), pz_W dC dI as (pz_wf ad ix w') H1 → va_S (fun q => q ∈ as) H0 H1 locs1 → W p l e room_1 s m #[Value.ref b] below meth c H1 locs1 73 1028 Q (F0 m (pc + 3) ls (.int r :: rest))) : W p l e room_1 s m #[Value.ref b] below meth c H locs 73 1028 Q (F0 m pc ls (As.reverse ++ .ref (ad o) :: rest)) := by
  obtain ⟨hx, hb, hml, hown, hts, hK, hA, hX, hbl, hbA, hL⟩ := C
  have hk0 := hk
  obtain ⟨hpl, hcn, hnh, hpd, hn13, hcode, hini, hvir, hsta⟩ := hk
  obtain ⟨hal, hall⟩ := pz_pk_all _ _ hpk
  have hroom : (rest.map fun v => v.category).sum ≤ 8 := by have := pz_cat rest; omega
  have hF : (pz_rm 6).frames + 1 ≤ room_1.frames ∧ 8 + (pz_n k + 11) + (pz_rm 6).locals ≤ room_1.locals := by
    refine ⟨by decide, ?_⟩
    show 8 + (pz_n k + 11) + 32 * (6 + 1) ≤ 308
    omega
  have hpar : ∀ sig, parseMethodDescriptor (pz_y k).desc = some sig → As.length = sig.parameters.length := by
    intro sig hsig
    rw [hsig] at hpd
    rw [hal]
    exact (Option.some.inj hpd).symm
  have hpay := pay_in hts (pz_good k hcode)
  have hcm : Jvm.Cond.code (pz_y k) (pz_b k) (pz_n k) (pz_ret k) ∈ pz_wk k := List.mem_cons_self
  obtain ⟨hinst, hsel, T, N, hcls, hnk⟩ := hvir hvi
  have hbf : pz_wf ad ix w (ad o) = some (.inr (pz_ko k, fs)) := by rw [pz_wf_at hA]; exact ho
  have hobj : ∃ cellB : Cell, H[ad o]? = some cellB ∧ cellB.vm.isStatics = false ∧ s.vm.findClass (pz_y k).cls = some cellB.cls := by
    obtain ⟨fw, k0, -, hP, -, hk0, -⟩ := hW.at hbf
    exact va_recv hK.1 hP hcls hk0
  have hC1 : pz_C dA 6 k (.ref (ad o) :: As) (pz_wf ad ix w) (fun r' f' => r' = some (.int r) ∧ f' = pz_wf ad ix w') := by
    rw [hC]
    exact ⟨rfl, rfl⟩
  have hM := pz_met (dC := dC) (dI := dI) (L := as) (l := l) hk0 (as := .ref (ad o) :: As) (by simp only [List.all_cons, Bool.and_eq_true]; exact ⟨⟨rfl, rfl⟩, hall⟩) (by simp only [List.length_cons]; omega) hC1
  have hpre : PreV s H (pz_y k).cls (ad o) (pz_Pc dA dC dI as (.ref (ad o) :: As) (pz_wf ad ix w)) As := ⟨pz_blind, hobj, fun U hU hWm => ⟨rfl, by rw [hU]; exact hW, hK.warm hWm⟩⟩
  refine pz_behind (va_runV (cc := code) (nL := 4) (n := As.length) (Ts := pz_ws) ⟨hx, hb, hml, hown, hts⟩ hM ⟨⟨rfl, rfl, hF.1, hF.2, hpay, hcm, hts _ hcode, hts _ hini, hnh, hpar, hts _ hlink⟩, hts _ hinst, hts _ hsel⟩ hpre rfl rfl hl4 rfl (lv_room hroom) hd ⟨by decide, by decide⟩) hS (fun r' f' H1 locs1 hq h1 h2 => ?_)
  obtain ⟨rfl, rfl⟩ := hq
  exact kk H1 locs1 h1 h2
end LAW
