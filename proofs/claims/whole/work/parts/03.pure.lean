/-! the pure machine: cells by address; a step as a function; a run as a least predicate; its laws -/
abbrev pz_F : Type := Nat → Option va_E
def pz_up (f : pz_F) (a : Nat) (e : va_E) : pz_F := fun b => if b = a then some e else f b
theorem pz_up_s (f : pz_F) (a : Nat) (e : va_E) : pz_up f a e a = some e := by simp [pz_up]
theorem pz_up_n (f : pz_F) {a b : Nat} (e : va_E) (h : b ≠ a) : pz_up f a e b = f b := by simp [pz_up, h]
abbrev pz_S : Type := Nat × List Value × List Value × pz_F
abbrev pz_A : Type := pz_S ⊕ (Nat × List Value × List Value) ⊕ Option Value
/-- a field is read -/
def pz_gf (f : pz_F) (a ci j : Nat) : Option Value := match f a with
  | some (.inr o) => if o.1 = ci then o.2[j]? else none
  | _ => none
theorem pz_gf_inv {f : pz_F} {a ci j : Nat} {v : Value} (h : pz_gf f a ci j = some v) : ∃ fs, f a = some (.inr (ci, fs)) ∧ fs[j]? = some v := by
  unfold pz_gf at h
  split at h
  · rename_i o ho
    split at h
    · rename_i hc
      obtain ⟨o1, o2⟩ := o
      subst hc
      exact ⟨o2, ho, h⟩
    · cases h
  · cases h
/-- is it an object of that number -/
def pz_gu (f : pz_F) (a ci : Nat) : Option Unit := match f a with
  | some (.inr o) => if o.1 = ci then some () else none
  | _ => none
theorem pz_gu_inv {f : pz_F} {a ci : Nat} {v : Unit} (h : pz_gu f a ci = some v) : ∃ fs, f a = some (.inr (ci, fs)) := by
  unfold pz_gu at h
  split at h
  · rename_i o ho
    split at h
    · rename_i hc
      obtain ⟨o1, o2⟩ := o
      subst hc
      exact ⟨o2, ho⟩
    · cases h
  · cases h
/-- a field is written -/
def pz_pf (f : pz_F) (a ci j : Nat) (v : Value) : Option pz_F := match f a with
  | some (.inr o) => if o.1 = ci ∧ j < o.2.length then some (pz_up f a (.inr (ci, o.2.set j v))) else none
  | _ => none
theorem pz_pf_inv {f f' : pz_F} {a ci j : Nat} {v : Value} (h : pz_pf f a ci j v = some f') : ∃ fs, f a = some (.inr (ci, fs)) ∧ j < fs.length ∧ f' = pz_up f a (.inr (ci, fs.set j v)) := by
  unfold pz_pf at h
  split at h
  · rename_i o ho
    split at h
    · rename_i hc
      obtain ⟨o1, o2⟩ := o
      obtain ⟨h1, h2⟩ := hc
      dsimp only at h1 h2 ho h
      subst h1
      exact ⟨o2, ho, h2, (Option.some.inj h).symm⟩
    · cases h
  · cases h
/-- an array of ints (or booleans) -/
def pz_il (cA : ClassId) (f : pz_F) (a : Nat) (i : Int32) : Option Int32 := match f a with
  | some (.inl (c, n, .inl g)) => if c = cA ∧ ¬ (i < 0 ∨ n ≤ i.toNatClampNeg) then some (g i.toNatClampNeg) else none
  | _ => none
theorem pz_il_inv {cA : ClassId} {f : pz_F} {a : Nat} {i v : Int32} (h : pz_il cA f a i = some v) : ∃ n g, f a = some (.inl (cA, n, .inl g)) ∧ vp_in i n ∧ g i.toNatClampNeg = v := by
  unfold pz_il at h
  split at h
  · rename_i c n g ho
    split at h
    · rename_i hc
      obtain ⟨h1, h2⟩ := hc
      subst h1
      exact ⟨n, g, ho, h2, Option.some.inj h⟩
    · cases h
  · cases h
def pz_is (cA : ClassId) (f : pz_F) (a : Nat) (i x : Int32) : Option pz_F := match f a with
  | some (.inl (c, n, .inl g)) => if c = cA ∧ ¬ (i < 0 ∨ n ≤ i.toNatClampNeg) then some (pz_up f a (.inl (cA, n, .inl (upd g i.toNatClampNeg x)))) else none
  | _ => none
theorem pz_is_inv {cA : ClassId} {f f' : pz_F} {a : Nat} {i x : Int32} (h : pz_is cA f a i x = some f') : ∃ n g, f a = some (.inl (cA, n, .inl g)) ∧ vp_in i n ∧ f' = pz_up f a (.inl (cA, n, .inl (upd g i.toNatClampNeg x))) := by
  unfold pz_is at h
  split at h
  · rename_i c n g ho
    split at h
    · rename_i hc
      obtain ⟨h1, h2⟩ := hc
      subst h1
      exact ⟨n, g, ho, h2, (Option.some.inj h).symm⟩
    · cases h
  · cases h
/-- an array of references -/
def pz_rl (dA : Nat → ClassId) (f : pz_F) (a : Nat) (i : Int32) : Option Value := match f a with
  | some (.inl (c, n, .inr (.inr (.inr (.inr g))))) => if (c = dA 2 ∨ c = dA 3 ∨ c = dA 4 ∨ c = dA 5) ∧ ¬ (i < 0 ∨ n ≤ i.toNatClampNeg) then some (va_rf (g i.toNatClampNeg)) else none
  | _ => none
theorem pz_rl_inv {dA : Nat → ClassId} {f : pz_F} {a : Nat} {i : Int32} {v : Value} (h : pz_rl dA f a i = some v) : ∃ t n g, (t = 2 ∨ t = 3 ∨ t = 4 ∨ t = 5) ∧ f a = some (.inl (dA t, n, .inr (.inr (.inr (.inr g))))) ∧ vp_in i n ∧ va_rf (g i.toNatClampNeg) = v := by
  unfold pz_rl at h
  split at h
  · rename_i c n g ho
    split at h
    · rename_i hc
      obtain ⟨h1, h2⟩ := hc
      rcases h1 with h1 | h1 | h1 | h1
      · exact ⟨2, n, g, Or.inl rfl, by rw [ho, h1], h2, Option.some.inj h⟩
      · exact ⟨3, n, g, Or.inr (Or.inl rfl), by rw [ho, h1], h2, Option.some.inj h⟩
      · exact ⟨4, n, g, Or.inr (Or.inr (Or.inl rfl)), by rw [ho, h1], h2, Option.some.inj h⟩
      · exact ⟨5, n, g, Or.inr (Or.inr (Or.inr rfl)), by rw [ho, h1], h2, Option.some.inj h⟩
    · cases h
  · cases h
def pz_rs (dA : Nat → ClassId) (f : pz_F) (a : Nat) (i : Int32) (q : Nat) : Option pz_F := match f a, f q with
  | some (.inl (c, n, .inr (.inr (.inr (.inr g))))), some (.inr o) => if (pz_ct o.1 < 6 ∧ c = dA (pz_ct o.1)) ∧ ¬ (i < 0 ∨ n ≤ i.toNatClampNeg) then some (pz_up f a (.inl (c, n, .inr (.inr (.inr (.inr (va_up g i.toNatClampNeg (some q)))))))) else none
  | _, _ => none
theorem pz_rs_inv {dA : Nat → ClassId} {f f' : pz_F} {a q : Nat} {i : Int32} (h : pz_rs dA f a i q = some f') : ∃ n g ci fs, pz_ct ci < 6 ∧ f a = some (.inl (dA (pz_ct ci), n, .inr (.inr (.inr (.inr g))))) ∧ f q = some (.inr (ci, fs)) ∧ vp_in i n ∧ f' = pz_up f a (.inl (dA (pz_ct ci), n, .inr (.inr (.inr (.inr (va_up g i.toNatClampNeg (some q))))))) := by
  unfold pz_rs at h
  split at h
  · rename_i c n g o ho hq
    split at h
    · rename_i hc
      obtain ⟨⟨h0, h1⟩, h2⟩ := hc
      obtain ⟨o1, o2⟩ := o
      subst h1
      exact ⟨n, g, o1, o2, h0, ho, hq, h2, (Option.some.inj h).symm⟩
    · cases h
  · cases h
/-! shapes of the stack and of the locals -/
def pz_g1 {β : Type} (n m : Nat) (z : Option β) : Option β := if n = m then z else none
theorem pz_g1_inv {β : Type} {n m : Nat} {z : Option β} {y : β} (h : pz_g1 n m z = some y) : n = m ∧ z = some y := by
  unfold pz_g1 at h
  split at h
  · exact ⟨by assumption, h⟩
  · cases h
def pz_sv {β : Type} (st : List Value) (K : Value → List Value → Option β) : Option β := match st with
  | v :: r => K v r
  | _ => none
theorem pz_sv_inv {β : Type} {st : List Value} {K : Value → List Value → Option β} {z : β} (h : pz_sv st K = some z) : ∃ v r, st = v :: r ∧ K v r = some z := by
  unfold pz_sv at h
  split at h
  · exact ⟨_, _, rfl, h⟩
  · cases h
def pz_si {β : Type} (st : List Value) (K : Int32 → List Value → Option β) : Option β := match st with
  | .int x :: r => K x r
  | _ => none
theorem pz_si_inv {β : Type} {st : List Value} {K : Int32 → List Value → Option β} {z : β} (h : pz_si st K = some z) : ∃ x r, st = .int x :: r ∧ K x r = some z := by
  unfold pz_si at h
  split at h
  · exact ⟨_, _, rfl, h⟩
  · cases h
def pz_sii {β : Type} (st : List Value) (K : Int32 → Int32 → List Value → Option β) : Option β := match st with
  | .int y :: .int x :: r => K x y r
  | _ => none
theorem pz_sii_inv {β : Type} {st : List Value} {K : Int32 → Int32 → List Value → Option β} {z : β} (h : pz_sii st K = some z) : ∃ x y r, st = .int y :: .int x :: r ∧ K x y r = some z := by
  unfold pz_sii at h
  split at h
  · exact ⟨_, _, _, rfl, h⟩
  · cases h
def pz_sr {β : Type} (st : List Value) (K : Nat → List Value → Option β) : Option β := match st with
  | .ref a :: r => K a r
  | _ => none
theorem pz_sr_inv {β : Type} {st : List Value} {K : Nat → List Value → Option β} {z : β} (h : pz_sr st K = some z) : ∃ a r, st = .ref a :: r ∧ K a r = some z := by
  unfold pz_sr at h
  split at h
  · exact ⟨_, _, rfl, h⟩
  · cases h
def pz_svv {β : Type} (st : List Value) (K : Value → Value → List Value → Option β) : Option β := match st with
  | v :: w :: r => K v w r
  | _ => none
theorem pz_svv_inv {β : Type} {st : List Value} {K : Value → Value → List Value → Option β} {z : β} (h : pz_svv st K = some z) : ∃ v w r, st = v :: w :: r ∧ K v w r = some z := by
  unfold pz_svv at h
  split at h
  · exact ⟨_, _, _, rfl, h⟩
  · cases h
def pz_svr {β : Type} (st : List Value) (K : Value → Nat → List Value → Option β) : Option β := match st with
  | v :: .ref a :: r => K v a r
  | _ => none
theorem pz_svr_inv {β : Type} {st : List Value} {K : Value → Nat → List Value → Option β} {z : β} (h : pz_svr st K = some z) : ∃ v a r, st = v :: .ref a :: r ∧ K v a r = some z := by
  unfold pz_svr at h
  split at h
  · exact ⟨_, _, _, rfl, h⟩
  · cases h
def pz_sir {β : Type} (st : List Value) (K : Int32 → Nat → List Value → Option β) : Option β := match st with
  | .int i :: .ref a :: r => K i a r
  | _ => none
theorem pz_sir_inv {β : Type} {st : List Value} {K : Int32 → Nat → List Value → Option β} {z : β} (h : pz_sir st K = some z) : ∃ i a r, st = .int i :: .ref a :: r ∧ K i a r = some z := by
  unfold pz_sir at h
  split at h
  · exact ⟨_, _, _, rfl, h⟩
  · cases h
def pz_siir {β : Type} (st : List Value) (K : Int32 → Int32 → Nat → List Value → Option β) : Option β := match st with
  | .int x :: .int i :: .ref a :: r => K x i a r
  | _ => none
theorem pz_siir_inv {β : Type} {st : List Value} {K : Int32 → Int32 → Nat → List Value → Option β} {z : β} (h : pz_siir st K = some z) : ∃ x i a r, st = .int x :: .int i :: .ref a :: r ∧ K x i a r = some z := by
  unfold pz_siir at h
  split at h
  · exact ⟨_, _, _, _, rfl, h⟩
  · cases h
def pz_srir {β : Type} (st : List Value) (K : Nat → Int32 → Nat → List Value → Option β) : Option β := match st with
  | .ref q :: .int i :: .ref a :: r => K q i a r
  | _ => none
theorem pz_srir_inv {β : Type} {st : List Value} {K : Nat → Int32 → Nat → List Value → Option β} {z : β} (h : pz_srir st K = some z) : ∃ q i a r, st = .ref q :: .int i :: .ref a :: r ∧ K q i a r = some z := by
  unfold pz_srir at h
  split at h
  · exact ⟨_, _, _, _, rfl, h⟩
  · cases h
def pz_li {β : Type} (ls : List Value) (i : Nat) (K : Int32 → Option β) : Option β := match ls[i]? with
  | some (.int x) => K x
  | _ => none
theorem pz_li_inv {β : Type} {ls : List Value} {i : Nat} {K : Int32 → Option β} {z : β} (h : pz_li ls i K = some z) : ∃ x, ls[i]? = some (.int x) ∧ K x = some z := by
  unfold pz_li at h
  split at h
  · rename_i x hx
    exact ⟨x, hx, h⟩
  · cases h
def pz_la {β : Type} (ls : List Value) (i : Nat) (K : Value → Option β) : Option β := match ls[i]? with
  | some (.ref a) => K (.ref a)
  | some .null => K .null
  | _ => none
theorem pz_la_inv {β : Type} {ls : List Value} {i : Nat} {K : Value → Option β} {z : β} (h : pz_la ls i K = some z) : (∃ a, ls[i]? = some (.ref a) ∧ K (.ref a) = some z) ∨ (ls[i]? = some .null ∧ K .null = some z) := by
  unfold pz_la at h
  split at h
  · rename_i a ha
    exact Or.inl ⟨a, ha, h⟩
  · rename_i ha
    exact Or.inr ⟨ha, h⟩
  · cases h
def pz_ra {β : Type} (v : Value) (K : Option β) : Option β := match v with
  | .ref _ => K
  | .null => K
  | _ => none
theorem pz_ra_inv {β : Type} {v : Value} {K : Option β} {z : β} (h : pz_ra v K = some z) : ((∃ a, v = .ref a) ∨ v = .null) ∧ K = some z := by
  unfold pz_ra at h
  split at h
  · exact ⟨Or.inl ⟨_, rfl⟩, h⟩
  · exact ⟨Or.inr rfl, h⟩
  · cases h
def pz_j {β : Type} (pc : Nat) (off : Int) (K : Nat → Option β) : Option β := if (pc : Int) + off = (((pc : Int) + off).toNat : Int) then K ((pc : Int) + off).toNat else none
theorem pz_j_inv {β : Type} {pc : Nat} {off : Int} {K : Nat → Option β} {z : β} (h : pz_j pc off K = some z) : ∃ tgt : Nat, (pc : Int) + off = (tgt : Int) ∧ K tgt = some z := by
  unfold pz_j at h
  split at h
  · exact ⟨_, by assumption, h⟩
  · cases h
def pz_br {β : Type} (c : Jvm.ClassFile.Cond) (x y : Int32) (A B : β) : β := match c with
  | .eq => if x = y then A else B
  | .ne => if x = y then B else A
  | .lt => if x < y then A else B
  | .ge => if y ≤ x then A else B
  | .gt => if y < x then A else B
  | .le => if x ≤ y then A else B
/-- do the values fit the parameters: true an int, false a reference -/
def pz_pk : List Bool → List Value → Bool
  | [], [] => true
  | true :: bs, .int _ :: vs => pz_pk bs vs
  | false :: bs, .ref _ :: vs => pz_pk bs vs
  | _, _ => false
/-- the locals at a method's entry -/
def pz_lc (k : Nat) (as : List Value) : List Value := as ++ List.replicate (pz_n k - as.length) (.retAddr 0)
/-- an instruction's effect -/
def pz_ex (dA : Nat → ClassId) (k pc n : Nat) (ls st : List Value) (f : pz_F) (i : Instr) : Option pz_S := match i with
  | .iconst c => pz_g1 n 1 (some ((pc + 1, ls, .int (Int32.ofInt c) :: st, f)))
  | .bipush c => pz_g1 n 2 (some ((pc + 2, ls, .int (Int8.ofInt c).toInt32 :: st, f)))
  | .sipush c => pz_g1 n 3 (some ((pc + 3, ls, .int (Int16.ofInt c).toInt32 :: st, f)))
  | .aconst_null => pz_g1 n 1 (some ((pc + 1, ls, .null :: st, f)))
  | .iload_n j => pz_g1 n 1 (pz_li ls j.val fun x => some ((pc + 1, ls, .int x :: st, f)))
  | .iload j => pz_g1 n 2 (pz_li ls j fun x => some ((pc + 2, ls, .int x :: st, f)))
  | .aload_n j => pz_g1 n 1 (pz_la ls j.val fun v => some ((pc + 1, ls, v :: st, f)))
  | .aload j => pz_g1 n 2 (pz_la ls j fun v => some ((pc + 2, ls, v :: st, f)))
  | .istore_n j => pz_g1 n 1 (pz_si st fun x r => if j.val < ls.length then some ((pc + 1, ls.set j.val (.int x), r, f)) else none)
  | .istore j => pz_g1 n 2 (pz_si st fun x r => if j < ls.length then some ((pc + 2, ls.set j (.int x), r, f)) else none)
  | .astore_n j => pz_g1 n 1 (pz_sv st fun v r => pz_ra v (if j.val < ls.length then some ((pc + 1, ls.set j.val v, r, f)) else none))
  | .astore j => pz_g1 n 2 (pz_sv st fun v r => pz_ra v (if j < ls.length then some ((pc + 2, ls.set j v, r, f)) else none))
  | .iinc j c => pz_g1 n 3 (pz_li ls j fun x => some ((pc + 3, ls.set j (.int (x + Int32.ofInt c)), st, f)))
  | .iadd => pz_g1 n 1 (pz_sii st fun x y r => some ((pc + 1, ls, .int (x + y) :: r, f)))
  | .isub => pz_g1 n 1 (pz_sii st fun x y r => some ((pc + 1, ls, .int (x - y) :: r, f)))
  | .imul => pz_g1 n 1 (pz_sii st fun x y r => some ((pc + 1, ls, .int (x * y) :: r, f)))
  | .irem => pz_g1 n 1 (pz_sii st fun x y r => if y = 0 then none else some ((pc + 1, ls, .int (x - x / y * y) :: r, f)))
  | .iand => pz_g1 n 1 (pz_sii st fun x y r => some ((pc + 1, ls, .int (x &&& y) :: r, f)))
  | .ior => pz_g1 n 1 (pz_sii st fun x y r => some ((pc + 1, ls, .int (x ||| y) :: r, f)))
  | .ixor => pz_g1 n 1 (pz_sii st fun x y r => some ((pc + 1, ls, .int (x ^^^ y) :: r, f)))
  | .ishl => pz_g1 n 1 (pz_sii st fun x y r => some ((pc + 1, ls, .int (x <<< (y &&& 31)) :: r, f)))
  | .ishr => pz_g1 n 1 (pz_sii st fun x y r => some ((pc + 1, ls, .int (x >>> (y &&& 31)) :: r, f)))
  | .ifCond c off => pz_g1 n 3 (pz_si st fun x r => pz_j pc off fun t => pz_br c x 0 (some ((t, ls, r, f))) (some ((pc + 3, ls, r, f))))
  | .if_icmp c off => pz_g1 n 3 (pz_sii st fun x y r => pz_j pc off fun t => pz_br c x y (some ((t, ls, r, f))) (some ((pc + 3, ls, r, f))))
  | .goto off => pz_g1 n 3 (pz_j pc off fun t => some ((t, ls, st, f)))
  | .ifnull off => pz_g1 n 3 (pz_sv st fun v r => pz_j pc off fun t => match v with
    | .null => some ((t, ls, r, f))
    | .ref _ => some ((pc + 3, ls, r, f))
    | _ => none)
  | .ifnonnull off => pz_g1 n 3 (pz_sv st fun v r => pz_j pc off fun t => match v with
    | .null => some ((pc + 3, ls, r, f))
    | .ref _ => some ((t, ls, r, f))
    | _ => none)
  | .tableswitch d lo hi offs => pz_si st fun x r => if x.toInt < lo ∨ hi < x.toInt then pz_j pc d fun t => some ((t, ls, r, f)) else match offs[(x.toInt - lo).toNat]? with
    | some off => pz_j pc off fun t => some ((t, ls, r, f))
    | none => none
  | .lookupswitch d ps => pz_si st fun x r => if (ps.toList.zip (ps.toList.drop 1)).all (fun (a, next) => a.1 < next.1) = true then pz_j pc (Op.lookupswitch.offset ps.toList d x.toInt) fun t => some ((t, ls, r, f)) else none
  | .dup => pz_g1 n 1 (pz_sv st fun v r => if v.category = 1 then some ((pc + 1, ls, v :: v :: r, f)) else none)
  | .dup2 => pz_g1 n 1 (pz_svv st fun v w r => if v.category = 1 ∧ w.category = 1 then some ((pc + 1, ls, v :: w :: v :: w :: r, f)) else none)
  | .dup_x1 => pz_g1 n 1 (pz_svv st fun v w r => if v.category = 1 ∧ w.category = 1 then some ((pc + 1, ls, v :: w :: v :: r, f)) else none)
  | .pop => pz_g1 n 1 (pz_sv st fun v r => if v.category = 1 then some ((pc + 1, ls, r, f)) else none)
  | .getfield idx => pz_g1 n 3 (pz_sr st fun a r => match pz_fld (pz_kc k) idx with
    | some q => (pz_gf f a q.1 q.2).bind fun v => some ((pc + 3, ls, v :: r, f))
    | none => none)
  | .putfield idx => pz_g1 n 3 (pz_svr st fun v a r => match pz_fld (pz_kc k) idx with
    | some q => if pz_wr q.1 q.2 = true ∧ narrow (pz_fty q.1 q.2) v = v ∧ fits (pz_fty q.1 q.2) v = true then (pz_pf f a q.1 q.2 v).bind fun f' => some ((pc + 3, ls, r, f')) else none
    | none => none)
  | .iaload => pz_g1 n 1 (pz_sir st fun i a r => (pz_il (dA 0) f a i).bind fun x => some ((pc + 1, ls, .int x :: r, f)))
  | .iastore => pz_g1 n 1 (pz_siir st fun x i a r => (pz_is (dA 0) f a i x).bind fun f' => some ((pc + 1, ls, r, f')))
  | .baload => pz_g1 n 1 (pz_sir st fun i a r => (pz_il (dA 1) f a i).bind fun x => some ((pc + 1, ls, .int x :: r, f)))
  | .bastore => pz_g1 n 1 (pz_siir st fun x i a r => (pz_is (dA 1) f a i (vp_nar .boolean x)).bind fun f' => some ((pc + 1, ls, r, f')))
  | .aaload => pz_g1 n 1 (pz_sir st fun i a r => (pz_rl dA f a i).bind fun v => some ((pc + 1, ls, v :: r, f)))
  | .aastore => pz_g1 n 1 (pz_srir st fun q i a r => (pz_rs dA f a i q).bind fun f' => some ((pc + 1, ls, r, f')))
  | .invokestatic idx => pz_g1 n 3 (if pz_mx (pz_kc k) idx = true then pz_sii st fun x y r => if r.length ≤ 4 then some ((pc + 3, ls, .int (if x < y then y else x) :: r, f)) else none
    else if pz_mn (pz_kc k) idx = true then pz_sii st fun x y r => if r.length ≤ 4 then some ((pc + 3, ls, .int (if y < x then y else x) :: r, f)) else none
    else none)
  | _ => none
/-- a call of an object's method, of a static one -/
def pz_cv (k n idx : Nat) (st : List Value) (f : pz_F) : Option pz_A := pz_g1 n 3 (match pz_mth (pz_kc k) idx with
  | some k' => pz_sr (st.drop (pz_pt k').length) fun b r => if pz_vi k' = true ∧ r.length ≤ 4 ∧ pz_pk (pz_pt k') (st.take (pz_pt k').length).reverse = true then (pz_gu f b (pz_ko k')).bind fun _ => some (.inr (.inl (k', .ref b :: (st.take (pz_pt k').length).reverse, r))) else none
  | none => none)
def pz_cz (k n idx : Nat) (st : List Value) : Option pz_A := pz_g1 n 3 (match pz_mth (pz_kc k) idx with
  | some k' => if pz_vi k' = false ∧ (st.drop (pz_pt k').length).length ≤ 4 ∧ pz_pk (pz_pt k') (st.take (pz_pt k').length).reverse = true then some (.inr (.inl (k', (st.take (pz_pt k').length).reverse, st.drop (pz_pt k').length))) else none
  | none => none)
/-- the ends -/
def pz_ei (k n : Nat) (st : List Value) : Option pz_A := pz_g1 n 1 (match st with
  | [.int x] => (match pz_ret k with
    | some ty => if narrow ty (.int x) = .int x then some (.inr (.inr (some (.int x)))) else none
    | none => none)
  | _ => none)
def pz_ea (k n : Nat) (st : List Value) : Option pz_A := pz_g1 n 1 (match st with
  | [v] => pz_ra v (match pz_ret k with
    | some (.object _) => some (.inr (.inr (some v)))
    | _ => none)
  | _ => none)
def pz_ev (k n : Nat) (st : List Value) : Option pz_A := pz_g1 n 1 (match st with
  | [] => if pz_ret k = none then some (.inr (.inr none)) else none
  | _ => none)
def pz_st1 (dA : Nat → ClassId) (k pc n : Nat) (ls st : List Value) (f : pz_F) (i : Instr) : Option pz_A := match i with
  | .invokevirtual idx => pz_cv k n idx st f
  | .invokestatic idx => if (pz_mth (pz_kc k) idx).isSome = true then pz_cz k n idx st else (pz_ex dA k pc n ls st f (.invokestatic idx)).map .inl
  | .ireturn => pz_ei k n st
  | .areturn => pz_ea k n st
  | .return_ => pz_ev k n st
  | i => (pz_ex dA k pc n ls st f i).map .inl
def pz_stp (dA : Nat → ClassId) (k pc : Nat) (ls st : List Value) (f : pz_F) : Option pz_A := match decode (pz_b k) pc with
  | .error _ => none
  | .ok q => pz_st1 dA k pc q.2 ls st f q.1
theorem pz_so {dA : Nat → ClassId} {k pc n : Nat} {ls st : List Value} {f : pz_F} {i : Instr} {z : Option pz_A} (hd : decode (pz_b k) pc = .ok (i, n)) (h : pz_st1 dA k pc n ls st f i = z) : pz_stp dA k pc ls st f = z := by
  unfold pz_stp
  rw [hd]
  exact h
theorem pz_stp_ex {dA : Nat → ClassId} {k pc : Nat} {ls st : List Value} {f : pz_F} {z : pz_S} (h : pz_stp dA k pc ls st f = some (.inl z)) : ∃ i n, decode (pz_b k) pc = .ok (i, n) ∧ pz_ex dA k pc n ls st f i = some z := by
  unfold pz_stp at h
  split at h
  · cases h
  · rename_i q hd
    obtain ⟨i, n⟩ := q
    refine ⟨i, n, hd, ?_⟩
    dsimp only at h
    unfold pz_st1 at h
    split at h
    · replace h := pz_g1_inv h; obtain ⟨-, h⟩ := h
      split at h
      · replace h := pz_sr_inv h; obtain ⟨b, r, -, h⟩ := h
        split at h
        · replace h := Option.bind_eq_some_iff.mp h; obtain ⟨v, -, h⟩ := h
          cases h
        · cases h
      · cases h
    · split at h
      · replace h := pz_g1_inv h; obtain ⟨-, h⟩ := h
        split at h
        · split at h
          · cases h
          · cases h
        · cases h
      · replace h := Option.map_eq_some_iff.mp h; obtain ⟨y, h1, h2⟩ := h
        cases h2
        exact h1
    · replace h := pz_g1_inv h; obtain ⟨-, h⟩ := h
      split at h
      · split at h
        · split at h
          · cases h
          · cases h
        · cases h
      · cases h
    · replace h := pz_g1_inv h; obtain ⟨-, h⟩ := h
      split at h
      · replace h := pz_ra_inv h; obtain ⟨-, h⟩ := h
        split at h
        · cases h
        · cases h
      · cases h
    · replace h := pz_g1_inv h; obtain ⟨-, h⟩ := h
      split at h
      · split at h
        · cases h
        · cases h
      · cases h
    · replace h := Option.map_eq_some_iff.mp h; obtain ⟨y, h1, h2⟩ := h
      cases h2
      exact h1
/-- what a call's step says -/
theorem pz_stp_c {dA : Nat → ClassId} {k pc k' : Nat} {ls st as rest : List Value} {f : pz_F} (h : pz_stp dA k pc ls st f = some (.inr (.inl (k', as, rest)))) : ∃ idx, pz_mth (pz_kc k) idx = some k' ∧ rest.length ≤ 4 ∧ ∃ As, pz_pk (pz_pt k') As = true ∧
    ((decode (pz_b k) pc = .ok (.invokevirtual idx, 3) ∧ pz_vi k' = true ∧ ∃ b fs, as = .ref b :: As ∧ st = As.reverse ++ .ref b :: rest ∧ f b = some (.inr (pz_ko k', fs))) ∨
     (decode (pz_b k) pc = .ok (.invokestatic idx, 3) ∧ pz_vi k' = false ∧ as = As ∧ st = As.reverse ++ rest)) := by
  unfold pz_stp at h
  split at h
  · cases h
  · rename_i q hd
    obtain ⟨i, n⟩ := q
    dsimp only at h
    unfold pz_st1 at h
    split at h
    · rename_i idx
      replace h := pz_g1_inv h; obtain ⟨rfl, h⟩ := h
      split at h
      · rename_i k2 hk
        replace h := pz_sr_inv h; obtain ⟨b, r, hst, h⟩ := h
        split at h
        · rename_i hc
          replace h := Option.bind_eq_some_iff.mp h; obtain ⟨v, hv, h⟩ := h
          cases h
          obtain ⟨fs, hfs⟩ := pz_gu_inv hv
          refine ⟨idx, hk, hc.2.1, _, hc.2.2, Or.inl ⟨hd, hc.1, b, fs, rfl, ?_, hfs⟩⟩
          rw [List.reverse_reverse, ← hst, List.take_append_drop]
        · cases h
      · cases h
    · rename_i idx
      split at h
      · replace h := pz_g1_inv h; obtain ⟨rfl, h⟩ := h
        split at h
        · rename_i k2 hk
          split at h
          · rename_i hc
            cases h
            refine ⟨idx, hk, hc.2.1, _, hc.2.2, Or.inr ⟨hd, hc.1, rfl, ?_⟩⟩
            rw [List.reverse_reverse, List.take_append_drop]
          · cases h
        · cases h
      · replace h := Option.map_eq_some_iff.mp h; obtain ⟨y, h1, h2⟩ := h
        cases h2
    · replace h := pz_g1_inv h; obtain ⟨-, h⟩ := h
      split at h
      · split at h
        · split at h
          · cases h
          · cases h
        · cases h
      · cases h
    · replace h := pz_g1_inv h; obtain ⟨-, h⟩ := h
      split at h
      · replace h := pz_ra_inv h; obtain ⟨-, h⟩ := h
        split at h
        · cases h
        · cases h
      · cases h
    · replace h := pz_g1_inv h; obtain ⟨-, h⟩ := h
      split at h
      · split at h
        · cases h
        · cases h
      · cases h
    · replace h := Option.map_eq_some_iff.mp h; obtain ⟨y, h1, h2⟩ := h
      cases h2
/-- what an end's step says -/
theorem pz_stp_r {dA : Nat → ClassId} {k pc : Nat} {ls st : List Value} {f : pz_F} {v : Option Value} (h : pz_stp dA k pc ls st f = some (.inr (.inr v))) :
    (∃ x ty, decode (pz_b k) pc = .ok (.ireturn, 1) ∧ st = [.int x] ∧ v = some (.int x) ∧ pz_ret k = some ty ∧ narrow ty (.int x) = .int x) ∨
    (∃ y n, decode (pz_b k) pc = .ok (.areturn, 1) ∧ st = [y] ∧ v = some y ∧ pz_ret k = some (.object n) ∧ (y = .null ∨ ∃ a, y = .ref a)) ∨
    (decode (pz_b k) pc = .ok (.return_, 1) ∧ st = [] ∧ v = none ∧ pz_ret k = none) := by
  unfold pz_stp at h
  split at h
  · cases h
  · rename_i q hd
    obtain ⟨i, n⟩ := q
    dsimp only at h
    unfold pz_st1 at h
    split at h
    · replace h := pz_g1_inv h; obtain ⟨-, h⟩ := h
      split at h
      · replace h := pz_sr_inv h; obtain ⟨b, r, -, h⟩ := h
        split at h
        · replace h := Option.bind_eq_some_iff.mp h; obtain ⟨v, -, h⟩ := h
          cases h
        · cases h
      · cases h
    · split at h
      · replace h := pz_g1_inv h; obtain ⟨-, h⟩ := h
        split at h
        · split at h
          · cases h
          · cases h
        · cases h
      · replace h := Option.map_eq_some_iff.mp h; obtain ⟨y, h1, h2⟩ := h
        cases h2
    · replace h := pz_g1_inv h; obtain ⟨rfl, h⟩ := h
      split at h
      · rename_i x
        split at h
        · rename_i ty hty
          split at h
          · rename_i hn
            cases h
            exact Or.inl ⟨x, ty, hd, rfl, rfl, hty, hn⟩
          · cases h
        · cases h
      · cases h
    · replace h := pz_g1_inv h; obtain ⟨rfl, h⟩ := h
      split at h
      · rename_i y
        replace h := pz_ra_inv h; obtain ⟨hy, h⟩ := h
        split at h
        · rename_i n hn
          cases h
          exact Or.inr (Or.inl ⟨y, n, hd, rfl, rfl, hn, hy.symm⟩)
        · cases h
      · cases h
    · replace h := pz_g1_inv h; obtain ⟨rfl, h⟩ := h
      split at h
      · split at h
        · rename_i hn
          cases h
          exact Or.inr (Or.inr ⟨hd, rfl, rfl, hn⟩)
        · cases h
      · cases h
    · replace h := Option.map_eq_some_iff.mp h; obtain ⟨y, h1, h2⟩ := h
      cases h2
/-! a run -/
def pz_wp (C : Nat → List Value → pz_F → (Option Value → pz_F → Prop) → Prop) (Q : Option Value → pz_F → Prop) (N : Nat → List Value → List Value → pz_F → Prop) (pc : Nat) (ls : List Value) (f : pz_F) (z : Option pz_A) : Prop := match z with
  | none => False
  | some (.inl c) => N c.1 c.2.1 c.2.2.1 c.2.2.2
  | some (.inr (.inl c)) => C c.1 c.2.1 f (fun r f' => N (pc + 3) ls (r.toList ++ c.2.2) f')
  | some (.inr (.inr v)) => Q v f
def pz_cm (C : Nat → List Value → pz_F → (Option Value → pz_F → Prop) → Prop) : Prop := ∀ (k : Nat) (a : List Value) (f : pz_F) (K K' : Option Value → pz_F → Prop), (∀ r g, K r g → K' r g) → C k a f K → C k a f K'
theorem pz_wp_mono {C : Nat → List Value → pz_F → (Option Value → pz_F → Prop) → Prop} (hC : pz_cm C) {Q Q' : Option Value → pz_F → Prop} (hQ : ∀ v f, Q v f → Q' v f) {N N' : Nat → List Value → List Value → pz_F → Prop} (hN : ∀ pc ls st f, N pc ls st f → N' pc ls st f) {pc : Nat} {ls : List Value} {f : pz_F} {z : Option pz_A} (h : pz_wp C Q N pc ls f z) : pz_wp C Q' N' pc ls f z := by
  match z, h with
  | some (.inl c), h => exact hN _ _ _ _ h
  | some (.inr (.inl c)), h => exact hC _ _ _ _ _ (fun r g hr => hN _ _ _ _ hr) h
  | some (.inr (.inr v)), h => exact hQ _ _ h
def pz_lf (dA : Nat → ClassId) (C : Nat → List Value → pz_F → (Option Value → pz_F → Prop) → Prop) (Q : Option Value → pz_F → Prop) (k pc : Nat) (ls st : List Value) (f : pz_F) : Prop :=
  ∀ N : Nat → List Value → List Value → pz_F → Prop, (∀ pc ls st f, pz_wp C Q N pc ls f (pz_stp dA k pc ls st f) → N pc ls st f) → N pc ls st f
theorem pz_lf_in {dA : Nat → ClassId} {C : Nat → List Value → pz_F → (Option Value → pz_F → Prop) → Prop} (hC : pz_cm C) {Q : Option Value → pz_F → Prop} {k pc : Nat} {ls st : List Value} {f : pz_F} (h : pz_wp C Q (pz_lf dA C Q k) pc ls f (pz_stp dA k pc ls st f)) : pz_lf dA C Q k pc ls st f := by
  intro N hN
  exact hN _ _ _ _ (pz_wp_mono hC (fun _ _ q => q) (fun pc ls st f q => q N hN) h)
theorem pz_lf_iff {dA : Nat → ClassId} {C : Nat → List Value → pz_F → (Option Value → pz_F → Prop) → Prop} (hC : pz_cm C) {Q : Option Value → pz_F → Prop} {k pc : Nat} {ls st : List Value} {f : pz_F} : pz_lf dA C Q k pc ls st f ↔ pz_wp C Q (pz_lf dA C Q k) pc ls f (pz_stp dA k pc ls st f) := by
  constructor
  · intro h
    refine h (fun pc ls st f => pz_wp C Q (pz_lf dA C Q k) pc ls f (pz_stp dA k pc ls st f)) ?_
    intro pc ls st f h2
    exact pz_wp_mono hC (fun _ _ q => q) (fun pc ls st f q => pz_lf_in hC q) h2
  · exact pz_lf_in hC
theorem pz_lf_mono {dA : Nat → ClassId} {C : Nat → List Value → pz_F → (Option Value → pz_F → Prop) → Prop} (hC : pz_cm C) {Q Q' : Option Value → pz_F → Prop} (hQ : ∀ v f, Q v f → Q' v f) {k pc : Nat} {ls st : List Value} {f : pz_F} (h : pz_lf dA C Q k pc ls st f) : pz_lf dA C Q' k pc ls st f := by
  intro N hN
  refine h N (fun pc ls st f q => hN _ _ _ _ (pz_wp_mono hC hQ (fun _ _ _ _ q => q) q))
/-- method k, from place pc with these locals, this stack and these cells, comes to its end with Q; it calls no deeper than d -/
def pz_R (dA : Nat → ClassId) : Nat → Nat → Nat → List Value → List Value → pz_F → (Option Value → pz_F → Prop) → Prop
  | 0 => fun k pc ls st f Q => pz_lf dA (fun _ _ _ _ => False) Q k pc ls st f
  | d + 1 => fun k pc ls st f Q => pz_lf dA (fun k' as f K => pz_R dA d k' 0 (pz_lc k' as) [] f K) Q k pc ls st f
/-- a call -/
def pz_C (dA : Nat → ClassId) (d : Nat) (k : Nat) (as : List Value) (f : pz_F) (Q : Option Value → pz_F → Prop) : Prop := pz_R dA d k 0 (pz_lc k as) [] f Q
def pz_Cd (dA : Nat → ClassId) (d : Nat) : Nat → List Value → pz_F → (Option Value → pz_F → Prop) → Prop := match d with
  | 0 => fun _ _ _ _ => False
  | d + 1 => fun k' as f K => pz_R dA d k' 0 (pz_lc k' as) [] f K
theorem pz_R_eq (dA : Nat → ClassId) (d k pc : Nat) (ls st : List Value) (f : pz_F) (Q : Option Value → pz_F → Prop) : pz_R dA d k pc ls st f Q = pz_lf dA (pz_Cd dA d) Q k pc ls st f := by
  cases d <;> rfl
theorem pz_R_mono {dA : Nat → ClassId} : ∀ (d : Nat) {k pc : Nat} {ls st : List Value} {f : pz_F} {Q Q' : Option Value → pz_F → Prop}, (∀ v f, Q v f → Q' v f) → pz_R dA d k pc ls st f Q → pz_R dA d k pc ls st f Q'
  | 0, k, pc, ls, st, f, Q, Q', hQ, h => pz_lf_mono (C := fun _ _ _ _ => False) (fun _ _ _ _ _ _ q => q) hQ h
  | d + 1, k, pc, ls, st, f, Q, Q', hQ, h => pz_lf_mono (C := fun k' as f K => pz_R dA d k' 0 (pz_lc k' as) [] f K) (fun _ _ _ _ _ hK q => pz_R_mono d hK q) hQ h
theorem pz_Cd_mono {dA : Nat → ClassId} (d : Nat) : pz_cm (pz_Cd dA d) := by
  cases d with
  | zero => exact fun _ _ _ _ _ _ q => q
  | succ d => exact fun _ _ _ _ _ hK q => pz_R_mono d hK q
theorem pz_R_iff {dA : Nat → ClassId} {d k pc : Nat} {ls st : List Value} {f : pz_F} {Q : Option Value → pz_F → Prop} : pz_R dA d k pc ls st f Q ↔ pz_wp (pz_Cd dA d) Q (fun pc ls st f => pz_R dA d k pc ls st f Q) pc ls f (pz_stp dA k pc ls st f) := by
  have e : (fun pc ls st f => pz_R dA d k pc ls st f Q) = pz_lf dA (pz_Cd dA d) Q k := by
    funext pc ls st f
    exact pz_R_eq dA d k pc ls st f Q
  rw [e, pz_R_eq]
  exact pz_lf_iff (pz_Cd_mono d)
/-- what an answer that may be wanting gives -/
def pz_o {α : Type} (z : Option α) (K : α → Prop) : Prop := match z with
  | some v => K v
  | none => False
theorem pz_o_s {α : Type} (v : α) (K : α → Prop) : pz_o (some v) K = K v := rfl
theorem pz_o_n {α : Type} (K : α → Prop) : pz_o none K = False := rfl
section PZR
variable {dA : Nat → ClassId} {d k pc : Nat} {ls st : List Value} {f : pz_F} {Q : Option Value → pz_F → Prop}
theorem pz_go {pc' : Nat} {ls' st' : List Value} {f' : pz_F} (h : pz_stp dA k pc ls st f = some (.inl (pc', ls', st', f'))) : pz_R dA d k pc ls st f Q = pz_R dA d k pc' ls' st' f' Q := by
  apply propext
  rw [pz_R_iff, h]
  exact Iff.rfl
theorem pz_gi {c : Prop} [Decidable c] {p1 p2 : Nat} {ls' st' : List Value} {f' : pz_F} (h : pz_stp dA k pc ls st f = Option.map .inl (if c then some (p1, ls', st', f') else some (p2, ls', st', f'))) : pz_R dA d k pc ls st f Q = if c then pz_R dA d k p1 ls' st' f' Q else pz_R dA d k p2 ls' st' f' Q := by
  by_cases hc : c
  · rw [if_pos hc] at h ⊢
    exact pz_go h
  · rw [if_neg hc] at h ⊢
    exact pz_go h
theorem pz_gb {α : Type} {z : Option α} {pc' : α → Nat} {ls' st' : α → List Value} {f' : α → pz_F} (h : pz_stp dA k pc ls st f = Option.map .inl (z.bind fun v => some (pc' v, ls' v, st' v, f' v))) : pz_R dA d k pc ls st f Q = pz_o z (fun v => pz_R dA d k (pc' v) (ls' v) (st' v) (f' v) Q) := by
  cases z with
  | none =>
    apply propext
    rw [pz_R_iff, h]
    exact Iff.rfl
  | some v => exact pz_go h
theorem pz_gc {z : Option Unit} {k' : Nat} {as rest : List Value} (h : pz_stp dA k pc ls st f = z.bind fun _ => some (.inr (.inl (k', as, rest)))) : pz_R dA (d + 1) k pc ls st f Q = pz_o z (fun _ => pz_C dA d k' as f (fun r f' => pz_R dA (d + 1) k (pc + 3) ls (r.toList ++ rest) f' Q)) := by
  apply propext
  rw [pz_R_iff, h]
  cases z with
  | none => exact Iff.rfl
  | some v => exact Iff.rfl
theorem pz_gs {k' : Nat} {as rest : List Value} (h : pz_stp dA k pc ls st f = some (.inr (.inl (k', as, rest)))) : pz_R dA (d + 1) k pc ls st f Q = pz_C dA d k' as f (fun r f' => pz_R dA (d + 1) k (pc + 3) ls (r.toList ++ rest) f' Q) := by
  apply propext
  rw [pz_R_iff, h]
  exact Iff.rfl
theorem pz_gr {v : Option Value} (h : pz_stp dA k pc ls st f = some (.inr (.inr v))) : pz_R dA d k pc ls st f Q = Q v f := by
  apply propext
  rw [pz_R_iff, h]
  exact Iff.rfl
end PZR
