/-! the first world: what the constructors have made, by the relation's numbers -/
def iw_pos (i : Nat) : Nat := if i = 0 then 0 else if i = 1 then 1 else if i = 2 then 18 else if i = 3 then 24 else if i = 4 then 25 else if i = 10 then 2 else if i = 11 then 10 else if i = 12 then 3 else if i = 13 then 11 else if 20 ≤ i ∧ i < 25 then i - 1 else if 30 ≤ i ∧ i < 36 then i - 26 else if 36 ≤ i ∧ i < 42 then i - 24 else if 60 ≤ i ∧ i < 85 then i - 34 else if i = 100 then 51 else if 102 ≤ i ∧ i < 120 then i - 50 else if 121 ≤ i ∧ i < 124 then i - 51 else 73 + i
def iw_id (j : Nat) : Nat := if j = 0 then 0 else if j = 1 then 1 else if j = 2 then 10 else if j = 3 then 12 else if 4 ≤ j ∧ j < 10 then j + 26 else if j = 10 then 11 else if j = 11 then 13 else if 12 ≤ j ∧ j < 18 then j + 24 else if j = 18 then 2 else if 19 ≤ j ∧ j < 24 then j + 1 else if j = 24 then 3 else if j = 25 then 4 else if 26 ≤ j ∧ j < 51 then j + 34 else if j = 51 then 100 else if 52 ≤ j ∧ j < 70 then j + 50 else if 70 ≤ j ∧ j < 73 then j + 51 else j - 73
theorem iw_ip1 : ∀ i, i < 124 → iw_id (iw_pos i) = i := by decide +kernel
theorem iw_p2 {i : Nat} (h : 124 ≤ i) : iw_pos i = 73 + i := by
  unfold iw_pos
  rw [if_neg (by omega), if_neg (by omega), if_neg (by omega), if_neg (by omega), if_neg (by omega), if_neg (by omega), if_neg (by omega), if_neg (by omega), if_neg (by omega), if_neg (by omega), if_neg (by omega), if_neg (by omega), if_neg (by omega), if_neg (by omega), if_neg (by omega), if_neg (by omega)]
theorem iw_i2 {j : Nat} (h : 73 ≤ j) : iw_id j = j - 73 := by
  unfold iw_id
  rw [if_neg (by omega), if_neg (by omega), if_neg (by omega), if_neg (by omega), if_neg (by omega), if_neg (by omega), if_neg (by omega), if_neg (by omega), if_neg (by omega), if_neg (by omega), if_neg (by omega), if_neg (by omega), if_neg (by omega), if_neg (by omega), if_neg (by omega), if_neg (by omega)]
theorem iw_ip (i : Nat) : iw_id (iw_pos i) = i := by
  rcases Nat.lt_or_ge i 124 with h | h
  · exact iw_ip1 i h
  · rw [iw_p2 h, iw_i2 (by omega)]
    omega
theorem iw_pi : ∀ j, j < 73 → iw_pos (iw_id j) = j := by decide +kernel
/-- addresses: of the cells that were made, and of numbers that are not used -/
def iw_ad (as : List Nat) (M i : Nat) : Nat := if iw_pos i < 73 then as.getD (iw_pos i) 0 else M + iw_pos i
def iw_ix (as : List Nat) (M a : Nat) : Nat := if a ∈ as then iw_id (as.idxOf a) else iw_id (a - M)
theorem iw_hA {as : List Nat} {M : Nat} (hl : as.length = 73) (hn : ∀ i j, i < 73 → j < 73 → as.getD i 0 = as.getD j 0 → i = j) (hM : ∀ a ∈ as, a < M) (i : Nat) : iw_ix as M (iw_ad as M i) = i := by
  unfold iw_ix iw_ad
  by_cases h : iw_pos i < 73
  · rw [if_pos h]
    have hm : as.getD (iw_pos i) 0 ∈ as := by
      rw [List.getD_eq_getElem?_getD, List.getElem?_eq_getElem (by omega)]
      exact List.getElem_mem (by omega)
    rw [if_pos hm]
    have hi : as.idxOf (as.getD (iw_pos i) 0) < as.length := List.idxOf_lt_length_of_mem hm
    have he : as.getD (as.idxOf (as.getD (iw_pos i) 0)) 0 = as.getD (iw_pos i) 0 := by
      rw [List.getD_eq_getElem?_getD, List.getElem?_eq_getElem hi]
      exact List.getElem_idxOf hi
    rw [hn _ _ (by omega) h he]
    exact iw_ip i
  · rw [if_neg h, if_neg (fun q => by have := hM _ q; omega)]
    have e : M + iw_pos i - M = iw_pos i := by omega
    rw [e]
    exact iw_ip i
def iD (k _i : Nat) : Int32 := if k = 1 then 1 else if k = 2 then 1 else if k = 8 then -1 else if k = 15 then -1 else if k = 19 then -9 else 0
def iE (m _j : Nat) : Int32 := if m = 25 then -4 else 0
def iπ (j : Nat) : Nat := if j < 24 then j else 0
theorem iw_GR : GR 0 iE iπ 24 iD := by
  refine ⟨⟨rfl, fun r _ => Or.inl rfl, fun c _ => Or.inl rfl, fun s _ => ⟨0, by decide, rfl⟩, fun r _ => Or.inl rfl, fun s _ => Or.inr (Or.inl rfl)⟩, ⟨fun j => ?_, by decide, fun i j hi hj h => ?_, fun i hi h => ?_⟩, ⟨0, by decide, rfl, trivial⟩, fun c _ => Or.inr ⟨rfl, rfl⟩⟩
  · unfold iπ
    split <;> omega
  · unfold iπ at h
    rw [if_pos hi, if_pos hj] at h
    exact h
  · unfold iπ at h
    rw [if_pos hi] at h
    omega
theorem arrV_ext {cI : ClassId} {N : Nat} {f g : Nat → Value} (h : ∀ j, j < N → f j = g j) : arrV cI N f = arrV cI N g := by
  unfold arrV
  congr 2
  funext j
  exact h j.val j.isLt
theorem iw_ai {D : va_G} {cl : List vw_C} {a n : Nat} {H : Heap} {cA : ClassId} {f g : Nat → Int32} (h : ∀ j, j < n → f j = g j) (hv : va_at D cl (a, .inl (cA, n, .inl f)) H) : va_at D cl (a, .inl (cA, n, .inl g)) H := by
  have hv : H[a]? = some (arrV cA n (fun j => .int (f j))) := hv
  show H[a]? = some (arrV cA n (fun j => .int (g j)))
  rw [hv, arrV_ext (fun j hj => by rw [h j hj])]
theorem iw_ar {D : va_G} {cl : List vw_C} {a n : Nat} {H : Heap} {cA : ClassId} {f g : Nat → Option Nat} (h : ∀ j, j < n → f j = g j) (hv : va_at D cl (a, .inl (cA, n, .inr (.inr (.inr (.inr f))))) H) : va_at D cl (a, .inl (cA, n, .inr (.inr (.inr (.inr g))))) H := by
  have hv : H[a]? = some (arrV cA n (fun j => va_rf (f j))) := hv
  show H[a]? = some (arrV cA n (fun j => va_rf (g j)))
  rw [hv, arrV_ext (fun j hj => by rw [h j hj])]
theorem iw_rep {n j : Nat} {v : Int32} (h : j < n) : (List.replicate n v).getD j 0 = v := by
  rw [List.getD_eq_getElem?_getD, List.getElem?_replicate, if_pos h]
  rfl
section IW
variable {dA dC : Nat → ClassId} {dI : Nat → Nat → Nat} {as : List Nat} {M a : Nat} {H : Heap}
set_option maxRecDepth 100000 in
theorem iw_c0 (hv : va_at (dC, dI) pz_cs (a, ci_c dA as ((ci_cP ++ ci_cX).getD 0 (.inl (0, [])))) H) : ∃ e, cw dA (iw_ad as M) iD iE iπ 24 iD (iw_id 0) = some e ∧ va_at (dC, dI) pz_cs (a, e) H := ⟨_, rfl, hv⟩
set_option maxRecDepth 100000 in
theorem iw_c1 (hv : va_at (dC, dI) pz_cs (a, ci_c dA as ((ci_cP ++ ci_cX).getD 1 (.inl (0, [])))) H) : ∃ e, cw dA (iw_ad as M) iD iE iπ 24 iD (iw_id 1) = some e ∧ va_at (dC, dI) pz_cs (a, e) H := ⟨_, rfl, iw_ar (n := 2) (fun j hj => match j, hj with
  | 0, _ => rfl
  | 1, _ => rfl
  | j + 2, h => absurd h (by omega)) hv⟩
set_option maxRecDepth 100000 in
theorem iw_c2 (hv : va_at (dC, dI) pz_cs (a, ci_c dA as ((ci_cP ++ ci_cX).getD 2 (.inl (0, [])))) H) : ∃ e, cw dA (iw_ad as M) iD iE iπ 24 iD (iw_id 2) = some e ∧ va_at (dC, dI) pz_cs (a, e) H := ⟨_, rfl, hv⟩
set_option maxRecDepth 100000 in
theorem iw_c3 (hv : va_at (dC, dI) pz_cs (a, ci_c dA as ((ci_cP ++ ci_cX).getD 3 (.inl (0, [])))) H) : ∃ e, cw dA (iw_ad as M) iD iE iπ 24 iD (iw_id 3) = some e ∧ va_at (dC, dI) pz_cs (a, e) H := ⟨_, rfl, iw_ar (n := 6) (fun j hj => match j, hj with
  | 0, _ => rfl
  | 1, _ => rfl
  | 2, _ => rfl
  | 3, _ => rfl
  | 4, _ => rfl
  | 5, _ => rfl
  | j + 6, h => absurd h (by omega)) hv⟩
set_option maxRecDepth 100000 in
theorem iw_c4 (hv : va_at (dC, dI) pz_cs (a, ci_c dA as ((ci_cP ++ ci_cX).getD 4 (.inl (0, [])))) H) : ∃ e, cw dA (iw_ad as M) iD iE iπ 24 iD (iw_id 4) = some e ∧ va_at (dC, dI) pz_cs (a, e) H := ⟨_, rfl, hv⟩
set_option maxRecDepth 100000 in
theorem iw_c5 (hv : va_at (dC, dI) pz_cs (a, ci_c dA as ((ci_cP ++ ci_cX).getD 5 (.inl (0, [])))) H) : ∃ e, cw dA (iw_ad as M) iD iE iπ 24 iD (iw_id 5) = some e ∧ va_at (dC, dI) pz_cs (a, e) H := ⟨_, rfl, hv⟩
set_option maxRecDepth 100000 in
theorem iw_c6 (hv : va_at (dC, dI) pz_cs (a, ci_c dA as ((ci_cP ++ ci_cX).getD 6 (.inl (0, [])))) H) : ∃ e, cw dA (iw_ad as M) iD iE iπ 24 iD (iw_id 6) = some e ∧ va_at (dC, dI) pz_cs (a, e) H := ⟨_, rfl, hv⟩
set_option maxRecDepth 100000 in
theorem iw_c7 (hv : va_at (dC, dI) pz_cs (a, ci_c dA as ((ci_cP ++ ci_cX).getD 7 (.inl (0, [])))) H) : ∃ e, cw dA (iw_ad as M) iD iE iπ 24 iD (iw_id 7) = some e ∧ va_at (dC, dI) pz_cs (a, e) H := ⟨_, rfl, hv⟩
set_option maxRecDepth 100000 in
theorem iw_c8 (hv : va_at (dC, dI) pz_cs (a, ci_c dA as ((ci_cP ++ ci_cX).getD 8 (.inl (0, [])))) H) : ∃ e, cw dA (iw_ad as M) iD iE iπ 24 iD (iw_id 8) = some e ∧ va_at (dC, dI) pz_cs (a, e) H := ⟨_, rfl, hv⟩
set_option maxRecDepth 100000 in
theorem iw_c9 (hv : va_at (dC, dI) pz_cs (a, ci_c dA as ((ci_cP ++ ci_cX).getD 9 (.inl (0, [])))) H) : ∃ e, cw dA (iw_ad as M) iD iE iπ 24 iD (iw_id 9) = some e ∧ va_at (dC, dI) pz_cs (a, e) H := ⟨_, rfl, hv⟩
set_option maxRecDepth 100000 in
theorem iw_c10 (hv : va_at (dC, dI) pz_cs (a, ci_c dA as ((ci_cP ++ ci_cX).getD 10 (.inl (0, [])))) H) : ∃ e, cw dA (iw_ad as M) iD iE iπ 24 iD (iw_id 10) = some e ∧ va_at (dC, dI) pz_cs (a, e) H := ⟨_, rfl, hv⟩
set_option maxRecDepth 100000 in
theorem iw_c11 (hv : va_at (dC, dI) pz_cs (a, ci_c dA as ((ci_cP ++ ci_cX).getD 11 (.inl (0, [])))) H) : ∃ e, cw dA (iw_ad as M) iD iE iπ 24 iD (iw_id 11) = some e ∧ va_at (dC, dI) pz_cs (a, e) H := ⟨_, rfl, iw_ar (n := 6) (fun j hj => match j, hj with
  | 0, _ => rfl
  | 1, _ => rfl
  | 2, _ => rfl
  | 3, _ => rfl
  | 4, _ => rfl
  | 5, _ => rfl
  | j + 6, h => absurd h (by omega)) hv⟩
set_option maxRecDepth 100000 in
theorem iw_c12 (hv : va_at (dC, dI) pz_cs (a, ci_c dA as ((ci_cP ++ ci_cX).getD 12 (.inl (0, [])))) H) : ∃ e, cw dA (iw_ad as M) iD iE iπ 24 iD (iw_id 12) = some e ∧ va_at (dC, dI) pz_cs (a, e) H := ⟨_, rfl, hv⟩
set_option maxRecDepth 100000 in
theorem iw_c13 (hv : va_at (dC, dI) pz_cs (a, ci_c dA as ((ci_cP ++ ci_cX).getD 13 (.inl (0, [])))) H) : ∃ e, cw dA (iw_ad as M) iD iE iπ 24 iD (iw_id 13) = some e ∧ va_at (dC, dI) pz_cs (a, e) H := ⟨_, rfl, hv⟩
set_option maxRecDepth 100000 in
theorem iw_c14 (hv : va_at (dC, dI) pz_cs (a, ci_c dA as ((ci_cP ++ ci_cX).getD 14 (.inl (0, [])))) H) : ∃ e, cw dA (iw_ad as M) iD iE iπ 24 iD (iw_id 14) = some e ∧ va_at (dC, dI) pz_cs (a, e) H := ⟨_, rfl, hv⟩
set_option maxRecDepth 100000 in
theorem iw_c15 (hv : va_at (dC, dI) pz_cs (a, ci_c dA as ((ci_cP ++ ci_cX).getD 15 (.inl (0, [])))) H) : ∃ e, cw dA (iw_ad as M) iD iE iπ 24 iD (iw_id 15) = some e ∧ va_at (dC, dI) pz_cs (a, e) H := ⟨_, rfl, hv⟩
set_option maxRecDepth 100000 in
theorem iw_c16 (hv : va_at (dC, dI) pz_cs (a, ci_c dA as ((ci_cP ++ ci_cX).getD 16 (.inl (0, [])))) H) : ∃ e, cw dA (iw_ad as M) iD iE iπ 24 iD (iw_id 16) = some e ∧ va_at (dC, dI) pz_cs (a, e) H := ⟨_, rfl, hv⟩
set_option maxRecDepth 100000 in
theorem iw_c17 (hv : va_at (dC, dI) pz_cs (a, ci_c dA as ((ci_cP ++ ci_cX).getD 17 (.inl (0, [])))) H) : ∃ e, cw dA (iw_ad as M) iD iE iπ 24 iD (iw_id 17) = some e ∧ va_at (dC, dI) pz_cs (a, e) H := ⟨_, rfl, hv⟩
set_option maxRecDepth 100000 in
theorem iw_c18 (hv : va_at (dC, dI) pz_cs (a, ci_c dA as ((ci_cP ++ ci_cX).getD 18 (.inl (0, [])))) H) : ∃ e, cw dA (iw_ad as M) iD iE iπ 24 iD (iw_id 18) = some e ∧ va_at (dC, dI) pz_cs (a, e) H := ⟨_, rfl, iw_ar (n := 5) (fun j hj => match j, hj with
  | 0, _ => rfl
  | 1, _ => rfl
  | 2, _ => rfl
  | 3, _ => rfl
  | 4, _ => rfl
  | j + 5, h => absurd h (by omega)) hv⟩
set_option maxRecDepth 100000 in
theorem iw_c19 (hv : va_at (dC, dI) pz_cs (a, ci_c dA as ((ci_cP ++ ci_cX).getD 19 (.inl (0, [])))) H) : ∃ e, cw dA (iw_ad as M) iD iE iπ 24 iD (iw_id 19) = some e ∧ va_at (dC, dI) pz_cs (a, e) H := ⟨_, rfl, hv⟩
set_option maxRecDepth 100000 in
theorem iw_c20 (hv : va_at (dC, dI) pz_cs (a, ci_c dA as ((ci_cP ++ ci_cX).getD 20 (.inl (0, [])))) H) : ∃ e, cw dA (iw_ad as M) iD iE iπ 24 iD (iw_id 20) = some e ∧ va_at (dC, dI) pz_cs (a, e) H := ⟨_, rfl, hv⟩
set_option maxRecDepth 100000 in
theorem iw_c21 (hv : va_at (dC, dI) pz_cs (a, ci_c dA as ((ci_cP ++ ci_cX).getD 21 (.inl (0, [])))) H) : ∃ e, cw dA (iw_ad as M) iD iE iπ 24 iD (iw_id 21) = some e ∧ va_at (dC, dI) pz_cs (a, e) H := ⟨_, rfl, hv⟩
set_option maxRecDepth 100000 in
theorem iw_c22 (hv : va_at (dC, dI) pz_cs (a, ci_c dA as ((ci_cP ++ ci_cX).getD 22 (.inl (0, [])))) H) : ∃ e, cw dA (iw_ad as M) iD iE iπ 24 iD (iw_id 22) = some e ∧ va_at (dC, dI) pz_cs (a, e) H := ⟨_, rfl, hv⟩
set_option maxRecDepth 100000 in
theorem iw_c23 (hv : va_at (dC, dI) pz_cs (a, ci_c dA as ((ci_cP ++ ci_cX).getD 23 (.inl (0, [])))) H) : ∃ e, cw dA (iw_ad as M) iD iE iπ 24 iD (iw_id 23) = some e ∧ va_at (dC, dI) pz_cs (a, e) H := ⟨_, rfl, hv⟩
set_option maxRecDepth 100000 in
theorem iw_c24 (hv : va_at (dC, dI) pz_cs (a, ci_c dA as ((ci_cP ++ ci_cX).getD 24 (.inl (0, [])))) H) : ∃ e, cw dA (iw_ad as M) iD iE iπ 24 iD (iw_id 24) = some e ∧ va_at (dC, dI) pz_cs (a, e) H := ⟨_, rfl, hv⟩
set_option maxRecDepth 100000 in
theorem iw_c25 (hv : va_at (dC, dI) pz_cs (a, ci_c dA as ((ci_cP ++ ci_cX).getD 25 (.inl (0, [])))) H) : ∃ e, cw dA (iw_ad as M) iD iE iπ 24 iD (iw_id 25) = some e ∧ va_at (dC, dI) pz_cs (a, e) H := ⟨_, rfl, iw_ar (n := 24) (fun j hj => match j, hj with
  | 0, _ => rfl
  | 1, _ => rfl
  | 2, _ => rfl
  | 3, _ => rfl
  | 4, _ => rfl
  | 5, _ => rfl
  | 6, _ => rfl
  | 7, _ => rfl
  | 8, _ => rfl
  | 9, _ => rfl
  | 10, _ => rfl
  | 11, _ => rfl
  | 12, _ => rfl
  | 13, _ => rfl
  | 14, _ => rfl
  | 15, _ => rfl
  | 16, _ => rfl
  | 17, _ => rfl
  | 18, _ => rfl
  | 19, _ => rfl
  | 20, _ => rfl
  | 21, _ => rfl
  | 22, _ => rfl
  | 23, _ => rfl
  | j + 24, h => absurd h (by omega)) hv⟩
set_option maxRecDepth 100000 in
theorem iw_c26 (hv : va_at (dC, dI) pz_cs (a, ci_c dA as ((ci_cP ++ ci_cX).getD 26 (.inl (0, [])))) H) : ∃ e, cw dA (iw_ad as M) iD iE iπ 24 iD (iw_id 26) = some e ∧ va_at (dC, dI) pz_cs (a, e) H := ⟨_, rfl, hv⟩
set_option maxRecDepth 100000 in
theorem iw_c27 (hv : va_at (dC, dI) pz_cs (a, ci_c dA as ((ci_cP ++ ci_cX).getD 27 (.inl (0, [])))) H) : ∃ e, cw dA (iw_ad as M) iD iE iπ 24 iD (iw_id 27) = some e ∧ va_at (dC, dI) pz_cs (a, e) H := ⟨_, rfl, hv⟩
set_option maxRecDepth 100000 in
theorem iw_c28 (hv : va_at (dC, dI) pz_cs (a, ci_c dA as ((ci_cP ++ ci_cX).getD 28 (.inl (0, [])))) H) : ∃ e, cw dA (iw_ad as M) iD iE iπ 24 iD (iw_id 28) = some e ∧ va_at (dC, dI) pz_cs (a, e) H := ⟨_, rfl, hv⟩
set_option maxRecDepth 100000 in
theorem iw_c29 (hv : va_at (dC, dI) pz_cs (a, ci_c dA as ((ci_cP ++ ci_cX).getD 29 (.inl (0, [])))) H) : ∃ e, cw dA (iw_ad as M) iD iE iπ 24 iD (iw_id 29) = some e ∧ va_at (dC, dI) pz_cs (a, e) H := ⟨_, rfl, hv⟩
set_option maxRecDepth 100000 in
theorem iw_c30 (hv : va_at (dC, dI) pz_cs (a, ci_c dA as ((ci_cP ++ ci_cX).getD 30 (.inl (0, [])))) H) : ∃ e, cw dA (iw_ad as M) iD iE iπ 24 iD (iw_id 30) = some e ∧ va_at (dC, dI) pz_cs (a, e) H := ⟨_, rfl, hv⟩
set_option maxRecDepth 100000 in
theorem iw_c31 (hv : va_at (dC, dI) pz_cs (a, ci_c dA as ((ci_cP ++ ci_cX).getD 31 (.inl (0, [])))) H) : ∃ e, cw dA (iw_ad as M) iD iE iπ 24 iD (iw_id 31) = some e ∧ va_at (dC, dI) pz_cs (a, e) H := ⟨_, rfl, hv⟩
set_option maxRecDepth 100000 in
theorem iw_c32 (hv : va_at (dC, dI) pz_cs (a, ci_c dA as ((ci_cP ++ ci_cX).getD 32 (.inl (0, [])))) H) : ∃ e, cw dA (iw_ad as M) iD iE iπ 24 iD (iw_id 32) = some e ∧ va_at (dC, dI) pz_cs (a, e) H := ⟨_, rfl, hv⟩
set_option maxRecDepth 100000 in
theorem iw_c33 (hv : va_at (dC, dI) pz_cs (a, ci_c dA as ((ci_cP ++ ci_cX).getD 33 (.inl (0, [])))) H) : ∃ e, cw dA (iw_ad as M) iD iE iπ 24 iD (iw_id 33) = some e ∧ va_at (dC, dI) pz_cs (a, e) H := ⟨_, rfl, hv⟩
set_option maxRecDepth 100000 in
theorem iw_c34 (hv : va_at (dC, dI) pz_cs (a, ci_c dA as ((ci_cP ++ ci_cX).getD 34 (.inl (0, [])))) H) : ∃ e, cw dA (iw_ad as M) iD iE iπ 24 iD (iw_id 34) = some e ∧ va_at (dC, dI) pz_cs (a, e) H := ⟨_, rfl, hv⟩
set_option maxRecDepth 100000 in
theorem iw_c35 (hv : va_at (dC, dI) pz_cs (a, ci_c dA as ((ci_cP ++ ci_cX).getD 35 (.inl (0, [])))) H) : ∃ e, cw dA (iw_ad as M) iD iE iπ 24 iD (iw_id 35) = some e ∧ va_at (dC, dI) pz_cs (a, e) H := ⟨_, rfl, hv⟩
set_option maxRecDepth 100000 in
theorem iw_c36 (hv : va_at (dC, dI) pz_cs (a, ci_c dA as ((ci_cP ++ ci_cX).getD 36 (.inl (0, [])))) H) : ∃ e, cw dA (iw_ad as M) iD iE iπ 24 iD (iw_id 36) = some e ∧ va_at (dC, dI) pz_cs (a, e) H := ⟨_, rfl, hv⟩
set_option maxRecDepth 100000 in
theorem iw_c37 (hv : va_at (dC, dI) pz_cs (a, ci_c dA as ((ci_cP ++ ci_cX).getD 37 (.inl (0, [])))) H) : ∃ e, cw dA (iw_ad as M) iD iE iπ 24 iD (iw_id 37) = some e ∧ va_at (dC, dI) pz_cs (a, e) H := ⟨_, rfl, hv⟩
set_option maxRecDepth 100000 in
theorem iw_c38 (hv : va_at (dC, dI) pz_cs (a, ci_c dA as ((ci_cP ++ ci_cX).getD 38 (.inl (0, [])))) H) : ∃ e, cw dA (iw_ad as M) iD iE iπ 24 iD (iw_id 38) = some e ∧ va_at (dC, dI) pz_cs (a, e) H := ⟨_, rfl, hv⟩
set_option maxRecDepth 100000 in
theorem iw_c39 (hv : va_at (dC, dI) pz_cs (a, ci_c dA as ((ci_cP ++ ci_cX).getD 39 (.inl (0, [])))) H) : ∃ e, cw dA (iw_ad as M) iD iE iπ 24 iD (iw_id 39) = some e ∧ va_at (dC, dI) pz_cs (a, e) H := ⟨_, rfl, hv⟩
set_option maxRecDepth 100000 in
theorem iw_c40 (hv : va_at (dC, dI) pz_cs (a, ci_c dA as ((ci_cP ++ ci_cX).getD 40 (.inl (0, [])))) H) : ∃ e, cw dA (iw_ad as M) iD iE iπ 24 iD (iw_id 40) = some e ∧ va_at (dC, dI) pz_cs (a, e) H := ⟨_, rfl, hv⟩
set_option maxRecDepth 100000 in
theorem iw_c41 (hv : va_at (dC, dI) pz_cs (a, ci_c dA as ((ci_cP ++ ci_cX).getD 41 (.inl (0, [])))) H) : ∃ e, cw dA (iw_ad as M) iD iE iπ 24 iD (iw_id 41) = some e ∧ va_at (dC, dI) pz_cs (a, e) H := ⟨_, rfl, hv⟩
set_option maxRecDepth 100000 in
theorem iw_c42 (hv : va_at (dC, dI) pz_cs (a, ci_c dA as ((ci_cP ++ ci_cX).getD 42 (.inl (0, [])))) H) : ∃ e, cw dA (iw_ad as M) iD iE iπ 24 iD (iw_id 42) = some e ∧ va_at (dC, dI) pz_cs (a, e) H := ⟨_, rfl, hv⟩
set_option maxRecDepth 100000 in
theorem iw_c43 (hv : va_at (dC, dI) pz_cs (a, ci_c dA as ((ci_cP ++ ci_cX).getD 43 (.inl (0, [])))) H) : ∃ e, cw dA (iw_ad as M) iD iE iπ 24 iD (iw_id 43) = some e ∧ va_at (dC, dI) pz_cs (a, e) H := ⟨_, rfl, hv⟩
set_option maxRecDepth 100000 in
theorem iw_c44 (hv : va_at (dC, dI) pz_cs (a, ci_c dA as ((ci_cP ++ ci_cX).getD 44 (.inl (0, [])))) H) : ∃ e, cw dA (iw_ad as M) iD iE iπ 24 iD (iw_id 44) = some e ∧ va_at (dC, dI) pz_cs (a, e) H := ⟨_, rfl, hv⟩
set_option maxRecDepth 100000 in
theorem iw_c45 (hv : va_at (dC, dI) pz_cs (a, ci_c dA as ((ci_cP ++ ci_cX).getD 45 (.inl (0, [])))) H) : ∃ e, cw dA (iw_ad as M) iD iE iπ 24 iD (iw_id 45) = some e ∧ va_at (dC, dI) pz_cs (a, e) H := ⟨_, rfl, hv⟩
set_option maxRecDepth 100000 in
theorem iw_c46 (hv : va_at (dC, dI) pz_cs (a, ci_c dA as ((ci_cP ++ ci_cX).getD 46 (.inl (0, [])))) H) : ∃ e, cw dA (iw_ad as M) iD iE iπ 24 iD (iw_id 46) = some e ∧ va_at (dC, dI) pz_cs (a, e) H := ⟨_, rfl, hv⟩
set_option maxRecDepth 100000 in
theorem iw_c47 (hv : va_at (dC, dI) pz_cs (a, ci_c dA as ((ci_cP ++ ci_cX).getD 47 (.inl (0, [])))) H) : ∃ e, cw dA (iw_ad as M) iD iE iπ 24 iD (iw_id 47) = some e ∧ va_at (dC, dI) pz_cs (a, e) H := ⟨_, rfl, hv⟩
set_option maxRecDepth 100000 in
theorem iw_c48 (hv : va_at (dC, dI) pz_cs (a, ci_c dA as ((ci_cP ++ ci_cX).getD 48 (.inl (0, [])))) H) : ∃ e, cw dA (iw_ad as M) iD iE iπ 24 iD (iw_id 48) = some e ∧ va_at (dC, dI) pz_cs (a, e) H := ⟨_, rfl, hv⟩
set_option maxRecDepth 100000 in
theorem iw_c49 (hv : va_at (dC, dI) pz_cs (a, ci_c dA as ((ci_cP ++ ci_cX).getD 49 (.inl (0, [])))) H) : ∃ e, cw dA (iw_ad as M) iD iE iπ 24 iD (iw_id 49) = some e ∧ va_at (dC, dI) pz_cs (a, e) H := ⟨_, rfl, hv⟩
set_option maxRecDepth 100000 in
theorem iw_c50 (hv : va_at (dC, dI) pz_cs (a, ci_c dA as ((ci_cP ++ ci_cX).getD 50 (.inl (0, [])))) H) : ∃ e, cw dA (iw_ad as M) iD iE iπ 24 iD (iw_id 50) = some e ∧ va_at (dC, dI) pz_cs (a, e) H := ⟨_, rfl, hv⟩
set_option maxRecDepth 100000 in
theorem iw_c51 (hv : va_at (dC, dI) pz_cs (a, ci_c dA as ((ci_cP ++ ci_cX).getD 51 (.inl (0, [])))) H) : ∃ e, cw dA (iw_ad as M) iD iE iπ 24 iD (iw_id 51) = some e ∧ va_at (dC, dI) pz_cs (a, e) H := ⟨_, rfl, hv⟩
set_option maxRecDepth 100000 in
theorem iw_c52 (hv : va_at (dC, dI) pz_cs (a, ci_c dA as ((ci_cP ++ ci_cX).getD 52 (.inl (0, [])))) H) : ∃ e, cw dA (iw_ad as M) iD iE iπ 24 iD (iw_id 52) = some e ∧ va_at (dC, dI) pz_cs (a, e) H := by
  have hv : va_at (dC, dI) pz_cs (a, .inl (dA 0, (List.replicate 2 (1 : Int32)).length, .inl (fun j => (List.replicate 2 (1 : Int32)).getD j 0))) H := hv
  rw [List.length_replicate] at hv
  exact ⟨_, rfl, iw_ai (n := 2) (fun j hj => iw_rep hj) hv⟩
set_option maxRecDepth 100000 in
theorem iw_c53 (hv : va_at (dC, dI) pz_cs (a, ci_c dA as ((ci_cP ++ ci_cX).getD 53 (.inl (0, [])))) H) : ∃ e, cw dA (iw_ad as M) iD iE iπ 24 iD (iw_id 53) = some e ∧ va_at (dC, dI) pz_cs (a, e) H := by
  have hv : va_at (dC, dI) pz_cs (a, .inl (dA 0, (List.replicate 2 (0 : Int32)).length, .inl (fun j => (List.replicate 2 (0 : Int32)).getD j 0))) H := hv
  rw [List.length_replicate] at hv
  exact ⟨_, rfl, iw_ai (n := 2) (fun j hj => iw_rep hj) hv⟩
set_option maxRecDepth 100000 in
theorem iw_c54 (hv : va_at (dC, dI) pz_cs (a, ci_c dA as ((ci_cP ++ ci_cX).getD 54 (.inl (0, [])))) H) : ∃ e, cw dA (iw_ad as M) iD iE iπ 24 iD (iw_id 54) = some e ∧ va_at (dC, dI) pz_cs (a, e) H := by
  have hv : va_at (dC, dI) pz_cs (a, .inl (dA 0, (List.replicate 2 (0 : Int32)).length, .inl (fun j => (List.replicate 2 (0 : Int32)).getD j 0))) H := hv
  rw [List.length_replicate] at hv
  exact ⟨_, rfl, iw_ai (n := 2) (fun j hj => iw_rep hj) hv⟩
set_option maxRecDepth 100000 in
theorem iw_c55 (hv : va_at (dC, dI) pz_cs (a, ci_c dA as ((ci_cP ++ ci_cX).getD 55 (.inl (0, [])))) H) : ∃ e, cw dA (iw_ad as M) iD iE iπ 24 iD (iw_id 55) = some e ∧ va_at (dC, dI) pz_cs (a, e) H := by
  have hv : va_at (dC, dI) pz_cs (a, .inl (dA 0, (List.replicate 2 (0 : Int32)).length, .inl (fun j => (List.replicate 2 (0 : Int32)).getD j 0))) H := hv
  rw [List.length_replicate] at hv
  exact ⟨_, rfl, iw_ai (n := 2) (fun j hj => iw_rep hj) hv⟩
set_option maxRecDepth 100000 in
theorem iw_c56 (hv : va_at (dC, dI) pz_cs (a, ci_c dA as ((ci_cP ++ ci_cX).getD 56 (.inl (0, [])))) H) : ∃ e, cw dA (iw_ad as M) iD iE iπ 24 iD (iw_id 56) = some e ∧ va_at (dC, dI) pz_cs (a, e) H := by
  have hv : va_at (dC, dI) pz_cs (a, .inl (dA 0, (List.replicate 2 (0 : Int32)).length, .inl (fun j => (List.replicate 2 (0 : Int32)).getD j 0))) H := hv
  rw [List.length_replicate] at hv
  exact ⟨_, rfl, iw_ai (n := 2) (fun j hj => iw_rep hj) hv⟩
set_option maxRecDepth 100000 in
theorem iw_c57 (hv : va_at (dC, dI) pz_cs (a, ci_c dA as ((ci_cP ++ ci_cX).getD 57 (.inl (0, [])))) H) : ∃ e, cw dA (iw_ad as M) iD iE iπ 24 iD (iw_id 57) = some e ∧ va_at (dC, dI) pz_cs (a, e) H := by
  have hv : va_at (dC, dI) pz_cs (a, .inl (dA 0, (List.replicate 12 (0 : Int32)).length, .inl (fun j => (List.replicate 12 (0 : Int32)).getD j 0))) H := hv
  rw [List.length_replicate] at hv
  exact ⟨_, rfl, iw_ai (n := 12) (fun j hj => iw_rep hj) hv⟩
set_option maxRecDepth 100000 in
theorem iw_c58 (hv : va_at (dC, dI) pz_cs (a, ci_c dA as ((ci_cP ++ ci_cX).getD 58 (.inl (0, [])))) H) : ∃ e, cw dA (iw_ad as M) iD iE iπ 24 iD (iw_id 58) = some e ∧ va_at (dC, dI) pz_cs (a, e) H := by
  have hv : va_at (dC, dI) pz_cs (a, .inl (dA 0, (List.replicate 12 (-1 : Int32)).length, .inl (fun j => (List.replicate 12 (-1 : Int32)).getD j 0))) H := hv
  rw [List.length_replicate] at hv
  exact ⟨_, rfl, iw_ai (n := 12) (fun j hj => iw_rep hj) hv⟩
set_option maxRecDepth 100000 in
theorem iw_c59 (hv : va_at (dC, dI) pz_cs (a, ci_c dA as ((ci_cP ++ ci_cX).getD 59 (.inl (0, [])))) H) : ∃ e, cw dA (iw_ad as M) iD iE iπ 24 iD (iw_id 59) = some e ∧ va_at (dC, dI) pz_cs (a, e) H := by
  have hv : va_at (dC, dI) pz_cs (a, .inl (dA 0, (List.replicate 12 (0 : Int32)).length, .inl (fun j => (List.replicate 12 (0 : Int32)).getD j 0))) H := hv
  rw [List.length_replicate] at hv
  exact ⟨_, rfl, iw_ai (n := 12) (fun j hj => iw_rep hj) hv⟩
set_option maxRecDepth 100000 in
theorem iw_c60 (hv : va_at (dC, dI) pz_cs (a, ci_c dA as ((ci_cP ++ ci_cX).getD 60 (.inl (0, [])))) H) : ∃ e, cw dA (iw_ad as M) iD iE iπ 24 iD (iw_id 60) = some e ∧ va_at (dC, dI) pz_cs (a, e) H := by
  have hv : va_at (dC, dI) pz_cs (a, .inl (dA 0, (List.replicate 12 (0 : Int32)).length, .inl (fun j => (List.replicate 12 (0 : Int32)).getD j 0))) H := hv
  rw [List.length_replicate] at hv
  exact ⟨_, rfl, iw_ai (n := 12) (fun j hj => iw_rep hj) hv⟩
set_option maxRecDepth 100000 in
theorem iw_c61 (hv : va_at (dC, dI) pz_cs (a, ci_c dA as ((ci_cP ++ ci_cX).getD 61 (.inl (0, [])))) H) : ∃ e, cw dA (iw_ad as M) iD iE iπ 24 iD (iw_id 61) = some e ∧ va_at (dC, dI) pz_cs (a, e) H := by
  have hv : va_at (dC, dI) pz_cs (a, .inl (dA 0, (List.replicate 12 (0 : Int32)).length, .inl (fun j => (List.replicate 12 (0 : Int32)).getD j 0))) H := hv
  rw [List.length_replicate] at hv
  exact ⟨_, rfl, iw_ai (n := 12) (fun j hj => iw_rep hj) hv⟩
set_option maxRecDepth 100000 in
theorem iw_c62 (hv : va_at (dC, dI) pz_cs (a, ci_c dA as ((ci_cP ++ ci_cX).getD 62 (.inl (0, [])))) H) : ∃ e, cw dA (iw_ad as M) iD iE iπ 24 iD (iw_id 62) = some e ∧ va_at (dC, dI) pz_cs (a, e) H := by
  have hv : va_at (dC, dI) pz_cs (a, .inl (dA 0, (List.replicate 12 (0 : Int32)).length, .inl (fun j => (List.replicate 12 (0 : Int32)).getD j 0))) H := hv
  rw [List.length_replicate] at hv
  exact ⟨_, rfl, iw_ai (n := 12) (fun j hj => iw_rep hj) hv⟩
set_option maxRecDepth 100000 in
theorem iw_c63 (hv : va_at (dC, dI) pz_cs (a, ci_c dA as ((ci_cP ++ ci_cX).getD 63 (.inl (0, [])))) H) : ∃ e, cw dA (iw_ad as M) iD iE iπ 24 iD (iw_id 63) = some e ∧ va_at (dC, dI) pz_cs (a, e) H := by
  have hv : va_at (dC, dI) pz_cs (a, .inl (dA 0, (List.replicate 12 (0 : Int32)).length, .inl (fun j => (List.replicate 12 (0 : Int32)).getD j 0))) H := hv
  rw [List.length_replicate] at hv
  exact ⟨_, rfl, iw_ai (n := 12) (fun j hj => iw_rep hj) hv⟩
set_option maxRecDepth 100000 in
theorem iw_c64 (hv : va_at (dC, dI) pz_cs (a, ci_c dA as ((ci_cP ++ ci_cX).getD 64 (.inl (0, [])))) H) : ∃ e, cw dA (iw_ad as M) iD iE iπ 24 iD (iw_id 64) = some e ∧ va_at (dC, dI) pz_cs (a, e) H := by
  have hv : va_at (dC, dI) pz_cs (a, .inl (dA 1, (List.replicate 12 (0 : Int32)).length, .inl (fun j => (List.replicate 12 (0 : Int32)).getD j 0))) H := hv
  rw [List.length_replicate] at hv
  exact ⟨_, rfl, iw_ai (n := 12) (fun j hj => iw_rep hj) hv⟩
set_option maxRecDepth 100000 in
theorem iw_c65 (hv : va_at (dC, dI) pz_cs (a, ci_c dA as ((ci_cP ++ ci_cX).getD 65 (.inl (0, [])))) H) : ∃ e, cw dA (iw_ad as M) iD iE iπ 24 iD (iw_id 65) = some e ∧ va_at (dC, dI) pz_cs (a, e) H := by
  have hv : va_at (dC, dI) pz_cs (a, .inl (dA 0, (List.replicate 5 (-1 : Int32)).length, .inl (fun j => (List.replicate 5 (-1 : Int32)).getD j 0))) H := hv
  rw [List.length_replicate] at hv
  exact ⟨_, rfl, iw_ai (n := 5) (fun j hj => iw_rep hj) hv⟩
set_option maxRecDepth 100000 in
theorem iw_c66 (hv : va_at (dC, dI) pz_cs (a, ci_c dA as ((ci_cP ++ ci_cX).getD 66 (.inl (0, [])))) H) : ∃ e, cw dA (iw_ad as M) iD iE iπ 24 iD (iw_id 66) = some e ∧ va_at (dC, dI) pz_cs (a, e) H := by
  have hv : va_at (dC, dI) pz_cs (a, .inl (dA 0, (List.replicate 5 (0 : Int32)).length, .inl (fun j => (List.replicate 5 (0 : Int32)).getD j 0))) H := hv
  rw [List.length_replicate] at hv
  exact ⟨_, rfl, iw_ai (n := 5) (fun j hj => iw_rep hj) hv⟩
set_option maxRecDepth 100000 in
theorem iw_c67 (hv : va_at (dC, dI) pz_cs (a, ci_c dA as ((ci_cP ++ ci_cX).getD 67 (.inl (0, [])))) H) : ∃ e, cw dA (iw_ad as M) iD iE iπ 24 iD (iw_id 67) = some e ∧ va_at (dC, dI) pz_cs (a, e) H := by
  have hv : va_at (dC, dI) pz_cs (a, .inl (dA 0, (List.replicate 5 (0 : Int32)).length, .inl (fun j => (List.replicate 5 (0 : Int32)).getD j 0))) H := hv
  rw [List.length_replicate] at hv
  exact ⟨_, rfl, iw_ai (n := 5) (fun j hj => iw_rep hj) hv⟩
set_option maxRecDepth 100000 in
theorem iw_c68 (hv : va_at (dC, dI) pz_cs (a, ci_c dA as ((ci_cP ++ ci_cX).getD 68 (.inl (0, [])))) H) : ∃ e, cw dA (iw_ad as M) iD iE iπ 24 iD (iw_id 68) = some e ∧ va_at (dC, dI) pz_cs (a, e) H := by
  have hv : va_at (dC, dI) pz_cs (a, .inl (dA 1, (List.replicate 5 (0 : Int32)).length, .inl (fun j => (List.replicate 5 (0 : Int32)).getD j 0))) H := hv
  rw [List.length_replicate] at hv
  exact ⟨_, rfl, iw_ai (n := 5) (fun j hj => iw_rep hj) hv⟩
set_option maxRecDepth 100000 in
theorem iw_c69 (hv : va_at (dC, dI) pz_cs (a, ci_c dA as ((ci_cP ++ ci_cX).getD 69 (.inl (0, [])))) H) : ∃ e, cw dA (iw_ad as M) iD iE iπ 24 iD (iw_id 69) = some e ∧ va_at (dC, dI) pz_cs (a, e) H := by
  have hv : va_at (dC, dI) pz_cs (a, .inl (dA 0, (List.replicate 5 (-9 : Int32)).length, .inl (fun j => (List.replicate 5 (-9 : Int32)).getD j 0))) H := hv
  rw [List.length_replicate] at hv
  exact ⟨_, rfl, iw_ai (n := 5) (fun j hj => iw_rep hj) hv⟩
set_option maxRecDepth 100000 in
theorem iw_c70 (hv : va_at (dC, dI) pz_cs (a, ci_c dA as ((ci_cP ++ ci_cX).getD 70 (.inl (0, [])))) H) : ∃ e, cw dA (iw_ad as M) iD iE iπ 24 iD (iw_id 70) = some e ∧ va_at (dC, dI) pz_cs (a, e) H := by
  have hv : va_at (dC, dI) pz_cs (a, .inl (dA 0, (List.replicate 288 (0 : Int32)).length, .inl (fun j => (List.replicate 288 (0 : Int32)).getD j 0))) H := hv
  rw [List.length_replicate] at hv
  exact ⟨_, rfl, iw_ai (n := 288) (fun j hj => iw_rep hj) hv⟩
set_option maxRecDepth 100000 in
theorem iw_c71 (hv : va_at (dC, dI) pz_cs (a, ci_c dA as ((ci_cP ++ ci_cX).getD 71 (.inl (0, [])))) H) : ∃ e, cw dA (iw_ad as M) iD iE iπ 24 iD (iw_id 71) = some e ∧ va_at (dC, dI) pz_cs (a, e) H := by
  have hv : va_at (dC, dI) pz_cs (a, .inl (dA 0, (List.replicate 12 (0 : Int32)).length, .inl (fun j => (List.replicate 12 (0 : Int32)).getD j 0))) H := hv
  rw [List.length_replicate] at hv
  exact ⟨_, rfl, iw_ai (n := 12) (fun j hj => iw_rep hj) hv⟩
set_option maxRecDepth 100000 in
theorem iw_c72 (hv : va_at (dC, dI) pz_cs (a, ci_c dA as ((ci_cP ++ ci_cX).getD 72 (.inl (0, [])))) H) : ∃ e, cw dA (iw_ad as M) iD iE iπ 24 iD (iw_id 72) = some e ∧ va_at (dC, dI) pz_cs (a, e) H := by
  have hv : va_at (dC, dI) pz_cs (a, .inl (dA 0, (List.replicate 12 (0 : Int32)).length, .inl (fun j => (List.replicate 12 (0 : Int32)).getD j 0))) H := hv
  rw [List.length_replicate] at hv
  exact ⟨_, rfl, iw_ai (n := 12) (fun j hj => iw_rep hj) hv⟩
theorem iw_call (k : Nat) (hk : k < 73) (hv : va_at (dC, dI) pz_cs (a, ci_c dA as ((ci_cP ++ ci_cX).getD k (.inl (0, [])))) H) : ∃ e, cw dA (iw_ad as M) iD iE iπ 24 iD (iw_id k) = some e ∧ va_at (dC, dI) pz_cs (a, e) H := match k, hk, hv with
  | 0, _, hv => iw_c0 hv
  | 1, _, hv => iw_c1 hv
  | 2, _, hv => iw_c2 hv
  | 3, _, hv => iw_c3 hv
  | 4, _, hv => iw_c4 hv
  | 5, _, hv => iw_c5 hv
  | 6, _, hv => iw_c6 hv
  | 7, _, hv => iw_c7 hv
  | 8, _, hv => iw_c8 hv
  | 9, _, hv => iw_c9 hv
  | 10, _, hv => iw_c10 hv
  | 11, _, hv => iw_c11 hv
  | 12, _, hv => iw_c12 hv
  | 13, _, hv => iw_c13 hv
  | 14, _, hv => iw_c14 hv
  | 15, _, hv => iw_c15 hv
  | 16, _, hv => iw_c16 hv
  | 17, _, hv => iw_c17 hv
  | 18, _, hv => iw_c18 hv
  | 19, _, hv => iw_c19 hv
  | 20, _, hv => iw_c20 hv
  | 21, _, hv => iw_c21 hv
  | 22, _, hv => iw_c22 hv
  | 23, _, hv => iw_c23 hv
  | 24, _, hv => iw_c24 hv
  | 25, _, hv => iw_c25 hv
  | 26, _, hv => iw_c26 hv
  | 27, _, hv => iw_c27 hv
  | 28, _, hv => iw_c28 hv
  | 29, _, hv => iw_c29 hv
  | 30, _, hv => iw_c30 hv
  | 31, _, hv => iw_c31 hv
  | 32, _, hv => iw_c32 hv
  | 33, _, hv => iw_c33 hv
  | 34, _, hv => iw_c34 hv
  | 35, _, hv => iw_c35 hv
  | 36, _, hv => iw_c36 hv
  | 37, _, hv => iw_c37 hv
  | 38, _, hv => iw_c38 hv
  | 39, _, hv => iw_c39 hv
  | 40, _, hv => iw_c40 hv
  | 41, _, hv => iw_c41 hv
  | 42, _, hv => iw_c42 hv
  | 43, _, hv => iw_c43 hv
  | 44, _, hv => iw_c44 hv
  | 45, _, hv => iw_c45 hv
  | 46, _, hv => iw_c46 hv
  | 47, _, hv => iw_c47 hv
  | 48, _, hv => iw_c48 hv
  | 49, _, hv => iw_c49 hv
  | 50, _, hv => iw_c50 hv
  | 51, _, hv => iw_c51 hv
  | 52, _, hv => iw_c52 hv
  | 53, _, hv => iw_c53 hv
  | 54, _, hv => iw_c54 hv
  | 55, _, hv => iw_c55 hv
  | 56, _, hv => iw_c56 hv
  | 57, _, hv => iw_c57 hv
  | 58, _, hv => iw_c58 hv
  | 59, _, hv => iw_c59 hv
  | 60, _, hv => iw_c60 hv
  | 61, _, hv => iw_c61 hv
  | 62, _, hv => iw_c62 hv
  | 63, _, hv => iw_c63 hv
  | 64, _, hv => iw_c64 hv
  | 65, _, hv => iw_c65 hv
  | 66, _, hv => iw_c66 hv
  | 67, _, hv => iw_c67 hv
  | 68, _, hv => iw_c68 hv
  | 69, _, hv => iw_c69 hv
  | 70, _, hv => iw_c70 hv
  | 71, _, hv => iw_c71 hv
  | 72, _, hv => iw_c72 hv
  | k + 73, h, _ => absurd h (by omega)
end IW
