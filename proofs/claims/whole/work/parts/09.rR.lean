/-! R_runs (I)Z -/
theorem e49 {dA : Nat → ClassId} {d : Nat} {f : pz_F} {Q : Option Value → pz_F → Prop} {a0 : Nat} {a1 : Int32} : pz_C dA d 49 [.ref a0, .int a1] f Q = pz_R dA d 49 0 [.ref a0, .int a1] [] f Q := rfl
theorem d49_0 : decode (pz_b 49) 0 = .ok (.aload_n 0, 1) := by decide +kernel
theorem q49_0 {dA : Nat → ClassId} {d : Nat} {st : List Value} {f : pz_F} {Q : Option Value → pz_F → Prop} {v1 : Value} {x : Nat} : pz_R dA d 49 0 [.ref x, v1] st f Q = pz_R dA d 49 1 [.ref x, v1] (.ref x :: st) f Q := pz_go (pz_so d49_0 rfl)
theorem d49_1 : decode (pz_b 49) 1 = .ok (.getfield 9, 3) := by decide +kernel
theorem q49_1 {dA : Nat → ClassId} {d : Nat} {st : List Value} {f : pz_F} {Q : Option Value → pz_F → Prop} {v0 v1 : Value} {a : Nat} : pz_R dA d 49 1 [v0, v1] (.ref a :: st) f Q = pz_o (pz_gf f a 2 0) (fun v => pz_R dA d 49 4 [v0, v1] (v :: st) f Q) := pz_gg d49_1 rfl
theorem d49_4 : decode (pz_b 49) 4 = .ok (.iconst 1, 1) := by decide +kernel
theorem q49_4 {dA : Nat → ClassId} {d : Nat} {st : List Value} {f : pz_F} {Q : Option Value → pz_F → Prop} {v0 v1 : Value} : pz_R dA d 49 4 [v0, v1] st f Q = pz_R dA d 49 5 [v0, v1] (.int 1 :: st) f Q := pz_go (pz_so d49_4 rfl)
theorem d49_5 : decode (pz_b 49) 5 = .ok (.if_icmp .ne 15, 3) := by decide +kernel
theorem q49_5 {dA : Nat → ClassId} {d : Nat} {st : List Value} {f : pz_F} {Q : Option Value → pz_F → Prop} {v0 v1 : Value} {x y : Int32} : pz_R dA d 49 5 [v0, v1] (.int y :: .int x :: st) f Q = (if x = y then pz_R dA d 49 8 [v0, v1] st f Q else pz_R dA d 49 20 [v0, v1] st f Q) := pz_gjn .ne d49_5 rfl
theorem d49_8 : decode (pz_b 49) 8 = .ok (.aload_n 0, 1) := by decide +kernel
theorem q49_8 {dA : Nat → ClassId} {d : Nat} {st : List Value} {f : pz_F} {Q : Option Value → pz_F → Prop} {v1 : Value} {x : Nat} : pz_R dA d 49 8 [.ref x, v1] st f Q = pz_R dA d 49 9 [.ref x, v1] (.ref x :: st) f Q := pz_go (pz_so d49_8 rfl)
theorem d49_9 : decode (pz_b 49) 9 = .ok (.getfield 18, 3) := by decide +kernel
theorem q49_9 {dA : Nat → ClassId} {d : Nat} {st : List Value} {f : pz_F} {Q : Option Value → pz_F → Prop} {v0 v1 : Value} {a : Nat} : pz_R dA d 49 9 [v0, v1] (.ref a :: st) f Q = pz_o (pz_gf f a 2 2) (fun v => pz_R dA d 49 12 [v0, v1] (v :: st) f Q) := pz_gg d49_9 rfl
theorem d49_12 : decode (pz_b 49) 12 = .ok (.iload_n 1, 1) := by decide +kernel
theorem q49_12 {dA : Nat → ClassId} {d : Nat} {st : List Value} {f : pz_F} {Q : Option Value → pz_F → Prop} {v0 : Value} {x : Int32} : pz_R dA d 49 12 [v0, .int x] st f Q = pz_R dA d 49 13 [v0, .int x] (.int x :: st) f Q := pz_go (pz_so d49_12 rfl)
theorem d49_13 : decode (pz_b 49) 13 = .ok (.if_icmp .lt 7, 3) := by decide +kernel
theorem q49_13 {dA : Nat → ClassId} {d : Nat} {st : List Value} {f : pz_F} {Q : Option Value → pz_F → Prop} {v0 v1 : Value} {x y : Int32} : pz_R dA d 49 13 [v0, v1] (.int y :: .int x :: st) f Q = (if x < y then pz_R dA d 49 20 [v0, v1] st f Q else pz_R dA d 49 16 [v0, v1] st f Q) := pz_gjn .lt d49_13 rfl
theorem d49_16 : decode (pz_b 49) 16 = .ok (.iconst 1, 1) := by decide +kernel
theorem q49_16 {dA : Nat → ClassId} {d : Nat} {st : List Value} {f : pz_F} {Q : Option Value → pz_F → Prop} {v0 v1 : Value} : pz_R dA d 49 16 [v0, v1] st f Q = pz_R dA d 49 17 [v0, v1] (.int 1 :: st) f Q := pz_go (pz_so d49_16 rfl)
theorem d49_17 : decode (pz_b 49) 17 = .ok (.goto 4, 3) := by decide +kernel
theorem q49_17 {dA : Nat → ClassId} {d : Nat} {st : List Value} {f : pz_F} {Q : Option Value → pz_F → Prop} {v0 v1 : Value} : pz_R dA d 49 17 [v0, v1] st f Q = pz_R dA d 49 21 [v0, v1] st f Q := pz_go (pz_so d49_17 rfl)
theorem d49_20 : decode (pz_b 49) 20 = .ok (.iconst 0, 1) := by decide +kernel
theorem q49_20 {dA : Nat → ClassId} {d : Nat} {st : List Value} {f : pz_F} {Q : Option Value → pz_F → Prop} {v0 v1 : Value} : pz_R dA d 49 20 [v0, v1] st f Q = pz_R dA d 49 21 [v0, v1] (.int 0 :: st) f Q := pz_go (pz_so d49_20 rfl)
theorem d49_21 : decode (pz_b 49) 21 = .ok (.ireturn, 1) := by decide +kernel
theorem q49_21z {dA : Nat → ClassId} {d : Nat} {f : pz_F} {Q : Option Value → pz_F → Prop} {v0 v1 : Value} : pz_R dA d 49 21 [v0, v1] [.int 0] f Q = Q (some (.int 0)) f := pz_gri d49_21 rfl rfl
theorem q49_21o {dA : Nat → ClassId} {d : Nat} {f : pz_F} {Q : Option Value → pz_F → Prop} {v0 v1 : Value} : pz_R dA d 49 21 [v0, v1] [.int 1] f Q = Q (some (.int 1)) f := pz_gri d49_21 rfl rfl
/-! R_isLentTo (I)Z -/
theorem e50 {dA : Nat → ClassId} {d : Nat} {f : pz_F} {Q : Option Value → pz_F → Prop} {a0 : Nat} {a1 : Int32} : pz_C dA d 50 [.ref a0, .int a1] f Q = pz_R dA d 50 0 [.ref a0, .int a1] [] f Q := rfl
theorem d50_0 : decode (pz_b 50) 0 = .ok (.aload_n 0, 1) := by decide +kernel
theorem q50_0 {dA : Nat → ClassId} {d : Nat} {st : List Value} {f : pz_F} {Q : Option Value → pz_F → Prop} {v1 : Value} {x : Nat} : pz_R dA d 50 0 [.ref x, v1] st f Q = pz_R dA d 50 1 [.ref x, v1] (.ref x :: st) f Q := pz_go (pz_so d50_0 rfl)
theorem d50_1 : decode (pz_b 50) 1 = .ok (.getfield 9, 3) := by decide +kernel
theorem q50_1 {dA : Nat → ClassId} {d : Nat} {st : List Value} {f : pz_F} {Q : Option Value → pz_F → Prop} {v0 v1 : Value} {a : Nat} : pz_R dA d 50 1 [v0, v1] (.ref a :: st) f Q = pz_o (pz_gf f a 2 0) (fun v => pz_R dA d 50 4 [v0, v1] (v :: st) f Q) := pz_gg d50_1 rfl
theorem d50_4 : decode (pz_b 50) 4 = .ok (.iconst 1, 1) := by decide +kernel
theorem q50_4 {dA : Nat → ClassId} {d : Nat} {st : List Value} {f : pz_F} {Q : Option Value → pz_F → Prop} {v0 v1 : Value} : pz_R dA d 50 4 [v0, v1] st f Q = pz_R dA d 50 5 [v0, v1] (.int 1 :: st) f Q := pz_go (pz_so d50_4 rfl)
theorem d50_5 : decode (pz_b 50) 5 = .ok (.if_icmp .ne 15, 3) := by decide +kernel
theorem q50_5 {dA : Nat → ClassId} {d : Nat} {st : List Value} {f : pz_F} {Q : Option Value → pz_F → Prop} {v0 v1 : Value} {x y : Int32} : pz_R dA d 50 5 [v0, v1] (.int y :: .int x :: st) f Q = (if x = y then pz_R dA d 50 8 [v0, v1] st f Q else pz_R dA d 50 20 [v0, v1] st f Q) := pz_gjn .ne d50_5 rfl
theorem d50_8 : decode (pz_b 50) 8 = .ok (.aload_n 0, 1) := by decide +kernel
theorem q50_8 {dA : Nat → ClassId} {d : Nat} {st : List Value} {f : pz_F} {Q : Option Value → pz_F → Prop} {v1 : Value} {x : Nat} : pz_R dA d 50 8 [.ref x, v1] st f Q = pz_R dA d 50 9 [.ref x, v1] (.ref x :: st) f Q := pz_go (pz_so d50_8 rfl)
theorem d50_9 : decode (pz_b 50) 9 = .ok (.getfield 15, 3) := by decide +kernel
theorem q50_9 {dA : Nat → ClassId} {d : Nat} {st : List Value} {f : pz_F} {Q : Option Value → pz_F → Prop} {v0 v1 : Value} {a : Nat} : pz_R dA d 50 9 [v0, v1] (.ref a :: st) f Q = pz_o (pz_gf f a 2 1) (fun v => pz_R dA d 50 12 [v0, v1] (v :: st) f Q) := pz_gg d50_9 rfl
theorem d50_12 : decode (pz_b 50) 12 = .ok (.iload_n 1, 1) := by decide +kernel
theorem q50_12 {dA : Nat → ClassId} {d : Nat} {st : List Value} {f : pz_F} {Q : Option Value → pz_F → Prop} {v0 : Value} {x : Int32} : pz_R dA d 50 12 [v0, .int x] st f Q = pz_R dA d 50 13 [v0, .int x] (.int x :: st) f Q := pz_go (pz_so d50_12 rfl)
theorem d50_13 : decode (pz_b 50) 13 = .ok (.if_icmp .ne 7, 3) := by decide +kernel
theorem q50_13 {dA : Nat → ClassId} {d : Nat} {st : List Value} {f : pz_F} {Q : Option Value → pz_F → Prop} {v0 v1 : Value} {x y : Int32} : pz_R dA d 50 13 [v0, v1] (.int y :: .int x :: st) f Q = (if x = y then pz_R dA d 50 16 [v0, v1] st f Q else pz_R dA d 50 20 [v0, v1] st f Q) := pz_gjn .ne d50_13 rfl
theorem d50_16 : decode (pz_b 50) 16 = .ok (.iconst 1, 1) := by decide +kernel
theorem q50_16 {dA : Nat → ClassId} {d : Nat} {st : List Value} {f : pz_F} {Q : Option Value → pz_F → Prop} {v0 v1 : Value} : pz_R dA d 50 16 [v0, v1] st f Q = pz_R dA d 50 17 [v0, v1] (.int 1 :: st) f Q := pz_go (pz_so d50_16 rfl)
theorem d50_17 : decode (pz_b 50) 17 = .ok (.goto 4, 3) := by decide +kernel
theorem q50_17 {dA : Nat → ClassId} {d : Nat} {st : List Value} {f : pz_F} {Q : Option Value → pz_F → Prop} {v0 v1 : Value} : pz_R dA d 50 17 [v0, v1] st f Q = pz_R dA d 50 21 [v0, v1] st f Q := pz_go (pz_so d50_17 rfl)
theorem d50_20 : decode (pz_b 50) 20 = .ok (.iconst 0, 1) := by decide +kernel
theorem q50_20 {dA : Nat → ClassId} {d : Nat} {st : List Value} {f : pz_F} {Q : Option Value → pz_F → Prop} {v0 v1 : Value} : pz_R dA d 50 20 [v0, v1] st f Q = pz_R dA d 50 21 [v0, v1] (.int 0 :: st) f Q := pz_go (pz_so d50_20 rfl)
theorem d50_21 : decode (pz_b 50) 21 = .ok (.ireturn, 1) := by decide +kernel
theorem q50_21z {dA : Nat → ClassId} {d : Nat} {f : pz_F} {Q : Option Value → pz_F → Prop} {v0 v1 : Value} : pz_R dA d 50 21 [v0, v1] [.int 0] f Q = Q (some (.int 0)) f := pz_gri d50_21 rfl rfl
theorem q50_21o {dA : Nat → ClassId} {d : Nat} {f : pz_F} {Q : Option Value → pz_F → Prop} {v0 v1 : Value} : pz_R dA d 50 21 [v0, v1] [.int 1] f Q = Q (some (.int 1)) f := pz_gri d50_21 rfl rfl
/-! R_isLongPast (I)Z -/
theorem e51 {dA : Nat → ClassId} {d : Nat} {f : pz_F} {Q : Option Value → pz_F → Prop} {a0 : Nat} {a1 : Int32} : pz_C dA d 51 [.ref a0, .int a1] f Q = pz_R dA d 51 0 [.ref a0, .int a1] [] f Q := rfl
theorem d51_0 : decode (pz_b 51) 0 = .ok (.aload_n 0, 1) := by decide +kernel
theorem q51_0 {dA : Nat → ClassId} {d : Nat} {st : List Value} {f : pz_F} {Q : Option Value → pz_F → Prop} {v1 : Value} {x : Nat} : pz_R dA d 51 0 [.ref x, v1] st f Q = pz_R dA d 51 1 [.ref x, v1] (.ref x :: st) f Q := pz_go (pz_so d51_0 rfl)
theorem d51_1 : decode (pz_b 51) 1 = .ok (.getfield 18, 3) := by decide +kernel
theorem q51_1 {dA : Nat → ClassId} {d : Nat} {st : List Value} {f : pz_F} {Q : Option Value → pz_F → Prop} {v0 v1 : Value} {a : Nat} : pz_R dA d 51 1 [v0, v1] (.ref a :: st) f Q = pz_o (pz_gf f a 2 2) (fun v => pz_R dA d 51 4 [v0, v1] (v :: st) f Q) := pz_gg d51_1 rfl
theorem d51_4 : decode (pz_b 51) 4 = .ok (.bipush 6, 2) := by decide +kernel
theorem q51_4 {dA : Nat → ClassId} {d : Nat} {st : List Value} {f : pz_F} {Q : Option Value → pz_F → Prop} {v0 v1 : Value} : pz_R dA d 51 4 [v0, v1] st f Q = pz_R dA d 51 6 [v0, v1] (.int 6 :: st) f Q := pz_go (pz_so d51_4 rfl)
theorem d51_6 : decode (pz_b 51) 6 = .ok (.iadd, 1) := by decide +kernel
theorem q51_6 {dA : Nat → ClassId} {d : Nat} {st : List Value} {f : pz_F} {Q : Option Value → pz_F → Prop} {v0 v1 : Value} {x y : Int32} : pz_R dA d 51 6 [v0, v1] (.int y :: .int x :: st) f Q = pz_R dA d 51 7 [v0, v1] (.int (x + y) :: st) f Q := pz_go (pz_so d51_6 rfl)
theorem d51_7 : decode (pz_b 51) 7 = .ok (.iload_n 1, 1) := by decide +kernel
theorem q51_7 {dA : Nat → ClassId} {d : Nat} {st : List Value} {f : pz_F} {Q : Option Value → pz_F → Prop} {v0 : Value} {x : Int32} : pz_R dA d 51 7 [v0, .int x] st f Q = pz_R dA d 51 8 [v0, .int x] (.int x :: st) f Q := pz_go (pz_so d51_7 rfl)
theorem d51_8 : decode (pz_b 51) 8 = .ok (.if_icmp .ge 18, 3) := by decide +kernel
theorem q51_8 {dA : Nat → ClassId} {d : Nat} {st : List Value} {f : pz_F} {Q : Option Value → pz_F → Prop} {v0 v1 : Value} {x y : Int32} : pz_R dA d 51 8 [v0, v1] (.int y :: .int x :: st) f Q = (if y ≤ x then pz_R dA d 51 26 [v0, v1] st f Q else pz_R dA d 51 11 [v0, v1] st f Q) := pz_gjn .ge d51_8 rfl
theorem d51_11 : decode (pz_b 51) 11 = .ok (.aload_n 0, 1) := by decide +kernel
theorem q51_11 {dA : Nat → ClassId} {d : Nat} {st : List Value} {f : pz_F} {Q : Option Value → pz_F → Prop} {v1 : Value} {x : Nat} : pz_R dA d 51 11 [.ref x, v1] st f Q = pz_R dA d 51 12 [.ref x, v1] (.ref x :: st) f Q := pz_go (pz_so d51_11 rfl)
theorem d51_12 : decode (pz_b 51) 12 = .ok (.getfield 21, 3) := by decide +kernel
theorem q51_12 {dA : Nat → ClassId} {d : Nat} {st : List Value} {f : pz_F} {Q : Option Value → pz_F → Prop} {v0 v1 : Value} {a : Nat} : pz_R dA d 51 12 [v0, v1] (.ref a :: st) f Q = pz_o (pz_gf f a 2 4) (fun v => pz_R dA d 51 15 [v0, v1] (v :: st) f Q) := pz_gg d51_12 rfl
theorem d51_15 : decode (pz_b 51) 15 = .ok (.bipush 6, 2) := by decide +kernel
theorem q51_15 {dA : Nat → ClassId} {d : Nat} {st : List Value} {f : pz_F} {Q : Option Value → pz_F → Prop} {v0 v1 : Value} : pz_R dA d 51 15 [v0, v1] st f Q = pz_R dA d 51 17 [v0, v1] (.int 6 :: st) f Q := pz_go (pz_so d51_15 rfl)
theorem d51_17 : decode (pz_b 51) 17 = .ok (.iadd, 1) := by decide +kernel
theorem q51_17 {dA : Nat → ClassId} {d : Nat} {st : List Value} {f : pz_F} {Q : Option Value → pz_F → Prop} {v0 v1 : Value} {x y : Int32} : pz_R dA d 51 17 [v0, v1] (.int y :: .int x :: st) f Q = pz_R dA d 51 18 [v0, v1] (.int (x + y) :: st) f Q := pz_go (pz_so d51_17 rfl)
theorem d51_18 : decode (pz_b 51) 18 = .ok (.iload_n 1, 1) := by decide +kernel
theorem q51_18 {dA : Nat → ClassId} {d : Nat} {st : List Value} {f : pz_F} {Q : Option Value → pz_F → Prop} {v0 : Value} {x : Int32} : pz_R dA d 51 18 [v0, .int x] st f Q = pz_R dA d 51 19 [v0, .int x] (.int x :: st) f Q := pz_go (pz_so d51_18 rfl)
theorem d51_19 : decode (pz_b 51) 19 = .ok (.if_icmp .ge 7, 3) := by decide +kernel
theorem q51_19 {dA : Nat → ClassId} {d : Nat} {st : List Value} {f : pz_F} {Q : Option Value → pz_F → Prop} {v0 v1 : Value} {x y : Int32} : pz_R dA d 51 19 [v0, v1] (.int y :: .int x :: st) f Q = (if y ≤ x then pz_R dA d 51 26 [v0, v1] st f Q else pz_R dA d 51 22 [v0, v1] st f Q) := pz_gjn .ge d51_19 rfl
theorem d51_22 : decode (pz_b 51) 22 = .ok (.iconst 1, 1) := by decide +kernel
theorem q51_22 {dA : Nat → ClassId} {d : Nat} {st : List Value} {f : pz_F} {Q : Option Value → pz_F → Prop} {v0 v1 : Value} : pz_R dA d 51 22 [v0, v1] st f Q = pz_R dA d 51 23 [v0, v1] (.int 1 :: st) f Q := pz_go (pz_so d51_22 rfl)
theorem d51_23 : decode (pz_b 51) 23 = .ok (.goto 4, 3) := by decide +kernel
theorem q51_23 {dA : Nat → ClassId} {d : Nat} {st : List Value} {f : pz_F} {Q : Option Value → pz_F → Prop} {v0 v1 : Value} : pz_R dA d 51 23 [v0, v1] st f Q = pz_R dA d 51 27 [v0, v1] st f Q := pz_go (pz_so d51_23 rfl)
theorem d51_26 : decode (pz_b 51) 26 = .ok (.iconst 0, 1) := by decide +kernel
theorem q51_26 {dA : Nat → ClassId} {d : Nat} {st : List Value} {f : pz_F} {Q : Option Value → pz_F → Prop} {v0 v1 : Value} : pz_R dA d 51 26 [v0, v1] st f Q = pz_R dA d 51 27 [v0, v1] (.int 0 :: st) f Q := pz_go (pz_so d51_26 rfl)
theorem d51_27 : decode (pz_b 51) 27 = .ok (.ireturn, 1) := by decide +kernel
theorem q51_27z {dA : Nat → ClassId} {d : Nat} {f : pz_F} {Q : Option Value → pz_F → Prop} {v0 v1 : Value} : pz_R dA d 51 27 [v0, v1] [.int 0] f Q = Q (some (.int 0)) f := pz_gri d51_27 rfl rfl
theorem q51_27o {dA : Nat → ClassId} {d : Nat} {f : pz_F} {Q : Option Value → pz_F → Prop} {v0 v1 : Value} : pz_R dA d 51 27 [v0, v1] [.int 1] f Q = Q (some (.int 1)) f := pz_gri d51_27 rfl rfl
/-! R_change ()V -/
theorem e52 {dA : Nat → ClassId} {d : Nat} {f : pz_F} {Q : Option Value → pz_F → Prop} {a0 : Nat} : pz_C dA d 52 [.ref a0] f Q = pz_R dA d 52 0 [.ref a0] [] f Q := rfl
theorem d52_0 : decode (pz_b 52) 0 = .ok (.aload_n 0, 1) := by decide +kernel
theorem q52_0 {dA : Nat → ClassId} {d : Nat} {st : List Value} {f : pz_F} {Q : Option Value → pz_F → Prop} {x : Nat} : pz_R dA d 52 0 [.ref x] st f Q = pz_R dA d 52 1 [.ref x] (.ref x :: st) f Q := pz_go (pz_so d52_0 rfl)
theorem d52_1 : decode (pz_b 52) 1 = .ok (.dup, 1) := by decide +kernel
theorem q52_1 {dA : Nat → ClassId} {d : Nat} {st : List Value} {f : pz_F} {Q : Option Value → pz_F → Prop} {v0 : Value} {x : Nat} : pz_R dA d 52 1 [v0] (.ref x :: st) f Q = pz_R dA d 52 2 [v0] (.ref x :: .ref x :: st) f Q := pz_go (pz_so d52_1 rfl)
theorem d52_2 : decode (pz_b 52) 2 = .ok (.getfield 24, 3) := by decide +kernel
theorem q52_2 {dA : Nat → ClassId} {d : Nat} {st : List Value} {f : pz_F} {Q : Option Value → pz_F → Prop} {v0 : Value} {a : Nat} : pz_R dA d 52 2 [v0] (.ref a :: st) f Q = pz_o (pz_gf f a 2 6) (fun v => pz_R dA d 52 5 [v0] (v :: st) f Q) := pz_gg d52_2 rfl
theorem d52_5 : decode (pz_b 52) 5 = .ok (.iconst 1, 1) := by decide +kernel
theorem q52_5 {dA : Nat → ClassId} {d : Nat} {st : List Value} {f : pz_F} {Q : Option Value → pz_F → Prop} {v0 : Value} : pz_R dA d 52 5 [v0] st f Q = pz_R dA d 52 6 [v0] (.int 1 :: st) f Q := pz_go (pz_so d52_5 rfl)
theorem d52_6 : decode (pz_b 52) 6 = .ok (.iadd, 1) := by decide +kernel
theorem q52_6 {dA : Nat → ClassId} {d : Nat} {st : List Value} {f : pz_F} {Q : Option Value → pz_F → Prop} {v0 : Value} {x y : Int32} : pz_R dA d 52 6 [v0] (.int y :: .int x :: st) f Q = pz_R dA d 52 7 [v0] (.int (x + y) :: st) f Q := pz_go (pz_so d52_6 rfl)
theorem d52_7 : decode (pz_b 52) 7 = .ok (.putfield 24, 3) := by decide +kernel
theorem q52_7 {dA : Nat → ClassId} {d : Nat} {st : List Value} {f : pz_F} {Q : Option Value → pz_F → Prop} {v0 : Value} {x : Int32} {a : Nat} : pz_R dA d 52 7 [v0] (.int x :: .ref a :: st) f Q = pz_o (pz_pf f a 2 6 (.int x)) (fun f' => pz_R dA d 52 10 [v0] st f' Q) := pz_gp d52_7 rfl rfl rfl rfl
theorem d52_10 : decode (pz_b 52) 10 = .ok (.aload_n 0, 1) := by decide +kernel
theorem q52_10 {dA : Nat → ClassId} {d : Nat} {st : List Value} {f : pz_F} {Q : Option Value → pz_F → Prop} {x : Nat} : pz_R dA d 52 10 [.ref x] st f Q = pz_R dA d 52 11 [.ref x] (.ref x :: st) f Q := pz_go (pz_so d52_10 rfl)
theorem d52_11 : decode (pz_b 52) 11 = .ok (.iconst 1, 1) := by decide +kernel
theorem q52_11 {dA : Nat → ClassId} {d : Nat} {st : List Value} {f : pz_F} {Q : Option Value → pz_F → Prop} {v0 : Value} : pz_R dA d 52 11 [v0] st f Q = pz_R dA d 52 12 [v0] (.int 1 :: st) f Q := pz_go (pz_so d52_11 rfl)
theorem d52_12 : decode (pz_b 52) 12 = .ok (.putfield 27, 3) := by decide +kernel
theorem q52_12z {dA : Nat → ClassId} {d : Nat} {st : List Value} {f : pz_F} {Q : Option Value → pz_F → Prop} {v0 : Value} {a : Nat} : pz_R dA d 52 12 [v0] (.int 0 :: .ref a :: st) f Q = pz_o (pz_pf f a 2 7 (.int 0)) (fun f' => pz_R dA d 52 15 [v0] st f' Q) := pz_gp d52_12 rfl rfl rfl rfl
theorem q52_12o {dA : Nat → ClassId} {d : Nat} {st : List Value} {f : pz_F} {Q : Option Value → pz_F → Prop} {v0 : Value} {a : Nat} : pz_R dA d 52 12 [v0] (.int 1 :: .ref a :: st) f Q = pz_o (pz_pf f a 2 7 (.int 1)) (fun f' => pz_R dA d 52 15 [v0] st f' Q) := pz_gp d52_12 rfl rfl rfl rfl
theorem d52_15 : decode (pz_b 52) 15 = .ok (.return_, 1) := by decide +kernel
theorem q52_15 {dA : Nat → ClassId} {d : Nat} {f : pz_F} {Q : Option Value → pz_F → Prop} {v0 : Value} : pz_R dA d 52 15 [v0] [] f Q = Q none f := pz_gr (pz_so d52_15 rfl)
/-! R_end ()V -/
theorem e53 {dA : Nat → ClassId} {d : Nat} {f : pz_F} {Q : Option Value → pz_F → Prop} {a0 : Nat} : pz_C dA d 53 [.ref a0] f Q = pz_R dA d 53 0 [.ref a0] [] f Q := rfl
theorem d53_0 : decode (pz_b 53) 0 = .ok (.aload_n 0, 1) := by decide +kernel
theorem q53_0 {dA : Nat → ClassId} {d : Nat} {st : List Value} {f : pz_F} {Q : Option Value → pz_F → Prop} {x : Nat} : pz_R dA d 53 0 [.ref x] st f Q = pz_R dA d 53 1 [.ref x] (.ref x :: st) f Q := pz_go (pz_so d53_0 rfl)
theorem d53_1 : decode (pz_b 53) 1 = .ok (.iconst 2, 1) := by decide +kernel
theorem q53_1 {dA : Nat → ClassId} {d : Nat} {st : List Value} {f : pz_F} {Q : Option Value → pz_F → Prop} {v0 : Value} : pz_R dA d 53 1 [v0] st f Q = pz_R dA d 53 2 [v0] (.int 2 :: st) f Q := pz_go (pz_so d53_1 rfl)
theorem d53_2 : decode (pz_b 53) 2 = .ok (.putfield 9, 3) := by decide +kernel
theorem q53_2 {dA : Nat → ClassId} {d : Nat} {st : List Value} {f : pz_F} {Q : Option Value → pz_F → Prop} {v0 : Value} {x : Int32} {a : Nat} : pz_R dA d 53 2 [v0] (.int x :: .ref a :: st) f Q = pz_o (pz_pf f a 2 0 (.int x)) (fun f' => pz_R dA d 53 5 [v0] st f' Q) := pz_gp d53_2 rfl rfl rfl rfl
theorem d53_5 : decode (pz_b 53) 5 = .ok (.aload_n 0, 1) := by decide +kernel
theorem q53_5 {dA : Nat → ClassId} {d : Nat} {st : List Value} {f : pz_F} {Q : Option Value → pz_F → Prop} {x : Nat} : pz_R dA d 53 5 [.ref x] st f Q = pz_R dA d 53 6 [.ref x] (.ref x :: st) f Q := pz_go (pz_so d53_5 rfl)
theorem d53_6 : decode (pz_b 53) 6 = .ok (.invokevirtual 31, 3) := by decide +kernel
theorem q53_6 {dA : Nat → ClassId} {d : Nat} {st : List Value} {f : pz_F} {Q : Option Value → pz_F → Prop} {v0 : Value} {b : Nat} (hr : st.length ≤ 4) : pz_R dA (d + 1) 53 6 [v0] (.ref b :: st) f Q = pz_o (pz_gu f b 2) (fun _ => pz_C dA d 52 [.ref b] f (fun r f' => pz_R dA (d + 1) 53 9 [v0] (r.toList ++ st) f' Q)) := pz_gcv (As := []) d53_6 rfl rfl rfl hr
theorem d53_9 : decode (pz_b 53) 9 = .ok (.return_, 1) := by decide +kernel
theorem q53_9 {dA : Nat → ClassId} {d : Nat} {f : pz_F} {Q : Option Value → pz_F → Prop} {v0 : Value} : pz_R dA d 53 9 [v0] [] f Q = Q none f := pz_gr (pz_so d53_9 rfl)
/-! R_lend (IIZ)V -/
theorem e54 {dA : Nat → ClassId} {d : Nat} {f : pz_F} {Q : Option Value → pz_F → Prop} {a0 : Nat} {a1 : Int32} {a2 : Int32} {a3 : Int32} : pz_C dA d 54 [.ref a0, .int a1, .int a2, .int a3] f Q = pz_R dA d 54 0 [.ref a0, .int a1, .int a2, .int a3, .retAddr 0] [] f Q := rfl
theorem d54_0 : decode (pz_b 54) 0 = .ok (.aload_n 0, 1) := by decide +kernel
theorem q54_0 {dA : Nat → ClassId} {d : Nat} {st : List Value} {f : pz_F} {Q : Option Value → pz_F → Prop} {v1 v2 v3 v4 : Value} {x : Nat} : pz_R dA d 54 0 [.ref x, v1, v2, v3, v4] st f Q = pz_R dA d 54 1 [.ref x, v1, v2, v3, v4] (.ref x :: st) f Q := pz_go (pz_so d54_0 rfl)
theorem d54_1 : decode (pz_b 54) 1 = .ok (.iload_n 1, 1) := by decide +kernel
theorem q54_1 {dA : Nat → ClassId} {d : Nat} {st : List Value} {f : pz_F} {Q : Option Value → pz_F → Prop} {v0 v2 v3 v4 : Value} {x : Int32} : pz_R dA d 54 1 [v0, .int x, v2, v3, v4] st f Q = pz_R dA d 54 2 [v0, .int x, v2, v3, v4] (.int x :: st) f Q := pz_go (pz_so d54_1 rfl)
theorem d54_2 : decode (pz_b 54) 2 = .ok (.invokevirtual 34, 3) := by decide +kernel
theorem q54_2 {dA : Nat → ClassId} {d : Nat} {st : List Value} {f : pz_F} {Q : Option Value → pz_F → Prop} {v0 v1 v2 v3 v4 : Value} {c0 : Int32} {b : Nat} (hr : st.length ≤ 4) : pz_R dA (d + 1) 54 2 [v0, v1, v2, v3, v4] (.int c0 :: .ref b :: st) f Q = pz_o (pz_gu f b 2) (fun _ => pz_C dA d 50 [.ref b, .int c0] f (fun r f' => pz_R dA (d + 1) 54 5 [v0, v1, v2, v3, v4] (r.toList ++ st) f' Q)) := pz_gcv (As := [.int c0]) d54_2 rfl rfl rfl hr
theorem d54_5 : decode (pz_b 54) 5 = .ok (.ifCond .ne 28, 3) := by decide +kernel
theorem q54_5 {dA : Nat → ClassId} {d : Nat} {st : List Value} {f : pz_F} {Q : Option Value → pz_F → Prop} {v0 v1 v2 v3 v4 : Value} {x : Int32} : pz_R dA d 54 5 [v0, v1, v2, v3, v4] (.int x :: st) f Q = (if x = 0 then pz_R dA d 54 8 [v0, v1, v2, v3, v4] st f Q else pz_R dA d 54 33 [v0, v1, v2, v3, v4] st f Q) := pz_gj1 .ne d54_5 rfl
theorem d54_8 : decode (pz_b 54) 8 = .ok (.aload_n 0, 1) := by decide +kernel
theorem q54_8 {dA : Nat → ClassId} {d : Nat} {st : List Value} {f : pz_F} {Q : Option Value → pz_F → Prop} {v1 v2 v3 v4 : Value} {x : Nat} : pz_R dA d 54 8 [.ref x, v1, v2, v3, v4] st f Q = pz_R dA d 54 9 [.ref x, v1, v2, v3, v4] (.ref x :: st) f Q := pz_go (pz_so d54_8 rfl)
theorem d54_9 : decode (pz_b 54) 9 = .ok (.dup, 1) := by decide +kernel
theorem q54_9 {dA : Nat → ClassId} {d : Nat} {st : List Value} {f : pz_F} {Q : Option Value → pz_F → Prop} {v0 v1 v2 v3 v4 : Value} {x : Nat} : pz_R dA d 54 9 [v0, v1, v2, v3, v4] (.ref x :: st) f Q = pz_R dA d 54 10 [v0, v1, v2, v3, v4] (.ref x :: .ref x :: st) f Q := pz_go (pz_so d54_9 rfl)
theorem d54_10 : decode (pz_b 54) 10 = .ok (.getfield 38, 3) := by decide +kernel
theorem q54_10 {dA : Nat → ClassId} {d : Nat} {st : List Value} {f : pz_F} {Q : Option Value → pz_F → Prop} {v0 v1 v2 v3 v4 : Value} {a : Nat} : pz_R dA d 54 10 [v0, v1, v2, v3, v4] (.ref a :: st) f Q = pz_o (pz_gf f a 2 5) (fun v => pz_R dA d 54 13 [v0, v1, v2, v3, v4] (v :: st) f Q) := pz_gg d54_10 rfl
theorem d54_13 : decode (pz_b 54) 13 = .ok (.iconst 1, 1) := by decide +kernel
theorem q54_13 {dA : Nat → ClassId} {d : Nat} {st : List Value} {f : pz_F} {Q : Option Value → pz_F → Prop} {v0 v1 v2 v3 v4 : Value} : pz_R dA d 54 13 [v0, v1, v2, v3, v4] st f Q = pz_R dA d 54 14 [v0, v1, v2, v3, v4] (.int 1 :: st) f Q := pz_go (pz_so d54_13 rfl)
theorem d54_14 : decode (pz_b 54) 14 = .ok (.iadd, 1) := by decide +kernel
theorem q54_14 {dA : Nat → ClassId} {d : Nat} {st : List Value} {f : pz_F} {Q : Option Value → pz_F → Prop} {v0 v1 v2 v3 v4 : Value} {x y : Int32} : pz_R dA d 54 14 [v0, v1, v2, v3, v4] (.int y :: .int x :: st) f Q = pz_R dA d 54 15 [v0, v1, v2, v3, v4] (.int (x + y) :: st) f Q := pz_go (pz_so d54_14 rfl)
theorem d54_15 : decode (pz_b 54) 15 = .ok (.putfield 38, 3) := by decide +kernel
theorem q54_15 {dA : Nat → ClassId} {d : Nat} {st : List Value} {f : pz_F} {Q : Option Value → pz_F → Prop} {v0 v1 v2 v3 v4 : Value} {x : Int32} {a : Nat} : pz_R dA d 54 15 [v0, v1, v2, v3, v4] (.int x :: .ref a :: st) f Q = pz_o (pz_pf f a 2 5 (.int x)) (fun f' => pz_R dA d 54 18 [v0, v1, v2, v3, v4] st f' Q) := pz_gp d54_15 rfl rfl rfl rfl
theorem d54_18 : decode (pz_b 54) 18 = .ok (.aload_n 0, 1) := by decide +kernel
theorem q54_18 {dA : Nat → ClassId} {d : Nat} {st : List Value} {f : pz_F} {Q : Option Value → pz_F → Prop} {v1 v2 v3 v4 : Value} {x : Nat} : pz_R dA d 54 18 [.ref x, v1, v2, v3, v4] st f Q = pz_R dA d 54 19 [.ref x, v1, v2, v3, v4] (.ref x :: st) f Q := pz_go (pz_so d54_18 rfl)
theorem d54_19 : decode (pz_b 54) 19 = .ok (.iconst 0, 1) := by decide +kernel
theorem q54_19 {dA : Nat → ClassId} {d : Nat} {st : List Value} {f : pz_F} {Q : Option Value → pz_F → Prop} {v0 v1 v2 v3 v4 : Value} : pz_R dA d 54 19 [v0, v1, v2, v3, v4] st f Q = pz_R dA d 54 20 [v0, v1, v2, v3, v4] (.int 0 :: st) f Q := pz_go (pz_so d54_19 rfl)
theorem d54_20 : decode (pz_b 54) 20 = .ok (.putfield 18, 3) := by decide +kernel
theorem q54_20 {dA : Nat → ClassId} {d : Nat} {st : List Value} {f : pz_F} {Q : Option Value → pz_F → Prop} {v0 v1 v2 v3 v4 : Value} {x : Int32} {a : Nat} : pz_R dA d 54 20 [v0, v1, v2, v3, v4] (.int x :: .ref a :: st) f Q = pz_o (pz_pf f a 2 2 (.int x)) (fun f' => pz_R dA d 54 23 [v0, v1, v2, v3, v4] st f' Q) := pz_gp d54_20 rfl rfl rfl rfl
theorem d54_23 : decode (pz_b 54) 23 = .ok (.aload_n 0, 1) := by decide +kernel
theorem q54_23 {dA : Nat → ClassId} {d : Nat} {st : List Value} {f : pz_F} {Q : Option Value → pz_F → Prop} {v1 v2 v3 v4 : Value} {x : Nat} : pz_R dA d 54 23 [.ref x, v1, v2, v3, v4] st f Q = pz_R dA d 54 24 [.ref x, v1, v2, v3, v4] (.ref x :: st) f Q := pz_go (pz_so d54_23 rfl)
theorem d54_24 : decode (pz_b 54) 24 = .ok (.iconst 0, 1) := by decide +kernel
theorem q54_24 {dA : Nat → ClassId} {d : Nat} {st : List Value} {f : pz_F} {Q : Option Value → pz_F → Prop} {v0 v1 v2 v3 v4 : Value} : pz_R dA d 54 24 [v0, v1, v2, v3, v4] st f Q = pz_R dA d 54 25 [v0, v1, v2, v3, v4] (.int 0 :: st) f Q := pz_go (pz_so d54_24 rfl)
theorem d54_25 : decode (pz_b 54) 25 = .ok (.putfield 41, 3) := by decide +kernel
theorem q54_25 {dA : Nat → ClassId} {d : Nat} {st : List Value} {f : pz_F} {Q : Option Value → pz_F → Prop} {v0 v1 v2 v3 v4 : Value} {x : Int32} {a : Nat} : pz_R dA d 54 25 [v0, v1, v2, v3, v4] (.int x :: .ref a :: st) f Q = pz_o (pz_pf f a 2 3 (.int x)) (fun f' => pz_R dA d 54 28 [v0, v1, v2, v3, v4] st f' Q) := pz_gp d54_25 rfl rfl rfl rfl
theorem d54_28 : decode (pz_b 54) 28 = .ok (.aload_n 0, 1) := by decide +kernel
theorem q54_28 {dA : Nat → ClassId} {d : Nat} {st : List Value} {f : pz_F} {Q : Option Value → pz_F → Prop} {v1 v2 v3 v4 : Value} {x : Nat} : pz_R dA d 54 28 [.ref x, v1, v2, v3, v4] st f Q = pz_R dA d 54 29 [.ref x, v1, v2, v3, v4] (.ref x :: st) f Q := pz_go (pz_so d54_28 rfl)
theorem d54_29 : decode (pz_b 54) 29 = .ok (.iconst 0, 1) := by decide +kernel
theorem q54_29 {dA : Nat → ClassId} {d : Nat} {st : List Value} {f : pz_F} {Q : Option Value → pz_F → Prop} {v0 v1 v2 v3 v4 : Value} : pz_R dA d 54 29 [v0, v1, v2, v3, v4] st f Q = pz_R dA d 54 30 [v0, v1, v2, v3, v4] (.int 0 :: st) f Q := pz_go (pz_so d54_29 rfl)
theorem d54_30 : decode (pz_b 54) 30 = .ok (.putfield 21, 3) := by decide +kernel
theorem q54_30 {dA : Nat → ClassId} {d : Nat} {st : List Value} {f : pz_F} {Q : Option Value → pz_F → Prop} {v0 v1 v2 v3 v4 : Value} {x : Int32} {a : Nat} : pz_R dA d 54 30 [v0, v1, v2, v3, v4] (.int x :: .ref a :: st) f Q = pz_o (pz_pf f a 2 4 (.int x)) (fun f' => pz_R dA d 54 33 [v0, v1, v2, v3, v4] st f' Q) := pz_gp d54_30 rfl rfl rfl rfl
theorem d54_33 : decode (pz_b 54) 33 = .ok (.iload_n 2, 1) := by decide +kernel
theorem q54_33 {dA : Nat → ClassId} {d : Nat} {st : List Value} {f : pz_F} {Q : Option Value → pz_F → Prop} {v0 v1 v3 v4 : Value} {x : Int32} : pz_R dA d 54 33 [v0, v1, .int x, v3, v4] st f Q = pz_R dA d 54 34 [v0, v1, .int x, v3, v4] (.int x :: st) f Q := pz_go (pz_so d54_33 rfl)
theorem d54_34 : decode (pz_b 54) 34 = .ok (.bipush 20, 2) := by decide +kernel
theorem q54_34 {dA : Nat → ClassId} {d : Nat} {st : List Value} {f : pz_F} {Q : Option Value → pz_F → Prop} {v0 v1 v2 v3 v4 : Value} : pz_R dA d 54 34 [v0, v1, v2, v3, v4] st f Q = pz_R dA d 54 36 [v0, v1, v2, v3, v4] (.int 20 :: st) f Q := pz_go (pz_so d54_34 rfl)
theorem d54_36 : decode (pz_b 54) 36 = .ok (.iadd, 1) := by decide +kernel
theorem q54_36 {dA : Nat → ClassId} {d : Nat} {st : List Value} {f : pz_F} {Q : Option Value → pz_F → Prop} {v0 v1 v2 v3 v4 : Value} {x y : Int32} : pz_R dA d 54 36 [v0, v1, v2, v3, v4] (.int y :: .int x :: st) f Q = pz_R dA d 54 37 [v0, v1, v2, v3, v4] (.int (x + y) :: st) f Q := pz_go (pz_so d54_36 rfl)
theorem d54_37 : decode (pz_b 54) 37 = .ok (.istore 4, 2) := by decide +kernel
theorem q54_37 {dA : Nat → ClassId} {d : Nat} {st : List Value} {f : pz_F} {Q : Option Value → pz_F → Prop} {v0 v1 v2 v3 v4 : Value} {x : Int32} : pz_R dA d 54 37 [v0, v1, v2, v3, v4] (.int x :: st) f Q = pz_R dA d 54 39 [v0, v1, v2, v3, .int x] st f Q := pz_go (pz_so d54_37 rfl)
theorem d54_39 : decode (pz_b 54) 39 = .ok (.iload_n 3, 1) := by decide +kernel
theorem q54_39 {dA : Nat → ClassId} {d : Nat} {st : List Value} {f : pz_F} {Q : Option Value → pz_F → Prop} {v0 v1 v2 v4 : Value} {x : Int32} : pz_R dA d 54 39 [v0, v1, v2, .int x, v4] st f Q = pz_R dA d 54 40 [v0, v1, v2, .int x, v4] (.int x :: st) f Q := pz_go (pz_so d54_39 rfl)
theorem d54_40 : decode (pz_b 54) 40 = .ok (.ifCond .ne 21, 3) := by decide +kernel
theorem q54_40 {dA : Nat → ClassId} {d : Nat} {st : List Value} {f : pz_F} {Q : Option Value → pz_F → Prop} {v0 v1 v2 v3 v4 : Value} {x : Int32} : pz_R dA d 54 40 [v0, v1, v2, v3, v4] (.int x :: st) f Q = (if x = 0 then pz_R dA d 54 43 [v0, v1, v2, v3, v4] st f Q else pz_R dA d 54 61 [v0, v1, v2, v3, v4] st f Q) := pz_gj1 .ne d54_40 rfl
theorem d54_43 : decode (pz_b 54) 43 = .ok (.iload 4, 2) := by decide +kernel
theorem q54_43 {dA : Nat → ClassId} {d : Nat} {st : List Value} {f : pz_F} {Q : Option Value → pz_F → Prop} {v0 v1 v2 v3 : Value} {x : Int32} : pz_R dA d 54 43 [v0, v1, v2, v3, .int x] st f Q = pz_R dA d 54 45 [v0, v1, v2, v3, .int x] (.int x :: st) f Q := pz_go (pz_so d54_43 rfl)
theorem d54_45 : decode (pz_b 54) 45 = .ok (.iload_n 2, 1) := by decide +kernel
theorem q54_45 {dA : Nat → ClassId} {d : Nat} {st : List Value} {f : pz_F} {Q : Option Value → pz_F → Prop} {v0 v1 v3 v4 : Value} {x : Int32} : pz_R dA d 54 45 [v0, v1, .int x, v3, v4] st f Q = pz_R dA d 54 46 [v0, v1, .int x, v3, v4] (.int x :: st) f Q := pz_go (pz_so d54_45 rfl)
theorem d54_46 : decode (pz_b 54) 46 = .ok (.aload_n 0, 1) := by decide +kernel
theorem q54_46 {dA : Nat → ClassId} {d : Nat} {st : List Value} {f : pz_F} {Q : Option Value → pz_F → Prop} {v1 v2 v3 v4 : Value} {x : Nat} : pz_R dA d 54 46 [.ref x, v1, v2, v3, v4] st f Q = pz_R dA d 54 47 [.ref x, v1, v2, v3, v4] (.ref x :: st) f Q := pz_go (pz_so d54_46 rfl)
theorem d54_47 : decode (pz_b 54) 47 = .ok (.getfield 41, 3) := by decide +kernel
theorem q54_47 {dA : Nat → ClassId} {d : Nat} {st : List Value} {f : pz_F} {Q : Option Value → pz_F → Prop} {v0 v1 v2 v3 v4 : Value} {a : Nat} : pz_R dA d 54 47 [v0, v1, v2, v3, v4] (.ref a :: st) f Q = pz_o (pz_gf f a 2 3) (fun v => pz_R dA d 54 50 [v0, v1, v2, v3, v4] (v :: st) f Q) := pz_gg d54_47 rfl
theorem d54_50 : decode (pz_b 54) 50 = .ok (.invokestatic 44, 3) := by decide +kernel
theorem q54_50 {dA : Nat → ClassId} {d : Nat} {st : List Value} {f : pz_F} {Q : Option Value → pz_F → Prop} {v0 v1 v2 v3 v4 : Value} {x y : Int32} (hr : st.length ≤ 4) : pz_R dA d 54 50 [v0, v1, v2, v3, v4] (.int y :: .int x :: st) f Q = pz_R dA d 54 53 [v0, v1, v2, v3, v4] (.int (mx x y) :: st) f Q := pz_gmx d54_50 rfl rfl hr
theorem d54_53 : decode (pz_b 54) 53 = .ok (.bipush 6, 2) := by decide +kernel
theorem q54_53 {dA : Nat → ClassId} {d : Nat} {st : List Value} {f : pz_F} {Q : Option Value → pz_F → Prop} {v0 v1 v2 v3 v4 : Value} : pz_R dA d 54 53 [v0, v1, v2, v3, v4] st f Q = pz_R dA d 54 55 [v0, v1, v2, v3, v4] (.int 6 :: st) f Q := pz_go (pz_so d54_53 rfl)
theorem d54_55 : decode (pz_b 54) 55 = .ok (.iadd, 1) := by decide +kernel
theorem q54_55 {dA : Nat → ClassId} {d : Nat} {st : List Value} {f : pz_F} {Q : Option Value → pz_F → Prop} {v0 v1 v2 v3 v4 : Value} {x y : Int32} : pz_R dA d 54 55 [v0, v1, v2, v3, v4] (.int y :: .int x :: st) f Q = pz_R dA d 54 56 [v0, v1, v2, v3, v4] (.int (x + y) :: st) f Q := pz_go (pz_so d54_55 rfl)
theorem d54_56 : decode (pz_b 54) 56 = .ok (.invokestatic 50, 3) := by decide +kernel
theorem q54_56 {dA : Nat → ClassId} {d : Nat} {st : List Value} {f : pz_F} {Q : Option Value → pz_F → Prop} {v0 v1 v2 v3 v4 : Value} {x y : Int32} (hr : st.length ≤ 4) : pz_R dA d 54 56 [v0, v1, v2, v3, v4] (.int y :: .int x :: st) f Q = pz_R dA d 54 59 [v0, v1, v2, v3, v4] (.int (mn x y) :: st) f Q := pz_gmn d54_56 rfl rfl rfl hr
theorem d54_59 : decode (pz_b 54) 59 = .ok (.istore 4, 2) := by decide +kernel
theorem q54_59 {dA : Nat → ClassId} {d : Nat} {st : List Value} {f : pz_F} {Q : Option Value → pz_F → Prop} {v0 v1 v2 v3 v4 : Value} {x : Int32} : pz_R dA d 54 59 [v0, v1, v2, v3, v4] (.int x :: st) f Q = pz_R dA d 54 61 [v0, v1, v2, v3, .int x] st f Q := pz_go (pz_so d54_59 rfl)
theorem d54_61 : decode (pz_b 54) 61 = .ok (.aload_n 0, 1) := by decide +kernel
theorem q54_61 {dA : Nat → ClassId} {d : Nat} {st : List Value} {f : pz_F} {Q : Option Value → pz_F → Prop} {v1 v2 v3 v4 : Value} {x : Nat} : pz_R dA d 54 61 [.ref x, v1, v2, v3, v4] st f Q = pz_R dA d 54 62 [.ref x, v1, v2, v3, v4] (.ref x :: st) f Q := pz_go (pz_so d54_61 rfl)
theorem d54_62 : decode (pz_b 54) 62 = .ok (.aload_n 0, 1) := by decide +kernel
theorem q54_62 {dA : Nat → ClassId} {d : Nat} {st : List Value} {f : pz_F} {Q : Option Value → pz_F → Prop} {v1 v2 v3 v4 : Value} {x : Nat} : pz_R dA d 54 62 [.ref x, v1, v2, v3, v4] st f Q = pz_R dA d 54 63 [.ref x, v1, v2, v3, v4] (.ref x :: st) f Q := pz_go (pz_so d54_62 rfl)
theorem d54_63 : decode (pz_b 54) 63 = .ok (.getfield 18, 3) := by decide +kernel
theorem q54_63 {dA : Nat → ClassId} {d : Nat} {st : List Value} {f : pz_F} {Q : Option Value → pz_F → Prop} {v0 v1 v2 v3 v4 : Value} {a : Nat} : pz_R dA d 54 63 [v0, v1, v2, v3, v4] (.ref a :: st) f Q = pz_o (pz_gf f a 2 2) (fun v => pz_R dA d 54 66 [v0, v1, v2, v3, v4] (v :: st) f Q) := pz_gg d54_63 rfl
theorem d54_66 : decode (pz_b 54) 66 = .ok (.iload 4, 2) := by decide +kernel
theorem q54_66 {dA : Nat → ClassId} {d : Nat} {st : List Value} {f : pz_F} {Q : Option Value → pz_F → Prop} {v0 v1 v2 v3 : Value} {x : Int32} : pz_R dA d 54 66 [v0, v1, v2, v3, .int x] st f Q = pz_R dA d 54 68 [v0, v1, v2, v3, .int x] (.int x :: st) f Q := pz_go (pz_so d54_66 rfl)
theorem d54_68 : decode (pz_b 54) 68 = .ok (.invokestatic 44, 3) := by decide +kernel
theorem q54_68 {dA : Nat → ClassId} {d : Nat} {st : List Value} {f : pz_F} {Q : Option Value → pz_F → Prop} {v0 v1 v2 v3 v4 : Value} {x y : Int32} (hr : st.length ≤ 4) : pz_R dA d 54 68 [v0, v1, v2, v3, v4] (.int y :: .int x :: st) f Q = pz_R dA d 54 71 [v0, v1, v2, v3, v4] (.int (mx x y) :: st) f Q := pz_gmx d54_68 rfl rfl hr
theorem d54_71 : decode (pz_b 54) 71 = .ok (.putfield 18, 3) := by decide +kernel
theorem q54_71 {dA : Nat → ClassId} {d : Nat} {st : List Value} {f : pz_F} {Q : Option Value → pz_F → Prop} {v0 v1 v2 v3 v4 : Value} {x : Int32} {a : Nat} : pz_R dA d 54 71 [v0, v1, v2, v3, v4] (.int x :: .ref a :: st) f Q = pz_o (pz_pf f a 2 2 (.int x)) (fun f' => pz_R dA d 54 74 [v0, v1, v2, v3, v4] st f' Q) := pz_gp d54_71 rfl rfl rfl rfl
theorem d54_74 : decode (pz_b 54) 74 = .ok (.aload_n 0, 1) := by decide +kernel
theorem q54_74 {dA : Nat → ClassId} {d : Nat} {st : List Value} {f : pz_F} {Q : Option Value → pz_F → Prop} {v1 v2 v3 v4 : Value} {x : Nat} : pz_R dA d 54 74 [.ref x, v1, v2, v3, v4] st f Q = pz_R dA d 54 75 [.ref x, v1, v2, v3, v4] (.ref x :: st) f Q := pz_go (pz_so d54_74 rfl)
theorem d54_75 : decode (pz_b 54) 75 = .ok (.iconst 1, 1) := by decide +kernel
theorem q54_75 {dA : Nat → ClassId} {d : Nat} {st : List Value} {f : pz_F} {Q : Option Value → pz_F → Prop} {v0 v1 v2 v3 v4 : Value} : pz_R dA d 54 75 [v0, v1, v2, v3, v4] st f Q = pz_R dA d 54 76 [v0, v1, v2, v3, v4] (.int 1 :: st) f Q := pz_go (pz_so d54_75 rfl)
theorem d54_76 : decode (pz_b 54) 76 = .ok (.putfield 9, 3) := by decide +kernel
theorem q54_76 {dA : Nat → ClassId} {d : Nat} {st : List Value} {f : pz_F} {Q : Option Value → pz_F → Prop} {v0 v1 v2 v3 v4 : Value} {x : Int32} {a : Nat} : pz_R dA d 54 76 [v0, v1, v2, v3, v4] (.int x :: .ref a :: st) f Q = pz_o (pz_pf f a 2 0 (.int x)) (fun f' => pz_R dA d 54 79 [v0, v1, v2, v3, v4] st f' Q) := pz_gp d54_76 rfl rfl rfl rfl
theorem d54_79 : decode (pz_b 54) 79 = .ok (.aload_n 0, 1) := by decide +kernel
theorem q54_79 {dA : Nat → ClassId} {d : Nat} {st : List Value} {f : pz_F} {Q : Option Value → pz_F → Prop} {v1 v2 v3 v4 : Value} {x : Nat} : pz_R dA d 54 79 [.ref x, v1, v2, v3, v4] st f Q = pz_R dA d 54 80 [.ref x, v1, v2, v3, v4] (.ref x :: st) f Q := pz_go (pz_so d54_79 rfl)
theorem d54_80 : decode (pz_b 54) 80 = .ok (.iload_n 1, 1) := by decide +kernel
theorem q54_80 {dA : Nat → ClassId} {d : Nat} {st : List Value} {f : pz_F} {Q : Option Value → pz_F → Prop} {v0 v2 v3 v4 : Value} {x : Int32} : pz_R dA d 54 80 [v0, .int x, v2, v3, v4] st f Q = pz_R dA d 54 81 [v0, .int x, v2, v3, v4] (.int x :: st) f Q := pz_go (pz_so d54_80 rfl)
theorem d54_81 : decode (pz_b 54) 81 = .ok (.putfield 15, 3) := by decide +kernel
theorem q54_81 {dA : Nat → ClassId} {d : Nat} {st : List Value} {f : pz_F} {Q : Option Value → pz_F → Prop} {v0 v1 v2 v3 v4 : Value} {x : Int32} {a : Nat} : pz_R dA d 54 81 [v0, v1, v2, v3, v4] (.int x :: .ref a :: st) f Q = pz_o (pz_pf f a 2 1 (.int x)) (fun f' => pz_R dA d 54 84 [v0, v1, v2, v3, v4] st f' Q) := pz_gp d54_81 rfl rfl rfl rfl
theorem d54_84 : decode (pz_b 54) 84 = .ok (.aload_n 0, 1) := by decide +kernel
theorem q54_84 {dA : Nat → ClassId} {d : Nat} {st : List Value} {f : pz_F} {Q : Option Value → pz_F → Prop} {v1 v2 v3 v4 : Value} {x : Nat} : pz_R dA d 54 84 [.ref x, v1, v2, v3, v4] st f Q = pz_R dA d 54 85 [.ref x, v1, v2, v3, v4] (.ref x :: st) f Q := pz_go (pz_so d54_84 rfl)
theorem d54_85 : decode (pz_b 54) 85 = .ok (.invokevirtual 31, 3) := by decide +kernel
theorem q54_85 {dA : Nat → ClassId} {d : Nat} {st : List Value} {f : pz_F} {Q : Option Value → pz_F → Prop} {v0 v1 v2 v3 v4 : Value} {b : Nat} (hr : st.length ≤ 4) : pz_R dA (d + 1) 54 85 [v0, v1, v2, v3, v4] (.ref b :: st) f Q = pz_o (pz_gu f b 2) (fun _ => pz_C dA d 52 [.ref b] f (fun r f' => pz_R dA (d + 1) 54 88 [v0, v1, v2, v3, v4] (r.toList ++ st) f' Q)) := pz_gcv (As := []) d54_85 rfl rfl rfl hr
theorem d54_88 : decode (pz_b 54) 88 = .ok (.return_, 1) := by decide +kernel
theorem q54_88 {dA : Nat → ClassId} {d : Nat} {f : pz_F} {Q : Option Value → pz_F → Prop} {v0 v1 v2 v3 v4 : Value} : pz_R dA d 54 88 [v0, v1, v2, v3, v4] [] f Q = Q none f := pz_gr (pz_so d54_88 rfl)
/-! R_clear ()V -/
theorem e55 {dA : Nat → ClassId} {d : Nat} {f : pz_F} {Q : Option Value → pz_F → Prop} {a0 : Nat} : pz_C dA d 55 [.ref a0] f Q = pz_R dA d 55 0 [.ref a0] [] f Q := rfl
theorem d55_0 : decode (pz_b 55) 0 = .ok (.aload_n 0, 1) := by decide +kernel
theorem q55_0 {dA : Nat → ClassId} {d : Nat} {st : List Value} {f : pz_F} {Q : Option Value → pz_F → Prop} {x : Nat} : pz_R dA d 55 0 [.ref x] st f Q = pz_R dA d 55 1 [.ref x] (.ref x :: st) f Q := pz_go (pz_so d55_0 rfl)
theorem d55_1 : decode (pz_b 55) 1 = .ok (.iconst 0, 1) := by decide +kernel
theorem q55_1 {dA : Nat → ClassId} {d : Nat} {st : List Value} {f : pz_F} {Q : Option Value → pz_F → Prop} {v0 : Value} : pz_R dA d 55 1 [v0] st f Q = pz_R dA d 55 2 [v0] (.int 0 :: st) f Q := pz_go (pz_so d55_1 rfl)
theorem d55_2 : decode (pz_b 55) 2 = .ok (.putfield 9, 3) := by decide +kernel
theorem q55_2 {dA : Nat → ClassId} {d : Nat} {st : List Value} {f : pz_F} {Q : Option Value → pz_F → Prop} {v0 : Value} {x : Int32} {a : Nat} : pz_R dA d 55 2 [v0] (.int x :: .ref a :: st) f Q = pz_o (pz_pf f a 2 0 (.int x)) (fun f' => pz_R dA d 55 5 [v0] st f' Q) := pz_gp d55_2 rfl rfl rfl rfl
theorem d55_5 : decode (pz_b 55) 5 = .ok (.aload_n 0, 1) := by decide +kernel
theorem q55_5 {dA : Nat → ClassId} {d : Nat} {st : List Value} {f : pz_F} {Q : Option Value → pz_F → Prop} {x : Nat} : pz_R dA d 55 5 [.ref x] st f Q = pz_R dA d 55 6 [.ref x] (.ref x :: st) f Q := pz_go (pz_so d55_5 rfl)
theorem d55_6 : decode (pz_b 55) 6 = .ok (.iconst (-1), 1) := by decide +kernel
theorem q55_6 {dA : Nat → ClassId} {d : Nat} {st : List Value} {f : pz_F} {Q : Option Value → pz_F → Prop} {v0 : Value} : pz_R dA d 55 6 [v0] st f Q = pz_R dA d 55 7 [v0] (.int (-1) :: st) f Q := pz_go (pz_so d55_6 rfl)
theorem d55_7 : decode (pz_b 55) 7 = .ok (.putfield 15, 3) := by decide +kernel
theorem q55_7 {dA : Nat → ClassId} {d : Nat} {st : List Value} {f : pz_F} {Q : Option Value → pz_F → Prop} {v0 : Value} {x : Int32} {a : Nat} : pz_R dA d 55 7 [v0] (.int x :: .ref a :: st) f Q = pz_o (pz_pf f a 2 1 (.int x)) (fun f' => pz_R dA d 55 10 [v0] st f' Q) := pz_gp d55_7 rfl rfl rfl rfl
theorem d55_10 : decode (pz_b 55) 10 = .ok (.aload_n 0, 1) := by decide +kernel
theorem q55_10 {dA : Nat → ClassId} {d : Nat} {st : List Value} {f : pz_F} {Q : Option Value → pz_F → Prop} {x : Nat} : pz_R dA d 55 10 [.ref x] st f Q = pz_R dA d 55 11 [.ref x] (.ref x :: st) f Q := pz_go (pz_so d55_10 rfl)
theorem d55_11 : decode (pz_b 55) 11 = .ok (.iconst 0, 1) := by decide +kernel
theorem q55_11 {dA : Nat → ClassId} {d : Nat} {st : List Value} {f : pz_F} {Q : Option Value → pz_F → Prop} {v0 : Value} : pz_R dA d 55 11 [v0] st f Q = pz_R dA d 55 12 [v0] (.int 0 :: st) f Q := pz_go (pz_so d55_11 rfl)
theorem d55_12 : decode (pz_b 55) 12 = .ok (.putfield 18, 3) := by decide +kernel
theorem q55_12 {dA : Nat → ClassId} {d : Nat} {st : List Value} {f : pz_F} {Q : Option Value → pz_F → Prop} {v0 : Value} {x : Int32} {a : Nat} : pz_R dA d 55 12 [v0] (.int x :: .ref a :: st) f Q = pz_o (pz_pf f a 2 2 (.int x)) (fun f' => pz_R dA d 55 15 [v0] st f' Q) := pz_gp d55_12 rfl rfl rfl rfl
theorem d55_15 : decode (pz_b 55) 15 = .ok (.aload_n 0, 1) := by decide +kernel
theorem q55_15 {dA : Nat → ClassId} {d : Nat} {st : List Value} {f : pz_F} {Q : Option Value → pz_F → Prop} {x : Nat} : pz_R dA d 55 15 [.ref x] st f Q = pz_R dA d 55 16 [.ref x] (.ref x :: st) f Q := pz_go (pz_so d55_15 rfl)
theorem d55_16 : decode (pz_b 55) 16 = .ok (.iconst 0, 1) := by decide +kernel
theorem q55_16 {dA : Nat → ClassId} {d : Nat} {st : List Value} {f : pz_F} {Q : Option Value → pz_F → Prop} {v0 : Value} : pz_R dA d 55 16 [v0] st f Q = pz_R dA d 55 17 [v0] (.int 0 :: st) f Q := pz_go (pz_so d55_16 rfl)
theorem d55_17 : decode (pz_b 55) 17 = .ok (.putfield 41, 3) := by decide +kernel
theorem q55_17 {dA : Nat → ClassId} {d : Nat} {st : List Value} {f : pz_F} {Q : Option Value → pz_F → Prop} {v0 : Value} {x : Int32} {a : Nat} : pz_R dA d 55 17 [v0] (.int x :: .ref a :: st) f Q = pz_o (pz_pf f a 2 3 (.int x)) (fun f' => pz_R dA d 55 20 [v0] st f' Q) := pz_gp d55_17 rfl rfl rfl rfl
theorem d55_20 : decode (pz_b 55) 20 = .ok (.aload_n 0, 1) := by decide +kernel
theorem q55_20 {dA : Nat → ClassId} {d : Nat} {st : List Value} {f : pz_F} {Q : Option Value → pz_F → Prop} {x : Nat} : pz_R dA d 55 20 [.ref x] st f Q = pz_R dA d 55 21 [.ref x] (.ref x :: st) f Q := pz_go (pz_so d55_20 rfl)
theorem d55_21 : decode (pz_b 55) 21 = .ok (.iconst 0, 1) := by decide +kernel
theorem q55_21 {dA : Nat → ClassId} {d : Nat} {st : List Value} {f : pz_F} {Q : Option Value → pz_F → Prop} {v0 : Value} : pz_R dA d 55 21 [v0] st f Q = pz_R dA d 55 22 [v0] (.int 0 :: st) f Q := pz_go (pz_so d55_21 rfl)
theorem d55_22 : decode (pz_b 55) 22 = .ok (.putfield 21, 3) := by decide +kernel
theorem q55_22 {dA : Nat → ClassId} {d : Nat} {st : List Value} {f : pz_F} {Q : Option Value → pz_F → Prop} {v0 : Value} {x : Int32} {a : Nat} : pz_R dA d 55 22 [v0] (.int x :: .ref a :: st) f Q = pz_o (pz_pf f a 2 4 (.int x)) (fun f' => pz_R dA d 55 25 [v0] st f' Q) := pz_gp d55_22 rfl rfl rfl rfl
theorem d55_25 : decode (pz_b 55) 25 = .ok (.return_, 1) := by decide +kernel
theorem q55_25 {dA : Nat → ClassId} {d : Nat} {f : pz_F} {Q : Option Value → pz_F → Prop} {v0 : Value} : pz_R dA d 55 25 [v0] [] f Q = Q none f := pz_gr (pz_so d55_25 rfl)
/-! R_becomeFree (LLeasePair$Message;)V -/
theorem e56 {dA : Nat → ClassId} {d : Nat} {f : pz_F} {Q : Option Value → pz_F → Prop} {a0 : Nat} {a1 : Nat} : pz_C dA d 56 [.ref a0, .ref a1] f Q = pz_R dA d 56 0 [.ref a0, .ref a1] [] f Q := rfl
theorem d56_0 : decode (pz_b 56) 0 = .ok (.aload_n 0, 1) := by decide +kernel
theorem q56_0 {dA : Nat → ClassId} {d : Nat} {st : List Value} {f : pz_F} {Q : Option Value → pz_F → Prop} {v1 : Value} {x : Nat} : pz_R dA d 56 0 [.ref x, v1] st f Q = pz_R dA d 56 1 [.ref x, v1] (.ref x :: st) f Q := pz_go (pz_so d56_0 rfl)
theorem d56_1 : decode (pz_b 56) 1 = .ok (.invokevirtual 53, 3) := by decide +kernel
theorem q56_1 {dA : Nat → ClassId} {d : Nat} {st : List Value} {f : pz_F} {Q : Option Value → pz_F → Prop} {v0 v1 : Value} {b : Nat} (hr : st.length ≤ 4) : pz_R dA (d + 1) 56 1 [v0, v1] (.ref b :: st) f Q = pz_o (pz_gu f b 2) (fun _ => pz_C dA d 55 [.ref b] f (fun r f' => pz_R dA (d + 1) 56 4 [v0, v1] (r.toList ++ st) f' Q)) := pz_gcv (As := []) d56_1 rfl rfl rfl hr
theorem d56_4 : decode (pz_b 56) 4 = .ok (.aload_n 0, 1) := by decide +kernel
theorem q56_4 {dA : Nat → ClassId} {d : Nat} {st : List Value} {f : pz_F} {Q : Option Value → pz_F → Prop} {v1 : Value} {x : Nat} : pz_R dA d 56 4 [.ref x, v1] st f Q = pz_R dA d 56 5 [.ref x, v1] (.ref x :: st) f Q := pz_go (pz_so d56_4 rfl)
theorem d56_5 : decode (pz_b 56) 5 = .ok (.aload_n 1, 1) := by decide +kernel
theorem q56_5 {dA : Nat → ClassId} {d : Nat} {st : List Value} {f : pz_F} {Q : Option Value → pz_F → Prop} {v0 : Value} {x : Nat} : pz_R dA d 56 5 [v0, .ref x] st f Q = pz_R dA d 56 6 [v0, .ref x] (.ref x :: st) f Q := pz_go (pz_so d56_5 rfl)
theorem q56_5n {dA : Nat → ClassId} {d : Nat} {st : List Value} {f : pz_F} {Q : Option Value → pz_F → Prop} {v0 : Value} : pz_R dA d 56 5 [v0, .null] st f Q = pz_R dA d 56 6 [v0, .null] (.null :: st) f Q := pz_go (pz_so d56_5 rfl)
theorem d56_6 : decode (pz_b 56) 6 = .ok (.getfield 56, 3) := by decide +kernel
theorem q56_6 {dA : Nat → ClassId} {d : Nat} {st : List Value} {f : pz_F} {Q : Option Value → pz_F → Prop} {v0 v1 : Value} {a : Nat} : pz_R dA d 56 6 [v0, v1] (.ref a :: st) f Q = pz_o (pz_gf f a 5 9) (fun v => pz_R dA d 56 9 [v0, v1] (v :: st) f Q) := pz_gg d56_6 rfl
theorem d56_9 : decode (pz_b 56) 9 = .ok (.putfield 38, 3) := by decide +kernel
theorem q56_9 {dA : Nat → ClassId} {d : Nat} {st : List Value} {f : pz_F} {Q : Option Value → pz_F → Prop} {v0 v1 : Value} {x : Int32} {a : Nat} : pz_R dA d 56 9 [v0, v1] (.int x :: .ref a :: st) f Q = pz_o (pz_pf f a 2 5 (.int x)) (fun f' => pz_R dA d 56 12 [v0, v1] st f' Q) := pz_gp d56_9 rfl rfl rfl rfl
theorem d56_12 : decode (pz_b 56) 12 = .ok (.aload_n 0, 1) := by decide +kernel
theorem q56_12 {dA : Nat → ClassId} {d : Nat} {st : List Value} {f : pz_F} {Q : Option Value → pz_F → Prop} {v1 : Value} {x : Nat} : pz_R dA d 56 12 [.ref x, v1] st f Q = pz_R dA d 56 13 [.ref x, v1] (.ref x :: st) f Q := pz_go (pz_so d56_12 rfl)
theorem d56_13 : decode (pz_b 56) 13 = .ok (.iconst 0, 1) := by decide +kernel
theorem q56_13 {dA : Nat → ClassId} {d : Nat} {st : List Value} {f : pz_F} {Q : Option Value → pz_F → Prop} {v0 v1 : Value} : pz_R dA d 56 13 [v0, v1] st f Q = pz_R dA d 56 14 [v0, v1] (.int 0 :: st) f Q := pz_go (pz_so d56_13 rfl)
theorem d56_14 : decode (pz_b 56) 14 = .ok (.putfield 27, 3) := by decide +kernel
theorem q56_14z {dA : Nat → ClassId} {d : Nat} {st : List Value} {f : pz_F} {Q : Option Value → pz_F → Prop} {v0 v1 : Value} {a : Nat} : pz_R dA d 56 14 [v0, v1] (.int 0 :: .ref a :: st) f Q = pz_o (pz_pf f a 2 7 (.int 0)) (fun f' => pz_R dA d 56 17 [v0, v1] st f' Q) := pz_gp d56_14 rfl rfl rfl rfl
theorem q56_14o {dA : Nat → ClassId} {d : Nat} {st : List Value} {f : pz_F} {Q : Option Value → pz_F → Prop} {v0 v1 : Value} {a : Nat} : pz_R dA d 56 14 [v0, v1] (.int 1 :: .ref a :: st) f Q = pz_o (pz_pf f a 2 7 (.int 1)) (fun f' => pz_R dA d 56 17 [v0, v1] st f' Q) := pz_gp d56_14 rfl rfl rfl rfl
theorem d56_17 : decode (pz_b 56) 17 = .ok (.return_, 1) := by decide +kernel
theorem q56_17 {dA : Nat → ClassId} {d : Nat} {f : pz_F} {Q : Option Value → pz_F → Prop} {v0 v1 : Value} : pz_R dA d 56 17 [v0, v1] [] f Q = Q none f := pz_gr (pz_so d56_17 rfl)
/-! R_becomeLent (LLeasePair$Message;)V -/
theorem e57 {dA : Nat → ClassId} {d : Nat} {f : pz_F} {Q : Option Value → pz_F → Prop} {a0 : Nat} {a1 : Nat} : pz_C dA d 57 [.ref a0, .ref a1] f Q = pz_R dA d 57 0 [.ref a0, .ref a1] [] f Q := rfl
theorem d57_0 : decode (pz_b 57) 0 = .ok (.aload_n 0, 1) := by decide +kernel
theorem q57_0 {dA : Nat → ClassId} {d : Nat} {st : List Value} {f : pz_F} {Q : Option Value → pz_F → Prop} {v1 : Value} {x : Nat} : pz_R dA d 57 0 [.ref x, v1] st f Q = pz_R dA d 57 1 [.ref x, v1] (.ref x :: st) f Q := pz_go (pz_so d57_0 rfl)
theorem d57_1 : decode (pz_b 57) 1 = .ok (.iconst 1, 1) := by decide +kernel
theorem q57_1 {dA : Nat → ClassId} {d : Nat} {st : List Value} {f : pz_F} {Q : Option Value → pz_F → Prop} {v0 v1 : Value} : pz_R dA d 57 1 [v0, v1] st f Q = pz_R dA d 57 2 [v0, v1] (.int 1 :: st) f Q := pz_go (pz_so d57_1 rfl)
theorem d57_2 : decode (pz_b 57) 2 = .ok (.putfield 9, 3) := by decide +kernel
theorem q57_2 {dA : Nat → ClassId} {d : Nat} {st : List Value} {f : pz_F} {Q : Option Value → pz_F → Prop} {v0 v1 : Value} {x : Int32} {a : Nat} : pz_R dA d 57 2 [v0, v1] (.int x :: .ref a :: st) f Q = pz_o (pz_pf f a 2 0 (.int x)) (fun f' => pz_R dA d 57 5 [v0, v1] st f' Q) := pz_gp d57_2 rfl rfl rfl rfl
theorem d57_5 : decode (pz_b 57) 5 = .ok (.aload_n 0, 1) := by decide +kernel
theorem q57_5 {dA : Nat → ClassId} {d : Nat} {st : List Value} {f : pz_F} {Q : Option Value → pz_F → Prop} {v1 : Value} {x : Nat} : pz_R dA d 57 5 [.ref x, v1] st f Q = pz_R dA d 57 6 [.ref x, v1] (.ref x :: st) f Q := pz_go (pz_so d57_5 rfl)
theorem d57_6 : decode (pz_b 57) 6 = .ok (.aload_n 1, 1) := by decide +kernel
theorem q57_6 {dA : Nat → ClassId} {d : Nat} {st : List Value} {f : pz_F} {Q : Option Value → pz_F → Prop} {v0 : Value} {x : Nat} : pz_R dA d 57 6 [v0, .ref x] st f Q = pz_R dA d 57 7 [v0, .ref x] (.ref x :: st) f Q := pz_go (pz_so d57_6 rfl)
theorem q57_6n {dA : Nat → ClassId} {d : Nat} {st : List Value} {f : pz_F} {Q : Option Value → pz_F → Prop} {v0 : Value} : pz_R dA d 57 6 [v0, .null] st f Q = pz_R dA d 57 7 [v0, .null] (.null :: st) f Q := pz_go (pz_so d57_6 rfl)
theorem d57_7 : decode (pz_b 57) 7 = .ok (.getfield 59, 3) := by decide +kernel
theorem q57_7 {dA : Nat → ClassId} {d : Nat} {st : List Value} {f : pz_F} {Q : Option Value → pz_F → Prop} {v0 v1 : Value} {a : Nat} : pz_R dA d 57 7 [v0, v1] (.ref a :: st) f Q = pz_o (pz_gf f a 5 7) (fun v => pz_R dA d 57 10 [v0, v1] (v :: st) f Q) := pz_gg d57_7 rfl
theorem d57_10 : decode (pz_b 57) 10 = .ok (.putfield 15, 3) := by decide +kernel
theorem q57_10 {dA : Nat → ClassId} {d : Nat} {st : List Value} {f : pz_F} {Q : Option Value → pz_F → Prop} {v0 v1 : Value} {x : Int32} {a : Nat} : pz_R dA d 57 10 [v0, v1] (.int x :: .ref a :: st) f Q = pz_o (pz_pf f a 2 1 (.int x)) (fun f' => pz_R dA d 57 13 [v0, v1] st f' Q) := pz_gp d57_10 rfl rfl rfl rfl
theorem d57_13 : decode (pz_b 57) 13 = .ok (.aload_n 0, 1) := by decide +kernel
theorem q57_13 {dA : Nat → ClassId} {d : Nat} {st : List Value} {f : pz_F} {Q : Option Value → pz_F → Prop} {v1 : Value} {x : Nat} : pz_R dA d 57 13 [.ref x, v1] st f Q = pz_R dA d 57 14 [.ref x, v1] (.ref x :: st) f Q := pz_go (pz_so d57_13 rfl)
theorem d57_14 : decode (pz_b 57) 14 = .ok (.aload_n 1, 1) := by decide +kernel
theorem q57_14 {dA : Nat → ClassId} {d : Nat} {st : List Value} {f : pz_F} {Q : Option Value → pz_F → Prop} {v0 : Value} {x : Nat} : pz_R dA d 57 14 [v0, .ref x] st f Q = pz_R dA d 57 15 [v0, .ref x] (.ref x :: st) f Q := pz_go (pz_so d57_14 rfl)
theorem q57_14n {dA : Nat → ClassId} {d : Nat} {st : List Value} {f : pz_F} {Q : Option Value → pz_F → Prop} {v0 : Value} : pz_R dA d 57 14 [v0, .null] st f Q = pz_R dA d 57 15 [v0, .null] (.null :: st) f Q := pz_go (pz_so d57_14 rfl)
theorem d57_15 : decode (pz_b 57) 15 = .ok (.getfield 60, 3) := by decide +kernel
theorem q57_15 {dA : Nat → ClassId} {d : Nat} {st : List Value} {f : pz_F} {Q : Option Value → pz_F → Prop} {v0 v1 : Value} {a : Nat} : pz_R dA d 57 15 [v0, v1] (.ref a :: st) f Q = pz_o (pz_gf f a 5 8) (fun v => pz_R dA d 57 18 [v0, v1] (v :: st) f Q) := pz_gg d57_15 rfl
theorem d57_18 : decode (pz_b 57) 18 = .ok (.putfield 18, 3) := by decide +kernel
theorem q57_18 {dA : Nat → ClassId} {d : Nat} {st : List Value} {f : pz_F} {Q : Option Value → pz_F → Prop} {v0 v1 : Value} {x : Int32} {a : Nat} : pz_R dA d 57 18 [v0, v1] (.int x :: .ref a :: st) f Q = pz_o (pz_pf f a 2 2 (.int x)) (fun f' => pz_R dA d 57 21 [v0, v1] st f' Q) := pz_gp d57_18 rfl rfl rfl rfl
theorem d57_21 : decode (pz_b 57) 21 = .ok (.aload_n 0, 1) := by decide +kernel
theorem q57_21 {dA : Nat → ClassId} {d : Nat} {st : List Value} {f : pz_F} {Q : Option Value → pz_F → Prop} {v1 : Value} {x : Nat} : pz_R dA d 57 21 [.ref x, v1] st f Q = pz_R dA d 57 22 [.ref x, v1] (.ref x :: st) f Q := pz_go (pz_so d57_21 rfl)
theorem d57_22 : decode (pz_b 57) 22 = .ok (.iconst 0, 1) := by decide +kernel
theorem q57_22 {dA : Nat → ClassId} {d : Nat} {st : List Value} {f : pz_F} {Q : Option Value → pz_F → Prop} {v0 v1 : Value} : pz_R dA d 57 22 [v0, v1] st f Q = pz_R dA d 57 23 [v0, v1] (.int 0 :: st) f Q := pz_go (pz_so d57_22 rfl)
theorem d57_23 : decode (pz_b 57) 23 = .ok (.putfield 41, 3) := by decide +kernel
theorem q57_23 {dA : Nat → ClassId} {d : Nat} {st : List Value} {f : pz_F} {Q : Option Value → pz_F → Prop} {v0 v1 : Value} {x : Int32} {a : Nat} : pz_R dA d 57 23 [v0, v1] (.int x :: .ref a :: st) f Q = pz_o (pz_pf f a 2 3 (.int x)) (fun f' => pz_R dA d 57 26 [v0, v1] st f' Q) := pz_gp d57_23 rfl rfl rfl rfl
theorem d57_26 : decode (pz_b 57) 26 = .ok (.aload_n 0, 1) := by decide +kernel
theorem q57_26 {dA : Nat → ClassId} {d : Nat} {st : List Value} {f : pz_F} {Q : Option Value → pz_F → Prop} {v1 : Value} {x : Nat} : pz_R dA d 57 26 [.ref x, v1] st f Q = pz_R dA d 57 27 [.ref x, v1] (.ref x :: st) f Q := pz_go (pz_so d57_26 rfl)
theorem d57_27 : decode (pz_b 57) 27 = .ok (.aload_n 1, 1) := by decide +kernel
theorem q57_27 {dA : Nat → ClassId} {d : Nat} {st : List Value} {f : pz_F} {Q : Option Value → pz_F → Prop} {v0 : Value} {x : Nat} : pz_R dA d 57 27 [v0, .ref x] st f Q = pz_R dA d 57 28 [v0, .ref x] (.ref x :: st) f Q := pz_go (pz_so d57_27 rfl)
theorem q57_27n {dA : Nat → ClassId} {d : Nat} {st : List Value} {f : pz_F} {Q : Option Value → pz_F → Prop} {v0 : Value} : pz_R dA d 57 27 [v0, .null] st f Q = pz_R dA d 57 28 [v0, .null] (.null :: st) f Q := pz_go (pz_so d57_27 rfl)
theorem d57_28 : decode (pz_b 57) 28 = .ok (.getfield 61, 3) := by decide +kernel
theorem q57_28 {dA : Nat → ClassId} {d : Nat} {st : List Value} {f : pz_F} {Q : Option Value → pz_F → Prop} {v0 v1 : Value} {a : Nat} : pz_R dA d 57 28 [v0, v1] (.ref a :: st) f Q = pz_o (pz_gf f a 5 11) (fun v => pz_R dA d 57 31 [v0, v1] (v :: st) f Q) := pz_gg d57_28 rfl
theorem d57_31 : decode (pz_b 57) 31 = .ok (.putfield 21, 3) := by decide +kernel
theorem q57_31 {dA : Nat → ClassId} {d : Nat} {st : List Value} {f : pz_F} {Q : Option Value → pz_F → Prop} {v0 v1 : Value} {x : Int32} {a : Nat} : pz_R dA d 57 31 [v0, v1] (.int x :: .ref a :: st) f Q = pz_o (pz_pf f a 2 4 (.int x)) (fun f' => pz_R dA d 57 34 [v0, v1] st f' Q) := pz_gp d57_31 rfl rfl rfl rfl
theorem d57_34 : decode (pz_b 57) 34 = .ok (.aload_n 0, 1) := by decide +kernel
theorem q57_34 {dA : Nat → ClassId} {d : Nat} {st : List Value} {f : pz_F} {Q : Option Value → pz_F → Prop} {v1 : Value} {x : Nat} : pz_R dA d 57 34 [.ref x, v1] st f Q = pz_R dA d 57 35 [.ref x, v1] (.ref x :: st) f Q := pz_go (pz_so d57_34 rfl)
theorem d57_35 : decode (pz_b 57) 35 = .ok (.aload_n 1, 1) := by decide +kernel
theorem q57_35 {dA : Nat → ClassId} {d : Nat} {st : List Value} {f : pz_F} {Q : Option Value → pz_F → Prop} {v0 : Value} {x : Nat} : pz_R dA d 57 35 [v0, .ref x] st f Q = pz_R dA d 57 36 [v0, .ref x] (.ref x :: st) f Q := pz_go (pz_so d57_35 rfl)
theorem q57_35n {dA : Nat → ClassId} {d : Nat} {st : List Value} {f : pz_F} {Q : Option Value → pz_F → Prop} {v0 : Value} : pz_R dA d 57 35 [v0, .null] st f Q = pz_R dA d 57 36 [v0, .null] (.null :: st) f Q := pz_go (pz_so d57_35 rfl)
theorem d57_36 : decode (pz_b 57) 36 = .ok (.getfield 56, 3) := by decide +kernel
theorem q57_36 {dA : Nat → ClassId} {d : Nat} {st : List Value} {f : pz_F} {Q : Option Value → pz_F → Prop} {v0 v1 : Value} {a : Nat} : pz_R dA d 57 36 [v0, v1] (.ref a :: st) f Q = pz_o (pz_gf f a 5 9) (fun v => pz_R dA d 57 39 [v0, v1] (v :: st) f Q) := pz_gg d57_36 rfl
theorem d57_39 : decode (pz_b 57) 39 = .ok (.putfield 38, 3) := by decide +kernel
theorem q57_39 {dA : Nat → ClassId} {d : Nat} {st : List Value} {f : pz_F} {Q : Option Value → pz_F → Prop} {v0 v1 : Value} {x : Int32} {a : Nat} : pz_R dA d 57 39 [v0, v1] (.int x :: .ref a :: st) f Q = pz_o (pz_pf f a 2 5 (.int x)) (fun f' => pz_R dA d 57 42 [v0, v1] st f' Q) := pz_gp d57_39 rfl rfl rfl rfl
theorem d57_42 : decode (pz_b 57) 42 = .ok (.aload_n 0, 1) := by decide +kernel
theorem q57_42 {dA : Nat → ClassId} {d : Nat} {st : List Value} {f : pz_F} {Q : Option Value → pz_F → Prop} {v1 : Value} {x : Nat} : pz_R dA d 57 42 [.ref x, v1] st f Q = pz_R dA d 57 43 [.ref x, v1] (.ref x :: st) f Q := pz_go (pz_so d57_42 rfl)
theorem d57_43 : decode (pz_b 57) 43 = .ok (.iconst 0, 1) := by decide +kernel
theorem q57_43 {dA : Nat → ClassId} {d : Nat} {st : List Value} {f : pz_F} {Q : Option Value → pz_F → Prop} {v0 v1 : Value} : pz_R dA d 57 43 [v0, v1] st f Q = pz_R dA d 57 44 [v0, v1] (.int 0 :: st) f Q := pz_go (pz_so d57_43 rfl)
theorem d57_44 : decode (pz_b 57) 44 = .ok (.putfield 27, 3) := by decide +kernel
theorem q57_44z {dA : Nat → ClassId} {d : Nat} {st : List Value} {f : pz_F} {Q : Option Value → pz_F → Prop} {v0 v1 : Value} {a : Nat} : pz_R dA d 57 44 [v0, v1] (.int 0 :: .ref a :: st) f Q = pz_o (pz_pf f a 2 7 (.int 0)) (fun f' => pz_R dA d 57 47 [v0, v1] st f' Q) := pz_gp d57_44 rfl rfl rfl rfl
theorem q57_44o {dA : Nat → ClassId} {d : Nat} {st : List Value} {f : pz_F} {Q : Option Value → pz_F → Prop} {v0 v1 : Value} {a : Nat} : pz_R dA d 57 44 [v0, v1] (.int 1 :: .ref a :: st) f Q = pz_o (pz_pf f a 2 7 (.int 1)) (fun f' => pz_R dA d 57 47 [v0, v1] st f' Q) := pz_gp d57_44 rfl rfl rfl rfl
theorem d57_47 : decode (pz_b 57) 47 = .ok (.return_, 1) := by decide +kernel
theorem q57_47 {dA : Nat → ClassId} {d : Nat} {f : pz_F} {Q : Option Value → pz_F → Prop} {v0 v1 : Value} : pz_R dA d 57 47 [v0, v1] [] f Q = Q none f := pz_gr (pz_so d57_47 rfl)
/-! R_recover (LLeasePair$Message;I)Z -/
theorem e58 {dA : Nat → ClassId} {d : Nat} {f : pz_F} {Q : Option Value → pz_F → Prop} {a0 : Nat} {a1 : Nat} {a2 : Int32} : pz_C dA d 58 [.ref a0, .ref a1, .int a2] f Q = pz_R dA d 58 0 [.ref a0, .ref a1, .int a2, .retAddr 0, .retAddr 0] [] f Q := rfl
theorem d58_0 : decode (pz_b 58) 0 = .ok (.aload_n 0, 1) := by decide +kernel
theorem q58_0 {dA : Nat → ClassId} {d : Nat} {st : List Value} {f : pz_F} {Q : Option Value → pz_F → Prop} {v1 v2 v3 v4 : Value} {x : Nat} : pz_R dA d 58 0 [.ref x, v1, v2, v3, v4] st f Q = pz_R dA d 58 1 [.ref x, v1, v2, v3, v4] (.ref x :: st) f Q := pz_go (pz_so d58_0 rfl)
theorem d58_1 : decode (pz_b 58) 1 = .ok (.iload_n 2, 1) := by decide +kernel
theorem q58_1 {dA : Nat → ClassId} {d : Nat} {st : List Value} {f : pz_F} {Q : Option Value → pz_F → Prop} {v0 v1 v3 v4 : Value} {x : Int32} : pz_R dA d 58 1 [v0, v1, .int x, v3, v4] st f Q = pz_R dA d 58 2 [v0, v1, .int x, v3, v4] (.int x :: st) f Q := pz_go (pz_so d58_1 rfl)
theorem d58_2 : decode (pz_b 58) 2 = .ok (.invokevirtual 64, 3) := by decide +kernel
theorem q58_2 {dA : Nat → ClassId} {d : Nat} {st : List Value} {f : pz_F} {Q : Option Value → pz_F → Prop} {v0 v1 v2 v3 v4 : Value} {c0 : Int32} {b : Nat} (hr : st.length ≤ 4) : pz_R dA (d + 1) 58 2 [v0, v1, v2, v3, v4] (.int c0 :: .ref b :: st) f Q = pz_o (pz_gu f b 2) (fun _ => pz_C dA d 49 [.ref b, .int c0] f (fun r f' => pz_R dA (d + 1) 58 5 [v0, v1, v2, v3, v4] (r.toList ++ st) f' Q)) := pz_gcv (As := [.int c0]) d58_2 rfl rfl rfl hr
theorem d58_5 : decode (pz_b 58) 5 = .ok (.istore_n 3, 1) := by decide +kernel
theorem q58_5 {dA : Nat → ClassId} {d : Nat} {st : List Value} {f : pz_F} {Q : Option Value → pz_F → Prop} {v0 v1 v2 v3 v4 : Value} {x : Int32} : pz_R dA d 58 5 [v0, v1, v2, v3, v4] (.int x :: st) f Q = pz_R dA d 58 6 [v0, v1, v2, .int x, v4] st f Q := pz_go (pz_so d58_5 rfl)
theorem d58_6 : decode (pz_b 58) 6 = .ok (.aload_n 0, 1) := by decide +kernel
theorem q58_6 {dA : Nat → ClassId} {d : Nat} {st : List Value} {f : pz_F} {Q : Option Value → pz_F → Prop} {v1 v2 v3 v4 : Value} {x : Nat} : pz_R dA d 58 6 [.ref x, v1, v2, v3, v4] st f Q = pz_R dA d 58 7 [.ref x, v1, v2, v3, v4] (.ref x :: st) f Q := pz_go (pz_so d58_6 rfl)
theorem d58_7 : decode (pz_b 58) 7 = .ok (.getfield 18, 3) := by decide +kernel
theorem q58_7 {dA : Nat → ClassId} {d : Nat} {st : List Value} {f : pz_F} {Q : Option Value → pz_F → Prop} {v0 v1 v2 v3 v4 : Value} {a : Nat} : pz_R dA d 58 7 [v0, v1, v2, v3, v4] (.ref a :: st) f Q = pz_o (pz_gf f a 2 2) (fun v => pz_R dA d 58 10 [v0, v1, v2, v3, v4] (v :: st) f Q) := pz_gg d58_7 rfl
theorem d58_10 : decode (pz_b 58) 10 = .ok (.istore 4, 2) := by decide +kernel
theorem q58_10 {dA : Nat → ClassId} {d : Nat} {st : List Value} {f : pz_F} {Q : Option Value → pz_F → Prop} {v0 v1 v2 v3 v4 : Value} {x : Int32} : pz_R dA d 58 10 [v0, v1, v2, v3, v4] (.int x :: st) f Q = pz_R dA d 58 12 [v0, v1, v2, v3, .int x] st f Q := pz_go (pz_so d58_10 rfl)
theorem d58_12 : decode (pz_b 58) 12 = .ok (.iload_n 3, 1) := by decide +kernel
theorem q58_12 {dA : Nat → ClassId} {d : Nat} {st : List Value} {f : pz_F} {Q : Option Value → pz_F → Prop} {v0 v1 v2 v4 : Value} {x : Int32} : pz_R dA d 58 12 [v0, v1, v2, .int x, v4] st f Q = pz_R dA d 58 13 [v0, v1, v2, .int x, v4] (.int x :: st) f Q := pz_go (pz_so d58_12 rfl)
theorem d58_13 : decode (pz_b 58) 13 = .ok (.ifCond .eq 13, 3) := by decide +kernel
theorem q58_13 {dA : Nat → ClassId} {d : Nat} {st : List Value} {f : pz_F} {Q : Option Value → pz_F → Prop} {v0 v1 v2 v3 v4 : Value} {x : Int32} : pz_R dA d 58 13 [v0, v1, v2, v3, v4] (.int x :: st) f Q = (if x = 0 then pz_R dA d 58 26 [v0, v1, v2, v3, v4] st f Q else pz_R dA d 58 16 [v0, v1, v2, v3, v4] st f Q) := pz_gj1 .eq d58_13 rfl
theorem d58_16 : decode (pz_b 58) 16 = .ok (.aload_n 0, 1) := by decide +kernel
theorem q58_16 {dA : Nat → ClassId} {d : Nat} {st : List Value} {f : pz_F} {Q : Option Value → pz_F → Prop} {v1 v2 v3 v4 : Value} {x : Nat} : pz_R dA d 58 16 [.ref x, v1, v2, v3, v4] st f Q = pz_R dA d 58 17 [.ref x, v1, v2, v3, v4] (.ref x :: st) f Q := pz_go (pz_so d58_16 rfl)
theorem d58_17 : decode (pz_b 58) 17 = .ok (.aload_n 1, 1) := by decide +kernel
theorem q58_17 {dA : Nat → ClassId} {d : Nat} {st : List Value} {f : pz_F} {Q : Option Value → pz_F → Prop} {v0 v2 v3 v4 : Value} {x : Nat} : pz_R dA d 58 17 [v0, .ref x, v2, v3, v4] st f Q = pz_R dA d 58 18 [v0, .ref x, v2, v3, v4] (.ref x :: st) f Q := pz_go (pz_so d58_17 rfl)
theorem q58_17n {dA : Nat → ClassId} {d : Nat} {st : List Value} {f : pz_F} {Q : Option Value → pz_F → Prop} {v0 v2 v3 v4 : Value} : pz_R dA d 58 17 [v0, .null, v2, v3, v4] st f Q = pz_R dA d 58 18 [v0, .null, v2, v3, v4] (.null :: st) f Q := pz_go (pz_so d58_17 rfl)
theorem d58_18 : decode (pz_b 58) 18 = .ok (.invokevirtual 67, 3) := by decide +kernel
theorem q58_18 {dA : Nat → ClassId} {d : Nat} {st : List Value} {f : pz_F} {Q : Option Value → pz_F → Prop} {v0 v1 v2 v3 v4 : Value} {c0 : Nat} {b : Nat} (hr : st.length ≤ 4) : pz_R dA (d + 1) 58 18 [v0, v1, v2, v3, v4] (.ref c0 :: .ref b :: st) f Q = pz_o (pz_gu f b 2) (fun _ => pz_C dA d 59 [.ref b, .ref c0] f (fun r f' => pz_R dA (d + 1) 58 21 [v0, v1, v2, v3, v4] (r.toList ++ st) f' Q)) := pz_gcv (As := [.ref c0]) d58_18 rfl rfl rfl hr
theorem d58_21 : decode (pz_b 58) 21 = .ok (.ifCond .ne 5, 3) := by decide +kernel
theorem q58_21 {dA : Nat → ClassId} {d : Nat} {st : List Value} {f : pz_F} {Q : Option Value → pz_F → Prop} {v0 v1 v2 v3 v4 : Value} {x : Int32} : pz_R dA d 58 21 [v0, v1, v2, v3, v4] (.int x :: st) f Q = (if x = 0 then pz_R dA d 58 24 [v0, v1, v2, v3, v4] st f Q else pz_R dA d 58 26 [v0, v1, v2, v3, v4] st f Q) := pz_gj1 .ne d58_21 rfl
theorem d58_24 : decode (pz_b 58) 24 = .ok (.iconst 0, 1) := by decide +kernel
theorem q58_24 {dA : Nat → ClassId} {d : Nat} {st : List Value} {f : pz_F} {Q : Option Value → pz_F → Prop} {v0 v1 v2 v3 v4 : Value} : pz_R dA d 58 24 [v0, v1, v2, v3, v4] st f Q = pz_R dA d 58 25 [v0, v1, v2, v3, v4] (.int 0 :: st) f Q := pz_go (pz_so d58_24 rfl)
theorem d58_25 : decode (pz_b 58) 25 = .ok (.ireturn, 1) := by decide +kernel
theorem q58_25z {dA : Nat → ClassId} {d : Nat} {f : pz_F} {Q : Option Value → pz_F → Prop} {v0 v1 v2 v3 v4 : Value} : pz_R dA d 58 25 [v0, v1, v2, v3, v4] [.int 0] f Q = Q (some (.int 0)) f := pz_gri d58_25 rfl rfl
theorem q58_25o {dA : Nat → ClassId} {d : Nat} {f : pz_F} {Q : Option Value → pz_F → Prop} {v0 v1 v2 v3 v4 : Value} : pz_R dA d 58 25 [v0, v1, v2, v3, v4] [.int 1] f Q = Q (some (.int 1)) f := pz_gri d58_25 rfl rfl
theorem d58_26 : decode (pz_b 58) 26 = .ok (.aload_n 1, 1) := by decide +kernel
theorem q58_26 {dA : Nat → ClassId} {d : Nat} {st : List Value} {f : pz_F} {Q : Option Value → pz_F → Prop} {v0 v2 v3 v4 : Value} {x : Nat} : pz_R dA d 58 26 [v0, .ref x, v2, v3, v4] st f Q = pz_R dA d 58 27 [v0, .ref x, v2, v3, v4] (.ref x :: st) f Q := pz_go (pz_so d58_26 rfl)
theorem q58_26n {dA : Nat → ClassId} {d : Nat} {st : List Value} {f : pz_F} {Q : Option Value → pz_F → Prop} {v0 v2 v3 v4 : Value} : pz_R dA d 58 26 [v0, .null, v2, v3, v4] st f Q = pz_R dA d 58 27 [v0, .null, v2, v3, v4] (.null :: st) f Q := pz_go (pz_so d58_26 rfl)
theorem d58_27 : decode (pz_b 58) 27 = .ok (.getfield 71, 3) := by decide +kernel
theorem q58_27 {dA : Nat → ClassId} {d : Nat} {st : List Value} {f : pz_F} {Q : Option Value → pz_F → Prop} {v0 v1 v2 v3 v4 : Value} {a : Nat} : pz_R dA d 58 27 [v0, v1, v2, v3, v4] (.ref a :: st) f Q = pz_o (pz_gf f a 5 6) (fun v => pz_R dA d 58 30 [v0, v1, v2, v3, v4] (v :: st) f Q) := pz_gg d58_27 rfl
theorem d58_30 : decode (pz_b 58) 30 = .ok (.iconst 1, 1) := by decide +kernel
theorem q58_30 {dA : Nat → ClassId} {d : Nat} {st : List Value} {f : pz_F} {Q : Option Value → pz_F → Prop} {v0 v1 v2 v3 v4 : Value} : pz_R dA d 58 30 [v0, v1, v2, v3, v4] st f Q = pz_R dA d 58 31 [v0, v1, v2, v3, v4] (.int 1 :: st) f Q := pz_go (pz_so d58_30 rfl)
theorem d58_31 : decode (pz_b 58) 31 = .ok (.if_icmp .eq 10, 3) := by decide +kernel
theorem q58_31 {dA : Nat → ClassId} {d : Nat} {st : List Value} {f : pz_F} {Q : Option Value → pz_F → Prop} {v0 v1 v2 v3 v4 : Value} {x y : Int32} : pz_R dA d 58 31 [v0, v1, v2, v3, v4] (.int y :: .int x :: st) f Q = (if x = y then pz_R dA d 58 41 [v0, v1, v2, v3, v4] st f Q else pz_R dA d 58 34 [v0, v1, v2, v3, v4] st f Q) := pz_gjn .eq d58_31 rfl
theorem d58_34 : decode (pz_b 58) 34 = .ok (.aload_n 0, 1) := by decide +kernel
theorem q58_34 {dA : Nat → ClassId} {d : Nat} {st : List Value} {f : pz_F} {Q : Option Value → pz_F → Prop} {v1 v2 v3 v4 : Value} {x : Nat} : pz_R dA d 58 34 [.ref x, v1, v2, v3, v4] st f Q = pz_R dA d 58 35 [.ref x, v1, v2, v3, v4] (.ref x :: st) f Q := pz_go (pz_so d58_34 rfl)
theorem d58_35 : decode (pz_b 58) 35 = .ok (.aload_n 1, 1) := by decide +kernel
theorem q58_35 {dA : Nat → ClassId} {d : Nat} {st : List Value} {f : pz_F} {Q : Option Value → pz_F → Prop} {v0 v2 v3 v4 : Value} {x : Nat} : pz_R dA d 58 35 [v0, .ref x, v2, v3, v4] st f Q = pz_R dA d 58 36 [v0, .ref x, v2, v3, v4] (.ref x :: st) f Q := pz_go (pz_so d58_35 rfl)
theorem q58_35n {dA : Nat → ClassId} {d : Nat} {st : List Value} {f : pz_F} {Q : Option Value → pz_F → Prop} {v0 v2 v3 v4 : Value} : pz_R dA d 58 35 [v0, .null, v2, v3, v4] st f Q = pz_R dA d 58 36 [v0, .null, v2, v3, v4] (.null :: st) f Q := pz_go (pz_so d58_35 rfl)
theorem d58_36 : decode (pz_b 58) 36 = .ok (.invokevirtual 74, 3) := by decide +kernel
theorem q58_36 {dA : Nat → ClassId} {d : Nat} {st : List Value} {f : pz_F} {Q : Option Value → pz_F → Prop} {v0 v1 v2 v3 v4 : Value} {c0 : Nat} {b : Nat} (hr : st.length ≤ 4) : pz_R dA (d + 1) 58 36 [v0, v1, v2, v3, v4] (.ref c0 :: .ref b :: st) f Q = pz_o (pz_gu f b 2) (fun _ => pz_C dA d 56 [.ref b, .ref c0] f (fun r f' => pz_R dA (d + 1) 58 39 [v0, v1, v2, v3, v4] (r.toList ++ st) f' Q)) := pz_gcv (As := [.ref c0]) d58_36 rfl rfl rfl hr
theorem d58_39 : decode (pz_b 58) 39 = .ok (.iconst 1, 1) := by decide +kernel
theorem q58_39 {dA : Nat → ClassId} {d : Nat} {st : List Value} {f : pz_F} {Q : Option Value → pz_F → Prop} {v0 v1 v2 v3 v4 : Value} : pz_R dA d 58 39 [v0, v1, v2, v3, v4] st f Q = pz_R dA d 58 40 [v0, v1, v2, v3, v4] (.int 1 :: st) f Q := pz_go (pz_so d58_39 rfl)
theorem d58_40 : decode (pz_b 58) 40 = .ok (.ireturn, 1) := by decide +kernel
theorem q58_40z {dA : Nat → ClassId} {d : Nat} {f : pz_F} {Q : Option Value → pz_F → Prop} {v0 v1 v2 v3 v4 : Value} : pz_R dA d 58 40 [v0, v1, v2, v3, v4] [.int 0] f Q = Q (some (.int 0)) f := pz_gri d58_40 rfl rfl
theorem q58_40o {dA : Nat → ClassId} {d : Nat} {f : pz_F} {Q : Option Value → pz_F → Prop} {v0 v1 v2 v3 v4 : Value} : pz_R dA d 58 40 [v0, v1, v2, v3, v4] [.int 1] f Q = Q (some (.int 1)) f := pz_gri d58_40 rfl rfl
theorem d58_41 : decode (pz_b 58) 41 = .ok (.aload_n 0, 1) := by decide +kernel
theorem q58_41 {dA : Nat → ClassId} {d : Nat} {st : List Value} {f : pz_F} {Q : Option Value → pz_F → Prop} {v1 v2 v3 v4 : Value} {x : Nat} : pz_R dA d 58 41 [.ref x, v1, v2, v3, v4] st f Q = pz_R dA d 58 42 [.ref x, v1, v2, v3, v4] (.ref x :: st) f Q := pz_go (pz_so d58_41 rfl)
theorem d58_42 : decode (pz_b 58) 42 = .ok (.aload_n 1, 1) := by decide +kernel
theorem q58_42 {dA : Nat → ClassId} {d : Nat} {st : List Value} {f : pz_F} {Q : Option Value → pz_F → Prop} {v0 v2 v3 v4 : Value} {x : Nat} : pz_R dA d 58 42 [v0, .ref x, v2, v3, v4] st f Q = pz_R dA d 58 43 [v0, .ref x, v2, v3, v4] (.ref x :: st) f Q := pz_go (pz_so d58_42 rfl)
theorem q58_42n {dA : Nat → ClassId} {d : Nat} {st : List Value} {f : pz_F} {Q : Option Value → pz_F → Prop} {v0 v2 v3 v4 : Value} : pz_R dA d 58 42 [v0, .null, v2, v3, v4] st f Q = pz_R dA d 58 43 [v0, .null, v2, v3, v4] (.null :: st) f Q := pz_go (pz_so d58_42 rfl)
theorem d58_43 : decode (pz_b 58) 43 = .ok (.invokevirtual 78, 3) := by decide +kernel
theorem q58_43 {dA : Nat → ClassId} {d : Nat} {st : List Value} {f : pz_F} {Q : Option Value → pz_F → Prop} {v0 v1 v2 v3 v4 : Value} {c0 : Nat} {b : Nat} (hr : st.length ≤ 4) : pz_R dA (d + 1) 58 43 [v0, v1, v2, v3, v4] (.ref c0 :: .ref b :: st) f Q = pz_o (pz_gu f b 2) (fun _ => pz_C dA d 57 [.ref b, .ref c0] f (fun r f' => pz_R dA (d + 1) 58 46 [v0, v1, v2, v3, v4] (r.toList ++ st) f' Q)) := pz_gcv (As := [.ref c0]) d58_43 rfl rfl rfl hr
theorem d58_46 : decode (pz_b 58) 46 = .ok (.iload_n 3, 1) := by decide +kernel
theorem q58_46 {dA : Nat → ClassId} {d : Nat} {st : List Value} {f : pz_F} {Q : Option Value → pz_F → Prop} {v0 v1 v2 v4 : Value} {x : Int32} : pz_R dA d 58 46 [v0, v1, v2, .int x, v4] st f Q = pz_R dA d 58 47 [v0, v1, v2, .int x, v4] (.int x :: st) f Q := pz_go (pz_so d58_46 rfl)
theorem d58_47 : decode (pz_b 58) 47 = .ok (.ifCond .eq 16, 3) := by decide +kernel
theorem q58_47 {dA : Nat → ClassId} {d : Nat} {st : List Value} {f : pz_F} {Q : Option Value → pz_F → Prop} {v0 v1 v2 v3 v4 : Value} {x : Int32} : pz_R dA d 58 47 [v0, v1, v2, v3, v4] (.int x :: st) f Q = (if x = 0 then pz_R dA d 58 63 [v0, v1, v2, v3, v4] st f Q else pz_R dA d 58 50 [v0, v1, v2, v3, v4] st f Q) := pz_gj1 .eq d58_47 rfl
theorem d58_50 : decode (pz_b 58) 50 = .ok (.aload_n 0, 1) := by decide +kernel
theorem q58_50 {dA : Nat → ClassId} {d : Nat} {st : List Value} {f : pz_F} {Q : Option Value → pz_F → Prop} {v1 v2 v3 v4 : Value} {x : Nat} : pz_R dA d 58 50 [.ref x, v1, v2, v3, v4] st f Q = pz_R dA d 58 51 [.ref x, v1, v2, v3, v4] (.ref x :: st) f Q := pz_go (pz_so d58_50 rfl)
theorem d58_51 : decode (pz_b 58) 51 = .ok (.aload_n 0, 1) := by decide +kernel
theorem q58_51 {dA : Nat → ClassId} {d : Nat} {st : List Value} {f : pz_F} {Q : Option Value → pz_F → Prop} {v1 v2 v3 v4 : Value} {x : Nat} : pz_R dA d 58 51 [.ref x, v1, v2, v3, v4] st f Q = pz_R dA d 58 52 [.ref x, v1, v2, v3, v4] (.ref x :: st) f Q := pz_go (pz_so d58_51 rfl)
theorem d58_52 : decode (pz_b 58) 52 = .ok (.getfield 18, 3) := by decide +kernel
theorem q58_52 {dA : Nat → ClassId} {d : Nat} {st : List Value} {f : pz_F} {Q : Option Value → pz_F → Prop} {v0 v1 v2 v3 v4 : Value} {a : Nat} : pz_R dA d 58 52 [v0, v1, v2, v3, v4] (.ref a :: st) f Q = pz_o (pz_gf f a 2 2) (fun v => pz_R dA d 58 55 [v0, v1, v2, v3, v4] (v :: st) f Q) := pz_gg d58_52 rfl
theorem d58_55 : decode (pz_b 58) 55 = .ok (.iload 4, 2) := by decide +kernel
theorem q58_55 {dA : Nat → ClassId} {d : Nat} {st : List Value} {f : pz_F} {Q : Option Value → pz_F → Prop} {v0 v1 v2 v3 : Value} {x : Int32} : pz_R dA d 58 55 [v0, v1, v2, v3, .int x] st f Q = pz_R dA d 58 57 [v0, v1, v2, v3, .int x] (.int x :: st) f Q := pz_go (pz_so d58_55 rfl)
theorem d58_57 : decode (pz_b 58) 57 = .ok (.invokestatic 44, 3) := by decide +kernel
theorem q58_57 {dA : Nat → ClassId} {d : Nat} {st : List Value} {f : pz_F} {Q : Option Value → pz_F → Prop} {v0 v1 v2 v3 v4 : Value} {x y : Int32} (hr : st.length ≤ 4) : pz_R dA d 58 57 [v0, v1, v2, v3, v4] (.int y :: .int x :: st) f Q = pz_R dA d 58 60 [v0, v1, v2, v3, v4] (.int (mx x y) :: st) f Q := pz_gmx d58_57 rfl rfl hr
theorem d58_60 : decode (pz_b 58) 60 = .ok (.putfield 18, 3) := by decide +kernel
theorem q58_60 {dA : Nat → ClassId} {d : Nat} {st : List Value} {f : pz_F} {Q : Option Value → pz_F → Prop} {v0 v1 v2 v3 v4 : Value} {x : Int32} {a : Nat} : pz_R dA d 58 60 [v0, v1, v2, v3, v4] (.int x :: .ref a :: st) f Q = pz_o (pz_pf f a 2 2 (.int x)) (fun f' => pz_R dA d 58 63 [v0, v1, v2, v3, v4] st f' Q) := pz_gp d58_60 rfl rfl rfl rfl
theorem d58_63 : decode (pz_b 58) 63 = .ok (.iconst 1, 1) := by decide +kernel
theorem q58_63 {dA : Nat → ClassId} {d : Nat} {st : List Value} {f : pz_F} {Q : Option Value → pz_F → Prop} {v0 v1 v2 v3 v4 : Value} : pz_R dA d 58 63 [v0, v1, v2, v3, v4] st f Q = pz_R dA d 58 64 [v0, v1, v2, v3, v4] (.int 1 :: st) f Q := pz_go (pz_so d58_63 rfl)
theorem d58_64 : decode (pz_b 58) 64 = .ok (.ireturn, 1) := by decide +kernel
theorem q58_64z {dA : Nat → ClassId} {d : Nat} {f : pz_F} {Q : Option Value → pz_F → Prop} {v0 v1 v2 v3 v4 : Value} : pz_R dA d 58 64 [v0, v1, v2, v3, v4] [.int 0] f Q = Q (some (.int 0)) f := pz_gri d58_64 rfl rfl
theorem q58_64o {dA : Nat → ClassId} {d : Nat} {f : pz_F} {Q : Option Value → pz_F → Prop} {v0 v1 v2 v3 v4 : Value} : pz_R dA d 58 64 [v0, v1, v2, v3, v4] [.int 1] f Q = Q (some (.int 1)) f := pz_gri d58_64 rfl rfl
/-! R_isSameLease (LLeasePair$Message;)Z -/
theorem e59 {dA : Nat → ClassId} {d : Nat} {f : pz_F} {Q : Option Value → pz_F → Prop} {a0 : Nat} {a1 : Nat} : pz_C dA d 59 [.ref a0, .ref a1] f Q = pz_R dA d 59 0 [.ref a0, .ref a1] [] f Q := rfl
theorem d59_0 : decode (pz_b 59) 0 = .ok (.aload_n 1, 1) := by decide +kernel
theorem q59_0 {dA : Nat → ClassId} {d : Nat} {st : List Value} {f : pz_F} {Q : Option Value → pz_F → Prop} {v0 : Value} {x : Nat} : pz_R dA d 59 0 [v0, .ref x] st f Q = pz_R dA d 59 1 [v0, .ref x] (.ref x :: st) f Q := pz_go (pz_so d59_0 rfl)
theorem q59_0n {dA : Nat → ClassId} {d : Nat} {st : List Value} {f : pz_F} {Q : Option Value → pz_F → Prop} {v0 : Value} : pz_R dA d 59 0 [v0, .null] st f Q = pz_R dA d 59 1 [v0, .null] (.null :: st) f Q := pz_go (pz_so d59_0 rfl)
theorem d59_1 : decode (pz_b 59) 1 = .ok (.getfield 71, 3) := by decide +kernel
theorem q59_1 {dA : Nat → ClassId} {d : Nat} {st : List Value} {f : pz_F} {Q : Option Value → pz_F → Prop} {v0 v1 : Value} {a : Nat} : pz_R dA d 59 1 [v0, v1] (.ref a :: st) f Q = pz_o (pz_gf f a 5 6) (fun v => pz_R dA d 59 4 [v0, v1] (v :: st) f Q) := pz_gg d59_1 rfl
theorem d59_4 : decode (pz_b 59) 4 = .ok (.iconst 1, 1) := by decide +kernel
theorem q59_4 {dA : Nat → ClassId} {d : Nat} {st : List Value} {f : pz_F} {Q : Option Value → pz_F → Prop} {v0 v1 : Value} : pz_R dA d 59 4 [v0, v1] st f Q = pz_R dA d 59 5 [v0, v1] (.int 1 :: st) f Q := pz_go (pz_so d59_4 rfl)
theorem d59_5 : decode (pz_b 59) 5 = .ok (.if_icmp .ne 29, 3) := by decide +kernel
theorem q59_5 {dA : Nat → ClassId} {d : Nat} {st : List Value} {f : pz_F} {Q : Option Value → pz_F → Prop} {v0 v1 : Value} {x y : Int32} : pz_R dA d 59 5 [v0, v1] (.int y :: .int x :: st) f Q = (if x = y then pz_R dA d 59 8 [v0, v1] st f Q else pz_R dA d 59 34 [v0, v1] st f Q) := pz_gjn .ne d59_5 rfl
theorem d59_8 : decode (pz_b 59) 8 = .ok (.aload_n 1, 1) := by decide +kernel
theorem q59_8 {dA : Nat → ClassId} {d : Nat} {st : List Value} {f : pz_F} {Q : Option Value → pz_F → Prop} {v0 : Value} {x : Nat} : pz_R dA d 59 8 [v0, .ref x] st f Q = pz_R dA d 59 9 [v0, .ref x] (.ref x :: st) f Q := pz_go (pz_so d59_8 rfl)
theorem q59_8n {dA : Nat → ClassId} {d : Nat} {st : List Value} {f : pz_F} {Q : Option Value → pz_F → Prop} {v0 : Value} : pz_R dA d 59 8 [v0, .null] st f Q = pz_R dA d 59 9 [v0, .null] (.null :: st) f Q := pz_go (pz_so d59_8 rfl)
theorem d59_9 : decode (pz_b 59) 9 = .ok (.getfield 59, 3) := by decide +kernel
theorem q59_9 {dA : Nat → ClassId} {d : Nat} {st : List Value} {f : pz_F} {Q : Option Value → pz_F → Prop} {v0 v1 : Value} {a : Nat} : pz_R dA d 59 9 [v0, v1] (.ref a :: st) f Q = pz_o (pz_gf f a 5 7) (fun v => pz_R dA d 59 12 [v0, v1] (v :: st) f Q) := pz_gg d59_9 rfl
theorem d59_12 : decode (pz_b 59) 12 = .ok (.aload_n 0, 1) := by decide +kernel
theorem q59_12 {dA : Nat → ClassId} {d : Nat} {st : List Value} {f : pz_F} {Q : Option Value → pz_F → Prop} {v1 : Value} {x : Nat} : pz_R dA d 59 12 [.ref x, v1] st f Q = pz_R dA d 59 13 [.ref x, v1] (.ref x :: st) f Q := pz_go (pz_so d59_12 rfl)
theorem d59_13 : decode (pz_b 59) 13 = .ok (.getfield 15, 3) := by decide +kernel
theorem q59_13 {dA : Nat → ClassId} {d : Nat} {st : List Value} {f : pz_F} {Q : Option Value → pz_F → Prop} {v0 v1 : Value} {a : Nat} : pz_R dA d 59 13 [v0, v1] (.ref a :: st) f Q = pz_o (pz_gf f a 2 1) (fun v => pz_R dA d 59 16 [v0, v1] (v :: st) f Q) := pz_gg d59_13 rfl
theorem d59_16 : decode (pz_b 59) 16 = .ok (.if_icmp .ne 18, 3) := by decide +kernel
theorem q59_16 {dA : Nat → ClassId} {d : Nat} {st : List Value} {f : pz_F} {Q : Option Value → pz_F → Prop} {v0 v1 : Value} {x y : Int32} : pz_R dA d 59 16 [v0, v1] (.int y :: .int x :: st) f Q = (if x = y then pz_R dA d 59 19 [v0, v1] st f Q else pz_R dA d 59 34 [v0, v1] st f Q) := pz_gjn .ne d59_16 rfl
theorem d59_19 : decode (pz_b 59) 19 = .ok (.aload_n 1, 1) := by decide +kernel
theorem q59_19 {dA : Nat → ClassId} {d : Nat} {st : List Value} {f : pz_F} {Q : Option Value → pz_F → Prop} {v0 : Value} {x : Nat} : pz_R dA d 59 19 [v0, .ref x] st f Q = pz_R dA d 59 20 [v0, .ref x] (.ref x :: st) f Q := pz_go (pz_so d59_19 rfl)
theorem q59_19n {dA : Nat → ClassId} {d : Nat} {st : List Value} {f : pz_F} {Q : Option Value → pz_F → Prop} {v0 : Value} : pz_R dA d 59 19 [v0, .null] st f Q = pz_R dA d 59 20 [v0, .null] (.null :: st) f Q := pz_go (pz_so d59_19 rfl)
theorem d59_20 : decode (pz_b 59) 20 = .ok (.getfield 56, 3) := by decide +kernel
theorem q59_20 {dA : Nat → ClassId} {d : Nat} {st : List Value} {f : pz_F} {Q : Option Value → pz_F → Prop} {v0 v1 : Value} {a : Nat} : pz_R dA d 59 20 [v0, v1] (.ref a :: st) f Q = pz_o (pz_gf f a 5 9) (fun v => pz_R dA d 59 23 [v0, v1] (v :: st) f Q) := pz_gg d59_20 rfl
theorem d59_23 : decode (pz_b 59) 23 = .ok (.aload_n 0, 1) := by decide +kernel
theorem q59_23 {dA : Nat → ClassId} {d : Nat} {st : List Value} {f : pz_F} {Q : Option Value → pz_F → Prop} {v1 : Value} {x : Nat} : pz_R dA d 59 23 [.ref x, v1] st f Q = pz_R dA d 59 24 [.ref x, v1] (.ref x :: st) f Q := pz_go (pz_so d59_23 rfl)
theorem d59_24 : decode (pz_b 59) 24 = .ok (.getfield 38, 3) := by decide +kernel
theorem q59_24 {dA : Nat → ClassId} {d : Nat} {st : List Value} {f : pz_F} {Q : Option Value → pz_F → Prop} {v0 v1 : Value} {a : Nat} : pz_R dA d 59 24 [v0, v1] (.ref a :: st) f Q = pz_o (pz_gf f a 2 5) (fun v => pz_R dA d 59 27 [v0, v1] (v :: st) f Q) := pz_gg d59_24 rfl
theorem d59_27 : decode (pz_b 59) 27 = .ok (.if_icmp .ne 7, 3) := by decide +kernel
theorem q59_27 {dA : Nat → ClassId} {d : Nat} {st : List Value} {f : pz_F} {Q : Option Value → pz_F → Prop} {v0 v1 : Value} {x y : Int32} : pz_R dA d 59 27 [v0, v1] (.int y :: .int x :: st) f Q = (if x = y then pz_R dA d 59 30 [v0, v1] st f Q else pz_R dA d 59 34 [v0, v1] st f Q) := pz_gjn .ne d59_27 rfl
theorem d59_30 : decode (pz_b 59) 30 = .ok (.iconst 1, 1) := by decide +kernel
theorem q59_30 {dA : Nat → ClassId} {d : Nat} {st : List Value} {f : pz_F} {Q : Option Value → pz_F → Prop} {v0 v1 : Value} : pz_R dA d 59 30 [v0, v1] st f Q = pz_R dA d 59 31 [v0, v1] (.int 1 :: st) f Q := pz_go (pz_so d59_30 rfl)
theorem d59_31 : decode (pz_b 59) 31 = .ok (.goto 4, 3) := by decide +kernel
theorem q59_31 {dA : Nat → ClassId} {d : Nat} {st : List Value} {f : pz_F} {Q : Option Value → pz_F → Prop} {v0 v1 : Value} : pz_R dA d 59 31 [v0, v1] st f Q = pz_R dA d 59 35 [v0, v1] st f Q := pz_go (pz_so d59_31 rfl)
theorem d59_34 : decode (pz_b 59) 34 = .ok (.iconst 0, 1) := by decide +kernel
theorem q59_34 {dA : Nat → ClassId} {d : Nat} {st : List Value} {f : pz_F} {Q : Option Value → pz_F → Prop} {v0 v1 : Value} : pz_R dA d 59 34 [v0, v1] st f Q = pz_R dA d 59 35 [v0, v1] (.int 0 :: st) f Q := pz_go (pz_so d59_34 rfl)
theorem d59_35 : decode (pz_b 59) 35 = .ok (.ireturn, 1) := by decide +kernel
theorem q59_35z {dA : Nat → ClassId} {d : Nat} {f : pz_F} {Q : Option Value → pz_F → Prop} {v0 v1 : Value} : pz_R dA d 59 35 [v0, v1] [.int 0] f Q = Q (some (.int 0)) f := pz_gri d59_35 rfl rfl
theorem q59_35o {dA : Nat → ClassId} {d : Nat} {f : pz_F} {Q : Option Value → pz_F → Prop} {v0 v1 : Value} : pz_R dA d 59 35 [v0, v1] [.int 1] f Q = Q (some (.int 1)) f := pz_gri d59_35 rfl rfl
/-! R_takeUpdate (LLeasePair$Message;I)Z -/
theorem e60 {dA : Nat → ClassId} {d : Nat} {f : pz_F} {Q : Option Value → pz_F → Prop} {a0 : Nat} {a1 : Nat} {a2 : Int32} : pz_C dA d 60 [.ref a0, .ref a1, .int a2] f Q = pz_R dA d 60 0 [.ref a0, .ref a1, .int a2, .retAddr 0] [] f Q := rfl
theorem d60_0 : decode (pz_b 60) 0 = .ok (.aload_n 1, 1) := by decide +kernel
theorem q60_0 {dA : Nat → ClassId} {d : Nat} {st : List Value} {f : pz_F} {Q : Option Value → pz_F → Prop} {v0 v2 v3 : Value} {x : Nat} : pz_R dA d 60 0 [v0, .ref x, v2, v3] st f Q = pz_R dA d 60 1 [v0, .ref x, v2, v3] (.ref x :: st) f Q := pz_go (pz_so d60_0 rfl)
theorem q60_0n {dA : Nat → ClassId} {d : Nat} {st : List Value} {f : pz_F} {Q : Option Value → pz_F → Prop} {v0 v2 v3 : Value} : pz_R dA d 60 0 [v0, .null, v2, v3] st f Q = pz_R dA d 60 1 [v0, .null, v2, v3] (.null :: st) f Q := pz_go (pz_so d60_0 rfl)
theorem d60_1 : decode (pz_b 60) 1 = .ok (.getfield 56, 3) := by decide +kernel
theorem q60_1 {dA : Nat → ClassId} {d : Nat} {st : List Value} {f : pz_F} {Q : Option Value → pz_F → Prop} {v0 v1 v2 v3 : Value} {a : Nat} : pz_R dA d 60 1 [v0, v1, v2, v3] (.ref a :: st) f Q = pz_o (pz_gf f a 5 9) (fun v => pz_R dA d 60 4 [v0, v1, v2, v3] (v :: st) f Q) := pz_gg d60_1 rfl
theorem d60_4 : decode (pz_b 60) 4 = .ok (.aload_n 0, 1) := by decide +kernel
theorem q60_4 {dA : Nat → ClassId} {d : Nat} {st : List Value} {f : pz_F} {Q : Option Value → pz_F → Prop} {v1 v2 v3 : Value} {x : Nat} : pz_R dA d 60 4 [.ref x, v1, v2, v3] st f Q = pz_R dA d 60 5 [.ref x, v1, v2, v3] (.ref x :: st) f Q := pz_go (pz_so d60_4 rfl)
theorem d60_5 : decode (pz_b 60) 5 = .ok (.getfield 38, 3) := by decide +kernel
theorem q60_5 {dA : Nat → ClassId} {d : Nat} {st : List Value} {f : pz_F} {Q : Option Value → pz_F → Prop} {v0 v1 v2 v3 : Value} {a : Nat} : pz_R dA d 60 5 [v0, v1, v2, v3] (.ref a :: st) f Q = pz_o (pz_gf f a 2 5) (fun v => pz_R dA d 60 8 [v0, v1, v2, v3] (v :: st) f Q) := pz_gg d60_5 rfl
theorem d60_8 : decode (pz_b 60) 8 = .ok (.if_icmp .ge 5, 3) := by decide +kernel
theorem q60_8 {dA : Nat → ClassId} {d : Nat} {st : List Value} {f : pz_F} {Q : Option Value → pz_F → Prop} {v0 v1 v2 v3 : Value} {x y : Int32} : pz_R dA d 60 8 [v0, v1, v2, v3] (.int y :: .int x :: st) f Q = (if y ≤ x then pz_R dA d 60 13 [v0, v1, v2, v3] st f Q else pz_R dA d 60 11 [v0, v1, v2, v3] st f Q) := pz_gjn .ge d60_8 rfl
theorem d60_11 : decode (pz_b 60) 11 = .ok (.iconst 0, 1) := by decide +kernel
theorem q60_11 {dA : Nat → ClassId} {d : Nat} {st : List Value} {f : pz_F} {Q : Option Value → pz_F → Prop} {v0 v1 v2 v3 : Value} : pz_R dA d 60 11 [v0, v1, v2, v3] st f Q = pz_R dA d 60 12 [v0, v1, v2, v3] (.int 0 :: st) f Q := pz_go (pz_so d60_11 rfl)
theorem d60_12 : decode (pz_b 60) 12 = .ok (.ireturn, 1) := by decide +kernel
theorem q60_12z {dA : Nat → ClassId} {d : Nat} {f : pz_F} {Q : Option Value → pz_F → Prop} {v0 v1 v2 v3 : Value} : pz_R dA d 60 12 [v0, v1, v2, v3] [.int 0] f Q = Q (some (.int 0)) f := pz_gri d60_12 rfl rfl
theorem q60_12o {dA : Nat → ClassId} {d : Nat} {f : pz_F} {Q : Option Value → pz_F → Prop} {v0 v1 v2 v3 : Value} : pz_R dA d 60 12 [v0, v1, v2, v3] [.int 1] f Q = Q (some (.int 1)) f := pz_gri d60_12 rfl rfl
theorem d60_13 : decode (pz_b 60) 13 = .ok (.aload_n 1, 1) := by decide +kernel
theorem q60_13 {dA : Nat → ClassId} {d : Nat} {st : List Value} {f : pz_F} {Q : Option Value → pz_F → Prop} {v0 v2 v3 : Value} {x : Nat} : pz_R dA d 60 13 [v0, .ref x, v2, v3] st f Q = pz_R dA d 60 14 [v0, .ref x, v2, v3] (.ref x :: st) f Q := pz_go (pz_so d60_13 rfl)
theorem q60_13n {dA : Nat → ClassId} {d : Nat} {st : List Value} {f : pz_F} {Q : Option Value → pz_F → Prop} {v0 v2 v3 : Value} : pz_R dA d 60 13 [v0, .null, v2, v3] st f Q = pz_R dA d 60 14 [v0, .null, v2, v3] (.null :: st) f Q := pz_go (pz_so d60_13 rfl)
theorem d60_14 : decode (pz_b 60) 14 = .ok (.getfield 71, 3) := by decide +kernel
theorem q60_14 {dA : Nat → ClassId} {d : Nat} {st : List Value} {f : pz_F} {Q : Option Value → pz_F → Prop} {v0 v1 v2 v3 : Value} {a : Nat} : pz_R dA d 60 14 [v0, v1, v2, v3] (.ref a :: st) f Q = pz_o (pz_gf f a 5 6) (fun v => pz_R dA d 60 17 [v0, v1, v2, v3] (v :: st) f Q) := pz_gg d60_14 rfl
theorem d60_17 : decode (pz_b 60) 17 = .ok (.iconst 1, 1) := by decide +kernel
theorem q60_17 {dA : Nat → ClassId} {d : Nat} {st : List Value} {f : pz_F} {Q : Option Value → pz_F → Prop} {v0 v1 v2 v3 : Value} : pz_R dA d 60 17 [v0, v1, v2, v3] st f Q = pz_R dA d 60 18 [v0, v1, v2, v3] (.int 1 :: st) f Q := pz_go (pz_so d60_17 rfl)
theorem d60_18 : decode (pz_b 60) 18 = .ok (.if_icmp .ne 26, 3) := by decide +kernel
theorem q60_18 {dA : Nat → ClassId} {d : Nat} {st : List Value} {f : pz_F} {Q : Option Value → pz_F → Prop} {v0 v1 v2 v3 : Value} {x y : Int32} : pz_R dA d 60 18 [v0, v1, v2, v3] (.int y :: .int x :: st) f Q = (if x = y then pz_R dA d 60 21 [v0, v1, v2, v3] st f Q else pz_R dA d 60 44 [v0, v1, v2, v3] st f Q) := pz_gjn .ne d60_18 rfl
theorem d60_21 : decode (pz_b 60) 21 = .ok (.aload_n 1, 1) := by decide +kernel
theorem q60_21 {dA : Nat → ClassId} {d : Nat} {st : List Value} {f : pz_F} {Q : Option Value → pz_F → Prop} {v0 v2 v3 : Value} {x : Nat} : pz_R dA d 60 21 [v0, .ref x, v2, v3] st f Q = pz_R dA d 60 22 [v0, .ref x, v2, v3] (.ref x :: st) f Q := pz_go (pz_so d60_21 rfl)
theorem q60_21n {dA : Nat → ClassId} {d : Nat} {st : List Value} {f : pz_F} {Q : Option Value → pz_F → Prop} {v0 v2 v3 : Value} : pz_R dA d 60 21 [v0, .null, v2, v3] st f Q = pz_R dA d 60 22 [v0, .null, v2, v3] (.null :: st) f Q := pz_go (pz_so d60_21 rfl)
theorem d60_22 : decode (pz_b 60) 22 = .ok (.getfield 60, 3) := by decide +kernel
theorem q60_22 {dA : Nat → ClassId} {d : Nat} {st : List Value} {f : pz_F} {Q : Option Value → pz_F → Prop} {v0 v1 v2 v3 : Value} {a : Nat} : pz_R dA d 60 22 [v0, v1, v2, v3] (.ref a :: st) f Q = pz_o (pz_gf f a 5 8) (fun v => pz_R dA d 60 25 [v0, v1, v2, v3] (v :: st) f Q) := pz_gg d60_22 rfl
theorem d60_25 : decode (pz_b 60) 25 = .ok (.iload_n 2, 1) := by decide +kernel
theorem q60_25 {dA : Nat → ClassId} {d : Nat} {st : List Value} {f : pz_F} {Q : Option Value → pz_F → Prop} {v0 v1 v3 : Value} {x : Int32} : pz_R dA d 60 25 [v0, v1, .int x, v3] st f Q = pz_R dA d 60 26 [v0, v1, .int x, v3] (.int x :: st) f Q := pz_go (pz_so d60_25 rfl)
theorem d60_26 : decode (pz_b 60) 26 = .ok (.if_icmp .lt 16, 3) := by decide +kernel
theorem q60_26 {dA : Nat → ClassId} {d : Nat} {st : List Value} {f : pz_F} {Q : Option Value → pz_F → Prop} {v0 v1 v2 v3 : Value} {x y : Int32} : pz_R dA d 60 26 [v0, v1, v2, v3] (.int y :: .int x :: st) f Q = (if x < y then pz_R dA d 60 42 [v0, v1, v2, v3] st f Q else pz_R dA d 60 29 [v0, v1, v2, v3] st f Q) := pz_gjn .lt d60_26 rfl
theorem d60_29 : decode (pz_b 60) 29 = .ok (.aload_n 0, 1) := by decide +kernel
theorem q60_29 {dA : Nat → ClassId} {d : Nat} {st : List Value} {f : pz_F} {Q : Option Value → pz_F → Prop} {v1 v2 v3 : Value} {x : Nat} : pz_R dA d 60 29 [.ref x, v1, v2, v3] st f Q = pz_R dA d 60 30 [.ref x, v1, v2, v3] (.ref x :: st) f Q := pz_go (pz_so d60_29 rfl)
theorem d60_30 : decode (pz_b 60) 30 = .ok (.aload_n 1, 1) := by decide +kernel
theorem q60_30 {dA : Nat → ClassId} {d : Nat} {st : List Value} {f : pz_F} {Q : Option Value → pz_F → Prop} {v0 v2 v3 : Value} {x : Nat} : pz_R dA d 60 30 [v0, .ref x, v2, v3] st f Q = pz_R dA d 60 31 [v0, .ref x, v2, v3] (.ref x :: st) f Q := pz_go (pz_so d60_30 rfl)
theorem q60_30n {dA : Nat → ClassId} {d : Nat} {st : List Value} {f : pz_F} {Q : Option Value → pz_F → Prop} {v0 v2 v3 : Value} : pz_R dA d 60 30 [v0, .null, v2, v3] st f Q = pz_R dA d 60 31 [v0, .null, v2, v3] (.null :: st) f Q := pz_go (pz_so d60_30 rfl)
theorem d60_31 : decode (pz_b 60) 31 = .ok (.iload_n 2, 1) := by decide +kernel
theorem q60_31 {dA : Nat → ClassId} {d : Nat} {st : List Value} {f : pz_F} {Q : Option Value → pz_F → Prop} {v0 v1 v3 : Value} {x : Int32} : pz_R dA d 60 31 [v0, v1, .int x, v3] st f Q = pz_R dA d 60 32 [v0, v1, .int x, v3] (.int x :: st) f Q := pz_go (pz_so d60_31 rfl)
theorem d60_32 : decode (pz_b 60) 32 = .ok (.invokevirtual 81, 3) := by decide +kernel
theorem q60_32 {dA : Nat → ClassId} {d : Nat} {st : List Value} {f : pz_F} {Q : Option Value → pz_F → Prop} {v0 v1 v2 v3 : Value} {c0 : Nat} {c1 : Int32} {b : Nat} (hr : st.length ≤ 4) : pz_R dA (d + 1) 60 32 [v0, v1, v2, v3] (.int c1 :: .ref c0 :: .ref b :: st) f Q = pz_o (pz_gu f b 2) (fun _ => pz_C dA d 61 [.ref b, .ref c0, .int c1] f (fun r f' => pz_R dA (d + 1) 60 35 [v0, v1, v2, v3] (r.toList ++ st) f' Q)) := pz_gcv (As := [.ref c0, .int c1]) d60_32 rfl rfl rfl hr
theorem d60_35 : decode (pz_b 60) 35 = .ok (.ifCond .eq 7, 3) := by decide +kernel
theorem q60_35 {dA : Nat → ClassId} {d : Nat} {st : List Value} {f : pz_F} {Q : Option Value → pz_F → Prop} {v0 v1 v2 v3 : Value} {x : Int32} : pz_R dA d 60 35 [v0, v1, v2, v3] (.int x :: st) f Q = (if x = 0 then pz_R dA d 60 42 [v0, v1, v2, v3] st f Q else pz_R dA d 60 38 [v0, v1, v2, v3] st f Q) := pz_gj1 .eq d60_35 rfl
theorem d60_38 : decode (pz_b 60) 38 = .ok (.iconst 1, 1) := by decide +kernel
theorem q60_38 {dA : Nat → ClassId} {d : Nat} {st : List Value} {f : pz_F} {Q : Option Value → pz_F → Prop} {v0 v1 v2 v3 : Value} : pz_R dA d 60 38 [v0, v1, v2, v3] st f Q = pz_R dA d 60 39 [v0, v1, v2, v3] (.int 1 :: st) f Q := pz_go (pz_so d60_38 rfl)
theorem d60_39 : decode (pz_b 60) 39 = .ok (.goto 4, 3) := by decide +kernel
theorem q60_39 {dA : Nat → ClassId} {d : Nat} {st : List Value} {f : pz_F} {Q : Option Value → pz_F → Prop} {v0 v1 v2 v3 : Value} : pz_R dA d 60 39 [v0, v1, v2, v3] st f Q = pz_R dA d 60 43 [v0, v1, v2, v3] st f Q := pz_go (pz_so d60_39 rfl)
theorem d60_42 : decode (pz_b 60) 42 = .ok (.iconst 0, 1) := by decide +kernel
theorem q60_42 {dA : Nat → ClassId} {d : Nat} {st : List Value} {f : pz_F} {Q : Option Value → pz_F → Prop} {v0 v1 v2 v3 : Value} : pz_R dA d 60 42 [v0, v1, v2, v3] st f Q = pz_R dA d 60 43 [v0, v1, v2, v3] (.int 0 :: st) f Q := pz_go (pz_so d60_42 rfl)
theorem d60_43 : decode (pz_b 60) 43 = .ok (.ireturn, 1) := by decide +kernel
theorem q60_43z {dA : Nat → ClassId} {d : Nat} {f : pz_F} {Q : Option Value → pz_F → Prop} {v0 v1 v2 v3 : Value} : pz_R dA d 60 43 [v0, v1, v2, v3] [.int 0] f Q = Q (some (.int 0)) f := pz_gri d60_43 rfl rfl
theorem q60_43o {dA : Nat → ClassId} {d : Nat} {f : pz_F} {Q : Option Value → pz_F → Prop} {v0 v1 v2 v3 : Value} : pz_R dA d 60 43 [v0, v1, v2, v3] [.int 1] f Q = Q (some (.int 1)) f := pz_gri d60_43 rfl rfl
theorem d60_44 : decode (pz_b 60) 44 = .ok (.aload_n 1, 1) := by decide +kernel
theorem q60_44 {dA : Nat → ClassId} {d : Nat} {st : List Value} {f : pz_F} {Q : Option Value → pz_F → Prop} {v0 v2 v3 : Value} {x : Nat} : pz_R dA d 60 44 [v0, .ref x, v2, v3] st f Q = pz_R dA d 60 45 [v0, .ref x, v2, v3] (.ref x :: st) f Q := pz_go (pz_so d60_44 rfl)
theorem q60_44n {dA : Nat → ClassId} {d : Nat} {st : List Value} {f : pz_F} {Q : Option Value → pz_F → Prop} {v0 v2 v3 : Value} : pz_R dA d 60 44 [v0, .null, v2, v3] st f Q = pz_R dA d 60 45 [v0, .null, v2, v3] (.null :: st) f Q := pz_go (pz_so d60_44 rfl)
theorem d60_45 : decode (pz_b 60) 45 = .ok (.getfield 71, 3) := by decide +kernel
theorem q60_45 {dA : Nat → ClassId} {d : Nat} {st : List Value} {f : pz_F} {Q : Option Value → pz_F → Prop} {v0 v1 v2 v3 : Value} {a : Nat} : pz_R dA d 60 45 [v0, v1, v2, v3] (.ref a :: st) f Q = pz_o (pz_gf f a 5 6) (fun v => pz_R dA d 60 48 [v0, v1, v2, v3] (v :: st) f Q) := pz_gg d60_45 rfl
theorem d60_48 : decode (pz_b 60) 48 = .ok (.iconst 2, 1) := by decide +kernel
theorem q60_48 {dA : Nat → ClassId} {d : Nat} {st : List Value} {f : pz_F} {Q : Option Value → pz_F → Prop} {v0 v1 v2 v3 : Value} : pz_R dA d 60 48 [v0, v1, v2, v3] st f Q = pz_R dA d 60 49 [v0, v1, v2, v3] (.int 2 :: st) f Q := pz_go (pz_so d60_48 rfl)
theorem d60_49 : decode (pz_b 60) 49 = .ok (.if_icmp .ne 19, 3) := by decide +kernel
theorem q60_49 {dA : Nat → ClassId} {d : Nat} {st : List Value} {f : pz_F} {Q : Option Value → pz_F → Prop} {v0 v1 v2 v3 : Value} {x y : Int32} : pz_R dA d 60 49 [v0, v1, v2, v3] (.int y :: .int x :: st) f Q = (if x = y then pz_R dA d 60 52 [v0, v1, v2, v3] st f Q else pz_R dA d 60 68 [v0, v1, v2, v3] st f Q) := pz_gjn .ne d60_49 rfl
theorem d60_52 : decode (pz_b 60) 52 = .ok (.aload_n 0, 1) := by decide +kernel
theorem q60_52 {dA : Nat → ClassId} {d : Nat} {st : List Value} {f : pz_F} {Q : Option Value → pz_F → Prop} {v1 v2 v3 : Value} {x : Nat} : pz_R dA d 60 52 [.ref x, v1, v2, v3] st f Q = pz_R dA d 60 53 [.ref x, v1, v2, v3] (.ref x :: st) f Q := pz_go (pz_so d60_52 rfl)
theorem d60_53 : decode (pz_b 60) 53 = .ok (.iload_n 2, 1) := by decide +kernel
theorem q60_53 {dA : Nat → ClassId} {d : Nat} {st : List Value} {f : pz_F} {Q : Option Value → pz_F → Prop} {v0 v1 v3 : Value} {x : Int32} : pz_R dA d 60 53 [v0, v1, .int x, v3] st f Q = pz_R dA d 60 54 [v0, v1, .int x, v3] (.int x :: st) f Q := pz_go (pz_so d60_53 rfl)
theorem d60_54 : decode (pz_b 60) 54 = .ok (.invokevirtual 64, 3) := by decide +kernel
theorem q60_54 {dA : Nat → ClassId} {d : Nat} {st : List Value} {f : pz_F} {Q : Option Value → pz_F → Prop} {v0 v1 v2 v3 : Value} {c0 : Int32} {b : Nat} (hr : st.length ≤ 4) : pz_R dA (d + 1) 60 54 [v0, v1, v2, v3] (.int c0 :: .ref b :: st) f Q = pz_o (pz_gu f b 2) (fun _ => pz_C dA d 49 [.ref b, .int c0] f (fun r f' => pz_R dA (d + 1) 60 57 [v0, v1, v2, v3] (r.toList ++ st) f' Q)) := pz_gcv (As := [.int c0]) d60_54 rfl rfl rfl hr
theorem d60_57 : decode (pz_b 60) 57 = .ok (.ifCond .ne 7, 3) := by decide +kernel
theorem q60_57 {dA : Nat → ClassId} {d : Nat} {st : List Value} {f : pz_F} {Q : Option Value → pz_F → Prop} {v0 v1 v2 v3 : Value} {x : Int32} : pz_R dA d 60 57 [v0, v1, v2, v3] (.int x :: st) f Q = (if x = 0 then pz_R dA d 60 60 [v0, v1, v2, v3] st f Q else pz_R dA d 60 64 [v0, v1, v2, v3] st f Q) := pz_gj1 .ne d60_57 rfl
theorem d60_60 : decode (pz_b 60) 60 = .ok (.iconst 1, 1) := by decide +kernel
theorem q60_60 {dA : Nat → ClassId} {d : Nat} {st : List Value} {f : pz_F} {Q : Option Value → pz_F → Prop} {v0 v1 v2 v3 : Value} : pz_R dA d 60 60 [v0, v1, v2, v3] st f Q = pz_R dA d 60 61 [v0, v1, v2, v3] (.int 1 :: st) f Q := pz_go (pz_so d60_60 rfl)
theorem d60_61 : decode (pz_b 60) 61 = .ok (.goto 19, 3) := by decide +kernel
theorem q60_61 {dA : Nat → ClassId} {d : Nat} {st : List Value} {f : pz_F} {Q : Option Value → pz_F → Prop} {v0 v1 v2 v3 : Value} : pz_R dA d 60 61 [v0, v1, v2, v3] st f Q = pz_R dA d 60 80 [v0, v1, v2, v3] st f Q := pz_go (pz_so d60_61 rfl)
theorem d60_64 : decode (pz_b 60) 64 = .ok (.iconst 0, 1) := by decide +kernel
theorem q60_64 {dA : Nat → ClassId} {d : Nat} {st : List Value} {f : pz_F} {Q : Option Value → pz_F → Prop} {v0 v1 v2 v3 : Value} : pz_R dA d 60 64 [v0, v1, v2, v3] st f Q = pz_R dA d 60 65 [v0, v1, v2, v3] (.int 0 :: st) f Q := pz_go (pz_so d60_64 rfl)
theorem d60_65 : decode (pz_b 60) 65 = .ok (.goto 15, 3) := by decide +kernel
theorem q60_65 {dA : Nat → ClassId} {d : Nat} {st : List Value} {f : pz_F} {Q : Option Value → pz_F → Prop} {v0 v1 v2 v3 : Value} : pz_R dA d 60 65 [v0, v1, v2, v3] st f Q = pz_R dA d 60 80 [v0, v1, v2, v3] st f Q := pz_go (pz_so d60_65 rfl)
theorem d60_68 : decode (pz_b 60) 68 = .ok (.aload_n 0, 1) := by decide +kernel
theorem q60_68 {dA : Nat → ClassId} {d : Nat} {st : List Value} {f : pz_F} {Q : Option Value → pz_F → Prop} {v1 v2 v3 : Value} {x : Nat} : pz_R dA d 60 68 [.ref x, v1, v2, v3] st f Q = pz_R dA d 60 69 [.ref x, v1, v2, v3] (.ref x :: st) f Q := pz_go (pz_so d60_68 rfl)
theorem d60_69 : decode (pz_b 60) 69 = .ok (.getfield 9, 3) := by decide +kernel
theorem q60_69 {dA : Nat → ClassId} {d : Nat} {st : List Value} {f : pz_F} {Q : Option Value → pz_F → Prop} {v0 v1 v2 v3 : Value} {a : Nat} : pz_R dA d 60 69 [v0, v1, v2, v3] (.ref a :: st) f Q = pz_o (pz_gf f a 2 0) (fun v => pz_R dA d 60 72 [v0, v1, v2, v3] (v :: st) f Q) := pz_gg d60_69 rfl
theorem d60_72 : decode (pz_b 60) 72 = .ok (.ifCond .ne 7, 3) := by decide +kernel
theorem q60_72 {dA : Nat → ClassId} {d : Nat} {st : List Value} {f : pz_F} {Q : Option Value → pz_F → Prop} {v0 v1 v2 v3 : Value} {x : Int32} : pz_R dA d 60 72 [v0, v1, v2, v3] (.int x :: st) f Q = (if x = 0 then pz_R dA d 60 75 [v0, v1, v2, v3] st f Q else pz_R dA d 60 79 [v0, v1, v2, v3] st f Q) := pz_gj1 .ne d60_72 rfl
theorem d60_75 : decode (pz_b 60) 75 = .ok (.iconst 1, 1) := by decide +kernel
theorem q60_75 {dA : Nat → ClassId} {d : Nat} {st : List Value} {f : pz_F} {Q : Option Value → pz_F → Prop} {v0 v1 v2 v3 : Value} : pz_R dA d 60 75 [v0, v1, v2, v3] st f Q = pz_R dA d 60 76 [v0, v1, v2, v3] (.int 1 :: st) f Q := pz_go (pz_so d60_75 rfl)
theorem d60_76 : decode (pz_b 60) 76 = .ok (.goto 4, 3) := by decide +kernel
theorem q60_76 {dA : Nat → ClassId} {d : Nat} {st : List Value} {f : pz_F} {Q : Option Value → pz_F → Prop} {v0 v1 v2 v3 : Value} : pz_R dA d 60 76 [v0, v1, v2, v3] st f Q = pz_R dA d 60 80 [v0, v1, v2, v3] st f Q := pz_go (pz_so d60_76 rfl)
theorem d60_79 : decode (pz_b 60) 79 = .ok (.iconst 0, 1) := by decide +kernel
theorem q60_79 {dA : Nat → ClassId} {d : Nat} {st : List Value} {f : pz_F} {Q : Option Value → pz_F → Prop} {v0 v1 v2 v3 : Value} : pz_R dA d 60 79 [v0, v1, v2, v3] st f Q = pz_R dA d 60 80 [v0, v1, v2, v3] (.int 0 :: st) f Q := pz_go (pz_so d60_79 rfl)
theorem d60_80 : decode (pz_b 60) 80 = .ok (.istore_n 3, 1) := by decide +kernel
theorem q60_80 {dA : Nat → ClassId} {d : Nat} {st : List Value} {f : pz_F} {Q : Option Value → pz_F → Prop} {v0 v1 v2 v3 : Value} {x : Int32} : pz_R dA d 60 80 [v0, v1, v2, v3] (.int x :: st) f Q = pz_R dA d 60 81 [v0, v1, v2, .int x] st f Q := pz_go (pz_so d60_80 rfl)
theorem d60_81 : decode (pz_b 60) 81 = .ok (.iload_n 3, 1) := by decide +kernel
theorem q60_81 {dA : Nat → ClassId} {d : Nat} {st : List Value} {f : pz_F} {Q : Option Value → pz_F → Prop} {v0 v1 v2 : Value} {x : Int32} : pz_R dA d 60 81 [v0, v1, v2, .int x] st f Q = pz_R dA d 60 82 [v0, v1, v2, .int x] (.int x :: st) f Q := pz_go (pz_so d60_81 rfl)
theorem d60_82 : decode (pz_b 60) 82 = .ok (.ifCond .eq 8, 3) := by decide +kernel
theorem q60_82 {dA : Nat → ClassId} {d : Nat} {st : List Value} {f : pz_F} {Q : Option Value → pz_F → Prop} {v0 v1 v2 v3 : Value} {x : Int32} : pz_R dA d 60 82 [v0, v1, v2, v3] (.int x :: st) f Q = (if x = 0 then pz_R dA d 60 90 [v0, v1, v2, v3] st f Q else pz_R dA d 60 85 [v0, v1, v2, v3] st f Q) := pz_gj1 .eq d60_82 rfl
theorem d60_85 : decode (pz_b 60) 85 = .ok (.aload_n 0, 1) := by decide +kernel
theorem q60_85 {dA : Nat → ClassId} {d : Nat} {st : List Value} {f : pz_F} {Q : Option Value → pz_F → Prop} {v1 v2 v3 : Value} {x : Nat} : pz_R dA d 60 85 [.ref x, v1, v2, v3] st f Q = pz_R dA d 60 86 [.ref x, v1, v2, v3] (.ref x :: st) f Q := pz_go (pz_so d60_85 rfl)
theorem d60_86 : decode (pz_b 60) 86 = .ok (.aload_n 1, 1) := by decide +kernel
theorem q60_86 {dA : Nat → ClassId} {d : Nat} {st : List Value} {f : pz_F} {Q : Option Value → pz_F → Prop} {v0 v2 v3 : Value} {x : Nat} : pz_R dA d 60 86 [v0, .ref x, v2, v3] st f Q = pz_R dA d 60 87 [v0, .ref x, v2, v3] (.ref x :: st) f Q := pz_go (pz_so d60_86 rfl)
theorem q60_86n {dA : Nat → ClassId} {d : Nat} {st : List Value} {f : pz_F} {Q : Option Value → pz_F → Prop} {v0 v2 v3 : Value} : pz_R dA d 60 86 [v0, .null, v2, v3] st f Q = pz_R dA d 60 87 [v0, .null, v2, v3] (.null :: st) f Q := pz_go (pz_so d60_86 rfl)
theorem d60_87 : decode (pz_b 60) 87 = .ok (.invokevirtual 74, 3) := by decide +kernel
theorem q60_87 {dA : Nat → ClassId} {d : Nat} {st : List Value} {f : pz_F} {Q : Option Value → pz_F → Prop} {v0 v1 v2 v3 : Value} {c0 : Nat} {b : Nat} (hr : st.length ≤ 4) : pz_R dA (d + 1) 60 87 [v0, v1, v2, v3] (.ref c0 :: .ref b :: st) f Q = pz_o (pz_gu f b 2) (fun _ => pz_C dA d 56 [.ref b, .ref c0] f (fun r f' => pz_R dA (d + 1) 60 90 [v0, v1, v2, v3] (r.toList ++ st) f' Q)) := pz_gcv (As := [.ref c0]) d60_87 rfl rfl rfl hr
theorem d60_90 : decode (pz_b 60) 90 = .ok (.iload_n 3, 1) := by decide +kernel
theorem q60_90 {dA : Nat → ClassId} {d : Nat} {st : List Value} {f : pz_F} {Q : Option Value → pz_F → Prop} {v0 v1 v2 : Value} {x : Int32} : pz_R dA d 60 90 [v0, v1, v2, .int x] st f Q = pz_R dA d 60 91 [v0, v1, v2, .int x] (.int x :: st) f Q := pz_go (pz_so d60_90 rfl)
theorem d60_91 : decode (pz_b 60) 91 = .ok (.ireturn, 1) := by decide +kernel
theorem q60_91z {dA : Nat → ClassId} {d : Nat} {f : pz_F} {Q : Option Value → pz_F → Prop} {v0 v1 v2 v3 : Value} : pz_R dA d 60 91 [v0, v1, v2, v3] [.int 0] f Q = Q (some (.int 0)) f := pz_gri d60_91 rfl rfl
theorem q60_91o {dA : Nat → ClassId} {d : Nat} {f : pz_F} {Q : Option Value → pz_F → Prop} {v0 v1 v2 v3 : Value} : pz_R dA d 60 91 [v0, v1, v2, v3] [.int 1] f Q = Q (some (.int 1)) f := pz_gri d60_91 rfl rfl
/-! R_takeLent (LLeasePair$Message;I)Z -/
theorem e61 {dA : Nat → ClassId} {d : Nat} {f : pz_F} {Q : Option Value → pz_F → Prop} {a0 : Nat} {a1 : Nat} {a2 : Int32} : pz_C dA d 61 [.ref a0, .ref a1, .int a2] f Q = pz_R dA d 61 0 [.ref a0, .ref a1, .int a2] [] f Q := rfl
theorem d61_0 : decode (pz_b 61) 0 = .ok (.aload_n 1, 1) := by decide +kernel
theorem q61_0 {dA : Nat → ClassId} {d : Nat} {st : List Value} {f : pz_F} {Q : Option Value → pz_F → Prop} {v0 v2 : Value} {x : Nat} : pz_R dA d 61 0 [v0, .ref x, v2] st f Q = pz_R dA d 61 1 [v0, .ref x, v2] (.ref x :: st) f Q := pz_go (pz_so d61_0 rfl)
theorem q61_0n {dA : Nat → ClassId} {d : Nat} {st : List Value} {f : pz_F} {Q : Option Value → pz_F → Prop} {v0 v2 : Value} : pz_R dA d 61 0 [v0, .null, v2] st f Q = pz_R dA d 61 1 [v0, .null, v2] (.null :: st) f Q := pz_go (pz_so d61_0 rfl)
theorem d61_1 : decode (pz_b 61) 1 = .ok (.getfield 56, 3) := by decide +kernel
theorem q61_1 {dA : Nat → ClassId} {d : Nat} {st : List Value} {f : pz_F} {Q : Option Value → pz_F → Prop} {v0 v1 v2 : Value} {a : Nat} : pz_R dA d 61 1 [v0, v1, v2] (.ref a :: st) f Q = pz_o (pz_gf f a 5 9) (fun v => pz_R dA d 61 4 [v0, v1, v2] (v :: st) f Q) := pz_gg d61_1 rfl
theorem d61_4 : decode (pz_b 61) 4 = .ok (.aload_n 0, 1) := by decide +kernel
theorem q61_4 {dA : Nat → ClassId} {d : Nat} {st : List Value} {f : pz_F} {Q : Option Value → pz_F → Prop} {v1 v2 : Value} {x : Nat} : pz_R dA d 61 4 [.ref x, v1, v2] st f Q = pz_R dA d 61 5 [.ref x, v1, v2] (.ref x :: st) f Q := pz_go (pz_so d61_4 rfl)
theorem d61_5 : decode (pz_b 61) 5 = .ok (.getfield 38, 3) := by decide +kernel
theorem q61_5 {dA : Nat → ClassId} {d : Nat} {st : List Value} {f : pz_F} {Q : Option Value → pz_F → Prop} {v0 v1 v2 : Value} {a : Nat} : pz_R dA d 61 5 [v0, v1, v2] (.ref a :: st) f Q = pz_o (pz_gf f a 2 5) (fun v => pz_R dA d 61 8 [v0, v1, v2] (v :: st) f Q) := pz_gg d61_5 rfl
theorem d61_8 : decode (pz_b 61) 8 = .ok (.if_icmp .le 20, 3) := by decide +kernel
theorem q61_8 {dA : Nat → ClassId} {d : Nat} {st : List Value} {f : pz_F} {Q : Option Value → pz_F → Prop} {v0 v1 v2 : Value} {x y : Int32} : pz_R dA d 61 8 [v0, v1, v2] (.int y :: .int x :: st) f Q = (if x ≤ y then pz_R dA d 61 28 [v0, v1, v2] st f Q else pz_R dA d 61 11 [v0, v1, v2] st f Q) := pz_gjn .le d61_8 rfl
theorem d61_11 : decode (pz_b 61) 11 = .ok (.aload_n 0, 1) := by decide +kernel
theorem q61_11 {dA : Nat → ClassId} {d : Nat} {st : List Value} {f : pz_F} {Q : Option Value → pz_F → Prop} {v1 v2 : Value} {x : Nat} : pz_R dA d 61 11 [.ref x, v1, v2] st f Q = pz_R dA d 61 12 [.ref x, v1, v2] (.ref x :: st) f Q := pz_go (pz_so d61_11 rfl)
theorem d61_12 : decode (pz_b 61) 12 = .ok (.iload_n 2, 1) := by decide +kernel
theorem q61_12 {dA : Nat → ClassId} {d : Nat} {st : List Value} {f : pz_F} {Q : Option Value → pz_F → Prop} {v0 v1 : Value} {x : Int32} : pz_R dA d 61 12 [v0, v1, .int x] st f Q = pz_R dA d 61 13 [v0, v1, .int x] (.int x :: st) f Q := pz_go (pz_so d61_12 rfl)
theorem d61_13 : decode (pz_b 61) 13 = .ok (.invokevirtual 64, 3) := by decide +kernel
theorem q61_13 {dA : Nat → ClassId} {d : Nat} {st : List Value} {f : pz_F} {Q : Option Value → pz_F → Prop} {v0 v1 v2 : Value} {c0 : Int32} {b : Nat} (hr : st.length ≤ 4) : pz_R dA (d + 1) 61 13 [v0, v1, v2] (.int c0 :: .ref b :: st) f Q = pz_o (pz_gu f b 2) (fun _ => pz_C dA d 49 [.ref b, .int c0] f (fun r f' => pz_R dA (d + 1) 61 16 [v0, v1, v2] (r.toList ++ st) f' Q)) := pz_gcv (As := [.int c0]) d61_13 rfl rfl rfl hr
theorem d61_16 : decode (pz_b 61) 16 = .ok (.ifCond .eq 5, 3) := by decide +kernel
theorem q61_16 {dA : Nat → ClassId} {d : Nat} {st : List Value} {f : pz_F} {Q : Option Value → pz_F → Prop} {v0 v1 v2 : Value} {x : Int32} : pz_R dA d 61 16 [v0, v1, v2] (.int x :: st) f Q = (if x = 0 then pz_R dA d 61 21 [v0, v1, v2] st f Q else pz_R dA d 61 19 [v0, v1, v2] st f Q) := pz_gj1 .eq d61_16 rfl
theorem d61_19 : decode (pz_b 61) 19 = .ok (.iconst 0, 1) := by decide +kernel
theorem q61_19 {dA : Nat → ClassId} {d : Nat} {st : List Value} {f : pz_F} {Q : Option Value → pz_F → Prop} {v0 v1 v2 : Value} : pz_R dA d 61 19 [v0, v1, v2] st f Q = pz_R dA d 61 20 [v0, v1, v2] (.int 0 :: st) f Q := pz_go (pz_so d61_19 rfl)
theorem d61_20 : decode (pz_b 61) 20 = .ok (.ireturn, 1) := by decide +kernel
theorem q61_20z {dA : Nat → ClassId} {d : Nat} {f : pz_F} {Q : Option Value → pz_F → Prop} {v0 v1 v2 : Value} : pz_R dA d 61 20 [v0, v1, v2] [.int 0] f Q = Q (some (.int 0)) f := pz_gri d61_20 rfl rfl
theorem q61_20o {dA : Nat → ClassId} {d : Nat} {f : pz_F} {Q : Option Value → pz_F → Prop} {v0 v1 v2 : Value} : pz_R dA d 61 20 [v0, v1, v2] [.int 1] f Q = Q (some (.int 1)) f := pz_gri d61_20 rfl rfl
theorem d61_21 : decode (pz_b 61) 21 = .ok (.aload_n 0, 1) := by decide +kernel
theorem q61_21 {dA : Nat → ClassId} {d : Nat} {st : List Value} {f : pz_F} {Q : Option Value → pz_F → Prop} {v1 v2 : Value} {x : Nat} : pz_R dA d 61 21 [.ref x, v1, v2] st f Q = pz_R dA d 61 22 [.ref x, v1, v2] (.ref x :: st) f Q := pz_go (pz_so d61_21 rfl)
theorem d61_22 : decode (pz_b 61) 22 = .ok (.aload_n 1, 1) := by decide +kernel
theorem q61_22 {dA : Nat → ClassId} {d : Nat} {st : List Value} {f : pz_F} {Q : Option Value → pz_F → Prop} {v0 v2 : Value} {x : Nat} : pz_R dA d 61 22 [v0, .ref x, v2] st f Q = pz_R dA d 61 23 [v0, .ref x, v2] (.ref x :: st) f Q := pz_go (pz_so d61_22 rfl)
theorem q61_22n {dA : Nat → ClassId} {d : Nat} {st : List Value} {f : pz_F} {Q : Option Value → pz_F → Prop} {v0 v2 : Value} : pz_R dA d 61 22 [v0, .null, v2] st f Q = pz_R dA d 61 23 [v0, .null, v2] (.null :: st) f Q := pz_go (pz_so d61_22 rfl)
theorem d61_23 : decode (pz_b 61) 23 = .ok (.invokevirtual 78, 3) := by decide +kernel
theorem q61_23 {dA : Nat → ClassId} {d : Nat} {st : List Value} {f : pz_F} {Q : Option Value → pz_F → Prop} {v0 v1 v2 : Value} {c0 : Nat} {b : Nat} (hr : st.length ≤ 4) : pz_R dA (d + 1) 61 23 [v0, v1, v2] (.ref c0 :: .ref b :: st) f Q = pz_o (pz_gu f b 2) (fun _ => pz_C dA d 57 [.ref b, .ref c0] f (fun r f' => pz_R dA (d + 1) 61 26 [v0, v1, v2] (r.toList ++ st) f' Q)) := pz_gcv (As := [.ref c0]) d61_23 rfl rfl rfl hr
theorem d61_26 : decode (pz_b 61) 26 = .ok (.iconst 1, 1) := by decide +kernel
theorem q61_26 {dA : Nat → ClassId} {d : Nat} {st : List Value} {f : pz_F} {Q : Option Value → pz_F → Prop} {v0 v1 v2 : Value} : pz_R dA d 61 26 [v0, v1, v2] st f Q = pz_R dA d 61 27 [v0, v1, v2] (.int 1 :: st) f Q := pz_go (pz_so d61_26 rfl)
theorem d61_27 : decode (pz_b 61) 27 = .ok (.ireturn, 1) := by decide +kernel
theorem q61_27z {dA : Nat → ClassId} {d : Nat} {f : pz_F} {Q : Option Value → pz_F → Prop} {v0 v1 v2 : Value} : pz_R dA d 61 27 [v0, v1, v2] [.int 0] f Q = Q (some (.int 0)) f := pz_gri d61_27 rfl rfl
theorem q61_27o {dA : Nat → ClassId} {d : Nat} {f : pz_F} {Q : Option Value → pz_F → Prop} {v0 v1 v2 : Value} : pz_R dA d 61 27 [v0, v1, v2] [.int 1] f Q = Q (some (.int 1)) f := pz_gri d61_27 rfl rfl
theorem d61_28 : decode (pz_b 61) 28 = .ok (.aload_n 0, 1) := by decide +kernel
theorem q61_28 {dA : Nat → ClassId} {d : Nat} {st : List Value} {f : pz_F} {Q : Option Value → pz_F → Prop} {v1 v2 : Value} {x : Nat} : pz_R dA d 61 28 [.ref x, v1, v2] st f Q = pz_R dA d 61 29 [.ref x, v1, v2] (.ref x :: st) f Q := pz_go (pz_so d61_28 rfl)
theorem d61_29 : decode (pz_b 61) 29 = .ok (.getfield 9, 3) := by decide +kernel
theorem q61_29 {dA : Nat → ClassId} {d : Nat} {st : List Value} {f : pz_F} {Q : Option Value → pz_F → Prop} {v0 v1 v2 : Value} {a : Nat} : pz_R dA d 61 29 [v0, v1, v2] (.ref a :: st) f Q = pz_o (pz_gf f a 2 0) (fun v => pz_R dA d 61 32 [v0, v1, v2] (v :: st) f Q) := pz_gg d61_29 rfl
theorem d61_32 : decode (pz_b 61) 32 = .ok (.iconst 1, 1) := by decide +kernel
theorem q61_32 {dA : Nat → ClassId} {d : Nat} {st : List Value} {f : pz_F} {Q : Option Value → pz_F → Prop} {v0 v1 v2 : Value} : pz_R dA d 61 32 [v0, v1, v2] st f Q = pz_R dA d 61 33 [v0, v1, v2] (.int 1 :: st) f Q := pz_go (pz_so d61_32 rfl)
theorem d61_33 : decode (pz_b 61) 33 = .ok (.if_icmp .eq 5, 3) := by decide +kernel
theorem q61_33 {dA : Nat → ClassId} {d : Nat} {st : List Value} {f : pz_F} {Q : Option Value → pz_F → Prop} {v0 v1 v2 : Value} {x y : Int32} : pz_R dA d 61 33 [v0, v1, v2] (.int y :: .int x :: st) f Q = (if x = y then pz_R dA d 61 38 [v0, v1, v2] st f Q else pz_R dA d 61 36 [v0, v1, v2] st f Q) := pz_gjn .eq d61_33 rfl
theorem d61_36 : decode (pz_b 61) 36 = .ok (.iconst 0, 1) := by decide +kernel
theorem q61_36 {dA : Nat → ClassId} {d : Nat} {st : List Value} {f : pz_F} {Q : Option Value → pz_F → Prop} {v0 v1 v2 : Value} : pz_R dA d 61 36 [v0, v1, v2] st f Q = pz_R dA d 61 37 [v0, v1, v2] (.int 0 :: st) f Q := pz_go (pz_so d61_36 rfl)
theorem d61_37 : decode (pz_b 61) 37 = .ok (.ireturn, 1) := by decide +kernel
theorem q61_37z {dA : Nat → ClassId} {d : Nat} {f : pz_F} {Q : Option Value → pz_F → Prop} {v0 v1 v2 : Value} : pz_R dA d 61 37 [v0, v1, v2] [.int 0] f Q = Q (some (.int 0)) f := pz_gri d61_37 rfl rfl
theorem q61_37o {dA : Nat → ClassId} {d : Nat} {f : pz_F} {Q : Option Value → pz_F → Prop} {v0 v1 v2 : Value} : pz_R dA d 61 37 [v0, v1, v2] [.int 1] f Q = Q (some (.int 1)) f := pz_gri d61_37 rfl rfl
theorem d61_38 : decode (pz_b 61) 38 = .ok (.aload_n 0, 1) := by decide +kernel
theorem q61_38 {dA : Nat → ClassId} {d : Nat} {st : List Value} {f : pz_F} {Q : Option Value → pz_F → Prop} {v1 v2 : Value} {x : Nat} : pz_R dA d 61 38 [.ref x, v1, v2] st f Q = pz_R dA d 61 39 [.ref x, v1, v2] (.ref x :: st) f Q := pz_go (pz_so d61_38 rfl)
theorem d61_39 : decode (pz_b 61) 39 = .ok (.aload_n 0, 1) := by decide +kernel
theorem q61_39 {dA : Nat → ClassId} {d : Nat} {st : List Value} {f : pz_F} {Q : Option Value → pz_F → Prop} {v1 v2 : Value} {x : Nat} : pz_R dA d 61 39 [.ref x, v1, v2] st f Q = pz_R dA d 61 40 [.ref x, v1, v2] (.ref x :: st) f Q := pz_go (pz_so d61_39 rfl)
theorem d61_40 : decode (pz_b 61) 40 = .ok (.getfield 18, 3) := by decide +kernel
theorem q61_40 {dA : Nat → ClassId} {d : Nat} {st : List Value} {f : pz_F} {Q : Option Value → pz_F → Prop} {v0 v1 v2 : Value} {a : Nat} : pz_R dA d 61 40 [v0, v1, v2] (.ref a :: st) f Q = pz_o (pz_gf f a 2 2) (fun v => pz_R dA d 61 43 [v0, v1, v2] (v :: st) f Q) := pz_gg d61_40 rfl
theorem d61_43 : decode (pz_b 61) 43 = .ok (.aload_n 1, 1) := by decide +kernel
theorem q61_43 {dA : Nat → ClassId} {d : Nat} {st : List Value} {f : pz_F} {Q : Option Value → pz_F → Prop} {v0 v2 : Value} {x : Nat} : pz_R dA d 61 43 [v0, .ref x, v2] st f Q = pz_R dA d 61 44 [v0, .ref x, v2] (.ref x :: st) f Q := pz_go (pz_so d61_43 rfl)
theorem q61_43n {dA : Nat → ClassId} {d : Nat} {st : List Value} {f : pz_F} {Q : Option Value → pz_F → Prop} {v0 v2 : Value} : pz_R dA d 61 43 [v0, .null, v2] st f Q = pz_R dA d 61 44 [v0, .null, v2] (.null :: st) f Q := pz_go (pz_so d61_43 rfl)
theorem d61_44 : decode (pz_b 61) 44 = .ok (.getfield 60, 3) := by decide +kernel
theorem q61_44 {dA : Nat → ClassId} {d : Nat} {st : List Value} {f : pz_F} {Q : Option Value → pz_F → Prop} {v0 v1 v2 : Value} {a : Nat} : pz_R dA d 61 44 [v0, v1, v2] (.ref a :: st) f Q = pz_o (pz_gf f a 5 8) (fun v => pz_R dA d 61 47 [v0, v1, v2] (v :: st) f Q) := pz_gg d61_44 rfl
theorem d61_47 : decode (pz_b 61) 47 = .ok (.invokestatic 44, 3) := by decide +kernel
theorem q61_47 {dA : Nat → ClassId} {d : Nat} {st : List Value} {f : pz_F} {Q : Option Value → pz_F → Prop} {v0 v1 v2 : Value} {x y : Int32} (hr : st.length ≤ 4) : pz_R dA d 61 47 [v0, v1, v2] (.int y :: .int x :: st) f Q = pz_R dA d 61 50 [v0, v1, v2] (.int (mx x y) :: st) f Q := pz_gmx d61_47 rfl rfl hr
theorem d61_50 : decode (pz_b 61) 50 = .ok (.putfield 18, 3) := by decide +kernel
theorem q61_50 {dA : Nat → ClassId} {d : Nat} {st : List Value} {f : pz_F} {Q : Option Value → pz_F → Prop} {v0 v1 v2 : Value} {x : Int32} {a : Nat} : pz_R dA d 61 50 [v0, v1, v2] (.int x :: .ref a :: st) f Q = pz_o (pz_pf f a 2 2 (.int x)) (fun f' => pz_R dA d 61 53 [v0, v1, v2] st f' Q) := pz_gp d61_50 rfl rfl rfl rfl
theorem d61_53 : decode (pz_b 61) 53 = .ok (.aload_n 0, 1) := by decide +kernel
theorem q61_53 {dA : Nat → ClassId} {d : Nat} {st : List Value} {f : pz_F} {Q : Option Value → pz_F → Prop} {v1 v2 : Value} {x : Nat} : pz_R dA d 61 53 [.ref x, v1, v2] st f Q = pz_R dA d 61 54 [.ref x, v1, v2] (.ref x :: st) f Q := pz_go (pz_so d61_53 rfl)
theorem d61_54 : decode (pz_b 61) 54 = .ok (.aload_n 0, 1) := by decide +kernel
theorem q61_54 {dA : Nat → ClassId} {d : Nat} {st : List Value} {f : pz_F} {Q : Option Value → pz_F → Prop} {v1 v2 : Value} {x : Nat} : pz_R dA d 61 54 [.ref x, v1, v2] st f Q = pz_R dA d 61 55 [.ref x, v1, v2] (.ref x :: st) f Q := pz_go (pz_so d61_54 rfl)
theorem d61_55 : decode (pz_b 61) 55 = .ok (.getfield 21, 3) := by decide +kernel
theorem q61_55 {dA : Nat → ClassId} {d : Nat} {st : List Value} {f : pz_F} {Q : Option Value → pz_F → Prop} {v0 v1 v2 : Value} {a : Nat} : pz_R dA d 61 55 [v0, v1, v2] (.ref a :: st) f Q = pz_o (pz_gf f a 2 4) (fun v => pz_R dA d 61 58 [v0, v1, v2] (v :: st) f Q) := pz_gg d61_55 rfl
theorem d61_58 : decode (pz_b 61) 58 = .ok (.aload_n 1, 1) := by decide +kernel
theorem q61_58 {dA : Nat → ClassId} {d : Nat} {st : List Value} {f : pz_F} {Q : Option Value → pz_F → Prop} {v0 v2 : Value} {x : Nat} : pz_R dA d 61 58 [v0, .ref x, v2] st f Q = pz_R dA d 61 59 [v0, .ref x, v2] (.ref x :: st) f Q := pz_go (pz_so d61_58 rfl)
theorem q61_58n {dA : Nat → ClassId} {d : Nat} {st : List Value} {f : pz_F} {Q : Option Value → pz_F → Prop} {v0 v2 : Value} : pz_R dA d 61 58 [v0, .null, v2] st f Q = pz_R dA d 61 59 [v0, .null, v2] (.null :: st) f Q := pz_go (pz_so d61_58 rfl)
theorem d61_59 : decode (pz_b 61) 59 = .ok (.getfield 61, 3) := by decide +kernel
theorem q61_59 {dA : Nat → ClassId} {d : Nat} {st : List Value} {f : pz_F} {Q : Option Value → pz_F → Prop} {v0 v1 v2 : Value} {a : Nat} : pz_R dA d 61 59 [v0, v1, v2] (.ref a :: st) f Q = pz_o (pz_gf f a 5 11) (fun v => pz_R dA d 61 62 [v0, v1, v2] (v :: st) f Q) := pz_gg d61_59 rfl
theorem d61_62 : decode (pz_b 61) 62 = .ok (.invokestatic 44, 3) := by decide +kernel
theorem q61_62 {dA : Nat → ClassId} {d : Nat} {st : List Value} {f : pz_F} {Q : Option Value → pz_F → Prop} {v0 v1 v2 : Value} {x y : Int32} (hr : st.length ≤ 4) : pz_R dA d 61 62 [v0, v1, v2] (.int y :: .int x :: st) f Q = pz_R dA d 61 65 [v0, v1, v2] (.int (mx x y) :: st) f Q := pz_gmx d61_62 rfl rfl hr
theorem d61_65 : decode (pz_b 61) 65 = .ok (.putfield 21, 3) := by decide +kernel
theorem q61_65 {dA : Nat → ClassId} {d : Nat} {st : List Value} {f : pz_F} {Q : Option Value → pz_F → Prop} {v0 v1 v2 : Value} {x : Int32} {a : Nat} : pz_R dA d 61 65 [v0, v1, v2] (.int x :: .ref a :: st) f Q = pz_o (pz_pf f a 2 4 (.int x)) (fun f' => pz_R dA d 61 68 [v0, v1, v2] st f' Q) := pz_gp d61_65 rfl rfl rfl rfl
theorem d61_68 : decode (pz_b 61) 68 = .ok (.iconst 1, 1) := by decide +kernel
theorem q61_68 {dA : Nat → ClassId} {d : Nat} {st : List Value} {f : pz_F} {Q : Option Value → pz_F → Prop} {v0 v1 v2 : Value} : pz_R dA d 61 68 [v0, v1, v2] st f Q = pz_R dA d 61 69 [v0, v1, v2] (.int 1 :: st) f Q := pz_go (pz_so d61_68 rfl)
theorem d61_69 : decode (pz_b 61) 69 = .ok (.ireturn, 1) := by decide +kernel
theorem q61_69z {dA : Nat → ClassId} {d : Nat} {f : pz_F} {Q : Option Value → pz_F → Prop} {v0 v1 v2 : Value} : pz_R dA d 61 69 [v0, v1, v2] [.int 0] f Q = Q (some (.int 0)) f := pz_gri d61_69 rfl rfl
theorem q61_69o {dA : Nat → ClassId} {d : Nat} {f : pz_F} {Q : Option Value → pz_F → Prop} {v0 v1 v2 : Value} : pz_R dA d 61 69 [v0, v1, v2] [.int 1] f Q = Q (some (.int 1)) f := pz_gri d61_69 rfl rfl
/-! R_takeAcknowledgement (LLeasePair$Message;)V -/
theorem e62 {dA : Nat → ClassId} {d : Nat} {f : pz_F} {Q : Option Value → pz_F → Prop} {a0 : Nat} {a1 : Nat} : pz_C dA d 62 [.ref a0, .ref a1] f Q = pz_R dA d 62 0 [.ref a0, .ref a1] [] f Q := rfl
theorem d62_0 : decode (pz_b 62) 0 = .ok (.aload_n 0, 1) := by decide +kernel
theorem q62_0 {dA : Nat → ClassId} {d : Nat} {st : List Value} {f : pz_F} {Q : Option Value → pz_F → Prop} {v1 : Value} {x : Nat} : pz_R dA d 62 0 [.ref x, v1] st f Q = pz_R dA d 62 1 [.ref x, v1] (.ref x :: st) f Q := pz_go (pz_so d62_0 rfl)
theorem d62_1 : decode (pz_b 62) 1 = .ok (.getfield 27, 3) := by decide +kernel
theorem q62_1 {dA : Nat → ClassId} {d : Nat} {st : List Value} {f : pz_F} {Q : Option Value → pz_F → Prop} {v0 v1 : Value} {a : Nat} : pz_R dA d 62 1 [v0, v1] (.ref a :: st) f Q = pz_o (pz_gf f a 2 7) (fun v => pz_R dA d 62 4 [v0, v1] (v :: st) f Q) := pz_gg d62_1 rfl
theorem d62_4 : decode (pz_b 62) 4 = .ok (.ifCond .eq 25, 3) := by decide +kernel
theorem q62_4 {dA : Nat → ClassId} {d : Nat} {st : List Value} {f : pz_F} {Q : Option Value → pz_F → Prop} {v0 v1 : Value} {x : Int32} : pz_R dA d 62 4 [v0, v1] (.int x :: st) f Q = (if x = 0 then pz_R dA d 62 29 [v0, v1] st f Q else pz_R dA d 62 7 [v0, v1] st f Q) := pz_gj1 .eq d62_4 rfl
theorem d62_7 : decode (pz_b 62) 7 = .ok (.aload_n 1, 1) := by decide +kernel
theorem q62_7 {dA : Nat → ClassId} {d : Nat} {st : List Value} {f : pz_F} {Q : Option Value → pz_F → Prop} {v0 : Value} {x : Nat} : pz_R dA d 62 7 [v0, .ref x] st f Q = pz_R dA d 62 8 [v0, .ref x] (.ref x :: st) f Q := pz_go (pz_so d62_7 rfl)
theorem q62_7n {dA : Nat → ClassId} {d : Nat} {st : List Value} {f : pz_F} {Q : Option Value → pz_F → Prop} {v0 : Value} : pz_R dA d 62 7 [v0, .null] st f Q = pz_R dA d 62 8 [v0, .null] (.null :: st) f Q := pz_go (pz_so d62_7 rfl)
theorem d62_8 : decode (pz_b 62) 8 = .ok (.getfield 56, 3) := by decide +kernel
theorem q62_8 {dA : Nat → ClassId} {d : Nat} {st : List Value} {f : pz_F} {Q : Option Value → pz_F → Prop} {v0 v1 : Value} {a : Nat} : pz_R dA d 62 8 [v0, v1] (.ref a :: st) f Q = pz_o (pz_gf f a 5 9) (fun v => pz_R dA d 62 11 [v0, v1] (v :: st) f Q) := pz_gg d62_8 rfl
theorem d62_11 : decode (pz_b 62) 11 = .ok (.aload_n 0, 1) := by decide +kernel
theorem q62_11 {dA : Nat → ClassId} {d : Nat} {st : List Value} {f : pz_F} {Q : Option Value → pz_F → Prop} {v1 : Value} {x : Nat} : pz_R dA d 62 11 [.ref x, v1] st f Q = pz_R dA d 62 12 [.ref x, v1] (.ref x :: st) f Q := pz_go (pz_so d62_11 rfl)
theorem d62_12 : decode (pz_b 62) 12 = .ok (.getfield 38, 3) := by decide +kernel
theorem q62_12 {dA : Nat → ClassId} {d : Nat} {st : List Value} {f : pz_F} {Q : Option Value → pz_F → Prop} {v0 v1 : Value} {a : Nat} : pz_R dA d 62 12 [v0, v1] (.ref a :: st) f Q = pz_o (pz_gf f a 2 5) (fun v => pz_R dA d 62 15 [v0, v1] (v :: st) f Q) := pz_gg d62_12 rfl
theorem d62_15 : decode (pz_b 62) 15 = .ok (.if_icmp .ne 14, 3) := by decide +kernel
theorem q62_15 {dA : Nat → ClassId} {d : Nat} {st : List Value} {f : pz_F} {Q : Option Value → pz_F → Prop} {v0 v1 : Value} {x y : Int32} : pz_R dA d 62 15 [v0, v1] (.int y :: .int x :: st) f Q = (if x = y then pz_R dA d 62 18 [v0, v1] st f Q else pz_R dA d 62 29 [v0, v1] st f Q) := pz_gjn .ne d62_15 rfl
theorem d62_18 : decode (pz_b 62) 18 = .ok (.aload_n 1, 1) := by decide +kernel
theorem q62_18 {dA : Nat → ClassId} {d : Nat} {st : List Value} {f : pz_F} {Q : Option Value → pz_F → Prop} {v0 : Value} {x : Nat} : pz_R dA d 62 18 [v0, .ref x] st f Q = pz_R dA d 62 19 [v0, .ref x] (.ref x :: st) f Q := pz_go (pz_so d62_18 rfl)
theorem q62_18n {dA : Nat → ClassId} {d : Nat} {st : List Value} {f : pz_F} {Q : Option Value → pz_F → Prop} {v0 : Value} : pz_R dA d 62 18 [v0, .null] st f Q = pz_R dA d 62 19 [v0, .null] (.null :: st) f Q := pz_go (pz_so d62_18 rfl)
theorem d62_19 : decode (pz_b 62) 19 = .ok (.getfield 85, 3) := by decide +kernel
theorem q62_19 {dA : Nat → ClassId} {d : Nat} {st : List Value} {f : pz_F} {Q : Option Value → pz_F → Prop} {v0 v1 : Value} {a : Nat} : pz_R dA d 62 19 [v0, v1] (.ref a :: st) f Q = pz_o (pz_gf f a 5 10) (fun v => pz_R dA d 62 22 [v0, v1] (v :: st) f Q) := pz_gg d62_19 rfl
theorem d62_22 : decode (pz_b 62) 22 = .ok (.aload_n 0, 1) := by decide +kernel
theorem q62_22 {dA : Nat → ClassId} {d : Nat} {st : List Value} {f : pz_F} {Q : Option Value → pz_F → Prop} {v1 : Value} {x : Nat} : pz_R dA d 62 22 [.ref x, v1] st f Q = pz_R dA d 62 23 [.ref x, v1] (.ref x :: st) f Q := pz_go (pz_so d62_22 rfl)
theorem d62_23 : decode (pz_b 62) 23 = .ok (.getfield 24, 3) := by decide +kernel
theorem q62_23 {dA : Nat → ClassId} {d : Nat} {st : List Value} {f : pz_F} {Q : Option Value → pz_F → Prop} {v0 v1 : Value} {a : Nat} : pz_R dA d 62 23 [v0, v1] (.ref a :: st) f Q = pz_o (pz_gf f a 2 6) (fun v => pz_R dA d 62 26 [v0, v1] (v :: st) f Q) := pz_gg d62_23 rfl
theorem d62_26 : decode (pz_b 62) 26 = .ok (.if_icmp .eq 4, 3) := by decide +kernel
theorem q62_26 {dA : Nat → ClassId} {d : Nat} {st : List Value} {f : pz_F} {Q : Option Value → pz_F → Prop} {v0 v1 : Value} {x y : Int32} : pz_R dA d 62 26 [v0, v1] (.int y :: .int x :: st) f Q = (if x = y then pz_R dA d 62 30 [v0, v1] st f Q else pz_R dA d 62 29 [v0, v1] st f Q) := pz_gjn .eq d62_26 rfl
theorem d62_29 : decode (pz_b 62) 29 = .ok (.return_, 1) := by decide +kernel
theorem q62_29 {dA : Nat → ClassId} {d : Nat} {f : pz_F} {Q : Option Value → pz_F → Prop} {v0 v1 : Value} : pz_R dA d 62 29 [v0, v1] [] f Q = Q none f := pz_gr (pz_so d62_29 rfl)
theorem d62_30 : decode (pz_b 62) 30 = .ok (.aload_n 0, 1) := by decide +kernel
theorem q62_30 {dA : Nat → ClassId} {d : Nat} {st : List Value} {f : pz_F} {Q : Option Value → pz_F → Prop} {v1 : Value} {x : Nat} : pz_R dA d 62 30 [.ref x, v1] st f Q = pz_R dA d 62 31 [.ref x, v1] (.ref x :: st) f Q := pz_go (pz_so d62_30 rfl)
theorem d62_31 : decode (pz_b 62) 31 = .ok (.iconst 0, 1) := by decide +kernel
theorem q62_31 {dA : Nat → ClassId} {d : Nat} {st : List Value} {f : pz_F} {Q : Option Value → pz_F → Prop} {v0 v1 : Value} : pz_R dA d 62 31 [v0, v1] st f Q = pz_R dA d 62 32 [v0, v1] (.int 0 :: st) f Q := pz_go (pz_so d62_31 rfl)
theorem d62_32 : decode (pz_b 62) 32 = .ok (.putfield 27, 3) := by decide +kernel
theorem q62_32z {dA : Nat → ClassId} {d : Nat} {st : List Value} {f : pz_F} {Q : Option Value → pz_F → Prop} {v0 v1 : Value} {a : Nat} : pz_R dA d 62 32 [v0, v1] (.int 0 :: .ref a :: st) f Q = pz_o (pz_pf f a 2 7 (.int 0)) (fun f' => pz_R dA d 62 35 [v0, v1] st f' Q) := pz_gp d62_32 rfl rfl rfl rfl
theorem q62_32o {dA : Nat → ClassId} {d : Nat} {st : List Value} {f : pz_F} {Q : Option Value → pz_F → Prop} {v0 v1 : Value} {a : Nat} : pz_R dA d 62 32 [v0, v1] (.int 1 :: .ref a :: st) f Q = pz_o (pz_pf f a 2 7 (.int 1)) (fun f' => pz_R dA d 62 35 [v0, v1] st f' Q) := pz_gp d62_32 rfl rfl rfl rfl
theorem d62_35 : decode (pz_b 62) 35 = .ok (.aload_n 0, 1) := by decide +kernel
theorem q62_35 {dA : Nat → ClassId} {d : Nat} {st : List Value} {f : pz_F} {Q : Option Value → pz_F → Prop} {v1 : Value} {x : Nat} : pz_R dA d 62 35 [.ref x, v1] st f Q = pz_R dA d 62 36 [.ref x, v1] (.ref x :: st) f Q := pz_go (pz_so d62_35 rfl)
theorem d62_36 : decode (pz_b 62) 36 = .ok (.getfield 9, 3) := by decide +kernel
theorem q62_36 {dA : Nat → ClassId} {d : Nat} {st : List Value} {f : pz_F} {Q : Option Value → pz_F → Prop} {v0 v1 : Value} {a : Nat} : pz_R dA d 62 36 [v0, v1] (.ref a :: st) f Q = pz_o (pz_gf f a 2 0) (fun v => pz_R dA d 62 39 [v0, v1] (v :: st) f Q) := pz_gg d62_36 rfl
theorem d62_39 : decode (pz_b 62) 39 = .ok (.iconst 1, 1) := by decide +kernel
theorem q62_39 {dA : Nat → ClassId} {d : Nat} {st : List Value} {f : pz_F} {Q : Option Value → pz_F → Prop} {v0 v1 : Value} : pz_R dA d 62 39 [v0, v1] st f Q = pz_R dA d 62 40 [v0, v1] (.int 1 :: st) f Q := pz_go (pz_so d62_39 rfl)
theorem d62_40 : decode (pz_b 62) 40 = .ok (.if_icmp .ne 18, 3) := by decide +kernel
theorem q62_40 {dA : Nat → ClassId} {d : Nat} {st : List Value} {f : pz_F} {Q : Option Value → pz_F → Prop} {v0 v1 : Value} {x y : Int32} : pz_R dA d 62 40 [v0, v1] (.int y :: .int x :: st) f Q = (if x = y then pz_R dA d 62 43 [v0, v1] st f Q else pz_R dA d 62 58 [v0, v1] st f Q) := pz_gjn .ne d62_40 rfl
theorem d62_43 : decode (pz_b 62) 43 = .ok (.aload_n 0, 1) := by decide +kernel
theorem q62_43 {dA : Nat → ClassId} {d : Nat} {st : List Value} {f : pz_F} {Q : Option Value → pz_F → Prop} {v1 : Value} {x : Nat} : pz_R dA d 62 43 [.ref x, v1] st f Q = pz_R dA d 62 44 [.ref x, v1] (.ref x :: st) f Q := pz_go (pz_so d62_43 rfl)
theorem d62_44 : decode (pz_b 62) 44 = .ok (.aload_n 0, 1) := by decide +kernel
theorem q62_44 {dA : Nat → ClassId} {d : Nat} {st : List Value} {f : pz_F} {Q : Option Value → pz_F → Prop} {v1 : Value} {x : Nat} : pz_R dA d 62 44 [.ref x, v1] st f Q = pz_R dA d 62 45 [.ref x, v1] (.ref x :: st) f Q := pz_go (pz_so d62_44 rfl)
theorem d62_45 : decode (pz_b 62) 45 = .ok (.getfield 41, 3) := by decide +kernel
theorem q62_45 {dA : Nat → ClassId} {d : Nat} {st : List Value} {f : pz_F} {Q : Option Value → pz_F → Prop} {v0 v1 : Value} {a : Nat} : pz_R dA d 62 45 [v0, v1] (.ref a :: st) f Q = pz_o (pz_gf f a 2 3) (fun v => pz_R dA d 62 48 [v0, v1] (v :: st) f Q) := pz_gg d62_45 rfl
theorem d62_48 : decode (pz_b 62) 48 = .ok (.aload_n 1, 1) := by decide +kernel
theorem q62_48 {dA : Nat → ClassId} {d : Nat} {st : List Value} {f : pz_F} {Q : Option Value → pz_F → Prop} {v0 : Value} {x : Nat} : pz_R dA d 62 48 [v0, .ref x] st f Q = pz_R dA d 62 49 [v0, .ref x] (.ref x :: st) f Q := pz_go (pz_so d62_48 rfl)
theorem q62_48n {dA : Nat → ClassId} {d : Nat} {st : List Value} {f : pz_F} {Q : Option Value → pz_F → Prop} {v0 : Value} : pz_R dA d 62 48 [v0, .null] st f Q = pz_R dA d 62 49 [v0, .null] (.null :: st) f Q := pz_go (pz_so d62_48 rfl)
theorem d62_49 : decode (pz_b 62) 49 = .ok (.getfield 61, 3) := by decide +kernel
theorem q62_49 {dA : Nat → ClassId} {d : Nat} {st : List Value} {f : pz_F} {Q : Option Value → pz_F → Prop} {v0 v1 : Value} {a : Nat} : pz_R dA d 62 49 [v0, v1] (.ref a :: st) f Q = pz_o (pz_gf f a 5 11) (fun v => pz_R dA d 62 52 [v0, v1] (v :: st) f Q) := pz_gg d62_49 rfl
theorem d62_52 : decode (pz_b 62) 52 = .ok (.invokestatic 44, 3) := by decide +kernel
theorem q62_52 {dA : Nat → ClassId} {d : Nat} {st : List Value} {f : pz_F} {Q : Option Value → pz_F → Prop} {v0 v1 : Value} {x y : Int32} (hr : st.length ≤ 4) : pz_R dA d 62 52 [v0, v1] (.int y :: .int x :: st) f Q = pz_R dA d 62 55 [v0, v1] (.int (mx x y) :: st) f Q := pz_gmx d62_52 rfl rfl hr
theorem d62_55 : decode (pz_b 62) 55 = .ok (.putfield 41, 3) := by decide +kernel
theorem q62_55 {dA : Nat → ClassId} {d : Nat} {st : List Value} {f : pz_F} {Q : Option Value → pz_F → Prop} {v0 v1 : Value} {x : Int32} {a : Nat} : pz_R dA d 62 55 [v0, v1] (.int x :: .ref a :: st) f Q = pz_o (pz_pf f a 2 3 (.int x)) (fun f' => pz_R dA d 62 58 [v0, v1] st f' Q) := pz_gp d62_55 rfl rfl rfl rfl
theorem d62_58 : decode (pz_b 62) 58 = .ok (.aload_n 0, 1) := by decide +kernel
theorem q62_58 {dA : Nat → ClassId} {d : Nat} {st : List Value} {f : pz_F} {Q : Option Value → pz_F → Prop} {v1 : Value} {x : Nat} : pz_R dA d 62 58 [.ref x, v1] st f Q = pz_R dA d 62 59 [.ref x, v1] (.ref x :: st) f Q := pz_go (pz_so d62_58 rfl)
theorem d62_59 : decode (pz_b 62) 59 = .ok (.getfield 9, 3) := by decide +kernel
theorem q62_59 {dA : Nat → ClassId} {d : Nat} {st : List Value} {f : pz_F} {Q : Option Value → pz_F → Prop} {v0 v1 : Value} {a : Nat} : pz_R dA d 62 59 [v0, v1] (.ref a :: st) f Q = pz_o (pz_gf f a 2 0) (fun v => pz_R dA d 62 62 [v0, v1] (v :: st) f Q) := pz_gg d62_59 rfl
theorem d62_62 : decode (pz_b 62) 62 = .ok (.iconst 2, 1) := by decide +kernel
theorem q62_62 {dA : Nat → ClassId} {d : Nat} {st : List Value} {f : pz_F} {Q : Option Value → pz_F → Prop} {v0 v1 : Value} : pz_R dA d 62 62 [v0, v1] st f Q = pz_R dA d 62 63 [v0, v1] (.int 2 :: st) f Q := pz_go (pz_so d62_62 rfl)
theorem d62_63 : decode (pz_b 62) 63 = .ok (.if_icmp .ne 7, 3) := by decide +kernel
theorem q62_63 {dA : Nat → ClassId} {d : Nat} {st : List Value} {f : pz_F} {Q : Option Value → pz_F → Prop} {v0 v1 : Value} {x y : Int32} : pz_R dA d 62 63 [v0, v1] (.int y :: .int x :: st) f Q = (if x = y then pz_R dA d 62 66 [v0, v1] st f Q else pz_R dA d 62 70 [v0, v1] st f Q) := pz_gjn .ne d62_63 rfl
theorem d62_66 : decode (pz_b 62) 66 = .ok (.aload_n 0, 1) := by decide +kernel
theorem q62_66 {dA : Nat → ClassId} {d : Nat} {st : List Value} {f : pz_F} {Q : Option Value → pz_F → Prop} {v1 : Value} {x : Nat} : pz_R dA d 62 66 [.ref x, v1] st f Q = pz_R dA d 62 67 [.ref x, v1] (.ref x :: st) f Q := pz_go (pz_so d62_66 rfl)
theorem d62_67 : decode (pz_b 62) 67 = .ok (.invokevirtual 53, 3) := by decide +kernel
theorem q62_67 {dA : Nat → ClassId} {d : Nat} {st : List Value} {f : pz_F} {Q : Option Value → pz_F → Prop} {v0 v1 : Value} {b : Nat} (hr : st.length ≤ 4) : pz_R dA (d + 1) 62 67 [v0, v1] (.ref b :: st) f Q = pz_o (pz_gu f b 2) (fun _ => pz_C dA d 55 [.ref b] f (fun r f' => pz_R dA (d + 1) 62 70 [v0, v1] (r.toList ++ st) f' Q)) := pz_gcv (As := []) d62_67 rfl rfl rfl hr
theorem d62_70 : decode (pz_b 62) 70 = .ok (.return_, 1) := by decide +kernel
theorem q62_70 {dA : Nat → ClassId} {d : Nat} {f : pz_F} {Q : Option Value → pz_F → Prop} {v0 v1 : Value} : pz_R dA d 62 70 [v0, v1] [] f Q = Q none f := pz_gr (pz_so d62_70 rfl)
/-! R_look (I)I -/
theorem e63 {dA : Nat → ClassId} {d : Nat} {f : pz_F} {Q : Option Value → pz_F → Prop} {a0 : Nat} {a1 : Int32} : pz_C dA d 63 [.ref a0, .int a1] f Q = pz_R dA d 63 0 [.ref a0, .int a1] [] f Q := rfl
theorem d63_0 : decode (pz_b 63) 0 = .ok (.iload_n 1, 1) := by decide +kernel
theorem q63_0 {dA : Nat → ClassId} {d : Nat} {st : List Value} {f : pz_F} {Q : Option Value → pz_F → Prop} {v0 : Value} {x : Int32} : pz_R dA d 63 0 [v0, .int x] st f Q = pz_R dA d 63 1 [v0, .int x] (.int x :: st) f Q := pz_go (pz_so d63_0 rfl)
theorem d63_1 : decode (pz_b 63) 1 = .ok (.tableswitch 95 0 7 #[47, 52, 57, 62, 67, 72, 77, 82], 47) := by decide +kernel
theorem q63_1 {dA : Nat → ClassId} {d : Nat} {st : List Value} {f : pz_F} {Q : Option Value → pz_F → Prop} {v0 v1 : Value} {x : Int32} : pz_R dA d 63 1 [v0, v1] (.int x :: st) f Q = if x = 0 then pz_R dA d 63 48 [v0, v1] st f Q else (if x = 1 then pz_R dA d 63 53 [v0, v1] st f Q else (if x = 2 then pz_R dA d 63 58 [v0, v1] st f Q else (if x = 3 then pz_R dA d 63 63 [v0, v1] st f Q else (if x = 4 then pz_R dA d 63 68 [v0, v1] st f Q else (if x = 5 then pz_R dA d 63 73 [v0, v1] st f Q else (if x = 6 then pz_R dA d 63 78 [v0, v1] st f Q else (if x = 7 then pz_R dA d 63 83 [v0, v1] st f Q else (pz_R dA d 63 96 [v0, v1] st f Q)))))))) := by
  by_cases h0 : x = 0
  · subst h0
    rw [if_pos rfl]
    exact pz_gti d63_1 (by decide) rfl rfl
  rw [if_neg h0]
  by_cases h1 : x = 1
  · subst h1
    rw [if_pos rfl]
    exact pz_gti d63_1 (by decide) rfl rfl
  rw [if_neg h1]
  by_cases h2 : x = 2
  · subst h2
    rw [if_pos rfl]
    exact pz_gti d63_1 (by decide) rfl rfl
  rw [if_neg h2]
  by_cases h3 : x = 3
  · subst h3
    rw [if_pos rfl]
    exact pz_gti d63_1 (by decide) rfl rfl
  rw [if_neg h3]
  by_cases h4 : x = 4
  · subst h4
    rw [if_pos rfl]
    exact pz_gti d63_1 (by decide) rfl rfl
  rw [if_neg h4]
  by_cases h5 : x = 5
  · subst h5
    rw [if_pos rfl]
    exact pz_gti d63_1 (by decide) rfl rfl
  rw [if_neg h5]
  by_cases h6 : x = 6
  · subst h6
    rw [if_pos rfl]
    exact pz_gti d63_1 (by decide) rfl rfl
  rw [if_neg h6]
  by_cases h7 : x = 7
  · subst h7
    rw [if_pos rfl]
    exact pz_gti d63_1 (by decide) rfl rfl
  rw [if_neg h7]
  refine pz_gtd d63_1 ?_ rfl
  have g0 : ¬ x.toInt = 0 := lv_neT h0 (by decide)
  have g1 : ¬ x.toInt = 1 := lv_neT h1 (by decide)
  have g2 : ¬ x.toInt = 2 := lv_neT h2 (by decide)
  have g3 : ¬ x.toInt = 3 := lv_neT h3 (by decide)
  have g4 : ¬ x.toInt = 4 := lv_neT h4 (by decide)
  have g5 : ¬ x.toInt = 5 := lv_neT h5 (by decide)
  have g6 : ¬ x.toInt = 6 := lv_neT h6 (by decide)
  have g7 : ¬ x.toInt = 7 := lv_neT h7 (by decide)
  omega
theorem d63_48 : decode (pz_b 63) 48 = .ok (.aload_n 0, 1) := by decide +kernel
theorem q63_48 {dA : Nat → ClassId} {d : Nat} {st : List Value} {f : pz_F} {Q : Option Value → pz_F → Prop} {v1 : Value} {x : Nat} : pz_R dA d 63 48 [.ref x, v1] st f Q = pz_R dA d 63 49 [.ref x, v1] (.ref x :: st) f Q := pz_go (pz_so d63_48 rfl)
theorem d63_49 : decode (pz_b 63) 49 = .ok (.getfield 9, 3) := by decide +kernel
theorem q63_49 {dA : Nat → ClassId} {d : Nat} {st : List Value} {f : pz_F} {Q : Option Value → pz_F → Prop} {v0 v1 : Value} {a : Nat} : pz_R dA d 63 49 [v0, v1] (.ref a :: st) f Q = pz_o (pz_gf f a 2 0) (fun v => pz_R dA d 63 52 [v0, v1] (v :: st) f Q) := pz_gg d63_49 rfl
theorem d63_52 : decode (pz_b 63) 52 = .ok (.ireturn, 1) := by decide +kernel
theorem q63_52 {dA : Nat → ClassId} {d : Nat} {f : pz_F} {Q : Option Value → pz_F → Prop} {v0 v1 : Value} {x : Int32} : pz_R dA d 63 52 [v0, v1] [.int x] f Q = Q (some (.int x)) f := pz_gri d63_52 rfl rfl
theorem d63_53 : decode (pz_b 63) 53 = .ok (.aload_n 0, 1) := by decide +kernel
theorem q63_53 {dA : Nat → ClassId} {d : Nat} {st : List Value} {f : pz_F} {Q : Option Value → pz_F → Prop} {v1 : Value} {x : Nat} : pz_R dA d 63 53 [.ref x, v1] st f Q = pz_R dA d 63 54 [.ref x, v1] (.ref x :: st) f Q := pz_go (pz_so d63_53 rfl)
theorem d63_54 : decode (pz_b 63) 54 = .ok (.getfield 15, 3) := by decide +kernel
theorem q63_54 {dA : Nat → ClassId} {d : Nat} {st : List Value} {f : pz_F} {Q : Option Value → pz_F → Prop} {v0 v1 : Value} {a : Nat} : pz_R dA d 63 54 [v0, v1] (.ref a :: st) f Q = pz_o (pz_gf f a 2 1) (fun v => pz_R dA d 63 57 [v0, v1] (v :: st) f Q) := pz_gg d63_54 rfl
theorem d63_57 : decode (pz_b 63) 57 = .ok (.ireturn, 1) := by decide +kernel
theorem q63_57 {dA : Nat → ClassId} {d : Nat} {f : pz_F} {Q : Option Value → pz_F → Prop} {v0 v1 : Value} {x : Int32} : pz_R dA d 63 57 [v0, v1] [.int x] f Q = Q (some (.int x)) f := pz_gri d63_57 rfl rfl
theorem d63_58 : decode (pz_b 63) 58 = .ok (.aload_n 0, 1) := by decide +kernel
theorem q63_58 {dA : Nat → ClassId} {d : Nat} {st : List Value} {f : pz_F} {Q : Option Value → pz_F → Prop} {v1 : Value} {x : Nat} : pz_R dA d 63 58 [.ref x, v1] st f Q = pz_R dA d 63 59 [.ref x, v1] (.ref x :: st) f Q := pz_go (pz_so d63_58 rfl)
theorem d63_59 : decode (pz_b 63) 59 = .ok (.getfield 18, 3) := by decide +kernel
theorem q63_59 {dA : Nat → ClassId} {d : Nat} {st : List Value} {f : pz_F} {Q : Option Value → pz_F → Prop} {v0 v1 : Value} {a : Nat} : pz_R dA d 63 59 [v0, v1] (.ref a :: st) f Q = pz_o (pz_gf f a 2 2) (fun v => pz_R dA d 63 62 [v0, v1] (v :: st) f Q) := pz_gg d63_59 rfl
theorem d63_62 : decode (pz_b 63) 62 = .ok (.ireturn, 1) := by decide +kernel
theorem q63_62 {dA : Nat → ClassId} {d : Nat} {f : pz_F} {Q : Option Value → pz_F → Prop} {v0 v1 : Value} {x : Int32} : pz_R dA d 63 62 [v0, v1] [.int x] f Q = Q (some (.int x)) f := pz_gri d63_62 rfl rfl
theorem d63_63 : decode (pz_b 63) 63 = .ok (.aload_n 0, 1) := by decide +kernel
theorem q63_63 {dA : Nat → ClassId} {d : Nat} {st : List Value} {f : pz_F} {Q : Option Value → pz_F → Prop} {v1 : Value} {x : Nat} : pz_R dA d 63 63 [.ref x, v1] st f Q = pz_R dA d 63 64 [.ref x, v1] (.ref x :: st) f Q := pz_go (pz_so d63_63 rfl)
theorem d63_64 : decode (pz_b 63) 64 = .ok (.getfield 41, 3) := by decide +kernel
theorem q63_64 {dA : Nat → ClassId} {d : Nat} {st : List Value} {f : pz_F} {Q : Option Value → pz_F → Prop} {v0 v1 : Value} {a : Nat} : pz_R dA d 63 64 [v0, v1] (.ref a :: st) f Q = pz_o (pz_gf f a 2 3) (fun v => pz_R dA d 63 67 [v0, v1] (v :: st) f Q) := pz_gg d63_64 rfl
theorem d63_67 : decode (pz_b 63) 67 = .ok (.ireturn, 1) := by decide +kernel
theorem q63_67 {dA : Nat → ClassId} {d : Nat} {f : pz_F} {Q : Option Value → pz_F → Prop} {v0 v1 : Value} {x : Int32} : pz_R dA d 63 67 [v0, v1] [.int x] f Q = Q (some (.int x)) f := pz_gri d63_67 rfl rfl
theorem d63_68 : decode (pz_b 63) 68 = .ok (.aload_n 0, 1) := by decide +kernel
theorem q63_68 {dA : Nat → ClassId} {d : Nat} {st : List Value} {f : pz_F} {Q : Option Value → pz_F → Prop} {v1 : Value} {x : Nat} : pz_R dA d 63 68 [.ref x, v1] st f Q = pz_R dA d 63 69 [.ref x, v1] (.ref x :: st) f Q := pz_go (pz_so d63_68 rfl)
theorem d63_69 : decode (pz_b 63) 69 = .ok (.getfield 21, 3) := by decide +kernel
theorem q63_69 {dA : Nat → ClassId} {d : Nat} {st : List Value} {f : pz_F} {Q : Option Value → pz_F → Prop} {v0 v1 : Value} {a : Nat} : pz_R dA d 63 69 [v0, v1] (.ref a :: st) f Q = pz_o (pz_gf f a 2 4) (fun v => pz_R dA d 63 72 [v0, v1] (v :: st) f Q) := pz_gg d63_69 rfl
theorem d63_72 : decode (pz_b 63) 72 = .ok (.ireturn, 1) := by decide +kernel
theorem q63_72 {dA : Nat → ClassId} {d : Nat} {f : pz_F} {Q : Option Value → pz_F → Prop} {v0 v1 : Value} {x : Int32} : pz_R dA d 63 72 [v0, v1] [.int x] f Q = Q (some (.int x)) f := pz_gri d63_72 rfl rfl
theorem d63_73 : decode (pz_b 63) 73 = .ok (.aload_n 0, 1) := by decide +kernel
theorem q63_73 {dA : Nat → ClassId} {d : Nat} {st : List Value} {f : pz_F} {Q : Option Value → pz_F → Prop} {v1 : Value} {x : Nat} : pz_R dA d 63 73 [.ref x, v1] st f Q = pz_R dA d 63 74 [.ref x, v1] (.ref x :: st) f Q := pz_go (pz_so d63_73 rfl)
theorem d63_74 : decode (pz_b 63) 74 = .ok (.getfield 38, 3) := by decide +kernel
theorem q63_74 {dA : Nat → ClassId} {d : Nat} {st : List Value} {f : pz_F} {Q : Option Value → pz_F → Prop} {v0 v1 : Value} {a : Nat} : pz_R dA d 63 74 [v0, v1] (.ref a :: st) f Q = pz_o (pz_gf f a 2 5) (fun v => pz_R dA d 63 77 [v0, v1] (v :: st) f Q) := pz_gg d63_74 rfl
theorem d63_77 : decode (pz_b 63) 77 = .ok (.ireturn, 1) := by decide +kernel
theorem q63_77 {dA : Nat → ClassId} {d : Nat} {f : pz_F} {Q : Option Value → pz_F → Prop} {v0 v1 : Value} {x : Int32} : pz_R dA d 63 77 [v0, v1] [.int x] f Q = Q (some (.int x)) f := pz_gri d63_77 rfl rfl
theorem d63_78 : decode (pz_b 63) 78 = .ok (.aload_n 0, 1) := by decide +kernel
theorem q63_78 {dA : Nat → ClassId} {d : Nat} {st : List Value} {f : pz_F} {Q : Option Value → pz_F → Prop} {v1 : Value} {x : Nat} : pz_R dA d 63 78 [.ref x, v1] st f Q = pz_R dA d 63 79 [.ref x, v1] (.ref x :: st) f Q := pz_go (pz_so d63_78 rfl)
theorem d63_79 : decode (pz_b 63) 79 = .ok (.getfield 24, 3) := by decide +kernel
theorem q63_79 {dA : Nat → ClassId} {d : Nat} {st : List Value} {f : pz_F} {Q : Option Value → pz_F → Prop} {v0 v1 : Value} {a : Nat} : pz_R dA d 63 79 [v0, v1] (.ref a :: st) f Q = pz_o (pz_gf f a 2 6) (fun v => pz_R dA d 63 82 [v0, v1] (v :: st) f Q) := pz_gg d63_79 rfl
theorem d63_82 : decode (pz_b 63) 82 = .ok (.ireturn, 1) := by decide +kernel
theorem q63_82 {dA : Nat → ClassId} {d : Nat} {f : pz_F} {Q : Option Value → pz_F → Prop} {v0 v1 : Value} {x : Int32} : pz_R dA d 63 82 [v0, v1] [.int x] f Q = Q (some (.int x)) f := pz_gri d63_82 rfl rfl
theorem d63_83 : decode (pz_b 63) 83 = .ok (.aload_n 0, 1) := by decide +kernel
theorem q63_83 {dA : Nat → ClassId} {d : Nat} {st : List Value} {f : pz_F} {Q : Option Value → pz_F → Prop} {v1 : Value} {x : Nat} : pz_R dA d 63 83 [.ref x, v1] st f Q = pz_R dA d 63 84 [.ref x, v1] (.ref x :: st) f Q := pz_go (pz_so d63_83 rfl)
theorem d63_84 : decode (pz_b 63) 84 = .ok (.getfield 27, 3) := by decide +kernel
theorem q63_84 {dA : Nat → ClassId} {d : Nat} {st : List Value} {f : pz_F} {Q : Option Value → pz_F → Prop} {v0 v1 : Value} {a : Nat} : pz_R dA d 63 84 [v0, v1] (.ref a :: st) f Q = pz_o (pz_gf f a 2 7) (fun v => pz_R dA d 63 87 [v0, v1] (v :: st) f Q) := pz_gg d63_84 rfl
theorem d63_87 : decode (pz_b 63) 87 = .ok (.ifCond .eq 7, 3) := by decide +kernel
theorem q63_87 {dA : Nat → ClassId} {d : Nat} {st : List Value} {f : pz_F} {Q : Option Value → pz_F → Prop} {v0 v1 : Value} {x : Int32} : pz_R dA d 63 87 [v0, v1] (.int x :: st) f Q = (if x = 0 then pz_R dA d 63 94 [v0, v1] st f Q else pz_R dA d 63 90 [v0, v1] st f Q) := pz_gj1 .eq d63_87 rfl
theorem d63_90 : decode (pz_b 63) 90 = .ok (.iconst 1, 1) := by decide +kernel
theorem q63_90 {dA : Nat → ClassId} {d : Nat} {st : List Value} {f : pz_F} {Q : Option Value → pz_F → Prop} {v0 v1 : Value} : pz_R dA d 63 90 [v0, v1] st f Q = pz_R dA d 63 91 [v0, v1] (.int 1 :: st) f Q := pz_go (pz_so d63_90 rfl)
theorem d63_91 : decode (pz_b 63) 91 = .ok (.goto 4, 3) := by decide +kernel
theorem q63_91 {dA : Nat → ClassId} {d : Nat} {st : List Value} {f : pz_F} {Q : Option Value → pz_F → Prop} {v0 v1 : Value} : pz_R dA d 63 91 [v0, v1] st f Q = pz_R dA d 63 95 [v0, v1] st f Q := pz_go (pz_so d63_91 rfl)
theorem d63_94 : decode (pz_b 63) 94 = .ok (.iconst 0, 1) := by decide +kernel
theorem q63_94 {dA : Nat → ClassId} {d : Nat} {st : List Value} {f : pz_F} {Q : Option Value → pz_F → Prop} {v0 v1 : Value} : pz_R dA d 63 94 [v0, v1] st f Q = pz_R dA d 63 95 [v0, v1] (.int 0 :: st) f Q := pz_go (pz_so d63_94 rfl)
theorem d63_95 : decode (pz_b 63) 95 = .ok (.ireturn, 1) := by decide +kernel
theorem q63_95 {dA : Nat → ClassId} {d : Nat} {f : pz_F} {Q : Option Value → pz_F → Prop} {v0 v1 : Value} {x : Int32} : pz_R dA d 63 95 [v0, v1] [.int x] f Q = Q (some (.int x)) f := pz_gri d63_95 rfl rfl
theorem d63_96 : decode (pz_b 63) 96 = .ok (.bipush (-2), 2) := by decide +kernel
theorem q63_96 {dA : Nat → ClassId} {d : Nat} {st : List Value} {f : pz_F} {Q : Option Value → pz_F → Prop} {v0 v1 : Value} : pz_R dA d 63 96 [v0, v1] st f Q = pz_R dA d 63 98 [v0, v1] (.int (-2) :: st) f Q := pz_go (pz_so d63_96 rfl)
theorem d63_98 : decode (pz_b 63) 98 = .ok (.ireturn, 1) := by decide +kernel
theorem q63_98 {dA : Nat → ClassId} {d : Nat} {f : pz_F} {Q : Option Value → pz_F → Prop} {v0 v1 : Value} {x : Int32} : pz_R dA d 63 98 [v0, v1] [.int x] f Q = Q (some (.int x)) f := pz_gri d63_98 rfl rfl
