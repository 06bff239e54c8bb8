/-! X_isServer (I)Z -/
theorem e87 {dA : Nat → ClassId} {d : Nat} {f : pz_F} {Q : Option Value → pz_F → Prop} {a0 : Int32} : pz_C dA d 87 [.int a0] f Q = pz_R dA d 87 0 [.int a0] [] f Q := rfl
theorem d87_0 : decode (pz_b 87) 0 = .ok (.iload_n 0, 1) := by decide +kernel
theorem q87_0 {dA : Nat → ClassId} {d : Nat} {st : List Value} {f : pz_F} {Q : Option Value → pz_F → Prop} {x : Int32} : pz_R dA d 87 0 [.int x] st f Q = pz_R dA d 87 1 [.int x] (.int x :: st) f Q := pz_go (pz_so d87_0 rfl)
theorem d87_1 : decode (pz_b 87) 1 = .ok (.ifCond .eq 8, 3) := by decide +kernel
theorem q87_1 {dA : Nat → ClassId} {d : Nat} {st : List Value} {f : pz_F} {Q : Option Value → pz_F → Prop} {v0 : Value} {x : Int32} : pz_R dA d 87 1 [v0] (.int x :: st) f Q = (if x = 0 then pz_R dA d 87 9 [v0] st f Q else pz_R dA d 87 4 [v0] st f Q) := pz_gj1 .eq d87_1 rfl
theorem d87_4 : decode (pz_b 87) 4 = .ok (.iload_n 0, 1) := by decide +kernel
theorem q87_4 {dA : Nat → ClassId} {d : Nat} {st : List Value} {f : pz_F} {Q : Option Value → pz_F → Prop} {x : Int32} : pz_R dA d 87 4 [.int x] st f Q = pz_R dA d 87 5 [.int x] (.int x :: st) f Q := pz_go (pz_so d87_4 rfl)
theorem d87_5 : decode (pz_b 87) 5 = .ok (.iconst 1, 1) := by decide +kernel
theorem q87_5 {dA : Nat → ClassId} {d : Nat} {st : List Value} {f : pz_F} {Q : Option Value → pz_F → Prop} {v0 : Value} : pz_R dA d 87 5 [v0] st f Q = pz_R dA d 87 6 [v0] (.int 1 :: st) f Q := pz_go (pz_so d87_5 rfl)
theorem d87_6 : decode (pz_b 87) 6 = .ok (.if_icmp .ne 7, 3) := by decide +kernel
theorem q87_6 {dA : Nat → ClassId} {d : Nat} {st : List Value} {f : pz_F} {Q : Option Value → pz_F → Prop} {v0 : Value} {x y : Int32} : pz_R dA d 87 6 [v0] (.int y :: .int x :: st) f Q = (if x = y then pz_R dA d 87 9 [v0] st f Q else pz_R dA d 87 13 [v0] st f Q) := pz_gjn .ne d87_6 rfl
theorem d87_9 : decode (pz_b 87) 9 = .ok (.iconst 1, 1) := by decide +kernel
theorem q87_9 {dA : Nat → ClassId} {d : Nat} {st : List Value} {f : pz_F} {Q : Option Value → pz_F → Prop} {v0 : Value} : pz_R dA d 87 9 [v0] st f Q = pz_R dA d 87 10 [v0] (.int 1 :: st) f Q := pz_go (pz_so d87_9 rfl)
theorem d87_10 : decode (pz_b 87) 10 = .ok (.goto 4, 3) := by decide +kernel
theorem q87_10 {dA : Nat → ClassId} {d : Nat} {st : List Value} {f : pz_F} {Q : Option Value → pz_F → Prop} {v0 : Value} : pz_R dA d 87 10 [v0] st f Q = pz_R dA d 87 14 [v0] st f Q := pz_go (pz_so d87_10 rfl)
theorem d87_13 : decode (pz_b 87) 13 = .ok (.iconst 0, 1) := by decide +kernel
theorem q87_13 {dA : Nat → ClassId} {d : Nat} {st : List Value} {f : pz_F} {Q : Option Value → pz_F → Prop} {v0 : Value} : pz_R dA d 87 13 [v0] st f Q = pz_R dA d 87 14 [v0] (.int 0 :: st) f Q := pz_go (pz_so d87_13 rfl)
theorem d87_14 : decode (pz_b 87) 14 = .ok (.ireturn, 1) := by decide +kernel
theorem q87_14z {dA : Nat → ClassId} {d : Nat} {f : pz_F} {Q : Option Value → pz_F → Prop} {v0 : Value} : pz_R dA d 87 14 [v0] [.int 0] f Q = Q (some (.int 0)) f := pz_gri d87_14 rfl rfl
theorem q87_14o {dA : Nat → ClassId} {d : Nat} {f : pz_F} {Q : Option Value → pz_F → Prop} {v0 : Value} : pz_R dA d 87 14 [v0] [.int 1] f Q = Q (some (.int 1)) f := pz_gri d87_14 rfl rfl
/-! X_isClient (I)Z -/
theorem e88 {dA : Nat → ClassId} {d : Nat} {f : pz_F} {Q : Option Value → pz_F → Prop} {a0 : Int32} : pz_C dA d 88 [.int a0] f Q = pz_R dA d 88 0 [.int a0] [] f Q := rfl
theorem d88_0 : decode (pz_b 88) 0 = .ok (.iload_n 0, 1) := by decide +kernel
theorem q88_0 {dA : Nat → ClassId} {d : Nat} {st : List Value} {f : pz_F} {Q : Option Value → pz_F → Prop} {x : Int32} : pz_R dA d 88 0 [.int x] st f Q = pz_R dA d 88 1 [.int x] (.int x :: st) f Q := pz_go (pz_so d88_0 rfl)
theorem d88_1 : decode (pz_b 88) 1 = .ok (.ifCond .lt 12, 3) := by decide +kernel
theorem q88_1 {dA : Nat → ClassId} {d : Nat} {st : List Value} {f : pz_F} {Q : Option Value → pz_F → Prop} {v0 : Value} {x : Int32} : pz_R dA d 88 1 [v0] (.int x :: st) f Q = (if x < 0 then pz_R dA d 88 13 [v0] st f Q else pz_R dA d 88 4 [v0] st f Q) := pz_gj1 .lt d88_1 rfl
theorem d88_4 : decode (pz_b 88) 4 = .ok (.iload_n 0, 1) := by decide +kernel
theorem q88_4 {dA : Nat → ClassId} {d : Nat} {st : List Value} {f : pz_F} {Q : Option Value → pz_F → Prop} {x : Int32} : pz_R dA d 88 4 [.int x] st f Q = pz_R dA d 88 5 [.int x] (.int x :: st) f Q := pz_go (pz_so d88_4 rfl)
theorem d88_5 : decode (pz_b 88) 5 = .ok (.iconst 4, 1) := by decide +kernel
theorem q88_5 {dA : Nat → ClassId} {d : Nat} {st : List Value} {f : pz_F} {Q : Option Value → pz_F → Prop} {v0 : Value} : pz_R dA d 88 5 [v0] st f Q = pz_R dA d 88 6 [v0] (.int 4 :: st) f Q := pz_go (pz_so d88_5 rfl)
theorem d88_6 : decode (pz_b 88) 6 = .ok (.if_icmp .gt 7, 3) := by decide +kernel
theorem q88_6 {dA : Nat → ClassId} {d : Nat} {st : List Value} {f : pz_F} {Q : Option Value → pz_F → Prop} {v0 : Value} {x y : Int32} : pz_R dA d 88 6 [v0] (.int y :: .int x :: st) f Q = (if y < x then pz_R dA d 88 13 [v0] st f Q else pz_R dA d 88 9 [v0] st f Q) := pz_gjn .gt d88_6 rfl
theorem d88_9 : decode (pz_b 88) 9 = .ok (.iconst 1, 1) := by decide +kernel
theorem q88_9 {dA : Nat → ClassId} {d : Nat} {st : List Value} {f : pz_F} {Q : Option Value → pz_F → Prop} {v0 : Value} : pz_R dA d 88 9 [v0] st f Q = pz_R dA d 88 10 [v0] (.int 1 :: st) f Q := pz_go (pz_so d88_9 rfl)
theorem d88_10 : decode (pz_b 88) 10 = .ok (.goto 4, 3) := by decide +kernel
theorem q88_10 {dA : Nat → ClassId} {d : Nat} {st : List Value} {f : pz_F} {Q : Option Value → pz_F → Prop} {v0 : Value} : pz_R dA d 88 10 [v0] st f Q = pz_R dA d 88 14 [v0] st f Q := pz_go (pz_so d88_10 rfl)
theorem d88_13 : decode (pz_b 88) 13 = .ok (.iconst 0, 1) := by decide +kernel
theorem q88_13 {dA : Nat → ClassId} {d : Nat} {st : List Value} {f : pz_F} {Q : Option Value → pz_F → Prop} {v0 : Value} : pz_R dA d 88 13 [v0] st f Q = pz_R dA d 88 14 [v0] (.int 0 :: st) f Q := pz_go (pz_so d88_13 rfl)
theorem d88_14 : decode (pz_b 88) 14 = .ok (.ireturn, 1) := by decide +kernel
theorem q88_14z {dA : Nat → ClassId} {d : Nat} {f : pz_F} {Q : Option Value → pz_F → Prop} {v0 : Value} : pz_R dA d 88 14 [v0] [.int 0] f Q = Q (some (.int 0)) f := pz_gri d88_14 rfl rfl
theorem q88_14o {dA : Nat → ClassId} {d : Nat} {f : pz_F} {Q : Option Value → pz_F → Prop} {v0 : Value} : pz_R dA d 88 14 [v0] [.int 1] f Q = Q (some (.int 1)) f := pz_gri d88_14 rfl rfl
/-! X_serves (I)Z -/
theorem e89 {dA : Nat → ClassId} {d : Nat} {f : pz_F} {Q : Option Value → pz_F → Prop} {a0 : Nat} {a1 : Int32} : pz_C dA d 89 [.ref a0, .int a1] f Q = pz_R dA d 89 0 [.ref a0, .int a1] [] f Q := rfl
theorem d89_0 : decode (pz_b 89) 0 = .ok (.aload_n 0, 1) := by decide +kernel
theorem q89_0 {dA : Nat → ClassId} {d : Nat} {st : List Value} {f : pz_F} {Q : Option Value → pz_F → Prop} {v1 : Value} {x : Nat} : pz_R dA d 89 0 [.ref x, v1] st f Q = pz_R dA d 89 1 [.ref x, v1] (.ref x :: st) f Q := pz_go (pz_so d89_0 rfl)
theorem d89_1 : decode (pz_b 89) 1 = .ok (.getfield 13, 3) := by decide +kernel
theorem q89_1 {dA : Nat → ClassId} {d : Nat} {st : List Value} {f : pz_F} {Q : Option Value → pz_F → Prop} {v0 v1 : Value} {a : Nat} : pz_R dA d 89 1 [v0, v1] (.ref a :: st) f Q = pz_o (pz_gf f a 6 2) (fun v => pz_R dA d 89 4 [v0, v1] (v :: st) f Q) := pz_gg d89_1 rfl
theorem d89_4 : decode (pz_b 89) 4 = .ok (.iload_n 1, 1) := by decide +kernel
theorem q89_4 {dA : Nat → ClassId} {d : Nat} {st : List Value} {f : pz_F} {Q : Option Value → pz_F → Prop} {v0 : Value} {x : Int32} : pz_R dA d 89 4 [v0, .int x] st f Q = pz_R dA d 89 5 [v0, .int x] (.int x :: st) f Q := pz_go (pz_so d89_4 rfl)
theorem d89_5 : decode (pz_b 89) 5 = .ok (.iaload, 1) := by decide +kernel
theorem q89_5 {dA : Nat → ClassId} {d : Nat} {st : List Value} {f : pz_F} {Q : Option Value → pz_F → Prop} {v0 v1 : Value} {i : Int32} {a : Nat} : pz_R dA d 89 5 [v0, v1] (.int i :: .ref a :: st) f Q = pz_o (pz_il (dA 0) f a i) (fun x => pz_R dA d 89 6 [v0, v1] (.int x :: st) f Q) := pz_gil d89_5
theorem d89_6 : decode (pz_b 89) 6 = .ok (.iconst 1, 1) := by decide +kernel
theorem q89_6 {dA : Nat → ClassId} {d : Nat} {st : List Value} {f : pz_F} {Q : Option Value → pz_F → Prop} {v0 v1 : Value} : pz_R dA d 89 6 [v0, v1] st f Q = pz_R dA d 89 7 [v0, v1] (.int 1 :: st) f Q := pz_go (pz_so d89_6 rfl)
theorem d89_7 : decode (pz_b 89) 7 = .ok (.if_icmp .lt 17, 3) := by decide +kernel
theorem q89_7 {dA : Nat → ClassId} {d : Nat} {st : List Value} {f : pz_F} {Q : Option Value → pz_F → Prop} {v0 v1 : Value} {x y : Int32} : pz_R dA d 89 7 [v0, v1] (.int y :: .int x :: st) f Q = (if x < y then pz_R dA d 89 24 [v0, v1] st f Q else pz_R dA d 89 10 [v0, v1] st f Q) := pz_gjn .lt d89_7 rfl
theorem d89_10 : decode (pz_b 89) 10 = .ok (.aload_n 0, 1) := by decide +kernel
theorem q89_10 {dA : Nat → ClassId} {d : Nat} {st : List Value} {f : pz_F} {Q : Option Value → pz_F → Prop} {v1 : Value} {x : Nat} : pz_R dA d 89 10 [.ref x, v1] st f Q = pz_R dA d 89 11 [.ref x, v1] (.ref x :: st) f Q := pz_go (pz_so d89_10 rfl)
theorem d89_11 : decode (pz_b 89) 11 = .ok (.getfield 13, 3) := by decide +kernel
theorem q89_11 {dA : Nat → ClassId} {d : Nat} {st : List Value} {f : pz_F} {Q : Option Value → pz_F → Prop} {v0 v1 : Value} {a : Nat} : pz_R dA d 89 11 [v0, v1] (.ref a :: st) f Q = pz_o (pz_gf f a 6 2) (fun v => pz_R dA d 89 14 [v0, v1] (v :: st) f Q) := pz_gg d89_11 rfl
theorem d89_14 : decode (pz_b 89) 14 = .ok (.iload_n 1, 1) := by decide +kernel
theorem q89_14 {dA : Nat → ClassId} {d : Nat} {st : List Value} {f : pz_F} {Q : Option Value → pz_F → Prop} {v0 : Value} {x : Int32} : pz_R dA d 89 14 [v0, .int x] st f Q = pz_R dA d 89 15 [v0, .int x] (.int x :: st) f Q := pz_go (pz_so d89_14 rfl)
theorem d89_15 : decode (pz_b 89) 15 = .ok (.iaload, 1) := by decide +kernel
theorem q89_15 {dA : Nat → ClassId} {d : Nat} {st : List Value} {f : pz_F} {Q : Option Value → pz_F → Prop} {v0 v1 : Value} {i : Int32} {a : Nat} : pz_R dA d 89 15 [v0, v1] (.int i :: .ref a :: st) f Q = pz_o (pz_il (dA 0) f a i) (fun x => pz_R dA d 89 16 [v0, v1] (.int x :: st) f Q) := pz_gil d89_15
theorem d89_16 : decode (pz_b 89) 16 = .ok (.iconst 3, 1) := by decide +kernel
theorem q89_16 {dA : Nat → ClassId} {d : Nat} {st : List Value} {f : pz_F} {Q : Option Value → pz_F → Prop} {v0 v1 : Value} : pz_R dA d 89 16 [v0, v1] st f Q = pz_R dA d 89 17 [v0, v1] (.int 3 :: st) f Q := pz_go (pz_so d89_16 rfl)
theorem d89_17 : decode (pz_b 89) 17 = .ok (.if_icmp .gt 7, 3) := by decide +kernel
theorem q89_17 {dA : Nat → ClassId} {d : Nat} {st : List Value} {f : pz_F} {Q : Option Value → pz_F → Prop} {v0 v1 : Value} {x y : Int32} : pz_R dA d 89 17 [v0, v1] (.int y :: .int x :: st) f Q = (if y < x then pz_R dA d 89 24 [v0, v1] st f Q else pz_R dA d 89 20 [v0, v1] st f Q) := pz_gjn .gt d89_17 rfl
theorem d89_20 : decode (pz_b 89) 20 = .ok (.iconst 1, 1) := by decide +kernel
theorem q89_20 {dA : Nat → ClassId} {d : Nat} {st : List Value} {f : pz_F} {Q : Option Value → pz_F → Prop} {v0 v1 : Value} : pz_R dA d 89 20 [v0, v1] st f Q = pz_R dA d 89 21 [v0, v1] (.int 1 :: st) f Q := pz_go (pz_so d89_20 rfl)
theorem d89_21 : decode (pz_b 89) 21 = .ok (.goto 4, 3) := by decide +kernel
theorem q89_21 {dA : Nat → ClassId} {d : Nat} {st : List Value} {f : pz_F} {Q : Option Value → pz_F → Prop} {v0 v1 : Value} : pz_R dA d 89 21 [v0, v1] st f Q = pz_R dA d 89 25 [v0, v1] st f Q := pz_go (pz_so d89_21 rfl)
theorem d89_24 : decode (pz_b 89) 24 = .ok (.iconst 0, 1) := by decide +kernel
theorem q89_24 {dA : Nat → ClassId} {d : Nat} {st : List Value} {f : pz_F} {Q : Option Value → pz_F → Prop} {v0 v1 : Value} : pz_R dA d 89 24 [v0, v1] st f Q = pz_R dA d 89 25 [v0, v1] (.int 0 :: st) f Q := pz_go (pz_so d89_24 rfl)
theorem d89_25 : decode (pz_b 89) 25 = .ok (.ireturn, 1) := by decide +kernel
theorem q89_25z {dA : Nat → ClassId} {d : Nat} {f : pz_F} {Q : Option Value → pz_F → Prop} {v0 v1 : Value} : pz_R dA d 89 25 [v0, v1] [.int 0] f Q = Q (some (.int 0)) f := pz_gri d89_25 rfl rfl
theorem q89_25o {dA : Nat → ClassId} {d : Nat} {f : pz_F} {Q : Option Value → pz_F → Prop} {v0 v1 : Value} : pz_R dA d 89 25 [v0, v1] [.int 1] f Q = Q (some (.int 1)) f := pz_gri d89_25 rfl rfl
/-! X_contact ()Z -/
theorem e90 {dA : Nat → ClassId} {d : Nat} {f : pz_F} {Q : Option Value → pz_F → Prop} {a0 : Nat} : pz_C dA d 90 [.ref a0] f Q = pz_R dA d 90 0 [.ref a0] [] f Q := rfl
theorem d90_0 : decode (pz_b 90) 0 = .ok (.aload_n 0, 1) := by decide +kernel
theorem q90_0 {dA : Nat → ClassId} {d : Nat} {st : List Value} {f : pz_F} {Q : Option Value → pz_F → Prop} {x : Nat} : pz_R dA d 90 0 [.ref x] st f Q = pz_R dA d 90 1 [.ref x] (.ref x :: st) f Q := pz_go (pz_so d90_0 rfl)
theorem d90_1 : decode (pz_b 90) 1 = .ok (.getfield 7, 3) := by decide +kernel
theorem q90_1 {dA : Nat → ClassId} {d : Nat} {st : List Value} {f : pz_F} {Q : Option Value → pz_F → Prop} {v0 : Value} {a : Nat} : pz_R dA d 90 1 [v0] (.ref a :: st) f Q = pz_o (pz_gf f a 6 1) (fun v => pz_R dA d 90 4 [v0] (v :: st) f Q) := pz_gg d90_1 rfl
theorem d90_4 : decode (pz_b 90) 4 = .ok (.ifCond .eq 25, 3) := by decide +kernel
theorem q90_4 {dA : Nat → ClassId} {d : Nat} {st : List Value} {f : pz_F} {Q : Option Value → pz_F → Prop} {v0 : Value} {x : Int32} : pz_R dA d 90 4 [v0] (.int x :: st) f Q = (if x = 0 then pz_R dA d 90 29 [v0] st f Q else pz_R dA d 90 7 [v0] st f Q) := pz_gj1 .eq d90_4 rfl
theorem d90_7 : decode (pz_b 90) 7 = .ok (.aload_n 0, 1) := by decide +kernel
theorem q90_7 {dA : Nat → ClassId} {d : Nat} {st : List Value} {f : pz_F} {Q : Option Value → pz_F → Prop} {x : Nat} : pz_R dA d 90 7 [.ref x] st f Q = pz_R dA d 90 8 [.ref x] (.ref x :: st) f Q := pz_go (pz_so d90_7 rfl)
theorem d90_8 : decode (pz_b 90) 8 = .ok (.getfield 13, 3) := by decide +kernel
theorem q90_8 {dA : Nat → ClassId} {d : Nat} {st : List Value} {f : pz_F} {Q : Option Value → pz_F → Prop} {v0 : Value} {a : Nat} : pz_R dA d 90 8 [v0] (.ref a :: st) f Q = pz_o (pz_gf f a 6 2) (fun v => pz_R dA d 90 11 [v0] (v :: st) f Q) := pz_gg d90_8 rfl
theorem d90_11 : decode (pz_b 90) 11 = .ok (.iconst 0, 1) := by decide +kernel
theorem q90_11 {dA : Nat → ClassId} {d : Nat} {st : List Value} {f : pz_F} {Q : Option Value → pz_F → Prop} {v0 : Value} : pz_R dA d 90 11 [v0] st f Q = pz_R dA d 90 12 [v0] (.int 0 :: st) f Q := pz_go (pz_so d90_11 rfl)
theorem d90_12 : decode (pz_b 90) 12 = .ok (.iaload, 1) := by decide +kernel
theorem q90_12 {dA : Nat → ClassId} {d : Nat} {st : List Value} {f : pz_F} {Q : Option Value → pz_F → Prop} {v0 : Value} {i : Int32} {a : Nat} : pz_R dA d 90 12 [v0] (.int i :: .ref a :: st) f Q = pz_o (pz_il (dA 0) f a i) (fun x => pz_R dA d 90 13 [v0] (.int x :: st) f Q) := pz_gil d90_12
theorem d90_13 : decode (pz_b 90) 13 = .ok (.ifCond .eq 16, 3) := by decide +kernel
theorem q90_13 {dA : Nat → ClassId} {d : Nat} {st : List Value} {f : pz_F} {Q : Option Value → pz_F → Prop} {v0 : Value} {x : Int32} : pz_R dA d 90 13 [v0] (.int x :: st) f Q = (if x = 0 then pz_R dA d 90 29 [v0] st f Q else pz_R dA d 90 16 [v0] st f Q) := pz_gj1 .eq d90_13 rfl
theorem d90_16 : decode (pz_b 90) 16 = .ok (.aload_n 0, 1) := by decide +kernel
theorem q90_16 {dA : Nat → ClassId} {d : Nat} {st : List Value} {f : pz_F} {Q : Option Value → pz_F → Prop} {x : Nat} : pz_R dA d 90 16 [.ref x] st f Q = pz_R dA d 90 17 [.ref x] (.ref x :: st) f Q := pz_go (pz_so d90_16 rfl)
theorem d90_17 : decode (pz_b 90) 17 = .ok (.getfield 13, 3) := by decide +kernel
theorem q90_17 {dA : Nat → ClassId} {d : Nat} {st : List Value} {f : pz_F} {Q : Option Value → pz_F → Prop} {v0 : Value} {a : Nat} : pz_R dA d 90 17 [v0] (.ref a :: st) f Q = pz_o (pz_gf f a 6 2) (fun v => pz_R dA d 90 20 [v0] (v :: st) f Q) := pz_gg d90_17 rfl
theorem d90_20 : decode (pz_b 90) 20 = .ok (.iconst 1, 1) := by decide +kernel
theorem q90_20 {dA : Nat → ClassId} {d : Nat} {st : List Value} {f : pz_F} {Q : Option Value → pz_F → Prop} {v0 : Value} : pz_R dA d 90 20 [v0] st f Q = pz_R dA d 90 21 [v0] (.int 1 :: st) f Q := pz_go (pz_so d90_20 rfl)
theorem d90_21 : decode (pz_b 90) 21 = .ok (.iaload, 1) := by decide +kernel
theorem q90_21 {dA : Nat → ClassId} {d : Nat} {st : List Value} {f : pz_F} {Q : Option Value → pz_F → Prop} {v0 : Value} {i : Int32} {a : Nat} : pz_R dA d 90 21 [v0] (.int i :: .ref a :: st) f Q = pz_o (pz_il (dA 0) f a i) (fun x => pz_R dA d 90 22 [v0] (.int x :: st) f Q) := pz_gil d90_21
theorem d90_22 : decode (pz_b 90) 22 = .ok (.ifCond .eq 7, 3) := by decide +kernel
theorem q90_22 {dA : Nat → ClassId} {d : Nat} {st : List Value} {f : pz_F} {Q : Option Value → pz_F → Prop} {v0 : Value} {x : Int32} : pz_R dA d 90 22 [v0] (.int x :: st) f Q = (if x = 0 then pz_R dA d 90 29 [v0] st f Q else pz_R dA d 90 25 [v0] st f Q) := pz_gj1 .eq d90_22 rfl
theorem d90_25 : decode (pz_b 90) 25 = .ok (.iconst 1, 1) := by decide +kernel
theorem q90_25 {dA : Nat → ClassId} {d : Nat} {st : List Value} {f : pz_F} {Q : Option Value → pz_F → Prop} {v0 : Value} : pz_R dA d 90 25 [v0] st f Q = pz_R dA d 90 26 [v0] (.int 1 :: st) f Q := pz_go (pz_so d90_25 rfl)
theorem d90_26 : decode (pz_b 90) 26 = .ok (.goto 4, 3) := by decide +kernel
theorem q90_26 {dA : Nat → ClassId} {d : Nat} {st : List Value} {f : pz_F} {Q : Option Value → pz_F → Prop} {v0 : Value} : pz_R dA d 90 26 [v0] st f Q = pz_R dA d 90 30 [v0] st f Q := pz_go (pz_so d90_26 rfl)
theorem d90_29 : decode (pz_b 90) 29 = .ok (.iconst 0, 1) := by decide +kernel
theorem q90_29 {dA : Nat → ClassId} {d : Nat} {st : List Value} {f : pz_F} {Q : Option Value → pz_F → Prop} {v0 : Value} : pz_R dA d 90 29 [v0] st f Q = pz_R dA d 90 30 [v0] (.int 0 :: st) f Q := pz_go (pz_so d90_29 rfl)
theorem d90_30 : decode (pz_b 90) 30 = .ok (.ireturn, 1) := by decide +kernel
theorem q90_30z {dA : Nat → ClassId} {d : Nat} {f : pz_F} {Q : Option Value → pz_F → Prop} {v0 : Value} : pz_R dA d 90 30 [v0] [.int 0] f Q = Q (some (.int 0)) f := pz_gri d90_30 rfl rfl
theorem q90_30o {dA : Nat → ClassId} {d : Nat} {f : pz_F} {Q : Option Value → pz_F → Prop} {v0 : Value} : pz_R dA d 90 30 [v0] [.int 1] f Q = Q (some (.int 1)) f := pz_gri d90_30 rfl rfl
/-! X_runs (I)Z -/
theorem e91 {dA : Nat → ClassId} {d : Nat} {f : pz_F} {Q : Option Value → pz_F → Prop} {a0 : Nat} {a1 : Int32} : pz_C dA d 91 [.ref a0, .int a1] f Q = pz_R dA d 91 0 [.ref a0, .int a1] [] f Q := rfl
theorem d91_0 : decode (pz_b 91) 0 = .ok (.aload_n 0, 1) := by decide +kernel
theorem q91_0 {dA : Nat → ClassId} {d : Nat} {st : List Value} {f : pz_F} {Q : Option Value → pz_F → Prop} {v1 : Value} {x : Nat} : pz_R dA d 91 0 [.ref x, v1] st f Q = pz_R dA d 91 1 [.ref x, v1] (.ref x :: st) f Q := pz_go (pz_so d91_0 rfl)
theorem d91_1 : decode (pz_b 91) 1 = .ok (.getfield 29, 3) := by decide +kernel
theorem q91_1 {dA : Nat → ClassId} {d : Nat} {st : List Value} {f : pz_F} {Q : Option Value → pz_F → Prop} {v0 v1 : Value} {a : Nat} : pz_R dA d 91 1 [v0, v1] (.ref a :: st) f Q = pz_o (pz_gf f a 6 7) (fun v => pz_R dA d 91 4 [v0, v1] (v :: st) f Q) := pz_gg d91_1 rfl
theorem d91_4 : decode (pz_b 91) 4 = .ok (.iload_n 1, 1) := by decide +kernel
theorem q91_4 {dA : Nat → ClassId} {d : Nat} {st : List Value} {f : pz_F} {Q : Option Value → pz_F → Prop} {v0 : Value} {x : Int32} : pz_R dA d 91 4 [v0, .int x] st f Q = pz_R dA d 91 5 [v0, .int x] (.int x :: st) f Q := pz_go (pz_so d91_4 rfl)
theorem d91_5 : decode (pz_b 91) 5 = .ok (.iaload, 1) := by decide +kernel
theorem q91_5 {dA : Nat → ClassId} {d : Nat} {st : List Value} {f : pz_F} {Q : Option Value → pz_F → Prop} {v0 v1 : Value} {i : Int32} {a : Nat} : pz_R dA d 91 5 [v0, v1] (.int i :: .ref a :: st) f Q = pz_o (pz_il (dA 0) f a i) (fun x => pz_R dA d 91 6 [v0, v1] (.int x :: st) f Q) := pz_gil d91_5
theorem d91_6 : decode (pz_b 91) 6 = .ok (.iconst 1, 1) := by decide +kernel
theorem q91_6 {dA : Nat → ClassId} {d : Nat} {st : List Value} {f : pz_F} {Q : Option Value → pz_F → Prop} {v0 v1 : Value} : pz_R dA d 91 6 [v0, v1] st f Q = pz_R dA d 91 7 [v0, v1] (.int 1 :: st) f Q := pz_go (pz_so d91_6 rfl)
theorem d91_7 : decode (pz_b 91) 7 = .ok (.if_icmp .ne 20, 3) := by decide +kernel
theorem q91_7 {dA : Nat → ClassId} {d : Nat} {st : List Value} {f : pz_F} {Q : Option Value → pz_F → Prop} {v0 v1 : Value} {x y : Int32} : pz_R dA d 91 7 [v0, v1] (.int y :: .int x :: st) f Q = (if x = y then pz_R dA d 91 10 [v0, v1] st f Q else pz_R dA d 91 27 [v0, v1] st f Q) := pz_gjn .ne d91_7 rfl
theorem d91_10 : decode (pz_b 91) 10 = .ok (.aload_n 0, 1) := by decide +kernel
theorem q91_10 {dA : Nat → ClassId} {d : Nat} {st : List Value} {f : pz_F} {Q : Option Value → pz_F → Prop} {v1 : Value} {x : Nat} : pz_R dA d 91 10 [.ref x, v1] st f Q = pz_R dA d 91 11 [.ref x, v1] (.ref x :: st) f Q := pz_go (pz_so d91_10 rfl)
theorem d91_11 : decode (pz_b 91) 11 = .ok (.getfield 35, 3) := by decide +kernel
theorem q91_11 {dA : Nat → ClassId} {d : Nat} {st : List Value} {f : pz_F} {Q : Option Value → pz_F → Prop} {v0 v1 : Value} {a : Nat} : pz_R dA d 91 11 [v0, v1] (.ref a :: st) f Q = pz_o (pz_gf f a 6 9) (fun v => pz_R dA d 91 14 [v0, v1] (v :: st) f Q) := pz_gg d91_11 rfl
theorem d91_14 : decode (pz_b 91) 14 = .ok (.iload_n 1, 1) := by decide +kernel
theorem q91_14 {dA : Nat → ClassId} {d : Nat} {st : List Value} {f : pz_F} {Q : Option Value → pz_F → Prop} {v0 : Value} {x : Int32} : pz_R dA d 91 14 [v0, .int x] st f Q = pz_R dA d 91 15 [v0, .int x] (.int x :: st) f Q := pz_go (pz_so d91_14 rfl)
theorem d91_15 : decode (pz_b 91) 15 = .ok (.iaload, 1) := by decide +kernel
theorem q91_15 {dA : Nat → ClassId} {d : Nat} {st : List Value} {f : pz_F} {Q : Option Value → pz_F → Prop} {v0 v1 : Value} {i : Int32} {a : Nat} : pz_R dA d 91 15 [v0, v1] (.int i :: .ref a :: st) f Q = pz_o (pz_il (dA 0) f a i) (fun x => pz_R dA d 91 16 [v0, v1] (.int x :: st) f Q) := pz_gil d91_15
theorem d91_16 : decode (pz_b 91) 16 = .ok (.aload_n 0, 1) := by decide +kernel
theorem q91_16 {dA : Nat → ClassId} {d : Nat} {st : List Value} {f : pz_F} {Q : Option Value → pz_F → Prop} {v1 : Value} {x : Nat} : pz_R dA d 91 16 [.ref x, v1] st f Q = pz_R dA d 91 17 [.ref x, v1] (.ref x :: st) f Q := pz_go (pz_so d91_16 rfl)
theorem d91_17 : decode (pz_b 91) 17 = .ok (.getfield 78, 3) := by decide +kernel
theorem q91_17 {dA : Nat → ClassId} {d : Nat} {st : List Value} {f : pz_F} {Q : Option Value → pz_F → Prop} {v0 v1 : Value} {a : Nat} : pz_R dA d 91 17 [v0, v1] (.ref a :: st) f Q = pz_o (pz_gf f a 6 0) (fun v => pz_R dA d 91 20 [v0, v1] (v :: st) f Q) := pz_gg d91_17 rfl
theorem d91_20 : decode (pz_b 91) 20 = .ok (.if_icmp .lt 7, 3) := by decide +kernel
theorem q91_20 {dA : Nat → ClassId} {d : Nat} {st : List Value} {f : pz_F} {Q : Option Value → pz_F → Prop} {v0 v1 : Value} {x y : Int32} : pz_R dA d 91 20 [v0, v1] (.int y :: .int x :: st) f Q = (if x < y then pz_R dA d 91 27 [v0, v1] st f Q else pz_R dA d 91 23 [v0, v1] st f Q) := pz_gjn .lt d91_20 rfl
theorem d91_23 : decode (pz_b 91) 23 = .ok (.iconst 1, 1) := by decide +kernel
theorem q91_23 {dA : Nat → ClassId} {d : Nat} {st : List Value} {f : pz_F} {Q : Option Value → pz_F → Prop} {v0 v1 : Value} : pz_R dA d 91 23 [v0, v1] st f Q = pz_R dA d 91 24 [v0, v1] (.int 1 :: st) f Q := pz_go (pz_so d91_23 rfl)
theorem d91_24 : decode (pz_b 91) 24 = .ok (.goto 4, 3) := by decide +kernel
theorem q91_24 {dA : Nat → ClassId} {d : Nat} {st : List Value} {f : pz_F} {Q : Option Value → pz_F → Prop} {v0 v1 : Value} : pz_R dA d 91 24 [v0, v1] st f Q = pz_R dA d 91 28 [v0, v1] st f Q := pz_go (pz_so d91_24 rfl)
theorem d91_27 : decode (pz_b 91) 27 = .ok (.iconst 0, 1) := by decide +kernel
theorem q91_27 {dA : Nat → ClassId} {d : Nat} {st : List Value} {f : pz_F} {Q : Option Value → pz_F → Prop} {v0 v1 : Value} : pz_R dA d 91 27 [v0, v1] st f Q = pz_R dA d 91 28 [v0, v1] (.int 0 :: st) f Q := pz_go (pz_so d91_27 rfl)
theorem d91_28 : decode (pz_b 91) 28 = .ok (.ireturn, 1) := by decide +kernel
theorem q91_28z {dA : Nat → ClassId} {d : Nat} {f : pz_F} {Q : Option Value → pz_F → Prop} {v0 v1 : Value} : pz_R dA d 91 28 [v0, v1] [.int 0] f Q = Q (some (.int 0)) f := pz_gri d91_28 rfl rfl
theorem q91_28o {dA : Nat → ClassId} {d : Nat} {f : pz_F} {Q : Option Value → pz_F → Prop} {v0 v1 : Value} : pz_R dA d 91 28 [v0, v1] [.int 1] f Q = Q (some (.int 1)) f := pz_gri d91_28 rfl rfl
/-! X_most (II)I -/
theorem e92 {dA : Nat → ClassId} {d : Nat} {f : pz_F} {Q : Option Value → pz_F → Prop} {a0 : Int32} {a1 : Int32} : pz_C dA d 92 [.int a0, .int a1] f Q = pz_R dA d 92 0 [.int a0, .int a1] [] f Q := rfl
theorem d92_0 : decode (pz_b 92) 0 = .ok (.iload_n 0, 1) := by decide +kernel
theorem q92_0 {dA : Nat → ClassId} {d : Nat} {st : List Value} {f : pz_F} {Q : Option Value → pz_F → Prop} {v1 : Value} {x : Int32} : pz_R dA d 92 0 [.int x, v1] st f Q = pz_R dA d 92 1 [.int x, v1] (.int x :: st) f Q := pz_go (pz_so d92_0 rfl)
theorem d92_1 : decode (pz_b 92) 1 = .ok (.iload_n 1, 1) := by decide +kernel
theorem q92_1 {dA : Nat → ClassId} {d : Nat} {st : List Value} {f : pz_F} {Q : Option Value → pz_F → Prop} {v0 : Value} {x : Int32} : pz_R dA d 92 1 [v0, .int x] st f Q = pz_R dA d 92 2 [v0, .int x] (.int x :: st) f Q := pz_go (pz_so d92_1 rfl)
theorem d92_2 : decode (pz_b 92) 2 = .ok (.if_icmp .le 7, 3) := by decide +kernel
theorem q92_2 {dA : Nat → ClassId} {d : Nat} {st : List Value} {f : pz_F} {Q : Option Value → pz_F → Prop} {v0 v1 : Value} {x y : Int32} : pz_R dA d 92 2 [v0, v1] (.int y :: .int x :: st) f Q = (if x ≤ y then pz_R dA d 92 9 [v0, v1] st f Q else pz_R dA d 92 5 [v0, v1] st f Q) := pz_gjn .le d92_2 rfl
theorem d92_5 : decode (pz_b 92) 5 = .ok (.iload_n 0, 1) := by decide +kernel
theorem q92_5 {dA : Nat → ClassId} {d : Nat} {st : List Value} {f : pz_F} {Q : Option Value → pz_F → Prop} {v1 : Value} {x : Int32} : pz_R dA d 92 5 [.int x, v1] st f Q = pz_R dA d 92 6 [.int x, v1] (.int x :: st) f Q := pz_go (pz_so d92_5 rfl)
theorem d92_6 : decode (pz_b 92) 6 = .ok (.goto 4, 3) := by decide +kernel
theorem q92_6 {dA : Nat → ClassId} {d : Nat} {st : List Value} {f : pz_F} {Q : Option Value → pz_F → Prop} {v0 v1 : Value} : pz_R dA d 92 6 [v0, v1] st f Q = pz_R dA d 92 10 [v0, v1] st f Q := pz_go (pz_so d92_6 rfl)
theorem d92_9 : decode (pz_b 92) 9 = .ok (.iload_n 1, 1) := by decide +kernel
theorem q92_9 {dA : Nat → ClassId} {d : Nat} {st : List Value} {f : pz_F} {Q : Option Value → pz_F → Prop} {v0 : Value} {x : Int32} : pz_R dA d 92 9 [v0, .int x] st f Q = pz_R dA d 92 10 [v0, .int x] (.int x :: st) f Q := pz_go (pz_so d92_9 rfl)
theorem d92_10 : decode (pz_b 92) 10 = .ok (.ireturn, 1) := by decide +kernel
theorem q92_10 {dA : Nat → ClassId} {d : Nat} {f : pz_F} {Q : Option Value → pz_F → Prop} {v0 v1 : Value} {x : Int32} : pz_R dA d 92 10 [v0, v1] [.int x] f Q = Q (some (.int x)) f := pz_gri d92_10 rfl rfl
/-! X_least (II)I -/
theorem e93 {dA : Nat → ClassId} {d : Nat} {f : pz_F} {Q : Option Value → pz_F → Prop} {a0 : Int32} {a1 : Int32} : pz_C dA d 93 [.int a0, .int a1] f Q = pz_R dA d 93 0 [.int a0, .int a1] [] f Q := rfl
theorem d93_0 : decode (pz_b 93) 0 = .ok (.iload_n 0, 1) := by decide +kernel
theorem q93_0 {dA : Nat → ClassId} {d : Nat} {st : List Value} {f : pz_F} {Q : Option Value → pz_F → Prop} {v1 : Value} {x : Int32} : pz_R dA d 93 0 [.int x, v1] st f Q = pz_R dA d 93 1 [.int x, v1] (.int x :: st) f Q := pz_go (pz_so d93_0 rfl)
theorem d93_1 : decode (pz_b 93) 1 = .ok (.iload_n 1, 1) := by decide +kernel
theorem q93_1 {dA : Nat → ClassId} {d : Nat} {st : List Value} {f : pz_F} {Q : Option Value → pz_F → Prop} {v0 : Value} {x : Int32} : pz_R dA d 93 1 [v0, .int x] st f Q = pz_R dA d 93 2 [v0, .int x] (.int x :: st) f Q := pz_go (pz_so d93_1 rfl)
theorem d93_2 : decode (pz_b 93) 2 = .ok (.if_icmp .ge 7, 3) := by decide +kernel
theorem q93_2 {dA : Nat → ClassId} {d : Nat} {st : List Value} {f : pz_F} {Q : Option Value → pz_F → Prop} {v0 v1 : Value} {x y : Int32} : pz_R dA d 93 2 [v0, v1] (.int y :: .int x :: st) f Q = (if y ≤ x then pz_R dA d 93 9 [v0, v1] st f Q else pz_R dA d 93 5 [v0, v1] st f Q) := pz_gjn .ge d93_2 rfl
theorem d93_5 : decode (pz_b 93) 5 = .ok (.iload_n 0, 1) := by decide +kernel
theorem q93_5 {dA : Nat → ClassId} {d : Nat} {st : List Value} {f : pz_F} {Q : Option Value → pz_F → Prop} {v1 : Value} {x : Int32} : pz_R dA d 93 5 [.int x, v1] st f Q = pz_R dA d 93 6 [.int x, v1] (.int x :: st) f Q := pz_go (pz_so d93_5 rfl)
theorem d93_6 : decode (pz_b 93) 6 = .ok (.goto 4, 3) := by decide +kernel
theorem q93_6 {dA : Nat → ClassId} {d : Nat} {st : List Value} {f : pz_F} {Q : Option Value → pz_F → Prop} {v0 v1 : Value} : pz_R dA d 93 6 [v0, v1] st f Q = pz_R dA d 93 10 [v0, v1] st f Q := pz_go (pz_so d93_6 rfl)
theorem d93_9 : decode (pz_b 93) 9 = .ok (.iload_n 1, 1) := by decide +kernel
theorem q93_9 {dA : Nat → ClassId} {d : Nat} {st : List Value} {f : pz_F} {Q : Option Value → pz_F → Prop} {v0 : Value} {x : Int32} : pz_R dA d 93 9 [v0, .int x] st f Q = pz_R dA d 93 10 [v0, .int x] (.int x :: st) f Q := pz_go (pz_so d93_9 rfl)
theorem d93_10 : decode (pz_b 93) 10 = .ok (.ireturn, 1) := by decide +kernel
theorem q93_10 {dA : Nat → ClassId} {d : Nat} {f : pz_F} {Q : Option Value → pz_F → Prop} {v0 v1 : Value} {x : Int32} : pz_R dA d 93 10 [v0, v1] [.int x] f Q = Q (some (.int x)) f := pz_gri d93_10 rfl rfl
/-! X_begin (IIIII)V -/
theorem e94 {dA : Nat → ClassId} {d : Nat} {f : pz_F} {Q : Option Value → pz_F → Prop} {a0 : Nat} {a1 : Int32} {a2 : Int32} {a3 : Int32} {a4 : Int32} {a5 : Int32} : pz_C dA d 94 [.ref a0, .int a1, .int a2, .int a3, .int a4, .int a5] f Q = pz_R dA d 94 0 [.ref a0, .int a1, .int a2, .int a3, .int a4, .int a5, .retAddr 0] [] f Q := rfl
theorem d94_0 : decode (pz_b 94) 0 = .ok (.iconst 0, 1) := by decide +kernel
theorem q94_0 {dA : Nat → ClassId} {d : Nat} {st : List Value} {f : pz_F} {Q : Option Value → pz_F → Prop} {v0 v1 v2 v3 v4 v5 v6 : Value} : pz_R dA d 94 0 [v0, v1, v2, v3, v4, v5, v6] st f Q = pz_R dA d 94 1 [v0, v1, v2, v3, v4, v5, v6] (.int 0 :: st) f Q := pz_go (pz_so d94_0 rfl)
theorem d94_1 : decode (pz_b 94) 1 = .ok (.istore 6, 2) := by decide +kernel
theorem q94_1 {dA : Nat → ClassId} {d : Nat} {st : List Value} {f : pz_F} {Q : Option Value → pz_F → Prop} {v0 v1 v2 v3 v4 v5 v6 : Value} {x : Int32} : pz_R dA d 94 1 [v0, v1, v2, v3, v4, v5, v6] (.int x :: st) f Q = pz_R dA d 94 3 [v0, v1, v2, v3, v4, v5, .int x] st f Q := pz_go (pz_so d94_1 rfl)
theorem d94_3 : decode (pz_b 94) 3 = .ok (.iload 6, 2) := by decide +kernel
theorem q94_3 {dA : Nat → ClassId} {d : Nat} {st : List Value} {f : pz_F} {Q : Option Value → pz_F → Prop} {v0 v1 v2 v3 v4 v5 : Value} {x : Int32} : pz_R dA d 94 3 [v0, v1, v2, v3, v4, v5, .int x] st f Q = pz_R dA d 94 5 [v0, v1, v2, v3, v4, v5, .int x] (.int x :: st) f Q := pz_go (pz_so d94_3 rfl)
theorem d94_5 : decode (pz_b 94) 5 = .ok (.bipush 12, 2) := by decide +kernel
theorem q94_5 {dA : Nat → ClassId} {d : Nat} {st : List Value} {f : pz_F} {Q : Option Value → pz_F → Prop} {v0 v1 v2 v3 v4 v5 v6 : Value} : pz_R dA d 94 5 [v0, v1, v2, v3, v4, v5, v6] st f Q = pz_R dA d 94 7 [v0, v1, v2, v3, v4, v5, v6] (.int 12 :: st) f Q := pz_go (pz_so d94_5 rfl)
theorem d94_7 : decode (pz_b 94) 7 = .ok (.if_icmp .ge 17, 3) := by decide +kernel
theorem q94_7 {dA : Nat → ClassId} {d : Nat} {st : List Value} {f : pz_F} {Q : Option Value → pz_F → Prop} {v0 v1 v2 v3 v4 v5 v6 : Value} {x y : Int32} : pz_R dA d 94 7 [v0, v1, v2, v3, v4, v5, v6] (.int y :: .int x :: st) f Q = (if y ≤ x then pz_R dA d 94 24 [v0, v1, v2, v3, v4, v5, v6] st f Q else pz_R dA d 94 10 [v0, v1, v2, v3, v4, v5, v6] st f Q) := pz_gjn .ge d94_7 rfl
theorem d94_10 : decode (pz_b 94) 10 = .ok (.aload_n 0, 1) := by decide +kernel
theorem q94_10 {dA : Nat → ClassId} {d : Nat} {st : List Value} {f : pz_F} {Q : Option Value → pz_F → Prop} {v1 v2 v3 v4 v5 v6 : Value} {x : Nat} : pz_R dA d 94 10 [.ref x, v1, v2, v3, v4, v5, v6] st f Q = pz_R dA d 94 11 [.ref x, v1, v2, v3, v4, v5, v6] (.ref x :: st) f Q := pz_go (pz_so d94_10 rfl)
theorem d94_11 : decode (pz_b 94) 11 = .ok (.getfield 75, 3) := by decide +kernel
theorem q94_11 {dA : Nat → ClassId} {d : Nat} {st : List Value} {f : pz_F} {Q : Option Value → pz_F → Prop} {v0 v1 v2 v3 v4 v5 v6 : Value} {a : Nat} : pz_R dA d 94 11 [v0, v1, v2, v3, v4, v5, v6] (.ref a :: st) f Q = pz_o (pz_gf f a 6 23) (fun v => pz_R dA d 94 14 [v0, v1, v2, v3, v4, v5, v6] (v :: st) f Q) := pz_gg d94_11 rfl
theorem d94_14 : decode (pz_b 94) 14 = .ok (.iload 6, 2) := by decide +kernel
theorem q94_14 {dA : Nat → ClassId} {d : Nat} {st : List Value} {f : pz_F} {Q : Option Value → pz_F → Prop} {v0 v1 v2 v3 v4 v5 : Value} {x : Int32} : pz_R dA d 94 14 [v0, v1, v2, v3, v4, v5, .int x] st f Q = pz_R dA d 94 16 [v0, v1, v2, v3, v4, v5, .int x] (.int x :: st) f Q := pz_go (pz_so d94_14 rfl)
theorem d94_16 : decode (pz_b 94) 16 = .ok (.iconst 0, 1) := by decide +kernel
theorem q94_16 {dA : Nat → ClassId} {d : Nat} {st : List Value} {f : pz_F} {Q : Option Value → pz_F → Prop} {v0 v1 v2 v3 v4 v5 v6 : Value} : pz_R dA d 94 16 [v0, v1, v2, v3, v4, v5, v6] st f Q = pz_R dA d 94 17 [v0, v1, v2, v3, v4, v5, v6] (.int 0 :: st) f Q := pz_go (pz_so d94_16 rfl)
theorem d94_17 : decode (pz_b 94) 17 = .ok (.iastore, 1) := by decide +kernel
theorem q94_17 {dA : Nat → ClassId} {d : Nat} {st : List Value} {f : pz_F} {Q : Option Value → pz_F → Prop} {v0 v1 v2 v3 v4 v5 v6 : Value} {x i : Int32} {a : Nat} : pz_R dA d 94 17 [v0, v1, v2, v3, v4, v5, v6] (.int x :: .int i :: .ref a :: st) f Q = pz_o (pz_is (dA 0) f a i x) (fun f' => pz_R dA d 94 18 [v0, v1, v2, v3, v4, v5, v6] st f' Q) := pz_gis d94_17
theorem d94_18 : decode (pz_b 94) 18 = .ok (.iinc 6 1, 3) := by decide +kernel
theorem q94_18 {dA : Nat → ClassId} {d : Nat} {st : List Value} {f : pz_F} {Q : Option Value → pz_F → Prop} {v0 v1 v2 v3 v4 v5 : Value} {x : Int32} : pz_R dA d 94 18 [v0, v1, v2, v3, v4, v5, .int x] st f Q = pz_R dA d 94 21 [v0, v1, v2, v3, v4, v5, .int (x + 1)] st f Q := pz_go (pz_so d94_18 rfl)
theorem d94_21 : decode (pz_b 94) 21 = .ok (.goto (-18), 3) := by decide +kernel
theorem q94_21 {dA : Nat → ClassId} {d : Nat} {st : List Value} {f : pz_F} {Q : Option Value → pz_F → Prop} {v0 v1 v2 v3 v4 v5 v6 : Value} : pz_R dA d 94 21 [v0, v1, v2, v3, v4, v5, v6] st f Q = pz_R dA d 94 3 [v0, v1, v2, v3, v4, v5, v6] st f Q := pz_go (pz_so d94_21 rfl)
theorem d94_24 : decode (pz_b 94) 24 = .ok (.aload_n 0, 1) := by decide +kernel
theorem q94_24 {dA : Nat → ClassId} {d : Nat} {st : List Value} {f : pz_F} {Q : Option Value → pz_F → Prop} {v1 v2 v3 v4 v5 v6 : Value} {x : Nat} : pz_R dA d 94 24 [.ref x, v1, v2, v3, v4, v5, v6] st f Q = pz_R dA d 94 25 [.ref x, v1, v2, v3, v4, v5, v6] (.ref x :: st) f Q := pz_go (pz_so d94_24 rfl)
theorem d94_25 : decode (pz_b 94) 25 = .ok (.getfield 75, 3) := by decide +kernel
theorem q94_25 {dA : Nat → ClassId} {d : Nat} {st : List Value} {f : pz_F} {Q : Option Value → pz_F → Prop} {v0 v1 v2 v3 v4 v5 v6 : Value} {a : Nat} : pz_R dA d 94 25 [v0, v1, v2, v3, v4, v5, v6] (.ref a :: st) f Q = pz_o (pz_gf f a 6 23) (fun v => pz_R dA d 94 28 [v0, v1, v2, v3, v4, v5, v6] (v :: st) f Q) := pz_gg d94_25 rfl
theorem d94_28 : decode (pz_b 94) 28 = .ok (.iconst 0, 1) := by decide +kernel
theorem q94_28 {dA : Nat → ClassId} {d : Nat} {st : List Value} {f : pz_F} {Q : Option Value → pz_F → Prop} {v0 v1 v2 v3 v4 v5 v6 : Value} : pz_R dA d 94 28 [v0, v1, v2, v3, v4, v5, v6] st f Q = pz_R dA d 94 29 [v0, v1, v2, v3, v4, v5, v6] (.int 0 :: st) f Q := pz_go (pz_so d94_28 rfl)
theorem d94_29 : decode (pz_b 94) 29 = .ok (.iload_n 1, 1) := by decide +kernel
theorem q94_29 {dA : Nat → ClassId} {d : Nat} {st : List Value} {f : pz_F} {Q : Option Value → pz_F → Prop} {v0 v2 v3 v4 v5 v6 : Value} {x : Int32} : pz_R dA d 94 29 [v0, .int x, v2, v3, v4, v5, v6] st f Q = pz_R dA d 94 30 [v0, .int x, v2, v3, v4, v5, v6] (.int x :: st) f Q := pz_go (pz_so d94_29 rfl)
theorem d94_30 : decode (pz_b 94) 30 = .ok (.iastore, 1) := by decide +kernel
theorem q94_30 {dA : Nat → ClassId} {d : Nat} {st : List Value} {f : pz_F} {Q : Option Value → pz_F → Prop} {v0 v1 v2 v3 v4 v5 v6 : Value} {x i : Int32} {a : Nat} : pz_R dA d 94 30 [v0, v1, v2, v3, v4, v5, v6] (.int x :: .int i :: .ref a :: st) f Q = pz_o (pz_is (dA 0) f a i x) (fun f' => pz_R dA d 94 31 [v0, v1, v2, v3, v4, v5, v6] st f' Q) := pz_gis d94_30
theorem d94_31 : decode (pz_b 94) 31 = .ok (.aload_n 0, 1) := by decide +kernel
theorem q94_31 {dA : Nat → ClassId} {d : Nat} {st : List Value} {f : pz_F} {Q : Option Value → pz_F → Prop} {v1 v2 v3 v4 v5 v6 : Value} {x : Nat} : pz_R dA d 94 31 [.ref x, v1, v2, v3, v4, v5, v6] st f Q = pz_R dA d 94 32 [.ref x, v1, v2, v3, v4, v5, v6] (.ref x :: st) f Q := pz_go (pz_so d94_31 rfl)
theorem d94_32 : decode (pz_b 94) 32 = .ok (.getfield 75, 3) := by decide +kernel
theorem q94_32 {dA : Nat → ClassId} {d : Nat} {st : List Value} {f : pz_F} {Q : Option Value → pz_F → Prop} {v0 v1 v2 v3 v4 v5 v6 : Value} {a : Nat} : pz_R dA d 94 32 [v0, v1, v2, v3, v4, v5, v6] (.ref a :: st) f Q = pz_o (pz_gf f a 6 23) (fun v => pz_R dA d 94 35 [v0, v1, v2, v3, v4, v5, v6] (v :: st) f Q) := pz_gg d94_32 rfl
theorem d94_35 : decode (pz_b 94) 35 = .ok (.iconst 1, 1) := by decide +kernel
theorem q94_35 {dA : Nat → ClassId} {d : Nat} {st : List Value} {f : pz_F} {Q : Option Value → pz_F → Prop} {v0 v1 v2 v3 v4 v5 v6 : Value} : pz_R dA d 94 35 [v0, v1, v2, v3, v4, v5, v6] st f Q = pz_R dA d 94 36 [v0, v1, v2, v3, v4, v5, v6] (.int 1 :: st) f Q := pz_go (pz_so d94_35 rfl)
theorem d94_36 : decode (pz_b 94) 36 = .ok (.iload_n 2, 1) := by decide +kernel
theorem q94_36 {dA : Nat → ClassId} {d : Nat} {st : List Value} {f : pz_F} {Q : Option Value → pz_F → Prop} {v0 v1 v3 v4 v5 v6 : Value} {x : Int32} : pz_R dA d 94 36 [v0, v1, .int x, v3, v4, v5, v6] st f Q = pz_R dA d 94 37 [v0, v1, .int x, v3, v4, v5, v6] (.int x :: st) f Q := pz_go (pz_so d94_36 rfl)
theorem d94_37 : decode (pz_b 94) 37 = .ok (.iastore, 1) := by decide +kernel
theorem q94_37 {dA : Nat → ClassId} {d : Nat} {st : List Value} {f : pz_F} {Q : Option Value → pz_F → Prop} {v0 v1 v2 v3 v4 v5 v6 : Value} {x i : Int32} {a : Nat} : pz_R dA d 94 37 [v0, v1, v2, v3, v4, v5, v6] (.int x :: .int i :: .ref a :: st) f Q = pz_o (pz_is (dA 0) f a i x) (fun f' => pz_R dA d 94 38 [v0, v1, v2, v3, v4, v5, v6] st f' Q) := pz_gis d94_37
theorem d94_38 : decode (pz_b 94) 38 = .ok (.aload_n 0, 1) := by decide +kernel
theorem q94_38 {dA : Nat → ClassId} {d : Nat} {st : List Value} {f : pz_F} {Q : Option Value → pz_F → Prop} {v1 v2 v3 v4 v5 v6 : Value} {x : Nat} : pz_R dA d 94 38 [.ref x, v1, v2, v3, v4, v5, v6] st f Q = pz_R dA d 94 39 [.ref x, v1, v2, v3, v4, v5, v6] (.ref x :: st) f Q := pz_go (pz_so d94_38 rfl)
theorem d94_39 : decode (pz_b 94) 39 = .ok (.getfield 75, 3) := by decide +kernel
theorem q94_39 {dA : Nat → ClassId} {d : Nat} {st : List Value} {f : pz_F} {Q : Option Value → pz_F → Prop} {v0 v1 v2 v3 v4 v5 v6 : Value} {a : Nat} : pz_R dA d 94 39 [v0, v1, v2, v3, v4, v5, v6] (.ref a :: st) f Q = pz_o (pz_gf f a 6 23) (fun v => pz_R dA d 94 42 [v0, v1, v2, v3, v4, v5, v6] (v :: st) f Q) := pz_gg d94_39 rfl
theorem d94_42 : decode (pz_b 94) 42 = .ok (.iconst 2, 1) := by decide +kernel
theorem q94_42 {dA : Nat → ClassId} {d : Nat} {st : List Value} {f : pz_F} {Q : Option Value → pz_F → Prop} {v0 v1 v2 v3 v4 v5 v6 : Value} : pz_R dA d 94 42 [v0, v1, v2, v3, v4, v5, v6] st f Q = pz_R dA d 94 43 [v0, v1, v2, v3, v4, v5, v6] (.int 2 :: st) f Q := pz_go (pz_so d94_42 rfl)
theorem d94_43 : decode (pz_b 94) 43 = .ok (.iload_n 3, 1) := by decide +kernel
theorem q94_43 {dA : Nat → ClassId} {d : Nat} {st : List Value} {f : pz_F} {Q : Option Value → pz_F → Prop} {v0 v1 v2 v4 v5 v6 : Value} {x : Int32} : pz_R dA d 94 43 [v0, v1, v2, .int x, v4, v5, v6] st f Q = pz_R dA d 94 44 [v0, v1, v2, .int x, v4, v5, v6] (.int x :: st) f Q := pz_go (pz_so d94_43 rfl)
theorem d94_44 : decode (pz_b 94) 44 = .ok (.iastore, 1) := by decide +kernel
theorem q94_44 {dA : Nat → ClassId} {d : Nat} {st : List Value} {f : pz_F} {Q : Option Value → pz_F → Prop} {v0 v1 v2 v3 v4 v5 v6 : Value} {x i : Int32} {a : Nat} : pz_R dA d 94 44 [v0, v1, v2, v3, v4, v5, v6] (.int x :: .int i :: .ref a :: st) f Q = pz_o (pz_is (dA 0) f a i x) (fun f' => pz_R dA d 94 45 [v0, v1, v2, v3, v4, v5, v6] st f' Q) := pz_gis d94_44
theorem d94_45 : decode (pz_b 94) 45 = .ok (.aload_n 0, 1) := by decide +kernel
theorem q94_45 {dA : Nat → ClassId} {d : Nat} {st : List Value} {f : pz_F} {Q : Option Value → pz_F → Prop} {v1 v2 v3 v4 v5 v6 : Value} {x : Nat} : pz_R dA d 94 45 [.ref x, v1, v2, v3, v4, v5, v6] st f Q = pz_R dA d 94 46 [.ref x, v1, v2, v3, v4, v5, v6] (.ref x :: st) f Q := pz_go (pz_so d94_45 rfl)
theorem d94_46 : decode (pz_b 94) 46 = .ok (.getfield 75, 3) := by decide +kernel
theorem q94_46 {dA : Nat → ClassId} {d : Nat} {st : List Value} {f : pz_F} {Q : Option Value → pz_F → Prop} {v0 v1 v2 v3 v4 v5 v6 : Value} {a : Nat} : pz_R dA d 94 46 [v0, v1, v2, v3, v4, v5, v6] (.ref a :: st) f Q = pz_o (pz_gf f a 6 23) (fun v => pz_R dA d 94 49 [v0, v1, v2, v3, v4, v5, v6] (v :: st) f Q) := pz_gg d94_46 rfl
theorem d94_49 : decode (pz_b 94) 49 = .ok (.iconst 3, 1) := by decide +kernel
theorem q94_49 {dA : Nat → ClassId} {d : Nat} {st : List Value} {f : pz_F} {Q : Option Value → pz_F → Prop} {v0 v1 v2 v3 v4 v5 v6 : Value} : pz_R dA d 94 49 [v0, v1, v2, v3, v4, v5, v6] st f Q = pz_R dA d 94 50 [v0, v1, v2, v3, v4, v5, v6] (.int 3 :: st) f Q := pz_go (pz_so d94_49 rfl)
theorem d94_50 : decode (pz_b 94) 50 = .ok (.iload 4, 2) := by decide +kernel
theorem q94_50 {dA : Nat → ClassId} {d : Nat} {st : List Value} {f : pz_F} {Q : Option Value → pz_F → Prop} {v0 v1 v2 v3 v5 v6 : Value} {x : Int32} : pz_R dA d 94 50 [v0, v1, v2, v3, .int x, v5, v6] st f Q = pz_R dA d 94 52 [v0, v1, v2, v3, .int x, v5, v6] (.int x :: st) f Q := pz_go (pz_so d94_50 rfl)
theorem d94_52 : decode (pz_b 94) 52 = .ok (.iastore, 1) := by decide +kernel
theorem q94_52 {dA : Nat → ClassId} {d : Nat} {st : List Value} {f : pz_F} {Q : Option Value → pz_F → Prop} {v0 v1 v2 v3 v4 v5 v6 : Value} {x i : Int32} {a : Nat} : pz_R dA d 94 52 [v0, v1, v2, v3, v4, v5, v6] (.int x :: .int i :: .ref a :: st) f Q = pz_o (pz_is (dA 0) f a i x) (fun f' => pz_R dA d 94 53 [v0, v1, v2, v3, v4, v5, v6] st f' Q) := pz_gis d94_52
theorem d94_53 : decode (pz_b 94) 53 = .ok (.aload_n 0, 1) := by decide +kernel
theorem q94_53 {dA : Nat → ClassId} {d : Nat} {st : List Value} {f : pz_F} {Q : Option Value → pz_F → Prop} {v1 v2 v3 v4 v5 v6 : Value} {x : Nat} : pz_R dA d 94 53 [.ref x, v1, v2, v3, v4, v5, v6] st f Q = pz_R dA d 94 54 [.ref x, v1, v2, v3, v4, v5, v6] (.ref x :: st) f Q := pz_go (pz_so d94_53 rfl)
theorem d94_54 : decode (pz_b 94) 54 = .ok (.getfield 75, 3) := by decide +kernel
theorem q94_54 {dA : Nat → ClassId} {d : Nat} {st : List Value} {f : pz_F} {Q : Option Value → pz_F → Prop} {v0 v1 v2 v3 v4 v5 v6 : Value} {a : Nat} : pz_R dA d 94 54 [v0, v1, v2, v3, v4, v5, v6] (.ref a :: st) f Q = pz_o (pz_gf f a 6 23) (fun v => pz_R dA d 94 57 [v0, v1, v2, v3, v4, v5, v6] (v :: st) f Q) := pz_gg d94_54 rfl
theorem d94_57 : decode (pz_b 94) 57 = .ok (.iconst 4, 1) := by decide +kernel
theorem q94_57 {dA : Nat → ClassId} {d : Nat} {st : List Value} {f : pz_F} {Q : Option Value → pz_F → Prop} {v0 v1 v2 v3 v4 v5 v6 : Value} : pz_R dA d 94 57 [v0, v1, v2, v3, v4, v5, v6] st f Q = pz_R dA d 94 58 [v0, v1, v2, v3, v4, v5, v6] (.int 4 :: st) f Q := pz_go (pz_so d94_57 rfl)
theorem d94_58 : decode (pz_b 94) 58 = .ok (.iload 5, 2) := by decide +kernel
theorem q94_58 {dA : Nat → ClassId} {d : Nat} {st : List Value} {f : pz_F} {Q : Option Value → pz_F → Prop} {v0 v1 v2 v3 v4 v6 : Value} {x : Int32} : pz_R dA d 94 58 [v0, v1, v2, v3, v4, .int x, v6] st f Q = pz_R dA d 94 60 [v0, v1, v2, v3, v4, .int x, v6] (.int x :: st) f Q := pz_go (pz_so d94_58 rfl)
theorem d94_60 : decode (pz_b 94) 60 = .ok (.iastore, 1) := by decide +kernel
theorem q94_60 {dA : Nat → ClassId} {d : Nat} {st : List Value} {f : pz_F} {Q : Option Value → pz_F → Prop} {v0 v1 v2 v3 v4 v5 v6 : Value} {x i : Int32} {a : Nat} : pz_R dA d 94 60 [v0, v1, v2, v3, v4, v5, v6] (.int x :: .int i :: .ref a :: st) f Q = pz_o (pz_is (dA 0) f a i x) (fun f' => pz_R dA d 94 61 [v0, v1, v2, v3, v4, v5, v6] st f' Q) := pz_gis d94_60
theorem d94_61 : decode (pz_b 94) 61 = .ok (.aload_n 0, 1) := by decide +kernel
theorem q94_61 {dA : Nat → ClassId} {d : Nat} {st : List Value} {f : pz_F} {Q : Option Value → pz_F → Prop} {v1 v2 v3 v4 v5 v6 : Value} {x : Nat} : pz_R dA d 94 61 [.ref x, v1, v2, v3, v4, v5, v6] st f Q = pz_R dA d 94 62 [.ref x, v1, v2, v3, v4, v5, v6] (.ref x :: st) f Q := pz_go (pz_so d94_61 rfl)
theorem d94_62 : decode (pz_b 94) 62 = .ok (.getfield 75, 3) := by decide +kernel
theorem q94_62 {dA : Nat → ClassId} {d : Nat} {st : List Value} {f : pz_F} {Q : Option Value → pz_F → Prop} {v0 v1 v2 v3 v4 v5 v6 : Value} {a : Nat} : pz_R dA d 94 62 [v0, v1, v2, v3, v4, v5, v6] (.ref a :: st) f Q = pz_o (pz_gf f a 6 23) (fun v => pz_R dA d 94 65 [v0, v1, v2, v3, v4, v5, v6] (v :: st) f Q) := pz_gg d94_62 rfl
theorem d94_65 : decode (pz_b 94) 65 = .ok (.iconst 5, 1) := by decide +kernel
theorem q94_65 {dA : Nat → ClassId} {d : Nat} {st : List Value} {f : pz_F} {Q : Option Value → pz_F → Prop} {v0 v1 v2 v3 v4 v5 v6 : Value} : pz_R dA d 94 65 [v0, v1, v2, v3, v4, v5, v6] st f Q = pz_R dA d 94 66 [v0, v1, v2, v3, v4, v5, v6] (.int 5 :: st) f Q := pz_go (pz_so d94_65 rfl)
theorem d94_66 : decode (pz_b 94) 66 = .ok (.aload_n 0, 1) := by decide +kernel
theorem q94_66 {dA : Nat → ClassId} {d : Nat} {st : List Value} {f : pz_F} {Q : Option Value → pz_F → Prop} {v1 v2 v3 v4 v5 v6 : Value} {x : Nat} : pz_R dA d 94 66 [.ref x, v1, v2, v3, v4, v5, v6] st f Q = pz_R dA d 94 67 [.ref x, v1, v2, v3, v4, v5, v6] (.ref x :: st) f Q := pz_go (pz_so d94_66 rfl)
theorem d94_67 : decode (pz_b 94) 67 = .ok (.getfield 78, 3) := by decide +kernel
theorem q94_67 {dA : Nat → ClassId} {d : Nat} {st : List Value} {f : pz_F} {Q : Option Value → pz_F → Prop} {v0 v1 v2 v3 v4 v5 v6 : Value} {a : Nat} : pz_R dA d 94 67 [v0, v1, v2, v3, v4, v5, v6] (.ref a :: st) f Q = pz_o (pz_gf f a 6 0) (fun v => pz_R dA d 94 70 [v0, v1, v2, v3, v4, v5, v6] (v :: st) f Q) := pz_gg d94_67 rfl
theorem d94_70 : decode (pz_b 94) 70 = .ok (.iastore, 1) := by decide +kernel
theorem q94_70 {dA : Nat → ClassId} {d : Nat} {st : List Value} {f : pz_F} {Q : Option Value → pz_F → Prop} {v0 v1 v2 v3 v4 v5 v6 : Value} {x i : Int32} {a : Nat} : pz_R dA d 94 70 [v0, v1, v2, v3, v4, v5, v6] (.int x :: .int i :: .ref a :: st) f Q = pz_o (pz_is (dA 0) f a i x) (fun f' => pz_R dA d 94 71 [v0, v1, v2, v3, v4, v5, v6] st f' Q) := pz_gis d94_70
theorem d94_71 : decode (pz_b 94) 71 = .ok (.return_, 1) := by decide +kernel
theorem q94_71 {dA : Nat → ClassId} {d : Nat} {f : pz_F} {Q : Option Value → pz_F → Prop} {v0 v1 v2 v3 v4 v5 v6 : Value} : pz_R dA d 94 71 [v0, v1, v2, v3, v4, v5, v6] [] f Q = Q none f := pz_gr (pz_so d94_71 rfl)
/-! X_post ()V -/
theorem e95 {dA : Nat → ClassId} {d : Nat} {f : pz_F} {Q : Option Value → pz_F → Prop} {a0 : Nat} : pz_C dA d 95 [.ref a0] f Q = pz_R dA d 95 0 [.ref a0, .retAddr 0] [] f Q := rfl
theorem d95_0 : decode (pz_b 95) 0 = .ok (.aload_n 0, 1) := by decide +kernel
theorem q95_0 {dA : Nat → ClassId} {d : Nat} {st : List Value} {f : pz_F} {Q : Option Value → pz_F → Prop} {v1 : Value} {x : Nat} : pz_R dA d 95 0 [.ref x, v1] st f Q = pz_R dA d 95 1 [.ref x, v1] (.ref x :: st) f Q := pz_go (pz_so d95_0 rfl)
theorem d95_1 : decode (pz_b 95) 1 = .ok (.getfield 82, 3) := by decide +kernel
theorem q95_1 {dA : Nat → ClassId} {d : Nat} {st : List Value} {f : pz_F} {Q : Option Value → pz_F → Prop} {v0 v1 : Value} {a : Nat} : pz_R dA d 95 1 [v0, v1] (.ref a :: st) f Q = pz_o (pz_gf f a 6 20) (fun v => pz_R dA d 95 4 [v0, v1] (v :: st) f Q) := pz_gg d95_1 rfl
theorem d95_4 : decode (pz_b 95) 4 = .ok (.bipush 24, 2) := by decide +kernel
theorem q95_4 {dA : Nat → ClassId} {d : Nat} {st : List Value} {f : pz_F} {Q : Option Value → pz_F → Prop} {v0 v1 : Value} : pz_R dA d 95 4 [v0, v1] st f Q = pz_R dA d 95 6 [v0, v1] (.int 24 :: st) f Q := pz_go (pz_so d95_4 rfl)
theorem d95_6 : decode (pz_b 95) 6 = .ok (.if_icmp .ne 4, 3) := by decide +kernel
theorem q95_6 {dA : Nat → ClassId} {d : Nat} {st : List Value} {f : pz_F} {Q : Option Value → pz_F → Prop} {v0 v1 : Value} {x y : Int32} : pz_R dA d 95 6 [v0, v1] (.int y :: .int x :: st) f Q = (if x = y then pz_R dA d 95 9 [v0, v1] st f Q else pz_R dA d 95 10 [v0, v1] st f Q) := pz_gjn .ne d95_6 rfl
theorem d95_9 : decode (pz_b 95) 9 = .ok (.return_, 1) := by decide +kernel
theorem q95_9 {dA : Nat → ClassId} {d : Nat} {f : pz_F} {Q : Option Value → pz_F → Prop} {v0 v1 : Value} : pz_R dA d 95 9 [v0, v1] [] f Q = Q none f := pz_gr (pz_so d95_9 rfl)
theorem d95_10 : decode (pz_b 95) 10 = .ok (.iconst 0, 1) := by decide +kernel
theorem q95_10 {dA : Nat → ClassId} {d : Nat} {st : List Value} {f : pz_F} {Q : Option Value → pz_F → Prop} {v0 v1 : Value} : pz_R dA d 95 10 [v0, v1] st f Q = pz_R dA d 95 11 [v0, v1] (.int 0 :: st) f Q := pz_go (pz_so d95_10 rfl)
theorem d95_11 : decode (pz_b 95) 11 = .ok (.istore_n 1, 1) := by decide +kernel
theorem q95_11 {dA : Nat → ClassId} {d : Nat} {st : List Value} {f : pz_F} {Q : Option Value → pz_F → Prop} {v0 v1 : Value} {x : Int32} : pz_R dA d 95 11 [v0, v1] (.int x :: st) f Q = pz_R dA d 95 12 [v0, .int x] st f Q := pz_go (pz_so d95_11 rfl)
theorem d95_12 : decode (pz_b 95) 12 = .ok (.iload_n 1, 1) := by decide +kernel
theorem q95_12 {dA : Nat → ClassId} {d : Nat} {st : List Value} {f : pz_F} {Q : Option Value → pz_F → Prop} {v0 : Value} {x : Int32} : pz_R dA d 95 12 [v0, .int x] st f Q = pz_R dA d 95 13 [v0, .int x] (.int x :: st) f Q := pz_go (pz_so d95_12 rfl)
theorem d95_13 : decode (pz_b 95) 13 = .ok (.bipush 12, 2) := by decide +kernel
theorem q95_13 {dA : Nat → ClassId} {d : Nat} {st : List Value} {f : pz_F} {Q : Option Value → pz_F → Prop} {v0 v1 : Value} : pz_R dA d 95 13 [v0, v1] st f Q = pz_R dA d 95 15 [v0, v1] (.int 12 :: st) f Q := pz_go (pz_so d95_13 rfl)
theorem d95_15 : decode (pz_b 95) 15 = .ok (.if_icmp .ge 29, 3) := by decide +kernel
theorem q95_15 {dA : Nat → ClassId} {d : Nat} {st : List Value} {f : pz_F} {Q : Option Value → pz_F → Prop} {v0 v1 : Value} {x y : Int32} : pz_R dA d 95 15 [v0, v1] (.int y :: .int x :: st) f Q = (if y ≤ x then pz_R dA d 95 44 [v0, v1] st f Q else pz_R dA d 95 18 [v0, v1] st f Q) := pz_gjn .ge d95_15 rfl
theorem d95_18 : decode (pz_b 95) 18 = .ok (.aload_n 0, 1) := by decide +kernel
theorem q95_18 {dA : Nat → ClassId} {d : Nat} {st : List Value} {f : pz_F} {Q : Option Value → pz_F → Prop} {v1 : Value} {x : Nat} : pz_R dA d 95 18 [.ref x, v1] st f Q = pz_R dA d 95 19 [.ref x, v1] (.ref x :: st) f Q := pz_go (pz_so d95_18 rfl)
theorem d95_19 : decode (pz_b 95) 19 = .ok (.getfield 69, 3) := by decide +kernel
theorem q95_19 {dA : Nat → ClassId} {d : Nat} {st : List Value} {f : pz_F} {Q : Option Value → pz_F → Prop} {v0 v1 : Value} {a : Nat} : pz_R dA d 95 19 [v0, v1] (.ref a :: st) f Q = pz_o (pz_gf f a 6 21) (fun v => pz_R dA d 95 22 [v0, v1] (v :: st) f Q) := pz_gg d95_19 rfl
theorem d95_22 : decode (pz_b 95) 22 = .ok (.bipush 12, 2) := by decide +kernel
theorem q95_22 {dA : Nat → ClassId} {d : Nat} {st : List Value} {f : pz_F} {Q : Option Value → pz_F → Prop} {v0 v1 : Value} : pz_R dA d 95 22 [v0, v1] st f Q = pz_R dA d 95 24 [v0, v1] (.int 12 :: st) f Q := pz_go (pz_so d95_22 rfl)
theorem d95_24 : decode (pz_b 95) 24 = .ok (.aload_n 0, 1) := by decide +kernel
theorem q95_24 {dA : Nat → ClassId} {d : Nat} {st : List Value} {f : pz_F} {Q : Option Value → pz_F → Prop} {v1 : Value} {x : Nat} : pz_R dA d 95 24 [.ref x, v1] st f Q = pz_R dA d 95 25 [.ref x, v1] (.ref x :: st) f Q := pz_go (pz_so d95_24 rfl)
theorem d95_25 : decode (pz_b 95) 25 = .ok (.getfield 82, 3) := by decide +kernel
theorem q95_25 {dA : Nat → ClassId} {d : Nat} {st : List Value} {f : pz_F} {Q : Option Value → pz_F → Prop} {v0 v1 : Value} {a : Nat} : pz_R dA d 95 25 [v0, v1] (.ref a :: st) f Q = pz_o (pz_gf f a 6 20) (fun v => pz_R dA d 95 28 [v0, v1] (v :: st) f Q) := pz_gg d95_25 rfl
theorem d95_28 : decode (pz_b 95) 28 = .ok (.imul, 1) := by decide +kernel
theorem q95_28 {dA : Nat → ClassId} {d : Nat} {st : List Value} {f : pz_F} {Q : Option Value → pz_F → Prop} {v0 v1 : Value} {x y : Int32} : pz_R dA d 95 28 [v0, v1] (.int y :: .int x :: st) f Q = pz_R dA d 95 29 [v0, v1] (.int (x * y) :: st) f Q := pz_go (pz_so d95_28 rfl)
theorem d95_29 : decode (pz_b 95) 29 = .ok (.iload_n 1, 1) := by decide +kernel
theorem q95_29 {dA : Nat → ClassId} {d : Nat} {st : List Value} {f : pz_F} {Q : Option Value → pz_F → Prop} {v0 : Value} {x : Int32} : pz_R dA d 95 29 [v0, .int x] st f Q = pz_R dA d 95 30 [v0, .int x] (.int x :: st) f Q := pz_go (pz_so d95_29 rfl)
theorem d95_30 : decode (pz_b 95) 30 = .ok (.iadd, 1) := by decide +kernel
theorem q95_30 {dA : Nat → ClassId} {d : Nat} {st : List Value} {f : pz_F} {Q : Option Value → pz_F → Prop} {v0 v1 : Value} {x y : Int32} : pz_R dA d 95 30 [v0, v1] (.int y :: .int x :: st) f Q = pz_R dA d 95 31 [v0, v1] (.int (x + y) :: st) f Q := pz_go (pz_so d95_30 rfl)
theorem d95_31 : decode (pz_b 95) 31 = .ok (.aload_n 0, 1) := by decide +kernel
theorem q95_31 {dA : Nat → ClassId} {d : Nat} {st : List Value} {f : pz_F} {Q : Option Value → pz_F → Prop} {v1 : Value} {x : Nat} : pz_R dA d 95 31 [.ref x, v1] st f Q = pz_R dA d 95 32 [.ref x, v1] (.ref x :: st) f Q := pz_go (pz_so d95_31 rfl)
theorem d95_32 : decode (pz_b 95) 32 = .ok (.getfield 75, 3) := by decide +kernel
theorem q95_32 {dA : Nat → ClassId} {d : Nat} {st : List Value} {f : pz_F} {Q : Option Value → pz_F → Prop} {v0 v1 : Value} {a : Nat} : pz_R dA d 95 32 [v0, v1] (.ref a :: st) f Q = pz_o (pz_gf f a 6 23) (fun v => pz_R dA d 95 35 [v0, v1] (v :: st) f Q) := pz_gg d95_32 rfl
theorem d95_35 : decode (pz_b 95) 35 = .ok (.iload_n 1, 1) := by decide +kernel
theorem q95_35 {dA : Nat → ClassId} {d : Nat} {st : List Value} {f : pz_F} {Q : Option Value → pz_F → Prop} {v0 : Value} {x : Int32} : pz_R dA d 95 35 [v0, .int x] st f Q = pz_R dA d 95 36 [v0, .int x] (.int x :: st) f Q := pz_go (pz_so d95_35 rfl)
theorem d95_36 : decode (pz_b 95) 36 = .ok (.iaload, 1) := by decide +kernel
theorem q95_36 {dA : Nat → ClassId} {d : Nat} {st : List Value} {f : pz_F} {Q : Option Value → pz_F → Prop} {v0 v1 : Value} {i : Int32} {a : Nat} : pz_R dA d 95 36 [v0, v1] (.int i :: .ref a :: st) f Q = pz_o (pz_il (dA 0) f a i) (fun x => pz_R dA d 95 37 [v0, v1] (.int x :: st) f Q) := pz_gil d95_36
theorem d95_37 : decode (pz_b 95) 37 = .ok (.iastore, 1) := by decide +kernel
theorem q95_37 {dA : Nat → ClassId} {d : Nat} {st : List Value} {f : pz_F} {Q : Option Value → pz_F → Prop} {v0 v1 : Value} {x i : Int32} {a : Nat} : pz_R dA d 95 37 [v0, v1] (.int x :: .int i :: .ref a :: st) f Q = pz_o (pz_is (dA 0) f a i x) (fun f' => pz_R dA d 95 38 [v0, v1] st f' Q) := pz_gis d95_37
theorem d95_38 : decode (pz_b 95) 38 = .ok (.iinc 1 1, 3) := by decide +kernel
theorem q95_38 {dA : Nat → ClassId} {d : Nat} {st : List Value} {f : pz_F} {Q : Option Value → pz_F → Prop} {v0 : Value} {x : Int32} : pz_R dA d 95 38 [v0, .int x] st f Q = pz_R dA d 95 41 [v0, .int (x + 1)] st f Q := pz_go (pz_so d95_38 rfl)
theorem d95_41 : decode (pz_b 95) 41 = .ok (.goto (-29), 3) := by decide +kernel
theorem q95_41 {dA : Nat → ClassId} {d : Nat} {st : List Value} {f : pz_F} {Q : Option Value → pz_F → Prop} {v0 v1 : Value} : pz_R dA d 95 41 [v0, v1] st f Q = pz_R dA d 95 12 [v0, v1] st f Q := pz_go (pz_so d95_41 rfl)
theorem d95_44 : decode (pz_b 95) 44 = .ok (.aload_n 0, 1) := by decide +kernel
theorem q95_44 {dA : Nat → ClassId} {d : Nat} {st : List Value} {f : pz_F} {Q : Option Value → pz_F → Prop} {v1 : Value} {x : Nat} : pz_R dA d 95 44 [.ref x, v1] st f Q = pz_R dA d 95 45 [.ref x, v1] (.ref x :: st) f Q := pz_go (pz_so d95_44 rfl)
theorem d95_45 : decode (pz_b 95) 45 = .ok (.dup, 1) := by decide +kernel
theorem q95_45 {dA : Nat → ClassId} {d : Nat} {st : List Value} {f : pz_F} {Q : Option Value → pz_F → Prop} {v0 v1 : Value} {x : Nat} : pz_R dA d 95 45 [v0, v1] (.ref x :: st) f Q = pz_R dA d 95 46 [v0, v1] (.ref x :: .ref x :: st) f Q := pz_go (pz_so d95_45 rfl)
theorem d95_46 : decode (pz_b 95) 46 = .ok (.getfield 82, 3) := by decide +kernel
theorem q95_46 {dA : Nat → ClassId} {d : Nat} {st : List Value} {f : pz_F} {Q : Option Value → pz_F → Prop} {v0 v1 : Value} {a : Nat} : pz_R dA d 95 46 [v0, v1] (.ref a :: st) f Q = pz_o (pz_gf f a 6 20) (fun v => pz_R dA d 95 49 [v0, v1] (v :: st) f Q) := pz_gg d95_46 rfl
theorem d95_49 : decode (pz_b 95) 49 = .ok (.iconst 1, 1) := by decide +kernel
theorem q95_49 {dA : Nat → ClassId} {d : Nat} {st : List Value} {f : pz_F} {Q : Option Value → pz_F → Prop} {v0 v1 : Value} : pz_R dA d 95 49 [v0, v1] st f Q = pz_R dA d 95 50 [v0, v1] (.int 1 :: st) f Q := pz_go (pz_so d95_49 rfl)
theorem d95_50 : decode (pz_b 95) 50 = .ok (.iadd, 1) := by decide +kernel
theorem q95_50 {dA : Nat → ClassId} {d : Nat} {st : List Value} {f : pz_F} {Q : Option Value → pz_F → Prop} {v0 v1 : Value} {x y : Int32} : pz_R dA d 95 50 [v0, v1] (.int y :: .int x :: st) f Q = pz_R dA d 95 51 [v0, v1] (.int (x + y) :: st) f Q := pz_go (pz_so d95_50 rfl)
theorem d95_51 : decode (pz_b 95) 51 = .ok (.putfield 82, 3) := by decide +kernel
theorem q95_51 {dA : Nat → ClassId} {d : Nat} {st : List Value} {f : pz_F} {Q : Option Value → pz_F → Prop} {v0 v1 : Value} {x : Int32} {a : Nat} : pz_R dA d 95 51 [v0, v1] (.int x :: .ref a :: st) f Q = pz_o (pz_pf f a 6 20 (.int x)) (fun f' => pz_R dA d 95 54 [v0, v1] st f' Q) := pz_gp d95_51 rfl rfl rfl rfl
theorem d95_54 : decode (pz_b 95) 54 = .ok (.return_, 1) := by decide +kernel
theorem q95_54 {dA : Nat → ClassId} {d : Nat} {f : pz_F} {Q : Option Value → pz_F → Prop} {v0 v1 : Value} : pz_R dA d 95 54 [v0, v1] [] f Q = Q none f := pz_gr (pz_so d95_54 rfl)
/-! X_out (I)V -/
theorem e96 {dA : Nat → ClassId} {d : Nat} {f : pz_F} {Q : Option Value → pz_F → Prop} {a0 : Nat} {a1 : Int32} : pz_C dA d 96 [.ref a0, .int a1] f Q = pz_R dA d 96 0 [.ref a0, .int a1, .retAddr 0] [] f Q := rfl
theorem d96_0 : decode (pz_b 96) 0 = .ok (.bipush 12, 2) := by decide +kernel
theorem q96_0 {dA : Nat → ClassId} {d : Nat} {st : List Value} {f : pz_F} {Q : Option Value → pz_F → Prop} {v0 v1 v2 : Value} : pz_R dA d 96 0 [v0, v1, v2] st f Q = pz_R dA d 96 2 [v0, v1, v2] (.int 12 :: st) f Q := pz_go (pz_so d96_0 rfl)
theorem d96_2 : decode (pz_b 96) 2 = .ok (.iload_n 1, 1) := by decide +kernel
theorem q96_2 {dA : Nat → ClassId} {d : Nat} {st : List Value} {f : pz_F} {Q : Option Value → pz_F → Prop} {v0 v2 : Value} {x : Int32} : pz_R dA d 96 2 [v0, .int x, v2] st f Q = pz_R dA d 96 3 [v0, .int x, v2] (.int x :: st) f Q := pz_go (pz_so d96_2 rfl)
theorem d96_3 : decode (pz_b 96) 3 = .ok (.imul, 1) := by decide +kernel
theorem q96_3 {dA : Nat → ClassId} {d : Nat} {st : List Value} {f : pz_F} {Q : Option Value → pz_F → Prop} {v0 v1 v2 : Value} {x y : Int32} : pz_R dA d 96 3 [v0, v1, v2] (.int y :: .int x :: st) f Q = pz_R dA d 96 4 [v0, v1, v2] (.int (x * y) :: st) f Q := pz_go (pz_so d96_3 rfl)
theorem d96_4 : decode (pz_b 96) 4 = .ok (.istore_n 2, 1) := by decide +kernel
theorem q96_4 {dA : Nat → ClassId} {d : Nat} {st : List Value} {f : pz_F} {Q : Option Value → pz_F → Prop} {v0 v1 v2 : Value} {x : Int32} : pz_R dA d 96 4 [v0, v1, v2] (.int x :: st) f Q = pz_R dA d 96 5 [v0, v1, .int x] st f Q := pz_go (pz_so d96_4 rfl)
theorem d96_5 : decode (pz_b 96) 5 = .ok (.iload_n 2, 1) := by decide +kernel
theorem q96_5 {dA : Nat → ClassId} {d : Nat} {st : List Value} {f : pz_F} {Q : Option Value → pz_F → Prop} {v0 v1 : Value} {x : Int32} : pz_R dA d 96 5 [v0, v1, .int x] st f Q = pz_R dA d 96 6 [v0, v1, .int x] (.int x :: st) f Q := pz_go (pz_so d96_5 rfl)
theorem d96_6 : decode (pz_b 96) 6 = .ok (.bipush 12, 2) := by decide +kernel
theorem q96_6 {dA : Nat → ClassId} {d : Nat} {st : List Value} {f : pz_F} {Q : Option Value → pz_F → Prop} {v0 v1 v2 : Value} : pz_R dA d 96 6 [v0, v1, v2] st f Q = pz_R dA d 96 8 [v0, v1, v2] (.int 12 :: st) f Q := pz_go (pz_so d96_6 rfl)
theorem d96_8 : decode (pz_b 96) 8 = .ok (.aload_n 0, 1) := by decide +kernel
theorem q96_8 {dA : Nat → ClassId} {d : Nat} {st : List Value} {f : pz_F} {Q : Option Value → pz_F → Prop} {v1 v2 : Value} {x : Nat} : pz_R dA d 96 8 [.ref x, v1, v2] st f Q = pz_R dA d 96 9 [.ref x, v1, v2] (.ref x :: st) f Q := pz_go (pz_so d96_8 rfl)
theorem d96_9 : decode (pz_b 96) 9 = .ok (.getfield 82, 3) := by decide +kernel
theorem q96_9 {dA : Nat → ClassId} {d : Nat} {st : List Value} {f : pz_F} {Q : Option Value → pz_F → Prop} {v0 v1 v2 : Value} {a : Nat} : pz_R dA d 96 9 [v0, v1, v2] (.ref a :: st) f Q = pz_o (pz_gf f a 6 20) (fun v => pz_R dA d 96 12 [v0, v1, v2] (v :: st) f Q) := pz_gg d96_9 rfl
theorem d96_12 : decode (pz_b 96) 12 = .ok (.imul, 1) := by decide +kernel
theorem q96_12 {dA : Nat → ClassId} {d : Nat} {st : List Value} {f : pz_F} {Q : Option Value → pz_F → Prop} {v0 v1 v2 : Value} {x y : Int32} : pz_R dA d 96 12 [v0, v1, v2] (.int y :: .int x :: st) f Q = pz_R dA d 96 13 [v0, v1, v2] (.int (x * y) :: st) f Q := pz_go (pz_so d96_12 rfl)
theorem d96_13 : decode (pz_b 96) 13 = .ok (.bipush 12, 2) := by decide +kernel
theorem q96_13 {dA : Nat → ClassId} {d : Nat} {st : List Value} {f : pz_F} {Q : Option Value → pz_F → Prop} {v0 v1 v2 : Value} : pz_R dA d 96 13 [v0, v1, v2] st f Q = pz_R dA d 96 15 [v0, v1, v2] (.int 12 :: st) f Q := pz_go (pz_so d96_13 rfl)
theorem d96_15 : decode (pz_b 96) 15 = .ok (.isub, 1) := by decide +kernel
theorem q96_15 {dA : Nat → ClassId} {d : Nat} {st : List Value} {f : pz_F} {Q : Option Value → pz_F → Prop} {v0 v1 v2 : Value} {x y : Int32} : pz_R dA d 96 15 [v0, v1, v2] (.int y :: .int x :: st) f Q = pz_R dA d 96 16 [v0, v1, v2] (.int (x - y) :: st) f Q := pz_go (pz_so d96_15 rfl)
theorem d96_16 : decode (pz_b 96) 16 = .ok (.if_icmp .ge 24, 3) := by decide +kernel
theorem q96_16 {dA : Nat → ClassId} {d : Nat} {st : List Value} {f : pz_F} {Q : Option Value → pz_F → Prop} {v0 v1 v2 : Value} {x y : Int32} : pz_R dA d 96 16 [v0, v1, v2] (.int y :: .int x :: st) f Q = (if y ≤ x then pz_R dA d 96 40 [v0, v1, v2] st f Q else pz_R dA d 96 19 [v0, v1, v2] st f Q) := pz_gjn .ge d96_16 rfl
theorem d96_19 : decode (pz_b 96) 19 = .ok (.aload_n 0, 1) := by decide +kernel
theorem q96_19 {dA : Nat → ClassId} {d : Nat} {st : List Value} {f : pz_F} {Q : Option Value → pz_F → Prop} {v1 v2 : Value} {x : Nat} : pz_R dA d 96 19 [.ref x, v1, v2] st f Q = pz_R dA d 96 20 [.ref x, v1, v2] (.ref x :: st) f Q := pz_go (pz_so d96_19 rfl)
theorem d96_20 : decode (pz_b 96) 20 = .ok (.getfield 69, 3) := by decide +kernel
theorem q96_20 {dA : Nat → ClassId} {d : Nat} {st : List Value} {f : pz_F} {Q : Option Value → pz_F → Prop} {v0 v1 v2 : Value} {a : Nat} : pz_R dA d 96 20 [v0, v1, v2] (.ref a :: st) f Q = pz_o (pz_gf f a 6 21) (fun v => pz_R dA d 96 23 [v0, v1, v2] (v :: st) f Q) := pz_gg d96_20 rfl
theorem d96_23 : decode (pz_b 96) 23 = .ok (.iload_n 2, 1) := by decide +kernel
theorem q96_23 {dA : Nat → ClassId} {d : Nat} {st : List Value} {f : pz_F} {Q : Option Value → pz_F → Prop} {v0 v1 : Value} {x : Int32} : pz_R dA d 96 23 [v0, v1, .int x] st f Q = pz_R dA d 96 24 [v0, v1, .int x] (.int x :: st) f Q := pz_go (pz_so d96_23 rfl)
theorem d96_24 : decode (pz_b 96) 24 = .ok (.aload_n 0, 1) := by decide +kernel
theorem q96_24 {dA : Nat → ClassId} {d : Nat} {st : List Value} {f : pz_F} {Q : Option Value → pz_F → Prop} {v1 v2 : Value} {x : Nat} : pz_R dA d 96 24 [.ref x, v1, v2] st f Q = pz_R dA d 96 25 [.ref x, v1, v2] (.ref x :: st) f Q := pz_go (pz_so d96_24 rfl)
theorem d96_25 : decode (pz_b 96) 25 = .ok (.getfield 69, 3) := by decide +kernel
theorem q96_25 {dA : Nat → ClassId} {d : Nat} {st : List Value} {f : pz_F} {Q : Option Value → pz_F → Prop} {v0 v1 v2 : Value} {a : Nat} : pz_R dA d 96 25 [v0, v1, v2] (.ref a :: st) f Q = pz_o (pz_gf f a 6 21) (fun v => pz_R dA d 96 28 [v0, v1, v2] (v :: st) f Q) := pz_gg d96_25 rfl
theorem d96_28 : decode (pz_b 96) 28 = .ok (.iload_n 2, 1) := by decide +kernel
theorem q96_28 {dA : Nat → ClassId} {d : Nat} {st : List Value} {f : pz_F} {Q : Option Value → pz_F → Prop} {v0 v1 : Value} {x : Int32} : pz_R dA d 96 28 [v0, v1, .int x] st f Q = pz_R dA d 96 29 [v0, v1, .int x] (.int x :: st) f Q := pz_go (pz_so d96_28 rfl)
theorem d96_29 : decode (pz_b 96) 29 = .ok (.bipush 12, 2) := by decide +kernel
theorem q96_29 {dA : Nat → ClassId} {d : Nat} {st : List Value} {f : pz_F} {Q : Option Value → pz_F → Prop} {v0 v1 v2 : Value} : pz_R dA d 96 29 [v0, v1, v2] st f Q = pz_R dA d 96 31 [v0, v1, v2] (.int 12 :: st) f Q := pz_go (pz_so d96_29 rfl)
theorem d96_31 : decode (pz_b 96) 31 = .ok (.iadd, 1) := by decide +kernel
theorem q96_31 {dA : Nat → ClassId} {d : Nat} {st : List Value} {f : pz_F} {Q : Option Value → pz_F → Prop} {v0 v1 v2 : Value} {x y : Int32} : pz_R dA d 96 31 [v0, v1, v2] (.int y :: .int x :: st) f Q = pz_R dA d 96 32 [v0, v1, v2] (.int (x + y) :: st) f Q := pz_go (pz_so d96_31 rfl)
theorem d96_32 : decode (pz_b 96) 32 = .ok (.iaload, 1) := by decide +kernel
theorem q96_32 {dA : Nat → ClassId} {d : Nat} {st : List Value} {f : pz_F} {Q : Option Value → pz_F → Prop} {v0 v1 v2 : Value} {i : Int32} {a : Nat} : pz_R dA d 96 32 [v0, v1, v2] (.int i :: .ref a :: st) f Q = pz_o (pz_il (dA 0) f a i) (fun x => pz_R dA d 96 33 [v0, v1, v2] (.int x :: st) f Q) := pz_gil d96_32
theorem d96_33 : decode (pz_b 96) 33 = .ok (.iastore, 1) := by decide +kernel
theorem q96_33 {dA : Nat → ClassId} {d : Nat} {st : List Value} {f : pz_F} {Q : Option Value → pz_F → Prop} {v0 v1 v2 : Value} {x i : Int32} {a : Nat} : pz_R dA d 96 33 [v0, v1, v2] (.int x :: .int i :: .ref a :: st) f Q = pz_o (pz_is (dA 0) f a i x) (fun f' => pz_R dA d 96 34 [v0, v1, v2] st f' Q) := pz_gis d96_33
theorem d96_34 : decode (pz_b 96) 34 = .ok (.iinc 2 1, 3) := by decide +kernel
theorem q96_34 {dA : Nat → ClassId} {d : Nat} {st : List Value} {f : pz_F} {Q : Option Value → pz_F → Prop} {v0 v1 : Value} {x : Int32} : pz_R dA d 96 34 [v0, v1, .int x] st f Q = pz_R dA d 96 37 [v0, v1, .int (x + 1)] st f Q := pz_go (pz_so d96_34 rfl)
theorem d96_37 : decode (pz_b 96) 37 = .ok (.goto (-32), 3) := by decide +kernel
theorem q96_37 {dA : Nat → ClassId} {d : Nat} {st : List Value} {f : pz_F} {Q : Option Value → pz_F → Prop} {v0 v1 v2 : Value} : pz_R dA d 96 37 [v0, v1, v2] st f Q = pz_R dA d 96 5 [v0, v1, v2] st f Q := pz_go (pz_so d96_37 rfl)
theorem d96_40 : decode (pz_b 96) 40 = .ok (.aload_n 0, 1) := by decide +kernel
theorem q96_40 {dA : Nat → ClassId} {d : Nat} {st : List Value} {f : pz_F} {Q : Option Value → pz_F → Prop} {v1 v2 : Value} {x : Nat} : pz_R dA d 96 40 [.ref x, v1, v2] st f Q = pz_R dA d 96 41 [.ref x, v1, v2] (.ref x :: st) f Q := pz_go (pz_so d96_40 rfl)
theorem d96_41 : decode (pz_b 96) 41 = .ok (.dup, 1) := by decide +kernel
theorem q96_41 {dA : Nat → ClassId} {d : Nat} {st : List Value} {f : pz_F} {Q : Option Value → pz_F → Prop} {v0 v1 v2 : Value} {x : Nat} : pz_R dA d 96 41 [v0, v1, v2] (.ref x :: st) f Q = pz_R dA d 96 42 [v0, v1, v2] (.ref x :: .ref x :: st) f Q := pz_go (pz_so d96_41 rfl)
theorem d96_42 : decode (pz_b 96) 42 = .ok (.getfield 82, 3) := by decide +kernel
theorem q96_42 {dA : Nat → ClassId} {d : Nat} {st : List Value} {f : pz_F} {Q : Option Value → pz_F → Prop} {v0 v1 v2 : Value} {a : Nat} : pz_R dA d 96 42 [v0, v1, v2] (.ref a :: st) f Q = pz_o (pz_gf f a 6 20) (fun v => pz_R dA d 96 45 [v0, v1, v2] (v :: st) f Q) := pz_gg d96_42 rfl
theorem d96_45 : decode (pz_b 96) 45 = .ok (.iconst 1, 1) := by decide +kernel
theorem q96_45 {dA : Nat → ClassId} {d : Nat} {st : List Value} {f : pz_F} {Q : Option Value → pz_F → Prop} {v0 v1 v2 : Value} : pz_R dA d 96 45 [v0, v1, v2] st f Q = pz_R dA d 96 46 [v0, v1, v2] (.int 1 :: st) f Q := pz_go (pz_so d96_45 rfl)
theorem d96_46 : decode (pz_b 96) 46 = .ok (.isub, 1) := by decide +kernel
theorem q96_46 {dA : Nat → ClassId} {d : Nat} {st : List Value} {f : pz_F} {Q : Option Value → pz_F → Prop} {v0 v1 v2 : Value} {x y : Int32} : pz_R dA d 96 46 [v0, v1, v2] (.int y :: .int x :: st) f Q = pz_R dA d 96 47 [v0, v1, v2] (.int (x - y) :: st) f Q := pz_go (pz_so d96_46 rfl)
theorem d96_47 : decode (pz_b 96) 47 = .ok (.putfield 82, 3) := by decide +kernel
theorem q96_47 {dA : Nat → ClassId} {d : Nat} {st : List Value} {f : pz_F} {Q : Option Value → pz_F → Prop} {v0 v1 v2 : Value} {x : Int32} {a : Nat} : pz_R dA d 96 47 [v0, v1, v2] (.int x :: .ref a :: st) f Q = pz_o (pz_pf f a 6 20 (.int x)) (fun f' => pz_R dA d 96 50 [v0, v1, v2] st f' Q) := pz_gp d96_47 rfl rfl rfl rfl
theorem d96_50 : decode (pz_b 96) 50 = .ok (.return_, 1) := by decide +kernel
theorem q96_50 {dA : Nat → ClassId} {d : Nat} {f : pz_F} {Q : Option Value → pz_F → Prop} {v0 v1 v2 : Value} : pz_R dA d 96 50 [v0, v1, v2] [] f Q = Q none f := pz_gr (pz_so d96_50 rfl)
/-! X_changed (I)V -/
theorem e97 {dA : Nat → ClassId} {d : Nat} {f : pz_F} {Q : Option Value → pz_F → Prop} {a0 : Nat} {a1 : Int32} : pz_C dA d 97 [.ref a0, .int a1] f Q = pz_R dA d 97 0 [.ref a0, .int a1] [] f Q := rfl
theorem d97_0 : decode (pz_b 97) 0 = .ok (.aload_n 0, 1) := by decide +kernel
theorem q97_0 {dA : Nat → ClassId} {d : Nat} {st : List Value} {f : pz_F} {Q : Option Value → pz_F → Prop} {v1 : Value} {x : Nat} : pz_R dA d 97 0 [.ref x, v1] st f Q = pz_R dA d 97 1 [.ref x, v1] (.ref x :: st) f Q := pz_go (pz_so d97_0 rfl)
theorem d97_1 : decode (pz_b 97) 1 = .ok (.getfield 47, 3) := by decide +kernel
theorem q97_1 {dA : Nat → ClassId} {d : Nat} {st : List Value} {f : pz_F} {Q : Option Value → pz_F → Prop} {v0 v1 : Value} {a : Nat} : pz_R dA d 97 1 [v0, v1] (.ref a :: st) f Q = pz_o (pz_gf f a 6 13) (fun v => pz_R dA d 97 4 [v0, v1] (v :: st) f Q) := pz_gg d97_1 rfl
theorem d97_4 : decode (pz_b 97) 4 = .ok (.iload_n 1, 1) := by decide +kernel
theorem q97_4 {dA : Nat → ClassId} {d : Nat} {st : List Value} {f : pz_F} {Q : Option Value → pz_F → Prop} {v0 : Value} {x : Int32} : pz_R dA d 97 4 [v0, .int x] st f Q = pz_R dA d 97 5 [v0, .int x] (.int x :: st) f Q := pz_go (pz_so d97_4 rfl)
theorem d97_5 : decode (pz_b 97) 5 = .ok (.dup2, 1) := by decide +kernel
theorem q97_5 {dA : Nat → ClassId} {d : Nat} {st : List Value} {f : pz_F} {Q : Option Value → pz_F → Prop} {v0 v1 : Value} {x : Int32} {a : Nat} : pz_R dA d 97 5 [v0, v1] (.int x :: .ref a :: st) f Q = pz_R dA d 97 6 [v0, v1] (.int x :: .ref a :: .int x :: .ref a :: st) f Q := pz_go (pz_so d97_5 rfl)
theorem d97_6 : decode (pz_b 97) 6 = .ok (.iaload, 1) := by decide +kernel
theorem q97_6 {dA : Nat → ClassId} {d : Nat} {st : List Value} {f : pz_F} {Q : Option Value → pz_F → Prop} {v0 v1 : Value} {i : Int32} {a : Nat} : pz_R dA d 97 6 [v0, v1] (.int i :: .ref a :: st) f Q = pz_o (pz_il (dA 0) f a i) (fun x => pz_R dA d 97 7 [v0, v1] (.int x :: st) f Q) := pz_gil d97_6
theorem d97_7 : decode (pz_b 97) 7 = .ok (.iconst 1, 1) := by decide +kernel
theorem q97_7 {dA : Nat → ClassId} {d : Nat} {st : List Value} {f : pz_F} {Q : Option Value → pz_F → Prop} {v0 v1 : Value} : pz_R dA d 97 7 [v0, v1] st f Q = pz_R dA d 97 8 [v0, v1] (.int 1 :: st) f Q := pz_go (pz_so d97_7 rfl)
theorem d97_8 : decode (pz_b 97) 8 = .ok (.iadd, 1) := by decide +kernel
theorem q97_8 {dA : Nat → ClassId} {d : Nat} {st : List Value} {f : pz_F} {Q : Option Value → pz_F → Prop} {v0 v1 : Value} {x y : Int32} : pz_R dA d 97 8 [v0, v1] (.int y :: .int x :: st) f Q = pz_R dA d 97 9 [v0, v1] (.int (x + y) :: st) f Q := pz_go (pz_so d97_8 rfl)
theorem d97_9 : decode (pz_b 97) 9 = .ok (.iastore, 1) := by decide +kernel
theorem q97_9 {dA : Nat → ClassId} {d : Nat} {st : List Value} {f : pz_F} {Q : Option Value → pz_F → Prop} {v0 v1 : Value} {x i : Int32} {a : Nat} : pz_R dA d 97 9 [v0, v1] (.int x :: .int i :: .ref a :: st) f Q = pz_o (pz_is (dA 0) f a i x) (fun f' => pz_R dA d 97 10 [v0, v1] st f' Q) := pz_gis d97_9
theorem d97_10 : decode (pz_b 97) 10 = .ok (.aload_n 0, 1) := by decide +kernel
theorem q97_10 {dA : Nat → ClassId} {d : Nat} {st : List Value} {f : pz_F} {Q : Option Value → pz_F → Prop} {v1 : Value} {x : Nat} : pz_R dA d 97 10 [.ref x, v1] st f Q = pz_R dA d 97 11 [.ref x, v1] (.ref x :: st) f Q := pz_go (pz_so d97_10 rfl)
theorem d97_11 : decode (pz_b 97) 11 = .ok (.getfield 50, 3) := by decide +kernel
theorem q97_11 {dA : Nat → ClassId} {d : Nat} {st : List Value} {f : pz_F} {Q : Option Value → pz_F → Prop} {v0 v1 : Value} {a : Nat} : pz_R dA d 97 11 [v0, v1] (.ref a :: st) f Q = pz_o (pz_gf f a 6 14) (fun v => pz_R dA d 97 14 [v0, v1] (v :: st) f Q) := pz_gg d97_11 rfl
theorem d97_14 : decode (pz_b 97) 14 = .ok (.iload_n 1, 1) := by decide +kernel
theorem q97_14 {dA : Nat → ClassId} {d : Nat} {st : List Value} {f : pz_F} {Q : Option Value → pz_F → Prop} {v0 : Value} {x : Int32} : pz_R dA d 97 14 [v0, .int x] st f Q = pz_R dA d 97 15 [v0, .int x] (.int x :: st) f Q := pz_go (pz_so d97_14 rfl)
theorem d97_15 : decode (pz_b 97) 15 = .ok (.iconst 1, 1) := by decide +kernel
theorem q97_15 {dA : Nat → ClassId} {d : Nat} {st : List Value} {f : pz_F} {Q : Option Value → pz_F → Prop} {v0 v1 : Value} : pz_R dA d 97 15 [v0, v1] st f Q = pz_R dA d 97 16 [v0, v1] (.int 1 :: st) f Q := pz_go (pz_so d97_15 rfl)
theorem d97_16 : decode (pz_b 97) 16 = .ok (.bastore, 1) := by decide +kernel
theorem q97_16z {dA : Nat → ClassId} {d : Nat} {st : List Value} {f : pz_F} {Q : Option Value → pz_F → Prop} {v0 v1 : Value} {i : Int32} {a : Nat} : pz_R dA d 97 16 [v0, v1] (.int 0 :: .int i :: .ref a :: st) f Q = pz_o (pz_is (dA 1) f a i 0) (fun f' => pz_R dA d 97 17 [v0, v1] st f' Q) := pz_gzs d97_16 rfl
theorem q97_16o {dA : Nat → ClassId} {d : Nat} {st : List Value} {f : pz_F} {Q : Option Value → pz_F → Prop} {v0 v1 : Value} {i : Int32} {a : Nat} : pz_R dA d 97 16 [v0, v1] (.int 1 :: .int i :: .ref a :: st) f Q = pz_o (pz_is (dA 1) f a i 1) (fun f' => pz_R dA d 97 17 [v0, v1] st f' Q) := pz_gzs d97_16 rfl
theorem d97_17 : decode (pz_b 97) 17 = .ok (.return_, 1) := by decide +kernel
theorem q97_17 {dA : Nat → ClassId} {d : Nat} {f : pz_F} {Q : Option Value → pz_F → Prop} {v0 v1 : Value} : pz_R dA d 97 17 [v0, v1] [] f Q = Q none f := pz_gr (pz_so d97_17 rfl)
/-! X_free (I)V -/
theorem e98 {dA : Nat → ClassId} {d : Nat} {f : pz_F} {Q : Option Value → pz_F → Prop} {a0 : Nat} {a1 : Int32} : pz_C dA d 98 [.ref a0, .int a1] f Q = pz_R dA d 98 0 [.ref a0, .int a1] [] f Q := rfl
theorem d98_0 : decode (pz_b 98) 0 = .ok (.aload_n 0, 1) := by decide +kernel
theorem q98_0 {dA : Nat → ClassId} {d : Nat} {st : List Value} {f : pz_F} {Q : Option Value → pz_F → Prop} {v1 : Value} {x : Nat} : pz_R dA d 98 0 [.ref x, v1] st f Q = pz_R dA d 98 1 [.ref x, v1] (.ref x :: st) f Q := pz_go (pz_so d98_0 rfl)
theorem d98_1 : decode (pz_b 98) 1 = .ok (.getfield 29, 3) := by decide +kernel
theorem q98_1 {dA : Nat → ClassId} {d : Nat} {st : List Value} {f : pz_F} {Q : Option Value → pz_F → Prop} {v0 v1 : Value} {a : Nat} : pz_R dA d 98 1 [v0, v1] (.ref a :: st) f Q = pz_o (pz_gf f a 6 7) (fun v => pz_R dA d 98 4 [v0, v1] (v :: st) f Q) := pz_gg d98_1 rfl
theorem d98_4 : decode (pz_b 98) 4 = .ok (.iload_n 1, 1) := by decide +kernel
theorem q98_4 {dA : Nat → ClassId} {d : Nat} {st : List Value} {f : pz_F} {Q : Option Value → pz_F → Prop} {v0 : Value} {x : Int32} : pz_R dA d 98 4 [v0, .int x] st f Q = pz_R dA d 98 5 [v0, .int x] (.int x :: st) f Q := pz_go (pz_so d98_4 rfl)
theorem d98_5 : decode (pz_b 98) 5 = .ok (.iconst 0, 1) := by decide +kernel
theorem q98_5 {dA : Nat → ClassId} {d : Nat} {st : List Value} {f : pz_F} {Q : Option Value → pz_F → Prop} {v0 v1 : Value} : pz_R dA d 98 5 [v0, v1] st f Q = pz_R dA d 98 6 [v0, v1] (.int 0 :: st) f Q := pz_go (pz_so d98_5 rfl)
theorem d98_6 : decode (pz_b 98) 6 = .ok (.iastore, 1) := by decide +kernel
theorem q98_6 {dA : Nat → ClassId} {d : Nat} {st : List Value} {f : pz_F} {Q : Option Value → pz_F → Prop} {v0 v1 : Value} {x i : Int32} {a : Nat} : pz_R dA d 98 6 [v0, v1] (.int x :: .int i :: .ref a :: st) f Q = pz_o (pz_is (dA 0) f a i x) (fun f' => pz_R dA d 98 7 [v0, v1] st f' Q) := pz_gis d98_6
theorem d98_7 : decode (pz_b 98) 7 = .ok (.aload_n 0, 1) := by decide +kernel
theorem q98_7 {dA : Nat → ClassId} {d : Nat} {st : List Value} {f : pz_F} {Q : Option Value → pz_F → Prop} {v1 : Value} {x : Nat} : pz_R dA d 98 7 [.ref x, v1] st f Q = pz_R dA d 98 8 [.ref x, v1] (.ref x :: st) f Q := pz_go (pz_so d98_7 rfl)
theorem d98_8 : decode (pz_b 98) 8 = .ok (.getfield 32, 3) := by decide +kernel
theorem q98_8 {dA : Nat → ClassId} {d : Nat} {st : List Value} {f : pz_F} {Q : Option Value → pz_F → Prop} {v0 v1 : Value} {a : Nat} : pz_R dA d 98 8 [v0, v1] (.ref a :: st) f Q = pz_o (pz_gf f a 6 8) (fun v => pz_R dA d 98 11 [v0, v1] (v :: st) f Q) := pz_gg d98_8 rfl
theorem d98_11 : decode (pz_b 98) 11 = .ok (.iload_n 1, 1) := by decide +kernel
theorem q98_11 {dA : Nat → ClassId} {d : Nat} {st : List Value} {f : pz_F} {Q : Option Value → pz_F → Prop} {v0 : Value} {x : Int32} : pz_R dA d 98 11 [v0, .int x] st f Q = pz_R dA d 98 12 [v0, .int x] (.int x :: st) f Q := pz_go (pz_so d98_11 rfl)
theorem d98_12 : decode (pz_b 98) 12 = .ok (.iconst (-1), 1) := by decide +kernel
theorem q98_12 {dA : Nat → ClassId} {d : Nat} {st : List Value} {f : pz_F} {Q : Option Value → pz_F → Prop} {v0 v1 : Value} : pz_R dA d 98 12 [v0, v1] st f Q = pz_R dA d 98 13 [v0, v1] (.int (-1) :: st) f Q := pz_go (pz_so d98_12 rfl)
theorem d98_13 : decode (pz_b 98) 13 = .ok (.iastore, 1) := by decide +kernel
theorem q98_13 {dA : Nat → ClassId} {d : Nat} {st : List Value} {f : pz_F} {Q : Option Value → pz_F → Prop} {v0 v1 : Value} {x i : Int32} {a : Nat} : pz_R dA d 98 13 [v0, v1] (.int x :: .int i :: .ref a :: st) f Q = pz_o (pz_is (dA 0) f a i x) (fun f' => pz_R dA d 98 14 [v0, v1] st f' Q) := pz_gis d98_13
theorem d98_14 : decode (pz_b 98) 14 = .ok (.aload_n 0, 1) := by decide +kernel
theorem q98_14 {dA : Nat → ClassId} {d : Nat} {st : List Value} {f : pz_F} {Q : Option Value → pz_F → Prop} {v1 : Value} {x : Nat} : pz_R dA d 98 14 [.ref x, v1] st f Q = pz_R dA d 98 15 [.ref x, v1] (.ref x :: st) f Q := pz_go (pz_so d98_14 rfl)
theorem d98_15 : decode (pz_b 98) 15 = .ok (.getfield 35, 3) := by decide +kernel
theorem q98_15 {dA : Nat → ClassId} {d : Nat} {st : List Value} {f : pz_F} {Q : Option Value → pz_F → Prop} {v0 v1 : Value} {a : Nat} : pz_R dA d 98 15 [v0, v1] (.ref a :: st) f Q = pz_o (pz_gf f a 6 9) (fun v => pz_R dA d 98 18 [v0, v1] (v :: st) f Q) := pz_gg d98_15 rfl
theorem d98_18 : decode (pz_b 98) 18 = .ok (.iload_n 1, 1) := by decide +kernel
theorem q98_18 {dA : Nat → ClassId} {d : Nat} {st : List Value} {f : pz_F} {Q : Option Value → pz_F → Prop} {v0 : Value} {x : Int32} : pz_R dA d 98 18 [v0, .int x] st f Q = pz_R dA d 98 19 [v0, .int x] (.int x :: st) f Q := pz_go (pz_so d98_18 rfl)
theorem d98_19 : decode (pz_b 98) 19 = .ok (.iconst 0, 1) := by decide +kernel
theorem q98_19 {dA : Nat → ClassId} {d : Nat} {st : List Value} {f : pz_F} {Q : Option Value → pz_F → Prop} {v0 v1 : Value} : pz_R dA d 98 19 [v0, v1] st f Q = pz_R dA d 98 20 [v0, v1] (.int 0 :: st) f Q := pz_go (pz_so d98_19 rfl)
theorem d98_20 : decode (pz_b 98) 20 = .ok (.iastore, 1) := by decide +kernel
theorem q98_20 {dA : Nat → ClassId} {d : Nat} {st : List Value} {f : pz_F} {Q : Option Value → pz_F → Prop} {v0 v1 : Value} {x i : Int32} {a : Nat} : pz_R dA d 98 20 [v0, v1] (.int x :: .int i :: .ref a :: st) f Q = pz_o (pz_is (dA 0) f a i x) (fun f' => pz_R dA d 98 21 [v0, v1] st f' Q) := pz_gis d98_20
theorem d98_21 : decode (pz_b 98) 21 = .ok (.aload_n 0, 1) := by decide +kernel
theorem q98_21 {dA : Nat → ClassId} {d : Nat} {st : List Value} {f : pz_F} {Q : Option Value → pz_F → Prop} {v1 : Value} {x : Nat} : pz_R dA d 98 21 [.ref x, v1] st f Q = pz_R dA d 98 22 [.ref x, v1] (.ref x :: st) f Q := pz_go (pz_so d98_21 rfl)
theorem d98_22 : decode (pz_b 98) 22 = .ok (.getfield 38, 3) := by decide +kernel
theorem q98_22 {dA : Nat → ClassId} {d : Nat} {st : List Value} {f : pz_F} {Q : Option Value → pz_F → Prop} {v0 v1 : Value} {a : Nat} : pz_R dA d 98 22 [v0, v1] (.ref a :: st) f Q = pz_o (pz_gf f a 6 10) (fun v => pz_R dA d 98 25 [v0, v1] (v :: st) f Q) := pz_gg d98_22 rfl
theorem d98_25 : decode (pz_b 98) 25 = .ok (.iload_n 1, 1) := by decide +kernel
theorem q98_25 {dA : Nat → ClassId} {d : Nat} {st : List Value} {f : pz_F} {Q : Option Value → pz_F → Prop} {v0 : Value} {x : Int32} : pz_R dA d 98 25 [v0, .int x] st f Q = pz_R dA d 98 26 [v0, .int x] (.int x :: st) f Q := pz_go (pz_so d98_25 rfl)
theorem d98_26 : decode (pz_b 98) 26 = .ok (.iconst 0, 1) := by decide +kernel
theorem q98_26 {dA : Nat → ClassId} {d : Nat} {st : List Value} {f : pz_F} {Q : Option Value → pz_F → Prop} {v0 v1 : Value} : pz_R dA d 98 26 [v0, v1] st f Q = pz_R dA d 98 27 [v0, v1] (.int 0 :: st) f Q := pz_go (pz_so d98_26 rfl)
theorem d98_27 : decode (pz_b 98) 27 = .ok (.iastore, 1) := by decide +kernel
theorem q98_27 {dA : Nat → ClassId} {d : Nat} {st : List Value} {f : pz_F} {Q : Option Value → pz_F → Prop} {v0 v1 : Value} {x i : Int32} {a : Nat} : pz_R dA d 98 27 [v0, v1] (.int x :: .int i :: .ref a :: st) f Q = pz_o (pz_is (dA 0) f a i x) (fun f' => pz_R dA d 98 28 [v0, v1] st f' Q) := pz_gis d98_27
theorem d98_28 : decode (pz_b 98) 28 = .ok (.aload_n 0, 1) := by decide +kernel
theorem q98_28 {dA : Nat → ClassId} {d : Nat} {st : List Value} {f : pz_F} {Q : Option Value → pz_F → Prop} {v1 : Value} {x : Nat} : pz_R dA d 98 28 [.ref x, v1] st f Q = pz_R dA d 98 29 [.ref x, v1] (.ref x :: st) f Q := pz_go (pz_so d98_28 rfl)
theorem d98_29 : decode (pz_b 98) 29 = .ok (.getfield 41, 3) := by decide +kernel
theorem q98_29 {dA : Nat → ClassId} {d : Nat} {st : List Value} {f : pz_F} {Q : Option Value → pz_F → Prop} {v0 v1 : Value} {a : Nat} : pz_R dA d 98 29 [v0, v1] (.ref a :: st) f Q = pz_o (pz_gf f a 6 11) (fun v => pz_R dA d 98 32 [v0, v1] (v :: st) f Q) := pz_gg d98_29 rfl
theorem d98_32 : decode (pz_b 98) 32 = .ok (.iload_n 1, 1) := by decide +kernel
theorem q98_32 {dA : Nat → ClassId} {d : Nat} {st : List Value} {f : pz_F} {Q : Option Value → pz_F → Prop} {v0 : Value} {x : Int32} : pz_R dA d 98 32 [v0, .int x] st f Q = pz_R dA d 98 33 [v0, .int x] (.int x :: st) f Q := pz_go (pz_so d98_32 rfl)
theorem d98_33 : decode (pz_b 98) 33 = .ok (.iconst 0, 1) := by decide +kernel
theorem q98_33 {dA : Nat → ClassId} {d : Nat} {st : List Value} {f : pz_F} {Q : Option Value → pz_F → Prop} {v0 v1 : Value} : pz_R dA d 98 33 [v0, v1] st f Q = pz_R dA d 98 34 [v0, v1] (.int 0 :: st) f Q := pz_go (pz_so d98_33 rfl)
theorem d98_34 : decode (pz_b 98) 34 = .ok (.iastore, 1) := by decide +kernel
theorem q98_34 {dA : Nat → ClassId} {d : Nat} {st : List Value} {f : pz_F} {Q : Option Value → pz_F → Prop} {v0 v1 : Value} {x i : Int32} {a : Nat} : pz_R dA d 98 34 [v0, v1] (.int x :: .int i :: .ref a :: st) f Q = pz_o (pz_is (dA 0) f a i x) (fun f' => pz_R dA d 98 35 [v0, v1] st f' Q) := pz_gis d98_34
theorem d98_35 : decode (pz_b 98) 35 = .ok (.return_, 1) := by decide +kernel
theorem q98_35 {dA : Nat → ClassId} {d : Nat} {f : pz_F} {Q : Option Value → pz_F → Prop} {v0 v1 : Value} : pz_R dA d 98 35 [v0, v1] [] f Q = Q none f := pz_gr (pz_so d98_35 rfl)
/-! X_lentAlready (II)I -/
theorem e99 {dA : Nat → ClassId} {d : Nat} {f : pz_F} {Q : Option Value → pz_F → Prop} {a0 : Nat} {a1 : Int32} {a2 : Int32} : pz_C dA d 99 [.ref a0, .int a1, .int a2] f Q = pz_R dA d 99 0 [.ref a0, .int a1, .int a2, .retAddr 0] [] f Q := rfl
theorem d99_0 : decode (pz_b 99) 0 = .ok (.iconst 0, 1) := by decide +kernel
theorem q99_0 {dA : Nat → ClassId} {d : Nat} {st : List Value} {f : pz_F} {Q : Option Value → pz_F → Prop} {v0 v1 v2 v3 : Value} : pz_R dA d 99 0 [v0, v1, v2, v3] st f Q = pz_R dA d 99 1 [v0, v1, v2, v3] (.int 0 :: st) f Q := pz_go (pz_so d99_0 rfl)
theorem d99_1 : decode (pz_b 99) 1 = .ok (.istore_n 3, 1) := by decide +kernel
theorem q99_1 {dA : Nat → ClassId} {d : Nat} {st : List Value} {f : pz_F} {Q : Option Value → pz_F → Prop} {v0 v1 v2 v3 : Value} {x : Int32} : pz_R dA d 99 1 [v0, v1, v2, v3] (.int x :: st) f Q = pz_R dA d 99 2 [v0, v1, v2, .int x] st f Q := pz_go (pz_so d99_1 rfl)
theorem d99_2 : decode (pz_b 99) 2 = .ok (.iload_n 3, 1) := by decide +kernel
theorem q99_2 {dA : Nat → ClassId} {d : Nat} {st : List Value} {f : pz_F} {Q : Option Value → pz_F → Prop} {v0 v1 v2 : Value} {x : Int32} : pz_R dA d 99 2 [v0, v1, v2, .int x] st f Q = pz_R dA d 99 3 [v0, v1, v2, .int x] (.int x :: st) f Q := pz_go (pz_so d99_2 rfl)
theorem d99_3 : decode (pz_b 99) 3 = .ok (.bipush 6, 2) := by decide +kernel
theorem q99_3 {dA : Nat → ClassId} {d : Nat} {st : List Value} {f : pz_F} {Q : Option Value → pz_F → Prop} {v0 v1 v2 v3 : Value} : pz_R dA d 99 3 [v0, v1, v2, v3] st f Q = pz_R dA d 99 5 [v0, v1, v2, v3] (.int 6 :: st) f Q := pz_go (pz_so d99_3 rfl)
theorem d99_5 : decode (pz_b 99) 5 = .ok (.if_icmp .ge 41, 3) := by decide +kernel
theorem q99_5 {dA : Nat → ClassId} {d : Nat} {st : List Value} {f : pz_F} {Q : Option Value → pz_F → Prop} {v0 v1 v2 v3 : Value} {x y : Int32} : pz_R dA d 99 5 [v0, v1, v2, v3] (.int y :: .int x :: st) f Q = (if y ≤ x then pz_R dA d 99 46 [v0, v1, v2, v3] st f Q else pz_R dA d 99 8 [v0, v1, v2, v3] st f Q) := pz_gjn .ge d99_5 rfl
theorem d99_8 : decode (pz_b 99) 8 = .ok (.aload_n 0, 1) := by decide +kernel
theorem q99_8 {dA : Nat → ClassId} {d : Nat} {st : List Value} {f : pz_F} {Q : Option Value → pz_F → Prop} {v1 v2 v3 : Value} {x : Nat} : pz_R dA d 99 8 [.ref x, v1, v2, v3] st f Q = pz_R dA d 99 9 [.ref x, v1, v2, v3] (.ref x :: st) f Q := pz_go (pz_so d99_8 rfl)
theorem d99_9 : decode (pz_b 99) 9 = .ok (.getfield 29, 3) := by decide +kernel
theorem q99_9 {dA : Nat → ClassId} {d : Nat} {st : List Value} {f : pz_F} {Q : Option Value → pz_F → Prop} {v0 v1 v2 v3 : Value} {a : Nat} : pz_R dA d 99 9 [v0, v1, v2, v3] (.ref a :: st) f Q = pz_o (pz_gf f a 6 7) (fun v => pz_R dA d 99 12 [v0, v1, v2, v3] (v :: st) f Q) := pz_gg d99_9 rfl
theorem d99_12 : decode (pz_b 99) 12 = .ok (.bipush 6, 2) := by decide +kernel
theorem q99_12 {dA : Nat → ClassId} {d : Nat} {st : List Value} {f : pz_F} {Q : Option Value → pz_F → Prop} {v0 v1 v2 v3 : Value} : pz_R dA d 99 12 [v0, v1, v2, v3] st f Q = pz_R dA d 99 14 [v0, v1, v2, v3] (.int 6 :: st) f Q := pz_go (pz_so d99_12 rfl)
theorem d99_14 : decode (pz_b 99) 14 = .ok (.iload_n 1, 1) := by decide +kernel
theorem q99_14 {dA : Nat → ClassId} {d : Nat} {st : List Value} {f : pz_F} {Q : Option Value → pz_F → Prop} {v0 v2 v3 : Value} {x : Int32} : pz_R dA d 99 14 [v0, .int x, v2, v3] st f Q = pz_R dA d 99 15 [v0, .int x, v2, v3] (.int x :: st) f Q := pz_go (pz_so d99_14 rfl)
theorem d99_15 : decode (pz_b 99) 15 = .ok (.imul, 1) := by decide +kernel
theorem q99_15 {dA : Nat → ClassId} {d : Nat} {st : List Value} {f : pz_F} {Q : Option Value → pz_F → Prop} {v0 v1 v2 v3 : Value} {x y : Int32} : pz_R dA d 99 15 [v0, v1, v2, v3] (.int y :: .int x :: st) f Q = pz_R dA d 99 16 [v0, v1, v2, v3] (.int (x * y) :: st) f Q := pz_go (pz_so d99_15 rfl)
theorem d99_16 : decode (pz_b 99) 16 = .ok (.iload_n 3, 1) := by decide +kernel
theorem q99_16 {dA : Nat → ClassId} {d : Nat} {st : List Value} {f : pz_F} {Q : Option Value → pz_F → Prop} {v0 v1 v2 : Value} {x : Int32} : pz_R dA d 99 16 [v0, v1, v2, .int x] st f Q = pz_R dA d 99 17 [v0, v1, v2, .int x] (.int x :: st) f Q := pz_go (pz_so d99_16 rfl)
theorem d99_17 : decode (pz_b 99) 17 = .ok (.iadd, 1) := by decide +kernel
theorem q99_17 {dA : Nat → ClassId} {d : Nat} {st : List Value} {f : pz_F} {Q : Option Value → pz_F → Prop} {v0 v1 v2 v3 : Value} {x y : Int32} : pz_R dA d 99 17 [v0, v1, v2, v3] (.int y :: .int x :: st) f Q = pz_R dA d 99 18 [v0, v1, v2, v3] (.int (x + y) :: st) f Q := pz_go (pz_so d99_17 rfl)
theorem d99_18 : decode (pz_b 99) 18 = .ok (.iaload, 1) := by decide +kernel
theorem q99_18 {dA : Nat → ClassId} {d : Nat} {st : List Value} {f : pz_F} {Q : Option Value → pz_F → Prop} {v0 v1 v2 v3 : Value} {i : Int32} {a : Nat} : pz_R dA d 99 18 [v0, v1, v2, v3] (.int i :: .ref a :: st) f Q = pz_o (pz_il (dA 0) f a i) (fun x => pz_R dA d 99 19 [v0, v1, v2, v3] (.int x :: st) f Q) := pz_gil d99_18
theorem d99_19 : decode (pz_b 99) 19 = .ok (.iconst 1, 1) := by decide +kernel
theorem q99_19 {dA : Nat → ClassId} {d : Nat} {st : List Value} {f : pz_F} {Q : Option Value → pz_F → Prop} {v0 v1 v2 v3 : Value} : pz_R dA d 99 19 [v0, v1, v2, v3] st f Q = pz_R dA d 99 20 [v0, v1, v2, v3] (.int 1 :: st) f Q := pz_go (pz_so d99_19 rfl)
theorem d99_20 : decode (pz_b 99) 20 = .ok (.if_icmp .ne 20, 3) := by decide +kernel
theorem q99_20 {dA : Nat → ClassId} {d : Nat} {st : List Value} {f : pz_F} {Q : Option Value → pz_F → Prop} {v0 v1 v2 v3 : Value} {x y : Int32} : pz_R dA d 99 20 [v0, v1, v2, v3] (.int y :: .int x :: st) f Q = (if x = y then pz_R dA d 99 23 [v0, v1, v2, v3] st f Q else pz_R dA d 99 40 [v0, v1, v2, v3] st f Q) := pz_gjn .ne d99_20 rfl
theorem d99_23 : decode (pz_b 99) 23 = .ok (.aload_n 0, 1) := by decide +kernel
theorem q99_23 {dA : Nat → ClassId} {d : Nat} {st : List Value} {f : pz_F} {Q : Option Value → pz_F → Prop} {v1 v2 v3 : Value} {x : Nat} : pz_R dA d 99 23 [.ref x, v1, v2, v3] st f Q = pz_R dA d 99 24 [.ref x, v1, v2, v3] (.ref x :: st) f Q := pz_go (pz_so d99_23 rfl)
theorem d99_24 : decode (pz_b 99) 24 = .ok (.getfield 32, 3) := by decide +kernel
theorem q99_24 {dA : Nat → ClassId} {d : Nat} {st : List Value} {f : pz_F} {Q : Option Value → pz_F → Prop} {v0 v1 v2 v3 : Value} {a : Nat} : pz_R dA d 99 24 [v0, v1, v2, v3] (.ref a :: st) f Q = pz_o (pz_gf f a 6 8) (fun v => pz_R dA d 99 27 [v0, v1, v2, v3] (v :: st) f Q) := pz_gg d99_24 rfl
theorem d99_27 : decode (pz_b 99) 27 = .ok (.bipush 6, 2) := by decide +kernel
theorem q99_27 {dA : Nat → ClassId} {d : Nat} {st : List Value} {f : pz_F} {Q : Option Value → pz_F → Prop} {v0 v1 v2 v3 : Value} : pz_R dA d 99 27 [v0, v1, v2, v3] st f Q = pz_R dA d 99 29 [v0, v1, v2, v3] (.int 6 :: st) f Q := pz_go (pz_so d99_27 rfl)
theorem d99_29 : decode (pz_b 99) 29 = .ok (.iload_n 1, 1) := by decide +kernel
theorem q99_29 {dA : Nat → ClassId} {d : Nat} {st : List Value} {f : pz_F} {Q : Option Value → pz_F → Prop} {v0 v2 v3 : Value} {x : Int32} : pz_R dA d 99 29 [v0, .int x, v2, v3] st f Q = pz_R dA d 99 30 [v0, .int x, v2, v3] (.int x :: st) f Q := pz_go (pz_so d99_29 rfl)
theorem d99_30 : decode (pz_b 99) 30 = .ok (.imul, 1) := by decide +kernel
theorem q99_30 {dA : Nat → ClassId} {d : Nat} {st : List Value} {f : pz_F} {Q : Option Value → pz_F → Prop} {v0 v1 v2 v3 : Value} {x y : Int32} : pz_R dA d 99 30 [v0, v1, v2, v3] (.int y :: .int x :: st) f Q = pz_R dA d 99 31 [v0, v1, v2, v3] (.int (x * y) :: st) f Q := pz_go (pz_so d99_30 rfl)
theorem d99_31 : decode (pz_b 99) 31 = .ok (.iload_n 3, 1) := by decide +kernel
theorem q99_31 {dA : Nat → ClassId} {d : Nat} {st : List Value} {f : pz_F} {Q : Option Value → pz_F → Prop} {v0 v1 v2 : Value} {x : Int32} : pz_R dA d 99 31 [v0, v1, v2, .int x] st f Q = pz_R dA d 99 32 [v0, v1, v2, .int x] (.int x :: st) f Q := pz_go (pz_so d99_31 rfl)
theorem d99_32 : decode (pz_b 99) 32 = .ok (.iadd, 1) := by decide +kernel
theorem q99_32 {dA : Nat → ClassId} {d : Nat} {st : List Value} {f : pz_F} {Q : Option Value → pz_F → Prop} {v0 v1 v2 v3 : Value} {x y : Int32} : pz_R dA d 99 32 [v0, v1, v2, v3] (.int y :: .int x :: st) f Q = pz_R dA d 99 33 [v0, v1, v2, v3] (.int (x + y) :: st) f Q := pz_go (pz_so d99_32 rfl)
theorem d99_33 : decode (pz_b 99) 33 = .ok (.iaload, 1) := by decide +kernel
theorem q99_33 {dA : Nat → ClassId} {d : Nat} {st : List Value} {f : pz_F} {Q : Option Value → pz_F → Prop} {v0 v1 v2 v3 : Value} {i : Int32} {a : Nat} : pz_R dA d 99 33 [v0, v1, v2, v3] (.int i :: .ref a :: st) f Q = pz_o (pz_il (dA 0) f a i) (fun x => pz_R dA d 99 34 [v0, v1, v2, v3] (.int x :: st) f Q) := pz_gil d99_33
theorem d99_34 : decode (pz_b 99) 34 = .ok (.iload_n 2, 1) := by decide +kernel
theorem q99_34 {dA : Nat → ClassId} {d : Nat} {st : List Value} {f : pz_F} {Q : Option Value → pz_F → Prop} {v0 v1 v3 : Value} {x : Int32} : pz_R dA d 99 34 [v0, v1, .int x, v3] st f Q = pz_R dA d 99 35 [v0, v1, .int x, v3] (.int x :: st) f Q := pz_go (pz_so d99_34 rfl)
theorem d99_35 : decode (pz_b 99) 35 = .ok (.if_icmp .ne 5, 3) := by decide +kernel
theorem q99_35 {dA : Nat → ClassId} {d : Nat} {st : List Value} {f : pz_F} {Q : Option Value → pz_F → Prop} {v0 v1 v2 v3 : Value} {x y : Int32} : pz_R dA d 99 35 [v0, v1, v2, v3] (.int y :: .int x :: st) f Q = (if x = y then pz_R dA d 99 38 [v0, v1, v2, v3] st f Q else pz_R dA d 99 40 [v0, v1, v2, v3] st f Q) := pz_gjn .ne d99_35 rfl
theorem d99_38 : decode (pz_b 99) 38 = .ok (.iload_n 3, 1) := by decide +kernel
theorem q99_38 {dA : Nat → ClassId} {d : Nat} {st : List Value} {f : pz_F} {Q : Option Value → pz_F → Prop} {v0 v1 v2 : Value} {x : Int32} : pz_R dA d 99 38 [v0, v1, v2, .int x] st f Q = pz_R dA d 99 39 [v0, v1, v2, .int x] (.int x :: st) f Q := pz_go (pz_so d99_38 rfl)
theorem d99_39 : decode (pz_b 99) 39 = .ok (.ireturn, 1) := by decide +kernel
theorem q99_39 {dA : Nat → ClassId} {d : Nat} {f : pz_F} {Q : Option Value → pz_F → Prop} {v0 v1 v2 v3 : Value} {x : Int32} : pz_R dA d 99 39 [v0, v1, v2, v3] [.int x] f Q = Q (some (.int x)) f := pz_gri d99_39 rfl rfl
theorem d99_40 : decode (pz_b 99) 40 = .ok (.iinc 3 1, 3) := by decide +kernel
theorem q99_40 {dA : Nat → ClassId} {d : Nat} {st : List Value} {f : pz_F} {Q : Option Value → pz_F → Prop} {v0 v1 v2 : Value} {x : Int32} : pz_R dA d 99 40 [v0, v1, v2, .int x] st f Q = pz_R dA d 99 43 [v0, v1, v2, .int (x + 1)] st f Q := pz_go (pz_so d99_40 rfl)
theorem d99_43 : decode (pz_b 99) 43 = .ok (.goto (-41), 3) := by decide +kernel
theorem q99_43 {dA : Nat → ClassId} {d : Nat} {st : List Value} {f : pz_F} {Q : Option Value → pz_F → Prop} {v0 v1 v2 v3 : Value} : pz_R dA d 99 43 [v0, v1, v2, v3] st f Q = pz_R dA d 99 2 [v0, v1, v2, v3] st f Q := pz_go (pz_so d99_43 rfl)
theorem d99_46 : decode (pz_b 99) 46 = .ok (.iconst (-1), 1) := by decide +kernel
theorem q99_46 {dA : Nat → ClassId} {d : Nat} {st : List Value} {f : pz_F} {Q : Option Value → pz_F → Prop} {v0 v1 v2 v3 : Value} : pz_R dA d 99 46 [v0, v1, v2, v3] st f Q = pz_R dA d 99 47 [v0, v1, v2, v3] (.int (-1) :: st) f Q := pz_go (pz_so d99_46 rfl)
theorem d99_47 : decode (pz_b 99) 47 = .ok (.ireturn, 1) := by decide +kernel
theorem q99_47 {dA : Nat → ClassId} {d : Nat} {f : pz_F} {Q : Option Value → pz_F → Prop} {v0 v1 v2 v3 : Value} {x : Int32} : pz_R dA d 99 47 [v0, v1, v2, v3] [.int x] f Q = Q (some (.int x)) f := pz_gri d99_47 rfl rfl
/-! X_freeOne (IZ)I -/
theorem e100 {dA : Nat → ClassId} {d : Nat} {f : pz_F} {Q : Option Value → pz_F → Prop} {a0 : Nat} {a1 : Int32} {a2 : Int32} : pz_C dA d 100 [.ref a0, .int a1, .int a2] f Q = pz_R dA d 100 0 [.ref a0, .int a1, .int a2, .retAddr 0] [] f Q := rfl
theorem d100_0 : decode (pz_b 100) 0 = .ok (.iconst 0, 1) := by decide +kernel
theorem q100_0 {dA : Nat → ClassId} {d : Nat} {st : List Value} {f : pz_F} {Q : Option Value → pz_F → Prop} {v0 v1 v2 v3 : Value} : pz_R dA d 100 0 [v0, v1, v2, v3] st f Q = pz_R dA d 100 1 [v0, v1, v2, v3] (.int 0 :: st) f Q := pz_go (pz_so d100_0 rfl)
theorem d100_1 : decode (pz_b 100) 1 = .ok (.istore_n 3, 1) := by decide +kernel
theorem q100_1 {dA : Nat → ClassId} {d : Nat} {st : List Value} {f : pz_F} {Q : Option Value → pz_F → Prop} {v0 v1 v2 v3 : Value} {x : Int32} : pz_R dA d 100 1 [v0, v1, v2, v3] (.int x :: st) f Q = pz_R dA d 100 2 [v0, v1, v2, .int x] st f Q := pz_go (pz_so d100_1 rfl)
theorem d100_2 : decode (pz_b 100) 2 = .ok (.iload_n 3, 1) := by decide +kernel
theorem q100_2 {dA : Nat → ClassId} {d : Nat} {st : List Value} {f : pz_F} {Q : Option Value → pz_F → Prop} {v0 v1 v2 : Value} {x : Int32} : pz_R dA d 100 2 [v0, v1, v2, .int x] st f Q = pz_R dA d 100 3 [v0, v1, v2, .int x] (.int x :: st) f Q := pz_go (pz_so d100_2 rfl)
theorem d100_3 : decode (pz_b 100) 3 = .ok (.bipush 6, 2) := by decide +kernel
theorem q100_3 {dA : Nat → ClassId} {d : Nat} {st : List Value} {f : pz_F} {Q : Option Value → pz_F → Prop} {v0 v1 v2 v3 : Value} : pz_R dA d 100 3 [v0, v1, v2, v3] st f Q = pz_R dA d 100 5 [v0, v1, v2, v3] (.int 6 :: st) f Q := pz_go (pz_so d100_3 rfl)
theorem d100_5 : decode (pz_b 100) 5 = .ok (.if_icmp .ge 36, 3) := by decide +kernel
theorem q100_5 {dA : Nat → ClassId} {d : Nat} {st : List Value} {f : pz_F} {Q : Option Value → pz_F → Prop} {v0 v1 v2 v3 : Value} {x y : Int32} : pz_R dA d 100 5 [v0, v1, v2, v3] (.int y :: .int x :: st) f Q = (if y ≤ x then pz_R dA d 100 41 [v0, v1, v2, v3] st f Q else pz_R dA d 100 8 [v0, v1, v2, v3] st f Q) := pz_gjn .ge d100_5 rfl
theorem d100_8 : decode (pz_b 100) 8 = .ok (.aload_n 0, 1) := by decide +kernel
theorem q100_8 {dA : Nat → ClassId} {d : Nat} {st : List Value} {f : pz_F} {Q : Option Value → pz_F → Prop} {v1 v2 v3 : Value} {x : Nat} : pz_R dA d 100 8 [.ref x, v1, v2, v3] st f Q = pz_R dA d 100 9 [.ref x, v1, v2, v3] (.ref x :: st) f Q := pz_go (pz_so d100_8 rfl)
theorem d100_9 : decode (pz_b 100) 9 = .ok (.getfield 29, 3) := by decide +kernel
theorem q100_9 {dA : Nat → ClassId} {d : Nat} {st : List Value} {f : pz_F} {Q : Option Value → pz_F → Prop} {v0 v1 v2 v3 : Value} {a : Nat} : pz_R dA d 100 9 [v0, v1, v2, v3] (.ref a :: st) f Q = pz_o (pz_gf f a 6 7) (fun v => pz_R dA d 100 12 [v0, v1, v2, v3] (v :: st) f Q) := pz_gg d100_9 rfl
theorem d100_12 : decode (pz_b 100) 12 = .ok (.bipush 6, 2) := by decide +kernel
theorem q100_12 {dA : Nat → ClassId} {d : Nat} {st : List Value} {f : pz_F} {Q : Option Value → pz_F → Prop} {v0 v1 v2 v3 : Value} : pz_R dA d 100 12 [v0, v1, v2, v3] st f Q = pz_R dA d 100 14 [v0, v1, v2, v3] (.int 6 :: st) f Q := pz_go (pz_so d100_12 rfl)
theorem d100_14 : decode (pz_b 100) 14 = .ok (.iload_n 1, 1) := by decide +kernel
theorem q100_14 {dA : Nat → ClassId} {d : Nat} {st : List Value} {f : pz_F} {Q : Option Value → pz_F → Prop} {v0 v2 v3 : Value} {x : Int32} : pz_R dA d 100 14 [v0, .int x, v2, v3] st f Q = pz_R dA d 100 15 [v0, .int x, v2, v3] (.int x :: st) f Q := pz_go (pz_so d100_14 rfl)
theorem d100_15 : decode (pz_b 100) 15 = .ok (.imul, 1) := by decide +kernel
theorem q100_15 {dA : Nat → ClassId} {d : Nat} {st : List Value} {f : pz_F} {Q : Option Value → pz_F → Prop} {v0 v1 v2 v3 : Value} {x y : Int32} : pz_R dA d 100 15 [v0, v1, v2, v3] (.int y :: .int x :: st) f Q = pz_R dA d 100 16 [v0, v1, v2, v3] (.int (x * y) :: st) f Q := pz_go (pz_so d100_15 rfl)
theorem d100_16 : decode (pz_b 100) 16 = .ok (.iload_n 3, 1) := by decide +kernel
theorem q100_16 {dA : Nat → ClassId} {d : Nat} {st : List Value} {f : pz_F} {Q : Option Value → pz_F → Prop} {v0 v1 v2 : Value} {x : Int32} : pz_R dA d 100 16 [v0, v1, v2, .int x] st f Q = pz_R dA d 100 17 [v0, v1, v2, .int x] (.int x :: st) f Q := pz_go (pz_so d100_16 rfl)
theorem d100_17 : decode (pz_b 100) 17 = .ok (.iadd, 1) := by decide +kernel
theorem q100_17 {dA : Nat → ClassId} {d : Nat} {st : List Value} {f : pz_F} {Q : Option Value → pz_F → Prop} {v0 v1 v2 v3 : Value} {x y : Int32} : pz_R dA d 100 17 [v0, v1, v2, v3] (.int y :: .int x :: st) f Q = pz_R dA d 100 18 [v0, v1, v2, v3] (.int (x + y) :: st) f Q := pz_go (pz_so d100_17 rfl)
theorem d100_18 : decode (pz_b 100) 18 = .ok (.iaload, 1) := by decide +kernel
theorem q100_18 {dA : Nat → ClassId} {d : Nat} {st : List Value} {f : pz_F} {Q : Option Value → pz_F → Prop} {v0 v1 v2 v3 : Value} {i : Int32} {a : Nat} : pz_R dA d 100 18 [v0, v1, v2, v3] (.int i :: .ref a :: st) f Q = pz_o (pz_il (dA 0) f a i) (fun x => pz_R dA d 100 19 [v0, v1, v2, v3] (.int x :: st) f Q) := pz_gil d100_18
theorem d100_19 : decode (pz_b 100) 19 = .ok (.ifCond .ne 16, 3) := by decide +kernel
theorem q100_19 {dA : Nat → ClassId} {d : Nat} {st : List Value} {f : pz_F} {Q : Option Value → pz_F → Prop} {v0 v1 v2 v3 : Value} {x : Int32} : pz_R dA d 100 19 [v0, v1, v2, v3] (.int x :: st) f Q = (if x = 0 then pz_R dA d 100 22 [v0, v1, v2, v3] st f Q else pz_R dA d 100 35 [v0, v1, v2, v3] st f Q) := pz_gj1 .ne d100_19 rfl
theorem d100_22 : decode (pz_b 100) 22 = .ok (.iload_n 2, 1) := by decide +kernel
theorem q100_22 {dA : Nat → ClassId} {d : Nat} {st : List Value} {f : pz_F} {Q : Option Value → pz_F → Prop} {v0 v1 v3 : Value} {x : Int32} : pz_R dA d 100 22 [v0, v1, .int x, v3] st f Q = pz_R dA d 100 23 [v0, v1, .int x, v3] (.int x :: st) f Q := pz_go (pz_so d100_22 rfl)
theorem d100_23 : decode (pz_b 100) 23 = .ok (.ifCond .ne 10, 3) := by decide +kernel
theorem q100_23 {dA : Nat → ClassId} {d : Nat} {st : List Value} {f : pz_F} {Q : Option Value → pz_F → Prop} {v0 v1 v2 v3 : Value} {x : Int32} : pz_R dA d 100 23 [v0, v1, v2, v3] (.int x :: st) f Q = (if x = 0 then pz_R dA d 100 26 [v0, v1, v2, v3] st f Q else pz_R dA d 100 33 [v0, v1, v2, v3] st f Q) := pz_gj1 .ne d100_23 rfl
theorem d100_26 : decode (pz_b 100) 26 = .ok (.iload_n 3, 1) := by decide +kernel
theorem q100_26 {dA : Nat → ClassId} {d : Nat} {st : List Value} {f : pz_F} {Q : Option Value → pz_F → Prop} {v0 v1 v2 : Value} {x : Int32} : pz_R dA d 100 26 [v0, v1, v2, .int x] st f Q = pz_R dA d 100 27 [v0, v1, v2, .int x] (.int x :: st) f Q := pz_go (pz_so d100_26 rfl)
theorem d100_27 : decode (pz_b 100) 27 = .ok (.iconst 2, 1) := by decide +kernel
theorem q100_27 {dA : Nat → ClassId} {d : Nat} {st : List Value} {f : pz_F} {Q : Option Value → pz_F → Prop} {v0 v1 v2 v3 : Value} : pz_R dA d 100 27 [v0, v1, v2, v3] st f Q = pz_R dA d 100 28 [v0, v1, v2, v3] (.int 2 :: st) f Q := pz_go (pz_so d100_27 rfl)
theorem d100_28 : decode (pz_b 100) 28 = .ok (.irem, 1) := by decide +kernel
theorem q100_28 {dA : Nat → ClassId} {d : Nat} {st : List Value} {f : pz_F} {Q : Option Value → pz_F → Prop} {v0 v1 v2 v3 : Value} {x : Int32} : pz_R dA d 100 28 [v0, v1, v2, v3] (.int 2 :: .int x :: st) f Q = pz_R dA d 100 29 [v0, v1, v2, v3] (.int (x - x / 2 * 2) :: st) f Q := pz_gre d100_28 (by decide)
theorem d100_29 : decode (pz_b 100) 29 = .ok (.iload_n 1, 1) := by decide +kernel
theorem q100_29 {dA : Nat → ClassId} {d : Nat} {st : List Value} {f : pz_F} {Q : Option Value → pz_F → Prop} {v0 v2 v3 : Value} {x : Int32} : pz_R dA d 100 29 [v0, .int x, v2, v3] st f Q = pz_R dA d 100 30 [v0, .int x, v2, v3] (.int x :: st) f Q := pz_go (pz_so d100_29 rfl)
theorem d100_30 : decode (pz_b 100) 30 = .ok (.if_icmp .ne 5, 3) := by decide +kernel
theorem q100_30 {dA : Nat → ClassId} {d : Nat} {st : List Value} {f : pz_F} {Q : Option Value → pz_F → Prop} {v0 v1 v2 v3 : Value} {x y : Int32} : pz_R dA d 100 30 [v0, v1, v2, v3] (.int y :: .int x :: st) f Q = (if x = y then pz_R dA d 100 33 [v0, v1, v2, v3] st f Q else pz_R dA d 100 35 [v0, v1, v2, v3] st f Q) := pz_gjn .ne d100_30 rfl
theorem d100_33 : decode (pz_b 100) 33 = .ok (.iload_n 3, 1) := by decide +kernel
theorem q100_33 {dA : Nat → ClassId} {d : Nat} {st : List Value} {f : pz_F} {Q : Option Value → pz_F → Prop} {v0 v1 v2 : Value} {x : Int32} : pz_R dA d 100 33 [v0, v1, v2, .int x] st f Q = pz_R dA d 100 34 [v0, v1, v2, .int x] (.int x :: st) f Q := pz_go (pz_so d100_33 rfl)
theorem d100_34 : decode (pz_b 100) 34 = .ok (.ireturn, 1) := by decide +kernel
theorem q100_34 {dA : Nat → ClassId} {d : Nat} {f : pz_F} {Q : Option Value → pz_F → Prop} {v0 v1 v2 v3 : Value} {x : Int32} : pz_R dA d 100 34 [v0, v1, v2, v3] [.int x] f Q = Q (some (.int x)) f := pz_gri d100_34 rfl rfl
theorem d100_35 : decode (pz_b 100) 35 = .ok (.iinc 3 1, 3) := by decide +kernel
theorem q100_35 {dA : Nat → ClassId} {d : Nat} {st : List Value} {f : pz_F} {Q : Option Value → pz_F → Prop} {v0 v1 v2 : Value} {x : Int32} : pz_R dA d 100 35 [v0, v1, v2, .int x] st f Q = pz_R dA d 100 38 [v0, v1, v2, .int (x + 1)] st f Q := pz_go (pz_so d100_35 rfl)
theorem d100_38 : decode (pz_b 100) 38 = .ok (.goto (-36), 3) := by decide +kernel
theorem q100_38 {dA : Nat → ClassId} {d : Nat} {st : List Value} {f : pz_F} {Q : Option Value → pz_F → Prop} {v0 v1 v2 v3 : Value} : pz_R dA d 100 38 [v0, v1, v2, v3] st f Q = pz_R dA d 100 2 [v0, v1, v2, v3] st f Q := pz_go (pz_so d100_38 rfl)
theorem d100_41 : decode (pz_b 100) 41 = .ok (.iconst (-1), 1) := by decide +kernel
theorem q100_41 {dA : Nat → ClassId} {d : Nat} {st : List Value} {f : pz_F} {Q : Option Value → pz_F → Prop} {v0 v1 v2 v3 : Value} : pz_R dA d 100 41 [v0, v1, v2, v3] st f Q = pz_R dA d 100 42 [v0, v1, v2, v3] (.int (-1) :: st) f Q := pz_go (pz_so d100_41 rfl)
theorem d100_42 : decode (pz_b 100) 42 = .ok (.ireturn, 1) := by decide +kernel
theorem q100_42 {dA : Nat → ClassId} {d : Nat} {f : pz_F} {Q : Option Value → pz_F → Prop} {v0 v1 v2 v3 : Value} {x : Int32} : pz_R dA d 100 42 [v0, v1, v2, v3] [.int x] f Q = Q (some (.int x)) f := pz_gri d100_42 rfl rfl
/-! X_longOver (I)I -/
theorem e101 {dA : Nat → ClassId} {d : Nat} {f : pz_F} {Q : Option Value → pz_F → Prop} {a0 : Nat} {a1 : Int32} : pz_C dA d 101 [.ref a0, .int a1] f Q = pz_R dA d 101 0 [.ref a0, .int a1, .retAddr 0] [] f Q := rfl
theorem d101_0 : decode (pz_b 101) 0 = .ok (.iconst 0, 1) := by decide +kernel
theorem q101_0 {dA : Nat → ClassId} {d : Nat} {st : List Value} {f : pz_F} {Q : Option Value → pz_F → Prop} {v0 v1 v2 : Value} : pz_R dA d 101 0 [v0, v1, v2] st f Q = pz_R dA d 101 1 [v0, v1, v2] (.int 0 :: st) f Q := pz_go (pz_so d101_0 rfl)
theorem d101_1 : decode (pz_b 101) 1 = .ok (.istore_n 2, 1) := by decide +kernel
theorem q101_1 {dA : Nat → ClassId} {d : Nat} {st : List Value} {f : pz_F} {Q : Option Value → pz_F → Prop} {v0 v1 v2 : Value} {x : Int32} : pz_R dA d 101 1 [v0, v1, v2] (.int x :: st) f Q = pz_R dA d 101 2 [v0, v1, .int x] st f Q := pz_go (pz_so d101_1 rfl)
theorem d101_2 : decode (pz_b 101) 2 = .ok (.iload_n 2, 1) := by decide +kernel
theorem q101_2 {dA : Nat → ClassId} {d : Nat} {st : List Value} {f : pz_F} {Q : Option Value → pz_F → Prop} {v0 v1 : Value} {x : Int32} : pz_R dA d 101 2 [v0, v1, .int x] st f Q = pz_R dA d 101 3 [v0, v1, .int x] (.int x :: st) f Q := pz_go (pz_so d101_2 rfl)
theorem d101_3 : decode (pz_b 101) 3 = .ok (.bipush 6, 2) := by decide +kernel
theorem q101_3 {dA : Nat → ClassId} {d : Nat} {st : List Value} {f : pz_F} {Q : Option Value → pz_F → Prop} {v0 v1 v2 : Value} : pz_R dA d 101 3 [v0, v1, v2] st f Q = pz_R dA d 101 5 [v0, v1, v2] (.int 6 :: st) f Q := pz_go (pz_so d101_3 rfl)
theorem d101_5 : decode (pz_b 101) 5 = .ok (.if_icmp .ge 53, 3) := by decide +kernel
theorem q101_5 {dA : Nat → ClassId} {d : Nat} {st : List Value} {f : pz_F} {Q : Option Value → pz_F → Prop} {v0 v1 v2 : Value} {x y : Int32} : pz_R dA d 101 5 [v0, v1, v2] (.int y :: .int x :: st) f Q = (if y ≤ x then pz_R dA d 101 58 [v0, v1, v2] st f Q else pz_R dA d 101 8 [v0, v1, v2] st f Q) := pz_gjn .ge d101_5 rfl
theorem d101_8 : decode (pz_b 101) 8 = .ok (.aload_n 0, 1) := by decide +kernel
theorem q101_8 {dA : Nat → ClassId} {d : Nat} {st : List Value} {f : pz_F} {Q : Option Value → pz_F → Prop} {v1 v2 : Value} {x : Nat} : pz_R dA d 101 8 [.ref x, v1, v2] st f Q = pz_R dA d 101 9 [.ref x, v1, v2] (.ref x :: st) f Q := pz_go (pz_so d101_8 rfl)
theorem d101_9 : decode (pz_b 101) 9 = .ok (.getfield 35, 3) := by decide +kernel
theorem q101_9 {dA : Nat → ClassId} {d : Nat} {st : List Value} {f : pz_F} {Q : Option Value → pz_F → Prop} {v0 v1 v2 : Value} {a : Nat} : pz_R dA d 101 9 [v0, v1, v2] (.ref a :: st) f Q = pz_o (pz_gf f a 6 9) (fun v => pz_R dA d 101 12 [v0, v1, v2] (v :: st) f Q) := pz_gg d101_9 rfl
theorem d101_12 : decode (pz_b 101) 12 = .ok (.bipush 6, 2) := by decide +kernel
theorem q101_12 {dA : Nat → ClassId} {d : Nat} {st : List Value} {f : pz_F} {Q : Option Value → pz_F → Prop} {v0 v1 v2 : Value} : pz_R dA d 101 12 [v0, v1, v2] st f Q = pz_R dA d 101 14 [v0, v1, v2] (.int 6 :: st) f Q := pz_go (pz_so d101_12 rfl)
theorem d101_14 : decode (pz_b 101) 14 = .ok (.iload_n 1, 1) := by decide +kernel
theorem q101_14 {dA : Nat → ClassId} {d : Nat} {st : List Value} {f : pz_F} {Q : Option Value → pz_F → Prop} {v0 v2 : Value} {x : Int32} : pz_R dA d 101 14 [v0, .int x, v2] st f Q = pz_R dA d 101 15 [v0, .int x, v2] (.int x :: st) f Q := pz_go (pz_so d101_14 rfl)
theorem d101_15 : decode (pz_b 101) 15 = .ok (.imul, 1) := by decide +kernel
theorem q101_15 {dA : Nat → ClassId} {d : Nat} {st : List Value} {f : pz_F} {Q : Option Value → pz_F → Prop} {v0 v1 v2 : Value} {x y : Int32} : pz_R dA d 101 15 [v0, v1, v2] (.int y :: .int x :: st) f Q = pz_R dA d 101 16 [v0, v1, v2] (.int (x * y) :: st) f Q := pz_go (pz_so d101_15 rfl)
theorem d101_16 : decode (pz_b 101) 16 = .ok (.iload_n 2, 1) := by decide +kernel
theorem q101_16 {dA : Nat → ClassId} {d : Nat} {st : List Value} {f : pz_F} {Q : Option Value → pz_F → Prop} {v0 v1 : Value} {x : Int32} : pz_R dA d 101 16 [v0, v1, .int x] st f Q = pz_R dA d 101 17 [v0, v1, .int x] (.int x :: st) f Q := pz_go (pz_so d101_16 rfl)
theorem d101_17 : decode (pz_b 101) 17 = .ok (.iadd, 1) := by decide +kernel
theorem q101_17 {dA : Nat → ClassId} {d : Nat} {st : List Value} {f : pz_F} {Q : Option Value → pz_F → Prop} {v0 v1 v2 : Value} {x y : Int32} : pz_R dA d 101 17 [v0, v1, v2] (.int y :: .int x :: st) f Q = pz_R dA d 101 18 [v0, v1, v2] (.int (x + y) :: st) f Q := pz_go (pz_so d101_17 rfl)
theorem d101_18 : decode (pz_b 101) 18 = .ok (.iaload, 1) := by decide +kernel
theorem q101_18 {dA : Nat → ClassId} {d : Nat} {st : List Value} {f : pz_F} {Q : Option Value → pz_F → Prop} {v0 v1 v2 : Value} {i : Int32} {a : Nat} : pz_R dA d 101 18 [v0, v1, v2] (.int i :: .ref a :: st) f Q = pz_o (pz_il (dA 0) f a i) (fun x => pz_R dA d 101 19 [v0, v1, v2] (.int x :: st) f Q) := pz_gil d101_18
theorem d101_19 : decode (pz_b 101) 19 = .ok (.bipush 6, 2) := by decide +kernel
theorem q101_19 {dA : Nat → ClassId} {d : Nat} {st : List Value} {f : pz_F} {Q : Option Value → pz_F → Prop} {v0 v1 v2 : Value} : pz_R dA d 101 19 [v0, v1, v2] st f Q = pz_R dA d 101 21 [v0, v1, v2] (.int 6 :: st) f Q := pz_go (pz_so d101_19 rfl)
theorem d101_21 : decode (pz_b 101) 21 = .ok (.iadd, 1) := by decide +kernel
theorem q101_21 {dA : Nat → ClassId} {d : Nat} {st : List Value} {f : pz_F} {Q : Option Value → pz_F → Prop} {v0 v1 v2 : Value} {x y : Int32} : pz_R dA d 101 21 [v0, v1, v2] (.int y :: .int x :: st) f Q = pz_R dA d 101 22 [v0, v1, v2] (.int (x + y) :: st) f Q := pz_go (pz_so d101_21 rfl)
theorem d101_22 : decode (pz_b 101) 22 = .ok (.aload_n 0, 1) := by decide +kernel
theorem q101_22 {dA : Nat → ClassId} {d : Nat} {st : List Value} {f : pz_F} {Q : Option Value → pz_F → Prop} {v1 v2 : Value} {x : Nat} : pz_R dA d 101 22 [.ref x, v1, v2] st f Q = pz_R dA d 101 23 [.ref x, v1, v2] (.ref x :: st) f Q := pz_go (pz_so d101_22 rfl)
theorem d101_23 : decode (pz_b 101) 23 = .ok (.getfield 78, 3) := by decide +kernel
theorem q101_23 {dA : Nat → ClassId} {d : Nat} {st : List Value} {f : pz_F} {Q : Option Value → pz_F → Prop} {v0 v1 v2 : Value} {a : Nat} : pz_R dA d 101 23 [v0, v1, v2] (.ref a :: st) f Q = pz_o (pz_gf f a 6 0) (fun v => pz_R dA d 101 26 [v0, v1, v2] (v :: st) f Q) := pz_gg d101_23 rfl
theorem d101_26 : decode (pz_b 101) 26 = .ok (.if_icmp .ge 26, 3) := by decide +kernel
theorem q101_26 {dA : Nat → ClassId} {d : Nat} {st : List Value} {f : pz_F} {Q : Option Value → pz_F → Prop} {v0 v1 v2 : Value} {x y : Int32} : pz_R dA d 101 26 [v0, v1, v2] (.int y :: .int x :: st) f Q = (if y ≤ x then pz_R dA d 101 52 [v0, v1, v2] st f Q else pz_R dA d 101 29 [v0, v1, v2] st f Q) := pz_gjn .ge d101_26 rfl
theorem d101_29 : decode (pz_b 101) 29 = .ok (.aload_n 0, 1) := by decide +kernel
theorem q101_29 {dA : Nat → ClassId} {d : Nat} {st : List Value} {f : pz_F} {Q : Option Value → pz_F → Prop} {v1 v2 : Value} {x : Nat} : pz_R dA d 101 29 [.ref x, v1, v2] st f Q = pz_R dA d 101 30 [.ref x, v1, v2] (.ref x :: st) f Q := pz_go (pz_so d101_29 rfl)
theorem d101_30 : decode (pz_b 101) 30 = .ok (.getfield 41, 3) := by decide +kernel
theorem q101_30 {dA : Nat → ClassId} {d : Nat} {st : List Value} {f : pz_F} {Q : Option Value → pz_F → Prop} {v0 v1 v2 : Value} {a : Nat} : pz_R dA d 101 30 [v0, v1, v2] (.ref a :: st) f Q = pz_o (pz_gf f a 6 11) (fun v => pz_R dA d 101 33 [v0, v1, v2] (v :: st) f Q) := pz_gg d101_30 rfl
theorem d101_33 : decode (pz_b 101) 33 = .ok (.bipush 6, 2) := by decide +kernel
theorem q101_33 {dA : Nat → ClassId} {d : Nat} {st : List Value} {f : pz_F} {Q : Option Value → pz_F → Prop} {v0 v1 v2 : Value} : pz_R dA d 101 33 [v0, v1, v2] st f Q = pz_R dA d 101 35 [v0, v1, v2] (.int 6 :: st) f Q := pz_go (pz_so d101_33 rfl)
theorem d101_35 : decode (pz_b 101) 35 = .ok (.iload_n 1, 1) := by decide +kernel
theorem q101_35 {dA : Nat → ClassId} {d : Nat} {st : List Value} {f : pz_F} {Q : Option Value → pz_F → Prop} {v0 v2 : Value} {x : Int32} : pz_R dA d 101 35 [v0, .int x, v2] st f Q = pz_R dA d 101 36 [v0, .int x, v2] (.int x :: st) f Q := pz_go (pz_so d101_35 rfl)
theorem d101_36 : decode (pz_b 101) 36 = .ok (.imul, 1) := by decide +kernel
theorem q101_36 {dA : Nat → ClassId} {d : Nat} {st : List Value} {f : pz_F} {Q : Option Value → pz_F → Prop} {v0 v1 v2 : Value} {x y : Int32} : pz_R dA d 101 36 [v0, v1, v2] (.int y :: .int x :: st) f Q = pz_R dA d 101 37 [v0, v1, v2] (.int (x * y) :: st) f Q := pz_go (pz_so d101_36 rfl)
theorem d101_37 : decode (pz_b 101) 37 = .ok (.iload_n 2, 1) := by decide +kernel
theorem q101_37 {dA : Nat → ClassId} {d : Nat} {st : List Value} {f : pz_F} {Q : Option Value → pz_F → Prop} {v0 v1 : Value} {x : Int32} : pz_R dA d 101 37 [v0, v1, .int x] st f Q = pz_R dA d 101 38 [v0, v1, .int x] (.int x :: st) f Q := pz_go (pz_so d101_37 rfl)
theorem d101_38 : decode (pz_b 101) 38 = .ok (.iadd, 1) := by decide +kernel
theorem q101_38 {dA : Nat → ClassId} {d : Nat} {st : List Value} {f : pz_F} {Q : Option Value → pz_F → Prop} {v0 v1 v2 : Value} {x y : Int32} : pz_R dA d 101 38 [v0, v1, v2] (.int y :: .int x :: st) f Q = pz_R dA d 101 39 [v0, v1, v2] (.int (x + y) :: st) f Q := pz_go (pz_so d101_38 rfl)
theorem d101_39 : decode (pz_b 101) 39 = .ok (.iaload, 1) := by decide +kernel
theorem q101_39 {dA : Nat → ClassId} {d : Nat} {st : List Value} {f : pz_F} {Q : Option Value → pz_F → Prop} {v0 v1 v2 : Value} {i : Int32} {a : Nat} : pz_R dA d 101 39 [v0, v1, v2] (.int i :: .ref a :: st) f Q = pz_o (pz_il (dA 0) f a i) (fun x => pz_R dA d 101 40 [v0, v1, v2] (.int x :: st) f Q) := pz_gil d101_39
theorem d101_40 : decode (pz_b 101) 40 = .ok (.bipush 6, 2) := by decide +kernel
theorem q101_40 {dA : Nat → ClassId} {d : Nat} {st : List Value} {f : pz_F} {Q : Option Value → pz_F → Prop} {v0 v1 v2 : Value} : pz_R dA d 101 40 [v0, v1, v2] st f Q = pz_R dA d 101 42 [v0, v1, v2] (.int 6 :: st) f Q := pz_go (pz_so d101_40 rfl)
theorem d101_42 : decode (pz_b 101) 42 = .ok (.iadd, 1) := by decide +kernel
theorem q101_42 {dA : Nat → ClassId} {d : Nat} {st : List Value} {f : pz_F} {Q : Option Value → pz_F → Prop} {v0 v1 v2 : Value} {x y : Int32} : pz_R dA d 101 42 [v0, v1, v2] (.int y :: .int x :: st) f Q = pz_R dA d 101 43 [v0, v1, v2] (.int (x + y) :: st) f Q := pz_go (pz_so d101_42 rfl)
theorem d101_43 : decode (pz_b 101) 43 = .ok (.aload_n 0, 1) := by decide +kernel
theorem q101_43 {dA : Nat → ClassId} {d : Nat} {st : List Value} {f : pz_F} {Q : Option Value → pz_F → Prop} {v1 v2 : Value} {x : Nat} : pz_R dA d 101 43 [.ref x, v1, v2] st f Q = pz_R dA d 101 44 [.ref x, v1, v2] (.ref x :: st) f Q := pz_go (pz_so d101_43 rfl)
theorem d101_44 : decode (pz_b 101) 44 = .ok (.getfield 78, 3) := by decide +kernel
theorem q101_44 {dA : Nat → ClassId} {d : Nat} {st : List Value} {f : pz_F} {Q : Option Value → pz_F → Prop} {v0 v1 v2 : Value} {a : Nat} : pz_R dA d 101 44 [v0, v1, v2] (.ref a :: st) f Q = pz_o (pz_gf f a 6 0) (fun v => pz_R dA d 101 47 [v0, v1, v2] (v :: st) f Q) := pz_gg d101_44 rfl
theorem d101_47 : decode (pz_b 101) 47 = .ok (.if_icmp .ge 5, 3) := by decide +kernel
theorem q101_47 {dA : Nat → ClassId} {d : Nat} {st : List Value} {f : pz_F} {Q : Option Value → pz_F → Prop} {v0 v1 v2 : Value} {x y : Int32} : pz_R dA d 101 47 [v0, v1, v2] (.int y :: .int x :: st) f Q = (if y ≤ x then pz_R dA d 101 52 [v0, v1, v2] st f Q else pz_R dA d 101 50 [v0, v1, v2] st f Q) := pz_gjn .ge d101_47 rfl
theorem d101_50 : decode (pz_b 101) 50 = .ok (.iload_n 2, 1) := by decide +kernel
theorem q101_50 {dA : Nat → ClassId} {d : Nat} {st : List Value} {f : pz_F} {Q : Option Value → pz_F → Prop} {v0 v1 : Value} {x : Int32} : pz_R dA d 101 50 [v0, v1, .int x] st f Q = pz_R dA d 101 51 [v0, v1, .int x] (.int x :: st) f Q := pz_go (pz_so d101_50 rfl)
theorem d101_51 : decode (pz_b 101) 51 = .ok (.ireturn, 1) := by decide +kernel
theorem q101_51 {dA : Nat → ClassId} {d : Nat} {f : pz_F} {Q : Option Value → pz_F → Prop} {v0 v1 v2 : Value} {x : Int32} : pz_R dA d 101 51 [v0, v1, v2] [.int x] f Q = Q (some (.int x)) f := pz_gri d101_51 rfl rfl
theorem d101_52 : decode (pz_b 101) 52 = .ok (.iinc 2 1, 3) := by decide +kernel
theorem q101_52 {dA : Nat → ClassId} {d : Nat} {st : List Value} {f : pz_F} {Q : Option Value → pz_F → Prop} {v0 v1 : Value} {x : Int32} : pz_R dA d 101 52 [v0, v1, .int x] st f Q = pz_R dA d 101 55 [v0, v1, .int (x + 1)] st f Q := pz_go (pz_so d101_52 rfl)
theorem d101_55 : decode (pz_b 101) 55 = .ok (.goto (-53), 3) := by decide +kernel
theorem q101_55 {dA : Nat → ClassId} {d : Nat} {st : List Value} {f : pz_F} {Q : Option Value → pz_F → Prop} {v0 v1 v2 : Value} : pz_R dA d 101 55 [v0, v1, v2] st f Q = pz_R dA d 101 2 [v0, v1, v2] st f Q := pz_go (pz_so d101_55 rfl)
theorem d101_58 : decode (pz_b 101) 58 = .ok (.iconst (-1), 1) := by decide +kernel
theorem q101_58 {dA : Nat → ClassId} {d : Nat} {st : List Value} {f : pz_F} {Q : Option Value → pz_F → Prop} {v0 v1 v2 : Value} : pz_R dA d 101 58 [v0, v1, v2] st f Q = pz_R dA d 101 59 [v0, v1, v2] (.int (-1) :: st) f Q := pz_go (pz_so d101_58 rfl)
theorem d101_59 : decode (pz_b 101) 59 = .ok (.ireturn, 1) := by decide +kernel
theorem q101_59 {dA : Nat → ClassId} {d : Nat} {f : pz_F} {Q : Option Value → pz_F → Prop} {v0 v1 v2 : Value} {x : Int32} : pz_R dA d 101 59 [v0, v1, v2] [.int x] f Q = Q (some (.int x)) f := pz_gri d101_59 rfl rfl
/-! X_choice (II)I -/
theorem e102 {dA : Nat → ClassId} {d : Nat} {f : pz_F} {Q : Option Value → pz_F → Prop} {a0 : Nat} {a1 : Int32} {a2 : Int32} : pz_C dA d 102 [.ref a0, .int a1, .int a2] f Q = pz_R dA d 102 0 [.ref a0, .int a1, .int a2, .retAddr 0, .retAddr 0] [] f Q := rfl
theorem d102_0 : decode (pz_b 102) 0 = .ok (.aload_n 0, 1) := by decide +kernel
theorem q102_0 {dA : Nat → ClassId} {d : Nat} {st : List Value} {f : pz_F} {Q : Option Value → pz_F → Prop} {v1 v2 v3 v4 : Value} {x : Nat} : pz_R dA d 102 0 [.ref x, v1, v2, v3, v4] st f Q = pz_R dA d 102 1 [.ref x, v1, v2, v3, v4] (.ref x :: st) f Q := pz_go (pz_so d102_0 rfl)
theorem d102_1 : decode (pz_b 102) 1 = .ok (.iload_n 1, 1) := by decide +kernel
theorem q102_1 {dA : Nat → ClassId} {d : Nat} {st : List Value} {f : pz_F} {Q : Option Value → pz_F → Prop} {v0 v2 v3 v4 : Value} {x : Int32} : pz_R dA d 102 1 [v0, .int x, v2, v3, v4] st f Q = pz_R dA d 102 2 [v0, .int x, v2, v3, v4] (.int x :: st) f Q := pz_go (pz_so d102_1 rfl)
theorem d102_2 : decode (pz_b 102) 2 = .ok (.iload_n 2, 1) := by decide +kernel
theorem q102_2 {dA : Nat → ClassId} {d : Nat} {st : List Value} {f : pz_F} {Q : Option Value → pz_F → Prop} {v0 v1 v3 v4 : Value} {x : Int32} : pz_R dA d 102 2 [v0, v1, .int x, v3, v4] st f Q = pz_R dA d 102 3 [v0, v1, .int x, v3, v4] (.int x :: st) f Q := pz_go (pz_so d102_2 rfl)
theorem d102_3 : decode (pz_b 102) 3 = .ok (.invokevirtual 85, 3) := by decide +kernel
theorem q102_3 {dA : Nat → ClassId} {d : Nat} {st : List Value} {f : pz_F} {Q : Option Value → pz_F → Prop} {v0 v1 v2 v3 v4 : Value} {c0 : Int32} {c1 : Int32} {b : Nat} (hr : st.length ≤ 4) : pz_R dA (d + 1) 102 3 [v0, v1, v2, v3, v4] (.int c1 :: .int c0 :: .ref b :: st) f Q = pz_o (pz_gu f b 6) (fun _ => pz_C dA d 99 [.ref b, .int c0, .int c1] f (fun r f' => pz_R dA (d + 1) 102 6 [v0, v1, v2, v3, v4] (r.toList ++ st) f' Q)) := pz_gcv (As := [.int c0, .int c1]) d102_3 rfl rfl rfl hr
theorem d102_6 : decode (pz_b 102) 6 = .ok (.istore_n 3, 1) := by decide +kernel
theorem q102_6 {dA : Nat → ClassId} {d : Nat} {st : List Value} {f : pz_F} {Q : Option Value → pz_F → Prop} {v0 v1 v2 v3 v4 : Value} {x : Int32} : pz_R dA d 102 6 [v0, v1, v2, v3, v4] (.int x :: st) f Q = pz_R dA d 102 7 [v0, v1, v2, .int x, v4] st f Q := pz_go (pz_so d102_6 rfl)
theorem d102_7 : decode (pz_b 102) 7 = .ok (.iload_n 3, 1) := by decide +kernel
theorem q102_7 {dA : Nat → ClassId} {d : Nat} {st : List Value} {f : pz_F} {Q : Option Value → pz_F → Prop} {v0 v1 v2 v4 : Value} {x : Int32} : pz_R dA d 102 7 [v0, v1, v2, .int x, v4] st f Q = pz_R dA d 102 8 [v0, v1, v2, .int x, v4] (.int x :: st) f Q := pz_go (pz_so d102_7 rfl)
theorem d102_8 : decode (pz_b 102) 8 = .ok (.ifCond .ge 10, 3) := by decide +kernel
theorem q102_8 {dA : Nat → ClassId} {d : Nat} {st : List Value} {f : pz_F} {Q : Option Value → pz_F → Prop} {v0 v1 v2 v3 v4 : Value} {x : Int32} : pz_R dA d 102 8 [v0, v1, v2, v3, v4] (.int x :: st) f Q = (if 0 ≤ x then pz_R dA d 102 18 [v0, v1, v2, v3, v4] st f Q else pz_R dA d 102 11 [v0, v1, v2, v3, v4] st f Q) := pz_gj1 .ge d102_8 rfl
theorem d102_11 : decode (pz_b 102) 11 = .ok (.aload_n 0, 1) := by decide +kernel
theorem q102_11 {dA : Nat → ClassId} {d : Nat} {st : List Value} {f : pz_F} {Q : Option Value → pz_F → Prop} {v1 v2 v3 v4 : Value} {x : Nat} : pz_R dA d 102 11 [.ref x, v1, v2, v3, v4] st f Q = pz_R dA d 102 12 [.ref x, v1, v2, v3, v4] (.ref x :: st) f Q := pz_go (pz_so d102_11 rfl)
theorem d102_12 : decode (pz_b 102) 12 = .ok (.iload_n 1, 1) := by decide +kernel
theorem q102_12 {dA : Nat → ClassId} {d : Nat} {st : List Value} {f : pz_F} {Q : Option Value → pz_F → Prop} {v0 v2 v3 v4 : Value} {x : Int32} : pz_R dA d 102 12 [v0, .int x, v2, v3, v4] st f Q = pz_R dA d 102 13 [v0, .int x, v2, v3, v4] (.int x :: st) f Q := pz_go (pz_so d102_12 rfl)
theorem d102_13 : decode (pz_b 102) 13 = .ok (.iconst 0, 1) := by decide +kernel
theorem q102_13 {dA : Nat → ClassId} {d : Nat} {st : List Value} {f : pz_F} {Q : Option Value → pz_F → Prop} {v0 v1 v2 v3 v4 : Value} : pz_R dA d 102 13 [v0, v1, v2, v3, v4] st f Q = pz_R dA d 102 14 [v0, v1, v2, v3, v4] (.int 0 :: st) f Q := pz_go (pz_so d102_13 rfl)
theorem d102_14 : decode (pz_b 102) 14 = .ok (.invokevirtual 89, 3) := by decide +kernel
theorem q102_14 {dA : Nat → ClassId} {d : Nat} {st : List Value} {f : pz_F} {Q : Option Value → pz_F → Prop} {v0 v1 v2 v3 v4 : Value} {c0 : Int32} {c1 : Int32} {b : Nat} (hr : st.length ≤ 4) : pz_R dA (d + 1) 102 14 [v0, v1, v2, v3, v4] (.int c1 :: .int c0 :: .ref b :: st) f Q = pz_o (pz_gu f b 6) (fun _ => pz_C dA d 100 [.ref b, .int c0, .int c1] f (fun r f' => pz_R dA (d + 1) 102 17 [v0, v1, v2, v3, v4] (r.toList ++ st) f' Q)) := pz_gcv (As := [.int c0, .int c1]) d102_14 rfl rfl rfl hr
theorem d102_17 : decode (pz_b 102) 17 = .ok (.istore_n 3, 1) := by decide +kernel
theorem q102_17 {dA : Nat → ClassId} {d : Nat} {st : List Value} {f : pz_F} {Q : Option Value → pz_F → Prop} {v0 v1 v2 v3 v4 : Value} {x : Int32} : pz_R dA d 102 17 [v0, v1, v2, v3, v4] (.int x :: st) f Q = pz_R dA d 102 18 [v0, v1, v2, .int x, v4] st f Q := pz_go (pz_so d102_17 rfl)
theorem d102_18 : decode (pz_b 102) 18 = .ok (.aload_n 0, 1) := by decide +kernel
theorem q102_18 {dA : Nat → ClassId} {d : Nat} {st : List Value} {f : pz_F} {Q : Option Value → pz_F → Prop} {v1 v2 v3 v4 : Value} {x : Nat} : pz_R dA d 102 18 [.ref x, v1, v2, v3, v4] st f Q = pz_R dA d 102 19 [.ref x, v1, v2, v3, v4] (.ref x :: st) f Q := pz_go (pz_so d102_18 rfl)
theorem d102_19 : decode (pz_b 102) 19 = .ok (.getfield 13, 3) := by decide +kernel
theorem q102_19 {dA : Nat → ClassId} {d : Nat} {st : List Value} {f : pz_F} {Q : Option Value → pz_F → Prop} {v0 v1 v2 v3 v4 : Value} {a : Nat} : pz_R dA d 102 19 [v0, v1, v2, v3, v4] (.ref a :: st) f Q = pz_o (pz_gf f a 6 2) (fun v => pz_R dA d 102 22 [v0, v1, v2, v3, v4] (v :: st) f Q) := pz_gg d102_19 rfl
theorem d102_22 : decode (pz_b 102) 22 = .ok (.iload_n 1, 1) := by decide +kernel
theorem q102_22 {dA : Nat → ClassId} {d : Nat} {st : List Value} {f : pz_F} {Q : Option Value → pz_F → Prop} {v0 v2 v3 v4 : Value} {x : Int32} : pz_R dA d 102 22 [v0, .int x, v2, v3, v4] st f Q = pz_R dA d 102 23 [v0, .int x, v2, v3, v4] (.int x :: st) f Q := pz_go (pz_so d102_22 rfl)
theorem d102_23 : decode (pz_b 102) 23 = .ok (.iaload, 1) := by decide +kernel
theorem q102_23 {dA : Nat → ClassId} {d : Nat} {st : List Value} {f : pz_F} {Q : Option Value → pz_F → Prop} {v0 v1 v2 v3 v4 : Value} {i : Int32} {a : Nat} : pz_R dA d 102 23 [v0, v1, v2, v3, v4] (.int i :: .ref a :: st) f Q = pz_o (pz_il (dA 0) f a i) (fun x => pz_R dA d 102 24 [v0, v1, v2, v3, v4] (.int x :: st) f Q) := pz_gil d102_23
theorem d102_24 : decode (pz_b 102) 24 = .ok (.iconst 3, 1) := by decide +kernel
theorem q102_24 {dA : Nat → ClassId} {d : Nat} {st : List Value} {f : pz_F} {Q : Option Value → pz_F → Prop} {v0 v1 v2 v3 v4 : Value} : pz_R dA d 102 24 [v0, v1, v2, v3, v4] st f Q = pz_R dA d 102 25 [v0, v1, v2, v3, v4] (.int 3 :: st) f Q := pz_go (pz_so d102_24 rfl)
theorem d102_25 : decode (pz_b 102) 25 = .ok (.if_icmp .ne 23, 3) := by decide +kernel
theorem q102_25 {dA : Nat → ClassId} {d : Nat} {st : List Value} {f : pz_F} {Q : Option Value → pz_F → Prop} {v0 v1 v2 v3 v4 : Value} {x y : Int32} : pz_R dA d 102 25 [v0, v1, v2, v3, v4] (.int y :: .int x :: st) f Q = (if x = y then pz_R dA d 102 28 [v0, v1, v2, v3, v4] st f Q else pz_R dA d 102 48 [v0, v1, v2, v3, v4] st f Q) := pz_gjn .ne d102_25 rfl
theorem d102_28 : decode (pz_b 102) 28 = .ok (.aload_n 0, 1) := by decide +kernel
theorem q102_28 {dA : Nat → ClassId} {d : Nat} {st : List Value} {f : pz_F} {Q : Option Value → pz_F → Prop} {v1 v2 v3 v4 : Value} {x : Nat} : pz_R dA d 102 28 [.ref x, v1, v2, v3, v4] st f Q = pz_R dA d 102 29 [.ref x, v1, v2, v3, v4] (.ref x :: st) f Q := pz_go (pz_so d102_28 rfl)
theorem d102_29 : decode (pz_b 102) 29 = .ok (.getfield 78, 3) := by decide +kernel
theorem q102_29 {dA : Nat → ClassId} {d : Nat} {st : List Value} {f : pz_F} {Q : Option Value → pz_F → Prop} {v0 v1 v2 v3 v4 : Value} {a : Nat} : pz_R dA d 102 29 [v0, v1, v2, v3, v4] (.ref a :: st) f Q = pz_o (pz_gf f a 6 0) (fun v => pz_R dA d 102 32 [v0, v1, v2, v3, v4] (v :: st) f Q) := pz_gg d102_29 rfl
theorem d102_32 : decode (pz_b 102) 32 = .ok (.aload_n 0, 1) := by decide +kernel
theorem q102_32 {dA : Nat → ClassId} {d : Nat} {st : List Value} {f : pz_F} {Q : Option Value → pz_F → Prop} {v1 v2 v3 v4 : Value} {x : Nat} : pz_R dA d 102 32 [.ref x, v1, v2, v3, v4] st f Q = pz_R dA d 102 33 [.ref x, v1, v2, v3, v4] (.ref x :: st) f Q := pz_go (pz_so d102_32 rfl)
theorem d102_33 : decode (pz_b 102) 33 = .ok (.getfield 17, 3) := by decide +kernel
theorem q102_33 {dA : Nat → ClassId} {d : Nat} {st : List Value} {f : pz_F} {Q : Option Value → pz_F → Prop} {v0 v1 v2 v3 v4 : Value} {a : Nat} : pz_R dA d 102 33 [v0, v1, v2, v3, v4] (.ref a :: st) f Q = pz_o (pz_gf f a 6 3) (fun v => pz_R dA d 102 36 [v0, v1, v2, v3, v4] (v :: st) f Q) := pz_gg d102_33 rfl
theorem d102_36 : decode (pz_b 102) 36 = .ok (.iload_n 1, 1) := by decide +kernel
theorem q102_36 {dA : Nat → ClassId} {d : Nat} {st : List Value} {f : pz_F} {Q : Option Value → pz_F → Prop} {v0 v2 v3 v4 : Value} {x : Int32} : pz_R dA d 102 36 [v0, .int x, v2, v3, v4] st f Q = pz_R dA d 102 37 [v0, .int x, v2, v3, v4] (.int x :: st) f Q := pz_go (pz_so d102_36 rfl)
theorem d102_37 : decode (pz_b 102) 37 = .ok (.iaload, 1) := by decide +kernel
theorem q102_37 {dA : Nat → ClassId} {d : Nat} {st : List Value} {f : pz_F} {Q : Option Value → pz_F → Prop} {v0 v1 v2 v3 v4 : Value} {i : Int32} {a : Nat} : pz_R dA d 102 37 [v0, v1, v2, v3, v4] (.int i :: .ref a :: st) f Q = pz_o (pz_il (dA 0) f a i) (fun x => pz_R dA d 102 38 [v0, v1, v2, v3, v4] (.int x :: st) f Q) := pz_gil d102_37
theorem d102_38 : decode (pz_b 102) 38 = .ok (.bipush 6, 2) := by decide +kernel
theorem q102_38 {dA : Nat → ClassId} {d : Nat} {st : List Value} {f : pz_F} {Q : Option Value → pz_F → Prop} {v0 v1 v2 v3 v4 : Value} : pz_R dA d 102 38 [v0, v1, v2, v3, v4] st f Q = pz_R dA d 102 40 [v0, v1, v2, v3, v4] (.int 6 :: st) f Q := pz_go (pz_so d102_38 rfl)
theorem d102_40 : decode (pz_b 102) 40 = .ok (.iadd, 1) := by decide +kernel
theorem q102_40 {dA : Nat → ClassId} {d : Nat} {st : List Value} {f : pz_F} {Q : Option Value → pz_F → Prop} {v0 v1 v2 v3 v4 : Value} {x y : Int32} : pz_R dA d 102 40 [v0, v1, v2, v3, v4] (.int y :: .int x :: st) f Q = pz_R dA d 102 41 [v0, v1, v2, v3, v4] (.int (x + y) :: st) f Q := pz_go (pz_so d102_40 rfl)
theorem d102_41 : decode (pz_b 102) 41 = .ok (.if_icmp .le 7, 3) := by decide +kernel
theorem q102_41 {dA : Nat → ClassId} {d : Nat} {st : List Value} {f : pz_F} {Q : Option Value → pz_F → Prop} {v0 v1 v2 v3 v4 : Value} {x y : Int32} : pz_R dA d 102 41 [v0, v1, v2, v3, v4] (.int y :: .int x :: st) f Q = (if x ≤ y then pz_R dA d 102 48 [v0, v1, v2, v3, v4] st f Q else pz_R dA d 102 44 [v0, v1, v2, v3, v4] st f Q) := pz_gjn .le d102_41 rfl
theorem d102_44 : decode (pz_b 102) 44 = .ok (.iconst 1, 1) := by decide +kernel
theorem q102_44 {dA : Nat → ClassId} {d : Nat} {st : List Value} {f : pz_F} {Q : Option Value → pz_F → Prop} {v0 v1 v2 v3 v4 : Value} : pz_R dA d 102 44 [v0, v1, v2, v3, v4] st f Q = pz_R dA d 102 45 [v0, v1, v2, v3, v4] (.int 1 :: st) f Q := pz_go (pz_so d102_44 rfl)
theorem d102_45 : decode (pz_b 102) 45 = .ok (.goto 4, 3) := by decide +kernel
theorem q102_45 {dA : Nat → ClassId} {d : Nat} {st : List Value} {f : pz_F} {Q : Option Value → pz_F → Prop} {v0 v1 v2 v3 v4 : Value} : pz_R dA d 102 45 [v0, v1, v2, v3, v4] st f Q = pz_R dA d 102 49 [v0, v1, v2, v3, v4] st f Q := pz_go (pz_so d102_45 rfl)
theorem d102_48 : decode (pz_b 102) 48 = .ok (.iconst 0, 1) := by decide +kernel
theorem q102_48 {dA : Nat → ClassId} {d : Nat} {st : List Value} {f : pz_F} {Q : Option Value → pz_F → Prop} {v0 v1 v2 v3 v4 : Value} : pz_R dA d 102 48 [v0, v1, v2, v3, v4] st f Q = pz_R dA d 102 49 [v0, v1, v2, v3, v4] (.int 0 :: st) f Q := pz_go (pz_so d102_48 rfl)
theorem d102_49 : decode (pz_b 102) 49 = .ok (.istore 4, 2) := by decide +kernel
theorem q102_49 {dA : Nat → ClassId} {d : Nat} {st : List Value} {f : pz_F} {Q : Option Value → pz_F → Prop} {v0 v1 v2 v3 v4 : Value} {x : Int32} : pz_R dA d 102 49 [v0, v1, v2, v3, v4] (.int x :: st) f Q = pz_R dA d 102 51 [v0, v1, v2, v3, .int x] st f Q := pz_go (pz_so d102_49 rfl)
theorem d102_51 : decode (pz_b 102) 51 = .ok (.iload_n 3, 1) := by decide +kernel
theorem q102_51 {dA : Nat → ClassId} {d : Nat} {st : List Value} {f : pz_F} {Q : Option Value → pz_F → Prop} {v0 v1 v2 v4 : Value} {x : Int32} : pz_R dA d 102 51 [v0, v1, v2, .int x, v4] st f Q = pz_R dA d 102 52 [v0, v1, v2, .int x, v4] (.int x :: st) f Q := pz_go (pz_so d102_51 rfl)
theorem d102_52 : decode (pz_b 102) 52 = .ok (.ifCond .ge 15, 3) := by decide +kernel
theorem q102_52 {dA : Nat → ClassId} {d : Nat} {st : List Value} {f : pz_F} {Q : Option Value → pz_F → Prop} {v0 v1 v2 v3 v4 : Value} {x : Int32} : pz_R dA d 102 52 [v0, v1, v2, v3, v4] (.int x :: st) f Q = (if 0 ≤ x then pz_R dA d 102 67 [v0, v1, v2, v3, v4] st f Q else pz_R dA d 102 55 [v0, v1, v2, v3, v4] st f Q) := pz_gj1 .ge d102_52 rfl
theorem d102_55 : decode (pz_b 102) 55 = .ok (.iload 4, 2) := by decide +kernel
theorem q102_55 {dA : Nat → ClassId} {d : Nat} {st : List Value} {f : pz_F} {Q : Option Value → pz_F → Prop} {v0 v1 v2 v3 : Value} {x : Int32} : pz_R dA d 102 55 [v0, v1, v2, v3, .int x] st f Q = pz_R dA d 102 57 [v0, v1, v2, v3, .int x] (.int x :: st) f Q := pz_go (pz_so d102_55 rfl)
theorem d102_57 : decode (pz_b 102) 57 = .ok (.ifCond .eq 10, 3) := by decide +kernel
theorem q102_57 {dA : Nat → ClassId} {d : Nat} {st : List Value} {f : pz_F} {Q : Option Value → pz_F → Prop} {v0 v1 v2 v3 v4 : Value} {x : Int32} : pz_R dA d 102 57 [v0, v1, v2, v3, v4] (.int x :: st) f Q = (if x = 0 then pz_R dA d 102 67 [v0, v1, v2, v3, v4] st f Q else pz_R dA d 102 60 [v0, v1, v2, v3, v4] st f Q) := pz_gj1 .eq d102_57 rfl
theorem d102_60 : decode (pz_b 102) 60 = .ok (.aload_n 0, 1) := by decide +kernel
theorem q102_60 {dA : Nat → ClassId} {d : Nat} {st : List Value} {f : pz_F} {Q : Option Value → pz_F → Prop} {v1 v2 v3 v4 : Value} {x : Nat} : pz_R dA d 102 60 [.ref x, v1, v2, v3, v4] st f Q = pz_R dA d 102 61 [.ref x, v1, v2, v3, v4] (.ref x :: st) f Q := pz_go (pz_so d102_60 rfl)
theorem d102_61 : decode (pz_b 102) 61 = .ok (.iload_n 1, 1) := by decide +kernel
theorem q102_61 {dA : Nat → ClassId} {d : Nat} {st : List Value} {f : pz_F} {Q : Option Value → pz_F → Prop} {v0 v2 v3 v4 : Value} {x : Int32} : pz_R dA d 102 61 [v0, .int x, v2, v3, v4] st f Q = pz_R dA d 102 62 [v0, .int x, v2, v3, v4] (.int x :: st) f Q := pz_go (pz_so d102_61 rfl)
theorem d102_62 : decode (pz_b 102) 62 = .ok (.iconst 1, 1) := by decide +kernel
theorem q102_62 {dA : Nat → ClassId} {d : Nat} {st : List Value} {f : pz_F} {Q : Option Value → pz_F → Prop} {v0 v1 v2 v3 v4 : Value} : pz_R dA d 102 62 [v0, v1, v2, v3, v4] st f Q = pz_R dA d 102 63 [v0, v1, v2, v3, v4] (.int 1 :: st) f Q := pz_go (pz_so d102_62 rfl)
theorem d102_63 : decode (pz_b 102) 63 = .ok (.invokevirtual 89, 3) := by decide +kernel
theorem q102_63 {dA : Nat → ClassId} {d : Nat} {st : List Value} {f : pz_F} {Q : Option Value → pz_F → Prop} {v0 v1 v2 v3 v4 : Value} {c0 : Int32} {c1 : Int32} {b : Nat} (hr : st.length ≤ 4) : pz_R dA (d + 1) 102 63 [v0, v1, v2, v3, v4] (.int c1 :: .int c0 :: .ref b :: st) f Q = pz_o (pz_gu f b 6) (fun _ => pz_C dA d 100 [.ref b, .int c0, .int c1] f (fun r f' => pz_R dA (d + 1) 102 66 [v0, v1, v2, v3, v4] (r.toList ++ st) f' Q)) := pz_gcv (As := [.int c0, .int c1]) d102_63 rfl rfl rfl hr
theorem d102_66 : decode (pz_b 102) 66 = .ok (.istore_n 3, 1) := by decide +kernel
theorem q102_66 {dA : Nat → ClassId} {d : Nat} {st : List Value} {f : pz_F} {Q : Option Value → pz_F → Prop} {v0 v1 v2 v3 v4 : Value} {x : Int32} : pz_R dA d 102 66 [v0, v1, v2, v3, v4] (.int x :: st) f Q = pz_R dA d 102 67 [v0, v1, v2, .int x, v4] st f Q := pz_go (pz_so d102_66 rfl)
theorem d102_67 : decode (pz_b 102) 67 = .ok (.iload_n 3, 1) := by decide +kernel
theorem q102_67 {dA : Nat → ClassId} {d : Nat} {st : List Value} {f : pz_F} {Q : Option Value → pz_F → Prop} {v0 v1 v2 v4 : Value} {x : Int32} : pz_R dA d 102 67 [v0, v1, v2, .int x, v4] st f Q = pz_R dA d 102 68 [v0, v1, v2, .int x, v4] (.int x :: st) f Q := pz_go (pz_so d102_67 rfl)
theorem d102_68 : decode (pz_b 102) 68 = .ok (.ifCond .ge 14, 3) := by decide +kernel
theorem q102_68 {dA : Nat → ClassId} {d : Nat} {st : List Value} {f : pz_F} {Q : Option Value → pz_F → Prop} {v0 v1 v2 v3 v4 : Value} {x : Int32} : pz_R dA d 102 68 [v0, v1, v2, v3, v4] (.int x :: st) f Q = (if 0 ≤ x then pz_R dA d 102 82 [v0, v1, v2, v3, v4] st f Q else pz_R dA d 102 71 [v0, v1, v2, v3, v4] st f Q) := pz_gj1 .ge d102_68 rfl
theorem d102_71 : decode (pz_b 102) 71 = .ok (.iload 4, 2) := by decide +kernel
theorem q102_71 {dA : Nat → ClassId} {d : Nat} {st : List Value} {f : pz_F} {Q : Option Value → pz_F → Prop} {v0 v1 v2 v3 : Value} {x : Int32} : pz_R dA d 102 71 [v0, v1, v2, v3, .int x] st f Q = pz_R dA d 102 73 [v0, v1, v2, v3, .int x] (.int x :: st) f Q := pz_go (pz_so d102_71 rfl)
theorem d102_73 : decode (pz_b 102) 73 = .ok (.ifCond .eq 9, 3) := by decide +kernel
theorem q102_73 {dA : Nat → ClassId} {d : Nat} {st : List Value} {f : pz_F} {Q : Option Value → pz_F → Prop} {v0 v1 v2 v3 v4 : Value} {x : Int32} : pz_R dA d 102 73 [v0, v1, v2, v3, v4] (.int x :: st) f Q = (if x = 0 then pz_R dA d 102 82 [v0, v1, v2, v3, v4] st f Q else pz_R dA d 102 76 [v0, v1, v2, v3, v4] st f Q) := pz_gj1 .eq d102_73 rfl
theorem d102_76 : decode (pz_b 102) 76 = .ok (.aload_n 0, 1) := by decide +kernel
theorem q102_76 {dA : Nat → ClassId} {d : Nat} {st : List Value} {f : pz_F} {Q : Option Value → pz_F → Prop} {v1 v2 v3 v4 : Value} {x : Nat} : pz_R dA d 102 76 [.ref x, v1, v2, v3, v4] st f Q = pz_R dA d 102 77 [.ref x, v1, v2, v3, v4] (.ref x :: st) f Q := pz_go (pz_so d102_76 rfl)
theorem d102_77 : decode (pz_b 102) 77 = .ok (.iload_n 1, 1) := by decide +kernel
theorem q102_77 {dA : Nat → ClassId} {d : Nat} {st : List Value} {f : pz_F} {Q : Option Value → pz_F → Prop} {v0 v2 v3 v4 : Value} {x : Int32} : pz_R dA d 102 77 [v0, .int x, v2, v3, v4] st f Q = pz_R dA d 102 78 [v0, .int x, v2, v3, v4] (.int x :: st) f Q := pz_go (pz_so d102_77 rfl)
theorem d102_78 : decode (pz_b 102) 78 = .ok (.invokevirtual 93, 3) := by decide +kernel
theorem q102_78 {dA : Nat → ClassId} {d : Nat} {st : List Value} {f : pz_F} {Q : Option Value → pz_F → Prop} {v0 v1 v2 v3 v4 : Value} {c0 : Int32} {b : Nat} (hr : st.length ≤ 4) : pz_R dA (d + 1) 102 78 [v0, v1, v2, v3, v4] (.int c0 :: .ref b :: st) f Q = pz_o (pz_gu f b 6) (fun _ => pz_C dA d 101 [.ref b, .int c0] f (fun r f' => pz_R dA (d + 1) 102 81 [v0, v1, v2, v3, v4] (r.toList ++ st) f' Q)) := pz_gcv (As := [.int c0]) d102_78 rfl rfl rfl hr
theorem d102_81 : decode (pz_b 102) 81 = .ok (.istore_n 3, 1) := by decide +kernel
theorem q102_81 {dA : Nat → ClassId} {d : Nat} {st : List Value} {f : pz_F} {Q : Option Value → pz_F → Prop} {v0 v1 v2 v3 v4 : Value} {x : Int32} : pz_R dA d 102 81 [v0, v1, v2, v3, v4] (.int x :: st) f Q = pz_R dA d 102 82 [v0, v1, v2, .int x, v4] st f Q := pz_go (pz_so d102_81 rfl)
theorem d102_82 : decode (pz_b 102) 82 = .ok (.iload_n 3, 1) := by decide +kernel
theorem q102_82 {dA : Nat → ClassId} {d : Nat} {st : List Value} {f : pz_F} {Q : Option Value → pz_F → Prop} {v0 v1 v2 v4 : Value} {x : Int32} : pz_R dA d 102 82 [v0, v1, v2, .int x, v4] st f Q = pz_R dA d 102 83 [v0, v1, v2, .int x, v4] (.int x :: st) f Q := pz_go (pz_so d102_82 rfl)
theorem d102_83 : decode (pz_b 102) 83 = .ok (.ireturn, 1) := by decide +kernel
theorem q102_83 {dA : Nat → ClassId} {d : Nat} {f : pz_F} {Q : Option Value → pz_F → Prop} {v0 v1 v2 v3 v4 : Value} {x : Int32} : pz_R dA d 102 83 [v0, v1, v2, v3, v4] [.int x] f Q = Q (some (.int x)) f := pz_gri d102_83 rfl rfl
