/-! S_serves ()Z -/
theorem e36 {dA : Nat → ClassId} {d : Nat} {f : pz_F} {Q : Option Value → pz_F → Prop} {a0 : Nat} : pz_C dA d 36 [.ref a0] f Q = pz_R dA d 36 0 [.ref a0] [] f Q := rfl
theorem d36_0 : decode (pz_b 36) 0 = .ok (.aload_n 0, 1) := by decide +kernel
theorem q36_0 {dA : Nat → ClassId} {d : Nat} {st : List Value} {f : pz_F} {Q : Option Value → pz_F → Prop} {x : Nat} : pz_R dA d 36 0 [.ref x] st f Q = pz_R dA d 36 1 [.ref x] (.ref x :: st) f Q := pz_go (pz_so d36_0 rfl)
theorem d36_1 : decode (pz_b 36) 1 = .ok (.getfield 15, 3) := by decide +kernel
theorem q36_1 {dA : Nat → ClassId} {d : Nat} {st : List Value} {f : pz_F} {Q : Option Value → pz_F → Prop} {v0 : Value} {a : Nat} : pz_R dA d 36 1 [v0] (.ref a :: st) f Q = pz_o (pz_gf f a 1 2) (fun v => pz_R dA d 36 4 [v0] (v :: st) f Q) := pz_gg d36_1 rfl
theorem d36_4 : decode (pz_b 36) 4 = .ok (.iconst 1, 1) := by decide +kernel
theorem q36_4 {dA : Nat → ClassId} {d : Nat} {st : List Value} {f : pz_F} {Q : Option Value → pz_F → Prop} {v0 : Value} : pz_R dA d 36 4 [v0] st f Q = pz_R dA d 36 5 [v0] (.int 1 :: st) f Q := pz_go (pz_so d36_4 rfl)
theorem d36_5 : decode (pz_b 36) 5 = .ok (.if_icmp .eq 19, 3) := by decide +kernel
theorem q36_5 {dA : Nat → ClassId} {d : Nat} {st : List Value} {f : pz_F} {Q : Option Value → pz_F → Prop} {v0 : Value} {x y : Int32} : pz_R dA d 36 5 [v0] (.int y :: .int x :: st) f Q = (if x = y then pz_R dA d 36 24 [v0] st f Q else pz_R dA d 36 8 [v0] st f Q) := pz_gjn .eq d36_5 rfl
theorem d36_8 : decode (pz_b 36) 8 = .ok (.aload_n 0, 1) := by decide +kernel
theorem q36_8 {dA : Nat → ClassId} {d : Nat} {st : List Value} {f : pz_F} {Q : Option Value → pz_F → Prop} {x : Nat} : pz_R dA d 36 8 [.ref x] st f Q = pz_R dA d 36 9 [.ref x] (.ref x :: st) f Q := pz_go (pz_so d36_8 rfl)
theorem d36_9 : decode (pz_b 36) 9 = .ok (.getfield 15, 3) := by decide +kernel
theorem q36_9 {dA : Nat → ClassId} {d : Nat} {st : List Value} {f : pz_F} {Q : Option Value → pz_F → Prop} {v0 : Value} {a : Nat} : pz_R dA d 36 9 [v0] (.ref a :: st) f Q = pz_o (pz_gf f a 1 2) (fun v => pz_R dA d 36 12 [v0] (v :: st) f Q) := pz_gg d36_9 rfl
theorem d36_12 : decode (pz_b 36) 12 = .ok (.iconst 2, 1) := by decide +kernel
theorem q36_12 {dA : Nat → ClassId} {d : Nat} {st : List Value} {f : pz_F} {Q : Option Value → pz_F → Prop} {v0 : Value} : pz_R dA d 36 12 [v0] st f Q = pz_R dA d 36 13 [v0] (.int 2 :: st) f Q := pz_go (pz_so d36_12 rfl)
theorem d36_13 : decode (pz_b 36) 13 = .ok (.if_icmp .eq 11, 3) := by decide +kernel
theorem q36_13 {dA : Nat → ClassId} {d : Nat} {st : List Value} {f : pz_F} {Q : Option Value → pz_F → Prop} {v0 : Value} {x y : Int32} : pz_R dA d 36 13 [v0] (.int y :: .int x :: st) f Q = (if x = y then pz_R dA d 36 24 [v0] st f Q else pz_R dA d 36 16 [v0] st f Q) := pz_gjn .eq d36_13 rfl
theorem d36_16 : decode (pz_b 36) 16 = .ok (.aload_n 0, 1) := by decide +kernel
theorem q36_16 {dA : Nat → ClassId} {d : Nat} {st : List Value} {f : pz_F} {Q : Option Value → pz_F → Prop} {x : Nat} : pz_R dA d 36 16 [.ref x] st f Q = pz_R dA d 36 17 [.ref x] (.ref x :: st) f Q := pz_go (pz_so d36_16 rfl)
theorem d36_17 : decode (pz_b 36) 17 = .ok (.getfield 15, 3) := by decide +kernel
theorem q36_17 {dA : Nat → ClassId} {d : Nat} {st : List Value} {f : pz_F} {Q : Option Value → pz_F → Prop} {v0 : Value} {a : Nat} : pz_R dA d 36 17 [v0] (.ref a :: st) f Q = pz_o (pz_gf f a 1 2) (fun v => pz_R dA d 36 20 [v0] (v :: st) f Q) := pz_gg d36_17 rfl
theorem d36_20 : decode (pz_b 36) 20 = .ok (.iconst 3, 1) := by decide +kernel
theorem q36_20 {dA : Nat → ClassId} {d : Nat} {st : List Value} {f : pz_F} {Q : Option Value → pz_F → Prop} {v0 : Value} : pz_R dA d 36 20 [v0] st f Q = pz_R dA d 36 21 [v0] (.int 3 :: st) f Q := pz_go (pz_so d36_20 rfl)
theorem d36_21 : decode (pz_b 36) 21 = .ok (.if_icmp .ne 7, 3) := by decide +kernel
theorem q36_21 {dA : Nat → ClassId} {d : Nat} {st : List Value} {f : pz_F} {Q : Option Value → pz_F → Prop} {v0 : Value} {x y : Int32} : pz_R dA d 36 21 [v0] (.int y :: .int x :: st) f Q = (if x = y then pz_R dA d 36 24 [v0] st f Q else pz_R dA d 36 28 [v0] st f Q) := pz_gjn .ne d36_21 rfl
theorem d36_24 : decode (pz_b 36) 24 = .ok (.iconst 1, 1) := by decide +kernel
theorem q36_24 {dA : Nat → ClassId} {d : Nat} {st : List Value} {f : pz_F} {Q : Option Value → pz_F → Prop} {v0 : Value} : pz_R dA d 36 24 [v0] st f Q = pz_R dA d 36 25 [v0] (.int 1 :: st) f Q := pz_go (pz_so d36_24 rfl)
theorem d36_25 : decode (pz_b 36) 25 = .ok (.goto 4, 3) := by decide +kernel
theorem q36_25 {dA : Nat → ClassId} {d : Nat} {st : List Value} {f : pz_F} {Q : Option Value → pz_F → Prop} {v0 : Value} : pz_R dA d 36 25 [v0] st f Q = pz_R dA d 36 29 [v0] st f Q := pz_go (pz_so d36_25 rfl)
theorem d36_28 : decode (pz_b 36) 28 = .ok (.iconst 0, 1) := by decide +kernel
theorem q36_28 {dA : Nat → ClassId} {d : Nat} {st : List Value} {f : pz_F} {Q : Option Value → pz_F → Prop} {v0 : Value} : pz_R dA d 36 28 [v0] st f Q = pz_R dA d 36 29 [v0] (.int 0 :: st) f Q := pz_go (pz_so d36_28 rfl)
theorem d36_29 : decode (pz_b 36) 29 = .ok (.ireturn, 1) := by decide +kernel
theorem q36_29z {dA : Nat → ClassId} {d : Nat} {f : pz_F} {Q : Option Value → pz_F → Prop} {v0 : Value} : pz_R dA d 36 29 [v0] [.int 0] f Q = Q (some (.int 0)) f := pz_gri d36_29 rfl rfl
theorem q36_29o {dA : Nat → ClassId} {d : Nat} {f : pz_F} {Q : Option Value → pz_F → Prop} {v0 : Value} : pz_R dA d 36 29 [v0] [.int 1] f Q = Q (some (.int 1)) f := pz_gri d36_29 rfl rfl
/-! S_hasGot (I)Z -/
theorem e37 {dA : Nat → ClassId} {d : Nat} {f : pz_F} {Q : Option Value → pz_F → Prop} {a0 : Nat} {a1 : Int32} : pz_C dA d 37 [.ref a0, .int a1] f Q = pz_R dA d 37 0 [.ref a0, .int a1] [] f Q := rfl
theorem d37_0 : decode (pz_b 37) 0 = .ok (.aload_n 0, 1) := by decide +kernel
theorem q37_0 {dA : Nat → ClassId} {d : Nat} {st : List Value} {f : pz_F} {Q : Option Value → pz_F → Prop} {v1 : Value} {x : Nat} : pz_R dA d 37 0 [.ref x, v1] st f Q = pz_R dA d 37 1 [.ref x, v1] (.ref x :: st) f Q := pz_go (pz_so d37_0 rfl)
theorem d37_1 : decode (pz_b 37) 1 = .ok (.getfield 25, 3) := by decide +kernel
theorem q37_1 {dA : Nat → ClassId} {d : Nat} {st : List Value} {f : pz_F} {Q : Option Value → pz_F → Prop} {v0 v1 : Value} {a : Nat} : pz_R dA d 37 1 [v0, v1] (.ref a :: st) f Q = pz_o (pz_gf f a 1 6) (fun v => pz_R dA d 37 4 [v0, v1] (v :: st) f Q) := pz_gg d37_1 rfl
theorem d37_4 : decode (pz_b 37) 4 = .ok (.iload_n 1, 1) := by decide +kernel
theorem q37_4 {dA : Nat → ClassId} {d : Nat} {st : List Value} {f : pz_F} {Q : Option Value → pz_F → Prop} {v0 : Value} {x : Int32} : pz_R dA d 37 4 [v0, .int x] st f Q = pz_R dA d 37 5 [v0, .int x] (.int x :: st) f Q := pz_go (pz_so d37_4 rfl)
theorem d37_5 : decode (pz_b 37) 5 = .ok (.ishr, 1) := by decide +kernel
theorem q37_5 {dA : Nat → ClassId} {d : Nat} {st : List Value} {f : pz_F} {Q : Option Value → pz_F → Prop} {v0 v1 : Value} {x y : Int32} : pz_R dA d 37 5 [v0, v1] (.int y :: .int x :: st) f Q = pz_R dA d 37 6 [v0, v1] (.int (x >>> (y &&& 31)) :: st) f Q := pz_go (pz_so d37_5 rfl)
theorem d37_6 : decode (pz_b 37) 6 = .ok (.iconst 1, 1) := by decide +kernel
theorem q37_6 {dA : Nat → ClassId} {d : Nat} {st : List Value} {f : pz_F} {Q : Option Value → pz_F → Prop} {v0 v1 : Value} : pz_R dA d 37 6 [v0, v1] st f Q = pz_R dA d 37 7 [v0, v1] (.int 1 :: st) f Q := pz_go (pz_so d37_6 rfl)
theorem d37_7 : decode (pz_b 37) 7 = .ok (.iand, 1) := by decide +kernel
theorem q37_7 {dA : Nat → ClassId} {d : Nat} {st : List Value} {f : pz_F} {Q : Option Value → pz_F → Prop} {v0 v1 : Value} {x y : Int32} : pz_R dA d 37 7 [v0, v1] (.int y :: .int x :: st) f Q = pz_R dA d 37 8 [v0, v1] (.int (x &&& y) :: st) f Q := pz_go (pz_so d37_7 rfl)
theorem d37_8 : decode (pz_b 37) 8 = .ok (.iconst 1, 1) := by decide +kernel
theorem q37_8 {dA : Nat → ClassId} {d : Nat} {st : List Value} {f : pz_F} {Q : Option Value → pz_F → Prop} {v0 v1 : Value} : pz_R dA d 37 8 [v0, v1] st f Q = pz_R dA d 37 9 [v0, v1] (.int 1 :: st) f Q := pz_go (pz_so d37_8 rfl)
theorem d37_9 : decode (pz_b 37) 9 = .ok (.if_icmp .ne 7, 3) := by decide +kernel
theorem q37_9 {dA : Nat → ClassId} {d : Nat} {st : List Value} {f : pz_F} {Q : Option Value → pz_F → Prop} {v0 v1 : Value} {x y : Int32} : pz_R dA d 37 9 [v0, v1] (.int y :: .int x :: st) f Q = (if x = y then pz_R dA d 37 12 [v0, v1] st f Q else pz_R dA d 37 16 [v0, v1] st f Q) := pz_gjn .ne d37_9 rfl
theorem d37_12 : decode (pz_b 37) 12 = .ok (.iconst 1, 1) := by decide +kernel
theorem q37_12 {dA : Nat → ClassId} {d : Nat} {st : List Value} {f : pz_F} {Q : Option Value → pz_F → Prop} {v0 v1 : Value} : pz_R dA d 37 12 [v0, v1] st f Q = pz_R dA d 37 13 [v0, v1] (.int 1 :: st) f Q := pz_go (pz_so d37_12 rfl)
theorem d37_13 : decode (pz_b 37) 13 = .ok (.goto 4, 3) := by decide +kernel
theorem q37_13 {dA : Nat → ClassId} {d : Nat} {st : List Value} {f : pz_F} {Q : Option Value → pz_F → Prop} {v0 v1 : Value} : pz_R dA d 37 13 [v0, v1] st f Q = pz_R dA d 37 17 [v0, v1] st f Q := pz_go (pz_so d37_13 rfl)
theorem d37_16 : decode (pz_b 37) 16 = .ok (.iconst 0, 1) := by decide +kernel
theorem q37_16 {dA : Nat → ClassId} {d : Nat} {st : List Value} {f : pz_F} {Q : Option Value → pz_F → Prop} {v0 v1 : Value} : pz_R dA d 37 16 [v0, v1] st f Q = pz_R dA d 37 17 [v0, v1] (.int 0 :: st) f Q := pz_go (pz_so d37_16 rfl)
theorem d37_17 : decode (pz_b 37) 17 = .ok (.ireturn, 1) := by decide +kernel
theorem q37_17z {dA : Nat → ClassId} {d : Nat} {f : pz_F} {Q : Option Value → pz_F → Prop} {v0 v1 : Value} : pz_R dA d 37 17 [v0, v1] [.int 0] f Q = Q (some (.int 0)) f := pz_gri d37_17 rfl rfl
theorem q37_17o {dA : Nat → ClassId} {d : Nat} {f : pz_F} {Q : Option Value → pz_F → Prop} {v0 v1 : Value} : pz_R dA d 37 17 [v0, v1] [.int 1] f Q = Q (some (.int 1)) f := pz_gri d37_17 rfl rfl
/-! S_isPastLead (I)Z -/
theorem e38 {dA : Nat → ClassId} {d : Nat} {f : pz_F} {Q : Option Value → pz_F → Prop} {a0 : Nat} {a1 : Int32} : pz_C dA d 38 [.ref a0, .int a1] f Q = pz_R dA d 38 0 [.ref a0, .int a1] [] f Q := rfl
theorem d38_0 : decode (pz_b 38) 0 = .ok (.iload_n 1, 1) := by decide +kernel
theorem q38_0 {dA : Nat → ClassId} {d : Nat} {st : List Value} {f : pz_F} {Q : Option Value → pz_F → Prop} {v0 : Value} {x : Int32} : pz_R dA d 38 0 [v0, .int x] st f Q = pz_R dA d 38 1 [v0, .int x] (.int x :: st) f Q := pz_go (pz_so d38_0 rfl)
theorem d38_1 : decode (pz_b 38) 1 = .ok (.aload_n 0, 1) := by decide +kernel
theorem q38_1 {dA : Nat → ClassId} {d : Nat} {st : List Value} {f : pz_F} {Q : Option Value → pz_F → Prop} {v1 : Value} {x : Nat} : pz_R dA d 38 1 [.ref x, v1] st f Q = pz_R dA d 38 2 [.ref x, v1] (.ref x :: st) f Q := pz_go (pz_so d38_1 rfl)
theorem d38_2 : decode (pz_b 38) 2 = .ok (.getfield 28, 3) := by decide +kernel
theorem q38_2 {dA : Nat → ClassId} {d : Nat} {st : List Value} {f : pz_F} {Q : Option Value → pz_F → Prop} {v0 v1 : Value} {a : Nat} : pz_R dA d 38 2 [v0, v1] (.ref a :: st) f Q = pz_o (pz_gf f a 1 3) (fun v => pz_R dA d 38 5 [v0, v1] (v :: st) f Q) := pz_gg d38_2 rfl
theorem d38_5 : decode (pz_b 38) 5 = .ok (.bipush 6, 2) := by decide +kernel
theorem q38_5 {dA : Nat → ClassId} {d : Nat} {st : List Value} {f : pz_F} {Q : Option Value → pz_F → Prop} {v0 v1 : Value} : pz_R dA d 38 5 [v0, v1] st f Q = pz_R dA d 38 7 [v0, v1] (.int 6 :: st) f Q := pz_go (pz_so d38_5 rfl)
theorem d38_7 : decode (pz_b 38) 7 = .ok (.iadd, 1) := by decide +kernel
theorem q38_7 {dA : Nat → ClassId} {d : Nat} {st : List Value} {f : pz_F} {Q : Option Value → pz_F → Prop} {v0 v1 : Value} {x y : Int32} : pz_R dA d 38 7 [v0, v1] (.int y :: .int x :: st) f Q = pz_R dA d 38 8 [v0, v1] (.int (x + y) :: st) f Q := pz_go (pz_so d38_7 rfl)
theorem d38_8 : decode (pz_b 38) 8 = .ok (.if_icmp .le 7, 3) := by decide +kernel
theorem q38_8 {dA : Nat → ClassId} {d : Nat} {st : List Value} {f : pz_F} {Q : Option Value → pz_F → Prop} {v0 v1 : Value} {x y : Int32} : pz_R dA d 38 8 [v0, v1] (.int y :: .int x :: st) f Q = (if x ≤ y then pz_R dA d 38 15 [v0, v1] st f Q else pz_R dA d 38 11 [v0, v1] st f Q) := pz_gjn .le d38_8 rfl
theorem d38_11 : decode (pz_b 38) 11 = .ok (.iconst 1, 1) := by decide +kernel
theorem q38_11 {dA : Nat → ClassId} {d : Nat} {st : List Value} {f : pz_F} {Q : Option Value → pz_F → Prop} {v0 v1 : Value} : pz_R dA d 38 11 [v0, v1] st f Q = pz_R dA d 38 12 [v0, v1] (.int 1 :: st) f Q := pz_go (pz_so d38_11 rfl)
theorem d38_12 : decode (pz_b 38) 12 = .ok (.goto 4, 3) := by decide +kernel
theorem q38_12 {dA : Nat → ClassId} {d : Nat} {st : List Value} {f : pz_F} {Q : Option Value → pz_F → Prop} {v0 v1 : Value} : pz_R dA d 38 12 [v0, v1] st f Q = pz_R dA d 38 16 [v0, v1] st f Q := pz_go (pz_so d38_12 rfl)
theorem d38_15 : decode (pz_b 38) 15 = .ok (.iconst 0, 1) := by decide +kernel
theorem q38_15 {dA : Nat → ClassId} {d : Nat} {st : List Value} {f : pz_F} {Q : Option Value → pz_F → Prop} {v0 v1 : Value} : pz_R dA d 38 15 [v0, v1] st f Q = pz_R dA d 38 16 [v0, v1] (.int 0 :: st) f Q := pz_go (pz_so d38_15 rfl)
theorem d38_16 : decode (pz_b 38) 16 = .ok (.ireturn, 1) := by decide +kernel
theorem q38_16z {dA : Nat → ClassId} {d : Nat} {f : pz_F} {Q : Option Value → pz_F → Prop} {v0 v1 : Value} : pz_R dA d 38 16 [v0, v1] [.int 0] f Q = Q (some (.int 0)) f := pz_gri d38_16 rfl rfl
theorem q38_16o {dA : Nat → ClassId} {d : Nat} {f : pz_F} {Q : Option Value → pz_F → Prop} {v0 v1 : Value} : pz_R dA d 38 16 [v0, v1] [.int 1] f Q = Q (some (.int 1)) f := pz_gri d38_16 rfl rfl
/-! S_beginRecovery (I)V -/
theorem e39 {dA : Nat → ClassId} {d : Nat} {f : pz_F} {Q : Option Value → pz_F → Prop} {a0 : Nat} {a1 : Int32} : pz_C dA d 39 [.ref a0, .int a1] f Q = pz_R dA d 39 0 [.ref a0, .int a1] [] f Q := rfl
theorem d39_0 : decode (pz_b 39) 0 = .ok (.aload_n 0, 1) := by decide +kernel
theorem q39_0 {dA : Nat → ClassId} {d : Nat} {st : List Value} {f : pz_F} {Q : Option Value → pz_F → Prop} {v1 : Value} {x : Nat} : pz_R dA d 39 0 [.ref x, v1] st f Q = pz_R dA d 39 1 [.ref x, v1] (.ref x :: st) f Q := pz_go (pz_so d39_0 rfl)
theorem d39_1 : decode (pz_b 39) 1 = .ok (.iconst 4, 1) := by decide +kernel
theorem q39_1 {dA : Nat → ClassId} {d : Nat} {st : List Value} {f : pz_F} {Q : Option Value → pz_F → Prop} {v0 v1 : Value} : pz_R dA d 39 1 [v0, v1] st f Q = pz_R dA d 39 2 [v0, v1] (.int 4 :: st) f Q := pz_go (pz_so d39_1 rfl)
theorem d39_2 : decode (pz_b 39) 2 = .ok (.putfield 15, 3) := by decide +kernel
theorem q39_2 {dA : Nat → ClassId} {d : Nat} {st : List Value} {f : pz_F} {Q : Option Value → pz_F → Prop} {v0 v1 : Value} {x : Int32} {a : Nat} : pz_R dA d 39 2 [v0, v1] (.int x :: .ref a :: st) f Q = pz_o (pz_pf f a 1 2 (.int x)) (fun f' => pz_R dA d 39 5 [v0, v1] st f' Q) := pz_gp d39_2 rfl rfl rfl rfl
theorem d39_5 : decode (pz_b 39) 5 = .ok (.aload_n 0, 1) := by decide +kernel
theorem q39_5 {dA : Nat → ClassId} {d : Nat} {st : List Value} {f : pz_F} {Q : Option Value → pz_F → Prop} {v1 : Value} {x : Nat} : pz_R dA d 39 5 [.ref x, v1] st f Q = pz_R dA d 39 6 [.ref x, v1] (.ref x :: st) f Q := pz_go (pz_so d39_5 rfl)
theorem d39_6 : decode (pz_b 39) 6 = .ok (.iload_n 1, 1) := by decide +kernel
theorem q39_6 {dA : Nat → ClassId} {d : Nat} {st : List Value} {f : pz_F} {Q : Option Value → pz_F → Prop} {v0 : Value} {x : Int32} : pz_R dA d 39 6 [v0, .int x] st f Q = pz_R dA d 39 7 [v0, .int x] (.int x :: st) f Q := pz_go (pz_so d39_6 rfl)
theorem d39_7 : decode (pz_b 39) 7 = .ok (.putfield 28, 3) := by decide +kernel
theorem q39_7 {dA : Nat → ClassId} {d : Nat} {st : List Value} {f : pz_F} {Q : Option Value → pz_F → Prop} {v0 v1 : Value} {x : Int32} {a : Nat} : pz_R dA d 39 7 [v0, v1] (.int x :: .ref a :: st) f Q = pz_o (pz_pf f a 1 3 (.int x)) (fun f' => pz_R dA d 39 10 [v0, v1] st f' Q) := pz_gp d39_7 rfl rfl rfl rfl
theorem d39_10 : decode (pz_b 39) 10 = .ok (.aload_n 0, 1) := by decide +kernel
theorem q39_10 {dA : Nat → ClassId} {d : Nat} {st : List Value} {f : pz_F} {Q : Option Value → pz_F → Prop} {v1 : Value} {x : Nat} : pz_R dA d 39 10 [.ref x, v1] st f Q = pz_R dA d 39 11 [.ref x, v1] (.ref x :: st) f Q := pz_go (pz_so d39_10 rfl)
theorem d39_11 : decode (pz_b 39) 11 = .ok (.dup, 1) := by decide +kernel
theorem q39_11 {dA : Nat → ClassId} {d : Nat} {st : List Value} {f : pz_F} {Q : Option Value → pz_F → Prop} {v0 v1 : Value} {x : Nat} : pz_R dA d 39 11 [v0, v1] (.ref x :: st) f Q = pz_R dA d 39 12 [v0, v1] (.ref x :: .ref x :: st) f Q := pz_go (pz_so d39_11 rfl)
theorem d39_12 : decode (pz_b 39) 12 = .ok (.getfield 31, 3) := by decide +kernel
theorem q39_12 {dA : Nat → ClassId} {d : Nat} {st : List Value} {f : pz_F} {Q : Option Value → pz_F → Prop} {v0 v1 : Value} {a : Nat} : pz_R dA d 39 12 [v0, v1] (.ref a :: st) f Q = pz_o (pz_gf f a 1 4) (fun v => pz_R dA d 39 15 [v0, v1] (v :: st) f Q) := pz_gg d39_12 rfl
theorem d39_15 : decode (pz_b 39) 15 = .ok (.iconst 1, 1) := by decide +kernel
theorem q39_15 {dA : Nat → ClassId} {d : Nat} {st : List Value} {f : pz_F} {Q : Option Value → pz_F → Prop} {v0 v1 : Value} : pz_R dA d 39 15 [v0, v1] st f Q = pz_R dA d 39 16 [v0, v1] (.int 1 :: st) f Q := pz_go (pz_so d39_15 rfl)
theorem d39_16 : decode (pz_b 39) 16 = .ok (.iadd, 1) := by decide +kernel
theorem q39_16 {dA : Nat → ClassId} {d : Nat} {st : List Value} {f : pz_F} {Q : Option Value → pz_F → Prop} {v0 v1 : Value} {x y : Int32} : pz_R dA d 39 16 [v0, v1] (.int y :: .int x :: st) f Q = pz_R dA d 39 17 [v0, v1] (.int (x + y) :: st) f Q := pz_go (pz_so d39_16 rfl)
theorem d39_17 : decode (pz_b 39) 17 = .ok (.putfield 31, 3) := by decide +kernel
theorem q39_17 {dA : Nat → ClassId} {d : Nat} {st : List Value} {f : pz_F} {Q : Option Value → pz_F → Prop} {v0 v1 : Value} {x : Int32} {a : Nat} : pz_R dA d 39 17 [v0, v1] (.int x :: .ref a :: st) f Q = pz_o (pz_pf f a 1 4 (.int x)) (fun f' => pz_R dA d 39 20 [v0, v1] st f' Q) := pz_gp d39_17 rfl rfl rfl rfl
theorem d39_20 : decode (pz_b 39) 20 = .ok (.aload_n 0, 1) := by decide +kernel
theorem q39_20 {dA : Nat → ClassId} {d : Nat} {st : List Value} {f : pz_F} {Q : Option Value → pz_F → Prop} {v1 : Value} {x : Nat} : pz_R dA d 39 20 [.ref x, v1] st f Q = pz_R dA d 39 21 [.ref x, v1] (.ref x :: st) f Q := pz_go (pz_so d39_20 rfl)
theorem d39_21 : decode (pz_b 39) 21 = .ok (.iconst 0, 1) := by decide +kernel
theorem q39_21 {dA : Nat → ClassId} {d : Nat} {st : List Value} {f : pz_F} {Q : Option Value → pz_F → Prop} {v0 v1 : Value} : pz_R dA d 39 21 [v0, v1] st f Q = pz_R dA d 39 22 [v0, v1] (.int 0 :: st) f Q := pz_go (pz_so d39_21 rfl)
theorem d39_22 : decode (pz_b 39) 22 = .ok (.putfield 25, 3) := by decide +kernel
theorem q39_22 {dA : Nat → ClassId} {d : Nat} {st : List Value} {f : pz_F} {Q : Option Value → pz_F → Prop} {v0 v1 : Value} {x : Int32} {a : Nat} : pz_R dA d 39 22 [v0, v1] (.int x :: .ref a :: st) f Q = pz_o (pz_pf f a 1 6 (.int x)) (fun f' => pz_R dA d 39 25 [v0, v1] st f' Q) := pz_gp d39_22 rfl rfl rfl rfl
theorem d39_25 : decode (pz_b 39) 25 = .ok (.return_, 1) := by decide +kernel
theorem q39_25 {dA : Nat → ClassId} {d : Nat} {f : pz_F} {Q : Option Value → pz_F → Prop} {v0 v1 : Value} : pz_R dA d 39 25 [v0, v1] [] f Q = Q none f := pz_gr (pz_so d39_25 rfl)
/-! S_followContact (ZI)V -/
theorem e40 {dA : Nat → ClassId} {d : Nat} {f : pz_F} {Q : Option Value → pz_F → Prop} {a0 : Nat} {a1 : Int32} {a2 : Int32} : pz_C dA d 40 [.ref a0, .int a1, .int a2] f Q = pz_R dA d 40 0 [.ref a0, .int a1, .int a2] [] f Q := rfl
theorem d40_0 : decode (pz_b 40) 0 = .ok (.aload_n 0, 1) := by decide +kernel
theorem q40_0 {dA : Nat → ClassId} {d : Nat} {st : List Value} {f : pz_F} {Q : Option Value → pz_F → Prop} {v1 v2 : Value} {x : Nat} : pz_R dA d 40 0 [.ref x, v1, v2] st f Q = pz_R dA d 40 1 [.ref x, v1, v2] (.ref x :: st) f Q := pz_go (pz_so d40_0 rfl)
theorem d40_1 : decode (pz_b 40) 1 = .ok (.getfield 15, 3) := by decide +kernel
theorem q40_1 {dA : Nat → ClassId} {d : Nat} {st : List Value} {f : pz_F} {Q : Option Value → pz_F → Prop} {v0 v1 v2 : Value} {a : Nat} : pz_R dA d 40 1 [v0, v1, v2] (.ref a :: st) f Q = pz_o (pz_gf f a 1 2) (fun v => pz_R dA d 40 4 [v0, v1, v2] (v :: st) f Q) := pz_gg d40_1 rfl
theorem d40_4 : decode (pz_b 40) 4 = .ok (.iconst 1, 1) := by decide +kernel
theorem q40_4 {dA : Nat → ClassId} {d : Nat} {st : List Value} {f : pz_F} {Q : Option Value → pz_F → Prop} {v0 v1 v2 : Value} : pz_R dA d 40 4 [v0, v1, v2] st f Q = pz_R dA d 40 5 [v0, v1, v2] (.int 1 :: st) f Q := pz_go (pz_so d40_4 rfl)
theorem d40_5 : decode (pz_b 40) 5 = .ok (.if_icmp .ne 15, 3) := by decide +kernel
theorem q40_5 {dA : Nat → ClassId} {d : Nat} {st : List Value} {f : pz_F} {Q : Option Value → pz_F → Prop} {v0 v1 v2 : Value} {x y : Int32} : pz_R dA d 40 5 [v0, v1, v2] (.int y :: .int x :: st) f Q = (if x = y then pz_R dA d 40 8 [v0, v1, v2] st f Q else pz_R dA d 40 20 [v0, v1, v2] st f Q) := pz_gjn .ne d40_5 rfl
theorem d40_8 : decode (pz_b 40) 8 = .ok (.iload_n 1, 1) := by decide +kernel
theorem q40_8 {dA : Nat → ClassId} {d : Nat} {st : List Value} {f : pz_F} {Q : Option Value → pz_F → Prop} {v0 v2 : Value} {x : Int32} : pz_R dA d 40 8 [v0, .int x, v2] st f Q = pz_R dA d 40 9 [v0, .int x, v2] (.int x :: st) f Q := pz_go (pz_so d40_8 rfl)
theorem d40_9 : decode (pz_b 40) 9 = .ok (.ifCond .ne 11, 3) := by decide +kernel
theorem q40_9 {dA : Nat → ClassId} {d : Nat} {st : List Value} {f : pz_F} {Q : Option Value → pz_F → Prop} {v0 v1 v2 : Value} {x : Int32} : pz_R dA d 40 9 [v0, v1, v2] (.int x :: st) f Q = (if x = 0 then pz_R dA d 40 12 [v0, v1, v2] st f Q else pz_R dA d 40 20 [v0, v1, v2] st f Q) := pz_gj1 .ne d40_9 rfl
theorem d40_12 : decode (pz_b 40) 12 = .ok (.aload_n 0, 1) := by decide +kernel
theorem q40_12 {dA : Nat → ClassId} {d : Nat} {st : List Value} {f : pz_F} {Q : Option Value → pz_F → Prop} {v1 v2 : Value} {x : Nat} : pz_R dA d 40 12 [.ref x, v1, v2] st f Q = pz_R dA d 40 13 [.ref x, v1, v2] (.ref x :: st) f Q := pz_go (pz_so d40_12 rfl)
theorem d40_13 : decode (pz_b 40) 13 = .ok (.iconst 2, 1) := by decide +kernel
theorem q40_13 {dA : Nat → ClassId} {d : Nat} {st : List Value} {f : pz_F} {Q : Option Value → pz_F → Prop} {v0 v1 v2 : Value} : pz_R dA d 40 13 [v0, v1, v2] st f Q = pz_R dA d 40 14 [v0, v1, v2] (.int 2 :: st) f Q := pz_go (pz_so d40_13 rfl)
theorem d40_14 : decode (pz_b 40) 14 = .ok (.putfield 15, 3) := by decide +kernel
theorem q40_14 {dA : Nat → ClassId} {d : Nat} {st : List Value} {f : pz_F} {Q : Option Value → pz_F → Prop} {v0 v1 v2 : Value} {x : Int32} {a : Nat} : pz_R dA d 40 14 [v0, v1, v2] (.int x :: .ref a :: st) f Q = pz_o (pz_pf f a 1 2 (.int x)) (fun f' => pz_R dA d 40 17 [v0, v1, v2] st f' Q) := pz_gp d40_14 rfl rfl rfl rfl
theorem d40_17 : decode (pz_b 40) 17 = .ok (.goto 57, 3) := by decide +kernel
theorem q40_17 {dA : Nat → ClassId} {d : Nat} {st : List Value} {f : pz_F} {Q : Option Value → pz_F → Prop} {v0 v1 v2 : Value} : pz_R dA d 40 17 [v0, v1, v2] st f Q = pz_R dA d 40 74 [v0, v1, v2] st f Q := pz_go (pz_so d40_17 rfl)
theorem d40_20 : decode (pz_b 40) 20 = .ok (.aload_n 0, 1) := by decide +kernel
theorem q40_20 {dA : Nat → ClassId} {d : Nat} {st : List Value} {f : pz_F} {Q : Option Value → pz_F → Prop} {v1 v2 : Value} {x : Nat} : pz_R dA d 40 20 [.ref x, v1, v2] st f Q = pz_R dA d 40 21 [.ref x, v1, v2] (.ref x :: st) f Q := pz_go (pz_so d40_20 rfl)
theorem d40_21 : decode (pz_b 40) 21 = .ok (.getfield 15, 3) := by decide +kernel
theorem q40_21 {dA : Nat → ClassId} {d : Nat} {st : List Value} {f : pz_F} {Q : Option Value → pz_F → Prop} {v0 v1 v2 : Value} {a : Nat} : pz_R dA d 40 21 [v0, v1, v2] (.ref a :: st) f Q = pz_o (pz_gf f a 1 2) (fun v => pz_R dA d 40 24 [v0, v1, v2] (v :: st) f Q) := pz_gg d40_21 rfl
theorem d40_24 : decode (pz_b 40) 24 = .ok (.iconst 2, 1) := by decide +kernel
theorem q40_24 {dA : Nat → ClassId} {d : Nat} {st : List Value} {f : pz_F} {Q : Option Value → pz_F → Prop} {v0 v1 v2 : Value} : pz_R dA d 40 24 [v0, v1, v2] st f Q = pz_R dA d 40 25 [v0, v1, v2] (.int 2 :: st) f Q := pz_go (pz_so d40_24 rfl)
theorem d40_25 : decode (pz_b 40) 25 = .ok (.if_icmp .ne 15, 3) := by decide +kernel
theorem q40_25 {dA : Nat → ClassId} {d : Nat} {st : List Value} {f : pz_F} {Q : Option Value → pz_F → Prop} {v0 v1 v2 : Value} {x y : Int32} : pz_R dA d 40 25 [v0, v1, v2] (.int y :: .int x :: st) f Q = (if x = y then pz_R dA d 40 28 [v0, v1, v2] st f Q else pz_R dA d 40 40 [v0, v1, v2] st f Q) := pz_gjn .ne d40_25 rfl
theorem d40_28 : decode (pz_b 40) 28 = .ok (.iload_n 1, 1) := by decide +kernel
theorem q40_28 {dA : Nat → ClassId} {d : Nat} {st : List Value} {f : pz_F} {Q : Option Value → pz_F → Prop} {v0 v2 : Value} {x : Int32} : pz_R dA d 40 28 [v0, .int x, v2] st f Q = pz_R dA d 40 29 [v0, .int x, v2] (.int x :: st) f Q := pz_go (pz_so d40_28 rfl)
theorem d40_29 : decode (pz_b 40) 29 = .ok (.ifCond .eq 11, 3) := by decide +kernel
theorem q40_29 {dA : Nat → ClassId} {d : Nat} {st : List Value} {f : pz_F} {Q : Option Value → pz_F → Prop} {v0 v1 v2 : Value} {x : Int32} : pz_R dA d 40 29 [v0, v1, v2] (.int x :: st) f Q = (if x = 0 then pz_R dA d 40 40 [v0, v1, v2] st f Q else pz_R dA d 40 32 [v0, v1, v2] st f Q) := pz_gj1 .eq d40_29 rfl
theorem d40_32 : decode (pz_b 40) 32 = .ok (.aload_n 0, 1) := by decide +kernel
theorem q40_32 {dA : Nat → ClassId} {d : Nat} {st : List Value} {f : pz_F} {Q : Option Value → pz_F → Prop} {v1 v2 : Value} {x : Nat} : pz_R dA d 40 32 [.ref x, v1, v2] st f Q = pz_R dA d 40 33 [.ref x, v1, v2] (.ref x :: st) f Q := pz_go (pz_so d40_32 rfl)
theorem d40_33 : decode (pz_b 40) 33 = .ok (.iconst 1, 1) := by decide +kernel
theorem q40_33 {dA : Nat → ClassId} {d : Nat} {st : List Value} {f : pz_F} {Q : Option Value → pz_F → Prop} {v0 v1 v2 : Value} : pz_R dA d 40 33 [v0, v1, v2] st f Q = pz_R dA d 40 34 [v0, v1, v2] (.int 1 :: st) f Q := pz_go (pz_so d40_33 rfl)
theorem d40_34 : decode (pz_b 40) 34 = .ok (.putfield 15, 3) := by decide +kernel
theorem q40_34 {dA : Nat → ClassId} {d : Nat} {st : List Value} {f : pz_F} {Q : Option Value → pz_F → Prop} {v0 v1 v2 : Value} {x : Int32} {a : Nat} : pz_R dA d 40 34 [v0, v1, v2] (.int x :: .ref a :: st) f Q = pz_o (pz_pf f a 1 2 (.int x)) (fun f' => pz_R dA d 40 37 [v0, v1, v2] st f' Q) := pz_gp d40_34 rfl rfl rfl rfl
theorem d40_37 : decode (pz_b 40) 37 = .ok (.goto 37, 3) := by decide +kernel
theorem q40_37 {dA : Nat → ClassId} {d : Nat} {st : List Value} {f : pz_F} {Q : Option Value → pz_F → Prop} {v0 v1 v2 : Value} : pz_R dA d 40 37 [v0, v1, v2] st f Q = pz_R dA d 40 74 [v0, v1, v2] st f Q := pz_go (pz_so d40_37 rfl)
theorem d40_40 : decode (pz_b 40) 40 = .ok (.aload_n 0, 1) := by decide +kernel
theorem q40_40 {dA : Nat → ClassId} {d : Nat} {st : List Value} {f : pz_F} {Q : Option Value → pz_F → Prop} {v1 v2 : Value} {x : Nat} : pz_R dA d 40 40 [.ref x, v1, v2] st f Q = pz_R dA d 40 41 [.ref x, v1, v2] (.ref x :: st) f Q := pz_go (pz_so d40_40 rfl)
theorem d40_41 : decode (pz_b 40) 41 = .ok (.getfield 15, 3) := by decide +kernel
theorem q40_41 {dA : Nat → ClassId} {d : Nat} {st : List Value} {f : pz_F} {Q : Option Value → pz_F → Prop} {v0 v1 v2 : Value} {a : Nat} : pz_R dA d 40 41 [v0, v1, v2] (.ref a :: st) f Q = pz_o (pz_gf f a 1 2) (fun v => pz_R dA d 40 44 [v0, v1, v2] (v :: st) f Q) := pz_gg d40_41 rfl
theorem d40_44 : decode (pz_b 40) 44 = .ok (.iconst 4, 1) := by decide +kernel
theorem q40_44 {dA : Nat → ClassId} {d : Nat} {st : List Value} {f : pz_F} {Q : Option Value → pz_F → Prop} {v0 v1 v2 : Value} : pz_R dA d 40 44 [v0, v1, v2] st f Q = pz_R dA d 40 45 [v0, v1, v2] (.int 4 :: st) f Q := pz_go (pz_so d40_44 rfl)
theorem d40_45 : decode (pz_b 40) 45 = .ok (.if_icmp .ne 29, 3) := by decide +kernel
theorem q40_45 {dA : Nat → ClassId} {d : Nat} {st : List Value} {f : pz_F} {Q : Option Value → pz_F → Prop} {v0 v1 v2 : Value} {x y : Int32} : pz_R dA d 40 45 [v0, v1, v2] (.int y :: .int x :: st) f Q = (if x = y then pz_R dA d 40 48 [v0, v1, v2] st f Q else pz_R dA d 40 74 [v0, v1, v2] st f Q) := pz_gjn .ne d40_45 rfl
theorem d40_48 : decode (pz_b 40) 48 = .ok (.iload_n 1, 1) := by decide +kernel
theorem q40_48 {dA : Nat → ClassId} {d : Nat} {st : List Value} {f : pz_F} {Q : Option Value → pz_F → Prop} {v0 v2 : Value} {x : Int32} : pz_R dA d 40 48 [v0, .int x, v2] st f Q = pz_R dA d 40 49 [v0, .int x, v2] (.int x :: st) f Q := pz_go (pz_so d40_48 rfl)
theorem d40_49 : decode (pz_b 40) 49 = .ok (.ifCond .eq 25, 3) := by decide +kernel
theorem q40_49 {dA : Nat → ClassId} {d : Nat} {st : List Value} {f : pz_F} {Q : Option Value → pz_F → Prop} {v0 v1 v2 : Value} {x : Int32} : pz_R dA d 40 49 [v0, v1, v2] (.int x :: st) f Q = (if x = 0 then pz_R dA d 40 74 [v0, v1, v2] st f Q else pz_R dA d 40 52 [v0, v1, v2] st f Q) := pz_gj1 .eq d40_49 rfl
theorem d40_52 : decode (pz_b 40) 52 = .ok (.aload_n 0, 1) := by decide +kernel
theorem q40_52 {dA : Nat → ClassId} {d : Nat} {st : List Value} {f : pz_F} {Q : Option Value → pz_F → Prop} {v1 v2 : Value} {x : Nat} : pz_R dA d 40 52 [.ref x, v1, v2] st f Q = pz_R dA d 40 53 [.ref x, v1, v2] (.ref x :: st) f Q := pz_go (pz_so d40_52 rfl)
theorem d40_53 : decode (pz_b 40) 53 = .ok (.getfield 25, 3) := by decide +kernel
theorem q40_53 {dA : Nat → ClassId} {d : Nat} {st : List Value} {f : pz_F} {Q : Option Value → pz_F → Prop} {v0 v1 v2 : Value} {a : Nat} : pz_R dA d 40 53 [v0, v1, v2] (.ref a :: st) f Q = pz_o (pz_gf f a 1 6) (fun v => pz_R dA d 40 56 [v0, v1, v2] (v :: st) f Q) := pz_gg d40_53 rfl
theorem d40_56 : decode (pz_b 40) 56 = .ok (.bipush 63, 2) := by decide +kernel
theorem q40_56 {dA : Nat → ClassId} {d : Nat} {st : List Value} {f : pz_F} {Q : Option Value → pz_F → Prop} {v0 v1 v2 : Value} : pz_R dA d 40 56 [v0, v1, v2] st f Q = pz_R dA d 40 58 [v0, v1, v2] (.int 63 :: st) f Q := pz_go (pz_so d40_56 rfl)
theorem d40_58 : decode (pz_b 40) 58 = .ok (.if_icmp .ne 16, 3) := by decide +kernel
theorem q40_58 {dA : Nat → ClassId} {d : Nat} {st : List Value} {f : pz_F} {Q : Option Value → pz_F → Prop} {v0 v1 v2 : Value} {x y : Int32} : pz_R dA d 40 58 [v0, v1, v2] (.int y :: .int x :: st) f Q = (if x = y then pz_R dA d 40 61 [v0, v1, v2] st f Q else pz_R dA d 40 74 [v0, v1, v2] st f Q) := pz_gjn .ne d40_58 rfl
theorem d40_61 : decode (pz_b 40) 61 = .ok (.aload_n 0, 1) := by decide +kernel
theorem q40_61 {dA : Nat → ClassId} {d : Nat} {st : List Value} {f : pz_F} {Q : Option Value → pz_F → Prop} {v1 v2 : Value} {x : Nat} : pz_R dA d 40 61 [.ref x, v1, v2] st f Q = pz_R dA d 40 62 [.ref x, v1, v2] (.ref x :: st) f Q := pz_go (pz_so d40_61 rfl)
theorem d40_62 : decode (pz_b 40) 62 = .ok (.iload_n 2, 1) := by decide +kernel
theorem q40_62 {dA : Nat → ClassId} {d : Nat} {st : List Value} {f : pz_F} {Q : Option Value → pz_F → Prop} {v0 v1 : Value} {x : Int32} : pz_R dA d 40 62 [v0, v1, .int x] st f Q = pz_R dA d 40 63 [v0, v1, .int x] (.int x :: st) f Q := pz_go (pz_so d40_62 rfl)
theorem d40_63 : decode (pz_b 40) 63 = .ok (.invokevirtual 34, 3) := by decide +kernel
theorem q40_63 {dA : Nat → ClassId} {d : Nat} {st : List Value} {f : pz_F} {Q : Option Value → pz_F → Prop} {v0 v1 v2 : Value} {c0 : Int32} {b : Nat} (hr : st.length ≤ 4) : pz_R dA (d + 1) 40 63 [v0, v1, v2] (.int c0 :: .ref b :: st) f Q = pz_o (pz_gu f b 1) (fun _ => pz_C dA d 38 [.ref b, .int c0] f (fun r f' => pz_R dA (d + 1) 40 66 [v0, v1, v2] (r.toList ++ st) f' Q)) := pz_gcv (As := [.int c0]) d40_63 rfl rfl rfl hr
theorem d40_66 : decode (pz_b 40) 66 = .ok (.ifCond .eq 8, 3) := by decide +kernel
theorem q40_66 {dA : Nat → ClassId} {d : Nat} {st : List Value} {f : pz_F} {Q : Option Value → pz_F → Prop} {v0 v1 v2 : Value} {x : Int32} : pz_R dA d 40 66 [v0, v1, v2] (.int x :: st) f Q = (if x = 0 then pz_R dA d 40 74 [v0, v1, v2] st f Q else pz_R dA d 40 69 [v0, v1, v2] st f Q) := pz_gj1 .eq d40_66 rfl
theorem d40_69 : decode (pz_b 40) 69 = .ok (.aload_n 0, 1) := by decide +kernel
theorem q40_69 {dA : Nat → ClassId} {d : Nat} {st : List Value} {f : pz_F} {Q : Option Value → pz_F → Prop} {v1 v2 : Value} {x : Nat} : pz_R dA d 40 69 [.ref x, v1, v2] st f Q = pz_R dA d 40 70 [.ref x, v1, v2] (.ref x :: st) f Q := pz_go (pz_so d40_69 rfl)
theorem d40_70 : decode (pz_b 40) 70 = .ok (.iconst 1, 1) := by decide +kernel
theorem q40_70 {dA : Nat → ClassId} {d : Nat} {st : List Value} {f : pz_F} {Q : Option Value → pz_F → Prop} {v0 v1 v2 : Value} : pz_R dA d 40 70 [v0, v1, v2] st f Q = pz_R dA d 40 71 [v0, v1, v2] (.int 1 :: st) f Q := pz_go (pz_so d40_70 rfl)
theorem d40_71 : decode (pz_b 40) 71 = .ok (.putfield 15, 3) := by decide +kernel
theorem q40_71 {dA : Nat → ClassId} {d : Nat} {st : List Value} {f : pz_F} {Q : Option Value → pz_F → Prop} {v0 v1 v2 : Value} {x : Int32} {a : Nat} : pz_R dA d 40 71 [v0, v1, v2] (.int x :: .ref a :: st) f Q = pz_o (pz_pf f a 1 2 (.int x)) (fun f' => pz_R dA d 40 74 [v0, v1, v2] st f' Q) := pz_gp d40_71 rfl rfl rfl rfl
theorem d40_74 : decode (pz_b 40) 74 = .ok (.return_, 1) := by decide +kernel
theorem q40_74 {dA : Nat → ClassId} {d : Nat} {f : pz_F} {Q : Option Value → pz_F → Prop} {v0 v1 v2 : Value} : pz_R dA d 40 74 [v0, v1, v2] [] f Q = Q none f := pz_gr (pz_so d40_74 rfl)
/-! S_takeUpdate (LLeasePair$Message;I)Z -/
theorem e41 {dA : Nat → ClassId} {d : Nat} {f : pz_F} {Q : Option Value → pz_F → Prop} {a0 : Nat} {a1 : Nat} {a2 : Int32} : pz_C dA d 41 [.ref a0, .ref a1, .int a2] f Q = pz_R dA d 41 0 [.ref a0, .ref a1, .int a2, .retAddr 0, .retAddr 0] [] f Q := rfl
theorem d41_0 : decode (pz_b 41) 0 = .ok (.aload_n 0, 1) := by decide +kernel
theorem q41_0 {dA : Nat → ClassId} {d : Nat} {st : List Value} {f : pz_F} {Q : Option Value → pz_F → Prop} {v1 v2 v3 v4 : Value} {x : Nat} : pz_R dA d 41 0 [.ref x, v1, v2, v3, v4] st f Q = pz_R dA d 41 1 [.ref x, v1, v2, v3, v4] (.ref x :: st) f Q := pz_go (pz_so d41_0 rfl)
theorem d41_1 : decode (pz_b 41) 1 = .ok (.getfield 20, 3) := by decide +kernel
theorem q41_1 {dA : Nat → ClassId} {d : Nat} {st : List Value} {f : pz_F} {Q : Option Value → pz_F → Prop} {v0 v1 v2 v3 v4 : Value} {a : Nat} : pz_R dA d 41 1 [v0, v1, v2, v3, v4] (.ref a :: st) f Q = pz_o (pz_gf f a 1 1) (fun v => pz_R dA d 41 4 [v0, v1, v2, v3, v4] (v :: st) f Q) := pz_gg d41_1 rfl
theorem d41_4 : decode (pz_b 41) 4 = .ok (.aload_n 1, 1) := by decide +kernel
theorem q41_4 {dA : Nat → ClassId} {d : Nat} {st : List Value} {f : pz_F} {Q : Option Value → pz_F → Prop} {v0 v2 v3 v4 : Value} {x : Nat} : pz_R dA d 41 4 [v0, .ref x, v2, v3, v4] st f Q = pz_R dA d 41 5 [v0, .ref x, v2, v3, v4] (.ref x :: st) f Q := pz_go (pz_so d41_4 rfl)
theorem q41_4n {dA : Nat → ClassId} {d : Nat} {st : List Value} {f : pz_F} {Q : Option Value → pz_F → Prop} {v0 v2 v3 v4 : Value} : pz_R dA d 41 4 [v0, .null, v2, v3, v4] st f Q = pz_R dA d 41 5 [v0, .null, v2, v3, v4] (.null :: st) f Q := pz_go (pz_so d41_4 rfl)
theorem d41_5 : decode (pz_b 41) 5 = .ok (.getfield 38, 3) := by decide +kernel
theorem q41_5 {dA : Nat → ClassId} {d : Nat} {st : List Value} {f : pz_F} {Q : Option Value → pz_F → Prop} {v0 v1 v2 v3 v4 : Value} {a : Nat} : pz_R dA d 41 5 [v0, v1, v2, v3, v4] (.ref a :: st) f Q = pz_o (pz_gf f a 5 5) (fun v => pz_R dA d 41 8 [v0, v1, v2, v3, v4] (v :: st) f Q) := pz_gg d41_5 rfl
theorem d41_8 : decode (pz_b 41) 8 = .ok (.aaload, 1) := by decide +kernel
theorem q41_8 {dA : Nat → ClassId} {d : Nat} {st : List Value} {f : pz_F} {Q : Option Value → pz_F → Prop} {v0 v1 v2 v3 v4 : Value} {i : Int32} {a : Nat} : pz_R dA d 41 8 [v0, v1, v2, v3, v4] (.int i :: .ref a :: st) f Q = pz_o (pz_rl dA f a i) (fun v => pz_R dA d 41 9 [v0, v1, v2, v3, v4] (v :: st) f Q) := pz_grl d41_8
theorem d41_9 : decode (pz_b 41) 9 = .ok (.astore_n 3, 1) := by decide +kernel
theorem q41_9 {dA : Nat → ClassId} {d : Nat} {st : List Value} {f : pz_F} {Q : Option Value → pz_F → Prop} {v0 v1 v2 v3 v4 : Value} {x : Nat} : pz_R dA d 41 9 [v0, v1, v2, v3, v4] (.ref x :: st) f Q = pz_R dA d 41 10 [v0, v1, v2, .ref x, v4] st f Q := pz_go (pz_so d41_9 rfl)
theorem q41_9n {dA : Nat → ClassId} {d : Nat} {st : List Value} {f : pz_F} {Q : Option Value → pz_F → Prop} {v0 v1 v2 v3 v4 : Value} : pz_R dA d 41 9 [v0, v1, v2, v3, v4] (.null :: st) f Q = pz_R dA d 41 10 [v0, v1, v2, .null, v4] st f Q := pz_go (pz_so d41_9 rfl)
theorem d41_10 : decode (pz_b 41) 10 = .ok (.aload_n 0, 1) := by decide +kernel
theorem q41_10 {dA : Nat → ClassId} {d : Nat} {st : List Value} {f : pz_F} {Q : Option Value → pz_F → Prop} {v1 v2 v3 v4 : Value} {x : Nat} : pz_R dA d 41 10 [.ref x, v1, v2, v3, v4] st f Q = pz_R dA d 41 11 [.ref x, v1, v2, v3, v4] (.ref x :: st) f Q := pz_go (pz_so d41_10 rfl)
theorem d41_11 : decode (pz_b 41) 11 = .ok (.getfield 15, 3) := by decide +kernel
theorem q41_11 {dA : Nat → ClassId} {d : Nat} {st : List Value} {f : pz_F} {Q : Option Value → pz_F → Prop} {v0 v1 v2 v3 v4 : Value} {a : Nat} : pz_R dA d 41 11 [v0, v1, v2, v3, v4] (.ref a :: st) f Q = pz_o (pz_gf f a 1 2) (fun v => pz_R dA d 41 14 [v0, v1, v2, v3, v4] (v :: st) f Q) := pz_gg d41_11 rfl
theorem d41_14 : decode (pz_b 41) 14 = .ok (.iconst 4, 1) := by decide +kernel
theorem q41_14 {dA : Nat → ClassId} {d : Nat} {st : List Value} {f : pz_F} {Q : Option Value → pz_F → Prop} {v0 v1 v2 v3 v4 : Value} : pz_R dA d 41 14 [v0, v1, v2, v3, v4] st f Q = pz_R dA d 41 15 [v0, v1, v2, v3, v4] (.int 4 :: st) f Q := pz_go (pz_so d41_14 rfl)
theorem d41_15 : decode (pz_b 41) 15 = .ok (.if_icmp .eq 10, 3) := by decide +kernel
theorem q41_15 {dA : Nat → ClassId} {d : Nat} {st : List Value} {f : pz_F} {Q : Option Value → pz_F → Prop} {v0 v1 v2 v3 v4 : Value} {x y : Int32} : pz_R dA d 41 15 [v0, v1, v2, v3, v4] (.int y :: .int x :: st) f Q = (if x = y then pz_R dA d 41 25 [v0, v1, v2, v3, v4] st f Q else pz_R dA d 41 18 [v0, v1, v2, v3, v4] st f Q) := pz_gjn .eq d41_15 rfl
theorem d41_18 : decode (pz_b 41) 18 = .ok (.aload_n 3, 1) := by decide +kernel
theorem q41_18 {dA : Nat → ClassId} {d : Nat} {st : List Value} {f : pz_F} {Q : Option Value → pz_F → Prop} {v0 v1 v2 v4 : Value} {x : Nat} : pz_R dA d 41 18 [v0, v1, v2, .ref x, v4] st f Q = pz_R dA d 41 19 [v0, v1, v2, .ref x, v4] (.ref x :: st) f Q := pz_go (pz_so d41_18 rfl)
theorem q41_18n {dA : Nat → ClassId} {d : Nat} {st : List Value} {f : pz_F} {Q : Option Value → pz_F → Prop} {v0 v1 v2 v4 : Value} : pz_R dA d 41 18 [v0, v1, v2, .null, v4] st f Q = pz_R dA d 41 19 [v0, v1, v2, .null, v4] (.null :: st) f Q := pz_go (pz_so d41_18 rfl)
theorem d41_19 : decode (pz_b 41) 19 = .ok (.aload_n 1, 1) := by decide +kernel
theorem q41_19 {dA : Nat → ClassId} {d : Nat} {st : List Value} {f : pz_F} {Q : Option Value → pz_F → Prop} {v0 v2 v3 v4 : Value} {x : Nat} : pz_R dA d 41 19 [v0, .ref x, v2, v3, v4] st f Q = pz_R dA d 41 20 [v0, .ref x, v2, v3, v4] (.ref x :: st) f Q := pz_go (pz_so d41_19 rfl)
theorem q41_19n {dA : Nat → ClassId} {d : Nat} {st : List Value} {f : pz_F} {Q : Option Value → pz_F → Prop} {v0 v2 v3 v4 : Value} : pz_R dA d 41 19 [v0, .null, v2, v3, v4] st f Q = pz_R dA d 41 20 [v0, .null, v2, v3, v4] (.null :: st) f Q := pz_go (pz_so d41_19 rfl)
theorem d41_20 : decode (pz_b 41) 20 = .ok (.iload_n 2, 1) := by decide +kernel
theorem q41_20 {dA : Nat → ClassId} {d : Nat} {st : List Value} {f : pz_F} {Q : Option Value → pz_F → Prop} {v0 v1 v3 v4 : Value} {x : Int32} : pz_R dA d 41 20 [v0, v1, .int x, v3, v4] st f Q = pz_R dA d 41 21 [v0, v1, .int x, v3, v4] (.int x :: st) f Q := pz_go (pz_so d41_20 rfl)
theorem d41_21 : decode (pz_b 41) 21 = .ok (.invokevirtual 43, 3) := by decide +kernel
theorem q41_21 {dA : Nat → ClassId} {d : Nat} {st : List Value} {f : pz_F} {Q : Option Value → pz_F → Prop} {v0 v1 v2 v3 v4 : Value} {c0 : Nat} {c1 : Int32} {b : Nat} (hr : st.length ≤ 4) : pz_R dA (d + 1) 41 21 [v0, v1, v2, v3, v4] (.int c1 :: .ref c0 :: .ref b :: st) f Q = pz_o (pz_gu f b 2) (fun _ => pz_C dA d 60 [.ref b, .ref c0, .int c1] f (fun r f' => pz_R dA (d + 1) 41 24 [v0, v1, v2, v3, v4] (r.toList ++ st) f' Q)) := pz_gcv (As := [.ref c0, .int c1]) d41_21 rfl rfl rfl hr
theorem d41_24 : decode (pz_b 41) 24 = .ok (.ireturn, 1) := by decide +kernel
theorem q41_24z {dA : Nat → ClassId} {d : Nat} {f : pz_F} {Q : Option Value → pz_F → Prop} {v0 v1 v2 v3 v4 : Value} : pz_R dA d 41 24 [v0, v1, v2, v3, v4] [.int 0] f Q = Q (some (.int 0)) f := pz_gri d41_24 rfl rfl
theorem q41_24o {dA : Nat → ClassId} {d : Nat} {f : pz_F} {Q : Option Value → pz_F → Prop} {v0 v1 v2 v3 v4 : Value} : pz_R dA d 41 24 [v0, v1, v2, v3, v4] [.int 1] f Q = Q (some (.int 1)) f := pz_gri d41_24 rfl rfl
theorem d41_25 : decode (pz_b 41) 25 = .ok (.aload_n 1, 1) := by decide +kernel
theorem q41_25 {dA : Nat → ClassId} {d : Nat} {st : List Value} {f : pz_F} {Q : Option Value → pz_F → Prop} {v0 v2 v3 v4 : Value} {x : Nat} : pz_R dA d 41 25 [v0, .ref x, v2, v3, v4] st f Q = pz_R dA d 41 26 [v0, .ref x, v2, v3, v4] (.ref x :: st) f Q := pz_go (pz_so d41_25 rfl)
theorem q41_25n {dA : Nat → ClassId} {d : Nat} {st : List Value} {f : pz_F} {Q : Option Value → pz_F → Prop} {v0 v2 v3 v4 : Value} : pz_R dA d 41 25 [v0, .null, v2, v3, v4] st f Q = pz_R dA d 41 26 [v0, .null, v2, v3, v4] (.null :: st) f Q := pz_go (pz_so d41_25 rfl)
theorem d41_26 : decode (pz_b 41) 26 = .ok (.getfield 47, 3) := by decide +kernel
theorem q41_26 {dA : Nat → ClassId} {d : Nat} {st : List Value} {f : pz_F} {Q : Option Value → pz_F → Prop} {v0 v1 v2 v3 v4 : Value} {a : Nat} : pz_R dA d 41 26 [v0, v1, v2, v3, v4] (.ref a :: st) f Q = pz_o (pz_gf f a 5 12) (fun v => pz_R dA d 41 29 [v0, v1, v2, v3, v4] (v :: st) f Q) := pz_gg d41_26 rfl
theorem d41_29 : decode (pz_b 41) 29 = .ok (.aload_n 0, 1) := by decide +kernel
theorem q41_29 {dA : Nat → ClassId} {d : Nat} {st : List Value} {f : pz_F} {Q : Option Value → pz_F → Prop} {v1 v2 v3 v4 : Value} {x : Nat} : pz_R dA d 41 29 [.ref x, v1, v2, v3, v4] st f Q = pz_R dA d 41 30 [.ref x, v1, v2, v3, v4] (.ref x :: st) f Q := pz_go (pz_so d41_29 rfl)
theorem d41_30 : decode (pz_b 41) 30 = .ok (.getfield 31, 3) := by decide +kernel
theorem q41_30 {dA : Nat → ClassId} {d : Nat} {st : List Value} {f : pz_F} {Q : Option Value → pz_F → Prop} {v0 v1 v2 v3 v4 : Value} {a : Nat} : pz_R dA d 41 30 [v0, v1, v2, v3, v4] (.ref a :: st) f Q = pz_o (pz_gf f a 1 4) (fun v => pz_R dA d 41 33 [v0, v1, v2, v3, v4] (v :: st) f Q) := pz_gg d41_30 rfl
theorem d41_33 : decode (pz_b 41) 33 = .ok (.if_icmp .eq 5, 3) := by decide +kernel
theorem q41_33 {dA : Nat → ClassId} {d : Nat} {st : List Value} {f : pz_F} {Q : Option Value → pz_F → Prop} {v0 v1 v2 v3 v4 : Value} {x y : Int32} : pz_R dA d 41 33 [v0, v1, v2, v3, v4] (.int y :: .int x :: st) f Q = (if x = y then pz_R dA d 41 38 [v0, v1, v2, v3, v4] st f Q else pz_R dA d 41 36 [v0, v1, v2, v3, v4] st f Q) := pz_gjn .eq d41_33 rfl
theorem d41_36 : decode (pz_b 41) 36 = .ok (.iconst 0, 1) := by decide +kernel
theorem q41_36 {dA : Nat → ClassId} {d : Nat} {st : List Value} {f : pz_F} {Q : Option Value → pz_F → Prop} {v0 v1 v2 v3 v4 : Value} : pz_R dA d 41 36 [v0, v1, v2, v3, v4] st f Q = pz_R dA d 41 37 [v0, v1, v2, v3, v4] (.int 0 :: st) f Q := pz_go (pz_so d41_36 rfl)
theorem d41_37 : decode (pz_b 41) 37 = .ok (.ireturn, 1) := by decide +kernel
theorem q41_37z {dA : Nat → ClassId} {d : Nat} {f : pz_F} {Q : Option Value → pz_F → Prop} {v0 v1 v2 v3 v4 : Value} : pz_R dA d 41 37 [v0, v1, v2, v3, v4] [.int 0] f Q = Q (some (.int 0)) f := pz_gri d41_37 rfl rfl
theorem q41_37o {dA : Nat → ClassId} {d : Nat} {f : pz_F} {Q : Option Value → pz_F → Prop} {v0 v1 v2 v3 v4 : Value} : pz_R dA d 41 37 [v0, v1, v2, v3, v4] [.int 1] f Q = Q (some (.int 1)) f := pz_gri d41_37 rfl rfl
theorem d41_38 : decode (pz_b 41) 38 = .ok (.aload_n 0, 1) := by decide +kernel
theorem q41_38 {dA : Nat → ClassId} {d : Nat} {st : List Value} {f : pz_F} {Q : Option Value → pz_F → Prop} {v1 v2 v3 v4 : Value} {x : Nat} : pz_R dA d 41 38 [.ref x, v1, v2, v3, v4] st f Q = pz_R dA d 41 39 [.ref x, v1, v2, v3, v4] (.ref x :: st) f Q := pz_go (pz_so d41_38 rfl)
theorem d41_39 : decode (pz_b 41) 39 = .ok (.aload_n 1, 1) := by decide +kernel
theorem q41_39 {dA : Nat → ClassId} {d : Nat} {st : List Value} {f : pz_F} {Q : Option Value → pz_F → Prop} {v0 v2 v3 v4 : Value} {x : Nat} : pz_R dA d 41 39 [v0, .ref x, v2, v3, v4] st f Q = pz_R dA d 41 40 [v0, .ref x, v2, v3, v4] (.ref x :: st) f Q := pz_go (pz_so d41_39 rfl)
theorem q41_39n {dA : Nat → ClassId} {d : Nat} {st : List Value} {f : pz_F} {Q : Option Value → pz_F → Prop} {v0 v2 v3 v4 : Value} : pz_R dA d 41 39 [v0, .null, v2, v3, v4] st f Q = pz_R dA d 41 40 [v0, .null, v2, v3, v4] (.null :: st) f Q := pz_go (pz_so d41_39 rfl)
theorem d41_40 : decode (pz_b 41) 40 = .ok (.getfield 38, 3) := by decide +kernel
theorem q41_40 {dA : Nat → ClassId} {d : Nat} {st : List Value} {f : pz_F} {Q : Option Value → pz_F → Prop} {v0 v1 v2 v3 v4 : Value} {a : Nat} : pz_R dA d 41 40 [v0, v1, v2, v3, v4] (.ref a :: st) f Q = pz_o (pz_gf f a 5 5) (fun v => pz_R dA d 41 43 [v0, v1, v2, v3, v4] (v :: st) f Q) := pz_gg d41_40 rfl
theorem d41_43 : decode (pz_b 41) 43 = .ok (.invokevirtual 48, 3) := by decide +kernel
theorem q41_43 {dA : Nat → ClassId} {d : Nat} {st : List Value} {f : pz_F} {Q : Option Value → pz_F → Prop} {v0 v1 v2 v3 v4 : Value} {c0 : Int32} {b : Nat} (hr : st.length ≤ 4) : pz_R dA (d + 1) 41 43 [v0, v1, v2, v3, v4] (.int c0 :: .ref b :: st) f Q = pz_o (pz_gu f b 1) (fun _ => pz_C dA d 37 [.ref b, .int c0] f (fun r f' => pz_R dA (d + 1) 41 46 [v0, v1, v2, v3, v4] (r.toList ++ st) f' Q)) := pz_gcv (As := [.int c0]) d41_43 rfl rfl rfl hr
theorem d41_46 : decode (pz_b 41) 46 = .ok (.ifCond .eq 10, 3) := by decide +kernel
theorem q41_46 {dA : Nat → ClassId} {d : Nat} {st : List Value} {f : pz_F} {Q : Option Value → pz_F → Prop} {v0 v1 v2 v3 v4 : Value} {x : Int32} : pz_R dA d 41 46 [v0, v1, v2, v3, v4] (.int x :: st) f Q = (if x = 0 then pz_R dA d 41 56 [v0, v1, v2, v3, v4] st f Q else pz_R dA d 41 49 [v0, v1, v2, v3, v4] st f Q) := pz_gj1 .eq d41_46 rfl
theorem d41_49 : decode (pz_b 41) 49 = .ok (.aload_n 3, 1) := by decide +kernel
theorem q41_49 {dA : Nat → ClassId} {d : Nat} {st : List Value} {f : pz_F} {Q : Option Value → pz_F → Prop} {v0 v1 v2 v4 : Value} {x : Nat} : pz_R dA d 41 49 [v0, v1, v2, .ref x, v4] st f Q = pz_R dA d 41 50 [v0, v1, v2, .ref x, v4] (.ref x :: st) f Q := pz_go (pz_so d41_49 rfl)
theorem q41_49n {dA : Nat → ClassId} {d : Nat} {st : List Value} {f : pz_F} {Q : Option Value → pz_F → Prop} {v0 v1 v2 v4 : Value} : pz_R dA d 41 49 [v0, v1, v2, .null, v4] st f Q = pz_R dA d 41 50 [v0, v1, v2, .null, v4] (.null :: st) f Q := pz_go (pz_so d41_49 rfl)
theorem d41_50 : decode (pz_b 41) 50 = .ok (.aload_n 1, 1) := by decide +kernel
theorem q41_50 {dA : Nat → ClassId} {d : Nat} {st : List Value} {f : pz_F} {Q : Option Value → pz_F → Prop} {v0 v2 v3 v4 : Value} {x : Nat} : pz_R dA d 41 50 [v0, .ref x, v2, v3, v4] st f Q = pz_R dA d 41 51 [v0, .ref x, v2, v3, v4] (.ref x :: st) f Q := pz_go (pz_so d41_50 rfl)
theorem q41_50n {dA : Nat → ClassId} {d : Nat} {st : List Value} {f : pz_F} {Q : Option Value → pz_F → Prop} {v0 v2 v3 v4 : Value} : pz_R dA d 41 50 [v0, .null, v2, v3, v4] st f Q = pz_R dA d 41 51 [v0, .null, v2, v3, v4] (.null :: st) f Q := pz_go (pz_so d41_50 rfl)
theorem d41_51 : decode (pz_b 41) 51 = .ok (.iload_n 2, 1) := by decide +kernel
theorem q41_51 {dA : Nat → ClassId} {d : Nat} {st : List Value} {f : pz_F} {Q : Option Value → pz_F → Prop} {v0 v1 v3 v4 : Value} {x : Int32} : pz_R dA d 41 51 [v0, v1, .int x, v3, v4] st f Q = pz_R dA d 41 52 [v0, v1, .int x, v3, v4] (.int x :: st) f Q := pz_go (pz_so d41_51 rfl)
theorem d41_52 : decode (pz_b 41) 52 = .ok (.invokevirtual 43, 3) := by decide +kernel
theorem q41_52 {dA : Nat → ClassId} {d : Nat} {st : List Value} {f : pz_F} {Q : Option Value → pz_F → Prop} {v0 v1 v2 v3 v4 : Value} {c0 : Nat} {c1 : Int32} {b : Nat} (hr : st.length ≤ 4) : pz_R dA (d + 1) 41 52 [v0, v1, v2, v3, v4] (.int c1 :: .ref c0 :: .ref b :: st) f Q = pz_o (pz_gu f b 2) (fun _ => pz_C dA d 60 [.ref b, .ref c0, .int c1] f (fun r f' => pz_R dA (d + 1) 41 55 [v0, v1, v2, v3, v4] (r.toList ++ st) f' Q)) := pz_gcv (As := [.ref c0, .int c1]) d41_52 rfl rfl rfl hr
theorem d41_55 : decode (pz_b 41) 55 = .ok (.ireturn, 1) := by decide +kernel
theorem q41_55z {dA : Nat → ClassId} {d : Nat} {f : pz_F} {Q : Option Value → pz_F → Prop} {v0 v1 v2 v3 v4 : Value} : pz_R dA d 41 55 [v0, v1, v2, v3, v4] [.int 0] f Q = Q (some (.int 0)) f := pz_gri d41_55 rfl rfl
theorem q41_55o {dA : Nat → ClassId} {d : Nat} {f : pz_F} {Q : Option Value → pz_F → Prop} {v0 v1 v2 v3 v4 : Value} : pz_R dA d 41 55 [v0, v1, v2, v3, v4] [.int 1] f Q = Q (some (.int 1)) f := pz_gri d41_55 rfl rfl
theorem d41_56 : decode (pz_b 41) 56 = .ok (.aload_n 3, 1) := by decide +kernel
theorem q41_56 {dA : Nat → ClassId} {d : Nat} {st : List Value} {f : pz_F} {Q : Option Value → pz_F → Prop} {v0 v1 v2 v4 : Value} {x : Nat} : pz_R dA d 41 56 [v0, v1, v2, .ref x, v4] st f Q = pz_R dA d 41 57 [v0, v1, v2, .ref x, v4] (.ref x :: st) f Q := pz_go (pz_so d41_56 rfl)
theorem q41_56n {dA : Nat → ClassId} {d : Nat} {st : List Value} {f : pz_F} {Q : Option Value → pz_F → Prop} {v0 v1 v2 v4 : Value} : pz_R dA d 41 56 [v0, v1, v2, .null, v4] st f Q = pz_R dA d 41 57 [v0, v1, v2, .null, v4] (.null :: st) f Q := pz_go (pz_so d41_56 rfl)
theorem d41_57 : decode (pz_b 41) 57 = .ok (.aload_n 1, 1) := by decide +kernel
theorem q41_57 {dA : Nat → ClassId} {d : Nat} {st : List Value} {f : pz_F} {Q : Option Value → pz_F → Prop} {v0 v2 v3 v4 : Value} {x : Nat} : pz_R dA d 41 57 [v0, .ref x, v2, v3, v4] st f Q = pz_R dA d 41 58 [v0, .ref x, v2, v3, v4] (.ref x :: st) f Q := pz_go (pz_so d41_57 rfl)
theorem q41_57n {dA : Nat → ClassId} {d : Nat} {st : List Value} {f : pz_F} {Q : Option Value → pz_F → Prop} {v0 v2 v3 v4 : Value} : pz_R dA d 41 57 [v0, .null, v2, v3, v4] st f Q = pz_R dA d 41 58 [v0, .null, v2, v3, v4] (.null :: st) f Q := pz_go (pz_so d41_57 rfl)
theorem d41_58 : decode (pz_b 41) 58 = .ok (.iload_n 2, 1) := by decide +kernel
theorem q41_58 {dA : Nat → ClassId} {d : Nat} {st : List Value} {f : pz_F} {Q : Option Value → pz_F → Prop} {v0 v1 v3 v4 : Value} {x : Int32} : pz_R dA d 41 58 [v0, v1, .int x, v3, v4] st f Q = pz_R dA d 41 59 [v0, v1, .int x, v3, v4] (.int x :: st) f Q := pz_go (pz_so d41_58 rfl)
theorem d41_59 : decode (pz_b 41) 59 = .ok (.invokevirtual 51, 3) := by decide +kernel
theorem q41_59 {dA : Nat → ClassId} {d : Nat} {st : List Value} {f : pz_F} {Q : Option Value → pz_F → Prop} {v0 v1 v2 v3 v4 : Value} {c0 : Nat} {c1 : Int32} {b : Nat} (hr : st.length ≤ 4) : pz_R dA (d + 1) 41 59 [v0, v1, v2, v3, v4] (.int c1 :: .ref c0 :: .ref b :: st) f Q = pz_o (pz_gu f b 2) (fun _ => pz_C dA d 58 [.ref b, .ref c0, .int c1] f (fun r f' => pz_R dA (d + 1) 41 62 [v0, v1, v2, v3, v4] (r.toList ++ st) f' Q)) := pz_gcv (As := [.ref c0, .int c1]) d41_59 rfl rfl rfl hr
theorem d41_62 : decode (pz_b 41) 62 = .ok (.istore 4, 2) := by decide +kernel
theorem q41_62 {dA : Nat → ClassId} {d : Nat} {st : List Value} {f : pz_F} {Q : Option Value → pz_F → Prop} {v0 v1 v2 v3 v4 : Value} {x : Int32} : pz_R dA d 41 62 [v0, v1, v2, v3, v4] (.int x :: st) f Q = pz_R dA d 41 64 [v0, v1, v2, v3, .int x] st f Q := pz_go (pz_so d41_62 rfl)
theorem d41_64 : decode (pz_b 41) 64 = .ok (.iload 4, 2) := by decide +kernel
theorem q41_64 {dA : Nat → ClassId} {d : Nat} {st : List Value} {f : pz_F} {Q : Option Value → pz_F → Prop} {v0 v1 v2 v3 : Value} {x : Int32} : pz_R dA d 41 64 [v0, v1, v2, v3, .int x] st f Q = pz_R dA d 41 66 [v0, v1, v2, v3, .int x] (.int x :: st) f Q := pz_go (pz_so d41_64 rfl)
theorem d41_66 : decode (pz_b 41) 66 = .ok (.ifCond .eq 18, 3) := by decide +kernel
theorem q41_66 {dA : Nat → ClassId} {d : Nat} {st : List Value} {f : pz_F} {Q : Option Value → pz_F → Prop} {v0 v1 v2 v3 v4 : Value} {x : Int32} : pz_R dA d 41 66 [v0, v1, v2, v3, v4] (.int x :: st) f Q = (if x = 0 then pz_R dA d 41 84 [v0, v1, v2, v3, v4] st f Q else pz_R dA d 41 69 [v0, v1, v2, v3, v4] st f Q) := pz_gj1 .eq d41_66 rfl
theorem d41_69 : decode (pz_b 41) 69 = .ok (.aload_n 0, 1) := by decide +kernel
theorem q41_69 {dA : Nat → ClassId} {d : Nat} {st : List Value} {f : pz_F} {Q : Option Value → pz_F → Prop} {v1 v2 v3 v4 : Value} {x : Nat} : pz_R dA d 41 69 [.ref x, v1, v2, v3, v4] st f Q = pz_R dA d 41 70 [.ref x, v1, v2, v3, v4] (.ref x :: st) f Q := pz_go (pz_so d41_69 rfl)
theorem d41_70 : decode (pz_b 41) 70 = .ok (.dup, 1) := by decide +kernel
theorem q41_70 {dA : Nat → ClassId} {d : Nat} {st : List Value} {f : pz_F} {Q : Option Value → pz_F → Prop} {v0 v1 v2 v3 v4 : Value} {x : Nat} : pz_R dA d 41 70 [v0, v1, v2, v3, v4] (.ref x :: st) f Q = pz_R dA d 41 71 [v0, v1, v2, v3, v4] (.ref x :: .ref x :: st) f Q := pz_go (pz_so d41_70 rfl)
theorem d41_71 : decode (pz_b 41) 71 = .ok (.getfield 25, 3) := by decide +kernel
theorem q41_71 {dA : Nat → ClassId} {d : Nat} {st : List Value} {f : pz_F} {Q : Option Value → pz_F → Prop} {v0 v1 v2 v3 v4 : Value} {a : Nat} : pz_R dA d 41 71 [v0, v1, v2, v3, v4] (.ref a :: st) f Q = pz_o (pz_gf f a 1 6) (fun v => pz_R dA d 41 74 [v0, v1, v2, v3, v4] (v :: st) f Q) := pz_gg d41_71 rfl
theorem d41_74 : decode (pz_b 41) 74 = .ok (.iconst 1, 1) := by decide +kernel
theorem q41_74 {dA : Nat → ClassId} {d : Nat} {st : List Value} {f : pz_F} {Q : Option Value → pz_F → Prop} {v0 v1 v2 v3 v4 : Value} : pz_R dA d 41 74 [v0, v1, v2, v3, v4] st f Q = pz_R dA d 41 75 [v0, v1, v2, v3, v4] (.int 1 :: st) f Q := pz_go (pz_so d41_74 rfl)
theorem d41_75 : decode (pz_b 41) 75 = .ok (.aload_n 1, 1) := by decide +kernel
theorem q41_75 {dA : Nat → ClassId} {d : Nat} {st : List Value} {f : pz_F} {Q : Option Value → pz_F → Prop} {v0 v2 v3 v4 : Value} {x : Nat} : pz_R dA d 41 75 [v0, .ref x, v2, v3, v4] st f Q = pz_R dA d 41 76 [v0, .ref x, v2, v3, v4] (.ref x :: st) f Q := pz_go (pz_so d41_75 rfl)
theorem q41_75n {dA : Nat → ClassId} {d : Nat} {st : List Value} {f : pz_F} {Q : Option Value → pz_F → Prop} {v0 v2 v3 v4 : Value} : pz_R dA d 41 75 [v0, .null, v2, v3, v4] st f Q = pz_R dA d 41 76 [v0, .null, v2, v3, v4] (.null :: st) f Q := pz_go (pz_so d41_75 rfl)
theorem d41_76 : decode (pz_b 41) 76 = .ok (.getfield 38, 3) := by decide +kernel
theorem q41_76 {dA : Nat → ClassId} {d : Nat} {st : List Value} {f : pz_F} {Q : Option Value → pz_F → Prop} {v0 v1 v2 v3 v4 : Value} {a : Nat} : pz_R dA d 41 76 [v0, v1, v2, v3, v4] (.ref a :: st) f Q = pz_o (pz_gf f a 5 5) (fun v => pz_R dA d 41 79 [v0, v1, v2, v3, v4] (v :: st) f Q) := pz_gg d41_76 rfl
theorem d41_79 : decode (pz_b 41) 79 = .ok (.ishl, 1) := by decide +kernel
theorem q41_79 {dA : Nat → ClassId} {d : Nat} {st : List Value} {f : pz_F} {Q : Option Value → pz_F → Prop} {v0 v1 v2 v3 v4 : Value} {x y : Int32} : pz_R dA d 41 79 [v0, v1, v2, v3, v4] (.int y :: .int x :: st) f Q = pz_R dA d 41 80 [v0, v1, v2, v3, v4] (.int (x <<< (y &&& 31)) :: st) f Q := pz_go (pz_so d41_79 rfl)
theorem d41_80 : decode (pz_b 41) 80 = .ok (.ior, 1) := by decide +kernel
theorem q41_80 {dA : Nat → ClassId} {d : Nat} {st : List Value} {f : pz_F} {Q : Option Value → pz_F → Prop} {v0 v1 v2 v3 v4 : Value} {x y : Int32} : pz_R dA d 41 80 [v0, v1, v2, v3, v4] (.int y :: .int x :: st) f Q = pz_R dA d 41 81 [v0, v1, v2, v3, v4] (.int (x ||| y) :: st) f Q := pz_go (pz_so d41_80 rfl)
theorem d41_81 : decode (pz_b 41) 81 = .ok (.putfield 25, 3) := by decide +kernel
theorem q41_81 {dA : Nat → ClassId} {d : Nat} {st : List Value} {f : pz_F} {Q : Option Value → pz_F → Prop} {v0 v1 v2 v3 v4 : Value} {x : Int32} {a : Nat} : pz_R dA d 41 81 [v0, v1, v2, v3, v4] (.int x :: .ref a :: st) f Q = pz_o (pz_pf f a 1 6 (.int x)) (fun f' => pz_R dA d 41 84 [v0, v1, v2, v3, v4] st f' Q) := pz_gp d41_81 rfl rfl rfl rfl
theorem d41_84 : decode (pz_b 41) 84 = .ok (.iload 4, 2) := by decide +kernel
theorem q41_84 {dA : Nat → ClassId} {d : Nat} {st : List Value} {f : pz_F} {Q : Option Value → pz_F → Prop} {v0 v1 v2 v3 : Value} {x : Int32} : pz_R dA d 41 84 [v0, v1, v2, v3, .int x] st f Q = pz_R dA d 41 86 [v0, v1, v2, v3, .int x] (.int x :: st) f Q := pz_go (pz_so d41_84 rfl)
theorem d41_86 : decode (pz_b 41) 86 = .ok (.ireturn, 1) := by decide +kernel
theorem q41_86z {dA : Nat → ClassId} {d : Nat} {f : pz_F} {Q : Option Value → pz_F → Prop} {v0 v1 v2 v3 v4 : Value} : pz_R dA d 41 86 [v0, v1, v2, v3, v4] [.int 0] f Q = Q (some (.int 0)) f := pz_gri d41_86 rfl rfl
theorem q41_86o {dA : Nat → ClassId} {d : Nat} {f : pz_F} {Q : Option Value → pz_F → Prop} {v0 v1 v2 v3 v4 : Value} : pz_R dA d 41 86 [v0, v1, v2, v3, v4] [.int 1] f Q = Q (some (.int 1)) f := pz_gri d41_86 rfl rfl
/-! S_endExpired (I)V -/
theorem e42 {dA : Nat → ClassId} {d : Nat} {f : pz_F} {Q : Option Value → pz_F → Prop} {a0 : Nat} {a1 : Int32} : pz_C dA d 42 [.ref a0, .int a1] f Q = pz_R dA d 42 0 [.ref a0, .int a1, .retAddr 0] [] f Q := rfl
theorem d42_0 : decode (pz_b 42) 0 = .ok (.iconst 0, 1) := by decide +kernel
theorem q42_0 {dA : Nat → ClassId} {d : Nat} {st : List Value} {f : pz_F} {Q : Option Value → pz_F → Prop} {v0 v1 v2 : Value} : pz_R dA d 42 0 [v0, v1, v2] st f Q = pz_R dA d 42 1 [v0, v1, v2] (.int 0 :: st) f Q := pz_go (pz_so d42_0 rfl)
theorem d42_1 : decode (pz_b 42) 1 = .ok (.istore_n 2, 1) := by decide +kernel
theorem q42_1 {dA : Nat → ClassId} {d : Nat} {st : List Value} {f : pz_F} {Q : Option Value → pz_F → Prop} {v0 v1 v2 : Value} {x : Int32} : pz_R dA d 42 1 [v0, v1, v2] (.int x :: st) f Q = pz_R dA d 42 2 [v0, v1, .int x] st f Q := pz_go (pz_so d42_1 rfl)
theorem d42_2 : decode (pz_b 42) 2 = .ok (.iload_n 2, 1) := by decide +kernel
theorem q42_2 {dA : Nat → ClassId} {d : Nat} {st : List Value} {f : pz_F} {Q : Option Value → pz_F → Prop} {v0 v1 : Value} {x : Int32} : pz_R dA d 42 2 [v0, v1, .int x] st f Q = pz_R dA d 42 3 [v0, v1, .int x] (.int x :: st) f Q := pz_go (pz_so d42_2 rfl)
theorem d42_3 : decode (pz_b 42) 3 = .ok (.bipush 6, 2) := by decide +kernel
theorem q42_3 {dA : Nat → ClassId} {d : Nat} {st : List Value} {f : pz_F} {Q : Option Value → pz_F → Prop} {v0 v1 v2 : Value} : pz_R dA d 42 3 [v0, v1, v2] st f Q = pz_R dA d 42 5 [v0, v1, v2] (.int 6 :: st) f Q := pz_go (pz_so d42_3 rfl)
theorem d42_5 : decode (pz_b 42) 5 = .ok (.if_icmp .ge 44, 3) := by decide +kernel
theorem q42_5 {dA : Nat → ClassId} {d : Nat} {st : List Value} {f : pz_F} {Q : Option Value → pz_F → Prop} {v0 v1 v2 : Value} {x y : Int32} : pz_R dA d 42 5 [v0, v1, v2] (.int y :: .int x :: st) f Q = (if y ≤ x then pz_R dA d 42 49 [v0, v1, v2] st f Q else pz_R dA d 42 8 [v0, v1, v2] st f Q) := pz_gjn .ge d42_5 rfl
theorem d42_8 : decode (pz_b 42) 8 = .ok (.aload_n 0, 1) := by decide +kernel
theorem q42_8 {dA : Nat → ClassId} {d : Nat} {st : List Value} {f : pz_F} {Q : Option Value → pz_F → Prop} {v1 v2 : Value} {x : Nat} : pz_R dA d 42 8 [.ref x, v1, v2] st f Q = pz_R dA d 42 9 [.ref x, v1, v2] (.ref x :: st) f Q := pz_go (pz_so d42_8 rfl)
theorem d42_9 : decode (pz_b 42) 9 = .ok (.getfield 20, 3) := by decide +kernel
theorem q42_9 {dA : Nat → ClassId} {d : Nat} {st : List Value} {f : pz_F} {Q : Option Value → pz_F → Prop} {v0 v1 v2 : Value} {a : Nat} : pz_R dA d 42 9 [v0, v1, v2] (.ref a :: st) f Q = pz_o (pz_gf f a 1 1) (fun v => pz_R dA d 42 12 [v0, v1, v2] (v :: st) f Q) := pz_gg d42_9 rfl
theorem d42_12 : decode (pz_b 42) 12 = .ok (.iload_n 2, 1) := by decide +kernel
theorem q42_12 {dA : Nat → ClassId} {d : Nat} {st : List Value} {f : pz_F} {Q : Option Value → pz_F → Prop} {v0 v1 : Value} {x : Int32} : pz_R dA d 42 12 [v0, v1, .int x] st f Q = pz_R dA d 42 13 [v0, v1, .int x] (.int x :: st) f Q := pz_go (pz_so d42_12 rfl)
theorem d42_13 : decode (pz_b 42) 13 = .ok (.aaload, 1) := by decide +kernel
theorem q42_13 {dA : Nat → ClassId} {d : Nat} {st : List Value} {f : pz_F} {Q : Option Value → pz_F → Prop} {v0 v1 v2 : Value} {i : Int32} {a : Nat} : pz_R dA d 42 13 [v0, v1, v2] (.int i :: .ref a :: st) f Q = pz_o (pz_rl dA f a i) (fun v => pz_R dA d 42 14 [v0, v1, v2] (v :: st) f Q) := pz_grl d42_13
theorem d42_14 : decode (pz_b 42) 14 = .ok (.getfield 54, 3) := by decide +kernel
theorem q42_14 {dA : Nat → ClassId} {d : Nat} {st : List Value} {f : pz_F} {Q : Option Value → pz_F → Prop} {v0 v1 v2 : Value} {a : Nat} : pz_R dA d 42 14 [v0, v1, v2] (.ref a :: st) f Q = pz_o (pz_gf f a 2 0) (fun v => pz_R dA d 42 17 [v0, v1, v2] (v :: st) f Q) := pz_gg d42_14 rfl
theorem d42_17 : decode (pz_b 42) 17 = .ok (.iconst 1, 1) := by decide +kernel
theorem q42_17 {dA : Nat → ClassId} {d : Nat} {st : List Value} {f : pz_F} {Q : Option Value → pz_F → Prop} {v0 v1 v2 : Value} : pz_R dA d 42 17 [v0, v1, v2] st f Q = pz_R dA d 42 18 [v0, v1, v2] (.int 1 :: st) f Q := pz_go (pz_so d42_17 rfl)
theorem d42_18 : decode (pz_b 42) 18 = .ok (.if_icmp .ne 25, 3) := by decide +kernel
theorem q42_18 {dA : Nat → ClassId} {d : Nat} {st : List Value} {f : pz_F} {Q : Option Value → pz_F → Prop} {v0 v1 v2 : Value} {x y : Int32} : pz_R dA d 42 18 [v0, v1, v2] (.int y :: .int x :: st) f Q = (if x = y then pz_R dA d 42 21 [v0, v1, v2] st f Q else pz_R dA d 42 43 [v0, v1, v2] st f Q) := pz_gjn .ne d42_18 rfl
theorem d42_21 : decode (pz_b 42) 21 = .ok (.aload_n 0, 1) := by decide +kernel
theorem q42_21 {dA : Nat → ClassId} {d : Nat} {st : List Value} {f : pz_F} {Q : Option Value → pz_F → Prop} {v1 v2 : Value} {x : Nat} : pz_R dA d 42 21 [.ref x, v1, v2] st f Q = pz_R dA d 42 22 [.ref x, v1, v2] (.ref x :: st) f Q := pz_go (pz_so d42_21 rfl)
theorem d42_22 : decode (pz_b 42) 22 = .ok (.getfield 20, 3) := by decide +kernel
theorem q42_22 {dA : Nat → ClassId} {d : Nat} {st : List Value} {f : pz_F} {Q : Option Value → pz_F → Prop} {v0 v1 v2 : Value} {a : Nat} : pz_R dA d 42 22 [v0, v1, v2] (.ref a :: st) f Q = pz_o (pz_gf f a 1 1) (fun v => pz_R dA d 42 25 [v0, v1, v2] (v :: st) f Q) := pz_gg d42_22 rfl
theorem d42_25 : decode (pz_b 42) 25 = .ok (.iload_n 2, 1) := by decide +kernel
theorem q42_25 {dA : Nat → ClassId} {d : Nat} {st : List Value} {f : pz_F} {Q : Option Value → pz_F → Prop} {v0 v1 : Value} {x : Int32} : pz_R dA d 42 25 [v0, v1, .int x] st f Q = pz_R dA d 42 26 [v0, v1, .int x] (.int x :: st) f Q := pz_go (pz_so d42_25 rfl)
theorem d42_26 : decode (pz_b 42) 26 = .ok (.aaload, 1) := by decide +kernel
theorem q42_26 {dA : Nat → ClassId} {d : Nat} {st : List Value} {f : pz_F} {Q : Option Value → pz_F → Prop} {v0 v1 v2 : Value} {i : Int32} {a : Nat} : pz_R dA d 42 26 [v0, v1, v2] (.int i :: .ref a :: st) f Q = pz_o (pz_rl dA f a i) (fun v => pz_R dA d 42 27 [v0, v1, v2] (v :: st) f Q) := pz_grl d42_26
theorem d42_27 : decode (pz_b 42) 27 = .ok (.getfield 57, 3) := by decide +kernel
theorem q42_27 {dA : Nat → ClassId} {d : Nat} {st : List Value} {f : pz_F} {Q : Option Value → pz_F → Prop} {v0 v1 v2 : Value} {a : Nat} : pz_R dA d 42 27 [v0, v1, v2] (.ref a :: st) f Q = pz_o (pz_gf f a 2 2) (fun v => pz_R dA d 42 30 [v0, v1, v2] (v :: st) f Q) := pz_gg d42_27 rfl
theorem d42_30 : decode (pz_b 42) 30 = .ok (.iload_n 1, 1) := by decide +kernel
theorem q42_30 {dA : Nat → ClassId} {d : Nat} {st : List Value} {f : pz_F} {Q : Option Value → pz_F → Prop} {v0 v2 : Value} {x : Int32} : pz_R dA d 42 30 [v0, .int x, v2] st f Q = pz_R dA d 42 31 [v0, .int x, v2] (.int x :: st) f Q := pz_go (pz_so d42_30 rfl)
theorem d42_31 : decode (pz_b 42) 31 = .ok (.if_icmp .ge 12, 3) := by decide +kernel
theorem q42_31 {dA : Nat → ClassId} {d : Nat} {st : List Value} {f : pz_F} {Q : Option Value → pz_F → Prop} {v0 v1 v2 : Value} {x y : Int32} : pz_R dA d 42 31 [v0, v1, v2] (.int y :: .int x :: st) f Q = (if y ≤ x then pz_R dA d 42 43 [v0, v1, v2] st f Q else pz_R dA d 42 34 [v0, v1, v2] st f Q) := pz_gjn .ge d42_31 rfl
theorem d42_34 : decode (pz_b 42) 34 = .ok (.aload_n 0, 1) := by decide +kernel
theorem q42_34 {dA : Nat → ClassId} {d : Nat} {st : List Value} {f : pz_F} {Q : Option Value → pz_F → Prop} {v1 v2 : Value} {x : Nat} : pz_R dA d 42 34 [.ref x, v1, v2] st f Q = pz_R dA d 42 35 [.ref x, v1, v2] (.ref x :: st) f Q := pz_go (pz_so d42_34 rfl)
theorem d42_35 : decode (pz_b 42) 35 = .ok (.getfield 20, 3) := by decide +kernel
theorem q42_35 {dA : Nat → ClassId} {d : Nat} {st : List Value} {f : pz_F} {Q : Option Value → pz_F → Prop} {v0 v1 v2 : Value} {a : Nat} : pz_R dA d 42 35 [v0, v1, v2] (.ref a :: st) f Q = pz_o (pz_gf f a 1 1) (fun v => pz_R dA d 42 38 [v0, v1, v2] (v :: st) f Q) := pz_gg d42_35 rfl
theorem d42_38 : decode (pz_b 42) 38 = .ok (.iload_n 2, 1) := by decide +kernel
theorem q42_38 {dA : Nat → ClassId} {d : Nat} {st : List Value} {f : pz_F} {Q : Option Value → pz_F → Prop} {v0 v1 : Value} {x : Int32} : pz_R dA d 42 38 [v0, v1, .int x] st f Q = pz_R dA d 42 39 [v0, v1, .int x] (.int x :: st) f Q := pz_go (pz_so d42_38 rfl)
theorem d42_39 : decode (pz_b 42) 39 = .ok (.aaload, 1) := by decide +kernel
theorem q42_39 {dA : Nat → ClassId} {d : Nat} {st : List Value} {f : pz_F} {Q : Option Value → pz_F → Prop} {v0 v1 v2 : Value} {i : Int32} {a : Nat} : pz_R dA d 42 39 [v0, v1, v2] (.int i :: .ref a :: st) f Q = pz_o (pz_rl dA f a i) (fun v => pz_R dA d 42 40 [v0, v1, v2] (v :: st) f Q) := pz_grl d42_39
theorem d42_40 : decode (pz_b 42) 40 = .ok (.invokevirtual 60, 3) := by decide +kernel
theorem q42_40 {dA : Nat → ClassId} {d : Nat} {st : List Value} {f : pz_F} {Q : Option Value → pz_F → Prop} {v0 v1 v2 : Value} {b : Nat} (hr : st.length ≤ 4) : pz_R dA (d + 1) 42 40 [v0, v1, v2] (.ref b :: st) f Q = pz_o (pz_gu f b 2) (fun _ => pz_C dA d 53 [.ref b] f (fun r f' => pz_R dA (d + 1) 42 43 [v0, v1, v2] (r.toList ++ st) f' Q)) := pz_gcv (As := []) d42_40 rfl rfl rfl hr
theorem d42_43 : decode (pz_b 42) 43 = .ok (.iinc 2 1, 3) := by decide +kernel
theorem q42_43 {dA : Nat → ClassId} {d : Nat} {st : List Value} {f : pz_F} {Q : Option Value → pz_F → Prop} {v0 v1 : Value} {x : Int32} : pz_R dA d 42 43 [v0, v1, .int x] st f Q = pz_R dA d 42 46 [v0, v1, .int (x + 1)] st f Q := pz_go (pz_so d42_43 rfl)
theorem d42_46 : decode (pz_b 42) 46 = .ok (.goto (-44), 3) := by decide +kernel
theorem q42_46 {dA : Nat → ClassId} {d : Nat} {st : List Value} {f : pz_F} {Q : Option Value → pz_F → Prop} {v0 v1 v2 : Value} : pz_R dA d 42 46 [v0, v1, v2] st f Q = pz_R dA d 42 2 [v0, v1, v2] st f Q := pz_go (pz_so d42_46 rfl)
theorem d42_49 : decode (pz_b 42) 49 = .ok (.return_, 1) := by decide +kernel
theorem q42_49 {dA : Nat → ClassId} {d : Nat} {f : pz_F} {Q : Option Value → pz_F → Prop} {v0 v1 v2 : Value} : pz_R dA d 42 49 [v0, v1, v2] [] f Q = Q none f := pz_gr (pz_so d42_49 rfl)
/-! S_markDirty (I)V -/
theorem e43 {dA : Nat → ClassId} {d : Nat} {f : pz_F} {Q : Option Value → pz_F → Prop} {a0 : Nat} {a1 : Int32} : pz_C dA d 43 [.ref a0, .int a1] f Q = pz_R dA d 43 0 [.ref a0, .int a1, .retAddr 0] [] f Q := rfl
theorem d43_0 : decode (pz_b 43) 0 = .ok (.iconst 0, 1) := by decide +kernel
theorem q43_0 {dA : Nat → ClassId} {d : Nat} {st : List Value} {f : pz_F} {Q : Option Value → pz_F → Prop} {v0 v1 v2 : Value} : pz_R dA d 43 0 [v0, v1, v2] st f Q = pz_R dA d 43 1 [v0, v1, v2] (.int 0 :: st) f Q := pz_go (pz_so d43_0 rfl)
theorem d43_1 : decode (pz_b 43) 1 = .ok (.istore_n 2, 1) := by decide +kernel
theorem q43_1 {dA : Nat → ClassId} {d : Nat} {st : List Value} {f : pz_F} {Q : Option Value → pz_F → Prop} {v0 v1 v2 : Value} {x : Int32} : pz_R dA d 43 1 [v0, v1, v2] (.int x :: st) f Q = pz_R dA d 43 2 [v0, v1, .int x] st f Q := pz_go (pz_so d43_1 rfl)
theorem d43_2 : decode (pz_b 43) 2 = .ok (.iload_n 2, 1) := by decide +kernel
theorem q43_2 {dA : Nat → ClassId} {d : Nat} {st : List Value} {f : pz_F} {Q : Option Value → pz_F → Prop} {v0 v1 : Value} {x : Int32} : pz_R dA d 43 2 [v0, v1, .int x] st f Q = pz_R dA d 43 3 [v0, v1, .int x] (.int x :: st) f Q := pz_go (pz_so d43_2 rfl)
theorem d43_3 : decode (pz_b 43) 3 = .ok (.bipush 6, 2) := by decide +kernel
theorem q43_3 {dA : Nat → ClassId} {d : Nat} {st : List Value} {f : pz_F} {Q : Option Value → pz_F → Prop} {v0 v1 v2 : Value} : pz_R dA d 43 3 [v0, v1, v2] st f Q = pz_R dA d 43 5 [v0, v1, v2] (.int 6 :: st) f Q := pz_go (pz_so d43_3 rfl)
theorem d43_5 : decode (pz_b 43) 5 = .ok (.if_icmp .ge 28, 3) := by decide +kernel
theorem q43_5 {dA : Nat → ClassId} {d : Nat} {st : List Value} {f : pz_F} {Q : Option Value → pz_F → Prop} {v0 v1 v2 : Value} {x y : Int32} : pz_R dA d 43 5 [v0, v1, v2] (.int y :: .int x :: st) f Q = (if y ≤ x then pz_R dA d 43 33 [v0, v1, v2] st f Q else pz_R dA d 43 8 [v0, v1, v2] st f Q) := pz_gjn .ge d43_5 rfl
theorem d43_8 : decode (pz_b 43) 8 = .ok (.iload_n 1, 1) := by decide +kernel
theorem q43_8 {dA : Nat → ClassId} {d : Nat} {st : List Value} {f : pz_F} {Q : Option Value → pz_F → Prop} {v0 v2 : Value} {x : Int32} : pz_R dA d 43 8 [v0, .int x, v2] st f Q = pz_R dA d 43 9 [v0, .int x, v2] (.int x :: st) f Q := pz_go (pz_so d43_8 rfl)
theorem d43_9 : decode (pz_b 43) 9 = .ok (.iload_n 2, 1) := by decide +kernel
theorem q43_9 {dA : Nat → ClassId} {d : Nat} {st : List Value} {f : pz_F} {Q : Option Value → pz_F → Prop} {v0 v1 : Value} {x : Int32} : pz_R dA d 43 9 [v0, v1, .int x] st f Q = pz_R dA d 43 10 [v0, v1, .int x] (.int x :: st) f Q := pz_go (pz_so d43_9 rfl)
theorem d43_10 : decode (pz_b 43) 10 = .ok (.ishr, 1) := by decide +kernel
theorem q43_10 {dA : Nat → ClassId} {d : Nat} {st : List Value} {f : pz_F} {Q : Option Value → pz_F → Prop} {v0 v1 v2 : Value} {x y : Int32} : pz_R dA d 43 10 [v0, v1, v2] (.int y :: .int x :: st) f Q = pz_R dA d 43 11 [v0, v1, v2] (.int (x >>> (y &&& 31)) :: st) f Q := pz_go (pz_so d43_10 rfl)
theorem d43_11 : decode (pz_b 43) 11 = .ok (.iconst 1, 1) := by decide +kernel
theorem q43_11 {dA : Nat → ClassId} {d : Nat} {st : List Value} {f : pz_F} {Q : Option Value → pz_F → Prop} {v0 v1 v2 : Value} : pz_R dA d 43 11 [v0, v1, v2] st f Q = pz_R dA d 43 12 [v0, v1, v2] (.int 1 :: st) f Q := pz_go (pz_so d43_11 rfl)
theorem d43_12 : decode (pz_b 43) 12 = .ok (.iand, 1) := by decide +kernel
theorem q43_12 {dA : Nat → ClassId} {d : Nat} {st : List Value} {f : pz_F} {Q : Option Value → pz_F → Prop} {v0 v1 v2 : Value} {x y : Int32} : pz_R dA d 43 12 [v0, v1, v2] (.int y :: .int x :: st) f Q = pz_R dA d 43 13 [v0, v1, v2] (.int (x &&& y) :: st) f Q := pz_go (pz_so d43_12 rfl)
theorem d43_13 : decode (pz_b 43) 13 = .ok (.iconst 1, 1) := by decide +kernel
theorem q43_13 {dA : Nat → ClassId} {d : Nat} {st : List Value} {f : pz_F} {Q : Option Value → pz_F → Prop} {v0 v1 v2 : Value} : pz_R dA d 43 13 [v0, v1, v2] st f Q = pz_R dA d 43 14 [v0, v1, v2] (.int 1 :: st) f Q := pz_go (pz_so d43_13 rfl)
theorem d43_14 : decode (pz_b 43) 14 = .ok (.if_icmp .ne 13, 3) := by decide +kernel
theorem q43_14 {dA : Nat → ClassId} {d : Nat} {st : List Value} {f : pz_F} {Q : Option Value → pz_F → Prop} {v0 v1 v2 : Value} {x y : Int32} : pz_R dA d 43 14 [v0, v1, v2] (.int y :: .int x :: st) f Q = (if x = y then pz_R dA d 43 17 [v0, v1, v2] st f Q else pz_R dA d 43 27 [v0, v1, v2] st f Q) := pz_gjn .ne d43_14 rfl
theorem d43_17 : decode (pz_b 43) 17 = .ok (.aload_n 0, 1) := by decide +kernel
theorem q43_17 {dA : Nat → ClassId} {d : Nat} {st : List Value} {f : pz_F} {Q : Option Value → pz_F → Prop} {v1 v2 : Value} {x : Nat} : pz_R dA d 43 17 [.ref x, v1, v2] st f Q = pz_R dA d 43 18 [.ref x, v1, v2] (.ref x :: st) f Q := pz_go (pz_so d43_17 rfl)
theorem d43_18 : decode (pz_b 43) 18 = .ok (.getfield 20, 3) := by decide +kernel
theorem q43_18 {dA : Nat → ClassId} {d : Nat} {st : List Value} {f : pz_F} {Q : Option Value → pz_F → Prop} {v0 v1 v2 : Value} {a : Nat} : pz_R dA d 43 18 [v0, v1, v2] (.ref a :: st) f Q = pz_o (pz_gf f a 1 1) (fun v => pz_R dA d 43 21 [v0, v1, v2] (v :: st) f Q) := pz_gg d43_18 rfl
theorem d43_21 : decode (pz_b 43) 21 = .ok (.iload_n 2, 1) := by decide +kernel
theorem q43_21 {dA : Nat → ClassId} {d : Nat} {st : List Value} {f : pz_F} {Q : Option Value → pz_F → Prop} {v0 v1 : Value} {x : Int32} : pz_R dA d 43 21 [v0, v1, .int x] st f Q = pz_R dA d 43 22 [v0, v1, .int x] (.int x :: st) f Q := pz_go (pz_so d43_21 rfl)
theorem d43_22 : decode (pz_b 43) 22 = .ok (.aaload, 1) := by decide +kernel
theorem q43_22 {dA : Nat → ClassId} {d : Nat} {st : List Value} {f : pz_F} {Q : Option Value → pz_F → Prop} {v0 v1 v2 : Value} {i : Int32} {a : Nat} : pz_R dA d 43 22 [v0, v1, v2] (.int i :: .ref a :: st) f Q = pz_o (pz_rl dA f a i) (fun v => pz_R dA d 43 23 [v0, v1, v2] (v :: st) f Q) := pz_grl d43_22
theorem d43_23 : decode (pz_b 43) 23 = .ok (.iconst 1, 1) := by decide +kernel
theorem q43_23 {dA : Nat → ClassId} {d : Nat} {st : List Value} {f : pz_F} {Q : Option Value → pz_F → Prop} {v0 v1 v2 : Value} : pz_R dA d 43 23 [v0, v1, v2] st f Q = pz_R dA d 43 24 [v0, v1, v2] (.int 1 :: st) f Q := pz_go (pz_so d43_23 rfl)
theorem d43_24 : decode (pz_b 43) 24 = .ok (.putfield 63, 3) := by decide +kernel
theorem q43_24z {dA : Nat → ClassId} {d : Nat} {st : List Value} {f : pz_F} {Q : Option Value → pz_F → Prop} {v0 v1 v2 : Value} {a : Nat} : pz_R dA d 43 24 [v0, v1, v2] (.int 0 :: .ref a :: st) f Q = pz_o (pz_pf f a 2 7 (.int 0)) (fun f' => pz_R dA d 43 27 [v0, v1, v2] st f' Q) := pz_gp d43_24 rfl rfl rfl rfl
theorem q43_24o {dA : Nat → ClassId} {d : Nat} {st : List Value} {f : pz_F} {Q : Option Value → pz_F → Prop} {v0 v1 v2 : Value} {a : Nat} : pz_R dA d 43 24 [v0, v1, v2] (.int 1 :: .ref a :: st) f Q = pz_o (pz_pf f a 2 7 (.int 1)) (fun f' => pz_R dA d 43 27 [v0, v1, v2] st f' Q) := pz_gp d43_24 rfl rfl rfl rfl
theorem d43_27 : decode (pz_b 43) 27 = .ok (.iinc 2 1, 3) := by decide +kernel
theorem q43_27 {dA : Nat → ClassId} {d : Nat} {st : List Value} {f : pz_F} {Q : Option Value → pz_F → Prop} {v0 v1 : Value} {x : Int32} : pz_R dA d 43 27 [v0, v1, .int x] st f Q = pz_R dA d 43 30 [v0, v1, .int (x + 1)] st f Q := pz_go (pz_so d43_27 rfl)
theorem d43_30 : decode (pz_b 43) 30 = .ok (.goto (-28), 3) := by decide +kernel
theorem q43_30 {dA : Nat → ClassId} {d : Nat} {st : List Value} {f : pz_F} {Q : Option Value → pz_F → Prop} {v0 v1 v2 : Value} : pz_R dA d 43 30 [v0, v1, v2] st f Q = pz_R dA d 43 2 [v0, v1, v2] st f Q := pz_go (pz_so d43_30 rfl)
theorem d43_33 : decode (pz_b 43) 33 = .ok (.return_, 1) := by decide +kernel
theorem q43_33 {dA : Nat → ClassId} {d : Nat} {f : pz_F} {Q : Option Value → pz_F → Prop} {v0 v1 v2 : Value} : pz_R dA d 43 33 [v0, v1, v2] [] f Q = Q none f := pz_gr (pz_so d43_33 rfl)
/-! S_choose (II)I -/
theorem e44 {dA : Nat → ClassId} {d : Nat} {f : pz_F} {Q : Option Value → pz_F → Prop} {a0 : Nat} {a1 : Int32} {a2 : Int32} : pz_C dA d 44 [.ref a0, .int a1, .int a2] f Q = pz_R dA d 44 0 [.ref a0, .int a1, .int a2, .retAddr 0] [] f Q := rfl
theorem d44_0 : decode (pz_b 44) 0 = .ok (.aload_n 0, 1) := by decide +kernel
theorem q44_0 {dA : Nat → ClassId} {d : Nat} {st : List Value} {f : pz_F} {Q : Option Value → pz_F → Prop} {v1 v2 v3 : Value} {x : Nat} : pz_R dA d 44 0 [.ref x, v1, v2, v3] st f Q = pz_R dA d 44 1 [.ref x, v1, v2, v3] (.ref x :: st) f Q := pz_go (pz_so d44_0 rfl)
theorem d44_1 : decode (pz_b 44) 1 = .ok (.iload_n 1, 1) := by decide +kernel
theorem q44_1 {dA : Nat → ClassId} {d : Nat} {st : List Value} {f : pz_F} {Q : Option Value → pz_F → Prop} {v0 v2 v3 : Value} {x : Int32} : pz_R dA d 44 1 [v0, .int x, v2, v3] st f Q = pz_R dA d 44 2 [v0, .int x, v2, v3] (.int x :: st) f Q := pz_go (pz_so d44_1 rfl)
theorem d44_2 : decode (pz_b 44) 2 = .ok (.invokevirtual 67, 3) := by decide +kernel
theorem q44_2 {dA : Nat → ClassId} {d : Nat} {st : List Value} {f : pz_F} {Q : Option Value → pz_F → Prop} {v0 v1 v2 v3 : Value} {c0 : Int32} {b : Nat} (hr : st.length ≤ 4) : pz_R dA (d + 1) 44 2 [v0, v1, v2, v3] (.int c0 :: .ref b :: st) f Q = pz_o (pz_gu f b 1) (fun _ => pz_C dA d 45 [.ref b, .int c0] f (fun r f' => pz_R dA (d + 1) 44 5 [v0, v1, v2, v3] (r.toList ++ st) f' Q)) := pz_gcv (As := [.int c0]) d44_2 rfl rfl rfl hr
theorem d44_5 : decode (pz_b 44) 5 = .ok (.istore_n 3, 1) := by decide +kernel
theorem q44_5 {dA : Nat → ClassId} {d : Nat} {st : List Value} {f : pz_F} {Q : Option Value → pz_F → Prop} {v0 v1 v2 v3 : Value} {x : Int32} : pz_R dA d 44 5 [v0, v1, v2, v3] (.int x :: st) f Q = pz_R dA d 44 6 [v0, v1, v2, .int x] st f Q := pz_go (pz_so d44_5 rfl)
theorem d44_6 : decode (pz_b 44) 6 = .ok (.iload_n 3, 1) := by decide +kernel
theorem q44_6 {dA : Nat → ClassId} {d : Nat} {st : List Value} {f : pz_F} {Q : Option Value → pz_F → Prop} {v0 v1 v2 : Value} {x : Int32} : pz_R dA d 44 6 [v0, v1, v2, .int x] st f Q = pz_R dA d 44 7 [v0, v1, v2, .int x] (.int x :: st) f Q := pz_go (pz_so d44_6 rfl)
theorem d44_7 : decode (pz_b 44) 7 = .ok (.iconst (-1), 1) := by decide +kernel
theorem q44_7 {dA : Nat → ClassId} {d : Nat} {st : List Value} {f : pz_F} {Q : Option Value → pz_F → Prop} {v0 v1 v2 v3 : Value} : pz_R dA d 44 7 [v0, v1, v2, v3] st f Q = pz_R dA d 44 8 [v0, v1, v2, v3] (.int (-1) :: st) f Q := pz_go (pz_so d44_7 rfl)
theorem d44_8 : decode (pz_b 44) 8 = .ok (.if_icmp .ne 9, 3) := by decide +kernel
theorem q44_8 {dA : Nat → ClassId} {d : Nat} {st : List Value} {f : pz_F} {Q : Option Value → pz_F → Prop} {v0 v1 v2 v3 : Value} {x y : Int32} : pz_R dA d 44 8 [v0, v1, v2, v3] (.int y :: .int x :: st) f Q = (if x = y then pz_R dA d 44 11 [v0, v1, v2, v3] st f Q else pz_R dA d 44 17 [v0, v1, v2, v3] st f Q) := pz_gjn .ne d44_8 rfl
theorem d44_11 : decode (pz_b 44) 11 = .ok (.aload_n 0, 1) := by decide +kernel
theorem q44_11 {dA : Nat → ClassId} {d : Nat} {st : List Value} {f : pz_F} {Q : Option Value → pz_F → Prop} {v1 v2 v3 : Value} {x : Nat} : pz_R dA d 44 11 [.ref x, v1, v2, v3] st f Q = pz_R dA d 44 12 [.ref x, v1, v2, v3] (.ref x :: st) f Q := pz_go (pz_so d44_11 rfl)
theorem d44_12 : decode (pz_b 44) 12 = .ok (.iconst 1, 1) := by decide +kernel
theorem q44_12 {dA : Nat → ClassId} {d : Nat} {st : List Value} {f : pz_F} {Q : Option Value → pz_F → Prop} {v0 v1 v2 v3 : Value} : pz_R dA d 44 12 [v0, v1, v2, v3] st f Q = pz_R dA d 44 13 [v0, v1, v2, v3] (.int 1 :: st) f Q := pz_go (pz_so d44_12 rfl)
theorem d44_13 : decode (pz_b 44) 13 = .ok (.invokevirtual 71, 3) := by decide +kernel
theorem q44_13 {dA : Nat → ClassId} {d : Nat} {st : List Value} {f : pz_F} {Q : Option Value → pz_F → Prop} {v0 v1 v2 v3 : Value} {c0 : Int32} {b : Nat} (hr : st.length ≤ 4) : pz_R dA (d + 1) 44 13 [v0, v1, v2, v3] (.int c0 :: .ref b :: st) f Q = pz_o (pz_gu f b 1) (fun _ => pz_C dA d 46 [.ref b, .int c0] f (fun r f' => pz_R dA (d + 1) 44 16 [v0, v1, v2, v3] (r.toList ++ st) f' Q)) := pz_gcv (As := [.int c0]) d44_13 rfl rfl rfl hr
theorem d44_16 : decode (pz_b 44) 16 = .ok (.istore_n 3, 1) := by decide +kernel
theorem q44_16 {dA : Nat → ClassId} {d : Nat} {st : List Value} {f : pz_F} {Q : Option Value → pz_F → Prop} {v0 v1 v2 v3 : Value} {x : Int32} : pz_R dA d 44 16 [v0, v1, v2, v3] (.int x :: st) f Q = pz_R dA d 44 17 [v0, v1, v2, .int x] st f Q := pz_go (pz_so d44_16 rfl)
theorem d44_17 : decode (pz_b 44) 17 = .ok (.iload_n 3, 1) := by decide +kernel
theorem q44_17 {dA : Nat → ClassId} {d : Nat} {st : List Value} {f : pz_F} {Q : Option Value → pz_F → Prop} {v0 v1 v2 : Value} {x : Int32} : pz_R dA d 44 17 [v0, v1, v2, .int x] st f Q = pz_R dA d 44 18 [v0, v1, v2, .int x] (.int x :: st) f Q := pz_go (pz_so d44_17 rfl)
theorem d44_18 : decode (pz_b 44) 18 = .ok (.iconst (-1), 1) := by decide +kernel
theorem q44_18 {dA : Nat → ClassId} {d : Nat} {st : List Value} {f : pz_F} {Q : Option Value → pz_F → Prop} {v0 v1 v2 v3 : Value} : pz_R dA d 44 18 [v0, v1, v2, v3] st f Q = pz_R dA d 44 19 [v0, v1, v2, v3] (.int (-1) :: st) f Q := pz_go (pz_so d44_18 rfl)
theorem d44_19 : decode (pz_b 44) 19 = .ok (.if_icmp .ne 19, 3) := by decide +kernel
theorem q44_19 {dA : Nat → ClassId} {d : Nat} {st : List Value} {f : pz_F} {Q : Option Value → pz_F → Prop} {v0 v1 v2 v3 : Value} {x y : Int32} : pz_R dA d 44 19 [v0, v1, v2, v3] (.int y :: .int x :: st) f Q = (if x = y then pz_R dA d 44 22 [v0, v1, v2, v3] st f Q else pz_R dA d 44 38 [v0, v1, v2, v3] st f Q) := pz_gjn .ne d44_19 rfl
theorem d44_22 : decode (pz_b 44) 22 = .ok (.aload_n 0, 1) := by decide +kernel
theorem q44_22 {dA : Nat → ClassId} {d : Nat} {st : List Value} {f : pz_F} {Q : Option Value → pz_F → Prop} {v1 v2 v3 : Value} {x : Nat} : pz_R dA d 44 22 [.ref x, v1, v2, v3] st f Q = pz_R dA d 44 23 [.ref x, v1, v2, v3] (.ref x :: st) f Q := pz_go (pz_so d44_22 rfl)
theorem d44_23 : decode (pz_b 44) 23 = .ok (.getfield 15, 3) := by decide +kernel
theorem q44_23 {dA : Nat → ClassId} {d : Nat} {st : List Value} {f : pz_F} {Q : Option Value → pz_F → Prop} {v0 v1 v2 v3 : Value} {a : Nat} : pz_R dA d 44 23 [v0, v1, v2, v3] (.ref a :: st) f Q = pz_o (pz_gf f a 1 2) (fun v => pz_R dA d 44 26 [v0, v1, v2, v3] (v :: st) f Q) := pz_gg d44_23 rfl
theorem d44_26 : decode (pz_b 44) 26 = .ok (.iconst 3, 1) := by decide +kernel
theorem q44_26 {dA : Nat → ClassId} {d : Nat} {st : List Value} {f : pz_F} {Q : Option Value → pz_F → Prop} {v0 v1 v2 v3 : Value} : pz_R dA d 44 26 [v0, v1, v2, v3] st f Q = pz_R dA d 44 27 [v0, v1, v2, v3] (.int 3 :: st) f Q := pz_go (pz_so d44_26 rfl)
theorem d44_27 : decode (pz_b 44) 27 = .ok (.if_icmp .ne 11, 3) := by decide +kernel
theorem q44_27 {dA : Nat → ClassId} {d : Nat} {st : List Value} {f : pz_F} {Q : Option Value → pz_F → Prop} {v0 v1 v2 v3 : Value} {x y : Int32} : pz_R dA d 44 27 [v0, v1, v2, v3] (.int y :: .int x :: st) f Q = (if x = y then pz_R dA d 44 30 [v0, v1, v2, v3] st f Q else pz_R dA d 44 38 [v0, v1, v2, v3] st f Q) := pz_gjn .ne d44_27 rfl
theorem d44_30 : decode (pz_b 44) 30 = .ok (.aload_n 0, 1) := by decide +kernel
theorem q44_30 {dA : Nat → ClassId} {d : Nat} {st : List Value} {f : pz_F} {Q : Option Value → pz_F → Prop} {v1 v2 v3 : Value} {x : Nat} : pz_R dA d 44 30 [.ref x, v1, v2, v3] st f Q = pz_R dA d 44 31 [.ref x, v1, v2, v3] (.ref x :: st) f Q := pz_go (pz_so d44_30 rfl)
theorem d44_31 : decode (pz_b 44) 31 = .ok (.iload_n 2, 1) := by decide +kernel
theorem q44_31 {dA : Nat → ClassId} {d : Nat} {st : List Value} {f : pz_F} {Q : Option Value → pz_F → Prop} {v0 v1 v3 : Value} {x : Int32} : pz_R dA d 44 31 [v0, v1, .int x, v3] st f Q = pz_R dA d 44 32 [v0, v1, .int x, v3] (.int x :: st) f Q := pz_go (pz_so d44_31 rfl)
theorem d44_32 : decode (pz_b 44) 32 = .ok (.invokevirtual 34, 3) := by decide +kernel
theorem q44_32 {dA : Nat → ClassId} {d : Nat} {st : List Value} {f : pz_F} {Q : Option Value → pz_F → Prop} {v0 v1 v2 v3 : Value} {c0 : Int32} {b : Nat} (hr : st.length ≤ 4) : pz_R dA (d + 1) 44 32 [v0, v1, v2, v3] (.int c0 :: .ref b :: st) f Q = pz_o (pz_gu f b 1) (fun _ => pz_C dA d 38 [.ref b, .int c0] f (fun r f' => pz_R dA (d + 1) 44 35 [v0, v1, v2, v3] (r.toList ++ st) f' Q)) := pz_gcv (As := [.int c0]) d44_32 rfl rfl rfl hr
theorem d44_35 : decode (pz_b 44) 35 = .ok (.ifCond .ne 5, 3) := by decide +kernel
theorem q44_35 {dA : Nat → ClassId} {d : Nat} {st : List Value} {f : pz_F} {Q : Option Value → pz_F → Prop} {v0 v1 v2 v3 : Value} {x : Int32} : pz_R dA d 44 35 [v0, v1, v2, v3] (.int x :: st) f Q = (if x = 0 then pz_R dA d 44 38 [v0, v1, v2, v3] st f Q else pz_R dA d 44 40 [v0, v1, v2, v3] st f Q) := pz_gj1 .ne d44_35 rfl
theorem d44_38 : decode (pz_b 44) 38 = .ok (.iload_n 3, 1) := by decide +kernel
theorem q44_38 {dA : Nat → ClassId} {d : Nat} {st : List Value} {f : pz_F} {Q : Option Value → pz_F → Prop} {v0 v1 v2 : Value} {x : Int32} : pz_R dA d 44 38 [v0, v1, v2, .int x] st f Q = pz_R dA d 44 39 [v0, v1, v2, .int x] (.int x :: st) f Q := pz_go (pz_so d44_38 rfl)
theorem d44_39 : decode (pz_b 44) 39 = .ok (.ireturn, 1) := by decide +kernel
theorem q44_39 {dA : Nat → ClassId} {d : Nat} {f : pz_F} {Q : Option Value → pz_F → Prop} {v0 v1 v2 v3 : Value} {x : Int32} : pz_R dA d 44 39 [v0, v1, v2, v3] [.int x] f Q = Q (some (.int x)) f := pz_gri d44_39 rfl rfl
theorem d44_40 : decode (pz_b 44) 40 = .ok (.aload_n 0, 1) := by decide +kernel
theorem q44_40 {dA : Nat → ClassId} {d : Nat} {st : List Value} {f : pz_F} {Q : Option Value → pz_F → Prop} {v1 v2 v3 : Value} {x : Nat} : pz_R dA d 44 40 [.ref x, v1, v2, v3] st f Q = pz_R dA d 44 41 [.ref x, v1, v2, v3] (.ref x :: st) f Q := pz_go (pz_so d44_40 rfl)
theorem d44_41 : decode (pz_b 44) 41 = .ok (.iconst 0, 1) := by decide +kernel
theorem q44_41 {dA : Nat → ClassId} {d : Nat} {st : List Value} {f : pz_F} {Q : Option Value → pz_F → Prop} {v0 v1 v2 v3 : Value} : pz_R dA d 44 41 [v0, v1, v2, v3] st f Q = pz_R dA d 44 42 [v0, v1, v2, v3] (.int 0 :: st) f Q := pz_go (pz_so d44_41 rfl)
theorem d44_42 : decode (pz_b 44) 42 = .ok (.invokevirtual 71, 3) := by decide +kernel
theorem q44_42 {dA : Nat → ClassId} {d : Nat} {st : List Value} {f : pz_F} {Q : Option Value → pz_F → Prop} {v0 v1 v2 v3 : Value} {c0 : Int32} {b : Nat} (hr : st.length ≤ 4) : pz_R dA (d + 1) 44 42 [v0, v1, v2, v3] (.int c0 :: .ref b :: st) f Q = pz_o (pz_gu f b 1) (fun _ => pz_C dA d 46 [.ref b, .int c0] f (fun r f' => pz_R dA (d + 1) 44 45 [v0, v1, v2, v3] (r.toList ++ st) f' Q)) := pz_gcv (As := [.int c0]) d44_42 rfl rfl rfl hr
theorem d44_45 : decode (pz_b 44) 45 = .ok (.istore_n 3, 1) := by decide +kernel
theorem q44_45 {dA : Nat → ClassId} {d : Nat} {st : List Value} {f : pz_F} {Q : Option Value → pz_F → Prop} {v0 v1 v2 v3 : Value} {x : Int32} : pz_R dA d 44 45 [v0, v1, v2, v3] (.int x :: st) f Q = pz_R dA d 44 46 [v0, v1, v2, .int x] st f Q := pz_go (pz_so d44_45 rfl)
theorem d44_46 : decode (pz_b 44) 46 = .ok (.iload_n 3, 1) := by decide +kernel
theorem q44_46 {dA : Nat → ClassId} {d : Nat} {st : List Value} {f : pz_F} {Q : Option Value → pz_F → Prop} {v0 v1 v2 : Value} {x : Int32} : pz_R dA d 44 46 [v0, v1, v2, .int x] st f Q = pz_R dA d 44 47 [v0, v1, v2, .int x] (.int x :: st) f Q := pz_go (pz_so d44_46 rfl)
theorem d44_47 : decode (pz_b 44) 47 = .ok (.iconst (-1), 1) := by decide +kernel
theorem q44_47 {dA : Nat → ClassId} {d : Nat} {st : List Value} {f : pz_F} {Q : Option Value → pz_F → Prop} {v0 v1 v2 v3 : Value} : pz_R dA d 44 47 [v0, v1, v2, v3] st f Q = pz_R dA d 44 48 [v0, v1, v2, v3] (.int (-1) :: st) f Q := pz_go (pz_so d44_47 rfl)
theorem d44_48 : decode (pz_b 44) 48 = .ok (.if_icmp .ne 11, 3) := by decide +kernel
theorem q44_48 {dA : Nat → ClassId} {d : Nat} {st : List Value} {f : pz_F} {Q : Option Value → pz_F → Prop} {v0 v1 v2 v3 : Value} {x y : Int32} : pz_R dA d 44 48 [v0, v1, v2, v3] (.int y :: .int x :: st) f Q = (if x = y then pz_R dA d 44 51 [v0, v1, v2, v3] st f Q else pz_R dA d 44 59 [v0, v1, v2, v3] st f Q) := pz_gjn .ne d44_48 rfl
theorem d44_51 : decode (pz_b 44) 51 = .ok (.aload_n 0, 1) := by decide +kernel
theorem q44_51 {dA : Nat → ClassId} {d : Nat} {st : List Value} {f : pz_F} {Q : Option Value → pz_F → Prop} {v1 v2 v3 : Value} {x : Nat} : pz_R dA d 44 51 [.ref x, v1, v2, v3] st f Q = pz_R dA d 44 52 [.ref x, v1, v2, v3] (.ref x :: st) f Q := pz_go (pz_so d44_51 rfl)
theorem d44_52 : decode (pz_b 44) 52 = .ok (.iload_n 2, 1) := by decide +kernel
theorem q44_52 {dA : Nat → ClassId} {d : Nat} {st : List Value} {f : pz_F} {Q : Option Value → pz_F → Prop} {v0 v1 v3 : Value} {x : Int32} : pz_R dA d 44 52 [v0, v1, .int x, v3] st f Q = pz_R dA d 44 53 [v0, v1, .int x, v3] (.int x :: st) f Q := pz_go (pz_so d44_52 rfl)
theorem d44_53 : decode (pz_b 44) 53 = .ok (.invokevirtual 75, 3) := by decide +kernel
theorem q44_53 {dA : Nat → ClassId} {d : Nat} {st : List Value} {f : pz_F} {Q : Option Value → pz_F → Prop} {v0 v1 v2 v3 : Value} {c0 : Int32} {b : Nat} (hr : st.length ≤ 4) : pz_R dA (d + 1) 44 53 [v0, v1, v2, v3] (.int c0 :: .ref b :: st) f Q = pz_o (pz_gu f b 1) (fun _ => pz_C dA d 47 [.ref b, .int c0] f (fun r f' => pz_R dA (d + 1) 44 56 [v0, v1, v2, v3] (r.toList ++ st) f' Q)) := pz_gcv (As := [.int c0]) d44_53 rfl rfl rfl hr
theorem d44_56 : decode (pz_b 44) 56 = .ok (.goto 4, 3) := by decide +kernel
theorem q44_56 {dA : Nat → ClassId} {d : Nat} {st : List Value} {f : pz_F} {Q : Option Value → pz_F → Prop} {v0 v1 v2 v3 : Value} : pz_R dA d 44 56 [v0, v1, v2, v3] st f Q = pz_R dA d 44 60 [v0, v1, v2, v3] st f Q := pz_go (pz_so d44_56 rfl)
theorem d44_59 : decode (pz_b 44) 59 = .ok (.iload_n 3, 1) := by decide +kernel
theorem q44_59 {dA : Nat → ClassId} {d : Nat} {st : List Value} {f : pz_F} {Q : Option Value → pz_F → Prop} {v0 v1 v2 : Value} {x : Int32} : pz_R dA d 44 59 [v0, v1, v2, .int x] st f Q = pz_R dA d 44 60 [v0, v1, v2, .int x] (.int x :: st) f Q := pz_go (pz_so d44_59 rfl)
theorem d44_60 : decode (pz_b 44) 60 = .ok (.ireturn, 1) := by decide +kernel
theorem q44_60 {dA : Nat → ClassId} {d : Nat} {f : pz_F} {Q : Option Value → pz_F → Prop} {v0 v1 v2 v3 : Value} {x : Int32} : pz_R dA d 44 60 [v0, v1, v2, v3] [.int x] f Q = Q (some (.int x)) f := pz_gri d44_60 rfl rfl
/-! S_leastLentTo (I)I -/
theorem e45 {dA : Nat → ClassId} {d : Nat} {f : pz_F} {Q : Option Value → pz_F → Prop} {a0 : Nat} {a1 : Int32} : pz_C dA d 45 [.ref a0, .int a1] f Q = pz_R dA d 45 0 [.ref a0, .int a1, .retAddr 0] [] f Q := rfl
theorem d45_0 : decode (pz_b 45) 0 = .ok (.iconst 0, 1) := by decide +kernel
theorem q45_0 {dA : Nat → ClassId} {d : Nat} {st : List Value} {f : pz_F} {Q : Option Value → pz_F → Prop} {v0 v1 v2 : Value} : pz_R dA d 45 0 [v0, v1, v2] st f Q = pz_R dA d 45 1 [v0, v1, v2] (.int 0 :: st) f Q := pz_go (pz_so d45_0 rfl)
theorem d45_1 : decode (pz_b 45) 1 = .ok (.istore_n 2, 1) := by decide +kernel
theorem q45_1 {dA : Nat → ClassId} {d : Nat} {st : List Value} {f : pz_F} {Q : Option Value → pz_F → Prop} {v0 v1 v2 : Value} {x : Int32} : pz_R dA d 45 1 [v0, v1, v2] (.int x :: st) f Q = pz_R dA d 45 2 [v0, v1, .int x] st f Q := pz_go (pz_so d45_1 rfl)
theorem d45_2 : decode (pz_b 45) 2 = .ok (.iload_n 2, 1) := by decide +kernel
theorem q45_2 {dA : Nat → ClassId} {d : Nat} {st : List Value} {f : pz_F} {Q : Option Value → pz_F → Prop} {v0 v1 : Value} {x : Int32} : pz_R dA d 45 2 [v0, v1, .int x] st f Q = pz_R dA d 45 3 [v0, v1, .int x] (.int x :: st) f Q := pz_go (pz_so d45_2 rfl)
theorem d45_3 : decode (pz_b 45) 3 = .ok (.bipush 6, 2) := by decide +kernel
theorem q45_3 {dA : Nat → ClassId} {d : Nat} {st : List Value} {f : pz_F} {Q : Option Value → pz_F → Prop} {v0 v1 v2 : Value} : pz_R dA d 45 3 [v0, v1, v2] st f Q = pz_R dA d 45 5 [v0, v1, v2] (.int 6 :: st) f Q := pz_go (pz_so d45_3 rfl)
theorem d45_5 : decode (pz_b 45) 5 = .ok (.if_icmp .ge 24, 3) := by decide +kernel
theorem q45_5 {dA : Nat → ClassId} {d : Nat} {st : List Value} {f : pz_F} {Q : Option Value → pz_F → Prop} {v0 v1 v2 : Value} {x y : Int32} : pz_R dA d 45 5 [v0, v1, v2] (.int y :: .int x :: st) f Q = (if y ≤ x then pz_R dA d 45 29 [v0, v1, v2] st f Q else pz_R dA d 45 8 [v0, v1, v2] st f Q) := pz_gjn .ge d45_5 rfl
theorem d45_8 : decode (pz_b 45) 8 = .ok (.aload_n 0, 1) := by decide +kernel
theorem q45_8 {dA : Nat → ClassId} {d : Nat} {st : List Value} {f : pz_F} {Q : Option Value → pz_F → Prop} {v1 v2 : Value} {x : Nat} : pz_R dA d 45 8 [.ref x, v1, v2] st f Q = pz_R dA d 45 9 [.ref x, v1, v2] (.ref x :: st) f Q := pz_go (pz_so d45_8 rfl)
theorem d45_9 : decode (pz_b 45) 9 = .ok (.getfield 20, 3) := by decide +kernel
theorem q45_9 {dA : Nat → ClassId} {d : Nat} {st : List Value} {f : pz_F} {Q : Option Value → pz_F → Prop} {v0 v1 v2 : Value} {a : Nat} : pz_R dA d 45 9 [v0, v1, v2] (.ref a :: st) f Q = pz_o (pz_gf f a 1 1) (fun v => pz_R dA d 45 12 [v0, v1, v2] (v :: st) f Q) := pz_gg d45_9 rfl
theorem d45_12 : decode (pz_b 45) 12 = .ok (.iload_n 2, 1) := by decide +kernel
theorem q45_12 {dA : Nat → ClassId} {d : Nat} {st : List Value} {f : pz_F} {Q : Option Value → pz_F → Prop} {v0 v1 : Value} {x : Int32} : pz_R dA d 45 12 [v0, v1, .int x] st f Q = pz_R dA d 45 13 [v0, v1, .int x] (.int x :: st) f Q := pz_go (pz_so d45_12 rfl)
theorem d45_13 : decode (pz_b 45) 13 = .ok (.aaload, 1) := by decide +kernel
theorem q45_13 {dA : Nat → ClassId} {d : Nat} {st : List Value} {f : pz_F} {Q : Option Value → pz_F → Prop} {v0 v1 v2 : Value} {i : Int32} {a : Nat} : pz_R dA d 45 13 [v0, v1, v2] (.int i :: .ref a :: st) f Q = pz_o (pz_rl dA f a i) (fun v => pz_R dA d 45 14 [v0, v1, v2] (v :: st) f Q) := pz_grl d45_13
theorem d45_14 : decode (pz_b 45) 14 = .ok (.iload_n 1, 1) := by decide +kernel
theorem q45_14 {dA : Nat → ClassId} {d : Nat} {st : List Value} {f : pz_F} {Q : Option Value → pz_F → Prop} {v0 v2 : Value} {x : Int32} : pz_R dA d 45 14 [v0, .int x, v2] st f Q = pz_R dA d 45 15 [v0, .int x, v2] (.int x :: st) f Q := pz_go (pz_so d45_14 rfl)
theorem d45_15 : decode (pz_b 45) 15 = .ok (.invokevirtual 78, 3) := by decide +kernel
theorem q45_15 {dA : Nat → ClassId} {d : Nat} {st : List Value} {f : pz_F} {Q : Option Value → pz_F → Prop} {v0 v1 v2 : Value} {c0 : Int32} {b : Nat} (hr : st.length ≤ 4) : pz_R dA (d + 1) 45 15 [v0, v1, v2] (.int c0 :: .ref b :: st) f Q = pz_o (pz_gu f b 2) (fun _ => pz_C dA d 50 [.ref b, .int c0] f (fun r f' => pz_R dA (d + 1) 45 18 [v0, v1, v2] (r.toList ++ st) f' Q)) := pz_gcv (As := [.int c0]) d45_15 rfl rfl rfl hr
theorem d45_18 : decode (pz_b 45) 18 = .ok (.ifCond .eq 5, 3) := by decide +kernel
theorem q45_18 {dA : Nat → ClassId} {d : Nat} {st : List Value} {f : pz_F} {Q : Option Value → pz_F → Prop} {v0 v1 v2 : Value} {x : Int32} : pz_R dA d 45 18 [v0, v1, v2] (.int x :: st) f Q = (if x = 0 then pz_R dA d 45 23 [v0, v1, v2] st f Q else pz_R dA d 45 21 [v0, v1, v2] st f Q) := pz_gj1 .eq d45_18 rfl
theorem d45_21 : decode (pz_b 45) 21 = .ok (.iload_n 2, 1) := by decide +kernel
theorem q45_21 {dA : Nat → ClassId} {d : Nat} {st : List Value} {f : pz_F} {Q : Option Value → pz_F → Prop} {v0 v1 : Value} {x : Int32} : pz_R dA d 45 21 [v0, v1, .int x] st f Q = pz_R dA d 45 22 [v0, v1, .int x] (.int x :: st) f Q := pz_go (pz_so d45_21 rfl)
theorem d45_22 : decode (pz_b 45) 22 = .ok (.ireturn, 1) := by decide +kernel
theorem q45_22 {dA : Nat → ClassId} {d : Nat} {f : pz_F} {Q : Option Value → pz_F → Prop} {v0 v1 v2 : Value} {x : Int32} : pz_R dA d 45 22 [v0, v1, v2] [.int x] f Q = Q (some (.int x)) f := pz_gri d45_22 rfl rfl
theorem d45_23 : decode (pz_b 45) 23 = .ok (.iinc 2 1, 3) := by decide +kernel
theorem q45_23 {dA : Nat → ClassId} {d : Nat} {st : List Value} {f : pz_F} {Q : Option Value → pz_F → Prop} {v0 v1 : Value} {x : Int32} : pz_R dA d 45 23 [v0, v1, .int x] st f Q = pz_R dA d 45 26 [v0, v1, .int (x + 1)] st f Q := pz_go (pz_so d45_23 rfl)
theorem d45_26 : decode (pz_b 45) 26 = .ok (.goto (-24), 3) := by decide +kernel
theorem q45_26 {dA : Nat → ClassId} {d : Nat} {st : List Value} {f : pz_F} {Q : Option Value → pz_F → Prop} {v0 v1 v2 : Value} : pz_R dA d 45 26 [v0, v1, v2] st f Q = pz_R dA d 45 2 [v0, v1, v2] st f Q := pz_go (pz_so d45_26 rfl)
theorem d45_29 : decode (pz_b 45) 29 = .ok (.iconst (-1), 1) := by decide +kernel
theorem q45_29 {dA : Nat → ClassId} {d : Nat} {st : List Value} {f : pz_F} {Q : Option Value → pz_F → Prop} {v0 v1 v2 : Value} : pz_R dA d 45 29 [v0, v1, v2] st f Q = pz_R dA d 45 30 [v0, v1, v2] (.int (-1) :: st) f Q := pz_go (pz_so d45_29 rfl)
theorem d45_30 : decode (pz_b 45) 30 = .ok (.ireturn, 1) := by decide +kernel
theorem q45_30 {dA : Nat → ClassId} {d : Nat} {f : pz_F} {Q : Option Value → pz_F → Prop} {v0 v1 v2 : Value} {x : Int32} : pz_R dA d 45 30 [v0, v1, v2] [.int x] f Q = Q (some (.int x)) f := pz_gri d45_30 rfl rfl
/-! S_leastFree (Z)I -/
theorem e46 {dA : Nat → ClassId} {d : Nat} {f : pz_F} {Q : Option Value → pz_F → Prop} {a0 : Nat} {a1 : Int32} : pz_C dA d 46 [.ref a0, .int a1] f Q = pz_R dA d 46 0 [.ref a0, .int a1, .retAddr 0] [] f Q := rfl
theorem d46_0 : decode (pz_b 46) 0 = .ok (.iconst 0, 1) := by decide +kernel
theorem q46_0 {dA : Nat → ClassId} {d : Nat} {st : List Value} {f : pz_F} {Q : Option Value → pz_F → Prop} {v0 v1 v2 : Value} : pz_R dA d 46 0 [v0, v1, v2] st f Q = pz_R dA d 46 1 [v0, v1, v2] (.int 0 :: st) f Q := pz_go (pz_so d46_0 rfl)
theorem d46_1 : decode (pz_b 46) 1 = .ok (.istore_n 2, 1) := by decide +kernel
theorem q46_1 {dA : Nat → ClassId} {d : Nat} {st : List Value} {f : pz_F} {Q : Option Value → pz_F → Prop} {v0 v1 v2 : Value} {x : Int32} : pz_R dA d 46 1 [v0, v1, v2] (.int x :: st) f Q = pz_R dA d 46 2 [v0, v1, .int x] st f Q := pz_go (pz_so d46_1 rfl)
theorem d46_2 : decode (pz_b 46) 2 = .ok (.iload_n 2, 1) := by decide +kernel
theorem q46_2 {dA : Nat → ClassId} {d : Nat} {st : List Value} {f : pz_F} {Q : Option Value → pz_F → Prop} {v0 v1 : Value} {x : Int32} : pz_R dA d 46 2 [v0, v1, .int x] st f Q = pz_R dA d 46 3 [v0, v1, .int x] (.int x :: st) f Q := pz_go (pz_so d46_2 rfl)
theorem d46_3 : decode (pz_b 46) 3 = .ok (.bipush 6, 2) := by decide +kernel
theorem q46_3 {dA : Nat → ClassId} {d : Nat} {st : List Value} {f : pz_F} {Q : Option Value → pz_F → Prop} {v0 v1 v2 : Value} : pz_R dA d 46 3 [v0, v1, v2] st f Q = pz_R dA d 46 5 [v0, v1, v2] (.int 6 :: st) f Q := pz_go (pz_so d46_3 rfl)
theorem d46_5 : decode (pz_b 46) 5 = .ok (.if_icmp .ge 37, 3) := by decide +kernel
theorem q46_5 {dA : Nat → ClassId} {d : Nat} {st : List Value} {f : pz_F} {Q : Option Value → pz_F → Prop} {v0 v1 v2 : Value} {x y : Int32} : pz_R dA d 46 5 [v0, v1, v2] (.int y :: .int x :: st) f Q = (if y ≤ x then pz_R dA d 46 42 [v0, v1, v2] st f Q else pz_R dA d 46 8 [v0, v1, v2] st f Q) := pz_gjn .ge d46_5 rfl
theorem d46_8 : decode (pz_b 46) 8 = .ok (.aload_n 0, 1) := by decide +kernel
theorem q46_8 {dA : Nat → ClassId} {d : Nat} {st : List Value} {f : pz_F} {Q : Option Value → pz_F → Prop} {v1 v2 : Value} {x : Nat} : pz_R dA d 46 8 [.ref x, v1, v2] st f Q = pz_R dA d 46 9 [.ref x, v1, v2] (.ref x :: st) f Q := pz_go (pz_so d46_8 rfl)
theorem d46_9 : decode (pz_b 46) 9 = .ok (.getfield 20, 3) := by decide +kernel
theorem q46_9 {dA : Nat → ClassId} {d : Nat} {st : List Value} {f : pz_F} {Q : Option Value → pz_F → Prop} {v0 v1 v2 : Value} {a : Nat} : pz_R dA d 46 9 [v0, v1, v2] (.ref a :: st) f Q = pz_o (pz_gf f a 1 1) (fun v => pz_R dA d 46 12 [v0, v1, v2] (v :: st) f Q) := pz_gg d46_9 rfl
theorem d46_12 : decode (pz_b 46) 12 = .ok (.iload_n 2, 1) := by decide +kernel
theorem q46_12 {dA : Nat → ClassId} {d : Nat} {st : List Value} {f : pz_F} {Q : Option Value → pz_F → Prop} {v0 v1 : Value} {x : Int32} : pz_R dA d 46 12 [v0, v1, .int x] st f Q = pz_R dA d 46 13 [v0, v1, .int x] (.int x :: st) f Q := pz_go (pz_so d46_12 rfl)
theorem d46_13 : decode (pz_b 46) 13 = .ok (.aaload, 1) := by decide +kernel
theorem q46_13 {dA : Nat → ClassId} {d : Nat} {st : List Value} {f : pz_F} {Q : Option Value → pz_F → Prop} {v0 v1 v2 : Value} {i : Int32} {a : Nat} : pz_R dA d 46 13 [v0, v1, v2] (.int i :: .ref a :: st) f Q = pz_o (pz_rl dA f a i) (fun v => pz_R dA d 46 14 [v0, v1, v2] (v :: st) f Q) := pz_grl d46_13
theorem d46_14 : decode (pz_b 46) 14 = .ok (.getfield 54, 3) := by decide +kernel
theorem q46_14 {dA : Nat → ClassId} {d : Nat} {st : List Value} {f : pz_F} {Q : Option Value → pz_F → Prop} {v0 v1 v2 : Value} {a : Nat} : pz_R dA d 46 14 [v0, v1, v2] (.ref a :: st) f Q = pz_o (pz_gf f a 2 0) (fun v => pz_R dA d 46 17 [v0, v1, v2] (v :: st) f Q) := pz_gg d46_14 rfl
theorem d46_17 : decode (pz_b 46) 17 = .ok (.ifCond .ne 19, 3) := by decide +kernel
theorem q46_17 {dA : Nat → ClassId} {d : Nat} {st : List Value} {f : pz_F} {Q : Option Value → pz_F → Prop} {v0 v1 v2 : Value} {x : Int32} : pz_R dA d 46 17 [v0, v1, v2] (.int x :: st) f Q = (if x = 0 then pz_R dA d 46 20 [v0, v1, v2] st f Q else pz_R dA d 46 36 [v0, v1, v2] st f Q) := pz_gj1 .ne d46_17 rfl
theorem d46_20 : decode (pz_b 46) 20 = .ok (.iload_n 1, 1) := by decide +kernel
theorem q46_20 {dA : Nat → ClassId} {d : Nat} {st : List Value} {f : pz_F} {Q : Option Value → pz_F → Prop} {v0 v2 : Value} {x : Int32} : pz_R dA d 46 20 [v0, .int x, v2] st f Q = pz_R dA d 46 21 [v0, .int x, v2] (.int x :: st) f Q := pz_go (pz_so d46_20 rfl)
theorem d46_21 : decode (pz_b 46) 21 = .ok (.ifCond .eq 13, 3) := by decide +kernel
theorem q46_21 {dA : Nat → ClassId} {d : Nat} {st : List Value} {f : pz_F} {Q : Option Value → pz_F → Prop} {v0 v1 v2 : Value} {x : Int32} : pz_R dA d 46 21 [v0, v1, v2] (.int x :: st) f Q = (if x = 0 then pz_R dA d 46 34 [v0, v1, v2] st f Q else pz_R dA d 46 24 [v0, v1, v2] st f Q) := pz_gj1 .eq d46_21 rfl
theorem d46_24 : decode (pz_b 46) 24 = .ok (.iload_n 2, 1) := by decide +kernel
theorem q46_24 {dA : Nat → ClassId} {d : Nat} {st : List Value} {f : pz_F} {Q : Option Value → pz_F → Prop} {v0 v1 : Value} {x : Int32} : pz_R dA d 46 24 [v0, v1, .int x] st f Q = pz_R dA d 46 25 [v0, v1, .int x] (.int x :: st) f Q := pz_go (pz_so d46_24 rfl)
theorem d46_25 : decode (pz_b 46) 25 = .ok (.iconst 2, 1) := by decide +kernel
theorem q46_25 {dA : Nat → ClassId} {d : Nat} {st : List Value} {f : pz_F} {Q : Option Value → pz_F → Prop} {v0 v1 v2 : Value} : pz_R dA d 46 25 [v0, v1, v2] st f Q = pz_R dA d 46 26 [v0, v1, v2] (.int 2 :: st) f Q := pz_go (pz_so d46_25 rfl)
theorem d46_26 : decode (pz_b 46) 26 = .ok (.irem, 1) := by decide +kernel
theorem q46_26 {dA : Nat → ClassId} {d : Nat} {st : List Value} {f : pz_F} {Q : Option Value → pz_F → Prop} {v0 v1 v2 : Value} {x : Int32} : pz_R dA d 46 26 [v0, v1, v2] (.int 2 :: .int x :: st) f Q = pz_R dA d 46 27 [v0, v1, v2] (.int (x - x / 2 * 2) :: st) f Q := pz_gre d46_26 (by decide)
theorem d46_27 : decode (pz_b 46) 27 = .ok (.aload_n 0, 1) := by decide +kernel
theorem q46_27 {dA : Nat → ClassId} {d : Nat} {st : List Value} {f : pz_F} {Q : Option Value → pz_F → Prop} {v1 v2 : Value} {x : Nat} : pz_R dA d 46 27 [.ref x, v1, v2] st f Q = pz_R dA d 46 28 [.ref x, v1, v2] (.ref x :: st) f Q := pz_go (pz_so d46_27 rfl)
theorem d46_28 : decode (pz_b 46) 28 = .ok (.getfield 9, 3) := by decide +kernel
theorem q46_28 {dA : Nat → ClassId} {d : Nat} {st : List Value} {f : pz_F} {Q : Option Value → pz_F → Prop} {v0 v1 v2 : Value} {a : Nat} : pz_R dA d 46 28 [v0, v1, v2] (.ref a :: st) f Q = pz_o (pz_gf f a 1 0) (fun v => pz_R dA d 46 31 [v0, v1, v2] (v :: st) f Q) := pz_gg d46_28 rfl
theorem d46_31 : decode (pz_b 46) 31 = .ok (.if_icmp .ne 5, 3) := by decide +kernel
theorem q46_31 {dA : Nat → ClassId} {d : Nat} {st : List Value} {f : pz_F} {Q : Option Value → pz_F → Prop} {v0 v1 v2 : Value} {x y : Int32} : pz_R dA d 46 31 [v0, v1, v2] (.int y :: .int x :: st) f Q = (if x = y then pz_R dA d 46 34 [v0, v1, v2] st f Q else pz_R dA d 46 36 [v0, v1, v2] st f Q) := pz_gjn .ne d46_31 rfl
theorem d46_34 : decode (pz_b 46) 34 = .ok (.iload_n 2, 1) := by decide +kernel
theorem q46_34 {dA : Nat → ClassId} {d : Nat} {st : List Value} {f : pz_F} {Q : Option Value → pz_F → Prop} {v0 v1 : Value} {x : Int32} : pz_R dA d 46 34 [v0, v1, .int x] st f Q = pz_R dA d 46 35 [v0, v1, .int x] (.int x :: st) f Q := pz_go (pz_so d46_34 rfl)
theorem d46_35 : decode (pz_b 46) 35 = .ok (.ireturn, 1) := by decide +kernel
theorem q46_35 {dA : Nat → ClassId} {d : Nat} {f : pz_F} {Q : Option Value → pz_F → Prop} {v0 v1 v2 : Value} {x : Int32} : pz_R dA d 46 35 [v0, v1, v2] [.int x] f Q = Q (some (.int x)) f := pz_gri d46_35 rfl rfl
theorem d46_36 : decode (pz_b 46) 36 = .ok (.iinc 2 1, 3) := by decide +kernel
theorem q46_36 {dA : Nat → ClassId} {d : Nat} {st : List Value} {f : pz_F} {Q : Option Value → pz_F → Prop} {v0 v1 : Value} {x : Int32} : pz_R dA d 46 36 [v0, v1, .int x] st f Q = pz_R dA d 46 39 [v0, v1, .int (x + 1)] st f Q := pz_go (pz_so d46_36 rfl)
theorem d46_39 : decode (pz_b 46) 39 = .ok (.goto (-37), 3) := by decide +kernel
theorem q46_39 {dA : Nat → ClassId} {d : Nat} {st : List Value} {f : pz_F} {Q : Option Value → pz_F → Prop} {v0 v1 v2 : Value} : pz_R dA d 46 39 [v0, v1, v2] st f Q = pz_R dA d 46 2 [v0, v1, v2] st f Q := pz_go (pz_so d46_39 rfl)
theorem d46_42 : decode (pz_b 46) 42 = .ok (.iconst (-1), 1) := by decide +kernel
theorem q46_42 {dA : Nat → ClassId} {d : Nat} {st : List Value} {f : pz_F} {Q : Option Value → pz_F → Prop} {v0 v1 v2 : Value} : pz_R dA d 46 42 [v0, v1, v2] st f Q = pz_R dA d 46 43 [v0, v1, v2] (.int (-1) :: st) f Q := pz_go (pz_so d46_42 rfl)
theorem d46_43 : decode (pz_b 46) 43 = .ok (.ireturn, 1) := by decide +kernel
theorem q46_43 {dA : Nat → ClassId} {d : Nat} {f : pz_F} {Q : Option Value → pz_F → Prop} {v0 v1 v2 : Value} {x : Int32} : pz_R dA d 46 43 [v0, v1, v2] [.int x] f Q = Q (some (.int x)) f := pz_gri d46_43 rfl rfl
/-! S_leastLongPast (I)I -/
theorem e47 {dA : Nat → ClassId} {d : Nat} {f : pz_F} {Q : Option Value → pz_F → Prop} {a0 : Nat} {a1 : Int32} : pz_C dA d 47 [.ref a0, .int a1] f Q = pz_R dA d 47 0 [.ref a0, .int a1, .retAddr 0] [] f Q := rfl
theorem d47_0 : decode (pz_b 47) 0 = .ok (.iconst 0, 1) := by decide +kernel
theorem q47_0 {dA : Nat → ClassId} {d : Nat} {st : List Value} {f : pz_F} {Q : Option Value → pz_F → Prop} {v0 v1 v2 : Value} : pz_R dA d 47 0 [v0, v1, v2] st f Q = pz_R dA d 47 1 [v0, v1, v2] (.int 0 :: st) f Q := pz_go (pz_so d47_0 rfl)
theorem d47_1 : decode (pz_b 47) 1 = .ok (.istore_n 2, 1) := by decide +kernel
theorem q47_1 {dA : Nat → ClassId} {d : Nat} {st : List Value} {f : pz_F} {Q : Option Value → pz_F → Prop} {v0 v1 v2 : Value} {x : Int32} : pz_R dA d 47 1 [v0, v1, v2] (.int x :: st) f Q = pz_R dA d 47 2 [v0, v1, .int x] st f Q := pz_go (pz_so d47_1 rfl)
theorem d47_2 : decode (pz_b 47) 2 = .ok (.iload_n 2, 1) := by decide +kernel
theorem q47_2 {dA : Nat → ClassId} {d : Nat} {st : List Value} {f : pz_F} {Q : Option Value → pz_F → Prop} {v0 v1 : Value} {x : Int32} : pz_R dA d 47 2 [v0, v1, .int x] st f Q = pz_R dA d 47 3 [v0, v1, .int x] (.int x :: st) f Q := pz_go (pz_so d47_2 rfl)
theorem d47_3 : decode (pz_b 47) 3 = .ok (.bipush 6, 2) := by decide +kernel
theorem q47_3 {dA : Nat → ClassId} {d : Nat} {st : List Value} {f : pz_F} {Q : Option Value → pz_F → Prop} {v0 v1 v2 : Value} : pz_R dA d 47 3 [v0, v1, v2] st f Q = pz_R dA d 47 5 [v0, v1, v2] (.int 6 :: st) f Q := pz_go (pz_so d47_3 rfl)
theorem d47_5 : decode (pz_b 47) 5 = .ok (.if_icmp .ge 24, 3) := by decide +kernel
theorem q47_5 {dA : Nat → ClassId} {d : Nat} {st : List Value} {f : pz_F} {Q : Option Value → pz_F → Prop} {v0 v1 v2 : Value} {x y : Int32} : pz_R dA d 47 5 [v0, v1, v2] (.int y :: .int x :: st) f Q = (if y ≤ x then pz_R dA d 47 29 [v0, v1, v2] st f Q else pz_R dA d 47 8 [v0, v1, v2] st f Q) := pz_gjn .ge d47_5 rfl
theorem d47_8 : decode (pz_b 47) 8 = .ok (.aload_n 0, 1) := by decide +kernel
theorem q47_8 {dA : Nat → ClassId} {d : Nat} {st : List Value} {f : pz_F} {Q : Option Value → pz_F → Prop} {v1 v2 : Value} {x : Nat} : pz_R dA d 47 8 [.ref x, v1, v2] st f Q = pz_R dA d 47 9 [.ref x, v1, v2] (.ref x :: st) f Q := pz_go (pz_so d47_8 rfl)
theorem d47_9 : decode (pz_b 47) 9 = .ok (.getfield 20, 3) := by decide +kernel
theorem q47_9 {dA : Nat → ClassId} {d : Nat} {st : List Value} {f : pz_F} {Q : Option Value → pz_F → Prop} {v0 v1 v2 : Value} {a : Nat} : pz_R dA d 47 9 [v0, v1, v2] (.ref a :: st) f Q = pz_o (pz_gf f a 1 1) (fun v => pz_R dA d 47 12 [v0, v1, v2] (v :: st) f Q) := pz_gg d47_9 rfl
theorem d47_12 : decode (pz_b 47) 12 = .ok (.iload_n 2, 1) := by decide +kernel
theorem q47_12 {dA : Nat → ClassId} {d : Nat} {st : List Value} {f : pz_F} {Q : Option Value → pz_F → Prop} {v0 v1 : Value} {x : Int32} : pz_R dA d 47 12 [v0, v1, .int x] st f Q = pz_R dA d 47 13 [v0, v1, .int x] (.int x :: st) f Q := pz_go (pz_so d47_12 rfl)
theorem d47_13 : decode (pz_b 47) 13 = .ok (.aaload, 1) := by decide +kernel
theorem q47_13 {dA : Nat → ClassId} {d : Nat} {st : List Value} {f : pz_F} {Q : Option Value → pz_F → Prop} {v0 v1 v2 : Value} {i : Int32} {a : Nat} : pz_R dA d 47 13 [v0, v1, v2] (.int i :: .ref a :: st) f Q = pz_o (pz_rl dA f a i) (fun v => pz_R dA d 47 14 [v0, v1, v2] (v :: st) f Q) := pz_grl d47_13
theorem d47_14 : decode (pz_b 47) 14 = .ok (.iload_n 1, 1) := by decide +kernel
theorem q47_14 {dA : Nat → ClassId} {d : Nat} {st : List Value} {f : pz_F} {Q : Option Value → pz_F → Prop} {v0 v2 : Value} {x : Int32} : pz_R dA d 47 14 [v0, .int x, v2] st f Q = pz_R dA d 47 15 [v0, .int x, v2] (.int x :: st) f Q := pz_go (pz_so d47_14 rfl)
theorem d47_15 : decode (pz_b 47) 15 = .ok (.invokevirtual 81, 3) := by decide +kernel
theorem q47_15 {dA : Nat → ClassId} {d : Nat} {st : List Value} {f : pz_F} {Q : Option Value → pz_F → Prop} {v0 v1 v2 : Value} {c0 : Int32} {b : Nat} (hr : st.length ≤ 4) : pz_R dA (d + 1) 47 15 [v0, v1, v2] (.int c0 :: .ref b :: st) f Q = pz_o (pz_gu f b 2) (fun _ => pz_C dA d 51 [.ref b, .int c0] f (fun r f' => pz_R dA (d + 1) 47 18 [v0, v1, v2] (r.toList ++ st) f' Q)) := pz_gcv (As := [.int c0]) d47_15 rfl rfl rfl hr
theorem d47_18 : decode (pz_b 47) 18 = .ok (.ifCond .eq 5, 3) := by decide +kernel
theorem q47_18 {dA : Nat → ClassId} {d : Nat} {st : List Value} {f : pz_F} {Q : Option Value → pz_F → Prop} {v0 v1 v2 : Value} {x : Int32} : pz_R dA d 47 18 [v0, v1, v2] (.int x :: st) f Q = (if x = 0 then pz_R dA d 47 23 [v0, v1, v2] st f Q else pz_R dA d 47 21 [v0, v1, v2] st f Q) := pz_gj1 .eq d47_18 rfl
theorem d47_21 : decode (pz_b 47) 21 = .ok (.iload_n 2, 1) := by decide +kernel
theorem q47_21 {dA : Nat → ClassId} {d : Nat} {st : List Value} {f : pz_F} {Q : Option Value → pz_F → Prop} {v0 v1 : Value} {x : Int32} : pz_R dA d 47 21 [v0, v1, .int x] st f Q = pz_R dA d 47 22 [v0, v1, .int x] (.int x :: st) f Q := pz_go (pz_so d47_21 rfl)
theorem d47_22 : decode (pz_b 47) 22 = .ok (.ireturn, 1) := by decide +kernel
theorem q47_22 {dA : Nat → ClassId} {d : Nat} {f : pz_F} {Q : Option Value → pz_F → Prop} {v0 v1 v2 : Value} {x : Int32} : pz_R dA d 47 22 [v0, v1, v2] [.int x] f Q = Q (some (.int x)) f := pz_gri d47_22 rfl rfl
theorem d47_23 : decode (pz_b 47) 23 = .ok (.iinc 2 1, 3) := by decide +kernel
theorem q47_23 {dA : Nat → ClassId} {d : Nat} {st : List Value} {f : pz_F} {Q : Option Value → pz_F → Prop} {v0 v1 : Value} {x : Int32} : pz_R dA d 47 23 [v0, v1, .int x] st f Q = pz_R dA d 47 26 [v0, v1, .int (x + 1)] st f Q := pz_go (pz_so d47_23 rfl)
theorem d47_26 : decode (pz_b 47) 26 = .ok (.goto (-24), 3) := by decide +kernel
theorem q47_26 {dA : Nat → ClassId} {d : Nat} {st : List Value} {f : pz_F} {Q : Option Value → pz_F → Prop} {v0 v1 v2 : Value} : pz_R dA d 47 26 [v0, v1, v2] st f Q = pz_R dA d 47 2 [v0, v1, v2] st f Q := pz_go (pz_so d47_26 rfl)
theorem d47_29 : decode (pz_b 47) 29 = .ok (.iconst (-1), 1) := by decide +kernel
theorem q47_29 {dA : Nat → ClassId} {d : Nat} {st : List Value} {f : pz_F} {Q : Option Value → pz_F → Prop} {v0 v1 v2 : Value} : pz_R dA d 47 29 [v0, v1, v2] st f Q = pz_R dA d 47 30 [v0, v1, v2] (.int (-1) :: st) f Q := pz_go (pz_so d47_29 rfl)
theorem d47_30 : decode (pz_b 47) 30 = .ok (.ireturn, 1) := by decide +kernel
theorem q47_30 {dA : Nat → ClassId} {d : Nat} {f : pz_F} {Q : Option Value → pz_F → Prop} {v0 v1 v2 : Value} {x : Int32} : pz_R dA d 47 30 [v0, v1, v2] [.int x] f Q = Q (some (.int x)) f := pz_gri d47_30 rfl rfl
