/-! C_pauses (I)Z -/
theorem e65 {dA : Nat → ClassId} {d : Nat} {f : pz_F} {Q : Option Value → pz_F → Prop} {a0 : Nat} {a1 : Int32} : pz_C dA d 65 [.ref a0, .int a1] f Q = pz_R dA d 65 0 [.ref a0, .int a1] [] f Q := rfl
theorem d65_0 : decode (pz_b 65) 0 = .ok (.iload_n 1, 1) := by decide +kernel
theorem q65_0 {dA : Nat → ClassId} {d : Nat} {st : List Value} {f : pz_F} {Q : Option Value → pz_F → Prop} {v0 : Value} {x : Int32} : pz_R dA d 65 0 [v0, .int x] st f Q = pz_R dA d 65 1 [v0, .int x] (.int x :: st) f Q := pz_go (pz_so d65_0 rfl)
theorem d65_1 : decode (pz_b 65) 1 = .ok (.aload_n 0, 1) := by decide +kernel
theorem q65_1 {dA : Nat → ClassId} {d : Nat} {st : List Value} {f : pz_F} {Q : Option Value → pz_F → Prop} {v1 : Value} {x : Nat} : pz_R dA d 65 1 [.ref x, v1] st f Q = pz_R dA d 65 2 [.ref x, v1] (.ref x :: st) f Q := pz_go (pz_so d65_1 rfl)
theorem d65_2 : decode (pz_b 65) 2 = .ok (.getfield 15, 3) := by decide +kernel
theorem q65_2 {dA : Nat → ClassId} {d : Nat} {st : List Value} {f : pz_F} {Q : Option Value → pz_F → Prop} {v0 v1 : Value} {a : Nat} : pz_R dA d 65 2 [v0, v1] (.ref a :: st) f Q = pz_o (pz_gf f a 3 4) (fun v => pz_R dA d 65 5 [v0, v1] (v :: st) f Q) := pz_gg d65_2 rfl
theorem d65_5 : decode (pz_b 65) 5 = .ok (.isub, 1) := by decide +kernel
theorem q65_5 {dA : Nat → ClassId} {d : Nat} {st : List Value} {f : pz_F} {Q : Option Value → pz_F → Prop} {v0 v1 : Value} {x y : Int32} : pz_R dA d 65 5 [v0, v1] (.int y :: .int x :: st) f Q = pz_R dA d 65 6 [v0, v1] (.int (x - y) :: st) f Q := pz_go (pz_so d65_5 rfl)
theorem d65_6 : decode (pz_b 65) 6 = .ok (.iconst 4, 1) := by decide +kernel
theorem q65_6 {dA : Nat → ClassId} {d : Nat} {st : List Value} {f : pz_F} {Q : Option Value → pz_F → Prop} {v0 v1 : Value} : pz_R dA d 65 6 [v0, v1] st f Q = pz_R dA d 65 7 [v0, v1] (.int 4 :: st) f Q := pz_go (pz_so d65_6 rfl)
theorem d65_7 : decode (pz_b 65) 7 = .ok (.if_icmp .ge 7, 3) := by decide +kernel
theorem q65_7 {dA : Nat → ClassId} {d : Nat} {st : List Value} {f : pz_F} {Q : Option Value → pz_F → Prop} {v0 v1 : Value} {x y : Int32} : pz_R dA d 65 7 [v0, v1] (.int y :: .int x :: st) f Q = (if y ≤ x then pz_R dA d 65 14 [v0, v1] st f Q else pz_R dA d 65 10 [v0, v1] st f Q) := pz_gjn .ge d65_7 rfl
theorem d65_10 : decode (pz_b 65) 10 = .ok (.iconst 1, 1) := by decide +kernel
theorem q65_10 {dA : Nat → ClassId} {d : Nat} {st : List Value} {f : pz_F} {Q : Option Value → pz_F → Prop} {v0 v1 : Value} : pz_R dA d 65 10 [v0, v1] st f Q = pz_R dA d 65 11 [v0, v1] (.int 1 :: st) f Q := pz_go (pz_so d65_10 rfl)
theorem d65_11 : decode (pz_b 65) 11 = .ok (.goto 4, 3) := by decide +kernel
theorem q65_11 {dA : Nat → ClassId} {d : Nat} {st : List Value} {f : pz_F} {Q : Option Value → pz_F → Prop} {v0 v1 : Value} : pz_R dA d 65 11 [v0, v1] st f Q = pz_R dA d 65 15 [v0, v1] st f Q := pz_go (pz_so d65_11 rfl)
theorem d65_14 : decode (pz_b 65) 14 = .ok (.iconst 0, 1) := by decide +kernel
theorem q65_14 {dA : Nat → ClassId} {d : Nat} {st : List Value} {f : pz_F} {Q : Option Value → pz_F → Prop} {v0 v1 : Value} : pz_R dA d 65 14 [v0, v1] st f Q = pz_R dA d 65 15 [v0, v1] (.int 0 :: st) f Q := pz_go (pz_so d65_14 rfl)
theorem d65_15 : decode (pz_b 65) 15 = .ok (.ireturn, 1) := by decide +kernel
theorem q65_15z {dA : Nat → ClassId} {d : Nat} {f : pz_F} {Q : Option Value → pz_F → Prop} {v0 v1 : Value} : pz_R dA d 65 15 [v0, v1] [.int 0] f Q = Q (some (.int 0)) f := pz_gri d65_15 rfl rfl
theorem q65_15o {dA : Nat → ClassId} {d : Nat} {f : pz_F} {Q : Option Value → pz_F → Prop} {v0 v1 : Value} : pz_R dA d 65 15 [v0, v1] [.int 1] f Q = Q (some (.int 1)) f := pz_gri d65_15 rfl rfl
/-! C_holdNone ()V -/
theorem e66 {dA : Nat → ClassId} {d : Nat} {f : pz_F} {Q : Option Value → pz_F → Prop} {a0 : Nat} : pz_C dA d 66 [.ref a0] f Q = pz_R dA d 66 0 [.ref a0] [] f Q := rfl
theorem d66_0 : decode (pz_b 66) 0 = .ok (.aload_n 0, 1) := by decide +kernel
theorem q66_0 {dA : Nat → ClassId} {d : Nat} {st : List Value} {f : pz_F} {Q : Option Value → pz_F → Prop} {x : Nat} : pz_R dA d 66 0 [.ref x] st f Q = pz_R dA d 66 1 [.ref x] (.ref x :: st) f Q := pz_go (pz_so d66_0 rfl)
theorem d66_1 : decode (pz_b 66) 1 = .ok (.iconst (-1), 1) := by decide +kernel
theorem q66_1 {dA : Nat → ClassId} {d : Nat} {st : List Value} {f : pz_F} {Q : Option Value → pz_F → Prop} {v0 : Value} : pz_R dA d 66 1 [v0] st f Q = pz_R dA d 66 2 [v0] (.int (-1) :: st) f Q := pz_go (pz_so d66_1 rfl)
theorem d66_2 : decode (pz_b 66) 2 = .ok (.putfield 9, 3) := by decide +kernel
theorem q66_2 {dA : Nat → ClassId} {d : Nat} {st : List Value} {f : pz_F} {Q : Option Value → pz_F → Prop} {v0 : Value} {x : Int32} {a : Nat} : pz_R dA d 66 2 [v0] (.int x :: .ref a :: st) f Q = pz_o (pz_pf f a 3 0 (.int x)) (fun f' => pz_R dA d 66 5 [v0] st f' Q) := pz_gp d66_2 rfl rfl rfl rfl
theorem d66_5 : decode (pz_b 66) 5 = .ok (.aload_n 0, 1) := by decide +kernel
theorem q66_5 {dA : Nat → ClassId} {d : Nat} {st : List Value} {f : pz_F} {Q : Option Value → pz_F → Prop} {x : Nat} : pz_R dA d 66 5 [.ref x] st f Q = pz_R dA d 66 6 [.ref x] (.ref x :: st) f Q := pz_go (pz_so d66_5 rfl)
theorem d66_6 : decode (pz_b 66) 6 = .ok (.iconst 0, 1) := by decide +kernel
theorem q66_6 {dA : Nat → ClassId} {d : Nat} {st : List Value} {f : pz_F} {Q : Option Value → pz_F → Prop} {v0 : Value} : pz_R dA d 66 6 [v0] st f Q = pz_R dA d 66 7 [v0] (.int 0 :: st) f Q := pz_go (pz_so d66_6 rfl)
theorem d66_7 : decode (pz_b 66) 7 = .ok (.putfield 18, 3) := by decide +kernel
theorem q66_7 {dA : Nat → ClassId} {d : Nat} {st : List Value} {f : pz_F} {Q : Option Value → pz_F → Prop} {v0 : Value} {x : Int32} {a : Nat} : pz_R dA d 66 7 [v0] (.int x :: .ref a :: st) f Q = pz_o (pz_pf f a 3 1 (.int x)) (fun f' => pz_R dA d 66 10 [v0] st f' Q) := pz_gp d66_7 rfl rfl rfl rfl
theorem d66_10 : decode (pz_b 66) 10 = .ok (.return_, 1) := by decide +kernel
theorem q66_10 {dA : Nat → ClassId} {d : Nat} {f : pz_F} {Q : Option Value → pz_F → Prop} {v0 : Value} : pz_R dA d 66 10 [v0] [] f Q = Q none f := pz_gr (pz_so d66_10 rfl)
/-! C_dropExpired (I)V -/
theorem e67 {dA : Nat → ClassId} {d : Nat} {f : pz_F} {Q : Option Value → pz_F → Prop} {a0 : Nat} {a1 : Int32} : pz_C dA d 67 [.ref a0, .int a1] f Q = pz_R dA d 67 0 [.ref a0, .int a1] [] f Q := rfl
theorem d67_0 : decode (pz_b 67) 0 = .ok (.aload_n 0, 1) := by decide +kernel
theorem q67_0 {dA : Nat → ClassId} {d : Nat} {st : List Value} {f : pz_F} {Q : Option Value → pz_F → Prop} {v1 : Value} {x : Nat} : pz_R dA d 67 0 [.ref x, v1] st f Q = pz_R dA d 67 1 [.ref x, v1] (.ref x :: st) f Q := pz_go (pz_so d67_0 rfl)
theorem d67_1 : decode (pz_b 67) 1 = .ok (.getfield 9, 3) := by decide +kernel
theorem q67_1 {dA : Nat → ClassId} {d : Nat} {st : List Value} {f : pz_F} {Q : Option Value → pz_F → Prop} {v0 v1 : Value} {a : Nat} : pz_R dA d 67 1 [v0, v1] (.ref a :: st) f Q = pz_o (pz_gf f a 3 0) (fun v => pz_R dA d 67 4 [v0, v1] (v :: st) f Q) := pz_gg d67_1 rfl
theorem d67_4 : decode (pz_b 67) 4 = .ok (.iconst (-1), 1) := by decide +kernel
theorem q67_4 {dA : Nat → ClassId} {d : Nat} {st : List Value} {f : pz_F} {Q : Option Value → pz_F → Prop} {v0 v1 : Value} : pz_R dA d 67 4 [v0, v1] st f Q = pz_R dA d 67 5 [v0, v1] (.int (-1) :: st) f Q := pz_go (pz_so d67_4 rfl)
theorem d67_5 : decode (pz_b 67) 5 = .ok (.if_icmp .eq 15, 3) := by decide +kernel
theorem q67_5 {dA : Nat → ClassId} {d : Nat} {st : List Value} {f : pz_F} {Q : Option Value → pz_F → Prop} {v0 v1 : Value} {x y : Int32} : pz_R dA d 67 5 [v0, v1] (.int y :: .int x :: st) f Q = (if x = y then pz_R dA d 67 20 [v0, v1] st f Q else pz_R dA d 67 8 [v0, v1] st f Q) := pz_gjn .eq d67_5 rfl
theorem d67_8 : decode (pz_b 67) 8 = .ok (.aload_n 0, 1) := by decide +kernel
theorem q67_8 {dA : Nat → ClassId} {d : Nat} {st : List Value} {f : pz_F} {Q : Option Value → pz_F → Prop} {v1 : Value} {x : Nat} : pz_R dA d 67 8 [.ref x, v1] st f Q = pz_R dA d 67 9 [.ref x, v1] (.ref x :: st) f Q := pz_go (pz_so d67_8 rfl)
theorem d67_9 : decode (pz_b 67) 9 = .ok (.getfield 18, 3) := by decide +kernel
theorem q67_9 {dA : Nat → ClassId} {d : Nat} {st : List Value} {f : pz_F} {Q : Option Value → pz_F → Prop} {v0 v1 : Value} {a : Nat} : pz_R dA d 67 9 [v0, v1] (.ref a :: st) f Q = pz_o (pz_gf f a 3 1) (fun v => pz_R dA d 67 12 [v0, v1] (v :: st) f Q) := pz_gg d67_9 rfl
theorem d67_12 : decode (pz_b 67) 12 = .ok (.iload_n 1, 1) := by decide +kernel
theorem q67_12 {dA : Nat → ClassId} {d : Nat} {st : List Value} {f : pz_F} {Q : Option Value → pz_F → Prop} {v0 : Value} {x : Int32} : pz_R dA d 67 12 [v0, .int x] st f Q = pz_R dA d 67 13 [v0, .int x] (.int x :: st) f Q := pz_go (pz_so d67_12 rfl)
theorem d67_13 : decode (pz_b 67) 13 = .ok (.if_icmp .ge 7, 3) := by decide +kernel
theorem q67_13 {dA : Nat → ClassId} {d : Nat} {st : List Value} {f : pz_F} {Q : Option Value → pz_F → Prop} {v0 v1 : Value} {x y : Int32} : pz_R dA d 67 13 [v0, v1] (.int y :: .int x :: st) f Q = (if y ≤ x then pz_R dA d 67 20 [v0, v1] st f Q else pz_R dA d 67 16 [v0, v1] st f Q) := pz_gjn .ge d67_13 rfl
theorem d67_16 : decode (pz_b 67) 16 = .ok (.aload_n 0, 1) := by decide +kernel
theorem q67_16 {dA : Nat → ClassId} {d : Nat} {st : List Value} {f : pz_F} {Q : Option Value → pz_F → Prop} {v1 : Value} {x : Nat} : pz_R dA d 67 16 [.ref x, v1] st f Q = pz_R dA d 67 17 [.ref x, v1] (.ref x :: st) f Q := pz_go (pz_so d67_16 rfl)
theorem d67_17 : decode (pz_b 67) 17 = .ok (.invokevirtual 21, 3) := by decide +kernel
theorem q67_17 {dA : Nat → ClassId} {d : Nat} {st : List Value} {f : pz_F} {Q : Option Value → pz_F → Prop} {v0 v1 : Value} {b : Nat} (hr : st.length ≤ 4) : pz_R dA (d + 1) 67 17 [v0, v1] (.ref b :: st) f Q = pz_o (pz_gu f b 3) (fun _ => pz_C dA d 66 [.ref b] f (fun r f' => pz_R dA (d + 1) 67 20 [v0, v1] (r.toList ++ st) f' Q)) := pz_gcv (As := []) d67_17 rfl rfl rfl hr
theorem d67_20 : decode (pz_b 67) 20 = .ok (.return_, 1) := by decide +kernel
theorem q67_20 {dA : Nat → ClassId} {d : Nat} {f : pz_F} {Q : Option Value → pz_F → Prop} {v0 v1 : Value} : pz_R dA d 67 20 [v0, v1] [] f Q = Q none f := pz_gr (pz_so d67_20 rfl)
/-! C_waitsFor (LLeasePair$Message;)Z -/
theorem e68 {dA : Nat → ClassId} {d : Nat} {f : pz_F} {Q : Option Value → pz_F → Prop} {a0 : Nat} {a1 : Nat} : pz_C dA d 68 [.ref a0, .ref a1] f Q = pz_R dA d 68 0 [.ref a0, .ref a1] [] f Q := rfl
theorem d68_0 : decode (pz_b 68) 0 = .ok (.aload_n 0, 1) := by decide +kernel
theorem q68_0 {dA : Nat → ClassId} {d : Nat} {st : List Value} {f : pz_F} {Q : Option Value → pz_F → Prop} {v1 : Value} {x : Nat} : pz_R dA d 68 0 [.ref x, v1] st f Q = pz_R dA d 68 1 [.ref x, v1] (.ref x :: st) f Q := pz_go (pz_so d68_0 rfl)
theorem d68_1 : decode (pz_b 68) 1 = .ok (.getfield 24, 3) := by decide +kernel
theorem q68_1 {dA : Nat → ClassId} {d : Nat} {st : List Value} {f : pz_F} {Q : Option Value → pz_F → Prop} {v0 v1 : Value} {a : Nat} : pz_R dA d 68 1 [v0, v1] (.ref a :: st) f Q = pz_o (pz_gf f a 3 3) (fun v => pz_R dA d 68 4 [v0, v1] (v :: st) f Q) := pz_gg d68_1 rfl
theorem d68_4 : decode (pz_b 68) 4 = .ok (.ifCond .eq 18, 3) := by decide +kernel
theorem q68_4 {dA : Nat → ClassId} {d : Nat} {st : List Value} {f : pz_F} {Q : Option Value → pz_F → Prop} {v0 v1 : Value} {x : Int32} : pz_R dA d 68 4 [v0, v1] (.int x :: st) f Q = (if x = 0 then pz_R dA d 68 22 [v0, v1] st f Q else pz_R dA d 68 7 [v0, v1] st f Q) := pz_gj1 .eq d68_4 rfl
theorem d68_7 : decode (pz_b 68) 7 = .ok (.aload_n 1, 1) := by decide +kernel
theorem q68_7 {dA : Nat → ClassId} {d : Nat} {st : List Value} {f : pz_F} {Q : Option Value → pz_F → Prop} {v0 : Value} {x : Nat} : pz_R dA d 68 7 [v0, .ref x] st f Q = pz_R dA d 68 8 [v0, .ref x] (.ref x :: st) f Q := pz_go (pz_so d68_7 rfl)
theorem q68_7n {dA : Nat → ClassId} {d : Nat} {st : List Value} {f : pz_F} {Q : Option Value → pz_F → Prop} {v0 : Value} : pz_R dA d 68 7 [v0, .null] st f Q = pz_R dA d 68 8 [v0, .null] (.null :: st) f Q := pz_go (pz_so d68_7 rfl)
theorem d68_8 : decode (pz_b 68) 8 = .ok (.getfield 28, 3) := by decide +kernel
theorem q68_8 {dA : Nat → ClassId} {d : Nat} {st : List Value} {f : pz_F} {Q : Option Value → pz_F → Prop} {v0 v1 : Value} {a : Nat} : pz_R dA d 68 8 [v0, v1] (.ref a :: st) f Q = pz_o (pz_gf f a 5 4) (fun v => pz_R dA d 68 11 [v0, v1] (v :: st) f Q) := pz_gg d68_8 rfl
theorem d68_11 : decode (pz_b 68) 11 = .ok (.aload_n 0, 1) := by decide +kernel
theorem q68_11 {dA : Nat → ClassId} {d : Nat} {st : List Value} {f : pz_F} {Q : Option Value → pz_F → Prop} {v1 : Value} {x : Nat} : pz_R dA d 68 11 [.ref x, v1] st f Q = pz_R dA d 68 12 [.ref x, v1] (.ref x :: st) f Q := pz_go (pz_so d68_11 rfl)
theorem d68_12 : decode (pz_b 68) 12 = .ok (.getfield 33, 3) := by decide +kernel
theorem q68_12 {dA : Nat → ClassId} {d : Nat} {st : List Value} {f : pz_F} {Q : Option Value → pz_F → Prop} {v0 v1 : Value} {a : Nat} : pz_R dA d 68 12 [v0, v1] (.ref a :: st) f Q = pz_o (pz_gf f a 3 2) (fun v => pz_R dA d 68 15 [v0, v1] (v :: st) f Q) := pz_gg d68_12 rfl
theorem d68_15 : decode (pz_b 68) 15 = .ok (.if_icmp .ne 7, 3) := by decide +kernel
theorem q68_15 {dA : Nat → ClassId} {d : Nat} {st : List Value} {f : pz_F} {Q : Option Value → pz_F → Prop} {v0 v1 : Value} {x y : Int32} : pz_R dA d 68 15 [v0, v1] (.int y :: .int x :: st) f Q = (if x = y then pz_R dA d 68 18 [v0, v1] st f Q else pz_R dA d 68 22 [v0, v1] st f Q) := pz_gjn .ne d68_15 rfl
theorem d68_18 : decode (pz_b 68) 18 = .ok (.iconst 1, 1) := by decide +kernel
theorem q68_18 {dA : Nat → ClassId} {d : Nat} {st : List Value} {f : pz_F} {Q : Option Value → pz_F → Prop} {v0 v1 : Value} : pz_R dA d 68 18 [v0, v1] st f Q = pz_R dA d 68 19 [v0, v1] (.int 1 :: st) f Q := pz_go (pz_so d68_18 rfl)
theorem d68_19 : decode (pz_b 68) 19 = .ok (.goto 4, 3) := by decide +kernel
theorem q68_19 {dA : Nat → ClassId} {d : Nat} {st : List Value} {f : pz_F} {Q : Option Value → pz_F → Prop} {v0 v1 : Value} : pz_R dA d 68 19 [v0, v1] st f Q = pz_R dA d 68 23 [v0, v1] st f Q := pz_go (pz_so d68_19 rfl)
theorem d68_22 : decode (pz_b 68) 22 = .ok (.iconst 0, 1) := by decide +kernel
theorem q68_22 {dA : Nat → ClassId} {d : Nat} {st : List Value} {f : pz_F} {Q : Option Value → pz_F → Prop} {v0 v1 : Value} : pz_R dA d 68 22 [v0, v1] st f Q = pz_R dA d 68 23 [v0, v1] (.int 0 :: st) f Q := pz_go (pz_so d68_22 rfl)
theorem d68_23 : decode (pz_b 68) 23 = .ok (.ireturn, 1) := by decide +kernel
theorem q68_23z {dA : Nat → ClassId} {d : Nat} {f : pz_F} {Q : Option Value → pz_F → Prop} {v0 v1 : Value} : pz_R dA d 68 23 [v0, v1] [.int 0] f Q = Q (some (.int 0)) f := pz_gri d68_23 rfl rfl
theorem q68_23o {dA : Nat → ClassId} {d : Nat} {f : pz_F} {Q : Option Value → pz_F → Prop} {v0 v1 : Value} : pz_R dA d 68 23 [v0, v1] [.int 1] f Q = Q (some (.int 1)) f := pz_gri d68_23 rfl rfl
/-! C_takeLease (LLeasePair$Message;I)V -/
theorem e69 {dA : Nat → ClassId} {d : Nat} {f : pz_F} {Q : Option Value → pz_F → Prop} {a0 : Nat} {a1 : Nat} {a2 : Int32} : pz_C dA d 69 [.ref a0, .ref a1, .int a2] f Q = pz_R dA d 69 0 [.ref a0, .ref a1, .int a2] [] f Q := rfl
theorem d69_0 : decode (pz_b 69) 0 = .ok (.aload_n 0, 1) := by decide +kernel
theorem q69_0 {dA : Nat → ClassId} {d : Nat} {st : List Value} {f : pz_F} {Q : Option Value → pz_F → Prop} {v1 v2 : Value} {x : Nat} : pz_R dA d 69 0 [.ref x, v1, v2] st f Q = pz_R dA d 69 1 [.ref x, v1, v2] (.ref x :: st) f Q := pz_go (pz_so d69_0 rfl)
theorem d69_1 : decode (pz_b 69) 1 = .ok (.aload_n 1, 1) := by decide +kernel
theorem q69_1 {dA : Nat → ClassId} {d : Nat} {st : List Value} {f : pz_F} {Q : Option Value → pz_F → Prop} {v0 v2 : Value} {x : Nat} : pz_R dA d 69 1 [v0, .ref x, v2] st f Q = pz_R dA d 69 2 [v0, .ref x, v2] (.ref x :: st) f Q := pz_go (pz_so d69_1 rfl)
theorem q69_1n {dA : Nat → ClassId} {d : Nat} {st : List Value} {f : pz_F} {Q : Option Value → pz_F → Prop} {v0 v2 : Value} : pz_R dA d 69 1 [v0, .null, v2] st f Q = pz_R dA d 69 2 [v0, .null, v2] (.null :: st) f Q := pz_go (pz_so d69_1 rfl)
theorem d69_2 : decode (pz_b 69) 2 = .ok (.invokevirtual 34, 3) := by decide +kernel
theorem q69_2 {dA : Nat → ClassId} {d : Nat} {st : List Value} {f : pz_F} {Q : Option Value → pz_F → Prop} {v0 v1 v2 : Value} {c0 : Nat} {b : Nat} (hr : st.length ≤ 4) : pz_R dA (d + 1) 69 2 [v0, v1, v2] (.ref c0 :: .ref b :: st) f Q = pz_o (pz_gu f b 3) (fun _ => pz_C dA d 68 [.ref b, .ref c0] f (fun r f' => pz_R dA (d + 1) 69 5 [v0, v1, v2] (r.toList ++ st) f' Q)) := pz_gcv (As := [.ref c0]) d69_2 rfl rfl rfl hr
theorem d69_5 : decode (pz_b 69) 5 = .ok (.ifCond .ne 4, 3) := by decide +kernel
theorem q69_5 {dA : Nat → ClassId} {d : Nat} {st : List Value} {f : pz_F} {Q : Option Value → pz_F → Prop} {v0 v1 v2 : Value} {x : Int32} : pz_R dA d 69 5 [v0, v1, v2] (.int x :: st) f Q = (if x = 0 then pz_R dA d 69 8 [v0, v1, v2] st f Q else pz_R dA d 69 9 [v0, v1, v2] st f Q) := pz_gj1 .ne d69_5 rfl
theorem d69_8 : decode (pz_b 69) 8 = .ok (.return_, 1) := by decide +kernel
theorem q69_8 {dA : Nat → ClassId} {d : Nat} {f : pz_F} {Q : Option Value → pz_F → Prop} {v0 v1 v2 : Value} : pz_R dA d 69 8 [v0, v1, v2] [] f Q = Q none f := pz_gr (pz_so d69_8 rfl)
theorem d69_9 : decode (pz_b 69) 9 = .ok (.aload_n 0, 1) := by decide +kernel
theorem q69_9 {dA : Nat → ClassId} {d : Nat} {st : List Value} {f : pz_F} {Q : Option Value → pz_F → Prop} {v1 v2 : Value} {x : Nat} : pz_R dA d 69 9 [.ref x, v1, v2] st f Q = pz_R dA d 69 10 [.ref x, v1, v2] (.ref x :: st) f Q := pz_go (pz_so d69_9 rfl)
theorem d69_10 : decode (pz_b 69) 10 = .ok (.iconst 0, 1) := by decide +kernel
theorem q69_10 {dA : Nat → ClassId} {d : Nat} {st : List Value} {f : pz_F} {Q : Option Value → pz_F → Prop} {v0 v1 v2 : Value} : pz_R dA d 69 10 [v0, v1, v2] st f Q = pz_R dA d 69 11 [v0, v1, v2] (.int 0 :: st) f Q := pz_go (pz_so d69_10 rfl)
theorem d69_11 : decode (pz_b 69) 11 = .ok (.putfield 24, 3) := by decide +kernel
theorem q69_11z {dA : Nat → ClassId} {d : Nat} {st : List Value} {f : pz_F} {Q : Option Value → pz_F → Prop} {v0 v1 v2 : Value} {a : Nat} : pz_R dA d 69 11 [v0, v1, v2] (.int 0 :: .ref a :: st) f Q = pz_o (pz_pf f a 3 3 (.int 0)) (fun f' => pz_R dA d 69 14 [v0, v1, v2] st f' Q) := pz_gp d69_11 rfl rfl rfl rfl
theorem q69_11o {dA : Nat → ClassId} {d : Nat} {st : List Value} {f : pz_F} {Q : Option Value → pz_F → Prop} {v0 v1 v2 : Value} {a : Nat} : pz_R dA d 69 11 [v0, v1, v2] (.int 1 :: .ref a :: st) f Q = pz_o (pz_pf f a 3 3 (.int 1)) (fun f' => pz_R dA d 69 14 [v0, v1, v2] st f' Q) := pz_gp d69_11 rfl rfl rfl rfl
theorem d69_14 : decode (pz_b 69) 14 = .ok (.aload_n 1, 1) := by decide +kernel
theorem q69_14 {dA : Nat → ClassId} {d : Nat} {st : List Value} {f : pz_F} {Q : Option Value → pz_F → Prop} {v0 v2 : Value} {x : Nat} : pz_R dA d 69 14 [v0, .ref x, v2] st f Q = pz_R dA d 69 15 [v0, .ref x, v2] (.ref x :: st) f Q := pz_go (pz_so d69_14 rfl)
theorem q69_14n {dA : Nat → ClassId} {d : Nat} {st : List Value} {f : pz_F} {Q : Option Value → pz_F → Prop} {v0 v2 : Value} : pz_R dA d 69 14 [v0, .null, v2] st f Q = pz_R dA d 69 15 [v0, .null, v2] (.null :: st) f Q := pz_go (pz_so d69_14 rfl)
theorem d69_15 : decode (pz_b 69) 15 = .ok (.getfield 38, 3) := by decide +kernel
theorem q69_15 {dA : Nat → ClassId} {d : Nat} {st : List Value} {f : pz_F} {Q : Option Value → pz_F → Prop} {v0 v1 v2 : Value} {a : Nat} : pz_R dA d 69 15 [v0, v1, v2] (.ref a :: st) f Q = pz_o (pz_gf f a 5 8) (fun v => pz_R dA d 69 18 [v0, v1, v2] (v :: st) f Q) := pz_gg d69_15 rfl
theorem d69_18 : decode (pz_b 69) 18 = .ok (.iload_n 2, 1) := by decide +kernel
theorem q69_18 {dA : Nat → ClassId} {d : Nat} {st : List Value} {f : pz_F} {Q : Option Value → pz_F → Prop} {v0 v1 : Value} {x : Int32} : pz_R dA d 69 18 [v0, v1, .int x] st f Q = pz_R dA d 69 19 [v0, v1, .int x] (.int x :: st) f Q := pz_go (pz_so d69_18 rfl)
theorem d69_19 : decode (pz_b 69) 19 = .ok (.if_icmp .lt 19, 3) := by decide +kernel
theorem q69_19 {dA : Nat → ClassId} {d : Nat} {st : List Value} {f : pz_F} {Q : Option Value → pz_F → Prop} {v0 v1 v2 : Value} {x y : Int32} : pz_R dA d 69 19 [v0, v1, v2] (.int y :: .int x :: st) f Q = (if x < y then pz_R dA d 69 38 [v0, v1, v2] st f Q else pz_R dA d 69 22 [v0, v1, v2] st f Q) := pz_gjn .lt d69_19 rfl
theorem d69_22 : decode (pz_b 69) 22 = .ok (.aload_n 0, 1) := by decide +kernel
theorem q69_22 {dA : Nat → ClassId} {d : Nat} {st : List Value} {f : pz_F} {Q : Option Value → pz_F → Prop} {v1 v2 : Value} {x : Nat} : pz_R dA d 69 22 [.ref x, v1, v2] st f Q = pz_R dA d 69 23 [.ref x, v1, v2] (.ref x :: st) f Q := pz_go (pz_so d69_22 rfl)
theorem d69_23 : decode (pz_b 69) 23 = .ok (.aload_n 1, 1) := by decide +kernel
theorem q69_23 {dA : Nat → ClassId} {d : Nat} {st : List Value} {f : pz_F} {Q : Option Value → pz_F → Prop} {v0 v2 : Value} {x : Nat} : pz_R dA d 69 23 [v0, .ref x, v2] st f Q = pz_R dA d 69 24 [v0, .ref x, v2] (.ref x :: st) f Q := pz_go (pz_so d69_23 rfl)
theorem q69_23n {dA : Nat → ClassId} {d : Nat} {st : List Value} {f : pz_F} {Q : Option Value → pz_F → Prop} {v0 v2 : Value} : pz_R dA d 69 23 [v0, .null, v2] st f Q = pz_R dA d 69 24 [v0, .null, v2] (.null :: st) f Q := pz_go (pz_so d69_23 rfl)
theorem d69_24 : decode (pz_b 69) 24 = .ok (.getfield 39, 3) := by decide +kernel
theorem q69_24 {dA : Nat → ClassId} {d : Nat} {st : List Value} {f : pz_F} {Q : Option Value → pz_F → Prop} {v0 v1 v2 : Value} {a : Nat} : pz_R dA d 69 24 [v0, v1, v2] (.ref a :: st) f Q = pz_o (pz_gf f a 5 5) (fun v => pz_R dA d 69 27 [v0, v1, v2] (v :: st) f Q) := pz_gg d69_24 rfl
theorem d69_27 : decode (pz_b 69) 27 = .ok (.putfield 9, 3) := by decide +kernel
theorem q69_27 {dA : Nat → ClassId} {d : Nat} {st : List Value} {f : pz_F} {Q : Option Value → pz_F → Prop} {v0 v1 v2 : Value} {x : Int32} {a : Nat} : pz_R dA d 69 27 [v0, v1, v2] (.int x :: .ref a :: st) f Q = pz_o (pz_pf f a 3 0 (.int x)) (fun f' => pz_R dA d 69 30 [v0, v1, v2] st f' Q) := pz_gp d69_27 rfl rfl rfl rfl
theorem d69_30 : decode (pz_b 69) 30 = .ok (.aload_n 0, 1) := by decide +kernel
theorem q69_30 {dA : Nat → ClassId} {d : Nat} {st : List Value} {f : pz_F} {Q : Option Value → pz_F → Prop} {v1 v2 : Value} {x : Nat} : pz_R dA d 69 30 [.ref x, v1, v2] st f Q = pz_R dA d 69 31 [.ref x, v1, v2] (.ref x :: st) f Q := pz_go (pz_so d69_30 rfl)
theorem d69_31 : decode (pz_b 69) 31 = .ok (.aload_n 1, 1) := by decide +kernel
theorem q69_31 {dA : Nat → ClassId} {d : Nat} {st : List Value} {f : pz_F} {Q : Option Value → pz_F → Prop} {v0 v2 : Value} {x : Nat} : pz_R dA d 69 31 [v0, .ref x, v2] st f Q = pz_R dA d 69 32 [v0, .ref x, v2] (.ref x :: st) f Q := pz_go (pz_so d69_31 rfl)
theorem q69_31n {dA : Nat → ClassId} {d : Nat} {st : List Value} {f : pz_F} {Q : Option Value → pz_F → Prop} {v0 v2 : Value} : pz_R dA d 69 31 [v0, .null, v2] st f Q = pz_R dA d 69 32 [v0, .null, v2] (.null :: st) f Q := pz_go (pz_so d69_31 rfl)
theorem d69_32 : decode (pz_b 69) 32 = .ok (.getfield 38, 3) := by decide +kernel
theorem q69_32 {dA : Nat → ClassId} {d : Nat} {st : List Value} {f : pz_F} {Q : Option Value → pz_F → Prop} {v0 v1 v2 : Value} {a : Nat} : pz_R dA d 69 32 [v0, v1, v2] (.ref a :: st) f Q = pz_o (pz_gf f a 5 8) (fun v => pz_R dA d 69 35 [v0, v1, v2] (v :: st) f Q) := pz_gg d69_32 rfl
theorem d69_35 : decode (pz_b 69) 35 = .ok (.putfield 18, 3) := by decide +kernel
theorem q69_35 {dA : Nat → ClassId} {d : Nat} {st : List Value} {f : pz_F} {Q : Option Value → pz_F → Prop} {v0 v1 v2 : Value} {x : Int32} {a : Nat} : pz_R dA d 69 35 [v0, v1, v2] (.int x :: .ref a :: st) f Q = pz_o (pz_pf f a 3 1 (.int x)) (fun f' => pz_R dA d 69 38 [v0, v1, v2] st f' Q) := pz_gp d69_35 rfl rfl rfl rfl
theorem d69_38 : decode (pz_b 69) 38 = .ok (.return_, 1) := by decide +kernel
theorem q69_38 {dA : Nat → ClassId} {d : Nat} {f : pz_F} {Q : Option Value → pz_F → Prop} {v0 v1 v2 : Value} : pz_R dA d 69 38 [v0, v1, v2] [] f Q = Q none f := pz_gr (pz_so d69_38 rfl)
/-! C_takeDenial (LLeasePair$Message;)V -/
theorem e70 {dA : Nat → ClassId} {d : Nat} {f : pz_F} {Q : Option Value → pz_F → Prop} {a0 : Nat} {a1 : Nat} : pz_C dA d 70 [.ref a0, .ref a1] f Q = pz_R dA d 70 0 [.ref a0, .ref a1] [] f Q := rfl
theorem d70_0 : decode (pz_b 70) 0 = .ok (.aload_n 0, 1) := by decide +kernel
theorem q70_0 {dA : Nat → ClassId} {d : Nat} {st : List Value} {f : pz_F} {Q : Option Value → pz_F → Prop} {v1 : Value} {x : Nat} : pz_R dA d 70 0 [.ref x, v1] st f Q = pz_R dA d 70 1 [.ref x, v1] (.ref x :: st) f Q := pz_go (pz_so d70_0 rfl)
theorem d70_1 : decode (pz_b 70) 1 = .ok (.aload_n 1, 1) := by decide +kernel
theorem q70_1 {dA : Nat → ClassId} {d : Nat} {st : List Value} {f : pz_F} {Q : Option Value → pz_F → Prop} {v0 : Value} {x : Nat} : pz_R dA d 70 1 [v0, .ref x] st f Q = pz_R dA d 70 2 [v0, .ref x] (.ref x :: st) f Q := pz_go (pz_so d70_1 rfl)
theorem q70_1n {dA : Nat → ClassId} {d : Nat} {st : List Value} {f : pz_F} {Q : Option Value → pz_F → Prop} {v0 : Value} : pz_R dA d 70 1 [v0, .null] st f Q = pz_R dA d 70 2 [v0, .null] (.null :: st) f Q := pz_go (pz_so d70_1 rfl)
theorem d70_2 : decode (pz_b 70) 2 = .ok (.invokevirtual 34, 3) := by decide +kernel
theorem q70_2 {dA : Nat → ClassId} {d : Nat} {st : List Value} {f : pz_F} {Q : Option Value → pz_F → Prop} {v0 v1 : Value} {c0 : Nat} {b : Nat} (hr : st.length ≤ 4) : pz_R dA (d + 1) 70 2 [v0, v1] (.ref c0 :: .ref b :: st) f Q = pz_o (pz_gu f b 3) (fun _ => pz_C dA d 68 [.ref b, .ref c0] f (fun r f' => pz_R dA (d + 1) 70 5 [v0, v1] (r.toList ++ st) f' Q)) := pz_gcv (As := [.ref c0]) d70_2 rfl rfl rfl hr
theorem d70_5 : decode (pz_b 70) 5 = .ok (.ifCond .eq 8, 3) := by decide +kernel
theorem q70_5 {dA : Nat → ClassId} {d : Nat} {st : List Value} {f : pz_F} {Q : Option Value → pz_F → Prop} {v0 v1 : Value} {x : Int32} : pz_R dA d 70 5 [v0, v1] (.int x :: st) f Q = (if x = 0 then pz_R dA d 70 13 [v0, v1] st f Q else pz_R dA d 70 8 [v0, v1] st f Q) := pz_gj1 .eq d70_5 rfl
theorem d70_8 : decode (pz_b 70) 8 = .ok (.aload_n 0, 1) := by decide +kernel
theorem q70_8 {dA : Nat → ClassId} {d : Nat} {st : List Value} {f : pz_F} {Q : Option Value → pz_F → Prop} {v1 : Value} {x : Nat} : pz_R dA d 70 8 [.ref x, v1] st f Q = pz_R dA d 70 9 [.ref x, v1] (.ref x :: st) f Q := pz_go (pz_so d70_8 rfl)
theorem d70_9 : decode (pz_b 70) 9 = .ok (.iconst 0, 1) := by decide +kernel
theorem q70_9 {dA : Nat → ClassId} {d : Nat} {st : List Value} {f : pz_F} {Q : Option Value → pz_F → Prop} {v0 v1 : Value} : pz_R dA d 70 9 [v0, v1] st f Q = pz_R dA d 70 10 [v0, v1] (.int 0 :: st) f Q := pz_go (pz_so d70_9 rfl)
theorem d70_10 : decode (pz_b 70) 10 = .ok (.putfield 24, 3) := by decide +kernel
theorem q70_10z {dA : Nat → ClassId} {d : Nat} {st : List Value} {f : pz_F} {Q : Option Value → pz_F → Prop} {v0 v1 : Value} {a : Nat} : pz_R dA d 70 10 [v0, v1] (.int 0 :: .ref a :: st) f Q = pz_o (pz_pf f a 3 3 (.int 0)) (fun f' => pz_R dA d 70 13 [v0, v1] st f' Q) := pz_gp d70_10 rfl rfl rfl rfl
theorem q70_10o {dA : Nat → ClassId} {d : Nat} {st : List Value} {f : pz_F} {Q : Option Value → pz_F → Prop} {v0 v1 : Value} {a : Nat} : pz_R dA d 70 10 [v0, v1] (.int 1 :: .ref a :: st) f Q = pz_o (pz_pf f a 3 3 (.int 1)) (fun f' => pz_R dA d 70 13 [v0, v1] st f' Q) := pz_gp d70_10 rfl rfl rfl rfl
theorem d70_13 : decode (pz_b 70) 13 = .ok (.return_, 1) := by decide +kernel
theorem q70_13 {dA : Nat → ClassId} {d : Nat} {f : pz_F} {Q : Option Value → pz_F → Prop} {v0 v1 : Value} : pz_R dA d 70 13 [v0, v1] [] f Q = Q none f := pz_gr (pz_so d70_13 rfl)
/-! C_look (I)I -/
theorem e71 {dA : Nat → ClassId} {d : Nat} {f : pz_F} {Q : Option Value → pz_F → Prop} {a0 : Nat} {a1 : Int32} : pz_C dA d 71 [.ref a0, .int a1] f Q = pz_R dA d 71 0 [.ref a0, .int a1] [] f Q := rfl
theorem d71_0 : decode (pz_b 71) 0 = .ok (.iload_n 1, 1) := by decide +kernel
theorem q71_0 {dA : Nat → ClassId} {d : Nat} {st : List Value} {f : pz_F} {Q : Option Value → pz_F → Prop} {v0 : Value} {x : Int32} : pz_R dA d 71 0 [v0, .int x] st f Q = pz_R dA d 71 1 [v0, .int x] (.int x :: st) f Q := pz_go (pz_so d71_0 rfl)
theorem d71_1 : decode (pz_b 71) 1 = .ok (.tableswitch 59 0 3 #[31, 36, 41, 46], 31) := by decide +kernel
theorem q71_1 {dA : Nat → ClassId} {d : Nat} {st : List Value} {f : pz_F} {Q : Option Value → pz_F → Prop} {v0 v1 : Value} {x : Int32} : pz_R dA d 71 1 [v0, v1] (.int x :: st) f Q = if x = 0 then pz_R dA d 71 32 [v0, v1] st f Q else (if x = 1 then pz_R dA d 71 37 [v0, v1] st f Q else (if x = 2 then pz_R dA d 71 42 [v0, v1] st f Q else (if x = 3 then pz_R dA d 71 47 [v0, v1] st f Q else (pz_R dA d 71 60 [v0, v1] st f Q)))) := by
  by_cases h0 : x = 0
  · subst h0
    rw [if_pos rfl]
    exact pz_gti d71_1 (by decide) rfl rfl
  rw [if_neg h0]
  by_cases h1 : x = 1
  · subst h1
    rw [if_pos rfl]
    exact pz_gti d71_1 (by decide) rfl rfl
  rw [if_neg h1]
  by_cases h2 : x = 2
  · subst h2
    rw [if_pos rfl]
    exact pz_gti d71_1 (by decide) rfl rfl
  rw [if_neg h2]
  by_cases h3 : x = 3
  · subst h3
    rw [if_pos rfl]
    exact pz_gti d71_1 (by decide) rfl rfl
  rw [if_neg h3]
  refine pz_gtd d71_1 ?_ rfl
  have g0 : ¬ x.toInt = 0 := lv_neT h0 (by decide)
  have g1 : ¬ x.toInt = 1 := lv_neT h1 (by decide)
  have g2 : ¬ x.toInt = 2 := lv_neT h2 (by decide)
  have g3 : ¬ x.toInt = 3 := lv_neT h3 (by decide)
  omega
theorem d71_32 : decode (pz_b 71) 32 = .ok (.aload_n 0, 1) := by decide +kernel
theorem q71_32 {dA : Nat → ClassId} {d : Nat} {st : List Value} {f : pz_F} {Q : Option Value → pz_F → Prop} {v1 : Value} {x : Nat} : pz_R dA d 71 32 [.ref x, v1] st f Q = pz_R dA d 71 33 [.ref x, v1] (.ref x :: st) f Q := pz_go (pz_so d71_32 rfl)
theorem d71_33 : decode (pz_b 71) 33 = .ok (.getfield 9, 3) := by decide +kernel
theorem q71_33 {dA : Nat → ClassId} {d : Nat} {st : List Value} {f : pz_F} {Q : Option Value → pz_F → Prop} {v0 v1 : Value} {a : Nat} : pz_R dA d 71 33 [v0, v1] (.ref a :: st) f Q = pz_o (pz_gf f a 3 0) (fun v => pz_R dA d 71 36 [v0, v1] (v :: st) f Q) := pz_gg d71_33 rfl
theorem d71_36 : decode (pz_b 71) 36 = .ok (.ireturn, 1) := by decide +kernel
theorem q71_36 {dA : Nat → ClassId} {d : Nat} {f : pz_F} {Q : Option Value → pz_F → Prop} {v0 v1 : Value} {x : Int32} : pz_R dA d 71 36 [v0, v1] [.int x] f Q = Q (some (.int x)) f := pz_gri d71_36 rfl rfl
theorem d71_37 : decode (pz_b 71) 37 = .ok (.aload_n 0, 1) := by decide +kernel
theorem q71_37 {dA : Nat → ClassId} {d : Nat} {st : List Value} {f : pz_F} {Q : Option Value → pz_F → Prop} {v1 : Value} {x : Nat} : pz_R dA d 71 37 [.ref x, v1] st f Q = pz_R dA d 71 38 [.ref x, v1] (.ref x :: st) f Q := pz_go (pz_so d71_37 rfl)
theorem d71_38 : decode (pz_b 71) 38 = .ok (.getfield 18, 3) := by decide +kernel
theorem q71_38 {dA : Nat → ClassId} {d : Nat} {st : List Value} {f : pz_F} {Q : Option Value → pz_F → Prop} {v0 v1 : Value} {a : Nat} : pz_R dA d 71 38 [v0, v1] (.ref a :: st) f Q = pz_o (pz_gf f a 3 1) (fun v => pz_R dA d 71 41 [v0, v1] (v :: st) f Q) := pz_gg d71_38 rfl
theorem d71_41 : decode (pz_b 71) 41 = .ok (.ireturn, 1) := by decide +kernel
theorem q71_41 {dA : Nat → ClassId} {d : Nat} {f : pz_F} {Q : Option Value → pz_F → Prop} {v0 v1 : Value} {x : Int32} : pz_R dA d 71 41 [v0, v1] [.int x] f Q = Q (some (.int x)) f := pz_gri d71_41 rfl rfl
theorem d71_42 : decode (pz_b 71) 42 = .ok (.aload_n 0, 1) := by decide +kernel
theorem q71_42 {dA : Nat → ClassId} {d : Nat} {st : List Value} {f : pz_F} {Q : Option Value → pz_F → Prop} {v1 : Value} {x : Nat} : pz_R dA d 71 42 [.ref x, v1] st f Q = pz_R dA d 71 43 [.ref x, v1] (.ref x :: st) f Q := pz_go (pz_so d71_42 rfl)
theorem d71_43 : decode (pz_b 71) 43 = .ok (.getfield 33, 3) := by decide +kernel
theorem q71_43 {dA : Nat → ClassId} {d : Nat} {st : List Value} {f : pz_F} {Q : Option Value → pz_F → Prop} {v0 v1 : Value} {a : Nat} : pz_R dA d 71 43 [v0, v1] (.ref a :: st) f Q = pz_o (pz_gf f a 3 2) (fun v => pz_R dA d 71 46 [v0, v1] (v :: st) f Q) := pz_gg d71_43 rfl
theorem d71_46 : decode (pz_b 71) 46 = .ok (.ireturn, 1) := by decide +kernel
theorem q71_46 {dA : Nat → ClassId} {d : Nat} {f : pz_F} {Q : Option Value → pz_F → Prop} {v0 v1 : Value} {x : Int32} : pz_R dA d 71 46 [v0, v1] [.int x] f Q = Q (some (.int x)) f := pz_gri d71_46 rfl rfl
theorem d71_47 : decode (pz_b 71) 47 = .ok (.aload_n 0, 1) := by decide +kernel
theorem q71_47 {dA : Nat → ClassId} {d : Nat} {st : List Value} {f : pz_F} {Q : Option Value → pz_F → Prop} {v1 : Value} {x : Nat} : pz_R dA d 71 47 [.ref x, v1] st f Q = pz_R dA d 71 48 [.ref x, v1] (.ref x :: st) f Q := pz_go (pz_so d71_47 rfl)
theorem d71_48 : decode (pz_b 71) 48 = .ok (.getfield 24, 3) := by decide +kernel
theorem q71_48 {dA : Nat → ClassId} {d : Nat} {st : List Value} {f : pz_F} {Q : Option Value → pz_F → Prop} {v0 v1 : Value} {a : Nat} : pz_R dA d 71 48 [v0, v1] (.ref a :: st) f Q = pz_o (pz_gf f a 3 3) (fun v => pz_R dA d 71 51 [v0, v1] (v :: st) f Q) := pz_gg d71_48 rfl
theorem d71_51 : decode (pz_b 71) 51 = .ok (.ifCond .eq 7, 3) := by decide +kernel
theorem q71_51 {dA : Nat → ClassId} {d : Nat} {st : List Value} {f : pz_F} {Q : Option Value → pz_F → Prop} {v0 v1 : Value} {x : Int32} : pz_R dA d 71 51 [v0, v1] (.int x :: st) f Q = (if x = 0 then pz_R dA d 71 58 [v0, v1] st f Q else pz_R dA d 71 54 [v0, v1] st f Q) := pz_gj1 .eq d71_51 rfl
theorem d71_54 : decode (pz_b 71) 54 = .ok (.iconst 1, 1) := by decide +kernel
theorem q71_54 {dA : Nat → ClassId} {d : Nat} {st : List Value} {f : pz_F} {Q : Option Value → pz_F → Prop} {v0 v1 : Value} : pz_R dA d 71 54 [v0, v1] st f Q = pz_R dA d 71 55 [v0, v1] (.int 1 :: st) f Q := pz_go (pz_so d71_54 rfl)
theorem d71_55 : decode (pz_b 71) 55 = .ok (.goto 4, 3) := by decide +kernel
theorem q71_55 {dA : Nat → ClassId} {d : Nat} {st : List Value} {f : pz_F} {Q : Option Value → pz_F → Prop} {v0 v1 : Value} : pz_R dA d 71 55 [v0, v1] st f Q = pz_R dA d 71 59 [v0, v1] st f Q := pz_go (pz_so d71_55 rfl)
theorem d71_58 : decode (pz_b 71) 58 = .ok (.iconst 0, 1) := by decide +kernel
theorem q71_58 {dA : Nat → ClassId} {d : Nat} {st : List Value} {f : pz_F} {Q : Option Value → pz_F → Prop} {v0 v1 : Value} : pz_R dA d 71 58 [v0, v1] st f Q = pz_R dA d 71 59 [v0, v1] (.int 0 :: st) f Q := pz_go (pz_so d71_58 rfl)
theorem d71_59 : decode (pz_b 71) 59 = .ok (.ireturn, 1) := by decide +kernel
theorem q71_59 {dA : Nat → ClassId} {d : Nat} {f : pz_F} {Q : Option Value → pz_F → Prop} {v0 v1 : Value} {x : Int32} : pz_R dA d 71 59 [v0, v1] [.int x] f Q = Q (some (.int x)) f := pz_gri d71_59 rfl rfl
theorem d71_60 : decode (pz_b 71) 60 = .ok (.bipush (-2), 2) := by decide +kernel
theorem q71_60 {dA : Nat → ClassId} {d : Nat} {st : List Value} {f : pz_F} {Q : Option Value → pz_F → Prop} {v0 v1 : Value} : pz_R dA d 71 60 [v0, v1] st f Q = pz_R dA d 71 62 [v0, v1] (.int (-2) :: st) f Q := pz_go (pz_so d71_60 rfl)
theorem d71_62 : decode (pz_b 71) 62 = .ok (.ireturn, 1) := by decide +kernel
theorem q71_62 {dA : Nat → ClassId} {d : Nat} {f : pz_F} {Q : Option Value → pz_F → Prop} {v0 v1 : Value} {x : Int32} : pz_R dA d 71 62 [v0, v1] [.int x] f Q = Q (some (.int x)) f := pz_gri d71_62 rfl rfl
/-! L_has (I)Z -/
theorem e73 {dA : Nat → ClassId} {d : Nat} {f : pz_F} {Q : Option Value → pz_F → Prop} {a0 : Nat} {a1 : Int32} : pz_C dA d 73 [.ref a0, .int a1] f Q = pz_R dA d 73 0 [.ref a0, .int a1] [] f Q := rfl
theorem d73_0 : decode (pz_b 73) 0 = .ok (.iload_n 1, 1) := by decide +kernel
theorem q73_0 {dA : Nat → ClassId} {d : Nat} {st : List Value} {f : pz_F} {Q : Option Value → pz_F → Prop} {v0 : Value} {x : Int32} : pz_R dA d 73 0 [v0, .int x] st f Q = pz_R dA d 73 1 [v0, .int x] (.int x :: st) f Q := pz_go (pz_so d73_0 rfl)
theorem d73_1 : decode (pz_b 73) 1 = .ok (.ifCond .lt 15, 3) := by decide +kernel
theorem q73_1 {dA : Nat → ClassId} {d : Nat} {st : List Value} {f : pz_F} {Q : Option Value → pz_F → Prop} {v0 v1 : Value} {x : Int32} : pz_R dA d 73 1 [v0, v1] (.int x :: st) f Q = (if x < 0 then pz_R dA d 73 16 [v0, v1] st f Q else pz_R dA d 73 4 [v0, v1] st f Q) := pz_gj1 .lt d73_1 rfl
theorem d73_4 : decode (pz_b 73) 4 = .ok (.iload_n 1, 1) := by decide +kernel
theorem q73_4 {dA : Nat → ClassId} {d : Nat} {st : List Value} {f : pz_F} {Q : Option Value → pz_F → Prop} {v0 : Value} {x : Int32} : pz_R dA d 73 4 [v0, .int x] st f Q = pz_R dA d 73 5 [v0, .int x] (.int x :: st) f Q := pz_go (pz_so d73_4 rfl)
theorem d73_5 : decode (pz_b 73) 5 = .ok (.aload_n 0, 1) := by decide +kernel
theorem q73_5 {dA : Nat → ClassId} {d : Nat} {st : List Value} {f : pz_F} {Q : Option Value → pz_F → Prop} {v1 : Value} {x : Nat} : pz_R dA d 73 5 [.ref x, v1] st f Q = pz_R dA d 73 6 [.ref x, v1] (.ref x :: st) f Q := pz_go (pz_so d73_5 rfl)
theorem d73_6 : decode (pz_b 73) 6 = .ok (.getfield 22, 3) := by decide +kernel
theorem q73_6 {dA : Nat → ClassId} {d : Nat} {st : List Value} {f : pz_F} {Q : Option Value → pz_F → Prop} {v0 v1 : Value} {a : Nat} : pz_R dA d 73 6 [v0, v1] (.ref a :: st) f Q = pz_o (pz_gf f a 4 1) (fun v => pz_R dA d 73 9 [v0, v1] (v :: st) f Q) := pz_gg d73_6 rfl
theorem d73_9 : decode (pz_b 73) 9 = .ok (.if_icmp .ge 7, 3) := by decide +kernel
theorem q73_9 {dA : Nat → ClassId} {d : Nat} {st : List Value} {f : pz_F} {Q : Option Value → pz_F → Prop} {v0 v1 : Value} {x y : Int32} : pz_R dA d 73 9 [v0, v1] (.int y :: .int x :: st) f Q = (if y ≤ x then pz_R dA d 73 16 [v0, v1] st f Q else pz_R dA d 73 12 [v0, v1] st f Q) := pz_gjn .ge d73_9 rfl
theorem d73_12 : decode (pz_b 73) 12 = .ok (.iconst 1, 1) := by decide +kernel
theorem q73_12 {dA : Nat → ClassId} {d : Nat} {st : List Value} {f : pz_F} {Q : Option Value → pz_F → Prop} {v0 v1 : Value} : pz_R dA d 73 12 [v0, v1] st f Q = pz_R dA d 73 13 [v0, v1] (.int 1 :: st) f Q := pz_go (pz_so d73_12 rfl)
theorem d73_13 : decode (pz_b 73) 13 = .ok (.goto 4, 3) := by decide +kernel
theorem q73_13 {dA : Nat → ClassId} {d : Nat} {st : List Value} {f : pz_F} {Q : Option Value → pz_F → Prop} {v0 v1 : Value} : pz_R dA d 73 13 [v0, v1] st f Q = pz_R dA d 73 17 [v0, v1] st f Q := pz_go (pz_so d73_13 rfl)
theorem d73_16 : decode (pz_b 73) 16 = .ok (.iconst 0, 1) := by decide +kernel
theorem q73_16 {dA : Nat → ClassId} {d : Nat} {st : List Value} {f : pz_F} {Q : Option Value → pz_F → Prop} {v0 v1 : Value} : pz_R dA d 73 16 [v0, v1] st f Q = pz_R dA d 73 17 [v0, v1] (.int 0 :: st) f Q := pz_go (pz_so d73_16 rfl)
theorem d73_17 : decode (pz_b 73) 17 = .ok (.ireturn, 1) := by decide +kernel
theorem q73_17z {dA : Nat → ClassId} {d : Nat} {f : pz_F} {Q : Option Value → pz_F → Prop} {v0 v1 : Value} : pz_R dA d 73 17 [v0, v1] [.int 0] f Q = Q (some (.int 0)) f := pz_gri d73_17 rfl rfl
theorem q73_17o {dA : Nat → ClassId} {d : Nat} {f : pz_F} {Q : Option Value → pz_F → Prop} {v0 v1 : Value} : pz_R dA d 73 17 [v0, v1] [.int 1] f Q = Q (some (.int 1)) f := pz_gri d73_17 rfl rfl
/-! L_append (IIII)LLeasePair$Message; -/
theorem e74 {dA : Nat → ClassId} {d : Nat} {f : pz_F} {Q : Option Value → pz_F → Prop} {a0 : Nat} {a1 : Int32} {a2 : Int32} {a3 : Int32} {a4 : Int32} : pz_C dA d 74 [.ref a0, .int a1, .int a2, .int a3, .int a4] f Q = pz_R dA d 74 0 [.ref a0, .int a1, .int a2, .int a3, .int a4, .retAddr 0] [] f Q := rfl
theorem d74_0 : decode (pz_b 74) 0 = .ok (.aload_n 0, 1) := by decide +kernel
theorem q74_0 {dA : Nat → ClassId} {d : Nat} {st : List Value} {f : pz_F} {Q : Option Value → pz_F → Prop} {v1 v2 v3 v4 v5 : Value} {x : Nat} : pz_R dA d 74 0 [.ref x, v1, v2, v3, v4, v5] st f Q = pz_R dA d 74 1 [.ref x, v1, v2, v3, v4, v5] (.ref x :: st) f Q := pz_go (pz_so d74_0 rfl)
theorem d74_1 : decode (pz_b 74) 1 = .ok (.getfield 22, 3) := by decide +kernel
theorem q74_1 {dA : Nat → ClassId} {d : Nat} {st : List Value} {f : pz_F} {Q : Option Value → pz_F → Prop} {v0 v1 v2 v3 v4 v5 : Value} {a : Nat} : pz_R dA d 74 1 [v0, v1, v2, v3, v4, v5] (.ref a :: st) f Q = pz_o (pz_gf f a 4 1) (fun v => pz_R dA d 74 4 [v0, v1, v2, v3, v4, v5] (v :: st) f Q) := pz_gg d74_1 rfl
theorem d74_4 : decode (pz_b 74) 4 = .ok (.bipush 24, 2) := by decide +kernel
theorem q74_4 {dA : Nat → ClassId} {d : Nat} {st : List Value} {f : pz_F} {Q : Option Value → pz_F → Prop} {v0 v1 v2 v3 v4 v5 : Value} : pz_R dA d 74 4 [v0, v1, v2, v3, v4, v5] st f Q = pz_R dA d 74 6 [v0, v1, v2, v3, v4, v5] (.int 24 :: st) f Q := pz_go (pz_so d74_4 rfl)
theorem d74_6 : decode (pz_b 74) 6 = .ok (.if_icmp .lt 5, 3) := by decide +kernel
theorem q74_6 {dA : Nat → ClassId} {d : Nat} {st : List Value} {f : pz_F} {Q : Option Value → pz_F → Prop} {v0 v1 v2 v3 v4 v5 : Value} {x y : Int32} : pz_R dA d 74 6 [v0, v1, v2, v3, v4, v5] (.int y :: .int x :: st) f Q = (if x < y then pz_R dA d 74 11 [v0, v1, v2, v3, v4, v5] st f Q else pz_R dA d 74 9 [v0, v1, v2, v3, v4, v5] st f Q) := pz_gjn .lt d74_6 rfl
theorem d74_9 : decode (pz_b 74) 9 = .ok (.aconst_null, 1) := by decide +kernel
theorem q74_9 {dA : Nat → ClassId} {d : Nat} {st : List Value} {f : pz_F} {Q : Option Value → pz_F → Prop} {v0 v1 v2 v3 v4 v5 : Value} : pz_R dA d 74 9 [v0, v1, v2, v3, v4, v5] st f Q = pz_R dA d 74 10 [v0, v1, v2, v3, v4, v5] (.null :: st) f Q := pz_go (pz_so d74_9 rfl)
theorem d74_10 : decode (pz_b 74) 10 = .ok (.areturn, 1) := by decide +kernel
theorem q74_10 {dA : Nat → ClassId} {d : Nat} {f : pz_F} {Q : Option Value → pz_F → Prop} {v0 v1 v2 v3 v4 v5 : Value} {x : Nat} : pz_R dA d 74 10 [v0, v1, v2, v3, v4, v5] [.ref x] f Q = Q (some (.ref x)) f := pz_gr (pz_so d74_10 rfl)
theorem q74_10n {dA : Nat → ClassId} {d : Nat} {f : pz_F} {Q : Option Value → pz_F → Prop} {v0 v1 v2 v3 v4 v5 : Value} : pz_R dA d 74 10 [v0, v1, v2, v3, v4, v5] [.null] f Q = Q (some .null) f := pz_gr (pz_so d74_10 rfl)
theorem d74_11 : decode (pz_b 74) 11 = .ok (.aload_n 0, 1) := by decide +kernel
theorem q74_11 {dA : Nat → ClassId} {d : Nat} {st : List Value} {f : pz_F} {Q : Option Value → pz_F → Prop} {v1 v2 v3 v4 v5 : Value} {x : Nat} : pz_R dA d 74 11 [.ref x, v1, v2, v3, v4, v5] st f Q = pz_R dA d 74 12 [.ref x, v1, v2, v3, v4, v5] (.ref x :: st) f Q := pz_go (pz_so d74_11 rfl)
theorem d74_12 : decode (pz_b 74) 12 = .ok (.getfield 11, 3) := by decide +kernel
theorem q74_12 {dA : Nat → ClassId} {d : Nat} {st : List Value} {f : pz_F} {Q : Option Value → pz_F → Prop} {v0 v1 v2 v3 v4 v5 : Value} {a : Nat} : pz_R dA d 74 12 [v0, v1, v2, v3, v4, v5] (.ref a :: st) f Q = pz_o (pz_gf f a 4 0) (fun v => pz_R dA d 74 15 [v0, v1, v2, v3, v4, v5] (v :: st) f Q) := pz_gg d74_12 rfl
theorem d74_15 : decode (pz_b 74) 15 = .ok (.aload_n 0, 1) := by decide +kernel
theorem q74_15 {dA : Nat → ClassId} {d : Nat} {st : List Value} {f : pz_F} {Q : Option Value → pz_F → Prop} {v1 v2 v3 v4 v5 : Value} {x : Nat} : pz_R dA d 74 15 [.ref x, v1, v2, v3, v4, v5] st f Q = pz_R dA d 74 16 [.ref x, v1, v2, v3, v4, v5] (.ref x :: st) f Q := pz_go (pz_so d74_15 rfl)
theorem d74_16 : decode (pz_b 74) 16 = .ok (.getfield 22, 3) := by decide +kernel
theorem q74_16 {dA : Nat → ClassId} {d : Nat} {st : List Value} {f : pz_F} {Q : Option Value → pz_F → Prop} {v0 v1 v2 v3 v4 v5 : Value} {a : Nat} : pz_R dA d 74 16 [v0, v1, v2, v3, v4, v5] (.ref a :: st) f Q = pz_o (pz_gf f a 4 1) (fun v => pz_R dA d 74 19 [v0, v1, v2, v3, v4, v5] (v :: st) f Q) := pz_gg d74_16 rfl
theorem d74_19 : decode (pz_b 74) 19 = .ok (.aaload, 1) := by decide +kernel
theorem q74_19 {dA : Nat → ClassId} {d : Nat} {st : List Value} {f : pz_F} {Q : Option Value → pz_F → Prop} {v0 v1 v2 v3 v4 v5 : Value} {i : Int32} {a : Nat} : pz_R dA d 74 19 [v0, v1, v2, v3, v4, v5] (.int i :: .ref a :: st) f Q = pz_o (pz_rl dA f a i) (fun v => pz_R dA d 74 20 [v0, v1, v2, v3, v4, v5] (v :: st) f Q) := pz_grl d74_19
theorem d74_20 : decode (pz_b 74) 20 = .ok (.astore 5, 2) := by decide +kernel
theorem q74_20 {dA : Nat → ClassId} {d : Nat} {st : List Value} {f : pz_F} {Q : Option Value → pz_F → Prop} {v0 v1 v2 v3 v4 v5 : Value} {x : Nat} : pz_R dA d 74 20 [v0, v1, v2, v3, v4, v5] (.ref x :: st) f Q = pz_R dA d 74 22 [v0, v1, v2, v3, v4, .ref x] st f Q := pz_go (pz_so d74_20 rfl)
theorem q74_20n {dA : Nat → ClassId} {d : Nat} {st : List Value} {f : pz_F} {Q : Option Value → pz_F → Prop} {v0 v1 v2 v3 v4 v5 : Value} : pz_R dA d 74 20 [v0, v1, v2, v3, v4, v5] (.null :: st) f Q = pz_R dA d 74 22 [v0, v1, v2, v3, v4, .null] st f Q := pz_go (pz_so d74_20 rfl)
theorem d74_22 : decode (pz_b 74) 22 = .ok (.aload_n 0, 1) := by decide +kernel
theorem q74_22 {dA : Nat → ClassId} {d : Nat} {st : List Value} {f : pz_F} {Q : Option Value → pz_F → Prop} {v1 v2 v3 v4 v5 : Value} {x : Nat} : pz_R dA d 74 22 [.ref x, v1, v2, v3, v4, v5] st f Q = pz_R dA d 74 23 [.ref x, v1, v2, v3, v4, v5] (.ref x :: st) f Q := pz_go (pz_so d74_22 rfl)
theorem d74_23 : decode (pz_b 74) 23 = .ok (.dup, 1) := by decide +kernel
theorem q74_23 {dA : Nat → ClassId} {d : Nat} {st : List Value} {f : pz_F} {Q : Option Value → pz_F → Prop} {v0 v1 v2 v3 v4 v5 : Value} {x : Nat} : pz_R dA d 74 23 [v0, v1, v2, v3, v4, v5] (.ref x :: st) f Q = pz_R dA d 74 24 [v0, v1, v2, v3, v4, v5] (.ref x :: .ref x :: st) f Q := pz_go (pz_so d74_23 rfl)
theorem d74_24 : decode (pz_b 74) 24 = .ok (.getfield 22, 3) := by decide +kernel
theorem q74_24 {dA : Nat → ClassId} {d : Nat} {st : List Value} {f : pz_F} {Q : Option Value → pz_F → Prop} {v0 v1 v2 v3 v4 v5 : Value} {a : Nat} : pz_R dA d 74 24 [v0, v1, v2, v3, v4, v5] (.ref a :: st) f Q = pz_o (pz_gf f a 4 1) (fun v => pz_R dA d 74 27 [v0, v1, v2, v3, v4, v5] (v :: st) f Q) := pz_gg d74_24 rfl
theorem d74_27 : decode (pz_b 74) 27 = .ok (.iconst 1, 1) := by decide +kernel
theorem q74_27 {dA : Nat → ClassId} {d : Nat} {st : List Value} {f : pz_F} {Q : Option Value → pz_F → Prop} {v0 v1 v2 v3 v4 v5 : Value} : pz_R dA d 74 27 [v0, v1, v2, v3, v4, v5] st f Q = pz_R dA d 74 28 [v0, v1, v2, v3, v4, v5] (.int 1 :: st) f Q := pz_go (pz_so d74_27 rfl)
theorem d74_28 : decode (pz_b 74) 28 = .ok (.iadd, 1) := by decide +kernel
theorem q74_28 {dA : Nat → ClassId} {d : Nat} {st : List Value} {f : pz_F} {Q : Option Value → pz_F → Prop} {v0 v1 v2 v3 v4 v5 : Value} {x y : Int32} : pz_R dA d 74 28 [v0, v1, v2, v3, v4, v5] (.int y :: .int x :: st) f Q = pz_R dA d 74 29 [v0, v1, v2, v3, v4, v5] (.int (x + y) :: st) f Q := pz_go (pz_so d74_28 rfl)
theorem d74_29 : decode (pz_b 74) 29 = .ok (.putfield 22, 3) := by decide +kernel
theorem q74_29 {dA : Nat → ClassId} {d : Nat} {st : List Value} {f : pz_F} {Q : Option Value → pz_F → Prop} {v0 v1 v2 v3 v4 v5 : Value} {x : Int32} {a : Nat} : pz_R dA d 74 29 [v0, v1, v2, v3, v4, v5] (.int x :: .ref a :: st) f Q = pz_o (pz_pf f a 4 1 (.int x)) (fun f' => pz_R dA d 74 32 [v0, v1, v2, v3, v4, v5] st f' Q) := pz_gp d74_29 rfl rfl rfl rfl
theorem d74_32 : decode (pz_b 74) 32 = .ok (.aload 5, 2) := by decide +kernel
theorem q74_32 {dA : Nat → ClassId} {d : Nat} {st : List Value} {f : pz_F} {Q : Option Value → pz_F → Prop} {v0 v1 v2 v3 v4 : Value} {x : Nat} : pz_R dA d 74 32 [v0, v1, v2, v3, v4, .ref x] st f Q = pz_R dA d 74 34 [v0, v1, v2, v3, v4, .ref x] (.ref x :: st) f Q := pz_go (pz_so d74_32 rfl)
theorem q74_32n {dA : Nat → ClassId} {d : Nat} {st : List Value} {f : pz_F} {Q : Option Value → pz_F → Prop} {v0 v1 v2 v3 v4 : Value} : pz_R dA d 74 32 [v0, v1, v2, v3, v4, .null] st f Q = pz_R dA d 74 34 [v0, v1, v2, v3, v4, .null] (.null :: st) f Q := pz_go (pz_so d74_32 rfl)
theorem d74_34 : decode (pz_b 74) 34 = .ok (.iload_n 1, 1) := by decide +kernel
theorem q74_34 {dA : Nat → ClassId} {d : Nat} {st : List Value} {f : pz_F} {Q : Option Value → pz_F → Prop} {v0 v2 v3 v4 v5 : Value} {x : Int32} : pz_R dA d 74 34 [v0, .int x, v2, v3, v4, v5] st f Q = pz_R dA d 74 35 [v0, .int x, v2, v3, v4, v5] (.int x :: st) f Q := pz_go (pz_so d74_34 rfl)
theorem d74_35 : decode (pz_b 74) 35 = .ok (.putfield 26, 3) := by decide +kernel
theorem q74_35 {dA : Nat → ClassId} {d : Nat} {st : List Value} {f : pz_F} {Q : Option Value → pz_F → Prop} {v0 v1 v2 v3 v4 v5 : Value} {x : Int32} {a : Nat} : pz_R dA d 74 35 [v0, v1, v2, v3, v4, v5] (.int x :: .ref a :: st) f Q = pz_o (pz_pf f a 5 0 (.int x)) (fun f' => pz_R dA d 74 38 [v0, v1, v2, v3, v4, v5] st f' Q) := pz_gp d74_35 rfl rfl rfl rfl
theorem d74_38 : decode (pz_b 74) 38 = .ok (.aload 5, 2) := by decide +kernel
theorem q74_38 {dA : Nat → ClassId} {d : Nat} {st : List Value} {f : pz_F} {Q : Option Value → pz_F → Prop} {v0 v1 v2 v3 v4 : Value} {x : Nat} : pz_R dA d 74 38 [v0, v1, v2, v3, v4, .ref x] st f Q = pz_R dA d 74 40 [v0, v1, v2, v3, v4, .ref x] (.ref x :: st) f Q := pz_go (pz_so d74_38 rfl)
theorem q74_38n {dA : Nat → ClassId} {d : Nat} {st : List Value} {f : pz_F} {Q : Option Value → pz_F → Prop} {v0 v1 v2 v3 v4 : Value} : pz_R dA d 74 38 [v0, v1, v2, v3, v4, .null] st f Q = pz_R dA d 74 40 [v0, v1, v2, v3, v4, .null] (.null :: st) f Q := pz_go (pz_so d74_38 rfl)
theorem d74_40 : decode (pz_b 74) 40 = .ok (.iload_n 2, 1) := by decide +kernel
theorem q74_40 {dA : Nat → ClassId} {d : Nat} {st : List Value} {f : pz_F} {Q : Option Value → pz_F → Prop} {v0 v1 v3 v4 v5 : Value} {x : Int32} : pz_R dA d 74 40 [v0, v1, .int x, v3, v4, v5] st f Q = pz_R dA d 74 41 [v0, v1, .int x, v3, v4, v5] (.int x :: st) f Q := pz_go (pz_so d74_40 rfl)
theorem d74_41 : decode (pz_b 74) 41 = .ok (.putfield 29, 3) := by decide +kernel
theorem q74_41 {dA : Nat → ClassId} {d : Nat} {st : List Value} {f : pz_F} {Q : Option Value → pz_F → Prop} {v0 v1 v2 v3 v4 v5 : Value} {x : Int32} {a : Nat} : pz_R dA d 74 41 [v0, v1, v2, v3, v4, v5] (.int x :: .ref a :: st) f Q = pz_o (pz_pf f a 5 1 (.int x)) (fun f' => pz_R dA d 74 44 [v0, v1, v2, v3, v4, v5] st f' Q) := pz_gp d74_41 rfl rfl rfl rfl
theorem d74_44 : decode (pz_b 74) 44 = .ok (.aload 5, 2) := by decide +kernel
theorem q74_44 {dA : Nat → ClassId} {d : Nat} {st : List Value} {f : pz_F} {Q : Option Value → pz_F → Prop} {v0 v1 v2 v3 v4 : Value} {x : Nat} : pz_R dA d 74 44 [v0, v1, v2, v3, v4, .ref x] st f Q = pz_R dA d 74 46 [v0, v1, v2, v3, v4, .ref x] (.ref x :: st) f Q := pz_go (pz_so d74_44 rfl)
theorem q74_44n {dA : Nat → ClassId} {d : Nat} {st : List Value} {f : pz_F} {Q : Option Value → pz_F → Prop} {v0 v1 v2 v3 v4 : Value} : pz_R dA d 74 44 [v0, v1, v2, v3, v4, .null] st f Q = pz_R dA d 74 46 [v0, v1, v2, v3, v4, .null] (.null :: st) f Q := pz_go (pz_so d74_44 rfl)
theorem d74_46 : decode (pz_b 74) 46 = .ok (.iload_n 3, 1) := by decide +kernel
theorem q74_46 {dA : Nat → ClassId} {d : Nat} {st : List Value} {f : pz_F} {Q : Option Value → pz_F → Prop} {v0 v1 v2 v4 v5 : Value} {x : Int32} : pz_R dA d 74 46 [v0, v1, v2, .int x, v4, v5] st f Q = pz_R dA d 74 47 [v0, v1, v2, .int x, v4, v5] (.int x :: st) f Q := pz_go (pz_so d74_46 rfl)
theorem d74_47 : decode (pz_b 74) 47 = .ok (.putfield 32, 3) := by decide +kernel
theorem q74_47 {dA : Nat → ClassId} {d : Nat} {st : List Value} {f : pz_F} {Q : Option Value → pz_F → Prop} {v0 v1 v2 v3 v4 v5 : Value} {x : Int32} {a : Nat} : pz_R dA d 74 47 [v0, v1, v2, v3, v4, v5] (.int x :: .ref a :: st) f Q = pz_o (pz_pf f a 5 2 (.int x)) (fun f' => pz_R dA d 74 50 [v0, v1, v2, v3, v4, v5] st f' Q) := pz_gp d74_47 rfl rfl rfl rfl
theorem d74_50 : decode (pz_b 74) 50 = .ok (.aload 5, 2) := by decide +kernel
theorem q74_50 {dA : Nat → ClassId} {d : Nat} {st : List Value} {f : pz_F} {Q : Option Value → pz_F → Prop} {v0 v1 v2 v3 v4 : Value} {x : Nat} : pz_R dA d 74 50 [v0, v1, v2, v3, v4, .ref x] st f Q = pz_R dA d 74 52 [v0, v1, v2, v3, v4, .ref x] (.ref x :: st) f Q := pz_go (pz_so d74_50 rfl)
theorem q74_50n {dA : Nat → ClassId} {d : Nat} {st : List Value} {f : pz_F} {Q : Option Value → pz_F → Prop} {v0 v1 v2 v3 v4 : Value} : pz_R dA d 74 50 [v0, v1, v2, v3, v4, .null] st f Q = pz_R dA d 74 52 [v0, v1, v2, v3, v4, .null] (.null :: st) f Q := pz_go (pz_so d74_50 rfl)
theorem d74_52 : decode (pz_b 74) 52 = .ok (.iload 4, 2) := by decide +kernel
theorem q74_52 {dA : Nat → ClassId} {d : Nat} {st : List Value} {f : pz_F} {Q : Option Value → pz_F → Prop} {v0 v1 v2 v3 v5 : Value} {x : Int32} : pz_R dA d 74 52 [v0, v1, v2, v3, .int x, v5] st f Q = pz_R dA d 74 54 [v0, v1, v2, v3, .int x, v5] (.int x :: st) f Q := pz_go (pz_so d74_52 rfl)
theorem d74_54 : decode (pz_b 74) 54 = .ok (.putfield 35, 3) := by decide +kernel
theorem q74_54 {dA : Nat → ClassId} {d : Nat} {st : List Value} {f : pz_F} {Q : Option Value → pz_F → Prop} {v0 v1 v2 v3 v4 v5 : Value} {x : Int32} {a : Nat} : pz_R dA d 74 54 [v0, v1, v2, v3, v4, v5] (.int x :: .ref a :: st) f Q = pz_o (pz_pf f a 5 3 (.int x)) (fun f' => pz_R dA d 74 57 [v0, v1, v2, v3, v4, v5] st f' Q) := pz_gp d74_54 rfl rfl rfl rfl
theorem d74_57 : decode (pz_b 74) 57 = .ok (.aload 5, 2) := by decide +kernel
theorem q74_57 {dA : Nat → ClassId} {d : Nat} {st : List Value} {f : pz_F} {Q : Option Value → pz_F → Prop} {v0 v1 v2 v3 v4 : Value} {x : Nat} : pz_R dA d 74 57 [v0, v1, v2, v3, v4, .ref x] st f Q = pz_R dA d 74 59 [v0, v1, v2, v3, v4, .ref x] (.ref x :: st) f Q := pz_go (pz_so d74_57 rfl)
theorem q74_57n {dA : Nat → ClassId} {d : Nat} {st : List Value} {f : pz_F} {Q : Option Value → pz_F → Prop} {v0 v1 v2 v3 v4 : Value} : pz_R dA d 74 57 [v0, v1, v2, v3, v4, .null] st f Q = pz_R dA d 74 59 [v0, v1, v2, v3, v4, .null] (.null :: st) f Q := pz_go (pz_so d74_57 rfl)
theorem d74_59 : decode (pz_b 74) 59 = .ok (.areturn, 1) := by decide +kernel
theorem q74_59 {dA : Nat → ClassId} {d : Nat} {f : pz_F} {Q : Option Value → pz_F → Prop} {v0 v1 v2 v3 v4 v5 : Value} {x : Nat} : pz_R dA d 74 59 [v0, v1, v2, v3, v4, v5] [.ref x] f Q = Q (some (.ref x)) f := pz_gr (pz_so d74_59 rfl)
theorem q74_59n {dA : Nat → ClassId} {d : Nat} {f : pz_F} {Q : Option Value → pz_F → Prop} {v0 v1 v2 v3 v4 v5 : Value} : pz_R dA d 74 59 [v0, v1, v2, v3, v4, v5] [.null] f Q = Q (some .null) f := pz_gr (pz_so d74_59 rfl)
/-! L_take (I)LLeasePair$Message; -/
theorem e75 {dA : Nat → ClassId} {d : Nat} {f : pz_F} {Q : Option Value → pz_F → Prop} {a0 : Nat} {a1 : Int32} : pz_C dA d 75 [.ref a0, .int a1] f Q = pz_R dA d 75 0 [.ref a0, .int a1, .retAddr 0, .retAddr 0] [] f Q := rfl
theorem d75_0 : decode (pz_b 75) 0 = .ok (.aload_n 0, 1) := by decide +kernel
theorem q75_0 {dA : Nat → ClassId} {d : Nat} {st : List Value} {f : pz_F} {Q : Option Value → pz_F → Prop} {v1 v2 v3 : Value} {x : Nat} : pz_R dA d 75 0 [.ref x, v1, v2, v3] st f Q = pz_R dA d 75 1 [.ref x, v1, v2, v3] (.ref x :: st) f Q := pz_go (pz_so d75_0 rfl)
theorem d75_1 : decode (pz_b 75) 1 = .ok (.getfield 11, 3) := by decide +kernel
theorem q75_1 {dA : Nat → ClassId} {d : Nat} {st : List Value} {f : pz_F} {Q : Option Value → pz_F → Prop} {v0 v1 v2 v3 : Value} {a : Nat} : pz_R dA d 75 1 [v0, v1, v2, v3] (.ref a :: st) f Q = pz_o (pz_gf f a 4 0) (fun v => pz_R dA d 75 4 [v0, v1, v2, v3] (v :: st) f Q) := pz_gg d75_1 rfl
theorem d75_4 : decode (pz_b 75) 4 = .ok (.iload_n 1, 1) := by decide +kernel
theorem q75_4 {dA : Nat → ClassId} {d : Nat} {st : List Value} {f : pz_F} {Q : Option Value → pz_F → Prop} {v0 v2 v3 : Value} {x : Int32} : pz_R dA d 75 4 [v0, .int x, v2, v3] st f Q = pz_R dA d 75 5 [v0, .int x, v2, v3] (.int x :: st) f Q := pz_go (pz_so d75_4 rfl)
theorem d75_5 : decode (pz_b 75) 5 = .ok (.aaload, 1) := by decide +kernel
theorem q75_5 {dA : Nat → ClassId} {d : Nat} {st : List Value} {f : pz_F} {Q : Option Value → pz_F → Prop} {v0 v1 v2 v3 : Value} {i : Int32} {a : Nat} : pz_R dA d 75 5 [v0, v1, v2, v3] (.int i :: .ref a :: st) f Q = pz_o (pz_rl dA f a i) (fun v => pz_R dA d 75 6 [v0, v1, v2, v3] (v :: st) f Q) := pz_grl d75_5
theorem d75_6 : decode (pz_b 75) 6 = .ok (.astore_n 2, 1) := by decide +kernel
theorem q75_6 {dA : Nat → ClassId} {d : Nat} {st : List Value} {f : pz_F} {Q : Option Value → pz_F → Prop} {v0 v1 v2 v3 : Value} {x : Nat} : pz_R dA d 75 6 [v0, v1, v2, v3] (.ref x :: st) f Q = pz_R dA d 75 7 [v0, v1, .ref x, v3] st f Q := pz_go (pz_so d75_6 rfl)
theorem q75_6n {dA : Nat → ClassId} {d : Nat} {st : List Value} {f : pz_F} {Q : Option Value → pz_F → Prop} {v0 v1 v2 v3 : Value} : pz_R dA d 75 6 [v0, v1, v2, v3] (.null :: st) f Q = pz_R dA d 75 7 [v0, v1, .null, v3] st f Q := pz_go (pz_so d75_6 rfl)
theorem d75_7 : decode (pz_b 75) 7 = .ok (.iload_n 1, 1) := by decide +kernel
theorem q75_7 {dA : Nat → ClassId} {d : Nat} {st : List Value} {f : pz_F} {Q : Option Value → pz_F → Prop} {v0 v2 v3 : Value} {x : Int32} : pz_R dA d 75 7 [v0, .int x, v2, v3] st f Q = pz_R dA d 75 8 [v0, .int x, v2, v3] (.int x :: st) f Q := pz_go (pz_so d75_7 rfl)
theorem d75_8 : decode (pz_b 75) 8 = .ok (.iconst 1, 1) := by decide +kernel
theorem q75_8 {dA : Nat → ClassId} {d : Nat} {st : List Value} {f : pz_F} {Q : Option Value → pz_F → Prop} {v0 v1 v2 v3 : Value} : pz_R dA d 75 8 [v0, v1, v2, v3] st f Q = pz_R dA d 75 9 [v0, v1, v2, v3] (.int 1 :: st) f Q := pz_go (pz_so d75_8 rfl)
theorem d75_9 : decode (pz_b 75) 9 = .ok (.iadd, 1) := by decide +kernel
theorem q75_9 {dA : Nat → ClassId} {d : Nat} {st : List Value} {f : pz_F} {Q : Option Value → pz_F → Prop} {v0 v1 v2 v3 : Value} {x y : Int32} : pz_R dA d 75 9 [v0, v1, v2, v3] (.int y :: .int x :: st) f Q = pz_R dA d 75 10 [v0, v1, v2, v3] (.int (x + y) :: st) f Q := pz_go (pz_so d75_9 rfl)
theorem d75_10 : decode (pz_b 75) 10 = .ok (.istore_n 3, 1) := by decide +kernel
theorem q75_10 {dA : Nat → ClassId} {d : Nat} {st : List Value} {f : pz_F} {Q : Option Value → pz_F → Prop} {v0 v1 v2 v3 : Value} {x : Int32} : pz_R dA d 75 10 [v0, v1, v2, v3] (.int x :: st) f Q = pz_R dA d 75 11 [v0, v1, v2, .int x] st f Q := pz_go (pz_so d75_10 rfl)
theorem d75_11 : decode (pz_b 75) 11 = .ok (.iload_n 3, 1) := by decide +kernel
theorem q75_11 {dA : Nat → ClassId} {d : Nat} {st : List Value} {f : pz_F} {Q : Option Value → pz_F → Prop} {v0 v1 v2 : Value} {x : Int32} : pz_R dA d 75 11 [v0, v1, v2, .int x] st f Q = pz_R dA d 75 12 [v0, v1, v2, .int x] (.int x :: st) f Q := pz_go (pz_so d75_11 rfl)
theorem d75_12 : decode (pz_b 75) 12 = .ok (.aload_n 0, 1) := by decide +kernel
theorem q75_12 {dA : Nat → ClassId} {d : Nat} {st : List Value} {f : pz_F} {Q : Option Value → pz_F → Prop} {v1 v2 v3 : Value} {x : Nat} : pz_R dA d 75 12 [.ref x, v1, v2, v3] st f Q = pz_R dA d 75 13 [.ref x, v1, v2, v3] (.ref x :: st) f Q := pz_go (pz_so d75_12 rfl)
theorem d75_13 : decode (pz_b 75) 13 = .ok (.getfield 22, 3) := by decide +kernel
theorem q75_13 {dA : Nat → ClassId} {d : Nat} {st : List Value} {f : pz_F} {Q : Option Value → pz_F → Prop} {v0 v1 v2 v3 : Value} {a : Nat} : pz_R dA d 75 13 [v0, v1, v2, v3] (.ref a :: st) f Q = pz_o (pz_gf f a 4 1) (fun v => pz_R dA d 75 16 [v0, v1, v2, v3] (v :: st) f Q) := pz_gg d75_13 rfl
theorem d75_16 : decode (pz_b 75) 16 = .ok (.if_icmp .ge 23, 3) := by decide +kernel
theorem q75_16 {dA : Nat → ClassId} {d : Nat} {st : List Value} {f : pz_F} {Q : Option Value → pz_F → Prop} {v0 v1 v2 v3 : Value} {x y : Int32} : pz_R dA d 75 16 [v0, v1, v2, v3] (.int y :: .int x :: st) f Q = (if y ≤ x then pz_R dA d 75 39 [v0, v1, v2, v3] st f Q else pz_R dA d 75 19 [v0, v1, v2, v3] st f Q) := pz_gjn .ge d75_16 rfl
theorem d75_19 : decode (pz_b 75) 19 = .ok (.aload_n 0, 1) := by decide +kernel
theorem q75_19 {dA : Nat → ClassId} {d : Nat} {st : List Value} {f : pz_F} {Q : Option Value → pz_F → Prop} {v1 v2 v3 : Value} {x : Nat} : pz_R dA d 75 19 [.ref x, v1, v2, v3] st f Q = pz_R dA d 75 20 [.ref x, v1, v2, v3] (.ref x :: st) f Q := pz_go (pz_so d75_19 rfl)
theorem d75_20 : decode (pz_b 75) 20 = .ok (.getfield 11, 3) := by decide +kernel
theorem q75_20 {dA : Nat → ClassId} {d : Nat} {st : List Value} {f : pz_F} {Q : Option Value → pz_F → Prop} {v0 v1 v2 v3 : Value} {a : Nat} : pz_R dA d 75 20 [v0, v1, v2, v3] (.ref a :: st) f Q = pz_o (pz_gf f a 4 0) (fun v => pz_R dA d 75 23 [v0, v1, v2, v3] (v :: st) f Q) := pz_gg d75_20 rfl
theorem d75_23 : decode (pz_b 75) 23 = .ok (.iload_n 3, 1) := by decide +kernel
theorem q75_23 {dA : Nat → ClassId} {d : Nat} {st : List Value} {f : pz_F} {Q : Option Value → pz_F → Prop} {v0 v1 v2 : Value} {x : Int32} : pz_R dA d 75 23 [v0, v1, v2, .int x] st f Q = pz_R dA d 75 24 [v0, v1, v2, .int x] (.int x :: st) f Q := pz_go (pz_so d75_23 rfl)
theorem d75_24 : decode (pz_b 75) 24 = .ok (.iconst 1, 1) := by decide +kernel
theorem q75_24 {dA : Nat → ClassId} {d : Nat} {st : List Value} {f : pz_F} {Q : Option Value → pz_F → Prop} {v0 v1 v2 v3 : Value} : pz_R dA d 75 24 [v0, v1, v2, v3] st f Q = pz_R dA d 75 25 [v0, v1, v2, v3] (.int 1 :: st) f Q := pz_go (pz_so d75_24 rfl)
theorem d75_25 : decode (pz_b 75) 25 = .ok (.isub, 1) := by decide +kernel
theorem q75_25 {dA : Nat → ClassId} {d : Nat} {st : List Value} {f : pz_F} {Q : Option Value → pz_F → Prop} {v0 v1 v2 v3 : Value} {x y : Int32} : pz_R dA d 75 25 [v0, v1, v2, v3] (.int y :: .int x :: st) f Q = pz_R dA d 75 26 [v0, v1, v2, v3] (.int (x - y) :: st) f Q := pz_go (pz_so d75_25 rfl)
theorem d75_26 : decode (pz_b 75) 26 = .ok (.aload_n 0, 1) := by decide +kernel
theorem q75_26 {dA : Nat → ClassId} {d : Nat} {st : List Value} {f : pz_F} {Q : Option Value → pz_F → Prop} {v1 v2 v3 : Value} {x : Nat} : pz_R dA d 75 26 [.ref x, v1, v2, v3] st f Q = pz_R dA d 75 27 [.ref x, v1, v2, v3] (.ref x :: st) f Q := pz_go (pz_so d75_26 rfl)
theorem d75_27 : decode (pz_b 75) 27 = .ok (.getfield 11, 3) := by decide +kernel
theorem q75_27 {dA : Nat → ClassId} {d : Nat} {st : List Value} {f : pz_F} {Q : Option Value → pz_F → Prop} {v0 v1 v2 v3 : Value} {a : Nat} : pz_R dA d 75 27 [v0, v1, v2, v3] (.ref a :: st) f Q = pz_o (pz_gf f a 4 0) (fun v => pz_R dA d 75 30 [v0, v1, v2, v3] (v :: st) f Q) := pz_gg d75_27 rfl
theorem d75_30 : decode (pz_b 75) 30 = .ok (.iload_n 3, 1) := by decide +kernel
theorem q75_30 {dA : Nat → ClassId} {d : Nat} {st : List Value} {f : pz_F} {Q : Option Value → pz_F → Prop} {v0 v1 v2 : Value} {x : Int32} : pz_R dA d 75 30 [v0, v1, v2, .int x] st f Q = pz_R dA d 75 31 [v0, v1, v2, .int x] (.int x :: st) f Q := pz_go (pz_so d75_30 rfl)
theorem d75_31 : decode (pz_b 75) 31 = .ok (.aaload, 1) := by decide +kernel
theorem q75_31 {dA : Nat → ClassId} {d : Nat} {st : List Value} {f : pz_F} {Q : Option Value → pz_F → Prop} {v0 v1 v2 v3 : Value} {i : Int32} {a : Nat} : pz_R dA d 75 31 [v0, v1, v2, v3] (.int i :: .ref a :: st) f Q = pz_o (pz_rl dA f a i) (fun v => pz_R dA d 75 32 [v0, v1, v2, v3] (v :: st) f Q) := pz_grl d75_31
theorem d75_32 : decode (pz_b 75) 32 = .ok (.aastore, 1) := by decide +kernel
theorem q75_32 {dA : Nat → ClassId} {d : Nat} {st : List Value} {f : pz_F} {Q : Option Value → pz_F → Prop} {v0 v1 v2 v3 : Value} {i : Int32} {q a : Nat} : pz_R dA d 75 32 [v0, v1, v2, v3] (.ref q :: .int i :: .ref a :: st) f Q = pz_o (pz_rs dA f a i q) (fun f' => pz_R dA d 75 33 [v0, v1, v2, v3] st f' Q) := pz_grs d75_32
theorem d75_33 : decode (pz_b 75) 33 = .ok (.iinc 3 1, 3) := by decide +kernel
theorem q75_33 {dA : Nat → ClassId} {d : Nat} {st : List Value} {f : pz_F} {Q : Option Value → pz_F → Prop} {v0 v1 v2 : Value} {x : Int32} : pz_R dA d 75 33 [v0, v1, v2, .int x] st f Q = pz_R dA d 75 36 [v0, v1, v2, .int (x + 1)] st f Q := pz_go (pz_so d75_33 rfl)
theorem d75_36 : decode (pz_b 75) 36 = .ok (.goto (-25), 3) := by decide +kernel
theorem q75_36 {dA : Nat → ClassId} {d : Nat} {st : List Value} {f : pz_F} {Q : Option Value → pz_F → Prop} {v0 v1 v2 v3 : Value} : pz_R dA d 75 36 [v0, v1, v2, v3] st f Q = pz_R dA d 75 11 [v0, v1, v2, v3] st f Q := pz_go (pz_so d75_36 rfl)
theorem d75_39 : decode (pz_b 75) 39 = .ok (.aload_n 0, 1) := by decide +kernel
theorem q75_39 {dA : Nat → ClassId} {d : Nat} {st : List Value} {f : pz_F} {Q : Option Value → pz_F → Prop} {v1 v2 v3 : Value} {x : Nat} : pz_R dA d 75 39 [.ref x, v1, v2, v3] st f Q = pz_R dA d 75 40 [.ref x, v1, v2, v3] (.ref x :: st) f Q := pz_go (pz_so d75_39 rfl)
theorem d75_40 : decode (pz_b 75) 40 = .ok (.dup, 1) := by decide +kernel
theorem q75_40 {dA : Nat → ClassId} {d : Nat} {st : List Value} {f : pz_F} {Q : Option Value → pz_F → Prop} {v0 v1 v2 v3 : Value} {x : Nat} : pz_R dA d 75 40 [v0, v1, v2, v3] (.ref x :: st) f Q = pz_R dA d 75 41 [v0, v1, v2, v3] (.ref x :: .ref x :: st) f Q := pz_go (pz_so d75_40 rfl)
theorem d75_41 : decode (pz_b 75) 41 = .ok (.getfield 22, 3) := by decide +kernel
theorem q75_41 {dA : Nat → ClassId} {d : Nat} {st : List Value} {f : pz_F} {Q : Option Value → pz_F → Prop} {v0 v1 v2 v3 : Value} {a : Nat} : pz_R dA d 75 41 [v0, v1, v2, v3] (.ref a :: st) f Q = pz_o (pz_gf f a 4 1) (fun v => pz_R dA d 75 44 [v0, v1, v2, v3] (v :: st) f Q) := pz_gg d75_41 rfl
theorem d75_44 : decode (pz_b 75) 44 = .ok (.iconst 1, 1) := by decide +kernel
theorem q75_44 {dA : Nat → ClassId} {d : Nat} {st : List Value} {f : pz_F} {Q : Option Value → pz_F → Prop} {v0 v1 v2 v3 : Value} : pz_R dA d 75 44 [v0, v1, v2, v3] st f Q = pz_R dA d 75 45 [v0, v1, v2, v3] (.int 1 :: st) f Q := pz_go (pz_so d75_44 rfl)
theorem d75_45 : decode (pz_b 75) 45 = .ok (.isub, 1) := by decide +kernel
theorem q75_45 {dA : Nat → ClassId} {d : Nat} {st : List Value} {f : pz_F} {Q : Option Value → pz_F → Prop} {v0 v1 v2 v3 : Value} {x y : Int32} : pz_R dA d 75 45 [v0, v1, v2, v3] (.int y :: .int x :: st) f Q = pz_R dA d 75 46 [v0, v1, v2, v3] (.int (x - y) :: st) f Q := pz_go (pz_so d75_45 rfl)
theorem d75_46 : decode (pz_b 75) 46 = .ok (.putfield 22, 3) := by decide +kernel
theorem q75_46 {dA : Nat → ClassId} {d : Nat} {st : List Value} {f : pz_F} {Q : Option Value → pz_F → Prop} {v0 v1 v2 v3 : Value} {x : Int32} {a : Nat} : pz_R dA d 75 46 [v0, v1, v2, v3] (.int x :: .ref a :: st) f Q = pz_o (pz_pf f a 4 1 (.int x)) (fun f' => pz_R dA d 75 49 [v0, v1, v2, v3] st f' Q) := pz_gp d75_46 rfl rfl rfl rfl
theorem d75_49 : decode (pz_b 75) 49 = .ok (.aload_n 0, 1) := by decide +kernel
theorem q75_49 {dA : Nat → ClassId} {d : Nat} {st : List Value} {f : pz_F} {Q : Option Value → pz_F → Prop} {v1 v2 v3 : Value} {x : Nat} : pz_R dA d 75 49 [.ref x, v1, v2, v3] st f Q = pz_R dA d 75 50 [.ref x, v1, v2, v3] (.ref x :: st) f Q := pz_go (pz_so d75_49 rfl)
theorem d75_50 : decode (pz_b 75) 50 = .ok (.getfield 11, 3) := by decide +kernel
theorem q75_50 {dA : Nat → ClassId} {d : Nat} {st : List Value} {f : pz_F} {Q : Option Value → pz_F → Prop} {v0 v1 v2 v3 : Value} {a : Nat} : pz_R dA d 75 50 [v0, v1, v2, v3] (.ref a :: st) f Q = pz_o (pz_gf f a 4 0) (fun v => pz_R dA d 75 53 [v0, v1, v2, v3] (v :: st) f Q) := pz_gg d75_50 rfl
theorem d75_53 : decode (pz_b 75) 53 = .ok (.aload_n 0, 1) := by decide +kernel
theorem q75_53 {dA : Nat → ClassId} {d : Nat} {st : List Value} {f : pz_F} {Q : Option Value → pz_F → Prop} {v1 v2 v3 : Value} {x : Nat} : pz_R dA d 75 53 [.ref x, v1, v2, v3] st f Q = pz_R dA d 75 54 [.ref x, v1, v2, v3] (.ref x :: st) f Q := pz_go (pz_so d75_53 rfl)
theorem d75_54 : decode (pz_b 75) 54 = .ok (.getfield 22, 3) := by decide +kernel
theorem q75_54 {dA : Nat → ClassId} {d : Nat} {st : List Value} {f : pz_F} {Q : Option Value → pz_F → Prop} {v0 v1 v2 v3 : Value} {a : Nat} : pz_R dA d 75 54 [v0, v1, v2, v3] (.ref a :: st) f Q = pz_o (pz_gf f a 4 1) (fun v => pz_R dA d 75 57 [v0, v1, v2, v3] (v :: st) f Q) := pz_gg d75_54 rfl
theorem d75_57 : decode (pz_b 75) 57 = .ok (.aload_n 0, 1) := by decide +kernel
theorem q75_57 {dA : Nat → ClassId} {d : Nat} {st : List Value} {f : pz_F} {Q : Option Value → pz_F → Prop} {v1 v2 v3 : Value} {x : Nat} : pz_R dA d 75 57 [.ref x, v1, v2, v3] st f Q = pz_R dA d 75 58 [.ref x, v1, v2, v3] (.ref x :: st) f Q := pz_go (pz_so d75_57 rfl)
theorem d75_58 : decode (pz_b 75) 58 = .ok (.getfield 18, 3) := by decide +kernel
theorem q75_58 {dA : Nat → ClassId} {d : Nat} {st : List Value} {f : pz_F} {Q : Option Value → pz_F → Prop} {v0 v1 v2 v3 : Value} {a : Nat} : pz_R dA d 75 58 [v0, v1, v2, v3] (.ref a :: st) f Q = pz_o (pz_gf f a 4 2) (fun v => pz_R dA d 75 61 [v0, v1, v2, v3] (v :: st) f Q) := pz_gg d75_58 rfl
theorem d75_61 : decode (pz_b 75) 61 = .ok (.aastore, 1) := by decide +kernel
theorem q75_61 {dA : Nat → ClassId} {d : Nat} {st : List Value} {f : pz_F} {Q : Option Value → pz_F → Prop} {v0 v1 v2 v3 : Value} {i : Int32} {q a : Nat} : pz_R dA d 75 61 [v0, v1, v2, v3] (.ref q :: .int i :: .ref a :: st) f Q = pz_o (pz_rs dA f a i q) (fun f' => pz_R dA d 75 62 [v0, v1, v2, v3] st f' Q) := pz_grs d75_61
theorem d75_62 : decode (pz_b 75) 62 = .ok (.aload_n 0, 1) := by decide +kernel
theorem q75_62 {dA : Nat → ClassId} {d : Nat} {st : List Value} {f : pz_F} {Q : Option Value → pz_F → Prop} {v1 v2 v3 : Value} {x : Nat} : pz_R dA d 75 62 [.ref x, v1, v2, v3] st f Q = pz_R dA d 75 63 [.ref x, v1, v2, v3] (.ref x :: st) f Q := pz_go (pz_so d75_62 rfl)
theorem d75_63 : decode (pz_b 75) 63 = .ok (.aload_n 2, 1) := by decide +kernel
theorem q75_63 {dA : Nat → ClassId} {d : Nat} {st : List Value} {f : pz_F} {Q : Option Value → pz_F → Prop} {v0 v1 v3 : Value} {x : Nat} : pz_R dA d 75 63 [v0, v1, .ref x, v3] st f Q = pz_R dA d 75 64 [v0, v1, .ref x, v3] (.ref x :: st) f Q := pz_go (pz_so d75_63 rfl)
theorem q75_63n {dA : Nat → ClassId} {d : Nat} {st : List Value} {f : pz_F} {Q : Option Value → pz_F → Prop} {v0 v1 v3 : Value} : pz_R dA d 75 63 [v0, v1, .null, v3] st f Q = pz_R dA d 75 64 [v0, v1, .null, v3] (.null :: st) f Q := pz_go (pz_so d75_63 rfl)
theorem d75_64 : decode (pz_b 75) 64 = .ok (.putfield 18, 3) := by decide +kernel
theorem q75_64 {dA : Nat → ClassId} {d : Nat} {st : List Value} {f : pz_F} {Q : Option Value → pz_F → Prop} {v0 v1 v2 v3 : Value} {x : Nat} {a : Nat} : pz_R dA d 75 64 [v0, v1, v2, v3] (.ref x :: .ref a :: st) f Q = pz_o (pz_pf f a 4 2 (.ref x)) (fun f' => pz_R dA d 75 67 [v0, v1, v2, v3] st f' Q) := pz_gp d75_64 rfl rfl rfl rfl
theorem d75_67 : decode (pz_b 75) 67 = .ok (.aload_n 2, 1) := by decide +kernel
theorem q75_67 {dA : Nat → ClassId} {d : Nat} {st : List Value} {f : pz_F} {Q : Option Value → pz_F → Prop} {v0 v1 v3 : Value} {x : Nat} : pz_R dA d 75 67 [v0, v1, .ref x, v3] st f Q = pz_R dA d 75 68 [v0, v1, .ref x, v3] (.ref x :: st) f Q := pz_go (pz_so d75_67 rfl)
theorem q75_67n {dA : Nat → ClassId} {d : Nat} {st : List Value} {f : pz_F} {Q : Option Value → pz_F → Prop} {v0 v1 v3 : Value} : pz_R dA d 75 67 [v0, v1, .null, v3] st f Q = pz_R dA d 75 68 [v0, v1, .null, v3] (.null :: st) f Q := pz_go (pz_so d75_67 rfl)
theorem d75_68 : decode (pz_b 75) 68 = .ok (.areturn, 1) := by decide +kernel
theorem q75_68 {dA : Nat → ClassId} {d : Nat} {f : pz_F} {Q : Option Value → pz_F → Prop} {v0 v1 v2 v3 : Value} {x : Nat} : pz_R dA d 75 68 [v0, v1, v2, v3] [.ref x] f Q = Q (some (.ref x)) f := pz_gr (pz_so d75_68 rfl)
theorem q75_68n {dA : Nat → ClassId} {d : Nat} {f : pz_F} {Q : Option Value → pz_F → Prop} {v0 v1 v2 v3 : Value} : pz_R dA d 75 68 [v0, v1, v2, v3] [.null] f Q = Q (some .null) f := pz_gr (pz_so d75_68 rfl)
/-! L_removeSentBefore (I)V -/
theorem e76 {dA : Nat → ClassId} {d : Nat} {f : pz_F} {Q : Option Value → pz_F → Prop} {a0 : Nat} {a1 : Int32} : pz_C dA d 76 [.ref a0, .int a1] f Q = pz_R dA d 76 0 [.ref a0, .int a1, .retAddr 0] [] f Q := rfl
theorem d76_0 : decode (pz_b 76) 0 = .ok (.iconst 0, 1) := by decide +kernel
theorem q76_0 {dA : Nat → ClassId} {d : Nat} {st : List Value} {f : pz_F} {Q : Option Value → pz_F → Prop} {v0 v1 v2 : Value} : pz_R dA d 76 0 [v0, v1, v2] st f Q = pz_R dA d 76 1 [v0, v1, v2] (.int 0 :: st) f Q := pz_go (pz_so d76_0 rfl)
theorem d76_1 : decode (pz_b 76) 1 = .ok (.istore_n 2, 1) := by decide +kernel
theorem q76_1 {dA : Nat → ClassId} {d : Nat} {st : List Value} {f : pz_F} {Q : Option Value → pz_F → Prop} {v0 v1 v2 : Value} {x : Int32} : pz_R dA d 76 1 [v0, v1, v2] (.int x :: st) f Q = pz_R dA d 76 2 [v0, v1, .int x] st f Q := pz_go (pz_so d76_1 rfl)
theorem d76_2 : decode (pz_b 76) 2 = .ok (.iload_n 2, 1) := by decide +kernel
theorem q76_2 {dA : Nat → ClassId} {d : Nat} {st : List Value} {f : pz_F} {Q : Option Value → pz_F → Prop} {v0 v1 : Value} {x : Int32} : pz_R dA d 76 2 [v0, v1, .int x] st f Q = pz_R dA d 76 3 [v0, v1, .int x] (.int x :: st) f Q := pz_go (pz_so d76_2 rfl)
theorem d76_3 : decode (pz_b 76) 3 = .ok (.aload_n 0, 1) := by decide +kernel
theorem q76_3 {dA : Nat → ClassId} {d : Nat} {st : List Value} {f : pz_F} {Q : Option Value → pz_F → Prop} {v1 v2 : Value} {x : Nat} : pz_R dA d 76 3 [.ref x, v1, v2] st f Q = pz_R dA d 76 4 [.ref x, v1, v2] (.ref x :: st) f Q := pz_go (pz_so d76_3 rfl)
theorem d76_4 : decode (pz_b 76) 4 = .ok (.getfield 22, 3) := by decide +kernel
theorem q76_4 {dA : Nat → ClassId} {d : Nat} {st : List Value} {f : pz_F} {Q : Option Value → pz_F → Prop} {v0 v1 v2 : Value} {a : Nat} : pz_R dA d 76 4 [v0, v1, v2] (.ref a :: st) f Q = pz_o (pz_gf f a 4 1) (fun v => pz_R dA d 76 7 [v0, v1, v2] (v :: st) f Q) := pz_gg d76_4 rfl
theorem d76_7 : decode (pz_b 76) 7 = .ok (.if_icmp .ge 36, 3) := by decide +kernel
theorem q76_7 {dA : Nat → ClassId} {d : Nat} {st : List Value} {f : pz_F} {Q : Option Value → pz_F → Prop} {v0 v1 v2 : Value} {x y : Int32} : pz_R dA d 76 7 [v0, v1, v2] (.int y :: .int x :: st) f Q = (if y ≤ x then pz_R dA d 76 43 [v0, v1, v2] st f Q else pz_R dA d 76 10 [v0, v1, v2] st f Q) := pz_gjn .ge d76_7 rfl
theorem d76_10 : decode (pz_b 76) 10 = .ok (.aload_n 0, 1) := by decide +kernel
theorem q76_10 {dA : Nat → ClassId} {d : Nat} {st : List Value} {f : pz_F} {Q : Option Value → pz_F → Prop} {v1 v2 : Value} {x : Nat} : pz_R dA d 76 10 [.ref x, v1, v2] st f Q = pz_R dA d 76 11 [.ref x, v1, v2] (.ref x :: st) f Q := pz_go (pz_so d76_10 rfl)
theorem d76_11 : decode (pz_b 76) 11 = .ok (.getfield 11, 3) := by decide +kernel
theorem q76_11 {dA : Nat → ClassId} {d : Nat} {st : List Value} {f : pz_F} {Q : Option Value → pz_F → Prop} {v0 v1 v2 : Value} {a : Nat} : pz_R dA d 76 11 [v0, v1, v2] (.ref a :: st) f Q = pz_o (pz_gf f a 4 0) (fun v => pz_R dA d 76 14 [v0, v1, v2] (v :: st) f Q) := pz_gg d76_11 rfl
theorem d76_14 : decode (pz_b 76) 14 = .ok (.iload_n 2, 1) := by decide +kernel
theorem q76_14 {dA : Nat → ClassId} {d : Nat} {st : List Value} {f : pz_F} {Q : Option Value → pz_F → Prop} {v0 v1 : Value} {x : Int32} : pz_R dA d 76 14 [v0, v1, .int x] st f Q = pz_R dA d 76 15 [v0, v1, .int x] (.int x :: st) f Q := pz_go (pz_so d76_14 rfl)
theorem d76_15 : decode (pz_b 76) 15 = .ok (.aaload, 1) := by decide +kernel
theorem q76_15 {dA : Nat → ClassId} {d : Nat} {st : List Value} {f : pz_F} {Q : Option Value → pz_F → Prop} {v0 v1 v2 : Value} {i : Int32} {a : Nat} : pz_R dA d 76 15 [v0, v1, v2] (.int i :: .ref a :: st) f Q = pz_o (pz_rl dA f a i) (fun v => pz_R dA d 76 16 [v0, v1, v2] (v :: st) f Q) := pz_grl d76_15
theorem d76_16 : decode (pz_b 76) 16 = .ok (.aload_n 0, 1) := by decide +kernel
theorem q76_16 {dA : Nat → ClassId} {d : Nat} {st : List Value} {f : pz_F} {Q : Option Value → pz_F → Prop} {v1 v2 : Value} {x : Nat} : pz_R dA d 76 16 [.ref x, v1, v2] st f Q = pz_R dA d 76 17 [.ref x, v1, v2] (.ref x :: st) f Q := pz_go (pz_so d76_16 rfl)
theorem d76_17 : decode (pz_b 76) 17 = .ok (.getfield 11, 3) := by decide +kernel
theorem q76_17 {dA : Nat → ClassId} {d : Nat} {st : List Value} {f : pz_F} {Q : Option Value → pz_F → Prop} {v0 v1 v2 : Value} {a : Nat} : pz_R dA d 76 17 [v0, v1, v2] (.ref a :: st) f Q = pz_o (pz_gf f a 4 0) (fun v => pz_R dA d 76 20 [v0, v1, v2] (v :: st) f Q) := pz_gg d76_17 rfl
theorem d76_20 : decode (pz_b 76) 20 = .ok (.iload_n 2, 1) := by decide +kernel
theorem q76_20 {dA : Nat → ClassId} {d : Nat} {st : List Value} {f : pz_F} {Q : Option Value → pz_F → Prop} {v0 v1 : Value} {x : Int32} : pz_R dA d 76 20 [v0, v1, .int x] st f Q = pz_R dA d 76 21 [v0, v1, .int x] (.int x :: st) f Q := pz_go (pz_so d76_20 rfl)
theorem d76_21 : decode (pz_b 76) 21 = .ok (.aaload, 1) := by decide +kernel
theorem q76_21 {dA : Nat → ClassId} {d : Nat} {st : List Value} {f : pz_F} {Q : Option Value → pz_F → Prop} {v0 v1 v2 : Value} {i : Int32} {a : Nat} : pz_R dA d 76 21 [v0, v1, v2] (.int i :: .ref a :: st) f Q = pz_o (pz_rl dA f a i) (fun v => pz_R dA d 76 22 [v0, v1, v2] (v :: st) f Q) := pz_grl d76_21
theorem d76_22 : decode (pz_b 76) 22 = .ok (.getfield 35, 3) := by decide +kernel
theorem q76_22 {dA : Nat → ClassId} {d : Nat} {st : List Value} {f : pz_F} {Q : Option Value → pz_F → Prop} {v0 v1 v2 : Value} {a : Nat} : pz_R dA d 76 22 [v0, v1, v2] (.ref a :: st) f Q = pz_o (pz_gf f a 5 3) (fun v => pz_R dA d 76 25 [v0, v1, v2] (v :: st) f Q) := pz_gg d76_22 rfl
theorem d76_25 : decode (pz_b 76) 25 = .ok (.iload_n 1, 1) := by decide +kernel
theorem q76_25 {dA : Nat → ClassId} {d : Nat} {st : List Value} {f : pz_F} {Q : Option Value → pz_F → Prop} {v0 v2 : Value} {x : Int32} : pz_R dA d 76 25 [v0, .int x, v2] st f Q = pz_R dA d 76 26 [v0, .int x, v2] (.int x :: st) f Q := pz_go (pz_so d76_25 rfl)
theorem d76_26 : decode (pz_b 76) 26 = .ok (.if_icmp .ge 7, 3) := by decide +kernel
theorem q76_26 {dA : Nat → ClassId} {d : Nat} {st : List Value} {f : pz_F} {Q : Option Value → pz_F → Prop} {v0 v1 v2 : Value} {x y : Int32} : pz_R dA d 76 26 [v0, v1, v2] (.int y :: .int x :: st) f Q = (if y ≤ x then pz_R dA d 76 33 [v0, v1, v2] st f Q else pz_R dA d 76 29 [v0, v1, v2] st f Q) := pz_gjn .ge d76_26 rfl
theorem d76_29 : decode (pz_b 76) 29 = .ok (.iconst 1, 1) := by decide +kernel
theorem q76_29 {dA : Nat → ClassId} {d : Nat} {st : List Value} {f : pz_F} {Q : Option Value → pz_F → Prop} {v0 v1 v2 : Value} : pz_R dA d 76 29 [v0, v1, v2] st f Q = pz_R dA d 76 30 [v0, v1, v2] (.int 1 :: st) f Q := pz_go (pz_so d76_29 rfl)
theorem d76_30 : decode (pz_b 76) 30 = .ok (.goto 4, 3) := by decide +kernel
theorem q76_30 {dA : Nat → ClassId} {d : Nat} {st : List Value} {f : pz_F} {Q : Option Value → pz_F → Prop} {v0 v1 v2 : Value} : pz_R dA d 76 30 [v0, v1, v2] st f Q = pz_R dA d 76 34 [v0, v1, v2] st f Q := pz_go (pz_so d76_30 rfl)
theorem d76_33 : decode (pz_b 76) 33 = .ok (.iconst 0, 1) := by decide +kernel
theorem q76_33 {dA : Nat → ClassId} {d : Nat} {st : List Value} {f : pz_F} {Q : Option Value → pz_F → Prop} {v0 v1 v2 : Value} : pz_R dA d 76 33 [v0, v1, v2] st f Q = pz_R dA d 76 34 [v0, v1, v2] (.int 0 :: st) f Q := pz_go (pz_so d76_33 rfl)
theorem d76_34 : decode (pz_b 76) 34 = .ok (.putfield 38, 3) := by decide +kernel
theorem q76_34z {dA : Nat → ClassId} {d : Nat} {st : List Value} {f : pz_F} {Q : Option Value → pz_F → Prop} {v0 v1 v2 : Value} {a : Nat} : pz_R dA d 76 34 [v0, v1, v2] (.int 0 :: .ref a :: st) f Q = pz_o (pz_pf f a 5 14 (.int 0)) (fun f' => pz_R dA d 76 37 [v0, v1, v2] st f' Q) := pz_gp d76_34 rfl rfl rfl rfl
theorem q76_34o {dA : Nat → ClassId} {d : Nat} {st : List Value} {f : pz_F} {Q : Option Value → pz_F → Prop} {v0 v1 v2 : Value} {a : Nat} : pz_R dA d 76 34 [v0, v1, v2] (.int 1 :: .ref a :: st) f Q = pz_o (pz_pf f a 5 14 (.int 1)) (fun f' => pz_R dA d 76 37 [v0, v1, v2] st f' Q) := pz_gp d76_34 rfl rfl rfl rfl
theorem d76_37 : decode (pz_b 76) 37 = .ok (.iinc 2 1, 3) := by decide +kernel
theorem q76_37 {dA : Nat → ClassId} {d : Nat} {st : List Value} {f : pz_F} {Q : Option Value → pz_F → Prop} {v0 v1 : Value} {x : Int32} : pz_R dA d 76 37 [v0, v1, .int x] st f Q = pz_R dA d 76 40 [v0, v1, .int (x + 1)] st f Q := pz_go (pz_so d76_37 rfl)
theorem d76_40 : decode (pz_b 76) 40 = .ok (.goto (-38), 3) := by decide +kernel
theorem q76_40 {dA : Nat → ClassId} {d : Nat} {st : List Value} {f : pz_F} {Q : Option Value → pz_F → Prop} {v0 v1 v2 : Value} : pz_R dA d 76 40 [v0, v1, v2] st f Q = pz_R dA d 76 2 [v0, v1, v2] st f Q := pz_go (pz_so d76_40 rfl)
theorem d76_43 : decode (pz_b 76) 43 = .ok (.aload_n 0, 1) := by decide +kernel
theorem q76_43 {dA : Nat → ClassId} {d : Nat} {st : List Value} {f : pz_F} {Q : Option Value → pz_F → Prop} {v1 v2 : Value} {x : Nat} : pz_R dA d 76 43 [.ref x, v1, v2] st f Q = pz_R dA d 76 44 [.ref x, v1, v2] (.ref x :: st) f Q := pz_go (pz_so d76_43 rfl)
theorem d76_44 : decode (pz_b 76) 44 = .ok (.invokevirtual 42, 3) := by decide +kernel
theorem q76_44 {dA : Nat → ClassId} {d : Nat} {st : List Value} {f : pz_F} {Q : Option Value → pz_F → Prop} {v0 v1 v2 : Value} {b : Nat} (hr : st.length ≤ 4) : pz_R dA (d + 1) 76 44 [v0, v1, v2] (.ref b :: st) f Q = pz_o (pz_gu f b 4) (fun _ => pz_C dA d 78 [.ref b] f (fun r f' => pz_R dA (d + 1) 76 47 [v0, v1, v2] (r.toList ++ st) f' Q)) := pz_gcv (As := []) d76_44 rfl rfl rfl hr
theorem d76_47 : decode (pz_b 76) 47 = .ok (.return_, 1) := by decide +kernel
theorem q76_47 {dA : Nat → ClassId} {d : Nat} {f : pz_F} {Q : Option Value → pz_F → Prop} {v0 v1 v2 : Value} : pz_R dA d 76 47 [v0, v1, v2] [] f Q = Q none f := pz_gr (pz_so d76_47 rfl)
/-! L_removeBetweenServers ()V -/
theorem e77 {dA : Nat → ClassId} {d : Nat} {f : pz_F} {Q : Option Value → pz_F → Prop} {a0 : Nat} : pz_C dA d 77 [.ref a0] f Q = pz_R dA d 77 0 [.ref a0, .retAddr 0] [] f Q := rfl
theorem d77_0 : decode (pz_b 77) 0 = .ok (.iconst 0, 1) := by decide +kernel
theorem q77_0 {dA : Nat → ClassId} {d : Nat} {st : List Value} {f : pz_F} {Q : Option Value → pz_F → Prop} {v0 v1 : Value} : pz_R dA d 77 0 [v0, v1] st f Q = pz_R dA d 77 1 [v0, v1] (.int 0 :: st) f Q := pz_go (pz_so d77_0 rfl)
theorem d77_1 : decode (pz_b 77) 1 = .ok (.istore_n 1, 1) := by decide +kernel
theorem q77_1 {dA : Nat → ClassId} {d : Nat} {st : List Value} {f : pz_F} {Q : Option Value → pz_F → Prop} {v0 v1 : Value} {x : Int32} : pz_R dA d 77 1 [v0, v1] (.int x :: st) f Q = pz_R dA d 77 2 [v0, .int x] st f Q := pz_go (pz_so d77_1 rfl)
theorem d77_2 : decode (pz_b 77) 2 = .ok (.iload_n 1, 1) := by decide +kernel
theorem q77_2 {dA : Nat → ClassId} {d : Nat} {st : List Value} {f : pz_F} {Q : Option Value → pz_F → Prop} {v0 : Value} {x : Int32} : pz_R dA d 77 2 [v0, .int x] st f Q = pz_R dA d 77 3 [v0, .int x] (.int x :: st) f Q := pz_go (pz_so d77_2 rfl)
theorem d77_3 : decode (pz_b 77) 3 = .ok (.aload_n 0, 1) := by decide +kernel
theorem q77_3 {dA : Nat → ClassId} {d : Nat} {st : List Value} {f : pz_F} {Q : Option Value → pz_F → Prop} {v1 : Value} {x : Nat} : pz_R dA d 77 3 [.ref x, v1] st f Q = pz_R dA d 77 4 [.ref x, v1] (.ref x :: st) f Q := pz_go (pz_so d77_3 rfl)
theorem d77_4 : decode (pz_b 77) 4 = .ok (.getfield 22, 3) := by decide +kernel
theorem q77_4 {dA : Nat → ClassId} {d : Nat} {st : List Value} {f : pz_F} {Q : Option Value → pz_F → Prop} {v0 v1 : Value} {a : Nat} : pz_R dA d 77 4 [v0, v1] (.ref a :: st) f Q = pz_o (pz_gf f a 4 1) (fun v => pz_R dA d 77 7 [v0, v1] (v :: st) f Q) := pz_gg d77_4 rfl
theorem d77_7 : decode (pz_b 77) 7 = .ok (.if_icmp .ge 27, 3) := by decide +kernel
theorem q77_7 {dA : Nat → ClassId} {d : Nat} {st : List Value} {f : pz_F} {Q : Option Value → pz_F → Prop} {v0 v1 : Value} {x y : Int32} : pz_R dA d 77 7 [v0, v1] (.int y :: .int x :: st) f Q = (if y ≤ x then pz_R dA d 77 34 [v0, v1] st f Q else pz_R dA d 77 10 [v0, v1] st f Q) := pz_gjn .ge d77_7 rfl
theorem d77_10 : decode (pz_b 77) 10 = .ok (.aload_n 0, 1) := by decide +kernel
theorem q77_10 {dA : Nat → ClassId} {d : Nat} {st : List Value} {f : pz_F} {Q : Option Value → pz_F → Prop} {v1 : Value} {x : Nat} : pz_R dA d 77 10 [.ref x, v1] st f Q = pz_R dA d 77 11 [.ref x, v1] (.ref x :: st) f Q := pz_go (pz_so d77_10 rfl)
theorem d77_11 : decode (pz_b 77) 11 = .ok (.getfield 11, 3) := by decide +kernel
theorem q77_11 {dA : Nat → ClassId} {d : Nat} {st : List Value} {f : pz_F} {Q : Option Value → pz_F → Prop} {v0 v1 : Value} {a : Nat} : pz_R dA d 77 11 [v0, v1] (.ref a :: st) f Q = pz_o (pz_gf f a 4 0) (fun v => pz_R dA d 77 14 [v0, v1] (v :: st) f Q) := pz_gg d77_11 rfl
theorem d77_14 : decode (pz_b 77) 14 = .ok (.iload_n 1, 1) := by decide +kernel
theorem q77_14 {dA : Nat → ClassId} {d : Nat} {st : List Value} {f : pz_F} {Q : Option Value → pz_F → Prop} {v0 : Value} {x : Int32} : pz_R dA d 77 14 [v0, .int x] st f Q = pz_R dA d 77 15 [v0, .int x] (.int x :: st) f Q := pz_go (pz_so d77_14 rfl)
theorem d77_15 : decode (pz_b 77) 15 = .ok (.aaload, 1) := by decide +kernel
theorem q77_15 {dA : Nat → ClassId} {d : Nat} {st : List Value} {f : pz_F} {Q : Option Value → pz_F → Prop} {v0 v1 : Value} {i : Int32} {a : Nat} : pz_R dA d 77 15 [v0, v1] (.int i :: .ref a :: st) f Q = pz_o (pz_rl dA f a i) (fun v => pz_R dA d 77 16 [v0, v1] (v :: st) f Q) := pz_grl d77_15
theorem d77_16 : decode (pz_b 77) 16 = .ok (.aload_n 0, 1) := by decide +kernel
theorem q77_16 {dA : Nat → ClassId} {d : Nat} {st : List Value} {f : pz_F} {Q : Option Value → pz_F → Prop} {v1 : Value} {x : Nat} : pz_R dA d 77 16 [.ref x, v1] st f Q = pz_R dA d 77 17 [.ref x, v1] (.ref x :: st) f Q := pz_go (pz_so d77_16 rfl)
theorem d77_17 : decode (pz_b 77) 17 = .ok (.getfield 11, 3) := by decide +kernel
theorem q77_17 {dA : Nat → ClassId} {d : Nat} {st : List Value} {f : pz_F} {Q : Option Value → pz_F → Prop} {v0 v1 : Value} {a : Nat} : pz_R dA d 77 17 [v0, v1] (.ref a :: st) f Q = pz_o (pz_gf f a 4 0) (fun v => pz_R dA d 77 20 [v0, v1] (v :: st) f Q) := pz_gg d77_17 rfl
theorem d77_20 : decode (pz_b 77) 20 = .ok (.iload_n 1, 1) := by decide +kernel
theorem q77_20 {dA : Nat → ClassId} {d : Nat} {st : List Value} {f : pz_F} {Q : Option Value → pz_F → Prop} {v0 : Value} {x : Int32} : pz_R dA d 77 20 [v0, .int x] st f Q = pz_R dA d 77 21 [v0, .int x] (.int x :: st) f Q := pz_go (pz_so d77_20 rfl)
theorem d77_21 : decode (pz_b 77) 21 = .ok (.aaload, 1) := by decide +kernel
theorem q77_21 {dA : Nat → ClassId} {d : Nat} {st : List Value} {f : pz_F} {Q : Option Value → pz_F → Prop} {v0 v1 : Value} {i : Int32} {a : Nat} : pz_R dA d 77 21 [v0, v1] (.int i :: .ref a :: st) f Q = pz_o (pz_rl dA f a i) (fun v => pz_R dA d 77 22 [v0, v1] (v :: st) f Q) := pz_grl d77_21
theorem d77_22 : decode (pz_b 77) 22 = .ok (.invokevirtual 45, 3) := by decide +kernel
theorem q77_22 {dA : Nat → ClassId} {d : Nat} {st : List Value} {f : pz_F} {Q : Option Value → pz_F → Prop} {v0 v1 : Value} {b : Nat} (hr : st.length ≤ 4) : pz_R dA (d + 1) 77 22 [v0, v1] (.ref b :: st) f Q = pz_o (pz_gu f b 5) (fun _ => pz_C dA d 81 [.ref b] f (fun r f' => pz_R dA (d + 1) 77 25 [v0, v1] (r.toList ++ st) f' Q)) := pz_gcv (As := []) d77_22 rfl rfl rfl hr
theorem d77_25 : decode (pz_b 77) 25 = .ok (.putfield 38, 3) := by decide +kernel
theorem q77_25z {dA : Nat → ClassId} {d : Nat} {st : List Value} {f : pz_F} {Q : Option Value → pz_F → Prop} {v0 v1 : Value} {a : Nat} : pz_R dA d 77 25 [v0, v1] (.int 0 :: .ref a :: st) f Q = pz_o (pz_pf f a 5 14 (.int 0)) (fun f' => pz_R dA d 77 28 [v0, v1] st f' Q) := pz_gp d77_25 rfl rfl rfl rfl
theorem q77_25o {dA : Nat → ClassId} {d : Nat} {st : List Value} {f : pz_F} {Q : Option Value → pz_F → Prop} {v0 v1 : Value} {a : Nat} : pz_R dA d 77 25 [v0, v1] (.int 1 :: .ref a :: st) f Q = pz_o (pz_pf f a 5 14 (.int 1)) (fun f' => pz_R dA d 77 28 [v0, v1] st f' Q) := pz_gp d77_25 rfl rfl rfl rfl
theorem d77_28 : decode (pz_b 77) 28 = .ok (.iinc 1 1, 3) := by decide +kernel
theorem q77_28 {dA : Nat → ClassId} {d : Nat} {st : List Value} {f : pz_F} {Q : Option Value → pz_F → Prop} {v0 : Value} {x : Int32} : pz_R dA d 77 28 [v0, .int x] st f Q = pz_R dA d 77 31 [v0, .int (x + 1)] st f Q := pz_go (pz_so d77_28 rfl)
theorem d77_31 : decode (pz_b 77) 31 = .ok (.goto (-29), 3) := by decide +kernel
theorem q77_31 {dA : Nat → ClassId} {d : Nat} {st : List Value} {f : pz_F} {Q : Option Value → pz_F → Prop} {v0 v1 : Value} : pz_R dA d 77 31 [v0, v1] st f Q = pz_R dA d 77 2 [v0, v1] st f Q := pz_go (pz_so d77_31 rfl)
theorem d77_34 : decode (pz_b 77) 34 = .ok (.aload_n 0, 1) := by decide +kernel
theorem q77_34 {dA : Nat → ClassId} {d : Nat} {st : List Value} {f : pz_F} {Q : Option Value → pz_F → Prop} {v1 : Value} {x : Nat} : pz_R dA d 77 34 [.ref x, v1] st f Q = pz_R dA d 77 35 [.ref x, v1] (.ref x :: st) f Q := pz_go (pz_so d77_34 rfl)
theorem d77_35 : decode (pz_b 77) 35 = .ok (.invokevirtual 42, 3) := by decide +kernel
theorem q77_35 {dA : Nat → ClassId} {d : Nat} {st : List Value} {f : pz_F} {Q : Option Value → pz_F → Prop} {v0 v1 : Value} {b : Nat} (hr : st.length ≤ 4) : pz_R dA (d + 1) 77 35 [v0, v1] (.ref b :: st) f Q = pz_o (pz_gu f b 4) (fun _ => pz_C dA d 78 [.ref b] f (fun r f' => pz_R dA (d + 1) 77 38 [v0, v1] (r.toList ++ st) f' Q)) := pz_gcv (As := []) d77_35 rfl rfl rfl hr
theorem d77_38 : decode (pz_b 77) 38 = .ok (.return_, 1) := by decide +kernel
theorem q77_38 {dA : Nat → ClassId} {d : Nat} {f : pz_F} {Q : Option Value → pz_F → Prop} {v0 v1 : Value} : pz_R dA d 77 38 [v0, v1] [] f Q = Q none f := pz_gr (pz_so d77_38 rfl)
/-! L_removeVanishing ()V -/
theorem e78 {dA : Nat → ClassId} {d : Nat} {f : pz_F} {Q : Option Value → pz_F → Prop} {a0 : Nat} : pz_C dA d 78 [.ref a0] f Q = pz_R dA d 78 0 [.ref a0, .retAddr 0, .retAddr 0] [] f Q := rfl
theorem d78_0 : decode (pz_b 78) 0 = .ok (.iconst 0, 1) := by decide +kernel
theorem q78_0 {dA : Nat → ClassId} {d : Nat} {st : List Value} {f : pz_F} {Q : Option Value → pz_F → Prop} {v0 v1 v2 : Value} : pz_R dA d 78 0 [v0, v1, v2] st f Q = pz_R dA d 78 1 [v0, v1, v2] (.int 0 :: st) f Q := pz_go (pz_so d78_0 rfl)
theorem d78_1 : decode (pz_b 78) 1 = .ok (.istore_n 1, 1) := by decide +kernel
theorem q78_1 {dA : Nat → ClassId} {d : Nat} {st : List Value} {f : pz_F} {Q : Option Value → pz_F → Prop} {v0 v1 v2 : Value} {x : Int32} : pz_R dA d 78 1 [v0, v1, v2] (.int x :: st) f Q = pz_R dA d 78 2 [v0, .int x, v2] st f Q := pz_go (pz_so d78_1 rfl)
theorem d78_2 : decode (pz_b 78) 2 = .ok (.iconst 0, 1) := by decide +kernel
theorem q78_2 {dA : Nat → ClassId} {d : Nat} {st : List Value} {f : pz_F} {Q : Option Value → pz_F → Prop} {v0 v1 v2 : Value} : pz_R dA d 78 2 [v0, v1, v2] st f Q = pz_R dA d 78 3 [v0, v1, v2] (.int 0 :: st) f Q := pz_go (pz_so d78_2 rfl)
theorem d78_3 : decode (pz_b 78) 3 = .ok (.istore_n 2, 1) := by decide +kernel
theorem q78_3 {dA : Nat → ClassId} {d : Nat} {st : List Value} {f : pz_F} {Q : Option Value → pz_F → Prop} {v0 v1 v2 : Value} {x : Int32} : pz_R dA d 78 3 [v0, v1, v2] (.int x :: st) f Q = pz_R dA d 78 4 [v0, v1, .int x] st f Q := pz_go (pz_so d78_3 rfl)
theorem d78_4 : decode (pz_b 78) 4 = .ok (.iload_n 2, 1) := by decide +kernel
theorem q78_4 {dA : Nat → ClassId} {d : Nat} {st : List Value} {f : pz_F} {Q : Option Value → pz_F → Prop} {v0 v1 : Value} {x : Int32} : pz_R dA d 78 4 [v0, v1, .int x] st f Q = pz_R dA d 78 5 [v0, v1, .int x] (.int x :: st) f Q := pz_go (pz_so d78_4 rfl)
theorem d78_5 : decode (pz_b 78) 5 = .ok (.aload_n 0, 1) := by decide +kernel
theorem q78_5 {dA : Nat → ClassId} {d : Nat} {st : List Value} {f : pz_F} {Q : Option Value → pz_F → Prop} {v1 v2 : Value} {x : Nat} : pz_R dA d 78 5 [.ref x, v1, v2] st f Q = pz_R dA d 78 6 [.ref x, v1, v2] (.ref x :: st) f Q := pz_go (pz_so d78_5 rfl)
theorem d78_6 : decode (pz_b 78) 6 = .ok (.getfield 22, 3) := by decide +kernel
theorem q78_6 {dA : Nat → ClassId} {d : Nat} {st : List Value} {f : pz_F} {Q : Option Value → pz_F → Prop} {v0 v1 v2 : Value} {a : Nat} : pz_R dA d 78 6 [v0, v1, v2] (.ref a :: st) f Q = pz_o (pz_gf f a 4 1) (fun v => pz_R dA d 78 9 [v0, v1, v2] (v :: st) f Q) := pz_gg d78_6 rfl
theorem d78_9 : decode (pz_b 78) 9 = .ok (.if_icmp .ge 30, 3) := by decide +kernel
theorem q78_9 {dA : Nat → ClassId} {d : Nat} {st : List Value} {f : pz_F} {Q : Option Value → pz_F → Prop} {v0 v1 v2 : Value} {x y : Int32} : pz_R dA d 78 9 [v0, v1, v2] (.int y :: .int x :: st) f Q = (if y ≤ x then pz_R dA d 78 39 [v0, v1, v2] st f Q else pz_R dA d 78 12 [v0, v1, v2] st f Q) := pz_gjn .ge d78_9 rfl
theorem d78_12 : decode (pz_b 78) 12 = .ok (.aload_n 0, 1) := by decide +kernel
theorem q78_12 {dA : Nat → ClassId} {d : Nat} {st : List Value} {f : pz_F} {Q : Option Value → pz_F → Prop} {v1 v2 : Value} {x : Nat} : pz_R dA d 78 12 [.ref x, v1, v2] st f Q = pz_R dA d 78 13 [.ref x, v1, v2] (.ref x :: st) f Q := pz_go (pz_so d78_12 rfl)
theorem d78_13 : decode (pz_b 78) 13 = .ok (.getfield 11, 3) := by decide +kernel
theorem q78_13 {dA : Nat → ClassId} {d : Nat} {st : List Value} {f : pz_F} {Q : Option Value → pz_F → Prop} {v0 v1 v2 : Value} {a : Nat} : pz_R dA d 78 13 [v0, v1, v2] (.ref a :: st) f Q = pz_o (pz_gf f a 4 0) (fun v => pz_R dA d 78 16 [v0, v1, v2] (v :: st) f Q) := pz_gg d78_13 rfl
theorem d78_16 : decode (pz_b 78) 16 = .ok (.iload_n 2, 1) := by decide +kernel
theorem q78_16 {dA : Nat → ClassId} {d : Nat} {st : List Value} {f : pz_F} {Q : Option Value → pz_F → Prop} {v0 v1 : Value} {x : Int32} : pz_R dA d 78 16 [v0, v1, .int x] st f Q = pz_R dA d 78 17 [v0, v1, .int x] (.int x :: st) f Q := pz_go (pz_so d78_16 rfl)
theorem d78_17 : decode (pz_b 78) 17 = .ok (.aaload, 1) := by decide +kernel
theorem q78_17 {dA : Nat → ClassId} {d : Nat} {st : List Value} {f : pz_F} {Q : Option Value → pz_F → Prop} {v0 v1 v2 : Value} {i : Int32} {a : Nat} : pz_R dA d 78 17 [v0, v1, v2] (.int i :: .ref a :: st) f Q = pz_o (pz_rl dA f a i) (fun v => pz_R dA d 78 18 [v0, v1, v2] (v :: st) f Q) := pz_grl d78_17
theorem d78_18 : decode (pz_b 78) 18 = .ok (.getfield 38, 3) := by decide +kernel
theorem q78_18 {dA : Nat → ClassId} {d : Nat} {st : List Value} {f : pz_F} {Q : Option Value → pz_F → Prop} {v0 v1 v2 : Value} {a : Nat} : pz_R dA d 78 18 [v0, v1, v2] (.ref a :: st) f Q = pz_o (pz_gf f a 5 14) (fun v => pz_R dA d 78 21 [v0, v1, v2] (v :: st) f Q) := pz_gg d78_18 rfl
theorem d78_21 : decode (pz_b 78) 21 = .ok (.ifCond .ne 12, 3) := by decide +kernel
theorem q78_21 {dA : Nat → ClassId} {d : Nat} {st : List Value} {f : pz_F} {Q : Option Value → pz_F → Prop} {v0 v1 v2 : Value} {x : Int32} : pz_R dA d 78 21 [v0, v1, v2] (.int x :: st) f Q = (if x = 0 then pz_R dA d 78 24 [v0, v1, v2] st f Q else pz_R dA d 78 33 [v0, v1, v2] st f Q) := pz_gj1 .ne d78_21 rfl
theorem d78_24 : decode (pz_b 78) 24 = .ok (.aload_n 0, 1) := by decide +kernel
theorem q78_24 {dA : Nat → ClassId} {d : Nat} {st : List Value} {f : pz_F} {Q : Option Value → pz_F → Prop} {v1 v2 : Value} {x : Nat} : pz_R dA d 78 24 [.ref x, v1, v2] st f Q = pz_R dA d 78 25 [.ref x, v1, v2] (.ref x :: st) f Q := pz_go (pz_so d78_24 rfl)
theorem d78_25 : decode (pz_b 78) 25 = .ok (.iload_n 1, 1) := by decide +kernel
theorem q78_25 {dA : Nat → ClassId} {d : Nat} {st : List Value} {f : pz_F} {Q : Option Value → pz_F → Prop} {v0 v2 : Value} {x : Int32} : pz_R dA d 78 25 [v0, .int x, v2] st f Q = pz_R dA d 78 26 [v0, .int x, v2] (.int x :: st) f Q := pz_go (pz_so d78_25 rfl)
theorem d78_26 : decode (pz_b 78) 26 = .ok (.iload_n 2, 1) := by decide +kernel
theorem q78_26 {dA : Nat → ClassId} {d : Nat} {st : List Value} {f : pz_F} {Q : Option Value → pz_F → Prop} {v0 v1 : Value} {x : Int32} : pz_R dA d 78 26 [v0, v1, .int x] st f Q = pz_R dA d 78 27 [v0, v1, .int x] (.int x :: st) f Q := pz_go (pz_so d78_26 rfl)
theorem d78_27 : decode (pz_b 78) 27 = .ok (.invokevirtual 49, 3) := by decide +kernel
theorem q78_27 {dA : Nat → ClassId} {d : Nat} {st : List Value} {f : pz_F} {Q : Option Value → pz_F → Prop} {v0 v1 v2 : Value} {c0 : Int32} {c1 : Int32} {b : Nat} (hr : st.length ≤ 4) : pz_R dA (d + 1) 78 27 [v0, v1, v2] (.int c1 :: .int c0 :: .ref b :: st) f Q = pz_o (pz_gu f b 4) (fun _ => pz_C dA d 79 [.ref b, .int c0, .int c1] f (fun r f' => pz_R dA (d + 1) 78 30 [v0, v1, v2] (r.toList ++ st) f' Q)) := pz_gcv (As := [.int c0, .int c1]) d78_27 rfl rfl rfl hr
theorem d78_30 : decode (pz_b 78) 30 = .ok (.iinc 1 1, 3) := by decide +kernel
theorem q78_30 {dA : Nat → ClassId} {d : Nat} {st : List Value} {f : pz_F} {Q : Option Value → pz_F → Prop} {v0 v2 : Value} {x : Int32} : pz_R dA d 78 30 [v0, .int x, v2] st f Q = pz_R dA d 78 33 [v0, .int (x + 1), v2] st f Q := pz_go (pz_so d78_30 rfl)
theorem d78_33 : decode (pz_b 78) 33 = .ok (.iinc 2 1, 3) := by decide +kernel
theorem q78_33 {dA : Nat → ClassId} {d : Nat} {st : List Value} {f : pz_F} {Q : Option Value → pz_F → Prop} {v0 v1 : Value} {x : Int32} : pz_R dA d 78 33 [v0, v1, .int x] st f Q = pz_R dA d 78 36 [v0, v1, .int (x + 1)] st f Q := pz_go (pz_so d78_33 rfl)
theorem d78_36 : decode (pz_b 78) 36 = .ok (.goto (-32), 3) := by decide +kernel
theorem q78_36 {dA : Nat → ClassId} {d : Nat} {st : List Value} {f : pz_F} {Q : Option Value → pz_F → Prop} {v0 v1 v2 : Value} : pz_R dA d 78 36 [v0, v1, v2] st f Q = pz_R dA d 78 4 [v0, v1, v2] st f Q := pz_go (pz_so d78_36 rfl)
theorem d78_39 : decode (pz_b 78) 39 = .ok (.aload_n 0, 1) := by decide +kernel
theorem q78_39 {dA : Nat → ClassId} {d : Nat} {st : List Value} {f : pz_F} {Q : Option Value → pz_F → Prop} {v1 v2 : Value} {x : Nat} : pz_R dA d 78 39 [.ref x, v1, v2] st f Q = pz_R dA d 78 40 [.ref x, v1, v2] (.ref x :: st) f Q := pz_go (pz_so d78_39 rfl)
theorem d78_40 : decode (pz_b 78) 40 = .ok (.iload_n 1, 1) := by decide +kernel
theorem q78_40 {dA : Nat → ClassId} {d : Nat} {st : List Value} {f : pz_F} {Q : Option Value → pz_F → Prop} {v0 v2 : Value} {x : Int32} : pz_R dA d 78 40 [v0, .int x, v2] st f Q = pz_R dA d 78 41 [v0, .int x, v2] (.int x :: st) f Q := pz_go (pz_so d78_40 rfl)
theorem d78_41 : decode (pz_b 78) 41 = .ok (.putfield 22, 3) := by decide +kernel
theorem q78_41 {dA : Nat → ClassId} {d : Nat} {st : List Value} {f : pz_F} {Q : Option Value → pz_F → Prop} {v0 v1 v2 : Value} {x : Int32} {a : Nat} : pz_R dA d 78 41 [v0, v1, v2] (.int x :: .ref a :: st) f Q = pz_o (pz_pf f a 4 1 (.int x)) (fun f' => pz_R dA d 78 44 [v0, v1, v2] st f' Q) := pz_gp d78_41 rfl rfl rfl rfl
theorem d78_44 : decode (pz_b 78) 44 = .ok (.return_, 1) := by decide +kernel
theorem q78_44 {dA : Nat → ClassId} {d : Nat} {f : pz_F} {Q : Option Value → pz_F → Prop} {v0 v1 v2 : Value} : pz_R dA d 78 44 [v0, v1, v2] [] f Q = Q none f := pz_gr (pz_so d78_44 rfl)
/-! L_swap (II)V -/
theorem e79 {dA : Nat → ClassId} {d : Nat} {f : pz_F} {Q : Option Value → pz_F → Prop} {a0 : Nat} {a1 : Int32} {a2 : Int32} : pz_C dA d 79 [.ref a0, .int a1, .int a2] f Q = pz_R dA d 79 0 [.ref a0, .int a1, .int a2, .retAddr 0] [] f Q := rfl
theorem d79_0 : decode (pz_b 79) 0 = .ok (.aload_n 0, 1) := by decide +kernel
theorem q79_0 {dA : Nat → ClassId} {d : Nat} {st : List Value} {f : pz_F} {Q : Option Value → pz_F → Prop} {v1 v2 v3 : Value} {x : Nat} : pz_R dA d 79 0 [.ref x, v1, v2, v3] st f Q = pz_R dA d 79 1 [.ref x, v1, v2, v3] (.ref x :: st) f Q := pz_go (pz_so d79_0 rfl)
theorem d79_1 : decode (pz_b 79) 1 = .ok (.getfield 11, 3) := by decide +kernel
theorem q79_1 {dA : Nat → ClassId} {d : Nat} {st : List Value} {f : pz_F} {Q : Option Value → pz_F → Prop} {v0 v1 v2 v3 : Value} {a : Nat} : pz_R dA d 79 1 [v0, v1, v2, v3] (.ref a :: st) f Q = pz_o (pz_gf f a 4 0) (fun v => pz_R dA d 79 4 [v0, v1, v2, v3] (v :: st) f Q) := pz_gg d79_1 rfl
theorem d79_4 : decode (pz_b 79) 4 = .ok (.iload_n 1, 1) := by decide +kernel
theorem q79_4 {dA : Nat → ClassId} {d : Nat} {st : List Value} {f : pz_F} {Q : Option Value → pz_F → Prop} {v0 v2 v3 : Value} {x : Int32} : pz_R dA d 79 4 [v0, .int x, v2, v3] st f Q = pz_R dA d 79 5 [v0, .int x, v2, v3] (.int x :: st) f Q := pz_go (pz_so d79_4 rfl)
theorem d79_5 : decode (pz_b 79) 5 = .ok (.aaload, 1) := by decide +kernel
theorem q79_5 {dA : Nat → ClassId} {d : Nat} {st : List Value} {f : pz_F} {Q : Option Value → pz_F → Prop} {v0 v1 v2 v3 : Value} {i : Int32} {a : Nat} : pz_R dA d 79 5 [v0, v1, v2, v3] (.int i :: .ref a :: st) f Q = pz_o (pz_rl dA f a i) (fun v => pz_R dA d 79 6 [v0, v1, v2, v3] (v :: st) f Q) := pz_grl d79_5
theorem d79_6 : decode (pz_b 79) 6 = .ok (.astore_n 3, 1) := by decide +kernel
theorem q79_6 {dA : Nat → ClassId} {d : Nat} {st : List Value} {f : pz_F} {Q : Option Value → pz_F → Prop} {v0 v1 v2 v3 : Value} {x : Nat} : pz_R dA d 79 6 [v0, v1, v2, v3] (.ref x :: st) f Q = pz_R dA d 79 7 [v0, v1, v2, .ref x] st f Q := pz_go (pz_so d79_6 rfl)
theorem q79_6n {dA : Nat → ClassId} {d : Nat} {st : List Value} {f : pz_F} {Q : Option Value → pz_F → Prop} {v0 v1 v2 v3 : Value} : pz_R dA d 79 6 [v0, v1, v2, v3] (.null :: st) f Q = pz_R dA d 79 7 [v0, v1, v2, .null] st f Q := pz_go (pz_so d79_6 rfl)
theorem d79_7 : decode (pz_b 79) 7 = .ok (.aload_n 0, 1) := by decide +kernel
theorem q79_7 {dA : Nat → ClassId} {d : Nat} {st : List Value} {f : pz_F} {Q : Option Value → pz_F → Prop} {v1 v2 v3 : Value} {x : Nat} : pz_R dA d 79 7 [.ref x, v1, v2, v3] st f Q = pz_R dA d 79 8 [.ref x, v1, v2, v3] (.ref x :: st) f Q := pz_go (pz_so d79_7 rfl)
theorem d79_8 : decode (pz_b 79) 8 = .ok (.getfield 11, 3) := by decide +kernel
theorem q79_8 {dA : Nat → ClassId} {d : Nat} {st : List Value} {f : pz_F} {Q : Option Value → pz_F → Prop} {v0 v1 v2 v3 : Value} {a : Nat} : pz_R dA d 79 8 [v0, v1, v2, v3] (.ref a :: st) f Q = pz_o (pz_gf f a 4 0) (fun v => pz_R dA d 79 11 [v0, v1, v2, v3] (v :: st) f Q) := pz_gg d79_8 rfl
theorem d79_11 : decode (pz_b 79) 11 = .ok (.iload_n 1, 1) := by decide +kernel
theorem q79_11 {dA : Nat → ClassId} {d : Nat} {st : List Value} {f : pz_F} {Q : Option Value → pz_F → Prop} {v0 v2 v3 : Value} {x : Int32} : pz_R dA d 79 11 [v0, .int x, v2, v3] st f Q = pz_R dA d 79 12 [v0, .int x, v2, v3] (.int x :: st) f Q := pz_go (pz_so d79_11 rfl)
theorem d79_12 : decode (pz_b 79) 12 = .ok (.aload_n 0, 1) := by decide +kernel
theorem q79_12 {dA : Nat → ClassId} {d : Nat} {st : List Value} {f : pz_F} {Q : Option Value → pz_F → Prop} {v1 v2 v3 : Value} {x : Nat} : pz_R dA d 79 12 [.ref x, v1, v2, v3] st f Q = pz_R dA d 79 13 [.ref x, v1, v2, v3] (.ref x :: st) f Q := pz_go (pz_so d79_12 rfl)
theorem d79_13 : decode (pz_b 79) 13 = .ok (.getfield 11, 3) := by decide +kernel
theorem q79_13 {dA : Nat → ClassId} {d : Nat} {st : List Value} {f : pz_F} {Q : Option Value → pz_F → Prop} {v0 v1 v2 v3 : Value} {a : Nat} : pz_R dA d 79 13 [v0, v1, v2, v3] (.ref a :: st) f Q = pz_o (pz_gf f a 4 0) (fun v => pz_R dA d 79 16 [v0, v1, v2, v3] (v :: st) f Q) := pz_gg d79_13 rfl
theorem d79_16 : decode (pz_b 79) 16 = .ok (.iload_n 2, 1) := by decide +kernel
theorem q79_16 {dA : Nat → ClassId} {d : Nat} {st : List Value} {f : pz_F} {Q : Option Value → pz_F → Prop} {v0 v1 v3 : Value} {x : Int32} : pz_R dA d 79 16 [v0, v1, .int x, v3] st f Q = pz_R dA d 79 17 [v0, v1, .int x, v3] (.int x :: st) f Q := pz_go (pz_so d79_16 rfl)
theorem d79_17 : decode (pz_b 79) 17 = .ok (.aaload, 1) := by decide +kernel
theorem q79_17 {dA : Nat → ClassId} {d : Nat} {st : List Value} {f : pz_F} {Q : Option Value → pz_F → Prop} {v0 v1 v2 v3 : Value} {i : Int32} {a : Nat} : pz_R dA d 79 17 [v0, v1, v2, v3] (.int i :: .ref a :: st) f Q = pz_o (pz_rl dA f a i) (fun v => pz_R dA d 79 18 [v0, v1, v2, v3] (v :: st) f Q) := pz_grl d79_17
theorem d79_18 : decode (pz_b 79) 18 = .ok (.aastore, 1) := by decide +kernel
theorem q79_18 {dA : Nat → ClassId} {d : Nat} {st : List Value} {f : pz_F} {Q : Option Value → pz_F → Prop} {v0 v1 v2 v3 : Value} {i : Int32} {q a : Nat} : pz_R dA d 79 18 [v0, v1, v2, v3] (.ref q :: .int i :: .ref a :: st) f Q = pz_o (pz_rs dA f a i q) (fun f' => pz_R dA d 79 19 [v0, v1, v2, v3] st f' Q) := pz_grs d79_18
theorem d79_19 : decode (pz_b 79) 19 = .ok (.aload_n 0, 1) := by decide +kernel
theorem q79_19 {dA : Nat → ClassId} {d : Nat} {st : List Value} {f : pz_F} {Q : Option Value → pz_F → Prop} {v1 v2 v3 : Value} {x : Nat} : pz_R dA d 79 19 [.ref x, v1, v2, v3] st f Q = pz_R dA d 79 20 [.ref x, v1, v2, v3] (.ref x :: st) f Q := pz_go (pz_so d79_19 rfl)
theorem d79_20 : decode (pz_b 79) 20 = .ok (.getfield 11, 3) := by decide +kernel
theorem q79_20 {dA : Nat → ClassId} {d : Nat} {st : List Value} {f : pz_F} {Q : Option Value → pz_F → Prop} {v0 v1 v2 v3 : Value} {a : Nat} : pz_R dA d 79 20 [v0, v1, v2, v3] (.ref a :: st) f Q = pz_o (pz_gf f a 4 0) (fun v => pz_R dA d 79 23 [v0, v1, v2, v3] (v :: st) f Q) := pz_gg d79_20 rfl
theorem d79_23 : decode (pz_b 79) 23 = .ok (.iload_n 2, 1) := by decide +kernel
theorem q79_23 {dA : Nat → ClassId} {d : Nat} {st : List Value} {f : pz_F} {Q : Option Value → pz_F → Prop} {v0 v1 v3 : Value} {x : Int32} : pz_R dA d 79 23 [v0, v1, .int x, v3] st f Q = pz_R dA d 79 24 [v0, v1, .int x, v3] (.int x :: st) f Q := pz_go (pz_so d79_23 rfl)
theorem d79_24 : decode (pz_b 79) 24 = .ok (.aload_n 3, 1) := by decide +kernel
theorem q79_24 {dA : Nat → ClassId} {d : Nat} {st : List Value} {f : pz_F} {Q : Option Value → pz_F → Prop} {v0 v1 v2 : Value} {x : Nat} : pz_R dA d 79 24 [v0, v1, v2, .ref x] st f Q = pz_R dA d 79 25 [v0, v1, v2, .ref x] (.ref x :: st) f Q := pz_go (pz_so d79_24 rfl)
theorem q79_24n {dA : Nat → ClassId} {d : Nat} {st : List Value} {f : pz_F} {Q : Option Value → pz_F → Prop} {v0 v1 v2 : Value} : pz_R dA d 79 24 [v0, v1, v2, .null] st f Q = pz_R dA d 79 25 [v0, v1, v2, .null] (.null :: st) f Q := pz_go (pz_so d79_24 rfl)
theorem d79_25 : decode (pz_b 79) 25 = .ok (.aastore, 1) := by decide +kernel
theorem q79_25 {dA : Nat → ClassId} {d : Nat} {st : List Value} {f : pz_F} {Q : Option Value → pz_F → Prop} {v0 v1 v2 v3 : Value} {i : Int32} {q a : Nat} : pz_R dA d 79 25 [v0, v1, v2, v3] (.ref q :: .int i :: .ref a :: st) f Q = pz_o (pz_rs dA f a i q) (fun f' => pz_R dA d 79 26 [v0, v1, v2, v3] st f' Q) := pz_grs d79_25
theorem d79_26 : decode (pz_b 79) 26 = .ok (.return_, 1) := by decide +kernel
theorem q79_26 {dA : Nat → ClassId} {d : Nat} {f : pz_F} {Q : Option Value → pz_F → Prop} {v0 v1 v2 v3 : Value} : pz_R dA d 79 26 [v0, v1, v2, v3] [] f Q = Q none f := pz_gr (pz_so d79_26 rfl)
/-! M_isBetweenServers ()Z -/
theorem e81 {dA : Nat → ClassId} {d : Nat} {f : pz_F} {Q : Option Value → pz_F → Prop} {a0 : Nat} : pz_C dA d 81 [.ref a0] f Q = pz_R dA d 81 0 [.ref a0] [] f Q := rfl
theorem d81_0 : decode (pz_b 81) 0 = .ok (.aload_n 0, 1) := by decide +kernel
theorem q81_0 {dA : Nat → ClassId} {d : Nat} {st : List Value} {f : pz_F} {Q : Option Value → pz_F → Prop} {x : Nat} : pz_R dA d 81 0 [.ref x] st f Q = pz_R dA d 81 1 [.ref x] (.ref x :: st) f Q := pz_go (pz_so d81_0 rfl)
theorem d81_1 : decode (pz_b 81) 1 = .ok (.getfield 9, 3) := by decide +kernel
theorem q81_1 {dA : Nat → ClassId} {d : Nat} {st : List Value} {f : pz_F} {Q : Option Value → pz_F → Prop} {v0 : Value} {a : Nat} : pz_R dA d 81 1 [v0] (.ref a :: st) f Q = pz_o (pz_gf f a 5 0) (fun v => pz_R dA d 81 4 [v0] (v :: st) f Q) := pz_gg d81_1 rfl
theorem d81_4 : decode (pz_b 81) 4 = .ok (.iconst 4, 1) := by decide +kernel
theorem q81_4 {dA : Nat → ClassId} {d : Nat} {st : List Value} {f : pz_F} {Q : Option Value → pz_F → Prop} {v0 : Value} : pz_R dA d 81 4 [v0] st f Q = pz_R dA d 81 5 [v0] (.int 4 :: st) f Q := pz_go (pz_so d81_4 rfl)
theorem d81_5 : decode (pz_b 81) 5 = .ok (.if_icmp .eq 20, 3) := by decide +kernel
theorem q81_5 {dA : Nat → ClassId} {d : Nat} {st : List Value} {f : pz_F} {Q : Option Value → pz_F → Prop} {v0 : Value} {x y : Int32} : pz_R dA d 81 5 [v0] (.int y :: .int x :: st) f Q = (if x = y then pz_R dA d 81 25 [v0] st f Q else pz_R dA d 81 8 [v0] st f Q) := pz_gjn .eq d81_5 rfl
theorem d81_8 : decode (pz_b 81) 8 = .ok (.aload_n 0, 1) := by decide +kernel
theorem q81_8 {dA : Nat → ClassId} {d : Nat} {st : List Value} {f : pz_F} {Q : Option Value → pz_F → Prop} {x : Nat} : pz_R dA d 81 8 [.ref x] st f Q = pz_R dA d 81 9 [.ref x] (.ref x :: st) f Q := pz_go (pz_so d81_8 rfl)
theorem d81_9 : decode (pz_b 81) 9 = .ok (.getfield 9, 3) := by decide +kernel
theorem q81_9 {dA : Nat → ClassId} {d : Nat} {st : List Value} {f : pz_F} {Q : Option Value → pz_F → Prop} {v0 : Value} {a : Nat} : pz_R dA d 81 9 [v0] (.ref a :: st) f Q = pz_o (pz_gf f a 5 0) (fun v => pz_R dA d 81 12 [v0] (v :: st) f Q) := pz_gg d81_9 rfl
theorem d81_12 : decode (pz_b 81) 12 = .ok (.iconst 5, 1) := by decide +kernel
theorem q81_12 {dA : Nat → ClassId} {d : Nat} {st : List Value} {f : pz_F} {Q : Option Value → pz_F → Prop} {v0 : Value} : pz_R dA d 81 12 [v0] st f Q = pz_R dA d 81 13 [v0] (.int 5 :: st) f Q := pz_go (pz_so d81_12 rfl)
theorem d81_13 : decode (pz_b 81) 13 = .ok (.if_icmp .eq 12, 3) := by decide +kernel
theorem q81_13 {dA : Nat → ClassId} {d : Nat} {st : List Value} {f : pz_F} {Q : Option Value → pz_F → Prop} {v0 : Value} {x y : Int32} : pz_R dA d 81 13 [v0] (.int y :: .int x :: st) f Q = (if x = y then pz_R dA d 81 25 [v0] st f Q else pz_R dA d 81 16 [v0] st f Q) := pz_gjn .eq d81_13 rfl
theorem d81_16 : decode (pz_b 81) 16 = .ok (.aload_n 0, 1) := by decide +kernel
theorem q81_16 {dA : Nat → ClassId} {d : Nat} {st : List Value} {f : pz_F} {Q : Option Value → pz_F → Prop} {x : Nat} : pz_R dA d 81 16 [.ref x] st f Q = pz_R dA d 81 17 [.ref x] (.ref x :: st) f Q := pz_go (pz_so d81_16 rfl)
theorem d81_17 : decode (pz_b 81) 17 = .ok (.getfield 9, 3) := by decide +kernel
theorem q81_17 {dA : Nat → ClassId} {d : Nat} {st : List Value} {f : pz_F} {Q : Option Value → pz_F → Prop} {v0 : Value} {a : Nat} : pz_R dA d 81 17 [v0] (.ref a :: st) f Q = pz_o (pz_gf f a 5 0) (fun v => pz_R dA d 81 20 [v0] (v :: st) f Q) := pz_gg d81_17 rfl
theorem d81_20 : decode (pz_b 81) 20 = .ok (.bipush 6, 2) := by decide +kernel
theorem q81_20 {dA : Nat → ClassId} {d : Nat} {st : List Value} {f : pz_F} {Q : Option Value → pz_F → Prop} {v0 : Value} : pz_R dA d 81 20 [v0] st f Q = pz_R dA d 81 22 [v0] (.int 6 :: st) f Q := pz_go (pz_so d81_20 rfl)
theorem d81_22 : decode (pz_b 81) 22 = .ok (.if_icmp .ne 7, 3) := by decide +kernel
theorem q81_22 {dA : Nat → ClassId} {d : Nat} {st : List Value} {f : pz_F} {Q : Option Value → pz_F → Prop} {v0 : Value} {x y : Int32} : pz_R dA d 81 22 [v0] (.int y :: .int x :: st) f Q = (if x = y then pz_R dA d 81 25 [v0] st f Q else pz_R dA d 81 29 [v0] st f Q) := pz_gjn .ne d81_22 rfl
theorem d81_25 : decode (pz_b 81) 25 = .ok (.iconst 1, 1) := by decide +kernel
theorem q81_25 {dA : Nat → ClassId} {d : Nat} {st : List Value} {f : pz_F} {Q : Option Value → pz_F → Prop} {v0 : Value} : pz_R dA d 81 25 [v0] st f Q = pz_R dA d 81 26 [v0] (.int 1 :: st) f Q := pz_go (pz_so d81_25 rfl)
theorem d81_26 : decode (pz_b 81) 26 = .ok (.goto 4, 3) := by decide +kernel
theorem q81_26 {dA : Nat → ClassId} {d : Nat} {st : List Value} {f : pz_F} {Q : Option Value → pz_F → Prop} {v0 : Value} : pz_R dA d 81 26 [v0] st f Q = pz_R dA d 81 30 [v0] st f Q := pz_go (pz_so d81_26 rfl)
theorem d81_29 : decode (pz_b 81) 29 = .ok (.iconst 0, 1) := by decide +kernel
theorem q81_29 {dA : Nat → ClassId} {d : Nat} {st : List Value} {f : pz_F} {Q : Option Value → pz_F → Prop} {v0 : Value} : pz_R dA d 81 29 [v0] st f Q = pz_R dA d 81 30 [v0] (.int 0 :: st) f Q := pz_go (pz_so d81_29 rfl)
theorem d81_30 : decode (pz_b 81) 30 = .ok (.ireturn, 1) := by decide +kernel
theorem q81_30z {dA : Nat → ClassId} {d : Nat} {f : pz_F} {Q : Option Value → pz_F → Prop} {v0 : Value} : pz_R dA d 81 30 [v0] [.int 0] f Q = Q (some (.int 0)) f := pz_gri d81_30 rfl rfl
theorem q81_30o {dA : Nat → ClassId} {d : Nat} {f : pz_F} {Q : Option Value → pz_F → Prop} {v0 : Value} : pz_R dA d 81 30 [v0] [.int 1] f Q = Q (some (.int 1)) f := pz_gri d81_30 rfl rfl
/-! M_goesToServer ()Z -/
theorem e82 {dA : Nat → ClassId} {d : Nat} {f : pz_F} {Q : Option Value → pz_F → Prop} {a0 : Nat} : pz_C dA d 82 [.ref a0] f Q = pz_R dA d 82 0 [.ref a0] [] f Q := rfl
theorem d82_0 : decode (pz_b 82) 0 = .ok (.aload_n 0, 1) := by decide +kernel
theorem q82_0 {dA : Nat → ClassId} {d : Nat} {st : List Value} {f : pz_F} {Q : Option Value → pz_F → Prop} {x : Nat} : pz_R dA d 82 0 [.ref x] st f Q = pz_R dA d 82 1 [.ref x] (.ref x :: st) f Q := pz_go (pz_so d82_0 rfl)
theorem d82_1 : decode (pz_b 82) 1 = .ok (.getfield 9, 3) := by decide +kernel
theorem q82_1 {dA : Nat → ClassId} {d : Nat} {st : List Value} {f : pz_F} {Q : Option Value → pz_F → Prop} {v0 : Value} {a : Nat} : pz_R dA d 82 1 [v0] (.ref a :: st) f Q = pz_o (pz_gf f a 5 0) (fun v => pz_R dA d 82 4 [v0] (v :: st) f Q) := pz_gg d82_1 rfl
theorem d82_4 : decode (pz_b 82) 4 = .ok (.iconst 1, 1) := by decide +kernel
theorem q82_4 {dA : Nat → ClassId} {d : Nat} {st : List Value} {f : pz_F} {Q : Option Value → pz_F → Prop} {v0 : Value} : pz_R dA d 82 4 [v0] st f Q = pz_R dA d 82 5 [v0] (.int 1 :: st) f Q := pz_go (pz_so d82_4 rfl)
theorem d82_5 : decode (pz_b 82) 5 = .ok (.if_icmp .eq 15, 3) := by decide +kernel
theorem q82_5 {dA : Nat → ClassId} {d : Nat} {st : List Value} {f : pz_F} {Q : Option Value → pz_F → Prop} {v0 : Value} {x y : Int32} : pz_R dA d 82 5 [v0] (.int y :: .int x :: st) f Q = (if x = y then pz_R dA d 82 20 [v0] st f Q else pz_R dA d 82 8 [v0] st f Q) := pz_gjn .eq d82_5 rfl
theorem d82_8 : decode (pz_b 82) 8 = .ok (.aload_n 0, 1) := by decide +kernel
theorem q82_8 {dA : Nat → ClassId} {d : Nat} {st : List Value} {f : pz_F} {Q : Option Value → pz_F → Prop} {x : Nat} : pz_R dA d 82 8 [.ref x] st f Q = pz_R dA d 82 9 [.ref x] (.ref x :: st) f Q := pz_go (pz_so d82_8 rfl)
theorem d82_9 : decode (pz_b 82) 9 = .ok (.getfield 9, 3) := by decide +kernel
theorem q82_9 {dA : Nat → ClassId} {d : Nat} {st : List Value} {f : pz_F} {Q : Option Value → pz_F → Prop} {v0 : Value} {a : Nat} : pz_R dA d 82 9 [v0] (.ref a :: st) f Q = pz_o (pz_gf f a 5 0) (fun v => pz_R dA d 82 12 [v0] (v :: st) f Q) := pz_gg d82_9 rfl
theorem d82_12 : decode (pz_b 82) 12 = .ok (.iconst 2, 1) := by decide +kernel
theorem q82_12 {dA : Nat → ClassId} {d : Nat} {st : List Value} {f : pz_F} {Q : Option Value → pz_F → Prop} {v0 : Value} : pz_R dA d 82 12 [v0] st f Q = pz_R dA d 82 13 [v0] (.int 2 :: st) f Q := pz_go (pz_so d82_12 rfl)
theorem d82_13 : decode (pz_b 82) 13 = .ok (.if_icmp .eq 7, 3) := by decide +kernel
theorem q82_13 {dA : Nat → ClassId} {d : Nat} {st : List Value} {f : pz_F} {Q : Option Value → pz_F → Prop} {v0 : Value} {x y : Int32} : pz_R dA d 82 13 [v0] (.int y :: .int x :: st) f Q = (if x = y then pz_R dA d 82 20 [v0] st f Q else pz_R dA d 82 16 [v0] st f Q) := pz_gjn .eq d82_13 rfl
theorem d82_16 : decode (pz_b 82) 16 = .ok (.iconst 1, 1) := by decide +kernel
theorem q82_16 {dA : Nat → ClassId} {d : Nat} {st : List Value} {f : pz_F} {Q : Option Value → pz_F → Prop} {v0 : Value} : pz_R dA d 82 16 [v0] st f Q = pz_R dA d 82 17 [v0] (.int 1 :: st) f Q := pz_go (pz_so d82_16 rfl)
theorem d82_17 : decode (pz_b 82) 17 = .ok (.goto 4, 3) := by decide +kernel
theorem q82_17 {dA : Nat → ClassId} {d : Nat} {st : List Value} {f : pz_F} {Q : Option Value → pz_F → Prop} {v0 : Value} : pz_R dA d 82 17 [v0] st f Q = pz_R dA d 82 21 [v0] st f Q := pz_go (pz_so d82_17 rfl)
theorem d82_20 : decode (pz_b 82) 20 = .ok (.iconst 0, 1) := by decide +kernel
theorem q82_20 {dA : Nat → ClassId} {d : Nat} {st : List Value} {f : pz_F} {Q : Option Value → pz_F → Prop} {v0 : Value} : pz_R dA d 82 20 [v0] st f Q = pz_R dA d 82 21 [v0] (.int 0 :: st) f Q := pz_go (pz_so d82_20 rfl)
theorem d82_21 : decode (pz_b 82) 21 = .ok (.ireturn, 1) := by decide +kernel
theorem q82_21z {dA : Nat → ClassId} {d : Nat} {f : pz_F} {Q : Option Value → pz_F → Prop} {v0 : Value} : pz_R dA d 82 21 [v0] [.int 0] f Q = Q (some (.int 0)) f := pz_gri d82_21 rfl rfl
theorem q82_21o {dA : Nat → ClassId} {d : Nat} {f : pz_F} {Q : Option Value → pz_F → Prop} {v0 : Value} : pz_R dA d 82 21 [v0] [.int 1] f Q = Q (some (.int 1)) f := pz_gri d82_21 rfl rfl
/-! M_look (I)I -/
theorem e83 {dA : Nat → ClassId} {d : Nat} {f : pz_F} {Q : Option Value → pz_F → Prop} {a0 : Nat} {a1 : Int32} : pz_C dA d 83 [.ref a0, .int a1] f Q = pz_R dA d 83 0 [.ref a0, .int a1] [] f Q := rfl
theorem d83_0 : decode (pz_b 83) 0 = .ok (.iload_n 1, 1) := by decide +kernel
theorem q83_0 {dA : Nat → ClassId} {d : Nat} {st : List Value} {f : pz_F} {Q : Option Value → pz_F → Prop} {v0 : Value} {x : Int32} : pz_R dA d 83 0 [v0, .int x] st f Q = pz_R dA d 83 1 [v0, .int x] (.int x :: st) f Q := pz_go (pz_so d83_0 rfl)
theorem d83_1 : decode (pz_b 83) 1 = .ok (.tableswitch 69 0 5 #[39, 44, 49, 54, 59, 64], 39) := by decide +kernel
theorem q83_1 {dA : Nat → ClassId} {d : Nat} {st : List Value} {f : pz_F} {Q : Option Value → pz_F → Prop} {v0 v1 : Value} {x : Int32} : pz_R dA d 83 1 [v0, v1] (.int x :: st) f Q = if x = 0 then pz_R dA d 83 40 [v0, v1] st f Q else (if x = 1 then pz_R dA d 83 45 [v0, v1] st f Q else (if x = 2 then pz_R dA d 83 50 [v0, v1] st f Q else (if x = 3 then pz_R dA d 83 55 [v0, v1] st f Q else (if x = 4 then pz_R dA d 83 60 [v0, v1] st f Q else (if x = 5 then pz_R dA d 83 65 [v0, v1] st f Q else (pz_R dA d 83 70 [v0, v1] st f Q)))))) := by
  by_cases h0 : x = 0
  · subst h0
    rw [if_pos rfl]
    exact pz_gti d83_1 (by decide) rfl rfl
  rw [if_neg h0]
  by_cases h1 : x = 1
  · subst h1
    rw [if_pos rfl]
    exact pz_gti d83_1 (by decide) rfl rfl
  rw [if_neg h1]
  by_cases h2 : x = 2
  · subst h2
    rw [if_pos rfl]
    exact pz_gti d83_1 (by decide) rfl rfl
  rw [if_neg h2]
  by_cases h3 : x = 3
  · subst h3
    rw [if_pos rfl]
    exact pz_gti d83_1 (by decide) rfl rfl
  rw [if_neg h3]
  by_cases h4 : x = 4
  · subst h4
    rw [if_pos rfl]
    exact pz_gti d83_1 (by decide) rfl rfl
  rw [if_neg h4]
  by_cases h5 : x = 5
  · subst h5
    rw [if_pos rfl]
    exact pz_gti d83_1 (by decide) rfl rfl
  rw [if_neg h5]
  refine pz_gtd d83_1 ?_ rfl
  have g0 : ¬ x.toInt = 0 := lv_neT h0 (by decide)
  have g1 : ¬ x.toInt = 1 := lv_neT h1 (by decide)
  have g2 : ¬ x.toInt = 2 := lv_neT h2 (by decide)
  have g3 : ¬ x.toInt = 3 := lv_neT h3 (by decide)
  have g4 : ¬ x.toInt = 4 := lv_neT h4 (by decide)
  have g5 : ¬ x.toInt = 5 := lv_neT h5 (by decide)
  omega
theorem d83_40 : decode (pz_b 83) 40 = .ok (.aload_n 0, 1) := by decide +kernel
theorem q83_40 {dA : Nat → ClassId} {d : Nat} {st : List Value} {f : pz_F} {Q : Option Value → pz_F → Prop} {v1 : Value} {x : Nat} : pz_R dA d 83 40 [.ref x, v1] st f Q = pz_R dA d 83 41 [.ref x, v1] (.ref x :: st) f Q := pz_go (pz_so d83_40 rfl)
theorem d83_41 : decode (pz_b 83) 41 = .ok (.getfield 9, 3) := by decide +kernel
theorem q83_41 {dA : Nat → ClassId} {d : Nat} {st : List Value} {f : pz_F} {Q : Option Value → pz_F → Prop} {v0 v1 : Value} {a : Nat} : pz_R dA d 83 41 [v0, v1] (.ref a :: st) f Q = pz_o (pz_gf f a 5 0) (fun v => pz_R dA d 83 44 [v0, v1] (v :: st) f Q) := pz_gg d83_41 rfl
theorem d83_44 : decode (pz_b 83) 44 = .ok (.ireturn, 1) := by decide +kernel
theorem q83_44 {dA : Nat → ClassId} {d : Nat} {f : pz_F} {Q : Option Value → pz_F → Prop} {v0 v1 : Value} {x : Int32} : pz_R dA d 83 44 [v0, v1] [.int x] f Q = Q (some (.int x)) f := pz_gri d83_44 rfl rfl
theorem d83_45 : decode (pz_b 83) 45 = .ok (.aload_n 0, 1) := by decide +kernel
theorem q83_45 {dA : Nat → ClassId} {d : Nat} {st : List Value} {f : pz_F} {Q : Option Value → pz_F → Prop} {v1 : Value} {x : Nat} : pz_R dA d 83 45 [.ref x, v1] st f Q = pz_R dA d 83 46 [.ref x, v1] (.ref x :: st) f Q := pz_go (pz_so d83_45 rfl)
theorem d83_46 : decode (pz_b 83) 46 = .ok (.getfield 15, 3) := by decide +kernel
theorem q83_46 {dA : Nat → ClassId} {d : Nat} {st : List Value} {f : pz_F} {Q : Option Value → pz_F → Prop} {v0 v1 : Value} {a : Nat} : pz_R dA d 83 46 [v0, v1] (.ref a :: st) f Q = pz_o (pz_gf f a 5 1) (fun v => pz_R dA d 83 49 [v0, v1] (v :: st) f Q) := pz_gg d83_46 rfl
theorem d83_49 : decode (pz_b 83) 49 = .ok (.ireturn, 1) := by decide +kernel
theorem q83_49 {dA : Nat → ClassId} {d : Nat} {f : pz_F} {Q : Option Value → pz_F → Prop} {v0 v1 : Value} {x : Int32} : pz_R dA d 83 49 [v0, v1] [.int x] f Q = Q (some (.int x)) f := pz_gri d83_49 rfl rfl
theorem d83_50 : decode (pz_b 83) 50 = .ok (.aload_n 0, 1) := by decide +kernel
theorem q83_50 {dA : Nat → ClassId} {d : Nat} {st : List Value} {f : pz_F} {Q : Option Value → pz_F → Prop} {v1 : Value} {x : Nat} : pz_R dA d 83 50 [.ref x, v1] st f Q = pz_R dA d 83 51 [.ref x, v1] (.ref x :: st) f Q := pz_go (pz_so d83_50 rfl)
theorem d83_51 : decode (pz_b 83) 51 = .ok (.getfield 18, 3) := by decide +kernel
theorem q83_51 {dA : Nat → ClassId} {d : Nat} {st : List Value} {f : pz_F} {Q : Option Value → pz_F → Prop} {v0 v1 : Value} {a : Nat} : pz_R dA d 83 51 [v0, v1] (.ref a :: st) f Q = pz_o (pz_gf f a 5 2) (fun v => pz_R dA d 83 54 [v0, v1] (v :: st) f Q) := pz_gg d83_51 rfl
theorem d83_54 : decode (pz_b 83) 54 = .ok (.ireturn, 1) := by decide +kernel
theorem q83_54 {dA : Nat → ClassId} {d : Nat} {f : pz_F} {Q : Option Value → pz_F → Prop} {v0 v1 : Value} {x : Int32} : pz_R dA d 83 54 [v0, v1] [.int x] f Q = Q (some (.int x)) f := pz_gri d83_54 rfl rfl
theorem d83_55 : decode (pz_b 83) 55 = .ok (.aload_n 0, 1) := by decide +kernel
theorem q83_55 {dA : Nat → ClassId} {d : Nat} {st : List Value} {f : pz_F} {Q : Option Value → pz_F → Prop} {v1 : Value} {x : Nat} : pz_R dA d 83 55 [.ref x, v1] st f Q = pz_R dA d 83 56 [.ref x, v1] (.ref x :: st) f Q := pz_go (pz_so d83_55 rfl)
theorem d83_56 : decode (pz_b 83) 56 = .ok (.invokevirtual 21, 3) := by decide +kernel
theorem q83_56 {dA : Nat → ClassId} {d : Nat} {st : List Value} {f : pz_F} {Q : Option Value → pz_F → Prop} {v0 v1 : Value} {b : Nat} (hr : st.length ≤ 4) : pz_R dA (d + 1) 83 56 [v0, v1] (.ref b :: st) f Q = pz_o (pz_gu f b 5) (fun _ => pz_C dA d 84 [.ref b] f (fun r f' => pz_R dA (d + 1) 83 59 [v0, v1] (r.toList ++ st) f' Q)) := pz_gcv (As := []) d83_56 rfl rfl rfl hr
theorem d83_59 : decode (pz_b 83) 59 = .ok (.ireturn, 1) := by decide +kernel
theorem q83_59 {dA : Nat → ClassId} {d : Nat} {f : pz_F} {Q : Option Value → pz_F → Prop} {v0 v1 : Value} {x : Int32} : pz_R dA d 83 59 [v0, v1] [.int x] f Q = Q (some (.int x)) f := pz_gri d83_59 rfl rfl
theorem d83_60 : decode (pz_b 83) 60 = .ok (.aload_n 0, 1) := by decide +kernel
theorem q83_60 {dA : Nat → ClassId} {d : Nat} {st : List Value} {f : pz_F} {Q : Option Value → pz_F → Prop} {v1 : Value} {x : Nat} : pz_R dA d 83 60 [.ref x, v1] st f Q = pz_R dA d 83 61 [.ref x, v1] (.ref x :: st) f Q := pz_go (pz_so d83_60 rfl)
theorem d83_61 : decode (pz_b 83) 61 = .ok (.invokevirtual 25, 3) := by decide +kernel
theorem q83_61 {dA : Nat → ClassId} {d : Nat} {st : List Value} {f : pz_F} {Q : Option Value → pz_F → Prop} {v0 v1 : Value} {b : Nat} (hr : st.length ≤ 4) : pz_R dA (d + 1) 83 61 [v0, v1] (.ref b :: st) f Q = pz_o (pz_gu f b 5) (fun _ => pz_C dA d 85 [.ref b] f (fun r f' => pz_R dA (d + 1) 83 64 [v0, v1] (r.toList ++ st) f' Q)) := pz_gcv (As := []) d83_61 rfl rfl rfl hr
theorem d83_64 : decode (pz_b 83) 64 = .ok (.ireturn, 1) := by decide +kernel
theorem q83_64 {dA : Nat → ClassId} {d : Nat} {f : pz_F} {Q : Option Value → pz_F → Prop} {v0 v1 : Value} {x : Int32} : pz_R dA d 83 64 [v0, v1] [.int x] f Q = Q (some (.int x)) f := pz_gri d83_64 rfl rfl
theorem d83_65 : decode (pz_b 83) 65 = .ok (.aload_n 0, 1) := by decide +kernel
theorem q83_65 {dA : Nat → ClassId} {d : Nat} {st : List Value} {f : pz_F} {Q : Option Value → pz_F → Prop} {v1 : Value} {x : Nat} : pz_R dA d 83 65 [.ref x, v1] st f Q = pz_R dA d 83 66 [.ref x, v1] (.ref x :: st) f Q := pz_go (pz_so d83_65 rfl)
theorem d83_66 : decode (pz_b 83) 66 = .ok (.getfield 28, 3) := by decide +kernel
theorem q83_66 {dA : Nat → ClassId} {d : Nat} {st : List Value} {f : pz_F} {Q : Option Value → pz_F → Prop} {v0 v1 : Value} {a : Nat} : pz_R dA d 83 66 [v0, v1] (.ref a :: st) f Q = pz_o (pz_gf f a 5 3) (fun v => pz_R dA d 83 69 [v0, v1] (v :: st) f Q) := pz_gg d83_66 rfl
theorem d83_69 : decode (pz_b 83) 69 = .ok (.ireturn, 1) := by decide +kernel
theorem q83_69 {dA : Nat → ClassId} {d : Nat} {f : pz_F} {Q : Option Value → pz_F → Prop} {v0 v1 : Value} {x : Int32} : pz_R dA d 83 69 [v0, v1] [.int x] f Q = Q (some (.int x)) f := pz_gri d83_69 rfl rfl
theorem d83_70 : decode (pz_b 83) 70 = .ok (.bipush (-2), 2) := by decide +kernel
theorem q83_70 {dA : Nat → ClassId} {d : Nat} {st : List Value} {f : pz_F} {Q : Option Value → pz_F → Prop} {v0 v1 : Value} : pz_R dA d 83 70 [v0, v1] st f Q = pz_R dA d 83 72 [v0, v1] (.int (-2) :: st) f Q := pz_go (pz_so d83_70 rfl)
theorem d83_72 : decode (pz_b 83) 72 = .ok (.ireturn, 1) := by decide +kernel
theorem q83_72 {dA : Nat → ClassId} {d : Nat} {f : pz_F} {Q : Option Value → pz_F → Prop} {v0 v1 : Value} {x : Int32} : pz_R dA d 83 72 [v0, v1] [.int x] f Q = Q (some (.int x)) f := pz_gri d83_72 rfl rfl
/-! M_subject ()I -/
theorem e84 {dA : Nat → ClassId} {d : Nat} {f : pz_F} {Q : Option Value → pz_F → Prop} {a0 : Nat} : pz_C dA d 84 [.ref a0] f Q = pz_R dA d 84 0 [.ref a0] [] f Q := rfl
theorem d84_0 : decode (pz_b 84) 0 = .ok (.aload_n 0, 1) := by decide +kernel
theorem q84_0 {dA : Nat → ClassId} {d : Nat} {st : List Value} {f : pz_F} {Q : Option Value → pz_F → Prop} {x : Nat} : pz_R dA d 84 0 [.ref x] st f Q = pz_R dA d 84 1 [.ref x] (.ref x :: st) f Q := pz_go (pz_so d84_0 rfl)
theorem d84_1 : decode (pz_b 84) 1 = .ok (.getfield 9, 3) := by decide +kernel
theorem q84_1 {dA : Nat → ClassId} {d : Nat} {st : List Value} {f : pz_F} {Q : Option Value → pz_F → Prop} {v0 : Value} {a : Nat} : pz_R dA d 84 1 [v0] (.ref a :: st) f Q = pz_o (pz_gf f a 5 0) (fun v => pz_R dA d 84 4 [v0] (v :: st) f Q) := pz_gg d84_1 rfl
theorem d84_4 : decode (pz_b 84) 4 = .ok (.tableswitch 42 3 6 #[32, 32, 32, 37], 32) := by decide +kernel
theorem q84_4 {dA : Nat → ClassId} {d : Nat} {st : List Value} {f : pz_F} {Q : Option Value → pz_F → Prop} {v0 : Value} {x : Int32} : pz_R dA d 84 4 [v0] (.int x :: st) f Q = if x = 3 then pz_R dA d 84 36 [v0] st f Q else (if x = 4 then pz_R dA d 84 36 [v0] st f Q else (if x = 5 then pz_R dA d 84 36 [v0] st f Q else (if x = 6 then pz_R dA d 84 41 [v0] st f Q else (pz_R dA d 84 46 [v0] st f Q)))) := by
  by_cases h3 : x = 3
  · subst h3
    rw [if_pos rfl]
    exact pz_gti d84_4 (by decide) rfl rfl
  rw [if_neg h3]
  by_cases h4 : x = 4
  · subst h4
    rw [if_pos rfl]
    exact pz_gti d84_4 (by decide) rfl rfl
  rw [if_neg h4]
  by_cases h5 : x = 5
  · subst h5
    rw [if_pos rfl]
    exact pz_gti d84_4 (by decide) rfl rfl
  rw [if_neg h5]
  by_cases h6 : x = 6
  · subst h6
    rw [if_pos rfl]
    exact pz_gti d84_4 (by decide) rfl rfl
  rw [if_neg h6]
  refine pz_gtd d84_4 ?_ rfl
  have g3 : ¬ x.toInt = 3 := lv_neT h3 (by decide)
  have g4 : ¬ x.toInt = 4 := lv_neT h4 (by decide)
  have g5 : ¬ x.toInt = 5 := lv_neT h5 (by decide)
  have g6 : ¬ x.toInt = 6 := lv_neT h6 (by decide)
  omega
theorem d84_36 : decode (pz_b 84) 36 = .ok (.aload_n 0, 1) := by decide +kernel
theorem q84_36 {dA : Nat → ClassId} {d : Nat} {st : List Value} {f : pz_F} {Q : Option Value → pz_F → Prop} {x : Nat} : pz_R dA d 84 36 [.ref x] st f Q = pz_R dA d 84 37 [.ref x] (.ref x :: st) f Q := pz_go (pz_so d84_36 rfl)
theorem d84_37 : decode (pz_b 84) 37 = .ok (.getfield 31, 3) := by decide +kernel
theorem q84_37 {dA : Nat → ClassId} {d : Nat} {st : List Value} {f : pz_F} {Q : Option Value → pz_F → Prop} {v0 : Value} {a : Nat} : pz_R dA d 84 37 [v0] (.ref a :: st) f Q = pz_o (pz_gf f a 5 5) (fun v => pz_R dA d 84 40 [v0] (v :: st) f Q) := pz_gg d84_37 rfl
theorem d84_40 : decode (pz_b 84) 40 = .ok (.ireturn, 1) := by decide +kernel
theorem q84_40 {dA : Nat → ClassId} {d : Nat} {f : pz_F} {Q : Option Value → pz_F → Prop} {v0 : Value} {x : Int32} : pz_R dA d 84 40 [v0] [.int x] f Q = Q (some (.int x)) f := pz_gri d84_40 rfl rfl
theorem d84_41 : decode (pz_b 84) 41 = .ok (.aload_n 0, 1) := by decide +kernel
theorem q84_41 {dA : Nat → ClassId} {d : Nat} {st : List Value} {f : pz_F} {Q : Option Value → pz_F → Prop} {x : Nat} : pz_R dA d 84 41 [.ref x] st f Q = pz_R dA d 84 42 [.ref x] (.ref x :: st) f Q := pz_go (pz_so d84_41 rfl)
theorem d84_42 : decode (pz_b 84) 42 = .ok (.getfield 34, 3) := by decide +kernel
theorem q84_42 {dA : Nat → ClassId} {d : Nat} {st : List Value} {f : pz_F} {Q : Option Value → pz_F → Prop} {v0 : Value} {a : Nat} : pz_R dA d 84 42 [v0] (.ref a :: st) f Q = pz_o (pz_gf f a 5 13) (fun v => pz_R dA d 84 45 [v0] (v :: st) f Q) := pz_gg d84_42 rfl
theorem d84_45 : decode (pz_b 84) 45 = .ok (.ireturn, 1) := by decide +kernel
theorem q84_45 {dA : Nat → ClassId} {d : Nat} {f : pz_F} {Q : Option Value → pz_F → Prop} {v0 : Value} {x : Int32} : pz_R dA d 84 45 [v0] [.int x] f Q = Q (some (.int x)) f := pz_gri d84_45 rfl rfl
theorem d84_46 : decode (pz_b 84) 46 = .ok (.aload_n 0, 1) := by decide +kernel
theorem q84_46 {dA : Nat → ClassId} {d : Nat} {st : List Value} {f : pz_F} {Q : Option Value → pz_F → Prop} {x : Nat} : pz_R dA d 84 46 [.ref x] st f Q = pz_R dA d 84 47 [.ref x] (.ref x :: st) f Q := pz_go (pz_so d84_46 rfl)
theorem d84_47 : decode (pz_b 84) 47 = .ok (.getfield 37, 3) := by decide +kernel
theorem q84_47 {dA : Nat → ClassId} {d : Nat} {st : List Value} {f : pz_F} {Q : Option Value → pz_F → Prop} {v0 : Value} {a : Nat} : pz_R dA d 84 47 [v0] (.ref a :: st) f Q = pz_o (pz_gf f a 5 4) (fun v => pz_R dA d 84 50 [v0] (v :: st) f Q) := pz_gg d84_47 rfl
theorem d84_50 : decode (pz_b 84) 50 = .ok (.ireturn, 1) := by decide +kernel
theorem q84_50 {dA : Nat → ClassId} {d : Nat} {f : pz_F} {Q : Option Value → pz_F → Prop} {v0 : Value} {x : Int32} : pz_R dA d 84 50 [v0] [.int x] f Q = Q (some (.int x)) f := pz_gri d84_50 rfl rfl
/-! M_detail ()I -/
theorem e85 {dA : Nat → ClassId} {d : Nat} {f : pz_F} {Q : Option Value → pz_F → Prop} {a0 : Nat} : pz_C dA d 85 [.ref a0] f Q = pz_R dA d 85 0 [.ref a0] [] f Q := rfl
theorem d85_0 : decode (pz_b 85) 0 = .ok (.aload_n 0, 1) := by decide +kernel
theorem q85_0 {dA : Nat → ClassId} {d : Nat} {st : List Value} {f : pz_F} {Q : Option Value → pz_F → Prop} {x : Nat} : pz_R dA d 85 0 [.ref x] st f Q = pz_R dA d 85 1 [.ref x] (.ref x :: st) f Q := pz_go (pz_so d85_0 rfl)
theorem d85_1 : decode (pz_b 85) 1 = .ok (.getfield 9, 3) := by decide +kernel
theorem q85_1 {dA : Nat → ClassId} {d : Nat} {st : List Value} {f : pz_F} {Q : Option Value → pz_F → Prop} {v0 : Value} {a : Nat} : pz_R dA d 85 1 [v0] (.ref a :: st) f Q = pz_o (pz_gf f a 5 0) (fun v => pz_R dA d 85 4 [v0] (v :: st) f Q) := pz_gg d85_1 rfl
theorem d85_4 : decode (pz_b 85) 4 = .ok (.tableswitch 51 1 5 #[36, 51, 51, 41, 46], 36) := by decide +kernel
theorem q85_4 {dA : Nat → ClassId} {d : Nat} {st : List Value} {f : pz_F} {Q : Option Value → pz_F → Prop} {v0 : Value} {x : Int32} : pz_R dA d 85 4 [v0] (.int x :: st) f Q = if x = 1 then pz_R dA d 85 40 [v0] st f Q else (if x = 2 then pz_R dA d 85 55 [v0] st f Q else (if x = 3 then pz_R dA d 85 55 [v0] st f Q else (if x = 4 then pz_R dA d 85 45 [v0] st f Q else (if x = 5 then pz_R dA d 85 50 [v0] st f Q else (pz_R dA d 85 55 [v0] st f Q))))) := by
  by_cases h1 : x = 1
  · subst h1
    rw [if_pos rfl]
    exact pz_gti d85_4 (by decide) rfl rfl
  rw [if_neg h1]
  by_cases h2 : x = 2
  · subst h2
    rw [if_pos rfl]
    exact pz_gti d85_4 (by decide) rfl rfl
  rw [if_neg h2]
  by_cases h3 : x = 3
  · subst h3
    rw [if_pos rfl]
    exact pz_gti d85_4 (by decide) rfl rfl
  rw [if_neg h3]
  by_cases h4 : x = 4
  · subst h4
    rw [if_pos rfl]
    exact pz_gti d85_4 (by decide) rfl rfl
  rw [if_neg h4]
  by_cases h5 : x = 5
  · subst h5
    rw [if_pos rfl]
    exact pz_gti d85_4 (by decide) rfl rfl
  rw [if_neg h5]
  refine pz_gtd d85_4 ?_ rfl
  have g1 : ¬ x.toInt = 1 := lv_neT h1 (by decide)
  have g2 : ¬ x.toInt = 2 := lv_neT h2 (by decide)
  have g3 : ¬ x.toInt = 3 := lv_neT h3 (by decide)
  have g4 : ¬ x.toInt = 4 := lv_neT h4 (by decide)
  have g5 : ¬ x.toInt = 5 := lv_neT h5 (by decide)
  omega
theorem d85_40 : decode (pz_b 85) 40 = .ok (.aload_n 0, 1) := by decide +kernel
theorem q85_40 {dA : Nat → ClassId} {d : Nat} {st : List Value} {f : pz_F} {Q : Option Value → pz_F → Prop} {x : Nat} : pz_R dA d 85 40 [.ref x] st f Q = pz_R dA d 85 41 [.ref x] (.ref x :: st) f Q := pz_go (pz_so d85_40 rfl)
theorem d85_41 : decode (pz_b 85) 41 = .ok (.getfield 31, 3) := by decide +kernel
theorem q85_41 {dA : Nat → ClassId} {d : Nat} {st : List Value} {f : pz_F} {Q : Option Value → pz_F → Prop} {v0 : Value} {a : Nat} : pz_R dA d 85 41 [v0] (.ref a :: st) f Q = pz_o (pz_gf f a 5 5) (fun v => pz_R dA d 85 44 [v0] (v :: st) f Q) := pz_gg d85_41 rfl
theorem d85_44 : decode (pz_b 85) 44 = .ok (.ireturn, 1) := by decide +kernel
theorem q85_44 {dA : Nat → ClassId} {d : Nat} {f : pz_F} {Q : Option Value → pz_F → Prop} {v0 : Value} {x : Int32} : pz_R dA d 85 44 [v0] [.int x] f Q = Q (some (.int x)) f := pz_gri d85_44 rfl rfl
theorem d85_45 : decode (pz_b 85) 45 = .ok (.aload_n 0, 1) := by decide +kernel
theorem q85_45 {dA : Nat → ClassId} {d : Nat} {st : List Value} {f : pz_F} {Q : Option Value → pz_F → Prop} {x : Nat} : pz_R dA d 85 45 [.ref x] st f Q = pz_R dA d 85 46 [.ref x] (.ref x :: st) f Q := pz_go (pz_so d85_45 rfl)
theorem d85_46 : decode (pz_b 85) 46 = .ok (.getfield 40, 3) := by decide +kernel
theorem q85_46 {dA : Nat → ClassId} {d : Nat} {st : List Value} {f : pz_F} {Q : Option Value → pz_F → Prop} {v0 : Value} {a : Nat} : pz_R dA d 85 46 [v0] (.ref a :: st) f Q = pz_o (pz_gf f a 5 6) (fun v => pz_R dA d 85 49 [v0] (v :: st) f Q) := pz_gg d85_46 rfl
theorem d85_49 : decode (pz_b 85) 49 = .ok (.ireturn, 1) := by decide +kernel
theorem q85_49 {dA : Nat → ClassId} {d : Nat} {f : pz_F} {Q : Option Value → pz_F → Prop} {v0 : Value} {x : Int32} : pz_R dA d 85 49 [v0] [.int x] f Q = Q (some (.int x)) f := pz_gri d85_49 rfl rfl
theorem d85_50 : decode (pz_b 85) 50 = .ok (.aload_n 0, 1) := by decide +kernel
theorem q85_50 {dA : Nat → ClassId} {d : Nat} {st : List Value} {f : pz_F} {Q : Option Value → pz_F → Prop} {x : Nat} : pz_R dA d 85 50 [.ref x] st f Q = pz_R dA d 85 51 [.ref x] (.ref x :: st) f Q := pz_go (pz_so d85_50 rfl)
theorem d85_51 : decode (pz_b 85) 51 = .ok (.getfield 43, 3) := by decide +kernel
theorem q85_51 {dA : Nat → ClassId} {d : Nat} {st : List Value} {f : pz_F} {Q : Option Value → pz_F → Prop} {v0 : Value} {a : Nat} : pz_R dA d 85 51 [v0] (.ref a :: st) f Q = pz_o (pz_gf f a 5 10) (fun v => pz_R dA d 85 54 [v0] (v :: st) f Q) := pz_gg d85_51 rfl
theorem d85_54 : decode (pz_b 85) 54 = .ok (.ireturn, 1) := by decide +kernel
theorem q85_54 {dA : Nat → ClassId} {d : Nat} {f : pz_F} {Q : Option Value → pz_F → Prop} {v0 : Value} {x : Int32} : pz_R dA d 85 54 [v0] [.int x] f Q = Q (some (.int x)) f := pz_gri d85_54 rfl rfl
theorem d85_55 : decode (pz_b 85) 55 = .ok (.iconst 0, 1) := by decide +kernel
theorem q85_55 {dA : Nat → ClassId} {d : Nat} {st : List Value} {f : pz_F} {Q : Option Value → pz_F → Prop} {v0 : Value} : pz_R dA d 85 55 [v0] st f Q = pz_R dA d 85 56 [v0] (.int 0 :: st) f Q := pz_go (pz_so d85_55 rfl)
theorem d85_56 : decode (pz_b 85) 56 = .ok (.ireturn, 1) := by decide +kernel
theorem q85_56 {dA : Nat → ClassId} {d : Nat} {f : pz_F} {Q : Option Value → pz_F → Prop} {v0 : Value} {x : Int32} : pz_R dA d 85 56 [v0] [.int x] f Q = Q (some (.int x)) f := pz_gri d85_56 rfl rfl
