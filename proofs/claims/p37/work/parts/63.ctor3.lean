theorem cdX0_init : yX0_init.cls ≠ "java/lang/invoke/MethodHandle" ∧ yX0_init.cls ≠ "java/lang/invoke/VarHandle" ∧ (parseMethodDescriptor yX0_init.desc).map (fun d => d.parameters.length) = some 0 := by decide +kernel
theorem cdX1_init : yX1_init.cls ≠ "java/lang/invoke/MethodHandle" ∧ yX1_init.cls ≠ "java/lang/invoke/VarHandle" ∧ (parseMethodDescriptor yX1_init.desc).map (fun d => d.parameters.length) = some 0 := by decide +kernel
theorem cdX2_init : yX2_init.cls ≠ "java/lang/invoke/MethodHandle" ∧ yX2_init.cls ≠ "java/lang/invoke/VarHandle" ∧ (parseMethodDescriptor yX2_init.desc).map (fun d => d.parameters.length) = some 0 := by decide +kernel
theorem cdX3_init : yX3_init.cls ≠ "java/lang/invoke/MethodHandle" ∧ yX3_init.cls ≠ "java/lang/invoke/VarHandle" ∧ (parseMethodDescriptor yX3_init.desc).map (fun d => d.parameters.length) = some 2 := by decide +kernel
theorem cdX4_init : yX4_init.cls ≠ "java/lang/invoke/MethodHandle" ∧ yX4_init.cls ≠ "java/lang/invoke/VarHandle" ∧ (parseMethodDescriptor yX4_init.desc).map (fun d => d.parameters.length) = some 0 := by decide +kernel
theorem lcX5_init_41 : Cond.classLink RX5 41 RX4 ∈ wsX5_init := by decide +kernel
theorem lX5_init_12 : Cond.fieldLink RX5 12 (TX5 0).1 (TX5 0).2.1 (TX5 0).2.2.1 ∈ wsX5_init := by decide +kernel
theorem lX5_init_21 : Cond.fieldLink RX5 21 (TX5 1).1 (TX5 1).2.1 (TX5 1).2.2.1 ∈ wsX5_init := by decide +kernel
theorem lX5_init_30 : Cond.fieldLink RX5 30 (TX5 2).1 (TX5 2).2.1 (TX5 2).2.2.1 ∈ wsX5_init := by decide +kernel
theorem lX5_init_37 : Cond.fieldLink RX5 37 (TX5 3).1 (TX5 3).2.1 (TX5 3).2.2.1 ∈ wsX5_init := by decide +kernel
theorem lX5_init_43 : Cond.fieldLink RX5 43 (TX5 4).1 (TX5 4).2.1 (TX5 4).2.2.1 ∈ wsX5_init := by decide +kernel
theorem lX5_init_20 : Cond.initialized yX2_init.cls ∈ wsX5_init ∧ Cond.instanceMethod yX2_init ∈ wsX5_init := by decide +kernel
theorem lX5_init_36 : Cond.initialized yX0_init.cls ∈ wsX5_init ∧ Cond.instanceMethod yX0_init ∈ wsX5_init := by decide +kernel
theorem lX5_init_47 : Cond.initialized yX4_init.cls ∈ wsX5_init ∧ Cond.instanceMethod yX4_init ∈ wsX5_init := by decide +kernel
theorem lX5_init_11 : Cond.initialized yX1_init.cls ∈ wsX5_init ∧ Cond.methodLink RX5 11 yX1_init ∈ wsX5_init ∧ Cond.instanceMethod yX1_init ∈ wsX5_init := by decide +kernel
theorem lX5_init_27 : Cond.initialized yX3_init.cls ∈ wsX5_init ∧ Cond.methodLink RX5 27 yX3_init ∈ wsX5_init ∧ Cond.instanceMethod yX3_init ∈ wsX5_init := by decide +kernel
theorem lX5_init_18 : ∀ w ∈ ([Cond.classLink RX5 18 RX2, Cond.instantiable RX2 3, Cond.initialized RX2] : List Cond), w ∈ wsX5_init := by decide +kernel
theorem lX5_init_25 : ∀ w ∈ ([Cond.classLink RX5 25 RX3, Cond.instantiable RX3 13, Cond.initialized RX3] : List Cond), w ∈ wsX5_init := by decide +kernel
theorem lX5_init_34 : ∀ w ∈ ([Cond.classLink RX5 34 RX0, Cond.instantiable RX0 1, Cond.initialized RX0] : List Cond), w ∈ wsX5_init := by decide +kernel
theorem lX5_init_41 : ∀ w ∈ ([Cond.classLink RX5 41 RX4, Cond.instantiable RX4 4, Cond.initialized RX4] : List Cond), w ∈ wsX5_init := by decide +kernel
theorem lX5_init_9 : ∀ w ∈ ([Cond.classLink RX5 9 RX1, Cond.instantiable RX1 4, Cond.initialized RX1] : List Cond), w ∈ wsX5_init := by decide +kernel
theorem lX5_init_3 : ∀ w ∈ ([Cond.methodLink RX5 3 Lib.objectInit, Cond.instanceMethod Lib.objectInit, Cond.code Lib.objectInit ⟨#[0xb1]⟩ 1 none] : List Cond), w ∈ wsX5_init := by decide +kernel
theorem iX5_init_X0 : ∀ w ∈ u_ws RX0 TX0 1, w ∈ wsX5_init := by decide +kernel
theorem iX5_init_X1 : ∀ w ∈ u_ws RX1 TX1 4, w ∈ wsX5_init := by decide +kernel
theorem iX5_init_X2 : ∀ w ∈ u_ws RX2 TX2 3, w ∈ wsX5_init := by decide +kernel
theorem iX5_init_X3 : ∀ w ∈ u_ws RX3 TX3 13, w ∈ wsX5_init := by decide +kernel
theorem iX5_init_X4 : ∀ w ∈ u_ws RX4 TX4 4, w ∈ wsX5_init := by decide +kernel
theorem iX5_init_X5 : ∀ w ∈ u_ws RX5 TX5 7, w ∈ wsX5_init := by decide +kernel
set_option maxHeartbeats 4000000 in
set_option maxRecDepth 100000 in
theorem k_X5_init (E : gE) (l : Launch) {a_X : Nat}   : gMetN E l yX5_init wsX5_init { frames := 4, cells := 23, slots := 1566, locals := 93 } 23 1566 [.ref a_X] [(a_X, .inr (5, [.null, .null, .null, .null, .null, .int (iI 0), .int (iI 0)]))] (fun v w => ∃ (a_P a_hs a_se a_L a_pc a_tn a_R a_sh a_fi a_wa a_us a_ly a_jl a_D a_Q a_S0 a_ce0 a_S1 a_ce1 a_S2 a_ce2 a_S3 a_ce3 : Nat) (f : Int → Int), (v = none ∧ ∀ p e : Int, 0 ≤ p ∧ p < 1 * 1 → 0 ≤ e ∧ e < 4 → f (p * 4 + e) = sdI 1 1 p e) ∧ w = [(a_X, .inr (5, [.ref a_P, .ref a_L, .ref a_R, .ref a_D, .ref a_Q, .int (iI 0), .int (iI 0)])), (a_P, .inr (1, [.ref a_hs, .ref a_se, .int (iI 1), .int (iI 1)])), (a_hs, aI E 200 (zrI (fun _ => 0) 200)), (a_se, aI E 100 f), (a_L, .inr (2, [.ref a_pc, .ref a_tn, .int (iI 0)])), (a_pc, aI E 25 (fun _ => 0)), (a_tn, aI E 25 (fun _ => 0)), (a_R, .inr (3, [.ref a_P, .ref a_L, .ref a_sh, .ref a_fi, .ref a_wa, .ref a_us, .ref a_ly, .ref a_jl, .int (iI 0), .int (iI 0), .int (iI 0), .int (iI 0), .int (iI 0)])), (a_sh, aI E 400 (fun _ => 0)), (a_fi, aI E 400 (fun _ => 0)), (a_wa, aI E 100 (fun _ => 0)), (a_us, aZ E 25 (fun _ => 0)), (a_ly, aI E 25 (fun _ => 0)), (a_jl, aI E 25 (fun _ => 0)), (a_D, .inr (0, [.long 0])), (a_Q, aQ E 4 (uQ (uQ (uQ (uQ (fun _ => none) 0 (some a_S0)) 1 (some a_S1)) 2 (some a_S2)) 3 (some a_S3))), (a_S0, .inr (4, [.ref a_ce0, .int (iI 0), .int (iI 0), .int (iI 0)])), (a_ce0, aI E 50 (fun _ => 0)), (a_S1, .inr (4, [.ref a_ce1, .int (iI 0), .int (iI 0), .int (iI 0)])), (a_ce1, aI E 50 (fun _ => 0)), (a_S2, .inr (4, [.ref a_ce2, .int (iI 0), .int (iI 0), .int (iI 0)])), (a_ce2, aI E 50 (fun _ => 0)), (a_S3, .inr (4, [.ref a_ce3, .int (iI 0), .int (iI 0), .int (iI 0)])), (a_ce3, aI E 50 (fun _ => 0))]) := by
  refine g_startN (cc := cX5_init) (maxL := 2) (ret := none) (by decide) rfl (Nat.le_of_ble_eq_true rfl) ?_
  intro p_ e_ s_ m_ args_ below_ meth_ c_ A_ C NW hr hnm
  refine g_aload_n 1 C 0 dX5_init_0 rfl rfl ?_
  refine g_objInit 4 C dX5_init_1 rfl lX5_init_3 (Nat.le_of_ble_eq_true rfl) (Nat.le_of_ble_eq_true rfl) ?_
  refine g_aload_n 5 C 0 dX5_init_4 rfl rfl ?_
  refine g_new 8 C 1 [.null, .null, .int (iI 0), .int (iI 0)] tyX1 tyX1_ok iX5_init_X1 lX5_init_9 dX5_init_5 rfl rfl (fun j hj => by rcases (show j = 0 ∨ j = 1 ∨ j = 2 ∨ j = 3 by omega) with rfl | rfl | rfl | rfl <;> rfl) (Nat.le_of_ble_eq_true rfl) (Nat.le_of_ble_eq_true rfl) ?_
  intro a_P
  refine g_w (ws' := [(_, .inr (5, [_, _, _, _, _, _, _])), (_, .inr (1, [_, _, _, _]))]) [0] rfl rfl ?_
  refine g_dup 9 C dX5_init_8 rfl rfl ?_
  have q9 := lX5_init_11
  refine g_callIN (wr := [(_, .inr (5, [_, _, _, _, _, _, _]))]) 12 C [1] [0] dX5_init_9 rfl (k_X1_init E l ) (cwI 0 C.2.2.2.2.1 gX5_init_X1_init rfl rfl rfl (C.2.2.2.2.1 _ q9.1) (C.2.2.2.2.1 _ q9.2.1) (C.2.2.2.2.1 _ q9.2.2) rfl cdX1_init ⟨Nat.le_of_ble_eq_true rfl, Nat.le_of_ble_eq_true rfl⟩) rfl rfl rfl rfl rfl (by decide) rfl (Nat.le_of_ble_eq_true rfl) ⟨Nat.le_of_ble_eq_true rfl, Nat.le_of_ble_eq_true rfl⟩ ?_
  rintro _ _ ⟨a_hs, a_se, f_9, ⟨rfl, hse_9⟩, rfl⟩
  refine g_w (ws' := [(_, .inr (5, [_, _, _, _, _, _, _])), (_, .inr (1, [_, _, _, _])), (_, aI _ _ _), (_, aI _ _ _)]) [0] rfl rfl ?_
  refine g_putF (ws' := [(_, .inr (5, [_, _, _, _, _, _, _])), (_, .inr (1, [_, _, _, _])), (_, aI _ _ _), (_, aI _ _ _)]) 15 C 0 0 5 tyX5 tyX5_ok nmX5 iX5_init_X5 lX5_init_12 hnm rfl dX5_init_12 rfl rfl rfl (by decide) rfl rfl rfl (Nat.le_of_ble_eq_true rfl) rfl ?_
  refine g_aload_n 16 C 0 dX5_init_15 rfl rfl ?_
  refine g_new 19 C 2 [.null, .null, .int (iI 0)] tyX2 tyX2_ok iX5_init_X2 lX5_init_18 dX5_init_16 rfl rfl (fun j hj => by rcases (show j = 0 ∨ j = 1 ∨ j = 2 by omega) with rfl | rfl | rfl <;> rfl) (Nat.le_of_ble_eq_true rfl) (Nat.le_of_ble_eq_true rfl) ?_
  intro a_L
  refine g_w (ws' := [(_, .inr (5, [_, _, _, _, _, _, _])), (_, .inr (1, [_, _, _, _])), (_, aI _ _ _), (_, aI _ _ _), (_, .inr (2, [_, _, _]))]) [0] rfl rfl ?_
  refine g_dup 20 C dX5_init_19 rfl rfl ?_
  refine g_callIn (wr := [(_, .inr (5, [_, _, _, _, _, _, _])), (_, .inr (1, [_, _, _, _])), (_, aI _ _ _), (_, aI _ _ _)]) 23 C [4] [0, 1, 2, 3] dX5_init_20 rfl (k_X2_init E l ) ⟨va_cnB 0 C.2.2.2.2.1 gX5_init_X2_init_n20 rfl rfl rfl NW.1 (C.2.2.2.2.1 _ lX5_init_20.1) cdX2_init ⟨Nat.le_of_ble_eq_true rfl, Nat.le_of_ble_eq_true rfl⟩, rfl, C.2.2.2.2.1 _ lX5_init_20.2⟩ rfl rfl rfl rfl rfl (by decide) rfl (Nat.le_of_ble_eq_true rfl) ⟨Nat.le_of_ble_eq_true rfl, Nat.le_of_ble_eq_true rfl⟩ ?_
  rintro _ _ ⟨a_pc, a_tn, rfl, rfl⟩
  refine g_w (ws' := [(_, .inr (5, [_, _, _, _, _, _, _])), (_, .inr (1, [_, _, _, _])), (_, aI _ _ _), (_, aI _ _ _), (_, .inr (2, [_, _, _])), (_, aI _ _ _), (_, aI _ _ _)]) [0] rfl rfl ?_
  refine g_putF (ws' := [(_, .inr (5, [_, _, _, _, _, _, _])), (_, .inr (1, [_, _, _, _])), (_, aI _ _ _), (_, aI _ _ _), (_, .inr (2, [_, _, _])), (_, aI _ _ _), (_, aI _ _ _)]) 26 C 0 1 5 tyX5 tyX5_ok nmX5 iX5_init_X5 lX5_init_21 hnm rfl dX5_init_23 rfl rfl rfl (by decide) rfl rfl rfl (Nat.le_of_ble_eq_true rfl) rfl ?_
  refine g_aload_n 27 C 0 dX5_init_26 rfl rfl ?_
  refine g_new 30 C 3 [.null, .null, .null, .null, .null, .null, .null, .null, .int (iI 0), .int (iI 0), .int (iI 0), .int (iI 0), .int (iI 0)] tyX3 tyX3_ok iX5_init_X3 lX5_init_25 dX5_init_27 rfl rfl (fun j hj => by rcases (show j = 0 ∨ j = 1 ∨ j = 2 ∨ j = 3 ∨ j = 4 ∨ j = 5 ∨ j = 6 ∨ j = 7 ∨ j = 8 ∨ j = 9 ∨ j = 10 ∨ j = 11 ∨ j = 12 by omega) with rfl | rfl | rfl | rfl | rfl | rfl | rfl | rfl | rfl | rfl | rfl | rfl | rfl <;> rfl) (Nat.le_of_ble_eq_true rfl) (Nat.le_of_ble_eq_true rfl) ?_
  intro a_R
  refine g_w (ws' := [(_, .inr (5, [_, _, _, _, _, _, _])), (_, .inr (1, [_, _, _, _])), (_, aI _ _ _), (_, aI _ _ _), (_, .inr (2, [_, _, _])), (_, aI _ _ _), (_, aI _ _ _), (_, .inr (3, [_, _, _, _, _, _, _, _, _, _, _, _, _]))]) [0] rfl rfl ?_
  refine g_dup 31 C dX5_init_30 rfl rfl ?_
  refine g_aload_n 32 C 0 dX5_init_31 rfl rfl ?_
  refine g_get 35 C 0 0 5 iX5_init_X5 lX5_init_12 dX5_init_32 rfl rfl rfl (by decide) rfl ?_
  refine g_aload_n 36 C 0 dX5_init_35 rfl rfl ?_
  refine g_get 39 C 0 1 5 iX5_init_X5 lX5_init_21 dX5_init_36 rfl rfl rfl (by decide) rfl ?_
  have q39 := lX5_init_27
  refine g_callIN (wr := [(_, .inr (5, [_, _, _, _, _, _, _])), (_, .inr (1, [_, _, _, _])), (_, aI _ _ _), (_, aI _ _ _), (_, .inr (2, [_, _, _])), (_, aI _ _ _), (_, aI _ _ _)]) 42 C [7] [0, 1, 2, 3, 4, 5, 6] dX5_init_39 rfl (k_X3_init E l ) (cwI 2 C.2.2.2.2.1 gX5_init_X3_init rfl rfl rfl (C.2.2.2.2.1 _ q39.1) (C.2.2.2.2.1 _ q39.2.1) (C.2.2.2.2.1 _ q39.2.2) rfl cdX3_init ⟨Nat.le_of_ble_eq_true rfl, Nat.le_of_ble_eq_true rfl⟩) rfl rfl rfl rfl rfl (by decide) rfl (Nat.le_of_ble_eq_true rfl) ⟨Nat.le_of_ble_eq_true rfl, Nat.le_of_ble_eq_true rfl⟩ ?_
  rintro _ _ ⟨a_sh, a_fi, a_wa, a_us, a_ly, a_jl, rfl, rfl⟩
  refine g_w (ws' := [(_, .inr (5, [_, _, _, _, _, _, _])), (_, .inr (1, [_, _, _, _])), (_, aI _ _ _), (_, aI _ _ _), (_, .inr (2, [_, _, _])), (_, aI _ _ _), (_, aI _ _ _), (_, .inr (3, [_, _, _, _, _, _, _, _, _, _, _, _, _])), (_, aI _ _ _), (_, aI _ _ _), (_, aI _ _ _), (_, aZ _ _ _), (_, aI _ _ _), (_, aI _ _ _)]) [0] rfl rfl ?_
  refine g_putF (ws' := [(_, .inr (5, [_, _, _, _, _, _, _])), (_, .inr (1, [_, _, _, _])), (_, aI _ _ _), (_, aI _ _ _), (_, .inr (2, [_, _, _])), (_, aI _ _ _), (_, aI _ _ _), (_, .inr (3, [_, _, _, _, _, _, _, _, _, _, _, _, _])), (_, aI _ _ _), (_, aI _ _ _), (_, aI _ _ _), (_, aZ _ _ _), (_, aI _ _ _), (_, aI _ _ _)]) 45 C 0 2 5 tyX5 tyX5_ok nmX5 iX5_init_X5 lX5_init_30 hnm rfl dX5_init_42 rfl rfl rfl (by decide) rfl rfl rfl (Nat.le_of_ble_eq_true rfl) rfl ?_
  refine g_aload_n 46 C 0 dX5_init_45 rfl rfl ?_
  refine g_new 49 C 0 [.long 0] tyX0 tyX0_ok iX5_init_X0 lX5_init_34 dX5_init_46 rfl rfl (fun j hj => by rcases (show j = 0 by omega) with rfl <;> rfl) (Nat.le_of_ble_eq_true rfl) (Nat.le_of_ble_eq_true rfl) ?_
  intro a_D
  refine g_w (ws' := [(_, .inr (5, [_, _, _, _, _, _, _])), (_, .inr (1, [_, _, _, _])), (_, aI _ _ _), (_, aI _ _ _), (_, .inr (2, [_, _, _])), (_, aI _ _ _), (_, aI _ _ _), (_, .inr (3, [_, _, _, _, _, _, _, _, _, _, _, _, _])), (_, aI _ _ _), (_, aI _ _ _), (_, aI _ _ _), (_, aZ _ _ _), (_, aI _ _ _), (_, aI _ _ _), (_, .inr (0, [_]))]) [0] rfl rfl ?_
  refine g_dup 50 C dX5_init_49 rfl rfl ?_
  refine g_callIn (wr := [(_, .inr (5, [_, _, _, _, _, _, _])), (_, .inr (1, [_, _, _, _])), (_, aI _ _ _), (_, aI _ _ _), (_, .inr (2, [_, _, _])), (_, aI _ _ _), (_, aI _ _ _), (_, .inr (3, [_, _, _, _, _, _, _, _, _, _, _, _, _])), (_, aI _ _ _), (_, aI _ _ _), (_, aI _ _ _), (_, aZ _ _ _), (_, aI _ _ _), (_, aI _ _ _)]) 53 C [14] [0, 1, 2, 3, 4, 5, 6, 7, 8, 9, 10, 11, 12, 13] dX5_init_50 rfl (k_X0_init E l ) ⟨va_cnB 0 C.2.2.2.2.1 gX5_init_X0_init_n36 rfl rfl rfl NW.2.1 (C.2.2.2.2.1 _ lX5_init_36.1) cdX0_init ⟨Nat.le_of_ble_eq_true rfl, Nat.le_of_ble_eq_true rfl⟩, rfl, C.2.2.2.2.1 _ lX5_init_36.2⟩ rfl rfl rfl rfl rfl (by decide) rfl (Nat.le_of_ble_eq_true rfl) ⟨Nat.le_of_ble_eq_true rfl, Nat.le_of_ble_eq_true rfl⟩ ?_
  rintro _ _ ⟨rfl, rfl⟩
  refine g_w (ws' := [(_, .inr (5, [_, _, _, _, _, _, _])), (_, .inr (1, [_, _, _, _])), (_, aI _ _ _), (_, aI _ _ _), (_, .inr (2, [_, _, _])), (_, aI _ _ _), (_, aI _ _ _), (_, .inr (3, [_, _, _, _, _, _, _, _, _, _, _, _, _])), (_, aI _ _ _), (_, aI _ _ _), (_, aI _ _ _), (_, aZ _ _ _), (_, aI _ _ _), (_, aI _ _ _), (_, .inr (0, [_]))]) [0] rfl rfl ?_
  refine g_putF (ws' := [(_, .inr (5, [_, _, _, _, _, _, _])), (_, .inr (1, [_, _, _, _])), (_, aI _ _ _), (_, aI _ _ _), (_, .inr (2, [_, _, _])), (_, aI _ _ _), (_, aI _ _ _), (_, .inr (3, [_, _, _, _, _, _, _, _, _, _, _, _, _])), (_, aI _ _ _), (_, aI _ _ _), (_, aI _ _ _), (_, aZ _ _ _), (_, aI _ _ _), (_, aI _ _ _), (_, .inr (0, [_]))]) 56 C 0 3 5 tyX5 tyX5_ok nmX5 iX5_init_X5 lX5_init_37 hnm rfl dX5_init_53 rfl rfl rfl (by decide) rfl rfl rfl (Nat.le_of_ble_eq_true rfl) rfl ?_
  refine g_aload_n 57 C 0 dX5_init_56 rfl rfl ?_
  refine g_iconst 58 C dX5_init_57 rfl ?_
  refine g_newQ 61 C 4 lcX5_init_41 dX5_init_58 rfl (by decide) (Nat.le_of_ble_eq_true rfl) (Nat.le_of_ble_eq_true rfl) ?_
  intro a_Q
  refine g_w (ws' := [(_, .inr (5, [_, _, _, _, _, _, _])), (_, .inr (1, [_, _, _, _])), (_, aI _ _ _), (_, aI _ _ _), (_, .inr (2, [_, _, _])), (_, aI _ _ _), (_, aI _ _ _), (_, .inr (3, [_, _, _, _, _, _, _, _, _, _, _, _, _])), (_, aI _ _ _), (_, aI _ _ _), (_, aI _ _ _), (_, aZ _ _ _), (_, aI _ _ _), (_, aI _ _ _), (_, .inr (0, [_])), (_, aQ _ _ _)]) [0] rfl rfl ?_
  refine g_putF (ws' := [(_, .inr (5, [_, _, _, _, _, _, _])), (_, .inr (1, [_, _, _, _])), (_, aI _ _ _), (_, aI _ _ _), (_, .inr (2, [_, _, _])), (_, aI _ _ _), (_, aI _ _ _), (_, .inr (3, [_, _, _, _, _, _, _, _, _, _, _, _, _])), (_, aI _ _ _), (_, aI _ _ _), (_, aI _ _ _), (_, aZ _ _ _), (_, aI _ _ _), (_, aI _ _ _), (_, .inr (0, [_])), (_, aQ _ _ _)]) 64 C 0 4 5 tyX5 tyX5_ok nmX5 iX5_init_X5 lX5_init_43 hnm rfl dX5_init_61 rfl rfl rfl (by decide) rfl rfl rfl (Nat.le_of_ble_eq_true rfl) rfl ?_
  refine g_iconst 65 C dX5_init_64 rfl ?_
  refine g_istore_n (lv' := [(1, _), (0, _)]) 66 C dX5_init_65 rfl rfl (by decide) rfl ?_
  refine g_iload_n 67 C 0 dX5_init_66 rfl rfl ?_
  refine g_aload_n 68 C 1 dX5_init_67 rfl rfl ?_
  refine g_get 71 C 0 4 5 iX5_init_X5 lX5_init_43 dX5_init_68 rfl rfl rfl (by decide) rfl ?_
  refine g_alenQ 72 C 15 dX5_init_71 rfl rfl ?_
  refine g_icmp_ge 94 75 C dX5_init_72 (by decide) rfl (by omega) (fun q => absurd q (by omega)) ?_
  intro _
  refine g_aload_n 76 C 1 dX5_init_75 rfl rfl ?_
  refine g_get 79 C 0 4 5 iX5_init_X5 lX5_init_43 dX5_init_76 rfl rfl rfl (by decide) rfl ?_
  refine g_iload_n 80 C 0 dX5_init_79 rfl rfl ?_
  refine g_new 83 C 4 [.null, .int (iI 0), .int (iI 0), .int (iI 0)] tyX4 tyX4_ok iX5_init_X4 lX5_init_41 dX5_init_80 rfl rfl (fun j hj => by rcases (show j = 0 ∨ j = 1 ∨ j = 2 ∨ j = 3 by omega) with rfl | rfl | rfl | rfl <;> rfl) (Nat.le_of_ble_eq_true rfl) (Nat.le_of_ble_eq_true rfl) ?_
  intro a_S0
  refine g_w (ws' := [(_, .inr (5, [_, _, _, _, _, _, _])), (_, .inr (1, [_, _, _, _])), (_, aI _ _ _), (_, aI _ _ _), (_, .inr (2, [_, _, _])), (_, aI _ _ _), (_, aI _ _ _), (_, .inr (3, [_, _, _, _, _, _, _, _, _, _, _, _, _])), (_, aI _ _ _), (_, aI _ _ _), (_, aI _ _ _), (_, aZ _ _ _), (_, aI _ _ _), (_, aI _ _ _), (_, .inr (0, [_])), (_, aQ _ _ _), (_, .inr (4, [_, _, _, _]))]) [0, 1] rfl rfl ?_
  refine g_dup 84 C dX5_init_83 rfl rfl ?_
  refine g_callIn (wr := [(_, .inr (5, [_, _, _, _, _, _, _])), (_, .inr (1, [_, _, _, _])), (_, aI _ _ _), (_, aI _ _ _), (_, .inr (2, [_, _, _])), (_, aI _ _ _), (_, aI _ _ _), (_, .inr (3, [_, _, _, _, _, _, _, _, _, _, _, _, _])), (_, aI _ _ _), (_, aI _ _ _), (_, aI _ _ _), (_, aZ _ _ _), (_, aI _ _ _), (_, aI _ _ _), (_, .inr (0, [_])), (_, aQ _ _ _)]) 87 C [16] [0, 1, 2, 3, 4, 5, 6, 7, 8, 9, 10, 11, 12, 13, 14, 15] dX5_init_84 rfl (k_X4_init E l ) ⟨va_cnB 0 C.2.2.2.2.1 gX5_init_X4_init_n47 rfl rfl rfl NW.2.2 (C.2.2.2.2.1 _ lX5_init_47.1) cdX4_init ⟨Nat.le_of_ble_eq_true rfl, Nat.le_of_ble_eq_true rfl⟩, rfl, C.2.2.2.2.1 _ lX5_init_47.2⟩ rfl rfl rfl rfl rfl (by decide) rfl (Nat.le_of_ble_eq_true rfl) ⟨Nat.le_of_ble_eq_true rfl, Nat.le_of_ble_eq_true rfl⟩ ?_
  rintro _ _ ⟨a_ce0, rfl, rfl⟩
  refine g_w (ws' := [(_, .inr (5, [_, _, _, _, _, _, _])), (_, .inr (1, [_, _, _, _])), (_, aI _ _ _), (_, aI _ _ _), (_, .inr (2, [_, _, _])), (_, aI _ _ _), (_, aI _ _ _), (_, .inr (3, [_, _, _, _, _, _, _, _, _, _, _, _, _])), (_, aI _ _ _), (_, aI _ _ _), (_, aI _ _ _), (_, aZ _ _ _), (_, aI _ _ _), (_, aI _ _ _), (_, .inr (0, [_])), (_, aQ _ _ _), (_, .inr (4, [_, _, _, _])), (_, aI _ _ _)]) [0, 1] rfl rfl ?_
  refine g_aastore (ws' := [(_, .inr (5, [_, _, _, _, _, _, _])), (_, .inr (1, [_, _, _, _])), (_, aI _ _ _), (_, aI _ _ _), (_, .inr (2, [_, _, _])), (_, aI _ _ _), (_, aI _ _ _), (_, .inr (3, [_, _, _, _, _, _, _, _, _, _, _, _, _])), (_, aI _ _ _), (_, aI _ _ _), (_, aI _ _ _), (_, aZ _ _ _), (_, aI _ _ _), (_, aI _ _ _), (_, .inr (0, [_])), (_, aQ _ _ _), (_, .inr (4, [_, _, _, _])), (_, aI _ _ _)]) 88 C 15 16 dX5_init_87 rfl rfl rfl (by omega) rfl ?_
  refine g_iinc (lv' := [(1, .int (iI 1)), (0, _)]) 91 C 0 dX5_init_88 rfl rfl (by decide) rfl ?_
  refine g_goto 66 C dX5_init_91 (by decide) ?_
  refine g_iload_n 67 C 0 dX5_init_66 rfl rfl ?_
  refine g_aload_n 68 C 1 dX5_init_67 rfl rfl ?_
  refine g_get 71 C 0 4 5 iX5_init_X5 lX5_init_43 dX5_init_68 rfl rfl rfl (by decide) rfl ?_
  refine g_alenQ 72 C 15 dX5_init_71 rfl rfl ?_
  refine g_icmp_ge 94 75 C dX5_init_72 (by decide) rfl (by omega) (fun q => absurd q (by omega)) ?_
  intro _
  refine g_aload_n 76 C 1 dX5_init_75 rfl rfl ?_
  refine g_get 79 C 0 4 5 iX5_init_X5 lX5_init_43 dX5_init_76 rfl rfl rfl (by decide) rfl ?_
  refine g_iload_n 80 C 0 dX5_init_79 rfl rfl ?_
  refine g_new 83 C 4 [.null, .int (iI 0), .int (iI 0), .int (iI 0)] tyX4 tyX4_ok iX5_init_X4 lX5_init_41 dX5_init_80 rfl rfl (fun j hj => by rcases (show j = 0 ∨ j = 1 ∨ j = 2 ∨ j = 3 by omega) with rfl | rfl | rfl | rfl <;> rfl) (Nat.le_of_ble_eq_true rfl) (Nat.le_of_ble_eq_true rfl) ?_
  intro a_S1
  refine g_w (ws' := [(_, .inr (5, [_, _, _, _, _, _, _])), (_, .inr (1, [_, _, _, _])), (_, aI _ _ _), (_, aI _ _ _), (_, .inr (2, [_, _, _])), (_, aI _ _ _), (_, aI _ _ _), (_, .inr (3, [_, _, _, _, _, _, _, _, _, _, _, _, _])), (_, aI _ _ _), (_, aI _ _ _), (_, aI _ _ _), (_, aZ _ _ _), (_, aI _ _ _), (_, aI _ _ _), (_, .inr (0, [_])), (_, aQ _ _ _), (_, .inr (4, [_, _, _, _])), (_, aI _ _ _), (_, .inr (4, [_, _, _, _]))]) [0, 1] rfl rfl ?_
  refine g_dup 84 C dX5_init_83 rfl rfl ?_
  refine g_callIn (wr := [(_, .inr (5, [_, _, _, _, _, _, _])), (_, .inr (1, [_, _, _, _])), (_, aI _ _ _), (_, aI _ _ _), (_, .inr (2, [_, _, _])), (_, aI _ _ _), (_, aI _ _ _), (_, .inr (3, [_, _, _, _, _, _, _, _, _, _, _, _, _])), (_, aI _ _ _), (_, aI _ _ _), (_, aI _ _ _), (_, aZ _ _ _), (_, aI _ _ _), (_, aI _ _ _), (_, .inr (0, [_])), (_, aQ _ _ _), (_, .inr (4, [_, _, _, _])), (_, aI _ _ _)]) 87 C [18] [0, 1, 2, 3, 4, 5, 6, 7, 8, 9, 10, 11, 12, 13, 14, 15, 16, 17] dX5_init_84 rfl (k_X4_init E l ) ⟨va_cnB 0 C.2.2.2.2.1 gX5_init_X4_init_n47 rfl rfl rfl NW.2.2 (C.2.2.2.2.1 _ lX5_init_47.1) cdX4_init ⟨Nat.le_of_ble_eq_true rfl, Nat.le_of_ble_eq_true rfl⟩, rfl, C.2.2.2.2.1 _ lX5_init_47.2⟩ rfl rfl rfl rfl rfl (by decide) rfl (Nat.le_of_ble_eq_true rfl) ⟨Nat.le_of_ble_eq_true rfl, Nat.le_of_ble_eq_true rfl⟩ ?_
  rintro _ _ ⟨a_ce1, rfl, rfl⟩
  refine g_w (ws' := [(_, .inr (5, [_, _, _, _, _, _, _])), (_, .inr (1, [_, _, _, _])), (_, aI _ _ _), (_, aI _ _ _), (_, .inr (2, [_, _, _])), (_, aI _ _ _), (_, aI _ _ _), (_, .inr (3, [_, _, _, _, _, _, _, _, _, _, _, _, _])), (_, aI _ _ _), (_, aI _ _ _), (_, aI _ _ _), (_, aZ _ _ _), (_, aI _ _ _), (_, aI _ _ _), (_, .inr (0, [_])), (_, aQ _ _ _), (_, .inr (4, [_, _, _, _])), (_, aI _ _ _), (_, .inr (4, [_, _, _, _])), (_, aI _ _ _)]) [0, 1] rfl rfl ?_
  refine g_aastore (ws' := [(_, .inr (5, [_, _, _, _, _, _, _])), (_, .inr (1, [_, _, _, _])), (_, aI _ _ _), (_, aI _ _ _), (_, .inr (2, [_, _, _])), (_, aI _ _ _), (_, aI _ _ _), (_, .inr (3, [_, _, _, _, _, _, _, _, _, _, _, _, _])), (_, aI _ _ _), (_, aI _ _ _), (_, aI _ _ _), (_, aZ _ _ _), (_, aI _ _ _), (_, aI _ _ _), (_, .inr (0, [_])), (_, aQ _ _ _), (_, .inr (4, [_, _, _, _])), (_, aI _ _ _), (_, .inr (4, [_, _, _, _])), (_, aI _ _ _)]) 88 C 15 18 dX5_init_87 rfl rfl rfl (by omega) rfl ?_
  refine g_iinc (lv' := [(1, .int (iI 2)), (0, _)]) 91 C 0 dX5_init_88 rfl rfl (by decide) rfl ?_
  refine g_goto 66 C dX5_init_91 (by decide) ?_
  refine g_iload_n 67 C 0 dX5_init_66 rfl rfl ?_
  refine g_aload_n 68 C 1 dX5_init_67 rfl rfl ?_
  refine g_get 71 C 0 4 5 iX5_init_X5 lX5_init_43 dX5_init_68 rfl rfl rfl (by decide) rfl ?_
  refine g_alenQ 72 C 15 dX5_init_71 rfl rfl ?_
  refine g_icmp_ge 94 75 C dX5_init_72 (by decide) rfl (by omega) (fun q => absurd q (by omega)) ?_
  intro _
  refine g_aload_n 76 C 1 dX5_init_75 rfl rfl ?_
  refine g_get 79 C 0 4 5 iX5_init_X5 lX5_init_43 dX5_init_76 rfl rfl rfl (by decide) rfl ?_
  refine g_iload_n 80 C 0 dX5_init_79 rfl rfl ?_
  refine g_new 83 C 4 [.null, .int (iI 0), .int (iI 0), .int (iI 0)] tyX4 tyX4_ok iX5_init_X4 lX5_init_41 dX5_init_80 rfl rfl (fun j hj => by rcases (show j = 0 ∨ j = 1 ∨ j = 2 ∨ j = 3 by omega) with rfl | rfl | rfl | rfl <;> rfl) (Nat.le_of_ble_eq_true rfl) (Nat.le_of_ble_eq_true rfl) ?_
  intro a_S2
  refine g_w (ws' := [(_, .inr (5, [_, _, _, _, _, _, _])), (_, .inr (1, [_, _, _, _])), (_, aI _ _ _), (_, aI _ _ _), (_, .inr (2, [_, _, _])), (_, aI _ _ _), (_, aI _ _ _), (_, .inr (3, [_, _, _, _, _, _, _, _, _, _, _, _, _])), (_, aI _ _ _), (_, aI _ _ _), (_, aI _ _ _), (_, aZ _ _ _), (_, aI _ _ _), (_, aI _ _ _), (_, .inr (0, [_])), (_, aQ _ _ _), (_, .inr (4, [_, _, _, _])), (_, aI _ _ _), (_, .inr (4, [_, _, _, _])), (_, aI _ _ _), (_, .inr (4, [_, _, _, _]))]) [0, 1] rfl rfl ?_
  refine g_dup 84 C dX5_init_83 rfl rfl ?_
  refine g_callIn (wr := [(_, .inr (5, [_, _, _, _, _, _, _])), (_, .inr (1, [_, _, _, _])), (_, aI _ _ _), (_, aI _ _ _), (_, .inr (2, [_, _, _])), (_, aI _ _ _), (_, aI _ _ _), (_, .inr (3, [_, _, _, _, _, _, _, _, _, _, _, _, _])), (_, aI _ _ _), (_, aI _ _ _), (_, aI _ _ _), (_, aZ _ _ _), (_, aI _ _ _), (_, aI _ _ _), (_, .inr (0, [_])), (_, aQ _ _ _), (_, .inr (4, [_, _, _, _])), (_, aI _ _ _), (_, .inr (4, [_, _, _, _])), (_, aI _ _ _)]) 87 C [20] [0, 1, 2, 3, 4, 5, 6, 7, 8, 9, 10, 11, 12, 13, 14, 15, 16, 17, 18, 19] dX5_init_84 rfl (k_X4_init E l ) ⟨va_cnB 0 C.2.2.2.2.1 gX5_init_X4_init_n47 rfl rfl rfl NW.2.2 (C.2.2.2.2.1 _ lX5_init_47.1) cdX4_init ⟨Nat.le_of_ble_eq_true rfl, Nat.le_of_ble_eq_true rfl⟩, rfl, C.2.2.2.2.1 _ lX5_init_47.2⟩ rfl rfl rfl rfl rfl (by decide) rfl (Nat.le_of_ble_eq_true rfl) ⟨Nat.le_of_ble_eq_true rfl, Nat.le_of_ble_eq_true rfl⟩ ?_
  rintro _ _ ⟨a_ce2, rfl, rfl⟩
  refine g_w (ws' := [(_, .inr (5, [_, _, _, _, _, _, _])), (_, .inr (1, [_, _, _, _])), (_, aI _ _ _), (_, aI _ _ _), (_, .inr (2, [_, _, _])), (_, aI _ _ _), (_, aI _ _ _), (_, .inr (3, [_, _, _, _, _, _, _, _, _, _, _, _, _])), (_, aI _ _ _), (_, aI _ _ _), (_, aI _ _ _), (_, aZ _ _ _), (_, aI _ _ _), (_, aI _ _ _), (_, .inr (0, [_])), (_, aQ _ _ _), (_, .inr (4, [_, _, _, _])), (_, aI _ _ _), (_, .inr (4, [_, _, _, _])), (_, aI _ _ _), (_, .inr (4, [_, _, _, _])), (_, aI _ _ _)]) [0, 1] rfl rfl ?_
  refine g_aastore (ws' := [(_, .inr (5, [_, _, _, _, _, _, _])), (_, .inr (1, [_, _, _, _])), (_, aI _ _ _), (_, aI _ _ _), (_, .inr (2, [_, _, _])), (_, aI _ _ _), (_, aI _ _ _), (_, .inr (3, [_, _, _, _, _, _, _, _, _, _, _, _, _])), (_, aI _ _ _), (_, aI _ _ _), (_, aI _ _ _), (_, aZ _ _ _), (_, aI _ _ _), (_, aI _ _ _), (_, .inr (0, [_])), (_, aQ _ _ _), (_, .inr (4, [_, _, _, _])), (_, aI _ _ _), (_, .inr (4, [_, _, _, _])), (_, aI _ _ _), (_, .inr (4, [_, _, _, _])), (_, aI _ _ _)]) 88 C 15 20 dX5_init_87 rfl rfl rfl (by omega) rfl ?_
  refine g_iinc (lv' := [(1, .int (iI 3)), (0, _)]) 91 C 0 dX5_init_88 rfl rfl (by decide) rfl ?_
  refine g_goto 66 C dX5_init_91 (by decide) ?_
  refine g_iload_n 67 C 0 dX5_init_66 rfl rfl ?_
  refine g_aload_n 68 C 1 dX5_init_67 rfl rfl ?_
  refine g_get 71 C 0 4 5 iX5_init_X5 lX5_init_43 dX5_init_68 rfl rfl rfl (by decide) rfl ?_
  refine g_alenQ 72 C 15 dX5_init_71 rfl rfl ?_
  refine g_icmp_ge 94 75 C dX5_init_72 (by decide) rfl (by omega) (fun q => absurd q (by omega)) ?_
  intro _
  refine g_aload_n 76 C 1 dX5_init_75 rfl rfl ?_
  refine g_get 79 C 0 4 5 iX5_init_X5 lX5_init_43 dX5_init_76 rfl rfl rfl (by decide) rfl ?_
  refine g_iload_n 80 C 0 dX5_init_79 rfl rfl ?_
  refine g_new 83 C 4 [.null, .int (iI 0), .int (iI 0), .int (iI 0)] tyX4 tyX4_ok iX5_init_X4 lX5_init_41 dX5_init_80 rfl rfl (fun j hj => by rcases (show j = 0 ∨ j = 1 ∨ j = 2 ∨ j = 3 by omega) with rfl | rfl | rfl | rfl <;> rfl) (Nat.le_of_ble_eq_true rfl) (Nat.le_of_ble_eq_true rfl) ?_
  intro a_S3
  refine g_w (ws' := [(_, .inr (5, [_, _, _, _, _, _, _])), (_, .inr (1, [_, _, _, _])), (_, aI _ _ _), (_, aI _ _ _), (_, .inr (2, [_, _, _])), (_, aI _ _ _), (_, aI _ _ _), (_, .inr (3, [_, _, _, _, _, _, _, _, _, _, _, _, _])), (_, aI _ _ _), (_, aI _ _ _), (_, aI _ _ _), (_, aZ _ _ _), (_, aI _ _ _), (_, aI _ _ _), (_, .inr (0, [_])), (_, aQ _ _ _), (_, .inr (4, [_, _, _, _])), (_, aI _ _ _), (_, .inr (4, [_, _, _, _])), (_, aI _ _ _), (_, .inr (4, [_, _, _, _])), (_, aI _ _ _), (_, .inr (4, [_, _, _, _]))]) [0, 1] rfl rfl ?_
  refine g_dup 84 C dX5_init_83 rfl rfl ?_
  refine g_callIn (wr := [(_, .inr (5, [_, _, _, _, _, _, _])), (_, .inr (1, [_, _, _, _])), (_, aI _ _ _), (_, aI _ _ _), (_, .inr (2, [_, _, _])), (_, aI _ _ _), (_, aI _ _ _), (_, .inr (3, [_, _, _, _, _, _, _, _, _, _, _, _, _])), (_, aI _ _ _), (_, aI _ _ _), (_, aI _ _ _), (_, aZ _ _ _), (_, aI _ _ _), (_, aI _ _ _), (_, .inr (0, [_])), (_, aQ _ _ _), (_, .inr (4, [_, _, _, _])), (_, aI _ _ _), (_, .inr (4, [_, _, _, _])), (_, aI _ _ _), (_, .inr (4, [_, _, _, _])), (_, aI _ _ _)]) 87 C [22] [0, 1, 2, 3, 4, 5, 6, 7, 8, 9, 10, 11, 12, 13, 14, 15, 16, 17, 18, 19, 20, 21] dX5_init_84 rfl (k_X4_init E l ) ⟨va_cnB 0 C.2.2.2.2.1 gX5_init_X4_init_n47 rfl rfl rfl NW.2.2 (C.2.2.2.2.1 _ lX5_init_47.1) cdX4_init ⟨Nat.le_of_ble_eq_true rfl, Nat.le_of_ble_eq_true rfl⟩, rfl, C.2.2.2.2.1 _ lX5_init_47.2⟩ rfl rfl rfl rfl rfl (by decide) rfl (Nat.le_of_ble_eq_true rfl) ⟨Nat.le_of_ble_eq_true rfl, Nat.le_of_ble_eq_true rfl⟩ ?_
  rintro _ _ ⟨a_ce3, rfl, rfl⟩
  refine g_w (ws' := [(_, .inr (5, [_, _, _, _, _, _, _])), (_, .inr (1, [_, _, _, _])), (_, aI _ _ _), (_, aI _ _ _), (_, .inr (2, [_, _, _])), (_, aI _ _ _), (_, aI _ _ _), (_, .inr (3, [_, _, _, _, _, _, _, _, _, _, _, _, _])), (_, aI _ _ _), (_, aI _ _ _), (_, aI _ _ _), (_, aZ _ _ _), (_, aI _ _ _), (_, aI _ _ _), (_, .inr (0, [_])), (_, aQ _ _ _), (_, .inr (4, [_, _, _, _])), (_, aI _ _ _), (_, .inr (4, [_, _, _, _])), (_, aI _ _ _), (_, .inr (4, [_, _, _, _])), (_, aI _ _ _), (_, .inr (4, [_, _, _, _])), (_, aI _ _ _)]) [0, 1] rfl rfl ?_
  refine g_aastore (ws' := [(_, .inr (5, [_, _, _, _, _, _, _])), (_, .inr (1, [_, _, _, _])), (_, aI _ _ _), (_, aI _ _ _), (_, .inr (2, [_, _, _])), (_, aI _ _ _), (_, aI _ _ _), (_, .inr (3, [_, _, _, _, _, _, _, _, _, _, _, _, _])), (_, aI _ _ _), (_, aI _ _ _), (_, aI _ _ _), (_, aZ _ _ _), (_, aI _ _ _), (_, aI _ _ _), (_, .inr (0, [_])), (_, aQ _ _ _), (_, .inr (4, [_, _, _, _])), (_, aI _ _ _), (_, .inr (4, [_, _, _, _])), (_, aI _ _ _), (_, .inr (4, [_, _, _, _])), (_, aI _ _ _), (_, .inr (4, [_, _, _, _])), (_, aI _ _ _)]) 88 C 15 22 dX5_init_87 rfl rfl rfl (by omega) rfl ?_
  refine g_iinc (lv' := [(1, .int (iI 4)), (0, _)]) 91 C 0 dX5_init_88 rfl rfl (by decide) rfl ?_
  refine g_goto 66 C dX5_init_91 (by decide) ?_
  refine g_iload_n 67 C 0 dX5_init_66 rfl rfl ?_
  refine g_aload_n 68 C 1 dX5_init_67 rfl rfl ?_
  refine g_get 71 C 0 4 5 iX5_init_X5 lX5_init_43 dX5_init_68 rfl rfl rfl (by decide) rfl ?_
  refine g_alenQ 72 C 15 dX5_init_71 rfl rfl ?_
  refine g_icmp_ge 94 75 C dX5_init_72 (by decide) rfl (by omega) ?_ (fun q => absurd q (by omega))
  intro _
  exact g_vret C hr dX5_init_94 ⟨_, _, _, _, _, _, _, _, _, _, _, _, _, _, _, _, _, _, _, _, _, _, _, _, ⟨rfl, hse_9⟩, rfl⟩
