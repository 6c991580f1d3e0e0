theorem lX0_init_1 : ∀ w ∈ ([Cond.methodLink RX0 1 Lib.objectInit, Cond.instanceMethod Lib.objectInit, Cond.code Lib.objectInit ⟨#[0xb1]⟩ 1 none] : List Cond), w ∈ wsX0_init := by decide +kernel
set_option maxHeartbeats 4000000 in
set_option maxRecDepth 100000 in
theorem k_X0_init (E : gE) (l : Launch) {a_D : Nat}   : gMet E l yX0_init wsX0_init { frames := 1, cells := 0, slots := 0, locals := 20 } 0 0 [.ref a_D] [(a_D, .inr (0, [.long 0]))] (fun v w => v = none ∧ w = [(a_D, .inr (0, [.long 0]))]) := by
  refine g_start (cc := cX0_init) (maxL := 1) (ret := none) (by decide) rfl (Nat.le_of_ble_eq_true rfl) ?_
  intro p_ e_ s_ m_ args_ below_ meth_ c_ A_ C hr hnm
  refine g_aload_n 1 C 0 dX0_init_0 rfl rfl ?_
  refine g_objInit 4 C dX0_init_1 rfl lX0_init_1 (Nat.le_of_ble_eq_true rfl) (Nat.le_of_ble_eq_true rfl) ?_
  exact g_vret C hr dX0_init_4 ⟨rfl, rfl⟩
theorem lX2_init_arrI : Cond.arrayClass .int ∈ wsX2_init := by decide +kernel
theorem lX2_init_15 : Cond.fieldLink RX2 15 (TX2 1).1 (TX2 1).2.1 (TX2 1).2.2.1 ∈ wsX2_init := by decide +kernel
theorem lX2_init_9 : Cond.fieldLink RX2 9 (TX2 0).1 (TX2 0).2.1 (TX2 0).2.2.1 ∈ wsX2_init := by decide +kernel
theorem lX2_init_3 : ∀ w ∈ ([Cond.methodLink RX2 3 Lib.objectInit, Cond.instanceMethod Lib.objectInit, Cond.code Lib.objectInit ⟨#[0xb1]⟩ 1 none] : List Cond), w ∈ wsX2_init := by decide +kernel
theorem iX2_init_X2 : ∀ w ∈ u_ws RX2 TX2 3, w ∈ wsX2_init := by decide +kernel
set_option maxHeartbeats 4000000 in
set_option maxRecDepth 100000 in
theorem k_X2_init (E : gE) (l : Launch) {a_L : Nat}   : gMet E l yX2_init wsX2_init { frames := 1, cells := 2, slots := 50, locals := 20 } 2 50 [.ref a_L] [(a_L, .inr (2, [.null, .null, .int (iI 0)]))] (fun v w => ∃ a_pc a_tn : Nat, v = none ∧ w = [(a_L, .inr (2, [.ref a_pc, .ref a_tn, .int (iI 0)])), (a_pc, aI E 25 (fun _ => 0)), (a_tn, aI E 25 (fun _ => 0))]) := by
  refine g_start (cc := cX2_init) (maxL := 1) (ret := none) (by decide) rfl (Nat.le_of_ble_eq_true rfl) ?_
  intro p_ e_ s_ m_ args_ below_ meth_ c_ A_ C hr hnm
  refine g_aload_n 1 C 0 dX2_init_0 rfl rfl ?_
  refine g_objInit 4 C dX2_init_1 rfl lX2_init_3 (Nat.le_of_ble_eq_true rfl) (Nat.le_of_ble_eq_true rfl) ?_
  refine g_aload_n 5 C 0 dX2_init_4 rfl rfl ?_
  refine g_bipush 7 C dX2_init_5 rfl (by decide) ?_
  refine g_newI 9 C 25 lX2_init_arrI dX2_init_7 rfl (by decide) (Nat.le_of_ble_eq_true rfl) (Nat.le_of_ble_eq_true rfl) ?_
  intro a_pc
  refine g_w (ws' := [(_, .inr (2, [_, _, _])), (_, aI _ _ _)]) [0] rfl rfl ?_
  refine g_putF (ws' := [(_, .inr (2, [_, _, _])), (_, aI _ _ _)]) 12 C 0 0 2 tyX2 tyX2_ok nmX2 iX2_init_X2 lX2_init_9 hnm rfl dX2_init_9 rfl rfl rfl (by decide) rfl rfl rfl (Nat.le_of_ble_eq_true rfl) rfl ?_
  refine g_aload_n 13 C 0 dX2_init_12 rfl rfl ?_
  refine g_bipush 15 C dX2_init_13 rfl (by decide) ?_
  refine g_newI 17 C 25 lX2_init_arrI dX2_init_15 rfl (by decide) (Nat.le_of_ble_eq_true rfl) (Nat.le_of_ble_eq_true rfl) ?_
  intro a_tn
  refine g_w (ws' := [(_, .inr (2, [_, _, _])), (_, aI _ _ _), (_, aI _ _ _)]) [0] rfl rfl ?_
  refine g_putF (ws' := [(_, .inr (2, [_, _, _])), (_, aI _ _ _), (_, aI _ _ _)]) 20 C 0 1 2 tyX2 tyX2_ok nmX2 iX2_init_X2 lX2_init_15 hnm rfl dX2_init_17 rfl rfl rfl (by decide) rfl rfl rfl (Nat.le_of_ble_eq_true rfl) rfl ?_
  exact g_vret C hr dX2_init_20 ⟨_, _, rfl, rfl⟩
theorem lX4_init_arrI : Cond.arrayClass .int ∈ wsX4_init := by decide +kernel
theorem lX4_init_9 : Cond.fieldLink RX4 9 (TX4 0).1 (TX4 0).2.1 (TX4 0).2.2.1 ∈ wsX4_init := by decide +kernel
theorem lX4_init_3 : ∀ w ∈ ([Cond.methodLink RX4 3 Lib.objectInit, Cond.instanceMethod Lib.objectInit, Cond.code Lib.objectInit ⟨#[0xb1]⟩ 1 none] : List Cond), w ∈ wsX4_init := by decide +kernel
theorem iX4_init_X4 : ∀ w ∈ u_ws RX4 TX4 4, w ∈ wsX4_init := by decide +kernel
set_option maxHeartbeats 4000000 in
set_option maxRecDepth 100000 in
theorem k_X4_init (E : gE) (l : Launch) {a_S : Nat}   : gMet E l yX4_init wsX4_init { frames := 1, cells := 1, slots := 50, locals := 20 } 1 50 [.ref a_S] [(a_S, .inr (4, [.null, .int (iI 0), .int (iI 0), .int (iI 0)]))] (fun v w => ∃ a_ce : Nat, v = none ∧ w = [(a_S, .inr (4, [.ref a_ce, .int (iI 0), .int (iI 0), .int (iI 0)])), (a_ce, aI E 50 (fun _ => 0))]) := by
  refine g_start (cc := cX4_init) (maxL := 1) (ret := none) (by decide) rfl (Nat.le_of_ble_eq_true rfl) ?_
  intro p_ e_ s_ m_ args_ below_ meth_ c_ A_ C hr hnm
  refine g_aload_n 1 C 0 dX4_init_0 rfl rfl ?_
  refine g_objInit 4 C dX4_init_1 rfl lX4_init_3 (Nat.le_of_ble_eq_true rfl) (Nat.le_of_ble_eq_true rfl) ?_
  refine g_aload_n 5 C 0 dX4_init_4 rfl rfl ?_
  refine g_bipush 7 C dX4_init_5 rfl (by decide) ?_
  refine g_newI 9 C 50 lX4_init_arrI dX4_init_7 rfl (by decide) (Nat.le_of_ble_eq_true rfl) (Nat.le_of_ble_eq_true rfl) ?_
  intro a_ce
  refine g_w (ws' := [(_, .inr (4, [_, _, _, _])), (_, aI _ _ _)]) [0] rfl rfl ?_
  refine g_putF (ws' := [(_, .inr (4, [_, _, _, _])), (_, aI _ _ _)]) 12 C 0 0 4 tyX4 tyX4_ok nmX4 iX4_init_X4 lX4_init_9 hnm rfl dX4_init_9 rfl rfl rfl (by decide) rfl rfl rfl (Nat.le_of_ble_eq_true rfl) rfl ?_
  exact g_vret C hr dX4_init_12 ⟨_, rfl, rfl⟩
theorem lX3_init_arrI : Cond.arrayClass .int ∈ wsX3_init := by decide +kernel
theorem lX3_init_arrZ : Cond.arrayClass .boolean ∈ wsX3_init := by decide +kernel
theorem lX3_init_15 : Cond.fieldLink RX3 15 (TX3 3).1 (TX3 3).2.1 (TX3 3).2.2.1 ∈ wsX3_init := by decide +kernel
theorem lX3_init_18 : Cond.fieldLink RX3 18 (TX3 4).1 (TX3 4).2.1 (TX3 4).2.2.1 ∈ wsX3_init := by decide +kernel
theorem lX3_init_21 : Cond.fieldLink RX3 21 (TX3 5).1 (TX3 5).2.1 (TX3 5).2.2.1 ∈ wsX3_init := by decide +kernel
theorem lX3_init_25 : Cond.fieldLink RX3 25 (TX3 6).1 (TX3 6).2.1 (TX3 6).2.2.1 ∈ wsX3_init := by decide +kernel
theorem lX3_init_28 : Cond.fieldLink RX3 28 (TX3 7).1 (TX3 7).2.1 (TX3 7).2.2.1 ∈ wsX3_init := by decide +kernel
theorem lX3_init_31 : Cond.fieldLink RX3 31 (TX3 0).1 (TX3 0).2.1 (TX3 0).2.2.1 ∈ wsX3_init := by decide +kernel
theorem lX3_init_35 : Cond.fieldLink RX3 35 (TX3 1).1 (TX3 1).2.1 (TX3 1).2.2.1 ∈ wsX3_init := by decide +kernel
theorem lX3_init_9 : Cond.fieldLink RX3 9 (TX3 2).1 (TX3 2).2.1 (TX3 2).2.2.1 ∈ wsX3_init := by decide +kernel
theorem lX3_init_3 : ∀ w ∈ ([Cond.methodLink RX3 3 Lib.objectInit, Cond.instanceMethod Lib.objectInit, Cond.code Lib.objectInit ⟨#[0xb1]⟩ 1 none] : List Cond), w ∈ wsX3_init := by decide +kernel
theorem iX3_init_X3 : ∀ w ∈ u_ws RX3 TX3 13, w ∈ wsX3_init := by decide +kernel
set_option maxHeartbeats 4000000 in
set_option maxRecDepth 100000 in
theorem k_X3_init (E : gE) (l : Launch) {a_L a_P a_R : Nat}   : gMet E l yX3_init wsX3_init { frames := 1, cells := 6, slots := 975, locals := 20 } 6 975 [.ref a_R, .ref a_P, .ref a_L] [(a_R, .inr (3, [.null, .null, .null, .null, .null, .null, .null, .null, .int (iI 0), .int (iI 0), .int (iI 0), .int (iI 0), .int (iI 0)]))] (fun v w => ∃ a_sh a_fi a_wa a_us a_ly a_jl : Nat, v = none ∧ w = [(a_R, .inr (3, [.ref a_P, .ref a_L, .ref a_sh, .ref a_fi, .ref a_wa, .ref a_us, .ref a_ly, .ref a_jl, .int (iI 0), .int (iI 0), .int (iI 0), .int (iI 0), .int (iI 0)])), (a_sh, aI E 400 (fun _ => 0)), (a_fi, aI E 400 (fun _ => 0)), (a_wa, aI E 100 (fun _ => 0)), (a_us, aZ E 25 (fun _ => 0)), (a_ly, aI E 25 (fun _ => 0)), (a_jl, aI E 25 (fun _ => 0))]) := by
  refine g_start (cc := cX3_init) (maxL := 3) (ret := none) (by decide) rfl (Nat.le_of_ble_eq_true rfl) ?_
  intro p_ e_ s_ m_ args_ below_ meth_ c_ A_ C hr hnm
  refine g_aload_n 1 C 0 dX3_init_0 rfl rfl ?_
  refine g_objInit 4 C dX3_init_1 rfl lX3_init_3 (Nat.le_of_ble_eq_true rfl) (Nat.le_of_ble_eq_true rfl) ?_
  refine g_aload_n 5 C 0 dX3_init_4 rfl rfl ?_
  refine g_sipush 8 C dX3_init_5 rfl (by decide) ?_
  refine g_newI 10 C 400 lX3_init_arrI dX3_init_8 rfl (by decide) (Nat.le_of_ble_eq_true rfl) (Nat.le_of_ble_eq_true rfl) ?_
  intro a_sh
  refine g_w (ws' := [(_, .inr (3, [_, _, _, _, _, _, _, _, _, _, _, _, _])), (_, aI _ _ _)]) [0, 1, 2] rfl rfl ?_
  refine g_putF (ws' := [(_, .inr (3, [_, _, _, _, _, _, _, _, _, _, _, _, _])), (_, aI _ _ _)]) 13 C 0 2 3 tyX3 tyX3_ok nmX3 iX3_init_X3 lX3_init_9 hnm rfl dX3_init_10 rfl rfl rfl (by decide) rfl rfl rfl (Nat.le_of_ble_eq_true rfl) rfl ?_
  refine g_aload_n 14 C 0 dX3_init_13 rfl rfl ?_
  refine g_sipush 17 C dX3_init_14 rfl (by decide) ?_
  refine g_newI 19 C 400 lX3_init_arrI dX3_init_17 rfl (by decide) (Nat.le_of_ble_eq_true rfl) (Nat.le_of_ble_eq_true rfl) ?_
  intro a_fi
  refine g_w (ws' := [(_, .inr (3, [_, _, _, _, _, _, _, _, _, _, _, _, _])), (_, aI _ _ _), (_, aI _ _ _)]) [0, 1, 2] rfl rfl ?_
  refine g_putF (ws' := [(_, .inr (3, [_, _, _, _, _, _, _, _, _, _, _, _, _])), (_, aI _ _ _), (_, aI _ _ _)]) 22 C 0 3 3 tyX3 tyX3_ok nmX3 iX3_init_X3 lX3_init_15 hnm rfl dX3_init_19 rfl rfl rfl (by decide) rfl rfl rfl (Nat.le_of_ble_eq_true rfl) rfl ?_
  refine g_aload_n 23 C 0 dX3_init_22 rfl rfl ?_
  refine g_bipush 25 C dX3_init_23 rfl (by decide) ?_
  refine g_newI 27 C 100 lX3_init_arrI dX3_init_25 rfl (by decide) (Nat.le_of_ble_eq_true rfl) (Nat.le_of_ble_eq_true rfl) ?_
  intro a_wa
  refine g_w (ws' := [(_, .inr (3, [_, _, _, _, _, _, _, _, _, _, _, _, _])), (_, aI _ _ _), (_, aI _ _ _), (_, aI _ _ _)]) [0, 1, 2] rfl rfl ?_
  refine g_putF (ws' := [(_, .inr (3, [_, _, _, _, _, _, _, _, _, _, _, _, _])), (_, aI _ _ _), (_, aI _ _ _), (_, aI _ _ _)]) 30 C 0 4 3 tyX3 tyX3_ok nmX3 iX3_init_X3 lX3_init_18 hnm rfl dX3_init_27 rfl rfl rfl (by decide) rfl rfl rfl (Nat.le_of_ble_eq_true rfl) rfl ?_
  refine g_aload_n 31 C 0 dX3_init_30 rfl rfl ?_
  refine g_bipush 33 C dX3_init_31 rfl (by decide) ?_
  refine g_newZ 35 C 25 lX3_init_arrZ dX3_init_33 rfl (by decide) (Nat.le_of_ble_eq_true rfl) (Nat.le_of_ble_eq_true rfl) ?_
  intro a_us
  refine g_w (ws' := [(_, .inr (3, [_, _, _, _, _, _, _, _, _, _, _, _, _])), (_, aI _ _ _), (_, aI _ _ _), (_, aI _ _ _), (_, aZ _ _ _)]) [0, 1, 2] rfl rfl ?_
  refine g_putF (ws' := [(_, .inr (3, [_, _, _, _, _, _, _, _, _, _, _, _, _])), (_, aI _ _ _), (_, aI _ _ _), (_, aI _ _ _), (_, aZ _ _ _)]) 38 C 0 5 3 tyX3 tyX3_ok nmX3 iX3_init_X3 lX3_init_21 hnm rfl dX3_init_35 rfl rfl rfl (by decide) rfl rfl rfl (Nat.le_of_ble_eq_true rfl) rfl ?_
  refine g_aload_n 39 C 0 dX3_init_38 rfl rfl ?_
  refine g_bipush 41 C dX3_init_39 rfl (by decide) ?_
  refine g_newI 43 C 25 lX3_init_arrI dX3_init_41 rfl (by decide) (Nat.le_of_ble_eq_true rfl) (Nat.le_of_ble_eq_true rfl) ?_
  intro a_ly
  refine g_w (ws' := [(_, .inr (3, [_, _, _, _, _, _, _, _, _, _, _, _, _])), (_, aI _ _ _), (_, aI _ _ _), (_, aI _ _ _), (_, aZ _ _ _), (_, aI _ _ _)]) [0, 1, 2] rfl rfl ?_
  refine g_putF (ws' := [(_, .inr (3, [_, _, _, _, _, _, _, _, _, _, _, _, _])), (_, aI _ _ _), (_, aI _ _ _), (_, aI _ _ _), (_, aZ _ _ _), (_, aI _ _ _)]) 46 C 0 6 3 tyX3 tyX3_ok nmX3 iX3_init_X3 lX3_init_25 hnm rfl dX3_init_43 rfl rfl rfl (by decide) rfl rfl rfl (Nat.le_of_ble_eq_true rfl) rfl ?_
  refine g_aload_n 47 C 0 dX3_init_46 rfl rfl ?_
  refine g_bipush 49 C dX3_init_47 rfl (by decide) ?_
  refine g_newI 51 C 25 lX3_init_arrI dX3_init_49 rfl (by decide) (Nat.le_of_ble_eq_true rfl) (Nat.le_of_ble_eq_true rfl) ?_
  intro a_jl
  refine g_w (ws' := [(_, .inr (3, [_, _, _, _, _, _, _, _, _, _, _, _, _])), (_, aI _ _ _), (_, aI _ _ _), (_, aI _ _ _), (_, aZ _ _ _), (_, aI _ _ _), (_, aI _ _ _)]) [0, 1, 2] rfl rfl ?_
  refine g_putF (ws' := [(_, .inr (3, [_, _, _, _, _, _, _, _, _, _, _, _, _])), (_, aI _ _ _), (_, aI _ _ _), (_, aI _ _ _), (_, aZ _ _ _), (_, aI _ _ _), (_, aI _ _ _)]) 54 C 0 7 3 tyX3 tyX3_ok nmX3 iX3_init_X3 lX3_init_28 hnm rfl dX3_init_51 rfl rfl rfl (by decide) rfl rfl rfl (Nat.le_of_ble_eq_true rfl) rfl ?_
  refine g_aload_n 55 C 0 dX3_init_54 rfl rfl ?_
  refine g_aload_n 56 C 1 dX3_init_55 rfl rfl ?_
  refine g_putF (ws' := [(_, .inr (3, [_, _, _, _, _, _, _, _, _, _, _, _, _])), (_, aI _ _ _), (_, aI _ _ _), (_, aI _ _ _), (_, aZ _ _ _), (_, aI _ _ _), (_, aI _ _ _)]) 59 C 0 0 3 tyX3 tyX3_ok nmX3 iX3_init_X3 lX3_init_31 hnm rfl dX3_init_56 rfl rfl rfl (by decide) rfl rfl rfl (Nat.le_of_ble_eq_true rfl) rfl ?_
  refine g_aload_n 60 C 0 dX3_init_59 rfl rfl ?_
  refine g_aload_n 61 C 2 dX3_init_60 rfl rfl ?_
  refine g_putF (ws' := [(_, .inr (3, [_, _, _, _, _, _, _, _, _, _, _, _, _])), (_, aI _ _ _), (_, aI _ _ _), (_, aI _ _ _), (_, aZ _ _ _), (_, aI _ _ _), (_, aI _ _ _)]) 64 C 0 1 3 tyX3 tyX3_ok nmX3 iX3_init_X3 lX3_init_35 hnm rfl dX3_init_61 rfl rfl rfl (by decide) rfl rfl rfl (Nat.le_of_ble_eq_true rfl) rfl ?_
  exact g_vret C hr dX3_init_64 ⟨_, _, _, _, _, _, rfl, rfl⟩
