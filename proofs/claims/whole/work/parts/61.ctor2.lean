theorem lX1_init_arrI : Cond.arrayClass .int ∈ wsX1_init := by decide +kernel
theorem lX1_init_15 : Cond.fieldLink RX1 15 (TX1 1).1 (TX1 1).2.1 (TX1 1).2.2.1 ∈ wsX1_init := by decide +kernel
theorem lX1_init_9 : Cond.fieldLink RX1 9 (TX1 0).1 (TX1 0).2.1 (TX1 0).2.2.1 ∈ wsX1_init := by decide +kernel
theorem lX1_init_3 : ∀ w ∈ ([Cond.methodLink RX1 3 Lib.objectInit, Cond.instanceMethod Lib.objectInit, Cond.code Lib.objectInit ⟨#[0xb1]⟩ 1 none] : List Cond), w ∈ wsX1_init := by decide +kernel
theorem iX1_init_X1 : ∀ w ∈ u_ws RX1 TX1 4, w ∈ wsX1_init := by decide +kernel
set_option maxHeartbeats 4000000 in
set_option maxRecDepth 100000 in
theorem k_X1_init (E : gE) (l : Launch) {a_P : Nat}   : gMet E l yX1_init wsX1_init { frames := 3, cells := 2, slots := 300, locals := 73 } 2 300 [.ref a_P] [(a_P, .inr (1, [.null, .null, .int (iI 0), .int (iI 0)]))] (fun v w => ∃ (a_hs a_se : Nat) (f : Int → Int), (v = none ∧ ∀ p e : Int, 0 ≤ p ∧ p < 1 * 1 → 0 ≤ e ∧ e < 4 → f (p * 4 + e) = sdI 1 1 p e) ∧ w = [(a_P, .inr (1, [.ref a_hs, .ref a_se, .int (iI 1), .int (iI 1)])), (a_hs, aI E 200 (zrI (fun _ => 0) 200)), (a_se, aI E 100 f)]) := by
  refine g_start (cc := cX1_init) (maxL := 1) (ret := none) (by decide) rfl (Nat.le_of_ble_eq_true rfl) ?_
  intro p_ e_ s_ m_ args_ below_ meth_ c_ A_ C hr hnm
  refine g_aload_n 1 C 0 dX1_init_0 rfl rfl ?_
  refine g_objInit 4 C dX1_init_1 rfl lX1_init_3 (Nat.le_of_ble_eq_true rfl) (Nat.le_of_ble_eq_true rfl) ?_
  refine g_aload_n 5 C 0 dX1_init_4 rfl rfl ?_
  refine g_sipush 8 C dX1_init_5 rfl (by decide) ?_
  refine g_newI 10 C 200 lX1_init_arrI dX1_init_8 rfl (by decide) (Nat.le_of_ble_eq_true rfl) (Nat.le_of_ble_eq_true rfl) ?_
  intro a_hs
  refine g_w (ws' := [(_, .inr (1, [_, _, _, _])), (_, aI _ _ _)]) [0] rfl rfl ?_
  refine g_putF (ws' := [(_, .inr (1, [_, _, _, _])), (_, aI _ _ _)]) 13 C 0 0 1 tyX1 tyX1_ok nmX1 iX1_init_X1 lX1_init_9 hnm rfl dX1_init_10 rfl rfl rfl (by decide) rfl rfl rfl (Nat.le_of_ble_eq_true rfl) rfl ?_
  refine g_aload_n 14 C 0 dX1_init_13 rfl rfl ?_
  refine g_bipush 16 C dX1_init_14 rfl (by decide) ?_
  refine g_newI 18 C 100 lX1_init_arrI dX1_init_16 rfl (by decide) (Nat.le_of_ble_eq_true rfl) (Nat.le_of_ble_eq_true rfl) ?_
  intro a_se
  refine g_w (ws' := [(_, .inr (1, [_, _, _, _])), (_, aI _ _ _), (_, aI _ _ _)]) [0] rfl rfl ?_
  refine g_putF (ws' := [(_, .inr (1, [_, _, _, _])), (_, aI _ _ _), (_, aI _ _ _)]) 21 C 0 1 1 tyX1 tyX1_ok nmX1 iX1_init_X1 lX1_init_15 hnm rfl dX1_init_18 rfl rfl rfl (by decide) rfl rfl rfl (Nat.le_of_ble_eq_true rfl) rfl ?_
  refine g_aload_n 22 C 0 dX1_init_21 rfl rfl ?_
  refine g_iconst 23 C dX1_init_22 rfl ?_
  refine g_iconst 24 C dX1_init_23 rfl ?_
  refine g_callV 27 C [0, 1, 2] dX1_init_24 rfl (k_X1_cutAnew E l  (by first | assumption | omega)) (cwV 2 C.2.2.2.2.1 gX1_init_X1_cutAnew rfl rfl rfl cdX1_cutAnew ⟨Nat.le_of_ble_eq_true rfl, Nat.le_of_ble_eq_true rfl⟩) rfl rfl rfl rfl (Nat.le_of_ble_eq_true rfl) 0 1 rfl rfl rfl ⟨Nat.le_of_ble_eq_true rfl, Nat.le_of_ble_eq_true rfl⟩ (fun v w q => by obtain ⟨f, -, rfl⟩ := q; rfl) ?_
  rintro _ _ ⟨f, ⟨rfl, hSE⟩, rfl⟩
  refine g_w (ws' := [(_, .inr (1, [_, _, _, _])), (_, aI _ _ _), (_, aI _ _ _)]) [0] rfl rfl ?_
  exact g_vret C hr dX1_init_27 ⟨_, _, _, ⟨rfl, hSE⟩, rfl⟩
theorem lX6_init_arrI : Cond.arrayClass .int ∈ wsX6_init := by decide +kernel
theorem lX6_init_arrZ : Cond.arrayClass .boolean ∈ wsX6_init := by decide +kernel
theorem lX6_init_13 : Cond.fieldLink RX6 13 (TX6 8).1 (TX6 8).2.1 (TX6 8).2.2.1 ∈ wsX6_init := by decide +kernel
theorem lX6_init_16 : Cond.fieldLink RX6 16 (TX6 9).1 (TX6 9).2.1 (TX6 9).2.2.1 ∈ wsX6_init := by decide +kernel
theorem lX6_init_19 : Cond.fieldLink RX6 19 (TX6 12).1 (TX6 12).2.1 (TX6 12).2.2.1 ∈ wsX6_init := by decide +kernel
theorem lX6_init_22 : Cond.fieldLink RX6 22 (TX6 13).1 (TX6 13).2.1 (TX6 13).2.2.1 ∈ wsX6_init := by decide +kernel
theorem lX6_init_25 : Cond.fieldLink RX6 25 (TX6 14).1 (TX6 14).2.1 (TX6 14).2.2.1 ∈ wsX6_init := by decide +kernel
theorem lX6_init_29 : Cond.fieldLink RX6 29 (TX6 16).1 (TX6 16).2.1 (TX6 16).2.2.1 ∈ wsX6_init := by decide +kernel
theorem lX6_init_32 : Cond.fieldLink RX6 32 (TX6 17).1 (TX6 17).2.1 (TX6 17).2.2.1 ∈ wsX6_init := by decide +kernel
theorem lX6_init_35 : Cond.fieldLink RX6 35 (TX6 18).1 (TX6 18).2.1 (TX6 18).2.2.1 ∈ wsX6_init := by decide +kernel
theorem lX6_init_38 : Cond.fieldLink RX6 38 (TX6 19).1 (TX6 19).2.1 (TX6 19).2.2.1 ∈ wsX6_init := by decide +kernel
theorem lX6_init_41 : Cond.fieldLink RX6 41 (TX6 20).1 (TX6 20).2.1 (TX6 20).2.2.1 ∈ wsX6_init := by decide +kernel
theorem lX6_init_44 : Cond.fieldLink RX6 44 (TX6 21).1 (TX6 21).2.1 (TX6 21).2.2.1 ∈ wsX6_init := by decide +kernel
theorem lX6_init_47 : Cond.fieldLink RX6 47 (TX6 1).1 (TX6 1).2.1 (TX6 1).2.2.1 ∈ wsX6_init := by decide +kernel
theorem lX6_init_51 : Cond.fieldLink RX6 51 (TX6 2).1 (TX6 2).2.1 (TX6 2).2.2.1 ∈ wsX6_init := by decide +kernel
theorem lX6_init_7 : Cond.fieldLink RX6 7 (TX6 3).1 (TX6 3).2.1 (TX6 3).2.2.1 ∈ wsX6_init := by decide +kernel
theorem lX6_init_1 : ∀ w ∈ ([Cond.methodLink RX6 1 Lib.objectInit, Cond.instanceMethod Lib.objectInit, Cond.code Lib.objectInit ⟨#[0xb1]⟩ 1 none] : List Cond), w ∈ wsX6_init := by decide +kernel
theorem iX6_init_X6 : ∀ w ∈ u_ws RX6 TX6 23, w ∈ wsX6_init := by decide +kernel
set_option maxHeartbeats 4000000 in
set_option maxRecDepth 100000 in
theorem k_X6_init (E : gE) (l : Launch) {a_M : Nat}   : gMet E l yX6_init wsX6_init { frames := 1, cells := 12, slots := 635, locals := 20 } 12 635 [.ref a_M] [(a_M, .inr (6, [.int (iI 0), .int (iI 0), .int (iI 0), .null, .long 0, .int (iI 0), .int (iI 0), .int (iI 0), .null, .null, .int (iI 0), .int (iI 0), .null, .null, .null, .int (iI 0), .null, .null, .null, .null, .null, .null, .int (iI 0)]))] (fun v w => ∃ a_Mh a_Mp a_Mt a_Ma a_Mu a_Mi a_Mx a_My a_Ms a_Ml a_Mc a_Mg : Nat, v = none ∧ w = [(a_M, .inr (6, [.int (iI 0), .int (iI 1), .int (iI 1), .ref a_Mh, .long 0, .int (iI 0), .int (iI 0), .int (iI 0), .ref a_Mp, .ref a_Mt, .int (iI 0), .int (iI 0), .ref a_Ma, .ref a_Mu, .ref a_Mi, .int (iI 0), .ref a_Mx, .ref a_My, .ref a_Ms, .ref a_Ml, .ref a_Mc, .ref a_Mg, .int (iI 0)])), (a_Mh, aI E 200 (fun _ => 0)), (a_Mp, aI E 25 (fun _ => 0)), (a_Mt, aI E 25 (fun _ => 0)), (a_Ma, aI E 26 (fun _ => 0)), (a_Mu, aI E 26 (fun _ => 0)), (a_Mi, aZ E 25 (fun _ => 0)), (a_Mx, aI E 25 (fun _ => 0)), (a_My, aI E 25 (fun _ => 0)), (a_Ms, aI E 4 (uI (uI (uI (uI (fun _ => 0) 0 (-1)) 1 (-1)) 2 (-1)) 3 (-1))), (a_Ml, aI E 4 (fun _ => 0)), (a_Mc, aI E 200 (fun _ => 0)), (a_Mg, aI E 50 (fun _ => 0))]) := by
  refine g_start (cc := cX6_init) (maxL := 2) (ret := none) (by decide) rfl (Nat.le_of_ble_eq_true rfl) ?_
  intro p_ e_ s_ m_ args_ below_ meth_ c_ A_ C hr hnm
  refine g_aload_n 1 C 0 dX6_init_0 rfl rfl ?_
  refine g_objInit 4 C dX6_init_1 rfl lX6_init_1 (Nat.le_of_ble_eq_true rfl) (Nat.le_of_ble_eq_true rfl) ?_
  refine g_aload_n 5 C 0 dX6_init_4 rfl rfl ?_
  refine g_sipush 8 C dX6_init_5 rfl (by decide) ?_
  refine g_newI 10 C 200 lX6_init_arrI dX6_init_8 rfl (by decide) (Nat.le_of_ble_eq_true rfl) (Nat.le_of_ble_eq_true rfl) ?_
  intro a_Mh
  refine g_w (ws' := [(_, .inr (6, [_, _, _, _, _, _, _, _, _, _, _, _, _, _, _, _, _, _, _, _, _, _, _])), (_, aI _ _ _)]) [0] rfl rfl ?_
  refine g_putF (ws' := [(_, .inr (6, [_, _, _, _, _, _, _, _, _, _, _, _, _, _, _, _, _, _, _, _, _, _, _])), (_, aI _ _ _)]) 13 C 0 3 6 tyX6 tyX6_ok nmX6 iX6_init_X6 lX6_init_7 hnm rfl dX6_init_10 rfl rfl rfl (by decide) rfl rfl rfl (Nat.le_of_ble_eq_true rfl) rfl ?_
  refine g_aload_n 14 C 0 dX6_init_13 rfl rfl ?_
  refine g_bipush 16 C dX6_init_14 rfl (by decide) ?_
  refine g_newI 18 C 25 lX6_init_arrI dX6_init_16 rfl (by decide) (Nat.le_of_ble_eq_true rfl) (Nat.le_of_ble_eq_true rfl) ?_
  intro a_Mp
  refine g_w (ws' := [(_, .inr (6, [_, _, _, _, _, _, _, _, _, _, _, _, _, _, _, _, _, _, _, _, _, _, _])), (_, aI _ _ _), (_, aI _ _ _)]) [0] rfl rfl ?_
  refine g_putF (ws' := [(_, .inr (6, [_, _, _, _, _, _, _, _, _, _, _, _, _, _, _, _, _, _, _, _, _, _, _])), (_, aI _ _ _), (_, aI _ _ _)]) 21 C 0 8 6 tyX6 tyX6_ok nmX6 iX6_init_X6 lX6_init_13 hnm rfl dX6_init_18 rfl rfl rfl (by decide) rfl rfl rfl (Nat.le_of_ble_eq_true rfl) rfl ?_
  refine g_aload_n 22 C 0 dX6_init_21 rfl rfl ?_
  refine g_bipush 24 C dX6_init_22 rfl (by decide) ?_
  refine g_newI 26 C 25 lX6_init_arrI dX6_init_24 rfl (by decide) (Nat.le_of_ble_eq_true rfl) (Nat.le_of_ble_eq_true rfl) ?_
  intro a_Mt
  refine g_w (ws' := [(_, .inr (6, [_, _, _, _, _, _, _, _, _, _, _, _, _, _, _, _, _, _, _, _, _, _, _])), (_, aI _ _ _), (_, aI _ _ _), (_, aI _ _ _)]) [0] rfl rfl ?_
  refine g_putF (ws' := [(_, .inr (6, [_, _, _, _, _, _, _, _, _, _, _, _, _, _, _, _, _, _, _, _, _, _, _])), (_, aI _ _ _), (_, aI _ _ _), (_, aI _ _ _)]) 29 C 0 9 6 tyX6 tyX6_ok nmX6 iX6_init_X6 lX6_init_16 hnm rfl dX6_init_26 rfl rfl rfl (by decide) rfl rfl rfl (Nat.le_of_ble_eq_true rfl) rfl ?_
  refine g_aload_n 30 C 0 dX6_init_29 rfl rfl ?_
  refine g_bipush 32 C dX6_init_30 rfl (by decide) ?_
  refine g_newI 34 C 26 lX6_init_arrI dX6_init_32 rfl (by decide) (Nat.le_of_ble_eq_true rfl) (Nat.le_of_ble_eq_true rfl) ?_
  intro a_Ma
  refine g_w (ws' := [(_, .inr (6, [_, _, _, _, _, _, _, _, _, _, _, _, _, _, _, _, _, _, _, _, _, _, _])), (_, aI _ _ _), (_, aI _ _ _), (_, aI _ _ _), (_, aI _ _ _)]) [0] rfl rfl ?_
  refine g_putF (ws' := [(_, .inr (6, [_, _, _, _, _, _, _, _, _, _, _, _, _, _, _, _, _, _, _, _, _, _, _])), (_, aI _ _ _), (_, aI _ _ _), (_, aI _ _ _), (_, aI _ _ _)]) 37 C 0 12 6 tyX6 tyX6_ok nmX6 iX6_init_X6 lX6_init_19 hnm rfl dX6_init_34 rfl rfl rfl (by decide) rfl rfl rfl (Nat.le_of_ble_eq_true rfl) rfl ?_
  refine g_aload_n 38 C 0 dX6_init_37 rfl rfl ?_
  refine g_bipush 40 C dX6_init_38 rfl (by decide) ?_
  refine g_newI 42 C 26 lX6_init_arrI dX6_init_40 rfl (by decide) (Nat.le_of_ble_eq_true rfl) (Nat.le_of_ble_eq_true rfl) ?_
  intro a_Mu
  refine g_w (ws' := [(_, .inr (6, [_, _, _, _, _, _, _, _, _, _, _, _, _, _, _, _, _, _, _, _, _, _, _])), (_, aI _ _ _), (_, aI _ _ _), (_, aI _ _ _), (_, aI _ _ _), (_, aI _ _ _)]) [0] rfl rfl ?_
  refine g_putF (ws' := [(_, .inr (6, [_, _, _, _, _, _, _, _, _, _, _, _, _, _, _, _, _, _, _, _, _, _, _])), (_, aI _ _ _), (_, aI _ _ _), (_, aI _ _ _), (_, aI _ _ _), (_, aI _ _ _)]) 45 C 0 13 6 tyX6 tyX6_ok nmX6 iX6_init_X6 lX6_init_22 hnm rfl dX6_init_42 rfl rfl rfl (by decide) rfl rfl rfl (Nat.le_of_ble_eq_true rfl) rfl ?_
  refine g_aload_n 46 C 0 dX6_init_45 rfl rfl ?_
  refine g_bipush 48 C dX6_init_46 rfl (by decide) ?_
  refine g_newZ 50 C 25 lX6_init_arrZ dX6_init_48 rfl (by decide) (Nat.le_of_ble_eq_true rfl) (Nat.le_of_ble_eq_true rfl) ?_
  intro a_Mi
  refine g_w (ws' := [(_, .inr (6, [_, _, _, _, _, _, _, _, _, _, _, _, _, _, _, _, _, _, _, _, _, _, _])), (_, aI _ _ _), (_, aI _ _ _), (_, aI _ _ _), (_, aI _ _ _), (_, aI _ _ _), (_, aZ _ _ _)]) [0] rfl rfl ?_
  refine g_putF (ws' := [(_, .inr (6, [_, _, _, _, _, _, _, _, _, _, _, _, _, _, _, _, _, _, _, _, _, _, _])), (_, aI _ _ _), (_, aI _ _ _), (_, aI _ _ _), (_, aI _ _ _), (_, aI _ _ _), (_, aZ _ _ _)]) 53 C 0 14 6 tyX6 tyX6_ok nmX6 iX6_init_X6 lX6_init_25 hnm rfl dX6_init_50 rfl rfl rfl (by decide) rfl rfl rfl (Nat.le_of_ble_eq_true rfl) rfl ?_
  refine g_aload_n 54 C 0 dX6_init_53 rfl rfl ?_
  refine g_bipush 56 C dX6_init_54 rfl (by decide) ?_
  refine g_newI 58 C 25 lX6_init_arrI dX6_init_56 rfl (by decide) (Nat.le_of_ble_eq_true rfl) (Nat.le_of_ble_eq_true rfl) ?_
  intro a_Mx
  refine g_w (ws' := [(_, .inr (6, [_, _, _, _, _, _, _, _, _, _, _, _, _, _, _, _, _, _, _, _, _, _, _])), (_, aI _ _ _), (_, aI _ _ _), (_, aI _ _ _), (_, aI _ _ _), (_, aI _ _ _), (_, aZ _ _ _), (_, aI _ _ _)]) [0] rfl rfl ?_
  refine g_putF (ws' := [(_, .inr (6, [_, _, _, _, _, _, _, _, _, _, _, _, _, _, _, _, _, _, _, _, _, _, _])), (_, aI _ _ _), (_, aI _ _ _), (_, aI _ _ _), (_, aI _ _ _), (_, aI _ _ _), (_, aZ _ _ _), (_, aI _ _ _)]) 61 C 0 16 6 tyX6 tyX6_ok nmX6 iX6_init_X6 lX6_init_29 hnm rfl dX6_init_58 rfl rfl rfl (by decide) rfl rfl rfl (Nat.le_of_ble_eq_true rfl) rfl ?_
  refine g_aload_n 62 C 0 dX6_init_61 rfl rfl ?_
  refine g_bipush 64 C dX6_init_62 rfl (by decide) ?_
  refine g_newI 66 C 25 lX6_init_arrI dX6_init_64 rfl (by decide) (Nat.le_of_ble_eq_true rfl) (Nat.le_of_ble_eq_true rfl) ?_
  intro a_My
  refine g_w (ws' := [(_, .inr (6, [_, _, _, _, _, _, _, _, _, _, _, _, _, _, _, _, _, _, _, _, _, _, _])), (_, aI _ _ _), (_, aI _ _ _), (_, aI _ _ _), (_, aI _ _ _), (_, aI _ _ _), (_, aZ _ _ _), (_, aI _ _ _), (_, aI _ _ _)]) [0] rfl rfl ?_
  refine g_putF (ws' := [(_, .inr (6, [_, _, _, _, _, _, _, _, _, _, _, _, _, _, _, _, _, _, _, _, _, _, _])), (_, aI _ _ _), (_, aI _ _ _), (_, aI _ _ _), (_, aI _ _ _), (_, aI _ _ _), (_, aZ _ _ _), (_, aI _ _ _), (_, aI _ _ _)]) 69 C 0 17 6 tyX6 tyX6_ok nmX6 iX6_init_X6 lX6_init_32 hnm rfl dX6_init_66 rfl rfl rfl (by decide) rfl rfl rfl (Nat.le_of_ble_eq_true rfl) rfl ?_
  refine g_aload_n 70 C 0 dX6_init_69 rfl rfl ?_
  refine g_iconst 71 C dX6_init_70 rfl ?_
  refine g_newI 73 C 4 lX6_init_arrI dX6_init_71 rfl (by decide) (Nat.le_of_ble_eq_true rfl) (Nat.le_of_ble_eq_true rfl) ?_
  intro a_Ms
  refine g_w (ws' := [(_, .inr (6, [_, _, _, _, _, _, _, _, _, _, _, _, _, _, _, _, _, _, _, _, _, _, _])), (_, aI _ _ _), (_, aI _ _ _), (_, aI _ _ _), (_, aI _ _ _), (_, aI _ _ _), (_, aZ _ _ _), (_, aI _ _ _), (_, aI _ _ _), (_, aI _ _ _)]) [0] rfl rfl ?_
  refine g_putF (ws' := [(_, .inr (6, [_, _, _, _, _, _, _, _, _, _, _, _, _, _, _, _, _, _, _, _, _, _, _])), (_, aI _ _ _), (_, aI _ _ _), (_, aI _ _ _), (_, aI _ _ _), (_, aI _ _ _), (_, aZ _ _ _), (_, aI _ _ _), (_, aI _ _ _), (_, aI _ _ _)]) 76 C 0 18 6 tyX6 tyX6_ok nmX6 iX6_init_X6 lX6_init_35 hnm rfl dX6_init_73 rfl rfl rfl (by decide) rfl rfl rfl (Nat.le_of_ble_eq_true rfl) rfl ?_
  refine g_aload_n 77 C 0 dX6_init_76 rfl rfl ?_
  refine g_iconst 78 C dX6_init_77 rfl ?_
  refine g_newI 80 C 4 lX6_init_arrI dX6_init_78 rfl (by decide) (Nat.le_of_ble_eq_true rfl) (Nat.le_of_ble_eq_true rfl) ?_
  intro a_Ml
  refine g_w (ws' := [(_, .inr (6, [_, _, _, _, _, _, _, _, _, _, _, _, _, _, _, _, _, _, _, _, _, _, _])), (_, aI _ _ _), (_, aI _ _ _), (_, aI _ _ _), (_, aI _ _ _), (_, aI _ _ _), (_, aZ _ _ _), (_, aI _ _ _), (_, aI _ _ _), (_, aI _ _ _), (_, aI _ _ _)]) [0] rfl rfl ?_
  refine g_putF (ws' := [(_, .inr (6, [_, _, _, _, _, _, _, _, _, _, _, _, _, _, _, _, _, _, _, _, _, _, _])), (_, aI _ _ _), (_, aI _ _ _), (_, aI _ _ _), (_, aI _ _ _), (_, aI _ _ _), (_, aZ _ _ _), (_, aI _ _ _), (_, aI _ _ _), (_, aI _ _ _), (_, aI _ _ _)]) 83 C 0 19 6 tyX6 tyX6_ok nmX6 iX6_init_X6 lX6_init_38 hnm rfl dX6_init_80 rfl rfl rfl (by decide) rfl rfl rfl (Nat.le_of_ble_eq_true rfl) rfl ?_
  refine g_aload_n 84 C 0 dX6_init_83 rfl rfl ?_
  refine g_sipush 87 C dX6_init_84 rfl (by decide) ?_
  refine g_newI 89 C 200 lX6_init_arrI dX6_init_87 rfl (by decide) (Nat.le_of_ble_eq_true rfl) (Nat.le_of_ble_eq_true rfl) ?_
  intro a_Mc
  refine g_w (ws' := [(_, .inr (6, [_, _, _, _, _, _, _, _, _, _, _, _, _, _, _, _, _, _, _, _, _, _, _])), (_, aI _ _ _), (_, aI _ _ _), (_, aI _ _ _), (_, aI _ _ _), (_, aI _ _ _), (_, aZ _ _ _), (_, aI _ _ _), (_, aI _ _ _), (_, aI _ _ _), (_, aI _ _ _), (_, aI _ _ _)]) [0] rfl rfl ?_
  refine g_putF (ws' := [(_, .inr (6, [_, _, _, _, _, _, _, _, _, _, _, _, _, _, _, _, _, _, _, _, _, _, _])), (_, aI _ _ _), (_, aI _ _ _), (_, aI _ _ _), (_, aI _ _ _), (_, aI _ _ _), (_, aZ _ _ _), (_, aI _ _ _), (_, aI _ _ _), (_, aI _ _ _), (_, aI _ _ _), (_, aI _ _ _)]) 92 C 0 20 6 tyX6 tyX6_ok nmX6 iX6_init_X6 lX6_init_41 hnm rfl dX6_init_89 rfl rfl rfl (by decide) rfl rfl rfl (Nat.le_of_ble_eq_true rfl) rfl ?_
  refine g_aload_n 93 C 0 dX6_init_92 rfl rfl ?_
  refine g_bipush 95 C dX6_init_93 rfl (by decide) ?_
  refine g_newI 97 C 50 lX6_init_arrI dX6_init_95 rfl (by decide) (Nat.le_of_ble_eq_true rfl) (Nat.le_of_ble_eq_true rfl) ?_
  intro a_Mg
  refine g_w (ws' := [(_, .inr (6, [_, _, _, _, _, _, _, _, _, _, _, _, _, _, _, _, _, _, _, _, _, _, _])), (_, aI _ _ _), (_, aI _ _ _), (_, aI _ _ _), (_, aI _ _ _), (_, aI _ _ _), (_, aZ _ _ _), (_, aI _ _ _), (_, aI _ _ _), (_, aI _ _ _), (_, aI _ _ _), (_, aI _ _ _), (_, aI _ _ _)]) [0] rfl rfl ?_
  refine g_putF (ws' := [(_, .inr (6, [_, _, _, _, _, _, _, _, _, _, _, _, _, _, _, _, _, _, _, _, _, _, _])), (_, aI _ _ _), (_, aI _ _ _), (_, aI _ _ _), (_, aI _ _ _), (_, aI _ _ _), (_, aZ _ _ _), (_, aI _ _ _), (_, aI _ _ _), (_, aI _ _ _), (_, aI _ _ _), (_, aI _ _ _), (_, aI _ _ _)]) 100 C 0 21 6 tyX6 tyX6_ok nmX6 iX6_init_X6 lX6_init_44 hnm rfl dX6_init_97 rfl rfl rfl (by decide) rfl rfl rfl (Nat.le_of_ble_eq_true rfl) rfl ?_
  refine g_aload_n 101 C 0 dX6_init_100 rfl rfl ?_
  refine g_iconst 102 C dX6_init_101 rfl ?_
  refine g_put (ws' := [(_, .inr (6, [_, _, _, _, _, _, _, _, _, _, _, _, _, _, _, _, _, _, _, _, _, _, _])), (_, aI _ _ _), (_, aI _ _ _), (_, aI _ _ _), (_, aI _ _ _), (_, aI _ _ _), (_, aZ _ _ _), (_, aI _ _ _), (_, aI _ _ _), (_, aI _ _ _), (_, aI _ _ _), (_, aI _ _ _), (_, aI _ _ _)]) 105 C 0 1 6 tyX6 tyX6_ok nmX6 iX6_init_X6 lX6_init_47 dX6_init_102 rfl rfl rfl (by decide) rfl rfl rfl (Nat.le_of_ble_eq_true rfl) rfl ?_
  refine g_aload_n 106 C 0 dX6_init_105 rfl rfl ?_
  refine g_iconst 107 C dX6_init_106 rfl ?_
  refine g_put (ws' := [(_, .inr (6, [_, _, _, _, _, _, _, _, _, _, _, _, _, _, _, _, _, _, _, _, _, _, _])), (_, aI _ _ _), (_, aI _ _ _), (_, aI _ _ _), (_, aI _ _ _), (_, aI _ _ _), (_, aZ _ _ _), (_, aI _ _ _), (_, aI _ _ _), (_, aI _ _ _), (_, aI _ _ _), (_, aI _ _ _), (_, aI _ _ _)]) 110 C 0 2 6 tyX6 tyX6_ok nmX6 iX6_init_X6 lX6_init_51 dX6_init_107 rfl rfl rfl (by decide) rfl rfl rfl (Nat.le_of_ble_eq_true rfl) rfl ?_
  refine g_iconst 111 C dX6_init_110 rfl ?_
  refine g_istore_n (lv' := [(1, _), (0, _)]) 112 C dX6_init_111 rfl rfl (by decide) rfl ?_
  refine g_iload_n 113 C 0 dX6_init_112 rfl rfl ?_
  refine g_iconst 114 C dX6_init_113 rfl ?_
  refine g_icmp_ge 130 117 C dX6_init_114 (by decide) rfl (by omega) (fun q => absurd q (by omega)) ?_
  intro _
  refine g_aload_n 118 C 1 dX6_init_117 rfl rfl ?_
  refine g_get 121 C 0 18 6 iX6_init_X6 lX6_init_35 dX6_init_118 rfl rfl rfl (by decide) rfl ?_
  refine g_iload_n 122 C 0 dX6_init_121 rfl rfl ?_
  refine g_iconst 123 C dX6_init_122 rfl ?_
  refine g_iastore (ws' := [(_, .inr (6, [_, _, _, _, _, _, _, _, _, _, _, _, _, _, _, _, _, _, _, _, _, _, _])), (_, aI _ _ _), (_, aI _ _ _), (_, aI _ _ _), (_, aI _ _ _), (_, aI _ _ _), (_, aZ _ _ _), (_, aI _ _ _), (_, aI _ _ _), (_, aI _ _ _), (_, aI _ _ _), (_, aI _ _ _), (_, aI _ _ _)]) 124 C 9 dX6_init_123 rfl rfl (by omega) rfl ?_
  refine g_iinc (lv' := [(1, .int (iI 1)), (0, _)]) 127 C 0 dX6_init_124 rfl rfl (by decide) rfl ?_
  refine g_goto 112 C dX6_init_127 (by decide) ?_
  refine g_iload_n 113 C 0 dX6_init_112 rfl rfl ?_
  refine g_iconst 114 C dX6_init_113 rfl ?_
  refine g_icmp_ge 130 117 C dX6_init_114 (by decide) rfl (by omega) (fun q => absurd q (by omega)) ?_
  intro _
  refine g_aload_n 118 C 1 dX6_init_117 rfl rfl ?_
  refine g_get 121 C 0 18 6 iX6_init_X6 lX6_init_35 dX6_init_118 rfl rfl rfl (by decide) rfl ?_
  refine g_iload_n 122 C 0 dX6_init_121 rfl rfl ?_
  refine g_iconst 123 C dX6_init_122 rfl ?_
  refine g_iastore (ws' := [(_, .inr (6, [_, _, _, _, _, _, _, _, _, _, _, _, _, _, _, _, _, _, _, _, _, _, _])), (_, aI _ _ _), (_, aI _ _ _), (_, aI _ _ _), (_, aI _ _ _), (_, aI _ _ _), (_, aZ _ _ _), (_, aI _ _ _), (_, aI _ _ _), (_, aI _ _ _), (_, aI _ _ _), (_, aI _ _ _), (_, aI _ _ _)]) 124 C 9 dX6_init_123 rfl rfl (by omega) rfl ?_
  refine g_iinc (lv' := [(1, .int (iI 2)), (0, _)]) 127 C 0 dX6_init_124 rfl rfl (by decide) rfl ?_
  refine g_goto 112 C dX6_init_127 (by decide) ?_
  refine g_iload_n 113 C 0 dX6_init_112 rfl rfl ?_
  refine g_iconst 114 C dX6_init_113 rfl ?_
  refine g_icmp_ge 130 117 C dX6_init_114 (by decide) rfl (by omega) (fun q => absurd q (by omega)) ?_
  intro _
  refine g_aload_n 118 C 1 dX6_init_117 rfl rfl ?_
  refine g_get 121 C 0 18 6 iX6_init_X6 lX6_init_35 dX6_init_118 rfl rfl rfl (by decide) rfl ?_
  refine g_iload_n 122 C 0 dX6_init_121 rfl rfl ?_
  refine g_iconst 123 C dX6_init_122 rfl ?_
  refine g_iastore (ws' := [(_, .inr (6, [_, _, _, _, _, _, _, _, _, _, _, _, _, _, _, _, _, _, _, _, _, _, _])), (_, aI _ _ _), (_, aI _ _ _), (_, aI _ _ _), (_, aI _ _ _), (_, aI _ _ _), (_, aZ _ _ _), (_, aI _ _ _), (_, aI _ _ _), (_, aI _ _ _), (_, aI _ _ _), (_, aI _ _ _), (_, aI _ _ _)]) 124 C 9 dX6_init_123 rfl rfl (by omega) rfl ?_
  refine g_iinc (lv' := [(1, .int (iI 3)), (0, _)]) 127 C 0 dX6_init_124 rfl rfl (by decide) rfl ?_
  refine g_goto 112 C dX6_init_127 (by decide) ?_
  refine g_iload_n 113 C 0 dX6_init_112 rfl rfl ?_
  refine g_iconst 114 C dX6_init_113 rfl ?_
  refine g_icmp_ge 130 117 C dX6_init_114 (by decide) rfl (by omega) (fun q => absurd q (by omega)) ?_
  intro _
  refine g_aload_n 118 C 1 dX6_init_117 rfl rfl ?_
  refine g_get 121 C 0 18 6 iX6_init_X6 lX6_init_35 dX6_init_118 rfl rfl rfl (by decide) rfl ?_
  refine g_iload_n 122 C 0 dX6_init_121 rfl rfl ?_
  refine g_iconst 123 C dX6_init_122 rfl ?_
  refine g_iastore (ws' := [(_, .inr (6, [_, _, _, _, _, _, _, _, _, _, _, _, _, _, _, _, _, _, _, _, _, _, _])), (_, aI _ _ _), (_, aI _ _ _), (_, aI _ _ _), (_, aI _ _ _), (_, aI _ _ _), (_, aZ _ _ _), (_, aI _ _ _), (_, aI _ _ _), (_, aI _ _ _), (_, aI _ _ _), (_, aI _ _ _), (_, aI _ _ _)]) 124 C 9 dX6_init_123 rfl rfl (by omega) rfl ?_
  refine g_iinc (lv' := [(1, .int (iI 4)), (0, _)]) 127 C 0 dX6_init_124 rfl rfl (by decide) rfl ?_
  refine g_goto 112 C dX6_init_127 (by decide) ?_
  refine g_iload_n 113 C 0 dX6_init_112 rfl rfl ?_
  refine g_iconst 114 C dX6_init_113 rfl ?_
  refine g_icmp_ge 130 117 C dX6_init_114 (by decide) rfl (by omega) ?_ (fun q => absurd q (by omega))
  intro _
  exact g_vret C hr dX6_init_130 ⟨_, _, _, _, _, _, _, _, _, _, _, _, rfl, rfl⟩
