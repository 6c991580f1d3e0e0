theorem lX1_init_arrI : Cond.arrayClass .int ∈ wsX1_init := by decide +kernel
theorem lX1_init_15 : Cond.fieldLink RX1 15 (TX1 1).1 (TX1 1).2.1 (TX1 1).2.2.1 ∈ wsX1_init := by decide +kernel
theorem lX1_init_9 : Cond.fieldLink RX1 9 (TX1 0).1 (TX1 0).2.1 (TX1 0).2.2.1 ∈ wsX1_init := by decide +kernel
theorem lX1_init_3 : ∀ w ∈ ([Cond.methodLink RX1 3 Lib.objectInit, Cond.instanceMethod Lib.objectInit, Cond.code Lib.objectInit ⟨#[0xb1]⟩ 1 none] : List Cond), w ∈ wsX1_init := by decide +kernel
theorem iX1_init_X1 : ∀ w ∈ u_ws RX1 TX1 4, w ∈ wsX1_init := by decide +kernel
set_option maxHeartbeats 4000000 in
set_option maxRecDepth 100000 in
theorem k_X1_init (E : gE) (l : Launch) {a_P : Nat}   : gMet E l yX1_init wsX1_init { frames := 3, cells := 2, slots := 300, locals := 73 } 2 300 [.ref a_P] [(a_P, .inr (1, [.null, .null, .int (iI 0), .int (iI 0)]))] (fun v w => ∃ (a_hs a_se : Nat) (f : Int → Int), (v = none ∧ ∀ p e : Int, 0 ≤ p ∧ p < 1 * 1 → 0 ≤ e ∧ e < 4 → f (p * 4 + e) = sdI 1 1 p e) ∧ w = [(a_P, .inr (1, [.ref a_hs, .ref a_se, .int (iI 1), .int (iI 1)])), (a_hs, aI E 200 (zrI (fun _ => 0) 200)), (a_se, aI E 100 f)]) := by
  refine g_start (cc := cX1_init) (maxL := 1) (ret := none) (by decide) rfl (Nat.le_of_ble_eq_true rfl) ?_
  intro p_ e_ s_ m_ args_ below_ meth_ c_ A_ C hr hnm
  refine g_aload_n 1 C 0 dX1_init_0 rfl rfl ?_
  refine g_objInit 4 C dX1_init_1 rfl lX1_init_3 (Nat.le_of_ble_eq_true rfl) (Nat.le_of_ble_eq_true rfl) ?_
  refine g_aload_n 5 C 0 dX1_init_4 rfl rfl ?_
  refine g_sipush 8 C dX1_init_5 rfl (by decide) ?_
  refine g_newI 10 C 200 lX1_init_arrI dX1_init_8 rfl (by decide) (Nat.le_of_ble_eq_true rfl) (Nat.le_of_ble_eq_true rfl) ?_
  intro a_hs
  refine g_w (ws' := [(_, .inr (1, [_, _, _, _])), (_, aI _ _ _)]) [0] rfl rfl ?_
  refine g_putF (ws' := [(_, .inr (1, [_, _, _, _])), (_, aI _ _ _)]) 13 C 0 0 1 tyX1 tyX1_ok nmX1 iX1_init_X1 lX1_init_9 hnm rfl dX1_init_10 rfl rfl rfl (by decide) rfl rfl rfl (Nat.le_of_ble_eq_true rfl) rfl ?_
  refine g_aload_n 14 C 0 dX1_init_13 rfl rfl ?_
  refine g_bipush 16 C dX1_init_14 rfl (by decide) ?_
  refine g_newI 18 C 100 lX1_init_arrI dX1_init_16 rfl (by decide) (Nat.le_of_ble_eq_true rfl) (Nat.le_of_ble_eq_true rfl) ?_
  intro a_se
  refine g_w (ws' := [(_, .inr (1, [_, _, _, _])), (_, aI _ _ _), (_, aI _ _ _)]) [0] rfl rfl ?_
  refine g_putF (ws' := [(_, .inr (1, [_, _, _, _])), (_, aI _ _ _), (_, aI _ _ _)]) 21 C 0 1 1 tyX1 tyX1_ok nmX1 iX1_init_X1 lX1_init_15 hnm rfl dX1_init_18 rfl rfl rfl (by decide) rfl rfl rfl (Nat.le_of_ble_eq_true rfl) rfl ?_
  refine g_aload_n 22 C 0 dX1_init_21 rfl rfl ?_
  refine g_iconst 23 C dX1_init_22 rfl ?_
  refine g_iconst 24 C dX1_init_23 rfl ?_
  refine g_callV 27 C [0, 1, 2] dX1_init_24 rfl (k_X1_cutAnew E l  (by first | assumption | omega)) (cwV 2 C.2.2.2.2.1 gX1_init_X1_cutAnew rfl rfl rfl cdX1_cutAnew ⟨Nat.le_of_ble_eq_true rfl, Nat.le_of_ble_eq_true rfl⟩) rfl rfl rfl rfl (Nat.le_of_ble_eq_true rfl) 0 1 rfl rfl rfl ⟨Nat.le_of_ble_eq_true rfl, Nat.le_of_ble_eq_true rfl⟩ (fun v w q => by obtain ⟨f, -, rfl⟩ := q; rfl) ?_
  rintro _ _ ⟨f, ⟨rfl, hSE⟩, rfl⟩
  refine g_w (ws' := [(_, .inr (1, [_, _, _, _])), (_, aI _ _ _), (_, aI _ _ _)]) [0] rfl rfl ?_
  exact g_vret C hr dX1_init_27 ⟨_, _, _, ⟨rfl, hSE⟩, rfl⟩
