theorem lX0_begin_7 : Cond.fieldLink RX0 7 (TX0 0).1 (TX0 0).2.1 (TX0 0).2.2.1 ∈ wsX0_begin := by decide +kernel
theorem iX0_begin_X0 : ∀ w ∈ u_ws RX0 TX0 1, w ∈ wsX0_begin := by decide +kernel
set_option maxHeartbeats 4000000 in
set_option maxRecDepth 100000 in
theorem k_X0_begin (E : gE) (l : Launch) {a_D : Nat} {now sd : Int64}  : gUpd E l yX0_begin wsX0_begin { frames := 0, cells := 0, slots := 0, locals := 0 } [.ref a_D, .long sd] [(a_D, .inr (0, [.long now]))] none [(a_D, .inr (0, [.long sd]))] := by
  refine g_start (cc := cX0_begin) (maxL := 3) (ret := none) (by decide) rfl (Nat.le_of_ble_eq_true rfl) ?_
  intro p_ e_ s_ m_ args_ below_ meth_ c_ A_ C hr hnm
  refine g_aload_n 1 C 0 dX0_begin_0 rfl rfl ?_
  refine g_lload_n 2 C 1 dX0_begin_1 rfl rfl ?_
  refine g_put (ws' := [(_, .inr (0, [_]))]) 5 C 0 0 0 tyX0 tyX0_ok nmX0 iX0_begin_X0 lX0_begin_7 dX0_begin_2 rfl rfl rfl (by decide) rfl rfl rfl (Nat.le_of_ble_eq_true rfl) rfl ?_
  exact g_vret C hr dX0_begin_5 ⟨rfl, rfl⟩
theorem lX0_below_7 : Cond.fieldLink RX0 7 (TX0 0).1 (TX0 0).2.1 (TX0 0).2.2.1 ∈ wsX0_below := by decide +kernel
theorem lX0_below_13 : Cond.constantLong RX0 13 (6364136223846793005) ∈ wsX0_below := by decide +kernel
theorem lX0_below_15 : Cond.constantLong RX0 15 (1442695040888963407) ∈ wsX0_below := by decide +kernel
theorem lX0_below_17 : Cond.constantLong RX0 17 (2147483647) ∈ wsX0_below := by decide +kernel
theorem lX0_below_19 : Cond.constantLong RX0 19 (4096) ∈ wsX0_below := by decide +kernel
theorem iX0_below_X0 : ∀ w ∈ u_ws RX0 TX0 1, w ∈ wsX0_below := by decide +kernel
set_option maxHeartbeats 4000000 in
set_option maxRecDepth 100000 in
theorem k_X0_below (E : gE) (l : Launch) {a_D : Nat} {now : Int64} {n : Int} (hn : 1 ≤ n ∧ n < 2147483648) : gUpd E l yX0_below wsX0_below { frames := 0, cells := 0, slots := 0, locals := 0 } [.ref a_D, .int (iI n)] [(a_D, .inr (0, [.long now]))] (some (.int (iI (dvI (dnI now) n)))) [(a_D, .inr (0, [.long (dnI now)]))] := by
  refine g_start (cc := cX0_below) (maxL := 2) (ret := (some .int)) (by decide) rfl (Nat.le_of_ble_eq_true rfl) ?_
  intro p_ e_ s_ m_ args_ below_ meth_ c_ A_ C hr hnm
  refine g_aload_n 1 C 0 dX0_below_0 rfl rfl ?_
  refine g_aload_n 2 C 0 dX0_below_1 rfl rfl ?_
  refine g_get 5 C 0 0 0 iX0_below_X0 lX0_below_7 dX0_below_2 rfl rfl rfl (by decide) rfl ?_
  refine g_ldc2 8 C (6364136223846793005) dX0_below_5 rfl lX0_below_13 (by decide) ?_
  refine g_lmul_r 9 C dX0_below_8 rfl ?_
  refine g_ldc2 12 C (1442695040888963407) dX0_below_9 rfl lX0_below_15 (by decide) ?_
  refine g_ladd_r 13 C dX0_below_12 rfl ?_
  refine g_put (ws' := [(_, .inr (0, [_]))]) 16 C 0 0 0 tyX0 tyX0_ok nmX0 iX0_below_X0 lX0_below_7 dX0_below_13 rfl rfl rfl (by decide) rfl rfl rfl (Nat.le_of_ble_eq_true rfl) rfl ?_
  refine g_iload_n 17 C 1 dX0_below_16 rfl rfl ?_
  refine g_iconst 18 C dX0_below_17 rfl ?_
  refine g_icmp_ge 25 21 C dX0_below_18 (by decide) rfl (by omega) ?_ (fun h18 => absurd h18 (by omega))
  intro h18
  refine g_aload_n 26 C 0 dX0_below_25 rfl rfl ?_
  refine g_get 29 C 0 0 0 iX0_below_X0 lX0_below_7 dX0_below_26 rfl rfl rfl (by decide) rfl ?_
  refine g_ldc2 32 C (2147483647) dX0_below_29 rfl lX0_below_17 (by decide) ?_
  refine g_land_r 33 C dX0_below_32 rfl ?_
  refine g_ldc2 36 C (4096) dX0_below_33 rfl lX0_below_19 (by decide) ?_
  refine g_ldiv_r 37 C dX0_below_36 rfl (by decide) ?_
  refine g_iload_n 38 C 1 dX0_below_37 rfl rfl ?_
  refine g_i2l 39 C dX0_below_38 rfl (by omega) ?_
  refine g_lrem_r 40 C dX0_below_39 rfl (fun q => by have := (lI_inj (a := n) (b := 0) (by omega) (by omega) (by omega) (by omega)).mp q; omega) ?_
  refine g_l2i_r 41 C dX0_below_40 rfl ?_
  exact g_iret C hr dX0_below_41 ⟨congrArg some (congrArg Value.int (iI_of _).symm), rfl⟩
theorem lX2_size_18 : Cond.fieldLink RX2 18 (TX2 2).1 (TX2 2).2.1 (TX2 2).2.2.1 ∈ wsX2_size := by decide +kernel
theorem iX2_size_X2 : ∀ w ∈ u_ws RX2 TX2 3, w ∈ wsX2_size := by decide +kernel
set_option maxHeartbeats 4000000 in
set_option maxRecDepth 100000 in
theorem k_X2_size (E : gE) (l : Launch) {a_L a_pc a_tn : Nat} {n : Int}  : gFun E l yX2_size wsX2_size { frames := 0, cells := 0, slots := 0, locals := 0 } [.ref a_L] [(a_L, .inr (2, [.ref a_pc, .ref a_tn, .int (iI n)]))] (.int (iI n)) := by
  refine g_start (cc := cX2_size) (maxL := 1) (ret := (some .int)) (by decide) rfl (Nat.le_of_ble_eq_true rfl) ?_
  intro p_ e_ s_ m_ args_ below_ meth_ c_ A_ C hr hnm
  refine g_aload_n 1 C 0 dX2_size_0 rfl rfl ?_
  refine g_get 4 C 0 2 2 iX2_size_X2 lX2_size_18 dX2_size_1 rfl rfl rfl (by decide) rfl ?_
  exact g_iret C hr dX2_size_4 ⟨g_ri (by first | rfl | omega | exact (if_pos (by omega)).symm | exact (if_neg (by omega)).symm), rfl⟩
theorem lX2_isFull_18 : Cond.fieldLink RX2 18 (TX2 2).1 (TX2 2).2.1 (TX2 2).2.2.1 ∈ wsX2_isFull := by decide +kernel
theorem iX2_isFull_X2 : ∀ w ∈ u_ws RX2 TX2 3, w ∈ wsX2_isFull := by decide +kernel
set_option maxHeartbeats 4000000 in
set_option maxRecDepth 100000 in
theorem k_X2_isFull (E : gE) (l : Launch) {a_L a_pc a_tn : Nat} {n : Int} (hn : 0 ≤ n ∧ n ≤ 25) : gFun E l yX2_isFull wsX2_isFull { frames := 0, cells := 0, slots := 0, locals := 0 } [.ref a_L] [(a_L, .inr (2, [.ref a_pc, .ref a_tn, .int (iI n)]))] (.int (iI (if 25 ≤ n then 1 else 0))) := by
  refine g_start (cc := cX2_isFull) (maxL := 1) (ret := (some .boolean)) (by decide) rfl (Nat.le_of_ble_eq_true rfl) ?_
  intro p_ e_ s_ m_ args_ below_ meth_ c_ A_ C hr hnm
  refine g_aload_n 1 C 0 dX2_isFull_0 rfl rfl ?_
  refine g_get 4 C 0 2 2 iX2_isFull_X2 lX2_isFull_18 dX2_isFull_1 rfl rfl rfl (by decide) rfl ?_
  refine g_bipush 6 C dX2_isFull_4 rfl (by decide) ?_
  refine g_icmp_lt 13 9 C dX2_isFull_6 (by decide) rfl (by omega) ?_ ?_
  · intro h6
    refine g_iconst 14 C dX2_isFull_13 rfl ?_
    exact g_zret C hr dX2_isFull_14 (by first | rfl | decide | (split <;> rfl)) ⟨g_ri (by first | rfl | omega | exact (if_pos (by omega)).symm | exact (if_neg (by omega)).symm), rfl⟩
  · intro h6
    refine g_iconst 10 C dX2_isFull_9 rfl ?_
    refine g_goto 14 C dX2_isFull_10 (by decide) ?_
    exact g_zret C hr dX2_isFull_14 (by first | rfl | decide | (split <;> rfl)) ⟨g_ri (by first | rfl | omega | exact (if_pos (by omega)).symm | exact (if_neg (by omega)).symm), rfl⟩
theorem lX2_hasPlace_18 : Cond.fieldLink RX2 18 (TX2 2).1 (TX2 2).2.1 (TX2 2).2.2.1 ∈ wsX2_hasPlace := by decide +kernel
theorem iX2_hasPlace_X2 : ∀ w ∈ u_ws RX2 TX2 3, w ∈ wsX2_hasPlace := by decide +kernel
set_option maxHeartbeats 4000000 in
set_option maxRecDepth 100000 in
theorem k_X2_hasPlace (E : gE) (l : Launch) {a_L a_pc a_tn : Nat} {n i : Int} (hn : 0 ≤ n ∧ n ≤ 25) (hi : -2147483648 ≤ i ∧ i < 2147483648) : gFun E l yX2_hasPlace wsX2_hasPlace { frames := 0, cells := 0, slots := 0, locals := 0 } [.ref a_L, .int (iI i)] [(a_L, .inr (2, [.ref a_pc, .ref a_tn, .int (iI n)]))] (.int (iI (if 0 ≤ i ∧ i < n then 1 else 0))) := by
  refine g_start (cc := cX2_hasPlace) (maxL := 2) (ret := (some .boolean)) (by decide) rfl (Nat.le_of_ble_eq_true rfl) ?_
  intro p_ e_ s_ m_ args_ below_ meth_ c_ A_ C hr hnm
  refine g_iload_n 1 C 1 dX2_hasPlace_0 rfl rfl ?_
  refine g_if_lt 16 4 C dX2_hasPlace_1 (by decide) rfl (by omega) ?_ ?_
  · intro h1
    refine g_iconst 17 C dX2_hasPlace_16 rfl ?_
    exact g_zret C hr dX2_hasPlace_17 (by first | rfl | decide | (split <;> rfl)) ⟨g_ri (by first | rfl | omega | exact (if_pos (by omega)).symm | exact (if_neg (by omega)).symm), rfl⟩
  · intro h1
    refine g_iload_n 5 C 1 dX2_hasPlace_4 rfl rfl ?_
    refine g_aload_n 6 C 0 dX2_hasPlace_5 rfl rfl ?_
    refine g_get 9 C 0 2 2 iX2_hasPlace_X2 lX2_hasPlace_18 dX2_hasPlace_6 rfl rfl rfl (by decide) rfl ?_
    refine g_icmp_ge 16 12 C dX2_hasPlace_9 (by decide) rfl (by omega) ?_ ?_
    · intro h9
      refine g_iconst 17 C dX2_hasPlace_16 rfl ?_
      exact g_zret C hr dX2_hasPlace_17 (by first | rfl | decide | (split <;> rfl)) ⟨g_ri (by first | rfl | omega | exact (if_pos (by omega)).symm | exact (if_neg (by omega)).symm), rfl⟩
    · intro h9
      refine g_iconst 13 C dX2_hasPlace_12 rfl ?_
      refine g_goto 17 C dX2_hasPlace_13 (by decide) ?_
      exact g_zret C hr dX2_hasPlace_17 (by first | rfl | decide | (split <;> rfl)) ⟨g_ri (by first | rfl | omega | exact (if_pos (by omega)).symm | exact (if_neg (by omega)).symm), rfl⟩
theorem cdX2_hasPlace : yX2_hasPlace.cls = RX2 ∧ yX2_hasPlace.cls ≠ "java/lang/invoke/MethodHandle" ∧ yX2_hasPlace.cls ≠ "java/lang/invoke/VarHandle" ∧ (parseMethodDescriptor yX2_hasPlace.desc).map (fun d => d.parameters.length) = some 1 := by decide +kernel
theorem lX2_pieceAt_9 : Cond.fieldLink RX2 9 (TX2 0).1 (TX2 0).2.1 (TX2 0).2.2.1 ∈ wsX2_pieceAt := by decide +kernel
theorem iX2_pieceAt_X2 : ∀ w ∈ u_ws RX2 TX2 3, w ∈ wsX2_pieceAt := by decide +kernel
set_option maxHeartbeats 4000000 in
set_option maxRecDepth 100000 in
theorem k_X2_pieceAt (E : gE) (l : Launch) {a_L a_pc a_tn : Nat} {n i : Int} {pc : Int → Int} (hn : 0 ≤ n ∧ n ≤ 25) (hi : 0 ≤ i ∧ i < n) : gFun E l yX2_pieceAt wsX2_pieceAt { frames := 1, cells := 0, slots := 0, locals := 21 } [.ref a_L, .int (iI i)] [(a_L, .inr (2, [.ref a_pc, .ref a_tn, .int (iI n)])), (a_pc, aI E 25 pc)] (.int (iI (pc i))) := by
  refine g_start (cc := cX2_pieceAt) (maxL := 2) (ret := (some .int)) (by decide) rfl (Nat.le_of_ble_eq_true rfl) ?_
  intro p_ e_ s_ m_ args_ below_ meth_ c_ A_ C hr hnm
  refine g_aload_n 1 C 0 dX2_pieceAt_0 rfl rfl ?_
  refine g_iload_n 2 C 1 dX2_pieceAt_1 rfl rfl ?_
  refine g_callVF 5 C [0] dX2_pieceAt_2 rfl (k_X2_hasPlace E l  (by first | assumption | omega) (by first | assumption | omega)) (cwV 1 C.2.2.2.2.1 gX2_pieceAt_X2_hasPlace rfl rfl rfl cdX2_hasPlace ⟨Nat.le_of_ble_eq_true rfl, Nat.le_of_ble_eq_true rfl⟩) rfl rfl rfl rfl (Nat.le_of_ble_eq_true rfl) 0 2 rfl rfl rfl ⟨Nat.le_of_ble_eq_true rfl, Nat.le_of_ble_eq_true rfl⟩ ?_
  refine g_ifb_eq 17 8 C dX2_pieceAt_5 (by decide) rfl (fun h5 => absurd h5 (by omega)) ?_
  intro h5
  refine g_aload_n 9 C 0 dX2_pieceAt_8 rfl rfl ?_
  refine g_get 12 C 0 0 2 iX2_pieceAt_X2 lX2_pieceAt_9 dX2_pieceAt_9 rfl rfl rfl (by decide) rfl ?_
  refine g_iload_n 13 C 1 dX2_pieceAt_12 rfl rfl ?_
  refine g_iaload 14 C 1 dX2_pieceAt_13 rfl rfl (by omega) ?_
  refine g_goto 19 C dX2_pieceAt_14 (by decide) ?_
  exact g_iret C hr dX2_pieceAt_19 ⟨g_ri (by first | rfl | omega | exact (if_pos (by omega)).symm | exact (if_neg (by omega)).symm), rfl⟩
theorem lX2_turnAt_15 : Cond.fieldLink RX2 15 (TX2 1).1 (TX2 1).2.1 (TX2 1).2.2.1 ∈ wsX2_turnAt := by decide +kernel
theorem iX2_turnAt_X2 : ∀ w ∈ u_ws RX2 TX2 3, w ∈ wsX2_turnAt := by decide +kernel
set_option maxHeartbeats 4000000 in
set_option maxRecDepth 100000 in
theorem k_X2_turnAt (E : gE) (l : Launch) {a_L a_pc a_tn : Nat} {n i : Int} {tn : Int → Int} (hn : 0 ≤ n ∧ n ≤ 25) (hi : 0 ≤ i ∧ i < n) : gFun E l yX2_turnAt wsX2_turnAt { frames := 1, cells := 0, slots := 0, locals := 21 } [.ref a_L, .int (iI i)] [(a_L, .inr (2, [.ref a_pc, .ref a_tn, .int (iI n)])), (a_tn, aI E 25 tn)] (.int (iI (tn i))) := by
  refine g_start (cc := cX2_turnAt) (maxL := 2) (ret := (some .int)) (by decide) rfl (Nat.le_of_ble_eq_true rfl) ?_
  intro p_ e_ s_ m_ args_ below_ meth_ c_ A_ C hr hnm
  refine g_aload_n 1 C 0 dX2_turnAt_0 rfl rfl ?_
  refine g_iload_n 2 C 1 dX2_turnAt_1 rfl rfl ?_
  refine g_callVF 5 C [0] dX2_turnAt_2 rfl (k_X2_hasPlace E l  (by first | assumption | omega) (by first | assumption | omega)) (cwV 1 C.2.2.2.2.1 gX2_turnAt_X2_hasPlace rfl rfl rfl cdX2_hasPlace ⟨Nat.le_of_ble_eq_true rfl, Nat.le_of_ble_eq_true rfl⟩) rfl rfl rfl rfl (Nat.le_of_ble_eq_true rfl) 0 2 rfl rfl rfl ⟨Nat.le_of_ble_eq_true rfl, Nat.le_of_ble_eq_true rfl⟩ ?_
  refine g_ifb_eq 17 8 C dX2_turnAt_5 (by decide) rfl (fun h5 => absurd h5 (by omega)) ?_
  intro h5
  refine g_aload_n 9 C 0 dX2_turnAt_8 rfl rfl ?_
  refine g_get 12 C 0 1 2 iX2_turnAt_X2 lX2_turnAt_15 dX2_turnAt_9 rfl rfl rfl (by decide) rfl ?_
  refine g_iload_n 13 C 1 dX2_turnAt_12 rfl rfl ?_
  refine g_iaload 14 C 1 dX2_turnAt_13 rfl rfl (by omega) ?_
  refine g_goto 18 C dX2_turnAt_14 (by decide) ?_
  exact g_iret C hr dX2_turnAt_18 ⟨g_ri (by first | rfl | omega | exact (if_pos (by omega)).symm | exact (if_neg (by omega)).symm), rfl⟩
theorem lX2_clearAll_18 : Cond.fieldLink RX2 18 (TX2 2).1 (TX2 2).2.1 (TX2 2).2.2.1 ∈ wsX2_clearAll := by decide +kernel
theorem iX2_clearAll_X2 : ∀ w ∈ u_ws RX2 TX2 3, w ∈ wsX2_clearAll := by decide +kernel
set_option maxHeartbeats 4000000 in
set_option maxRecDepth 100000 in
theorem k_X2_clearAll (E : gE) (l : Launch) {a_L a_pc a_tn : Nat} {n : Int}  : gUpd E l yX2_clearAll wsX2_clearAll { frames := 0, cells := 0, slots := 0, locals := 0 } [.ref a_L] [(a_L, .inr (2, [.ref a_pc, .ref a_tn, .int (iI n)]))] none [(a_L, .inr (2, [.ref a_pc, .ref a_tn, .int (iI 0)]))] := by
  refine g_start (cc := cX2_clearAll) (maxL := 1) (ret := none) (by decide) rfl (Nat.le_of_ble_eq_true rfl) ?_
  intro p_ e_ s_ m_ args_ below_ meth_ c_ A_ C hr hnm
  refine g_aload_n 1 C 0 dX2_clearAll_0 rfl rfl ?_
  refine g_iconst 2 C dX2_clearAll_1 rfl ?_
  refine g_put (ws' := [(_, .inr (2, [_, _, _]))]) 5 C 0 2 2 tyX2 tyX2_ok nmX2 iX2_clearAll_X2 lX2_clearAll_18 dX2_clearAll_2 rfl rfl rfl (by decide) rfl rfl rfl (Nat.le_of_ble_eq_true rfl) rfl ?_
  exact g_vret C hr dX2_clearAll_5 ⟨rfl, rfl⟩
theorem cdX2_isFull : yX2_isFull.cls = RX2 ∧ yX2_isFull.cls ≠ "java/lang/invoke/MethodHandle" ∧ yX2_isFull.cls ≠ "java/lang/invoke/VarHandle" ∧ (parseMethodDescriptor yX2_isFull.desc).map (fun d => d.parameters.length) = some 0 := by decide +kernel
theorem lX2_append_15 : Cond.fieldLink RX2 15 (TX2 1).1 (TX2 1).2.1 (TX2 1).2.2.1 ∈ wsX2_append := by decide +kernel
theorem lX2_append_18 : Cond.fieldLink RX2 18 (TX2 2).1 (TX2 2).2.1 (TX2 2).2.2.1 ∈ wsX2_append := by decide +kernel
theorem lX2_append_9 : Cond.fieldLink RX2 9 (TX2 0).1 (TX2 0).2.1 (TX2 0).2.2.1 ∈ wsX2_append := by decide +kernel
theorem iX2_append_X2 : ∀ w ∈ u_ws RX2 TX2 3, w ∈ wsX2_append := by decide +kernel
set_option maxHeartbeats 4000000 in
set_option maxRecDepth 100000 in
theorem k_X2_append (E : gE) (l : Launch) {a_L a_pc a_tn : Nat} {n p t : Int} {pc tn : Int → Int} (hn : 0 ≤ n ∧ n < 25) : gUpd E l yX2_append wsX2_append { frames := 1, cells := 0, slots := 0, locals := 20 } [.ref a_L, .int (iI p), .int (iI t)] [(a_L, .inr (2, [.ref a_pc, .ref a_tn, .int (iI n)])), (a_pc, aI E 25 pc), (a_tn, aI E 25 tn)] none [(a_L, .inr (2, [.ref a_pc, .ref a_tn, .int (iI (n + 1))])), (a_pc, aI E 25 (uI pc n p)), (a_tn, aI E 25 (uI tn n t))] := by
  refine g_start (cc := cX2_append) (maxL := 3) (ret := none) (by decide) rfl (Nat.le_of_ble_eq_true rfl) ?_
  intro p_ e_ s_ m_ args_ below_ meth_ c_ A_ C hr hnm
  refine g_aload_n 1 C 0 dX2_append_0 rfl rfl ?_
  refine g_callVF 4 C [0] dX2_append_1 rfl (k_X2_isFull E l  (by first | assumption | omega)) (cwV 0 C.2.2.2.2.1 gX2_append_X2_isFull rfl rfl rfl cdX2_isFull ⟨Nat.le_of_ble_eq_true rfl, Nat.le_of_ble_eq_true rfl⟩) rfl rfl rfl rfl (Nat.le_of_ble_eq_true rfl) 0 2 rfl rfl rfl ⟨Nat.le_of_ble_eq_true rfl, Nat.le_of_ble_eq_true rfl⟩ ?_
  refine g_ifb_ne 37 7 C dX2_append_4 (by decide) rfl (fun h4 => absurd h4 (by omega)) ?_
  intro h4
  refine g_aload_n 8 C 0 dX2_append_7 rfl rfl ?_
  refine g_get 11 C 0 0 2 iX2_append_X2 lX2_append_9 dX2_append_8 rfl rfl rfl (by decide) rfl ?_
  refine g_aload_n 12 C 0 dX2_append_11 rfl rfl ?_
  refine g_get 15 C 0 2 2 iX2_append_X2 lX2_append_18 dX2_append_12 rfl rfl rfl (by decide) rfl ?_
  refine g_iload_n 16 C 1 dX2_append_15 rfl rfl ?_
  refine g_iastore (ws' := [(_, .inr (2, [_, _, _])), (_, aI _ _ _), (_, aI _ _ _)]) 17 C 1 dX2_append_16 rfl rfl (by omega) rfl ?_
  refine g_aload_n 18 C 0 dX2_append_17 rfl rfl ?_
  refine g_get 21 C 0 1 2 iX2_append_X2 lX2_append_15 dX2_append_18 rfl rfl rfl (by decide) rfl ?_
  refine g_aload_n 22 C 0 dX2_append_21 rfl rfl ?_
  refine g_get 25 C 0 2 2 iX2_append_X2 lX2_append_18 dX2_append_22 rfl rfl rfl (by decide) rfl ?_
  refine g_iload_n 26 C 2 dX2_append_25 rfl rfl ?_
  refine g_iastore (ws' := [(_, .inr (2, [_, _, _])), (_, aI _ _ _), (_, aI _ _ _)]) 27 C 2 dX2_append_26 rfl rfl (by omega) rfl ?_
  refine g_aload_n 28 C 0 dX2_append_27 rfl rfl ?_
  refine g_dup 29 C dX2_append_28 rfl rfl ?_
  refine g_get 32 C 0 2 2 iX2_append_X2 lX2_append_18 dX2_append_29 rfl rfl rfl (by decide) rfl ?_
  refine g_iconst 33 C dX2_append_32 rfl ?_
  refine g_iadd 34 C dX2_append_33 rfl ?_
  refine g_put (ws' := [(_, .inr (2, [_, _, _])), (_, aI _ _ _), (_, aI _ _ _)]) 37 C 0 2 2 tyX2 tyX2_ok nmX2 iX2_append_X2 lX2_append_18 dX2_append_34 rfl rfl rfl (by decide) rfl rfl rfl (Nat.le_of_ble_eq_true rfl) rfl ?_
  exact g_vret C hr dX2_append_37 ⟨rfl, rfl⟩
theorem lX2_setTurn_15 : Cond.fieldLink RX2 15 (TX2 1).1 (TX2 1).2.1 (TX2 1).2.2.1 ∈ wsX2_setTurn := by decide +kernel
theorem iX2_setTurn_X2 : ∀ w ∈ u_ws RX2 TX2 3, w ∈ wsX2_setTurn := by decide +kernel
set_option maxHeartbeats 4000000 in
set_option maxRecDepth 100000 in
theorem k_X2_setTurn (E : gE) (l : Launch) {a_L a_pc a_tn : Nat} {n i t : Int} {tn : Int → Int} (hn : 0 ≤ n ∧ n ≤ 25) (hi : 0 ≤ i ∧ i < n) : gUpd E l yX2_setTurn wsX2_setTurn { frames := 1, cells := 0, slots := 0, locals := 21 } [.ref a_L, .int (iI i), .int (iI t)] [(a_L, .inr (2, [.ref a_pc, .ref a_tn, .int (iI n)])), (a_tn, aI E 25 tn)] none [(a_L, .inr (2, [.ref a_pc, .ref a_tn, .int (iI n)])), (a_tn, aI E 25 (uI tn i t))] := by
  refine g_start (cc := cX2_setTurn) (maxL := 3) (ret := none) (by decide) rfl (Nat.le_of_ble_eq_true rfl) ?_
  intro p_ e_ s_ m_ args_ below_ meth_ c_ A_ C hr hnm
  refine g_aload_n 1 C 0 dX2_setTurn_0 rfl rfl ?_
  refine g_iload_n 2 C 1 dX2_setTurn_1 rfl rfl ?_
  refine g_callVF 5 C [0] dX2_setTurn_2 rfl (k_X2_hasPlace E l  (by first | assumption | omega) (by first | assumption | omega)) (cwV 1 C.2.2.2.2.1 gX2_setTurn_X2_hasPlace rfl rfl rfl cdX2_hasPlace ⟨Nat.le_of_ble_eq_true rfl, Nat.le_of_ble_eq_true rfl⟩) rfl rfl rfl rfl (Nat.le_of_ble_eq_true rfl) 0 2 rfl rfl rfl ⟨Nat.le_of_ble_eq_true rfl, Nat.le_of_ble_eq_true rfl⟩ ?_
  refine g_ifb_eq 15 8 C dX2_setTurn_5 (by decide) rfl (fun h5 => absurd h5 (by omega)) ?_
  intro h5
  refine g_aload_n 9 C 0 dX2_setTurn_8 rfl rfl ?_
  refine g_get 12 C 0 1 2 iX2_setTurn_X2 lX2_setTurn_15 dX2_setTurn_9 rfl rfl rfl (by decide) rfl ?_
  refine g_iload_n 13 C 1 dX2_setTurn_12 rfl rfl ?_
  refine g_iload_n 14 C 2 dX2_setTurn_13 rfl rfl ?_
  refine g_iastore (ws' := [(_, .inr (2, [_, _, _])), (_, aI _ _ _)]) 15 C 1 dX2_setTurn_14 rfl rfl (by omega) rfl ?_
  exact g_vret C hr dX2_setTurn_15 ⟨rfl, rfl⟩
theorem lX2_swapPieces_9 : Cond.fieldLink RX2 9 (TX2 0).1 (TX2 0).2.1 (TX2 0).2.2.1 ∈ wsX2_swapPieces := by decide +kernel
theorem iX2_swapPieces_X2 : ∀ w ∈ u_ws RX2 TX2 3, w ∈ wsX2_swapPieces := by decide +kernel
set_option maxHeartbeats 4000000 in
set_option maxRecDepth 100000 in
theorem k_X2_swapPieces (E : gE) (l : Launch) {a_L a_pc a_tn : Nat} {n i j : Int} {pc : Int → Int} (hn : 0 ≤ n ∧ n ≤ 25) (hi : 0 ≤ i ∧ i < n) (hj : 0 ≤ j ∧ j < n) : gUpd E l yX2_swapPieces wsX2_swapPieces { frames := 1, cells := 0, slots := 0, locals := 21 } [.ref a_L, .int (iI i), .int (iI j)] [(a_L, .inr (2, [.ref a_pc, .ref a_tn, .int (iI n)])), (a_pc, aI E 25 pc)] none [(a_L, .inr (2, [.ref a_pc, .ref a_tn, .int (iI n)])), (a_pc, aI E 25 (uI (uI pc i (pc j)) j (pc i)))] := by
  refine g_start (cc := cX2_swapPieces) (maxL := 4) (ret := none) (by decide) rfl (Nat.le_of_ble_eq_true rfl) ?_
  intro p_ e_ s_ m_ args_ below_ meth_ c_ A_ C hr hnm
  refine g_aload_n 1 C 0 dX2_swapPieces_0 rfl rfl ?_
  refine g_iload_n 2 C 1 dX2_swapPieces_1 rfl rfl ?_
  refine g_callVF 5 C [0] dX2_swapPieces_2 rfl (k_X2_hasPlace E l  (by first | assumption | omega) (by first | assumption | omega)) (cwV 1 C.2.2.2.2.1 gX2_swapPieces_X2_hasPlace rfl rfl rfl cdX2_hasPlace ⟨Nat.le_of_ble_eq_true rfl, Nat.le_of_ble_eq_true rfl⟩) rfl rfl rfl rfl (Nat.le_of_ble_eq_true rfl) 0 2 rfl rfl rfl ⟨Nat.le_of_ble_eq_true rfl, Nat.le_of_ble_eq_true rfl⟩ ?_
  refine g_ifb_eq 42 8 C dX2_swapPieces_5 (by decide) rfl (fun h5 => absurd h5 (by omega)) ?_
  intro h5
  refine g_aload_n 9 C 0 dX2_swapPieces_8 rfl rfl ?_
  refine g_iload_n 10 C 2 dX2_swapPieces_9 rfl rfl ?_
  refine g_callVF 13 C [0] dX2_swapPieces_10 rfl (k_X2_hasPlace E l  (by first | assumption | omega) (by first | assumption | omega)) (cwV 1 C.2.2.2.2.1 gX2_swapPieces_X2_hasPlace rfl rfl rfl cdX2_hasPlace ⟨Nat.le_of_ble_eq_true rfl, Nat.le_of_ble_eq_true rfl⟩) rfl rfl rfl rfl (Nat.le_of_ble_eq_true rfl) 0 2 rfl rfl rfl ⟨Nat.le_of_ble_eq_true rfl, Nat.le_of_ble_eq_true rfl⟩ ?_
  refine g_ifb_eq 42 16 C dX2_swapPieces_13 (by decide) rfl (fun h13 => absurd h13 (by omega)) ?_
  intro h13
  refine g_aload_n 17 C 0 dX2_swapPieces_16 rfl rfl ?_
  refine g_get 20 C 0 0 2 iX2_swapPieces_X2 lX2_swapPieces_9 dX2_swapPieces_17 rfl rfl rfl (by decide) rfl ?_
  refine g_iload_n 21 C 1 dX2_swapPieces_20 rfl rfl ?_
  refine g_iaload 22 C 1 dX2_swapPieces_21 rfl rfl (by omega) ?_
  refine g_istore_n (lv' := [(3, _), (0, _), (1, _), (2, _)]) 23 C dX2_swapPieces_22 rfl rfl (by decide) rfl ?_
  refine g_aload_n 24 C 1 dX2_swapPieces_23 rfl rfl ?_
  refine g_get 27 C 0 0 2 iX2_swapPieces_X2 lX2_swapPieces_9 dX2_swapPieces_24 rfl rfl rfl (by decide) rfl ?_
  refine g_iload_n 28 C 2 dX2_swapPieces_27 rfl rfl ?_
  refine g_aload_n 29 C 1 dX2_swapPieces_28 rfl rfl ?_
  refine g_get 32 C 0 0 2 iX2_swapPieces_X2 lX2_swapPieces_9 dX2_swapPieces_29 rfl rfl rfl (by decide) rfl ?_
  refine g_iload_n 33 C 3 dX2_swapPieces_32 rfl rfl ?_
  refine g_iaload 34 C 1 dX2_swapPieces_33 rfl rfl (by omega) ?_
  refine g_iastore (ws' := [(_, .inr (2, [_, _, _])), (_, aI _ _ _)]) 35 C 1 dX2_swapPieces_34 rfl rfl (by omega) rfl ?_
  refine g_aload_n 36 C 1 dX2_swapPieces_35 rfl rfl ?_
  refine g_get 39 C 0 0 2 iX2_swapPieces_X2 lX2_swapPieces_9 dX2_swapPieces_36 rfl rfl rfl (by decide) rfl ?_
  refine g_iload_n 40 C 3 dX2_swapPieces_39 rfl rfl ?_
  refine g_iload_n 41 C 0 dX2_swapPieces_40 rfl rfl ?_
  refine g_iastore (ws' := [(_, .inr (2, [_, _, _])), (_, aI _ _ _)]) 42 C 1 dX2_swapPieces_41 rfl rfl (by omega) rfl ?_
  exact g_vret C hr dX2_swapPieces_42 ⟨rfl, rfl⟩
theorem lX2_removeAt_15 : Cond.fieldLink RX2 15 (TX2 1).1 (TX2 1).2.1 (TX2 1).2.2.1 ∈ wsX2_removeAt := by decide +kernel
theorem lX2_removeAt_18 : Cond.fieldLink RX2 18 (TX2 2).1 (TX2 2).2.1 (TX2 2).2.2.1 ∈ wsX2_removeAt := by decide +kernel
theorem lX2_removeAt_9 : Cond.fieldLink RX2 9 (TX2 0).1 (TX2 0).2.1 (TX2 0).2.2.1 ∈ wsX2_removeAt := by decide +kernel
theorem iX2_removeAt_X2 : ∀ w ∈ u_ws RX2 TX2 3, w ∈ wsX2_removeAt := by decide +kernel
set_option maxHeartbeats 4000000 in
set_option maxRecDepth 100000 in
theorem k_X2_removeAt (E : gE) (l : Launch) {a_L a_pc a_tn : Nat} {n i : Int} {pc tn : Int → Int} (hn : 0 ≤ n ∧ n ≤ 25) (hi : 0 ≤ i ∧ i < n) : gUpd E l yX2_removeAt wsX2_removeAt { frames := 1, cells := 0, slots := 0, locals := 21 } [.ref a_L, .int (iI i)] [(a_L, .inr (2, [.ref a_pc, .ref a_tn, .int (iI n)])), (a_pc, aI E 25 pc), (a_tn, aI E 25 tn)] none [(a_L, .inr (2, [.ref a_pc, .ref a_tn, .int (iI (n - 1))])), (a_pc, aI E 25 (rmI pc i n)), (a_tn, aI E 25 (rmI tn i n))] := by
  refine g_start (cc := cX2_removeAt) (maxL := 3) (ret := none) (by decide) rfl (Nat.le_of_ble_eq_true rfl) ?_
  intro p_ e_ s_ m_ args_ below_ meth_ c_ A_ C hr hnm
  refine g_aload_n 1 C 0 dX2_removeAt_0 rfl rfl ?_
  refine g_iload_n 2 C 1 dX2_removeAt_1 rfl rfl ?_
  refine g_callVF 5 C [0] dX2_removeAt_2 rfl (k_X2_hasPlace E l  (by first | assumption | omega) (by first | assumption | omega)) (cwV 1 C.2.2.2.2.1 gX2_removeAt_X2_hasPlace rfl rfl rfl cdX2_hasPlace ⟨Nat.le_of_ble_eq_true rfl, Nat.le_of_ble_eq_true rfl⟩) rfl rfl rfl rfl (Nat.le_of_ble_eq_true rfl) 0 2 rfl rfl rfl ⟨Nat.le_of_ble_eq_true rfl, Nat.le_of_ble_eq_true rfl⟩ ?_
  refine g_ifb_eq 64 8 C dX2_removeAt_5 (by decide) rfl (fun h5 => absurd h5 (by omega)) ?_
  intro h5
  refine g_iload_n 9 C 1 dX2_removeAt_8 rfl rfl ?_
  refine g_iconst 10 C dX2_removeAt_9 rfl ?_
  refine g_iadd 11 C dX2_removeAt_10 rfl ?_
  refine g_istore_n (lv' := [(2, _), (0, _), (1, _)]) 12 C dX2_removeAt_11 rfl rfl (by decide) rfl ?_
  refine g_loop (α := Int) (fun zz => [(a_L, .inr (2, [.ref a_pc, .ref a_tn, .int (iI n)])), (a_pc, aI E 25 (rmI pc i zz)), (a_tn, aI E 25 (rmI tn i zz))]) (fun zz => [(2, .int (iI zz)), (1, .int (iI i)), (0, .ref a_L)]) (fun zz => i < zz ∧ zz ≤ n) (fun zz => (n - zz).toNat) ((i + 1)) (by (try dsimp only); omega) [0, 2, 1] (by rw [rmI_0, rmI_0]) rfl ?_
  rintro k hI ih12
  try dsimp only at hI ih12 ⊢
  obtain ⟨hk0, hkn⟩ := hI
  refine g_iload_n 13 C 0 dX2_removeAt_12 rfl rfl ?_
  refine g_aload_n 14 C 2 dX2_removeAt_13 rfl rfl ?_
  refine g_get 17 C 0 2 2 iX2_removeAt_X2 lX2_removeAt_18 dX2_removeAt_14 rfl rfl rfl (by decide) rfl ?_
  refine g_icmp_ge 54 20 C dX2_removeAt_17 (by decide) rfl (by omega) ?_ ?_
  · intro h17
    refine g_aload_n 55 C 2 dX2_removeAt_54 rfl rfl ?_
    refine g_dup 56 C dX2_removeAt_55 rfl rfl ?_
    refine g_get 59 C 0 2 2 iX2_removeAt_X2 lX2_removeAt_18 dX2_removeAt_56 rfl rfl rfl (by decide) rfl ?_
    refine g_iconst 60 C dX2_removeAt_59 rfl ?_
    refine g_isub 61 C dX2_removeAt_60 rfl ?_
    refine g_put (ws' := [(_, .inr (2, [_, _, _])), (_, aI _ _ _), (_, aI _ _ _)]) 64 C 0 2 2 tyX2 tyX2_ok nmX2 iX2_removeAt_X2 lX2_removeAt_18 dX2_removeAt_61 rfl rfl rfl (by decide) rfl rfl rfl (Nat.le_of_ble_eq_true rfl) rfl ?_
    exact g_vret C hr dX2_removeAt_64 ⟨rfl, by rw [show k = n by omega]⟩
  · intro h17
    refine g_aload_n 21 C 2 dX2_removeAt_20 rfl rfl ?_
    refine g_get 24 C 0 0 2 iX2_removeAt_X2 lX2_removeAt_9 dX2_removeAt_21 rfl rfl rfl (by decide) rfl ?_
    refine g_iload_n 25 C 0 dX2_removeAt_24 rfl rfl ?_
    refine g_iconst 26 C dX2_removeAt_25 rfl ?_
    refine g_isub 27 C dX2_removeAt_26 rfl ?_
    refine g_aload_n 28 C 2 dX2_removeAt_27 rfl rfl ?_
    refine g_get 31 C 0 0 2 iX2_removeAt_X2 lX2_removeAt_9 dX2_removeAt_28 rfl rfl rfl (by decide) rfl ?_
    refine g_iload_n 32 C 0 dX2_removeAt_31 rfl rfl ?_
    refine g_iaload 33 C 1 dX2_removeAt_32 rfl rfl (by omega) ?_
    refine g_iastore (ws' := [(_, .inr (2, [_, _, _])), (_, aI _ _ _), (_, aI _ _ _)]) 34 C 1 dX2_removeAt_33 rfl rfl (by omega) rfl ?_
    refine g_aload_n 35 C 2 dX2_removeAt_34 rfl rfl ?_
    refine g_get 38 C 0 1 2 iX2_removeAt_X2 lX2_removeAt_15 dX2_removeAt_35 rfl rfl rfl (by decide) rfl ?_
    refine g_iload_n 39 C 0 dX2_removeAt_38 rfl rfl ?_
    refine g_iconst 40 C dX2_removeAt_39 rfl ?_
    refine g_isub 41 C dX2_removeAt_40 rfl ?_
    refine g_aload_n 42 C 2 dX2_removeAt_41 rfl rfl ?_
    refine g_get 45 C 0 1 2 iX2_removeAt_X2 lX2_removeAt_15 dX2_removeAt_42 rfl rfl rfl (by decide) rfl ?_
    refine g_iload_n 46 C 0 dX2_removeAt_45 rfl rfl ?_
    refine g_iaload 47 C 2 dX2_removeAt_46 rfl rfl (by omega) ?_
    refine g_iastore (ws' := [(_, .inr (2, [_, _, _])), (_, aI _ _ _), (_, aI _ _ _)]) 48 C 2 dX2_removeAt_47 rfl rfl (by omega) rfl ?_
    refine g_iinc (lv' := [(2, _), (1, _), (0, _)]) 51 C 0 dX2_removeAt_48 rfl rfl (by decide) rfl ?_
    refine g_goto 12 C dX2_removeAt_51 (by decide) ?_
    exact g_w [0, 1, 2] (by (try dsimp only); rw [rmI_s pc hk0, rmI_s tn hk0]) rfl (ih12 ((k + 1)) (by (try dsimp only); omega) (by (try dsimp only); omega))
theorem lX2_timesOf_18 : Cond.fieldLink RX2 18 (TX2 2).1 (TX2 2).2.1 (TX2 2).2.2.1 ∈ wsX2_timesOf := by decide +kernel
theorem lX2_timesOf_9 : Cond.fieldLink RX2 9 (TX2 0).1 (TX2 0).2.1 (TX2 0).2.2.1 ∈ wsX2_timesOf := by decide +kernel
theorem iX2_timesOf_X2 : ∀ w ∈ u_ws RX2 TX2 3, w ∈ wsX2_timesOf := by decide +kernel
set_option maxHeartbeats 4000000 in
set_option maxRecDepth 100000 in
theorem k_X2_timesOf (E : gE) (l : Launch) {a_L a_pc a_tn : Nat} {n p : Int} {pc : Int → Int} (hn : 0 ≤ n ∧ n ≤ 25) (hpn : ∀ j : Int, 0 ≤ j ∧ j < n → 0 ≤ pc j ∧ pc j < 25) (hp : -2147483648 ≤ p ∧ p < 2147483648) : gFun E l yX2_timesOf wsX2_timesOf { frames := 0, cells := 0, slots := 0, locals := 0 } [.ref a_L, .int (iI p)] [(a_L, .inr (2, [.ref a_pc, .ref a_tn, .int (iI n)])), (a_pc, aI E 25 pc)] (.int (iI (cnI (fun j => pc j = p) n))) := by
  refine g_start (cc := cX2_timesOf) (maxL := 4) (ret := (some .int)) (by decide) rfl (Nat.le_of_ble_eq_true rfl) ?_
  intro p_ e_ s_ m_ args_ below_ meth_ c_ A_ C hr hnm
  refine g_iconst 1 C dX2_timesOf_0 rfl ?_
  refine g_istore_n (lv' := [(2, _), (0, _), (1, _)]) 2 C dX2_timesOf_1 rfl rfl (by decide) rfl ?_
  refine g_iconst 3 C dX2_timesOf_2 rfl ?_
  refine g_istore_n (lv' := [(3, _), (2, _), (0, _), (1, _)]) 4 C dX2_timesOf_3 rfl rfl (by decide) rfl ?_
  refine g_loop (α := Int × Int) (fun zz => [(a_L, .inr (2, [.ref a_pc, .ref a_tn, .int (iI n)])), (a_pc, aI E 25 pc)]) (fun zz => [(2, .int (iI zz.1)), (3, .int (iI zz.2)), (1, .int (iI p)), (0, .ref a_L)]) (fun zz => (0 ≤ zz.2 ∧ zz.2 ≤ n) ∧ zz.1 = cnI (fun j => pc j = p) zz.2) (fun zz => (n - zz.2).toNat) (0, 0) (by
            try dsimp only
            exact ⟨by omega, rfl⟩) [1, 0, 3, 2] rfl rfl ?_
  rintro ⟨c, k⟩ hI ih4
  try dsimp only at hI ih4 ⊢
  obtain ⟨hk, rfl⟩ := hI
  refine g_iload_n 5 C 1 dX2_timesOf_4 rfl rfl ?_
  refine g_aload_n 6 C 3 dX2_timesOf_5 rfl rfl ?_
  refine g_get 9 C 0 2 2 iX2_timesOf_X2 lX2_timesOf_18 dX2_timesOf_6 rfl rfl rfl (by decide) rfl ?_
  refine g_icmp_ge 31 12 C dX2_timesOf_9 (by decide) rfl (by omega) ?_ ?_
  · intro h9
    refine g_iload_n 32 C 0 dX2_timesOf_31 rfl rfl ?_
    exact g_iret C hr dX2_timesOf_32 ⟨g_ri (by rw [show k = n by omega]), rfl⟩
  · intro h9
    refine g_aload_n 13 C 3 dX2_timesOf_12 rfl rfl ?_
    refine g_get 16 C 0 0 2 iX2_timesOf_X2 lX2_timesOf_9 dX2_timesOf_13 rfl rfl rfl (by decide) rfl ?_
    refine g_iload_n 17 C 1 dX2_timesOf_16 rfl rfl ?_
    refine g_iaload 18 C 1 dX2_timesOf_17 rfl rfl (by omega) ?_
    have e0 := hpn k (by omega)
    refine g_iload_n 19 C 2 dX2_timesOf_18 rfl rfl ?_
    refine g_icmp_ne 25 22 C dX2_timesOf_19 (by decide) rfl (by omega) ?_ ?_
    · intro h19
      refine g_iinc (lv' := [(3, _), (2, _), (1, _), (0, _)]) 28 C 1 dX2_timesOf_25 rfl rfl (by decide) rfl ?_
      refine g_goto 4 C dX2_timesOf_28 (by decide) ?_
      first
      | exact g_w [1, 0, 2, 3] rfl rfl (ih4 ((cnI (fun j => pc j = p) k + 1), (k + 1)) (by
            try dsimp only
            exact ⟨by omega, by first | exact (cnI_st (fun j => pc j = p) hk.1 (by assumption)).symm | exact (cnI_sf (fun j => pc j = p) hk.1 (by assumption)).symm⟩) (by (try dsimp only); omega))
      | exact g_w [1, 0, 2, 3] rfl rfl (ih4 ((cnI (fun j => pc j = p) k), (k + 1)) (by
            try dsimp only
            exact ⟨by omega, by first | exact (cnI_st (fun j => pc j = p) hk.1 (by assumption)).symm | exact (cnI_sf (fun j => pc j = p) hk.1 (by assumption)).symm⟩) (by (try dsimp only); omega))
    · intro h19
      refine g_iinc (lv' := [(2, _), (3, _), (1, _), (0, _)]) 25 C 0 dX2_timesOf_22 rfl rfl (by decide) rfl ?_
      refine g_iinc (lv' := [(3, _), (2, _), (1, _), (0, _)]) 28 C 1 dX2_timesOf_25 rfl rfl (by decide) rfl ?_
      refine g_goto 4 C dX2_timesOf_28 (by decide) ?_
      first
      | exact g_w [1, 0, 2, 3] rfl rfl (ih4 ((cnI (fun j => pc j = p) k + 1), (k + 1)) (by
            try dsimp only
            exact ⟨by omega, by first | exact (cnI_st (fun j => pc j = p) hk.1 (by assumption)).symm | exact (cnI_sf (fun j => pc j = p) hk.1 (by assumption)).symm⟩) (by (try dsimp only); omega))
      | exact g_w [1, 0, 2, 3] rfl rfl (ih4 ((cnI (fun j => pc j = p) k), (k + 1)) (by
            try dsimp only
            exact ⟨by omega, by first | exact (cnI_st (fun j => pc j = p) hk.1 (by assumption)).symm | exact (cnI_sf (fun j => pc j = p) hk.1 (by assumption)).symm⟩) (by (try dsimp only); omega))
