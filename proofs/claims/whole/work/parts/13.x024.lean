theorem lX0_begin_7 : Cond.fieldLink RX0 7 (TX0 0).1 (TX0 0).2.1 (TX0 0).2.2.1 ∈ wsX0_begin := by decide +kernel
theorem iX0_begin_X0 : ∀ w ∈ u_ws RX0 TX0 1, w ∈ wsX0_begin := by decide +kernel
set_option maxHeartbeats 4000000 in
set_option maxRecDepth 100000 in
theorem k_X0_begin (E : gE) (l : Launch) {a_D : Nat} {now sd : Int64}  : gUpd E l yX0_begin wsX0_begin { frames := 0, cells := 0, slots := 0, locals := 0 } [.ref a_D, .long sd] [(a_D, .inr (0, [.long now]))] none [(a_D, .inr (0, [.long sd]))] := by
  refine g_start (cc := cX0_begin) (maxL := 3) (ret := none) (by decide) rfl (Nat.le_of_ble_eq_true rfl) ?_
  intro p_ e_ s_ m_ args_ below_ meth_ c_ A_ C hr hnm
  refine g_aload_n 1 C 0 dX0_begin_0 rfl rfl ?_
  refine g_lload_n 2 C 1 dX0_begin_1 rfl rfl ?_
  refine g_put (ws' := [(_, .inr (0, [_]))]) 5 C 0 0 0 tyX0 tyX0_ok nmX0 iX0_begin_X0 lX0_begin_7 dX0_begin_2 rfl rfl rfl (by decide) rfl rfl rfl (Nat.le_of_ble_eq_true rfl) rfl ?_
  exact g_vret C hr dX0_begin_5 ⟨rfl, rfl⟩
theorem lX0_below_7 : Cond.fieldLink RX0 7 (TX0 0).1 (TX0 0).2.1 (TX0 0).2.2.1 ∈ wsX0_below := by decide +kernel
theorem lX0_below_13 : Cond.constantLong RX0 13 (6364136223846793005) ∈ wsX0_below := by decide +kernel
theorem lX0_below_15 : Cond.constantLong RX0 15 (1442695040888963407) ∈ wsX0_below := by decide +kernel
theorem lX0_below_17 : Cond.constantLong RX0 17 (2147483647) ∈ wsX0_below := by decide +kernel
theorem lX0_below_19 : Cond.constantLong RX0 19 (4096) ∈ wsX0_below := by decide +kernel
theorem iX0_below_X0 : ∀ w ∈ u_ws RX0 TX0 1, w ∈ wsX0_below := by decide +kernel
set_option maxHeartbeats 4000000 in
set_option maxRecDepth 100000 in
theorem k_X0_below (E : gE) (l : Launch) {a_D : Nat} {now : Int64} {n : Int} (hn : 1 ≤ n ∧ n < 2147483648) : gUpd E l yX0_below wsX0_below { frames := 0, cells := 0, slots := 0, locals := 0 } [.ref a_D, .int (iI n)] [(a_D, .inr (0, [.long now]))] (some (.int (iI (dvI (dnI now) n)))) [(a_D, .inr (0, [.long (dnI now)]))] := by
  refine g_start (cc := cX0_below) (maxL := 2) (ret := (some .int)) (by decide) rfl (Nat.le_of_ble_eq_true rfl) ?_
  intro p_ e_ s_ m_ args_ below_ meth_ c_ A_ C hr hnm
  refine g_aload_n 1 C 0 dX0_below_0 rfl rfl ?_
  refine g_aload_n 2 C 0 dX0_below_1 rfl rfl ?_
  refine g_get 5 C 0 0 0 iX0_below_X0 lX0_below_7 dX0_below_2 rfl rfl rfl (by decide) rfl ?_
  refine g_ldc2 8 C (6364136223846793005) dX0_below_5 rfl lX0_below_13 (by decide) ?_
  refine g_lmul_r 9 C dX0_below_8 rfl ?_
  refine g_ldc2 12 C (1442695040888963407) dX0_below_9 rfl lX0_below_15 (by decide) ?_
  refine g_ladd_r 13 C dX0_below_12 rfl ?_
  refine g_put (ws' := [(_, .inr (0, [_]))]) 16 C 0 0 0 tyX0 tyX0_ok nmX0 iX0_below_X0 lX0_below_7 dX0_below_13 rfl rfl rfl (by decide) rfl rfl rfl (Nat.le_of_ble_eq_true rfl) rfl ?_
  refine g_iload_n 17 C 1 dX0_below_16 rfl rfl ?_
  refine g_iconst 18 C dX0_below_17 rfl ?_
  refine g_icmp_ge 25 21 C dX0_below_18 (by decide) rfl (by omega) ?_ (fun h18 => absurd h18 (by omega))
  intro h18
  refine g_aload_n 26 C 0 dX0_below_25 rfl rfl ?_
  refine g_get 29 C 0 0 0 iX0_below_X0 lX0_below_7 dX0_below_26 rfl rfl rfl (by decide) rfl ?_
  refine g_ldc2 32 C (2147483647) dX0_below_29 rfl lX0_below_17 (by decide) ?_
  refine g_land_r 33 C dX0_below_32 rfl ?_
  refine g_ldc2 36 C (4096) dX0_below_33 rfl lX0_below_19 (by decide) ?_
  refine g_ldiv_r 37 C dX0_below_36 rfl (by decide) ?_
  refine g_iload_n 38 C 1 dX0_below_37 rfl rfl ?_
  refine g_i2l 39 C dX0_below_38 rfl (by omega) ?_
  refine g_lrem_r 40 C dX0_below_39 rfl (fun q => by have := (lI_inj (a := n) (b := 0) (by omega) (by omega) (by omega) (by omega)).mp q; omega) ?_
  refine g_l2i_r 41 C dX0_below_40 rfl ?_
  exact g_iret C hr dX0_below_41 ⟨congrArg some (congrArg Value.int (iI_of _).symm), rfl⟩
theorem lX2_size_18 : Cond.fieldLink RX2 18 (TX2 2).1 (TX2 2).2.1 (TX2 2).2.2.1 ∈ wsX2_size := by decide +kernel
theorem iX2_size_X2 : ∀ w ∈ u_ws RX2 TX2 3, w ∈ wsX2_size := by decide +kernel
set_option maxHeartbeats 4000000 in
set_option maxRecDepth 100000 in
theorem k_X2_size (E : gE) (l : Launch) {a_L a_pc a_tn : Nat} {n : Int}  : gFun E l yX2_size wsX2_size { frames := 0, cells := 0, slots := 0, locals := 0 } [.ref a_L] [(a_L, .inr (2, [.ref a_pc, .ref a_tn, .int (iI n)]))] (.int (iI n)) := by
  refine g_start (cc := cX2_size) (maxL := 1) (ret := (some .int)) (by decide) rfl (Nat.le_of_ble_eq_true rfl) ?_
  intro p_ e_ s_ m_ args_ below_ meth_ c_ A_ C hr hnm
  refine g_aload_n 1 C 0 dX2_size_0 rfl rfl ?_
  refine g_get 4 C 0 2 2 iX2_size_X2 lX2_size_18 dX2_size_1 rfl rfl rfl (by decide) rfl ?_
  exact g_iret C hr dX2_size_4 ⟨g_ri (by first | rfl | omega | exact (if_pos (by omega)).symm | exact (if_neg (by omega)).symm), rfl⟩
theorem lX2_isFull_18 : Cond.fieldLink RX2 18 (TX2 2).1 (TX2 2).2.1 (TX2 2).2.2.1 ∈ wsX2_isFull := by decide +kernel
theorem iX2_isFull_X2 : ∀ w ∈ u_ws RX2 TX2 3, w ∈ wsX2_isFull := by decide +kernel
set_option maxHeartbeats 4000000 in
set_option maxRecDepth 100000 in
theorem k_X2_isFull (E : gE) (l : Launch) {a_L a_pc a_tn : Nat} {n : Int} (hn : 0 ≤ n ∧ n ≤ 25) : gFun E l yX2_isFull wsX2_isFull { frames := 0, cells := 0, slots := 0, locals := 0 } [.ref a_L] [(a_L, .inr (2, [.ref a_pc, .ref a_tn, .int (iI n)]))] (.int (iI (if 25 ≤ n then 1 else 0))) := by
  refine g_start (cc := cX2_isFull) (maxL := 1) (ret := (some .boolean)) (by decide) rfl (Nat.le_of_ble_eq_true rfl) ?_
  intro p_ e_ s_ m_ args_ below_ meth_ c_ A_ C hr hnm
  refine g_aload_n 1 C 0 dX2_isFull_0 rfl rfl ?_
  refine g_get 4 C 0 2 2 iX2_isFull_X2 lX2_isFull_18 dX2_isFull_1 rfl rfl rfl (by decide) rfl ?_
  refine g_bipush 6 C dX2_isFull_4 rfl (by decide) ?_
  refine g_icmp_lt 13 9 C dX2_isFull_6 (by decide) rfl (by omega) ?_ ?_
  · intro h6
    refine g_iconst 14 C dX2_isFull_13 rfl ?_
    exact g_zret C hr dX2_isFull_14 (by first | rfl | decide | (split <;> rfl)) ⟨g_ri (by first | rfl | omega | exact (if_pos (by omega)).symm | exact (if_neg (by omega)).symm), rfl⟩
  · intro h6
    refine g_iconst 10 C dX2_isFull_9 rfl ?_
    refine g_goto 14 C dX2_isFull_10 (by decide) ?_
    exact g_zret C hr dX2_isFull_14 (by first | rfl | decide | (split <;> rfl)) ⟨g_ri (by first | rfl | omega | exact (if_pos (by omega)).symm | exact (if_neg (by omega)).symm), rfl⟩
theorem lX2_hasPlace_18 : Cond.fieldLink RX2 18 (TX2 2).1 (TX2 2).2.1 (TX2 2).2.2.1 ∈ wsX2_hasPlace := by decide +kernel
theorem iX2_hasPlace_X2 : ∀ w ∈ u_ws RX2 TX2 3, w ∈ wsX2_hasPlace := by decide +kernel
set_option maxHeartbeats 4000000 in
set_option maxRecDepth 100000 in
theorem k_X2_hasPlace (E : gE) (l : Launch) {a_L a_pc a_tn : Nat} {n i : Int} (hn : 0 ≤ n ∧ n ≤ 25) (hi : -2147483648 ≤ i ∧ i < 2147483648) : gFun E l yX2_hasPlace wsX2_hasPlace { frames := 0, cells := 0, slots := 0, locals := 0 } [.ref a_L, .int (iI i)] [(a_L, .inr (2, [.ref a_pc, .ref a_tn, .int (iI n)]))] (.int (iI (if 0 ≤ i ∧ i < n then 1 else 0))) := by
  refine g_start (cc := cX2_hasPlace) (maxL := 2) (ret := (some .boolean)) (by decide) rfl (Nat.le_of_ble_eq_true rfl) ?_
  intro p_ e_ s_ m_ args_ below_ meth_ c_ A_ C hr hnm
  refine g_iload_n 1 C 1 dX2_hasPlace_0 rfl rfl ?_
  refine g_if_lt 16 4 C dX2_hasPlace_1 (by decide) rfl (by omega) ?_ ?_
  · intro h1
    refine g_iconst 17 C dX2_hasPlace_16 rfl ?_
    exact g_zret C hr dX2_hasPlace_17 (by first | rfl | decide | (split <;> rfl)) ⟨g_ri (by first | rfl | omega | exact (if_pos (by omega)).symm | exact (if_neg (by omega)).symm), rfl⟩
  · intro h1
    refine g_iload_n 5 C 1 dX2_hasPlace_4 rfl rfl ?_
    refine g_aload_n 6 C 0 dX2_hasPlace_5 rfl rfl ?_
    refine g_get 9 C 0 2 2 iX2_hasPlace_X2 lX2_hasPlace_18 dX2_hasPlace_6 rfl rfl rfl (by decide) rfl ?_
    refine g_icmp_ge 16 12 C dX2_hasPlace_9 (by decide) rfl (by omega) ?_ ?_
    · intro h9
      refine g_iconst 17 C dX2_hasPlace_16 rfl ?_
      exact g_zret C hr dX2_hasPlace_17 (by first | rfl | decide | (split <;> rfl)) ⟨g_ri (by first | rfl | omega | exact (if_pos (by omega)).symm | exact (if_neg (by omega)).symm), rfl⟩
    · intro h9
      refine g_iconst 13 C dX2_hasPlace_12 rfl ?_
      refine g_goto 17 C dX2_hasPlace_13 (by decide) ?_
      exact g_zret C hr dX2_hasPlace_17 (by first | rfl | decide | (split <;> rfl)) ⟨g_ri (by first | rfl | omega | exact (if_pos (by omega)).symm | exact (if_neg (by omega)).symm), rfl⟩
theorem cdX2_hasPlace : yX2_hasPlace.cls = RX2 ∧ yX2_hasPlace.cls ≠ "java/lang/invoke/MethodHandle" ∧ yX2_hasPlace.cls ≠ "java/lang/invoke/VarHandle" ∧ (parseMethodDescriptor yX2_hasPlace.desc).map (fun d => d.parameters.length) = some 1 := by decide +kernel
theorem lX2_pieceAt_9 : Cond.fieldLink RX2 9 (TX2 0).1 (TX2 0).2.1 (TX2 0).2.2.1 ∈ wsX2_pieceAt := by decide +kernel
theorem iX2_pieceAt_X2 : ∀ w ∈ u_ws RX2 TX2 3, w ∈ wsX2_pieceAt := by decide +kernel
set_option maxHeartbeats 4000000 in
set_option maxRecDepth 100000 in
theorem k_X2_pieceAt (E : gE) (l : Launch) {a_L a_pc a_tn : Nat} {n i : Int} {pc : Int → Int} (hn : 0 ≤ n ∧ n ≤ 25) (hi : 0 ≤ i ∧ i < n) : gFun E l yX2_pieceAt wsX2_pieceAt { frames := 1, cells := 0, slots := 0, locals := 21 } [.ref a_L, .int (iI i)] [(a_L, .inr (2, [.ref a_pc, .ref a_tn, .int (iI n)])), (a_pc, aI E 25 pc)] (.int (iI (pc i))) := by
  refine g_start (cc := cX2_pieceAt) (maxL := 2) (ret := (some .int)) (by decide) rfl (Nat.le_of_ble_eq_true rfl) ?_
  intro p_ e_ s_ m_ args_ below_ meth_ c_ A_ C hr hnm
  refine g_aload_n 1 C 0 dX2_pieceAt_0 rfl rfl ?_
  refine g_iload_n 2 C 1 dX2_pieceAt_1 rfl rfl ?_
  refine g_callVF 5 C [0] dX2_pieceAt_2 rfl (k_X2_hasPlace E l  (by first | assumption | omega) (by first | assumption | omega)) (cwV 1 C.2.2.2.2.1 gX2_pieceAt_X2_hasPlace rfl rfl rfl cdX2_hasPlace ⟨Nat.le_of_ble_eq_true rfl, Nat.le_of_ble_eq_true rfl⟩) rfl rfl rfl rfl (Nat.le_of_ble_eq_true rfl) 0 2 rfl rfl rfl ⟨Nat.le_of_ble_eq_true rfl, Nat.le_of_ble_eq_true rfl⟩ ?_
  refine g_ifb_eq 17 8 C dX2_pieceAt_5 (by decide) rfl (fun h5 => absurd h5 (by omega)) ?_
  intro h5
  refine g_aload_n 9 C 0 dX2_pieceAt_8 rfl rfl ?_
  refine g_get 12 C 0 0 2 iX2_pieceAt_X2 lX2_pieceAt_9 dX2_pieceAt_9 rfl rfl rfl (by decide) rfl ?_
  refine g_iload_n 13 C 1 dX2_pieceAt_12 rfl rfl ?_
  refine g_iaload 14 C 1 dX2_pieceAt_13 rfl rfl (by omega) ?_
  refine g_goto 19 C dX2_pieceAt_14 (by decide) ?_
  exact g_iret C hr dX2_pieceAt_19 ⟨g_ri (by first | rfl | omega | exact (if_pos (by omega)).symm | exact (if_neg (by omega)).symm), rfl⟩
theorem lX2_turnAt_15 : Cond.fieldLink RX2 15 (TX2 1).1 (TX2 1).2.1 (TX2 1).2.2.1 ∈ wsX2_turnAt := by decide +kernel
theorem iX2_turnAt_X2 : ∀ w ∈ u_ws RX2 TX2 3, w ∈ wsX2_turnAt := by decide +kernel
set_option maxHeartbeats 4000000 in
set_option maxRecDepth 100000 in
theorem k_X2_turnAt (E : gE) (l : Launch) {a_L a_pc a_tn : Nat} {n i : Int} {tn : Int → Int} (hn : 0 ≤ n ∧ n ≤ 25) (hi : 0 ≤ i ∧ i < n) : gFun E l yX2_turnAt wsX2_turnAt { frames := 1, cells := 0, slots := 0, locals := 21 } [.ref a_L, .int (iI i)] [(a_L, .inr (2, [.ref a_pc, .ref a_tn, .int (iI n)])), (a_tn, aI E 25 tn)] (.int (iI (tn i))) := by
  refine g_start (cc := cX2_turnAt) (maxL := 2) (ret := (some .int)) (by decide) rfl (Nat.le_of_ble_eq_true rfl) ?_
  intro p_ e_ s_ m_ args_ below_ meth_ c_ A_ C hr hnm
  refine g_aload_n 1 C 0 dX2_turnAt_0 rfl rfl ?_
  refine g_iload_n 2 C 1 dX2_turnAt_1 rfl rfl ?_
  refine g_callVF 5 C [0] dX2_turnAt_2 rfl (k_X2_hasPlace E l  (by first | assumption | omega) (by first | assumption | omega)) (cwV 1 C.2.2.2.2.1 gX2_turnAt_X2_hasPlace rfl rfl rfl cdX2_hasPlace ⟨Nat.le_of_ble_eq_true rfl, Nat.le_of_ble_eq_true rfl⟩) rfl rfl rfl rfl (Nat.le_of_ble_eq_true rfl) 0 2 rfl rfl rfl ⟨Nat.le_of_ble_eq_true rfl, Nat.le_of_ble_eq_true rfl⟩ ?_
  refine g_ifb_eq 17 8 C dX2_turnAt_5 (by decide) rfl (fun h5 => absurd h5 (by omega)) ?_
  intro h5
  refine g_aload_n 9 C 0 dX2_turnAt_8 rfl rfl ?_
  refine g_get 12 C 0 1 2 iX2_turnAt_X2 lX2_turnAt_15 dX2_turnAt_9 rfl rfl rfl (by decide) rfl ?_
  refine g_iload_n 13 C 1 dX2_turnAt_12 rfl rfl ?_
  refine g_iaload 14 C 1 dX2_turnAt_13 rfl rfl (by omega) ?_
  refine g_goto 18 C dX2_turnAt_14 (by decide) ?_
  exact g_iret C hr dX2_turnAt_18 ⟨g_ri (by first | rfl | omega | exact (if_pos (by omega)).symm | exact (if_neg (by omega)).symm), rfl⟩
theorem lX2_clearAll_18 : Cond.fieldLink RX2 18 (TX2 2).1 (TX2 2).2.1 (TX2 2).2.2.1 ∈ wsX2_clearAll := by decide +kernel
theorem iX2_clearAll_X2 : ∀ w ∈ u_ws RX2 TX2 3, w ∈ wsX2_clearAll := by decide +kernel
set_option maxHeartbeats 4000000 in
set_option maxRecDepth 100000 in
theorem k_X2_clearAll (E : gE) (l : Launch) {a_L a_pc a_tn : Nat} {n : Int}  : gUpd E l yX2_clearAll wsX2_clearAll { frames := 0, cells := 0, slots := 0, locals := 0 } [.ref a_L] [(a_L, .inr (2, [.ref a_pc, .ref a_tn, .int (iI n)]))] none [(a_L, .inr (2, [.ref a_pc, .ref a_tn, .int (iI 0)]))] := by
  refine g_start (cc := cX2_clearAll) (maxL := 1) (ret := none) (by decide) rfl (Nat.le_of_ble_eq_true rfl) ?_
  intro p_ e_ s_ m_ args_ below_ meth_ c_ A_ C hr hnm
  refine g_aload_n 1 C 0 dX2_clearAll_0 rfl rfl ?_
  refine g_iconst 2 C dX2_clearAll_1 rfl ?_
  refine g_put (ws' := [(_, .inr (2, [_, _, _]))]) 5 C 0 2 2 tyX2 tyX2_ok nmX2 iX2_clearAll_X2 lX2_clearAll_18 dX2_clearAll_2 rfl rfl rfl (by decide) rfl rfl rfl (Nat.le_of_ble_eq_true rfl) rfl ?_
  exact g_vret C hr dX2_clearAll_5 ⟨rfl, rfl⟩
theorem cdX2_isFull : yX2_isFull.cls = RX2 ∧ yX2_isFull.cls ≠ "java/lang/invoke/MethodHandle" ∧ yX2_isFull.cls ≠ "java/lang/invoke/VarHandle" ∧ (parseMethodDescriptor yX2_isFull.desc).map (fun d => d.parameters.length) = some 0 := by decide +kernel
theorem lX2_append_15 : Cond.fieldLink RX2 15 (TX2 1).1 (TX2 1).2.1 (TX2 1).2.2.1 ∈ wsX2_append := by decide +kernel
theorem lX2_append_18 : Cond.fieldLink RX2 18 (TX2 2).1 (TX2 2).2.1 (TX2 2).2.2.1 ∈ wsX2_append := by decide +kernel
theorem lX2_append_9 : Cond.fieldLink RX2 9 (TX2 0).1 (TX2 0).2.1 (TX2 0).2.2.1 ∈ wsX2_append := by decide +kernel
theorem iX2_append_X2 : ∀ w ∈ u_ws RX2 TX2 3, w ∈ wsX2_append := by decide +kernel
set_option maxHeartbeats 4000000 in
set_option maxRecDepth 100000 in
theorem k_X2_append (E : gE) (l : Launch) {a_L a_pc a_tn : Nat} {n p t : Int} {pc tn : Int → Int} (hn : 0 ≤ n ∧ n < 25) : gUpd E l yX2_append wsX2_append { frames := 1, cells := 0, slots := 0, locals := 20 } [.ref a_L, .int (iI p), .int (iI t)] [(a_L, .inr (2, [.ref a_pc, .ref a_tn, .int (iI n)])), (a_pc, aI E 25 pc), (a_tn, aI E 25 tn)] none [(a_L, .inr (2, [.ref a_pc, .ref a_tn, .int (iI (n + 1))])), (a_pc, aI E 25 (uI pc n p)), (a_tn, aI E 25 (uI tn n t))] := by
  refine g_start (cc := cX2_append) (maxL := 3) (ret := none) (by decide) rfl (Nat.le_of_ble_eq_true rfl) ?_
  intro p_ e_ s_ m_ args_ below_ meth_ c_ A_ C hr hnm
  refine g_aload_n 1 C 0 dX2_append_0 rfl rfl ?_
  refine g_callVF 4 C [0] dX2_append_1 rfl (k_X2_isFull E l  (by first | assumption | omega)) (cwV 0 C.2.2.2.2.1 gX2_append_X2_isFull rfl rfl rfl cdX2_isFull ⟨Nat.le_of_ble_eq_true rfl, Nat.le_of_ble_eq_true rfl⟩) rfl rfl rfl rfl (Nat.le_of_ble_eq_true rfl) 0 2 rfl rfl rfl ⟨Nat.le_of_ble_eq_true rfl, Nat.le_of_ble_eq_true rfl⟩ ?_
  refine g_ifb_ne 37 7 C dX2_append_4 (by decide) rfl (fun h4 => absurd h4 (by omega)) ?_
  intro h4
  refine g_aload_n 8 C 0 dX2_append_7 rfl rfl ?_
  refine g_get 11 C 0 0 2 iX2_append_X2 lX2_append_9 dX2_append_8 rfl rfl rfl (by decide) rfl ?_
  refine g_aload_n 12 C 0 dX2_append_11 rfl rfl ?_
  refine g_get 15 C 0 2 2 iX2_append_X2 lX2_append_18 dX2_append_12 rfl rfl rfl (by decide) rfl ?_
  refine g_iload_n 16 C 1 dX2_append_15 rfl rfl ?_
  refine g_iastore (ws' := [(_, .inr (2, [_, _, _])), (_, aI _ _ _), (_, aI _ _ _)]) 17 C 1 dX2_append_16 rfl rfl (by omega) rfl ?_
  refine g_aload_n 18 C 0 dX2_append_17 rfl rfl ?_
  refine g_get 21 C 0 1 2 iX2_append_X2 lX2_append_15 dX2_append_18 rfl rfl rfl (by decide) rfl ?_
  refine g_aload_n 22 C 0 dX2_append_21 rfl rfl ?_
  refine g_get 25 C 0 2 2 iX2_append_X2 lX2_append_18 dX2_append_22 rfl rfl rfl (by decide) rfl ?_
  refine g_iload_n 26 C 2 dX2_append_25 rfl rfl ?_
  refine g_iastore (ws' := [(_, .inr (2, [_, _, _])), (_, aI _ _ _), (_, aI _ _ _)]) 27 C 2 dX2_append_26 rfl rfl (by omega) rfl ?_
  refine g_aload_n 28 C 0 dX2_append_27 rfl rfl ?_
  refine g_dup 29 C dX2_append_28 rfl rfl ?_
  refine g_get 32 C 0 2 2 iX2_append_X2 lX2_append_18 dX2_append_29 rfl rfl rfl (by decide) rfl ?_
  refine g_iconst 33 C dX2_append_32 rfl ?_
  refine g_iadd 34 C dX2_append_33 rfl ?_
  refine g_put (ws' := [(_, .inr (2, [_, _, _])), (_, aI _ _ _), (_, aI _ _ _)]) 37 C 0 2 2 tyX2 tyX2_ok nmX2 iX2_append_X2 lX2_append_18 dX2_append_34 rfl rfl rfl (by decide) rfl rfl rfl (Nat.le_of_ble_eq_true rfl) rfl ?_
  exact g_vret C hr dX2_append_37 ⟨rfl, rfl⟩
theorem lX2_setTurn_15 : Cond.fieldLink RX2 15 (TX2 1).1 (TX2 1).2.1 (TX2 1).2.2.1 ∈ wsX2_setTurn := by decide +kernel
theorem iX2_setTurn_X2 : ∀ w ∈ u_ws RX2 TX2 3, w ∈ wsX2_setTurn := by decide +kernel
set_option maxHeartbeats 4000000 in
set_option maxRecDepth 100000 in
theorem k_X2_setTurn (E : gE) (l : Launch) {a_L a_pc a_tn : Nat} {n i t : Int} {tn : Int → Int} (hn : 0 ≤ n ∧ n ≤ 25) (hi : 0 ≤ i ∧ i < n) : gUpd E l yX2_setTurn wsX2_setTurn { frames := 1, cells := 0, slots := 0, locals := 21 } [.ref a_L, .int (iI i), .int (iI t)] [(a_L, .inr (2, [.ref a_pc, .ref a_tn, .int (iI n)])), (a_tn, aI E 25 tn)] none [(a_L, .inr (2, [.ref a_pc, .ref a_tn, .int (iI n)])), (a_tn, aI E 25 (uI tn i t))] := by
  refine g_start (cc := cX2_setTurn) (maxL := 3) (ret := none) (by decide) rfl (Nat.le_of_ble_eq_true rfl) ?_
  intro p_ e_ s_ m_ args_ below_ meth_ c_ A_ C hr hnm
  refine g_aload_n 1 C 0 dX2_setTurn_0 rfl rfl ?_
  refine g_iload_n 2 C 1 dX2_setTurn_1 rfl rfl ?_
  refine g_callVF 5 C [0] dX2_setTurn_2 rfl (k_X2_hasPlace E l  (by first | assumption | omega) (by first | assumption | omega)) (cwV 1 C.2.2.2.2.1 gX2_setTurn_X2_hasPlace rfl rfl rfl cdX2_hasPlace ⟨Nat.le_of_ble_eq_true rfl, Nat.le_of_ble_eq_true rfl⟩) rfl rfl rfl rfl (Nat.le_of_ble_eq_true rfl) 0 2 rfl rfl rfl ⟨Nat.le_of_ble_eq_true rfl, Nat.le_of_ble_eq_true rfl⟩ ?_
  refine g_ifb_eq 15 8 C dX2_setTurn_5 (by decide) rfl (fun h5 => absurd h5 (by omega)) ?_
  intro h5
  refine g_aload_n 9 C 0 dX2_setTurn_8 rfl rfl ?_
  refine g_get 12 C 0 1 2 iX2_setTurn_X2 lX2_setTurn_15 dX2_setTurn_9 rfl rfl rfl (by decide) rfl ?_
  refine g_iload_n 13 C 1 dX2_setTurn_12 rfl rfl ?_
  refine g_iload_n 14 C 2 dX2_setTurn_13 rfl rfl ?_
  refine g_iastore (ws' := [(_, .inr (2, [_, _, _])), (_, aI _ _ _)]) 15 C 1 dX2_setTurn_14 rfl rfl (by omega) rfl ?_
  exact g_vret C hr dX2_setTurn_15 ⟨rfl, rfl⟩
theorem lX2_swapPieces_9 : Cond.fieldLink RX2 9 (TX2 0).1 (TX2 0).2.1 (TX2 0).2.2.1 ∈ wsX2_swapPieces := by decide +kernel
theorem iX2_swapPieces_X2 : ∀ w ∈ u_ws RX2 TX2 3, w ∈ wsX2_swapPieces := by decide +kernel
set_option maxHeartbeats 4000000 in
set_option maxRecDepth 100000 in
theorem k_X2_swapPieces (E : gE) (l : Launch) {a_L a_pc a_tn : Nat} {n i j : Int} {pc : Int → Int} (hn : 0 ≤ n ∧ n ≤ 25) (hi : 0 ≤ i ∧ i < n) (hj : 0 ≤ j ∧ j < n) : gUpd E l yX2_swapPieces wsX2_swapPieces { frames := 1, cells := 0, slots := 0, locals := 21 } [.ref a_L, .int (iI i), .int (iI j)] [(a_L, .inr (2, [.ref a_pc, .ref a_tn, .int (iI n)])), (a_pc, aI E 25 pc)] none [(a_L, .inr (2, [.ref a_pc, .ref a_tn, .int (iI n)])), (a_pc, aI E 25 (uI (uI pc i (pc j)) j (pc i)))] := by
  refine g_start (cc := cX2_swapPieces) (maxL := 4) (ret := none) (by decide) rfl (Nat.le_of_ble_eq_true rfl) ?_
  intro p_ e_ s_ m_ args_ below_ meth_ c_ A_ C hr hnm
  refine g_aload_n 1 C 0 dX2_swapPieces_0 rfl rfl ?_
  refine g_iload_n 2 C 1 dX2_swapPieces_1 rfl rfl ?_
  refine g_callVF 5 C [0] dX2_swapPieces_2 rfl (k_X2_hasPlace E l  (by first | assumption | omega) (by first | assumption | omega)) (cwV 1 C.2.2.2.2.1 gX2_swapPieces_X2_hasPlace rfl rfl rfl cdX2_hasPlace ⟨Nat.le_of_ble_eq_true rfl, Nat.le_of_ble_eq_true rfl⟩) rfl rfl rfl rfl (Nat.le_of_ble_eq_true rfl) 0 2 rfl rfl rfl ⟨Nat.le_of_ble_eq_true rfl, Nat.le_of_ble_eq_true rfl⟩ ?_
  refine g_ifb_eq 42 8 C dX2_swapPieces_5 (by decide) rfl (fun h5 => absurd h5 (by omega)) ?_
  intro h5
  refine g_aload_n 9 C 0 dX2_swapPieces_8 rfl rfl ?_
  refine g_iload_n 10 C 2 dX2_swapPieces_9 rfl rfl ?_
  refine g_callVF 13 C [0] dX2_swapPieces_10 rfl (k_X2_hasPlace E l  (by first | assumption | omega) (by first | assumption | omega)) (cwV 1 C.2.2.2.2.1 gX2_swapPieces_X2_hasPlace rfl rfl rfl cdX2_hasPlace ⟨Nat.le_of_ble_eq_true rfl, Nat.le_of_ble_eq_true rfl⟩) rfl rfl rfl rfl (Nat.le_of_ble_eq_true rfl) 0 2 rfl rfl rfl ⟨Nat.le_of_ble_eq_true rfl, Nat.le_of_ble_eq_true rfl⟩ ?_
  refine g_ifb_eq 42 16 C dX2_swapPieces_13 (by decide) rfl (fun h13 => absurd h13 (by omega)) ?_
  intro h13
  refine g_aload_n 17 C 0 dX2_swapPieces_16 rfl rfl ?_
  refine g_get 20 C 0 0 2 iX2_swapPieces_X2 lX2_swapPieces_9 dX2_swapPieces_17 rfl rfl rfl (by decide) rfl ?_
  refine g_iload_n 21 C 1 dX2_swapPieces_20 rfl rfl ?_
  refine g_iaload 22 C 1 dX2_swapPieces_21 rfl rfl (by omega) ?_
  refine g_istore_n (lv' := [(3, _), (0, _), (1, _), (2, _)]) 23 C dX2_swapPieces_22 rfl rfl (by decide) rfl ?_
  refine g_aload_n 24 C 1 dX2_swapPieces_23 rfl rfl ?_
  refine g_get 27 C 0 0 2 iX2_swapPieces_X2 lX2_swapPieces_9 dX2_swapPieces_24 rfl rfl rfl (by decide) rfl ?_
  refine g_iload_n 28 C 2 dX2_swapPieces_27 rfl rfl ?_
  refine g_aload_n 29 C 1 dX2_swapPieces_28 rfl rfl ?_
  refine g_get 32 C 0 0 2 iX2_swapPieces_X2 lX2_swapPieces_9 dX2_swapPieces_29 rfl rfl rfl (by decide) rfl ?_
  refine g_iload_n 33 C 3 dX2_swapPieces_32 rfl rfl ?_
  refine g_iaload 34 C 1 dX2_swapPieces_33 rfl rfl (by omega) ?_
  refine g_iastore (ws' := [(_, .inr (2, [_, _, _])), (_, aI _ _ _)]) 35 C 1 dX2_swapPieces_34 rfl rfl (by omega) rfl ?_
  refine g_aload_n 36 C 1 dX2_swapPieces_35 rfl rfl ?_
  refine g_get 39 C 0 0 2 iX2_swapPieces_X2 lX2_swapPieces_9 dX2_swapPieces_36 rfl rfl rfl (by decide) rfl ?_
  refine g_iload_n 40 C 3 dX2_swapPieces_39 rfl rfl ?_
  refine g_iload_n 41 C 0 dX2_swapPieces_40 rfl rfl ?_
  refine g_iastore (ws' := [(_, .inr (2, [_, _, _])), (_, aI _ _ _)]) 42 C 1 dX2_swapPieces_41 rfl rfl (by omega) rfl ?_
  exact g_vret C hr dX2_swapPieces_42 ⟨rfl, rfl⟩
theorem lX2_removeAt_15 : Cond.fieldLink RX2 15 (TX2 1).1 (TX2 1).2.1 (TX2 1).2.2.1 ∈ wsX2_removeAt := by decide +kernel
theorem lX2_removeAt_18 : Cond.fieldLink RX2 18 (TX2 2).1 (TX2 2).2.1 (TX2 2).2.2.1 ∈ wsX2_removeAt := by decide +kernel
theorem lX2_removeAt_9 : Cond.fieldLink RX2 9 (TX2 0).1 (TX2 0).2.1 (TX2 0).2.2.1 ∈ wsX2_removeAt := by decide +kernel
theorem iX2_removeAt_X2 : ∀ w ∈ u_ws RX2 TX2 3, w ∈ wsX2_removeAt := by decide +kernel
set_option maxHeartbeats 4000000 in
set_option maxRecDepth 100000 in
theorem k_X2_removeAt (E : gE) (l : Launch) {a_L a_pc a_tn : Nat} {n i : Int} {pc tn : Int → Int} (hn : 0 ≤ n ∧ n ≤ 25) (hi : 0 ≤ i ∧ i < n) : gUpd E l yX2_removeAt wsX2_removeAt { frames := 1, cells := 0, slots := 0, locals := 21 } [.ref a_L, .int (iI i)] [(a_L, .inr (2, [.ref a_pc, .ref a_tn, .int (iI n)])), (a_pc, aI E 25 pc), (a_tn, aI E 25 tn)] none [(a_L, .inr (2, [.ref a_pc, .ref a_tn, .int (iI (n - 1))])), (a_pc, aI E 25 (rmI pc i n)), (a_tn, aI E 25 (rmI tn i n))] := by
  refine g_start (cc := cX2_removeAt) (maxL := 3) (ret := none) (by decide) rfl (Nat.le_of_ble_eq_true rfl) ?_
  intro p_ e_ s_ m_ args_ below_ meth_ c_ A_ C hr hnm
  refine g_aload_n 1 C 0 dX2_removeAt_0 rfl rfl ?_
  refine g_iload_n 2 C 1 dX2_removeAt_1 rfl rfl ?_
  refine g_callVF 5 C [0] dX2_removeAt_2 rfl (k_X2_hasPlace E l  (by first | assumption | omega) (by first | assumption | omega)) (cwV 1 C.2.2.2.2.1 gX2_removeAt_X2_hasPlace rfl rfl rfl cdX2_hasPlace ⟨Nat.le_of_ble_eq_true rfl, Nat.le_of_ble_eq_true rfl⟩) rfl rfl rfl rfl (Nat.le_of_ble_eq_true rfl) 0 2 rfl rfl rfl ⟨Nat.le_of_ble_eq_true rfl, Nat.le_of_ble_eq_true rfl⟩ ?_
  refine g_ifb_eq 64 8 C dX2_removeAt_5 (by decide) rfl (fun h5 => absurd h5 (by omega)) ?_
  intro h5
  refine g_iload_n 9 C 1 dX2_removeAt_8 rfl rfl ?_
  refine g_iconst 10 C dX2_removeAt_9 rfl ?_
  refine g_iadd 11 C dX2_removeAt_10 rfl ?_
  refine g_istore_n (lv' := [(2, _), (0, _), (1, _)]) 12 C dX2_removeAt_11 rfl rfl (by decide) rfl ?_
  refine g_loop (α := Int) (fun zz => [(a_L, .inr (2, [.ref a_pc, .ref a_tn, .int (iI n)])), (a_pc, aI E 25 (rmI pc i zz)), (a_tn, aI E 25 (rmI tn i zz))]) (fun zz => [(2, .int (iI zz)), (1, .int (iI i)), (0, .ref a_L)]) (fun zz => i < zz ∧ zz ≤ n) (fun zz => (n - zz).toNat) ((i + 1)) (by (try dsimp only); omega) [0, 2, 1] (by rw [rmI_0, rmI_0]) rfl ?_
  rintro k hI ih12
  try dsimp only at hI ih12 ⊢
  obtain ⟨hk0, hkn⟩ := hI
  refine g_iload_n 13 C 0 dX2_removeAt_12 rfl rfl ?_
  refine g_aload_n 14 C 2 dX2_removeAt_13 rfl rfl ?_
  refine g_get 17 C 0 2 2 iX2_removeAt_X2 lX2_removeAt_18 dX2_removeAt_14 rfl rfl rfl (by decide) rfl ?_
  refine g_icmp_ge 54 20 C dX2_removeAt_17 (by decide) rfl (by omega) ?_ ?_
  · intro h17
    refine g_aload_n 55 C 2 dX2_removeAt_54 rfl rfl ?_
    refine g_dup 56 C dX2_removeAt_55 rfl rfl ?_
    refine g_get 59 C 0 2 2 iX2_removeAt_X2 lX2_removeAt_18 dX2_removeAt_56 rfl rfl rfl (by decide) rfl ?_
    refine g_iconst 60 C dX2_removeAt_59 rfl ?_
    refine g_isub 61 C dX2_removeAt_60 rfl ?_
    refine g_put (ws' := [(_, .inr (2, [_, _, _])), (_, aI _ _ _), (_, aI _ _ _)]) 64 C 0 2 2 tyX2 tyX2_ok nmX2 iX2_removeAt_X2 lX2_removeAt_18 dX2_removeAt_61 rfl rfl rfl (by decide) rfl rfl rfl (Nat.le_of_ble_eq_true rfl) rfl ?_
    exact g_vret C hr dX2_removeAt_64 ⟨rfl, by rw [show k = n by omega]⟩
  · intro h17
    refine g_aload_n 21 C 2 dX2_removeAt_20 rfl rfl ?_
    refine g_get 24 C 0 0 2 iX2_removeAt_X2 lX2_removeAt_9 dX2_removeAt_21 rfl rfl rfl (by decide) rfl ?_
    refine g_iload_n 25 C 0 dX2_removeAt_24 rfl rfl ?_
    refine g_iconst 26 C dX2_removeAt_25 rfl ?_
    refine g_isub 27 C dX2_removeAt_26 rfl ?_
    refine g_aload_n 28 C 2 dX2_removeAt_27 rfl rfl ?_
    refine g_get 31 C 0 0 2 iX2_removeAt_X2 lX2_removeAt_9 dX2_removeAt_28 rfl rfl rfl (by decide) rfl ?_
    refine g_iload_n 32 C 0 dX2_removeAt_31 rfl rfl ?_
    refine g_iaload 33 C 1 dX2_removeAt_32 rfl rfl (by omega) ?_
    refine g_iastore (ws' := [(_, .inr (2, [_, _, _])), (_, aI _ _ _), (_, aI _ _ _)]) 34 C 1 dX2_removeAt_33 rfl rfl (by omega) rfl ?_
    refine g_aload_n 35 C 2 dX2_removeAt_34 rfl rfl ?_
    refine g_get 38 C 0 1 2 iX2_removeAt_X2 lX2_removeAt_15 dX2_removeAt_35 rfl rfl rfl (by decide) rfl ?_
    refine g_iload_n 39 C 0 dX2_removeAt_38 rfl rfl ?_
    refine g_iconst 40 C dX2_removeAt_39 rfl ?_
    refine g_isub 41 C dX2_removeAt_40 rfl ?_
    refine g_aload_n 42 C 2 dX2_removeAt_41 rfl rfl ?_
    refine g_get 45 C 0 1 2 iX2_removeAt_X2 lX2_removeAt_15 dX2_removeAt_42 rfl rfl rfl (by decide) rfl ?_
    refine g_iload_n 46 C 0 dX2_removeAt_45 rfl rfl ?_
    refine g_iaload 47 C 2 dX2_removeAt_46 rfl rfl (by omega) ?_
    refine g_iastore (ws' := [(_, .inr (2, [_, _, _])), (_, aI _ _ _), (_, aI _ _ _)]) 48 C 2 dX2_removeAt_47 rfl rfl (by omega) rfl ?_
    refine g_iinc (lv' := [(2, _), (1, _), (0, _)]) 51 C 0 dX2_removeAt_48 rfl rfl (by decide) rfl ?_
    refine g_goto 12 C dX2_removeAt_51 (by decide) ?_
    exact g_w [0, 1, 2] (by (try dsimp only); rw [rmI_s pc hk0, rmI_s tn hk0]) rfl (ih12 ((k + 1)) (by (try dsimp only); omega) (by (try dsimp only); omega))
theorem lX2_timesOf_18 : Cond.fieldLink RX2 18 (TX2 2).1 (TX2 2).2.1 (TX2 2).2.2.1 ∈ wsX2_timesOf := by decide +kernel
theorem lX2_timesOf_9 : Cond.fieldLink RX2 9 (TX2 0).1 (TX2 0).2.1 (TX2 0).2.2.1 ∈ wsX2_timesOf := by decide +kernel
theorem iX2_timesOf_X2 : ∀ w ∈ u_ws RX2 TX2 3, w ∈ wsX2_timesOf := by decide +kernel
set_option maxHeartbeats 4000000 in
set_option maxRecDepth 100000 in
theorem k_X2_timesOf (E : gE) (l : Launch) {a_L a_pc a_tn : Nat} {n p : Int} {pc : Int → Int} (hn : 0 ≤ n ∧ n ≤ 25) (hpn : ∀ j : Int, 0 ≤ j ∧ j < n → 0 ≤ pc j ∧ pc j < 25) (hp : -2147483648 ≤ p ∧ p < 2147483648) : gFun E l yX2_timesOf wsX2_timesOf { frames := 0, cells := 0, slots := 0, locals := 0 } [.ref a_L, .int (iI p)] [(a_L, .inr (2, [.ref a_pc, .ref a_tn, .int (iI n)])), (a_pc, aI E 25 pc)] (.int (iI (cnI (fun j => pc j = p) n))) := by
  refine g_start (cc := cX2_timesOf) (maxL := 4) (ret := (some .int)) (by decide) rfl (Nat.le_of_ble_eq_true rfl) ?_
  intro p_ e_ s_ m_ args_ below_ meth_ c_ A_ C hr hnm
  refine g_iconst 1 C dX2_timesOf_0 rfl ?_
  refine g_istore_n (lv' := [(2, _), (0, _), (1, _)]) 2 C dX2_timesOf_1 rfl rfl (by decide) rfl ?_
  refine g_iconst 3 C dX2_timesOf_2 rfl ?_
  refine g_istore_n (lv' := [(3, _), (2, _), (0, _), (1, _)]) 4 C dX2_timesOf_3 rfl rfl (by decide) rfl ?_
  refine g_loop (α := Int × Int) (fun zz => [(a_L, .inr (2, [.ref a_pc, .ref a_tn, .int (iI n)])), (a_pc, aI E 25 pc)]) (fun zz => [(2, .int (iI zz.1)), (3, .int (iI zz.2)), (1, .int (iI p)), (0, .ref a_L)]) (fun zz => (0 ≤ zz.2 ∧ zz.2 ≤ n) ∧ zz.1 = cnI (fun j => pc j = p) zz.2) (fun zz => (n - zz.2).toNat) (0, 0) (by
            try dsimp only
            exact ⟨by omega, rfl⟩) [1, 0, 3, 2] rfl rfl ?_
  rintro ⟨c, k⟩ hI ih4
  try dsimp only at hI ih4 ⊢
  obtain ⟨hk, rfl⟩ := hI
  refine g_iload_n 5 C 1 dX2_timesOf_4 rfl rfl ?_
  refine g_aload_n 6 C 3 dX2_timesOf_5 rfl rfl ?_
  refine g_get 9 C 0 2 2 iX2_timesOf_X2 lX2_timesOf_18 dX2_timesOf_6 rfl rfl rfl (by decide) rfl ?_
  refine g_icmp_ge 31 12 C dX2_timesOf_9 (by decide) rfl (by omega) ?_ ?_
  · intro h9
    refine g_iload_n 32 C 0 dX2_timesOf_31 rfl rfl ?_
    exact g_iret C hr dX2_timesOf_32 ⟨g_ri (by rw [show k = n by omega]), rfl⟩
  · intro h9
    refine g_aload_n 13 C 3 dX2_timesOf_12 rfl rfl ?_
    refine g_get 16 C 0 0 2 iX2_timesOf_X2 lX2_timesOf_9 dX2_timesOf_13 rfl rfl rfl (by decide) rfl ?_
    refine g_iload_n 17 C 1 dX2_timesOf_16 rfl rfl ?_
    refine g_iaload 18 C 1 dX2_timesOf_17 rfl rfl (by omega) ?_
    have e0 := hpn k (by omega)
    refine g_iload_n 19 C 2 dX2_timesOf_18 rfl rfl ?_
    refine g_icmp_ne 25 22 C dX2_timesOf_19 (by decide) rfl (by omega) ?_ ?_
    · intro h19
      refine g_iinc (lv' := [(3, _), (2, _), (1, _), (0, _)]) 28 C 1 dX2_timesOf_25 rfl rfl (by decide) rfl ?_
      refine g_goto 4 C dX2_timesOf_28 (by decide) ?_
      first
      | exact g_w [1, 0, 2, 3] rfl rfl (ih4 ((cnI (fun j => pc j = p) k + 1), (k + 1)) (by
            try dsimp only
            exact ⟨by omega, by first | exact (cnI_st (fun j => pc j = p) hk.1 (by assumption)).symm | exact (cnI_sf (fun j => pc j = p) hk.1 (by assumption)).symm⟩) (by (try dsimp only); omega))
      | exact g_w [1, 0, 2, 3] rfl rfl (ih4 ((cnI (fun j => pc j = p) k), (k + 1)) (by
            try dsimp only
            exact ⟨by omega, by first | exact (cnI_st (fun j => pc j = p) hk.1 (by assumption)).symm | exact (cnI_sf (fun j => pc j = p) hk.1 (by assumption)).symm⟩) (by (try dsimp only); omega))
    · intro h19
      refine g_iinc (lv' := [(2, _), (3, _), (1, _), (0, _)]) 25 C 0 dX2_timesOf_22 rfl rfl (by decide) rfl ?_
      refine g_iinc (lv' := [(3, _), (2, _), (1, _), (0, _)]) 28 C 1 dX2_timesOf_25 rfl rfl (by decide) rfl ?_
      refine g_goto 4 C dX2_timesOf_28 (by decide) ?_
      first
      | exact g_w [1, 0, 2, 3] rfl rfl (ih4 ((cnI (fun j => pc j = p) k + 1), (k + 1)) (by
            try dsimp only
            exact ⟨by omega, by first | exact (cnI_st (fun j => pc j = p) hk.1 (by assumption)).symm | exact (cnI_sf (fun j => pc j = p) hk.1 (by assumption)).symm⟩) (by (try dsimp only); omega))
      | exact g_w [1, 0, 2, 3] rfl rfl (ih4 ((cnI (fun j => pc j = p) k), (k + 1)) (by
            try dsimp only
            exact ⟨by omega, by first | exact (cnI_st (fun j => pc j = p) hk.1 (by assumption)).symm | exact (cnI_sf (fun j => pc j = p) hk.1 (by assumption)).symm⟩) (by (try dsimp only); omega))
theorem lX4_isThere_15 : Cond.fieldLink RX4 15 (TX4 1).1 (TX4 1).2.1 (TX4 1).2.2.1 ∈ wsX4_isThere := by decide +kernel
theorem iX4_isThere_X4 : ∀ w ∈ u_ws RX4 TX4 4, w ∈ wsX4_isThere := by decide +kernel
set_option maxHeartbeats 4000000 in
set_option maxRecDepth 100000 in
theorem k_X4_isThere (E : gE) (l : Launch) {a_S a_ce : Nat} {th ln sz : Int} (hth : th = 0 ∨ th = 1) : gFun E l yX4_isThere wsX4_isThere { frames := 0, cells := 0, slots := 0, locals := 0 } [.ref a_S] [(a_S, .inr (4, [.ref a_ce, .int (iI th), .int (iI ln), .int (iI sz)]))] (.int (iI th)) := by
  refine g_start (cc := cX4_isThere) (maxL := 1) (ret := (some .boolean)) (by decide) rfl (Nat.le_of_ble_eq_true rfl) ?_
  intro p_ e_ s_ m_ args_ below_ meth_ c_ A_ C hr hnm
  refine g_aload_n 1 C 0 dX4_isThere_0 rfl rfl ?_
  refine g_get 4 C 0 1 4 iX4_isThere_X4 lX4_isThere_15 dX4_isThere_1 rfl rfl rfl (by decide) rfl ?_
  exact g_zret C hr dX4_isThere_4 (by rcases hth with rfl | rfl <;> rfl) ⟨g_ri (by first | rfl | omega | exact (if_pos (by omega)).symm | exact (if_neg (by omega)).symm), rfl⟩
theorem lX4_laneHeld_19 : Cond.fieldLink RX4 19 (TX4 2).1 (TX4 2).2.1 (TX4 2).2.2.1 ∈ wsX4_laneHeld := by decide +kernel
theorem iX4_laneHeld_X4 : ∀ w ∈ u_ws RX4 TX4 4, w ∈ wsX4_laneHeld := by decide +kernel
set_option maxHeartbeats 4000000 in
set_option maxRecDepth 100000 in
theorem k_X4_laneHeld (E : gE) (l : Launch) {a_S a_ce : Nat} {th ln sz : Int}  : gFun E l yX4_laneHeld wsX4_laneHeld { frames := 0, cells := 0, slots := 0, locals := 0 } [.ref a_S] [(a_S, .inr (4, [.ref a_ce, .int (iI th), .int (iI ln), .int (iI sz)]))] (.int (iI ln)) := by
  refine g_start (cc := cX4_laneHeld) (maxL := 1) (ret := (some .int)) (by decide) rfl (Nat.le_of_ble_eq_true rfl) ?_
  intro p_ e_ s_ m_ args_ below_ meth_ c_ A_ C hr hnm
  refine g_aload_n 1 C 0 dX4_laneHeld_0 rfl rfl ?_
  refine g_get 4 C 0 2 4 iX4_laneHeld_X4 lX4_laneHeld_19 dX4_laneHeld_1 rfl rfl rfl (by decide) rfl ?_
  exact g_iret C hr dX4_laneHeld_4 ⟨g_ri (by first | rfl | omega | exact (if_pos (by omega)).symm | exact (if_neg (by omega)).symm), rfl⟩
theorem lX4_isOfOther_15 : Cond.fieldLink RX4 15 (TX4 1).1 (TX4 1).2.1 (TX4 1).2.2.1 ∈ wsX4_isOfOther := by decide +kernel
theorem lX4_isOfOther_19 : Cond.fieldLink RX4 19 (TX4 2).1 (TX4 2).2.1 (TX4 2).2.2.1 ∈ wsX4_isOfOther := by decide +kernel
theorem iX4_isOfOther_X4 : ∀ w ∈ u_ws RX4 TX4 4, w ∈ wsX4_isOfOther := by decide +kernel
set_option maxHeartbeats 4000000 in
set_option maxRecDepth 100000 in
theorem k_X4_isOfOther (E : gE) (l : Launch) {a_S a_ce : Nat} {th ln sz w : Int} (hth : th = 0 ∨ th = 1) (hln : 0 ≤ ln ∧ ln ≤ 2) (hw : -2147483648 ≤ w ∧ w < 2147483648) : gFun E l yX4_isOfOther wsX4_isOfOther { frames := 0, cells := 0, slots := 0, locals := 0 } [.ref a_S, .int (iI w)] [(a_S, .inr (4, [.ref a_ce, .int (iI th), .int (iI ln), .int (iI sz)]))] (.int (iI (if th = 1 ∧ ln ≠ w then 1 else 0))) := by
  refine g_start (cc := cX4_isOfOther) (maxL := 2) (ret := (some .boolean)) (by decide) rfl (Nat.le_of_ble_eq_true rfl) ?_
  intro p_ e_ s_ m_ args_ below_ meth_ c_ A_ C hr hnm
  refine g_aload_n 1 C 0 dX4_isOfOther_0 rfl rfl ?_
  refine g_get 4 C 0 1 4 iX4_isOfOther_X4 lX4_isOfOther_15 dX4_isOfOther_1 rfl rfl rfl (by decide) rfl ?_
  refine g_if_eq 19 7 C dX4_isOfOther_4 (by decide) rfl (by omega) ?_ ?_
  · intro h4
    refine g_iconst 20 C dX4_isOfOther_19 rfl ?_
    exact g_zret C hr dX4_isOfOther_20 (by first | rfl | decide | (split <;> rfl)) ⟨g_ri (by first | rfl | omega | exact (if_pos (by omega)).symm | exact (if_neg (by omega)).symm), rfl⟩
  · intro h4
    refine g_aload_n 8 C 0 dX4_isOfOther_7 rfl rfl ?_
    refine g_get 11 C 0 2 4 iX4_isOfOther_X4 lX4_isOfOther_19 dX4_isOfOther_8 rfl rfl rfl (by decide) rfl ?_
    refine g_iload_n 12 C 1 dX4_isOfOther_11 rfl rfl ?_
    refine g_icmp_eq 19 15 C dX4_isOfOther_12 (by decide) rfl (by omega) ?_ ?_
    · intro h12
      refine g_iconst 20 C dX4_isOfOther_19 rfl ?_
      exact g_zret C hr dX4_isOfOther_20 (by first | rfl | decide | (split <;> rfl)) ⟨g_ri (by first | rfl | omega | exact (if_pos (by omega)).symm | exact (if_neg (by omega)).symm), rfl⟩
    · intro h12
      refine g_iconst 16 C dX4_isOfOther_15 rfl ?_
      refine g_goto 20 C dX4_isOfOther_16 (by decide) ?_
      exact g_zret C hr dX4_isOfOther_20 (by first | rfl | decide | (split <;> rfl)) ⟨g_ri (by first | rfl | omega | exact (if_pos (by omega)).symm | exact (if_neg (by omega)).symm), rfl⟩
theorem lX4_holds_32 : Cond.fieldLink RX4 32 (TX4 3).1 (TX4 3).2.1 (TX4 3).2.2.1 ∈ wsX4_holds := by decide +kernel
theorem iX4_holds_X4 : ∀ w ∈ u_ws RX4 TX4 4, w ∈ wsX4_holds := by decide +kernel
set_option maxHeartbeats 4000000 in
set_option maxRecDepth 100000 in
theorem k_X4_holds (E : gE) (l : Launch) {a_S a_ce : Nat} {th ln sz i n : Int} (hsz : 0 ≤ sz ∧ sz ≤ 50) (hi : -2147483648 ≤ i ∧ i < 2147483648) (hn : -1099511627776 ≤ n ∧ n < 1099511627776) : gFun E l yX4_holds wsX4_holds { frames := 0, cells := 0, slots := 0, locals := 0 } [.ref a_S, .int (iI i), .long (lI n)] [(a_S, .inr (4, [.ref a_ce, .int (iI th), .int (iI ln), .int (iI sz)]))] (.int (iI (if 0 ≤ i ∧ 0 ≤ n ∧ i + n ≤ sz then 1 else 0))) := by
  refine g_start (cc := cX4_holds) (maxL := 4) (ret := (some .boolean)) (by decide) rfl (Nat.le_of_ble_eq_true rfl) ?_
  intro p_ e_ s_ m_ args_ below_ meth_ c_ A_ C hr hnm
  refine g_iload_n 1 C 1 dX4_holds_0 rfl rfl ?_
  refine g_if_lt 27 4 C dX4_holds_1 (by decide) rfl (by omega) ?_ ?_
  · intro h1
    refine g_iconst 28 C dX4_holds_27 rfl ?_
    exact g_zret C hr dX4_holds_28 (by first | rfl | decide | (split <;> rfl)) ⟨g_ri (by first | rfl | omega | exact (if_pos (by omega)).symm | exact (if_neg (by omega)).symm), rfl⟩
  · intro h1
    refine g_lload_n 5 C 2 dX4_holds_4 rfl rfl ?_
    refine g_lconst 6 C 0 dX4_holds_5 rfl (by decide) ?_
    refine g_lc_lt 7 27 10 C dX4_holds_6 rfl dX4_holds_7 (by decide) rfl (by omega) ?_ ?_
    · intro h6
      refine g_iconst 28 C dX4_holds_27 rfl ?_
      exact g_zret C hr dX4_holds_28 (by first | rfl | decide | (split <;> rfl)) ⟨g_ri (by first | rfl | omega | exact (if_pos (by omega)).symm | exact (if_neg (by omega)).symm), rfl⟩
    · intro h6
      refine g_iload_n 11 C 1 dX4_holds_10 rfl rfl ?_
      refine g_i2l 12 C dX4_holds_11 rfl (by omega) ?_
      refine g_lload_n 13 C 2 dX4_holds_12 rfl rfl ?_
      refine g_ladd 14 C dX4_holds_13 rfl ?_
      refine g_aload_n 15 C 0 dX4_holds_14 rfl rfl ?_
      refine g_get 18 C 0 3 4 iX4_holds_X4 lX4_holds_32 dX4_holds_15 rfl rfl rfl (by decide) rfl ?_
      refine g_i2l 19 C dX4_holds_18 rfl (by omega) ?_
      refine g_lc_gt 20 27 23 C dX4_holds_19 rfl dX4_holds_20 (by decide) rfl (by omega) ?_ ?_
      · intro h19
        refine g_iconst 28 C dX4_holds_27 rfl ?_
        exact g_zret C hr dX4_holds_28 (by first | rfl | decide | (split <;> rfl)) ⟨g_ri (by first | rfl | omega | exact (if_pos (by omega)).symm | exact (if_neg (by omega)).symm), rfl⟩
      · intro h19
        refine g_iconst 24 C dX4_holds_23 rfl ?_
        refine g_goto 28 C dX4_holds_24 (by decide) ?_
        exact g_zret C hr dX4_holds_28 (by first | rfl | decide | (split <;> rfl)) ⟨g_ri (by first | rfl | omega | exact (if_pos (by omega)).symm | exact (if_neg (by omega)).symm), rfl⟩
theorem cdX4_holds : yX4_holds.cls = RX4 ∧ yX4_holds.cls ≠ "java/lang/invoke/MethodHandle" ∧ yX4_holds.cls ≠ "java/lang/invoke/VarHandle" ∧ (parseMethodDescriptor yX4_holds.desc).map (fun d => d.parameters.length) = some 2 := by decide +kernel
theorem lX4_read_9 : Cond.fieldLink RX4 9 (TX4 0).1 (TX4 0).2.1 (TX4 0).2.2.1 ∈ wsX4_read := by decide +kernel
theorem iX4_read_X4 : ∀ w ∈ u_ws RX4 TX4 4, w ∈ wsX4_read := by decide +kernel
set_option maxHeartbeats 4000000 in
set_option maxRecDepth 100000 in
theorem k_X4_read (E : gE) (l : Launch) {a_S a_ce : Nat} {th ln sz i : Int} {ce : Int → Int} (hsz : 0 ≤ sz ∧ sz ≤ 50) (hi : 0 ≤ i ∧ i < sz) : gFun E l yX4_read wsX4_read { frames := 1, cells := 0, slots := 0, locals := 23 } [.ref a_S, .int (iI i)] [(a_S, .inr (4, [.ref a_ce, .int (iI th), .int (iI ln), .int (iI sz)])), (a_ce, aI E 50 ce)] (.int (iI (ce i))) := by
  refine g_start (cc := cX4_read) (maxL := 2) (ret := (some .int)) (by decide) rfl (Nat.le_of_ble_eq_true rfl) ?_
  intro p_ e_ s_ m_ args_ below_ meth_ c_ A_ C hr hnm
  refine g_aload_n 1 C 0 dX4_read_0 rfl rfl ?_
  refine g_iload_n 2 C 1 dX4_read_1 rfl rfl ?_
  refine g_lconst 3 C 1 dX4_read_2 rfl (by decide) ?_
  refine g_callVF 6 C [0] dX4_read_3 rfl (k_X4_holds E l  (by first | assumption | omega) (by first | assumption | omega) (by first | assumption | omega)) (cwV 2 C.2.2.2.2.1 gX4_read_X4_holds rfl rfl rfl cdX4_holds ⟨Nat.le_of_ble_eq_true rfl, Nat.le_of_ble_eq_true rfl⟩) rfl rfl rfl rfl (Nat.le_of_ble_eq_true rfl) 0 4 rfl rfl rfl ⟨Nat.le_of_ble_eq_true rfl, Nat.le_of_ble_eq_true rfl⟩ ?_
  refine g_ifb_eq 18 9 C dX4_read_6 (by decide) rfl (fun h6 => absurd h6 (by omega)) ?_
  intro h6
  refine g_aload_n 10 C 0 dX4_read_9 rfl rfl ?_
  refine g_get 13 C 0 0 4 iX4_read_X4 lX4_read_9 dX4_read_10 rfl rfl rfl (by decide) rfl ?_
  refine g_iload_n 14 C 1 dX4_read_13 rfl rfl ?_
  refine g_iaload 15 C 1 dX4_read_14 rfl rfl (by omega) ?_
  refine g_goto 19 C dX4_read_15 (by decide) ?_
  exact g_iret C hr dX4_read_19 ⟨g_ri (by first | rfl | omega | exact (if_pos (by omega)).symm | exact (if_neg (by omega)).symm), rfl⟩
theorem lX4_cutToLane_19 : Cond.fieldLink RX4 19 (TX4 2).1 (TX4 2).2.1 (TX4 2).2.2.1 ∈ wsX4_cutToLane := by decide +kernel
theorem iX4_cutToLane_X4 : ∀ w ∈ u_ws RX4 TX4 4, w ∈ wsX4_cutToLane := by decide +kernel
set_option maxHeartbeats 4000000 in
set_option maxRecDepth 100000 in
theorem k_X4_cutToLane (E : gE) (l : Launch) {a_S a_ce : Nat} {th ln sz v : Int} (hln : 0 ≤ ln ∧ ln ≤ 2) : gFun E l yX4_cutToLane wsX4_cutToLane { frames := 0, cells := 0, slots := 0, locals := 0 } [.ref a_S, .int (iI v)] [(a_S, .inr (4, [.ref a_ce, .int (iI th), .int (iI ln), .int (iI sz)]))] (.int (iI (cuI ln v))) := by
  refine g_start (cc := cX4_cutToLane) (maxL := 2) (ret := (some .int)) (by decide) rfl (Nat.le_of_ble_eq_true rfl) ?_
  intro p_ e_ s_ m_ args_ below_ meth_ c_ A_ C hr hnm
  refine g_aload_n 1 C 0 dX4_cutToLane_0 rfl rfl ?_
  refine g_get 4 C 0 2 4 iX4_cutToLane_X4 lX4_cutToLane_19 dX4_cutToLane_1 rfl rfl rfl (by decide) rfl ?_
  refine g_lsw2 32 35 38 C dX4_cutToLane_4 (by decide) (by omega) (by decide) (by decide) (by decide) ?_ ?_ ?_
  · intro hs4_a
    refine g_iload_n 33 C 1 dX4_cutToLane_32 rfl rfl ?_
    refine g_i2b 34 C dX4_cutToLane_33 rfl ?_
    exact g_iret C hr dX4_cutToLane_34 ⟨congrArg some (congrArg Value.int (cuI_0 (by omega)).symm), rfl⟩
  · intro hs4_b
    refine g_iload_n 36 C 1 dX4_cutToLane_35 rfl rfl ?_
    refine g_i2s 37 C dX4_cutToLane_36 rfl ?_
    exact g_iret C hr dX4_cutToLane_37 ⟨congrArg some (congrArg Value.int (cuI_1 (by omega)).symm), rfl⟩
  · intro hs4_d
    refine g_iload_n 39 C 1 dX4_cutToLane_38 rfl rfl ?_
    exact g_iret C hr dX4_cutToLane_39 ⟨g_ri ((cuI_2 (by omega)).symm), rfl⟩
theorem cdX4_cutToLane : yX4_cutToLane.cls = RX4 ∧ yX4_cutToLane.cls ≠ "java/lang/invoke/MethodHandle" ∧ yX4_cutToLane.cls ≠ "java/lang/invoke/VarHandle" ∧ (parseMethodDescriptor yX4_cutToLane.desc).map (fun d => d.parameters.length) = some 1 := by decide +kernel
theorem lX4_write_9 : Cond.fieldLink RX4 9 (TX4 0).1 (TX4 0).2.1 (TX4 0).2.2.1 ∈ wsX4_write := by decide +kernel
theorem iX4_write_X4 : ∀ w ∈ u_ws RX4 TX4 4, w ∈ wsX4_write := by decide +kernel
set_option maxHeartbeats 4000000 in
set_option maxRecDepth 100000 in
theorem k_X4_write (E : gE) (l : Launch) {a_S a_ce : Nat} {th ln sz i v : Int} {ce : Int → Int} (hsz : 0 ≤ sz ∧ sz ≤ 50) (hi : 0 ≤ i ∧ i < sz) (hln : 0 ≤ ln ∧ ln ≤ 2) : gUpd E l yX4_write wsX4_write { frames := 1, cells := 0, slots := 0, locals := 23 } [.ref a_S, .int (iI i), .int (iI v)] [(a_S, .inr (4, [.ref a_ce, .int (iI th), .int (iI ln), .int (iI sz)])), (a_ce, aI E 50 ce)] none [(a_S, .inr (4, [.ref a_ce, .int (iI th), .int (iI ln), .int (iI sz)])), (a_ce, aI E 50 (uI ce i (cuI ln v)))] := by
  refine g_start (cc := cX4_write) (maxL := 3) (ret := none) (by decide) rfl (Nat.le_of_ble_eq_true rfl) ?_
  intro p_ e_ s_ m_ args_ below_ meth_ c_ A_ C hr hnm
  refine g_aload_n 1 C 0 dX4_write_0 rfl rfl ?_
  refine g_iload_n 2 C 1 dX4_write_1 rfl rfl ?_
  refine g_lconst 3 C 1 dX4_write_2 rfl (by decide) ?_
  refine g_callVF 6 C [0] dX4_write_3 rfl (k_X4_holds E l  (by first | assumption | omega) (by first | assumption | omega) (by first | assumption | omega)) (cwV 2 C.2.2.2.2.1 gX4_write_X4_holds rfl rfl rfl cdX4_holds ⟨Nat.le_of_ble_eq_true rfl, Nat.le_of_ble_eq_true rfl⟩) rfl rfl rfl rfl (Nat.le_of_ble_eq_true rfl) 0 4 rfl rfl rfl ⟨Nat.le_of_ble_eq_true rfl, Nat.le_of_ble_eq_true rfl⟩ ?_
  refine g_ifb_eq 20 9 C dX4_write_6 (by decide) rfl (fun h6 => absurd h6 (by omega)) ?_
  intro h6
  refine g_aload_n 10 C 0 dX4_write_9 rfl rfl ?_
  refine g_get 13 C 0 0 4 iX4_write_X4 lX4_write_9 dX4_write_10 rfl rfl rfl (by decide) rfl ?_
  refine g_iload_n 14 C 1 dX4_write_13 rfl rfl ?_
  refine g_aload_n 15 C 0 dX4_write_14 rfl rfl ?_
  refine g_iload_n 16 C 2 dX4_write_15 rfl rfl ?_
  refine g_callVF 19 C [0] dX4_write_16 rfl (k_X4_cutToLane E l  (by first | assumption | omega)) (cwV 1 C.2.2.2.2.1 gX4_write_X4_cutToLane rfl rfl rfl cdX4_cutToLane ⟨Nat.le_of_ble_eq_true rfl, Nat.le_of_ble_eq_true rfl⟩) rfl rfl rfl rfl (Nat.le_of_ble_eq_true rfl) 0 4 rfl rfl rfl ⟨Nat.le_of_ble_eq_true rfl, Nat.le_of_ble_eq_true rfl⟩ ?_
  refine g_iastore (ws' := [(_, .inr (4, [_, _, _, _])), (_, aI _ _ _)]) 20 C 1 dX4_write_19 rfl rfl (by omega) rfl ?_
  exact g_vret C hr dX4_write_20 ⟨rfl, rfl⟩
theorem lX4_drop_15 : Cond.fieldLink RX4 15 (TX4 1).1 (TX4 1).2.1 (TX4 1).2.2.1 ∈ wsX4_drop := by decide +kernel
theorem lX4_drop_32 : Cond.fieldLink RX4 32 (TX4 3).1 (TX4 3).2.1 (TX4 3).2.2.1 ∈ wsX4_drop := by decide +kernel
theorem iX4_drop_X4 : ∀ w ∈ u_ws RX4 TX4 4, w ∈ wsX4_drop := by decide +kernel
set_option maxHeartbeats 4000000 in
set_option maxRecDepth 100000 in
theorem k_X4_drop (E : gE) (l : Launch) {a_S a_ce : Nat} {th ln sz : Int}  : gUpd E l yX4_drop wsX4_drop { frames := 0, cells := 0, slots := 0, locals := 0 } [.ref a_S] [(a_S, .inr (4, [.ref a_ce, .int (iI th), .int (iI ln), .int (iI sz)]))] none [(a_S, .inr (4, [.ref a_ce, .int (iI 0), .int (iI ln), .int (iI 0)]))] := by
  refine g_start (cc := cX4_drop) (maxL := 1) (ret := none) (by decide) rfl (Nat.le_of_ble_eq_true rfl) ?_
  intro p_ e_ s_ m_ args_ below_ meth_ c_ A_ C hr hnm
  refine g_aload_n 1 C 0 dX4_drop_0 rfl rfl ?_
  refine g_iconst 2 C dX4_drop_1 rfl ?_
  refine g_put (ws' := [(_, .inr (4, [_, _, _, _]))]) 5 C 0 1 4 tyX4 tyX4_ok nmX4 iX4_drop_X4 lX4_drop_15 dX4_drop_2 rfl rfl rfl (by decide) rfl (by decide) rfl (Nat.le_of_ble_eq_true rfl) rfl ?_
  refine g_aload_n 6 C 0 dX4_drop_5 rfl rfl ?_
  refine g_iconst 7 C dX4_drop_6 rfl ?_
  refine g_put (ws' := [(_, .inr (4, [_, _, _, _]))]) 10 C 0 3 4 tyX4 tyX4_ok nmX4 iX4_drop_X4 lX4_drop_32 dX4_drop_7 rfl rfl rfl (by decide) rfl rfl rfl (Nat.le_of_ble_eq_true rfl) rfl ?_
  exact g_vret C hr dX4_drop_10 ⟨rfl, rfl⟩
theorem lX4_renew_15 : Cond.fieldLink RX4 15 (TX4 1).1 (TX4 1).2.1 (TX4 1).2.2.1 ∈ wsX4_renew := by decide +kernel
theorem lX4_renew_19 : Cond.fieldLink RX4 19 (TX4 2).1 (TX4 2).2.1 (TX4 2).2.2.1 ∈ wsX4_renew := by decide +kernel
theorem lX4_renew_32 : Cond.fieldLink RX4 32 (TX4 3).1 (TX4 3).2.1 (TX4 3).2.2.1 ∈ wsX4_renew := by decide +kernel
theorem lX4_renew_9 : Cond.fieldLink RX4 9 (TX4 0).1 (TX4 0).2.1 (TX4 0).2.2.1 ∈ wsX4_renew := by decide +kernel
theorem lX4_renew_23 : ∀ w ∈ ([Cond.methodLink RX4 23 Lib.Math.max.name, Cond.static Lib.Math.max.name, Cond.initialized "java/lang/Math", Cond.code Lib.Math.max.name Lib.Math.max.code 2 (some .int)] : List Cond), w ∈ wsX4_renew := by decide +kernel
theorem lX4_renew_29 : ∀ w ∈ ([Cond.methodLink RX4 29 Lib.Math.min.name, Cond.static Lib.Math.min.name, Cond.initialized "java/lang/Math", Cond.code Lib.Math.min.name Lib.Math.min.code 2 (some .int)] : List Cond), w ∈ wsX4_renew := by decide +kernel
theorem iX4_renew_X4 : ∀ w ∈ u_ws RX4 TX4 4, w ∈ wsX4_renew := by decide +kernel
set_option maxHeartbeats 4000000 in
set_option maxRecDepth 100000 in
theorem k_X4_renew (E : gE) (l : Launch) {a_S a_ce : Nat} {th ln sz w n : Int} {ce : Int → Int} (hn : 0 ≤ n ∧ n ≤ 50) : gUpd E l yX4_renew wsX4_renew { frames := 1, cells := 0, slots := 0, locals := 30 } [.ref a_S, .int (iI w), .int (iI n)] [(a_S, .inr (4, [.ref a_ce, .int (iI th), .int (iI ln), .int (iI sz)])), (a_ce, aI E 50 ce)] none [(a_S, .inr (4, [.ref a_ce, .int (iI 1), .int (iI w), .int (iI n)])), (a_ce, aI E 50 (zrI ce 50))] := by
  refine g_start (cc := cX4_renew) (maxL := 4) (ret := none) (by decide) rfl (Nat.le_of_ble_eq_true rfl) ?_
  intro p_ e_ s_ m_ args_ below_ meth_ c_ A_ C hr hnm
  refine g_aload_n 1 C 0 dX4_renew_0 rfl rfl ?_
  refine g_iconst 2 C dX4_renew_1 rfl ?_
  refine g_put (ws' := [(_, .inr (4, [_, _, _, _])), (_, aI _ _ _)]) 5 C 0 1 4 tyX4 tyX4_ok nmX4 iX4_renew_X4 lX4_renew_15 dX4_renew_2 rfl rfl rfl (by decide) rfl (by decide) rfl (Nat.le_of_ble_eq_true rfl) rfl ?_
  refine g_aload_n 6 C 0 dX4_renew_5 rfl rfl ?_
  refine g_iload_n 7 C 1 dX4_renew_6 rfl rfl ?_
  refine g_put (ws' := [(_, .inr (4, [_, _, _, _])), (_, aI _ _ _)]) 10 C 0 2 4 tyX4 tyX4_ok nmX4 iX4_renew_X4 lX4_renew_19 dX4_renew_7 rfl rfl rfl (by decide) rfl rfl rfl (Nat.le_of_ble_eq_true rfl) rfl ?_
  refine g_aload_n 11 C 0 dX4_renew_10 rfl rfl ?_
  refine g_iconst 12 C dX4_renew_11 rfl ?_
  refine g_iload_n 13 C 2 dX4_renew_12 rfl rfl ?_
  refine g_mmax 16 C n dX4_renew_13 rfl lX4_renew_23 (Nat.le_of_ble_eq_true rfl) (Nat.le_of_ble_eq_true rfl) (Nat.le_of_ble_eq_true rfl) (Nat.le_of_ble_eq_true rfl) (by omega) (by split <;> omega) ?_
  refine g_aload_n 17 C 0 dX4_renew_16 rfl rfl ?_
  refine g_get 20 C 0 0 4 iX4_renew_X4 lX4_renew_9 dX4_renew_17 rfl rfl rfl (by decide) rfl ?_
  refine g_alenI 21 C 1 dX4_renew_20 rfl rfl ?_
  refine g_mmin 24 C n dX4_renew_21 rfl lX4_renew_29 (Nat.le_of_ble_eq_true rfl) (Nat.le_of_ble_eq_true rfl) (Nat.le_of_ble_eq_true rfl) (Nat.le_of_ble_eq_true rfl) (by omega) (by split <;> omega) ?_
  refine g_put (ws' := [(_, .inr (4, [_, _, _, _])), (_, aI _ _ _)]) 27 C 0 3 4 tyX4 tyX4_ok nmX4 iX4_renew_X4 lX4_renew_32 dX4_renew_24 rfl rfl rfl (by decide) rfl rfl rfl (Nat.le_of_ble_eq_true rfl) rfl ?_
  refine g_iconst 28 C dX4_renew_27 rfl ?_
  refine g_istore_n (lv' := [(3, _), (0, _), (1, _), (2, _)]) 29 C dX4_renew_28 rfl rfl (by decide) rfl ?_
  refine g_loop (α := Int) (fun zz => [(a_S, .inr (4, [.ref a_ce, .int (iI 1), .int (iI w), .int (iI n)])), (a_ce, aI E 50 (zrI ce zz))]) (fun zz => [(3, .int (iI zz)), (2, .int (iI n)), (1, .int (iI w)), (0, .ref a_S)]) (fun zz => 0 ≤ zz ∧ zz ≤ 50) (fun zz => (50 - zz).toNat) (0) (by (try dsimp only); omega) [0, 3, 2, 1] (by rw [zrI_0]) rfl ?_
  rintro k hI ih29
  try dsimp only at hI ih29 ⊢
  obtain ⟨hk0, hkn⟩ := hI
  refine g_iload_n 30 C 0 dX4_renew_29 rfl rfl ?_
  refine g_aload_n 31 C 3 dX4_renew_30 rfl rfl ?_
  refine g_get 34 C 0 0 4 iX4_renew_X4 lX4_renew_9 dX4_renew_31 rfl rfl rfl (by decide) rfl ?_
  refine g_alenI 35 C 1 dX4_renew_34 rfl rfl ?_
  refine g_icmp_ge 51 38 C dX4_renew_35 (by decide) rfl (by omega) ?_ ?_
  · intro h35
    exact g_vret C hr dX4_renew_51 ⟨rfl, by rw [show k = 50 by omega]⟩
  · intro h35
    refine g_aload_n 39 C 3 dX4_renew_38 rfl rfl ?_
    refine g_get 42 C 0 0 4 iX4_renew_X4 lX4_renew_9 dX4_renew_39 rfl rfl rfl (by decide) rfl ?_
    refine g_iload_n 43 C 0 dX4_renew_42 rfl rfl ?_
    refine g_iconst 44 C dX4_renew_43 rfl ?_
    refine g_iastore (ws' := [(_, .inr (4, [_, _, _, _])), (_, aI _ _ _)]) 45 C 1 dX4_renew_44 rfl rfl (by omega) rfl ?_
    refine g_iinc (lv' := [(3, _), (2, _), (1, _), (0, _)]) 48 C 0 dX4_renew_45 rfl rfl (by decide) rfl ?_
    refine g_goto 29 C dX4_renew_48 (by decide) ?_
    exact g_w [0, 1, 2, 3] (by (try dsimp only); rw [← zrI_s ce hk0]) rfl (ih29 ((k + 1)) (by (try dsimp only); omega) (by (try dsimp only); omega))
theorem lX4_writeFrom_43 : ∀ w ∈ ([Cond.methodLink RX4 43 arraycopyName, Cond.native arraycopyName, Cond.static arraycopyName, Cond.initialized "java/lang/System"] : List Cond), w ∈ wsX4_writeFrom := by decide +kernel
theorem lX4_writeFrom_9 : Cond.fieldLink RX4 9 (TX4 0).1 (TX4 0).2.1 (TX4 0).2.2.1 ∈ wsX4_writeFrom := by decide +kernel
theorem iX4_writeFrom_X4 : ∀ w ∈ u_ws RX4 TX4 4, w ∈ wsX4_writeFrom := by decide +kernel
set_option maxHeartbeats 4000000 in
set_option maxRecDepth 100000 in
theorem k_X4_writeFrom (E : gE) (l : Launch) {a_S a_T a_ce a_cf : Nat} {th ln sz th2 ln2 sz2 i j n : Int} {ce cf : Int → Int} (hsz : 0 ≤ sz ∧ sz ≤ 50) (hsz2 : 0 ≤ sz2 ∧ sz2 ≤ 50) (hi : 0 ≤ i ∧ i + n ≤ sz2) (hj : 0 ≤ j ∧ j + n ≤ sz) (hn : 0 ≤ n) : gUpd E l yX4_writeFrom wsX4_writeFrom { frames := 1, cells := 0, slots := 0, locals := 60 } [.ref a_S, .ref a_T, .int (iI i), .int (iI j), .int (iI n)] [(a_S, .inr (4, [.ref a_ce, .int (iI th), .int (iI ln), .int (iI sz)])), (a_ce, aI E 50 ce), (a_T, .inr (4, [.ref a_cf, .int (iI th2), .int (iI ln2), .int (iI sz2)])), (a_cf, aI E 50 cf)] none [(a_S, .inr (4, [.ref a_ce, .int (iI th), .int (iI ln), .int (iI sz)])), (a_ce, aI E 50 (cpI cf ce i j n)), (a_T, .inr (4, [.ref a_cf, .int (iI th2), .int (iI ln2), .int (iI sz2)])), (a_cf, aI E 50 cf)] := by
  refine g_start (cc := cX4_writeFrom) (maxL := 5) (ret := none) (by decide) rfl (Nat.le_of_ble_eq_true rfl) ?_
  intro p_ e_ s_ m_ args_ below_ meth_ c_ A_ C hr hnm
  refine g_aload_n 1 C 1 dX4_writeFrom_0 rfl rfl ?_
  refine g_iload_n 2 C 2 dX4_writeFrom_1 rfl rfl ?_
  refine g_iload 4 C 4 dX4_writeFrom_2 rfl rfl ?_
  refine g_i2l 5 C dX4_writeFrom_4 rfl (by omega) ?_
  refine g_callVF 8 C [2] dX4_writeFrom_5 rfl (k_X4_holds E l  (by first | assumption | omega) (by first | assumption | omega) (by first | assumption | omega)) (cwV 2 C.2.2.2.2.1 gX4_writeFrom_X4_holds rfl rfl rfl cdX4_holds ⟨Nat.le_of_ble_eq_true rfl, Nat.le_of_ble_eq_true rfl⟩) rfl rfl rfl rfl (Nat.le_of_ble_eq_true rfl) 2 4 rfl rfl rfl ⟨Nat.le_of_ble_eq_true rfl, Nat.le_of_ble_eq_true rfl⟩ ?_
  refine g_ifb_eq 37 11 C dX4_writeFrom_8 (by decide) rfl (fun h8 => absurd h8 (by omega)) ?_
  intro h8
  refine g_aload_n 12 C 0 dX4_writeFrom_11 rfl rfl ?_
  refine g_iload_n 13 C 3 dX4_writeFrom_12 rfl rfl ?_
  refine g_iload 15 C 4 dX4_writeFrom_13 rfl rfl ?_
  refine g_i2l 16 C dX4_writeFrom_15 rfl (by omega) ?_
  refine g_callVF 19 C [0] dX4_writeFrom_16 rfl (k_X4_holds E l  (by first | assumption | omega) (by first | assumption | omega) (by first | assumption | omega)) (cwV 2 C.2.2.2.2.1 gX4_writeFrom_X4_holds rfl rfl rfl cdX4_holds ⟨Nat.le_of_ble_eq_true rfl, Nat.le_of_ble_eq_true rfl⟩) rfl rfl rfl rfl (Nat.le_of_ble_eq_true rfl) 0 4 rfl rfl rfl ⟨Nat.le_of_ble_eq_true rfl, Nat.le_of_ble_eq_true rfl⟩ ?_
  refine g_ifb_eq 37 22 C dX4_writeFrom_19 (by decide) rfl (fun h19 => absurd h19 (by omega)) ?_
  intro h19
  refine g_aload_n 23 C 1 dX4_writeFrom_22 rfl rfl ?_
  refine g_get 26 C 2 0 4 iX4_writeFrom_X4 lX4_writeFrom_9 dX4_writeFrom_23 rfl rfl rfl (by decide) rfl ?_
  refine g_iload_n 27 C 2 dX4_writeFrom_26 rfl rfl ?_
  refine g_aload_n 28 C 0 dX4_writeFrom_27 rfl rfl ?_
  refine g_get 31 C 0 0 4 iX4_writeFrom_X4 lX4_writeFrom_9 dX4_writeFrom_28 rfl rfl rfl (by decide) rfl ?_
  refine g_iload_n 32 C 3 dX4_writeFrom_31 rfl rfl ?_
  refine g_iload 34 C 4 dX4_writeFrom_32 rfl rfl ?_
  refine g_copy (ws' := [(_, .inr (4, [_, _, _, _])), (_, aI _ _ _), (_, .inr (4, [_, _, _, _])), (_, aI _ _ _)]) 37 C 3 1 dX4_writeFrom_34 rfl lX4_writeFrom_43 rfl rfl (by omega) (by omega) (by omega) ⟨by decide, by decide⟩ (Nat.le_of_ble_eq_true rfl) (Nat.le_of_ble_eq_true rfl) rfl ?_
  exact g_vret C hr dX4_writeFrom_37 ⟨rfl, rfl⟩
set_option maxHeartbeats 4000000 in
set_option maxRecDepth 100000 in
theorem k_X4_writeFrom_s (E : gE) (l : Launch) {a_S a_ce : Nat} {th ln sz i j n : Int} {ce : Int → Int} (hsz : 0 ≤ sz ∧ sz ≤ 50) (hi : 0 ≤ i ∧ i + n ≤ sz) (hj : 0 ≤ j ∧ j + n ≤ sz) (hn : 0 ≤ n) : gUpd E l yX4_writeFrom wsX4_writeFrom { frames := 1, cells := 0, slots := 0, locals := 60 } [.ref a_S, .ref a_S, .int (iI i), .int (iI j), .int (iI n)] [(a_S, .inr (4, [.ref a_ce, .int (iI th), .int (iI ln), .int (iI sz)])), (a_ce, aI E 50 ce)] none [(a_S, .inr (4, [.ref a_ce, .int (iI th), .int (iI ln), .int (iI sz)])), (a_ce, aI E 50 (cpI ce ce i j n))] := by
  refine g_start (cc := cX4_writeFrom) (maxL := 5) (ret := none) (by decide) rfl (Nat.le_of_ble_eq_true rfl) ?_
  intro p_ e_ s_ m_ args_ below_ meth_ c_ A_ C hr hnm
  refine g_aload_n 1 C 1 dX4_writeFrom_0 rfl rfl ?_
  refine g_iload_n 2 C 2 dX4_writeFrom_1 rfl rfl ?_
  refine g_iload 4 C 4 dX4_writeFrom_2 rfl rfl ?_
  refine g_i2l 5 C dX4_writeFrom_4 rfl (by omega) ?_
  refine g_callVF 8 C [0] dX4_writeFrom_5 rfl (k_X4_holds E l  (by first | assumption | omega) (by first | assumption | omega) (by first | assumption | omega)) (cwV 2 C.2.2.2.2.1 gX4_writeFrom_X4_holds rfl rfl rfl cdX4_holds ⟨Nat.le_of_ble_eq_true rfl, Nat.le_of_ble_eq_true rfl⟩) rfl rfl rfl rfl (Nat.le_of_ble_eq_true rfl) 0 4 rfl rfl rfl ⟨Nat.le_of_ble_eq_true rfl, Nat.le_of_ble_eq_true rfl⟩ ?_
  refine g_ifb_eq 37 11 C dX4_writeFrom_8 (by decide) rfl (fun h8 => absurd h8 (by omega)) ?_
  intro h8
  refine g_aload_n 12 C 0 dX4_writeFrom_11 rfl rfl ?_
  refine g_iload_n 13 C 3 dX4_writeFrom_12 rfl rfl ?_
  refine g_iload 15 C 4 dX4_writeFrom_13 rfl rfl ?_
  refine g_i2l 16 C dX4_writeFrom_15 rfl (by omega) ?_
  refine g_callVF 19 C [0] dX4_writeFrom_16 rfl (k_X4_holds E l  (by first | assumption | omega) (by first | assumption | omega) (by first | assumption | omega)) (cwV 2 C.2.2.2.2.1 gX4_writeFrom_X4_holds rfl rfl rfl cdX4_holds ⟨Nat.le_of_ble_eq_true rfl, Nat.le_of_ble_eq_true rfl⟩) rfl rfl rfl rfl (Nat.le_of_ble_eq_true rfl) 0 4 rfl rfl rfl ⟨Nat.le_of_ble_eq_true rfl, Nat.le_of_ble_eq_true rfl⟩ ?_
  refine g_ifb_eq 37 22 C dX4_writeFrom_19 (by decide) rfl (fun h19 => absurd h19 (by omega)) ?_
  intro h19
  refine g_aload_n 23 C 1 dX4_writeFrom_22 rfl rfl ?_
  refine g_get 26 C 0 0 4 iX4_writeFrom_X4 lX4_writeFrom_9 dX4_writeFrom_23 rfl rfl rfl (by decide) rfl ?_
  refine g_iload_n 27 C 2 dX4_writeFrom_26 rfl rfl ?_
  refine g_aload_n 28 C 0 dX4_writeFrom_27 rfl rfl ?_
  refine g_get 31 C 0 0 4 iX4_writeFrom_X4 lX4_writeFrom_9 dX4_writeFrom_28 rfl rfl rfl (by decide) rfl ?_
  refine g_iload_n 32 C 3 dX4_writeFrom_31 rfl rfl ?_
  refine g_iload 34 C 4 dX4_writeFrom_32 rfl rfl ?_
  refine g_copy (ws' := [(_, .inr (4, [_, _, _, _])), (_, aI _ _ _)]) 37 C 1 1 dX4_writeFrom_34 rfl lX4_writeFrom_43 rfl rfl (by omega) (by omega) (by omega) ⟨by decide, by decide⟩ (Nat.le_of_ble_eq_true rfl) (Nat.le_of_ble_eq_true rfl) rfl ?_
  exact g_vret C hr dX4_writeFrom_37 ⟨rfl, rfl⟩
