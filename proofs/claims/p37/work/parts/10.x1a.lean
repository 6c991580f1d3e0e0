theorem lX1_pieces_22 : Cond.fieldLink RX1 22 (TX1 2).1 (TX1 2).2.1 (TX1 2).2.2.1 ∈ wsX1_pieces := by decide +kernel
theorem lX1_pieces_26 : Cond.fieldLink RX1 26 (TX1 3).1 (TX1 3).2.1 (TX1 3).2.2.1 ∈ wsX1_pieces := by decide +kernel
theorem iX1_pieces_X1 : ∀ w ∈ u_ws RX1 TX1 4, w ∈ wsX1_pieces := by decide +kernel
set_option maxHeartbeats 4000000 in
set_option maxRecDepth 100000 in
theorem k_X1_pieces (E : gE) (l : Launch) {a_P a_hs a_se : Nat} {W h : Int}  : gFun E l yX1_pieces wsX1_pieces { frames := 0, cells := 0, slots := 0, locals := 0 } [.ref a_P] [(a_P, .inr (1, [.ref a_hs, .ref a_se, .int (iI W), .int (iI h)]))] (.int (iI (W * h))) := by
  refine g_start (cc := cX1_pieces) (maxL := 1) (ret := (some .int)) (by decide) rfl (Nat.le_of_ble_eq_true rfl) ?_
  intro p_ e_ s_ m_ args_ below_ meth_ c_ A_ C hr hnm
  refine g_aload_n 1 C 0 dX1_pieces_0 rfl rfl ?_
  refine g_get 4 C 0 2 1 iX1_pieces_X1 lX1_pieces_22 dX1_pieces_1 rfl rfl rfl (by decide) rfl ?_
  refine g_aload_n 5 C 0 dX1_pieces_4 rfl rfl ?_
  refine g_get 8 C 0 3 1 iX1_pieces_X1 lX1_pieces_26 dX1_pieces_5 rfl rfl rfl (by decide) rfl ?_
  refine g_imul 9 C dX1_pieces_8 rfl ?_
  exact g_iret C hr dX1_pieces_9 ⟨g_ri (by first | rfl | omega | exact (if_pos (by omega)).symm | exact (if_neg (by omega)).symm), rfl⟩
theorem lX1_sides_22 : Cond.fieldLink RX1 22 (TX1 2).1 (TX1 2).2.1 (TX1 2).2.2.1 ∈ wsX1_sides := by decide +kernel
theorem lX1_sides_26 : Cond.fieldLink RX1 26 (TX1 3).1 (TX1 3).2.1 (TX1 3).2.2.1 ∈ wsX1_sides := by decide +kernel
theorem iX1_sides_X1 : ∀ w ∈ u_ws RX1 TX1 4, w ∈ wsX1_sides := by decide +kernel
set_option maxHeartbeats 4000000 in
set_option maxRecDepth 100000 in
theorem k_X1_sides (E : gE) (l : Launch) {a_P a_hs a_se : Nat} {W h : Int}  : gFun E l yX1_sides wsX1_sides { frames := 0, cells := 0, slots := 0, locals := 0 } [.ref a_P] [(a_P, .inr (1, [.ref a_hs, .ref a_se, .int (iI W), .int (iI h)]))] (.int (iI (nsd W h))) := by
  refine g_start (cc := cX1_sides) (maxL := 1) (ret := (some .int)) (by decide) rfl (Nat.le_of_ble_eq_true rfl) ?_
  intro p_ e_ s_ m_ args_ below_ meth_ c_ A_ C hr hnm
  refine g_aload_n 1 C 0 dX1_sides_0 rfl rfl ?_
  refine g_get 4 C 0 2 1 iX1_sides_X1 lX1_sides_22 dX1_sides_1 rfl rfl rfl (by decide) rfl ?_
  refine g_iconst 5 C dX1_sides_4 rfl ?_
  refine g_isub 6 C dX1_sides_5 rfl ?_
  refine g_aload_n 7 C 0 dX1_sides_6 rfl rfl ?_
  refine g_get 10 C 0 3 1 iX1_sides_X1 lX1_sides_26 dX1_sides_7 rfl rfl rfl (by decide) rfl ?_
  refine g_imul 11 C dX1_sides_10 rfl ?_
  refine g_aload_n 12 C 0 dX1_sides_11 rfl rfl ?_
  refine g_get 15 C 0 2 1 iX1_sides_X1 lX1_sides_22 dX1_sides_12 rfl rfl rfl (by decide) rfl ?_
  refine g_aload_n 16 C 0 dX1_sides_15 rfl rfl ?_
  refine g_get 19 C 0 3 1 iX1_sides_X1 lX1_sides_26 dX1_sides_16 rfl rfl rfl (by decide) rfl ?_
  refine g_iconst 20 C dX1_sides_19 rfl ?_
  refine g_isub 21 C dX1_sides_20 rfl ?_
  refine g_imul 22 C dX1_sides_21 rfl ?_
  refine g_iadd 23 C dX1_sides_22 rfl ?_
  exact g_iret C hr dX1_sides_23 ⟨g_ri (by first | rfl | omega | exact (if_pos (by omega)).symm | exact (if_neg (by omega)).symm), rfl⟩
theorem cdX1_sides : yX1_sides.cls = RX1 ∧ yX1_sides.cls ≠ "java/lang/invoke/MethodHandle" ∧ yX1_sides.cls ≠ "java/lang/invoke/VarHandle" ∧ (parseMethodDescriptor yX1_sides.desc).map (fun d => d.parameters.length) = some 0 := by decide +kernel
set_option maxHeartbeats 4000000 in
set_option maxRecDepth 100000 in
theorem k_X1_hasSide (E : gE) (l : Launch) {a_P a_hs a_se : Nat} {W h z : Int} (hB : 1 ≤ W ∧ W ≤ 5 ∧ 1 ≤ h ∧ h ≤ 5) (hz : -2147483648 ≤ z ∧ z < 2147483648) : gFun E l yX1_hasSide wsX1_hasSide { frames := 1, cells := 0, slots := 0, locals := 20 } [.ref a_P, .int (iI z)] [(a_P, .inr (1, [.ref a_hs, .ref a_se, .int (iI W), .int (iI h)]))] (.int (iI (if 0 ≤ z ∧ z < nsd W h then 1 else 0))) := by
  refine g_start (cc := cX1_hasSide) (maxL := 2) (ret := (some .boolean)) (by decide) rfl (Nat.le_of_ble_eq_true rfl) ?_
  intro p_ e_ s_ m_ args_ below_ meth_ c_ A_ C hr hnm
  have hn := nsd_b hB
  refine g_iload_n 1 C 1 dX1_hasSide_0 rfl rfl ?_
  refine g_if_lt 16 4 C dX1_hasSide_1 (by decide) rfl (by omega) ?_ ?_
  · intro h1
    refine g_iconst 17 C dX1_hasSide_16 rfl ?_
    exact g_zret C hr dX1_hasSide_17 (by first | rfl | decide | (split <;> rfl)) ⟨g_ri (by first | rfl | omega | exact (if_pos (by omega)).symm | exact (if_neg (by omega)).symm), rfl⟩
  · intro h1
    refine g_iload_n 5 C 1 dX1_hasSide_4 rfl rfl ?_
    refine g_aload_n 6 C 0 dX1_hasSide_5 rfl rfl ?_
    refine g_callVF 9 C [0] dX1_hasSide_6 rfl (k_X1_sides E l  ) (cwV 0 C.2.2.2.2.1 gX1_hasSide_X1_sides rfl rfl rfl cdX1_sides ⟨Nat.le_of_ble_eq_true rfl, Nat.le_of_ble_eq_true rfl⟩) rfl rfl rfl rfl (Nat.le_of_ble_eq_true rfl) 0 1 rfl rfl rfl ⟨Nat.le_of_ble_eq_true rfl, Nat.le_of_ble_eq_true rfl⟩ ?_
    refine g_icmp_ge 16 12 C dX1_hasSide_9 (by decide) rfl (by omega) ?_ ?_
    · intro h9
      refine g_iconst 17 C dX1_hasSide_16 rfl ?_
      exact g_zret C hr dX1_hasSide_17 (by first | rfl | decide | (split <;> rfl)) ⟨g_ri (by first | rfl | omega | exact (if_pos (by omega)).symm | exact (if_neg (by omega)).symm), rfl⟩
    · intro h9
      refine g_iconst 13 C dX1_hasSide_12 rfl ?_
      refine g_goto 17 C dX1_hasSide_13 (by decide) ?_
      exact g_zret C hr dX1_hasSide_17 (by first | rfl | decide | (split <;> rfl)) ⟨g_ri (by first | rfl | omega | exact (if_pos (by omega)).symm | exact (if_neg (by omega)).symm), rfl⟩
theorem cdX1_pieces : yX1_pieces.cls = RX1 ∧ yX1_pieces.cls ≠ "java/lang/invoke/MethodHandle" ∧ yX1_pieces.cls ≠ "java/lang/invoke/VarHandle" ∧ (parseMethodDescriptor yX1_pieces.desc).map (fun d => d.parameters.length) = some 0 := by decide +kernel
set_option maxHeartbeats 4000000 in
set_option maxRecDepth 100000 in
theorem k_X1_hasPiece (E : gE) (l : Launch) {a_P a_hs a_se : Nat} {W h z : Int} (hB : 1 ≤ W ∧ W ≤ 5 ∧ 1 ≤ h ∧ h ≤ 5) (hz : -2147483648 ≤ z ∧ z < 2147483648) : gFun E l yX1_hasPiece wsX1_hasPiece { frames := 1, cells := 0, slots := 0, locals := 20 } [.ref a_P, .int (iI z)] [(a_P, .inr (1, [.ref a_hs, .ref a_se, .int (iI W), .int (iI h)]))] (.int (iI (if 0 ≤ z ∧ z < W * h then 1 else 0))) := by
  refine g_start (cc := cX1_hasPiece) (maxL := 2) (ret := (some .boolean)) (by decide) rfl (Nat.le_of_ble_eq_true rfl) ?_
  intro p_ e_ s_ m_ args_ below_ meth_ c_ A_ C hr hnm
  have hn := nsd_b hB
  refine g_iload_n 1 C 1 dX1_hasPiece_0 rfl rfl ?_
  refine g_if_lt 16 4 C dX1_hasPiece_1 (by decide) rfl (by omega) ?_ ?_
  · intro h1
    refine g_iconst 17 C dX1_hasPiece_16 rfl ?_
    exact g_zret C hr dX1_hasPiece_17 (by first | rfl | decide | (split <;> rfl)) ⟨g_ri (by first | rfl | omega | exact (if_pos (by omega)).symm | exact (if_neg (by omega)).symm), rfl⟩
  · intro h1
    refine g_iload_n 5 C 1 dX1_hasPiece_4 rfl rfl ?_
    refine g_aload_n 6 C 0 dX1_hasPiece_5 rfl rfl ?_
    refine g_callVF 9 C [0] dX1_hasPiece_6 rfl (k_X1_pieces E l  ) (cwV 0 C.2.2.2.2.1 gX1_hasPiece_X1_pieces rfl rfl rfl cdX1_pieces ⟨Nat.le_of_ble_eq_true rfl, Nat.le_of_ble_eq_true rfl⟩) rfl rfl rfl rfl (Nat.le_of_ble_eq_true rfl) 0 1 rfl rfl rfl ⟨Nat.le_of_ble_eq_true rfl, Nat.le_of_ble_eq_true rfl⟩ ?_
    refine g_icmp_ge 16 12 C dX1_hasPiece_9 (by decide) rfl (by omega) ?_ ?_
    · intro h9
      refine g_iconst 17 C dX1_hasPiece_16 rfl ?_
      exact g_zret C hr dX1_hasPiece_17 (by first | rfl | decide | (split <;> rfl)) ⟨g_ri (by first | rfl | omega | exact (if_pos (by omega)).symm | exact (if_neg (by omega)).symm), rfl⟩
    · intro h9
      refine g_iconst 13 C dX1_hasPiece_12 rfl ?_
      refine g_goto 17 C dX1_hasPiece_13 (by decide) ?_
      exact g_zret C hr dX1_hasPiece_17 (by first | rfl | decide | (split <;> rfl)) ⟨g_ri (by first | rfl | omega | exact (if_pos (by omega)).symm | exact (if_neg (by omega)).symm), rfl⟩
theorem cdX1_hasPiece : yX1_hasPiece.cls = RX1 ∧ yX1_hasPiece.cls ≠ "java/lang/invoke/MethodHandle" ∧ yX1_hasPiece.cls ≠ "java/lang/invoke/VarHandle" ∧ (parseMethodDescriptor yX1_hasPiece.desc).map (fun d => d.parameters.length) = some 1 := by decide +kernel
set_option maxHeartbeats 4000000 in
set_option maxRecDepth 100000 in
theorem k_X1_hasEdge (E : gE) (l : Launch) {a_P a_hs a_se : Nat} {W h z y : Int} (hB : 1 ≤ W ∧ W ≤ 5 ∧ 1 ≤ h ∧ h ≤ 5) (hz : -2147483648 ≤ z ∧ z < 2147483648) (hy : -2147483648 ≤ y ∧ y < 2147483648) : gFun E l yX1_hasEdge wsX1_hasEdge { frames := 2, cells := 0, slots := 0, locals := 41 } [.ref a_P, .int (iI z), .int (iI y)] [(a_P, .inr (1, [.ref a_hs, .ref a_se, .int (iI W), .int (iI h)]))] (.int (iI (if (0 ≤ z ∧ z < W * h) ∧ 0 ≤ y ∧ y < 4 then 1 else 0))) := by
  refine g_start (cc := cX1_hasEdge) (maxL := 3) (ret := (some .boolean)) (by decide) rfl (Nat.le_of_ble_eq_true rfl) ?_
  intro p_ e_ s_ m_ args_ below_ meth_ c_ A_ C hr hnm
  have hn := nsd_b hB
  refine g_aload_n 1 C 0 dX1_hasEdge_0 rfl rfl ?_
  refine g_iload_n 2 C 1 dX1_hasEdge_1 rfl rfl ?_
  refine g_callVF 5 C [0] dX1_hasEdge_2 rfl (k_X1_hasPiece E l  (by first | assumption | omega) (by first | assumption | omega)) (cwV 1 C.2.2.2.2.1 gX1_hasEdge_X1_hasPiece rfl rfl rfl cdX1_hasPiece ⟨Nat.le_of_ble_eq_true rfl, Nat.le_of_ble_eq_true rfl⟩) rfl rfl rfl rfl (Nat.le_of_ble_eq_true rfl) 0 1 rfl rfl rfl ⟨Nat.le_of_ble_eq_true rfl, Nat.le_of_ble_eq_true rfl⟩ ?_
  refine g_ifb_eq 21 8 C dX1_hasEdge_5 (by decide) rfl ?_ ?_
  · intro h5
    refine g_iconst 22 C dX1_hasEdge_21 rfl ?_
    exact g_zret C hr dX1_hasEdge_22 (by first | rfl | decide | (split <;> rfl)) ⟨g_ri (by first | rfl | omega | exact (if_pos (by omega)).symm | exact (if_neg (by omega)).symm), rfl⟩
  · intro h5
    refine g_iload_n 9 C 2 dX1_hasEdge_8 rfl rfl ?_
    refine g_if_lt 21 12 C dX1_hasEdge_9 (by decide) rfl (by omega) ?_ ?_
    · intro h9
      refine g_iconst 22 C dX1_hasEdge_21 rfl ?_
      exact g_zret C hr dX1_hasEdge_22 (by first | rfl | decide | (split <;> rfl)) ⟨g_ri (by first | rfl | omega | exact (if_pos (by omega)).symm | exact (if_neg (by omega)).symm), rfl⟩
    · intro h9
      refine g_iload_n 13 C 2 dX1_hasEdge_12 rfl rfl ?_
      refine g_iconst 14 C dX1_hasEdge_13 rfl ?_
      refine g_icmp_ge 21 17 C dX1_hasEdge_14 (by decide) rfl (by omega) ?_ ?_
      · intro h14
        refine g_iconst 22 C dX1_hasEdge_21 rfl ?_
        exact g_zret C hr dX1_hasEdge_22 (by first | rfl | decide | (split <;> rfl)) ⟨g_ri (by first | rfl | omega | exact (if_pos (by omega)).symm | exact (if_neg (by omega)).symm), rfl⟩
      · intro h14
        refine g_iconst 18 C dX1_hasEdge_17 rfl ?_
        refine g_goto 22 C dX1_hasEdge_18 (by decide) ?_
        exact g_zret C hr dX1_hasEdge_22 (by first | rfl | decide | (split <;> rfl)) ⟨g_ri (by first | rfl | omega | exact (if_pos (by omega)).symm | exact (if_neg (by omega)).symm), rfl⟩
theorem lX1_sideAt_15 : Cond.fieldLink RX1 15 (TX1 1).1 (TX1 1).2.1 (TX1 1).2.2.1 ∈ wsX1_sideAt := by decide +kernel
theorem iX1_sideAt_X1 : ∀ w ∈ u_ws RX1 TX1 4, w ∈ wsX1_sideAt := by decide +kernel
set_option maxHeartbeats 4000000 in
set_option maxRecDepth 100000 in
theorem k_X1_sideAt (E : gE) (l : Launch) {a_P a_hs a_se : Nat} {W h p e : Int} {se : Int → Int} (hB : 1 ≤ W ∧ W ≤ 5 ∧ 1 ≤ h ∧ h ≤ 5) (hp : 0 ≤ p ∧ p < W * h) (he : 0 ≤ e ∧ e < 4) (hse : ∀ p e : Int, 0 ≤ p ∧ p < W * h → 0 ≤ e ∧ e < 4 → se (p * 4 + e) = sdI W h p e) : gFun E l yX1_sideAt wsX1_sideAt { frames := 0, cells := 0, slots := 0, locals := 0 } [.ref a_P, .int (iI p), .int (iI e)] [(a_P, .inr (1, [.ref a_hs, .ref a_se, .int (iI W), .int (iI h)])), (a_se, aI E 100 se)] (.int (iI (sdI W h p e))) := by
  refine g_start (cc := cX1_sideAt) (maxL := 4) (ret := (some .int)) (by decide) rfl (Nat.le_of_ble_eq_true rfl) ?_
  intro p_ e_ s_ m_ args_ below_ meth_ c_ A_ C hr hnm
  have hn := nsd_b hB
  refine g_iload_n 1 C 1 dX1_sideAt_0 rfl rfl ?_
  refine g_iconst 2 C dX1_sideAt_1 rfl ?_
  refine g_imul 3 C dX1_sideAt_2 rfl ?_
  refine g_iload_n 4 C 2 dX1_sideAt_3 rfl rfl ?_
  refine g_iadd 5 C dX1_sideAt_4 rfl ?_
  refine g_istore_n (lv' := [(3, _), (0, _), (1, _), (2, _)]) 6 C dX1_sideAt_5 rfl rfl (by decide) rfl ?_
  refine g_iload_n 7 C 0 dX1_sideAt_6 rfl rfl ?_
  refine g_if_lt 28 10 C dX1_sideAt_7 (by decide) rfl (by omega) (fun h7 => absurd h7 (by omega)) ?_
  intro h7
  refine g_iload_n 11 C 0 dX1_sideAt_10 rfl rfl ?_
  refine g_aload_n 12 C 1 dX1_sideAt_11 rfl rfl ?_
  refine g_get 15 C 0 1 1 iX1_sideAt_X1 lX1_sideAt_15 dX1_sideAt_12 rfl rfl rfl (by decide) rfl ?_
  refine g_alenI 16 C 1 dX1_sideAt_15 rfl rfl ?_
  refine g_icmp_ge 28 19 C dX1_sideAt_16 (by decide) rfl (by omega) (fun h16 => absurd h16 (by omega)) ?_
  intro h16
  refine g_aload_n 20 C 1 dX1_sideAt_19 rfl rfl ?_
  refine g_get 23 C 0 1 1 iX1_sideAt_X1 lX1_sideAt_15 dX1_sideAt_20 rfl rfl rfl (by decide) rfl ?_
  refine g_iload_n 24 C 0 dX1_sideAt_23 rfl rfl ?_
  refine g_iaload 25 C 1 dX1_sideAt_24 rfl rfl (by omega) ?_
  refine g_goto 30 C dX1_sideAt_25 (by decide) ?_
  exact g_iret C hr dX1_sideAt_30 ⟨g_ri (hse p e hp he), rfl⟩
theorem cdX1_sideAt : yX1_sideAt.cls = RX1 ∧ yX1_sideAt.cls ≠ "java/lang/invoke/MethodHandle" ∧ yX1_sideAt.cls ≠ "java/lang/invoke/VarHandle" ∧ (parseMethodDescriptor yX1_sideAt.desc).map (fun d => d.parameters.length) = some 2 := by decide +kernel
set_option maxHeartbeats 4000000 in
set_option maxRecDepth 100000 in
theorem k_X1_isFlat (E : gE) (l : Launch) {a_P a_hs a_se : Nat} {W h p e : Int} {se : Int → Int} (hB : 1 ≤ W ∧ W ≤ 5 ∧ 1 ≤ h ∧ h ≤ 5) (hp : 0 ≤ p ∧ p < W * h) (he : 0 ≤ e ∧ e < 4) (hse : ∀ p e : Int, 0 ≤ p ∧ p < W * h → 0 ≤ e ∧ e < 4 → se (p * 4 + e) = sdI W h p e) : gFun E l yX1_isFlat wsX1_isFlat { frames := 1, cells := 0, slots := 0, locals := 23 } [.ref a_P, .int (iI p), .int (iI e)] [(a_P, .inr (1, [.ref a_hs, .ref a_se, .int (iI W), .int (iI h)])), (a_se, aI E 100 se)] (.int (iI (if sdI W h p e = -9 then 1 else 0))) := by
  refine g_start (cc := cX1_isFlat) (maxL := 3) (ret := (some .boolean)) (by decide) rfl (Nat.le_of_ble_eq_true rfl) ?_
  intro p_ e_ s_ m_ args_ below_ meth_ c_ A_ C hr hnm
  have hn := nsd_b hB
  have hb := sdI_b hB hp he
  refine g_aload_n 1 C 0 dX1_isFlat_0 rfl rfl ?_
  refine g_iload_n 2 C 1 dX1_isFlat_1 rfl rfl ?_
  refine g_iload_n 3 C 2 dX1_isFlat_2 rfl rfl ?_
  refine g_callVF 6 C [0, 1] dX1_isFlat_3 rfl (k_X1_sideAt E l  (by first | assumption | omega) (by first | assumption | omega) (by first | assumption | omega) (by first | assumption | omega)) (cwV 2 C.2.2.2.2.1 gX1_isFlat_X1_sideAt rfl rfl rfl cdX1_sideAt ⟨Nat.le_of_ble_eq_true rfl, Nat.le_of_ble_eq_true rfl⟩) rfl rfl rfl rfl (Nat.le_of_ble_eq_true rfl) 0 1 rfl rfl rfl ⟨Nat.le_of_ble_eq_true rfl, Nat.le_of_ble_eq_true rfl⟩ ?_
  refine g_bipush 8 C dX1_isFlat_6 rfl (by decide) ?_
  refine g_icmp_ne 15 11 C dX1_isFlat_8 (by decide) rfl (by omega) ?_ ?_
  · intro h8
    refine g_iconst 16 C dX1_isFlat_15 rfl ?_
    exact g_zret C hr dX1_isFlat_16 (by first | rfl | decide | (split <;> rfl)) ⟨g_ri (by first | rfl | omega | exact (if_pos (by omega)).symm | exact (if_neg (by omega)).symm), rfl⟩
  · intro h8
    refine g_iconst 12 C dX1_isFlat_11 rfl ?_
    refine g_goto 16 C dX1_isFlat_12 (by decide) ?_
    exact g_zret C hr dX1_isFlat_16 (by first | rfl | decide | (split <;> rfl)) ⟨g_ri (by first | rfl | omega | exact (if_pos (by omega)).symm | exact (if_neg (by omega)).symm), rfl⟩
theorem lX1_nextTo_22 : Cond.fieldLink RX1 22 (TX1 2).1 (TX1 2).2.1 (TX1 2).2.2.1 ∈ wsX1_nextTo := by decide +kernel
theorem iX1_nextTo_X1 : ∀ w ∈ u_ws RX1 TX1 4, w ∈ wsX1_nextTo := by decide +kernel
set_option maxHeartbeats 4000000 in
set_option maxRecDepth 100000 in
theorem k_X1_nextTo (E : gE) (l : Launch) {a_P a_hs a_se : Nat} {W h p e : Int} (he : 0 ≤ e ∧ e < 4) : gFun E l yX1_nextTo wsX1_nextTo { frames := 0, cells := 0, slots := 0, locals := 0 } [.ref a_P, .int (iI p), .int (iI e)] [(a_P, .inr (1, [.ref a_hs, .ref a_se, .int (iI W), .int (iI h)]))] (.int (iI (nxI W p e))) := by
  refine g_start (cc := cX1_nextTo) (maxL := 3) (ret := (some .int)) (by decide) rfl (Nat.le_of_ble_eq_true rfl) ?_
  intro p_ e_ s_ m_ args_ below_ meth_ c_ A_ C hr hnm
  refine g_iload_n 1 C 2 dX1_nextTo_0 rfl rfl ?_
  refine g_split (e = 0) ?_ ?_
  · intro hs1_0
    refine g_tsw 28 C 0 dX1_nextTo_1 (by omega) (by omega) (by decide) (by decide) rfl (by decide) ?_
    refine g_iload_n 29 C 1 dX1_nextTo_28 rfl rfl ?_
    refine g_aload_n 30 C 0 dX1_nextTo_29 rfl rfl ?_
    refine g_get 33 C 0 2 1 iX1_nextTo_X1 lX1_nextTo_22 dX1_nextTo_30 rfl rfl rfl (by decide) rfl ?_
    refine g_isub 34 C dX1_nextTo_33 rfl ?_
    exact g_iret C hr dX1_nextTo_34 ⟨g_ri (by unfold nxI; (repeat' split) <;> omega), rfl⟩
  intro hs1_0
  refine g_split (e = 1) ?_ ?_
  · intro hs1_1
    refine g_tsw 35 C 1 dX1_nextTo_1 (by omega) (by omega) (by decide) (by decide) rfl (by decide) ?_
    refine g_iload_n 36 C 1 dX1_nextTo_35 rfl rfl ?_
    refine g_iconst 37 C dX1_nextTo_36 rfl ?_
    refine g_iadd 38 C dX1_nextTo_37 rfl ?_
    exact g_iret C hr dX1_nextTo_38 ⟨g_ri (by unfold nxI; (repeat' split) <;> omega), rfl⟩
  intro hs1_1
  refine g_split (e = 2) ?_ ?_
  · intro hs1_2
    refine g_tsw 39 C 2 dX1_nextTo_1 (by omega) (by omega) (by decide) (by decide) rfl (by decide) ?_
    refine g_iload_n 40 C 1 dX1_nextTo_39 rfl rfl ?_
    refine g_aload_n 41 C 0 dX1_nextTo_40 rfl rfl ?_
    refine g_get 44 C 0 2 1 iX1_nextTo_X1 lX1_nextTo_22 dX1_nextTo_41 rfl rfl rfl (by decide) rfl ?_
    refine g_iadd 45 C dX1_nextTo_44 rfl ?_
    exact g_iret C hr dX1_nextTo_45 ⟨g_ri (by unfold nxI; (repeat' split) <;> omega), rfl⟩
  intro hs1_2
  refine g_tswd 46 C dX1_nextTo_1 (by omega) (by omega) (by decide) ?_
  refine g_iload_n 47 C 1 dX1_nextTo_46 rfl rfl ?_
  refine g_iconst 48 C dX1_nextTo_47 rfl ?_
  refine g_isub 49 C dX1_nextTo_48 rfl ?_
  exact g_iret C hr dX1_nextTo_49 ⟨g_ri (by unfold nxI; (repeat' split) <;> omega), rfl⟩
theorem lX1_setHeight_9 : Cond.fieldLink RX1 9 (TX1 0).1 (TX1 0).2.1 (TX1 0).2.2.1 ∈ wsX1_setHeight := by decide +kernel
theorem iX1_setHeight_X1 : ∀ w ∈ u_ws RX1 TX1 4, w ∈ wsX1_setHeight := by decide +kernel
set_option maxHeartbeats 4000000 in
set_option maxRecDepth 100000 in
theorem k_X1_setHeight (E : gE) (l : Launch) {a_P a_hs a_se : Nat} {W h z i v : Int} {hs : Int → Int} (hz : 0 ≤ z ∧ z < 40) (hi : 0 ≤ i ∧ i < 5) : gUpd E l yX1_setHeight wsX1_setHeight { frames := 0, cells := 0, slots := 0, locals := 0 } [.ref a_P, .int (iI z), .int (iI i), .int (iI v)] [(a_P, .inr (1, [.ref a_hs, .ref a_se, .int (iI W), .int (iI h)])), (a_hs, aI E 200 hs)] none [(a_P, .inr (1, [.ref a_hs, .ref a_se, .int (iI W), .int (iI h)])), (a_hs, aI E 200 (uI hs (z * 5 + i) v))] := by
  refine g_start (cc := cX1_setHeight) (maxL := 5) (ret := none) (by decide) rfl (Nat.le_of_ble_eq_true rfl) ?_
  intro p_ e_ s_ m_ args_ below_ meth_ c_ A_ C hr hnm
  refine g_iload_n 1 C 1 dX1_setHeight_0 rfl rfl ?_
  refine g_iconst 2 C dX1_setHeight_1 rfl ?_
  refine g_imul 3 C dX1_setHeight_2 rfl ?_
  refine g_iload_n 4 C 2 dX1_setHeight_3 rfl rfl ?_
  refine g_iadd 5 C dX1_setHeight_4 rfl ?_
  refine g_istore (lv' := [(4, _), (0, _), (1, _), (2, _), (3, _)]) 7 C dX1_setHeight_5 rfl (by decide) rfl ?_
  refine g_iload 9 C 0 dX1_setHeight_7 rfl rfl ?_
  refine g_if_lt 30 12 C dX1_setHeight_9 (by decide) rfl (by omega) (fun h9 => absurd h9 (by omega)) ?_
  intro h9
  refine g_iload 14 C 0 dX1_setHeight_12 rfl rfl ?_
  refine g_aload_n 15 C 1 dX1_setHeight_14 rfl rfl ?_
  refine g_get 18 C 0 0 1 iX1_setHeight_X1 lX1_setHeight_9 dX1_setHeight_15 rfl rfl rfl (by decide) rfl ?_
  refine g_alenI 19 C 1 dX1_setHeight_18 rfl rfl ?_
  refine g_icmp_ge 30 22 C dX1_setHeight_19 (by decide) rfl (by omega) (fun h19 => absurd h19 (by omega)) ?_
  intro h19
  refine g_aload_n 23 C 1 dX1_setHeight_22 rfl rfl ?_
  refine g_get 26 C 0 0 1 iX1_setHeight_X1 lX1_setHeight_9 dX1_setHeight_23 rfl rfl rfl (by decide) rfl ?_
  refine g_iload 28 C 0 dX1_setHeight_26 rfl rfl ?_
  refine g_iload_n 29 C 4 dX1_setHeight_28 rfl rfl ?_
  refine g_iastore (ws' := [(_, .inr (1, [_, _, _, _])), (_, aI _ _ _)]) 30 C 1 dX1_setHeight_29 rfl rfl (by omega) rfl ?_
  exact g_vret C hr dX1_setHeight_30 ⟨rfl, rfl⟩
theorem lX1_setSide_15 : Cond.fieldLink RX1 15 (TX1 1).1 (TX1 1).2.1 (TX1 1).2.2.1 ∈ wsX1_setSide := by decide +kernel
theorem iX1_setSide_X1 : ∀ w ∈ u_ws RX1 TX1 4, w ∈ wsX1_setSide := by decide +kernel
set_option maxHeartbeats 4000000 in
set_option maxRecDepth 100000 in
theorem k_X1_setSide (E : gE) (l : Launch) {a_P a_hs a_se : Nat} {W h z i v : Int} {se : Int → Int} (hz : 0 ≤ z ∧ z < 25) (hi : 0 ≤ i ∧ i < 4) : gUpd E l yX1_setSide wsX1_setSide { frames := 0, cells := 0, slots := 0, locals := 0 } [.ref a_P, .int (iI z), .int (iI i), .int (iI v)] [(a_P, .inr (1, [.ref a_hs, .ref a_se, .int (iI W), .int (iI h)])), (a_se, aI E 100 se)] none [(a_P, .inr (1, [.ref a_hs, .ref a_se, .int (iI W), .int (iI h)])), (a_se, aI E 100 (uI se (z * 4 + i) v))] := by
  refine g_start (cc := cX1_setSide) (maxL := 5) (ret := none) (by decide) rfl (Nat.le_of_ble_eq_true rfl) ?_
  intro p_ e_ s_ m_ args_ below_ meth_ c_ A_ C hr hnm
  refine g_iload_n 1 C 1 dX1_setSide_0 rfl rfl ?_
  refine g_iconst 2 C dX1_setSide_1 rfl ?_
  refine g_imul 3 C dX1_setSide_2 rfl ?_
  refine g_iload_n 4 C 2 dX1_setSide_3 rfl rfl ?_
  refine g_iadd 5 C dX1_setSide_4 rfl ?_
  refine g_istore (lv' := [(4, _), (0, _), (1, _), (2, _), (3, _)]) 7 C dX1_setSide_5 rfl (by decide) rfl ?_
  refine g_iload 9 C 0 dX1_setSide_7 rfl rfl ?_
  refine g_if_lt 30 12 C dX1_setSide_9 (by decide) rfl (by omega) (fun h9 => absurd h9 (by omega)) ?_
  intro h9
  refine g_iload 14 C 0 dX1_setSide_12 rfl rfl ?_
  refine g_aload_n 15 C 1 dX1_setSide_14 rfl rfl ?_
  refine g_get 18 C 0 1 1 iX1_setSide_X1 lX1_setSide_15 dX1_setSide_15 rfl rfl rfl (by decide) rfl ?_
  refine g_alenI 19 C 1 dX1_setSide_18 rfl rfl ?_
  refine g_icmp_ge 30 22 C dX1_setSide_19 (by decide) rfl (by omega) (fun h19 => absurd h19 (by omega)) ?_
  intro h19
  refine g_aload_n 23 C 1 dX1_setSide_22 rfl rfl ?_
  refine g_get 26 C 0 1 1 iX1_setSide_X1 lX1_setSide_15 dX1_setSide_23 rfl rfl rfl (by decide) rfl ?_
  refine g_iload 28 C 0 dX1_setSide_26 rfl rfl ?_
  refine g_iload_n 29 C 4 dX1_setSide_28 rfl rfl ?_
  refine g_iastore (ws' := [(_, .inr (1, [_, _, _, _])), (_, aI _ _ _)]) 30 C 1 dX1_setSide_29 rfl rfl (by omega) rfl ?_
  exact g_vret C hr dX1_setSide_30 ⟨rfl, rfl⟩
theorem lX1_heightAt_9 : Cond.fieldLink RX1 9 (TX1 0).1 (TX1 0).2.1 (TX1 0).2.2.1 ∈ wsX1_heightAt := by decide +kernel
theorem iX1_heightAt_X1 : ∀ w ∈ u_ws RX1 TX1 4, w ∈ wsX1_heightAt := by decide +kernel
set_option maxHeartbeats 4000000 in
set_option maxRecDepth 100000 in
theorem k_X1_heightAt (E : gE) (l : Launch) {a_P a_hs a_se : Nat} {W h z i w : Int} {hs : Int → Int} (hz : 0 ≤ z ∧ z < 40) (hi : 0 ≤ i ∧ i < 5) (hw : w = 0 ∨ w = 1) : gFun E l yX1_heightAt wsX1_heightAt { frames := 0, cells := 0, slots := 0, locals := 0 } [.ref a_P, .int (iI z), .int (iI i), .int (iI w)] [(a_P, .inr (1, [.ref a_hs, .ref a_se, .int (iI W), .int (iI h)])), (a_hs, aI E 200 hs)] (.int (iI (htI hs z i w))) := by
  refine g_start (cc := cX1_heightAt) (maxL := 5) (ret := (some .int)) (by decide) rfl (Nat.le_of_ble_eq_true rfl) ?_
  intro p_ e_ s_ m_ args_ below_ meth_ c_ A_ C hr hnm
  refine g_iload_n 1 C 1 dX1_heightAt_0 rfl rfl ?_
  refine g_iconst 2 C dX1_heightAt_1 rfl ?_
  refine g_imul 3 C dX1_heightAt_2 rfl ?_
  refine g_iload_n 4 C 3 dX1_heightAt_3 rfl rfl ?_
  refine g_if_ne 11 7 C dX1_heightAt_4 (by decide) rfl (by omega) ?_ ?_
  · intro h4
    refine g_iconst 12 C dX1_heightAt_11 rfl ?_
    refine g_iload_n 13 C 2 dX1_heightAt_12 rfl rfl ?_
    refine g_isub 14 C dX1_heightAt_13 rfl ?_
    refine g_iadd 15 C dX1_heightAt_14 rfl ?_
    refine g_istore (lv' := [(4, _), (0, _), (1, _), (2, _), (3, _)]) 17 C dX1_heightAt_15 rfl (by decide) rfl ?_
    refine g_iload 19 C 0 dX1_heightAt_17 rfl rfl ?_
    refine g_if_lt 32 22 C dX1_heightAt_19 (by decide) rfl (by omega) (fun h19 => absurd h19 (by omega)) ?_
    intro h19
    refine g_iload 24 C 0 dX1_heightAt_22 rfl rfl ?_
    refine g_aload_n 25 C 1 dX1_heightAt_24 rfl rfl ?_
    refine g_get 28 C 0 0 1 iX1_heightAt_X1 lX1_heightAt_9 dX1_heightAt_25 rfl rfl rfl (by decide) rfl ?_
    refine g_alenI 29 C 1 dX1_heightAt_28 rfl rfl ?_
    refine g_icmp_lt 34 32 C dX1_heightAt_29 (by decide) rfl (by omega) ?_ (fun h29 => absurd h29 (by omega))
    intro h29
    refine g_iload_n 35 C 4 dX1_heightAt_34 rfl rfl ?_
    refine g_if_ne 48 38 C dX1_heightAt_35 (by decide) rfl (by omega) ?_ ?_
    · intro h35
      refine g_aload_n 49 C 1 dX1_heightAt_48 rfl rfl ?_
      refine g_get 52 C 0 0 1 iX1_heightAt_X1 lX1_heightAt_9 dX1_heightAt_49 rfl rfl rfl (by decide) rfl ?_
      refine g_iload 54 C 0 dX1_heightAt_52 rfl rfl ?_
      refine g_iaload 55 C 1 dX1_heightAt_54 rfl rfl (by omega) ?_
      refine g_ineg 56 C dX1_heightAt_55 rfl ?_
      exact g_iret C hr dX1_heightAt_56 ⟨g_ri (by unfold htI; (repeat' split) <;> first | rfl | omega), rfl⟩
    · intro h35
      refine g_aload_n 39 C 1 dX1_heightAt_38 rfl rfl ?_
      refine g_get 42 C 0 0 1 iX1_heightAt_X1 lX1_heightAt_9 dX1_heightAt_39 rfl rfl rfl (by decide) rfl ?_
      refine g_iload 44 C 0 dX1_heightAt_42 rfl rfl ?_
      refine g_iaload 45 C 1 dX1_heightAt_44 rfl rfl (by omega) ?_
      refine g_goto 56 C dX1_heightAt_45 (by decide) ?_
      exact g_iret C hr dX1_heightAt_56 ⟨g_ri (by unfold htI; (repeat' split) <;> first | rfl | omega), rfl⟩
  · intro h4
    refine g_iload_n 8 C 2 dX1_heightAt_7 rfl rfl ?_
    refine g_goto 14 C dX1_heightAt_8 (by decide) ?_
    refine g_iadd 15 C dX1_heightAt_14 rfl ?_
    refine g_istore (lv' := [(4, _), (0, _), (1, _), (2, _), (3, _)]) 17 C dX1_heightAt_15 rfl (by decide) rfl ?_
    refine g_iload 19 C 0 dX1_heightAt_17 rfl rfl ?_
    refine g_if_lt 32 22 C dX1_heightAt_19 (by decide) rfl (by omega) (fun h19 => absurd h19 (by omega)) ?_
    intro h19
    refine g_iload 24 C 0 dX1_heightAt_22 rfl rfl ?_
    refine g_aload_n 25 C 1 dX1_heightAt_24 rfl rfl ?_
    refine g_get 28 C 0 0 1 iX1_heightAt_X1 lX1_heightAt_9 dX1_heightAt_25 rfl rfl rfl (by decide) rfl ?_
    refine g_alenI 29 C 1 dX1_heightAt_28 rfl rfl ?_
    refine g_icmp_lt 34 32 C dX1_heightAt_29 (by decide) rfl (by omega) ?_ (fun h29 => absurd h29 (by omega))
    intro h29
    refine g_iload_n 35 C 4 dX1_heightAt_34 rfl rfl ?_
    refine g_if_ne 48 38 C dX1_heightAt_35 (by decide) rfl (by omega) ?_ ?_
    · intro h35
      refine g_aload_n 49 C 1 dX1_heightAt_48 rfl rfl ?_
      refine g_get 52 C 0 0 1 iX1_heightAt_X1 lX1_heightAt_9 dX1_heightAt_49 rfl rfl rfl (by decide) rfl ?_
      refine g_iload 54 C 0 dX1_heightAt_52 rfl rfl ?_
      refine g_iaload 55 C 1 dX1_heightAt_54 rfl rfl (by omega) ?_
      refine g_ineg 56 C dX1_heightAt_55 rfl ?_
      exact g_iret C hr dX1_heightAt_56 ⟨g_ri (by unfold htI; (repeat' split) <;> first | rfl | omega), rfl⟩
    · intro h35
      refine g_aload_n 39 C 1 dX1_heightAt_38 rfl rfl ?_
      refine g_get 42 C 0 0 1 iX1_heightAt_X1 lX1_heightAt_9 dX1_heightAt_39 rfl rfl rfl (by decide) rfl ?_
      refine g_iload 44 C 0 dX1_heightAt_42 rfl rfl ?_
      refine g_iaload 45 C 1 dX1_heightAt_44 rfl rfl (by omega) ?_
      refine g_goto 56 C dX1_heightAt_45 (by decide) ?_
      exact g_iret C hr dX1_heightAt_56 ⟨g_ri (by unfold htI; (repeat' split) <;> first | rfl | omega), rfl⟩
theorem cdX1_heightAt : yX1_heightAt.cls = RX1 ∧ yX1_heightAt.cls ≠ "java/lang/invoke/MethodHandle" ∧ yX1_heightAt.cls ≠ "java/lang/invoke/VarHandle" ∧ (parseMethodDescriptor yX1_heightAt.desc).map (fun d => d.parameters.length) = some 3 := by decide +kernel
set_option maxHeartbeats 4000000 in
set_option maxRecDepth 100000 in
theorem k_X1_edgeHeight (E : gE) (l : Launch) {a_P a_hs a_se : Nat} {W h p e i : Int} {hs se : Int → Int} (hB : 1 ≤ W ∧ W ≤ 5 ∧ 1 ≤ h ∧ h ≤ 5) (hp : 0 ≤ p ∧ p < W * h) (he : 0 ≤ e ∧ e < 4) (hse : ∀ p e : Int, 0 ≤ p ∧ p < W * h → 0 ≤ e ∧ e < 4 → se (p * 4 + e) = sdI W h p e) (hf : sdI W h p e ≠ -9) (hi : 0 ≤ i ∧ i < 5) : gFun E l yX1_edgeHeight wsX1_edgeHeight { frames := 1, cells := 0, slots := 0, locals := 24 } [.ref a_P, .int (iI p), .int (iI e), .int (iI i)] [(a_P, .inr (1, [.ref a_hs, .ref a_se, .int (iI W), .int (iI h)])), (a_hs, aI E 200 hs), (a_se, aI E 100 se)] (.int (iI (ehI W h hs p e i))) := by
  refine g_start (cc := cX1_edgeHeight) (maxL := 5) (ret := (some .int)) (by decide) rfl (Nat.le_of_ble_eq_true rfl) ?_
  intro p_ e_ s_ m_ args_ below_ meth_ c_ A_ C hr hnm
  have hn := nsd_b hB
  have hb := sdI_b hB hp he
  refine g_iload_n 1 C 2 dX1_edgeHeight_0 rfl rfl ?_
  refine g_iconst 2 C dX1_edgeHeight_1 rfl ?_
  refine g_icmp_eq 10 5 C dX1_edgeHeight_2 (by decide) rfl (by omega) ?_ ?_
  · intro h2
    refine g_iconst 11 C dX1_edgeHeight_10 rfl ?_
    refine g_goto 15 C dX1_edgeHeight_11 (by decide) ?_
    refine g_istore (lv' := [(4, _), (0, _), (1, _), (2, _), (3, _)]) 17 C dX1_edgeHeight_15 rfl (by decide) rfl ?_
    refine g_aload_n 18 C 1 dX1_edgeHeight_17 rfl rfl ?_
    refine g_aload_n 19 C 1 dX1_edgeHeight_18 rfl rfl ?_
    refine g_iload_n 20 C 2 dX1_edgeHeight_19 rfl rfl ?_
    refine g_iload_n 21 C 3 dX1_edgeHeight_20 rfl rfl ?_
    refine g_callVF 24 C [0, 2] dX1_edgeHeight_21 rfl (k_X1_sideAt E l  (by first | assumption | omega) (by first | assumption | omega) (by first | assumption | omega) (by first | assumption | omega)) (cwV 2 C.2.2.2.2.1 gX1_edgeHeight_X1_sideAt rfl rfl rfl cdX1_sideAt ⟨Nat.le_of_ble_eq_true rfl, Nat.le_of_ble_eq_true rfl⟩) rfl rfl rfl rfl (Nat.le_of_ble_eq_true rfl) 0 1 rfl rfl rfl ⟨Nat.le_of_ble_eq_true rfl, Nat.le_of_ble_eq_true rfl⟩ ?_
    refine g_iload_n 25 C 4 dX1_edgeHeight_24 rfl rfl ?_
    refine g_iload 27 C 0 dX1_edgeHeight_25 rfl rfl ?_
    refine g_callVF 30 C [0, 1] dX1_edgeHeight_27 rfl (k_X1_heightAt E l  (by first | assumption | omega) (by first | assumption | omega) (by first | assumption | omega)) (cwV 3 C.2.2.2.2.1 gX1_edgeHeight_X1_heightAt rfl rfl rfl cdX1_heightAt ⟨Nat.le_of_ble_eq_true rfl, Nat.le_of_ble_eq_true rfl⟩) rfl rfl rfl rfl (Nat.le_of_ble_eq_true rfl) 0 1 rfl rfl rfl ⟨Nat.le_of_ble_eq_true rfl, Nat.le_of_ble_eq_true rfl⟩ ?_
    exact g_iret C hr dX1_edgeHeight_30 ⟨g_ri (by unfold ehI wyI; split <;> first | rfl | omega), rfl⟩
  · intro h2
    refine g_iload_n 6 C 2 dX1_edgeHeight_5 rfl rfl ?_
    refine g_iconst 7 C dX1_edgeHeight_6 rfl ?_
    refine g_icmp_ne 14 10 C dX1_edgeHeight_7 (by decide) rfl (by omega) ?_ ?_
    · intro h7
      refine g_iconst 15 C dX1_edgeHeight_14 rfl ?_
      refine g_istore (lv' := [(4, _), (0, _), (1, _), (2, _), (3, _)]) 17 C dX1_edgeHeight_15 rfl (by decide) rfl ?_
      refine g_aload_n 18 C 1 dX1_edgeHeight_17 rfl rfl ?_
      refine g_aload_n 19 C 1 dX1_edgeHeight_18 rfl rfl ?_
      refine g_iload_n 20 C 2 dX1_edgeHeight_19 rfl rfl ?_
      refine g_iload_n 21 C 3 dX1_edgeHeight_20 rfl rfl ?_
      refine g_callVF 24 C [0, 2] dX1_edgeHeight_21 rfl (k_X1_sideAt E l  (by first | assumption | omega) (by first | assumption | omega) (by first | assumption | omega) (by first | assumption | omega)) (cwV 2 C.2.2.2.2.1 gX1_edgeHeight_X1_sideAt rfl rfl rfl cdX1_sideAt ⟨Nat.le_of_ble_eq_true rfl, Nat.le_of_ble_eq_true rfl⟩) rfl rfl rfl rfl (Nat.le_of_ble_eq_true rfl) 0 1 rfl rfl rfl ⟨Nat.le_of_ble_eq_true rfl, Nat.le_of_ble_eq_true rfl⟩ ?_
      refine g_iload_n 25 C 4 dX1_edgeHeight_24 rfl rfl ?_
      refine g_iload 27 C 0 dX1_edgeHeight_25 rfl rfl ?_
      refine g_callVF 30 C [0, 1] dX1_edgeHeight_27 rfl (k_X1_heightAt E l  (by first | assumption | omega) (by first | assumption | omega) (by first | assumption | omega)) (cwV 3 C.2.2.2.2.1 gX1_edgeHeight_X1_heightAt rfl rfl rfl cdX1_heightAt ⟨Nat.le_of_ble_eq_true rfl, Nat.le_of_ble_eq_true rfl⟩) rfl rfl rfl rfl (Nat.le_of_ble_eq_true rfl) 0 1 rfl rfl rfl ⟨Nat.le_of_ble_eq_true rfl, Nat.le_of_ble_eq_true rfl⟩ ?_
      exact g_iret C hr dX1_edgeHeight_30 ⟨g_ri (by unfold ehI wyI; split <;> first | rfl | omega), rfl⟩
    · intro h7
      refine g_iconst 11 C dX1_edgeHeight_10 rfl ?_
      refine g_goto 15 C dX1_edgeHeight_11 (by decide) ?_
      refine g_istore (lv' := [(4, _), (0, _), (1, _), (2, _), (3, _)]) 17 C dX1_edgeHeight_15 rfl (by decide) rfl ?_
      refine g_aload_n 18 C 1 dX1_edgeHeight_17 rfl rfl ?_
      refine g_aload_n 19 C 1 dX1_edgeHeight_18 rfl rfl ?_
      refine g_iload_n 20 C 2 dX1_edgeHeight_19 rfl rfl ?_
      refine g_iload_n 21 C 3 dX1_edgeHeight_20 rfl rfl ?_
      refine g_callVF 24 C [0, 2] dX1_edgeHeight_21 rfl (k_X1_sideAt E l  (by first | assumption | omega) (by first | assumption | omega) (by first | assumption | omega) (by first | assumption | omega)) (cwV 2 C.2.2.2.2.1 gX1_edgeHeight_X1_sideAt rfl rfl rfl cdX1_sideAt ⟨Nat.le_of_ble_eq_true rfl, Nat.le_of_ble_eq_true rfl⟩) rfl rfl rfl rfl (Nat.le_of_ble_eq_true rfl) 0 1 rfl rfl rfl ⟨Nat.le_of_ble_eq_true rfl, Nat.le_of_ble_eq_true rfl⟩ ?_
      refine g_iload_n 25 C 4 dX1_edgeHeight_24 rfl rfl ?_
      refine g_iload 27 C 0 dX1_edgeHeight_25 rfl rfl ?_
      refine g_callVF 30 C [0, 1] dX1_edgeHeight_27 rfl (k_X1_heightAt E l  (by first | assumption | omega) (by first | assumption | omega) (by first | assumption | omega)) (cwV 3 C.2.2.2.2.1 gX1_edgeHeight_X1_heightAt rfl rfl rfl cdX1_heightAt ⟨Nat.le_of_ble_eq_true rfl, Nat.le_of_ble_eq_true rfl⟩) rfl rfl rfl rfl (Nat.le_of_ble_eq_true rfl) 0 1 rfl rfl rfl ⟨Nat.le_of_ble_eq_true rfl, Nat.le_of_ble_eq_true rfl⟩ ?_
      exact g_iret C hr dX1_edgeHeight_30 ⟨g_ri (by unfold ehI wyI; split <;> first | rfl | omega), rfl⟩
theorem lX1_farness_58 : ∀ w ∈ ([Cond.methodLink RX1 58 Lib.Math.abs.name, Cond.static Lib.Math.abs.name, Cond.initialized "java/lang/Math", Cond.code Lib.Math.abs.name Lib.Math.abs.code 1 (some .int)] : List Cond), w ∈ wsX1_farness := by decide +kernel
theorem cdX1_edgeHeight : yX1_edgeHeight.cls = RX1 ∧ yX1_edgeHeight.cls ≠ "java/lang/invoke/MethodHandle" ∧ yX1_edgeHeight.cls ≠ "java/lang/invoke/VarHandle" ∧ (parseMethodDescriptor yX1_edgeHeight.desc).map (fun d => d.parameters.length) = some 3 := by decide +kernel
set_option maxHeartbeats 4000000 in
set_option maxRecDepth 100000 in
theorem k_X1_farness (E : gE) (l : Launch) {a_P a_hs a_se : Nat} {W h p e q f : Int} {hs se : Int → Int} (hB : 1 ≤ W ∧ W ≤ 5 ∧ 1 ≤ h ∧ h ≤ 5) (hp : 0 ≤ p ∧ p < W * h) (he : 0 ≤ e ∧ e < 4) (hse : ∀ p e : Int, 0 ≤ p ∧ p < W * h → 0 ≤ e ∧ e < 4 → se (p * 4 + e) = sdI W h p e) (hf : sdI W h p e ≠ -9) (hq : 0 ≤ q ∧ q < W * h) (hf4 : 0 ≤ f ∧ f < 4) (hg : sdI W h q f ≠ -9) (hh : hB9 hs) : gFun E l yX1_farness wsX1_farness { frames := 2, cells := 0, slots := 0, locals := 48 } [.ref a_P, .int (iI p), .int (iI e), .int (iI q), .int (iI f)] [(a_P, .inr (1, [.ref a_hs, .ref a_se, .int (iI W), .int (iI h)])), (a_hs, aI E 200 hs), (a_se, aI E 100 se)] (.int (iI (frI W h hs p e q f))) := by
  refine g_start (cc := cX1_farness) (maxL := 7) (ret := (some .int)) (by decide) rfl (Nat.le_of_ble_eq_true rfl) ?_
  intro p_ e_ s_ m_ args_ below_ meth_ c_ A_ C hr hnm
  have hn := nsd_b hB
  refine g_iconst 1 C dX1_farness_0 rfl ?_
  refine g_istore (lv' := [(5, _), (0, _), (1, _), (2, _), (3, _), (4, _)]) 3 C dX1_farness_1 rfl (by decide) rfl ?_
  refine g_iconst 4 C dX1_farness_3 rfl ?_
  refine g_istore (lv' := [(6, _), (5, _), (0, _), (1, _), (2, _), (3, _), (4, _)]) 6 C dX1_farness_4 rfl (by decide) rfl ?_
  refine g_iload 8 C 0 dX1_farness_6 rfl rfl ?_
  refine g_iconst 9 C dX1_farness_8 rfl ?_
  refine g_icmp_ge 46 12 C dX1_farness_9 (by decide) rfl (by omega) (fun q => absurd q (by omega)) ?_
  intro _
  refine g_iload 14 C 1 dX1_farness_12 rfl rfl ?_
  refine g_aload_n 15 C 2 dX1_farness_14 rfl rfl ?_
  refine g_iload_n 16 C 3 dX1_farness_15 rfl rfl ?_
  refine g_iload_n 17 C 4 dX1_farness_16 rfl rfl ?_
  refine g_iload 19 C 0 dX1_farness_17 rfl rfl ?_
  refine g_callVF 22 C [0, 1, 2] dX1_farness_19 rfl (k_X1_edgeHeight E l  (by first | assumption | omega) (by first | assumption | omega) (by first | assumption | omega) (by first | assumption | omega) (by first | assumption | omega) (by first | assumption | omega)) (cwV 3 C.2.2.2.2.1 gX1_farness_X1_edgeHeight rfl rfl rfl cdX1_edgeHeight ⟨Nat.le_of_ble_eq_true rfl, Nat.le_of_ble_eq_true rfl⟩) rfl rfl rfl rfl (Nat.le_of_ble_eq_true rfl) 0 1 rfl rfl rfl ⟨Nat.le_of_ble_eq_true rfl, Nat.le_of_ble_eq_true rfl⟩ ?_
  refine g_aload_n 23 C 2 dX1_farness_22 rfl rfl ?_
  refine g_iload_n 24 C 5 dX1_farness_23 rfl rfl ?_
  refine g_iload 26 C 6 dX1_farness_24 rfl rfl ?_
  refine g_iconst 27 C dX1_farness_26 rfl ?_
  refine g_iload 29 C 0 dX1_farness_27 rfl rfl ?_
  refine g_isub 30 C dX1_farness_29 rfl ?_
  refine g_callVF 33 C [0, 1, 2] dX1_farness_30 rfl (k_X1_edgeHeight E l  (by first | assumption | omega) (by first | assumption | omega) (by first | assumption | omega) (by first | assumption | omega) (by first | assumption | omega) (by first | assumption | omega)) (cwV 3 C.2.2.2.2.1 gX1_farness_X1_edgeHeight rfl rfl rfl cdX1_edgeHeight ⟨Nat.le_of_ble_eq_true rfl, Nat.le_of_ble_eq_true rfl⟩) rfl rfl rfl rfl (Nat.le_of_ble_eq_true rfl) 0 1 rfl rfl rfl ⟨Nat.le_of_ble_eq_true rfl, Nat.le_of_ble_eq_true rfl⟩ ?_
  refine g_iadd 34 C dX1_farness_33 rfl ?_
  have ha := ehI_b (W := W) (h := h) hh p e 0
  have hb := ehI_b (W := W) (h := h) hh q f (4 - 0)
  refine g_mabs 37 C dX1_farness_34 rfl lX1_farness_58 (Nat.le_of_ble_eq_true rfl) (Nat.le_of_ble_eq_true rfl) (Nat.le_of_ble_eq_true rfl) (Nat.le_of_ble_eq_true rfl) (by omega) ?_
  refine g_iadd 38 C dX1_farness_37 rfl ?_
  refine g_istore (lv' := [(5, _), (6, _), (0, _), (1, _), (2, _), (3, _), (4, _)]) 40 C dX1_farness_38 rfl (by decide) rfl ?_
  refine g_iinc (lv' := [(6, .int (iI 1)), (5, _), (0, _), (1, _), (2, _), (3, _), (4, _)]) 43 C 1 dX1_farness_40 rfl rfl (by decide) rfl ?_
  refine g_goto 6 C dX1_farness_43 (by decide) ?_
  refine g_iload 8 C 0 dX1_farness_6 rfl rfl ?_
  refine g_iconst 9 C dX1_farness_8 rfl ?_
  refine g_icmp_ge 46 12 C dX1_farness_9 (by decide) rfl (by omega) (fun q => absurd q (by omega)) ?_
  intro _
  refine g_iload 14 C 1 dX1_farness_12 rfl rfl ?_
  refine g_aload_n 15 C 2 dX1_farness_14 rfl rfl ?_
  refine g_iload_n 16 C 3 dX1_farness_15 rfl rfl ?_
  refine g_iload_n 17 C 4 dX1_farness_16 rfl rfl ?_
  refine g_iload 19 C 0 dX1_farness_17 rfl rfl ?_
  refine g_callVF 22 C [0, 1, 2] dX1_farness_19 rfl (k_X1_edgeHeight E l  (by first | assumption | omega) (by first | assumption | omega) (by first | assumption | omega) (by first | assumption | omega) (by first | assumption | omega) (by first | assumption | omega)) (cwV 3 C.2.2.2.2.1 gX1_farness_X1_edgeHeight rfl rfl rfl cdX1_edgeHeight ⟨Nat.le_of_ble_eq_true rfl, Nat.le_of_ble_eq_true rfl⟩) rfl rfl rfl rfl (Nat.le_of_ble_eq_true rfl) 0 1 rfl rfl rfl ⟨Nat.le_of_ble_eq_true rfl, Nat.le_of_ble_eq_true rfl⟩ ?_
  refine g_aload_n 23 C 2 dX1_farness_22 rfl rfl ?_
  refine g_iload_n 24 C 5 dX1_farness_23 rfl rfl ?_
  refine g_iload 26 C 6 dX1_farness_24 rfl rfl ?_
  refine g_iconst 27 C dX1_farness_26 rfl ?_
  refine g_iload 29 C 0 dX1_farness_27 rfl rfl ?_
  refine g_isub 30 C dX1_farness_29 rfl ?_
  refine g_callVF 33 C [0, 1, 2] dX1_farness_30 rfl (k_X1_edgeHeight E l  (by first | assumption | omega) (by first | assumption | omega) (by first | assumption | omega) (by first | assumption | omega) (by first | assumption | omega) (by first | assumption | omega)) (cwV 3 C.2.2.2.2.1 gX1_farness_X1_edgeHeight rfl rfl rfl cdX1_edgeHeight ⟨Nat.le_of_ble_eq_true rfl, Nat.le_of_ble_eq_true rfl⟩) rfl rfl rfl rfl (Nat.le_of_ble_eq_true rfl) 0 1 rfl rfl rfl ⟨Nat.le_of_ble_eq_true rfl, Nat.le_of_ble_eq_true rfl⟩ ?_
  refine g_iadd 34 C dX1_farness_33 rfl ?_
  have ha := ehI_b (W := W) (h := h) hh p e 1
  have hb := ehI_b (W := W) (h := h) hh q f (4 - 1)
  refine g_mabs 37 C dX1_farness_34 rfl lX1_farness_58 (Nat.le_of_ble_eq_true rfl) (Nat.le_of_ble_eq_true rfl) (Nat.le_of_ble_eq_true rfl) (Nat.le_of_ble_eq_true rfl) (by omega) ?_
  refine g_iadd 38 C dX1_farness_37 rfl ?_
  refine g_istore (lv' := [(5, _), (6, _), (0, _), (1, _), (2, _), (3, _), (4, _)]) 40 C dX1_farness_38 rfl (by decide) rfl ?_
  refine g_iinc (lv' := [(6, .int (iI 2)), (5, _), (0, _), (1, _), (2, _), (3, _), (4, _)]) 43 C 1 dX1_farness_40 rfl rfl (by decide) rfl ?_
  refine g_goto 6 C dX1_farness_43 (by decide) ?_
  refine g_iload 8 C 0 dX1_farness_6 rfl rfl ?_
  refine g_iconst 9 C dX1_farness_8 rfl ?_
  refine g_icmp_ge 46 12 C dX1_farness_9 (by decide) rfl (by omega) (fun q => absurd q (by omega)) ?_
  intro _
  refine g_iload 14 C 1 dX1_farness_12 rfl rfl ?_
  refine g_aload_n 15 C 2 dX1_farness_14 rfl rfl ?_
  refine g_iload_n 16 C 3 dX1_farness_15 rfl rfl ?_
  refine g_iload_n 17 C 4 dX1_farness_16 rfl rfl ?_
  refine g_iload 19 C 0 dX1_farness_17 rfl rfl ?_
  refine g_callVF 22 C [0, 1, 2] dX1_farness_19 rfl (k_X1_edgeHeight E l  (by first | assumption | omega) (by first | assumption | omega) (by first | assumption | omega) (by first | assumption | omega) (by first | assumption | omega) (by first | assumption | omega)) (cwV 3 C.2.2.2.2.1 gX1_farness_X1_edgeHeight rfl rfl rfl cdX1_edgeHeight ⟨Nat.le_of_ble_eq_true rfl, Nat.le_of_ble_eq_true rfl⟩) rfl rfl rfl rfl (Nat.le_of_ble_eq_true rfl) 0 1 rfl rfl rfl ⟨Nat.le_of_ble_eq_true rfl, Nat.le_of_ble_eq_true rfl⟩ ?_
  refine g_aload_n 23 C 2 dX1_farness_22 rfl rfl ?_
  refine g_iload_n 24 C 5 dX1_farness_23 rfl rfl ?_
  refine g_iload 26 C 6 dX1_farness_24 rfl rfl ?_
  refine g_iconst 27 C dX1_farness_26 rfl ?_
  refine g_iload 29 C 0 dX1_farness_27 rfl rfl ?_
  refine g_isub 30 C dX1_farness_29 rfl ?_
  refine g_callVF 33 C [0, 1, 2] dX1_farness_30 rfl (k_X1_edgeHeight E l  (by first | assumption | omega) (by first | assumption | omega) (by first | assumption | omega) (by first | assumption | omega) (by first | assumption | omega) (by first | assumption | omega)) (cwV 3 C.2.2.2.2.1 gX1_farness_X1_edgeHeight rfl rfl rfl cdX1_edgeHeight ⟨Nat.le_of_ble_eq_true rfl, Nat.le_of_ble_eq_true rfl⟩) rfl rfl rfl rfl (Nat.le_of_ble_eq_true rfl) 0 1 rfl rfl rfl ⟨Nat.le_of_ble_eq_true rfl, Nat.le_of_ble_eq_true rfl⟩ ?_
  refine g_iadd 34 C dX1_farness_33 rfl ?_
  have ha := ehI_b (W := W) (h := h) hh p e 2
  have hb := ehI_b (W := W) (h := h) hh q f (4 - 2)
  refine g_mabs 37 C dX1_farness_34 rfl lX1_farness_58 (Nat.le_of_ble_eq_true rfl) (Nat.le_of_ble_eq_true rfl) (Nat.le_of_ble_eq_true rfl) (Nat.le_of_ble_eq_true rfl) (by omega) ?_
  refine g_iadd 38 C dX1_farness_37 rfl ?_
  refine g_istore (lv' := [(5, _), (6, _), (0, _), (1, _), (2, _), (3, _), (4, _)]) 40 C dX1_farness_38 rfl (by decide) rfl ?_
  refine g_iinc (lv' := [(6, .int (iI 3)), (5, _), (0, _), (1, _), (2, _), (3, _), (4, _)]) 43 C 1 dX1_farness_40 rfl rfl (by decide) rfl ?_
  refine g_goto 6 C dX1_farness_43 (by decide) ?_
  refine g_iload 8 C 0 dX1_farness_6 rfl rfl ?_
  refine g_iconst 9 C dX1_farness_8 rfl ?_
  refine g_icmp_ge 46 12 C dX1_farness_9 (by decide) rfl (by omega) (fun q => absurd q (by omega)) ?_
  intro _
  refine g_iload 14 C 1 dX1_farness_12 rfl rfl ?_
  refine g_aload_n 15 C 2 dX1_farness_14 rfl rfl ?_
  refine g_iload_n 16 C 3 dX1_farness_15 rfl rfl ?_
  refine g_iload_n 17 C 4 dX1_farness_16 rfl rfl ?_
  refine g_iload 19 C 0 dX1_farness_17 rfl rfl ?_
  refine g_callVF 22 C [0, 1, 2] dX1_farness_19 rfl (k_X1_edgeHeight E l  (by first | assumption | omega) (by first | assumption | omega) (by first | assumption | omega) (by first | assumption | omega) (by first | assumption | omega) (by first | assumption | omega)) (cwV 3 C.2.2.2.2.1 gX1_farness_X1_edgeHeight rfl rfl rfl cdX1_edgeHeight ⟨Nat.le_of_ble_eq_true rfl, Nat.le_of_ble_eq_true rfl⟩) rfl rfl rfl rfl (Nat.le_of_ble_eq_true rfl) 0 1 rfl rfl rfl ⟨Nat.le_of_ble_eq_true rfl, Nat.le_of_ble_eq_true rfl⟩ ?_
  refine g_aload_n 23 C 2 dX1_farness_22 rfl rfl ?_
  refine g_iload_n 24 C 5 dX1_farness_23 rfl rfl ?_
  refine g_iload 26 C 6 dX1_farness_24 rfl rfl ?_
  refine g_iconst 27 C dX1_farness_26 rfl ?_
  refine g_iload 29 C 0 dX1_farness_27 rfl rfl ?_
  refine g_isub 30 C dX1_farness_29 rfl ?_
  refine g_callVF 33 C [0, 1, 2] dX1_farness_30 rfl (k_X1_edgeHeight E l  (by first | assumption | omega) (by first | assumption | omega) (by first | assumption | omega) (by first | assumption | omega) (by first | assumption | omega) (by first | assumption | omega)) (cwV 3 C.2.2.2.2.1 gX1_farness_X1_edgeHeight rfl rfl rfl cdX1_edgeHeight ⟨Nat.le_of_ble_eq_true rfl, Nat.le_of_ble_eq_true rfl⟩) rfl rfl rfl rfl (Nat.le_of_ble_eq_true rfl) 0 1 rfl rfl rfl ⟨Nat.le_of_ble_eq_true rfl, Nat.le_of_ble_eq_true rfl⟩ ?_
  refine g_iadd 34 C dX1_farness_33 rfl ?_
  have ha := ehI_b (W := W) (h := h) hh p e 3
  have hb := ehI_b (W := W) (h := h) hh q f (4 - 3)
  refine g_mabs 37 C dX1_farness_34 rfl lX1_farness_58 (Nat.le_of_ble_eq_true rfl) (Nat.le_of_ble_eq_true rfl) (Nat.le_of_ble_eq_true rfl) (Nat.le_of_ble_eq_true rfl) (by omega) ?_
  refine g_iadd 38 C dX1_farness_37 rfl ?_
  refine g_istore (lv' := [(5, _), (6, _), (0, _), (1, _), (2, _), (3, _), (4, _)]) 40 C dX1_farness_38 rfl (by decide) rfl ?_
  refine g_iinc (lv' := [(6, .int (iI 4)), (5, _), (0, _), (1, _), (2, _), (3, _), (4, _)]) 43 C 1 dX1_farness_40 rfl rfl (by decide) rfl ?_
  refine g_goto 6 C dX1_farness_43 (by decide) ?_
  refine g_iload 8 C 0 dX1_farness_6 rfl rfl ?_
  refine g_iconst 9 C dX1_farness_8 rfl ?_
  refine g_icmp_ge 46 12 C dX1_farness_9 (by decide) rfl (by omega) (fun q => absurd q (by omega)) ?_
  intro _
  refine g_iload 14 C 1 dX1_farness_12 rfl rfl ?_
  refine g_aload_n 15 C 2 dX1_farness_14 rfl rfl ?_
  refine g_iload_n 16 C 3 dX1_farness_15 rfl rfl ?_
  refine g_iload_n 17 C 4 dX1_farness_16 rfl rfl ?_
  refine g_iload 19 C 0 dX1_farness_17 rfl rfl ?_
  refine g_callVF 22 C [0, 1, 2] dX1_farness_19 rfl (k_X1_edgeHeight E l  (by first | assumption | omega) (by first | assumption | omega) (by first | assumption | omega) (by first | assumption | omega) (by first | assumption | omega) (by first | assumption | omega)) (cwV 3 C.2.2.2.2.1 gX1_farness_X1_edgeHeight rfl rfl rfl cdX1_edgeHeight ⟨Nat.le_of_ble_eq_true rfl, Nat.le_of_ble_eq_true rfl⟩) rfl rfl rfl rfl (Nat.le_of_ble_eq_true rfl) 0 1 rfl rfl rfl ⟨Nat.le_of_ble_eq_true rfl, Nat.le_of_ble_eq_true rfl⟩ ?_
  refine g_aload_n 23 C 2 dX1_farness_22 rfl rfl ?_
  refine g_iload_n 24 C 5 dX1_farness_23 rfl rfl ?_
  refine g_iload 26 C 6 dX1_farness_24 rfl rfl ?_
  refine g_iconst 27 C dX1_farness_26 rfl ?_
  refine g_iload 29 C 0 dX1_farness_27 rfl rfl ?_
  refine g_isub 30 C dX1_farness_29 rfl ?_
  refine g_callVF 33 C [0, 1, 2] dX1_farness_30 rfl (k_X1_edgeHeight E l  (by first | assumption | omega) (by first | assumption | omega) (by first | assumption | omega) (by first | assumption | omega) (by first | assumption | omega) (by first | assumption | omega)) (cwV 3 C.2.2.2.2.1 gX1_farness_X1_edgeHeight rfl rfl rfl cdX1_edgeHeight ⟨Nat.le_of_ble_eq_true rfl, Nat.le_of_ble_eq_true rfl⟩) rfl rfl rfl rfl (Nat.le_of_ble_eq_true rfl) 0 1 rfl rfl rfl ⟨Nat.le_of_ble_eq_true rfl, Nat.le_of_ble_eq_true rfl⟩ ?_
  refine g_iadd 34 C dX1_farness_33 rfl ?_
  have ha := ehI_b (W := W) (h := h) hh p e 4
  have hb := ehI_b (W := W) (h := h) hh q f (4 - 4)
  refine g_mabs 37 C dX1_farness_34 rfl lX1_farness_58 (Nat.le_of_ble_eq_true rfl) (Nat.le_of_ble_eq_true rfl) (Nat.le_of_ble_eq_true rfl) (Nat.le_of_ble_eq_true rfl) (by omega) ?_
  refine g_iadd 38 C dX1_farness_37 rfl ?_
  refine g_istore (lv' := [(5, _), (6, _), (0, _), (1, _), (2, _), (3, _), (4, _)]) 40 C dX1_farness_38 rfl (by decide) rfl ?_
  refine g_iinc (lv' := [(6, .int (iI 5)), (5, _), (0, _), (1, _), (2, _), (3, _), (4, _)]) 43 C 1 dX1_farness_40 rfl rfl (by decide) rfl ?_
  refine g_goto 6 C dX1_farness_43 (by decide) ?_
  refine g_iload 8 C 0 dX1_farness_6 rfl rfl ?_
  refine g_iconst 9 C dX1_farness_8 rfl ?_
  refine g_icmp_ge 46 12 C dX1_farness_9 (by decide) rfl (by omega) ?_ (fun q => absurd q (by omega))
  intro _
  refine g_iload 48 C 1 dX1_farness_46 rfl rfl ?_
  exact g_iret C hr dX1_farness_48 ⟨g_ri (rfl), rfl⟩
