theorem lk_s {f g : Int → Int} {s i : Int} (hi : 0 ≤ i) (hs : s = 1 ↔ ∀ j, 0 ≤ j → j < i → f j = g j) : ((if s = 1 ∧ f i = g i then (1 : Int) else 0) = 1) ↔ ∀ j, 0 ≤ j → j < i + 1 → f j = g j := by
  by_cases q : s = 1 ∧ f i = g i
  · rw [if_pos q]
    refine ⟨fun _ j h1 h2 => ?_, fun _ => rfl⟩
    by_cases e : j = i
    · rw [e]; exact q.2
    · exact hs.mp q.1 j h1 (by omega)
  · rw [if_neg q]
    refine ⟨fun z => by omega, fun z => absurd ⟨hs.mpr (fun j h1 h2 => z j h1 (by omega)), z i hi (by omega)⟩ q⟩
set_option maxHeartbeats 4000000 in
set_option maxRecDepth 100000 in
theorem k_X6_in (E : gE) (l : Launch) {v lo u : Int} (hv : -9223372036854775808 ≤ v ∧ v < 9223372036854775808) (hl : -9223372036854775808 ≤ lo ∧ lo < 9223372036854775808) (hu : -9223372036854775808 ≤ u ∧ u < 9223372036854775808) : gFun E l yX6_in wsX6_in { frames := 0, cells := 0, slots := 0, locals := 0 } [.long (lI v), .long (lI lo), .long (lI u)] [] (.int (iI (if lo ≤ v ∧ v ≤ u then 1 else 0))) := by
  refine g_start (cc := cX6_in) (maxL := 6) (ret := (some .boolean)) (by decide) rfl (Nat.le_of_ble_eq_true rfl) ?_
  intro p_ e_ s_ m_ args_ below_ meth_ c_ A_ C hr hnm
  refine g_lload_n 1 C 0 dX6_in_0 rfl rfl ?_
  refine g_lload_n 2 C 1 dX6_in_1 rfl rfl ?_
  refine g_lc_lt 3 17 6 C dX6_in_2 rfl dX6_in_3 (by decide) rfl (by omega) ?_ ?_
  · intro h2
    refine g_iconst 18 C dX6_in_17 rfl ?_
    exact g_zret C hr dX6_in_18 (by first | rfl | decide | (split <;> rfl)) ⟨g_ri (by first | rfl | omega | exact (if_pos (by omega)).symm | exact (if_neg (by omega)).symm), rfl⟩
  · intro h2
    refine g_lload_n 7 C 0 dX6_in_6 rfl rfl ?_
    refine g_lload 9 C 2 dX6_in_7 rfl rfl ?_
    refine g_lc_gt 10 17 13 C dX6_in_9 rfl dX6_in_10 (by decide) rfl (by omega) ?_ ?_
    · intro h9
      refine g_iconst 18 C dX6_in_17 rfl ?_
      exact g_zret C hr dX6_in_18 (by first | rfl | decide | (split <;> rfl)) ⟨g_ri (by first | rfl | omega | exact (if_pos (by omega)).symm | exact (if_neg (by omega)).symm), rfl⟩
    · intro h9
      refine g_iconst 14 C dX6_in_13 rfl ?_
      refine g_goto 18 C dX6_in_14 (by decide) ?_
      exact g_zret C hr dX6_in_18 (by first | rfl | decide | (split <;> rfl)) ⟨g_ri (by first | rfl | omega | exact (if_pos (by omega)).symm | exact (if_neg (by omega)).symm), rfl⟩
theorem lX6_lost_54 : Cond.constantLong RX6 54 (-9223372036854775808) ∈ wsX6_lost := by decide +kernel
set_option maxHeartbeats 4000000 in
set_option maxRecDepth 100000 in
theorem k_X6_lost (E : gE) (l : Launch)   : gFun E l yX6_lost wsX6_lost { frames := 0, cells := 0, slots := 0, locals := 0 } [] [] (.long (lI (-9223372036854775808))) := by
  refine g_start (cc := cX6_lost) (maxL := 0) (ret := (some .long)) (by decide) rfl (Nat.le_of_ble_eq_true rfl) ?_
  intro p_ e_ s_ m_ args_ below_ meth_ c_ A_ C hr hnm
  refine g_ldc2 3 C (-9223372036854775808) dX6_lost_0 rfl lX6_lost_54 (by decide) ?_
  exact g_lret C hr dX6_lost_3 ⟨g_rl (by first | rfl | omega | exact (if_pos (by omega)).symm | exact (if_neg (by omega)).symm), rfl⟩
theorem lX6_refused_56 : Cond.fieldLink RX6 56 (TX6 0).1 (TX6 0).2.1 (TX6 0).2.2.1 ∈ wsX6_refused := by decide +kernel
theorem iX6_refused_X6 : ∀ w ∈ u_ws RX6 TX6 23, w ∈ wsX6_refused := by decide +kernel
set_option maxHeartbeats 4000000 in
set_option maxRecDepth 100000 in
theorem k_X6_refused (E : gE) (l : Launch) {a_M a_Ma a_Mc a_Mg a_Mh a_Mi a_Ml a_Mp a_Ms a_Mt a_Mu a_Mx a_My : Nat} {c : Int} {mf W h mL mN n tc fd jo tr : Int} {md : Int64}  : gUpd E l yX6_refused wsX6_refused { frames := 0, cells := 0, slots := 0, locals := 0 } [.ref a_M, .int (iI c)] [(a_M, .inr (6, [.int (iI mf), .int (iI W), .int (iI h), .ref a_Mh, .long md, .int (iI mL), .int (iI mN), .int (iI n), .ref a_Mp, .ref a_Mt, .int (iI tc), .int (iI fd), .ref a_Ma, .ref a_Mu, .ref a_Mi, .int (iI jo), .ref a_Mx, .ref a_My, .ref a_Ms, .ref a_Ml, .ref a_Mc, .ref a_Mg, .int (iI tr)]))] (some (.int (iI c))) [(a_M, .inr (6, [.int (iI 0), .int (iI W), .int (iI h), .ref a_Mh, .long md, .int (iI mL), .int (iI mN), .int (iI n), .ref a_Mp, .ref a_Mt, .int (iI tc), .int (iI fd), .ref a_Ma, .ref a_Mu, .ref a_Mi, .int (iI jo), .ref a_Mx, .ref a_My, .ref a_Ms, .ref a_Ml, .ref a_Mc, .ref a_Mg, .int (iI tr)]))] := by
  refine g_start (cc := cX6_refused) (maxL := 2) (ret := (some .int)) (by decide) rfl (Nat.le_of_ble_eq_true rfl) ?_
  intro p_ e_ s_ m_ args_ below_ meth_ c_ A_ C hr hnm
  refine g_aload_n 1 C 0 dX6_refused_0 rfl rfl ?_
  refine g_iconst 2 C dX6_refused_1 rfl ?_
  refine g_put (ws' := [(_, .inr (6, [_, _, _, _, _, _, _, _, _, _, _, _, _, _, _, _, _, _, _, _, _, _, _]))]) 5 C 0 0 6 tyX6 tyX6_ok nmX6 iX6_refused_X6 lX6_refused_56 dX6_refused_2 rfl rfl rfl (by decide) rfl rfl rfl (Nat.le_of_ble_eq_true rfl) rfl ?_
  refine g_iload_n 6 C 1 dX6_refused_5 rfl rfl ?_
  exact g_iret C hr dX6_refused_6 ⟨g_ri (by first | rfl | omega | exact (if_pos (by omega)).symm | exact (if_neg (by omega)).symm), rfl⟩
theorem lX6_failed_56 : Cond.fieldLink RX6 56 (TX6 0).1 (TX6 0).2.1 (TX6 0).2.2.1 ∈ wsX6_failed := by decide +kernel
theorem iX6_failed_X6 : ∀ w ∈ u_ws RX6 TX6 23, w ∈ wsX6_failed := by decide +kernel
set_option maxHeartbeats 4000000 in
set_option maxRecDepth 100000 in
theorem k_X6_failed (E : gE) (l : Launch) {a_M a_Ma a_Mc a_Mg a_Mh a_Mi a_Ml a_Mp a_Ms a_Mt a_Mu a_Mx a_My : Nat} {c : Int} {mf W h mL mN n tc fd jo tr : Int} {md : Int64}  : gUpd E l yX6_failed wsX6_failed { frames := 0, cells := 0, slots := 0, locals := 0 } [.ref a_M, .int (iI c)] [(a_M, .inr (6, [.int (iI mf), .int (iI W), .int (iI h), .ref a_Mh, .long md, .int (iI mL), .int (iI mN), .int (iI n), .ref a_Mp, .ref a_Mt, .int (iI tc), .int (iI fd), .ref a_Ma, .ref a_Mu, .ref a_Mi, .int (iI jo), .ref a_Mx, .ref a_My, .ref a_Ms, .ref a_Ml, .ref a_Mc, .ref a_Mg, .int (iI tr)]))] (some (.int (iI (-10 - c)))) [(a_M, .inr (6, [.int (iI c), .int (iI W), .int (iI h), .ref a_Mh, .long md, .int (iI mL), .int (iI mN), .int (iI n), .ref a_Mp, .ref a_Mt, .int (iI tc), .int (iI fd), .ref a_Ma, .ref a_Mu, .ref a_Mi, .int (iI jo), .ref a_Mx, .ref a_My, .ref a_Ms, .ref a_Ml, .ref a_Mc, .ref a_Mg, .int (iI tr)]))] := by
  refine g_start (cc := cX6_failed) (maxL := 2) (ret := (some .int)) (by decide) rfl (Nat.le_of_ble_eq_true rfl) ?_
  intro p_ e_ s_ m_ args_ below_ meth_ c_ A_ C hr hnm
  refine g_aload_n 1 C 0 dX6_failed_0 rfl rfl ?_
  refine g_iload_n 2 C 1 dX6_failed_1 rfl rfl ?_
  refine g_put (ws' := [(_, .inr (6, [_, _, _, _, _, _, _, _, _, _, _, _, _, _, _, _, _, _, _, _, _, _, _]))]) 5 C 0 0 6 tyX6 tyX6_ok nmX6 iX6_failed_X6 lX6_failed_56 dX6_failed_2 rfl rfl rfl (by decide) rfl rfl rfl (Nat.le_of_ble_eq_true rfl) rfl ?_
  refine g_bipush 7 C dX6_failed_5 rfl (by decide) ?_
  refine g_iload_n 8 C 1 dX6_failed_7 rfl rfl ?_
  refine g_isub 9 C dX6_failed_8 rfl ?_
  exact g_iret C hr dX6_failed_9 ⟨g_ri (by first | rfl | omega | exact (if_pos (by omega)).symm | exact (if_neg (by omega)).symm), rfl⟩
theorem cdX6_lost : yX6_lost.cls ≠ "java/lang/invoke/MethodHandle" ∧ yX6_lost.cls ≠ "java/lang/invoke/VarHandle" ∧ (parseMethodDescriptor yX6_lost.desc).map (fun d => d.parameters.length) = some 0 := by decide +kernel
theorem lX6_failedLong_56 : Cond.fieldLink RX6 56 (TX6 0).1 (TX6 0).2.1 (TX6 0).2.2.1 ∈ wsX6_failedLong := by decide +kernel
theorem iX6_failedLong_X6 : ∀ w ∈ u_ws RX6 TX6 23, w ∈ wsX6_failedLong := by decide +kernel
set_option maxHeartbeats 4000000 in
set_option maxRecDepth 100000 in
theorem k_X6_failedLong (E : gE) (l : Launch) {a_M a_Ma a_Mc a_Mg a_Mh a_Mi a_Ml a_Mp a_Ms a_Mt a_Mu a_Mx a_My : Nat} {c : Int} {mf W h mL mN n tc fd jo tr : Int} {md : Int64}  : gUpd E l yX6_failedLong wsX6_failedLong { frames := 1, cells := 0, slots := 0, locals := 19 } [.ref a_M, .int (iI c)] [(a_M, .inr (6, [.int (iI mf), .int (iI W), .int (iI h), .ref a_Mh, .long md, .int (iI mL), .int (iI mN), .int (iI n), .ref a_Mp, .ref a_Mt, .int (iI tc), .int (iI fd), .ref a_Ma, .ref a_Mu, .ref a_Mi, .int (iI jo), .ref a_Mx, .ref a_My, .ref a_Ms, .ref a_Ml, .ref a_Mc, .ref a_Mg, .int (iI tr)]))] (some (.long (lI (-9223372036854775808)))) [(a_M, .inr (6, [.int (iI c), .int (iI W), .int (iI h), .ref a_Mh, .long md, .int (iI mL), .int (iI mN), .int (iI n), .ref a_Mp, .ref a_Mt, .int (iI tc), .int (iI fd), .ref a_Ma, .ref a_Mu, .ref a_Mi, .int (iI jo), .ref a_Mx, .ref a_My, .ref a_Ms, .ref a_Ml, .ref a_Mc, .ref a_Mg, .int (iI tr)]))] := by
  refine g_start (cc := cX6_failedLong) (maxL := 2) (ret := (some .long)) (by decide) rfl (Nat.le_of_ble_eq_true rfl) ?_
  intro p_ e_ s_ m_ args_ below_ meth_ c_ A_ C hr hnm
  refine g_aload_n 1 C 0 dX6_failedLong_0 rfl rfl ?_
  refine g_iload_n 2 C 1 dX6_failedLong_1 rfl rfl ?_
  refine g_put (ws' := [(_, .inr (6, [_, _, _, _, _, _, _, _, _, _, _, _, _, _, _, _, _, _, _, _, _, _, _]))]) 5 C 0 0 6 tyX6 tyX6_ok nmX6 iX6_failedLong_X6 lX6_failedLong_56 dX6_failedLong_2 rfl rfl rfl (by decide) rfl rfl rfl (Nat.le_of_ble_eq_true rfl) rfl ?_
  refine g_callSF 8 C [] dX6_failedLong_5 rfl (k_X6_lost E l  ) (va_cwS 0 C.2.2.2.2.1 gX6_failedLong_X6_lost rfl rfl rfl cdX6_lost ⟨Nat.le_of_ble_eq_true rfl, Nat.le_of_ble_eq_true rfl⟩) rfl rfl rfl rfl (Nat.le_of_ble_eq_true rfl) ⟨Nat.le_of_ble_eq_true rfl, Nat.le_of_ble_eq_true rfl⟩ ?_
  exact g_lret C hr dX6_failedLong_8 ⟨g_rl (by first | rfl | omega | exact (if_pos (by omega)).symm | exact (if_neg (by omega)).symm), rfl⟩
set_option maxHeartbeats 4000000 in
set_option maxRecDepth 100000 in
theorem k_X6_sizeOf (E : gE) (l : Launch) {v : Int} (hv : -2147483648 ≤ v ∧ v < 2147483648) : gFun E l yX6_sizeOf wsX6_sizeOf { frames := 0, cells := 0, slots := 0, locals := 0 } [.int (iI v)] [] (.int (iI (abI v))) := by
  refine g_start (cc := cX6_sizeOf) (maxL := 1) (ret := (some .int)) (by decide) rfl (Nat.le_of_ble_eq_true rfl) ?_
  intro p_ e_ s_ m_ args_ below_ meth_ c_ A_ C hr hnm
  refine g_iload_n 1 C 0 dX6_sizeOf_0 rfl rfl ?_
  refine g_if_ge 9 4 C dX6_sizeOf_1 (by decide) rfl (by omega) ?_ ?_
  · intro h1
    refine g_iload_n 10 C 0 dX6_sizeOf_9 rfl rfl ?_
    exact g_iret C hr dX6_sizeOf_10 ⟨g_ri (by unfold abI; split <;> first | rfl | omega), rfl⟩
  · intro h1
    refine g_iload_n 5 C 0 dX6_sizeOf_4 rfl rfl ?_
    refine g_ineg 6 C dX6_sizeOf_5 rfl ?_
    refine g_goto 10 C dX6_sizeOf_6 (by decide) ?_
    exact g_iret C hr dX6_sizeOf_10 ⟨g_ri (by unfold abI; split <;> first | rfl | omega), rfl⟩
theorem lX6_across_47 : Cond.fieldLink RX6 47 (TX6 1).1 (TX6 1).2.1 (TX6 1).2.2.1 ∈ wsX6_across := by decide +kernel
theorem lX6_across_51 : Cond.fieldLink RX6 51 (TX6 2).1 (TX6 2).2.1 (TX6 2).2.2.1 ∈ wsX6_across := by decide +kernel
theorem iX6_across_X6 : ∀ w ∈ u_ws RX6 TX6 23, w ∈ wsX6_across := by decide +kernel
set_option maxHeartbeats 4000000 in
set_option maxRecDepth 100000 in
theorem k_X6_across (E : gE) (l : Launch) {a_M a_Ma a_Mc a_Mg a_Mh a_Mi a_Ml a_Mp a_Ms a_Mt a_Mu a_Mx a_My : Nat} {mf W h mL mN n tc fd jo tr : Int} {md : Int64}  : gFun E l yX6_across wsX6_across { frames := 0, cells := 0, slots := 0, locals := 0 } [.ref a_M] [(a_M, .inr (6, [.int (iI mf), .int (iI W), .int (iI h), .ref a_Mh, .long md, .int (iI mL), .int (iI mN), .int (iI n), .ref a_Mp, .ref a_Mt, .int (iI tc), .int (iI fd), .ref a_Ma, .ref a_Mu, .ref a_Mi, .int (iI jo), .ref a_Mx, .ref a_My, .ref a_Ms, .ref a_Ml, .ref a_Mc, .ref a_Mg, .int (iI tr)]))] (.int (iI ((W - 1) * h))) := by
  refine g_start (cc := cX6_across) (maxL := 1) (ret := (some .int)) (by decide) rfl (Nat.le_of_ble_eq_true rfl) ?_
  intro p_ e_ s_ m_ args_ below_ meth_ c_ A_ C hr hnm
  refine g_aload_n 1 C 0 dX6_across_0 rfl rfl ?_
  refine g_get 4 C 0 1 6 iX6_across_X6 lX6_across_47 dX6_across_1 rfl rfl rfl (by decide) rfl ?_
  refine g_iconst 5 C dX6_across_4 rfl ?_
  refine g_isub 6 C dX6_across_5 rfl ?_
  refine g_aload_n 7 C 0 dX6_across_6 rfl rfl ?_
  refine g_get 10 C 0 2 6 iX6_across_X6 lX6_across_51 dX6_across_7 rfl rfl rfl (by decide) rfl ?_
  refine g_imul 11 C dX6_across_10 rfl ?_
  exact g_iret C hr dX6_across_11 ⟨g_ri (by first | rfl | omega | exact (if_pos (by omega)).symm | exact (if_neg (by omega)).symm), rfl⟩
theorem cdX6_across : yX6_across.cls = RX6 ∧ yX6_across.cls ≠ "java/lang/invoke/MethodHandle" ∧ yX6_across.cls ≠ "java/lang/invoke/VarHandle" ∧ (parseMethodDescriptor yX6_across.desc).map (fun d => d.parameters.length) = some 0 := by decide +kernel
theorem lX6_sides_47 : Cond.fieldLink RX6 47 (TX6 1).1 (TX6 1).2.1 (TX6 1).2.2.1 ∈ wsX6_sides := by decide +kernel
theorem lX6_sides_51 : Cond.fieldLink RX6 51 (TX6 2).1 (TX6 2).2.1 (TX6 2).2.2.1 ∈ wsX6_sides := by decide +kernel
theorem iX6_sides_X6 : ∀ w ∈ u_ws RX6 TX6 23, w ∈ wsX6_sides := by decide +kernel
set_option maxHeartbeats 4000000 in
set_option maxRecDepth 100000 in
theorem k_X6_sides (E : gE) (l : Launch) {a_M a_Ma a_Mc a_Mg a_Mh a_Mi a_Ml a_Mp a_Ms a_Mt a_Mu a_Mx a_My : Nat} {mf W h mL mN n tc fd jo tr : Int} {md : Int64}  : gFun E l yX6_sides wsX6_sides { frames := 1, cells := 0, slots := 0, locals := 20 } [.ref a_M] [(a_M, .inr (6, [.int (iI mf), .int (iI W), .int (iI h), .ref a_Mh, .long md, .int (iI mL), .int (iI mN), .int (iI n), .ref a_Mp, .ref a_Mt, .int (iI tc), .int (iI fd), .ref a_Ma, .ref a_Mu, .ref a_Mi, .int (iI jo), .ref a_Mx, .ref a_My, .ref a_Ms, .ref a_Ml, .ref a_Mc, .ref a_Mg, .int (iI tr)]))] (.int (iI (nsd W h))) := by
  refine g_start (cc := cX6_sides) (maxL := 1) (ret := (some .int)) (by decide) rfl (Nat.le_of_ble_eq_true rfl) ?_
  intro p_ e_ s_ m_ args_ below_ meth_ c_ A_ C hr hnm
  refine g_aload_n 1 C 0 dX6_sides_0 rfl rfl ?_
  refine g_callVF 4 C [0] dX6_sides_1 rfl (k_X6_across E l  ) (cwV 0 C.2.2.2.2.1 gX6_sides_X6_across rfl rfl rfl cdX6_across ⟨Nat.le_of_ble_eq_true rfl, Nat.le_of_ble_eq_true rfl⟩) rfl rfl rfl rfl (Nat.le_of_ble_eq_true rfl) 0 6 rfl rfl rfl ⟨Nat.le_of_ble_eq_true rfl, Nat.le_of_ble_eq_true rfl⟩ ?_
  refine g_aload_n 5 C 0 dX6_sides_4 rfl rfl ?_
  refine g_get 8 C 0 1 6 iX6_sides_X6 lX6_sides_47 dX6_sides_5 rfl rfl rfl (by decide) rfl ?_
  refine g_aload_n 9 C 0 dX6_sides_8 rfl rfl ?_
  refine g_get 12 C 0 2 6 iX6_sides_X6 lX6_sides_51 dX6_sides_9 rfl rfl rfl (by decide) rfl ?_
  refine g_iconst 13 C dX6_sides_12 rfl ?_
  refine g_isub 14 C dX6_sides_13 rfl ?_
  refine g_imul 15 C dX6_sides_14 rfl ?_
  refine g_iadd 16 C dX6_sides_15 rfl ?_
  exact g_iret C hr dX6_sides_16 ⟨g_ri (by first | rfl | omega | exact (if_pos (by omega)).symm | exact (if_neg (by omega)).symm), rfl⟩
theorem lX6_pieces_47 : Cond.fieldLink RX6 47 (TX6 1).1 (TX6 1).2.1 (TX6 1).2.2.1 ∈ wsX6_pieces := by decide +kernel
theorem lX6_pieces_51 : Cond.fieldLink RX6 51 (TX6 2).1 (TX6 2).2.1 (TX6 2).2.2.1 ∈ wsX6_pieces := by decide +kernel
theorem iX6_pieces_X6 : ∀ w ∈ u_ws RX6 TX6 23, w ∈ wsX6_pieces := by decide +kernel
set_option maxHeartbeats 4000000 in
set_option maxRecDepth 100000 in
theorem k_X6_pieces (E : gE) (l : Launch) {a_M a_Ma a_Mc a_Mg a_Mh a_Mi a_Ml a_Mp a_Ms a_Mt a_Mu a_Mx a_My : Nat} {mf W h mL mN n tc fd jo tr : Int} {md : Int64}  : gFun E l yX6_pieces wsX6_pieces { frames := 0, cells := 0, slots := 0, locals := 0 } [.ref a_M] [(a_M, .inr (6, [.int (iI mf), .int (iI W), .int (iI h), .ref a_Mh, .long md, .int (iI mL), .int (iI mN), .int (iI n), .ref a_Mp, .ref a_Mt, .int (iI tc), .int (iI fd), .ref a_Ma, .ref a_Mu, .ref a_Mi, .int (iI jo), .ref a_Mx, .ref a_My, .ref a_Ms, .ref a_Ml, .ref a_Mc, .ref a_Mg, .int (iI tr)]))] (.int (iI (W * h))) := by
  refine g_start (cc := cX6_pieces) (maxL := 1) (ret := (some .int)) (by decide) rfl (Nat.le_of_ble_eq_true rfl) ?_
  intro p_ e_ s_ m_ args_ below_ meth_ c_ A_ C hr hnm
  refine g_aload_n 1 C 0 dX6_pieces_0 rfl rfl ?_
  refine g_get 4 C 0 1 6 iX6_pieces_X6 lX6_pieces_47 dX6_pieces_1 rfl rfl rfl (by decide) rfl ?_
  refine g_aload_n 5 C 0 dX6_pieces_4 rfl rfl ?_
  refine g_get 8 C 0 2 6 iX6_pieces_X6 lX6_pieces_51 dX6_pieces_5 rfl rfl rfl (by decide) rfl ?_
  refine g_imul 9 C dX6_pieces_8 rfl ?_
  exact g_iret C hr dX6_pieces_9 ⟨g_ri (by first | rfl | omega | exact (if_pos (by omega)).symm | exact (if_neg (by omega)).symm), rfl⟩
theorem cdX6_in : yX6_in.cls ≠ "java/lang/invoke/MethodHandle" ∧ yX6_in.cls ≠ "java/lang/invoke/VarHandle" ∧ (parseMethodDescriptor yX6_in.desc).map (fun d => d.parameters.length) = some 3 := by decide +kernel
theorem cdX6_sides : yX6_sides.cls = RX6 ∧ yX6_sides.cls ≠ "java/lang/invoke/MethodHandle" ∧ yX6_sides.cls ≠ "java/lang/invoke/VarHandle" ∧ (parseMethodDescriptor yX6_sides.desc).map (fun d => d.parameters.length) = some 0 := by decide +kernel
set_option maxHeartbeats 4000000 in
set_option maxRecDepth 100000 in
theorem k_X6_noSide (E : gE) (l : Launch) {a_M a_Ma a_Mc a_Mg a_Mh a_Mi a_Ml a_Mp a_Ms a_Mt a_Mu a_Mx a_My : Nat} {z : Int} {mf W h mL mN n tc fd jo tr : Int} {md : Int64} (hB : 1 ≤ W ∧ W ≤ 5 ∧ 1 ≤ h ∧ h ≤ 5) (hz : -2147483648 ≤ z ∧ z < 2147483648) : gFun E l yX6_noSide wsX6_noSide { frames := 2, cells := 0, slots := 0, locals := 40 } [.ref a_M, .int (iI z)] [(a_M, .inr (6, [.int (iI mf), .int (iI W), .int (iI h), .ref a_Mh, .long md, .int (iI mL), .int (iI mN), .int (iI n), .ref a_Mp, .ref a_Mt, .int (iI tc), .int (iI fd), .ref a_Ma, .ref a_Mu, .ref a_Mi, .int (iI jo), .ref a_Mx, .ref a_My, .ref a_Ms, .ref a_Ml, .ref a_Mc, .ref a_Mg, .int (iI tr)]))] (.int (iI (if ¬ (0 ≤ z ∧ z < nsd W h) then 1 else 0))) := by
  refine g_start (cc := cX6_noSide) (maxL := 2) (ret := (some .boolean)) (by decide) rfl (Nat.le_of_ble_eq_true rfl) ?_
  intro p_ e_ s_ m_ args_ below_ meth_ c_ A_ C hr hnm
  have hN := nsd_b hB
  refine g_iload_n 1 C 1 dX6_noSide_0 rfl rfl ?_
  refine g_i2l 2 C dX6_noSide_1 rfl (by omega) ?_
  refine g_lconst 3 C 0 dX6_noSide_2 rfl (by decide) ?_
  refine g_aload_n 4 C 0 dX6_noSide_3 rfl rfl ?_
  refine g_callVF 7 C [0] dX6_noSide_4 rfl (k_X6_sides E l  ) (cwV 0 C.2.2.2.2.1 gX6_noSide_X6_sides rfl rfl rfl cdX6_sides ⟨Nat.le_of_ble_eq_true rfl, Nat.le_of_ble_eq_true rfl⟩) rfl rfl rfl rfl (Nat.le_of_ble_eq_true rfl) 0 6 rfl rfl rfl ⟨Nat.le_of_ble_eq_true rfl, Nat.le_of_ble_eq_true rfl⟩ ?_
  refine g_i2l 8 C dX6_noSide_7 rfl (by omega) ?_
  refine g_lconst 9 C 1 dX6_noSide_8 rfl (by decide) ?_
  refine g_lsub 10 C dX6_noSide_9 rfl ?_
  refine g_callSF 13 C [] dX6_noSide_10 rfl (k_X6_in E l  (by first | assumption | omega) (by first | assumption | omega) (by first | assumption | omega)) (va_cwS 3 C.2.2.2.2.1 gX6_noSide_X6_in rfl rfl rfl cdX6_in ⟨Nat.le_of_ble_eq_true rfl, Nat.le_of_ble_eq_true rfl⟩) rfl rfl rfl rfl (Nat.le_of_ble_eq_true rfl) ⟨Nat.le_of_ble_eq_true rfl, Nat.le_of_ble_eq_true rfl⟩ ?_
  refine g_ifb_ne 20 16 C dX6_noSide_13 (by decide) rfl ?_ ?_
  · intro h13
    refine g_iconst 21 C dX6_noSide_20 rfl ?_
    exact g_zret C hr dX6_noSide_21 (by first | rfl | decide | (split <;> rfl)) ⟨g_ri (by first | rfl | omega | exact (if_pos (by omega)).symm | exact (if_neg (by omega)).symm), rfl⟩
  · intro h13
    refine g_iconst 17 C dX6_noSide_16 rfl ?_
    refine g_goto 21 C dX6_noSide_17 (by decide) ?_
    exact g_zret C hr dX6_noSide_21 (by first | rfl | decide | (split <;> rfl)) ⟨g_ri (by first | rfl | omega | exact (if_pos (by omega)).symm | exact (if_neg (by omega)).symm), rfl⟩
theorem cdX6_pieces : yX6_pieces.cls = RX6 ∧ yX6_pieces.cls ≠ "java/lang/invoke/MethodHandle" ∧ yX6_pieces.cls ≠ "java/lang/invoke/VarHandle" ∧ (parseMethodDescriptor yX6_pieces.desc).map (fun d => d.parameters.length) = some 0 := by decide +kernel
set_option maxHeartbeats 4000000 in
set_option maxRecDepth 100000 in
theorem k_X6_noPiece (E : gE) (l : Launch) {a_M a_Ma a_Mc a_Mg a_Mh a_Mi a_Ml a_Mp a_Ms a_Mt a_Mu a_Mx a_My : Nat} {z : Int} {mf W h mL mN n tc fd jo tr : Int} {md : Int64} (hB : 1 ≤ W ∧ W ≤ 5 ∧ 1 ≤ h ∧ h ≤ 5) (hz : -2147483648 ≤ z ∧ z < 2147483648) : gFun E l yX6_noPiece wsX6_noPiece { frames := 1, cells := 0, slots := 0, locals := 25 } [.ref a_M, .int (iI z)] [(a_M, .inr (6, [.int (iI mf), .int (iI W), .int (iI h), .ref a_Mh, .long md, .int (iI mL), .int (iI mN), .int (iI n), .ref a_Mp, .ref a_Mt, .int (iI tc), .int (iI fd), .ref a_Ma, .ref a_Mu, .ref a_Mi, .int (iI jo), .ref a_Mx, .ref a_My, .ref a_Ms, .ref a_Ml, .ref a_Mc, .ref a_Mg, .int (iI tr)]))] (.int (iI (if ¬ (0 ≤ z ∧ z < W * h) then 1 else 0))) := by
  refine g_start (cc := cX6_noPiece) (maxL := 2) (ret := (some .boolean)) (by decide) rfl (Nat.le_of_ble_eq_true rfl) ?_
  intro p_ e_ s_ m_ args_ below_ meth_ c_ A_ C hr hnm
  have hN := nsd_b hB
  refine g_iload_n 1 C 1 dX6_noPiece_0 rfl rfl ?_
  refine g_i2l 2 C dX6_noPiece_1 rfl (by omega) ?_
  refine g_lconst 3 C 0 dX6_noPiece_2 rfl (by decide) ?_
  refine g_aload_n 4 C 0 dX6_noPiece_3 rfl rfl ?_
  refine g_callVF 7 C [0] dX6_noPiece_4 rfl (k_X6_pieces E l  ) (cwV 0 C.2.2.2.2.1 gX6_noPiece_X6_pieces rfl rfl rfl cdX6_pieces ⟨Nat.le_of_ble_eq_true rfl, Nat.le_of_ble_eq_true rfl⟩) rfl rfl rfl rfl (Nat.le_of_ble_eq_true rfl) 0 6 rfl rfl rfl ⟨Nat.le_of_ble_eq_true rfl, Nat.le_of_ble_eq_true rfl⟩ ?_
  refine g_i2l 8 C dX6_noPiece_7 rfl (by omega) ?_
  refine g_lconst 9 C 1 dX6_noPiece_8 rfl (by decide) ?_
  refine g_lsub 10 C dX6_noPiece_9 rfl ?_
  refine g_callSF 13 C [] dX6_noPiece_10 rfl (k_X6_in E l  (by first | assumption | omega) (by first | assumption | omega) (by first | assumption | omega)) (va_cwS 3 C.2.2.2.2.1 gX6_noPiece_X6_in rfl rfl rfl cdX6_in ⟨Nat.le_of_ble_eq_true rfl, Nat.le_of_ble_eq_true rfl⟩) rfl rfl rfl rfl (Nat.le_of_ble_eq_true rfl) ⟨Nat.le_of_ble_eq_true rfl, Nat.le_of_ble_eq_true rfl⟩ ?_
  refine g_ifb_ne 20 16 C dX6_noPiece_13 (by decide) rfl ?_ ?_
  · intro h13
    refine g_iconst 21 C dX6_noPiece_20 rfl ?_
    exact g_zret C hr dX6_noPiece_21 (by first | rfl | decide | (split <;> rfl)) ⟨g_ri (by first | rfl | omega | exact (if_pos (by omega)).symm | exact (if_neg (by omega)).symm), rfl⟩
  · intro h13
    refine g_iconst 17 C dX6_noPiece_16 rfl ?_
    refine g_goto 21 C dX6_noPiece_17 (by decide) ?_
    exact g_zret C hr dX6_noPiece_21 (by first | rfl | decide | (split <;> rfl)) ⟨g_ri (by first | rfl | omega | exact (if_pos (by omega)).symm | exact (if_neg (by omega)).symm), rfl⟩
theorem lX6_changed_77 : Cond.fieldLink RX6 77 (TX6 15).1 (TX6 15).2.1 (TX6 15).2.2.1 ∈ wsX6_changed := by decide +kernel
theorem iX6_changed_X6 : ∀ w ∈ u_ws RX6 TX6 23, w ∈ wsX6_changed := by decide +kernel
set_option maxHeartbeats 4000000 in
set_option maxRecDepth 100000 in
theorem k_X6_changed (E : gE) (l : Launch) {a_M a_Ma a_Mc a_Mg a_Mh a_Mi a_Ml a_Mp a_Ms a_Mt a_Mu a_Mx a_My : Nat} {mf W h mL mN n tc fd jo tr : Int} {md : Int64}  : gUpd E l yX6_changed wsX6_changed { frames := 0, cells := 0, slots := 0, locals := 0 } [.ref a_M] [(a_M, .inr (6, [.int (iI mf), .int (iI W), .int (iI h), .ref a_Mh, .long md, .int (iI mL), .int (iI mN), .int (iI n), .ref a_Mp, .ref a_Mt, .int (iI tc), .int (iI fd), .ref a_Ma, .ref a_Mu, .ref a_Mi, .int (iI jo), .ref a_Mx, .ref a_My, .ref a_Ms, .ref a_Ml, .ref a_Mc, .ref a_Mg, .int (iI tr)]))] none [(a_M, .inr (6, [.int (iI mf), .int (iI W), .int (iI h), .ref a_Mh, .long md, .int (iI mL), .int (iI mN), .int (iI n), .ref a_Mp, .ref a_Mt, .int (iI tc), .int (iI fd), .ref a_Ma, .ref a_Mu, .ref a_Mi, .int (iI 0), .ref a_Mx, .ref a_My, .ref a_Ms, .ref a_Ml, .ref a_Mc, .ref a_Mg, .int (iI tr)]))] := by
  refine g_start (cc := cX6_changed) (maxL := 1) (ret := none) (by decide) rfl (Nat.le_of_ble_eq_true rfl) ?_
  intro p_ e_ s_ m_ args_ below_ meth_ c_ A_ C hr hnm
  refine g_aload_n 1 C 0 dX6_changed_0 rfl rfl ?_
  refine g_iconst 2 C dX6_changed_1 rfl ?_
  refine g_put (ws' := [(_, .inr (6, [_, _, _, _, _, _, _, _, _, _, _, _, _, _, _, _, _, _, _, _, _, _, _]))]) 5 C 0 15 6 tyX6 tyX6_ok nmX6 iX6_changed_X6 lX6_changed_77 dX6_changed_2 rfl rfl rfl (by decide) rfl (by decide) rfl (Nat.le_of_ble_eq_true rfl) rfl ?_
  exact g_vret C hr dX6_changed_5 ⟨rfl, rfl⟩
theorem lX6_trace_215 : Cond.fieldLink RX6 215 (TX6 22).1 (TX6 22).2.1 (TX6 22).2.2.1 ∈ wsX6_trace := by decide +kernel
theorem iX6_trace_X6 : ∀ w ∈ u_ws RX6 TX6 23, w ∈ wsX6_trace := by decide +kernel
set_option maxHeartbeats 4000000 in
set_option maxRecDepth 100000 in
theorem k_X6_trace (E : gE) (l : Launch) {a_M a_Ma a_Mc a_Mg a_Mh a_Mi a_Ml a_Mp a_Ms a_Mt a_Mu a_Mx a_My : Nat} {mf W h mL mN n tc fd jo tr : Int} {md : Int64}  : gFun E l yX6_trace wsX6_trace { frames := 0, cells := 0, slots := 0, locals := 0 } [.ref a_M] [(a_M, .inr (6, [.int (iI mf), .int (iI W), .int (iI h), .ref a_Mh, .long md, .int (iI mL), .int (iI mN), .int (iI n), .ref a_Mp, .ref a_Mt, .int (iI tc), .int (iI fd), .ref a_Ma, .ref a_Mu, .ref a_Mi, .int (iI jo), .ref a_Mx, .ref a_My, .ref a_Ms, .ref a_Ml, .ref a_Mc, .ref a_Mg, .int (iI tr)]))] (.int (iI tr)) := by
  refine g_start (cc := cX6_trace) (maxL := 1) (ret := (some .int)) (by decide) rfl (Nat.le_of_ble_eq_true rfl) ?_
  intro p_ e_ s_ m_ args_ below_ meth_ c_ A_ C hr hnm
  refine g_aload_n 1 C 0 dX6_trace_0 rfl rfl ?_
  refine g_get 4 C 0 22 6 iX6_trace_X6 lX6_trace_215 dX6_trace_1 rfl rfl rfl (by decide) rfl ?_
  exact g_iret C hr dX6_trace_4 ⟨g_ri (by first | rfl | omega | exact (if_pos (by omega)).symm | exact (if_neg (by omega)).symm), rfl⟩
theorem lX6_fault_56 : Cond.fieldLink RX6 56 (TX6 0).1 (TX6 0).2.1 (TX6 0).2.2.1 ∈ wsX6_fault := by decide +kernel
theorem iX6_fault_X6 : ∀ w ∈ u_ws RX6 TX6 23, w ∈ wsX6_fault := by decide +kernel
set_option maxHeartbeats 4000000 in
set_option maxRecDepth 100000 in
theorem k_X6_fault (E : gE) (l : Launch) {a_M a_Ma a_Mc a_Mg a_Mh a_Mi a_Ml a_Mp a_Ms a_Mt a_Mu a_Mx a_My : Nat} {mf W h mL mN n tc fd jo tr : Int} {md : Int64}  : gFun E l yX6_fault wsX6_fault { frames := 0, cells := 0, slots := 0, locals := 0 } [.ref a_M] [(a_M, .inr (6, [.int (iI mf), .int (iI W), .int (iI h), .ref a_Mh, .long md, .int (iI mL), .int (iI mN), .int (iI n), .ref a_Mp, .ref a_Mt, .int (iI tc), .int (iI fd), .ref a_Ma, .ref a_Mu, .ref a_Mi, .int (iI jo), .ref a_Mx, .ref a_My, .ref a_Ms, .ref a_Ml, .ref a_Mc, .ref a_Mg, .int (iI tr)]))] (.int (iI mf)) := by
  refine g_start (cc := cX6_fault) (maxL := 1) (ret := (some .int)) (by decide) rfl (Nat.le_of_ble_eq_true rfl) ?_
  intro p_ e_ s_ m_ args_ below_ meth_ c_ A_ C hr hnm
  refine g_aload_n 1 C 0 dX6_fault_0 rfl rfl ?_
  refine g_get 4 C 0 0 6 iX6_fault_X6 lX6_fault_56 dX6_fault_1 rfl rfl rfl (by decide) rfl ?_
  exact g_iret C hr dX6_fault_4 ⟨g_ri (by first | rfl | omega | exact (if_pos (by omega)).symm | exact (if_neg (by omega)).symm), rfl⟩
theorem lX6_trials_177 : Cond.fieldLink RX6 177 (TX6 10).1 (TX6 10).2.1 (TX6 10).2.2.1 ∈ wsX6_trials := by decide +kernel
theorem iX6_trials_X6 : ∀ w ∈ u_ws RX6 TX6 23, w ∈ wsX6_trials := by decide +kernel
set_option maxHeartbeats 4000000 in
set_option maxRecDepth 100000 in
theorem k_X6_trials (E : gE) (l : Launch) {a_M a_Ma a_Mc a_Mg a_Mh a_Mi a_Ml a_Mp a_Ms a_Mt a_Mu a_Mx a_My : Nat} {mf W h mL mN n tc fd jo tr : Int} {md : Int64}  : gFun E l yX6_trials wsX6_trials { frames := 0, cells := 0, slots := 0, locals := 0 } [.ref a_M] [(a_M, .inr (6, [.int (iI mf), .int (iI W), .int (iI h), .ref a_Mh, .long md, .int (iI mL), .int (iI mN), .int (iI n), .ref a_Mp, .ref a_Mt, .int (iI tc), .int (iI fd), .ref a_Ma, .ref a_Mu, .ref a_Mi, .int (iI jo), .ref a_Mx, .ref a_My, .ref a_Ms, .ref a_Ml, .ref a_Mc, .ref a_Mg, .int (iI tr)]))] (.int (iI tc)) := by
  refine g_start (cc := cX6_trials) (maxL := 1) (ret := (some .int)) (by decide) rfl (Nat.le_of_ble_eq_true rfl) ?_
  intro p_ e_ s_ m_ args_ below_ meth_ c_ A_ C hr hnm
  refine g_aload_n 1 C 0 dX6_trials_0 rfl rfl ?_
  refine g_get 4 C 0 10 6 iX6_trials_X6 lX6_trials_177 dX6_trials_1 rfl rfl rfl (by decide) rfl ?_
  exact g_iret C hr dX6_trials_4 ⟨g_ri (by first | rfl | omega | exact (if_pos (by omega)).symm | exact (if_neg (by omega)).symm), rfl⟩
theorem lX6_traced_215 : Cond.fieldLink RX6 215 (TX6 22).1 (TX6 22).2.1 (TX6 22).2.2.1 ∈ wsX6_traced := by decide +kernel
theorem iX6_traced_X6 : ∀ w ∈ u_ws RX6 TX6 23, w ∈ wsX6_traced := by decide +kernel
set_option maxHeartbeats 4000000 in
set_option maxRecDepth 100000 in
theorem k_X6_traced (E : gE) (l : Launch) {a_M a_Ma a_Mc a_Mg a_Mh a_Mi a_Ml a_Mp a_Ms a_Mt a_Mu a_Mx a_My : Nat} {f : Int} {mf W h mL mN n tc fd jo tr : Int} {md : Int64}  : gUpd E l yX6_traced wsX6_traced { frames := 0, cells := 0, slots := 0, locals := 0 } [.ref a_M, .int (iI f)] [(a_M, .inr (6, [.int (iI mf), .int (iI W), .int (iI h), .ref a_Mh, .long md, .int (iI mL), .int (iI mN), .int (iI n), .ref a_Mp, .ref a_Mt, .int (iI tc), .int (iI fd), .ref a_Ma, .ref a_Mu, .ref a_Mi, .int (iI jo), .ref a_Mx, .ref a_My, .ref a_Ms, .ref a_Ml, .ref a_Mc, .ref a_Mg, .int (iI tr)]))] none [(a_M, .inr (6, [.int (iI mf), .int (iI W), .int (iI h), .ref a_Mh, .long md, .int (iI mL), .int (iI mN), .int (iI n), .ref a_Mp, .ref a_Mt, .int (iI tc), .int (iI fd), .ref a_Ma, .ref a_Mu, .ref a_Mi, .int (iI jo), .ref a_Mx, .ref a_My, .ref a_Ms, .ref a_Ml, .ref a_Mc, .ref a_Mg, .int (iI (31 * tr + f))]))] := by
  refine g_start (cc := cX6_traced) (maxL := 2) (ret := none) (by decide) rfl (Nat.le_of_ble_eq_true rfl) ?_
  intro p_ e_ s_ m_ args_ below_ meth_ c_ A_ C hr hnm
  refine g_aload_n 1 C 0 dX6_traced_0 rfl rfl ?_
  refine g_bipush 3 C dX6_traced_1 rfl (by decide) ?_
  refine g_aload_n 4 C 0 dX6_traced_3 rfl rfl ?_
  refine g_get 7 C 0 22 6 iX6_traced_X6 lX6_traced_215 dX6_traced_4 rfl rfl rfl (by decide) rfl ?_
  refine g_imul 8 C dX6_traced_7 rfl ?_
  refine g_iload_n 9 C 1 dX6_traced_8 rfl rfl ?_
  refine g_iadd 10 C dX6_traced_9 rfl ?_
  refine g_put (ws' := [(_, .inr (6, [_, _, _, _, _, _, _, _, _, _, _, _, _, _, _, _, _, _, _, _, _, _, _]))]) 13 C 0 22 6 tyX6 tyX6_ok nmX6 iX6_traced_X6 lX6_traced_215 dX6_traced_10 rfl rfl rfl (by decide) rfl rfl rfl (Nat.le_of_ble_eq_true rfl) rfl ?_
  exact g_vret C hr dX6_traced_13 ⟨rfl, rfl⟩
theorem lX6_told_47 : Cond.fieldLink RX6 47 (TX6 1).1 (TX6 1).2.1 (TX6 1).2.2.1 ∈ wsX6_told := by decide +kernel
theorem lX6_told_51 : Cond.fieldLink RX6 51 (TX6 2).1 (TX6 2).2.1 (TX6 2).2.2.1 ∈ wsX6_told := by decide +kernel
theorem lX6_told_83 : Cond.fieldLink RX6 83 (TX6 7).1 (TX6 7).2.1 (TX6 7).2.2.1 ∈ wsX6_told := by decide +kernel
theorem iX6_told_X6 : ∀ w ∈ u_ws RX6 TX6 23, w ∈ wsX6_told := by decide +kernel
set_option maxHeartbeats 4000000 in
set_option maxRecDepth 100000 in
theorem k_X6_told (E : gE) (l : Launch) {a_M a_Ma a_Mc a_Mg a_Mh a_Mi a_Ml a_Mp a_Ms a_Mt a_Mu a_Mx a_My : Nat} {t : Int} {mf W h mL mN n tc fd jo tr : Int} {md : Int64} (ht : -2147483648 ≤ t ∧ t < 2147483648) : gFun E l yX6_told wsX6_told { frames := 2, cells := 0, slots := 0, locals := 40 } [.ref a_M, .int (iI t)] [(a_M, .inr (6, [.int (iI mf), .int (iI W), .int (iI h), .ref a_Mh, .long md, .int (iI mL), .int (iI mN), .int (iI n), .ref a_Mp, .ref a_Mt, .int (iI tc), .int (iI fd), .ref a_Ma, .ref a_Mu, .ref a_Mi, .int (iI jo), .ref a_Mx, .ref a_My, .ref a_Ms, .ref a_Ml, .ref a_Mc, .ref a_Mg, .int (iI tr)]))] (.int (iI (if t = 0 then W else if t = 1 then h else if t = 2 then W * h else if t = 3 then nsd W h else if t = 4 then n else -2))) := by
  refine g_start (cc := cX6_told) (maxL := 2) (ret := (some .int)) (by decide) rfl (Nat.le_of_ble_eq_true rfl) ?_
  intro p_ e_ s_ m_ args_ below_ meth_ c_ A_ C hr hnm
  refine g_iload_n 1 C 1 dX6_told_0 rfl rfl ?_
  refine g_split (t = 0) ?_ ?_
  · intro hs1_0
    refine g_tsw 36 C 0 dX6_told_1 (by omega) (by omega) (by decide) (by decide) rfl (by decide) ?_
    refine g_aload_n 37 C 0 dX6_told_36 rfl rfl ?_
    refine g_get 40 C 0 1 6 iX6_told_X6 lX6_told_47 dX6_told_37 rfl rfl rfl (by decide) rfl ?_
    exact g_iret C hr dX6_told_40 ⟨g_ri (by (repeat' split) <;> first | rfl | omega), rfl⟩
  intro hs1_0
  refine g_split (t = 1) ?_ ?_
  · intro hs1_1
    refine g_tsw 41 C 1 dX6_told_1 (by omega) (by omega) (by decide) (by decide) rfl (by decide) ?_
    refine g_aload_n 42 C 0 dX6_told_41 rfl rfl ?_
    refine g_get 45 C 0 2 6 iX6_told_X6 lX6_told_51 dX6_told_42 rfl rfl rfl (by decide) rfl ?_
    exact g_iret C hr dX6_told_45 ⟨g_ri (by (repeat' split) <;> first | rfl | omega), rfl⟩
  intro hs1_1
  refine g_split (t = 2) ?_ ?_
  · intro hs1_2
    refine g_tsw 46 C 2 dX6_told_1 (by omega) (by omega) (by decide) (by decide) rfl (by decide) ?_
    refine g_aload_n 47 C 0 dX6_told_46 rfl rfl ?_
    refine g_callVF 50 C [0] dX6_told_47 rfl (k_X6_pieces E l  ) (cwV 0 C.2.2.2.2.1 gX6_told_X6_pieces rfl rfl rfl cdX6_pieces ⟨Nat.le_of_ble_eq_true rfl, Nat.le_of_ble_eq_true rfl⟩) rfl rfl rfl rfl (Nat.le_of_ble_eq_true rfl) 0 6 rfl rfl rfl ⟨Nat.le_of_ble_eq_true rfl, Nat.le_of_ble_eq_true rfl⟩ ?_
    exact g_iret C hr dX6_told_50 ⟨g_ri (by (repeat' split) <;> first | rfl | omega), rfl⟩
  intro hs1_2
  refine g_split (t = 3) ?_ ?_
  · intro hs1_3
    refine g_tsw 51 C 3 dX6_told_1 (by omega) (by omega) (by decide) (by decide) rfl (by decide) ?_
    refine g_aload_n 52 C 0 dX6_told_51 rfl rfl ?_
    refine g_callVF 55 C [0] dX6_told_52 rfl (k_X6_sides E l  ) (cwV 0 C.2.2.2.2.1 gX6_told_X6_sides rfl rfl rfl cdX6_sides ⟨Nat.le_of_ble_eq_true rfl, Nat.le_of_ble_eq_true rfl⟩) rfl rfl rfl rfl (Nat.le_of_ble_eq_true rfl) 0 6 rfl rfl rfl ⟨Nat.le_of_ble_eq_true rfl, Nat.le_of_ble_eq_true rfl⟩ ?_
    exact g_iret C hr dX6_told_55 ⟨g_ri (by (repeat' split) <;> first | rfl | omega), rfl⟩
  intro hs1_3
  refine g_split (t = 4) ?_ ?_
  · intro hs1_4
    refine g_tsw 56 C 4 dX6_told_1 (by omega) (by omega) (by decide) (by decide) rfl (by decide) ?_
    refine g_aload_n 57 C 0 dX6_told_56 rfl rfl ?_
    refine g_get 60 C 0 7 6 iX6_told_X6 lX6_told_83 dX6_told_57 rfl rfl rfl (by decide) rfl ?_
    exact g_iret C hr dX6_told_60 ⟨g_ri (by (repeat' split) <;> first | rfl | omega), rfl⟩
  intro hs1_4
  refine g_tswd 61 C dX6_told_1 (by omega) (by omega) (by decide) ?_
  refine g_bipush 63 C dX6_told_61 rfl (by decide) ?_
  exact g_iret C hr dX6_told_63 ⟨g_ri (by (repeat' split) <;> first | rfl | omega), rfl⟩
theorem lX6_sideAt_47 : Cond.fieldLink RX6 47 (TX6 1).1 (TX6 1).2.1 (TX6 1).2.2.1 ∈ wsX6_sideAt := by decide +kernel
theorem lX6_sideAt_51 : Cond.fieldLink RX6 51 (TX6 2).1 (TX6 2).2.1 (TX6 2).2.2.1 ∈ wsX6_sideAt := by decide +kernel
theorem iX6_sideAt_X6 : ∀ w ∈ u_ws RX6 TX6 23, w ∈ wsX6_sideAt := by decide +kernel
set_option maxHeartbeats 4000000 in
set_option maxRecDepth 100000 in
theorem k_X6_sideAt (E : gE) (l : Launch) {a_M a_Ma a_Mc a_Mg a_Mh a_Mi a_Ml a_Mp a_Ms a_Mt a_Mu a_Mx a_My : Nat} {p e : Int} {mf W h mL mN n tc fd jo tr : Int} {md : Int64} (hB : 1 ≤ W ∧ W ≤ 5 ∧ 1 ≤ h ∧ h ≤ 5) (hp : 0 ≤ p ∧ p < W * h) (he : 0 ≤ e ∧ e < 4) : gFun E l yX6_sideAt wsX6_sideAt { frames := 1, cells := 0, slots := 0, locals := 20 } [.ref a_M, .int (iI p), .int (iI e)] [(a_M, .inr (6, [.int (iI mf), .int (iI W), .int (iI h), .ref a_Mh, .long md, .int (iI mL), .int (iI mN), .int (iI n), .ref a_Mp, .ref a_Mt, .int (iI tc), .int (iI fd), .ref a_Ma, .ref a_Mu, .ref a_Mi, .int (iI jo), .ref a_Mx, .ref a_My, .ref a_Ms, .ref a_Ml, .ref a_Mc, .ref a_Mg, .int (iI tr)]))] (.int (iI (sdI W h p e))) := by
  refine g_start (cc := cX6_sideAt) (maxL := 6) (ret := (some .int)) (by decide) rfl (Nat.le_of_ble_eq_true rfl) ?_
  intro p_ e_ s_ m_ args_ below_ meth_ c_ A_ C hr hnm
  have hN := nsd_b hB
  have hm0 := Int.emod_nonneg p (show W ≠ 0 by omega)
  have hm1 := Int.emod_lt_of_pos p (show 0 < W by omega)
  have hd0 := Int.ediv_nonneg hp.1 (show 0 ≤ W by omega)
  have hd1 := Int.ediv_lt_of_lt_mul (show 0 < W by omega) (show p < h * W by rw [Int.mul_comm]; exact hp.2)
  refine g_iload_n 1 C 1 dX6_sideAt_0 rfl rfl ?_
  refine g_aload_n 2 C 0 dX6_sideAt_1 rfl rfl ?_
  refine g_get 5 C 0 1 6 iX6_sideAt_X6 lX6_sideAt_47 dX6_sideAt_2 rfl rfl rfl (by decide) rfl ?_
  refine g_irem 6 C dX6_sideAt_5 rfl (by omega) ?_
  refine g_istore_n (lv' := [(3, _), (0, _), (1, _), (2, _)]) 7 C dX6_sideAt_6 rfl rfl (by decide) rfl ?_
  refine g_iload_n 8 C 2 dX6_sideAt_7 rfl rfl ?_
  refine g_aload_n 9 C 1 dX6_sideAt_8 rfl rfl ?_
  refine g_get 12 C 0 1 6 iX6_sideAt_X6 lX6_sideAt_47 dX6_sideAt_9 rfl rfl rfl (by decide) rfl ?_
  refine g_idiv 13 C dX6_sideAt_12 rfl (by omega) ?_
  refine g_istore (lv' := [(4, _), (3, _), (0, _), (1, _), (2, _)]) 15 C dX6_sideAt_13 rfl (by decide) rfl ?_
  refine g_iload_n 16 C 4 dX6_sideAt_15 rfl rfl ?_
  refine g_iconst 17 C dX6_sideAt_16 rfl ?_
  refine g_icmp_eq 25 20 C dX6_sideAt_17 (by decide) rfl (by omega) ?_ ?_
  · intro h17
    refine g_iload_n 26 C 4 dX6_sideAt_25 rfl rfl ?_
    refine g_iconst 27 C dX6_sideAt_26 rfl ?_
    refine g_icmp_ne 34 30 C dX6_sideAt_27 (by decide) rfl (by omega) ?_ ?_
    · intro h27
      refine g_iload_n 35 C 1 dX6_sideAt_34 rfl rfl ?_
      refine g_iconst 36 C dX6_sideAt_35 rfl ?_
      refine g_isub 37 C dX6_sideAt_36 rfl ?_
      refine g_istore (lv' := [(5, _), (4, _), (3, _), (0, _), (1, _), (2, _)]) 39 C dX6_sideAt_37 rfl (by decide) rfl ?_
      refine g_iload 41 C 0 dX6_sideAt_39 rfl rfl ?_
      refine g_if_lt 55 44 C dX6_sideAt_41 (by decide) rfl (by omega) ?_ ?_
      · intro h41
        refine g_bipush 57 C dX6_sideAt_55 rfl (by decide) ?_
        refine g_goto 72 C dX6_sideAt_57 (by decide) ?_
        exact g_iret C hr dX6_sideAt_72 ⟨g_ri (by unfold sdI; (repeat' split) <;> first | rfl | omega), rfl⟩
      · intro h41
        refine g_iload 46 C 0 dX6_sideAt_44 rfl rfl ?_
        refine g_aload_n 47 C 3 dX6_sideAt_46 rfl rfl ?_
        refine g_get 50 C 0 1 6 iX6_sideAt_X6 lX6_sideAt_47 dX6_sideAt_47 rfl rfl rfl (by decide) rfl ?_
        refine g_iconst 51 C dX6_sideAt_50 rfl ?_
        refine g_isub 52 C dX6_sideAt_51 rfl ?_
        refine g_icmp_ne 60 55 C dX6_sideAt_52 (by decide) rfl (by omega) ?_ ?_
        · intro h52
          refine g_iload 62 C 1 dX6_sideAt_60 rfl rfl ?_
          refine g_aload_n 63 C 3 dX6_sideAt_62 rfl rfl ?_
          refine g_get 66 C 0 1 6 iX6_sideAt_X6 lX6_sideAt_47 dX6_sideAt_63 rfl rfl rfl (by decide) rfl ?_
          refine g_iconst 67 C dX6_sideAt_66 rfl ?_
          refine g_isub 68 C dX6_sideAt_67 rfl ?_
          refine g_imul 69 C dX6_sideAt_68 rfl ?_
          refine g_iload 71 C 0 dX6_sideAt_69 rfl rfl ?_
          refine g_iadd 72 C dX6_sideAt_71 rfl ?_
          exact g_iret C hr dX6_sideAt_72 ⟨g_ri (by unfold sdI; (repeat' split) <;> first | rfl | omega), rfl⟩
        · intro h52
          refine g_bipush 57 C dX6_sideAt_55 rfl (by decide) ?_
          refine g_goto 72 C dX6_sideAt_57 (by decide) ?_
          exact g_iret C hr dX6_sideAt_72 ⟨g_ri (by unfold sdI; (repeat' split) <;> first | rfl | omega), rfl⟩
    · intro h27
      refine g_iload_n 31 C 1 dX6_sideAt_30 rfl rfl ?_
      refine g_goto 37 C dX6_sideAt_31 (by decide) ?_
      refine g_istore (lv' := [(5, _), (4, _), (3, _), (0, _), (1, _), (2, _)]) 39 C dX6_sideAt_37 rfl (by decide) rfl ?_
      refine g_iload 41 C 0 dX6_sideAt_39 rfl rfl ?_
      refine g_if_lt 55 44 C dX6_sideAt_41 (by decide) rfl (by omega) ?_ ?_
      · intro h41
        refine g_bipush 57 C dX6_sideAt_55 rfl (by decide) ?_
        refine g_goto 72 C dX6_sideAt_57 (by decide) ?_
        exact g_iret C hr dX6_sideAt_72 ⟨g_ri (by unfold sdI; (repeat' split) <;> first | rfl | omega), rfl⟩
      · intro h41
        refine g_iload 46 C 0 dX6_sideAt_44 rfl rfl ?_
        refine g_aload_n 47 C 3 dX6_sideAt_46 rfl rfl ?_
        refine g_get 50 C 0 1 6 iX6_sideAt_X6 lX6_sideAt_47 dX6_sideAt_47 rfl rfl rfl (by decide) rfl ?_
        refine g_iconst 51 C dX6_sideAt_50 rfl ?_
        refine g_isub 52 C dX6_sideAt_51 rfl ?_
        refine g_icmp_ne 60 55 C dX6_sideAt_52 (by decide) rfl (by omega) ?_ ?_
        · intro h52
          refine g_iload 62 C 1 dX6_sideAt_60 rfl rfl ?_
          refine g_aload_n 63 C 3 dX6_sideAt_62 rfl rfl ?_
          refine g_get 66 C 0 1 6 iX6_sideAt_X6 lX6_sideAt_47 dX6_sideAt_63 rfl rfl rfl (by decide) rfl ?_
          refine g_iconst 67 C dX6_sideAt_66 rfl ?_
          refine g_isub 68 C dX6_sideAt_67 rfl ?_
          refine g_imul 69 C dX6_sideAt_68 rfl ?_
          refine g_iload 71 C 0 dX6_sideAt_69 rfl rfl ?_
          refine g_iadd 72 C dX6_sideAt_71 rfl ?_
          exact g_iret C hr dX6_sideAt_72 ⟨g_ri (by unfold sdI; (repeat' split) <;> first | rfl | omega), rfl⟩
        · intro h52
          refine g_bipush 57 C dX6_sideAt_55 rfl (by decide) ?_
          refine g_goto 72 C dX6_sideAt_57 (by decide) ?_
          exact g_iret C hr dX6_sideAt_72 ⟨g_ri (by unfold sdI; (repeat' split) <;> first | rfl | omega), rfl⟩
  · intro h17
    refine g_iload_n 21 C 4 dX6_sideAt_20 rfl rfl ?_
    refine g_iconst 22 C dX6_sideAt_21 rfl ?_
    refine g_icmp_ne 73 25 C dX6_sideAt_22 (by decide) rfl (by omega) ?_ ?_
    · intro h22
      refine g_iload_n 74 C 4 dX6_sideAt_73 rfl rfl ?_
      refine g_iconst 75 C dX6_sideAt_74 rfl ?_
      refine g_icmp_ne 83 78 C dX6_sideAt_75 (by decide) rfl (by omega) ?_ ?_
      · intro h75
        refine g_iload 85 C 0 dX6_sideAt_83 rfl rfl ?_
        refine g_iconst 86 C dX6_sideAt_85 rfl ?_
        refine g_isub 87 C dX6_sideAt_86 rfl ?_
        refine g_istore (lv' := [(5, _), (4, _), (3, _), (0, _), (1, _), (2, _)]) 89 C dX6_sideAt_87 rfl (by decide) rfl ?_
        refine g_iload 91 C 0 dX6_sideAt_89 rfl rfl ?_
        refine g_if_lt 105 94 C dX6_sideAt_91 (by decide) rfl (by omega) ?_ ?_
        · intro h91
          refine g_bipush 107 C dX6_sideAt_105 rfl (by decide) ?_
          refine g_goto 124 C dX6_sideAt_107 (by decide) ?_
          exact g_iret C hr dX6_sideAt_124 ⟨g_ri (by unfold sdI; (repeat' split) <;> first | rfl | omega), rfl⟩
        · intro h91
          refine g_iload 96 C 0 dX6_sideAt_94 rfl rfl ?_
          refine g_aload_n 97 C 3 dX6_sideAt_96 rfl rfl ?_
          refine g_get 100 C 0 2 6 iX6_sideAt_X6 lX6_sideAt_51 dX6_sideAt_97 rfl rfl rfl (by decide) rfl ?_
          refine g_iconst 101 C dX6_sideAt_100 rfl ?_
          refine g_isub 102 C dX6_sideAt_101 rfl ?_
          refine g_icmp_ne 110 105 C dX6_sideAt_102 (by decide) rfl (by omega) ?_ ?_
          · intro h102
            refine g_aload_n 111 C 3 dX6_sideAt_110 rfl rfl ?_
            refine g_callVF 114 C [0] dX6_sideAt_111 rfl (k_X6_across E l  ) (cwV 0 C.2.2.2.2.1 gX6_sideAt_X6_across rfl rfl rfl cdX6_across ⟨Nat.le_of_ble_eq_true rfl, Nat.le_of_ble_eq_true rfl⟩) rfl rfl rfl rfl (Nat.le_of_ble_eq_true rfl) 0 6 rfl rfl rfl ⟨Nat.le_of_ble_eq_true rfl, Nat.le_of_ble_eq_true rfl⟩ ?_
            refine g_iload 116 C 0 dX6_sideAt_114 rfl rfl ?_
            refine g_aload_n 117 C 3 dX6_sideAt_116 rfl rfl ?_
            refine g_get 120 C 0 1 6 iX6_sideAt_X6 lX6_sideAt_47 dX6_sideAt_117 rfl rfl rfl (by decide) rfl ?_
            refine g_imul 121 C dX6_sideAt_120 rfl ?_
            refine g_iadd 122 C dX6_sideAt_121 rfl ?_
            refine g_iload_n 123 C 2 dX6_sideAt_122 rfl rfl ?_
            refine g_iadd 124 C dX6_sideAt_123 rfl ?_
            exact g_iret C hr dX6_sideAt_124 ⟨g_ri (by unfold sdI; (repeat' split) <;> first | rfl | omega), rfl⟩
          · intro h102
            refine g_bipush 107 C dX6_sideAt_105 rfl (by decide) ?_
            refine g_goto 124 C dX6_sideAt_107 (by decide) ?_
            exact g_iret C hr dX6_sideAt_124 ⟨g_ri (by unfold sdI; (repeat' split) <;> first | rfl | omega), rfl⟩
      · intro h75
        refine g_iload 80 C 0 dX6_sideAt_78 rfl rfl ?_
        refine g_goto 87 C dX6_sideAt_80 (by decide) ?_
        refine g_istore (lv' := [(5, _), (4, _), (3, _), (0, _), (1, _), (2, _)]) 89 C dX6_sideAt_87 rfl (by decide) rfl ?_
        refine g_iload 91 C 0 dX6_sideAt_89 rfl rfl ?_
        refine g_if_lt 105 94 C dX6_sideAt_91 (by decide) rfl (by omega) ?_ ?_
        · intro h91
          refine g_bipush 107 C dX6_sideAt_105 rfl (by decide) ?_
          refine g_goto 124 C dX6_sideAt_107 (by decide) ?_
          exact g_iret C hr dX6_sideAt_124 ⟨g_ri (by unfold sdI; (repeat' split) <;> first | rfl | omega), rfl⟩
        · intro h91
          refine g_iload 96 C 0 dX6_sideAt_94 rfl rfl ?_
          refine g_aload_n 97 C 3 dX6_sideAt_96 rfl rfl ?_
          refine g_get 100 C 0 2 6 iX6_sideAt_X6 lX6_sideAt_51 dX6_sideAt_97 rfl rfl rfl (by decide) rfl ?_
          refine g_iconst 101 C dX6_sideAt_100 rfl ?_
          refine g_isub 102 C dX6_sideAt_101 rfl ?_
          refine g_icmp_ne 110 105 C dX6_sideAt_102 (by decide) rfl (by omega) ?_ ?_
          · intro h102
            refine g_aload_n 111 C 3 dX6_sideAt_110 rfl rfl ?_
            refine g_callVF 114 C [0] dX6_sideAt_111 rfl (k_X6_across E l  ) (cwV 0 C.2.2.2.2.1 gX6_sideAt_X6_across rfl rfl rfl cdX6_across ⟨Nat.le_of_ble_eq_true rfl, Nat.le_of_ble_eq_true rfl⟩) rfl rfl rfl rfl (Nat.le_of_ble_eq_true rfl) 0 6 rfl rfl rfl ⟨Nat.le_of_ble_eq_true rfl, Nat.le_of_ble_eq_true rfl⟩ ?_
            refine g_iload 116 C 0 dX6_sideAt_114 rfl rfl ?_
            refine g_aload_n 117 C 3 dX6_sideAt_116 rfl rfl ?_
            refine g_get 120 C 0 1 6 iX6_sideAt_X6 lX6_sideAt_47 dX6_sideAt_117 rfl rfl rfl (by decide) rfl ?_
            refine g_imul 121 C dX6_sideAt_120 rfl ?_
            refine g_iadd 122 C dX6_sideAt_121 rfl ?_
            refine g_iload_n 123 C 2 dX6_sideAt_122 rfl rfl ?_
            refine g_iadd 124 C dX6_sideAt_123 rfl ?_
            exact g_iret C hr dX6_sideAt_124 ⟨g_ri (by unfold sdI; (repeat' split) <;> first | rfl | omega), rfl⟩
          · intro h102
            refine g_bipush 107 C dX6_sideAt_105 rfl (by decide) ?_
            refine g_goto 124 C dX6_sideAt_107 (by decide) ?_
            exact g_iret C hr dX6_sideAt_124 ⟨g_ri (by unfold sdI; (repeat' split) <;> first | rfl | omega), rfl⟩
    · intro h22
      refine g_iload_n 26 C 4 dX6_sideAt_25 rfl rfl ?_
      refine g_iconst 27 C dX6_sideAt_26 rfl ?_
      refine g_icmp_ne 34 30 C dX6_sideAt_27 (by decide) rfl (by omega) ?_ ?_
      · intro h27
        refine g_iload_n 35 C 1 dX6_sideAt_34 rfl rfl ?_
        refine g_iconst 36 C dX6_sideAt_35 rfl ?_
        refine g_isub 37 C dX6_sideAt_36 rfl ?_
        refine g_istore (lv' := [(5, _), (4, _), (3, _), (0, _), (1, _), (2, _)]) 39 C dX6_sideAt_37 rfl (by decide) rfl ?_
        refine g_iload 41 C 0 dX6_sideAt_39 rfl rfl ?_
        refine g_if_lt 55 44 C dX6_sideAt_41 (by decide) rfl (by omega) ?_ ?_
        · intro h41
          refine g_bipush 57 C dX6_sideAt_55 rfl (by decide) ?_
          refine g_goto 72 C dX6_sideAt_57 (by decide) ?_
          exact g_iret C hr dX6_sideAt_72 ⟨g_ri (by unfold sdI; (repeat' split) <;> first | rfl | omega), rfl⟩
        · intro h41
          refine g_iload 46 C 0 dX6_sideAt_44 rfl rfl ?_
          refine g_aload_n 47 C 3 dX6_sideAt_46 rfl rfl ?_
          refine g_get 50 C 0 1 6 iX6_sideAt_X6 lX6_sideAt_47 dX6_sideAt_47 rfl rfl rfl (by decide) rfl ?_
          refine g_iconst 51 C dX6_sideAt_50 rfl ?_
          refine g_isub 52 C dX6_sideAt_51 rfl ?_
          refine g_icmp_ne 60 55 C dX6_sideAt_52 (by decide) rfl (by omega) ?_ ?_
          · intro h52
            refine g_iload 62 C 1 dX6_sideAt_60 rfl rfl ?_
            refine g_aload_n 63 C 3 dX6_sideAt_62 rfl rfl ?_
            refine g_get 66 C 0 1 6 iX6_sideAt_X6 lX6_sideAt_47 dX6_sideAt_63 rfl rfl rfl (by decide) rfl ?_
            refine g_iconst 67 C dX6_sideAt_66 rfl ?_
            refine g_isub 68 C dX6_sideAt_67 rfl ?_
            refine g_imul 69 C dX6_sideAt_68 rfl ?_
            refine g_iload 71 C 0 dX6_sideAt_69 rfl rfl ?_
            refine g_iadd 72 C dX6_sideAt_71 rfl ?_
            exact g_iret C hr dX6_sideAt_72 ⟨g_ri (by unfold sdI; (repeat' split) <;> first | rfl | omega), rfl⟩
          · intro h52
            refine g_bipush 57 C dX6_sideAt_55 rfl (by decide) ?_
            refine g_goto 72 C dX6_sideAt_57 (by decide) ?_
            exact g_iret C hr dX6_sideAt_72 ⟨g_ri (by unfold sdI; (repeat' split) <;> first | rfl | omega), rfl⟩
      · intro h27
        refine g_iload_n 31 C 1 dX6_sideAt_30 rfl rfl ?_
        refine g_goto 37 C dX6_sideAt_31 (by decide) ?_
        refine g_istore (lv' := [(5, _), (4, _), (3, _), (0, _), (1, _), (2, _)]) 39 C dX6_sideAt_37 rfl (by decide) rfl ?_
        refine g_iload 41 C 0 dX6_sideAt_39 rfl rfl ?_
        refine g_if_lt 55 44 C dX6_sideAt_41 (by decide) rfl (by omega) ?_ ?_
        · intro h41
          refine g_bipush 57 C dX6_sideAt_55 rfl (by decide) ?_
          refine g_goto 72 C dX6_sideAt_57 (by decide) ?_
          exact g_iret C hr dX6_sideAt_72 ⟨g_ri (by unfold sdI; (repeat' split) <;> first | rfl | omega), rfl⟩
        · intro h41
          refine g_iload 46 C 0 dX6_sideAt_44 rfl rfl ?_
          refine g_aload_n 47 C 3 dX6_sideAt_46 rfl rfl ?_
          refine g_get 50 C 0 1 6 iX6_sideAt_X6 lX6_sideAt_47 dX6_sideAt_47 rfl rfl rfl (by decide) rfl ?_
          refine g_iconst 51 C dX6_sideAt_50 rfl ?_
          refine g_isub 52 C dX6_sideAt_51 rfl ?_
          refine g_icmp_ne 60 55 C dX6_sideAt_52 (by decide) rfl (by omega) ?_ ?_
          · intro h52
            refine g_iload 62 C 1 dX6_sideAt_60 rfl rfl ?_
            refine g_aload_n 63 C 3 dX6_sideAt_62 rfl rfl ?_
            refine g_get 66 C 0 1 6 iX6_sideAt_X6 lX6_sideAt_47 dX6_sideAt_63 rfl rfl rfl (by decide) rfl ?_
            refine g_iconst 67 C dX6_sideAt_66 rfl ?_
            refine g_isub 68 C dX6_sideAt_67 rfl ?_
            refine g_imul 69 C dX6_sideAt_68 rfl ?_
            refine g_iload 71 C 0 dX6_sideAt_69 rfl rfl ?_
            refine g_iadd 72 C dX6_sideAt_71 rfl ?_
            exact g_iret C hr dX6_sideAt_72 ⟨g_ri (by unfold sdI; (repeat' split) <;> first | rfl | omega), rfl⟩
          · intro h52
            refine g_bipush 57 C dX6_sideAt_55 rfl (by decide) ?_
            refine g_goto 72 C dX6_sideAt_57 (by decide) ?_
            exact g_iret C hr dX6_sideAt_72 ⟨g_ri (by unfold sdI; (repeat' split) <;> first | rfl | omega), rfl⟩
theorem cdX6_noPiece : yX6_noPiece.cls = RX6 ∧ yX6_noPiece.cls ≠ "java/lang/invoke/MethodHandle" ∧ yX6_noPiece.cls ≠ "java/lang/invoke/VarHandle" ∧ (parseMethodDescriptor yX6_noPiece.desc).map (fun d => d.parameters.length) = some 1 := by decide +kernel
theorem cdX6_sideAt : yX6_sideAt.cls = RX6 ∧ yX6_sideAt.cls ≠ "java/lang/invoke/MethodHandle" ∧ yX6_sideAt.cls ≠ "java/lang/invoke/VarHandle" ∧ (parseMethodDescriptor yX6_sideAt.desc).map (fun d => d.parameters.length) = some 2 := by decide +kernel
theorem lX6_sideOf_118 : Cond.constantLong RX6 118 (3) ∈ wsX6_sideOf := by decide +kernel
set_option maxHeartbeats 4000000 in
set_option maxRecDepth 100000 in
theorem k_X6_sideOf (E : gE) (l : Launch) {a_M a_Ma a_Mc a_Mg a_Mh a_Mi a_Ml a_Mp a_Ms a_Mt a_Mu a_Mx a_My : Nat} {p e : Int} {mf W h mL mN n tc fd jo tr : Int} {md : Int64} (hB : 1 ≤ W ∧ W ≤ 5 ∧ 1 ≤ h ∧ h ≤ 5) (hp : -2147483648 ≤ p ∧ p < 2147483648) (he : -2147483648 ≤ e ∧ e < 2147483648) : gFun E l yX6_sideOf wsX6_sideOf { frames := 2, cells := 0, slots := 0, locals := 46 } [.ref a_M, .int (iI p), .int (iI e)] [(a_M, .inr (6, [.int (iI mf), .int (iI W), .int (iI h), .ref a_Mh, .long md, .int (iI mL), .int (iI mN), .int (iI n), .ref a_Mp, .ref a_Mt, .int (iI tc), .int (iI fd), .ref a_Ma, .ref a_Mu, .ref a_Mi, .int (iI jo), .ref a_Mx, .ref a_My, .ref a_Ms, .ref a_Ml, .ref a_Mc, .ref a_Mg, .int (iI tr)]))] (.int (iI (if (0 ≤ p ∧ p < W * h) ∧ 0 ≤ e ∧ e < 4 then sdI W h p e else -1))) := by
  refine g_start (cc := cX6_sideOf) (maxL := 3) (ret := (some .int)) (by decide) rfl (Nat.le_of_ble_eq_true rfl) ?_
  intro p_ e_ s_ m_ args_ below_ meth_ c_ A_ C hr hnm
  have hN := nsd_b hB
  refine g_aload_n 1 C 0 dX6_sideOf_0 rfl rfl ?_
  refine g_iload_n 2 C 1 dX6_sideOf_1 rfl rfl ?_
  refine g_callVF 5 C [0] dX6_sideOf_2 rfl (k_X6_noPiece E l  (by first | assumption | omega) (by first | assumption | omega)) (cwV 1 C.2.2.2.2.1 gX6_sideOf_X6_noPiece rfl rfl rfl cdX6_noPiece ⟨Nat.le_of_ble_eq_true rfl, Nat.le_of_ble_eq_true rfl⟩) rfl rfl rfl rfl (Nat.le_of_ble_eq_true rfl) 0 6 rfl rfl rfl ⟨Nat.le_of_ble_eq_true rfl, Nat.le_of_ble_eq_true rfl⟩ ?_
  refine g_ifb_ne 20 8 C dX6_sideOf_5 (by decide) rfl ?_ ?_
  · intro h5
    refine g_iconst 21 C dX6_sideOf_20 rfl ?_
    refine g_goto 30 C dX6_sideOf_21 (by decide) ?_
    exact g_iret C hr dX6_sideOf_30 ⟨g_ri (by first | rfl | omega | exact (if_pos (by omega)).symm | exact (if_neg (by omega)).symm), rfl⟩
  · intro h5
    refine g_iload_n 9 C 2 dX6_sideOf_8 rfl rfl ?_
    refine g_i2l 10 C dX6_sideOf_9 rfl (by omega) ?_
    refine g_lconst 11 C 0 dX6_sideOf_10 rfl (by decide) ?_
    refine g_ldc2 14 C (3) dX6_sideOf_11 rfl lX6_sideOf_118 (by decide) ?_
    refine g_callSF 17 C [] dX6_sideOf_14 rfl (k_X6_in E l  (by first | assumption | omega) (by first | assumption | omega) (by first | assumption | omega)) (va_cwS 3 C.2.2.2.2.1 gX6_sideOf_X6_in rfl rfl rfl cdX6_in ⟨Nat.le_of_ble_eq_true rfl, Nat.le_of_ble_eq_true rfl⟩) rfl rfl rfl rfl (Nat.le_of_ble_eq_true rfl) ⟨Nat.le_of_ble_eq_true rfl, Nat.le_of_ble_eq_true rfl⟩ ?_
    refine g_ifb_ne 24 20 C dX6_sideOf_17 (by decide) rfl ?_ ?_
    · intro h17
      refine g_aload_n 25 C 0 dX6_sideOf_24 rfl rfl ?_
      refine g_iload_n 26 C 1 dX6_sideOf_25 rfl rfl ?_
      refine g_iload_n 27 C 2 dX6_sideOf_26 rfl rfl ?_
      refine g_callVF 30 C [0] dX6_sideOf_27 rfl (k_X6_sideAt E l  (by first | assumption | omega) (by first | assumption | omega) (by first | assumption | omega)) (cwV 2 C.2.2.2.2.1 gX6_sideOf_X6_sideAt rfl rfl rfl cdX6_sideAt ⟨Nat.le_of_ble_eq_true rfl, Nat.le_of_ble_eq_true rfl⟩) rfl rfl rfl rfl (Nat.le_of_ble_eq_true rfl) 0 6 rfl rfl rfl ⟨Nat.le_of_ble_eq_true rfl, Nat.le_of_ble_eq_true rfl⟩ ?_
      exact g_iret C hr dX6_sideOf_30 ⟨g_ri (by first | rfl | omega | exact (if_pos (by omega)).symm | exact (if_neg (by omega)).symm), rfl⟩
    · intro h17
      refine g_iconst 21 C dX6_sideOf_20 rfl ?_
      refine g_goto 30 C dX6_sideOf_21 (by decide) ?_
      exact g_iret C hr dX6_sideOf_30 ⟨g_ri (by first | rfl | omega | exact (if_pos (by omega)).symm | exact (if_neg (by omega)).symm), rfl⟩
theorem lX6_heightAt_7 : Cond.fieldLink RX6 7 (TX6 3).1 (TX6 3).2.1 (TX6 3).2.2.1 ∈ wsX6_heightAt := by decide +kernel
theorem iX6_heightAt_X6 : ∀ w ∈ u_ws RX6 TX6 23, w ∈ wsX6_heightAt := by decide +kernel
set_option maxHeartbeats 4000000 in
set_option maxRecDepth 100000 in
theorem k_X6_heightAt (E : gE) (l : Launch) {a_M a_Ma a_Mc a_Mg a_Mh a_Mi a_Ml a_Mp a_Ms a_Mt a_Mu a_Mx a_My : Nat} {p e i : Int} {hs : Int → Int} {mf W h mL mN n tc fd jo tr : Int} {md : Int64} (hB : 1 ≤ W ∧ W ≤ 5 ∧ 1 ≤ h ∧ h ≤ 5) (hp : 0 ≤ p ∧ p < W * h) (he : 0 ≤ e ∧ e < 4) (hf : sdI W h p e ≠ -9) (hi : 0 ≤ i ∧ i < 5) : gFun E l yX6_heightAt wsX6_heightAt { frames := 2, cells := 0, slots := 0, locals := 45 } [.ref a_M, .int (iI p), .int (iI e), .int (iI i)] [(a_M, .inr (6, [.int (iI mf), .int (iI W), .int (iI h), .ref a_Mh, .long md, .int (iI mL), .int (iI mN), .int (iI n), .ref a_Mp, .ref a_Mt, .int (iI tc), .int (iI fd), .ref a_Ma, .ref a_Mu, .ref a_Mi, .int (iI jo), .ref a_Mx, .ref a_My, .ref a_Ms, .ref a_Ml, .ref a_Mc, .ref a_Mg, .int (iI tr)])), (a_Mh, aI E 200 hs)] (.int (iI (ehI W h hs p e i))) := by
  refine g_start (cc := cX6_heightAt) (maxL := 5) (ret := (some .int)) (by decide) rfl (Nat.le_of_ble_eq_true rfl) ?_
  intro p_ e_ s_ m_ args_ below_ meth_ c_ A_ C hr hnm
  have hN := nsd_b hB
  have hb := sdI_b hB hp he
  refine g_iconst 1 C dX6_heightAt_0 rfl ?_
  refine g_aload_n 2 C 0 dX6_heightAt_1 rfl rfl ?_
  refine g_iload_n 3 C 1 dX6_heightAt_2 rfl rfl ?_
  refine g_iload_n 4 C 2 dX6_heightAt_3 rfl rfl ?_
  refine g_callVF 7 C [0] dX6_heightAt_4 rfl (k_X6_sideAt E l  (by first | assumption | omega) (by first | assumption | omega) (by first | assumption | omega)) (cwV 2 C.2.2.2.2.1 gX6_heightAt_X6_sideAt rfl rfl rfl cdX6_sideAt ⟨Nat.le_of_ble_eq_true rfl, Nat.le_of_ble_eq_true rfl⟩) rfl rfl rfl rfl (Nat.le_of_ble_eq_true rfl) 0 6 rfl rfl rfl ⟨Nat.le_of_ble_eq_true rfl, Nat.le_of_ble_eq_true rfl⟩ ?_
  refine g_imul 8 C dX6_heightAt_7 rfl ?_
  refine g_istore (lv' := [(4, _), (0, _), (1, _), (2, _), (3, _)]) 10 C dX6_heightAt_8 rfl (by decide) rfl ?_
  refine g_iload_n 11 C 3 dX6_heightAt_10 rfl rfl ?_
  refine g_iconst 12 C dX6_heightAt_11 rfl ?_
  refine g_icmp_eq 20 15 C dX6_heightAt_12 (by decide) rfl (by omega) ?_ ?_
  · intro h12
    refine g_aload_n 21 C 1 dX6_heightAt_20 rfl rfl ?_
    refine g_get 24 C 0 3 6 iX6_heightAt_X6 lX6_heightAt_7 dX6_heightAt_21 rfl rfl rfl (by decide) rfl ?_
    refine g_iload 26 C 0 dX6_heightAt_24 rfl rfl ?_
    refine g_iload_n 27 C 4 dX6_heightAt_26 rfl rfl ?_
    refine g_iadd 28 C dX6_heightAt_27 rfl ?_
    refine g_iaload 29 C 1 dX6_heightAt_28 rfl rfl (by omega) ?_
    refine g_goto 44 C dX6_heightAt_29 (by decide) ?_
    exact g_iret C hr dX6_heightAt_44 ⟨g_ri (by first | exact eh_a (by omega) | exact eh_b (by omega)), rfl⟩
  · intro h12
    refine g_iload_n 16 C 3 dX6_heightAt_15 rfl rfl ?_
    refine g_iconst 17 C dX6_heightAt_16 rfl ?_
    refine g_icmp_ne 32 20 C dX6_heightAt_17 (by decide) rfl (by omega) ?_ ?_
    · intro h17
      refine g_aload_n 33 C 1 dX6_heightAt_32 rfl rfl ?_
      refine g_get 36 C 0 3 6 iX6_heightAt_X6 lX6_heightAt_7 dX6_heightAt_33 rfl rfl rfl (by decide) rfl ?_
      refine g_iload 38 C 0 dX6_heightAt_36 rfl rfl ?_
      refine g_iconst 39 C dX6_heightAt_38 rfl ?_
      refine g_iadd 40 C dX6_heightAt_39 rfl ?_
      refine g_iload_n 41 C 4 dX6_heightAt_40 rfl rfl ?_
      refine g_isub 42 C dX6_heightAt_41 rfl ?_
      refine g_iaload 43 C 1 dX6_heightAt_42 rfl rfl (by omega) ?_
      refine g_ineg 44 C dX6_heightAt_43 rfl ?_
      exact g_iret C hr dX6_heightAt_44 ⟨g_ri (by first | exact eh_a (by omega) | exact eh_b (by omega)), rfl⟩
    · intro h17
      refine g_aload_n 21 C 1 dX6_heightAt_20 rfl rfl ?_
      refine g_get 24 C 0 3 6 iX6_heightAt_X6 lX6_heightAt_7 dX6_heightAt_21 rfl rfl rfl (by decide) rfl ?_
      refine g_iload 26 C 0 dX6_heightAt_24 rfl rfl ?_
      refine g_iload_n 27 C 4 dX6_heightAt_26 rfl rfl ?_
      refine g_iadd 28 C dX6_heightAt_27 rfl ?_
      refine g_iaload 29 C 1 dX6_heightAt_28 rfl rfl (by omega) ?_
      refine g_goto 44 C dX6_heightAt_29 (by decide) ?_
      exact g_iret C hr dX6_heightAt_44 ⟨g_ri (by first | exact eh_a (by omega) | exact eh_b (by omega)), rfl⟩
theorem cdX6_heightAt : yX6_heightAt.cls = RX6 ∧ yX6_heightAt.cls ≠ "java/lang/invoke/MethodHandle" ∧ yX6_heightAt.cls ≠ "java/lang/invoke/VarHandle" ∧ (parseMethodDescriptor yX6_heightAt.desc).map (fun d => d.parameters.length) = some 3 := by decide +kernel
theorem lX6_edge_109 : Cond.constantLong RX6 109 (4) ∈ wsX6_edge := by decide +kernel
theorem lX6_edge_118 : Cond.constantLong RX6 118 (3) ∈ wsX6_edge := by decide +kernel
set_option maxHeartbeats 4000000 in
set_option maxRecDepth 100000 in
theorem k_X6_edge (E : gE) (l : Launch) {a_M a_Ma a_Mc a_Mg a_Mh a_Mi a_Ml a_Mp a_Ms a_Mt a_Mu a_Mx a_My : Nat} {p e i : Int} {hs : Int → Int} {mf W h mL mN n tc fd jo tr : Int} {md : Int64} (hB : 1 ≤ W ∧ W ≤ 5 ∧ 1 ≤ h ∧ h ≤ 5) (hh : hB9 hs) (hp : -2147483648 ≤ p ∧ p < 2147483648) (he : -2147483648 ≤ e ∧ e < 2147483648) (hi : -2147483648 ≤ i ∧ i < 2147483648) : gFun E l yX6_edge wsX6_edge { frames := 3, cells := 0, slots := 0, locals := 69 } [.ref a_M, .int (iI p), .int (iI e), .int (iI i)] [(a_M, .inr (6, [.int (iI mf), .int (iI W), .int (iI h), .ref a_Mh, .long md, .int (iI mL), .int (iI mN), .int (iI n), .ref a_Mp, .ref a_Mt, .int (iI tc), .int (iI fd), .ref a_Ma, .ref a_Mu, .ref a_Mi, .int (iI jo), .ref a_Mx, .ref a_My, .ref a_Ms, .ref a_Ml, .ref a_Mc, .ref a_Mg, .int (iI tr)])), (a_Mh, aI E 200 hs)] (.long (lI (if ((0 ≤ p ∧ p < W * h) ∧ 0 ≤ e ∧ e < 4) ∧ (0 ≤ i ∧ i < 5) ∧ sdI W h p e ≠ -9 then ehI W h hs p e i else -9223372036854775808))) := by
  refine g_start (cc := cX6_edge) (maxL := 4) (ret := (some .long)) (by decide) rfl (Nat.le_of_ble_eq_true rfl) ?_
  intro p_ e_ s_ m_ args_ below_ meth_ c_ A_ C hr hnm
  have hN := nsd_b hB
  refine g_aload_n 1 C 0 dX6_edge_0 rfl rfl ?_
  refine g_iload_n 2 C 1 dX6_edge_1 rfl rfl ?_
  refine g_callVF 5 C [0] dX6_edge_2 rfl (k_X6_noPiece E l  (by first | assumption | omega) (by first | assumption | omega)) (cwV 1 C.2.2.2.2.1 gX6_edge_X6_noPiece rfl rfl rfl cdX6_noPiece ⟨Nat.le_of_ble_eq_true rfl, Nat.le_of_ble_eq_true rfl⟩) rfl rfl rfl rfl (Nat.le_of_ble_eq_true rfl) 0 6 rfl rfl rfl ⟨Nat.le_of_ble_eq_true rfl, Nat.le_of_ble_eq_true rfl⟩ ?_
  refine g_ifb_ne 41 8 C dX6_edge_5 (by decide) rfl ?_ ?_
  · intro h5
    refine g_callSF 44 C [] dX6_edge_41 rfl (k_X6_lost E l  ) (va_cwS 0 C.2.2.2.2.1 gX6_edge_X6_lost rfl rfl rfl cdX6_lost ⟨Nat.le_of_ble_eq_true rfl, Nat.le_of_ble_eq_true rfl⟩) rfl rfl rfl rfl (Nat.le_of_ble_eq_true rfl) ⟨Nat.le_of_ble_eq_true rfl, Nat.le_of_ble_eq_true rfl⟩ ?_
    exact g_lret C hr dX6_edge_44 ⟨g_rl (by first | rfl | omega | exact (if_pos (by omega)).symm | exact (if_neg (by omega)).symm), rfl⟩
  · intro h5
    refine g_iload_n 9 C 2 dX6_edge_8 rfl rfl ?_
    refine g_i2l 10 C dX6_edge_9 rfl (by omega) ?_
    refine g_lconst 11 C 0 dX6_edge_10 rfl (by decide) ?_
    refine g_ldc2 14 C (3) dX6_edge_11 rfl lX6_edge_118 (by decide) ?_
    refine g_callSF 17 C [] dX6_edge_14 rfl (k_X6_in E l  (by first | assumption | omega) (by first | assumption | omega) (by first | assumption | omega)) (va_cwS 3 C.2.2.2.2.1 gX6_edge_X6_in rfl rfl rfl cdX6_in ⟨Nat.le_of_ble_eq_true rfl, Nat.le_of_ble_eq_true rfl⟩) rfl rfl rfl rfl (Nat.le_of_ble_eq_true rfl) ⟨Nat.le_of_ble_eq_true rfl, Nat.le_of_ble_eq_true rfl⟩ ?_
    refine g_ifb_eq 41 20 C dX6_edge_17 (by decide) rfl ?_ ?_
    · intro h17
      refine g_callSF 44 C [] dX6_edge_41 rfl (k_X6_lost E l  ) (va_cwS 0 C.2.2.2.2.1 gX6_edge_X6_lost rfl rfl rfl cdX6_lost ⟨Nat.le_of_ble_eq_true rfl, Nat.le_of_ble_eq_true rfl⟩) rfl rfl rfl rfl (Nat.le_of_ble_eq_true rfl) ⟨Nat.le_of_ble_eq_true rfl, Nat.le_of_ble_eq_true rfl⟩ ?_
      exact g_lret C hr dX6_edge_44 ⟨g_rl (by first | rfl | omega | exact (if_pos (by omega)).symm | exact (if_neg (by omega)).symm), rfl⟩
    · intro h17
      refine g_iload_n 21 C 3 dX6_edge_20 rfl rfl ?_
      refine g_i2l 22 C dX6_edge_21 rfl (by omega) ?_
      refine g_lconst 23 C 0 dX6_edge_22 rfl (by decide) ?_
      refine g_ldc2 26 C (4) dX6_edge_23 rfl lX6_edge_109 (by decide) ?_
      refine g_callSF 29 C [] dX6_edge_26 rfl (k_X6_in E l  (by first | assumption | omega) (by first | assumption | omega) (by first | assumption | omega)) (va_cwS 3 C.2.2.2.2.1 gX6_edge_X6_in rfl rfl rfl cdX6_in ⟨Nat.le_of_ble_eq_true rfl, Nat.le_of_ble_eq_true rfl⟩) rfl rfl rfl rfl (Nat.le_of_ble_eq_true rfl) ⟨Nat.le_of_ble_eq_true rfl, Nat.le_of_ble_eq_true rfl⟩ ?_
      refine g_ifb_eq 41 32 C dX6_edge_29 (by decide) rfl ?_ ?_
      · intro h29
        refine g_callSF 44 C [] dX6_edge_41 rfl (k_X6_lost E l  ) (va_cwS 0 C.2.2.2.2.1 gX6_edge_X6_lost rfl rfl rfl cdX6_lost ⟨Nat.le_of_ble_eq_true rfl, Nat.le_of_ble_eq_true rfl⟩) rfl rfl rfl rfl (Nat.le_of_ble_eq_true rfl) ⟨Nat.le_of_ble_eq_true rfl, Nat.le_of_ble_eq_true rfl⟩ ?_
        exact g_lret C hr dX6_edge_44 ⟨g_rl (by first | rfl | omega | exact (if_pos (by omega)).symm | exact (if_neg (by omega)).symm), rfl⟩
      · intro h29
        refine g_aload_n 33 C 0 dX6_edge_32 rfl rfl ?_
        refine g_iload_n 34 C 1 dX6_edge_33 rfl rfl ?_
        refine g_iload_n 35 C 2 dX6_edge_34 rfl rfl ?_
        refine g_callVF 38 C [0] dX6_edge_35 rfl (k_X6_sideAt E l  (by first | assumption | omega) (by first | assumption | omega) (by first | assumption | omega)) (cwV 2 C.2.2.2.2.1 gX6_edge_X6_sideAt rfl rfl rfl cdX6_sideAt ⟨Nat.le_of_ble_eq_true rfl, Nat.le_of_ble_eq_true rfl⟩) rfl rfl rfl rfl (Nat.le_of_ble_eq_true rfl) 0 6 rfl rfl rfl ⟨Nat.le_of_ble_eq_true rfl, Nat.le_of_ble_eq_true rfl⟩ ?_
        have hb := sdI_b (p := p) (e := e) hB (by omega) (by omega)
        refine g_if_ge 45 41 C dX6_edge_38 (by decide) rfl (by omega) ?_ ?_
        · intro h38
          refine g_aload_n 46 C 0 dX6_edge_45 rfl rfl ?_
          refine g_iload_n 47 C 1 dX6_edge_46 rfl rfl ?_
          refine g_iload_n 48 C 2 dX6_edge_47 rfl rfl ?_
          refine g_iload_n 49 C 3 dX6_edge_48 rfl rfl ?_
          refine g_callVF 52 C [0, 1] dX6_edge_49 rfl (k_X6_heightAt E l  (by first | assumption | omega) (by first | assumption | omega) (by first | assumption | omega) (by first | assumption | omega) (by first | assumption | omega)) (cwV 3 C.2.2.2.2.1 gX6_edge_X6_heightAt rfl rfl rfl cdX6_heightAt ⟨Nat.le_of_ble_eq_true rfl, Nat.le_of_ble_eq_true rfl⟩) rfl rfl rfl rfl (Nat.le_of_ble_eq_true rfl) 0 6 rfl rfl rfl ⟨Nat.le_of_ble_eq_true rfl, Nat.le_of_ble_eq_true rfl⟩ ?_
          have e0 := ehI_b (W := W) (h := h) hh p e i
          refine g_i2l 53 C dX6_edge_52 rfl (by omega) ?_
          exact g_lret C hr dX6_edge_53 ⟨g_rl (by first | rfl | omega | exact (if_pos (by omega)).symm | exact (if_neg (by omega)).symm), rfl⟩
        · intro h38
          refine g_callSF 44 C [] dX6_edge_41 rfl (k_X6_lost E l  ) (va_cwS 0 C.2.2.2.2.1 gX6_edge_X6_lost rfl rfl rfl cdX6_lost ⟨Nat.le_of_ble_eq_true rfl, Nat.le_of_ble_eq_true rfl⟩) rfl rfl rfl rfl (Nat.le_of_ble_eq_true rfl) ⟨Nat.le_of_ble_eq_true rfl, Nat.le_of_ble_eq_true rfl⟩ ?_
          exact g_lret C hr dX6_edge_44 ⟨g_rl (by first | rfl | omega | exact (if_pos (by omega)).symm | exact (if_neg (by omega)).symm), rfl⟩
theorem cdX6_sizeOf : yX6_sizeOf.cls ≠ "java/lang/invoke/MethodHandle" ∧ yX6_sizeOf.cls ≠ "java/lang/invoke/VarHandle" ∧ (parseMethodDescriptor yX6_sizeOf.desc).map (fun d => d.parameters.length) = some 1 := by decide +kernel
set_option maxHeartbeats 4000000 in
set_option maxRecDepth 100000 in
theorem k_X6_farOf (E : gE) (l : Launch) {a_M a_Ma a_Mc a_Mg a_Mh a_Mi a_Ml a_Mp a_Ms a_Mt a_Mu a_Mx a_My : Nat} {p e q f : Int} {hs : Int → Int} {mf W h mL mN n tc fd jo tr : Int} {md : Int64} (hB : 1 ≤ W ∧ W ≤ 5 ∧ 1 ≤ h ∧ h ≤ 5) (hp : 0 ≤ p ∧ p < W * h) (he : 0 ≤ e ∧ e < 4) (hf : sdI W h p e ≠ -9) (hq : 0 ≤ q ∧ q < W * h) (hf4 : 0 ≤ f ∧ f < 4) (hg : sdI W h q f ≠ -9) (hh : hB9 hs) : gFun E l yX6_farOf wsX6_farOf { frames := 3, cells := 0, slots := 0, locals := 69 } [.ref a_M, .int (iI p), .int (iI e), .int (iI q), .int (iI f)] [(a_M, .inr (6, [.int (iI mf), .int (iI W), .int (iI h), .ref a_Mh, .long md, .int (iI mL), .int (iI mN), .int (iI n), .ref a_Mp, .ref a_Mt, .int (iI tc), .int (iI fd), .ref a_Ma, .ref a_Mu, .ref a_Mi, .int (iI jo), .ref a_Mx, .ref a_My, .ref a_Ms, .ref a_Ml, .ref a_Mc, .ref a_Mg, .int (iI tr)])), (a_Mh, aI E 200 hs)] (.int (iI (frI W h hs p e q f))) := by
  refine g_start (cc := cX6_farOf) (maxL := 7) (ret := (some .int)) (by decide) rfl (Nat.le_of_ble_eq_true rfl) ?_
  intro p_ e_ s_ m_ args_ below_ meth_ c_ A_ C hr hnm
  have hN := nsd_b hB
  refine g_iconst 1 C dX6_farOf_0 rfl ?_
  refine g_istore (lv' := [(5, _), (0, _), (1, _), (2, _), (3, _), (4, _)]) 3 C dX6_farOf_1 rfl (by decide) rfl ?_
  refine g_iconst 4 C dX6_farOf_3 rfl ?_
  refine g_istore (lv' := [(6, _), (5, _), (0, _), (1, _), (2, _), (3, _), (4, _)]) 6 C dX6_farOf_4 rfl (by decide) rfl ?_
  refine g_iload 8 C 0 dX6_farOf_6 rfl rfl ?_
  refine g_iconst 9 C dX6_farOf_8 rfl ?_
  refine g_icmp_ge 46 12 C dX6_farOf_9 (by decide) rfl (by omega) (fun q => absurd q (by omega)) ?_
  intro _
  refine g_iload 14 C 1 dX6_farOf_12 rfl rfl ?_
  refine g_aload_n 15 C 2 dX6_farOf_14 rfl rfl ?_
  refine g_iload_n 16 C 3 dX6_farOf_15 rfl rfl ?_
  refine g_iload_n 17 C 4 dX6_farOf_16 rfl rfl ?_
  refine g_iload 19 C 0 dX6_farOf_17 rfl rfl ?_
  refine g_callVF 22 C [0, 1] dX6_farOf_19 rfl (k_X6_heightAt E l  (by first | assumption | omega) (by first | assumption | omega) (by first | assumption | omega) (by first | assumption | omega) (by first | assumption | omega)) (cwV 3 C.2.2.2.2.1 gX6_farOf_X6_heightAt rfl rfl rfl cdX6_heightAt ⟨Nat.le_of_ble_eq_true rfl, Nat.le_of_ble_eq_true rfl⟩) rfl rfl rfl rfl (Nat.le_of_ble_eq_true rfl) 0 6 rfl rfl rfl ⟨Nat.le_of_ble_eq_true rfl, Nat.le_of_ble_eq_true rfl⟩ ?_
  refine g_aload_n 23 C 2 dX6_farOf_22 rfl rfl ?_
  refine g_iload_n 24 C 5 dX6_farOf_23 rfl rfl ?_
  refine g_iload 26 C 6 dX6_farOf_24 rfl rfl ?_
  refine g_iconst 27 C dX6_farOf_26 rfl ?_
  refine g_iload 29 C 0 dX6_farOf_27 rfl rfl ?_
  refine g_isub 30 C dX6_farOf_29 rfl ?_
  refine g_callVF 33 C [0, 1] dX6_farOf_30 rfl (k_X6_heightAt E l  (by first | assumption | omega) (by first | assumption | omega) (by first | assumption | omega) (by first | assumption | omega) (by first | assumption | omega)) (cwV 3 C.2.2.2.2.1 gX6_farOf_X6_heightAt rfl rfl rfl cdX6_heightAt ⟨Nat.le_of_ble_eq_true rfl, Nat.le_of_ble_eq_true rfl⟩) rfl rfl rfl rfl (Nat.le_of_ble_eq_true rfl) 0 6 rfl rfl rfl ⟨Nat.le_of_ble_eq_true rfl, Nat.le_of_ble_eq_true rfl⟩ ?_
  refine g_iadd 34 C dX6_farOf_33 rfl ?_
  have ha := ehI_b (W := W) (h := h) hh p e 0
  have hb := ehI_b (W := W) (h := h) hh q f (4 - 0)
  refine g_callSF 37 C [] dX6_farOf_34 rfl (k_X6_sizeOf E l  (by first | assumption | omega)) (va_cwS 1 C.2.2.2.2.1 gX6_farOf_X6_sizeOf rfl rfl rfl cdX6_sizeOf ⟨Nat.le_of_ble_eq_true rfl, Nat.le_of_ble_eq_true rfl⟩) rfl rfl rfl rfl (Nat.le_of_ble_eq_true rfl) ⟨Nat.le_of_ble_eq_true rfl, Nat.le_of_ble_eq_true rfl⟩ ?_
  refine g_iadd 38 C dX6_farOf_37 rfl ?_
  refine g_istore (lv' := [(5, _), (6, _), (0, _), (1, _), (2, _), (3, _), (4, _)]) 40 C dX6_farOf_38 rfl (by decide) rfl ?_
  refine g_iinc (lv' := [(6, .int (iI 1)), (5, _), (0, _), (1, _), (2, _), (3, _), (4, _)]) 43 C 1 dX6_farOf_40 rfl rfl (by decide) rfl ?_
  refine g_goto 6 C dX6_farOf_43 (by decide) ?_
  refine g_iload 8 C 0 dX6_farOf_6 rfl rfl ?_
  refine g_iconst 9 C dX6_farOf_8 rfl ?_
  refine g_icmp_ge 46 12 C dX6_farOf_9 (by decide) rfl (by omega) (fun q => absurd q (by omega)) ?_
  intro _
  refine g_iload 14 C 1 dX6_farOf_12 rfl rfl ?_
  refine g_aload_n 15 C 2 dX6_farOf_14 rfl rfl ?_
  refine g_iload_n 16 C 3 dX6_farOf_15 rfl rfl ?_
  refine g_iload_n 17 C 4 dX6_farOf_16 rfl rfl ?_
  refine g_iload 19 C 0 dX6_farOf_17 rfl rfl ?_
  refine g_callVF 22 C [0, 1] dX6_farOf_19 rfl (k_X6_heightAt E l  (by first | assumption | omega) (by first | assumption | omega) (by first | assumption | omega) (by first | assumption | omega) (by first | assumption | omega)) (cwV 3 C.2.2.2.2.1 gX6_farOf_X6_heightAt rfl rfl rfl cdX6_heightAt ⟨Nat.le_of_ble_eq_true rfl, Nat.le_of_ble_eq_true rfl⟩) rfl rfl rfl rfl (Nat.le_of_ble_eq_true rfl) 0 6 rfl rfl rfl ⟨Nat.le_of_ble_eq_true rfl, Nat.le_of_ble_eq_true rfl⟩ ?_
  refine g_aload_n 23 C 2 dX6_farOf_22 rfl rfl ?_
  refine g_iload_n 24 C 5 dX6_farOf_23 rfl rfl ?_
  refine g_iload 26 C 6 dX6_farOf_24 rfl rfl ?_
  refine g_iconst 27 C dX6_farOf_26 rfl ?_
  refine g_iload 29 C 0 dX6_farOf_27 rfl rfl ?_
  refine g_isub 30 C dX6_farOf_29 rfl ?_
  refine g_callVF 33 C [0, 1] dX6_farOf_30 rfl (k_X6_heightAt E l  (by first | assumption | omega) (by first | assumption | omega) (by first | assumption | omega) (by first | assumption | omega) (by first | assumption | omega)) (cwV 3 C.2.2.2.2.1 gX6_farOf_X6_heightAt rfl rfl rfl cdX6_heightAt ⟨Nat.le_of_ble_eq_true rfl, Nat.le_of_ble_eq_true rfl⟩) rfl rfl rfl rfl (Nat.le_of_ble_eq_true rfl) 0 6 rfl rfl rfl ⟨Nat.le_of_ble_eq_true rfl, Nat.le_of_ble_eq_true rfl⟩ ?_
  refine g_iadd 34 C dX6_farOf_33 rfl ?_
  have ha := ehI_b (W := W) (h := h) hh p e 1
  have hb := ehI_b (W := W) (h := h) hh q f (4 - 1)
  refine g_callSF 37 C [] dX6_farOf_34 rfl (k_X6_sizeOf E l  (by first | assumption | omega)) (va_cwS 1 C.2.2.2.2.1 gX6_farOf_X6_sizeOf rfl rfl rfl cdX6_sizeOf ⟨Nat.le_of_ble_eq_true rfl, Nat.le_of_ble_eq_true rfl⟩) rfl rfl rfl rfl (Nat.le_of_ble_eq_true rfl) ⟨Nat.le_of_ble_eq_true rfl, Nat.le_of_ble_eq_true rfl⟩ ?_
  refine g_iadd 38 C dX6_farOf_37 rfl ?_
  refine g_istore (lv' := [(5, _), (6, _), (0, _), (1, _), (2, _), (3, _), (4, _)]) 40 C dX6_farOf_38 rfl (by decide) rfl ?_
  refine g_iinc (lv' := [(6, .int (iI 2)), (5, _), (0, _), (1, _), (2, _), (3, _), (4, _)]) 43 C 1 dX6_farOf_40 rfl rfl (by decide) rfl ?_
  refine g_goto 6 C dX6_farOf_43 (by decide) ?_
  refine g_iload 8 C 0 dX6_farOf_6 rfl rfl ?_
  refine g_iconst 9 C dX6_farOf_8 rfl ?_
  refine g_icmp_ge 46 12 C dX6_farOf_9 (by decide) rfl (by omega) (fun q => absurd q (by omega)) ?_
  intro _
  refine g_iload 14 C 1 dX6_farOf_12 rfl rfl ?_
  refine g_aload_n 15 C 2 dX6_farOf_14 rfl rfl ?_
  refine g_iload_n 16 C 3 dX6_farOf_15 rfl rfl ?_
  refine g_iload_n 17 C 4 dX6_farOf_16 rfl rfl ?_
  refine g_iload 19 C 0 dX6_farOf_17 rfl rfl ?_
  refine g_callVF 22 C [0, 1] dX6_farOf_19 rfl (k_X6_heightAt E l  (by first | assumption | omega) (by first | assumption | omega) (by first | assumption | omega) (by first | assumption | omega) (by first | assumption | omega)) (cwV 3 C.2.2.2.2.1 gX6_farOf_X6_heightAt rfl rfl rfl cdX6_heightAt ⟨Nat.le_of_ble_eq_true rfl, Nat.le_of_ble_eq_true rfl⟩) rfl rfl rfl rfl (Nat.le_of_ble_eq_true rfl) 0 6 rfl rfl rfl ⟨Nat.le_of_ble_eq_true rfl, Nat.le_of_ble_eq_true rfl⟩ ?_
  refine g_aload_n 23 C 2 dX6_farOf_22 rfl rfl ?_
  refine g_iload_n 24 C 5 dX6_farOf_23 rfl rfl ?_
  refine g_iload 26 C 6 dX6_farOf_24 rfl rfl ?_
  refine g_iconst 27 C dX6_farOf_26 rfl ?_
  refine g_iload 29 C 0 dX6_farOf_27 rfl rfl ?_
  refine g_isub 30 C dX6_farOf_29 rfl ?_
  refine g_callVF 33 C [0, 1] dX6_farOf_30 rfl (k_X6_heightAt E l  (by first | assumption | omega) (by first | assumption | omega) (by first | assumption | omega) (by first | assumption | omega) (by first | assumption | omega)) (cwV 3 C.2.2.2.2.1 gX6_farOf_X6_heightAt rfl rfl rfl cdX6_heightAt ⟨Nat.le_of_ble_eq_true rfl, Nat.le_of_ble_eq_true rfl⟩) rfl rfl rfl rfl (Nat.le_of_ble_eq_true rfl) 0 6 rfl rfl rfl ⟨Nat.le_of_ble_eq_true rfl, Nat.le_of_ble_eq_true rfl⟩ ?_
  refine g_iadd 34 C dX6_farOf_33 rfl ?_
  have ha := ehI_b (W := W) (h := h) hh p e 2
  have hb := ehI_b (W := W) (h := h) hh q f (4 - 2)
  refine g_callSF 37 C [] dX6_farOf_34 rfl (k_X6_sizeOf E l  (by first | assumption | omega)) (va_cwS 1 C.2.2.2.2.1 gX6_farOf_X6_sizeOf rfl rfl rfl cdX6_sizeOf ⟨Nat.le_of_ble_eq_true rfl, Nat.le_of_ble_eq_true rfl⟩) rfl rfl rfl rfl (Nat.le_of_ble_eq_true rfl) ⟨Nat.le_of_ble_eq_true rfl, Nat.le_of_ble_eq_true rfl⟩ ?_
  refine g_iadd 38 C dX6_farOf_37 rfl ?_
  refine g_istore (lv' := [(5, _), (6, _), (0, _), (1, _), (2, _), (3, _), (4, _)]) 40 C dX6_farOf_38 rfl (by decide) rfl ?_
  refine g_iinc (lv' := [(6, .int (iI 3)), (5, _), (0, _), (1, _), (2, _), (3, _), (4, _)]) 43 C 1 dX6_farOf_40 rfl rfl (by decide) rfl ?_
  refine g_goto 6 C dX6_farOf_43 (by decide) ?_
  refine g_iload 8 C 0 dX6_farOf_6 rfl rfl ?_
  refine g_iconst 9 C dX6_farOf_8 rfl ?_
  refine g_icmp_ge 46 12 C dX6_farOf_9 (by decide) rfl (by omega) (fun q => absurd q (by omega)) ?_
  intro _
  refine g_iload 14 C 1 dX6_farOf_12 rfl rfl ?_
  refine g_aload_n 15 C 2 dX6_farOf_14 rfl rfl ?_
  refine g_iload_n 16 C 3 dX6_farOf_15 rfl rfl ?_
  refine g_iload_n 17 C 4 dX6_farOf_16 rfl rfl ?_
  refine g_iload 19 C 0 dX6_farOf_17 rfl rfl ?_
  refine g_callVF 22 C [0, 1] dX6_farOf_19 rfl (k_X6_heightAt E l  (by first | assumption | omega) (by first | assumption | omega) (by first | assumption | omega) (by first | assumption | omega) (by first | assumption | omega)) (cwV 3 C.2.2.2.2.1 gX6_farOf_X6_heightAt rfl rfl rfl cdX6_heightAt ⟨Nat.le_of_ble_eq_true rfl, Nat.le_of_ble_eq_true rfl⟩) rfl rfl rfl rfl (Nat.le_of_ble_eq_true rfl) 0 6 rfl rfl rfl ⟨Nat.le_of_ble_eq_true rfl, Nat.le_of_ble_eq_true rfl⟩ ?_
  refine g_aload_n 23 C 2 dX6_farOf_22 rfl rfl ?_
  refine g_iload_n 24 C 5 dX6_farOf_23 rfl rfl ?_
  refine g_iload 26 C 6 dX6_farOf_24 rfl rfl ?_
  refine g_iconst 27 C dX6_farOf_26 rfl ?_
  refine g_iload 29 C 0 dX6_farOf_27 rfl rfl ?_
  refine g_isub 30 C dX6_farOf_29 rfl ?_
  refine g_callVF 33 C [0, 1] dX6_farOf_30 rfl (k_X6_heightAt E l  (by first | assumption | omega) (by first | assumption | omega) (by first | assumption | omega) (by first | assumption | omega) (by first | assumption | omega)) (cwV 3 C.2.2.2.2.1 gX6_farOf_X6_heightAt rfl rfl rfl cdX6_heightAt ⟨Nat.le_of_ble_eq_true rfl, Nat.le_of_ble_eq_true rfl⟩) rfl rfl rfl rfl (Nat.le_of_ble_eq_true rfl) 0 6 rfl rfl rfl ⟨Nat.le_of_ble_eq_true rfl, Nat.le_of_ble_eq_true rfl⟩ ?_
  refine g_iadd 34 C dX6_farOf_33 rfl ?_
  have ha := ehI_b (W := W) (h := h) hh p e 3
  have hb := ehI_b (W := W) (h := h) hh q f (4 - 3)
  refine g_callSF 37 C [] dX6_farOf_34 rfl (k_X6_sizeOf E l  (by first | assumption | omega)) (va_cwS 1 C.2.2.2.2.1 gX6_farOf_X6_sizeOf rfl rfl rfl cdX6_sizeOf ⟨Nat.le_of_ble_eq_true rfl, Nat.le_of_ble_eq_true rfl⟩) rfl rfl rfl rfl (Nat.le_of_ble_eq_true rfl) ⟨Nat.le_of_ble_eq_true rfl, Nat.le_of_ble_eq_true rfl⟩ ?_
  refine g_iadd 38 C dX6_farOf_37 rfl ?_
  refine g_istore (lv' := [(5, _), (6, _), (0, _), (1, _), (2, _), (3, _), (4, _)]) 40 C dX6_farOf_38 rfl (by decide) rfl ?_
  refine g_iinc (lv' := [(6, .int (iI 4)), (5, _), (0, _), (1, _), (2, _), (3, _), (4, _)]) 43 C 1 dX6_farOf_40 rfl rfl (by decide) rfl ?_
  refine g_goto 6 C dX6_farOf_43 (by decide) ?_
  refine g_iload 8 C 0 dX6_farOf_6 rfl rfl ?_
  refine g_iconst 9 C dX6_farOf_8 rfl ?_
  refine g_icmp_ge 46 12 C dX6_farOf_9 (by decide) rfl (by omega) (fun q => absurd q (by omega)) ?_
  intro _
  refine g_iload 14 C 1 dX6_farOf_12 rfl rfl ?_
  refine g_aload_n 15 C 2 dX6_farOf_14 rfl rfl ?_
  refine g_iload_n 16 C 3 dX6_farOf_15 rfl rfl ?_
  refine g_iload_n 17 C 4 dX6_farOf_16 rfl rfl ?_
  refine g_iload 19 C 0 dX6_farOf_17 rfl rfl ?_
  refine g_callVF 22 C [0, 1] dX6_farOf_19 rfl (k_X6_heightAt E l  (by first | assumption | omega) (by first | assumption | omega) (by first | assumption | omega) (by first | assumption | omega) (by first | assumption | omega)) (cwV 3 C.2.2.2.2.1 gX6_farOf_X6_heightAt rfl rfl rfl cdX6_heightAt ⟨Nat.le_of_ble_eq_true rfl, Nat.le_of_ble_eq_true rfl⟩) rfl rfl rfl rfl (Nat.le_of_ble_eq_true rfl) 0 6 rfl rfl rfl ⟨Nat.le_of_ble_eq_true rfl, Nat.le_of_ble_eq_true rfl⟩ ?_
  refine g_aload_n 23 C 2 dX6_farOf_22 rfl rfl ?_
  refine g_iload_n 24 C 5 dX6_farOf_23 rfl rfl ?_
  refine g_iload 26 C 6 dX6_farOf_24 rfl rfl ?_
  refine g_iconst 27 C dX6_farOf_26 rfl ?_
  refine g_iload 29 C 0 dX6_farOf_27 rfl rfl ?_
  refine g_isub 30 C dX6_farOf_29 rfl ?_
  refine g_callVF 33 C [0, 1] dX6_farOf_30 rfl (k_X6_heightAt E l  (by first | assumption | omega) (by first | assumption | omega) (by first | assumption | omega) (by first | assumption | omega) (by first | assumption | omega)) (cwV 3 C.2.2.2.2.1 gX6_farOf_X6_heightAt rfl rfl rfl cdX6_heightAt ⟨Nat.le_of_ble_eq_true rfl, Nat.le_of_ble_eq_true rfl⟩) rfl rfl rfl rfl (Nat.le_of_ble_eq_true rfl) 0 6 rfl rfl rfl ⟨Nat.le_of_ble_eq_true rfl, Nat.le_of_ble_eq_true rfl⟩ ?_
  refine g_iadd 34 C dX6_farOf_33 rfl ?_
  have ha := ehI_b (W := W) (h := h) hh p e 4
  have hb := ehI_b (W := W) (h := h) hh q f (4 - 4)
  refine g_callSF 37 C [] dX6_farOf_34 rfl (k_X6_sizeOf E l  (by first | assumption | omega)) (va_cwS 1 C.2.2.2.2.1 gX6_farOf_X6_sizeOf rfl rfl rfl cdX6_sizeOf ⟨Nat.le_of_ble_eq_true rfl, Nat.le_of_ble_eq_true rfl⟩) rfl rfl rfl rfl (Nat.le_of_ble_eq_true rfl) ⟨Nat.le_of_ble_eq_true rfl, Nat.le_of_ble_eq_true rfl⟩ ?_
  refine g_iadd 38 C dX6_farOf_37 rfl ?_
  refine g_istore (lv' := [(5, _), (6, _), (0, _), (1, _), (2, _), (3, _), (4, _)]) 40 C dX6_farOf_38 rfl (by decide) rfl ?_
  refine g_iinc (lv' := [(6, .int (iI 5)), (5, _), (0, _), (1, _), (2, _), (3, _), (4, _)]) 43 C 1 dX6_farOf_40 rfl rfl (by decide) rfl ?_
  refine g_goto 6 C dX6_farOf_43 (by decide) ?_
  refine g_iload 8 C 0 dX6_farOf_6 rfl rfl ?_
  refine g_iconst 9 C dX6_farOf_8 rfl ?_
  refine g_icmp_ge 46 12 C dX6_farOf_9 (by decide) rfl (by omega) ?_ (fun q => absurd q (by omega))
  intro _
  refine g_iload 48 C 1 dX6_farOf_46 rfl rfl ?_
  exact g_iret C hr dX6_farOf_48 ⟨g_ri (rfl), rfl⟩
theorem cdX6_farOf : yX6_farOf.cls = RX6 ∧ yX6_farOf.cls ≠ "java/lang/invoke/MethodHandle" ∧ yX6_farOf.cls ≠ "java/lang/invoke/VarHandle" ∧ (parseMethodDescriptor yX6_farOf.desc).map (fun d => d.parameters.length) = some 4 := by decide +kernel
theorem lX6_far_118 : Cond.constantLong RX6 118 (3) ∈ wsX6_far := by decide +kernel
set_option maxHeartbeats 4000000 in
set_option maxRecDepth 100000 in
theorem k_X6_far (E : gE) (l : Launch) {a_M a_Ma a_Mc a_Mg a_Mh a_Mi a_Ml a_Mp a_Ms a_Mt a_Mu a_Mx a_My : Nat} {p e q f : Int} {hs : Int → Int} {mf W h mL mN n tc fd jo tr : Int} {md : Int64} (hB : 1 ≤ W ∧ W ≤ 5 ∧ 1 ≤ h ∧ h ≤ 5) (hh : hB9 hs) (hp : -2147483648 ≤ p ∧ p < 2147483648) (he : -2147483648 ≤ e ∧ e < 2147483648) (hq : -2147483648 ≤ q ∧ q < 2147483648) (hf : -2147483648 ≤ f ∧ f < 2147483648) : gFun E l yX6_far wsX6_far { frames := 4, cells := 0, slots := 0, locals := 95 } [.ref a_M, .int (iI p), .int (iI e), .int (iI q), .int (iI f)] [(a_M, .inr (6, [.int (iI mf), .int (iI W), .int (iI h), .ref a_Mh, .long md, .int (iI mL), .int (iI mN), .int (iI n), .ref a_Mp, .ref a_Mt, .int (iI tc), .int (iI fd), .ref a_Ma, .ref a_Mu, .ref a_Mi, .int (iI jo), .ref a_Mx, .ref a_My, .ref a_Ms, .ref a_Ml, .ref a_Mc, .ref a_Mg, .int (iI tr)])), (a_Mh, aI E 200 hs)] (.int (iI (if ¬ (((0 ≤ p ∧ p < W * h) ∧ 0 ≤ e ∧ e < 4) ∧ ((0 ≤ q ∧ q < W * h) ∧ 0 ≤ f ∧ f < 4)) then -1 else if sdI W h p e = -9 ∨ sdI W h q f = -9 then -3 else frI W h hs p e q f))) := by
  refine g_start (cc := cX6_far) (maxL := 5) (ret := (some .int)) (by decide) rfl (Nat.le_of_ble_eq_true rfl) ?_
  intro p_ e_ s_ m_ args_ below_ meth_ c_ A_ C hr hnm
  have hN := nsd_b hB
  refine g_aload_n 1 C 0 dX6_far_0 rfl rfl ?_
  refine g_iload_n 2 C 1 dX6_far_1 rfl rfl ?_
  refine g_callVF 5 C [0] dX6_far_2 rfl (k_X6_noPiece E l  (by first | assumption | omega) (by first | assumption | omega)) (cwV 1 C.2.2.2.2.1 gX6_far_X6_noPiece rfl rfl rfl cdX6_noPiece ⟨Nat.le_of_ble_eq_true rfl, Nat.le_of_ble_eq_true rfl⟩) rfl rfl rfl rfl (Nat.le_of_ble_eq_true rfl) 0 6 rfl rfl rfl ⟨Nat.le_of_ble_eq_true rfl, Nat.le_of_ble_eq_true rfl⟩ ?_
  refine g_ifb_ne 41 8 C dX6_far_5 (by decide) rfl ?_ ?_
  · intro h5
    refine g_iconst 42 C dX6_far_41 rfl ?_
    exact g_iret C hr dX6_far_42 ⟨g_ri (by (repeat' split) <;> first | rfl | omega), rfl⟩
  · intro h5
    refine g_iload_n 9 C 2 dX6_far_8 rfl rfl ?_
    refine g_i2l 10 C dX6_far_9 rfl (by omega) ?_
    refine g_lconst 11 C 0 dX6_far_10 rfl (by decide) ?_
    refine g_ldc2 14 C (3) dX6_far_11 rfl lX6_far_118 (by decide) ?_
    refine g_callSF 17 C [] dX6_far_14 rfl (k_X6_in E l  (by first | assumption | omega) (by first | assumption | omega) (by first | assumption | omega)) (va_cwS 3 C.2.2.2.2.1 gX6_far_X6_in rfl rfl rfl cdX6_in ⟨Nat.le_of_ble_eq_true rfl, Nat.le_of_ble_eq_true rfl⟩) rfl rfl rfl rfl (Nat.le_of_ble_eq_true rfl) ⟨Nat.le_of_ble_eq_true rfl, Nat.le_of_ble_eq_true rfl⟩ ?_
    refine g_ifb_eq 41 20 C dX6_far_17 (by decide) rfl ?_ ?_
    · intro h17
      refine g_iconst 42 C dX6_far_41 rfl ?_
      exact g_iret C hr dX6_far_42 ⟨g_ri (by (repeat' split) <;> first | rfl | omega), rfl⟩
    · intro h17
      refine g_aload_n 21 C 0 dX6_far_20 rfl rfl ?_
      refine g_iload_n 22 C 3 dX6_far_21 rfl rfl ?_
      refine g_callVF 25 C [0] dX6_far_22 rfl (k_X6_noPiece E l  (by first | assumption | omega) (by first | assumption | omega)) (cwV 1 C.2.2.2.2.1 gX6_far_X6_noPiece rfl rfl rfl cdX6_noPiece ⟨Nat.le_of_ble_eq_true rfl, Nat.le_of_ble_eq_true rfl⟩) rfl rfl rfl rfl (Nat.le_of_ble_eq_true rfl) 0 6 rfl rfl rfl ⟨Nat.le_of_ble_eq_true rfl, Nat.le_of_ble_eq_true rfl⟩ ?_
      refine g_ifb_ne 41 28 C dX6_far_25 (by decide) rfl ?_ ?_
      · intro h25
        refine g_iconst 42 C dX6_far_41 rfl ?_
        exact g_iret C hr dX6_far_42 ⟨g_ri (by (repeat' split) <;> first | rfl | omega), rfl⟩
      · intro h25
        refine g_iload 30 C 4 dX6_far_28 rfl rfl ?_
        refine g_i2l 31 C dX6_far_30 rfl (by omega) ?_
        refine g_lconst 32 C 0 dX6_far_31 rfl (by decide) ?_
        refine g_ldc2 35 C (3) dX6_far_32 rfl lX6_far_118 (by decide) ?_
        refine g_callSF 38 C [] dX6_far_35 rfl (k_X6_in E l  (by first | assumption | omega) (by first | assumption | omega) (by first | assumption | omega)) (va_cwS 3 C.2.2.2.2.1 gX6_far_X6_in rfl rfl rfl cdX6_in ⟨Nat.le_of_ble_eq_true rfl, Nat.le_of_ble_eq_true rfl⟩) rfl rfl rfl rfl (Nat.le_of_ble_eq_true rfl) ⟨Nat.le_of_ble_eq_true rfl, Nat.le_of_ble_eq_true rfl⟩ ?_
        refine g_ifb_ne 43 41 C dX6_far_38 (by decide) rfl ?_ ?_
        · intro h38
          refine g_aload_n 44 C 0 dX6_far_43 rfl rfl ?_
          refine g_iload_n 45 C 1 dX6_far_44 rfl rfl ?_
          refine g_iload_n 46 C 2 dX6_far_45 rfl rfl ?_
          refine g_callVF 49 C [0] dX6_far_46 rfl (k_X6_sideAt E l  (by first | assumption | omega) (by first | assumption | omega) (by first | assumption | omega)) (cwV 2 C.2.2.2.2.1 gX6_far_X6_sideAt rfl rfl rfl cdX6_sideAt ⟨Nat.le_of_ble_eq_true rfl, Nat.le_of_ble_eq_true rfl⟩) rfl rfl rfl rfl (Nat.le_of_ble_eq_true rfl) 0 6 rfl rfl rfl ⟨Nat.le_of_ble_eq_true rfl, Nat.le_of_ble_eq_true rfl⟩ ?_
          have hb := sdI_b (p := p) (e := e) hB (by omega) (by omega)
          refine g_if_lt 62 52 C dX6_far_49 (by decide) rfl (by omega) ?_ ?_
          · intro h49
            refine g_bipush 64 C dX6_far_62 rfl (by decide) ?_
            refine g_goto 76 C dX6_far_64 (by decide) ?_
            exact g_iret C hr dX6_far_76 ⟨g_ri (by (repeat' split) <;> first | rfl | omega), rfl⟩
          · intro h49
            refine g_aload_n 53 C 0 dX6_far_52 rfl rfl ?_
            refine g_iload_n 54 C 3 dX6_far_53 rfl rfl ?_
            refine g_iload 56 C 4 dX6_far_54 rfl rfl ?_
            refine g_callVF 59 C [0] dX6_far_56 rfl (k_X6_sideAt E l  (by first | assumption | omega) (by first | assumption | omega) (by first | assumption | omega)) (cwV 2 C.2.2.2.2.1 gX6_far_X6_sideAt rfl rfl rfl cdX6_sideAt ⟨Nat.le_of_ble_eq_true rfl, Nat.le_of_ble_eq_true rfl⟩) rfl rfl rfl rfl (Nat.le_of_ble_eq_true rfl) 0 6 rfl rfl rfl ⟨Nat.le_of_ble_eq_true rfl, Nat.le_of_ble_eq_true rfl⟩ ?_
            have hb2 := sdI_b (p := q) (e := f) hB (by omega) (by omega)
            refine g_if_ge 67 62 C dX6_far_59 (by decide) rfl (by omega) ?_ ?_
            · intro h59
              refine g_aload_n 68 C 0 dX6_far_67 rfl rfl ?_
              refine g_iload_n 69 C 1 dX6_far_68 rfl rfl ?_
              refine g_iload_n 70 C 2 dX6_far_69 rfl rfl ?_
              refine g_iload_n 71 C 3 dX6_far_70 rfl rfl ?_
              refine g_iload 73 C 4 dX6_far_71 rfl rfl ?_
              refine g_callVF 76 C [0, 1] dX6_far_73 rfl (k_X6_farOf E l  (by first | assumption | omega) (by first | assumption | omega) (by first | assumption | omega) (by first | assumption | omega) (by first | assumption | omega) (by first | assumption | omega) (by first | assumption | omega) (by first | assumption | omega)) (cwV 4 C.2.2.2.2.1 gX6_far_X6_farOf rfl rfl rfl cdX6_farOf ⟨Nat.le_of_ble_eq_true rfl, Nat.le_of_ble_eq_true rfl⟩) rfl rfl rfl rfl (Nat.le_of_ble_eq_true rfl) 0 6 rfl rfl rfl ⟨Nat.le_of_ble_eq_true rfl, Nat.le_of_ble_eq_true rfl⟩ ?_
              exact g_iret C hr dX6_far_76 ⟨g_ri (by (repeat' split) <;> first | rfl | omega), rfl⟩
            · intro h59
              refine g_bipush 64 C dX6_far_62 rfl (by decide) ?_
              refine g_goto 76 C dX6_far_64 (by decide) ?_
              exact g_iret C hr dX6_far_76 ⟨g_ri (by (repeat' split) <;> first | rfl | omega), rfl⟩
        · intro h38
          refine g_iconst 42 C dX6_far_41 rfl ?_
          exact g_iret C hr dX6_far_42 ⟨g_ri (by (repeat' split) <;> first | rfl | omega), rfl⟩
theorem cdX6_noSide : yX6_noSide.cls = RX6 ∧ yX6_noSide.cls ≠ "java/lang/invoke/MethodHandle" ∧ yX6_noSide.cls ≠ "java/lang/invoke/VarHandle" ∧ (parseMethodDescriptor yX6_noSide.desc).map (fun d => d.parameters.length) = some 1 := by decide +kernel
theorem lX6_height_7 : Cond.fieldLink RX6 7 (TX6 3).1 (TX6 3).2.1 (TX6 3).2.2.1 ∈ wsX6_height := by decide +kernel
theorem lX6_height_109 : Cond.constantLong RX6 109 (4) ∈ wsX6_height := by decide +kernel
theorem iX6_height_X6 : ∀ w ∈ u_ws RX6 TX6 23, w ∈ wsX6_height := by decide +kernel
set_option maxHeartbeats 4000000 in
set_option maxRecDepth 100000 in
theorem k_X6_height (E : gE) (l : Launch) {a_M a_Ma a_Mc a_Mg a_Mh a_Mi a_Ml a_Mp a_Ms a_Mt a_Mu a_Mx a_My : Nat} {z i : Int} {hs : Int → Int} {mf W h mL mN n tc fd jo tr : Int} {md : Int64} (hB : 1 ≤ W ∧ W ≤ 5 ∧ 1 ≤ h ∧ h ≤ 5) (hh : hB9 hs) (hz : -2147483648 ≤ z ∧ z < 2147483648) (hi : -2147483648 ≤ i ∧ i < 2147483648) : gFun E l yX6_height wsX6_height { frames := 3, cells := 0, slots := 0, locals := 61 } [.ref a_M, .int (iI z), .int (iI i)] [(a_M, .inr (6, [.int (iI mf), .int (iI W), .int (iI h), .ref a_Mh, .long md, .int (iI mL), .int (iI mN), .int (iI n), .ref a_Mp, .ref a_Mt, .int (iI tc), .int (iI fd), .ref a_Ma, .ref a_Mu, .ref a_Mi, .int (iI jo), .ref a_Mx, .ref a_My, .ref a_Ms, .ref a_Ml, .ref a_Mc, .ref a_Mg, .int (iI tr)])), (a_Mh, aI E 200 hs)] (.long (lI (if (0 ≤ z ∧ z < nsd W h) ∧ 0 ≤ i ∧ i < 5 then htI hs z i 0 else -9223372036854775808))) := by
  refine g_start (cc := cX6_height) (maxL := 3) (ret := (some .long)) (by decide) rfl (Nat.le_of_ble_eq_true rfl) ?_
  intro p_ e_ s_ m_ args_ below_ meth_ c_ A_ C hr hnm
  have hN := nsd_b hB
  refine g_aload_n 1 C 0 dX6_height_0 rfl rfl ?_
  refine g_iload_n 2 C 1 dX6_height_1 rfl rfl ?_
  refine g_callVF 5 C [0] dX6_height_2 rfl (k_X6_noSide E l  (by first | assumption | omega) (by first | assumption | omega)) (cwV 1 C.2.2.2.2.1 gX6_height_X6_noSide rfl rfl rfl cdX6_noSide ⟨Nat.le_of_ble_eq_true rfl, Nat.le_of_ble_eq_true rfl⟩) rfl rfl rfl rfl (Nat.le_of_ble_eq_true rfl) 0 6 rfl rfl rfl ⟨Nat.le_of_ble_eq_true rfl, Nat.le_of_ble_eq_true rfl⟩ ?_
  refine g_ifb_ne 20 8 C dX6_height_5 (by decide) rfl ?_ ?_
  · intro h5
    refine g_callSF 23 C [] dX6_height_20 rfl (k_X6_lost E l  ) (va_cwS 0 C.2.2.2.2.1 gX6_height_X6_lost rfl rfl rfl cdX6_lost ⟨Nat.le_of_ble_eq_true rfl, Nat.le_of_ble_eq_true rfl⟩) rfl rfl rfl rfl (Nat.le_of_ble_eq_true rfl) ⟨Nat.le_of_ble_eq_true rfl, Nat.le_of_ble_eq_true rfl⟩ ?_
    refine g_goto 37 C dX6_height_23 (by decide) ?_
    exact g_lret C hr dX6_height_37 ⟨g_rl (by first | exact (ht5 hs z i).trans (if_pos (by omega)).symm | exact (if_neg (by omega)).symm), rfl⟩
  · intro h5
    refine g_iload_n 9 C 2 dX6_height_8 rfl rfl ?_
    refine g_i2l 10 C dX6_height_9 rfl (by omega) ?_
    refine g_lconst 11 C 0 dX6_height_10 rfl (by decide) ?_
    refine g_ldc2 14 C (4) dX6_height_11 rfl lX6_height_109 (by decide) ?_
    refine g_callSF 17 C [] dX6_height_14 rfl (k_X6_in E l  (by first | assumption | omega) (by first | assumption | omega) (by first | assumption | omega)) (va_cwS 3 C.2.2.2.2.1 gX6_height_X6_in rfl rfl rfl cdX6_in ⟨Nat.le_of_ble_eq_true rfl, Nat.le_of_ble_eq_true rfl⟩) rfl rfl rfl rfl (Nat.le_of_ble_eq_true rfl) ⟨Nat.le_of_ble_eq_true rfl, Nat.le_of_ble_eq_true rfl⟩ ?_
    refine g_ifb_ne 26 20 C dX6_height_17 (by decide) rfl ?_ ?_
    · intro h17
      refine g_aload_n 27 C 0 dX6_height_26 rfl rfl ?_
      refine g_get 30 C 0 3 6 iX6_height_X6 lX6_height_7 dX6_height_27 rfl rfl rfl (by decide) rfl ?_
      refine g_iconst 31 C dX6_height_30 rfl ?_
      refine g_iload_n 32 C 1 dX6_height_31 rfl rfl ?_
      refine g_imul 33 C dX6_height_32 rfl ?_
      refine g_iload_n 34 C 2 dX6_height_33 rfl rfl ?_
      refine g_iadd 35 C dX6_height_34 rfl ?_
      refine g_iaload 36 C 1 dX6_height_35 rfl rfl (by omega) ?_
      have e1 := ht5 hs z i
      have e0 := htI_b hh z i 0
      refine g_i2l 37 C dX6_height_36 rfl (by omega) ?_
      exact g_lret C hr dX6_height_37 ⟨g_rl (by first | exact (ht5 hs z i).trans (if_pos (by omega)).symm | exact (if_neg (by omega)).symm), rfl⟩
    · intro h17
      refine g_callSF 23 C [] dX6_height_20 rfl (k_X6_lost E l  ) (va_cwS 0 C.2.2.2.2.1 gX6_height_X6_lost rfl rfl rfl cdX6_lost ⟨Nat.le_of_ble_eq_true rfl, Nat.le_of_ble_eq_true rfl⟩) rfl rfl rfl rfl (Nat.le_of_ble_eq_true rfl) ⟨Nat.le_of_ble_eq_true rfl, Nat.le_of_ble_eq_true rfl⟩ ?_
      refine g_goto 37 C dX6_height_23 (by decide) ?_
      exact g_lret C hr dX6_height_37 ⟨g_rl (by first | exact (ht5 hs z i).trans (if_pos (by omega)).symm | exact (if_neg (by omega)).symm), rfl⟩
theorem cdX6_changed : yX6_changed.cls = RX6 ∧ yX6_changed.cls ≠ "java/lang/invoke/MethodHandle" ∧ yX6_changed.cls ≠ "java/lang/invoke/VarHandle" ∧ (parseMethodDescriptor yX6_changed.desc).map (fun d => d.parameters.length) = some 0 := by decide +kernel
theorem lX6_bend_7 : Cond.fieldLink RX6 7 (TX6 3).1 (TX6 3).2.1 (TX6 3).2.2.1 ∈ wsX6_bend := by decide +kernel
theorem lX6_bend_109 : Cond.constantLong RX6 109 (4) ∈ wsX6_bend := by decide +kernel
theorem lX6_bend_111 : Cond.constantLong RX6 111 (-9) ∈ wsX6_bend := by decide +kernel
theorem lX6_bend_113 : Cond.constantLong RX6 113 (9) ∈ wsX6_bend := by decide +kernel
theorem iX6_bend_X6 : ∀ w ∈ u_ws RX6 TX6 23, w ∈ wsX6_bend := by decide +kernel
set_option maxHeartbeats 4000000 in
set_option maxRecDepth 100000 in
theorem k_X6_bend (E : gE) (l : Launch) {a_M a_Ma a_Mc a_Mg a_Mh a_Mi a_Ml a_Mp a_Ms a_Mt a_Mu a_Mx a_My : Nat} {z i v : Int} {hs : Int → Int} {mf W h mL mN n tc fd jo tr : Int} {md : Int64} (hB : 1 ≤ W ∧ W ≤ 5 ∧ 1 ≤ h ∧ h ≤ 5) (hh : hB9 hs) (hz : -2147483648 ≤ z ∧ z < 2147483648) (hi : -2147483648 ≤ i ∧ i < 2147483648) (hv : -2147483648 ≤ v ∧ v < 2147483648) : gUpd E l yX6_bend wsX6_bend { frames := 3, cells := 0, slots := 0, locals := 61 } [.ref a_M, .int (iI z), .int (iI i), .int (iI v)] [(a_M, .inr (6, [.int (iI mf), .int (iI W), .int (iI h), .ref a_Mh, .long md, .int (iI mL), .int (iI mN), .int (iI n), .ref a_Mp, .ref a_Mt, .int (iI tc), .int (iI fd), .ref a_Ma, .ref a_Mu, .ref a_Mi, .int (iI jo), .ref a_Mx, .ref a_My, .ref a_Ms, .ref a_Ml, .ref a_Mc, .ref a_Mg, .int (iI tr)])), (a_Mh, aI E 200 hs)] (some (.long (lI (if (0 ≤ z ∧ z < nsd W h) ∧ (0 ≤ i ∧ i < 5) ∧ -9 ≤ v ∧ v ≤ 9 then htI hs z i 0 else -9223372036854775808)))) [(a_M, .inr (6, [.int (iI mf), .int (iI W), .int (iI h), .ref a_Mh, .long md, .int (iI mL), .int (iI mN), .int (iI n), .ref a_Mp, .ref a_Mt, .int (iI tc), .int (iI fd), .ref a_Ma, .ref a_Mu, .ref a_Mi, .int (iI (if (0 ≤ z ∧ z < nsd W h) ∧ (0 ≤ i ∧ i < 5) ∧ -9 ≤ v ∧ v ≤ 9 then 0 else jo)), .ref a_Mx, .ref a_My, .ref a_Ms, .ref a_Ml, .ref a_Mc, .ref a_Mg, .int (iI tr)])), (a_Mh, aI E 200 (if (0 ≤ z ∧ z < nsd W h) ∧ (0 ≤ i ∧ i < 5) ∧ -9 ≤ v ∧ v ≤ 9 then uI hs (z * 5 + i) v else hs))] := by
  refine g_start (cc := cX6_bend) (maxL := 6) (ret := (some .long)) (by decide) rfl (Nat.le_of_ble_eq_true rfl) ?_
  intro p_ e_ s_ m_ args_ below_ meth_ c_ A_ C hr hnm
  have hN := nsd_b hB
  refine g_aload_n 1 C 0 dX6_bend_0 rfl rfl ?_
  refine g_iload_n 2 C 1 dX6_bend_1 rfl rfl ?_
  refine g_callVF 5 C [0] dX6_bend_2 rfl (k_X6_noSide E l  (by first | assumption | omega) (by first | assumption | omega)) (cwV 1 C.2.2.2.2.1 gX6_bend_X6_noSide rfl rfl rfl cdX6_noSide ⟨Nat.le_of_ble_eq_true rfl, Nat.le_of_ble_eq_true rfl⟩) rfl rfl rfl rfl (Nat.le_of_ble_eq_true rfl) 0 6 rfl rfl rfl ⟨Nat.le_of_ble_eq_true rfl, Nat.le_of_ble_eq_true rfl⟩ ?_
  refine g_ifb_ne 34 8 C dX6_bend_5 (by decide) rfl ?_ ?_
  · intro h5
    refine g_callSF 37 C [] dX6_bend_34 rfl (k_X6_lost E l  ) (va_cwS 0 C.2.2.2.2.1 gX6_bend_X6_lost rfl rfl rfl cdX6_lost ⟨Nat.le_of_ble_eq_true rfl, Nat.le_of_ble_eq_true rfl⟩) rfl rfl rfl rfl (Nat.le_of_ble_eq_true rfl) ⟨Nat.le_of_ble_eq_true rfl, Nat.le_of_ble_eq_true rfl⟩ ?_
    exact g_lret C hr dX6_bend_37 ⟨g_rl (by first | rfl | omega | exact (if_pos (by omega)).symm | exact (if_neg (by omega)).symm), by first | rfl | (have hg : (0 ≤ z ∧ z < nsd W h) ∧ (0 ≤ i ∧ i < 5) ∧ -9 ≤ v ∧ v ≤ 9 := (by omega); simp only [if_pos hg]) | (have hg : ¬ ((0 ≤ z ∧ z < nsd W h) ∧ (0 ≤ i ∧ i < 5) ∧ -9 ≤ v ∧ v ≤ 9) := (by omega); simp only [if_neg hg])⟩
  · intro h5
    refine g_iload_n 9 C 2 dX6_bend_8 rfl rfl ?_
    refine g_i2l 10 C dX6_bend_9 rfl (by omega) ?_
    refine g_lconst 11 C 0 dX6_bend_10 rfl (by decide) ?_
    refine g_ldc2 14 C (4) dX6_bend_11 rfl lX6_bend_109 (by decide) ?_
    refine g_callSF 17 C [] dX6_bend_14 rfl (k_X6_in E l  (by first | assumption | omega) (by first | assumption | omega) (by first | assumption | omega)) (va_cwS 3 C.2.2.2.2.1 gX6_bend_X6_in rfl rfl rfl cdX6_in ⟨Nat.le_of_ble_eq_true rfl, Nat.le_of_ble_eq_true rfl⟩) rfl rfl rfl rfl (Nat.le_of_ble_eq_true rfl) ⟨Nat.le_of_ble_eq_true rfl, Nat.le_of_ble_eq_true rfl⟩ ?_
    refine g_ifb_eq 34 20 C dX6_bend_17 (by decide) rfl ?_ ?_
    · intro h17
      refine g_callSF 37 C [] dX6_bend_34 rfl (k_X6_lost E l  ) (va_cwS 0 C.2.2.2.2.1 gX6_bend_X6_lost rfl rfl rfl cdX6_lost ⟨Nat.le_of_ble_eq_true rfl, Nat.le_of_ble_eq_true rfl⟩) rfl rfl rfl rfl (Nat.le_of_ble_eq_true rfl) ⟨Nat.le_of_ble_eq_true rfl, Nat.le_of_ble_eq_true rfl⟩ ?_
      exact g_lret C hr dX6_bend_37 ⟨g_rl (by first | rfl | omega | exact (if_pos (by omega)).symm | exact (if_neg (by omega)).symm), by first | rfl | (have hg : (0 ≤ z ∧ z < nsd W h) ∧ (0 ≤ i ∧ i < 5) ∧ -9 ≤ v ∧ v ≤ 9 := (by omega); simp only [if_pos hg]) | (have hg : ¬ ((0 ≤ z ∧ z < nsd W h) ∧ (0 ≤ i ∧ i < 5) ∧ -9 ≤ v ∧ v ≤ 9) := (by omega); simp only [if_neg hg])⟩
    · intro h17
      refine g_iload_n 21 C 3 dX6_bend_20 rfl rfl ?_
      refine g_i2l 22 C dX6_bend_21 rfl (by omega) ?_
      refine g_ldc2 25 C (-9) dX6_bend_22 rfl lX6_bend_111 (by decide) ?_
      refine g_ldc2 28 C (9) dX6_bend_25 rfl lX6_bend_113 (by decide) ?_
      refine g_callSF 31 C [] dX6_bend_28 rfl (k_X6_in E l  (by first | assumption | omega) (by first | assumption | omega) (by first | assumption | omega)) (va_cwS 3 C.2.2.2.2.1 gX6_bend_X6_in rfl rfl rfl cdX6_in ⟨Nat.le_of_ble_eq_true rfl, Nat.le_of_ble_eq_true rfl⟩) rfl rfl rfl rfl (Nat.le_of_ble_eq_true rfl) ⟨Nat.le_of_ble_eq_true rfl, Nat.le_of_ble_eq_true rfl⟩ ?_
      refine g_ifb_ne 38 34 C dX6_bend_31 (by decide) rfl ?_ ?_
      · intro h31
        refine g_aload_n 39 C 0 dX6_bend_38 rfl rfl ?_
        refine g_get 42 C 0 3 6 iX6_bend_X6 lX6_bend_7 dX6_bend_39 rfl rfl rfl (by decide) rfl ?_
        refine g_iconst 43 C dX6_bend_42 rfl ?_
        refine g_iload_n 44 C 1 dX6_bend_43 rfl rfl ?_
        refine g_imul 45 C dX6_bend_44 rfl ?_
        refine g_iload_n 46 C 2 dX6_bend_45 rfl rfl ?_
        refine g_iadd 47 C dX6_bend_46 rfl ?_
        refine g_iaload 48 C 1 dX6_bend_47 rfl rfl (by omega) ?_
        have e1 := ht5 hs z i
        have e0 := htI_b hh z i 0
        refine g_i2l 49 C dX6_bend_48 rfl (by omega) ?_
        refine g_lstore (lv' := [(4, _), (0, _), (1, _), (2, _), (3, _)]) 51 C dX6_bend_49 rfl (by decide) rfl ?_
        refine g_aload_n 52 C 1 dX6_bend_51 rfl rfl ?_
        refine g_get 55 C 0 3 6 iX6_bend_X6 lX6_bend_7 dX6_bend_52 rfl rfl rfl (by decide) rfl ?_
        refine g_iconst 56 C dX6_bend_55 rfl ?_
        refine g_iload_n 57 C 2 dX6_bend_56 rfl rfl ?_
        refine g_imul 58 C dX6_bend_57 rfl ?_
        refine g_iload_n 59 C 3 dX6_bend_58 rfl rfl ?_
        refine g_iadd 60 C dX6_bend_59 rfl ?_
        refine g_iload_n 61 C 4 dX6_bend_60 rfl rfl ?_
        refine g_iastore (ws' := [(_, .inr (6, [_, _, _, _, _, _, _, _, _, _, _, _, _, _, _, _, _, _, _, _, _, _, _])), (_, aI _ _ _)]) 62 C 1 dX6_bend_61 rfl rfl (by omega) rfl ?_
        refine g_aload_n 63 C 1 dX6_bend_62 rfl rfl ?_
        refine g_callVU (ws' := [(_, .inr (6, [_, _, _, _, _, _, _, _, _, _, _, _, _, _, _, _, _, _, _, _, _, _, _])), (_, aI _ _ _)]) 66 C [0] dX6_bend_63 rfl (k_X6_changed E l  ) (cwV 0 C.2.2.2.2.1 gX6_bend_X6_changed rfl rfl rfl cdX6_changed ⟨Nat.le_of_ble_eq_true rfl, Nat.le_of_ble_eq_true rfl⟩) rfl rfl rfl rfl (Nat.le_of_ble_eq_true rfl) 0 6 rfl rfl rfl ⟨Nat.le_of_ble_eq_true rfl, Nat.le_of_ble_eq_true rfl⟩ rfl rfl ?_
        refine g_lload 68 C 0 dX6_bend_66 rfl rfl ?_
        exact g_lret C hr dX6_bend_68 ⟨g_rl ((ht5 hs z i).trans (if_pos (by omega)).symm), by (have hg : (0 ≤ z ∧ z < nsd W h) ∧ (0 ≤ i ∧ i < 5) ∧ -9 ≤ v ∧ v ≤ 9 := (by omega)); simp only [if_pos hg, show 5 * z + i = z * 5 + i by omega]⟩
      · intro h31
        refine g_callSF 37 C [] dX6_bend_34 rfl (k_X6_lost E l  ) (va_cwS 0 C.2.2.2.2.1 gX6_bend_X6_lost rfl rfl rfl cdX6_lost ⟨Nat.le_of_ble_eq_true rfl, Nat.le_of_ble_eq_true rfl⟩) rfl rfl rfl rfl (Nat.le_of_ble_eq_true rfl) ⟨Nat.le_of_ble_eq_true rfl, Nat.le_of_ble_eq_true rfl⟩ ?_
        exact g_lret C hr dX6_bend_37 ⟨g_rl (by first | rfl | omega | exact (if_pos (by omega)).symm | exact (if_neg (by omega)).symm), by first | rfl | (have hg : (0 ≤ z ∧ z < nsd W h) ∧ (0 ≤ i ∧ i < 5) ∧ -9 ≤ v ∧ v ≤ 9 := (by omega); simp only [if_pos hg]) | (have hg : ¬ ((0 ≤ z ∧ z < nsd W h) ∧ (0 ≤ i ∧ i < 5) ∧ -9 ≤ v ∧ v ≤ 9) := (by omega); simp only [if_neg hg])⟩
theorem lX6_isBulge_7 : Cond.fieldLink RX6 7 (TX6 3).1 (TX6 3).2.1 (TX6 3).2.2.1 ∈ wsX6_isBulge := by decide +kernel
theorem iX6_isBulge_X6 : ∀ w ∈ u_ws RX6 TX6 23, w ∈ wsX6_isBulge := by decide +kernel
set_option maxHeartbeats 4000000 in
set_option maxRecDepth 100000 in
theorem k_X6_isBulge (E : gE) (l : Launch) {a_M a_Ma a_Mc a_Mg a_Mh a_Mi a_Ml a_Mp a_Ms a_Mt a_Mu a_Mx a_My : Nat} {z : Int} {hs : Int → Int} {mf W h mL mN n tc fd jo tr : Int} {md : Int64} (hz : 0 ≤ z ∧ z < 40) (hh : hB9 hs) : gFun E l yX6_isBulge wsX6_isBulge { frames := 0, cells := 0, slots := 0, locals := 0 } [.ref a_M, .int (iI z)] [(a_M, .inr (6, [.int (iI mf), .int (iI W), .int (iI h), .ref a_Mh, .long md, .int (iI mL), .int (iI mN), .int (iI n), .ref a_Mp, .ref a_Mt, .int (iI tc), .int (iI fd), .ref a_Ma, .ref a_Mu, .ref a_Mi, .int (iI jo), .ref a_Mx, .ref a_My, .ref a_Ms, .ref a_Ml, .ref a_Mc, .ref a_Mg, .int (iI tr)])), (a_Mh, aI E 200 hs)] (.int (iI (cI (blI hs z) 1 0))) := by
  refine g_start (cc := cX6_isBulge) (maxL := 5) (ret := (some .boolean)) (by decide) rfl (Nat.le_of_ble_eq_true rfl) ?_
  intro p_ e_ s_ m_ args_ below_ meth_ c_ A_ C hr hnm
  refine g_iconst 1 C dX6_isBulge_0 rfl ?_
  refine g_istore_n (lv' := [(2, _), (0, _), (1, _)]) 2 C dX6_isBulge_1 rfl rfl (by decide) rfl ?_
  refine g_iconst 3 C dX6_isBulge_2 rfl ?_
  refine g_istore_n (lv' := [(3, _), (2, _), (0, _), (1, _)]) 4 C dX6_isBulge_3 rfl rfl (by decide) rfl ?_
  refine g_iconst 5 C dX6_isBulge_4 rfl ?_
  refine g_istore (lv' := [(4, _), (3, _), (2, _), (0, _), (1, _)]) 7 C dX6_isBulge_5 rfl (by decide) rfl ?_
  refine g_loop (α := Int × Int × Int) (fun zz => [(a_M, .inr (6, [.int (iI mf), .int (iI W), .int (iI h), .ref a_Mh, .long md, .int (iI mL), .int (iI mN), .int (iI n), .ref a_Mp, .ref a_Mt, .int (iI tc), .int (iI fd), .ref a_Ma, .ref a_Mu, .ref a_Mi, .int (iI jo), .ref a_Mx, .ref a_My, .ref a_Ms, .ref a_Ml, .ref a_Mc, .ref a_Mg, .int (iI tr)])), (a_Mh, aI E 200 hs)]) (fun zz => [(2, .int (iI zz.1)), (3, .int (iI zz.2.1)), (4, .int (iI zz.2.2)), (1, .int (iI z)), (0, .ref a_M)]) (fun zz => (0 ≤ zz.2.2 ∧ zz.2.2 ≤ 5) ∧ zz.1 = cnI (fun j => 0 < htI hs z j 0) zz.2.2 ∧ zz.2.1 = cnI (fun j => htI hs z j 0 < 0) zz.2.2) (fun zz => (5 - zz.2.2).toNat) (0, 0, 0) (by
            try dsimp only
            exact ⟨⟨by omega, by omega⟩, rfl, rfl⟩) [2, 1, 0, 4, 3] rfl rfl ?_
  rintro ⟨o, m, i⟩ hI ih7
  try dsimp only at hI ih7 ⊢
  obtain ⟨hi, rfl, rfl⟩ := hI
  refine g_iload 9 C 2 dX6_isBulge_7 rfl rfl ?_
  refine g_iconst 10 C dX6_isBulge_9 rfl ?_
  refine g_icmp_ge 63 13 C dX6_isBulge_10 (by decide) rfl (by omega) ?_ ?_
  · intro h10
    obtain rfl : i = 5 := by omega
    refine g_iload_n 64 C 0 dX6_isBulge_63 rfl rfl ?_
    refine g_iconst 65 C dX6_isBulge_64 rfl ?_
    refine g_icmp_eq 73 68 C dX6_isBulge_65 (by decide) rfl (by have := cnI_b (fun j => 0 < htI hs z j 0) hi.1; omega) ?_ ?_
    · intro h65
      refine g_iconst 74 C dX6_isBulge_73 rfl ?_
      refine g_goto 78 C dX6_isBulge_74 (by decide) ?_
      exact g_zret C hr dX6_isBulge_78 (by first | rfl | decide | (split <;> rfl)) ⟨g_ri (by first | exact (cI_t (Or.inl ((cnI_f _ (by omega)).mp (by assumption)))).symm | exact (cI_t (Or.inr ((cnI_f _ (by omega)).mp (by assumption)))).symm | exact (cI_f (fun q => q.elim (fun q => absurd ((cnI_f _ (by omega)).mpr q) (by assumption)) (fun q => absurd ((cnI_f _ (by omega)).mpr q) (by assumption)))).symm), rfl⟩
    · intro h65
      refine g_iload_n 69 C 1 dX6_isBulge_68 rfl rfl ?_
      refine g_iconst 70 C dX6_isBulge_69 rfl ?_
      refine g_icmp_ne 77 73 C dX6_isBulge_70 (by decide) rfl (by have := cnI_b (fun j => htI hs z j 0 < 0) hi.1; omega) ?_ ?_
      · intro h70
        refine g_iconst 78 C dX6_isBulge_77 rfl ?_
        exact g_zret C hr dX6_isBulge_78 (by first | rfl | decide | (split <;> rfl)) ⟨g_ri (by first | exact (cI_t (Or.inl ((cnI_f _ (by omega)).mp (by assumption)))).symm | exact (cI_t (Or.inr ((cnI_f _ (by omega)).mp (by assumption)))).symm | exact (cI_f (fun q => q.elim (fun q => absurd ((cnI_f _ (by omega)).mpr q) (by assumption)) (fun q => absurd ((cnI_f _ (by omega)).mpr q) (by assumption)))).symm), rfl⟩
      · intro h70
        refine g_iconst 74 C dX6_isBulge_73 rfl ?_
        refine g_goto 78 C dX6_isBulge_74 (by decide) ?_
        exact g_zret C hr dX6_isBulge_78 (by first | rfl | decide | (split <;> rfl)) ⟨g_ri (by first | exact (cI_t (Or.inl ((cnI_f _ (by omega)).mp (by assumption)))).symm | exact (cI_t (Or.inr ((cnI_f _ (by omega)).mp (by assumption)))).symm | exact (cI_f (fun q => q.elim (fun q => absurd ((cnI_f _ (by omega)).mpr q) (by assumption)) (fun q => absurd ((cnI_f _ (by omega)).mpr q) (by assumption)))).symm), rfl⟩
  · intro h10
    refine g_iload_n 14 C 0 dX6_isBulge_13 rfl rfl ?_
    have e1 := ht5 hs z i
    have e0 := htI_b hh z i 0
    refine g_aload_n 15 C 4 dX6_isBulge_14 rfl rfl ?_
    refine g_get 18 C 0 3 6 iX6_isBulge_X6 lX6_isBulge_7 dX6_isBulge_15 rfl rfl rfl (by decide) rfl ?_
    refine g_iconst 19 C dX6_isBulge_18 rfl ?_
    refine g_iload_n 20 C 3 dX6_isBulge_19 rfl rfl ?_
    refine g_imul 21 C dX6_isBulge_20 rfl ?_
    refine g_iload 23 C 2 dX6_isBulge_21 rfl rfl ?_
    refine g_iadd 24 C dX6_isBulge_23 rfl ?_
    refine g_iaload 25 C 1 dX6_isBulge_24 rfl rfl (by omega) ?_
    refine g_if_le 32 28 C dX6_isBulge_25 (by decide) rfl (by omega) ?_ ?_
    · intro h25
      refine g_iconst 33 C dX6_isBulge_32 rfl ?_
      refine g_iadd 34 C dX6_isBulge_33 rfl ?_
      refine g_istore_n (lv' := [(2, _), (3, _), (4, _), (1, _), (0, _)]) 35 C dX6_isBulge_34 rfl rfl (by decide) rfl ?_
      refine g_iload_n 36 C 1 dX6_isBulge_35 rfl rfl ?_
      refine g_aload_n 37 C 4 dX6_isBulge_36 rfl rfl ?_
      refine g_get 40 C 0 3 6 iX6_isBulge_X6 lX6_isBulge_7 dX6_isBulge_37 rfl rfl rfl (by decide) rfl ?_
      refine g_iconst 41 C dX6_isBulge_40 rfl ?_
      refine g_iload_n 42 C 3 dX6_isBulge_41 rfl rfl ?_
      refine g_imul 43 C dX6_isBulge_42 rfl ?_
      refine g_iload 45 C 2 dX6_isBulge_43 rfl rfl ?_
      refine g_iadd 46 C dX6_isBulge_45 rfl ?_
      refine g_iaload 47 C 1 dX6_isBulge_46 rfl rfl (by omega) ?_
      refine g_if_ge 54 50 C dX6_isBulge_47 (by decide) rfl (by omega) ?_ ?_
      · intro h47
        refine g_iconst 55 C dX6_isBulge_54 rfl ?_
        refine g_iadd 56 C dX6_isBulge_55 rfl ?_
        refine g_istore_n (lv' := [(3, _), (2, _), (4, _), (1, _), (0, _)]) 57 C dX6_isBulge_56 rfl rfl (by decide) rfl ?_
        refine g_iinc (lv' := [(4, _), (3, _), (2, _), (1, _), (0, _)]) 60 C 2 dX6_isBulge_57 rfl rfl (by decide) rfl ?_
        refine g_goto 7 C dX6_isBulge_60 (by decide) ?_
        exact g_w [2, 1, 0, 3, 4] rfl rfl (ih7 (_, _, _) (by
            try dsimp only
            exact ⟨by omega, by first | exact (cnI_st _ hi.1 (by omega)).symm | exact (Int.add_zero _).trans (cnI_sf _ hi.1 (by omega)).symm, by first | exact (cnI_st _ hi.1 (by omega)).symm | exact (Int.add_zero _).trans (cnI_sf _ hi.1 (by omega)).symm⟩) (by (try dsimp only); omega))
      · intro h47
        refine g_iconst 51 C dX6_isBulge_50 rfl ?_
        refine g_goto 55 C dX6_isBulge_51 (by decide) ?_
        refine g_iadd 56 C dX6_isBulge_55 rfl ?_
        refine g_istore_n (lv' := [(3, _), (2, _), (4, _), (1, _), (0, _)]) 57 C dX6_isBulge_56 rfl rfl (by decide) rfl ?_
        refine g_iinc (lv' := [(4, _), (3, _), (2, _), (1, _), (0, _)]) 60 C 2 dX6_isBulge_57 rfl rfl (by decide) rfl ?_
        refine g_goto 7 C dX6_isBulge_60 (by decide) ?_
        exact g_w [2, 1, 0, 3, 4] rfl rfl (ih7 (_, _, _) (by
            try dsimp only
            exact ⟨by omega, by first | exact (cnI_st _ hi.1 (by omega)).symm | exact (Int.add_zero _).trans (cnI_sf _ hi.1 (by omega)).symm, by first | exact (cnI_st _ hi.1 (by omega)).symm | exact (Int.add_zero _).trans (cnI_sf _ hi.1 (by omega)).symm⟩) (by (try dsimp only); omega))
    · intro h25
      refine g_iconst 29 C dX6_isBulge_28 rfl ?_
      refine g_goto 33 C dX6_isBulge_29 (by decide) ?_
      refine g_iadd 34 C dX6_isBulge_33 rfl ?_
      refine g_istore_n (lv' := [(2, _), (3, _), (4, _), (1, _), (0, _)]) 35 C dX6_isBulge_34 rfl rfl (by decide) rfl ?_
      refine g_iload_n 36 C 1 dX6_isBulge_35 rfl rfl ?_
      refine g_aload_n 37 C 4 dX6_isBulge_36 rfl rfl ?_
      refine g_get 40 C 0 3 6 iX6_isBulge_X6 lX6_isBulge_7 dX6_isBulge_37 rfl rfl rfl (by decide) rfl ?_
      refine g_iconst 41 C dX6_isBulge_40 rfl ?_
      refine g_iload_n 42 C 3 dX6_isBulge_41 rfl rfl ?_
      refine g_imul 43 C dX6_isBulge_42 rfl ?_
      refine g_iload 45 C 2 dX6_isBulge_43 rfl rfl ?_
      refine g_iadd 46 C dX6_isBulge_45 rfl ?_
      refine g_iaload 47 C 1 dX6_isBulge_46 rfl rfl (by omega) ?_
      refine g_if_ge 54 50 C dX6_isBulge_47 (by decide) rfl (by omega) ?_ ?_
      · intro h47
        refine g_iconst 55 C dX6_isBulge_54 rfl ?_
        refine g_iadd 56 C dX6_isBulge_55 rfl ?_
        refine g_istore_n (lv' := [(3, _), (2, _), (4, _), (1, _), (0, _)]) 57 C dX6_isBulge_56 rfl rfl (by decide) rfl ?_
        refine g_iinc (lv' := [(4, _), (3, _), (2, _), (1, _), (0, _)]) 60 C 2 dX6_isBulge_57 rfl rfl (by decide) rfl ?_
        refine g_goto 7 C dX6_isBulge_60 (by decide) ?_
        exact g_w [2, 1, 0, 3, 4] rfl rfl (ih7 (_, _, _) (by
            try dsimp only
            exact ⟨by omega, by first | exact (cnI_st _ hi.1 (by omega)).symm | exact (Int.add_zero _).trans (cnI_sf _ hi.1 (by omega)).symm, by first | exact (cnI_st _ hi.1 (by omega)).symm | exact (Int.add_zero _).trans (cnI_sf _ hi.1 (by omega)).symm⟩) (by (try dsimp only); omega))
      · intro h47
        refine g_iconst 51 C dX6_isBulge_50 rfl ?_
        refine g_goto 55 C dX6_isBulge_51 (by decide) ?_
        refine g_iadd 56 C dX6_isBulge_55 rfl ?_
        refine g_istore_n (lv' := [(3, _), (2, _), (4, _), (1, _), (0, _)]) 57 C dX6_isBulge_56 rfl rfl (by decide) rfl ?_
        refine g_iinc (lv' := [(4, _), (3, _), (2, _), (1, _), (0, _)]) 60 C 2 dX6_isBulge_57 rfl rfl (by decide) rfl ?_
        refine g_goto 7 C dX6_isBulge_60 (by decide) ?_
        exact g_w [2, 1, 0, 3, 4] rfl rfl (ih7 (_, _, _) (by
            try dsimp only
            exact ⟨by omega, by first | exact (cnI_st _ hi.1 (by omega)).symm | exact (Int.add_zero _).trans (cnI_sf _ hi.1 (by omega)).symm, by first | exact (cnI_st _ hi.1 (by omega)).symm | exact (Int.add_zero _).trans (cnI_sf _ hi.1 (by omega)).symm⟩) (by (try dsimp only); omega))
theorem lX6_isLike_7 : Cond.fieldLink RX6 7 (TX6 3).1 (TX6 3).2.1 (TX6 3).2.2.1 ∈ wsX6_isLike := by decide +kernel
theorem iX6_isLike_X6 : ∀ w ∈ u_ws RX6 TX6 23, w ∈ wsX6_isLike := by decide +kernel
set_option maxHeartbeats 4000000 in
set_option maxRecDepth 100000 in
theorem k_X6_isLike (E : gE) (l : Launch) {a_M a_Ma a_Mc a_Mg a_Mh a_Mi a_Ml a_Mp a_Ms a_Mt a_Mu a_Mx a_My : Nat} {z o : Int} {hs : Int → Int} {mf W h mL mN n tc fd jo tr : Int} {md : Int64} (hz : 0 ≤ z ∧ z < 40) (ho : 0 ≤ o ∧ o < 40) (hh : hB9 hs) : gFun E l yX6_isLike wsX6_isLike { frames := 0, cells := 0, slots := 0, locals := 0 } [.ref a_M, .int (iI z), .int (iI o)] [(a_M, .inr (6, [.int (iI mf), .int (iI W), .int (iI h), .ref a_Mh, .long md, .int (iI mL), .int (iI mN), .int (iI n), .ref a_Mp, .ref a_Mt, .int (iI tc), .int (iI fd), .ref a_Ma, .ref a_Mu, .ref a_Mi, .int (iI jo), .ref a_Mx, .ref a_My, .ref a_Ms, .ref a_Ml, .ref a_Mc, .ref a_Mg, .int (iI tr)])), (a_Mh, aI E 200 hs)] (.int (iI (cI (dfI hs z o 0 = 0 ∨ dfI hs z o 1 = 0) 1 0))) := by
  refine g_start (cc := cX6_isLike) (maxL := 6) (ret := (some .boolean)) (by decide) rfl (Nat.le_of_ble_eq_true rfl) ?_
  intro p_ e_ s_ m_ args_ below_ meth_ c_ A_ C hr hnm
  refine g_iconst 1 C dX6_isLike_0 rfl ?_
  refine g_istore_n (lv' := [(3, _), (0, _), (1, _), (2, _)]) 2 C dX6_isLike_1 rfl rfl (by decide) rfl ?_
  refine g_iconst 3 C dX6_isLike_2 rfl ?_
  refine g_istore (lv' := [(4, _), (3, _), (0, _), (1, _), (2, _)]) 5 C dX6_isLike_3 rfl (by decide) rfl ?_
  refine g_iconst 6 C dX6_isLike_5 rfl ?_
  refine g_istore (lv' := [(5, _), (4, _), (3, _), (0, _), (1, _), (2, _)]) 8 C dX6_isLike_6 rfl (by decide) rfl ?_
  refine g_loop (α := Int × Int × Int) (fun zz => [(a_M, .inr (6, [.int (iI mf), .int (iI W), .int (iI h), .ref a_Mh, .long md, .int (iI mL), .int (iI mN), .int (iI n), .ref a_Mp, .ref a_Mt, .int (iI tc), .int (iI fd), .ref a_Ma, .ref a_Mu, .ref a_Mi, .int (iI jo), .ref a_Mx, .ref a_My, .ref a_Ms, .ref a_Ml, .ref a_Mc, .ref a_Mg, .int (iI tr)])), (a_Mh, aI E 200 hs)]) (fun zz => [(3, .int (iI zz.1)), (4, .int (iI zz.2.1)), (5, .int (iI zz.2.2)), (2, .int (iI o)), (1, .int (iI z)), (0, .ref a_M)]) (fun zz => ((0 ≤ zz.2.2 ∧ zz.2.2 ≤ 5) ∧ (zz.1 = 0 ∨ zz.1 = 1) ∧ (zz.2.1 = 0 ∨ zz.2.1 = 1)) ∧ (zz.1 = 1 ↔ ∀ j, 0 ≤ j → j < zz.2.2 → htI hs z j 0 = htI hs o j 0) ∧ (zz.2.1 = 1 ↔ ∀ j, 0 ≤ j → j < zz.2.2 → htI hs z j 0 = htI hs o j 1)) (fun zz => (5 - zz.2.2).toNat) (1, 1, 0) (by
            try dsimp only
            exact ⟨by omega, ⟨fun _ j h1 h2 => by omega, fun _ => rfl⟩, ⟨fun _ j h1 h2 => by omega, fun _ => rfl⟩⟩) [2, 1, 0, 5, 4, 3] rfl rfl ?_
  rintro ⟨s, t, i⟩ hI ih8
  try dsimp only at hI ih8 ⊢
  obtain ⟨hi, hS, hT⟩ := hI
  refine g_iload 10 C 2 dX6_isLike_8 rfl rfl ?_
  refine g_iconst 11 C dX6_isLike_10 rfl ?_
  refine g_icmp_ge 95 14 C dX6_isLike_11 (by decide) rfl (by omega) ?_ ?_
  · intro h11
    refine g_iload_n 96 C 0 dX6_isLike_95 rfl rfl ?_
    refine g_if_ne 104 99 C dX6_isLike_96 (by decide) rfl (by omega) ?_ ?_
    · intro h96
      refine g_iconst 105 C dX6_isLike_104 rfl ?_
      refine g_goto 109 C dX6_isLike_105 (by decide) ?_
      exact g_zret C hr dX6_isLike_109 (by first | rfl | decide | (split <;> rfl)) ⟨g_ri (by
            obtain rfl : i = 5 := by omega
            have d0 := dfI_0 hs z o 0
            have d1 := dfI_0 hs z o 1
            first | exact (cI_t (Or.inl (d0.mpr (hS.mp (by omega))))).symm | exact (cI_t (Or.inr (d1.mpr (hT.mp (by omega))))).symm | exact (cI_f (fun q => q.elim (fun q => by have := hS.mpr (d0.mp q); omega) (fun q => by have := hT.mpr (d1.mp q); omega))).symm), rfl⟩
    · intro h96
      refine g_iload 101 C 1 dX6_isLike_99 rfl rfl ?_
      refine g_if_eq 108 104 C dX6_isLike_101 (by decide) rfl (by omega) ?_ ?_
      · intro h101
        refine g_iconst 109 C dX6_isLike_108 rfl ?_
        exact g_zret C hr dX6_isLike_109 (by first | rfl | decide | (split <;> rfl)) ⟨g_ri (by
            obtain rfl : i = 5 := by omega
            have d0 := dfI_0 hs z o 0
            have d1 := dfI_0 hs z o 1
            first | exact (cI_t (Or.inl (d0.mpr (hS.mp (by omega))))).symm | exact (cI_t (Or.inr (d1.mpr (hT.mp (by omega))))).symm | exact (cI_f (fun q => q.elim (fun q => by have := hS.mpr (d0.mp q); omega) (fun q => by have := hT.mpr (d1.mp q); omega))).symm), rfl⟩
      · intro h101
        refine g_iconst 105 C dX6_isLike_104 rfl ?_
        refine g_goto 109 C dX6_isLike_105 (by decide) ?_
        exact g_zret C hr dX6_isLike_109 (by first | rfl | decide | (split <;> rfl)) ⟨g_ri (by
            obtain rfl : i = 5 := by omega
            have d0 := dfI_0 hs z o 0
            have d1 := dfI_0 hs z o 1
            first | exact (cI_t (Or.inl (d0.mpr (hS.mp (by omega))))).symm | exact (cI_t (Or.inr (d1.mpr (hT.mp (by omega))))).symm | exact (cI_f (fun q => q.elim (fun q => by have := hS.mpr (d0.mp q); omega) (fun q => by have := hT.mpr (d1.mp q); omega))).symm), rfl⟩
  · intro h11
    have e1 := ht5 hs z i
    have e2 := ht5 hs o i
    have e3 := ht5n hs o i
    have e4 := htI_b hh z i 0
    have e5 := htI_b hh o i 0
    have e6 := htI_b hh o i 1
    refine g_iload_n 15 C 0 dX6_isLike_14 rfl rfl ?_
    refine g_joinv 48 1 (if s = 1 ∧ htI hs z i 0 = htI hs o i 0 then 1 else 0) ?_ ?_
    · skip
      refine g_istore_n (lv' := [(3, _), (4, _), (5, _), (2, _), (1, _), (0, _)]) 49 C dX6_isLike_48 rfl rfl (by decide) rfl ?_
      refine g_iload 51 C 1 dX6_isLike_49 rfl rfl ?_
      refine g_joinv 87 1 (if t = 1 ∧ htI hs z i 0 = htI hs o i 1 then 1 else 0) ?_ ?_
      · skip
        refine g_istore (lv' := [(4, _), (3, _), (5, _), (2, _), (1, _), (0, _)]) 89 C dX6_isLike_87 rfl (by decide) rfl ?_
        refine g_iinc (lv' := [(5, _), (4, _), (3, _), (2, _), (1, _), (0, _)]) 92 C 2 dX6_isLike_89 rfl rfl (by decide) rfl ?_
        refine g_goto 8 C dX6_isLike_92 (by decide) ?_
        exact g_w [2, 1, 0, 3, 4, 5] rfl rfl (ih8 ((if s = 1 ∧ htI hs z i 0 = htI hs o i 0 then 1 else 0), (if t = 1 ∧ htI hs z i 0 = htI hs o i 1 then 1 else 0), (i + 1)) (by
            try dsimp only
            exact ⟨⟨by omega, by split <;> omega, by split <;> omega⟩, lk_s hi.1.1 hS, lk_s hi.1.1 hT⟩) (by (try dsimp only); omega))
      · intro kj
        refine g_if_eq 86 54 C dX6_isLike_51 (by decide) rfl (by omega) ?_ ?_
        · intro h51
          refine g_iconst 87 C dX6_isLike_86 rfl ?_
          exact kj _ (by first | exact (if_pos (by omega)).symm | exact (if_neg (by omega)).symm)
        · intro h51
          refine g_aload_n 55 C 5 dX6_isLike_54 rfl rfl ?_
          refine g_get 58 C 0 3 6 iX6_isLike_X6 lX6_isLike_7 dX6_isLike_55 rfl rfl rfl (by decide) rfl ?_
          refine g_iconst 59 C dX6_isLike_58 rfl ?_
          refine g_iload_n 60 C 4 dX6_isLike_59 rfl rfl ?_
          refine g_imul 61 C dX6_isLike_60 rfl ?_
          refine g_iload 63 C 2 dX6_isLike_61 rfl rfl ?_
          refine g_iadd 64 C dX6_isLike_63 rfl ?_
          refine g_iaload 65 C 1 dX6_isLike_64 rfl rfl (by omega) ?_
          refine g_aload_n 66 C 5 dX6_isLike_65 rfl rfl ?_
          refine g_get 69 C 0 3 6 iX6_isLike_X6 lX6_isLike_7 dX6_isLike_66 rfl rfl rfl (by decide) rfl ?_
          refine g_iconst 70 C dX6_isLike_69 rfl ?_
          refine g_iload_n 71 C 3 dX6_isLike_70 rfl rfl ?_
          refine g_imul 72 C dX6_isLike_71 rfl ?_
          refine g_iconst 73 C dX6_isLike_72 rfl ?_
          refine g_iadd 74 C dX6_isLike_73 rfl ?_
          refine g_iload 76 C 2 dX6_isLike_74 rfl rfl ?_
          refine g_isub 77 C dX6_isLike_76 rfl ?_
          refine g_iaload 78 C 1 dX6_isLike_77 rfl rfl (by omega) ?_
          refine g_ineg 79 C dX6_isLike_78 rfl ?_
          refine g_icmp_ne 86 82 C dX6_isLike_79 (by decide) rfl (by omega) ?_ ?_
          · intro h79
            refine g_iconst 87 C dX6_isLike_86 rfl ?_
            exact kj _ (by first | exact (if_pos (by omega)).symm | exact (if_neg (by omega)).symm)
          · intro h79
            refine g_iconst 83 C dX6_isLike_82 rfl ?_
            refine g_goto 87 C dX6_isLike_83 (by decide) ?_
            exact kj _ (by first | exact (if_pos (by omega)).symm | exact (if_neg (by omega)).symm)
    · intro kj
      refine g_if_eq 47 18 C dX6_isLike_15 (by decide) rfl (by omega) ?_ ?_
      · intro h15
        refine g_iconst 48 C dX6_isLike_47 rfl ?_
        exact kj _ (by first | exact (if_pos (by omega)).symm | exact (if_neg (by omega)).symm)
      · intro h15
        refine g_aload_n 19 C 5 dX6_isLike_18 rfl rfl ?_
        refine g_get 22 C 0 3 6 iX6_isLike_X6 lX6_isLike_7 dX6_isLike_19 rfl rfl rfl (by decide) rfl ?_
        refine g_iconst 23 C dX6_isLike_22 rfl ?_
        refine g_iload_n 24 C 4 dX6_isLike_23 rfl rfl ?_
        refine g_imul 25 C dX6_isLike_24 rfl ?_
        refine g_iload 27 C 2 dX6_isLike_25 rfl rfl ?_
        refine g_iadd 28 C dX6_isLike_27 rfl ?_
        refine g_iaload 29 C 1 dX6_isLike_28 rfl rfl (by omega) ?_
        refine g_aload_n 30 C 5 dX6_isLike_29 rfl rfl ?_
        refine g_get 33 C 0 3 6 iX6_isLike_X6 lX6_isLike_7 dX6_isLike_30 rfl rfl rfl (by decide) rfl ?_
        refine g_iconst 34 C dX6_isLike_33 rfl ?_
        refine g_iload_n 35 C 3 dX6_isLike_34 rfl rfl ?_
        refine g_imul 36 C dX6_isLike_35 rfl ?_
        refine g_iload 38 C 2 dX6_isLike_36 rfl rfl ?_
        refine g_iadd 39 C dX6_isLike_38 rfl ?_
        refine g_iaload 40 C 1 dX6_isLike_39 rfl rfl (by omega) ?_
        refine g_icmp_ne 47 43 C dX6_isLike_40 (by decide) rfl (by omega) ?_ ?_
        · intro h40
          refine g_iconst 48 C dX6_isLike_47 rfl ?_
          exact kj _ (by first | exact (if_pos (by omega)).symm | exact (if_neg (by omega)).symm)
        · intro h40
          refine g_iconst 44 C dX6_isLike_43 rfl ?_
          refine g_goto 48 C dX6_isLike_44 (by decide) ?_
          exact kj _ (by first | exact (if_pos (by omega)).symm | exact (if_neg (by omega)).symm)
theorem cdX6_isBulge : yX6_isBulge.cls = RX6 ∧ yX6_isBulge.cls ≠ "java/lang/invoke/MethodHandle" ∧ yX6_isBulge.cls ≠ "java/lang/invoke/VarHandle" ∧ (parseMethodDescriptor yX6_isBulge.desc).map (fun d => d.parameters.length) = some 1 := by decide +kernel
theorem cdX6_isLike : yX6_isLike.cls = RX6 ∧ yX6_isLike.cls ≠ "java/lang/invoke/MethodHandle" ∧ yX6_isLike.cls ≠ "java/lang/invoke/VarHandle" ∧ (parseMethodDescriptor yX6_isLike.desc).map (fun d => d.parameters.length) = some 2 := by decide +kernel
set_option maxHeartbeats 4000000 in
set_option maxRecDepth 100000 in
theorem k_X6_kindOf (E : gE) (l : Launch) {a_M a_Ma a_Mc a_Mg a_Mh a_Mi a_Ml a_Mp a_Ms a_Mt a_Mu a_Mx a_My : Nat} {z : Int} {hs : Int → Int} {mf W h mL mN n tc fd jo tr : Int} {md : Int64} (hB : 1 ≤ W ∧ W ≤ 5 ∧ 1 ≤ h ∧ h ≤ 5) (hz : 0 ≤ z ∧ z < nsd W h) (hh : hB9 hs) : gFun E l yX6_kindOf wsX6_kindOf { frames := 2, cells := 0, slots := 0, locals := 40 } [.ref a_M, .int (iI z)] [(a_M, .inr (6, [.int (iI mf), .int (iI W), .int (iI h), .ref a_Mh, .long md, .int (iI mL), .int (iI mN), .int (iI n), .ref a_Mp, .ref a_Mt, .int (iI tc), .int (iI fd), .ref a_Ma, .ref a_Mu, .ref a_Mi, .int (iI jo), .ref a_Mx, .ref a_My, .ref a_Ms, .ref a_Ml, .ref a_Mc, .ref a_Mg, .int (iI tr)])), (a_Mh, aI E 200 hs)] (.int (iI (kdI hs (nsd W h) z))) := by
  refine g_start (cc := cX6_kindOf) (maxL := 3) (ret := (some .int)) (by decide) rfl (Nat.le_of_ble_eq_true rfl) ?_
  intro p_ e_ s_ m_ args_ below_ meth_ c_ A_ C hr hnm
  have hN := nsd_b hB
  refine g_aload_n 1 C 0 dX6_kindOf_0 rfl rfl ?_
  refine g_iload_n 2 C 1 dX6_kindOf_1 rfl rfl ?_
  refine g_callVF 5 C [0, 1] dX6_kindOf_2 rfl (k_X6_isBulge E l  (by first | assumption | omega) (by first | assumption | omega)) (cwV 1 C.2.2.2.2.1 gX6_kindOf_X6_isBulge rfl rfl rfl cdX6_isBulge ⟨Nat.le_of_ble_eq_true rfl, Nat.le_of_ble_eq_true rfl⟩) rfl rfl rfl rfl (Nat.le_of_ble_eq_true rfl) 0 6 rfl rfl rfl ⟨Nat.le_of_ble_eq_true rfl, Nat.le_of_ble_eq_true rfl⟩ ?_
  refine g_ifb_ne 10 8 C dX6_kindOf_5 (by decide) rfl ?_ ?_
  · intro h5
    refine g_iconst 11 C dX6_kindOf_10 rfl ?_
    refine g_istore_n (lv' := [(2, _), (0, _), (1, _)]) 12 C dX6_kindOf_11 rfl rfl (by decide) rfl ?_
    refine g_loop (α := Int) (fun zz => [(a_M, .inr (6, [.int (iI mf), .int (iI W), .int (iI h), .ref a_Mh, .long md, .int (iI mL), .int (iI mN), .int (iI n), .ref a_Mp, .ref a_Mt, .int (iI tc), .int (iI fd), .ref a_Ma, .ref a_Mu, .ref a_Mi, .int (iI jo), .ref a_Mx, .ref a_My, .ref a_Ms, .ref a_Ml, .ref a_Mc, .ref a_Mg, .int (iI tr)])), (a_Mh, aI E 200 hs)]) (fun zz => [(2, .int (iI zz)), (1, .int (iI z)), (0, .ref a_M)]) (fun zz => 0 ≤ zz ∧ zz ≤ nsd W h ∧ ∀ j, 0 ≤ j → j < zz → j ≠ z → ¬ (dfI hs z j 0 = 0 ∨ dfI hs z j 1 = 0)) (fun zz => (nsd W h - zz).toNat) (0) (by
            try dsimp only
            exact ⟨by omega, by omega, fun j h1 h2 => absurd h1 (by omega)⟩) [0, 2, 1] rfl rfl ?_
    rintro k hI ih12
    try dsimp only at hI ih12 ⊢
    obtain ⟨hk0, hkn, hkk⟩ := hI
    refine g_iload_n 13 C 0 dX6_kindOf_12 rfl rfl ?_
    refine g_aload_n 14 C 2 dX6_kindOf_13 rfl rfl ?_
    refine g_callVF 17 C [0] dX6_kindOf_14 rfl (k_X6_sides E l  ) (cwV 0 C.2.2.2.2.1 gX6_kindOf_X6_sides rfl rfl rfl cdX6_sides ⟨Nat.le_of_ble_eq_true rfl, Nat.le_of_ble_eq_true rfl⟩) rfl rfl rfl rfl (Nat.le_of_ble_eq_true rfl) 0 6 rfl rfl rfl ⟨Nat.le_of_ble_eq_true rfl, Nat.le_of_ble_eq_true rfl⟩ ?_
    refine g_icmp_ge 42 20 C dX6_kindOf_17 (by decide) rfl (by omega) ?_ ?_
    · intro h17
      refine g_iconst 43 C dX6_kindOf_42 rfl ?_
      exact g_iret C hr dX6_kindOf_43 ⟨g_ri (((cI_t (by assumption)).trans (cI_f (fun ⟨j, a1, a2, a3, a4⟩ => hkk j a1 (by omega) a3 a4))).symm), rfl⟩
    · intro h17
      refine g_iload_n 21 C 0 dX6_kindOf_20 rfl rfl ?_
      refine g_iload_n 22 C 1 dX6_kindOf_21 rfl rfl ?_
      refine g_icmp_eq 36 25 C dX6_kindOf_22 (by decide) rfl (by omega) ?_ ?_
      · intro h22
        refine g_iinc (lv' := [(2, _), (1, _), (0, _)]) 39 C 0 dX6_kindOf_36 rfl rfl (by decide) rfl ?_
        refine g_goto 12 C dX6_kindOf_39 (by decide) ?_
        exact g_w [0, 1, 2] rfl rfl (ih12 ((k + 1)) (by
            try dsimp only
            exact ⟨by omega, by omega, fun j h1 h2 h3 => by
            by_cases e : j = k
            · subst e; first | assumption | omega
            · exact hkk j h1 (by omega) h3⟩) (by (try dsimp only); omega))
      · intro h22
        refine g_aload_n 26 C 2 dX6_kindOf_25 rfl rfl ?_
        refine g_iload_n 27 C 1 dX6_kindOf_26 rfl rfl ?_
        refine g_iload_n 28 C 0 dX6_kindOf_27 rfl rfl ?_
        refine g_callVF 31 C [0, 1] dX6_kindOf_28 rfl (k_X6_isLike E l  (by first | assumption | omega) (by first | assumption | omega) (by first | assumption | omega)) (cwV 2 C.2.2.2.2.1 gX6_kindOf_X6_isLike rfl rfl rfl cdX6_isLike ⟨Nat.le_of_ble_eq_true rfl, Nat.le_of_ble_eq_true rfl⟩) rfl rfl rfl rfl (Nat.le_of_ble_eq_true rfl) 0 6 rfl rfl rfl ⟨Nat.le_of_ble_eq_true rfl, Nat.le_of_ble_eq_true rfl⟩ ?_
        refine g_ifb_eq 36 34 C dX6_kindOf_31 (by decide) rfl ?_ ?_
        · intro h31
          refine g_iinc (lv' := [(2, _), (1, _), (0, _)]) 39 C 0 dX6_kindOf_36 rfl rfl (by decide) rfl ?_
          refine g_goto 12 C dX6_kindOf_39 (by decide) ?_
          exact g_w [0, 1, 2] rfl rfl (ih12 ((k + 1)) (by
            try dsimp only
            exact ⟨by omega, by omega, fun j h1 h2 h3 => by
            by_cases e : j = k
            · subst e; first | assumption | omega
            · exact hkk j h1 (by omega) h3⟩) (by (try dsimp only); omega))
        · intro h31
          refine g_iconst 35 C dX6_kindOf_34 rfl ?_
          exact g_iret C hr dX6_kindOf_35 ⟨g_ri (((cI_t (by assumption)).trans (cI_t ⟨k, hk0, by omega, by omega, by assumption⟩)).symm), rfl⟩
  · intro h5
    refine g_iconst 9 C dX6_kindOf_8 rfl ?_
    exact g_iret C hr dX6_kindOf_9 ⟨g_ri ((cI_f (by assumption)).symm), rfl⟩
theorem cdX6_kindOf : yX6_kindOf.cls = RX6 ∧ yX6_kindOf.cls ≠ "java/lang/invoke/MethodHandle" ∧ yX6_kindOf.cls ≠ "java/lang/invoke/VarHandle" ∧ (parseMethodDescriptor yX6_kindOf.desc).map (fun d => d.parameters.length) = some 1 := by decide +kernel
set_option maxHeartbeats 4000000 in
set_option maxRecDepth 100000 in
theorem k_X6_kind (E : gE) (l : Launch) {a_M a_Ma a_Mc a_Mg a_Mh a_Mi a_Ml a_Mp a_Ms a_Mt a_Mu a_Mx a_My : Nat} {z : Int} {hs : Int → Int} {mf W h mL mN n tc fd jo tr : Int} {md : Int64} (hB : 1 ≤ W ∧ W ≤ 5 ∧ 1 ≤ h ∧ h ≤ 5) (hh : hB9 hs) (hz : -2147483648 ≤ z ∧ z < 2147483648) : gFun E l yX6_kind wsX6_kind { frames := 3, cells := 0, slots := 0, locals := 62 } [.ref a_M, .int (iI z)] [(a_M, .inr (6, [.int (iI mf), .int (iI W), .int (iI h), .ref a_Mh, .long md, .int (iI mL), .int (iI mN), .int (iI n), .ref a_Mp, .ref a_Mt, .int (iI tc), .int (iI fd), .ref a_Ma, .ref a_Mu, .ref a_Mi, .int (iI jo), .ref a_Mx, .ref a_My, .ref a_Ms, .ref a_Ml, .ref a_Mc, .ref a_Mg, .int (iI tr)])), (a_Mh, aI E 200 hs)] (.int (iI (if 0 ≤ z ∧ z < nsd W h then kdI hs (nsd W h) z else -1))) := by
  refine g_start (cc := cX6_kind) (maxL := 2) (ret := (some .int)) (by decide) rfl (Nat.le_of_ble_eq_true rfl) ?_
  intro p_ e_ s_ m_ args_ below_ meth_ c_ A_ C hr hnm
  have hN := nsd_b hB
  refine g_aload_n 1 C 0 dX6_kind_0 rfl rfl ?_
  refine g_iload_n 2 C 1 dX6_kind_1 rfl rfl ?_
  refine g_callVF 5 C [0] dX6_kind_2 rfl (k_X6_noSide E l  (by first | assumption | omega) (by first | assumption | omega)) (cwV 1 C.2.2.2.2.1 gX6_kind_X6_noSide rfl rfl rfl cdX6_noSide ⟨Nat.le_of_ble_eq_true rfl, Nat.le_of_ble_eq_true rfl⟩) rfl rfl rfl rfl (Nat.le_of_ble_eq_true rfl) 0 6 rfl rfl rfl ⟨Nat.le_of_ble_eq_true rfl, Nat.le_of_ble_eq_true rfl⟩ ?_
  refine g_ifb_eq 12 8 C dX6_kind_5 (by decide) rfl ?_ ?_
  · intro h5
    refine g_aload_n 13 C 0 dX6_kind_12 rfl rfl ?_
    refine g_iload_n 14 C 1 dX6_kind_13 rfl rfl ?_
    refine g_callVF 17 C [0, 1] dX6_kind_14 rfl (k_X6_kindOf E l  (by first | assumption | omega) (by first | assumption | omega) (by first | assumption | omega)) (cwV 1 C.2.2.2.2.1 gX6_kind_X6_kindOf rfl rfl rfl cdX6_kindOf ⟨Nat.le_of_ble_eq_true rfl, Nat.le_of_ble_eq_true rfl⟩) rfl rfl rfl rfl (Nat.le_of_ble_eq_true rfl) 0 6 rfl rfl rfl ⟨Nat.le_of_ble_eq_true rfl, Nat.le_of_ble_eq_true rfl⟩ ?_
    exact g_iret C hr dX6_kind_17 ⟨g_ri (by first | rfl | omega | exact (if_pos (by omega)).symm | exact (if_neg (by omega)).symm), rfl⟩
  · intro h5
    refine g_iconst 9 C dX6_kind_8 rfl ?_
    refine g_goto 17 C dX6_kind_9 (by decide) ?_
    exact g_iret C hr dX6_kind_17 ⟨g_ri (by first | rfl | omega | exact (if_pos (by omega)).symm | exact (if_neg (by omega)).symm), rfl⟩
