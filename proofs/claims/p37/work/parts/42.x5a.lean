set_option maxHeartbeats 4000000 in
set_option maxRecDepth 100000 in
theorem k_X5_isHeightPlace (E : gE) (l : Launch) {z : Int} (hz : -2147483648 ≤ z ∧ z < 2147483648) : gFun E l yX5_isHeightPlace wsX5_isHeightPlace { frames := 0, cells := 0, slots := 0, locals := 0 } [.int (iI z)] [] (.int (iI (if 0 ≤ z ∧ z < 5 then 1 else 0))) := by
  refine g_start (cc := cX5_isHeightPlace) (maxL := 1) (ret := (some .boolean)) (by decide) rfl (Nat.le_of_ble_eq_true rfl) ?_
  intro p_ e_ s_ m_ args_ below_ meth_ c_ A_ C hr hnm
  refine g_iload_n 1 C 0 dX5_isHeightPlace_0 rfl rfl ?_
  refine g_if_lt 13 4 C dX5_isHeightPlace_1 (by decide) rfl (by omega) ?_ ?_
  · intro h1
    refine g_iconst 14 C dX5_isHeightPlace_13 rfl ?_
    exact g_zret C hr dX5_isHeightPlace_14 (by first | rfl | decide | (split <;> rfl)) ⟨g_ri (by first | rfl | omega | exact (if_pos (by omega)).symm | exact (if_neg (by omega)).symm), rfl⟩
  · intro h1
    refine g_iload_n 5 C 0 dX5_isHeightPlace_4 rfl rfl ?_
    refine g_iconst 6 C dX5_isHeightPlace_5 rfl ?_
    refine g_icmp_ge 13 9 C dX5_isHeightPlace_6 (by decide) rfl (by omega) ?_ ?_
    · intro h6
      refine g_iconst 14 C dX5_isHeightPlace_13 rfl ?_
      exact g_zret C hr dX5_isHeightPlace_14 (by first | rfl | decide | (split <;> rfl)) ⟨g_ri (by first | rfl | omega | exact (if_pos (by omega)).symm | exact (if_neg (by omega)).symm), rfl⟩
    · intro h6
      refine g_iconst 10 C dX5_isHeightPlace_9 rfl ?_
      refine g_goto 14 C dX5_isHeightPlace_10 (by decide) ?_
      exact g_zret C hr dX5_isHeightPlace_14 (by first | rfl | decide | (split <;> rfl)) ⟨g_ri (by first | rfl | omega | exact (if_pos (by omega)).symm | exact (if_neg (by omega)).symm), rfl⟩
set_option maxHeartbeats 4000000 in
set_option maxRecDepth 100000 in
theorem k_X5_isHeight (E : gE) (l : Launch) {z : Int} (hz : -2147483648 ≤ z ∧ z < 2147483648) : gFun E l yX5_isHeight wsX5_isHeight { frames := 0, cells := 0, slots := 0, locals := 0 } [.int (iI z)] [] (.int (iI (if -9 ≤ z ∧ z ≤ 9 then 1 else 0))) := by
  refine g_start (cc := cX5_isHeight) (maxL := 1) (ret := (some .boolean)) (by decide) rfl (Nat.le_of_ble_eq_true rfl) ?_
  intro p_ e_ s_ m_ args_ below_ meth_ c_ A_ C hr hnm
  refine g_iload_n 1 C 0 dX5_isHeight_0 rfl rfl ?_
  refine g_bipush 3 C dX5_isHeight_1 rfl (by decide) ?_
  refine g_icmp_lt 16 6 C dX5_isHeight_3 (by decide) rfl (by omega) ?_ ?_
  · intro h3
    refine g_iconst 17 C dX5_isHeight_16 rfl ?_
    exact g_zret C hr dX5_isHeight_17 (by first | rfl | decide | (split <;> rfl)) ⟨g_ri (by first | rfl | omega | exact (if_pos (by omega)).symm | exact (if_neg (by omega)).symm), rfl⟩
  · intro h3
    refine g_iload_n 7 C 0 dX5_isHeight_6 rfl rfl ?_
    refine g_bipush 9 C dX5_isHeight_7 rfl (by decide) ?_
    refine g_icmp_gt 16 12 C dX5_isHeight_9 (by decide) rfl (by omega) ?_ ?_
    · intro h9
      refine g_iconst 17 C dX5_isHeight_16 rfl ?_
      exact g_zret C hr dX5_isHeight_17 (by first | rfl | decide | (split <;> rfl)) ⟨g_ri (by first | rfl | omega | exact (if_pos (by omega)).symm | exact (if_neg (by omega)).symm), rfl⟩
    · intro h9
      refine g_iconst 13 C dX5_isHeight_12 rfl ?_
      refine g_goto 17 C dX5_isHeight_13 (by decide) ?_
      exact g_zret C hr dX5_isHeight_17 (by first | rfl | decide | (split <;> rfl)) ⟨g_ri (by first | rfl | omega | exact (if_pos (by omega)).symm | exact (if_neg (by omega)).symm), rfl⟩
set_option maxHeartbeats 4000000 in
set_option maxRecDepth 100000 in
theorem k_X5_isMissingWhat (E : gE) (l : Launch) {z : Int} (hz : -2147483648 ≤ z ∧ z < 2147483648) : gFun E l yX5_isMissingWhat wsX5_isMissingWhat { frames := 0, cells := 0, slots := 0, locals := 0 } [.int (iI z)] [] (.int (iI (if z = 0 ∨ z = 1 then 1 else 0))) := by
  refine g_start (cc := cX5_isMissingWhat) (maxL := 1) (ret := (some .boolean)) (by decide) rfl (Nat.le_of_ble_eq_true rfl) ?_
  intro p_ e_ s_ m_ args_ below_ meth_ c_ A_ C hr hnm
  refine g_iload_n 1 C 0 dX5_isMissingWhat_0 rfl rfl ?_
  refine g_if_eq 9 4 C dX5_isMissingWhat_1 (by decide) rfl (by omega) ?_ ?_
  · intro h1
    refine g_iconst 10 C dX5_isMissingWhat_9 rfl ?_
    refine g_goto 14 C dX5_isMissingWhat_10 (by decide) ?_
    exact g_zret C hr dX5_isMissingWhat_14 (by first | rfl | decide | (split <;> rfl)) ⟨g_ri (by first | rfl | omega | exact (if_pos (by omega)).symm | exact (if_neg (by omega)).symm), rfl⟩
  · intro h1
    refine g_iload_n 5 C 0 dX5_isMissingWhat_4 rfl rfl ?_
    refine g_iconst 6 C dX5_isMissingWhat_5 rfl ?_
    refine g_icmp_ne 13 9 C dX5_isMissingWhat_6 (by decide) rfl (by omega) ?_ ?_
    · intro h6
      refine g_iconst 14 C dX5_isMissingWhat_13 rfl ?_
      exact g_zret C hr dX5_isMissingWhat_14 (by first | rfl | decide | (split <;> rfl)) ⟨g_ri (by first | rfl | omega | exact (if_pos (by omega)).symm | exact (if_neg (by omega)).symm), rfl⟩
    · intro h6
      refine g_iconst 10 C dX5_isMissingWhat_9 rfl ?_
      refine g_goto 14 C dX5_isMissingWhat_10 (by decide) ?_
      exact g_zret C hr dX5_isMissingWhat_14 (by first | rfl | decide | (split <;> rfl)) ⟨g_ri (by first | rfl | omega | exact (if_pos (by omega)).symm | exact (if_neg (by omega)).symm), rfl⟩
theorem cdX3_trialsCounted : yX3_trialsCounted.cls = RX3 ∧ yX3_trialsCounted.cls ≠ "java/lang/invoke/MethodHandle" ∧ yX3_trialsCounted.cls ≠ "java/lang/invoke/VarHandle" ∧ (parseMethodDescriptor yX3_trialsCounted.desc).map (fun d => d.parameters.length) = some 0 := by decide +kernel
theorem lX5_trials_30 : Cond.fieldLink RX5 30 (TX5 2).1 (TX5 2).2.1 (TX5 2).2.2.1 ∈ wsX5_trials := by decide +kernel
theorem iX5_trials_X5 : ∀ w ∈ u_ws RX5 TX5 7, w ∈ wsX5_trials := by decide +kernel
set_option maxHeartbeats 4000000 in
set_option maxRecDepth 100000 in
theorem k_X5_trials (E : gE) (l : Launch) {a_D a_L a_P a_Q a_R a_X a_fi a_jl a_ly a_sh a_us a_wa : Nat} {tr ft : Int} {jo fo sp fd tc : Int}  : gFun E l yX5_trials wsX5_trials { frames := 1, cells := 0, slots := 0, locals := 20 } [.ref a_X] [(a_X, .inr (5, [.ref a_P, .ref a_L, .ref a_R, .ref a_D, .ref a_Q, .int (iI tr), .int (iI ft)])), (a_R, .inr (3, [.ref a_P, .ref a_L, .ref a_sh, .ref a_fi, .ref a_wa, .ref a_us, .ref a_ly, .ref a_jl, .int (iI jo), .int (iI fo), .int (iI sp), .int (iI fd), .int (iI tc)]))] (.int (iI tc)) := by
  refine g_start (cc := cX5_trials) (maxL := 1) (ret := (some .int)) (by decide) rfl (Nat.le_of_ble_eq_true rfl) ?_
  intro p_ e_ s_ m_ args_ below_ meth_ c_ A_ C hr hnm
  refine g_aload_n 1 C 0 dX5_trials_0 rfl rfl ?_
  refine g_get 4 C 0 2 5 iX5_trials_X5 lX5_trials_30 dX5_trials_1 rfl rfl rfl (by decide) rfl ?_
  refine g_callVF 7 C [1] dX5_trials_4 rfl (k_X3_trialsCounted E l  ) (cwV 0 C.2.2.2.2.1 gX5_trials_X3_trialsCounted rfl rfl rfl cdX3_trialsCounted ⟨Nat.le_of_ble_eq_true rfl, Nat.le_of_ble_eq_true rfl⟩) rfl rfl rfl rfl (Nat.le_of_ble_eq_true rfl) 1 3 rfl rfl rfl ⟨Nat.le_of_ble_eq_true rfl, Nat.le_of_ble_eq_true rfl⟩ ?_
  exact g_iret C hr dX5_trials_7 ⟨g_ri (by first | rfl | omega | exact (if_pos (by omega)).symm | exact (if_neg (by omega)).symm), rfl⟩
theorem cdX1_hasSide : yX1_hasSide.cls = RX1 ∧ yX1_hasSide.cls ≠ "java/lang/invoke/MethodHandle" ∧ yX1_hasSide.cls ≠ "java/lang/invoke/VarHandle" ∧ (parseMethodDescriptor yX1_hasSide.desc).map (fun d => d.parameters.length) = some 1 := by decide +kernel
theorem cdX1_setHeight : yX1_setHeight.cls = RX1 ∧ yX1_setHeight.cls ≠ "java/lang/invoke/MethodHandle" ∧ yX1_setHeight.cls ≠ "java/lang/invoke/VarHandle" ∧ (parseMethodDescriptor yX1_setHeight.desc).map (fun d => d.parameters.length) = some 3 := by decide +kernel
theorem cdX3_forgetJoined : yX3_forgetJoined.cls = RX3 ∧ yX3_forgetJoined.cls ≠ "java/lang/invoke/MethodHandle" ∧ yX3_forgetJoined.cls ≠ "java/lang/invoke/VarHandle" ∧ (parseMethodDescriptor yX3_forgetJoined.desc).map (fun d => d.parameters.length) = some 0 := by decide +kernel
theorem cdX5_isHeight : yX5_isHeight.cls ≠ "java/lang/invoke/MethodHandle" ∧ yX5_isHeight.cls ≠ "java/lang/invoke/VarHandle" ∧ (parseMethodDescriptor yX5_isHeight.desc).map (fun d => d.parameters.length) = some 1 := by decide +kernel
theorem cdX5_isHeightPlace : yX5_isHeightPlace.cls ≠ "java/lang/invoke/MethodHandle" ∧ yX5_isHeightPlace.cls ≠ "java/lang/invoke/VarHandle" ∧ (parseMethodDescriptor yX5_isHeightPlace.desc).map (fun d => d.parameters.length) = some 1 := by decide +kernel
theorem lX5_bend_12 : Cond.fieldLink RX5 12 (TX5 0).1 (TX5 0).2.1 (TX5 0).2.2.1 ∈ wsX5_bend := by decide +kernel
theorem lX5_bend_30 : Cond.fieldLink RX5 30 (TX5 2).1 (TX5 2).2.1 (TX5 2).2.2.1 ∈ wsX5_bend := by decide +kernel
theorem lX5_bend_84 : Cond.constantLong RX5 84 (-9223372036854775808) ∈ wsX5_bend := by decide +kernel
theorem iX5_bend_X5 : ∀ w ∈ u_ws RX5 TX5 7, w ∈ wsX5_bend := by decide +kernel
set_option maxHeartbeats 4000000 in
set_option maxRecDepth 100000 in
theorem k_X5_bend (E : gE) (l : Launch) {a_D a_L a_P a_Q a_R a_X a_fi a_hs a_jl a_ly a_se a_sh a_us a_wa : Nat} {W h z i v : Int} {hs : Int → Int} {tr ft : Int} {jo fo sp fd tc : Int} (hB : 1 ≤ W ∧ W ≤ 5 ∧ 1 ≤ h ∧ h ≤ 5) (hh : hB9 hs) (hz : -2147483648 ≤ z ∧ z < 2147483648) (hi : -2147483648 ≤ i ∧ i < 2147483648) (hv : -2147483648 ≤ v ∧ v < 2147483648) : gUpd E l yX5_bend wsX5_bend { frames := 2, cells := 0, slots := 0, locals := 41 } [.ref a_X, .int (iI z), .int (iI i), .int (iI v)] [(a_X, .inr (5, [.ref a_P, .ref a_L, .ref a_R, .ref a_D, .ref a_Q, .int (iI tr), .int (iI ft)])), (a_P, .inr (1, [.ref a_hs, .ref a_se, .int (iI W), .int (iI h)])), (a_hs, aI E 200 hs), (a_R, .inr (3, [.ref a_P, .ref a_L, .ref a_sh, .ref a_fi, .ref a_wa, .ref a_us, .ref a_ly, .ref a_jl, .int (iI jo), .int (iI fo), .int (iI sp), .int (iI fd), .int (iI tc)]))] (some (.long (lI (if (0 ≤ z ∧ z < nsd W h) ∧ (0 ≤ i ∧ i < 5) ∧ -9 ≤ v ∧ v ≤ 9 then htI hs z i 0 else -9223372036854775808)))) [(a_X, .inr (5, [.ref a_P, .ref a_L, .ref a_R, .ref a_D, .ref a_Q, .int (iI tr), .int (iI ft)])), (a_P, .inr (1, [.ref a_hs, .ref a_se, .int (iI W), .int (iI h)])), (a_hs, aI E 200 (if (0 ≤ z ∧ z < nsd W h) ∧ (0 ≤ i ∧ i < 5) ∧ -9 ≤ v ∧ v ≤ 9 then uI hs (z * 5 + i) v else hs)), (a_R, .inr (3, [.ref a_P, .ref a_L, .ref a_sh, .ref a_fi, .ref a_wa, .ref a_us, .ref a_ly, .ref a_jl, .int (iI (if (0 ≤ z ∧ z < nsd W h) ∧ (0 ≤ i ∧ i < 5) ∧ -9 ≤ v ∧ v ≤ 9 then 0 else jo)), .int (iI fo), .int (iI sp), .int (iI fd), .int (iI tc)]))] := by
  refine g_start (cc := cX5_bend) (maxL := 5) (ret := (some .long)) (by decide) rfl (Nat.le_of_ble_eq_true rfl) ?_
  intro p_ e_ s_ m_ args_ below_ meth_ c_ A_ C hr hnm
  have hn := nsd_b hB
  refine g_aload_n 1 C 0 dX5_bend_0 rfl rfl ?_
  refine g_get 4 C 0 0 5 iX5_bend_X5 lX5_bend_12 dX5_bend_1 rfl rfl rfl (by decide) rfl ?_
  refine g_iload_n 5 C 1 dX5_bend_4 rfl rfl ?_
  refine g_callVF 8 C [1] dX5_bend_5 rfl (k_X1_hasSide E l  (by first | assumption | omega) (by first | assumption | omega)) (cwV 1 C.2.2.2.2.1 gX5_bend_X1_hasSide rfl rfl rfl cdX1_hasSide ⟨Nat.le_of_ble_eq_true rfl, Nat.le_of_ble_eq_true rfl⟩) rfl rfl rfl rfl (Nat.le_of_ble_eq_true rfl) 1 1 rfl rfl rfl ⟨Nat.le_of_ble_eq_true rfl, Nat.le_of_ble_eq_true rfl⟩ ?_
  refine g_ifb_eq 25 11 C dX5_bend_8 (by decide) rfl ?_ ?_
  · intro h8
    refine g_ldc2 28 C (-9223372036854775808) dX5_bend_25 rfl lX5_bend_84 (by decide) ?_
    exact g_lret C hr dX5_bend_28 ⟨g_rl (by first | rfl | omega | exact (if_pos (by omega)).symm | exact (if_neg (by omega)).symm), by first | rfl | (have hg : (0 ≤ z ∧ z < nsd W h) ∧ (0 ≤ i ∧ i < 5) ∧ -9 ≤ v ∧ v ≤ 9 := (by omega); simp only [if_pos hg]) | (have hg : ¬ ((0 ≤ z ∧ z < nsd W h) ∧ (0 ≤ i ∧ i < 5) ∧ -9 ≤ v ∧ v ≤ 9) := (by omega); simp only [if_neg hg])⟩
  · intro h8
    refine g_iload_n 12 C 2 dX5_bend_11 rfl rfl ?_
    refine g_callSF 15 C [] dX5_bend_12 rfl (k_X5_isHeightPlace E l  (by first | assumption | omega)) (va_cwS 1 C.2.2.2.2.1 gX5_bend_X5_isHeightPlace rfl rfl rfl cdX5_isHeightPlace ⟨Nat.le_of_ble_eq_true rfl, Nat.le_of_ble_eq_true rfl⟩) rfl rfl rfl rfl (Nat.le_of_ble_eq_true rfl) ⟨Nat.le_of_ble_eq_true rfl, Nat.le_of_ble_eq_true rfl⟩ ?_
    refine g_ifb_eq 25 18 C dX5_bend_15 (by decide) rfl ?_ ?_
    · intro h15
      refine g_ldc2 28 C (-9223372036854775808) dX5_bend_25 rfl lX5_bend_84 (by decide) ?_
      exact g_lret C hr dX5_bend_28 ⟨g_rl (by first | rfl | omega | exact (if_pos (by omega)).symm | exact (if_neg (by omega)).symm), by first | rfl | (have hg : (0 ≤ z ∧ z < nsd W h) ∧ (0 ≤ i ∧ i < 5) ∧ -9 ≤ v ∧ v ≤ 9 := (by omega); simp only [if_pos hg]) | (have hg : ¬ ((0 ≤ z ∧ z < nsd W h) ∧ (0 ≤ i ∧ i < 5) ∧ -9 ≤ v ∧ v ≤ 9) := (by omega); simp only [if_neg hg])⟩
    · intro h15
      refine g_iload_n 19 C 3 dX5_bend_18 rfl rfl ?_
      refine g_callSF 22 C [] dX5_bend_19 rfl (k_X5_isHeight E l  (by first | assumption | omega)) (va_cwS 1 C.2.2.2.2.1 gX5_bend_X5_isHeight rfl rfl rfl cdX5_isHeight ⟨Nat.le_of_ble_eq_true rfl, Nat.le_of_ble_eq_true rfl⟩) rfl rfl rfl rfl (Nat.le_of_ble_eq_true rfl) ⟨Nat.le_of_ble_eq_true rfl, Nat.le_of_ble_eq_true rfl⟩ ?_
      refine g_ifb_ne 29 25 C dX5_bend_22 (by decide) rfl ?_ ?_
      · intro h22
        refine g_aload_n 30 C 0 dX5_bend_29 rfl rfl ?_
        refine g_get 33 C 0 0 5 iX5_bend_X5 lX5_bend_12 dX5_bend_30 rfl rfl rfl (by decide) rfl ?_
        refine g_iload_n 34 C 1 dX5_bend_33 rfl rfl ?_
        refine g_iload_n 35 C 2 dX5_bend_34 rfl rfl ?_
        refine g_iconst 36 C dX5_bend_35 rfl ?_
        refine g_callVF 39 C [1, 2] dX5_bend_36 rfl (k_X1_heightAt E l  (by first | assumption | omega) (by first | assumption | omega) (by first | assumption | omega)) (cwV 3 C.2.2.2.2.1 gX5_bend_X1_heightAt rfl rfl rfl cdX1_heightAt ⟨Nat.le_of_ble_eq_true rfl, Nat.le_of_ble_eq_true rfl⟩) rfl rfl rfl rfl (Nat.le_of_ble_eq_true rfl) 1 1 rfl rfl rfl ⟨Nat.le_of_ble_eq_true rfl, Nat.le_of_ble_eq_true rfl⟩ ?_
        refine g_istore (lv' := [(4, _), (0, _), (1, _), (2, _), (3, _)]) 41 C dX5_bend_39 rfl (by decide) rfl ?_
        refine g_aload_n 42 C 1 dX5_bend_41 rfl rfl ?_
        refine g_get 45 C 0 0 5 iX5_bend_X5 lX5_bend_12 dX5_bend_42 rfl rfl rfl (by decide) rfl ?_
        refine g_iload_n 46 C 2 dX5_bend_45 rfl rfl ?_
        refine g_iload_n 47 C 3 dX5_bend_46 rfl rfl ?_
        refine g_iload_n 48 C 4 dX5_bend_47 rfl rfl ?_
        refine g_callVU (ws' := [(_, .inr (5, [_, _, _, _, _, _, _])), (_, .inr (1, [_, _, _, _])), (_, aI _ _ _), (_, .inr (3, [_, _, _, _, _, _, _, _, _, _, _, _, _]))]) 51 C [1, 2] dX5_bend_48 rfl (k_X1_setHeight E l  (by first | assumption | omega) (by first | assumption | omega)) (cwV 3 C.2.2.2.2.1 gX5_bend_X1_setHeight rfl rfl rfl cdX1_setHeight ⟨Nat.le_of_ble_eq_true rfl, Nat.le_of_ble_eq_true rfl⟩) rfl rfl rfl rfl (Nat.le_of_ble_eq_true rfl) 1 1 rfl rfl rfl ⟨Nat.le_of_ble_eq_true rfl, Nat.le_of_ble_eq_true rfl⟩ rfl rfl ?_
        refine g_aload_n 52 C 1 dX5_bend_51 rfl rfl ?_
        refine g_get 55 C 0 2 5 iX5_bend_X5 lX5_bend_30 dX5_bend_52 rfl rfl rfl (by decide) rfl ?_
        refine g_callVU (ws' := [(_, .inr (5, [_, _, _, _, _, _, _])), (_, .inr (1, [_, _, _, _])), (_, aI _ _ _), (_, .inr (3, [_, _, _, _, _, _, _, _, _, _, _, _, _]))]) 58 C [3] dX5_bend_55 rfl (k_X3_forgetJoined E l  ) (cwV 0 C.2.2.2.2.1 gX5_bend_X3_forgetJoined rfl rfl rfl cdX3_forgetJoined ⟨Nat.le_of_ble_eq_true rfl, Nat.le_of_ble_eq_true rfl⟩) rfl rfl rfl rfl (Nat.le_of_ble_eq_true rfl) 3 3 rfl rfl rfl ⟨Nat.le_of_ble_eq_true rfl, Nat.le_of_ble_eq_true rfl⟩ rfl rfl ?_
        have e0 := htI_b hh z i 0
        refine g_iload 60 C 0 dX5_bend_58 rfl rfl ?_
        refine g_i2l 61 C dX5_bend_60 rfl (by omega) ?_
        exact g_lret C hr dX5_bend_61 ⟨g_rl (by first | rfl | omega | exact (if_pos (by omega)).symm | exact (if_neg (by omega)).symm), by first | rfl | (have hg : (0 ≤ z ∧ z < nsd W h) ∧ (0 ≤ i ∧ i < 5) ∧ -9 ≤ v ∧ v ≤ 9 := (by omega); simp only [if_pos hg]) | (have hg : ¬ ((0 ≤ z ∧ z < nsd W h) ∧ (0 ≤ i ∧ i < 5) ∧ -9 ≤ v ∧ v ≤ 9) := (by omega); simp only [if_neg hg])⟩
      · intro h22
        refine g_ldc2 28 C (-9223372036854775808) dX5_bend_25 rfl lX5_bend_84 (by decide) ?_
        exact g_lret C hr dX5_bend_28 ⟨g_rl (by first | rfl | omega | exact (if_pos (by omega)).symm | exact (if_neg (by omega)).symm), by first | rfl | (have hg : (0 ≤ z ∧ z < nsd W h) ∧ (0 ≤ i ∧ i < 5) ∧ -9 ≤ v ∧ v ≤ 9 := (by omega); simp only [if_pos hg]) | (have hg : ¬ ((0 ≤ z ∧ z < nsd W h) ∧ (0 ≤ i ∧ i < 5) ∧ -9 ≤ v ∧ v ≤ 9) := (by omega); simp only [if_neg hg])⟩
theorem cdX1_hasEdge : yX1_hasEdge.cls = RX1 ∧ yX1_hasEdge.cls ≠ "java/lang/invoke/MethodHandle" ∧ yX1_hasEdge.cls ≠ "java/lang/invoke/VarHandle" ∧ (parseMethodDescriptor yX1_hasEdge.desc).map (fun d => d.parameters.length) = some 2 := by decide +kernel
theorem lX5_sideOf_12 : Cond.fieldLink RX5 12 (TX5 0).1 (TX5 0).2.1 (TX5 0).2.2.1 ∈ wsX5_sideOf := by decide +kernel
theorem iX5_sideOf_X5 : ∀ w ∈ u_ws RX5 TX5 7, w ∈ wsX5_sideOf := by decide +kernel
set_option maxHeartbeats 4000000 in
set_option maxRecDepth 100000 in
theorem k_X5_sideOf (E : gE) (l : Launch) {a_D a_L a_P a_Q a_R a_X a_hs a_se : Nat} {W h p e : Int} {se : Int → Int} {tr ft : Int} (hB : 1 ≤ W ∧ W ≤ 5 ∧ 1 ≤ h ∧ h ≤ 5) (hse : ∀ p e : Int, 0 ≤ p ∧ p < W * h → 0 ≤ e ∧ e < 4 → se (p * 4 + e) = sdI W h p e) (hp : -2147483648 ≤ p ∧ p < 2147483648) (he : -2147483648 ≤ e ∧ e < 2147483648) : gFun E l yX5_sideOf wsX5_sideOf { frames := 3, cells := 0, slots := 0, locals := 63 } [.ref a_X, .int (iI p), .int (iI e)] [(a_X, .inr (5, [.ref a_P, .ref a_L, .ref a_R, .ref a_D, .ref a_Q, .int (iI tr), .int (iI ft)])), (a_P, .inr (1, [.ref a_hs, .ref a_se, .int (iI W), .int (iI h)])), (a_se, aI E 100 se)] (.int (iI (if (0 ≤ p ∧ p < W * h) ∧ 0 ≤ e ∧ e < 4 then sdI W h p e else -1))) := by
  refine g_start (cc := cX5_sideOf) (maxL := 3) (ret := (some .int)) (by decide) rfl (Nat.le_of_ble_eq_true rfl) ?_
  intro p_ e_ s_ m_ args_ below_ meth_ c_ A_ C hr hnm
  have hn := nsd_b hB
  refine g_aload_n 1 C 0 dX5_sideOf_0 rfl rfl ?_
  refine g_get 4 C 0 0 5 iX5_sideOf_X5 lX5_sideOf_12 dX5_sideOf_1 rfl rfl rfl (by decide) rfl ?_
  refine g_iload_n 5 C 1 dX5_sideOf_4 rfl rfl ?_
  refine g_iload_n 6 C 2 dX5_sideOf_5 rfl rfl ?_
  refine g_callVF 9 C [1] dX5_sideOf_6 rfl (k_X1_hasEdge E l  (by first | assumption | omega) (by first | assumption | omega) (by first | assumption | omega)) (cwV 2 C.2.2.2.2.1 gX5_sideOf_X1_hasEdge rfl rfl rfl cdX1_hasEdge ⟨Nat.le_of_ble_eq_true rfl, Nat.le_of_ble_eq_true rfl⟩) rfl rfl rfl rfl (Nat.le_of_ble_eq_true rfl) 1 1 rfl rfl rfl ⟨Nat.le_of_ble_eq_true rfl, Nat.le_of_ble_eq_true rfl⟩ ?_
  refine g_ifb_ne 14 12 C dX5_sideOf_9 (by decide) rfl ?_ ?_
  · intro h9
    refine g_aload_n 15 C 0 dX5_sideOf_14 rfl rfl ?_
    refine g_get 18 C 0 0 5 iX5_sideOf_X5 lX5_sideOf_12 dX5_sideOf_15 rfl rfl rfl (by decide) rfl ?_
    refine g_iload_n 19 C 1 dX5_sideOf_18 rfl rfl ?_
    refine g_iload_n 20 C 2 dX5_sideOf_19 rfl rfl ?_
    refine g_callVF 23 C [1, 2] dX5_sideOf_20 rfl (k_X1_sideAt E l  (by first | assumption | omega) (by first | assumption | omega) (by first | assumption | omega) (by first | assumption | omega)) (cwV 2 C.2.2.2.2.1 gX5_sideOf_X1_sideAt rfl rfl rfl cdX1_sideAt ⟨Nat.le_of_ble_eq_true rfl, Nat.le_of_ble_eq_true rfl⟩) rfl rfl rfl rfl (Nat.le_of_ble_eq_true rfl) 1 1 rfl rfl rfl ⟨Nat.le_of_ble_eq_true rfl, Nat.le_of_ble_eq_true rfl⟩ ?_
    exact g_iret C hr dX5_sideOf_23 ⟨g_ri (by first | rfl | omega | exact (if_pos (by omega)).symm | exact (if_neg (by omega)).symm), rfl⟩
  · intro h9
    refine g_iconst 13 C dX5_sideOf_12 rfl ?_
    exact g_iret C hr dX5_sideOf_13 ⟨g_ri (by first | rfl | omega | exact (if_pos (by omega)).symm | exact (if_neg (by omega)).symm), rfl⟩
theorem cdX1_farness : yX1_farness.cls = RX1 ∧ yX1_farness.cls ≠ "java/lang/invoke/MethodHandle" ∧ yX1_farness.cls ≠ "java/lang/invoke/VarHandle" ∧ (parseMethodDescriptor yX1_farness.desc).map (fun d => d.parameters.length) = some 4 := by decide +kernel
theorem lX5_far_12 : Cond.fieldLink RX5 12 (TX5 0).1 (TX5 0).2.1 (TX5 0).2.2.1 ∈ wsX5_far := by decide +kernel
theorem iX5_far_X5 : ∀ w ∈ u_ws RX5 TX5 7, w ∈ wsX5_far := by decide +kernel
set_option maxHeartbeats 4000000 in
set_option maxRecDepth 100000 in
theorem k_X5_far (E : gE) (l : Launch) {a_D a_L a_P a_Q a_R a_X a_hs a_se : Nat} {W h p e q f : Int} {hs se : Int → Int} {tr ft : Int} (hB : 1 ≤ W ∧ W ≤ 5 ∧ 1 ≤ h ∧ h ≤ 5) (hse : ∀ p e : Int, 0 ≤ p ∧ p < W * h → 0 ≤ e ∧ e < 4 → se (p * 4 + e) = sdI W h p e) (hh : hB9 hs) (hp : -2147483648 ≤ p ∧ p < 2147483648) (he : -2147483648 ≤ e ∧ e < 2147483648) (hq : -2147483648 ≤ q ∧ q < 2147483648) (hf : -2147483648 ≤ f ∧ f < 2147483648) : gFun E l yX5_far wsX5_far { frames := 3, cells := 0, slots := 0, locals := 74 } [.ref a_X, .int (iI p), .int (iI e), .int (iI q), .int (iI f)] [(a_X, .inr (5, [.ref a_P, .ref a_L, .ref a_R, .ref a_D, .ref a_Q, .int (iI tr), .int (iI ft)])), (a_P, .inr (1, [.ref a_hs, .ref a_se, .int (iI W), .int (iI h)])), (a_hs, aI E 200 hs), (a_se, aI E 100 se)] (.int (iI (if ¬ (((0 ≤ p ∧ p < W * h) ∧ 0 ≤ e ∧ e < 4) ∧ ((0 ≤ q ∧ q < W * h) ∧ 0 ≤ f ∧ f < 4)) then -1 else if sdI W h p e = -9 ∨ sdI W h q f = -9 then -3 else frI W h hs p e q f))) := by
  refine g_start (cc := cX5_far) (maxL := 5) (ret := (some .int)) (by decide) rfl (Nat.le_of_ble_eq_true rfl) ?_
  intro p_ e_ s_ m_ args_ below_ meth_ c_ A_ C hr hnm
  have hn := nsd_b hB
  refine g_aload_n 1 C 0 dX5_far_0 rfl rfl ?_
  refine g_get 4 C 0 0 5 iX5_far_X5 lX5_far_12 dX5_far_1 rfl rfl rfl (by decide) rfl ?_
  refine g_iload_n 5 C 1 dX5_far_4 rfl rfl ?_
  refine g_iload_n 6 C 2 dX5_far_5 rfl rfl ?_
  refine g_callVF 9 C [1] dX5_far_6 rfl (k_X1_hasEdge E l  (by first | assumption | omega) (by first | assumption | omega) (by first | assumption | omega)) (cwV 2 C.2.2.2.2.1 gX5_far_X1_hasEdge rfl rfl rfl cdX1_hasEdge ⟨Nat.le_of_ble_eq_true rfl, Nat.le_of_ble_eq_true rfl⟩) rfl rfl rfl rfl (Nat.le_of_ble_eq_true rfl) 1 1 rfl rfl rfl ⟨Nat.le_of_ble_eq_true rfl, Nat.le_of_ble_eq_true rfl⟩ ?_
  refine g_ifb_eq 25 12 C dX5_far_9 (by decide) rfl ?_ ?_
  · intro h9
    refine g_iconst 26 C dX5_far_25 rfl ?_
    exact g_iret C hr dX5_far_26 ⟨g_ri (by (repeat' split) <;> first | rfl | omega), rfl⟩
  · intro h9
    refine g_aload_n 13 C 0 dX5_far_12 rfl rfl ?_
    refine g_get 16 C 0 0 5 iX5_far_X5 lX5_far_12 dX5_far_13 rfl rfl rfl (by decide) rfl ?_
    refine g_iload_n 17 C 3 dX5_far_16 rfl rfl ?_
    refine g_iload 19 C 4 dX5_far_17 rfl rfl ?_
    refine g_callVF 22 C [1] dX5_far_19 rfl (k_X1_hasEdge E l  (by first | assumption | omega) (by first | assumption | omega) (by first | assumption | omega)) (cwV 2 C.2.2.2.2.1 gX5_far_X1_hasEdge rfl rfl rfl cdX1_hasEdge ⟨Nat.le_of_ble_eq_true rfl, Nat.le_of_ble_eq_true rfl⟩) rfl rfl rfl rfl (Nat.le_of_ble_eq_true rfl) 1 1 rfl rfl rfl ⟨Nat.le_of_ble_eq_true rfl, Nat.le_of_ble_eq_true rfl⟩ ?_
    refine g_ifb_ne 27 25 C dX5_far_22 (by decide) rfl ?_ ?_
    · intro h22
      refine g_aload_n 28 C 0 dX5_far_27 rfl rfl ?_
      refine g_get 31 C 0 0 5 iX5_far_X5 lX5_far_12 dX5_far_28 rfl rfl rfl (by decide) rfl ?_
      refine g_iload_n 32 C 1 dX5_far_31 rfl rfl ?_
      refine g_iload_n 33 C 2 dX5_far_32 rfl rfl ?_
      refine g_callVF 36 C [1, 3] dX5_far_33 rfl (k_X1_isFlat E l  (by first | assumption | omega) (by first | assumption | omega) (by first | assumption | omega) (by first | assumption | omega)) (cwV 2 C.2.2.2.2.1 gX5_far_X1_isFlat rfl rfl rfl cdX1_isFlat ⟨Nat.le_of_ble_eq_true rfl, Nat.le_of_ble_eq_true rfl⟩) rfl rfl rfl rfl (Nat.le_of_ble_eq_true rfl) 1 1 rfl rfl rfl ⟨Nat.le_of_ble_eq_true rfl, Nat.le_of_ble_eq_true rfl⟩ ?_
      refine g_ifb_ne 52 39 C dX5_far_36 (by decide) rfl ?_ ?_
      · intro h36
        refine g_bipush 54 C dX5_far_52 rfl (by decide) ?_
        exact g_iret C hr dX5_far_54 ⟨g_ri (by (repeat' split) <;> first | rfl | omega), rfl⟩
      · intro h36
        refine g_aload_n 40 C 0 dX5_far_39 rfl rfl ?_
        refine g_get 43 C 0 0 5 iX5_far_X5 lX5_far_12 dX5_far_40 rfl rfl rfl (by decide) rfl ?_
        refine g_iload_n 44 C 3 dX5_far_43 rfl rfl ?_
        refine g_iload 46 C 4 dX5_far_44 rfl rfl ?_
        refine g_callVF 49 C [1, 3] dX5_far_46 rfl (k_X1_isFlat E l  (by first | assumption | omega) (by first | assumption | omega) (by first | assumption | omega) (by first | assumption | omega)) (cwV 2 C.2.2.2.2.1 gX5_far_X1_isFlat rfl rfl rfl cdX1_isFlat ⟨Nat.le_of_ble_eq_true rfl, Nat.le_of_ble_eq_true rfl⟩) rfl rfl rfl rfl (Nat.le_of_ble_eq_true rfl) 1 1 rfl rfl rfl ⟨Nat.le_of_ble_eq_true rfl, Nat.le_of_ble_eq_true rfl⟩ ?_
        refine g_ifb_eq 55 52 C dX5_far_49 (by decide) rfl ?_ ?_
        · intro h49
          refine g_aload_n 56 C 0 dX5_far_55 rfl rfl ?_
          refine g_get 59 C 0 0 5 iX5_far_X5 lX5_far_12 dX5_far_56 rfl rfl rfl (by decide) rfl ?_
          refine g_iload_n 60 C 1 dX5_far_59 rfl rfl ?_
          refine g_iload_n 61 C 2 dX5_far_60 rfl rfl ?_
          refine g_iload_n 62 C 3 dX5_far_61 rfl rfl ?_
          refine g_iload 64 C 4 dX5_far_62 rfl rfl ?_
          refine g_callVF 67 C [1, 2, 3] dX5_far_64 rfl (k_X1_farness E l  (by first | assumption | omega) (by first | assumption | omega) (by first | assumption | omega) (by first | assumption | omega) (by first | assumption | omega) (by first | assumption | omega) (by first | assumption | omega) (by first | assumption | omega) (by first | assumption | omega)) (cwV 4 C.2.2.2.2.1 gX5_far_X1_farness rfl rfl rfl cdX1_farness ⟨Nat.le_of_ble_eq_true rfl, Nat.le_of_ble_eq_true rfl⟩) rfl rfl rfl rfl (Nat.le_of_ble_eq_true rfl) 1 1 rfl rfl rfl ⟨Nat.le_of_ble_eq_true rfl, Nat.le_of_ble_eq_true rfl⟩ ?_
          exact g_iret C hr dX5_far_67 ⟨g_ri (by (repeat' split) <;> first | rfl | omega), rfl⟩
        · intro h49
          refine g_bipush 54 C dX5_far_52 rfl (by decide) ?_
          exact g_iret C hr dX5_far_54 ⟨g_ri (by (repeat' split) <;> first | rfl | omega), rfl⟩
    · intro h22
      refine g_iconst 26 C dX5_far_25 rfl ?_
      exact g_iret C hr dX5_far_26 ⟨g_ri (by (repeat' split) <;> first | rfl | omega), rfl⟩
theorem cdX2_append : yX2_append.cls = RX2 ∧ yX2_append.cls ≠ "java/lang/invoke/MethodHandle" ∧ yX2_append.cls ≠ "java/lang/invoke/VarHandle" ∧ (parseMethodDescriptor yX2_append.desc).map (fun d => d.parameters.length) = some 2 := by decide +kernel
theorem lX5_lay_12 : Cond.fieldLink RX5 12 (TX5 0).1 (TX5 0).2.1 (TX5 0).2.2.1 ∈ wsX5_lay := by decide +kernel
theorem lX5_lay_21 : Cond.fieldLink RX5 21 (TX5 1).1 (TX5 1).2.1 (TX5 1).2.2.1 ∈ wsX5_lay := by decide +kernel
theorem lX5_lay_30 : Cond.fieldLink RX5 30 (TX5 2).1 (TX5 2).2.1 (TX5 2).2.2.1 ∈ wsX5_lay := by decide +kernel
theorem iX5_lay_X5 : ∀ w ∈ u_ws RX5 TX5 7, w ∈ wsX5_lay := by decide +kernel
set_option maxHeartbeats 4000000 in
set_option maxRecDepth 100000 in
theorem k_X5_lay (E : gE) (l : Launch) {a_D a_L a_P a_Q a_R a_X a_fi a_hs a_jl a_ly a_pc a_se a_sh a_tn a_us a_wa : Nat} {W h n p t : Int} {pc tn : Int → Int} {tr ft : Int} {jo fo sp fd tc : Int} (hB : 1 ≤ W ∧ W ≤ 5 ∧ 1 ≤ h ∧ h ≤ 5) (hn : 0 ≤ n ∧ n ≤ 25) (hp : -2147483648 ≤ p ∧ p < 2147483648) (ht : -2147483648 ≤ t ∧ t < 2147483648) : gUpd E l yX5_lay wsX5_lay { frames := 2, cells := 0, slots := 0, locals := 42 } [.ref a_X, .int (iI p), .int (iI t)] [(a_X, .inr (5, [.ref a_P, .ref a_L, .ref a_R, .ref a_D, .ref a_Q, .int (iI tr), .int (iI ft)])), (a_P, .inr (1, [.ref a_hs, .ref a_se, .int (iI W), .int (iI h)])), (a_L, .inr (2, [.ref a_pc, .ref a_tn, .int (iI n)])), (a_pc, aI E 25 pc), (a_tn, aI E 25 tn), (a_R, .inr (3, [.ref a_P, .ref a_L, .ref a_sh, .ref a_fi, .ref a_wa, .ref a_us, .ref a_ly, .ref a_jl, .int (iI jo), .int (iI fo), .int (iI sp), .int (iI fd), .int (iI tc)]))] (some (.int (iI (if ¬ (0 ≤ p ∧ p < W * h) then -1 else if ¬ (0 ≤ t ∧ t < 4) then -2 else if 25 ≤ n then -4 else n + 1)))) [(a_X, .inr (5, [.ref a_P, .ref a_L, .ref a_R, .ref a_D, .ref a_Q, .int (iI tr), .int (iI ft)])), (a_P, .inr (1, [.ref a_hs, .ref a_se, .int (iI W), .int (iI h)])), (a_L, .inr (2, [.ref a_pc, .ref a_tn, .int (iI (if (0 ≤ p ∧ p < W * h) ∧ (0 ≤ t ∧ t < 4) ∧ n < 25 then n + 1 else n))])), (a_pc, aI E 25 (if (0 ≤ p ∧ p < W * h) ∧ (0 ≤ t ∧ t < 4) ∧ n < 25 then uI pc n p else pc)), (a_tn, aI E 25 (if (0 ≤ p ∧ p < W * h) ∧ (0 ≤ t ∧ t < 4) ∧ n < 25 then uI tn n t else tn)), (a_R, .inr (3, [.ref a_P, .ref a_L, .ref a_sh, .ref a_fi, .ref a_wa, .ref a_us, .ref a_ly, .ref a_jl, .int (iI (if (0 ≤ p ∧ p < W * h) ∧ (0 ≤ t ∧ t < 4) ∧ n < 25 then 0 else jo)), .int (iI fo), .int (iI sp), .int (iI fd), .int (iI tc)]))] := by
  refine g_start (cc := cX5_lay) (maxL := 3) (ret := (some .int)) (by decide) rfl (Nat.le_of_ble_eq_true rfl) ?_
  intro p_ e_ s_ m_ args_ below_ meth_ c_ A_ C hr hnm
  have hn := nsd_b hB
  refine g_aload_n 1 C 0 dX5_lay_0 rfl rfl ?_
  refine g_get 4 C 0 0 5 iX5_lay_X5 lX5_lay_12 dX5_lay_1 rfl rfl rfl (by decide) rfl ?_
  refine g_iload_n 5 C 1 dX5_lay_4 rfl rfl ?_
  refine g_callVF 8 C [1] dX5_lay_5 rfl (k_X1_hasPiece E l  (by first | assumption | omega) (by first | assumption | omega)) (cwV 1 C.2.2.2.2.1 gX5_lay_X1_hasPiece rfl rfl rfl cdX1_hasPiece ⟨Nat.le_of_ble_eq_true rfl, Nat.le_of_ble_eq_true rfl⟩) rfl rfl rfl rfl (Nat.le_of_ble_eq_true rfl) 1 1 rfl rfl rfl ⟨Nat.le_of_ble_eq_true rfl, Nat.le_of_ble_eq_true rfl⟩ ?_
  refine g_ifb_ne 13 11 C dX5_lay_8 (by decide) rfl ?_ ?_
  · intro h8
    refine g_iload_n 14 C 2 dX5_lay_13 rfl rfl ?_
    refine g_if_lt 22 17 C dX5_lay_14 (by decide) rfl (by omega) ?_ ?_
    · intro h14
      refine g_bipush 24 C dX5_lay_22 rfl (by decide) ?_
      exact g_iret C hr dX5_lay_24 ⟨g_ri (by (repeat' split) <;> first | rfl | omega), by first | rfl | (have hg : (0 ≤ p ∧ p < W * h) ∧ (0 ≤ t ∧ t < 4) ∧ n < 25 := (by omega); simp only [if_pos hg]) | (have hg : ¬ ((0 ≤ p ∧ p < W * h) ∧ (0 ≤ t ∧ t < 4) ∧ n < 25) := (by omega); simp only [if_neg hg])⟩
    · intro h14
      refine g_iload_n 18 C 2 dX5_lay_17 rfl rfl ?_
      refine g_iconst 19 C dX5_lay_18 rfl ?_
      refine g_icmp_lt 25 22 C dX5_lay_19 (by decide) rfl (by omega) ?_ ?_
      · intro h19
        refine g_aload_n 26 C 0 dX5_lay_25 rfl rfl ?_
        refine g_get 29 C 0 1 5 iX5_lay_X5 lX5_lay_21 dX5_lay_26 rfl rfl rfl (by decide) rfl ?_
        refine g_callVF 32 C [2] dX5_lay_29 rfl (k_X2_isFull E l  (by first | assumption | omega)) (cwV 0 C.2.2.2.2.1 gX5_lay_X2_isFull rfl rfl rfl cdX2_isFull ⟨Nat.le_of_ble_eq_true rfl, Nat.le_of_ble_eq_true rfl⟩) rfl rfl rfl rfl (Nat.le_of_ble_eq_true rfl) 2 2 rfl rfl rfl ⟨Nat.le_of_ble_eq_true rfl, Nat.le_of_ble_eq_true rfl⟩ ?_
        refine g_ifb_eq 38 35 C dX5_lay_32 (by decide) rfl ?_ ?_
        · intro h32
          refine g_aload_n 39 C 0 dX5_lay_38 rfl rfl ?_
          refine g_get 42 C 0 1 5 iX5_lay_X5 lX5_lay_21 dX5_lay_39 rfl rfl rfl (by decide) rfl ?_
          refine g_iload_n 43 C 1 dX5_lay_42 rfl rfl ?_
          refine g_iload_n 44 C 2 dX5_lay_43 rfl rfl ?_
          refine g_callVU (ws' := [(_, .inr (5, [_, _, _, _, _, _, _])), (_, .inr (1, [_, _, _, _])), (_, .inr (2, [_, _, _])), (_, aI _ _ _), (_, aI _ _ _), (_, .inr (3, [_, _, _, _, _, _, _, _, _, _, _, _, _]))]) 47 C [2, 3, 4] dX5_lay_44 rfl (k_X2_append E l  (by first | assumption | omega)) (cwV 2 C.2.2.2.2.1 gX5_lay_X2_append rfl rfl rfl cdX2_append ⟨Nat.le_of_ble_eq_true rfl, Nat.le_of_ble_eq_true rfl⟩) rfl rfl rfl rfl (Nat.le_of_ble_eq_true rfl) 2 2 rfl rfl rfl ⟨Nat.le_of_ble_eq_true rfl, Nat.le_of_ble_eq_true rfl⟩ rfl rfl ?_
          refine g_aload_n 48 C 0 dX5_lay_47 rfl rfl ?_
          refine g_get 51 C 0 2 5 iX5_lay_X5 lX5_lay_30 dX5_lay_48 rfl rfl rfl (by decide) rfl ?_
          refine g_callVU (ws' := [(_, .inr (5, [_, _, _, _, _, _, _])), (_, .inr (1, [_, _, _, _])), (_, .inr (2, [_, _, _])), (_, aI _ _ _), (_, aI _ _ _), (_, .inr (3, [_, _, _, _, _, _, _, _, _, _, _, _, _]))]) 54 C [5] dX5_lay_51 rfl (k_X3_forgetJoined E l  ) (cwV 0 C.2.2.2.2.1 gX5_lay_X3_forgetJoined rfl rfl rfl cdX3_forgetJoined ⟨Nat.le_of_ble_eq_true rfl, Nat.le_of_ble_eq_true rfl⟩) rfl rfl rfl rfl (Nat.le_of_ble_eq_true rfl) 5 3 rfl rfl rfl ⟨Nat.le_of_ble_eq_true rfl, Nat.le_of_ble_eq_true rfl⟩ rfl rfl ?_
          refine g_aload_n 55 C 0 dX5_lay_54 rfl rfl ?_
          refine g_get 58 C 0 1 5 iX5_lay_X5 lX5_lay_21 dX5_lay_55 rfl rfl rfl (by decide) rfl ?_
          refine g_callVF 61 C [2] dX5_lay_58 rfl (k_X2_size E l  ) (cwV 0 C.2.2.2.2.1 gX5_lay_X2_size rfl rfl rfl cdX2_size ⟨Nat.le_of_ble_eq_true rfl, Nat.le_of_ble_eq_true rfl⟩) rfl rfl rfl rfl (Nat.le_of_ble_eq_true rfl) 2 2 rfl rfl rfl ⟨Nat.le_of_ble_eq_true rfl, Nat.le_of_ble_eq_true rfl⟩ ?_
          exact g_iret C hr dX5_lay_61 ⟨g_ri (by (repeat' split) <;> first | rfl | omega), by first | rfl | (have hg : (0 ≤ p ∧ p < W * h) ∧ (0 ≤ t ∧ t < 4) ∧ n < 25 := (by omega); simp only [if_pos hg]) | (have hg : ¬ ((0 ≤ p ∧ p < W * h) ∧ (0 ≤ t ∧ t < 4) ∧ n < 25) := (by omega); simp only [if_neg hg])⟩
        · intro h32
          refine g_bipush 37 C dX5_lay_35 rfl (by decide) ?_
          exact g_iret C hr dX5_lay_37 ⟨g_ri (by (repeat' split) <;> first | rfl | omega), by first | rfl | (have hg : (0 ≤ p ∧ p < W * h) ∧ (0 ≤ t ∧ t < 4) ∧ n < 25 := (by omega); simp only [if_pos hg]) | (have hg : ¬ ((0 ≤ p ∧ p < W * h) ∧ (0 ≤ t ∧ t < 4) ∧ n < 25) := (by omega); simp only [if_neg hg])⟩
      · intro h19
        refine g_bipush 24 C dX5_lay_22 rfl (by decide) ?_
        exact g_iret C hr dX5_lay_24 ⟨g_ri (by (repeat' split) <;> first | rfl | omega), by first | rfl | (have hg : (0 ≤ p ∧ p < W * h) ∧ (0 ≤ t ∧ t < 4) ∧ n < 25 := (by omega); simp only [if_pos hg]) | (have hg : ¬ ((0 ≤ p ∧ p < W * h) ∧ (0 ≤ t ∧ t < 4) ∧ n < 25) := (by omega); simp only [if_neg hg])⟩
  · intro h8
    refine g_iconst 12 C dX5_lay_11 rfl ?_
    exact g_iret C hr dX5_lay_12 ⟨g_ri (by (repeat' split) <;> first | rfl | omega), by first | rfl | (have hg : (0 ≤ p ∧ p < W * h) ∧ (0 ≤ t ∧ t < 4) ∧ n < 25 := (by omega); simp only [if_pos hg]) | (have hg : ¬ ((0 ≤ p ∧ p < W * h) ∧ (0 ≤ t ∧ t < 4) ∧ n < 25) := (by omega); simp only [if_neg hg])⟩
theorem cdX2_removeAt : yX2_removeAt.cls = RX2 ∧ yX2_removeAt.cls ≠ "java/lang/invoke/MethodHandle" ∧ yX2_removeAt.cls ≠ "java/lang/invoke/VarHandle" ∧ (parseMethodDescriptor yX2_removeAt.desc).map (fun d => d.parameters.length) = some 1 := by decide +kernel
theorem lX5_take_21 : Cond.fieldLink RX5 21 (TX5 1).1 (TX5 1).2.1 (TX5 1).2.2.1 ∈ wsX5_take := by decide +kernel
theorem lX5_take_30 : Cond.fieldLink RX5 30 (TX5 2).1 (TX5 2).2.1 (TX5 2).2.2.1 ∈ wsX5_take := by decide +kernel
theorem iX5_take_X5 : ∀ w ∈ u_ws RX5 TX5 7, w ∈ wsX5_take := by decide +kernel
set_option maxHeartbeats 4000000 in
set_option maxRecDepth 100000 in
theorem k_X5_take (E : gE) (l : Launch) {a_D a_L a_P a_Q a_R a_X a_fi a_jl a_ly a_pc a_sh a_tn a_us a_wa : Nat} {n i : Int} {pc tn : Int → Int} {tr ft : Int} {jo fo sp fd tc : Int} (hn : 0 ≤ n ∧ n ≤ 25) (hi : -2147483648 ≤ i ∧ i < 2147483648) : gUpd E l yX5_take wsX5_take { frames := 2, cells := 0, slots := 0, locals := 43 } [.ref a_X, .int (iI i)] [(a_X, .inr (5, [.ref a_P, .ref a_L, .ref a_R, .ref a_D, .ref a_Q, .int (iI tr), .int (iI ft)])), (a_L, .inr (2, [.ref a_pc, .ref a_tn, .int (iI n)])), (a_pc, aI E 25 pc), (a_tn, aI E 25 tn), (a_R, .inr (3, [.ref a_P, .ref a_L, .ref a_sh, .ref a_fi, .ref a_wa, .ref a_us, .ref a_ly, .ref a_jl, .int (iI jo), .int (iI fo), .int (iI sp), .int (iI fd), .int (iI tc)]))] (some (.int (iI (if 0 ≤ i ∧ i < n then pc i else -1)))) [(a_X, .inr (5, [.ref a_P, .ref a_L, .ref a_R, .ref a_D, .ref a_Q, .int (iI tr), .int (iI ft)])), (a_L, .inr (2, [.ref a_pc, .ref a_tn, .int (iI (if 0 ≤ i ∧ i < n then n - 1 else n))])), (a_pc, aI E 25 (if 0 ≤ i ∧ i < n then rmI pc i n else pc)), (a_tn, aI E 25 (if 0 ≤ i ∧ i < n then rmI tn i n else tn)), (a_R, .inr (3, [.ref a_P, .ref a_L, .ref a_sh, .ref a_fi, .ref a_wa, .ref a_us, .ref a_ly, .ref a_jl, .int (iI (if 0 ≤ i ∧ i < n then 0 else jo)), .int (iI fo), .int (iI sp), .int (iI fd), .int (iI tc)]))] := by
  refine g_start (cc := cX5_take) (maxL := 3) (ret := (some .int)) (by decide) rfl (Nat.le_of_ble_eq_true rfl) ?_
  intro p_ e_ s_ m_ args_ below_ meth_ c_ A_ C hr hnm
  refine g_aload_n 1 C 0 dX5_take_0 rfl rfl ?_
  refine g_get 4 C 0 1 5 iX5_take_X5 lX5_take_21 dX5_take_1 rfl rfl rfl (by decide) rfl ?_
  refine g_iload_n 5 C 1 dX5_take_4 rfl rfl ?_
  refine g_callVF 8 C [1] dX5_take_5 rfl (k_X2_hasPlace E l  (by first | assumption | omega) (by first | assumption | omega)) (cwV 1 C.2.2.2.2.1 gX5_take_X2_hasPlace rfl rfl rfl cdX2_hasPlace ⟨Nat.le_of_ble_eq_true rfl, Nat.le_of_ble_eq_true rfl⟩) rfl rfl rfl rfl (Nat.le_of_ble_eq_true rfl) 1 2 rfl rfl rfl ⟨Nat.le_of_ble_eq_true rfl, Nat.le_of_ble_eq_true rfl⟩ ?_
  refine g_ifb_ne 13 11 C dX5_take_8 (by decide) rfl ?_ ?_
  · intro h8
    refine g_aload_n 14 C 0 dX5_take_13 rfl rfl ?_
    refine g_get 17 C 0 1 5 iX5_take_X5 lX5_take_21 dX5_take_14 rfl rfl rfl (by decide) rfl ?_
    refine g_iload_n 18 C 1 dX5_take_17 rfl rfl ?_
    refine g_callVF 21 C [1, 2] dX5_take_18 rfl (k_X2_pieceAt E l  (by first | assumption | omega) (by first | assumption | omega)) (cwV 1 C.2.2.2.2.1 gX5_take_X2_pieceAt rfl rfl rfl cdX2_pieceAt ⟨Nat.le_of_ble_eq_true rfl, Nat.le_of_ble_eq_true rfl⟩) rfl rfl rfl rfl (Nat.le_of_ble_eq_true rfl) 1 2 rfl rfl rfl ⟨Nat.le_of_ble_eq_true rfl, Nat.le_of_ble_eq_true rfl⟩ ?_
    refine g_istore_n (lv' := [(2, _), (0, _), (1, _)]) 22 C dX5_take_21 rfl rfl (by decide) rfl ?_
    refine g_aload_n 23 C 1 dX5_take_22 rfl rfl ?_
    refine g_get 26 C 0 1 5 iX5_take_X5 lX5_take_21 dX5_take_23 rfl rfl rfl (by decide) rfl ?_
    refine g_iload_n 27 C 2 dX5_take_26 rfl rfl ?_
    refine g_callVU (ws' := [(_, .inr (5, [_, _, _, _, _, _, _])), (_, .inr (2, [_, _, _])), (_, aI _ _ _), (_, aI _ _ _), (_, .inr (3, [_, _, _, _, _, _, _, _, _, _, _, _, _]))]) 30 C [1, 2, 3] dX5_take_27 rfl (k_X2_removeAt E l  (by first | assumption | omega) (by first | assumption | omega)) (cwV 1 C.2.2.2.2.1 gX5_take_X2_removeAt rfl rfl rfl cdX2_removeAt ⟨Nat.le_of_ble_eq_true rfl, Nat.le_of_ble_eq_true rfl⟩) rfl rfl rfl rfl (Nat.le_of_ble_eq_true rfl) 1 2 rfl rfl rfl ⟨Nat.le_of_ble_eq_true rfl, Nat.le_of_ble_eq_true rfl⟩ rfl rfl ?_
    refine g_aload_n 31 C 1 dX5_take_30 rfl rfl ?_
    refine g_get 34 C 0 2 5 iX5_take_X5 lX5_take_30 dX5_take_31 rfl rfl rfl (by decide) rfl ?_
    refine g_callVU (ws' := [(_, .inr (5, [_, _, _, _, _, _, _])), (_, .inr (2, [_, _, _])), (_, aI _ _ _), (_, aI _ _ _), (_, .inr (3, [_, _, _, _, _, _, _, _, _, _, _, _, _]))]) 37 C [4] dX5_take_34 rfl (k_X3_forgetJoined E l  ) (cwV 0 C.2.2.2.2.1 gX5_take_X3_forgetJoined rfl rfl rfl cdX3_forgetJoined ⟨Nat.le_of_ble_eq_true rfl, Nat.le_of_ble_eq_true rfl⟩) rfl rfl rfl rfl (Nat.le_of_ble_eq_true rfl) 4 3 rfl rfl rfl ⟨Nat.le_of_ble_eq_true rfl, Nat.le_of_ble_eq_true rfl⟩ rfl rfl ?_
    refine g_iload_n 38 C 0 dX5_take_37 rfl rfl ?_
    exact g_iret C hr dX5_take_38 ⟨g_ri (by first | rfl | omega | exact (if_pos (by omega)).symm | exact (if_neg (by omega)).symm), by first | rfl | (have hg : 0 ≤ i ∧ i < n := (by omega); simp only [if_pos hg]) | (have hg : ¬ (0 ≤ i ∧ i < n) := (by omega); simp only [if_neg hg])⟩
  · intro h8
    refine g_iconst 12 C dX5_take_11 rfl ?_
    exact g_iret C hr dX5_take_12 ⟨g_ri (by first | rfl | omega | exact (if_pos (by omega)).symm | exact (if_neg (by omega)).symm), by first | rfl | (have hg : 0 ≤ i ∧ i < n := (by omega); simp only [if_pos hg]) | (have hg : ¬ (0 ≤ i ∧ i < n) := (by omega); simp only [if_neg hg])⟩
theorem lX5_heaped_21 : Cond.fieldLink RX5 21 (TX5 1).1 (TX5 1).2.1 (TX5 1).2.2.1 ∈ wsX5_heaped := by decide +kernel
theorem iX5_heaped_X5 : ∀ w ∈ u_ws RX5 TX5 7, w ∈ wsX5_heaped := by decide +kernel
set_option maxHeartbeats 4000000 in
set_option maxRecDepth 100000 in
theorem k_X5_heaped (E : gE) (l : Launch) {a_D a_L a_P a_Q a_R a_X a_pc a_tn : Nat} {n i t : Int} {pc tn : Int → Int} {tr ft : Int} (hn : 0 ≤ n ∧ n ≤ 25) (hi : -2147483648 ≤ i ∧ i < 2147483648) (ht : -2147483648 ≤ t ∧ t < 2147483648) : gFun E l yX5_heaped wsX5_heaped { frames := 2, cells := 0, slots := 0, locals := 42 } [.ref a_X, .int (iI i), .int (iI t)] [(a_X, .inr (5, [.ref a_P, .ref a_L, .ref a_R, .ref a_D, .ref a_Q, .int (iI tr), .int (iI ft)])), (a_L, .inr (2, [.ref a_pc, .ref a_tn, .int (iI n)])), (a_pc, aI E 25 pc), (a_tn, aI E 25 tn)] (.int (iI (if ¬ (0 ≤ i ∧ i < n) then -1 else if t = 0 then pc i else if t = 1 then tn i else -2))) := by
  refine g_start (cc := cX5_heaped) (maxL := 3) (ret := (some .int)) (by decide) rfl (Nat.le_of_ble_eq_true rfl) ?_
  intro p_ e_ s_ m_ args_ below_ meth_ c_ A_ C hr hnm
  refine g_aload_n 1 C 0 dX5_heaped_0 rfl rfl ?_
  refine g_get 4 C 0 1 5 iX5_heaped_X5 lX5_heaped_21 dX5_heaped_1 rfl rfl rfl (by decide) rfl ?_
  refine g_iload_n 5 C 1 dX5_heaped_4 rfl rfl ?_
  refine g_callVF 8 C [1] dX5_heaped_5 rfl (k_X2_hasPlace E l  (by first | assumption | omega) (by first | assumption | omega)) (cwV 1 C.2.2.2.2.1 gX5_heaped_X2_hasPlace rfl rfl rfl cdX2_hasPlace ⟨Nat.le_of_ble_eq_true rfl, Nat.le_of_ble_eq_true rfl⟩) rfl rfl rfl rfl (Nat.le_of_ble_eq_true rfl) 1 2 rfl rfl rfl ⟨Nat.le_of_ble_eq_true rfl, Nat.le_of_ble_eq_true rfl⟩ ?_
  refine g_ifb_ne 13 11 C dX5_heaped_8 (by decide) rfl ?_ ?_
  · intro h8
    refine g_iload_n 14 C 2 dX5_heaped_13 rfl rfl ?_
    refine g_lsw2 40 49 58 C dX5_heaped_14 (by decide) (by omega) (by decide) (by decide) (by decide) ?_ ?_ ?_
    · intro hs14_a
      refine g_aload_n 41 C 0 dX5_heaped_40 rfl rfl ?_
      refine g_get 44 C 0 1 5 iX5_heaped_X5 lX5_heaped_21 dX5_heaped_41 rfl rfl rfl (by decide) rfl ?_
      refine g_iload_n 45 C 1 dX5_heaped_44 rfl rfl ?_
      refine g_callVF 48 C [1, 2] dX5_heaped_45 rfl (k_X2_pieceAt E l  (by first | assumption | omega) (by first | assumption | omega)) (cwV 1 C.2.2.2.2.1 gX5_heaped_X2_pieceAt rfl rfl rfl cdX2_pieceAt ⟨Nat.le_of_ble_eq_true rfl, Nat.le_of_ble_eq_true rfl⟩) rfl rfl rfl rfl (Nat.le_of_ble_eq_true rfl) 1 2 rfl rfl rfl ⟨Nat.le_of_ble_eq_true rfl, Nat.le_of_ble_eq_true rfl⟩ ?_
      exact g_iret C hr dX5_heaped_48 ⟨g_ri (by (repeat' split) <;> first | rfl | omega), rfl⟩
    · intro hs14_b
      refine g_aload_n 50 C 0 dX5_heaped_49 rfl rfl ?_
      refine g_get 53 C 0 1 5 iX5_heaped_X5 lX5_heaped_21 dX5_heaped_50 rfl rfl rfl (by decide) rfl ?_
      refine g_iload_n 54 C 1 dX5_heaped_53 rfl rfl ?_
      refine g_callVF 57 C [1, 3] dX5_heaped_54 rfl (k_X2_turnAt E l  (by first | assumption | omega) (by first | assumption | omega)) (cwV 1 C.2.2.2.2.1 gX5_heaped_X2_turnAt rfl rfl rfl cdX2_turnAt ⟨Nat.le_of_ble_eq_true rfl, Nat.le_of_ble_eq_true rfl⟩) rfl rfl rfl rfl (Nat.le_of_ble_eq_true rfl) 1 2 rfl rfl rfl ⟨Nat.le_of_ble_eq_true rfl, Nat.le_of_ble_eq_true rfl⟩ ?_
      exact g_iret C hr dX5_heaped_57 ⟨g_ri (by (repeat' split) <;> first | rfl | omega), rfl⟩
    · intro hs14_d
      refine g_bipush 60 C dX5_heaped_58 rfl (by decide) ?_
      exact g_iret C hr dX5_heaped_60 ⟨g_ri (by (repeat' split) <;> first | rfl | omega), rfl⟩
  · intro h8
    refine g_iconst 12 C dX5_heaped_11 rfl ?_
    exact g_iret C hr dX5_heaped_12 ⟨g_ri (by (repeat' split) <;> first | rfl | omega), rfl⟩
theorem cdX2_timesOf : yX2_timesOf.cls = RX2 ∧ yX2_timesOf.cls ≠ "java/lang/invoke/MethodHandle" ∧ yX2_timesOf.cls ≠ "java/lang/invoke/VarHandle" ∧ (parseMethodDescriptor yX2_timesOf.desc).map (fun d => d.parameters.length) = some 1 := by decide +kernel
theorem lX5_isMissing_21 : Cond.fieldLink RX5 21 (TX5 1).1 (TX5 1).2.1 (TX5 1).2.2.1 ∈ wsX5_isMissing := by decide +kernel
theorem iX5_isMissing_X5 : ∀ w ∈ u_ws RX5 TX5 7, w ∈ wsX5_isMissing := by decide +kernel
set_option maxHeartbeats 4000000 in
set_option maxRecDepth 100000 in
theorem k_X5_isMissing (E : gE) (l : Launch) {a_D a_L a_P a_Q a_R a_X a_pc a_tn : Nat} {n t p : Int} {pc : Int → Int} {tr ft : Int} (hn : 0 ≤ n ∧ n ≤ 25) (hpn : ∀ j : Int, 0 ≤ j ∧ j < n → 0 ≤ pc j ∧ pc j < 25) (ht : -2147483648 ≤ t ∧ t < 2147483648) (hp : -2147483648 ≤ p ∧ p < 2147483648) : gFun E l yX5_isMissing wsX5_isMissing { frames := 1, cells := 0, slots := 0, locals := 23 } [.ref a_X, .int (iI t), .int (iI p)] [(a_X, .inr (5, [.ref a_P, .ref a_L, .ref a_R, .ref a_D, .ref a_Q, .int (iI tr), .int (iI ft)])), (a_L, .inr (2, [.ref a_pc, .ref a_tn, .int (iI n)])), (a_pc, aI E 25 pc)] (.int (iI (cI (msP n pc t p) 1 0))) := by
  refine g_start (cc := cX5_isMissing) (maxL := 4) (ret := (some .boolean)) (by decide) rfl (Nat.le_of_ble_eq_true rfl) ?_
  intro p_ e_ s_ m_ args_ below_ meth_ c_ A_ C hr hnm
  refine g_aload_n 1 C 0 dX5_isMissing_0 rfl rfl ?_
  refine g_get 4 C 0 1 5 iX5_isMissing_X5 lX5_isMissing_21 dX5_isMissing_1 rfl rfl rfl (by decide) rfl ?_
  refine g_iload_n 5 C 2 dX5_isMissing_4 rfl rfl ?_
  refine g_callVF 8 C [1, 2] dX5_isMissing_5 rfl (k_X2_timesOf E l  (by first | assumption | omega) (by first | assumption | omega) (by first | assumption | omega)) (cwV 1 C.2.2.2.2.1 gX5_isMissing_X2_timesOf rfl rfl rfl cdX2_timesOf ⟨Nat.le_of_ble_eq_true rfl, Nat.le_of_ble_eq_true rfl⟩) rfl rfl rfl rfl (Nat.le_of_ble_eq_true rfl) 1 2 rfl rfl rfl ⟨Nat.le_of_ble_eq_true rfl, Nat.le_of_ble_eq_true rfl⟩ ?_
  have e0 := cnI_b (fun j => pc j = p) hn.1
  have e1 : tmI n pc p = cnI (fun j => pc j = p) n := rfl
  refine g_istore_n (lv' := [(3, _), (0, _), (1, _), (2, _)]) 9 C dX5_isMissing_8 rfl rfl (by decide) rfl ?_
  refine g_iload_n 10 C 2 dX5_isMissing_9 rfl rfl ?_
  refine g_if_ne 25 13 C dX5_isMissing_10 (by decide) rfl (by omega) ?_ ?_
  · intro h10
    refine g_iload_n 26 C 0 dX5_isMissing_25 rfl rfl ?_
    refine g_iconst 27 C dX5_isMissing_26 rfl ?_
    refine g_icmp_le 34 30 C dX5_isMissing_27 (by decide) rfl (by omega) ?_ ?_
    · intro h27
      refine g_iconst 35 C dX5_isMissing_34 rfl ?_
      exact g_zret C hr dX5_isMissing_35 (by first | rfl | decide | (split <;> rfl)) ⟨g_ri (by first | exact (cI_t (by unfold msP; omega)).symm | exact (cI_f (by unfold msP; omega)).symm), rfl⟩
    · intro h27
      refine g_iconst 31 C dX5_isMissing_30 rfl ?_
      refine g_goto 35 C dX5_isMissing_31 (by decide) ?_
      exact g_zret C hr dX5_isMissing_35 (by first | rfl | decide | (split <;> rfl)) ⟨g_ri (by first | exact (cI_t (by unfold msP; omega)).symm | exact (cI_f (by unfold msP; omega)).symm), rfl⟩
  · intro h10
    refine g_iload_n 14 C 0 dX5_isMissing_13 rfl rfl ?_
    refine g_if_ne 21 17 C dX5_isMissing_14 (by decide) rfl (by omega) ?_ ?_
    · intro h14
      refine g_iconst 22 C dX5_isMissing_21 rfl ?_
      refine g_goto 35 C dX5_isMissing_22 (by decide) ?_
      exact g_zret C hr dX5_isMissing_35 (by first | rfl | decide | (split <;> rfl)) ⟨g_ri (by first | exact (cI_t (by unfold msP; omega)).symm | exact (cI_f (by unfold msP; omega)).symm), rfl⟩
    · intro h14
      refine g_iconst 18 C dX5_isMissing_17 rfl ?_
      refine g_goto 35 C dX5_isMissing_18 (by decide) ?_
      exact g_zret C hr dX5_isMissing_35 (by first | rfl | decide | (split <;> rfl)) ⟨g_ri (by first | exact (cI_t (by unfold msP; omega)).symm | exact (cI_f (by unfold msP; omega)).symm), rfl⟩
theorem cdX5_isMissing : yX5_isMissing.cls = RX5 ∧ yX5_isMissing.cls ≠ "java/lang/invoke/MethodHandle" ∧ yX5_isMissing.cls ≠ "java/lang/invoke/VarHandle" ∧ (parseMethodDescriptor yX5_isMissing.desc).map (fun d => d.parameters.length) = some 2 := by decide +kernel
theorem lX5_countMissing_12 : Cond.fieldLink RX5 12 (TX5 0).1 (TX5 0).2.1 (TX5 0).2.2.1 ∈ wsX5_countMissing := by decide +kernel
theorem iX5_countMissing_X5 : ∀ w ∈ u_ws RX5 TX5 7, w ∈ wsX5_countMissing := by decide +kernel
set_option maxHeartbeats 4000000 in
set_option maxRecDepth 100000 in
theorem k_X5_countMissing (E : gE) (l : Launch) {a_D a_L a_P a_Q a_R a_X a_hs a_pc a_se a_tn : Nat} {W h n t : Int} {pc : Int → Int} {tr ft : Int} (hB : 1 ≤ W ∧ W ≤ 5 ∧ 1 ≤ h ∧ h ≤ 5) (hn : 0 ≤ n ∧ n ≤ 25) (hpn : ∀ j : Int, 0 ≤ j ∧ j < n → 0 ≤ pc j ∧ pc j < 25) (ht : -2147483648 ≤ t ∧ t < 2147483648) : gFun E l yX5_countMissing wsX5_countMissing { frames := 2, cells := 0, slots := 0, locals := 46 } [.ref a_X, .int (iI t)] [(a_X, .inr (5, [.ref a_P, .ref a_L, .ref a_R, .ref a_D, .ref a_Q, .int (iI tr), .int (iI ft)])), (a_P, .inr (1, [.ref a_hs, .ref a_se, .int (iI W), .int (iI h)])), (a_L, .inr (2, [.ref a_pc, .ref a_tn, .int (iI n)])), (a_pc, aI E 25 pc)] (.int (iI (cnI (msP n pc t) (W * h)))) := by
  refine g_start (cc := cX5_countMissing) (maxL := 4) (ret := (some .int)) (by decide) rfl (Nat.le_of_ble_eq_true rfl) ?_
  intro p_ e_ s_ m_ args_ below_ meth_ c_ A_ C hr hnm
  have hn := nsd_b hB
  refine g_iconst 1 C dX5_countMissing_0 rfl ?_
  refine g_istore_n (lv' := [(2, _), (0, _), (1, _)]) 2 C dX5_countMissing_1 rfl rfl (by decide) rfl ?_
  refine g_iconst 3 C dX5_countMissing_2 rfl ?_
  refine g_istore_n (lv' := [(3, _), (2, _), (0, _), (1, _)]) 4 C dX5_countMissing_3 rfl rfl (by decide) rfl ?_
  refine g_loop (α := Int × Int) (fun zz => [(a_X, .inr (5, [.ref a_P, .ref a_L, .ref a_R, .ref a_D, .ref a_Q, .int (iI tr), .int (iI ft)])), (a_P, .inr (1, [.ref a_hs, .ref a_se, .int (iI W), .int (iI h)])), (a_L, .inr (2, [.ref a_pc, .ref a_tn, .int (iI n)])), (a_pc, aI E 25 pc)]) (fun zz => [(2, .int (iI zz.1)), (3, .int (iI zz.2)), (1, .int (iI t)), (0, .ref a_X)]) (fun zz => (0 ≤ zz.2 ∧ zz.2 ≤ W * h) ∧ zz.1 = cnI (msP n pc t) zz.2) (fun zz => (W * h - zz.2).toNat) (0, 0) (by
            try dsimp only
            exact ⟨by omega, rfl⟩) [1, 0, 3, 2] rfl rfl ?_
  rintro ⟨c, k⟩ hI ih4
  try dsimp only at hI ih4 ⊢
  obtain ⟨hk, rfl⟩ := hI
  refine g_iload_n 5 C 1 dX5_countMissing_4 rfl rfl ?_
  refine g_aload_n 6 C 3 dX5_countMissing_5 rfl rfl ?_
  refine g_get 9 C 0 0 5 iX5_countMissing_X5 lX5_countMissing_12 dX5_countMissing_6 rfl rfl rfl (by decide) rfl ?_
  refine g_callVF 12 C [1] dX5_countMissing_9 rfl (k_X1_pieces E l  ) (cwV 0 C.2.2.2.2.1 gX5_countMissing_X1_pieces rfl rfl rfl cdX1_pieces ⟨Nat.le_of_ble_eq_true rfl, Nat.le_of_ble_eq_true rfl⟩) rfl rfl rfl rfl (Nat.le_of_ble_eq_true rfl) 1 1 rfl rfl rfl ⟨Nat.le_of_ble_eq_true rfl, Nat.le_of_ble_eq_true rfl⟩ ?_
  refine g_icmp_ge 33 15 C dX5_countMissing_12 (by decide) rfl (by omega) ?_ ?_
  · intro h12
    refine g_iload_n 34 C 0 dX5_countMissing_33 rfl rfl ?_
    exact g_iret C hr dX5_countMissing_34 ⟨g_ri (by rw [show k = W * h by omega]), rfl⟩
  · intro h12
    refine g_aload_n 16 C 3 dX5_countMissing_15 rfl rfl ?_
    refine g_iload_n 17 C 2 dX5_countMissing_16 rfl rfl ?_
    refine g_iload_n 18 C 1 dX5_countMissing_17 rfl rfl ?_
    refine g_callVF 21 C [0, 2, 3] dX5_countMissing_18 rfl (k_X5_isMissing E l  (by first | assumption | omega) (by first | assumption | omega) (by first | assumption | omega) (by first | assumption | omega)) (cwV 2 C.2.2.2.2.1 gX5_countMissing_X5_isMissing rfl rfl rfl cdX5_isMissing ⟨Nat.le_of_ble_eq_true rfl, Nat.le_of_ble_eq_true rfl⟩) rfl rfl rfl rfl (Nat.le_of_ble_eq_true rfl) 0 5 rfl rfl rfl ⟨Nat.le_of_ble_eq_true rfl, Nat.le_of_ble_eq_true rfl⟩ ?_
    refine g_ifb_eq 27 24 C dX5_countMissing_21 (by decide) rfl ?_ ?_
    · intro h21
      refine g_iinc (lv' := [(3, _), (2, _), (1, _), (0, _)]) 30 C 1 dX5_countMissing_27 rfl rfl (by decide) rfl ?_
      refine g_goto 4 C dX5_countMissing_30 (by decide) ?_
      first
      | exact g_w [1, 0, 2, 3] rfl rfl (ih4 ((cnI (msP n pc t) k + 1), (k + 1)) (by
            try dsimp only
            exact ⟨by omega, by first | exact (cnI_st (msP n pc t) hk.1 (by assumption)).symm | exact (cnI_sf (msP n pc t) hk.1 (by assumption)).symm⟩) (by (try dsimp only); omega))
      | exact g_w [1, 0, 2, 3] rfl rfl (ih4 ((cnI (msP n pc t) k), (k + 1)) (by
            try dsimp only
            exact ⟨by omega, by first | exact (cnI_st (msP n pc t) hk.1 (by assumption)).symm | exact (cnI_sf (msP n pc t) hk.1 (by assumption)).symm⟩) (by (try dsimp only); omega))
    · intro h21
      refine g_iinc (lv' := [(2, _), (3, _), (1, _), (0, _)]) 27 C 0 dX5_countMissing_24 rfl rfl (by decide) rfl ?_
      refine g_iinc (lv' := [(3, _), (2, _), (1, _), (0, _)]) 30 C 1 dX5_countMissing_27 rfl rfl (by decide) rfl ?_
      refine g_goto 4 C dX5_countMissing_30 (by decide) ?_
      first
      | exact g_w [1, 0, 2, 3] rfl rfl (ih4 ((cnI (msP n pc t) k + 1), (k + 1)) (by
            try dsimp only
            exact ⟨by omega, by first | exact (cnI_st (msP n pc t) hk.1 (by assumption)).symm | exact (cnI_sf (msP n pc t) hk.1 (by assumption)).symm⟩) (by (try dsimp only); omega))
      | exact g_w [1, 0, 2, 3] rfl rfl (ih4 ((cnI (msP n pc t) k), (k + 1)) (by
            try dsimp only
            exact ⟨by omega, by first | exact (cnI_st (msP n pc t) hk.1 (by assumption)).symm | exact (cnI_sf (msP n pc t) hk.1 (by assumption)).symm⟩) (by (try dsimp only); omega))
theorem lX5_missingPiece_12 : Cond.fieldLink RX5 12 (TX5 0).1 (TX5 0).2.1 (TX5 0).2.2.1 ∈ wsX5_missingPiece := by decide +kernel
theorem iX5_missingPiece_X5 : ∀ w ∈ u_ws RX5 TX5 7, w ∈ wsX5_missingPiece := by decide +kernel
set_option maxHeartbeats 4000000 in
set_option maxRecDepth 100000 in
theorem k_X5_missingPiece (E : gE) (l : Launch) {a_D a_L a_P a_Q a_R a_X a_hs a_pc a_se a_tn : Nat} {W h n t i : Int} {pc : Int → Int} {tr ft : Int} (hB : 1 ≤ W ∧ W ≤ 5 ∧ 1 ≤ h ∧ h ≤ 5) (hn : 0 ≤ n ∧ n ≤ 25) (hpn : ∀ j : Int, 0 ≤ j ∧ j < n → 0 ≤ pc j ∧ pc j < 25) (ht : -2147483648 ≤ t ∧ t < 2147483648) (hi : 0 ≤ i ∧ i < 2147483648) : gMet E l yX5_missingPiece wsX5_missingPiece { frames := 2, cells := 0, slots := 0, locals := 46 } 0 0 [.ref a_X, .int (iI t), .int (iI i)] [(a_X, .inr (5, [.ref a_P, .ref a_L, .ref a_R, .ref a_D, .ref a_Q, .int (iI tr), .int (iI ft)])), (a_P, .inr (1, [.ref a_hs, .ref a_se, .int (iI W), .int (iI h)])), (a_L, .inr (2, [.ref a_pc, .ref a_tn, .int (iI n)])), (a_pc, aI E 25 pc)] (fun v w => ∃ r : Int, (v = some (.int (iI r)) ∧ mdP (W * h) n pc t i r) ∧ w = [(a_X, .inr (5, [.ref a_P, .ref a_L, .ref a_R, .ref a_D, .ref a_Q, .int (iI tr), .int (iI ft)])), (a_P, .inr (1, [.ref a_hs, .ref a_se, .int (iI W), .int (iI h)])), (a_L, .inr (2, [.ref a_pc, .ref a_tn, .int (iI n)])), (a_pc, aI E 25 pc)]) := by
  refine g_start (cc := cX5_missingPiece) (maxL := 5) (ret := (some .int)) (by decide) rfl (Nat.le_of_ble_eq_true rfl) ?_
  intro p_ e_ s_ m_ args_ below_ meth_ c_ A_ C hr hnm
  have hn := nsd_b hB
  refine g_iconst 1 C dX5_missingPiece_0 rfl ?_
  refine g_istore_n (lv' := [(3, _), (0, _), (1, _), (2, _)]) 2 C dX5_missingPiece_1 rfl rfl (by decide) rfl ?_
  refine g_iconst 3 C dX5_missingPiece_2 rfl ?_
  refine g_istore (lv' := [(4, _), (3, _), (0, _), (1, _), (2, _)]) 5 C dX5_missingPiece_3 rfl (by decide) rfl ?_
  refine g_loop (α := Int × Int) (fun zz => [(a_X, .inr (5, [.ref a_P, .ref a_L, .ref a_R, .ref a_D, .ref a_Q, .int (iI tr), .int (iI ft)])), (a_P, .inr (1, [.ref a_hs, .ref a_se, .int (iI W), .int (iI h)])), (a_L, .inr (2, [.ref a_pc, .ref a_tn, .int (iI n)])), (a_pc, aI E 25 pc)]) (fun zz => [(3, .int (iI zz.1)), (4, .int (iI zz.2)), (2, .int (iI i)), (1, .int (iI t)), (0, .ref a_X)]) (fun zz => ((0 ≤ zz.2 ∧ zz.2 ≤ W * h) ∧ zz.1 ≤ i) ∧ zz.1 = cnI (msP n pc t) zz.2) (fun zz => (W * h - zz.2).toNat) (0, 0) (by
            try dsimp only
            exact ⟨by omega, rfl⟩) [1, 0, 4, 3, 2] rfl rfl ?_
  rintro ⟨c, k⟩ hI ih5
  try dsimp only at hI ih5 ⊢
  obtain ⟨⟨hk, hci⟩, rfl⟩ := hI
  refine g_iload 7 C 1 dX5_missingPiece_5 rfl rfl ?_
  refine g_aload_n 8 C 4 dX5_missingPiece_7 rfl rfl ?_
  refine g_get 11 C 0 0 5 iX5_missingPiece_X5 lX5_missingPiece_12 dX5_missingPiece_8 rfl rfl rfl (by decide) rfl ?_
  refine g_callVF 14 C [1] dX5_missingPiece_11 rfl (k_X1_pieces E l  ) (cwV 0 C.2.2.2.2.1 gX5_missingPiece_X1_pieces rfl rfl rfl cdX1_pieces ⟨Nat.le_of_ble_eq_true rfl, Nat.le_of_ble_eq_true rfl⟩) rfl rfl rfl rfl (Nat.le_of_ble_eq_true rfl) 1 1 rfl rfl rfl ⟨Nat.le_of_ble_eq_true rfl, Nat.le_of_ble_eq_true rfl⟩ ?_
  refine g_icmp_ge 44 17 C dX5_missingPiece_14 (by decide) rfl (by omega) ?_ ?_
  · intro h14
    refine g_iconst 45 C dX5_missingPiece_44 rfl ?_
    exact g_iret C hr dX5_missingPiece_45 ⟨_, ⟨rfl, Or.inl ⟨rfl, by rw [show W * h = k by omega]; exact hci⟩⟩, rfl⟩
  · intro h14
    refine g_aload_n 18 C 4 dX5_missingPiece_17 rfl rfl ?_
    refine g_iload_n 19 C 3 dX5_missingPiece_18 rfl rfl ?_
    refine g_iload 21 C 1 dX5_missingPiece_19 rfl rfl ?_
    refine g_callVF 24 C [0, 2, 3] dX5_missingPiece_21 rfl (k_X5_isMissing E l  (by first | assumption | omega) (by first | assumption | omega) (by first | assumption | omega) (by first | assumption | omega)) (cwV 2 C.2.2.2.2.1 gX5_missingPiece_X5_isMissing rfl rfl rfl cdX5_isMissing ⟨Nat.le_of_ble_eq_true rfl, Nat.le_of_ble_eq_true rfl⟩) rfl rfl rfl rfl (Nat.le_of_ble_eq_true rfl) 0 5 rfl rfl rfl ⟨Nat.le_of_ble_eq_true rfl, Nat.le_of_ble_eq_true rfl⟩ ?_
    refine g_ifb_eq 38 27 C dX5_missingPiece_24 (by decide) rfl ?_ ?_
    · intro h24
      refine g_iinc (lv' := [(4, _), (3, _), (2, _), (1, _), (0, _)]) 41 C 1 dX5_missingPiece_38 rfl rfl (by decide) rfl ?_
      refine g_goto 5 C dX5_missingPiece_41 (by decide) ?_
      first
      | exact g_w [1, 0, 2, 3, 4] rfl rfl (ih5 ((cnI (msP n pc t) k + 1), (k + 1)) (by
            try dsimp only
            exact ⟨by omega, by first | exact (cnI_st (msP n pc t) hk.1 (by assumption)).symm | exact (cnI_sf (msP n pc t) hk.1 (by assumption)).symm⟩) (by (try dsimp only); omega))
      | exact g_w [1, 0, 2, 3, 4] rfl rfl (ih5 ((cnI (msP n pc t) k), (k + 1)) (by
            try dsimp only
            exact ⟨by omega, by first | exact (cnI_st (msP n pc t) hk.1 (by assumption)).symm | exact (cnI_sf (msP n pc t) hk.1 (by assumption)).symm⟩) (by (try dsimp only); omega))
    · intro h24
      refine g_iload_n 28 C 0 dX5_missingPiece_27 rfl rfl ?_
      refine g_iload_n 29 C 2 dX5_missingPiece_28 rfl rfl ?_
      have e0 := cnI_b (msP n pc t) hk.1
      refine g_icmp_ne 35 32 C dX5_missingPiece_29 (by decide) rfl (by omega) ?_ ?_
      · intro h29
        refine g_iinc (lv' := [(3, _), (4, _), (2, _), (1, _), (0, _)]) 38 C 0 dX5_missingPiece_35 rfl rfl (by decide) rfl ?_
        refine g_iinc (lv' := [(4, _), (3, _), (2, _), (1, _), (0, _)]) 41 C 1 dX5_missingPiece_38 rfl rfl (by decide) rfl ?_
        refine g_goto 5 C dX5_missingPiece_41 (by decide) ?_
        first
        | exact g_w [1, 0, 2, 3, 4] rfl rfl (ih5 ((cnI (msP n pc t) k + 1), (k + 1)) (by
            try dsimp only
            exact ⟨by omega, by first | exact (cnI_st (msP n pc t) hk.1 (by assumption)).symm | exact (cnI_sf (msP n pc t) hk.1 (by assumption)).symm⟩) (by (try dsimp only); omega))
        | exact g_w [1, 0, 2, 3, 4] rfl rfl (ih5 ((cnI (msP n pc t) k), (k + 1)) (by
            try dsimp only
            exact ⟨by omega, by first | exact (cnI_st (msP n pc t) hk.1 (by assumption)).symm | exact (cnI_sf (msP n pc t) hk.1 (by assumption)).symm⟩) (by (try dsimp only); omega))
      · intro h29
        refine g_iload 34 C 1 dX5_missingPiece_32 rfl rfl ?_
        exact g_iret C hr dX5_missingPiece_34 ⟨_, ⟨rfl, Or.inr ⟨by omega, by assumption, by omega⟩⟩, rfl⟩
theorem cdX5_countMissing : yX5_countMissing.cls = RX5 ∧ yX5_countMissing.cls ≠ "java/lang/invoke/MethodHandle" ∧ yX5_countMissing.cls ≠ "java/lang/invoke/VarHandle" ∧ (parseMethodDescriptor yX5_countMissing.desc).map (fun d => d.parameters.length) = some 1 := by decide +kernel
theorem cdX5_isMissingWhat : yX5_isMissingWhat.cls ≠ "java/lang/invoke/MethodHandle" ∧ yX5_isMissingWhat.cls ≠ "java/lang/invoke/VarHandle" ∧ (parseMethodDescriptor yX5_isMissingWhat.desc).map (fun d => d.parameters.length) = some 1 := by decide +kernel
set_option maxHeartbeats 4000000 in
set_option maxRecDepth 100000 in
theorem k_X5_missing (E : gE) (l : Launch) {a_D a_L a_P a_Q a_R a_X a_hs a_pc a_se a_tn : Nat} {W h n t : Int} {pc : Int → Int} {tr ft : Int} (hB : 1 ≤ W ∧ W ≤ 5 ∧ 1 ≤ h ∧ h ≤ 5) (hn : 0 ≤ n ∧ n ≤ 25) (hpn : ∀ j : Int, 0 ≤ j ∧ j < n → 0 ≤ pc j ∧ pc j < 25) (ht : -2147483648 ≤ t ∧ t < 2147483648) : gFun E l yX5_missing wsX5_missing { frames := 3, cells := 0, slots := 0, locals := 69 } [.ref a_X, .int (iI t)] [(a_X, .inr (5, [.ref a_P, .ref a_L, .ref a_R, .ref a_D, .ref a_Q, .int (iI tr), .int (iI ft)])), (a_P, .inr (1, [.ref a_hs, .ref a_se, .int (iI W), .int (iI h)])), (a_L, .inr (2, [.ref a_pc, .ref a_tn, .int (iI n)])), (a_pc, aI E 25 pc)] (.int (iI (if t = 0 ∨ t = 1 then cnI (msP n pc t) (W * h) else -2))) := by
  refine g_start (cc := cX5_missing) (maxL := 2) (ret := (some .int)) (by decide) rfl (Nat.le_of_ble_eq_true rfl) ?_
  intro p_ e_ s_ m_ args_ below_ meth_ c_ A_ C hr hnm
  refine g_iload_n 1 C 1 dX5_missing_0 rfl rfl ?_
  refine g_callSF 4 C [] dX5_missing_1 rfl (k_X5_isMissingWhat E l  (by first | assumption | omega)) (va_cwS 1 C.2.2.2.2.1 gX5_missing_X5_isMissingWhat rfl rfl rfl cdX5_isMissingWhat ⟨Nat.le_of_ble_eq_true rfl, Nat.le_of_ble_eq_true rfl⟩) rfl rfl rfl rfl (Nat.le_of_ble_eq_true rfl) ⟨Nat.le_of_ble_eq_true rfl, Nat.le_of_ble_eq_true rfl⟩ ?_
  refine g_ifb_ne 10 7 C dX5_missing_4 (by decide) rfl ?_ ?_
  · intro h4
    refine g_aload_n 11 C 0 dX5_missing_10 rfl rfl ?_
    refine g_iload_n 12 C 1 dX5_missing_11 rfl rfl ?_
    refine g_callVF 15 C [0, 1, 2, 3] dX5_missing_12 rfl (k_X5_countMissing E l  (by first | assumption | omega) (by first | assumption | omega) (by first | assumption | omega) (by first | assumption | omega)) (cwV 1 C.2.2.2.2.1 gX5_missing_X5_countMissing rfl rfl rfl cdX5_countMissing ⟨Nat.le_of_ble_eq_true rfl, Nat.le_of_ble_eq_true rfl⟩) rfl rfl rfl rfl (Nat.le_of_ble_eq_true rfl) 0 5 rfl rfl rfl ⟨Nat.le_of_ble_eq_true rfl, Nat.le_of_ble_eq_true rfl⟩ ?_
    exact g_iret C hr dX5_missing_15 ⟨g_ri (by first | rfl | omega | exact (if_pos (by omega)).symm | exact (if_neg (by omega)).symm), rfl⟩
  · intro h4
    refine g_bipush 9 C dX5_missing_7 rfl (by decide) ?_
    exact g_iret C hr dX5_missing_9 ⟨g_ri (by first | rfl | omega | exact (if_pos (by omega)).symm | exact (if_neg (by omega)).symm), rfl⟩
theorem cdX5_missingPiece : yX5_missingPiece.cls = RX5 ∧ yX5_missingPiece.cls ≠ "java/lang/invoke/MethodHandle" ∧ yX5_missingPiece.cls ≠ "java/lang/invoke/VarHandle" ∧ (parseMethodDescriptor yX5_missingPiece.desc).map (fun d => d.parameters.length) = some 2 := by decide +kernel
set_option maxHeartbeats 4000000 in
set_option maxRecDepth 100000 in
theorem k_X5_missed (E : gE) (l : Launch) {a_D a_L a_P a_Q a_R a_X a_hs a_pc a_se a_tn : Nat} {W h n t i : Int} {pc : Int → Int} {tr ft : Int} (hB : 1 ≤ W ∧ W ≤ 5 ∧ 1 ≤ h ∧ h ≤ 5) (hn : 0 ≤ n ∧ n ≤ 25) (hpn : ∀ j : Int, 0 ≤ j ∧ j < n → 0 ≤ pc j ∧ pc j < 25) (ht : -2147483648 ≤ t ∧ t < 2147483648) (hi : -2147483648 ≤ i ∧ i < 2147483648) : gMet E l yX5_missed wsX5_missed { frames := 3, cells := 0, slots := 0, locals := 70 } 0 0 [.ref a_X, .int (iI t), .int (iI i)] [(a_X, .inr (5, [.ref a_P, .ref a_L, .ref a_R, .ref a_D, .ref a_Q, .int (iI tr), .int (iI ft)])), (a_P, .inr (1, [.ref a_hs, .ref a_se, .int (iI W), .int (iI h)])), (a_L, .inr (2, [.ref a_pc, .ref a_tn, .int (iI n)])), (a_pc, aI E 25 pc)] (fun v w => ∃ r : Int, (v = some (.int (iI r)) ∧ ((i < 0 ∧ r = -1) ∨ (0 ≤ i ∧ ¬ (t = 0 ∨ t = 1) ∧ r = -2) ∨ (0 ≤ i ∧ (t = 0 ∨ t = 1) ∧ mdP (W * h) n pc t i r))) ∧ w = [(a_X, .inr (5, [.ref a_P, .ref a_L, .ref a_R, .ref a_D, .ref a_Q, .int (iI tr), .int (iI ft)])), (a_P, .inr (1, [.ref a_hs, .ref a_se, .int (iI W), .int (iI h)])), (a_L, .inr (2, [.ref a_pc, .ref a_tn, .int (iI n)])), (a_pc, aI E 25 pc)]) := by
  refine g_start (cc := cX5_missed) (maxL := 3) (ret := (some .int)) (by decide) rfl (Nat.le_of_ble_eq_true rfl) ?_
  intro p_ e_ s_ m_ args_ below_ meth_ c_ A_ C hr hnm
  refine g_iload_n 1 C 2 dX5_missed_0 rfl rfl ?_
  refine g_if_ge 6 4 C dX5_missed_1 (by decide) rfl (by omega) ?_ ?_
  · intro h1
    refine g_iload_n 7 C 1 dX5_missed_6 rfl rfl ?_
    refine g_callSF 10 C [] dX5_missed_7 rfl (k_X5_isMissingWhat E l  (by first | assumption | omega)) (va_cwS 1 C.2.2.2.2.1 gX5_missed_X5_isMissingWhat rfl rfl rfl cdX5_isMissingWhat ⟨Nat.le_of_ble_eq_true rfl, Nat.le_of_ble_eq_true rfl⟩) rfl rfl rfl rfl (Nat.le_of_ble_eq_true rfl) ⟨Nat.le_of_ble_eq_true rfl, Nat.le_of_ble_eq_true rfl⟩ ?_
    refine g_ifb_ne 16 13 C dX5_missed_10 (by decide) rfl ?_ ?_
    · intro h10
      refine g_aload_n 17 C 0 dX5_missed_16 rfl rfl ?_
      refine g_iload_n 18 C 1 dX5_missed_17 rfl rfl ?_
      refine g_iload_n 19 C 2 dX5_missed_18 rfl rfl ?_
      refine g_callV 22 C [0, 1, 2, 3] dX5_missed_19 rfl (k_X5_missingPiece E l  (by first | assumption | omega) (by first | assumption | omega) (by first | assumption | omega) (by first | assumption | omega) (by first | assumption | omega)) (cwV 2 C.2.2.2.2.1 gX5_missed_X5_missingPiece rfl rfl rfl cdX5_missingPiece ⟨Nat.le_of_ble_eq_true rfl, Nat.le_of_ble_eq_true rfl⟩) rfl rfl rfl rfl (Nat.le_of_ble_eq_true rfl) 0 5 rfl rfl rfl ⟨Nat.le_of_ble_eq_true rfl, Nat.le_of_ble_eq_true rfl⟩ (fun v w q => by obtain ⟨_, -, rfl⟩ := q; rfl) ?_
      rintro _ _ ⟨r, ⟨rfl, hL⟩, rfl⟩
      refine g_w (ws' := [(_, .inr (5, [_, _, _, _, _, _, _])), (_, .inr (1, [_, _, _, _])), (_, .inr (2, [_, _, _])), (_, aI _ _ _)]) [0, 1, 2] rfl rfl ?_
      exact g_iret C hr dX5_missed_22 ⟨_, ⟨rfl, Or.inr (Or.inr ⟨by omega, by assumption, hL⟩)⟩, rfl⟩
    · intro h10
      refine g_bipush 15 C dX5_missed_13 rfl (by decide) ?_
      exact g_iret C hr dX5_missed_15 ⟨_, ⟨rfl, Or.inr (Or.inl ⟨by omega, by assumption, rfl⟩)⟩, rfl⟩
  · intro h1
    refine g_iconst 5 C dX5_missed_4 rfl ?_
    exact g_iret C hr dX5_missed_5 ⟨_, ⟨rfl, Or.inl ⟨by omega, rfl⟩⟩, rfl⟩
theorem cdX3_hasJoined : yX3_hasJoined.cls = RX3 ∧ yX3_hasJoined.cls ≠ "java/lang/invoke/MethodHandle" ∧ yX3_hasJoined.cls ≠ "java/lang/invoke/VarHandle" ∧ (parseMethodDescriptor yX3_hasJoined.desc).map (fun d => d.parameters.length) = some 0 := by decide +kernel
theorem cdX3_joinedFrom : yX3_joinedFrom.cls = RX3 ∧ yX3_joinedFrom.cls ≠ "java/lang/invoke/MethodHandle" ∧ yX3_joinedFrom.cls ≠ "java/lang/invoke/VarHandle" ∧ (parseMethodDescriptor yX3_joinedFrom.desc).map (fun d => d.parameters.length) = some 1 := by decide +kernel
theorem cdX3_joinedTurn : yX3_joinedTurn.cls = RX3 ∧ yX3_joinedTurn.cls ≠ "java/lang/invoke/MethodHandle" ∧ yX3_joinedTurn.cls ≠ "java/lang/invoke/VarHandle" ∧ (parseMethodDescriptor yX3_joinedTurn.desc).map (fun d => d.parameters.length) = some 1 := by decide +kernel
theorem lX5_joined_12 : Cond.fieldLink RX5 12 (TX5 0).1 (TX5 0).2.1 (TX5 0).2.2.1 ∈ wsX5_joined := by decide +kernel
theorem lX5_joined_30 : Cond.fieldLink RX5 30 (TX5 2).1 (TX5 2).2.1 (TX5 2).2.2.1 ∈ wsX5_joined := by decide +kernel
theorem iX5_joined_X5 : ∀ w ∈ u_ws RX5 TX5 7, w ∈ wsX5_joined := by decide +kernel
set_option maxHeartbeats 4000000 in
set_option maxRecDepth 100000 in
theorem k_X5_joined (E : gE) (l : Launch) {a_D a_L a_P a_Q a_R a_X a_fi a_hs a_jl a_ly a_se a_sh a_us a_wa : Nat} {W h z t : Int} {jl : Int → Int} {tr ft : Int} {jo fo sp fd tc : Int} (hB : 1 ≤ W ∧ W ≤ 5 ∧ 1 ≤ h ∧ h ≤ 5) (hjo : jo = 0 ∨ jo = 1) (hjl : jo = 1 → ∀ j : Int, 0 ≤ j ∧ j < W * h → 0 ≤ jl j ∧ jl j < 100) (hz : -2147483648 ≤ z ∧ z < 2147483648) (ht : -2147483648 ≤ t ∧ t < 2147483648) : gFun E l yX5_joined wsX5_joined { frames := 2, cells := 0, slots := 0, locals := 42 } [.ref a_X, .int (iI z), .int (iI t)] [(a_X, .inr (5, [.ref a_P, .ref a_L, .ref a_R, .ref a_D, .ref a_Q, .int (iI tr), .int (iI ft)])), (a_P, .inr (1, [.ref a_hs, .ref a_se, .int (iI W), .int (iI h)])), (a_R, .inr (3, [.ref a_P, .ref a_L, .ref a_sh, .ref a_fi, .ref a_wa, .ref a_us, .ref a_ly, .ref a_jl, .int (iI jo), .int (iI fo), .int (iI sp), .int (iI fd), .int (iI tc)])), (a_jl, aI E 25 jl)] (.int (iI (if jo = 0 then -3 else if ¬ (0 ≤ z ∧ z < W * h) then -1 else if t = 0 then jl z / 4 else if t = 1 then jl z % 4 else -2))) := by
  refine g_start (cc := cX5_joined) (maxL := 3) (ret := (some .int)) (by decide) rfl (Nat.le_of_ble_eq_true rfl) ?_
  intro p_ e_ s_ m_ args_ below_ meth_ c_ A_ C hr hnm
  have hn := nsd_b hB
  refine g_aload_n 1 C 0 dX5_joined_0 rfl rfl ?_
  refine g_get 4 C 0 2 5 iX5_joined_X5 lX5_joined_30 dX5_joined_1 rfl rfl rfl (by decide) rfl ?_
  refine g_callVF 7 C [2] dX5_joined_4 rfl (k_X3_hasJoined E l  (by first | assumption | omega)) (cwV 0 C.2.2.2.2.1 gX5_joined_X3_hasJoined rfl rfl rfl cdX3_hasJoined ⟨Nat.le_of_ble_eq_true rfl, Nat.le_of_ble_eq_true rfl⟩) rfl rfl rfl rfl (Nat.le_of_ble_eq_true rfl) 2 3 rfl rfl rfl ⟨Nat.le_of_ble_eq_true rfl, Nat.le_of_ble_eq_true rfl⟩ ?_
  refine g_if_ne 13 10 C dX5_joined_7 (by decide) rfl (by omega) ?_ ?_
  · intro h7
    refine g_aload_n 14 C 0 dX5_joined_13 rfl rfl ?_
    refine g_get 17 C 0 0 5 iX5_joined_X5 lX5_joined_12 dX5_joined_14 rfl rfl rfl (by decide) rfl ?_
    refine g_iload_n 18 C 1 dX5_joined_17 rfl rfl ?_
    refine g_callVF 21 C [1] dX5_joined_18 rfl (k_X1_hasPiece E l  (by first | assumption | omega) (by first | assumption | omega)) (cwV 1 C.2.2.2.2.1 gX5_joined_X1_hasPiece rfl rfl rfl cdX1_hasPiece ⟨Nat.le_of_ble_eq_true rfl, Nat.le_of_ble_eq_true rfl⟩) rfl rfl rfl rfl (Nat.le_of_ble_eq_true rfl) 1 1 rfl rfl rfl ⟨Nat.le_of_ble_eq_true rfl, Nat.le_of_ble_eq_true rfl⟩ ?_
    refine g_ifb_ne 26 24 C dX5_joined_21 (by decide) rfl ?_ ?_
    · intro h21
      refine g_iload_n 27 C 2 dX5_joined_26 rfl rfl ?_
      refine g_lsw2 52 61 70 C dX5_joined_27 (by decide) (by omega) (by decide) (by decide) (by decide) ?_ ?_ ?_
      · intro hs27_a
        refine g_aload_n 53 C 0 dX5_joined_52 rfl rfl ?_
        refine g_get 56 C 0 2 5 iX5_joined_X5 lX5_joined_30 dX5_joined_53 rfl rfl rfl (by decide) rfl ?_
        refine g_iload_n 57 C 1 dX5_joined_56 rfl rfl ?_
        refine g_callVF 60 C [2, 3] dX5_joined_57 rfl (k_X3_joinedFrom E l  (by first | assumption | omega) (hjl (by omega) z (by omega))) (cwV 1 C.2.2.2.2.1 gX5_joined_X3_joinedFrom rfl rfl rfl cdX3_joinedFrom ⟨Nat.le_of_ble_eq_true rfl, Nat.le_of_ble_eq_true rfl⟩) rfl rfl rfl rfl (Nat.le_of_ble_eq_true rfl) 2 3 rfl rfl rfl ⟨Nat.le_of_ble_eq_true rfl, Nat.le_of_ble_eq_true rfl⟩ ?_
        exact g_iret C hr dX5_joined_60 ⟨g_ri (by (repeat' split) <;> first | rfl | omega), rfl⟩
      · intro hs27_b
        refine g_aload_n 62 C 0 dX5_joined_61 rfl rfl ?_
        refine g_get 65 C 0 2 5 iX5_joined_X5 lX5_joined_30 dX5_joined_62 rfl rfl rfl (by decide) rfl ?_
        refine g_iload_n 66 C 1 dX5_joined_65 rfl rfl ?_
        refine g_callVF 69 C [2, 3] dX5_joined_66 rfl (k_X3_joinedTurn E l  (by first | assumption | omega) (hjl (by omega) z (by omega))) (cwV 1 C.2.2.2.2.1 gX5_joined_X3_joinedTurn rfl rfl rfl cdX3_joinedTurn ⟨Nat.le_of_ble_eq_true rfl, Nat.le_of_ble_eq_true rfl⟩) rfl rfl rfl rfl (Nat.le_of_ble_eq_true rfl) 2 3 rfl rfl rfl ⟨Nat.le_of_ble_eq_true rfl, Nat.le_of_ble_eq_true rfl⟩ ?_
        exact g_iret C hr dX5_joined_69 ⟨g_ri (by (repeat' split) <;> first | rfl | omega), rfl⟩
      · intro hs27_d
        refine g_bipush 72 C dX5_joined_70 rfl (by decide) ?_
        exact g_iret C hr dX5_joined_72 ⟨g_ri (by (repeat' split) <;> first | rfl | omega), rfl⟩
    · intro h21
      refine g_iconst 25 C dX5_joined_24 rfl ?_
      exact g_iret C hr dX5_joined_25 ⟨g_ri (by (repeat' split) <;> first | rfl | omega), rfl⟩
  · intro h7
    refine g_bipush 12 C dX5_joined_10 rfl (by decide) ?_
    exact g_iret C hr dX5_joined_12 ⟨g_ri (by (repeat' split) <;> first | rfl | omega), rfl⟩
theorem lX5_known_12 : Cond.fieldLink RX5 12 (TX5 0).1 (TX5 0).2.1 (TX5 0).2.2.1 ∈ wsX5_known := by decide +kernel
theorem lX5_known_21 : Cond.fieldLink RX5 21 (TX5 1).1 (TX5 1).2.1 (TX5 1).2.2.1 ∈ wsX5_known := by decide +kernel
theorem iX5_known_X5 : ∀ w ∈ u_ws RX5 TX5 7, w ∈ wsX5_known := by decide +kernel
set_option maxHeartbeats 4000000 in
set_option maxRecDepth 100000 in
theorem k_X5_known (E : gE) (l : Launch) {a_D a_L a_P a_Q a_R a_X a_hs a_pc a_se a_tn : Nat} {W h n p : Int} {se pc : Int → Int} {tr ft : Int} (hB : 1 ≤ W ∧ W ≤ 5 ∧ 1 ≤ h ∧ h ≤ 5) (hse : ∀ p e : Int, 0 ≤ p ∧ p < W * h → 0 ≤ e ∧ e < 4 → se (p * 4 + e) = sdI W h p e) (hn : 0 ≤ n ∧ n ≤ 25) (hpn : ∀ j : Int, 0 ≤ j ∧ j < n → 0 ≤ pc j ∧ pc j < 25) (hp : -2147483648 ≤ p ∧ p < 2147483648) : gFun E l yX5_known wsX5_known { frames := 2, cells := 0, slots := 0, locals := 45 } [.ref a_X, .int (iI p)] [(a_X, .inr (5, [.ref a_P, .ref a_L, .ref a_R, .ref a_D, .ref a_Q, .int (iI tr), .int (iI ft)])), (a_P, .inr (1, [.ref a_hs, .ref a_se, .int (iI W), .int (iI h)])), (a_se, aI E 100 se), (a_L, .inr (2, [.ref a_pc, .ref a_tn, .int (iI n)])), (a_pc, aI E 25 pc)] (.int (iI (if ¬ (0 ≤ p ∧ p < W * h) then -1 else if 0 < tmI n pc p then -3 else knI W h n pc p 4))) := by
  refine g_start (cc := cX5_known) (maxL := 4) (ret := (some .int)) (by decide) rfl (Nat.le_of_ble_eq_true rfl) ?_
  intro p_ e_ s_ m_ args_ below_ meth_ c_ A_ C hr hnm
  have hn := nsd_b hB
  refine g_aload_n 1 C 0 dX5_known_0 rfl rfl ?_
  refine g_get 4 C 0 0 5 iX5_known_X5 lX5_known_12 dX5_known_1 rfl rfl rfl (by decide) rfl ?_
  refine g_iload_n 5 C 1 dX5_known_4 rfl rfl ?_
  refine g_callVF 8 C [1] dX5_known_5 rfl (k_X1_hasPiece E l  (by first | assumption | omega) (by first | assumption | omega)) (cwV 1 C.2.2.2.2.1 gX5_known_X1_hasPiece rfl rfl rfl cdX1_hasPiece ⟨Nat.le_of_ble_eq_true rfl, Nat.le_of_ble_eq_true rfl⟩) rfl rfl rfl rfl (Nat.le_of_ble_eq_true rfl) 1 1 rfl rfl rfl ⟨Nat.le_of_ble_eq_true rfl, Nat.le_of_ble_eq_true rfl⟩ ?_
  refine g_ifb_ne 13 11 C dX5_known_8 (by decide) rfl ?_ ?_
  · intro h8
    refine g_aload_n 14 C 0 dX5_known_13 rfl rfl ?_
    refine g_get 17 C 0 1 5 iX5_known_X5 lX5_known_21 dX5_known_14 rfl rfl rfl (by decide) rfl ?_
    refine g_iload_n 18 C 1 dX5_known_17 rfl rfl ?_
    have e0 := cnI_b (fun j => pc j = p) (i := n) (by omega)
    have e1 : tmI n pc p = cnI (fun j => pc j = p) n := rfl
    refine g_callVF 21 C [3, 4] dX5_known_18 rfl (k_X2_timesOf E l  (by first | assumption | omega) (by first | assumption | omega) (by first | assumption | omega)) (cwV 1 C.2.2.2.2.1 gX5_known_X2_timesOf rfl rfl rfl cdX2_timesOf ⟨Nat.le_of_ble_eq_true rfl, Nat.le_of_ble_eq_true rfl⟩) rfl rfl rfl rfl (Nat.le_of_ble_eq_true rfl) 3 2 rfl rfl rfl ⟨Nat.le_of_ble_eq_true rfl, Nat.le_of_ble_eq_true rfl⟩ ?_
    refine g_if_le 27 24 C dX5_known_21 (by decide) rfl (by omega) ?_ ?_
    · intro h21
      refine g_iconst 28 C dX5_known_27 rfl ?_
      refine g_istore_n (lv' := [(2, _), (0, _), (1, _)]) 29 C dX5_known_28 rfl rfl (by decide) rfl ?_
      refine g_iconst 30 C dX5_known_29 rfl ?_
      refine g_istore_n (lv' := [(3, _), (2, _), (0, _), (1, _)]) 31 C dX5_known_30 rfl rfl (by decide) rfl ?_
      refine g_loop (α := Int × Int) (fun zz => [(a_X, .inr (5, [.ref a_P, .ref a_L, .ref a_R, .ref a_D, .ref a_Q, .int (iI tr), .int (iI ft)])), (a_P, .inr (1, [.ref a_hs, .ref a_se, .int (iI W), .int (iI h)])), (a_se, aI E 100 se), (a_L, .inr (2, [.ref a_pc, .ref a_tn, .int (iI n)])), (a_pc, aI E 25 pc)]) (fun zz => [(3, .int (iI zz.2)), (2, .int (iI zz.1)), (1, .int (iI p)), (0, .ref a_X)]) (fun zz => (0 ≤ zz.2 ∧ zz.2 ≤ 4) ∧ zz.1 = knI W h n pc p zz.2) (fun zz => (4 - zz.2).toNat) (0, 0) (by
            try dsimp only
            exact ⟨by omega, rfl⟩) [0, 1, 3, 2] rfl rfl ?_
      rintro ⟨c, k⟩ hI ih31
      try dsimp only at hI ih31 ⊢
      obtain ⟨hk, rfl⟩ := hI
      refine g_iload_n 32 C 0 dX5_known_31 rfl rfl ?_
      refine g_iconst 33 C dX5_known_32 rfl ?_
      refine g_icmp_ge 76 36 C dX5_known_33 (by decide) rfl (by omega) ?_ ?_
      · intro h33
        refine g_iload_n 77 C 1 dX5_known_76 rfl rfl ?_
        exact g_iret C hr dX5_known_77 ⟨g_ri (((if_neg (by omega)).trans ((if_neg (by omega)).trans (by rw [show (4 : Int) = k by omega]))).symm), rfl⟩
      · intro h33
        refine g_aload_n 37 C 3 dX5_known_36 rfl rfl ?_
        refine g_get 40 C 0 0 5 iX5_known_X5 lX5_known_12 dX5_known_37 rfl rfl rfl (by decide) rfl ?_
        refine g_iload_n 41 C 2 dX5_known_40 rfl rfl ?_
        refine g_iload_n 42 C 0 dX5_known_41 rfl rfl ?_
        refine g_callVF 45 C [1, 2] dX5_known_42 rfl (k_X1_isFlat E l  (by first | assumption | omega) (by first | assumption | omega) (by first | assumption | omega) (by first | assumption | omega)) (cwV 2 C.2.2.2.2.1 gX5_known_X1_isFlat rfl rfl rfl cdX1_isFlat ⟨Nat.le_of_ble_eq_true rfl, Nat.le_of_ble_eq_true rfl⟩) rfl rfl rfl rfl (Nat.le_of_ble_eq_true rfl) 1 1 rfl rfl rfl ⟨Nat.le_of_ble_eq_true rfl, Nat.le_of_ble_eq_true rfl⟩ ?_
        refine g_ifb_ne 70 48 C dX5_known_45 (by decide) rfl ?_ ?_
        · intro h45
          refine g_iinc (lv' := [(3, _), (2, _), (1, _), (0, _)]) 73 C 0 dX5_known_70 rfl rfl (by decide) rfl ?_
          refine g_goto 31 C dX5_known_73 (by decide) ?_
          first
          | exact g_w [0, 1, 2, 3] rfl rfl (ih31 ((knI W h n pc p k + 5), (k + 1)) (by
            try dsimp only
            exact ⟨by omega, by first | (rw [knI_s W h n pc p hk.1, cI_t (by omega)]) | (rw [knI_s W h n pc p hk.1, cI_f (by omega), Int.add_zero])⟩) (by (try dsimp only); omega))
          | exact g_w [0, 1, 2, 3] rfl rfl (ih31 ((knI W h n pc p k), (k + 1)) (by
            try dsimp only
            exact ⟨by omega, by first | (rw [knI_s W h n pc p hk.1, cI_t (by omega)]) | (rw [knI_s W h n pc p hk.1, cI_f (by omega), Int.add_zero])⟩) (by (try dsimp only); omega))
        · intro h45
          refine g_aload_n 49 C 3 dX5_known_48 rfl rfl ?_
          refine g_get 52 C 0 1 5 iX5_known_X5 lX5_known_21 dX5_known_49 rfl rfl rfl (by decide) rfl ?_
          refine g_aload_n 53 C 3 dX5_known_52 rfl rfl ?_
          refine g_get 56 C 0 0 5 iX5_known_X5 lX5_known_12 dX5_known_53 rfl rfl rfl (by decide) rfl ?_
          refine g_iload_n 57 C 2 dX5_known_56 rfl rfl ?_
          refine g_iload_n 58 C 0 dX5_known_57 rfl rfl ?_
          have e2 := nxI_b (p := p) (e := k) (And.intro hB.1 hB.2.1)
          have e3 := cnI_b (fun j => pc j = nxI W p k) (i := n) (by omega)
          have e4 : tmI n pc (nxI W p k) = cnI (fun j => pc j = nxI W p k) n := rfl
          refine g_callVF 61 C [1] dX5_known_58 rfl (k_X1_nextTo E l  (by first | assumption | omega)) (cwV 2 C.2.2.2.2.1 gX5_known_X1_nextTo rfl rfl rfl cdX1_nextTo ⟨Nat.le_of_ble_eq_true rfl, Nat.le_of_ble_eq_true rfl⟩) rfl rfl rfl rfl (Nat.le_of_ble_eq_true rfl) 1 1 rfl rfl rfl ⟨Nat.le_of_ble_eq_true rfl, Nat.le_of_ble_eq_true rfl⟩ ?_
          refine g_callVF 64 C [3, 4] dX5_known_61 rfl (k_X2_timesOf E l  (by first | assumption | omega) (by first | assumption | omega) (by first | assumption | omega)) (cwV 1 C.2.2.2.2.1 gX5_known_X2_timesOf rfl rfl rfl cdX2_timesOf ⟨Nat.le_of_ble_eq_true rfl, Nat.le_of_ble_eq_true rfl⟩) rfl rfl rfl rfl (Nat.le_of_ble_eq_true rfl) 3 2 rfl rfl rfl ⟨Nat.le_of_ble_eq_true rfl, Nat.le_of_ble_eq_true rfl⟩ ?_
          refine g_if_le 70 67 C dX5_known_64 (by decide) rfl (by omega) ?_ ?_
          · intro h64
            refine g_iinc (lv' := [(3, _), (2, _), (1, _), (0, _)]) 73 C 0 dX5_known_70 rfl rfl (by decide) rfl ?_
            refine g_goto 31 C dX5_known_73 (by decide) ?_
            first
            | exact g_w [0, 1, 2, 3] rfl rfl (ih31 ((knI W h n pc p k + 5), (k + 1)) (by
            try dsimp only
            exact ⟨by omega, by first | (rw [knI_s W h n pc p hk.1, cI_t (by omega)]) | (rw [knI_s W h n pc p hk.1, cI_f (by omega), Int.add_zero])⟩) (by (try dsimp only); omega))
            | exact g_w [0, 1, 2, 3] rfl rfl (ih31 ((knI W h n pc p k), (k + 1)) (by
            try dsimp only
            exact ⟨by omega, by first | (rw [knI_s W h n pc p hk.1, cI_t (by omega)]) | (rw [knI_s W h n pc p hk.1, cI_f (by omega), Int.add_zero])⟩) (by (try dsimp only); omega))
          · intro h64
            refine g_iinc (lv' := [(2, _), (3, _), (1, _), (0, _)]) 70 C 1 dX5_known_67 rfl rfl (by decide) rfl ?_
            refine g_iinc (lv' := [(3, _), (2, _), (1, _), (0, _)]) 73 C 1 dX5_known_70 rfl rfl (by decide) rfl ?_
            refine g_goto 31 C dX5_known_73 (by decide) ?_
            first
            | exact g_w [0, 1, 2, 3] rfl rfl (ih31 ((knI W h n pc p k + 5), (k + 1)) (by
            try dsimp only
            exact ⟨by omega, by first | (rw [knI_s W h n pc p hk.1, cI_t (by omega)]) | (rw [knI_s W h n pc p hk.1, cI_f (by omega), Int.add_zero])⟩) (by (try dsimp only); omega))
            | exact g_w [0, 1, 2, 3] rfl rfl (ih31 ((knI W h n pc p k), (k + 1)) (by
            try dsimp only
            exact ⟨by omega, by first | (rw [knI_s W h n pc p hk.1, cI_t (by omega)]) | (rw [knI_s W h n pc p hk.1, cI_f (by omega), Int.add_zero])⟩) (by (try dsimp only); omega))
    · intro h21
      refine g_bipush 26 C dX5_known_24 rfl (by decide) ?_
      exact g_iret C hr dX5_known_26 ⟨g_ri (((if_neg (by omega)).trans (if_pos (by omega))).symm), rfl⟩
  · intro h8
    refine g_iconst 12 C dX5_known_11 rfl ?_
    exact g_iret C hr dX5_known_12 ⟨g_ri ((if_pos (by omega)).symm), rfl⟩
