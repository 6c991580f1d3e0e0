theorem cdX4_renew : yX4_renew.cls = RX4 ∧ yX4_renew.cls ≠ "java/lang/invoke/MethodHandle" ∧ yX4_renew.cls ≠ "java/lang/invoke/VarHandle" ∧ (parseMethodDescriptor yX4_renew.desc).map (fun d => d.parameters.length) = some 2 := by decide +kernel
theorem cdX5_isLane : yX5_isLane.cls ≠ "java/lang/invoke/MethodHandle" ∧ yX5_isLane.cls ≠ "java/lang/invoke/VarHandle" ∧ (parseMethodDescriptor yX5_isLane.desc).map (fun d => d.parameters.length) = some 1 := by decide +kernel
theorem cdX5_isSheet : yX5_isSheet.cls ≠ "java/lang/invoke/MethodHandle" ∧ yX5_isSheet.cls ≠ "java/lang/invoke/VarHandle" ∧ (parseMethodDescriptor yX5_isSheet.desc).map (fun d => d.parameters.length) = some 1 := by decide +kernel
theorem lX5_sheet_43 : Cond.fieldLink RX5 43 (TX5 4).1 (TX5 4).2.1 (TX5 4).2.2.1 ∈ wsX5_sheet := by decide +kernel
theorem lX5_sheet_90 : Cond.fieldLink RX5 90 (TX5 6).1 (TX5 6).2.1 (TX5 6).2.2.1 ∈ wsX5_sheet := by decide +kernel
theorem iX5_sheet_X5 : ∀ w ∈ u_ws RX5 TX5 7, w ∈ wsX5_sheet := by decide +kernel
set_option maxHeartbeats 4000000 in
set_option maxRecDepth 100000 in
theorem k_X5_sheet (E : gE) (l : Launch) {a_D a_L a_P a_Q a_R a_S a_X a_ce : Nat} {k t n th ln sz : Int} {ce : Int → Int} {sf : Int → Option Nat} {tr ft : Int} (hsf : 0 ≤ k ∧ k < 4 → sf k = some a_S) (hk : -2147483648 ≤ k ∧ k < 2147483648) (ht : -2147483648 ≤ t ∧ t < 2147483648) (hn : -2147483648 ≤ n ∧ n < 2147483648) : gUpd E l yX5_sheet wsX5_sheet { frames := 2, cells := 0, slots := 0, locals := 53 } [.ref a_X, .int (iI k), .int (iI t), .int (iI n)] [(a_X, .inr (5, [.ref a_P, .ref a_L, .ref a_R, .ref a_D, .ref a_Q, .int (iI tr), .int (iI ft)])), (a_Q, aQ E 4 sf), (a_S, .inr (4, [.ref a_ce, .int (iI th), .int (iI ln), .int (iI sz)])), (a_ce, aI E 50 ce)] (some (.int (iI (if ¬ (0 ≤ k ∧ k < 4) then -1 else if ¬ ((0 ≤ t ∧ t < 3) ∧ n ≤ 50) then -2 else if n < 0 then -14 else 1)))) [(a_X, .inr (5, [.ref a_P, .ref a_L, .ref a_R, .ref a_D, .ref a_Q, .int (iI tr), .int (iI (if (0 ≤ k ∧ k < 4) ∧ (0 ≤ t ∧ t < 3) ∧ n < 0 then 4 else 0))])), (a_Q, aQ E 4 sf), (a_S, .inr (4, [.ref a_ce, .int (iI (if (0 ≤ k ∧ k < 4) ∧ (0 ≤ t ∧ t < 3) ∧ 0 ≤ n ∧ n ≤ 50 then 1 else th)), .int (iI (if (0 ≤ k ∧ k < 4) ∧ (0 ≤ t ∧ t < 3) ∧ 0 ≤ n ∧ n ≤ 50 then t else ln)), .int (iI (if (0 ≤ k ∧ k < 4) ∧ (0 ≤ t ∧ t < 3) ∧ 0 ≤ n ∧ n ≤ 50 then n else sz))])), (a_ce, aI E 50 (if (0 ≤ k ∧ k < 4) ∧ (0 ≤ t ∧ t < 3) ∧ 0 ≤ n ∧ n ≤ 50 then zrI ce 50 else ce))] := by
  refine g_start (cc := cX5_sheet) (maxL := 4) (ret := (some .int)) (by decide) rfl (Nat.le_of_ble_eq_true rfl) ?_
  intro p_ e_ s_ m_ args_ below_ meth_ c_ A_ C hr hnm
  refine g_aload_n 1 C 0 dX5_sheet_0 rfl rfl ?_
  refine g_iconst 2 C dX5_sheet_1 rfl ?_
  refine g_put (ws' := [(_, .inr (5, [_, _, _, _, _, _, _])), (_, aQ _ _ _), (_, .inr (4, [_, _, _, _])), (_, aI _ _ _)]) 5 C 0 6 5 tyX5 tyX5_ok nmX5 iX5_sheet_X5 lX5_sheet_90 dX5_sheet_2 rfl rfl rfl (by decide) rfl rfl rfl (Nat.le_of_ble_eq_true rfl) rfl ?_
  refine g_iload_n 6 C 1 dX5_sheet_5 rfl rfl ?_
  refine g_callSF 9 C [] dX5_sheet_6 rfl (k_X5_isSheet E l  (by first | assumption | omega)) (va_cwS 1 C.2.2.2.2.1 gX5_sheet_X5_isSheet rfl rfl rfl cdX5_isSheet ⟨Nat.le_of_ble_eq_true rfl, Nat.le_of_ble_eq_true rfl⟩) rfl rfl rfl rfl (Nat.le_of_ble_eq_true rfl) ⟨Nat.le_of_ble_eq_true rfl, Nat.le_of_ble_eq_true rfl⟩ ?_
  refine g_ifb_ne 14 12 C dX5_sheet_9 (by decide) rfl ?_ ?_
  · intro h9
    refine g_iload_n 15 C 2 dX5_sheet_14 rfl rfl ?_
    refine g_callSF 18 C [] dX5_sheet_15 rfl (k_X5_isLane E l  (by first | assumption | omega)) (va_cwS 1 C.2.2.2.2.1 gX5_sheet_X5_isLane rfl rfl rfl cdX5_isLane ⟨Nat.le_of_ble_eq_true rfl, Nat.le_of_ble_eq_true rfl⟩) rfl rfl rfl rfl (Nat.le_of_ble_eq_true rfl) ⟨Nat.le_of_ble_eq_true rfl, Nat.le_of_ble_eq_true rfl⟩ ?_
    refine g_ifb_eq 27 21 C dX5_sheet_18 (by decide) rfl ?_ ?_
    · intro h18
      refine g_bipush 29 C dX5_sheet_27 rfl (by decide) ?_
      exact g_iret C hr dX5_sheet_29 ⟨g_ri (by (repeat' split) <;> first | rfl | omega), by first | (have hg : (0 ≤ k ∧ k < 4) ∧ (0 ≤ t ∧ t < 3) ∧ 0 ≤ n ∧ n ≤ 50 := (by omega); have hg2 : ¬ ((0 ≤ k ∧ k < 4) ∧ (0 ≤ t ∧ t < 3) ∧ n < 0) := (by omega); simp only [if_pos hg, if_neg hg2]) | (have hg : ¬ ((0 ≤ k ∧ k < 4) ∧ (0 ≤ t ∧ t < 3) ∧ 0 ≤ n ∧ n ≤ 50) := (by omega); have hg2 : ¬ ((0 ≤ k ∧ k < 4) ∧ (0 ≤ t ∧ t < 3) ∧ n < 0) := (by omega); simp only [if_neg hg, if_neg hg2]) | (have hg : ¬ ((0 ≤ k ∧ k < 4) ∧ (0 ≤ t ∧ t < 3) ∧ 0 ≤ n ∧ n ≤ 50) := (by omega); have hg2 : ((0 ≤ k ∧ k < 4) ∧ (0 ≤ t ∧ t < 3) ∧ n < 0) := (by omega); simp only [if_neg hg, if_pos hg2] <;> rfl)⟩
    · intro h18
      refine g_iload_n 22 C 3 dX5_sheet_21 rfl rfl ?_
      refine g_bipush 24 C dX5_sheet_22 rfl (by decide) ?_
      refine g_icmp_le 30 27 C dX5_sheet_24 (by decide) rfl (by omega) ?_ ?_
      · intro h24
        refine g_iload_n 31 C 3 dX5_sheet_30 rfl rfl ?_
        refine g_if_ge 40 34 C dX5_sheet_31 (by decide) rfl (by omega) ?_ ?_
        · intro h31
          refine g_aload_n 41 C 0 dX5_sheet_40 rfl rfl ?_
          refine g_get 44 C 0 4 5 iX5_sheet_X5 lX5_sheet_43 dX5_sheet_41 rfl rfl rfl (by decide) rfl ?_
          refine g_iload_n 45 C 1 dX5_sheet_44 rfl rfl ?_
          refine g_aaload 46 C 1 dX5_sheet_45 rfl rfl (by omega) (hsf (by omega)) ?_
          refine g_iload_n 47 C 2 dX5_sheet_46 rfl rfl ?_
          refine g_iload_n 48 C 3 dX5_sheet_47 rfl rfl ?_
          refine g_callVU (ws' := [(_, .inr (5, [_, _, _, _, _, _, _])), (_, aQ _ _ _), (_, .inr (4, [_, _, _, _])), (_, aI _ _ _)]) 51 C [2, 3] dX5_sheet_48 rfl (k_X4_renew E l  (by first | assumption | omega)) (cwV 2 C.2.2.2.2.1 gX5_sheet_X4_renew rfl rfl rfl cdX4_renew ⟨Nat.le_of_ble_eq_true rfl, Nat.le_of_ble_eq_true rfl⟩) rfl rfl rfl rfl (Nat.le_of_ble_eq_true rfl) 2 4 rfl rfl rfl ⟨Nat.le_of_ble_eq_true rfl, Nat.le_of_ble_eq_true rfl⟩ rfl rfl ?_
          refine g_iconst 52 C dX5_sheet_51 rfl ?_
          exact g_iret C hr dX5_sheet_52 ⟨g_ri (by (repeat' split) <;> first | rfl | omega), by first | (have hg : (0 ≤ k ∧ k < 4) ∧ (0 ≤ t ∧ t < 3) ∧ 0 ≤ n ∧ n ≤ 50 := (by omega); have hg2 : ¬ ((0 ≤ k ∧ k < 4) ∧ (0 ≤ t ∧ t < 3) ∧ n < 0) := (by omega); simp only [if_pos hg, if_neg hg2]) | (have hg : ¬ ((0 ≤ k ∧ k < 4) ∧ (0 ≤ t ∧ t < 3) ∧ 0 ≤ n ∧ n ≤ 50) := (by omega); have hg2 : ¬ ((0 ≤ k ∧ k < 4) ∧ (0 ≤ t ∧ t < 3) ∧ n < 0) := (by omega); simp only [if_neg hg, if_neg hg2]) | (have hg : ¬ ((0 ≤ k ∧ k < 4) ∧ (0 ≤ t ∧ t < 3) ∧ 0 ≤ n ∧ n ≤ 50) := (by omega); have hg2 : ((0 ≤ k ∧ k < 4) ∧ (0 ≤ t ∧ t < 3) ∧ n < 0) := (by omega); simp only [if_neg hg, if_pos hg2] <;> rfl)⟩
        · intro h31
          refine g_aload_n 35 C 0 dX5_sheet_34 rfl rfl ?_
          refine g_iconst 36 C dX5_sheet_35 rfl ?_
          refine g_callVU (ws' := [(_, .inr (5, [_, _, _, _, _, _, _])), (_, aQ _ _ _), (_, .inr (4, [_, _, _, _])), (_, aI _ _ _)]) 39 C [0] dX5_sheet_36 rfl (k_X5_come E l  ) (cwV 1 C.2.2.2.2.1 gX5_sheet_X5_come rfl rfl rfl cdX5_come ⟨Nat.le_of_ble_eq_true rfl, Nat.le_of_ble_eq_true rfl⟩) rfl rfl rfl rfl (Nat.le_of_ble_eq_true rfl) 0 5 rfl rfl rfl ⟨Nat.le_of_ble_eq_true rfl, Nat.le_of_ble_eq_true rfl⟩ rfl rfl ?_
          exact g_iret C hr dX5_sheet_39 ⟨g_ri (by (repeat' split) <;> first | rfl | omega), by first | (have hg : (0 ≤ k ∧ k < 4) ∧ (0 ≤ t ∧ t < 3) ∧ 0 ≤ n ∧ n ≤ 50 := (by omega); have hg2 : ¬ ((0 ≤ k ∧ k < 4) ∧ (0 ≤ t ∧ t < 3) ∧ n < 0) := (by omega); simp only [if_pos hg, if_neg hg2]) | (have hg : ¬ ((0 ≤ k ∧ k < 4) ∧ (0 ≤ t ∧ t < 3) ∧ 0 ≤ n ∧ n ≤ 50) := (by omega); have hg2 : ¬ ((0 ≤ k ∧ k < 4) ∧ (0 ≤ t ∧ t < 3) ∧ n < 0) := (by omega); simp only [if_neg hg, if_neg hg2]) | (have hg : ¬ ((0 ≤ k ∧ k < 4) ∧ (0 ≤ t ∧ t < 3) ∧ 0 ≤ n ∧ n ≤ 50) := (by omega); have hg2 : ((0 ≤ k ∧ k < 4) ∧ (0 ≤ t ∧ t < 3) ∧ n < 0) := (by omega); simp only [if_neg hg, if_pos hg2] <;> rfl)⟩
      · intro h24
        refine g_bipush 29 C dX5_sheet_27 rfl (by decide) ?_
        exact g_iret C hr dX5_sheet_29 ⟨g_ri (by (repeat' split) <;> first | rfl | omega), by first | (have hg : (0 ≤ k ∧ k < 4) ∧ (0 ≤ t ∧ t < 3) ∧ 0 ≤ n ∧ n ≤ 50 := (by omega); have hg2 : ¬ ((0 ≤ k ∧ k < 4) ∧ (0 ≤ t ∧ t < 3) ∧ n < 0) := (by omega); simp only [if_pos hg, if_neg hg2]) | (have hg : ¬ ((0 ≤ k ∧ k < 4) ∧ (0 ≤ t ∧ t < 3) ∧ 0 ≤ n ∧ n ≤ 50) := (by omega); have hg2 : ¬ ((0 ≤ k ∧ k < 4) ∧ (0 ≤ t ∧ t < 3) ∧ n < 0) := (by omega); simp only [if_neg hg, if_neg hg2]) | (have hg : ¬ ((0 ≤ k ∧ k < 4) ∧ (0 ≤ t ∧ t < 3) ∧ 0 ≤ n ∧ n ≤ 50) := (by omega); have hg2 : ((0 ≤ k ∧ k < 4) ∧ (0 ≤ t ∧ t < 3) ∧ n < 0) := (by omega); simp only [if_neg hg, if_pos hg2] <;> rfl)⟩
  · intro h9
    refine g_iconst 13 C dX5_sheet_12 rfl ?_
    exact g_iret C hr dX5_sheet_13 ⟨g_ri (by (repeat' split) <;> first | rfl | omega), by first | (have hg : (0 ≤ k ∧ k < 4) ∧ (0 ≤ t ∧ t < 3) ∧ 0 ≤ n ∧ n ≤ 50 := (by omega); have hg2 : ¬ ((0 ≤ k ∧ k < 4) ∧ (0 ≤ t ∧ t < 3) ∧ n < 0) := (by omega); simp only [if_pos hg, if_neg hg2]) | (have hg : ¬ ((0 ≤ k ∧ k < 4) ∧ (0 ≤ t ∧ t < 3) ∧ 0 ≤ n ∧ n ≤ 50) := (by omega); have hg2 : ¬ ((0 ≤ k ∧ k < 4) ∧ (0 ≤ t ∧ t < 3) ∧ n < 0) := (by omega); simp only [if_neg hg, if_neg hg2]) | (have hg : ¬ ((0 ≤ k ∧ k < 4) ∧ (0 ≤ t ∧ t < 3) ∧ 0 ≤ n ∧ n ≤ 50) := (by omega); have hg2 : ((0 ≤ k ∧ k < 4) ∧ (0 ≤ t ∧ t < 3) ∧ n < 0) := (by omega); simp only [if_neg hg, if_pos hg2] <;> rfl)⟩
theorem cdX4_drop : yX4_drop.cls = RX4 ∧ yX4_drop.cls ≠ "java/lang/invoke/MethodHandle" ∧ yX4_drop.cls ≠ "java/lang/invoke/VarHandle" ∧ (parseMethodDescriptor yX4_drop.desc).map (fun d => d.parameters.length) = some 0 := by decide +kernel
theorem cdX4_isThere : yX4_isThere.cls = RX4 ∧ yX4_isThere.cls ≠ "java/lang/invoke/MethodHandle" ∧ yX4_isThere.cls ≠ "java/lang/invoke/VarHandle" ∧ (parseMethodDescriptor yX4_isThere.desc).map (fun d => d.parameters.length) = some 0 := by decide +kernel
theorem lX5_lose_43 : Cond.fieldLink RX5 43 (TX5 4).1 (TX5 4).2.1 (TX5 4).2.2.1 ∈ wsX5_lose := by decide +kernel
theorem iX5_lose_X5 : ∀ w ∈ u_ws RX5 TX5 7, w ∈ wsX5_lose := by decide +kernel
set_option maxHeartbeats 4000000 in
set_option maxRecDepth 100000 in
theorem k_X5_lose (E : gE) (l : Launch) {a_D a_L a_P a_Q a_R a_S a_X a_ce : Nat} {k th ln sz : Int} {sf : Int → Option Nat} {tr ft : Int} (hsf : 0 ≤ k ∧ k < 4 → sf k = some a_S) (hth : th = 0 ∨ th = 1) (hk : -2147483648 ≤ k ∧ k < 2147483648) : gUpd E l yX5_lose wsX5_lose { frames := 1, cells := 0, slots := 0, locals := 20 } [.ref a_X, .int (iI k)] [(a_X, .inr (5, [.ref a_P, .ref a_L, .ref a_R, .ref a_D, .ref a_Q, .int (iI tr), .int (iI ft)])), (a_Q, aQ E 4 sf), (a_S, .inr (4, [.ref a_ce, .int (iI th), .int (iI ln), .int (iI sz)]))] (some (.int (iI (if 0 ≤ k ∧ k < 4 then th else -1)))) [(a_X, .inr (5, [.ref a_P, .ref a_L, .ref a_R, .ref a_D, .ref a_Q, .int (iI tr), .int (iI ft)])), (a_Q, aQ E 4 sf), (a_S, .inr (4, [.ref a_ce, .int (iI (if 0 ≤ k ∧ k < 4 then 0 else th)), .int (iI ln), .int (iI (if 0 ≤ k ∧ k < 4 then 0 else sz))]))] := by
  refine g_start (cc := cX5_lose) (maxL := 3) (ret := (some .int)) (by decide) rfl (Nat.le_of_ble_eq_true rfl) ?_
  intro p_ e_ s_ m_ args_ below_ meth_ c_ A_ C hr hnm
  refine g_iload_n 1 C 1 dX5_lose_0 rfl rfl ?_
  refine g_callSF 4 C [] dX5_lose_1 rfl (k_X5_isSheet E l  (by first | assumption | omega)) (va_cwS 1 C.2.2.2.2.1 gX5_lose_X5_isSheet rfl rfl rfl cdX5_isSheet ⟨Nat.le_of_ble_eq_true rfl, Nat.le_of_ble_eq_true rfl⟩) rfl rfl rfl rfl (Nat.le_of_ble_eq_true rfl) ⟨Nat.le_of_ble_eq_true rfl, Nat.le_of_ble_eq_true rfl⟩ ?_
  refine g_ifb_ne 9 7 C dX5_lose_4 (by decide) rfl ?_ ?_
  · intro h4
    refine g_aload_n 10 C 0 dX5_lose_9 rfl rfl ?_
    refine g_get 13 C 0 4 5 iX5_lose_X5 lX5_lose_43 dX5_lose_10 rfl rfl rfl (by decide) rfl ?_
    refine g_iload_n 14 C 1 dX5_lose_13 rfl rfl ?_
    refine g_aaload 15 C 1 dX5_lose_14 rfl rfl (by omega) (hsf (by omega)) ?_
    refine g_callVF 18 C [2] dX5_lose_15 rfl (k_X4_isThere E l  (by first | assumption | omega)) (cwV 0 C.2.2.2.2.1 gX5_lose_X4_isThere rfl rfl rfl cdX4_isThere ⟨Nat.le_of_ble_eq_true rfl, Nat.le_of_ble_eq_true rfl⟩) rfl rfl rfl rfl (Nat.le_of_ble_eq_true rfl) 2 4 rfl rfl rfl ⟨Nat.le_of_ble_eq_true rfl, Nat.le_of_ble_eq_true rfl⟩ ?_
    refine g_if_eq 25 21 C dX5_lose_18 (by decide) rfl (by omega) ?_ ?_
    · intro h18
      refine g_iconst 26 C dX5_lose_25 rfl ?_
      refine g_istore_n (lv' := [(2, _), (0, _), (1, _)]) 27 C dX5_lose_26 rfl rfl (by decide) rfl ?_
      refine g_aload_n 28 C 1 dX5_lose_27 rfl rfl ?_
      refine g_get 31 C 0 4 5 iX5_lose_X5 lX5_lose_43 dX5_lose_28 rfl rfl rfl (by decide) rfl ?_
      refine g_iload_n 32 C 2 dX5_lose_31 rfl rfl ?_
      refine g_aaload 33 C 1 dX5_lose_32 rfl rfl (by omega) (hsf (by omega)) ?_
      refine g_callVU (ws' := [(_, .inr (5, [_, _, _, _, _, _, _])), (_, aQ _ _ _), (_, .inr (4, [_, _, _, _]))]) 36 C [2] dX5_lose_33 rfl (k_X4_drop E l  ) (cwV 0 C.2.2.2.2.1 gX5_lose_X4_drop rfl rfl rfl cdX4_drop ⟨Nat.le_of_ble_eq_true rfl, Nat.le_of_ble_eq_true rfl⟩) rfl rfl rfl rfl (Nat.le_of_ble_eq_true rfl) 2 4 rfl rfl rfl ⟨Nat.le_of_ble_eq_true rfl, Nat.le_of_ble_eq_true rfl⟩ rfl rfl ?_
      refine g_iload_n 37 C 0 dX5_lose_36 rfl rfl ?_
      exact g_iret C hr dX5_lose_37 ⟨g_ri (by (repeat' split) <;> first | rfl | omega), by first | rfl | (have hg : 0 ≤ k ∧ k < 4 := (by omega); simp only [if_pos hg]) | (have hg : ¬ (0 ≤ k ∧ k < 4) := (by omega); simp only [if_neg hg])⟩
    · intro h18
      refine g_iconst 22 C dX5_lose_21 rfl ?_
      refine g_goto 26 C dX5_lose_22 (by decide) ?_
      refine g_istore_n (lv' := [(2, _), (0, _), (1, _)]) 27 C dX5_lose_26 rfl rfl (by decide) rfl ?_
      refine g_aload_n 28 C 1 dX5_lose_27 rfl rfl ?_
      refine g_get 31 C 0 4 5 iX5_lose_X5 lX5_lose_43 dX5_lose_28 rfl rfl rfl (by decide) rfl ?_
      refine g_iload_n 32 C 2 dX5_lose_31 rfl rfl ?_
      refine g_aaload 33 C 1 dX5_lose_32 rfl rfl (by omega) (hsf (by omega)) ?_
      refine g_callVU (ws' := [(_, .inr (5, [_, _, _, _, _, _, _])), (_, aQ _ _ _), (_, .inr (4, [_, _, _, _]))]) 36 C [2] dX5_lose_33 rfl (k_X4_drop E l  ) (cwV 0 C.2.2.2.2.1 gX5_lose_X4_drop rfl rfl rfl cdX4_drop ⟨Nat.le_of_ble_eq_true rfl, Nat.le_of_ble_eq_true rfl⟩) rfl rfl rfl rfl (Nat.le_of_ble_eq_true rfl) 2 4 rfl rfl rfl ⟨Nat.le_of_ble_eq_true rfl, Nat.le_of_ble_eq_true rfl⟩ rfl rfl ?_
      refine g_iload_n 37 C 0 dX5_lose_36 rfl rfl ?_
      exact g_iret C hr dX5_lose_37 ⟨g_ri (by (repeat' split) <;> first | rfl | omega), by first | rfl | (have hg : 0 ≤ k ∧ k < 4 := (by omega); simp only [if_pos hg]) | (have hg : ¬ (0 ≤ k ∧ k < 4) := (by omega); simp only [if_neg hg])⟩
  · intro h4
    refine g_iconst 8 C dX5_lose_7 rfl ?_
    exact g_iret C hr dX5_lose_8 ⟨g_ri (by (repeat' split) <;> first | rfl | omega), by first | rfl | (have hg : 0 ≤ k ∧ k < 4 := (by omega); simp only [if_pos hg]) | (have hg : ¬ (0 ≤ k ∧ k < 4) := (by omega); simp only [if_neg hg])⟩
theorem cdX4_write : yX4_write.cls = RX4 ∧ yX4_write.cls ≠ "java/lang/invoke/MethodHandle" ∧ yX4_write.cls ≠ "java/lang/invoke/VarHandle" ∧ (parseMethodDescriptor yX4_write.desc).map (fun d => d.parameters.length) = some 2 := by decide +kernel
theorem lX5_put_43 : Cond.fieldLink RX5 43 (TX5 4).1 (TX5 4).2.1 (TX5 4).2.2.1 ∈ wsX5_put := by decide +kernel
theorem lX5_put_90 : Cond.fieldLink RX5 90 (TX5 6).1 (TX5 6).2.1 (TX5 6).2.2.1 ∈ wsX5_put := by decide +kernel
theorem iX5_put_X5 : ∀ w ∈ u_ws RX5 TX5 7, w ∈ wsX5_put := by decide +kernel
set_option maxHeartbeats 4000000 in
set_option maxRecDepth 100000 in
theorem k_X5_put (E : gE) (l : Launch) {a_D a_L a_P a_Q a_R a_S a_X a_ce : Nat} {k i v th ln sz : Int} {ce : Int → Int} {sf : Int → Option Nat} {tr ft : Int} (hsf : 0 ≤ k ∧ k < 4 → sf k = some a_S) (hth : th = 0 ∨ th = 1) (hsz : 0 ≤ sz ∧ sz ≤ 50) (hln : 0 ≤ ln ∧ ln ≤ 2) (hk : -2147483648 ≤ k ∧ k < 2147483648) (hi : -2147483648 ≤ i ∧ i < 2147483648) (hv : -2147483648 ≤ v ∧ v < 2147483648) : gUpd E l yX5_put wsX5_put { frames := 2, cells := 0, slots := 0, locals := 45 } [.ref a_X, .int (iI k), .int (iI i), .int (iI v)] [(a_X, .inr (5, [.ref a_P, .ref a_L, .ref a_R, .ref a_D, .ref a_Q, .int (iI tr), .int (iI ft)])), (a_Q, aQ E 4 sf), (a_S, .inr (4, [.ref a_ce, .int (iI th), .int (iI ln), .int (iI sz)])), (a_ce, aI E 50 ce)] (some (.int (iI (if ¬ (0 ≤ k ∧ k < 4) then -1 else if th = 0 then -11 else if ¬ (0 ≤ i ∧ i < sz) then -13 else 1)))) [(a_X, .inr (5, [.ref a_P, .ref a_L, .ref a_R, .ref a_D, .ref a_Q, .int (iI tr), .int (iI (if ¬ (0 ≤ k ∧ k < 4) then 0 else if th = 0 then 1 else if ¬ (0 ≤ i ∧ i < sz) then 3 else 0))])), (a_Q, aQ E 4 sf), (a_S, .inr (4, [.ref a_ce, .int (iI th), .int (iI ln), .int (iI sz)])), (a_ce, aI E 50 (if (0 ≤ k ∧ k < 4) ∧ th = 1 ∧ 0 ≤ i ∧ i < sz then uI ce i (cuI ln v) else ce))] := by
  refine g_start (cc := cX5_put) (maxL := 4) (ret := (some .int)) (by decide) rfl (Nat.le_of_ble_eq_true rfl) ?_
  intro p_ e_ s_ m_ args_ below_ meth_ c_ A_ C hr hnm
  refine g_aload_n 1 C 0 dX5_put_0 rfl rfl ?_
  refine g_iconst 2 C dX5_put_1 rfl ?_
  refine g_put (ws' := [(_, .inr (5, [_, _, _, _, _, _, _])), (_, aQ _ _ _), (_, .inr (4, [_, _, _, _])), (_, aI _ _ _)]) 5 C 0 6 5 tyX5 tyX5_ok nmX5 iX5_put_X5 lX5_put_90 dX5_put_2 rfl rfl rfl (by decide) rfl rfl rfl (Nat.le_of_ble_eq_true rfl) rfl ?_
  refine g_iload_n 6 C 1 dX5_put_5 rfl rfl ?_
  refine g_callSF 9 C [] dX5_put_6 rfl (k_X5_isSheet E l  (by first | assumption | omega)) (va_cwS 1 C.2.2.2.2.1 gX5_put_X5_isSheet rfl rfl rfl cdX5_isSheet ⟨Nat.le_of_ble_eq_true rfl, Nat.le_of_ble_eq_true rfl⟩) rfl rfl rfl rfl (Nat.le_of_ble_eq_true rfl) ⟨Nat.le_of_ble_eq_true rfl, Nat.le_of_ble_eq_true rfl⟩ ?_
  refine g_ifb_ne 14 12 C dX5_put_9 (by decide) rfl ?_ ?_
  · intro h9
    refine g_aload_n 15 C 0 dX5_put_14 rfl rfl ?_
    refine g_get 18 C 0 4 5 iX5_put_X5 lX5_put_43 dX5_put_15 rfl rfl rfl (by decide) rfl ?_
    refine g_iload_n 19 C 1 dX5_put_18 rfl rfl ?_
    refine g_aaload 20 C 1 dX5_put_19 rfl rfl (by omega) (hsf (by omega)) ?_
    refine g_callVF 23 C [2] dX5_put_20 rfl (k_X4_isThere E l  (by first | assumption | omega)) (cwV 0 C.2.2.2.2.1 gX5_put_X4_isThere rfl rfl rfl cdX4_isThere ⟨Nat.le_of_ble_eq_true rfl, Nat.le_of_ble_eq_true rfl⟩) rfl rfl rfl rfl (Nat.le_of_ble_eq_true rfl) 2 4 rfl rfl rfl ⟨Nat.le_of_ble_eq_true rfl, Nat.le_of_ble_eq_true rfl⟩ ?_
    refine g_if_ne 32 26 C dX5_put_23 (by decide) rfl (by omega) ?_ ?_
    · intro h23
      refine g_aload_n 33 C 0 dX5_put_32 rfl rfl ?_
      refine g_get 36 C 0 4 5 iX5_put_X5 lX5_put_43 dX5_put_33 rfl rfl rfl (by decide) rfl ?_
      refine g_iload_n 37 C 1 dX5_put_36 rfl rfl ?_
      refine g_aaload 38 C 1 dX5_put_37 rfl rfl (by omega) (hsf (by omega)) ?_
      refine g_iload_n 39 C 2 dX5_put_38 rfl rfl ?_
      refine g_lconst 40 C 1 dX5_put_39 rfl (by decide) ?_
      refine g_callVF 43 C [2] dX5_put_40 rfl (k_X4_holds E l  (by first | assumption | omega) (by first | assumption | omega) (by first | assumption | omega)) (cwV 2 C.2.2.2.2.1 gX5_put_X4_holds rfl rfl rfl cdX4_holds ⟨Nat.le_of_ble_eq_true rfl, Nat.le_of_ble_eq_true rfl⟩) rfl rfl rfl rfl (Nat.le_of_ble_eq_true rfl) 2 4 rfl rfl rfl ⟨Nat.le_of_ble_eq_true rfl, Nat.le_of_ble_eq_true rfl⟩ ?_
      refine g_ifb_ne 52 46 C dX5_put_43 (by decide) rfl ?_ ?_
      · intro h43
        refine g_aload_n 53 C 0 dX5_put_52 rfl rfl ?_
        refine g_get 56 C 0 4 5 iX5_put_X5 lX5_put_43 dX5_put_53 rfl rfl rfl (by decide) rfl ?_
        refine g_iload_n 57 C 1 dX5_put_56 rfl rfl ?_
        refine g_aaload 58 C 1 dX5_put_57 rfl rfl (by omega) (hsf (by omega)) ?_
        refine g_iload_n 59 C 2 dX5_put_58 rfl rfl ?_
        refine g_iload_n 60 C 3 dX5_put_59 rfl rfl ?_
        refine g_callVU (ws' := [(_, .inr (5, [_, _, _, _, _, _, _])), (_, aQ _ _ _), (_, .inr (4, [_, _, _, _])), (_, aI _ _ _)]) 63 C [2, 3] dX5_put_60 rfl (k_X4_write E l  (by first | assumption | omega) (by first | assumption | omega) (by first | assumption | omega)) (cwV 2 C.2.2.2.2.1 gX5_put_X4_write rfl rfl rfl cdX4_write ⟨Nat.le_of_ble_eq_true rfl, Nat.le_of_ble_eq_true rfl⟩) rfl rfl rfl rfl (Nat.le_of_ble_eq_true rfl) 2 4 rfl rfl rfl ⟨Nat.le_of_ble_eq_true rfl, Nat.le_of_ble_eq_true rfl⟩ rfl rfl ?_
        refine g_iconst 64 C dX5_put_63 rfl ?_
        exact g_iret C hr dX5_put_64 ⟨g_ri (by (have g0 : ¬ (¬ (0 ≤ k ∧ k < 4)) := (by omega)); (have g1 : ¬ (th = 0) := (by omega)); (have g2 : ¬ (¬ (0 ≤ i ∧ i < sz)) := (by omega)); simp only [if_neg g0, if_neg g1, if_neg g2] <;> rfl), by (have g0 : ¬ (¬ (0 ≤ k ∧ k < 4)) := (by omega)); (have g1 : ¬ (th = 0) := (by omega)); (have g2 : ¬ (¬ (0 ≤ i ∧ i < sz)) := (by omega)); (have x0 : (0 ≤ k ∧ k < 4) ∧ th = 1 ∧ 0 ≤ i ∧ i < sz := (by omega)); simp only [if_neg g0, if_neg g1, if_neg g2, if_pos x0] <;> rfl⟩
      · intro h43
        refine g_aload_n 47 C 0 dX5_put_46 rfl rfl ?_
        refine g_iconst 48 C dX5_put_47 rfl ?_
        refine g_callVU (ws' := [(_, .inr (5, [_, _, _, _, _, _, _])), (_, aQ _ _ _), (_, .inr (4, [_, _, _, _])), (_, aI _ _ _)]) 51 C [0] dX5_put_48 rfl (k_X5_come E l  ) (cwV 1 C.2.2.2.2.1 gX5_put_X5_come rfl rfl rfl cdX5_come ⟨Nat.le_of_ble_eq_true rfl, Nat.le_of_ble_eq_true rfl⟩) rfl rfl rfl rfl (Nat.le_of_ble_eq_true rfl) 0 5 rfl rfl rfl ⟨Nat.le_of_ble_eq_true rfl, Nat.le_of_ble_eq_true rfl⟩ rfl rfl ?_
        exact g_iret C hr dX5_put_51 ⟨g_ri (by (have g0 : ¬ (¬ (0 ≤ k ∧ k < 4)) := (by omega)); (have g1 : ¬ (th = 0) := (by omega)); (have g2 : ¬ (0 ≤ i ∧ i < sz) := (by omega)); simp only [if_neg g0, if_neg g1, if_pos g2] <;> rfl), by (have g0 : ¬ (¬ (0 ≤ k ∧ k < 4)) := (by omega)); (have g1 : ¬ (th = 0) := (by omega)); (have g2 : ¬ (0 ≤ i ∧ i < sz) := (by omega)); (have x0 : ¬ ((0 ≤ k ∧ k < 4) ∧ th = 1 ∧ 0 ≤ i ∧ i < sz) := (by omega)); simp only [if_neg g0, if_neg g1, if_pos g2, if_neg x0] <;> rfl⟩
    · intro h23
      refine g_aload_n 27 C 0 dX5_put_26 rfl rfl ?_
      refine g_iconst 28 C dX5_put_27 rfl ?_
      refine g_callVU (ws' := [(_, .inr (5, [_, _, _, _, _, _, _])), (_, aQ _ _ _), (_, .inr (4, [_, _, _, _])), (_, aI _ _ _)]) 31 C [0] dX5_put_28 rfl (k_X5_come E l  ) (cwV 1 C.2.2.2.2.1 gX5_put_X5_come rfl rfl rfl cdX5_come ⟨Nat.le_of_ble_eq_true rfl, Nat.le_of_ble_eq_true rfl⟩) rfl rfl rfl rfl (Nat.le_of_ble_eq_true rfl) 0 5 rfl rfl rfl ⟨Nat.le_of_ble_eq_true rfl, Nat.le_of_ble_eq_true rfl⟩ rfl rfl ?_
      exact g_iret C hr dX5_put_31 ⟨g_ri (by (have g0 : ¬ (¬ (0 ≤ k ∧ k < 4)) := (by omega)); (have g1 : th = 0 := (by omega)); simp only [if_neg g0, if_pos g1] <;> rfl), by (have g0 : ¬ (¬ (0 ≤ k ∧ k < 4)) := (by omega)); (have g1 : th = 0 := (by omega)); (have x0 : ¬ ((0 ≤ k ∧ k < 4) ∧ th = 1 ∧ 0 ≤ i ∧ i < sz) := (by omega)); simp only [if_neg g0, if_pos g1, if_neg x0] <;> rfl⟩
  · intro h9
    refine g_iconst 13 C dX5_put_12 rfl ?_
    exact g_iret C hr dX5_put_13 ⟨g_ri (by (have g0 : ¬ (0 ≤ k ∧ k < 4) := (by omega)); simp only [if_pos g0] <;> rfl), by (have g0 : ¬ (0 ≤ k ∧ k < 4) := (by omega)); (have x0 : ¬ ((0 ≤ k ∧ k < 4) ∧ th = 1 ∧ 0 ≤ i ∧ i < sz) := (by omega)); simp only [if_pos g0, if_neg x0] <;> rfl⟩
theorem cdX4_isOfOther : yX4_isOfOther.cls = RX4 ∧ yX4_isOfOther.cls ≠ "java/lang/invoke/MethodHandle" ∧ yX4_isOfOther.cls ≠ "java/lang/invoke/VarHandle" ∧ (parseMethodDescriptor yX4_isOfOther.desc).map (fun d => d.parameters.length) = some 1 := by decide +kernel
theorem cdX4_read : yX4_read.cls = RX4 ∧ yX4_read.cls ≠ "java/lang/invoke/MethodHandle" ∧ yX4_read.cls ≠ "java/lang/invoke/VarHandle" ∧ (parseMethodDescriptor yX4_read.desc).map (fun d => d.parameters.length) = some 1 := by decide +kernel
theorem cdX5_comeLost : yX5_comeLost.cls = RX5 ∧ yX5_comeLost.cls ≠ "java/lang/invoke/MethodHandle" ∧ yX5_comeLost.cls ≠ "java/lang/invoke/VarHandle" ∧ (parseMethodDescriptor yX5_comeLost.desc).map (fun d => d.parameters.length) = some 1 := by decide +kernel
theorem lX5_cell_43 : Cond.fieldLink RX5 43 (TX5 4).1 (TX5 4).2.1 (TX5 4).2.2.1 ∈ wsX5_cell := by decide +kernel
theorem lX5_cell_90 : Cond.fieldLink RX5 90 (TX5 6).1 (TX5 6).2.1 (TX5 6).2.2.1 ∈ wsX5_cell := by decide +kernel
theorem lX5_cell_84 : Cond.constantLong RX5 84 (-9223372036854775808) ∈ wsX5_cell := by decide +kernel
theorem iX5_cell_X5 : ∀ w ∈ u_ws RX5 TX5 7, w ∈ wsX5_cell := by decide +kernel
set_option maxHeartbeats 4000000 in
set_option maxRecDepth 100000 in
theorem k_X5_cell (E : gE) (l : Launch) {a_D a_L a_P a_Q a_R a_S a_X a_ce : Nat} {k i t th ln sz : Int} {ce : Int → Int} {sf : Int → Option Nat} {tr ft : Int} (hsf : 0 ≤ k ∧ k < 4 → sf k = some a_S) (hth : th = 0 ∨ th = 1) (hsz : 0 ≤ sz ∧ sz ≤ 50) (hln : 0 ≤ ln ∧ ln ≤ 2) (hce : ∀ j : Int, -2147483648 ≤ ce j ∧ ce j < 2147483648) (hk : -2147483648 ≤ k ∧ k < 2147483648) (hi : -2147483648 ≤ i ∧ i < 2147483648) (ht : -2147483648 ≤ t ∧ t < 2147483648) : gUpd E l yX5_cell wsX5_cell { frames := 2, cells := 0, slots := 0, locals := 44 } [.ref a_X, .int (iI k), .int (iI i), .int (iI t)] [(a_X, .inr (5, [.ref a_P, .ref a_L, .ref a_R, .ref a_D, .ref a_Q, .int (iI tr), .int (iI ft)])), (a_Q, aQ E 4 sf), (a_S, .inr (4, [.ref a_ce, .int (iI th), .int (iI ln), .int (iI sz)])), (a_ce, aI E 50 ce)] (some (.long (lI (if ¬ ((0 ≤ k ∧ k < 4) ∧ 0 ≤ t ∧ t < 3) then -9223372036854775808 else if th = 1 ∧ ln ≠ t then -9223372036854775808 else if th = 0 then -9223372036854775808 else if ¬ (0 ≤ i ∧ i < sz) then -9223372036854775808 else ce i)))) [(a_X, .inr (5, [.ref a_P, .ref a_L, .ref a_R, .ref a_D, .ref a_Q, .int (iI tr), .int (iI (if ¬ ((0 ≤ k ∧ k < 4) ∧ 0 ≤ t ∧ t < 3) then 0 else if th = 1 ∧ ln ≠ t then 2 else if th = 0 then 1 else if ¬ (0 ≤ i ∧ i < sz) then 3 else 0))])), (a_Q, aQ E 4 sf), (a_S, .inr (4, [.ref a_ce, .int (iI th), .int (iI ln), .int (iI sz)])), (a_ce, aI E 50 ce)] := by
  refine g_start (cc := cX5_cell) (maxL := 4) (ret := (some .long)) (by decide) rfl (Nat.le_of_ble_eq_true rfl) ?_
  intro p_ e_ s_ m_ args_ below_ meth_ c_ A_ C hr hnm
  refine g_aload_n 1 C 0 dX5_cell_0 rfl rfl ?_
  refine g_iconst 2 C dX5_cell_1 rfl ?_
  refine g_put (ws' := [(_, .inr (5, [_, _, _, _, _, _, _])), (_, aQ _ _ _), (_, .inr (4, [_, _, _, _])), (_, aI _ _ _)]) 5 C 0 6 5 tyX5 tyX5_ok nmX5 iX5_cell_X5 lX5_cell_90 dX5_cell_2 rfl rfl rfl (by decide) rfl rfl rfl (Nat.le_of_ble_eq_true rfl) rfl ?_
  refine g_iload_n 6 C 1 dX5_cell_5 rfl rfl ?_
  refine g_callSF 9 C [] dX5_cell_6 rfl (k_X5_isSheet E l  (by first | assumption | omega)) (va_cwS 1 C.2.2.2.2.1 gX5_cell_X5_isSheet rfl rfl rfl cdX5_isSheet ⟨Nat.le_of_ble_eq_true rfl, Nat.le_of_ble_eq_true rfl⟩) rfl rfl rfl rfl (Nat.le_of_ble_eq_true rfl) ⟨Nat.le_of_ble_eq_true rfl, Nat.le_of_ble_eq_true rfl⟩ ?_
  refine g_ifb_eq 19 12 C dX5_cell_9 (by decide) rfl ?_ ?_
  · intro h9
    refine g_ldc2 22 C (-9223372036854775808) dX5_cell_19 rfl lX5_cell_84 (by decide) ?_
    exact g_lret C hr dX5_cell_22 ⟨g_rl (by (have g0 : ¬ ((0 ≤ k ∧ k < 4) ∧ 0 ≤ t ∧ t < 3) := (by omega)); simp only [if_pos g0] <;> rfl), by (have g0 : ¬ ((0 ≤ k ∧ k < 4) ∧ 0 ≤ t ∧ t < 3) := (by omega)); simp only [if_pos g0] <;> rfl⟩
  · intro h9
    refine g_iload_n 13 C 3 dX5_cell_12 rfl rfl ?_
    refine g_callSF 16 C [] dX5_cell_13 rfl (k_X5_isLane E l  (by first | assumption | omega)) (va_cwS 1 C.2.2.2.2.1 gX5_cell_X5_isLane rfl rfl rfl cdX5_isLane ⟨Nat.le_of_ble_eq_true rfl, Nat.le_of_ble_eq_true rfl⟩) rfl rfl rfl rfl (Nat.le_of_ble_eq_true rfl) ⟨Nat.le_of_ble_eq_true rfl, Nat.le_of_ble_eq_true rfl⟩ ?_
    refine g_ifb_ne 23 19 C dX5_cell_16 (by decide) rfl ?_ ?_
    · intro h16
      refine g_aload_n 24 C 0 dX5_cell_23 rfl rfl ?_
      refine g_get 27 C 0 4 5 iX5_cell_X5 lX5_cell_43 dX5_cell_24 rfl rfl rfl (by decide) rfl ?_
      refine g_iload_n 28 C 1 dX5_cell_27 rfl rfl ?_
      refine g_aaload 29 C 1 dX5_cell_28 rfl rfl (by omega) (hsf (by omega)) ?_
      refine g_iload_n 30 C 3 dX5_cell_29 rfl rfl ?_
      refine g_callVF 33 C [2] dX5_cell_30 rfl (k_X4_isOfOther E l  (by first | assumption | omega) (by first | assumption | omega) (by first | assumption | omega)) (cwV 1 C.2.2.2.2.1 gX5_cell_X4_isOfOther rfl rfl rfl cdX4_isOfOther ⟨Nat.le_of_ble_eq_true rfl, Nat.le_of_ble_eq_true rfl⟩) rfl rfl rfl rfl (Nat.le_of_ble_eq_true rfl) 2 4 rfl rfl rfl ⟨Nat.le_of_ble_eq_true rfl, Nat.le_of_ble_eq_true rfl⟩ ?_
      refine g_ifb_eq 42 36 C dX5_cell_33 (by decide) rfl ?_ ?_
      · intro h33
        refine g_aload_n 43 C 0 dX5_cell_42 rfl rfl ?_
        refine g_get 46 C 0 4 5 iX5_cell_X5 lX5_cell_43 dX5_cell_43 rfl rfl rfl (by decide) rfl ?_
        refine g_iload_n 47 C 1 dX5_cell_46 rfl rfl ?_
        refine g_aaload 48 C 1 dX5_cell_47 rfl rfl (by omega) (hsf (by omega)) ?_
        refine g_callVF 51 C [2] dX5_cell_48 rfl (k_X4_isThere E l  (by first | assumption | omega)) (cwV 0 C.2.2.2.2.1 gX5_cell_X4_isThere rfl rfl rfl cdX4_isThere ⟨Nat.le_of_ble_eq_true rfl, Nat.le_of_ble_eq_true rfl⟩) rfl rfl rfl rfl (Nat.le_of_ble_eq_true rfl) 2 4 rfl rfl rfl ⟨Nat.le_of_ble_eq_true rfl, Nat.le_of_ble_eq_true rfl⟩ ?_
        refine g_if_ne 60 54 C dX5_cell_51 (by decide) rfl (by omega) ?_ ?_
        · intro h51
          refine g_aload_n 61 C 0 dX5_cell_60 rfl rfl ?_
          refine g_get 64 C 0 4 5 iX5_cell_X5 lX5_cell_43 dX5_cell_61 rfl rfl rfl (by decide) rfl ?_
          refine g_iload_n 65 C 1 dX5_cell_64 rfl rfl ?_
          refine g_aaload 66 C 1 dX5_cell_65 rfl rfl (by omega) (hsf (by omega)) ?_
          refine g_iload_n 67 C 2 dX5_cell_66 rfl rfl ?_
          refine g_lconst 68 C 1 dX5_cell_67 rfl (by decide) ?_
          refine g_callVF 71 C [2] dX5_cell_68 rfl (k_X4_holds E l  (by first | assumption | omega) (by first | assumption | omega) (by first | assumption | omega)) (cwV 2 C.2.2.2.2.1 gX5_cell_X4_holds rfl rfl rfl cdX4_holds ⟨Nat.le_of_ble_eq_true rfl, Nat.le_of_ble_eq_true rfl⟩) rfl rfl rfl rfl (Nat.le_of_ble_eq_true rfl) 2 4 rfl rfl rfl ⟨Nat.le_of_ble_eq_true rfl, Nat.le_of_ble_eq_true rfl⟩ ?_
          refine g_ifb_ne 80 74 C dX5_cell_71 (by decide) rfl ?_ ?_
          · intro h71
            refine g_aload_n 81 C 0 dX5_cell_80 rfl rfl ?_
            refine g_get 84 C 0 4 5 iX5_cell_X5 lX5_cell_43 dX5_cell_81 rfl rfl rfl (by decide) rfl ?_
            refine g_iload_n 85 C 1 dX5_cell_84 rfl rfl ?_
            refine g_aaload 86 C 1 dX5_cell_85 rfl rfl (by omega) (hsf (by omega)) ?_
            refine g_iload_n 87 C 2 dX5_cell_86 rfl rfl ?_
            refine g_callVF 90 C [2, 3] dX5_cell_87 rfl (k_X4_read E l  (by first | assumption | omega) (by first | assumption | omega)) (cwV 1 C.2.2.2.2.1 gX5_cell_X4_read rfl rfl rfl cdX4_read ⟨Nat.le_of_ble_eq_true rfl, Nat.le_of_ble_eq_true rfl⟩) rfl rfl rfl rfl (Nat.le_of_ble_eq_true rfl) 2 4 rfl rfl rfl ⟨Nat.le_of_ble_eq_true rfl, Nat.le_of_ble_eq_true rfl⟩ ?_
            have e0 := hce i
            refine g_i2l 91 C dX5_cell_90 rfl (by omega) ?_
            exact g_lret C hr dX5_cell_91 ⟨g_rl (by (have g0 : ¬ (¬ ((0 ≤ k ∧ k < 4) ∧ 0 ≤ t ∧ t < 3)) := (by omega)); (have g1 : ¬ (th = 1 ∧ ln ≠ t) := (by omega)); (have g2 : ¬ (th = 0) := (by omega)); (have g3 : ¬ (¬ (0 ≤ i ∧ i < sz)) := (by omega)); simp only [if_neg g0, if_neg g1, if_neg g2, if_neg g3] <;> rfl), by (have g0 : ¬ (¬ ((0 ≤ k ∧ k < 4) ∧ 0 ≤ t ∧ t < 3)) := (by omega)); (have g1 : ¬ (th = 1 ∧ ln ≠ t) := (by omega)); (have g2 : ¬ (th = 0) := (by omega)); (have g3 : ¬ (¬ (0 ≤ i ∧ i < sz)) := (by omega)); simp only [if_neg g0, if_neg g1, if_neg g2, if_neg g3] <;> rfl⟩
          · intro h71
            refine g_aload_n 75 C 0 dX5_cell_74 rfl rfl ?_
            refine g_iconst 76 C dX5_cell_75 rfl ?_
            refine g_callVU (ws' := [(_, .inr (5, [_, _, _, _, _, _, _])), (_, aQ _ _ _), (_, .inr (4, [_, _, _, _])), (_, aI _ _ _)]) 79 C [0] dX5_cell_76 rfl (k_X5_comeLost E l  ) (cwV 1 C.2.2.2.2.1 gX5_cell_X5_comeLost rfl rfl rfl cdX5_comeLost ⟨Nat.le_of_ble_eq_true rfl, Nat.le_of_ble_eq_true rfl⟩) rfl rfl rfl rfl (Nat.le_of_ble_eq_true rfl) 0 5 rfl rfl rfl ⟨Nat.le_of_ble_eq_true rfl, Nat.le_of_ble_eq_true rfl⟩ rfl rfl ?_
            exact g_lret C hr dX5_cell_79 ⟨g_rl (by (have g0 : ¬ (¬ ((0 ≤ k ∧ k < 4) ∧ 0 ≤ t ∧ t < 3)) := (by omega)); (have g1 : ¬ (th = 1 ∧ ln ≠ t) := (by omega)); (have g2 : ¬ (th = 0) := (by omega)); (have g3 : ¬ (0 ≤ i ∧ i < sz) := (by omega)); simp only [if_neg g0, if_neg g1, if_neg g2, if_pos g3] <;> rfl), by (have g0 : ¬ (¬ ((0 ≤ k ∧ k < 4) ∧ 0 ≤ t ∧ t < 3)) := (by omega)); (have g1 : ¬ (th = 1 ∧ ln ≠ t) := (by omega)); (have g2 : ¬ (th = 0) := (by omega)); (have g3 : ¬ (0 ≤ i ∧ i < sz) := (by omega)); simp only [if_neg g0, if_neg g1, if_neg g2, if_pos g3] <;> rfl⟩
        · intro h51
          refine g_aload_n 55 C 0 dX5_cell_54 rfl rfl ?_
          refine g_iconst 56 C dX5_cell_55 rfl ?_
          refine g_callVU (ws' := [(_, .inr (5, [_, _, _, _, _, _, _])), (_, aQ _ _ _), (_, .inr (4, [_, _, _, _])), (_, aI _ _ _)]) 59 C [0] dX5_cell_56 rfl (k_X5_comeLost E l  ) (cwV 1 C.2.2.2.2.1 gX5_cell_X5_comeLost rfl rfl rfl cdX5_comeLost ⟨Nat.le_of_ble_eq_true rfl, Nat.le_of_ble_eq_true rfl⟩) rfl rfl rfl rfl (Nat.le_of_ble_eq_true rfl) 0 5 rfl rfl rfl ⟨Nat.le_of_ble_eq_true rfl, Nat.le_of_ble_eq_true rfl⟩ rfl rfl ?_
          exact g_lret C hr dX5_cell_59 ⟨g_rl (by (have g0 : ¬ (¬ ((0 ≤ k ∧ k < 4) ∧ 0 ≤ t ∧ t < 3)) := (by omega)); (have g1 : ¬ (th = 1 ∧ ln ≠ t) := (by omega)); (have g2 : th = 0 := (by omega)); simp only [if_neg g0, if_neg g1, if_pos g2] <;> rfl), by (have g0 : ¬ (¬ ((0 ≤ k ∧ k < 4) ∧ 0 ≤ t ∧ t < 3)) := (by omega)); (have g1 : ¬ (th = 1 ∧ ln ≠ t) := (by omega)); (have g2 : th = 0 := (by omega)); simp only [if_neg g0, if_neg g1, if_pos g2] <;> rfl⟩
      · intro h33
        refine g_aload_n 37 C 0 dX5_cell_36 rfl rfl ?_
        refine g_iconst 38 C dX5_cell_37 rfl ?_
        refine g_callVU (ws' := [(_, .inr (5, [_, _, _, _, _, _, _])), (_, aQ _ _ _), (_, .inr (4, [_, _, _, _])), (_, aI _ _ _)]) 41 C [0] dX5_cell_38 rfl (k_X5_comeLost E l  ) (cwV 1 C.2.2.2.2.1 gX5_cell_X5_comeLost rfl rfl rfl cdX5_comeLost ⟨Nat.le_of_ble_eq_true rfl, Nat.le_of_ble_eq_true rfl⟩) rfl rfl rfl rfl (Nat.le_of_ble_eq_true rfl) 0 5 rfl rfl rfl ⟨Nat.le_of_ble_eq_true rfl, Nat.le_of_ble_eq_true rfl⟩ rfl rfl ?_
        exact g_lret C hr dX5_cell_41 ⟨g_rl (by (have g0 : ¬ (¬ ((0 ≤ k ∧ k < 4) ∧ 0 ≤ t ∧ t < 3)) := (by omega)); (have g1 : th = 1 ∧ ln ≠ t := (by omega)); simp only [if_neg g0, if_pos g1] <;> rfl), by (have g0 : ¬ (¬ ((0 ≤ k ∧ k < 4) ∧ 0 ≤ t ∧ t < 3)) := (by omega)); (have g1 : th = 1 ∧ ln ≠ t := (by omega)); simp only [if_neg g0, if_pos g1] <;> rfl⟩
    · intro h16
      refine g_ldc2 22 C (-9223372036854775808) dX5_cell_19 rfl lX5_cell_84 (by decide) ?_
      exact g_lret C hr dX5_cell_22 ⟨g_rl (by (have g0 : ¬ ((0 ≤ k ∧ k < 4) ∧ 0 ≤ t ∧ t < 3) := (by omega)); simp only [if_pos g0] <;> rfl), by (have g0 : ¬ ((0 ≤ k ∧ k < 4) ∧ 0 ≤ t ∧ t < 3) := (by omega)); simp only [if_pos g0] <;> rfl⟩
theorem cdX4_laneHeld : yX4_laneHeld.cls = RX4 ∧ yX4_laneHeld.cls ≠ "java/lang/invoke/MethodHandle" ∧ yX4_laneHeld.cls ≠ "java/lang/invoke/VarHandle" ∧ (parseMethodDescriptor yX4_laneHeld.desc).map (fun d => d.parameters.length) = some 0 := by decide +kernel
theorem cdX4_writeFrom : yX4_writeFrom.cls = RX4 ∧ yX4_writeFrom.cls ≠ "java/lang/invoke/MethodHandle" ∧ yX4_writeFrom.cls ≠ "java/lang/invoke/VarHandle" ∧ (parseMethodDescriptor yX4_writeFrom.desc).map (fun d => d.parameters.length) = some 4 := by decide +kernel
theorem lX5_copy_43 : Cond.fieldLink RX5 43 (TX5 4).1 (TX5 4).2.1 (TX5 4).2.2.1 ∈ wsX5_copy := by decide +kernel
theorem lX5_copy_90 : Cond.fieldLink RX5 90 (TX5 6).1 (TX5 6).2.1 (TX5 6).2.2.1 ∈ wsX5_copy := by decide +kernel
theorem iX5_copy_X5 : ∀ w ∈ u_ws RX5 TX5 7, w ∈ wsX5_copy := by decide +kernel
set_option maxHeartbeats 4000000 in
set_option maxRecDepth 100000 in
theorem k_X5_copy_s (E : gE) (l : Launch) {a_D a_L a_P a_Q a_R a_S a_X a_ce : Nat} {k i o j n th ln sz : Int} {ce : Int → Int} {sf : Int → Option Nat} {tr ft : Int} (hsf : 0 ≤ k ∧ k < 4 → sf k = some a_S) (hsg : 0 ≤ o ∧ o < 4 → sf o = some a_S) (hth : th = 0 ∨ th = 1) (hsz : 0 ≤ sz ∧ sz ≤ 50) (hln : 0 ≤ ln ∧ ln ≤ 2) (hk : -2147483648 ≤ k ∧ k < 2147483648) (ho : -2147483648 ≤ o ∧ o < 2147483648) (hi : -2147483648 ≤ i ∧ i < 2147483648) (hj : -2147483648 ≤ j ∧ j < 2147483648) (hn : -2147483648 ≤ n ∧ n < 2147483648) : gUpd E l yX5_copy wsX5_copy { frames := 2, cells := 0, slots := 0, locals := 84 } [.ref a_X, .int (iI k), .int (iI i), .int (iI o), .int (iI j), .int (iI n)] [(a_X, .inr (5, [.ref a_P, .ref a_L, .ref a_R, .ref a_D, .ref a_Q, .int (iI tr), .int (iI ft)])), (a_Q, aQ E 4 sf), (a_S, .inr (4, [.ref a_ce, .int (iI th), .int (iI ln), .int (iI sz)])), (a_ce, aI E 50 ce)] (some (.int (iI (if ¬ ((0 ≤ k ∧ k < 4) ∧ (0 ≤ o ∧ o < 4)) then -1 else if ¬ th = 1 then -11 else if ¬ ((0 ≤ i ∧ 0 ≤ n ∧ i + n ≤ sz) ∧ (0 ≤ j ∧ 0 ≤ n ∧ j + n ≤ sz)) then -13 else n)))) [(a_X, .inr (5, [.ref a_P, .ref a_L, .ref a_R, .ref a_D, .ref a_Q, .int (iI tr), .int (iI (if ¬ ((0 ≤ k ∧ k < 4) ∧ (0 ≤ o ∧ o < 4)) then 0 else if ¬ th = 1 then 1 else if ¬ ((0 ≤ i ∧ 0 ≤ n ∧ i + n ≤ sz) ∧ (0 ≤ j ∧ 0 ≤ n ∧ j + n ≤ sz)) then 3 else 0))])), (a_Q, aQ E 4 sf), (a_S, .inr (4, [.ref a_ce, .int (iI th), .int (iI ln), .int (iI sz)])), (a_ce, aI E 50 (if ((0 ≤ k ∧ k < 4) ∧ (0 ≤ o ∧ o < 4)) ∧ th = 1 ∧ (0 ≤ i ∧ 0 ≤ n ∧ i + n ≤ sz) ∧ (0 ≤ j ∧ 0 ≤ n ∧ j + n ≤ sz) then cpI ce ce i j n else ce))] := by
  refine g_start (cc := cX5_copy) (maxL := 8) (ret := (some .int)) (by decide) rfl (Nat.le_of_ble_eq_true rfl) ?_
  intro p_ e_ s_ m_ args_ below_ meth_ c_ A_ C hr hnm
  refine g_aload_n 1 C 0 dX5_copy_0 rfl rfl ?_
  refine g_iconst 2 C dX5_copy_1 rfl ?_
  refine g_put (ws' := [(_, .inr (5, [_, _, _, _, _, _, _])), (_, aQ _ _ _), (_, .inr (4, [_, _, _, _])), (_, aI _ _ _)]) 5 C 0 6 5 tyX5 tyX5_ok nmX5 iX5_copy_X5 lX5_copy_90 dX5_copy_2 rfl rfl rfl (by decide) rfl rfl rfl (Nat.le_of_ble_eq_true rfl) rfl ?_
  refine g_iload_n 6 C 1 dX5_copy_5 rfl rfl ?_
  refine g_callSF 9 C [] dX5_copy_6 rfl (k_X5_isSheet E l  (by first | assumption | omega)) (va_cwS 1 C.2.2.2.2.1 gX5_copy_X5_isSheet rfl rfl rfl cdX5_isSheet ⟨Nat.le_of_ble_eq_true rfl, Nat.le_of_ble_eq_true rfl⟩) rfl rfl rfl rfl (Nat.le_of_ble_eq_true rfl) ⟨Nat.le_of_ble_eq_true rfl, Nat.le_of_ble_eq_true rfl⟩ ?_
  refine g_ifb_eq 19 12 C dX5_copy_9 (by decide) rfl ?_ ?_
  · intro h9
    refine g_iconst 20 C dX5_copy_19 rfl ?_
    exact g_iret C hr dX5_copy_20 ⟨g_ri (by (have g0 : ¬ ((0 ≤ k ∧ k < 4) ∧ (0 ≤ o ∧ o < 4)) := (by omega)); simp only [if_pos g0] <;> rfl), by (have g0 : ¬ ((0 ≤ k ∧ k < 4) ∧ (0 ≤ o ∧ o < 4)) := (by omega)); (have x0 : ¬ (((0 ≤ k ∧ k < 4) ∧ (0 ≤ o ∧ o < 4)) ∧ th = 1 ∧ (0 ≤ i ∧ 0 ≤ n ∧ i + n ≤ sz) ∧ (0 ≤ j ∧ 0 ≤ n ∧ j + n ≤ sz)) := (by omega)); simp only [if_pos g0, if_neg x0] <;> rfl⟩
  · intro h9
    refine g_iload_n 13 C 3 dX5_copy_12 rfl rfl ?_
    refine g_callSF 16 C [] dX5_copy_13 rfl (k_X5_isSheet E l  (by first | assumption | omega)) (va_cwS 1 C.2.2.2.2.1 gX5_copy_X5_isSheet rfl rfl rfl cdX5_isSheet ⟨Nat.le_of_ble_eq_true rfl, Nat.le_of_ble_eq_true rfl⟩) rfl rfl rfl rfl (Nat.le_of_ble_eq_true rfl) ⟨Nat.le_of_ble_eq_true rfl, Nat.le_of_ble_eq_true rfl⟩ ?_
    refine g_ifb_ne 21 19 C dX5_copy_16 (by decide) rfl ?_ ?_
    · intro h16
      refine g_aload_n 22 C 0 dX5_copy_21 rfl rfl ?_
      refine g_get 25 C 0 4 5 iX5_copy_X5 lX5_copy_43 dX5_copy_22 rfl rfl rfl (by decide) rfl ?_
      refine g_iload_n 26 C 1 dX5_copy_25 rfl rfl ?_
      refine g_aaload 27 C 1 dX5_copy_26 rfl rfl (by omega) (hsf (by omega)) ?_
      refine g_astore (lv' := [(6, _), (0, _), (1, _), (2, _), (3, _), (4, _), (5, _)]) 29 C dX5_copy_27 rfl (by decide) rfl ?_
      refine g_aload_n 30 C 1 dX5_copy_29 rfl rfl ?_
      refine g_get 33 C 0 4 5 iX5_copy_X5 lX5_copy_43 dX5_copy_30 rfl rfl rfl (by decide) rfl ?_
      refine g_iload_n 34 C 4 dX5_copy_33 rfl rfl ?_
      refine g_aaload 35 C 1 dX5_copy_34 rfl rfl (by omega) (hsg (by omega)) ?_
      refine g_astore (lv' := [(7, _), (6, _), (0, _), (1, _), (2, _), (3, _), (4, _), (5, _)]) 37 C dX5_copy_35 rfl (by decide) rfl ?_
      refine g_aload 39 C 1 dX5_copy_37 rfl rfl ?_
      refine g_callVF 42 C [2] dX5_copy_39 rfl (k_X4_isThere E l  (by first | assumption | omega)) (cwV 0 C.2.2.2.2.1 gX5_copy_X4_isThere rfl rfl rfl cdX4_isThere ⟨Nat.le_of_ble_eq_true rfl, Nat.le_of_ble_eq_true rfl⟩) rfl rfl rfl rfl (Nat.le_of_ble_eq_true rfl) 2 4 rfl rfl rfl ⟨Nat.le_of_ble_eq_true rfl, Nat.le_of_ble_eq_true rfl⟩ ?_
      refine g_if_eq 53 45 C dX5_copy_42 (by decide) rfl (by omega) ?_ ?_
      · intro h42
        refine g_aload_n 54 C 2 dX5_copy_53 rfl rfl ?_
        refine g_iconst 55 C dX5_copy_54 rfl ?_
        refine g_callVU (ws' := [(_, .inr (5, [_, _, _, _, _, _, _])), (_, aQ _ _ _), (_, .inr (4, [_, _, _, _])), (_, aI _ _ _)]) 58 C [0] dX5_copy_55 rfl (k_X5_come E l  ) (cwV 1 C.2.2.2.2.1 gX5_copy_X5_come rfl rfl rfl cdX5_come ⟨Nat.le_of_ble_eq_true rfl, Nat.le_of_ble_eq_true rfl⟩) rfl rfl rfl rfl (Nat.le_of_ble_eq_true rfl) 0 5 rfl rfl rfl ⟨Nat.le_of_ble_eq_true rfl, Nat.le_of_ble_eq_true rfl⟩ rfl rfl ?_
        exact g_iret C hr dX5_copy_58 ⟨g_ri (by (have g0 : ¬ (¬ ((0 ≤ k ∧ k < 4) ∧ (0 ≤ o ∧ o < 4))) := (by omega)); (have g1 : ¬ th = 1 := (by omega)); simp only [if_neg g0, if_pos g1] <;> rfl), by (have g0 : ¬ (¬ ((0 ≤ k ∧ k < 4) ∧ (0 ≤ o ∧ o < 4))) := (by omega)); (have g1 : ¬ th = 1 := (by omega)); (have x0 : ¬ (((0 ≤ k ∧ k < 4) ∧ (0 ≤ o ∧ o < 4)) ∧ th = 1 ∧ (0 ≤ i ∧ 0 ≤ n ∧ i + n ≤ sz) ∧ (0 ≤ j ∧ 0 ≤ n ∧ j + n ≤ sz)) := (by omega)); simp only [if_neg g0, if_pos g1, if_neg x0] <;> rfl⟩
      · intro h42
        refine g_aload 47 C 0 dX5_copy_45 rfl rfl ?_
        refine g_callVF 50 C [2] dX5_copy_47 rfl (k_X4_isThere E l  (by first | assumption | omega)) (cwV 0 C.2.2.2.2.1 gX5_copy_X4_isThere rfl rfl rfl cdX4_isThere ⟨Nat.le_of_ble_eq_true rfl, Nat.le_of_ble_eq_true rfl⟩) rfl rfl rfl rfl (Nat.le_of_ble_eq_true rfl) 2 4 rfl rfl rfl ⟨Nat.le_of_ble_eq_true rfl, Nat.le_of_ble_eq_true rfl⟩ ?_
        refine g_if_ne 59 53 C dX5_copy_50 (by decide) rfl (by omega) ?_ ?_
        · intro h50
          refine g_aload 61 C 1 dX5_copy_59 rfl rfl ?_
          refine g_aload 63 C 0 dX5_copy_61 rfl rfl ?_
          refine g_callVF 66 C [2] dX5_copy_63 rfl (k_X4_laneHeld E l  ) (cwV 0 C.2.2.2.2.1 gX5_copy_X4_laneHeld rfl rfl rfl cdX4_laneHeld ⟨Nat.le_of_ble_eq_true rfl, Nat.le_of_ble_eq_true rfl⟩) rfl rfl rfl rfl (Nat.le_of_ble_eq_true rfl) 2 4 rfl rfl rfl ⟨Nat.le_of_ble_eq_true rfl, Nat.le_of_ble_eq_true rfl⟩ ?_
          refine g_callVF 69 C [2] dX5_copy_66 rfl (k_X4_isOfOther E l  (by first | assumption | omega) (by first | assumption | omega) (by first | assumption | omega)) (cwV 1 C.2.2.2.2.1 gX5_copy_X4_isOfOther rfl rfl rfl cdX4_isOfOther ⟨Nat.le_of_ble_eq_true rfl, Nat.le_of_ble_eq_true rfl⟩) rfl rfl rfl rfl (Nat.le_of_ble_eq_true rfl) 2 4 rfl rfl rfl ⟨Nat.le_of_ble_eq_true rfl, Nat.le_of_ble_eq_true rfl⟩ ?_
          refine g_ifb_eq 78 72 C dX5_copy_69 (by decide) rfl ?_ (fun h69 => absurd h69 (by omega))
          intro h69
          refine g_aload 80 C 1 dX5_copy_78 rfl rfl ?_
          refine g_iload_n 81 C 4 dX5_copy_80 rfl rfl ?_
          refine g_iload 83 C 7 dX5_copy_81 rfl rfl ?_
          refine g_i2l 84 C dX5_copy_83 rfl (by omega) ?_
          refine g_callVF 87 C [2] dX5_copy_84 rfl (k_X4_holds E l  (by first | assumption | omega) (by first | assumption | omega) (by first | assumption | omega)) (cwV 2 C.2.2.2.2.1 gX5_copy_X4_holds rfl rfl rfl cdX4_holds ⟨Nat.le_of_ble_eq_true rfl, Nat.le_of_ble_eq_true rfl⟩) rfl rfl rfl rfl (Nat.le_of_ble_eq_true rfl) 2 4 rfl rfl rfl ⟨Nat.le_of_ble_eq_true rfl, Nat.le_of_ble_eq_true rfl⟩ ?_
          refine g_ifb_eq 103 90 C dX5_copy_87 (by decide) rfl ?_ ?_
          · intro h87
            refine g_aload_n 104 C 2 dX5_copy_103 rfl rfl ?_
            refine g_iconst 105 C dX5_copy_104 rfl ?_
            refine g_callVU (ws' := [(_, .inr (5, [_, _, _, _, _, _, _])), (_, aQ _ _ _), (_, .inr (4, [_, _, _, _])), (_, aI _ _ _)]) 108 C [0] dX5_copy_105 rfl (k_X5_come E l  ) (cwV 1 C.2.2.2.2.1 gX5_copy_X5_come rfl rfl rfl cdX5_come ⟨Nat.le_of_ble_eq_true rfl, Nat.le_of_ble_eq_true rfl⟩) rfl rfl rfl rfl (Nat.le_of_ble_eq_true rfl) 0 5 rfl rfl rfl ⟨Nat.le_of_ble_eq_true rfl, Nat.le_of_ble_eq_true rfl⟩ rfl rfl ?_
            exact g_iret C hr dX5_copy_108 ⟨g_ri (by (have g0 : ¬ (¬ ((0 ≤ k ∧ k < 4) ∧ (0 ≤ o ∧ o < 4))) := (by omega)); (have g1 : ¬ (¬ th = 1) := (by omega)); (have g2 : ¬ ((0 ≤ i ∧ 0 ≤ n ∧ i + n ≤ sz) ∧ (0 ≤ j ∧ 0 ≤ n ∧ j + n ≤ sz)) := (by omega)); simp only [if_neg g0, if_neg g1, if_pos g2] <;> rfl), by (have g0 : ¬ (¬ ((0 ≤ k ∧ k < 4) ∧ (0 ≤ o ∧ o < 4))) := (by omega)); (have g1 : ¬ (¬ th = 1) := (by omega)); (have g2 : ¬ ((0 ≤ i ∧ 0 ≤ n ∧ i + n ≤ sz) ∧ (0 ≤ j ∧ 0 ≤ n ∧ j + n ≤ sz)) := (by omega)); (have x0 : ¬ (((0 ≤ k ∧ k < 4) ∧ (0 ≤ o ∧ o < 4)) ∧ th = 1 ∧ (0 ≤ i ∧ 0 ≤ n ∧ i + n ≤ sz) ∧ (0 ≤ j ∧ 0 ≤ n ∧ j + n ≤ sz)) := (by omega)); simp only [if_neg g0, if_neg g1, if_pos g2, if_neg x0] <;> rfl⟩
          · intro h87
            refine g_aload 92 C 0 dX5_copy_90 rfl rfl ?_
            refine g_iload 94 C 6 dX5_copy_92 rfl rfl ?_
            refine g_iload 96 C 7 dX5_copy_94 rfl rfl ?_
            refine g_i2l 97 C dX5_copy_96 rfl (by omega) ?_
            refine g_callVF 100 C [2] dX5_copy_97 rfl (k_X4_holds E l  (by first | assumption | omega) (by first | assumption | omega) (by first | assumption | omega)) (cwV 2 C.2.2.2.2.1 gX5_copy_X4_holds rfl rfl rfl cdX4_holds ⟨Nat.le_of_ble_eq_true rfl, Nat.le_of_ble_eq_true rfl⟩) rfl rfl rfl rfl (Nat.le_of_ble_eq_true rfl) 2 4 rfl rfl rfl ⟨Nat.le_of_ble_eq_true rfl, Nat.le_of_ble_eq_true rfl⟩ ?_
            refine g_ifb_ne 109 103 C dX5_copy_100 (by decide) rfl ?_ ?_
            · intro h100
              refine g_aload 111 C 0 dX5_copy_109 rfl rfl ?_
              refine g_aload 113 C 1 dX5_copy_111 rfl rfl ?_
              refine g_iload_n 114 C 4 dX5_copy_113 rfl rfl ?_
              refine g_iload 116 C 6 dX5_copy_114 rfl rfl ?_
              refine g_iload 118 C 7 dX5_copy_116 rfl rfl ?_
              refine g_callVU (ws' := [(_, .inr (5, [_, _, _, _, _, _, _])), (_, aQ _ _ _), (_, .inr (4, [_, _, _, _])), (_, aI _ _ _)]) 121 C [2, 3] dX5_copy_118 rfl (k_X4_writeFrom_s E l  (by first | assumption | omega) (by first | assumption | omega) (by first | assumption | omega) (by first | assumption | omega)) (cwV 4 C.2.2.2.2.1 gX5_copy_X4_writeFrom rfl rfl rfl cdX4_writeFrom ⟨Nat.le_of_ble_eq_true rfl, Nat.le_of_ble_eq_true rfl⟩) rfl rfl rfl rfl (Nat.le_of_ble_eq_true rfl) 2 4 rfl rfl rfl ⟨Nat.le_of_ble_eq_true rfl, Nat.le_of_ble_eq_true rfl⟩ rfl rfl ?_
              refine g_iload 123 C 7 dX5_copy_121 rfl rfl ?_
              exact g_iret C hr dX5_copy_123 ⟨g_ri (by (have g0 : ¬ (¬ ((0 ≤ k ∧ k < 4) ∧ (0 ≤ o ∧ o < 4))) := (by omega)); (have g1 : ¬ (¬ th = 1) := (by omega)); (have g2 : ¬ (¬ ((0 ≤ i ∧ 0 ≤ n ∧ i + n ≤ sz) ∧ (0 ≤ j ∧ 0 ≤ n ∧ j + n ≤ sz))) := (by omega)); simp only [if_neg g0, if_neg g1, if_neg g2] <;> rfl), by (have g0 : ¬ (¬ ((0 ≤ k ∧ k < 4) ∧ (0 ≤ o ∧ o < 4))) := (by omega)); (have g1 : ¬ (¬ th = 1) := (by omega)); (have g2 : ¬ (¬ ((0 ≤ i ∧ 0 ≤ n ∧ i + n ≤ sz) ∧ (0 ≤ j ∧ 0 ≤ n ∧ j + n ≤ sz))) := (by omega)); (have x0 : ((0 ≤ k ∧ k < 4) ∧ (0 ≤ o ∧ o < 4)) ∧ th = 1 ∧ (0 ≤ i ∧ 0 ≤ n ∧ i + n ≤ sz) ∧ (0 ≤ j ∧ 0 ≤ n ∧ j + n ≤ sz) := (by omega)); simp only [if_neg g0, if_neg g1, if_neg g2, if_pos x0] <;> rfl⟩
            · intro h100
              refine g_aload_n 104 C 2 dX5_copy_103 rfl rfl ?_
              refine g_iconst 105 C dX5_copy_104 rfl ?_
              refine g_callVU (ws' := [(_, .inr (5, [_, _, _, _, _, _, _])), (_, aQ _ _ _), (_, .inr (4, [_, _, _, _])), (_, aI _ _ _)]) 108 C [0] dX5_copy_105 rfl (k_X5_come E l  ) (cwV 1 C.2.2.2.2.1 gX5_copy_X5_come rfl rfl rfl cdX5_come ⟨Nat.le_of_ble_eq_true rfl, Nat.le_of_ble_eq_true rfl⟩) rfl rfl rfl rfl (Nat.le_of_ble_eq_true rfl) 0 5 rfl rfl rfl ⟨Nat.le_of_ble_eq_true rfl, Nat.le_of_ble_eq_true rfl⟩ rfl rfl ?_
              exact g_iret C hr dX5_copy_108 ⟨g_ri (by (have g0 : ¬ (¬ ((0 ≤ k ∧ k < 4) ∧ (0 ≤ o ∧ o < 4))) := (by omega)); (have g1 : ¬ (¬ th = 1) := (by omega)); (have g2 : ¬ ((0 ≤ i ∧ 0 ≤ n ∧ i + n ≤ sz) ∧ (0 ≤ j ∧ 0 ≤ n ∧ j + n ≤ sz)) := (by omega)); simp only [if_neg g0, if_neg g1, if_pos g2] <;> rfl), by (have g0 : ¬ (¬ ((0 ≤ k ∧ k < 4) ∧ (0 ≤ o ∧ o < 4))) := (by omega)); (have g1 : ¬ (¬ th = 1) := (by omega)); (have g2 : ¬ ((0 ≤ i ∧ 0 ≤ n ∧ i + n ≤ sz) ∧ (0 ≤ j ∧ 0 ≤ n ∧ j + n ≤ sz)) := (by omega)); (have x0 : ¬ (((0 ≤ k ∧ k < 4) ∧ (0 ≤ o ∧ o < 4)) ∧ th = 1 ∧ (0 ≤ i ∧ 0 ≤ n ∧ i + n ≤ sz) ∧ (0 ≤ j ∧ 0 ≤ n ∧ j + n ≤ sz)) := (by omega)); simp only [if_neg g0, if_neg g1, if_pos g2, if_neg x0] <;> rfl⟩
        · intro h50
          refine g_aload_n 54 C 2 dX5_copy_53 rfl rfl ?_
          refine g_iconst 55 C dX5_copy_54 rfl ?_
          refine g_callVU (ws' := [(_, .inr (5, [_, _, _, _, _, _, _])), (_, aQ _ _ _), (_, .inr (4, [_, _, _, _])), (_, aI _ _ _)]) 58 C [0] dX5_copy_55 rfl (k_X5_come E l  ) (cwV 1 C.2.2.2.2.1 gX5_copy_X5_come rfl rfl rfl cdX5_come ⟨Nat.le_of_ble_eq_true rfl, Nat.le_of_ble_eq_true rfl⟩) rfl rfl rfl rfl (Nat.le_of_ble_eq_true rfl) 0 5 rfl rfl rfl ⟨Nat.le_of_ble_eq_true rfl, Nat.le_of_ble_eq_true rfl⟩ rfl rfl ?_
          exact g_iret C hr dX5_copy_58 ⟨g_ri (by (have g0 : ¬ (¬ ((0 ≤ k ∧ k < 4) ∧ (0 ≤ o ∧ o < 4))) := (by omega)); (have g1 : ¬ th = 1 := (by omega)); simp only [if_neg g0, if_pos g1] <;> rfl), by (have g0 : ¬ (¬ ((0 ≤ k ∧ k < 4) ∧ (0 ≤ o ∧ o < 4))) := (by omega)); (have g1 : ¬ th = 1 := (by omega)); (have x0 : ¬ (((0 ≤ k ∧ k < 4) ∧ (0 ≤ o ∧ o < 4)) ∧ th = 1 ∧ (0 ≤ i ∧ 0 ≤ n ∧ i + n ≤ sz) ∧ (0 ≤ j ∧ 0 ≤ n ∧ j + n ≤ sz)) := (by omega)); simp only [if_neg g0, if_pos g1, if_neg x0] <;> rfl⟩
    · intro h16
      refine g_iconst 20 C dX5_copy_19 rfl ?_
      exact g_iret C hr dX5_copy_20 ⟨g_ri (by (have g0 : ¬ ((0 ≤ k ∧ k < 4) ∧ (0 ≤ o ∧ o < 4)) := (by omega)); simp only [if_pos g0] <;> rfl), by (have g0 : ¬ ((0 ≤ k ∧ k < 4) ∧ (0 ≤ o ∧ o < 4)) := (by omega)); (have x0 : ¬ (((0 ≤ k ∧ k < 4) ∧ (0 ≤ o ∧ o < 4)) ∧ th = 1 ∧ (0 ≤ i ∧ 0 ≤ n ∧ i + n ≤ sz) ∧ (0 ≤ j ∧ 0 ≤ n ∧ j + n ≤ sz)) := (by omega)); simp only [if_pos g0, if_neg x0] <;> rfl⟩
set_option maxHeartbeats 4000000 in
set_option maxRecDepth 100000 in
theorem k_X5_copy (E : gE) (l : Launch) {a_D a_L a_P a_Q a_R a_S a_T a_X a_ce a_cf : Nat} {k i o j n th ln sz th2 ln2 sz2 : Int} {ce cf : Int → Int} {sf : Int → Option Nat} {tr ft : Int} (hsf : 0 ≤ k ∧ k < 4 → sf k = some a_S) (hsg : 0 ≤ o ∧ o < 4 → sf o = some a_T) (hth : th = 0 ∨ th = 1) (hsz : 0 ≤ sz ∧ sz ≤ 50) (hln : 0 ≤ ln ∧ ln ≤ 2) (hk : -2147483648 ≤ k ∧ k < 2147483648) (ho : -2147483648 ≤ o ∧ o < 2147483648) (hi : -2147483648 ≤ i ∧ i < 2147483648) (hj : -2147483648 ≤ j ∧ j < 2147483648) (hn : -2147483648 ≤ n ∧ n < 2147483648) (hth2 : th2 = 0 ∨ th2 = 1) (hsz2 : 0 ≤ sz2 ∧ sz2 ≤ 50) (hln2 : 0 ≤ ln2 ∧ ln2 ≤ 2) : gUpd E l yX5_copy wsX5_copy { frames := 2, cells := 0, slots := 0, locals := 84 } [.ref a_X, .int (iI k), .int (iI i), .int (iI o), .int (iI j), .int (iI n)] [(a_X, .inr (5, [.ref a_P, .ref a_L, .ref a_R, .ref a_D, .ref a_Q, .int (iI tr), .int (iI ft)])), (a_Q, aQ E 4 sf), (a_S, .inr (4, [.ref a_ce, .int (iI th), .int (iI ln), .int (iI sz)])), (a_ce, aI E 50 ce), (a_T, .inr (4, [.ref a_cf, .int (iI th2), .int (iI ln2), .int (iI sz2)])), (a_cf, aI E 50 cf)] (some (.int (iI (if ¬ ((0 ≤ k ∧ k < 4) ∧ (0 ≤ o ∧ o < 4)) then -1 else if ¬ (th = 1 ∧ th2 = 1) then -11 else if ln ≠ ln2 then -12 else if ¬ ((0 ≤ i ∧ 0 ≤ n ∧ i + n ≤ sz) ∧ (0 ≤ j ∧ 0 ≤ n ∧ j + n ≤ sz2)) then -13 else n)))) [(a_X, .inr (5, [.ref a_P, .ref a_L, .ref a_R, .ref a_D, .ref a_Q, .int (iI tr), .int (iI (if ¬ ((0 ≤ k ∧ k < 4) ∧ (0 ≤ o ∧ o < 4)) then 0 else if ¬ (th = 1 ∧ th2 = 1) then 1 else if ln ≠ ln2 then 2 else if ¬ ((0 ≤ i ∧ 0 ≤ n ∧ i + n ≤ sz) ∧ (0 ≤ j ∧ 0 ≤ n ∧ j + n ≤ sz2)) then 3 else 0))])), (a_Q, aQ E 4 sf), (a_S, .inr (4, [.ref a_ce, .int (iI th), .int (iI ln), .int (iI sz)])), (a_ce, aI E 50 ce), (a_T, .inr (4, [.ref a_cf, .int (iI th2), .int (iI ln2), .int (iI sz2)])), (a_cf, aI E 50 (if ((0 ≤ k ∧ k < 4) ∧ (0 ≤ o ∧ o < 4)) ∧ (th = 1 ∧ th2 = 1) ∧ ln = ln2 ∧ (0 ≤ i ∧ 0 ≤ n ∧ i + n ≤ sz) ∧ (0 ≤ j ∧ 0 ≤ n ∧ j + n ≤ sz2) then cpI ce cf i j n else cf))] := by
  refine g_start (cc := cX5_copy) (maxL := 8) (ret := (some .int)) (by decide) rfl (Nat.le_of_ble_eq_true rfl) ?_
  intro p_ e_ s_ m_ args_ below_ meth_ c_ A_ C hr hnm
  refine g_aload_n 1 C 0 dX5_copy_0 rfl rfl ?_
  refine g_iconst 2 C dX5_copy_1 rfl ?_
  refine g_put (ws' := [(_, .inr (5, [_, _, _, _, _, _, _])), (_, aQ _ _ _), (_, .inr (4, [_, _, _, _])), (_, aI _ _ _), (_, .inr (4, [_, _, _, _])), (_, aI _ _ _)]) 5 C 0 6 5 tyX5 tyX5_ok nmX5 iX5_copy_X5 lX5_copy_90 dX5_copy_2 rfl rfl rfl (by decide) rfl rfl rfl (Nat.le_of_ble_eq_true rfl) rfl ?_
  refine g_iload_n 6 C 1 dX5_copy_5 rfl rfl ?_
  refine g_callSF 9 C [] dX5_copy_6 rfl (k_X5_isSheet E l  (by first | assumption | omega)) (va_cwS 1 C.2.2.2.2.1 gX5_copy_X5_isSheet rfl rfl rfl cdX5_isSheet ⟨Nat.le_of_ble_eq_true rfl, Nat.le_of_ble_eq_true rfl⟩) rfl rfl rfl rfl (Nat.le_of_ble_eq_true rfl) ⟨Nat.le_of_ble_eq_true rfl, Nat.le_of_ble_eq_true rfl⟩ ?_
  refine g_ifb_eq 19 12 C dX5_copy_9 (by decide) rfl ?_ ?_
  · intro h9
    refine g_iconst 20 C dX5_copy_19 rfl ?_
    exact g_iret C hr dX5_copy_20 ⟨g_ri (by (have g0 : ¬ ((0 ≤ k ∧ k < 4) ∧ (0 ≤ o ∧ o < 4)) := (by omega)); simp only [if_pos g0] <;> rfl), by (have g0 : ¬ ((0 ≤ k ∧ k < 4) ∧ (0 ≤ o ∧ o < 4)) := (by omega)); (have x0 : ¬ (((0 ≤ k ∧ k < 4) ∧ (0 ≤ o ∧ o < 4)) ∧ (th = 1 ∧ th2 = 1) ∧ ln = ln2 ∧ (0 ≤ i ∧ 0 ≤ n ∧ i + n ≤ sz) ∧ (0 ≤ j ∧ 0 ≤ n ∧ j + n ≤ sz2)) := (by omega)); simp only [if_pos g0, if_neg x0] <;> rfl⟩
  · intro h9
    refine g_iload_n 13 C 3 dX5_copy_12 rfl rfl ?_
    refine g_callSF 16 C [] dX5_copy_13 rfl (k_X5_isSheet E l  (by first | assumption | omega)) (va_cwS 1 C.2.2.2.2.1 gX5_copy_X5_isSheet rfl rfl rfl cdX5_isSheet ⟨Nat.le_of_ble_eq_true rfl, Nat.le_of_ble_eq_true rfl⟩) rfl rfl rfl rfl (Nat.le_of_ble_eq_true rfl) ⟨Nat.le_of_ble_eq_true rfl, Nat.le_of_ble_eq_true rfl⟩ ?_
    refine g_ifb_ne 21 19 C dX5_copy_16 (by decide) rfl ?_ ?_
    · intro h16
      refine g_aload_n 22 C 0 dX5_copy_21 rfl rfl ?_
      refine g_get 25 C 0 4 5 iX5_copy_X5 lX5_copy_43 dX5_copy_22 rfl rfl rfl (by decide) rfl ?_
      refine g_iload_n 26 C 1 dX5_copy_25 rfl rfl ?_
      refine g_aaload 27 C 1 dX5_copy_26 rfl rfl (by omega) (hsf (by omega)) ?_
      refine g_astore (lv' := [(6, _), (0, _), (1, _), (2, _), (3, _), (4, _), (5, _)]) 29 C dX5_copy_27 rfl (by decide) rfl ?_
      refine g_aload_n 30 C 1 dX5_copy_29 rfl rfl ?_
      refine g_get 33 C 0 4 5 iX5_copy_X5 lX5_copy_43 dX5_copy_30 rfl rfl rfl (by decide) rfl ?_
      refine g_iload_n 34 C 4 dX5_copy_33 rfl rfl ?_
      refine g_aaload 35 C 1 dX5_copy_34 rfl rfl (by omega) (hsg (by omega)) ?_
      refine g_astore (lv' := [(7, _), (6, _), (0, _), (1, _), (2, _), (3, _), (4, _), (5, _)]) 37 C dX5_copy_35 rfl (by decide) rfl ?_
      refine g_aload 39 C 1 dX5_copy_37 rfl rfl ?_
      refine g_callVF 42 C [2] dX5_copy_39 rfl (k_X4_isThere E l  (by first | assumption | omega)) (cwV 0 C.2.2.2.2.1 gX5_copy_X4_isThere rfl rfl rfl cdX4_isThere ⟨Nat.le_of_ble_eq_true rfl, Nat.le_of_ble_eq_true rfl⟩) rfl rfl rfl rfl (Nat.le_of_ble_eq_true rfl) 2 4 rfl rfl rfl ⟨Nat.le_of_ble_eq_true rfl, Nat.le_of_ble_eq_true rfl⟩ ?_
      refine g_if_eq 53 45 C dX5_copy_42 (by decide) rfl (by omega) ?_ ?_
      · intro h42
        refine g_aload_n 54 C 2 dX5_copy_53 rfl rfl ?_
        refine g_iconst 55 C dX5_copy_54 rfl ?_
        refine g_callVU (ws' := [(_, .inr (5, [_, _, _, _, _, _, _])), (_, aQ _ _ _), (_, .inr (4, [_, _, _, _])), (_, aI _ _ _), (_, .inr (4, [_, _, _, _])), (_, aI _ _ _)]) 58 C [0] dX5_copy_55 rfl (k_X5_come E l  ) (cwV 1 C.2.2.2.2.1 gX5_copy_X5_come rfl rfl rfl cdX5_come ⟨Nat.le_of_ble_eq_true rfl, Nat.le_of_ble_eq_true rfl⟩) rfl rfl rfl rfl (Nat.le_of_ble_eq_true rfl) 0 5 rfl rfl rfl ⟨Nat.le_of_ble_eq_true rfl, Nat.le_of_ble_eq_true rfl⟩ rfl rfl ?_
        exact g_iret C hr dX5_copy_58 ⟨g_ri (by (have g0 : ¬ (¬ ((0 ≤ k ∧ k < 4) ∧ (0 ≤ o ∧ o < 4))) := (by omega)); (have g1 : ¬ (th = 1 ∧ th2 = 1) := (by omega)); simp only [if_neg g0, if_pos g1] <;> rfl), by (have g0 : ¬ (¬ ((0 ≤ k ∧ k < 4) ∧ (0 ≤ o ∧ o < 4))) := (by omega)); (have g1 : ¬ (th = 1 ∧ th2 = 1) := (by omega)); (have x0 : ¬ (((0 ≤ k ∧ k < 4) ∧ (0 ≤ o ∧ o < 4)) ∧ (th = 1 ∧ th2 = 1) ∧ ln = ln2 ∧ (0 ≤ i ∧ 0 ≤ n ∧ i + n ≤ sz) ∧ (0 ≤ j ∧ 0 ≤ n ∧ j + n ≤ sz2)) := (by omega)); simp only [if_neg g0, if_pos g1, if_neg x0] <;> rfl⟩
      · intro h42
        refine g_aload 47 C 0 dX5_copy_45 rfl rfl ?_
        refine g_callVF 50 C [4] dX5_copy_47 rfl (k_X4_isThere E l  (by first | assumption | omega)) (cwV 0 C.2.2.2.2.1 gX5_copy_X4_isThere rfl rfl rfl cdX4_isThere ⟨Nat.le_of_ble_eq_true rfl, Nat.le_of_ble_eq_true rfl⟩) rfl rfl rfl rfl (Nat.le_of_ble_eq_true rfl) 4 4 rfl rfl rfl ⟨Nat.le_of_ble_eq_true rfl, Nat.le_of_ble_eq_true rfl⟩ ?_
        refine g_if_ne 59 53 C dX5_copy_50 (by decide) rfl (by omega) ?_ ?_
        · intro h50
          refine g_aload 61 C 1 dX5_copy_59 rfl rfl ?_
          refine g_aload 63 C 0 dX5_copy_61 rfl rfl ?_
          refine g_callVF 66 C [4] dX5_copy_63 rfl (k_X4_laneHeld E l  ) (cwV 0 C.2.2.2.2.1 gX5_copy_X4_laneHeld rfl rfl rfl cdX4_laneHeld ⟨Nat.le_of_ble_eq_true rfl, Nat.le_of_ble_eq_true rfl⟩) rfl rfl rfl rfl (Nat.le_of_ble_eq_true rfl) 4 4 rfl rfl rfl ⟨Nat.le_of_ble_eq_true rfl, Nat.le_of_ble_eq_true rfl⟩ ?_
          refine g_callVF 69 C [2] dX5_copy_66 rfl (k_X4_isOfOther E l  (by first | assumption | omega) (by first | assumption | omega) (by first | assumption | omega)) (cwV 1 C.2.2.2.2.1 gX5_copy_X4_isOfOther rfl rfl rfl cdX4_isOfOther ⟨Nat.le_of_ble_eq_true rfl, Nat.le_of_ble_eq_true rfl⟩) rfl rfl rfl rfl (Nat.le_of_ble_eq_true rfl) 2 4 rfl rfl rfl ⟨Nat.le_of_ble_eq_true rfl, Nat.le_of_ble_eq_true rfl⟩ ?_
          refine g_ifb_eq 78 72 C dX5_copy_69 (by decide) rfl ?_ ?_
          · intro h69
            refine g_aload 80 C 1 dX5_copy_78 rfl rfl ?_
            refine g_iload_n 81 C 4 dX5_copy_80 rfl rfl ?_
            refine g_iload 83 C 7 dX5_copy_81 rfl rfl ?_
            refine g_i2l 84 C dX5_copy_83 rfl (by omega) ?_
            refine g_callVF 87 C [2] dX5_copy_84 rfl (k_X4_holds E l  (by first | assumption | omega) (by first | assumption | omega) (by first | assumption | omega)) (cwV 2 C.2.2.2.2.1 gX5_copy_X4_holds rfl rfl rfl cdX4_holds ⟨Nat.le_of_ble_eq_true rfl, Nat.le_of_ble_eq_true rfl⟩) rfl rfl rfl rfl (Nat.le_of_ble_eq_true rfl) 2 4 rfl rfl rfl ⟨Nat.le_of_ble_eq_true rfl, Nat.le_of_ble_eq_true rfl⟩ ?_
            refine g_ifb_eq 103 90 C dX5_copy_87 (by decide) rfl ?_ ?_
            · intro h87
              refine g_aload_n 104 C 2 dX5_copy_103 rfl rfl ?_
              refine g_iconst 105 C dX5_copy_104 rfl ?_
              refine g_callVU (ws' := [(_, .inr (5, [_, _, _, _, _, _, _])), (_, aQ _ _ _), (_, .inr (4, [_, _, _, _])), (_, aI _ _ _), (_, .inr (4, [_, _, _, _])), (_, aI _ _ _)]) 108 C [0] dX5_copy_105 rfl (k_X5_come E l  ) (cwV 1 C.2.2.2.2.1 gX5_copy_X5_come rfl rfl rfl cdX5_come ⟨Nat.le_of_ble_eq_true rfl, Nat.le_of_ble_eq_true rfl⟩) rfl rfl rfl rfl (Nat.le_of_ble_eq_true rfl) 0 5 rfl rfl rfl ⟨Nat.le_of_ble_eq_true rfl, Nat.le_of_ble_eq_true rfl⟩ rfl rfl ?_
              exact g_iret C hr dX5_copy_108 ⟨g_ri (by (have g0 : ¬ (¬ ((0 ≤ k ∧ k < 4) ∧ (0 ≤ o ∧ o < 4))) := (by omega)); (have g1 : ¬ (¬ (th = 1 ∧ th2 = 1)) := (by omega)); (have g2 : ¬ (ln ≠ ln2) := (by omega)); (have g3 : ¬ ((0 ≤ i ∧ 0 ≤ n ∧ i + n ≤ sz) ∧ (0 ≤ j ∧ 0 ≤ n ∧ j + n ≤ sz2)) := (by omega)); simp only [if_neg g0, if_neg g1, if_neg g2, if_pos g3] <;> rfl), by (have g0 : ¬ (¬ ((0 ≤ k ∧ k < 4) ∧ (0 ≤ o ∧ o < 4))) := (by omega)); (have g1 : ¬ (¬ (th = 1 ∧ th2 = 1)) := (by omega)); (have g2 : ¬ (ln ≠ ln2) := (by omega)); (have g3 : ¬ ((0 ≤ i ∧ 0 ≤ n ∧ i + n ≤ sz) ∧ (0 ≤ j ∧ 0 ≤ n ∧ j + n ≤ sz2)) := (by omega)); (have x0 : ¬ (((0 ≤ k ∧ k < 4) ∧ (0 ≤ o ∧ o < 4)) ∧ (th = 1 ∧ th2 = 1) ∧ ln = ln2 ∧ (0 ≤ i ∧ 0 ≤ n ∧ i + n ≤ sz) ∧ (0 ≤ j ∧ 0 ≤ n ∧ j + n ≤ sz2)) := (by omega)); simp only [if_neg g0, if_neg g1, if_neg g2, if_pos g3, if_neg x0] <;> rfl⟩
            · intro h87
              refine g_aload 92 C 0 dX5_copy_90 rfl rfl ?_
              refine g_iload 94 C 6 dX5_copy_92 rfl rfl ?_
              refine g_iload 96 C 7 dX5_copy_94 rfl rfl ?_
              refine g_i2l 97 C dX5_copy_96 rfl (by omega) ?_
              refine g_callVF 100 C [4] dX5_copy_97 rfl (k_X4_holds E l  (by first | assumption | omega) (by first | assumption | omega) (by first | assumption | omega)) (cwV 2 C.2.2.2.2.1 gX5_copy_X4_holds rfl rfl rfl cdX4_holds ⟨Nat.le_of_ble_eq_true rfl, Nat.le_of_ble_eq_true rfl⟩) rfl rfl rfl rfl (Nat.le_of_ble_eq_true rfl) 4 4 rfl rfl rfl ⟨Nat.le_of_ble_eq_true rfl, Nat.le_of_ble_eq_true rfl⟩ ?_
              refine g_ifb_ne 109 103 C dX5_copy_100 (by decide) rfl ?_ ?_
              · intro h100
                refine g_aload 111 C 0 dX5_copy_109 rfl rfl ?_
                refine g_aload 113 C 1 dX5_copy_111 rfl rfl ?_
                refine g_iload_n 114 C 4 dX5_copy_113 rfl rfl ?_
                refine g_iload 116 C 6 dX5_copy_114 rfl rfl ?_
                refine g_iload 118 C 7 dX5_copy_116 rfl rfl ?_
                refine g_callVU (ws' := [(_, .inr (5, [_, _, _, _, _, _, _])), (_, aQ _ _ _), (_, .inr (4, [_, _, _, _])), (_, aI _ _ _), (_, .inr (4, [_, _, _, _])), (_, aI _ _ _)]) 121 C [4, 5, 2, 3] dX5_copy_118 rfl (k_X4_writeFrom E l  (by first | assumption | omega) (by first | assumption | omega) (by omega) (by omega) (by omega)) (cwV 4 C.2.2.2.2.1 gX5_copy_X4_writeFrom rfl rfl rfl cdX4_writeFrom ⟨Nat.le_of_ble_eq_true rfl, Nat.le_of_ble_eq_true rfl⟩) rfl rfl rfl rfl (Nat.le_of_ble_eq_true rfl) 4 4 rfl rfl rfl ⟨Nat.le_of_ble_eq_true rfl, Nat.le_of_ble_eq_true rfl⟩ rfl rfl ?_
                refine g_iload 123 C 7 dX5_copy_121 rfl rfl ?_
                exact g_iret C hr dX5_copy_123 ⟨g_ri (by (have g0 : ¬ (¬ ((0 ≤ k ∧ k < 4) ∧ (0 ≤ o ∧ o < 4))) := (by omega)); (have g1 : ¬ (¬ (th = 1 ∧ th2 = 1)) := (by omega)); (have g2 : ¬ (ln ≠ ln2) := (by omega)); (have g3 : ¬ (¬ ((0 ≤ i ∧ 0 ≤ n ∧ i + n ≤ sz) ∧ (0 ≤ j ∧ 0 ≤ n ∧ j + n ≤ sz2))) := (by omega)); simp only [if_neg g0, if_neg g1, if_neg g2, if_neg g3] <;> rfl), by (have g0 : ¬ (¬ ((0 ≤ k ∧ k < 4) ∧ (0 ≤ o ∧ o < 4))) := (by omega)); (have g1 : ¬ (¬ (th = 1 ∧ th2 = 1)) := (by omega)); (have g2 : ¬ (ln ≠ ln2) := (by omega)); (have g3 : ¬ (¬ ((0 ≤ i ∧ 0 ≤ n ∧ i + n ≤ sz) ∧ (0 ≤ j ∧ 0 ≤ n ∧ j + n ≤ sz2))) := (by omega)); (have x0 : ((0 ≤ k ∧ k < 4) ∧ (0 ≤ o ∧ o < 4)) ∧ (th = 1 ∧ th2 = 1) ∧ ln = ln2 ∧ (0 ≤ i ∧ 0 ≤ n ∧ i + n ≤ sz) ∧ (0 ≤ j ∧ 0 ≤ n ∧ j + n ≤ sz2) := (by omega)); simp only [if_neg g0, if_neg g1, if_neg g2, if_neg g3, if_pos x0] <;> rfl⟩
              · intro h100
                refine g_aload_n 104 C 2 dX5_copy_103 rfl rfl ?_
                refine g_iconst 105 C dX5_copy_104 rfl ?_
                refine g_callVU (ws' := [(_, .inr (5, [_, _, _, _, _, _, _])), (_, aQ _ _ _), (_, .inr (4, [_, _, _, _])), (_, aI _ _ _), (_, .inr (4, [_, _, _, _])), (_, aI _ _ _)]) 108 C [0] dX5_copy_105 rfl (k_X5_come E l  ) (cwV 1 C.2.2.2.2.1 gX5_copy_X5_come rfl rfl rfl cdX5_come ⟨Nat.le_of_ble_eq_true rfl, Nat.le_of_ble_eq_true rfl⟩) rfl rfl rfl rfl (Nat.le_of_ble_eq_true rfl) 0 5 rfl rfl rfl ⟨Nat.le_of_ble_eq_true rfl, Nat.le_of_ble_eq_true rfl⟩ rfl rfl ?_
                exact g_iret C hr dX5_copy_108 ⟨g_ri (by (have g0 : ¬ (¬ ((0 ≤ k ∧ k < 4) ∧ (0 ≤ o ∧ o < 4))) := (by omega)); (have g1 : ¬ (¬ (th = 1 ∧ th2 = 1)) := (by omega)); (have g2 : ¬ (ln ≠ ln2) := (by omega)); (have g3 : ¬ ((0 ≤ i ∧ 0 ≤ n ∧ i + n ≤ sz) ∧ (0 ≤ j ∧ 0 ≤ n ∧ j + n ≤ sz2)) := (by omega)); simp only [if_neg g0, if_neg g1, if_neg g2, if_pos g3] <;> rfl), by (have g0 : ¬ (¬ ((0 ≤ k ∧ k < 4) ∧ (0 ≤ o ∧ o < 4))) := (by omega)); (have g1 : ¬ (¬ (th = 1 ∧ th2 = 1)) := (by omega)); (have g2 : ¬ (ln ≠ ln2) := (by omega)); (have g3 : ¬ ((0 ≤ i ∧ 0 ≤ n ∧ i + n ≤ sz) ∧ (0 ≤ j ∧ 0 ≤ n ∧ j + n ≤ sz2)) := (by omega)); (have x0 : ¬ (((0 ≤ k ∧ k < 4) ∧ (0 ≤ o ∧ o < 4)) ∧ (th = 1 ∧ th2 = 1) ∧ ln = ln2 ∧ (0 ≤ i ∧ 0 ≤ n ∧ i + n ≤ sz) ∧ (0 ≤ j ∧ 0 ≤ n ∧ j + n ≤ sz2)) := (by omega)); simp only [if_neg g0, if_neg g1, if_neg g2, if_pos g3, if_neg x0] <;> rfl⟩
          · intro h69
            refine g_aload_n 73 C 2 dX5_copy_72 rfl rfl ?_
            refine g_iconst 74 C dX5_copy_73 rfl ?_
            refine g_callVU (ws' := [(_, .inr (5, [_, _, _, _, _, _, _])), (_, aQ _ _ _), (_, .inr (4, [_, _, _, _])), (_, aI _ _ _), (_, .inr (4, [_, _, _, _])), (_, aI _ _ _)]) 77 C [0] dX5_copy_74 rfl (k_X5_come E l  ) (cwV 1 C.2.2.2.2.1 gX5_copy_X5_come rfl rfl rfl cdX5_come ⟨Nat.le_of_ble_eq_true rfl, Nat.le_of_ble_eq_true rfl⟩) rfl rfl rfl rfl (Nat.le_of_ble_eq_true rfl) 0 5 rfl rfl rfl ⟨Nat.le_of_ble_eq_true rfl, Nat.le_of_ble_eq_true rfl⟩ rfl rfl ?_
            exact g_iret C hr dX5_copy_77 ⟨g_ri (by (have g0 : ¬ (¬ ((0 ≤ k ∧ k < 4) ∧ (0 ≤ o ∧ o < 4))) := (by omega)); (have g1 : ¬ (¬ (th = 1 ∧ th2 = 1)) := (by omega)); (have g2 : ln ≠ ln2 := (by omega)); simp only [if_neg g0, if_neg g1, if_pos g2] <;> rfl), by (have g0 : ¬ (¬ ((0 ≤ k ∧ k < 4) ∧ (0 ≤ o ∧ o < 4))) := (by omega)); (have g1 : ¬ (¬ (th = 1 ∧ th2 = 1)) := (by omega)); (have g2 : ln ≠ ln2 := (by omega)); (have x0 : ¬ (((0 ≤ k ∧ k < 4) ∧ (0 ≤ o ∧ o < 4)) ∧ (th = 1 ∧ th2 = 1) ∧ ln = ln2 ∧ (0 ≤ i ∧ 0 ≤ n ∧ i + n ≤ sz) ∧ (0 ≤ j ∧ 0 ≤ n ∧ j + n ≤ sz2)) := (by omega)); simp only [if_neg g0, if_neg g1, if_pos g2, if_neg x0] <;> rfl⟩
        · intro h50
          refine g_aload_n 54 C 2 dX5_copy_53 rfl rfl ?_
          refine g_iconst 55 C dX5_copy_54 rfl ?_
          refine g_callVU (ws' := [(_, .inr (5, [_, _, _, _, _, _, _])), (_, aQ _ _ _), (_, .inr (4, [_, _, _, _])), (_, aI _ _ _), (_, .inr (4, [_, _, _, _])), (_, aI _ _ _)]) 58 C [0] dX5_copy_55 rfl (k_X5_come E l  ) (cwV 1 C.2.2.2.2.1 gX5_copy_X5_come rfl rfl rfl cdX5_come ⟨Nat.le_of_ble_eq_true rfl, Nat.le_of_ble_eq_true rfl⟩) rfl rfl rfl rfl (Nat.le_of_ble_eq_true rfl) 0 5 rfl rfl rfl ⟨Nat.le_of_ble_eq_true rfl, Nat.le_of_ble_eq_true rfl⟩ rfl rfl ?_
          exact g_iret C hr dX5_copy_58 ⟨g_ri (by (have g0 : ¬ (¬ ((0 ≤ k ∧ k < 4) ∧ (0 ≤ o ∧ o < 4))) := (by omega)); (have g1 : ¬ (th = 1 ∧ th2 = 1) := (by omega)); simp only [if_neg g0, if_pos g1] <;> rfl), by (have g0 : ¬ (¬ ((0 ≤ k ∧ k < 4) ∧ (0 ≤ o ∧ o < 4))) := (by omega)); (have g1 : ¬ (th = 1 ∧ th2 = 1) := (by omega)); (have x0 : ¬ (((0 ≤ k ∧ k < 4) ∧ (0 ≤ o ∧ o < 4)) ∧ (th = 1 ∧ th2 = 1) ∧ ln = ln2 ∧ (0 ≤ i ∧ 0 ≤ n ∧ i + n ≤ sz) ∧ (0 ≤ j ∧ 0 ≤ n ∧ j + n ≤ sz2)) := (by omega)); simp only [if_neg g0, if_pos g1, if_neg x0] <;> rfl⟩
    · intro h16
      refine g_iconst 20 C dX5_copy_19 rfl ?_
      exact g_iret C hr dX5_copy_20 ⟨g_ri (by (have g0 : ¬ ((0 ≤ k ∧ k < 4) ∧ (0 ≤ o ∧ o < 4)) := (by omega)); simp only [if_pos g0] <;> rfl), by (have g0 : ¬ ((0 ≤ k ∧ k < 4) ∧ (0 ≤ o ∧ o < 4)) := (by omega)); (have x0 : ¬ (((0 ≤ k ∧ k < 4) ∧ (0 ≤ o ∧ o < 4)) ∧ (th = 1 ∧ th2 = 1) ∧ ln = ln2 ∧ (0 ≤ i ∧ 0 ≤ n ∧ i + n ≤ sz) ∧ (0 ≤ j ∧ 0 ≤ n ∧ j + n ≤ sz2)) := (by omega)); simp only [if_pos g0, if_neg x0] <;> rfl⟩
set_option maxHeartbeats 4000000 in
set_option maxRecDepth 100000 in
theorem k_X5_areHeights (E : gE) (l : Launch) {a_S a_ce : Nat} {i n th ln sz : Int} {ce : Int → Int} (hsz : 0 ≤ sz ∧ sz ≤ 50) (hce : ∀ j : Int, -2147483648 ≤ ce j ∧ ce j < 2147483648) (hi : 0 ≤ i ∧ 0 ≤ n ∧ i + n ≤ sz) : gFun E l yX5_areHeights wsX5_areHeights { frames := 2, cells := 0, slots := 0, locals := 44 } [.ref a_S, .int (iI i), .int (iI n)] [(a_S, .inr (4, [.ref a_ce, .int (iI th), .int (iI ln), .int (iI sz)])), (a_ce, aI E 50 ce)] (.int (iI (cI (∀ c : Int, i ≤ c → c < i + n → -9 ≤ ce c ∧ ce c ≤ 9) 1 0))) := by
  refine g_start (cc := cX5_areHeights) (maxL := 4) (ret := (some .boolean)) (by decide) rfl (Nat.le_of_ble_eq_true rfl) ?_
  intro p_ e_ s_ m_ args_ below_ meth_ c_ A_ C hr hnm
  refine g_iload_n 1 C 1 dX5_areHeights_0 rfl rfl ?_
  refine g_istore_n (lv' := [(3, _), (0, _), (1, _), (2, _)]) 2 C dX5_areHeights_1 rfl rfl (by decide) rfl ?_
  refine g_loop (α := Int) (fun zz => [(a_S, .inr (4, [.ref a_ce, .int (iI th), .int (iI ln), .int (iI sz)])), (a_ce, aI E 50 ce)]) (fun zz => [(3, .int (iI zz)), (2, .int (iI n)), (1, .int (iI i)), (0, .ref a_S)]) (fun zz => (i ≤ zz ∧ zz ≤ i + n) ∧ ∀ j : Int, i ≤ j → j < zz → -9 ≤ ce j ∧ ce j ≤ 9) (fun zz => (i + n - zz).toNat) (i) (by
            try dsimp only
            exact ⟨by omega, fun j h1 Hn => by omega⟩) [0, 3, 2, 1] rfl rfl ?_
  rintro c hI ih2
  try dsimp only at hI ih2 ⊢
  obtain ⟨hc, hA⟩ := hI
  refine g_iload_n 3 C 0 dX5_areHeights_2 rfl rfl ?_
  refine g_iload_n 4 C 2 dX5_areHeights_3 rfl rfl ?_
  refine g_iload_n 5 C 1 dX5_areHeights_4 rfl rfl ?_
  refine g_iadd 6 C dX5_areHeights_5 rfl ?_
  refine g_icmp_ge 28 9 C dX5_areHeights_6 (by decide) rfl (by omega) ?_ ?_
  · intro h6
    refine g_iconst 29 C dX5_areHeights_28 rfl ?_
    exact g_zret C hr dX5_areHeights_29 (by first | rfl | decide | (split <;> rfl)) ⟨g_ri ((cI_t (fun j h1 Hn => hA j h1 (by omega))).symm), rfl⟩
  · intro h6
    refine g_aload_n 10 C 3 dX5_areHeights_9 rfl rfl ?_
    refine g_iload_n 11 C 0 dX5_areHeights_10 rfl rfl ?_
    refine g_callVF 14 C [0, 1] dX5_areHeights_11 rfl (k_X4_read E l  (by first | assumption | omega) (by first | assumption | omega)) (cwV 1 C.2.2.2.2.1 gX5_areHeights_X4_read rfl rfl rfl cdX4_read ⟨Nat.le_of_ble_eq_true rfl, Nat.le_of_ble_eq_true rfl⟩) rfl rfl rfl rfl (Nat.le_of_ble_eq_true rfl) 0 4 rfl rfl rfl ⟨Nat.le_of_ble_eq_true rfl, Nat.le_of_ble_eq_true rfl⟩ ?_
    have e0 := hce c
    refine g_callSF 17 C [] dX5_areHeights_14 rfl (k_X5_isHeight E l  (by first | assumption | omega)) (va_cwS 1 C.2.2.2.2.1 gX5_areHeights_X5_isHeight rfl rfl rfl cdX5_isHeight ⟨Nat.le_of_ble_eq_true rfl, Nat.le_of_ble_eq_true rfl⟩) rfl rfl rfl rfl (Nat.le_of_ble_eq_true rfl) ⟨Nat.le_of_ble_eq_true rfl, Nat.le_of_ble_eq_true rfl⟩ ?_
    refine g_ifb_ne 22 20 C dX5_areHeights_17 (by decide) rfl ?_ ?_
    · intro h17
      refine g_iinc (lv' := [(3, _), (2, _), (1, _), (0, _)]) 25 C 0 dX5_areHeights_22 rfl rfl (by decide) rfl ?_
      refine g_goto 2 C dX5_areHeights_25 (by decide) ?_
      exact g_w [0, 1, 2, 3] rfl rfl (ih2 ((c + 1)) (by
            try dsimp only
            exact ⟨by omega, fun j h1 Hn => by
              by_cases z : j = c
              · rw [z]; assumption
              · exact hA j h1 (by omega)⟩) (by (try dsimp only); omega))
    · intro h17
      refine g_iconst 21 C dX5_areHeights_20 rfl ?_
      exact g_zret C hr dX5_areHeights_21 (by first | rfl | decide | (split <;> rfl)) ⟨g_ri ((cI_f (fun q => by have := q c (by omega) (by omega); omega)).symm), rfl⟩
theorem lX5_shapeFrom_12 : Cond.fieldLink RX5 12 (TX5 0).1 (TX5 0).2.1 (TX5 0).2.2.1 ∈ wsX5_shapeFrom := by decide +kernel
theorem iX5_shapeFrom_X5 : ∀ w ∈ u_ws RX5 TX5 7, w ∈ wsX5_shapeFrom := by decide +kernel
set_option maxHeartbeats 4000000 in
set_option maxRecDepth 100000 in
theorem k_X5_shapeFrom (E : gE) (l : Launch) {a_D a_L a_P a_Q a_R a_S a_X a_ce a_hs a_se : Nat} {W h i n s th ln sz : Int} {hs ce : Int → Int} {tr ft : Int} (hB : 1 ≤ W ∧ W ≤ 5 ∧ 1 ≤ h ∧ h ≤ 5) (hsz : 0 ≤ sz ∧ sz ≤ 50) (hi : 0 ≤ i ∧ 0 ≤ n ∧ i + n * 5 ≤ sz) (hs0 : 0 ≤ s ∧ s + n ≤ nsd W h) : gUpd E l yX5_shapeFrom wsX5_shapeFrom { frames := 2, cells := 0, slots := 0, locals := 44 } [.ref a_X, .ref a_S, .int (iI i), .int (iI n), .int (iI s)] [(a_X, .inr (5, [.ref a_P, .ref a_L, .ref a_R, .ref a_D, .ref a_Q, .int (iI tr), .int (iI ft)])), (a_P, .inr (1, [.ref a_hs, .ref a_se, .int (iI W), .int (iI h)])), (a_hs, aI E 200 hs), (a_S, .inr (4, [.ref a_ce, .int (iI th), .int (iI ln), .int (iI sz)])), (a_ce, aI E 50 ce)] none [(a_X, .inr (5, [.ref a_P, .ref a_L, .ref a_R, .ref a_D, .ref a_Q, .int (iI tr), .int (iI ft)])), (a_P, .inr (1, [.ref a_hs, .ref a_se, .int (iI W), .int (iI h)])), (a_hs, aI E 200 (shI hs ce s i (n * 5))), (a_S, .inr (4, [.ref a_ce, .int (iI th), .int (iI ln), .int (iI sz)])), (a_ce, aI E 50 ce)] := by
  refine g_start (cc := cX5_shapeFrom) (maxL := 7) (ret := none) (by decide) rfl (Nat.le_of_ble_eq_true rfl) ?_
  intro p_ e_ s_ m_ args_ below_ meth_ c_ A_ C hr hnm
  have hn := nsd_b hB
  refine g_iconst 1 C dX5_shapeFrom_0 rfl ?_
  refine g_istore (lv' := [(5, _), (0, _), (1, _), (2, _), (3, _), (4, _)]) 3 C dX5_shapeFrom_1 rfl (by decide) rfl ?_
  refine g_loop (α := Int) (fun zz => [(a_X, .inr (5, [.ref a_P, .ref a_L, .ref a_R, .ref a_D, .ref a_Q, .int (iI tr), .int (iI ft)])), (a_P, .inr (1, [.ref a_hs, .ref a_se, .int (iI W), .int (iI h)])), (a_hs, aI E 200 (shI hs ce s i (zz * 5))), (a_S, .inr (4, [.ref a_ce, .int (iI th), .int (iI ln), .int (iI sz)])), (a_ce, aI E 50 ce)]) (fun zz => [(5, .int (iI zz)), (4, .int (iI s)), (3, .int (iI n)), (2, .int (iI i)), (1, .ref a_S), (0, .ref a_X)]) (fun zz => 0 ≤ zz ∧ zz ≤ n) (fun zz => (n - zz).toNat) (0) (by (try dsimp only); omega) [0, 5, 4, 3, 2, 1] (by rw [show (0 : Int) * 5 = 0 by omega, shI_0]) rfl ?_
  rintro c hI ih3
  try dsimp only at hI ih3 ⊢
  obtain ⟨hc0, hcn⟩ := hI
  refine g_iload 5 C 0 dX5_shapeFrom_3 rfl rfl ?_
  refine g_iload_n 6 C 2 dX5_shapeFrom_5 rfl rfl ?_
  refine g_icmp_ge 57 9 C dX5_shapeFrom_6 (by decide) rfl (by omega) ?_ ?_
  · intro h6
    exact g_vret C hr dX5_shapeFrom_57 ⟨rfl, by rw [show n = c by omega]⟩
  · intro h6
    refine g_iconst 10 C dX5_shapeFrom_9 rfl ?_
    refine g_istore (lv' := [(6, _), (5, _), (4, _), (3, _), (2, _), (1, _), (0, _)]) 12 C dX5_shapeFrom_10 rfl (by decide) rfl ?_
    refine g_loop (α := Int) (fun zz => [(a_X, .inr (5, [.ref a_P, .ref a_L, .ref a_R, .ref a_D, .ref a_Q, .int (iI tr), .int (iI ft)])), (a_P, .inr (1, [.ref a_hs, .ref a_se, .int (iI W), .int (iI h)])), (a_hs, aI E 200 (shI hs ce s i (c * 5 + zz))), (a_S, .inr (4, [.ref a_ce, .int (iI th), .int (iI ln), .int (iI sz)])), (a_ce, aI E 50 ce)]) (fun zz => [(6, .int (iI zz)), (5, .int (iI c)), (4, .int (iI s)), (3, .int (iI n)), (2, .int (iI i)), (1, .ref a_S), (0, .ref a_X)]) (fun zz => 0 ≤ zz ∧ zz ≤ 5) (fun zz => (5 - zz).toNat) (0) (by (try dsimp only); omega) [0, 1, 2, 3, 4, 5, 6] (by rw [show c * 5 + 0 = c * 5 by omega]) rfl ?_
    rintro t hI ih12
    try dsimp only at hI ih12 ⊢
    obtain ⟨ht0, ht5⟩ := hI
    refine g_iload 14 C 0 dX5_shapeFrom_12 rfl rfl ?_
    refine g_iconst 15 C dX5_shapeFrom_14 rfl ?_
    refine g_icmp_ge 51 18 C dX5_shapeFrom_15 (by decide) rfl (by omega) ?_ ?_
    · intro h15
      refine g_iinc (lv' := [(5, _), (6, _), (4, _), (3, _), (2, _), (1, _), (0, _)]) 54 C 1 dX5_shapeFrom_51 rfl rfl (by decide) rfl ?_
      refine g_goto 3 C dX5_shapeFrom_54 (by decide) ?_
      exact g_w [0, 2, 3, 4, 5, 6] (by (try dsimp only); rw [show (c + 1) * 5 = c * 5 + t by omega]) rfl (ih3 ((c + 1)) (by (try dsimp only); omega) (by (try dsimp only); omega))
    · intro h15
      refine g_aload_n 19 C 6 dX5_shapeFrom_18 rfl rfl ?_
      refine g_get 22 C 0 0 5 iX5_shapeFrom_X5 lX5_shapeFrom_12 dX5_shapeFrom_19 rfl rfl rfl (by decide) rfl ?_
      refine g_iload 24 C 2 dX5_shapeFrom_22 rfl rfl ?_
      refine g_iload 26 C 1 dX5_shapeFrom_24 rfl rfl ?_
      refine g_iadd 27 C dX5_shapeFrom_26 rfl ?_
      refine g_iload 29 C 0 dX5_shapeFrom_27 rfl rfl ?_
      refine g_aload_n 30 C 5 dX5_shapeFrom_29 rfl rfl ?_
      refine g_iload_n 31 C 4 dX5_shapeFrom_30 rfl rfl ?_
      refine g_iload 33 C 1 dX5_shapeFrom_31 rfl rfl ?_
      refine g_iconst 34 C dX5_shapeFrom_33 rfl ?_
      refine g_imul 35 C dX5_shapeFrom_34 rfl ?_
      refine g_iadd 36 C dX5_shapeFrom_35 rfl ?_
      refine g_iload 38 C 0 dX5_shapeFrom_36 rfl rfl ?_
      refine g_iadd 39 C dX5_shapeFrom_38 rfl ?_
      refine g_callVF 42 C [3, 4] dX5_shapeFrom_39 rfl (k_X4_read E l  (by first | assumption | omega) (by omega)) (cwV 1 C.2.2.2.2.1 gX5_shapeFrom_X4_read rfl rfl rfl cdX4_read ⟨Nat.le_of_ble_eq_true rfl, Nat.le_of_ble_eq_true rfl⟩) rfl rfl rfl rfl (Nat.le_of_ble_eq_true rfl) 3 4 rfl rfl rfl ⟨Nat.le_of_ble_eq_true rfl, Nat.le_of_ble_eq_true rfl⟩ ?_
      refine g_callVU (ws' := [(_, .inr (5, [_, _, _, _, _, _, _])), (_, .inr (1, [_, _, _, _])), (_, aI _ _ _), (_, .inr (4, [_, _, _, _])), (_, aI _ _ _)]) 45 C [1, 2] dX5_shapeFrom_42 rfl (k_X1_setHeight E l  (by omega) (by omega)) (cwV 3 C.2.2.2.2.1 gX5_shapeFrom_X1_setHeight rfl rfl rfl cdX1_setHeight ⟨Nat.le_of_ble_eq_true rfl, Nat.le_of_ble_eq_true rfl⟩) rfl rfl rfl rfl (Nat.le_of_ble_eq_true rfl) 1 1 rfl rfl rfl ⟨Nat.le_of_ble_eq_true rfl, Nat.le_of_ble_eq_true rfl⟩ rfl rfl ?_
      refine g_iinc (lv' := [(6, _), (5, _), (4, _), (3, _), (2, _), (1, _), (0, _)]) 48 C 0 dX5_shapeFrom_45 rfl rfl (by decide) rfl ?_
      refine g_goto 12 C dX5_shapeFrom_48 (by decide) ?_
      exact g_w [0, 1, 2, 3, 4, 5, 6] (by (try dsimp only); rw [show c * 5 + (t + 1) = c * 5 + t + 1 by omega, ← shI_s hs ce (by omega), show s * 5 + (c * 5 + t) = (s + c) * 5 + t by omega, show i + (c * 5 + t) = i + c * 5 + t by omega]) rfl (ih12 ((t + 1)) (by (try dsimp only); omega) (by (try dsimp only); omega))
theorem cdX5_areHeights : yX5_areHeights.cls ≠ "java/lang/invoke/MethodHandle" ∧ yX5_areHeights.cls ≠ "java/lang/invoke/VarHandle" ∧ (parseMethodDescriptor yX5_areHeights.desc).map (fun d => d.parameters.length) = some 3 := by decide +kernel
theorem cdX5_shapeFrom : yX5_shapeFrom.cls = RX5 ∧ yX5_shapeFrom.cls ≠ "java/lang/invoke/MethodHandle" ∧ yX5_shapeFrom.cls ≠ "java/lang/invoke/VarHandle" ∧ (parseMethodDescriptor yX5_shapeFrom.desc).map (fun d => d.parameters.length) = some 4 := by decide +kernel
theorem lX5_shape_12 : Cond.fieldLink RX5 12 (TX5 0).1 (TX5 0).2.1 (TX5 0).2.2.1 ∈ wsX5_shape := by decide +kernel
theorem lX5_shape_30 : Cond.fieldLink RX5 30 (TX5 2).1 (TX5 2).2.1 (TX5 2).2.2.1 ∈ wsX5_shape := by decide +kernel
theorem lX5_shape_43 : Cond.fieldLink RX5 43 (TX5 4).1 (TX5 4).2.1 (TX5 4).2.2.1 ∈ wsX5_shape := by decide +kernel
theorem lX5_shape_90 : Cond.fieldLink RX5 90 (TX5 6).1 (TX5 6).2.1 (TX5 6).2.2.1 ∈ wsX5_shape := by decide +kernel
theorem lX5_shape_110 : Cond.constantLong RX5 110 (5) ∈ wsX5_shape := by decide +kernel
theorem iX5_shape_X5 : ∀ w ∈ u_ws RX5 TX5 7, w ∈ wsX5_shape := by decide +kernel
set_option maxHeartbeats 4000000 in
set_option maxRecDepth 100000 in
theorem k_X5_shape (E : gE) (l : Launch) {a_D a_L a_P a_Q a_R a_S a_X a_ce a_fi a_hs a_jl a_ly a_se a_sh a_us a_wa : Nat} {W h k t i n s th ln sz : Int} {hs ce : Int → Int} {sf : Int → Option Nat} {tr ft : Int} {jo fo sp fd tc : Int} (hB : 1 ≤ W ∧ W ≤ 5 ∧ 1 ≤ h ∧ h ≤ 5) (hsf : 0 ≤ k ∧ k < 4 → sf k = some a_S) (hth : th = 0 ∨ th = 1) (hsz : 0 ≤ sz ∧ sz ≤ 50) (hln : 0 ≤ ln ∧ ln ≤ 2) (hce : ∀ j : Int, -2147483648 ≤ ce j ∧ ce j < 2147483648) (hk : -2147483648 ≤ k ∧ k < 2147483648) (ht : -2147483648 ≤ t ∧ t < 2147483648) (hi : -2147483648 ≤ i ∧ i < 2147483648) (hn : -2147483648 ≤ n ∧ n < 2147483648) (hs0 : -2147483648 ≤ s ∧ s < 2147483648) : gUpd E l yX5_shape wsX5_shape { frames := 3, cells := 0, slots := 0, locals := 70 } [.ref a_X, .int (iI k), .int (iI t), .int (iI i), .int (iI n), .int (iI s)] [(a_X, .inr (5, [.ref a_P, .ref a_L, .ref a_R, .ref a_D, .ref a_Q, .int (iI tr), .int (iI ft)])), (a_P, .inr (1, [.ref a_hs, .ref a_se, .int (iI W), .int (iI h)])), (a_hs, aI E 200 hs), (a_Q, aQ E 4 sf), (a_S, .inr (4, [.ref a_ce, .int (iI th), .int (iI ln), .int (iI sz)])), (a_ce, aI E 50 ce), (a_R, .inr (3, [.ref a_P, .ref a_L, .ref a_sh, .ref a_fi, .ref a_wa, .ref a_us, .ref a_ly, .ref a_jl, .int (iI jo), .int (iI fo), .int (iI sp), .int (iI fd), .int (iI tc)]))] (some (.int (iI (if ¬ ((0 ≤ k ∧ k < 4) ∧ 0 ≤ s ∧ s < nsd W h) then -1 else if ¬ (0 ≤ t ∧ t < 3) then -2 else if th = 1 ∧ ln ≠ t then -12 else if th = 0 then -11 else if n < 0 then -14 else if ¬ ((0 ≤ i ∧ 0 ≤ n * 5 ∧ i + n * 5 ≤ sz) ∧ s + n ≤ nsd W h) then -13 else cI (∀ c : Int, i ≤ c → c < i + n * 5 → -9 ≤ ce c ∧ ce c ≤ 9) (n) (-2))))) [(a_X, .inr (5, [.ref a_P, .ref a_L, .ref a_R, .ref a_D, .ref a_Q, .int (iI tr), .int (iI (if ¬ ((0 ≤ k ∧ k < 4) ∧ 0 ≤ s ∧ s < nsd W h) then 0 else if ¬ (0 ≤ t ∧ t < 3) then 0 else if th = 1 ∧ ln ≠ t then 2 else if th = 0 then 1 else if n < 0 then 4 else if ¬ ((0 ≤ i ∧ 0 ≤ n * 5 ∧ i + n * 5 ≤ sz) ∧ s + n ≤ nsd W h) then 3 else cI (∀ c : Int, i ≤ c → c < i + n * 5 → -9 ≤ ce c ∧ ce c ≤ 9) (0) (0)))])), (a_P, .inr (1, [.ref a_hs, .ref a_se, .int (iI W), .int (iI h)])), (a_hs, aI E 200 (if ¬ ((0 ≤ k ∧ k < 4) ∧ 0 ≤ s ∧ s < nsd W h) then hs else if ¬ (0 ≤ t ∧ t < 3) then hs else if th = 1 ∧ ln ≠ t then hs else if th = 0 then hs else if n < 0 then hs else if ¬ ((0 ≤ i ∧ 0 ≤ n * 5 ∧ i + n * 5 ≤ sz) ∧ s + n ≤ nsd W h) then hs else @ite (Int → Int) (∀ c : Int, i ≤ c → c < i + n * 5 → -9 ≤ ce c ∧ ce c ≤ 9) (Classical.propDecidable _) (shI hs ce s i (n * 5)) (hs))), (a_Q, aQ E 4 sf), (a_S, .inr (4, [.ref a_ce, .int (iI th), .int (iI ln), .int (iI sz)])), (a_ce, aI E 50 ce), (a_R, .inr (3, [.ref a_P, .ref a_L, .ref a_sh, .ref a_fi, .ref a_wa, .ref a_us, .ref a_ly, .ref a_jl, .int (iI (if ¬ ((0 ≤ k ∧ k < 4) ∧ 0 ≤ s ∧ s < nsd W h) then jo else if ¬ (0 ≤ t ∧ t < 3) then jo else if th = 1 ∧ ln ≠ t then jo else if th = 0 then jo else if n < 0 then jo else if ¬ ((0 ≤ i ∧ 0 ≤ n * 5 ∧ i + n * 5 ≤ sz) ∧ s + n ≤ nsd W h) then jo else cI (∀ c : Int, i ≤ c → c < i + n * 5 → -9 ≤ ce c ∧ ce c ≤ 9) (0) (jo))), .int (iI fo), .int (iI sp), .int (iI fd), .int (iI tc)]))] := by
  refine g_start (cc := cX5_shape) (maxL := 7) (ret := (some .int)) (by decide) rfl (Nat.le_of_ble_eq_true rfl) ?_
  intro p_ e_ s_ m_ args_ below_ meth_ c_ A_ C hr hnm
  have hN := nsd_b hB
  refine g_aload_n 1 C 0 dX5_shape_0 rfl rfl ?_
  refine g_iconst 2 C dX5_shape_1 rfl ?_
  refine g_put (ws' := [(_, .inr (5, [_, _, _, _, _, _, _])), (_, .inr (1, [_, _, _, _])), (_, aI _ _ _), (_, aQ _ _ _), (_, .inr (4, [_, _, _, _])), (_, aI _ _ _), (_, .inr (3, [_, _, _, _, _, _, _, _, _, _, _, _, _]))]) 5 C 0 6 5 tyX5 tyX5_ok nmX5 iX5_shape_X5 lX5_shape_90 dX5_shape_2 rfl rfl rfl (by decide) rfl rfl rfl (Nat.le_of_ble_eq_true rfl) rfl ?_
  refine g_iload_n 6 C 1 dX5_shape_5 rfl rfl ?_
  refine g_callSF 9 C [] dX5_shape_6 rfl (k_X5_isSheet E l  (by first | assumption | omega)) (va_cwS 1 C.2.2.2.2.1 gX5_shape_X5_isSheet rfl rfl rfl cdX5_isSheet ⟨Nat.le_of_ble_eq_true rfl, Nat.le_of_ble_eq_true rfl⟩) rfl rfl rfl rfl (Nat.le_of_ble_eq_true rfl) ⟨Nat.le_of_ble_eq_true rfl, Nat.le_of_ble_eq_true rfl⟩ ?_
  refine g_ifb_eq 24 12 C dX5_shape_9 (by decide) rfl ?_ ?_
  · intro h9
    refine g_iconst 25 C dX5_shape_24 rfl ?_
    exact g_iret C hr dX5_shape_25 ⟨g_ri (by (have g0 : ¬ ((0 ≤ k ∧ k < 4) ∧ 0 ≤ s ∧ s < nsd W h) := (by omega)); simp only [if_pos g0] <;> rfl), by (have g0 : ¬ ((0 ≤ k ∧ k < 4) ∧ 0 ≤ s ∧ s < nsd W h) := (by omega)); simp only [if_pos g0] <;> rfl⟩
  · intro h9
    refine g_aload_n 13 C 0 dX5_shape_12 rfl rfl ?_
    refine g_get 16 C 0 0 5 iX5_shape_X5 lX5_shape_12 dX5_shape_13 rfl rfl rfl (by decide) rfl ?_
    refine g_iload 18 C 5 dX5_shape_16 rfl rfl ?_
    refine g_callVF 21 C [1] dX5_shape_18 rfl (k_X1_hasSide E l  (by first | assumption | omega) (by first | assumption | omega)) (cwV 1 C.2.2.2.2.1 gX5_shape_X1_hasSide rfl rfl rfl cdX1_hasSide ⟨Nat.le_of_ble_eq_true rfl, Nat.le_of_ble_eq_true rfl⟩) rfl rfl rfl rfl (Nat.le_of_ble_eq_true rfl) 1 1 rfl rfl rfl ⟨Nat.le_of_ble_eq_true rfl, Nat.le_of_ble_eq_true rfl⟩ ?_
    refine g_ifb_ne 26 24 C dX5_shape_21 (by decide) rfl ?_ ?_
    · intro h21
      refine g_iload_n 27 C 2 dX5_shape_26 rfl rfl ?_
      refine g_callSF 30 C [] dX5_shape_27 rfl (k_X5_isLane E l  (by first | assumption | omega)) (va_cwS 1 C.2.2.2.2.1 gX5_shape_X5_isLane rfl rfl rfl cdX5_isLane ⟨Nat.le_of_ble_eq_true rfl, Nat.le_of_ble_eq_true rfl⟩) rfl rfl rfl rfl (Nat.le_of_ble_eq_true rfl) ⟨Nat.le_of_ble_eq_true rfl, Nat.le_of_ble_eq_true rfl⟩ ?_
      refine g_ifb_ne 36 33 C dX5_shape_30 (by decide) rfl ?_ ?_
      · intro h30
        refine g_aload_n 37 C 0 dX5_shape_36 rfl rfl ?_
        refine g_get 40 C 0 4 5 iX5_shape_X5 lX5_shape_43 dX5_shape_37 rfl rfl rfl (by decide) rfl ?_
        refine g_iload_n 41 C 1 dX5_shape_40 rfl rfl ?_
        refine g_aaload 42 C 3 dX5_shape_41 rfl rfl (by omega) (hsf (by omega)) ?_
        refine g_astore (lv' := [(6, _), (0, _), (1, _), (2, _), (3, _), (4, _), (5, _)]) 44 C dX5_shape_42 rfl (by decide) rfl ?_
        refine g_aload 46 C 0 dX5_shape_44 rfl rfl ?_
        refine g_iload_n 47 C 3 dX5_shape_46 rfl rfl ?_
        refine g_callVF 50 C [4] dX5_shape_47 rfl (k_X4_isOfOther E l  (by first | assumption | omega) (by first | assumption | omega) (by first | assumption | omega)) (cwV 1 C.2.2.2.2.1 gX5_shape_X4_isOfOther rfl rfl rfl cdX4_isOfOther ⟨Nat.le_of_ble_eq_true rfl, Nat.le_of_ble_eq_true rfl⟩) rfl rfl rfl rfl (Nat.le_of_ble_eq_true rfl) 4 4 rfl rfl rfl ⟨Nat.le_of_ble_eq_true rfl, Nat.le_of_ble_eq_true rfl⟩ ?_
        refine g_ifb_eq 59 53 C dX5_shape_50 (by decide) rfl ?_ ?_
        · intro h50
          refine g_aload 61 C 0 dX5_shape_59 rfl rfl ?_
          refine g_callVF 64 C [4] dX5_shape_61 rfl (k_X4_isThere E l  (by first | assumption | omega)) (cwV 0 C.2.2.2.2.1 gX5_shape_X4_isThere rfl rfl rfl cdX4_isThere ⟨Nat.le_of_ble_eq_true rfl, Nat.le_of_ble_eq_true rfl⟩) rfl rfl rfl rfl (Nat.le_of_ble_eq_true rfl) 4 4 rfl rfl rfl ⟨Nat.le_of_ble_eq_true rfl, Nat.le_of_ble_eq_true rfl⟩ ?_
          refine g_if_ne 73 67 C dX5_shape_64 (by decide) rfl (by omega) ?_ ?_
          · intro h64
            refine g_iload 75 C 5 dX5_shape_73 rfl rfl ?_
            refine g_if_ge 84 78 C dX5_shape_75 (by decide) rfl (by omega) ?_ ?_
            · intro h75
              refine g_aload 86 C 0 dX5_shape_84 rfl rfl ?_
              refine g_iload_n 87 C 4 dX5_shape_86 rfl rfl ?_
              refine g_iload 89 C 5 dX5_shape_87 rfl rfl ?_
              refine g_i2l 90 C dX5_shape_89 rfl (by omega) ?_
              refine g_ldc2 93 C (5) dX5_shape_90 rfl lX5_shape_110 (by decide) ?_
              refine g_lmul 94 C dX5_shape_93 rfl ?_
              refine g_callVF 97 C [4] dX5_shape_94 rfl (k_X4_holds E l  (by first | assumption | omega) (by first | assumption | omega) (by first | assumption | omega)) (cwV 2 C.2.2.2.2.1 gX5_shape_X4_holds rfl rfl rfl cdX4_holds ⟨Nat.le_of_ble_eq_true rfl, Nat.le_of_ble_eq_true rfl⟩) rfl rfl rfl rfl (Nat.le_of_ble_eq_true rfl) 4 4 rfl rfl rfl ⟨Nat.le_of_ble_eq_true rfl, Nat.le_of_ble_eq_true rfl⟩ ?_
              refine g_ifb_eq 119 100 C dX5_shape_97 (by decide) rfl ?_ ?_
              · intro h97
                refine g_aload_n 120 C 1 dX5_shape_119 rfl rfl ?_
                refine g_iconst 121 C dX5_shape_120 rfl ?_
                refine g_callVU (ws' := [(_, .inr (5, [_, _, _, _, _, _, _])), (_, .inr (1, [_, _, _, _])), (_, aI _ _ _), (_, aQ _ _ _), (_, .inr (4, [_, _, _, _])), (_, aI _ _ _), (_, .inr (3, [_, _, _, _, _, _, _, _, _, _, _, _, _]))]) 124 C [0] dX5_shape_121 rfl (k_X5_come E l  ) (cwV 1 C.2.2.2.2.1 gX5_shape_X5_come rfl rfl rfl cdX5_come ⟨Nat.le_of_ble_eq_true rfl, Nat.le_of_ble_eq_true rfl⟩) rfl rfl rfl rfl (Nat.le_of_ble_eq_true rfl) 0 5 rfl rfl rfl ⟨Nat.le_of_ble_eq_true rfl, Nat.le_of_ble_eq_true rfl⟩ rfl rfl ?_
                exact g_iret C hr dX5_shape_124 ⟨g_ri (by (have g0 : ¬ (¬ ((0 ≤ k ∧ k < 4) ∧ 0 ≤ s ∧ s < nsd W h)) := (by omega)); (have g1 : ¬ (¬ (0 ≤ t ∧ t < 3)) := (by omega)); (have g2 : ¬ (th = 1 ∧ ln ≠ t) := (by omega)); (have g3 : ¬ (th = 0) := (by omega)); (have g4 : ¬ (n < 0) := (by omega)); (have g5 : ¬ ((0 ≤ i ∧ 0 ≤ n * 5 ∧ i + n * 5 ≤ sz) ∧ s + n ≤ nsd W h) := (by omega)); simp only [if_neg g0, if_neg g1, if_neg g2, if_neg g3, if_neg g4, if_pos g5] <;> rfl), by (have g0 : ¬ (¬ ((0 ≤ k ∧ k < 4) ∧ 0 ≤ s ∧ s < nsd W h)) := (by omega)); (have g1 : ¬ (¬ (0 ≤ t ∧ t < 3)) := (by omega)); (have g2 : ¬ (th = 1 ∧ ln ≠ t) := (by omega)); (have g3 : ¬ (th = 0) := (by omega)); (have g4 : ¬ (n < 0) := (by omega)); (have g5 : ¬ ((0 ≤ i ∧ 0 ≤ n * 5 ∧ i + n * 5 ≤ sz) ∧ s + n ≤ nsd W h) := (by omega)); simp only [if_neg g0, if_neg g1, if_neg g2, if_neg g3, if_neg g4, if_pos g5] <;> rfl⟩
              · intro h97
                refine g_iload 102 C 6 dX5_shape_100 rfl rfl ?_
                refine g_i2l 103 C dX5_shape_102 rfl (by omega) ?_
                refine g_iload 105 C 5 dX5_shape_103 rfl rfl ?_
                refine g_i2l 106 C dX5_shape_105 rfl (by omega) ?_
                refine g_ladd 107 C dX5_shape_106 rfl ?_
                refine g_aload_n 108 C 1 dX5_shape_107 rfl rfl ?_
                refine g_get 111 C 0 0 5 iX5_shape_X5 lX5_shape_12 dX5_shape_108 rfl rfl rfl (by decide) rfl ?_
                refine g_callVF 114 C [1] dX5_shape_111 rfl (k_X1_sides E l  ) (cwV 0 C.2.2.2.2.1 gX5_shape_X1_sides rfl rfl rfl cdX1_sides ⟨Nat.le_of_ble_eq_true rfl, Nat.le_of_ble_eq_true rfl⟩) rfl rfl rfl rfl (Nat.le_of_ble_eq_true rfl) 1 1 rfl rfl rfl ⟨Nat.le_of_ble_eq_true rfl, Nat.le_of_ble_eq_true rfl⟩ ?_
                refine g_i2l 115 C dX5_shape_114 rfl (by omega) ?_
                refine g_lc_le 116 125 119 C dX5_shape_115 rfl dX5_shape_116 (by decide) rfl (by omega) ?_ ?_
                · intro h115
                  refine g_aload 127 C 0 dX5_shape_125 rfl rfl ?_
                  refine g_iload_n 128 C 4 dX5_shape_127 rfl rfl ?_
                  refine g_iload 130 C 5 dX5_shape_128 rfl rfl ?_
                  refine g_iconst 131 C dX5_shape_130 rfl ?_
                  refine g_imul 132 C dX5_shape_131 rfl ?_
                  refine g_callSF 135 C [4, 5] dX5_shape_132 rfl (k_X5_areHeights E l  (by first | assumption | omega) (by first | assumption | omega) (by first | assumption | omega)) (va_cwS 3 C.2.2.2.2.1 gX5_shape_X5_areHeights rfl rfl rfl cdX5_areHeights ⟨Nat.le_of_ble_eq_true rfl, Nat.le_of_ble_eq_true rfl⟩) rfl rfl rfl rfl (Nat.le_of_ble_eq_true rfl) ⟨Nat.le_of_ble_eq_true rfl, Nat.le_of_ble_eq_true rfl⟩ ?_
                  refine g_ifb_ne 141 138 C dX5_shape_135 (by decide) rfl ?_ ?_
                  · intro h135
                    refine g_aload_n 142 C 1 dX5_shape_141 rfl rfl ?_
                    refine g_aload 144 C 0 dX5_shape_142 rfl rfl ?_
                    refine g_iload_n 145 C 4 dX5_shape_144 rfl rfl ?_
                    refine g_iload 147 C 5 dX5_shape_145 rfl rfl ?_
                    refine g_iload 149 C 6 dX5_shape_147 rfl rfl ?_
                    refine g_callVU (ws' := [(_, .inr (5, [_, _, _, _, _, _, _])), (_, .inr (1, [_, _, _, _])), (_, aI _ _ _), (_, aQ _ _ _), (_, .inr (4, [_, _, _, _])), (_, aI _ _ _), (_, .inr (3, [_, _, _, _, _, _, _, _, _, _, _, _, _]))]) 152 C [0, 1, 2, 4, 5] dX5_shape_149 rfl (k_X5_shapeFrom E l  (by first | assumption | omega) (by first | assumption | omega) (by omega) (by omega)) (cwV 4 C.2.2.2.2.1 gX5_shape_X5_shapeFrom rfl rfl rfl cdX5_shapeFrom ⟨Nat.le_of_ble_eq_true rfl, Nat.le_of_ble_eq_true rfl⟩) rfl rfl rfl rfl (Nat.le_of_ble_eq_true rfl) 0 5 rfl rfl rfl ⟨Nat.le_of_ble_eq_true rfl, Nat.le_of_ble_eq_true rfl⟩ rfl rfl ?_
                    refine g_aload_n 153 C 1 dX5_shape_152 rfl rfl ?_
                    refine g_get 156 C 0 2 5 iX5_shape_X5 lX5_shape_30 dX5_shape_153 rfl rfl rfl (by decide) rfl ?_
                    refine g_callVU (ws' := [(_, .inr (5, [_, _, _, _, _, _, _])), (_, .inr (1, [_, _, _, _])), (_, aI _ _ _), (_, aQ _ _ _), (_, .inr (4, [_, _, _, _])), (_, aI _ _ _), (_, .inr (3, [_, _, _, _, _, _, _, _, _, _, _, _, _]))]) 159 C [6] dX5_shape_156 rfl (k_X3_forgetJoined E l  ) (cwV 0 C.2.2.2.2.1 gX5_shape_X3_forgetJoined rfl rfl rfl cdX3_forgetJoined ⟨Nat.le_of_ble_eq_true rfl, Nat.le_of_ble_eq_true rfl⟩) rfl rfl rfl rfl (Nat.le_of_ble_eq_true rfl) 6 3 rfl rfl rfl ⟨Nat.le_of_ble_eq_true rfl, Nat.le_of_ble_eq_true rfl⟩ rfl rfl ?_
                    refine g_iload 161 C 5 dX5_shape_159 rfl rfl ?_
                    exact g_iret C hr dX5_shape_161 ⟨g_ri (by (have g0 : ¬ (¬ ((0 ≤ k ∧ k < 4) ∧ 0 ≤ s ∧ s < nsd W h)) := (by omega)); (have g1 : ¬ (¬ (0 ≤ t ∧ t < 3)) := (by omega)); (have g2 : ¬ (th = 1 ∧ ln ≠ t) := (by omega)); (have g3 : ¬ (th = 0) := (by omega)); (have g4 : ¬ (n < 0) := (by omega)); (have g5 : ¬ (¬ ((0 ≤ i ∧ 0 ≤ n * 5 ∧ i + n * 5 ≤ sz) ∧ s + n ≤ nsd W h)) := (by omega)); (have g6 : ∀ c : Int, i ≤ c → c < i + n * 5 → -9 ≤ ce c ∧ ce c ≤ 9 := (by assumption)); simp only [if_neg g0, if_neg g1, if_neg g2, if_neg g3, if_neg g4, if_neg g5, if_pos g6] <;> rfl), by (have g0 : ¬ (¬ ((0 ≤ k ∧ k < 4) ∧ 0 ≤ s ∧ s < nsd W h)) := (by omega)); (have g1 : ¬ (¬ (0 ≤ t ∧ t < 3)) := (by omega)); (have g2 : ¬ (th = 1 ∧ ln ≠ t) := (by omega)); (have g3 : ¬ (th = 0) := (by omega)); (have g4 : ¬ (n < 0) := (by omega)); (have g5 : ¬ (¬ ((0 ≤ i ∧ 0 ≤ n * 5 ∧ i + n * 5 ≤ sz) ∧ s + n ≤ nsd W h)) := (by omega)); (have g6 : ∀ c : Int, i ≤ c → c < i + n * 5 → -9 ≤ ce c ∧ ce c ≤ 9 := (by assumption)); simp only [if_neg g0, if_neg g1, if_neg g2, if_neg g3, if_neg g4, if_neg g5, if_pos g6] <;> rfl⟩
                  · intro h135
                    refine g_bipush 140 C dX5_shape_138 rfl (by decide) ?_
                    exact g_iret C hr dX5_shape_140 ⟨g_ri (by (have g0 : ¬ (¬ ((0 ≤ k ∧ k < 4) ∧ 0 ≤ s ∧ s < nsd W h)) := (by omega)); (have g1 : ¬ (¬ (0 ≤ t ∧ t < 3)) := (by omega)); (have g2 : ¬ (th = 1 ∧ ln ≠ t) := (by omega)); (have g3 : ¬ (th = 0) := (by omega)); (have g4 : ¬ (n < 0) := (by omega)); (have g5 : ¬ (¬ ((0 ≤ i ∧ 0 ≤ n * 5 ∧ i + n * 5 ≤ sz) ∧ s + n ≤ nsd W h)) := (by omega)); (have g6 : ¬ (∀ c : Int, i ≤ c → c < i + n * 5 → -9 ≤ ce c ∧ ce c ≤ 9) := (by assumption)); simp only [if_neg g0, if_neg g1, if_neg g2, if_neg g3, if_neg g4, if_neg g5, if_neg g6] <;> rfl), by (have g0 : ¬ (¬ ((0 ≤ k ∧ k < 4) ∧ 0 ≤ s ∧ s < nsd W h)) := (by omega)); (have g1 : ¬ (¬ (0 ≤ t ∧ t < 3)) := (by omega)); (have g2 : ¬ (th = 1 ∧ ln ≠ t) := (by omega)); (have g3 : ¬ (th = 0) := (by omega)); (have g4 : ¬ (n < 0) := (by omega)); (have g5 : ¬ (¬ ((0 ≤ i ∧ 0 ≤ n * 5 ∧ i + n * 5 ≤ sz) ∧ s + n ≤ nsd W h)) := (by omega)); (have g6 : ¬ (∀ c : Int, i ≤ c → c < i + n * 5 → -9 ≤ ce c ∧ ce c ≤ 9) := (by assumption)); simp only [if_neg g0, if_neg g1, if_neg g2, if_neg g3, if_neg g4, if_neg g5, if_neg g6] <;> rfl⟩
                · intro h115
                  refine g_aload_n 120 C 1 dX5_shape_119 rfl rfl ?_
                  refine g_iconst 121 C dX5_shape_120 rfl ?_
                  refine g_callVU (ws' := [(_, .inr (5, [_, _, _, _, _, _, _])), (_, .inr (1, [_, _, _, _])), (_, aI _ _ _), (_, aQ _ _ _), (_, .inr (4, [_, _, _, _])), (_, aI _ _ _), (_, .inr (3, [_, _, _, _, _, _, _, _, _, _, _, _, _]))]) 124 C [0] dX5_shape_121 rfl (k_X5_come E l  ) (cwV 1 C.2.2.2.2.1 gX5_shape_X5_come rfl rfl rfl cdX5_come ⟨Nat.le_of_ble_eq_true rfl, Nat.le_of_ble_eq_true rfl⟩) rfl rfl rfl rfl (Nat.le_of_ble_eq_true rfl) 0 5 rfl rfl rfl ⟨Nat.le_of_ble_eq_true rfl, Nat.le_of_ble_eq_true rfl⟩ rfl rfl ?_
                  exact g_iret C hr dX5_shape_124 ⟨g_ri (by (have g0 : ¬ (¬ ((0 ≤ k ∧ k < 4) ∧ 0 ≤ s ∧ s < nsd W h)) := (by omega)); (have g1 : ¬ (¬ (0 ≤ t ∧ t < 3)) := (by omega)); (have g2 : ¬ (th = 1 ∧ ln ≠ t) := (by omega)); (have g3 : ¬ (th = 0) := (by omega)); (have g4 : ¬ (n < 0) := (by omega)); (have g5 : ¬ ((0 ≤ i ∧ 0 ≤ n * 5 ∧ i + n * 5 ≤ sz) ∧ s + n ≤ nsd W h) := (by omega)); simp only [if_neg g0, if_neg g1, if_neg g2, if_neg g3, if_neg g4, if_pos g5] <;> rfl), by (have g0 : ¬ (¬ ((0 ≤ k ∧ k < 4) ∧ 0 ≤ s ∧ s < nsd W h)) := (by omega)); (have g1 : ¬ (¬ (0 ≤ t ∧ t < 3)) := (by omega)); (have g2 : ¬ (th = 1 ∧ ln ≠ t) := (by omega)); (have g3 : ¬ (th = 0) := (by omega)); (have g4 : ¬ (n < 0) := (by omega)); (have g5 : ¬ ((0 ≤ i ∧ 0 ≤ n * 5 ∧ i + n * 5 ≤ sz) ∧ s + n ≤ nsd W h) := (by omega)); simp only [if_neg g0, if_neg g1, if_neg g2, if_neg g3, if_neg g4, if_pos g5] <;> rfl⟩
            · intro h75
              refine g_aload_n 79 C 1 dX5_shape_78 rfl rfl ?_
              refine g_iconst 80 C dX5_shape_79 rfl ?_
              refine g_callVU (ws' := [(_, .inr (5, [_, _, _, _, _, _, _])), (_, .inr (1, [_, _, _, _])), (_, aI _ _ _), (_, aQ _ _ _), (_, .inr (4, [_, _, _, _])), (_, aI _ _ _), (_, .inr (3, [_, _, _, _, _, _, _, _, _, _, _, _, _]))]) 83 C [0] dX5_shape_80 rfl (k_X5_come E l  ) (cwV 1 C.2.2.2.2.1 gX5_shape_X5_come rfl rfl rfl cdX5_come ⟨Nat.le_of_ble_eq_true rfl, Nat.le_of_ble_eq_true rfl⟩) rfl rfl rfl rfl (Nat.le_of_ble_eq_true rfl) 0 5 rfl rfl rfl ⟨Nat.le_of_ble_eq_true rfl, Nat.le_of_ble_eq_true rfl⟩ rfl rfl ?_
              exact g_iret C hr dX5_shape_83 ⟨g_ri (by (have g0 : ¬ (¬ ((0 ≤ k ∧ k < 4) ∧ 0 ≤ s ∧ s < nsd W h)) := (by omega)); (have g1 : ¬ (¬ (0 ≤ t ∧ t < 3)) := (by omega)); (have g2 : ¬ (th = 1 ∧ ln ≠ t) := (by omega)); (have g3 : ¬ (th = 0) := (by omega)); (have g4 : n < 0 := (by omega)); simp only [if_neg g0, if_neg g1, if_neg g2, if_neg g3, if_pos g4] <;> rfl), by (have g0 : ¬ (¬ ((0 ≤ k ∧ k < 4) ∧ 0 ≤ s ∧ s < nsd W h)) := (by omega)); (have g1 : ¬ (¬ (0 ≤ t ∧ t < 3)) := (by omega)); (have g2 : ¬ (th = 1 ∧ ln ≠ t) := (by omega)); (have g3 : ¬ (th = 0) := (by omega)); (have g4 : n < 0 := (by omega)); simp only [if_neg g0, if_neg g1, if_neg g2, if_neg g3, if_pos g4] <;> rfl⟩
          · intro h64
            refine g_aload_n 68 C 1 dX5_shape_67 rfl rfl ?_
            refine g_iconst 69 C dX5_shape_68 rfl ?_
            refine g_callVU (ws' := [(_, .inr (5, [_, _, _, _, _, _, _])), (_, .inr (1, [_, _, _, _])), (_, aI _ _ _), (_, aQ _ _ _), (_, .inr (4, [_, _, _, _])), (_, aI _ _ _), (_, .inr (3, [_, _, _, _, _, _, _, _, _, _, _, _, _]))]) 72 C [0] dX5_shape_69 rfl (k_X5_come E l  ) (cwV 1 C.2.2.2.2.1 gX5_shape_X5_come rfl rfl rfl cdX5_come ⟨Nat.le_of_ble_eq_true rfl, Nat.le_of_ble_eq_true rfl⟩) rfl rfl rfl rfl (Nat.le_of_ble_eq_true rfl) 0 5 rfl rfl rfl ⟨Nat.le_of_ble_eq_true rfl, Nat.le_of_ble_eq_true rfl⟩ rfl rfl ?_
            exact g_iret C hr dX5_shape_72 ⟨g_ri (by (have g0 : ¬ (¬ ((0 ≤ k ∧ k < 4) ∧ 0 ≤ s ∧ s < nsd W h)) := (by omega)); (have g1 : ¬ (¬ (0 ≤ t ∧ t < 3)) := (by omega)); (have g2 : ¬ (th = 1 ∧ ln ≠ t) := (by omega)); (have g3 : th = 0 := (by omega)); simp only [if_neg g0, if_neg g1, if_neg g2, if_pos g3] <;> rfl), by (have g0 : ¬ (¬ ((0 ≤ k ∧ k < 4) ∧ 0 ≤ s ∧ s < nsd W h)) := (by omega)); (have g1 : ¬ (¬ (0 ≤ t ∧ t < 3)) := (by omega)); (have g2 : ¬ (th = 1 ∧ ln ≠ t) := (by omega)); (have g3 : th = 0 := (by omega)); simp only [if_neg g0, if_neg g1, if_neg g2, if_pos g3] <;> rfl⟩
        · intro h50
          refine g_aload_n 54 C 1 dX5_shape_53 rfl rfl ?_
          refine g_iconst 55 C dX5_shape_54 rfl ?_
          refine g_callVU (ws' := [(_, .inr (5, [_, _, _, _, _, _, _])), (_, .inr (1, [_, _, _, _])), (_, aI _ _ _), (_, aQ _ _ _), (_, .inr (4, [_, _, _, _])), (_, aI _ _ _), (_, .inr (3, [_, _, _, _, _, _, _, _, _, _, _, _, _]))]) 58 C [0] dX5_shape_55 rfl (k_X5_come E l  ) (cwV 1 C.2.2.2.2.1 gX5_shape_X5_come rfl rfl rfl cdX5_come ⟨Nat.le_of_ble_eq_true rfl, Nat.le_of_ble_eq_true rfl⟩) rfl rfl rfl rfl (Nat.le_of_ble_eq_true rfl) 0 5 rfl rfl rfl ⟨Nat.le_of_ble_eq_true rfl, Nat.le_of_ble_eq_true rfl⟩ rfl rfl ?_
          exact g_iret C hr dX5_shape_58 ⟨g_ri (by (have g0 : ¬ (¬ ((0 ≤ k ∧ k < 4) ∧ 0 ≤ s ∧ s < nsd W h)) := (by omega)); (have g1 : ¬ (¬ (0 ≤ t ∧ t < 3)) := (by omega)); (have g2 : th = 1 ∧ ln ≠ t := (by omega)); simp only [if_neg g0, if_neg g1, if_pos g2] <;> rfl), by (have g0 : ¬ (¬ ((0 ≤ k ∧ k < 4) ∧ 0 ≤ s ∧ s < nsd W h)) := (by omega)); (have g1 : ¬ (¬ (0 ≤ t ∧ t < 3)) := (by omega)); (have g2 : th = 1 ∧ ln ≠ t := (by omega)); simp only [if_neg g0, if_neg g1, if_pos g2] <;> rfl⟩
      · intro h30
        refine g_bipush 35 C dX5_shape_33 rfl (by decide) ?_
        exact g_iret C hr dX5_shape_35 ⟨g_ri (by (have g0 : ¬ (¬ ((0 ≤ k ∧ k < 4) ∧ 0 ≤ s ∧ s < nsd W h)) := (by omega)); (have g1 : ¬ (0 ≤ t ∧ t < 3) := (by omega)); simp only [if_neg g0, if_pos g1] <;> rfl), by (have g0 : ¬ (¬ ((0 ≤ k ∧ k < 4) ∧ 0 ≤ s ∧ s < nsd W h)) := (by omega)); (have g1 : ¬ (0 ≤ t ∧ t < 3) := (by omega)); simp only [if_neg g0, if_pos g1] <;> rfl⟩
    · intro h21
      refine g_iconst 25 C dX5_shape_24 rfl ?_
      exact g_iret C hr dX5_shape_25 ⟨g_ri (by (have g0 : ¬ ((0 ≤ k ∧ k < 4) ∧ 0 ≤ s ∧ s < nsd W h) := (by omega)); simp only [if_pos g0] <;> rfl), by (have g0 : ¬ ((0 ≤ k ∧ k < 4) ∧ 0 ≤ s ∧ s < nsd W h) := (by omega)); simp only [if_pos g0] <;> rfl⟩
