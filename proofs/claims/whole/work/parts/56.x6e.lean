theorem lX6_noSheet_118 : Cond.constantLong RX6 118 (3) ∈ wsX6_noSheet := by decide +kernel
set_option maxHeartbeats 4000000 in
set_option maxRecDepth 100000 in
theorem k_X6_noSheet (E : gE) (l : Launch) {k : Int} (hk : -2147483648 ≤ k ∧ k < 2147483648) : gFun E l yX6_noSheet wsX6_noSheet { frames := 1, cells := 0, slots := 0, locals := 25 } [.int (iI k)] [] (.int (iI (if ¬ (0 ≤ k ∧ k < 4) then 1 else 0))) := by
  refine g_start (cc := cX6_noSheet) (maxL := 1) (ret := (some .boolean)) (by decide) rfl (Nat.le_of_ble_eq_true rfl) ?_
  intro p_ e_ s_ m_ args_ below_ meth_ c_ A_ C hr hnm
  refine g_iload_n 1 C 0 dX6_noSheet_0 rfl rfl ?_
  refine g_i2l 2 C dX6_noSheet_1 rfl (by omega) ?_
  refine g_lconst 3 C 0 dX6_noSheet_2 rfl (by decide) ?_
  refine g_ldc2 6 C (3) dX6_noSheet_3 rfl lX6_noSheet_118 (by decide) ?_
  refine g_callSF 9 C [] dX6_noSheet_6 rfl (k_X6_in E l  (by first | assumption | omega) (by first | assumption | omega) (by first | assumption | omega)) (va_cwS 3 C.2.2.2.2.1 gX6_noSheet_X6_in rfl rfl rfl cdX6_in ⟨Nat.le_of_ble_eq_true rfl, Nat.le_of_ble_eq_true rfl⟩) rfl rfl rfl rfl (Nat.le_of_ble_eq_true rfl) ⟨Nat.le_of_ble_eq_true rfl, Nat.le_of_ble_eq_true rfl⟩ ?_
  refine g_ifb_ne 16 12 C dX6_noSheet_9 (by decide) rfl ?_ ?_
  · intro h9
    refine g_iconst 17 C dX6_noSheet_16 rfl ?_
    exact g_zret C hr dX6_noSheet_17 (by first | rfl | decide | (split <;> rfl)) ⟨g_ri (by first | rfl | omega | exact (if_pos (by omega)).symm | exact (if_neg (by omega)).symm), rfl⟩
  · intro h9
    refine g_iconst 13 C dX6_noSheet_12 rfl ?_
    refine g_goto 17 C dX6_noSheet_13 (by decide) ?_
    exact g_zret C hr dX6_noSheet_17 (by first | rfl | decide | (split <;> rfl)) ⟨g_ri (by first | rfl | omega | exact (if_pos (by omega)).symm | exact (if_neg (by omega)).symm), rfl⟩
theorem cdX6_noSheet : yX6_noSheet.cls ≠ "java/lang/invoke/MethodHandle" ∧ yX6_noSheet.cls ≠ "java/lang/invoke/VarHandle" ∧ (parseMethodDescriptor yX6_noSheet.desc).map (fun d => d.parameters.length) = some 1 := by decide +kernel
theorem lX6_sheet_35 : Cond.fieldLink RX6 35 (TX6 18).1 (TX6 18).2.1 (TX6 18).2.2.1 ∈ wsX6_sheet := by decide +kernel
theorem lX6_sheet_38 : Cond.fieldLink RX6 38 (TX6 19).1 (TX6 19).2.1 (TX6 19).2.2.1 ∈ wsX6_sheet := by decide +kernel
theorem lX6_sheet_41 : Cond.fieldLink RX6 41 (TX6 20).1 (TX6 20).2.1 (TX6 20).2.2.1 ∈ wsX6_sheet := by decide +kernel
theorem lX6_sheet_199 : Cond.constantLong RX6 199 (2) ∈ wsX6_sheet := by decide +kernel
theorem iX6_sheet_X6 : ∀ w ∈ u_ws RX6 TX6 23, w ∈ wsX6_sheet := by decide +kernel
set_option maxHeartbeats 4000000 in
set_option maxRecDepth 100000 in
theorem k_X6_sheet (E : gE) (l : Launch) {a_M a_Ma a_Mc a_Mg a_Mh a_Mi a_Ml a_Mp a_Ms a_Mt a_Mu a_Mx a_My : Nat} {k t n0 : Int} {ss sl sc : Int → Int} {mf W h mL mN n tc fd jo tr : Int} {md : Int64} (hk : -2147483648 ≤ k ∧ k < 2147483648) (ht : -2147483648 ≤ t ∧ t < 2147483648) (hn0 : -2147483648 ≤ n0 ∧ n0 < 2147483648) : gUpd E l yX6_sheet wsX6_sheet { frames := 2, cells := 0, slots := 0, locals := 45 } [.ref a_M, .int (iI k), .int (iI t), .int (iI n0)] [(a_M, .inr (6, [.int (iI mf), .int (iI W), .int (iI h), .ref a_Mh, .long md, .int (iI mL), .int (iI mN), .int (iI n), .ref a_Mp, .ref a_Mt, .int (iI tc), .int (iI fd), .ref a_Ma, .ref a_Mu, .ref a_Mi, .int (iI jo), .ref a_Mx, .ref a_My, .ref a_Ms, .ref a_Ml, .ref a_Mc, .ref a_Mg, .int (iI tr)])), (a_Ms, aI E 4 ss), (a_Ml, aI E 4 sl), (a_Mc, aI E 200 sc)] (some (.int (iI (if ¬ (0 ≤ k ∧ k < 4) then -1 else if ¬ ((0 ≤ t ∧ t < 3) ∧ n0 ≤ 50) then -2 else if n0 < 0 then -14 else 1)))) [(a_M, .inr (6, [.int (iI (if (0 ≤ k ∧ k < 4) ∧ (0 ≤ t ∧ t < 3) ∧ n0 < 0 then 4 else 0)), .int (iI W), .int (iI h), .ref a_Mh, .long md, .int (iI mL), .int (iI mN), .int (iI n), .ref a_Mp, .ref a_Mt, .int (iI tc), .int (iI fd), .ref a_Ma, .ref a_Mu, .ref a_Mi, .int (iI jo), .ref a_Mx, .ref a_My, .ref a_Ms, .ref a_Ml, .ref a_Mc, .ref a_Mg, .int (iI tr)])), (a_Ms, aI E 4 (if (0 ≤ k ∧ k < 4) ∧ (0 ≤ t ∧ t < 3) ∧ 0 ≤ n0 ∧ n0 ≤ 50 then uI ss k n0 else ss)), (a_Ml, aI E 4 (if (0 ≤ k ∧ k < 4) ∧ (0 ≤ t ∧ t < 3) ∧ 0 ≤ n0 ∧ n0 ≤ 50 then uI sl k t else sl)), (a_Mc, aI E 200 (if (0 ≤ k ∧ k < 4) ∧ (0 ≤ t ∧ t < 3) ∧ 0 ≤ n0 ∧ n0 ≤ 50 then zsI sc (50 * k) n0 else sc))] := by
  refine g_start (cc := cX6_sheet) (maxL := 5) (ret := (some .int)) (by decide) rfl (Nat.le_of_ble_eq_true rfl) ?_
  intro p_ e_ s_ m_ args_ below_ meth_ c_ A_ C hr hnm
  refine g_iload_n 1 C 1 dX6_sheet_0 rfl rfl ?_
  refine g_callSF 4 C [] dX6_sheet_1 rfl (k_X6_noSheet E l  (by first | assumption | omega)) (va_cwS 1 C.2.2.2.2.1 gX6_sheet_X6_noSheet rfl rfl rfl cdX6_noSheet ⟨Nat.le_of_ble_eq_true rfl, Nat.le_of_ble_eq_true rfl⟩) rfl rfl rfl rfl (Nat.le_of_ble_eq_true rfl) ⟨Nat.le_of_ble_eq_true rfl, Nat.le_of_ble_eq_true rfl⟩ ?_
  refine g_ifb_eq 13 7 C dX6_sheet_4 (by decide) rfl ?_ ?_
  · intro h4
    refine g_iload_n 14 C 2 dX6_sheet_13 rfl rfl ?_
    refine g_i2l 15 C dX6_sheet_14 rfl (by omega) ?_
    refine g_lconst 16 C 0 dX6_sheet_15 rfl (by decide) ?_
    refine g_ldc2 19 C (2) dX6_sheet_16 rfl lX6_sheet_199 (by decide) ?_
    refine g_callSF 22 C [] dX6_sheet_19 rfl (k_X6_in E l  (by first | assumption | omega) (by first | assumption | omega) (by first | assumption | omega)) (va_cwS 3 C.2.2.2.2.1 gX6_sheet_X6_in rfl rfl rfl cdX6_in ⟨Nat.le_of_ble_eq_true rfl, Nat.le_of_ble_eq_true rfl⟩) rfl rfl rfl rfl (Nat.le_of_ble_eq_true rfl) ⟨Nat.le_of_ble_eq_true rfl, Nat.le_of_ble_eq_true rfl⟩ ?_
    refine g_ifb_eq 31 25 C dX6_sheet_22 (by decide) rfl ?_ ?_
    · intro h22
      refine g_aload_n 32 C 0 dX6_sheet_31 rfl rfl ?_
      refine g_bipush 34 C dX6_sheet_32 rfl (by decide) ?_
      refine g_callVU (ws' := [(_, .inr (6, [_, _, _, _, _, _, _, _, _, _, _, _, _, _, _, _, _, _, _, _, _, _, _])), (_, aI _ _ _), (_, aI _ _ _), (_, aI _ _ _)]) 37 C [0] dX6_sheet_34 rfl (k_X6_refused E l  ) (cwV 1 C.2.2.2.2.1 gX6_sheet_X6_refused rfl rfl rfl cdX6_refused ⟨Nat.le_of_ble_eq_true rfl, Nat.le_of_ble_eq_true rfl⟩) rfl rfl rfl rfl (Nat.le_of_ble_eq_true rfl) 0 6 rfl rfl rfl ⟨Nat.le_of_ble_eq_true rfl, Nat.le_of_ble_eq_true rfl⟩ rfl rfl ?_
      exact g_iret C hr dX6_sheet_37 ⟨g_ri (by (have g0 : ¬ (¬ (0 ≤ k ∧ k < 4)) := (by omega)); (have g1 : ¬ ((0 ≤ t ∧ t < 3) ∧ n0 ≤ 50) := (by omega)); simp only [if_neg g0, if_pos g1] <;> rfl), by (have x0 : ¬ ((0 ≤ k ∧ k < 4) ∧ (0 ≤ t ∧ t < 3) ∧ 0 ≤ n0 ∧ n0 ≤ 50) := (by omega)); (have x1 : ¬ ((0 ≤ k ∧ k < 4) ∧ (0 ≤ t ∧ t < 3) ∧ n0 < 0) := (by omega)); simp only [if_neg x0, if_neg x1] <;> rfl⟩
    · intro h22
      refine g_iload_n 26 C 3 dX6_sheet_25 rfl rfl ?_
      refine g_bipush 28 C dX6_sheet_26 rfl (by decide) ?_
      refine g_icmp_le 38 31 C dX6_sheet_28 (by decide) rfl (by omega) ?_ ?_
      · intro h28
        refine g_iload_n 39 C 3 dX6_sheet_38 rfl rfl ?_
        refine g_if_ge 48 42 C dX6_sheet_39 (by decide) rfl (by omega) ?_ ?_
        · intro h39
          refine g_aload_n 49 C 0 dX6_sheet_48 rfl rfl ?_
          refine g_get 52 C 0 18 6 iX6_sheet_X6 lX6_sheet_35 dX6_sheet_49 rfl rfl rfl (by decide) rfl ?_
          refine g_iload_n 53 C 1 dX6_sheet_52 rfl rfl ?_
          refine g_iload_n 54 C 3 dX6_sheet_53 rfl rfl ?_
          refine g_iastore (ws' := [(_, .inr (6, [_, _, _, _, _, _, _, _, _, _, _, _, _, _, _, _, _, _, _, _, _, _, _])), (_, aI _ _ _), (_, aI _ _ _), (_, aI _ _ _)]) 55 C 1 dX6_sheet_54 rfl rfl (by omega) rfl ?_
          refine g_aload_n 56 C 0 dX6_sheet_55 rfl rfl ?_
          refine g_get 59 C 0 19 6 iX6_sheet_X6 lX6_sheet_38 dX6_sheet_56 rfl rfl rfl (by decide) rfl ?_
          refine g_iload_n 60 C 1 dX6_sheet_59 rfl rfl ?_
          refine g_iload_n 61 C 2 dX6_sheet_60 rfl rfl ?_
          refine g_iastore (ws' := [(_, .inr (6, [_, _, _, _, _, _, _, _, _, _, _, _, _, _, _, _, _, _, _, _, _, _, _])), (_, aI _ _ _), (_, aI _ _ _), (_, aI _ _ _)]) 62 C 2 dX6_sheet_61 rfl rfl (by omega) rfl ?_
          refine g_iconst 63 C dX6_sheet_62 rfl ?_
          refine g_istore (lv' := [(4, _), (0, _), (1, _), (2, _), (3, _)]) 65 C dX6_sheet_63 rfl (by decide) rfl ?_
          refine g_loop (α := Int) (fun zz => [(a_M, .inr (6, [.int (iI mf), .int (iI W), .int (iI h), .ref a_Mh, .long md, .int (iI mL), .int (iI mN), .int (iI n), .ref a_Mp, .ref a_Mt, .int (iI tc), .int (iI fd), .ref a_Ma, .ref a_Mu, .ref a_Mi, .int (iI jo), .ref a_Mx, .ref a_My, .ref a_Ms, .ref a_Ml, .ref a_Mc, .ref a_Mg, .int (iI tr)])), (a_Ms, aI E 4 (uI ss k n0)), (a_Ml, aI E 4 (uI sl k t)), (a_Mc, aI E 200 (zsI sc (50 * k) zz))]) (fun zz => [(4, .int (iI zz)), (3, .int (iI n0)), (2, .int (iI t)), (1, .int (iI k)), (0, .ref a_M)]) (fun zz => 0 ≤ zz ∧ zz ≤ n0) (fun zz => (n0 - zz).toNat) (0) (by (try dsimp only); omega) [0, 4, 3, 2, 1] (by rw [zsI_0]) rfl ?_
          rintro i hI ih65
          try dsimp only at hI ih65 ⊢
          obtain ⟨hi0, hin⟩ := hI
          refine g_iload 67 C 0 dX6_sheet_65 rfl rfl ?_
          refine g_iload_n 68 C 1 dX6_sheet_67 rfl rfl ?_
          refine g_icmp_ge 90 71 C dX6_sheet_68 (by decide) rfl (by omega) ?_ ?_
          · intro h68
            refine g_aload_n 91 C 4 dX6_sheet_90 rfl rfl ?_
            refine g_iconst 92 C dX6_sheet_91 rfl ?_
            refine g_callVU (ws' := [(_, .inr (6, [_, _, _, _, _, _, _, _, _, _, _, _, _, _, _, _, _, _, _, _, _, _, _])), (_, aI _ _ _), (_, aI _ _ _), (_, aI _ _ _)]) 95 C [0] dX6_sheet_92 rfl (k_X6_refused E l  ) (cwV 1 C.2.2.2.2.1 gX6_sheet_X6_refused rfl rfl rfl cdX6_refused ⟨Nat.le_of_ble_eq_true rfl, Nat.le_of_ble_eq_true rfl⟩) rfl rfl rfl rfl (Nat.le_of_ble_eq_true rfl) 0 6 rfl rfl rfl ⟨Nat.le_of_ble_eq_true rfl, Nat.le_of_ble_eq_true rfl⟩ rfl rfl ?_
            exact g_iret C hr dX6_sheet_95 ⟨g_ri (by (have g0 : ¬ (¬ (0 ≤ k ∧ k < 4)) := (by omega)); (have g1 : ¬ (¬ ((0 ≤ t ∧ t < 3) ∧ n0 ≤ 50)) := (by omega)); (have g2 : ¬ (n0 < 0) := (by omega)); simp only [if_neg g0, if_neg g1, if_neg g2] <;> rfl), by (have x0 : ((0 ≤ k ∧ k < 4) ∧ (0 ≤ t ∧ t < 3) ∧ 0 ≤ n0 ∧ n0 ≤ 50) := (by omega)); (have x1 : ¬ ((0 ≤ k ∧ k < 4) ∧ (0 ≤ t ∧ t < 3) ∧ n0 < 0) := (by omega)); (have x2 : n0 = i := (by omega)); simp only [if_pos x0, if_neg x1] ; rw [x2]⟩
          · intro h68
            refine g_aload_n 72 C 4 dX6_sheet_71 rfl rfl ?_
            refine g_get 75 C 0 20 6 iX6_sheet_X6 lX6_sheet_41 dX6_sheet_72 rfl rfl rfl (by decide) rfl ?_
            refine g_bipush 77 C dX6_sheet_75 rfl (by decide) ?_
            refine g_iload_n 78 C 3 dX6_sheet_77 rfl rfl ?_
            refine g_imul 79 C dX6_sheet_78 rfl ?_
            refine g_iload 81 C 0 dX6_sheet_79 rfl rfl ?_
            refine g_iadd 82 C dX6_sheet_81 rfl ?_
            refine g_iconst 83 C dX6_sheet_82 rfl ?_
            refine g_iastore (ws' := [(_, .inr (6, [_, _, _, _, _, _, _, _, _, _, _, _, _, _, _, _, _, _, _, _, _, _, _])), (_, aI _ _ _), (_, aI _ _ _), (_, aI _ _ _)]) 84 C 3 dX6_sheet_83 rfl rfl (by omega) rfl ?_
            refine g_iinc (lv' := [(4, _), (3, _), (2, _), (1, _), (0, _)]) 87 C 0 dX6_sheet_84 rfl rfl (by decide) rfl ?_
            refine g_goto 65 C dX6_sheet_87 (by decide) ?_
            exact g_w [0, 1, 2, 3, 4] (by (try dsimp only); rw [zsI_s sc hi0]) rfl (ih65 ((i + 1)) (by (try dsimp only); omega) (by (try dsimp only); omega))
        · intro h39
          refine g_aload_n 43 C 0 dX6_sheet_42 rfl rfl ?_
          refine g_iconst 44 C dX6_sheet_43 rfl ?_
          refine g_callVU (ws' := [(_, .inr (6, [_, _, _, _, _, _, _, _, _, _, _, _, _, _, _, _, _, _, _, _, _, _, _])), (_, aI _ _ _), (_, aI _ _ _), (_, aI _ _ _)]) 47 C [0] dX6_sheet_44 rfl (k_X6_failed E l  ) (cwV 1 C.2.2.2.2.1 gX6_sheet_X6_failed rfl rfl rfl cdX6_failed ⟨Nat.le_of_ble_eq_true rfl, Nat.le_of_ble_eq_true rfl⟩) rfl rfl rfl rfl (Nat.le_of_ble_eq_true rfl) 0 6 rfl rfl rfl ⟨Nat.le_of_ble_eq_true rfl, Nat.le_of_ble_eq_true rfl⟩ rfl rfl ?_
          exact g_iret C hr dX6_sheet_47 ⟨g_ri (by (have g0 : ¬ (¬ (0 ≤ k ∧ k < 4)) := (by omega)); (have g1 : ¬ (¬ ((0 ≤ t ∧ t < 3) ∧ n0 ≤ 50)) := (by omega)); (have g2 : n0 < 0 := (by omega)); simp only [if_neg g0, if_neg g1, if_pos g2] <;> rfl), by (have x0 : ¬ ((0 ≤ k ∧ k < 4) ∧ (0 ≤ t ∧ t < 3) ∧ 0 ≤ n0 ∧ n0 ≤ 50) := (by omega)); (have x1 : ((0 ≤ k ∧ k < 4) ∧ (0 ≤ t ∧ t < 3) ∧ n0 < 0) := (by omega)); simp only [if_neg x0, if_pos x1] <;> rfl⟩
      · intro h28
        refine g_aload_n 32 C 0 dX6_sheet_31 rfl rfl ?_
        refine g_bipush 34 C dX6_sheet_32 rfl (by decide) ?_
        refine g_callVU (ws' := [(_, .inr (6, [_, _, _, _, _, _, _, _, _, _, _, _, _, _, _, _, _, _, _, _, _, _, _])), (_, aI _ _ _), (_, aI _ _ _), (_, aI _ _ _)]) 37 C [0] dX6_sheet_34 rfl (k_X6_refused E l  ) (cwV 1 C.2.2.2.2.1 gX6_sheet_X6_refused rfl rfl rfl cdX6_refused ⟨Nat.le_of_ble_eq_true rfl, Nat.le_of_ble_eq_true rfl⟩) rfl rfl rfl rfl (Nat.le_of_ble_eq_true rfl) 0 6 rfl rfl rfl ⟨Nat.le_of_ble_eq_true rfl, Nat.le_of_ble_eq_true rfl⟩ rfl rfl ?_
        exact g_iret C hr dX6_sheet_37 ⟨g_ri (by (have g0 : ¬ (¬ (0 ≤ k ∧ k < 4)) := (by omega)); (have g1 : ¬ ((0 ≤ t ∧ t < 3) ∧ n0 ≤ 50) := (by omega)); simp only [if_neg g0, if_pos g1] <;> rfl), by (have x0 : ¬ ((0 ≤ k ∧ k < 4) ∧ (0 ≤ t ∧ t < 3) ∧ 0 ≤ n0 ∧ n0 ≤ 50) := (by omega)); (have x1 : ¬ ((0 ≤ k ∧ k < 4) ∧ (0 ≤ t ∧ t < 3) ∧ n0 < 0) := (by omega)); simp only [if_neg x0, if_neg x1] <;> rfl⟩
  · intro h4
    refine g_aload_n 8 C 0 dX6_sheet_7 rfl rfl ?_
    refine g_iconst 9 C dX6_sheet_8 rfl ?_
    refine g_callVU (ws' := [(_, .inr (6, [_, _, _, _, _, _, _, _, _, _, _, _, _, _, _, _, _, _, _, _, _, _, _])), (_, aI _ _ _), (_, aI _ _ _), (_, aI _ _ _)]) 12 C [0] dX6_sheet_9 rfl (k_X6_refused E l  ) (cwV 1 C.2.2.2.2.1 gX6_sheet_X6_refused rfl rfl rfl cdX6_refused ⟨Nat.le_of_ble_eq_true rfl, Nat.le_of_ble_eq_true rfl⟩) rfl rfl rfl rfl (Nat.le_of_ble_eq_true rfl) 0 6 rfl rfl rfl ⟨Nat.le_of_ble_eq_true rfl, Nat.le_of_ble_eq_true rfl⟩ rfl rfl ?_
    exact g_iret C hr dX6_sheet_12 ⟨g_ri (by (have g0 : ¬ (0 ≤ k ∧ k < 4) := (by omega)); simp only [if_pos g0] <;> rfl), by (have x0 : ¬ ((0 ≤ k ∧ k < 4) ∧ (0 ≤ t ∧ t < 3) ∧ 0 ≤ n0 ∧ n0 ≤ 50) := (by omega)); (have x1 : ¬ ((0 ≤ k ∧ k < 4) ∧ (0 ≤ t ∧ t < 3) ∧ n0 < 0) := (by omega)); simp only [if_neg x0, if_neg x1] <;> rfl⟩
theorem lX6_lose_35 : Cond.fieldLink RX6 35 (TX6 18).1 (TX6 18).2.1 (TX6 18).2.2.1 ∈ wsX6_lose := by decide +kernel
theorem iX6_lose_X6 : ∀ w ∈ u_ws RX6 TX6 23, w ∈ wsX6_lose := by decide +kernel
set_option maxHeartbeats 4000000 in
set_option maxRecDepth 100000 in
theorem k_X6_lose (E : gE) (l : Launch) {a_M a_Ma a_Mc a_Mg a_Mh a_Mi a_Ml a_Mp a_Ms a_Mt a_Mu a_Mx a_My : Nat} {k : Int} {ss sl : Int → Int}  {mf W h mL mN n tc fd jo tr : Int} {md : Int64} (hss : ∀ j : Int, 0 ≤ j ∧ j < 4 → (-1 ≤ ss j ∧ ss j ≤ 50) ∧ 0 ≤ sl j ∧ sl j ≤ 2) (hk : -2147483648 ≤ k ∧ k < 2147483648) : gUpd E l yX6_lose wsX6_lose { frames := 2, cells := 0, slots := 0, locals := 45 } [.ref a_M, .int (iI k)] [(a_M, .inr (6, [.int (iI mf), .int (iI W), .int (iI h), .ref a_Mh, .long md, .int (iI mL), .int (iI mN), .int (iI n), .ref a_Mp, .ref a_Mt, .int (iI tc), .int (iI fd), .ref a_Ma, .ref a_Mu, .ref a_Mi, .int (iI jo), .ref a_Mx, .ref a_My, .ref a_Ms, .ref a_Ml, .ref a_Mc, .ref a_Mg, .int (iI tr)])), (a_Ms, aI E 4 ss)] (some (.int (iI (if ¬ (0 ≤ k ∧ k < 4) then -1 else if ss k < 0 then 0 else 1)))) [(a_M, .inr (6, [.int (iI mf), .int (iI W), .int (iI h), .ref a_Mh, .long md, .int (iI mL), .int (iI mN), .int (iI n), .ref a_Mp, .ref a_Mt, .int (iI tc), .int (iI fd), .ref a_Ma, .ref a_Mu, .ref a_Mi, .int (iI jo), .ref a_Mx, .ref a_My, .ref a_Ms, .ref a_Ml, .ref a_Mc, .ref a_Mg, .int (iI tr)])), (a_Ms, aI E 4 (if (0 ≤ k ∧ k < 4) then uI ss k (-1) else ss))] := by
  refine g_start (cc := cX6_lose) (maxL := 3) (ret := (some .int)) (by decide) rfl (Nat.le_of_ble_eq_true rfl) ?_
  intro p_ e_ s_ m_ args_ below_ meth_ c_ A_ C hr hnm
  refine g_iload_n 1 C 1 dX6_lose_0 rfl rfl ?_
  refine g_callSF 4 C [] dX6_lose_1 rfl (k_X6_noSheet E l  (by first | assumption | omega)) (va_cwS 1 C.2.2.2.2.1 gX6_lose_X6_noSheet rfl rfl rfl cdX6_noSheet ⟨Nat.le_of_ble_eq_true rfl, Nat.le_of_ble_eq_true rfl⟩) rfl rfl rfl rfl (Nat.le_of_ble_eq_true rfl) ⟨Nat.le_of_ble_eq_true rfl, Nat.le_of_ble_eq_true rfl⟩ ?_
  refine g_ifb_eq 9 7 C dX6_lose_4 (by decide) rfl ?_ ?_
  · intro h4
    refine g_aload_n 10 C 0 dX6_lose_9 rfl rfl ?_
    refine g_get 13 C 0 18 6 iX6_lose_X6 lX6_lose_35 dX6_lose_10 rfl rfl rfl (by decide) rfl ?_
    refine g_iload_n 14 C 1 dX6_lose_13 rfl rfl ?_
    have e0 := hss k (by omega)
    refine g_iaload 15 C 1 dX6_lose_14 rfl rfl (by omega) ?_
    refine g_if_ge 22 18 C dX6_lose_15 (by decide) rfl (by omega) ?_ ?_
    · intro h15
      refine g_iconst 23 C dX6_lose_22 rfl ?_
      refine g_istore_n (lv' := [(2, _), (0, _), (1, _)]) 24 C dX6_lose_23 rfl rfl (by decide) rfl ?_
      refine g_aload_n 25 C 1 dX6_lose_24 rfl rfl ?_
      refine g_get 28 C 0 18 6 iX6_lose_X6 lX6_lose_35 dX6_lose_25 rfl rfl rfl (by decide) rfl ?_
      refine g_iload_n 29 C 2 dX6_lose_28 rfl rfl ?_
      refine g_iconst 30 C dX6_lose_29 rfl ?_
      refine g_iastore (ws' := [(_, .inr (6, [_, _, _, _, _, _, _, _, _, _, _, _, _, _, _, _, _, _, _, _, _, _, _])), (_, aI _ _ _)]) 31 C 1 dX6_lose_30 rfl rfl (by omega) rfl ?_
      refine g_iload_n 32 C 0 dX6_lose_31 rfl rfl ?_
      exact g_iret C hr dX6_lose_32 ⟨g_ri (by (repeat' split) <;> first | rfl | omega), by first | rfl | (have hg : 0 ≤ k ∧ k < 4 := (by omega); simp only [if_pos hg]) | (have hg : ¬ (0 ≤ k ∧ k < 4) := (by omega); simp only [if_neg hg])⟩
    · intro h15
      refine g_iconst 19 C dX6_lose_18 rfl ?_
      refine g_goto 23 C dX6_lose_19 (by decide) ?_
      refine g_istore_n (lv' := [(2, _), (0, _), (1, _)]) 24 C dX6_lose_23 rfl rfl (by decide) rfl ?_
      refine g_aload_n 25 C 1 dX6_lose_24 rfl rfl ?_
      refine g_get 28 C 0 18 6 iX6_lose_X6 lX6_lose_35 dX6_lose_25 rfl rfl rfl (by decide) rfl ?_
      refine g_iload_n 29 C 2 dX6_lose_28 rfl rfl ?_
      refine g_iconst 30 C dX6_lose_29 rfl ?_
      refine g_iastore (ws' := [(_, .inr (6, [_, _, _, _, _, _, _, _, _, _, _, _, _, _, _, _, _, _, _, _, _, _, _])), (_, aI _ _ _)]) 31 C 1 dX6_lose_30 rfl rfl (by omega) rfl ?_
      refine g_iload_n 32 C 0 dX6_lose_31 rfl rfl ?_
      exact g_iret C hr dX6_lose_32 ⟨g_ri (by (repeat' split) <;> first | rfl | omega), by first | rfl | (have hg : 0 ≤ k ∧ k < 4 := (by omega); simp only [if_pos hg]) | (have hg : ¬ (0 ≤ k ∧ k < 4) := (by omega); simp only [if_neg hg])⟩
  · intro h4
    refine g_iconst 8 C dX6_lose_7 rfl ?_
    exact g_iret C hr dX6_lose_8 ⟨g_ri (by (repeat' split) <;> first | rfl | omega), by first | rfl | (have hg : 0 ≤ k ∧ k < 4 := (by omega); simp only [if_pos hg]) | (have hg : ¬ (0 ≤ k ∧ k < 4) := (by omega); simp only [if_neg hg])⟩
theorem lX6_noCell_35 : Cond.fieldLink RX6 35 (TX6 18).1 (TX6 18).2.1 (TX6 18).2.2.1 ∈ wsX6_noCell := by decide +kernel
theorem iX6_noCell_X6 : ∀ w ∈ u_ws RX6 TX6 23, w ∈ wsX6_noCell := by decide +kernel
set_option maxHeartbeats 4000000 in
set_option maxRecDepth 100000 in
theorem k_X6_noCell (E : gE) (l : Launch) {a_M a_Ma a_Mc a_Mg a_Mh a_Mi a_Ml a_Mp a_Ms a_Mt a_Mu a_Mx a_My : Nat} {k i : Int} {ss sl : Int → Int}  {mf W h mL mN n tc fd jo tr : Int} {md : Int64} (hss : ∀ j : Int, 0 ≤ j ∧ j < 4 → (-1 ≤ ss j ∧ ss j ≤ 50) ∧ 0 ≤ sl j ∧ sl j ≤ 2) (hk : 0 ≤ k ∧ k < 4) (hi : -2147483648 ≤ i ∧ i < 2147483648) : gFun E l yX6_noCell wsX6_noCell { frames := 1, cells := 0, slots := 0, locals := 25 } [.ref a_M, .int (iI k), .int (iI i)] [(a_M, .inr (6, [.int (iI mf), .int (iI W), .int (iI h), .ref a_Mh, .long md, .int (iI mL), .int (iI mN), .int (iI n), .ref a_Mp, .ref a_Mt, .int (iI tc), .int (iI fd), .ref a_Ma, .ref a_Mu, .ref a_Mi, .int (iI jo), .ref a_Mx, .ref a_My, .ref a_Ms, .ref a_Ml, .ref a_Mc, .ref a_Mg, .int (iI tr)])), (a_Ms, aI E 4 ss)] (.int (iI (if ss k < 0 then 1 else if 0 ≤ i ∧ i < ss k then 0 else 3))) := by
  refine g_start (cc := cX6_noCell) (maxL := 3) (ret := (some .int)) (by decide) rfl (Nat.le_of_ble_eq_true rfl) ?_
  intro p_ e_ s_ m_ args_ below_ meth_ c_ A_ C hr hnm
  refine g_aload_n 1 C 0 dX6_noCell_0 rfl rfl ?_
  refine g_get 4 C 0 18 6 iX6_noCell_X6 lX6_noCell_35 dX6_noCell_1 rfl rfl rfl (by decide) rfl ?_
  refine g_iload_n 5 C 1 dX6_noCell_4 rfl rfl ?_
  have e0 := hss k (by omega)
  refine g_iaload 6 C 1 dX6_noCell_5 rfl rfl (by omega) ?_
  refine g_if_ge 13 9 C dX6_noCell_6 (by decide) rfl (by omega) ?_ ?_
  · intro h6
    refine g_iload_n 14 C 2 dX6_noCell_13 rfl rfl ?_
    refine g_i2l 15 C dX6_noCell_14 rfl (by omega) ?_
    refine g_lconst 16 C 0 dX6_noCell_15 rfl (by decide) ?_
    refine g_aload_n 17 C 0 dX6_noCell_16 rfl rfl ?_
    refine g_get 20 C 0 18 6 iX6_noCell_X6 lX6_noCell_35 dX6_noCell_17 rfl rfl rfl (by decide) rfl ?_
    refine g_iload_n 21 C 1 dX6_noCell_20 rfl rfl ?_
    refine g_iaload 22 C 1 dX6_noCell_21 rfl rfl (by omega) ?_
    refine g_i2l 23 C dX6_noCell_22 rfl (by omega) ?_
    refine g_lconst 24 C 1 dX6_noCell_23 rfl (by decide) ?_
    refine g_lsub 25 C dX6_noCell_24 rfl ?_
    refine g_callSF 28 C [] dX6_noCell_25 rfl (k_X6_in E l  (by first | assumption | omega) (by first | assumption | omega) (by first | assumption | omega)) (va_cwS 3 C.2.2.2.2.1 gX6_noCell_X6_in rfl rfl rfl cdX6_in ⟨Nat.le_of_ble_eq_true rfl, Nat.le_of_ble_eq_true rfl⟩) rfl rfl rfl rfl (Nat.le_of_ble_eq_true rfl) ⟨Nat.le_of_ble_eq_true rfl, Nat.le_of_ble_eq_true rfl⟩ ?_
    refine g_ifb_eq 35 31 C dX6_noCell_28 (by decide) rfl ?_ ?_
    · intro h28
      refine g_iconst 36 C dX6_noCell_35 rfl ?_
      exact g_iret C hr dX6_noCell_36 ⟨g_ri (by (repeat' split) <;> first | rfl | omega), rfl⟩
    · intro h28
      refine g_iconst 32 C dX6_noCell_31 rfl ?_
      refine g_goto 36 C dX6_noCell_32 (by decide) ?_
      exact g_iret C hr dX6_noCell_36 ⟨g_ri (by (repeat' split) <;> first | rfl | omega), rfl⟩
  · intro h6
    refine g_iconst 10 C dX6_noCell_9 rfl ?_
    refine g_goto 36 C dX6_noCell_10 (by decide) ?_
    exact g_iret C hr dX6_noCell_36 ⟨g_ri (by (repeat' split) <;> first | rfl | omega), rfl⟩
theorem cdX6_noCell : yX6_noCell.cls = RX6 ∧ yX6_noCell.cls ≠ "java/lang/invoke/MethodHandle" ∧ yX6_noCell.cls ≠ "java/lang/invoke/VarHandle" ∧ (parseMethodDescriptor yX6_noCell.desc).map (fun d => d.parameters.length) = some 2 := by decide +kernel
theorem lX6_put_38 : Cond.fieldLink RX6 38 (TX6 19).1 (TX6 19).2.1 (TX6 19).2.2.1 ∈ wsX6_put := by decide +kernel
theorem lX6_put_41 : Cond.fieldLink RX6 41 (TX6 20).1 (TX6 20).2.1 (TX6 20).2.2.1 ∈ wsX6_put := by decide +kernel
theorem iX6_put_X6 : ∀ w ∈ u_ws RX6 TX6 23, w ∈ wsX6_put := by decide +kernel
set_option maxHeartbeats 4000000 in
set_option maxRecDepth 100000 in
theorem k_X6_put (E : gE) (l : Launch) {a_M a_Ma a_Mc a_Mg a_Mh a_Mi a_Ml a_Mp a_Ms a_Mt a_Mu a_Mx a_My : Nat} {k i v : Int} {ss sl sc : Int → Int} {mf W h mL mN n tc fd jo tr : Int} {md : Int64} (hss : ∀ j : Int, 0 ≤ j ∧ j < 4 → (-1 ≤ ss j ∧ ss j ≤ 50) ∧ 0 ≤ sl j ∧ sl j ≤ 2) (hk : -2147483648 ≤ k ∧ k < 2147483648) (hi : -2147483648 ≤ i ∧ i < 2147483648) (hv : -2147483648 ≤ v ∧ v < 2147483648) : gUpd E l yX6_put wsX6_put { frames := 2, cells := 0, slots := 0, locals := 47 } [.ref a_M, .int (iI k), .int (iI i), .int (iI v)] [(a_M, .inr (6, [.int (iI mf), .int (iI W), .int (iI h), .ref a_Mh, .long md, .int (iI mL), .int (iI mN), .int (iI n), .ref a_Mp, .ref a_Mt, .int (iI tc), .int (iI fd), .ref a_Ma, .ref a_Mu, .ref a_Mi, .int (iI jo), .ref a_Mx, .ref a_My, .ref a_Ms, .ref a_Ml, .ref a_Mc, .ref a_Mg, .int (iI tr)])), (a_Ms, aI E 4 ss), (a_Ml, aI E 4 sl), (a_Mc, aI E 200 sc)] (some (.int (iI (if ¬ (0 ≤ k ∧ k < 4) then -1 else if ss k < 0 then -11 else if ¬ (0 ≤ i ∧ i < ss k) then -13 else 1)))) [(a_M, .inr (6, [.int (iI (if ¬ (0 ≤ k ∧ k < 4) then 0 else if ss k < 0 then 1 else if ¬ (0 ≤ i ∧ i < ss k) then 3 else 0)), .int (iI W), .int (iI h), .ref a_Mh, .long md, .int (iI mL), .int (iI mN), .int (iI n), .ref a_Mp, .ref a_Mt, .int (iI tc), .int (iI fd), .ref a_Ma, .ref a_Mu, .ref a_Mi, .int (iI jo), .ref a_Mx, .ref a_My, .ref a_Ms, .ref a_Ml, .ref a_Mc, .ref a_Mg, .int (iI tr)])), (a_Ms, aI E 4 ss), (a_Ml, aI E 4 sl), (a_Mc, aI E 200 (if (0 ≤ k ∧ k < 4) ∧ 0 ≤ ss k ∧ 0 ≤ i ∧ i < ss k then uI sc (50 * k + i) (cuI (sl k) v) else sc))] := by
  refine g_start (cc := cX6_put) (maxL := 4) (ret := (some .int)) (by decide) rfl (Nat.le_of_ble_eq_true rfl) ?_
  intro p_ e_ s_ m_ args_ below_ meth_ c_ A_ C hr hnm
  refine g_iload_n 1 C 1 dX6_put_0 rfl rfl ?_
  refine g_callSF 4 C [] dX6_put_1 rfl (k_X6_noSheet E l  (by first | assumption | omega)) (va_cwS 1 C.2.2.2.2.1 gX6_put_X6_noSheet rfl rfl rfl cdX6_noSheet ⟨Nat.le_of_ble_eq_true rfl, Nat.le_of_ble_eq_true rfl⟩) rfl rfl rfl rfl (Nat.le_of_ble_eq_true rfl) ⟨Nat.le_of_ble_eq_true rfl, Nat.le_of_ble_eq_true rfl⟩ ?_
  refine g_ifb_eq 13 7 C dX6_put_4 (by decide) rfl ?_ ?_
  · intro h4
    rcases (by omega : (ss k < 0) ∨ (0 ≤ ss k ∧ ¬ (0 ≤ i ∧ i < ss k)) ∨ (0 ≤ ss k ∧ 0 ≤ i ∧ i < ss k)) with hq | hq | hq
    · skip
      refine g_aload_n 14 C 0 dX6_put_13 rfl rfl ?_
      refine g_iload_n 15 C 1 dX6_put_14 rfl rfl ?_
      refine g_iload_n 16 C 2 dX6_put_15 rfl rfl ?_
      refine g_callVF 19 C [0, 1] dX6_put_16 rfl (k_X6_noCell E l  (by first | assumption | omega) (by first | assumption | omega) (by first | assumption | omega)) (cwV 2 C.2.2.2.2.1 gX6_put_X6_noCell rfl rfl rfl cdX6_noCell ⟨Nat.le_of_ble_eq_true rfl, Nat.le_of_ble_eq_true rfl⟩) rfl rfl rfl rfl (Nat.le_of_ble_eq_true rfl) 0 6 rfl rfl rfl ⟨Nat.le_of_ble_eq_true rfl, Nat.le_of_ble_eq_true rfl⟩ ?_
      have enc : (if ss k < 0 then 1 else if 0 ≤ i ∧ i < ss k then 0 else 3 : Int) = 1 := if_pos (by omega)
      refine g_if_le 33 22 C dX6_put_19 (by decide) rfl (by omega) (fun h19 => absurd h19 (by omega)) ?_
      intro h19
      refine g_aload_n 23 C 0 dX6_put_22 rfl rfl ?_
      refine g_aload_n 24 C 0 dX6_put_23 rfl rfl ?_
      refine g_iload_n 25 C 1 dX6_put_24 rfl rfl ?_
      refine g_iload_n 26 C 2 dX6_put_25 rfl rfl ?_
      refine g_callVF 29 C [0, 1] dX6_put_26 rfl (k_X6_noCell E l  (by first | assumption | omega) (by first | assumption | omega) (by first | assumption | omega)) (cwV 2 C.2.2.2.2.1 gX6_put_X6_noCell rfl rfl rfl cdX6_noCell ⟨Nat.le_of_ble_eq_true rfl, Nat.le_of_ble_eq_true rfl⟩) rfl rfl rfl rfl (Nat.le_of_ble_eq_true rfl) 0 6 rfl rfl rfl ⟨Nat.le_of_ble_eq_true rfl, Nat.le_of_ble_eq_true rfl⟩ ?_
      refine g_callVU (ws' := [(_, .inr (6, [_, _, _, _, _, _, _, _, _, _, _, _, _, _, _, _, _, _, _, _, _, _, _])), (_, aI _ _ _), (_, aI _ _ _), (_, aI _ _ _)]) 32 C [0] dX6_put_29 rfl (k_X6_failed E l  ) (cwV 1 C.2.2.2.2.1 gX6_put_X6_failed rfl rfl rfl cdX6_failed ⟨Nat.le_of_ble_eq_true rfl, Nat.le_of_ble_eq_true rfl⟩) rfl rfl rfl rfl (Nat.le_of_ble_eq_true rfl) 0 6 rfl rfl rfl ⟨Nat.le_of_ble_eq_true rfl, Nat.le_of_ble_eq_true rfl⟩ rfl rfl ?_
      exact g_iret C hr dX6_put_32 ⟨g_ri (by rw [enc]; (have g0 : ¬ (¬ (0 ≤ k ∧ k < 4)) := (by omega)); (have g1 : ss k < 0 := (by omega)); simp only [if_neg g0, if_pos g1] <;> rfl), by rw [enc]; (have g0 : ¬ (¬ (0 ≤ k ∧ k < 4)) := (by omega)); (have g1 : ss k < 0 := (by omega)); (have x0 : ¬ ((0 ≤ k ∧ k < 4) ∧ 0 ≤ ss k ∧ 0 ≤ i ∧ i < ss k) := (by omega)); simp only [if_neg g0, if_pos g1, if_neg x0] <;> rfl⟩
    · skip
      refine g_aload_n 14 C 0 dX6_put_13 rfl rfl ?_
      refine g_iload_n 15 C 1 dX6_put_14 rfl rfl ?_
      refine g_iload_n 16 C 2 dX6_put_15 rfl rfl ?_
      refine g_callVF 19 C [0, 1] dX6_put_16 rfl (k_X6_noCell E l  (by first | assumption | omega) (by first | assumption | omega) (by first | assumption | omega)) (cwV 2 C.2.2.2.2.1 gX6_put_X6_noCell rfl rfl rfl cdX6_noCell ⟨Nat.le_of_ble_eq_true rfl, Nat.le_of_ble_eq_true rfl⟩) rfl rfl rfl rfl (Nat.le_of_ble_eq_true rfl) 0 6 rfl rfl rfl ⟨Nat.le_of_ble_eq_true rfl, Nat.le_of_ble_eq_true rfl⟩ ?_
      have enc : (if ss k < 0 then 1 else if 0 ≤ i ∧ i < ss k then 0 else 3 : Int) = 3 := (if_neg (by omega)).trans (if_neg (by omega))
      refine g_if_le 33 22 C dX6_put_19 (by decide) rfl (by omega) (fun h19 => absurd h19 (by omega)) ?_
      intro h19
      refine g_aload_n 23 C 0 dX6_put_22 rfl rfl ?_
      refine g_aload_n 24 C 0 dX6_put_23 rfl rfl ?_
      refine g_iload_n 25 C 1 dX6_put_24 rfl rfl ?_
      refine g_iload_n 26 C 2 dX6_put_25 rfl rfl ?_
      refine g_callVF 29 C [0, 1] dX6_put_26 rfl (k_X6_noCell E l  (by first | assumption | omega) (by first | assumption | omega) (by first | assumption | omega)) (cwV 2 C.2.2.2.2.1 gX6_put_X6_noCell rfl rfl rfl cdX6_noCell ⟨Nat.le_of_ble_eq_true rfl, Nat.le_of_ble_eq_true rfl⟩) rfl rfl rfl rfl (Nat.le_of_ble_eq_true rfl) 0 6 rfl rfl rfl ⟨Nat.le_of_ble_eq_true rfl, Nat.le_of_ble_eq_true rfl⟩ ?_
      refine g_callVU (ws' := [(_, .inr (6, [_, _, _, _, _, _, _, _, _, _, _, _, _, _, _, _, _, _, _, _, _, _, _])), (_, aI _ _ _), (_, aI _ _ _), (_, aI _ _ _)]) 32 C [0] dX6_put_29 rfl (k_X6_failed E l  ) (cwV 1 C.2.2.2.2.1 gX6_put_X6_failed rfl rfl rfl cdX6_failed ⟨Nat.le_of_ble_eq_true rfl, Nat.le_of_ble_eq_true rfl⟩) rfl rfl rfl rfl (Nat.le_of_ble_eq_true rfl) 0 6 rfl rfl rfl ⟨Nat.le_of_ble_eq_true rfl, Nat.le_of_ble_eq_true rfl⟩ rfl rfl ?_
      exact g_iret C hr dX6_put_32 ⟨g_ri (by rw [enc]; (have g0 : ¬ (¬ (0 ≤ k ∧ k < 4)) := (by omega)); (have g1 : ¬ (ss k < 0) := (by omega)); (have g2 : ¬ (0 ≤ i ∧ i < ss k) := (by omega)); simp only [if_neg g0, if_neg g1, if_pos g2] <;> rfl), by rw [enc]; (have g0 : ¬ (¬ (0 ≤ k ∧ k < 4)) := (by omega)); (have g1 : ¬ (ss k < 0) := (by omega)); (have g2 : ¬ (0 ≤ i ∧ i < ss k) := (by omega)); (have x0 : ¬ ((0 ≤ k ∧ k < 4) ∧ 0 ≤ ss k ∧ 0 ≤ i ∧ i < ss k) := (by omega)); simp only [if_neg g0, if_neg g1, if_pos g2, if_neg x0] <;> rfl⟩
    · skip
      refine g_aload_n 14 C 0 dX6_put_13 rfl rfl ?_
      refine g_iload_n 15 C 1 dX6_put_14 rfl rfl ?_
      refine g_iload_n 16 C 2 dX6_put_15 rfl rfl ?_
      refine g_callVF 19 C [0, 1] dX6_put_16 rfl (k_X6_noCell E l  (by first | assumption | omega) (by first | assumption | omega) (by first | assumption | omega)) (cwV 2 C.2.2.2.2.1 gX6_put_X6_noCell rfl rfl rfl cdX6_noCell ⟨Nat.le_of_ble_eq_true rfl, Nat.le_of_ble_eq_true rfl⟩) rfl rfl rfl rfl (Nat.le_of_ble_eq_true rfl) 0 6 rfl rfl rfl ⟨Nat.le_of_ble_eq_true rfl, Nat.le_of_ble_eq_true rfl⟩ ?_
      have enc : (if ss k < 0 then 1 else if 0 ≤ i ∧ i < ss k then 0 else 3 : Int) = 0 := (if_neg (by omega)).trans (if_pos (by omega))
      refine g_if_le 33 22 C dX6_put_19 (by decide) rfl (by omega) ?_ (fun h19 => absurd h19 (by omega))
      intro h19
      refine g_aload_n 34 C 0 dX6_put_33 rfl rfl ?_
      refine g_get 37 C 0 20 6 iX6_put_X6 lX6_put_41 dX6_put_34 rfl rfl rfl (by decide) rfl ?_
      refine g_bipush 39 C dX6_put_37 rfl (by decide) ?_
      refine g_iload_n 40 C 1 dX6_put_39 rfl rfl ?_
      refine g_imul 41 C dX6_put_40 rfl ?_
      refine g_iload_n 42 C 2 dX6_put_41 rfl rfl ?_
      refine g_iadd 43 C dX6_put_42 rfl ?_
      refine g_aload_n 44 C 0 dX6_put_43 rfl rfl ?_
      refine g_get 47 C 0 19 6 iX6_put_X6 lX6_put_38 dX6_put_44 rfl rfl rfl (by decide) rfl ?_
      refine g_iload_n 48 C 1 dX6_put_47 rfl rfl ?_
      have e1 := hss k (by omega)
      refine g_iaload 49 C 2 dX6_put_48 rfl rfl (by omega) ?_
      refine g_if_ne 57 52 C dX6_put_49 (by decide) rfl (by omega) ?_ ?_
      · intro h49
        refine g_aload_n 58 C 0 dX6_put_57 rfl rfl ?_
        refine g_get 61 C 0 19 6 iX6_put_X6 lX6_put_38 dX6_put_58 rfl rfl rfl (by decide) rfl ?_
        refine g_iload_n 62 C 1 dX6_put_61 rfl rfl ?_
        have e1 := hss k (by omega)
        refine g_iaload 63 C 2 dX6_put_62 rfl rfl (by omega) ?_
        refine g_iconst 64 C dX6_put_63 rfl ?_
        refine g_icmp_ne 72 67 C dX6_put_64 (by decide) rfl (by omega) ?_ ?_
        · intro h64
          refine g_iload_n 73 C 3 dX6_put_72 rfl rfl ?_
          first | rw [← cuI_0 (v := v) (show sl k = 0 by omega)] | rw [← cuI_1 (v := v) (show sl k = 1 by omega)] | rw [show iI v = iI (cuI (sl k) v) from congrArg iI (cuI_2 (show sl k ≠ 0 ∧ sl k ≠ 1 by omega)).symm]
          refine g_iastore (ws' := [(_, .inr (6, [_, _, _, _, _, _, _, _, _, _, _, _, _, _, _, _, _, _, _, _, _, _, _])), (_, aI _ _ _), (_, aI _ _ _), (_, aI _ _ _)]) 74 C 3 dX6_put_73 rfl rfl (by omega) rfl ?_
          refine g_aload_n 75 C 0 dX6_put_74 rfl rfl ?_
          refine g_iconst 76 C dX6_put_75 rfl ?_
          refine g_callVU (ws' := [(_, .inr (6, [_, _, _, _, _, _, _, _, _, _, _, _, _, _, _, _, _, _, _, _, _, _, _])), (_, aI _ _ _), (_, aI _ _ _), (_, aI _ _ _)]) 79 C [0] dX6_put_76 rfl (k_X6_refused E l  ) (cwV 1 C.2.2.2.2.1 gX6_put_X6_refused rfl rfl rfl cdX6_refused ⟨Nat.le_of_ble_eq_true rfl, Nat.le_of_ble_eq_true rfl⟩) rfl rfl rfl rfl (Nat.le_of_ble_eq_true rfl) 0 6 rfl rfl rfl ⟨Nat.le_of_ble_eq_true rfl, Nat.le_of_ble_eq_true rfl⟩ rfl rfl ?_
          exact g_iret C hr dX6_put_79 ⟨g_ri (by (have g0 : ¬ (¬ (0 ≤ k ∧ k < 4)) := (by omega)); (have g1 : ¬ (ss k < 0) := (by omega)); (have g2 : ¬ (¬ (0 ≤ i ∧ i < ss k)) := (by omega)); simp only [if_neg g0, if_neg g1, if_neg g2] <;> rfl), by (have g0 : ¬ (¬ (0 ≤ k ∧ k < 4)) := (by omega)); (have g1 : ¬ (ss k < 0) := (by omega)); (have g2 : ¬ (¬ (0 ≤ i ∧ i < ss k)) := (by omega)); (have x0 : (0 ≤ k ∧ k < 4) ∧ 0 ≤ ss k ∧ 0 ≤ i ∧ i < ss k := (by omega)); simp only [if_neg g0, if_neg g1, if_neg g2, if_pos x0] <;> rfl⟩
        · intro h64
          refine g_iload_n 68 C 3 dX6_put_67 rfl rfl ?_
          refine g_i2s 69 C dX6_put_68 rfl ?_
          refine g_goto 73 C dX6_put_69 (by decide) ?_
          first | rw [← cuI_0 (v := v) (show sl k = 0 by omega)] | rw [← cuI_1 (v := v) (show sl k = 1 by omega)] | rw [show iI v = iI (cuI (sl k) v) from congrArg iI (cuI_2 (show sl k ≠ 0 ∧ sl k ≠ 1 by omega)).symm]
          refine g_iastore (ws' := [(_, .inr (6, [_, _, _, _, _, _, _, _, _, _, _, _, _, _, _, _, _, _, _, _, _, _, _])), (_, aI _ _ _), (_, aI _ _ _), (_, aI _ _ _)]) 74 C 3 dX6_put_73 rfl rfl (by omega) rfl ?_
          refine g_aload_n 75 C 0 dX6_put_74 rfl rfl ?_
          refine g_iconst 76 C dX6_put_75 rfl ?_
          refine g_callVU (ws' := [(_, .inr (6, [_, _, _, _, _, _, _, _, _, _, _, _, _, _, _, _, _, _, _, _, _, _, _])), (_, aI _ _ _), (_, aI _ _ _), (_, aI _ _ _)]) 79 C [0] dX6_put_76 rfl (k_X6_refused E l  ) (cwV 1 C.2.2.2.2.1 gX6_put_X6_refused rfl rfl rfl cdX6_refused ⟨Nat.le_of_ble_eq_true rfl, Nat.le_of_ble_eq_true rfl⟩) rfl rfl rfl rfl (Nat.le_of_ble_eq_true rfl) 0 6 rfl rfl rfl ⟨Nat.le_of_ble_eq_true rfl, Nat.le_of_ble_eq_true rfl⟩ rfl rfl ?_
          exact g_iret C hr dX6_put_79 ⟨g_ri (by (have g0 : ¬ (¬ (0 ≤ k ∧ k < 4)) := (by omega)); (have g1 : ¬ (ss k < 0) := (by omega)); (have g2 : ¬ (¬ (0 ≤ i ∧ i < ss k)) := (by omega)); simp only [if_neg g0, if_neg g1, if_neg g2] <;> rfl), by (have g0 : ¬ (¬ (0 ≤ k ∧ k < 4)) := (by omega)); (have g1 : ¬ (ss k < 0) := (by omega)); (have g2 : ¬ (¬ (0 ≤ i ∧ i < ss k)) := (by omega)); (have x0 : (0 ≤ k ∧ k < 4) ∧ 0 ≤ ss k ∧ 0 ≤ i ∧ i < ss k := (by omega)); simp only [if_neg g0, if_neg g1, if_neg g2, if_pos x0] <;> rfl⟩
      · intro h49
        refine g_iload_n 53 C 3 dX6_put_52 rfl rfl ?_
        refine g_i2b 54 C dX6_put_53 rfl ?_
        refine g_goto 73 C dX6_put_54 (by decide) ?_
        first | rw [← cuI_0 (v := v) (show sl k = 0 by omega)] | rw [← cuI_1 (v := v) (show sl k = 1 by omega)] | rw [show iI v = iI (cuI (sl k) v) from congrArg iI (cuI_2 (show sl k ≠ 0 ∧ sl k ≠ 1 by omega)).symm]
        refine g_iastore (ws' := [(_, .inr (6, [_, _, _, _, _, _, _, _, _, _, _, _, _, _, _, _, _, _, _, _, _, _, _])), (_, aI _ _ _), (_, aI _ _ _), (_, aI _ _ _)]) 74 C 3 dX6_put_73 rfl rfl (by omega) rfl ?_
        refine g_aload_n 75 C 0 dX6_put_74 rfl rfl ?_
        refine g_iconst 76 C dX6_put_75 rfl ?_
        refine g_callVU (ws' := [(_, .inr (6, [_, _, _, _, _, _, _, _, _, _, _, _, _, _, _, _, _, _, _, _, _, _, _])), (_, aI _ _ _), (_, aI _ _ _), (_, aI _ _ _)]) 79 C [0] dX6_put_76 rfl (k_X6_refused E l  ) (cwV 1 C.2.2.2.2.1 gX6_put_X6_refused rfl rfl rfl cdX6_refused ⟨Nat.le_of_ble_eq_true rfl, Nat.le_of_ble_eq_true rfl⟩) rfl rfl rfl rfl (Nat.le_of_ble_eq_true rfl) 0 6 rfl rfl rfl ⟨Nat.le_of_ble_eq_true rfl, Nat.le_of_ble_eq_true rfl⟩ rfl rfl ?_
        exact g_iret C hr dX6_put_79 ⟨g_ri (by (have g0 : ¬ (¬ (0 ≤ k ∧ k < 4)) := (by omega)); (have g1 : ¬ (ss k < 0) := (by omega)); (have g2 : ¬ (¬ (0 ≤ i ∧ i < ss k)) := (by omega)); simp only [if_neg g0, if_neg g1, if_neg g2] <;> rfl), by (have g0 : ¬ (¬ (0 ≤ k ∧ k < 4)) := (by omega)); (have g1 : ¬ (ss k < 0) := (by omega)); (have g2 : ¬ (¬ (0 ≤ i ∧ i < ss k)) := (by omega)); (have x0 : (0 ≤ k ∧ k < 4) ∧ 0 ≤ ss k ∧ 0 ≤ i ∧ i < ss k := (by omega)); simp only [if_neg g0, if_neg g1, if_neg g2, if_pos x0] <;> rfl⟩
  · intro h4
    refine g_aload_n 8 C 0 dX6_put_7 rfl rfl ?_
    refine g_iconst 9 C dX6_put_8 rfl ?_
    refine g_callVU (ws' := [(_, .inr (6, [_, _, _, _, _, _, _, _, _, _, _, _, _, _, _, _, _, _, _, _, _, _, _])), (_, aI _ _ _), (_, aI _ _ _), (_, aI _ _ _)]) 12 C [0] dX6_put_9 rfl (k_X6_refused E l  ) (cwV 1 C.2.2.2.2.1 gX6_put_X6_refused rfl rfl rfl cdX6_refused ⟨Nat.le_of_ble_eq_true rfl, Nat.le_of_ble_eq_true rfl⟩) rfl rfl rfl rfl (Nat.le_of_ble_eq_true rfl) 0 6 rfl rfl rfl ⟨Nat.le_of_ble_eq_true rfl, Nat.le_of_ble_eq_true rfl⟩ rfl rfl ?_
    exact g_iret C hr dX6_put_12 ⟨g_ri (by (have g0 : ¬ (0 ≤ k ∧ k < 4) := (by omega)); simp only [if_pos g0] <;> rfl), by (have g0 : ¬ (0 ≤ k ∧ k < 4) := (by omega)); (have x0 : ¬ ((0 ≤ k ∧ k < 4) ∧ 0 ≤ ss k ∧ 0 ≤ i ∧ i < ss k) := (by omega)); simp only [if_pos g0, if_neg x0] <;> rfl⟩
theorem cdX6_failedLong : yX6_failedLong.cls = RX6 ∧ yX6_failedLong.cls ≠ "java/lang/invoke/MethodHandle" ∧ yX6_failedLong.cls ≠ "java/lang/invoke/VarHandle" ∧ (parseMethodDescriptor yX6_failedLong.desc).map (fun d => d.parameters.length) = some 1 := by decide +kernel
theorem lX6_cell_35 : Cond.fieldLink RX6 35 (TX6 18).1 (TX6 18).2.1 (TX6 18).2.2.1 ∈ wsX6_cell := by decide +kernel
theorem lX6_cell_38 : Cond.fieldLink RX6 38 (TX6 19).1 (TX6 19).2.1 (TX6 19).2.2.1 ∈ wsX6_cell := by decide +kernel
theorem lX6_cell_41 : Cond.fieldLink RX6 41 (TX6 20).1 (TX6 20).2.1 (TX6 20).2.2.1 ∈ wsX6_cell := by decide +kernel
theorem lX6_cell_56 : Cond.fieldLink RX6 56 (TX6 0).1 (TX6 0).2.1 (TX6 0).2.2.1 ∈ wsX6_cell := by decide +kernel
theorem lX6_cell_199 : Cond.constantLong RX6 199 (2) ∈ wsX6_cell := by decide +kernel
theorem iX6_cell_X6 : ∀ w ∈ u_ws RX6 TX6 23, w ∈ wsX6_cell := by decide +kernel
set_option maxHeartbeats 4000000 in
set_option maxRecDepth 100000 in
theorem k_X6_cell (E : gE) (l : Launch) {a_M a_Ma a_Mc a_Mg a_Mh a_Mi a_Ml a_Mp a_Ms a_Mt a_Mu a_Mx a_My : Nat} {k i t : Int} {ss sl sc : Int → Int} {mf W h mL mN n tc fd jo tr : Int} {md : Int64} (hss : ∀ j : Int, 0 ≤ j ∧ j < 4 → (-1 ≤ ss j ∧ ss j ≤ 50) ∧ 0 ≤ sl j ∧ sl j ≤ 2) (hscr : ∀ j : Int, -2147483648 ≤ sc j ∧ sc j < 2147483648) (hk : -2147483648 ≤ k ∧ k < 2147483648) (hi : -2147483648 ≤ i ∧ i < 2147483648) (ht : -2147483648 ≤ t ∧ t < 2147483648) : gUpd E l yX6_cell wsX6_cell { frames := 2, cells := 0, slots := 0, locals := 47 } [.ref a_M, .int (iI k), .int (iI i), .int (iI t)] [(a_M, .inr (6, [.int (iI mf), .int (iI W), .int (iI h), .ref a_Mh, .long md, .int (iI mL), .int (iI mN), .int (iI n), .ref a_Mp, .ref a_Mt, .int (iI tc), .int (iI fd), .ref a_Ma, .ref a_Mu, .ref a_Mi, .int (iI jo), .ref a_Mx, .ref a_My, .ref a_Ms, .ref a_Ml, .ref a_Mc, .ref a_Mg, .int (iI tr)])), (a_Ms, aI E 4 ss), (a_Ml, aI E 4 sl), (a_Mc, aI E 200 sc)] (some (.long (lI (if ¬ ((0 ≤ k ∧ k < 4) ∧ 0 ≤ t ∧ t < 3) then -9223372036854775808 else if 0 ≤ ss k ∧ sl k ≠ t then -9223372036854775808 else if ss k < 0 then -9223372036854775808 else if ¬ (0 ≤ i ∧ i < ss k) then -9223372036854775808 else sc (50 * k + i))))) [(a_M, .inr (6, [.int (iI (if ¬ ((0 ≤ k ∧ k < 4) ∧ 0 ≤ t ∧ t < 3) then 0 else if 0 ≤ ss k ∧ sl k ≠ t then 2 else if ss k < 0 then 1 else if ¬ (0 ≤ i ∧ i < ss k) then 3 else 0)), .int (iI W), .int (iI h), .ref a_Mh, .long md, .int (iI mL), .int (iI mN), .int (iI n), .ref a_Mp, .ref a_Mt, .int (iI tc), .int (iI fd), .ref a_Ma, .ref a_Mu, .ref a_Mi, .int (iI jo), .ref a_Mx, .ref a_My, .ref a_Ms, .ref a_Ml, .ref a_Mc, .ref a_Mg, .int (iI tr)])), (a_Ms, aI E 4 ss), (a_Ml, aI E 4 sl), (a_Mc, aI E 200 sc)] := by
  refine g_start (cc := cX6_cell) (maxL := 4) (ret := (some .long)) (by decide) rfl (Nat.le_of_ble_eq_true rfl) ?_
  intro p_ e_ s_ m_ args_ below_ meth_ c_ A_ C hr hnm
  refine g_aload_n 1 C 0 dX6_cell_0 rfl rfl ?_
  refine g_iconst 2 C dX6_cell_1 rfl ?_
  refine g_put (ws' := [(_, .inr (6, [_, _, _, _, _, _, _, _, _, _, _, _, _, _, _, _, _, _, _, _, _, _, _])), (_, aI _ _ _), (_, aI _ _ _), (_, aI _ _ _)]) 5 C 0 0 6 tyX6 tyX6_ok nmX6 iX6_cell_X6 lX6_cell_56 dX6_cell_2 rfl rfl rfl (by decide) rfl rfl rfl (Nat.le_of_ble_eq_true rfl) rfl ?_
  refine g_iload_n 6 C 1 dX6_cell_5 rfl rfl ?_
  refine g_callSF 9 C [] dX6_cell_6 rfl (k_X6_noSheet E l  (by first | assumption | omega)) (va_cwS 1 C.2.2.2.2.1 gX6_cell_X6_noSheet rfl rfl rfl cdX6_noSheet ⟨Nat.le_of_ble_eq_true rfl, Nat.le_of_ble_eq_true rfl⟩) rfl rfl rfl rfl (Nat.le_of_ble_eq_true rfl) ⟨Nat.le_of_ble_eq_true rfl, Nat.le_of_ble_eq_true rfl⟩ ?_
  refine g_ifb_ne 24 12 C dX6_cell_9 (by decide) rfl ?_ ?_
  · intro h9
    refine g_callSF 27 C [] dX6_cell_24 rfl (k_X6_lost E l  ) (va_cwS 0 C.2.2.2.2.1 gX6_cell_X6_lost rfl rfl rfl cdX6_lost ⟨Nat.le_of_ble_eq_true rfl, Nat.le_of_ble_eq_true rfl⟩) rfl rfl rfl rfl (Nat.le_of_ble_eq_true rfl) ⟨Nat.le_of_ble_eq_true rfl, Nat.le_of_ble_eq_true rfl⟩ ?_
    exact g_lret C hr dX6_cell_27 ⟨g_rl (by (have g0 : ¬ ((0 ≤ k ∧ k < 4) ∧ 0 ≤ t ∧ t < 3) := (by omega)); simp only [if_pos g0] <;> rfl), by (have g0 : ¬ ((0 ≤ k ∧ k < 4) ∧ 0 ≤ t ∧ t < 3) := (by omega)); simp only [if_pos g0] <;> rfl⟩
  · intro h9
    refine g_iload_n 13 C 3 dX6_cell_12 rfl rfl ?_
    refine g_i2l 14 C dX6_cell_13 rfl (by omega) ?_
    refine g_lconst 15 C 0 dX6_cell_14 rfl (by decide) ?_
    refine g_ldc2 18 C (2) dX6_cell_15 rfl lX6_cell_199 (by decide) ?_
    refine g_callSF 21 C [] dX6_cell_18 rfl (k_X6_in E l  (by first | assumption | omega) (by first | assumption | omega) (by first | assumption | omega)) (va_cwS 3 C.2.2.2.2.1 gX6_cell_X6_in rfl rfl rfl cdX6_in ⟨Nat.le_of_ble_eq_true rfl, Nat.le_of_ble_eq_true rfl⟩) rfl rfl rfl rfl (Nat.le_of_ble_eq_true rfl) ⟨Nat.le_of_ble_eq_true rfl, Nat.le_of_ble_eq_true rfl⟩ ?_
    refine g_ifb_ne 28 24 C dX6_cell_21 (by decide) rfl ?_ ?_
    · intro h21
      refine g_aload_n 29 C 0 dX6_cell_28 rfl rfl ?_
      refine g_get 32 C 0 18 6 iX6_cell_X6 lX6_cell_35 dX6_cell_29 rfl rfl rfl (by decide) rfl ?_
      refine g_iload_n 33 C 1 dX6_cell_32 rfl rfl ?_
      have e0 := hss k (by omega)
      refine g_iaload 34 C 1 dX6_cell_33 rfl rfl (by omega) ?_
      refine g_if_lt 53 37 C dX6_cell_34 (by decide) rfl (by omega) ?_ ?_
      · intro h34
        rcases (by omega : (ss k < 0) ∨ (0 ≤ ss k ∧ ¬ (0 ≤ i ∧ i < ss k)) ∨ (0 ≤ ss k ∧ 0 ≤ i ∧ i < ss k)) with hq | hq | hq
        · skip
          refine g_aload_n 54 C 0 dX6_cell_53 rfl rfl ?_
          refine g_iload_n 55 C 1 dX6_cell_54 rfl rfl ?_
          refine g_iload_n 56 C 2 dX6_cell_55 rfl rfl ?_
          refine g_callVF 59 C [0, 1] dX6_cell_56 rfl (k_X6_noCell E l  (by first | assumption | omega) (by first | assumption | omega) (by first | assumption | omega)) (cwV 2 C.2.2.2.2.1 gX6_cell_X6_noCell rfl rfl rfl cdX6_noCell ⟨Nat.le_of_ble_eq_true rfl, Nat.le_of_ble_eq_true rfl⟩) rfl rfl rfl rfl (Nat.le_of_ble_eq_true rfl) 0 6 rfl rfl rfl ⟨Nat.le_of_ble_eq_true rfl, Nat.le_of_ble_eq_true rfl⟩ ?_
          have enc : (if ss k < 0 then 1 else if 0 ≤ i ∧ i < ss k then 0 else 3 : Int) = 1 := if_pos (by omega)
          refine g_if_le 75 62 C dX6_cell_59 (by decide) rfl (by omega) (fun h59 => absurd h59 (by omega)) ?_
          intro h59
          refine g_aload_n 63 C 0 dX6_cell_62 rfl rfl ?_
          refine g_aload_n 64 C 0 dX6_cell_63 rfl rfl ?_
          refine g_iload_n 65 C 1 dX6_cell_64 rfl rfl ?_
          refine g_iload_n 66 C 2 dX6_cell_65 rfl rfl ?_
          refine g_callVF 69 C [0, 1] dX6_cell_66 rfl (k_X6_noCell E l  (by first | assumption | omega) (by first | assumption | omega) (by first | assumption | omega)) (cwV 2 C.2.2.2.2.1 gX6_cell_X6_noCell rfl rfl rfl cdX6_noCell ⟨Nat.le_of_ble_eq_true rfl, Nat.le_of_ble_eq_true rfl⟩) rfl rfl rfl rfl (Nat.le_of_ble_eq_true rfl) 0 6 rfl rfl rfl ⟨Nat.le_of_ble_eq_true rfl, Nat.le_of_ble_eq_true rfl⟩ ?_
          refine g_callVU (ws' := [(_, .inr (6, [_, _, _, _, _, _, _, _, _, _, _, _, _, _, _, _, _, _, _, _, _, _, _])), (_, aI _ _ _), (_, aI _ _ _), (_, aI _ _ _)]) 72 C [0] dX6_cell_69 rfl (k_X6_failedLong E l  ) (cwV 1 C.2.2.2.2.1 gX6_cell_X6_failedLong rfl rfl rfl cdX6_failedLong ⟨Nat.le_of_ble_eq_true rfl, Nat.le_of_ble_eq_true rfl⟩) rfl rfl rfl rfl (Nat.le_of_ble_eq_true rfl) 0 6 rfl rfl rfl ⟨Nat.le_of_ble_eq_true rfl, Nat.le_of_ble_eq_true rfl⟩ rfl rfl ?_
          refine g_goto 87 C dX6_cell_72 (by decide) ?_
          exact g_lret C hr dX6_cell_87 ⟨g_rl (by (have g0 : ¬ (¬ ((0 ≤ k ∧ k < 4) ∧ 0 ≤ t ∧ t < 3)) := (by omega)); (have g1 : ¬ (0 ≤ ss k ∧ sl k ≠ t) := (by omega)); (have g2 : ss k < 0 := (by omega)); simp only [if_neg g0, if_neg g1, if_pos g2] <;> rfl), by rw [enc]; (have g0 : ¬ (¬ ((0 ≤ k ∧ k < 4) ∧ 0 ≤ t ∧ t < 3)) := (by omega)); (have g1 : ¬ (0 ≤ ss k ∧ sl k ≠ t) := (by omega)); (have g2 : ss k < 0 := (by omega)); simp only [if_neg g0, if_neg g1, if_pos g2] <;> rfl⟩
        · skip
          refine g_aload_n 54 C 0 dX6_cell_53 rfl rfl ?_
          refine g_iload_n 55 C 1 dX6_cell_54 rfl rfl ?_
          refine g_iload_n 56 C 2 dX6_cell_55 rfl rfl ?_
          refine g_callVF 59 C [0, 1] dX6_cell_56 rfl (k_X6_noCell E l  (by first | assumption | omega) (by first | assumption | omega) (by first | assumption | omega)) (cwV 2 C.2.2.2.2.1 gX6_cell_X6_noCell rfl rfl rfl cdX6_noCell ⟨Nat.le_of_ble_eq_true rfl, Nat.le_of_ble_eq_true rfl⟩) rfl rfl rfl rfl (Nat.le_of_ble_eq_true rfl) 0 6 rfl rfl rfl ⟨Nat.le_of_ble_eq_true rfl, Nat.le_of_ble_eq_true rfl⟩ ?_
          have enc : (if ss k < 0 then 1 else if 0 ≤ i ∧ i < ss k then 0 else 3 : Int) = 3 := (if_neg (by omega)).trans (if_neg (by omega))
          refine g_if_le 75 62 C dX6_cell_59 (by decide) rfl (by omega) (fun h59 => absurd h59 (by omega)) ?_
          intro h59
          refine g_aload_n 63 C 0 dX6_cell_62 rfl rfl ?_
          refine g_aload_n 64 C 0 dX6_cell_63 rfl rfl ?_
          refine g_iload_n 65 C 1 dX6_cell_64 rfl rfl ?_
          refine g_iload_n 66 C 2 dX6_cell_65 rfl rfl ?_
          refine g_callVF 69 C [0, 1] dX6_cell_66 rfl (k_X6_noCell E l  (by first | assumption | omega) (by first | assumption | omega) (by first | assumption | omega)) (cwV 2 C.2.2.2.2.1 gX6_cell_X6_noCell rfl rfl rfl cdX6_noCell ⟨Nat.le_of_ble_eq_true rfl, Nat.le_of_ble_eq_true rfl⟩) rfl rfl rfl rfl (Nat.le_of_ble_eq_true rfl) 0 6 rfl rfl rfl ⟨Nat.le_of_ble_eq_true rfl, Nat.le_of_ble_eq_true rfl⟩ ?_
          refine g_callVU (ws' := [(_, .inr (6, [_, _, _, _, _, _, _, _, _, _, _, _, _, _, _, _, _, _, _, _, _, _, _])), (_, aI _ _ _), (_, aI _ _ _), (_, aI _ _ _)]) 72 C [0] dX6_cell_69 rfl (k_X6_failedLong E l  ) (cwV 1 C.2.2.2.2.1 gX6_cell_X6_failedLong rfl rfl rfl cdX6_failedLong ⟨Nat.le_of_ble_eq_true rfl, Nat.le_of_ble_eq_true rfl⟩) rfl rfl rfl rfl (Nat.le_of_ble_eq_true rfl) 0 6 rfl rfl rfl ⟨Nat.le_of_ble_eq_true rfl, Nat.le_of_ble_eq_true rfl⟩ rfl rfl ?_
          refine g_goto 87 C dX6_cell_72 (by decide) ?_
          exact g_lret C hr dX6_cell_87 ⟨g_rl (by (have g0 : ¬ (¬ ((0 ≤ k ∧ k < 4) ∧ 0 ≤ t ∧ t < 3)) := (by omega)); (have g1 : ¬ (0 ≤ ss k ∧ sl k ≠ t) := (by omega)); (have g2 : ¬ (ss k < 0) := (by omega)); (have g3 : ¬ (0 ≤ i ∧ i < ss k) := (by omega)); simp only [if_neg g0, if_neg g1, if_neg g2, if_pos g3] <;> rfl), by rw [enc]; (have g0 : ¬ (¬ ((0 ≤ k ∧ k < 4) ∧ 0 ≤ t ∧ t < 3)) := (by omega)); (have g1 : ¬ (0 ≤ ss k ∧ sl k ≠ t) := (by omega)); (have g2 : ¬ (ss k < 0) := (by omega)); (have g3 : ¬ (0 ≤ i ∧ i < ss k) := (by omega)); simp only [if_neg g0, if_neg g1, if_neg g2, if_pos g3] <;> rfl⟩
        · skip
          refine g_aload_n 54 C 0 dX6_cell_53 rfl rfl ?_
          refine g_iload_n 55 C 1 dX6_cell_54 rfl rfl ?_
          refine g_iload_n 56 C 2 dX6_cell_55 rfl rfl ?_
          refine g_callVF 59 C [0, 1] dX6_cell_56 rfl (k_X6_noCell E l  (by first | assumption | omega) (by first | assumption | omega) (by first | assumption | omega)) (cwV 2 C.2.2.2.2.1 gX6_cell_X6_noCell rfl rfl rfl cdX6_noCell ⟨Nat.le_of_ble_eq_true rfl, Nat.le_of_ble_eq_true rfl⟩) rfl rfl rfl rfl (Nat.le_of_ble_eq_true rfl) 0 6 rfl rfl rfl ⟨Nat.le_of_ble_eq_true rfl, Nat.le_of_ble_eq_true rfl⟩ ?_
          have enc : (if ss k < 0 then 1 else if 0 ≤ i ∧ i < ss k then 0 else 3 : Int) = 0 := (if_neg (by omega)).trans (if_pos (by omega))
          refine g_if_le 75 62 C dX6_cell_59 (by decide) rfl (by omega) ?_ (fun h59 => absurd h59 (by omega))
          intro h59
          refine g_aload_n 76 C 0 dX6_cell_75 rfl rfl ?_
          refine g_get 79 C 0 20 6 iX6_cell_X6 lX6_cell_41 dX6_cell_76 rfl rfl rfl (by decide) rfl ?_
          refine g_bipush 81 C dX6_cell_79 rfl (by decide) ?_
          refine g_iload_n 82 C 1 dX6_cell_81 rfl rfl ?_
          refine g_imul 83 C dX6_cell_82 rfl ?_
          refine g_iload_n 84 C 2 dX6_cell_83 rfl rfl ?_
          refine g_iadd 85 C dX6_cell_84 rfl ?_
          refine g_iaload 86 C 3 dX6_cell_85 rfl rfl (by omega) ?_
          have e2 := hscr (50 * k + i)
          refine g_i2l 87 C dX6_cell_86 rfl (by omega) ?_
          exact g_lret C hr dX6_cell_87 ⟨g_rl (by (have g0 : ¬ (¬ ((0 ≤ k ∧ k < 4) ∧ 0 ≤ t ∧ t < 3)) := (by omega)); (have g1 : ¬ (0 ≤ ss k ∧ sl k ≠ t) := (by omega)); (have g2 : ¬ (ss k < 0) := (by omega)); (have g3 : ¬ (¬ (0 ≤ i ∧ i < ss k)) := (by omega)); simp only [if_neg g0, if_neg g1, if_neg g2, if_neg g3] <;> rfl), by (have g0 : ¬ (¬ ((0 ≤ k ∧ k < 4) ∧ 0 ≤ t ∧ t < 3)) := (by omega)); (have g1 : ¬ (0 ≤ ss k ∧ sl k ≠ t) := (by omega)); (have g2 : ¬ (ss k < 0) := (by omega)); (have g3 : ¬ (¬ (0 ≤ i ∧ i < ss k)) := (by omega)); simp only [if_neg g0, if_neg g1, if_neg g2, if_neg g3] <;> rfl⟩
      · intro h34
        refine g_aload_n 38 C 0 dX6_cell_37 rfl rfl ?_
        refine g_get 41 C 0 19 6 iX6_cell_X6 lX6_cell_38 dX6_cell_38 rfl rfl rfl (by decide) rfl ?_
        refine g_iload_n 42 C 1 dX6_cell_41 rfl rfl ?_
        refine g_iaload 43 C 2 dX6_cell_42 rfl rfl (by omega) ?_
        refine g_iload_n 44 C 3 dX6_cell_43 rfl rfl ?_
        refine g_icmp_eq 53 47 C dX6_cell_44 (by decide) rfl (by omega) ?_ ?_
        · intro h44
          rcases (by omega : (ss k < 0) ∨ (0 ≤ ss k ∧ ¬ (0 ≤ i ∧ i < ss k)) ∨ (0 ≤ ss k ∧ 0 ≤ i ∧ i < ss k)) with hq | hq | hq
          · skip
            refine g_aload_n 54 C 0 dX6_cell_53 rfl rfl ?_
            refine g_iload_n 55 C 1 dX6_cell_54 rfl rfl ?_
            refine g_iload_n 56 C 2 dX6_cell_55 rfl rfl ?_
            refine g_callVF 59 C [0, 1] dX6_cell_56 rfl (k_X6_noCell E l  (by first | assumption | omega) (by first | assumption | omega) (by first | assumption | omega)) (cwV 2 C.2.2.2.2.1 gX6_cell_X6_noCell rfl rfl rfl cdX6_noCell ⟨Nat.le_of_ble_eq_true rfl, Nat.le_of_ble_eq_true rfl⟩) rfl rfl rfl rfl (Nat.le_of_ble_eq_true rfl) 0 6 rfl rfl rfl ⟨Nat.le_of_ble_eq_true rfl, Nat.le_of_ble_eq_true rfl⟩ ?_
            have enc : (if ss k < 0 then 1 else if 0 ≤ i ∧ i < ss k then 0 else 3 : Int) = 1 := if_pos (by omega)
            refine g_if_le 75 62 C dX6_cell_59 (by decide) rfl (by omega) (fun h59 => absurd h59 (by omega)) ?_
            intro h59
            refine g_aload_n 63 C 0 dX6_cell_62 rfl rfl ?_
            refine g_aload_n 64 C 0 dX6_cell_63 rfl rfl ?_
            refine g_iload_n 65 C 1 dX6_cell_64 rfl rfl ?_
            refine g_iload_n 66 C 2 dX6_cell_65 rfl rfl ?_
            refine g_callVF 69 C [0, 1] dX6_cell_66 rfl (k_X6_noCell E l  (by first | assumption | omega) (by first | assumption | omega) (by first | assumption | omega)) (cwV 2 C.2.2.2.2.1 gX6_cell_X6_noCell rfl rfl rfl cdX6_noCell ⟨Nat.le_of_ble_eq_true rfl, Nat.le_of_ble_eq_true rfl⟩) rfl rfl rfl rfl (Nat.le_of_ble_eq_true rfl) 0 6 rfl rfl rfl ⟨Nat.le_of_ble_eq_true rfl, Nat.le_of_ble_eq_true rfl⟩ ?_
            refine g_callVU (ws' := [(_, .inr (6, [_, _, _, _, _, _, _, _, _, _, _, _, _, _, _, _, _, _, _, _, _, _, _])), (_, aI _ _ _), (_, aI _ _ _), (_, aI _ _ _)]) 72 C [0] dX6_cell_69 rfl (k_X6_failedLong E l  ) (cwV 1 C.2.2.2.2.1 gX6_cell_X6_failedLong rfl rfl rfl cdX6_failedLong ⟨Nat.le_of_ble_eq_true rfl, Nat.le_of_ble_eq_true rfl⟩) rfl rfl rfl rfl (Nat.le_of_ble_eq_true rfl) 0 6 rfl rfl rfl ⟨Nat.le_of_ble_eq_true rfl, Nat.le_of_ble_eq_true rfl⟩ rfl rfl ?_
            refine g_goto 87 C dX6_cell_72 (by decide) ?_
            exact g_lret C hr dX6_cell_87 ⟨g_rl (by (have g0 : ¬ (¬ ((0 ≤ k ∧ k < 4) ∧ 0 ≤ t ∧ t < 3)) := (by omega)); (have g1 : ¬ (0 ≤ ss k ∧ sl k ≠ t) := (by omega)); (have g2 : ss k < 0 := (by omega)); simp only [if_neg g0, if_neg g1, if_pos g2] <;> rfl), by rw [enc]; (have g0 : ¬ (¬ ((0 ≤ k ∧ k < 4) ∧ 0 ≤ t ∧ t < 3)) := (by omega)); (have g1 : ¬ (0 ≤ ss k ∧ sl k ≠ t) := (by omega)); (have g2 : ss k < 0 := (by omega)); simp only [if_neg g0, if_neg g1, if_pos g2] <;> rfl⟩
          · skip
            refine g_aload_n 54 C 0 dX6_cell_53 rfl rfl ?_
            refine g_iload_n 55 C 1 dX6_cell_54 rfl rfl ?_
            refine g_iload_n 56 C 2 dX6_cell_55 rfl rfl ?_
            refine g_callVF 59 C [0, 1] dX6_cell_56 rfl (k_X6_noCell E l  (by first | assumption | omega) (by first | assumption | omega) (by first | assumption | omega)) (cwV 2 C.2.2.2.2.1 gX6_cell_X6_noCell rfl rfl rfl cdX6_noCell ⟨Nat.le_of_ble_eq_true rfl, Nat.le_of_ble_eq_true rfl⟩) rfl rfl rfl rfl (Nat.le_of_ble_eq_true rfl) 0 6 rfl rfl rfl ⟨Nat.le_of_ble_eq_true rfl, Nat.le_of_ble_eq_true rfl⟩ ?_
            have enc : (if ss k < 0 then 1 else if 0 ≤ i ∧ i < ss k then 0 else 3 : Int) = 3 := (if_neg (by omega)).trans (if_neg (by omega))
            refine g_if_le 75 62 C dX6_cell_59 (by decide) rfl (by omega) (fun h59 => absurd h59 (by omega)) ?_
            intro h59
            refine g_aload_n 63 C 0 dX6_cell_62 rfl rfl ?_
            refine g_aload_n 64 C 0 dX6_cell_63 rfl rfl ?_
            refine g_iload_n 65 C 1 dX6_cell_64 rfl rfl ?_
            refine g_iload_n 66 C 2 dX6_cell_65 rfl rfl ?_
            refine g_callVF 69 C [0, 1] dX6_cell_66 rfl (k_X6_noCell E l  (by first | assumption | omega) (by first | assumption | omega) (by first | assumption | omega)) (cwV 2 C.2.2.2.2.1 gX6_cell_X6_noCell rfl rfl rfl cdX6_noCell ⟨Nat.le_of_ble_eq_true rfl, Nat.le_of_ble_eq_true rfl⟩) rfl rfl rfl rfl (Nat.le_of_ble_eq_true rfl) 0 6 rfl rfl rfl ⟨Nat.le_of_ble_eq_true rfl, Nat.le_of_ble_eq_true rfl⟩ ?_
            refine g_callVU (ws' := [(_, .inr (6, [_, _, _, _, _, _, _, _, _, _, _, _, _, _, _, _, _, _, _, _, _, _, _])), (_, aI _ _ _), (_, aI _ _ _), (_, aI _ _ _)]) 72 C [0] dX6_cell_69 rfl (k_X6_failedLong E l  ) (cwV 1 C.2.2.2.2.1 gX6_cell_X6_failedLong rfl rfl rfl cdX6_failedLong ⟨Nat.le_of_ble_eq_true rfl, Nat.le_of_ble_eq_true rfl⟩) rfl rfl rfl rfl (Nat.le_of_ble_eq_true rfl) 0 6 rfl rfl rfl ⟨Nat.le_of_ble_eq_true rfl, Nat.le_of_ble_eq_true rfl⟩ rfl rfl ?_
            refine g_goto 87 C dX6_cell_72 (by decide) ?_
            exact g_lret C hr dX6_cell_87 ⟨g_rl (by (have g0 : ¬ (¬ ((0 ≤ k ∧ k < 4) ∧ 0 ≤ t ∧ t < 3)) := (by omega)); (have g1 : ¬ (0 ≤ ss k ∧ sl k ≠ t) := (by omega)); (have g2 : ¬ (ss k < 0) := (by omega)); (have g3 : ¬ (0 ≤ i ∧ i < ss k) := (by omega)); simp only [if_neg g0, if_neg g1, if_neg g2, if_pos g3] <;> rfl), by rw [enc]; (have g0 : ¬ (¬ ((0 ≤ k ∧ k < 4) ∧ 0 ≤ t ∧ t < 3)) := (by omega)); (have g1 : ¬ (0 ≤ ss k ∧ sl k ≠ t) := (by omega)); (have g2 : ¬ (ss k < 0) := (by omega)); (have g3 : ¬ (0 ≤ i ∧ i < ss k) := (by omega)); simp only [if_neg g0, if_neg g1, if_neg g2, if_pos g3] <;> rfl⟩
          · skip
            refine g_aload_n 54 C 0 dX6_cell_53 rfl rfl ?_
            refine g_iload_n 55 C 1 dX6_cell_54 rfl rfl ?_
            refine g_iload_n 56 C 2 dX6_cell_55 rfl rfl ?_
            refine g_callVF 59 C [0, 1] dX6_cell_56 rfl (k_X6_noCell E l  (by first | assumption | omega) (by first | assumption | omega) (by first | assumption | omega)) (cwV 2 C.2.2.2.2.1 gX6_cell_X6_noCell rfl rfl rfl cdX6_noCell ⟨Nat.le_of_ble_eq_true rfl, Nat.le_of_ble_eq_true rfl⟩) rfl rfl rfl rfl (Nat.le_of_ble_eq_true rfl) 0 6 rfl rfl rfl ⟨Nat.le_of_ble_eq_true rfl, Nat.le_of_ble_eq_true rfl⟩ ?_
            have enc : (if ss k < 0 then 1 else if 0 ≤ i ∧ i < ss k then 0 else 3 : Int) = 0 := (if_neg (by omega)).trans (if_pos (by omega))
            refine g_if_le 75 62 C dX6_cell_59 (by decide) rfl (by omega) ?_ (fun h59 => absurd h59 (by omega))
            intro h59
            refine g_aload_n 76 C 0 dX6_cell_75 rfl rfl ?_
            refine g_get 79 C 0 20 6 iX6_cell_X6 lX6_cell_41 dX6_cell_76 rfl rfl rfl (by decide) rfl ?_
            refine g_bipush 81 C dX6_cell_79 rfl (by decide) ?_
            refine g_iload_n 82 C 1 dX6_cell_81 rfl rfl ?_
            refine g_imul 83 C dX6_cell_82 rfl ?_
            refine g_iload_n 84 C 2 dX6_cell_83 rfl rfl ?_
            refine g_iadd 85 C dX6_cell_84 rfl ?_
            refine g_iaload 86 C 3 dX6_cell_85 rfl rfl (by omega) ?_
            have e2 := hscr (50 * k + i)
            refine g_i2l 87 C dX6_cell_86 rfl (by omega) ?_
            exact g_lret C hr dX6_cell_87 ⟨g_rl (by (have g0 : ¬ (¬ ((0 ≤ k ∧ k < 4) ∧ 0 ≤ t ∧ t < 3)) := (by omega)); (have g1 : ¬ (0 ≤ ss k ∧ sl k ≠ t) := (by omega)); (have g2 : ¬ (ss k < 0) := (by omega)); (have g3 : ¬ (¬ (0 ≤ i ∧ i < ss k)) := (by omega)); simp only [if_neg g0, if_neg g1, if_neg g2, if_neg g3] <;> rfl), by (have g0 : ¬ (¬ ((0 ≤ k ∧ k < 4) ∧ 0 ≤ t ∧ t < 3)) := (by omega)); (have g1 : ¬ (0 ≤ ss k ∧ sl k ≠ t) := (by omega)); (have g2 : ¬ (ss k < 0) := (by omega)); (have g3 : ¬ (¬ (0 ≤ i ∧ i < ss k)) := (by omega)); simp only [if_neg g0, if_neg g1, if_neg g2, if_neg g3] <;> rfl⟩
        · intro h44
          refine g_aload_n 48 C 0 dX6_cell_47 rfl rfl ?_
          refine g_iconst 49 C dX6_cell_48 rfl ?_
          refine g_callVU (ws' := [(_, .inr (6, [_, _, _, _, _, _, _, _, _, _, _, _, _, _, _, _, _, _, _, _, _, _, _])), (_, aI _ _ _), (_, aI _ _ _), (_, aI _ _ _)]) 52 C [0] dX6_cell_49 rfl (k_X6_failedLong E l  ) (cwV 1 C.2.2.2.2.1 gX6_cell_X6_failedLong rfl rfl rfl cdX6_failedLong ⟨Nat.le_of_ble_eq_true rfl, Nat.le_of_ble_eq_true rfl⟩) rfl rfl rfl rfl (Nat.le_of_ble_eq_true rfl) 0 6 rfl rfl rfl ⟨Nat.le_of_ble_eq_true rfl, Nat.le_of_ble_eq_true rfl⟩ rfl rfl ?_
          exact g_lret C hr dX6_cell_52 ⟨g_rl (by (have g0 : ¬ (¬ ((0 ≤ k ∧ k < 4) ∧ 0 ≤ t ∧ t < 3)) := (by omega)); (have g1 : 0 ≤ ss k ∧ sl k ≠ t := (by omega)); simp only [if_neg g0, if_pos g1] <;> rfl), by (have g0 : ¬ (¬ ((0 ≤ k ∧ k < 4) ∧ 0 ≤ t ∧ t < 3)) := (by omega)); (have g1 : 0 ≤ ss k ∧ sl k ≠ t := (by omega)); simp only [if_neg g0, if_pos g1] <;> rfl⟩
    · intro h21
      refine g_callSF 27 C [] dX6_cell_24 rfl (k_X6_lost E l  ) (va_cwS 0 C.2.2.2.2.1 gX6_cell_X6_lost rfl rfl rfl cdX6_lost ⟨Nat.le_of_ble_eq_true rfl, Nat.le_of_ble_eq_true rfl⟩) rfl rfl rfl rfl (Nat.le_of_ble_eq_true rfl) ⟨Nat.le_of_ble_eq_true rfl, Nat.le_of_ble_eq_true rfl⟩ ?_
      exact g_lret C hr dX6_cell_27 ⟨g_rl (by (have g0 : ¬ ((0 ≤ k ∧ k < 4) ∧ 0 ≤ t ∧ t < 3) := (by omega)); simp only [if_pos g0] <;> rfl), by (have g0 : ¬ ((0 ≤ k ∧ k < 4) ∧ 0 ≤ t ∧ t < 3) := (by omega)); simp only [if_pos g0] <;> rfl⟩
set_option maxHeartbeats 4000000 in
set_option maxRecDepth 100000 in
theorem k_X6_isBeyond (E : gE) (l : Launch) {i n0 al : Int} (hi : -2147483648 ≤ i ∧ i < 2147483648) (hn0 : -1099511627776 ≤ n0 ∧ n0 < 1099511627776) (ha : -2147483648 ≤ al ∧ al < 2147483648) : gFun E l yX6_isBeyond wsX6_isBeyond { frames := 0, cells := 0, slots := 0, locals := 0 } [.int (iI i), .long (lI n0), .int (iI al)] [] (.int (iI (if ¬ (0 ≤ i ∧ 0 ≤ n0 ∧ i + n0 ≤ al) then 1 else 0))) := by
  refine g_start (cc := cX6_isBeyond) (maxL := 4) (ret := (some .boolean)) (by decide) rfl (Nat.le_of_ble_eq_true rfl) ?_
  intro p_ e_ s_ m_ args_ below_ meth_ c_ A_ C hr hnm
  refine g_iload_n 1 C 0 dX6_isBeyond_0 rfl rfl ?_
  refine g_if_lt 20 4 C dX6_isBeyond_1 (by decide) rfl (by omega) ?_ ?_
  · intro h1
    refine g_iconst 21 C dX6_isBeyond_20 rfl ?_
    refine g_goto 25 C dX6_isBeyond_21 (by decide) ?_
    exact g_zret C hr dX6_isBeyond_25 (by first | rfl | decide | (split <;> rfl)) ⟨g_ri (by first | rfl | omega | exact (if_pos (by omega)).symm | exact (if_neg (by omega)).symm), rfl⟩
  · intro h1
    refine g_lload_n 5 C 1 dX6_isBeyond_4 rfl rfl ?_
    refine g_lconst 6 C 0 dX6_isBeyond_5 rfl (by decide) ?_
    refine g_lc_lt 7 20 10 C dX6_isBeyond_6 rfl dX6_isBeyond_7 (by decide) rfl (by omega) ?_ ?_
    · intro h6
      refine g_iconst 21 C dX6_isBeyond_20 rfl ?_
      refine g_goto 25 C dX6_isBeyond_21 (by decide) ?_
      exact g_zret C hr dX6_isBeyond_25 (by first | rfl | decide | (split <;> rfl)) ⟨g_ri (by first | rfl | omega | exact (if_pos (by omega)).symm | exact (if_neg (by omega)).symm), rfl⟩
    · intro h6
      refine g_iload_n 11 C 0 dX6_isBeyond_10 rfl rfl ?_
      refine g_i2l 12 C dX6_isBeyond_11 rfl (by omega) ?_
      refine g_lload_n 13 C 1 dX6_isBeyond_12 rfl rfl ?_
      refine g_ladd 14 C dX6_isBeyond_13 rfl ?_
      refine g_iload_n 15 C 2 dX6_isBeyond_14 rfl rfl ?_
      refine g_i2l 16 C dX6_isBeyond_15 rfl (by omega) ?_
      refine g_lc_le 17 24 20 C dX6_isBeyond_16 rfl dX6_isBeyond_17 (by decide) rfl (by omega) ?_ ?_
      · intro h16
        refine g_iconst 25 C dX6_isBeyond_24 rfl ?_
        exact g_zret C hr dX6_isBeyond_25 (by first | rfl | decide | (split <;> rfl)) ⟨g_ri (by first | rfl | omega | exact (if_pos (by omega)).symm | exact (if_neg (by omega)).symm), rfl⟩
      · intro h16
        refine g_iconst 21 C dX6_isBeyond_20 rfl ?_
        refine g_goto 25 C dX6_isBeyond_21 (by decide) ?_
        exact g_zret C hr dX6_isBeyond_25 (by first | rfl | decide | (split <;> rfl)) ⟨g_ri (by first | rfl | omega | exact (if_pos (by omega)).symm | exact (if_neg (by omega)).symm), rfl⟩
theorem cdX6_isBeyond : yX6_isBeyond.cls ≠ "java/lang/invoke/MethodHandle" ∧ yX6_isBeyond.cls ≠ "java/lang/invoke/VarHandle" ∧ (parseMethodDescriptor yX6_isBeyond.desc).map (fun d => d.parameters.length) = some 3 := by decide +kernel
theorem lX6_copy_35 : Cond.fieldLink RX6 35 (TX6 18).1 (TX6 18).2.1 (TX6 18).2.2.1 ∈ wsX6_copy := by decide +kernel
theorem lX6_copy_38 : Cond.fieldLink RX6 38 (TX6 19).1 (TX6 19).2.1 (TX6 19).2.2.1 ∈ wsX6_copy := by decide +kernel
theorem lX6_copy_41 : Cond.fieldLink RX6 41 (TX6 20).1 (TX6 20).2.1 (TX6 20).2.2.1 ∈ wsX6_copy := by decide +kernel
theorem lX6_copy_44 : Cond.fieldLink RX6 44 (TX6 21).1 (TX6 21).2.1 (TX6 21).2.2.1 ∈ wsX6_copy := by decide +kernel
theorem iX6_copy_X6 : ∀ w ∈ u_ws RX6 TX6 23, w ∈ wsX6_copy := by decide +kernel
set_option maxHeartbeats 4000000 in
set_option maxRecDepth 100000 in
theorem k_X6_copy (E : gE) (l : Launch) {a_M a_Ma a_Mc a_Mg a_Mh a_Mi a_Ml a_Mp a_Ms a_Mt a_Mu a_Mx a_My : Nat} {k i o j n0 : Int} {hg : Int → Int} {ss sl sc : Int → Int} {mf W h mL mN n tc fd jo tr : Int} {md : Int64} (hss : ∀ j : Int, 0 ≤ j ∧ j < 4 → (-1 ≤ ss j ∧ ss j ≤ 50) ∧ 0 ≤ sl j ∧ sl j ≤ 2) (hk : -2147483648 ≤ k ∧ k < 2147483648) (ho : -2147483648 ≤ o ∧ o < 2147483648) (hi : -2147483648 ≤ i ∧ i < 2147483648) (hj : -2147483648 ≤ j ∧ j < 2147483648) (hn0 : -2147483648 ≤ n0 ∧ n0 < 2147483648) : gMet E l yX6_copy wsX6_copy { frames := 2, cells := 0, slots := 0, locals := 45 } 0 0 [.ref a_M, .int (iI k), .int (iI i), .int (iI o), .int (iI j), .int (iI n0)] [(a_M, .inr (6, [.int (iI mf), .int (iI W), .int (iI h), .ref a_Mh, .long md, .int (iI mL), .int (iI mN), .int (iI n), .ref a_Mp, .ref a_Mt, .int (iI tc), .int (iI fd), .ref a_Ma, .ref a_Mu, .ref a_Mi, .int (iI jo), .ref a_Mx, .ref a_My, .ref a_Ms, .ref a_Ml, .ref a_Mc, .ref a_Mg, .int (iI tr)])), (a_Ms, aI E 4 ss), (a_Ml, aI E 4 sl), (a_Mc, aI E 200 sc), (a_Mg, aI E 50 hg)] (fun v w => ∃ g2 : Int → Int, v = some (.int (iI (if ¬ ((0 ≤ k ∧ k < 4) ∧ (0 ≤ o ∧ o < 4)) then -1 else if ¬ (0 ≤ ss k ∧ 0 ≤ ss o) then -11 else if sl k ≠ sl o then -12 else if ¬ ((0 ≤ i ∧ 0 ≤ n0 ∧ i + n0 ≤ ss k) ∧ (0 ≤ j ∧ 0 ≤ n0 ∧ j + n0 ≤ ss o)) then -13 else n0))) ∧ w = [(a_M, .inr (6, [.int (iI (if ¬ ((0 ≤ k ∧ k < 4) ∧ (0 ≤ o ∧ o < 4)) then 0 else if ¬ (0 ≤ ss k ∧ 0 ≤ ss o) then 1 else if sl k ≠ sl o then 2 else if ¬ ((0 ≤ i ∧ 0 ≤ n0 ∧ i + n0 ≤ ss k) ∧ (0 ≤ j ∧ 0 ≤ n0 ∧ j + n0 ≤ ss o)) then 3 else 0)), .int (iI W), .int (iI h), .ref a_Mh, .long md, .int (iI mL), .int (iI mN), .int (iI n), .ref a_Mp, .ref a_Mt, .int (iI tc), .int (iI fd), .ref a_Ma, .ref a_Mu, .ref a_Mi, .int (iI jo), .ref a_Mx, .ref a_My, .ref a_Ms, .ref a_Ml, .ref a_Mc, .ref a_Mg, .int (iI tr)])), (a_Ms, aI E 4 ss), (a_Ml, aI E 4 sl), (a_Mc, aI E 200 (if ((0 ≤ k ∧ k < 4) ∧ (0 ≤ o ∧ o < 4)) ∧ (0 ≤ ss k ∧ 0 ≤ ss o) ∧ sl k = sl o ∧ (0 ≤ i ∧ 0 ≤ n0 ∧ i + n0 ≤ ss k) ∧ (0 ≤ j ∧ 0 ≤ n0 ∧ j + n0 ≤ ss o) then cpI sc sc (50 * k + i) (50 * o + j) n0 else sc)), (a_Mg, aI E 50 g2)]) := by
  refine g_start (cc := cX6_copy) (maxL := 7) (ret := (some .int)) (by decide) rfl (Nat.le_of_ble_eq_true rfl) ?_
  intro p_ e_ s_ m_ args_ below_ meth_ c_ A_ C hr hnm
  refine g_iload_n 1 C 1 dX6_copy_0 rfl rfl ?_
  refine g_callSF 4 C [] dX6_copy_1 rfl (k_X6_noSheet E l  (by first | assumption | omega)) (va_cwS 1 C.2.2.2.2.1 gX6_copy_X6_noSheet rfl rfl rfl cdX6_noSheet ⟨Nat.le_of_ble_eq_true rfl, Nat.le_of_ble_eq_true rfl⟩) rfl rfl rfl rfl (Nat.le_of_ble_eq_true rfl) ⟨Nat.le_of_ble_eq_true rfl, Nat.le_of_ble_eq_true rfl⟩ ?_
  refine g_ifb_ne 14 7 C dX6_copy_4 (by decide) rfl ?_ ?_
  · intro h4
    refine g_aload_n 15 C 0 dX6_copy_14 rfl rfl ?_
    refine g_iconst 16 C dX6_copy_15 rfl ?_
    refine g_callVU (ws' := [(_, .inr (6, [_, _, _, _, _, _, _, _, _, _, _, _, _, _, _, _, _, _, _, _, _, _, _])), (_, aI _ _ _), (_, aI _ _ _), (_, aI _ _ _), (_, aI _ _ _)]) 19 C [0] dX6_copy_16 rfl (k_X6_refused E l  ) (cwV 1 C.2.2.2.2.1 gX6_copy_X6_refused rfl rfl rfl cdX6_refused ⟨Nat.le_of_ble_eq_true rfl, Nat.le_of_ble_eq_true rfl⟩) rfl rfl rfl rfl (Nat.le_of_ble_eq_true rfl) 0 6 rfl rfl rfl ⟨Nat.le_of_ble_eq_true rfl, Nat.le_of_ble_eq_true rfl⟩ rfl rfl ?_
    exact g_iret C hr dX6_copy_19 ⟨_, g_ri (by (have g0 : ¬ ((0 ≤ k ∧ k < 4) ∧ (0 ≤ o ∧ o < 4)) := (by omega)); simp only [if_pos g0] <;> rfl), by (have g0 : ¬ ((0 ≤ k ∧ k < 4) ∧ (0 ≤ o ∧ o < 4)) := (by omega)); (have x0 : ¬ (((0 ≤ k ∧ k < 4) ∧ (0 ≤ o ∧ o < 4)) ∧ (0 ≤ ss k ∧ 0 ≤ ss o) ∧ sl k = sl o ∧ (0 ≤ i ∧ 0 ≤ n0 ∧ i + n0 ≤ ss k) ∧ (0 ≤ j ∧ 0 ≤ n0 ∧ j + n0 ≤ ss o)) := (by omega)); simp only [if_pos g0, if_neg x0] <;> rfl⟩
  · intro h4
    refine g_iload_n 8 C 3 dX6_copy_7 rfl rfl ?_
    refine g_callSF 11 C [] dX6_copy_8 rfl (k_X6_noSheet E l  (by first | assumption | omega)) (va_cwS 1 C.2.2.2.2.1 gX6_copy_X6_noSheet rfl rfl rfl cdX6_noSheet ⟨Nat.le_of_ble_eq_true rfl, Nat.le_of_ble_eq_true rfl⟩) rfl rfl rfl rfl (Nat.le_of_ble_eq_true rfl) ⟨Nat.le_of_ble_eq_true rfl, Nat.le_of_ble_eq_true rfl⟩ ?_
    refine g_ifb_eq 20 14 C dX6_copy_11 (by decide) rfl ?_ ?_
    · intro h11
      refine g_aload_n 21 C 0 dX6_copy_20 rfl rfl ?_
      refine g_get 24 C 0 18 6 iX6_copy_X6 lX6_copy_35 dX6_copy_21 rfl rfl rfl (by decide) rfl ?_
      refine g_iload_n 25 C 1 dX6_copy_24 rfl rfl ?_
      have e0 := hss k (by omega)
      have e1 := hss o (by omega)
      refine g_iaload 26 C 1 dX6_copy_25 rfl rfl (by omega) ?_
      refine g_if_lt 38 29 C dX6_copy_26 (by decide) rfl (by omega) ?_ ?_
      · intro h26
        refine g_aload_n 39 C 0 dX6_copy_38 rfl rfl ?_
        refine g_iconst 40 C dX6_copy_39 rfl ?_
        refine g_callVU (ws' := [(_, .inr (6, [_, _, _, _, _, _, _, _, _, _, _, _, _, _, _, _, _, _, _, _, _, _, _])), (_, aI _ _ _), (_, aI _ _ _), (_, aI _ _ _), (_, aI _ _ _)]) 43 C [0] dX6_copy_40 rfl (k_X6_failed E l  ) (cwV 1 C.2.2.2.2.1 gX6_copy_X6_failed rfl rfl rfl cdX6_failed ⟨Nat.le_of_ble_eq_true rfl, Nat.le_of_ble_eq_true rfl⟩) rfl rfl rfl rfl (Nat.le_of_ble_eq_true rfl) 0 6 rfl rfl rfl ⟨Nat.le_of_ble_eq_true rfl, Nat.le_of_ble_eq_true rfl⟩ rfl rfl ?_
        exact g_iret C hr dX6_copy_43 ⟨_, g_ri (by (have g0 : ¬ (¬ ((0 ≤ k ∧ k < 4) ∧ (0 ≤ o ∧ o < 4))) := (by omega)); (have g1 : ¬ (0 ≤ ss k ∧ 0 ≤ ss o) := (by omega)); simp only [if_neg g0, if_pos g1] <;> rfl), by (have g0 : ¬ (¬ ((0 ≤ k ∧ k < 4) ∧ (0 ≤ o ∧ o < 4))) := (by omega)); (have g1 : ¬ (0 ≤ ss k ∧ 0 ≤ ss o) := (by omega)); (have x0 : ¬ (((0 ≤ k ∧ k < 4) ∧ (0 ≤ o ∧ o < 4)) ∧ (0 ≤ ss k ∧ 0 ≤ ss o) ∧ sl k = sl o ∧ (0 ≤ i ∧ 0 ≤ n0 ∧ i + n0 ≤ ss k) ∧ (0 ≤ j ∧ 0 ≤ n0 ∧ j + n0 ≤ ss o)) := (by omega)); simp only [if_neg g0, if_pos g1, if_neg x0] <;> rfl⟩
      · intro h26
        refine g_aload_n 30 C 0 dX6_copy_29 rfl rfl ?_
        refine g_get 33 C 0 18 6 iX6_copy_X6 lX6_copy_35 dX6_copy_30 rfl rfl rfl (by decide) rfl ?_
        refine g_iload_n 34 C 3 dX6_copy_33 rfl rfl ?_
        refine g_iaload 35 C 1 dX6_copy_34 rfl rfl (by omega) ?_
        refine g_if_ge 44 38 C dX6_copy_35 (by decide) rfl (by omega) ?_ ?_
        · intro h35
          refine g_aload_n 45 C 0 dX6_copy_44 rfl rfl ?_
          refine g_get 48 C 0 19 6 iX6_copy_X6 lX6_copy_38 dX6_copy_45 rfl rfl rfl (by decide) rfl ?_
          refine g_iload_n 49 C 1 dX6_copy_48 rfl rfl ?_
          refine g_iaload 50 C 2 dX6_copy_49 rfl rfl (by omega) ?_
          refine g_aload_n 51 C 0 dX6_copy_50 rfl rfl ?_
          refine g_get 54 C 0 19 6 iX6_copy_X6 lX6_copy_38 dX6_copy_51 rfl rfl rfl (by decide) rfl ?_
          refine g_iload_n 55 C 3 dX6_copy_54 rfl rfl ?_
          refine g_iaload 56 C 2 dX6_copy_55 rfl rfl (by omega) ?_
          refine g_icmp_eq 65 59 C dX6_copy_56 (by decide) rfl (by omega) ?_ ?_
          · intro h56
            refine g_iload_n 66 C 2 dX6_copy_65 rfl rfl ?_
            refine g_iload 68 C 5 dX6_copy_66 rfl rfl ?_
            refine g_i2l 69 C dX6_copy_68 rfl (by omega) ?_
            refine g_aload_n 70 C 0 dX6_copy_69 rfl rfl ?_
            refine g_get 73 C 0 18 6 iX6_copy_X6 lX6_copy_35 dX6_copy_70 rfl rfl rfl (by decide) rfl ?_
            refine g_iload_n 74 C 1 dX6_copy_73 rfl rfl ?_
            refine g_iaload 75 C 1 dX6_copy_74 rfl rfl (by omega) ?_
            refine g_callSF 78 C [] dX6_copy_75 rfl (k_X6_isBeyond E l  (by first | assumption | omega) (by first | assumption | omega) (by first | assumption | omega)) (va_cwS 3 C.2.2.2.2.1 gX6_copy_X6_isBeyond rfl rfl rfl cdX6_isBeyond ⟨Nat.le_of_ble_eq_true rfl, Nat.le_of_ble_eq_true rfl⟩) rfl rfl rfl rfl (Nat.le_of_ble_eq_true rfl) ⟨Nat.le_of_ble_eq_true rfl, Nat.le_of_ble_eq_true rfl⟩ ?_
            refine g_ifb_ne 98 81 C dX6_copy_78 (by decide) rfl ?_ ?_
            · intro h78
              refine g_aload_n 99 C 0 dX6_copy_98 rfl rfl ?_
              refine g_iconst 100 C dX6_copy_99 rfl ?_
              refine g_callVU (ws' := [(_, .inr (6, [_, _, _, _, _, _, _, _, _, _, _, _, _, _, _, _, _, _, _, _, _, _, _])), (_, aI _ _ _), (_, aI _ _ _), (_, aI _ _ _), (_, aI _ _ _)]) 103 C [0] dX6_copy_100 rfl (k_X6_failed E l  ) (cwV 1 C.2.2.2.2.1 gX6_copy_X6_failed rfl rfl rfl cdX6_failed ⟨Nat.le_of_ble_eq_true rfl, Nat.le_of_ble_eq_true rfl⟩) rfl rfl rfl rfl (Nat.le_of_ble_eq_true rfl) 0 6 rfl rfl rfl ⟨Nat.le_of_ble_eq_true rfl, Nat.le_of_ble_eq_true rfl⟩ rfl rfl ?_
              exact g_iret C hr dX6_copy_103 ⟨_, g_ri (by (have g0 : ¬ (¬ ((0 ≤ k ∧ k < 4) ∧ (0 ≤ o ∧ o < 4))) := (by omega)); (have g1 : ¬ (¬ (0 ≤ ss k ∧ 0 ≤ ss o)) := (by omega)); (have g2 : ¬ (sl k ≠ sl o) := (by omega)); (have g3 : ¬ ((0 ≤ i ∧ 0 ≤ n0 ∧ i + n0 ≤ ss k) ∧ (0 ≤ j ∧ 0 ≤ n0 ∧ j + n0 ≤ ss o)) := (by omega)); simp only [if_neg g0, if_neg g1, if_neg g2, if_pos g3] <;> rfl), by (have g0 : ¬ (¬ ((0 ≤ k ∧ k < 4) ∧ (0 ≤ o ∧ o < 4))) := (by omega)); (have g1 : ¬ (¬ (0 ≤ ss k ∧ 0 ≤ ss o)) := (by omega)); (have g2 : ¬ (sl k ≠ sl o) := (by omega)); (have g3 : ¬ ((0 ≤ i ∧ 0 ≤ n0 ∧ i + n0 ≤ ss k) ∧ (0 ≤ j ∧ 0 ≤ n0 ∧ j + n0 ≤ ss o)) := (by omega)); (have x0 : ¬ (((0 ≤ k ∧ k < 4) ∧ (0 ≤ o ∧ o < 4)) ∧ (0 ≤ ss k ∧ 0 ≤ ss o) ∧ sl k = sl o ∧ (0 ≤ i ∧ 0 ≤ n0 ∧ i + n0 ≤ ss k) ∧ (0 ≤ j ∧ 0 ≤ n0 ∧ j + n0 ≤ ss o)) := (by omega)); simp only [if_neg g0, if_neg g1, if_neg g2, if_pos g3, if_neg x0] <;> rfl⟩
            · intro h78
              refine g_iload 83 C 4 dX6_copy_81 rfl rfl ?_
              refine g_iload 85 C 5 dX6_copy_83 rfl rfl ?_
              refine g_i2l 86 C dX6_copy_85 rfl (by omega) ?_
              refine g_aload_n 87 C 0 dX6_copy_86 rfl rfl ?_
              refine g_get 90 C 0 18 6 iX6_copy_X6 lX6_copy_35 dX6_copy_87 rfl rfl rfl (by decide) rfl ?_
              refine g_iload_n 91 C 3 dX6_copy_90 rfl rfl ?_
              refine g_iaload 92 C 1 dX6_copy_91 rfl rfl (by omega) ?_
              refine g_callSF 95 C [] dX6_copy_92 rfl (k_X6_isBeyond E l  (by first | assumption | omega) (by first | assumption | omega) (by first | assumption | omega)) (va_cwS 3 C.2.2.2.2.1 gX6_copy_X6_isBeyond rfl rfl rfl cdX6_isBeyond ⟨Nat.le_of_ble_eq_true rfl, Nat.le_of_ble_eq_true rfl⟩) rfl rfl rfl rfl (Nat.le_of_ble_eq_true rfl) ⟨Nat.le_of_ble_eq_true rfl, Nat.le_of_ble_eq_true rfl⟩ ?_
              refine g_ifb_eq 104 98 C dX6_copy_95 (by decide) rfl ?_ ?_
              · intro h95
                refine g_iconst 105 C dX6_copy_104 rfl ?_
                refine g_istore (lv' := [(6, _), (0, _), (1, _), (2, _), (3, _), (4, _), (5, _)]) 107 C dX6_copy_105 rfl (by decide) rfl ?_
                refine g_loop (α := Int) (fun zz => [(a_M, .inr (6, [.int (iI mf), .int (iI W), .int (iI h), .ref a_Mh, .long md, .int (iI mL), .int (iI mN), .int (iI n), .ref a_Mp, .ref a_Mt, .int (iI tc), .int (iI fd), .ref a_Ma, .ref a_Mu, .ref a_Mi, .int (iI jo), .ref a_Mx, .ref a_My, .ref a_Ms, .ref a_Ml, .ref a_Mc, .ref a_Mg, .int (iI tr)])), (a_Ms, aI E 4 ss), (a_Ml, aI E 4 sl), (a_Mc, aI E 200 sc), (a_Mg, aI E 50 (cpI sc hg (50 * k + i) 0 zz))]) (fun zz => [(6, .int (iI zz)), (5, .int (iI n0)), (4, .int (iI j)), (3, .int (iI o)), (2, .int (iI i)), (1, .int (iI k)), (0, .ref a_M)]) (fun zz => 0 ≤ zz ∧ zz ≤ n0) (fun zz => (n0 - zz).toNat) (0) (by (try dsimp only); omega) [0, 6, 5, 4, 3, 2, 1] (by rw [cpI_0]) rfl ?_
                rintro x hI ih107
                try dsimp only at hI ih107 ⊢
                obtain ⟨hx0, hxn⟩ := hI
                refine g_iload 109 C 0 dX6_copy_107 rfl rfl ?_
                refine g_iload 111 C 1 dX6_copy_109 rfl rfl ?_
                refine g_icmp_ge 141 114 C dX6_copy_111 (by decide) rfl (by omega) ?_ ?_
                · intro h111
                  refine g_iconst 142 C dX6_copy_141 rfl ?_
                  refine g_istore (lv' := [(6, _), (5, _), (4, _), (3, _), (2, _), (1, _), (0, _)]) 144 C dX6_copy_142 rfl (by decide) rfl ?_
                  refine g_loop (α := Int) (fun zz => [(a_M, .inr (6, [.int (iI mf), .int (iI W), .int (iI h), .ref a_Mh, .long md, .int (iI mL), .int (iI mN), .int (iI n), .ref a_Mp, .ref a_Mt, .int (iI tc), .int (iI fd), .ref a_Ma, .ref a_Mu, .ref a_Mi, .int (iI jo), .ref a_Mx, .ref a_My, .ref a_Ms, .ref a_Ml, .ref a_Mc, .ref a_Mg, .int (iI tr)])), (a_Ms, aI E 4 ss), (a_Ml, aI E 4 sl), (a_Mc, aI E 200 (cpI sc sc (50 * k + i) (50 * o + j) zz)), (a_Mg, aI E 50 (cpI sc hg (50 * k + i) 0 n0))]) (fun zz => [(6, .int (iI zz)), (5, .int (iI n0)), (4, .int (iI j)), (3, .int (iI o)), (2, .int (iI i)), (1, .int (iI k)), (0, .ref a_M)]) (fun zz => 0 ≤ zz ∧ zz ≤ n0) (fun zz => (n0 - zz).toNat) (0) (by (try dsimp only); omega) [0, 1, 2, 3, 4, 5, 6] (by rw [cpI_0, show n0 = x by omega]) rfl ?_
                  rintro y hI ih144
                  try dsimp only at hI ih144 ⊢
                  obtain ⟨hy0, hyn⟩ := hI
                  refine g_iload 146 C 0 dX6_copy_144 rfl rfl ?_
                  refine g_iload 148 C 1 dX6_copy_146 rfl rfl ?_
                  refine g_icmp_ge 179 151 C dX6_copy_148 (by decide) rfl (by omega) ?_ ?_
                  · intro h148
                    refine g_aload_n 180 C 6 dX6_copy_179 rfl rfl ?_
                    refine g_iload 182 C 1 dX6_copy_180 rfl rfl ?_
                    refine g_callVU (ws' := [(_, .inr (6, [_, _, _, _, _, _, _, _, _, _, _, _, _, _, _, _, _, _, _, _, _, _, _])), (_, aI _ _ _), (_, aI _ _ _), (_, aI _ _ _), (_, aI _ _ _)]) 185 C [0] dX6_copy_182 rfl (k_X6_refused E l  ) (cwV 1 C.2.2.2.2.1 gX6_copy_X6_refused rfl rfl rfl cdX6_refused ⟨Nat.le_of_ble_eq_true rfl, Nat.le_of_ble_eq_true rfl⟩) rfl rfl rfl rfl (Nat.le_of_ble_eq_true rfl) 0 6 rfl rfl rfl ⟨Nat.le_of_ble_eq_true rfl, Nat.le_of_ble_eq_true rfl⟩ rfl rfl ?_
                    exact g_iret C hr dX6_copy_185 ⟨_, g_ri (by (have g0 : ¬ (¬ ((0 ≤ k ∧ k < 4) ∧ (0 ≤ o ∧ o < 4))) := (by omega)); (have g1 : ¬ (¬ (0 ≤ ss k ∧ 0 ≤ ss o)) := (by omega)); (have g2 : ¬ (sl k ≠ sl o) := (by omega)); (have g3 : ¬ (¬ ((0 ≤ i ∧ 0 ≤ n0 ∧ i + n0 ≤ ss k) ∧ (0 ≤ j ∧ 0 ≤ n0 ∧ j + n0 ≤ ss o))) := (by omega)); simp only [if_neg g0, if_neg g1, if_neg g2, if_neg g3] <;> rfl), by (have g0 : ¬ (¬ ((0 ≤ k ∧ k < 4) ∧ (0 ≤ o ∧ o < 4))) := (by omega)); (have g1 : ¬ (¬ (0 ≤ ss k ∧ 0 ≤ ss o)) := (by omega)); (have g2 : ¬ (sl k ≠ sl o) := (by omega)); (have g3 : ¬ (¬ ((0 ≤ i ∧ 0 ≤ n0 ∧ i + n0 ≤ ss k) ∧ (0 ≤ j ∧ 0 ≤ n0 ∧ j + n0 ≤ ss o))) := (by omega)); (have x0 : ((0 ≤ k ∧ k < 4) ∧ (0 ≤ o ∧ o < 4)) ∧ (0 ≤ ss k ∧ 0 ≤ ss o) ∧ sl k = sl o ∧ (0 ≤ i ∧ 0 ≤ n0 ∧ i + n0 ≤ ss k) ∧ (0 ≤ j ∧ 0 ≤ n0 ∧ j + n0 ≤ ss o) := (by omega)); (have xx : n0 = y := (by omega)); simp only [if_neg g0, if_neg g1, if_neg g2, if_neg g3, if_pos x0]; rw [xx]⟩
                  · intro h148
                    refine g_aload_n 152 C 6 dX6_copy_151 rfl rfl ?_
                    refine g_get 155 C 0 20 6 iX6_copy_X6 lX6_copy_41 dX6_copy_152 rfl rfl rfl (by decide) rfl ?_
                    refine g_bipush 157 C dX6_copy_155 rfl (by decide) ?_
                    refine g_iload_n 158 C 3 dX6_copy_157 rfl rfl ?_
                    refine g_imul 159 C dX6_copy_158 rfl ?_
                    refine g_iload 161 C 2 dX6_copy_159 rfl rfl ?_
                    refine g_iadd 162 C dX6_copy_161 rfl ?_
                    refine g_iload 164 C 0 dX6_copy_162 rfl rfl ?_
                    refine g_iadd 165 C dX6_copy_164 rfl ?_
                    refine g_aload_n 166 C 6 dX6_copy_165 rfl rfl ?_
                    refine g_get 169 C 0 21 6 iX6_copy_X6 lX6_copy_44 dX6_copy_166 rfl rfl rfl (by decide) rfl ?_
                    refine g_iload 171 C 0 dX6_copy_169 rfl rfl ?_
                    refine g_iaload 172 C 4 dX6_copy_171 rfl rfl (by omega) ?_
                    refine g_iastore (ws' := [(_, .inr (6, [_, _, _, _, _, _, _, _, _, _, _, _, _, _, _, _, _, _, _, _, _, _, _])), (_, aI _ _ _), (_, aI _ _ _), (_, aI _ _ _), (_, aI _ _ _)]) 173 C 3 dX6_copy_172 rfl rfl (by omega) rfl ?_
                    refine g_iinc (lv' := [(6, _), (5, _), (4, _), (3, _), (2, _), (1, _), (0, _)]) 176 C 0 dX6_copy_173 rfl rfl (by decide) rfl ?_
                    refine g_goto 144 C dX6_copy_176 (by decide) ?_
                    exact g_w [0, 1, 2, 3, 4, 5, 6] (by (try dsimp only); rw [← cpI_s sc sc hy0, show cpI sc hg (50 * k + i) 0 n0 y = sc (50 * k + i + y) from (if_pos (by omega)).trans (by rw [Int.sub_zero])]) rfl (ih144 ((y + 1)) (by (try dsimp only); omega) (by (try dsimp only); omega))
                · intro h111
                  refine g_aload_n 115 C 6 dX6_copy_114 rfl rfl ?_
                  refine g_get 118 C 0 21 6 iX6_copy_X6 lX6_copy_44 dX6_copy_115 rfl rfl rfl (by decide) rfl ?_
                  refine g_iload 120 C 0 dX6_copy_118 rfl rfl ?_
                  refine g_aload_n 121 C 6 dX6_copy_120 rfl rfl ?_
                  refine g_get 124 C 0 20 6 iX6_copy_X6 lX6_copy_41 dX6_copy_121 rfl rfl rfl (by decide) rfl ?_
                  refine g_bipush 126 C dX6_copy_124 rfl (by decide) ?_
                  refine g_iload_n 127 C 5 dX6_copy_126 rfl rfl ?_
                  refine g_imul 128 C dX6_copy_127 rfl ?_
                  refine g_iload_n 129 C 4 dX6_copy_128 rfl rfl ?_
                  refine g_iadd 130 C dX6_copy_129 rfl ?_
                  refine g_iload 132 C 0 dX6_copy_130 rfl rfl ?_
                  refine g_iadd 133 C dX6_copy_132 rfl ?_
                  refine g_iaload 134 C 3 dX6_copy_133 rfl rfl (by omega) ?_
                  refine g_iastore (ws' := [(_, .inr (6, [_, _, _, _, _, _, _, _, _, _, _, _, _, _, _, _, _, _, _, _, _, _, _])), (_, aI _ _ _), (_, aI _ _ _), (_, aI _ _ _), (_, aI _ _ _)]) 135 C 4 dX6_copy_134 rfl rfl (by omega) rfl ?_
                  refine g_iinc (lv' := [(6, _), (5, _), (4, _), (3, _), (2, _), (1, _), (0, _)]) 138 C 0 dX6_copy_135 rfl rfl (by decide) rfl ?_
                  refine g_goto 107 C dX6_copy_138 (by decide) ?_
                  exact g_w [0, 1, 2, 3, 4, 5, 6] (by (try dsimp only); rw [← cpI_s sc hg hx0, Int.zero_add]) rfl (ih107 ((x + 1)) (by (try dsimp only); omega) (by (try dsimp only); omega))
              · intro h95
                refine g_aload_n 99 C 0 dX6_copy_98 rfl rfl ?_
                refine g_iconst 100 C dX6_copy_99 rfl ?_
                refine g_callVU (ws' := [(_, .inr (6, [_, _, _, _, _, _, _, _, _, _, _, _, _, _, _, _, _, _, _, _, _, _, _])), (_, aI _ _ _), (_, aI _ _ _), (_, aI _ _ _), (_, aI _ _ _)]) 103 C [0] dX6_copy_100 rfl (k_X6_failed E l  ) (cwV 1 C.2.2.2.2.1 gX6_copy_X6_failed rfl rfl rfl cdX6_failed ⟨Nat.le_of_ble_eq_true rfl, Nat.le_of_ble_eq_true rfl⟩) rfl rfl rfl rfl (Nat.le_of_ble_eq_true rfl) 0 6 rfl rfl rfl ⟨Nat.le_of_ble_eq_true rfl, Nat.le_of_ble_eq_true rfl⟩ rfl rfl ?_
                exact g_iret C hr dX6_copy_103 ⟨_, g_ri (by (have g0 : ¬ (¬ ((0 ≤ k ∧ k < 4) ∧ (0 ≤ o ∧ o < 4))) := (by omega)); (have g1 : ¬ (¬ (0 ≤ ss k ∧ 0 ≤ ss o)) := (by omega)); (have g2 : ¬ (sl k ≠ sl o) := (by omega)); (have g3 : ¬ ((0 ≤ i ∧ 0 ≤ n0 ∧ i + n0 ≤ ss k) ∧ (0 ≤ j ∧ 0 ≤ n0 ∧ j + n0 ≤ ss o)) := (by omega)); simp only [if_neg g0, if_neg g1, if_neg g2, if_pos g3] <;> rfl), by (have g0 : ¬ (¬ ((0 ≤ k ∧ k < 4) ∧ (0 ≤ o ∧ o < 4))) := (by omega)); (have g1 : ¬ (¬ (0 ≤ ss k ∧ 0 ≤ ss o)) := (by omega)); (have g2 : ¬ (sl k ≠ sl o) := (by omega)); (have g3 : ¬ ((0 ≤ i ∧ 0 ≤ n0 ∧ i + n0 ≤ ss k) ∧ (0 ≤ j ∧ 0 ≤ n0 ∧ j + n0 ≤ ss o)) := (by omega)); (have x0 : ¬ (((0 ≤ k ∧ k < 4) ∧ (0 ≤ o ∧ o < 4)) ∧ (0 ≤ ss k ∧ 0 ≤ ss o) ∧ sl k = sl o ∧ (0 ≤ i ∧ 0 ≤ n0 ∧ i + n0 ≤ ss k) ∧ (0 ≤ j ∧ 0 ≤ n0 ∧ j + n0 ≤ ss o)) := (by omega)); simp only [if_neg g0, if_neg g1, if_neg g2, if_pos g3, if_neg x0] <;> rfl⟩
          · intro h56
            refine g_aload_n 60 C 0 dX6_copy_59 rfl rfl ?_
            refine g_iconst 61 C dX6_copy_60 rfl ?_
            refine g_callVU (ws' := [(_, .inr (6, [_, _, _, _, _, _, _, _, _, _, _, _, _, _, _, _, _, _, _, _, _, _, _])), (_, aI _ _ _), (_, aI _ _ _), (_, aI _ _ _), (_, aI _ _ _)]) 64 C [0] dX6_copy_61 rfl (k_X6_failed E l  ) (cwV 1 C.2.2.2.2.1 gX6_copy_X6_failed rfl rfl rfl cdX6_failed ⟨Nat.le_of_ble_eq_true rfl, Nat.le_of_ble_eq_true rfl⟩) rfl rfl rfl rfl (Nat.le_of_ble_eq_true rfl) 0 6 rfl rfl rfl ⟨Nat.le_of_ble_eq_true rfl, Nat.le_of_ble_eq_true rfl⟩ rfl rfl ?_
            exact g_iret C hr dX6_copy_64 ⟨_, g_ri (by (have g0 : ¬ (¬ ((0 ≤ k ∧ k < 4) ∧ (0 ≤ o ∧ o < 4))) := (by omega)); (have g1 : ¬ (¬ (0 ≤ ss k ∧ 0 ≤ ss o)) := (by omega)); (have g2 : sl k ≠ sl o := (by omega)); simp only [if_neg g0, if_neg g1, if_pos g2] <;> rfl), by (have g0 : ¬ (¬ ((0 ≤ k ∧ k < 4) ∧ (0 ≤ o ∧ o < 4))) := (by omega)); (have g1 : ¬ (¬ (0 ≤ ss k ∧ 0 ≤ ss o)) := (by omega)); (have g2 : sl k ≠ sl o := (by omega)); (have x0 : ¬ (((0 ≤ k ∧ k < 4) ∧ (0 ≤ o ∧ o < 4)) ∧ (0 ≤ ss k ∧ 0 ≤ ss o) ∧ sl k = sl o ∧ (0 ≤ i ∧ 0 ≤ n0 ∧ i + n0 ≤ ss k) ∧ (0 ≤ j ∧ 0 ≤ n0 ∧ j + n0 ≤ ss o)) := (by omega)); simp only [if_neg g0, if_neg g1, if_pos g2, if_neg x0] <;> rfl⟩
        · intro h35
          refine g_aload_n 39 C 0 dX6_copy_38 rfl rfl ?_
          refine g_iconst 40 C dX6_copy_39 rfl ?_
          refine g_callVU (ws' := [(_, .inr (6, [_, _, _, _, _, _, _, _, _, _, _, _, _, _, _, _, _, _, _, _, _, _, _])), (_, aI _ _ _), (_, aI _ _ _), (_, aI _ _ _), (_, aI _ _ _)]) 43 C [0] dX6_copy_40 rfl (k_X6_failed E l  ) (cwV 1 C.2.2.2.2.1 gX6_copy_X6_failed rfl rfl rfl cdX6_failed ⟨Nat.le_of_ble_eq_true rfl, Nat.le_of_ble_eq_true rfl⟩) rfl rfl rfl rfl (Nat.le_of_ble_eq_true rfl) 0 6 rfl rfl rfl ⟨Nat.le_of_ble_eq_true rfl, Nat.le_of_ble_eq_true rfl⟩ rfl rfl ?_
          exact g_iret C hr dX6_copy_43 ⟨_, g_ri (by (have g0 : ¬ (¬ ((0 ≤ k ∧ k < 4) ∧ (0 ≤ o ∧ o < 4))) := (by omega)); (have g1 : ¬ (0 ≤ ss k ∧ 0 ≤ ss o) := (by omega)); simp only [if_neg g0, if_pos g1] <;> rfl), by (have g0 : ¬ (¬ ((0 ≤ k ∧ k < 4) ∧ (0 ≤ o ∧ o < 4))) := (by omega)); (have g1 : ¬ (0 ≤ ss k ∧ 0 ≤ ss o) := (by omega)); (have x0 : ¬ (((0 ≤ k ∧ k < 4) ∧ (0 ≤ o ∧ o < 4)) ∧ (0 ≤ ss k ∧ 0 ≤ ss o) ∧ sl k = sl o ∧ (0 ≤ i ∧ 0 ≤ n0 ∧ i + n0 ≤ ss k) ∧ (0 ≤ j ∧ 0 ≤ n0 ∧ j + n0 ≤ ss o)) := (by omega)); simp only [if_neg g0, if_pos g1, if_neg x0] <;> rfl⟩
    · intro h11
      refine g_aload_n 15 C 0 dX6_copy_14 rfl rfl ?_
      refine g_iconst 16 C dX6_copy_15 rfl ?_
      refine g_callVU (ws' := [(_, .inr (6, [_, _, _, _, _, _, _, _, _, _, _, _, _, _, _, _, _, _, _, _, _, _, _])), (_, aI _ _ _), (_, aI _ _ _), (_, aI _ _ _), (_, aI _ _ _)]) 19 C [0] dX6_copy_16 rfl (k_X6_refused E l  ) (cwV 1 C.2.2.2.2.1 gX6_copy_X6_refused rfl rfl rfl cdX6_refused ⟨Nat.le_of_ble_eq_true rfl, Nat.le_of_ble_eq_true rfl⟩) rfl rfl rfl rfl (Nat.le_of_ble_eq_true rfl) 0 6 rfl rfl rfl ⟨Nat.le_of_ble_eq_true rfl, Nat.le_of_ble_eq_true rfl⟩ rfl rfl ?_
      exact g_iret C hr dX6_copy_19 ⟨_, g_ri (by (have g0 : ¬ ((0 ≤ k ∧ k < 4) ∧ (0 ≤ o ∧ o < 4)) := (by omega)); simp only [if_pos g0] <;> rfl), by (have g0 : ¬ ((0 ≤ k ∧ k < 4) ∧ (0 ≤ o ∧ o < 4)) := (by omega)); (have x0 : ¬ (((0 ≤ k ∧ k < 4) ∧ (0 ≤ o ∧ o < 4)) ∧ (0 ≤ ss k ∧ 0 ≤ ss o) ∧ sl k = sl o ∧ (0 ≤ i ∧ 0 ≤ n0 ∧ i + n0 ≤ ss k) ∧ (0 ≤ j ∧ 0 ≤ n0 ∧ j + n0 ≤ ss o)) := (by omega)); simp only [if_pos g0, if_neg x0] <;> rfl⟩
theorem lX6_shape_35 : Cond.fieldLink RX6 35 (TX6 18).1 (TX6 18).2.1 (TX6 18).2.2.1 ∈ wsX6_shape := by decide +kernel
theorem lX6_shape_38 : Cond.fieldLink RX6 38 (TX6 19).1 (TX6 19).2.1 (TX6 19).2.2.1 ∈ wsX6_shape := by decide +kernel
theorem lX6_shape_41 : Cond.fieldLink RX6 41 (TX6 20).1 (TX6 20).2.1 (TX6 20).2.2.1 ∈ wsX6_shape := by decide +kernel
theorem lX6_shape_7 : Cond.fieldLink RX6 7 (TX6 3).1 (TX6 3).2.1 (TX6 3).2.2.1 ∈ wsX6_shape := by decide +kernel
theorem lX6_shape_111 : Cond.constantLong RX6 111 (-9) ∈ wsX6_shape := by decide +kernel
theorem lX6_shape_113 : Cond.constantLong RX6 113 (9) ∈ wsX6_shape := by decide +kernel
theorem lX6_shape_199 : Cond.constantLong RX6 199 (2) ∈ wsX6_shape := by decide +kernel
theorem lX6_shape_81 : Cond.constantLong RX6 81 (5) ∈ wsX6_shape := by decide +kernel
theorem iX6_shape_X6 : ∀ w ∈ u_ws RX6 TX6 23, w ∈ wsX6_shape := by decide +kernel
set_option maxHeartbeats 4000000 in
set_option maxRecDepth 100000 in
theorem k_X6_shape (E : gE) (l : Launch) {a_M a_Ma a_Mc a_Mg a_Mh a_Mi a_Ml a_Mp a_Ms a_Mt a_Mu a_Mx a_My : Nat} {k t i n0 s : Int} {hs : Int → Int} {ss sl sc : Int → Int} {mf W h mL mN n tc fd jo tr : Int} {md : Int64} (hB : 1 ≤ W ∧ W ≤ 5 ∧ 1 ≤ h ∧ h ≤ 5) (hss : ∀ j : Int, 0 ≤ j ∧ j < 4 → (-1 ≤ ss j ∧ ss j ≤ 50) ∧ 0 ≤ sl j ∧ sl j ≤ 2) (hscr : ∀ j : Int, -2147483648 ≤ sc j ∧ sc j < 2147483648) (hk : -2147483648 ≤ k ∧ k < 2147483648) (ht : -2147483648 ≤ t ∧ t < 2147483648) (hi : -2147483648 ≤ i ∧ i < 2147483648) (hn0 : -2147483648 ≤ n0 ∧ n0 < 2147483648) (hs0 : -2147483648 ≤ s ∧ s < 2147483648) : gUpd E l yX6_shape wsX6_shape { frames := 3, cells := 0, slots := 0, locals := 61 } [.ref a_M, .int (iI k), .int (iI t), .int (iI i), .int (iI n0), .int (iI s)] [(a_M, .inr (6, [.int (iI mf), .int (iI W), .int (iI h), .ref a_Mh, .long md, .int (iI mL), .int (iI mN), .int (iI n), .ref a_Mp, .ref a_Mt, .int (iI tc), .int (iI fd), .ref a_Ma, .ref a_Mu, .ref a_Mi, .int (iI jo), .ref a_Mx, .ref a_My, .ref a_Ms, .ref a_Ml, .ref a_Mc, .ref a_Mg, .int (iI tr)])), (a_Mh, aI E 200 hs), (a_Ms, aI E 4 ss), (a_Ml, aI E 4 sl), (a_Mc, aI E 200 sc)] (some (.int (iI (if ¬ ((0 ≤ k ∧ k < 4) ∧ 0 ≤ s ∧ s < nsd W h) then -1 else if ¬ (0 ≤ t ∧ t < 3) then -2 else if 0 ≤ ss k ∧ sl k ≠ t then -12 else if ss k < 0 then -11 else if n0 < 0 then -14 else if ¬ ((0 ≤ i ∧ 0 ≤ n0 * 5 ∧ i + n0 * 5 ≤ ss k) ∧ s + n0 ≤ nsd W h) then -13 else cI (∀ c : Int, 50 * k + i ≤ c → c < 50 * k + i + n0 * 5 → -9 ≤ sc c ∧ sc c ≤ 9) (n0) (-2))))) [(a_M, .inr (6, [.int (iI (if ¬ ((0 ≤ k ∧ k < 4) ∧ 0 ≤ s ∧ s < nsd W h) then 0 else if ¬ (0 ≤ t ∧ t < 3) then 0 else if 0 ≤ ss k ∧ sl k ≠ t then 2 else if ss k < 0 then 1 else if n0 < 0 then 4 else if ¬ ((0 ≤ i ∧ 0 ≤ n0 * 5 ∧ i + n0 * 5 ≤ ss k) ∧ s + n0 ≤ nsd W h) then 3 else cI (∀ c : Int, 50 * k + i ≤ c → c < 50 * k + i + n0 * 5 → -9 ≤ sc c ∧ sc c ≤ 9) (0) (0))), .int (iI W), .int (iI h), .ref a_Mh, .long md, .int (iI mL), .int (iI mN), .int (iI n), .ref a_Mp, .ref a_Mt, .int (iI tc), .int (iI fd), .ref a_Ma, .ref a_Mu, .ref a_Mi, .int (iI (if ¬ ((0 ≤ k ∧ k < 4) ∧ 0 ≤ s ∧ s < nsd W h) then jo else if ¬ (0 ≤ t ∧ t < 3) then jo else if 0 ≤ ss k ∧ sl k ≠ t then jo else if ss k < 0 then jo else if n0 < 0 then jo else if ¬ ((0 ≤ i ∧ 0 ≤ n0 * 5 ∧ i + n0 * 5 ≤ ss k) ∧ s + n0 ≤ nsd W h) then jo else cI (∀ c : Int, 50 * k + i ≤ c → c < 50 * k + i + n0 * 5 → -9 ≤ sc c ∧ sc c ≤ 9) (0) (jo))), .ref a_Mx, .ref a_My, .ref a_Ms, .ref a_Ml, .ref a_Mc, .ref a_Mg, .int (iI tr)])), (a_Mh, aI E 200 (if ¬ ((0 ≤ k ∧ k < 4) ∧ 0 ≤ s ∧ s < nsd W h) then hs else if ¬ (0 ≤ t ∧ t < 3) then hs else if 0 ≤ ss k ∧ sl k ≠ t then hs else if ss k < 0 then hs else if n0 < 0 then hs else if ¬ ((0 ≤ i ∧ 0 ≤ n0 * 5 ∧ i + n0 * 5 ≤ ss k) ∧ s + n0 ≤ nsd W h) then hs else @ite (Int → Int) (∀ c : Int, 50 * k + i ≤ c → c < 50 * k + i + n0 * 5 → -9 ≤ sc c ∧ sc c ≤ 9) (Classical.propDecidable _) (shI hs sc s (50 * k + i) (n0 * 5)) (hs))), (a_Ms, aI E 4 ss), (a_Ml, aI E 4 sl), (a_Mc, aI E 200 sc)] := by
  refine g_start (cc := cX6_shape) (maxL := 7) (ret := (some .int)) (by decide) rfl (Nat.le_of_ble_eq_true rfl) ?_
  intro p_ e_ s_ m_ args_ below_ meth_ c_ A_ C hr hnm
  have hN := nsd_b hB
  refine g_iload_n 1 C 1 dX6_shape_0 rfl rfl ?_
  refine g_callSF 4 C [] dX6_shape_1 rfl (k_X6_noSheet E l  (by first | assumption | omega)) (va_cwS 1 C.2.2.2.2.1 gX6_shape_X6_noSheet rfl rfl rfl cdX6_noSheet ⟨Nat.le_of_ble_eq_true rfl, Nat.le_of_ble_eq_true rfl⟩) rfl rfl rfl rfl (Nat.le_of_ble_eq_true rfl) ⟨Nat.le_of_ble_eq_true rfl, Nat.le_of_ble_eq_true rfl⟩ ?_
  refine g_ifb_ne 16 7 C dX6_shape_4 (by decide) rfl ?_ ?_
  · intro h4
    refine g_aload_n 17 C 0 dX6_shape_16 rfl rfl ?_
    refine g_iconst 18 C dX6_shape_17 rfl ?_
    refine g_callVU (ws' := [(_, .inr (6, [_, _, _, _, _, _, _, _, _, _, _, _, _, _, _, _, _, _, _, _, _, _, _])), (_, aI _ _ _), (_, aI _ _ _), (_, aI _ _ _), (_, aI _ _ _)]) 21 C [0] dX6_shape_18 rfl (k_X6_refused E l  ) (cwV 1 C.2.2.2.2.1 gX6_shape_X6_refused rfl rfl rfl cdX6_refused ⟨Nat.le_of_ble_eq_true rfl, Nat.le_of_ble_eq_true rfl⟩) rfl rfl rfl rfl (Nat.le_of_ble_eq_true rfl) 0 6 rfl rfl rfl ⟨Nat.le_of_ble_eq_true rfl, Nat.le_of_ble_eq_true rfl⟩ rfl rfl ?_
    exact g_iret C hr dX6_shape_21 ⟨g_ri (by (have g0 : ¬ ((0 ≤ k ∧ k < 4) ∧ 0 ≤ s ∧ s < nsd W h) := (by omega)); simp only [if_pos g0] <;> rfl), by (have g0 : ¬ ((0 ≤ k ∧ k < 4) ∧ 0 ≤ s ∧ s < nsd W h) := (by omega)); simp only [if_pos g0] <;> rfl⟩
  · intro h4
    refine g_aload_n 8 C 0 dX6_shape_7 rfl rfl ?_
    refine g_iload 10 C 5 dX6_shape_8 rfl rfl ?_
    refine g_callVF 13 C [0] dX6_shape_10 rfl (k_X6_noSide E l  (by first | assumption | omega) (by first | assumption | omega)) (cwV 1 C.2.2.2.2.1 gX6_shape_X6_noSide rfl rfl rfl cdX6_noSide ⟨Nat.le_of_ble_eq_true rfl, Nat.le_of_ble_eq_true rfl⟩) rfl rfl rfl rfl (Nat.le_of_ble_eq_true rfl) 0 6 rfl rfl rfl ⟨Nat.le_of_ble_eq_true rfl, Nat.le_of_ble_eq_true rfl⟩ ?_
    refine g_ifb_eq 22 16 C dX6_shape_13 (by decide) rfl ?_ ?_
    · intro h13
      refine g_iload_n 23 C 2 dX6_shape_22 rfl rfl ?_
      refine g_i2l 24 C dX6_shape_23 rfl (by omega) ?_
      refine g_lconst 25 C 0 dX6_shape_24 rfl (by decide) ?_
      refine g_ldc2 28 C (2) dX6_shape_25 rfl lX6_shape_199 (by decide) ?_
      refine g_callSF 31 C [] dX6_shape_28 rfl (k_X6_in E l  (by first | assumption | omega) (by first | assumption | omega) (by first | assumption | omega)) (va_cwS 3 C.2.2.2.2.1 gX6_shape_X6_in rfl rfl rfl cdX6_in ⟨Nat.le_of_ble_eq_true rfl, Nat.le_of_ble_eq_true rfl⟩) rfl rfl rfl rfl (Nat.le_of_ble_eq_true rfl) ⟨Nat.le_of_ble_eq_true rfl, Nat.le_of_ble_eq_true rfl⟩ ?_
      refine g_ifb_ne 41 34 C dX6_shape_31 (by decide) rfl ?_ ?_
      · intro h31
        refine g_aload_n 42 C 0 dX6_shape_41 rfl rfl ?_
        refine g_get 45 C 0 18 6 iX6_shape_X6 lX6_shape_35 dX6_shape_42 rfl rfl rfl (by decide) rfl ?_
        refine g_iload_n 46 C 1 dX6_shape_45 rfl rfl ?_
        have e0 := hss k (by omega)
        refine g_iaload 47 C 2 dX6_shape_46 rfl rfl (by omega) ?_
        refine g_if_lt 66 50 C dX6_shape_47 (by decide) rfl (by omega) ?_ ?_
        · intro h47
          refine g_aload_n 67 C 0 dX6_shape_66 rfl rfl ?_
          refine g_get 70 C 0 18 6 iX6_shape_X6 lX6_shape_35 dX6_shape_67 rfl rfl rfl (by decide) rfl ?_
          refine g_iload_n 71 C 1 dX6_shape_70 rfl rfl ?_
          refine g_iaload 72 C 2 dX6_shape_71 rfl rfl (by omega) ?_
          refine g_if_ge 81 75 C dX6_shape_72 (by decide) rfl (by omega) ?_ ?_
          · intro h72
            refine g_iload 83 C 4 dX6_shape_81 rfl rfl ?_
            refine g_if_ge 92 86 C dX6_shape_83 (by decide) rfl (by omega) ?_ ?_
            · intro h83
              refine g_iload_n 93 C 3 dX6_shape_92 rfl rfl ?_
              refine g_ldc2 96 C (5) dX6_shape_93 rfl lX6_shape_81 (by decide) ?_
              refine g_iload 98 C 4 dX6_shape_96 rfl rfl ?_
              refine g_i2l 99 C dX6_shape_98 rfl (by omega) ?_
              refine g_lmul 100 C dX6_shape_99 rfl ?_
              refine g_aload_n 101 C 0 dX6_shape_100 rfl rfl ?_
              refine g_get 104 C 0 18 6 iX6_shape_X6 lX6_shape_35 dX6_shape_101 rfl rfl rfl (by decide) rfl ?_
              refine g_iload_n 105 C 1 dX6_shape_104 rfl rfl ?_
              refine g_iaload 106 C 2 dX6_shape_105 rfl rfl (by omega) ?_
              refine g_callSF 109 C [] dX6_shape_106 rfl (k_X6_isBeyond E l  (by first | assumption | omega) (by first | assumption | omega) (by first | assumption | omega)) (va_cwS 3 C.2.2.2.2.1 gX6_shape_X6_isBeyond rfl rfl rfl cdX6_isBeyond ⟨Nat.le_of_ble_eq_true rfl, Nat.le_of_ble_eq_true rfl⟩) rfl rfl rfl rfl (Nat.le_of_ble_eq_true rfl) ⟨Nat.le_of_ble_eq_true rfl, Nat.le_of_ble_eq_true rfl⟩ ?_
              refine g_ifb_ne 127 112 C dX6_shape_109 (by decide) rfl ?_ ?_
              · intro h109
                refine g_aload_n 128 C 0 dX6_shape_127 rfl rfl ?_
                refine g_iconst 129 C dX6_shape_128 rfl ?_
                refine g_callVU (ws' := [(_, .inr (6, [_, _, _, _, _, _, _, _, _, _, _, _, _, _, _, _, _, _, _, _, _, _, _])), (_, aI _ _ _), (_, aI _ _ _), (_, aI _ _ _), (_, aI _ _ _)]) 132 C [0] dX6_shape_129 rfl (k_X6_failed E l  ) (cwV 1 C.2.2.2.2.1 gX6_shape_X6_failed rfl rfl rfl cdX6_failed ⟨Nat.le_of_ble_eq_true rfl, Nat.le_of_ble_eq_true rfl⟩) rfl rfl rfl rfl (Nat.le_of_ble_eq_true rfl) 0 6 rfl rfl rfl ⟨Nat.le_of_ble_eq_true rfl, Nat.le_of_ble_eq_true rfl⟩ rfl rfl ?_
                exact g_iret C hr dX6_shape_132 ⟨g_ri (by (have g0 : ¬ (¬ ((0 ≤ k ∧ k < 4) ∧ 0 ≤ s ∧ s < nsd W h)) := (by omega)); (have g1 : ¬ (¬ (0 ≤ t ∧ t < 3)) := (by omega)); (have g2 : ¬ (0 ≤ ss k ∧ sl k ≠ t) := (by omega)); (have g3 : ¬ (ss k < 0) := (by omega)); (have g4 : ¬ (n0 < 0) := (by omega)); (have g5 : ¬ ((0 ≤ i ∧ 0 ≤ n0 * 5 ∧ i + n0 * 5 ≤ ss k) ∧ s + n0 ≤ nsd W h) := (by omega)); simp only [if_neg g0, if_neg g1, if_neg g2, if_neg g3, if_neg g4, if_pos g5] <;> rfl), by (have g0 : ¬ (¬ ((0 ≤ k ∧ k < 4) ∧ 0 ≤ s ∧ s < nsd W h)) := (by omega)); (have g1 : ¬ (¬ (0 ≤ t ∧ t < 3)) := (by omega)); (have g2 : ¬ (0 ≤ ss k ∧ sl k ≠ t) := (by omega)); (have g3 : ¬ (ss k < 0) := (by omega)); (have g4 : ¬ (n0 < 0) := (by omega)); (have g5 : ¬ ((0 ≤ i ∧ 0 ≤ n0 * 5 ∧ i + n0 * 5 ≤ ss k) ∧ s + n0 ≤ nsd W h) := (by omega)); simp only [if_neg g0, if_neg g1, if_neg g2, if_neg g3, if_neg g4, if_pos g5] <;> rfl⟩
              · intro h109
                refine g_iload 114 C 5 dX6_shape_112 rfl rfl ?_
                refine g_iload 116 C 4 dX6_shape_114 rfl rfl ?_
                refine g_i2l 117 C dX6_shape_116 rfl (by omega) ?_
                refine g_aload_n 118 C 0 dX6_shape_117 rfl rfl ?_
                refine g_callVF 121 C [0] dX6_shape_118 rfl (k_X6_sides E l  ) (cwV 0 C.2.2.2.2.1 gX6_shape_X6_sides rfl rfl rfl cdX6_sides ⟨Nat.le_of_ble_eq_true rfl, Nat.le_of_ble_eq_true rfl⟩) rfl rfl rfl rfl (Nat.le_of_ble_eq_true rfl) 0 6 rfl rfl rfl ⟨Nat.le_of_ble_eq_true rfl, Nat.le_of_ble_eq_true rfl⟩ ?_
                refine g_callSF 124 C [] dX6_shape_121 rfl (k_X6_isBeyond E l  (by first | assumption | omega) (by first | assumption | omega) (by first | assumption | omega)) (va_cwS 3 C.2.2.2.2.1 gX6_shape_X6_isBeyond rfl rfl rfl cdX6_isBeyond ⟨Nat.le_of_ble_eq_true rfl, Nat.le_of_ble_eq_true rfl⟩) rfl rfl rfl rfl (Nat.le_of_ble_eq_true rfl) ⟨Nat.le_of_ble_eq_true rfl, Nat.le_of_ble_eq_true rfl⟩ ?_
                refine g_ifb_eq 133 127 C dX6_shape_124 (by decide) rfl ?_ ?_
                · intro h124
                  refine g_iconst 134 C dX6_shape_133 rfl ?_
                  refine g_istore (lv' := [(6, _), (0, _), (1, _), (2, _), (3, _), (4, _), (5, _)]) 136 C dX6_shape_134 rfl (by decide) rfl ?_
                  refine g_loop (α := Int) (fun zz => [(a_M, .inr (6, [.int (iI mf), .int (iI W), .int (iI h), .ref a_Mh, .long md, .int (iI mL), .int (iI mN), .int (iI n), .ref a_Mp, .ref a_Mt, .int (iI tc), .int (iI fd), .ref a_Ma, .ref a_Mu, .ref a_Mi, .int (iI jo), .ref a_Mx, .ref a_My, .ref a_Ms, .ref a_Ml, .ref a_Mc, .ref a_Mg, .int (iI tr)])), (a_Mh, aI E 200 hs), (a_Ms, aI E 4 ss), (a_Ml, aI E 4 sl), (a_Mc, aI E 200 sc)]) (fun zz => [(6, .int (iI zz)), (5, .int (iI s)), (4, .int (iI n0)), (3, .int (iI i)), (2, .int (iI t)), (1, .int (iI k)), (0, .ref a_M)]) (fun zz => (0 ≤ zz ∧ zz ≤ n0 * 5) ∧ ∀ c : Int, 50 * k + i ≤ c → c < 50 * k + i + zz → -9 ≤ sc c ∧ sc c ≤ 9) (fun zz => (n0 * 5 - zz).toNat) (0) (by
            try dsimp only
            exact ⟨by omega, fun c h1 h2 => by omega⟩) [0, 6, 5, 4, 3, 2, 1] rfl rfl ?_
                  rintro x hI ih136
                  try dsimp only at hI ih136 ⊢
                  obtain ⟨hx, hA⟩ := hI
                  refine g_iload 138 C 0 dX6_shape_136 rfl rfl ?_
                  refine g_iconst 139 C dX6_shape_138 rfl ?_
                  refine g_iload 141 C 2 dX6_shape_139 rfl rfl ?_
                  refine g_imul 142 C dX6_shape_141 rfl ?_
                  refine g_icmp_ge 185 145 C dX6_shape_142 (by decide) rfl (by omega) ?_ ?_
                  · intro h142
                    refine g_iconst 186 C dX6_shape_185 rfl ?_
                    refine g_istore (lv' := [(6, _), (5, _), (4, _), (3, _), (2, _), (1, _), (0, _)]) 188 C dX6_shape_186 rfl (by decide) rfl ?_
                    refine g_loop (α := Int) (fun zz => [(a_M, .inr (6, [.int (iI mf), .int (iI W), .int (iI h), .ref a_Mh, .long md, .int (iI mL), .int (iI mN), .int (iI n), .ref a_Mp, .ref a_Mt, .int (iI tc), .int (iI fd), .ref a_Ma, .ref a_Mu, .ref a_Mi, .int (iI jo), .ref a_Mx, .ref a_My, .ref a_Ms, .ref a_Ml, .ref a_Mc, .ref a_Mg, .int (iI tr)])), (a_Mh, aI E 200 (shI hs sc s (50 * k + i) zz)), (a_Ms, aI E 4 ss), (a_Ml, aI E 4 sl), (a_Mc, aI E 200 sc)]) (fun zz => [(6, .int (iI zz)), (5, .int (iI s)), (4, .int (iI n0)), (3, .int (iI i)), (2, .int (iI t)), (1, .int (iI k)), (0, .ref a_M)]) (fun zz => 0 ≤ zz ∧ zz ≤ n0 * 5) (fun zz => (n0 * 5 - zz).toNat) (0) (by (try dsimp only); omega) [0, 1, 2, 3, 4, 5, 6] (by rw [shI_0]) rfl ?_
                    rintro y hI ih188
                    try dsimp only at hI ih188 ⊢
                    obtain ⟨hy0, hyn⟩ := hI
                    refine g_iload 190 C 0 dX6_shape_188 rfl rfl ?_
                    refine g_iconst 191 C dX6_shape_190 rfl ?_
                    refine g_iload 193 C 2 dX6_shape_191 rfl rfl ?_
                    refine g_imul 194 C dX6_shape_193 rfl ?_
                    refine g_icmp_ge 229 197 C dX6_shape_194 (by decide) rfl (by omega) ?_ ?_
                    · intro h194
                      refine g_aload_n 230 C 6 dX6_shape_229 rfl rfl ?_
                      refine g_callVU (ws' := [(_, .inr (6, [_, _, _, _, _, _, _, _, _, _, _, _, _, _, _, _, _, _, _, _, _, _, _])), (_, aI _ _ _), (_, aI _ _ _), (_, aI _ _ _), (_, aI _ _ _)]) 233 C [0] dX6_shape_230 rfl (k_X6_changed E l  ) (cwV 0 C.2.2.2.2.1 gX6_shape_X6_changed rfl rfl rfl cdX6_changed ⟨Nat.le_of_ble_eq_true rfl, Nat.le_of_ble_eq_true rfl⟩) rfl rfl rfl rfl (Nat.le_of_ble_eq_true rfl) 0 6 rfl rfl rfl ⟨Nat.le_of_ble_eq_true rfl, Nat.le_of_ble_eq_true rfl⟩ rfl rfl ?_
                      refine g_aload_n 234 C 6 dX6_shape_233 rfl rfl ?_
                      refine g_iload 236 C 2 dX6_shape_234 rfl rfl ?_
                      refine g_callVU (ws' := [(_, .inr (6, [_, _, _, _, _, _, _, _, _, _, _, _, _, _, _, _, _, _, _, _, _, _, _])), (_, aI _ _ _), (_, aI _ _ _), (_, aI _ _ _), (_, aI _ _ _)]) 239 C [0] dX6_shape_236 rfl (k_X6_refused E l  ) (cwV 1 C.2.2.2.2.1 gX6_shape_X6_refused rfl rfl rfl cdX6_refused ⟨Nat.le_of_ble_eq_true rfl, Nat.le_of_ble_eq_true rfl⟩) rfl rfl rfl rfl (Nat.le_of_ble_eq_true rfl) 0 6 rfl rfl rfl ⟨Nat.le_of_ble_eq_true rfl, Nat.le_of_ble_eq_true rfl⟩ rfl rfl ?_
                      exact g_iret C hr dX6_shape_239 ⟨g_ri (by (have g0 : ¬ (¬ ((0 ≤ k ∧ k < 4) ∧ 0 ≤ s ∧ s < nsd W h)) := (by omega)); (have g1 : ¬ (¬ (0 ≤ t ∧ t < 3)) := (by omega)); (have g2 : ¬ (0 ≤ ss k ∧ sl k ≠ t) := (by omega)); (have g3 : ¬ (ss k < 0) := (by omega)); (have g4 : ¬ (n0 < 0) := (by omega)); (have g5 : ¬ (¬ ((0 ≤ i ∧ 0 ≤ n0 * 5 ∧ i + n0 * 5 ≤ ss k) ∧ s + n0 ≤ nsd W h)) := (by omega)); (have g6 : ∀ c : Int, 50 * k + i ≤ c → c < 50 * k + i + n0 * 5 → -9 ≤ sc c ∧ sc c ≤ 9 := (fun c h1 h2 => hA c h1 (by omega))); simp only [if_neg g0, if_neg g1, if_neg g2, if_neg g3, if_neg g4, if_neg g5, if_pos g6] <;> rfl), by (have g0 : ¬ (¬ ((0 ≤ k ∧ k < 4) ∧ 0 ≤ s ∧ s < nsd W h)) := (by omega)); (have g1 : ¬ (¬ (0 ≤ t ∧ t < 3)) := (by omega)); (have g2 : ¬ (0 ≤ ss k ∧ sl k ≠ t) := (by omega)); (have g3 : ¬ (ss k < 0) := (by omega)); (have g4 : ¬ (n0 < 0) := (by omega)); (have g5 : ¬ (¬ ((0 ≤ i ∧ 0 ≤ n0 * 5 ∧ i + n0 * 5 ≤ ss k) ∧ s + n0 ≤ nsd W h)) := (by omega)); (have g6 : ∀ c : Int, 50 * k + i ≤ c → c < 50 * k + i + n0 * 5 → -9 ≤ sc c ∧ sc c ≤ 9 := (fun c h1 h2 => hA c h1 (by omega))); (have yy : n0 * 5 = y := (by omega)); simp only [if_neg g0, if_neg g1, if_neg g2, if_neg g3, if_neg g4, if_neg g5, if_pos g6]; rw [yy]⟩
                    · intro h194
                      refine g_aload_n 198 C 6 dX6_shape_197 rfl rfl ?_
                      refine g_get 201 C 0 3 6 iX6_shape_X6 lX6_shape_7 dX6_shape_198 rfl rfl rfl (by decide) rfl ?_
                      refine g_iconst 202 C dX6_shape_201 rfl ?_
                      refine g_iload 204 C 1 dX6_shape_202 rfl rfl ?_
                      refine g_imul 205 C dX6_shape_204 rfl ?_
                      refine g_iload 207 C 0 dX6_shape_205 rfl rfl ?_
                      refine g_iadd 208 C dX6_shape_207 rfl ?_
                      refine g_aload_n 209 C 6 dX6_shape_208 rfl rfl ?_
                      refine g_get 212 C 0 20 6 iX6_shape_X6 lX6_shape_41 dX6_shape_209 rfl rfl rfl (by decide) rfl ?_
                      refine g_bipush 214 C dX6_shape_212 rfl (by decide) ?_
                      refine g_iload_n 215 C 5 dX6_shape_214 rfl rfl ?_
                      refine g_imul 216 C dX6_shape_215 rfl ?_
                      refine g_iload_n 217 C 3 dX6_shape_216 rfl rfl ?_
                      refine g_iadd 218 C dX6_shape_217 rfl ?_
                      refine g_iload 220 C 0 dX6_shape_218 rfl rfl ?_
                      refine g_iadd 221 C dX6_shape_220 rfl ?_
                      refine g_iaload 222 C 4 dX6_shape_221 rfl rfl (by omega) ?_
                      refine g_iastore (ws' := [(_, .inr (6, [_, _, _, _, _, _, _, _, _, _, _, _, _, _, _, _, _, _, _, _, _, _, _])), (_, aI _ _ _), (_, aI _ _ _), (_, aI _ _ _), (_, aI _ _ _)]) 223 C 1 dX6_shape_222 rfl rfl (by omega) rfl ?_
                      refine g_iinc (lv' := [(6, _), (5, _), (4, _), (3, _), (2, _), (1, _), (0, _)]) 226 C 0 dX6_shape_223 rfl rfl (by decide) rfl ?_
                      refine g_goto 188 C dX6_shape_226 (by decide) ?_
                      exact g_w [0, 1, 2, 3, 4, 5, 6] (by (try dsimp only); rw [← shI_s hs sc hy0, show s * 5 + y = 5 * s + y by omega]) rfl (ih188 ((y + 1)) (by (try dsimp only); omega) (by (try dsimp only); omega))
                  · intro h142
                    refine g_aload_n 146 C 6 dX6_shape_145 rfl rfl ?_
                    refine g_get 149 C 0 20 6 iX6_shape_X6 lX6_shape_41 dX6_shape_146 rfl rfl rfl (by decide) rfl ?_
                    refine g_bipush 151 C dX6_shape_149 rfl (by decide) ?_
                    refine g_iload_n 152 C 5 dX6_shape_151 rfl rfl ?_
                    refine g_imul 153 C dX6_shape_152 rfl ?_
                    refine g_iload_n 154 C 3 dX6_shape_153 rfl rfl ?_
                    refine g_iadd 155 C dX6_shape_154 rfl ?_
                    refine g_iload 157 C 0 dX6_shape_155 rfl rfl ?_
                    refine g_iadd 158 C dX6_shape_157 rfl ?_
                    refine g_iaload 159 C 4 dX6_shape_158 rfl rfl (by omega) ?_
                    have e3 := hscr (50 * k + i + x)
                    refine g_i2l 160 C dX6_shape_159 rfl (by omega) ?_
                    refine g_ldc2 163 C (-9) dX6_shape_160 rfl lX6_shape_111 (by decide) ?_
                    refine g_ldc2 166 C (9) dX6_shape_163 rfl lX6_shape_113 (by decide) ?_
                    refine g_callSF 169 C [] dX6_shape_166 rfl (k_X6_in E l  (by first | assumption | omega) (by first | assumption | omega) (by first | assumption | omega)) (va_cwS 3 C.2.2.2.2.1 gX6_shape_X6_in rfl rfl rfl cdX6_in ⟨Nat.le_of_ble_eq_true rfl, Nat.le_of_ble_eq_true rfl⟩) rfl rfl rfl rfl (Nat.le_of_ble_eq_true rfl) ⟨Nat.le_of_ble_eq_true rfl, Nat.le_of_ble_eq_true rfl⟩ ?_
                    refine g_ifb_ne 179 172 C dX6_shape_169 (by decide) rfl ?_ ?_
                    · intro h169
                      refine g_iinc (lv' := [(6, _), (5, _), (4, _), (3, _), (2, _), (1, _), (0, _)]) 182 C 0 dX6_shape_179 rfl rfl (by decide) rfl ?_
                      refine g_goto 136 C dX6_shape_182 (by decide) ?_
                      exact g_w [0, 1, 2, 3, 4, 5, 6] rfl rfl (ih136 ((x + 1)) (by
            try dsimp only
            exact ⟨by omega, fun c h1 h2 => by
              by_cases z : c = 50 * k + i + x
              · rw [z]; omega
              · exact hA c h1 (by omega)⟩) (by (try dsimp only); omega))
                    · intro h169
                      refine g_aload_n 173 C 6 dX6_shape_172 rfl rfl ?_
                      refine g_bipush 175 C dX6_shape_173 rfl (by decide) ?_
                      refine g_callVU (ws' := [(_, .inr (6, [_, _, _, _, _, _, _, _, _, _, _, _, _, _, _, _, _, _, _, _, _, _, _])), (_, aI _ _ _), (_, aI _ _ _), (_, aI _ _ _), (_, aI _ _ _)]) 178 C [0] dX6_shape_175 rfl (k_X6_refused E l  ) (cwV 1 C.2.2.2.2.1 gX6_shape_X6_refused rfl rfl rfl cdX6_refused ⟨Nat.le_of_ble_eq_true rfl, Nat.le_of_ble_eq_true rfl⟩) rfl rfl rfl rfl (Nat.le_of_ble_eq_true rfl) 0 6 rfl rfl rfl ⟨Nat.le_of_ble_eq_true rfl, Nat.le_of_ble_eq_true rfl⟩ rfl rfl ?_
                      exact g_iret C hr dX6_shape_178 ⟨g_ri (by (have g0 : ¬ (¬ ((0 ≤ k ∧ k < 4) ∧ 0 ≤ s ∧ s < nsd W h)) := (by omega)); (have g1 : ¬ (¬ (0 ≤ t ∧ t < 3)) := (by omega)); (have g2 : ¬ (0 ≤ ss k ∧ sl k ≠ t) := (by omega)); (have g3 : ¬ (ss k < 0) := (by omega)); (have g4 : ¬ (n0 < 0) := (by omega)); (have g5 : ¬ (¬ ((0 ≤ i ∧ 0 ≤ n0 * 5 ∧ i + n0 * 5 ≤ ss k) ∧ s + n0 ≤ nsd W h)) := (by omega)); (have g6 : ¬ (∀ c : Int, 50 * k + i ≤ c → c < 50 * k + i + n0 * 5 → -9 ≤ sc c ∧ sc c ≤ 9) := (fun q => by have := q (50 * k + i + x) (by omega) (by omega); omega)); simp only [if_neg g0, if_neg g1, if_neg g2, if_neg g3, if_neg g4, if_neg g5, if_neg g6] <;> rfl), by (have g0 : ¬ (¬ ((0 ≤ k ∧ k < 4) ∧ 0 ≤ s ∧ s < nsd W h)) := (by omega)); (have g1 : ¬ (¬ (0 ≤ t ∧ t < 3)) := (by omega)); (have g2 : ¬ (0 ≤ ss k ∧ sl k ≠ t) := (by omega)); (have g3 : ¬ (ss k < 0) := (by omega)); (have g4 : ¬ (n0 < 0) := (by omega)); (have g5 : ¬ (¬ ((0 ≤ i ∧ 0 ≤ n0 * 5 ∧ i + n0 * 5 ≤ ss k) ∧ s + n0 ≤ nsd W h)) := (by omega)); (have g6 : ¬ (∀ c : Int, 50 * k + i ≤ c → c < 50 * k + i + n0 * 5 → -9 ≤ sc c ∧ sc c ≤ 9) := (fun q => by have := q (50 * k + i + x) (by omega) (by omega); omega)); simp only [if_neg g0, if_neg g1, if_neg g2, if_neg g3, if_neg g4, if_neg g5, if_neg g6] <;> rfl⟩
                · intro h124
                  refine g_aload_n 128 C 0 dX6_shape_127 rfl rfl ?_
                  refine g_iconst 129 C dX6_shape_128 rfl ?_
                  refine g_callVU (ws' := [(_, .inr (6, [_, _, _, _, _, _, _, _, _, _, _, _, _, _, _, _, _, _, _, _, _, _, _])), (_, aI _ _ _), (_, aI _ _ _), (_, aI _ _ _), (_, aI _ _ _)]) 132 C [0] dX6_shape_129 rfl (k_X6_failed E l  ) (cwV 1 C.2.2.2.2.1 gX6_shape_X6_failed rfl rfl rfl cdX6_failed ⟨Nat.le_of_ble_eq_true rfl, Nat.le_of_ble_eq_true rfl⟩) rfl rfl rfl rfl (Nat.le_of_ble_eq_true rfl) 0 6 rfl rfl rfl ⟨Nat.le_of_ble_eq_true rfl, Nat.le_of_ble_eq_true rfl⟩ rfl rfl ?_
                  exact g_iret C hr dX6_shape_132 ⟨g_ri (by (have g0 : ¬ (¬ ((0 ≤ k ∧ k < 4) ∧ 0 ≤ s ∧ s < nsd W h)) := (by omega)); (have g1 : ¬ (¬ (0 ≤ t ∧ t < 3)) := (by omega)); (have g2 : ¬ (0 ≤ ss k ∧ sl k ≠ t) := (by omega)); (have g3 : ¬ (ss k < 0) := (by omega)); (have g4 : ¬ (n0 < 0) := (by omega)); (have g5 : ¬ ((0 ≤ i ∧ 0 ≤ n0 * 5 ∧ i + n0 * 5 ≤ ss k) ∧ s + n0 ≤ nsd W h) := (by omega)); simp only [if_neg g0, if_neg g1, if_neg g2, if_neg g3, if_neg g4, if_pos g5] <;> rfl), by (have g0 : ¬ (¬ ((0 ≤ k ∧ k < 4) ∧ 0 ≤ s ∧ s < nsd W h)) := (by omega)); (have g1 : ¬ (¬ (0 ≤ t ∧ t < 3)) := (by omega)); (have g2 : ¬ (0 ≤ ss k ∧ sl k ≠ t) := (by omega)); (have g3 : ¬ (ss k < 0) := (by omega)); (have g4 : ¬ (n0 < 0) := (by omega)); (have g5 : ¬ ((0 ≤ i ∧ 0 ≤ n0 * 5 ∧ i + n0 * 5 ≤ ss k) ∧ s + n0 ≤ nsd W h) := (by omega)); simp only [if_neg g0, if_neg g1, if_neg g2, if_neg g3, if_neg g4, if_pos g5] <;> rfl⟩
            · intro h83
              refine g_aload_n 87 C 0 dX6_shape_86 rfl rfl ?_
              refine g_iconst 88 C dX6_shape_87 rfl ?_
              refine g_callVU (ws' := [(_, .inr (6, [_, _, _, _, _, _, _, _, _, _, _, _, _, _, _, _, _, _, _, _, _, _, _])), (_, aI _ _ _), (_, aI _ _ _), (_, aI _ _ _), (_, aI _ _ _)]) 91 C [0] dX6_shape_88 rfl (k_X6_failed E l  ) (cwV 1 C.2.2.2.2.1 gX6_shape_X6_failed rfl rfl rfl cdX6_failed ⟨Nat.le_of_ble_eq_true rfl, Nat.le_of_ble_eq_true rfl⟩) rfl rfl rfl rfl (Nat.le_of_ble_eq_true rfl) 0 6 rfl rfl rfl ⟨Nat.le_of_ble_eq_true rfl, Nat.le_of_ble_eq_true rfl⟩ rfl rfl ?_
              exact g_iret C hr dX6_shape_91 ⟨g_ri (by (have g0 : ¬ (¬ ((0 ≤ k ∧ k < 4) ∧ 0 ≤ s ∧ s < nsd W h)) := (by omega)); (have g1 : ¬ (¬ (0 ≤ t ∧ t < 3)) := (by omega)); (have g2 : ¬ (0 ≤ ss k ∧ sl k ≠ t) := (by omega)); (have g3 : ¬ (ss k < 0) := (by omega)); (have g4 : n0 < 0 := (by omega)); simp only [if_neg g0, if_neg g1, if_neg g2, if_neg g3, if_pos g4] <;> rfl), by (have g0 : ¬ (¬ ((0 ≤ k ∧ k < 4) ∧ 0 ≤ s ∧ s < nsd W h)) := (by omega)); (have g1 : ¬ (¬ (0 ≤ t ∧ t < 3)) := (by omega)); (have g2 : ¬ (0 ≤ ss k ∧ sl k ≠ t) := (by omega)); (have g3 : ¬ (ss k < 0) := (by omega)); (have g4 : n0 < 0 := (by omega)); simp only [if_neg g0, if_neg g1, if_neg g2, if_neg g3, if_pos g4] <;> rfl⟩
          · intro h72
            refine g_aload_n 76 C 0 dX6_shape_75 rfl rfl ?_
            refine g_iconst 77 C dX6_shape_76 rfl ?_
            refine g_callVU (ws' := [(_, .inr (6, [_, _, _, _, _, _, _, _, _, _, _, _, _, _, _, _, _, _, _, _, _, _, _])), (_, aI _ _ _), (_, aI _ _ _), (_, aI _ _ _), (_, aI _ _ _)]) 80 C [0] dX6_shape_77 rfl (k_X6_failed E l  ) (cwV 1 C.2.2.2.2.1 gX6_shape_X6_failed rfl rfl rfl cdX6_failed ⟨Nat.le_of_ble_eq_true rfl, Nat.le_of_ble_eq_true rfl⟩) rfl rfl rfl rfl (Nat.le_of_ble_eq_true rfl) 0 6 rfl rfl rfl ⟨Nat.le_of_ble_eq_true rfl, Nat.le_of_ble_eq_true rfl⟩ rfl rfl ?_
            exact g_iret C hr dX6_shape_80 ⟨g_ri (by (have g0 : ¬ (¬ ((0 ≤ k ∧ k < 4) ∧ 0 ≤ s ∧ s < nsd W h)) := (by omega)); (have g1 : ¬ (¬ (0 ≤ t ∧ t < 3)) := (by omega)); (have g2 : ¬ (0 ≤ ss k ∧ sl k ≠ t) := (by omega)); (have g3 : ss k < 0 := (by omega)); simp only [if_neg g0, if_neg g1, if_neg g2, if_pos g3] <;> rfl), by (have g0 : ¬ (¬ ((0 ≤ k ∧ k < 4) ∧ 0 ≤ s ∧ s < nsd W h)) := (by omega)); (have g1 : ¬ (¬ (0 ≤ t ∧ t < 3)) := (by omega)); (have g2 : ¬ (0 ≤ ss k ∧ sl k ≠ t) := (by omega)); (have g3 : ss k < 0 := (by omega)); simp only [if_neg g0, if_neg g1, if_neg g2, if_pos g3] <;> rfl⟩
        · intro h47
          refine g_aload_n 51 C 0 dX6_shape_50 rfl rfl ?_
          refine g_get 54 C 0 19 6 iX6_shape_X6 lX6_shape_38 dX6_shape_51 rfl rfl rfl (by decide) rfl ?_
          refine g_iload_n 55 C 1 dX6_shape_54 rfl rfl ?_
          refine g_iaload 56 C 3 dX6_shape_55 rfl rfl (by omega) ?_
          refine g_iload_n 57 C 2 dX6_shape_56 rfl rfl ?_
          refine g_icmp_eq 66 60 C dX6_shape_57 (by decide) rfl (by omega) ?_ ?_
          · intro h57
            refine g_aload_n 67 C 0 dX6_shape_66 rfl rfl ?_
            refine g_get 70 C 0 18 6 iX6_shape_X6 lX6_shape_35 dX6_shape_67 rfl rfl rfl (by decide) rfl ?_
            refine g_iload_n 71 C 1 dX6_shape_70 rfl rfl ?_
            refine g_iaload 72 C 2 dX6_shape_71 rfl rfl (by omega) ?_
            refine g_if_ge 81 75 C dX6_shape_72 (by decide) rfl (by omega) ?_ ?_
            · intro h72
              refine g_iload 83 C 4 dX6_shape_81 rfl rfl ?_
              refine g_if_ge 92 86 C dX6_shape_83 (by decide) rfl (by omega) ?_ ?_
              · intro h83
                refine g_iload_n 93 C 3 dX6_shape_92 rfl rfl ?_
                refine g_ldc2 96 C (5) dX6_shape_93 rfl lX6_shape_81 (by decide) ?_
                refine g_iload 98 C 4 dX6_shape_96 rfl rfl ?_
                refine g_i2l 99 C dX6_shape_98 rfl (by omega) ?_
                refine g_lmul 100 C dX6_shape_99 rfl ?_
                refine g_aload_n 101 C 0 dX6_shape_100 rfl rfl ?_
                refine g_get 104 C 0 18 6 iX6_shape_X6 lX6_shape_35 dX6_shape_101 rfl rfl rfl (by decide) rfl ?_
                refine g_iload_n 105 C 1 dX6_shape_104 rfl rfl ?_
                refine g_iaload 106 C 2 dX6_shape_105 rfl rfl (by omega) ?_
                refine g_callSF 109 C [] dX6_shape_106 rfl (k_X6_isBeyond E l  (by first | assumption | omega) (by first | assumption | omega) (by first | assumption | omega)) (va_cwS 3 C.2.2.2.2.1 gX6_shape_X6_isBeyond rfl rfl rfl cdX6_isBeyond ⟨Nat.le_of_ble_eq_true rfl, Nat.le_of_ble_eq_true rfl⟩) rfl rfl rfl rfl (Nat.le_of_ble_eq_true rfl) ⟨Nat.le_of_ble_eq_true rfl, Nat.le_of_ble_eq_true rfl⟩ ?_
                refine g_ifb_ne 127 112 C dX6_shape_109 (by decide) rfl ?_ ?_
                · intro h109
                  refine g_aload_n 128 C 0 dX6_shape_127 rfl rfl ?_
                  refine g_iconst 129 C dX6_shape_128 rfl ?_
                  refine g_callVU (ws' := [(_, .inr (6, [_, _, _, _, _, _, _, _, _, _, _, _, _, _, _, _, _, _, _, _, _, _, _])), (_, aI _ _ _), (_, aI _ _ _), (_, aI _ _ _), (_, aI _ _ _)]) 132 C [0] dX6_shape_129 rfl (k_X6_failed E l  ) (cwV 1 C.2.2.2.2.1 gX6_shape_X6_failed rfl rfl rfl cdX6_failed ⟨Nat.le_of_ble_eq_true rfl, Nat.le_of_ble_eq_true rfl⟩) rfl rfl rfl rfl (Nat.le_of_ble_eq_true rfl) 0 6 rfl rfl rfl ⟨Nat.le_of_ble_eq_true rfl, Nat.le_of_ble_eq_true rfl⟩ rfl rfl ?_
                  exact g_iret C hr dX6_shape_132 ⟨g_ri (by (have g0 : ¬ (¬ ((0 ≤ k ∧ k < 4) ∧ 0 ≤ s ∧ s < nsd W h)) := (by omega)); (have g1 : ¬ (¬ (0 ≤ t ∧ t < 3)) := (by omega)); (have g2 : ¬ (0 ≤ ss k ∧ sl k ≠ t) := (by omega)); (have g3 : ¬ (ss k < 0) := (by omega)); (have g4 : ¬ (n0 < 0) := (by omega)); (have g5 : ¬ ((0 ≤ i ∧ 0 ≤ n0 * 5 ∧ i + n0 * 5 ≤ ss k) ∧ s + n0 ≤ nsd W h) := (by omega)); simp only [if_neg g0, if_neg g1, if_neg g2, if_neg g3, if_neg g4, if_pos g5] <;> rfl), by (have g0 : ¬ (¬ ((0 ≤ k ∧ k < 4) ∧ 0 ≤ s ∧ s < nsd W h)) := (by omega)); (have g1 : ¬ (¬ (0 ≤ t ∧ t < 3)) := (by omega)); (have g2 : ¬ (0 ≤ ss k ∧ sl k ≠ t) := (by omega)); (have g3 : ¬ (ss k < 0) := (by omega)); (have g4 : ¬ (n0 < 0) := (by omega)); (have g5 : ¬ ((0 ≤ i ∧ 0 ≤ n0 * 5 ∧ i + n0 * 5 ≤ ss k) ∧ s + n0 ≤ nsd W h) := (by omega)); simp only [if_neg g0, if_neg g1, if_neg g2, if_neg g3, if_neg g4, if_pos g5] <;> rfl⟩
                · intro h109
                  refine g_iload 114 C 5 dX6_shape_112 rfl rfl ?_
                  refine g_iload 116 C 4 dX6_shape_114 rfl rfl ?_
                  refine g_i2l 117 C dX6_shape_116 rfl (by omega) ?_
                  refine g_aload_n 118 C 0 dX6_shape_117 rfl rfl ?_
                  refine g_callVF 121 C [0] dX6_shape_118 rfl (k_X6_sides E l  ) (cwV 0 C.2.2.2.2.1 gX6_shape_X6_sides rfl rfl rfl cdX6_sides ⟨Nat.le_of_ble_eq_true rfl, Nat.le_of_ble_eq_true rfl⟩) rfl rfl rfl rfl (Nat.le_of_ble_eq_true rfl) 0 6 rfl rfl rfl ⟨Nat.le_of_ble_eq_true rfl, Nat.le_of_ble_eq_true rfl⟩ ?_
                  refine g_callSF 124 C [] dX6_shape_121 rfl (k_X6_isBeyond E l  (by first | assumption | omega) (by first | assumption | omega) (by first | assumption | omega)) (va_cwS 3 C.2.2.2.2.1 gX6_shape_X6_isBeyond rfl rfl rfl cdX6_isBeyond ⟨Nat.le_of_ble_eq_true rfl, Nat.le_of_ble_eq_true rfl⟩) rfl rfl rfl rfl (Nat.le_of_ble_eq_true rfl) ⟨Nat.le_of_ble_eq_true rfl, Nat.le_of_ble_eq_true rfl⟩ ?_
                  refine g_ifb_eq 133 127 C dX6_shape_124 (by decide) rfl ?_ ?_
                  · intro h124
                    refine g_iconst 134 C dX6_shape_133 rfl ?_
                    refine g_istore (lv' := [(6, _), (0, _), (1, _), (2, _), (3, _), (4, _), (5, _)]) 136 C dX6_shape_134 rfl (by decide) rfl ?_
                    refine g_loop (α := Int) (fun zz => [(a_M, .inr (6, [.int (iI mf), .int (iI W), .int (iI h), .ref a_Mh, .long md, .int (iI mL), .int (iI mN), .int (iI n), .ref a_Mp, .ref a_Mt, .int (iI tc), .int (iI fd), .ref a_Ma, .ref a_Mu, .ref a_Mi, .int (iI jo), .ref a_Mx, .ref a_My, .ref a_Ms, .ref a_Ml, .ref a_Mc, .ref a_Mg, .int (iI tr)])), (a_Mh, aI E 200 hs), (a_Ms, aI E 4 ss), (a_Ml, aI E 4 sl), (a_Mc, aI E 200 sc)]) (fun zz => [(6, .int (iI zz)), (5, .int (iI s)), (4, .int (iI n0)), (3, .int (iI i)), (2, .int (iI t)), (1, .int (iI k)), (0, .ref a_M)]) (fun zz => (0 ≤ zz ∧ zz ≤ n0 * 5) ∧ ∀ c : Int, 50 * k + i ≤ c → c < 50 * k + i + zz → -9 ≤ sc c ∧ sc c ≤ 9) (fun zz => (n0 * 5 - zz).toNat) (0) (by
            try dsimp only
            exact ⟨by omega, fun c h1 h2 => by omega⟩) [0, 6, 5, 4, 3, 2, 1] rfl rfl ?_
                    rintro x hI ih136
                    try dsimp only at hI ih136 ⊢
                    obtain ⟨hx, hA⟩ := hI
                    refine g_iload 138 C 0 dX6_shape_136 rfl rfl ?_
                    refine g_iconst 139 C dX6_shape_138 rfl ?_
                    refine g_iload 141 C 2 dX6_shape_139 rfl rfl ?_
                    refine g_imul 142 C dX6_shape_141 rfl ?_
                    refine g_icmp_ge 185 145 C dX6_shape_142 (by decide) rfl (by omega) ?_ ?_
                    · intro h142
                      refine g_iconst 186 C dX6_shape_185 rfl ?_
                      refine g_istore (lv' := [(6, _), (5, _), (4, _), (3, _), (2, _), (1, _), (0, _)]) 188 C dX6_shape_186 rfl (by decide) rfl ?_
                      refine g_loop (α := Int) (fun zz => [(a_M, .inr (6, [.int (iI mf), .int (iI W), .int (iI h), .ref a_Mh, .long md, .int (iI mL), .int (iI mN), .int (iI n), .ref a_Mp, .ref a_Mt, .int (iI tc), .int (iI fd), .ref a_Ma, .ref a_Mu, .ref a_Mi, .int (iI jo), .ref a_Mx, .ref a_My, .ref a_Ms, .ref a_Ml, .ref a_Mc, .ref a_Mg, .int (iI tr)])), (a_Mh, aI E 200 (shI hs sc s (50 * k + i) zz)), (a_Ms, aI E 4 ss), (a_Ml, aI E 4 sl), (a_Mc, aI E 200 sc)]) (fun zz => [(6, .int (iI zz)), (5, .int (iI s)), (4, .int (iI n0)), (3, .int (iI i)), (2, .int (iI t)), (1, .int (iI k)), (0, .ref a_M)]) (fun zz => 0 ≤ zz ∧ zz ≤ n0 * 5) (fun zz => (n0 * 5 - zz).toNat) (0) (by (try dsimp only); omega) [0, 1, 2, 3, 4, 5, 6] (by rw [shI_0]) rfl ?_
                      rintro y hI ih188
                      try dsimp only at hI ih188 ⊢
                      obtain ⟨hy0, hyn⟩ := hI
                      refine g_iload 190 C 0 dX6_shape_188 rfl rfl ?_
                      refine g_iconst 191 C dX6_shape_190 rfl ?_
                      refine g_iload 193 C 2 dX6_shape_191 rfl rfl ?_
                      refine g_imul 194 C dX6_shape_193 rfl ?_
                      refine g_icmp_ge 229 197 C dX6_shape_194 (by decide) rfl (by omega) ?_ ?_
                      · intro h194
                        refine g_aload_n 230 C 6 dX6_shape_229 rfl rfl ?_
                        refine g_callVU (ws' := [(_, .inr (6, [_, _, _, _, _, _, _, _, _, _, _, _, _, _, _, _, _, _, _, _, _, _, _])), (_, aI _ _ _), (_, aI _ _ _), (_, aI _ _ _), (_, aI _ _ _)]) 233 C [0] dX6_shape_230 rfl (k_X6_changed E l  ) (cwV 0 C.2.2.2.2.1 gX6_shape_X6_changed rfl rfl rfl cdX6_changed ⟨Nat.le_of_ble_eq_true rfl, Nat.le_of_ble_eq_true rfl⟩) rfl rfl rfl rfl (Nat.le_of_ble_eq_true rfl) 0 6 rfl rfl rfl ⟨Nat.le_of_ble_eq_true rfl, Nat.le_of_ble_eq_true rfl⟩ rfl rfl ?_
                        refine g_aload_n 234 C 6 dX6_shape_233 rfl rfl ?_
                        refine g_iload 236 C 2 dX6_shape_234 rfl rfl ?_
                        refine g_callVU (ws' := [(_, .inr (6, [_, _, _, _, _, _, _, _, _, _, _, _, _, _, _, _, _, _, _, _, _, _, _])), (_, aI _ _ _), (_, aI _ _ _), (_, aI _ _ _), (_, aI _ _ _)]) 239 C [0] dX6_shape_236 rfl (k_X6_refused E l  ) (cwV 1 C.2.2.2.2.1 gX6_shape_X6_refused rfl rfl rfl cdX6_refused ⟨Nat.le_of_ble_eq_true rfl, Nat.le_of_ble_eq_true rfl⟩) rfl rfl rfl rfl (Nat.le_of_ble_eq_true rfl) 0 6 rfl rfl rfl ⟨Nat.le_of_ble_eq_true rfl, Nat.le_of_ble_eq_true rfl⟩ rfl rfl ?_
                        exact g_iret C hr dX6_shape_239 ⟨g_ri (by (have g0 : ¬ (¬ ((0 ≤ k ∧ k < 4) ∧ 0 ≤ s ∧ s < nsd W h)) := (by omega)); (have g1 : ¬ (¬ (0 ≤ t ∧ t < 3)) := (by omega)); (have g2 : ¬ (0 ≤ ss k ∧ sl k ≠ t) := (by omega)); (have g3 : ¬ (ss k < 0) := (by omega)); (have g4 : ¬ (n0 < 0) := (by omega)); (have g5 : ¬ (¬ ((0 ≤ i ∧ 0 ≤ n0 * 5 ∧ i + n0 * 5 ≤ ss k) ∧ s + n0 ≤ nsd W h)) := (by omega)); (have g6 : ∀ c : Int, 50 * k + i ≤ c → c < 50 * k + i + n0 * 5 → -9 ≤ sc c ∧ sc c ≤ 9 := (fun c h1 h2 => hA c h1 (by omega))); simp only [if_neg g0, if_neg g1, if_neg g2, if_neg g3, if_neg g4, if_neg g5, if_pos g6] <;> rfl), by (have g0 : ¬ (¬ ((0 ≤ k ∧ k < 4) ∧ 0 ≤ s ∧ s < nsd W h)) := (by omega)); (have g1 : ¬ (¬ (0 ≤ t ∧ t < 3)) := (by omega)); (have g2 : ¬ (0 ≤ ss k ∧ sl k ≠ t) := (by omega)); (have g3 : ¬ (ss k < 0) := (by omega)); (have g4 : ¬ (n0 < 0) := (by omega)); (have g5 : ¬ (¬ ((0 ≤ i ∧ 0 ≤ n0 * 5 ∧ i + n0 * 5 ≤ ss k) ∧ s + n0 ≤ nsd W h)) := (by omega)); (have g6 : ∀ c : Int, 50 * k + i ≤ c → c < 50 * k + i + n0 * 5 → -9 ≤ sc c ∧ sc c ≤ 9 := (fun c h1 h2 => hA c h1 (by omega))); (have yy : n0 * 5 = y := (by omega)); simp only [if_neg g0, if_neg g1, if_neg g2, if_neg g3, if_neg g4, if_neg g5, if_pos g6]; rw [yy]⟩
                      · intro h194
                        refine g_aload_n 198 C 6 dX6_shape_197 rfl rfl ?_
                        refine g_get 201 C 0 3 6 iX6_shape_X6 lX6_shape_7 dX6_shape_198 rfl rfl rfl (by decide) rfl ?_
                        refine g_iconst 202 C dX6_shape_201 rfl ?_
                        refine g_iload 204 C 1 dX6_shape_202 rfl rfl ?_
                        refine g_imul 205 C dX6_shape_204 rfl ?_
                        refine g_iload 207 C 0 dX6_shape_205 rfl rfl ?_
                        refine g_iadd 208 C dX6_shape_207 rfl ?_
                        refine g_aload_n 209 C 6 dX6_shape_208 rfl rfl ?_
                        refine g_get 212 C 0 20 6 iX6_shape_X6 lX6_shape_41 dX6_shape_209 rfl rfl rfl (by decide) rfl ?_
                        refine g_bipush 214 C dX6_shape_212 rfl (by decide) ?_
                        refine g_iload_n 215 C 5 dX6_shape_214 rfl rfl ?_
                        refine g_imul 216 C dX6_shape_215 rfl ?_
                        refine g_iload_n 217 C 3 dX6_shape_216 rfl rfl ?_
                        refine g_iadd 218 C dX6_shape_217 rfl ?_
                        refine g_iload 220 C 0 dX6_shape_218 rfl rfl ?_
                        refine g_iadd 221 C dX6_shape_220 rfl ?_
                        refine g_iaload 222 C 4 dX6_shape_221 rfl rfl (by omega) ?_
                        refine g_iastore (ws' := [(_, .inr (6, [_, _, _, _, _, _, _, _, _, _, _, _, _, _, _, _, _, _, _, _, _, _, _])), (_, aI _ _ _), (_, aI _ _ _), (_, aI _ _ _), (_, aI _ _ _)]) 223 C 1 dX6_shape_222 rfl rfl (by omega) rfl ?_
                        refine g_iinc (lv' := [(6, _), (5, _), (4, _), (3, _), (2, _), (1, _), (0, _)]) 226 C 0 dX6_shape_223 rfl rfl (by decide) rfl ?_
                        refine g_goto 188 C dX6_shape_226 (by decide) ?_
                        exact g_w [0, 1, 2, 3, 4, 5, 6] (by (try dsimp only); rw [← shI_s hs sc hy0, show s * 5 + y = 5 * s + y by omega]) rfl (ih188 ((y + 1)) (by (try dsimp only); omega) (by (try dsimp only); omega))
                    · intro h142
                      refine g_aload_n 146 C 6 dX6_shape_145 rfl rfl ?_
                      refine g_get 149 C 0 20 6 iX6_shape_X6 lX6_shape_41 dX6_shape_146 rfl rfl rfl (by decide) rfl ?_
                      refine g_bipush 151 C dX6_shape_149 rfl (by decide) ?_
                      refine g_iload_n 152 C 5 dX6_shape_151 rfl rfl ?_
                      refine g_imul 153 C dX6_shape_152 rfl ?_
                      refine g_iload_n 154 C 3 dX6_shape_153 rfl rfl ?_
                      refine g_iadd 155 C dX6_shape_154 rfl ?_
                      refine g_iload 157 C 0 dX6_shape_155 rfl rfl ?_
                      refine g_iadd 158 C dX6_shape_157 rfl ?_
                      refine g_iaload 159 C 4 dX6_shape_158 rfl rfl (by omega) ?_
                      have e3 := hscr (50 * k + i + x)
                      refine g_i2l 160 C dX6_shape_159 rfl (by omega) ?_
                      refine g_ldc2 163 C (-9) dX6_shape_160 rfl lX6_shape_111 (by decide) ?_
                      refine g_ldc2 166 C (9) dX6_shape_163 rfl lX6_shape_113 (by decide) ?_
                      refine g_callSF 169 C [] dX6_shape_166 rfl (k_X6_in E l  (by first | assumption | omega) (by first | assumption | omega) (by first | assumption | omega)) (va_cwS 3 C.2.2.2.2.1 gX6_shape_X6_in rfl rfl rfl cdX6_in ⟨Nat.le_of_ble_eq_true rfl, Nat.le_of_ble_eq_true rfl⟩) rfl rfl rfl rfl (Nat.le_of_ble_eq_true rfl) ⟨Nat.le_of_ble_eq_true rfl, Nat.le_of_ble_eq_true rfl⟩ ?_
                      refine g_ifb_ne 179 172 C dX6_shape_169 (by decide) rfl ?_ ?_
                      · intro h169
                        refine g_iinc (lv' := [(6, _), (5, _), (4, _), (3, _), (2, _), (1, _), (0, _)]) 182 C 0 dX6_shape_179 rfl rfl (by decide) rfl ?_
                        refine g_goto 136 C dX6_shape_182 (by decide) ?_
                        exact g_w [0, 1, 2, 3, 4, 5, 6] rfl rfl (ih136 ((x + 1)) (by
            try dsimp only
            exact ⟨by omega, fun c h1 h2 => by
              by_cases z : c = 50 * k + i + x
              · rw [z]; omega
              · exact hA c h1 (by omega)⟩) (by (try dsimp only); omega))
                      · intro h169
                        refine g_aload_n 173 C 6 dX6_shape_172 rfl rfl ?_
                        refine g_bipush 175 C dX6_shape_173 rfl (by decide) ?_
                        refine g_callVU (ws' := [(_, .inr (6, [_, _, _, _, _, _, _, _, _, _, _, _, _, _, _, _, _, _, _, _, _, _, _])), (_, aI _ _ _), (_, aI _ _ _), (_, aI _ _ _), (_, aI _ _ _)]) 178 C [0] dX6_shape_175 rfl (k_X6_refused E l  ) (cwV 1 C.2.2.2.2.1 gX6_shape_X6_refused rfl rfl rfl cdX6_refused ⟨Nat.le_of_ble_eq_true rfl, Nat.le_of_ble_eq_true rfl⟩) rfl rfl rfl rfl (Nat.le_of_ble_eq_true rfl) 0 6 rfl rfl rfl ⟨Nat.le_of_ble_eq_true rfl, Nat.le_of_ble_eq_true rfl⟩ rfl rfl ?_
                        exact g_iret C hr dX6_shape_178 ⟨g_ri (by (have g0 : ¬ (¬ ((0 ≤ k ∧ k < 4) ∧ 0 ≤ s ∧ s < nsd W h)) := (by omega)); (have g1 : ¬ (¬ (0 ≤ t ∧ t < 3)) := (by omega)); (have g2 : ¬ (0 ≤ ss k ∧ sl k ≠ t) := (by omega)); (have g3 : ¬ (ss k < 0) := (by omega)); (have g4 : ¬ (n0 < 0) := (by omega)); (have g5 : ¬ (¬ ((0 ≤ i ∧ 0 ≤ n0 * 5 ∧ i + n0 * 5 ≤ ss k) ∧ s + n0 ≤ nsd W h)) := (by omega)); (have g6 : ¬ (∀ c : Int, 50 * k + i ≤ c → c < 50 * k + i + n0 * 5 → -9 ≤ sc c ∧ sc c ≤ 9) := (fun q => by have := q (50 * k + i + x) (by omega) (by omega); omega)); simp only [if_neg g0, if_neg g1, if_neg g2, if_neg g3, if_neg g4, if_neg g5, if_neg g6] <;> rfl), by (have g0 : ¬ (¬ ((0 ≤ k ∧ k < 4) ∧ 0 ≤ s ∧ s < nsd W h)) := (by omega)); (have g1 : ¬ (¬ (0 ≤ t ∧ t < 3)) := (by omega)); (have g2 : ¬ (0 ≤ ss k ∧ sl k ≠ t) := (by omega)); (have g3 : ¬ (ss k < 0) := (by omega)); (have g4 : ¬ (n0 < 0) := (by omega)); (have g5 : ¬ (¬ ((0 ≤ i ∧ 0 ≤ n0 * 5 ∧ i + n0 * 5 ≤ ss k) ∧ s + n0 ≤ nsd W h)) := (by omega)); (have g6 : ¬ (∀ c : Int, 50 * k + i ≤ c → c < 50 * k + i + n0 * 5 → -9 ≤ sc c ∧ sc c ≤ 9) := (fun q => by have := q (50 * k + i + x) (by omega) (by omega); omega)); simp only [if_neg g0, if_neg g1, if_neg g2, if_neg g3, if_neg g4, if_neg g5, if_neg g6] <;> rfl⟩
                  · intro h124
                    refine g_aload_n 128 C 0 dX6_shape_127 rfl rfl ?_
                    refine g_iconst 129 C dX6_shape_128 rfl ?_
                    refine g_callVU (ws' := [(_, .inr (6, [_, _, _, _, _, _, _, _, _, _, _, _, _, _, _, _, _, _, _, _, _, _, _])), (_, aI _ _ _), (_, aI _ _ _), (_, aI _ _ _), (_, aI _ _ _)]) 132 C [0] dX6_shape_129 rfl (k_X6_failed E l  ) (cwV 1 C.2.2.2.2.1 gX6_shape_X6_failed rfl rfl rfl cdX6_failed ⟨Nat.le_of_ble_eq_true rfl, Nat.le_of_ble_eq_true rfl⟩) rfl rfl rfl rfl (Nat.le_of_ble_eq_true rfl) 0 6 rfl rfl rfl ⟨Nat.le_of_ble_eq_true rfl, Nat.le_of_ble_eq_true rfl⟩ rfl rfl ?_
                    exact g_iret C hr dX6_shape_132 ⟨g_ri (by (have g0 : ¬ (¬ ((0 ≤ k ∧ k < 4) ∧ 0 ≤ s ∧ s < nsd W h)) := (by omega)); (have g1 : ¬ (¬ (0 ≤ t ∧ t < 3)) := (by omega)); (have g2 : ¬ (0 ≤ ss k ∧ sl k ≠ t) := (by omega)); (have g3 : ¬ (ss k < 0) := (by omega)); (have g4 : ¬ (n0 < 0) := (by omega)); (have g5 : ¬ ((0 ≤ i ∧ 0 ≤ n0 * 5 ∧ i + n0 * 5 ≤ ss k) ∧ s + n0 ≤ nsd W h) := (by omega)); simp only [if_neg g0, if_neg g1, if_neg g2, if_neg g3, if_neg g4, if_pos g5] <;> rfl), by (have g0 : ¬ (¬ ((0 ≤ k ∧ k < 4) ∧ 0 ≤ s ∧ s < nsd W h)) := (by omega)); (have g1 : ¬ (¬ (0 ≤ t ∧ t < 3)) := (by omega)); (have g2 : ¬ (0 ≤ ss k ∧ sl k ≠ t) := (by omega)); (have g3 : ¬ (ss k < 0) := (by omega)); (have g4 : ¬ (n0 < 0) := (by omega)); (have g5 : ¬ ((0 ≤ i ∧ 0 ≤ n0 * 5 ∧ i + n0 * 5 ≤ ss k) ∧ s + n0 ≤ nsd W h) := (by omega)); simp only [if_neg g0, if_neg g1, if_neg g2, if_neg g3, if_neg g4, if_pos g5] <;> rfl⟩
              · intro h83
                refine g_aload_n 87 C 0 dX6_shape_86 rfl rfl ?_
                refine g_iconst 88 C dX6_shape_87 rfl ?_
                refine g_callVU (ws' := [(_, .inr (6, [_, _, _, _, _, _, _, _, _, _, _, _, _, _, _, _, _, _, _, _, _, _, _])), (_, aI _ _ _), (_, aI _ _ _), (_, aI _ _ _), (_, aI _ _ _)]) 91 C [0] dX6_shape_88 rfl (k_X6_failed E l  ) (cwV 1 C.2.2.2.2.1 gX6_shape_X6_failed rfl rfl rfl cdX6_failed ⟨Nat.le_of_ble_eq_true rfl, Nat.le_of_ble_eq_true rfl⟩) rfl rfl rfl rfl (Nat.le_of_ble_eq_true rfl) 0 6 rfl rfl rfl ⟨Nat.le_of_ble_eq_true rfl, Nat.le_of_ble_eq_true rfl⟩ rfl rfl ?_
                exact g_iret C hr dX6_shape_91 ⟨g_ri (by (have g0 : ¬ (¬ ((0 ≤ k ∧ k < 4) ∧ 0 ≤ s ∧ s < nsd W h)) := (by omega)); (have g1 : ¬ (¬ (0 ≤ t ∧ t < 3)) := (by omega)); (have g2 : ¬ (0 ≤ ss k ∧ sl k ≠ t) := (by omega)); (have g3 : ¬ (ss k < 0) := (by omega)); (have g4 : n0 < 0 := (by omega)); simp only [if_neg g0, if_neg g1, if_neg g2, if_neg g3, if_pos g4] <;> rfl), by (have g0 : ¬ (¬ ((0 ≤ k ∧ k < 4) ∧ 0 ≤ s ∧ s < nsd W h)) := (by omega)); (have g1 : ¬ (¬ (0 ≤ t ∧ t < 3)) := (by omega)); (have g2 : ¬ (0 ≤ ss k ∧ sl k ≠ t) := (by omega)); (have g3 : ¬ (ss k < 0) := (by omega)); (have g4 : n0 < 0 := (by omega)); simp only [if_neg g0, if_neg g1, if_neg g2, if_neg g3, if_pos g4] <;> rfl⟩
            · intro h72
              refine g_aload_n 76 C 0 dX6_shape_75 rfl rfl ?_
              refine g_iconst 77 C dX6_shape_76 rfl ?_
              refine g_callVU (ws' := [(_, .inr (6, [_, _, _, _, _, _, _, _, _, _, _, _, _, _, _, _, _, _, _, _, _, _, _])), (_, aI _ _ _), (_, aI _ _ _), (_, aI _ _ _), (_, aI _ _ _)]) 80 C [0] dX6_shape_77 rfl (k_X6_failed E l  ) (cwV 1 C.2.2.2.2.1 gX6_shape_X6_failed rfl rfl rfl cdX6_failed ⟨Nat.le_of_ble_eq_true rfl, Nat.le_of_ble_eq_true rfl⟩) rfl rfl rfl rfl (Nat.le_of_ble_eq_true rfl) 0 6 rfl rfl rfl ⟨Nat.le_of_ble_eq_true rfl, Nat.le_of_ble_eq_true rfl⟩ rfl rfl ?_
              exact g_iret C hr dX6_shape_80 ⟨g_ri (by (have g0 : ¬ (¬ ((0 ≤ k ∧ k < 4) ∧ 0 ≤ s ∧ s < nsd W h)) := (by omega)); (have g1 : ¬ (¬ (0 ≤ t ∧ t < 3)) := (by omega)); (have g2 : ¬ (0 ≤ ss k ∧ sl k ≠ t) := (by omega)); (have g3 : ss k < 0 := (by omega)); simp only [if_neg g0, if_neg g1, if_neg g2, if_pos g3] <;> rfl), by (have g0 : ¬ (¬ ((0 ≤ k ∧ k < 4) ∧ 0 ≤ s ∧ s < nsd W h)) := (by omega)); (have g1 : ¬ (¬ (0 ≤ t ∧ t < 3)) := (by omega)); (have g2 : ¬ (0 ≤ ss k ∧ sl k ≠ t) := (by omega)); (have g3 : ss k < 0 := (by omega)); simp only [if_neg g0, if_neg g1, if_neg g2, if_pos g3] <;> rfl⟩
          · intro h57
            refine g_aload_n 61 C 0 dX6_shape_60 rfl rfl ?_
            refine g_iconst 62 C dX6_shape_61 rfl ?_
            refine g_callVU (ws' := [(_, .inr (6, [_, _, _, _, _, _, _, _, _, _, _, _, _, _, _, _, _, _, _, _, _, _, _])), (_, aI _ _ _), (_, aI _ _ _), (_, aI _ _ _), (_, aI _ _ _)]) 65 C [0] dX6_shape_62 rfl (k_X6_failed E l  ) (cwV 1 C.2.2.2.2.1 gX6_shape_X6_failed rfl rfl rfl cdX6_failed ⟨Nat.le_of_ble_eq_true rfl, Nat.le_of_ble_eq_true rfl⟩) rfl rfl rfl rfl (Nat.le_of_ble_eq_true rfl) 0 6 rfl rfl rfl ⟨Nat.le_of_ble_eq_true rfl, Nat.le_of_ble_eq_true rfl⟩ rfl rfl ?_
            exact g_iret C hr dX6_shape_65 ⟨g_ri (by (have g0 : ¬ (¬ ((0 ≤ k ∧ k < 4) ∧ 0 ≤ s ∧ s < nsd W h)) := (by omega)); (have g1 : ¬ (¬ (0 ≤ t ∧ t < 3)) := (by omega)); (have g2 : 0 ≤ ss k ∧ sl k ≠ t := (by omega)); simp only [if_neg g0, if_neg g1, if_pos g2] <;> rfl), by (have g0 : ¬ (¬ ((0 ≤ k ∧ k < 4) ∧ 0 ≤ s ∧ s < nsd W h)) := (by omega)); (have g1 : ¬ (¬ (0 ≤ t ∧ t < 3)) := (by omega)); (have g2 : 0 ≤ ss k ∧ sl k ≠ t := (by omega)); simp only [if_neg g0, if_neg g1, if_pos g2] <;> rfl⟩
      · intro h31
        refine g_aload_n 35 C 0 dX6_shape_34 rfl rfl ?_
        refine g_bipush 37 C dX6_shape_35 rfl (by decide) ?_
        refine g_callVU (ws' := [(_, .inr (6, [_, _, _, _, _, _, _, _, _, _, _, _, _, _, _, _, _, _, _, _, _, _, _])), (_, aI _ _ _), (_, aI _ _ _), (_, aI _ _ _), (_, aI _ _ _)]) 40 C [0] dX6_shape_37 rfl (k_X6_refused E l  ) (cwV 1 C.2.2.2.2.1 gX6_shape_X6_refused rfl rfl rfl cdX6_refused ⟨Nat.le_of_ble_eq_true rfl, Nat.le_of_ble_eq_true rfl⟩) rfl rfl rfl rfl (Nat.le_of_ble_eq_true rfl) 0 6 rfl rfl rfl ⟨Nat.le_of_ble_eq_true rfl, Nat.le_of_ble_eq_true rfl⟩ rfl rfl ?_
        exact g_iret C hr dX6_shape_40 ⟨g_ri (by (have g0 : ¬ (¬ ((0 ≤ k ∧ k < 4) ∧ 0 ≤ s ∧ s < nsd W h)) := (by omega)); (have g1 : ¬ (0 ≤ t ∧ t < 3) := (by omega)); simp only [if_neg g0, if_pos g1] <;> rfl), by (have g0 : ¬ (¬ ((0 ≤ k ∧ k < 4) ∧ 0 ≤ s ∧ s < nsd W h)) := (by omega)); (have g1 : ¬ (0 ≤ t ∧ t < 3) := (by omega)); simp only [if_neg g0, if_pos g1] <;> rfl⟩
    · intro h13
      refine g_aload_n 17 C 0 dX6_shape_16 rfl rfl ?_
      refine g_iconst 18 C dX6_shape_17 rfl ?_
      refine g_callVU (ws' := [(_, .inr (6, [_, _, _, _, _, _, _, _, _, _, _, _, _, _, _, _, _, _, _, _, _, _, _])), (_, aI _ _ _), (_, aI _ _ _), (_, aI _ _ _), (_, aI _ _ _)]) 21 C [0] dX6_shape_18 rfl (k_X6_refused E l  ) (cwV 1 C.2.2.2.2.1 gX6_shape_X6_refused rfl rfl rfl cdX6_refused ⟨Nat.le_of_ble_eq_true rfl, Nat.le_of_ble_eq_true rfl⟩) rfl rfl rfl rfl (Nat.le_of_ble_eq_true rfl) 0 6 rfl rfl rfl ⟨Nat.le_of_ble_eq_true rfl, Nat.le_of_ble_eq_true rfl⟩ rfl rfl ?_
      exact g_iret C hr dX6_shape_21 ⟨g_ri (by (have g0 : ¬ ((0 ≤ k ∧ k < 4) ∧ 0 ≤ s ∧ s < nsd W h) := (by omega)); simp only [if_pos g0] <;> rfl), by (have g0 : ¬ ((0 ≤ k ∧ k < 4) ∧ 0 ≤ s ∧ s < nsd W h) := (by omega)); simp only [if_pos g0] <;> rfl⟩
