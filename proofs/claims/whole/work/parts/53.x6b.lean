theorem lX6_numberBelow_89 : Cond.fieldLink RX6 89 (TX6 4).1 (TX6 4).2.1 (TX6 4).2.2.1 ∈ wsX6_numberBelow := by decide +kernel
theorem lX6_numberBelow_93 : Cond.constantLong RX6 93 (6364136223846793005) ∈ wsX6_numberBelow := by decide +kernel
theorem lX6_numberBelow_95 : Cond.constantLong RX6 95 (1442695040888963407) ∈ wsX6_numberBelow := by decide +kernel
theorem lX6_numberBelow_97 : Cond.constantLong RX6 97 (2147483647) ∈ wsX6_numberBelow := by decide +kernel
theorem lX6_numberBelow_99 : Cond.constantLong RX6 99 (4096) ∈ wsX6_numberBelow := by decide +kernel
theorem iX6_numberBelow_X6 : ∀ w ∈ u_ws RX6 TX6 23, w ∈ wsX6_numberBelow := by decide +kernel
set_option maxHeartbeats 4000000 in
set_option maxRecDepth 100000 in
theorem k_X6_numberBelow (E : gE) (l : Launch) {a_M a_Ma a_Mc a_Mg a_Mh a_Mi a_Ml a_Mp a_Ms a_Mt a_Mu a_Mx a_My : Nat} {k : Int} {mf W h mL mN n tc fd jo tr : Int} {md : Int64} (hk : 1 ≤ k ∧ k < 2147483648) : gUpd E l yX6_numberBelow wsX6_numberBelow { frames := 0, cells := 0, slots := 0, locals := 0 } [.ref a_M, .int (iI k)] [(a_M, .inr (6, [.int (iI mf), .int (iI W), .int (iI h), .ref a_Mh, .long md, .int (iI mL), .int (iI mN), .int (iI n), .ref a_Mp, .ref a_Mt, .int (iI tc), .int (iI fd), .ref a_Ma, .ref a_Mu, .ref a_Mi, .int (iI jo), .ref a_Mx, .ref a_My, .ref a_Ms, .ref a_Ml, .ref a_Mc, .ref a_Mg, .int (iI tr)]))] (some (.int (iI (dvI (dnI md) k)))) [(a_M, .inr (6, [.int (iI mf), .int (iI W), .int (iI h), .ref a_Mh, .long (dnI md), .int (iI mL), .int (iI mN), .int (iI n), .ref a_Mp, .ref a_Mt, .int (iI tc), .int (iI fd), .ref a_Ma, .ref a_Mu, .ref a_Mi, .int (iI jo), .ref a_Mx, .ref a_My, .ref a_Ms, .ref a_Ml, .ref a_Mc, .ref a_Mg, .int (iI tr)]))] := by
  refine g_start (cc := cX6_numberBelow) (maxL := 2) (ret := (some .int)) (by decide) rfl (Nat.le_of_ble_eq_true rfl) ?_
  intro p_ e_ s_ m_ args_ below_ meth_ c_ A_ C hr hnm
  refine g_aload_n 1 C 0 dX6_numberBelow_0 rfl rfl ?_
  refine g_aload_n 2 C 0 dX6_numberBelow_1 rfl rfl ?_
  refine g_get 5 C 0 4 6 iX6_numberBelow_X6 lX6_numberBelow_89 dX6_numberBelow_2 rfl rfl rfl (by decide) rfl ?_
  refine g_ldc2 8 C (6364136223846793005) dX6_numberBelow_5 rfl lX6_numberBelow_93 (by decide) ?_
  refine g_lmul_r 9 C dX6_numberBelow_8 rfl ?_
  refine g_ldc2 12 C (1442695040888963407) dX6_numberBelow_9 rfl lX6_numberBelow_95 (by decide) ?_
  refine g_ladd_r 13 C dX6_numberBelow_12 rfl ?_
  refine g_put (ws' := [(_, .inr (6, [_, _, _, _, _, _, _, _, _, _, _, _, _, _, _, _, _, _, _, _, _, _, _]))]) 16 C 0 4 6 tyX6 tyX6_ok nmX6 iX6_numberBelow_X6 lX6_numberBelow_89 dX6_numberBelow_13 rfl rfl rfl (by decide) rfl rfl rfl (Nat.le_of_ble_eq_true rfl) rfl ?_
  refine g_aload_n 17 C 0 dX6_numberBelow_16 rfl rfl ?_
  refine g_get 20 C 0 4 6 iX6_numberBelow_X6 lX6_numberBelow_89 dX6_numberBelow_17 rfl rfl rfl (by decide) rfl ?_
  refine g_ldc2 23 C (2147483647) dX6_numberBelow_20 rfl lX6_numberBelow_97 (by decide) ?_
  refine g_land_r 24 C dX6_numberBelow_23 rfl ?_
  refine g_ldc2 27 C (4096) dX6_numberBelow_24 rfl lX6_numberBelow_99 (by decide) ?_
  refine g_ldiv_r 28 C dX6_numberBelow_27 rfl (by decide) ?_
  refine g_iload_n 29 C 1 dX6_numberBelow_28 rfl rfl ?_
  refine g_i2l 30 C dX6_numberBelow_29 rfl (by omega) ?_
  refine g_lrem_r 31 C dX6_numberBelow_30 rfl (fun q => by have := (lI_inj (a := k) (b := 0) (by omega) (by omega) (by omega) (by omega)).mp q; omega) ?_
  refine g_l2i_r 32 C dX6_numberBelow_31 rfl ?_
  exact g_iret C hr dX6_numberBelow_32 ⟨congrArg some (congrArg Value.int (iI_of _).symm), rfl⟩
theorem lX6_picture_47 : Cond.fieldLink RX6 47 (TX6 1).1 (TX6 1).2.1 (TX6 1).2.2.1 ∈ wsX6_picture := by decide +kernel
theorem lX6_picture_51 : Cond.fieldLink RX6 51 (TX6 2).1 (TX6 2).2.1 (TX6 2).2.2.1 ∈ wsX6_picture := by decide +kernel
theorem lX6_picture_7 : Cond.fieldLink RX6 7 (TX6 3).1 (TX6 3).2.1 (TX6 3).2.2.1 ∈ wsX6_picture := by decide +kernel
theorem lX6_picture_83 : Cond.fieldLink RX6 83 (TX6 7).1 (TX6 7).2.1 (TX6 7).2.2.1 ∈ wsX6_picture := by decide +kernel
theorem lX6_picture_81 : Cond.constantLong RX6 81 (5) ∈ wsX6_picture := by decide +kernel
theorem iX6_picture_X6 : ∀ w ∈ u_ws RX6 TX6 23, w ∈ wsX6_picture := by decide +kernel
set_option maxHeartbeats 4000000 in
set_option maxRecDepth 100000 in
theorem k_X6_picture (E : gE) (l : Launch) {a_M a_Ma a_Mc a_Mg a_Mh a_Mi a_Ml a_Mp a_Ms a_Mt a_Mu a_Mx a_My : Nat} {Wn Hn : Int} {hs : Int → Int} {mf W h mL mN n tc fd jo tr : Int} {md : Int64} (ha : -2147483648 ≤ Wn ∧ Wn < 2147483648) (hb : -2147483648 ≤ Hn ∧ Hn < 2147483648) : gUpd E l yX6_picture wsX6_picture { frames := 2, cells := 0, slots := 0, locals := 40 } [.ref a_M, .int (iI Wn), .int (iI Hn)] [(a_M, .inr (6, [.int (iI mf), .int (iI W), .int (iI h), .ref a_Mh, .long md, .int (iI mL), .int (iI mN), .int (iI n), .ref a_Mp, .ref a_Mt, .int (iI tc), .int (iI fd), .ref a_Ma, .ref a_Mu, .ref a_Mi, .int (iI jo), .ref a_Mx, .ref a_My, .ref a_Ms, .ref a_Ml, .ref a_Mc, .ref a_Mg, .int (iI tr)])), (a_Mh, aI E 200 hs)] (some (.int (iI (if 1 ≤ Wn ∧ Wn ≤ 5 ∧ 1 ≤ Hn ∧ Hn ≤ 5 then nsd Wn Hn else -2)))) [(a_M, .inr (6, [.int (iI mf), .int (iI (if 1 ≤ Wn ∧ Wn ≤ 5 ∧ 1 ≤ Hn ∧ Hn ≤ 5 then Wn else W)), .int (iI (if 1 ≤ Wn ∧ Wn ≤ 5 ∧ 1 ≤ Hn ∧ Hn ≤ 5 then Hn else h)), .ref a_Mh, .long md, .int (iI mL), .int (iI mN), .int (iI (if 1 ≤ Wn ∧ Wn ≤ 5 ∧ 1 ≤ Hn ∧ Hn ≤ 5 then 0 else n)), .ref a_Mp, .ref a_Mt, .int (iI tc), .int (iI fd), .ref a_Ma, .ref a_Mu, .ref a_Mi, .int (iI (if 1 ≤ Wn ∧ Wn ≤ 5 ∧ 1 ≤ Hn ∧ Hn ≤ 5 then 0 else jo)), .ref a_Mx, .ref a_My, .ref a_Ms, .ref a_Ml, .ref a_Mc, .ref a_Mg, .int (iI tr)])), (a_Mh, aI E 200 (if 1 ≤ Wn ∧ Wn ≤ 5 ∧ 1 ≤ Hn ∧ Hn ≤ 5 then zrI hs 200 else hs))] := by
  refine g_start (cc := cX6_picture) (maxL := 4) (ret := (some .int)) (by decide) rfl (Nat.le_of_ble_eq_true rfl) ?_
  intro p_ e_ s_ m_ args_ below_ meth_ c_ A_ C hr hnm
  refine g_iload_n 1 C 1 dX6_picture_0 rfl rfl ?_
  refine g_i2l 2 C dX6_picture_1 rfl (by omega) ?_
  refine g_lconst 3 C 1 dX6_picture_2 rfl (by decide) ?_
  refine g_ldc2 6 C (5) dX6_picture_3 rfl lX6_picture_81 (by decide) ?_
  refine g_callSF 9 C [] dX6_picture_6 rfl (k_X6_in E l  (by first | assumption | omega) (by first | assumption | omega) (by first | assumption | omega)) (va_cwS 3 C.2.2.2.2.1 gX6_picture_X6_in rfl rfl rfl cdX6_in ⟨Nat.le_of_ble_eq_true rfl, Nat.le_of_ble_eq_true rfl⟩) rfl rfl rfl rfl (Nat.le_of_ble_eq_true rfl) ⟨Nat.le_of_ble_eq_true rfl, Nat.le_of_ble_eq_true rfl⟩ ?_
  refine g_ifb_eq 24 12 C dX6_picture_9 (by decide) rfl ?_ ?_
  · intro h9
    refine g_bipush 26 C dX6_picture_24 rfl (by decide) ?_
    exact g_iret C hr dX6_picture_26 ⟨g_ri (by first | rfl | omega | exact (if_pos (by omega)).symm | exact (if_neg (by omega)).symm), by first | rfl | (have hg : 1 ≤ Wn ∧ Wn ≤ 5 ∧ 1 ≤ Hn ∧ Hn ≤ 5 := (by omega); simp only [if_pos hg]) | (have hg : ¬ (1 ≤ Wn ∧ Wn ≤ 5 ∧ 1 ≤ Hn ∧ Hn ≤ 5) := (by omega); simp only [if_neg hg])⟩
  · intro h9
    refine g_iload_n 13 C 2 dX6_picture_12 rfl rfl ?_
    refine g_i2l 14 C dX6_picture_13 rfl (by omega) ?_
    refine g_lconst 15 C 1 dX6_picture_14 rfl (by decide) ?_
    refine g_ldc2 18 C (5) dX6_picture_15 rfl lX6_picture_81 (by decide) ?_
    refine g_callSF 21 C [] dX6_picture_18 rfl (k_X6_in E l  (by first | assumption | omega) (by first | assumption | omega) (by first | assumption | omega)) (va_cwS 3 C.2.2.2.2.1 gX6_picture_X6_in rfl rfl rfl cdX6_in ⟨Nat.le_of_ble_eq_true rfl, Nat.le_of_ble_eq_true rfl⟩) rfl rfl rfl rfl (Nat.le_of_ble_eq_true rfl) ⟨Nat.le_of_ble_eq_true rfl, Nat.le_of_ble_eq_true rfl⟩ ?_
    refine g_ifb_ne 27 24 C dX6_picture_21 (by decide) rfl ?_ ?_
    · intro h21
      refine g_aload_n 28 C 0 dX6_picture_27 rfl rfl ?_
      refine g_iload_n 29 C 1 dX6_picture_28 rfl rfl ?_
      refine g_put (ws' := [(_, .inr (6, [_, _, _, _, _, _, _, _, _, _, _, _, _, _, _, _, _, _, _, _, _, _, _])), (_, aI _ _ _)]) 32 C 0 1 6 tyX6 tyX6_ok nmX6 iX6_picture_X6 lX6_picture_47 dX6_picture_29 rfl rfl rfl (by decide) rfl rfl rfl (Nat.le_of_ble_eq_true rfl) rfl ?_
      refine g_aload_n 33 C 0 dX6_picture_32 rfl rfl ?_
      refine g_iload_n 34 C 2 dX6_picture_33 rfl rfl ?_
      refine g_put (ws' := [(_, .inr (6, [_, _, _, _, _, _, _, _, _, _, _, _, _, _, _, _, _, _, _, _, _, _, _])), (_, aI _ _ _)]) 37 C 0 2 6 tyX6 tyX6_ok nmX6 iX6_picture_X6 lX6_picture_51 dX6_picture_34 rfl rfl rfl (by decide) rfl rfl rfl (Nat.le_of_ble_eq_true rfl) rfl ?_
      refine g_iconst 38 C dX6_picture_37 rfl ?_
      refine g_istore_n (lv' := [(3, _), (0, _), (1, _), (2, _)]) 39 C dX6_picture_38 rfl rfl (by decide) rfl ?_
      refine g_loop (α := Int) (fun zz => [(a_M, .inr (6, [.int (iI mf), .int (iI Wn), .int (iI Hn), .ref a_Mh, .long md, .int (iI mL), .int (iI mN), .int (iI n), .ref a_Mp, .ref a_Mt, .int (iI tc), .int (iI fd), .ref a_Ma, .ref a_Mu, .ref a_Mi, .int (iI jo), .ref a_Mx, .ref a_My, .ref a_Ms, .ref a_Ml, .ref a_Mc, .ref a_Mg, .int (iI tr)])), (a_Mh, aI E 200 (zrI hs zz))]) (fun zz => [(3, .int (iI zz)), (2, .int (iI Hn)), (1, .int (iI Wn)), (0, .ref a_M)]) (fun zz => 0 ≤ zz ∧ zz ≤ 200) (fun zz => (200 - zz).toNat) (0) (by (try dsimp only); omega) [0, 3, 2, 1] (by rw [zrI_0]) rfl ?_
      rintro k hI ih39
      try dsimp only at hI ih39 ⊢
      obtain ⟨hk0, hk2⟩ := hI
      refine g_iload_n 40 C 0 dX6_picture_39 rfl rfl ?_
      refine g_sipush 43 C dX6_picture_40 rfl (by decide) ?_
      refine g_icmp_ge 59 46 C dX6_picture_43 (by decide) rfl (by omega) ?_ ?_
      · intro h43
        refine g_aload_n 60 C 3 dX6_picture_59 rfl rfl ?_
        refine g_iconst 61 C dX6_picture_60 rfl ?_
        refine g_put (ws' := [(_, .inr (6, [_, _, _, _, _, _, _, _, _, _, _, _, _, _, _, _, _, _, _, _, _, _, _])), (_, aI _ _ _)]) 64 C 0 7 6 tyX6 tyX6_ok nmX6 iX6_picture_X6 lX6_picture_83 dX6_picture_61 rfl rfl rfl (by decide) rfl rfl rfl (Nat.le_of_ble_eq_true rfl) rfl ?_
        refine g_aload_n 65 C 3 dX6_picture_64 rfl rfl ?_
        refine g_callVU (ws' := [(_, .inr (6, [_, _, _, _, _, _, _, _, _, _, _, _, _, _, _, _, _, _, _, _, _, _, _])), (_, aI _ _ _)]) 68 C [0] dX6_picture_65 rfl (k_X6_changed E l  ) (cwV 0 C.2.2.2.2.1 gX6_picture_X6_changed rfl rfl rfl cdX6_changed ⟨Nat.le_of_ble_eq_true rfl, Nat.le_of_ble_eq_true rfl⟩) rfl rfl rfl rfl (Nat.le_of_ble_eq_true rfl) 0 6 rfl rfl rfl ⟨Nat.le_of_ble_eq_true rfl, Nat.le_of_ble_eq_true rfl⟩ rfl rfl ?_
        refine g_aload_n 69 C 3 dX6_picture_68 rfl rfl ?_
        refine g_callVF 72 C [0] dX6_picture_69 rfl (k_X6_sides E l  ) (cwV 0 C.2.2.2.2.1 gX6_picture_X6_sides rfl rfl rfl cdX6_sides ⟨Nat.le_of_ble_eq_true rfl, Nat.le_of_ble_eq_true rfl⟩) rfl rfl rfl rfl (Nat.le_of_ble_eq_true rfl) 0 6 rfl rfl rfl ⟨Nat.le_of_ble_eq_true rfl, Nat.le_of_ble_eq_true rfl⟩ ?_
        exact g_iret C hr dX6_picture_72 ⟨g_ri (by first | rfl | omega | exact (if_pos (by omega)).symm | exact (if_neg (by omega)).symm), by (have hg : 1 ≤ Wn ∧ Wn ≤ 5 ∧ 1 ≤ Hn ∧ Hn ≤ 5 := (by omega)); simp only [if_pos hg, show k = 200 by omega]⟩
      · intro h43
        refine g_aload_n 47 C 3 dX6_picture_46 rfl rfl ?_
        refine g_get 50 C 0 3 6 iX6_picture_X6 lX6_picture_7 dX6_picture_47 rfl rfl rfl (by decide) rfl ?_
        refine g_iload_n 51 C 0 dX6_picture_50 rfl rfl ?_
        refine g_iconst 52 C dX6_picture_51 rfl ?_
        refine g_iastore (ws' := [(_, .inr (6, [_, _, _, _, _, _, _, _, _, _, _, _, _, _, _, _, _, _, _, _, _, _, _])), (_, aI _ _ _)]) 53 C 1 dX6_picture_52 rfl rfl (by omega) rfl ?_
        refine g_iinc (lv' := [(3, _), (2, _), (1, _), (0, _)]) 56 C 0 dX6_picture_53 rfl rfl (by decide) rfl ?_
        refine g_goto 39 C dX6_picture_56 (by decide) ?_
        exact g_w [0, 1, 2, 3] (by (try dsimp only); rw [← zrI_s hs hk0]) rfl (ih39 ((k + 1)) (by (try dsimp only); omega) (by (try dsimp only); omega))
    · intro h21
      refine g_bipush 26 C dX6_picture_24 rfl (by decide) ?_
      exact g_iret C hr dX6_picture_26 ⟨g_ri (by first | rfl | omega | exact (if_pos (by omega)).symm | exact (if_neg (by omega)).symm), by first | rfl | (have hg : 1 ≤ Wn ∧ Wn ≤ 5 ∧ 1 ≤ Hn ∧ Hn ≤ 5 := (by omega); simp only [if_pos hg]) | (have hg : ¬ (1 ≤ Wn ∧ Wn ≤ 5 ∧ 1 ≤ Hn ∧ Hn ≤ 5) := (by omega); simp only [if_neg hg])⟩
theorem cdX6_numberBelow : yX6_numberBelow.cls = RX6 ∧ yX6_numberBelow.cls ≠ "java/lang/invoke/MethodHandle" ∧ yX6_numberBelow.cls ≠ "java/lang/invoke/VarHandle" ∧ (parseMethodDescriptor yX6_numberBelow.desc).map (fun d => d.parameters.length) = some 1 := by decide +kernel
theorem lX6_make_7 : Cond.fieldLink RX6 7 (TX6 3).1 (TX6 3).2.1 (TX6 3).2.2.1 ∈ wsX6_make := by decide +kernel
theorem lX6_make_89 : Cond.fieldLink RX6 89 (TX6 4).1 (TX6 4).2.1 (TX6 4).2.2.1 ∈ wsX6_make := by decide +kernel
theorem iX6_make_X6 : ∀ w ∈ u_ws RX6 TX6 23, w ∈ wsX6_make := by decide +kernel
set_option maxHeartbeats 4000000 in
set_option maxRecDepth 100000 in
theorem k_X6_make (E : gE) (l : Launch) {a_M a_Ma a_Mc a_Mg a_Mh a_Mi a_Ml a_Mp a_Ms a_Mt a_Mu a_Mx a_My : Nat} {sd : Int64} {hs : Int → Int} {mf W h mL mN n tc fd jo tr : Int} {md : Int64} (hB : 1 ≤ W ∧ W ≤ 5 ∧ 1 ≤ h ∧ h ≤ 5) : gUpd E l yX6_make wsX6_make { frames := 2, cells := 0, slots := 0, locals := 40 } [.ref a_M, .long sd] [(a_M, .inr (6, [.int (iI mf), .int (iI W), .int (iI h), .ref a_Mh, .long md, .int (iI mL), .int (iI mN), .int (iI n), .ref a_Mp, .ref a_Mt, .int (iI tc), .int (iI fd), .ref a_Ma, .ref a_Mu, .ref a_Mi, .int (iI jo), .ref a_Mx, .ref a_My, .ref a_Ms, .ref a_Ml, .ref a_Mc, .ref a_Mg, .int (iI tr)])), (a_Mh, aI E 200 hs)] (some (.int (iI 1))) [(a_M, .inr (6, [.int (iI mf), .int (iI W), .int (iI h), .ref a_Mh, .long (dnT sd (nsd W h * 5)), .int (iI mL), .int (iI mN), .int (iI n), .ref a_Mp, .ref a_Mt, .int (iI tc), .int (iI fd), .ref a_Ma, .ref a_Mu, .ref a_Mi, .int (iI 0), .ref a_Mx, .ref a_My, .ref a_Ms, .ref a_Ml, .ref a_Mc, .ref a_Mg, .int (iI tr)])), (a_Mh, aI E 200 (mkI sd hs (nsd W h * 5)))] := by
  refine g_start (cc := cX6_make) (maxL := 4) (ret := (some .int)) (by decide) rfl (Nat.le_of_ble_eq_true rfl) ?_
  intro p_ e_ s_ m_ args_ below_ meth_ c_ A_ C hr hnm
  have hN := nsd_b hB
  refine g_aload_n 1 C 0 dX6_make_0 rfl rfl ?_
  refine g_lload_n 2 C 1 dX6_make_1 rfl rfl ?_
  refine g_put (ws' := [(_, .inr (6, [_, _, _, _, _, _, _, _, _, _, _, _, _, _, _, _, _, _, _, _, _, _, _])), (_, aI _ _ _)]) 5 C 0 4 6 tyX6 tyX6_ok nmX6 iX6_make_X6 lX6_make_89 dX6_make_2 rfl rfl rfl (by decide) rfl rfl rfl (Nat.le_of_ble_eq_true rfl) rfl ?_
  refine g_iconst 6 C dX6_make_5 rfl ?_
  refine g_istore_n (lv' := [(3, _), (0, _), (1, _)]) 7 C dX6_make_6 rfl rfl (by decide) rfl ?_
  refine g_loop (α := Int) (fun zz => [(a_M, .inr (6, [.int (iI mf), .int (iI W), .int (iI h), .ref a_Mh, .long (dnT sd zz), .int (iI mL), .int (iI mN), .int (iI n), .ref a_Mp, .ref a_Mt, .int (iI tc), .int (iI fd), .ref a_Ma, .ref a_Mu, .ref a_Mi, .int (iI jo), .ref a_Mx, .ref a_My, .ref a_Ms, .ref a_Ml, .ref a_Mc, .ref a_Mg, .int (iI tr)])), (a_Mh, aI E 200 (mkI sd hs zz))]) (fun zz => [(3, .int (iI zz)), (1, .long sd), (0, .ref a_M)]) (fun zz => 0 ≤ zz ∧ zz ≤ nsd W h * 5) (fun zz => (nsd W h * 5 - zz).toNat) (0) (by (try dsimp only); omega) [0, 2, 1] (by rw [mkI_0, dnT_0]) rfl ?_
  rintro k hI ih7
  try dsimp only at hI ih7 ⊢
  obtain ⟨hk0, hkn⟩ := hI
  refine g_iload_n 8 C 0 dX6_make_7 rfl rfl ?_
  refine g_iconst 9 C dX6_make_8 rfl ?_
  refine g_aload_n 10 C 2 dX6_make_9 rfl rfl ?_
  refine g_callVF 13 C [0] dX6_make_10 rfl (k_X6_sides E l  ) (cwV 0 C.2.2.2.2.1 gX6_make_X6_sides rfl rfl rfl cdX6_sides ⟨Nat.le_of_ble_eq_true rfl, Nat.le_of_ble_eq_true rfl⟩) rfl rfl rfl rfl (Nat.le_of_ble_eq_true rfl) 0 6 rfl rfl rfl ⟨Nat.le_of_ble_eq_true rfl, Nat.le_of_ble_eq_true rfl⟩ ?_
  refine g_imul 14 C dX6_make_13 rfl ?_
  refine g_icmp_ge 38 17 C dX6_make_14 (by decide) rfl (by omega) ?_ ?_
  · intro h14
    refine g_aload_n 39 C 2 dX6_make_38 rfl rfl ?_
    refine g_callVU (ws' := [(_, .inr (6, [_, _, _, _, _, _, _, _, _, _, _, _, _, _, _, _, _, _, _, _, _, _, _])), (_, aI _ _ _)]) 42 C [0] dX6_make_39 rfl (k_X6_changed E l  ) (cwV 0 C.2.2.2.2.1 gX6_make_X6_changed rfl rfl rfl cdX6_changed ⟨Nat.le_of_ble_eq_true rfl, Nat.le_of_ble_eq_true rfl⟩) rfl rfl rfl rfl (Nat.le_of_ble_eq_true rfl) 0 6 rfl rfl rfl ⟨Nat.le_of_ble_eq_true rfl, Nat.le_of_ble_eq_true rfl⟩ rfl rfl ?_
    refine g_iconst 43 C dX6_make_42 rfl ?_
    exact g_iret C hr dX6_make_43 ⟨g_ri (rfl), by rw [show nsd W h * 5 = k by omega]⟩
  · intro h14
    refine g_aload_n 18 C 2 dX6_make_17 rfl rfl ?_
    refine g_get 21 C 0 3 6 iX6_make_X6 lX6_make_7 dX6_make_18 rfl rfl rfl (by decide) rfl ?_
    refine g_iload_n 22 C 0 dX6_make_21 rfl rfl ?_
    refine g_aload_n 23 C 2 dX6_make_22 rfl rfl ?_
    refine g_bipush 25 C dX6_make_23 rfl (by decide) ?_
    refine g_callVU (ws' := [(_, .inr (6, [_, _, _, _, _, _, _, _, _, _, _, _, _, _, _, _, _, _, _, _, _, _, _])), (_, aI _ _ _)]) 28 C [0] dX6_make_25 rfl (k_X6_numberBelow E l  (by first | assumption | omega)) (cwV 1 C.2.2.2.2.1 gX6_make_X6_numberBelow rfl rfl rfl cdX6_numberBelow ⟨Nat.le_of_ble_eq_true rfl, Nat.le_of_ble_eq_true rfl⟩) rfl rfl rfl rfl (Nat.le_of_ble_eq_true rfl) 0 6 rfl rfl rfl ⟨Nat.le_of_ble_eq_true rfl, Nat.le_of_ble_eq_true rfl⟩ (by simp only [List.map_cons, List.map_nil]) rfl ?_
    refine g_bipush 30 C dX6_make_28 rfl (by decide) ?_
    refine g_isub 31 C dX6_make_30 rfl ?_
    refine g_iastore (ws' := [(_, .inr (6, [_, _, _, _, _, _, _, _, _, _, _, _, _, _, _, _, _, _, _, _, _, _, _])), (_, aI _ _ _)]) 32 C 1 dX6_make_31 rfl rfl (by omega) rfl ?_
    refine g_iinc (lv' := [(3, _), (1, _), (0, _)]) 35 C 0 dX6_make_32 rfl rfl (by decide) rfl ?_
    refine g_goto 7 C dX6_make_35 (by decide) ?_
    exact g_w [0, 1, 2] (by (try dsimp only); rw [← mkI_s sd hs hk0, dnT_s sd hk0]) rfl (ih7 ((k + 1)) (by (try dsimp only); omega) (by (try dsimp only); omega))
theorem lX6_alike_7 : Cond.fieldLink RX6 7 (TX6 3).1 (TX6 3).2.1 (TX6 3).2.2.1 ∈ wsX6_alike := by decide +kernel
theorem iX6_alike_X6 : ∀ w ∈ u_ws RX6 TX6 23, w ∈ wsX6_alike := by decide +kernel
set_option maxHeartbeats 4000000 in
set_option maxRecDepth 100000 in
theorem k_X6_alike (E : gE) (l : Launch) {a_M a_Ma a_Mc a_Mg a_Mh a_Mi a_Ml a_Mp a_Ms a_Mt a_Mu a_Mx a_My : Nat} {z o w : Int} {hs : Int → Int} {mf W h mL mN n tc fd jo tr : Int} {md : Int64} (hB : 1 ≤ W ∧ W ≤ 5 ∧ 1 ≤ h ∧ h ≤ 5) (hh : hB9 hs) (hz : -2147483648 ≤ z ∧ z < 2147483648) (ho : -2147483648 ≤ o ∧ o < 2147483648) (hw : -2147483648 ≤ w ∧ w < 2147483648) : gUpd E l yX6_alike wsX6_alike { frames := 3, cells := 0, slots := 0, locals := 61 } [.ref a_M, .int (iI z), .int (iI o), .int (iI w)] [(a_M, .inr (6, [.int (iI mf), .int (iI W), .int (iI h), .ref a_Mh, .long md, .int (iI mL), .int (iI mN), .int (iI n), .ref a_Mp, .ref a_Mt, .int (iI tc), .int (iI fd), .ref a_Ma, .ref a_Mu, .ref a_Mi, .int (iI jo), .ref a_Mx, .ref a_My, .ref a_Ms, .ref a_Ml, .ref a_Mc, .ref a_Mg, .int (iI tr)])), (a_Mh, aI E 200 hs)] (some (.int (iI (if ¬ ((0 ≤ z ∧ z < nsd W h) ∧ 0 ≤ o ∧ o < nsd W h) then -1 else if ¬ (w = 0 ∨ w = 1) then -2 else if z = o then -3 else dfI hs z o w)))) [(a_M, .inr (6, [.int (iI mf), .int (iI W), .int (iI h), .ref a_Mh, .long md, .int (iI mL), .int (iI mN), .int (iI n), .ref a_Mp, .ref a_Mt, .int (iI tc), .int (iI fd), .ref a_Ma, .ref a_Mu, .ref a_Mi, .int (iI (if (0 ≤ z ∧ z < nsd W h) ∧ (0 ≤ o ∧ o < nsd W h) ∧ (w = 0 ∨ w = 1) ∧ z ≠ o then 0 else jo)), .ref a_Mx, .ref a_My, .ref a_Ms, .ref a_Ml, .ref a_Mc, .ref a_Mg, .int (iI tr)])), (a_Mh, aI E 200 (if (0 ≤ z ∧ z < nsd W h) ∧ (0 ≤ o ∧ o < nsd W h) ∧ (w = 0 ∨ w = 1) ∧ z ≠ o then gvI hs z o w 5 else hs))] := by
  refine g_start (cc := cX6_alike) (maxL := 7) (ret := (some .int)) (by decide) rfl (Nat.le_of_ble_eq_true rfl) ?_
  intro p_ e_ s_ m_ args_ below_ meth_ c_ A_ C hr hnm
  have hN := nsd_b hB
  refine g_aload_n 1 C 0 dX6_alike_0 rfl rfl ?_
  refine g_iload_n 2 C 1 dX6_alike_1 rfl rfl ?_
  refine g_callVF 5 C [0] dX6_alike_2 rfl (k_X6_noSide E l  (by first | assumption | omega) (by first | assumption | omega)) (cwV 1 C.2.2.2.2.1 gX6_alike_X6_noSide rfl rfl rfl cdX6_noSide ⟨Nat.le_of_ble_eq_true rfl, Nat.le_of_ble_eq_true rfl⟩) rfl rfl rfl rfl (Nat.le_of_ble_eq_true rfl) 0 6 rfl rfl rfl ⟨Nat.le_of_ble_eq_true rfl, Nat.le_of_ble_eq_true rfl⟩ ?_
  refine g_ifb_ne 16 8 C dX6_alike_5 (by decide) rfl ?_ ?_
  · intro h5
    refine g_iconst 17 C dX6_alike_16 rfl ?_
    exact g_iret C hr dX6_alike_17 ⟨g_ri (by (repeat' split) <;> first | rfl | omega), by first | rfl | (have hg : (0 ≤ z ∧ z < nsd W h) ∧ (0 ≤ o ∧ o < nsd W h) ∧ (w = 0 ∨ w = 1) ∧ z ≠ o := (by omega); simp only [if_pos hg]) | (have hg : ¬ ((0 ≤ z ∧ z < nsd W h) ∧ (0 ≤ o ∧ o < nsd W h) ∧ (w = 0 ∨ w = 1) ∧ z ≠ o) := (by omega); simp only [if_neg hg])⟩
  · intro h5
    refine g_aload_n 9 C 0 dX6_alike_8 rfl rfl ?_
    refine g_iload_n 10 C 2 dX6_alike_9 rfl rfl ?_
    refine g_callVF 13 C [0] dX6_alike_10 rfl (k_X6_noSide E l  (by first | assumption | omega) (by first | assumption | omega)) (cwV 1 C.2.2.2.2.1 gX6_alike_X6_noSide rfl rfl rfl cdX6_noSide ⟨Nat.le_of_ble_eq_true rfl, Nat.le_of_ble_eq_true rfl⟩) rfl rfl rfl rfl (Nat.le_of_ble_eq_true rfl) 0 6 rfl rfl rfl ⟨Nat.le_of_ble_eq_true rfl, Nat.le_of_ble_eq_true rfl⟩ ?_
    refine g_ifb_eq 18 16 C dX6_alike_13 (by decide) rfl ?_ ?_
    · intro h13
      refine g_iload_n 19 C 3 dX6_alike_18 rfl rfl ?_
      refine g_i2l 20 C dX6_alike_19 rfl (by omega) ?_
      refine g_lconst 21 C 0 dX6_alike_20 rfl (by decide) ?_
      refine g_lconst 22 C 1 dX6_alike_21 rfl (by decide) ?_
      refine g_callSF 25 C [] dX6_alike_22 rfl (k_X6_in E l  (by first | assumption | omega) (by first | assumption | omega) (by first | assumption | omega)) (va_cwS 3 C.2.2.2.2.1 gX6_alike_X6_in rfl rfl rfl cdX6_in ⟨Nat.le_of_ble_eq_true rfl, Nat.le_of_ble_eq_true rfl⟩) rfl rfl rfl rfl (Nat.le_of_ble_eq_true rfl) ⟨Nat.le_of_ble_eq_true rfl, Nat.le_of_ble_eq_true rfl⟩ ?_
      refine g_ifb_ne 31 28 C dX6_alike_25 (by decide) rfl ?_ ?_
      · intro h25
        refine g_iload_n 32 C 1 dX6_alike_31 rfl rfl ?_
        refine g_iload_n 33 C 2 dX6_alike_32 rfl rfl ?_
        refine g_icmp_ne 39 36 C dX6_alike_33 (by decide) rfl (by omega) ?_ ?_
        · intro h33
          refine g_iconst 40 C dX6_alike_39 rfl ?_
          refine g_istore (lv' := [(4, _), (0, _), (1, _), (2, _), (3, _)]) 42 C dX6_alike_40 rfl (by decide) rfl ?_
          refine g_iconst 43 C dX6_alike_42 rfl ?_
          refine g_istore (lv' := [(5, _), (4, _), (0, _), (1, _), (2, _), (3, _)]) 45 C dX6_alike_43 rfl (by decide) rfl ?_
          refine g_loop (α := Int × Int) (fun zz => [(a_M, .inr (6, [.int (iI mf), .int (iI W), .int (iI h), .ref a_Mh, .long md, .int (iI mL), .int (iI mN), .int (iI n), .ref a_Mp, .ref a_Mt, .int (iI tc), .int (iI fd), .ref a_Ma, .ref a_Mu, .ref a_Mi, .int (iI jo), .ref a_Mx, .ref a_My, .ref a_Ms, .ref a_Ml, .ref a_Mc, .ref a_Mg, .int (iI tr)])), (a_Mh, aI E 200 (gvI hs z o w zz.2))]) (fun zz => [(4, .int (iI zz.1)), (5, .int (iI zz.2)), (3, .int (iI w)), (2, .int (iI o)), (1, .int (iI z)), (0, .ref a_M)]) (fun zz => (0 ≤ zz.2 ∧ zz.2 ≤ 5) ∧ zz.1 = cnI (fun j => htI hs z j 0 ≠ htI hs o j w) zz.2) (fun zz => (5 - zz.2).toNat) (0, 0) (by
            try dsimp only
            exact ⟨by omega, rfl⟩) [1, 0, 5, 4, 3, 2] (by rw [gvI_0]) rfl ?_
          rintro ⟨c, i⟩ hI ih45
          try dsimp only at hI ih45 ⊢
          obtain ⟨hI5, rfl⟩ := hI
          refine g_iload 47 C 1 dX6_alike_45 rfl rfl ?_
          refine g_iconst 48 C dX6_alike_47 rfl ?_
          refine g_icmp_ge 130 51 C dX6_alike_48 (by decide) rfl (by omega) ?_ ?_
          · intro h48
            refine g_aload_n 131 C 5 dX6_alike_130 rfl rfl ?_
            refine g_callVU (ws' := [(_, .inr (6, [_, _, _, _, _, _, _, _, _, _, _, _, _, _, _, _, _, _, _, _, _, _, _])), (_, aI _ _ _)]) 134 C [0] dX6_alike_131 rfl (k_X6_changed E l  ) (cwV 0 C.2.2.2.2.1 gX6_alike_X6_changed rfl rfl rfl cdX6_changed ⟨Nat.le_of_ble_eq_true rfl, Nat.le_of_ble_eq_true rfl⟩) rfl rfl rfl rfl (Nat.le_of_ble_eq_true rfl) 0 6 rfl rfl rfl ⟨Nat.le_of_ble_eq_true rfl, Nat.le_of_ble_eq_true rfl⟩ rfl rfl ?_
            refine g_iload 136 C 0 dX6_alike_134 rfl rfl ?_
            exact g_iret C hr dX6_alike_136 ⟨g_ri (by (repeat' split) <;> first | omega | (rw [show i = 5 by omega]; rfl)), by (have hg : (0 ≤ z ∧ z < nsd W h) ∧ (0 ≤ o ∧ o < nsd W h) ∧ (w = 0 ∨ w = 1) ∧ z ≠ o := (by omega)); simp only [if_pos hg, show i = 5 by omega]⟩
          · intro h48
            have hi : 0 ≤ i ∧ i < 5 := by omega
            refine g_joinv 83 0 (htI hs o i w) ?_ ?_
            · skip
              refine g_istore (lv' := [(6, _), (4, _), (5, _), (3, _), (2, _), (1, _), (0, _)]) 85 C dX6_alike_83 rfl (by decide) rfl ?_
              refine g_iload 87 C 1 dX6_alike_85 rfl rfl ?_
              refine g_aload_n 88 C 6 dX6_alike_87 rfl rfl ?_
              refine g_get 91 C 0 3 6 iX6_alike_X6 lX6_alike_7 dX6_alike_88 rfl rfl rfl (by decide) rfl ?_
              refine g_iconst 92 C dX6_alike_91 rfl ?_
              refine g_iload_n 93 C 5 dX6_alike_92 rfl rfl ?_
              refine g_imul 94 C dX6_alike_93 rfl ?_
              refine g_iload 96 C 2 dX6_alike_94 rfl rfl ?_
              refine g_iadd 97 C dX6_alike_96 rfl ?_
              refine g_iaload 98 C 1 dX6_alike_97 rfl rfl (by omega) ?_
              refine g_iload 100 C 0 dX6_alike_98 rfl rfl ?_
              refine g_icmp_eq 107 103 C dX6_alike_100 (by decide) rfl (by have e1 := gv_z (hs := hs) (a := z) (b := o) (w := w) (i := i) hi; have e2 := htI_b hh z i 0; have e3 := htI_b hh o i w; omega) ?_ ?_
              · intro h100
                refine g_iconst 108 C dX6_alike_107 rfl ?_
                refine g_iadd 109 C dX6_alike_108 rfl ?_
                refine g_istore (lv' := [(4, _), (6, _), (5, _), (3, _), (2, _), (1, _), (0, _)]) 111 C dX6_alike_109 rfl (by decide) rfl ?_
                refine g_aload_n 112 C 6 dX6_alike_111 rfl rfl ?_
                refine g_get 115 C 0 3 6 iX6_alike_X6 lX6_alike_7 dX6_alike_112 rfl rfl rfl (by decide) rfl ?_
                refine g_iconst 116 C dX6_alike_115 rfl ?_
                refine g_iload_n 117 C 5 dX6_alike_116 rfl rfl ?_
                refine g_imul 118 C dX6_alike_117 rfl ?_
                refine g_iload 120 C 2 dX6_alike_118 rfl rfl ?_
                refine g_iadd 121 C dX6_alike_120 rfl ?_
                refine g_iload 123 C 1 dX6_alike_121 rfl rfl ?_
                refine g_iastore (ws' := [(_, .inr (6, [_, _, _, _, _, _, _, _, _, _, _, _, _, _, _, _, _, _, _, _, _, _, _])), (_, aI _ _ _)]) 124 C 1 dX6_alike_123 rfl rfl (by omega) rfl ?_
                refine g_iinc (lv' := [(5, _), (4, _), (6, _), (3, _), (2, _), (1, _), (0, _)]) 127 C 2 dX6_alike_124 rfl rfl (by decide) rfl ?_
                refine g_goto 45 C dX6_alike_127 (by decide) ?_
                first
                | exact g_w [1, 0, 3, 4, 5, 6] (by (try dsimp only); rw [gv_s hi]) rfl (ih45 ((cnI (fun j => htI hs z j 0 ≠ htI hs o j w) i + 0), (i + 1)) (by
            try dsimp only
            exact ⟨by omega, by
              have e1 := gv_z (hs := hs) (a := z) (b := o) (w := w) (i := i) hi
              first | exact (cnI_st (fun j => htI hs z j 0 ≠ htI hs o j w) hI5.1 (by omega)).symm | exact (Int.add_zero _).trans (cnI_sf (fun j => htI hs z j 0 ≠ htI hs o j w) hI5.1 (by omega)).symm⟩) (by (try dsimp only); omega))
                | exact g_w [1, 0, 3, 4, 5, 6] (by (try dsimp only); rw [gv_s hi]) rfl (ih45 ((cnI (fun j => htI hs z j 0 ≠ htI hs o j w) i + 1), (i + 1)) (by
            try dsimp only
            exact ⟨by omega, by
              have e1 := gv_z (hs := hs) (a := z) (b := o) (w := w) (i := i) hi
              first | exact (cnI_st (fun j => htI hs z j 0 ≠ htI hs o j w) hI5.1 (by omega)).symm | exact (Int.add_zero _).trans (cnI_sf (fun j => htI hs z j 0 ≠ htI hs o j w) hI5.1 (by omega)).symm⟩) (by (try dsimp only); omega))
              · intro h100
                refine g_iconst 104 C dX6_alike_103 rfl ?_
                refine g_goto 108 C dX6_alike_104 (by decide) ?_
                refine g_iadd 109 C dX6_alike_108 rfl ?_
                refine g_istore (lv' := [(4, _), (6, _), (5, _), (3, _), (2, _), (1, _), (0, _)]) 111 C dX6_alike_109 rfl (by decide) rfl ?_
                refine g_aload_n 112 C 6 dX6_alike_111 rfl rfl ?_
                refine g_get 115 C 0 3 6 iX6_alike_X6 lX6_alike_7 dX6_alike_112 rfl rfl rfl (by decide) rfl ?_
                refine g_iconst 116 C dX6_alike_115 rfl ?_
                refine g_iload_n 117 C 5 dX6_alike_116 rfl rfl ?_
                refine g_imul 118 C dX6_alike_117 rfl ?_
                refine g_iload 120 C 2 dX6_alike_118 rfl rfl ?_
                refine g_iadd 121 C dX6_alike_120 rfl ?_
                refine g_iload 123 C 1 dX6_alike_121 rfl rfl ?_
                refine g_iastore (ws' := [(_, .inr (6, [_, _, _, _, _, _, _, _, _, _, _, _, _, _, _, _, _, _, _, _, _, _, _])), (_, aI _ _ _)]) 124 C 1 dX6_alike_123 rfl rfl (by omega) rfl ?_
                refine g_iinc (lv' := [(5, _), (4, _), (6, _), (3, _), (2, _), (1, _), (0, _)]) 127 C 2 dX6_alike_124 rfl rfl (by decide) rfl ?_
                refine g_goto 45 C dX6_alike_127 (by decide) ?_
                first
                | exact g_w [1, 0, 3, 4, 5, 6] (by (try dsimp only); rw [gv_s hi]) rfl (ih45 ((cnI (fun j => htI hs z j 0 ≠ htI hs o j w) i + 0), (i + 1)) (by
            try dsimp only
            exact ⟨by omega, by
              have e1 := gv_z (hs := hs) (a := z) (b := o) (w := w) (i := i) hi
              first | exact (cnI_st (fun j => htI hs z j 0 ≠ htI hs o j w) hI5.1 (by omega)).symm | exact (Int.add_zero _).trans (cnI_sf (fun j => htI hs z j 0 ≠ htI hs o j w) hI5.1 (by omega)).symm⟩) (by (try dsimp only); omega))
                | exact g_w [1, 0, 3, 4, 5, 6] (by (try dsimp only); rw [gv_s hi]) rfl (ih45 ((cnI (fun j => htI hs z j 0 ≠ htI hs o j w) i + 1), (i + 1)) (by
            try dsimp only
            exact ⟨by omega, by
              have e1 := gv_z (hs := hs) (a := z) (b := o) (w := w) (i := i) hi
              first | exact (cnI_st (fun j => htI hs z j 0 ≠ htI hs o j w) hI5.1 (by omega)).symm | exact (Int.add_zero _).trans (cnI_sf (fun j => htI hs z j 0 ≠ htI hs o j w) hI5.1 (by omega)).symm⟩) (by (try dsimp only); omega))
            · intro kj
              have hi : 0 ≤ i ∧ i < 5 := by omega
              refine g_iload_n 52 C 2 dX6_alike_51 rfl rfl ?_
              refine g_if_ne 69 55 C dX6_alike_52 (by decide) rfl (by omega) ?_ ?_
              · intro h52
                refine g_aload_n 70 C 5 dX6_alike_69 rfl rfl ?_
                refine g_get 73 C 0 3 6 iX6_alike_X6 lX6_alike_7 dX6_alike_70 rfl rfl rfl (by decide) rfl ?_
                refine g_iconst 74 C dX6_alike_73 rfl ?_
                refine g_iload_n 75 C 3 dX6_alike_74 rfl rfl ?_
                refine g_imul 76 C dX6_alike_75 rfl ?_
                refine g_iconst 77 C dX6_alike_76 rfl ?_
                refine g_iadd 78 C dX6_alike_77 rfl ?_
                refine g_iload 80 C 1 dX6_alike_78 rfl rfl ?_
                refine g_isub 81 C dX6_alike_80 rfl ?_
                refine g_iaload 82 C 1 dX6_alike_81 rfl rfl (by omega) ?_
                refine g_ineg 83 C dX6_alike_82 rfl ?_
                exact kj _ (by first | exact gv_o0 h33 (by omega) (by omega) | exact gv_o1 h33 (by omega) (by omega))
              · intro h52
                refine g_aload_n 56 C 5 dX6_alike_55 rfl rfl ?_
                refine g_get 59 C 0 3 6 iX6_alike_X6 lX6_alike_7 dX6_alike_56 rfl rfl rfl (by decide) rfl ?_
                refine g_iconst 60 C dX6_alike_59 rfl ?_
                refine g_iload_n 61 C 3 dX6_alike_60 rfl rfl ?_
                refine g_imul 62 C dX6_alike_61 rfl ?_
                refine g_iload 64 C 1 dX6_alike_62 rfl rfl ?_
                refine g_iadd 65 C dX6_alike_64 rfl ?_
                refine g_iaload 66 C 1 dX6_alike_65 rfl rfl (by omega) ?_
                refine g_goto 83 C dX6_alike_66 (by decide) ?_
                exact kj _ (by first | exact gv_o0 h33 (by omega) (by omega) | exact gv_o1 h33 (by omega) (by omega))
        · intro h33
          refine g_bipush 38 C dX6_alike_36 rfl (by decide) ?_
          exact g_iret C hr dX6_alike_38 ⟨g_ri (by (repeat' split) <;> first | rfl | omega), by first | rfl | (have hg : (0 ≤ z ∧ z < nsd W h) ∧ (0 ≤ o ∧ o < nsd W h) ∧ (w = 0 ∨ w = 1) ∧ z ≠ o := (by omega); simp only [if_pos hg]) | (have hg : ¬ ((0 ≤ z ∧ z < nsd W h) ∧ (0 ≤ o ∧ o < nsd W h) ∧ (w = 0 ∨ w = 1) ∧ z ≠ o) := (by omega); simp only [if_neg hg])⟩
      · intro h25
        refine g_bipush 30 C dX6_alike_28 rfl (by decide) ?_
        exact g_iret C hr dX6_alike_30 ⟨g_ri (by (repeat' split) <;> first | rfl | omega), by first | rfl | (have hg : (0 ≤ z ∧ z < nsd W h) ∧ (0 ≤ o ∧ o < nsd W h) ∧ (w = 0 ∨ w = 1) ∧ z ≠ o := (by omega); simp only [if_pos hg]) | (have hg : ¬ ((0 ≤ z ∧ z < nsd W h) ∧ (0 ≤ o ∧ o < nsd W h) ∧ (w = 0 ∨ w = 1) ∧ z ≠ o) := (by omega); simp only [if_neg hg])⟩
    · intro h13
      refine g_iconst 17 C dX6_alike_16 rfl ?_
      exact g_iret C hr dX6_alike_17 ⟨g_ri (by (repeat' split) <;> first | rfl | omega), by first | rfl | (have hg : (0 ≤ z ∧ z < nsd W h) ∧ (0 ≤ o ∧ o < nsd W h) ∧ (w = 0 ∨ w = 1) ∧ z ≠ o := (by omega); simp only [if_pos hg]) | (have hg : ¬ ((0 ≤ z ∧ z < nsd W h) ∧ (0 ≤ o ∧ o < nsd W h) ∧ (w = 0 ∨ w = 1) ∧ z ≠ o) := (by omega); simp only [if_neg hg])⟩
theorem lX6_lay_13 : Cond.fieldLink RX6 13 (TX6 8).1 (TX6 8).2.1 (TX6 8).2.2.1 ∈ wsX6_lay := by decide +kernel
theorem lX6_lay_16 : Cond.fieldLink RX6 16 (TX6 9).1 (TX6 9).2.1 (TX6 9).2.2.1 ∈ wsX6_lay := by decide +kernel
theorem lX6_lay_83 : Cond.fieldLink RX6 83 (TX6 7).1 (TX6 7).2.1 (TX6 7).2.2.1 ∈ wsX6_lay := by decide +kernel
theorem lX6_lay_118 : Cond.constantLong RX6 118 (3) ∈ wsX6_lay := by decide +kernel
theorem iX6_lay_X6 : ∀ w ∈ u_ws RX6 TX6 23, w ∈ wsX6_lay := by decide +kernel
set_option maxHeartbeats 4000000 in
set_option maxRecDepth 100000 in
theorem k_X6_lay (E : gE) (l : Launch) {a_M a_Ma a_Mc a_Mg a_Mh a_Mi a_Ml a_Mp a_Ms a_Mt a_Mu a_Mx a_My : Nat} {p t : Int} {pc tn : Int → Int} {mf W h mL mN n tc fd jo tr : Int} {md : Int64} (hB : 1 ≤ W ∧ W ≤ 5 ∧ 1 ≤ h ∧ h ≤ 5) (hn : 0 ≤ n ∧ n ≤ 25) (hp : -2147483648 ≤ p ∧ p < 2147483648) (ht : -2147483648 ≤ t ∧ t < 2147483648) : gUpd E l yX6_lay wsX6_lay { frames := 2, cells := 0, slots := 0, locals := 46 } [.ref a_M, .int (iI p), .int (iI t)] [(a_M, .inr (6, [.int (iI mf), .int (iI W), .int (iI h), .ref a_Mh, .long md, .int (iI mL), .int (iI mN), .int (iI n), .ref a_Mp, .ref a_Mt, .int (iI tc), .int (iI fd), .ref a_Ma, .ref a_Mu, .ref a_Mi, .int (iI jo), .ref a_Mx, .ref a_My, .ref a_Ms, .ref a_Ml, .ref a_Mc, .ref a_Mg, .int (iI tr)])), (a_Mp, aI E 25 pc), (a_Mt, aI E 25 tn)] (some (.int (iI (if ¬ (0 ≤ p ∧ p < W * h) then -1 else if ¬ (0 ≤ t ∧ t < 4) then -2 else if 25 ≤ n then -4 else n + 1)))) [(a_M, .inr (6, [.int (iI mf), .int (iI W), .int (iI h), .ref a_Mh, .long md, .int (iI mL), .int (iI mN), .int (iI (if (0 ≤ p ∧ p < W * h) ∧ (0 ≤ t ∧ t < 4) ∧ n < 25 then n + 1 else n)), .ref a_Mp, .ref a_Mt, .int (iI tc), .int (iI fd), .ref a_Ma, .ref a_Mu, .ref a_Mi, .int (iI (if (0 ≤ p ∧ p < W * h) ∧ (0 ≤ t ∧ t < 4) ∧ n < 25 then 0 else jo)), .ref a_Mx, .ref a_My, .ref a_Ms, .ref a_Ml, .ref a_Mc, .ref a_Mg, .int (iI tr)])), (a_Mp, aI E 25 (if (0 ≤ p ∧ p < W * h) ∧ (0 ≤ t ∧ t < 4) ∧ n < 25 then uI pc n p else pc)), (a_Mt, aI E 25 (if (0 ≤ p ∧ p < W * h) ∧ (0 ≤ t ∧ t < 4) ∧ n < 25 then uI tn n t else tn))] := by
  refine g_start (cc := cX6_lay) (maxL := 3) (ret := (some .int)) (by decide) rfl (Nat.le_of_ble_eq_true rfl) ?_
  intro p_ e_ s_ m_ args_ below_ meth_ c_ A_ C hr hnm
  have hN := nsd_b hB
  refine g_aload_n 1 C 0 dX6_lay_0 rfl rfl ?_
  refine g_iload_n 2 C 1 dX6_lay_1 rfl rfl ?_
  refine g_callVF 5 C [0] dX6_lay_2 rfl (k_X6_noPiece E l  (by first | assumption | omega) (by first | assumption | omega)) (cwV 1 C.2.2.2.2.1 gX6_lay_X6_noPiece rfl rfl rfl cdX6_noPiece ⟨Nat.le_of_ble_eq_true rfl, Nat.le_of_ble_eq_true rfl⟩) rfl rfl rfl rfl (Nat.le_of_ble_eq_true rfl) 0 6 rfl rfl rfl ⟨Nat.le_of_ble_eq_true rfl, Nat.le_of_ble_eq_true rfl⟩ ?_
  refine g_ifb_eq 10 8 C dX6_lay_5 (by decide) rfl ?_ ?_
  · intro h5
    refine g_iload_n 11 C 2 dX6_lay_10 rfl rfl ?_
    refine g_i2l 12 C dX6_lay_11 rfl (by omega) ?_
    refine g_lconst 13 C 0 dX6_lay_12 rfl (by decide) ?_
    refine g_ldc2 16 C (3) dX6_lay_13 rfl lX6_lay_118 (by decide) ?_
    refine g_callSF 19 C [] dX6_lay_16 rfl (k_X6_in E l  (by first | assumption | omega) (by first | assumption | omega) (by first | assumption | omega)) (va_cwS 3 C.2.2.2.2.1 gX6_lay_X6_in rfl rfl rfl cdX6_in ⟨Nat.le_of_ble_eq_true rfl, Nat.le_of_ble_eq_true rfl⟩) rfl rfl rfl rfl (Nat.le_of_ble_eq_true rfl) ⟨Nat.le_of_ble_eq_true rfl, Nat.le_of_ble_eq_true rfl⟩ ?_
    refine g_ifb_ne 25 22 C dX6_lay_19 (by decide) rfl ?_ ?_
    · intro h19
      refine g_aload_n 26 C 0 dX6_lay_25 rfl rfl ?_
      refine g_get 29 C 0 7 6 iX6_lay_X6 lX6_lay_83 dX6_lay_26 rfl rfl rfl (by decide) rfl ?_
      refine g_bipush 31 C dX6_lay_29 rfl (by decide) ?_
      refine g_icmp_ne 37 34 C dX6_lay_31 (by decide) rfl (by omega) ?_ ?_
      · intro h31
        refine g_aload_n 38 C 0 dX6_lay_37 rfl rfl ?_
        refine g_get 41 C 0 8 6 iX6_lay_X6 lX6_lay_13 dX6_lay_38 rfl rfl rfl (by decide) rfl ?_
        refine g_aload_n 42 C 0 dX6_lay_41 rfl rfl ?_
        refine g_get 45 C 0 7 6 iX6_lay_X6 lX6_lay_83 dX6_lay_42 rfl rfl rfl (by decide) rfl ?_
        refine g_iload_n 46 C 1 dX6_lay_45 rfl rfl ?_
        refine g_iastore (ws' := [(_, .inr (6, [_, _, _, _, _, _, _, _, _, _, _, _, _, _, _, _, _, _, _, _, _, _, _])), (_, aI _ _ _), (_, aI _ _ _)]) 47 C 1 dX6_lay_46 rfl rfl (by omega) rfl ?_
        refine g_aload_n 48 C 0 dX6_lay_47 rfl rfl ?_
        refine g_get 51 C 0 9 6 iX6_lay_X6 lX6_lay_16 dX6_lay_48 rfl rfl rfl (by decide) rfl ?_
        refine g_aload_n 52 C 0 dX6_lay_51 rfl rfl ?_
        refine g_get 55 C 0 7 6 iX6_lay_X6 lX6_lay_83 dX6_lay_52 rfl rfl rfl (by decide) rfl ?_
        refine g_iload_n 56 C 2 dX6_lay_55 rfl rfl ?_
        refine g_iastore (ws' := [(_, .inr (6, [_, _, _, _, _, _, _, _, _, _, _, _, _, _, _, _, _, _, _, _, _, _, _])), (_, aI _ _ _), (_, aI _ _ _)]) 57 C 2 dX6_lay_56 rfl rfl (by omega) rfl ?_
        refine g_aload_n 58 C 0 dX6_lay_57 rfl rfl ?_
        refine g_dup 59 C dX6_lay_58 rfl rfl ?_
        refine g_get 62 C 0 7 6 iX6_lay_X6 lX6_lay_83 dX6_lay_59 rfl rfl rfl (by decide) rfl ?_
        refine g_iconst 63 C dX6_lay_62 rfl ?_
        refine g_iadd 64 C dX6_lay_63 rfl ?_
        refine g_put (ws' := [(_, .inr (6, [_, _, _, _, _, _, _, _, _, _, _, _, _, _, _, _, _, _, _, _, _, _, _])), (_, aI _ _ _), (_, aI _ _ _)]) 67 C 0 7 6 tyX6 tyX6_ok nmX6 iX6_lay_X6 lX6_lay_83 dX6_lay_64 rfl rfl rfl (by decide) rfl rfl rfl (Nat.le_of_ble_eq_true rfl) rfl ?_
        refine g_aload_n 68 C 0 dX6_lay_67 rfl rfl ?_
        refine g_callVU (ws' := [(_, .inr (6, [_, _, _, _, _, _, _, _, _, _, _, _, _, _, _, _, _, _, _, _, _, _, _])), (_, aI _ _ _), (_, aI _ _ _)]) 71 C [0] dX6_lay_68 rfl (k_X6_changed E l  ) (cwV 0 C.2.2.2.2.1 gX6_lay_X6_changed rfl rfl rfl cdX6_changed ⟨Nat.le_of_ble_eq_true rfl, Nat.le_of_ble_eq_true rfl⟩) rfl rfl rfl rfl (Nat.le_of_ble_eq_true rfl) 0 6 rfl rfl rfl ⟨Nat.le_of_ble_eq_true rfl, Nat.le_of_ble_eq_true rfl⟩ rfl rfl ?_
        refine g_aload_n 72 C 0 dX6_lay_71 rfl rfl ?_
        refine g_get 75 C 0 7 6 iX6_lay_X6 lX6_lay_83 dX6_lay_72 rfl rfl rfl (by decide) rfl ?_
        exact g_iret C hr dX6_lay_75 ⟨g_ri (by (repeat' split) <;> first | rfl | omega), by first | rfl | (have hg : (0 ≤ p ∧ p < W * h) ∧ (0 ≤ t ∧ t < 4) ∧ n < 25 := (by omega); simp only [if_pos hg]) | (have hg : ¬ ((0 ≤ p ∧ p < W * h) ∧ (0 ≤ t ∧ t < 4) ∧ n < 25) := (by omega); simp only [if_neg hg])⟩
      · intro h31
        refine g_bipush 36 C dX6_lay_34 rfl (by decide) ?_
        exact g_iret C hr dX6_lay_36 ⟨g_ri (by (repeat' split) <;> first | rfl | omega), by first | rfl | (have hg : (0 ≤ p ∧ p < W * h) ∧ (0 ≤ t ∧ t < 4) ∧ n < 25 := (by omega); simp only [if_pos hg]) | (have hg : ¬ ((0 ≤ p ∧ p < W * h) ∧ (0 ≤ t ∧ t < 4) ∧ n < 25) := (by omega); simp only [if_neg hg])⟩
    · intro h19
      refine g_bipush 24 C dX6_lay_22 rfl (by decide) ?_
      exact g_iret C hr dX6_lay_24 ⟨g_ri (by (repeat' split) <;> first | rfl | omega), by first | rfl | (have hg : (0 ≤ p ∧ p < W * h) ∧ (0 ≤ t ∧ t < 4) ∧ n < 25 := (by omega); simp only [if_pos hg]) | (have hg : ¬ ((0 ≤ p ∧ p < W * h) ∧ (0 ≤ t ∧ t < 4) ∧ n < 25) := (by omega); simp only [if_neg hg])⟩
  · intro h5
    refine g_iconst 9 C dX6_lay_8 rfl ?_
    exact g_iret C hr dX6_lay_9 ⟨g_ri (by (repeat' split) <;> first | rfl | omega), by first | rfl | (have hg : (0 ≤ p ∧ p < W * h) ∧ (0 ≤ t ∧ t < 4) ∧ n < 25 := (by omega); simp only [if_pos hg]) | (have hg : ¬ ((0 ≤ p ∧ p < W * h) ∧ (0 ≤ t ∧ t < 4) ∧ n < 25) := (by omega); simp only [if_neg hg])⟩
theorem lX6_heap_13 : Cond.fieldLink RX6 13 (TX6 8).1 (TX6 8).2.1 (TX6 8).2.2.1 ∈ wsX6_heap := by decide +kernel
theorem lX6_heap_16 : Cond.fieldLink RX6 16 (TX6 9).1 (TX6 9).2.1 (TX6 9).2.2.1 ∈ wsX6_heap := by decide +kernel
theorem lX6_heap_83 : Cond.fieldLink RX6 83 (TX6 7).1 (TX6 7).2.1 (TX6 7).2.2.1 ∈ wsX6_heap := by decide +kernel
theorem lX6_heap_89 : Cond.fieldLink RX6 89 (TX6 4).1 (TX6 4).2.1 (TX6 4).2.2.1 ∈ wsX6_heap := by decide +kernel
theorem iX6_heap_X6 : ∀ w ∈ u_ws RX6 TX6 23, w ∈ wsX6_heap := by decide +kernel
set_option maxHeartbeats 4000000 in
set_option maxRecDepth 100000 in
theorem k_X6_heap (E : gE) (l : Launch) {a_M a_Ma a_Mc a_Mg a_Mh a_Mi a_Ml a_Mp a_Ms a_Mt a_Mu a_Mx a_My : Nat} {sd : Int64} {pc tn : Int → Int} {mf W h mL mN n tc fd jo tr : Int} {md : Int64} (hB : 1 ≤ W ∧ W ≤ 5 ∧ 1 ≤ h ∧ h ≤ 5) : gUpd E l yX6_heap wsX6_heap { frames := 1, cells := 0, slots := 0, locals := 21 } [.ref a_M, .long sd] [(a_M, .inr (6, [.int (iI mf), .int (iI W), .int (iI h), .ref a_Mh, .long md, .int (iI mL), .int (iI mN), .int (iI n), .ref a_Mp, .ref a_Mt, .int (iI tc), .int (iI fd), .ref a_Ma, .ref a_Mu, .ref a_Mi, .int (iI jo), .ref a_Mx, .ref a_My, .ref a_Ms, .ref a_Ml, .ref a_Mc, .ref a_Mg, .int (iI tr)])), (a_Mp, aI E 25 pc), (a_Mt, aI E 25 tn)] (some (.int (iI (W * h)))) [(a_M, .inr (6, [.int (iI mf), .int (iI W), .int (iI h), .ref a_Mh, .long (dnT sd (W * h - 1 + W * h)), .int (iI mL), .int (iI mN), .int (iI (W * h)), .ref a_Mp, .ref a_Mt, .int (iI tc), .int (iI fd), .ref a_Ma, .ref a_Mu, .ref a_Mi, .int (iI 0), .ref a_Mx, .ref a_My, .ref a_Ms, .ref a_Ml, .ref a_Mc, .ref a_Mg, .int (iI tr)])), (a_Mp, aI E 25 (swI sd (W * h) (apI pc (W * h)) (W * h - 1))), (a_Mt, aI E 25 (trI sd (W * h) tn (W * h)))] := by
  refine g_start (cc := cX6_heap) (maxL := 6) (ret := (some .int)) (by decide) rfl (Nat.le_of_ble_eq_true rfl) ?_
  intro p_ e_ s_ m_ args_ below_ meth_ c_ A_ C hr hnm
  have hN := nsd_b hB
  refine g_aload_n 1 C 0 dX6_heap_0 rfl rfl ?_
  refine g_lload_n 2 C 1 dX6_heap_1 rfl rfl ?_
  refine g_put (ws' := [(_, .inr (6, [_, _, _, _, _, _, _, _, _, _, _, _, _, _, _, _, _, _, _, _, _, _, _])), (_, aI _ _ _), (_, aI _ _ _)]) 5 C 0 4 6 tyX6 tyX6_ok nmX6 iX6_heap_X6 lX6_heap_89 dX6_heap_2 rfl rfl rfl (by decide) rfl rfl rfl (Nat.le_of_ble_eq_true rfl) rfl ?_
  refine g_aload_n 6 C 0 dX6_heap_5 rfl rfl ?_
  refine g_aload_n 7 C 0 dX6_heap_6 rfl rfl ?_
  refine g_callVF 10 C [0] dX6_heap_7 rfl (k_X6_pieces E l  ) (cwV 0 C.2.2.2.2.1 gX6_heap_X6_pieces rfl rfl rfl cdX6_pieces ⟨Nat.le_of_ble_eq_true rfl, Nat.le_of_ble_eq_true rfl⟩) rfl rfl rfl rfl (Nat.le_of_ble_eq_true rfl) 0 6 rfl rfl rfl ⟨Nat.le_of_ble_eq_true rfl, Nat.le_of_ble_eq_true rfl⟩ ?_
  refine g_put (ws' := [(_, .inr (6, [_, _, _, _, _, _, _, _, _, _, _, _, _, _, _, _, _, _, _, _, _, _, _])), (_, aI _ _ _), (_, aI _ _ _)]) 13 C 0 7 6 tyX6 tyX6_ok nmX6 iX6_heap_X6 lX6_heap_83 dX6_heap_10 rfl rfl rfl (by decide) rfl rfl rfl (Nat.le_of_ble_eq_true rfl) rfl ?_
  refine g_iconst 14 C dX6_heap_13 rfl ?_
  refine g_istore_n (lv' := [(3, _), (0, _), (1, _)]) 15 C dX6_heap_14 rfl rfl (by decide) rfl ?_
  refine g_loop (α := Int) (fun zz => [(a_M, .inr (6, [.int (iI mf), .int (iI W), .int (iI h), .ref a_Mh, .long sd, .int (iI mL), .int (iI mN), .int (iI (W * h)), .ref a_Mp, .ref a_Mt, .int (iI tc), .int (iI fd), .ref a_Ma, .ref a_Mu, .ref a_Mi, .int (iI jo), .ref a_Mx, .ref a_My, .ref a_Ms, .ref a_Ml, .ref a_Mc, .ref a_Mg, .int (iI tr)])), (a_Mp, aI E 25 (apI pc zz)), (a_Mt, aI E 25 tn)]) (fun zz => [(3, .int (iI zz)), (1, .long sd), (0, .ref a_M)]) (fun zz => 0 ≤ zz ∧ zz ≤ W * h) (fun zz => (W * h - zz).toNat) (0) (by (try dsimp only); omega) [0, 2, 1] (by rw [apI_0]) rfl ?_
  rintro k hI ih15
  try dsimp only at hI ih15 ⊢
  obtain ⟨hk0, hkn⟩ := hI
  refine g_iload_n 16 C 0 dX6_heap_15 rfl rfl ?_
  refine g_aload_n 17 C 2 dX6_heap_16 rfl rfl ?_
  refine g_get 20 C 0 7 6 iX6_heap_X6 lX6_heap_83 dX6_heap_17 rfl rfl rfl (by decide) rfl ?_
  refine g_icmp_ge 36 23 C dX6_heap_20 (by decide) rfl (by omega) ?_ ?_
  · intro h20
    refine g_aload_n 37 C 2 dX6_heap_36 rfl rfl ?_
    refine g_get 40 C 0 7 6 iX6_heap_X6 lX6_heap_83 dX6_heap_37 rfl rfl rfl (by decide) rfl ?_
    refine g_iconst 41 C dX6_heap_40 rfl ?_
    refine g_isub 42 C dX6_heap_41 rfl ?_
    refine g_istore_n (lv' := [(3, _), (1, _), (0, _)]) 43 C dX6_heap_42 rfl rfl (by decide) rfl ?_
    refine g_loop (α := Int) (fun zz => [(a_M, .inr (6, [.int (iI mf), .int (iI W), .int (iI h), .ref a_Mh, .long (dnT sd zz), .int (iI mL), .int (iI mN), .int (iI (W * h)), .ref a_Mp, .ref a_Mt, .int (iI tc), .int (iI fd), .ref a_Ma, .ref a_Mu, .ref a_Mi, .int (iI jo), .ref a_Mx, .ref a_My, .ref a_Ms, .ref a_Ml, .ref a_Mc, .ref a_Mg, .int (iI tr)])), (a_Mp, aI E 25 (swI sd (W * h) (apI pc (W * h)) zz)), (a_Mt, aI E 25 tn)]) (fun zz => [(3, .int (iI (W * h - 1 - zz))), (1, .long sd), (0, .ref a_M)]) (fun zz => 0 ≤ zz ∧ zz ≤ W * h - 1) (fun zz => (W * h - 1 - zz).toNat) (0) (by (try dsimp only); omega) [0, 1, 2] (by rw [swI_0, dnT_0, show k = W * h by omega]) (by (try dsimp only); rw [show W * h - 1 - 0 = W * h - 1 by omega]; rfl) ?_
    rintro k hI ih43
    try dsimp only at hI ih43 ⊢
    obtain ⟨hk0, hkn⟩ := hI
    refine g_iload_n 44 C 0 dX6_heap_43 rfl rfl ?_
    refine g_if_le 92 47 C dX6_heap_44 (by decide) rfl (by omega) ?_ ?_
    · intro h44
      refine g_iconst 93 C dX6_heap_92 rfl ?_
      refine g_istore_n (lv' := [(3, _), (1, _), (0, _)]) 94 C dX6_heap_93 rfl rfl (by decide) rfl ?_
      refine g_loop (α := Int) (fun zz => [(a_M, .inr (6, [.int (iI mf), .int (iI W), .int (iI h), .ref a_Mh, .long (dnT sd (W * h - 1 + zz)), .int (iI mL), .int (iI mN), .int (iI (W * h)), .ref a_Mp, .ref a_Mt, .int (iI tc), .int (iI fd), .ref a_Ma, .ref a_Mu, .ref a_Mi, .int (iI jo), .ref a_Mx, .ref a_My, .ref a_Ms, .ref a_Ml, .ref a_Mc, .ref a_Mg, .int (iI tr)])), (a_Mp, aI E 25 (swI sd (W * h) (apI pc (W * h)) (W * h - 1))), (a_Mt, aI E 25 (trI sd (W * h) tn zz))]) (fun zz => [(3, .int (iI zz)), (1, .long sd), (0, .ref a_M)]) (fun zz => 0 ≤ zz ∧ zz ≤ W * h) (fun zz => (W * h - zz).toNat) (0) (by (try dsimp only); omega) [0, 1, 2] (by rw [trI_0, show W * h - 1 = k by omega, Int.add_zero]) rfl ?_
      rintro k hI ih94
      try dsimp only at hI ih94 ⊢
      obtain ⟨hk0, hkn⟩ := hI
      refine g_iload_n 95 C 0 dX6_heap_94 rfl rfl ?_
      refine g_aload_n 96 C 2 dX6_heap_95 rfl rfl ?_
      refine g_get 99 C 0 7 6 iX6_heap_X6 lX6_heap_83 dX6_heap_96 rfl rfl rfl (by decide) rfl ?_
      refine g_icmp_ge 119 102 C dX6_heap_99 (by decide) rfl (by omega) ?_ ?_
      · intro h99
        refine g_aload_n 120 C 2 dX6_heap_119 rfl rfl ?_
        refine g_callVU (ws' := [(_, .inr (6, [_, _, _, _, _, _, _, _, _, _, _, _, _, _, _, _, _, _, _, _, _, _, _])), (_, aI _ _ _), (_, aI _ _ _)]) 123 C [0] dX6_heap_120 rfl (k_X6_changed E l  ) (cwV 0 C.2.2.2.2.1 gX6_heap_X6_changed rfl rfl rfl cdX6_changed ⟨Nat.le_of_ble_eq_true rfl, Nat.le_of_ble_eq_true rfl⟩) rfl rfl rfl rfl (Nat.le_of_ble_eq_true rfl) 0 6 rfl rfl rfl ⟨Nat.le_of_ble_eq_true rfl, Nat.le_of_ble_eq_true rfl⟩ rfl rfl ?_
        refine g_aload_n 124 C 2 dX6_heap_123 rfl rfl ?_
        refine g_get 127 C 0 7 6 iX6_heap_X6 lX6_heap_83 dX6_heap_124 rfl rfl rfl (by decide) rfl ?_
        exact g_iret C hr dX6_heap_127 ⟨g_ri (rfl), by rw [show k = W * h by omega]⟩
      · intro h99
        refine g_aload_n 103 C 2 dX6_heap_102 rfl rfl ?_
        refine g_get 106 C 0 9 6 iX6_heap_X6 lX6_heap_16 dX6_heap_103 rfl rfl rfl (by decide) rfl ?_
        refine g_iload_n 107 C 0 dX6_heap_106 rfl rfl ?_
        refine g_aload_n 108 C 2 dX6_heap_107 rfl rfl ?_
        refine g_iconst 109 C dX6_heap_108 rfl ?_
        refine g_callVU (ws' := [(_, .inr (6, [_, _, _, _, _, _, _, _, _, _, _, _, _, _, _, _, _, _, _, _, _, _, _])), (_, aI _ _ _), (_, aI _ _ _)]) 112 C [0] dX6_heap_109 rfl (k_X6_numberBelow E l  (by first | assumption | omega)) (cwV 1 C.2.2.2.2.1 gX6_heap_X6_numberBelow rfl rfl rfl cdX6_numberBelow ⟨Nat.le_of_ble_eq_true rfl, Nat.le_of_ble_eq_true rfl⟩) rfl rfl rfl rfl (Nat.le_of_ble_eq_true rfl) 0 6 rfl rfl rfl ⟨Nat.le_of_ble_eq_true rfl, Nat.le_of_ble_eq_true rfl⟩ (by simp only [List.map_cons, List.map_nil]) rfl ?_
        refine g_iastore (ws' := [(_, .inr (6, [_, _, _, _, _, _, _, _, _, _, _, _, _, _, _, _, _, _, _, _, _, _, _])), (_, aI _ _ _), (_, aI _ _ _)]) 113 C 2 dX6_heap_112 rfl rfl (by omega) rfl ?_
        refine g_iinc (lv' := [(3, _), (1, _), (0, _)]) 116 C 0 dX6_heap_113 rfl rfl (by decide) rfl ?_
        refine g_goto 94 C dX6_heap_116 (by decide) ?_
        exact g_w [0, 1, 2] (by (try dsimp only); rw [← trI_s sd (W * h) tn hk0 (by omega), show W * h - 1 + (k + 1) = W * h - 1 + k + 1 by omega, dnT_s sd (by omega)]) rfl (ih94 ((k + 1)) (by (try dsimp only); omega) (by (try dsimp only); omega))
    · intro h44
      refine g_aload_n 48 C 2 dX6_heap_47 rfl rfl ?_
      refine g_iload_n 49 C 0 dX6_heap_48 rfl rfl ?_
      refine g_iconst 50 C dX6_heap_49 rfl ?_
      refine g_iadd 51 C dX6_heap_50 rfl ?_
      refine g_callVU (ws' := [(_, .inr (6, [_, _, _, _, _, _, _, _, _, _, _, _, _, _, _, _, _, _, _, _, _, _, _])), (_, aI _ _ _), (_, aI _ _ _)]) 54 C [0] dX6_heap_51 rfl (k_X6_numberBelow E l  (by first | assumption | omega)) (cwV 1 C.2.2.2.2.1 gX6_heap_X6_numberBelow rfl rfl rfl cdX6_numberBelow ⟨Nat.le_of_ble_eq_true rfl, Nat.le_of_ble_eq_true rfl⟩) rfl rfl rfl rfl (Nat.le_of_ble_eq_true rfl) 0 6 rfl rfl rfl ⟨Nat.le_of_ble_eq_true rfl, Nat.le_of_ble_eq_true rfl⟩ (by simp only [List.map_cons, List.map_nil]) rfl ?_
      obtain ⟨jj, hj, hd⟩ : ∃ z : Int, some (dvI (dnI (dnT sd k)) (W * h - 1 - k + 1)) = some z ∧ 0 ≤ z ∧ z < W * h - 1 - k + 1 := ⟨_, rfl, dvI_b _ (by omega)⟩
      rw [Option.some.inj hj]
      refine g_istore (lv' := [(4, _), (3, _), (1, _), (0, _)]) 56 C dX6_heap_54 rfl (by decide) rfl ?_
      refine g_aload_n 57 C 3 dX6_heap_56 rfl rfl ?_
      refine g_get 60 C 0 8 6 iX6_heap_X6 lX6_heap_13 dX6_heap_57 rfl rfl rfl (by decide) rfl ?_
      refine g_iload_n 61 C 1 dX6_heap_60 rfl rfl ?_
      refine g_iaload 62 C 1 dX6_heap_61 rfl rfl (by omega) ?_
      refine g_istore (lv' := [(5, _), (4, _), (3, _), (1, _), (0, _)]) 64 C dX6_heap_62 rfl (by decide) rfl ?_
      refine g_aload_n 65 C 4 dX6_heap_64 rfl rfl ?_
      refine g_get 68 C 0 8 6 iX6_heap_X6 lX6_heap_13 dX6_heap_65 rfl rfl rfl (by decide) rfl ?_
      refine g_iload_n 69 C 2 dX6_heap_68 rfl rfl ?_
      refine g_aload_n 70 C 4 dX6_heap_69 rfl rfl ?_
      refine g_get 73 C 0 8 6 iX6_heap_X6 lX6_heap_13 dX6_heap_70 rfl rfl rfl (by decide) rfl ?_
      refine g_iload 75 C 1 dX6_heap_73 rfl rfl ?_
      refine g_iaload 76 C 1 dX6_heap_75 rfl rfl (by omega) ?_
      refine g_iastore (ws' := [(_, .inr (6, [_, _, _, _, _, _, _, _, _, _, _, _, _, _, _, _, _, _, _, _, _, _, _])), (_, aI _ _ _), (_, aI _ _ _)]) 77 C 1 dX6_heap_76 rfl rfl (by omega) rfl ?_
      refine g_aload_n 78 C 4 dX6_heap_77 rfl rfl ?_
      refine g_get 81 C 0 8 6 iX6_heap_X6 lX6_heap_13 dX6_heap_78 rfl rfl rfl (by decide) rfl ?_
      refine g_iload 83 C 1 dX6_heap_81 rfl rfl ?_
      refine g_iload 85 C 0 dX6_heap_83 rfl rfl ?_
      refine g_iastore (ws' := [(_, .inr (6, [_, _, _, _, _, _, _, _, _, _, _, _, _, _, _, _, _, _, _, _, _, _, _])), (_, aI _ _ _), (_, aI _ _ _)]) 86 C 1 dX6_heap_85 rfl rfl (by omega) rfl ?_
      refine g_iinc (lv' := [(3, _), (5, _), (4, _), (1, _), (0, _)]) 89 C 2 dX6_heap_86 rfl rfl (by decide) rfl ?_
      refine g_goto 43 C dX6_heap_89 (by decide) ?_
      exact g_w [0, 3, 4] (by rw [← Option.some.inj hj]; (try dsimp only); rw [swI_s sd (W * h) (apI pc (W * h)) hk0, dnT_s sd hk0]) (by (try dsimp only); rw [show W * h - 1 - (k + 1) = W * h - 1 - k + -1 by omega]; rfl) (ih43 ((k + 1)) (by (try dsimp only); omega) (by (try dsimp only); omega))
  · intro h20
    refine g_aload_n 24 C 2 dX6_heap_23 rfl rfl ?_
    refine g_get 27 C 0 8 6 iX6_heap_X6 lX6_heap_13 dX6_heap_24 rfl rfl rfl (by decide) rfl ?_
    refine g_iload_n 28 C 0 dX6_heap_27 rfl rfl ?_
    refine g_iload_n 29 C 0 dX6_heap_28 rfl rfl ?_
    refine g_iastore (ws' := [(_, .inr (6, [_, _, _, _, _, _, _, _, _, _, _, _, _, _, _, _, _, _, _, _, _, _, _])), (_, aI _ _ _), (_, aI _ _ _)]) 30 C 1 dX6_heap_29 rfl rfl (by omega) rfl ?_
    refine g_iinc (lv' := [(3, _), (1, _), (0, _)]) 33 C 0 dX6_heap_30 rfl rfl (by decide) rfl ?_
    refine g_goto 15 C dX6_heap_33 (by decide) ?_
    exact g_w [0, 1, 2] (by (try dsimp only); rw [apI_s pc hk0]) rfl (ih15 ((k + 1)) (by (try dsimp only); omega) (by (try dsimp only); omega))
theorem lX6_noPlace_83 : Cond.fieldLink RX6 83 (TX6 7).1 (TX6 7).2.1 (TX6 7).2.2.1 ∈ wsX6_noPlace := by decide +kernel
theorem iX6_noPlace_X6 : ∀ w ∈ u_ws RX6 TX6 23, w ∈ wsX6_noPlace := by decide +kernel
set_option maxHeartbeats 4000000 in
set_option maxRecDepth 100000 in
theorem k_X6_noPlace (E : gE) (l : Launch) {a_M a_Ma a_Mc a_Mg a_Mh a_Mi a_Ml a_Mp a_Ms a_Mt a_Mu a_Mx a_My : Nat} {i : Int} {mf W h mL mN n tc fd jo tr : Int} {md : Int64} (hn : 0 ≤ n ∧ n ≤ 25) (hi : -2147483648 ≤ i ∧ i < 2147483648) : gFun E l yX6_noPlace wsX6_noPlace { frames := 1, cells := 0, slots := 0, locals := 25 } [.ref a_M, .int (iI i)] [(a_M, .inr (6, [.int (iI mf), .int (iI W), .int (iI h), .ref a_Mh, .long md, .int (iI mL), .int (iI mN), .int (iI n), .ref a_Mp, .ref a_Mt, .int (iI tc), .int (iI fd), .ref a_Ma, .ref a_Mu, .ref a_Mi, .int (iI jo), .ref a_Mx, .ref a_My, .ref a_Ms, .ref a_Ml, .ref a_Mc, .ref a_Mg, .int (iI tr)]))] (.int (iI (if ¬ (0 ≤ i ∧ i < n) then 1 else 0))) := by
  refine g_start (cc := cX6_noPlace) (maxL := 2) (ret := (some .boolean)) (by decide) rfl (Nat.le_of_ble_eq_true rfl) ?_
  intro p_ e_ s_ m_ args_ below_ meth_ c_ A_ C hr hnm
  refine g_iload_n 1 C 1 dX6_noPlace_0 rfl rfl ?_
  refine g_i2l 2 C dX6_noPlace_1 rfl (by omega) ?_
  refine g_lconst 3 C 0 dX6_noPlace_2 rfl (by decide) ?_
  refine g_aload_n 4 C 0 dX6_noPlace_3 rfl rfl ?_
  refine g_get 7 C 0 7 6 iX6_noPlace_X6 lX6_noPlace_83 dX6_noPlace_4 rfl rfl rfl (by decide) rfl ?_
  refine g_i2l 8 C dX6_noPlace_7 rfl (by omega) ?_
  refine g_lconst 9 C 1 dX6_noPlace_8 rfl (by decide) ?_
  refine g_lsub 10 C dX6_noPlace_9 rfl ?_
  refine g_callSF 13 C [] dX6_noPlace_10 rfl (k_X6_in E l  (by first | assumption | omega) (by first | assumption | omega) (by first | assumption | omega)) (va_cwS 3 C.2.2.2.2.1 gX6_noPlace_X6_in rfl rfl rfl cdX6_in ⟨Nat.le_of_ble_eq_true rfl, Nat.le_of_ble_eq_true rfl⟩) rfl rfl rfl rfl (Nat.le_of_ble_eq_true rfl) ⟨Nat.le_of_ble_eq_true rfl, Nat.le_of_ble_eq_true rfl⟩ ?_
  refine g_ifb_ne 20 16 C dX6_noPlace_13 (by decide) rfl ?_ ?_
  · intro h13
    refine g_iconst 21 C dX6_noPlace_20 rfl ?_
    exact g_zret C hr dX6_noPlace_21 (by first | rfl | decide | (split <;> rfl)) ⟨g_ri (by first | rfl | omega | exact (if_pos (by omega)).symm | exact (if_neg (by omega)).symm), rfl⟩
  · intro h13
    refine g_iconst 17 C dX6_noPlace_16 rfl ?_
    refine g_goto 21 C dX6_noPlace_17 (by decide) ?_
    exact g_zret C hr dX6_noPlace_21 (by first | rfl | decide | (split <;> rfl)) ⟨g_ri (by first | rfl | omega | exact (if_pos (by omega)).symm | exact (if_neg (by omega)).symm), rfl⟩
theorem cdX6_noPlace : yX6_noPlace.cls = RX6 ∧ yX6_noPlace.cls ≠ "java/lang/invoke/MethodHandle" ∧ yX6_noPlace.cls ≠ "java/lang/invoke/VarHandle" ∧ (parseMethodDescriptor yX6_noPlace.desc).map (fun d => d.parameters.length) = some 1 := by decide +kernel
theorem lX6_take_13 : Cond.fieldLink RX6 13 (TX6 8).1 (TX6 8).2.1 (TX6 8).2.2.1 ∈ wsX6_take := by decide +kernel
theorem lX6_take_16 : Cond.fieldLink RX6 16 (TX6 9).1 (TX6 9).2.1 (TX6 9).2.2.1 ∈ wsX6_take := by decide +kernel
theorem lX6_take_83 : Cond.fieldLink RX6 83 (TX6 7).1 (TX6 7).2.1 (TX6 7).2.2.1 ∈ wsX6_take := by decide +kernel
theorem iX6_take_X6 : ∀ w ∈ u_ws RX6 TX6 23, w ∈ wsX6_take := by decide +kernel
set_option maxHeartbeats 4000000 in
set_option maxRecDepth 100000 in
theorem k_X6_take (E : gE) (l : Launch) {a_M a_Ma a_Mc a_Mg a_Mh a_Mi a_Ml a_Mp a_Ms a_Mt a_Mu a_Mx a_My : Nat} {i : Int} {pc tn : Int → Int} {mf W h mL mN n tc fd jo tr : Int} {md : Int64} (hn : 0 ≤ n ∧ n ≤ 25) (hi : -2147483648 ≤ i ∧ i < 2147483648) : gUpd E l yX6_take wsX6_take { frames := 2, cells := 0, slots := 0, locals := 46 } [.ref a_M, .int (iI i)] [(a_M, .inr (6, [.int (iI mf), .int (iI W), .int (iI h), .ref a_Mh, .long md, .int (iI mL), .int (iI mN), .int (iI n), .ref a_Mp, .ref a_Mt, .int (iI tc), .int (iI fd), .ref a_Ma, .ref a_Mu, .ref a_Mi, .int (iI jo), .ref a_Mx, .ref a_My, .ref a_Ms, .ref a_Ml, .ref a_Mc, .ref a_Mg, .int (iI tr)])), (a_Mp, aI E 25 pc), (a_Mt, aI E 25 tn)] (some (.int (iI (if 0 ≤ i ∧ i < n then pc i else -1)))) [(a_M, .inr (6, [.int (iI mf), .int (iI W), .int (iI h), .ref a_Mh, .long md, .int (iI mL), .int (iI mN), .int (iI (if 0 ≤ i ∧ i < n then n - 1 else n)), .ref a_Mp, .ref a_Mt, .int (iI tc), .int (iI fd), .ref a_Ma, .ref a_Mu, .ref a_Mi, .int (iI (if 0 ≤ i ∧ i < n then 0 else jo)), .ref a_Mx, .ref a_My, .ref a_Ms, .ref a_Ml, .ref a_Mc, .ref a_Mg, .int (iI tr)])), (a_Mp, aI E 25 (if 0 ≤ i ∧ i < n then rmI pc i n else pc)), (a_Mt, aI E 25 (if 0 ≤ i ∧ i < n then rmI tn i n else tn))] := by
  refine g_start (cc := cX6_take) (maxL := 4) (ret := (some .int)) (by decide) rfl (Nat.le_of_ble_eq_true rfl) ?_
  intro p_ e_ s_ m_ args_ below_ meth_ c_ A_ C hr hnm
  refine g_aload_n 1 C 0 dX6_take_0 rfl rfl ?_
  refine g_iload_n 2 C 1 dX6_take_1 rfl rfl ?_
  refine g_callVF 5 C [0] dX6_take_2 rfl (k_X6_noPlace E l  (by first | assumption | omega) (by first | assumption | omega)) (cwV 1 C.2.2.2.2.1 gX6_take_X6_noPlace rfl rfl rfl cdX6_noPlace ⟨Nat.le_of_ble_eq_true rfl, Nat.le_of_ble_eq_true rfl⟩) rfl rfl rfl rfl (Nat.le_of_ble_eq_true rfl) 0 6 rfl rfl rfl ⟨Nat.le_of_ble_eq_true rfl, Nat.le_of_ble_eq_true rfl⟩ ?_
  refine g_ifb_eq 10 8 C dX6_take_5 (by decide) rfl ?_ ?_
  · intro h5
    refine g_aload_n 11 C 0 dX6_take_10 rfl rfl ?_
    refine g_get 14 C 0 8 6 iX6_take_X6 lX6_take_13 dX6_take_11 rfl rfl rfl (by decide) rfl ?_
    refine g_iload_n 15 C 1 dX6_take_14 rfl rfl ?_
    refine g_iaload 16 C 1 dX6_take_15 rfl rfl (by omega) ?_
    refine g_istore_n (lv' := [(2, _), (0, _), (1, _)]) 17 C dX6_take_16 rfl rfl (by decide) rfl ?_
    refine g_aload_n 18 C 1 dX6_take_17 rfl rfl ?_
    refine g_dup 19 C dX6_take_18 rfl rfl ?_
    refine g_get 22 C 0 7 6 iX6_take_X6 lX6_take_83 dX6_take_19 rfl rfl rfl (by decide) rfl ?_
    refine g_iconst 23 C dX6_take_22 rfl ?_
    refine g_isub 24 C dX6_take_23 rfl ?_
    refine g_put (ws' := [(_, .inr (6, [_, _, _, _, _, _, _, _, _, _, _, _, _, _, _, _, _, _, _, _, _, _, _])), (_, aI _ _ _), (_, aI _ _ _)]) 27 C 0 7 6 tyX6 tyX6_ok nmX6 iX6_take_X6 lX6_take_83 dX6_take_24 rfl rfl rfl (by decide) rfl rfl rfl (Nat.le_of_ble_eq_true rfl) rfl ?_
    refine g_iload_n 28 C 2 dX6_take_27 rfl rfl ?_
    refine g_istore_n (lv' := [(3, _), (2, _), (0, _), (1, _)]) 29 C dX6_take_28 rfl rfl (by decide) rfl ?_
    refine g_loop (α := Int) (fun zz => [(a_M, .inr (6, [.int (iI mf), .int (iI W), .int (iI h), .ref a_Mh, .long md, .int (iI mL), .int (iI mN), .int (iI (n - 1)), .ref a_Mp, .ref a_Mt, .int (iI tc), .int (iI fd), .ref a_Ma, .ref a_Mu, .ref a_Mi, .int (iI jo), .ref a_Mx, .ref a_My, .ref a_Ms, .ref a_Ml, .ref a_Mc, .ref a_Mg, .int (iI tr)])), (a_Mp, aI E 25 (rmI pc i (zz + 1))), (a_Mt, aI E 25 (rmI tn i (zz + 1)))]) (fun zz => [(3, .int (iI zz)), (2, .int (iI (pc i))), (1, .int (iI i)), (0, .ref a_M)]) (fun zz => i ≤ zz ∧ zz + 1 ≤ n) (fun zz => (n - zz).toNat) (i) (by (try dsimp only); omega) [0, 1, 3, 2] (by rw [rmI_0, rmI_0]) rfl ?_
    rintro k hI ih29
    try dsimp only at hI ih29 ⊢
    obtain ⟨hk0, hkn⟩ := hI
    refine g_iload_n 30 C 0 dX6_take_29 rfl rfl ?_
    refine g_aload_n 31 C 3 dX6_take_30 rfl rfl ?_
    refine g_get 34 C 0 7 6 iX6_take_X6 lX6_take_83 dX6_take_31 rfl rfl rfl (by decide) rfl ?_
    refine g_icmp_ge 71 37 C dX6_take_34 (by decide) rfl (by omega) ?_ ?_
    · intro h34
      refine g_aload_n 72 C 3 dX6_take_71 rfl rfl ?_
      refine g_callVU (ws' := [(_, .inr (6, [_, _, _, _, _, _, _, _, _, _, _, _, _, _, _, _, _, _, _, _, _, _, _])), (_, aI _ _ _), (_, aI _ _ _)]) 75 C [0] dX6_take_72 rfl (k_X6_changed E l  ) (cwV 0 C.2.2.2.2.1 gX6_take_X6_changed rfl rfl rfl cdX6_changed ⟨Nat.le_of_ble_eq_true rfl, Nat.le_of_ble_eq_true rfl⟩) rfl rfl rfl rfl (Nat.le_of_ble_eq_true rfl) 0 6 rfl rfl rfl ⟨Nat.le_of_ble_eq_true rfl, Nat.le_of_ble_eq_true rfl⟩ rfl rfl ?_
      refine g_iload_n 76 C 1 dX6_take_75 rfl rfl ?_
      exact g_iret C hr dX6_take_76 ⟨g_ri (by first | rfl | omega | exact (if_pos (by omega)).symm | exact (if_neg (by omega)).symm), by (have hg : 0 ≤ i ∧ i < n := (by omega)); simp only [if_pos hg, show k + 1 = n by omega]⟩
    · intro h34
      refine g_aload_n 38 C 3 dX6_take_37 rfl rfl ?_
      refine g_get 41 C 0 8 6 iX6_take_X6 lX6_take_13 dX6_take_38 rfl rfl rfl (by decide) rfl ?_
      refine g_iload_n 42 C 0 dX6_take_41 rfl rfl ?_
      refine g_aload_n 43 C 3 dX6_take_42 rfl rfl ?_
      refine g_get 46 C 0 8 6 iX6_take_X6 lX6_take_13 dX6_take_43 rfl rfl rfl (by decide) rfl ?_
      refine g_iload_n 47 C 0 dX6_take_46 rfl rfl ?_
      refine g_iconst 48 C dX6_take_47 rfl ?_
      refine g_iadd 49 C dX6_take_48 rfl ?_
      refine g_iaload 50 C 1 dX6_take_49 rfl rfl (by omega) ?_
      refine g_iastore (ws' := [(_, .inr (6, [_, _, _, _, _, _, _, _, _, _, _, _, _, _, _, _, _, _, _, _, _, _, _])), (_, aI _ _ _), (_, aI _ _ _)]) 51 C 1 dX6_take_50 rfl rfl (by omega) rfl ?_
      refine g_aload_n 52 C 3 dX6_take_51 rfl rfl ?_
      refine g_get 55 C 0 9 6 iX6_take_X6 lX6_take_16 dX6_take_52 rfl rfl rfl (by decide) rfl ?_
      refine g_iload_n 56 C 0 dX6_take_55 rfl rfl ?_
      refine g_aload_n 57 C 3 dX6_take_56 rfl rfl ?_
      refine g_get 60 C 0 9 6 iX6_take_X6 lX6_take_16 dX6_take_57 rfl rfl rfl (by decide) rfl ?_
      refine g_iload_n 61 C 0 dX6_take_60 rfl rfl ?_
      refine g_iconst 62 C dX6_take_61 rfl ?_
      refine g_iadd 63 C dX6_take_62 rfl ?_
      refine g_iaload 64 C 2 dX6_take_63 rfl rfl (by omega) ?_
      refine g_iastore (ws' := [(_, .inr (6, [_, _, _, _, _, _, _, _, _, _, _, _, _, _, _, _, _, _, _, _, _, _, _])), (_, aI _ _ _), (_, aI _ _ _)]) 65 C 2 dX6_take_64 rfl rfl (by omega) rfl ?_
      refine g_iinc (lv' := [(3, _), (2, _), (1, _), (0, _)]) 68 C 0 dX6_take_65 rfl rfl (by decide) rfl ?_
      refine g_goto 29 C dX6_take_68 (by decide) ?_
      exact g_w [0, 1, 2, 3] (by (try dsimp only); rw [← rm_s (f := pc) hk0, ← rm_s (f := tn) hk0]) rfl (ih29 ((k + 1)) (by (try dsimp only); omega) (by (try dsimp only); omega))
  · intro h5
    refine g_iconst 9 C dX6_take_8 rfl ?_
    exact g_iret C hr dX6_take_9 ⟨g_ri (by first | rfl | omega | exact (if_pos (by omega)).symm | exact (if_neg (by omega)).symm), by first | rfl | (have hg : 0 ≤ i ∧ i < n := (by omega); simp only [if_pos hg]) | (have hg : ¬ (0 ≤ i ∧ i < n) := (by omega); simp only [if_neg hg])⟩
theorem lX6_heaped_13 : Cond.fieldLink RX6 13 (TX6 8).1 (TX6 8).2.1 (TX6 8).2.2.1 ∈ wsX6_heaped := by decide +kernel
theorem lX6_heaped_16 : Cond.fieldLink RX6 16 (TX6 9).1 (TX6 9).2.1 (TX6 9).2.2.1 ∈ wsX6_heaped := by decide +kernel
theorem iX6_heaped_X6 : ∀ w ∈ u_ws RX6 TX6 23, w ∈ wsX6_heaped := by decide +kernel
set_option maxHeartbeats 4000000 in
set_option maxRecDepth 100000 in
theorem k_X6_heaped (E : gE) (l : Launch) {a_M a_Ma a_Mc a_Mg a_Mh a_Mi a_Ml a_Mp a_Ms a_Mt a_Mu a_Mx a_My : Nat} {i t : Int} {pc tn : Int → Int} {mf W h mL mN n tc fd jo tr : Int} {md : Int64} (hn : 0 ≤ n ∧ n ≤ 25) (hi : -2147483648 ≤ i ∧ i < 2147483648) (ht : -2147483648 ≤ t ∧ t < 2147483648) : gFun E l yX6_heaped wsX6_heaped { frames := 2, cells := 0, slots := 0, locals := 46 } [.ref a_M, .int (iI i), .int (iI t)] [(a_M, .inr (6, [.int (iI mf), .int (iI W), .int (iI h), .ref a_Mh, .long md, .int (iI mL), .int (iI mN), .int (iI n), .ref a_Mp, .ref a_Mt, .int (iI tc), .int (iI fd), .ref a_Ma, .ref a_Mu, .ref a_Mi, .int (iI jo), .ref a_Mx, .ref a_My, .ref a_Ms, .ref a_Ml, .ref a_Mc, .ref a_Mg, .int (iI tr)])), (a_Mp, aI E 25 pc), (a_Mt, aI E 25 tn)] (.int (iI (if ¬ (0 ≤ i ∧ i < n) then -1 else if t = 0 then pc i else if t = 1 then tn i else -2))) := by
  refine g_start (cc := cX6_heaped) (maxL := 3) (ret := (some .int)) (by decide) rfl (Nat.le_of_ble_eq_true rfl) ?_
  intro p_ e_ s_ m_ args_ below_ meth_ c_ A_ C hr hnm
  refine g_aload_n 1 C 0 dX6_heaped_0 rfl rfl ?_
  refine g_iload_n 2 C 1 dX6_heaped_1 rfl rfl ?_
  refine g_callVF 5 C [0] dX6_heaped_2 rfl (k_X6_noPlace E l  (by first | assumption | omega) (by first | assumption | omega)) (cwV 1 C.2.2.2.2.1 gX6_heaped_X6_noPlace rfl rfl rfl cdX6_noPlace ⟨Nat.le_of_ble_eq_true rfl, Nat.le_of_ble_eq_true rfl⟩) rfl rfl rfl rfl (Nat.le_of_ble_eq_true rfl) 0 6 rfl rfl rfl ⟨Nat.le_of_ble_eq_true rfl, Nat.le_of_ble_eq_true rfl⟩ ?_
  refine g_ifb_eq 10 8 C dX6_heaped_5 (by decide) rfl ?_ ?_
  · intro h5
    refine g_iload_n 11 C 2 dX6_heaped_10 rfl rfl ?_
    refine g_if_ne 23 14 C dX6_heaped_11 (by decide) rfl (by omega) ?_ ?_
    · intro h11
      refine g_iload_n 24 C 2 dX6_heaped_23 rfl rfl ?_
      refine g_iconst 25 C dX6_heaped_24 rfl ?_
      refine g_icmp_ne 37 28 C dX6_heaped_25 (by decide) rfl (by omega) ?_ ?_
      · intro h25
        refine g_bipush 39 C dX6_heaped_37 rfl (by decide) ?_
        exact g_iret C hr dX6_heaped_39 ⟨g_ri (by (repeat' split) <;> first | rfl | omega), rfl⟩
      · intro h25
        refine g_aload_n 29 C 0 dX6_heaped_28 rfl rfl ?_
        refine g_get 32 C 0 9 6 iX6_heaped_X6 lX6_heaped_16 dX6_heaped_29 rfl rfl rfl (by decide) rfl ?_
        refine g_iload_n 33 C 1 dX6_heaped_32 rfl rfl ?_
        refine g_iaload 34 C 2 dX6_heaped_33 rfl rfl (by omega) ?_
        refine g_goto 39 C dX6_heaped_34 (by decide) ?_
        exact g_iret C hr dX6_heaped_39 ⟨g_ri (by (repeat' split) <;> first | rfl | omega), rfl⟩
    · intro h11
      refine g_aload_n 15 C 0 dX6_heaped_14 rfl rfl ?_
      refine g_get 18 C 0 8 6 iX6_heaped_X6 lX6_heaped_13 dX6_heaped_15 rfl rfl rfl (by decide) rfl ?_
      refine g_iload_n 19 C 1 dX6_heaped_18 rfl rfl ?_
      refine g_iaload 20 C 1 dX6_heaped_19 rfl rfl (by omega) ?_
      refine g_goto 39 C dX6_heaped_20 (by decide) ?_
      exact g_iret C hr dX6_heaped_39 ⟨g_ri (by (repeat' split) <;> first | rfl | omega), rfl⟩
  · intro h5
    refine g_iconst 9 C dX6_heaped_8 rfl ?_
    exact g_iret C hr dX6_heaped_9 ⟨g_ri (by (repeat' split) <;> first | rfl | omega), rfl⟩
theorem lX6_timesIn_13 : Cond.fieldLink RX6 13 (TX6 8).1 (TX6 8).2.1 (TX6 8).2.2.1 ∈ wsX6_timesIn := by decide +kernel
theorem lX6_timesIn_83 : Cond.fieldLink RX6 83 (TX6 7).1 (TX6 7).2.1 (TX6 7).2.2.1 ∈ wsX6_timesIn := by decide +kernel
theorem iX6_timesIn_X6 : ∀ w ∈ u_ws RX6 TX6 23, w ∈ wsX6_timesIn := by decide +kernel
set_option maxHeartbeats 4000000 in
set_option maxRecDepth 100000 in
theorem k_X6_timesIn (E : gE) (l : Launch) {a_M a_Ma a_Mc a_Mg a_Mh a_Mi a_Ml a_Mp a_Ms a_Mt a_Mu a_Mx a_My : Nat} {p : Int} {pc : Int → Int} {mf W h mL mN n tc fd jo tr : Int} {md : Int64} (hn : 0 ≤ n ∧ n ≤ 25) (hpn : ∀ j : Int, 0 ≤ j ∧ j < n → 0 ≤ pc j ∧ pc j < 25) (hp : -2147483648 ≤ p ∧ p < 2147483648) : gFun E l yX6_timesIn wsX6_timesIn { frames := 0, cells := 0, slots := 0, locals := 0 } [.ref a_M, .int (iI p)] [(a_M, .inr (6, [.int (iI mf), .int (iI W), .int (iI h), .ref a_Mh, .long md, .int (iI mL), .int (iI mN), .int (iI n), .ref a_Mp, .ref a_Mt, .int (iI tc), .int (iI fd), .ref a_Ma, .ref a_Mu, .ref a_Mi, .int (iI jo), .ref a_Mx, .ref a_My, .ref a_Ms, .ref a_Ml, .ref a_Mc, .ref a_Mg, .int (iI tr)])), (a_Mp, aI E 25 pc)] (.int (iI (tmI n pc p))) := by
  refine g_start (cc := cX6_timesIn) (maxL := 4) (ret := (some .int)) (by decide) rfl (Nat.le_of_ble_eq_true rfl) ?_
  intro p_ e_ s_ m_ args_ below_ meth_ c_ A_ C hr hnm
  refine g_iconst 1 C dX6_timesIn_0 rfl ?_
  refine g_istore_n (lv' := [(2, _), (0, _), (1, _)]) 2 C dX6_timesIn_1 rfl rfl (by decide) rfl ?_
  refine g_iconst 3 C dX6_timesIn_2 rfl ?_
  refine g_istore_n (lv' := [(3, _), (2, _), (0, _), (1, _)]) 4 C dX6_timesIn_3 rfl rfl (by decide) rfl ?_
  refine g_loop (α := Int × Int) (fun zz => [(a_M, .inr (6, [.int (iI mf), .int (iI W), .int (iI h), .ref a_Mh, .long md, .int (iI mL), .int (iI mN), .int (iI n), .ref a_Mp, .ref a_Mt, .int (iI tc), .int (iI fd), .ref a_Ma, .ref a_Mu, .ref a_Mi, .int (iI jo), .ref a_Mx, .ref a_My, .ref a_Ms, .ref a_Ml, .ref a_Mc, .ref a_Mg, .int (iI tr)])), (a_Mp, aI E 25 pc)]) (fun zz => [(2, .int (iI zz.1)), (3, .int (iI zz.2)), (1, .int (iI p)), (0, .ref a_M)]) (fun zz => (0 ≤ zz.2 ∧ zz.2 ≤ n) ∧ zz.1 = cnI (fun j => pc j = p) zz.2) (fun zz => (n - zz.2).toNat) (0, 0) (by
            try dsimp only
            exact ⟨by omega, rfl⟩) [1, 0, 3, 2] rfl rfl ?_
  rintro ⟨c, k⟩ hI ih4
  try dsimp only at hI ih4 ⊢
  obtain ⟨hk, rfl⟩ := hI
  refine g_iload_n 5 C 1 dX6_timesIn_4 rfl rfl ?_
  refine g_aload_n 6 C 3 dX6_timesIn_5 rfl rfl ?_
  refine g_get 9 C 0 7 6 iX6_timesIn_X6 lX6_timesIn_83 dX6_timesIn_6 rfl rfl rfl (by decide) rfl ?_
  refine g_icmp_ge 36 12 C dX6_timesIn_9 (by decide) rfl (by omega) ?_ ?_
  · intro h9
    refine g_iload_n 37 C 0 dX6_timesIn_36 rfl rfl ?_
    exact g_iret C hr dX6_timesIn_37 ⟨g_ri (by rw [show k = n by omega]; rfl), rfl⟩
  · intro h9
    refine g_iload_n 13 C 0 dX6_timesIn_12 rfl rfl ?_
    refine g_aload_n 14 C 3 dX6_timesIn_13 rfl rfl ?_
    refine g_get 17 C 0 8 6 iX6_timesIn_X6 lX6_timesIn_13 dX6_timesIn_14 rfl rfl rfl (by decide) rfl ?_
    refine g_iload_n 18 C 1 dX6_timesIn_17 rfl rfl ?_
    refine g_iaload 19 C 1 dX6_timesIn_18 rfl rfl (by omega) ?_
    have e0 := hpn k (by omega)
    refine g_iload_n 20 C 2 dX6_timesIn_19 rfl rfl ?_
    refine g_icmp_ne 27 23 C dX6_timesIn_20 (by decide) rfl (by omega) ?_ ?_
    · intro h20
      refine g_iconst 28 C dX6_timesIn_27 rfl ?_
      refine g_iadd 29 C dX6_timesIn_28 rfl ?_
      refine g_istore_n (lv' := [(2, _), (3, _), (1, _), (0, _)]) 30 C dX6_timesIn_29 rfl rfl (by decide) rfl ?_
      refine g_iinc (lv' := [(3, _), (2, _), (1, _), (0, _)]) 33 C 1 dX6_timesIn_30 rfl rfl (by decide) rfl ?_
      refine g_goto 4 C dX6_timesIn_33 (by decide) ?_
      first
      | exact g_w [1, 0, 2, 3] rfl rfl (ih4 ((cnI (fun j => pc j = p) k + 1), (k + 1)) (by
            try dsimp only
            exact ⟨by omega, by first | exact (cnI_st (fun j => pc j = p) hk.1 (by assumption)).symm | exact (Int.add_zero _).trans (cnI_sf (fun j => pc j = p) hk.1 (by assumption)).symm⟩) (by (try dsimp only); omega))
      | exact g_w [1, 0, 2, 3] rfl rfl (ih4 ((cnI (fun j => pc j = p) k + 0), (k + 1)) (by
            try dsimp only
            exact ⟨by omega, by first | exact (cnI_st (fun j => pc j = p) hk.1 (by assumption)).symm | exact (Int.add_zero _).trans (cnI_sf (fun j => pc j = p) hk.1 (by assumption)).symm⟩) (by (try dsimp only); omega))
    · intro h20
      refine g_iconst 24 C dX6_timesIn_23 rfl ?_
      refine g_goto 28 C dX6_timesIn_24 (by decide) ?_
      refine g_iadd 29 C dX6_timesIn_28 rfl ?_
      refine g_istore_n (lv' := [(2, _), (3, _), (1, _), (0, _)]) 30 C dX6_timesIn_29 rfl rfl (by decide) rfl ?_
      refine g_iinc (lv' := [(3, _), (2, _), (1, _), (0, _)]) 33 C 1 dX6_timesIn_30 rfl rfl (by decide) rfl ?_
      refine g_goto 4 C dX6_timesIn_33 (by decide) ?_
      first
      | exact g_w [1, 0, 2, 3] rfl rfl (ih4 ((cnI (fun j => pc j = p) k + 1), (k + 1)) (by
            try dsimp only
            exact ⟨by omega, by first | exact (cnI_st (fun j => pc j = p) hk.1 (by assumption)).symm | exact (Int.add_zero _).trans (cnI_sf (fun j => pc j = p) hk.1 (by assumption)).symm⟩) (by (try dsimp only); omega))
      | exact g_w [1, 0, 2, 3] rfl rfl (ih4 ((cnI (fun j => pc j = p) k + 0), (k + 1)) (by
            try dsimp only
            exact ⟨by omega, by first | exact (cnI_st (fun j => pc j = p) hk.1 (by assumption)).symm | exact (Int.add_zero _).trans (cnI_sf (fun j => pc j = p) hk.1 (by assumption)).symm⟩) (by (try dsimp only); omega))
theorem cdX6_timesIn : yX6_timesIn.cls = RX6 ∧ yX6_timesIn.cls ≠ "java/lang/invoke/MethodHandle" ∧ yX6_timesIn.cls ≠ "java/lang/invoke/VarHandle" ∧ (parseMethodDescriptor yX6_timesIn.desc).map (fun d => d.parameters.length) = some 1 := by decide +kernel
set_option maxHeartbeats 4000000 in
set_option maxRecDepth 100000 in
theorem k_X6_isMissing (E : gE) (l : Launch) {a_M a_Ma a_Mc a_Mg a_Mh a_Mi a_Ml a_Mp a_Ms a_Mt a_Mu a_Mx a_My : Nat} {t p : Int} {pc : Int → Int} {mf W h mL mN n tc fd jo tr : Int} {md : Int64} (hn : 0 ≤ n ∧ n ≤ 25) (hpn : ∀ j : Int, 0 ≤ j ∧ j < n → 0 ≤ pc j ∧ pc j < 25) (ht : -2147483648 ≤ t ∧ t < 2147483648) (hp : -2147483648 ≤ p ∧ p < 2147483648) : gFun E l yX6_isMissing wsX6_isMissing { frames := 1, cells := 0, slots := 0, locals := 23 } [.ref a_M, .int (iI t), .int (iI p)] [(a_M, .inr (6, [.int (iI mf), .int (iI W), .int (iI h), .ref a_Mh, .long md, .int (iI mL), .int (iI mN), .int (iI n), .ref a_Mp, .ref a_Mt, .int (iI tc), .int (iI fd), .ref a_Ma, .ref a_Mu, .ref a_Mi, .int (iI jo), .ref a_Mx, .ref a_My, .ref a_Ms, .ref a_Ml, .ref a_Mc, .ref a_Mg, .int (iI tr)])), (a_Mp, aI E 25 pc)] (.int (iI (cI (msP n pc t p) 1 0))) := by
  refine g_start (cc := cX6_isMissing) (maxL := 3) (ret := (some .boolean)) (by decide) rfl (Nat.le_of_ble_eq_true rfl) ?_
  intro p_ e_ s_ m_ args_ below_ meth_ c_ A_ C hr hnm
  refine g_iload_n 1 C 1 dX6_isMissing_0 rfl rfl ?_
  refine g_if_ne 20 4 C dX6_isMissing_1 (by decide) rfl (by omega) ?_ ?_
  · intro h1
    refine g_aload_n 21 C 0 dX6_isMissing_20 rfl rfl ?_
    refine g_iload_n 22 C 2 dX6_isMissing_21 rfl rfl ?_
    refine g_callVF 25 C [0, 1] dX6_isMissing_22 rfl (k_X6_timesIn E l  (by first | assumption | omega) (by first | assumption | omega) (by first | assumption | omega)) (cwV 1 C.2.2.2.2.1 gX6_isMissing_X6_timesIn rfl rfl rfl cdX6_timesIn ⟨Nat.le_of_ble_eq_true rfl, Nat.le_of_ble_eq_true rfl⟩) rfl rfl rfl rfl (Nat.le_of_ble_eq_true rfl) 0 6 rfl rfl rfl ⟨Nat.le_of_ble_eq_true rfl, Nat.le_of_ble_eq_true rfl⟩ ?_
    have e0 := cnI_b (fun j => pc j = p) hn.1
    have e1 : tmI n pc p = cnI (fun j => pc j = p) n := rfl
    refine g_iconst 26 C dX6_isMissing_25 rfl ?_
    refine g_icmp_le 33 29 C dX6_isMissing_26 (by decide) rfl (by omega) ?_ ?_
    · intro h26
      refine g_iconst 34 C dX6_isMissing_33 rfl ?_
      exact g_zret C hr dX6_isMissing_34 (by first | rfl | decide | (split <;> rfl)) ⟨g_ri (by first | exact (cI_t (by unfold msP; omega)).symm | exact (cI_f (by unfold msP; omega)).symm), rfl⟩
    · intro h26
      refine g_iconst 30 C dX6_isMissing_29 rfl ?_
      refine g_goto 34 C dX6_isMissing_30 (by decide) ?_
      exact g_zret C hr dX6_isMissing_34 (by first | rfl | decide | (split <;> rfl)) ⟨g_ri (by first | exact (cI_t (by unfold msP; omega)).symm | exact (cI_f (by unfold msP; omega)).symm), rfl⟩
  · intro h1
    refine g_aload_n 5 C 0 dX6_isMissing_4 rfl rfl ?_
    refine g_iload_n 6 C 2 dX6_isMissing_5 rfl rfl ?_
    refine g_callVF 9 C [0, 1] dX6_isMissing_6 rfl (k_X6_timesIn E l  (by first | assumption | omega) (by first | assumption | omega) (by first | assumption | omega)) (cwV 1 C.2.2.2.2.1 gX6_isMissing_X6_timesIn rfl rfl rfl cdX6_timesIn ⟨Nat.le_of_ble_eq_true rfl, Nat.le_of_ble_eq_true rfl⟩) rfl rfl rfl rfl (Nat.le_of_ble_eq_true rfl) 0 6 rfl rfl rfl ⟨Nat.le_of_ble_eq_true rfl, Nat.le_of_ble_eq_true rfl⟩ ?_
    have e0 := cnI_b (fun j => pc j = p) hn.1
    have e1 : tmI n pc p = cnI (fun j => pc j = p) n := rfl
    refine g_if_ne 16 12 C dX6_isMissing_9 (by decide) rfl (by omega) ?_ ?_
    · intro h9
      refine g_iconst 17 C dX6_isMissing_16 rfl ?_
      refine g_goto 34 C dX6_isMissing_17 (by decide) ?_
      exact g_zret C hr dX6_isMissing_34 (by first | rfl | decide | (split <;> rfl)) ⟨g_ri (by first | exact (cI_t (by unfold msP; omega)).symm | exact (cI_f (by unfold msP; omega)).symm), rfl⟩
    · intro h9
      refine g_iconst 13 C dX6_isMissing_12 rfl ?_
      refine g_goto 34 C dX6_isMissing_13 (by decide) ?_
      exact g_zret C hr dX6_isMissing_34 (by first | rfl | decide | (split <;> rfl)) ⟨g_ri (by first | exact (cI_t (by unfold msP; omega)).symm | exact (cI_f (by unfold msP; omega)).symm), rfl⟩
theorem cdX6_isMissing : yX6_isMissing.cls = RX6 ∧ yX6_isMissing.cls ≠ "java/lang/invoke/MethodHandle" ∧ yX6_isMissing.cls ≠ "java/lang/invoke/VarHandle" ∧ (parseMethodDescriptor yX6_isMissing.desc).map (fun d => d.parameters.length) = some 2 := by decide +kernel
set_option maxHeartbeats 4000000 in
set_option maxRecDepth 100000 in
theorem k_X6_missing (E : gE) (l : Launch) {a_M a_Ma a_Mc a_Mg a_Mh a_Mi a_Ml a_Mp a_Ms a_Mt a_Mu a_Mx a_My : Nat} {t : Int} {pc : Int → Int} {mf W h mL mN n tc fd jo tr : Int} {md : Int64} (hB : 1 ≤ W ∧ W ≤ 5 ∧ 1 ≤ h ∧ h ≤ 5) (hn : 0 ≤ n ∧ n ≤ 25) (hpn : ∀ j : Int, 0 ≤ j ∧ j < n → 0 ≤ pc j ∧ pc j < 25) (ht : -2147483648 ≤ t ∧ t < 2147483648) : gFun E l yX6_missing wsX6_missing { frames := 2, cells := 0, slots := 0, locals := 45 } [.ref a_M, .int (iI t)] [(a_M, .inr (6, [.int (iI mf), .int (iI W), .int (iI h), .ref a_Mh, .long md, .int (iI mL), .int (iI mN), .int (iI n), .ref a_Mp, .ref a_Mt, .int (iI tc), .int (iI fd), .ref a_Ma, .ref a_Mu, .ref a_Mi, .int (iI jo), .ref a_Mx, .ref a_My, .ref a_Ms, .ref a_Ml, .ref a_Mc, .ref a_Mg, .int (iI tr)])), (a_Mp, aI E 25 pc)] (.int (iI (if t = 0 ∨ t = 1 then cnI (msP n pc t) (W * h) else -2))) := by
  refine g_start (cc := cX6_missing) (maxL := 4) (ret := (some .int)) (by decide) rfl (Nat.le_of_ble_eq_true rfl) ?_
  intro p_ e_ s_ m_ args_ below_ meth_ c_ A_ C hr hnm
  have hN := nsd_b hB
  refine g_iload_n 1 C 1 dX6_missing_0 rfl rfl ?_
  refine g_i2l 2 C dX6_missing_1 rfl (by omega) ?_
  refine g_lconst 3 C 0 dX6_missing_2 rfl (by decide) ?_
  refine g_lconst 4 C 1 dX6_missing_3 rfl (by decide) ?_
  refine g_callSF 7 C [] dX6_missing_4 rfl (k_X6_in E l  (by first | assumption | omega) (by first | assumption | omega) (by first | assumption | omega)) (va_cwS 3 C.2.2.2.2.1 gX6_missing_X6_in rfl rfl rfl cdX6_in ⟨Nat.le_of_ble_eq_true rfl, Nat.le_of_ble_eq_true rfl⟩) rfl rfl rfl rfl (Nat.le_of_ble_eq_true rfl) ⟨Nat.le_of_ble_eq_true rfl, Nat.le_of_ble_eq_true rfl⟩ ?_
  refine g_ifb_ne 13 10 C dX6_missing_7 (by decide) rfl ?_ ?_
  · intro h7
    refine g_iconst 14 C dX6_missing_13 rfl ?_
    refine g_istore_n (lv' := [(2, _), (0, _), (1, _)]) 15 C dX6_missing_14 rfl rfl (by decide) rfl ?_
    refine g_iconst 16 C dX6_missing_15 rfl ?_
    refine g_istore_n (lv' := [(3, _), (2, _), (0, _), (1, _)]) 17 C dX6_missing_16 rfl rfl (by decide) rfl ?_
    refine g_loop (α := Int × Int) (fun zz => [(a_M, .inr (6, [.int (iI mf), .int (iI W), .int (iI h), .ref a_Mh, .long md, .int (iI mL), .int (iI mN), .int (iI n), .ref a_Mp, .ref a_Mt, .int (iI tc), .int (iI fd), .ref a_Ma, .ref a_Mu, .ref a_Mi, .int (iI jo), .ref a_Mx, .ref a_My, .ref a_Ms, .ref a_Ml, .ref a_Mc, .ref a_Mg, .int (iI tr)])), (a_Mp, aI E 25 pc)]) (fun zz => [(2, .int (iI zz.1)), (3, .int (iI zz.2)), (1, .int (iI t)), (0, .ref a_M)]) (fun zz => (0 ≤ zz.2 ∧ zz.2 ≤ W * h) ∧ zz.1 = cnI (msP n pc t) zz.2) (fun zz => (W * h - zz.2).toNat) (0, 0) (by
            try dsimp only
            exact ⟨by omega, rfl⟩) [1, 0, 3, 2] rfl rfl ?_
    rintro ⟨c, k⟩ hI ih17
    try dsimp only at hI ih17 ⊢
    obtain ⟨hk, rfl⟩ := hI
    refine g_iload_n 18 C 1 dX6_missing_17 rfl rfl ?_
    refine g_aload_n 19 C 3 dX6_missing_18 rfl rfl ?_
    refine g_callVF 22 C [0] dX6_missing_19 rfl (k_X6_pieces E l  ) (cwV 0 C.2.2.2.2.1 gX6_missing_X6_pieces rfl rfl rfl cdX6_pieces ⟨Nat.le_of_ble_eq_true rfl, Nat.le_of_ble_eq_true rfl⟩) rfl rfl rfl rfl (Nat.le_of_ble_eq_true rfl) 0 6 rfl rfl rfl ⟨Nat.le_of_ble_eq_true rfl, Nat.le_of_ble_eq_true rfl⟩ ?_
    refine g_icmp_ge 48 25 C dX6_missing_22 (by decide) rfl (by omega) ?_ ?_
    · intro h22
      refine g_iload_n 49 C 0 dX6_missing_48 rfl rfl ?_
      exact g_iret C hr dX6_missing_49 ⟨g_ri ((by rw [show k = W * h by omega] : _ = _).trans (if_pos (by omega)).symm), rfl⟩
    · intro h22
      refine g_iload_n 26 C 0 dX6_missing_25 rfl rfl ?_
      refine g_aload_n 27 C 3 dX6_missing_26 rfl rfl ?_
      refine g_iload_n 28 C 2 dX6_missing_27 rfl rfl ?_
      refine g_iload_n 29 C 1 dX6_missing_28 rfl rfl ?_
      refine g_callVF 32 C [0, 1] dX6_missing_29 rfl (k_X6_isMissing E l  (by first | assumption | omega) (by first | assumption | omega) (by first | assumption | omega) (by first | assumption | omega)) (cwV 2 C.2.2.2.2.1 gX6_missing_X6_isMissing rfl rfl rfl cdX6_isMissing ⟨Nat.le_of_ble_eq_true rfl, Nat.le_of_ble_eq_true rfl⟩) rfl rfl rfl rfl (Nat.le_of_ble_eq_true rfl) 0 6 rfl rfl rfl ⟨Nat.le_of_ble_eq_true rfl, Nat.le_of_ble_eq_true rfl⟩ ?_
      refine g_ifb_eq 39 35 C dX6_missing_32 (by decide) rfl ?_ ?_
      · intro h32
        refine g_iconst 40 C dX6_missing_39 rfl ?_
        refine g_iadd 41 C dX6_missing_40 rfl ?_
        refine g_istore_n (lv' := [(2, _), (3, _), (1, _), (0, _)]) 42 C dX6_missing_41 rfl rfl (by decide) rfl ?_
        refine g_iinc (lv' := [(3, _), (2, _), (1, _), (0, _)]) 45 C 1 dX6_missing_42 rfl rfl (by decide) rfl ?_
        refine g_goto 17 C dX6_missing_45 (by decide) ?_
        first
        | exact g_w [1, 0, 2, 3] rfl rfl (ih17 ((cnI (msP n pc t) k + 1), (k + 1)) (by
            try dsimp only
            exact ⟨by omega, by first | exact (cnI_st (msP n pc t) hk.1 (by assumption)).symm | exact (Int.add_zero _).trans (cnI_sf (msP n pc t) hk.1 (by assumption)).symm⟩) (by (try dsimp only); omega))
        | exact g_w [1, 0, 2, 3] rfl rfl (ih17 ((cnI (msP n pc t) k + 0), (k + 1)) (by
            try dsimp only
            exact ⟨by omega, by first | exact (cnI_st (msP n pc t) hk.1 (by assumption)).symm | exact (Int.add_zero _).trans (cnI_sf (msP n pc t) hk.1 (by assumption)).symm⟩) (by (try dsimp only); omega))
      · intro h32
        refine g_iconst 36 C dX6_missing_35 rfl ?_
        refine g_goto 40 C dX6_missing_36 (by decide) ?_
        refine g_iadd 41 C dX6_missing_40 rfl ?_
        refine g_istore_n (lv' := [(2, _), (3, _), (1, _), (0, _)]) 42 C dX6_missing_41 rfl rfl (by decide) rfl ?_
        refine g_iinc (lv' := [(3, _), (2, _), (1, _), (0, _)]) 45 C 1 dX6_missing_42 rfl rfl (by decide) rfl ?_
        refine g_goto 17 C dX6_missing_45 (by decide) ?_
        first
        | exact g_w [1, 0, 2, 3] rfl rfl (ih17 ((cnI (msP n pc t) k + 1), (k + 1)) (by
            try dsimp only
            exact ⟨by omega, by first | exact (cnI_st (msP n pc t) hk.1 (by assumption)).symm | exact (Int.add_zero _).trans (cnI_sf (msP n pc t) hk.1 (by assumption)).symm⟩) (by (try dsimp only); omega))
        | exact g_w [1, 0, 2, 3] rfl rfl (ih17 ((cnI (msP n pc t) k + 0), (k + 1)) (by
            try dsimp only
            exact ⟨by omega, by first | exact (cnI_st (msP n pc t) hk.1 (by assumption)).symm | exact (Int.add_zero _).trans (cnI_sf (msP n pc t) hk.1 (by assumption)).symm⟩) (by (try dsimp only); omega))
  · intro h7
    refine g_bipush 12 C dX6_missing_10 rfl (by decide) ?_
    exact g_iret C hr dX6_missing_12 ⟨g_ri ((if_neg (by omega)).symm), rfl⟩
