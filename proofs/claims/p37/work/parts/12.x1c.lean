theorem cdX1_setSide : yX1_setSide.cls = RX1 ∧ yX1_setSide.cls ≠ "java/lang/invoke/MethodHandle" ∧ yX1_setSide.cls ≠ "java/lang/invoke/VarHandle" ∧ (parseMethodDescriptor yX1_setSide.desc).map (fun d => d.parameters.length) = some 3 := by decide +kernel
theorem lX1_layEdges_22 : Cond.fieldLink RX1 22 (TX1 2).1 (TX1 2).2.1 (TX1 2).2.2.1 ∈ wsX1_layEdges := by decide +kernel
theorem lX1_layEdges_26 : Cond.fieldLink RX1 26 (TX1 3).1 (TX1 3).2.1 (TX1 3).2.2.1 ∈ wsX1_layEdges := by decide +kernel
theorem iX1_layEdges_X1 : ∀ w ∈ u_ws RX1 TX1 4, w ∈ wsX1_layEdges := by decide +kernel
set_option maxHeartbeats 4000000 in
set_option maxRecDepth 100000 in
theorem k_X1_layEdges (E : gE) (l : Launch) {a_P a_hs a_se : Nat} {W h x y : Int} {se : Int → Int} (hB : 1 ≤ W ∧ W ≤ 5 ∧ 1 ≤ h ∧ h ≤ 5) (hx : 0 ≤ x ∧ x < W) (hy : 0 ≤ y ∧ y < h) : gUpd E l yX1_layEdges wsX1_layEdges { frames := 1, cells := 0, slots := 0, locals := 24 } [.ref a_P, .int (iI x), .int (iI y)] [(a_P, .inr (1, [.ref a_hs, .ref a_se, .int (iI W), .int (iI h)])), (a_se, aI E 100 se)] none [(a_P, .inr (1, [.ref a_hs, .ref a_se, .int (iI W), .int (iI h)])), (a_se, aI E 100 (leI W h se x y))] := by
  refine g_start (cc := cX1_layEdges) (maxL := 6) (ret := none) (by decide) rfl (Nat.le_of_ble_eq_true rfl) ?_
  intro p_ e_ s_ m_ args_ below_ meth_ c_ A_ C hr hnm
  have hn := nsd_b hB
  have hi := idx_b hB hx hy
  refine g_aload_n 1 C 0 dX1_layEdges_0 rfl rfl ?_
  refine g_get 4 C 0 2 1 iX1_layEdges_X1 lX1_layEdges_22 dX1_layEdges_1 rfl rfl rfl (by decide) rfl ?_
  refine g_iload_n 5 C 2 dX1_layEdges_4 rfl rfl ?_
  refine g_imul 6 C dX1_layEdges_5 rfl ?_
  refine g_iload_n 7 C 1 dX1_layEdges_6 rfl rfl ?_
  refine g_iadd 8 C dX1_layEdges_7 rfl ?_
  refine g_istore_n (lv' := [(3, _), (0, _), (1, _), (2, _)]) 9 C dX1_layEdges_8 rfl rfl (by decide) rfl ?_
  refine g_aload_n 10 C 1 dX1_layEdges_9 rfl rfl ?_
  refine g_get 13 C 0 2 1 iX1_layEdges_X1 lX1_layEdges_22 dX1_layEdges_10 rfl rfl rfl (by decide) rfl ?_
  refine g_iconst 14 C dX1_layEdges_13 rfl ?_
  refine g_isub 15 C dX1_layEdges_14 rfl ?_
  refine g_iload_n 16 C 3 dX1_layEdges_15 rfl rfl ?_
  refine g_imul 17 C dX1_layEdges_16 rfl ?_
  refine g_iload_n 18 C 2 dX1_layEdges_17 rfl rfl ?_
  refine g_iadd 19 C dX1_layEdges_18 rfl ?_
  refine g_istore (lv' := [(4, _), (3, _), (0, _), (1, _), (2, _)]) 21 C dX1_layEdges_19 rfl (by decide) rfl ?_
  refine g_aload_n 22 C 2 dX1_layEdges_21 rfl rfl ?_
  refine g_get 25 C 0 2 1 iX1_layEdges_X1 lX1_layEdges_22 dX1_layEdges_22 rfl rfl rfl (by decide) rfl ?_
  refine g_iconst 26 C dX1_layEdges_25 rfl ?_
  refine g_isub 27 C dX1_layEdges_26 rfl ?_
  refine g_aload_n 28 C 2 dX1_layEdges_27 rfl rfl ?_
  refine g_get 31 C 0 3 1 iX1_layEdges_X1 lX1_layEdges_26 dX1_layEdges_28 rfl rfl rfl (by decide) rfl ?_
  refine g_imul 32 C dX1_layEdges_31 rfl ?_
  refine g_aload_n 33 C 2 dX1_layEdges_32 rfl rfl ?_
  refine g_get 36 C 0 2 1 iX1_layEdges_X1 lX1_layEdges_22 dX1_layEdges_33 rfl rfl rfl (by decide) rfl ?_
  refine g_iload_n 37 C 4 dX1_layEdges_36 rfl rfl ?_
  refine g_imul 38 C dX1_layEdges_37 rfl ?_
  refine g_iadd 39 C dX1_layEdges_38 rfl ?_
  refine g_iload_n 40 C 3 dX1_layEdges_39 rfl rfl ?_
  refine g_iadd 41 C dX1_layEdges_40 rfl ?_
  refine g_istore (lv' := [(5, _), (4, _), (3, _), (0, _), (1, _), (2, _)]) 43 C dX1_layEdges_41 rfl (by decide) rfl ?_
  refine g_aload_n 44 C 3 dX1_layEdges_43 rfl rfl ?_
  refine g_iload_n 45 C 2 dX1_layEdges_44 rfl rfl ?_
  refine g_iconst 46 C dX1_layEdges_45 rfl ?_
  refine g_iload_n 47 C 5 dX1_layEdges_46 rfl rfl ?_
  refine g_joinv 62 1 (if y = 0 then -9 else (W - 1) * h + W * y + x - W) ?_ ?_
  · skip
    refine g_callVU (ws' := [(_, .inr (1, [_, _, _, _])), (_, aI _ _ _)]) 65 C [0, 1] dX1_layEdges_62 rfl (k_X1_setSide E l  (by first | assumption | omega) (by first | assumption | omega)) (cwV 3 C.2.2.2.2.1 gX1_layEdges_X1_setSide rfl rfl rfl cdX1_setSide ⟨Nat.le_of_ble_eq_true rfl, Nat.le_of_ble_eq_true rfl⟩) rfl rfl rfl rfl (Nat.le_of_ble_eq_true rfl) 0 1 rfl rfl rfl ⟨Nat.le_of_ble_eq_true rfl, Nat.le_of_ble_eq_true rfl⟩ rfl rfl ?_
    refine g_aload_n 66 C 3 dX1_layEdges_65 rfl rfl ?_
    refine g_iload_n 67 C 2 dX1_layEdges_66 rfl rfl ?_
    refine g_iconst 68 C dX1_layEdges_67 rfl ?_
    refine g_iload_n 69 C 4 dX1_layEdges_68 rfl rfl ?_
    refine g_aload_n 70 C 3 dX1_layEdges_69 rfl rfl ?_
    refine g_get 73 C 0 2 1 iX1_layEdges_X1 lX1_layEdges_22 dX1_layEdges_70 rfl rfl rfl (by decide) rfl ?_
    refine g_iconst 74 C dX1_layEdges_73 rfl ?_
    refine g_isub 75 C dX1_layEdges_74 rfl ?_
    refine g_joinv 85 2 (if x = W - 1 then -9 else (W - 1) * y + x) ?_ ?_
    · skip
      refine g_callVU (ws' := [(_, .inr (1, [_, _, _, _])), (_, aI _ _ _)]) 88 C [0, 1] dX1_layEdges_85 rfl (k_X1_setSide E l  (by first | assumption | omega) (by first | assumption | omega)) (cwV 3 C.2.2.2.2.1 gX1_layEdges_X1_setSide rfl rfl rfl cdX1_setSide ⟨Nat.le_of_ble_eq_true rfl, Nat.le_of_ble_eq_true rfl⟩) rfl rfl rfl rfl (Nat.le_of_ble_eq_true rfl) 0 1 rfl rfl rfl ⟨Nat.le_of_ble_eq_true rfl, Nat.le_of_ble_eq_true rfl⟩ rfl rfl ?_
      refine g_aload_n 89 C 3 dX1_layEdges_88 rfl rfl ?_
      refine g_iload_n 90 C 2 dX1_layEdges_89 rfl rfl ?_
      refine g_iconst 91 C dX1_layEdges_90 rfl ?_
      refine g_iload_n 92 C 5 dX1_layEdges_91 rfl rfl ?_
      refine g_aload_n 93 C 3 dX1_layEdges_92 rfl rfl ?_
      refine g_get 96 C 0 3 1 iX1_layEdges_X1 lX1_layEdges_26 dX1_layEdges_93 rfl rfl rfl (by decide) rfl ?_
      refine g_iconst 97 C dX1_layEdges_96 rfl ?_
      refine g_isub 98 C dX1_layEdges_97 rfl ?_
      refine g_joinv 108 2 (if y = h - 1 then -9 else (W - 1) * h + W * y + x) ?_ ?_
      · skip
        refine g_callVU (ws' := [(_, .inr (1, [_, _, _, _])), (_, aI _ _ _)]) 111 C [0, 1] dX1_layEdges_108 rfl (k_X1_setSide E l  (by first | assumption | omega) (by first | assumption | omega)) (cwV 3 C.2.2.2.2.1 gX1_layEdges_X1_setSide rfl rfl rfl cdX1_setSide ⟨Nat.le_of_ble_eq_true rfl, Nat.le_of_ble_eq_true rfl⟩) rfl rfl rfl rfl (Nat.le_of_ble_eq_true rfl) 0 1 rfl rfl rfl ⟨Nat.le_of_ble_eq_true rfl, Nat.le_of_ble_eq_true rfl⟩ rfl rfl ?_
        refine g_aload_n 112 C 3 dX1_layEdges_111 rfl rfl ?_
        refine g_iload_n 113 C 2 dX1_layEdges_112 rfl rfl ?_
        refine g_iconst 114 C dX1_layEdges_113 rfl ?_
        refine g_iload_n 115 C 4 dX1_layEdges_114 rfl rfl ?_
        refine g_joinv 127 1 (if x = 0 then -9 else (W - 1) * y + x - 1) ?_ ?_
        · skip
          refine g_callVU (ws' := [(_, .inr (1, [_, _, _, _])), (_, aI _ _ _)]) 130 C [0, 1] dX1_layEdges_127 rfl (k_X1_setSide E l  (by first | assumption | omega) (by first | assumption | omega)) (cwV 3 C.2.2.2.2.1 gX1_layEdges_X1_setSide rfl rfl rfl cdX1_setSide ⟨Nat.le_of_ble_eq_true rfl, Nat.le_of_ble_eq_true rfl⟩) rfl rfl rfl rfl (Nat.le_of_ble_eq_true rfl) 0 1 rfl rfl rfl ⟨Nat.le_of_ble_eq_true rfl, Nat.le_of_ble_eq_true rfl⟩ rfl rfl ?_
          exact g_vret C hr dX1_layEdges_130 ⟨rfl, rfl⟩
        · intro kj
          refine g_if_ne 123 118 C dX1_layEdges_115 (by decide) rfl (by omega) ?_ ?_
          · intro h115
            refine g_iload 125 C 1 dX1_layEdges_123 rfl rfl ?_
            refine g_iconst 126 C dX1_layEdges_125 rfl ?_
            refine g_isub 127 C dX1_layEdges_126 rfl ?_
            exact kj _ (by first | rfl | omega | exact (if_pos (by omega)).symm | exact (if_neg (by omega)).symm)
          · intro h115
            refine g_bipush 120 C dX1_layEdges_118 rfl (by decide) ?_
            refine g_goto 127 C dX1_layEdges_120 (by decide) ?_
            exact kj _ (by first | rfl | omega | exact (if_pos (by omega)).symm | exact (if_neg (by omega)).symm)
      · intro kj
        refine g_icmp_ne 106 101 C dX1_layEdges_98 (by decide) rfl (by omega) ?_ ?_
        · intro h98
          refine g_iload 108 C 0 dX1_layEdges_106 rfl rfl ?_
          exact kj _ (by first | rfl | omega | exact (if_pos (by omega)).symm | exact (if_neg (by omega)).symm)
        · intro h98
          refine g_bipush 103 C dX1_layEdges_101 rfl (by decide) ?_
          refine g_goto 108 C dX1_layEdges_103 (by decide) ?_
          exact kj _ (by first | rfl | omega | exact (if_pos (by omega)).symm | exact (if_neg (by omega)).symm)
    · intro kj
      refine g_icmp_ne 83 78 C dX1_layEdges_75 (by decide) rfl (by omega) ?_ ?_
      · intro h75
        refine g_iload 85 C 1 dX1_layEdges_83 rfl rfl ?_
        exact kj _ (by first | rfl | omega | exact (if_pos (by omega)).symm | exact (if_neg (by omega)).symm)
      · intro h75
        refine g_bipush 80 C dX1_layEdges_78 rfl (by decide) ?_
        refine g_goto 85 C dX1_layEdges_80 (by decide) ?_
        exact kj _ (by first | rfl | omega | exact (if_pos (by omega)).symm | exact (if_neg (by omega)).symm)
  · intro kj
    refine g_if_ne 55 50 C dX1_layEdges_47 (by decide) rfl (by omega) ?_ ?_
    · intro h47
      refine g_iload 57 C 0 dX1_layEdges_55 rfl rfl ?_
      refine g_aload_n 58 C 3 dX1_layEdges_57 rfl rfl ?_
      refine g_get 61 C 0 2 1 iX1_layEdges_X1 lX1_layEdges_22 dX1_layEdges_58 rfl rfl rfl (by decide) rfl ?_
      refine g_isub 62 C dX1_layEdges_61 rfl ?_
      exact kj _ (by first | rfl | omega | exact (if_pos (by omega)).symm | exact (if_neg (by omega)).symm)
    · intro h47
      refine g_bipush 52 C dX1_layEdges_50 rfl (by decide) ?_
      refine g_goto 62 C dX1_layEdges_52 (by decide) ?_
      exact kj _ (by first | rfl | omega | exact (if_pos (by omega)).symm | exact (if_neg (by omega)).symm)
theorem cdX1_layEdges : yX1_layEdges.cls = RX1 ∧ yX1_layEdges.cls ≠ "java/lang/invoke/MethodHandle" ∧ yX1_layEdges.cls ≠ "java/lang/invoke/VarHandle" ∧ (parseMethodDescriptor yX1_layEdges.desc).map (fun d => d.parameters.length) = some 2 := by decide +kernel
theorem lX1_cutAnew_22 : Cond.fieldLink RX1 22 (TX1 2).1 (TX1 2).2.1 (TX1 2).2.2.1 ∈ wsX1_cutAnew := by decide +kernel
theorem lX1_cutAnew_26 : Cond.fieldLink RX1 26 (TX1 3).1 (TX1 3).2.1 (TX1 3).2.2.1 ∈ wsX1_cutAnew := by decide +kernel
theorem lX1_cutAnew_9 : Cond.fieldLink RX1 9 (TX1 0).1 (TX1 0).2.1 (TX1 0).2.2.1 ∈ wsX1_cutAnew := by decide +kernel
theorem iX1_cutAnew_X1 : ∀ w ∈ u_ws RX1 TX1 4, w ∈ wsX1_cutAnew := by decide +kernel
set_option maxHeartbeats 4000000 in
set_option maxRecDepth 100000 in
theorem k_X1_cutAnew (E : gE) (l : Launch) {a_P a_hs a_se : Nat} {W h W0 h0 : Int} {hs se : Int → Int} (hB : 1 ≤ W ∧ W ≤ 5 ∧ 1 ≤ h ∧ h ≤ 5) : gMet E l yX1_cutAnew wsX1_cutAnew { frames := 2, cells := 0, slots := 0, locals := 49 } 0 0 [.ref a_P, .int (iI W), .int (iI h)] [(a_P, .inr (1, [.ref a_hs, .ref a_se, .int (iI W0), .int (iI h0)])), (a_hs, aI E 200 hs), (a_se, aI E 100 se)] (fun v w => ∃ f : Int → Int, (v = none ∧ ∀ p e : Int, 0 ≤ p ∧ p < W * h → 0 ≤ e ∧ e < 4 → f (p * 4 + e) = sdI W h p e) ∧ w = [(a_P, .inr (1, [.ref a_hs, .ref a_se, .int (iI W), .int (iI h)])), (a_hs, aI E 200 (zrI hs 200)), (a_se, aI E 100 f)]) := by
  refine g_start (cc := cX1_cutAnew) (maxL := 5) (ret := none) (by decide) rfl (Nat.le_of_ble_eq_true rfl) ?_
  intro p_ e_ s_ m_ args_ below_ meth_ c_ A_ C hr hnm
  have hn := nsd_b hB
  refine g_aload_n 1 C 0 dX1_cutAnew_0 rfl rfl ?_
  refine g_iload_n 2 C 1 dX1_cutAnew_1 rfl rfl ?_
  refine g_put (ws' := [(_, .inr (1, [_, _, _, _])), (_, aI _ _ _), (_, aI _ _ _)]) 5 C 0 2 1 tyX1 tyX1_ok nmX1 iX1_cutAnew_X1 lX1_cutAnew_22 dX1_cutAnew_2 rfl rfl rfl (by decide) rfl rfl rfl (Nat.le_of_ble_eq_true rfl) rfl ?_
  refine g_aload_n 6 C 0 dX1_cutAnew_5 rfl rfl ?_
  refine g_iload_n 7 C 2 dX1_cutAnew_6 rfl rfl ?_
  refine g_put (ws' := [(_, .inr (1, [_, _, _, _])), (_, aI _ _ _), (_, aI _ _ _)]) 10 C 0 3 1 tyX1 tyX1_ok nmX1 iX1_cutAnew_X1 lX1_cutAnew_26 dX1_cutAnew_7 rfl rfl rfl (by decide) rfl rfl rfl (Nat.le_of_ble_eq_true rfl) rfl ?_
  refine g_iconst 11 C dX1_cutAnew_10 rfl ?_
  refine g_istore_n (lv' := [(3, _), (0, _), (1, _), (2, _)]) 12 C dX1_cutAnew_11 rfl rfl (by decide) rfl ?_
  refine g_loop (α := Int) (fun zz => [(a_P, .inr (1, [.ref a_hs, .ref a_se, .int (iI W), .int (iI h)])), (a_hs, aI E 200 (zrI hs zz)), (a_se, aI E 100 se)]) (fun zz => [(3, .int (iI zz)), (2, .int (iI h)), (1, .int (iI W)), (0, .ref a_P)]) (fun zz => 0 ≤ zz ∧ zz ≤ 200) (fun zz => (200 - zz).toNat) (0) (by (try dsimp only); omega) [0, 3, 2, 1] (by rw [zrI_0]) rfl ?_
  rintro k hI ih12
  try dsimp only at hI ih12 ⊢
  obtain ⟨hk0, hk2⟩ := hI
  refine g_iload_n 13 C 0 dX1_cutAnew_12 rfl rfl ?_
  refine g_aload_n 14 C 3 dX1_cutAnew_13 rfl rfl ?_
  refine g_get 17 C 0 0 1 iX1_cutAnew_X1 lX1_cutAnew_9 dX1_cutAnew_14 rfl rfl rfl (by decide) rfl ?_
  refine g_alenI 18 C 1 dX1_cutAnew_17 rfl rfl ?_
  refine g_icmp_ge 34 21 C dX1_cutAnew_18 (by decide) rfl (by omega) ?_ ?_
  · intro h18
    refine g_iconst 35 C dX1_cutAnew_34 rfl ?_
    refine g_istore_n (lv' := [(3, _), (2, _), (1, _), (0, _)]) 36 C dX1_cutAnew_35 rfl rfl (by decide) rfl ?_
    refine g_loop (α := (Int → Int) × Int) (fun zz => [(a_P, .inr (1, [.ref a_hs, .ref a_se, .int (iI W), .int (iI h)])), (a_hs, aI E 200 (zrI hs 200)), (a_se, aI E 100 zz.1)]) (fun zz => [(3, .int (iI zz.2)), (2, .int (iI h)), (1, .int (iI W)), (0, .ref a_P)]) (fun zz => (0 ≤ zz.2 ∧ zz.2 ≤ h) ∧ ∀ p e : Int, 0 ≤ p ∧ p < W * zz.2 → 0 ≤ e ∧ e < 4 → zz.1 (p * 4 + e) = sdI W h p e) (fun zz => (h - zz.2).toNat) (se, 0) (by
            try dsimp only
            exact ⟨by omega, fun p e q => absurd q (by omega)⟩) [0, 1, 2, 3] (by rw [show k = 200 by omega]) rfl ?_
    rintro ⟨f, y⟩ hI ih36
    try dsimp only at hI ih36 ⊢
    obtain ⟨hy, hf⟩ := hI
    refine g_iload_n 37 C 0 dX1_cutAnew_36 rfl rfl ?_
    refine g_aload_n 38 C 3 dX1_cutAnew_37 rfl rfl ?_
    refine g_get 41 C 0 3 1 iX1_cutAnew_X1 lX1_cutAnew_26 dX1_cutAnew_38 rfl rfl rfl (by decide) rfl ?_
    refine g_icmp_ge 75 44 C dX1_cutAnew_41 (by decide) rfl (by omega) ?_ ?_
    · intro h41
      exact g_vret C hr dX1_cutAnew_75 ⟨_, ⟨rfl, fun p e q => hf p e (by rw [show y = h by omega]; exact q)⟩, rfl⟩
    · intro h41
      refine g_iconst 45 C dX1_cutAnew_44 rfl ?_
      refine g_istore (lv' := [(4, _), (3, _), (2, _), (1, _), (0, _)]) 47 C dX1_cutAnew_45 rfl (by decide) rfl ?_
      refine g_loop (α := (Int → Int) × Int) (fun zz => [(a_P, .inr (1, [.ref a_hs, .ref a_se, .int (iI W), .int (iI h)])), (a_hs, aI E 200 (zrI hs 200)), (a_se, aI E 100 zz.1)]) (fun zz => [(4, .int (iI zz.2)), (3, .int (iI y)), (2, .int (iI h)), (1, .int (iI W)), (0, .ref a_P)]) (fun zz => (0 ≤ zz.2 ∧ zz.2 ≤ W) ∧ ∀ p e : Int, 0 ≤ p ∧ p < W * y + zz.2 → 0 ≤ e ∧ e < 4 → zz.1 (p * 4 + e) = sdI W h p e) (fun zz => (W - zz.2).toNat) (f, 0) (by
            try dsimp only
            exact ⟨by omega, fun p e q => hf p e (by omega)⟩) [0, 1, 2, 3, 4] rfl rfl ?_
      rintro ⟨f, x⟩ hI ih47
      try dsimp only at hI ih47 ⊢
      obtain ⟨hx, hg⟩ := hI
      refine g_iload 49 C 0 dX1_cutAnew_47 rfl rfl ?_
      refine g_aload_n 50 C 4 dX1_cutAnew_49 rfl rfl ?_
      refine g_get 53 C 0 2 1 iX1_cutAnew_X1 lX1_cutAnew_22 dX1_cutAnew_50 rfl rfl rfl (by decide) rfl ?_
      refine g_icmp_ge 69 56 C dX1_cutAnew_53 (by decide) rfl (by omega) ?_ ?_
      · intro h53
        refine g_iinc (lv' := [(3, _), (4, _), (2, _), (1, _), (0, _)]) 72 C 1 dX1_cutAnew_69 rfl rfl (by decide) rfl ?_
        refine g_goto 36 C dX1_cutAnew_72 (by decide) ?_
        exact g_w [0, 2, 3, 4] rfl rfl (ih36 (f, (y + 1)) (by
            try dsimp only
            exact ⟨by omega, fun p e q => hg p e (by rw [show x = W by omega]; rw [Int.mul_add, Int.mul_one] at q; exact q)⟩) (by (try dsimp only); omega))
      · intro h53
        refine g_aload_n 57 C 4 dX1_cutAnew_56 rfl rfl ?_
        refine g_iload 59 C 0 dX1_cutAnew_57 rfl rfl ?_
        refine g_iload_n 60 C 1 dX1_cutAnew_59 rfl rfl ?_
        refine g_callVU (ws' := [(_, .inr (1, [_, _, _, _])), (_, aI _ _ _), (_, aI _ _ _)]) 63 C [0, 2] dX1_cutAnew_60 rfl (k_X1_layEdges E l  (by first | assumption | omega) (by first | assumption | omega) (by first | assumption | omega)) (cwV 2 C.2.2.2.2.1 gX1_cutAnew_X1_layEdges rfl rfl rfl cdX1_layEdges ⟨Nat.le_of_ble_eq_true rfl, Nat.le_of_ble_eq_true rfl⟩) rfl rfl rfl rfl (Nat.le_of_ble_eq_true rfl) 0 1 rfl rfl rfl ⟨Nat.le_of_ble_eq_true rfl, Nat.le_of_ble_eq_true rfl⟩ rfl rfl ?_
        refine g_iinc (lv' := [(4, _), (3, _), (2, _), (1, _), (0, _)]) 66 C 0 dX1_cutAnew_63 rfl rfl (by decide) rfl ?_
        refine g_goto 47 C dX1_cutAnew_66 (by decide) ?_
        exact g_w [0, 1, 2, 3, 4] rfl rfl (ih47 ((leI W h f x y), (x + 1)) (by
            try dsimp only
            exact ⟨by omega, leI_s hB (by omega) (by omega) hg⟩) (by (try dsimp only); omega))
  · intro h18
    refine g_aload_n 22 C 3 dX1_cutAnew_21 rfl rfl ?_
    refine g_get 25 C 0 0 1 iX1_cutAnew_X1 lX1_cutAnew_9 dX1_cutAnew_22 rfl rfl rfl (by decide) rfl ?_
    refine g_iload_n 26 C 0 dX1_cutAnew_25 rfl rfl ?_
    refine g_iconst 27 C dX1_cutAnew_26 rfl ?_
    refine g_iastore (ws' := [(_, .inr (1, [_, _, _, _])), (_, aI _ _ _), (_, aI _ _ _)]) 28 C 1 dX1_cutAnew_27 rfl rfl (by omega) rfl ?_
    refine g_iinc (lv' := [(3, _), (2, _), (1, _), (0, _)]) 31 C 0 dX1_cutAnew_28 rfl rfl (by decide) rfl ?_
    refine g_goto 12 C dX1_cutAnew_31 (by decide) ?_
    exact g_w [0, 1, 2, 3] (by (try dsimp only); rw [← zrI_s hs hk0]) rfl (ih12 ((k + 1)) (by (try dsimp only); omega) (by (try dsimp only); omega))
