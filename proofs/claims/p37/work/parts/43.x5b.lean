theorem cdX1_cutAnew : yX1_cutAnew.cls = RX1 ∧ yX1_cutAnew.cls ≠ "java/lang/invoke/MethodHandle" ∧ yX1_cutAnew.cls ≠ "java/lang/invoke/VarHandle" ∧ (parseMethodDescriptor yX1_cutAnew.desc).map (fun d => d.parameters.length) = some 2 := by decide +kernel
theorem cdX2_clearAll : yX2_clearAll.cls = RX2 ∧ yX2_clearAll.cls ≠ "java/lang/invoke/MethodHandle" ∧ yX2_clearAll.cls ≠ "java/lang/invoke/VarHandle" ∧ (parseMethodDescriptor yX2_clearAll.desc).map (fun d => d.parameters.length) = some 0 := by decide +kernel
theorem lX5_picture_12 : Cond.fieldLink RX5 12 (TX5 0).1 (TX5 0).2.1 (TX5 0).2.2.1 ∈ wsX5_picture := by decide +kernel
theorem lX5_picture_21 : Cond.fieldLink RX5 21 (TX5 1).1 (TX5 1).2.1 (TX5 1).2.2.1 ∈ wsX5_picture := by decide +kernel
theorem lX5_picture_30 : Cond.fieldLink RX5 30 (TX5 2).1 (TX5 2).2.1 (TX5 2).2.2.1 ∈ wsX5_picture := by decide +kernel
theorem iX5_picture_X5 : ∀ w ∈ u_ws RX5 TX5 7, w ∈ wsX5_picture := by decide +kernel
set_option maxHeartbeats 4000000 in
set_option maxRecDepth 100000 in
theorem k_X5_picture (E : gE) (l : Launch) {a_D a_L a_P a_Q a_R a_X a_fi a_hs a_jl a_ly a_pc a_se a_sh a_tn a_us a_wa : Nat} {W h Wn Hn n : Int} {hs se : Int → Int} {tr ft : Int} {jo fo sp fd tc : Int} (ha : -2147483648 ≤ Wn ∧ Wn < 2147483648) (hb : -2147483648 ≤ Hn ∧ Hn < 2147483648) : gMet E l yX5_picture wsX5_picture { frames := 3, cells := 0, slots := 0, locals := 73 } 0 0 [.ref a_X, .int (iI Wn), .int (iI Hn)] [(a_X, .inr (5, [.ref a_P, .ref a_L, .ref a_R, .ref a_D, .ref a_Q, .int (iI tr), .int (iI ft)])), (a_P, .inr (1, [.ref a_hs, .ref a_se, .int (iI W), .int (iI h)])), (a_hs, aI E 200 hs), (a_se, aI E 100 se), (a_L, .inr (2, [.ref a_pc, .ref a_tn, .int (iI n)])), (a_R, .inr (3, [.ref a_P, .ref a_L, .ref a_sh, .ref a_fi, .ref a_wa, .ref a_us, .ref a_ly, .ref a_jl, .int (iI jo), .int (iI fo), .int (iI sp), .int (iI fd), .int (iI tc)]))] (fun v w => ∃ f : Int → Int, (v = some (.int (iI (if 1 ≤ Wn ∧ Wn ≤ 5 ∧ 1 ≤ Hn ∧ Hn ≤ 5 then nsd Wn Hn else -2))) ∧ ((1 ≤ Wn ∧ Wn ≤ 5 ∧ 1 ≤ Hn ∧ Hn ≤ 5) → ∀ p e : Int, 0 ≤ p ∧ p < Wn * Hn → 0 ≤ e ∧ e < 4 → f (p * 4 + e) = sdI Wn Hn p e) ∧ (¬ (1 ≤ Wn ∧ Wn ≤ 5 ∧ 1 ≤ Hn ∧ Hn ≤ 5) → f = se)) ∧ w = [(a_X, .inr (5, [.ref a_P, .ref a_L, .ref a_R, .ref a_D, .ref a_Q, .int (iI tr), .int (iI ft)])), (a_P, .inr (1, [.ref a_hs, .ref a_se, .int (iI (if 1 ≤ Wn ∧ Wn ≤ 5 ∧ 1 ≤ Hn ∧ Hn ≤ 5 then Wn else W)), .int (iI (if 1 ≤ Wn ∧ Wn ≤ 5 ∧ 1 ≤ Hn ∧ Hn ≤ 5 then Hn else h))])), (a_hs, aI E 200 (if 1 ≤ Wn ∧ Wn ≤ 5 ∧ 1 ≤ Hn ∧ Hn ≤ 5 then zrI hs 200 else hs)), (a_se, aI E 100 f), (a_L, .inr (2, [.ref a_pc, .ref a_tn, .int (iI (if 1 ≤ Wn ∧ Wn ≤ 5 ∧ 1 ≤ Hn ∧ Hn ≤ 5 then 0 else n))])), (a_R, .inr (3, [.ref a_P, .ref a_L, .ref a_sh, .ref a_fi, .ref a_wa, .ref a_us, .ref a_ly, .ref a_jl, .int (iI (if 1 ≤ Wn ∧ Wn ≤ 5 ∧ 1 ≤ Hn ∧ Hn ≤ 5 then 0 else jo)), .int (iI fo), .int (iI sp), .int (iI fd), .int (iI tc)]))]) := by
  refine g_start (cc := cX5_picture) (maxL := 3) (ret := (some .int)) (by decide) rfl (Nat.le_of_ble_eq_true rfl) ?_
  intro p_ e_ s_ m_ args_ below_ meth_ c_ A_ C hr hnm
  refine g_iload_n 1 C 1 dX5_picture_0 rfl rfl ?_
  refine g_iconst 2 C dX5_picture_1 rfl ?_
  refine g_icmp_lt 20 5 C dX5_picture_2 (by decide) rfl (by omega) ?_ ?_
  · intro h2
    refine g_bipush 22 C dX5_picture_20 rfl (by decide) ?_
    exact g_iret C hr dX5_picture_22 ⟨se, ⟨g_ri (if_neg (by omega)).symm, fun q => by omega, fun _ => rfl⟩, by (have hg : ¬ (1 ≤ Wn ∧ Wn ≤ 5 ∧ 1 ≤ Hn ∧ Hn ≤ 5) := (by omega)); simp only [if_neg hg]⟩
  · intro h2
    refine g_iload_n 6 C 1 dX5_picture_5 rfl rfl ?_
    refine g_iconst 7 C dX5_picture_6 rfl ?_
    refine g_icmp_gt 20 10 C dX5_picture_7 (by decide) rfl (by omega) ?_ ?_
    · intro h7
      refine g_bipush 22 C dX5_picture_20 rfl (by decide) ?_
      exact g_iret C hr dX5_picture_22 ⟨se, ⟨g_ri (if_neg (by omega)).symm, fun q => by omega, fun _ => rfl⟩, by (have hg : ¬ (1 ≤ Wn ∧ Wn ≤ 5 ∧ 1 ≤ Hn ∧ Hn ≤ 5) := (by omega)); simp only [if_neg hg]⟩
    · intro h7
      refine g_iload_n 11 C 2 dX5_picture_10 rfl rfl ?_
      refine g_iconst 12 C dX5_picture_11 rfl ?_
      refine g_icmp_lt 20 15 C dX5_picture_12 (by decide) rfl (by omega) ?_ ?_
      · intro h12
        refine g_bipush 22 C dX5_picture_20 rfl (by decide) ?_
        exact g_iret C hr dX5_picture_22 ⟨se, ⟨g_ri (if_neg (by omega)).symm, fun q => by omega, fun _ => rfl⟩, by (have hg : ¬ (1 ≤ Wn ∧ Wn ≤ 5 ∧ 1 ≤ Hn ∧ Hn ≤ 5) := (by omega)); simp only [if_neg hg]⟩
      · intro h12
        refine g_iload_n 16 C 2 dX5_picture_15 rfl rfl ?_
        refine g_iconst 17 C dX5_picture_16 rfl ?_
        refine g_icmp_le 23 20 C dX5_picture_17 (by decide) rfl (by omega) ?_ ?_
        · intro h17
          refine g_aload_n 24 C 0 dX5_picture_23 rfl rfl ?_
          refine g_get 27 C 0 0 5 iX5_picture_X5 lX5_picture_12 dX5_picture_24 rfl rfl rfl (by decide) rfl ?_
          refine g_iload_n 28 C 1 dX5_picture_27 rfl rfl ?_
          refine g_iload_n 29 C 2 dX5_picture_28 rfl rfl ?_
          refine g_callV 32 C [1, 2, 3] dX5_picture_29 rfl (k_X1_cutAnew E l  (by omega)) (cwV 2 C.2.2.2.2.1 gX5_picture_X1_cutAnew rfl rfl rfl cdX1_cutAnew ⟨Nat.le_of_ble_eq_true rfl, Nat.le_of_ble_eq_true rfl⟩) rfl rfl rfl rfl (Nat.le_of_ble_eq_true rfl) 1 1 rfl rfl rfl ⟨Nat.le_of_ble_eq_true rfl, Nat.le_of_ble_eq_true rfl⟩ (fun v w q => by obtain ⟨f, -, rfl⟩ := q; rfl) ?_
          rintro _ _ ⟨f, ⟨rfl, hf⟩, rfl⟩
          refine g_w (ws' := [(_, .inr (5, [_, _, _, _, _, _, _])), (_, .inr (1, [_, _, _, _])), (_, aI _ _ _), (_, aI _ _ _), (_, .inr (2, [_, _, _])), (_, .inr (3, [_, _, _, _, _, _, _, _, _, _, _, _, _]))]) [0, 1, 2] rfl rfl ?_
          refine g_aload_n 33 C 0 dX5_picture_32 rfl rfl ?_
          refine g_get 36 C 0 1 5 iX5_picture_X5 lX5_picture_21 dX5_picture_33 rfl rfl rfl (by decide) rfl ?_
          refine g_callVU (ws' := [(_, .inr (5, [_, _, _, _, _, _, _])), (_, .inr (1, [_, _, _, _])), (_, aI _ _ _), (_, aI _ _ _), (_, .inr (2, [_, _, _])), (_, .inr (3, [_, _, _, _, _, _, _, _, _, _, _, _, _]))]) 39 C [4] dX5_picture_36 rfl (k_X2_clearAll E l  ) (cwV 0 C.2.2.2.2.1 gX5_picture_X2_clearAll rfl rfl rfl cdX2_clearAll ⟨Nat.le_of_ble_eq_true rfl, Nat.le_of_ble_eq_true rfl⟩) rfl rfl rfl rfl (Nat.le_of_ble_eq_true rfl) 4 2 rfl rfl rfl ⟨Nat.le_of_ble_eq_true rfl, Nat.le_of_ble_eq_true rfl⟩ rfl rfl ?_
          refine g_aload_n 40 C 0 dX5_picture_39 rfl rfl ?_
          refine g_get 43 C 0 2 5 iX5_picture_X5 lX5_picture_30 dX5_picture_40 rfl rfl rfl (by decide) rfl ?_
          refine g_callVU (ws' := [(_, .inr (5, [_, _, _, _, _, _, _])), (_, .inr (1, [_, _, _, _])), (_, aI _ _ _), (_, aI _ _ _), (_, .inr (2, [_, _, _])), (_, .inr (3, [_, _, _, _, _, _, _, _, _, _, _, _, _]))]) 46 C [5] dX5_picture_43 rfl (k_X3_forgetJoined E l  ) (cwV 0 C.2.2.2.2.1 gX5_picture_X3_forgetJoined rfl rfl rfl cdX3_forgetJoined ⟨Nat.le_of_ble_eq_true rfl, Nat.le_of_ble_eq_true rfl⟩) rfl rfl rfl rfl (Nat.le_of_ble_eq_true rfl) 5 3 rfl rfl rfl ⟨Nat.le_of_ble_eq_true rfl, Nat.le_of_ble_eq_true rfl⟩ rfl rfl ?_
          refine g_aload_n 47 C 0 dX5_picture_46 rfl rfl ?_
          refine g_get 50 C 0 0 5 iX5_picture_X5 lX5_picture_12 dX5_picture_47 rfl rfl rfl (by decide) rfl ?_
          refine g_callVF 53 C [1] dX5_picture_50 rfl (k_X1_sides E l  ) (cwV 0 C.2.2.2.2.1 gX5_picture_X1_sides rfl rfl rfl cdX1_sides ⟨Nat.le_of_ble_eq_true rfl, Nat.le_of_ble_eq_true rfl⟩) rfl rfl rfl rfl (Nat.le_of_ble_eq_true rfl) 1 1 rfl rfl rfl ⟨Nat.le_of_ble_eq_true rfl, Nat.le_of_ble_eq_true rfl⟩ ?_
          exact g_iret C hr dX5_picture_53 ⟨f, ⟨g_ri (if_pos (by omega)).symm, fun _ => hf, fun q => by omega⟩, by (have hg : 1 ≤ Wn ∧ Wn ≤ 5 ∧ 1 ≤ Hn ∧ Hn ≤ 5 := (by omega)); simp only [if_pos hg]⟩
        · intro h17
          refine g_bipush 22 C dX5_picture_20 rfl (by decide) ?_
          exact g_iret C hr dX5_picture_22 ⟨se, ⟨g_ri (if_neg (by omega)).symm, fun q => by omega, fun _ => rfl⟩, by (have hg : ¬ (1 ≤ Wn ∧ Wn ≤ 5 ∧ 1 ≤ Hn ∧ Hn ≤ 5) := (by omega)); simp only [if_neg hg]⟩
theorem cdX0_begin : yX0_begin.cls = RX0 ∧ yX0_begin.cls ≠ "java/lang/invoke/MethodHandle" ∧ yX0_begin.cls ≠ "java/lang/invoke/VarHandle" ∧ (parseMethodDescriptor yX0_begin.desc).map (fun d => d.parameters.length) = some 1 := by decide +kernel
theorem cdX0_below : yX0_below.cls = RX0 ∧ yX0_below.cls ≠ "java/lang/invoke/MethodHandle" ∧ yX0_below.cls ≠ "java/lang/invoke/VarHandle" ∧ (parseMethodDescriptor yX0_below.desc).map (fun d => d.parameters.length) = some 1 := by decide +kernel
theorem lX5_make_12 : Cond.fieldLink RX5 12 (TX5 0).1 (TX5 0).2.1 (TX5 0).2.2.1 ∈ wsX5_make := by decide +kernel
theorem lX5_make_30 : Cond.fieldLink RX5 30 (TX5 2).1 (TX5 2).2.1 (TX5 2).2.2.1 ∈ wsX5_make := by decide +kernel
theorem lX5_make_37 : Cond.fieldLink RX5 37 (TX5 3).1 (TX5 3).2.1 (TX5 3).2.2.1 ∈ wsX5_make := by decide +kernel
theorem iX5_make_X5 : ∀ w ∈ u_ws RX5 TX5 7, w ∈ wsX5_make := by decide +kernel
set_option maxHeartbeats 4000000 in
set_option maxRecDepth 100000 in
theorem k_X5_make (E : gE) (l : Launch) {a_D a_L a_P a_Q a_R a_X a_fi a_hs a_jl a_ly a_se a_sh a_us a_wa : Nat} {W h : Int} {hs : Int → Int} {now sd : Int64} {tr ft : Int} {jo fo sp fd tc : Int} (hB : 1 ≤ W ∧ W ≤ 5 ∧ 1 ≤ h ∧ h ≤ 5) : gUpd E l yX5_make wsX5_make { frames := 1, cells := 0, slots := 0, locals := 24 } [.ref a_X, .long sd] [(a_X, .inr (5, [.ref a_P, .ref a_L, .ref a_R, .ref a_D, .ref a_Q, .int (iI tr), .int (iI ft)])), (a_P, .inr (1, [.ref a_hs, .ref a_se, .int (iI W), .int (iI h)])), (a_hs, aI E 200 hs), (a_D, .inr (0, [.long now])), (a_R, .inr (3, [.ref a_P, .ref a_L, .ref a_sh, .ref a_fi, .ref a_wa, .ref a_us, .ref a_ly, .ref a_jl, .int (iI jo), .int (iI fo), .int (iI sp), .int (iI fd), .int (iI tc)]))] (some (.int (iI 1))) [(a_X, .inr (5, [.ref a_P, .ref a_L, .ref a_R, .ref a_D, .ref a_Q, .int (iI tr), .int (iI ft)])), (a_P, .inr (1, [.ref a_hs, .ref a_se, .int (iI W), .int (iI h)])), (a_hs, aI E 200 (mkI sd hs (nsd W h * 5))), (a_D, .inr (0, [.long (dnT sd (nsd W h * 5))])), (a_R, .inr (3, [.ref a_P, .ref a_L, .ref a_sh, .ref a_fi, .ref a_wa, .ref a_us, .ref a_ly, .ref a_jl, .int (iI 0), .int (iI fo), .int (iI sp), .int (iI fd), .int (iI tc)]))] := by
  refine g_start (cc := cX5_make) (maxL := 5) (ret := (some .int)) (by decide) rfl (Nat.le_of_ble_eq_true rfl) ?_
  intro p_ e_ s_ m_ args_ below_ meth_ c_ A_ C hr hnm
  have hn := nsd_b hB
  refine g_aload_n 1 C 0 dX5_make_0 rfl rfl ?_
  refine g_get 4 C 0 3 5 iX5_make_X5 lX5_make_37 dX5_make_1 rfl rfl rfl (by decide) rfl ?_
  refine g_lload_n 5 C 1 dX5_make_4 rfl rfl ?_
  refine g_callVU (ws' := [(_, .inr (5, [_, _, _, _, _, _, _])), (_, .inr (1, [_, _, _, _])), (_, aI _ _ _), (_, .inr (0, [_])), (_, .inr (3, [_, _, _, _, _, _, _, _, _, _, _, _, _]))]) 8 C [3] dX5_make_5 rfl (k_X0_begin E l  ) (cwV 1 C.2.2.2.2.1 gX5_make_X0_begin rfl rfl rfl cdX0_begin ⟨Nat.le_of_ble_eq_true rfl, Nat.le_of_ble_eq_true rfl⟩) rfl rfl rfl rfl (Nat.le_of_ble_eq_true rfl) 3 0 rfl rfl rfl ⟨Nat.le_of_ble_eq_true rfl, Nat.le_of_ble_eq_true rfl⟩ (by simp only [List.map_cons, List.map_nil]) rfl ?_
  refine g_iconst 9 C dX5_make_8 rfl ?_
  refine g_istore_n (lv' := [(3, _), (0, _), (1, _)]) 10 C dX5_make_9 rfl rfl (by decide) rfl ?_
  refine g_loop (α := Int) (fun zz => [(a_X, .inr (5, [.ref a_P, .ref a_L, .ref a_R, .ref a_D, .ref a_Q, .int (iI tr), .int (iI ft)])), (a_P, .inr (1, [.ref a_hs, .ref a_se, .int (iI W), .int (iI h)])), (a_hs, aI E 200 (mkI sd hs (zz * 5))), (a_D, .inr (0, [.long (dnT sd (zz * 5))])), (a_R, .inr (3, [.ref a_P, .ref a_L, .ref a_sh, .ref a_fi, .ref a_wa, .ref a_us, .ref a_ly, .ref a_jl, .int (iI jo), .int (iI fo), .int (iI sp), .int (iI fd), .int (iI tc)]))]) (fun zz => [(3, .int (iI zz)), (1, .long sd), (0, .ref a_X)]) (fun zz => 0 ≤ zz ∧ zz ≤ nsd W h) (fun zz => (nsd W h - zz).toNat) (0) (by (try dsimp only); omega) [0, 2, 1] (by rw [show (0 : Int) * 5 = 0 by omega, mkI_0, dnT_0]) rfl ?_
  rintro k hI ih10
  try dsimp only at hI ih10 ⊢
  obtain ⟨hk0, hkn⟩ := hI
  refine g_iload_n 11 C 0 dX5_make_10 rfl rfl ?_
  refine g_aload_n 12 C 2 dX5_make_11 rfl rfl ?_
  refine g_get 15 C 0 0 5 iX5_make_X5 lX5_make_12 dX5_make_12 rfl rfl rfl (by decide) rfl ?_
  refine g_callVF 18 C [1] dX5_make_15 rfl (k_X1_sides E l  ) (cwV 0 C.2.2.2.2.1 gX5_make_X1_sides rfl rfl rfl cdX1_sides ⟨Nat.le_of_ble_eq_true rfl, Nat.le_of_ble_eq_true rfl⟩) rfl rfl rfl rfl (Nat.le_of_ble_eq_true rfl) 1 1 rfl rfl rfl ⟨Nat.le_of_ble_eq_true rfl, Nat.le_of_ble_eq_true rfl⟩ ?_
  refine g_icmp_ge 64 21 C dX5_make_18 (by decide) rfl (by omega) ?_ ?_
  · intro h18
    refine g_aload_n 65 C 2 dX5_make_64 rfl rfl ?_
    refine g_get 68 C 0 2 5 iX5_make_X5 lX5_make_30 dX5_make_65 rfl rfl rfl (by decide) rfl ?_
    refine g_callVU (ws' := [(_, .inr (5, [_, _, _, _, _, _, _])), (_, .inr (1, [_, _, _, _])), (_, aI _ _ _), (_, .inr (0, [_])), (_, .inr (3, [_, _, _, _, _, _, _, _, _, _, _, _, _]))]) 71 C [4] dX5_make_68 rfl (k_X3_forgetJoined E l  ) (cwV 0 C.2.2.2.2.1 gX5_make_X3_forgetJoined rfl rfl rfl cdX3_forgetJoined ⟨Nat.le_of_ble_eq_true rfl, Nat.le_of_ble_eq_true rfl⟩) rfl rfl rfl rfl (Nat.le_of_ble_eq_true rfl) 4 3 rfl rfl rfl ⟨Nat.le_of_ble_eq_true rfl, Nat.le_of_ble_eq_true rfl⟩ rfl rfl ?_
    refine g_iconst 72 C dX5_make_71 rfl ?_
    exact g_iret C hr dX5_make_72 ⟨g_ri (rfl), by rw [show nsd W h = k by omega]⟩
  · intro h18
    refine g_iconst 22 C dX5_make_21 rfl ?_
    refine g_istore (lv' := [(4, _), (3, _), (1, _), (0, _)]) 24 C dX5_make_22 rfl (by decide) rfl ?_
    refine g_loop (α := Int) (fun zz => [(a_X, .inr (5, [.ref a_P, .ref a_L, .ref a_R, .ref a_D, .ref a_Q, .int (iI tr), .int (iI ft)])), (a_P, .inr (1, [.ref a_hs, .ref a_se, .int (iI W), .int (iI h)])), (a_hs, aI E 200 (mkI sd hs (k * 5 + zz))), (a_D, .inr (0, [.long (dnT sd (k * 5 + zz))])), (a_R, .inr (3, [.ref a_P, .ref a_L, .ref a_sh, .ref a_fi, .ref a_wa, .ref a_us, .ref a_ly, .ref a_jl, .int (iI jo), .int (iI fo), .int (iI sp), .int (iI fd), .int (iI tc)]))]) (fun zz => [(4, .int (iI zz)), (3, .int (iI k)), (1, .long sd), (0, .ref a_X)]) (fun zz => 0 ≤ zz ∧ zz ≤ 5) (fun zz => (5 - zz).toNat) (0) (by (try dsimp only); omega) [0, 1, 2, 3] (by rw [show k * 5 + 0 = k * 5 by omega]) rfl ?_
    rintro i hI ih24
    try dsimp only at hI ih24 ⊢
    obtain ⟨hi0, hi5⟩ := hI
    refine g_iload 26 C 0 dX5_make_24 rfl rfl ?_
    refine g_iconst 27 C dX5_make_26 rfl ?_
    refine g_icmp_ge 58 30 C dX5_make_27 (by decide) rfl (by omega) ?_ ?_
    · intro h27
      refine g_iinc (lv' := [(3, _), (4, _), (1, _), (0, _)]) 61 C 1 dX5_make_58 rfl rfl (by decide) rfl ?_
      refine g_goto 10 C dX5_make_61 (by decide) ?_
      exact g_w [0, 2, 3] (by (try dsimp only); rw [show (k + 1) * 5 = k * 5 + i by omega]) rfl (ih10 ((k + 1)) (by (try dsimp only); omega) (by (try dsimp only); omega))
    · intro h27
      refine g_aload_n 31 C 3 dX5_make_30 rfl rfl ?_
      refine g_get 34 C 0 0 5 iX5_make_X5 lX5_make_12 dX5_make_31 rfl rfl rfl (by decide) rfl ?_
      refine g_iload_n 35 C 1 dX5_make_34 rfl rfl ?_
      refine g_iload 37 C 0 dX5_make_35 rfl rfl ?_
      refine g_aload_n 38 C 3 dX5_make_37 rfl rfl ?_
      refine g_get 41 C 0 3 5 iX5_make_X5 lX5_make_37 dX5_make_38 rfl rfl rfl (by decide) rfl ?_
      refine g_bipush 43 C dX5_make_41 rfl (by decide) ?_
      refine g_callVU (ws' := [(_, .inr (5, [_, _, _, _, _, _, _])), (_, .inr (1, [_, _, _, _])), (_, aI _ _ _), (_, .inr (0, [_])), (_, .inr (3, [_, _, _, _, _, _, _, _, _, _, _, _, _]))]) 46 C [3] dX5_make_43 rfl (k_X0_below E l  (by omega)) (cwV 1 C.2.2.2.2.1 gX5_make_X0_below rfl rfl rfl cdX0_below ⟨Nat.le_of_ble_eq_true rfl, Nat.le_of_ble_eq_true rfl⟩) rfl rfl rfl rfl (Nat.le_of_ble_eq_true rfl) 3 0 rfl rfl rfl ⟨Nat.le_of_ble_eq_true rfl, Nat.le_of_ble_eq_true rfl⟩ (by simp only [List.map_cons, List.map_nil]) rfl ?_
      refine g_bipush 48 C dX5_make_46 rfl (by decide) ?_
      refine g_isub 49 C dX5_make_48 rfl ?_
      refine g_callVU (ws' := [(_, .inr (5, [_, _, _, _, _, _, _])), (_, .inr (1, [_, _, _, _])), (_, aI _ _ _), (_, .inr (0, [_])), (_, .inr (3, [_, _, _, _, _, _, _, _, _, _, _, _, _]))]) 52 C [1, 2] dX5_make_49 rfl (k_X1_setHeight E l  (by first | assumption | omega) (by first | assumption | omega)) (cwV 3 C.2.2.2.2.1 gX5_make_X1_setHeight rfl rfl rfl cdX1_setHeight ⟨Nat.le_of_ble_eq_true rfl, Nat.le_of_ble_eq_true rfl⟩) rfl rfl rfl rfl (Nat.le_of_ble_eq_true rfl) 1 1 rfl rfl rfl ⟨Nat.le_of_ble_eq_true rfl, Nat.le_of_ble_eq_true rfl⟩ rfl rfl ?_
      refine g_iinc (lv' := [(4, _), (3, _), (1, _), (0, _)]) 55 C 0 dX5_make_52 rfl rfl (by decide) rfl ?_
      refine g_goto 24 C dX5_make_55 (by decide) ?_
      exact g_w [0, 1, 2, 3] (by (try dsimp only); rw [show k * 5 + (i + 1) = k * 5 + i + 1 by omega, ← mkI_s sd hs (by omega), dnT_s sd (by omega)]) rfl (ih24 ((i + 1)) (by (try dsimp only); omega) (by (try dsimp only); omega))
theorem cdX2_setTurn : yX2_setTurn.cls = RX2 ∧ yX2_setTurn.cls ≠ "java/lang/invoke/MethodHandle" ∧ yX2_setTurn.cls ≠ "java/lang/invoke/VarHandle" ∧ (parseMethodDescriptor yX2_setTurn.desc).map (fun d => d.parameters.length) = some 2 := by decide +kernel
theorem cdX2_swapPieces : yX2_swapPieces.cls = RX2 ∧ yX2_swapPieces.cls ≠ "java/lang/invoke/MethodHandle" ∧ yX2_swapPieces.cls ≠ "java/lang/invoke/VarHandle" ∧ (parseMethodDescriptor yX2_swapPieces.desc).map (fun d => d.parameters.length) = some 2 := by decide +kernel
theorem lX5_heap_12 : Cond.fieldLink RX5 12 (TX5 0).1 (TX5 0).2.1 (TX5 0).2.2.1 ∈ wsX5_heap := by decide +kernel
theorem lX5_heap_21 : Cond.fieldLink RX5 21 (TX5 1).1 (TX5 1).2.1 (TX5 1).2.2.1 ∈ wsX5_heap := by decide +kernel
theorem lX5_heap_30 : Cond.fieldLink RX5 30 (TX5 2).1 (TX5 2).2.1 (TX5 2).2.2.1 ∈ wsX5_heap := by decide +kernel
theorem lX5_heap_37 : Cond.fieldLink RX5 37 (TX5 3).1 (TX5 3).2.1 (TX5 3).2.2.1 ∈ wsX5_heap := by decide +kernel
theorem iX5_heap_X5 : ∀ w ∈ u_ws RX5 TX5 7, w ∈ wsX5_heap := by decide +kernel
set_option maxHeartbeats 4000000 in
set_option maxRecDepth 100000 in
theorem k_X5_heap (E : gE) (l : Launch) {a_D a_L a_P a_Q a_R a_X a_fi a_hs a_jl a_ly a_pc a_se a_sh a_tn a_us a_wa : Nat} {W h n : Int} {pc tn : Int → Int} {now sd : Int64} {tr ft : Int} {jo fo sp fd tc : Int} (hB : 1 ≤ W ∧ W ≤ 5 ∧ 1 ≤ h ∧ h ≤ 5) : gUpd E l yX5_heap wsX5_heap { frames := 2, cells := 0, slots := 0, locals := 44 } [.ref a_X, .long sd] [(a_X, .inr (5, [.ref a_P, .ref a_L, .ref a_R, .ref a_D, .ref a_Q, .int (iI tr), .int (iI ft)])), (a_P, .inr (1, [.ref a_hs, .ref a_se, .int (iI W), .int (iI h)])), (a_L, .inr (2, [.ref a_pc, .ref a_tn, .int (iI n)])), (a_pc, aI E 25 pc), (a_tn, aI E 25 tn), (a_D, .inr (0, [.long now])), (a_R, .inr (3, [.ref a_P, .ref a_L, .ref a_sh, .ref a_fi, .ref a_wa, .ref a_us, .ref a_ly, .ref a_jl, .int (iI jo), .int (iI fo), .int (iI sp), .int (iI fd), .int (iI tc)]))] (some (.int (iI (W * h)))) [(a_X, .inr (5, [.ref a_P, .ref a_L, .ref a_R, .ref a_D, .ref a_Q, .int (iI tr), .int (iI ft)])), (a_P, .inr (1, [.ref a_hs, .ref a_se, .int (iI W), .int (iI h)])), (a_L, .inr (2, [.ref a_pc, .ref a_tn, .int (iI (W * h))])), (a_pc, aI E 25 (swI sd (W * h) (apI pc (W * h)) (W * h - 1))), (a_tn, aI E 25 (trI sd (W * h) (zrI tn (W * h)) (W * h))), (a_D, .inr (0, [.long (dnT sd (W * h - 1 + W * h))])), (a_R, .inr (3, [.ref a_P, .ref a_L, .ref a_sh, .ref a_fi, .ref a_wa, .ref a_us, .ref a_ly, .ref a_jl, .int (iI 0), .int (iI fo), .int (iI sp), .int (iI fd), .int (iI tc)]))] := by
  refine g_start (cc := cX5_heap) (maxL := 4) (ret := (some .int)) (by decide) rfl (Nat.le_of_ble_eq_true rfl) ?_
  intro p_ e_ s_ m_ args_ below_ meth_ c_ A_ C hr hnm
  have hn := nsd_b hB
  refine g_aload_n 1 C 0 dX5_heap_0 rfl rfl ?_
  refine g_get 4 C 0 1 5 iX5_heap_X5 lX5_heap_21 dX5_heap_1 rfl rfl rfl (by decide) rfl ?_
  refine g_callVU (ws' := [(_, .inr (5, [_, _, _, _, _, _, _])), (_, .inr (1, [_, _, _, _])), (_, .inr (2, [_, _, _])), (_, aI _ _ _), (_, aI _ _ _), (_, .inr (0, [_])), (_, .inr (3, [_, _, _, _, _, _, _, _, _, _, _, _, _]))]) 7 C [2] dX5_heap_4 rfl (k_X2_clearAll E l  ) (cwV 0 C.2.2.2.2.1 gX5_heap_X2_clearAll rfl rfl rfl cdX2_clearAll ⟨Nat.le_of_ble_eq_true rfl, Nat.le_of_ble_eq_true rfl⟩) rfl rfl rfl rfl (Nat.le_of_ble_eq_true rfl) 2 2 rfl rfl rfl ⟨Nat.le_of_ble_eq_true rfl, Nat.le_of_ble_eq_true rfl⟩ rfl rfl ?_
  refine g_iconst 8 C dX5_heap_7 rfl ?_
  refine g_istore_n (lv' := [(3, _), (0, _), (1, _)]) 9 C dX5_heap_8 rfl rfl (by decide) rfl ?_
  refine g_loop (α := Int) (fun zz => [(a_X, .inr (5, [.ref a_P, .ref a_L, .ref a_R, .ref a_D, .ref a_Q, .int (iI tr), .int (iI ft)])), (a_P, .inr (1, [.ref a_hs, .ref a_se, .int (iI W), .int (iI h)])), (a_L, .inr (2, [.ref a_pc, .ref a_tn, .int (iI zz)])), (a_pc, aI E 25 (apI pc zz)), (a_tn, aI E 25 (zrI tn zz)), (a_D, .inr (0, [.long now])), (a_R, .inr (3, [.ref a_P, .ref a_L, .ref a_sh, .ref a_fi, .ref a_wa, .ref a_us, .ref a_ly, .ref a_jl, .int (iI jo), .int (iI fo), .int (iI sp), .int (iI fd), .int (iI tc)]))]) (fun zz => [(3, .int (iI zz)), (1, .long sd), (0, .ref a_X)]) (fun zz => 0 ≤ zz ∧ zz ≤ W * h) (fun zz => (W * h - zz).toNat) (0) (by (try dsimp only); omega) [0, 2, 1] (by rw [apI_0, zrI_0]) rfl ?_
  rintro k hI ih9
  try dsimp only at hI ih9 ⊢
  obtain ⟨hk0, hkn⟩ := hI
  refine g_iload_n 10 C 0 dX5_heap_9 rfl rfl ?_
  refine g_aload_n 11 C 2 dX5_heap_10 rfl rfl ?_
  refine g_get 14 C 0 0 5 iX5_heap_X5 lX5_heap_12 dX5_heap_11 rfl rfl rfl (by decide) rfl ?_
  refine g_callVF 17 C [1] dX5_heap_14 rfl (k_X1_pieces E l  ) (cwV 0 C.2.2.2.2.1 gX5_heap_X1_pieces rfl rfl rfl cdX1_pieces ⟨Nat.le_of_ble_eq_true rfl, Nat.le_of_ble_eq_true rfl⟩) rfl rfl rfl rfl (Nat.le_of_ble_eq_true rfl) 1 1 rfl rfl rfl ⟨Nat.le_of_ble_eq_true rfl, Nat.le_of_ble_eq_true rfl⟩ ?_
  refine g_icmp_ge 35 20 C dX5_heap_17 (by decide) rfl (by omega) ?_ ?_
  · intro h17
    refine g_aload_n 36 C 2 dX5_heap_35 rfl rfl ?_
    refine g_get 39 C 0 3 5 iX5_heap_X5 lX5_heap_37 dX5_heap_36 rfl rfl rfl (by decide) rfl ?_
    refine g_lload_n 40 C 1 dX5_heap_39 rfl rfl ?_
    refine g_callVU (ws' := [(_, .inr (5, [_, _, _, _, _, _, _])), (_, .inr (1, [_, _, _, _])), (_, .inr (2, [_, _, _])), (_, aI _ _ _), (_, aI _ _ _), (_, .inr (0, [_])), (_, .inr (3, [_, _, _, _, _, _, _, _, _, _, _, _, _]))]) 43 C [5] dX5_heap_40 rfl (k_X0_begin E l  ) (cwV 1 C.2.2.2.2.1 gX5_heap_X0_begin rfl rfl rfl cdX0_begin ⟨Nat.le_of_ble_eq_true rfl, Nat.le_of_ble_eq_true rfl⟩) rfl rfl rfl rfl (Nat.le_of_ble_eq_true rfl) 5 0 rfl rfl rfl ⟨Nat.le_of_ble_eq_true rfl, Nat.le_of_ble_eq_true rfl⟩ (by simp only [List.map_cons, List.map_nil]) rfl ?_
    refine g_aload_n 44 C 2 dX5_heap_43 rfl rfl ?_
    refine g_get 47 C 0 1 5 iX5_heap_X5 lX5_heap_21 dX5_heap_44 rfl rfl rfl (by decide) rfl ?_
    refine g_callVF 50 C [2] dX5_heap_47 rfl (k_X2_size E l  ) (cwV 0 C.2.2.2.2.1 gX5_heap_X2_size rfl rfl rfl cdX2_size ⟨Nat.le_of_ble_eq_true rfl, Nat.le_of_ble_eq_true rfl⟩) rfl rfl rfl rfl (Nat.le_of_ble_eq_true rfl) 2 2 rfl rfl rfl ⟨Nat.le_of_ble_eq_true rfl, Nat.le_of_ble_eq_true rfl⟩ ?_
    refine g_iconst 51 C dX5_heap_50 rfl ?_
    refine g_isub 52 C dX5_heap_51 rfl ?_
    refine g_istore_n (lv' := [(3, _), (1, _), (0, _)]) 53 C dX5_heap_52 rfl rfl (by decide) rfl ?_
    refine g_loop (α := Int) (fun zz => [(a_X, .inr (5, [.ref a_P, .ref a_L, .ref a_R, .ref a_D, .ref a_Q, .int (iI tr), .int (iI ft)])), (a_P, .inr (1, [.ref a_hs, .ref a_se, .int (iI W), .int (iI h)])), (a_L, .inr (2, [.ref a_pc, .ref a_tn, .int (iI (W * h))])), (a_pc, aI E 25 (swI sd (W * h) (apI pc (W * h)) zz)), (a_tn, aI E 25 (zrI tn (W * h))), (a_D, .inr (0, [.long (dnT sd zz)])), (a_R, .inr (3, [.ref a_P, .ref a_L, .ref a_sh, .ref a_fi, .ref a_wa, .ref a_us, .ref a_ly, .ref a_jl, .int (iI jo), .int (iI fo), .int (iI sp), .int (iI fd), .int (iI tc)]))]) (fun zz => [(3, .int (iI (W * h - 1 - zz))), (1, .long sd), (0, .ref a_X)]) (fun zz => 0 ≤ zz ∧ zz ≤ W * h - 1) (fun zz => (W * h - 1 - zz).toNat) (0) (by (try dsimp only); omega) [0, 1, 2] (by rw [swI_0, dnT_0, show W * h = k by omega]) (by (try dsimp only); rw [show W * h - 1 - 0 = k - 1 by omega]; rfl) ?_
    rintro k hI ih53
    try dsimp only at hI ih53 ⊢
    obtain ⟨hk0, hkn⟩ := hI
    refine g_iload_n 54 C 0 dX5_heap_53 rfl rfl ?_
    refine g_iconst 55 C dX5_heap_54 rfl ?_
    refine g_icmp_lt 82 58 C dX5_heap_55 (by decide) rfl (by omega) ?_ ?_
    · intro h55
      refine g_iconst 83 C dX5_heap_82 rfl ?_
      refine g_istore_n (lv' := [(3, _), (1, _), (0, _)]) 84 C dX5_heap_83 rfl rfl (by decide) rfl ?_
      refine g_loop (α := Int) (fun zz => [(a_X, .inr (5, [.ref a_P, .ref a_L, .ref a_R, .ref a_D, .ref a_Q, .int (iI tr), .int (iI ft)])), (a_P, .inr (1, [.ref a_hs, .ref a_se, .int (iI W), .int (iI h)])), (a_L, .inr (2, [.ref a_pc, .ref a_tn, .int (iI (W * h))])), (a_pc, aI E 25 (swI sd (W * h) (apI pc (W * h)) (W * h - 1))), (a_tn, aI E 25 (trI sd (W * h) (zrI tn (W * h)) zz)), (a_D, .inr (0, [.long (dnT sd (W * h - 1 + zz))])), (a_R, .inr (3, [.ref a_P, .ref a_L, .ref a_sh, .ref a_fi, .ref a_wa, .ref a_us, .ref a_ly, .ref a_jl, .int (iI jo), .int (iI fo), .int (iI sp), .int (iI fd), .int (iI tc)]))]) (fun zz => [(3, .int (iI zz)), (1, .long sd), (0, .ref a_X)]) (fun zz => 0 ≤ zz ∧ zz ≤ W * h) (fun zz => (W * h - zz).toNat) (0) (by (try dsimp only); omega) [0, 1, 2] (by rw [trI_0, show W * h - 1 = k by omega, Int.add_zero]) rfl ?_
      rintro k hI ih84
      try dsimp only at hI ih84 ⊢
      obtain ⟨hk0, hkn⟩ := hI
      refine g_iload_n 85 C 0 dX5_heap_84 rfl rfl ?_
      refine g_aload_n 86 C 2 dX5_heap_85 rfl rfl ?_
      refine g_get 89 C 0 1 5 iX5_heap_X5 lX5_heap_21 dX5_heap_86 rfl rfl rfl (by decide) rfl ?_
      refine g_callVF 92 C [2] dX5_heap_89 rfl (k_X2_size E l  ) (cwV 0 C.2.2.2.2.1 gX5_heap_X2_size rfl rfl rfl cdX2_size ⟨Nat.le_of_ble_eq_true rfl, Nat.le_of_ble_eq_true rfl⟩) rfl rfl rfl rfl (Nat.le_of_ble_eq_true rfl) 2 2 rfl rfl rfl ⟨Nat.le_of_ble_eq_true rfl, Nat.le_of_ble_eq_true rfl⟩ ?_
      refine g_icmp_ge 117 95 C dX5_heap_92 (by decide) rfl (by omega) ?_ ?_
      · intro h92
        refine g_aload_n 118 C 2 dX5_heap_117 rfl rfl ?_
        refine g_get 121 C 0 2 5 iX5_heap_X5 lX5_heap_30 dX5_heap_118 rfl rfl rfl (by decide) rfl ?_
        refine g_callVU (ws' := [(_, .inr (5, [_, _, _, _, _, _, _])), (_, .inr (1, [_, _, _, _])), (_, .inr (2, [_, _, _])), (_, aI _ _ _), (_, aI _ _ _), (_, .inr (0, [_])), (_, .inr (3, [_, _, _, _, _, _, _, _, _, _, _, _, _]))]) 124 C [6] dX5_heap_121 rfl (k_X3_forgetJoined E l  ) (cwV 0 C.2.2.2.2.1 gX5_heap_X3_forgetJoined rfl rfl rfl cdX3_forgetJoined ⟨Nat.le_of_ble_eq_true rfl, Nat.le_of_ble_eq_true rfl⟩) rfl rfl rfl rfl (Nat.le_of_ble_eq_true rfl) 6 3 rfl rfl rfl ⟨Nat.le_of_ble_eq_true rfl, Nat.le_of_ble_eq_true rfl⟩ rfl rfl ?_
        refine g_aload_n 125 C 2 dX5_heap_124 rfl rfl ?_
        refine g_get 128 C 0 1 5 iX5_heap_X5 lX5_heap_21 dX5_heap_125 rfl rfl rfl (by decide) rfl ?_
        refine g_callVF 131 C [2] dX5_heap_128 rfl (k_X2_size E l  ) (cwV 0 C.2.2.2.2.1 gX5_heap_X2_size rfl rfl rfl cdX2_size ⟨Nat.le_of_ble_eq_true rfl, Nat.le_of_ble_eq_true rfl⟩) rfl rfl rfl rfl (Nat.le_of_ble_eq_true rfl) 2 2 rfl rfl rfl ⟨Nat.le_of_ble_eq_true rfl, Nat.le_of_ble_eq_true rfl⟩ ?_
        exact g_iret C hr dX5_heap_131 ⟨g_ri (rfl), by rw [show k = W * h by omega]⟩
      · intro h92
        refine g_aload_n 96 C 2 dX5_heap_95 rfl rfl ?_
        refine g_get 99 C 0 1 5 iX5_heap_X5 lX5_heap_21 dX5_heap_96 rfl rfl rfl (by decide) rfl ?_
        refine g_iload_n 100 C 0 dX5_heap_99 rfl rfl ?_
        refine g_aload_n 101 C 2 dX5_heap_100 rfl rfl ?_
        refine g_get 104 C 0 3 5 iX5_heap_X5 lX5_heap_37 dX5_heap_101 rfl rfl rfl (by decide) rfl ?_
        refine g_iconst 105 C dX5_heap_104 rfl ?_
        refine g_callVU (ws' := [(_, .inr (5, [_, _, _, _, _, _, _])), (_, .inr (1, [_, _, _, _])), (_, .inr (2, [_, _, _])), (_, aI _ _ _), (_, aI _ _ _), (_, .inr (0, [_])), (_, .inr (3, [_, _, _, _, _, _, _, _, _, _, _, _, _]))]) 108 C [5] dX5_heap_105 rfl (k_X0_below E l  (by first | assumption | omega)) (cwV 1 C.2.2.2.2.1 gX5_heap_X0_below rfl rfl rfl cdX0_below ⟨Nat.le_of_ble_eq_true rfl, Nat.le_of_ble_eq_true rfl⟩) rfl rfl rfl rfl (Nat.le_of_ble_eq_true rfl) 5 0 rfl rfl rfl ⟨Nat.le_of_ble_eq_true rfl, Nat.le_of_ble_eq_true rfl⟩ (by simp only [List.map_cons, List.map_nil]) rfl ?_
        obtain ⟨jj, hj, hd⟩ : ∃ z : Int, some (dvI (dnI (dnT sd (W * h - 1 + k))) 4) = some z ∧ 0 ≤ z ∧ z < 4 := ⟨_, rfl, dvI_b _ (by omega)⟩
        rw [Option.some.inj hj]
        refine g_callVU (ws' := [(_, .inr (5, [_, _, _, _, _, _, _])), (_, .inr (1, [_, _, _, _])), (_, .inr (2, [_, _, _])), (_, aI _ _ _), (_, aI _ _ _), (_, .inr (0, [_])), (_, .inr (3, [_, _, _, _, _, _, _, _, _, _, _, _, _]))]) 111 C [2, 4] dX5_heap_108 rfl (k_X2_setTurn E l  (by first | assumption | omega) (by first | assumption | omega)) (cwV 2 C.2.2.2.2.1 gX5_heap_X2_setTurn rfl rfl rfl cdX2_setTurn ⟨Nat.le_of_ble_eq_true rfl, Nat.le_of_ble_eq_true rfl⟩) rfl rfl rfl rfl (Nat.le_of_ble_eq_true rfl) 2 2 rfl rfl rfl ⟨Nat.le_of_ble_eq_true rfl, Nat.le_of_ble_eq_true rfl⟩ rfl rfl ?_
        refine g_iinc (lv' := [(3, _), (1, _), (0, _)]) 114 C 0 dX5_heap_111 rfl rfl (by decide) rfl ?_
        refine g_goto 84 C dX5_heap_114 (by decide) ?_
        exact g_w [0, 1, 2] (by rw [← Option.some.inj hj]; (try dsimp only); rw [← trI_s sd (W * h) (zrI tn (W * h)) hk0 (by omega), show W * h - 1 + (k + 1) = W * h - 1 + k + 1 by omega, dnT_s sd (by omega)]) rfl (ih84 ((k + 1)) (by (try dsimp only); omega) (by (try dsimp only); omega))
    · intro h55
      refine g_aload_n 59 C 2 dX5_heap_58 rfl rfl ?_
      refine g_get 62 C 0 1 5 iX5_heap_X5 lX5_heap_21 dX5_heap_59 rfl rfl rfl (by decide) rfl ?_
      refine g_iload_n 63 C 0 dX5_heap_62 rfl rfl ?_
      refine g_aload_n 64 C 2 dX5_heap_63 rfl rfl ?_
      refine g_get 67 C 0 3 5 iX5_heap_X5 lX5_heap_37 dX5_heap_64 rfl rfl rfl (by decide) rfl ?_
      refine g_iload_n 68 C 0 dX5_heap_67 rfl rfl ?_
      refine g_iconst 69 C dX5_heap_68 rfl ?_
      refine g_iadd 70 C dX5_heap_69 rfl ?_
      refine g_callVU (ws' := [(_, .inr (5, [_, _, _, _, _, _, _])), (_, .inr (1, [_, _, _, _])), (_, .inr (2, [_, _, _])), (_, aI _ _ _), (_, aI _ _ _), (_, .inr (0, [_])), (_, .inr (3, [_, _, _, _, _, _, _, _, _, _, _, _, _]))]) 73 C [5] dX5_heap_70 rfl (k_X0_below E l  (by first | assumption | omega)) (cwV 1 C.2.2.2.2.1 gX5_heap_X0_below rfl rfl rfl cdX0_below ⟨Nat.le_of_ble_eq_true rfl, Nat.le_of_ble_eq_true rfl⟩) rfl rfl rfl rfl (Nat.le_of_ble_eq_true rfl) 5 0 rfl rfl rfl ⟨Nat.le_of_ble_eq_true rfl, Nat.le_of_ble_eq_true rfl⟩ (by simp only [List.map_cons, List.map_nil]) rfl ?_
      obtain ⟨jj, hj, hd⟩ : ∃ z : Int, some (dvI (dnI (dnT sd k)) (W * h - 1 - k + 1)) = some z ∧ 0 ≤ z ∧ z < W * h - 1 - k + 1 := ⟨_, rfl, dvI_b _ (by omega)⟩
      rw [Option.some.inj hj]
      refine g_callVU (ws' := [(_, .inr (5, [_, _, _, _, _, _, _])), (_, .inr (1, [_, _, _, _])), (_, .inr (2, [_, _, _])), (_, aI _ _ _), (_, aI _ _ _), (_, .inr (0, [_])), (_, .inr (3, [_, _, _, _, _, _, _, _, _, _, _, _, _]))]) 76 C [2, 3] dX5_heap_73 rfl (k_X2_swapPieces E l  (by first | assumption | omega) (by first | assumption | omega) (by first | assumption | omega)) (cwV 2 C.2.2.2.2.1 gX5_heap_X2_swapPieces rfl rfl rfl cdX2_swapPieces ⟨Nat.le_of_ble_eq_true rfl, Nat.le_of_ble_eq_true rfl⟩) rfl rfl rfl rfl (Nat.le_of_ble_eq_true rfl) 2 2 rfl rfl rfl ⟨Nat.le_of_ble_eq_true rfl, Nat.le_of_ble_eq_true rfl⟩ rfl rfl ?_
      refine g_iinc (lv' := [(3, _), (1, _), (0, _)]) 79 C 0 dX5_heap_76 rfl rfl (by decide) rfl ?_
      refine g_goto 53 C dX5_heap_79 (by decide) ?_
      exact g_w [0, 1, 2] (by rw [← Option.some.inj hj]; (try dsimp only); rw [swI_s sd (W * h) (apI pc (W * h)) hk0, dnT_s sd hk0]) (by (try dsimp only); rw [show W * h - 1 - (k + 1) = W * h - 1 - k + -1 by omega]; rfl) (ih53 ((k + 1)) (by (try dsimp only); omega) (by (try dsimp only); omega))
  · intro h17
    refine g_aload_n 21 C 2 dX5_heap_20 rfl rfl ?_
    refine g_get 24 C 0 1 5 iX5_heap_X5 lX5_heap_21 dX5_heap_21 rfl rfl rfl (by decide) rfl ?_
    refine g_iload_n 25 C 0 dX5_heap_24 rfl rfl ?_
    refine g_iconst 26 C dX5_heap_25 rfl ?_
    refine g_callVU (ws' := [(_, .inr (5, [_, _, _, _, _, _, _])), (_, .inr (1, [_, _, _, _])), (_, .inr (2, [_, _, _])), (_, aI _ _ _), (_, aI _ _ _), (_, .inr (0, [_])), (_, .inr (3, [_, _, _, _, _, _, _, _, _, _, _, _, _]))]) 29 C [2, 3, 4] dX5_heap_26 rfl (k_X2_append E l  (by first | assumption | omega)) (cwV 2 C.2.2.2.2.1 gX5_heap_X2_append rfl rfl rfl cdX2_append ⟨Nat.le_of_ble_eq_true rfl, Nat.le_of_ble_eq_true rfl⟩) rfl rfl rfl rfl (Nat.le_of_ble_eq_true rfl) 2 2 rfl rfl rfl ⟨Nat.le_of_ble_eq_true rfl, Nat.le_of_ble_eq_true rfl⟩ rfl rfl ?_
    refine g_iinc (lv' := [(3, _), (1, _), (0, _)]) 32 C 0 dX5_heap_29 rfl rfl (by decide) rfl ?_
    refine g_goto 9 C dX5_heap_32 (by decide) ?_
    exact g_w [0, 1, 2] (by (try dsimp only); rw [apI_s pc hk0, zrI_s tn hk0]) rfl (ih9 ((k + 1)) (by (try dsimp only); omega) (by (try dsimp only); omega))
theorem cdX3_countWays : yX3_countWays.cls = RX3 ∧ yX3_countWays.cls ≠ "java/lang/invoke/MethodHandle" ∧ yX3_countWays.cls ≠ "java/lang/invoke/VarHandle" ∧ (parseMethodDescriptor yX3_countWays.desc).map (fun d => d.parameters.length) = some 0 := by decide +kernel
theorem lX5_ways_30 : Cond.fieldLink RX5 30 (TX5 2).1 (TX5 2).2.1 (TX5 2).2.2.1 ∈ wsX5_ways := by decide +kernel
theorem iX5_ways_X5 : ∀ w ∈ u_ws RX5 TX5 7, w ∈ wsX5_ways := by decide +kernel
set_option maxHeartbeats 4000000 in
set_option maxRecDepth 100000 in
theorem k_X5_ways (E : gE) (l : Launch) {a_D a_L a_P a_Q a_R a_X a_fi a_hs a_jl a_ly a_pc a_se a_sh a_tn a_us a_wa : Nat} {W h n : Int} {hs se pc tn sh fi wa us ly : Int → Int} {jo fo sp fd tc : Int} {tr ft : Int} (hB : 1 ≤ W ∧ W ≤ 5 ∧ 1 ≤ h ∧ h ≤ 5) (hse : ∀ p e : Int, 0 ≤ p ∧ p < W * h → 0 ≤ e ∧ e < 4 → se (p * 4 + e) = sdI W h p e) (hh : hB9 hs) (hn : 0 ≤ n ∧ n ≤ 25) (hpw : ∀ j : Int, 0 ≤ j ∧ j < n → (0 ≤ pc j ∧ pc j < W * h) ∧ 0 ≤ tn j ∧ tn j < 4) : gMet E l yX5_ways wsX5_ways { frames := 42, cells := 0, slots := 0, locals := 1342 } 0 0 [.ref a_X] [(a_X, .inr (5, [.ref a_P, .ref a_L, .ref a_R, .ref a_D, .ref a_Q, .int (iI tr), .int (iI ft)])), (a_R, .inr (3, [.ref a_P, .ref a_L, .ref a_sh, .ref a_fi, .ref a_wa, .ref a_us, .ref a_ly, .ref a_jl, .int (iI jo), .int (iI fo), .int (iI sp), .int (iI fd), .int (iI tc)])), (a_P, .inr (1, [.ref a_hs, .ref a_se, .int (iI W), .int (iI h)])), (a_hs, aI E 200 hs), (a_se, aI E 100 se), (a_L, .inr (2, [.ref a_pc, .ref a_tn, .int (iI n)])), (a_pc, aI E 25 pc), (a_tn, aI E 25 tn), (a_sh, aI E 400 sh), (a_fi, aI E 400 fi), (a_wa, aI E 100 wa), (a_us, aZ E 25 us), (a_ly, aI E 25 ly)] (fun v w => ∃ (sh2 fi2 wa2 us2 ly2 : Int → Int) (sp2 fd2 tc2 : Int), (v = some (.int (iI (if sp2 = 1 then -6 else fd2))) ∧ runR (FT W h hs pc tn) n (W * h) 0 ly2 sp2 fd2 tc2) ∧ w = [(a_X, .inr (5, [.ref a_P, .ref a_L, .ref a_R, .ref a_D, .ref a_Q, .int (iI tr), .int (iI ft)])), (a_R, .inr (3, [.ref a_P, .ref a_L, .ref a_sh, .ref a_fi, .ref a_wa, .ref a_us, .ref a_ly, .ref a_jl, .int (iI jo), .int (iI 0), .int (iI sp2), .int (iI fd2), .int (iI tc2)])), (a_P, .inr (1, [.ref a_hs, .ref a_se, .int (iI W), .int (iI h)])), (a_hs, aI E 200 hs), (a_se, aI E 100 se), (a_L, .inr (2, [.ref a_pc, .ref a_tn, .int (iI n)])), (a_pc, aI E 25 pc), (a_tn, aI E 25 tn), (a_sh, aI E 400 sh2), (a_fi, aI E 400 fi2), (a_wa, aI E 100 wa2), (a_us, aZ E 25 us2), (a_ly, aI E 25 ly2)]) := by
  refine g_start (cc := cX5_ways) (maxL := 1) (ret := (some .int)) (by decide) rfl (Nat.le_of_ble_eq_true rfl) ?_
  intro p_ e_ s_ m_ args_ below_ meth_ c_ A_ C hr hnm
  refine g_aload_n 1 C 0 dX5_ways_0 rfl rfl ?_
  refine g_get 4 C 0 2 5 iX5_ways_X5 lX5_ways_30 dX5_ways_1 rfl rfl rfl (by decide) rfl ?_
  refine g_callV 7 C [1, 2, 3, 4, 5, 6, 7, 8, 9, 10, 11, 12] dX5_ways_4 rfl (k_X3_countWays E l  (by first | assumption | omega) (by first | assumption | omega) (by first | assumption | omega) (by first | assumption | omega) (by first | assumption | omega)) (cwV 0 C.2.2.2.2.1 gX5_ways_X3_countWays rfl rfl rfl cdX3_countWays ⟨Nat.le_of_ble_eq_true rfl, Nat.le_of_ble_eq_true rfl⟩) rfl rfl rfl rfl (Nat.le_of_ble_eq_true rfl) 1 3 rfl rfl rfl ⟨Nat.le_of_ble_eq_true rfl, Nat.le_of_ble_eq_true rfl⟩ (fun v w q => by obtain ⟨_, _, _, _, _, _, _, _, -, rfl⟩ := q; rfl) ?_
  rintro _ _ ⟨sh2, fi2, wa2, us2, ly2, sp2, fd2, tc2, ⟨rfl, hR⟩, rfl⟩
  refine g_w (ws' := [(_, .inr (5, [_, _, _, _, _, _, _])), (_, .inr (3, [_, _, _, _, _, _, _, _, _, _, _, _, _])), (_, .inr (1, [_, _, _, _])), (_, aI _ _ _), (_, aI _ _ _), (_, .inr (2, [_, _, _])), (_, aI _ _ _), (_, aI _ _ _), (_, aI _ _ _), (_, aI _ _ _), (_, aI _ _ _), (_, aZ _ _ _), (_, aI _ _ _)]) [0] rfl rfl ?_
  exact g_iret C hr dX5_ways_7 ⟨_, _, _, _, _, _, _, _, ⟨rfl, hR⟩, rfl⟩
theorem cdX3_findFirst : yX3_findFirst.cls = RX3 ∧ yX3_findFirst.cls ≠ "java/lang/invoke/MethodHandle" ∧ yX3_findFirst.cls ≠ "java/lang/invoke/VarHandle" ∧ (parseMethodDescriptor yX3_findFirst.desc).map (fun d => d.parameters.length) = some 0 := by decide +kernel
theorem lX5_join_30 : Cond.fieldLink RX5 30 (TX5 2).1 (TX5 2).2.1 (TX5 2).2.2.1 ∈ wsX5_join := by decide +kernel
theorem iX5_join_X5 : ∀ w ∈ u_ws RX5 TX5 7, w ∈ wsX5_join := by decide +kernel
set_option maxHeartbeats 4000000 in
set_option maxRecDepth 100000 in
theorem k_X5_join (E : gE) (l : Launch) {a_D a_L a_P a_Q a_R a_X a_fi a_hs a_jl a_ly a_pc a_se a_sh a_tn a_us a_wa : Nat} {W h n : Int} {hs se pc tn sh fi wa us ly : Int → Int} {jo fo sp fd tc : Int} {jl : Int → Int} {tr ft : Int} (hB : 1 ≤ W ∧ W ≤ 5 ∧ 1 ≤ h ∧ h ≤ 5) (hse : ∀ p e : Int, 0 ≤ p ∧ p < W * h → 0 ≤ e ∧ e < 4 → se (p * 4 + e) = sdI W h p e) (hh : hB9 hs) (hn : 0 ≤ n ∧ n ≤ 25) (hpw : ∀ j : Int, 0 ≤ j ∧ j < n → (0 ≤ pc j ∧ pc j < W * h) ∧ 0 ≤ tn j ∧ tn j < 4) : gMet E l yX5_join wsX5_join { frames := 42, cells := 0, slots := 0, locals := 1343 } 0 0 [.ref a_X] [(a_X, .inr (5, [.ref a_P, .ref a_L, .ref a_R, .ref a_D, .ref a_Q, .int (iI tr), .int (iI ft)])), (a_R, .inr (3, [.ref a_P, .ref a_L, .ref a_sh, .ref a_fi, .ref a_wa, .ref a_us, .ref a_ly, .ref a_jl, .int (iI jo), .int (iI fo), .int (iI sp), .int (iI fd), .int (iI tc)])), (a_P, .inr (1, [.ref a_hs, .ref a_se, .int (iI W), .int (iI h)])), (a_hs, aI E 200 hs), (a_se, aI E 100 se), (a_L, .inr (2, [.ref a_pc, .ref a_tn, .int (iI n)])), (a_pc, aI E 25 pc), (a_tn, aI E 25 tn), (a_sh, aI E 400 sh), (a_fi, aI E 400 fi), (a_wa, aI E 100 wa), (a_us, aZ E 25 us), (a_ly, aI E 25 ly), (a_jl, aI E 25 jl)] (fun v w => ∃ (sh2 fi2 wa2 us2 ly2 : Int → Int) (sp2 fd2 tc2 : Int) (r jo2 : Int) (jl2 : Int → Int), (v = some (.int (iI r)) ∧ runR (FT W h hs pc tn) n (W * h) 1 ly2 sp2 fd2 tc2 ∧ ((sp2 = 1 ∧ r = -6 ∧ jo2 = jo ∧ jl2 = jl) ∨ (sp2 = 0 ∧ r = 0 ∧ fd2 = 0 ∧ jo2 = 0 ∧ jl2 = jl) ∨ (sp2 = 0 ∧ r = 1 ∧ fd2 = 1 ∧ jo2 = 1 ∧ ∀ j : Int, 0 ≤ j ∧ j < W * h → jl2 j = ly2 j))) ∧ w = [(a_X, .inr (5, [.ref a_P, .ref a_L, .ref a_R, .ref a_D, .ref a_Q, .int (iI tr), .int (iI ft)])), (a_R, .inr (3, [.ref a_P, .ref a_L, .ref a_sh, .ref a_fi, .ref a_wa, .ref a_us, .ref a_ly, .ref a_jl, .int (iI jo2), .int (iI 1), .int (iI sp2), .int (iI fd2), .int (iI tc2)])), (a_P, .inr (1, [.ref a_hs, .ref a_se, .int (iI W), .int (iI h)])), (a_hs, aI E 200 hs), (a_se, aI E 100 se), (a_L, .inr (2, [.ref a_pc, .ref a_tn, .int (iI n)])), (a_pc, aI E 25 pc), (a_tn, aI E 25 tn), (a_sh, aI E 400 sh2), (a_fi, aI E 400 fi2), (a_wa, aI E 100 wa2), (a_us, aZ E 25 us2), (a_ly, aI E 25 ly2), (a_jl, aI E 25 jl2)]) := by
  refine g_start (cc := cX5_join) (maxL := 1) (ret := (some .int)) (by decide) rfl (Nat.le_of_ble_eq_true rfl) ?_
  intro p_ e_ s_ m_ args_ below_ meth_ c_ A_ C hr hnm
  refine g_aload_n 1 C 0 dX5_join_0 rfl rfl ?_
  refine g_get 4 C 0 2 5 iX5_join_X5 lX5_join_30 dX5_join_1 rfl rfl rfl (by decide) rfl ?_
  refine g_callV 7 C [1, 2, 3, 4, 5, 6, 7, 8, 9, 10, 11, 12, 13] dX5_join_4 rfl (k_X3_findFirst E l  (by first | assumption | omega) (by first | assumption | omega) (by first | assumption | omega) (by first | assumption | omega) (by first | assumption | omega)) (cwV 0 C.2.2.2.2.1 gX5_join_X3_findFirst rfl rfl rfl cdX3_findFirst ⟨Nat.le_of_ble_eq_true rfl, Nat.le_of_ble_eq_true rfl⟩) rfl rfl rfl rfl (Nat.le_of_ble_eq_true rfl) 1 3 rfl rfl rfl ⟨Nat.le_of_ble_eq_true rfl, Nat.le_of_ble_eq_true rfl⟩ (fun v w q => by obtain ⟨_, _, _, _, _, _, _, _, _, _, _, -, rfl⟩ := q; rfl) ?_
  rintro _ _ ⟨sh2, fi2, wa2, us2, ly2, sp2, fd2, tc2, r, jo2, jl2, ⟨rfl, hR, hj⟩, rfl⟩
  refine g_w (ws' := [(_, .inr (5, [_, _, _, _, _, _, _])), (_, .inr (3, [_, _, _, _, _, _, _, _, _, _, _, _, _])), (_, .inr (1, [_, _, _, _])), (_, aI _ _ _), (_, aI _ _ _), (_, .inr (2, [_, _, _])), (_, aI _ _ _), (_, aI _ _ _), (_, aI _ _ _), (_, aI _ _ _), (_, aI _ _ _), (_, aZ _ _ _), (_, aI _ _ _), (_, aI _ _ _)]) [0] rfl rfl ?_
  exact g_iret C hr dX5_join_7 ⟨_, _, _, _, _, _, _, _, _, _, _, ⟨rfl, hR, hj⟩, rfl⟩
