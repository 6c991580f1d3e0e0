theorem cdX5_picture : yX5_picture.cls = RX5 ∧ yX5_picture.cls ≠ "java/lang/invoke/MethodHandle" ∧ yX5_picture.cls ≠ "java/lang/invoke/VarHandle" ∧ (parseMethodDescriptor yX5_picture.desc).map (fun d => d.parameters.length) = some 2 := by decide +kernel
set_option maxHeartbeats 4000000 in
set_option maxRecDepth 100000 in
theorem law_a {p : Program} {l : Launch} {e : Env} {s : State} {m : MethodId} {below : List Frame} {meth : Method} {c : Code} {b L : Nat} {xs : Nat → Int32} {E : gE} {a_D a_L a_P a_Q a_R a_X a_fi a_hs a_jl a_ly a_pc a_se a_sh a_tn a_us a_wa : Nat} {W h n jo fo sp fd tc tr ft : Int} {hs se pc tn sh fi wa us ly jl : Int → Int} {now : Int64} (D : lC p s m meth c b L xs E) (hh : hB9 hs) (kk : ∀ {W h : Int} {se : Int → Int}, (1 ≤ W ∧ W ≤ 3 ∧ 1 ≤ h ∧ h ≤ 3 ∧ (W = 3 → h ≤ 2)) → (∀ p e : Int, 0 ≤ p ∧ p < W * h → 0 ≤ e ∧ e < 4 → se (p * 4 + e) = sdI W h p e) → lJ p l e s m below meth c b 100 3000 E [(a_X, .inr (5, [.ref a_P, .ref a_L, .ref a_R, .ref a_D, .ref a_Q, .int (iI tr), .int (iI ft)])), (a_P, .inr (1, [.ref a_hs, .ref a_se, .int (iI W), .int (iI h)])), (a_hs, aI E 200 (zrI hs 200)), (a_se, aI E 100 se), (a_L, .inr (2, [.ref a_pc, .ref a_tn, .int (iI 0)])), (a_pc, aI E 25 pc), (a_tn, aI E 25 tn), (a_R, .inr (3, [.ref a_P, .ref a_L, .ref a_sh, .ref a_fi, .ref a_wa, .ref a_us, .ref a_ly, .ref a_jl, .int (iI 0), .int (iI fo), .int (iI sp), .int (iI fd), .int (iI tc)])), (a_sh, aI E 400 sh), (a_fi, aI E 400 fi), (a_wa, aI E 100 wa), (a_us, aZ E 25 us), (a_ly, aI E 25 ly), (a_jl, aI E 25 jl), (a_D, .inr (0, [.long now]))] [(0, .ref b), (1, .ref a_X), (2, .int (iI W)), (3, .int (iI h)), (4, .int (iI (W * h))), (5, .int (iI (nsd W h)))] 72 []) : lJ p l e s m below meth c b 100 3000 E [(a_X, .inr (5, [.ref a_P, .ref a_L, .ref a_R, .ref a_D, .ref a_Q, .int (iI tr), .int (iI ft)])), (a_P, .inr (1, [.ref a_hs, .ref a_se, .int (iI W), .int (iI h)])), (a_hs, aI E 200 hs), (a_se, aI E 100 se), (a_L, .inr (2, [.ref a_pc, .ref a_tn, .int (iI n)])), (a_pc, aI E 25 pc), (a_tn, aI E 25 tn), (a_R, .inr (3, [.ref a_P, .ref a_L, .ref a_sh, .ref a_fi, .ref a_wa, .ref a_us, .ref a_ly, .ref a_jl, .int (iI jo), .int (iI fo), .int (iI sp), .int (iI fd), .int (iI tc)])), (a_sh, aI E 400 sh), (a_fi, aI E 400 fi), (a_wa, aI E 100 wa), (a_us, aZ E 25 us), (a_ly, aI E 25 ly), (a_jl, aI E 25 jl), (a_D, .inr (0, [.long now]))] [(0, .ref b), (1, .ref a_X)] 8 [] := by
  have C := D.1
  have hL0 := D.2.2.2.2
  refine g_iconst 9 C dL_law_8 rfl ?_
  refine g_aload_n 10 C 0 dL_law_9 rfl rfl ?_
  refine g_iconst 11 C dL_law_10 rfl ?_
  refine g_cell 14 D dL_law_11 rfl (by omega) (Nat.le_of_ble_eq_true rfl) ⟨Nat.le_of_ble_eq_true rfl, Nat.le_of_ble_eq_true rfl⟩ ?_
  intro c11 hc11
  refine g_iconst 15 C dL_law_14 rfl ?_
  refine g_low 18 D dL_law_15 rfl (by omega) (Nat.le_of_ble_eq_true rfl) ⟨Nat.le_of_ble_eq_true rfl, Nat.le_of_ble_eq_true rfl⟩ ?_
  intro r15 hr15
  refine g_iadd 19 C dL_law_18 rfl ?_
  refine g_istore_n (lv' := [(2, _), (0, _), (1, _)]) 20 C dL_law_19 rfl rfl (by decide) rfl ?_
  refine g_iconst 21 C dL_law_20 rfl ?_
  refine g_aload_n 22 C 1 dL_law_21 rfl rfl ?_
  refine g_iconst 23 C dL_law_22 rfl ?_
  refine g_cell 26 D dL_law_23 rfl (by omega) (Nat.le_of_ble_eq_true rfl) ⟨Nat.le_of_ble_eq_true rfl, Nat.le_of_ble_eq_true rfl⟩ ?_
  intro c23 hc23
  refine g_iload_n 27 C 0 dL_law_26 rfl rfl ?_
  refine g_iconst 28 C dL_law_27 rfl ?_
  refine g_icmp_ne 35 31 C dL_law_28 (by decide) rfl (by omega) ?_ ?_
  · intro h28
    refine g_iconst 36 C dL_law_35 rfl ?_
    refine g_low 39 D dL_law_36 rfl (by omega) (Nat.le_of_ble_eq_true rfl) ⟨Nat.le_of_ble_eq_true rfl, Nat.le_of_ble_eq_true rfl⟩ ?_
    intro r36 hr36
    refine g_iadd 40 C dL_law_39 rfl ?_
    refine g_istore_n (lv' := [(3, _), (2, _), (0, _), (1, _)]) 41 C dL_law_40 rfl rfl (by decide) rfl ?_
    refine g_iload_n 42 C 1 dL_law_41 rfl rfl ?_
    refine g_iload_n 43 C 0 dL_law_42 rfl rfl ?_
    refine g_imul 44 C dL_law_43 rfl ?_
    refine g_istore (lv' := [(4, _), (3, _), (2, _), (0, _), (1, _)]) 46 C dL_law_44 rfl (by decide) rfl ?_
    refine g_aload_n 47 C 4 dL_law_46 rfl rfl ?_
    refine g_iload_n 48 C 2 dL_law_47 rfl rfl ?_
    refine g_iload_n 49 C 1 dL_law_48 rfl rfl ?_
    refine g_callV 52 C [0, 1, 2, 3, 4, 7] dL_law_49 rfl (k_X5_picture E l  (by first | assumption | omega) (by first | assumption | omega)) (cwV 2 C.2.2.2.2.1 gL_law_X5_picture rfl rfl rfl cdX5_picture ⟨Nat.le_of_ble_eq_true rfl, Nat.le_of_ble_eq_true rfl⟩) rfl rfl rfl rfl (Nat.le_of_ble_eq_true rfl) 0 5 rfl rfl rfl ⟨Nat.le_of_ble_eq_true rfl, Nat.le_of_ble_eq_true rfl⟩ (fun v w q => by obtain ⟨_, -, rfl⟩ := q; rfl) ?_
    rintro _ _ ⟨f5, ⟨rfl, hf1, hf2⟩, rfl⟩
    have hg : 1 ≤ 1 + r15 ∧ 1 + r15 ≤ 5 ∧ 1 ≤ 1 + r36 ∧ 1 + r36 ≤ 5 := by omega
    simp only [if_pos hg]
    refine g_w (ws' := [(_, .inr (5, [_, _, _, _, _, _, _])), (_, .inr (1, [_, _, _, _])), (_, aI _ _ _), (_, aI _ _ _), (_, .inr (2, [_, _, _])), (_, aI _ _ _), (_, aI _ _ _), (_, .inr (3, [_, _, _, _, _, _, _, _, _, _, _, _, _])), (_, aI _ _ _), (_, aI _ _ _), (_, aI _ _ _), (_, aZ _ _ _), (_, aI _ _ _), (_, aI _ _ _), (_, .inr (0, [_]))]) [0, 1, 2, 3, 4] rfl rfl ?_
    refine g_istore (lv' := [(5, _), (4, _), (3, _), (2, _), (0, _), (1, _)]) 54 C dL_law_52 rfl (by decide) rfl ?_
    refine g_iload 56 C 0 dL_law_54 rfl rfl ?_
    refine g_iload_n 57 C 3 dL_law_56 rfl rfl ?_
    refine g_iconst 58 C dL_law_57 rfl ?_
    refine g_isub 59 C dL_law_58 rfl ?_
    refine g_iload_n 60 C 2 dL_law_59 rfl rfl ?_
    refine g_imul 61 C dL_law_60 rfl ?_
    refine g_iload_n 62 C 3 dL_law_61 rfl rfl ?_
    refine g_iload_n 63 C 2 dL_law_62 rfl rfl ?_
    refine g_iconst 64 C dL_law_63 rfl ?_
    refine g_isub 65 C dL_law_64 rfl ?_
    refine g_imul 66 C dL_law_65 rfl ?_
    refine g_iadd 67 C dL_law_66 rfl ?_
    refine g_cmpE 72 C dL_law_67 (by decide) (rfl) ?_
    refine g_w (lv' := [(0, _), (1, _), (2, _), (3, _), (4, _), (5, _)]) [4, 5, 3, 2, 1, 0] rfl rfl ?_
    exact kk (W := 1 + r15) (h := 1 + r36) (by omega) (hf1 hg)
  · intro h28
    refine g_iconst 32 C dL_law_31 rfl ?_
    refine g_goto 36 C dL_law_32 (by decide) ?_
    refine g_low 39 D dL_law_36 rfl (by omega) (Nat.le_of_ble_eq_true rfl) ⟨Nat.le_of_ble_eq_true rfl, Nat.le_of_ble_eq_true rfl⟩ ?_
    intro r36 hr36
    refine g_iadd 40 C dL_law_39 rfl ?_
    refine g_istore_n (lv' := [(3, _), (2, _), (0, _), (1, _)]) 41 C dL_law_40 rfl rfl (by decide) rfl ?_
    refine g_iload_n 42 C 1 dL_law_41 rfl rfl ?_
    refine g_iload_n 43 C 0 dL_law_42 rfl rfl ?_
    refine g_imul 44 C dL_law_43 rfl ?_
    refine g_istore (lv' := [(4, _), (3, _), (2, _), (0, _), (1, _)]) 46 C dL_law_44 rfl (by decide) rfl ?_
    refine g_aload_n 47 C 4 dL_law_46 rfl rfl ?_
    refine g_iload_n 48 C 2 dL_law_47 rfl rfl ?_
    refine g_iload_n 49 C 1 dL_law_48 rfl rfl ?_
    refine g_callV 52 C [0, 1, 2, 3, 4, 7] dL_law_49 rfl (k_X5_picture E l  (by first | assumption | omega) (by first | assumption | omega)) (cwV 2 C.2.2.2.2.1 gL_law_X5_picture rfl rfl rfl cdX5_picture ⟨Nat.le_of_ble_eq_true rfl, Nat.le_of_ble_eq_true rfl⟩) rfl rfl rfl rfl (Nat.le_of_ble_eq_true rfl) 0 5 rfl rfl rfl ⟨Nat.le_of_ble_eq_true rfl, Nat.le_of_ble_eq_true rfl⟩ (fun v w q => by obtain ⟨_, -, rfl⟩ := q; rfl) ?_
    rintro _ _ ⟨f5, ⟨rfl, hf1, hf2⟩, rfl⟩
    have hg : 1 ≤ 1 + r15 ∧ 1 + r15 ≤ 5 ∧ 1 ≤ 1 + r36 ∧ 1 + r36 ≤ 5 := by omega
    simp only [if_pos hg]
    refine g_w (ws' := [(_, .inr (5, [_, _, _, _, _, _, _])), (_, .inr (1, [_, _, _, _])), (_, aI _ _ _), (_, aI _ _ _), (_, .inr (2, [_, _, _])), (_, aI _ _ _), (_, aI _ _ _), (_, .inr (3, [_, _, _, _, _, _, _, _, _, _, _, _, _])), (_, aI _ _ _), (_, aI _ _ _), (_, aI _ _ _), (_, aZ _ _ _), (_, aI _ _ _), (_, aI _ _ _), (_, .inr (0, [_]))]) [0, 1, 2, 3, 4] rfl rfl ?_
    refine g_istore (lv' := [(5, _), (4, _), (3, _), (2, _), (0, _), (1, _)]) 54 C dL_law_52 rfl (by decide) rfl ?_
    refine g_iload 56 C 0 dL_law_54 rfl rfl ?_
    refine g_iload_n 57 C 3 dL_law_56 rfl rfl ?_
    refine g_iconst 58 C dL_law_57 rfl ?_
    refine g_isub 59 C dL_law_58 rfl ?_
    refine g_iload_n 60 C 2 dL_law_59 rfl rfl ?_
    refine g_imul 61 C dL_law_60 rfl ?_
    refine g_iload_n 62 C 3 dL_law_61 rfl rfl ?_
    refine g_iload_n 63 C 2 dL_law_62 rfl rfl ?_
    refine g_iconst 64 C dL_law_63 rfl ?_
    refine g_isub 65 C dL_law_64 rfl ?_
    refine g_imul 66 C dL_law_65 rfl ?_
    refine g_iadd 67 C dL_law_66 rfl ?_
    refine g_cmpE 72 C dL_law_67 (by decide) (rfl) ?_
    refine g_w (lv' := [(0, _), (1, _), (2, _), (3, _), (4, _), (5, _)]) [4, 5, 3, 2, 1, 0] rfl rfl ?_
    exact kk (W := 1 + r15) (h := 1 + r36) (by omega) (hf1 hg)
theorem cdX5_bend : yX5_bend.cls = RX5 ∧ yX5_bend.cls ≠ "java/lang/invoke/MethodHandle" ∧ yX5_bend.cls ≠ "java/lang/invoke/VarHandle" ∧ (parseMethodDescriptor yX5_bend.desc).map (fun d => d.parameters.length) = some 3 := by decide +kernel
theorem cdX5_make : yX5_make.cls = RX5 ∧ yX5_make.cls ≠ "java/lang/invoke/MethodHandle" ∧ yX5_make.cls ≠ "java/lang/invoke/VarHandle" ∧ (parseMethodDescriptor yX5_make.desc).map (fun d => d.parameters.length) = some 1 := by decide +kernel
theorem lL_law_35 : Cond.constantLong RL 35 (65537) ∈ wsL_law := (List.mem_of_getElem? (i := 3) (by decide +kernel))
set_option maxHeartbeats 4000000 in
set_option maxRecDepth 100000 in
theorem law_b {p : Program} {l : Launch} {e : Env} {s : State} {m : MethodId} {below : List Frame} {meth : Method} {c : Code} {b L : Nat} {xs : Nat → Int32} {E : gE} {a_D a_L a_P a_Q a_R a_X a_fi a_hs a_jl a_ly a_pc a_se a_sh a_tn a_us a_wa : Nat} {W h n fo sp fd tc tr ft : Int} {hs se pc tn sh fi wa us ly jl : Int → Int} {now : Int64} (D : lC p s m meth c b L xs E) (hw : 1 ≤ W ∧ W ≤ 3 ∧ 1 ≤ h ∧ h ≤ 3 ∧ (W = 3 → h ≤ 2)) (hse : ∀ p e : Int, 0 ≤ p ∧ p < W * h → 0 ≤ e ∧ e < 4 → se (p * 4 + e) = sdI W h p e) (hh : hB9 hs) (hz0 : ∀ j : Int, 0 ≤ j ∧ j < 200 → hs j = 0) (kk : ∀ {hs : Int → Int} {now : Int64}, hB9 hs → lJ p l e s m below meth c b 100 3000 E [(a_X, .inr (5, [.ref a_P, .ref a_L, .ref a_R, .ref a_D, .ref a_Q, .int (iI tr), .int (iI ft)])), (a_P, .inr (1, [.ref a_hs, .ref a_se, .int (iI W), .int (iI h)])), (a_hs, aI E 200 hs), (a_se, aI E 100 se), (a_L, .inr (2, [.ref a_pc, .ref a_tn, .int (iI n)])), (a_pc, aI E 25 pc), (a_tn, aI E 25 tn), (a_R, .inr (3, [.ref a_P, .ref a_L, .ref a_sh, .ref a_fi, .ref a_wa, .ref a_us, .ref a_ly, .ref a_jl, .int (iI 0), .int (iI fo), .int (iI sp), .int (iI fd), .int (iI tc)])), (a_sh, aI E 400 sh), (a_fi, aI E 400 fi), (a_wa, aI E 100 wa), (a_us, aZ E 25 us), (a_ly, aI E 25 ly), (a_jl, aI E 25 jl), (a_D, .inr (0, [.long now]))] [(0, .ref b), (1, .ref a_X), (2, .int (iI W)), (3, .int (iI h)), (4, .int (iI (W * h))), (5, .int (iI (nsd W h)))] 155 []) : lJ p l e s m below meth c b 100 3000 E [(a_X, .inr (5, [.ref a_P, .ref a_L, .ref a_R, .ref a_D, .ref a_Q, .int (iI tr), .int (iI ft)])), (a_P, .inr (1, [.ref a_hs, .ref a_se, .int (iI W), .int (iI h)])), (a_hs, aI E 200 hs), (a_se, aI E 100 se), (a_L, .inr (2, [.ref a_pc, .ref a_tn, .int (iI n)])), (a_pc, aI E 25 pc), (a_tn, aI E 25 tn), (a_R, .inr (3, [.ref a_P, .ref a_L, .ref a_sh, .ref a_fi, .ref a_wa, .ref a_us, .ref a_ly, .ref a_jl, .int (iI 0), .int (iI fo), .int (iI sp), .int (iI fd), .int (iI tc)])), (a_sh, aI E 400 sh), (a_fi, aI E 400 fi), (a_wa, aI E 100 wa), (a_us, aZ E 25 us), (a_ly, aI E 25 ly), (a_jl, aI E 25 jl), (a_D, .inr (0, [.long now]))] [(0, .ref b), (1, .ref a_X), (2, .int (iI W)), (3, .int (iI h)), (4, .int (iI (W * h))), (5, .int (iI (nsd W h)))] 72 [] := by
  have C := D.1
  have hL0 := D.2.2.2.2
  have hB : 1 ≤ W ∧ W ≤ 5 ∧ 1 ≤ h ∧ h ≤ 5 := by omega
  have h6 := wh6 hw
  have hN := nsd_b hB
  refine g_aload_n 73 C 0 dL_law_72 rfl rfl ?_
  refine g_iconst 74 C dL_law_73 rfl ?_
  refine g_cell 77 D dL_law_74 rfl (by omega) (Nat.le_of_ble_eq_true rfl) ⟨Nat.le_of_ble_eq_true rfl, Nat.le_of_ble_eq_true rfl⟩ ?_
  intro c74 hc74
  refine g_iconst 78 C dL_law_77 rfl ?_
  refine g_iand_r 79 C dL_law_78 rfl ?_
  refine g_topi ?_
  intro z79 hz79
  refine g_if_ne 109 82 C dL_law_79 (by decide) rfl (by omega) ?_ ?_
  · intro h79
    refine g_iconst 110 C dL_law_109 rfl ?_
    refine g_istore (lv' := [(6, _), (0, _), (1, _), (2, _), (3, _), (4, _), (5, _)]) 112 C dL_law_110 rfl (by decide) rfl ?_
    refine g_loop (α := (Int → Int) × Int) (fun zz => [(a_X, .inr (5, [.ref a_P, .ref a_L, .ref a_R, .ref a_D, .ref a_Q, .int (iI tr), .int (iI ft)])), (a_P, .inr (1, [.ref a_hs, .ref a_se, .int (iI W), .int (iI h)])), (a_hs, aI E 200 zz.1), (a_se, aI E 100 se), (a_L, .inr (2, [.ref a_pc, .ref a_tn, .int (iI n)])), (a_pc, aI E 25 pc), (a_tn, aI E 25 tn), (a_R, .inr (3, [.ref a_P, .ref a_L, .ref a_sh, .ref a_fi, .ref a_wa, .ref a_us, .ref a_ly, .ref a_jl, .int (iI 0), .int (iI fo), .int (iI sp), .int (iI fd), .int (iI tc)])), (a_sh, aI E 400 sh), (a_fi, aI E 400 fi), (a_wa, aI E 100 wa), (a_us, aZ E 25 us), (a_ly, aI E 25 ly), (a_jl, aI E 25 jl), (a_D, .inr (0, [.long now]))]) (fun zz => [(6, .int (iI zz.2)), (5, .int (iI (nsd W h))), (4, .int (iI (W * h))), (3, .int (iI h)), (2, .int (iI W)), (1, .ref a_X), (0, .ref b)]) (fun zz => (0 ≤ zz.2 ∧ zz.2 ≤ nsd W h) ∧ hB9 zz.1 ∧ ∀ j : Int, zz.2 * 5 ≤ j ∧ j < 200 → zz.1 j = 0) (fun zz => (nsd W h - zz.2).toNat) (hs, 0) (by
            try dsimp only
            exact ⟨by omega, hh, fun j hj => hz0 j (by omega)⟩) [0, 6, 5, 4, 3, 2, 1] rfl rfl ?_
    rintro ⟨f, k⟩ hI ih112
    try dsimp only at hI ih112 ⊢
    obtain ⟨hk, hf9, hz1⟩ := hI
    refine g_iload 114 C 0 dL_law_112 rfl rfl ?_
    refine g_iload 116 C 1 dL_law_114 rfl rfl ?_
    refine g_icmp_ge 155 119 C dL_law_116 (by decide) rfl (by omega) ?_ ?_
    · intro h116
      refine g_w (lv' := [(0, _), (1, _), (2, _), (3, _), (4, _), (5, _)]) [6, 5, 4, 3, 2, 1] rfl rfl ?_
      exact kk (by assumption)
    · intro h116
      refine g_aload_n 120 C 5 dL_law_119 rfl rfl ?_
      refine g_iload 122 C 0 dL_law_120 rfl rfl ?_
      refine g_iconst 123 C dL_law_122 rfl ?_
      refine g_aload_n 124 C 6 dL_law_123 rfl rfl ?_
      refine g_iconst 125 C dL_law_124 rfl ?_
      refine g_cell 128 D dL_law_125 rfl (by omega) (Nat.le_of_ble_eq_true rfl) ⟨Nat.le_of_ble_eq_true rfl, Nat.le_of_ble_eq_true rfl⟩ ?_
      intro c125 hc125
      refine g_iconst 129 C dL_law_128 rfl ?_
      refine g_iload 131 C 0 dL_law_129 rfl rfl ?_
      refine g_imul 132 C dL_law_131 rfl ?_
      refine g_ishr_r 133 C dL_law_132 rfl ?_
      intro y132
      refine g_topi ?_
      intro z133 hz133
      refine g_iconst 134 C dL_law_133 rfl ?_
      refine g_low 137 D dL_law_134 rfl (by omega) (Nat.le_of_ble_eq_true rfl) ⟨Nat.le_of_ble_eq_true rfl, Nat.le_of_ble_eq_true rfl⟩ ?_
      intro r134 hr134
      refine g_iconst 138 C dL_law_137 rfl ?_
      refine g_isub 139 C dL_law_138 rfl ?_
      refine g_callVU (ws' := [(_, .inr (5, [_, _, _, _, _, _, _])), (_, .inr (1, [_, _, _, _])), (_, aI _ _ _), (_, aI _ _ _), (_, .inr (2, [_, _, _])), (_, aI _ _ _), (_, aI _ _ _), (_, .inr (3, [_, _, _, _, _, _, _, _, _, _, _, _, _])), (_, aI _ _ _), (_, aI _ _ _), (_, aI _ _ _), (_, aZ _ _ _), (_, aI _ _ _), (_, aI _ _ _), (_, .inr (0, [_]))]) 142 C [0, 1, 2, 7] dL_law_139 rfl (k_X5_bend_v E l  (by first | assumption | omega) (by first | assumption | omega) (by first | assumption | omega) (by first | assumption | omega) (by first | assumption | omega)) (cwV 3 C.2.2.2.2.1 gL_law_X5_bend rfl rfl rfl cdX5_bend ⟨Nat.le_of_ble_eq_true rfl, Nat.le_of_ble_eq_true rfl⟩) rfl rfl rfl rfl (Nat.le_of_ble_eq_true rfl) 0 5 rfl rfl rfl ⟨Nat.le_of_ble_eq_true rfl, Nat.le_of_ble_eq_true rfl⟩ rfl rfl ?_
      refine g_lconst 143 C 0 dL_law_142 rfl (by decide) ?_
      refine g_lcE 144 149 C dL_law_143 rfl dL_law_144 (by decide) (by rw [show htI f k 2 0 = 0 from by unfold htI; rw [if_pos rfl]; exact hz1 (k * 5 + 2) (by omega)]) ?_
      refine g_iinc (lv' := [(6, _), (5, _), (4, _), (3, _), (2, _), (1, _), (0, _)]) 152 C 0 dL_law_149 rfl rfl (by decide) rfl ?_
      refine g_goto 112 C dL_law_152 (by decide) ?_
      exact g_w [0, 1, 2, 3, 4, 5, 6] rfl rfl (ih112 ((uI f (k * 5 + 2) (r134 - 1)), (k + 1)) (by
            try dsimp only
            exact ⟨by omega, uI_b9 hf9 (by omega), fun j hj => by rw [uI_ne (by omega)]; exact hz1 j (by omega)⟩) (by (try dsimp only); omega))
  · intro h79
    refine g_aload_n 83 C 1 dL_law_82 rfl rfl ?_
    refine g_aload_n 84 C 0 dL_law_83 rfl rfl ?_
    refine g_iconst 85 C dL_law_84 rfl ?_
    refine g_cell 88 D dL_law_85 rfl (by omega) (Nat.le_of_ble_eq_true rfl) ⟨Nat.le_of_ble_eq_true rfl, Nat.le_of_ble_eq_true rfl⟩ ?_
    intro c85 hc85
    refine g_i2l_r 89 C dL_law_88 rfl ?_
    refine g_ldc2 92 C (65537) dL_law_89 rfl lL_law_35 (by decide) ?_
    refine g_lmul_r 93 C dL_law_92 rfl ?_
    refine g_aload_n 94 C 0 dL_law_93 rfl rfl ?_
    refine g_iconst 95 C dL_law_94 rfl ?_
    refine g_cell 98 D dL_law_95 rfl (by omega) (Nat.le_of_ble_eq_true rfl) ⟨Nat.le_of_ble_eq_true rfl, Nat.le_of_ble_eq_true rfl⟩ ?_
    intro c95 hc95
    refine g_i2l_r 99 C dL_law_98 rfl ?_
    refine g_ladd_r 100 C dL_law_99 rfl ?_
    refine g_callVU (ws' := [(_, .inr (5, [_, _, _, _, _, _, _])), (_, .inr (1, [_, _, _, _])), (_, aI _ _ _), (_, aI _ _ _), (_, .inr (2, [_, _, _])), (_, aI _ _ _), (_, aI _ _ _), (_, .inr (3, [_, _, _, _, _, _, _, _, _, _, _, _, _])), (_, aI _ _ _), (_, aI _ _ _), (_, aI _ _ _), (_, aZ _ _ _), (_, aI _ _ _), (_, aI _ _ _), (_, .inr (0, [_]))]) 103 C [0, 1, 2, 14, 7] dL_law_100 rfl (k_X5_make E l  (by first | assumption | omega)) (cwV 1 C.2.2.2.2.1 gL_law_X5_make rfl rfl rfl cdX5_make ⟨Nat.le_of_ble_eq_true rfl, Nat.le_of_ble_eq_true rfl⟩) rfl rfl rfl rfl (Nat.le_of_ble_eq_true rfl) 0 5 rfl rfl rfl ⟨Nat.le_of_ble_eq_true rfl, Nat.le_of_ble_eq_true rfl⟩ rfl rfl ?_
    refine g_iconst 104 C dL_law_103 rfl ?_
    refine g_cmpE 155 C dL_law_104 (by decide) (rfl) ?_
    refine g_w (lv' := [(0, _), (1, _), (2, _), (3, _), (4, _), (5, _)]) [0, 1, 2, 3, 4, 5] rfl rfl ?_
    exact kk (mkI_b hh _ _)
theorem cdX5_heap : yX5_heap.cls = RX5 ∧ yX5_heap.cls ≠ "java/lang/invoke/MethodHandle" ∧ yX5_heap.cls ≠ "java/lang/invoke/VarHandle" ∧ (parseMethodDescriptor yX5_heap.desc).map (fun d => d.parameters.length) = some 1 := by decide +kernel
theorem cdX5_lay : yX5_lay.cls = RX5 ∧ yX5_lay.cls ≠ "java/lang/invoke/MethodHandle" ∧ yX5_lay.cls ≠ "java/lang/invoke/VarHandle" ∧ (parseMethodDescriptor yX5_lay.desc).map (fun d => d.parameters.length) = some 2 := by decide +kernel
theorem lL_law_45 : Cond.constantLong RL 45 (131) ∈ wsL_law := (List.mem_of_getElem? (i := 4) (by decide +kernel))
set_option maxHeartbeats 4000000 in
set_option maxRecDepth 100000 in
theorem law_c {p : Program} {l : Launch} {e : Env} {s : State} {m : MethodId} {below : List Frame} {meth : Method} {c : Code} {b L : Nat} {xs : Nat → Int32} {E : gE} {a_D a_L a_P a_Q a_R a_X a_fi a_hs a_jl a_ly a_pc a_se a_sh a_tn a_us a_wa : Nat} {W h fo sp fd tc tr ft : Int} {hs se pc tn sh fi wa us ly jl : Int → Int} {now : Int64} (D : lC p s m meth c b L xs E) (hw : 1 ≤ W ∧ W ≤ 3 ∧ 1 ≤ h ∧ h ≤ 3 ∧ (W = 3 → h ≤ 2)) (kk : ∀ {n wf : Int} {pc tn : Int → Int} {now : Int64}, (1 ≤ n ∧ n ≤ 6) → (∀ j : Int, 0 ≤ j ∧ j < n → (0 ≤ pc j ∧ pc j < W * h) ∧ 0 ≤ tn j ∧ tn j < 4) → (wf = 0 ∨ wf = 1) → (wf = 1 → n = W * h ∧ PM (W * h) pc) → lJ p l e s m below meth c b 100 3000 E [(a_X, .inr (5, [.ref a_P, .ref a_L, .ref a_R, .ref a_D, .ref a_Q, .int (iI tr), .int (iI ft)])), (a_P, .inr (1, [.ref a_hs, .ref a_se, .int (iI W), .int (iI h)])), (a_hs, aI E 200 hs), (a_se, aI E 100 se), (a_L, .inr (2, [.ref a_pc, .ref a_tn, .int (iI n)])), (a_pc, aI E 25 pc), (a_tn, aI E 25 tn), (a_R, .inr (3, [.ref a_P, .ref a_L, .ref a_sh, .ref a_fi, .ref a_wa, .ref a_us, .ref a_ly, .ref a_jl, .int (iI 0), .int (iI fo), .int (iI sp), .int (iI fd), .int (iI tc)])), (a_sh, aI E 400 sh), (a_fi, aI E 400 fi), (a_wa, aI E 100 wa), (a_us, aZ E 25 us), (a_ly, aI E 25 ly), (a_jl, aI E 25 jl), (a_D, .inr (0, [.long now]))] [(0, .ref b), (1, .ref a_X), (2, .int (iI W)), (3, .int (iI h)), (4, .int (iI (W * h))), (5, .int (iI (nsd W h))), (6, .int (iI wf)), (7, .int (iI n))] 276 []) : lJ p l e s m below meth c b 100 3000 E [(a_X, .inr (5, [.ref a_P, .ref a_L, .ref a_R, .ref a_D, .ref a_Q, .int (iI tr), .int (iI ft)])), (a_P, .inr (1, [.ref a_hs, .ref a_se, .int (iI W), .int (iI h)])), (a_hs, aI E 200 hs), (a_se, aI E 100 se), (a_L, .inr (2, [.ref a_pc, .ref a_tn, .int (iI 0)])), (a_pc, aI E 25 pc), (a_tn, aI E 25 tn), (a_R, .inr (3, [.ref a_P, .ref a_L, .ref a_sh, .ref a_fi, .ref a_wa, .ref a_us, .ref a_ly, .ref a_jl, .int (iI 0), .int (iI fo), .int (iI sp), .int (iI fd), .int (iI tc)])), (a_sh, aI E 400 sh), (a_fi, aI E 400 fi), (a_wa, aI E 100 wa), (a_us, aZ E 25 us), (a_ly, aI E 25 ly), (a_jl, aI E 25 jl), (a_D, .inr (0, [.long now]))] [(0, .ref b), (1, .ref a_X), (2, .int (iI W)), (3, .int (iI h)), (4, .int (iI (W * h))), (5, .int (iI (nsd W h)))] 155 [] := by
  have C := D.1
  have hL0 := D.2.2.2.2
  have hB : 1 ≤ W ∧ W ≤ 5 ∧ 1 ≤ h ∧ h ≤ 5 := by omega
  have h6 := wh6 hw
  have hN := nsd_b hB
  refine g_aload_n 156 C 0 dL_law_155 rfl rfl ?_
  refine g_iconst 157 C dL_law_156 rfl ?_
  refine g_cell 160 D dL_law_157 rfl (by omega) (Nat.le_of_ble_eq_true rfl) ⟨Nat.le_of_ble_eq_true rfl, Nat.le_of_ble_eq_true rfl⟩ ?_
  intro c157 hc157
  refine g_iconst 161 C dL_law_160 rfl ?_
  refine g_iand_r 162 C dL_law_161 rfl ?_
  refine g_topi ?_
  intro z162 hz162
  refine g_if_ne 169 165 C dL_law_162 (by decide) rfl (by omega) ?_ ?_
  · intro h162
    refine g_iconst 170 C dL_law_169 rfl ?_
    refine g_istore (lv' := [(6, _), (0, _), (1, _), (2, _), (3, _), (4, _), (5, _)]) 172 C dL_law_170 rfl (by decide) rfl ?_
    refine g_iload 174 C 5 dL_law_172 rfl rfl ?_
    refine g_istore (lv' := [(7, _), (6, _), (0, _), (1, _), (2, _), (3, _), (4, _), (5, _)]) 176 C dL_law_174 rfl (by decide) rfl ?_
    refine g_iload 178 C 1 dL_law_176 rfl rfl ?_
    refine g_if_eq 203 181 C dL_law_178 (by decide) rfl (by omega) ?_ (fun q => absurd q (by omega))
    intro _
    refine g_iconst 204 C dL_law_203 rfl ?_
    refine g_aload_n 205 C 2 dL_law_204 rfl rfl ?_
    refine g_bipush 207 C dL_law_205 rfl (by decide) ?_
    refine g_cell 210 D dL_law_207 rfl (by omega) (Nat.le_of_ble_eq_true rfl) ⟨Nat.le_of_ble_eq_true rfl, Nat.le_of_ble_eq_true rfl⟩ ?_
    intro c207 hc207
    refine g_bipush 212 C dL_law_210 rfl (by decide) ?_
    refine g_low 215 D dL_law_212 rfl (by omega) (Nat.le_of_ble_eq_true rfl) ⟨Nat.le_of_ble_eq_true rfl, Nat.le_of_ble_eq_true rfl⟩ ?_
    intro r212 hr212
    refine g_iadd 216 C dL_law_215 rfl ?_
    refine g_istore (lv' := [(7, _), (6, _), (0, _), (1, _), (2, _), (3, _), (4, _), (5, _)]) 218 C dL_law_216 rfl (by decide) rfl ?_
    refine g_iconst 219 C dL_law_218 rfl ?_
    refine g_istore (lv' := [(8, _), (7, _), (6, _), (0, _), (1, _), (2, _), (3, _), (4, _), (5, _)]) 221 C dL_law_219 rfl (by decide) rfl ?_
    refine g_loop (α := (Int → Int) × (Int → Int) × Int) (fun zz => [(a_X, .inr (5, [.ref a_P, .ref a_L, .ref a_R, .ref a_D, .ref a_Q, .int (iI tr), .int (iI ft)])), (a_P, .inr (1, [.ref a_hs, .ref a_se, .int (iI W), .int (iI h)])), (a_hs, aI E 200 hs), (a_se, aI E 100 se), (a_L, .inr (2, [.ref a_pc, .ref a_tn, .int (iI zz.2.2)])), (a_pc, aI E 25 zz.1), (a_tn, aI E 25 zz.2.1), (a_R, .inr (3, [.ref a_P, .ref a_L, .ref a_sh, .ref a_fi, .ref a_wa, .ref a_us, .ref a_ly, .ref a_jl, .int (iI 0), .int (iI fo), .int (iI sp), .int (iI fd), .int (iI tc)])), (a_sh, aI E 400 sh), (a_fi, aI E 400 fi), (a_wa, aI E 100 wa), (a_us, aZ E 25 us), (a_ly, aI E 25 ly), (a_jl, aI E 25 jl), (a_D, .inr (0, [.long now]))]) (fun zz => [(8, .int (iI zz.2.2)), (7, .int (iI (1 + r212))), (6, .int (iI 0)), (5, .int (iI (nsd W h))), (4, .int (iI (W * h))), (3, .int (iI h)), (2, .int (iI W)), (1, .ref a_X), (0, .ref b)]) (fun zz => (0 ≤ zz.2.2 ∧ zz.2.2 ≤ 1 + r212) ∧ ∀ j : Int, 0 ≤ j ∧ j < zz.2.2 → (0 ≤ zz.1 j ∧ zz.1 j < W * h) ∧ 0 ≤ zz.2.1 j ∧ zz.2.1 j < 4) (fun zz => (1 + r212 - zz.2.2).toNat) (pc, tn, 0) (by
            try dsimp only
            exact ⟨by omega, fun j hj => by omega⟩) [0, 1, 2, 8, 7, 6, 5, 4, 3] rfl rfl ?_
    rintro ⟨f, g, k⟩ hI ih221
    try dsimp only at hI ih221 ⊢
    obtain ⟨hk, hfg⟩ := hI
    refine g_iload 223 C 0 dL_law_221 rfl rfl ?_
    refine g_iload 225 C 1 dL_law_223 rfl rfl ?_
    refine g_icmp_ge 276 228 C dL_law_225 (by decide) rfl (by omega) ?_ ?_
    · intro h225
      refine g_w (lv' := [(0, _), (1, _), (2, _), (3, _), (4, _), (5, _), (6, _), (7, _)]) [8, 7, 6, 5, 4, 3, 2, 1] rfl rfl ?_
      obtain rfl : k = 1 + r212 := by omega
      exact kk (wf := 0) (by omega) hfg (by omega) (fun q => absurd q (by omega))
    · intro h225
      refine g_aload_n 229 C 7 dL_law_228 rfl rfl ?_
      refine g_aload_n 230 C 8 dL_law_229 rfl rfl ?_
      refine g_bipush 232 C dL_law_230 rfl (by decide) ?_
      refine g_iload 234 C 0 dL_law_232 rfl rfl ?_
      refine g_iadd 235 C dL_law_234 rfl ?_
      refine g_cell 238 D dL_law_235 rfl (by omega) (Nat.le_of_ble_eq_true rfl) ⟨Nat.le_of_ble_eq_true rfl, Nat.le_of_ble_eq_true rfl⟩ ?_
      intro c235 hc235
      refine g_iload 240 C 4 dL_law_238 rfl rfl ?_
      refine g_low 243 D dL_law_240 rfl (by omega) (Nat.le_of_ble_eq_true rfl) ⟨Nat.le_of_ble_eq_true rfl, Nat.le_of_ble_eq_true rfl⟩ ?_
      intro r240 hr240
      refine g_aload_n 244 C 8 dL_law_243 rfl rfl ?_
      refine g_bipush 246 C dL_law_244 rfl (by decide) ?_
      refine g_iload 248 C 0 dL_law_246 rfl rfl ?_
      refine g_iadd 249 C dL_law_248 rfl ?_
      refine g_cell 252 D dL_law_249 rfl (by omega) (Nat.le_of_ble_eq_true rfl) ⟨Nat.le_of_ble_eq_true rfl, Nat.le_of_ble_eq_true rfl⟩ ?_
      intro c249 hc249
      refine g_iconst 253 C dL_law_252 rfl ?_
      refine g_ishr_r 254 C dL_law_253 rfl ?_
      intro y253
      refine g_topi ?_
      intro z254 hz254
      refine g_iconst 255 C dL_law_254 rfl ?_
      refine g_low 258 D dL_law_255 rfl (by omega) (Nat.le_of_ble_eq_true rfl) ⟨Nat.le_of_ble_eq_true rfl, Nat.le_of_ble_eq_true rfl⟩ ?_
      intro r255 hr255
      refine g_callVU (ws' := [(_, .inr (5, [_, _, _, _, _, _, _])), (_, .inr (1, [_, _, _, _])), (_, aI _ _ _), (_, aI _ _ _), (_, .inr (2, [_, _, _])), (_, aI _ _ _), (_, aI _ _ _), (_, .inr (3, [_, _, _, _, _, _, _, _, _, _, _, _, _])), (_, aI _ _ _), (_, aI _ _ _), (_, aI _ _ _), (_, aZ _ _ _), (_, aI _ _ _), (_, aI _ _ _), (_, .inr (0, [_]))]) 261 C [0, 1, 4, 5, 6, 7] dL_law_258 rfl (k_X5_lay_v E l  (by first | assumption | omega) (by first | assumption | omega) (by first | assumption | omega) (by first | assumption | omega)) (cwV 2 C.2.2.2.2.1 gL_law_X5_lay rfl rfl rfl cdX5_lay ⟨Nat.le_of_ble_eq_true rfl, Nat.le_of_ble_eq_true rfl⟩) rfl rfl rfl rfl (Nat.le_of_ble_eq_true rfl) 0 5 rfl rfl rfl ⟨Nat.le_of_ble_eq_true rfl, Nat.le_of_ble_eq_true rfl⟩ rfl rfl ?_
      refine g_iload 263 C 0 dL_law_261 rfl rfl ?_
      refine g_iconst 264 C dL_law_263 rfl ?_
      refine g_iadd 265 C dL_law_264 rfl ?_
      refine g_cmpE 270 C dL_law_265 (by decide) (rfl) ?_
      refine g_iinc (lv' := [(8, _), (7, _), (6, _), (5, _), (4, _), (3, _), (2, _), (1, _), (0, _)]) 273 C 0 dL_law_270 rfl rfl (by decide) rfl ?_
      refine g_goto 221 C dL_law_273 (by decide) ?_
      exact g_w [0, 1, 2, 3, 4, 5, 6, 7, 8] rfl rfl (ih221 ((uI f k r240), (uI g k r255), (k + 1)) (by
            try dsimp only
            exact ⟨by omega, lay_pw hfg hr240 hr255⟩) (by (try dsimp only); omega))
  · intro h162
    refine g_iconst 166 C dL_law_165 rfl ?_
    refine g_goto 170 C dL_law_166 (by decide) ?_
    refine g_istore (lv' := [(6, _), (0, _), (1, _), (2, _), (3, _), (4, _), (5, _)]) 172 C dL_law_170 rfl (by decide) rfl ?_
    refine g_iload 174 C 5 dL_law_172 rfl rfl ?_
    refine g_istore (lv' := [(7, _), (6, _), (0, _), (1, _), (2, _), (3, _), (4, _), (5, _)]) 176 C dL_law_174 rfl (by decide) rfl ?_
    refine g_iload 178 C 1 dL_law_176 rfl rfl ?_
    refine g_if_eq 203 181 C dL_law_178 (by decide) rfl (by omega) (fun q => absurd q (by omega)) ?_
    intro _
    refine g_aload_n 182 C 3 dL_law_181 rfl rfl ?_
    refine g_aload_n 183 C 2 dL_law_182 rfl rfl ?_
    refine g_bipush 185 C dL_law_183 rfl (by decide) ?_
    refine g_cell 188 D dL_law_185 rfl (by omega) (Nat.le_of_ble_eq_true rfl) ⟨Nat.le_of_ble_eq_true rfl, Nat.le_of_ble_eq_true rfl⟩ ?_
    intro c185 hc185
    refine g_i2l_r 189 C dL_law_188 rfl ?_
    refine g_ldc2 192 C (131) dL_law_189 rfl lL_law_45 (by decide) ?_
    refine g_lmul_r 193 C dL_law_192 rfl ?_
    refine g_callVU (ws' := [(_, .inr (5, [_, _, _, _, _, _, _])), (_, .inr (1, [_, _, _, _])), (_, aI _ _ _), (_, aI _ _ _), (_, .inr (2, [_, _, _])), (_, aI _ _ _), (_, aI _ _ _), (_, .inr (3, [_, _, _, _, _, _, _, _, _, _, _, _, _])), (_, aI _ _ _), (_, aI _ _ _), (_, aI _ _ _), (_, aZ _ _ _), (_, aI _ _ _), (_, aI _ _ _), (_, .inr (0, [_]))]) 196 C [0, 1, 4, 5, 6, 14, 7] dL_law_193 rfl (k_X5_heap E l  (by first | assumption | omega)) (cwV 1 C.2.2.2.2.1 gL_law_X5_heap rfl rfl rfl cdX5_heap ⟨Nat.le_of_ble_eq_true rfl, Nat.le_of_ble_eq_true rfl⟩) rfl rfl rfl rfl (Nat.le_of_ble_eq_true rfl) 0 5 rfl rfl rfl ⟨Nat.le_of_ble_eq_true rfl, Nat.le_of_ble_eq_true rfl⟩ rfl rfl ?_
    refine g_iload 198 C 6 dL_law_196 rfl rfl ?_
    refine g_cmpE 276 C dL_law_198 (by decide) (rfl) ?_
    refine g_w (lv' := [(0, _), (1, _), (2, _), (3, _), (4, _), (5, _), (6, _), (7, _)]) [2, 3, 4, 5, 6, 7, 1, 0] rfl rfl ?_
    exact kk (wf := 1) h6 (heap_pw _ (by omega) _ _) (by omega) (fun _ => ⟨rfl, pm_swI _ (by omega) (pm_ap _ _) (by omega) (by omega)⟩)
