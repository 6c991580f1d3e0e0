theorem cdX5_shape : yX5_shape.cls = RX5 ∧ yX5_shape.cls ≠ "java/lang/invoke/MethodHandle" ∧ yX5_shape.cls ≠ "java/lang/invoke/VarHandle" ∧ (parseMethodDescriptor yX5_shape.desc).map (fun d => d.parameters.length) = some 5 := by decide +kernel
theorem cdX6_shape : yX6_shape.cls = RX6 ∧ yX6_shape.cls ≠ "java/lang/invoke/MethodHandle" ∧ yX6_shape.cls ≠ "java/lang/invoke/VarHandle" ∧ (parseMethodDescriptor yX6_shape.desc).map (fun d => d.parameters.length) = some 5 := by decide +kernel
set_option maxHeartbeats 4000000 in
set_option maxRecDepth 100000 in
theorem law_4 {p : Program} {l : Launch} {e : Env} {s : State} {m : MethodId} {below : List Frame} {meth : Method} {c : Code} {b L : Nat} {xs : Nat → Int32} {E : gE} {a_X a_P a_hs a_se a_L a_pc a_tn a_R a_sh a_fi a_wa a_us a_ly a_jl a_D a_Q a_M a_Mh a_Mp a_Mt a_Ma a_Mu a_Mi a_Mx a_My a_Ms a_Ml a_Mc a_Mg : Nat} {aS aC : Int → Nat} {W h n jo fo sp fd tc tr ft mL mN mfd : Int} {hs se pc tn sh fi wa us ly jl qa qf mus ja jt ss sl sc hg TH LN SZ : Int → Int} {CE : Int → Int → Int} {now md : Int64} {sf : Int → Option Nat} {i : Int} (D : lC p s m meth c b L xs E) (hsf : ∀ j : Int, 0 ≤ j ∧ j < 4 → sf j = some (aS j)) (hi : 0 ≤ i ∧ i + 6 ≤ L) (hB : 1 ≤ W ∧ W ≤ 5 ∧ 1 ≤ h ∧ h ≤ 5) (hh : hB9 hs) (hse : ∀ p e : Int, 0 ≤ p ∧ p < W * h → 0 ≤ e ∧ e < 4 → se (p * 4 + e) = sdI W h p e) (hn : 0 ≤ n ∧ n ≤ 25) (hpw : ∀ j : Int, 0 ≤ j ∧ j < n → (0 ≤ pc j ∧ pc j < W * h) ∧ 0 ≤ tn j ∧ tn j < 4) (hjo : jo = 0 ∨ jo = 1) (hjq : jo = 1 → ∀ j : Int, 0 ≤ j ∧ j < W * h → jl j = ja j * 4 + jt j ∧ (0 ≤ ja j ∧ ja j < 25) ∧ 0 ≤ jt j ∧ jt j < 4) (hS : lshI TH LN SZ CE ss sl sc) (kk : ∀ {W h n jo fo sp fd tc tr ft mL mN mfd : Int} {hs se pc tn sh fi wa us ly jl qa qf mus ja jt ss sl sc hg TH LN SZ : Int → Int} {CE : Int → Int → Int} {now md : Int64}, (1 ≤ W ∧ W ≤ 5 ∧ 1 ≤ h ∧ h ≤ 5) → (hB9 hs) → (∀ p e : Int, 0 ≤ p ∧ p < W * h → 0 ≤ e ∧ e < 4 → se (p * 4 + e) = sdI W h p e) → (0 ≤ n ∧ n ≤ 25) → (∀ j : Int, 0 ≤ j ∧ j < n → (0 ≤ pc j ∧ pc j < W * h) ∧ 0 ≤ tn j ∧ tn j < 4) → (jo = 0 ∨ jo = 1) → (jo = 1 → ∀ j : Int, 0 ≤ j ∧ j < W * h → jl j = ja j * 4 + jt j ∧ (0 ≤ ja j ∧ ja j < 25) ∧ 0 ≤ jt j ∧ jt j < 4) → (lshI TH LN SZ CE ss sl sc) → lJ p l e s m below meth c b 37 2231 E ((a_X, .inr (5, [.ref a_P, .ref a_L, .ref a_R, .ref a_D, .ref a_Q, .int (iI tr), .int (iI ft)])) :: (a_P, .inr (1, [.ref a_hs, .ref a_se, .int (iI W), .int (iI h)])) :: (a_hs, aI E 200 hs) :: (a_se, aI E 100 se) :: (a_L, .inr (2, [.ref a_pc, .ref a_tn, .int (iI n)])) :: (a_pc, aI E 25 pc) :: (a_tn, aI E 25 tn) :: (a_R, .inr (3, [.ref a_P, .ref a_L, .ref a_sh, .ref a_fi, .ref a_wa, .ref a_us, .ref a_ly, .ref a_jl, .int (iI jo), .int (iI fo), .int (iI sp), .int (iI fd), .int (iI tc)])) :: (a_sh, aI E 400 sh) :: (a_fi, aI E 400 fi) :: (a_wa, aI E 100 wa) :: (a_us, aZ E 25 us) :: (a_ly, aI E 25 ly) :: (a_jl, aI E 25 jl) :: (a_D, .inr (0, [.long now])) :: (a_Q, aQ E 4 sf) :: (a_M, .inr (6, [.int (iI ft), .int (iI W), .int (iI h), .ref a_Mh, .long md, .int (iI mL), .int (iI mN), .int (iI n), .ref a_Mp, .ref a_Mt, .int (iI tc), .int (iI mfd), .ref a_Ma, .ref a_Mu, .ref a_Mi, .int (iI jo), .ref a_Mx, .ref a_My, .ref a_Ms, .ref a_Ml, .ref a_Mc, .ref a_Mg, .int (iI tr)])) :: (a_Mh, aI E 200 hs) :: (a_Mp, aI E 25 pc) :: (a_Mt, aI E 25 tn) :: (a_Ma, aI E 26 qa) :: (a_Mu, aI E 26 qf) :: (a_Mi, aZ E 25 mus) :: (a_Mx, aI E 25 ja) :: (a_My, aI E 25 jt) :: (a_Ms, aI E 4 ss) :: (a_Ml, aI E 4 sl) :: (a_Mc, aI E 200 sc) :: (a_Mg, aI E 50 hg) :: (aS 0, .inr (4, [.ref (aC 0), .int (iI (TH 0)), .int (iI (LN 0)), .int (iI (SZ 0))])) :: (aC 0, aI E 50 (CE 0)) :: (aS 1, .inr (4, [.ref (aC 1), .int (iI (TH 1)), .int (iI (LN 1)), .int (iI (SZ 1))])) :: (aC 1, aI E 50 (CE 1)) :: (aS 2, .inr (4, [.ref (aC 2), .int (iI (TH 2)), .int (iI (LN 2)), .int (iI (SZ 2))])) :: (aC 2, aI E 50 (CE 2)) :: (aS 3, .inr (4, [.ref (aC 3), .int (iI (TH 3)), .int (iI (LN 3)), .int (iI (SZ 3))])) :: (aC 3, aI E 50 (CE 3)) :: []) [(0, .ref b), (1, .ref a_X), (2, .ref a_M), (3, .int (iI i))] 1280 []) : lJ p l e s m below meth c b 37 2231 E ((a_X, .inr (5, [.ref a_P, .ref a_L, .ref a_R, .ref a_D, .ref a_Q, .int (iI tr), .int (iI ft)])) :: (a_P, .inr (1, [.ref a_hs, .ref a_se, .int (iI W), .int (iI h)])) :: (a_hs, aI E 200 hs) :: (a_se, aI E 100 se) :: (a_L, .inr (2, [.ref a_pc, .ref a_tn, .int (iI n)])) :: (a_pc, aI E 25 pc) :: (a_tn, aI E 25 tn) :: (a_R, .inr (3, [.ref a_P, .ref a_L, .ref a_sh, .ref a_fi, .ref a_wa, .ref a_us, .ref a_ly, .ref a_jl, .int (iI jo), .int (iI fo), .int (iI sp), .int (iI fd), .int (iI tc)])) :: (a_sh, aI E 400 sh) :: (a_fi, aI E 400 fi) :: (a_wa, aI E 100 wa) :: (a_us, aZ E 25 us) :: (a_ly, aI E 25 ly) :: (a_jl, aI E 25 jl) :: (a_D, .inr (0, [.long now])) :: (a_Q, aQ E 4 sf) :: (a_M, .inr (6, [.int (iI ft), .int (iI W), .int (iI h), .ref a_Mh, .long md, .int (iI mL), .int (iI mN), .int (iI n), .ref a_Mp, .ref a_Mt, .int (iI tc), .int (iI mfd), .ref a_Ma, .ref a_Mu, .ref a_Mi, .int (iI jo), .ref a_Mx, .ref a_My, .ref a_Ms, .ref a_Ml, .ref a_Mc, .ref a_Mg, .int (iI tr)])) :: (a_Mh, aI E 200 hs) :: (a_Mp, aI E 25 pc) :: (a_Mt, aI E 25 tn) :: (a_Ma, aI E 26 qa) :: (a_Mu, aI E 26 qf) :: (a_Mi, aZ E 25 mus) :: (a_Mx, aI E 25 ja) :: (a_My, aI E 25 jt) :: (a_Ms, aI E 4 ss) :: (a_Ml, aI E 4 sl) :: (a_Mc, aI E 200 sc) :: (a_Mg, aI E 50 hg) :: (aS 0, .inr (4, [.ref (aC 0), .int (iI (TH 0)), .int (iI (LN 0)), .int (iI (SZ 0))])) :: (aC 0, aI E 50 (CE 0)) :: (aS 1, .inr (4, [.ref (aC 1), .int (iI (TH 1)), .int (iI (LN 1)), .int (iI (SZ 1))])) :: (aC 1, aI E 50 (CE 1)) :: (aS 2, .inr (4, [.ref (aC 2), .int (iI (TH 2)), .int (iI (LN 2)), .int (iI (SZ 2))])) :: (aC 2, aI E 50 (CE 2)) :: (aS 3, .inr (4, [.ref (aC 3), .int (iI (TH 3)), .int (iI (LN 3)), .int (iI (SZ 3))])) :: (aC 3, aI E 50 (CE 3)) :: []) [(0, .ref b), (1, .ref a_X), (2, .ref a_M), (3, .int (iI i))] 348 [] := by
  have C := D.1
  have hL0 := D.2.2.2.2
  obtain ⟨w0, w1, w2, w3, hp, ha, hw⟩ := sel1 (lX xs (i + 1))
  have hf : 0 ≤ (lX xs (i + 1)) ∧ (lX xs (i + 1)) < 4 → (((TH w0 = 1 ∧ 0 ≤ ss (lX xs (i + 1)) ∧ SZ w0 = ss (lX xs (i + 1))) ∨ (TH w0 = 0 ∧ ss (lX xs (i + 1)) < 0 ∧ SZ w0 = 0)) ∧ LN w0 = sl (lX xs (i + 1)) ∧ (-1 ≤ ss (lX xs (i + 1)) ∧ ss (lX xs (i + 1)) ≤ 50) ∧ 0 ≤ sl (lX xs (i + 1)) ∧ sl (lX xs (i + 1)) ≤ 2) := fun q => by rw [hw q]; exact lsh_f hS ha
  have hc : 0 ≤ (lX xs (i + 1)) ∧ (lX xs (i + 1)) < 4 → ∀ c : Int, 0 ≤ c ∧ c < ss (lX xs (i + 1)) → CE w0 c = sc (50 * (lX xs (i + 1)) + c) := fun q => by rw [hw q]; exact lsh_c hS ha
  have hb := lsh_b hS ha
  have hth := hb.1
  have hsz := hb.2.1
  have hln := hb.2.2
  have hce := hS.2.2.1 w0
  have hss := hS.1
  have hscr := hS.2.2.2
  refine sh_in hp ?_
  refine g_aload_n 349 C 1 dL_law_348 rfl rfl ?_
  refine g_aload_n 350 C 0 dL_law_349 rfl rfl ?_
  refine g_iload_n 351 C 3 dL_law_350 rfl rfl ?_
  refine g_iconst 352 C dL_law_351 rfl ?_
  refine g_iadd 353 C dL_law_352 rfl ?_
  refine g_sld 354 D dL_law_353 rfl (by omega) ?_
  refine g_aload_n 355 C 0 dL_law_354 rfl rfl ?_
  refine g_iload_n 356 C 3 dL_law_355 rfl rfl ?_
  refine g_iconst 357 C dL_law_356 rfl ?_
  refine g_iadd 358 C dL_law_357 rfl ?_
  refine g_sld 359 D dL_law_358 rfl (by omega) ?_
  refine g_aload_n 360 C 0 dL_law_359 rfl rfl ?_
  refine g_iload_n 361 C 3 dL_law_360 rfl rfl ?_
  refine g_iconst 362 C dL_law_361 rfl ?_
  refine g_iadd 363 C dL_law_362 rfl ?_
  refine g_sld 364 D dL_law_363 rfl (by omega) ?_
  refine g_aload_n 365 C 0 dL_law_364 rfl rfl ?_
  refine g_iload_n 366 C 3 dL_law_365 rfl rfl ?_
  refine g_iconst 367 C dL_law_366 rfl ?_
  refine g_iadd 368 C dL_law_367 rfl ?_
  refine g_sld 369 D dL_law_368 rfl (by omega) ?_
  refine g_aload_n 370 C 0 dL_law_369 rfl rfl ?_
  refine g_iload_n 371 C 3 dL_law_370 rfl rfl ?_
  refine g_iconst 372 C dL_law_371 rfl ?_
  refine g_iadd 373 C dL_law_372 rfl ?_
  refine g_sld 374 D dL_law_373 rfl (by omega) ?_
  refine g_callVU (ws' := ((_, .inr (5, [_, _, _, _, _, _, _])) :: (_, .inr (1, [_, _, _, _])) :: (_, aI _ _ _) :: (_, aI _ _ _) :: (_, .inr (2, [_, _, _])) :: (_, aI _ _ _) :: (_, aI _ _ _) :: (_, .inr (3, [_, _, _, _, _, _, _, _, _, _, _, _, _])) :: (_, aI _ _ _) :: (_, aI _ _ _) :: (_, aI _ _ _) :: (_, aZ _ _ _) :: (_, aI _ _ _) :: (_, aI _ _ _) :: (_, .inr (0, [_])) :: (_, aQ _ _ _) :: (_, .inr (6, [_, _, _, _, _, _, _, _, _, _, _, _, _, _, _, _, _, _, _, _, _, _, _])) :: (_, aI _ _ _) :: (_, aI _ _ _) :: (_, aI _ _ _) :: (_, aI _ _ _) :: (_, aI _ _ _) :: (_, aZ _ _ _) :: (_, aI _ _ _) :: (_, aI _ _ _) :: (_, aI _ _ _) :: (_, aI _ _ _) :: (_, aI _ _ _) :: (_, aI _ _ _) :: (_, .inr (4, [_, _, _, _])) :: (_, aI _ _ _) :: (_, .inr (4, [_, _, _, _])) :: (_, aI _ _ _) :: (_, .inr (4, [_, _, _, _])) :: (_, aI _ _ _) :: (_, .inr (4, [_, _, _, _])) :: (_, aI _ _ _) :: [])) 377 C [0, 1, 2, 15, 29, 30, 7] dL_law_374 rfl (k_X5_shape E l  (by first | exact lX_b _ _ | assumption | omega) (fun q => by rw [hw q]; exact hsf _ ha) (by first | exact lX_b _ _ | assumption | omega) (by first | exact lX_b _ _ | assumption | omega) (by first | exact lX_b _ _ | assumption | omega) (by first | exact lX_b _ _ | assumption | omega) (by first | exact lX_b _ _ | assumption | omega) (by first | exact lX_b _ _ | assumption | omega) (by first | exact lX_b _ _ | assumption | omega) (by first | exact lX_b _ _ | assumption | omega) (by first | exact lX_b _ _ | assumption | omega)) (cwV 5 C.2.2.2.2.1 gL_law_X5_shape rfl rfl rfl cdX5_shape ⟨Nat.le_of_ble_eq_true rfl, Nat.le_of_ble_eq_true rfl⟩) rfl rfl rfl rfl (Nat.le_of_ble_eq_true rfl) 0 5 rfl rfl rfl ⟨Nat.le_of_ble_eq_true rfl, Nat.le_of_ble_eq_true rfl⟩ rfl rfl ?_
  refine g_aload_n 378 C 2 dL_law_377 rfl rfl ?_
  refine g_aload_n 379 C 0 dL_law_378 rfl rfl ?_
  refine g_iload_n 380 C 3 dL_law_379 rfl rfl ?_
  refine g_iconst 381 C dL_law_380 rfl ?_
  refine g_iadd 382 C dL_law_381 rfl ?_
  refine g_sld 383 D dL_law_382 rfl (by omega) ?_
  refine g_aload_n 384 C 0 dL_law_383 rfl rfl ?_
  refine g_iload_n 385 C 3 dL_law_384 rfl rfl ?_
  refine g_iconst 386 C dL_law_385 rfl ?_
  refine g_iadd 387 C dL_law_386 rfl ?_
  refine g_sld 388 D dL_law_387 rfl (by omega) ?_
  refine g_aload_n 389 C 0 dL_law_388 rfl rfl ?_
  refine g_iload_n 390 C 3 dL_law_389 rfl rfl ?_
  refine g_iconst 391 C dL_law_390 rfl ?_
  refine g_iadd 392 C dL_law_391 rfl ?_
  refine g_sld 393 D dL_law_392 rfl (by omega) ?_
  refine g_aload_n 394 C 0 dL_law_393 rfl rfl ?_
  refine g_iload_n 395 C 3 dL_law_394 rfl rfl ?_
  refine g_iconst 396 C dL_law_395 rfl ?_
  refine g_iadd 397 C dL_law_396 rfl ?_
  refine g_sld 398 D dL_law_397 rfl (by omega) ?_
  refine g_aload_n 399 C 0 dL_law_398 rfl rfl ?_
  refine g_iload_n 400 C 3 dL_law_399 rfl rfl ?_
  refine g_iconst 401 C dL_law_400 rfl ?_
  refine g_iadd 402 C dL_law_401 rfl ?_
  refine g_sld 403 D dL_law_402 rfl (by omega) ?_
  refine g_callVU (ws' := ((_, .inr (5, [_, _, _, _, _, _, _])) :: (_, .inr (1, [_, _, _, _])) :: (_, aI _ _ _) :: (_, aI _ _ _) :: (_, .inr (2, [_, _, _])) :: (_, aI _ _ _) :: (_, aI _ _ _) :: (_, .inr (3, [_, _, _, _, _, _, _, _, _, _, _, _, _])) :: (_, aI _ _ _) :: (_, aI _ _ _) :: (_, aI _ _ _) :: (_, aZ _ _ _) :: (_, aI _ _ _) :: (_, aI _ _ _) :: (_, .inr (0, [_])) :: (_, aQ _ _ _) :: (_, .inr (6, [_, _, _, _, _, _, _, _, _, _, _, _, _, _, _, _, _, _, _, _, _, _, _])) :: (_, aI _ _ _) :: (_, aI _ _ _) :: (_, aI _ _ _) :: (_, aI _ _ _) :: (_, aI _ _ _) :: (_, aZ _ _ _) :: (_, aI _ _ _) :: (_, aI _ _ _) :: (_, aI _ _ _) :: (_, aI _ _ _) :: (_, aI _ _ _) :: (_, aI _ _ _) :: (_, .inr (4, [_, _, _, _])) :: (_, aI _ _ _) :: (_, .inr (4, [_, _, _, _])) :: (_, aI _ _ _) :: (_, .inr (4, [_, _, _, _])) :: (_, aI _ _ _) :: (_, .inr (4, [_, _, _, _])) :: (_, aI _ _ _) :: [])) 406 C [16, 17, 25, 26, 27] dL_law_403 rfl (k_X6_shape E l  (by first | exact lX_b _ _ | assumption | omega) (by first | exact lX_b _ _ | assumption | omega) (by first | exact lX_b _ _ | assumption | omega) (by first | exact lX_b _ _ | assumption | omega) (by first | exact lX_b _ _ | assumption | omega) (by first | exact lX_b _ _ | assumption | omega) (by first | exact lX_b _ _ | assumption | omega) (by first | exact lX_b _ _ | assumption | omega)) (cwV 5 C.2.2.2.2.1 gL_law_X6_shape rfl rfl rfl cdX6_shape ⟨Nat.le_of_ble_eq_true rfl, Nat.le_of_ble_eq_true rfl⟩) rfl rfl rfl rfl (Nat.le_of_ble_eq_true rfl) 16 6 rfl rfl rfl ⟨Nat.le_of_ble_eq_true rfl, Nat.le_of_ble_eq_true rfl⟩ rfl rfl ?_
  refine g_cmpE 1280 C dL_law_406 (by decide) (congrArg iI (shape_b (fun q => ⟨(hf q).1, (hf q).2.1⟩) hc _ _ _ _ _ _ _ _ _ (fun _ => rfl))) ?_
  rw [show (if ¬ ((0 ≤ (lX xs (i + 1)) ∧ (lX xs (i + 1)) < 4) ∧ 0 ≤ (lX xs (i + 5)) ∧ (lX xs (i + 5)) < nsd W h) then 0 else if ¬ (0 ≤ (lX xs (i + 2)) ∧ (lX xs (i + 2)) < 3) then 0 else if (TH w0) = 1 ∧ (LN w0) ≠ (lX xs (i + 2)) then 2 else if (TH w0) = 0 then 1 else if (lX xs (i + 4)) < 0 then 4 else if ¬ ((0 ≤ (lX xs (i + 3)) ∧ 0 ≤ (lX xs (i + 4)) * 5 ∧ (lX xs (i + 3)) + (lX xs (i + 4)) * 5 ≤ (SZ w0)) ∧ (lX xs (i + 5)) + (lX xs (i + 4)) ≤ nsd W h) then 3 else cI (∀ c : Int, (lX xs (i + 3)) ≤ c → c < (lX xs (i + 3)) + (lX xs (i + 4)) * 5 → -9 ≤ (CE w0) c ∧ (CE w0) c ≤ 9) (0) (0) : Int) = if ¬ ((0 ≤ (lX xs (i + 1)) ∧ (lX xs (i + 1)) < 4) ∧ 0 ≤ (lX xs (i + 5)) ∧ (lX xs (i + 5)) < nsd W h) then 0 else if ¬ (0 ≤ (lX xs (i + 2)) ∧ (lX xs (i + 2)) < 3) then 0 else if 0 ≤ ss (lX xs (i + 1)) ∧ sl (lX xs (i + 1)) ≠ (lX xs (i + 2)) then 2 else if ss (lX xs (i + 1)) < 0 then 1 else if (lX xs (i + 4)) < 0 then 4 else if ¬ ((0 ≤ (lX xs (i + 3)) ∧ 0 ≤ (lX xs (i + 4)) * 5 ∧ (lX xs (i + 3)) + (lX xs (i + 4)) * 5 ≤ ss (lX xs (i + 1))) ∧ (lX xs (i + 5)) + (lX xs (i + 4)) ≤ nsd W h) then 3 else cI (∀ c : Int, 50 * (lX xs (i + 1)) + (lX xs (i + 3)) ≤ c → c < 50 * (lX xs (i + 1)) + (lX xs (i + 3)) + (lX xs (i + 4)) * 5 → -9 ≤ sc c ∧ sc c ≤ 9) (0) (0) from shape_b (fun q => ⟨(hf q).1, (hf q).2.1⟩) hc _ _ _ _ _ _ _ _ _ (fun _ => rfl), show (if ¬ ((0 ≤ (lX xs (i + 1)) ∧ (lX xs (i + 1)) < 4) ∧ 0 ≤ (lX xs (i + 5)) ∧ (lX xs (i + 5)) < nsd W h) then jo else if ¬ (0 ≤ (lX xs (i + 2)) ∧ (lX xs (i + 2)) < 3) then jo else if (TH w0) = 1 ∧ (LN w0) ≠ (lX xs (i + 2)) then jo else if (TH w0) = 0 then jo else if (lX xs (i + 4)) < 0 then jo else if ¬ ((0 ≤ (lX xs (i + 3)) ∧ 0 ≤ (lX xs (i + 4)) * 5 ∧ (lX xs (i + 3)) + (lX xs (i + 4)) * 5 ≤ (SZ w0)) ∧ (lX xs (i + 5)) + (lX xs (i + 4)) ≤ nsd W h) then jo else cI (∀ c : Int, (lX xs (i + 3)) ≤ c → c < (lX xs (i + 3)) + (lX xs (i + 4)) * 5 → -9 ≤ (CE w0) c ∧ (CE w0) c ≤ 9) (0) (jo) : Int) = if ¬ ((0 ≤ (lX xs (i + 1)) ∧ (lX xs (i + 1)) < 4) ∧ 0 ≤ (lX xs (i + 5)) ∧ (lX xs (i + 5)) < nsd W h) then jo else if ¬ (0 ≤ (lX xs (i + 2)) ∧ (lX xs (i + 2)) < 3) then jo else if 0 ≤ ss (lX xs (i + 1)) ∧ sl (lX xs (i + 1)) ≠ (lX xs (i + 2)) then jo else if ss (lX xs (i + 1)) < 0 then jo else if (lX xs (i + 4)) < 0 then jo else if ¬ ((0 ≤ (lX xs (i + 3)) ∧ 0 ≤ (lX xs (i + 4)) * 5 ∧ (lX xs (i + 3)) + (lX xs (i + 4)) * 5 ≤ ss (lX xs (i + 1))) ∧ (lX xs (i + 5)) + (lX xs (i + 4)) ≤ nsd W h) then jo else cI (∀ c : Int, 50 * (lX xs (i + 1)) + (lX xs (i + 3)) ≤ c → c < 50 * (lX xs (i + 1)) + (lX xs (i + 3)) + (lX xs (i + 4)) * 5 → -9 ≤ sc c ∧ sc c ≤ 9) (0) (jo) from shape_b (fun q => ⟨(hf q).1, (hf q).2.1⟩) hc _ _ _ _ _ _ _ _ _ (fun _ => rfl), show (if ¬ ((0 ≤ (lX xs (i + 1)) ∧ (lX xs (i + 1)) < 4) ∧ 0 ≤ (lX xs (i + 5)) ∧ (lX xs (i + 5)) < nsd W h) then hs else if ¬ (0 ≤ (lX xs (i + 2)) ∧ (lX xs (i + 2)) < 3) then hs else if (TH w0) = 1 ∧ (LN w0) ≠ (lX xs (i + 2)) then hs else if (TH w0) = 0 then hs else if (lX xs (i + 4)) < 0 then hs else if ¬ ((0 ≤ (lX xs (i + 3)) ∧ 0 ≤ (lX xs (i + 4)) * 5 ∧ (lX xs (i + 3)) + (lX xs (i + 4)) * 5 ≤ (SZ w0)) ∧ (lX xs (i + 5)) + (lX xs (i + 4)) ≤ nsd W h) then hs else @ite (Int → Int) (∀ c : Int, (lX xs (i + 3)) ≤ c → c < (lX xs (i + 3)) + (lX xs (i + 4)) * 5 → -9 ≤ (CE w0) c ∧ (CE w0) c ≤ 9) (Classical.propDecidable _) (shI hs (CE w0) (lX xs (i + 5)) (lX xs (i + 3)) ((lX xs (i + 4)) * 5)) (hs) : Int → Int) = if ¬ ((0 ≤ (lX xs (i + 1)) ∧ (lX xs (i + 1)) < 4) ∧ 0 ≤ (lX xs (i + 5)) ∧ (lX xs (i + 5)) < nsd W h) then hs else if ¬ (0 ≤ (lX xs (i + 2)) ∧ (lX xs (i + 2)) < 3) then hs else if 0 ≤ ss (lX xs (i + 1)) ∧ sl (lX xs (i + 1)) ≠ (lX xs (i + 2)) then hs else if ss (lX xs (i + 1)) < 0 then hs else if (lX xs (i + 4)) < 0 then hs else if ¬ ((0 ≤ (lX xs (i + 3)) ∧ 0 ≤ (lX xs (i + 4)) * 5 ∧ (lX xs (i + 3)) + (lX xs (i + 4)) * 5 ≤ ss (lX xs (i + 1))) ∧ (lX xs (i + 5)) + (lX xs (i + 4)) ≤ nsd W h) then hs else @ite (Int → Int) (∀ c : Int, 50 * (lX xs (i + 1)) + (lX xs (i + 3)) ≤ c → c < 50 * (lX xs (i + 1)) + (lX xs (i + 3)) + (lX xs (i + 4)) * 5 → -9 ≤ sc c ∧ sc c ≤ 9) (Classical.propDecidable _) (shI hs sc (lX xs (i + 5)) (50 * (lX xs (i + 1)) + (lX xs (i + 3))) ((lX xs (i + 4)) * 5)) (hs) from shape_b (fun q => ⟨(hf q).1, (hf q).2.1⟩) hc _ _ _ _ _ _ _ _ _ (fun q => shI_e q)]
  obtain ⟨j6, hj6, hj7⟩ : ∃ z : Int, (if ¬ ((0 ≤ (lX xs (i + 1)) ∧ (lX xs (i + 1)) < 4) ∧ 0 ≤ (lX xs (i + 5)) ∧ (lX xs (i + 5)) < nsd W h) then jo else if ¬ (0 ≤ (lX xs (i + 2)) ∧ (lX xs (i + 2)) < 3) then jo else if 0 ≤ ss (lX xs (i + 1)) ∧ sl (lX xs (i + 1)) ≠ (lX xs (i + 2)) then jo else if ss (lX xs (i + 1)) < 0 then jo else if (lX xs (i + 4)) < 0 then jo else if ¬ ((0 ≤ (lX xs (i + 3)) ∧ 0 ≤ (lX xs (i + 4)) * 5 ∧ (lX xs (i + 3)) + (lX xs (i + 4)) * 5 ≤ ss (lX xs (i + 1))) ∧ (lX xs (i + 5)) + (lX xs (i + 4)) ≤ nsd W h) then jo else cI (∀ c : Int, 50 * (lX xs (i + 1)) + (lX xs (i + 3)) ≤ c → c < 50 * (lX xs (i + 1)) + (lX xs (i + 3)) + (lX xs (i + 4)) * 5 → -9 ≤ sc c ∧ sc c ≤ 9) (0) (jo) : Int) = z ∧ (z = jo ∨ z = 0) := ⟨_, rfl, (j_if (Or.inl rfl) (j_if (Or.inl rfl) (j_if (Or.inl rfl) (j_if (Or.inl rfl) (j_if (Or.inl rfl) (j_if (Or.inl rfl) (j_if (Or.inr rfl) (Or.inl rfl))))))))⟩
  rw [hj6]
  refine sh_back hp ?_
  exact kk hB (b9_if (fun _ => hh) (b9_if (fun _ => hh) (b9_if (fun _ => hh) (b9_if (fun _ => hh) (b9_if (fun _ => hh) (b9_if (fun _ => hh) (b9_if (fun q => shI_b9 hh q) hh))))))) hse hn hpw (by omega) (fun q => hjq (by omega)) hS
theorem cdX5_sheet : yX5_sheet.cls = RX5 ∧ yX5_sheet.cls ≠ "java/lang/invoke/MethodHandle" ∧ yX5_sheet.cls ≠ "java/lang/invoke/VarHandle" ∧ (parseMethodDescriptor yX5_sheet.desc).map (fun d => d.parameters.length) = some 3 := by decide +kernel
theorem cdX6_sheet : yX6_sheet.cls = RX6 ∧ yX6_sheet.cls ≠ "java/lang/invoke/MethodHandle" ∧ yX6_sheet.cls ≠ "java/lang/invoke/VarHandle" ∧ (parseMethodDescriptor yX6_sheet.desc).map (fun d => d.parameters.length) = some 3 := by decide +kernel
set_option maxHeartbeats 4000000 in
set_option maxRecDepth 100000 in
theorem law_23 {p : Program} {l : Launch} {e : Env} {s : State} {m : MethodId} {below : List Frame} {meth : Method} {c : Code} {b L : Nat} {xs : Nat → Int32} {E : gE} {a_X a_P a_hs a_se a_L a_pc a_tn a_R a_sh a_fi a_wa a_us a_ly a_jl a_D a_Q a_M a_Mh a_Mp a_Mt a_Ma a_Mu a_Mi a_Mx a_My a_Ms a_Ml a_Mc a_Mg : Nat} {aS aC : Int → Nat} {W h n jo fo sp fd tc tr ft mL mN mfd : Int} {hs se pc tn sh fi wa us ly jl qa qf mus ja jt ss sl sc hg TH LN SZ : Int → Int} {CE : Int → Int → Int} {now md : Int64} {sf : Int → Option Nat} {i : Int} (D : lC p s m meth c b L xs E) (hsf : ∀ j : Int, 0 ≤ j ∧ j < 4 → sf j = some (aS j)) (hi : 0 ≤ i ∧ i + 6 ≤ L) (hB : 1 ≤ W ∧ W ≤ 5 ∧ 1 ≤ h ∧ h ≤ 5) (hh : hB9 hs) (hse : ∀ p e : Int, 0 ≤ p ∧ p < W * h → 0 ≤ e ∧ e < 4 → se (p * 4 + e) = sdI W h p e) (hn : 0 ≤ n ∧ n ≤ 25) (hpw : ∀ j : Int, 0 ≤ j ∧ j < n → (0 ≤ pc j ∧ pc j < W * h) ∧ 0 ≤ tn j ∧ tn j < 4) (hjo : jo = 0 ∨ jo = 1) (hjq : jo = 1 → ∀ j : Int, 0 ≤ j ∧ j < W * h → jl j = ja j * 4 + jt j ∧ (0 ≤ ja j ∧ ja j < 25) ∧ 0 ≤ jt j ∧ jt j < 4) (hS : lshI TH LN SZ CE ss sl sc) (kk : ∀ {W h n jo fo sp fd tc tr ft mL mN mfd : Int} {hs se pc tn sh fi wa us ly jl qa qf mus ja jt ss sl sc hg TH LN SZ : Int → Int} {CE : Int → Int → Int} {now md : Int64}, (1 ≤ W ∧ W ≤ 5 ∧ 1 ≤ h ∧ h ≤ 5) → (hB9 hs) → (∀ p e : Int, 0 ≤ p ∧ p < W * h → 0 ≤ e ∧ e < 4 → se (p * 4 + e) = sdI W h p e) → (0 ≤ n ∧ n ≤ 25) → (∀ j : Int, 0 ≤ j ∧ j < n → (0 ≤ pc j ∧ pc j < W * h) ∧ 0 ≤ tn j ∧ tn j < 4) → (jo = 0 ∨ jo = 1) → (jo = 1 → ∀ j : Int, 0 ≤ j ∧ j < W * h → jl j = ja j * 4 + jt j ∧ (0 ≤ ja j ∧ ja j < 25) ∧ 0 ≤ jt j ∧ jt j < 4) → (lshI TH LN SZ CE ss sl sc) → lJ p l e s m below meth c b 37 2231 E ((a_X, .inr (5, [.ref a_P, .ref a_L, .ref a_R, .ref a_D, .ref a_Q, .int (iI tr), .int (iI ft)])) :: (a_P, .inr (1, [.ref a_hs, .ref a_se, .int (iI W), .int (iI h)])) :: (a_hs, aI E 200 hs) :: (a_se, aI E 100 se) :: (a_L, .inr (2, [.ref a_pc, .ref a_tn, .int (iI n)])) :: (a_pc, aI E 25 pc) :: (a_tn, aI E 25 tn) :: (a_R, .inr (3, [.ref a_P, .ref a_L, .ref a_sh, .ref a_fi, .ref a_wa, .ref a_us, .ref a_ly, .ref a_jl, .int (iI jo), .int (iI fo), .int (iI sp), .int (iI fd), .int (iI tc)])) :: (a_sh, aI E 400 sh) :: (a_fi, aI E 400 fi) :: (a_wa, aI E 100 wa) :: (a_us, aZ E 25 us) :: (a_ly, aI E 25 ly) :: (a_jl, aI E 25 jl) :: (a_D, .inr (0, [.long now])) :: (a_Q, aQ E 4 sf) :: (a_M, .inr (6, [.int (iI ft), .int (iI W), .int (iI h), .ref a_Mh, .long md, .int (iI mL), .int (iI mN), .int (iI n), .ref a_Mp, .ref a_Mt, .int (iI tc), .int (iI mfd), .ref a_Ma, .ref a_Mu, .ref a_Mi, .int (iI jo), .ref a_Mx, .ref a_My, .ref a_Ms, .ref a_Ml, .ref a_Mc, .ref a_Mg, .int (iI tr)])) :: (a_Mh, aI E 200 hs) :: (a_Mp, aI E 25 pc) :: (a_Mt, aI E 25 tn) :: (a_Ma, aI E 26 qa) :: (a_Mu, aI E 26 qf) :: (a_Mi, aZ E 25 mus) :: (a_Mx, aI E 25 ja) :: (a_My, aI E 25 jt) :: (a_Ms, aI E 4 ss) :: (a_Ml, aI E 4 sl) :: (a_Mc, aI E 200 sc) :: (a_Mg, aI E 50 hg) :: (aS 0, .inr (4, [.ref (aC 0), .int (iI (TH 0)), .int (iI (LN 0)), .int (iI (SZ 0))])) :: (aC 0, aI E 50 (CE 0)) :: (aS 1, .inr (4, [.ref (aC 1), .int (iI (TH 1)), .int (iI (LN 1)), .int (iI (SZ 1))])) :: (aC 1, aI E 50 (CE 1)) :: (aS 2, .inr (4, [.ref (aC 2), .int (iI (TH 2)), .int (iI (LN 2)), .int (iI (SZ 2))])) :: (aC 2, aI E 50 (CE 2)) :: (aS 3, .inr (4, [.ref (aC 3), .int (iI (TH 3)), .int (iI (LN 3)), .int (iI (SZ 3))])) :: (aC 3, aI E 50 (CE 3)) :: []) [(0, .ref b), (1, .ref a_X), (2, .ref a_M), (3, .int (iI i))] 1280 []) : lJ p l e s m below meth c b 37 2231 E ((a_X, .inr (5, [.ref a_P, .ref a_L, .ref a_R, .ref a_D, .ref a_Q, .int (iI tr), .int (iI ft)])) :: (a_P, .inr (1, [.ref a_hs, .ref a_se, .int (iI W), .int (iI h)])) :: (a_hs, aI E 200 hs) :: (a_se, aI E 100 se) :: (a_L, .inr (2, [.ref a_pc, .ref a_tn, .int (iI n)])) :: (a_pc, aI E 25 pc) :: (a_tn, aI E 25 tn) :: (a_R, .inr (3, [.ref a_P, .ref a_L, .ref a_sh, .ref a_fi, .ref a_wa, .ref a_us, .ref a_ly, .ref a_jl, .int (iI jo), .int (iI fo), .int (iI sp), .int (iI fd), .int (iI tc)])) :: (a_sh, aI E 400 sh) :: (a_fi, aI E 400 fi) :: (a_wa, aI E 100 wa) :: (a_us, aZ E 25 us) :: (a_ly, aI E 25 ly) :: (a_jl, aI E 25 jl) :: (a_D, .inr (0, [.long now])) :: (a_Q, aQ E 4 sf) :: (a_M, .inr (6, [.int (iI ft), .int (iI W), .int (iI h), .ref a_Mh, .long md, .int (iI mL), .int (iI mN), .int (iI n), .ref a_Mp, .ref a_Mt, .int (iI tc), .int (iI mfd), .ref a_Ma, .ref a_Mu, .ref a_Mi, .int (iI jo), .ref a_Mx, .ref a_My, .ref a_Ms, .ref a_Ml, .ref a_Mc, .ref a_Mg, .int (iI tr)])) :: (a_Mh, aI E 200 hs) :: (a_Mp, aI E 25 pc) :: (a_Mt, aI E 25 tn) :: (a_Ma, aI E 26 qa) :: (a_Mu, aI E 26 qf) :: (a_Mi, aZ E 25 mus) :: (a_Mx, aI E 25 ja) :: (a_My, aI E 25 jt) :: (a_Ms, aI E 4 ss) :: (a_Ml, aI E 4 sl) :: (a_Mc, aI E 200 sc) :: (a_Mg, aI E 50 hg) :: (aS 0, .inr (4, [.ref (aC 0), .int (iI (TH 0)), .int (iI (LN 0)), .int (iI (SZ 0))])) :: (aC 0, aI E 50 (CE 0)) :: (aS 1, .inr (4, [.ref (aC 1), .int (iI (TH 1)), .int (iI (LN 1)), .int (iI (SZ 1))])) :: (aC 1, aI E 50 (CE 1)) :: (aS 2, .inr (4, [.ref (aC 2), .int (iI (TH 2)), .int (iI (LN 2)), .int (iI (SZ 2))])) :: (aC 2, aI E 50 (CE 2)) :: (aS 3, .inr (4, [.ref (aC 3), .int (iI (TH 3)), .int (iI (LN 3)), .int (iI (SZ 3))])) :: (aC 3, aI E 50 (CE 3)) :: []) [(0, .ref b), (1, .ref a_X), (2, .ref a_M), (3, .int (iI i))] 936 [] := by
  have C := D.1
  have hL0 := D.2.2.2.2
  obtain ⟨w0, w1, w2, w3, hp, ha, hw⟩ := sel1 (lX xs (i + 1))
  have hf : 0 ≤ (lX xs (i + 1)) ∧ (lX xs (i + 1)) < 4 → (((TH w0 = 1 ∧ 0 ≤ ss (lX xs (i + 1)) ∧ SZ w0 = ss (lX xs (i + 1))) ∨ (TH w0 = 0 ∧ ss (lX xs (i + 1)) < 0 ∧ SZ w0 = 0)) ∧ LN w0 = sl (lX xs (i + 1)) ∧ (-1 ≤ ss (lX xs (i + 1)) ∧ ss (lX xs (i + 1)) ≤ 50) ∧ 0 ≤ sl (lX xs (i + 1)) ∧ sl (lX xs (i + 1)) ≤ 2) := fun q => by rw [hw q]; exact lsh_f hS ha
  have hc : 0 ≤ (lX xs (i + 1)) ∧ (lX xs (i + 1)) < 4 → ∀ c : Int, 0 ≤ c ∧ c < ss (lX xs (i + 1)) → CE w0 c = sc (50 * (lX xs (i + 1)) + c) := fun q => by rw [hw q]; exact lsh_c hS ha
  have hb := lsh_b hS ha
  have hth := hb.1
  have hsz := hb.2.1
  have hln := hb.2.2
  have hce := hS.2.2.1 w0
  have hss := hS.1
  have hscr := hS.2.2.2
  refine sh_in hp ?_
  refine g_aload_n 937 C 1 dL_law_936 rfl rfl ?_
  refine g_aload_n 938 C 0 dL_law_937 rfl rfl ?_
  refine g_iload_n 939 C 3 dL_law_938 rfl rfl ?_
  refine g_iconst 940 C dL_law_939 rfl ?_
  refine g_iadd 941 C dL_law_940 rfl ?_
  refine g_sld 942 D dL_law_941 rfl (by omega) ?_
  refine g_aload_n 943 C 0 dL_law_942 rfl rfl ?_
  refine g_iload_n 944 C 3 dL_law_943 rfl rfl ?_
  refine g_iconst 945 C dL_law_944 rfl ?_
  refine g_iadd 946 C dL_law_945 rfl ?_
  refine g_sld 947 D dL_law_946 rfl (by omega) ?_
  refine g_aload_n 948 C 0 dL_law_947 rfl rfl ?_
  refine g_iload_n 949 C 3 dL_law_948 rfl rfl ?_
  refine g_iconst 950 C dL_law_949 rfl ?_
  refine g_iadd 951 C dL_law_950 rfl ?_
  refine g_sld 952 D dL_law_951 rfl (by omega) ?_
  refine g_callVU (ws' := ((_, .inr (5, [_, _, _, _, _, _, _])) :: (_, .inr (1, [_, _, _, _])) :: (_, aI _ _ _) :: (_, aI _ _ _) :: (_, .inr (2, [_, _, _])) :: (_, aI _ _ _) :: (_, aI _ _ _) :: (_, .inr (3, [_, _, _, _, _, _, _, _, _, _, _, _, _])) :: (_, aI _ _ _) :: (_, aI _ _ _) :: (_, aI _ _ _) :: (_, aZ _ _ _) :: (_, aI _ _ _) :: (_, aI _ _ _) :: (_, .inr (0, [_])) :: (_, aQ _ _ _) :: (_, .inr (6, [_, _, _, _, _, _, _, _, _, _, _, _, _, _, _, _, _, _, _, _, _, _, _])) :: (_, aI _ _ _) :: (_, aI _ _ _) :: (_, aI _ _ _) :: (_, aI _ _ _) :: (_, aI _ _ _) :: (_, aZ _ _ _) :: (_, aI _ _ _) :: (_, aI _ _ _) :: (_, aI _ _ _) :: (_, aI _ _ _) :: (_, aI _ _ _) :: (_, aI _ _ _) :: (_, .inr (4, [_, _, _, _])) :: (_, aI _ _ _) :: (_, .inr (4, [_, _, _, _])) :: (_, aI _ _ _) :: (_, .inr (4, [_, _, _, _])) :: (_, aI _ _ _) :: (_, .inr (4, [_, _, _, _])) :: (_, aI _ _ _) :: [])) 955 C [0, 15, 29, 30] dL_law_952 rfl (k_X5_sheet E l  (fun q => by rw [hw q]; exact hsf _ ha) (by first | exact lX_b _ _ | assumption | omega) (by first | exact lX_b _ _ | assumption | omega) (by first | exact lX_b _ _ | assumption | omega)) (cwV 3 C.2.2.2.2.1 gL_law_X5_sheet rfl rfl rfl cdX5_sheet ⟨Nat.le_of_ble_eq_true rfl, Nat.le_of_ble_eq_true rfl⟩) rfl rfl rfl rfl (Nat.le_of_ble_eq_true rfl) 0 5 rfl rfl rfl ⟨Nat.le_of_ble_eq_true rfl, Nat.le_of_ble_eq_true rfl⟩ rfl rfl ?_
  refine g_aload_n 956 C 2 dL_law_955 rfl rfl ?_
  refine g_aload_n 957 C 0 dL_law_956 rfl rfl ?_
  refine g_iload_n 958 C 3 dL_law_957 rfl rfl ?_
  refine g_iconst 959 C dL_law_958 rfl ?_
  refine g_iadd 960 C dL_law_959 rfl ?_
  refine g_sld 961 D dL_law_960 rfl (by omega) ?_
  refine g_aload_n 962 C 0 dL_law_961 rfl rfl ?_
  refine g_iload_n 963 C 3 dL_law_962 rfl rfl ?_
  refine g_iconst 964 C dL_law_963 rfl ?_
  refine g_iadd 965 C dL_law_964 rfl ?_
  refine g_sld 966 D dL_law_965 rfl (by omega) ?_
  refine g_aload_n 967 C 0 dL_law_966 rfl rfl ?_
  refine g_iload_n 968 C 3 dL_law_967 rfl rfl ?_
  refine g_iconst 969 C dL_law_968 rfl ?_
  refine g_iadd 970 C dL_law_969 rfl ?_
  refine g_sld 971 D dL_law_970 rfl (by omega) ?_
  refine g_callVU (ws' := ((_, .inr (5, [_, _, _, _, _, _, _])) :: (_, .inr (1, [_, _, _, _])) :: (_, aI _ _ _) :: (_, aI _ _ _) :: (_, .inr (2, [_, _, _])) :: (_, aI _ _ _) :: (_, aI _ _ _) :: (_, .inr (3, [_, _, _, _, _, _, _, _, _, _, _, _, _])) :: (_, aI _ _ _) :: (_, aI _ _ _) :: (_, aI _ _ _) :: (_, aZ _ _ _) :: (_, aI _ _ _) :: (_, aI _ _ _) :: (_, .inr (0, [_])) :: (_, aQ _ _ _) :: (_, .inr (6, [_, _, _, _, _, _, _, _, _, _, _, _, _, _, _, _, _, _, _, _, _, _, _])) :: (_, aI _ _ _) :: (_, aI _ _ _) :: (_, aI _ _ _) :: (_, aI _ _ _) :: (_, aI _ _ _) :: (_, aZ _ _ _) :: (_, aI _ _ _) :: (_, aI _ _ _) :: (_, aI _ _ _) :: (_, aI _ _ _) :: (_, aI _ _ _) :: (_, aI _ _ _) :: (_, .inr (4, [_, _, _, _])) :: (_, aI _ _ _) :: (_, .inr (4, [_, _, _, _])) :: (_, aI _ _ _) :: (_, .inr (4, [_, _, _, _])) :: (_, aI _ _ _) :: (_, .inr (4, [_, _, _, _])) :: (_, aI _ _ _) :: [])) 974 C [16, 25, 26, 27] dL_law_971 rfl (k_X6_sheet E l  (by first | exact lX_b _ _ | assumption | omega) (by first | exact lX_b _ _ | assumption | omega) (by first | exact lX_b _ _ | assumption | omega)) (cwV 3 C.2.2.2.2.1 gL_law_X6_sheet rfl rfl rfl cdX6_sheet ⟨Nat.le_of_ble_eq_true rfl, Nat.le_of_ble_eq_true rfl⟩) rfl rfl rfl rfl (Nat.le_of_ble_eq_true rfl) 16 6 rfl rfl rfl ⟨Nat.le_of_ble_eq_true rfl, Nat.le_of_ble_eq_true rfl⟩ rfl rfl ?_
  refine g_cmpE 1280 C dL_law_974 (by decide) (rfl) ?_
  by_cases hg : (0 ≤ lX xs (i + 1) ∧ lX xs (i + 1) < 4) ∧ (0 ≤ lX xs (i + 2) ∧ lX xs (i + 2) < 3) ∧ 0 ≤ lX xs (i + 3) ∧ lX xs (i + 3) ≤ 50
  · skip
    simp only [if_pos hg]
    obtain rfl := hw hg.1
    refine sh_out hp ?_
    exact kk (TH := uI TH (lX xs (i + 1)) 1) (LN := uI LN (lX xs (i + 1)) (lX xs (i + 2))) (SZ := uI SZ (lX xs (i + 1)) (lX xs (i + 3))) (CE := uC CE (lX xs (i + 1)) (zrI (CE (lX xs (i + 1))) 50)) hB hh hse hn hpw hjo hjq (lsh_sheet hS hg.1 hg.2.1 hg.2.2)
  · skip
    simp only [if_neg hg]
    refine sh_back hp ?_
    exact kk hB hh hse hn hpw hjo hjq hS
theorem cdX5_lose : yX5_lose.cls = RX5 ∧ yX5_lose.cls ≠ "java/lang/invoke/MethodHandle" ∧ yX5_lose.cls ≠ "java/lang/invoke/VarHandle" ∧ (parseMethodDescriptor yX5_lose.desc).map (fun d => d.parameters.length) = some 1 := by decide +kernel
theorem cdX6_lose : yX6_lose.cls = RX6 ∧ yX6_lose.cls ≠ "java/lang/invoke/MethodHandle" ∧ yX6_lose.cls ≠ "java/lang/invoke/VarHandle" ∧ (parseMethodDescriptor yX6_lose.desc).map (fun d => d.parameters.length) = some 1 := by decide +kernel
set_option maxHeartbeats 4000000 in
set_option maxRecDepth 100000 in
theorem law_24 {p : Program} {l : Launch} {e : Env} {s : State} {m : MethodId} {below : List Frame} {meth : Method} {c : Code} {b L : Nat} {xs : Nat → Int32} {E : gE} {a_X a_P a_hs a_se a_L a_pc a_tn a_R a_sh a_fi a_wa a_us a_ly a_jl a_D a_Q a_M a_Mh a_Mp a_Mt a_Ma a_Mu a_Mi a_Mx a_My a_Ms a_Ml a_Mc a_Mg : Nat} {aS aC : Int → Nat} {W h n jo fo sp fd tc tr ft mL mN mfd : Int} {hs se pc tn sh fi wa us ly jl qa qf mus ja jt ss sl sc hg TH LN SZ : Int → Int} {CE : Int → Int → Int} {now md : Int64} {sf : Int → Option Nat} {i : Int} (D : lC p s m meth c b L xs E) (hsf : ∀ j : Int, 0 ≤ j ∧ j < 4 → sf j = some (aS j)) (hi : 0 ≤ i ∧ i + 6 ≤ L) (hB : 1 ≤ W ∧ W ≤ 5 ∧ 1 ≤ h ∧ h ≤ 5) (hh : hB9 hs) (hse : ∀ p e : Int, 0 ≤ p ∧ p < W * h → 0 ≤ e ∧ e < 4 → se (p * 4 + e) = sdI W h p e) (hn : 0 ≤ n ∧ n ≤ 25) (hpw : ∀ j : Int, 0 ≤ j ∧ j < n → (0 ≤ pc j ∧ pc j < W * h) ∧ 0 ≤ tn j ∧ tn j < 4) (hjo : jo = 0 ∨ jo = 1) (hjq : jo = 1 → ∀ j : Int, 0 ≤ j ∧ j < W * h → jl j = ja j * 4 + jt j ∧ (0 ≤ ja j ∧ ja j < 25) ∧ 0 ≤ jt j ∧ jt j < 4) (hS : lshI TH LN SZ CE ss sl sc) (kk : ∀ {W h n jo fo sp fd tc tr ft mL mN mfd : Int} {hs se pc tn sh fi wa us ly jl qa qf mus ja jt ss sl sc hg TH LN SZ : Int → Int} {CE : Int → Int → Int} {now md : Int64}, (1 ≤ W ∧ W ≤ 5 ∧ 1 ≤ h ∧ h ≤ 5) → (hB9 hs) → (∀ p e : Int, 0 ≤ p ∧ p < W * h → 0 ≤ e ∧ e < 4 → se (p * 4 + e) = sdI W h p e) → (0 ≤ n ∧ n ≤ 25) → (∀ j : Int, 0 ≤ j ∧ j < n → (0 ≤ pc j ∧ pc j < W * h) ∧ 0 ≤ tn j ∧ tn j < 4) → (jo = 0 ∨ jo = 1) → (jo = 1 → ∀ j : Int, 0 ≤ j ∧ j < W * h → jl j = ja j * 4 + jt j ∧ (0 ≤ ja j ∧ ja j < 25) ∧ 0 ≤ jt j ∧ jt j < 4) → (lshI TH LN SZ CE ss sl sc) → lJ p l e s m below meth c b 37 2231 E ((a_X, .inr (5, [.ref a_P, .ref a_L, .ref a_R, .ref a_D, .ref a_Q, .int (iI tr), .int (iI ft)])) :: (a_P, .inr (1, [.ref a_hs, .ref a_se, .int (iI W), .int (iI h)])) :: (a_hs, aI E 200 hs) :: (a_se, aI E 100 se) :: (a_L, .inr (2, [.ref a_pc, .ref a_tn, .int (iI n)])) :: (a_pc, aI E 25 pc) :: (a_tn, aI E 25 tn) :: (a_R, .inr (3, [.ref a_P, .ref a_L, .ref a_sh, .ref a_fi, .ref a_wa, .ref a_us, .ref a_ly, .ref a_jl, .int (iI jo), .int (iI fo), .int (iI sp), .int (iI fd), .int (iI tc)])) :: (a_sh, aI E 400 sh) :: (a_fi, aI E 400 fi) :: (a_wa, aI E 100 wa) :: (a_us, aZ E 25 us) :: (a_ly, aI E 25 ly) :: (a_jl, aI E 25 jl) :: (a_D, .inr (0, [.long now])) :: (a_Q, aQ E 4 sf) :: (a_M, .inr (6, [.int (iI ft), .int (iI W), .int (iI h), .ref a_Mh, .long md, .int (iI mL), .int (iI mN), .int (iI n), .ref a_Mp, .ref a_Mt, .int (iI tc), .int (iI mfd), .ref a_Ma, .ref a_Mu, .ref a_Mi, .int (iI jo), .ref a_Mx, .ref a_My, .ref a_Ms, .ref a_Ml, .ref a_Mc, .ref a_Mg, .int (iI tr)])) :: (a_Mh, aI E 200 hs) :: (a_Mp, aI E 25 pc) :: (a_Mt, aI E 25 tn) :: (a_Ma, aI E 26 qa) :: (a_Mu, aI E 26 qf) :: (a_Mi, aZ E 25 mus) :: (a_Mx, aI E 25 ja) :: (a_My, aI E 25 jt) :: (a_Ms, aI E 4 ss) :: (a_Ml, aI E 4 sl) :: (a_Mc, aI E 200 sc) :: (a_Mg, aI E 50 hg) :: (aS 0, .inr (4, [.ref (aC 0), .int (iI (TH 0)), .int (iI (LN 0)), .int (iI (SZ 0))])) :: (aC 0, aI E 50 (CE 0)) :: (aS 1, .inr (4, [.ref (aC 1), .int (iI (TH 1)), .int (iI (LN 1)), .int (iI (SZ 1))])) :: (aC 1, aI E 50 (CE 1)) :: (aS 2, .inr (4, [.ref (aC 2), .int (iI (TH 2)), .int (iI (LN 2)), .int (iI (SZ 2))])) :: (aC 2, aI E 50 (CE 2)) :: (aS 3, .inr (4, [.ref (aC 3), .int (iI (TH 3)), .int (iI (LN 3)), .int (iI (SZ 3))])) :: (aC 3, aI E 50 (CE 3)) :: []) [(0, .ref b), (1, .ref a_X), (2, .ref a_M), (3, .int (iI i))] 1280 []) : lJ p l e s m below meth c b 37 2231 E ((a_X, .inr (5, [.ref a_P, .ref a_L, .ref a_R, .ref a_D, .ref a_Q, .int (iI tr), .int (iI ft)])) :: (a_P, .inr (1, [.ref a_hs, .ref a_se, .int (iI W), .int (iI h)])) :: (a_hs, aI E 200 hs) :: (a_se, aI E 100 se) :: (a_L, .inr (2, [.ref a_pc, .ref a_tn, .int (iI n)])) :: (a_pc, aI E 25 pc) :: (a_tn, aI E 25 tn) :: (a_R, .inr (3, [.ref a_P, .ref a_L, .ref a_sh, .ref a_fi, .ref a_wa, .ref a_us, .ref a_ly, .ref a_jl, .int (iI jo), .int (iI fo), .int (iI sp), .int (iI fd), .int (iI tc)])) :: (a_sh, aI E 400 sh) :: (a_fi, aI E 400 fi) :: (a_wa, aI E 100 wa) :: (a_us, aZ E 25 us) :: (a_ly, aI E 25 ly) :: (a_jl, aI E 25 jl) :: (a_D, .inr (0, [.long now])) :: (a_Q, aQ E 4 sf) :: (a_M, .inr (6, [.int (iI ft), .int (iI W), .int (iI h), .ref a_Mh, .long md, .int (iI mL), .int (iI mN), .int (iI n), .ref a_Mp, .ref a_Mt, .int (iI tc), .int (iI mfd), .ref a_Ma, .ref a_Mu, .ref a_Mi, .int (iI jo), .ref a_Mx, .ref a_My, .ref a_Ms, .ref a_Ml, .ref a_Mc, .ref a_Mg, .int (iI tr)])) :: (a_Mh, aI E 200 hs) :: (a_Mp, aI E 25 pc) :: (a_Mt, aI E 25 tn) :: (a_Ma, aI E 26 qa) :: (a_Mu, aI E 26 qf) :: (a_Mi, aZ E 25 mus) :: (a_Mx, aI E 25 ja) :: (a_My, aI E 25 jt) :: (a_Ms, aI E 4 ss) :: (a_Ml, aI E 4 sl) :: (a_Mc, aI E 200 sc) :: (a_Mg, aI E 50 hg) :: (aS 0, .inr (4, [.ref (aC 0), .int (iI (TH 0)), .int (iI (LN 0)), .int (iI (SZ 0))])) :: (aC 0, aI E 50 (CE 0)) :: (aS 1, .inr (4, [.ref (aC 1), .int (iI (TH 1)), .int (iI (LN 1)), .int (iI (SZ 1))])) :: (aC 1, aI E 50 (CE 1)) :: (aS 2, .inr (4, [.ref (aC 2), .int (iI (TH 2)), .int (iI (LN 2)), .int (iI (SZ 2))])) :: (aC 2, aI E 50 (CE 2)) :: (aS 3, .inr (4, [.ref (aC 3), .int (iI (TH 3)), .int (iI (LN 3)), .int (iI (SZ 3))])) :: (aC 3, aI E 50 (CE 3)) :: []) [(0, .ref b), (1, .ref a_X), (2, .ref a_M), (3, .int (iI i))] 979 [] := by
  have C := D.1
  have hL0 := D.2.2.2.2
  obtain ⟨w0, w1, w2, w3, hp, ha, hw⟩ := sel1 (lX xs (i + 1))
  have hf : 0 ≤ (lX xs (i + 1)) ∧ (lX xs (i + 1)) < 4 → (((TH w0 = 1 ∧ 0 ≤ ss (lX xs (i + 1)) ∧ SZ w0 = ss (lX xs (i + 1))) ∨ (TH w0 = 0 ∧ ss (lX xs (i + 1)) < 0 ∧ SZ w0 = 0)) ∧ LN w0 = sl (lX xs (i + 1)) ∧ (-1 ≤ ss (lX xs (i + 1)) ∧ ss (lX xs (i + 1)) ≤ 50) ∧ 0 ≤ sl (lX xs (i + 1)) ∧ sl (lX xs (i + 1)) ≤ 2) := fun q => by rw [hw q]; exact lsh_f hS ha
  have hc : 0 ≤ (lX xs (i + 1)) ∧ (lX xs (i + 1)) < 4 → ∀ c : Int, 0 ≤ c ∧ c < ss (lX xs (i + 1)) → CE w0 c = sc (50 * (lX xs (i + 1)) + c) := fun q => by rw [hw q]; exact lsh_c hS ha
  have hb := lsh_b hS ha
  have hth := hb.1
  have hsz := hb.2.1
  have hln := hb.2.2
  have hce := hS.2.2.1 w0
  have hss := hS.1
  have hscr := hS.2.2.2
  refine sh_in hp ?_
  refine g_aload_n 980 C 1 dL_law_979 rfl rfl ?_
  refine g_aload_n 981 C 0 dL_law_980 rfl rfl ?_
  refine g_iload_n 982 C 3 dL_law_981 rfl rfl ?_
  refine g_iconst 983 C dL_law_982 rfl ?_
  refine g_iadd 984 C dL_law_983 rfl ?_
  refine g_sld 985 D dL_law_984 rfl (by omega) ?_
  refine g_callVU (ws' := ((_, .inr (5, [_, _, _, _, _, _, _])) :: (_, .inr (1, [_, _, _, _])) :: (_, aI _ _ _) :: (_, aI _ _ _) :: (_, .inr (2, [_, _, _])) :: (_, aI _ _ _) :: (_, aI _ _ _) :: (_, .inr (3, [_, _, _, _, _, _, _, _, _, _, _, _, _])) :: (_, aI _ _ _) :: (_, aI _ _ _) :: (_, aI _ _ _) :: (_, aZ _ _ _) :: (_, aI _ _ _) :: (_, aI _ _ _) :: (_, .inr (0, [_])) :: (_, aQ _ _ _) :: (_, .inr (6, [_, _, _, _, _, _, _, _, _, _, _, _, _, _, _, _, _, _, _, _, _, _, _])) :: (_, aI _ _ _) :: (_, aI _ _ _) :: (_, aI _ _ _) :: (_, aI _ _ _) :: (_, aI _ _ _) :: (_, aZ _ _ _) :: (_, aI _ _ _) :: (_, aI _ _ _) :: (_, aI _ _ _) :: (_, aI _ _ _) :: (_, aI _ _ _) :: (_, aI _ _ _) :: (_, .inr (4, [_, _, _, _])) :: (_, aI _ _ _) :: (_, .inr (4, [_, _, _, _])) :: (_, aI _ _ _) :: (_, .inr (4, [_, _, _, _])) :: (_, aI _ _ _) :: (_, .inr (4, [_, _, _, _])) :: (_, aI _ _ _) :: [])) 988 C [0, 15, 29] dL_law_985 rfl (k_X5_lose E l  (fun q => by rw [hw q]; exact hsf _ ha) (by first | exact lX_b _ _ | assumption | omega) (by first | exact lX_b _ _ | assumption | omega)) (cwV 1 C.2.2.2.2.1 gL_law_X5_lose rfl rfl rfl cdX5_lose ⟨Nat.le_of_ble_eq_true rfl, Nat.le_of_ble_eq_true rfl⟩) rfl rfl rfl rfl (Nat.le_of_ble_eq_true rfl) 0 5 rfl rfl rfl ⟨Nat.le_of_ble_eq_true rfl, Nat.le_of_ble_eq_true rfl⟩ rfl rfl ?_
  refine g_aload_n 989 C 2 dL_law_988 rfl rfl ?_
  refine g_aload_n 990 C 0 dL_law_989 rfl rfl ?_
  refine g_iload_n 991 C 3 dL_law_990 rfl rfl ?_
  refine g_iconst 992 C dL_law_991 rfl ?_
  refine g_iadd 993 C dL_law_992 rfl ?_
  refine g_sld 994 D dL_law_993 rfl (by omega) ?_
  refine g_callVU (ws' := ((_, .inr (5, [_, _, _, _, _, _, _])) :: (_, .inr (1, [_, _, _, _])) :: (_, aI _ _ _) :: (_, aI _ _ _) :: (_, .inr (2, [_, _, _])) :: (_, aI _ _ _) :: (_, aI _ _ _) :: (_, .inr (3, [_, _, _, _, _, _, _, _, _, _, _, _, _])) :: (_, aI _ _ _) :: (_, aI _ _ _) :: (_, aI _ _ _) :: (_, aZ _ _ _) :: (_, aI _ _ _) :: (_, aI _ _ _) :: (_, .inr (0, [_])) :: (_, aQ _ _ _) :: (_, .inr (6, [_, _, _, _, _, _, _, _, _, _, _, _, _, _, _, _, _, _, _, _, _, _, _])) :: (_, aI _ _ _) :: (_, aI _ _ _) :: (_, aI _ _ _) :: (_, aI _ _ _) :: (_, aI _ _ _) :: (_, aZ _ _ _) :: (_, aI _ _ _) :: (_, aI _ _ _) :: (_, aI _ _ _) :: (_, aI _ _ _) :: (_, aI _ _ _) :: (_, aI _ _ _) :: (_, .inr (4, [_, _, _, _])) :: (_, aI _ _ _) :: (_, .inr (4, [_, _, _, _])) :: (_, aI _ _ _) :: (_, .inr (4, [_, _, _, _])) :: (_, aI _ _ _) :: (_, .inr (4, [_, _, _, _])) :: (_, aI _ _ _) :: [])) 997 C [16, 25] dL_law_994 rfl (k_X6_lose E l  (by first | exact lX_b _ _ | assumption | omega) (by first | exact lX_b _ _ | assumption | omega)) (cwV 1 C.2.2.2.2.1 gL_law_X6_lose rfl rfl rfl cdX6_lose ⟨Nat.le_of_ble_eq_true rfl, Nat.le_of_ble_eq_true rfl⟩) rfl rfl rfl rfl (Nat.le_of_ble_eq_true rfl) 16 6 rfl rfl rfl ⟨Nat.le_of_ble_eq_true rfl, Nat.le_of_ble_eq_true rfl⟩ rfl rfl ?_
  refine g_cmpE 1280 C dL_law_997 (by decide) (congrArg iI (by (repeat' split) <;> omega)) ?_
  by_cases hg : 0 ≤ lX xs (i + 1) ∧ lX xs (i + 1) < 4
  · skip
    simp only [if_pos hg]
    obtain rfl := hw hg
    refine sh_out hp ?_
    exact kk (TH := uI TH (lX xs (i + 1)) 0) (LN := uI LN (lX xs (i + 1)) (LN (lX xs (i + 1)))) (SZ := uI SZ (lX xs (i + 1)) 0) (CE := uC CE (lX xs (i + 1)) (CE (lX xs (i + 1)))) hB hh hse hn hpw hjo hjq (lsh_lose hS hg)
  · skip
    simp only [if_neg hg]
    refine sh_back hp ?_
    exact kk hB hh hse hn hpw hjo hjq hS
theorem cdX5_put : yX5_put.cls = RX5 ∧ yX5_put.cls ≠ "java/lang/invoke/MethodHandle" ∧ yX5_put.cls ≠ "java/lang/invoke/VarHandle" ∧ (parseMethodDescriptor yX5_put.desc).map (fun d => d.parameters.length) = some 3 := by decide +kernel
theorem cdX6_put : yX6_put.cls = RX6 ∧ yX6_put.cls ≠ "java/lang/invoke/MethodHandle" ∧ yX6_put.cls ≠ "java/lang/invoke/VarHandle" ∧ (parseMethodDescriptor yX6_put.desc).map (fun d => d.parameters.length) = some 3 := by decide +kernel
set_option maxHeartbeats 4000000 in
set_option maxRecDepth 100000 in
theorem law_25 {p : Program} {l : Launch} {e : Env} {s : State} {m : MethodId} {below : List Frame} {meth : Method} {c : Code} {b L : Nat} {xs : Nat → Int32} {E : gE} {a_X a_P a_hs a_se a_L a_pc a_tn a_R a_sh a_fi a_wa a_us a_ly a_jl a_D a_Q a_M a_Mh a_Mp a_Mt a_Ma a_Mu a_Mi a_Mx a_My a_Ms a_Ml a_Mc a_Mg : Nat} {aS aC : Int → Nat} {W h n jo fo sp fd tc tr ft mL mN mfd : Int} {hs se pc tn sh fi wa us ly jl qa qf mus ja jt ss sl sc hg TH LN SZ : Int → Int} {CE : Int → Int → Int} {now md : Int64} {sf : Int → Option Nat} {i : Int} (D : lC p s m meth c b L xs E) (hsf : ∀ j : Int, 0 ≤ j ∧ j < 4 → sf j = some (aS j)) (hi : 0 ≤ i ∧ i + 6 ≤ L) (hB : 1 ≤ W ∧ W ≤ 5 ∧ 1 ≤ h ∧ h ≤ 5) (hh : hB9 hs) (hse : ∀ p e : Int, 0 ≤ p ∧ p < W * h → 0 ≤ e ∧ e < 4 → se (p * 4 + e) = sdI W h p e) (hn : 0 ≤ n ∧ n ≤ 25) (hpw : ∀ j : Int, 0 ≤ j ∧ j < n → (0 ≤ pc j ∧ pc j < W * h) ∧ 0 ≤ tn j ∧ tn j < 4) (hjo : jo = 0 ∨ jo = 1) (hjq : jo = 1 → ∀ j : Int, 0 ≤ j ∧ j < W * h → jl j = ja j * 4 + jt j ∧ (0 ≤ ja j ∧ ja j < 25) ∧ 0 ≤ jt j ∧ jt j < 4) (hS : lshI TH LN SZ CE ss sl sc) (kk : ∀ {W h n jo fo sp fd tc tr ft mL mN mfd : Int} {hs se pc tn sh fi wa us ly jl qa qf mus ja jt ss sl sc hg TH LN SZ : Int → Int} {CE : Int → Int → Int} {now md : Int64}, (1 ≤ W ∧ W ≤ 5 ∧ 1 ≤ h ∧ h ≤ 5) → (hB9 hs) → (∀ p e : Int, 0 ≤ p ∧ p < W * h → 0 ≤ e ∧ e < 4 → se (p * 4 + e) = sdI W h p e) → (0 ≤ n ∧ n ≤ 25) → (∀ j : Int, 0 ≤ j ∧ j < n → (0 ≤ pc j ∧ pc j < W * h) ∧ 0 ≤ tn j ∧ tn j < 4) → (jo = 0 ∨ jo = 1) → (jo = 1 → ∀ j : Int, 0 ≤ j ∧ j < W * h → jl j = ja j * 4 + jt j ∧ (0 ≤ ja j ∧ ja j < 25) ∧ 0 ≤ jt j ∧ jt j < 4) → (lshI TH LN SZ CE ss sl sc) → lJ p l e s m below meth c b 37 2231 E ((a_X, .inr (5, [.ref a_P, .ref a_L, .ref a_R, .ref a_D, .ref a_Q, .int (iI tr), .int (iI ft)])) :: (a_P, .inr (1, [.ref a_hs, .ref a_se, .int (iI W), .int (iI h)])) :: (a_hs, aI E 200 hs) :: (a_se, aI E 100 se) :: (a_L, .inr (2, [.ref a_pc, .ref a_tn, .int (iI n)])) :: (a_pc, aI E 25 pc) :: (a_tn, aI E 25 tn) :: (a_R, .inr (3, [.ref a_P, .ref a_L, .ref a_sh, .ref a_fi, .ref a_wa, .ref a_us, .ref a_ly, .ref a_jl, .int (iI jo), .int (iI fo), .int (iI sp), .int (iI fd), .int (iI tc)])) :: (a_sh, aI E 400 sh) :: (a_fi, aI E 400 fi) :: (a_wa, aI E 100 wa) :: (a_us, aZ E 25 us) :: (a_ly, aI E 25 ly) :: (a_jl, aI E 25 jl) :: (a_D, .inr (0, [.long now])) :: (a_Q, aQ E 4 sf) :: (a_M, .inr (6, [.int (iI ft), .int (iI W), .int (iI h), .ref a_Mh, .long md, .int (iI mL), .int (iI mN), .int (iI n), .ref a_Mp, .ref a_Mt, .int (iI tc), .int (iI mfd), .ref a_Ma, .ref a_Mu, .ref a_Mi, .int (iI jo), .ref a_Mx, .ref a_My, .ref a_Ms, .ref a_Ml, .ref a_Mc, .ref a_Mg, .int (iI tr)])) :: (a_Mh, aI E 200 hs) :: (a_Mp, aI E 25 pc) :: (a_Mt, aI E 25 tn) :: (a_Ma, aI E 26 qa) :: (a_Mu, aI E 26 qf) :: (a_Mi, aZ E 25 mus) :: (a_Mx, aI E 25 ja) :: (a_My, aI E 25 jt) :: (a_Ms, aI E 4 ss) :: (a_Ml, aI E 4 sl) :: (a_Mc, aI E 200 sc) :: (a_Mg, aI E 50 hg) :: (aS 0, .inr (4, [.ref (aC 0), .int (iI (TH 0)), .int (iI (LN 0)), .int (iI (SZ 0))])) :: (aC 0, aI E 50 (CE 0)) :: (aS 1, .inr (4, [.ref (aC 1), .int (iI (TH 1)), .int (iI (LN 1)), .int (iI (SZ 1))])) :: (aC 1, aI E 50 (CE 1)) :: (aS 2, .inr (4, [.ref (aC 2), .int (iI (TH 2)), .int (iI (LN 2)), .int (iI (SZ 2))])) :: (aC 2, aI E 50 (CE 2)) :: (aS 3, .inr (4, [.ref (aC 3), .int (iI (TH 3)), .int (iI (LN 3)), .int (iI (SZ 3))])) :: (aC 3, aI E 50 (CE 3)) :: []) [(0, .ref b), (1, .ref a_X), (2, .ref a_M), (3, .int (iI i))] 1280 []) : lJ p l e s m below meth c b 37 2231 E ((a_X, .inr (5, [.ref a_P, .ref a_L, .ref a_R, .ref a_D, .ref a_Q, .int (iI tr), .int (iI ft)])) :: (a_P, .inr (1, [.ref a_hs, .ref a_se, .int (iI W), .int (iI h)])) :: (a_hs, aI E 200 hs) :: (a_se, aI E 100 se) :: (a_L, .inr (2, [.ref a_pc, .ref a_tn, .int (iI n)])) :: (a_pc, aI E 25 pc) :: (a_tn, aI E 25 tn) :: (a_R, .inr (3, [.ref a_P, .ref a_L, .ref a_sh, .ref a_fi, .ref a_wa, .ref a_us, .ref a_ly, .ref a_jl, .int (iI jo), .int (iI fo), .int (iI sp), .int (iI fd), .int (iI tc)])) :: (a_sh, aI E 400 sh) :: (a_fi, aI E 400 fi) :: (a_wa, aI E 100 wa) :: (a_us, aZ E 25 us) :: (a_ly, aI E 25 ly) :: (a_jl, aI E 25 jl) :: (a_D, .inr (0, [.long now])) :: (a_Q, aQ E 4 sf) :: (a_M, .inr (6, [.int (iI ft), .int (iI W), .int (iI h), .ref a_Mh, .long md, .int (iI mL), .int (iI mN), .int (iI n), .ref a_Mp, .ref a_Mt, .int (iI tc), .int (iI mfd), .ref a_Ma, .ref a_Mu, .ref a_Mi, .int (iI jo), .ref a_Mx, .ref a_My, .ref a_Ms, .ref a_Ml, .ref a_Mc, .ref a_Mg, .int (iI tr)])) :: (a_Mh, aI E 200 hs) :: (a_Mp, aI E 25 pc) :: (a_Mt, aI E 25 tn) :: (a_Ma, aI E 26 qa) :: (a_Mu, aI E 26 qf) :: (a_Mi, aZ E 25 mus) :: (a_Mx, aI E 25 ja) :: (a_My, aI E 25 jt) :: (a_Ms, aI E 4 ss) :: (a_Ml, aI E 4 sl) :: (a_Mc, aI E 200 sc) :: (a_Mg, aI E 50 hg) :: (aS 0, .inr (4, [.ref (aC 0), .int (iI (TH 0)), .int (iI (LN 0)), .int (iI (SZ 0))])) :: (aC 0, aI E 50 (CE 0)) :: (aS 1, .inr (4, [.ref (aC 1), .int (iI (TH 1)), .int (iI (LN 1)), .int (iI (SZ 1))])) :: (aC 1, aI E 50 (CE 1)) :: (aS 2, .inr (4, [.ref (aC 2), .int (iI (TH 2)), .int (iI (LN 2)), .int (iI (SZ 2))])) :: (aC 2, aI E 50 (CE 2)) :: (aS 3, .inr (4, [.ref (aC 3), .int (iI (TH 3)), .int (iI (LN 3)), .int (iI (SZ 3))])) :: (aC 3, aI E 50 (CE 3)) :: []) [(0, .ref b), (1, .ref a_X), (2, .ref a_M), (3, .int (iI i))] 1002 [] := by
  have C := D.1
  have hL0 := D.2.2.2.2
  obtain ⟨w0, w1, w2, w3, hp, ha, hw⟩ := sel1 (lX xs (i + 1))
  have hf : 0 ≤ (lX xs (i + 1)) ∧ (lX xs (i + 1)) < 4 → (((TH w0 = 1 ∧ 0 ≤ ss (lX xs (i + 1)) ∧ SZ w0 = ss (lX xs (i + 1))) ∨ (TH w0 = 0 ∧ ss (lX xs (i + 1)) < 0 ∧ SZ w0 = 0)) ∧ LN w0 = sl (lX xs (i + 1)) ∧ (-1 ≤ ss (lX xs (i + 1)) ∧ ss (lX xs (i + 1)) ≤ 50) ∧ 0 ≤ sl (lX xs (i + 1)) ∧ sl (lX xs (i + 1)) ≤ 2) := fun q => by rw [hw q]; exact lsh_f hS ha
  have hc : 0 ≤ (lX xs (i + 1)) ∧ (lX xs (i + 1)) < 4 → ∀ c : Int, 0 ≤ c ∧ c < ss (lX xs (i + 1)) → CE w0 c = sc (50 * (lX xs (i + 1)) + c) := fun q => by rw [hw q]; exact lsh_c hS ha
  have hb := lsh_b hS ha
  have hth := hb.1
  have hsz := hb.2.1
  have hln := hb.2.2
  have hce := hS.2.2.1 w0
  have hss := hS.1
  have hscr := hS.2.2.2
  refine sh_in hp ?_
  refine g_aload_n 1003 C 1 dL_law_1002 rfl rfl ?_
  refine g_aload_n 1004 C 0 dL_law_1003 rfl rfl ?_
  refine g_iload_n 1005 C 3 dL_law_1004 rfl rfl ?_
  refine g_iconst 1006 C dL_law_1005 rfl ?_
  refine g_iadd 1007 C dL_law_1006 rfl ?_
  refine g_sld 1008 D dL_law_1007 rfl (by omega) ?_
  refine g_aload_n 1009 C 0 dL_law_1008 rfl rfl ?_
  refine g_iload_n 1010 C 3 dL_law_1009 rfl rfl ?_
  refine g_iconst 1011 C dL_law_1010 rfl ?_
  refine g_iadd 1012 C dL_law_1011 rfl ?_
  refine g_sld 1013 D dL_law_1012 rfl (by omega) ?_
  refine g_aload_n 1014 C 0 dL_law_1013 rfl rfl ?_
  refine g_iload_n 1015 C 3 dL_law_1014 rfl rfl ?_
  refine g_iconst 1016 C dL_law_1015 rfl ?_
  refine g_iadd 1017 C dL_law_1016 rfl ?_
  refine g_sld 1018 D dL_law_1017 rfl (by omega) ?_
  refine g_callVU (ws' := ((_, .inr (5, [_, _, _, _, _, _, _])) :: (_, .inr (1, [_, _, _, _])) :: (_, aI _ _ _) :: (_, aI _ _ _) :: (_, .inr (2, [_, _, _])) :: (_, aI _ _ _) :: (_, aI _ _ _) :: (_, .inr (3, [_, _, _, _, _, _, _, _, _, _, _, _, _])) :: (_, aI _ _ _) :: (_, aI _ _ _) :: (_, aI _ _ _) :: (_, aZ _ _ _) :: (_, aI _ _ _) :: (_, aI _ _ _) :: (_, .inr (0, [_])) :: (_, aQ _ _ _) :: (_, .inr (6, [_, _, _, _, _, _, _, _, _, _, _, _, _, _, _, _, _, _, _, _, _, _, _])) :: (_, aI _ _ _) :: (_, aI _ _ _) :: (_, aI _ _ _) :: (_, aI _ _ _) :: (_, aI _ _ _) :: (_, aZ _ _ _) :: (_, aI _ _ _) :: (_, aI _ _ _) :: (_, aI _ _ _) :: (_, aI _ _ _) :: (_, aI _ _ _) :: (_, aI _ _ _) :: (_, .inr (4, [_, _, _, _])) :: (_, aI _ _ _) :: (_, .inr (4, [_, _, _, _])) :: (_, aI _ _ _) :: (_, .inr (4, [_, _, _, _])) :: (_, aI _ _ _) :: (_, .inr (4, [_, _, _, _])) :: (_, aI _ _ _) :: [])) 1021 C [0, 15, 29, 30] dL_law_1018 rfl (k_X5_put E l  (fun q => by rw [hw q]; exact hsf _ ha) (by first | exact lX_b _ _ | assumption | omega) (by first | exact lX_b _ _ | assumption | omega) (by first | exact lX_b _ _ | assumption | omega) (by first | exact lX_b _ _ | assumption | omega) (by first | exact lX_b _ _ | assumption | omega) (by first | exact lX_b _ _ | assumption | omega)) (cwV 3 C.2.2.2.2.1 gL_law_X5_put rfl rfl rfl cdX5_put ⟨Nat.le_of_ble_eq_true rfl, Nat.le_of_ble_eq_true rfl⟩) rfl rfl rfl rfl (Nat.le_of_ble_eq_true rfl) 0 5 rfl rfl rfl ⟨Nat.le_of_ble_eq_true rfl, Nat.le_of_ble_eq_true rfl⟩ rfl rfl ?_
  refine g_aload_n 1022 C 2 dL_law_1021 rfl rfl ?_
  refine g_aload_n 1023 C 0 dL_law_1022 rfl rfl ?_
  refine g_iload_n 1024 C 3 dL_law_1023 rfl rfl ?_
  refine g_iconst 1025 C dL_law_1024 rfl ?_
  refine g_iadd 1026 C dL_law_1025 rfl ?_
  refine g_sld 1027 D dL_law_1026 rfl (by omega) ?_
  refine g_aload_n 1028 C 0 dL_law_1027 rfl rfl ?_
  refine g_iload_n 1029 C 3 dL_law_1028 rfl rfl ?_
  refine g_iconst 1030 C dL_law_1029 rfl ?_
  refine g_iadd 1031 C dL_law_1030 rfl ?_
  refine g_sld 1032 D dL_law_1031 rfl (by omega) ?_
  refine g_aload_n 1033 C 0 dL_law_1032 rfl rfl ?_
  refine g_iload_n 1034 C 3 dL_law_1033 rfl rfl ?_
  refine g_iconst 1035 C dL_law_1034 rfl ?_
  refine g_iadd 1036 C dL_law_1035 rfl ?_
  refine g_sld 1037 D dL_law_1036 rfl (by omega) ?_
  refine g_callVU (ws' := ((_, .inr (5, [_, _, _, _, _, _, _])) :: (_, .inr (1, [_, _, _, _])) :: (_, aI _ _ _) :: (_, aI _ _ _) :: (_, .inr (2, [_, _, _])) :: (_, aI _ _ _) :: (_, aI _ _ _) :: (_, .inr (3, [_, _, _, _, _, _, _, _, _, _, _, _, _])) :: (_, aI _ _ _) :: (_, aI _ _ _) :: (_, aI _ _ _) :: (_, aZ _ _ _) :: (_, aI _ _ _) :: (_, aI _ _ _) :: (_, .inr (0, [_])) :: (_, aQ _ _ _) :: (_, .inr (6, [_, _, _, _, _, _, _, _, _, _, _, _, _, _, _, _, _, _, _, _, _, _, _])) :: (_, aI _ _ _) :: (_, aI _ _ _) :: (_, aI _ _ _) :: (_, aI _ _ _) :: (_, aI _ _ _) :: (_, aZ _ _ _) :: (_, aI _ _ _) :: (_, aI _ _ _) :: (_, aI _ _ _) :: (_, aI _ _ _) :: (_, aI _ _ _) :: (_, aI _ _ _) :: (_, .inr (4, [_, _, _, _])) :: (_, aI _ _ _) :: (_, .inr (4, [_, _, _, _])) :: (_, aI _ _ _) :: (_, .inr (4, [_, _, _, _])) :: (_, aI _ _ _) :: (_, .inr (4, [_, _, _, _])) :: (_, aI _ _ _) :: [])) 1040 C [16, 25, 26, 27] dL_law_1037 rfl (k_X6_put E l  (by first | exact lX_b _ _ | assumption | omega) (by first | exact lX_b _ _ | assumption | omega) (by first | exact lX_b _ _ | assumption | omega) (by first | exact lX_b _ _ | assumption | omega)) (cwV 3 C.2.2.2.2.1 gL_law_X6_put rfl rfl rfl cdX6_put ⟨Nat.le_of_ble_eq_true rfl, Nat.le_of_ble_eq_true rfl⟩) rfl rfl rfl rfl (Nat.le_of_ble_eq_true rfl) 16 6 rfl rfl rfl ⟨Nat.le_of_ble_eq_true rfl, Nat.le_of_ble_eq_true rfl⟩ rfl rfl ?_
  refine g_cmpE 1280 C dL_law_1040 (by decide) (congrArg iI (by (repeat' split) <;> omega)) ?_
  rw [show (if ¬ (0 ≤ (lX xs (i + 1)) ∧ (lX xs (i + 1)) < 4) then 0 else if (TH w0) = 0 then 1 else if ¬ (0 ≤ (lX xs (i + 2)) ∧ (lX xs (i + 2)) < (SZ w0)) then 3 else 0 : Int) = if ¬ (0 ≤ (lX xs (i + 1)) ∧ (lX xs (i + 1)) < 4) then 0 else if ss (lX xs (i + 1)) < 0 then 1 else if ¬ (0 ≤ (lX xs (i + 2)) ∧ (lX xs (i + 2)) < ss (lX xs (i + 1))) then 3 else 0 from by (repeat' split) <;> omega]
  by_cases hg : (0 ≤ lX xs (i + 1) ∧ lX xs (i + 1) < 4) ∧ 0 ≤ ss (lX xs (i + 1)) ∧ 0 ≤ lX xs (i + 2) ∧ lX xs (i + 2) < ss (lX xs (i + 1))
  · skip
    have hg5 : (0 ≤ lX xs (i + 1) ∧ lX xs (i + 1) < 4) ∧ TH w0 = 1 ∧ 0 ≤ lX xs (i + 2) ∧ lX xs (i + 2) < SZ w0 := by omega
    simp only [if_pos hg, if_pos hg5]
    obtain rfl := hw hg.1
    refine sh_out hp ?_
    exact kk (TH := uI TH (lX xs (i + 1)) (TH (lX xs (i + 1)))) (LN := uI LN (lX xs (i + 1)) (LN (lX xs (i + 1)))) (SZ := uI SZ (lX xs (i + 1)) (SZ (lX xs (i + 1)))) (CE := uC CE (lX xs (i + 1)) (uI (CE (lX xs (i + 1))) (lX xs (i + 2)) (cuI (LN (lX xs (i + 1))) (lX xs (i + 3))))) hB hh hse hn hpw hjo hjq (lsh_put hS hg.1 hg.2.2 (lX_b _ _))
  · skip
    have hg5 : ¬ ((0 ≤ lX xs (i + 1) ∧ lX xs (i + 1) < 4) ∧ TH w0 = 1 ∧ 0 ≤ lX xs (i + 2) ∧ lX xs (i + 2) < SZ w0) := by omega
    simp only [if_neg hg, if_neg hg5]
    refine sh_back hp ?_
    exact kk hB hh hse hn hpw hjo hjq hS
theorem cdX5_cell : yX5_cell.cls = RX5 ∧ yX5_cell.cls ≠ "java/lang/invoke/MethodHandle" ∧ yX5_cell.cls ≠ "java/lang/invoke/VarHandle" ∧ (parseMethodDescriptor yX5_cell.desc).map (fun d => d.parameters.length) = some 3 := by decide +kernel
theorem cdX6_cell : yX6_cell.cls = RX6 ∧ yX6_cell.cls ≠ "java/lang/invoke/MethodHandle" ∧ yX6_cell.cls ≠ "java/lang/invoke/VarHandle" ∧ (parseMethodDescriptor yX6_cell.desc).map (fun d => d.parameters.length) = some 3 := by decide +kernel
set_option maxHeartbeats 4000000 in
set_option maxRecDepth 100000 in
theorem law_26 {p : Program} {l : Launch} {e : Env} {s : State} {m : MethodId} {below : List Frame} {meth : Method} {c : Code} {b L : Nat} {xs : Nat → Int32} {E : gE} {a_X a_P a_hs a_se a_L a_pc a_tn a_R a_sh a_fi a_wa a_us a_ly a_jl a_D a_Q a_M a_Mh a_Mp a_Mt a_Ma a_Mu a_Mi a_Mx a_My a_Ms a_Ml a_Mc a_Mg : Nat} {aS aC : Int → Nat} {W h n jo fo sp fd tc tr ft mL mN mfd : Int} {hs se pc tn sh fi wa us ly jl qa qf mus ja jt ss sl sc hg TH LN SZ : Int → Int} {CE : Int → Int → Int} {now md : Int64} {sf : Int → Option Nat} {i : Int} (D : lC p s m meth c b L xs E) (hsf : ∀ j : Int, 0 ≤ j ∧ j < 4 → sf j = some (aS j)) (hi : 0 ≤ i ∧ i + 6 ≤ L) (hB : 1 ≤ W ∧ W ≤ 5 ∧ 1 ≤ h ∧ h ≤ 5) (hh : hB9 hs) (hse : ∀ p e : Int, 0 ≤ p ∧ p < W * h → 0 ≤ e ∧ e < 4 → se (p * 4 + e) = sdI W h p e) (hn : 0 ≤ n ∧ n ≤ 25) (hpw : ∀ j : Int, 0 ≤ j ∧ j < n → (0 ≤ pc j ∧ pc j < W * h) ∧ 0 ≤ tn j ∧ tn j < 4) (hjo : jo = 0 ∨ jo = 1) (hjq : jo = 1 → ∀ j : Int, 0 ≤ j ∧ j < W * h → jl j = ja j * 4 + jt j ∧ (0 ≤ ja j ∧ ja j < 25) ∧ 0 ≤ jt j ∧ jt j < 4) (hS : lshI TH LN SZ CE ss sl sc) (kk : ∀ {W h n jo fo sp fd tc tr ft mL mN mfd : Int} {hs se pc tn sh fi wa us ly jl qa qf mus ja jt ss sl sc hg TH LN SZ : Int → Int} {CE : Int → Int → Int} {now md : Int64}, (1 ≤ W ∧ W ≤ 5 ∧ 1 ≤ h ∧ h ≤ 5) → (hB9 hs) → (∀ p e : Int, 0 ≤ p ∧ p < W * h → 0 ≤ e ∧ e < 4 → se (p * 4 + e) = sdI W h p e) → (0 ≤ n ∧ n ≤ 25) → (∀ j : Int, 0 ≤ j ∧ j < n → (0 ≤ pc j ∧ pc j < W * h) ∧ 0 ≤ tn j ∧ tn j < 4) → (jo = 0 ∨ jo = 1) → (jo = 1 → ∀ j : Int, 0 ≤ j ∧ j < W * h → jl j = ja j * 4 + jt j ∧ (0 ≤ ja j ∧ ja j < 25) ∧ 0 ≤ jt j ∧ jt j < 4) → (lshI TH LN SZ CE ss sl sc) → lJ p l e s m below meth c b 37 2231 E ((a_X, .inr (5, [.ref a_P, .ref a_L, .ref a_R, .ref a_D, .ref a_Q, .int (iI tr), .int (iI ft)])) :: (a_P, .inr (1, [.ref a_hs, .ref a_se, .int (iI W), .int (iI h)])) :: (a_hs, aI E 200 hs) :: (a_se, aI E 100 se) :: (a_L, .inr (2, [.ref a_pc, .ref a_tn, .int (iI n)])) :: (a_pc, aI E 25 pc) :: (a_tn, aI E 25 tn) :: (a_R, .inr (3, [.ref a_P, .ref a_L, .ref a_sh, .ref a_fi, .ref a_wa, .ref a_us, .ref a_ly, .ref a_jl, .int (iI jo), .int (iI fo), .int (iI sp), .int (iI fd), .int (iI tc)])) :: (a_sh, aI E 400 sh) :: (a_fi, aI E 400 fi) :: (a_wa, aI E 100 wa) :: (a_us, aZ E 25 us) :: (a_ly, aI E 25 ly) :: (a_jl, aI E 25 jl) :: (a_D, .inr (0, [.long now])) :: (a_Q, aQ E 4 sf) :: (a_M, .inr (6, [.int (iI ft), .int (iI W), .int (iI h), .ref a_Mh, .long md, .int (iI mL), .int (iI mN), .int (iI n), .ref a_Mp, .ref a_Mt, .int (iI tc), .int (iI mfd), .ref a_Ma, .ref a_Mu, .ref a_Mi, .int (iI jo), .ref a_Mx, .ref a_My, .ref a_Ms, .ref a_Ml, .ref a_Mc, .ref a_Mg, .int (iI tr)])) :: (a_Mh, aI E 200 hs) :: (a_Mp, aI E 25 pc) :: (a_Mt, aI E 25 tn) :: (a_Ma, aI E 26 qa) :: (a_Mu, aI E 26 qf) :: (a_Mi, aZ E 25 mus) :: (a_Mx, aI E 25 ja) :: (a_My, aI E 25 jt) :: (a_Ms, aI E 4 ss) :: (a_Ml, aI E 4 sl) :: (a_Mc, aI E 200 sc) :: (a_Mg, aI E 50 hg) :: (aS 0, .inr (4, [.ref (aC 0), .int (iI (TH 0)), .int (iI (LN 0)), .int (iI (SZ 0))])) :: (aC 0, aI E 50 (CE 0)) :: (aS 1, .inr (4, [.ref (aC 1), .int (iI (TH 1)), .int (iI (LN 1)), .int (iI (SZ 1))])) :: (aC 1, aI E 50 (CE 1)) :: (aS 2, .inr (4, [.ref (aC 2), .int (iI (TH 2)), .int (iI (LN 2)), .int (iI (SZ 2))])) :: (aC 2, aI E 50 (CE 2)) :: (aS 3, .inr (4, [.ref (aC 3), .int (iI (TH 3)), .int (iI (LN 3)), .int (iI (SZ 3))])) :: (aC 3, aI E 50 (CE 3)) :: []) [(0, .ref b), (1, .ref a_X), (2, .ref a_M), (3, .int (iI i))] 1280 []) : lJ p l e s m below meth c b 37 2231 E ((a_X, .inr (5, [.ref a_P, .ref a_L, .ref a_R, .ref a_D, .ref a_Q, .int (iI tr), .int (iI ft)])) :: (a_P, .inr (1, [.ref a_hs, .ref a_se, .int (iI W), .int (iI h)])) :: (a_hs, aI E 200 hs) :: (a_se, aI E 100 se) :: (a_L, .inr (2, [.ref a_pc, .ref a_tn, .int (iI n)])) :: (a_pc, aI E 25 pc) :: (a_tn, aI E 25 tn) :: (a_R, .inr (3, [.ref a_P, .ref a_L, .ref a_sh, .ref a_fi, .ref a_wa, .ref a_us, .ref a_ly, .ref a_jl, .int (iI jo), .int (iI fo), .int (iI sp), .int (iI fd), .int (iI tc)])) :: (a_sh, aI E 400 sh) :: (a_fi, aI E 400 fi) :: (a_wa, aI E 100 wa) :: (a_us, aZ E 25 us) :: (a_ly, aI E 25 ly) :: (a_jl, aI E 25 jl) :: (a_D, .inr (0, [.long now])) :: (a_Q, aQ E 4 sf) :: (a_M, .inr (6, [.int (iI ft), .int (iI W), .int (iI h), .ref a_Mh, .long md, .int (iI mL), .int (iI mN), .int (iI n), .ref a_Mp, .ref a_Mt, .int (iI tc), .int (iI mfd), .ref a_Ma, .ref a_Mu, .ref a_Mi, .int (iI jo), .ref a_Mx, .ref a_My, .ref a_Ms, .ref a_Ml, .ref a_Mc, .ref a_Mg, .int (iI tr)])) :: (a_Mh, aI E 200 hs) :: (a_Mp, aI E 25 pc) :: (a_Mt, aI E 25 tn) :: (a_Ma, aI E 26 qa) :: (a_Mu, aI E 26 qf) :: (a_Mi, aZ E 25 mus) :: (a_Mx, aI E 25 ja) :: (a_My, aI E 25 jt) :: (a_Ms, aI E 4 ss) :: (a_Ml, aI E 4 sl) :: (a_Mc, aI E 200 sc) :: (a_Mg, aI E 50 hg) :: (aS 0, .inr (4, [.ref (aC 0), .int (iI (TH 0)), .int (iI (LN 0)), .int (iI (SZ 0))])) :: (aC 0, aI E 50 (CE 0)) :: (aS 1, .inr (4, [.ref (aC 1), .int (iI (TH 1)), .int (iI (LN 1)), .int (iI (SZ 1))])) :: (aC 1, aI E 50 (CE 1)) :: (aS 2, .inr (4, [.ref (aC 2), .int (iI (TH 2)), .int (iI (LN 2)), .int (iI (SZ 2))])) :: (aC 2, aI E 50 (CE 2)) :: (aS 3, .inr (4, [.ref (aC 3), .int (iI (TH 3)), .int (iI (LN 3)), .int (iI (SZ 3))])) :: (aC 3, aI E 50 (CE 3)) :: []) [(0, .ref b), (1, .ref a_X), (2, .ref a_M), (3, .int (iI i))] 1045 [] := by
  have C := D.1
  have hL0 := D.2.2.2.2
  obtain ⟨w0, w1, w2, w3, hp, ha, hw⟩ := sel1 (lX xs (i + 1))
  have hf : 0 ≤ (lX xs (i + 1)) ∧ (lX xs (i + 1)) < 4 → (((TH w0 = 1 ∧ 0 ≤ ss (lX xs (i + 1)) ∧ SZ w0 = ss (lX xs (i + 1))) ∨ (TH w0 = 0 ∧ ss (lX xs (i + 1)) < 0 ∧ SZ w0 = 0)) ∧ LN w0 = sl (lX xs (i + 1)) ∧ (-1 ≤ ss (lX xs (i + 1)) ∧ ss (lX xs (i + 1)) ≤ 50) ∧ 0 ≤ sl (lX xs (i + 1)) ∧ sl (lX xs (i + 1)) ≤ 2) := fun q => by rw [hw q]; exact lsh_f hS ha
  have hc : 0 ≤ (lX xs (i + 1)) ∧ (lX xs (i + 1)) < 4 → ∀ c : Int, 0 ≤ c ∧ c < ss (lX xs (i + 1)) → CE w0 c = sc (50 * (lX xs (i + 1)) + c) := fun q => by rw [hw q]; exact lsh_c hS ha
  have hb := lsh_b hS ha
  have hth := hb.1
  have hsz := hb.2.1
  have hln := hb.2.2
  have hce := hS.2.2.1 w0
  have hss := hS.1
  have hscr := hS.2.2.2
  refine sh_in hp ?_
  refine g_aload_n 1046 C 1 dL_law_1045 rfl rfl ?_
  refine g_aload_n 1047 C 0 dL_law_1046 rfl rfl ?_
  refine g_iload_n 1048 C 3 dL_law_1047 rfl rfl ?_
  refine g_iconst 1049 C dL_law_1048 rfl ?_
  refine g_iadd 1050 C dL_law_1049 rfl ?_
  refine g_sld 1051 D dL_law_1050 rfl (by omega) ?_
  refine g_aload_n 1052 C 0 dL_law_1051 rfl rfl ?_
  refine g_iload_n 1053 C 3 dL_law_1052 rfl rfl ?_
  refine g_iconst 1054 C dL_law_1053 rfl ?_
  refine g_iadd 1055 C dL_law_1054 rfl ?_
  refine g_sld 1056 D dL_law_1055 rfl (by omega) ?_
  refine g_aload_n 1057 C 0 dL_law_1056 rfl rfl ?_
  refine g_iload_n 1058 C 3 dL_law_1057 rfl rfl ?_
  refine g_iconst 1059 C dL_law_1058 rfl ?_
  refine g_iadd 1060 C dL_law_1059 rfl ?_
  refine g_sld 1061 D dL_law_1060 rfl (by omega) ?_
  refine g_callVU (ws' := ((_, .inr (5, [_, _, _, _, _, _, _])) :: (_, .inr (1, [_, _, _, _])) :: (_, aI _ _ _) :: (_, aI _ _ _) :: (_, .inr (2, [_, _, _])) :: (_, aI _ _ _) :: (_, aI _ _ _) :: (_, .inr (3, [_, _, _, _, _, _, _, _, _, _, _, _, _])) :: (_, aI _ _ _) :: (_, aI _ _ _) :: (_, aI _ _ _) :: (_, aZ _ _ _) :: (_, aI _ _ _) :: (_, aI _ _ _) :: (_, .inr (0, [_])) :: (_, aQ _ _ _) :: (_, .inr (6, [_, _, _, _, _, _, _, _, _, _, _, _, _, _, _, _, _, _, _, _, _, _, _])) :: (_, aI _ _ _) :: (_, aI _ _ _) :: (_, aI _ _ _) :: (_, aI _ _ _) :: (_, aI _ _ _) :: (_, aZ _ _ _) :: (_, aI _ _ _) :: (_, aI _ _ _) :: (_, aI _ _ _) :: (_, aI _ _ _) :: (_, aI _ _ _) :: (_, aI _ _ _) :: (_, .inr (4, [_, _, _, _])) :: (_, aI _ _ _) :: (_, .inr (4, [_, _, _, _])) :: (_, aI _ _ _) :: (_, .inr (4, [_, _, _, _])) :: (_, aI _ _ _) :: (_, .inr (4, [_, _, _, _])) :: (_, aI _ _ _) :: [])) 1064 C [0, 15, 29, 30] dL_law_1061 rfl (k_X5_cell E l  (fun q => by rw [hw q]; exact hsf _ ha) (by first | exact lX_b _ _ | assumption | omega) (by first | exact lX_b _ _ | assumption | omega) (by first | exact lX_b _ _ | assumption | omega) (by first | exact lX_b _ _ | assumption | omega) (by first | exact lX_b _ _ | assumption | omega) (by first | exact lX_b _ _ | assumption | omega) (by first | exact lX_b _ _ | assumption | omega)) (cwV 3 C.2.2.2.2.1 gL_law_X5_cell rfl rfl rfl cdX5_cell ⟨Nat.le_of_ble_eq_true rfl, Nat.le_of_ble_eq_true rfl⟩) rfl rfl rfl rfl (Nat.le_of_ble_eq_true rfl) 0 5 rfl rfl rfl ⟨Nat.le_of_ble_eq_true rfl, Nat.le_of_ble_eq_true rfl⟩ rfl rfl ?_
  refine g_aload_n 1065 C 2 dL_law_1064 rfl rfl ?_
  refine g_aload_n 1066 C 0 dL_law_1065 rfl rfl ?_
  refine g_iload_n 1067 C 3 dL_law_1066 rfl rfl ?_
  refine g_iconst 1068 C dL_law_1067 rfl ?_
  refine g_iadd 1069 C dL_law_1068 rfl ?_
  refine g_sld 1070 D dL_law_1069 rfl (by omega) ?_
  refine g_aload_n 1071 C 0 dL_law_1070 rfl rfl ?_
  refine g_iload_n 1072 C 3 dL_law_1071 rfl rfl ?_
  refine g_iconst 1073 C dL_law_1072 rfl ?_
  refine g_iadd 1074 C dL_law_1073 rfl ?_
  refine g_sld 1075 D dL_law_1074 rfl (by omega) ?_
  refine g_aload_n 1076 C 0 dL_law_1075 rfl rfl ?_
  refine g_iload_n 1077 C 3 dL_law_1076 rfl rfl ?_
  refine g_iconst 1078 C dL_law_1077 rfl ?_
  refine g_iadd 1079 C dL_law_1078 rfl ?_
  refine g_sld 1080 D dL_law_1079 rfl (by omega) ?_
  refine g_callVU (ws' := ((_, .inr (5, [_, _, _, _, _, _, _])) :: (_, .inr (1, [_, _, _, _])) :: (_, aI _ _ _) :: (_, aI _ _ _) :: (_, .inr (2, [_, _, _])) :: (_, aI _ _ _) :: (_, aI _ _ _) :: (_, .inr (3, [_, _, _, _, _, _, _, _, _, _, _, _, _])) :: (_, aI _ _ _) :: (_, aI _ _ _) :: (_, aI _ _ _) :: (_, aZ _ _ _) :: (_, aI _ _ _) :: (_, aI _ _ _) :: (_, .inr (0, [_])) :: (_, aQ _ _ _) :: (_, .inr (6, [_, _, _, _, _, _, _, _, _, _, _, _, _, _, _, _, _, _, _, _, _, _, _])) :: (_, aI _ _ _) :: (_, aI _ _ _) :: (_, aI _ _ _) :: (_, aI _ _ _) :: (_, aI _ _ _) :: (_, aZ _ _ _) :: (_, aI _ _ _) :: (_, aI _ _ _) :: (_, aI _ _ _) :: (_, aI _ _ _) :: (_, aI _ _ _) :: (_, aI _ _ _) :: (_, .inr (4, [_, _, _, _])) :: (_, aI _ _ _) :: (_, .inr (4, [_, _, _, _])) :: (_, aI _ _ _) :: (_, .inr (4, [_, _, _, _])) :: (_, aI _ _ _) :: (_, .inr (4, [_, _, _, _])) :: (_, aI _ _ _) :: [])) 1083 C [16, 25, 26, 27] dL_law_1080 rfl (k_X6_cell E l  (by first | exact lX_b _ _ | assumption | omega) (by first | exact lX_b _ _ | assumption | omega) (by first | exact lX_b _ _ | assumption | omega) (by first | exact lX_b _ _ | assumption | omega) (by first | exact lX_b _ _ | assumption | omega)) (cwV 3 C.2.2.2.2.1 gL_law_X6_cell rfl rfl rfl cdX6_cell ⟨Nat.le_of_ble_eq_true rfl, Nat.le_of_ble_eq_true rfl⟩) rfl rfl rfl rfl (Nat.le_of_ble_eq_true rfl) 16 6 rfl rfl rfl ⟨Nat.le_of_ble_eq_true rfl, Nat.le_of_ble_eq_true rfl⟩ rfl rfl ?_
  refine g_lcE 1084 1280 C dL_law_1083 rfl dL_law_1084 (by decide) (congrArg lI (by (repeat' split) <;> first | omega | exact hc (by omega) _ (by omega))) ?_
  rw [show (if ¬ ((0 ≤ (lX xs (i + 1)) ∧ (lX xs (i + 1)) < 4) ∧ 0 ≤ (lX xs (i + 3)) ∧ (lX xs (i + 3)) < 3) then 0 else if (TH w0) = 1 ∧ (LN w0) ≠ (lX xs (i + 3)) then 2 else if (TH w0) = 0 then 1 else if ¬ (0 ≤ (lX xs (i + 2)) ∧ (lX xs (i + 2)) < (SZ w0)) then 3 else 0 : Int) = if ¬ ((0 ≤ (lX xs (i + 1)) ∧ (lX xs (i + 1)) < 4) ∧ 0 ≤ (lX xs (i + 3)) ∧ (lX xs (i + 3)) < 3) then 0 else if 0 ≤ ss (lX xs (i + 1)) ∧ sl (lX xs (i + 1)) ≠ (lX xs (i + 3)) then 2 else if ss (lX xs (i + 1)) < 0 then 1 else if ¬ (0 ≤ (lX xs (i + 2)) ∧ (lX xs (i + 2)) < ss (lX xs (i + 1))) then 3 else 0 from by (repeat' split) <;> omega]
  refine sh_back hp ?_
  exact kk hB hh hse hn hpw hjo hjq hS
theorem cdX5_copy : yX5_copy.cls = RX5 ∧ yX5_copy.cls ≠ "java/lang/invoke/MethodHandle" ∧ yX5_copy.cls ≠ "java/lang/invoke/VarHandle" ∧ (parseMethodDescriptor yX5_copy.desc).map (fun d => d.parameters.length) = some 5 := by decide +kernel
theorem cdX6_copy : yX6_copy.cls = RX6 ∧ yX6_copy.cls ≠ "java/lang/invoke/MethodHandle" ∧ yX6_copy.cls ≠ "java/lang/invoke/VarHandle" ∧ (parseMethodDescriptor yX6_copy.desc).map (fun d => d.parameters.length) = some 5 := by decide +kernel
set_option maxHeartbeats 4000000 in
set_option maxRecDepth 100000 in
theorem law_27 {p : Program} {l : Launch} {e : Env} {s : State} {m : MethodId} {below : List Frame} {meth : Method} {c : Code} {b L : Nat} {xs : Nat → Int32} {E : gE} {a_X a_P a_hs a_se a_L a_pc a_tn a_R a_sh a_fi a_wa a_us a_ly a_jl a_D a_Q a_M a_Mh a_Mp a_Mt a_Ma a_Mu a_Mi a_Mx a_My a_Ms a_Ml a_Mc a_Mg : Nat} {aS aC : Int → Nat} {W h n jo fo sp fd tc tr ft mL mN mfd : Int} {hs se pc tn sh fi wa us ly jl qa qf mus ja jt ss sl sc hg TH LN SZ : Int → Int} {CE : Int → Int → Int} {now md : Int64} {sf : Int → Option Nat} {i : Int} (D : lC p s m meth c b L xs E) (hsf : ∀ j : Int, 0 ≤ j ∧ j < 4 → sf j = some (aS j)) (hi : 0 ≤ i ∧ i + 6 ≤ L) (hB : 1 ≤ W ∧ W ≤ 5 ∧ 1 ≤ h ∧ h ≤ 5) (hh : hB9 hs) (hse : ∀ p e : Int, 0 ≤ p ∧ p < W * h → 0 ≤ e ∧ e < 4 → se (p * 4 + e) = sdI W h p e) (hn : 0 ≤ n ∧ n ≤ 25) (hpw : ∀ j : Int, 0 ≤ j ∧ j < n → (0 ≤ pc j ∧ pc j < W * h) ∧ 0 ≤ tn j ∧ tn j < 4) (hjo : jo = 0 ∨ jo = 1) (hjq : jo = 1 → ∀ j : Int, 0 ≤ j ∧ j < W * h → jl j = ja j * 4 + jt j ∧ (0 ≤ ja j ∧ ja j < 25) ∧ 0 ≤ jt j ∧ jt j < 4) (hS : lshI TH LN SZ CE ss sl sc) (kk : ∀ {W h n jo fo sp fd tc tr ft mL mN mfd : Int} {hs se pc tn sh fi wa us ly jl qa qf mus ja jt ss sl sc hg TH LN SZ : Int → Int} {CE : Int → Int → Int} {now md : Int64}, (1 ≤ W ∧ W ≤ 5 ∧ 1 ≤ h ∧ h ≤ 5) → (hB9 hs) → (∀ p e : Int, 0 ≤ p ∧ p < W * h → 0 ≤ e ∧ e < 4 → se (p * 4 + e) = sdI W h p e) → (0 ≤ n ∧ n ≤ 25) → (∀ j : Int, 0 ≤ j ∧ j < n → (0 ≤ pc j ∧ pc j < W * h) ∧ 0 ≤ tn j ∧ tn j < 4) → (jo = 0 ∨ jo = 1) → (jo = 1 → ∀ j : Int, 0 ≤ j ∧ j < W * h → jl j = ja j * 4 + jt j ∧ (0 ≤ ja j ∧ ja j < 25) ∧ 0 ≤ jt j ∧ jt j < 4) → (lshI TH LN SZ CE ss sl sc) → lJ p l e s m below meth c b 37 2231 E ((a_X, .inr (5, [.ref a_P, .ref a_L, .ref a_R, .ref a_D, .ref a_Q, .int (iI tr), .int (iI ft)])) :: (a_P, .inr (1, [.ref a_hs, .ref a_se, .int (iI W), .int (iI h)])) :: (a_hs, aI E 200 hs) :: (a_se, aI E 100 se) :: (a_L, .inr (2, [.ref a_pc, .ref a_tn, .int (iI n)])) :: (a_pc, aI E 25 pc) :: (a_tn, aI E 25 tn) :: (a_R, .inr (3, [.ref a_P, .ref a_L, .ref a_sh, .ref a_fi, .ref a_wa, .ref a_us, .ref a_ly, .ref a_jl, .int (iI jo), .int (iI fo), .int (iI sp), .int (iI fd), .int (iI tc)])) :: (a_sh, aI E 400 sh) :: (a_fi, aI E 400 fi) :: (a_wa, aI E 100 wa) :: (a_us, aZ E 25 us) :: (a_ly, aI E 25 ly) :: (a_jl, aI E 25 jl) :: (a_D, .inr (0, [.long now])) :: (a_Q, aQ E 4 sf) :: (a_M, .inr (6, [.int (iI ft), .int (iI W), .int (iI h), .ref a_Mh, .long md, .int (iI mL), .int (iI mN), .int (iI n), .ref a_Mp, .ref a_Mt, .int (iI tc), .int (iI mfd), .ref a_Ma, .ref a_Mu, .ref a_Mi, .int (iI jo), .ref a_Mx, .ref a_My, .ref a_Ms, .ref a_Ml, .ref a_Mc, .ref a_Mg, .int (iI tr)])) :: (a_Mh, aI E 200 hs) :: (a_Mp, aI E 25 pc) :: (a_Mt, aI E 25 tn) :: (a_Ma, aI E 26 qa) :: (a_Mu, aI E 26 qf) :: (a_Mi, aZ E 25 mus) :: (a_Mx, aI E 25 ja) :: (a_My, aI E 25 jt) :: (a_Ms, aI E 4 ss) :: (a_Ml, aI E 4 sl) :: (a_Mc, aI E 200 sc) :: (a_Mg, aI E 50 hg) :: (aS 0, .inr (4, [.ref (aC 0), .int (iI (TH 0)), .int (iI (LN 0)), .int (iI (SZ 0))])) :: (aC 0, aI E 50 (CE 0)) :: (aS 1, .inr (4, [.ref (aC 1), .int (iI (TH 1)), .int (iI (LN 1)), .int (iI (SZ 1))])) :: (aC 1, aI E 50 (CE 1)) :: (aS 2, .inr (4, [.ref (aC 2), .int (iI (TH 2)), .int (iI (LN 2)), .int (iI (SZ 2))])) :: (aC 2, aI E 50 (CE 2)) :: (aS 3, .inr (4, [.ref (aC 3), .int (iI (TH 3)), .int (iI (LN 3)), .int (iI (SZ 3))])) :: (aC 3, aI E 50 (CE 3)) :: []) [(0, .ref b), (1, .ref a_X), (2, .ref a_M), (3, .int (iI i))] 1280 []) : lJ p l e s m below meth c b 37 2231 E ((a_X, .inr (5, [.ref a_P, .ref a_L, .ref a_R, .ref a_D, .ref a_Q, .int (iI tr), .int (iI ft)])) :: (a_P, .inr (1, [.ref a_hs, .ref a_se, .int (iI W), .int (iI h)])) :: (a_hs, aI E 200 hs) :: (a_se, aI E 100 se) :: (a_L, .inr (2, [.ref a_pc, .ref a_tn, .int (iI n)])) :: (a_pc, aI E 25 pc) :: (a_tn, aI E 25 tn) :: (a_R, .inr (3, [.ref a_P, .ref a_L, .ref a_sh, .ref a_fi, .ref a_wa, .ref a_us, .ref a_ly, .ref a_jl, .int (iI jo), .int (iI fo), .int (iI sp), .int (iI fd), .int (iI tc)])) :: (a_sh, aI E 400 sh) :: (a_fi, aI E 400 fi) :: (a_wa, aI E 100 wa) :: (a_us, aZ E 25 us) :: (a_ly, aI E 25 ly) :: (a_jl, aI E 25 jl) :: (a_D, .inr (0, [.long now])) :: (a_Q, aQ E 4 sf) :: (a_M, .inr (6, [.int (iI ft), .int (iI W), .int (iI h), .ref a_Mh, .long md, .int (iI mL), .int (iI mN), .int (iI n), .ref a_Mp, .ref a_Mt, .int (iI tc), .int (iI mfd), .ref a_Ma, .ref a_Mu, .ref a_Mi, .int (iI jo), .ref a_Mx, .ref a_My, .ref a_Ms, .ref a_Ml, .ref a_Mc, .ref a_Mg, .int (iI tr)])) :: (a_Mh, aI E 200 hs) :: (a_Mp, aI E 25 pc) :: (a_Mt, aI E 25 tn) :: (a_Ma, aI E 26 qa) :: (a_Mu, aI E 26 qf) :: (a_Mi, aZ E 25 mus) :: (a_Mx, aI E 25 ja) :: (a_My, aI E 25 jt) :: (a_Ms, aI E 4 ss) :: (a_Ml, aI E 4 sl) :: (a_Mc, aI E 200 sc) :: (a_Mg, aI E 50 hg) :: (aS 0, .inr (4, [.ref (aC 0), .int (iI (TH 0)), .int (iI (LN 0)), .int (iI (SZ 0))])) :: (aC 0, aI E 50 (CE 0)) :: (aS 1, .inr (4, [.ref (aC 1), .int (iI (TH 1)), .int (iI (LN 1)), .int (iI (SZ 1))])) :: (aC 1, aI E 50 (CE 1)) :: (aS 2, .inr (4, [.ref (aC 2), .int (iI (TH 2)), .int (iI (LN 2)), .int (iI (SZ 2))])) :: (aC 2, aI E 50 (CE 2)) :: (aS 3, .inr (4, [.ref (aC 3), .int (iI (TH 3)), .int (iI (LN 3)), .int (iI (SZ 3))])) :: (aC 3, aI E 50 (CE 3)) :: []) [(0, .ref b), (1, .ref a_X), (2, .ref a_M), (3, .int (iI i))] 1089 [] := by
  have C := D.1
  have hL0 := D.2.2.2.2
  rcases sel2 (lX xs (i + 1)) (lX xs (i + 3)) with ⟨w0, w1, w2, w3, hp, ha, hw, hv⟩ | ⟨w0, w1, w2, w3, hp, ha, hw, hv⟩
  · skip
    have hf : 0 ≤ (lX xs (i + 1)) ∧ (lX xs (i + 1)) < 4 → (((TH w0 = 1 ∧ 0 ≤ ss (lX xs (i + 1)) ∧ SZ w0 = ss (lX xs (i + 1))) ∨ (TH w0 = 0 ∧ ss (lX xs (i + 1)) < 0 ∧ SZ w0 = 0)) ∧ LN w0 = sl (lX xs (i + 1)) ∧ (-1 ≤ ss (lX xs (i + 1)) ∧ ss (lX xs (i + 1)) ≤ 50) ∧ 0 ≤ sl (lX xs (i + 1)) ∧ sl (lX xs (i + 1)) ≤ 2) := fun q => by rw [hw q]; exact lsh_f hS ha
    have hf2 : 0 ≤ (lX xs (i + 3)) ∧ (lX xs (i + 3)) < 4 → (((TH w0 = 1 ∧ 0 ≤ ss (lX xs (i + 3)) ∧ SZ w0 = ss (lX xs (i + 3))) ∨ (TH w0 = 0 ∧ ss (lX xs (i + 3)) < 0 ∧ SZ w0 = 0)) ∧ LN w0 = sl (lX xs (i + 3)) ∧ (-1 ≤ ss (lX xs (i + 3)) ∧ ss (lX xs (i + 3)) ≤ 50) ∧ 0 ≤ sl (lX xs (i + 3)) ∧ sl (lX xs (i + 3)) ≤ 2) := fun q => by rw [hv q]; exact lsh_f hS ha
    have hb := lsh_b hS ha
    have hth := hb.1
    have hsz := hb.2.1
    have hln := hb.2.2
    have hss := hS.1
    refine sh_in hp ?_
    refine g_aload_n 1090 C 1 dL_law_1089 rfl rfl ?_
    refine g_aload_n 1091 C 0 dL_law_1090 rfl rfl ?_
    refine g_iload_n 1092 C 3 dL_law_1091 rfl rfl ?_
    refine g_iconst 1093 C dL_law_1092 rfl ?_
    refine g_iadd 1094 C dL_law_1093 rfl ?_
    refine g_sld 1095 D dL_law_1094 rfl (by omega) ?_
    refine g_aload_n 1096 C 0 dL_law_1095 rfl rfl ?_
    refine g_iload_n 1097 C 3 dL_law_1096 rfl rfl ?_
    refine g_iconst 1098 C dL_law_1097 rfl ?_
    refine g_iadd 1099 C dL_law_1098 rfl ?_
    refine g_sld 1100 D dL_law_1099 rfl (by omega) ?_
    refine g_aload_n 1101 C 0 dL_law_1100 rfl rfl ?_
    refine g_iload_n 1102 C 3 dL_law_1101 rfl rfl ?_
    refine g_iconst 1103 C dL_law_1102 rfl ?_
    refine g_iadd 1104 C dL_law_1103 rfl ?_
    refine g_sld 1105 D dL_law_1104 rfl (by omega) ?_
    refine g_aload_n 1106 C 0 dL_law_1105 rfl rfl ?_
    refine g_iload_n 1107 C 3 dL_law_1106 rfl rfl ?_
    refine g_iconst 1108 C dL_law_1107 rfl ?_
    refine g_iadd 1109 C dL_law_1108 rfl ?_
    refine g_sld 1110 D dL_law_1109 rfl (by omega) ?_
    refine g_aload_n 1111 C 0 dL_law_1110 rfl rfl ?_
    refine g_iload_n 1112 C 3 dL_law_1111 rfl rfl ?_
    refine g_iconst 1113 C dL_law_1112 rfl ?_
    refine g_iadd 1114 C dL_law_1113 rfl ?_
    refine g_sld 1115 D dL_law_1114 rfl (by omega) ?_
    refine g_callVU (ws' := ((_, .inr (5, [_, _, _, _, _, _, _])) :: (_, .inr (1, [_, _, _, _])) :: (_, aI _ _ _) :: (_, aI _ _ _) :: (_, .inr (2, [_, _, _])) :: (_, aI _ _ _) :: (_, aI _ _ _) :: (_, .inr (3, [_, _, _, _, _, _, _, _, _, _, _, _, _])) :: (_, aI _ _ _) :: (_, aI _ _ _) :: (_, aI _ _ _) :: (_, aZ _ _ _) :: (_, aI _ _ _) :: (_, aI _ _ _) :: (_, .inr (0, [_])) :: (_, aQ _ _ _) :: (_, .inr (6, [_, _, _, _, _, _, _, _, _, _, _, _, _, _, _, _, _, _, _, _, _, _, _])) :: (_, aI _ _ _) :: (_, aI _ _ _) :: (_, aI _ _ _) :: (_, aI _ _ _) :: (_, aI _ _ _) :: (_, aZ _ _ _) :: (_, aI _ _ _) :: (_, aI _ _ _) :: (_, aI _ _ _) :: (_, aI _ _ _) :: (_, aI _ _ _) :: (_, aI _ _ _) :: (_, .inr (4, [_, _, _, _])) :: (_, aI _ _ _) :: (_, .inr (4, [_, _, _, _])) :: (_, aI _ _ _) :: (_, .inr (4, [_, _, _, _])) :: (_, aI _ _ _) :: (_, .inr (4, [_, _, _, _])) :: (_, aI _ _ _) :: [])) 1118 C [0, 15, 29, 30] dL_law_1115 rfl (k_X5_copy_s E l  (fun q => by rw [hw q]; exact hsf _ ha) (fun q => by rw [hv q]; exact hsf _ ha) (by first | exact lX_b _ _ | assumption | omega) (by first | exact lX_b _ _ | assumption | omega) (by first | exact lX_b _ _ | assumption | omega) (by first | exact lX_b _ _ | assumption | omega) (by first | exact lX_b _ _ | assumption | omega) (by first | exact lX_b _ _ | assumption | omega) (by first | exact lX_b _ _ | assumption | omega) (by first | exact lX_b _ _ | assumption | omega)) (cwV 5 C.2.2.2.2.1 gL_law_X5_copy rfl rfl rfl cdX5_copy ⟨Nat.le_of_ble_eq_true rfl, Nat.le_of_ble_eq_true rfl⟩) rfl rfl rfl rfl (Nat.le_of_ble_eq_true rfl) 0 5 rfl rfl rfl ⟨Nat.le_of_ble_eq_true rfl, Nat.le_of_ble_eq_true rfl⟩ rfl rfl ?_
    refine g_aload_n 1119 C 2 dL_law_1118 rfl rfl ?_
    refine g_aload_n 1120 C 0 dL_law_1119 rfl rfl ?_
    refine g_iload_n 1121 C 3 dL_law_1120 rfl rfl ?_
    refine g_iconst 1122 C dL_law_1121 rfl ?_
    refine g_iadd 1123 C dL_law_1122 rfl ?_
    refine g_sld 1124 D dL_law_1123 rfl (by omega) ?_
    refine g_aload_n 1125 C 0 dL_law_1124 rfl rfl ?_
    refine g_iload_n 1126 C 3 dL_law_1125 rfl rfl ?_
    refine g_iconst 1127 C dL_law_1126 rfl ?_
    refine g_iadd 1128 C dL_law_1127 rfl ?_
    refine g_sld 1129 D dL_law_1128 rfl (by omega) ?_
    refine g_aload_n 1130 C 0 dL_law_1129 rfl rfl ?_
    refine g_iload_n 1131 C 3 dL_law_1130 rfl rfl ?_
    refine g_iconst 1132 C dL_law_1131 rfl ?_
    refine g_iadd 1133 C dL_law_1132 rfl ?_
    refine g_sld 1134 D dL_law_1133 rfl (by omega) ?_
    refine g_aload_n 1135 C 0 dL_law_1134 rfl rfl ?_
    refine g_iload_n 1136 C 3 dL_law_1135 rfl rfl ?_
    refine g_iconst 1137 C dL_law_1136 rfl ?_
    refine g_iadd 1138 C dL_law_1137 rfl ?_
    refine g_sld 1139 D dL_law_1138 rfl (by omega) ?_
    refine g_aload_n 1140 C 0 dL_law_1139 rfl rfl ?_
    refine g_iload_n 1141 C 3 dL_law_1140 rfl rfl ?_
    refine g_iconst 1142 C dL_law_1141 rfl ?_
    refine g_iadd 1143 C dL_law_1142 rfl ?_
    refine g_sld 1144 D dL_law_1143 rfl (by omega) ?_
    refine g_callV 1147 C [16, 25, 26, 27, 28] dL_law_1144 rfl (k_X6_copy E l  (by first | exact lX_b _ _ | assumption | omega) (by first | exact lX_b _ _ | assumption | omega) (by first | exact lX_b _ _ | assumption | omega) (by first | exact lX_b _ _ | assumption | omega) (by first | exact lX_b _ _ | assumption | omega) (by first | exact lX_b _ _ | assumption | omega)) (cwV 5 C.2.2.2.2.1 gL_law_X6_copy rfl rfl rfl cdX6_copy ⟨Nat.le_of_ble_eq_true rfl, Nat.le_of_ble_eq_true rfl⟩) rfl rfl rfl rfl (Nat.le_of_ble_eq_true rfl) 16 6 rfl rfl rfl ⟨Nat.le_of_ble_eq_true rfl, Nat.le_of_ble_eq_true rfl⟩ (fun v w q => by obtain ⟨_, -, rfl⟩ := q; rfl) ?_
    rintro _ _ ⟨g6, rfl, rfl⟩
    refine g_w (ws' := ((_, .inr (5, [_, _, _, _, _, _, _])) :: (_, .inr (1, [_, _, _, _])) :: (_, aI _ _ _) :: (_, aI _ _ _) :: (_, .inr (2, [_, _, _])) :: (_, aI _ _ _) :: (_, aI _ _ _) :: (_, .inr (3, [_, _, _, _, _, _, _, _, _, _, _, _, _])) :: (_, aI _ _ _) :: (_, aI _ _ _) :: (_, aI _ _ _) :: (_, aZ _ _ _) :: (_, aI _ _ _) :: (_, aI _ _ _) :: (_, .inr (0, [_])) :: (_, aQ _ _ _) :: (_, .inr (6, [_, _, _, _, _, _, _, _, _, _, _, _, _, _, _, _, _, _, _, _, _, _, _])) :: (_, aI _ _ _) :: (_, aI _ _ _) :: (_, aI _ _ _) :: (_, aI _ _ _) :: (_, aI _ _ _) :: (_, aZ _ _ _) :: (_, aI _ _ _) :: (_, aI _ _ _) :: (_, aI _ _ _) :: (_, aI _ _ _) :: (_, aI _ _ _) :: (_, aI _ _ _) :: (_, .inr (4, [_, _, _, _])) :: (_, aI _ _ _) :: (_, .inr (4, [_, _, _, _])) :: (_, aI _ _ _) :: (_, .inr (4, [_, _, _, _])) :: (_, aI _ _ _) :: (_, .inr (4, [_, _, _, _])) :: (_, aI _ _ _) :: [])) [0, 1, 2, 3] rfl rfl ?_
    refine g_cmpE 1280 C dL_law_1147 (by decide) (congrArg iI (by (repeat' split) <;> omega)) ?_
    rw [show (if ¬ ((0 ≤ (lX xs (i + 1)) ∧ (lX xs (i + 1)) < 4) ∧ (0 ≤ (lX xs (i + 3)) ∧ (lX xs (i + 3)) < 4)) then 0 else if ¬ (TH w0) = 1 then 1 else if ¬ ((0 ≤ (lX xs (i + 2)) ∧ 0 ≤ (lX xs (i + 5)) ∧ (lX xs (i + 2)) + (lX xs (i + 5)) ≤ (SZ w0)) ∧ (0 ≤ (lX xs (i + 4)) ∧ 0 ≤ (lX xs (i + 5)) ∧ (lX xs (i + 4)) + (lX xs (i + 5)) ≤ (SZ w0))) then 3 else 0 : Int) = if ¬ ((0 ≤ (lX xs (i + 1)) ∧ (lX xs (i + 1)) < 4) ∧ (0 ≤ (lX xs (i + 3)) ∧ (lX xs (i + 3)) < 4)) then 0 else if ¬ (0 ≤ ss (lX xs (i + 1)) ∧ 0 ≤ ss (lX xs (i + 3))) then 1 else if sl (lX xs (i + 1)) ≠ sl (lX xs (i + 3)) then 2 else if ¬ ((0 ≤ (lX xs (i + 2)) ∧ 0 ≤ (lX xs (i + 5)) ∧ (lX xs (i + 2)) + (lX xs (i + 5)) ≤ ss (lX xs (i + 1))) ∧ (0 ≤ (lX xs (i + 4)) ∧ 0 ≤ (lX xs (i + 5)) ∧ (lX xs (i + 4)) + (lX xs (i + 5)) ≤ ss (lX xs (i + 3)))) then 3 else 0 from by (repeat' split) <;> omega]
    by_cases hg : ((0 ≤ (lX xs (i + 1)) ∧ (lX xs (i + 1)) < 4) ∧ (0 ≤ (lX xs (i + 3)) ∧ (lX xs (i + 3)) < 4)) ∧ (0 ≤ ss (lX xs (i + 1)) ∧ 0 ≤ ss (lX xs (i + 3))) ∧ sl (lX xs (i + 1)) = sl (lX xs (i + 3)) ∧ (0 ≤ (lX xs (i + 2)) ∧ 0 ≤ (lX xs (i + 5)) ∧ (lX xs (i + 2)) + (lX xs (i + 5)) ≤ ss (lX xs (i + 1))) ∧ (0 ≤ (lX xs (i + 4)) ∧ 0 ≤ (lX xs (i + 5)) ∧ (lX xs (i + 4)) + (lX xs (i + 5)) ≤ ss (lX xs (i + 3)))
    · skip
      have hg5 : ((0 ≤ (lX xs (i + 1)) ∧ (lX xs (i + 1)) < 4) ∧ (0 ≤ (lX xs (i + 3)) ∧ (lX xs (i + 3)) < 4)) ∧ (TH w0) = 1 ∧ (0 ≤ (lX xs (i + 2)) ∧ 0 ≤ (lX xs (i + 5)) ∧ (lX xs (i + 2)) + (lX xs (i + 5)) ≤ (SZ w0)) ∧ (0 ≤ (lX xs (i + 4)) ∧ 0 ≤ (lX xs (i + 5)) ∧ (lX xs (i + 4)) + (lX xs (i + 5)) ≤ (SZ w0)) := by omega
      simp only [if_pos hg, if_pos hg5]
      have e := hw hg.1.1
      have e2 := hv hg.1.2
      rw [e, e2] at hg
      rw [e, e2]
      refine sh_out hp ?_
      exact kk (TH := uI TH w0 (TH w0)) (LN := uI LN w0 (LN w0)) (SZ := uI SZ w0 (SZ w0)) (CE := uC CE w0 (cpI (CE w0) (CE w0) (lX xs (i + 2)) (lX xs (i + 4)) (lX xs (i + 5)))) hB hh hse hn hpw hjo hjq (lsh_copy hS ha ha hg.2.2.2)
    · skip
      have hg5 : ¬ (((0 ≤ (lX xs (i + 1)) ∧ (lX xs (i + 1)) < 4) ∧ (0 ≤ (lX xs (i + 3)) ∧ (lX xs (i + 3)) < 4)) ∧ (TH w0) = 1 ∧ (0 ≤ (lX xs (i + 2)) ∧ 0 ≤ (lX xs (i + 5)) ∧ (lX xs (i + 2)) + (lX xs (i + 5)) ≤ (SZ w0)) ∧ (0 ≤ (lX xs (i + 4)) ∧ 0 ≤ (lX xs (i + 5)) ∧ (lX xs (i + 4)) + (lX xs (i + 5)) ≤ (SZ w0))) := by omega
      simp only [if_neg hg, if_neg hg5]
      refine sh_back hp ?_
      exact kk hB hh hse hn hpw hjo hjq hS
  · skip
    subst hw
    subst hv
    have hf := lsh_f hS ha.2
    have hf2 := lsh_f hS ha.1
    have hb := lsh_b hS ha.2
    have hth := hb.1
    have hsz := hb.2.1
    have hln := hb.2.2
    have hb2 := lsh_b hS ha.1
    have hth2 := hb2.1
    have hsz2 := hb2.2.1
    have hln2 := hb2.2.2
    have hss := hS.1
    refine sh_in hp ?_
    refine g_aload_n 1090 C 1 dL_law_1089 rfl rfl ?_
    refine g_aload_n 1091 C 0 dL_law_1090 rfl rfl ?_
    refine g_iload_n 1092 C 3 dL_law_1091 rfl rfl ?_
    refine g_iconst 1093 C dL_law_1092 rfl ?_
    refine g_iadd 1094 C dL_law_1093 rfl ?_
    refine g_sld 1095 D dL_law_1094 rfl (by omega) ?_
    refine g_aload_n 1096 C 0 dL_law_1095 rfl rfl ?_
    refine g_iload_n 1097 C 3 dL_law_1096 rfl rfl ?_
    refine g_iconst 1098 C dL_law_1097 rfl ?_
    refine g_iadd 1099 C dL_law_1098 rfl ?_
    refine g_sld 1100 D dL_law_1099 rfl (by omega) ?_
    refine g_aload_n 1101 C 0 dL_law_1100 rfl rfl ?_
    refine g_iload_n 1102 C 3 dL_law_1101 rfl rfl ?_
    refine g_iconst 1103 C dL_law_1102 rfl ?_
    refine g_iadd 1104 C dL_law_1103 rfl ?_
    refine g_sld 1105 D dL_law_1104 rfl (by omega) ?_
    refine g_aload_n 1106 C 0 dL_law_1105 rfl rfl ?_
    refine g_iload_n 1107 C 3 dL_law_1106 rfl rfl ?_
    refine g_iconst 1108 C dL_law_1107 rfl ?_
    refine g_iadd 1109 C dL_law_1108 rfl ?_
    refine g_sld 1110 D dL_law_1109 rfl (by omega) ?_
    refine g_aload_n 1111 C 0 dL_law_1110 rfl rfl ?_
    refine g_iload_n 1112 C 3 dL_law_1111 rfl rfl ?_
    refine g_iconst 1113 C dL_law_1112 rfl ?_
    refine g_iadd 1114 C dL_law_1113 rfl ?_
    refine g_sld 1115 D dL_law_1114 rfl (by omega) ?_
    refine g_callVU (ws' := ((_, .inr (5, [_, _, _, _, _, _, _])) :: (_, .inr (1, [_, _, _, _])) :: (_, aI _ _ _) :: (_, aI _ _ _) :: (_, .inr (2, [_, _, _])) :: (_, aI _ _ _) :: (_, aI _ _ _) :: (_, .inr (3, [_, _, _, _, _, _, _, _, _, _, _, _, _])) :: (_, aI _ _ _) :: (_, aI _ _ _) :: (_, aI _ _ _) :: (_, aZ _ _ _) :: (_, aI _ _ _) :: (_, aI _ _ _) :: (_, .inr (0, [_])) :: (_, aQ _ _ _) :: (_, .inr (6, [_, _, _, _, _, _, _, _, _, _, _, _, _, _, _, _, _, _, _, _, _, _, _])) :: (_, aI _ _ _) :: (_, aI _ _ _) :: (_, aI _ _ _) :: (_, aI _ _ _) :: (_, aI _ _ _) :: (_, aZ _ _ _) :: (_, aI _ _ _) :: (_, aI _ _ _) :: (_, aI _ _ _) :: (_, aI _ _ _) :: (_, aI _ _ _) :: (_, aI _ _ _) :: (_, .inr (4, [_, _, _, _])) :: (_, aI _ _ _) :: (_, .inr (4, [_, _, _, _])) :: (_, aI _ _ _) :: (_, .inr (4, [_, _, _, _])) :: (_, aI _ _ _) :: (_, .inr (4, [_, _, _, _])) :: (_, aI _ _ _) :: [])) 1118 C [0, 15, 31, 32, 29, 30] dL_law_1115 rfl (k_X5_copy E l  (fun q => hsf _ q) (fun q => hsf _ q) (by first | exact lX_b _ _ | assumption | omega) (by first | exact lX_b _ _ | assumption | omega) (by first | exact lX_b _ _ | assumption | omega) (by first | exact lX_b _ _ | assumption | omega) (by first | exact lX_b _ _ | assumption | omega) (by first | exact lX_b _ _ | assumption | omega) (by first | exact lX_b _ _ | assumption | omega) (by first | exact lX_b _ _ | assumption | omega) (by first | exact lX_b _ _ | assumption | omega) (by first | exact lX_b _ _ | assumption | omega) (by first | exact lX_b _ _ | assumption | omega)) (cwV 5 C.2.2.2.2.1 gL_law_X5_copy rfl rfl rfl cdX5_copy ⟨Nat.le_of_ble_eq_true rfl, Nat.le_of_ble_eq_true rfl⟩) rfl rfl rfl rfl (Nat.le_of_ble_eq_true rfl) 0 5 rfl rfl rfl ⟨Nat.le_of_ble_eq_true rfl, Nat.le_of_ble_eq_true rfl⟩ rfl rfl ?_
    refine g_aload_n 1119 C 2 dL_law_1118 rfl rfl ?_
    refine g_aload_n 1120 C 0 dL_law_1119 rfl rfl ?_
    refine g_iload_n 1121 C 3 dL_law_1120 rfl rfl ?_
    refine g_iconst 1122 C dL_law_1121 rfl ?_
    refine g_iadd 1123 C dL_law_1122 rfl ?_
    refine g_sld 1124 D dL_law_1123 rfl (by omega) ?_
    refine g_aload_n 1125 C 0 dL_law_1124 rfl rfl ?_
    refine g_iload_n 1126 C 3 dL_law_1125 rfl rfl ?_
    refine g_iconst 1127 C dL_law_1126 rfl ?_
    refine g_iadd 1128 C dL_law_1127 rfl ?_
    refine g_sld 1129 D dL_law_1128 rfl (by omega) ?_
    refine g_aload_n 1130 C 0 dL_law_1129 rfl rfl ?_
    refine g_iload_n 1131 C 3 dL_law_1130 rfl rfl ?_
    refine g_iconst 1132 C dL_law_1131 rfl ?_
    refine g_iadd 1133 C dL_law_1132 rfl ?_
    refine g_sld 1134 D dL_law_1133 rfl (by omega) ?_
    refine g_aload_n 1135 C 0 dL_law_1134 rfl rfl ?_
    refine g_iload_n 1136 C 3 dL_law_1135 rfl rfl ?_
    refine g_iconst 1137 C dL_law_1136 rfl ?_
    refine g_iadd 1138 C dL_law_1137 rfl ?_
    refine g_sld 1139 D dL_law_1138 rfl (by omega) ?_
    refine g_aload_n 1140 C 0 dL_law_1139 rfl rfl ?_
    refine g_iload_n 1141 C 3 dL_law_1140 rfl rfl ?_
    refine g_iconst 1142 C dL_law_1141 rfl ?_
    refine g_iadd 1143 C dL_law_1142 rfl ?_
    refine g_sld 1144 D dL_law_1143 rfl (by omega) ?_
    refine g_callV 1147 C [16, 25, 26, 27, 28] dL_law_1144 rfl (k_X6_copy E l  (by first | exact lX_b _ _ | assumption | omega) (by first | exact lX_b _ _ | assumption | omega) (by first | exact lX_b _ _ | assumption | omega) (by first | exact lX_b _ _ | assumption | omega) (by first | exact lX_b _ _ | assumption | omega) (by first | exact lX_b _ _ | assumption | omega)) (cwV 5 C.2.2.2.2.1 gL_law_X6_copy rfl rfl rfl cdX6_copy ⟨Nat.le_of_ble_eq_true rfl, Nat.le_of_ble_eq_true rfl⟩) rfl rfl rfl rfl (Nat.le_of_ble_eq_true rfl) 16 6 rfl rfl rfl ⟨Nat.le_of_ble_eq_true rfl, Nat.le_of_ble_eq_true rfl⟩ (fun v w q => by obtain ⟨_, -, rfl⟩ := q; rfl) ?_
    rintro _ _ ⟨g6, rfl, rfl⟩
    refine g_w (ws' := ((_, .inr (5, [_, _, _, _, _, _, _])) :: (_, .inr (1, [_, _, _, _])) :: (_, aI _ _ _) :: (_, aI _ _ _) :: (_, .inr (2, [_, _, _])) :: (_, aI _ _ _) :: (_, aI _ _ _) :: (_, .inr (3, [_, _, _, _, _, _, _, _, _, _, _, _, _])) :: (_, aI _ _ _) :: (_, aI _ _ _) :: (_, aI _ _ _) :: (_, aZ _ _ _) :: (_, aI _ _ _) :: (_, aI _ _ _) :: (_, .inr (0, [_])) :: (_, aQ _ _ _) :: (_, .inr (6, [_, _, _, _, _, _, _, _, _, _, _, _, _, _, _, _, _, _, _, _, _, _, _])) :: (_, aI _ _ _) :: (_, aI _ _ _) :: (_, aI _ _ _) :: (_, aI _ _ _) :: (_, aI _ _ _) :: (_, aZ _ _ _) :: (_, aI _ _ _) :: (_, aI _ _ _) :: (_, aI _ _ _) :: (_, aI _ _ _) :: (_, aI _ _ _) :: (_, aI _ _ _) :: (_, .inr (4, [_, _, _, _])) :: (_, aI _ _ _) :: (_, .inr (4, [_, _, _, _])) :: (_, aI _ _ _) :: (_, .inr (4, [_, _, _, _])) :: (_, aI _ _ _) :: (_, .inr (4, [_, _, _, _])) :: (_, aI _ _ _) :: [])) [0, 1, 2, 3] rfl rfl ?_
    refine g_cmpE 1280 C dL_law_1147 (by decide) (congrArg iI (by (repeat' split) <;> omega)) ?_
    rw [show (if ¬ ((0 ≤ (lX xs (i + 1)) ∧ (lX xs (i + 1)) < 4) ∧ (0 ≤ (lX xs (i + 3)) ∧ (lX xs (i + 3)) < 4)) then 0 else if ¬ ((TH (lX xs (i + 1))) = 1 ∧ (TH (lX xs (i + 3))) = 1) then 1 else if (LN (lX xs (i + 1))) ≠ (LN (lX xs (i + 3))) then 2 else if ¬ ((0 ≤ (lX xs (i + 2)) ∧ 0 ≤ (lX xs (i + 5)) ∧ (lX xs (i + 2)) + (lX xs (i + 5)) ≤ (SZ (lX xs (i + 1)))) ∧ (0 ≤ (lX xs (i + 4)) ∧ 0 ≤ (lX xs (i + 5)) ∧ (lX xs (i + 4)) + (lX xs (i + 5)) ≤ (SZ (lX xs (i + 3))))) then 3 else 0 : Int) = if ¬ ((0 ≤ (lX xs (i + 1)) ∧ (lX xs (i + 1)) < 4) ∧ (0 ≤ (lX xs (i + 3)) ∧ (lX xs (i + 3)) < 4)) then 0 else if ¬ (0 ≤ ss (lX xs (i + 1)) ∧ 0 ≤ ss (lX xs (i + 3))) then 1 else if sl (lX xs (i + 1)) ≠ sl (lX xs (i + 3)) then 2 else if ¬ ((0 ≤ (lX xs (i + 2)) ∧ 0 ≤ (lX xs (i + 5)) ∧ (lX xs (i + 2)) + (lX xs (i + 5)) ≤ ss (lX xs (i + 1))) ∧ (0 ≤ (lX xs (i + 4)) ∧ 0 ≤ (lX xs (i + 5)) ∧ (lX xs (i + 4)) + (lX xs (i + 5)) ≤ ss (lX xs (i + 3)))) then 3 else 0 from by (repeat' split) <;> omega]
    by_cases hg : ((0 ≤ (lX xs (i + 1)) ∧ (lX xs (i + 1)) < 4) ∧ (0 ≤ (lX xs (i + 3)) ∧ (lX xs (i + 3)) < 4)) ∧ (0 ≤ ss (lX xs (i + 1)) ∧ 0 ≤ ss (lX xs (i + 3))) ∧ sl (lX xs (i + 1)) = sl (lX xs (i + 3)) ∧ (0 ≤ (lX xs (i + 2)) ∧ 0 ≤ (lX xs (i + 5)) ∧ (lX xs (i + 2)) + (lX xs (i + 5)) ≤ ss (lX xs (i + 1))) ∧ (0 ≤ (lX xs (i + 4)) ∧ 0 ≤ (lX xs (i + 5)) ∧ (lX xs (i + 4)) + (lX xs (i + 5)) ≤ ss (lX xs (i + 3)))
    · skip
      have hg5 : ((0 ≤ (lX xs (i + 1)) ∧ (lX xs (i + 1)) < 4) ∧ (0 ≤ (lX xs (i + 3)) ∧ (lX xs (i + 3)) < 4)) ∧ ((TH (lX xs (i + 1))) = 1 ∧ (TH (lX xs (i + 3))) = 1) ∧ (LN (lX xs (i + 1))) = (LN (lX xs (i + 3))) ∧ (0 ≤ (lX xs (i + 2)) ∧ 0 ≤ (lX xs (i + 5)) ∧ (lX xs (i + 2)) + (lX xs (i + 5)) ≤ (SZ (lX xs (i + 1)))) ∧ (0 ≤ (lX xs (i + 4)) ∧ 0 ≤ (lX xs (i + 5)) ∧ (lX xs (i + 4)) + (lX xs (i + 5)) ≤ (SZ (lX xs (i + 3)))) := by omega
      simp only [if_pos hg, if_pos hg5]
      refine sh_out hp ?_
      exact kk (TH := uI TH (lX xs (i + 3)) (TH (lX xs (i + 3)))) (LN := uI LN (lX xs (i + 3)) (LN (lX xs (i + 3)))) (SZ := uI SZ (lX xs (i + 3)) (SZ (lX xs (i + 3)))) (CE := uC CE (lX xs (i + 3)) (cpI (CE (lX xs (i + 1))) (CE (lX xs (i + 3))) (lX xs (i + 2)) (lX xs (i + 4)) (lX xs (i + 5)))) hB hh hse hn hpw hjo hjq (lsh_copy hS ha.2 ha.1 hg.2.2.2)
    · skip
      have hg5 : ¬ (((0 ≤ (lX xs (i + 1)) ∧ (lX xs (i + 1)) < 4) ∧ (0 ≤ (lX xs (i + 3)) ∧ (lX xs (i + 3)) < 4)) ∧ ((TH (lX xs (i + 1))) = 1 ∧ (TH (lX xs (i + 3))) = 1) ∧ (LN (lX xs (i + 1))) = (LN (lX xs (i + 3))) ∧ (0 ≤ (lX xs (i + 2)) ∧ 0 ≤ (lX xs (i + 5)) ∧ (lX xs (i + 2)) + (lX xs (i + 5)) ≤ (SZ (lX xs (i + 1)))) ∧ (0 ≤ (lX xs (i + 4)) ∧ 0 ≤ (lX xs (i + 5)) ∧ (lX xs (i + 4)) + (lX xs (i + 5)) ≤ (SZ (lX xs (i + 3))))) := by omega
      simp only [if_neg hg, if_neg hg5]
      refine sh_back hp ?_
      exact kk hB hh hse hn hpw hjo hjq hS
