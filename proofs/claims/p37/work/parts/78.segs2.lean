theorem lL_law_arrI : Cond.arrayClass .int ∈ wsL_law := (List.mem_of_getElem? (i := 5) (by decide +kernel))
set_option maxHeartbeats 4000000 in
set_option maxRecDepth 100000 in
theorem law_d {p : Program} {l : Launch} {e : Env} {s : State} {m : MethodId} {below : List Frame} {meth : Method} {c : Code} {b L : Nat} {xs : Nat → Int32} {E : gE} {a_D a_L a_P a_Q a_R a_X a_fi a_hs a_jl a_ly a_pc a_se a_sh a_tn a_us a_wa : Nat} {W h n wf fo sp fd tc tr ft : Int} {hs se pc tn sh fi wa us ly jl : Int → Int} {now : Int64} (D : lC p s m meth c b L xs E) (hw : 1 ≤ W ∧ W ≤ 3 ∧ 1 ≤ h ∧ h ≤ 3 ∧ (W = 3 → h ≤ 2)) (hn6 : 1 ≤ n ∧ n ≤ 6) (hpw : ∀ j : Int, 0 ≤ j ∧ j < n → (0 ≤ pc j ∧ pc j < W * h) ∧ 0 ≤ tn j ∧ tn j < 4) (kk : ∀ {a_ti : Nat} {ti : Int → Int}, (∀ x : Int, 0 ≤ x ∧ x < 9 → ti x = tmI n pc x) → lJ p l e s m below meth c b 101 3009 E [(a_X, .inr (5, [.ref a_P, .ref a_L, .ref a_R, .ref a_D, .ref a_Q, .int (iI tr), .int (iI ft)])), (a_P, .inr (1, [.ref a_hs, .ref a_se, .int (iI W), .int (iI h)])), (a_hs, aI E 200 hs), (a_se, aI E 100 se), (a_L, .inr (2, [.ref a_pc, .ref a_tn, .int (iI n)])), (a_pc, aI E 25 pc), (a_tn, aI E 25 tn), (a_R, .inr (3, [.ref a_P, .ref a_L, .ref a_sh, .ref a_fi, .ref a_wa, .ref a_us, .ref a_ly, .ref a_jl, .int (iI 0), .int (iI fo), .int (iI sp), .int (iI fd), .int (iI tc)])), (a_sh, aI E 400 sh), (a_fi, aI E 400 fi), (a_wa, aI E 100 wa), (a_us, aZ E 25 us), (a_ly, aI E 25 ly), (a_jl, aI E 25 jl), (a_ti, aI E 9 ti)] [(0, .ref b), (1, .ref a_X), (2, .int (iI W)), (3, .int (iI h)), (4, .int (iI (W * h))), (5, .int (iI (nsd W h))), (6, .int (iI wf)), (7, .int (iI n)), (8, .ref a_ti)] 312 []) : lJ p l e s m below meth c b 100 3000 E [(a_X, .inr (5, [.ref a_P, .ref a_L, .ref a_R, .ref a_D, .ref a_Q, .int (iI tr), .int (iI ft)])), (a_P, .inr (1, [.ref a_hs, .ref a_se, .int (iI W), .int (iI h)])), (a_hs, aI E 200 hs), (a_se, aI E 100 se), (a_L, .inr (2, [.ref a_pc, .ref a_tn, .int (iI n)])), (a_pc, aI E 25 pc), (a_tn, aI E 25 tn), (a_R, .inr (3, [.ref a_P, .ref a_L, .ref a_sh, .ref a_fi, .ref a_wa, .ref a_us, .ref a_ly, .ref a_jl, .int (iI 0), .int (iI fo), .int (iI sp), .int (iI fd), .int (iI tc)])), (a_sh, aI E 400 sh), (a_fi, aI E 400 fi), (a_wa, aI E 100 wa), (a_us, aZ E 25 us), (a_ly, aI E 25 ly), (a_jl, aI E 25 jl), (a_D, .inr (0, [.long now]))] [(0, .ref b), (1, .ref a_X), (2, .int (iI W)), (3, .int (iI h)), (4, .int (iI (W * h))), (5, .int (iI (nsd W h))), (6, .int (iI wf)), (7, .int (iI n))] 276 [] := by
  have C := D.1
  have hL0 := D.2.2.2.2
  have hB : 1 ≤ W ∧ W ≤ 5 ∧ 1 ≤ h ∧ h ≤ 5 := by omega
  have h6 := wh6 hw
  have hN := nsd_b hB
  have hn : 0 ≤ n ∧ n ≤ 25 := by omega
  have hpn : ∀ j : Int, 0 ≤ j ∧ j < n → 0 ≤ pc j ∧ pc j < 25 := fun j hj => by have q := hpw j hj; omega
  refine g_bipush 278 C dL_law_276 rfl (by decide) ?_
  refine g_newI 280 C 9 lL_law_arrI dL_law_278 rfl (by decide) (Nat.le_of_ble_eq_true rfl) (Nat.le_of_ble_eq_true rfl) ?_
  intro a_ti
  refine g_w (ws' := [(_, .inr (5, [_, _, _, _, _, _, _])), (_, .inr (1, [_, _, _, _])), (_, aI _ _ _), (_, aI _ _ _), (_, .inr (2, [_, _, _])), (_, aI _ _ _), (_, aI _ _ _), (_, .inr (3, [_, _, _, _, _, _, _, _, _, _, _, _, _])), (_, aI _ _ _), (_, aI _ _ _), (_, aI _ _ _), (_, aZ _ _ _), (_, aI _ _ _), (_, aI _ _ _), (_, .inr (0, [_])), (_, aI _ _ _)]) [0, 1, 2, 3, 4, 5, 6, 7] rfl rfl ?_
  refine g_astore (lv' := [(8, _), (0, _), (1, _), (2, _), (3, _), (4, _), (5, _), (6, _), (7, _)]) 282 C dL_law_280 rfl (by decide) rfl ?_
  refine g_iconst 283 C dL_law_282 rfl ?_
  refine g_istore (lv' := [(9, _), (8, _), (0, _), (1, _), (2, _), (3, _), (4, _), (5, _), (6, _), (7, _)]) 285 C dL_law_283 rfl (by decide) rfl ?_
  refine g_loop (α := (Int → Int) × Int) (fun zz => [(a_X, .inr (5, [.ref a_P, .ref a_L, .ref a_R, .ref a_D, .ref a_Q, .int (iI tr), .int (iI ft)])), (a_P, .inr (1, [.ref a_hs, .ref a_se, .int (iI W), .int (iI h)])), (a_hs, aI E 200 hs), (a_se, aI E 100 se), (a_L, .inr (2, [.ref a_pc, .ref a_tn, .int (iI n)])), (a_pc, aI E 25 pc), (a_tn, aI E 25 tn), (a_R, .inr (3, [.ref a_P, .ref a_L, .ref a_sh, .ref a_fi, .ref a_wa, .ref a_us, .ref a_ly, .ref a_jl, .int (iI 0), .int (iI fo), .int (iI sp), .int (iI fd), .int (iI tc)])), (a_sh, aI E 400 sh), (a_fi, aI E 400 fi), (a_wa, aI E 100 wa), (a_us, aZ E 25 us), (a_ly, aI E 25 ly), (a_jl, aI E 25 jl), (a_D, .inr (0, [.long now])), (a_ti, aI E 9 zz.1)]) (fun zz => [(9, .int (iI zz.2)), (8, .ref a_ti), (7, .int (iI n)), (6, .int (iI wf)), (5, .int (iI (nsd W h))), (4, .int (iI (W * h))), (3, .int (iI h)), (2, .int (iI W)), (1, .ref a_X), (0, .ref b)]) (fun zz => (0 ≤ zz.2 ∧ zz.2 ≤ n) ∧ ∀ x : Int, 0 ≤ x ∧ x < 9 → zz.1 x = cnI (fun j => pc j = x) zz.2) (fun zz => (n - zz.2).toNat) ((fun _ => 0), 0) (by
            try dsimp only
            exact ⟨by omega, fun x hx => rfl⟩) [0, 1, 9, 8, 7, 6, 5, 4, 3, 2] rfl rfl ?_
  rintro ⟨f, k⟩ hI ih285
  try dsimp only at hI ih285 ⊢
  obtain ⟨hk, hf⟩ := hI
  refine g_iload 287 C 0 dL_law_285 rfl rfl ?_
  refine g_iload 289 C 2 dL_law_287 rfl rfl ?_
  refine g_icmp_ge 312 292 C dL_law_289 (by decide) rfl (by omega) ?_ ?_
  · intro h289
    refine g_w (lv' := [(0, _), (1, _), (2, _), (3, _), (4, _), (5, _), (6, _), (7, _), (8, _)]) [9, 8, 7, 6, 5, 4, 3, 2, 1] rfl rfl ?_
    refine g_perm (ws' := [(_, .inr (5, [_, _, _, _, _, _, _])), (_, .inr (1, [_, _, _, _])), (_, aI _ _ _), (_, aI _ _ _), (_, .inr (2, [_, _, _])), (_, aI _ _ _), (_, aI _ _ _), (_, .inr (3, [_, _, _, _, _, _, _, _, _, _, _, _, _])), (_, aI _ _ _), (_, aI _ _ _), (_, aI _ _ _), (_, aZ _ _ _), (_, aI _ _ _), (_, aI _ _ _), (_, aI _ _ _)]) [0, 1, 2, 3, 4, 5, 6, 7, 8, 9, 10, 11, 12, 13, 15] rfl rfl ?_
    exact kk (fun x hx => by rw [hf x hx, show k = n by omega]; rfl)
  · intro h289
    have hpk := hpw k (by omega)
    refine g_aload 294 C 1 dL_law_292 rfl rfl ?_
    refine g_aload_n 295 C 8 dL_law_294 rfl rfl ?_
    refine g_iload 297 C 0 dL_law_295 rfl rfl ?_
    refine g_iconst 298 C dL_law_297 rfl ?_
    refine g_callVF 301 C [0, 4, 5, 6] dL_law_298 rfl (k_X5_heaped_0 E l  (by first | assumption | omega) (by first | assumption | omega)) (cwV 2 C.2.2.2.2.1 gL_law_X5_heaped rfl rfl rfl cdX5_heaped ⟨Nat.le_of_ble_eq_true rfl, Nat.le_of_ble_eq_true rfl⟩) rfl rfl rfl rfl (Nat.le_of_ble_eq_true rfl) 0 5 rfl rfl rfl ⟨Nat.le_of_ble_eq_true rfl, Nat.le_of_ble_eq_true rfl⟩ ?_
    refine g_dup2 302 C dL_law_301 rfl rfl rfl ?_
    refine g_iaload 303 C 15 dL_law_302 rfl rfl (by omega) ?_
    refine g_iconst 304 C dL_law_303 rfl ?_
    refine g_iadd 305 C dL_law_304 rfl ?_
    refine g_iastore (ws' := [(_, .inr (5, [_, _, _, _, _, _, _])), (_, .inr (1, [_, _, _, _])), (_, aI _ _ _), (_, aI _ _ _), (_, .inr (2, [_, _, _])), (_, aI _ _ _), (_, aI _ _ _), (_, .inr (3, [_, _, _, _, _, _, _, _, _, _, _, _, _])), (_, aI _ _ _), (_, aI _ _ _), (_, aI _ _ _), (_, aZ _ _ _), (_, aI _ _ _), (_, aI _ _ _), (_, .inr (0, [_])), (_, aI _ _ _)]) 306 C 15 dL_law_305 rfl rfl (by omega) rfl ?_
    refine g_iinc (lv' := [(9, _), (8, _), (7, _), (6, _), (5, _), (4, _), (3, _), (2, _), (1, _), (0, _)]) 309 C 0 dL_law_306 rfl rfl (by decide) rfl ?_
    refine g_goto 285 C dL_law_309 (by decide) ?_
    exact g_w [0, 1, 2, 3, 4, 5, 6, 7, 8, 9] rfl rfl (ih285 ((uI f (pc k) (f (pc k) + 1)), (k + 1)) (by
            try dsimp only
            exact ⟨by omega, fun x hx => by
              by_cases z : pc k = x
              · rw [← z, uI_eq, cnI_st (fun j => pc j = pc k) hk.1 rfl, hf (pc k) (by omega)]
              · rw [uI_ne (fun q => z q.symm), cnI_sf (fun j => pc j = x) hk.1 z, hf x hx]⟩) (by (try dsimp only); omega))
theorem cdX5_known : yX5_known.cls = RX5 ∧ yX5_known.cls ≠ "java/lang/invoke/MethodHandle" ∧ yX5_known.cls ≠ "java/lang/invoke/VarHandle" ∧ (parseMethodDescriptor yX5_known.desc).map (fun d => d.parameters.length) = some 1 := by decide +kernel
theorem cdX5_missed : yX5_missed.cls = RX5 ∧ yX5_missed.cls ≠ "java/lang/invoke/MethodHandle" ∧ yX5_missed.cls ≠ "java/lang/invoke/VarHandle" ∧ (parseMethodDescriptor yX5_missed.desc).map (fun d => d.parameters.length) = some 2 := by decide +kernel
set_option maxHeartbeats 4000000 in
set_option maxRecDepth 100000 in
theorem law_e {p : Program} {l : Launch} {e : Env} {s : State} {m : MethodId} {below : List Frame} {meth : Method} {c : Code} {b L : Nat} {xs : Nat → Int32} {E : gE} {a_D a_L a_P a_Q a_R a_X a_fi a_hs a_jl a_ly a_pc a_se a_sh a_ti a_tn a_us a_wa : Nat} {W h n wf fo sp fd tc tr ft : Int} {hs se pc tn sh fi wa us ly jl ti : Int → Int} {now : Int64} (D : lC p s m meth c b L xs E) (hw : 1 ≤ W ∧ W ≤ 3 ∧ 1 ≤ h ∧ h ≤ 3 ∧ (W = 3 → h ≤ 2)) (hn6 : 1 ≤ n ∧ n ≤ 6) (hpw : ∀ j : Int, 0 ≤ j ∧ j < n → (0 ≤ pc j ∧ pc j < W * h) ∧ 0 ≤ tn j ∧ tn j < 4) (hse : ∀ p e : Int, 0 ≤ p ∧ p < W * h → 0 ≤ e ∧ e < 4 → se (p * 4 + e) = sdI W h p e) (hti : ∀ x : Int, 0 ≤ x ∧ x < 9 → ti x = tmI n pc x) (kk : lJ p l e s m below meth c b 101 3009 E [(a_X, .inr (5, [.ref a_P, .ref a_L, .ref a_R, .ref a_D, .ref a_Q, .int (iI tr), .int (iI ft)])), (a_P, .inr (1, [.ref a_hs, .ref a_se, .int (iI W), .int (iI h)])), (a_hs, aI E 200 hs), (a_se, aI E 100 se), (a_L, .inr (2, [.ref a_pc, .ref a_tn, .int (iI n)])), (a_pc, aI E 25 pc), (a_tn, aI E 25 tn), (a_R, .inr (3, [.ref a_P, .ref a_L, .ref a_sh, .ref a_fi, .ref a_wa, .ref a_us, .ref a_ly, .ref a_jl, .int (iI 0), .int (iI fo), .int (iI sp), .int (iI fd), .int (iI tc)])), (a_sh, aI E 400 sh), (a_fi, aI E 400 fi), (a_wa, aI E 100 wa), (a_us, aZ E 25 us), (a_ly, aI E 25 ly), (a_jl, aI E 25 jl), (a_ti, aI E 9 ti)] [(0, .ref b), (1, .ref a_X), (2, .int (iI W)), (3, .int (iI h)), (4, .int (iI (W * h))), (5, .int (iI (nsd W h))), (6, .int (iI wf)), (7, .int (iI n)), (8, .ref a_ti), (9, .int (iI (cnI (msP n pc 0) (W * h)))), (10, .int (iI (cnI (msP n pc 1) (W * h))))] 541 []) : lJ p l e s m below meth c b 101 3009 E [(a_X, .inr (5, [.ref a_P, .ref a_L, .ref a_R, .ref a_D, .ref a_Q, .int (iI tr), .int (iI ft)])), (a_P, .inr (1, [.ref a_hs, .ref a_se, .int (iI W), .int (iI h)])), (a_hs, aI E 200 hs), (a_se, aI E 100 se), (a_L, .inr (2, [.ref a_pc, .ref a_tn, .int (iI n)])), (a_pc, aI E 25 pc), (a_tn, aI E 25 tn), (a_R, .inr (3, [.ref a_P, .ref a_L, .ref a_sh, .ref a_fi, .ref a_wa, .ref a_us, .ref a_ly, .ref a_jl, .int (iI 0), .int (iI fo), .int (iI sp), .int (iI fd), .int (iI tc)])), (a_sh, aI E 400 sh), (a_fi, aI E 400 fi), (a_wa, aI E 100 wa), (a_us, aZ E 25 us), (a_ly, aI E 25 ly), (a_jl, aI E 25 jl), (a_ti, aI E 9 ti)] [(0, .ref b), (1, .ref a_X), (2, .int (iI W)), (3, .int (iI h)), (4, .int (iI (W * h))), (5, .int (iI (nsd W h))), (6, .int (iI wf)), (7, .int (iI n)), (8, .ref a_ti)] 312 [] := by
  have C := D.1
  have hL0 := D.2.2.2.2
  have hB : 1 ≤ W ∧ W ≤ 5 ∧ 1 ≤ h ∧ h ≤ 5 := by omega
  have h6 := wh6 hw
  have hN := nsd_b hB
  have hn : 0 ≤ n ∧ n ≤ 25 := by omega
  have hpn : ∀ j : Int, 0 ≤ j ∧ j < n → 0 ≤ pc j ∧ pc j < 25 := fun j hj => by have q := hpw j hj; omega
  refine g_iconst 313 C dL_law_312 rfl ?_
  refine g_istore (lv' := [(9, _), (0, _), (1, _), (2, _), (3, _), (4, _), (5, _), (6, _), (7, _), (8, _)]) 315 C dL_law_313 rfl (by decide) rfl ?_
  refine g_iconst 316 C dL_law_315 rfl ?_
  refine g_istore (lv' := [(10, _), (9, _), (0, _), (1, _), (2, _), (3, _), (4, _), (5, _), (6, _), (7, _), (8, _)]) 318 C dL_law_316 rfl (by decide) rfl ?_
  refine g_iconst 319 C dL_law_318 rfl ?_
  refine g_istore (lv' := [(11, _), (10, _), (9, _), (0, _), (1, _), (2, _), (3, _), (4, _), (5, _), (6, _), (7, _), (8, _)]) 321 C dL_law_319 rfl (by decide) rfl ?_
  refine g_loop (α := Int × Int × Int) (fun zz => [(a_X, .inr (5, [.ref a_P, .ref a_L, .ref a_R, .ref a_D, .ref a_Q, .int (iI tr), .int (iI ft)])), (a_P, .inr (1, [.ref a_hs, .ref a_se, .int (iI W), .int (iI h)])), (a_hs, aI E 200 hs), (a_se, aI E 100 se), (a_L, .inr (2, [.ref a_pc, .ref a_tn, .int (iI n)])), (a_pc, aI E 25 pc), (a_tn, aI E 25 tn), (a_R, .inr (3, [.ref a_P, .ref a_L, .ref a_sh, .ref a_fi, .ref a_wa, .ref a_us, .ref a_ly, .ref a_jl, .int (iI 0), .int (iI fo), .int (iI sp), .int (iI fd), .int (iI tc)])), (a_sh, aI E 400 sh), (a_fi, aI E 400 fi), (a_wa, aI E 100 wa), (a_us, aZ E 25 us), (a_ly, aI E 25 ly), (a_jl, aI E 25 jl), (a_ti, aI E 9 ti)]) (fun zz => [(11, .int (iI zz.2.2)), (10, .int (iI zz.2.1)), (9, .int (iI zz.1)), (8, .ref a_ti), (7, .int (iI n)), (6, .int (iI wf)), (5, .int (iI (nsd W h))), (4, .int (iI (W * h))), (3, .int (iI h)), (2, .int (iI W)), (1, .ref a_X), (0, .ref b)]) (fun zz => (0 ≤ zz.2.2 ∧ zz.2.2 ≤ W * h) ∧ zz.1 = cnI (msP n pc 0) zz.2.2 ∧ zz.2.1 = cnI (msP n pc 1) zz.2.2) (fun zz => (W * h - zz.2.2).toNat) (0, 0, 0) (by
            try dsimp only
            exact ⟨by omega, rfl, rfl⟩) [0, 1, 2, 11, 10, 9, 8, 7, 6, 5, 4, 3] rfl rfl ?_
  rintro ⟨lo, tw, pp⟩ hI ih321
  try dsimp only at hI ih321 ⊢
  obtain ⟨hp, rfl, rfl⟩ := hI
  refine g_iload 323 C 0 dL_law_321 rfl rfl ?_
  refine g_iload 325 C 7 dL_law_323 rfl rfl ?_
  refine g_icmp_ge 541 328 C dL_law_325 (by decide) rfl (by omega) ?_ ?_
  · intro h325
    obtain rfl : pp = W * h := by omega
    refine g_w (lv' := [(0, _), (1, _), (2, _), (3, _), (4, _), (5, _), (6, _), (7, _), (8, _), (9, _), (10, _)]) [11, 10, 9, 8, 7, 6, 5, 4, 3, 2, 1] rfl rfl ?_
    exact kk
  · intro h325
    refine g_iconst 329 C dL_law_328 rfl ?_
    refine g_istore (lv' := [(12, _), (11, _), (10, _), (9, _), (8, _), (7, _), (6, _), (5, _), (4, _), (3, _), (2, _), (1, _), (0, _)]) 331 C dL_law_329 rfl (by decide) rfl ?_
    refine g_iconst 332 C dL_law_331 rfl ?_
    refine g_istore (lv' := [(13, _), (12, _), (11, _), (10, _), (9, _), (8, _), (7, _), (6, _), (5, _), (4, _), (3, _), (2, _), (1, _), (0, _)]) 334 C dL_law_332 rfl (by decide) rfl ?_
    refine g_loop (α := Int × Int) (fun zz => [(a_X, .inr (5, [.ref a_P, .ref a_L, .ref a_R, .ref a_D, .ref a_Q, .int (iI tr), .int (iI ft)])), (a_P, .inr (1, [.ref a_hs, .ref a_se, .int (iI W), .int (iI h)])), (a_hs, aI E 200 hs), (a_se, aI E 100 se), (a_L, .inr (2, [.ref a_pc, .ref a_tn, .int (iI n)])), (a_pc, aI E 25 pc), (a_tn, aI E 25 tn), (a_R, .inr (3, [.ref a_P, .ref a_L, .ref a_sh, .ref a_fi, .ref a_wa, .ref a_us, .ref a_ly, .ref a_jl, .int (iI 0), .int (iI fo), .int (iI sp), .int (iI fd), .int (iI tc)])), (a_sh, aI E 400 sh), (a_fi, aI E 400 fi), (a_wa, aI E 100 wa), (a_us, aZ E 25 us), (a_ly, aI E 25 ly), (a_jl, aI E 25 jl), (a_ti, aI E 9 ti)]) (fun zz => [(13, .int (iI zz.2)), (12, .int (iI zz.1)), (11, .int (iI pp)), (10, .int (iI (cnI (msP n pc 1) pp))), (9, .int (iI (cnI (msP n pc 0) pp))), (8, .ref a_ti), (7, .int (iI n)), (6, .int (iI wf)), (5, .int (iI (nsd W h))), (4, .int (iI (W * h))), (3, .int (iI h)), (2, .int (iI W)), (1, .ref a_X), (0, .ref b)]) (fun zz => (0 ≤ zz.2 ∧ zz.2 ≤ 4) ∧ zz.1 = knI W h n pc pp zz.2) (fun zz => (4 - zz.2).toNat) (0, 0) (by
            try dsimp only
            exact ⟨by omega, rfl⟩) [0, 1, 2, 3, 4, 5, 6, 7, 8, 9, 10, 11, 12, 13] rfl rfl ?_
    rintro ⟨kn, ee⟩ hI ih334
    try dsimp only at hI ih334 ⊢
    obtain ⟨he, rfl⟩ := hI
    refine g_iload 336 C 0 dL_law_334 rfl rfl ?_
    refine g_iconst 337 C dL_law_336 rfl ?_
    refine g_icmp_ge 431 340 C dL_law_337 (by decide) rfl (by omega) ?_ ?_
    · intro h337
      have hl0 := cnI_b (msP n pc 0) hp.1
      have hl1 := cnI_b (msP n pc 1) hp.1
      have hfp := hti pp (by omega)
      have htb := cnI_b (fun j => pc j = pp) (i := n) (by omega)
      have htd : tmI n pc pp = cnI (fun j => pc j = pp) n := rfl
      refine g_aload_n 432 C 12 dL_law_431 rfl rfl ?_
      refine g_iload 434 C 2 dL_law_432 rfl rfl ?_
      refine g_callVF 437 C [0, 1, 3, 4, 5] dL_law_434 rfl (k_X5_known_v E l  (by first | assumption | omega) (by first | assumption | omega) (by first | assumption | omega) (by first | assumption | omega) (by first | assumption | omega)) (cwV 1 C.2.2.2.2.1 gL_law_X5_known rfl rfl rfl cdX5_known ⟨Nat.le_of_ble_eq_true rfl, Nat.le_of_ble_eq_true rfl⟩) rfl rfl rfl rfl (Nat.le_of_ble_eq_true rfl) 0 5 rfl rfl rfl ⟨Nat.le_of_ble_eq_true rfl, Nat.le_of_ble_eq_true rfl⟩ ?_
      refine g_aload 439 C 5 dL_law_437 rfl rfl ?_
      refine g_iload 441 C 2 dL_law_439 rfl rfl ?_
      refine g_iaload 442 C 14 dL_law_441 rfl rfl (by omega) ?_
      refine g_if_ne 450 445 C dL_law_442 (by decide) rfl (by omega) ?_ ?_
      · intro h442
        refine g_bipush 452 C dL_law_450 rfl (by decide) ?_
        refine g_cmpN 455 C 496 dL_law_452 (by decide) rfl (congrArg iI (by first | exact (if_pos (by omega)).trans (by rw [show (4 : Int) = ee by omega]) | exact if_neg (by omega))) ?_
        refine g_aload 457 C 5 dL_law_455 rfl rfl ?_
        refine g_iload 459 C 2 dL_law_457 rfl rfl ?_
        refine g_iaload 460 C 14 dL_law_459 rfl rfl (by omega) ?_
        refine g_if_ne 475 463 C dL_law_460 (by decide) rfl (by omega) ?_ (fun h460 => absurd h460 (by omega))
        intro h460
        refine g_aload 477 C 5 dL_law_475 rfl rfl ?_
        refine g_iload 479 C 2 dL_law_477 rfl rfl ?_
        refine g_iaload 480 C 14 dL_law_479 rfl rfl (by omega) ?_
        refine g_iconst 481 C dL_law_480 rfl ?_
        refine g_icmp_le 498 484 C dL_law_481 (by decide) rfl (by omega) ?_ ?_
        · intro h481
          refine g_iload 500 C 4 dL_law_498 rfl rfl ?_
          refine g_aload 502 C 5 dL_law_500 rfl rfl ?_
          refine g_iload 504 C 2 dL_law_502 rfl rfl ?_
          refine g_iaload 505 C 14 dL_law_504 rfl rfl (by omega) ?_
          refine g_if_ne 512 508 C dL_law_505 (by decide) rfl (by omega) ?_ (fun h505 => absurd h505 (by omega))
          intro h505
          refine g_iconst 513 C dL_law_512 rfl ?_
          refine g_iadd 514 C dL_law_513 rfl ?_
          refine g_istore (lv' := [(9, _), (13, _), (12, _), (11, _), (10, _), (8, _), (7, _), (6, _), (5, _), (4, _), (3, _), (2, _), (1, _), (0, _)]) 516 C dL_law_514 rfl (by decide) rfl ?_
          refine g_iload 518 C 4 dL_law_516 rfl rfl ?_
          refine g_aload 520 C 5 dL_law_518 rfl rfl ?_
          refine g_iload 522 C 3 dL_law_520 rfl rfl ?_
          refine g_iaload 523 C 14 dL_law_522 rfl rfl (by omega) ?_
          refine g_iconst 524 C dL_law_523 rfl ?_
          refine g_icmp_le 531 527 C dL_law_524 (by decide) rfl (by omega) ?_ (fun h524 => absurd h524 (by omega))
          intro h524
          refine g_iconst 532 C dL_law_531 rfl ?_
          refine g_iadd 533 C dL_law_532 rfl ?_
          refine g_istore (lv' := [(10, _), (9, _), (13, _), (12, _), (11, _), (8, _), (7, _), (6, _), (5, _), (4, _), (3, _), (2, _), (1, _), (0, _)]) 535 C dL_law_533 rfl (by decide) rfl ?_
          refine g_iinc (lv' := [(11, _), (10, _), (9, _), (13, _), (12, _), (8, _), (7, _), (6, _), (5, _), (4, _), (3, _), (2, _), (1, _), (0, _)]) 538 C 4 dL_law_535 rfl rfl (by decide) rfl ?_
          refine g_goto 321 C dL_law_538 (by decide) ?_
          exact g_w [0, 1, 2, 5, 6, 7, 8, 9, 10, 11, 12, 13] rfl rfl (ih321 ((cnI (msP n pc 0) pp + 0), (cnI (msP n pc 1) pp + 0), (pp + 1)) (by
            try dsimp only
            exact ⟨by omega, (Int.add_zero _).trans (cnI_sf _ hp.1 (by unfold msP; omega)).symm, (Int.add_zero _).trans (cnI_sf _ hp.1 (by unfold msP; omega)).symm⟩) (by (try dsimp only); omega))
        · intro h481
          refine g_aload_n 485 C 12 dL_law_484 rfl rfl ?_
          refine g_iconst 486 C dL_law_485 rfl ?_
          refine g_iload 488 C 3 dL_law_486 rfl rfl ?_
          refine g_callV 491 C [0, 1, 4, 5] dL_law_488 rfl (k_X5_missed E l  (by first | assumption | omega) (by first | assumption | omega) (by first | assumption | omega) (by first | assumption | omega) (by first | assumption | omega)) (cwV 2 C.2.2.2.2.1 gL_law_X5_missed rfl rfl rfl cdX5_missed ⟨Nat.le_of_ble_eq_true rfl, Nat.le_of_ble_eq_true rfl⟩) rfl rfl rfl rfl (Nat.le_of_ble_eq_true rfl) 0 5 rfl rfl rfl ⟨Nat.le_of_ble_eq_true rfl, Nat.le_of_ble_eq_true rfl⟩ (fun v w q => by obtain ⟨_, -, rfl⟩ := q; rfl) ?_
          rintro _ _ ⟨r488, ⟨rfl, hr488⟩, rfl⟩
          have e488 := mdP_u (md_of (cnI_b (msP n pc 1) (by omega)).1 (by omega) hr488) (Or.inr ⟨⟨hp.1, by omega⟩, Or.inr ⟨by decide, by omega⟩, rfl⟩)
          refine g_w (ws' := [(_, .inr (5, [_, _, _, _, _, _, _])), (_, .inr (1, [_, _, _, _])), (_, aI _ _ _), (_, aI _ _ _), (_, .inr (2, [_, _, _])), (_, aI _ _ _), (_, aI _ _ _), (_, .inr (3, [_, _, _, _, _, _, _, _, _, _, _, _, _])), (_, aI _ _ _), (_, aI _ _ _), (_, aI _ _ _), (_, aZ _ _ _), (_, aI _ _ _), (_, aI _ _ _), (_, aI _ _ _)]) [0, 1, 2, 3, 4, 5, 6, 7, 8, 9, 10, 11, 12, 13] rfl rfl ?_
          refine g_iload 493 C 2 dL_law_491 rfl rfl ?_
          refine g_cmpE 498 C dL_law_493 (by decide) (congrArg iI e488) ?_
          refine g_iload 500 C 4 dL_law_498 rfl rfl ?_
          refine g_aload 502 C 5 dL_law_500 rfl rfl ?_
          refine g_iload 504 C 2 dL_law_502 rfl rfl ?_
          refine g_iaload 505 C 14 dL_law_504 rfl rfl (by omega) ?_
          refine g_if_ne 512 508 C dL_law_505 (by decide) rfl (by omega) ?_ (fun h505 => absurd h505 (by omega))
          intro h505
          refine g_iconst 513 C dL_law_512 rfl ?_
          refine g_iadd 514 C dL_law_513 rfl ?_
          refine g_istore (lv' := [(9, _), (13, _), (12, _), (11, _), (10, _), (8, _), (7, _), (6, _), (5, _), (4, _), (3, _), (2, _), (1, _), (0, _)]) 516 C dL_law_514 rfl (by decide) rfl ?_
          refine g_iload 518 C 4 dL_law_516 rfl rfl ?_
          refine g_aload 520 C 5 dL_law_518 rfl rfl ?_
          refine g_iload 522 C 3 dL_law_520 rfl rfl ?_
          refine g_iaload 523 C 14 dL_law_522 rfl rfl (by omega) ?_
          refine g_iconst 524 C dL_law_523 rfl ?_
          refine g_icmp_le 531 527 C dL_law_524 (by decide) rfl (by omega) (fun h524 => absurd h524 (by omega)) ?_
          intro h524
          refine g_iconst 528 C dL_law_527 rfl ?_
          refine g_goto 532 C dL_law_528 (by decide) ?_
          refine g_iadd 533 C dL_law_532 rfl ?_
          refine g_istore (lv' := [(10, _), (9, _), (13, _), (12, _), (11, _), (8, _), (7, _), (6, _), (5, _), (4, _), (3, _), (2, _), (1, _), (0, _)]) 535 C dL_law_533 rfl (by decide) rfl ?_
          refine g_iinc (lv' := [(11, _), (10, _), (9, _), (13, _), (12, _), (8, _), (7, _), (6, _), (5, _), (4, _), (3, _), (2, _), (1, _), (0, _)]) 538 C 4 dL_law_535 rfl rfl (by decide) rfl ?_
          refine g_goto 321 C dL_law_538 (by decide) ?_
          exact g_w [0, 1, 2, 5, 6, 7, 8, 9, 10, 11, 12, 13] rfl rfl (ih321 ((cnI (msP n pc 0) pp + 0), (cnI (msP n pc 1) pp + 1), (pp + 1)) (by
            try dsimp only
            exact ⟨by omega, (Int.add_zero _).trans (cnI_sf _ hp.1 (by unfold msP; omega)).symm, (cnI_st _ hp.1 (Or.inr ⟨by decide, by omega⟩)).symm⟩) (by (try dsimp only); omega))
      · intro h442
        refine g_iload 447 C 1 dL_law_445 rfl rfl ?_
        refine g_goto 452 C dL_law_447 (by decide) ?_
        refine g_cmpN 455 C 496 dL_law_452 (by decide) rfl (congrArg iI (by first | exact (if_pos (by omega)).trans (by rw [show (4 : Int) = ee by omega]) | exact if_neg (by omega))) ?_
        refine g_aload 457 C 5 dL_law_455 rfl rfl ?_
        refine g_iload 459 C 2 dL_law_457 rfl rfl ?_
        refine g_iaload 460 C 14 dL_law_459 rfl rfl (by omega) ?_
        refine g_if_ne 475 463 C dL_law_460 (by decide) rfl (by omega) (fun h460 => absurd h460 (by omega)) ?_
        intro h460
        refine g_aload_n 464 C 12 dL_law_463 rfl rfl ?_
        refine g_iconst 465 C dL_law_464 rfl ?_
        refine g_iload 467 C 4 dL_law_465 rfl rfl ?_
        refine g_callV 470 C [0, 1, 4, 5] dL_law_467 rfl (k_X5_missed E l  (by first | assumption | omega) (by first | assumption | omega) (by first | assumption | omega) (by first | assumption | omega) (by first | assumption | omega)) (cwV 2 C.2.2.2.2.1 gL_law_X5_missed rfl rfl rfl cdX5_missed ⟨Nat.le_of_ble_eq_true rfl, Nat.le_of_ble_eq_true rfl⟩) rfl rfl rfl rfl (Nat.le_of_ble_eq_true rfl) 0 5 rfl rfl rfl ⟨Nat.le_of_ble_eq_true rfl, Nat.le_of_ble_eq_true rfl⟩ (fun v w q => by obtain ⟨_, -, rfl⟩ := q; rfl) ?_
        rintro _ _ ⟨r467, ⟨rfl, hr467⟩, rfl⟩
        have e467 := mdP_u (md_of (cnI_b (msP n pc 0) (by omega)).1 (by omega) hr467) (Or.inr ⟨⟨hp.1, by omega⟩, Or.inl ⟨rfl, by omega⟩, rfl⟩)
        refine g_w (ws' := [(_, .inr (5, [_, _, _, _, _, _, _])), (_, .inr (1, [_, _, _, _])), (_, aI _ _ _), (_, aI _ _ _), (_, .inr (2, [_, _, _])), (_, aI _ _ _), (_, aI _ _ _), (_, .inr (3, [_, _, _, _, _, _, _, _, _, _, _, _, _])), (_, aI _ _ _), (_, aI _ _ _), (_, aI _ _ _), (_, aZ _ _ _), (_, aI _ _ _), (_, aI _ _ _), (_, aI _ _ _)]) [0, 1, 2, 3, 4, 5, 6, 7, 8, 9, 10, 11, 12, 13] rfl rfl ?_
        refine g_iload 472 C 2 dL_law_470 rfl rfl ?_
        refine g_cmpN 475 C 496 dL_law_472 (by decide) rfl (congrArg iI e467) ?_
        refine g_aload 477 C 5 dL_law_475 rfl rfl ?_
        refine g_iload 479 C 2 dL_law_477 rfl rfl ?_
        refine g_iaload 480 C 14 dL_law_479 rfl rfl (by omega) ?_
        refine g_iconst 481 C dL_law_480 rfl ?_
        refine g_icmp_le 498 484 C dL_law_481 (by decide) rfl (by omega) ?_ (fun h481 => absurd h481 (by omega))
        intro h481
        refine g_iload 500 C 4 dL_law_498 rfl rfl ?_
        refine g_aload 502 C 5 dL_law_500 rfl rfl ?_
        refine g_iload 504 C 2 dL_law_502 rfl rfl ?_
        refine g_iaload 505 C 14 dL_law_504 rfl rfl (by omega) ?_
        refine g_if_ne 512 508 C dL_law_505 (by decide) rfl (by omega) (fun h505 => absurd h505 (by omega)) ?_
        intro h505
        refine g_iconst 509 C dL_law_508 rfl ?_
        refine g_goto 513 C dL_law_509 (by decide) ?_
        refine g_iadd 514 C dL_law_513 rfl ?_
        refine g_istore (lv' := [(9, _), (13, _), (12, _), (11, _), (10, _), (8, _), (7, _), (6, _), (5, _), (4, _), (3, _), (2, _), (1, _), (0, _)]) 516 C dL_law_514 rfl (by decide) rfl ?_
        refine g_iload 518 C 4 dL_law_516 rfl rfl ?_
        refine g_aload 520 C 5 dL_law_518 rfl rfl ?_
        refine g_iload 522 C 3 dL_law_520 rfl rfl ?_
        refine g_iaload 523 C 14 dL_law_522 rfl rfl (by omega) ?_
        refine g_iconst 524 C dL_law_523 rfl ?_
        refine g_icmp_le 531 527 C dL_law_524 (by decide) rfl (by omega) ?_ (fun h524 => absurd h524 (by omega))
        intro h524
        refine g_iconst 532 C dL_law_531 rfl ?_
        refine g_iadd 533 C dL_law_532 rfl ?_
        refine g_istore (lv' := [(10, _), (9, _), (13, _), (12, _), (11, _), (8, _), (7, _), (6, _), (5, _), (4, _), (3, _), (2, _), (1, _), (0, _)]) 535 C dL_law_533 rfl (by decide) rfl ?_
        refine g_iinc (lv' := [(11, _), (10, _), (9, _), (13, _), (12, _), (8, _), (7, _), (6, _), (5, _), (4, _), (3, _), (2, _), (1, _), (0, _)]) 538 C 4 dL_law_535 rfl rfl (by decide) rfl ?_
        refine g_goto 321 C dL_law_538 (by decide) ?_
        exact g_w [0, 1, 2, 5, 6, 7, 8, 9, 10, 11, 12, 13] rfl rfl (ih321 ((cnI (msP n pc 0) pp + 1), (cnI (msP n pc 1) pp + 0), (pp + 1)) (by
            try dsimp only
            exact ⟨by omega, (cnI_st _ hp.1 (Or.inl ⟨rfl, by omega⟩)).symm, (Int.add_zero _).trans (cnI_sf _ hp.1 (by unfold msP; omega)).symm⟩) (by (try dsimp only); omega))
    · intro h337
      refine g_aload_n 341 C 12 dL_law_340 rfl rfl ?_
      refine g_iload 343 C 2 dL_law_341 rfl rfl ?_
      refine g_iload 345 C 0 dL_law_343 rfl rfl ?_
      refine g_callVF 348 C [0, 1, 3] dL_law_345 rfl (k_X5_sideOf_v E l  (by first | assumption | omega) (by first | assumption | omega) (by first | assumption | omega) (by first | assumption | omega)) (cwV 2 C.2.2.2.2.1 gL_law_X5_sideOf rfl rfl rfl cdX5_sideOf ⟨Nat.le_of_ble_eq_true rfl, Nat.le_of_ble_eq_true rfl⟩) rfl rfl rfl rfl (Nat.le_of_ble_eq_true rfl) 0 5 rfl rfl rfl ⟨Nat.le_of_ble_eq_true rfl, Nat.le_of_ble_eq_true rfl⟩ ?_
      have hb := sdI_b (p := pp) (e := ee) hB (by omega) (by omega)
      refine g_if_ge 356 351 C dL_law_348 (by decide) rfl (by omega) ?_ ?_
      · intro h348
        refine g_iload 358 C 0 dL_law_356 rfl rfl ?_
        refine g_if_ne 368 361 C dL_law_358 (by decide) rfl (by omega) ?_ ?_
        · intro h358
          refine g_iload 370 C 0 dL_law_368 rfl rfl ?_
          refine g_iconst 371 C dL_law_370 rfl ?_
          refine g_icmp_ne 381 374 C dL_law_371 (by decide) rfl (by omega) ?_ ?_
          · intro h371
            refine g_iload 383 C 0 dL_law_381 rfl rfl ?_
            refine g_iconst 384 C dL_law_383 rfl ?_
            refine g_icmp_ne 394 387 C dL_law_384 (by decide) rfl (by omega) ?_ ?_
            · intro h384
              have hx : nxI W pp ee = pp - 1 := by unfold nxI; rw [if_neg (by omega), if_neg (by omega), if_neg (by omega)]
              have hq := nx_in hB (show 0 ≤ pp ∧ pp < W * h by omega) (show 0 ≤ ee ∧ ee < 4 by omega) (by omega)
              have hf2 : ti (pp - 1) = tmI n pc (nxI W pp ee) := by rw [hx]; exact hti _ (by omega)
              have htq := cnI_b (fun j => pc j = nxI W pp ee) (i := n) (by omega)
              have htr : tmI n pc (nxI W pp ee) = cnI (fun j => pc j = nxI W pp ee) n := rfl
              refine g_iload 396 C 2 dL_law_394 rfl rfl ?_
              refine g_iconst 397 C dL_law_396 rfl ?_
              refine g_isub 398 C dL_law_397 rfl ?_
              refine g_istore (lv' := [(14, _), (13, _), (12, _), (11, _), (10, _), (9, _), (8, _), (7, _), (6, _), (5, _), (4, _), (3, _), (2, _), (1, _), (0, _)]) 400 C dL_law_398 rfl (by decide) rfl ?_
              refine g_iload 402 C 2 dL_law_400 rfl rfl ?_
              refine g_iload 404 C 0 dL_law_402 rfl rfl ?_
              refine g_iload 406 C 3 dL_law_404 rfl rfl ?_
              refine g_icmp_eq 421 409 C dL_law_406 (by decide) rfl (by omega) (fun h406 => absurd h406 (by omega)) ?_
              intro h406
              refine g_aload 411 C 6 dL_law_409 rfl rfl ?_
              refine g_iload 413 C 0 dL_law_411 rfl rfl ?_
              refine g_iaload 414 C 14 dL_law_413 rfl rfl (by omega) ?_
              refine g_if_le 421 417 C dL_law_414 (by decide) rfl (by omega) ?_ ?_
              · intro h414
                refine g_iconst 422 C dL_law_421 rfl ?_
                refine g_iadd 423 C dL_law_422 rfl ?_
                refine g_istore (lv' := [(12, _), (14, _), (13, _), (11, _), (10, _), (9, _), (8, _), (7, _), (6, _), (5, _), (4, _), (3, _), (2, _), (1, _), (0, _)]) 425 C dL_law_423 rfl (by decide) rfl ?_
                refine g_iinc (lv' := [(13, _), (12, _), (14, _), (11, _), (10, _), (9, _), (8, _), (7, _), (6, _), (5, _), (4, _), (3, _), (2, _), (1, _), (0, _)]) 428 C 2 dL_law_425 rfl rfl (by decide) rfl ?_
                refine g_goto 334 C dL_law_428 (by decide) ?_
                first
                | exact g_w [0, 1, 3, 4, 5, 6, 7, 8, 9, 10, 11, 12, 13, 14] rfl rfl (ih334 ((knI W h n pc pp ee + 5), (ee + 1)) (by
            try dsimp only
            exact ⟨by omega, by first | (rw [knI_s W h n pc pp he.1, cI_t ⟨by omega, by omega⟩]; done) | (rw [knI_s W h n pc pp he.1, cI_f (fun z => by omega)]; done)⟩) (by (try dsimp only); omega))
                | exact g_w [0, 1, 3, 4, 5, 6, 7, 8, 9, 10, 11, 12, 13, 14] rfl rfl (ih334 ((knI W h n pc pp ee + 0), (ee + 1)) (by
            try dsimp only
            exact ⟨by omega, by first | (rw [knI_s W h n pc pp he.1, cI_t ⟨by omega, by omega⟩]; done) | (rw [knI_s W h n pc pp he.1, cI_f (fun z => by omega)]; done)⟩) (by (try dsimp only); omega))
              · intro h414
                refine g_iconst 418 C dL_law_417 rfl ?_
                refine g_goto 422 C dL_law_418 (by decide) ?_
                refine g_iadd 423 C dL_law_422 rfl ?_
                refine g_istore (lv' := [(12, _), (14, _), (13, _), (11, _), (10, _), (9, _), (8, _), (7, _), (6, _), (5, _), (4, _), (3, _), (2, _), (1, _), (0, _)]) 425 C dL_law_423 rfl (by decide) rfl ?_
                refine g_iinc (lv' := [(13, _), (12, _), (14, _), (11, _), (10, _), (9, _), (8, _), (7, _), (6, _), (5, _), (4, _), (3, _), (2, _), (1, _), (0, _)]) 428 C 2 dL_law_425 rfl rfl (by decide) rfl ?_
                refine g_goto 334 C dL_law_428 (by decide) ?_
                first
                | exact g_w [0, 1, 3, 4, 5, 6, 7, 8, 9, 10, 11, 12, 13, 14] rfl rfl (ih334 ((knI W h n pc pp ee + 5), (ee + 1)) (by
            try dsimp only
            exact ⟨by omega, by first | (rw [knI_s W h n pc pp he.1, cI_t ⟨by omega, by omega⟩]; done) | (rw [knI_s W h n pc pp he.1, cI_f (fun z => by omega)]; done)⟩) (by (try dsimp only); omega))
                | exact g_w [0, 1, 3, 4, 5, 6, 7, 8, 9, 10, 11, 12, 13, 14] rfl rfl (ih334 ((knI W h n pc pp ee + 0), (ee + 1)) (by
            try dsimp only
            exact ⟨by omega, by first | (rw [knI_s W h n pc pp he.1, cI_t ⟨by omega, by omega⟩]; done) | (rw [knI_s W h n pc pp he.1, cI_f (fun z => by omega)]; done)⟩) (by (try dsimp only); omega))
            · intro h384
              have hx : nxI W pp ee = pp + W := by unfold nxI; rw [if_neg (by omega), if_neg (by omega), if_pos (by omega)]
              have hq := nx_in hB (show 0 ≤ pp ∧ pp < W * h by omega) (show 0 ≤ ee ∧ ee < 4 by omega) (by omega)
              have hf2 : ti (pp + W) = tmI n pc (nxI W pp ee) := by rw [hx]; exact hti _ (by omega)
              have htq := cnI_b (fun j => pc j = nxI W pp ee) (i := n) (by omega)
              have htr : tmI n pc (nxI W pp ee) = cnI (fun j => pc j = nxI W pp ee) n := rfl
              refine g_iload 389 C 2 dL_law_387 rfl rfl ?_
              refine g_iload_n 390 C 11 dL_law_389 rfl rfl ?_
              refine g_iadd 391 C dL_law_390 rfl ?_
              refine g_goto 398 C dL_law_391 (by decide) ?_
              refine g_istore (lv' := [(14, _), (13, _), (12, _), (11, _), (10, _), (9, _), (8, _), (7, _), (6, _), (5, _), (4, _), (3, _), (2, _), (1, _), (0, _)]) 400 C dL_law_398 rfl (by decide) rfl ?_
              refine g_iload 402 C 2 dL_law_400 rfl rfl ?_
              refine g_iload 404 C 0 dL_law_402 rfl rfl ?_
              refine g_iload 406 C 3 dL_law_404 rfl rfl ?_
              refine g_icmp_eq 421 409 C dL_law_406 (by decide) rfl (by omega) (fun h406 => absurd h406 (by omega)) ?_
              intro h406
              refine g_aload 411 C 6 dL_law_409 rfl rfl ?_
              refine g_iload 413 C 0 dL_law_411 rfl rfl ?_
              refine g_iaload 414 C 14 dL_law_413 rfl rfl (by omega) ?_
              refine g_if_le 421 417 C dL_law_414 (by decide) rfl (by omega) ?_ ?_
              · intro h414
                refine g_iconst 422 C dL_law_421 rfl ?_
                refine g_iadd 423 C dL_law_422 rfl ?_
                refine g_istore (lv' := [(12, _), (14, _), (13, _), (11, _), (10, _), (9, _), (8, _), (7, _), (6, _), (5, _), (4, _), (3, _), (2, _), (1, _), (0, _)]) 425 C dL_law_423 rfl (by decide) rfl ?_
                refine g_iinc (lv' := [(13, _), (12, _), (14, _), (11, _), (10, _), (9, _), (8, _), (7, _), (6, _), (5, _), (4, _), (3, _), (2, _), (1, _), (0, _)]) 428 C 2 dL_law_425 rfl rfl (by decide) rfl ?_
                refine g_goto 334 C dL_law_428 (by decide) ?_
                first
                | exact g_w [0, 1, 3, 4, 5, 6, 7, 8, 9, 10, 11, 12, 13, 14] rfl rfl (ih334 ((knI W h n pc pp ee + 5), (ee + 1)) (by
            try dsimp only
            exact ⟨by omega, by first | (rw [knI_s W h n pc pp he.1, cI_t ⟨by omega, by omega⟩]; done) | (rw [knI_s W h n pc pp he.1, cI_f (fun z => by omega)]; done)⟩) (by (try dsimp only); omega))
                | exact g_w [0, 1, 3, 4, 5, 6, 7, 8, 9, 10, 11, 12, 13, 14] rfl rfl (ih334 ((knI W h n pc pp ee + 0), (ee + 1)) (by
            try dsimp only
            exact ⟨by omega, by first | (rw [knI_s W h n pc pp he.1, cI_t ⟨by omega, by omega⟩]; done) | (rw [knI_s W h n pc pp he.1, cI_f (fun z => by omega)]; done)⟩) (by (try dsimp only); omega))
              · intro h414
                refine g_iconst 418 C dL_law_417 rfl ?_
                refine g_goto 422 C dL_law_418 (by decide) ?_
                refine g_iadd 423 C dL_law_422 rfl ?_
                refine g_istore (lv' := [(12, _), (14, _), (13, _), (11, _), (10, _), (9, _), (8, _), (7, _), (6, _), (5, _), (4, _), (3, _), (2, _), (1, _), (0, _)]) 425 C dL_law_423 rfl (by decide) rfl ?_
                refine g_iinc (lv' := [(13, _), (12, _), (14, _), (11, _), (10, _), (9, _), (8, _), (7, _), (6, _), (5, _), (4, _), (3, _), (2, _), (1, _), (0, _)]) 428 C 2 dL_law_425 rfl rfl (by decide) rfl ?_
                refine g_goto 334 C dL_law_428 (by decide) ?_
                first
                | exact g_w [0, 1, 3, 4, 5, 6, 7, 8, 9, 10, 11, 12, 13, 14] rfl rfl (ih334 ((knI W h n pc pp ee + 5), (ee + 1)) (by
            try dsimp only
            exact ⟨by omega, by first | (rw [knI_s W h n pc pp he.1, cI_t ⟨by omega, by omega⟩]; done) | (rw [knI_s W h n pc pp he.1, cI_f (fun z => by omega)]; done)⟩) (by (try dsimp only); omega))
                | exact g_w [0, 1, 3, 4, 5, 6, 7, 8, 9, 10, 11, 12, 13, 14] rfl rfl (ih334 ((knI W h n pc pp ee + 0), (ee + 1)) (by
            try dsimp only
            exact ⟨by omega, by first | (rw [knI_s W h n pc pp he.1, cI_t ⟨by omega, by omega⟩]; done) | (rw [knI_s W h n pc pp he.1, cI_f (fun z => by omega)]; done)⟩) (by (try dsimp only); omega))
          · intro h371
            have hx : nxI W pp ee = pp + 1 := by unfold nxI; rw [if_neg (by omega), if_pos (by omega)]
            have hq := nx_in hB (show 0 ≤ pp ∧ pp < W * h by omega) (show 0 ≤ ee ∧ ee < 4 by omega) (by omega)
            have hf2 : ti (pp + 1) = tmI n pc (nxI W pp ee) := by rw [hx]; exact hti _ (by omega)
            have htq := cnI_b (fun j => pc j = nxI W pp ee) (i := n) (by omega)
            have htr : tmI n pc (nxI W pp ee) = cnI (fun j => pc j = nxI W pp ee) n := rfl
            refine g_iload 376 C 2 dL_law_374 rfl rfl ?_
            refine g_iconst 377 C dL_law_376 rfl ?_
            refine g_iadd 378 C dL_law_377 rfl ?_
            refine g_goto 398 C dL_law_378 (by decide) ?_
            refine g_istore (lv' := [(14, _), (13, _), (12, _), (11, _), (10, _), (9, _), (8, _), (7, _), (6, _), (5, _), (4, _), (3, _), (2, _), (1, _), (0, _)]) 400 C dL_law_398 rfl (by decide) rfl ?_
            refine g_iload 402 C 2 dL_law_400 rfl rfl ?_
            refine g_iload 404 C 0 dL_law_402 rfl rfl ?_
            refine g_iload 406 C 3 dL_law_404 rfl rfl ?_
            refine g_icmp_eq 421 409 C dL_law_406 (by decide) rfl (by omega) (fun h406 => absurd h406 (by omega)) ?_
            intro h406
            refine g_aload 411 C 6 dL_law_409 rfl rfl ?_
            refine g_iload 413 C 0 dL_law_411 rfl rfl ?_
            refine g_iaload 414 C 14 dL_law_413 rfl rfl (by omega) ?_
            refine g_if_le 421 417 C dL_law_414 (by decide) rfl (by omega) ?_ ?_
            · intro h414
              refine g_iconst 422 C dL_law_421 rfl ?_
              refine g_iadd 423 C dL_law_422 rfl ?_
              refine g_istore (lv' := [(12, _), (14, _), (13, _), (11, _), (10, _), (9, _), (8, _), (7, _), (6, _), (5, _), (4, _), (3, _), (2, _), (1, _), (0, _)]) 425 C dL_law_423 rfl (by decide) rfl ?_
              refine g_iinc (lv' := [(13, _), (12, _), (14, _), (11, _), (10, _), (9, _), (8, _), (7, _), (6, _), (5, _), (4, _), (3, _), (2, _), (1, _), (0, _)]) 428 C 2 dL_law_425 rfl rfl (by decide) rfl ?_
              refine g_goto 334 C dL_law_428 (by decide) ?_
              first
              | exact g_w [0, 1, 3, 4, 5, 6, 7, 8, 9, 10, 11, 12, 13, 14] rfl rfl (ih334 ((knI W h n pc pp ee + 5), (ee + 1)) (by
            try dsimp only
            exact ⟨by omega, by first | (rw [knI_s W h n pc pp he.1, cI_t ⟨by omega, by omega⟩]; done) | (rw [knI_s W h n pc pp he.1, cI_f (fun z => by omega)]; done)⟩) (by (try dsimp only); omega))
              | exact g_w [0, 1, 3, 4, 5, 6, 7, 8, 9, 10, 11, 12, 13, 14] rfl rfl (ih334 ((knI W h n pc pp ee + 0), (ee + 1)) (by
            try dsimp only
            exact ⟨by omega, by first | (rw [knI_s W h n pc pp he.1, cI_t ⟨by omega, by omega⟩]; done) | (rw [knI_s W h n pc pp he.1, cI_f (fun z => by omega)]; done)⟩) (by (try dsimp only); omega))
            · intro h414
              refine g_iconst 418 C dL_law_417 rfl ?_
              refine g_goto 422 C dL_law_418 (by decide) ?_
              refine g_iadd 423 C dL_law_422 rfl ?_
              refine g_istore (lv' := [(12, _), (14, _), (13, _), (11, _), (10, _), (9, _), (8, _), (7, _), (6, _), (5, _), (4, _), (3, _), (2, _), (1, _), (0, _)]) 425 C dL_law_423 rfl (by decide) rfl ?_
              refine g_iinc (lv' := [(13, _), (12, _), (14, _), (11, _), (10, _), (9, _), (8, _), (7, _), (6, _), (5, _), (4, _), (3, _), (2, _), (1, _), (0, _)]) 428 C 2 dL_law_425 rfl rfl (by decide) rfl ?_
              refine g_goto 334 C dL_law_428 (by decide) ?_
              first
              | exact g_w [0, 1, 3, 4, 5, 6, 7, 8, 9, 10, 11, 12, 13, 14] rfl rfl (ih334 ((knI W h n pc pp ee + 5), (ee + 1)) (by
            try dsimp only
            exact ⟨by omega, by first | (rw [knI_s W h n pc pp he.1, cI_t ⟨by omega, by omega⟩]; done) | (rw [knI_s W h n pc pp he.1, cI_f (fun z => by omega)]; done)⟩) (by (try dsimp only); omega))
              | exact g_w [0, 1, 3, 4, 5, 6, 7, 8, 9, 10, 11, 12, 13, 14] rfl rfl (ih334 ((knI W h n pc pp ee + 0), (ee + 1)) (by
            try dsimp only
            exact ⟨by omega, by first | (rw [knI_s W h n pc pp he.1, cI_t ⟨by omega, by omega⟩]; done) | (rw [knI_s W h n pc pp he.1, cI_f (fun z => by omega)]; done)⟩) (by (try dsimp only); omega))
        · intro h358
          have hx : nxI W pp ee = pp - W := by unfold nxI; rw [if_pos (by omega)]
          have hq := nx_in hB (show 0 ≤ pp ∧ pp < W * h by omega) (show 0 ≤ ee ∧ ee < 4 by omega) (by omega)
          have hf2 : ti (pp - W) = tmI n pc (nxI W pp ee) := by rw [hx]; exact hti _ (by omega)
          have htq := cnI_b (fun j => pc j = nxI W pp ee) (i := n) (by omega)
          have htr : tmI n pc (nxI W pp ee) = cnI (fun j => pc j = nxI W pp ee) n := rfl
          refine g_iload 363 C 2 dL_law_361 rfl rfl ?_
          refine g_iload_n 364 C 11 dL_law_363 rfl rfl ?_
          refine g_isub 365 C dL_law_364 rfl ?_
          refine g_goto 398 C dL_law_365 (by decide) ?_
          refine g_istore (lv' := [(14, _), (13, _), (12, _), (11, _), (10, _), (9, _), (8, _), (7, _), (6, _), (5, _), (4, _), (3, _), (2, _), (1, _), (0, _)]) 400 C dL_law_398 rfl (by decide) rfl ?_
          refine g_iload 402 C 2 dL_law_400 rfl rfl ?_
          refine g_iload 404 C 0 dL_law_402 rfl rfl ?_
          refine g_iload 406 C 3 dL_law_404 rfl rfl ?_
          refine g_icmp_eq 421 409 C dL_law_406 (by decide) rfl (by omega) (fun h406 => absurd h406 (by omega)) ?_
          intro h406
          refine g_aload 411 C 6 dL_law_409 rfl rfl ?_
          refine g_iload 413 C 0 dL_law_411 rfl rfl ?_
          refine g_iaload 414 C 14 dL_law_413 rfl rfl (by omega) ?_
          refine g_if_le 421 417 C dL_law_414 (by decide) rfl (by omega) ?_ ?_
          · intro h414
            refine g_iconst 422 C dL_law_421 rfl ?_
            refine g_iadd 423 C dL_law_422 rfl ?_
            refine g_istore (lv' := [(12, _), (14, _), (13, _), (11, _), (10, _), (9, _), (8, _), (7, _), (6, _), (5, _), (4, _), (3, _), (2, _), (1, _), (0, _)]) 425 C dL_law_423 rfl (by decide) rfl ?_
            refine g_iinc (lv' := [(13, _), (12, _), (14, _), (11, _), (10, _), (9, _), (8, _), (7, _), (6, _), (5, _), (4, _), (3, _), (2, _), (1, _), (0, _)]) 428 C 2 dL_law_425 rfl rfl (by decide) rfl ?_
            refine g_goto 334 C dL_law_428 (by decide) ?_
            first
            | exact g_w [0, 1, 3, 4, 5, 6, 7, 8, 9, 10, 11, 12, 13, 14] rfl rfl (ih334 ((knI W h n pc pp ee + 5), (ee + 1)) (by
            try dsimp only
            exact ⟨by omega, by first | (rw [knI_s W h n pc pp he.1, cI_t ⟨by omega, by omega⟩]; done) | (rw [knI_s W h n pc pp he.1, cI_f (fun z => by omega)]; done)⟩) (by (try dsimp only); omega))
            | exact g_w [0, 1, 3, 4, 5, 6, 7, 8, 9, 10, 11, 12, 13, 14] rfl rfl (ih334 ((knI W h n pc pp ee + 0), (ee + 1)) (by
            try dsimp only
            exact ⟨by omega, by first | (rw [knI_s W h n pc pp he.1, cI_t ⟨by omega, by omega⟩]; done) | (rw [knI_s W h n pc pp he.1, cI_f (fun z => by omega)]; done)⟩) (by (try dsimp only); omega))
          · intro h414
            refine g_iconst 418 C dL_law_417 rfl ?_
            refine g_goto 422 C dL_law_418 (by decide) ?_
            refine g_iadd 423 C dL_law_422 rfl ?_
            refine g_istore (lv' := [(12, _), (14, _), (13, _), (11, _), (10, _), (9, _), (8, _), (7, _), (6, _), (5, _), (4, _), (3, _), (2, _), (1, _), (0, _)]) 425 C dL_law_423 rfl (by decide) rfl ?_
            refine g_iinc (lv' := [(13, _), (12, _), (14, _), (11, _), (10, _), (9, _), (8, _), (7, _), (6, _), (5, _), (4, _), (3, _), (2, _), (1, _), (0, _)]) 428 C 2 dL_law_425 rfl rfl (by decide) rfl ?_
            refine g_goto 334 C dL_law_428 (by decide) ?_
            first
            | exact g_w [0, 1, 3, 4, 5, 6, 7, 8, 9, 10, 11, 12, 13, 14] rfl rfl (ih334 ((knI W h n pc pp ee + 5), (ee + 1)) (by
            try dsimp only
            exact ⟨by omega, by first | (rw [knI_s W h n pc pp he.1, cI_t ⟨by omega, by omega⟩]; done) | (rw [knI_s W h n pc pp he.1, cI_f (fun z => by omega)]; done)⟩) (by (try dsimp only); omega))
            | exact g_w [0, 1, 3, 4, 5, 6, 7, 8, 9, 10, 11, 12, 13, 14] rfl rfl (ih334 ((knI W h n pc pp ee + 0), (ee + 1)) (by
            try dsimp only
            exact ⟨by omega, by first | (rw [knI_s W h n pc pp he.1, cI_t ⟨by omega, by omega⟩]; done) | (rw [knI_s W h n pc pp he.1, cI_f (fun z => by omega)]; done)⟩) (by (try dsimp only); omega))
      · intro h348
        refine g_iload 353 C 2 dL_law_351 rfl rfl ?_
        refine g_goto 398 C dL_law_353 (by decide) ?_
        refine g_istore (lv' := [(14, _), (13, _), (12, _), (11, _), (10, _), (9, _), (8, _), (7, _), (6, _), (5, _), (4, _), (3, _), (2, _), (1, _), (0, _)]) 400 C dL_law_398 rfl (by decide) rfl ?_
        refine g_iload 402 C 2 dL_law_400 rfl rfl ?_
        refine g_iload 404 C 0 dL_law_402 rfl rfl ?_
        refine g_iload 406 C 3 dL_law_404 rfl rfl ?_
        refine g_icmp_eq 421 409 C dL_law_406 (by decide) rfl (by omega) ?_ (fun h406 => absurd h406 (by omega))
        intro h406
        refine g_iconst 422 C dL_law_421 rfl ?_
        refine g_iadd 423 C dL_law_422 rfl ?_
        refine g_istore (lv' := [(12, _), (14, _), (13, _), (11, _), (10, _), (9, _), (8, _), (7, _), (6, _), (5, _), (4, _), (3, _), (2, _), (1, _), (0, _)]) 425 C dL_law_423 rfl (by decide) rfl ?_
        refine g_iinc (lv' := [(13, _), (12, _), (14, _), (11, _), (10, _), (9, _), (8, _), (7, _), (6, _), (5, _), (4, _), (3, _), (2, _), (1, _), (0, _)]) 428 C 2 dL_law_425 rfl rfl (by decide) rfl ?_
        refine g_goto 334 C dL_law_428 (by decide) ?_
        first
        | exact g_w [0, 1, 3, 4, 5, 6, 7, 8, 9, 10, 11, 12, 13, 14] rfl rfl (ih334 ((knI W h n pc pp ee + 5), (ee + 1)) (by
            try dsimp only
            exact ⟨by omega, by first | (rw [knI_s W h n pc pp he.1, cI_t ⟨by omega, by omega⟩]; done) | (rw [knI_s W h n pc pp he.1, cI_f (fun z => by omega)]; done)⟩) (by (try dsimp only); omega))
        | exact g_w [0, 1, 3, 4, 5, 6, 7, 8, 9, 10, 11, 12, 13, 14] rfl rfl (ih334 ((knI W h n pc pp ee + 0), (ee + 1)) (by
            try dsimp only
            exact ⟨by omega, by first | (rw [knI_s W h n pc pp he.1, cI_t ⟨by omega, by omega⟩]; done) | (rw [knI_s W h n pc pp he.1, cI_f (fun z => by omega)]; done)⟩) (by (try dsimp only); omega))
theorem cdX5_missing : yX5_missing.cls = RX5 ∧ yX5_missing.cls ≠ "java/lang/invoke/MethodHandle" ∧ yX5_missing.cls ≠ "java/lang/invoke/VarHandle" ∧ (parseMethodDescriptor yX5_missing.desc).map (fun d => d.parameters.length) = some 1 := by decide +kernel
set_option maxHeartbeats 4000000 in
set_option maxRecDepth 100000 in
theorem law_f {p : Program} {l : Launch} {e : Env} {s : State} {m : MethodId} {below : List Frame} {meth : Method} {c : Code} {b L : Nat} {xs : Nat → Int32} {E : gE} {a_D a_L a_P a_Q a_R a_X a_fi a_hs a_jl a_ly a_pc a_se a_sh a_ti a_tn a_us a_wa : Nat} {W h n wf fo sp fd tc tr ft : Int} {hs se pc tn sh fi wa us ly jl ti : Int → Int} {now : Int64} (D : lC p s m meth c b L xs E) (hw : 1 ≤ W ∧ W ≤ 3 ∧ 1 ≤ h ∧ h ≤ 3 ∧ (W = 3 → h ≤ 2)) (hn6 : 1 ≤ n ∧ n ≤ 6) (hpw : ∀ j : Int, 0 ≤ j ∧ j < n → (0 ≤ pc j ∧ pc j < W * h) ∧ 0 ≤ tn j ∧ tn j < 4) (hwf : wf = 0 ∨ wf = 1) (hpm : wf = 1 → n = W * h ∧ PM (W * h) pc) (kk : lJ p l e s m below meth c b 101 3009 E [(a_X, .inr (5, [.ref a_P, .ref a_L, .ref a_R, .ref a_D, .ref a_Q, .int (iI tr), .int (iI ft)])), (a_P, .inr (1, [.ref a_hs, .ref a_se, .int (iI W), .int (iI h)])), (a_hs, aI E 200 hs), (a_se, aI E 100 se), (a_L, .inr (2, [.ref a_pc, .ref a_tn, .int (iI n)])), (a_pc, aI E 25 pc), (a_tn, aI E 25 tn), (a_R, .inr (3, [.ref a_P, .ref a_L, .ref a_sh, .ref a_fi, .ref a_wa, .ref a_us, .ref a_ly, .ref a_jl, .int (iI 0), .int (iI fo), .int (iI sp), .int (iI fd), .int (iI tc)])), (a_sh, aI E 400 sh), (a_fi, aI E 400 fi), (a_wa, aI E 100 wa), (a_us, aZ E 25 us), (a_ly, aI E 25 ly), (a_jl, aI E 25 jl)] [(0, .ref b), (1, .ref a_X), (2, .int (iI W)), (3, .int (iI h)), (4, .int (iI (W * h))), (5, .int (iI (nsd W h))), (6, .int (iI wf)), (7, .int (iI n))] 598 []) : lJ p l e s m below meth c b 101 3009 E [(a_X, .inr (5, [.ref a_P, .ref a_L, .ref a_R, .ref a_D, .ref a_Q, .int (iI tr), .int (iI ft)])), (a_P, .inr (1, [.ref a_hs, .ref a_se, .int (iI W), .int (iI h)])), (a_hs, aI E 200 hs), (a_se, aI E 100 se), (a_L, .inr (2, [.ref a_pc, .ref a_tn, .int (iI n)])), (a_pc, aI E 25 pc), (a_tn, aI E 25 tn), (a_R, .inr (3, [.ref a_P, .ref a_L, .ref a_sh, .ref a_fi, .ref a_wa, .ref a_us, .ref a_ly, .ref a_jl, .int (iI 0), .int (iI fo), .int (iI sp), .int (iI fd), .int (iI tc)])), (a_sh, aI E 400 sh), (a_fi, aI E 400 fi), (a_wa, aI E 100 wa), (a_us, aZ E 25 us), (a_ly, aI E 25 ly), (a_jl, aI E 25 jl), (a_ti, aI E 9 ti)] [(0, .ref b), (1, .ref a_X), (2, .int (iI W)), (3, .int (iI h)), (4, .int (iI (W * h))), (5, .int (iI (nsd W h))), (6, .int (iI wf)), (7, .int (iI n)), (8, .ref a_ti), (9, .int (iI (cnI (msP n pc 0) (W * h)))), (10, .int (iI (cnI (msP n pc 1) (W * h))))] 541 [] := by
  have C := D.1
  have hL0 := D.2.2.2.2
  have hB : 1 ≤ W ∧ W ≤ 5 ∧ 1 ≤ h ∧ h ≤ 5 := by omega
  have h6 := wh6 hw
  have hN := nsd_b hB
  have hn : 0 ≤ n ∧ n ≤ 25 := by omega
  have hpn : ∀ j : Int, 0 ≤ j ∧ j < n → 0 ≤ pc j ∧ pc j < 25 := fun j hj => by have q := hpw j hj; omega
  have hl0 := cnI_b (msP n pc 0) (i := W * h) (by omega)
  have hl1 := cnI_b (msP n pc 1) (i := W * h) (by omega)
  refine g_aload_n 542 C 1 dL_law_541 rfl rfl ?_
  refine g_iconst 543 C dL_law_542 rfl ?_
  refine g_callVF 546 C [0, 1, 4, 5] dL_law_543 rfl (k_X5_missing_0 E l  (by first | assumption | omega) (by first | assumption | omega) (by first | assumption | omega)) (cwV 1 C.2.2.2.2.1 gL_law_X5_missing rfl rfl rfl cdX5_missing ⟨Nat.le_of_ble_eq_true rfl, Nat.le_of_ble_eq_true rfl⟩) rfl rfl rfl rfl (Nat.le_of_ble_eq_true rfl) 0 5 rfl rfl rfl ⟨Nat.le_of_ble_eq_true rfl, Nat.le_of_ble_eq_true rfl⟩ ?_
  refine g_iload 548 C 9 dL_law_546 rfl rfl ?_
  refine g_cmpN 551 C 596 dL_law_548 (by decide) rfl (rfl) ?_
  refine g_aload_n 552 C 1 dL_law_551 rfl rfl ?_
  refine g_iconst 553 C dL_law_552 rfl ?_
  refine g_callVF 556 C [0, 1, 4, 5] dL_law_553 rfl (k_X5_missing_1 E l  (by first | assumption | omega) (by first | assumption | omega) (by first | assumption | omega)) (cwV 1 C.2.2.2.2.1 gL_law_X5_missing rfl rfl rfl cdX5_missing ⟨Nat.le_of_ble_eq_true rfl, Nat.le_of_ble_eq_true rfl⟩) rfl rfl rfl rfl (Nat.le_of_ble_eq_true rfl) 0 5 rfl rfl rfl ⟨Nat.le_of_ble_eq_true rfl, Nat.le_of_ble_eq_true rfl⟩ ?_
  refine g_iload 558 C 10 dL_law_556 rfl rfl ?_
  refine g_cmpN 561 C 596 dL_law_558 (by decide) rfl (rfl) ?_
  refine g_aload_n 562 C 1 dL_law_561 rfl rfl ?_
  refine g_iconst 563 C dL_law_562 rfl ?_
  refine g_iload 565 C 9 dL_law_563 rfl rfl ?_
  refine g_callV 568 C [0, 1, 4, 5] dL_law_565 rfl (k_X5_missed E l  (by first | assumption | omega) (by first | assumption | omega) (by first | assumption | omega) (by first | assumption | omega) (by first | assumption | omega)) (cwV 2 C.2.2.2.2.1 gL_law_X5_missed rfl rfl rfl cdX5_missed ⟨Nat.le_of_ble_eq_true rfl, Nat.le_of_ble_eq_true rfl⟩) rfl rfl rfl rfl (Nat.le_of_ble_eq_true rfl) 0 5 rfl rfl rfl ⟨Nat.le_of_ble_eq_true rfl, Nat.le_of_ble_eq_true rfl⟩ (fun v w q => by obtain ⟨_, -, rfl⟩ := q; rfl) ?_
  rintro _ _ ⟨r565, ⟨rfl, hr565⟩, rfl⟩
  have e565 := mdP_u (md_of (cnI_b (msP n pc 0) (by omega)).1 (by omega) hr565) (Or.inl ⟨rfl, Int.le_refl _⟩)
  refine g_w (ws' := [(_, .inr (5, [_, _, _, _, _, _, _])), (_, .inr (1, [_, _, _, _])), (_, aI _ _ _), (_, aI _ _ _), (_, .inr (2, [_, _, _])), (_, aI _ _ _), (_, aI _ _ _), (_, .inr (3, [_, _, _, _, _, _, _, _, _, _, _, _, _])), (_, aI _ _ _), (_, aI _ _ _), (_, aI _ _ _), (_, aZ _ _ _), (_, aI _ _ _), (_, aI _ _ _), (_, aI _ _ _)]) [0, 1, 2, 3, 4, 5, 6, 7, 8, 9, 10] rfl rfl ?_
  refine g_iconst 569 C dL_law_568 rfl ?_
  refine g_cmpN 572 C 596 dL_law_569 (by decide) rfl (congrArg iI e565) ?_
  refine g_aload_n 573 C 1 dL_law_572 rfl rfl ?_
  refine g_iconst 574 C dL_law_573 rfl ?_
  refine g_iload 576 C 10 dL_law_574 rfl rfl ?_
  refine g_callV 579 C [0, 1, 4, 5] dL_law_576 rfl (k_X5_missed E l  (by first | assumption | omega) (by first | assumption | omega) (by first | assumption | omega) (by first | assumption | omega) (by first | assumption | omega)) (cwV 2 C.2.2.2.2.1 gL_law_X5_missed rfl rfl rfl cdX5_missed ⟨Nat.le_of_ble_eq_true rfl, Nat.le_of_ble_eq_true rfl⟩) rfl rfl rfl rfl (Nat.le_of_ble_eq_true rfl) 0 5 rfl rfl rfl ⟨Nat.le_of_ble_eq_true rfl, Nat.le_of_ble_eq_true rfl⟩ (fun v w q => by obtain ⟨_, -, rfl⟩ := q; rfl) ?_
  rintro _ _ ⟨r576, ⟨rfl, hr576⟩, rfl⟩
  have e576 := mdP_u (md_of (cnI_b (msP n pc 1) (by omega)).1 (by omega) hr576) (Or.inl ⟨rfl, Int.le_refl _⟩)
  refine g_w (ws' := [(_, .inr (5, [_, _, _, _, _, _, _])), (_, .inr (1, [_, _, _, _])), (_, aI _ _ _), (_, aI _ _ _), (_, .inr (2, [_, _, _])), (_, aI _ _ _), (_, aI _ _ _), (_, .inr (3, [_, _, _, _, _, _, _, _, _, _, _, _, _])), (_, aI _ _ _), (_, aI _ _ _), (_, aI _ _ _), (_, aZ _ _ _), (_, aI _ _ _), (_, aI _ _ _), (_, aI _ _ _)]) [0, 1, 2, 3, 4, 5, 6, 7, 8, 9, 10] rfl rfl ?_
  refine g_iconst 580 C dL_law_579 rfl ?_
  refine g_cmpN 583 C 596 dL_law_580 (by decide) rfl (congrArg iI e576) ?_
  refine g_iload 585 C 6 dL_law_583 rfl rfl ?_
  refine g_if_eq 598 588 C dL_law_585 (by decide) rfl (by omega) ?_ ?_
  · intro h585
    refine g_w (lv' := [(0, _), (1, _), (2, _), (3, _), (4, _), (5, _), (6, _), (7, _)]) [0, 1, 2, 3, 4, 5, 6, 7] rfl rfl ?_
    refine g_perm (ws' := [(_, .inr (5, [_, _, _, _, _, _, _])), (_, .inr (1, [_, _, _, _])), (_, aI _ _ _), (_, aI _ _ _), (_, .inr (2, [_, _, _])), (_, aI _ _ _), (_, aI _ _ _), (_, .inr (3, [_, _, _, _, _, _, _, _, _, _, _, _, _])), (_, aI _ _ _), (_, aI _ _ _), (_, aI _ _ _), (_, aZ _ _ _), (_, aI _ _ _), (_, aI _ _ _)]) [0, 1, 2, 3, 4, 5, 6, 7, 8, 9, 10, 11, 12, 13] rfl rfl ?_
    exact kk
  · intro h585
    have hq := hpm (by omega)
    have z0 : cnI (msP n pc 0) (W * h) = 0 := by rw [hq.1]; exact pm_ms (by omega) hq.2
    have z1 : cnI (msP n pc 1) (W * h) = 0 := by rw [hq.1]; exact pm_ms (by omega) hq.2
    refine g_iload 590 C 9 dL_law_588 rfl rfl ?_
    refine g_iload 592 C 10 dL_law_590 rfl rfl ?_
    refine g_iadd 593 C dL_law_592 rfl ?_
    refine g_if_le 598 596 C dL_law_593 (by decide) rfl (by omega) ?_ (fun h593 => absurd h593 (by omega))
    intro h593
    refine g_w (lv' := [(0, _), (1, _), (2, _), (3, _), (4, _), (5, _), (6, _), (7, _)]) [0, 1, 2, 3, 4, 5, 6, 7] rfl rfl ?_
    refine g_perm (ws' := [(_, .inr (5, [_, _, _, _, _, _, _])), (_, .inr (1, [_, _, _, _])), (_, aI _ _ _), (_, aI _ _ _), (_, .inr (2, [_, _, _])), (_, aI _ _ _), (_, aI _ _ _), (_, .inr (3, [_, _, _, _, _, _, _, _, _, _, _, _, _])), (_, aI _ _ _), (_, aI _ _ _), (_, aI _ _ _), (_, aZ _ _ _), (_, aI _ _ _), (_, aI _ _ _)]) [0, 1, 2, 3, 4, 5, 6, 7, 8, 9, 10, 11, 12, 13] rfl rfl ?_
    exact kk
set_option maxHeartbeats 4000000 in
set_option maxRecDepth 100000 in
theorem law_g {p : Program} {l : Launch} {e : Env} {s : State} {m : MethodId} {below : List Frame} {meth : Method} {c : Code} {b L : Nat} {xs : Nat → Int32} {E : gE} {a_D a_L a_P a_Q a_R a_X a_fi a_hs a_jl a_ly a_pc a_se a_sh a_tn a_us a_wa : Nat} {W h n wf fo sp fd tc tr ft : Int} {hs se pc tn sh fi wa us ly jl : Int → Int} {now : Int64} (D : lC p s m meth c b L xs E)  (kk : ∀ {a_at a_fu a_fi2 a_ui : Nat}, lJ p l e s m below meth c b 105 3059 E [(a_X, .inr (5, [.ref a_P, .ref a_L, .ref a_R, .ref a_D, .ref a_Q, .int (iI tr), .int (iI ft)])), (a_P, .inr (1, [.ref a_hs, .ref a_se, .int (iI W), .int (iI h)])), (a_hs, aI E 200 hs), (a_se, aI E 100 se), (a_L, .inr (2, [.ref a_pc, .ref a_tn, .int (iI n)])), (a_pc, aI E 25 pc), (a_tn, aI E 25 tn), (a_R, .inr (3, [.ref a_P, .ref a_L, .ref a_sh, .ref a_fi, .ref a_wa, .ref a_us, .ref a_ly, .ref a_jl, .int (iI 0), .int (iI fo), .int (iI sp), .int (iI fd), .int (iI tc)])), (a_sh, aI E 400 sh), (a_fi, aI E 400 fi), (a_wa, aI E 100 wa), (a_us, aZ E 25 us), (a_ly, aI E 25 ly), (a_jl, aI E 25 jl), (a_at, aI E 10 ((fun _ => 0))), (a_fu, aI E 10 (uI (fun _ => 0) 0 (-1))), (a_fi2, aI E 20 ((fun _ => 0))), (a_ui, aI E 10 ((fun _ => 0)))] [(0, .ref b), (1, .ref a_X), (2, .int (iI W)), (3, .int (iI h)), (4, .int (iI (W * h))), (5, .int (iI (nsd W h))), (6, .int (iI wf)), (7, .int (iI n)), (11, .ref a_at), (12, .ref a_fu), (13, .ref a_fi2), (14, .ref a_ui), (15, .int (iI 0)), (16, .int (iI 0)), (17, .int (iI 0)), (18, .int (iI 0))] 639 []) : lJ p l e s m below meth c b 101 3009 E [(a_X, .inr (5, [.ref a_P, .ref a_L, .ref a_R, .ref a_D, .ref a_Q, .int (iI tr), .int (iI ft)])), (a_P, .inr (1, [.ref a_hs, .ref a_se, .int (iI W), .int (iI h)])), (a_hs, aI E 200 hs), (a_se, aI E 100 se), (a_L, .inr (2, [.ref a_pc, .ref a_tn, .int (iI n)])), (a_pc, aI E 25 pc), (a_tn, aI E 25 tn), (a_R, .inr (3, [.ref a_P, .ref a_L, .ref a_sh, .ref a_fi, .ref a_wa, .ref a_us, .ref a_ly, .ref a_jl, .int (iI 0), .int (iI fo), .int (iI sp), .int (iI fd), .int (iI tc)])), (a_sh, aI E 400 sh), (a_fi, aI E 400 fi), (a_wa, aI E 100 wa), (a_us, aZ E 25 us), (a_ly, aI E 25 ly), (a_jl, aI E 25 jl)] [(0, .ref b), (1, .ref a_X), (2, .int (iI W)), (3, .int (iI h)), (4, .int (iI (W * h))), (5, .int (iI (nsd W h))), (6, .int (iI wf)), (7, .int (iI n))] 598 [] := by
  have C := D.1
  have hL0 := D.2.2.2.2
  refine g_bipush 600 C dL_law_598 rfl (by decide) ?_
  refine g_newI 602 C 10 lL_law_arrI dL_law_600 rfl (by decide) (Nat.le_of_ble_eq_true rfl) (Nat.le_of_ble_eq_true rfl) ?_
  intro a_at
  refine g_w (ws' := [(_, .inr (5, [_, _, _, _, _, _, _])), (_, .inr (1, [_, _, _, _])), (_, aI _ _ _), (_, aI _ _ _), (_, .inr (2, [_, _, _])), (_, aI _ _ _), (_, aI _ _ _), (_, .inr (3, [_, _, _, _, _, _, _, _, _, _, _, _, _])), (_, aI _ _ _), (_, aI _ _ _), (_, aI _ _ _), (_, aZ _ _ _), (_, aI _ _ _), (_, aI _ _ _), (_, aI _ _ _)]) [0, 1, 2, 3, 4, 5, 6, 7] rfl rfl ?_
  refine g_astore (lv' := [(11, _), (0, _), (1, _), (2, _), (3, _), (4, _), (5, _), (6, _), (7, _)]) 604 C dL_law_602 rfl (by decide) rfl ?_
  refine g_bipush 606 C dL_law_604 rfl (by decide) ?_
  refine g_newI 608 C 10 lL_law_arrI dL_law_606 rfl (by decide) (Nat.le_of_ble_eq_true rfl) (Nat.le_of_ble_eq_true rfl) ?_
  intro a_fu
  refine g_w (ws' := [(_, .inr (5, [_, _, _, _, _, _, _])), (_, .inr (1, [_, _, _, _])), (_, aI _ _ _), (_, aI _ _ _), (_, .inr (2, [_, _, _])), (_, aI _ _ _), (_, aI _ _ _), (_, .inr (3, [_, _, _, _, _, _, _, _, _, _, _, _, _])), (_, aI _ _ _), (_, aI _ _ _), (_, aI _ _ _), (_, aZ _ _ _), (_, aI _ _ _), (_, aI _ _ _), (_, aI _ _ _), (_, aI _ _ _)]) [0, 1, 2, 3, 4, 5, 6, 7, 8] rfl rfl ?_
  refine g_astore (lv' := [(12, _), (11, _), (0, _), (1, _), (2, _), (3, _), (4, _), (5, _), (6, _), (7, _)]) 610 C dL_law_608 rfl (by decide) rfl ?_
  refine g_bipush 612 C dL_law_610 rfl (by decide) ?_
  refine g_newI 614 C 20 lL_law_arrI dL_law_612 rfl (by decide) (Nat.le_of_ble_eq_true rfl) (Nat.le_of_ble_eq_true rfl) ?_
  intro a_fi2
  refine g_w (ws' := [(_, .inr (5, [_, _, _, _, _, _, _])), (_, .inr (1, [_, _, _, _])), (_, aI _ _ _), (_, aI _ _ _), (_, .inr (2, [_, _, _])), (_, aI _ _ _), (_, aI _ _ _), (_, .inr (3, [_, _, _, _, _, _, _, _, _, _, _, _, _])), (_, aI _ _ _), (_, aI _ _ _), (_, aI _ _ _), (_, aZ _ _ _), (_, aI _ _ _), (_, aI _ _ _), (_, aI _ _ _), (_, aI _ _ _), (_, aI _ _ _)]) [0, 1, 2, 3, 4, 5, 6, 7, 8, 9] rfl rfl ?_
  refine g_astore (lv' := [(13, _), (12, _), (11, _), (0, _), (1, _), (2, _), (3, _), (4, _), (5, _), (6, _), (7, _)]) 616 C dL_law_614 rfl (by decide) rfl ?_
  refine g_bipush 618 C dL_law_616 rfl (by decide) ?_
  refine g_newI 620 C 10 lL_law_arrI dL_law_618 rfl (by decide) (Nat.le_of_ble_eq_true rfl) (Nat.le_of_ble_eq_true rfl) ?_
  intro a_ui
  refine g_w (ws' := [(_, .inr (5, [_, _, _, _, _, _, _])), (_, .inr (1, [_, _, _, _])), (_, aI _ _ _), (_, aI _ _ _), (_, .inr (2, [_, _, _])), (_, aI _ _ _), (_, aI _ _ _), (_, .inr (3, [_, _, _, _, _, _, _, _, _, _, _, _, _])), (_, aI _ _ _), (_, aI _ _ _), (_, aI _ _ _), (_, aZ _ _ _), (_, aI _ _ _), (_, aI _ _ _), (_, aI _ _ _), (_, aI _ _ _), (_, aI _ _ _), (_, aI _ _ _)]) [0, 1, 2, 3, 4, 5, 6, 7, 8, 9, 10] rfl rfl ?_
  refine g_astore (lv' := [(14, _), (13, _), (12, _), (11, _), (0, _), (1, _), (2, _), (3, _), (4, _), (5, _), (6, _), (7, _)]) 622 C dL_law_620 rfl (by decide) rfl ?_
  refine g_iconst 623 C dL_law_622 rfl ?_
  refine g_istore (lv' := [(15, _), (14, _), (13, _), (12, _), (11, _), (0, _), (1, _), (2, _), (3, _), (4, _), (5, _), (6, _), (7, _)]) 625 C dL_law_623 rfl (by decide) rfl ?_
  refine g_iconst 626 C dL_law_625 rfl ?_
  refine g_istore (lv' := [(16, _), (15, _), (14, _), (13, _), (12, _), (11, _), (0, _), (1, _), (2, _), (3, _), (4, _), (5, _), (6, _), (7, _)]) 628 C dL_law_626 rfl (by decide) rfl ?_
  refine g_iconst 629 C dL_law_628 rfl ?_
  refine g_istore (lv' := [(17, _), (16, _), (15, _), (14, _), (13, _), (12, _), (11, _), (0, _), (1, _), (2, _), (3, _), (4, _), (5, _), (6, _), (7, _)]) 631 C dL_law_629 rfl (by decide) rfl ?_
  refine g_iconst 632 C dL_law_631 rfl ?_
  refine g_istore (lv' := [(18, _), (17, _), (16, _), (15, _), (14, _), (13, _), (12, _), (11, _), (0, _), (1, _), (2, _), (3, _), (4, _), (5, _), (6, _), (7, _)]) 634 C dL_law_632 rfl (by decide) rfl ?_
  refine g_aload 636 C 6 dL_law_634 rfl rfl ?_
  refine g_iconst 637 C dL_law_636 rfl ?_
  refine g_iconst 638 C dL_law_637 rfl ?_
  refine g_iastore (ws' := [(_, .inr (5, [_, _, _, _, _, _, _])), (_, .inr (1, [_, _, _, _])), (_, aI _ _ _), (_, aI _ _ _), (_, .inr (2, [_, _, _])), (_, aI _ _ _), (_, aI _ _ _), (_, .inr (3, [_, _, _, _, _, _, _, _, _, _, _, _, _])), (_, aI _ _ _), (_, aI _ _ _), (_, aI _ _ _), (_, aZ _ _ _), (_, aI _ _ _), (_, aI _ _ _), (_, aI _ _ _), (_, aI _ _ _), (_, aI _ _ _), (_, aI _ _ _)]) 639 C 15 dL_law_638 rfl rfl (by omega) rfl ?_
  refine g_w (lv' := [(0, _), (1, _), (2, _), (3, _), (4, _), (5, _), (6, _), (7, _), (11, _), (12, _), (13, _), (14, _), (15, _), (16, _), (17, _), (18, _)]) [8, 9, 10, 11, 12, 13, 14, 15, 7, 6, 5, 4, 3, 2, 1, 0] rfl rfl ?_
  exact kk
