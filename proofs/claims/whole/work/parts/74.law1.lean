def lshI (TH LN SZ : Int → Int) (CE : Int → Int → Int) (ss sl sc : Int → Int) : Prop :=
  (∀ j : Int, 0 ≤ j ∧ j < 4 → (-1 ≤ ss j ∧ ss j ≤ 50) ∧ 0 ≤ sl j ∧ sl j ≤ 2) ∧ (∀ j : Int, 0 ≤ j ∧ j < 4 → TH j = (if 0 ≤ ss j then 1 else 0) ∧ SZ j = (if 0 ≤ ss j then ss j else 0) ∧ LN j = sl j ∧ ∀ c : Int, 0 ≤ c ∧ c < ss j → CE j c = sc (50 * j + c)) ∧
  (∀ j c : Int, -2147483648 ≤ CE j c ∧ CE j c < 2147483648) ∧ ∀ c : Int, -2147483648 ≤ sc c ∧ sc c < 2147483648
theorem uI_b9 {hs : Int → Int} {z v : Int} (hh : hB9 hs) (hv : -9 ≤ v ∧ v ≤ 9) : hB9 (uI hs z v) := fun j => by
  unfold uI
  split
  · exact hv
  · exact hh j
theorem gvI_b9 {hs : Int → Int} {z o w k : Int} (hh : hB9 hs) : hB9 (gvI hs z o w k) := fun j => by
  unfold gvI
  split
  · exact htI_b hh _ _ _
  · exact hh j
theorem zrI_b9 {hs : Int → Int} {k : Int} (hh : hB9 hs) : hB9 (zrI hs k) := fun j => by
  unfold zrI
  split
  · omega
  · exact hh j
theorem trI_zr (sd : Int64) (M : Int) (f : Int → Int) : trI sd M (zrI f M) M = trI sd M f M := by
  funext j
  unfold trI zrI
  split <;> rfl
theorem lay_pw {n p t B : Int} {pc tn : Int → Int} (hpw : ∀ j : Int, 0 ≤ j ∧ j < n → (0 ≤ pc j ∧ pc j < B) ∧ 0 ≤ tn j ∧ tn j < 4) (hp : 0 ≤ p ∧ p < B) (ht : 0 ≤ t ∧ t < 4) : ∀ j : Int, 0 ≤ j ∧ j < n + 1 → (0 ≤ uI pc n p j ∧ uI pc n p j < B) ∧ 0 ≤ uI tn n t j ∧ uI tn n t j < 4 := fun j hj => by
  unfold uI
  by_cases z : j = n
  · rw [if_pos z, if_pos z]; exact ⟨hp, ht⟩
  · rw [if_neg z, if_neg z]; exact hpw j (by omega)
theorem take_pw {n i B : Int} {pc tn : Int → Int} (hpw : ∀ j : Int, 0 ≤ j ∧ j < n → (0 ≤ pc j ∧ pc j < B) ∧ 0 ≤ tn j ∧ tn j < 4) : ∀ j : Int, 0 ≤ j ∧ j < n - 1 → (0 ≤ rmI pc i n j ∧ rmI pc i n j < B) ∧ 0 ≤ rmI tn i n j ∧ rmI tn i n j < 4 := fun j hj => by
  unfold rmI
  by_cases z : i ≤ j ∧ j < n - 1
  · rw [if_pos z, if_pos z]; exact hpw (j + 1) (by omega)
  · rw [if_neg z, if_neg z]; exact hpw j (by omega)
theorem cdX5_height : yX5_height.cls = RX5 ∧ yX5_height.cls ≠ "java/lang/invoke/MethodHandle" ∧ yX5_height.cls ≠ "java/lang/invoke/VarHandle" ∧ (parseMethodDescriptor yX5_height.desc).map (fun d => d.parameters.length) = some 2 := by decide +kernel
theorem cdX6_height : yX6_height.cls = RX6 ∧ yX6_height.cls ≠ "java/lang/invoke/MethodHandle" ∧ yX6_height.cls ≠ "java/lang/invoke/VarHandle" ∧ (parseMethodDescriptor yX6_height.desc).map (fun d => d.parameters.length) = some 2 := by decide +kernel
set_option maxHeartbeats 4000000 in
set_option maxRecDepth 100000 in
theorem law_3 {p : Program} {l : Launch} {e : Env} {s : State} {m : MethodId} {below : List Frame} {meth : Method} {c : Code} {b L : Nat} {xs : Nat → Int32} {E : gE} {a_X a_P a_hs a_se a_L a_pc a_tn a_R a_sh a_fi a_wa a_us a_ly a_jl a_D a_Q a_M a_Mh a_Mp a_Mt a_Ma a_Mu a_Mi a_Mx a_My a_Ms a_Ml a_Mc a_Mg : Nat} {aS aC : Int → Nat} {W h n jo fo sp fd tc tr ft mL mN mfd : Int} {hs se pc tn sh fi wa us ly jl qa qf mus ja jt ss sl sc hg TH LN SZ : Int → Int} {CE : Int → Int → Int} {now md : Int64} {sf : Int → Option Nat} {i : Int} (D : lC p s m meth c b L xs E) (hsf : ∀ j : Int, 0 ≤ j ∧ j < 4 → sf j = some (aS j)) (hi : 0 ≤ i ∧ i + 6 ≤ L) (hB : 1 ≤ W ∧ W ≤ 5 ∧ 1 ≤ h ∧ h ≤ 5) (hh : hB9 hs) (hse : ∀ p e : Int, 0 ≤ p ∧ p < W * h → 0 ≤ e ∧ e < 4 → se (p * 4 + e) = sdI W h p e) (hn : 0 ≤ n ∧ n ≤ 25) (hpw : ∀ j : Int, 0 ≤ j ∧ j < n → (0 ≤ pc j ∧ pc j < W * h) ∧ 0 ≤ tn j ∧ tn j < 4) (hjo : jo = 0 ∨ jo = 1) (hjq : jo = 1 → ∀ j : Int, 0 ≤ j ∧ j < W * h → jl j = ja j * 4 + jt j ∧ (0 ≤ ja j ∧ ja j < 25) ∧ 0 ≤ jt j ∧ jt j < 4) (hS : lshI TH LN SZ CE ss sl sc) (kk : ∀ {W h n jo fo sp fd tc tr ft mL mN mfd : Int} {hs se pc tn sh fi wa us ly jl qa qf mus ja jt ss sl sc hg TH LN SZ : Int → Int} {CE : Int → Int → Int} {now md : Int64}, (1 ≤ W ∧ W ≤ 5 ∧ 1 ≤ h ∧ h ≤ 5) → (hB9 hs) → (∀ p e : Int, 0 ≤ p ∧ p < W * h → 0 ≤ e ∧ e < 4 → se (p * 4 + e) = sdI W h p e) → (0 ≤ n ∧ n ≤ 25) → (∀ j : Int, 0 ≤ j ∧ j < n → (0 ≤ pc j ∧ pc j < W * h) ∧ 0 ≤ tn j ∧ tn j < 4) → (jo = 0 ∨ jo = 1) → (jo = 1 → ∀ j : Int, 0 ≤ j ∧ j < W * h → jl j = ja j * 4 + jt j ∧ (0 ≤ ja j ∧ ja j < 25) ∧ 0 ≤ jt j ∧ jt j < 4) → (lshI TH LN SZ CE ss sl sc) → lJ p l e s m below meth c b 37 2231 E ((a_X, .inr (5, [.ref a_P, .ref a_L, .ref a_R, .ref a_D, .ref a_Q, .int (iI tr), .int (iI ft)])) :: (a_P, .inr (1, [.ref a_hs, .ref a_se, .int (iI W), .int (iI h)])) :: (a_hs, aI E 200 hs) :: (a_se, aI E 100 se) :: (a_L, .inr (2, [.ref a_pc, .ref a_tn, .int (iI n)])) :: (a_pc, aI E 25 pc) :: (a_tn, aI E 25 tn) :: (a_R, .inr (3, [.ref a_P, .ref a_L, .ref a_sh, .ref a_fi, .ref a_wa, .ref a_us, .ref a_ly, .ref a_jl, .int (iI jo), .int (iI fo), .int (iI sp), .int (iI fd), .int (iI tc)])) :: (a_sh, aI E 400 sh) :: (a_fi, aI E 400 fi) :: (a_wa, aI E 100 wa) :: (a_us, aZ E 25 us) :: (a_ly, aI E 25 ly) :: (a_jl, aI E 25 jl) :: (a_D, .inr (0, [.long now])) :: (a_Q, aQ E 4 sf) :: (a_M, .inr (6, [.int (iI ft), .int (iI W), .int (iI h), .ref a_Mh, .long md, .int (iI mL), .int (iI mN), .int (iI n), .ref a_Mp, .ref a_Mt, .int (iI tc), .int (iI mfd), .ref a_Ma, .ref a_Mu, .ref a_Mi, .int (iI jo), .ref a_Mx, .ref a_My, .ref a_Ms, .ref a_Ml, .ref a_Mc, .ref a_Mg, .int (iI tr)])) :: (a_Mh, aI E 200 hs) :: (a_Mp, aI E 25 pc) :: (a_Mt, aI E 25 tn) :: (a_Ma, aI E 26 qa) :: (a_Mu, aI E 26 qf) :: (a_Mi, aZ E 25 mus) :: (a_Mx, aI E 25 ja) :: (a_My, aI E 25 jt) :: (a_Ms, aI E 4 ss) :: (a_Ml, aI E 4 sl) :: (a_Mc, aI E 200 sc) :: (a_Mg, aI E 50 hg) :: (aS 0, .inr (4, [.ref (aC 0), .int (iI (TH 0)), .int (iI (LN 0)), .int (iI (SZ 0))])) :: (aC 0, aI E 50 (CE 0)) :: (aS 1, .inr (4, [.ref (aC 1), .int (iI (TH 1)), .int (iI (LN 1)), .int (iI (SZ 1))])) :: (aC 1, aI E 50 (CE 1)) :: (aS 2, .inr (4, [.ref (aC 2), .int (iI (TH 2)), .int (iI (LN 2)), .int (iI (SZ 2))])) :: (aC 2, aI E 50 (CE 2)) :: (aS 3, .inr (4, [.ref (aC 3), .int (iI (TH 3)), .int (iI (LN 3)), .int (iI (SZ 3))])) :: (aC 3, aI E 50 (CE 3)) :: []) [(0, .ref b), (1, .ref a_X), (2, .ref a_M), (3, .int (iI i))] 1280 []) : lJ p l e s m below meth c b 37 2231 E ((a_X, .inr (5, [.ref a_P, .ref a_L, .ref a_R, .ref a_D, .ref a_Q, .int (iI tr), .int (iI ft)])) :: (a_P, .inr (1, [.ref a_hs, .ref a_se, .int (iI W), .int (iI h)])) :: (a_hs, aI E 200 hs) :: (a_se, aI E 100 se) :: (a_L, .inr (2, [.ref a_pc, .ref a_tn, .int (iI n)])) :: (a_pc, aI E 25 pc) :: (a_tn, aI E 25 tn) :: (a_R, .inr (3, [.ref a_P, .ref a_L, .ref a_sh, .ref a_fi, .ref a_wa, .ref a_us, .ref a_ly, .ref a_jl, .int (iI jo), .int (iI fo), .int (iI sp), .int (iI fd), .int (iI tc)])) :: (a_sh, aI E 400 sh) :: (a_fi, aI E 400 fi) :: (a_wa, aI E 100 wa) :: (a_us, aZ E 25 us) :: (a_ly, aI E 25 ly) :: (a_jl, aI E 25 jl) :: (a_D, .inr (0, [.long now])) :: (a_Q, aQ E 4 sf) :: (a_M, .inr (6, [.int (iI ft), .int (iI W), .int (iI h), .ref a_Mh, .long md, .int (iI mL), .int (iI mN), .int (iI n), .ref a_Mp, .ref a_Mt, .int (iI tc), .int (iI mfd), .ref a_Ma, .ref a_Mu, .ref a_Mi, .int (iI jo), .ref a_Mx, .ref a_My, .ref a_Ms, .ref a_Ml, .ref a_Mc, .ref a_Mg, .int (iI tr)])) :: (a_Mh, aI E 200 hs) :: (a_Mp, aI E 25 pc) :: (a_Mt, aI E 25 tn) :: (a_Ma, aI E 26 qa) :: (a_Mu, aI E 26 qf) :: (a_Mi, aZ E 25 mus) :: (a_Mx, aI E 25 ja) :: (a_My, aI E 25 jt) :: (a_Ms, aI E 4 ss) :: (a_Ml, aI E 4 sl) :: (a_Mc, aI E 200 sc) :: (a_Mg, aI E 50 hg) :: (aS 0, .inr (4, [.ref (aC 0), .int (iI (TH 0)), .int (iI (LN 0)), .int (iI (SZ 0))])) :: (aC 0, aI E 50 (CE 0)) :: (aS 1, .inr (4, [.ref (aC 1), .int (iI (TH 1)), .int (iI (LN 1)), .int (iI (SZ 1))])) :: (aC 1, aI E 50 (CE 1)) :: (aS 2, .inr (4, [.ref (aC 2), .int (iI (TH 2)), .int (iI (LN 2)), .int (iI (SZ 2))])) :: (aC 2, aI E 50 (CE 2)) :: (aS 3, .inr (4, [.ref (aC 3), .int (iI (TH 3)), .int (iI (LN 3)), .int (iI (SZ 3))])) :: (aC 3, aI E 50 (CE 3)) :: []) [(0, .ref b), (1, .ref a_X), (2, .ref a_M), (3, .int (iI i))] 314 [] := by
  have C := D.1
  have hL0 := D.2.2.2.2
  refine g_aload_n 315 C 1 dL_law_314 rfl rfl ?_
  refine g_aload_n 316 C 0 dL_law_315 rfl rfl ?_
  refine g_iload_n 317 C 3 dL_law_316 rfl rfl ?_
  refine g_iconst 318 C dL_law_317 rfl ?_
  refine g_iadd 319 C dL_law_318 rfl ?_
  refine g_sld 320 D dL_law_319 rfl (by omega) ?_
  refine g_aload_n 321 C 0 dL_law_320 rfl rfl ?_
  refine g_iload_n 322 C 3 dL_law_321 rfl rfl ?_
  refine g_iconst 323 C dL_law_322 rfl ?_
  refine g_iadd 324 C dL_law_323 rfl ?_
  refine g_sld 325 D dL_law_324 rfl (by omega) ?_
  refine g_callVF 328 C [0, 1, 2] dL_law_325 rfl (k_X5_height E l  (by first | exact lX_b _ _ | assumption | omega) (by first | exact lX_b _ _ | assumption | omega) (by first | exact lX_b _ _ | assumption | omega) (by first | exact lX_b _ _ | assumption | omega)) (cwV 2 C.2.2.2.2.1 gL_law_X5_height rfl rfl rfl cdX5_height ⟨Nat.le_of_ble_eq_true rfl, Nat.le_of_ble_eq_true rfl⟩) rfl rfl rfl rfl (Nat.le_of_ble_eq_true rfl) 0 5 rfl rfl rfl ⟨Nat.le_of_ble_eq_true rfl, Nat.le_of_ble_eq_true rfl⟩ ?_
  refine g_aload_n 329 C 2 dL_law_328 rfl rfl ?_
  refine g_aload_n 330 C 0 dL_law_329 rfl rfl ?_
  refine g_iload_n 331 C 3 dL_law_330 rfl rfl ?_
  refine g_iconst 332 C dL_law_331 rfl ?_
  refine g_iadd 333 C dL_law_332 rfl ?_
  refine g_sld 334 D dL_law_333 rfl (by omega) ?_
  refine g_aload_n 335 C 0 dL_law_334 rfl rfl ?_
  refine g_iload_n 336 C 3 dL_law_335 rfl rfl ?_
  refine g_iconst 337 C dL_law_336 rfl ?_
  refine g_iadd 338 C dL_law_337 rfl ?_
  refine g_sld 339 D dL_law_338 rfl (by omega) ?_
  refine g_callVF 342 C [16, 17] dL_law_339 rfl (k_X6_height E l  (by first | exact lX_b _ _ | assumption | omega) (by first | exact lX_b _ _ | assumption | omega) (by first | exact lX_b _ _ | assumption | omega) (by first | exact lX_b _ _ | assumption | omega)) (cwV 2 C.2.2.2.2.1 gL_law_X6_height rfl rfl rfl cdX6_height ⟨Nat.le_of_ble_eq_true rfl, Nat.le_of_ble_eq_true rfl⟩) rfl rfl rfl rfl (Nat.le_of_ble_eq_true rfl) 16 6 rfl rfl rfl ⟨Nat.le_of_ble_eq_true rfl, Nat.le_of_ble_eq_true rfl⟩ ?_
  refine g_lcE 343 1280 C dL_law_342 rfl dL_law_343 (by decide) (rfl) ?_
  exact kk hB hh hse hn hpw hjo hjq hS
theorem cdX5_sideOf : yX5_sideOf.cls = RX5 ∧ yX5_sideOf.cls ≠ "java/lang/invoke/MethodHandle" ∧ yX5_sideOf.cls ≠ "java/lang/invoke/VarHandle" ∧ (parseMethodDescriptor yX5_sideOf.desc).map (fun d => d.parameters.length) = some 2 := by decide +kernel
theorem cdX6_sideOf : yX6_sideOf.cls = RX6 ∧ yX6_sideOf.cls ≠ "java/lang/invoke/MethodHandle" ∧ yX6_sideOf.cls ≠ "java/lang/invoke/VarHandle" ∧ (parseMethodDescriptor yX6_sideOf.desc).map (fun d => d.parameters.length) = some 2 := by decide +kernel
set_option maxHeartbeats 4000000 in
set_option maxRecDepth 100000 in
theorem law_5 {p : Program} {l : Launch} {e : Env} {s : State} {m : MethodId} {below : List Frame} {meth : Method} {c : Code} {b L : Nat} {xs : Nat → Int32} {E : gE} {a_X a_P a_hs a_se a_L a_pc a_tn a_R a_sh a_fi a_wa a_us a_ly a_jl a_D a_Q a_M a_Mh a_Mp a_Mt a_Ma a_Mu a_Mi a_Mx a_My a_Ms a_Ml a_Mc a_Mg : Nat} {aS aC : Int → Nat} {W h n jo fo sp fd tc tr ft mL mN mfd : Int} {hs se pc tn sh fi wa us ly jl qa qf mus ja jt ss sl sc hg TH LN SZ : Int → Int} {CE : Int → Int → Int} {now md : Int64} {sf : Int → Option Nat} {i : Int} (D : lC p s m meth c b L xs E) (hsf : ∀ j : Int, 0 ≤ j ∧ j < 4 → sf j = some (aS j)) (hi : 0 ≤ i ∧ i + 6 ≤ L) (hB : 1 ≤ W ∧ W ≤ 5 ∧ 1 ≤ h ∧ h ≤ 5) (hh : hB9 hs) (hse : ∀ p e : Int, 0 ≤ p ∧ p < W * h → 0 ≤ e ∧ e < 4 → se (p * 4 + e) = sdI W h p e) (hn : 0 ≤ n ∧ n ≤ 25) (hpw : ∀ j : Int, 0 ≤ j ∧ j < n → (0 ≤ pc j ∧ pc j < W * h) ∧ 0 ≤ tn j ∧ tn j < 4) (hjo : jo = 0 ∨ jo = 1) (hjq : jo = 1 → ∀ j : Int, 0 ≤ j ∧ j < W * h → jl j = ja j * 4 + jt j ∧ (0 ≤ ja j ∧ ja j < 25) ∧ 0 ≤ jt j ∧ jt j < 4) (hS : lshI TH LN SZ CE ss sl sc) (kk : ∀ {W h n jo fo sp fd tc tr ft mL mN mfd : Int} {hs se pc tn sh fi wa us ly jl qa qf mus ja jt ss sl sc hg TH LN SZ : Int → Int} {CE : Int → Int → Int} {now md : Int64}, (1 ≤ W ∧ W ≤ 5 ∧ 1 ≤ h ∧ h ≤ 5) → (hB9 hs) → (∀ p e : Int, 0 ≤ p ∧ p < W * h → 0 ≤ e ∧ e < 4 → se (p * 4 + e) = sdI W h p e) → (0 ≤ n ∧ n ≤ 25) → (∀ j : Int, 0 ≤ j ∧ j < n → (0 ≤ pc j ∧ pc j < W * h) ∧ 0 ≤ tn j ∧ tn j < 4) → (jo = 0 ∨ jo = 1) → (jo = 1 → ∀ j : Int, 0 ≤ j ∧ j < W * h → jl j = ja j * 4 + jt j ∧ (0 ≤ ja j ∧ ja j < 25) ∧ 0 ≤ jt j ∧ jt j < 4) → (lshI TH LN SZ CE ss sl sc) → lJ p l e s m below meth c b 37 2231 E ((a_X, .inr (5, [.ref a_P, .ref a_L, .ref a_R, .ref a_D, .ref a_Q, .int (iI tr), .int (iI ft)])) :: (a_P, .inr (1, [.ref a_hs, .ref a_se, .int (iI W), .int (iI h)])) :: (a_hs, aI E 200 hs) :: (a_se, aI E 100 se) :: (a_L, .inr (2, [.ref a_pc, .ref a_tn, .int (iI n)])) :: (a_pc, aI E 25 pc) :: (a_tn, aI E 25 tn) :: (a_R, .inr (3, [.ref a_P, .ref a_L, .ref a_sh, .ref a_fi, .ref a_wa, .ref a_us, .ref a_ly, .ref a_jl, .int (iI jo), .int (iI fo), .int (iI sp), .int (iI fd), .int (iI tc)])) :: (a_sh, aI E 400 sh) :: (a_fi, aI E 400 fi) :: (a_wa, aI E 100 wa) :: (a_us, aZ E 25 us) :: (a_ly, aI E 25 ly) :: (a_jl, aI E 25 jl) :: (a_D, .inr (0, [.long now])) :: (a_Q, aQ E 4 sf) :: (a_M, .inr (6, [.int (iI ft), .int (iI W), .int (iI h), .ref a_Mh, .long md, .int (iI mL), .int (iI mN), .int (iI n), .ref a_Mp, .ref a_Mt, .int (iI tc), .int (iI mfd), .ref a_Ma, .ref a_Mu, .ref a_Mi, .int (iI jo), .ref a_Mx, .ref a_My, .ref a_Ms, .ref a_Ml, .ref a_Mc, .ref a_Mg, .int (iI tr)])) :: (a_Mh, aI E 200 hs) :: (a_Mp, aI E 25 pc) :: (a_Mt, aI E 25 tn) :: (a_Ma, aI E 26 qa) :: (a_Mu, aI E 26 qf) :: (a_Mi, aZ E 25 mus) :: (a_Mx, aI E 25 ja) :: (a_My, aI E 25 jt) :: (a_Ms, aI E 4 ss) :: (a_Ml, aI E 4 sl) :: (a_Mc, aI E 200 sc) :: (a_Mg, aI E 50 hg) :: (aS 0, .inr (4, [.ref (aC 0), .int (iI (TH 0)), .int (iI (LN 0)), .int (iI (SZ 0))])) :: (aC 0, aI E 50 (CE 0)) :: (aS 1, .inr (4, [.ref (aC 1), .int (iI (TH 1)), .int (iI (LN 1)), .int (iI (SZ 1))])) :: (aC 1, aI E 50 (CE 1)) :: (aS 2, .inr (4, [.ref (aC 2), .int (iI (TH 2)), .int (iI (LN 2)), .int (iI (SZ 2))])) :: (aC 2, aI E 50 (CE 2)) :: (aS 3, .inr (4, [.ref (aC 3), .int (iI (TH 3)), .int (iI (LN 3)), .int (iI (SZ 3))])) :: (aC 3, aI E 50 (CE 3)) :: []) [(0, .ref b), (1, .ref a_X), (2, .ref a_M), (3, .int (iI i))] 1280 []) : lJ p l e s m below meth c b 37 2231 E ((a_X, .inr (5, [.ref a_P, .ref a_L, .ref a_R, .ref a_D, .ref a_Q, .int (iI tr), .int (iI ft)])) :: (a_P, .inr (1, [.ref a_hs, .ref a_se, .int (iI W), .int (iI h)])) :: (a_hs, aI E 200 hs) :: (a_se, aI E 100 se) :: (a_L, .inr (2, [.ref a_pc, .ref a_tn, .int (iI n)])) :: (a_pc, aI E 25 pc) :: (a_tn, aI E 25 tn) :: (a_R, .inr (3, [.ref a_P, .ref a_L, .ref a_sh, .ref a_fi, .ref a_wa, .ref a_us, .ref a_ly, .ref a_jl, .int (iI jo), .int (iI fo), .int (iI sp), .int (iI fd), .int (iI tc)])) :: (a_sh, aI E 400 sh) :: (a_fi, aI E 400 fi) :: (a_wa, aI E 100 wa) :: (a_us, aZ E 25 us) :: (a_ly, aI E 25 ly) :: (a_jl, aI E 25 jl) :: (a_D, .inr (0, [.long now])) :: (a_Q, aQ E 4 sf) :: (a_M, .inr (6, [.int (iI ft), .int (iI W), .int (iI h), .ref a_Mh, .long md, .int (iI mL), .int (iI mN), .int (iI n), .ref a_Mp, .ref a_Mt, .int (iI tc), .int (iI mfd), .ref a_Ma, .ref a_Mu, .ref a_Mi, .int (iI jo), .ref a_Mx, .ref a_My, .ref a_Ms, .ref a_Ml, .ref a_Mc, .ref a_Mg, .int (iI tr)])) :: (a_Mh, aI E 200 hs) :: (a_Mp, aI E 25 pc) :: (a_Mt, aI E 25 tn) :: (a_Ma, aI E 26 qa) :: (a_Mu, aI E 26 qf) :: (a_Mi, aZ E 25 mus) :: (a_Mx, aI E 25 ja) :: (a_My, aI E 25 jt) :: (a_Ms, aI E 4 ss) :: (a_Ml, aI E 4 sl) :: (a_Mc, aI E 200 sc) :: (a_Mg, aI E 50 hg) :: (aS 0, .inr (4, [.ref (aC 0), .int (iI (TH 0)), .int (iI (LN 0)), .int (iI (SZ 0))])) :: (aC 0, aI E 50 (CE 0)) :: (aS 1, .inr (4, [.ref (aC 1), .int (iI (TH 1)), .int (iI (LN 1)), .int (iI (SZ 1))])) :: (aC 1, aI E 50 (CE 1)) :: (aS 2, .inr (4, [.ref (aC 2), .int (iI (TH 2)), .int (iI (LN 2)), .int (iI (SZ 2))])) :: (aC 2, aI E 50 (CE 2)) :: (aS 3, .inr (4, [.ref (aC 3), .int (iI (TH 3)), .int (iI (LN 3)), .int (iI (SZ 3))])) :: (aC 3, aI E 50 (CE 3)) :: []) [(0, .ref b), (1, .ref a_X), (2, .ref a_M), (3, .int (iI i))] 411 [] := by
  have C := D.1
  have hL0 := D.2.2.2.2
  refine g_aload_n 412 C 1 dL_law_411 rfl rfl ?_
  refine g_aload_n 413 C 0 dL_law_412 rfl rfl ?_
  refine g_iload_n 414 C 3 dL_law_413 rfl rfl ?_
  refine g_iconst 415 C dL_law_414 rfl ?_
  refine g_iadd 416 C dL_law_415 rfl ?_
  refine g_sld 417 D dL_law_416 rfl (by omega) ?_
  refine g_aload_n 418 C 0 dL_law_417 rfl rfl ?_
  refine g_iload_n 419 C 3 dL_law_418 rfl rfl ?_
  refine g_iconst 420 C dL_law_419 rfl ?_
  refine g_iadd 421 C dL_law_420 rfl ?_
  refine g_sld 422 D dL_law_421 rfl (by omega) ?_
  refine g_callVF 425 C [0, 1, 3] dL_law_422 rfl (k_X5_sideOf E l  (by first | exact lX_b _ _ | assumption | omega) (by first | exact lX_b _ _ | assumption | omega) (by first | exact lX_b _ _ | assumption | omega) (by first | exact lX_b _ _ | assumption | omega)) (cwV 2 C.2.2.2.2.1 gL_law_X5_sideOf rfl rfl rfl cdX5_sideOf ⟨Nat.le_of_ble_eq_true rfl, Nat.le_of_ble_eq_true rfl⟩) rfl rfl rfl rfl (Nat.le_of_ble_eq_true rfl) 0 5 rfl rfl rfl ⟨Nat.le_of_ble_eq_true rfl, Nat.le_of_ble_eq_true rfl⟩ ?_
  refine g_aload_n 426 C 2 dL_law_425 rfl rfl ?_
  refine g_aload_n 427 C 0 dL_law_426 rfl rfl ?_
  refine g_iload_n 428 C 3 dL_law_427 rfl rfl ?_
  refine g_iconst 429 C dL_law_428 rfl ?_
  refine g_iadd 430 C dL_law_429 rfl ?_
  refine g_sld 431 D dL_law_430 rfl (by omega) ?_
  refine g_aload_n 432 C 0 dL_law_431 rfl rfl ?_
  refine g_iload_n 433 C 3 dL_law_432 rfl rfl ?_
  refine g_iconst 434 C dL_law_433 rfl ?_
  refine g_iadd 435 C dL_law_434 rfl ?_
  refine g_sld 436 D dL_law_435 rfl (by omega) ?_
  refine g_callVF 439 C [16] dL_law_436 rfl (k_X6_sideOf E l  (by first | exact lX_b _ _ | assumption | omega) (by first | exact lX_b _ _ | assumption | omega) (by first | exact lX_b _ _ | assumption | omega)) (cwV 2 C.2.2.2.2.1 gL_law_X6_sideOf rfl rfl rfl cdX6_sideOf ⟨Nat.le_of_ble_eq_true rfl, Nat.le_of_ble_eq_true rfl⟩) rfl rfl rfl rfl (Nat.le_of_ble_eq_true rfl) 16 6 rfl rfl rfl ⟨Nat.le_of_ble_eq_true rfl, Nat.le_of_ble_eq_true rfl⟩ ?_
  refine g_cmpE 1280 C dL_law_439 (by decide) (rfl) ?_
  exact kk hB hh hse hn hpw hjo hjq hS
