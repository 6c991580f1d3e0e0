set_option maxHeartbeats 4000000 in
set_option maxRecDepth 100000 in
theorem law_sw {p : Program} {l : Launch} {e : Env} {s : State} {m : MethodId} {below : List Frame} {meth : Method} {c : Code} {b L : Nat} {xs : Nat → Int32} {E : gE} {a_X a_P a_hs a_se a_L a_pc a_tn a_R a_sh a_fi a_wa a_us a_ly a_jl a_D a_Q a_M a_Mh a_Mp a_Mt a_Ma a_Mu a_Mi a_Mx a_My a_Ms a_Ml a_Mc a_Mg : Nat} {aS aC : Int → Nat} {W h n jo fo sp fd tc tr ft mL mN mfd : Int} {hs se pc tn sh fi wa us ly jl qa qf mus ja jt ss sl sc hg TH LN SZ : Int → Int} {CE : Int → Int → Int} {now md : Int64} {sf : Int → Option Nat} {i a : Int} (D : lC p s m meth c b L xs E) (hsf : ∀ j : Int, 0 ≤ j ∧ j < 4 → sf j = some (aS j)) (hi : 0 ≤ i ∧ i + 6 ≤ L) (hr : -2147483648 ≤ a ∧ a < 2147483648) (hB : 1 ≤ W ∧ W ≤ 5 ∧ 1 ≤ h ∧ h ≤ 5) (hh : hB9 hs) (hse : ∀ p e : Int, 0 ≤ p ∧ p < W * h → 0 ≤ e ∧ e < 4 → se (p * 4 + e) = sdI W h p e) (hn : 0 ≤ n ∧ n ≤ 25) (hpw : ∀ j : Int, 0 ≤ j ∧ j < n → (0 ≤ pc j ∧ pc j < W * h) ∧ 0 ≤ tn j ∧ tn j < 4) (hjo : jo = 0 ∨ jo = 1) (hjq : jo = 1 → ∀ j : Int, 0 ≤ j ∧ j < W * h → jl j = ja j * 4 + jt j ∧ (0 ≤ ja j ∧ ja j < 25) ∧ 0 ≤ jt j ∧ jt j < 4) (hS : lshI TH LN SZ CE ss sl sc) (kk : ∀ {W h n jo fo sp fd tc tr ft mL mN mfd : Int} {hs se pc tn sh fi wa us ly jl qa qf mus ja jt ss sl sc hg TH LN SZ : Int → Int} {CE : Int → Int → Int} {now md : Int64}, (1 ≤ W ∧ W ≤ 5 ∧ 1 ≤ h ∧ h ≤ 5) → (hB9 hs) → (∀ p e : Int, 0 ≤ p ∧ p < W * h → 0 ≤ e ∧ e < 4 → se (p * 4 + e) = sdI W h p e) → (0 ≤ n ∧ n ≤ 25) → (∀ j : Int, 0 ≤ j ∧ j < n → (0 ≤ pc j ∧ pc j < W * h) ∧ 0 ≤ tn j ∧ tn j < 4) → (jo = 0 ∨ jo = 1) → (jo = 1 → ∀ j : Int, 0 ≤ j ∧ j < W * h → jl j = ja j * 4 + jt j ∧ (0 ≤ ja j ∧ ja j < 25) ∧ 0 ≤ jt j ∧ jt j < 4) → (lshI TH LN SZ CE ss sl sc) → lJ p l e s m below meth c b 37 2231 E ((a_X, .inr (5, [.ref a_P, .ref a_L, .ref a_R, .ref a_D, .ref a_Q, .int (iI tr), .int (iI ft)])) :: (a_P, .inr (1, [.ref a_hs, .ref a_se, .int (iI W), .int (iI h)])) :: (a_hs, aI E 200 hs) :: (a_se, aI E 100 se) :: (a_L, .inr (2, [.ref a_pc, .ref a_tn, .int (iI n)])) :: (a_pc, aI E 25 pc) :: (a_tn, aI E 25 tn) :: (a_R, .inr (3, [.ref a_P, .ref a_L, .ref a_sh, .ref a_fi, .ref a_wa, .ref a_us, .ref a_ly, .ref a_jl, .int (iI jo), .int (iI fo), .int (iI sp), .int (iI fd), .int (iI tc)])) :: (a_sh, aI E 400 sh) :: (a_fi, aI E 400 fi) :: (a_wa, aI E 100 wa) :: (a_us, aZ E 25 us) :: (a_ly, aI E 25 ly) :: (a_jl, aI E 25 jl) :: (a_D, .inr (0, [.long now])) :: (a_Q, aQ E 4 sf) :: (a_M, .inr (6, [.int (iI ft), .int (iI W), .int (iI h), .ref a_Mh, .long md, .int (iI mL), .int (iI mN), .int (iI n), .ref a_Mp, .ref a_Mt, .int (iI tc), .int (iI mfd), .ref a_Ma, .ref a_Mu, .ref a_Mi, .int (iI jo), .ref a_Mx, .ref a_My, .ref a_Ms, .ref a_Ml, .ref a_Mc, .ref a_Mg, .int (iI tr)])) :: (a_Mh, aI E 200 hs) :: (a_Mp, aI E 25 pc) :: (a_Mt, aI E 25 tn) :: (a_Ma, aI E 26 qa) :: (a_Mu, aI E 26 qf) :: (a_Mi, aZ E 25 mus) :: (a_Mx, aI E 25 ja) :: (a_My, aI E 25 jt) :: (a_Ms, aI E 4 ss) :: (a_Ml, aI E 4 sl) :: (a_Mc, aI E 200 sc) :: (a_Mg, aI E 50 hg) :: (aS 0, .inr (4, [.ref (aC 0), .int (iI (TH 0)), .int (iI (LN 0)), .int (iI (SZ 0))])) :: (aC 0, aI E 50 (CE 0)) :: (aS 1, .inr (4, [.ref (aC 1), .int (iI (TH 1)), .int (iI (LN 1)), .int (iI (SZ 1))])) :: (aC 1, aI E 50 (CE 1)) :: (aS 2, .inr (4, [.ref (aC 2), .int (iI (TH 2)), .int (iI (LN 2)), .int (iI (SZ 2))])) :: (aC 2, aI E 50 (CE 2)) :: (aS 3, .inr (4, [.ref (aC 3), .int (iI (TH 3)), .int (iI (LN 3)), .int (iI (SZ 3))])) :: (aC 3, aI E 50 (CE 3)) :: []) [(0, .ref b), (1, .ref a_X), (2, .ref a_M), (3, .int (iI i))] 1280 []) : lJ p l e s m below meth c b 37 2231 E ((a_X, .inr (5, [.ref a_P, .ref a_L, .ref a_R, .ref a_D, .ref a_Q, .int (iI tr), .int (iI ft)])) :: (a_P, .inr (1, [.ref a_hs, .ref a_se, .int (iI W), .int (iI h)])) :: (a_hs, aI E 200 hs) :: (a_se, aI E 100 se) :: (a_L, .inr (2, [.ref a_pc, .ref a_tn, .int (iI n)])) :: (a_pc, aI E 25 pc) :: (a_tn, aI E 25 tn) :: (a_R, .inr (3, [.ref a_P, .ref a_L, .ref a_sh, .ref a_fi, .ref a_wa, .ref a_us, .ref a_ly, .ref a_jl, .int (iI jo), .int (iI fo), .int (iI sp), .int (iI fd), .int (iI tc)])) :: (a_sh, aI E 400 sh) :: (a_fi, aI E 400 fi) :: (a_wa, aI E 100 wa) :: (a_us, aZ E 25 us) :: (a_ly, aI E 25 ly) :: (a_jl, aI E 25 jl) :: (a_D, .inr (0, [.long now])) :: (a_Q, aQ E 4 sf) :: (a_M, .inr (6, [.int (iI ft), .int (iI W), .int (iI h), .ref a_Mh, .long md, .int (iI mL), .int (iI mN), .int (iI n), .ref a_Mp, .ref a_Mt, .int (iI tc), .int (iI mfd), .ref a_Ma, .ref a_Mu, .ref a_Mi, .int (iI jo), .ref a_Mx, .ref a_My, .ref a_Ms, .ref a_Ml, .ref a_Mc, .ref a_Mg, .int (iI tr)])) :: (a_Mh, aI E 200 hs) :: (a_Mp, aI E 25 pc) :: (a_Mt, aI E 25 tn) :: (a_Ma, aI E 26 qa) :: (a_Mu, aI E 26 qf) :: (a_Mi, aZ E 25 mus) :: (a_Mx, aI E 25 ja) :: (a_My, aI E 25 jt) :: (a_Ms, aI E 4 ss) :: (a_Ml, aI E 4 sl) :: (a_Mc, aI E 200 sc) :: (a_Mg, aI E 50 hg) :: (aS 0, .inr (4, [.ref (aC 0), .int (iI (TH 0)), .int (iI (LN 0)), .int (iI (SZ 0))])) :: (aC 0, aI E 50 (CE 0)) :: (aS 1, .inr (4, [.ref (aC 1), .int (iI (TH 1)), .int (iI (LN 1)), .int (iI (SZ 1))])) :: (aC 1, aI E 50 (CE 1)) :: (aS 2, .inr (4, [.ref (aC 2), .int (iI (TH 2)), .int (iI (LN 2)), .int (iI (SZ 2))])) :: (aC 2, aI E 50 (CE 2)) :: (aS 3, .inr (4, [.ref (aC 3), .int (iI (TH 3)), .int (iI (LN 3)), .int (iI (SZ 3))])) :: (aC 3, aI E 50 (CE 3)) :: []) [(0, .ref b), (1, .ref a_X), (2, .ref a_M), (3, .int (iI i))] 33 [.int (iI a)] := by
  have C := D.1
  refine g_split (a = 0) ?_ ?_
  · intro hz
    refine g_tsw 184 C 0 dL_law_33 hr hz (by decide) (by decide) rfl (by decide) ?_
    exact law_0 D hsf hi hB hh hse hn hpw hjo hjq hS @kk
  intro h0
  refine g_split (a = 1) ?_ ?_
  · intro hz
    refine g_tsw 217 C 1 dL_law_33 hr hz (by decide) (by decide) rfl (by decide) ?_
    exact law_1 D hsf hi hB hh hse hn hpw hjo hjq hS @kk
  intro h1
  refine g_split (a = 2) ?_ ?_
  · intro hz
    refine g_tsw 270 C 2 dL_law_33 hr hz (by decide) (by decide) rfl (by decide) ?_
    exact law_2 D hsf hi hB hh hse hn hpw hjo hjq hS @kk
  intro h2
  refine g_split (a = 3) ?_ ?_
  · intro hz
    refine g_tsw 314 C 3 dL_law_33 hr hz (by decide) (by decide) rfl (by decide) ?_
    exact law_3 D hsf hi hB hh hse hn hpw hjo hjq hS @kk
  intro h3
  refine g_split (a = 4) ?_ ?_
  · intro hz
    refine g_tsw 348 C 4 dL_law_33 hr hz (by decide) (by decide) rfl (by decide) ?_
    exact law_4 D hsf hi hB hh hse hn hpw hjo hjq hS @kk
  intro h4
  refine g_split (a = 5) ?_ ?_
  · intro hz
    refine g_tsw 411 C 5 dL_law_33 hr hz (by decide) (by decide) rfl (by decide) ?_
    exact law_5 D hsf hi hB hh hse hn hpw hjo hjq hS @kk
  intro h5
  refine g_split (a = 6) ?_ ?_
  · intro hz
    refine g_tsw 444 C 6 dL_law_33 hr hz (by decide) (by decide) rfl (by decide) ?_
    exact law_6 D hsf hi hB hh hse hn hpw hjo hjq hS @kk
  intro h6
  refine g_split (a = 7) ?_ ?_
  · intro hz
    refine g_tsw 488 C 7 dL_law_33 hr hz (by decide) (by decide) rfl (by decide) ?_
    exact law_7 D hsf hi hB hh hse hn hpw hjo hjq hS @kk
  intro h7
  refine g_split (a = 8) ?_ ?_
  · intro hz
    refine g_tsw 541 C 8 dL_law_33 hr hz (by decide) (by decide) rfl (by decide) ?_
    exact law_8 D hsf hi hB hh hse hn hpw hjo hjq hS @kk
  intro h8
  refine g_split (a = 9) ?_ ?_
  · intro hz
    refine g_tsw 564 C 9 dL_law_33 hr hz (by decide) (by decide) rfl (by decide) ?_
    exact law_9 D hsf hi hB hh hse hn hpw hjo hjq hS @kk
  intro h9
  refine g_split (a = 10) ?_ ?_
  · intro hz
    refine g_tsw 577 C 10 dL_law_33 hr hz (by decide) (by decide) rfl (by decide) ?_
    exact law_10 D hsf hi hB hh hse hn hpw hjo hjq hS @kk
  intro h10
  refine g_split (a = 11) ?_ ?_
  · intro hz
    refine g_tsw 600 C 11 dL_law_33 hr hz (by decide) (by decide) rfl (by decide) ?_
    exact law_11 D hsf hi hB hh hse hn hpw hjo hjq hS @kk
  intro h11
  refine g_split (a = 12) ?_ ?_
  · intro hz
    refine g_tsw 643 C 12 dL_law_33 hr hz (by decide) (by decide) rfl (by decide) ?_
    exact law_12 D hsf hi hB hh hse hn hpw hjo hjq hS @kk
  intro h12
  refine g_split (a = 13) ?_ ?_
  · intro hz
    refine g_tsw 676 C 13 dL_law_33 hr hz (by decide) (by decide) rfl (by decide) ?_
    exact law_13 D hsf hi hB hh hse hn hpw hjo hjq hS @kk
  intro h13
  refine g_split (a = 14) ?_ ?_
  · intro hz
    refine g_tsw 729 C 14 dL_law_33 hr hz (by decide) (by decide) rfl (by decide) ?_
    exact law_14 D hsf hi hB hh hse hn hpw hjo hjq hS @kk
  intro h14
  refine g_split (a = 15) ?_ ?_
  · intro hz
    refine g_tsw 752 C 15 dL_law_33 hr hz (by decide) (by decide) rfl (by decide) ?_
    exact law_15 D hsf hi hB hh hse hn hpw hjo hjq hS @kk
  intro h15
  refine g_split (a = 16) ?_ ?_
  · intro hz
    refine g_tsw 785 C 16 dL_law_33 hr hz (by decide) (by decide) rfl (by decide) ?_
    exact law_16 D hsf hi hB hh hse hn hpw hjo hjq hS @kk
  intro h16
  refine g_split (a = 17) ?_ ?_
  · intro hz
    refine g_tsw 808 C 17 dL_law_33 hr hz (by decide) (by decide) rfl (by decide) ?_
    exact law_17 D hsf hi hB hh hse hn hpw hjo hjq hS @kk
  intro h17
  refine g_split (a = 18) ?_ ?_
  · intro hz
    refine g_tsw 841 C 18 dL_law_33 hr hz (by decide) (by decide) rfl (by decide) ?_
    exact law_18 D hsf hi hB hh hse hn hpw hjo hjq hS @kk
  intro h18
  refine g_split (a = 19) ?_ ?_
  · intro hz
    refine g_tsw 854 C 19 dL_law_33 hr hz (by decide) (by decide) rfl (by decide) ?_
    exact law_19 D hsf hi hB hh hse hn hpw hjo hjq hS @kk
  intro h19
  refine g_split (a = 20) ?_ ?_
  · intro hz
    refine g_tsw 867 C 20 dL_law_33 hr hz (by decide) (by decide) rfl (by decide) ?_
    exact law_20 D hsf hi hB hh hse hn hpw hjo hjq hS @kk
  intro h20
  refine g_split (a = 21) ?_ ?_
  · intro hz
    refine g_tsw 900 C 21 dL_law_33 hr hz (by decide) (by decide) rfl (by decide) ?_
    exact law_21 D hsf hi hB hh hse hn hpw hjo hjq hS @kk
  intro h21
  refine g_split (a = 22) ?_ ?_
  · intro hz
    refine g_tsw 913 C 22 dL_law_33 hr hz (by decide) (by decide) rfl (by decide) ?_
    exact law_22 D hsf hi hB hh hse hn hpw hjo hjq hS @kk
  intro h22
  refine g_split (a = 23) ?_ ?_
  · intro hz
    refine g_tsw 936 C 23 dL_law_33 hr hz (by decide) (by decide) rfl (by decide) ?_
    exact law_23 D hsf hi hB hh hse hn hpw hjo hjq hS @kk
  intro h23
  refine g_split (a = 24) ?_ ?_
  · intro hz
    refine g_tsw 979 C 24 dL_law_33 hr hz (by decide) (by decide) rfl (by decide) ?_
    exact law_24 D hsf hi hB hh hse hn hpw hjo hjq hS @kk
  intro h24
  refine g_split (a = 25) ?_ ?_
  · intro hz
    refine g_tsw 1002 C 25 dL_law_33 hr hz (by decide) (by decide) rfl (by decide) ?_
    exact law_25 D hsf hi hB hh hse hn hpw hjo hjq hS @kk
  intro h25
  refine g_split (a = 26) ?_ ?_
  · intro hz
    refine g_tsw 1045 C 26 dL_law_33 hr hz (by decide) (by decide) rfl (by decide) ?_
    exact law_26 D hsf hi hB hh hse hn hpw hjo hjq hS @kk
  intro h26
  refine g_split (a = 27) ?_ ?_
  · intro hz
    refine g_tsw 1089 C 27 dL_law_33 hr hz (by decide) (by decide) rfl (by decide) ?_
    exact law_27 D hsf hi hB hh hse hn hpw hjo hjq hS @kk
  intro h27
  refine g_split (a = 28) ?_ ?_
  · intro hz
    refine g_tsw 1152 C 28 dL_law_33 hr hz (by decide) (by decide) rfl (by decide) ?_
    exact law_28 D hsf hi hB hh hse hn hpw hjo hjq hS @kk
  intro h28
  refine g_split (a = 29) ?_ ?_
  · intro hz
    refine g_tsw 1175 C 29 dL_law_33 hr hz (by decide) (by decide) rfl (by decide) ?_
    exact law_29 D hsf hi hB hh hse hn hpw hjo hjq hS @kk
  intro h29
  refine g_split (a = 30) ?_ ?_
  · intro hz
    refine g_tsw 1198 C 30 dL_law_33 hr hz (by decide) (by decide) rfl (by decide) ?_
    exact law_30 D hsf hi hB hh hse hn hpw hjo hjq hS @kk
  intro h30
  refine g_split (a = 31) ?_ ?_
  · intro hz
    refine g_tsw 1231 C 31 dL_law_33 hr hz (by decide) (by decide) rfl (by decide) ?_
    exact law_31 D hsf hi hB hh hse hn hpw hjo hjq hS @kk
  intro h31
  refine g_split (a = 32) ?_ ?_
  · intro hz
    refine g_tsw 1244 C 32 dL_law_33 hr hz (by decide) (by decide) rfl (by decide) ?_
    exact law_32 D hsf hi hB hh hse hn hpw hjo hjq hS @kk
  intro h32
  refine g_split (a = 33) ?_ ?_
  · intro hz
    refine g_tsw 1257 C 33 dL_law_33 hr hz (by decide) (by decide) rfl (by decide) ?_
    exact law_33 D hsf hi hB hh hse hn hpw hjo hjq hS @kk
  intro h33
  refine g_tswd 1280 C dL_law_33 hr (by omega) (by decide) ?_
  exact kk hB hh hse hn hpw hjo hjq hS
set_option maxHeartbeats 4000000 in
set_option maxRecDepth 100000 in
theorem law_loop {p : Program} {l : Launch} {e : Env} {s : State} {m : MethodId} {below : List Frame} {meth : Method} {c : Code} {b L : Nat} {xs : Nat → Int32} {E : gE} {a_X a_P a_hs a_se a_L a_pc a_tn a_R a_sh a_fi a_wa a_us a_ly a_jl a_D a_Q a_M a_Mh a_Mp a_Mt a_Ma a_Mu a_Mi a_Mx a_My a_Ms a_Ml a_Mc a_Mg : Nat} {aS aC : Int → Nat} {sf : Int → Option Nat} (D : lC p s m meth c b L xs E) (hsf : ∀ j : Int, 0 ≤ j ∧ j < 4 → sf j = some (aS j)) : ∀ (μ : Nat) {W h n jo fo sp fd tc tr ft mL mN mfd : Int} {hs se pc tn sh fi wa us ly jl qa qf mus ja jt ss sl sc hg TH LN SZ : Int → Int} {CE : Int → Int → Int} {now md : Int64} {i : Int}, ((L : Int) - i).toNat < μ → 0 ≤ i ∧ i ≤ L → (1 ≤ W ∧ W ≤ 5 ∧ 1 ≤ h ∧ h ≤ 5) → (hB9 hs) → (∀ p e : Int, 0 ≤ p ∧ p < W * h → 0 ≤ e ∧ e < 4 → se (p * 4 + e) = sdI W h p e) → (0 ≤ n ∧ n ≤ 25) → (∀ j : Int, 0 ≤ j ∧ j < n → (0 ≤ pc j ∧ pc j < W * h) ∧ 0 ≤ tn j ∧ tn j < 4) → (jo = 0 ∨ jo = 1) → (jo = 1 → ∀ j : Int, 0 ≤ j ∧ j < W * h → jl j = ja j * 4 + jt j ∧ (0 ≤ ja j ∧ ja j < 25) ∧ 0 ≤ jt j ∧ jt j < 4) → (lshI TH LN SZ CE ss sl sc) → lJ p l e s m below meth c b 37 2231 E ((a_X, .inr (5, [.ref a_P, .ref a_L, .ref a_R, .ref a_D, .ref a_Q, .int (iI tr), .int (iI ft)])) :: (a_P, .inr (1, [.ref a_hs, .ref a_se, .int (iI W), .int (iI h)])) :: (a_hs, aI E 200 hs) :: (a_se, aI E 100 se) :: (a_L, .inr (2, [.ref a_pc, .ref a_tn, .int (iI n)])) :: (a_pc, aI E 25 pc) :: (a_tn, aI E 25 tn) :: (a_R, .inr (3, [.ref a_P, .ref a_L, .ref a_sh, .ref a_fi, .ref a_wa, .ref a_us, .ref a_ly, .ref a_jl, .int (iI jo), .int (iI fo), .int (iI sp), .int (iI fd), .int (iI tc)])) :: (a_sh, aI E 400 sh) :: (a_fi, aI E 400 fi) :: (a_wa, aI E 100 wa) :: (a_us, aZ E 25 us) :: (a_ly, aI E 25 ly) :: (a_jl, aI E 25 jl) :: (a_D, .inr (0, [.long now])) :: (a_Q, aQ E 4 sf) :: (a_M, .inr (6, [.int (iI ft), .int (iI W), .int (iI h), .ref a_Mh, .long md, .int (iI mL), .int (iI mN), .int (iI n), .ref a_Mp, .ref a_Mt, .int (iI tc), .int (iI mfd), .ref a_Ma, .ref a_Mu, .ref a_Mi, .int (iI jo), .ref a_Mx, .ref a_My, .ref a_Ms, .ref a_Ml, .ref a_Mc, .ref a_Mg, .int (iI tr)])) :: (a_Mh, aI E 200 hs) :: (a_Mp, aI E 25 pc) :: (a_Mt, aI E 25 tn) :: (a_Ma, aI E 26 qa) :: (a_Mu, aI E 26 qf) :: (a_Mi, aZ E 25 mus) :: (a_Mx, aI E 25 ja) :: (a_My, aI E 25 jt) :: (a_Ms, aI E 4 ss) :: (a_Ml, aI E 4 sl) :: (a_Mc, aI E 200 sc) :: (a_Mg, aI E 50 hg) :: (aS 0, .inr (4, [.ref (aC 0), .int (iI (TH 0)), .int (iI (LN 0)), .int (iI (SZ 0))])) :: (aC 0, aI E 50 (CE 0)) :: (aS 1, .inr (4, [.ref (aC 1), .int (iI (TH 1)), .int (iI (LN 1)), .int (iI (SZ 1))])) :: (aC 1, aI E 50 (CE 1)) :: (aS 2, .inr (4, [.ref (aC 2), .int (iI (TH 2)), .int (iI (LN 2)), .int (iI (SZ 2))])) :: (aC 2, aI E 50 (CE 2)) :: (aS 3, .inr (4, [.ref (aC 3), .int (iI (TH 3)), .int (iI (LN 3)), .int (iI (SZ 3))])) :: (aC 3, aI E 50 (CE 3)) :: []) [(0, .ref b), (1, .ref a_X), (2, .ref a_M), (3, .int (iI i))] 18 [] := by
  have C := D.1
  have hL0 := D.2.2.2.2
  intro μ
  induction μ with
  | zero => intro W h n jo fo sp fd tc tr ft mL mN mfd hs se pc tn sh fi wa us ly jl qa qf mus ja jt ss sl sc hg TH LN SZ CE now md i hm; exact absurd hm (Nat.not_lt_zero _)
  | succ μ ih =>
    intro W h n jo fo sp fd tc tr ft mL mN mfd hs se pc tn sh fi wa us ly jl qa qf mus ja jt ss sl sc hg TH LN SZ CE now md i hm hi0 hB hh hse hn hpw hjo hjq hS
    refine g_iload_n 19 C 3 dL_law_18 rfl rfl ?_
    refine g_aload_n 20 C 0 dL_law_19 rfl rfl ?_
    refine g_slen 21 D dL_law_20 rfl ?_
    refine g_bipush 23 C dL_law_21 rfl (by decide) ?_
    refine g_isub 24 C dL_law_23 rfl ?_
    refine g_icmp_gt 1286 27 C dL_law_24 (by decide) rfl (by omega) ?_ ?_
    · intro _
      refine g_iconst 1287 C dL_law_1286 rfl ?_
      exact g_fin D (Nat.le_of_ble_eq_true rfl) (Nat.le_of_ble_eq_true rfl) dL_law_1287
    · intro hg2
      refine g_aload_n 28 C 0 dL_law_27 rfl rfl ?_
      refine g_iload_n 29 C 3 dL_law_28 rfl rfl ?_
      refine g_sld 30 D dL_law_29 rfl (by omega) ?_
      refine g_bipush 32 C dL_law_30 rfl (by decide) ?_
      refine g_iand_r 33 C dL_law_32 rfl ?_
      obtain ⟨a, ha, hr⟩ : ∃ a : Int, iI (lX xs i) &&& iI 63 = iI a ∧ -2147483648 ≤ a ∧ a < 2147483648 := ⟨(iI (lX xs i) &&& iI 63).toInt, (iI_of _).symm, Int32.le_toInt _, Int32.toInt_lt _⟩
      rw [ha]
      refine law_sw D hsf (by omega) hr hB hh hse hn hpw hjo hjq hS ?_
      intro W h n jo fo sp fd tc tr ft mL mN mfd hs se pc tn sh fi wa us ly jl qa qf mus ja jt ss sl sc hg TH LN SZ CE now md hB hh hse hn hpw hjo hjq hS
      refine g_iinc (lv' := [(3, .int (iI (i + 6))), (0, _), (1, _), (2, _)]) 1283 C 3 dL_law_1280 rfl rfl (by decide) rfl ?_
      refine g_goto 18 C dL_law_1283 (by decide) ?_
      refine g_w (lv' := [(0, _), (1, _), (2, _), (3, _)]) [1, 2, 3, 0] rfl rfl ?_
      exact ih (by omega) (by omega) hB hh hse hn hpw hjo hjq hS
