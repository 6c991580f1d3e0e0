theorem k_X5_joined_0 (E : gE) (l : Launch) {a_D a_L a_P a_Q a_R a_X a_fi a_hs a_jl a_ly a_se a_sh a_us a_wa : Nat} {W h z  : Int} {jl : Int → Int} {tr ft : Int} { fo sp fd tc : Int} (hB : 1 ≤ W ∧ W ≤ 5 ∧ 1 ≤ h ∧ h ≤ 5) (hz : 0 ≤ z ∧ z < W * h) (hjl : ∀ j : Int, 0 ≤ j ∧ j < W * h → 0 ≤ jl j ∧ jl j < 100) : gFun E l yX5_joined wsX5_joined { frames := 2, cells := 0, slots := 0, locals := 42 } [.ref a_X, .int (iI z), .int (iI 0)] [(a_X, .inr (5, [.ref a_P, .ref a_L, .ref a_R, .ref a_D, .ref a_Q, .int (iI tr), .int (iI ft)])), (a_P, .inr (1, [.ref a_hs, .ref a_se, .int (iI W), .int (iI h)])), (a_R, .inr (3, [.ref a_P, .ref a_L, .ref a_sh, .ref a_fi, .ref a_wa, .ref a_us, .ref a_ly, .ref a_jl, .int (iI 1), .int (iI fo), .int (iI sp), .int (iI fd), .int (iI tc)])), (a_jl, aI E 25 jl)] (.int (iI (jl z / 4))) := by
  have hN_ := nsd_b hB
  have q_ : gFun E l yX5_joined wsX5_joined { frames := 2, cells := 0, slots := 0, locals := 42 } [.ref a_X, .int (iI z), .int (iI 0)] [(a_X, .inr (5, [.ref a_P, .ref a_L, .ref a_R, .ref a_D, .ref a_Q, .int (iI tr), .int (iI ft)])), (a_P, .inr (1, [.ref a_hs, .ref a_se, .int (iI W), .int (iI h)])), (a_R, .inr (3, [.ref a_P, .ref a_L, .ref a_sh, .ref a_fi, .ref a_wa, .ref a_us, .ref a_ly, .ref a_jl, .int (iI 1), .int (iI fo), .int (iI sp), .int (iI fd), .int (iI tc)])), (a_jl, aI E 25 jl)] (.int (iI (if 1 = 0 then -3 else if ¬ (0 ≤ z ∧ z < W * h) then -1 else if 0 = 0 then jl z / 4 else if 0 = 1 then jl z % 4 else -2))) := k_X5_joined E l (by first | assumption | omega) (Or.inr rfl) (fun _ => hjl) (by first | assumption | omega) (by first | assumption | omega)
  rw [if_neg (by decide), if_neg (fun q => q hz), if_pos rfl] at q_
  exact q_
theorem k_X5_joined_1 (E : gE) (l : Launch) {a_D a_L a_P a_Q a_R a_X a_fi a_hs a_jl a_ly a_se a_sh a_us a_wa : Nat} {W h z  : Int} {jl : Int → Int} {tr ft : Int} { fo sp fd tc : Int} (hB : 1 ≤ W ∧ W ≤ 5 ∧ 1 ≤ h ∧ h ≤ 5) (hz : 0 ≤ z ∧ z < W * h) (hjl : ∀ j : Int, 0 ≤ j ∧ j < W * h → 0 ≤ jl j ∧ jl j < 100) : gFun E l yX5_joined wsX5_joined { frames := 2, cells := 0, slots := 0, locals := 42 } [.ref a_X, .int (iI z), .int (iI 1)] [(a_X, .inr (5, [.ref a_P, .ref a_L, .ref a_R, .ref a_D, .ref a_Q, .int (iI tr), .int (iI ft)])), (a_P, .inr (1, [.ref a_hs, .ref a_se, .int (iI W), .int (iI h)])), (a_R, .inr (3, [.ref a_P, .ref a_L, .ref a_sh, .ref a_fi, .ref a_wa, .ref a_us, .ref a_ly, .ref a_jl, .int (iI 1), .int (iI fo), .int (iI sp), .int (iI fd), .int (iI tc)])), (a_jl, aI E 25 jl)] (.int (iI (jl z % 4))) := by
  have hN_ := nsd_b hB
  have q_ : gFun E l yX5_joined wsX5_joined { frames := 2, cells := 0, slots := 0, locals := 42 } [.ref a_X, .int (iI z), .int (iI 1)] [(a_X, .inr (5, [.ref a_P, .ref a_L, .ref a_R, .ref a_D, .ref a_Q, .int (iI tr), .int (iI ft)])), (a_P, .inr (1, [.ref a_hs, .ref a_se, .int (iI W), .int (iI h)])), (a_R, .inr (3, [.ref a_P, .ref a_L, .ref a_sh, .ref a_fi, .ref a_wa, .ref a_us, .ref a_ly, .ref a_jl, .int (iI 1), .int (iI fo), .int (iI sp), .int (iI fd), .int (iI tc)])), (a_jl, aI E 25 jl)] (.int (iI (if 1 = 0 then -3 else if ¬ (0 ≤ z ∧ z < W * h) then -1 else if 1 = 0 then jl z / 4 else if 1 = 1 then jl z % 4 else -2))) := k_X5_joined E l (by first | assumption | omega) (Or.inr rfl) (fun _ => hjl) (by first | assumption | omega) (by first | assumption | omega)
  rw [if_neg (by decide), if_neg (fun q => q hz), if_neg (by decide), if_pos rfl] at q_
  exact q_
theorem k_X5_take_v (E : gE) (l : Launch) {a_D a_L a_P a_Q a_R a_X a_fi a_jl a_ly a_pc a_sh a_tn a_us a_wa : Nat} {n i : Int} {pc tn : Int → Int} {tr ft : Int} {jo fo sp fd tc : Int} (hn : 0 ≤ n ∧ n ≤ 25) (hi : 0 ≤ i ∧ i < n) : gUpd E l yX5_take wsX5_take { frames := 2, cells := 0, slots := 0, locals := 43 } [.ref a_X, .int (iI i)] [(a_X, .inr (5, [.ref a_P, .ref a_L, .ref a_R, .ref a_D, .ref a_Q, .int (iI tr), .int (iI ft)])), (a_L, .inr (2, [.ref a_pc, .ref a_tn, .int (iI n)])), (a_pc, aI E 25 pc), (a_tn, aI E 25 tn), (a_R, .inr (3, [.ref a_P, .ref a_L, .ref a_sh, .ref a_fi, .ref a_wa, .ref a_us, .ref a_ly, .ref a_jl, .int (iI jo), .int (iI fo), .int (iI sp), .int (iI fd), .int (iI tc)]))] (some (.int (iI (pc i)))) [(a_X, .inr (5, [.ref a_P, .ref a_L, .ref a_R, .ref a_D, .ref a_Q, .int (iI tr), .int (iI ft)])), (a_L, .inr (2, [.ref a_pc, .ref a_tn, .int (iI (n - 1))])), (a_pc, aI E 25 (rmI pc i n)), (a_tn, aI E 25 (rmI tn i n)), (a_R, .inr (3, [.ref a_P, .ref a_L, .ref a_sh, .ref a_fi, .ref a_wa, .ref a_us, .ref a_ly, .ref a_jl, .int (iI 0), .int (iI fo), .int (iI sp), .int (iI fd), .int (iI tc)]))] := by
  have q_ : gUpd E l yX5_take wsX5_take { frames := 2, cells := 0, slots := 0, locals := 43 } [.ref a_X, .int (iI i)] [(a_X, .inr (5, [.ref a_P, .ref a_L, .ref a_R, .ref a_D, .ref a_Q, .int (iI tr), .int (iI ft)])), (a_L, .inr (2, [.ref a_pc, .ref a_tn, .int (iI n)])), (a_pc, aI E 25 pc), (a_tn, aI E 25 tn), (a_R, .inr (3, [.ref a_P, .ref a_L, .ref a_sh, .ref a_fi, .ref a_wa, .ref a_us, .ref a_ly, .ref a_jl, .int (iI jo), .int (iI fo), .int (iI sp), .int (iI fd), .int (iI tc)]))] (some (.int (iI (if 0 ≤ i ∧ i < n then pc i else -1)))) [(a_X, .inr (5, [.ref a_P, .ref a_L, .ref a_R, .ref a_D, .ref a_Q, .int (iI tr), .int (iI ft)])), (a_L, .inr (2, [.ref a_pc, .ref a_tn, .int (iI (if 0 ≤ i ∧ i < n then n - 1 else n))])), (a_pc, aI E 25 (if 0 ≤ i ∧ i < n then rmI pc i n else pc)), (a_tn, aI E 25 (if 0 ≤ i ∧ i < n then rmI tn i n else tn)), (a_R, .inr (3, [.ref a_P, .ref a_L, .ref a_sh, .ref a_fi, .ref a_wa, .ref a_us, .ref a_ly, .ref a_jl, .int (iI (if 0 ≤ i ∧ i < n then 0 else jo)), .int (iI fo), .int (iI sp), .int (iI fd), .int (iI tc)]))] := k_X5_take E l (by first | assumption | omega) (by first | assumption | omega)
  simp only [if_pos hi] at q_
  exact q_
theorem cdX5_join : yX5_join.cls = RX5 ∧ yX5_join.cls ≠ "java/lang/invoke/MethodHandle" ∧ yX5_join.cls ≠ "java/lang/invoke/VarHandle" ∧ (parseMethodDescriptor yX5_join.desc).map (fun d => d.parameters.length) = some 0 := by decide +kernel
theorem cdX5_joined : yX5_joined.cls = RX5 ∧ yX5_joined.cls ≠ "java/lang/invoke/MethodHandle" ∧ yX5_joined.cls ≠ "java/lang/invoke/VarHandle" ∧ (parseMethodDescriptor yX5_joined.desc).map (fun d => d.parameters.length) = some 2 := by decide +kernel
theorem cdX5_take : yX5_take.cls = RX5 ∧ yX5_take.cls ≠ "java/lang/invoke/MethodHandle" ∧ yX5_take.cls ≠ "java/lang/invoke/VarHandle" ∧ (parseMethodDescriptor yX5_take.desc).map (fun d => d.parameters.length) = some 1 := by decide +kernel
theorem cdX5_trials : yX5_trials.cls = RX5 ∧ yX5_trials.cls ≠ "java/lang/invoke/MethodHandle" ∧ yX5_trials.cls ≠ "java/lang/invoke/VarHandle" ∧ (parseMethodDescriptor yX5_trials.desc).map (fun d => d.parameters.length) = some 0 := by decide +kernel
theorem cdX5_ways : yX5_ways.cls = RX5 ∧ yX5_ways.cls ≠ "java/lang/invoke/MethodHandle" ∧ yX5_ways.cls ≠ "java/lang/invoke/VarHandle" ∧ (parseMethodDescriptor yX5_ways.desc).map (fun d => d.parameters.length) = some 0 := by decide +kernel
set_option maxHeartbeats 4000000 in
set_option maxRecDepth 100000 in
theorem law_i {p : Program} {l : Launch} {e : Env} {s : State} {m : MethodId} {below : List Frame} {meth : Method} {c : Code} {b L : Nat} {xs : Nat → Int32} {E : gE} {a_D a_L a_P a_Q a_R a_X a_fi a_fi2 a_hs a_jl a_ly a_pc a_se a_sh a_tn a_us a_wa : Nat} {fd1 tc1 ft1 W h n wf fo sp fd tc tr ft : Int} {hs se pc tn sh fi wa us ly jl fi1 : Int → Int} {now : Int64} (D : lC p s m meth c b L xs E) (hw : 1 ≤ W ∧ W ≤ 3 ∧ 1 ≤ h ∧ h ≤ 3 ∧ (W = 3 → h ≤ 2)) (hn6 : 1 ≤ n ∧ n ≤ 6) (hpw : ∀ j : Int, 0 ≤ j ∧ j < n → (0 ≤ pc j ∧ pc j < W * h) ∧ 0 ≤ tn j ∧ tn j < 4) (hse : ∀ p e : Int, 0 ≤ p ∧ p < W * h → 0 ≤ e ∧ e < 4 → se (p * 4 + e) = sdI W h p e) (hh : hB9 hs) (hwf : wf = 0 ∨ wf = 1) (hwh : wf = 1 → 1 ≤ fd1) (hfr : 0 ≤ fd1 ∧ fd1 ≤ tc1 ∧ tc1 ≤ 60001) (hft : 0 ≤ ft1 ∧ ft1 ≤ 60001) (h0 : en0 (FT W h hs pc tn) n (W * h) fd1 tc1) (h1 : en1 (FT W h hs pc tn) n (W * h) fi1 fd1 tc1 ft1)  : lJ p l e s m below meth c b 105 3059 E [(a_X, .inr (5, [.ref a_P, .ref a_L, .ref a_R, .ref a_D, .ref a_Q, .int (iI tr), .int (iI ft)])), (a_P, .inr (1, [.ref a_hs, .ref a_se, .int (iI W), .int (iI h)])), (a_hs, aI E 200 hs), (a_se, aI E 100 se), (a_L, .inr (2, [.ref a_pc, .ref a_tn, .int (iI n)])), (a_pc, aI E 25 pc), (a_tn, aI E 25 tn), (a_R, .inr (3, [.ref a_P, .ref a_L, .ref a_sh, .ref a_fi, .ref a_wa, .ref a_us, .ref a_ly, .ref a_jl, .int (iI 0), .int (iI fo), .int (iI sp), .int (iI fd), .int (iI tc)])), (a_sh, aI E 400 sh), (a_fi, aI E 400 fi), (a_wa, aI E 100 wa), (a_us, aZ E 25 us), (a_ly, aI E 25 ly), (a_jl, aI E 25 jl), (a_fi2, aI E 20 fi1)] [(0, .ref b), (1, .ref a_X), (2, .int (iI W)), (3, .int (iI h)), (4, .int (iI (W * h))), (5, .int (iI (nsd W h))), (6, .int (iI wf)), (7, .int (iI n)), (13, .ref a_fi2), (15, .int (iI fd1)), (16, .int (iI tc1)), (17, .int (iI ft1))] 903 [] := by
  have C := D.1
  have hL0 := D.2.2.2.2
  have hB : 1 ≤ W ∧ W ≤ 5 ∧ 1 ≤ h ∧ h ≤ 5 := by omega
  have h6 := wh6 hw
  have hN := nsd_b hB
  have hn : 0 ≤ n ∧ n ≤ 25 := by omega
  have hpn : ∀ j : Int, 0 ≤ j ∧ j < n → 0 ≤ pc j ∧ pc j < 25 := fun j hj => by have q := hpw j hj; omega
  refine g_iload 905 C 10 dL_law_903 rfl rfl ?_
  refine g_ldc 907 C (60000) dL_law_905 rfl lL_law_63 (by decide) ?_
  refine g_icmp_le 914 910 C dL_law_907 (by decide) rfl (by omega) ?_ ?_
  · intro h907
    refine g_iconst 915 C dL_law_914 rfl ?_
    refine g_istore (lv' := [(19, _), (0, _), (1, _), (2, _), (3, _), (4, _), (5, _), (6, _), (7, _), (13, _), (15, _), (16, _), (17, _)]) 917 C dL_law_915 rfl (by decide) rfl ?_
    refine g_aload_n 918 C 2 dL_law_917 rfl rfl ?_
    refine g_callV 921 C [0, 7, 1, 2, 3, 4, 5, 6, 8, 9, 10, 11, 12] dL_law_918 rfl (k_X5_ways E l  (by first | assumption | omega) (by first | assumption | omega) (by first | assumption | omega) (by first | assumption | omega) (by first | assumption | omega)) (cwV 0 C.2.2.2.2.1 gL_law_X5_ways rfl rfl rfl cdX5_ways ⟨Nat.le_of_ble_eq_true rfl, Nat.le_of_ble_eq_true rfl⟩) rfl rfl rfl rfl (Nat.le_of_ble_eq_true rfl) 0 5 rfl rfl rfl ⟨Nat.le_of_ble_eq_true rfl, Nat.le_of_ble_eq_true rfl⟩ (fun v w q => by obtain ⟨_, _, _, _, _, _, _, _, -, rfl⟩ := q; rfl) ?_
    rintro _ _ ⟨sh2, fi2, wa2, us2, ly2, sp2, fd2, tc2, ⟨rfl, hR⟩, rfl⟩
    have hr := en_run h0 hR
    refine g_w (ws' := [(_, .inr (5, [_, _, _, _, _, _, _])), (_, .inr (1, [_, _, _, _])), (_, aI _ _ _), (_, aI _ _ _), (_, .inr (2, [_, _, _])), (_, aI _ _ _), (_, aI _ _ _), (_, .inr (3, [_, _, _, _, _, _, _, _, _, _, _, _, _])), (_, aI _ _ _), (_, aI _ _ _), (_, aI _ _ _), (_, aZ _ _ _), (_, aI _ _ _), (_, aI _ _ _), (_, aI _ _ _)]) [0, 1, 2, 3, 4, 5, 6, 7, 8, 9, 10, 11, 12] rfl rfl ?_
    refine g_iload 923 C 0 dL_law_921 rfl rfl ?_
    refine g_if_eq 931 926 C dL_law_923 (by decide) rfl (by omega) ?_ (fun q => absurd q (by omega))
    intro _
    refine g_iload 933 C 10 dL_law_931 rfl rfl ?_
    refine g_cmpN 936 C 955 dL_law_933 (by decide) rfl (congrArg iI ((if_neg (by omega)).trans (by omega))) ?_
    refine g_aload_n 937 C 2 dL_law_936 rfl rfl ?_
    refine g_callVF 940 C [0, 7] dL_law_937 rfl (k_X5_trials E l  ) (cwV 0 C.2.2.2.2.1 gL_law_X5_trials rfl rfl rfl cdX5_trials ⟨Nat.le_of_ble_eq_true rfl, Nat.le_of_ble_eq_true rfl⟩) rfl rfl rfl rfl (Nat.le_of_ble_eq_true rfl) 0 5 rfl rfl rfl ⟨Nat.le_of_ble_eq_true rfl, Nat.le_of_ble_eq_true rfl⟩ ?_
    refine g_iload 942 C 0 dL_law_940 rfl rfl ?_
    refine g_if_eq 950 945 C dL_law_942 (by decide) rfl (by omega) ?_ (fun q => absurd q (by omega))
    intro _
    refine g_iload 952 C 11 dL_law_950 rfl rfl ?_
    refine g_cmpE 957 C dL_law_952 (by decide) (congrArg iI (by omega)) ?_
    refine g_iload 959 C 10 dL_law_957 rfl rfl ?_
    refine g_if_ne 1002 962 C dL_law_959 (by decide) rfl (by omega) ?_ ?_
    · intro h959
      refine g_iload 1004 C 12 dL_law_1002 rfl rfl ?_
      refine g_ldc 1006 C (60000) dL_law_1004 rfl lL_law_63 (by decide) ?_
      refine g_icmp_le 1024 1009 C dL_law_1006 (by decide) rfl (by omega) ?_ ?_
      · intro h1006
        refine g_aload_n 1025 C 2 dL_law_1024 rfl rfl ?_
        refine g_callV 1028 C [0, 7, 1, 2, 3, 4, 5, 6, 8, 9, 10, 11, 12, 13] dL_law_1025 rfl (k_X5_join E l  (by first | assumption | omega) (by first | assumption | omega) (by first | assumption | omega) (by first | assumption | omega) (by first | assumption | omega)) (cwV 0 C.2.2.2.2.1 gL_law_X5_join rfl rfl rfl cdX5_join ⟨Nat.le_of_ble_eq_true rfl, Nat.le_of_ble_eq_true rfl⟩) rfl rfl rfl rfl (Nat.le_of_ble_eq_true rfl) 0 5 rfl rfl rfl ⟨Nat.le_of_ble_eq_true rfl, Nat.le_of_ble_eq_true rfl⟩ (fun v w q => by obtain ⟨_, _, _, _, _, _, _, _, _, _, _, -, rfl⟩ := q; rfl) ?_
        rintro _ _ ⟨sh3, fi3, wa3, us3, ly3, sp3, fd3, tc3, r3, jo3, jl3, ⟨rfl, hR3, h3⟩, rfl⟩
        have hj := en_join h1 hR3 h3
        obtain ⟨hr3, rfl, ht3, hq3⟩ := hj.2.2 (by omega) (by omega)
        refine g_w (ws' := [(_, .inr (5, [_, _, _, _, _, _, _])), (_, .inr (1, [_, _, _, _])), (_, aI _ _ _), (_, aI _ _ _), (_, .inr (2, [_, _, _])), (_, aI _ _ _), (_, aI _ _ _), (_, .inr (3, [_, _, _, _, _, _, _, _, _, _, _, _, _])), (_, aI _ _ _), (_, aI _ _ _), (_, aI _ _ _), (_, aZ _ _ _), (_, aI _ _ _), (_, aI _ _ _), (_, aI _ _ _)]) [0, 1, 2, 3, 4, 5, 6, 7, 8, 9, 10, 11, 12] rfl rfl ?_
        refine g_iconst 1029 C dL_law_1028 rfl ?_
        refine g_cmpN 1032 C 1041 dL_law_1029 (by decide) rfl (congrArg iI hr3) ?_
        refine g_aload_n 1033 C 2 dL_law_1032 rfl rfl ?_
        refine g_callVF 1036 C [0, 7] dL_law_1033 rfl (k_X5_trials E l  ) (cwV 0 C.2.2.2.2.1 gL_law_X5_trials rfl rfl rfl cdX5_trials ⟨Nat.le_of_ble_eq_true rfl, Nat.le_of_ble_eq_true rfl⟩) rfl rfl rfl rfl (Nat.le_of_ble_eq_true rfl) 0 5 rfl rfl rfl ⟨Nat.le_of_ble_eq_true rfl, Nat.le_of_ble_eq_true rfl⟩ ?_
        refine g_iload 1038 C 12 dL_law_1036 rfl rfl ?_
        refine g_cmpE 1043 C dL_law_1038 (by decide) (congrArg iI ht3) ?_
        refine g_iconst 1044 C dL_law_1043 rfl ?_
        refine g_istore (lv' := [(20, _), (19, _), (0, _), (1, _), (2, _), (3, _), (4, _), (5, _), (6, _), (7, _), (13, _), (15, _), (16, _), (17, _)]) 1046 C dL_law_1044 rfl (by decide) rfl ?_
        refine g_loop (α := Int) (fun zz => [(a_X, .inr (5, [.ref a_P, .ref a_L, .ref a_R, .ref a_D, .ref a_Q, .int (iI tr), .int (iI ft)])), (a_P, .inr (1, [.ref a_hs, .ref a_se, .int (iI W), .int (iI h)])), (a_hs, aI E 200 hs), (a_se, aI E 100 se), (a_L, .inr (2, [.ref a_pc, .ref a_tn, .int (iI n)])), (a_pc, aI E 25 pc), (a_tn, aI E 25 tn), (a_R, .inr (3, [.ref a_P, .ref a_L, .ref a_sh, .ref a_fi, .ref a_wa, .ref a_us, .ref a_ly, .ref a_jl, .int (iI 1), .int (iI 1), .int (iI sp3), .int (iI fd3), .int (iI tc3)])), (a_sh, aI E 400 sh3), (a_fi, aI E 400 fi3), (a_wa, aI E 100 wa3), (a_us, aZ E 25 us3), (a_ly, aI E 25 ly3), (a_jl, aI E 25 jl3), (a_fi2, aI E 20 fi1)]) (fun zz => [(20, .int (iI zz)), (17, .int (iI ft1)), (16, .int (iI tc1)), (15, .int (iI fd1)), (13, .ref a_fi2), (7, .int (iI n)), (6, .int (iI wf)), (5, .int (iI (nsd W h))), (4, .int (iI (W * h))), (3, .int (iI h)), (2, .int (iI W)), (1, .ref a_X), (0, .ref b)]) (fun zz => 0 ≤ zz ∧ zz ≤ W * h) (fun zz => (W * h - zz).toNat) (0) (by
            try dsimp only
            exact by omega) [0, 13, 12, 11, 10, 9, 8, 7, 6, 5, 4, 3, 2] rfl rfl ?_
        rintro z hI ih1046
        try dsimp only at hI ih1046 ⊢
        obtain hz := hI
        refine g_iload 1048 C 0 dL_law_1046 rfl rfl ?_
        refine g_iload 1050 C 8 dL_law_1048 rfl rfl ?_
        refine g_icmp_ge 1097 1053 C dL_law_1050 (by decide) rfl (by omega) ?_ ?_
        · intro h1050
          refine g_aload_n 1098 C 11 dL_law_1097 rfl rfl ?_
          refine g_iload 1100 C 8 dL_law_1098 rfl rfl ?_
          refine g_iconst 1101 C dL_law_1100 rfl ?_
          refine g_callVF 1104 C [0, 1, 7, 13] dL_law_1101 rfl (k_X5_joined E l  (by first | assumption | omega) (by first | assumption | omega) (fun _ j hj => (hq3 j hj).2) (by first | assumption | omega) (by first | assumption | omega)) (cwV 2 C.2.2.2.2.1 gL_law_X5_joined rfl rfl rfl cdX5_joined ⟨Nat.le_of_ble_eq_true rfl, Nat.le_of_ble_eq_true rfl⟩) rfl rfl rfl rfl (Nat.le_of_ble_eq_true rfl) 0 5 rfl rfl rfl ⟨Nat.le_of_ble_eq_true rfl, Nat.le_of_ble_eq_true rfl⟩ ?_
          refine g_iconst 1105 C dL_law_1104 rfl ?_
          refine g_cmpN 1108 C 1138 dL_law_1105 (by decide) rfl (congrArg iI ((if_neg (by decide)).trans (if_pos (by omega)))) ?_
          refine g_aload_n 1109 C 11 dL_law_1108 rfl rfl ?_
          refine g_iconst 1110 C dL_law_1109 rfl ?_
          refine g_iconst 1111 C dL_law_1110 rfl ?_
          refine g_callVF 1114 C [0, 1, 7, 13] dL_law_1111 rfl (k_X5_joined E l  (by first | assumption | omega) (by first | assumption | omega) (fun _ j hj => (hq3 j hj).2) (by first | assumption | omega) (by first | assumption | omega)) (cwV 2 C.2.2.2.2.1 gL_law_X5_joined rfl rfl rfl cdX5_joined ⟨Nat.le_of_ble_eq_true rfl, Nat.le_of_ble_eq_true rfl⟩) rfl rfl rfl rfl (Nat.le_of_ble_eq_true rfl) 0 5 rfl rfl rfl ⟨Nat.le_of_ble_eq_true rfl, Nat.le_of_ble_eq_true rfl⟩ ?_
          refine g_bipush 1116 C dL_law_1114 rfl (by decide) ?_
          refine g_cmpN 1119 C 1138 dL_law_1116 (by decide) rfl (congrArg iI ((if_neg (by decide)).trans ((if_neg (by omega)).trans ((if_neg (by decide)).trans (if_neg (by decide)))))) ?_
          refine g_aload_n 1120 C 11 dL_law_1119 rfl rfl ?_
          refine g_iconst 1121 C dL_law_1120 rfl ?_
          refine g_callVU (ws' := [(_, .inr (5, [_, _, _, _, _, _, _])), (_, .inr (1, [_, _, _, _])), (_, aI _ _ _), (_, aI _ _ _), (_, .inr (2, [_, _, _])), (_, aI _ _ _), (_, aI _ _ _), (_, .inr (3, [_, _, _, _, _, _, _, _, _, _, _, _, _])), (_, aI _ _ _), (_, aI _ _ _), (_, aI _ _ _), (_, aZ _ _ _), (_, aI _ _ _), (_, aI _ _ _), (_, aI _ _ _)]) 1124 C [0, 4, 5, 6, 7] dL_law_1121 rfl (k_X5_take_v E l  (by first | assumption | omega) (by first | assumption | omega)) (cwV 1 C.2.2.2.2.1 gL_law_X5_take rfl rfl rfl cdX5_take ⟨Nat.le_of_ble_eq_true rfl, Nat.le_of_ble_eq_true rfl⟩) rfl rfl rfl rfl (Nat.le_of_ble_eq_true rfl) 0 5 rfl rfl rfl ⟨Nat.le_of_ble_eq_true rfl, Nat.le_of_ble_eq_true rfl⟩ rfl rfl ?_
          have hp0 := hpw 0 (by omega)
          refine g_if_lt 1138 1127 C dL_law_1124 (by decide) rfl (by omega) (fun h1124 => absurd h1124 (by omega)) ?_
          intro h1124
          refine g_aload_n 1128 C 11 dL_law_1127 rfl rfl ?_
          refine g_iconst 1129 C dL_law_1128 rfl ?_
          refine g_iconst 1130 C dL_law_1129 rfl ?_
          refine g_callVF 1133 C [0, 1, 7, 13] dL_law_1130 rfl (k_X5_joined E l  (by first | assumption | omega) (by first | assumption | omega) (fun q => absurd q (by decide)) (by first | assumption | omega) (by first | assumption | omega)) (cwV 2 C.2.2.2.2.1 gL_law_X5_joined rfl rfl rfl cdX5_joined ⟨Nat.le_of_ble_eq_true rfl, Nat.le_of_ble_eq_true rfl⟩) rfl rfl rfl rfl (Nat.le_of_ble_eq_true rfl) 0 5 rfl rfl rfl ⟨Nat.le_of_ble_eq_true rfl, Nat.le_of_ble_eq_true rfl⟩ ?_
          refine g_bipush 1135 C dL_law_1133 rfl (by decide) ?_
          refine g_cmpE 1140 C dL_law_1135 (by decide) (congrArg iI (if_pos rfl)) ?_
          refine g_iconst 1141 C dL_law_1140 rfl ?_
          exact g_fin D (Nat.le_of_ble_eq_true rfl) (Nat.le_of_ble_eq_true rfl) dL_law_1141
        · intro h1050
          refine g_aload_n 1054 C 11 dL_law_1053 rfl rfl ?_
          refine g_iload 1056 C 0 dL_law_1054 rfl rfl ?_
          refine g_iconst 1057 C dL_law_1056 rfl ?_
          refine g_callVF 1060 C [0, 1, 7, 13] dL_law_1057 rfl (k_X5_joined_0 E l  (by first | assumption | omega) (by first | assumption | omega) (fun j hj => (hq3 j hj).2)) (cwV 2 C.2.2.2.2.1 gL_law_X5_joined rfl rfl rfl cdX5_joined ⟨Nat.le_of_ble_eq_true rfl, Nat.le_of_ble_eq_true rfl⟩) rfl rfl rfl rfl (Nat.le_of_ble_eq_true rfl) 0 5 rfl rfl rfl ⟨Nat.le_of_ble_eq_true rfl, Nat.le_of_ble_eq_true rfl⟩ ?_
          refine g_aload 1062 C 4 dL_law_1060 rfl rfl ?_
          refine g_iconst 1063 C dL_law_1062 rfl ?_
          refine g_iload 1065 C 0 dL_law_1063 rfl rfl ?_
          refine g_imul 1066 C dL_law_1065 rfl ?_
          refine g_iaload 1067 C 14 dL_law_1066 rfl rfl (by omega) ?_
          refine g_cmpN 1070 C 1089 dL_law_1067 (by decide) rfl (congrArg iI (hq3 z (by omega)).1.1.symm) ?_
          refine g_aload_n 1071 C 11 dL_law_1070 rfl rfl ?_
          refine g_iload 1073 C 0 dL_law_1071 rfl rfl ?_
          refine g_iconst 1074 C dL_law_1073 rfl ?_
          refine g_callVF 1077 C [0, 1, 7, 13] dL_law_1074 rfl (k_X5_joined_1 E l  (by first | assumption | omega) (by first | assumption | omega) (fun j hj => (hq3 j hj).2)) (cwV 2 C.2.2.2.2.1 gL_law_X5_joined rfl rfl rfl cdX5_joined ⟨Nat.le_of_ble_eq_true rfl, Nat.le_of_ble_eq_true rfl⟩) rfl rfl rfl rfl (Nat.le_of_ble_eq_true rfl) 0 5 rfl rfl rfl ⟨Nat.le_of_ble_eq_true rfl, Nat.le_of_ble_eq_true rfl⟩ ?_
          refine g_aload 1079 C 4 dL_law_1077 rfl rfl ?_
          refine g_iconst 1080 C dL_law_1079 rfl ?_
          refine g_iload 1082 C 0 dL_law_1080 rfl rfl ?_
          refine g_imul 1083 C dL_law_1082 rfl ?_
          refine g_iconst 1084 C dL_law_1083 rfl ?_
          refine g_iadd 1085 C dL_law_1084 rfl ?_
          refine g_iaload 1086 C 14 dL_law_1085 rfl rfl (by omega) ?_
          refine g_cmpE 1091 C dL_law_1086 (by decide) (congrArg iI (hq3 z (by omega)).1.2.symm) ?_
          refine g_iinc (lv' := [(20, _), (17, _), (16, _), (15, _), (13, _), (7, _), (6, _), (5, _), (4, _), (3, _), (2, _), (1, _), (0, _)]) 1094 C 0 dL_law_1091 rfl rfl (by decide) rfl ?_
          refine g_goto 1046 C dL_law_1094 (by decide) ?_
          exact g_w [0, 1, 2, 3, 4, 5, 6, 7, 8, 9, 10, 11, 12] rfl rfl (ih1046 ((z + 1)) (by
            try dsimp only
            exact by omega) (by (try dsimp only); omega))
      · intro h1006
        refine g_aload_n 1010 C 2 dL_law_1009 rfl rfl ?_
        refine g_callV 1013 C [0, 7, 1, 2, 3, 4, 5, 6, 8, 9, 10, 11, 12, 13] dL_law_1010 rfl (k_X5_join E l  (by first | assumption | omega) (by first | assumption | omega) (by first | assumption | omega) (by first | assumption | omega) (by first | assumption | omega)) (cwV 0 C.2.2.2.2.1 gL_law_X5_join rfl rfl rfl cdX5_join ⟨Nat.le_of_ble_eq_true rfl, Nat.le_of_ble_eq_true rfl⟩) rfl rfl rfl rfl (Nat.le_of_ble_eq_true rfl) 0 5 rfl rfl rfl ⟨Nat.le_of_ble_eq_true rfl, Nat.le_of_ble_eq_true rfl⟩ (fun v w q => by obtain ⟨_, _, _, _, _, _, _, _, _, _, _, -, rfl⟩ := q; rfl) ?_
        rintro _ _ ⟨sh3, fi3, wa3, us3, ly3, sp3, fd3, tc3, r3, jo3, jl3, ⟨rfl, hR3, h3⟩, rfl⟩
        have hj := en_join h1 hR3 h3
        have hk2 := hj.2.1 (by omega) (by omega)
        refine g_w (ws' := [(_, .inr (5, [_, _, _, _, _, _, _])), (_, .inr (1, [_, _, _, _])), (_, aI _ _ _), (_, aI _ _ _), (_, .inr (2, [_, _, _])), (_, aI _ _ _), (_, aI _ _ _), (_, .inr (3, [_, _, _, _, _, _, _, _, _, _, _, _, _])), (_, aI _ _ _), (_, aI _ _ _), (_, aI _ _ _), (_, aZ _ _ _), (_, aI _ _ _), (_, aI _ _ _), (_, aI _ _ _)]) [0, 1, 2, 3, 4, 5, 6, 7, 8, 9, 10, 11, 12] rfl rfl ?_
        refine g_bipush 1015 C dL_law_1013 rfl (by decide) ?_
        refine g_cmpN 1018 C 1022 dL_law_1015 (by decide) rfl (congrArg iI hk2) ?_
        refine g_iconst 1019 C dL_law_1018 rfl ?_
        refine g_goto 1023 C dL_law_1019 (by decide) ?_
        exact g_fin D (Nat.le_of_ble_eq_true rfl) (Nat.le_of_ble_eq_true rfl) dL_law_1023
    · intro h959
      refine g_aload_n 963 C 2 dL_law_962 rfl rfl ?_
      refine g_callV 966 C [0, 7, 1, 2, 3, 4, 5, 6, 8, 9, 10, 11, 12, 13] dL_law_963 rfl (k_X5_join E l  (by first | assumption | omega) (by first | assumption | omega) (by first | assumption | omega) (by first | assumption | omega) (by first | assumption | omega)) (cwV 0 C.2.2.2.2.1 gL_law_X5_join rfl rfl rfl cdX5_join ⟨Nat.le_of_ble_eq_true rfl, Nat.le_of_ble_eq_true rfl⟩) rfl rfl rfl rfl (Nat.le_of_ble_eq_true rfl) 0 5 rfl rfl rfl ⟨Nat.le_of_ble_eq_true rfl, Nat.le_of_ble_eq_true rfl⟩ (fun v w q => by obtain ⟨_, _, _, _, _, _, _, _, _, _, _, -, rfl⟩ := q; rfl) ?_
      rintro _ _ ⟨sh3, fi3, wa3, us3, ly3, sp3, fd3, tc3, r3, jo3, jl3, ⟨rfl, hR3, h3⟩, rfl⟩
      have hj := en_join h1 hR3 h3
      obtain ⟨rfl, hk1⟩ := hj.1 (by omega)
      refine g_w (ws' := [(_, .inr (5, [_, _, _, _, _, _, _])), (_, .inr (1, [_, _, _, _])), (_, aI _ _ _), (_, aI _ _ _), (_, .inr (2, [_, _, _])), (_, aI _ _ _), (_, aI _ _ _), (_, .inr (3, [_, _, _, _, _, _, _, _, _, _, _, _, _])), (_, aI _ _ _), (_, aI _ _ _), (_, aI _ _ _), (_, aZ _ _ _), (_, aI _ _ _), (_, aI _ _ _), (_, aI _ _ _)]) [0, 1, 2, 3, 4, 5, 6, 7, 8, 9, 10, 11, 12] rfl rfl ?_
      refine g_iload 968 C 0 dL_law_966 rfl rfl ?_
      refine g_if_eq 976 971 C dL_law_968 (by decide) rfl (by omega) ?_ (fun q => absurd q (by omega))
      intro _
      refine g_iconst 977 C dL_law_976 rfl ?_
      refine g_cmpN 980 C 1000 dL_law_977 (by decide) rfl (congrArg iI (by omega)) ?_
      refine g_aload_n 981 C 2 dL_law_980 rfl rfl ?_
      refine g_iconst 982 C dL_law_981 rfl ?_
      refine g_iconst 983 C dL_law_982 rfl ?_
      refine g_callVF 986 C [0, 1, 7, 13] dL_law_983 rfl (k_X5_joined E l  (by first | assumption | omega) (by first | assumption | omega) (fun q => absurd q (by decide)) (by first | assumption | omega) (by first | assumption | omega)) (cwV 2 C.2.2.2.2.1 gL_law_X5_joined rfl rfl rfl cdX5_joined ⟨Nat.le_of_ble_eq_true rfl, Nat.le_of_ble_eq_true rfl⟩) rfl rfl rfl rfl (Nat.le_of_ble_eq_true rfl) 0 5 rfl rfl rfl ⟨Nat.le_of_ble_eq_true rfl, Nat.le_of_ble_eq_true rfl⟩ ?_
      refine g_bipush 988 C dL_law_986 rfl (by decide) ?_
      refine g_cmpN 991 C 1000 dL_law_988 (by decide) rfl (congrArg iI (if_pos rfl)) ?_
      refine g_iload 993 C 7 dL_law_991 rfl rfl ?_
      refine g_if_ne 1000 996 C dL_law_993 (by decide) rfl (by omega) (fun h993 => absurd h993 (by omega)) ?_
      intro h993
      refine g_iconst 997 C dL_law_996 rfl ?_
      refine g_goto 1001 C dL_law_997 (by decide) ?_
      exact g_fin D (Nat.le_of_ble_eq_true rfl) (Nat.le_of_ble_eq_true rfl) dL_law_1001
  · intro h907
    refine g_iconst 911 C dL_law_910 rfl ?_
    refine g_goto 915 C dL_law_911 (by decide) ?_
    refine g_istore (lv' := [(19, _), (0, _), (1, _), (2, _), (3, _), (4, _), (5, _), (6, _), (7, _), (13, _), (15, _), (16, _), (17, _)]) 917 C dL_law_915 rfl (by decide) rfl ?_
    refine g_aload_n 918 C 2 dL_law_917 rfl rfl ?_
    refine g_callV 921 C [0, 7, 1, 2, 3, 4, 5, 6, 8, 9, 10, 11, 12] dL_law_918 rfl (k_X5_ways E l  (by first | assumption | omega) (by first | assumption | omega) (by first | assumption | omega) (by first | assumption | omega) (by first | assumption | omega)) (cwV 0 C.2.2.2.2.1 gL_law_X5_ways rfl rfl rfl cdX5_ways ⟨Nat.le_of_ble_eq_true rfl, Nat.le_of_ble_eq_true rfl⟩) rfl rfl rfl rfl (Nat.le_of_ble_eq_true rfl) 0 5 rfl rfl rfl ⟨Nat.le_of_ble_eq_true rfl, Nat.le_of_ble_eq_true rfl⟩ (fun v w q => by obtain ⟨_, _, _, _, _, _, _, _, -, rfl⟩ := q; rfl) ?_
    rintro _ _ ⟨sh2, fi2, wa2, us2, ly2, sp2, fd2, tc2, ⟨rfl, hR⟩, rfl⟩
    have hr := en_run h0 hR
    refine g_w (ws' := [(_, .inr (5, [_, _, _, _, _, _, _])), (_, .inr (1, [_, _, _, _])), (_, aI _ _ _), (_, aI _ _ _), (_, .inr (2, [_, _, _])), (_, aI _ _ _), (_, aI _ _ _), (_, .inr (3, [_, _, _, _, _, _, _, _, _, _, _, _, _])), (_, aI _ _ _), (_, aI _ _ _), (_, aI _ _ _), (_, aZ _ _ _), (_, aI _ _ _), (_, aI _ _ _), (_, aI _ _ _)]) [0, 1, 2, 3, 4, 5, 6, 7, 8, 9, 10, 11, 12] rfl rfl ?_
    refine g_iload 923 C 0 dL_law_921 rfl rfl ?_
    refine g_if_eq 931 926 C dL_law_923 (by decide) rfl (by omega) (fun q => absurd q (by omega)) ?_
    intro _
    refine g_bipush 928 C dL_law_926 rfl (by decide) ?_
    refine g_goto 933 C dL_law_928 (by decide) ?_
    refine g_cmpN 936 C 955 dL_law_933 (by decide) rfl (congrArg iI (if_pos (by omega))) ?_
    refine g_aload_n 937 C 2 dL_law_936 rfl rfl ?_
    refine g_callVF 940 C [0, 7] dL_law_937 rfl (k_X5_trials E l  ) (cwV 0 C.2.2.2.2.1 gL_law_X5_trials rfl rfl rfl cdX5_trials ⟨Nat.le_of_ble_eq_true rfl, Nat.le_of_ble_eq_true rfl⟩) rfl rfl rfl rfl (Nat.le_of_ble_eq_true rfl) 0 5 rfl rfl rfl ⟨Nat.le_of_ble_eq_true rfl, Nat.le_of_ble_eq_true rfl⟩ ?_
    refine g_iload 942 C 0 dL_law_940 rfl rfl ?_
    refine g_if_eq 950 945 C dL_law_942 (by decide) rfl (by omega) (fun q => absurd q (by omega)) ?_
    intro _
    refine g_ldc 947 C (60000) dL_law_945 rfl lL_law_63 (by decide) ?_
    refine g_goto 952 C dL_law_947 (by decide) ?_
    refine g_cmpE 957 C dL_law_952 (by decide) (congrArg iI (by omega)) ?_
    refine g_iload 959 C 10 dL_law_957 rfl rfl ?_
    refine g_if_ne 1002 962 C dL_law_959 (by decide) rfl (by omega) ?_ ?_
    · intro h959
      refine g_iload 1004 C 12 dL_law_1002 rfl rfl ?_
      refine g_ldc 1006 C (60000) dL_law_1004 rfl lL_law_63 (by decide) ?_
      refine g_icmp_le 1024 1009 C dL_law_1006 (by decide) rfl (by omega) ?_ ?_
      · intro h1006
        refine g_aload_n 1025 C 2 dL_law_1024 rfl rfl ?_
        refine g_callV 1028 C [0, 7, 1, 2, 3, 4, 5, 6, 8, 9, 10, 11, 12, 13] dL_law_1025 rfl (k_X5_join E l  (by first | assumption | omega) (by first | assumption | omega) (by first | assumption | omega) (by first | assumption | omega) (by first | assumption | omega)) (cwV 0 C.2.2.2.2.1 gL_law_X5_join rfl rfl rfl cdX5_join ⟨Nat.le_of_ble_eq_true rfl, Nat.le_of_ble_eq_true rfl⟩) rfl rfl rfl rfl (Nat.le_of_ble_eq_true rfl) 0 5 rfl rfl rfl ⟨Nat.le_of_ble_eq_true rfl, Nat.le_of_ble_eq_true rfl⟩ (fun v w q => by obtain ⟨_, _, _, _, _, _, _, _, _, _, _, -, rfl⟩ := q; rfl) ?_
        rintro _ _ ⟨sh3, fi3, wa3, us3, ly3, sp3, fd3, tc3, r3, jo3, jl3, ⟨rfl, hR3, h3⟩, rfl⟩
        have hj := en_join h1 hR3 h3
        obtain ⟨hr3, rfl, ht3, hq3⟩ := hj.2.2 (by omega) (by omega)
        refine g_w (ws' := [(_, .inr (5, [_, _, _, _, _, _, _])), (_, .inr (1, [_, _, _, _])), (_, aI _ _ _), (_, aI _ _ _), (_, .inr (2, [_, _, _])), (_, aI _ _ _), (_, aI _ _ _), (_, .inr (3, [_, _, _, _, _, _, _, _, _, _, _, _, _])), (_, aI _ _ _), (_, aI _ _ _), (_, aI _ _ _), (_, aZ _ _ _), (_, aI _ _ _), (_, aI _ _ _), (_, aI _ _ _)]) [0, 1, 2, 3, 4, 5, 6, 7, 8, 9, 10, 11, 12] rfl rfl ?_
        refine g_iconst 1029 C dL_law_1028 rfl ?_
        refine g_cmpN 1032 C 1041 dL_law_1029 (by decide) rfl (congrArg iI hr3) ?_
        refine g_aload_n 1033 C 2 dL_law_1032 rfl rfl ?_
        refine g_callVF 1036 C [0, 7] dL_law_1033 rfl (k_X5_trials E l  ) (cwV 0 C.2.2.2.2.1 gL_law_X5_trials rfl rfl rfl cdX5_trials ⟨Nat.le_of_ble_eq_true rfl, Nat.le_of_ble_eq_true rfl⟩) rfl rfl rfl rfl (Nat.le_of_ble_eq_true rfl) 0 5 rfl rfl rfl ⟨Nat.le_of_ble_eq_true rfl, Nat.le_of_ble_eq_true rfl⟩ ?_
        refine g_iload 1038 C 12 dL_law_1036 rfl rfl ?_
        refine g_cmpE 1043 C dL_law_1038 (by decide) (congrArg iI ht3) ?_
        refine g_iconst 1044 C dL_law_1043 rfl ?_
        refine g_istore (lv' := [(20, _), (19, _), (0, _), (1, _), (2, _), (3, _), (4, _), (5, _), (6, _), (7, _), (13, _), (15, _), (16, _), (17, _)]) 1046 C dL_law_1044 rfl (by decide) rfl ?_
        refine g_loop (α := Int) (fun zz => [(a_X, .inr (5, [.ref a_P, .ref a_L, .ref a_R, .ref a_D, .ref a_Q, .int (iI tr), .int (iI ft)])), (a_P, .inr (1, [.ref a_hs, .ref a_se, .int (iI W), .int (iI h)])), (a_hs, aI E 200 hs), (a_se, aI E 100 se), (a_L, .inr (2, [.ref a_pc, .ref a_tn, .int (iI n)])), (a_pc, aI E 25 pc), (a_tn, aI E 25 tn), (a_R, .inr (3, [.ref a_P, .ref a_L, .ref a_sh, .ref a_fi, .ref a_wa, .ref a_us, .ref a_ly, .ref a_jl, .int (iI 1), .int (iI 1), .int (iI sp3), .int (iI fd3), .int (iI tc3)])), (a_sh, aI E 400 sh3), (a_fi, aI E 400 fi3), (a_wa, aI E 100 wa3), (a_us, aZ E 25 us3), (a_ly, aI E 25 ly3), (a_jl, aI E 25 jl3), (a_fi2, aI E 20 fi1)]) (fun zz => [(20, .int (iI zz)), (17, .int (iI ft1)), (16, .int (iI tc1)), (15, .int (iI fd1)), (13, .ref a_fi2), (7, .int (iI n)), (6, .int (iI wf)), (5, .int (iI (nsd W h))), (4, .int (iI (W * h))), (3, .int (iI h)), (2, .int (iI W)), (1, .ref a_X), (0, .ref b)]) (fun zz => 0 ≤ zz ∧ zz ≤ W * h) (fun zz => (W * h - zz).toNat) (0) (by
            try dsimp only
            exact by omega) [0, 13, 12, 11, 10, 9, 8, 7, 6, 5, 4, 3, 2] rfl rfl ?_
        rintro z hI ih1046
        try dsimp only at hI ih1046 ⊢
        obtain hz := hI
        refine g_iload 1048 C 0 dL_law_1046 rfl rfl ?_
        refine g_iload 1050 C 8 dL_law_1048 rfl rfl ?_
        refine g_icmp_ge 1097 1053 C dL_law_1050 (by decide) rfl (by omega) ?_ ?_
        · intro h1050
          refine g_aload_n 1098 C 11 dL_law_1097 rfl rfl ?_
          refine g_iload 1100 C 8 dL_law_1098 rfl rfl ?_
          refine g_iconst 1101 C dL_law_1100 rfl ?_
          refine g_callVF 1104 C [0, 1, 7, 13] dL_law_1101 rfl (k_X5_joined E l  (by first | assumption | omega) (by first | assumption | omega) (fun _ j hj => (hq3 j hj).2) (by first | assumption | omega) (by first | assumption | omega)) (cwV 2 C.2.2.2.2.1 gL_law_X5_joined rfl rfl rfl cdX5_joined ⟨Nat.le_of_ble_eq_true rfl, Nat.le_of_ble_eq_true rfl⟩) rfl rfl rfl rfl (Nat.le_of_ble_eq_true rfl) 0 5 rfl rfl rfl ⟨Nat.le_of_ble_eq_true rfl, Nat.le_of_ble_eq_true rfl⟩ ?_
          refine g_iconst 1105 C dL_law_1104 rfl ?_
          refine g_cmpN 1108 C 1138 dL_law_1105 (by decide) rfl (congrArg iI ((if_neg (by decide)).trans (if_pos (by omega)))) ?_
          refine g_aload_n 1109 C 11 dL_law_1108 rfl rfl ?_
          refine g_iconst 1110 C dL_law_1109 rfl ?_
          refine g_iconst 1111 C dL_law_1110 rfl ?_
          refine g_callVF 1114 C [0, 1, 7, 13] dL_law_1111 rfl (k_X5_joined E l  (by first | assumption | omega) (by first | assumption | omega) (fun _ j hj => (hq3 j hj).2) (by first | assumption | omega) (by first | assumption | omega)) (cwV 2 C.2.2.2.2.1 gL_law_X5_joined rfl rfl rfl cdX5_joined ⟨Nat.le_of_ble_eq_true rfl, Nat.le_of_ble_eq_true rfl⟩) rfl rfl rfl rfl (Nat.le_of_ble_eq_true rfl) 0 5 rfl rfl rfl ⟨Nat.le_of_ble_eq_true rfl, Nat.le_of_ble_eq_true rfl⟩ ?_
          refine g_bipush 1116 C dL_law_1114 rfl (by decide) ?_
          refine g_cmpN 1119 C 1138 dL_law_1116 (by decide) rfl (congrArg iI ((if_neg (by decide)).trans ((if_neg (by omega)).trans ((if_neg (by decide)).trans (if_neg (by decide)))))) ?_
          refine g_aload_n 1120 C 11 dL_law_1119 rfl rfl ?_
          refine g_iconst 1121 C dL_law_1120 rfl ?_
          refine g_callVU (ws' := [(_, .inr (5, [_, _, _, _, _, _, _])), (_, .inr (1, [_, _, _, _])), (_, aI _ _ _), (_, aI _ _ _), (_, .inr (2, [_, _, _])), (_, aI _ _ _), (_, aI _ _ _), (_, .inr (3, [_, _, _, _, _, _, _, _, _, _, _, _, _])), (_, aI _ _ _), (_, aI _ _ _), (_, aI _ _ _), (_, aZ _ _ _), (_, aI _ _ _), (_, aI _ _ _), (_, aI _ _ _)]) 1124 C [0, 4, 5, 6, 7] dL_law_1121 rfl (k_X5_take_v E l  (by first | assumption | omega) (by first | assumption | omega)) (cwV 1 C.2.2.2.2.1 gL_law_X5_take rfl rfl rfl cdX5_take ⟨Nat.le_of_ble_eq_true rfl, Nat.le_of_ble_eq_true rfl⟩) rfl rfl rfl rfl (Nat.le_of_ble_eq_true rfl) 0 5 rfl rfl rfl ⟨Nat.le_of_ble_eq_true rfl, Nat.le_of_ble_eq_true rfl⟩ rfl rfl ?_
          have hp0 := hpw 0 (by omega)
          refine g_if_lt 1138 1127 C dL_law_1124 (by decide) rfl (by omega) (fun h1124 => absurd h1124 (by omega)) ?_
          intro h1124
          refine g_aload_n 1128 C 11 dL_law_1127 rfl rfl ?_
          refine g_iconst 1129 C dL_law_1128 rfl ?_
          refine g_iconst 1130 C dL_law_1129 rfl ?_
          refine g_callVF 1133 C [0, 1, 7, 13] dL_law_1130 rfl (k_X5_joined E l  (by first | assumption | omega) (by first | assumption | omega) (fun q => absurd q (by decide)) (by first | assumption | omega) (by first | assumption | omega)) (cwV 2 C.2.2.2.2.1 gL_law_X5_joined rfl rfl rfl cdX5_joined ⟨Nat.le_of_ble_eq_true rfl, Nat.le_of_ble_eq_true rfl⟩) rfl rfl rfl rfl (Nat.le_of_ble_eq_true rfl) 0 5 rfl rfl rfl ⟨Nat.le_of_ble_eq_true rfl, Nat.le_of_ble_eq_true rfl⟩ ?_
          refine g_bipush 1135 C dL_law_1133 rfl (by decide) ?_
          refine g_cmpE 1140 C dL_law_1135 (by decide) (congrArg iI (if_pos rfl)) ?_
          refine g_iconst 1141 C dL_law_1140 rfl ?_
          exact g_fin D (Nat.le_of_ble_eq_true rfl) (Nat.le_of_ble_eq_true rfl) dL_law_1141
        · intro h1050
          refine g_aload_n 1054 C 11 dL_law_1053 rfl rfl ?_
          refine g_iload 1056 C 0 dL_law_1054 rfl rfl ?_
          refine g_iconst 1057 C dL_law_1056 rfl ?_
          refine g_callVF 1060 C [0, 1, 7, 13] dL_law_1057 rfl (k_X5_joined_0 E l  (by first | assumption | omega) (by first | assumption | omega) (fun j hj => (hq3 j hj).2)) (cwV 2 C.2.2.2.2.1 gL_law_X5_joined rfl rfl rfl cdX5_joined ⟨Nat.le_of_ble_eq_true rfl, Nat.le_of_ble_eq_true rfl⟩) rfl rfl rfl rfl (Nat.le_of_ble_eq_true rfl) 0 5 rfl rfl rfl ⟨Nat.le_of_ble_eq_true rfl, Nat.le_of_ble_eq_true rfl⟩ ?_
          refine g_aload 1062 C 4 dL_law_1060 rfl rfl ?_
          refine g_iconst 1063 C dL_law_1062 rfl ?_
          refine g_iload 1065 C 0 dL_law_1063 rfl rfl ?_
          refine g_imul 1066 C dL_law_1065 rfl ?_
          refine g_iaload 1067 C 14 dL_law_1066 rfl rfl (by omega) ?_
          refine g_cmpN 1070 C 1089 dL_law_1067 (by decide) rfl (congrArg iI (hq3 z (by omega)).1.1.symm) ?_
          refine g_aload_n 1071 C 11 dL_law_1070 rfl rfl ?_
          refine g_iload 1073 C 0 dL_law_1071 rfl rfl ?_
          refine g_iconst 1074 C dL_law_1073 rfl ?_
          refine g_callVF 1077 C [0, 1, 7, 13] dL_law_1074 rfl (k_X5_joined_1 E l  (by first | assumption | omega) (by first | assumption | omega) (fun j hj => (hq3 j hj).2)) (cwV 2 C.2.2.2.2.1 gL_law_X5_joined rfl rfl rfl cdX5_joined ⟨Nat.le_of_ble_eq_true rfl, Nat.le_of_ble_eq_true rfl⟩) rfl rfl rfl rfl (Nat.le_of_ble_eq_true rfl) 0 5 rfl rfl rfl ⟨Nat.le_of_ble_eq_true rfl, Nat.le_of_ble_eq_true rfl⟩ ?_
          refine g_aload 1079 C 4 dL_law_1077 rfl rfl ?_
          refine g_iconst 1080 C dL_law_1079 rfl ?_
          refine g_iload 1082 C 0 dL_law_1080 rfl rfl ?_
          refine g_imul 1083 C dL_law_1082 rfl ?_
          refine g_iconst 1084 C dL_law_1083 rfl ?_
          refine g_iadd 1085 C dL_law_1084 rfl ?_
          refine g_iaload 1086 C 14 dL_law_1085 rfl rfl (by omega) ?_
          refine g_cmpE 1091 C dL_law_1086 (by decide) (congrArg iI (hq3 z (by omega)).1.2.symm) ?_
          refine g_iinc (lv' := [(20, _), (17, _), (16, _), (15, _), (13, _), (7, _), (6, _), (5, _), (4, _), (3, _), (2, _), (1, _), (0, _)]) 1094 C 0 dL_law_1091 rfl rfl (by decide) rfl ?_
          refine g_goto 1046 C dL_law_1094 (by decide) ?_
          exact g_w [0, 1, 2, 3, 4, 5, 6, 7, 8, 9, 10, 11, 12] rfl rfl (ih1046 ((z + 1)) (by
            try dsimp only
            exact by omega) (by (try dsimp only); omega))
      · intro h1006
        refine g_aload_n 1010 C 2 dL_law_1009 rfl rfl ?_
        refine g_callV 1013 C [0, 7, 1, 2, 3, 4, 5, 6, 8, 9, 10, 11, 12, 13] dL_law_1010 rfl (k_X5_join E l  (by first | assumption | omega) (by first | assumption | omega) (by first | assumption | omega) (by first | assumption | omega) (by first | assumption | omega)) (cwV 0 C.2.2.2.2.1 gL_law_X5_join rfl rfl rfl cdX5_join ⟨Nat.le_of_ble_eq_true rfl, Nat.le_of_ble_eq_true rfl⟩) rfl rfl rfl rfl (Nat.le_of_ble_eq_true rfl) 0 5 rfl rfl rfl ⟨Nat.le_of_ble_eq_true rfl, Nat.le_of_ble_eq_true rfl⟩ (fun v w q => by obtain ⟨_, _, _, _, _, _, _, _, _, _, _, -, rfl⟩ := q; rfl) ?_
        rintro _ _ ⟨sh3, fi3, wa3, us3, ly3, sp3, fd3, tc3, r3, jo3, jl3, ⟨rfl, hR3, h3⟩, rfl⟩
        have hj := en_join h1 hR3 h3
        have hk2 := hj.2.1 (by omega) (by omega)
        refine g_w (ws' := [(_, .inr (5, [_, _, _, _, _, _, _])), (_, .inr (1, [_, _, _, _])), (_, aI _ _ _), (_, aI _ _ _), (_, .inr (2, [_, _, _])), (_, aI _ _ _), (_, aI _ _ _), (_, .inr (3, [_, _, _, _, _, _, _, _, _, _, _, _, _])), (_, aI _ _ _), (_, aI _ _ _), (_, aI _ _ _), (_, aZ _ _ _), (_, aI _ _ _), (_, aI _ _ _), (_, aI _ _ _)]) [0, 1, 2, 3, 4, 5, 6, 7, 8, 9, 10, 11, 12] rfl rfl ?_
        refine g_bipush 1015 C dL_law_1013 rfl (by decide) ?_
        refine g_cmpN 1018 C 1022 dL_law_1015 (by decide) rfl (congrArg iI hk2) ?_
        refine g_iconst 1019 C dL_law_1018 rfl ?_
        refine g_goto 1023 C dL_law_1019 (by decide) ?_
        exact g_fin D (Nat.le_of_ble_eq_true rfl) (Nat.le_of_ble_eq_true rfl) dL_law_1023
    · intro h959
      refine g_aload_n 963 C 2 dL_law_962 rfl rfl ?_
      refine g_callV 966 C [0, 7, 1, 2, 3, 4, 5, 6, 8, 9, 10, 11, 12, 13] dL_law_963 rfl (k_X5_join E l  (by first | assumption | omega) (by first | assumption | omega) (by first | assumption | omega) (by first | assumption | omega) (by first | assumption | omega)) (cwV 0 C.2.2.2.2.1 gL_law_X5_join rfl rfl rfl cdX5_join ⟨Nat.le_of_ble_eq_true rfl, Nat.le_of_ble_eq_true rfl⟩) rfl rfl rfl rfl (Nat.le_of_ble_eq_true rfl) 0 5 rfl rfl rfl ⟨Nat.le_of_ble_eq_true rfl, Nat.le_of_ble_eq_true rfl⟩ (fun v w q => by obtain ⟨_, _, _, _, _, _, _, _, _, _, _, -, rfl⟩ := q; rfl) ?_
      rintro _ _ ⟨sh3, fi3, wa3, us3, ly3, sp3, fd3, tc3, r3, jo3, jl3, ⟨rfl, hR3, h3⟩, rfl⟩
      have hj := en_join h1 hR3 h3
      obtain ⟨rfl, hk1⟩ := hj.1 (by omega)
      refine g_w (ws' := [(_, .inr (5, [_, _, _, _, _, _, _])), (_, .inr (1, [_, _, _, _])), (_, aI _ _ _), (_, aI _ _ _), (_, .inr (2, [_, _, _])), (_, aI _ _ _), (_, aI _ _ _), (_, .inr (3, [_, _, _, _, _, _, _, _, _, _, _, _, _])), (_, aI _ _ _), (_, aI _ _ _), (_, aI _ _ _), (_, aZ _ _ _), (_, aI _ _ _), (_, aI _ _ _), (_, aI _ _ _)]) [0, 1, 2, 3, 4, 5, 6, 7, 8, 9, 10, 11, 12] rfl rfl ?_
      refine g_iload 968 C 0 dL_law_966 rfl rfl ?_
      refine g_if_eq 976 971 C dL_law_968 (by decide) rfl (by omega) (fun q => absurd q (by omega)) ?_
      intro _
      refine g_bipush 973 C dL_law_971 rfl (by decide) ?_
      refine g_goto 977 C dL_law_973 (by decide) ?_
      refine g_cmpN 980 C 1000 dL_law_977 (by decide) rfl (congrArg iI (by omega)) ?_
      refine g_aload_n 981 C 2 dL_law_980 rfl rfl ?_
      refine g_iconst 982 C dL_law_981 rfl ?_
      refine g_iconst 983 C dL_law_982 rfl ?_
      refine g_callVF 986 C [0, 1, 7, 13] dL_law_983 rfl (k_X5_joined E l  (by first | assumption | omega) (by first | assumption | omega) (fun q => absurd q (by decide)) (by first | assumption | omega) (by first | assumption | omega)) (cwV 2 C.2.2.2.2.1 gL_law_X5_joined rfl rfl rfl cdX5_joined ⟨Nat.le_of_ble_eq_true rfl, Nat.le_of_ble_eq_true rfl⟩) rfl rfl rfl rfl (Nat.le_of_ble_eq_true rfl) 0 5 rfl rfl rfl ⟨Nat.le_of_ble_eq_true rfl, Nat.le_of_ble_eq_true rfl⟩ ?_
      refine g_bipush 988 C dL_law_986 rfl (by decide) ?_
      refine g_cmpN 991 C 1000 dL_law_988 (by decide) rfl (congrArg iI (if_pos rfl)) ?_
      refine g_iload 993 C 7 dL_law_991 rfl rfl ?_
      refine g_if_ne 1000 996 C dL_law_993 (by decide) rfl (by omega) (fun h993 => absurd h993 (by omega)) ?_
      intro h993
      refine g_iconst 997 C dL_law_996 rfl ?_
      refine g_goto 1001 C dL_law_997 (by decide) ?_
      exact g_fin D (Nat.le_of_ble_eq_true rfl) (Nat.le_of_ble_eq_true rfl) dL_law_1001
