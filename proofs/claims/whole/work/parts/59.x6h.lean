theorem cdX6_search : yX6_search.cls = RX6 ∧ yX6_search.cls ≠ "java/lang/invoke/MethodHandle" ∧ yX6_search.cls ≠ "java/lang/invoke/VarHandle" ∧ (parseMethodDescriptor yX6_search.desc).map (fun d => d.parameters.length) = some 1 := by decide +kernel
theorem lX6_ways_180 : Cond.fieldLink RX6 180 (TX6 11).1 (TX6 11).2.1 (TX6 11).2.2.1 ∈ wsX6_ways := by decide +kernel
theorem iX6_ways_X6 : ∀ w ∈ u_ws RX6 TX6 23, w ∈ wsX6_ways := by decide +kernel
set_option maxHeartbeats 4000000 in
set_option maxRecDepth 100000 in
theorem k_X6_ways (E : gE) (l : Launch) {a_M a_Ma a_Mc a_Mg a_Mh a_Mi a_Ml a_Mp a_Ms a_Mt a_Mu a_Mx a_My : Nat} {m0 : Nat} {fin : gS} {hs pc tn us : Int → Int} {qa qf : Int → Int} {mf W h mL mN n tc fd jo tr : Int} {md : Int64} (hB : 1 ≤ W ∧ W ≤ 5 ∧ 1 ≤ h ∧ h ≤ 5) (hh : hB9 hs) (hn : 0 ≤ n ∧ n ≤ 25) (hpw : ∀ j : Int, 0 ≤ j ∧ j < n → (0 ≤ pc j ∧ pc j < W * h) ∧ 0 ≤ tn j ∧ tn j < 4) (hfin : itS (FT W h hs pc tn) n (W * h) 0 m0 (0, (fun _ => -1), (fun _ => 0), 0, 0) = fin) (hneg : fin.1 < 0) : gMet E l yX6_ways wsX6_ways { frames := 7, cells := 0, slots := 0, locals := 165 } 0 0 [.ref a_M] [(a_M, .inr (6, [.int (iI mf), .int (iI W), .int (iI h), .ref a_Mh, .long md, .int (iI mL), .int (iI mN), .int (iI n), .ref a_Mp, .ref a_Mt, .int (iI tc), .int (iI fd), .ref a_Ma, .ref a_Mu, .ref a_Mi, .int (iI jo), .ref a_Mx, .ref a_My, .ref a_Ms, .ref a_Ml, .ref a_Mc, .ref a_Mg, .int (iI tr)])), (a_Mh, aI E 200 hs), (a_Mp, aI E 25 pc), (a_Mt, aI E 25 tn), (a_Ma, aI E 26 qa), (a_Mu, aI E 26 qf), (a_Mi, aZ E 25 us)] (fun v w => ∃ qa2 qf2 us2 : Int → Int, v = some (.int (iI (if fin.1 = -2 then -6 else fin.2.2.2.2))) ∧ w = [(a_M, .inr (6, [.int (iI mf), .int (iI W), .int (iI h), .ref a_Mh, .long md, .int (iI mL), .int (iI mN), .int (iI n), .ref a_Mp, .ref a_Mt, .int (iI fin.2.2.2.1), .int (iI fin.2.2.2.2), .ref a_Ma, .ref a_Mu, .ref a_Mi, .int (iI jo), .ref a_Mx, .ref a_My, .ref a_Ms, .ref a_Ml, .ref a_Mc, .ref a_Mg, .int (iI tr)])), (a_Mh, aI E 200 hs), (a_Mp, aI E 25 pc), (a_Mt, aI E 25 tn), (a_Ma, aI E 26 qa2), (a_Mu, aI E 26 qf2), (a_Mi, aZ E 25 us2)]) := by
  refine g_start (cc := cX6_ways) (maxL := 1) (ret := (some .int)) (by decide) rfl (Nat.le_of_ble_eq_true rfl) ?_
  intro p_ e_ s_ m_ args_ below_ meth_ c_ A_ C hr hnm
  refine g_aload_n 1 C 0 dX6_ways_0 rfl rfl ?_
  refine g_iconst 2 C dX6_ways_1 rfl ?_
  refine g_callV 5 C [0, 1, 2, 3, 4, 5, 6] dX6_ways_2 rfl (k_X6_search E l  (by first | assumption | omega) (by first | assumption | omega) (by first | assumption | omega) (by first | assumption | omega) (Or.inr rfl) hfin (by first | assumption | omega)) (cwV 1 C.2.2.2.2.1 gX6_ways_X6_search rfl rfl rfl cdX6_search ⟨Nat.le_of_ble_eq_true rfl, Nat.le_of_ble_eq_true rfl⟩) rfl rfl rfl rfl (Nat.le_of_ble_eq_true rfl) 0 6 rfl rfl rfl ⟨Nat.le_of_ble_eq_true rfl, Nat.le_of_ble_eq_true rfl⟩ (fun v w q => by obtain ⟨_, _, _, -, rfl⟩ := q; rfl) ?_
  rintro _ _ ⟨qa2, qf2, us2, ⟨rfl, hq3⟩, rfl⟩
  by_cases hf2 : fin.1 = -2
  · skip
    rw [show (if fin.1 = -2 then (0 : Int) else 1) = 0 from if_pos hf2]
    refine g_w (ws' := [(_, .inr (6, [_, _, _, _, _, _, _, _, _, _, _, _, _, _, _, _, _, _, _, _, _, _, _])), (_, aI _ _ _), (_, aI _ _ _), (_, aI _ _ _), (_, aI _ _ _), (_, aI _ _ _), (_, aZ _ _ _)]) [0] rfl rfl ?_
    refine g_if_eq 15 8 C dX6_ways_5 (by decide) rfl (by omega) ?_ (fun q => absurd q (by omega))
    intro _
    refine g_bipush 17 C dX6_ways_15 rfl (by decide) ?_
    exact g_iret C hr dX6_ways_17 ⟨_, _, _, g_ri (if_pos hf2).symm, rfl⟩
  · skip
    rw [show (if fin.1 = -2 then (0 : Int) else 1) = 1 from if_neg hf2]
    refine g_w (ws' := [(_, .inr (6, [_, _, _, _, _, _, _, _, _, _, _, _, _, _, _, _, _, _, _, _, _, _, _])), (_, aI _ _ _), (_, aI _ _ _), (_, aI _ _ _), (_, aI _ _ _), (_, aI _ _ _), (_, aZ _ _ _)]) [0] rfl rfl ?_
    refine g_if_eq 15 8 C dX6_ways_5 (by decide) rfl (by omega) (fun q => absurd q (by omega)) ?_
    intro _
    refine g_aload_n 9 C 0 dX6_ways_8 rfl rfl ?_
    refine g_get 12 C 0 11 6 iX6_ways_X6 lX6_ways_180 dX6_ways_9 rfl rfl rfl (by decide) rfl ?_
    refine g_goto 17 C dX6_ways_12 (by decide) ?_
    exact g_iret C hr dX6_ways_17 ⟨_, _, _, g_ri (if_neg hf2).symm, rfl⟩
theorem lX6_join_180 : Cond.fieldLink RX6 180 (TX6 11).1 (TX6 11).2.1 (TX6 11).2.2.1 ∈ wsX6_join := by decide +kernel
theorem lX6_join_19 : Cond.fieldLink RX6 19 (TX6 12).1 (TX6 12).2.1 (TX6 12).2.2.1 ∈ wsX6_join := by decide +kernel
theorem lX6_join_22 : Cond.fieldLink RX6 22 (TX6 13).1 (TX6 13).2.1 (TX6 13).2.2.1 ∈ wsX6_join := by decide +kernel
theorem lX6_join_29 : Cond.fieldLink RX6 29 (TX6 16).1 (TX6 16).2.1 (TX6 16).2.2.1 ∈ wsX6_join := by decide +kernel
theorem lX6_join_32 : Cond.fieldLink RX6 32 (TX6 17).1 (TX6 17).2.1 (TX6 17).2.2.1 ∈ wsX6_join := by decide +kernel
theorem lX6_join_77 : Cond.fieldLink RX6 77 (TX6 15).1 (TX6 15).2.1 (TX6 15).2.2.1 ∈ wsX6_join := by decide +kernel
theorem iX6_join_X6 : ∀ w ∈ u_ws RX6 TX6 23, w ∈ wsX6_join := by decide +kernel
set_option maxHeartbeats 4000000 in
set_option maxRecDepth 100000 in
theorem k_X6_join (E : gE) (l : Launch) {a_M a_Ma a_Mc a_Mg a_Mh a_Mi a_Ml a_Mp a_Ms a_Mt a_Mu a_Mx a_My : Nat} {m0 : Nat} {fin : gS} {hs pc tn us ja jt : Int → Int} {qa qf : Int → Int} {mf W h mL mN n tc fd jo tr : Int} {md : Int64} (hB : 1 ≤ W ∧ W ≤ 5 ∧ 1 ≤ h ∧ h ≤ 5) (hh : hB9 hs) (hn : 0 ≤ n ∧ n ≤ 25) (hpw : ∀ j : Int, 0 ≤ j ∧ j < n → (0 ≤ pc j ∧ pc j < W * h) ∧ 0 ≤ tn j ∧ tn j < 4) (hfin : itS (FT W h hs pc tn) n (W * h) 1 m0 (0, (fun _ => -1), (fun _ => 0), 0, 0) = fin) (hneg : fin.1 < 0) (hfd : 0 ≤ fin.2.2.2.2 ∧ fin.2.2.2.2 ≤ 60000) : gMet E l yX6_join wsX6_join { frames := 7, cells := 0, slots := 0, locals := 165 } 0 0 [.ref a_M] [(a_M, .inr (6, [.int (iI mf), .int (iI W), .int (iI h), .ref a_Mh, .long md, .int (iI mL), .int (iI mN), .int (iI n), .ref a_Mp, .ref a_Mt, .int (iI tc), .int (iI fd), .ref a_Ma, .ref a_Mu, .ref a_Mi, .int (iI jo), .ref a_Mx, .ref a_My, .ref a_Ms, .ref a_Ml, .ref a_Mc, .ref a_Mg, .int (iI tr)])), (a_Mh, aI E 200 hs), (a_Mp, aI E 25 pc), (a_Mt, aI E 25 tn), (a_Ma, aI E 26 qa), (a_Mu, aI E 26 qf), (a_Mi, aZ E 25 us), (a_Mx, aI E 25 ja), (a_My, aI E 25 jt)] (fun v w => ∃ (r jo2 : Int) (qa2 qf2 us2 ja2 jt2 : Int → Int), (v = some (.int (iI r)) ∧ ((fin.1 = -2 ∧ r = -6 ∧ jo2 = jo ∧ ja2 = ja ∧ jt2 = jt) ∨ (fin.1 ≠ -2 ∧ r = fin.2.2.2.2 ∧ fin.2.2.2.2 ≠ 1 ∧ jo2 = 0) ∨ (fin.1 ≠ -2 ∧ r = fin.2.2.2.2 ∧ fin.2.2.2.2 = 1 ∧ jo2 = 1 ∧ ∀ j : Int, 0 ≤ j ∧ j < W * h → ja2 j = qa2 j ∧ jt2 j = qf2 j)) ∧ (fin.1 = -3 → ∀ j : Int, 0 ≤ j ∧ j < W * h → (qa2 j = fin.2.1 j / 4 ∧ qf2 j = fin.2.1 j % 4) ∧ 0 ≤ fin.2.1 j)) ∧ w = [(a_M, .inr (6, [.int (iI mf), .int (iI W), .int (iI h), .ref a_Mh, .long md, .int (iI mL), .int (iI mN), .int (iI n), .ref a_Mp, .ref a_Mt, .int (iI fin.2.2.2.1), .int (iI fin.2.2.2.2), .ref a_Ma, .ref a_Mu, .ref a_Mi, .int (iI jo2), .ref a_Mx, .ref a_My, .ref a_Ms, .ref a_Ml, .ref a_Mc, .ref a_Mg, .int (iI tr)])), (a_Mh, aI E 200 hs), (a_Mp, aI E 25 pc), (a_Mt, aI E 25 tn), (a_Ma, aI E 26 qa2), (a_Mu, aI E 26 qf2), (a_Mi, aZ E 25 us2), (a_Mx, aI E 25 ja2), (a_My, aI E 25 jt2)]) := by
  refine g_start (cc := cX6_join) (maxL := 2) (ret := (some .int)) (by decide) rfl (Nat.le_of_ble_eq_true rfl) ?_
  intro p_ e_ s_ m_ args_ below_ meth_ c_ A_ C hr hnm
  have hN := nsd_b hB
  refine g_aload_n 1 C 0 dX6_join_0 rfl rfl ?_
  refine g_iconst 2 C dX6_join_1 rfl ?_
  refine g_callV 5 C [0, 1, 2, 3, 4, 5, 6] dX6_join_2 rfl (k_X6_search E l  (by first | assumption | omega) (by first | assumption | omega) (by first | assumption | omega) (by first | assumption | omega) (Or.inl rfl) hfin (by first | assumption | omega)) (cwV 1 C.2.2.2.2.1 gX6_join_X6_search rfl rfl rfl cdX6_search ⟨Nat.le_of_ble_eq_true rfl, Nat.le_of_ble_eq_true rfl⟩) rfl rfl rfl rfl (Nat.le_of_ble_eq_true rfl) 0 6 rfl rfl rfl ⟨Nat.le_of_ble_eq_true rfl, Nat.le_of_ble_eq_true rfl⟩ (fun v w q => by obtain ⟨_, _, _, -, rfl⟩ := q; rfl) ?_
  rintro _ _ ⟨qa2, qf2, us2, ⟨rfl, hq3⟩, rfl⟩
  by_cases hf2 : fin.1 = -2
  · skip
    rw [show (if fin.1 = -2 then (0 : Int) else 1) = 0 from if_pos hf2]
    refine g_w (ws' := [(_, .inr (6, [_, _, _, _, _, _, _, _, _, _, _, _, _, _, _, _, _, _, _, _, _, _, _])), (_, aI _ _ _), (_, aI _ _ _), (_, aI _ _ _), (_, aI _ _ _), (_, aI _ _ _), (_, aZ _ _ _), (_, aI _ _ _), (_, aI _ _ _)]) [0] rfl rfl ?_
    refine g_if_ne 11 8 C dX6_join_5 (by decide) rfl (by omega) (fun q => absurd q (by omega)) ?_
    intro _
    refine g_bipush 10 C dX6_join_8 rfl (by decide) ?_
    exact g_iret C hr dX6_join_10 ⟨_, _, _, _, _, _, _, ⟨rfl, Or.inl ⟨hf2, rfl, rfl, rfl, rfl⟩, hq3⟩, rfl⟩
  · skip
    rw [show (if fin.1 = -2 then (0 : Int) else 1) = 1 from if_neg hf2]
    refine g_w (ws' := [(_, .inr (6, [_, _, _, _, _, _, _, _, _, _, _, _, _, _, _, _, _, _, _, _, _, _, _])), (_, aI _ _ _), (_, aI _ _ _), (_, aI _ _ _), (_, aI _ _ _), (_, aI _ _ _), (_, aZ _ _ _), (_, aI _ _ _), (_, aI _ _ _)]) [0] rfl rfl ?_
    refine g_if_ne 11 8 C dX6_join_5 (by decide) rfl (by omega) ?_ (fun q => absurd q (by omega))
    intro _
    refine g_aload_n 12 C 0 dX6_join_11 rfl rfl ?_
    refine g_aload_n 13 C 0 dX6_join_12 rfl rfl ?_
    refine g_get 16 C 0 11 6 iX6_join_X6 lX6_join_180 dX6_join_13 rfl rfl rfl (by decide) rfl ?_
    refine g_iconst 17 C dX6_join_16 rfl ?_
    refine g_icmp_ne 24 20 C dX6_join_17 (by decide) rfl (by omega) ?_ ?_
    · intro h17
      refine g_iconst 25 C dX6_join_24 rfl ?_
      refine g_put (ws' := [(_, .inr (6, [_, _, _, _, _, _, _, _, _, _, _, _, _, _, _, _, _, _, _, _, _, _, _])), (_, aI _ _ _), (_, aI _ _ _), (_, aI _ _ _), (_, aI _ _ _), (_, aI _ _ _), (_, aZ _ _ _), (_, aI _ _ _), (_, aI _ _ _)]) 28 C 0 15 6 tyX6 tyX6_ok nmX6 iX6_join_X6 lX6_join_77 dX6_join_25 rfl rfl rfl (by decide) rfl (by decide) rfl (Nat.le_of_ble_eq_true rfl) rfl ?_
      refine g_iconst 29 C dX6_join_28 rfl ?_
      refine g_istore_n (lv' := [(1, _), (0, _)]) 30 C dX6_join_29 rfl rfl (by decide) rfl ?_
      refine g_iload_n 31 C 0 dX6_join_30 rfl rfl ?_
      refine g_aload_n 32 C 1 dX6_join_31 rfl rfl ?_
      refine g_callVF 35 C [0] dX6_join_32 rfl (k_X6_pieces E l  ) (cwV 0 C.2.2.2.2.1 gX6_join_X6_pieces rfl rfl rfl cdX6_pieces ⟨Nat.le_of_ble_eq_true rfl, Nat.le_of_ble_eq_true rfl⟩) rfl rfl rfl rfl (Nat.le_of_ble_eq_true rfl) 0 6 rfl rfl rfl ⟨Nat.le_of_ble_eq_true rfl, Nat.le_of_ble_eq_true rfl⟩ ?_
      refine g_icmp_ge 75 38 C dX6_join_35 (by decide) rfl (by omega) (fun h35 => absurd h35 (by omega)) ?_
      intro h35
      refine g_aload_n 39 C 1 dX6_join_38 rfl rfl ?_
      refine g_get 42 C 0 15 6 iX6_join_X6 lX6_join_77 dX6_join_39 rfl rfl rfl (by decide) rfl ?_
      refine g_if_eq 75 45 C dX6_join_42 (by decide) rfl (by omega) ?_ (fun q => absurd q (by omega))
      intro _
      refine g_aload_n 76 C 1 dX6_join_75 rfl rfl ?_
      refine g_get 79 C 0 11 6 iX6_join_X6 lX6_join_180 dX6_join_76 rfl rfl rfl (by decide) rfl ?_
      exact g_iret C hr dX6_join_79 ⟨_, _, _, _, _, _, _, ⟨rfl, Or.inr (Or.inl ⟨hf2, rfl, by omega, rfl⟩), hq3⟩, rfl⟩
    · intro h17
      refine g_iconst 21 C dX6_join_20 rfl ?_
      refine g_goto 25 C dX6_join_21 (by decide) ?_
      refine g_put (ws' := [(_, .inr (6, [_, _, _, _, _, _, _, _, _, _, _, _, _, _, _, _, _, _, _, _, _, _, _])), (_, aI _ _ _), (_, aI _ _ _), (_, aI _ _ _), (_, aI _ _ _), (_, aI _ _ _), (_, aZ _ _ _), (_, aI _ _ _), (_, aI _ _ _)]) 28 C 0 15 6 tyX6 tyX6_ok nmX6 iX6_join_X6 lX6_join_77 dX6_join_25 rfl rfl rfl (by decide) rfl (by decide) rfl (Nat.le_of_ble_eq_true rfl) rfl ?_
      refine g_iconst 29 C dX6_join_28 rfl ?_
      refine g_istore_n (lv' := [(1, _), (0, _)]) 30 C dX6_join_29 rfl rfl (by decide) rfl ?_
      refine g_loop (α := (Int → Int) × (Int → Int) × Int) (fun zz => [(a_M, .inr (6, [.int (iI mf), .int (iI W), .int (iI h), .ref a_Mh, .long md, .int (iI mL), .int (iI mN), .int (iI n), .ref a_Mp, .ref a_Mt, .int (iI fin.2.2.2.1), .int (iI fin.2.2.2.2), .ref a_Ma, .ref a_Mu, .ref a_Mi, .int (iI 1), .ref a_Mx, .ref a_My, .ref a_Ms, .ref a_Ml, .ref a_Mc, .ref a_Mg, .int (iI tr)])), (a_Mh, aI E 200 hs), (a_Mp, aI E 25 pc), (a_Mt, aI E 25 tn), (a_Ma, aI E 26 qa2), (a_Mu, aI E 26 qf2), (a_Mi, aZ E 25 us2), (a_Mx, aI E 25 zz.1), (a_My, aI E 25 zz.2.1)]) (fun zz => [(1, .int (iI zz.2.2)), (0, .ref a_M)]) (fun zz => (0 ≤ zz.2.2 ∧ zz.2.2 ≤ W * h) ∧ ∀ j : Int, 0 ≤ j ∧ j < zz.2.2 → zz.1 j = qa2 j ∧ zz.2.1 j = qf2 j) (fun zz => (W * h - zz.2.2).toNat) (ja, jt, 0) (by
            try dsimp only
            exact ⟨by omega, fun j hj => by omega⟩) [0, 1] rfl rfl ?_
      rintro ⟨x, y, k⟩ hI ih30
      try dsimp only at hI ih30 ⊢
      obtain ⟨hk, hxy⟩ := hI
      refine g_iload_n 31 C 0 dX6_join_30 rfl rfl ?_
      refine g_aload_n 32 C 1 dX6_join_31 rfl rfl ?_
      refine g_callVF 35 C [0] dX6_join_32 rfl (k_X6_pieces E l  ) (cwV 0 C.2.2.2.2.1 gX6_join_X6_pieces rfl rfl rfl cdX6_pieces ⟨Nat.le_of_ble_eq_true rfl, Nat.le_of_ble_eq_true rfl⟩) rfl rfl rfl rfl (Nat.le_of_ble_eq_true rfl) 0 6 rfl rfl rfl ⟨Nat.le_of_ble_eq_true rfl, Nat.le_of_ble_eq_true rfl⟩ ?_
      refine g_icmp_ge 75 38 C dX6_join_35 (by decide) rfl (by omega) ?_ ?_
      · intro h35
        refine g_aload_n 76 C 1 dX6_join_75 rfl rfl ?_
        refine g_get 79 C 0 11 6 iX6_join_X6 lX6_join_180 dX6_join_76 rfl rfl rfl (by decide) rfl ?_
        exact g_iret C hr dX6_join_79 ⟨_, _, _, _, _, _, _, ⟨rfl, Or.inr (Or.inr ⟨hf2, rfl, by omega, rfl, fun j hj => hxy j (by omega)⟩), hq3⟩, rfl⟩
      · intro h35
        refine g_aload_n 39 C 1 dX6_join_38 rfl rfl ?_
        refine g_get 42 C 0 15 6 iX6_join_X6 lX6_join_77 dX6_join_39 rfl rfl rfl (by decide) rfl ?_
        refine g_if_eq 75 45 C dX6_join_42 (by decide) rfl (by omega) (fun q => absurd q (by omega)) ?_
        intro _
        refine g_aload_n 46 C 1 dX6_join_45 rfl rfl ?_
        refine g_get 49 C 0 16 6 iX6_join_X6 lX6_join_29 dX6_join_46 rfl rfl rfl (by decide) rfl ?_
        refine g_iload_n 50 C 0 dX6_join_49 rfl rfl ?_
        refine g_aload_n 51 C 1 dX6_join_50 rfl rfl ?_
        refine g_get 54 C 0 12 6 iX6_join_X6 lX6_join_19 dX6_join_51 rfl rfl rfl (by decide) rfl ?_
        refine g_iload_n 55 C 0 dX6_join_54 rfl rfl ?_
        refine g_iaload 56 C 4 dX6_join_55 rfl rfl (by omega) ?_
        refine g_iastore (ws' := [(_, .inr (6, [_, _, _, _, _, _, _, _, _, _, _, _, _, _, _, _, _, _, _, _, _, _, _])), (_, aI _ _ _), (_, aI _ _ _), (_, aI _ _ _), (_, aI _ _ _), (_, aI _ _ _), (_, aZ _ _ _), (_, aI _ _ _), (_, aI _ _ _)]) 57 C 7 dX6_join_56 rfl rfl (by omega) rfl ?_
        refine g_aload_n 58 C 1 dX6_join_57 rfl rfl ?_
        refine g_get 61 C 0 17 6 iX6_join_X6 lX6_join_32 dX6_join_58 rfl rfl rfl (by decide) rfl ?_
        refine g_iload_n 62 C 0 dX6_join_61 rfl rfl ?_
        refine g_aload_n 63 C 1 dX6_join_62 rfl rfl ?_
        refine g_get 66 C 0 13 6 iX6_join_X6 lX6_join_22 dX6_join_63 rfl rfl rfl (by decide) rfl ?_
        refine g_iload_n 67 C 0 dX6_join_66 rfl rfl ?_
        refine g_iaload 68 C 5 dX6_join_67 rfl rfl (by omega) ?_
        refine g_iastore (ws' := [(_, .inr (6, [_, _, _, _, _, _, _, _, _, _, _, _, _, _, _, _, _, _, _, _, _, _, _])), (_, aI _ _ _), (_, aI _ _ _), (_, aI _ _ _), (_, aI _ _ _), (_, aI _ _ _), (_, aZ _ _ _), (_, aI _ _ _), (_, aI _ _ _)]) 69 C 8 dX6_join_68 rfl rfl (by omega) rfl ?_
        refine g_iinc (lv' := [(1, _), (0, _)]) 72 C 0 dX6_join_69 rfl rfl (by decide) rfl ?_
        refine g_goto 30 C dX6_join_72 (by decide) ?_
        exact g_w [0, 1] rfl rfl (ih30 ((uI x k (qa2 k)), (uI y k (qf2 k)), (k + 1)) (by
            try dsimp only
            exact ⟨by omega, fun j hj => by
              by_cases z : j = k
              · rw [z, uI_eq, uI_eq]; exact ⟨rfl, rfl⟩
              · rw [uI_ne z, uI_ne z]; exact hxy j (by omega)⟩) (by (try dsimp only); omega))
