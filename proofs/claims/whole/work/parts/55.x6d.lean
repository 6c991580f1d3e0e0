theorem cdX6_missing : yX6_missing.cls = RX6 ∧ yX6_missing.cls ≠ "java/lang/invoke/MethodHandle" ∧ yX6_missing.cls ≠ "java/lang/invoke/VarHandle" ∧ (parseMethodDescriptor yX6_missing.desc).map (fun d => d.parameters.length) = some 1 := by decide +kernel
set_option maxHeartbeats 4000000 in
set_option maxRecDepth 100000 in
theorem k_X6_missed (E : gE) (l : Launch) {a_M a_Ma a_Mc a_Mg a_Mh a_Mi a_Ml a_Mp a_Ms a_Mt a_Mu a_Mx a_My : Nat} {t i : Int} {pc : Int → Int} {mf W h mL mN n tc fd jo tr : Int} {md : Int64} (hB : 1 ≤ W ∧ W ≤ 5 ∧ 1 ≤ h ∧ h ≤ 5) (hn : 0 ≤ n ∧ n ≤ 25) (hpn : ∀ j : Int, 0 ≤ j ∧ j < n → 0 ≤ pc j ∧ pc j < 25) (ht : -2147483648 ≤ t ∧ t < 2147483648) (hi : -2147483648 ≤ i ∧ i < 2147483648) : gMet E l yX6_missed wsX6_missed { frames := 3, cells := 0, slots := 0, locals := 68 } 0 0 [.ref a_M, .int (iI t), .int (iI i)] [(a_M, .inr (6, [.int (iI mf), .int (iI W), .int (iI h), .ref a_Mh, .long md, .int (iI mL), .int (iI mN), .int (iI n), .ref a_Mp, .ref a_Mt, .int (iI tc), .int (iI fd), .ref a_Ma, .ref a_Mu, .ref a_Mi, .int (iI jo), .ref a_Mx, .ref a_My, .ref a_Ms, .ref a_Ml, .ref a_Mc, .ref a_Mg, .int (iI tr)])), (a_Mp, aI E 25 pc)] (fun v w => ∃ r : Int, (v = some (.int (iI r)) ∧ ((i < 0 ∧ r = -1) ∨ (0 ≤ i ∧ ¬ (t = 0 ∨ t = 1) ∧ r = -2) ∨ (0 ≤ i ∧ (t = 0 ∨ t = 1) ∧ mdP (W * h) n pc t i r))) ∧ w = [(a_M, .inr (6, [.int (iI mf), .int (iI W), .int (iI h), .ref a_Mh, .long md, .int (iI mL), .int (iI mN), .int (iI n), .ref a_Mp, .ref a_Mt, .int (iI tc), .int (iI fd), .ref a_Ma, .ref a_Mu, .ref a_Mi, .int (iI jo), .ref a_Mx, .ref a_My, .ref a_Ms, .ref a_Ml, .ref a_Mc, .ref a_Mg, .int (iI tr)])), (a_Mp, aI E 25 pc)]) := by
  refine g_start (cc := cX6_missed) (maxL := 5) (ret := (some .int)) (by decide) rfl (Nat.le_of_ble_eq_true rfl) ?_
  intro p_ e_ s_ m_ args_ below_ meth_ c_ A_ C hr hnm
  have hN := nsd_b hB
  refine g_iload_n 1 C 2 dX6_missed_0 rfl rfl ?_
  refine g_if_lt 23 4 C dX6_missed_1 (by decide) rfl (by omega) ?_ ?_
  · intro h1
    refine g_iconst 24 C dX6_missed_23 rfl ?_
    exact g_iret C hr dX6_missed_24 ⟨_, ⟨rfl, by first | exact Or.inl ⟨by omega, rfl⟩ | exact Or.inr (Or.inr ⟨by omega, by omega, Or.inl ⟨rfl, by omega⟩⟩)⟩, rfl⟩
  · intro h1
    refine g_iload_n 5 C 1 dX6_missed_4 rfl rfl ?_
    refine g_i2l 6 C dX6_missed_5 rfl (by omega) ?_
    refine g_lconst 7 C 0 dX6_missed_6 rfl (by decide) ?_
    refine g_lconst 8 C 1 dX6_missed_7 rfl (by decide) ?_
    refine g_callSF 11 C [] dX6_missed_8 rfl (k_X6_in E l  (by first | assumption | omega) (by first | assumption | omega) (by first | assumption | omega)) (va_cwS 3 C.2.2.2.2.1 gX6_missed_X6_in rfl rfl rfl cdX6_in ⟨Nat.le_of_ble_eq_true rfl, Nat.le_of_ble_eq_true rfl⟩) rfl rfl rfl rfl (Nat.le_of_ble_eq_true rfl) ⟨Nat.le_of_ble_eq_true rfl, Nat.le_of_ble_eq_true rfl⟩ ?_
    refine g_ifb_eq 25 14 C dX6_missed_11 (by decide) rfl ?_ ?_
    · intro h11
      refine g_iload_n 26 C 1 dX6_missed_25 rfl rfl ?_
      refine g_i2l 27 C dX6_missed_26 rfl (by omega) ?_
      refine g_lconst 28 C 0 dX6_missed_27 rfl (by decide) ?_
      refine g_lconst 29 C 1 dX6_missed_28 rfl (by decide) ?_
      refine g_callSF 32 C [] dX6_missed_29 rfl (k_X6_in E l  (by first | assumption | omega) (by first | assumption | omega) (by first | assumption | omega)) (va_cwS 3 C.2.2.2.2.1 gX6_missed_X6_in rfl rfl rfl cdX6_in ⟨Nat.le_of_ble_eq_true rfl, Nat.le_of_ble_eq_true rfl⟩) rfl rfl rfl rfl (Nat.le_of_ble_eq_true rfl) ⟨Nat.le_of_ble_eq_true rfl, Nat.le_of_ble_eq_true rfl⟩ ?_
      refine g_ifb_ne 38 35 C dX6_missed_32 (by decide) rfl ?_ ?_
      · intro h32
        refine g_iconst 39 C dX6_missed_38 rfl ?_
        refine g_istore_n (lv' := [(3, _), (0, _), (1, _), (2, _)]) 40 C dX6_missed_39 rfl rfl (by decide) rfl ?_
        refine g_iconst 41 C dX6_missed_40 rfl ?_
        refine g_istore (lv' := [(4, _), (3, _), (0, _), (1, _), (2, _)]) 43 C dX6_missed_41 rfl (by decide) rfl ?_
        refine g_loop (α := Int) (fun zz => [(a_M, .inr (6, [.int (iI mf), .int (iI W), .int (iI h), .ref a_Mh, .long md, .int (iI mL), .int (iI mN), .int (iI n), .ref a_Mp, .ref a_Mt, .int (iI tc), .int (iI fd), .ref a_Ma, .ref a_Mu, .ref a_Mi, .int (iI jo), .ref a_Mx, .ref a_My, .ref a_Ms, .ref a_Ml, .ref a_Mc, .ref a_Mg, .int (iI tr)])), (a_Mp, aI E 25 pc)]) (fun zz => [(3, .int (iI (cnI (msP n pc t) (zz + 1) - 1))), (4, .int (iI zz)), (2, .int (iI i)), (1, .int (iI t)), (0, .ref a_M)]) (fun zz => (-1 ≤ zz ∧ zz < W * h) ∧ (cnI (msP n pc t) (zz + 1) - 1 < i ∨ (0 ≤ zz ∧ msP n pc t zz ∧ cnI (msP n pc t) zz = i))) (fun zz => (W * h - zz).toNat) (-1) (by
            try dsimp only
            exact ⟨by omega, Or.inl (by rw [show (-1 : Int) + 1 = 0 by omega, cnI_0]; omega)⟩) [1, 0, 4, 3, 2] rfl rfl ?_
        rintro k hI ih43
        try dsimp only at hI ih43 ⊢
        obtain ⟨hk, hor⟩ := hI
        refine g_iload_n 44 C 0 dX6_missed_43 rfl rfl ?_
        refine g_iload_n 45 C 2 dX6_missed_44 rfl rfl ?_
        have eb2 := cnI_b (msP n pc t) (i := k + 1) (by omega)
        refine g_icmp_ge 72 48 C dX6_missed_45 (by decide) rfl (by omega) ?_ ?_
        · intro h45
          refine g_iload 74 C 1 dX6_missed_72 rfl rfl ?_
          exact g_iret C hr dX6_missed_74 ⟨_, ⟨rfl, Or.inr (Or.inr ⟨by omega, by omega, by
            rcases hor with q | q
            · omega
            · exact Or.inr ⟨by omega, q.2⟩⟩)⟩, rfl⟩
        · intro h45
          refine g_iinc (lv' := [(4, _), (3, _), (2, _), (1, _), (0, _)]) 51 C 1 dX6_missed_48 rfl rfl (by decide) rfl ?_
          refine g_iload_n 52 C 1 dX6_missed_51 rfl rfl ?_
          refine g_aload_n 53 C 4 dX6_missed_52 rfl rfl ?_
          have hlt : k + 1 < W * h := Classical.byContradiction fun q => by have := cnI_m (msP n pc t) (a := W * h) (b := k + 1) (by omega) (by omega); omega
          refine g_iload_n 54 C 3 dX6_missed_53 rfl rfl ?_
          refine g_iload 56 C 0 dX6_missed_54 rfl rfl ?_
          refine g_callVF 59 C [0, 1] dX6_missed_56 rfl (k_X6_isMissing E l  (by first | assumption | omega) (by first | assumption | omega) (by first | assumption | omega) (by first | assumption | omega)) (cwV 2 C.2.2.2.2.1 gX6_missed_X6_isMissing rfl rfl rfl cdX6_isMissing ⟨Nat.le_of_ble_eq_true rfl, Nat.le_of_ble_eq_true rfl⟩) rfl rfl rfl rfl (Nat.le_of_ble_eq_true rfl) 0 6 rfl rfl rfl ⟨Nat.le_of_ble_eq_true rfl, Nat.le_of_ble_eq_true rfl⟩ ?_
          refine g_ifb_eq 66 62 C dX6_missed_59 (by decide) rfl ?_ ?_
          · intro h59
            refine g_iconst 67 C dX6_missed_66 rfl ?_
            refine g_iadd 68 C dX6_missed_67 rfl ?_
            refine g_istore_n (lv' := [(3, _), (4, _), (2, _), (1, _), (0, _)]) 69 C dX6_missed_68 rfl rfl (by decide) rfl ?_
            refine g_goto 43 C dX6_missed_69 (by decide) ?_
            exact g_w [0, 1, 2, 3, 4] rfl (by (try dsimp only); first | (rw [cnI_st (msP n pc t) (i := k + 1) (by omega) (by assumption), show cnI (msP n pc t) (k + 1) + 1 - 1 = cnI (msP n pc t) (k + 1) - 1 + 1 by omega]; rfl) | (rw [cnI_sf (msP n pc t) (i := k + 1) (by omega) (by assumption), Int.add_zero]; rfl)) (ih43 ((k + 1)) (by
            try dsimp only
            exact ⟨by omega, by
              by_cases q : msP n pc t (k + 1)
              · rw [cnI_st (msP n pc t) (i := k + 1) (by omega) q]
                by_cases q2 : cnI (msP n pc t) (k + 1) < i
                · exact Or.inl (by omega)
                · exact Or.inr ⟨by omega, q, by omega⟩
              · rw [cnI_sf (msP n pc t) (i := k + 1) (by omega) q]
                exact Or.inl (by omega)⟩) (by (try dsimp only); omega))
          · intro h59
            refine g_iconst 63 C dX6_missed_62 rfl ?_
            refine g_goto 67 C dX6_missed_63 (by decide) ?_
            refine g_iadd 68 C dX6_missed_67 rfl ?_
            refine g_istore_n (lv' := [(3, _), (4, _), (2, _), (1, _), (0, _)]) 69 C dX6_missed_68 rfl rfl (by decide) rfl ?_
            refine g_goto 43 C dX6_missed_69 (by decide) ?_
            exact g_w [0, 1, 2, 3, 4] rfl (by (try dsimp only); first | (rw [cnI_st (msP n pc t) (i := k + 1) (by omega) (by assumption), show cnI (msP n pc t) (k + 1) + 1 - 1 = cnI (msP n pc t) (k + 1) - 1 + 1 by omega]; rfl) | (rw [cnI_sf (msP n pc t) (i := k + 1) (by omega) (by assumption), Int.add_zero]; rfl)) (ih43 ((k + 1)) (by
            try dsimp only
            exact ⟨by omega, by
              by_cases q : msP n pc t (k + 1)
              · rw [cnI_st (msP n pc t) (i := k + 1) (by omega) q]
                by_cases q2 : cnI (msP n pc t) (k + 1) < i
                · exact Or.inl (by omega)
                · exact Or.inr ⟨by omega, q, by omega⟩
              · rw [cnI_sf (msP n pc t) (i := k + 1) (by omega) q]
                exact Or.inl (by omega)⟩) (by (try dsimp only); omega))
      · intro h32
        refine g_bipush 37 C dX6_missed_35 rfl (by decide) ?_
        exact g_iret C hr dX6_missed_37 ⟨_, ⟨rfl, Or.inr (Or.inl ⟨by omega, by omega, rfl⟩)⟩, rfl⟩
    · intro h11
      have em : (if t = 0 ∨ t = 1 then cnI (msP n pc t) (W * h) else -2) = cnI (msP n pc t) (W * h) := if_pos (by omega)
      have eb := cnI_b (msP n pc t) (i := W * h) (by omega)
      refine g_iload_n 15 C 2 dX6_missed_14 rfl rfl ?_
      refine g_aload_n 16 C 0 dX6_missed_15 rfl rfl ?_
      refine g_iload_n 17 C 1 dX6_missed_16 rfl rfl ?_
      refine g_callVF 20 C [0, 1] dX6_missed_17 rfl (k_X6_missing E l  (by first | assumption | omega) (by first | assumption | omega) (by first | assumption | omega) (by first | assumption | omega)) (cwV 1 C.2.2.2.2.1 gX6_missed_X6_missing rfl rfl rfl cdX6_missing ⟨Nat.le_of_ble_eq_true rfl, Nat.le_of_ble_eq_true rfl⟩) rfl rfl rfl rfl (Nat.le_of_ble_eq_true rfl) 0 6 rfl rfl rfl ⟨Nat.le_of_ble_eq_true rfl, Nat.le_of_ble_eq_true rfl⟩ ?_
      refine g_icmp_lt 25 23 C dX6_missed_20 (by decide) rfl (by omega) ?_ ?_
      · intro h20
        refine g_iload_n 26 C 1 dX6_missed_25 rfl rfl ?_
        refine g_i2l 27 C dX6_missed_26 rfl (by omega) ?_
        refine g_lconst 28 C 0 dX6_missed_27 rfl (by decide) ?_
        refine g_lconst 29 C 1 dX6_missed_28 rfl (by decide) ?_
        refine g_callSF 32 C [] dX6_missed_29 rfl (k_X6_in E l  (by first | assumption | omega) (by first | assumption | omega) (by first | assumption | omega)) (va_cwS 3 C.2.2.2.2.1 gX6_missed_X6_in rfl rfl rfl cdX6_in ⟨Nat.le_of_ble_eq_true rfl, Nat.le_of_ble_eq_true rfl⟩) rfl rfl rfl rfl (Nat.le_of_ble_eq_true rfl) ⟨Nat.le_of_ble_eq_true rfl, Nat.le_of_ble_eq_true rfl⟩ ?_
        refine g_ifb_ne 38 35 C dX6_missed_32 (by decide) rfl ?_ ?_
        · intro h32
          refine g_iconst 39 C dX6_missed_38 rfl ?_
          refine g_istore_n (lv' := [(3, _), (0, _), (1, _), (2, _)]) 40 C dX6_missed_39 rfl rfl (by decide) rfl ?_
          refine g_iconst 41 C dX6_missed_40 rfl ?_
          refine g_istore (lv' := [(4, _), (3, _), (0, _), (1, _), (2, _)]) 43 C dX6_missed_41 rfl (by decide) rfl ?_
          refine g_loop (α := Int) (fun zz => [(a_M, .inr (6, [.int (iI mf), .int (iI W), .int (iI h), .ref a_Mh, .long md, .int (iI mL), .int (iI mN), .int (iI n), .ref a_Mp, .ref a_Mt, .int (iI tc), .int (iI fd), .ref a_Ma, .ref a_Mu, .ref a_Mi, .int (iI jo), .ref a_Mx, .ref a_My, .ref a_Ms, .ref a_Ml, .ref a_Mc, .ref a_Mg, .int (iI tr)])), (a_Mp, aI E 25 pc)]) (fun zz => [(3, .int (iI (cnI (msP n pc t) (zz + 1) - 1))), (4, .int (iI zz)), (2, .int (iI i)), (1, .int (iI t)), (0, .ref a_M)]) (fun zz => (-1 ≤ zz ∧ zz < W * h) ∧ (cnI (msP n pc t) (zz + 1) - 1 < i ∨ (0 ≤ zz ∧ msP n pc t zz ∧ cnI (msP n pc t) zz = i))) (fun zz => (W * h - zz).toNat) (-1) (by
            try dsimp only
            exact ⟨by omega, Or.inl (by rw [show (-1 : Int) + 1 = 0 by omega, cnI_0]; omega)⟩) [1, 0, 4, 3, 2] rfl rfl ?_
          rintro k hI ih43
          try dsimp only at hI ih43 ⊢
          obtain ⟨hk, hor⟩ := hI
          refine g_iload_n 44 C 0 dX6_missed_43 rfl rfl ?_
          refine g_iload_n 45 C 2 dX6_missed_44 rfl rfl ?_
          have eb2 := cnI_b (msP n pc t) (i := k + 1) (by omega)
          refine g_icmp_ge 72 48 C dX6_missed_45 (by decide) rfl (by omega) ?_ ?_
          · intro h45
            refine g_iload 74 C 1 dX6_missed_72 rfl rfl ?_
            exact g_iret C hr dX6_missed_74 ⟨_, ⟨rfl, Or.inr (Or.inr ⟨by omega, by omega, by
            rcases hor with q | q
            · omega
            · exact Or.inr ⟨by omega, q.2⟩⟩)⟩, rfl⟩
          · intro h45
            refine g_iinc (lv' := [(4, _), (3, _), (2, _), (1, _), (0, _)]) 51 C 1 dX6_missed_48 rfl rfl (by decide) rfl ?_
            refine g_iload_n 52 C 1 dX6_missed_51 rfl rfl ?_
            refine g_aload_n 53 C 4 dX6_missed_52 rfl rfl ?_
            have hlt : k + 1 < W * h := Classical.byContradiction fun q => by have := cnI_m (msP n pc t) (a := W * h) (b := k + 1) (by omega) (by omega); omega
            refine g_iload_n 54 C 3 dX6_missed_53 rfl rfl ?_
            refine g_iload 56 C 0 dX6_missed_54 rfl rfl ?_
            refine g_callVF 59 C [0, 1] dX6_missed_56 rfl (k_X6_isMissing E l  (by first | assumption | omega) (by first | assumption | omega) (by first | assumption | omega) (by first | assumption | omega)) (cwV 2 C.2.2.2.2.1 gX6_missed_X6_isMissing rfl rfl rfl cdX6_isMissing ⟨Nat.le_of_ble_eq_true rfl, Nat.le_of_ble_eq_true rfl⟩) rfl rfl rfl rfl (Nat.le_of_ble_eq_true rfl) 0 6 rfl rfl rfl ⟨Nat.le_of_ble_eq_true rfl, Nat.le_of_ble_eq_true rfl⟩ ?_
            refine g_ifb_eq 66 62 C dX6_missed_59 (by decide) rfl ?_ ?_
            · intro h59
              refine g_iconst 67 C dX6_missed_66 rfl ?_
              refine g_iadd 68 C dX6_missed_67 rfl ?_
              refine g_istore_n (lv' := [(3, _), (4, _), (2, _), (1, _), (0, _)]) 69 C dX6_missed_68 rfl rfl (by decide) rfl ?_
              refine g_goto 43 C dX6_missed_69 (by decide) ?_
              exact g_w [0, 1, 2, 3, 4] rfl (by (try dsimp only); first | (rw [cnI_st (msP n pc t) (i := k + 1) (by omega) (by assumption), show cnI (msP n pc t) (k + 1) + 1 - 1 = cnI (msP n pc t) (k + 1) - 1 + 1 by omega]; rfl) | (rw [cnI_sf (msP n pc t) (i := k + 1) (by omega) (by assumption), Int.add_zero]; rfl)) (ih43 ((k + 1)) (by
            try dsimp only
            exact ⟨by omega, by
              by_cases q : msP n pc t (k + 1)
              · rw [cnI_st (msP n pc t) (i := k + 1) (by omega) q]
                by_cases q2 : cnI (msP n pc t) (k + 1) < i
                · exact Or.inl (by omega)
                · exact Or.inr ⟨by omega, q, by omega⟩
              · rw [cnI_sf (msP n pc t) (i := k + 1) (by omega) q]
                exact Or.inl (by omega)⟩) (by (try dsimp only); omega))
            · intro h59
              refine g_iconst 63 C dX6_missed_62 rfl ?_
              refine g_goto 67 C dX6_missed_63 (by decide) ?_
              refine g_iadd 68 C dX6_missed_67 rfl ?_
              refine g_istore_n (lv' := [(3, _), (4, _), (2, _), (1, _), (0, _)]) 69 C dX6_missed_68 rfl rfl (by decide) rfl ?_
              refine g_goto 43 C dX6_missed_69 (by decide) ?_
              exact g_w [0, 1, 2, 3, 4] rfl (by (try dsimp only); first | (rw [cnI_st (msP n pc t) (i := k + 1) (by omega) (by assumption), show cnI (msP n pc t) (k + 1) + 1 - 1 = cnI (msP n pc t) (k + 1) - 1 + 1 by omega]; rfl) | (rw [cnI_sf (msP n pc t) (i := k + 1) (by omega) (by assumption), Int.add_zero]; rfl)) (ih43 ((k + 1)) (by
            try dsimp only
            exact ⟨by omega, by
              by_cases q : msP n pc t (k + 1)
              · rw [cnI_st (msP n pc t) (i := k + 1) (by omega) q]
                by_cases q2 : cnI (msP n pc t) (k + 1) < i
                · exact Or.inl (by omega)
                · exact Or.inr ⟨by omega, q, by omega⟩
              · rw [cnI_sf (msP n pc t) (i := k + 1) (by omega) q]
                exact Or.inl (by omega)⟩) (by (try dsimp only); omega))
        · intro h32
          refine g_bipush 37 C dX6_missed_35 rfl (by decide) ?_
          exact g_iret C hr dX6_missed_37 ⟨_, ⟨rfl, Or.inr (Or.inl ⟨by omega, by omega, rfl⟩)⟩, rfl⟩
      · intro h20
        refine g_iconst 24 C dX6_missed_23 rfl ?_
        exact g_iret C hr dX6_missed_24 ⟨_, ⟨rfl, by first | exact Or.inl ⟨by omega, rfl⟩ | exact Or.inr (Or.inr ⟨by omega, by omega, Or.inl ⟨rfl, by omega⟩⟩)⟩, rfl⟩
theorem lX6_neighbour_47 : Cond.fieldLink RX6 47 (TX6 1).1 (TX6 1).2.1 (TX6 1).2.2.1 ∈ wsX6_neighbour := by decide +kernel
theorem iX6_neighbour_X6 : ∀ w ∈ u_ws RX6 TX6 23, w ∈ wsX6_neighbour := by decide +kernel
set_option maxHeartbeats 4000000 in
set_option maxRecDepth 100000 in
theorem k_X6_neighbour (E : gE) (l : Launch) {a_M a_Ma a_Mc a_Mg a_Mh a_Mi a_Ml a_Mp a_Ms a_Mt a_Mu a_Mx a_My : Nat} {p e : Int} {mf W h mL mN n tc fd jo tr : Int} {md : Int64} (he : 0 ≤ e ∧ e < 4) : gFun E l yX6_neighbour wsX6_neighbour { frames := 0, cells := 0, slots := 0, locals := 0 } [.ref a_M, .int (iI p), .int (iI e)] [(a_M, .inr (6, [.int (iI mf), .int (iI W), .int (iI h), .ref a_Mh, .long md, .int (iI mL), .int (iI mN), .int (iI n), .ref a_Mp, .ref a_Mt, .int (iI tc), .int (iI fd), .ref a_Ma, .ref a_Mu, .ref a_Mi, .int (iI jo), .ref a_Mx, .ref a_My, .ref a_Ms, .ref a_Ml, .ref a_Mc, .ref a_Mg, .int (iI tr)]))] (.int (iI (nxI W p e))) := by
  refine g_start (cc := cX6_neighbour) (maxL := 3) (ret := (some .int)) (by decide) rfl (Nat.le_of_ble_eq_true rfl) ?_
  intro p_ e_ s_ m_ args_ below_ meth_ c_ A_ C hr hnm
  refine g_iload_n 1 C 2 dX6_neighbour_0 rfl rfl ?_
  refine g_if_ne 13 4 C dX6_neighbour_1 (by decide) rfl (by omega) ?_ ?_
  · intro h1
    refine g_iload_n 14 C 2 dX6_neighbour_13 rfl rfl ?_
    refine g_iconst 15 C dX6_neighbour_14 rfl ?_
    refine g_icmp_ne 24 18 C dX6_neighbour_15 (by decide) rfl (by omega) ?_ ?_
    · intro h15
      refine g_iload_n 25 C 2 dX6_neighbour_24 rfl rfl ?_
      refine g_iconst 26 C dX6_neighbour_25 rfl ?_
      refine g_icmp_ne 38 29 C dX6_neighbour_26 (by decide) rfl (by omega) ?_ ?_
      · intro h26
        refine g_iload_n 39 C 1 dX6_neighbour_38 rfl rfl ?_
        refine g_iconst 40 C dX6_neighbour_39 rfl ?_
        refine g_isub 41 C dX6_neighbour_40 rfl ?_
        exact g_iret C hr dX6_neighbour_41 ⟨g_ri (by unfold nxI; (repeat' split) <;> omega), rfl⟩
      · intro h26
        refine g_iload_n 30 C 1 dX6_neighbour_29 rfl rfl ?_
        refine g_aload_n 31 C 0 dX6_neighbour_30 rfl rfl ?_
        refine g_get 34 C 0 1 6 iX6_neighbour_X6 lX6_neighbour_47 dX6_neighbour_31 rfl rfl rfl (by decide) rfl ?_
        refine g_iadd 35 C dX6_neighbour_34 rfl ?_
        refine g_goto 41 C dX6_neighbour_35 (by decide) ?_
        exact g_iret C hr dX6_neighbour_41 ⟨g_ri (by unfold nxI; (repeat' split) <;> omega), rfl⟩
    · intro h15
      refine g_iload_n 19 C 1 dX6_neighbour_18 rfl rfl ?_
      refine g_iconst 20 C dX6_neighbour_19 rfl ?_
      refine g_iadd 21 C dX6_neighbour_20 rfl ?_
      refine g_goto 41 C dX6_neighbour_21 (by decide) ?_
      exact g_iret C hr dX6_neighbour_41 ⟨g_ri (by unfold nxI; (repeat' split) <;> omega), rfl⟩
  · intro h1
    refine g_iload_n 5 C 1 dX6_neighbour_4 rfl rfl ?_
    refine g_aload_n 6 C 0 dX6_neighbour_5 rfl rfl ?_
    refine g_get 9 C 0 1 6 iX6_neighbour_X6 lX6_neighbour_47 dX6_neighbour_6 rfl rfl rfl (by decide) rfl ?_
    refine g_isub 10 C dX6_neighbour_9 rfl ?_
    refine g_goto 41 C dX6_neighbour_10 (by decide) ?_
    exact g_iret C hr dX6_neighbour_41 ⟨g_ri (by unfold nxI; (repeat' split) <;> omega), rfl⟩
theorem cdX6_neighbour : yX6_neighbour.cls = RX6 ∧ yX6_neighbour.cls ≠ "java/lang/invoke/MethodHandle" ∧ yX6_neighbour.cls ≠ "java/lang/invoke/VarHandle" ∧ (parseMethodDescriptor yX6_neighbour.desc).map (fun d => d.parameters.length) = some 2 := by decide +kernel
set_option maxHeartbeats 4000000 in
set_option maxRecDepth 100000 in
theorem k_X6_known (E : gE) (l : Launch) {a_M a_Ma a_Mc a_Mg a_Mh a_Mi a_Ml a_Mp a_Ms a_Mt a_Mu a_Mx a_My : Nat} {p : Int} {pc : Int → Int} {mf W h mL mN n tc fd jo tr : Int} {md : Int64} (hB : 1 ≤ W ∧ W ≤ 5 ∧ 1 ≤ h ∧ h ≤ 5) (hn : 0 ≤ n ∧ n ≤ 25) (hpn : ∀ j : Int, 0 ≤ j ∧ j < n → 0 ≤ pc j ∧ pc j < 25) (hp : -2147483648 ≤ p ∧ p < 2147483648) : gFun E l yX6_known wsX6_known { frames := 2, cells := 0, slots := 0, locals := 46 } [.ref a_M, .int (iI p)] [(a_M, .inr (6, [.int (iI mf), .int (iI W), .int (iI h), .ref a_Mh, .long md, .int (iI mL), .int (iI mN), .int (iI n), .ref a_Mp, .ref a_Mt, .int (iI tc), .int (iI fd), .ref a_Ma, .ref a_Mu, .ref a_Mi, .int (iI jo), .ref a_Mx, .ref a_My, .ref a_Ms, .ref a_Ml, .ref a_Mc, .ref a_Mg, .int (iI tr)])), (a_Mp, aI E 25 pc)] (.int (iI (if ¬ (0 ≤ p ∧ p < W * h) then -1 else if 0 < tmI n pc p then -3 else knI W h n pc p 4))) := by
  refine g_start (cc := cX6_known) (maxL := 4) (ret := (some .int)) (by decide) rfl (Nat.le_of_ble_eq_true rfl) ?_
  intro p_ e_ s_ m_ args_ below_ meth_ c_ A_ C hr hnm
  have hN := nsd_b hB
  refine g_aload_n 1 C 0 dX6_known_0 rfl rfl ?_
  refine g_iload_n 2 C 1 dX6_known_1 rfl rfl ?_
  refine g_callVF 5 C [0] dX6_known_2 rfl (k_X6_noPiece E l  (by first | assumption | omega) (by first | assumption | omega)) (cwV 1 C.2.2.2.2.1 gX6_known_X6_noPiece rfl rfl rfl cdX6_noPiece ⟨Nat.le_of_ble_eq_true rfl, Nat.le_of_ble_eq_true rfl⟩) rfl rfl rfl rfl (Nat.le_of_ble_eq_true rfl) 0 6 rfl rfl rfl ⟨Nat.le_of_ble_eq_true rfl, Nat.le_of_ble_eq_true rfl⟩ ?_
  refine g_ifb_eq 10 8 C dX6_known_5 (by decide) rfl ?_ ?_
  · intro h5
    refine g_aload_n 11 C 0 dX6_known_10 rfl rfl ?_
    refine g_iload_n 12 C 1 dX6_known_11 rfl rfl ?_
    refine g_callVF 15 C [0, 1] dX6_known_12 rfl (k_X6_timesIn E l  (by first | assumption | omega) (by first | assumption | omega) (by first | assumption | omega)) (cwV 1 C.2.2.2.2.1 gX6_known_X6_timesIn rfl rfl rfl cdX6_timesIn ⟨Nat.le_of_ble_eq_true rfl, Nat.le_of_ble_eq_true rfl⟩) rfl rfl rfl rfl (Nat.le_of_ble_eq_true rfl) 0 6 rfl rfl rfl ⟨Nat.le_of_ble_eq_true rfl, Nat.le_of_ble_eq_true rfl⟩ ?_
    have e0 := cnI_b (fun j => pc j = p) hn.1
    have e1 : tmI n pc p = cnI (fun j => pc j = p) n := rfl
    refine g_if_le 21 18 C dX6_known_15 (by decide) rfl (by omega) ?_ ?_
    · intro h15
      refine g_iconst 22 C dX6_known_21 rfl ?_
      refine g_istore_n (lv' := [(2, _), (0, _), (1, _)]) 23 C dX6_known_22 rfl rfl (by decide) rfl ?_
      refine g_iconst 24 C dX6_known_23 rfl ?_
      refine g_istore_n (lv' := [(3, _), (2, _), (0, _), (1, _)]) 25 C dX6_known_24 rfl rfl (by decide) rfl ?_
      refine g_loop (α := Int × Int) (fun zz => [(a_M, .inr (6, [.int (iI mf), .int (iI W), .int (iI h), .ref a_Mh, .long md, .int (iI mL), .int (iI mN), .int (iI n), .ref a_Mp, .ref a_Mt, .int (iI tc), .int (iI fd), .ref a_Ma, .ref a_Mu, .ref a_Mi, .int (iI jo), .ref a_Mx, .ref a_My, .ref a_Ms, .ref a_Ml, .ref a_Mc, .ref a_Mg, .int (iI tr)])), (a_Mp, aI E 25 pc)]) (fun zz => [(2, .int (iI zz.1)), (3, .int (iI zz.2)), (1, .int (iI p)), (0, .ref a_M)]) (fun zz => (0 ≤ zz.2 ∧ zz.2 ≤ 4) ∧ zz.1 = knI W h n pc p zz.2) (fun zz => (4 - zz.2).toNat) (0, 0) (by
            try dsimp only
            exact ⟨by omega, rfl⟩) [1, 0, 3, 2] rfl rfl ?_
      rintro ⟨c, k⟩ hI ih25
      try dsimp only at hI ih25 ⊢
      obtain ⟨hk, rfl⟩ := hI
      refine g_iload_n 26 C 1 dX6_known_25 rfl rfl ?_
      refine g_iconst 27 C dX6_known_26 rfl ?_
      refine g_icmp_ge 66 30 C dX6_known_27 (by decide) rfl (by omega) ?_ ?_
      · intro h27
        refine g_iload_n 67 C 0 dX6_known_66 rfl rfl ?_
        exact g_iret C hr dX6_known_67 ⟨g_ri (((if_neg (by omega)).trans ((if_neg (by omega)).trans (by rw [show (4 : Int) = k by omega]))).symm), rfl⟩
      · intro h27
        refine g_iload_n 31 C 0 dX6_known_30 rfl rfl ?_
        refine g_aload_n 32 C 3 dX6_known_31 rfl rfl ?_
        refine g_iload_n 33 C 2 dX6_known_32 rfl rfl ?_
        refine g_iload_n 34 C 1 dX6_known_33 rfl rfl ?_
        refine g_callVF 37 C [0] dX6_known_34 rfl (k_X6_sideAt E l  (by first | assumption | omega) (by first | assumption | omega) (by first | assumption | omega)) (cwV 2 C.2.2.2.2.1 gX6_known_X6_sideAt rfl rfl rfl cdX6_sideAt ⟨Nat.le_of_ble_eq_true rfl, Nat.le_of_ble_eq_true rfl⟩) rfl rfl rfl rfl (Nat.le_of_ble_eq_true rfl) 0 6 rfl rfl rfl ⟨Nat.le_of_ble_eq_true rfl, Nat.le_of_ble_eq_true rfl⟩ ?_
        have eb := sdI_b (p := p) (e := k) hB (by omega) (by omega)
        refine g_if_lt 57 40 C dX6_known_37 (by decide) rfl (by omega) ?_ ?_
        · intro h37
          refine g_iconst 58 C dX6_known_57 rfl ?_
          refine g_iadd 59 C dX6_known_58 rfl ?_
          refine g_istore_n (lv' := [(2, _), (3, _), (1, _), (0, _)]) 60 C dX6_known_59 rfl rfl (by decide) rfl ?_
          refine g_iinc (lv' := [(3, _), (2, _), (1, _), (0, _)]) 63 C 1 dX6_known_60 rfl rfl (by decide) rfl ?_
          refine g_goto 25 C dX6_known_63 (by decide) ?_
          first
          | exact g_w [1, 0, 2, 3] rfl rfl (ih25 ((knI W h n pc p k + 5), (k + 1)) (by
            try dsimp only
            exact ⟨by omega, by first | (rw [knI_s W h n pc p hk.1, cI_t (by omega)]) | (rw [knI_s W h n pc p hk.1, cI_f (by omega)])⟩) (by (try dsimp only); omega))
          | exact g_w [1, 0, 2, 3] rfl rfl (ih25 ((knI W h n pc p k + 0), (k + 1)) (by
            try dsimp only
            exact ⟨by omega, by first | (rw [knI_s W h n pc p hk.1, cI_t (by omega)]) | (rw [knI_s W h n pc p hk.1, cI_f (by omega)])⟩) (by (try dsimp only); omega))
        · intro h37
          refine g_aload_n 41 C 3 dX6_known_40 rfl rfl ?_
          refine g_aload_n 42 C 3 dX6_known_41 rfl rfl ?_
          refine g_iload_n 43 C 2 dX6_known_42 rfl rfl ?_
          refine g_iload_n 44 C 1 dX6_known_43 rfl rfl ?_
          have e2 := nxI_b (p := p) (e := k) (And.intro hB.1 hB.2.1)
          have e3 := cnI_b (fun j => pc j = nxI W p k) hn.1
          have e4 : tmI n pc (nxI W p k) = cnI (fun j => pc j = nxI W p k) n := rfl
          refine g_callVF 47 C [0] dX6_known_44 rfl (k_X6_neighbour E l  (by first | assumption | omega)) (cwV 2 C.2.2.2.2.1 gX6_known_X6_neighbour rfl rfl rfl cdX6_neighbour ⟨Nat.le_of_ble_eq_true rfl, Nat.le_of_ble_eq_true rfl⟩) rfl rfl rfl rfl (Nat.le_of_ble_eq_true rfl) 0 6 rfl rfl rfl ⟨Nat.le_of_ble_eq_true rfl, Nat.le_of_ble_eq_true rfl⟩ ?_
          refine g_callVF 50 C [0, 1] dX6_known_47 rfl (k_X6_timesIn E l  (by first | assumption | omega) (by first | assumption | omega) (by first | assumption | omega)) (cwV 1 C.2.2.2.2.1 gX6_known_X6_timesIn rfl rfl rfl cdX6_timesIn ⟨Nat.le_of_ble_eq_true rfl, Nat.le_of_ble_eq_true rfl⟩) rfl rfl rfl rfl (Nat.le_of_ble_eq_true rfl) 0 6 rfl rfl rfl ⟨Nat.le_of_ble_eq_true rfl, Nat.le_of_ble_eq_true rfl⟩ ?_
          refine g_if_le 57 53 C dX6_known_50 (by decide) rfl (by omega) ?_ ?_
          · intro h50
            refine g_iconst 58 C dX6_known_57 rfl ?_
            refine g_iadd 59 C dX6_known_58 rfl ?_
            refine g_istore_n (lv' := [(2, _), (3, _), (1, _), (0, _)]) 60 C dX6_known_59 rfl rfl (by decide) rfl ?_
            refine g_iinc (lv' := [(3, _), (2, _), (1, _), (0, _)]) 63 C 1 dX6_known_60 rfl rfl (by decide) rfl ?_
            refine g_goto 25 C dX6_known_63 (by decide) ?_
            first
            | exact g_w [1, 0, 2, 3] rfl rfl (ih25 ((knI W h n pc p k + 5), (k + 1)) (by
            try dsimp only
            exact ⟨by omega, by first | (rw [knI_s W h n pc p hk.1, cI_t (by omega)]) | (rw [knI_s W h n pc p hk.1, cI_f (by omega)])⟩) (by (try dsimp only); omega))
            | exact g_w [1, 0, 2, 3] rfl rfl (ih25 ((knI W h n pc p k + 0), (k + 1)) (by
            try dsimp only
            exact ⟨by omega, by first | (rw [knI_s W h n pc p hk.1, cI_t (by omega)]) | (rw [knI_s W h n pc p hk.1, cI_f (by omega)])⟩) (by (try dsimp only); omega))
          · intro h50
            refine g_iconst 54 C dX6_known_53 rfl ?_
            refine g_goto 58 C dX6_known_54 (by decide) ?_
            refine g_iadd 59 C dX6_known_58 rfl ?_
            refine g_istore_n (lv' := [(2, _), (3, _), (1, _), (0, _)]) 60 C dX6_known_59 rfl rfl (by decide) rfl ?_
            refine g_iinc (lv' := [(3, _), (2, _), (1, _), (0, _)]) 63 C 1 dX6_known_60 rfl rfl (by decide) rfl ?_
            refine g_goto 25 C dX6_known_63 (by decide) ?_
            first
            | exact g_w [1, 0, 2, 3] rfl rfl (ih25 ((knI W h n pc p k + 5), (k + 1)) (by
            try dsimp only
            exact ⟨by omega, by first | (rw [knI_s W h n pc p hk.1, cI_t (by omega)]) | (rw [knI_s W h n pc p hk.1, cI_f (by omega)])⟩) (by (try dsimp only); omega))
            | exact g_w [1, 0, 2, 3] rfl rfl (ih25 ((knI W h n pc p k + 0), (k + 1)) (by
            try dsimp only
            exact ⟨by omega, by first | (rw [knI_s W h n pc p hk.1, cI_t (by omega)]) | (rw [knI_s W h n pc p hk.1, cI_f (by omega)])⟩) (by (try dsimp only); omega))
    · intro h15
      refine g_bipush 20 C dX6_known_18 rfl (by decide) ?_
      exact g_iret C hr dX6_known_20 ⟨g_ri (((if_neg (by omega)).trans (if_pos (by omega))).symm), rfl⟩
  · intro h5
    refine g_iconst 9 C dX6_known_8 rfl ?_
    exact g_iret C hr dX6_known_9 ⟨g_ri ((if_pos (by omega)).symm), rfl⟩
theorem cdX6_traced : yX6_traced.cls = RX6 ∧ yX6_traced.cls ≠ "java/lang/invoke/MethodHandle" ∧ yX6_traced.cls ≠ "java/lang/invoke/VarHandle" ∧ (parseMethodDescriptor yX6_traced.desc).map (fun d => d.parameters.length) = some 1 := by decide +kernel
theorem lX6_tell_7 : Cond.fieldLink RX6 7 (TX6 3).1 (TX6 3).2.1 (TX6 3).2.2.1 ∈ wsX6_tell := by decide +kernel
theorem iX6_tell_X6 : ∀ w ∈ u_ws RX6 TX6 23, w ∈ wsX6_tell := by decide +kernel
set_option maxHeartbeats 4000000 in
set_option maxRecDepth 100000 in
theorem k_X6_tell (E : gE) (l : Launch) {a_M a_Ma a_Mc a_Mg a_Mh a_Mi a_Ml a_Mp a_Ms a_Mt a_Mu a_Mx a_My : Nat} {z : Int} {hs : Int → Int} {mf W h mL mN n tc fd jo tr : Int} {md : Int64} (hB : 1 ≤ W ∧ W ≤ 5 ∧ 1 ≤ h ∧ h ≤ 5) (hh : hB9 hs) (hz : -2147483648 ≤ z ∧ z < 2147483648) : gUpd E l yX6_tell wsX6_tell { frames := 3, cells := 0, slots := 0, locals := 62 } [.ref a_M, .int (iI z)] [(a_M, .inr (6, [.int (iI mf), .int (iI W), .int (iI h), .ref a_Mh, .long md, .int (iI mL), .int (iI mN), .int (iI n), .ref a_Mp, .ref a_Mt, .int (iI tc), .int (iI fd), .ref a_Ma, .ref a_Mu, .ref a_Mi, .int (iI jo), .ref a_Mx, .ref a_My, .ref a_Ms, .ref a_Ml, .ref a_Mc, .ref a_Mg, .int (iI tr)])), (a_Mh, aI E 200 hs)] (some (.int (iI (if ¬ (0 ≤ z ∧ z < nsd W h) then -1 else if kdI hs (nsd W h) z = 2 then -(smI hs z) else if kdI hs (nsd W h) z = 1 then smI hs z + 100 else smI hs z)))) [(a_M, .inr (6, [.int (iI mf), .int (iI W), .int (iI h), .ref a_Mh, .long md, .int (iI mL), .int (iI mN), .int (iI n), .ref a_Mp, .ref a_Mt, .int (iI tc), .int (iI fd), .ref a_Ma, .ref a_Mu, .ref a_Mi, .int (iI jo), .ref a_Mx, .ref a_My, .ref a_Ms, .ref a_Ml, .ref a_Mc, .ref a_Mg, .int (iI (if ¬ (0 ≤ z ∧ z < nsd W h) then tr else if kdI hs (nsd W h) z = 2 then 31 * (31 * tr + 3) + 1 else if kdI hs (nsd W h) z = 1 then 31 * (31 * tr + 2) + 1 else 31 * tr + 1))])), (a_Mh, aI E 200 hs)] := by
  refine g_start (cc := cX6_tell) (maxL := 5) (ret := (some .int)) (by decide) rfl (Nat.le_of_ble_eq_true rfl) ?_
  intro p_ e_ s_ m_ args_ below_ meth_ c_ A_ C hr hnm
  have hN := nsd_b hB
  refine g_aload_n 1 C 0 dX6_tell_0 rfl rfl ?_
  refine g_iload_n 2 C 1 dX6_tell_1 rfl rfl ?_
  refine g_callVF 5 C [0] dX6_tell_2 rfl (k_X6_noSide E l  (by first | assumption | omega) (by first | assumption | omega)) (cwV 1 C.2.2.2.2.1 gX6_tell_X6_noSide rfl rfl rfl cdX6_noSide ⟨Nat.le_of_ble_eq_true rfl, Nat.le_of_ble_eq_true rfl⟩) rfl rfl rfl rfl (Nat.le_of_ble_eq_true rfl) 0 6 rfl rfl rfl ⟨Nat.le_of_ble_eq_true rfl, Nat.le_of_ble_eq_true rfl⟩ ?_
  refine g_ifb_eq 10 8 C dX6_tell_5 (by decide) rfl ?_ ?_
  · intro h5
    refine g_aload_n 11 C 0 dX6_tell_10 rfl rfl ?_
    refine g_iload_n 12 C 1 dX6_tell_11 rfl rfl ?_
    refine g_callVF 15 C [0, 1] dX6_tell_12 rfl (k_X6_kindOf E l  (by first | assumption | omega) (by first | assumption | omega) (by first | assumption | omega)) (cwV 1 C.2.2.2.2.1 gX6_tell_X6_kindOf rfl rfl rfl cdX6_kindOf ⟨Nat.le_of_ble_eq_true rfl, Nat.le_of_ble_eq_true rfl⟩) rfl rfl rfl rfl (Nat.le_of_ble_eq_true rfl) 0 6 rfl rfl rfl ⟨Nat.le_of_ble_eq_true rfl, Nat.le_of_ble_eq_true rfl⟩ ?_
    have e0 := kdI_b hs (nsd W h) z
    refine g_istore_n (lv' := [(2, _), (0, _), (1, _)]) 16 C dX6_tell_15 rfl rfl (by decide) rfl ?_
    refine g_iload_n 17 C 0 dX6_tell_16 rfl rfl ?_
    refine g_if_le 27 20 C dX6_tell_17 (by decide) rfl (by omega) ?_ ?_
    · intro h17
      refine g_aload_n 28 C 1 dX6_tell_27 rfl rfl ?_
      refine g_iconst 29 C dX6_tell_28 rfl ?_
      refine g_callVU (ws' := [(_, .inr (6, [_, _, _, _, _, _, _, _, _, _, _, _, _, _, _, _, _, _, _, _, _, _, _])), (_, aI _ _ _)]) 32 C [0] dX6_tell_29 rfl (k_X6_traced E l  ) (cwV 1 C.2.2.2.2.1 gX6_tell_X6_traced rfl rfl rfl cdX6_traced ⟨Nat.le_of_ble_eq_true rfl, Nat.le_of_ble_eq_true rfl⟩) rfl rfl rfl rfl (Nat.le_of_ble_eq_true rfl) 0 6 rfl rfl rfl ⟨Nat.le_of_ble_eq_true rfl, Nat.le_of_ble_eq_true rfl⟩ rfl rfl ?_
      refine g_iconst 33 C dX6_tell_32 rfl ?_
      refine g_istore_n (lv' := [(3, _), (2, _), (0, _), (1, _)]) 34 C dX6_tell_33 rfl rfl (by decide) rfl ?_
      refine g_iconst 35 C dX6_tell_34 rfl ?_
      refine g_istore (lv' := [(4, _), (3, _), (2, _), (0, _), (1, _)]) 37 C dX6_tell_35 rfl (by decide) rfl ?_
      refine g_iload 39 C 0 dX6_tell_37 rfl rfl ?_
      refine g_iconst 40 C dX6_tell_39 rfl ?_
      refine g_icmp_ge 63 43 C dX6_tell_40 (by decide) rfl (by omega) (fun q => absurd q (by omega)) ?_
      intro _
      refine g_iload_n 44 C 1 dX6_tell_43 rfl rfl ?_
      refine g_aload_n 45 C 3 dX6_tell_44 rfl rfl ?_
      refine g_get 48 C 0 3 6 iX6_tell_X6 lX6_tell_7 dX6_tell_45 rfl rfl rfl (by decide) rfl ?_
      refine g_iconst 49 C dX6_tell_48 rfl ?_
      refine g_iload_n 50 C 4 dX6_tell_49 rfl rfl ?_
      refine g_imul 51 C dX6_tell_50 rfl ?_
      refine g_iload 53 C 0 dX6_tell_51 rfl rfl ?_
      refine g_iadd 54 C dX6_tell_53 rfl ?_
      refine g_iaload 55 C 1 dX6_tell_54 rfl rfl (by omega) ?_
      refine g_iadd 56 C dX6_tell_55 rfl ?_
      refine g_istore_n (lv' := [(3, _), (4, _), (2, _), (0, _), (1, _)]) 57 C dX6_tell_56 rfl rfl (by decide) rfl ?_
      refine g_iinc (lv' := [(4, .int (iI 1)), (3, _), (2, _), (0, _), (1, _)]) 60 C 1 dX6_tell_57 rfl rfl (by decide) rfl ?_
      refine g_goto 37 C dX6_tell_60 (by decide) ?_
      refine g_iload 39 C 0 dX6_tell_37 rfl rfl ?_
      refine g_iconst 40 C dX6_tell_39 rfl ?_
      refine g_icmp_ge 63 43 C dX6_tell_40 (by decide) rfl (by omega) (fun q => absurd q (by omega)) ?_
      intro _
      refine g_iload_n 44 C 1 dX6_tell_43 rfl rfl ?_
      refine g_aload_n 45 C 3 dX6_tell_44 rfl rfl ?_
      refine g_get 48 C 0 3 6 iX6_tell_X6 lX6_tell_7 dX6_tell_45 rfl rfl rfl (by decide) rfl ?_
      refine g_iconst 49 C dX6_tell_48 rfl ?_
      refine g_iload_n 50 C 4 dX6_tell_49 rfl rfl ?_
      refine g_imul 51 C dX6_tell_50 rfl ?_
      refine g_iload 53 C 0 dX6_tell_51 rfl rfl ?_
      refine g_iadd 54 C dX6_tell_53 rfl ?_
      refine g_iaload 55 C 1 dX6_tell_54 rfl rfl (by omega) ?_
      refine g_iadd 56 C dX6_tell_55 rfl ?_
      refine g_istore_n (lv' := [(3, _), (4, _), (2, _), (0, _), (1, _)]) 57 C dX6_tell_56 rfl rfl (by decide) rfl ?_
      refine g_iinc (lv' := [(4, .int (iI 2)), (3, _), (2, _), (0, _), (1, _)]) 60 C 1 dX6_tell_57 rfl rfl (by decide) rfl ?_
      refine g_goto 37 C dX6_tell_60 (by decide) ?_
      refine g_iload 39 C 0 dX6_tell_37 rfl rfl ?_
      refine g_iconst 40 C dX6_tell_39 rfl ?_
      refine g_icmp_ge 63 43 C dX6_tell_40 (by decide) rfl (by omega) (fun q => absurd q (by omega)) ?_
      intro _
      refine g_iload_n 44 C 1 dX6_tell_43 rfl rfl ?_
      refine g_aload_n 45 C 3 dX6_tell_44 rfl rfl ?_
      refine g_get 48 C 0 3 6 iX6_tell_X6 lX6_tell_7 dX6_tell_45 rfl rfl rfl (by decide) rfl ?_
      refine g_iconst 49 C dX6_tell_48 rfl ?_
      refine g_iload_n 50 C 4 dX6_tell_49 rfl rfl ?_
      refine g_imul 51 C dX6_tell_50 rfl ?_
      refine g_iload 53 C 0 dX6_tell_51 rfl rfl ?_
      refine g_iadd 54 C dX6_tell_53 rfl ?_
      refine g_iaload 55 C 1 dX6_tell_54 rfl rfl (by omega) ?_
      refine g_iadd 56 C dX6_tell_55 rfl ?_
      refine g_istore_n (lv' := [(3, _), (4, _), (2, _), (0, _), (1, _)]) 57 C dX6_tell_56 rfl rfl (by decide) rfl ?_
      refine g_iinc (lv' := [(4, .int (iI 3)), (3, _), (2, _), (0, _), (1, _)]) 60 C 1 dX6_tell_57 rfl rfl (by decide) rfl ?_
      refine g_goto 37 C dX6_tell_60 (by decide) ?_
      refine g_iload 39 C 0 dX6_tell_37 rfl rfl ?_
      refine g_iconst 40 C dX6_tell_39 rfl ?_
      refine g_icmp_ge 63 43 C dX6_tell_40 (by decide) rfl (by omega) (fun q => absurd q (by omega)) ?_
      intro _
      refine g_iload_n 44 C 1 dX6_tell_43 rfl rfl ?_
      refine g_aload_n 45 C 3 dX6_tell_44 rfl rfl ?_
      refine g_get 48 C 0 3 6 iX6_tell_X6 lX6_tell_7 dX6_tell_45 rfl rfl rfl (by decide) rfl ?_
      refine g_iconst 49 C dX6_tell_48 rfl ?_
      refine g_iload_n 50 C 4 dX6_tell_49 rfl rfl ?_
      refine g_imul 51 C dX6_tell_50 rfl ?_
      refine g_iload 53 C 0 dX6_tell_51 rfl rfl ?_
      refine g_iadd 54 C dX6_tell_53 rfl ?_
      refine g_iaload 55 C 1 dX6_tell_54 rfl rfl (by omega) ?_
      refine g_iadd 56 C dX6_tell_55 rfl ?_
      refine g_istore_n (lv' := [(3, _), (4, _), (2, _), (0, _), (1, _)]) 57 C dX6_tell_56 rfl rfl (by decide) rfl ?_
      refine g_iinc (lv' := [(4, .int (iI 4)), (3, _), (2, _), (0, _), (1, _)]) 60 C 1 dX6_tell_57 rfl rfl (by decide) rfl ?_
      refine g_goto 37 C dX6_tell_60 (by decide) ?_
      refine g_iload 39 C 0 dX6_tell_37 rfl rfl ?_
      refine g_iconst 40 C dX6_tell_39 rfl ?_
      refine g_icmp_ge 63 43 C dX6_tell_40 (by decide) rfl (by omega) (fun q => absurd q (by omega)) ?_
      intro _
      refine g_iload_n 44 C 1 dX6_tell_43 rfl rfl ?_
      refine g_aload_n 45 C 3 dX6_tell_44 rfl rfl ?_
      refine g_get 48 C 0 3 6 iX6_tell_X6 lX6_tell_7 dX6_tell_45 rfl rfl rfl (by decide) rfl ?_
      refine g_iconst 49 C dX6_tell_48 rfl ?_
      refine g_iload_n 50 C 4 dX6_tell_49 rfl rfl ?_
      refine g_imul 51 C dX6_tell_50 rfl ?_
      refine g_iload 53 C 0 dX6_tell_51 rfl rfl ?_
      refine g_iadd 54 C dX6_tell_53 rfl ?_
      refine g_iaload 55 C 1 dX6_tell_54 rfl rfl (by omega) ?_
      refine g_iadd 56 C dX6_tell_55 rfl ?_
      refine g_istore_n (lv' := [(3, _), (4, _), (2, _), (0, _), (1, _)]) 57 C dX6_tell_56 rfl rfl (by decide) rfl ?_
      refine g_iinc (lv' := [(4, .int (iI 5)), (3, _), (2, _), (0, _), (1, _)]) 60 C 1 dX6_tell_57 rfl rfl (by decide) rfl ?_
      refine g_goto 37 C dX6_tell_60 (by decide) ?_
      refine g_iload 39 C 0 dX6_tell_37 rfl rfl ?_
      refine g_iconst 40 C dX6_tell_39 rfl ?_
      refine g_icmp_ge 63 43 C dX6_tell_40 (by decide) rfl (by omega) ?_ (fun q => absurd q (by omega))
      intro _
      have esm : 0 + hs (5 * z + 0) + hs (5 * z + 1) + hs (5 * z + 2) + hs (5 * z + 3) + hs (5 * z + 4) = smI hs z := by unfold smI; rw [Int.mul_comm 5 z]
      refine g_iload_n 64 C 2 dX6_tell_63 rfl rfl ?_
      refine g_if_ne 71 67 C dX6_tell_64 (by decide) rfl (by omega) ?_ ?_
      · intro h64
        refine g_iload_n 72 C 2 dX6_tell_71 rfl rfl ?_
        refine g_iconst 73 C dX6_tell_72 rfl ?_
        refine g_icmp_ne 83 76 C dX6_tell_73 (by decide) rfl (by omega) ?_ ?_
        · intro h73
          refine g_iload_n 84 C 1 dX6_tell_83 rfl rfl ?_
          refine g_ineg 85 C dX6_tell_84 rfl ?_
          exact g_iret C hr dX6_tell_85 ⟨g_ri (by (repeat' split) <;> first | rfl | omega), by (repeat' split) <;> first | rfl | omega | (rw [show kdI hs (nsd W h) z = 2 by omega]; rfl) | (rw [show kdI hs (nsd W h) z = 1 by omega]; rfl)⟩
        · intro h73
          refine g_iload_n 77 C 1 dX6_tell_76 rfl rfl ?_
          refine g_bipush 79 C dX6_tell_77 rfl (by decide) ?_
          refine g_iadd 80 C dX6_tell_79 rfl ?_
          refine g_goto 85 C dX6_tell_80 (by decide) ?_
          exact g_iret C hr dX6_tell_85 ⟨g_ri (by (repeat' split) <;> first | rfl | omega), by (repeat' split) <;> first | rfl | omega | (rw [show kdI hs (nsd W h) z = 2 by omega]; rfl) | (rw [show kdI hs (nsd W h) z = 1 by omega]; rfl)⟩
      · intro h64
        refine g_iload_n 68 C 1 dX6_tell_67 rfl rfl ?_
        refine g_goto 85 C dX6_tell_68 (by decide) ?_
        exact g_iret C hr dX6_tell_85 ⟨g_ri (by (repeat' split) <;> first | rfl | omega), by (repeat' split) <;> first | rfl | omega | (rw [show kdI hs (nsd W h) z = 2 by omega]; rfl) | (rw [show kdI hs (nsd W h) z = 1 by omega]; rfl)⟩
    · intro h17
      refine g_aload_n 21 C 1 dX6_tell_20 rfl rfl ?_
      refine g_iload_n 22 C 0 dX6_tell_21 rfl rfl ?_
      refine g_iconst 23 C dX6_tell_22 rfl ?_
      refine g_iadd 24 C dX6_tell_23 rfl ?_
      refine g_callVU (ws' := [(_, .inr (6, [_, _, _, _, _, _, _, _, _, _, _, _, _, _, _, _, _, _, _, _, _, _, _])), (_, aI _ _ _)]) 27 C [0] dX6_tell_24 rfl (k_X6_traced E l  ) (cwV 1 C.2.2.2.2.1 gX6_tell_X6_traced rfl rfl rfl cdX6_traced ⟨Nat.le_of_ble_eq_true rfl, Nat.le_of_ble_eq_true rfl⟩) rfl rfl rfl rfl (Nat.le_of_ble_eq_true rfl) 0 6 rfl rfl rfl ⟨Nat.le_of_ble_eq_true rfl, Nat.le_of_ble_eq_true rfl⟩ rfl rfl ?_
      refine g_aload_n 28 C 1 dX6_tell_27 rfl rfl ?_
      refine g_iconst 29 C dX6_tell_28 rfl ?_
      refine g_callVU (ws' := [(_, .inr (6, [_, _, _, _, _, _, _, _, _, _, _, _, _, _, _, _, _, _, _, _, _, _, _])), (_, aI _ _ _)]) 32 C [0] dX6_tell_29 rfl (k_X6_traced E l  ) (cwV 1 C.2.2.2.2.1 gX6_tell_X6_traced rfl rfl rfl cdX6_traced ⟨Nat.le_of_ble_eq_true rfl, Nat.le_of_ble_eq_true rfl⟩) rfl rfl rfl rfl (Nat.le_of_ble_eq_true rfl) 0 6 rfl rfl rfl ⟨Nat.le_of_ble_eq_true rfl, Nat.le_of_ble_eq_true rfl⟩ rfl rfl ?_
      refine g_iconst 33 C dX6_tell_32 rfl ?_
      refine g_istore_n (lv' := [(3, _), (2, _), (0, _), (1, _)]) 34 C dX6_tell_33 rfl rfl (by decide) rfl ?_
      refine g_iconst 35 C dX6_tell_34 rfl ?_
      refine g_istore (lv' := [(4, _), (3, _), (2, _), (0, _), (1, _)]) 37 C dX6_tell_35 rfl (by decide) rfl ?_
      refine g_iload 39 C 0 dX6_tell_37 rfl rfl ?_
      refine g_iconst 40 C dX6_tell_39 rfl ?_
      refine g_icmp_ge 63 43 C dX6_tell_40 (by decide) rfl (by omega) (fun q => absurd q (by omega)) ?_
      intro _
      refine g_iload_n 44 C 1 dX6_tell_43 rfl rfl ?_
      refine g_aload_n 45 C 3 dX6_tell_44 rfl rfl ?_
      refine g_get 48 C 0 3 6 iX6_tell_X6 lX6_tell_7 dX6_tell_45 rfl rfl rfl (by decide) rfl ?_
      refine g_iconst 49 C dX6_tell_48 rfl ?_
      refine g_iload_n 50 C 4 dX6_tell_49 rfl rfl ?_
      refine g_imul 51 C dX6_tell_50 rfl ?_
      refine g_iload 53 C 0 dX6_tell_51 rfl rfl ?_
      refine g_iadd 54 C dX6_tell_53 rfl ?_
      refine g_iaload 55 C 1 dX6_tell_54 rfl rfl (by omega) ?_
      refine g_iadd 56 C dX6_tell_55 rfl ?_
      refine g_istore_n (lv' := [(3, _), (4, _), (2, _), (0, _), (1, _)]) 57 C dX6_tell_56 rfl rfl (by decide) rfl ?_
      refine g_iinc (lv' := [(4, .int (iI 1)), (3, _), (2, _), (0, _), (1, _)]) 60 C 1 dX6_tell_57 rfl rfl (by decide) rfl ?_
      refine g_goto 37 C dX6_tell_60 (by decide) ?_
      refine g_iload 39 C 0 dX6_tell_37 rfl rfl ?_
      refine g_iconst 40 C dX6_tell_39 rfl ?_
      refine g_icmp_ge 63 43 C dX6_tell_40 (by decide) rfl (by omega) (fun q => absurd q (by omega)) ?_
      intro _
      refine g_iload_n 44 C 1 dX6_tell_43 rfl rfl ?_
      refine g_aload_n 45 C 3 dX6_tell_44 rfl rfl ?_
      refine g_get 48 C 0 3 6 iX6_tell_X6 lX6_tell_7 dX6_tell_45 rfl rfl rfl (by decide) rfl ?_
      refine g_iconst 49 C dX6_tell_48 rfl ?_
      refine g_iload_n 50 C 4 dX6_tell_49 rfl rfl ?_
      refine g_imul 51 C dX6_tell_50 rfl ?_
      refine g_iload 53 C 0 dX6_tell_51 rfl rfl ?_
      refine g_iadd 54 C dX6_tell_53 rfl ?_
      refine g_iaload 55 C 1 dX6_tell_54 rfl rfl (by omega) ?_
      refine g_iadd 56 C dX6_tell_55 rfl ?_
      refine g_istore_n (lv' := [(3, _), (4, _), (2, _), (0, _), (1, _)]) 57 C dX6_tell_56 rfl rfl (by decide) rfl ?_
      refine g_iinc (lv' := [(4, .int (iI 2)), (3, _), (2, _), (0, _), (1, _)]) 60 C 1 dX6_tell_57 rfl rfl (by decide) rfl ?_
      refine g_goto 37 C dX6_tell_60 (by decide) ?_
      refine g_iload 39 C 0 dX6_tell_37 rfl rfl ?_
      refine g_iconst 40 C dX6_tell_39 rfl ?_
      refine g_icmp_ge 63 43 C dX6_tell_40 (by decide) rfl (by omega) (fun q => absurd q (by omega)) ?_
      intro _
      refine g_iload_n 44 C 1 dX6_tell_43 rfl rfl ?_
      refine g_aload_n 45 C 3 dX6_tell_44 rfl rfl ?_
      refine g_get 48 C 0 3 6 iX6_tell_X6 lX6_tell_7 dX6_tell_45 rfl rfl rfl (by decide) rfl ?_
      refine g_iconst 49 C dX6_tell_48 rfl ?_
      refine g_iload_n 50 C 4 dX6_tell_49 rfl rfl ?_
      refine g_imul 51 C dX6_tell_50 rfl ?_
      refine g_iload 53 C 0 dX6_tell_51 rfl rfl ?_
      refine g_iadd 54 C dX6_tell_53 rfl ?_
      refine g_iaload 55 C 1 dX6_tell_54 rfl rfl (by omega) ?_
      refine g_iadd 56 C dX6_tell_55 rfl ?_
      refine g_istore_n (lv' := [(3, _), (4, _), (2, _), (0, _), (1, _)]) 57 C dX6_tell_56 rfl rfl (by decide) rfl ?_
      refine g_iinc (lv' := [(4, .int (iI 3)), (3, _), (2, _), (0, _), (1, _)]) 60 C 1 dX6_tell_57 rfl rfl (by decide) rfl ?_
      refine g_goto 37 C dX6_tell_60 (by decide) ?_
      refine g_iload 39 C 0 dX6_tell_37 rfl rfl ?_
      refine g_iconst 40 C dX6_tell_39 rfl ?_
      refine g_icmp_ge 63 43 C dX6_tell_40 (by decide) rfl (by omega) (fun q => absurd q (by omega)) ?_
      intro _
      refine g_iload_n 44 C 1 dX6_tell_43 rfl rfl ?_
      refine g_aload_n 45 C 3 dX6_tell_44 rfl rfl ?_
      refine g_get 48 C 0 3 6 iX6_tell_X6 lX6_tell_7 dX6_tell_45 rfl rfl rfl (by decide) rfl ?_
      refine g_iconst 49 C dX6_tell_48 rfl ?_
      refine g_iload_n 50 C 4 dX6_tell_49 rfl rfl ?_
      refine g_imul 51 C dX6_tell_50 rfl ?_
      refine g_iload 53 C 0 dX6_tell_51 rfl rfl ?_
      refine g_iadd 54 C dX6_tell_53 rfl ?_
      refine g_iaload 55 C 1 dX6_tell_54 rfl rfl (by omega) ?_
      refine g_iadd 56 C dX6_tell_55 rfl ?_
      refine g_istore_n (lv' := [(3, _), (4, _), (2, _), (0, _), (1, _)]) 57 C dX6_tell_56 rfl rfl (by decide) rfl ?_
      refine g_iinc (lv' := [(4, .int (iI 4)), (3, _), (2, _), (0, _), (1, _)]) 60 C 1 dX6_tell_57 rfl rfl (by decide) rfl ?_
      refine g_goto 37 C dX6_tell_60 (by decide) ?_
      refine g_iload 39 C 0 dX6_tell_37 rfl rfl ?_
      refine g_iconst 40 C dX6_tell_39 rfl ?_
      refine g_icmp_ge 63 43 C dX6_tell_40 (by decide) rfl (by omega) (fun q => absurd q (by omega)) ?_
      intro _
      refine g_iload_n 44 C 1 dX6_tell_43 rfl rfl ?_
      refine g_aload_n 45 C 3 dX6_tell_44 rfl rfl ?_
      refine g_get 48 C 0 3 6 iX6_tell_X6 lX6_tell_7 dX6_tell_45 rfl rfl rfl (by decide) rfl ?_
      refine g_iconst 49 C dX6_tell_48 rfl ?_
      refine g_iload_n 50 C 4 dX6_tell_49 rfl rfl ?_
      refine g_imul 51 C dX6_tell_50 rfl ?_
      refine g_iload 53 C 0 dX6_tell_51 rfl rfl ?_
      refine g_iadd 54 C dX6_tell_53 rfl ?_
      refine g_iaload 55 C 1 dX6_tell_54 rfl rfl (by omega) ?_
      refine g_iadd 56 C dX6_tell_55 rfl ?_
      refine g_istore_n (lv' := [(3, _), (4, _), (2, _), (0, _), (1, _)]) 57 C dX6_tell_56 rfl rfl (by decide) rfl ?_
      refine g_iinc (lv' := [(4, .int (iI 5)), (3, _), (2, _), (0, _), (1, _)]) 60 C 1 dX6_tell_57 rfl rfl (by decide) rfl ?_
      refine g_goto 37 C dX6_tell_60 (by decide) ?_
      refine g_iload 39 C 0 dX6_tell_37 rfl rfl ?_
      refine g_iconst 40 C dX6_tell_39 rfl ?_
      refine g_icmp_ge 63 43 C dX6_tell_40 (by decide) rfl (by omega) ?_ (fun q => absurd q (by omega))
      intro _
      have esm : 0 + hs (5 * z + 0) + hs (5 * z + 1) + hs (5 * z + 2) + hs (5 * z + 3) + hs (5 * z + 4) = smI hs z := by unfold smI; rw [Int.mul_comm 5 z]
      refine g_iload_n 64 C 2 dX6_tell_63 rfl rfl ?_
      refine g_if_ne 71 67 C dX6_tell_64 (by decide) rfl (by omega) ?_ ?_
      · intro h64
        refine g_iload_n 72 C 2 dX6_tell_71 rfl rfl ?_
        refine g_iconst 73 C dX6_tell_72 rfl ?_
        refine g_icmp_ne 83 76 C dX6_tell_73 (by decide) rfl (by omega) ?_ ?_
        · intro h73
          refine g_iload_n 84 C 1 dX6_tell_83 rfl rfl ?_
          refine g_ineg 85 C dX6_tell_84 rfl ?_
          exact g_iret C hr dX6_tell_85 ⟨g_ri (by (repeat' split) <;> first | rfl | omega), by (repeat' split) <;> first | rfl | omega | (rw [show kdI hs (nsd W h) z = 2 by omega]; rfl) | (rw [show kdI hs (nsd W h) z = 1 by omega]; rfl)⟩
        · intro h73
          refine g_iload_n 77 C 1 dX6_tell_76 rfl rfl ?_
          refine g_bipush 79 C dX6_tell_77 rfl (by decide) ?_
          refine g_iadd 80 C dX6_tell_79 rfl ?_
          refine g_goto 85 C dX6_tell_80 (by decide) ?_
          exact g_iret C hr dX6_tell_85 ⟨g_ri (by (repeat' split) <;> first | rfl | omega), by (repeat' split) <;> first | rfl | omega | (rw [show kdI hs (nsd W h) z = 2 by omega]; rfl) | (rw [show kdI hs (nsd W h) z = 1 by omega]; rfl)⟩
      · intro h64
        refine g_iload_n 68 C 1 dX6_tell_67 rfl rfl ?_
        refine g_goto 85 C dX6_tell_68 (by decide) ?_
        exact g_iret C hr dX6_tell_85 ⟨g_ri (by (repeat' split) <;> first | rfl | omega), by (repeat' split) <;> first | rfl | omega | (rw [show kdI hs (nsd W h) z = 2 by omega]; rfl) | (rw [show kdI hs (nsd W h) z = 1 by omega]; rfl)⟩
  · intro h5
    refine g_iconst 9 C dX6_tell_8 rfl ?_
    exact g_iret C hr dX6_tell_9 ⟨g_ri (by (repeat' split) <;> first | rfl | omega), by (repeat' split) <;> first | rfl | omega | (rw [show kdI hs (nsd W h) z = 2 by omega]; rfl) | (rw [show kdI hs (nsd W h) z = 1 by omega]; rfl)⟩
set_option maxHeartbeats 4000000 in
set_option maxRecDepth 100000 in
theorem k_X6_mark (E : gE) (l : Launch) {a_M a_Ma a_Mc a_Mg a_Mh a_Mi a_Ml a_Mp a_Ms a_Mt a_Mu a_Mx a_My : Nat} {z : Int} {hs : Int → Int} {mf W h mL mN n tc fd jo tr : Int} {md : Int64} (hB : 1 ≤ W ∧ W ≤ 5 ∧ 1 ≤ h ∧ h ≤ 5) (hh : hB9 hs) (hz : -2147483648 ≤ z ∧ z < 2147483648) : gUpd E l yX6_mark wsX6_mark { frames := 3, cells := 0, slots := 0, locals := 62 } [.ref a_M, .int (iI z)] [(a_M, .inr (6, [.int (iI mf), .int (iI W), .int (iI h), .ref a_Mh, .long md, .int (iI mL), .int (iI mN), .int (iI n), .ref a_Mp, .ref a_Mt, .int (iI tc), .int (iI fd), .ref a_Ma, .ref a_Mu, .ref a_Mi, .int (iI jo), .ref a_Mx, .ref a_My, .ref a_Ms, .ref a_Ml, .ref a_Mc, .ref a_Mg, .int (iI tr)])), (a_Mh, aI E 200 hs)] (some (.int (iI (if ¬ (0 ≤ z ∧ z < nsd W h) then -1 else if kdI hs (nsd W h) z = 2 then 99 else z)))) [(a_M, .inr (6, [.int (iI mf), .int (iI W), .int (iI h), .ref a_Mh, .long md, .int (iI mL), .int (iI mN), .int (iI n), .ref a_Mp, .ref a_Mt, .int (iI tc), .int (iI fd), .ref a_Ma, .ref a_Mu, .ref a_Mi, .int (iI jo), .ref a_Mx, .ref a_My, .ref a_Ms, .ref a_Ml, .ref a_Mc, .ref a_Mg, .int (iI (if ¬ (0 ≤ z ∧ z < nsd W h) then tr else if kdI hs (nsd W h) z = 2 then 31 * tr + 5 else 31 * tr + 4))])), (a_Mh, aI E 200 hs)] := by
  refine g_start (cc := cX6_mark) (maxL := 3) (ret := (some .int)) (by decide) rfl (Nat.le_of_ble_eq_true rfl) ?_
  intro p_ e_ s_ m_ args_ below_ meth_ c_ A_ C hr hnm
  have hN := nsd_b hB
  refine g_aload_n 1 C 0 dX6_mark_0 rfl rfl ?_
  refine g_iload_n 2 C 1 dX6_mark_1 rfl rfl ?_
  refine g_callVF 5 C [0] dX6_mark_2 rfl (k_X6_noSide E l  (by first | assumption | omega) (by first | assumption | omega)) (cwV 1 C.2.2.2.2.1 gX6_mark_X6_noSide rfl rfl rfl cdX6_noSide ⟨Nat.le_of_ble_eq_true rfl, Nat.le_of_ble_eq_true rfl⟩) rfl rfl rfl rfl (Nat.le_of_ble_eq_true rfl) 0 6 rfl rfl rfl ⟨Nat.le_of_ble_eq_true rfl, Nat.le_of_ble_eq_true rfl⟩ ?_
  refine g_ifb_eq 10 8 C dX6_mark_5 (by decide) rfl ?_ ?_
  · intro h5
    refine g_aload_n 11 C 0 dX6_mark_10 rfl rfl ?_
    refine g_iload_n 12 C 1 dX6_mark_11 rfl rfl ?_
    refine g_callVF 15 C [0, 1] dX6_mark_12 rfl (k_X6_kindOf E l  (by first | assumption | omega) (by first | assumption | omega) (by first | assumption | omega)) (cwV 1 C.2.2.2.2.1 gX6_mark_X6_kindOf rfl rfl rfl cdX6_kindOf ⟨Nat.le_of_ble_eq_true rfl, Nat.le_of_ble_eq_true rfl⟩) rfl rfl rfl rfl (Nat.le_of_ble_eq_true rfl) 0 6 rfl rfl rfl ⟨Nat.le_of_ble_eq_true rfl, Nat.le_of_ble_eq_true rfl⟩ ?_
    have e0 := kdI_b hs (nsd W h) z
    refine g_iconst 16 C dX6_mark_15 rfl ?_
    refine g_icmp_ne 23 19 C dX6_mark_16 (by decide) rfl (by omega) ?_ ?_
    · intro h16
      refine g_iconst 24 C dX6_mark_23 rfl ?_
      refine g_istore_n (lv' := [(2, _), (0, _), (1, _)]) 25 C dX6_mark_24 rfl rfl (by decide) rfl ?_
      refine g_aload_n 26 C 1 dX6_mark_25 rfl rfl ?_
      refine g_iload_n 27 C 0 dX6_mark_26 rfl rfl ?_
      refine g_if_eq 34 30 C dX6_mark_27 (by decide) rfl (by omega) ?_ (fun q => absurd q (by omega))
      intro _
      refine g_iconst 35 C dX6_mark_34 rfl ?_
      refine g_callVU (ws' := [(_, .inr (6, [_, _, _, _, _, _, _, _, _, _, _, _, _, _, _, _, _, _, _, _, _, _, _])), (_, aI _ _ _)]) 38 C [0] dX6_mark_35 rfl (k_X6_traced E l  ) (cwV 1 C.2.2.2.2.1 gX6_mark_X6_traced rfl rfl rfl cdX6_traced ⟨Nat.le_of_ble_eq_true rfl, Nat.le_of_ble_eq_true rfl⟩) rfl rfl rfl rfl (Nat.le_of_ble_eq_true rfl) 0 6 rfl rfl rfl ⟨Nat.le_of_ble_eq_true rfl, Nat.le_of_ble_eq_true rfl⟩ rfl rfl ?_
      refine g_iload_n 39 C 0 dX6_mark_38 rfl rfl ?_
      refine g_if_eq 47 42 C dX6_mark_39 (by decide) rfl (by omega) ?_ (fun q => absurd q (by omega))
      intro _
      refine g_iload_n 48 C 2 dX6_mark_47 rfl rfl ?_
      exact g_iret C hr dX6_mark_48 ⟨g_ri (by (repeat' split) <;> first | rfl | omega), by (repeat' split) <;> first | rfl | omega⟩
    · intro h16
      refine g_iconst 20 C dX6_mark_19 rfl ?_
      refine g_goto 24 C dX6_mark_20 (by decide) ?_
      refine g_istore_n (lv' := [(2, _), (0, _), (1, _)]) 25 C dX6_mark_24 rfl rfl (by decide) rfl ?_
      refine g_aload_n 26 C 1 dX6_mark_25 rfl rfl ?_
      refine g_iload_n 27 C 0 dX6_mark_26 rfl rfl ?_
      refine g_if_eq 34 30 C dX6_mark_27 (by decide) rfl (by omega) (fun q => absurd q (by omega)) ?_
      intro _
      refine g_iconst 31 C dX6_mark_30 rfl ?_
      refine g_goto 35 C dX6_mark_31 (by decide) ?_
      refine g_callVU (ws' := [(_, .inr (6, [_, _, _, _, _, _, _, _, _, _, _, _, _, _, _, _, _, _, _, _, _, _, _])), (_, aI _ _ _)]) 38 C [0] dX6_mark_35 rfl (k_X6_traced E l  ) (cwV 1 C.2.2.2.2.1 gX6_mark_X6_traced rfl rfl rfl cdX6_traced ⟨Nat.le_of_ble_eq_true rfl, Nat.le_of_ble_eq_true rfl⟩) rfl rfl rfl rfl (Nat.le_of_ble_eq_true rfl) 0 6 rfl rfl rfl ⟨Nat.le_of_ble_eq_true rfl, Nat.le_of_ble_eq_true rfl⟩ rfl rfl ?_
      refine g_iload_n 39 C 0 dX6_mark_38 rfl rfl ?_
      refine g_if_eq 47 42 C dX6_mark_39 (by decide) rfl (by omega) (fun q => absurd q (by omega)) ?_
      intro _
      refine g_bipush 44 C dX6_mark_42 rfl (by decide) ?_
      refine g_goto 48 C dX6_mark_44 (by decide) ?_
      exact g_iret C hr dX6_mark_48 ⟨g_ri (by (repeat' split) <;> first | rfl | omega), by (repeat' split) <;> first | rfl | omega⟩
  · intro h5
    refine g_iconst 9 C dX6_mark_8 rfl ?_
    exact g_iret C hr dX6_mark_9 ⟨g_ri (by (repeat' split) <;> first | rfl | omega), by (repeat' split) <;> first | rfl | omega⟩
theorem cdX6_failed : yX6_failed.cls = RX6 ∧ yX6_failed.cls ≠ "java/lang/invoke/MethodHandle" ∧ yX6_failed.cls ≠ "java/lang/invoke/VarHandle" ∧ (parseMethodDescriptor yX6_failed.desc).map (fun d => d.parameters.length) = some 1 := by decide +kernel
theorem cdX6_refused : yX6_refused.cls = RX6 ∧ yX6_refused.cls ≠ "java/lang/invoke/MethodHandle" ∧ yX6_refused.cls ≠ "java/lang/invoke/VarHandle" ∧ (parseMethodDescriptor yX6_refused.desc).map (fun d => d.parameters.length) = some 1 := by decide +kernel
theorem lX6_as_199 : Cond.constantLong RX6 199 (2) ∈ wsX6_as := by decide +kernel
set_option maxHeartbeats 4000000 in
set_option maxRecDepth 100000 in
theorem k_X6_as (E : gE) (l : Launch) {a_M a_Ma a_Mc a_Mg a_Mh a_Mi a_Ml a_Mp a_Ms a_Mt a_Mu a_Mx a_My : Nat} {z t : Int} {hs : Int → Int} {mf W h mL mN n tc fd jo tr : Int} {md : Int64} (hB : 1 ≤ W ∧ W ≤ 5 ∧ 1 ≤ h ∧ h ≤ 5) (hh : hB9 hs) (hz : -2147483648 ≤ z ∧ z < 2147483648) (ht : -2147483648 ≤ t ∧ t < 2147483648) : gUpd E l yX6_as wsX6_as { frames := 3, cells := 0, slots := 0, locals := 62 } [.ref a_M, .int (iI z), .int (iI t)] [(a_M, .inr (6, [.int (iI mf), .int (iI W), .int (iI h), .ref a_Mh, .long md, .int (iI mL), .int (iI mN), .int (iI n), .ref a_Mp, .ref a_Mt, .int (iI tc), .int (iI fd), .ref a_Ma, .ref a_Mu, .ref a_Mi, .int (iI jo), .ref a_Mx, .ref a_My, .ref a_Ms, .ref a_Ml, .ref a_Mc, .ref a_Mg, .int (iI tr)])), (a_Mh, aI E 200 hs)] (some (.int (iI (if ¬ (0 ≤ z ∧ z < nsd W h) then -1 else if ¬ (0 ≤ t ∧ t ≤ 2) then -2 else if kdI hs (nsd W h) z < t then -12 else 1)))) [(a_M, .inr (6, [.int (iI (if ¬ (0 ≤ z ∧ z < nsd W h) then 0 else if ¬ (0 ≤ t ∧ t ≤ 2) then 0 else if kdI hs (nsd W h) z < t then 2 else 0)), .int (iI W), .int (iI h), .ref a_Mh, .long md, .int (iI mL), .int (iI mN), .int (iI n), .ref a_Mp, .ref a_Mt, .int (iI tc), .int (iI fd), .ref a_Ma, .ref a_Mu, .ref a_Mi, .int (iI jo), .ref a_Mx, .ref a_My, .ref a_Ms, .ref a_Ml, .ref a_Mc, .ref a_Mg, .int (iI tr)])), (a_Mh, aI E 200 hs)] := by
  refine g_start (cc := cX6_as) (maxL := 3) (ret := (some .int)) (by decide) rfl (Nat.le_of_ble_eq_true rfl) ?_
  intro p_ e_ s_ m_ args_ below_ meth_ c_ A_ C hr hnm
  have hN := nsd_b hB
  refine g_aload_n 1 C 0 dX6_as_0 rfl rfl ?_
  refine g_iload_n 2 C 1 dX6_as_1 rfl rfl ?_
  refine g_callVF 5 C [0] dX6_as_2 rfl (k_X6_noSide E l  (by first | assumption | omega) (by first | assumption | omega)) (cwV 1 C.2.2.2.2.1 gX6_as_X6_noSide rfl rfl rfl cdX6_noSide ⟨Nat.le_of_ble_eq_true rfl, Nat.le_of_ble_eq_true rfl⟩) rfl rfl rfl rfl (Nat.le_of_ble_eq_true rfl) 0 6 rfl rfl rfl ⟨Nat.le_of_ble_eq_true rfl, Nat.le_of_ble_eq_true rfl⟩ ?_
  refine g_ifb_eq 14 8 C dX6_as_5 (by decide) rfl ?_ ?_
  · intro h5
    refine g_iload_n 15 C 2 dX6_as_14 rfl rfl ?_
    refine g_i2l 16 C dX6_as_15 rfl (by omega) ?_
    refine g_lconst 17 C 0 dX6_as_16 rfl (by decide) ?_
    refine g_ldc2 20 C (2) dX6_as_17 rfl lX6_as_199 (by decide) ?_
    refine g_callSF 23 C [] dX6_as_20 rfl (k_X6_in E l  (by first | assumption | omega) (by first | assumption | omega) (by first | assumption | omega)) (va_cwS 3 C.2.2.2.2.1 gX6_as_X6_in rfl rfl rfl cdX6_in ⟨Nat.le_of_ble_eq_true rfl, Nat.le_of_ble_eq_true rfl⟩) rfl rfl rfl rfl (Nat.le_of_ble_eq_true rfl) ⟨Nat.le_of_ble_eq_true rfl, Nat.le_of_ble_eq_true rfl⟩ ?_
    refine g_ifb_ne 33 26 C dX6_as_23 (by decide) rfl ?_ ?_
    · intro h23
      refine g_aload_n 34 C 0 dX6_as_33 rfl rfl ?_
      refine g_iload_n 35 C 1 dX6_as_34 rfl rfl ?_
      refine g_callVF 38 C [0, 1] dX6_as_35 rfl (k_X6_kindOf E l  (by first | assumption | omega) (by first | assumption | omega) (by first | assumption | omega)) (cwV 1 C.2.2.2.2.1 gX6_as_X6_kindOf rfl rfl rfl cdX6_kindOf ⟨Nat.le_of_ble_eq_true rfl, Nat.le_of_ble_eq_true rfl⟩) rfl rfl rfl rfl (Nat.le_of_ble_eq_true rfl) 0 6 rfl rfl rfl ⟨Nat.le_of_ble_eq_true rfl, Nat.le_of_ble_eq_true rfl⟩ ?_
      have e0 := kdI_b hs (nsd W h) z
      refine g_iload_n 39 C 2 dX6_as_38 rfl rfl ?_
      refine g_icmp_lt 50 42 C dX6_as_39 (by decide) rfl (by omega) ?_ ?_
      · intro h39
        refine g_aload_n 51 C 0 dX6_as_50 rfl rfl ?_
        refine g_iconst 52 C dX6_as_51 rfl ?_
        refine g_callVU (ws' := [(_, .inr (6, [_, _, _, _, _, _, _, _, _, _, _, _, _, _, _, _, _, _, _, _, _, _, _])), (_, aI _ _ _)]) 55 C [0] dX6_as_52 rfl (k_X6_failed E l  ) (cwV 1 C.2.2.2.2.1 gX6_as_X6_failed rfl rfl rfl cdX6_failed ⟨Nat.le_of_ble_eq_true rfl, Nat.le_of_ble_eq_true rfl⟩) rfl rfl rfl rfl (Nat.le_of_ble_eq_true rfl) 0 6 rfl rfl rfl ⟨Nat.le_of_ble_eq_true rfl, Nat.le_of_ble_eq_true rfl⟩ rfl rfl ?_
        exact g_iret C hr dX6_as_55 ⟨g_ri (by (repeat' split) <;> first | rfl | omega), by (repeat' split) <;> first | rfl | omega⟩
      · intro h39
        refine g_aload_n 43 C 0 dX6_as_42 rfl rfl ?_
        refine g_iconst 44 C dX6_as_43 rfl ?_
        refine g_callVU (ws' := [(_, .inr (6, [_, _, _, _, _, _, _, _, _, _, _, _, _, _, _, _, _, _, _, _, _, _, _])), (_, aI _ _ _)]) 47 C [0] dX6_as_44 rfl (k_X6_refused E l  ) (cwV 1 C.2.2.2.2.1 gX6_as_X6_refused rfl rfl rfl cdX6_refused ⟨Nat.le_of_ble_eq_true rfl, Nat.le_of_ble_eq_true rfl⟩) rfl rfl rfl rfl (Nat.le_of_ble_eq_true rfl) 0 6 rfl rfl rfl ⟨Nat.le_of_ble_eq_true rfl, Nat.le_of_ble_eq_true rfl⟩ rfl rfl ?_
        refine g_goto 55 C dX6_as_47 (by decide) ?_
        exact g_iret C hr dX6_as_55 ⟨g_ri (by (repeat' split) <;> first | rfl | omega), by (repeat' split) <;> first | rfl | omega⟩
    · intro h23
      refine g_aload_n 27 C 0 dX6_as_26 rfl rfl ?_
      refine g_bipush 29 C dX6_as_27 rfl (by decide) ?_
      refine g_callVU (ws' := [(_, .inr (6, [_, _, _, _, _, _, _, _, _, _, _, _, _, _, _, _, _, _, _, _, _, _, _])), (_, aI _ _ _)]) 32 C [0] dX6_as_29 rfl (k_X6_refused E l  ) (cwV 1 C.2.2.2.2.1 gX6_as_X6_refused rfl rfl rfl cdX6_refused ⟨Nat.le_of_ble_eq_true rfl, Nat.le_of_ble_eq_true rfl⟩) rfl rfl rfl rfl (Nat.le_of_ble_eq_true rfl) 0 6 rfl rfl rfl ⟨Nat.le_of_ble_eq_true rfl, Nat.le_of_ble_eq_true rfl⟩ rfl rfl ?_
      exact g_iret C hr dX6_as_32 ⟨g_ri (by (repeat' split) <;> first | rfl | omega), by (repeat' split) <;> first | rfl | omega⟩
  · intro h5
    refine g_aload_n 9 C 0 dX6_as_8 rfl rfl ?_
    refine g_iconst 10 C dX6_as_9 rfl ?_
    refine g_callVU (ws' := [(_, .inr (6, [_, _, _, _, _, _, _, _, _, _, _, _, _, _, _, _, _, _, _, _, _, _, _])), (_, aI _ _ _)]) 13 C [0] dX6_as_10 rfl (k_X6_refused E l  ) (cwV 1 C.2.2.2.2.1 gX6_as_X6_refused rfl rfl rfl cdX6_refused ⟨Nat.le_of_ble_eq_true rfl, Nat.le_of_ble_eq_true rfl⟩) rfl rfl rfl rfl (Nat.le_of_ble_eq_true rfl) 0 6 rfl rfl rfl ⟨Nat.le_of_ble_eq_true rfl, Nat.le_of_ble_eq_true rfl⟩ rfl rfl ?_
    exact g_iret C hr dX6_as_13 ⟨g_ri (by (repeat' split) <;> first | rfl | omega), by (repeat' split) <;> first | rfl | omega⟩
theorem lX6_joined_29 : Cond.fieldLink RX6 29 (TX6 16).1 (TX6 16).2.1 (TX6 16).2.2.1 ∈ wsX6_joined := by decide +kernel
theorem lX6_joined_32 : Cond.fieldLink RX6 32 (TX6 17).1 (TX6 17).2.1 (TX6 17).2.2.1 ∈ wsX6_joined := by decide +kernel
theorem lX6_joined_77 : Cond.fieldLink RX6 77 (TX6 15).1 (TX6 15).2.1 (TX6 15).2.2.1 ∈ wsX6_joined := by decide +kernel
theorem iX6_joined_X6 : ∀ w ∈ u_ws RX6 TX6 23, w ∈ wsX6_joined := by decide +kernel
set_option maxHeartbeats 4000000 in
set_option maxRecDepth 100000 in
theorem k_X6_joined (E : gE) (l : Launch) {a_M a_Ma a_Mc a_Mg a_Mh a_Mi a_Ml a_Mp a_Ms a_Mt a_Mu a_Mx a_My : Nat} {z t : Int} {ja jt : Int → Int} {mf W h mL mN n tc fd jo tr : Int} {md : Int64} (hB : 1 ≤ W ∧ W ≤ 5 ∧ 1 ≤ h ∧ h ≤ 5) (hjo : jo = 0 ∨ jo = 1) (hz : -2147483648 ≤ z ∧ z < 2147483648) (ht : -2147483648 ≤ t ∧ t < 2147483648) : gFun E l yX6_joined wsX6_joined { frames := 2, cells := 0, slots := 0, locals := 46 } [.ref a_M, .int (iI z), .int (iI t)] [(a_M, .inr (6, [.int (iI mf), .int (iI W), .int (iI h), .ref a_Mh, .long md, .int (iI mL), .int (iI mN), .int (iI n), .ref a_Mp, .ref a_Mt, .int (iI tc), .int (iI fd), .ref a_Ma, .ref a_Mu, .ref a_Mi, .int (iI jo), .ref a_Mx, .ref a_My, .ref a_Ms, .ref a_Ml, .ref a_Mc, .ref a_Mg, .int (iI tr)])), (a_Mx, aI E 25 ja), (a_My, aI E 25 jt)] (.int (iI (if jo = 0 then -3 else if ¬ (0 ≤ z ∧ z < W * h) then -1 else if t = 0 then ja z else if t = 1 then jt z else -2))) := by
  refine g_start (cc := cX6_joined) (maxL := 3) (ret := (some .int)) (by decide) rfl (Nat.le_of_ble_eq_true rfl) ?_
  intro p_ e_ s_ m_ args_ below_ meth_ c_ A_ C hr hnm
  have hN := nsd_b hB
  refine g_aload_n 1 C 0 dX6_joined_0 rfl rfl ?_
  refine g_get 4 C 0 15 6 iX6_joined_X6 lX6_joined_77 dX6_joined_1 rfl rfl rfl (by decide) rfl ?_
  refine g_if_ne 10 7 C dX6_joined_4 (by decide) rfl (by omega) ?_ ?_
  · intro h4
    refine g_aload_n 11 C 0 dX6_joined_10 rfl rfl ?_
    refine g_iload_n 12 C 1 dX6_joined_11 rfl rfl ?_
    refine g_callVF 15 C [0] dX6_joined_12 rfl (k_X6_noPiece E l  (by first | assumption | omega) (by first | assumption | omega)) (cwV 1 C.2.2.2.2.1 gX6_joined_X6_noPiece rfl rfl rfl cdX6_noPiece ⟨Nat.le_of_ble_eq_true rfl, Nat.le_of_ble_eq_true rfl⟩) rfl rfl rfl rfl (Nat.le_of_ble_eq_true rfl) 0 6 rfl rfl rfl ⟨Nat.le_of_ble_eq_true rfl, Nat.le_of_ble_eq_true rfl⟩ ?_
    refine g_ifb_eq 20 18 C dX6_joined_15 (by decide) rfl ?_ ?_
    · intro h15
      refine g_iload_n 21 C 2 dX6_joined_20 rfl rfl ?_
      refine g_if_ne 33 24 C dX6_joined_21 (by decide) rfl (by omega) ?_ ?_
      · intro h21
        refine g_iload_n 34 C 2 dX6_joined_33 rfl rfl ?_
        refine g_iconst 35 C dX6_joined_34 rfl ?_
        refine g_icmp_ne 47 38 C dX6_joined_35 (by decide) rfl (by omega) ?_ ?_
        · intro h35
          refine g_bipush 49 C dX6_joined_47 rfl (by decide) ?_
          exact g_iret C hr dX6_joined_49 ⟨g_ri (by (repeat' split) <;> first | rfl | omega), rfl⟩
        · intro h35
          refine g_aload_n 39 C 0 dX6_joined_38 rfl rfl ?_
          refine g_get 42 C 0 17 6 iX6_joined_X6 lX6_joined_32 dX6_joined_39 rfl rfl rfl (by decide) rfl ?_
          refine g_iload_n 43 C 1 dX6_joined_42 rfl rfl ?_
          refine g_iaload 44 C 2 dX6_joined_43 rfl rfl (by omega) ?_
          refine g_goto 49 C dX6_joined_44 (by decide) ?_
          exact g_iret C hr dX6_joined_49 ⟨g_ri (by (repeat' split) <;> first | rfl | omega), rfl⟩
      · intro h21
        refine g_aload_n 25 C 0 dX6_joined_24 rfl rfl ?_
        refine g_get 28 C 0 16 6 iX6_joined_X6 lX6_joined_29 dX6_joined_25 rfl rfl rfl (by decide) rfl ?_
        refine g_iload_n 29 C 1 dX6_joined_28 rfl rfl ?_
        refine g_iaload 30 C 1 dX6_joined_29 rfl rfl (by omega) ?_
        refine g_goto 49 C dX6_joined_30 (by decide) ?_
        exact g_iret C hr dX6_joined_49 ⟨g_ri (by (repeat' split) <;> first | rfl | omega), rfl⟩
    · intro h15
      refine g_iconst 19 C dX6_joined_18 rfl ?_
      exact g_iret C hr dX6_joined_19 ⟨g_ri (by (repeat' split) <;> first | rfl | omega), rfl⟩
  · intro h4
    refine g_bipush 9 C dX6_joined_7 rfl (by decide) ?_
    exact g_iret C hr dX6_joined_9 ⟨g_ri (by (repeat' split) <;> first | rfl | omega), rfl⟩
