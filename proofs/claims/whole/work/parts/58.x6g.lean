theorem lX6_search_183 : Cond.constant RX6 183 (60000) ∈ wsX6_search := by decide +kernel
theorem cdX6_fits : yX6_fits.cls = RX6 ∧ yX6_fits.cls ≠ "java/lang/invoke/MethodHandle" ∧ yX6_fits.cls ≠ "java/lang/invoke/VarHandle" ∧ (parseMethodDescriptor yX6_fits.desc).map (fun d => d.parameters.length) = some 1 := by decide +kernel
theorem lX6_search_177 : Cond.fieldLink RX6 177 (TX6 10).1 (TX6 10).2.1 (TX6 10).2.2.1 ∈ wsX6_search := by decide +kernel
theorem lX6_search_180 : Cond.fieldLink RX6 180 (TX6 11).1 (TX6 11).2.1 (TX6 11).2.2.1 ∈ wsX6_search := by decide +kernel
theorem lX6_search_19 : Cond.fieldLink RX6 19 (TX6 12).1 (TX6 12).2.1 (TX6 12).2.2.1 ∈ wsX6_search := by decide +kernel
theorem lX6_search_22 : Cond.fieldLink RX6 22 (TX6 13).1 (TX6 13).2.1 (TX6 13).2.2.1 ∈ wsX6_search := by decide +kernel
theorem lX6_search_25 : Cond.fieldLink RX6 25 (TX6 14).1 (TX6 14).2.1 (TX6 14).2.2.1 ∈ wsX6_search := by decide +kernel
theorem lX6_search_83 : Cond.fieldLink RX6 83 (TX6 7).1 (TX6 7).2.1 (TX6 7).2.2.1 ∈ wsX6_search := by decide +kernel
theorem iX6_search_X6 : ∀ w ∈ u_ws RX6 TX6 23, w ∈ wsX6_search := by decide +kernel
set_option maxHeartbeats 4000000 in
set_option maxRecDepth 100000 in
theorem k_X6_search (E : gE) (l : Launch) {a_M a_Ma a_Mc a_Mg a_Mh a_Mi a_Ml a_Mp a_Ms a_Mt a_Mu a_Mx a_My : Nat} {mo : Int} {m0 : Nat} {fin : gS} {hs pc tn us : Int → Int} {qa qf : Int → Int} {mf W h mL mN n tc fd jo tr : Int} {md : Int64} (hB : 1 ≤ W ∧ W ≤ 5 ∧ 1 ≤ h ∧ h ≤ 5) (hh : hB9 hs) (hn : 0 ≤ n ∧ n ≤ 25) (hpw : ∀ j : Int, 0 ≤ j ∧ j < n → (0 ≤ pc j ∧ pc j < W * h) ∧ 0 ≤ tn j ∧ tn j < 4) (hmo : mo = 1 ∨ mo = -1) (hfin : itS (FT W h hs pc tn) n (W * h) (if mo = 1 then 1 else 0) m0 (0, (fun _ => -1), (fun _ => 0), 0, 0) = fin) (hneg : fin.1 < 0) : gMet E l yX6_search wsX6_search { frames := 6, cells := 0, slots := 0, locals := 143 } 0 0 [.ref a_M, .int (iI mo)] [(a_M, .inr (6, [.int (iI mf), .int (iI W), .int (iI h), .ref a_Mh, .long md, .int (iI mL), .int (iI mN), .int (iI n), .ref a_Mp, .ref a_Mt, .int (iI tc), .int (iI fd), .ref a_Ma, .ref a_Mu, .ref a_Mi, .int (iI jo), .ref a_Mx, .ref a_My, .ref a_Ms, .ref a_Ml, .ref a_Mc, .ref a_Mg, .int (iI tr)])), (a_Mh, aI E 200 hs), (a_Mp, aI E 25 pc), (a_Mt, aI E 25 tn), (a_Ma, aI E 26 qa), (a_Mu, aI E 26 qf), (a_Mi, aZ E 25 us)] (fun v w => ∃ qa2 qf2 us2 : Int → Int, (v = some (.int (iI (if fin.1 = -2 then 0 else 1))) ∧ (fin.1 = -3 → ∀ j : Int, 0 ≤ j ∧ j < W * h → (qa2 j = fin.2.1 j / 4 ∧ qf2 j = fin.2.1 j % 4) ∧ 0 ≤ fin.2.1 j)) ∧ w = [(a_M, .inr (6, [.int (iI mf), .int (iI W), .int (iI h), .ref a_Mh, .long md, .int (iI mL), .int (iI mN), .int (iI n), .ref a_Mp, .ref a_Mt, .int (iI fin.2.2.2.1), .int (iI fin.2.2.2.2), .ref a_Ma, .ref a_Mu, .ref a_Mi, .int (iI jo), .ref a_Mx, .ref a_My, .ref a_Ms, .ref a_Ml, .ref a_Mc, .ref a_Mg, .int (iI tr)])), (a_Mh, aI E 200 hs), (a_Mp, aI E 25 pc), (a_Mt, aI E 25 tn), (a_Ma, aI E 26 qa2), (a_Mu, aI E 26 qf2), (a_Mi, aZ E 25 us2)]) := by
  refine g_start (cc := cX6_search) (maxL := 3) (ret := (some .boolean)) (by decide) rfl (Nat.le_of_ble_eq_true rfl) ?_
  intro p_ e_ s_ m_ args_ below_ meth_ c_ A_ C hr hnm
  have hN := nsd_b hB
  refine g_aload_n 1 C 0 dX6_search_0 rfl rfl ?_
  refine g_iconst 2 C dX6_search_1 rfl ?_
  refine g_put (ws' := [(_, .inr (6, [_, _, _, _, _, _, _, _, _, _, _, _, _, _, _, _, _, _, _, _, _, _, _])), (_, aI _ _ _), (_, aI _ _ _), (_, aI _ _ _), (_, aI _ _ _), (_, aI _ _ _), (_, aZ _ _ _)]) 5 C 0 10 6 tyX6 tyX6_ok nmX6 iX6_search_X6 lX6_search_177 dX6_search_2 rfl rfl rfl (by decide) rfl rfl rfl (Nat.le_of_ble_eq_true rfl) rfl ?_
  refine g_aload_n 6 C 0 dX6_search_5 rfl rfl ?_
  refine g_iconst 7 C dX6_search_6 rfl ?_
  refine g_put (ws' := [(_, .inr (6, [_, _, _, _, _, _, _, _, _, _, _, _, _, _, _, _, _, _, _, _, _, _, _])), (_, aI _ _ _), (_, aI _ _ _), (_, aI _ _ _), (_, aI _ _ _), (_, aI _ _ _), (_, aZ _ _ _)]) 10 C 0 11 6 tyX6 tyX6_ok nmX6 iX6_search_X6 lX6_search_180 dX6_search_7 rfl rfl rfl (by decide) rfl rfl rfl (Nat.le_of_ble_eq_true rfl) rfl ?_
  refine g_iconst 11 C dX6_search_10 rfl ?_
  refine g_istore_n (lv' := [(2, _), (0, _), (1, _)]) 12 C dX6_search_11 rfl rfl (by decide) rfl ?_
  refine g_loop (α := Int) (fun zz => [(a_M, .inr (6, [.int (iI mf), .int (iI W), .int (iI h), .ref a_Mh, .long md, .int (iI mL), .int (iI mN), .int (iI n), .ref a_Mp, .ref a_Mt, .int (iI 0), .int (iI 0), .ref a_Ma, .ref a_Mu, .ref a_Mi, .int (iI jo), .ref a_Mx, .ref a_My, .ref a_Ms, .ref a_Ml, .ref a_Mc, .ref a_Mg, .int (iI tr)])), (a_Mh, aI E 200 hs), (a_Mp, aI E 25 pc), (a_Mt, aI E 25 tn), (a_Ma, aI E 26 qa), (a_Mu, aI E 26 qf), (a_Mi, aZ E 25 (zrI us zz))]) (fun zz => [(2, .int (iI zz)), (1, .int (iI mo)), (0, .ref a_M)]) (fun zz => 0 ≤ zz ∧ zz ≤ 25) (fun zz => (25 - zz).toNat) (0) (by (try dsimp only); omega) [0, 2, 1] (by rw [zrI_0]) rfl ?_
  rintro i hI ih12
  try dsimp only at hI ih12 ⊢
  obtain ⟨hi0, hi25⟩ := hI
  refine g_iload_n 13 C 0 dX6_search_12 rfl rfl ?_
  refine g_bipush 15 C dX6_search_13 rfl (by decide) ?_
  refine g_icmp_ge 31 18 C dX6_search_15 (by decide) rfl (by omega) ?_ ?_
  · intro h15
    refine g_iconst 32 C dX6_search_31 rfl ?_
    refine g_istore_n (lv' := [(2, _), (1, _), (0, _)]) 33 C dX6_search_32 rfl rfl (by decide) rfl ?_
    refine g_aload_n 34 C 2 dX6_search_33 rfl rfl ?_
    refine g_get 37 C 0 12 6 iX6_search_X6 lX6_search_19 dX6_search_34 rfl rfl rfl (by decide) rfl ?_
    refine g_iconst 38 C dX6_search_37 rfl ?_
    refine g_iconst 39 C dX6_search_38 rfl ?_
    refine g_iastore (ws' := [(_, .inr (6, [_, _, _, _, _, _, _, _, _, _, _, _, _, _, _, _, _, _, _, _, _, _, _])), (_, aI _ _ _), (_, aI _ _ _), (_, aI _ _ _), (_, aI _ _ _), (_, aI _ _ _), (_, aZ _ _ _)]) 40 C 4 dX6_search_39 rfl rfl (by omega) rfl ?_
    refine g_aload_n 41 C 2 dX6_search_40 rfl rfl ?_
    refine g_get 44 C 0 13 6 iX6_search_X6 lX6_search_22 dX6_search_41 rfl rfl rfl (by decide) rfl ?_
    refine g_iconst 45 C dX6_search_44 rfl ?_
    refine g_iconst 46 C dX6_search_45 rfl ?_
    refine g_iastore (ws' := [(_, .inr (6, [_, _, _, _, _, _, _, _, _, _, _, _, _, _, _, _, _, _, _, _, _, _, _])), (_, aI _ _ _), (_, aI _ _ _), (_, aI _ _ _), (_, aI _ _ _), (_, aI _ _ _), (_, aZ _ _ _)]) 47 C 5 dX6_search_46 rfl rfl (by omega) rfl ?_
    refine g_loop (α := Nat × (Int → Int) × (Int → Int) × (Int → Int) × (Int → Int) × (Int → Int) × Int × Int × Int) (fun zz => [(a_M, .inr (6, [.int (iI mf), .int (iI W), .int (iI h), .ref a_Mh, .long md, .int (iI mL), .int (iI mN), .int (iI n), .ref a_Mp, .ref a_Mt, .int (iI zz.2.2.2.2.2.2.1), .int (iI zz.2.2.2.2.2.2.2.1), .ref a_Ma, .ref a_Mu, .ref a_Mi, .int (iI jo), .ref a_Mx, .ref a_My, .ref a_Ms, .ref a_Ml, .ref a_Mc, .ref a_Mg, .int (iI tr)])), (a_Mh, aI E 200 hs), (a_Mp, aI E 25 pc), (a_Mt, aI E 25 tn), (a_Ma, aI E 26 zz.2.1), (a_Mu, aI E 26 zz.2.2.1), (a_Mi, aZ E 25 zz.2.2.2.1)]) (fun zz => [(2, .int (iI zz.2.2.2.2.2.2.2.2)), (1, .int (iI mo)), (0, .ref a_M)]) (fun zz => itS (FT W h hs pc tn) n (W * h) (if mo = 1 then 1 else 0) zz.1 (0, (fun _ => -1), (fun _ => 0), 0, 0) = (zz.2.2.2.2.2.2.2.2, zz.2.2.2.2.1, zz.2.2.2.2.2.1, zz.2.2.2.2.2.2.1, zz.2.2.2.2.2.2.2.1) ∧ msI n zz.2.2.2.2.2.2.2.2 zz.2.1 zz.2.2.1 zz.2.2.2.1 zz.2.2.2.2.1 zz.2.2.2.2.2.1 ∧ (-1 ≤ zz.2.2.2.2.2.2.2.2 ∧ zz.2.2.2.2.2.2.2.2 < W * h) ∧ (0 ≤ zz.2.2.2.2.2.2.2.1 ∧ zz.2.2.2.2.2.2.2.1 ≤ zz.2.2.2.2.2.2.1 ∧ zz.2.2.2.2.2.2.1 ≤ 60000)) (fun zz => m0 - zz.1) (0, (uI qa 0 0), (uI qf 0 (-1)), (zrI us i), (fun _ => -1), (fun _ => 0), 0, 0, 0) (by
            try dsimp only
            exact ⟨rfl, ms_0 (by omega) (by omega), by omega, by omega⟩) [0, 1, 2] rfl rfl ?_
    rintro ⟨m, qa1, qf1, us1, q1, u1, tc1, fd1, k⟩ hI ih47
    try dsimp only at hI ih47 ⊢
    obtain ⟨hI1, hms, hkr, hcr⟩ := hI
    refine g_iload_n 48 C 0 dX6_search_47 rfl rfl ?_
    refine g_if_lt 254 51 C dX6_search_48 (by decide) rfl (by omega) ?_ ?_
    · intro h48
      refine g_iconst 255 C dX6_search_254 rfl ?_
      have e9 := fin_e (FT W h hs pc tn) n (W * h) (if mo = 1 then 1 else 0) hfin hneg (m := m) hI1 (show k < 0 by omega)
      subst e9
      exact g_zret C hr dX6_search_255 (by first | rfl | decide | (split <;> rfl)) ⟨_, _, _, ⟨g_ri (show (1 : Int) = if k = -2 then 0 else 1 from (if_neg (by omega)).symm), fun z => absurd (show k = -3 from z) (by omega)⟩, rfl⟩
    · intro h48
      have hlt : m < m0 := it_lt (by rw [hI1]; show ¬ k < 0; omega) (by rw [hfin]; exact hneg)
      have hQ := hms.1 k (by omega)
      refine g_aload_n 52 C 2 dX6_search_51 rfl rfl ?_
      refine g_get 55 C 0 13 6 iX6_search_X6 lX6_search_22 dX6_search_52 rfl rfl rfl (by decide) rfl ?_
      refine g_iload_n 56 C 0 dX6_search_55 rfl rfl ?_
      refine g_dup2 57 C dX6_search_56 rfl rfl rfl ?_
      refine g_iaload 58 C 5 dX6_search_57 rfl rfl (by omega) ?_
      refine g_iconst 59 C dX6_search_58 rfl ?_
      refine g_iadd 60 C dX6_search_59 rfl ?_
      refine g_iastore (ws' := [(_, .inr (6, [_, _, _, _, _, _, _, _, _, _, _, _, _, _, _, _, _, _, _, _, _, _, _])), (_, aI _ _ _), (_, aI _ _ _), (_, aI _ _ _), (_, aI _ _ _), (_, aI _ _ _), (_, aZ _ _ _)]) 61 C 5 dX6_search_60 rfl rfl (by omega) rfl ?_
      refine g_aload_n 62 C 2 dX6_search_61 rfl rfl ?_
      refine g_get 65 C 0 13 6 iX6_search_X6 lX6_search_22 dX6_search_62 rfl rfl rfl (by decide) rfl ?_
      refine g_iload_n 66 C 0 dX6_search_65 rfl rfl ?_
      have ef : uI qf1 k (qf1 k + 1) k = qf1 k + 1 := uI_eq _ _ _
      refine g_iaload 67 C 5 dX6_search_66 rfl rfl (by omega) ?_
      refine g_iconst 68 C dX6_search_67 rfl ?_
      refine g_icmp_ne 88 71 C dX6_search_68 (by decide) rfl (by omega) ?_ ?_
      · intro h68
        refine g_loop (α := Int) (fun zz => [(a_M, .inr (6, [.int (iI mf), .int (iI W), .int (iI h), .ref a_Mh, .long md, .int (iI mL), .int (iI mN), .int (iI n), .ref a_Mp, .ref a_Mt, .int (iI tc1), .int (iI fd1), .ref a_Ma, .ref a_Mu, .ref a_Mi, .int (iI jo), .ref a_Mx, .ref a_My, .ref a_Ms, .ref a_Ml, .ref a_Mc, .ref a_Mg, .int (iI tr)])), (a_Mh, aI E 200 hs), (a_Mp, aI E 25 pc), (a_Mt, aI E 25 tn), (a_Ma, aI E 26 (uI qa1 k zz)), (a_Mu, aI E 26 (uI qf1 k ((q1 k + 1) % 4))), (a_Mi, aZ E 25 us1)]) (fun zz => [(2, .int (iI k)), (1, .int (iI mo)), (0, .ref a_M)]) (fun zz => ((q1 k + 1) / 4 ≤ zz ∧ zz ≤ 26) ∧ ∀ j : Int, (q1 k + 1) / 4 ≤ j → j < zz → j < n ∧ us1 j ≠ 0) (fun zz => (26 - zz).toNat) (((q1 k + 1) / 4)) (by
            try dsimp only
            exact ⟨by omega, fun j h1 h2 => by omega⟩) [0, 1, 2] (by (try dsimp only); first | rw [show (q1 k + 1) % 4 = qf1 k + 1 by omega, show (q1 k + 1) / 4 = qa1 k by omega, uI_self] | rw [uI_2, show (q1 k + 1) % 4 = 0 by omega, show (q1 k + 1) / 4 = qa1 k + 1 by omega]) rfl ?_
        rintro a hI ih88
        try dsimp only at hI ih88 ⊢
        obtain ⟨ha1, ha2⟩ := hI
        refine g_aload_n 89 C 2 dX6_search_88 rfl rfl ?_
        refine g_get 92 C 0 12 6 iX6_search_X6 lX6_search_19 dX6_search_89 rfl rfl rfl (by decide) rfl ?_
        refine g_iload_n 93 C 0 dX6_search_92 rfl rfl ?_
        have ea : uI qa1 k a k = a := uI_eq _ _ _
        refine g_iaload 94 C 4 dX6_search_93 rfl rfl (by omega) ?_
        refine g_aload_n 95 C 2 dX6_search_94 rfl rfl ?_
        refine g_get 98 C 0 7 6 iX6_search_X6 lX6_search_83 dX6_search_95 rfl rfl rfl (by decide) rfl ?_
        refine g_icmp_ge 128 101 C dX6_search_98 (by decide) rfl (by omega) ?_ ?_
        · intro h98
          have hsk : skp u1 n ((q1 k + 1) / 4) = a := skp_u (by omega) (by omega) ha1.1 ha1.2 (fun j h1 h2 => by have y := ha2 j h1 h2; have z := hms.2 j (by omega); omega) (by first | exact Or.inl (by omega) | exact Or.inr (by have z := hms.2 a (by omega); omega))
          have ea : uI qa1 k a k = a := uI_eq _ _ _
          refine g_aload_n 129 C 2 dX6_search_128 rfl rfl ?_
          refine g_get 132 C 0 12 6 iX6_search_X6 lX6_search_19 dX6_search_129 rfl rfl rfl (by decide) rfl ?_
          refine g_iload_n 133 C 0 dX6_search_132 rfl rfl ?_
          refine g_iaload 134 C 4 dX6_search_133 rfl rfl (by omega) ?_
          refine g_aload_n 135 C 2 dX6_search_134 rfl rfl ?_
          refine g_get 138 C 0 7 6 iX6_search_X6 lX6_search_83 dX6_search_135 rfl rfl rfl (by decide) rfl ?_
          refine g_icmp_lt 163 141 C dX6_search_138 (by decide) rfl (by omega) ?_ ?_
          · intro h138
            refine g_aload_n 164 C 2 dX6_search_163 rfl rfl ?_
            refine g_get 167 C 0 10 6 iX6_search_X6 lX6_search_177 dX6_search_164 rfl rfl rfl (by decide) rfl ?_
            refine g_ldc 169 C (60000) dX6_search_167 rfl lX6_search_183 (by decide) ?_
            refine g_icmp_ne 174 172 C dX6_search_169 (by decide) rfl (by omega) ?_ ?_
            · intro h169
              refine g_aload_n 175 C 2 dX6_search_174 rfl rfl ?_
              refine g_dup 176 C dX6_search_175 rfl rfl ?_
              refine g_get 179 C 0 10 6 iX6_search_X6 lX6_search_177 dX6_search_176 rfl rfl rfl (by decide) rfl ?_
              refine g_iconst 180 C dX6_search_179 rfl ?_
              refine g_iadd 181 C dX6_search_180 rfl ?_
              refine g_put (ws' := [(_, .inr (6, [_, _, _, _, _, _, _, _, _, _, _, _, _, _, _, _, _, _, _, _, _, _, _])), (_, aI _ _ _), (_, aI _ _ _), (_, aI _ _ _), (_, aI _ _ _), (_, aI _ _ _), (_, aZ _ _ _)]) 184 C 0 10 6 tyX6 tyX6_ok nmX6 iX6_search_X6 lX6_search_177 dX6_search_181 rfl rfl rfl (by decide) rfl rfl rfl (Nat.le_of_ble_eq_true rfl) rfl ?_
              refine g_aload_n 185 C 2 dX6_search_184 rfl rfl ?_
              refine g_iload_n 186 C 0 dX6_search_185 rfl rfl ?_
              refine g_callVF 189 C [0, 1, 2, 3, 4, 5] dX6_search_186 rfl (k_X6_fits E l  (by first | assumption | omega) (by first | assumption | omega) (by first | assumption | omega) (by first | assumption | omega) (by omega) (ms_q (by omega) (by omega) hms)) (cwV 1 C.2.2.2.2.1 gX6_search_X6_fits rfl rfl rfl cdX6_fits ⟨Nat.le_of_ble_eq_true rfl, Nat.le_of_ble_eq_true rfl⟩) rfl rfl rfl rfl (Nat.le_of_ble_eq_true rfl) 0 6 rfl rfl rfl ⟨Nat.le_of_ble_eq_true rfl, Nat.le_of_ble_eq_true rfl⟩ ?_
              refine g_ifb_eq 47 192 C dX6_search_189 (by decide) rfl ?_ ?_
              · intro h189
                exact g_w [0, 1, 2] rfl rfl (ih47 ((m + 1), (uI qa1 k a), (uI qf1 k ((q1 k + 1) % 4)), us1, (uI q1 k (a * 4 + (q1 k + 1) % 4)), u1, (tc1 + 1), fd1, k) (by
            try dsimp only
            exact ⟨(show stp _ _ _ _ (itS (FT W h hs pc tn) n (W * h) (if mo = 1 then 1 else 0) m (0, (fun _ => -1), (fun _ => 0), 0, 0)) = _ by rw [hI1]; exact st_not (by omega) hsk (by omega) (by omega) h189), ms_st (by omega) (by omega) hms, by omega, by omega⟩) (by (try dsimp only); omega))
              · intro h189
                refine g_iload_n 193 C 0 dX6_search_192 rfl rfl ?_
                refine g_aload_n 194 C 2 dX6_search_193 rfl rfl ?_
                refine g_callVF 197 C [0] dX6_search_194 rfl (k_X6_pieces E l  ) (cwV 0 C.2.2.2.2.1 gX6_search_X6_pieces rfl rfl rfl cdX6_pieces ⟨Nat.le_of_ble_eq_true rfl, Nat.le_of_ble_eq_true rfl⟩) rfl rfl rfl rfl (Nat.le_of_ble_eq_true rfl) 0 6 rfl rfl rfl ⟨Nat.le_of_ble_eq_true rfl, Nat.le_of_ble_eq_true rfl⟩ ?_
                refine g_iconst 198 C dX6_search_197 rfl ?_
                refine g_isub 199 C dX6_search_198 rfl ?_
                refine g_icmp_ne 222 202 C dX6_search_199 (by decide) rfl (by omega) ?_ ?_
                · intro h199
                  refine g_aload_n 223 C 2 dX6_search_222 rfl rfl ?_
                  refine g_get 226 C 0 14 6 iX6_search_X6 lX6_search_25 dX6_search_223 rfl rfl rfl (by decide) rfl ?_
                  refine g_aload_n 227 C 2 dX6_search_226 rfl rfl ?_
                  refine g_get 230 C 0 12 6 iX6_search_X6 lX6_search_19 dX6_search_227 rfl rfl rfl (by decide) rfl ?_
                  refine g_iload_n 231 C 0 dX6_search_230 rfl rfl ?_
                  refine g_iaload 232 C 4 dX6_search_231 rfl rfl (by omega) ?_
                  refine g_iconst 233 C dX6_search_232 rfl ?_
                  refine g_bastore (ws' := [(_, .inr (6, [_, _, _, _, _, _, _, _, _, _, _, _, _, _, _, _, _, _, _, _, _, _, _])), (_, aI _ _ _), (_, aI _ _ _), (_, aI _ _ _), (_, aI _ _ _), (_, aI _ _ _), (_, aZ _ _ _)]) 234 C 6 dX6_search_233 rfl rfl (by omega) (by decide) rfl ?_
                  refine g_iinc (lv' := [(2, _), (1, _), (0, _)]) 237 C 0 dX6_search_234 rfl rfl (by decide) rfl ?_
                  refine g_aload_n 238 C 2 dX6_search_237 rfl rfl ?_
                  refine g_get 241 C 0 12 6 iX6_search_X6 lX6_search_19 dX6_search_238 rfl rfl rfl (by decide) rfl ?_
                  refine g_iload_n 242 C 0 dX6_search_241 rfl rfl ?_
                  refine g_iconst 243 C dX6_search_242 rfl ?_
                  refine g_iastore (ws' := [(_, .inr (6, [_, _, _, _, _, _, _, _, _, _, _, _, _, _, _, _, _, _, _, _, _, _, _])), (_, aI _ _ _), (_, aI _ _ _), (_, aI _ _ _), (_, aI _ _ _), (_, aI _ _ _), (_, aZ _ _ _)]) 244 C 4 dX6_search_243 rfl rfl (by omega) rfl ?_
                  refine g_aload_n 245 C 2 dX6_search_244 rfl rfl ?_
                  refine g_get 248 C 0 13 6 iX6_search_X6 lX6_search_22 dX6_search_245 rfl rfl rfl (by decide) rfl ?_
                  refine g_iload_n 249 C 0 dX6_search_248 rfl rfl ?_
                  refine g_iconst 250 C dX6_search_249 rfl ?_
                  refine g_iastore (ws' := [(_, .inr (6, [_, _, _, _, _, _, _, _, _, _, _, _, _, _, _, _, _, _, _, _, _, _, _])), (_, aI _ _ _), (_, aI _ _ _), (_, aI _ _ _), (_, aI _ _ _), (_, aI _ _ _), (_, aZ _ _ _)]) 251 C 5 dX6_search_250 rfl rfl (by omega) rfl ?_
                  refine g_goto 47 C dX6_search_251 (by decide) ?_
                  exact g_w [0, 1, 2] rfl rfl (ih47 ((m + 1), (uI (uI qa1 k a) (k + 1) 0), (uI (uI qf1 k ((q1 k + 1) % 4)) (k + 1) (-1)), (uI us1 (uI qa1 k a k) 1), (uI (uI q1 k (a * 4 + (q1 k + 1) % 4)) (k + 1) (-1)), (uI u1 a 1), (tc1 + 1), fd1, (k + 1)) (by
            try dsimp only
            exact ⟨(show stp _ _ _ _ (itS (FT W h hs pc tn) n (W * h) (if mo = 1 then 1 else 0) m (0, (fun _ => -1), (fun _ => 0), 0, 0)) = _ by rw [hI1]; exact st_down (by omega) hsk (by omega) (by omega) h189 (by omega)), ms_dn (by omega) (by omega) hms, by omega, by omega⟩) (by (try dsimp only); omega))
                · intro h199
                  refine g_aload_n 203 C 2 dX6_search_202 rfl rfl ?_
                  refine g_dup 204 C dX6_search_203 rfl rfl ?_
                  refine g_get 207 C 0 11 6 iX6_search_X6 lX6_search_180 dX6_search_204 rfl rfl rfl (by decide) rfl ?_
                  refine g_iconst 208 C dX6_search_207 rfl ?_
                  refine g_iadd 209 C dX6_search_208 rfl ?_
                  refine g_put (ws' := [(_, .inr (6, [_, _, _, _, _, _, _, _, _, _, _, _, _, _, _, _, _, _, _, _, _, _, _])), (_, aI _ _ _), (_, aI _ _ _), (_, aI _ _ _), (_, aI _ _ _), (_, aI _ _ _), (_, aZ _ _ _)]) 212 C 0 11 6 tyX6 tyX6_ok nmX6 iX6_search_X6 lX6_search_180 dX6_search_209 rfl rfl rfl (by decide) rfl rfl rfl (Nat.le_of_ble_eq_true rfl) rfl ?_
                  refine g_aload_n 213 C 2 dX6_search_212 rfl rfl ?_
                  refine g_get 216 C 0 11 6 iX6_search_X6 lX6_search_180 dX6_search_213 rfl rfl rfl (by decide) rfl ?_
                  refine g_iload_n 217 C 1 dX6_search_216 rfl rfl ?_
                  refine g_icmp_ne 47 220 C dX6_search_217 (by decide) rfl (by omega) ?_ ?_
                  · intro h217
                    exact g_w [0, 1, 2] rfl rfl (ih47 ((m + 1), (uI qa1 k a), (uI qf1 k ((q1 k + 1) % 4)), us1, (uI q1 k (a * 4 + (q1 k + 1) % 4)), u1, (tc1 + 1), (fd1 + 1), k) (by
            try dsimp only
            exact ⟨(show stp _ _ _ _ (itS (FT W h hs pc tn) n (W * h) (if mo = 1 then 1 else 0) m (0, (fun _ => -1), (fun _ => 0), 0, 0)) = _ by rw [hI1]; exact st_last (by omega) hsk (by omega) (by omega) h189 (by omega) (by
              intro z
              have z1 := z.1
              have z2 := z.2
              by_cases y : mo = 1
              · omega
              · rw [if_neg y] at z1; omega)), ms_st (by omega) (by omega) hms, by omega, by omega⟩) (by (try dsimp only); omega))
                  · intro h217
                    refine g_iconst 221 C dX6_search_220 rfl ?_
                    have e9 := fin_e (FT W h hs pc tn) n (W * h) (if mo = 1 then 1 else 0) hfin hneg (m := m + 1) ((congrArg (stp (FT W h hs pc tn) n (W * h) (if mo = 1 then 1 else 0)) hI1).trans (st_last1 (by omega) hsk (by omega) (by omega) h189 (by omega) ⟨if_pos (by omega), by omega⟩)) (show (-3 : Int) < 0 by omega)
                    subst e9
                    exact g_zret C hr dX6_search_221 (by first | rfl | decide | (split <;> rfl)) ⟨_, _, _, ⟨rfl, fun _ j hj => ⟨(ms_q (by omega) (by omega) hms j (by omega)).1, (ms_q (by omega) (by omega) hms j (by omega)).2.1⟩⟩, rfl⟩
            · intro h169
              refine g_iconst 173 C dX6_search_172 rfl ?_
              have e9 := fin_e (FT W h hs pc tn) n (W * h) (if mo = 1 then 1 else 0) hfin hneg (m := m + 1) ((congrArg (stp (FT W h hs pc tn) n (W * h) (if mo = 1 then 1 else 0)) hI1).trans (st_spent (by omega) hsk (by omega) (by omega))) (show (-2 : Int) < 0 by omega)
              subst e9
              exact g_zret C hr dX6_search_173 (by first | rfl | decide | (split <;> rfl)) ⟨_, _, _, ⟨rfl, fun z => absurd z (by show ¬ ((-2 : Int) = -3); omega)⟩, rfl⟩
          · intro h138
            refine g_iinc (lv' := [(2, _), (1, _), (0, _)]) 144 C 0 dX6_search_141 rfl rfl (by decide) rfl ?_
            refine g_iload_n 145 C 0 dX6_search_144 rfl rfl ?_
            refine g_if_lt 47 148 C dX6_search_145 (by decide) rfl (by omega) ?_ ?_
            · intro h145
              exact g_w [0, 1, 2] rfl rfl (ih47 ((m + 1), (uI qa1 k a), (uI qf1 k ((q1 k + 1) % 4)), us1, (uI q1 k (a * 4 + (q1 k + 1) % 4)), u1, tc1, fd1, (k + -1)) (by
            try dsimp only
            exact ⟨(show stp _ _ _ _ (itS (FT W h hs pc tn) n (W * h) (if mo = 1 then 1 else 0) m (0, (fun _ => -1), (fun _ => 0), 0, 0)) = _ by rw [hI1]; exact (st_back0 (by omega) hsk (by omega)).trans (by rw [show k + -1 = -1 by omega])), ms_b0 (by omega) hms, by omega, by omega⟩) (by (try dsimp only); omega))
            · intro h145
              have ea2 : uI qa1 k a (k + -1) = qa1 (k + -1) := uI_ne (by omega)
              have hQ2 := hms.1 (k + -1) (by omega)
              refine g_aload_n 149 C 2 dX6_search_148 rfl rfl ?_
              refine g_get 152 C 0 14 6 iX6_search_X6 lX6_search_25 dX6_search_149 rfl rfl rfl (by decide) rfl ?_
              refine g_aload_n 153 C 2 dX6_search_152 rfl rfl ?_
              refine g_get 156 C 0 12 6 iX6_search_X6 lX6_search_19 dX6_search_153 rfl rfl rfl (by decide) rfl ?_
              refine g_iload_n 157 C 0 dX6_search_156 rfl rfl ?_
              refine g_iaload 158 C 4 dX6_search_157 rfl rfl (by omega) ?_
              refine g_iconst 159 C dX6_search_158 rfl ?_
              refine g_bastore (ws' := [(_, .inr (6, [_, _, _, _, _, _, _, _, _, _, _, _, _, _, _, _, _, _, _, _, _, _, _])), (_, aI _ _ _), (_, aI _ _ _), (_, aI _ _ _), (_, aI _ _ _), (_, aI _ _ _), (_, aZ _ _ _)]) 160 C 6 dX6_search_159 rfl rfl (by omega) (by decide) rfl ?_
              refine g_goto 47 C dX6_search_160 (by decide) ?_
              exact g_w [0, 1, 2] rfl rfl (ih47 ((m + 1), (uI qa1 k a), (uI qf1 k ((q1 k + 1) % 4)), (uI us1 (uI qa1 k a (k + -1)) 0), (uI q1 k (a * 4 + (q1 k + 1) % 4)), (uI u1 (q1 (k - 1) / 4) 0), tc1, fd1, (k + -1)) (by
            try dsimp only
            exact ⟨(show stp _ _ _ _ (itS (FT W h hs pc tn) n (W * h) (if mo = 1 then 1 else 0) m (0, (fun _ => -1), (fun _ => 0), 0, 0)) = _ by rw [hI1]; exact (st_back (by omega) hsk (by omega)).trans (by rw [show k + -1 = k - 1 by omega])), ms_bk (by omega) (by omega) hms, by omega, by omega⟩) (by (try dsimp only); omega))
        · intro h98
          refine g_aload_n 102 C 2 dX6_search_101 rfl rfl ?_
          refine g_get 105 C 0 14 6 iX6_search_X6 lX6_search_25 dX6_search_102 rfl rfl rfl (by decide) rfl ?_
          refine g_aload_n 106 C 2 dX6_search_105 rfl rfl ?_
          refine g_get 109 C 0 12 6 iX6_search_X6 lX6_search_19 dX6_search_106 rfl rfl rfl (by decide) rfl ?_
          refine g_iload_n 110 C 0 dX6_search_109 rfl rfl ?_
          refine g_iaload 111 C 4 dX6_search_110 rfl rfl (by omega) ?_
          have hua := hms.2 a (by omega)
          have eu : us1 (uI qa1 k a k) = us1 a := by rw [uI_eq]
          refine g_baload 112 C 6 dX6_search_111 rfl rfl (by omega) ?_
          refine g_if_eq 128 115 C dX6_search_112 (by decide) rfl (by omega) ?_ ?_
          · intro h112
            have hsk : skp u1 n ((q1 k + 1) / 4) = a := skp_u (by omega) (by omega) ha1.1 ha1.2 (fun j h1 h2 => by have y := ha2 j h1 h2; have z := hms.2 j (by omega); omega) (by first | exact Or.inl (by omega) | exact Or.inr (by have z := hms.2 a (by omega); omega))
            have ea : uI qa1 k a k = a := uI_eq _ _ _
            refine g_aload_n 129 C 2 dX6_search_128 rfl rfl ?_
            refine g_get 132 C 0 12 6 iX6_search_X6 lX6_search_19 dX6_search_129 rfl rfl rfl (by decide) rfl ?_
            refine g_iload_n 133 C 0 dX6_search_132 rfl rfl ?_
            refine g_iaload 134 C 4 dX6_search_133 rfl rfl (by omega) ?_
            refine g_aload_n 135 C 2 dX6_search_134 rfl rfl ?_
            refine g_get 138 C 0 7 6 iX6_search_X6 lX6_search_83 dX6_search_135 rfl rfl rfl (by decide) rfl ?_
            refine g_icmp_lt 163 141 C dX6_search_138 (by decide) rfl (by omega) ?_ ?_
            · intro h138
              refine g_aload_n 164 C 2 dX6_search_163 rfl rfl ?_
              refine g_get 167 C 0 10 6 iX6_search_X6 lX6_search_177 dX6_search_164 rfl rfl rfl (by decide) rfl ?_
              refine g_ldc 169 C (60000) dX6_search_167 rfl lX6_search_183 (by decide) ?_
              refine g_icmp_ne 174 172 C dX6_search_169 (by decide) rfl (by omega) ?_ ?_
              · intro h169
                refine g_aload_n 175 C 2 dX6_search_174 rfl rfl ?_
                refine g_dup 176 C dX6_search_175 rfl rfl ?_
                refine g_get 179 C 0 10 6 iX6_search_X6 lX6_search_177 dX6_search_176 rfl rfl rfl (by decide) rfl ?_
                refine g_iconst 180 C dX6_search_179 rfl ?_
                refine g_iadd 181 C dX6_search_180 rfl ?_
                refine g_put (ws' := [(_, .inr (6, [_, _, _, _, _, _, _, _, _, _, _, _, _, _, _, _, _, _, _, _, _, _, _])), (_, aI _ _ _), (_, aI _ _ _), (_, aI _ _ _), (_, aI _ _ _), (_, aI _ _ _), (_, aZ _ _ _)]) 184 C 0 10 6 tyX6 tyX6_ok nmX6 iX6_search_X6 lX6_search_177 dX6_search_181 rfl rfl rfl (by decide) rfl rfl rfl (Nat.le_of_ble_eq_true rfl) rfl ?_
                refine g_aload_n 185 C 2 dX6_search_184 rfl rfl ?_
                refine g_iload_n 186 C 0 dX6_search_185 rfl rfl ?_
                refine g_callVF 189 C [0, 1, 2, 3, 4, 5] dX6_search_186 rfl (k_X6_fits E l  (by first | assumption | omega) (by first | assumption | omega) (by first | assumption | omega) (by first | assumption | omega) (by omega) (ms_q (by omega) (by omega) hms)) (cwV 1 C.2.2.2.2.1 gX6_search_X6_fits rfl rfl rfl cdX6_fits ⟨Nat.le_of_ble_eq_true rfl, Nat.le_of_ble_eq_true rfl⟩) rfl rfl rfl rfl (Nat.le_of_ble_eq_true rfl) 0 6 rfl rfl rfl ⟨Nat.le_of_ble_eq_true rfl, Nat.le_of_ble_eq_true rfl⟩ ?_
                refine g_ifb_eq 47 192 C dX6_search_189 (by decide) rfl ?_ ?_
                · intro h189
                  exact g_w [0, 1, 2] rfl rfl (ih47 ((m + 1), (uI qa1 k a), (uI qf1 k ((q1 k + 1) % 4)), us1, (uI q1 k (a * 4 + (q1 k + 1) % 4)), u1, (tc1 + 1), fd1, k) (by
            try dsimp only
            exact ⟨(show stp _ _ _ _ (itS (FT W h hs pc tn) n (W * h) (if mo = 1 then 1 else 0) m (0, (fun _ => -1), (fun _ => 0), 0, 0)) = _ by rw [hI1]; exact st_not (by omega) hsk (by omega) (by omega) h189), ms_st (by omega) (by omega) hms, by omega, by omega⟩) (by (try dsimp only); omega))
                · intro h189
                  refine g_iload_n 193 C 0 dX6_search_192 rfl rfl ?_
                  refine g_aload_n 194 C 2 dX6_search_193 rfl rfl ?_
                  refine g_callVF 197 C [0] dX6_search_194 rfl (k_X6_pieces E l  ) (cwV 0 C.2.2.2.2.1 gX6_search_X6_pieces rfl rfl rfl cdX6_pieces ⟨Nat.le_of_ble_eq_true rfl, Nat.le_of_ble_eq_true rfl⟩) rfl rfl rfl rfl (Nat.le_of_ble_eq_true rfl) 0 6 rfl rfl rfl ⟨Nat.le_of_ble_eq_true rfl, Nat.le_of_ble_eq_true rfl⟩ ?_
                  refine g_iconst 198 C dX6_search_197 rfl ?_
                  refine g_isub 199 C dX6_search_198 rfl ?_
                  refine g_icmp_ne 222 202 C dX6_search_199 (by decide) rfl (by omega) ?_ ?_
                  · intro h199
                    refine g_aload_n 223 C 2 dX6_search_222 rfl rfl ?_
                    refine g_get 226 C 0 14 6 iX6_search_X6 lX6_search_25 dX6_search_223 rfl rfl rfl (by decide) rfl ?_
                    refine g_aload_n 227 C 2 dX6_search_226 rfl rfl ?_
                    refine g_get 230 C 0 12 6 iX6_search_X6 lX6_search_19 dX6_search_227 rfl rfl rfl (by decide) rfl ?_
                    refine g_iload_n 231 C 0 dX6_search_230 rfl rfl ?_
                    refine g_iaload 232 C 4 dX6_search_231 rfl rfl (by omega) ?_
                    refine g_iconst 233 C dX6_search_232 rfl ?_
                    refine g_bastore (ws' := [(_, .inr (6, [_, _, _, _, _, _, _, _, _, _, _, _, _, _, _, _, _, _, _, _, _, _, _])), (_, aI _ _ _), (_, aI _ _ _), (_, aI _ _ _), (_, aI _ _ _), (_, aI _ _ _), (_, aZ _ _ _)]) 234 C 6 dX6_search_233 rfl rfl (by omega) (by decide) rfl ?_
                    refine g_iinc (lv' := [(2, _), (1, _), (0, _)]) 237 C 0 dX6_search_234 rfl rfl (by decide) rfl ?_
                    refine g_aload_n 238 C 2 dX6_search_237 rfl rfl ?_
                    refine g_get 241 C 0 12 6 iX6_search_X6 lX6_search_19 dX6_search_238 rfl rfl rfl (by decide) rfl ?_
                    refine g_iload_n 242 C 0 dX6_search_241 rfl rfl ?_
                    refine g_iconst 243 C dX6_search_242 rfl ?_
                    refine g_iastore (ws' := [(_, .inr (6, [_, _, _, _, _, _, _, _, _, _, _, _, _, _, _, _, _, _, _, _, _, _, _])), (_, aI _ _ _), (_, aI _ _ _), (_, aI _ _ _), (_, aI _ _ _), (_, aI _ _ _), (_, aZ _ _ _)]) 244 C 4 dX6_search_243 rfl rfl (by omega) rfl ?_
                    refine g_aload_n 245 C 2 dX6_search_244 rfl rfl ?_
                    refine g_get 248 C 0 13 6 iX6_search_X6 lX6_search_22 dX6_search_245 rfl rfl rfl (by decide) rfl ?_
                    refine g_iload_n 249 C 0 dX6_search_248 rfl rfl ?_
                    refine g_iconst 250 C dX6_search_249 rfl ?_
                    refine g_iastore (ws' := [(_, .inr (6, [_, _, _, _, _, _, _, _, _, _, _, _, _, _, _, _, _, _, _, _, _, _, _])), (_, aI _ _ _), (_, aI _ _ _), (_, aI _ _ _), (_, aI _ _ _), (_, aI _ _ _), (_, aZ _ _ _)]) 251 C 5 dX6_search_250 rfl rfl (by omega) rfl ?_
                    refine g_goto 47 C dX6_search_251 (by decide) ?_
                    exact g_w [0, 1, 2] rfl rfl (ih47 ((m + 1), (uI (uI qa1 k a) (k + 1) 0), (uI (uI qf1 k ((q1 k + 1) % 4)) (k + 1) (-1)), (uI us1 (uI qa1 k a k) 1), (uI (uI q1 k (a * 4 + (q1 k + 1) % 4)) (k + 1) (-1)), (uI u1 a 1), (tc1 + 1), fd1, (k + 1)) (by
            try dsimp only
            exact ⟨(show stp _ _ _ _ (itS (FT W h hs pc tn) n (W * h) (if mo = 1 then 1 else 0) m (0, (fun _ => -1), (fun _ => 0), 0, 0)) = _ by rw [hI1]; exact st_down (by omega) hsk (by omega) (by omega) h189 (by omega)), ms_dn (by omega) (by omega) hms, by omega, by omega⟩) (by (try dsimp only); omega))
                  · intro h199
                    refine g_aload_n 203 C 2 dX6_search_202 rfl rfl ?_
                    refine g_dup 204 C dX6_search_203 rfl rfl ?_
                    refine g_get 207 C 0 11 6 iX6_search_X6 lX6_search_180 dX6_search_204 rfl rfl rfl (by decide) rfl ?_
                    refine g_iconst 208 C dX6_search_207 rfl ?_
                    refine g_iadd 209 C dX6_search_208 rfl ?_
                    refine g_put (ws' := [(_, .inr (6, [_, _, _, _, _, _, _, _, _, _, _, _, _, _, _, _, _, _, _, _, _, _, _])), (_, aI _ _ _), (_, aI _ _ _), (_, aI _ _ _), (_, aI _ _ _), (_, aI _ _ _), (_, aZ _ _ _)]) 212 C 0 11 6 tyX6 tyX6_ok nmX6 iX6_search_X6 lX6_search_180 dX6_search_209 rfl rfl rfl (by decide) rfl rfl rfl (Nat.le_of_ble_eq_true rfl) rfl ?_
                    refine g_aload_n 213 C 2 dX6_search_212 rfl rfl ?_
                    refine g_get 216 C 0 11 6 iX6_search_X6 lX6_search_180 dX6_search_213 rfl rfl rfl (by decide) rfl ?_
                    refine g_iload_n 217 C 1 dX6_search_216 rfl rfl ?_
                    refine g_icmp_ne 47 220 C dX6_search_217 (by decide) rfl (by omega) ?_ ?_
                    · intro h217
                      exact g_w [0, 1, 2] rfl rfl (ih47 ((m + 1), (uI qa1 k a), (uI qf1 k ((q1 k + 1) % 4)), us1, (uI q1 k (a * 4 + (q1 k + 1) % 4)), u1, (tc1 + 1), (fd1 + 1), k) (by
            try dsimp only
            exact ⟨(show stp _ _ _ _ (itS (FT W h hs pc tn) n (W * h) (if mo = 1 then 1 else 0) m (0, (fun _ => -1), (fun _ => 0), 0, 0)) = _ by rw [hI1]; exact st_last (by omega) hsk (by omega) (by omega) h189 (by omega) (by
              intro z
              have z1 := z.1
              have z2 := z.2
              by_cases y : mo = 1
              · omega
              · rw [if_neg y] at z1; omega)), ms_st (by omega) (by omega) hms, by omega, by omega⟩) (by (try dsimp only); omega))
                    · intro h217
                      refine g_iconst 221 C dX6_search_220 rfl ?_
                      have e9 := fin_e (FT W h hs pc tn) n (W * h) (if mo = 1 then 1 else 0) hfin hneg (m := m + 1) ((congrArg (stp (FT W h hs pc tn) n (W * h) (if mo = 1 then 1 else 0)) hI1).trans (st_last1 (by omega) hsk (by omega) (by omega) h189 (by omega) ⟨if_pos (by omega), by omega⟩)) (show (-3 : Int) < 0 by omega)
                      subst e9
                      exact g_zret C hr dX6_search_221 (by first | rfl | decide | (split <;> rfl)) ⟨_, _, _, ⟨rfl, fun _ j hj => ⟨(ms_q (by omega) (by omega) hms j (by omega)).1, (ms_q (by omega) (by omega) hms j (by omega)).2.1⟩⟩, rfl⟩
              · intro h169
                refine g_iconst 173 C dX6_search_172 rfl ?_
                have e9 := fin_e (FT W h hs pc tn) n (W * h) (if mo = 1 then 1 else 0) hfin hneg (m := m + 1) ((congrArg (stp (FT W h hs pc tn) n (W * h) (if mo = 1 then 1 else 0)) hI1).trans (st_spent (by omega) hsk (by omega) (by omega))) (show (-2 : Int) < 0 by omega)
                subst e9
                exact g_zret C hr dX6_search_173 (by first | rfl | decide | (split <;> rfl)) ⟨_, _, _, ⟨rfl, fun z => absurd z (by show ¬ ((-2 : Int) = -3); omega)⟩, rfl⟩
            · intro h138
              refine g_iinc (lv' := [(2, _), (1, _), (0, _)]) 144 C 0 dX6_search_141 rfl rfl (by decide) rfl ?_
              refine g_iload_n 145 C 0 dX6_search_144 rfl rfl ?_
              refine g_if_lt 47 148 C dX6_search_145 (by decide) rfl (by omega) ?_ ?_
              · intro h145
                exact g_w [0, 1, 2] rfl rfl (ih47 ((m + 1), (uI qa1 k a), (uI qf1 k ((q1 k + 1) % 4)), us1, (uI q1 k (a * 4 + (q1 k + 1) % 4)), u1, tc1, fd1, (k + -1)) (by
            try dsimp only
            exact ⟨(show stp _ _ _ _ (itS (FT W h hs pc tn) n (W * h) (if mo = 1 then 1 else 0) m (0, (fun _ => -1), (fun _ => 0), 0, 0)) = _ by rw [hI1]; exact (st_back0 (by omega) hsk (by omega)).trans (by rw [show k + -1 = -1 by omega])), ms_b0 (by omega) hms, by omega, by omega⟩) (by (try dsimp only); omega))
              · intro h145
                have ea2 : uI qa1 k a (k + -1) = qa1 (k + -1) := uI_ne (by omega)
                have hQ2 := hms.1 (k + -1) (by omega)
                refine g_aload_n 149 C 2 dX6_search_148 rfl rfl ?_
                refine g_get 152 C 0 14 6 iX6_search_X6 lX6_search_25 dX6_search_149 rfl rfl rfl (by decide) rfl ?_
                refine g_aload_n 153 C 2 dX6_search_152 rfl rfl ?_
                refine g_get 156 C 0 12 6 iX6_search_X6 lX6_search_19 dX6_search_153 rfl rfl rfl (by decide) rfl ?_
                refine g_iload_n 157 C 0 dX6_search_156 rfl rfl ?_
                refine g_iaload 158 C 4 dX6_search_157 rfl rfl (by omega) ?_
                refine g_iconst 159 C dX6_search_158 rfl ?_
                refine g_bastore (ws' := [(_, .inr (6, [_, _, _, _, _, _, _, _, _, _, _, _, _, _, _, _, _, _, _, _, _, _, _])), (_, aI _ _ _), (_, aI _ _ _), (_, aI _ _ _), (_, aI _ _ _), (_, aI _ _ _), (_, aZ _ _ _)]) 160 C 6 dX6_search_159 rfl rfl (by omega) (by decide) rfl ?_
                refine g_goto 47 C dX6_search_160 (by decide) ?_
                exact g_w [0, 1, 2] rfl rfl (ih47 ((m + 1), (uI qa1 k a), (uI qf1 k ((q1 k + 1) % 4)), (uI us1 (uI qa1 k a (k + -1)) 0), (uI q1 k (a * 4 + (q1 k + 1) % 4)), (uI u1 (q1 (k - 1) / 4) 0), tc1, fd1, (k + -1)) (by
            try dsimp only
            exact ⟨(show stp _ _ _ _ (itS (FT W h hs pc tn) n (W * h) (if mo = 1 then 1 else 0) m (0, (fun _ => -1), (fun _ => 0), 0, 0)) = _ by rw [hI1]; exact (st_back (by omega) hsk (by omega)).trans (by rw [show k + -1 = k - 1 by omega])), ms_bk (by omega) (by omega) hms, by omega, by omega⟩) (by (try dsimp only); omega))
          · intro h112
            refine g_aload_n 116 C 2 dX6_search_115 rfl rfl ?_
            refine g_get 119 C 0 12 6 iX6_search_X6 lX6_search_19 dX6_search_116 rfl rfl rfl (by decide) rfl ?_
            refine g_iload_n 120 C 0 dX6_search_119 rfl rfl ?_
            refine g_dup2 121 C dX6_search_120 rfl rfl rfl ?_
            refine g_iaload 122 C 4 dX6_search_121 rfl rfl (by omega) ?_
            refine g_iconst 123 C dX6_search_122 rfl ?_
            refine g_iadd 124 C dX6_search_123 rfl ?_
            refine g_iastore (ws' := [(_, .inr (6, [_, _, _, _, _, _, _, _, _, _, _, _, _, _, _, _, _, _, _, _, _, _, _])), (_, aI _ _ _), (_, aI _ _ _), (_, aI _ _ _), (_, aI _ _ _), (_, aI _ _ _), (_, aZ _ _ _)]) 125 C 4 dX6_search_124 rfl rfl (by omega) rfl ?_
            refine g_goto 88 C dX6_search_125 (by decide) ?_
            exact g_w [0, 1, 2] (by (try dsimp only); rw [uI_2, uI_eq]) rfl (ih88 ((a + 1)) (by
            try dsimp only
            exact ⟨by omega, fun j h1 h2 => by
              by_cases z : j = a
              · rw [z]; exact ⟨by omega, by omega⟩
              · exact ha2 j h1 (by omega)⟩) (by (try dsimp only); omega))
      · intro h68
        refine g_aload_n 72 C 2 dX6_search_71 rfl rfl ?_
        refine g_get 75 C 0 13 6 iX6_search_X6 lX6_search_22 dX6_search_72 rfl rfl rfl (by decide) rfl ?_
        refine g_iload_n 76 C 0 dX6_search_75 rfl rfl ?_
        refine g_iconst 77 C dX6_search_76 rfl ?_
        refine g_iastore (ws' := [(_, .inr (6, [_, _, _, _, _, _, _, _, _, _, _, _, _, _, _, _, _, _, _, _, _, _, _])), (_, aI _ _ _), (_, aI _ _ _), (_, aI _ _ _), (_, aI _ _ _), (_, aI _ _ _), (_, aZ _ _ _)]) 78 C 5 dX6_search_77 rfl rfl (by omega) rfl ?_
        refine g_aload_n 79 C 2 dX6_search_78 rfl rfl ?_
        refine g_get 82 C 0 12 6 iX6_search_X6 lX6_search_19 dX6_search_79 rfl rfl rfl (by decide) rfl ?_
        refine g_iload_n 83 C 0 dX6_search_82 rfl rfl ?_
        refine g_dup2 84 C dX6_search_83 rfl rfl rfl ?_
        refine g_iaload 85 C 4 dX6_search_84 rfl rfl (by omega) ?_
        refine g_iconst 86 C dX6_search_85 rfl ?_
        refine g_iadd 87 C dX6_search_86 rfl ?_
        refine g_iastore (ws' := [(_, .inr (6, [_, _, _, _, _, _, _, _, _, _, _, _, _, _, _, _, _, _, _, _, _, _, _])), (_, aI _ _ _), (_, aI _ _ _), (_, aI _ _ _), (_, aI _ _ _), (_, aI _ _ _), (_, aZ _ _ _)]) 88 C 4 dX6_search_87 rfl rfl (by omega) rfl ?_
        refine g_loop (α := Int) (fun zz => [(a_M, .inr (6, [.int (iI mf), .int (iI W), .int (iI h), .ref a_Mh, .long md, .int (iI mL), .int (iI mN), .int (iI n), .ref a_Mp, .ref a_Mt, .int (iI tc1), .int (iI fd1), .ref a_Ma, .ref a_Mu, .ref a_Mi, .int (iI jo), .ref a_Mx, .ref a_My, .ref a_Ms, .ref a_Ml, .ref a_Mc, .ref a_Mg, .int (iI tr)])), (a_Mh, aI E 200 hs), (a_Mp, aI E 25 pc), (a_Mt, aI E 25 tn), (a_Ma, aI E 26 (uI qa1 k zz)), (a_Mu, aI E 26 (uI qf1 k ((q1 k + 1) % 4))), (a_Mi, aZ E 25 us1)]) (fun zz => [(2, .int (iI k)), (1, .int (iI mo)), (0, .ref a_M)]) (fun zz => ((q1 k + 1) / 4 ≤ zz ∧ zz ≤ 26) ∧ ∀ j : Int, (q1 k + 1) / 4 ≤ j → j < zz → j < n ∧ us1 j ≠ 0) (fun zz => (26 - zz).toNat) (((q1 k + 1) / 4)) (by
            try dsimp only
            exact ⟨by omega, fun j h1 h2 => by omega⟩) [0, 1, 2] (by (try dsimp only); first | rw [show (q1 k + 1) % 4 = qf1 k + 1 by omega, show (q1 k + 1) / 4 = qa1 k by omega, uI_self] | rw [uI_2, show (q1 k + 1) % 4 = 0 by omega, show (q1 k + 1) / 4 = qa1 k + 1 by omega]) rfl ?_
        rintro a hI ih88
        try dsimp only at hI ih88 ⊢
        obtain ⟨ha1, ha2⟩ := hI
        refine g_aload_n 89 C 2 dX6_search_88 rfl rfl ?_
        refine g_get 92 C 0 12 6 iX6_search_X6 lX6_search_19 dX6_search_89 rfl rfl rfl (by decide) rfl ?_
        refine g_iload_n 93 C 0 dX6_search_92 rfl rfl ?_
        have ea : uI qa1 k a k = a := uI_eq _ _ _
        refine g_iaload 94 C 4 dX6_search_93 rfl rfl (by omega) ?_
        refine g_aload_n 95 C 2 dX6_search_94 rfl rfl ?_
        refine g_get 98 C 0 7 6 iX6_search_X6 lX6_search_83 dX6_search_95 rfl rfl rfl (by decide) rfl ?_
        refine g_icmp_ge 128 101 C dX6_search_98 (by decide) rfl (by omega) ?_ ?_
        · intro h98
          have hsk : skp u1 n ((q1 k + 1) / 4) = a := skp_u (by omega) (by omega) ha1.1 ha1.2 (fun j h1 h2 => by have y := ha2 j h1 h2; have z := hms.2 j (by omega); omega) (by first | exact Or.inl (by omega) | exact Or.inr (by have z := hms.2 a (by omega); omega))
          have ea : uI qa1 k a k = a := uI_eq _ _ _
          refine g_aload_n 129 C 2 dX6_search_128 rfl rfl ?_
          refine g_get 132 C 0 12 6 iX6_search_X6 lX6_search_19 dX6_search_129 rfl rfl rfl (by decide) rfl ?_
          refine g_iload_n 133 C 0 dX6_search_132 rfl rfl ?_
          refine g_iaload 134 C 4 dX6_search_133 rfl rfl (by omega) ?_
          refine g_aload_n 135 C 2 dX6_search_134 rfl rfl ?_
          refine g_get 138 C 0 7 6 iX6_search_X6 lX6_search_83 dX6_search_135 rfl rfl rfl (by decide) rfl ?_
          refine g_icmp_lt 163 141 C dX6_search_138 (by decide) rfl (by omega) ?_ ?_
          · intro h138
            refine g_aload_n 164 C 2 dX6_search_163 rfl rfl ?_
            refine g_get 167 C 0 10 6 iX6_search_X6 lX6_search_177 dX6_search_164 rfl rfl rfl (by decide) rfl ?_
            refine g_ldc 169 C (60000) dX6_search_167 rfl lX6_search_183 (by decide) ?_
            refine g_icmp_ne 174 172 C dX6_search_169 (by decide) rfl (by omega) ?_ ?_
            · intro h169
              refine g_aload_n 175 C 2 dX6_search_174 rfl rfl ?_
              refine g_dup 176 C dX6_search_175 rfl rfl ?_
              refine g_get 179 C 0 10 6 iX6_search_X6 lX6_search_177 dX6_search_176 rfl rfl rfl (by decide) rfl ?_
              refine g_iconst 180 C dX6_search_179 rfl ?_
              refine g_iadd 181 C dX6_search_180 rfl ?_
              refine g_put (ws' := [(_, .inr (6, [_, _, _, _, _, _, _, _, _, _, _, _, _, _, _, _, _, _, _, _, _, _, _])), (_, aI _ _ _), (_, aI _ _ _), (_, aI _ _ _), (_, aI _ _ _), (_, aI _ _ _), (_, aZ _ _ _)]) 184 C 0 10 6 tyX6 tyX6_ok nmX6 iX6_search_X6 lX6_search_177 dX6_search_181 rfl rfl rfl (by decide) rfl rfl rfl (Nat.le_of_ble_eq_true rfl) rfl ?_
              refine g_aload_n 185 C 2 dX6_search_184 rfl rfl ?_
              refine g_iload_n 186 C 0 dX6_search_185 rfl rfl ?_
              refine g_callVF 189 C [0, 1, 2, 3, 4, 5] dX6_search_186 rfl (k_X6_fits E l  (by first | assumption | omega) (by first | assumption | omega) (by first | assumption | omega) (by first | assumption | omega) (by omega) (ms_q (by omega) (by omega) hms)) (cwV 1 C.2.2.2.2.1 gX6_search_X6_fits rfl rfl rfl cdX6_fits ⟨Nat.le_of_ble_eq_true rfl, Nat.le_of_ble_eq_true rfl⟩) rfl rfl rfl rfl (Nat.le_of_ble_eq_true rfl) 0 6 rfl rfl rfl ⟨Nat.le_of_ble_eq_true rfl, Nat.le_of_ble_eq_true rfl⟩ ?_
              refine g_ifb_eq 47 192 C dX6_search_189 (by decide) rfl ?_ ?_
              · intro h189
                exact g_w [0, 1, 2] rfl rfl (ih47 ((m + 1), (uI qa1 k a), (uI qf1 k ((q1 k + 1) % 4)), us1, (uI q1 k (a * 4 + (q1 k + 1) % 4)), u1, (tc1 + 1), fd1, k) (by
            try dsimp only
            exact ⟨(show stp _ _ _ _ (itS (FT W h hs pc tn) n (W * h) (if mo = 1 then 1 else 0) m (0, (fun _ => -1), (fun _ => 0), 0, 0)) = _ by rw [hI1]; exact st_not (by omega) hsk (by omega) (by omega) h189), ms_st (by omega) (by omega) hms, by omega, by omega⟩) (by (try dsimp only); omega))
              · intro h189
                refine g_iload_n 193 C 0 dX6_search_192 rfl rfl ?_
                refine g_aload_n 194 C 2 dX6_search_193 rfl rfl ?_
                refine g_callVF 197 C [0] dX6_search_194 rfl (k_X6_pieces E l  ) (cwV 0 C.2.2.2.2.1 gX6_search_X6_pieces rfl rfl rfl cdX6_pieces ⟨Nat.le_of_ble_eq_true rfl, Nat.le_of_ble_eq_true rfl⟩) rfl rfl rfl rfl (Nat.le_of_ble_eq_true rfl) 0 6 rfl rfl rfl ⟨Nat.le_of_ble_eq_true rfl, Nat.le_of_ble_eq_true rfl⟩ ?_
                refine g_iconst 198 C dX6_search_197 rfl ?_
                refine g_isub 199 C dX6_search_198 rfl ?_
                refine g_icmp_ne 222 202 C dX6_search_199 (by decide) rfl (by omega) ?_ ?_
                · intro h199
                  refine g_aload_n 223 C 2 dX6_search_222 rfl rfl ?_
                  refine g_get 226 C 0 14 6 iX6_search_X6 lX6_search_25 dX6_search_223 rfl rfl rfl (by decide) rfl ?_
                  refine g_aload_n 227 C 2 dX6_search_226 rfl rfl ?_
                  refine g_get 230 C 0 12 6 iX6_search_X6 lX6_search_19 dX6_search_227 rfl rfl rfl (by decide) rfl ?_
                  refine g_iload_n 231 C 0 dX6_search_230 rfl rfl ?_
                  refine g_iaload 232 C 4 dX6_search_231 rfl rfl (by omega) ?_
                  refine g_iconst 233 C dX6_search_232 rfl ?_
                  refine g_bastore (ws' := [(_, .inr (6, [_, _, _, _, _, _, _, _, _, _, _, _, _, _, _, _, _, _, _, _, _, _, _])), (_, aI _ _ _), (_, aI _ _ _), (_, aI _ _ _), (_, aI _ _ _), (_, aI _ _ _), (_, aZ _ _ _)]) 234 C 6 dX6_search_233 rfl rfl (by omega) (by decide) rfl ?_
                  refine g_iinc (lv' := [(2, _), (1, _), (0, _)]) 237 C 0 dX6_search_234 rfl rfl (by decide) rfl ?_
                  refine g_aload_n 238 C 2 dX6_search_237 rfl rfl ?_
                  refine g_get 241 C 0 12 6 iX6_search_X6 lX6_search_19 dX6_search_238 rfl rfl rfl (by decide) rfl ?_
                  refine g_iload_n 242 C 0 dX6_search_241 rfl rfl ?_
                  refine g_iconst 243 C dX6_search_242 rfl ?_
                  refine g_iastore (ws' := [(_, .inr (6, [_, _, _, _, _, _, _, _, _, _, _, _, _, _, _, _, _, _, _, _, _, _, _])), (_, aI _ _ _), (_, aI _ _ _), (_, aI _ _ _), (_, aI _ _ _), (_, aI _ _ _), (_, aZ _ _ _)]) 244 C 4 dX6_search_243 rfl rfl (by omega) rfl ?_
                  refine g_aload_n 245 C 2 dX6_search_244 rfl rfl ?_
                  refine g_get 248 C 0 13 6 iX6_search_X6 lX6_search_22 dX6_search_245 rfl rfl rfl (by decide) rfl ?_
                  refine g_iload_n 249 C 0 dX6_search_248 rfl rfl ?_
                  refine g_iconst 250 C dX6_search_249 rfl ?_
                  refine g_iastore (ws' := [(_, .inr (6, [_, _, _, _, _, _, _, _, _, _, _, _, _, _, _, _, _, _, _, _, _, _, _])), (_, aI _ _ _), (_, aI _ _ _), (_, aI _ _ _), (_, aI _ _ _), (_, aI _ _ _), (_, aZ _ _ _)]) 251 C 5 dX6_search_250 rfl rfl (by omega) rfl ?_
                  refine g_goto 47 C dX6_search_251 (by decide) ?_
                  exact g_w [0, 1, 2] rfl rfl (ih47 ((m + 1), (uI (uI qa1 k a) (k + 1) 0), (uI (uI qf1 k ((q1 k + 1) % 4)) (k + 1) (-1)), (uI us1 (uI qa1 k a k) 1), (uI (uI q1 k (a * 4 + (q1 k + 1) % 4)) (k + 1) (-1)), (uI u1 a 1), (tc1 + 1), fd1, (k + 1)) (by
            try dsimp only
            exact ⟨(show stp _ _ _ _ (itS (FT W h hs pc tn) n (W * h) (if mo = 1 then 1 else 0) m (0, (fun _ => -1), (fun _ => 0), 0, 0)) = _ by rw [hI1]; exact st_down (by omega) hsk (by omega) (by omega) h189 (by omega)), ms_dn (by omega) (by omega) hms, by omega, by omega⟩) (by (try dsimp only); omega))
                · intro h199
                  refine g_aload_n 203 C 2 dX6_search_202 rfl rfl ?_
                  refine g_dup 204 C dX6_search_203 rfl rfl ?_
                  refine g_get 207 C 0 11 6 iX6_search_X6 lX6_search_180 dX6_search_204 rfl rfl rfl (by decide) rfl ?_
                  refine g_iconst 208 C dX6_search_207 rfl ?_
                  refine g_iadd 209 C dX6_search_208 rfl ?_
                  refine g_put (ws' := [(_, .inr (6, [_, _, _, _, _, _, _, _, _, _, _, _, _, _, _, _, _, _, _, _, _, _, _])), (_, aI _ _ _), (_, aI _ _ _), (_, aI _ _ _), (_, aI _ _ _), (_, aI _ _ _), (_, aZ _ _ _)]) 212 C 0 11 6 tyX6 tyX6_ok nmX6 iX6_search_X6 lX6_search_180 dX6_search_209 rfl rfl rfl (by decide) rfl rfl rfl (Nat.le_of_ble_eq_true rfl) rfl ?_
                  refine g_aload_n 213 C 2 dX6_search_212 rfl rfl ?_
                  refine g_get 216 C 0 11 6 iX6_search_X6 lX6_search_180 dX6_search_213 rfl rfl rfl (by decide) rfl ?_
                  refine g_iload_n 217 C 1 dX6_search_216 rfl rfl ?_
                  refine g_icmp_ne 47 220 C dX6_search_217 (by decide) rfl (by omega) ?_ ?_
                  · intro h217
                    exact g_w [0, 1, 2] rfl rfl (ih47 ((m + 1), (uI qa1 k a), (uI qf1 k ((q1 k + 1) % 4)), us1, (uI q1 k (a * 4 + (q1 k + 1) % 4)), u1, (tc1 + 1), (fd1 + 1), k) (by
            try dsimp only
            exact ⟨(show stp _ _ _ _ (itS (FT W h hs pc tn) n (W * h) (if mo = 1 then 1 else 0) m (0, (fun _ => -1), (fun _ => 0), 0, 0)) = _ by rw [hI1]; exact st_last (by omega) hsk (by omega) (by omega) h189 (by omega) (by
              intro z
              have z1 := z.1
              have z2 := z.2
              by_cases y : mo = 1
              · omega
              · rw [if_neg y] at z1; omega)), ms_st (by omega) (by omega) hms, by omega, by omega⟩) (by (try dsimp only); omega))
                  · intro h217
                    refine g_iconst 221 C dX6_search_220 rfl ?_
                    have e9 := fin_e (FT W h hs pc tn) n (W * h) (if mo = 1 then 1 else 0) hfin hneg (m := m + 1) ((congrArg (stp (FT W h hs pc tn) n (W * h) (if mo = 1 then 1 else 0)) hI1).trans (st_last1 (by omega) hsk (by omega) (by omega) h189 (by omega) ⟨if_pos (by omega), by omega⟩)) (show (-3 : Int) < 0 by omega)
                    subst e9
                    exact g_zret C hr dX6_search_221 (by first | rfl | decide | (split <;> rfl)) ⟨_, _, _, ⟨rfl, fun _ j hj => ⟨(ms_q (by omega) (by omega) hms j (by omega)).1, (ms_q (by omega) (by omega) hms j (by omega)).2.1⟩⟩, rfl⟩
            · intro h169
              refine g_iconst 173 C dX6_search_172 rfl ?_
              have e9 := fin_e (FT W h hs pc tn) n (W * h) (if mo = 1 then 1 else 0) hfin hneg (m := m + 1) ((congrArg (stp (FT W h hs pc tn) n (W * h) (if mo = 1 then 1 else 0)) hI1).trans (st_spent (by omega) hsk (by omega) (by omega))) (show (-2 : Int) < 0 by omega)
              subst e9
              exact g_zret C hr dX6_search_173 (by first | rfl | decide | (split <;> rfl)) ⟨_, _, _, ⟨rfl, fun z => absurd z (by show ¬ ((-2 : Int) = -3); omega)⟩, rfl⟩
          · intro h138
            refine g_iinc (lv' := [(2, _), (1, _), (0, _)]) 144 C 0 dX6_search_141 rfl rfl (by decide) rfl ?_
            refine g_iload_n 145 C 0 dX6_search_144 rfl rfl ?_
            refine g_if_lt 47 148 C dX6_search_145 (by decide) rfl (by omega) ?_ ?_
            · intro h145
              exact g_w [0, 1, 2] rfl rfl (ih47 ((m + 1), (uI qa1 k a), (uI qf1 k ((q1 k + 1) % 4)), us1, (uI q1 k (a * 4 + (q1 k + 1) % 4)), u1, tc1, fd1, (k + -1)) (by
            try dsimp only
            exact ⟨(show stp _ _ _ _ (itS (FT W h hs pc tn) n (W * h) (if mo = 1 then 1 else 0) m (0, (fun _ => -1), (fun _ => 0), 0, 0)) = _ by rw [hI1]; exact (st_back0 (by omega) hsk (by omega)).trans (by rw [show k + -1 = -1 by omega])), ms_b0 (by omega) hms, by omega, by omega⟩) (by (try dsimp only); omega))
            · intro h145
              have ea2 : uI qa1 k a (k + -1) = qa1 (k + -1) := uI_ne (by omega)
              have hQ2 := hms.1 (k + -1) (by omega)
              refine g_aload_n 149 C 2 dX6_search_148 rfl rfl ?_
              refine g_get 152 C 0 14 6 iX6_search_X6 lX6_search_25 dX6_search_149 rfl rfl rfl (by decide) rfl ?_
              refine g_aload_n 153 C 2 dX6_search_152 rfl rfl ?_
              refine g_get 156 C 0 12 6 iX6_search_X6 lX6_search_19 dX6_search_153 rfl rfl rfl (by decide) rfl ?_
              refine g_iload_n 157 C 0 dX6_search_156 rfl rfl ?_
              refine g_iaload 158 C 4 dX6_search_157 rfl rfl (by omega) ?_
              refine g_iconst 159 C dX6_search_158 rfl ?_
              refine g_bastore (ws' := [(_, .inr (6, [_, _, _, _, _, _, _, _, _, _, _, _, _, _, _, _, _, _, _, _, _, _, _])), (_, aI _ _ _), (_, aI _ _ _), (_, aI _ _ _), (_, aI _ _ _), (_, aI _ _ _), (_, aZ _ _ _)]) 160 C 6 dX6_search_159 rfl rfl (by omega) (by decide) rfl ?_
              refine g_goto 47 C dX6_search_160 (by decide) ?_
              exact g_w [0, 1, 2] rfl rfl (ih47 ((m + 1), (uI qa1 k a), (uI qf1 k ((q1 k + 1) % 4)), (uI us1 (uI qa1 k a (k + -1)) 0), (uI q1 k (a * 4 + (q1 k + 1) % 4)), (uI u1 (q1 (k - 1) / 4) 0), tc1, fd1, (k + -1)) (by
            try dsimp only
            exact ⟨(show stp _ _ _ _ (itS (FT W h hs pc tn) n (W * h) (if mo = 1 then 1 else 0) m (0, (fun _ => -1), (fun _ => 0), 0, 0)) = _ by rw [hI1]; exact (st_back (by omega) hsk (by omega)).trans (by rw [show k + -1 = k - 1 by omega])), ms_bk (by omega) (by omega) hms, by omega, by omega⟩) (by (try dsimp only); omega))
        · intro h98
          refine g_aload_n 102 C 2 dX6_search_101 rfl rfl ?_
          refine g_get 105 C 0 14 6 iX6_search_X6 lX6_search_25 dX6_search_102 rfl rfl rfl (by decide) rfl ?_
          refine g_aload_n 106 C 2 dX6_search_105 rfl rfl ?_
          refine g_get 109 C 0 12 6 iX6_search_X6 lX6_search_19 dX6_search_106 rfl rfl rfl (by decide) rfl ?_
          refine g_iload_n 110 C 0 dX6_search_109 rfl rfl ?_
          refine g_iaload 111 C 4 dX6_search_110 rfl rfl (by omega) ?_
          have hua := hms.2 a (by omega)
          have eu : us1 (uI qa1 k a k) = us1 a := by rw [uI_eq]
          refine g_baload 112 C 6 dX6_search_111 rfl rfl (by omega) ?_
          refine g_if_eq 128 115 C dX6_search_112 (by decide) rfl (by omega) ?_ ?_
          · intro h112
            have hsk : skp u1 n ((q1 k + 1) / 4) = a := skp_u (by omega) (by omega) ha1.1 ha1.2 (fun j h1 h2 => by have y := ha2 j h1 h2; have z := hms.2 j (by omega); omega) (by first | exact Or.inl (by omega) | exact Or.inr (by have z := hms.2 a (by omega); omega))
            have ea : uI qa1 k a k = a := uI_eq _ _ _
            refine g_aload_n 129 C 2 dX6_search_128 rfl rfl ?_
            refine g_get 132 C 0 12 6 iX6_search_X6 lX6_search_19 dX6_search_129 rfl rfl rfl (by decide) rfl ?_
            refine g_iload_n 133 C 0 dX6_search_132 rfl rfl ?_
            refine g_iaload 134 C 4 dX6_search_133 rfl rfl (by omega) ?_
            refine g_aload_n 135 C 2 dX6_search_134 rfl rfl ?_
            refine g_get 138 C 0 7 6 iX6_search_X6 lX6_search_83 dX6_search_135 rfl rfl rfl (by decide) rfl ?_
            refine g_icmp_lt 163 141 C dX6_search_138 (by decide) rfl (by omega) ?_ ?_
            · intro h138
              refine g_aload_n 164 C 2 dX6_search_163 rfl rfl ?_
              refine g_get 167 C 0 10 6 iX6_search_X6 lX6_search_177 dX6_search_164 rfl rfl rfl (by decide) rfl ?_
              refine g_ldc 169 C (60000) dX6_search_167 rfl lX6_search_183 (by decide) ?_
              refine g_icmp_ne 174 172 C dX6_search_169 (by decide) rfl (by omega) ?_ ?_
              · intro h169
                refine g_aload_n 175 C 2 dX6_search_174 rfl rfl ?_
                refine g_dup 176 C dX6_search_175 rfl rfl ?_
                refine g_get 179 C 0 10 6 iX6_search_X6 lX6_search_177 dX6_search_176 rfl rfl rfl (by decide) rfl ?_
                refine g_iconst 180 C dX6_search_179 rfl ?_
                refine g_iadd 181 C dX6_search_180 rfl ?_
                refine g_put (ws' := [(_, .inr (6, [_, _, _, _, _, _, _, _, _, _, _, _, _, _, _, _, _, _, _, _, _, _, _])), (_, aI _ _ _), (_, aI _ _ _), (_, aI _ _ _), (_, aI _ _ _), (_, aI _ _ _), (_, aZ _ _ _)]) 184 C 0 10 6 tyX6 tyX6_ok nmX6 iX6_search_X6 lX6_search_177 dX6_search_181 rfl rfl rfl (by decide) rfl rfl rfl (Nat.le_of_ble_eq_true rfl) rfl ?_
                refine g_aload_n 185 C 2 dX6_search_184 rfl rfl ?_
                refine g_iload_n 186 C 0 dX6_search_185 rfl rfl ?_
                refine g_callVF 189 C [0, 1, 2, 3, 4, 5] dX6_search_186 rfl (k_X6_fits E l  (by first | assumption | omega) (by first | assumption | omega) (by first | assumption | omega) (by first | assumption | omega) (by omega) (ms_q (by omega) (by omega) hms)) (cwV 1 C.2.2.2.2.1 gX6_search_X6_fits rfl rfl rfl cdX6_fits ⟨Nat.le_of_ble_eq_true rfl, Nat.le_of_ble_eq_true rfl⟩) rfl rfl rfl rfl (Nat.le_of_ble_eq_true rfl) 0 6 rfl rfl rfl ⟨Nat.le_of_ble_eq_true rfl, Nat.le_of_ble_eq_true rfl⟩ ?_
                refine g_ifb_eq 47 192 C dX6_search_189 (by decide) rfl ?_ ?_
                · intro h189
                  exact g_w [0, 1, 2] rfl rfl (ih47 ((m + 1), (uI qa1 k a), (uI qf1 k ((q1 k + 1) % 4)), us1, (uI q1 k (a * 4 + (q1 k + 1) % 4)), u1, (tc1 + 1), fd1, k) (by
            try dsimp only
            exact ⟨(show stp _ _ _ _ (itS (FT W h hs pc tn) n (W * h) (if mo = 1 then 1 else 0) m (0, (fun _ => -1), (fun _ => 0), 0, 0)) = _ by rw [hI1]; exact st_not (by omega) hsk (by omega) (by omega) h189), ms_st (by omega) (by omega) hms, by omega, by omega⟩) (by (try dsimp only); omega))
                · intro h189
                  refine g_iload_n 193 C 0 dX6_search_192 rfl rfl ?_
                  refine g_aload_n 194 C 2 dX6_search_193 rfl rfl ?_
                  refine g_callVF 197 C [0] dX6_search_194 rfl (k_X6_pieces E l  ) (cwV 0 C.2.2.2.2.1 gX6_search_X6_pieces rfl rfl rfl cdX6_pieces ⟨Nat.le_of_ble_eq_true rfl, Nat.le_of_ble_eq_true rfl⟩) rfl rfl rfl rfl (Nat.le_of_ble_eq_true rfl) 0 6 rfl rfl rfl ⟨Nat.le_of_ble_eq_true rfl, Nat.le_of_ble_eq_true rfl⟩ ?_
                  refine g_iconst 198 C dX6_search_197 rfl ?_
                  refine g_isub 199 C dX6_search_198 rfl ?_
                  refine g_icmp_ne 222 202 C dX6_search_199 (by decide) rfl (by omega) ?_ ?_
                  · intro h199
                    refine g_aload_n 223 C 2 dX6_search_222 rfl rfl ?_
                    refine g_get 226 C 0 14 6 iX6_search_X6 lX6_search_25 dX6_search_223 rfl rfl rfl (by decide) rfl ?_
                    refine g_aload_n 227 C 2 dX6_search_226 rfl rfl ?_
                    refine g_get 230 C 0 12 6 iX6_search_X6 lX6_search_19 dX6_search_227 rfl rfl rfl (by decide) rfl ?_
                    refine g_iload_n 231 C 0 dX6_search_230 rfl rfl ?_
                    refine g_iaload 232 C 4 dX6_search_231 rfl rfl (by omega) ?_
                    refine g_iconst 233 C dX6_search_232 rfl ?_
                    refine g_bastore (ws' := [(_, .inr (6, [_, _, _, _, _, _, _, _, _, _, _, _, _, _, _, _, _, _, _, _, _, _, _])), (_, aI _ _ _), (_, aI _ _ _), (_, aI _ _ _), (_, aI _ _ _), (_, aI _ _ _), (_, aZ _ _ _)]) 234 C 6 dX6_search_233 rfl rfl (by omega) (by decide) rfl ?_
                    refine g_iinc (lv' := [(2, _), (1, _), (0, _)]) 237 C 0 dX6_search_234 rfl rfl (by decide) rfl ?_
                    refine g_aload_n 238 C 2 dX6_search_237 rfl rfl ?_
                    refine g_get 241 C 0 12 6 iX6_search_X6 lX6_search_19 dX6_search_238 rfl rfl rfl (by decide) rfl ?_
                    refine g_iload_n 242 C 0 dX6_search_241 rfl rfl ?_
                    refine g_iconst 243 C dX6_search_242 rfl ?_
                    refine g_iastore (ws' := [(_, .inr (6, [_, _, _, _, _, _, _, _, _, _, _, _, _, _, _, _, _, _, _, _, _, _, _])), (_, aI _ _ _), (_, aI _ _ _), (_, aI _ _ _), (_, aI _ _ _), (_, aI _ _ _), (_, aZ _ _ _)]) 244 C 4 dX6_search_243 rfl rfl (by omega) rfl ?_
                    refine g_aload_n 245 C 2 dX6_search_244 rfl rfl ?_
                    refine g_get 248 C 0 13 6 iX6_search_X6 lX6_search_22 dX6_search_245 rfl rfl rfl (by decide) rfl ?_
                    refine g_iload_n 249 C 0 dX6_search_248 rfl rfl ?_
                    refine g_iconst 250 C dX6_search_249 rfl ?_
                    refine g_iastore (ws' := [(_, .inr (6, [_, _, _, _, _, _, _, _, _, _, _, _, _, _, _, _, _, _, _, _, _, _, _])), (_, aI _ _ _), (_, aI _ _ _), (_, aI _ _ _), (_, aI _ _ _), (_, aI _ _ _), (_, aZ _ _ _)]) 251 C 5 dX6_search_250 rfl rfl (by omega) rfl ?_
                    refine g_goto 47 C dX6_search_251 (by decide) ?_
                    exact g_w [0, 1, 2] rfl rfl (ih47 ((m + 1), (uI (uI qa1 k a) (k + 1) 0), (uI (uI qf1 k ((q1 k + 1) % 4)) (k + 1) (-1)), (uI us1 (uI qa1 k a k) 1), (uI (uI q1 k (a * 4 + (q1 k + 1) % 4)) (k + 1) (-1)), (uI u1 a 1), (tc1 + 1), fd1, (k + 1)) (by
            try dsimp only
            exact ⟨(show stp _ _ _ _ (itS (FT W h hs pc tn) n (W * h) (if mo = 1 then 1 else 0) m (0, (fun _ => -1), (fun _ => 0), 0, 0)) = _ by rw [hI1]; exact st_down (by omega) hsk (by omega) (by omega) h189 (by omega)), ms_dn (by omega) (by omega) hms, by omega, by omega⟩) (by (try dsimp only); omega))
                  · intro h199
                    refine g_aload_n 203 C 2 dX6_search_202 rfl rfl ?_
                    refine g_dup 204 C dX6_search_203 rfl rfl ?_
                    refine g_get 207 C 0 11 6 iX6_search_X6 lX6_search_180 dX6_search_204 rfl rfl rfl (by decide) rfl ?_
                    refine g_iconst 208 C dX6_search_207 rfl ?_
                    refine g_iadd 209 C dX6_search_208 rfl ?_
                    refine g_put (ws' := [(_, .inr (6, [_, _, _, _, _, _, _, _, _, _, _, _, _, _, _, _, _, _, _, _, _, _, _])), (_, aI _ _ _), (_, aI _ _ _), (_, aI _ _ _), (_, aI _ _ _), (_, aI _ _ _), (_, aZ _ _ _)]) 212 C 0 11 6 tyX6 tyX6_ok nmX6 iX6_search_X6 lX6_search_180 dX6_search_209 rfl rfl rfl (by decide) rfl rfl rfl (Nat.le_of_ble_eq_true rfl) rfl ?_
                    refine g_aload_n 213 C 2 dX6_search_212 rfl rfl ?_
                    refine g_get 216 C 0 11 6 iX6_search_X6 lX6_search_180 dX6_search_213 rfl rfl rfl (by decide) rfl ?_
                    refine g_iload_n 217 C 1 dX6_search_216 rfl rfl ?_
                    refine g_icmp_ne 47 220 C dX6_search_217 (by decide) rfl (by omega) ?_ ?_
                    · intro h217
                      exact g_w [0, 1, 2] rfl rfl (ih47 ((m + 1), (uI qa1 k a), (uI qf1 k ((q1 k + 1) % 4)), us1, (uI q1 k (a * 4 + (q1 k + 1) % 4)), u1, (tc1 + 1), (fd1 + 1), k) (by
            try dsimp only
            exact ⟨(show stp _ _ _ _ (itS (FT W h hs pc tn) n (W * h) (if mo = 1 then 1 else 0) m (0, (fun _ => -1), (fun _ => 0), 0, 0)) = _ by rw [hI1]; exact st_last (by omega) hsk (by omega) (by omega) h189 (by omega) (by
              intro z
              have z1 := z.1
              have z2 := z.2
              by_cases y : mo = 1
              · omega
              · rw [if_neg y] at z1; omega)), ms_st (by omega) (by omega) hms, by omega, by omega⟩) (by (try dsimp only); omega))
                    · intro h217
                      refine g_iconst 221 C dX6_search_220 rfl ?_
                      have e9 := fin_e (FT W h hs pc tn) n (W * h) (if mo = 1 then 1 else 0) hfin hneg (m := m + 1) ((congrArg (stp (FT W h hs pc tn) n (W * h) (if mo = 1 then 1 else 0)) hI1).trans (st_last1 (by omega) hsk (by omega) (by omega) h189 (by omega) ⟨if_pos (by omega), by omega⟩)) (show (-3 : Int) < 0 by omega)
                      subst e9
                      exact g_zret C hr dX6_search_221 (by first | rfl | decide | (split <;> rfl)) ⟨_, _, _, ⟨rfl, fun _ j hj => ⟨(ms_q (by omega) (by omega) hms j (by omega)).1, (ms_q (by omega) (by omega) hms j (by omega)).2.1⟩⟩, rfl⟩
              · intro h169
                refine g_iconst 173 C dX6_search_172 rfl ?_
                have e9 := fin_e (FT W h hs pc tn) n (W * h) (if mo = 1 then 1 else 0) hfin hneg (m := m + 1) ((congrArg (stp (FT W h hs pc tn) n (W * h) (if mo = 1 then 1 else 0)) hI1).trans (st_spent (by omega) hsk (by omega) (by omega))) (show (-2 : Int) < 0 by omega)
                subst e9
                exact g_zret C hr dX6_search_173 (by first | rfl | decide | (split <;> rfl)) ⟨_, _, _, ⟨rfl, fun z => absurd z (by show ¬ ((-2 : Int) = -3); omega)⟩, rfl⟩
            · intro h138
              refine g_iinc (lv' := [(2, _), (1, _), (0, _)]) 144 C 0 dX6_search_141 rfl rfl (by decide) rfl ?_
              refine g_iload_n 145 C 0 dX6_search_144 rfl rfl ?_
              refine g_if_lt 47 148 C dX6_search_145 (by decide) rfl (by omega) ?_ ?_
              · intro h145
                exact g_w [0, 1, 2] rfl rfl (ih47 ((m + 1), (uI qa1 k a), (uI qf1 k ((q1 k + 1) % 4)), us1, (uI q1 k (a * 4 + (q1 k + 1) % 4)), u1, tc1, fd1, (k + -1)) (by
            try dsimp only
            exact ⟨(show stp _ _ _ _ (itS (FT W h hs pc tn) n (W * h) (if mo = 1 then 1 else 0) m (0, (fun _ => -1), (fun _ => 0), 0, 0)) = _ by rw [hI1]; exact (st_back0 (by omega) hsk (by omega)).trans (by rw [show k + -1 = -1 by omega])), ms_b0 (by omega) hms, by omega, by omega⟩) (by (try dsimp only); omega))
              · intro h145
                have ea2 : uI qa1 k a (k + -1) = qa1 (k + -1) := uI_ne (by omega)
                have hQ2 := hms.1 (k + -1) (by omega)
                refine g_aload_n 149 C 2 dX6_search_148 rfl rfl ?_
                refine g_get 152 C 0 14 6 iX6_search_X6 lX6_search_25 dX6_search_149 rfl rfl rfl (by decide) rfl ?_
                refine g_aload_n 153 C 2 dX6_search_152 rfl rfl ?_
                refine g_get 156 C 0 12 6 iX6_search_X6 lX6_search_19 dX6_search_153 rfl rfl rfl (by decide) rfl ?_
                refine g_iload_n 157 C 0 dX6_search_156 rfl rfl ?_
                refine g_iaload 158 C 4 dX6_search_157 rfl rfl (by omega) ?_
                refine g_iconst 159 C dX6_search_158 rfl ?_
                refine g_bastore (ws' := [(_, .inr (6, [_, _, _, _, _, _, _, _, _, _, _, _, _, _, _, _, _, _, _, _, _, _, _])), (_, aI _ _ _), (_, aI _ _ _), (_, aI _ _ _), (_, aI _ _ _), (_, aI _ _ _), (_, aZ _ _ _)]) 160 C 6 dX6_search_159 rfl rfl (by omega) (by decide) rfl ?_
                refine g_goto 47 C dX6_search_160 (by decide) ?_
                exact g_w [0, 1, 2] rfl rfl (ih47 ((m + 1), (uI qa1 k a), (uI qf1 k ((q1 k + 1) % 4)), (uI us1 (uI qa1 k a (k + -1)) 0), (uI q1 k (a * 4 + (q1 k + 1) % 4)), (uI u1 (q1 (k - 1) / 4) 0), tc1, fd1, (k + -1)) (by
            try dsimp only
            exact ⟨(show stp _ _ _ _ (itS (FT W h hs pc tn) n (W * h) (if mo = 1 then 1 else 0) m (0, (fun _ => -1), (fun _ => 0), 0, 0)) = _ by rw [hI1]; exact (st_back (by omega) hsk (by omega)).trans (by rw [show k + -1 = k - 1 by omega])), ms_bk (by omega) (by omega) hms, by omega, by omega⟩) (by (try dsimp only); omega))
          · intro h112
            refine g_aload_n 116 C 2 dX6_search_115 rfl rfl ?_
            refine g_get 119 C 0 12 6 iX6_search_X6 lX6_search_19 dX6_search_116 rfl rfl rfl (by decide) rfl ?_
            refine g_iload_n 120 C 0 dX6_search_119 rfl rfl ?_
            refine g_dup2 121 C dX6_search_120 rfl rfl rfl ?_
            refine g_iaload 122 C 4 dX6_search_121 rfl rfl (by omega) ?_
            refine g_iconst 123 C dX6_search_122 rfl ?_
            refine g_iadd 124 C dX6_search_123 rfl ?_
            refine g_iastore (ws' := [(_, .inr (6, [_, _, _, _, _, _, _, _, _, _, _, _, _, _, _, _, _, _, _, _, _, _, _])), (_, aI _ _ _), (_, aI _ _ _), (_, aI _ _ _), (_, aI _ _ _), (_, aI _ _ _), (_, aZ _ _ _)]) 125 C 4 dX6_search_124 rfl rfl (by omega) rfl ?_
            refine g_goto 88 C dX6_search_125 (by decide) ?_
            exact g_w [0, 1, 2] (by (try dsimp only); rw [uI_2, uI_eq]) rfl (ih88 ((a + 1)) (by
            try dsimp only
            exact ⟨by omega, fun j h1 h2 => by
              by_cases z : j = a
              · rw [z]; exact ⟨by omega, by omega⟩
              · exact ha2 j h1 (by omega)⟩) (by (try dsimp only); omega))
  · intro h15
    refine g_aload_n 19 C 2 dX6_search_18 rfl rfl ?_
    refine g_get 22 C 0 14 6 iX6_search_X6 lX6_search_25 dX6_search_19 rfl rfl rfl (by decide) rfl ?_
    refine g_iload_n 23 C 0 dX6_search_22 rfl rfl ?_
    refine g_iconst 24 C dX6_search_23 rfl ?_
    refine g_bastore (ws' := [(_, .inr (6, [_, _, _, _, _, _, _, _, _, _, _, _, _, _, _, _, _, _, _, _, _, _, _])), (_, aI _ _ _), (_, aI _ _ _), (_, aI _ _ _), (_, aI _ _ _), (_, aI _ _ _), (_, aZ _ _ _)]) 25 C 6 dX6_search_24 rfl rfl (by omega) (by decide) rfl ?_
    refine g_iinc (lv' := [(2, _), (1, _), (0, _)]) 28 C 0 dX6_search_25 rfl rfl (by decide) rfl ?_
    refine g_goto 12 C dX6_search_28 (by decide) ?_
    exact g_w [0, 1, 2] (by (try dsimp only); rw [← zrI_s us hi0]) rfl (ih12 ((i + 1)) (by (try dsimp only); omega) (by (try dsimp only); omega))
