theorem gt_sk {W h a b R : Int} {hs : Int → Int} {D D' : Int → Int → Prop} (hh : hB9 hs) (hM : lfP W h hs D R) (hz : saI W h hs a b = -9) (hd : ∀ x y, D' x y ↔ D x y ∨ (x = b ∧ y = a)) : lfP W h hs D' R := by
  have q := lfP_s hh hM hd
  rw [saI_c b a, if_neg (by omega)] at q
  exact q
theorem gt_v {W h a b r v : Int} {hs : Int → Int} {D D' : Int → Int → Prop} (hh : hB9 hs) (hM : lfP W h hs D (if r < 0 then -9 else r)) (hv : saI W h hs a b = v) (h0 : 0 ≤ v) (hr : r < 0 ∨ v < r) (hd : ∀ x y, D' x y ↔ D x y ∨ (x = b ∧ y = a)) : lfP W h hs D' (if v < 0 then -9 else v) := by
  have q := lfP_s hh hM hd
  rw [saI_c b a, hv, if_pos (by refine ⟨by omega, ?_⟩; split <;> omega)] at q
  rw [if_neg (by omega)]
  exact q
theorem gt_r {W h a b r v : Int} {hs : Int → Int} {D D' : Int → Int → Prop} (hh : hB9 hs) (hM : lfP W h hs D (if r < 0 then -9 else r)) (hv : saI W h hs a b = v) (h0 : 0 ≤ v) (hr : 0 ≤ r ∧ r ≤ v) (hd : ∀ x y, D' x y ↔ D x y ∨ (x = b ∧ y = a)) : lfP W h hs D' (if r < 0 then -9 else r) := by
  have q := lfP_s hh hM hd
  rw [saI_c b a, hv, if_neg (by rw [if_neg (show ¬ r < 0 by omega)]; omega)] at q
  exact q
theorem lX6_goThrough_145 : Cond.fieldLink RX6 145 (TX6 5).1 (TX6 5).2.1 (TX6 5).2.2.1 ∈ wsX6_goThrough := by decide +kernel
theorem lX6_goThrough_148 : Cond.fieldLink RX6 148 (TX6 6).1 (TX6 6).2.1 (TX6 6).2.2.1 ∈ wsX6_goThrough := by decide +kernel
theorem iX6_goThrough_X6 : ∀ w ∈ u_ws RX6 TX6 23, w ∈ wsX6_goThrough := by decide +kernel
set_option maxHeartbeats 4000000 in
set_option maxRecDepth 100000 in
theorem k_X6_goThrough (E : gE) (l : Launch) {a_M a_Ma a_Mc a_Mg a_Mh a_Mi a_Ml a_Mp a_Ms a_Mt a_Mu a_Mx a_My : Nat} {d : Int} {hs : Int → Int} {mf W h mL mN n tc fd jo tr : Int} {md : Int64} (hB : 1 ≤ W ∧ W ≤ 5 ∧ 1 ≤ h ∧ h ≤ 5) (hh : hB9 hs) (hd : -2147483648 ≤ d ∧ d < 2147483648) : gMet E l yX6_goThrough wsX6_goThrough { frames := 4, cells := 0, slots := 0, locals := 95 } 0 0 [.ref a_M, .int (iI d)] [(a_M, .inr (6, [.int (iI mf), .int (iI W), .int (iI h), .ref a_Mh, .long md, .int (iI mL), .int (iI mN), .int (iI n), .ref a_Mp, .ref a_Mt, .int (iI tc), .int (iI fd), .ref a_Ma, .ref a_Mu, .ref a_Mi, .int (iI jo), .ref a_Mx, .ref a_My, .ref a_Ms, .ref a_Ml, .ref a_Mc, .ref a_Mg, .int (iI tr)])), (a_Mh, aI E 200 hs)] (fun v w => ∃ r c : Int, (v = none ∧ lfP W h hs (fun x y => 0 ≤ x ∧ x < y ∧ y < W * h * 4) (if r < 0 then -9 else r) ∧ (r = -1 ∨ 0 ≤ r ∧ r ≤ 90) ∧ c = pwI W h hs d) ∧ w = [(a_M, .inr (6, [.int (iI mf), .int (iI W), .int (iI h), .ref a_Mh, .long md, .int (iI r), .int (iI c), .int (iI n), .ref a_Mp, .ref a_Mt, .int (iI tc), .int (iI fd), .ref a_Ma, .ref a_Mu, .ref a_Mi, .int (iI jo), .ref a_Mx, .ref a_My, .ref a_Ms, .ref a_Ml, .ref a_Mc, .ref a_Mg, .int (iI tr)])), (a_Mh, aI E 200 hs)]) := by
  refine g_start (cc := cX6_goThrough) (maxL := 7) (ret := none) (by decide) rfl (Nat.le_of_ble_eq_true rfl) ?_
  intro p_ e_ s_ m_ args_ below_ meth_ c_ A_ C hr hnm
  have hN := nsd_b hB
  refine g_aload_n 1 C 0 dX6_goThrough_0 rfl rfl ?_
  refine g_iconst 2 C dX6_goThrough_1 rfl ?_
  refine g_put (ws' := [(_, .inr (6, [_, _, _, _, _, _, _, _, _, _, _, _, _, _, _, _, _, _, _, _, _, _, _])), (_, aI _ _ _)]) 5 C 0 5 6 tyX6 tyX6_ok nmX6 iX6_goThrough_X6 lX6_goThrough_145 dX6_goThrough_2 rfl rfl rfl (by decide) rfl rfl rfl (Nat.le_of_ble_eq_true rfl) rfl ?_
  refine g_aload_n 6 C 0 dX6_goThrough_5 rfl rfl ?_
  refine g_iconst 7 C dX6_goThrough_6 rfl ?_
  refine g_put (ws' := [(_, .inr (6, [_, _, _, _, _, _, _, _, _, _, _, _, _, _, _, _, _, _, _, _, _, _, _])), (_, aI _ _ _)]) 10 C 0 6 6 tyX6 tyX6_ok nmX6 iX6_goThrough_X6 lX6_goThrough_148 dX6_goThrough_7 rfl rfl rfl (by decide) rfl rfl rfl (Nat.le_of_ble_eq_true rfl) rfl ?_
  refine g_iconst 11 C dX6_goThrough_10 rfl ?_
  refine g_istore_n (lv' := [(2, _), (0, _), (1, _)]) 12 C dX6_goThrough_11 rfl rfl (by decide) rfl ?_
  refine g_loop (α := Int × Int × Int) (fun zz => [(a_M, .inr (6, [.int (iI mf), .int (iI W), .int (iI h), .ref a_Mh, .long md, .int (iI zz.1), .int (iI zz.2.1), .int (iI n), .ref a_Mp, .ref a_Mt, .int (iI tc), .int (iI fd), .ref a_Ma, .ref a_Mu, .ref a_Mi, .int (iI jo), .ref a_Mx, .ref a_My, .ref a_Ms, .ref a_Ml, .ref a_Mc, .ref a_Mg, .int (iI tr)])), (a_Mh, aI E 200 hs)]) (fun zz => [(2, .int (iI zz.2.2)), (1, .int (iI d)), (0, .ref a_M)]) (fun zz => ((0 ≤ zz.2.2 ∧ zz.2.2 ≤ W * h * 4) ∧ (zz.1 = -1 ∨ 0 ≤ zz.1 ∧ zz.1 ≤ 90)) ∧ lfP W h hs (fun x y => 0 ≤ x ∧ x < y ∧ y < W * h * 4 ∧ y < zz.2.2) (if zz.1 < 0 then -9 else zz.1) ∧ zz.2.1 = suI (rwR W h hs d) zz.2.2) (fun zz => (W * h * 4 - zz.2.2).toNat) (-1, 0, 0) (by
            try dsimp only
            exact ⟨by omega, lfP_0 (fun x y q => by omega), rfl⟩) [0, 2, 1] rfl rfl ?_
  rintro ⟨r, c, a⟩ hI ih12
  try dsimp only at hI ih12 ⊢
  obtain ⟨ha, hL, rfl⟩ := hI
  refine g_iload_n 13 C 0 dX6_goThrough_12 rfl rfl ?_
  refine g_iconst 14 C dX6_goThrough_13 rfl ?_
  refine g_aload_n 15 C 2 dX6_goThrough_14 rfl rfl ?_
  refine g_callVF 18 C [0] dX6_goThrough_15 rfl (k_X6_pieces E l  ) (cwV 0 C.2.2.2.2.1 gX6_goThrough_X6_pieces rfl rfl rfl cdX6_pieces ⟨Nat.le_of_ble_eq_true rfl, Nat.le_of_ble_eq_true rfl⟩) rfl rfl rfl rfl (Nat.le_of_ble_eq_true rfl) 0 6 rfl rfl rfl ⟨Nat.le_of_ble_eq_true rfl, Nat.le_of_ble_eq_true rfl⟩ ?_
  refine g_imul 19 C dX6_goThrough_18 rfl ?_
  refine g_icmp_ge 158 22 C dX6_goThrough_19 (by decide) rfl (by omega) ?_ ?_
  · intro h19
    exact g_vret C hr dX6_goThrough_158 ⟨_, _, ⟨rfl, lfP_c (fun x y => by omega) hL, by omega, by rw [show a = W * h * 4 by omega]; exact pw_rw hB⟩, rfl⟩
  · intro h19
    refine g_iconst 23 C dX6_goThrough_22 rfl ?_
    refine g_istore_n (lv' := [(3, _), (2, _), (1, _), (0, _)]) 24 C dX6_goThrough_23 rfl rfl (by decide) rfl ?_
    refine g_loop (α := Int × Int × Int) (fun zz => [(a_M, .inr (6, [.int (iI mf), .int (iI W), .int (iI h), .ref a_Mh, .long md, .int (iI zz.1), .int (iI zz.2.1), .int (iI n), .ref a_Mp, .ref a_Mt, .int (iI tc), .int (iI fd), .ref a_Ma, .ref a_Mu, .ref a_Mi, .int (iI jo), .ref a_Mx, .ref a_My, .ref a_Ms, .ref a_Ml, .ref a_Mc, .ref a_Mg, .int (iI tr)])), (a_Mh, aI E 200 hs)]) (fun zz => [(3, .int (iI zz.2.2)), (2, .int (iI a)), (1, .int (iI d)), (0, .ref a_M)]) (fun zz => ((0 ≤ zz.2.2 ∧ zz.2.2 ≤ a) ∧ (zz.1 = -1 ∨ 0 ≤ zz.1 ∧ zz.1 ≤ 90)) ∧ lfP W h hs (fun x y => 0 ≤ x ∧ x < y ∧ y < W * h * 4 ∧ (y < a ∨ (y = a ∧ x < zz.2.2))) (if zz.1 < 0 then -9 else zz.1) ∧ zz.2.1 = suI (rwR W h hs d) a + cnI (rwP W h hs d a) zz.2.2) (fun zz => (a - zz.2.2).toNat) (r, (suI (rwR W h hs d) a), 0) (by
            try dsimp only
            exact ⟨by omega, lfP_c (fun x y => by omega) hL, by rw [cnI_0, Int.add_zero]⟩) [0, 1, 2, 3] rfl rfl ?_
    rintro ⟨r, c, b⟩ hI ih24
    try dsimp only at hI ih24 ⊢
    obtain ⟨hb, hM, rfl⟩ := hI
    refine g_iload_n 25 C 0 dX6_goThrough_24 rfl rfl ?_
    refine g_iload_n 26 C 1 dX6_goThrough_25 rfl rfl ?_
    refine g_icmp_ge 152 29 C dX6_goThrough_26 (by decide) rfl (by omega) ?_ ?_
    · intro h26
      refine g_iinc (lv' := [(2, _), (3, _), (1, _), (0, _)]) 155 C 1 dX6_goThrough_152 rfl rfl (by decide) rfl ?_
      refine g_goto 12 C dX6_goThrough_155 (by decide) ?_
      exact g_w [0, 2, 3] rfl rfl (ih12 (r, (suI (rwR W h hs d) a + cnI (rwP W h hs d a) b), (a + 1)) (by
            try dsimp only
            exact ⟨by omega, lfP_c (fun x y => by omega) hM, by rw [suI_s _ ha.1.1]; unfold rwR; rw [show b = a by omega]⟩) (by (try dsimp only); omega))
    · intro h26
      have ea := sdI_b (p := a / 4) (e := a % 4) hB (by omega) (by omega)
      have eb := sdI_b (p := b / 4) (e := b % 4) hB (by omega) (by omega)
      refine g_aload_n 30 C 3 dX6_goThrough_29 rfl rfl ?_
      refine g_iload_n 31 C 1 dX6_goThrough_30 rfl rfl ?_
      refine g_iconst 32 C dX6_goThrough_31 rfl ?_
      refine g_idiv 33 C dX6_goThrough_32 rfl (by omega) ?_
      refine g_iload_n 34 C 1 dX6_goThrough_33 rfl rfl ?_
      refine g_iconst 35 C dX6_goThrough_34 rfl ?_
      refine g_irem 36 C dX6_goThrough_35 rfl (by omega) ?_
      refine g_callVF 39 C [0] dX6_goThrough_36 rfl (k_X6_sideAt E l  (by first | assumption | omega) (by first | assumption | omega) (by first | assumption | omega)) (cwV 2 C.2.2.2.2.1 gX6_goThrough_X6_sideAt rfl rfl rfl cdX6_sideAt ⟨Nat.le_of_ble_eq_true rfl, Nat.le_of_ble_eq_true rfl⟩) rfl rfl rfl rfl (Nat.le_of_ble_eq_true rfl) 0 6 rfl rfl rfl ⟨Nat.le_of_ble_eq_true rfl, Nat.le_of_ble_eq_true rfl⟩ ?_
      refine g_istore (lv' := [(4, _), (3, _), (2, _), (1, _), (0, _)]) 41 C dX6_goThrough_39 rfl (by decide) rfl ?_
      refine g_aload_n 42 C 4 dX6_goThrough_41 rfl rfl ?_
      refine g_iload_n 43 C 1 dX6_goThrough_42 rfl rfl ?_
      refine g_iconst 44 C dX6_goThrough_43 rfl ?_
      refine g_idiv 45 C dX6_goThrough_44 rfl (by omega) ?_
      refine g_iload_n 46 C 1 dX6_goThrough_45 rfl rfl ?_
      refine g_iconst 47 C dX6_goThrough_46 rfl ?_
      refine g_irem 48 C dX6_goThrough_47 rfl (by omega) ?_
      refine g_callVF 51 C [0] dX6_goThrough_48 rfl (k_X6_sideAt E l  (by first | assumption | omega) (by first | assumption | omega) (by first | assumption | omega)) (cwV 2 C.2.2.2.2.1 gX6_goThrough_X6_sideAt rfl rfl rfl cdX6_sideAt ⟨Nat.le_of_ble_eq_true rfl, Nat.le_of_ble_eq_true rfl⟩) rfl rfl rfl rfl (Nat.le_of_ble_eq_true rfl) 0 6 rfl rfl rfl ⟨Nat.le_of_ble_eq_true rfl, Nat.le_of_ble_eq_true rfl⟩ ?_
      refine g_istore (lv' := [(5, _), (4, _), (3, _), (2, _), (1, _), (0, _)]) 53 C dX6_goThrough_51 rfl (by decide) rfl ?_
      refine g_iload_n 54 C 3 dX6_goThrough_53 rfl rfl ?_
      refine g_iconst 55 C dX6_goThrough_54 rfl ?_
      refine g_idiv 56 C dX6_goThrough_55 rfl (by omega) ?_
      refine g_iload_n 57 C 2 dX6_goThrough_56 rfl rfl ?_
      refine g_iconst 58 C dX6_goThrough_57 rfl ?_
      refine g_idiv 59 C dX6_goThrough_58 rfl (by omega) ?_
      refine g_icmp_eq 146 62 C dX6_goThrough_59 (by decide) rfl (by omega) ?_ ?_
      · intro h59
        have hsy := saI_c (W := W) (h := h) (hs := hs) b a
        have hz : saI W h hs a b = -9 := if_pos (by omega)
        refine g_iinc (lv' := [(3, _), (5, _), (4, _), (2, _), (1, _), (0, _)]) 149 C 2 dX6_goThrough_146 rfl rfl (by decide) rfl ?_
        refine g_goto 24 C dX6_goThrough_149 (by decide) ?_
        exact g_w [0, 3, 4, 5] rfl rfl (ih24 (r, (suI (rwR W h hs d) a + cnI (rwP W h hs d a) b), (b + 1)) (by
            try dsimp only
            exact ⟨⟨by omega, by omega⟩, gt_sk hh hM hz (fun x y => by omega), by rw [cnI_sf (rwP W h hs d a) hb.1.1 (fun q => q.1 (hsy.trans hz))]⟩) (by (try dsimp only); omega))
      · intro h59
        refine g_iload 64 C 1 dX6_goThrough_62 rfl rfl ?_
        refine g_if_lt 146 67 C dX6_goThrough_64 (by decide) rfl (by omega) ?_ ?_
        · intro h64
          have hsy := saI_c (W := W) (h := h) (hs := hs) b a
          have hz : saI W h hs a b = -9 := if_pos (by omega)
          refine g_iinc (lv' := [(3, _), (5, _), (4, _), (2, _), (1, _), (0, _)]) 149 C 2 dX6_goThrough_146 rfl rfl (by decide) rfl ?_
          refine g_goto 24 C dX6_goThrough_149 (by decide) ?_
          exact g_w [0, 3, 4, 5] rfl rfl (ih24 (r, (suI (rwR W h hs d) a + cnI (rwP W h hs d a) b), (b + 1)) (by
            try dsimp only
            exact ⟨⟨by omega, by omega⟩, gt_sk hh hM hz (fun x y => by omega), by rw [cnI_sf (rwP W h hs d a) hb.1.1 (fun q => q.1 (hsy.trans hz))]⟩) (by (try dsimp only); omega))
        · intro h64
          refine g_iload 69 C 0 dX6_goThrough_67 rfl rfl ?_
          refine g_if_lt 146 72 C dX6_goThrough_69 (by decide) rfl (by omega) ?_ ?_
          · intro h69
            have hsy := saI_c (W := W) (h := h) (hs := hs) b a
            have hz : saI W h hs a b = -9 := if_pos (by omega)
            refine g_iinc (lv' := [(3, _), (5, _), (4, _), (2, _), (1, _), (0, _)]) 149 C 2 dX6_goThrough_146 rfl rfl (by decide) rfl ?_
            refine g_goto 24 C dX6_goThrough_149 (by decide) ?_
            exact g_w [0, 3, 4, 5] rfl rfl (ih24 (r, (suI (rwR W h hs d) a + cnI (rwP W h hs d a) b), (b + 1)) (by
            try dsimp only
            exact ⟨⟨by omega, by omega⟩, gt_sk hh hM hz (fun x y => by omega), by rw [cnI_sf (rwP W h hs d a) hb.1.1 (fun q => q.1 (hsy.trans hz))]⟩) (by (try dsimp only); omega))
          · intro h69
            refine g_iload 74 C 1 dX6_goThrough_72 rfl rfl ?_
            refine g_iload 76 C 0 dX6_goThrough_74 rfl rfl ?_
            refine g_icmp_eq 146 79 C dX6_goThrough_76 (by decide) rfl (by omega) ?_ ?_
            · intro h76
              have hsy := saI_c (W := W) (h := h) (hs := hs) b a
              have hz : saI W h hs a b = -9 := if_pos (by omega)
              refine g_iinc (lv' := [(3, _), (5, _), (4, _), (2, _), (1, _), (0, _)]) 149 C 2 dX6_goThrough_146 rfl rfl (by decide) rfl ?_
              refine g_goto 24 C dX6_goThrough_149 (by decide) ?_
              exact g_w [0, 3, 4, 5] rfl rfl (ih24 (r, (suI (rwR W h hs d) a + cnI (rwP W h hs d a) b), (b + 1)) (by
            try dsimp only
            exact ⟨⟨by omega, by omega⟩, gt_sk hh hM hz (fun x y => by omega), by rw [cnI_sf (rwP W h hs d a) hb.1.1 (fun q => q.1 (hsy.trans hz))]⟩) (by (try dsimp only); omega))
            · intro h76
              refine g_aload_n 80 C 5 dX6_goThrough_79 rfl rfl ?_
              refine g_iload_n 81 C 3 dX6_goThrough_80 rfl rfl ?_
              refine g_iconst 82 C dX6_goThrough_81 rfl ?_
              refine g_idiv 83 C dX6_goThrough_82 rfl (by omega) ?_
              refine g_iload_n 84 C 3 dX6_goThrough_83 rfl rfl ?_
              refine g_iconst 85 C dX6_goThrough_84 rfl ?_
              refine g_irem 86 C dX6_goThrough_85 rfl (by omega) ?_
              refine g_iload_n 87 C 2 dX6_goThrough_86 rfl rfl ?_
              refine g_iconst 88 C dX6_goThrough_87 rfl ?_
              refine g_idiv 89 C dX6_goThrough_88 rfl (by omega) ?_
              refine g_iload_n 90 C 2 dX6_goThrough_89 rfl rfl ?_
              refine g_iconst 91 C dX6_goThrough_90 rfl ?_
              refine g_irem 92 C dX6_goThrough_91 rfl (by omega) ?_
              refine g_callVF 95 C [0, 1] dX6_goThrough_92 rfl (k_X6_farOf E l  (by first | assumption | omega) (by first | assumption | omega) (by first | assumption | omega) (by first | assumption | omega) (by first | assumption | omega) (by first | assumption | omega) (by first | assumption | omega) (by first | assumption | omega)) (cwV 4 C.2.2.2.2.1 gX6_goThrough_X6_farOf rfl rfl rfl cdX6_farOf ⟨Nat.le_of_ble_eq_true rfl, Nat.le_of_ble_eq_true rfl⟩) rfl rfl rfl rfl (Nat.le_of_ble_eq_true rfl) 0 6 rfl rfl rfl ⟨Nat.le_of_ble_eq_true rfl, Nat.le_of_ble_eq_true rfl⟩ ?_
              have hv : frI W h hs (a / 4) (a % 4) (b / 4) (b % 4) = saI W h hs a b := (if_neg (by omega)).symm
              have hv2 := frI_b (W := W) (h := h) hh (a / 4) (a % 4) (b / 4) (b % 4)
              refine g_istore (lv' := [(6, _), (5, _), (4, _), (3, _), (2, _), (1, _), (0, _)]) 97 C dX6_goThrough_95 rfl (by decide) rfl ?_
              refine g_aload_n 98 C 6 dX6_goThrough_97 rfl rfl ?_
              refine g_aload_n 99 C 6 dX6_goThrough_98 rfl rfl ?_
              refine g_get 102 C 0 5 6 iX6_goThrough_X6 lX6_goThrough_145 dX6_goThrough_99 rfl rfl rfl (by decide) rfl ?_
              refine g_if_lt 114 105 C dX6_goThrough_102 (by decide) rfl (by omega) ?_ ?_
              · intro h102
                refine g_iload 116 C 0 dX6_goThrough_114 rfl rfl ?_
                refine g_goto 123 C dX6_goThrough_116 (by decide) ?_
                refine g_put (ws' := [(_, .inr (6, [_, _, _, _, _, _, _, _, _, _, _, _, _, _, _, _, _, _, _, _, _, _, _])), (_, aI _ _ _)]) 126 C 0 5 6 tyX6 tyX6_ok nmX6 iX6_goThrough_X6 lX6_goThrough_145 dX6_goThrough_123 rfl rfl rfl (by decide) rfl rfl rfl (Nat.le_of_ble_eq_true rfl) rfl ?_
                refine g_aload_n 127 C 6 dX6_goThrough_126 rfl rfl ?_
                refine g_dup 128 C dX6_goThrough_127 rfl rfl ?_
                refine g_get 131 C 0 6 6 iX6_goThrough_X6 lX6_goThrough_148 dX6_goThrough_128 rfl rfl rfl (by decide) rfl ?_
                refine g_iload 133 C 0 dX6_goThrough_131 rfl rfl ?_
                refine g_iload_n 134 C 5 dX6_goThrough_133 rfl rfl ?_
                refine g_icmp_gt 141 137 C dX6_goThrough_134 (by decide) rfl (by omega) ?_ ?_
                · intro h134
                  refine g_iconst 142 C dX6_goThrough_141 rfl ?_
                  refine g_iadd 143 C dX6_goThrough_142 rfl ?_
                  refine g_put (ws' := [(_, .inr (6, [_, _, _, _, _, _, _, _, _, _, _, _, _, _, _, _, _, _, _, _, _, _, _])), (_, aI _ _ _)]) 146 C 0 6 6 tyX6 tyX6_ok nmX6 iX6_goThrough_X6 lX6_goThrough_148 dX6_goThrough_143 rfl rfl rfl (by decide) rfl rfl rfl (Nat.le_of_ble_eq_true rfl) rfl ?_
                  have hsy := saI_c (W := W) (h := h) (hs := hs) b a
                  refine g_iinc (lv' := [(3, _), (6, _), (5, _), (4, _), (2, _), (1, _), (0, _)]) 149 C 3 dX6_goThrough_146 rfl rfl (by decide) rfl ?_
                  refine g_goto 24 C dX6_goThrough_149 (by decide) ?_
                  exact g_w [0, 4, 5, 6] rfl rfl (ih24 ((frI W h hs (a / 4) (a % 4) (b / 4) (b % 4)), (suI (rwR W h hs d) a + cnI (rwP W h hs d a) b + 0), (b + 1)) (by
            try dsimp only
            exact ⟨⟨by omega, by omega⟩, gt_v hh hM hv.symm (by omega) (by omega) (fun x y => by omega), by rw [cnI_sf (rwP W h hs d a) hb.1.1 (fun q => by have q2 := q.2; omega), Int.add_zero]⟩) (by (try dsimp only); omega))
                · intro h134
                  refine g_iconst 138 C dX6_goThrough_137 rfl ?_
                  refine g_goto 142 C dX6_goThrough_138 (by decide) ?_
                  refine g_iadd 143 C dX6_goThrough_142 rfl ?_
                  refine g_put (ws' := [(_, .inr (6, [_, _, _, _, _, _, _, _, _, _, _, _, _, _, _, _, _, _, _, _, _, _, _])), (_, aI _ _ _)]) 146 C 0 6 6 tyX6 tyX6_ok nmX6 iX6_goThrough_X6 lX6_goThrough_148 dX6_goThrough_143 rfl rfl rfl (by decide) rfl rfl rfl (Nat.le_of_ble_eq_true rfl) rfl ?_
                  have hsy := saI_c (W := W) (h := h) (hs := hs) b a
                  refine g_iinc (lv' := [(3, _), (6, _), (5, _), (4, _), (2, _), (1, _), (0, _)]) 149 C 3 dX6_goThrough_146 rfl rfl (by decide) rfl ?_
                  refine g_goto 24 C dX6_goThrough_149 (by decide) ?_
                  exact g_w [0, 4, 5, 6] rfl rfl (ih24 ((frI W h hs (a / 4) (a % 4) (b / 4) (b % 4)), (suI (rwR W h hs d) a + cnI (rwP W h hs d a) b + 1), (b + 1)) (by
            try dsimp only
            exact ⟨⟨by omega, by omega⟩, gt_v hh hM hv.symm (by omega) (by omega) (fun x y => by omega), by rw [cnI_st (rwP W h hs d a) hb.1.1 (show rwP W h hs d a b from ⟨by rw [hsy]; omega, by rw [hsy]; omega⟩)]; omega⟩) (by (try dsimp only); omega))
              · intro h102
                refine g_iload 107 C 0 dX6_goThrough_105 rfl rfl ?_
                refine g_aload_n 108 C 6 dX6_goThrough_107 rfl rfl ?_
                refine g_get 111 C 0 5 6 iX6_goThrough_X6 lX6_goThrough_145 dX6_goThrough_108 rfl rfl rfl (by decide) rfl ?_
                refine g_icmp_ge 119 114 C dX6_goThrough_111 (by decide) rfl (by omega) ?_ ?_
                · intro h111
                  refine g_aload_n 120 C 6 dX6_goThrough_119 rfl rfl ?_
                  refine g_get 123 C 0 5 6 iX6_goThrough_X6 lX6_goThrough_145 dX6_goThrough_120 rfl rfl rfl (by decide) rfl ?_
                  refine g_put (ws' := [(_, .inr (6, [_, _, _, _, _, _, _, _, _, _, _, _, _, _, _, _, _, _, _, _, _, _, _])), (_, aI _ _ _)]) 126 C 0 5 6 tyX6 tyX6_ok nmX6 iX6_goThrough_X6 lX6_goThrough_145 dX6_goThrough_123 rfl rfl rfl (by decide) rfl rfl rfl (Nat.le_of_ble_eq_true rfl) rfl ?_
                  refine g_aload_n 127 C 6 dX6_goThrough_126 rfl rfl ?_
                  refine g_dup 128 C dX6_goThrough_127 rfl rfl ?_
                  refine g_get 131 C 0 6 6 iX6_goThrough_X6 lX6_goThrough_148 dX6_goThrough_128 rfl rfl rfl (by decide) rfl ?_
                  refine g_iload 133 C 0 dX6_goThrough_131 rfl rfl ?_
                  refine g_iload_n 134 C 5 dX6_goThrough_133 rfl rfl ?_
                  refine g_icmp_gt 141 137 C dX6_goThrough_134 (by decide) rfl (by omega) ?_ ?_
                  · intro h134
                    refine g_iconst 142 C dX6_goThrough_141 rfl ?_
                    refine g_iadd 143 C dX6_goThrough_142 rfl ?_
                    refine g_put (ws' := [(_, .inr (6, [_, _, _, _, _, _, _, _, _, _, _, _, _, _, _, _, _, _, _, _, _, _, _])), (_, aI _ _ _)]) 146 C 0 6 6 tyX6 tyX6_ok nmX6 iX6_goThrough_X6 lX6_goThrough_148 dX6_goThrough_143 rfl rfl rfl (by decide) rfl rfl rfl (Nat.le_of_ble_eq_true rfl) rfl ?_
                    have hsy := saI_c (W := W) (h := h) (hs := hs) b a
                    refine g_iinc (lv' := [(3, _), (6, _), (5, _), (4, _), (2, _), (1, _), (0, _)]) 149 C 3 dX6_goThrough_146 rfl rfl (by decide) rfl ?_
                    refine g_goto 24 C dX6_goThrough_149 (by decide) ?_
                    exact g_w [0, 4, 5, 6] rfl rfl (ih24 (r, (suI (rwR W h hs d) a + cnI (rwP W h hs d a) b + 0), (b + 1)) (by
            try dsimp only
            exact ⟨⟨by omega, by omega⟩, gt_r hh hM hv.symm (by omega) (by omega) (fun x y => by omega), by rw [cnI_sf (rwP W h hs d a) hb.1.1 (fun q => by have q2 := q.2; omega), Int.add_zero]⟩) (by (try dsimp only); omega))
                  · intro h134
                    refine g_iconst 138 C dX6_goThrough_137 rfl ?_
                    refine g_goto 142 C dX6_goThrough_138 (by decide) ?_
                    refine g_iadd 143 C dX6_goThrough_142 rfl ?_
                    refine g_put (ws' := [(_, .inr (6, [_, _, _, _, _, _, _, _, _, _, _, _, _, _, _, _, _, _, _, _, _, _, _])), (_, aI _ _ _)]) 146 C 0 6 6 tyX6 tyX6_ok nmX6 iX6_goThrough_X6 lX6_goThrough_148 dX6_goThrough_143 rfl rfl rfl (by decide) rfl rfl rfl (Nat.le_of_ble_eq_true rfl) rfl ?_
                    have hsy := saI_c (W := W) (h := h) (hs := hs) b a
                    refine g_iinc (lv' := [(3, _), (6, _), (5, _), (4, _), (2, _), (1, _), (0, _)]) 149 C 3 dX6_goThrough_146 rfl rfl (by decide) rfl ?_
                    refine g_goto 24 C dX6_goThrough_149 (by decide) ?_
                    exact g_w [0, 4, 5, 6] rfl rfl (ih24 (r, (suI (rwR W h hs d) a + cnI (rwP W h hs d a) b + 1), (b + 1)) (by
            try dsimp only
            exact ⟨⟨by omega, by omega⟩, gt_r hh hM hv.symm (by omega) (by omega) (fun x y => by omega), by rw [cnI_st (rwP W h hs d a) hb.1.1 (show rwP W h hs d a b from ⟨by rw [hsy]; omega, by rw [hsy]; omega⟩)]; omega⟩) (by (try dsimp only); omega))
                · intro h111
                  refine g_iload 116 C 0 dX6_goThrough_114 rfl rfl ?_
                  refine g_goto 123 C dX6_goThrough_116 (by decide) ?_
                  refine g_put (ws' := [(_, .inr (6, [_, _, _, _, _, _, _, _, _, _, _, _, _, _, _, _, _, _, _, _, _, _, _])), (_, aI _ _ _)]) 126 C 0 5 6 tyX6 tyX6_ok nmX6 iX6_goThrough_X6 lX6_goThrough_145 dX6_goThrough_123 rfl rfl rfl (by decide) rfl rfl rfl (Nat.le_of_ble_eq_true rfl) rfl ?_
                  refine g_aload_n 127 C 6 dX6_goThrough_126 rfl rfl ?_
                  refine g_dup 128 C dX6_goThrough_127 rfl rfl ?_
                  refine g_get 131 C 0 6 6 iX6_goThrough_X6 lX6_goThrough_148 dX6_goThrough_128 rfl rfl rfl (by decide) rfl ?_
                  refine g_iload 133 C 0 dX6_goThrough_131 rfl rfl ?_
                  refine g_iload_n 134 C 5 dX6_goThrough_133 rfl rfl ?_
                  refine g_icmp_gt 141 137 C dX6_goThrough_134 (by decide) rfl (by omega) ?_ ?_
                  · intro h134
                    refine g_iconst 142 C dX6_goThrough_141 rfl ?_
                    refine g_iadd 143 C dX6_goThrough_142 rfl ?_
                    refine g_put (ws' := [(_, .inr (6, [_, _, _, _, _, _, _, _, _, _, _, _, _, _, _, _, _, _, _, _, _, _, _])), (_, aI _ _ _)]) 146 C 0 6 6 tyX6 tyX6_ok nmX6 iX6_goThrough_X6 lX6_goThrough_148 dX6_goThrough_143 rfl rfl rfl (by decide) rfl rfl rfl (Nat.le_of_ble_eq_true rfl) rfl ?_
                    have hsy := saI_c (W := W) (h := h) (hs := hs) b a
                    refine g_iinc (lv' := [(3, _), (6, _), (5, _), (4, _), (2, _), (1, _), (0, _)]) 149 C 3 dX6_goThrough_146 rfl rfl (by decide) rfl ?_
                    refine g_goto 24 C dX6_goThrough_149 (by decide) ?_
                    exact g_w [0, 4, 5, 6] rfl rfl (ih24 ((frI W h hs (a / 4) (a % 4) (b / 4) (b % 4)), (suI (rwR W h hs d) a + cnI (rwP W h hs d a) b + 0), (b + 1)) (by
            try dsimp only
            exact ⟨⟨by omega, by omega⟩, gt_v hh hM hv.symm (by omega) (by omega) (fun x y => by omega), by rw [cnI_sf (rwP W h hs d a) hb.1.1 (fun q => by have q2 := q.2; omega), Int.add_zero]⟩) (by (try dsimp only); omega))
                  · intro h134
                    refine g_iconst 138 C dX6_goThrough_137 rfl ?_
                    refine g_goto 142 C dX6_goThrough_138 (by decide) ?_
                    refine g_iadd 143 C dX6_goThrough_142 rfl ?_
                    refine g_put (ws' := [(_, .inr (6, [_, _, _, _, _, _, _, _, _, _, _, _, _, _, _, _, _, _, _, _, _, _, _])), (_, aI _ _ _)]) 146 C 0 6 6 tyX6 tyX6_ok nmX6 iX6_goThrough_X6 lX6_goThrough_148 dX6_goThrough_143 rfl rfl rfl (by decide) rfl rfl rfl (Nat.le_of_ble_eq_true rfl) rfl ?_
                    have hsy := saI_c (W := W) (h := h) (hs := hs) b a
                    refine g_iinc (lv' := [(3, _), (6, _), (5, _), (4, _), (2, _), (1, _), (0, _)]) 149 C 3 dX6_goThrough_146 rfl rfl (by decide) rfl ?_
                    refine g_goto 24 C dX6_goThrough_149 (by decide) ?_
                    exact g_w [0, 4, 5, 6] rfl rfl (ih24 ((frI W h hs (a / 4) (a % 4) (b / 4) (b % 4)), (suI (rwR W h hs d) a + cnI (rwP W h hs d a) b + 1), (b + 1)) (by
            try dsimp only
            exact ⟨⟨by omega, by omega⟩, gt_v hh hM hv.symm (by omega) (by omega) (fun x y => by omega), by rw [cnI_st (rwP W h hs d a) hb.1.1 (show rwP W h hs d a b from ⟨by rw [hsy]; omega, by rw [hsy]; omega⟩)]; omega⟩) (by (try dsimp only); omega))
theorem cdX6_goThrough : yX6_goThrough.cls = RX6 ∧ yX6_goThrough.cls ≠ "java/lang/invoke/MethodHandle" ∧ yX6_goThrough.cls ≠ "java/lang/invoke/VarHandle" ∧ (parseMethodDescriptor yX6_goThrough.desc).map (fun d => d.parameters.length) = some 1 := by decide +kernel
theorem lX6_unlike_145 : Cond.fieldLink RX6 145 (TX6 5).1 (TX6 5).2.1 (TX6 5).2.2.1 ∈ wsX6_unlike := by decide +kernel
theorem iX6_unlike_X6 : ∀ w ∈ u_ws RX6 TX6 23, w ∈ wsX6_unlike := by decide +kernel
set_option maxHeartbeats 4000000 in
set_option maxRecDepth 100000 in
theorem k_X6_unlike (E : gE) (l : Launch) {a_M a_Ma a_Mc a_Mg a_Mh a_Mi a_Ml a_Mp a_Ms a_Mt a_Mu a_Mx a_My : Nat} {hs : Int → Int} {mf W h mL mN n tc fd jo tr : Int} {md : Int64} (hB : 1 ≤ W ∧ W ≤ 5 ∧ 1 ≤ h ∧ h ≤ 5) (hh : hB9 hs) : gMet E l yX6_unlike wsX6_unlike { frames := 5, cells := 0, slots := 0, locals := 121 } 0 0 [.ref a_M] [(a_M, .inr (6, [.int (iI mf), .int (iI W), .int (iI h), .ref a_Mh, .long md, .int (iI mL), .int (iI mN), .int (iI n), .ref a_Mp, .ref a_Mt, .int (iI tc), .int (iI fd), .ref a_Ma, .ref a_Mu, .ref a_Mi, .int (iI jo), .ref a_Mx, .ref a_My, .ref a_Ms, .ref a_Ml, .ref a_Mc, .ref a_Mg, .int (iI tr)])), (a_Mh, aI E 200 hs)] (fun v w => ∃ x r c : Int, (v = some (.int (iI (if x = -9 then -3 else x))) ∧ lfP W h hs (fun x y => 0 ≤ x ∧ x < y ∧ y < W * h * 4) x) ∧ w = [(a_M, .inr (6, [.int (iI mf), .int (iI W), .int (iI h), .ref a_Mh, .long md, .int (iI r), .int (iI c), .int (iI n), .ref a_Mp, .ref a_Mt, .int (iI tc), .int (iI fd), .ref a_Ma, .ref a_Mu, .ref a_Mi, .int (iI jo), .ref a_Mx, .ref a_My, .ref a_Ms, .ref a_Ml, .ref a_Mc, .ref a_Mg, .int (iI tr)])), (a_Mh, aI E 200 hs)]) := by
  refine g_start (cc := cX6_unlike) (maxL := 1) (ret := (some .int)) (by decide) rfl (Nat.le_of_ble_eq_true rfl) ?_
  intro p_ e_ s_ m_ args_ below_ meth_ c_ A_ C hr hnm
  refine g_aload_n 1 C 0 dX6_unlike_0 rfl rfl ?_
  refine g_iconst 2 C dX6_unlike_1 rfl ?_
  refine g_callV 5 C [0, 1] dX6_unlike_2 rfl (k_X6_goThrough E l  (by first | assumption | omega) (by first | assumption | omega) (by first | assumption | omega)) (cwV 1 C.2.2.2.2.1 gX6_unlike_X6_goThrough rfl rfl rfl cdX6_goThrough ⟨Nat.le_of_ble_eq_true rfl, Nat.le_of_ble_eq_true rfl⟩) rfl rfl rfl rfl (Nat.le_of_ble_eq_true rfl) 0 6 rfl rfl rfl ⟨Nat.le_of_ble_eq_true rfl, Nat.le_of_ble_eq_true rfl⟩ (fun v w q => by obtain ⟨_, _, -, rfl⟩ := q; rfl) ?_
  rintro _ _ ⟨r, c, ⟨rfl, hL, hr9, rfl⟩, rfl⟩
  refine g_w (ws' := [(_, .inr (6, [_, _, _, _, _, _, _, _, _, _, _, _, _, _, _, _, _, _, _, _, _, _, _])), (_, aI _ _ _)]) [0] rfl rfl ?_
  refine g_aload_n 6 C 0 dX6_unlike_5 rfl rfl ?_
  refine g_get 9 C 0 5 6 iX6_unlike_X6 lX6_unlike_145 dX6_unlike_6 rfl rfl rfl (by decide) rfl ?_
  refine g_if_ge 17 12 C dX6_unlike_9 (by decide) rfl (by omega) ?_ ?_
  · intro h9
    refine g_aload_n 18 C 0 dX6_unlike_17 rfl rfl ?_
    refine g_get 21 C 0 5 6 iX6_unlike_X6 lX6_unlike_145 dX6_unlike_18 rfl rfl rfl (by decide) rfl ?_
    exact g_iret C hr dX6_unlike_21 ⟨(if r < 0 then -9 else r), _, _, ⟨g_ri (by (repeat' split) <;> omega), hL⟩, rfl⟩
  · intro h9
    refine g_bipush 14 C dX6_unlike_12 rfl (by decide) ?_
    refine g_goto 21 C dX6_unlike_14 (by decide) ?_
    exact g_iret C hr dX6_unlike_21 ⟨(if r < 0 then -9 else r), _, _, ⟨g_ri (by (repeat' split) <;> omega), hL⟩, rfl⟩
theorem lX6_traps_148 : Cond.fieldLink RX6 148 (TX6 6).1 (TX6 6).2.1 (TX6 6).2.2.1 ∈ wsX6_traps := by decide +kernel
theorem iX6_traps_X6 : ∀ w ∈ u_ws RX6 TX6 23, w ∈ wsX6_traps := by decide +kernel
set_option maxHeartbeats 4000000 in
set_option maxRecDepth 100000 in
theorem k_X6_traps (E : gE) (l : Launch) {a_M a_Ma a_Mc a_Mg a_Mh a_Mi a_Ml a_Mp a_Ms a_Mt a_Mu a_Mx a_My : Nat} {d : Int} {hs : Int → Int} {mf W h mL mN n tc fd jo tr : Int} {md : Int64} (hB : 1 ≤ W ∧ W ≤ 5 ∧ 1 ≤ h ∧ h ≤ 5) (hh : hB9 hs) (hd : -2147483648 ≤ d ∧ d < 2147483648) : gMet E l yX6_traps wsX6_traps { frames := 5, cells := 0, slots := 0, locals := 121 } 0 0 [.ref a_M, .int (iI d)] [(a_M, .inr (6, [.int (iI mf), .int (iI W), .int (iI h), .ref a_Mh, .long md, .int (iI mL), .int (iI mN), .int (iI n), .ref a_Mp, .ref a_Mt, .int (iI tc), .int (iI fd), .ref a_Ma, .ref a_Mu, .ref a_Mi, .int (iI jo), .ref a_Mx, .ref a_My, .ref a_Ms, .ref a_Ml, .ref a_Mc, .ref a_Mg, .int (iI tr)])), (a_Mh, aI E 200 hs)] (fun v w => ∃ r c : Int, (v = some (.int (iI (if d < 0 then -2 else pwI W h hs d)))) ∧ w = [(a_M, .inr (6, [.int (iI mf), .int (iI W), .int (iI h), .ref a_Mh, .long md, .int (iI r), .int (iI c), .int (iI n), .ref a_Mp, .ref a_Mt, .int (iI tc), .int (iI fd), .ref a_Ma, .ref a_Mu, .ref a_Mi, .int (iI jo), .ref a_Mx, .ref a_My, .ref a_Ms, .ref a_Ml, .ref a_Mc, .ref a_Mg, .int (iI tr)])), (a_Mh, aI E 200 hs)]) := by
  refine g_start (cc := cX6_traps) (maxL := 2) (ret := (some .int)) (by decide) rfl (Nat.le_of_ble_eq_true rfl) ?_
  intro p_ e_ s_ m_ args_ below_ meth_ c_ A_ C hr hnm
  refine g_iload_n 1 C 1 dX6_traps_0 rfl rfl ?_
  refine g_if_ge 7 4 C dX6_traps_1 (by decide) rfl (by omega) ?_ ?_
  · intro h1
    refine g_aload_n 8 C 0 dX6_traps_7 rfl rfl ?_
    refine g_iload_n 9 C 1 dX6_traps_8 rfl rfl ?_
    refine g_callV 12 C [0, 1] dX6_traps_9 rfl (k_X6_goThrough E l  (by first | assumption | omega) (by first | assumption | omega) (by first | assumption | omega)) (cwV 1 C.2.2.2.2.1 gX6_traps_X6_goThrough rfl rfl rfl cdX6_goThrough ⟨Nat.le_of_ble_eq_true rfl, Nat.le_of_ble_eq_true rfl⟩) rfl rfl rfl rfl (Nat.le_of_ble_eq_true rfl) 0 6 rfl rfl rfl ⟨Nat.le_of_ble_eq_true rfl, Nat.le_of_ble_eq_true rfl⟩ (fun v w q => by obtain ⟨_, _, -, rfl⟩ := q; rfl) ?_
    rintro _ _ ⟨r, c, ⟨rfl, -, -, rfl⟩, rfl⟩
    refine g_w (ws' := [(_, .inr (6, [_, _, _, _, _, _, _, _, _, _, _, _, _, _, _, _, _, _, _, _, _, _, _])), (_, aI _ _ _)]) [0, 1] rfl rfl ?_
    refine g_aload_n 13 C 0 dX6_traps_12 rfl rfl ?_
    refine g_get 16 C 0 6 6 iX6_traps_X6 lX6_traps_148 dX6_traps_13 rfl rfl rfl (by decide) rfl ?_
    exact g_iret C hr dX6_traps_16 ⟨_, _, g_ri (if_neg (by omega)).symm, rfl⟩
  · intro h1
    refine g_bipush 6 C dX6_traps_4 rfl (by decide) ?_
    exact g_iret C hr dX6_traps_6 ⟨_, _, g_ri (if_pos (by omega)).symm, rfl⟩
