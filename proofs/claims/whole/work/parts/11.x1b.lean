set_option maxHeartbeats 4000000 in
set_option maxRecDepth 100000 in
theorem k_X1_bulges (E : gE) (l : Launch) {a_P a_hs a_se : Nat} {W h z : Int} {hs : Int → Int} (hz : 0 ≤ z ∧ z < 40) (hh : hB9 hs) : gFun E l yX1_bulges wsX1_bulges { frames := 1, cells := 0, slots := 0, locals := 24 } [.ref a_P, .int (iI z)] [(a_P, .inr (1, [.ref a_hs, .ref a_se, .int (iI W), .int (iI h)])), (a_hs, aI E 200 hs)] (.int (iI (cI (blI hs z) 1 0))) := by
  refine g_start (cc := cX1_bulges) (maxL := 6) (ret := (some .boolean)) (by decide) rfl (Nat.le_of_ble_eq_true rfl) ?_
  intro p_ e_ s_ m_ args_ below_ meth_ c_ A_ C hr hnm
  refine g_iconst 1 C dX1_bulges_0 rfl ?_
  refine g_istore_n (lv' := [(2, _), (0, _), (1, _)]) 2 C dX1_bulges_1 rfl rfl (by decide) rfl ?_
  refine g_iconst 3 C dX1_bulges_2 rfl ?_
  refine g_istore_n (lv' := [(3, _), (2, _), (0, _), (1, _)]) 4 C dX1_bulges_3 rfl rfl (by decide) rfl ?_
  refine g_iconst 5 C dX1_bulges_4 rfl ?_
  refine g_istore (lv' := [(4, _), (3, _), (2, _), (0, _), (1, _)]) 7 C dX1_bulges_5 rfl (by decide) rfl ?_
  refine g_loop (α := Int × Int × Int) (fun zz => [(a_P, .inr (1, [.ref a_hs, .ref a_se, .int (iI W), .int (iI h)])), (a_hs, aI E 200 hs)]) (fun zz => [(2, .int (iI zz.1)), (3, .int (iI zz.2.1)), (4, .int (iI zz.2.2)), (1, .int (iI z)), (0, .ref a_P)]) (fun zz => (0 ≤ zz.2.2 ∧ zz.2.2 ≤ 5) ∧ zz.1 = cnI (fun j => 0 < htI hs z j 0) zz.2.2 ∧ zz.2.1 = cnI (fun j => htI hs z j 0 < 0) zz.2.2) (fun zz => (5 - zz.2.2).toNat) (0, 0, 0) (by
            try dsimp only
            exact ⟨⟨by omega, by omega⟩, rfl, rfl⟩) [2, 1, 0, 4, 3] rfl rfl ?_
  rintro ⟨o, n, i⟩ hI ih7
  try dsimp only at hI ih7 ⊢
  obtain ⟨hi, rfl, rfl⟩ := hI
  refine g_iload 9 C 2 dX1_bulges_7 rfl rfl ?_
  refine g_iconst 10 C dX1_bulges_9 rfl ?_
  refine g_icmp_ge 55 13 C dX1_bulges_10 (by decide) rfl (by omega) ?_ ?_
  · intro h10
    obtain rfl : i = 5 := by omega
    refine g_iload_n 56 C 0 dX1_bulges_55 rfl rfl ?_
    refine g_iconst 57 C dX1_bulges_56 rfl ?_
    refine g_icmp_eq 65 60 C dX1_bulges_57 (by decide) rfl (by have := cnI_b (fun j => 0 < htI hs z j 0) hi.1; omega) ?_ ?_
    · intro h57
      refine g_iconst 66 C dX1_bulges_65 rfl ?_
      refine g_goto 70 C dX1_bulges_66 (by decide) ?_
      exact g_zret C hr dX1_bulges_70 (by first | rfl | decide | (split <;> rfl)) ⟨g_ri (by first | exact (cI_t (Or.inl ((cnI_f _ (by omega)).mp (by assumption)))).symm | exact (cI_t (Or.inr ((cnI_f _ (by omega)).mp (by assumption)))).symm | exact (cI_f (fun q => q.elim (fun q => absurd ((cnI_f _ (by omega)).mpr q) (by assumption)) (fun q => absurd ((cnI_f _ (by omega)).mpr q) (by assumption)))).symm), rfl⟩
    · intro h57
      refine g_iload_n 61 C 1 dX1_bulges_60 rfl rfl ?_
      refine g_iconst 62 C dX1_bulges_61 rfl ?_
      refine g_icmp_ne 69 65 C dX1_bulges_62 (by decide) rfl (by have := cnI_b (fun j => htI hs z j 0 < 0) hi.1; omega) ?_ ?_
      · intro h62
        refine g_iconst 70 C dX1_bulges_69 rfl ?_
        exact g_zret C hr dX1_bulges_70 (by first | rfl | decide | (split <;> rfl)) ⟨g_ri (by first | exact (cI_t (Or.inl ((cnI_f _ (by omega)).mp (by assumption)))).symm | exact (cI_t (Or.inr ((cnI_f _ (by omega)).mp (by assumption)))).symm | exact (cI_f (fun q => q.elim (fun q => absurd ((cnI_f _ (by omega)).mpr q) (by assumption)) (fun q => absurd ((cnI_f _ (by omega)).mpr q) (by assumption)))).symm), rfl⟩
      · intro h62
        refine g_iconst 66 C dX1_bulges_65 rfl ?_
        refine g_goto 70 C dX1_bulges_66 (by decide) ?_
        exact g_zret C hr dX1_bulges_70 (by first | rfl | decide | (split <;> rfl)) ⟨g_ri (by first | exact (cI_t (Or.inl ((cnI_f _ (by omega)).mp (by assumption)))).symm | exact (cI_t (Or.inr ((cnI_f _ (by omega)).mp (by assumption)))).symm | exact (cI_f (fun q => q.elim (fun q => absurd ((cnI_f _ (by omega)).mpr q) (by assumption)) (fun q => absurd ((cnI_f _ (by omega)).mpr q) (by assumption)))).symm), rfl⟩
  · intro h10
    refine g_aload_n 14 C 4 dX1_bulges_13 rfl rfl ?_
    refine g_iload_n 15 C 3 dX1_bulges_14 rfl rfl ?_
    refine g_iload 17 C 2 dX1_bulges_15 rfl rfl ?_
    refine g_iconst 18 C dX1_bulges_17 rfl ?_
    refine g_callVF 21 C [0, 1] dX1_bulges_18 rfl (k_X1_heightAt E l  (by first | assumption | omega) (by first | assumption | omega) (by first | assumption | omega)) (cwV 3 C.2.2.2.2.1 gX1_bulges_X1_heightAt rfl rfl rfl cdX1_heightAt ⟨Nat.le_of_ble_eq_true rfl, Nat.le_of_ble_eq_true rfl⟩) rfl rfl rfl rfl (Nat.le_of_ble_eq_true rfl) 0 1 rfl rfl rfl ⟨Nat.le_of_ble_eq_true rfl, Nat.le_of_ble_eq_true rfl⟩ ?_
    refine g_istore (lv' := [(5, _), (2, _), (3, _), (4, _), (1, _), (0, _)]) 23 C dX1_bulges_21 rfl (by decide) rfl ?_
    have e0 := htI_b hh z i 0
    refine g_iload_n 24 C 1 dX1_bulges_23 rfl rfl ?_
    refine g_iload 26 C 0 dX1_bulges_24 rfl rfl ?_
    refine g_if_le 33 29 C dX1_bulges_26 (by decide) rfl (by omega) ?_ ?_
    · intro h26
      refine g_iconst 34 C dX1_bulges_33 rfl ?_
      refine g_iadd 35 C dX1_bulges_34 rfl ?_
      refine g_istore_n (lv' := [(2, _), (5, _), (3, _), (4, _), (1, _), (0, _)]) 36 C dX1_bulges_35 rfl rfl (by decide) rfl ?_
      refine g_iload_n 37 C 2 dX1_bulges_36 rfl rfl ?_
      refine g_iload 39 C 1 dX1_bulges_37 rfl rfl ?_
      refine g_if_ge 46 42 C dX1_bulges_39 (by decide) rfl (by omega) ?_ ?_
      · intro h39
        refine g_iconst 47 C dX1_bulges_46 rfl ?_
        refine g_iadd 48 C dX1_bulges_47 rfl ?_
        refine g_istore_n (lv' := [(3, _), (2, _), (5, _), (4, _), (1, _), (0, _)]) 49 C dX1_bulges_48 rfl rfl (by decide) rfl ?_
        refine g_iinc (lv' := [(4, _), (3, _), (2, _), (5, _), (1, _), (0, _)]) 52 C 3 dX1_bulges_49 rfl rfl (by decide) rfl ?_
        refine g_goto 7 C dX1_bulges_52 (by decide) ?_
        exact g_w [2, 1, 0, 4, 5] rfl rfl (ih7 (_, _, _) (by
            try dsimp only
            exact ⟨by omega, by first | exact (cnI_st _ hi.1 (by omega)).symm | exact (Int.add_zero _).trans (cnI_sf _ hi.1 (by omega)).symm, by first | exact (cnI_st _ hi.1 (by omega)).symm | exact (Int.add_zero _).trans (cnI_sf _ hi.1 (by omega)).symm⟩) (by (try dsimp only); omega))
      · intro h39
        refine g_iconst 43 C dX1_bulges_42 rfl ?_
        refine g_goto 47 C dX1_bulges_43 (by decide) ?_
        refine g_iadd 48 C dX1_bulges_47 rfl ?_
        refine g_istore_n (lv' := [(3, _), (2, _), (5, _), (4, _), (1, _), (0, _)]) 49 C dX1_bulges_48 rfl rfl (by decide) rfl ?_
        refine g_iinc (lv' := [(4, _), (3, _), (2, _), (5, _), (1, _), (0, _)]) 52 C 3 dX1_bulges_49 rfl rfl (by decide) rfl ?_
        refine g_goto 7 C dX1_bulges_52 (by decide) ?_
        exact g_w [2, 1, 0, 4, 5] rfl rfl (ih7 (_, _, _) (by
            try dsimp only
            exact ⟨by omega, by first | exact (cnI_st _ hi.1 (by omega)).symm | exact (Int.add_zero _).trans (cnI_sf _ hi.1 (by omega)).symm, by first | exact (cnI_st _ hi.1 (by omega)).symm | exact (Int.add_zero _).trans (cnI_sf _ hi.1 (by omega)).symm⟩) (by (try dsimp only); omega))
    · intro h26
      refine g_iconst 30 C dX1_bulges_29 rfl ?_
      refine g_goto 34 C dX1_bulges_30 (by decide) ?_
      refine g_iadd 35 C dX1_bulges_34 rfl ?_
      refine g_istore_n (lv' := [(2, _), (5, _), (3, _), (4, _), (1, _), (0, _)]) 36 C dX1_bulges_35 rfl rfl (by decide) rfl ?_
      refine g_iload_n 37 C 2 dX1_bulges_36 rfl rfl ?_
      refine g_iload 39 C 1 dX1_bulges_37 rfl rfl ?_
      refine g_if_ge 46 42 C dX1_bulges_39 (by decide) rfl (by omega) ?_ ?_
      · intro h39
        refine g_iconst 47 C dX1_bulges_46 rfl ?_
        refine g_iadd 48 C dX1_bulges_47 rfl ?_
        refine g_istore_n (lv' := [(3, _), (2, _), (5, _), (4, _), (1, _), (0, _)]) 49 C dX1_bulges_48 rfl rfl (by decide) rfl ?_
        refine g_iinc (lv' := [(4, _), (3, _), (2, _), (5, _), (1, _), (0, _)]) 52 C 3 dX1_bulges_49 rfl rfl (by decide) rfl ?_
        refine g_goto 7 C dX1_bulges_52 (by decide) ?_
        exact g_w [2, 1, 0, 4, 5] rfl rfl (ih7 (_, _, _) (by
            try dsimp only
            exact ⟨by omega, by first | exact (cnI_st _ hi.1 (by omega)).symm | exact (Int.add_zero _).trans (cnI_sf _ hi.1 (by omega)).symm, by first | exact (cnI_st _ hi.1 (by omega)).symm | exact (Int.add_zero _).trans (cnI_sf _ hi.1 (by omega)).symm⟩) (by (try dsimp only); omega))
      · intro h39
        refine g_iconst 43 C dX1_bulges_42 rfl ?_
        refine g_goto 47 C dX1_bulges_43 (by decide) ?_
        refine g_iadd 48 C dX1_bulges_47 rfl ?_
        refine g_istore_n (lv' := [(3, _), (2, _), (5, _), (4, _), (1, _), (0, _)]) 49 C dX1_bulges_48 rfl rfl (by decide) rfl ?_
        refine g_iinc (lv' := [(4, _), (3, _), (2, _), (5, _), (1, _), (0, _)]) 52 C 3 dX1_bulges_49 rfl rfl (by decide) rfl ?_
        refine g_goto 7 C dX1_bulges_52 (by decide) ?_
        exact g_w [2, 1, 0, 4, 5] rfl rfl (ih7 (_, _, _) (by
            try dsimp only
            exact ⟨by omega, by first | exact (cnI_st _ hi.1 (by omega)).symm | exact (Int.add_zero _).trans (cnI_sf _ hi.1 (by omega)).symm, by first | exact (cnI_st _ hi.1 (by omega)).symm | exact (Int.add_zero _).trans (cnI_sf _ hi.1 (by omega)).symm⟩) (by (try dsimp only); omega))
set_option maxHeartbeats 4000000 in
set_option maxRecDepth 100000 in
theorem k_X1_differing (E : gE) (l : Launch) {a_P a_hs a_se : Nat} {W h z o w : Int} {hs : Int → Int} (hz : 0 ≤ z ∧ z < 40) (ho : 0 ≤ o ∧ o < 40) (hw : w = 0 ∨ w = 1) (hh : hB9 hs) : gFun E l yX1_differing wsX1_differing { frames := 1, cells := 0, slots := 0, locals := 24 } [.ref a_P, .int (iI z), .int (iI o), .int (iI w)] [(a_P, .inr (1, [.ref a_hs, .ref a_se, .int (iI W), .int (iI h)])), (a_hs, aI E 200 hs)] (.int (iI (dfI hs z o w))) := by
  refine g_start (cc := cX1_differing) (maxL := 6) (ret := (some .int)) (by decide) rfl (Nat.le_of_ble_eq_true rfl) ?_
  intro p_ e_ s_ m_ args_ below_ meth_ c_ A_ C hr hnm
  refine g_iconst 1 C dX1_differing_0 rfl ?_
  refine g_istore (lv' := [(4, _), (0, _), (1, _), (2, _), (3, _)]) 3 C dX1_differing_1 rfl (by decide) rfl ?_
  refine g_iconst 4 C dX1_differing_3 rfl ?_
  refine g_istore (lv' := [(5, _), (4, _), (0, _), (1, _), (2, _), (3, _)]) 6 C dX1_differing_4 rfl (by decide) rfl ?_
  refine g_loop (α := Int × Int) (fun zz => [(a_P, .inr (1, [.ref a_hs, .ref a_se, .int (iI W), .int (iI h)])), (a_hs, aI E 200 hs)]) (fun zz => [(4, .int (iI zz.1)), (5, .int (iI zz.2)), (3, .int (iI w)), (2, .int (iI o)), (1, .int (iI z)), (0, .ref a_P)]) (fun zz => (0 ≤ zz.2 ∧ zz.2 ≤ 5) ∧ zz.1 = cnI (fun j => htI hs z j 0 ≠ htI hs o j w) zz.2) (fun zz => (5 - zz.2).toNat) (0, 0) (by
            try dsimp only
            exact ⟨⟨by omega, by omega⟩, rfl⟩) [1, 0, 5, 4, 3, 2] rfl rfl ?_
  rintro ⟨n, i⟩ hI ih6
  try dsimp only at hI ih6 ⊢
  obtain ⟨hi, rfl⟩ := hI
  refine g_iload 8 C 1 dX1_differing_6 rfl rfl ?_
  refine g_iconst 9 C dX1_differing_8 rfl ?_
  refine g_icmp_ge 40 12 C dX1_differing_9 (by decide) rfl (by omega) ?_ ?_
  · intro h9
    refine g_iload 42 C 0 dX1_differing_40 rfl rfl ?_
    exact g_iret C hr dX1_differing_42 ⟨g_ri (by rw [show i = 5 by omega]; rfl), rfl⟩
  · intro h9
    refine g_aload_n 13 C 5 dX1_differing_12 rfl rfl ?_
    refine g_iload_n 14 C 4 dX1_differing_13 rfl rfl ?_
    refine g_iload 16 C 1 dX1_differing_14 rfl rfl ?_
    refine g_iconst 17 C dX1_differing_16 rfl ?_
    refine g_callVF 20 C [0, 1] dX1_differing_17 rfl (k_X1_heightAt E l  (by first | assumption | omega) (by first | assumption | omega) (by first | assumption | omega)) (cwV 3 C.2.2.2.2.1 gX1_differing_X1_heightAt rfl rfl rfl cdX1_heightAt ⟨Nat.le_of_ble_eq_true rfl, Nat.le_of_ble_eq_true rfl⟩) rfl rfl rfl rfl (Nat.le_of_ble_eq_true rfl) 0 1 rfl rfl rfl ⟨Nat.le_of_ble_eq_true rfl, Nat.le_of_ble_eq_true rfl⟩ ?_
    refine g_aload_n 21 C 5 dX1_differing_20 rfl rfl ?_
    refine g_iload_n 22 C 3 dX1_differing_21 rfl rfl ?_
    refine g_iload 24 C 1 dX1_differing_22 rfl rfl ?_
    refine g_iload_n 25 C 2 dX1_differing_24 rfl rfl ?_
    refine g_callVF 28 C [0, 1] dX1_differing_25 rfl (k_X1_heightAt E l  (by first | assumption | omega) (by first | assumption | omega) (by first | assumption | omega)) (cwV 3 C.2.2.2.2.1 gX1_differing_X1_heightAt rfl rfl rfl cdX1_heightAt ⟨Nat.le_of_ble_eq_true rfl, Nat.le_of_ble_eq_true rfl⟩) rfl rfl rfl rfl (Nat.le_of_ble_eq_true rfl) 0 1 rfl rfl rfl ⟨Nat.le_of_ble_eq_true rfl, Nat.le_of_ble_eq_true rfl⟩ ?_
    have e0 := htI_b hh z i 0
    have e1 := htI_b hh o i w
    refine g_icmp_eq 34 31 C dX1_differing_28 (by decide) rfl (by omega) ?_ ?_
    · intro h28
      refine g_iinc (lv' := [(5, _), (4, _), (3, _), (2, _), (1, _), (0, _)]) 37 C 1 dX1_differing_34 rfl rfl (by decide) rfl ?_
      refine g_goto 6 C dX1_differing_37 (by decide) ?_
      exact g_w [1, 0, 2, 3, 4, 5] rfl rfl (ih6 (_, _) (by
            try dsimp only
            exact ⟨by omega, by first | exact (cnI_st (fun j => htI hs z j 0 ≠ htI hs o j w) hi.1 (by assumption)).symm | exact (cnI_sf (fun j => htI hs z j 0 ≠ htI hs o j w) hi.1 (fun q => q (by assumption))).symm⟩) (by (try dsimp only); omega))
    · intro h28
      refine g_iinc (lv' := [(4, _), (5, _), (3, _), (2, _), (1, _), (0, _)]) 34 C 0 dX1_differing_31 rfl rfl (by decide) rfl ?_
      refine g_iinc (lv' := [(5, _), (4, _), (3, _), (2, _), (1, _), (0, _)]) 37 C 1 dX1_differing_34 rfl rfl (by decide) rfl ?_
      refine g_goto 6 C dX1_differing_37 (by decide) ?_
      exact g_w [1, 0, 2, 3, 4, 5] rfl rfl (ih6 (_, _) (by
            try dsimp only
            exact ⟨by omega, by first | exact (cnI_st (fun j => htI hs z j 0 ≠ htI hs o j w) hi.1 (by assumption)).symm | exact (cnI_sf (fun j => htI hs z j 0 ≠ htI hs o j w) hi.1 (fun q => q (by assumption))).symm⟩) (by (try dsimp only); omega))
theorem cdX1_bulges : yX1_bulges.cls = RX1 ∧ yX1_bulges.cls ≠ "java/lang/invoke/MethodHandle" ∧ yX1_bulges.cls ≠ "java/lang/invoke/VarHandle" ∧ (parseMethodDescriptor yX1_bulges.desc).map (fun d => d.parameters.length) = some 1 := by decide +kernel
theorem cdX1_differing : yX1_differing.cls = RX1 ∧ yX1_differing.cls ≠ "java/lang/invoke/MethodHandle" ∧ yX1_differing.cls ≠ "java/lang/invoke/VarHandle" ∧ (parseMethodDescriptor yX1_differing.desc).map (fun d => d.parameters.length) = some 3 := by decide +kernel
set_option maxHeartbeats 4000000 in
set_option maxRecDepth 100000 in
theorem k_X1_kindAt (E : gE) (l : Launch) {a_P a_hs a_se : Nat} {W h z : Int} {hs : Int → Int} (hB : 1 ≤ W ∧ W ≤ 5 ∧ 1 ≤ h ∧ h ≤ 5) (hz : 0 ≤ z ∧ z < nsd W h) (hh : hB9 hs) : gFun E l yX1_kindAt wsX1_kindAt { frames := 2, cells := 0, slots := 0, locals := 49 } [.ref a_P, .int (iI z)] [(a_P, .inr (1, [.ref a_hs, .ref a_se, .int (iI W), .int (iI h)])), (a_hs, aI E 200 hs)] (.int (iI (kdI hs (nsd W h) z))) := by
  refine g_start (cc := cX1_kindAt) (maxL := 3) (ret := (some .int)) (by decide) rfl (Nat.le_of_ble_eq_true rfl) ?_
  intro p_ e_ s_ m_ args_ below_ meth_ c_ A_ C hr hnm
  have hn := nsd_b hB
  refine g_aload_n 1 C 0 dX1_kindAt_0 rfl rfl ?_
  refine g_iload_n 2 C 1 dX1_kindAt_1 rfl rfl ?_
  refine g_callVF 5 C [0, 1] dX1_kindAt_2 rfl (k_X1_bulges E l  (by first | assumption | omega) (by first | assumption | omega)) (cwV 1 C.2.2.2.2.1 gX1_kindAt_X1_bulges rfl rfl rfl cdX1_bulges ⟨Nat.le_of_ble_eq_true rfl, Nat.le_of_ble_eq_true rfl⟩) rfl rfl rfl rfl (Nat.le_of_ble_eq_true rfl) 0 1 rfl rfl rfl ⟨Nat.le_of_ble_eq_true rfl, Nat.le_of_ble_eq_true rfl⟩ ?_
  refine g_ifb_ne 10 8 C dX1_kindAt_5 (by decide) rfl ?_ ?_
  · intro h5
    refine g_iconst 11 C dX1_kindAt_10 rfl ?_
    refine g_istore_n (lv' := [(2, _), (0, _), (1, _)]) 12 C dX1_kindAt_11 rfl rfl (by decide) rfl ?_
    refine g_loop (α := Int) (fun zz => [(a_P, .inr (1, [.ref a_hs, .ref a_se, .int (iI W), .int (iI h)])), (a_hs, aI E 200 hs)]) (fun zz => [(2, .int (iI zz)), (1, .int (iI z)), (0, .ref a_P)]) (fun zz => 0 ≤ zz ∧ zz ≤ nsd W h ∧ ∀ j, 0 ≤ j → j < zz → j ≠ z → ¬ (dfI hs z j 0 = 0 ∨ dfI hs z j 1 = 0)) (fun zz => (nsd W h - zz).toNat) (0) (by
            try dsimp only
            exact ⟨by omega, by omega, fun j h1 h2 => absurd h1 (by omega)⟩) [0, 2, 1] rfl rfl ?_
    rintro k hI ih12
    try dsimp only at hI ih12 ⊢
    obtain ⟨hk0, hkn, hkk⟩ := hI
    refine g_iload_n 13 C 0 dX1_kindAt_12 rfl rfl ?_
    refine g_aload_n 14 C 2 dX1_kindAt_13 rfl rfl ?_
    refine g_callVF 17 C [0] dX1_kindAt_14 rfl (k_X1_sides E l  ) (cwV 0 C.2.2.2.2.1 gX1_kindAt_X1_sides rfl rfl rfl cdX1_sides ⟨Nat.le_of_ble_eq_true rfl, Nat.le_of_ble_eq_true rfl⟩) rfl rfl rfl rfl (Nat.le_of_ble_eq_true rfl) 0 1 rfl rfl rfl ⟨Nat.le_of_ble_eq_true rfl, Nat.le_of_ble_eq_true rfl⟩ ?_
    refine g_icmp_ge 53 20 C dX1_kindAt_17 (by decide) rfl (by omega) ?_ ?_
    · intro h17
      refine g_iconst 54 C dX1_kindAt_53 rfl ?_
      exact g_iret C hr dX1_kindAt_54 ⟨g_ri (((cI_t (by assumption)).trans (cI_f (fun ⟨j, a1, a2, a3, a4⟩ => hkk j a1 (by omega) a3 a4))).symm), rfl⟩
    · intro h17
      refine g_iload_n 21 C 0 dX1_kindAt_20 rfl rfl ?_
      refine g_iload_n 22 C 1 dX1_kindAt_21 rfl rfl ?_
      refine g_icmp_eq 47 25 C dX1_kindAt_22 (by decide) rfl (by omega) ?_ ?_
      · intro h22
        refine g_iinc (lv' := [(2, _), (1, _), (0, _)]) 50 C 0 dX1_kindAt_47 rfl rfl (by decide) rfl ?_
        refine g_goto 12 C dX1_kindAt_50 (by decide) ?_
        exact g_w [0, 1, 2] rfl rfl (ih12 ((k + 1)) (by
            try dsimp only
            exact ⟨by omega, by omega, fun j h1 h2 h3 => by
            by_cases e : j = k
            · subst e; omega
            · exact hkk j h1 (by omega) h3⟩) (by (try dsimp only); omega))
      · intro h22
        refine g_aload_n 26 C 2 dX1_kindAt_25 rfl rfl ?_
        refine g_iload_n 27 C 1 dX1_kindAt_26 rfl rfl ?_
        refine g_iload_n 28 C 0 dX1_kindAt_27 rfl rfl ?_
        refine g_iconst 29 C dX1_kindAt_28 rfl ?_
        refine g_callVF 32 C [0, 1] dX1_kindAt_29 rfl (k_X1_differing E l  (by first | assumption | omega) (by first | assumption | omega) (by first | assumption | omega) (by first | assumption | omega)) (cwV 3 C.2.2.2.2.1 gX1_kindAt_X1_differing rfl rfl rfl cdX1_differing ⟨Nat.le_of_ble_eq_true rfl, Nat.le_of_ble_eq_true rfl⟩) rfl rfl rfl rfl (Nat.le_of_ble_eq_true rfl) 0 1 rfl rfl rfl ⟨Nat.le_of_ble_eq_true rfl, Nat.le_of_ble_eq_true rfl⟩ ?_
        refine g_if_eq 45 35 C dX1_kindAt_32 (by decide) rfl (by have := cnI_b (fun j => htI hs z j 0 ≠ htI hs k j 0) (i := 5) (by omega); unfold dfI; omega) ?_ ?_
        · intro h32
          refine g_iconst 46 C dX1_kindAt_45 rfl ?_
          exact g_iret C hr dX1_kindAt_46 ⟨g_ri (((cI_t (by assumption)).trans (cI_t ⟨k, hk0, by omega, by omega, by omega⟩)).symm), rfl⟩
        · intro h32
          refine g_aload_n 36 C 2 dX1_kindAt_35 rfl rfl ?_
          refine g_iload_n 37 C 1 dX1_kindAt_36 rfl rfl ?_
          refine g_iload_n 38 C 0 dX1_kindAt_37 rfl rfl ?_
          refine g_iconst 39 C dX1_kindAt_38 rfl ?_
          refine g_callVF 42 C [0, 1] dX1_kindAt_39 rfl (k_X1_differing E l  (by first | assumption | omega) (by first | assumption | omega) (by first | assumption | omega) (by first | assumption | omega)) (cwV 3 C.2.2.2.2.1 gX1_kindAt_X1_differing rfl rfl rfl cdX1_differing ⟨Nat.le_of_ble_eq_true rfl, Nat.le_of_ble_eq_true rfl⟩) rfl rfl rfl rfl (Nat.le_of_ble_eq_true rfl) 0 1 rfl rfl rfl ⟨Nat.le_of_ble_eq_true rfl, Nat.le_of_ble_eq_true rfl⟩ ?_
          refine g_if_ne 47 45 C dX1_kindAt_42 (by decide) rfl (by have := cnI_b (fun j => htI hs z j 0 ≠ htI hs k j 1) (i := 5) (by omega); unfold dfI; omega) ?_ ?_
          · intro h42
            refine g_iinc (lv' := [(2, _), (1, _), (0, _)]) 50 C 0 dX1_kindAt_47 rfl rfl (by decide) rfl ?_
            refine g_goto 12 C dX1_kindAt_50 (by decide) ?_
            exact g_w [0, 1, 2] rfl rfl (ih12 ((k + 1)) (by
            try dsimp only
            exact ⟨by omega, by omega, fun j h1 h2 h3 => by
            by_cases e : j = k
            · subst e; omega
            · exact hkk j h1 (by omega) h3⟩) (by (try dsimp only); omega))
          · intro h42
            refine g_iconst 46 C dX1_kindAt_45 rfl ?_
            exact g_iret C hr dX1_kindAt_46 ⟨g_ri (((cI_t (by assumption)).trans (cI_t ⟨k, hk0, by omega, by omega, by omega⟩)).symm), rfl⟩
  · intro h5
    refine g_iconst 9 C dX1_kindAt_8 rfl ?_
    exact g_iret C hr dX1_kindAt_9 ⟨g_ri ((cI_f (by assumption)).symm), rfl⟩
theorem cdX1_setHeight : yX1_setHeight.cls = RX1 ∧ yX1_setHeight.cls ≠ "java/lang/invoke/MethodHandle" ∧ yX1_setHeight.cls ≠ "java/lang/invoke/VarHandle" ∧ (parseMethodDescriptor yX1_setHeight.desc).map (fun d => d.parameters.length) = some 3 := by decide +kernel
set_option maxHeartbeats 4000000 in
set_option maxRecDepth 100000 in
theorem k_X1_giveShape (E : gE) (l : Launch) {a_P a_hs a_se : Nat} {W h z o w : Int} {hs : Int → Int} (hz : 0 ≤ z ∧ z < 40) (ho : 0 ≤ o ∧ o < 40) (hw : w = 0 ∨ w = 1) (hh : hB9 hs) (hzo : z ≠ o) : gUpd E l yX1_giveShape wsX1_giveShape { frames := 2, cells := 0, slots := 0, locals := 49 } [.ref a_P, .int (iI z), .int (iI o), .int (iI w)] [(a_P, .inr (1, [.ref a_hs, .ref a_se, .int (iI W), .int (iI h)])), (a_hs, aI E 200 hs)] (some (.int (iI (dfI hs z o w)))) [(a_P, .inr (1, [.ref a_hs, .ref a_se, .int (iI W), .int (iI h)])), (a_hs, aI E 200 (gvI hs z o w 5))] := by
  refine g_start (cc := cX1_giveShape) (maxL := 6) (ret := (some .int)) (by decide) rfl (Nat.le_of_ble_eq_true rfl) ?_
  intro p_ e_ s_ m_ args_ below_ meth_ c_ A_ C hr hnm
  refine g_aload_n 1 C 0 dX1_giveShape_0 rfl rfl ?_
  refine g_iload_n 2 C 1 dX1_giveShape_1 rfl rfl ?_
  refine g_iload_n 3 C 2 dX1_giveShape_2 rfl rfl ?_
  refine g_iload_n 4 C 3 dX1_giveShape_3 rfl rfl ?_
  refine g_callVF 7 C [0, 1] dX1_giveShape_4 rfl (k_X1_differing E l  (by first | assumption | omega) (by first | assumption | omega) (by first | assumption | omega) (by first | assumption | omega)) (cwV 3 C.2.2.2.2.1 gX1_giveShape_X1_differing rfl rfl rfl cdX1_differing ⟨Nat.le_of_ble_eq_true rfl, Nat.le_of_ble_eq_true rfl⟩) rfl rfl rfl rfl (Nat.le_of_ble_eq_true rfl) 0 1 rfl rfl rfl ⟨Nat.le_of_ble_eq_true rfl, Nat.le_of_ble_eq_true rfl⟩ ?_
  refine g_istore (lv' := [(4, _), (0, _), (1, _), (2, _), (3, _)]) 9 C dX1_giveShape_7 rfl (by decide) rfl ?_
  refine g_iconst 10 C dX1_giveShape_9 rfl ?_
  refine g_istore (lv' := [(5, _), (4, _), (0, _), (1, _), (2, _), (3, _)]) 12 C dX1_giveShape_10 rfl (by decide) rfl ?_
  refine g_loop (α := Int) (fun zz => [(a_P, .inr (1, [.ref a_hs, .ref a_se, .int (iI W), .int (iI h)])), (a_hs, aI E 200 (gvI hs z o w zz))]) (fun zz => [(5, .int (iI zz)), (4, .int (iI (dfI hs z o w))), (3, .int (iI w)), (2, .int (iI o)), (1, .int (iI z)), (0, .ref a_P)]) (fun zz => 0 ≤ zz ∧ zz ≤ 5) (fun zz => (5 - zz).toNat) (0) (by (try dsimp only); omega) [0, 1, 5, 4, 3, 2] (by rw [gvI_0]) rfl ?_
  rintro i hI ih12
  try dsimp only at hI ih12 ⊢
  obtain ⟨hi0, hi5⟩ := hI
  refine g_iload 14 C 0 dX1_giveShape_12 rfl rfl ?_
  refine g_iconst 15 C dX1_giveShape_14 rfl ?_
  refine g_icmp_ge 39 18 C dX1_giveShape_15 (by decide) rfl (by omega) ?_ ?_
  · intro h15
    refine g_iload 41 C 1 dX1_giveShape_39 rfl rfl ?_
    exact g_iret C hr dX1_giveShape_41 ⟨g_ri (rfl), by rw [show i = 5 by omega]⟩
  · intro h15
    refine g_aload_n 19 C 5 dX1_giveShape_18 rfl rfl ?_
    refine g_iload_n 20 C 4 dX1_giveShape_19 rfl rfl ?_
    refine g_iload 22 C 0 dX1_giveShape_20 rfl rfl ?_
    refine g_aload_n 23 C 5 dX1_giveShape_22 rfl rfl ?_
    refine g_iload_n 24 C 3 dX1_giveShape_23 rfl rfl ?_
    refine g_iload 26 C 0 dX1_giveShape_24 rfl rfl ?_
    refine g_iload_n 27 C 2 dX1_giveShape_26 rfl rfl ?_
    refine g_callVF 30 C [0, 1] dX1_giveShape_27 rfl (k_X1_heightAt E l  (by first | assumption | omega) (by first | assumption | omega) (by first | assumption | omega)) (cwV 3 C.2.2.2.2.1 gX1_giveShape_X1_heightAt rfl rfl rfl cdX1_heightAt ⟨Nat.le_of_ble_eq_true rfl, Nat.le_of_ble_eq_true rfl⟩) rfl rfl rfl rfl (Nat.le_of_ble_eq_true rfl) 0 1 rfl rfl rfl ⟨Nat.le_of_ble_eq_true rfl, Nat.le_of_ble_eq_true rfl⟩ ?_
    refine g_callVU (ws' := [(_, .inr (1, [_, _, _, _])), (_, aI _ _ _)]) 33 C [0, 1] dX1_giveShape_30 rfl (k_X1_setHeight E l  (by first | assumption | omega) (by first | assumption | omega)) (cwV 3 C.2.2.2.2.1 gX1_giveShape_X1_setHeight rfl rfl rfl cdX1_setHeight ⟨Nat.le_of_ble_eq_true rfl, Nat.le_of_ble_eq_true rfl⟩) rfl rfl rfl rfl (Nat.le_of_ble_eq_true rfl) 0 1 rfl rfl rfl ⟨Nat.le_of_ble_eq_true rfl, Nat.le_of_ble_eq_true rfl⟩ rfl rfl ?_
    refine g_iinc (lv' := [(5, _), (4, _), (3, _), (2, _), (1, _), (0, _)]) 36 C 0 dX1_giveShape_33 rfl rfl (by decide) rfl ?_
    refine g_goto 12 C dX1_giveShape_36 (by decide) ?_
    exact g_w [0, 1, 2, 3, 4, 5] (by (try dsimp only); rw [← gvI_s hzo hi0 (by omega)]) rfl (ih12 ((i + 1)) (by (try dsimp only); omega) (by (try dsimp only); omega))
theorem cdX1_farness : yX1_farness.cls = RX1 ∧ yX1_farness.cls ≠ "java/lang/invoke/MethodHandle" ∧ yX1_farness.cls ≠ "java/lang/invoke/VarHandle" ∧ (parseMethodDescriptor yX1_farness.desc).map (fun d => d.parameters.length) = some 4 := by decide +kernel
theorem cdX1_isFlat : yX1_isFlat.cls = RX1 ∧ yX1_isFlat.cls ≠ "java/lang/invoke/MethodHandle" ∧ yX1_isFlat.cls ≠ "java/lang/invoke/VarHandle" ∧ (parseMethodDescriptor yX1_isFlat.desc).map (fun d => d.parameters.length) = some 2 := by decide +kernel
set_option maxHeartbeats 4000000 in
set_option maxRecDepth 100000 in
theorem k_X1_strangersApart (E : gE) (l : Launch) {a_P a_hs a_se : Nat} {W h a b : Int} {hs se : Int → Int} (hB : 1 ≤ W ∧ W ≤ 5 ∧ 1 ≤ h ∧ h ≤ 5) (ha : 0 ≤ a ∧ a < W * h * 4) (hb : 0 ≤ b ∧ b < W * h * 4) (hse : ∀ p e : Int, 0 ≤ p ∧ p < W * h → 0 ≤ e ∧ e < 4 → se (p * 4 + e) = sdI W h p e) (hh : hB9 hs) : gFun E l yX1_strangersApart wsX1_strangersApart { frames := 3, cells := 0, slots := 0, locals := 74 } [.ref a_P, .int (iI a), .int (iI b)] [(a_P, .inr (1, [.ref a_hs, .ref a_se, .int (iI W), .int (iI h)])), (a_hs, aI E 200 hs), (a_se, aI E 100 se)] (.int (iI (saI W h hs a b))) := by
  refine g_start (cc := cX1_strangersApart) (maxL := 7) (ret := (some .int)) (by decide) rfl (Nat.le_of_ble_eq_true rfl) ?_
  intro p_ e_ s_ m_ args_ below_ meth_ c_ A_ C hr hnm
  have hn := nsd_b hB
  have ea := sdI_b (p := a / 4) (e := a % 4) hB (by omega) (by omega)
  have eb := sdI_b (p := b / 4) (e := b % 4) hB (by omega) (by omega)
  refine g_iload_n 1 C 1 dX1_strangersApart_0 rfl rfl ?_
  refine g_iconst 2 C dX1_strangersApart_1 rfl ?_
  refine g_idiv 3 C dX1_strangersApart_2 rfl (by omega) ?_
  refine g_istore_n (lv' := [(3, _), (0, _), (1, _), (2, _)]) 4 C dX1_strangersApart_3 rfl rfl (by decide) rfl ?_
  refine g_iload_n 5 C 2 dX1_strangersApart_4 rfl rfl ?_
  refine g_iconst 6 C dX1_strangersApart_5 rfl ?_
  refine g_irem 7 C dX1_strangersApart_6 rfl (by omega) ?_
  refine g_istore (lv' := [(4, _), (3, _), (0, _), (1, _), (2, _)]) 9 C dX1_strangersApart_7 rfl (by decide) rfl ?_
  refine g_iload_n 10 C 4 dX1_strangersApart_9 rfl rfl ?_
  refine g_iconst 11 C dX1_strangersApart_10 rfl ?_
  refine g_idiv 12 C dX1_strangersApart_11 rfl (by omega) ?_
  refine g_istore (lv' := [(5, _), (4, _), (3, _), (0, _), (1, _), (2, _)]) 14 C dX1_strangersApart_12 rfl (by decide) rfl ?_
  refine g_iload_n 15 C 5 dX1_strangersApart_14 rfl rfl ?_
  refine g_iconst 16 C dX1_strangersApart_15 rfl ?_
  refine g_irem 17 C dX1_strangersApart_16 rfl (by omega) ?_
  refine g_istore (lv' := [(6, _), (5, _), (4, _), (3, _), (0, _), (1, _), (2, _)]) 19 C dX1_strangersApart_17 rfl (by decide) rfl ?_
  refine g_iload_n 20 C 3 dX1_strangersApart_19 rfl rfl ?_
  refine g_iload 22 C 1 dX1_strangersApart_20 rfl rfl ?_
  refine g_icmp_eq 64 25 C dX1_strangersApart_22 (by decide) rfl (by omega) ?_ ?_
  · intro h22
    refine g_bipush 66 C dX1_strangersApart_64 rfl (by decide) ?_
    exact g_iret C hr dX1_strangersApart_66 ⟨g_ri ((if_pos (by omega)).symm), rfl⟩
  · intro h22
    refine g_aload_n 26 C 4 dX1_strangersApart_25 rfl rfl ?_
    refine g_iload_n 27 C 3 dX1_strangersApart_26 rfl rfl ?_
    refine g_iload 29 C 2 dX1_strangersApart_27 rfl rfl ?_
    refine g_callVF 32 C [0, 2] dX1_strangersApart_29 rfl (k_X1_isFlat E l  (by first | assumption | omega) (by first | assumption | omega) (by first | assumption | omega) (by first | assumption | omega)) (cwV 2 C.2.2.2.2.1 gX1_strangersApart_X1_isFlat rfl rfl rfl cdX1_isFlat ⟨Nat.le_of_ble_eq_true rfl, Nat.le_of_ble_eq_true rfl⟩) rfl rfl rfl rfl (Nat.le_of_ble_eq_true rfl) 0 1 rfl rfl rfl ⟨Nat.le_of_ble_eq_true rfl, Nat.le_of_ble_eq_true rfl⟩ ?_
    refine g_ifb_ne 64 35 C dX1_strangersApart_32 (by decide) rfl ?_ ?_
    · intro h32
      refine g_bipush 66 C dX1_strangersApart_64 rfl (by decide) ?_
      exact g_iret C hr dX1_strangersApart_66 ⟨g_ri ((if_pos (by omega)).symm), rfl⟩
    · intro h32
      refine g_aload_n 36 C 4 dX1_strangersApart_35 rfl rfl ?_
      refine g_iload 38 C 1 dX1_strangersApart_36 rfl rfl ?_
      refine g_iload 40 C 0 dX1_strangersApart_38 rfl rfl ?_
      refine g_callVF 43 C [0, 2] dX1_strangersApart_40 rfl (k_X1_isFlat E l  (by first | assumption | omega) (by first | assumption | omega) (by first | assumption | omega) (by first | assumption | omega)) (cwV 2 C.2.2.2.2.1 gX1_strangersApart_X1_isFlat rfl rfl rfl cdX1_isFlat ⟨Nat.le_of_ble_eq_true rfl, Nat.le_of_ble_eq_true rfl⟩) rfl rfl rfl rfl (Nat.le_of_ble_eq_true rfl) 0 1 rfl rfl rfl ⟨Nat.le_of_ble_eq_true rfl, Nat.le_of_ble_eq_true rfl⟩ ?_
      refine g_ifb_ne 64 46 C dX1_strangersApart_43 (by decide) rfl ?_ ?_
      · intro h43
        refine g_bipush 66 C dX1_strangersApart_64 rfl (by decide) ?_
        exact g_iret C hr dX1_strangersApart_66 ⟨g_ri ((if_pos (by omega)).symm), rfl⟩
      · intro h43
        refine g_aload_n 47 C 4 dX1_strangersApart_46 rfl rfl ?_
        refine g_iload_n 48 C 3 dX1_strangersApart_47 rfl rfl ?_
        refine g_iload 50 C 2 dX1_strangersApart_48 rfl rfl ?_
        refine g_callVF 53 C [0, 2] dX1_strangersApart_50 rfl (k_X1_sideAt E l  (by first | assumption | omega) (by first | assumption | omega) (by first | assumption | omega) (by first | assumption | omega)) (cwV 2 C.2.2.2.2.1 gX1_strangersApart_X1_sideAt rfl rfl rfl cdX1_sideAt ⟨Nat.le_of_ble_eq_true rfl, Nat.le_of_ble_eq_true rfl⟩) rfl rfl rfl rfl (Nat.le_of_ble_eq_true rfl) 0 1 rfl rfl rfl ⟨Nat.le_of_ble_eq_true rfl, Nat.le_of_ble_eq_true rfl⟩ ?_
        refine g_aload_n 54 C 4 dX1_strangersApart_53 rfl rfl ?_
        refine g_iload 56 C 1 dX1_strangersApart_54 rfl rfl ?_
        refine g_iload 58 C 0 dX1_strangersApart_56 rfl rfl ?_
        refine g_callVF 61 C [0, 2] dX1_strangersApart_58 rfl (k_X1_sideAt E l  (by first | assumption | omega) (by first | assumption | omega) (by first | assumption | omega) (by first | assumption | omega)) (cwV 2 C.2.2.2.2.1 gX1_strangersApart_X1_sideAt rfl rfl rfl cdX1_sideAt ⟨Nat.le_of_ble_eq_true rfl, Nat.le_of_ble_eq_true rfl⟩) rfl rfl rfl rfl (Nat.le_of_ble_eq_true rfl) 0 1 rfl rfl rfl ⟨Nat.le_of_ble_eq_true rfl, Nat.le_of_ble_eq_true rfl⟩ ?_
        refine g_icmp_ne 67 64 C dX1_strangersApart_61 (by decide) rfl (by omega) ?_ ?_
        · intro h61
          refine g_aload_n 68 C 4 dX1_strangersApart_67 rfl rfl ?_
          refine g_iload_n 69 C 3 dX1_strangersApart_68 rfl rfl ?_
          refine g_iload 71 C 2 dX1_strangersApart_69 rfl rfl ?_
          refine g_iload 73 C 1 dX1_strangersApart_71 rfl rfl ?_
          refine g_iload 75 C 0 dX1_strangersApart_73 rfl rfl ?_
          refine g_callVF 78 C [0, 1, 2] dX1_strangersApart_75 rfl (k_X1_farness E l  (by first | assumption | omega) (by first | assumption | omega) (by first | assumption | omega) (by first | assumption | omega) (by first | assumption | omega) (by first | assumption | omega) (by first | assumption | omega) (by first | assumption | omega) (by first | assumption | omega)) (cwV 4 C.2.2.2.2.1 gX1_strangersApart_X1_farness rfl rfl rfl cdX1_farness ⟨Nat.le_of_ble_eq_true rfl, Nat.le_of_ble_eq_true rfl⟩) rfl rfl rfl rfl (Nat.le_of_ble_eq_true rfl) 0 1 rfl rfl rfl ⟨Nat.le_of_ble_eq_true rfl, Nat.le_of_ble_eq_true rfl⟩ ?_
          exact g_iret C hr dX1_strangersApart_78 ⟨g_ri ((if_neg (by omega)).symm), rfl⟩
        · intro h61
          refine g_bipush 66 C dX1_strangersApart_64 rfl (by decide) ?_
          exact g_iret C hr dX1_strangersApart_66 ⟨g_ri ((if_pos (by omega)).symm), rfl⟩
theorem cdX1_strangersApart : yX1_strangersApart.cls = RX1 ∧ yX1_strangersApart.cls ≠ "java/lang/invoke/MethodHandle" ∧ yX1_strangersApart.cls ≠ "java/lang/invoke/VarHandle" ∧ (parseMethodDescriptor yX1_strangersApart.desc).map (fun d => d.parameters.length) = some 2 := by decide +kernel
set_option maxHeartbeats 4000000 in
set_option maxRecDepth 100000 in
theorem k_X1_leastFar (E : gE) (l : Launch) {a_P a_hs a_se : Nat} {W h : Int} {hs se : Int → Int} (hB : 1 ≤ W ∧ W ≤ 5 ∧ 1 ≤ h ∧ h ≤ 5) (hse : ∀ p e : Int, 0 ≤ p ∧ p < W * h → 0 ≤ e ∧ e < 4 → se (p * 4 + e) = sdI W h p e) (hh : hB9 hs) : gMet E l yX1_leastFar wsX1_leastFar { frames := 4, cells := 0, slots := 0, locals := 100 } 0 0 [.ref a_P] [(a_P, .inr (1, [.ref a_hs, .ref a_se, .int (iI W), .int (iI h)])), (a_hs, aI E 200 hs), (a_se, aI E 100 se)] (fun v w => ∃ r : Int, (v = some (.int (iI r)) ∧ lfP W h hs (fun x y => 0 ≤ x ∧ x < y ∧ y < W * h * 4) r) ∧ w = [(a_P, .inr (1, [.ref a_hs, .ref a_se, .int (iI W), .int (iI h)])), (a_hs, aI E 200 hs), (a_se, aI E 100 se)]) := by
  refine g_start (cc := cX1_leastFar) (maxL := 5) (ret := (some .int)) (by decide) rfl (Nat.le_of_ble_eq_true rfl) ?_
  intro p_ e_ s_ m_ args_ below_ meth_ c_ A_ C hr hnm
  have hn := nsd_b hB
  refine g_bipush 2 C dX1_leastFar_0 rfl (by decide) ?_
  refine g_istore_n (lv' := [(1, _), (0, _)]) 3 C dX1_leastFar_2 rfl rfl (by decide) rfl ?_
  refine g_iconst 4 C dX1_leastFar_3 rfl ?_
  refine g_istore_n (lv' := [(2, _), (1, _), (0, _)]) 5 C dX1_leastFar_4 rfl rfl (by decide) rfl ?_
  refine g_loop (α := Int × Int) (fun zz => [(a_P, .inr (1, [.ref a_hs, .ref a_se, .int (iI W), .int (iI h)])), (a_hs, aI E 200 hs), (a_se, aI E 100 se)]) (fun zz => [(1, .int (iI zz.1)), (2, .int (iI zz.2)), (0, .ref a_P)]) (fun zz => (0 ≤ zz.2 ∧ zz.2 ≤ W * h * 4) ∧ (-9 ≤ zz.1 ∧ zz.1 ≤ 90) ∧ lfP W h hs (fun x y => 0 ≤ x ∧ x < y ∧ y < W * h * 4 ∧ x < zz.2) zz.1) (fun zz => (W * h * 4 - zz.2).toNat) (-9, 0) (by
            try dsimp only
            exact ⟨by omega, by omega, lfP_0 (fun x y q => by omega)⟩) [1, 0, 2] rfl rfl ?_
  rintro ⟨r, a⟩ hI ih5
  try dsimp only at hI ih5 ⊢
  obtain ⟨ha, hr9, hL⟩ := hI
  refine g_iload_n 6 C 1 dX1_leastFar_5 rfl rfl ?_
  refine g_aload_n 7 C 2 dX1_leastFar_6 rfl rfl ?_
  refine g_callVF 10 C [0] dX1_leastFar_7 rfl (k_X1_pieces E l  ) (cwV 0 C.2.2.2.2.1 gX1_leastFar_X1_pieces rfl rfl rfl cdX1_pieces ⟨Nat.le_of_ble_eq_true rfl, Nat.le_of_ble_eq_true rfl⟩) rfl rfl rfl rfl (Nat.le_of_ble_eq_true rfl) 0 1 rfl rfl rfl ⟨Nat.le_of_ble_eq_true rfl, Nat.le_of_ble_eq_true rfl⟩ ?_
  refine g_iconst 11 C dX1_leastFar_10 rfl ?_
  refine g_imul 12 C dX1_leastFar_11 rfl ?_
  refine g_icmp_ge 71 15 C dX1_leastFar_12 (by decide) rfl (by omega) ?_ ?_
  · intro h12
    refine g_iload_n 72 C 0 dX1_leastFar_71 rfl rfl ?_
    exact g_iret C hr dX1_leastFar_72 ⟨_, ⟨rfl, lfP_c (fun x y => by omega) hL⟩, rfl⟩
  · intro h12
    refine g_iload_n 16 C 1 dX1_leastFar_15 rfl rfl ?_
    refine g_iconst 17 C dX1_leastFar_16 rfl ?_
    refine g_iadd 18 C dX1_leastFar_17 rfl ?_
    refine g_istore_n (lv' := [(3, _), (1, _), (2, _), (0, _)]) 19 C dX1_leastFar_18 rfl rfl (by decide) rfl ?_
    refine g_loop (α := Int × Int) (fun zz => [(a_P, .inr (1, [.ref a_hs, .ref a_se, .int (iI W), .int (iI h)])), (a_hs, aI E 200 hs), (a_se, aI E 100 se)]) (fun zz => [(3, .int (iI zz.2)), (1, .int (iI zz.1)), (2, .int (iI a)), (0, .ref a_P)]) (fun zz => (a < zz.2 ∧ zz.2 ≤ W * h * 4) ∧ (-9 ≤ zz.1 ∧ zz.1 ≤ 90) ∧ lfP W h hs (fun x y => 0 ≤ x ∧ x < y ∧ y < W * h * 4 ∧ (x < a ∨ (x = a ∧ y < zz.2))) zz.1) (fun zz => (W * h * 4 - zz.2).toNat) (r, (a + 1)) (by
            try dsimp only
            exact ⟨by omega, by omega, lfP_c (fun x y => by omega) hL⟩) [0, 1, 2, 3] rfl rfl ?_
    rintro ⟨r, b⟩ hI ih19
    try dsimp only at hI ih19 ⊢
    obtain ⟨hb, hr9, hM⟩ := hI
    refine g_iload_n 20 C 0 dX1_leastFar_19 rfl rfl ?_
    refine g_aload_n 21 C 3 dX1_leastFar_20 rfl rfl ?_
    refine g_callVF 24 C [0] dX1_leastFar_21 rfl (k_X1_pieces E l  ) (cwV 0 C.2.2.2.2.1 gX1_leastFar_X1_pieces rfl rfl rfl cdX1_pieces ⟨Nat.le_of_ble_eq_true rfl, Nat.le_of_ble_eq_true rfl⟩) rfl rfl rfl rfl (Nat.le_of_ble_eq_true rfl) 0 1 rfl rfl rfl ⟨Nat.le_of_ble_eq_true rfl, Nat.le_of_ble_eq_true rfl⟩ ?_
    refine g_iconst 25 C dX1_leastFar_24 rfl ?_
    refine g_imul 26 C dX1_leastFar_25 rfl ?_
    refine g_icmp_ge 65 29 C dX1_leastFar_26 (by decide) rfl (by omega) ?_ ?_
    · intro h26
      refine g_iinc (lv' := [(2, _), (3, _), (1, _), (0, _)]) 68 C 2 dX1_leastFar_65 rfl rfl (by decide) rfl ?_
      refine g_goto 5 C dX1_leastFar_68 (by decide) ?_
      exact g_w [2, 0, 3] rfl rfl (ih5 (r, (a + 1)) (by
            try dsimp only
            exact ⟨by omega, by omega, lfP_c (fun x y => by omega) hM⟩) (by (try dsimp only); omega))
    · intro h26
      refine g_aload_n 30 C 3 dX1_leastFar_29 rfl rfl ?_
      refine g_iload_n 31 C 2 dX1_leastFar_30 rfl rfl ?_
      refine g_iload_n 32 C 0 dX1_leastFar_31 rfl rfl ?_
      refine g_callVF 35 C [0, 1, 2] dX1_leastFar_32 rfl (k_X1_strangersApart E l  (by first | assumption | omega) (by first | assumption | omega) (by first | assumption | omega) (by first | assumption | omega) (by first | assumption | omega)) (cwV 2 C.2.2.2.2.1 gX1_leastFar_X1_strangersApart rfl rfl rfl cdX1_strangersApart ⟨Nat.le_of_ble_eq_true rfl, Nat.le_of_ble_eq_true rfl⟩) rfl rfl rfl rfl (Nat.le_of_ble_eq_true rfl) 0 1 rfl rfl rfl ⟨Nat.le_of_ble_eq_true rfl, Nat.le_of_ble_eq_true rfl⟩ ?_
      refine g_istore (lv' := [(4, _), (3, _), (1, _), (2, _), (0, _)]) 37 C dX1_leastFar_35 rfl (by decide) rfl ?_
      have e0 := saI_b (W := W) (h := h) hh a b
      refine g_iload 39 C 0 dX1_leastFar_37 rfl rfl ?_
      refine g_bipush 41 C dX1_leastFar_39 rfl (by decide) ?_
      refine g_icmp_eq 59 44 C dX1_leastFar_41 (by decide) rfl (by omega) ?_ ?_
      · intro h41
        refine g_iinc (lv' := [(3, _), (4, _), (1, _), (2, _), (0, _)]) 62 C 1 dX1_leastFar_59 rfl rfl (by decide) rfl ?_
        refine g_goto 19 C dX1_leastFar_62 (by decide) ?_
        first
        | exact g_w [0, 2, 3, 4] rfl rfl (ih19 (r, (b + 1)) (by
            try dsimp only
            exact ⟨by omega, by omega, by
            have q := lfP_s (D' := fun x y => 0 ≤ x ∧ x < y ∧ y < W * h * 4 ∧ (x < a ∨ (x = a ∧ y < b + 1))) (c := a) (d := b) hh hM (fun x y => by omega)
            first | rwa [if_pos (by omega)] at q | rwa [if_neg (by omega)] at q⟩) (by (try dsimp only); omega))
        | exact g_w [0, 2, 3, 4] rfl rfl (ih19 ((saI W h hs a b), (b + 1)) (by
            try dsimp only
            exact ⟨by omega, by omega, by
            have q := lfP_s (D' := fun x y => 0 ≤ x ∧ x < y ∧ y < W * h * 4 ∧ (x < a ∨ (x = a ∧ y < b + 1))) (c := a) (d := b) hh hM (fun x y => by omega)
            first | rwa [if_pos (by omega)] at q | rwa [if_neg (by omega)] at q⟩) (by (try dsimp only); omega))
      · intro h41
        refine g_iload_n 45 C 2 dX1_leastFar_44 rfl rfl ?_
        refine g_bipush 47 C dX1_leastFar_45 rfl (by decide) ?_
        refine g_icmp_eq 56 50 C dX1_leastFar_47 (by decide) rfl (by omega) ?_ ?_
        · intro h47
          refine g_iload 58 C 0 dX1_leastFar_56 rfl rfl ?_
          refine g_istore_n (lv' := [(1, _), (4, _), (3, _), (2, _), (0, _)]) 59 C dX1_leastFar_58 rfl rfl (by decide) rfl ?_
          refine g_iinc (lv' := [(3, _), (1, _), (4, _), (2, _), (0, _)]) 62 C 2 dX1_leastFar_59 rfl rfl (by decide) rfl ?_
          refine g_goto 19 C dX1_leastFar_62 (by decide) ?_
          first
          | exact g_w [0, 1, 3, 4] rfl rfl (ih19 (r, (b + 1)) (by
            try dsimp only
            exact ⟨by omega, by omega, by
            have q := lfP_s (D' := fun x y => 0 ≤ x ∧ x < y ∧ y < W * h * 4 ∧ (x < a ∨ (x = a ∧ y < b + 1))) (c := a) (d := b) hh hM (fun x y => by omega)
            first | rwa [if_pos (by omega)] at q | rwa [if_neg (by omega)] at q⟩) (by (try dsimp only); omega))
          | exact g_w [0, 1, 3, 4] rfl rfl (ih19 ((saI W h hs a b), (b + 1)) (by
            try dsimp only
            exact ⟨by omega, by omega, by
            have q := lfP_s (D' := fun x y => 0 ≤ x ∧ x < y ∧ y < W * h * 4 ∧ (x < a ∨ (x = a ∧ y < b + 1))) (c := a) (d := b) hh hM (fun x y => by omega)
            first | rwa [if_pos (by omega)] at q | rwa [if_neg (by omega)] at q⟩) (by (try dsimp only); omega))
        · intro h47
          refine g_iload 52 C 0 dX1_leastFar_50 rfl rfl ?_
          refine g_iload_n 53 C 2 dX1_leastFar_52 rfl rfl ?_
          refine g_icmp_ge 59 56 C dX1_leastFar_53 (by decide) rfl (by omega) ?_ ?_
          · intro h53
            refine g_iinc (lv' := [(3, _), (4, _), (1, _), (2, _), (0, _)]) 62 C 1 dX1_leastFar_59 rfl rfl (by decide) rfl ?_
            refine g_goto 19 C dX1_leastFar_62 (by decide) ?_
            first
            | exact g_w [0, 2, 3, 4] rfl rfl (ih19 (r, (b + 1)) (by
            try dsimp only
            exact ⟨by omega, by omega, by
            have q := lfP_s (D' := fun x y => 0 ≤ x ∧ x < y ∧ y < W * h * 4 ∧ (x < a ∨ (x = a ∧ y < b + 1))) (c := a) (d := b) hh hM (fun x y => by omega)
            first | rwa [if_pos (by omega)] at q | rwa [if_neg (by omega)] at q⟩) (by (try dsimp only); omega))
            | exact g_w [0, 2, 3, 4] rfl rfl (ih19 ((saI W h hs a b), (b + 1)) (by
            try dsimp only
            exact ⟨by omega, by omega, by
            have q := lfP_s (D' := fun x y => 0 ≤ x ∧ x < y ∧ y < W * h * 4 ∧ (x < a ∨ (x = a ∧ y < b + 1))) (c := a) (d := b) hh hM (fun x y => by omega)
            first | rwa [if_pos (by omega)] at q | rwa [if_neg (by omega)] at q⟩) (by (try dsimp only); omega))
          · intro h53
            refine g_iload 58 C 0 dX1_leastFar_56 rfl rfl ?_
            refine g_istore_n (lv' := [(1, _), (4, _), (3, _), (2, _), (0, _)]) 59 C dX1_leastFar_58 rfl rfl (by decide) rfl ?_
            refine g_iinc (lv' := [(3, _), (1, _), (4, _), (2, _), (0, _)]) 62 C 2 dX1_leastFar_59 rfl rfl (by decide) rfl ?_
            refine g_goto 19 C dX1_leastFar_62 (by decide) ?_
            first
            | exact g_w [0, 1, 3, 4] rfl rfl (ih19 (r, (b + 1)) (by
            try dsimp only
            exact ⟨by omega, by omega, by
            have q := lfP_s (D' := fun x y => 0 ≤ x ∧ x < y ∧ y < W * h * 4 ∧ (x < a ∨ (x = a ∧ y < b + 1))) (c := a) (d := b) hh hM (fun x y => by omega)
            first | rwa [if_pos (by omega)] at q | rwa [if_neg (by omega)] at q⟩) (by (try dsimp only); omega))
            | exact g_w [0, 1, 3, 4] rfl rfl (ih19 ((saI W h hs a b), (b + 1)) (by
            try dsimp only
            exact ⟨by omega, by omega, by
            have q := lfP_s (D' := fun x y => 0 ≤ x ∧ x < y ∧ y < W * h * 4 ∧ (x < a ∨ (x = a ∧ y < b + 1))) (c := a) (d := b) hh hM (fun x y => by omega)
            first | rwa [if_pos (by omega)] at q | rwa [if_neg (by omega)] at q⟩) (by (try dsimp only); omega))
