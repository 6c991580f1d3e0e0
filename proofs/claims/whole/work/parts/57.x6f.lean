theorem nar_c {P : Prop} : narrow .boolean (.int (iI (cI P 1 0))) = .int (iI (cI P 1 0)) := by
  by_cases h : P
  · rw [cI_t h]; rfl
  · rw [cI_f h]; rfl
theorem uI_self (f : Int → Int) (z : Int) : uI f z (f z) = f := by
  funext j
  unfold uI
  by_cases e : j = z
  · rw [if_pos e, e]
  · rw [if_neg e]
def msI (n k : Int) (qa qf us q u : Int → Int) : Prop := (∀ j : Int, 0 ≤ j ∧ j ≤ k → q j = qa j * 4 + qf j ∧ (0 ≤ qa j ∧ qa j ≤ n) ∧ (-1 ≤ qf j ∧ qf j ≤ 3) ∧ (j < k → 0 ≤ qf j ∧ qa j < n) ∧ (qf j = -1 → qa j = 0)) ∧ ∀ j : Int, 0 ≤ j ∧ j < n → u j = us j ∧ (us j = 0 ∨ us j = 1)
section MS
variable {n k a r : Int} {qa qf us q u : Int → Int}
theorem ms_0 {i : Int} (hi : 25 ≤ i) (hn : 0 ≤ n ∧ n ≤ 25) : msI n 0 (uI qa 0 0) (uI qf 0 (-1)) (zrI us i) (fun _ => -1) (fun _ => 0) := by
  refine ⟨fun j hj => ?_, fun j hj => ?_⟩
  · have e : j = 0 := by omega
    rw [e, uI_eq, uI_eq]; dsimp only; omega
  · have e : zrI us i j = 0 := if_pos (by omega)
    rw [e]; exact ⟨rfl, Or.inl rfl⟩
theorem ms_b0 (hk : k = 0) (h : msI n k qa qf us q u) {qa2 qf2 q2 : Int → Int} : msI n (k + -1) qa2 qf2 us q2 u := ⟨fun j hj => by omega, h.2⟩
theorem ms_bk (hk : 0 < k) (hn : 0 ≤ n ∧ n ≤ 25) (h : msI n k qa qf us q u) {x : Int} : msI n (k + -1) (uI qa k a) (uI qf k r) (uI us (uI qa k a (k + -1)) 0) (uI q k x) (uI u (q (k - 1) / 4) 0) := by
  have h1 := h.1 (k + -1) (by omega)
  rw [show k - 1 = k + -1 by omega, uI_ne (f := qa) (by omega), show q (k + -1) / 4 = qa (k + -1) by omega]
  refine ⟨fun j hj => ?_, fun j hj => ?_⟩
  · have h2 := h.1 j (by omega)
    rw [uI_ne (by omega), uI_ne (by omega), uI_ne (by omega)]
    exact ⟨h2.1, h2.2.1, h2.2.2.1, fun z => h2.2.2.2.1 (by omega), h2.2.2.2.2⟩
  · by_cases z : j = qa (k + -1)
    · rw [z, uI_eq, uI_eq]; exact ⟨rfl, Or.inl rfl⟩
    · rw [uI_ne z, uI_ne z]; exact h.2 j hj
theorem ms_st (ha : 0 ≤ a ∧ a < n) (hr : 0 ≤ r ∧ r < 4) (h : msI n k qa qf us q u) : msI n k (uI qa k a) (uI qf k r) us (uI q k (a * 4 + r)) u := by
  refine ⟨fun j hj => ?_, h.2⟩
  by_cases z : j = k
  · rw [z, uI_eq, uI_eq, uI_eq]; omega
  · rw [uI_ne z, uI_ne z, uI_ne z]; exact h.1 j hj
theorem ms_dn (ha : 0 ≤ a ∧ a < n) (hr : 0 ≤ r ∧ r < 4) (h : msI n k qa qf us q u) : msI n (k + 1) (uI (uI qa k a) (k + 1) 0) (uI (uI qf k r) (k + 1) (-1)) (uI us (uI qa k a k) 1) (uI (uI q k (a * 4 + r)) (k + 1) (-1)) (uI u a 1) := by
  rw [uI_eq]
  refine ⟨fun j hj => ?_, fun j hj => ?_⟩
  · by_cases z : j = k + 1
    · rw [z, uI_eq, uI_eq, uI_eq]; omega
    · rw [uI_ne z, uI_ne z, uI_ne z]
      by_cases y : j = k
      · rw [y, uI_eq, uI_eq, uI_eq]; omega
      · rw [uI_ne y, uI_ne y, uI_ne y]
        have h2 := h.1 j (by omega)
        exact ⟨h2.1, h2.2.1, h2.2.2.1, fun _ => h2.2.2.2.1 (by omega), h2.2.2.2.2⟩
  · by_cases z : j = a
    · rw [z, uI_eq, uI_eq]; exact ⟨rfl, Or.inr rfl⟩
    · rw [uI_ne z, uI_ne z]; exact h.2 j hj
theorem ms_q (ha : 0 ≤ a ∧ a < n) (hr : 0 ≤ r ∧ r < 4) (h : msI n k qa qf us q u) : ∀ j : Int, 0 ≤ j ∧ j ≤ k → (uI qa k a j = uI q k (a * 4 + r) j / 4 ∧ uI qf k r j = uI q k (a * 4 + r) j % 4) ∧ 0 ≤ uI q k (a * 4 + r) j ∧ uI q k (a * 4 + r) j < n * 4 := by
  intro j hj
  by_cases z : j = k
  · rw [z, uI_eq, uI_eq, uI_eq]; omega
  · rw [uI_ne z, uI_ne z, uI_ne z]
    have h2 := h.1 j hj
    have h3 := h2.2.2.2.1 (by omega)
    omega
end MS
theorem fin_e (F : (Int → Int) → Int → Prop) (n N fo : Int) {s fin t : gS} {m0 m : Nat} (hfin : itS F n N fo m0 s = fin) (hneg : fin.1 < 0) (hm : itS F n N fo m s = t) (ht : t.1 < 0) : t = fin := by
  rw [← hm, ← hfin]
  exact it_fin (by rw [hm]; exact ht) (by rw [hfin]; exact hneg)
section GL
variable {p : Program} {l : Launch} {e : Env} {R : Room} {s : State} {m : MethodId} {args : Array Value} {below : List Frame} {meth : Method} {c : Code} {cells slots : Nat} {Q : State → Prop} {E : gE} {A : Nat → Prop} {nL : Nat} {ws : va_W} {lv : List (Nat × Value)} {pc : Nat} {st : List Value}
theorem g_bsplit {P : Prop} {inst : Decidable P} (kt : P → gJ p l e R s m args below meth c cells slots Q E A nL ws lv pc (.int (iI 1) :: st)) (kf : ¬ P → gJ p l e R s m args below meth c cells slots Q E A nL ws lv pc (.int (iI 0) :: st)) : gJ p l e R s m args below meth c cells slots Q E A nL ws lv pc (.int (iI (@ite Int P inst 1 0)) :: st) := by
  by_cases h : P
  · rw [if_pos h]; exact kt h
  · rw [if_neg h]; exact kf h
end GL
theorem lX6_edgeOn_16 : Cond.fieldLink RX6 16 (TX6 9).1 (TX6 9).2.1 (TX6 9).2.2.1 ∈ wsX6_edgeOn := by decide +kernel
theorem lX6_edgeOn_19 : Cond.fieldLink RX6 19 (TX6 12).1 (TX6 12).2.1 (TX6 12).2.2.1 ∈ wsX6_edgeOn := by decide +kernel
theorem lX6_edgeOn_22 : Cond.fieldLink RX6 22 (TX6 13).1 (TX6 13).2.1 (TX6 13).2.2.1 ∈ wsX6_edgeOn := by decide +kernel
theorem iX6_edgeOn_X6 : ∀ w ∈ u_ws RX6 TX6 23, w ∈ wsX6_edgeOn := by decide +kernel
set_option maxHeartbeats 4000000 in
set_option maxRecDepth 100000 in
theorem k_X6_edgeOn (E : gE) (l : Launch) {a_M a_Ma a_Mc a_Mg a_Mh a_Mi a_Ml a_Mp a_Ms a_Mt a_Mu a_Mx a_My : Nat} {k e v : Int} {pc tn : Int → Int} {qa qf : Int → Int} {mf W h mL mN n tc fd jo tr : Int} {md : Int64} (hn : 0 ≤ n ∧ n ≤ 25) (hpw : ∀ j : Int, 0 ≤ j ∧ j < n → (0 ≤ pc j ∧ pc j < W * h) ∧ 0 ≤ tn j ∧ tn j < 4) (he : 0 ≤ e ∧ e < 4) (hk : 0 ≤ k ∧ k < 25) (hq : (qa k = v / 4 ∧ qf k = v % 4) ∧ 0 ≤ v ∧ v < n * 4) : gFun E l yX6_edgeOn wsX6_edgeOn { frames := 0, cells := 0, slots := 0, locals := 0 } [.ref a_M, .int (iI k), .int (iI e)] [(a_M, .inr (6, [.int (iI mf), .int (iI W), .int (iI h), .ref a_Mh, .long md, .int (iI mL), .int (iI mN), .int (iI n), .ref a_Mp, .ref a_Mt, .int (iI tc), .int (iI fd), .ref a_Ma, .ref a_Mu, .ref a_Mi, .int (iI jo), .ref a_Mx, .ref a_My, .ref a_Ms, .ref a_Ml, .ref a_Mc, .ref a_Mg, .int (iI tr)])), (a_Mt, aI E 25 tn), (a_Ma, aI E 26 qa), (a_Mu, aI E 26 qf)] (.int (iI (edI tn v e))) := by
  refine g_start (cc := cX6_edgeOn) (maxL := 3) (ret := (some .int)) (by decide) rfl (Nat.le_of_ble_eq_true rfl) ?_
  intro p_ e_ s_ m_ args_ below_ meth_ c_ A_ C hr hnm
  have ht := (hpw (qa k) (by omega)).2
  refine g_iload_n 1 C 2 dX6_edgeOn_0 rfl rfl ?_
  refine g_bipush 3 C dX6_edgeOn_1 rfl (by decide) ?_
  refine g_iadd 4 C dX6_edgeOn_3 rfl ?_
  refine g_aload_n 5 C 0 dX6_edgeOn_4 rfl rfl ?_
  refine g_get 8 C 0 9 6 iX6_edgeOn_X6 lX6_edgeOn_16 dX6_edgeOn_5 rfl rfl rfl (by decide) rfl ?_
  refine g_aload_n 9 C 0 dX6_edgeOn_8 rfl rfl ?_
  refine g_get 12 C 0 12 6 iX6_edgeOn_X6 lX6_edgeOn_19 dX6_edgeOn_9 rfl rfl rfl (by decide) rfl ?_
  refine g_iload_n 13 C 1 dX6_edgeOn_12 rfl rfl ?_
  refine g_iaload 14 C 2 dX6_edgeOn_13 rfl rfl (by omega) ?_
  refine g_iaload 15 C 1 dX6_edgeOn_14 rfl rfl (by omega) ?_
  refine g_isub 16 C dX6_edgeOn_15 rfl ?_
  refine g_aload_n 17 C 0 dX6_edgeOn_16 rfl rfl ?_
  refine g_get 20 C 0 13 6 iX6_edgeOn_X6 lX6_edgeOn_22 dX6_edgeOn_17 rfl rfl rfl (by decide) rfl ?_
  refine g_iload_n 21 C 1 dX6_edgeOn_20 rfl rfl ?_
  refine g_iaload 22 C 3 dX6_edgeOn_21 rfl rfl (by omega) ?_
  refine g_isub 23 C dX6_edgeOn_22 rfl ?_
  refine g_iconst 24 C dX6_edgeOn_23 rfl ?_
  refine g_irem 25 C dX6_edgeOn_24 rfl (by omega) ?_
  exact g_iret C hr dX6_edgeOn_25 ⟨g_ri (by unfold edI; rw [hq.1.1, hq.1.2]), rfl⟩
theorem cdX6_edgeOn : yX6_edgeOn.cls = RX6 ∧ yX6_edgeOn.cls ≠ "java/lang/invoke/MethodHandle" ∧ yX6_edgeOn.cls ≠ "java/lang/invoke/VarHandle" ∧ (parseMethodDescriptor yX6_edgeOn.desc).map (fun d => d.parameters.length) = some 2 := by decide +kernel
theorem lX6_isFlat_13 : Cond.fieldLink RX6 13 (TX6 8).1 (TX6 8).2.1 (TX6 8).2.2.1 ∈ wsX6_isFlat := by decide +kernel
theorem lX6_isFlat_19 : Cond.fieldLink RX6 19 (TX6 12).1 (TX6 12).2.1 (TX6 12).2.2.1 ∈ wsX6_isFlat := by decide +kernel
theorem iX6_isFlat_X6 : ∀ w ∈ u_ws RX6 TX6 23, w ∈ wsX6_isFlat := by decide +kernel
set_option maxHeartbeats 4000000 in
set_option maxRecDepth 100000 in
theorem k_X6_isFlat (E : gE) (l : Launch) {a_M a_Ma a_Mc a_Mg a_Mh a_Mi a_Ml a_Mp a_Ms a_Mt a_Mu a_Mx a_My : Nat} {k e v : Int} {pc tn : Int → Int} {qa qf : Int → Int} {mf W h mL mN n tc fd jo tr : Int} {md : Int64} (hB : 1 ≤ W ∧ W ≤ 5 ∧ 1 ≤ h ∧ h ≤ 5) (hn : 0 ≤ n ∧ n ≤ 25) (hpw : ∀ j : Int, 0 ≤ j ∧ j < n → (0 ≤ pc j ∧ pc j < W * h) ∧ 0 ≤ tn j ∧ tn j < 4) (he : 0 ≤ e ∧ e < 4) (hk : 0 ≤ k ∧ k < 25) (hq : (qa k = v / 4 ∧ qf k = v % 4) ∧ 0 ≤ v ∧ v < n * 4) : gFun E l yX6_isFlat wsX6_isFlat { frames := 2, cells := 0, slots := 0, locals := 45 } [.ref a_M, .int (iI k), .int (iI e)] [(a_M, .inr (6, [.int (iI mf), .int (iI W), .int (iI h), .ref a_Mh, .long md, .int (iI mL), .int (iI mN), .int (iI n), .ref a_Mp, .ref a_Mt, .int (iI tc), .int (iI fd), .ref a_Ma, .ref a_Mu, .ref a_Mi, .int (iI jo), .ref a_Mx, .ref a_My, .ref a_Ms, .ref a_Ml, .ref a_Mc, .ref a_Mg, .int (iI tr)])), (a_Mp, aI E 25 pc), (a_Mt, aI E 25 tn), (a_Ma, aI E 26 qa), (a_Mu, aI E 26 qf)] (.int (iI (if sdI W h (pc (v / 4)) (edI tn v e) = -9 then 1 else 0))) := by
  refine g_start (cc := cX6_isFlat) (maxL := 3) (ret := (some .boolean)) (by decide) rfl (Nat.le_of_ble_eq_true rfl) ?_
  intro p_ e_ s_ m_ args_ below_ meth_ c_ A_ C hr hnm
  have hN := nsd_b hB
  have hp0 := (hpw (qa k) (by omega)).1
  have hed : 0 ≤ edI tn v e ∧ edI tn v e < 4 := by unfold edI; omega
  refine g_aload_n 1 C 0 dX6_isFlat_0 rfl rfl ?_
  refine g_aload_n 2 C 0 dX6_isFlat_1 rfl rfl ?_
  refine g_get 5 C 0 8 6 iX6_isFlat_X6 lX6_isFlat_13 dX6_isFlat_2 rfl rfl rfl (by decide) rfl ?_
  refine g_aload_n 6 C 0 dX6_isFlat_5 rfl rfl ?_
  refine g_get 9 C 0 12 6 iX6_isFlat_X6 lX6_isFlat_19 dX6_isFlat_6 rfl rfl rfl (by decide) rfl ?_
  refine g_iload_n 10 C 1 dX6_isFlat_9 rfl rfl ?_
  refine g_iaload 11 C 3 dX6_isFlat_10 rfl rfl (by omega) ?_
  refine g_iaload 12 C 1 dX6_isFlat_11 rfl rfl (by omega) ?_
  refine g_aload_n 13 C 0 dX6_isFlat_12 rfl rfl ?_
  refine g_iload_n 14 C 1 dX6_isFlat_13 rfl rfl ?_
  refine g_iload_n 15 C 2 dX6_isFlat_14 rfl rfl ?_
  refine g_callVF 18 C [0, 2, 3, 4] dX6_isFlat_15 rfl (k_X6_edgeOn E l  (by first | assumption | omega) (by first | assumption | omega) (by first | assumption | omega) (by first | assumption | omega) (by first | assumption | omega)) (cwV 2 C.2.2.2.2.1 gX6_isFlat_X6_edgeOn rfl rfl rfl cdX6_edgeOn ⟨Nat.le_of_ble_eq_true rfl, Nat.le_of_ble_eq_true rfl⟩) rfl rfl rfl rfl (Nat.le_of_ble_eq_true rfl) 0 6 rfl rfl rfl ⟨Nat.le_of_ble_eq_true rfl, Nat.le_of_ble_eq_true rfl⟩ ?_
  refine g_callVF 21 C [0] dX6_isFlat_18 rfl (k_X6_sideAt E l  (by first | assumption | omega) (by first | assumption | omega) (by first | assumption | omega)) (cwV 2 C.2.2.2.2.1 gX6_isFlat_X6_sideAt rfl rfl rfl cdX6_sideAt ⟨Nat.le_of_ble_eq_true rfl, Nat.le_of_ble_eq_true rfl⟩) rfl rfl rfl rfl (Nat.le_of_ble_eq_true rfl) 0 6 rfl rfl rfl ⟨Nat.le_of_ble_eq_true rfl, Nat.le_of_ble_eq_true rfl⟩ ?_
  have hb := sdI_b (p := pc (qa k)) (e := edI tn v e) hB hp0 hed
  have eq2 : sdI W h (pc (qa k)) (edI tn v e) = sdI W h (pc (v / 4)) (edI tn v e) := by rw [hq.1.1]
  refine g_if_ge 28 24 C dX6_isFlat_21 (by decide) rfl (by omega) ?_ ?_
  · intro h21
    refine g_iconst 29 C dX6_isFlat_28 rfl ?_
    exact g_zret C hr dX6_isFlat_29 (by first | rfl | decide | (split <;> rfl)) ⟨g_ri (by first | rfl | omega | exact (if_pos (by omega)).symm | exact (if_neg (by omega)).symm), rfl⟩
  · intro h21
    refine g_iconst 25 C dX6_isFlat_24 rfl ?_
    refine g_goto 29 C dX6_isFlat_25 (by decide) ?_
    exact g_zret C hr dX6_isFlat_29 (by first | rfl | decide | (split <;> rfl)) ⟨g_ri (by first | rfl | omega | exact (if_pos (by omega)).symm | exact (if_neg (by omega)).symm), rfl⟩
theorem cdX6_isFlat : yX6_isFlat.cls = RX6 ∧ yX6_isFlat.cls ≠ "java/lang/invoke/MethodHandle" ∧ yX6_isFlat.cls ≠ "java/lang/invoke/VarHandle" ∧ (parseMethodDescriptor yX6_isFlat.desc).map (fun d => d.parameters.length) = some 2 := by decide +kernel
theorem lX6_meets_13 : Cond.fieldLink RX6 13 (TX6 8).1 (TX6 8).2.1 (TX6 8).2.2.1 ∈ wsX6_meets := by decide +kernel
theorem lX6_meets_19 : Cond.fieldLink RX6 19 (TX6 12).1 (TX6 12).2.1 (TX6 12).2.2.1 ∈ wsX6_meets := by decide +kernel
theorem iX6_meets_X6 : ∀ w ∈ u_ws RX6 TX6 23, w ∈ wsX6_meets := by decide +kernel
set_option maxHeartbeats 4000000 in
set_option maxRecDepth 100000 in
theorem k_X6_meets (E : gE) (l : Launch) {a_M a_Ma a_Mc a_Mg a_Mh a_Mi a_Ml a_Mp a_Ms a_Mt a_Mu a_Mx a_My : Nat} {k e o f v w : Int} {hs pc tn : Int → Int} {qa qf : Int → Int} {mf W h mL mN n tc fd jo tr : Int} {md : Int64} (hB : 1 ≤ W ∧ W ≤ 5 ∧ 1 ≤ h ∧ h ≤ 5) (hh : hB9 hs) (hn : 0 ≤ n ∧ n ≤ 25) (hpw : ∀ j : Int, 0 ≤ j ∧ j < n → (0 ≤ pc j ∧ pc j < W * h) ∧ 0 ≤ tn j ∧ tn j < 4) (he : 0 ≤ e ∧ e < 4) (hf4 : 0 ≤ f ∧ f < 4) (hk : 0 ≤ k ∧ k < 25) (ho : 0 ≤ o ∧ o < 25) (hq : (qa k = v / 4 ∧ qf k = v % 4) ∧ 0 ≤ v ∧ v < n * 4) (hq2 : (qa o = w / 4 ∧ qf o = w % 4) ∧ 0 ≤ w ∧ w < n * 4) : gFun E l yX6_meets wsX6_meets { frames := 4, cells := 0, slots := 0, locals := 95 } [.ref a_M, .int (iI k), .int (iI e), .int (iI o), .int (iI f)] [(a_M, .inr (6, [.int (iI mf), .int (iI W), .int (iI h), .ref a_Mh, .long md, .int (iI mL), .int (iI mN), .int (iI n), .ref a_Mp, .ref a_Mt, .int (iI tc), .int (iI fd), .ref a_Ma, .ref a_Mu, .ref a_Mi, .int (iI jo), .ref a_Mx, .ref a_My, .ref a_Ms, .ref a_Ml, .ref a_Mc, .ref a_Mg, .int (iI tr)])), (a_Mh, aI E 200 hs), (a_Mp, aI E 25 pc), (a_Mt, aI E 25 tn), (a_Ma, aI E 26 qa), (a_Mu, aI E 26 qf)] (.int (iI (cI (ftM W h hs pc tn v e w f) 1 0))) := by
  refine g_start (cc := cX6_meets) (maxL := 5) (ret := (some .boolean)) (by decide) rfl (Nat.le_of_ble_eq_true rfl) ?_
  intro p_ e_ s_ m_ args_ below_ meth_ c_ A_ C hr hnm
  have hp0 := (hpw (qa k) (by omega)).1
  have hp1 := (hpw (qa o) (by omega)).1
  have hed : 0 ≤ edI tn v e ∧ edI tn v e < 4 := by unfold edI; omega
  have hed2 : 0 ≤ edI tn w f ∧ edI tn w f < 4 := by unfold edI; omega
  refine g_aload_n 1 C 0 dX6_meets_0 rfl rfl ?_
  refine g_iload_n 2 C 1 dX6_meets_1 rfl rfl ?_
  refine g_iload_n 3 C 2 dX6_meets_2 rfl rfl ?_
  refine g_callVF 6 C [0, 2, 3, 4, 5] dX6_meets_3 rfl (k_X6_isFlat E l  (by first | assumption | omega) (by first | assumption | omega) (by first | assumption | omega) (by first | assumption | omega) (by first | assumption | omega) (by first | assumption | omega)) (cwV 2 C.2.2.2.2.1 gX6_meets_X6_isFlat rfl rfl rfl cdX6_isFlat ⟨Nat.le_of_ble_eq_true rfl, Nat.le_of_ble_eq_true rfl⟩) rfl rfl rfl rfl (Nat.le_of_ble_eq_true rfl) 0 6 rfl rfl rfl ⟨Nat.le_of_ble_eq_true rfl, Nat.le_of_ble_eq_true rfl⟩ ?_
  refine g_ifb_ne 65 9 C dX6_meets_6 (by decide) rfl ?_ ?_
  · intro h6
    refine g_iconst 66 C dX6_meets_65 rfl ?_
    exact g_zret C hr dX6_meets_66 (by first | rfl | decide | (split <;> rfl)) ⟨g_ri ((cI_f (fun q => q.1 h6)).symm), rfl⟩
  · intro h6
    refine g_aload_n 10 C 0 dX6_meets_9 rfl rfl ?_
    refine g_iload_n 11 C 3 dX6_meets_10 rfl rfl ?_
    refine g_iload 13 C 4 dX6_meets_11 rfl rfl ?_
    refine g_callVF 16 C [0, 2, 3, 4, 5] dX6_meets_13 rfl (k_X6_isFlat E l  (by first | assumption | omega) (by first | assumption | omega) (by first | assumption | omega) (by first | assumption | omega) (by first | assumption | omega) hq2) (cwV 2 C.2.2.2.2.1 gX6_meets_X6_isFlat rfl rfl rfl cdX6_isFlat ⟨Nat.le_of_ble_eq_true rfl, Nat.le_of_ble_eq_true rfl⟩) rfl rfl rfl rfl (Nat.le_of_ble_eq_true rfl) 0 6 rfl rfl rfl ⟨Nat.le_of_ble_eq_true rfl, Nat.le_of_ble_eq_true rfl⟩ ?_
    refine g_ifb_ne 65 19 C dX6_meets_16 (by decide) rfl ?_ ?_
    · intro h16
      refine g_iconst 66 C dX6_meets_65 rfl ?_
      exact g_zret C hr dX6_meets_66 (by first | rfl | decide | (split <;> rfl)) ⟨g_ri ((cI_f (fun q => q.2.1 h16)).symm), rfl⟩
    · intro h16
      refine g_aload_n 20 C 0 dX6_meets_19 rfl rfl ?_
      refine g_aload_n 21 C 0 dX6_meets_20 rfl rfl ?_
      refine g_get 24 C 0 8 6 iX6_meets_X6 lX6_meets_13 dX6_meets_21 rfl rfl rfl (by decide) rfl ?_
      refine g_aload_n 25 C 0 dX6_meets_24 rfl rfl ?_
      refine g_get 28 C 0 12 6 iX6_meets_X6 lX6_meets_19 dX6_meets_25 rfl rfl rfl (by decide) rfl ?_
      refine g_iload_n 29 C 1 dX6_meets_28 rfl rfl ?_
      refine g_iaload 30 C 4 dX6_meets_29 rfl rfl (by omega) ?_
      refine g_iaload 31 C 2 dX6_meets_30 rfl rfl (by omega) ?_
      refine g_aload_n 32 C 0 dX6_meets_31 rfl rfl ?_
      refine g_iload_n 33 C 1 dX6_meets_32 rfl rfl ?_
      refine g_iload_n 34 C 2 dX6_meets_33 rfl rfl ?_
      refine g_callVF 37 C [0, 3, 4, 5] dX6_meets_34 rfl (k_X6_edgeOn E l  (by first | assumption | omega) (by first | assumption | omega) (by first | assumption | omega) (by first | assumption | omega) (by first | assumption | omega)) (cwV 2 C.2.2.2.2.1 gX6_meets_X6_edgeOn rfl rfl rfl cdX6_edgeOn ⟨Nat.le_of_ble_eq_true rfl, Nat.le_of_ble_eq_true rfl⟩) rfl rfl rfl rfl (Nat.le_of_ble_eq_true rfl) 0 6 rfl rfl rfl ⟨Nat.le_of_ble_eq_true rfl, Nat.le_of_ble_eq_true rfl⟩ ?_
      refine g_aload_n 38 C 0 dX6_meets_37 rfl rfl ?_
      refine g_get 41 C 0 8 6 iX6_meets_X6 lX6_meets_13 dX6_meets_38 rfl rfl rfl (by decide) rfl ?_
      refine g_aload_n 42 C 0 dX6_meets_41 rfl rfl ?_
      refine g_get 45 C 0 12 6 iX6_meets_X6 lX6_meets_19 dX6_meets_42 rfl rfl rfl (by decide) rfl ?_
      refine g_iload_n 46 C 3 dX6_meets_45 rfl rfl ?_
      refine g_iaload 47 C 4 dX6_meets_46 rfl rfl (by omega) ?_
      refine g_iaload 48 C 2 dX6_meets_47 rfl rfl (by omega) ?_
      refine g_aload_n 49 C 0 dX6_meets_48 rfl rfl ?_
      refine g_iload_n 50 C 3 dX6_meets_49 rfl rfl ?_
      refine g_iload 52 C 4 dX6_meets_50 rfl rfl ?_
      refine g_callVF 55 C [0, 3, 4, 5] dX6_meets_52 rfl (k_X6_edgeOn E l  (by first | assumption | omega) (by first | assumption | omega) (by first | assumption | omega) (by first | assumption | omega) hq2) (cwV 2 C.2.2.2.2.1 gX6_meets_X6_edgeOn rfl rfl rfl cdX6_edgeOn ⟨Nat.le_of_ble_eq_true rfl, Nat.le_of_ble_eq_true rfl⟩) rfl rfl rfl rfl (Nat.le_of_ble_eq_true rfl) 0 6 rfl rfl rfl ⟨Nat.le_of_ble_eq_true rfl, Nat.le_of_ble_eq_true rfl⟩ ?_
      refine g_callVF 58 C [0, 1] dX6_meets_55 rfl (k_X6_farOf E l  (by first | assumption | omega) (by first | assumption | omega) (by first | assumption | omega) (by rw [hq.1.1]; exact h6) (by first | assumption | omega) (by first | assumption | omega) (by rw [hq2.1.1]; exact h16) (by first | assumption | omega)) (cwV 4 C.2.2.2.2.1 gX6_meets_X6_farOf rfl rfl rfl cdX6_farOf ⟨Nat.le_of_ble_eq_true rfl, Nat.le_of_ble_eq_true rfl⟩) rfl rfl rfl rfl (Nat.le_of_ble_eq_true rfl) 0 6 rfl rfl rfl ⟨Nat.le_of_ble_eq_true rfl, Nat.le_of_ble_eq_true rfl⟩ ?_
      have efr : frI W h hs (pc (qa k)) (edI tn v e) (pc (qa o)) (edI tn w f) = frI W h hs (pc (v / 4)) (edI tn v e) (pc (w / 4)) (edI tn w f) := by rw [hq.1.1, hq2.1.1]
      have efb := frI_b (W := W) (h := h) hh (pc (qa k)) (edI tn v e) (pc (qa o)) (edI tn w f)
      refine g_if_ne 65 61 C dX6_meets_58 (by decide) rfl (by omega) ?_ ?_
      · intro h58
        refine g_iconst 66 C dX6_meets_65 rfl ?_
        exact g_zret C hr dX6_meets_66 (by first | rfl | decide | (split <;> rfl)) ⟨g_ri ((cI_f (fun q => by have q3 : frI W h hs (pc (v / 4)) (edI tn v e) (pc (w / 4)) (edI tn w f) = 0 := q.2.2; omega)).symm), rfl⟩
      · intro h58
        refine g_iconst 62 C dX6_meets_61 rfl ?_
        refine g_goto 66 C dX6_meets_62 (by decide) ?_
        exact g_zret C hr dX6_meets_66 (by first | rfl | decide | (split <;> rfl)) ⟨g_ri ((cI_t ⟨h6, h16, (show frI W h hs (pc (v / 4)) (edI tn v e) (pc (w / 4)) (edI tn w f) = 0 by omega)⟩).symm), rfl⟩
theorem cdX6_meets : yX6_meets.cls = RX6 ∧ yX6_meets.cls ≠ "java/lang/invoke/MethodHandle" ∧ yX6_meets.cls ≠ "java/lang/invoke/VarHandle" ∧ (parseMethodDescriptor yX6_meets.desc).map (fun d => d.parameters.length) = some 4 := by decide +kernel
theorem lX6_fits_47 : Cond.fieldLink RX6 47 (TX6 1).1 (TX6 1).2.1 (TX6 1).2.2.1 ∈ wsX6_fits := by decide +kernel
theorem lX6_fits_51 : Cond.fieldLink RX6 51 (TX6 2).1 (TX6 2).2.1 (TX6 2).2.2.1 ∈ wsX6_fits := by decide +kernel
theorem iX6_fits_X6 : ∀ w ∈ u_ws RX6 TX6 23, w ∈ wsX6_fits := by decide +kernel
set_option maxHeartbeats 4000000 in
set_option maxRecDepth 100000 in
theorem k_X6_fits (E : gE) (l : Launch) {a_M a_Ma a_Mc a_Mg a_Mh a_Mi a_Ml a_Mp a_Ms a_Mt a_Mu a_Mx a_My : Nat} {k : Int} {hs pc tn q : Int → Int} {qa qf : Int → Int} {mf W h mL mN n tc fd jo tr : Int} {md : Int64} (hB : 1 ≤ W ∧ W ≤ 5 ∧ 1 ≤ h ∧ h ≤ 5) (hh : hB9 hs) (hn : 0 ≤ n ∧ n ≤ 25) (hpw : ∀ j : Int, 0 ≤ j ∧ j < n → (0 ≤ pc j ∧ pc j < W * h) ∧ 0 ≤ tn j ∧ tn j < 4) (hk : 0 ≤ k ∧ k < W * h) (hqa : ∀ j : Int, 0 ≤ j ∧ j ≤ k → (qa j = q j / 4 ∧ qf j = q j % 4) ∧ 0 ≤ q j ∧ q j < n * 4) : gFun E l yX6_fits wsX6_fits { frames := 5, cells := 0, slots := 0, locals := 119 } [.ref a_M, .int (iI k)] [(a_M, .inr (6, [.int (iI mf), .int (iI W), .int (iI h), .ref a_Mh, .long md, .int (iI mL), .int (iI mN), .int (iI n), .ref a_Mp, .ref a_Mt, .int (iI tc), .int (iI fd), .ref a_Ma, .ref a_Mu, .ref a_Mi, .int (iI jo), .ref a_Mx, .ref a_My, .ref a_Ms, .ref a_Ml, .ref a_Mc, .ref a_Mg, .int (iI tr)])), (a_Mh, aI E 200 hs), (a_Mp, aI E 25 pc), (a_Mt, aI E 25 tn), (a_Ma, aI E 26 qa), (a_Mu, aI E 26 qf)] (.int (iI (cI (FT W h hs pc tn q k) 1 0))) := by
  refine g_start (cc := cX6_fits) (maxL := 5) (ret := (some .boolean)) (by decide) rfl (Nat.le_of_ble_eq_true rfl) ?_
  intro p_ e_ s_ m_ args_ below_ meth_ c_ A_ C hr hnm
  have hN := nsd_b hB
  have hm0 := Int.emod_nonneg k (show W ≠ 0 by omega)
  have hm1 := Int.emod_lt_of_pos k (show 0 < W by omega)
  have hd0 := Int.ediv_nonneg hk.1 (show 0 ≤ W by omega)
  have hd1 := Int.ediv_lt_of_lt_mul (show 0 < W by omega) (show k < h * W by rw [Int.mul_comm]; exact hk.2)
  refine g_iload_n 1 C 1 dX6_fits_0 rfl rfl ?_
  refine g_aload_n 2 C 0 dX6_fits_1 rfl rfl ?_
  refine g_get 5 C 0 1 6 iX6_fits_X6 lX6_fits_47 dX6_fits_2 rfl rfl rfl (by decide) rfl ?_
  refine g_irem 6 C dX6_fits_5 rfl (by omega) ?_
  refine g_istore_n (lv' := [(2, _), (0, _), (1, _)]) 7 C dX6_fits_6 rfl rfl (by decide) rfl ?_
  refine g_iload_n 8 C 2 dX6_fits_7 rfl rfl ?_
  refine g_aload_n 9 C 1 dX6_fits_8 rfl rfl ?_
  refine g_get 12 C 0 1 6 iX6_fits_X6 lX6_fits_47 dX6_fits_9 rfl rfl rfl (by decide) rfl ?_
  refine g_idiv 13 C dX6_fits_12 rfl (by omega) ?_
  refine g_istore_n (lv' := [(3, _), (2, _), (0, _), (1, _)]) 14 C dX6_fits_13 rfl rfl (by decide) rfl ?_
  refine g_joinv 103 0 (cI ((sdI W h (pc (q k / 4)) (edI tn (q k) 0) = -9 ↔ k / W = 0) ∧ (sdI W h (pc (q k / 4)) (edI tn (q k) 1) = -9 ↔ k % W = W - 1) ∧ (sdI W h (pc (q k / 4)) (edI tn (q k) 2) = -9 ↔ k / W = h - 1) ∧ (sdI W h (pc (q k / 4)) (edI tn (q k) 3) = -9 ↔ k % W = 0)) 1 0) ?_ ?_
  · skip
    refine g_istore (lv' := [(4, _), (3, _), (2, _), (0, _), (1, _)]) 105 C dX6_fits_103 rfl (by decide) rfl ?_
    refine g_joinv 135 0 (cI (((sdI W h (pc (q k / 4)) (edI tn (q k) 0) = -9 ↔ k / W = 0) ∧ (sdI W h (pc (q k / 4)) (edI tn (q k) 1) = -9 ↔ k % W = W - 1) ∧ (sdI W h (pc (q k / 4)) (edI tn (q k) 2) = -9 ↔ k / W = h - 1) ∧ (sdI W h (pc (q k / 4)) (edI tn (q k) 3) = -9 ↔ k % W = 0)) ∧ (k / W = 0 ∨ ftM W h hs pc tn (q k) 0 (q (k - W)) 2)) 1 0) ?_ ?_
    · skip
      refine g_istore (lv' := [(4, _), (3, _), (2, _), (0, _), (1, _)]) 137 C dX6_fits_135 rfl (by decide) rfl ?_
      refine g_joinv 164 0 (cI (FT W h hs pc tn q k) 1 0) ?_ ?_
      · skip
        exact g_zret C hr dX6_fits_164 nar_c ⟨g_ri (by first | rfl | omega | exact (if_pos (by omega)).symm | exact (if_neg (by omega)).symm), rfl⟩
      · intro kj
        refine g_iload 139 C 0 dX6_fits_137 rfl rfl ?_
        refine g_ifb_eq 163 142 C dX6_fits_139 (by decide) rfl ?_ ?_
        · intro h139
          refine g_iconst 164 C dX6_fits_163 rfl ?_
          exact kj _ (by first | exact (cI_t ⟨h139.1, h139.2, Or.inl (by omega)⟩).symm | exact (cI_t ⟨h139.1, h139.2, Or.inr (by assumption)⟩).symm | exact (cI_f (fun z => h139 ⟨z.1, z.2.1⟩)).symm | exact (cI_f (fun z => by rcases z.2.2 with z2 | z2 <;> first | omega | contradiction)).symm)
        · intro h139
          refine g_iload_n 143 C 2 dX6_fits_142 rfl rfl ?_
          refine g_if_eq 159 146 C dX6_fits_143 (by decide) rfl (by omega) ?_ ?_
          · intro h143
            refine g_iconst 160 C dX6_fits_159 rfl ?_
            refine g_goto 164 C dX6_fits_160 (by decide) ?_
            exact kj _ (by first | exact (cI_t ⟨h139.1, h139.2, Or.inl (by omega)⟩).symm | exact (cI_t ⟨h139.1, h139.2, Or.inr (by assumption)⟩).symm | exact (cI_f (fun z => h139 ⟨z.1, z.2.1⟩)).symm | exact (cI_f (fun z => by rcases z.2.2 with z2 | z2 <;> first | omega | contradiction)).symm)
          · intro h143
            have e2 := k1_f hB.1 hk.1 (by omega)
            refine g_aload_n 147 C 3 dX6_fits_146 rfl rfl ?_
            refine g_iload_n 148 C 4 dX6_fits_147 rfl rfl ?_
            refine g_iconst 149 C dX6_fits_148 rfl ?_
            refine g_iload_n 150 C 4 dX6_fits_149 rfl rfl ?_
            refine g_iconst 151 C dX6_fits_150 rfl ?_
            refine g_isub 152 C dX6_fits_151 rfl ?_
            refine g_iconst 153 C dX6_fits_152 rfl ?_
            refine g_callVF 156 C [0, 1, 2, 3, 4, 5] dX6_fits_153 rfl (k_X6_meets E l  (by first | assumption | omega) (by first | assumption | omega) (by first | assumption | omega) (by first | assumption | omega) (by first | assumption | omega) (by first | assumption | omega) (by first | assumption | omega) (by first | assumption | omega) (hqa k (by omega)) (hqa (k - 1) (by omega))) (cwV 4 C.2.2.2.2.1 gX6_fits_X6_meets rfl rfl rfl cdX6_meets ⟨Nat.le_of_ble_eq_true rfl, Nat.le_of_ble_eq_true rfl⟩) rfl rfl rfl rfl (Nat.le_of_ble_eq_true rfl) 0 6 rfl rfl rfl ⟨Nat.le_of_ble_eq_true rfl, Nat.le_of_ble_eq_true rfl⟩ ?_
            refine g_ifb_eq 163 159 C dX6_fits_156 (by decide) rfl ?_ ?_
            · intro h156
              refine g_iconst 164 C dX6_fits_163 rfl ?_
              exact kj _ (by first | exact (cI_t ⟨h139.1, h139.2, Or.inl (by omega)⟩).symm | exact (cI_t ⟨h139.1, h139.2, Or.inr (by assumption)⟩).symm | exact (cI_f (fun z => h139 ⟨z.1, z.2.1⟩)).symm | exact (cI_f (fun z => by rcases z.2.2 with z2 | z2 <;> first | omega | contradiction)).symm)
            · intro h156
              refine g_iconst 160 C dX6_fits_159 rfl ?_
              refine g_goto 164 C dX6_fits_160 (by decide) ?_
              exact kj _ (by first | exact (cI_t ⟨h139.1, h139.2, Or.inl (by omega)⟩).symm | exact (cI_t ⟨h139.1, h139.2, Or.inr (by assumption)⟩).symm | exact (cI_f (fun z => h139 ⟨z.1, z.2.1⟩)).symm | exact (cI_f (fun z => by rcases z.2.2 with z2 | z2 <;> first | omega | contradiction)).symm)
    · intro kj
      refine g_iload 107 C 0 dX6_fits_105 rfl rfl ?_
      refine g_ifb_eq 134 110 C dX6_fits_107 (by decide) rfl ?_ ?_
      · intro h107
        refine g_iconst 135 C dX6_fits_134 rfl ?_
        exact kj _ (by first | exact (cI_t ⟨by assumption, Or.inl (by omega)⟩).symm | exact (cI_t ⟨by assumption, Or.inr (by assumption)⟩).symm | exact (cI_f (fun z => h107 z.1)).symm | exact (cI_f (fun z => by rcases z.2 with z2 | z2 <;> first | omega | contradiction)).symm)
      · intro h107
        refine g_iload_n 111 C 1 dX6_fits_110 rfl rfl ?_
        refine g_if_eq 130 114 C dX6_fits_111 (by decide) rfl (by omega) ?_ ?_
        · intro h111
          refine g_iconst 131 C dX6_fits_130 rfl ?_
          refine g_goto 135 C dX6_fits_131 (by decide) ?_
          exact kj _ (by first | exact (cI_t ⟨by assumption, Or.inl (by omega)⟩).symm | exact (cI_t ⟨by assumption, Or.inr (by assumption)⟩).symm | exact (cI_f (fun z => h107 z.1)).symm | exact (cI_f (fun z => by rcases z.2 with z2 | z2 <;> first | omega | contradiction)).symm)
        · intro h111
          have e1 := kW_f hB.1 hk.1 (by omega)
          refine g_aload_n 115 C 3 dX6_fits_114 rfl rfl ?_
          refine g_iload_n 116 C 4 dX6_fits_115 rfl rfl ?_
          refine g_iconst 117 C dX6_fits_116 rfl ?_
          refine g_iload_n 118 C 4 dX6_fits_117 rfl rfl ?_
          refine g_aload_n 119 C 3 dX6_fits_118 rfl rfl ?_
          refine g_get 122 C 0 1 6 iX6_fits_X6 lX6_fits_47 dX6_fits_119 rfl rfl rfl (by decide) rfl ?_
          refine g_isub 123 C dX6_fits_122 rfl ?_
          refine g_iconst 124 C dX6_fits_123 rfl ?_
          refine g_callVF 127 C [0, 1, 2, 3, 4, 5] dX6_fits_124 rfl (k_X6_meets E l  (by first | assumption | omega) (by first | assumption | omega) (by first | assumption | omega) (by first | assumption | omega) (by first | assumption | omega) (by first | assumption | omega) (by first | assumption | omega) (by first | assumption | omega) (hqa k (by omega)) (hqa (k - W) (by omega))) (cwV 4 C.2.2.2.2.1 gX6_fits_X6_meets rfl rfl rfl cdX6_meets ⟨Nat.le_of_ble_eq_true rfl, Nat.le_of_ble_eq_true rfl⟩) rfl rfl rfl rfl (Nat.le_of_ble_eq_true rfl) 0 6 rfl rfl rfl ⟨Nat.le_of_ble_eq_true rfl, Nat.le_of_ble_eq_true rfl⟩ ?_
          refine g_ifb_eq 134 130 C dX6_fits_127 (by decide) rfl ?_ ?_
          · intro h127
            refine g_iconst 135 C dX6_fits_134 rfl ?_
            exact kj _ (by first | exact (cI_t ⟨by assumption, Or.inl (by omega)⟩).symm | exact (cI_t ⟨by assumption, Or.inr (by assumption)⟩).symm | exact (cI_f (fun z => h107 z.1)).symm | exact (cI_f (fun z => by rcases z.2 with z2 | z2 <;> first | omega | contradiction)).symm)
          · intro h127
            refine g_iconst 131 C dX6_fits_130 rfl ?_
            refine g_goto 135 C dX6_fits_131 (by decide) ?_
            exact kj _ (by first | exact (cI_t ⟨by assumption, Or.inl (by omega)⟩).symm | exact (cI_t ⟨by assumption, Or.inr (by assumption)⟩).symm | exact (cI_f (fun z => h107 z.1)).symm | exact (cI_f (fun z => by rcases z.2 with z2 | z2 <;> first | omega | contradiction)).symm)
  · intro kj
    refine g_aload_n 15 C 2 dX6_fits_14 rfl rfl ?_
    refine g_iload_n 16 C 3 dX6_fits_15 rfl rfl ?_
    refine g_iconst 17 C dX6_fits_16 rfl ?_
    refine g_callVF 20 C [0, 2, 3, 4, 5] dX6_fits_17 rfl (k_X6_isFlat E l  (by first | assumption | omega) (by first | assumption | omega) (by first | assumption | omega) (by first | assumption | omega) (by first | assumption | omega) (hqa k (by omega))) (cwV 2 C.2.2.2.2.1 gX6_fits_X6_isFlat rfl rfl rfl cdX6_isFlat ⟨Nat.le_of_ble_eq_true rfl, Nat.le_of_ble_eq_true rfl⟩) rfl rfl rfl rfl (Nat.le_of_ble_eq_true rfl) 0 6 rfl rfl rfl ⟨Nat.le_of_ble_eq_true rfl, Nat.le_of_ble_eq_true rfl⟩ ?_
    refine g_bsplit ?_ ?_
    · skip
      intro hf0
      refine g_iload_n 21 C 0 dX6_fits_20 rfl rfl ?_
      refine g_if_ne 28 24 C dX6_fits_21 (by decide) rfl (by omega) ?_ ?_
      · intro h21
        refine g_iconst 29 C dX6_fits_28 rfl ?_
        refine g_icmp_ne 102 32 C dX6_fits_29 (by decide) rfl (by omega) ?_ (fun q => absurd q (by omega))
        intro _
        refine g_iconst 103 C dX6_fits_102 rfl ?_
        exact kj _ (by first | exact (cI_t (by omega)).symm | exact (cI_f (by omega)).symm)
      · intro h21
        refine g_iconst 25 C dX6_fits_24 rfl ?_
        refine g_goto 29 C dX6_fits_25 (by decide) ?_
        refine g_icmp_ne 102 32 C dX6_fits_29 (by decide) rfl (by omega) (fun q => absurd q (by omega)) ?_
        intro _
        refine g_aload_n 33 C 2 dX6_fits_32 rfl rfl ?_
        refine g_iload_n 34 C 3 dX6_fits_33 rfl rfl ?_
        refine g_iconst 35 C dX6_fits_34 rfl ?_
        refine g_callVF 38 C [0, 2, 3, 4, 5] dX6_fits_35 rfl (k_X6_isFlat E l  (by first | assumption | omega) (by first | assumption | omega) (by first | assumption | omega) (by first | assumption | omega) (by first | assumption | omega) (hqa k (by omega))) (cwV 2 C.2.2.2.2.1 gX6_fits_X6_isFlat rfl rfl rfl cdX6_isFlat ⟨Nat.le_of_ble_eq_true rfl, Nat.le_of_ble_eq_true rfl⟩) rfl rfl rfl rfl (Nat.le_of_ble_eq_true rfl) 0 6 rfl rfl rfl ⟨Nat.le_of_ble_eq_true rfl, Nat.le_of_ble_eq_true rfl⟩ ?_
        refine g_bsplit ?_ ?_
        · skip
          intro hf1
          refine g_iload_n 39 C 1 dX6_fits_38 rfl rfl ?_
          refine g_aload_n 40 C 2 dX6_fits_39 rfl rfl ?_
          refine g_get 43 C 0 1 6 iX6_fits_X6 lX6_fits_47 dX6_fits_40 rfl rfl rfl (by decide) rfl ?_
          refine g_iconst 44 C dX6_fits_43 rfl ?_
          refine g_isub 45 C dX6_fits_44 rfl ?_
          refine g_icmp_ne 52 48 C dX6_fits_45 (by decide) rfl (by omega) ?_ ?_
          · intro h45
            refine g_iconst 53 C dX6_fits_52 rfl ?_
            refine g_icmp_ne 102 56 C dX6_fits_53 (by decide) rfl (by omega) ?_ (fun q => absurd q (by omega))
            intro _
            refine g_iconst 103 C dX6_fits_102 rfl ?_
            exact kj _ (by first | exact (cI_t (by omega)).symm | exact (cI_f (by omega)).symm)
          · intro h45
            refine g_iconst 49 C dX6_fits_48 rfl ?_
            refine g_goto 53 C dX6_fits_49 (by decide) ?_
            refine g_icmp_ne 102 56 C dX6_fits_53 (by decide) rfl (by omega) (fun q => absurd q (by omega)) ?_
            intro _
            refine g_aload_n 57 C 2 dX6_fits_56 rfl rfl ?_
            refine g_iload_n 58 C 3 dX6_fits_57 rfl rfl ?_
            refine g_iconst 59 C dX6_fits_58 rfl ?_
            refine g_callVF 62 C [0, 2, 3, 4, 5] dX6_fits_59 rfl (k_X6_isFlat E l  (by first | assumption | omega) (by first | assumption | omega) (by first | assumption | omega) (by first | assumption | omega) (by first | assumption | omega) (hqa k (by omega))) (cwV 2 C.2.2.2.2.1 gX6_fits_X6_isFlat rfl rfl rfl cdX6_isFlat ⟨Nat.le_of_ble_eq_true rfl, Nat.le_of_ble_eq_true rfl⟩) rfl rfl rfl rfl (Nat.le_of_ble_eq_true rfl) 0 6 rfl rfl rfl ⟨Nat.le_of_ble_eq_true rfl, Nat.le_of_ble_eq_true rfl⟩ ?_
            refine g_bsplit ?_ ?_
            · skip
              intro hf2
              refine g_iload_n 63 C 0 dX6_fits_62 rfl rfl ?_
              refine g_aload_n 64 C 2 dX6_fits_63 rfl rfl ?_
              refine g_get 67 C 0 2 6 iX6_fits_X6 lX6_fits_51 dX6_fits_64 rfl rfl rfl (by decide) rfl ?_
              refine g_iconst 68 C dX6_fits_67 rfl ?_
              refine g_isub 69 C dX6_fits_68 rfl ?_
              refine g_icmp_ne 76 72 C dX6_fits_69 (by decide) rfl (by omega) ?_ ?_
              · intro h69
                refine g_iconst 77 C dX6_fits_76 rfl ?_
                refine g_icmp_ne 102 80 C dX6_fits_77 (by decide) rfl (by omega) ?_ (fun q => absurd q (by omega))
                intro _
                refine g_iconst 103 C dX6_fits_102 rfl ?_
                exact kj _ (by first | exact (cI_t (by omega)).symm | exact (cI_f (by omega)).symm)
              · intro h69
                refine g_iconst 73 C dX6_fits_72 rfl ?_
                refine g_goto 77 C dX6_fits_73 (by decide) ?_
                refine g_icmp_ne 102 80 C dX6_fits_77 (by decide) rfl (by omega) (fun q => absurd q (by omega)) ?_
                intro _
                refine g_aload_n 81 C 2 dX6_fits_80 rfl rfl ?_
                refine g_iload_n 82 C 3 dX6_fits_81 rfl rfl ?_
                refine g_iconst 83 C dX6_fits_82 rfl ?_
                refine g_callVF 86 C [0, 2, 3, 4, 5] dX6_fits_83 rfl (k_X6_isFlat E l  (by first | assumption | omega) (by first | assumption | omega) (by first | assumption | omega) (by first | assumption | omega) (by first | assumption | omega) (hqa k (by omega))) (cwV 2 C.2.2.2.2.1 gX6_fits_X6_isFlat rfl rfl rfl cdX6_isFlat ⟨Nat.le_of_ble_eq_true rfl, Nat.le_of_ble_eq_true rfl⟩) rfl rfl rfl rfl (Nat.le_of_ble_eq_true rfl) 0 6 rfl rfl rfl ⟨Nat.le_of_ble_eq_true rfl, Nat.le_of_ble_eq_true rfl⟩ ?_
                refine g_bsplit ?_ ?_
                · skip
                  intro hf3
                  refine g_iload_n 87 C 1 dX6_fits_86 rfl rfl ?_
                  refine g_if_ne 94 90 C dX6_fits_87 (by decide) rfl (by omega) ?_ ?_
                  · intro h87
                    refine g_iconst 95 C dX6_fits_94 rfl ?_
                    refine g_icmp_ne 102 98 C dX6_fits_95 (by decide) rfl (by omega) ?_ (fun q => absurd q (by omega))
                    intro _
                    refine g_iconst 103 C dX6_fits_102 rfl ?_
                    exact kj _ (by first | exact (cI_t (by omega)).symm | exact (cI_f (by omega)).symm)
                  · intro h87
                    refine g_iconst 91 C dX6_fits_90 rfl ?_
                    refine g_goto 95 C dX6_fits_91 (by decide) ?_
                    refine g_icmp_ne 102 98 C dX6_fits_95 (by decide) rfl (by omega) (fun q => absurd q (by omega)) ?_
                    intro _
                    refine g_iconst 99 C dX6_fits_98 rfl ?_
                    refine g_goto 103 C dX6_fits_99 (by decide) ?_
                    exact kj _ (by first | exact (cI_t (by omega)).symm | exact (cI_f (by omega)).symm)
                · skip
                  intro hf3
                  refine g_iload_n 87 C 1 dX6_fits_86 rfl rfl ?_
                  refine g_if_ne 94 90 C dX6_fits_87 (by decide) rfl (by omega) ?_ ?_
                  · intro h87
                    refine g_iconst 95 C dX6_fits_94 rfl ?_
                    refine g_icmp_ne 102 98 C dX6_fits_95 (by decide) rfl (by omega) (fun q => absurd q (by omega)) ?_
                    intro _
                    refine g_iconst 99 C dX6_fits_98 rfl ?_
                    refine g_goto 103 C dX6_fits_99 (by decide) ?_
                    exact kj _ (by first | exact (cI_t (by omega)).symm | exact (cI_f (by omega)).symm)
                  · intro h87
                    refine g_iconst 91 C dX6_fits_90 rfl ?_
                    refine g_goto 95 C dX6_fits_91 (by decide) ?_
                    refine g_icmp_ne 102 98 C dX6_fits_95 (by decide) rfl (by omega) ?_ (fun q => absurd q (by omega))
                    intro _
                    refine g_iconst 103 C dX6_fits_102 rfl ?_
                    exact kj _ (by first | exact (cI_t (by omega)).symm | exact (cI_f (by omega)).symm)
            · skip
              intro hf2
              refine g_iload_n 63 C 0 dX6_fits_62 rfl rfl ?_
              refine g_aload_n 64 C 2 dX6_fits_63 rfl rfl ?_
              refine g_get 67 C 0 2 6 iX6_fits_X6 lX6_fits_51 dX6_fits_64 rfl rfl rfl (by decide) rfl ?_
              refine g_iconst 68 C dX6_fits_67 rfl ?_
              refine g_isub 69 C dX6_fits_68 rfl ?_
              refine g_icmp_ne 76 72 C dX6_fits_69 (by decide) rfl (by omega) ?_ ?_
              · intro h69
                refine g_iconst 77 C dX6_fits_76 rfl ?_
                refine g_icmp_ne 102 80 C dX6_fits_77 (by decide) rfl (by omega) (fun q => absurd q (by omega)) ?_
                intro _
                refine g_aload_n 81 C 2 dX6_fits_80 rfl rfl ?_
                refine g_iload_n 82 C 3 dX6_fits_81 rfl rfl ?_
                refine g_iconst 83 C dX6_fits_82 rfl ?_
                refine g_callVF 86 C [0, 2, 3, 4, 5] dX6_fits_83 rfl (k_X6_isFlat E l  (by first | assumption | omega) (by first | assumption | omega) (by first | assumption | omega) (by first | assumption | omega) (by first | assumption | omega) (hqa k (by omega))) (cwV 2 C.2.2.2.2.1 gX6_fits_X6_isFlat rfl rfl rfl cdX6_isFlat ⟨Nat.le_of_ble_eq_true rfl, Nat.le_of_ble_eq_true rfl⟩) rfl rfl rfl rfl (Nat.le_of_ble_eq_true rfl) 0 6 rfl rfl rfl ⟨Nat.le_of_ble_eq_true rfl, Nat.le_of_ble_eq_true rfl⟩ ?_
                refine g_bsplit ?_ ?_
                · skip
                  intro hf3
                  refine g_iload_n 87 C 1 dX6_fits_86 rfl rfl ?_
                  refine g_if_ne 94 90 C dX6_fits_87 (by decide) rfl (by omega) ?_ ?_
                  · intro h87
                    refine g_iconst 95 C dX6_fits_94 rfl ?_
                    refine g_icmp_ne 102 98 C dX6_fits_95 (by decide) rfl (by omega) ?_ (fun q => absurd q (by omega))
                    intro _
                    refine g_iconst 103 C dX6_fits_102 rfl ?_
                    exact kj _ (by first | exact (cI_t (by omega)).symm | exact (cI_f (by omega)).symm)
                  · intro h87
                    refine g_iconst 91 C dX6_fits_90 rfl ?_
                    refine g_goto 95 C dX6_fits_91 (by decide) ?_
                    refine g_icmp_ne 102 98 C dX6_fits_95 (by decide) rfl (by omega) (fun q => absurd q (by omega)) ?_
                    intro _
                    refine g_iconst 99 C dX6_fits_98 rfl ?_
                    refine g_goto 103 C dX6_fits_99 (by decide) ?_
                    exact kj _ (by first | exact (cI_t (by omega)).symm | exact (cI_f (by omega)).symm)
                · skip
                  intro hf3
                  refine g_iload_n 87 C 1 dX6_fits_86 rfl rfl ?_
                  refine g_if_ne 94 90 C dX6_fits_87 (by decide) rfl (by omega) ?_ ?_
                  · intro h87
                    refine g_iconst 95 C dX6_fits_94 rfl ?_
                    refine g_icmp_ne 102 98 C dX6_fits_95 (by decide) rfl (by omega) (fun q => absurd q (by omega)) ?_
                    intro _
                    refine g_iconst 99 C dX6_fits_98 rfl ?_
                    refine g_goto 103 C dX6_fits_99 (by decide) ?_
                    exact kj _ (by first | exact (cI_t (by omega)).symm | exact (cI_f (by omega)).symm)
                  · intro h87
                    refine g_iconst 91 C dX6_fits_90 rfl ?_
                    refine g_goto 95 C dX6_fits_91 (by decide) ?_
                    refine g_icmp_ne 102 98 C dX6_fits_95 (by decide) rfl (by omega) ?_ (fun q => absurd q (by omega))
                    intro _
                    refine g_iconst 103 C dX6_fits_102 rfl ?_
                    exact kj _ (by first | exact (cI_t (by omega)).symm | exact (cI_f (by omega)).symm)
              · intro h69
                refine g_iconst 73 C dX6_fits_72 rfl ?_
                refine g_goto 77 C dX6_fits_73 (by decide) ?_
                refine g_icmp_ne 102 80 C dX6_fits_77 (by decide) rfl (by omega) ?_ (fun q => absurd q (by omega))
                intro _
                refine g_iconst 103 C dX6_fits_102 rfl ?_
                exact kj _ (by first | exact (cI_t (by omega)).symm | exact (cI_f (by omega)).symm)
        · skip
          intro hf1
          refine g_iload_n 39 C 1 dX6_fits_38 rfl rfl ?_
          refine g_aload_n 40 C 2 dX6_fits_39 rfl rfl ?_
          refine g_get 43 C 0 1 6 iX6_fits_X6 lX6_fits_47 dX6_fits_40 rfl rfl rfl (by decide) rfl ?_
          refine g_iconst 44 C dX6_fits_43 rfl ?_
          refine g_isub 45 C dX6_fits_44 rfl ?_
          refine g_icmp_ne 52 48 C dX6_fits_45 (by decide) rfl (by omega) ?_ ?_
          · intro h45
            refine g_iconst 53 C dX6_fits_52 rfl ?_
            refine g_icmp_ne 102 56 C dX6_fits_53 (by decide) rfl (by omega) (fun q => absurd q (by omega)) ?_
            intro _
            refine g_aload_n 57 C 2 dX6_fits_56 rfl rfl ?_
            refine g_iload_n 58 C 3 dX6_fits_57 rfl rfl ?_
            refine g_iconst 59 C dX6_fits_58 rfl ?_
            refine g_callVF 62 C [0, 2, 3, 4, 5] dX6_fits_59 rfl (k_X6_isFlat E l  (by first | assumption | omega) (by first | assumption | omega) (by first | assumption | omega) (by first | assumption | omega) (by first | assumption | omega) (hqa k (by omega))) (cwV 2 C.2.2.2.2.1 gX6_fits_X6_isFlat rfl rfl rfl cdX6_isFlat ⟨Nat.le_of_ble_eq_true rfl, Nat.le_of_ble_eq_true rfl⟩) rfl rfl rfl rfl (Nat.le_of_ble_eq_true rfl) 0 6 rfl rfl rfl ⟨Nat.le_of_ble_eq_true rfl, Nat.le_of_ble_eq_true rfl⟩ ?_
            refine g_bsplit ?_ ?_
            · skip
              intro hf2
              refine g_iload_n 63 C 0 dX6_fits_62 rfl rfl ?_
              refine g_aload_n 64 C 2 dX6_fits_63 rfl rfl ?_
              refine g_get 67 C 0 2 6 iX6_fits_X6 lX6_fits_51 dX6_fits_64 rfl rfl rfl (by decide) rfl ?_
              refine g_iconst 68 C dX6_fits_67 rfl ?_
              refine g_isub 69 C dX6_fits_68 rfl ?_
              refine g_icmp_ne 76 72 C dX6_fits_69 (by decide) rfl (by omega) ?_ ?_
              · intro h69
                refine g_iconst 77 C dX6_fits_76 rfl ?_
                refine g_icmp_ne 102 80 C dX6_fits_77 (by decide) rfl (by omega) ?_ (fun q => absurd q (by omega))
                intro _
                refine g_iconst 103 C dX6_fits_102 rfl ?_
                exact kj _ (by first | exact (cI_t (by omega)).symm | exact (cI_f (by omega)).symm)
              · intro h69
                refine g_iconst 73 C dX6_fits_72 rfl ?_
                refine g_goto 77 C dX6_fits_73 (by decide) ?_
                refine g_icmp_ne 102 80 C dX6_fits_77 (by decide) rfl (by omega) (fun q => absurd q (by omega)) ?_
                intro _
                refine g_aload_n 81 C 2 dX6_fits_80 rfl rfl ?_
                refine g_iload_n 82 C 3 dX6_fits_81 rfl rfl ?_
                refine g_iconst 83 C dX6_fits_82 rfl ?_
                refine g_callVF 86 C [0, 2, 3, 4, 5] dX6_fits_83 rfl (k_X6_isFlat E l  (by first | assumption | omega) (by first | assumption | omega) (by first | assumption | omega) (by first | assumption | omega) (by first | assumption | omega) (hqa k (by omega))) (cwV 2 C.2.2.2.2.1 gX6_fits_X6_isFlat rfl rfl rfl cdX6_isFlat ⟨Nat.le_of_ble_eq_true rfl, Nat.le_of_ble_eq_true rfl⟩) rfl rfl rfl rfl (Nat.le_of_ble_eq_true rfl) 0 6 rfl rfl rfl ⟨Nat.le_of_ble_eq_true rfl, Nat.le_of_ble_eq_true rfl⟩ ?_
                refine g_bsplit ?_ ?_
                · skip
                  intro hf3
                  refine g_iload_n 87 C 1 dX6_fits_86 rfl rfl ?_
                  refine g_if_ne 94 90 C dX6_fits_87 (by decide) rfl (by omega) ?_ ?_
                  · intro h87
                    refine g_iconst 95 C dX6_fits_94 rfl ?_
                    refine g_icmp_ne 102 98 C dX6_fits_95 (by decide) rfl (by omega) ?_ (fun q => absurd q (by omega))
                    intro _
                    refine g_iconst 103 C dX6_fits_102 rfl ?_
                    exact kj _ (by first | exact (cI_t (by omega)).symm | exact (cI_f (by omega)).symm)
                  · intro h87
                    refine g_iconst 91 C dX6_fits_90 rfl ?_
                    refine g_goto 95 C dX6_fits_91 (by decide) ?_
                    refine g_icmp_ne 102 98 C dX6_fits_95 (by decide) rfl (by omega) (fun q => absurd q (by omega)) ?_
                    intro _
                    refine g_iconst 99 C dX6_fits_98 rfl ?_
                    refine g_goto 103 C dX6_fits_99 (by decide) ?_
                    exact kj _ (by first | exact (cI_t (by omega)).symm | exact (cI_f (by omega)).symm)
                · skip
                  intro hf3
                  refine g_iload_n 87 C 1 dX6_fits_86 rfl rfl ?_
                  refine g_if_ne 94 90 C dX6_fits_87 (by decide) rfl (by omega) ?_ ?_
                  · intro h87
                    refine g_iconst 95 C dX6_fits_94 rfl ?_
                    refine g_icmp_ne 102 98 C dX6_fits_95 (by decide) rfl (by omega) (fun q => absurd q (by omega)) ?_
                    intro _
                    refine g_iconst 99 C dX6_fits_98 rfl ?_
                    refine g_goto 103 C dX6_fits_99 (by decide) ?_
                    exact kj _ (by first | exact (cI_t (by omega)).symm | exact (cI_f (by omega)).symm)
                  · intro h87
                    refine g_iconst 91 C dX6_fits_90 rfl ?_
                    refine g_goto 95 C dX6_fits_91 (by decide) ?_
                    refine g_icmp_ne 102 98 C dX6_fits_95 (by decide) rfl (by omega) ?_ (fun q => absurd q (by omega))
                    intro _
                    refine g_iconst 103 C dX6_fits_102 rfl ?_
                    exact kj _ (by first | exact (cI_t (by omega)).symm | exact (cI_f (by omega)).symm)
            · skip
              intro hf2
              refine g_iload_n 63 C 0 dX6_fits_62 rfl rfl ?_
              refine g_aload_n 64 C 2 dX6_fits_63 rfl rfl ?_
              refine g_get 67 C 0 2 6 iX6_fits_X6 lX6_fits_51 dX6_fits_64 rfl rfl rfl (by decide) rfl ?_
              refine g_iconst 68 C dX6_fits_67 rfl ?_
              refine g_isub 69 C dX6_fits_68 rfl ?_
              refine g_icmp_ne 76 72 C dX6_fits_69 (by decide) rfl (by omega) ?_ ?_
              · intro h69
                refine g_iconst 77 C dX6_fits_76 rfl ?_
                refine g_icmp_ne 102 80 C dX6_fits_77 (by decide) rfl (by omega) (fun q => absurd q (by omega)) ?_
                intro _
                refine g_aload_n 81 C 2 dX6_fits_80 rfl rfl ?_
                refine g_iload_n 82 C 3 dX6_fits_81 rfl rfl ?_
                refine g_iconst 83 C dX6_fits_82 rfl ?_
                refine g_callVF 86 C [0, 2, 3, 4, 5] dX6_fits_83 rfl (k_X6_isFlat E l  (by first | assumption | omega) (by first | assumption | omega) (by first | assumption | omega) (by first | assumption | omega) (by first | assumption | omega) (hqa k (by omega))) (cwV 2 C.2.2.2.2.1 gX6_fits_X6_isFlat rfl rfl rfl cdX6_isFlat ⟨Nat.le_of_ble_eq_true rfl, Nat.le_of_ble_eq_true rfl⟩) rfl rfl rfl rfl (Nat.le_of_ble_eq_true rfl) 0 6 rfl rfl rfl ⟨Nat.le_of_ble_eq_true rfl, Nat.le_of_ble_eq_true rfl⟩ ?_
                refine g_bsplit ?_ ?_
                · skip
                  intro hf3
                  refine g_iload_n 87 C 1 dX6_fits_86 rfl rfl ?_
                  refine g_if_ne 94 90 C dX6_fits_87 (by decide) rfl (by omega) ?_ ?_
                  · intro h87
                    refine g_iconst 95 C dX6_fits_94 rfl ?_
                    refine g_icmp_ne 102 98 C dX6_fits_95 (by decide) rfl (by omega) ?_ (fun q => absurd q (by omega))
                    intro _
                    refine g_iconst 103 C dX6_fits_102 rfl ?_
                    exact kj _ (by first | exact (cI_t (by omega)).symm | exact (cI_f (by omega)).symm)
                  · intro h87
                    refine g_iconst 91 C dX6_fits_90 rfl ?_
                    refine g_goto 95 C dX6_fits_91 (by decide) ?_
                    refine g_icmp_ne 102 98 C dX6_fits_95 (by decide) rfl (by omega) (fun q => absurd q (by omega)) ?_
                    intro _
                    refine g_iconst 99 C dX6_fits_98 rfl ?_
                    refine g_goto 103 C dX6_fits_99 (by decide) ?_
                    exact kj _ (by first | exact (cI_t (by omega)).symm | exact (cI_f (by omega)).symm)
                · skip
                  intro hf3
                  refine g_iload_n 87 C 1 dX6_fits_86 rfl rfl ?_
                  refine g_if_ne 94 90 C dX6_fits_87 (by decide) rfl (by omega) ?_ ?_
                  · intro h87
                    refine g_iconst 95 C dX6_fits_94 rfl ?_
                    refine g_icmp_ne 102 98 C dX6_fits_95 (by decide) rfl (by omega) (fun q => absurd q (by omega)) ?_
                    intro _
                    refine g_iconst 99 C dX6_fits_98 rfl ?_
                    refine g_goto 103 C dX6_fits_99 (by decide) ?_
                    exact kj _ (by first | exact (cI_t (by omega)).symm | exact (cI_f (by omega)).symm)
                  · intro h87
                    refine g_iconst 91 C dX6_fits_90 rfl ?_
                    refine g_goto 95 C dX6_fits_91 (by decide) ?_
                    refine g_icmp_ne 102 98 C dX6_fits_95 (by decide) rfl (by omega) ?_ (fun q => absurd q (by omega))
                    intro _
                    refine g_iconst 103 C dX6_fits_102 rfl ?_
                    exact kj _ (by first | exact (cI_t (by omega)).symm | exact (cI_f (by omega)).symm)
              · intro h69
                refine g_iconst 73 C dX6_fits_72 rfl ?_
                refine g_goto 77 C dX6_fits_73 (by decide) ?_
                refine g_icmp_ne 102 80 C dX6_fits_77 (by decide) rfl (by omega) ?_ (fun q => absurd q (by omega))
                intro _
                refine g_iconst 103 C dX6_fits_102 rfl ?_
                exact kj _ (by first | exact (cI_t (by omega)).symm | exact (cI_f (by omega)).symm)
          · intro h45
            refine g_iconst 49 C dX6_fits_48 rfl ?_
            refine g_goto 53 C dX6_fits_49 (by decide) ?_
            refine g_icmp_ne 102 56 C dX6_fits_53 (by decide) rfl (by omega) ?_ (fun q => absurd q (by omega))
            intro _
            refine g_iconst 103 C dX6_fits_102 rfl ?_
            exact kj _ (by first | exact (cI_t (by omega)).symm | exact (cI_f (by omega)).symm)
    · skip
      intro hf0
      refine g_iload_n 21 C 0 dX6_fits_20 rfl rfl ?_
      refine g_if_ne 28 24 C dX6_fits_21 (by decide) rfl (by omega) ?_ ?_
      · intro h21
        refine g_iconst 29 C dX6_fits_28 rfl ?_
        refine g_icmp_ne 102 32 C dX6_fits_29 (by decide) rfl (by omega) (fun q => absurd q (by omega)) ?_
        intro _
        refine g_aload_n 33 C 2 dX6_fits_32 rfl rfl ?_
        refine g_iload_n 34 C 3 dX6_fits_33 rfl rfl ?_
        refine g_iconst 35 C dX6_fits_34 rfl ?_
        refine g_callVF 38 C [0, 2, 3, 4, 5] dX6_fits_35 rfl (k_X6_isFlat E l  (by first | assumption | omega) (by first | assumption | omega) (by first | assumption | omega) (by first | assumption | omega) (by first | assumption | omega) (hqa k (by omega))) (cwV 2 C.2.2.2.2.1 gX6_fits_X6_isFlat rfl rfl rfl cdX6_isFlat ⟨Nat.le_of_ble_eq_true rfl, Nat.le_of_ble_eq_true rfl⟩) rfl rfl rfl rfl (Nat.le_of_ble_eq_true rfl) 0 6 rfl rfl rfl ⟨Nat.le_of_ble_eq_true rfl, Nat.le_of_ble_eq_true rfl⟩ ?_
        refine g_bsplit ?_ ?_
        · skip
          intro hf1
          refine g_iload_n 39 C 1 dX6_fits_38 rfl rfl ?_
          refine g_aload_n 40 C 2 dX6_fits_39 rfl rfl ?_
          refine g_get 43 C 0 1 6 iX6_fits_X6 lX6_fits_47 dX6_fits_40 rfl rfl rfl (by decide) rfl ?_
          refine g_iconst 44 C dX6_fits_43 rfl ?_
          refine g_isub 45 C dX6_fits_44 rfl ?_
          refine g_icmp_ne 52 48 C dX6_fits_45 (by decide) rfl (by omega) ?_ ?_
          · intro h45
            refine g_iconst 53 C dX6_fits_52 rfl ?_
            refine g_icmp_ne 102 56 C dX6_fits_53 (by decide) rfl (by omega) ?_ (fun q => absurd q (by omega))
            intro _
            refine g_iconst 103 C dX6_fits_102 rfl ?_
            exact kj _ (by first | exact (cI_t (by omega)).symm | exact (cI_f (by omega)).symm)
          · intro h45
            refine g_iconst 49 C dX6_fits_48 rfl ?_
            refine g_goto 53 C dX6_fits_49 (by decide) ?_
            refine g_icmp_ne 102 56 C dX6_fits_53 (by decide) rfl (by omega) (fun q => absurd q (by omega)) ?_
            intro _
            refine g_aload_n 57 C 2 dX6_fits_56 rfl rfl ?_
            refine g_iload_n 58 C 3 dX6_fits_57 rfl rfl ?_
            refine g_iconst 59 C dX6_fits_58 rfl ?_
            refine g_callVF 62 C [0, 2, 3, 4, 5] dX6_fits_59 rfl (k_X6_isFlat E l  (by first | assumption | omega) (by first | assumption | omega) (by first | assumption | omega) (by first | assumption | omega) (by first | assumption | omega) (hqa k (by omega))) (cwV 2 C.2.2.2.2.1 gX6_fits_X6_isFlat rfl rfl rfl cdX6_isFlat ⟨Nat.le_of_ble_eq_true rfl, Nat.le_of_ble_eq_true rfl⟩) rfl rfl rfl rfl (Nat.le_of_ble_eq_true rfl) 0 6 rfl rfl rfl ⟨Nat.le_of_ble_eq_true rfl, Nat.le_of_ble_eq_true rfl⟩ ?_
            refine g_bsplit ?_ ?_
            · skip
              intro hf2
              refine g_iload_n 63 C 0 dX6_fits_62 rfl rfl ?_
              refine g_aload_n 64 C 2 dX6_fits_63 rfl rfl ?_
              refine g_get 67 C 0 2 6 iX6_fits_X6 lX6_fits_51 dX6_fits_64 rfl rfl rfl (by decide) rfl ?_
              refine g_iconst 68 C dX6_fits_67 rfl ?_
              refine g_isub 69 C dX6_fits_68 rfl ?_
              refine g_icmp_ne 76 72 C dX6_fits_69 (by decide) rfl (by omega) ?_ ?_
              · intro h69
                refine g_iconst 77 C dX6_fits_76 rfl ?_
                refine g_icmp_ne 102 80 C dX6_fits_77 (by decide) rfl (by omega) ?_ (fun q => absurd q (by omega))
                intro _
                refine g_iconst 103 C dX6_fits_102 rfl ?_
                exact kj _ (by first | exact (cI_t (by omega)).symm | exact (cI_f (by omega)).symm)
              · intro h69
                refine g_iconst 73 C dX6_fits_72 rfl ?_
                refine g_goto 77 C dX6_fits_73 (by decide) ?_
                refine g_icmp_ne 102 80 C dX6_fits_77 (by decide) rfl (by omega) (fun q => absurd q (by omega)) ?_
                intro _
                refine g_aload_n 81 C 2 dX6_fits_80 rfl rfl ?_
                refine g_iload_n 82 C 3 dX6_fits_81 rfl rfl ?_
                refine g_iconst 83 C dX6_fits_82 rfl ?_
                refine g_callVF 86 C [0, 2, 3, 4, 5] dX6_fits_83 rfl (k_X6_isFlat E l  (by first | assumption | omega) (by first | assumption | omega) (by first | assumption | omega) (by first | assumption | omega) (by first | assumption | omega) (hqa k (by omega))) (cwV 2 C.2.2.2.2.1 gX6_fits_X6_isFlat rfl rfl rfl cdX6_isFlat ⟨Nat.le_of_ble_eq_true rfl, Nat.le_of_ble_eq_true rfl⟩) rfl rfl rfl rfl (Nat.le_of_ble_eq_true rfl) 0 6 rfl rfl rfl ⟨Nat.le_of_ble_eq_true rfl, Nat.le_of_ble_eq_true rfl⟩ ?_
                refine g_bsplit ?_ ?_
                · skip
                  intro hf3
                  refine g_iload_n 87 C 1 dX6_fits_86 rfl rfl ?_
                  refine g_if_ne 94 90 C dX6_fits_87 (by decide) rfl (by omega) ?_ ?_
                  · intro h87
                    refine g_iconst 95 C dX6_fits_94 rfl ?_
                    refine g_icmp_ne 102 98 C dX6_fits_95 (by decide) rfl (by omega) ?_ (fun q => absurd q (by omega))
                    intro _
                    refine g_iconst 103 C dX6_fits_102 rfl ?_
                    exact kj _ (by first | exact (cI_t (by omega)).symm | exact (cI_f (by omega)).symm)
                  · intro h87
                    refine g_iconst 91 C dX6_fits_90 rfl ?_
                    refine g_goto 95 C dX6_fits_91 (by decide) ?_
                    refine g_icmp_ne 102 98 C dX6_fits_95 (by decide) rfl (by omega) (fun q => absurd q (by omega)) ?_
                    intro _
                    refine g_iconst 99 C dX6_fits_98 rfl ?_
                    refine g_goto 103 C dX6_fits_99 (by decide) ?_
                    exact kj _ (by first | exact (cI_t (by omega)).symm | exact (cI_f (by omega)).symm)
                · skip
                  intro hf3
                  refine g_iload_n 87 C 1 dX6_fits_86 rfl rfl ?_
                  refine g_if_ne 94 90 C dX6_fits_87 (by decide) rfl (by omega) ?_ ?_
                  · intro h87
                    refine g_iconst 95 C dX6_fits_94 rfl ?_
                    refine g_icmp_ne 102 98 C dX6_fits_95 (by decide) rfl (by omega) (fun q => absurd q (by omega)) ?_
                    intro _
                    refine g_iconst 99 C dX6_fits_98 rfl ?_
                    refine g_goto 103 C dX6_fits_99 (by decide) ?_
                    exact kj _ (by first | exact (cI_t (by omega)).symm | exact (cI_f (by omega)).symm)
                  · intro h87
                    refine g_iconst 91 C dX6_fits_90 rfl ?_
                    refine g_goto 95 C dX6_fits_91 (by decide) ?_
                    refine g_icmp_ne 102 98 C dX6_fits_95 (by decide) rfl (by omega) ?_ (fun q => absurd q (by omega))
                    intro _
                    refine g_iconst 103 C dX6_fits_102 rfl ?_
                    exact kj _ (by first | exact (cI_t (by omega)).symm | exact (cI_f (by omega)).symm)
            · skip
              intro hf2
              refine g_iload_n 63 C 0 dX6_fits_62 rfl rfl ?_
              refine g_aload_n 64 C 2 dX6_fits_63 rfl rfl ?_
              refine g_get 67 C 0 2 6 iX6_fits_X6 lX6_fits_51 dX6_fits_64 rfl rfl rfl (by decide) rfl ?_
              refine g_iconst 68 C dX6_fits_67 rfl ?_
              refine g_isub 69 C dX6_fits_68 rfl ?_
              refine g_icmp_ne 76 72 C dX6_fits_69 (by decide) rfl (by omega) ?_ ?_
              · intro h69
                refine g_iconst 77 C dX6_fits_76 rfl ?_
                refine g_icmp_ne 102 80 C dX6_fits_77 (by decide) rfl (by omega) (fun q => absurd q (by omega)) ?_
                intro _
                refine g_aload_n 81 C 2 dX6_fits_80 rfl rfl ?_
                refine g_iload_n 82 C 3 dX6_fits_81 rfl rfl ?_
                refine g_iconst 83 C dX6_fits_82 rfl ?_
                refine g_callVF 86 C [0, 2, 3, 4, 5] dX6_fits_83 rfl (k_X6_isFlat E l  (by first | assumption | omega) (by first | assumption | omega) (by first | assumption | omega) (by first | assumption | omega) (by first | assumption | omega) (hqa k (by omega))) (cwV 2 C.2.2.2.2.1 gX6_fits_X6_isFlat rfl rfl rfl cdX6_isFlat ⟨Nat.le_of_ble_eq_true rfl, Nat.le_of_ble_eq_true rfl⟩) rfl rfl rfl rfl (Nat.le_of_ble_eq_true rfl) 0 6 rfl rfl rfl ⟨Nat.le_of_ble_eq_true rfl, Nat.le_of_ble_eq_true rfl⟩ ?_
                refine g_bsplit ?_ ?_
                · skip
                  intro hf3
                  refine g_iload_n 87 C 1 dX6_fits_86 rfl rfl ?_
                  refine g_if_ne 94 90 C dX6_fits_87 (by decide) rfl (by omega) ?_ ?_
                  · intro h87
                    refine g_iconst 95 C dX6_fits_94 rfl ?_
                    refine g_icmp_ne 102 98 C dX6_fits_95 (by decide) rfl (by omega) ?_ (fun q => absurd q (by omega))
                    intro _
                    refine g_iconst 103 C dX6_fits_102 rfl ?_
                    exact kj _ (by first | exact (cI_t (by omega)).symm | exact (cI_f (by omega)).symm)
                  · intro h87
                    refine g_iconst 91 C dX6_fits_90 rfl ?_
                    refine g_goto 95 C dX6_fits_91 (by decide) ?_
                    refine g_icmp_ne 102 98 C dX6_fits_95 (by decide) rfl (by omega) (fun q => absurd q (by omega)) ?_
                    intro _
                    refine g_iconst 99 C dX6_fits_98 rfl ?_
                    refine g_goto 103 C dX6_fits_99 (by decide) ?_
                    exact kj _ (by first | exact (cI_t (by omega)).symm | exact (cI_f (by omega)).symm)
                · skip
                  intro hf3
                  refine g_iload_n 87 C 1 dX6_fits_86 rfl rfl ?_
                  refine g_if_ne 94 90 C dX6_fits_87 (by decide) rfl (by omega) ?_ ?_
                  · intro h87
                    refine g_iconst 95 C dX6_fits_94 rfl ?_
                    refine g_icmp_ne 102 98 C dX6_fits_95 (by decide) rfl (by omega) (fun q => absurd q (by omega)) ?_
                    intro _
                    refine g_iconst 99 C dX6_fits_98 rfl ?_
                    refine g_goto 103 C dX6_fits_99 (by decide) ?_
                    exact kj _ (by first | exact (cI_t (by omega)).symm | exact (cI_f (by omega)).symm)
                  · intro h87
                    refine g_iconst 91 C dX6_fits_90 rfl ?_
                    refine g_goto 95 C dX6_fits_91 (by decide) ?_
                    refine g_icmp_ne 102 98 C dX6_fits_95 (by decide) rfl (by omega) ?_ (fun q => absurd q (by omega))
                    intro _
                    refine g_iconst 103 C dX6_fits_102 rfl ?_
                    exact kj _ (by first | exact (cI_t (by omega)).symm | exact (cI_f (by omega)).symm)
              · intro h69
                refine g_iconst 73 C dX6_fits_72 rfl ?_
                refine g_goto 77 C dX6_fits_73 (by decide) ?_
                refine g_icmp_ne 102 80 C dX6_fits_77 (by decide) rfl (by omega) ?_ (fun q => absurd q (by omega))
                intro _
                refine g_iconst 103 C dX6_fits_102 rfl ?_
                exact kj _ (by first | exact (cI_t (by omega)).symm | exact (cI_f (by omega)).symm)
        · skip
          intro hf1
          refine g_iload_n 39 C 1 dX6_fits_38 rfl rfl ?_
          refine g_aload_n 40 C 2 dX6_fits_39 rfl rfl ?_
          refine g_get 43 C 0 1 6 iX6_fits_X6 lX6_fits_47 dX6_fits_40 rfl rfl rfl (by decide) rfl ?_
          refine g_iconst 44 C dX6_fits_43 rfl ?_
          refine g_isub 45 C dX6_fits_44 rfl ?_
          refine g_icmp_ne 52 48 C dX6_fits_45 (by decide) rfl (by omega) ?_ ?_
          · intro h45
            refine g_iconst 53 C dX6_fits_52 rfl ?_
            refine g_icmp_ne 102 56 C dX6_fits_53 (by decide) rfl (by omega) (fun q => absurd q (by omega)) ?_
            intro _
            refine g_aload_n 57 C 2 dX6_fits_56 rfl rfl ?_
            refine g_iload_n 58 C 3 dX6_fits_57 rfl rfl ?_
            refine g_iconst 59 C dX6_fits_58 rfl ?_
            refine g_callVF 62 C [0, 2, 3, 4, 5] dX6_fits_59 rfl (k_X6_isFlat E l  (by first | assumption | omega) (by first | assumption | omega) (by first | assumption | omega) (by first | assumption | omega) (by first | assumption | omega) (hqa k (by omega))) (cwV 2 C.2.2.2.2.1 gX6_fits_X6_isFlat rfl rfl rfl cdX6_isFlat ⟨Nat.le_of_ble_eq_true rfl, Nat.le_of_ble_eq_true rfl⟩) rfl rfl rfl rfl (Nat.le_of_ble_eq_true rfl) 0 6 rfl rfl rfl ⟨Nat.le_of_ble_eq_true rfl, Nat.le_of_ble_eq_true rfl⟩ ?_
            refine g_bsplit ?_ ?_
            · skip
              intro hf2
              refine g_iload_n 63 C 0 dX6_fits_62 rfl rfl ?_
              refine g_aload_n 64 C 2 dX6_fits_63 rfl rfl ?_
              refine g_get 67 C 0 2 6 iX6_fits_X6 lX6_fits_51 dX6_fits_64 rfl rfl rfl (by decide) rfl ?_
              refine g_iconst 68 C dX6_fits_67 rfl ?_
              refine g_isub 69 C dX6_fits_68 rfl ?_
              refine g_icmp_ne 76 72 C dX6_fits_69 (by decide) rfl (by omega) ?_ ?_
              · intro h69
                refine g_iconst 77 C dX6_fits_76 rfl ?_
                refine g_icmp_ne 102 80 C dX6_fits_77 (by decide) rfl (by omega) ?_ (fun q => absurd q (by omega))
                intro _
                refine g_iconst 103 C dX6_fits_102 rfl ?_
                exact kj _ (by first | exact (cI_t (by omega)).symm | exact (cI_f (by omega)).symm)
              · intro h69
                refine g_iconst 73 C dX6_fits_72 rfl ?_
                refine g_goto 77 C dX6_fits_73 (by decide) ?_
                refine g_icmp_ne 102 80 C dX6_fits_77 (by decide) rfl (by omega) (fun q => absurd q (by omega)) ?_
                intro _
                refine g_aload_n 81 C 2 dX6_fits_80 rfl rfl ?_
                refine g_iload_n 82 C 3 dX6_fits_81 rfl rfl ?_
                refine g_iconst 83 C dX6_fits_82 rfl ?_
                refine g_callVF 86 C [0, 2, 3, 4, 5] dX6_fits_83 rfl (k_X6_isFlat E l  (by first | assumption | omega) (by first | assumption | omega) (by first | assumption | omega) (by first | assumption | omega) (by first | assumption | omega) (hqa k (by omega))) (cwV 2 C.2.2.2.2.1 gX6_fits_X6_isFlat rfl rfl rfl cdX6_isFlat ⟨Nat.le_of_ble_eq_true rfl, Nat.le_of_ble_eq_true rfl⟩) rfl rfl rfl rfl (Nat.le_of_ble_eq_true rfl) 0 6 rfl rfl rfl ⟨Nat.le_of_ble_eq_true rfl, Nat.le_of_ble_eq_true rfl⟩ ?_
                refine g_bsplit ?_ ?_
                · skip
                  intro hf3
                  refine g_iload_n 87 C 1 dX6_fits_86 rfl rfl ?_
                  refine g_if_ne 94 90 C dX6_fits_87 (by decide) rfl (by omega) ?_ ?_
                  · intro h87
                    refine g_iconst 95 C dX6_fits_94 rfl ?_
                    refine g_icmp_ne 102 98 C dX6_fits_95 (by decide) rfl (by omega) ?_ (fun q => absurd q (by omega))
                    intro _
                    refine g_iconst 103 C dX6_fits_102 rfl ?_
                    exact kj _ (by first | exact (cI_t (by omega)).symm | exact (cI_f (by omega)).symm)
                  · intro h87
                    refine g_iconst 91 C dX6_fits_90 rfl ?_
                    refine g_goto 95 C dX6_fits_91 (by decide) ?_
                    refine g_icmp_ne 102 98 C dX6_fits_95 (by decide) rfl (by omega) (fun q => absurd q (by omega)) ?_
                    intro _
                    refine g_iconst 99 C dX6_fits_98 rfl ?_
                    refine g_goto 103 C dX6_fits_99 (by decide) ?_
                    exact kj _ (by first | exact (cI_t (by omega)).symm | exact (cI_f (by omega)).symm)
                · skip
                  intro hf3
                  refine g_iload_n 87 C 1 dX6_fits_86 rfl rfl ?_
                  refine g_if_ne 94 90 C dX6_fits_87 (by decide) rfl (by omega) ?_ ?_
                  · intro h87
                    refine g_iconst 95 C dX6_fits_94 rfl ?_
                    refine g_icmp_ne 102 98 C dX6_fits_95 (by decide) rfl (by omega) (fun q => absurd q (by omega)) ?_
                    intro _
                    refine g_iconst 99 C dX6_fits_98 rfl ?_
                    refine g_goto 103 C dX6_fits_99 (by decide) ?_
                    exact kj _ (by first | exact (cI_t (by omega)).symm | exact (cI_f (by omega)).symm)
                  · intro h87
                    refine g_iconst 91 C dX6_fits_90 rfl ?_
                    refine g_goto 95 C dX6_fits_91 (by decide) ?_
                    refine g_icmp_ne 102 98 C dX6_fits_95 (by decide) rfl (by omega) ?_ (fun q => absurd q (by omega))
                    intro _
                    refine g_iconst 103 C dX6_fits_102 rfl ?_
                    exact kj _ (by first | exact (cI_t (by omega)).symm | exact (cI_f (by omega)).symm)
            · skip
              intro hf2
              refine g_iload_n 63 C 0 dX6_fits_62 rfl rfl ?_
              refine g_aload_n 64 C 2 dX6_fits_63 rfl rfl ?_
              refine g_get 67 C 0 2 6 iX6_fits_X6 lX6_fits_51 dX6_fits_64 rfl rfl rfl (by decide) rfl ?_
              refine g_iconst 68 C dX6_fits_67 rfl ?_
              refine g_isub 69 C dX6_fits_68 rfl ?_
              refine g_icmp_ne 76 72 C dX6_fits_69 (by decide) rfl (by omega) ?_ ?_
              · intro h69
                refine g_iconst 77 C dX6_fits_76 rfl ?_
                refine g_icmp_ne 102 80 C dX6_fits_77 (by decide) rfl (by omega) (fun q => absurd q (by omega)) ?_
                intro _
                refine g_aload_n 81 C 2 dX6_fits_80 rfl rfl ?_
                refine g_iload_n 82 C 3 dX6_fits_81 rfl rfl ?_
                refine g_iconst 83 C dX6_fits_82 rfl ?_
                refine g_callVF 86 C [0, 2, 3, 4, 5] dX6_fits_83 rfl (k_X6_isFlat E l  (by first | assumption | omega) (by first | assumption | omega) (by first | assumption | omega) (by first | assumption | omega) (by first | assumption | omega) (hqa k (by omega))) (cwV 2 C.2.2.2.2.1 gX6_fits_X6_isFlat rfl rfl rfl cdX6_isFlat ⟨Nat.le_of_ble_eq_true rfl, Nat.le_of_ble_eq_true rfl⟩) rfl rfl rfl rfl (Nat.le_of_ble_eq_true rfl) 0 6 rfl rfl rfl ⟨Nat.le_of_ble_eq_true rfl, Nat.le_of_ble_eq_true rfl⟩ ?_
                refine g_bsplit ?_ ?_
                · skip
                  intro hf3
                  refine g_iload_n 87 C 1 dX6_fits_86 rfl rfl ?_
                  refine g_if_ne 94 90 C dX6_fits_87 (by decide) rfl (by omega) ?_ ?_
                  · intro h87
                    refine g_iconst 95 C dX6_fits_94 rfl ?_
                    refine g_icmp_ne 102 98 C dX6_fits_95 (by decide) rfl (by omega) ?_ (fun q => absurd q (by omega))
                    intro _
                    refine g_iconst 103 C dX6_fits_102 rfl ?_
                    exact kj _ (by first | exact (cI_t (by omega)).symm | exact (cI_f (by omega)).symm)
                  · intro h87
                    refine g_iconst 91 C dX6_fits_90 rfl ?_
                    refine g_goto 95 C dX6_fits_91 (by decide) ?_
                    refine g_icmp_ne 102 98 C dX6_fits_95 (by decide) rfl (by omega) (fun q => absurd q (by omega)) ?_
                    intro _
                    refine g_iconst 99 C dX6_fits_98 rfl ?_
                    refine g_goto 103 C dX6_fits_99 (by decide) ?_
                    exact kj _ (by first | exact (cI_t (by omega)).symm | exact (cI_f (by omega)).symm)
                · skip
                  intro hf3
                  refine g_iload_n 87 C 1 dX6_fits_86 rfl rfl ?_
                  refine g_if_ne 94 90 C dX6_fits_87 (by decide) rfl (by omega) ?_ ?_
                  · intro h87
                    refine g_iconst 95 C dX6_fits_94 rfl ?_
                    refine g_icmp_ne 102 98 C dX6_fits_95 (by decide) rfl (by omega) (fun q => absurd q (by omega)) ?_
                    intro _
                    refine g_iconst 99 C dX6_fits_98 rfl ?_
                    refine g_goto 103 C dX6_fits_99 (by decide) ?_
                    exact kj _ (by first | exact (cI_t (by omega)).symm | exact (cI_f (by omega)).symm)
                  · intro h87
                    refine g_iconst 91 C dX6_fits_90 rfl ?_
                    refine g_goto 95 C dX6_fits_91 (by decide) ?_
                    refine g_icmp_ne 102 98 C dX6_fits_95 (by decide) rfl (by omega) ?_ (fun q => absurd q (by omega))
                    intro _
                    refine g_iconst 103 C dX6_fits_102 rfl ?_
                    exact kj _ (by first | exact (cI_t (by omega)).symm | exact (cI_f (by omega)).symm)
              · intro h69
                refine g_iconst 73 C dX6_fits_72 rfl ?_
                refine g_goto 77 C dX6_fits_73 (by decide) ?_
                refine g_icmp_ne 102 80 C dX6_fits_77 (by decide) rfl (by omega) ?_ (fun q => absurd q (by omega))
                intro _
                refine g_iconst 103 C dX6_fits_102 rfl ?_
                exact kj _ (by first | exact (cI_t (by omega)).symm | exact (cI_f (by omega)).symm)
          · intro h45
            refine g_iconst 49 C dX6_fits_48 rfl ?_
            refine g_goto 53 C dX6_fits_49 (by decide) ?_
            refine g_icmp_ne 102 56 C dX6_fits_53 (by decide) rfl (by omega) ?_ (fun q => absurd q (by omega))
            intro _
            refine g_iconst 103 C dX6_fits_102 rfl ?_
            exact kj _ (by first | exact (cI_t (by omega)).symm | exact (cI_f (by omega)).symm)
      · intro h21
        refine g_iconst 25 C dX6_fits_24 rfl ?_
        refine g_goto 29 C dX6_fits_25 (by decide) ?_
        refine g_icmp_ne 102 32 C dX6_fits_29 (by decide) rfl (by omega) ?_ (fun q => absurd q (by omega))
        intro _
        refine g_iconst 103 C dX6_fits_102 rfl ?_
        exact kj _ (by first | exact (cI_t (by omega)).symm | exact (cI_f (by omega)).symm)
