theorem nx_nf {W h k d : Int} (hB : 1 ≤ W ∧ W ≤ 5 ∧ 1 ≤ h ∧ h ≤ 5) (hk : 0 ≤ k ∧ k < W * h) (hd : 0 ≤ d ∧ d < 4) (hf : sdI W h k d ≠ -9) (hx : nxI W k d < k) : 0 ≤ nxI W k d := by
  obtain ⟨f0, f1, f2, f3⟩ := sdI_fl hB hk
  have h4 : d = 0 ∨ d = 1 ∨ d = 2 ∨ d = 3 := by omega
  rcases h4 with rfl | rfl | rfl | rfl
  · exact (kW_f hB.1 hk.1 (fun z => hf (f0.mpr z))).1
  · have e : nxI W k 1 = k + 1 := rfl
    omega
  · have e : nxI W k 2 = k + W := rfl
    omega
  · exact (k1_f hB.1 hk.1 (fun z => hf (f3.mpr z))).1
set_option maxHeartbeats 4000000 in
set_option maxRecDepth 100000 in
theorem k_X3_look (E : gE) (l : Launch) {a_a : Nat} {N : Nat} {z : Int} {f : Int → Int} (hz : 0 ≤ z ∧ z < (N : Int)) (hN : N < 2147483648) : gFun E l yX3_look wsX3_look { frames := 0, cells := 0, slots := 0, locals := 0 } [.ref a_a, .int (iI z)] [(a_a, aI E N f)] (.int (iI (f z))) := by
  refine g_start (cc := cX3_look) (maxL := 2) (ret := (some .int)) (by decide) rfl (Nat.le_of_ble_eq_true rfl) ?_
  intro p_ e_ s_ m_ args_ below_ meth_ c_ A_ C hr hnm
  refine g_iload_n 1 C 1 dX3_look_0 rfl rfl ?_
  refine g_if_lt 16 4 C dX3_look_1 (by decide) rfl (by omega) (fun h1 => absurd h1 (by omega)) ?_
  intro h1
  refine g_iload_n 5 C 1 dX3_look_4 rfl rfl ?_
  refine g_aload_n 6 C 0 dX3_look_5 rfl rfl ?_
  refine g_alenI 7 C 0 dX3_look_6 rfl rfl ?_
  refine g_icmp_ge 16 10 C dX3_look_7 (by decide) rfl (by omega) (fun h7 => absurd h7 (by omega)) ?_
  intro h7
  refine g_aload_n 11 C 0 dX3_look_10 rfl rfl ?_
  refine g_iload_n 12 C 1 dX3_look_11 rfl rfl ?_
  refine g_iaload 13 C 0 dX3_look_12 rfl rfl (by omega) ?_
  refine g_goto 17 C dX3_look_13 (by decide) ?_
  exact g_iret C hr dX3_look_17 ⟨g_ri (rfl), rfl⟩
set_option maxHeartbeats 4000000 in
set_option maxRecDepth 100000 in
theorem k_X3_note (E : gE) (l : Launch) {a_a : Nat} {N : Nat} {z v : Int} {f : Int → Int} (hz : 0 ≤ z ∧ z < (N : Int)) (hN : N < 2147483648) : gUpd E l yX3_note wsX3_note { frames := 0, cells := 0, slots := 0, locals := 0 } [.ref a_a, .int (iI z), .int (iI v)] [(a_a, aI E N f)] none [(a_a, aI E N (uI f z v))] := by
  refine g_start (cc := cX3_note) (maxL := 3) (ret := none) (by decide) rfl (Nat.le_of_ble_eq_true rfl) ?_
  intro p_ e_ s_ m_ args_ below_ meth_ c_ A_ C hr hnm
  refine g_iload_n 1 C 1 dX3_note_0 rfl rfl ?_
  refine g_if_lt 14 4 C dX3_note_1 (by decide) rfl (by omega) (fun h1 => absurd h1 (by omega)) ?_
  intro h1
  refine g_iload_n 5 C 1 dX3_note_4 rfl rfl ?_
  refine g_aload_n 6 C 0 dX3_note_5 rfl rfl ?_
  refine g_alenI 7 C 0 dX3_note_6 rfl rfl ?_
  refine g_icmp_ge 14 10 C dX3_note_7 (by decide) rfl (by omega) (fun h7 => absurd h7 (by omega)) ?_
  intro h7
  refine g_aload_n 11 C 0 dX3_note_10 rfl rfl ?_
  refine g_iload_n 12 C 1 dX3_note_11 rfl rfl ?_
  refine g_iload_n 13 C 2 dX3_note_12 rfl rfl ?_
  refine g_iastore (ws' := [(_, aI _ _ _)]) 14 C 0 dX3_note_13 rfl rfl (by omega) rfl ?_
  exact g_vret C hr dX3_note_14 ⟨rfl, rfl⟩
theorem cdX3_look : yX3_look.cls ≠ "java/lang/invoke/MethodHandle" ∧ yX3_look.cls ≠ "java/lang/invoke/VarHandle" ∧ (parseMethodDescriptor yX3_look.desc).map (fun d => d.parameters.length) = some 2 := by decide +kernel
theorem lX3_joinedFrom_28 : Cond.fieldLink RX3 28 (TX3 7).1 (TX3 7).2.1 (TX3 7).2.2.1 ∈ wsX3_joinedFrom := by decide +kernel
theorem iX3_joinedFrom_X3 : ∀ w ∈ u_ws RX3 TX3 13, w ∈ wsX3_joinedFrom := by decide +kernel
set_option maxHeartbeats 4000000 in
set_option maxRecDepth 100000 in
theorem k_X3_joinedFrom (E : gE) (l : Launch) {a_L a_P a_R a_fi a_jl a_ly a_sh a_us a_wa : Nat} {z : Int} {jl : Int → Int} {jo fo sp fd tc : Int} (hz : 0 ≤ z ∧ z < 25) (hjl : 0 ≤ jl z ∧ jl z < 100) : gFun E l yX3_joinedFrom wsX3_joinedFrom { frames := 1, cells := 0, slots := 0, locals := 21 } [.ref a_R, .int (iI z)] [(a_R, .inr (3, [.ref a_P, .ref a_L, .ref a_sh, .ref a_fi, .ref a_wa, .ref a_us, .ref a_ly, .ref a_jl, .int (iI jo), .int (iI fo), .int (iI sp), .int (iI fd), .int (iI tc)])), (a_jl, aI E 25 jl)] (.int (iI (jl z / 4))) := by
  refine g_start (cc := cX3_joinedFrom) (maxL := 2) (ret := (some .int)) (by decide) rfl (Nat.le_of_ble_eq_true rfl) ?_
  intro p_ e_ s_ m_ args_ below_ meth_ c_ A_ C hr hnm
  refine g_aload_n 1 C 0 dX3_joinedFrom_0 rfl rfl ?_
  refine g_get 4 C 0 7 3 iX3_joinedFrom_X3 lX3_joinedFrom_28 dX3_joinedFrom_1 rfl rfl rfl (by decide) rfl ?_
  refine g_iload_n 5 C 1 dX3_joinedFrom_4 rfl rfl ?_
  refine g_callSF 8 C [1] dX3_joinedFrom_5 rfl (k_X3_look E l  (by first | assumption | omega) (by first | assumption | omega)) (va_cwS 2 C.2.2.2.2.1 gX3_joinedFrom_X3_look rfl rfl rfl cdX3_look ⟨Nat.le_of_ble_eq_true rfl, Nat.le_of_ble_eq_true rfl⟩) rfl rfl rfl rfl (Nat.le_of_ble_eq_true rfl) ⟨Nat.le_of_ble_eq_true rfl, Nat.le_of_ble_eq_true rfl⟩ ?_
  refine g_iconst 9 C dX3_joinedFrom_8 rfl ?_
  refine g_idiv 10 C dX3_joinedFrom_9 rfl (by omega) ?_
  exact g_iret C hr dX3_joinedFrom_10 ⟨g_ri (by first | rfl | omega | exact (if_pos (by omega)).symm | exact (if_neg (by omega)).symm), rfl⟩
theorem lX3_joinedTurn_28 : Cond.fieldLink RX3 28 (TX3 7).1 (TX3 7).2.1 (TX3 7).2.2.1 ∈ wsX3_joinedTurn := by decide +kernel
theorem iX3_joinedTurn_X3 : ∀ w ∈ u_ws RX3 TX3 13, w ∈ wsX3_joinedTurn := by decide +kernel
set_option maxHeartbeats 4000000 in
set_option maxRecDepth 100000 in
theorem k_X3_joinedTurn (E : gE) (l : Launch) {a_L a_P a_R a_fi a_jl a_ly a_sh a_us a_wa : Nat} {z : Int} {jl : Int → Int} {jo fo sp fd tc : Int} (hz : 0 ≤ z ∧ z < 25) (hjl : 0 ≤ jl z ∧ jl z < 100) : gFun E l yX3_joinedTurn wsX3_joinedTurn { frames := 1, cells := 0, slots := 0, locals := 21 } [.ref a_R, .int (iI z)] [(a_R, .inr (3, [.ref a_P, .ref a_L, .ref a_sh, .ref a_fi, .ref a_wa, .ref a_us, .ref a_ly, .ref a_jl, .int (iI jo), .int (iI fo), .int (iI sp), .int (iI fd), .int (iI tc)])), (a_jl, aI E 25 jl)] (.int (iI (jl z % 4))) := by
  refine g_start (cc := cX3_joinedTurn) (maxL := 2) (ret := (some .int)) (by decide) rfl (Nat.le_of_ble_eq_true rfl) ?_
  intro p_ e_ s_ m_ args_ below_ meth_ c_ A_ C hr hnm
  refine g_aload_n 1 C 0 dX3_joinedTurn_0 rfl rfl ?_
  refine g_get 4 C 0 7 3 iX3_joinedTurn_X3 lX3_joinedTurn_28 dX3_joinedTurn_1 rfl rfl rfl (by decide) rfl ?_
  refine g_iload_n 5 C 1 dX3_joinedTurn_4 rfl rfl ?_
  refine g_callSF 8 C [1] dX3_joinedTurn_5 rfl (k_X3_look E l  (by first | assumption | omega) (by first | assumption | omega)) (va_cwS 2 C.2.2.2.2.1 gX3_joinedTurn_X3_look rfl rfl rfl cdX3_look ⟨Nat.le_of_ble_eq_true rfl, Nat.le_of_ble_eq_true rfl⟩) rfl rfl rfl rfl (Nat.le_of_ble_eq_true rfl) ⟨Nat.le_of_ble_eq_true rfl, Nat.le_of_ble_eq_true rfl⟩ ?_
  refine g_iconst 9 C dX3_joinedTurn_8 rfl ?_
  refine g_irem 10 C dX3_joinedTurn_9 rfl (by omega) ?_
  exact g_iret C hr dX3_joinedTurn_10 ⟨g_ri (by first | rfl | omega | exact (if_pos (by omega)).symm | exact (if_neg (by omega)).symm), rfl⟩
theorem lX3_trialsCounted_39 : Cond.fieldLink RX3 39 (TX3 12).1 (TX3 12).2.1 (TX3 12).2.2.1 ∈ wsX3_trialsCounted := by decide +kernel
theorem iX3_trialsCounted_X3 : ∀ w ∈ u_ws RX3 TX3 13, w ∈ wsX3_trialsCounted := by decide +kernel
set_option maxHeartbeats 4000000 in
set_option maxRecDepth 100000 in
theorem k_X3_trialsCounted (E : gE) (l : Launch) {a_L a_P a_R a_fi a_jl a_ly a_sh a_us a_wa : Nat} {jo fo sp fd tc : Int}  : gFun E l yX3_trialsCounted wsX3_trialsCounted { frames := 0, cells := 0, slots := 0, locals := 0 } [.ref a_R] [(a_R, .inr (3, [.ref a_P, .ref a_L, .ref a_sh, .ref a_fi, .ref a_wa, .ref a_us, .ref a_ly, .ref a_jl, .int (iI jo), .int (iI fo), .int (iI sp), .int (iI fd), .int (iI tc)]))] (.int (iI tc)) := by
  refine g_start (cc := cX3_trialsCounted) (maxL := 1) (ret := (some .int)) (by decide) rfl (Nat.le_of_ble_eq_true rfl) ?_
  intro p_ e_ s_ m_ args_ below_ meth_ c_ A_ C hr hnm
  refine g_aload_n 1 C 0 dX3_trialsCounted_0 rfl rfl ?_
  refine g_get 4 C 0 12 3 iX3_trialsCounted_X3 lX3_trialsCounted_39 dX3_trialsCounted_1 rfl rfl rfl (by decide) rfl ?_
  exact g_iret C hr dX3_trialsCounted_4 ⟨g_ri (by first | rfl | omega | exact (if_pos (by omega)).symm | exact (if_neg (by omega)).symm), rfl⟩
theorem lX3_hasJoined_43 : Cond.fieldLink RX3 43 (TX3 8).1 (TX3 8).2.1 (TX3 8).2.2.1 ∈ wsX3_hasJoined := by decide +kernel
theorem iX3_hasJoined_X3 : ∀ w ∈ u_ws RX3 TX3 13, w ∈ wsX3_hasJoined := by decide +kernel
set_option maxHeartbeats 4000000 in
set_option maxRecDepth 100000 in
theorem k_X3_hasJoined (E : gE) (l : Launch) {a_L a_P a_R a_fi a_jl a_ly a_sh a_us a_wa : Nat} {jo fo sp fd tc : Int} (hjo : jo = 0 ∨ jo = 1) : gFun E l yX3_hasJoined wsX3_hasJoined { frames := 0, cells := 0, slots := 0, locals := 0 } [.ref a_R] [(a_R, .inr (3, [.ref a_P, .ref a_L, .ref a_sh, .ref a_fi, .ref a_wa, .ref a_us, .ref a_ly, .ref a_jl, .int (iI jo), .int (iI fo), .int (iI sp), .int (iI fd), .int (iI tc)]))] (.int (iI jo)) := by
  refine g_start (cc := cX3_hasJoined) (maxL := 1) (ret := (some .boolean)) (by decide) rfl (Nat.le_of_ble_eq_true rfl) ?_
  intro p_ e_ s_ m_ args_ below_ meth_ c_ A_ C hr hnm
  refine g_aload_n 1 C 0 dX3_hasJoined_0 rfl rfl ?_
  refine g_get 4 C 0 8 3 iX3_hasJoined_X3 lX3_hasJoined_43 dX3_hasJoined_1 rfl rfl rfl (by decide) rfl ?_
  exact g_zret C hr dX3_hasJoined_4 (by rcases hjo with rfl | rfl <;> rfl) ⟨g_ri (by first | rfl | omega | exact (if_pos (by omega)).symm | exact (if_neg (by omega)).symm), rfl⟩
theorem lX3_forgetJoined_43 : Cond.fieldLink RX3 43 (TX3 8).1 (TX3 8).2.1 (TX3 8).2.2.1 ∈ wsX3_forgetJoined := by decide +kernel
theorem iX3_forgetJoined_X3 : ∀ w ∈ u_ws RX3 TX3 13, w ∈ wsX3_forgetJoined := by decide +kernel
set_option maxHeartbeats 4000000 in
set_option maxRecDepth 100000 in
theorem k_X3_forgetJoined (E : gE) (l : Launch) {a_L a_P a_R a_fi a_jl a_ly a_sh a_us a_wa : Nat} {jo fo sp fd tc : Int}  : gUpd E l yX3_forgetJoined wsX3_forgetJoined { frames := 0, cells := 0, slots := 0, locals := 0 } [.ref a_R] [(a_R, .inr (3, [.ref a_P, .ref a_L, .ref a_sh, .ref a_fi, .ref a_wa, .ref a_us, .ref a_ly, .ref a_jl, .int (iI jo), .int (iI fo), .int (iI sp), .int (iI fd), .int (iI tc)]))] none [(a_R, .inr (3, [.ref a_P, .ref a_L, .ref a_sh, .ref a_fi, .ref a_wa, .ref a_us, .ref a_ly, .ref a_jl, .int (iI 0), .int (iI fo), .int (iI sp), .int (iI fd), .int (iI tc)]))] := by
  refine g_start (cc := cX3_forgetJoined) (maxL := 1) (ret := none) (by decide) rfl (Nat.le_of_ble_eq_true rfl) ?_
  intro p_ e_ s_ m_ args_ below_ meth_ c_ A_ C hr hnm
  refine g_aload_n 1 C 0 dX3_forgetJoined_0 rfl rfl ?_
  refine g_iconst 2 C dX3_forgetJoined_1 rfl ?_
  refine g_put (ws' := [(_, .inr (3, [_, _, _, _, _, _, _, _, _, _, _, _, _]))]) 5 C 0 8 3 tyX3 tyX3_ok nmX3 iX3_forgetJoined_X3 lX3_forgetJoined_43 dX3_forgetJoined_2 rfl rfl rfl (by decide) rfl (by decide) rfl (Nat.le_of_ble_eq_true rfl) rfl ?_
  exact g_vret C hr dX3_forgetJoined_5 ⟨rfl, rfl⟩
theorem lX3_codeOf_31 : Cond.fieldLink RX3 31 (TX3 0).1 (TX3 0).2.1 (TX3 0).2.2.1 ∈ wsX3_codeOf := by decide +kernel
theorem iX3_codeOf_X3 : ∀ w ∈ u_ws RX3 TX3 13, w ∈ wsX3_codeOf := by decide +kernel
set_option maxHeartbeats 4000000 in
set_option maxRecDepth 100000 in
theorem k_X3_codeOf (E : gE) (l : Launch) {a_L a_P a_R a_fi a_hs a_jl a_ly a_se a_sh a_us a_wa : Nat} {W h p e : Int} {hs se : Int → Int} {jo fo sp fd tc : Int} (hB : 1 ≤ W ∧ W ≤ 5 ∧ 1 ≤ h ∧ h ≤ 5) (hp : 0 ≤ p ∧ p < W * h) (he : 0 ≤ e ∧ e < 4) (hse : ∀ p e : Int, 0 ≤ p ∧ p < W * h → 0 ≤ e ∧ e < 4 → se (p * 4 + e) = sdI W h p e) (hf : sdI W h p e ≠ -9) (hh : hB9 hs) : gFun E l yX3_codeOf wsX3_codeOf { frames := 2, cells := 0, slots := 0, locals := 48 } [.ref a_R, .int (iI p), .int (iI e)] [(a_R, .inr (3, [.ref a_P, .ref a_L, .ref a_sh, .ref a_fi, .ref a_wa, .ref a_us, .ref a_ly, .ref a_jl, .int (iI jo), .int (iI fo), .int (iI sp), .int (iI fd), .int (iI tc)])), (a_P, .inr (1, [.ref a_hs, .ref a_se, .int (iI W), .int (iI h)])), (a_hs, aI E 200 hs), (a_se, aI E 100 se)] (.int (iI (coI W h hs p e))) := by
  refine g_start (cc := cX3_codeOf) (maxL := 5) (ret := (some .int)) (by decide) rfl (Nat.le_of_ble_eq_true rfl) ?_
  intro p_ e_ s_ m_ args_ below_ meth_ c_ A_ C hr hnm
  refine g_iconst 1 C dX3_codeOf_0 rfl ?_
  refine g_istore_n (lv' := [(3, _), (0, _), (1, _), (2, _)]) 2 C dX3_codeOf_1 rfl rfl (by decide) rfl ?_
  refine g_iconst 3 C dX3_codeOf_2 rfl ?_
  refine g_istore (lv' := [(4, _), (3, _), (0, _), (1, _), (2, _)]) 5 C dX3_codeOf_3 rfl (by decide) rfl ?_
  refine g_iload 7 C 0 dX3_codeOf_5 rfl rfl ?_
  refine g_iconst 8 C dX3_codeOf_7 rfl ?_
  refine g_icmp_ge 37 11 C dX3_codeOf_8 (by decide) rfl (by omega) (fun q => absurd q (by omega)) ?_
  intro _
  refine g_iload_n 12 C 1 dX3_codeOf_11 rfl rfl ?_
  refine g_bipush 14 C dX3_codeOf_12 rfl (by decide) ?_
  refine g_imul 15 C dX3_codeOf_14 rfl ?_
  refine g_bipush 17 C dX3_codeOf_15 rfl (by decide) ?_
  refine g_iadd 18 C dX3_codeOf_17 rfl ?_
  refine g_aload_n 19 C 2 dX3_codeOf_18 rfl rfl ?_
  refine g_get 22 C 0 0 3 iX3_codeOf_X3 lX3_codeOf_31 dX3_codeOf_19 rfl rfl rfl (by decide) rfl ?_
  refine g_iload_n 23 C 3 dX3_codeOf_22 rfl rfl ?_
  refine g_iload_n 24 C 4 dX3_codeOf_23 rfl rfl ?_
  refine g_iload 26 C 0 dX3_codeOf_24 rfl rfl ?_
  refine g_callVF 29 C [1, 2, 3] dX3_codeOf_26 rfl (k_X1_edgeHeight E l  (by first | assumption | omega) (by first | assumption | omega) (by first | assumption | omega) (by first | assumption | omega) (by first | assumption | omega) (by first | assumption | omega)) (cwV 3 C.2.2.2.2.1 gX3_codeOf_X1_edgeHeight rfl rfl rfl cdX1_edgeHeight ⟨Nat.le_of_ble_eq_true rfl, Nat.le_of_ble_eq_true rfl⟩) rfl rfl rfl rfl (Nat.le_of_ble_eq_true rfl) 1 1 rfl rfl rfl ⟨Nat.le_of_ble_eq_true rfl, Nat.le_of_ble_eq_true rfl⟩ ?_
  refine g_iadd 30 C dX3_codeOf_29 rfl ?_
  refine g_istore_n (lv' := [(3, _), (4, _), (0, _), (1, _), (2, _)]) 31 C dX3_codeOf_30 rfl rfl (by decide) rfl ?_
  refine g_iinc (lv' := [(4, .int (iI 1)), (3, _), (0, _), (1, _), (2, _)]) 34 C 1 dX3_codeOf_31 rfl rfl (by decide) rfl ?_
  refine g_goto 5 C dX3_codeOf_34 (by decide) ?_
  refine g_iload 7 C 0 dX3_codeOf_5 rfl rfl ?_
  refine g_iconst 8 C dX3_codeOf_7 rfl ?_
  refine g_icmp_ge 37 11 C dX3_codeOf_8 (by decide) rfl (by omega) (fun q => absurd q (by omega)) ?_
  intro _
  refine g_iload_n 12 C 1 dX3_codeOf_11 rfl rfl ?_
  refine g_bipush 14 C dX3_codeOf_12 rfl (by decide) ?_
  refine g_imul 15 C dX3_codeOf_14 rfl ?_
  refine g_bipush 17 C dX3_codeOf_15 rfl (by decide) ?_
  refine g_iadd 18 C dX3_codeOf_17 rfl ?_
  refine g_aload_n 19 C 2 dX3_codeOf_18 rfl rfl ?_
  refine g_get 22 C 0 0 3 iX3_codeOf_X3 lX3_codeOf_31 dX3_codeOf_19 rfl rfl rfl (by decide) rfl ?_
  refine g_iload_n 23 C 3 dX3_codeOf_22 rfl rfl ?_
  refine g_iload_n 24 C 4 dX3_codeOf_23 rfl rfl ?_
  refine g_iload 26 C 0 dX3_codeOf_24 rfl rfl ?_
  refine g_callVF 29 C [1, 2, 3] dX3_codeOf_26 rfl (k_X1_edgeHeight E l  (by first | assumption | omega) (by first | assumption | omega) (by first | assumption | omega) (by first | assumption | omega) (by first | assumption | omega) (by first | assumption | omega)) (cwV 3 C.2.2.2.2.1 gX3_codeOf_X1_edgeHeight rfl rfl rfl cdX1_edgeHeight ⟨Nat.le_of_ble_eq_true rfl, Nat.le_of_ble_eq_true rfl⟩) rfl rfl rfl rfl (Nat.le_of_ble_eq_true rfl) 1 1 rfl rfl rfl ⟨Nat.le_of_ble_eq_true rfl, Nat.le_of_ble_eq_true rfl⟩ ?_
  refine g_iadd 30 C dX3_codeOf_29 rfl ?_
  refine g_istore_n (lv' := [(3, _), (4, _), (0, _), (1, _), (2, _)]) 31 C dX3_codeOf_30 rfl rfl (by decide) rfl ?_
  refine g_iinc (lv' := [(4, .int (iI 2)), (3, _), (0, _), (1, _), (2, _)]) 34 C 1 dX3_codeOf_31 rfl rfl (by decide) rfl ?_
  refine g_goto 5 C dX3_codeOf_34 (by decide) ?_
  refine g_iload 7 C 0 dX3_codeOf_5 rfl rfl ?_
  refine g_iconst 8 C dX3_codeOf_7 rfl ?_
  refine g_icmp_ge 37 11 C dX3_codeOf_8 (by decide) rfl (by omega) (fun q => absurd q (by omega)) ?_
  intro _
  refine g_iload_n 12 C 1 dX3_codeOf_11 rfl rfl ?_
  refine g_bipush 14 C dX3_codeOf_12 rfl (by decide) ?_
  refine g_imul 15 C dX3_codeOf_14 rfl ?_
  refine g_bipush 17 C dX3_codeOf_15 rfl (by decide) ?_
  refine g_iadd 18 C dX3_codeOf_17 rfl ?_
  refine g_aload_n 19 C 2 dX3_codeOf_18 rfl rfl ?_
  refine g_get 22 C 0 0 3 iX3_codeOf_X3 lX3_codeOf_31 dX3_codeOf_19 rfl rfl rfl (by decide) rfl ?_
  refine g_iload_n 23 C 3 dX3_codeOf_22 rfl rfl ?_
  refine g_iload_n 24 C 4 dX3_codeOf_23 rfl rfl ?_
  refine g_iload 26 C 0 dX3_codeOf_24 rfl rfl ?_
  refine g_callVF 29 C [1, 2, 3] dX3_codeOf_26 rfl (k_X1_edgeHeight E l  (by first | assumption | omega) (by first | assumption | omega) (by first | assumption | omega) (by first | assumption | omega) (by first | assumption | omega) (by first | assumption | omega)) (cwV 3 C.2.2.2.2.1 gX3_codeOf_X1_edgeHeight rfl rfl rfl cdX1_edgeHeight ⟨Nat.le_of_ble_eq_true rfl, Nat.le_of_ble_eq_true rfl⟩) rfl rfl rfl rfl (Nat.le_of_ble_eq_true rfl) 1 1 rfl rfl rfl ⟨Nat.le_of_ble_eq_true rfl, Nat.le_of_ble_eq_true rfl⟩ ?_
  refine g_iadd 30 C dX3_codeOf_29 rfl ?_
  refine g_istore_n (lv' := [(3, _), (4, _), (0, _), (1, _), (2, _)]) 31 C dX3_codeOf_30 rfl rfl (by decide) rfl ?_
  refine g_iinc (lv' := [(4, .int (iI 3)), (3, _), (0, _), (1, _), (2, _)]) 34 C 1 dX3_codeOf_31 rfl rfl (by decide) rfl ?_
  refine g_goto 5 C dX3_codeOf_34 (by decide) ?_
  refine g_iload 7 C 0 dX3_codeOf_5 rfl rfl ?_
  refine g_iconst 8 C dX3_codeOf_7 rfl ?_
  refine g_icmp_ge 37 11 C dX3_codeOf_8 (by decide) rfl (by omega) (fun q => absurd q (by omega)) ?_
  intro _
  refine g_iload_n 12 C 1 dX3_codeOf_11 rfl rfl ?_
  refine g_bipush 14 C dX3_codeOf_12 rfl (by decide) ?_
  refine g_imul 15 C dX3_codeOf_14 rfl ?_
  refine g_bipush 17 C dX3_codeOf_15 rfl (by decide) ?_
  refine g_iadd 18 C dX3_codeOf_17 rfl ?_
  refine g_aload_n 19 C 2 dX3_codeOf_18 rfl rfl ?_
  refine g_get 22 C 0 0 3 iX3_codeOf_X3 lX3_codeOf_31 dX3_codeOf_19 rfl rfl rfl (by decide) rfl ?_
  refine g_iload_n 23 C 3 dX3_codeOf_22 rfl rfl ?_
  refine g_iload_n 24 C 4 dX3_codeOf_23 rfl rfl ?_
  refine g_iload 26 C 0 dX3_codeOf_24 rfl rfl ?_
  refine g_callVF 29 C [1, 2, 3] dX3_codeOf_26 rfl (k_X1_edgeHeight E l  (by first | assumption | omega) (by first | assumption | omega) (by first | assumption | omega) (by first | assumption | omega) (by first | assumption | omega) (by first | assumption | omega)) (cwV 3 C.2.2.2.2.1 gX3_codeOf_X1_edgeHeight rfl rfl rfl cdX1_edgeHeight ⟨Nat.le_of_ble_eq_true rfl, Nat.le_of_ble_eq_true rfl⟩) rfl rfl rfl rfl (Nat.le_of_ble_eq_true rfl) 1 1 rfl rfl rfl ⟨Nat.le_of_ble_eq_true rfl, Nat.le_of_ble_eq_true rfl⟩ ?_
  refine g_iadd 30 C dX3_codeOf_29 rfl ?_
  refine g_istore_n (lv' := [(3, _), (4, _), (0, _), (1, _), (2, _)]) 31 C dX3_codeOf_30 rfl rfl (by decide) rfl ?_
  refine g_iinc (lv' := [(4, .int (iI 4)), (3, _), (0, _), (1, _), (2, _)]) 34 C 1 dX3_codeOf_31 rfl rfl (by decide) rfl ?_
  refine g_goto 5 C dX3_codeOf_34 (by decide) ?_
  refine g_iload 7 C 0 dX3_codeOf_5 rfl rfl ?_
  refine g_iconst 8 C dX3_codeOf_7 rfl ?_
  refine g_icmp_ge 37 11 C dX3_codeOf_8 (by decide) rfl (by omega) (fun q => absurd q (by omega)) ?_
  intro _
  refine g_iload_n 12 C 1 dX3_codeOf_11 rfl rfl ?_
  refine g_bipush 14 C dX3_codeOf_12 rfl (by decide) ?_
  refine g_imul 15 C dX3_codeOf_14 rfl ?_
  refine g_bipush 17 C dX3_codeOf_15 rfl (by decide) ?_
  refine g_iadd 18 C dX3_codeOf_17 rfl ?_
  refine g_aload_n 19 C 2 dX3_codeOf_18 rfl rfl ?_
  refine g_get 22 C 0 0 3 iX3_codeOf_X3 lX3_codeOf_31 dX3_codeOf_19 rfl rfl rfl (by decide) rfl ?_
  refine g_iload_n 23 C 3 dX3_codeOf_22 rfl rfl ?_
  refine g_iload_n 24 C 4 dX3_codeOf_23 rfl rfl ?_
  refine g_iload 26 C 0 dX3_codeOf_24 rfl rfl ?_
  refine g_callVF 29 C [1, 2, 3] dX3_codeOf_26 rfl (k_X1_edgeHeight E l  (by first | assumption | omega) (by first | assumption | omega) (by first | assumption | omega) (by first | assumption | omega) (by first | assumption | omega) (by first | assumption | omega)) (cwV 3 C.2.2.2.2.1 gX3_codeOf_X1_edgeHeight rfl rfl rfl cdX1_edgeHeight ⟨Nat.le_of_ble_eq_true rfl, Nat.le_of_ble_eq_true rfl⟩) rfl rfl rfl rfl (Nat.le_of_ble_eq_true rfl) 1 1 rfl rfl rfl ⟨Nat.le_of_ble_eq_true rfl, Nat.le_of_ble_eq_true rfl⟩ ?_
  refine g_iadd 30 C dX3_codeOf_29 rfl ?_
  refine g_istore_n (lv' := [(3, _), (4, _), (0, _), (1, _), (2, _)]) 31 C dX3_codeOf_30 rfl rfl (by decide) rfl ?_
  refine g_iinc (lv' := [(4, .int (iI 5)), (3, _), (0, _), (1, _), (2, _)]) 34 C 1 dX3_codeOf_31 rfl rfl (by decide) rfl ?_
  refine g_goto 5 C dX3_codeOf_34 (by decide) ?_
  refine g_iload 7 C 0 dX3_codeOf_5 rfl rfl ?_
  refine g_iconst 8 C dX3_codeOf_7 rfl ?_
  refine g_icmp_ge 37 11 C dX3_codeOf_8 (by decide) rfl (by omega) ?_ (fun q => absurd q (by omega))
  intro _
  refine g_iload_n 38 C 1 dX3_codeOf_37 rfl rfl ?_
  exact g_iret C hr dX3_codeOf_38 ⟨g_ri (rfl), rfl⟩
theorem lX3_mateOf_31 : Cond.fieldLink RX3 31 (TX3 0).1 (TX3 0).2.1 (TX3 0).2.2.1 ∈ wsX3_mateOf := by decide +kernel
theorem iX3_mateOf_X3 : ∀ w ∈ u_ws RX3 TX3 13, w ∈ wsX3_mateOf := by decide +kernel
set_option maxHeartbeats 4000000 in
set_option maxRecDepth 100000 in
theorem k_X3_mateOf (E : gE) (l : Launch) {a_L a_P a_R a_fi a_hs a_jl a_ly a_se a_sh a_us a_wa : Nat} {W h p e : Int} {hs se : Int → Int} {jo fo sp fd tc : Int} (hB : 1 ≤ W ∧ W ≤ 5 ∧ 1 ≤ h ∧ h ≤ 5) (hp : 0 ≤ p ∧ p < W * h) (he : 0 ≤ e ∧ e < 4) (hse : ∀ p e : Int, 0 ≤ p ∧ p < W * h → 0 ≤ e ∧ e < 4 → se (p * 4 + e) = sdI W h p e) (hf : sdI W h p e ≠ -9) (hh : hB9 hs) : gFun E l yX3_mateOf wsX3_mateOf { frames := 2, cells := 0, slots := 0, locals := 48 } [.ref a_R, .int (iI p), .int (iI e)] [(a_R, .inr (3, [.ref a_P, .ref a_L, .ref a_sh, .ref a_fi, .ref a_wa, .ref a_us, .ref a_ly, .ref a_jl, .int (iI jo), .int (iI fo), .int (iI sp), .int (iI fd), .int (iI tc)])), (a_P, .inr (1, [.ref a_hs, .ref a_se, .int (iI W), .int (iI h)])), (a_hs, aI E 200 hs), (a_se, aI E 100 se)] (.int (iI (maI W h hs p e))) := by
  refine g_start (cc := cX3_mateOf) (maxL := 5) (ret := (some .int)) (by decide) rfl (Nat.le_of_ble_eq_true rfl) ?_
  intro p_ e_ s_ m_ args_ below_ meth_ c_ A_ C hr hnm
  refine g_iconst 1 C dX3_mateOf_0 rfl ?_
  refine g_istore_n (lv' := [(3, _), (0, _), (1, _), (2, _)]) 2 C dX3_mateOf_1 rfl rfl (by decide) rfl ?_
  refine g_iconst 3 C dX3_mateOf_2 rfl ?_
  refine g_istore (lv' := [(4, _), (3, _), (0, _), (1, _), (2, _)]) 5 C dX3_mateOf_3 rfl (by decide) rfl ?_
  refine g_iload 7 C 0 dX3_mateOf_5 rfl rfl ?_
  refine g_if_lt 36 10 C dX3_mateOf_7 (by decide) rfl (by omega) (fun q => absurd q (by omega)) ?_
  intro _
  refine g_iload_n 11 C 1 dX3_mateOf_10 rfl rfl ?_
  refine g_bipush 13 C dX3_mateOf_11 rfl (by decide) ?_
  refine g_imul 14 C dX3_mateOf_13 rfl ?_
  refine g_bipush 16 C dX3_mateOf_14 rfl (by decide) ?_
  refine g_iadd 17 C dX3_mateOf_16 rfl ?_
  refine g_aload_n 18 C 2 dX3_mateOf_17 rfl rfl ?_
  refine g_get 21 C 0 0 3 iX3_mateOf_X3 lX3_mateOf_31 dX3_mateOf_18 rfl rfl rfl (by decide) rfl ?_
  refine g_iload_n 22 C 3 dX3_mateOf_21 rfl rfl ?_
  refine g_iload_n 23 C 4 dX3_mateOf_22 rfl rfl ?_
  refine g_iload 25 C 0 dX3_mateOf_23 rfl rfl ?_
  refine g_callVF 28 C [1, 2, 3] dX3_mateOf_25 rfl (k_X1_edgeHeight E l  (by first | assumption | omega) (by first | assumption | omega) (by first | assumption | omega) (by first | assumption | omega) (by first | assumption | omega) (by first | assumption | omega)) (cwV 3 C.2.2.2.2.1 gX3_mateOf_X1_edgeHeight rfl rfl rfl cdX1_edgeHeight ⟨Nat.le_of_ble_eq_true rfl, Nat.le_of_ble_eq_true rfl⟩) rfl rfl rfl rfl (Nat.le_of_ble_eq_true rfl) 1 1 rfl rfl rfl ⟨Nat.le_of_ble_eq_true rfl, Nat.le_of_ble_eq_true rfl⟩ ?_
  refine g_isub 29 C dX3_mateOf_28 rfl ?_
  refine g_istore_n (lv' := [(3, _), (4, _), (0, _), (1, _), (2, _)]) 30 C dX3_mateOf_29 rfl rfl (by decide) rfl ?_
  refine g_iinc (lv' := [(4, .int (iI 3)), (3, _), (0, _), (1, _), (2, _)]) 33 C 1 dX3_mateOf_30 rfl rfl (by decide) rfl ?_
  refine g_goto 5 C dX3_mateOf_33 (by decide) ?_
  refine g_iload 7 C 0 dX3_mateOf_5 rfl rfl ?_
  refine g_if_lt 36 10 C dX3_mateOf_7 (by decide) rfl (by omega) (fun q => absurd q (by omega)) ?_
  intro _
  refine g_iload_n 11 C 1 dX3_mateOf_10 rfl rfl ?_
  refine g_bipush 13 C dX3_mateOf_11 rfl (by decide) ?_
  refine g_imul 14 C dX3_mateOf_13 rfl ?_
  refine g_bipush 16 C dX3_mateOf_14 rfl (by decide) ?_
  refine g_iadd 17 C dX3_mateOf_16 rfl ?_
  refine g_aload_n 18 C 2 dX3_mateOf_17 rfl rfl ?_
  refine g_get 21 C 0 0 3 iX3_mateOf_X3 lX3_mateOf_31 dX3_mateOf_18 rfl rfl rfl (by decide) rfl ?_
  refine g_iload_n 22 C 3 dX3_mateOf_21 rfl rfl ?_
  refine g_iload_n 23 C 4 dX3_mateOf_22 rfl rfl ?_
  refine g_iload 25 C 0 dX3_mateOf_23 rfl rfl ?_
  refine g_callVF 28 C [1, 2, 3] dX3_mateOf_25 rfl (k_X1_edgeHeight E l  (by first | assumption | omega) (by first | assumption | omega) (by first | assumption | omega) (by first | assumption | omega) (by first | assumption | omega) (by first | assumption | omega)) (cwV 3 C.2.2.2.2.1 gX3_mateOf_X1_edgeHeight rfl rfl rfl cdX1_edgeHeight ⟨Nat.le_of_ble_eq_true rfl, Nat.le_of_ble_eq_true rfl⟩) rfl rfl rfl rfl (Nat.le_of_ble_eq_true rfl) 1 1 rfl rfl rfl ⟨Nat.le_of_ble_eq_true rfl, Nat.le_of_ble_eq_true rfl⟩ ?_
  refine g_isub 29 C dX3_mateOf_28 rfl ?_
  refine g_istore_n (lv' := [(3, _), (4, _), (0, _), (1, _), (2, _)]) 30 C dX3_mateOf_29 rfl rfl (by decide) rfl ?_
  refine g_iinc (lv' := [(4, .int (iI 2)), (3, _), (0, _), (1, _), (2, _)]) 33 C 1 dX3_mateOf_30 rfl rfl (by decide) rfl ?_
  refine g_goto 5 C dX3_mateOf_33 (by decide) ?_
  refine g_iload 7 C 0 dX3_mateOf_5 rfl rfl ?_
  refine g_if_lt 36 10 C dX3_mateOf_7 (by decide) rfl (by omega) (fun q => absurd q (by omega)) ?_
  intro _
  refine g_iload_n 11 C 1 dX3_mateOf_10 rfl rfl ?_
  refine g_bipush 13 C dX3_mateOf_11 rfl (by decide) ?_
  refine g_imul 14 C dX3_mateOf_13 rfl ?_
  refine g_bipush 16 C dX3_mateOf_14 rfl (by decide) ?_
  refine g_iadd 17 C dX3_mateOf_16 rfl ?_
  refine g_aload_n 18 C 2 dX3_mateOf_17 rfl rfl ?_
  refine g_get 21 C 0 0 3 iX3_mateOf_X3 lX3_mateOf_31 dX3_mateOf_18 rfl rfl rfl (by decide) rfl ?_
  refine g_iload_n 22 C 3 dX3_mateOf_21 rfl rfl ?_
  refine g_iload_n 23 C 4 dX3_mateOf_22 rfl rfl ?_
  refine g_iload 25 C 0 dX3_mateOf_23 rfl rfl ?_
  refine g_callVF 28 C [1, 2, 3] dX3_mateOf_25 rfl (k_X1_edgeHeight E l  (by first | assumption | omega) (by first | assumption | omega) (by first | assumption | omega) (by first | assumption | omega) (by first | assumption | omega) (by first | assumption | omega)) (cwV 3 C.2.2.2.2.1 gX3_mateOf_X1_edgeHeight rfl rfl rfl cdX1_edgeHeight ⟨Nat.le_of_ble_eq_true rfl, Nat.le_of_ble_eq_true rfl⟩) rfl rfl rfl rfl (Nat.le_of_ble_eq_true rfl) 1 1 rfl rfl rfl ⟨Nat.le_of_ble_eq_true rfl, Nat.le_of_ble_eq_true rfl⟩ ?_
  refine g_isub 29 C dX3_mateOf_28 rfl ?_
  refine g_istore_n (lv' := [(3, _), (4, _), (0, _), (1, _), (2, _)]) 30 C dX3_mateOf_29 rfl rfl (by decide) rfl ?_
  refine g_iinc (lv' := [(4, .int (iI 1)), (3, _), (0, _), (1, _), (2, _)]) 33 C 1 dX3_mateOf_30 rfl rfl (by decide) rfl ?_
  refine g_goto 5 C dX3_mateOf_33 (by decide) ?_
  refine g_iload 7 C 0 dX3_mateOf_5 rfl rfl ?_
  refine g_if_lt 36 10 C dX3_mateOf_7 (by decide) rfl (by omega) (fun q => absurd q (by omega)) ?_
  intro _
  refine g_iload_n 11 C 1 dX3_mateOf_10 rfl rfl ?_
  refine g_bipush 13 C dX3_mateOf_11 rfl (by decide) ?_
  refine g_imul 14 C dX3_mateOf_13 rfl ?_
  refine g_bipush 16 C dX3_mateOf_14 rfl (by decide) ?_
  refine g_iadd 17 C dX3_mateOf_16 rfl ?_
  refine g_aload_n 18 C 2 dX3_mateOf_17 rfl rfl ?_
  refine g_get 21 C 0 0 3 iX3_mateOf_X3 lX3_mateOf_31 dX3_mateOf_18 rfl rfl rfl (by decide) rfl ?_
  refine g_iload_n 22 C 3 dX3_mateOf_21 rfl rfl ?_
  refine g_iload_n 23 C 4 dX3_mateOf_22 rfl rfl ?_
  refine g_iload 25 C 0 dX3_mateOf_23 rfl rfl ?_
  refine g_callVF 28 C [1, 2, 3] dX3_mateOf_25 rfl (k_X1_edgeHeight E l  (by first | assumption | omega) (by first | assumption | omega) (by first | assumption | omega) (by first | assumption | omega) (by first | assumption | omega) (by first | assumption | omega)) (cwV 3 C.2.2.2.2.1 gX3_mateOf_X1_edgeHeight rfl rfl rfl cdX1_edgeHeight ⟨Nat.le_of_ble_eq_true rfl, Nat.le_of_ble_eq_true rfl⟩) rfl rfl rfl rfl (Nat.le_of_ble_eq_true rfl) 1 1 rfl rfl rfl ⟨Nat.le_of_ble_eq_true rfl, Nat.le_of_ble_eq_true rfl⟩ ?_
  refine g_isub 29 C dX3_mateOf_28 rfl ?_
  refine g_istore_n (lv' := [(3, _), (4, _), (0, _), (1, _), (2, _)]) 30 C dX3_mateOf_29 rfl rfl (by decide) rfl ?_
  refine g_iinc (lv' := [(4, .int (iI 0)), (3, _), (0, _), (1, _), (2, _)]) 33 C 1 dX3_mateOf_30 rfl rfl (by decide) rfl ?_
  refine g_goto 5 C dX3_mateOf_33 (by decide) ?_
  refine g_iload 7 C 0 dX3_mateOf_5 rfl rfl ?_
  refine g_if_lt 36 10 C dX3_mateOf_7 (by decide) rfl (by omega) (fun q => absurd q (by omega)) ?_
  intro _
  refine g_iload_n 11 C 1 dX3_mateOf_10 rfl rfl ?_
  refine g_bipush 13 C dX3_mateOf_11 rfl (by decide) ?_
  refine g_imul 14 C dX3_mateOf_13 rfl ?_
  refine g_bipush 16 C dX3_mateOf_14 rfl (by decide) ?_
  refine g_iadd 17 C dX3_mateOf_16 rfl ?_
  refine g_aload_n 18 C 2 dX3_mateOf_17 rfl rfl ?_
  refine g_get 21 C 0 0 3 iX3_mateOf_X3 lX3_mateOf_31 dX3_mateOf_18 rfl rfl rfl (by decide) rfl ?_
  refine g_iload_n 22 C 3 dX3_mateOf_21 rfl rfl ?_
  refine g_iload_n 23 C 4 dX3_mateOf_22 rfl rfl ?_
  refine g_iload 25 C 0 dX3_mateOf_23 rfl rfl ?_
  refine g_callVF 28 C [1, 2, 3] dX3_mateOf_25 rfl (k_X1_edgeHeight E l  (by first | assumption | omega) (by first | assumption | omega) (by first | assumption | omega) (by first | assumption | omega) (by first | assumption | omega) (by first | assumption | omega)) (cwV 3 C.2.2.2.2.1 gX3_mateOf_X1_edgeHeight rfl rfl rfl cdX1_edgeHeight ⟨Nat.le_of_ble_eq_true rfl, Nat.le_of_ble_eq_true rfl⟩) rfl rfl rfl rfl (Nat.le_of_ble_eq_true rfl) 1 1 rfl rfl rfl ⟨Nat.le_of_ble_eq_true rfl, Nat.le_of_ble_eq_true rfl⟩ ?_
  refine g_isub 29 C dX3_mateOf_28 rfl ?_
  refine g_istore_n (lv' := [(3, _), (4, _), (0, _), (1, _), (2, _)]) 30 C dX3_mateOf_29 rfl rfl (by decide) rfl ?_
  refine g_iinc (lv' := [(4, .int (iI (-1))), (3, _), (0, _), (1, _), (2, _)]) 33 C 1 dX3_mateOf_30 rfl rfl (by decide) rfl ?_
  refine g_goto 5 C dX3_mateOf_33 (by decide) ?_
  refine g_iload 7 C 0 dX3_mateOf_5 rfl rfl ?_
  refine g_if_lt 36 10 C dX3_mateOf_7 (by decide) rfl (by omega) ?_ (fun q => absurd q (by omega))
  intro _
  refine g_iload_n 37 C 1 dX3_mateOf_36 rfl rfl ?_
  exact g_iret C hr dX3_mateOf_37 ⟨g_ri (rfl), rfl⟩
theorem cdX1_isFlat : yX1_isFlat.cls = RX1 ∧ yX1_isFlat.cls ≠ "java/lang/invoke/MethodHandle" ∧ yX1_isFlat.cls ≠ "java/lang/invoke/VarHandle" ∧ (parseMethodDescriptor yX1_isFlat.desc).map (fun d => d.parameters.length) = some 2 := by decide +kernel
theorem cdX2_pieceAt : yX2_pieceAt.cls = RX2 ∧ yX2_pieceAt.cls ≠ "java/lang/invoke/MethodHandle" ∧ yX2_pieceAt.cls ≠ "java/lang/invoke/VarHandle" ∧ (parseMethodDescriptor yX2_pieceAt.desc).map (fun d => d.parameters.length) = some 1 := by decide +kernel
theorem cdX2_turnAt : yX2_turnAt.cls = RX2 ∧ yX2_turnAt.cls ≠ "java/lang/invoke/MethodHandle" ∧ yX2_turnAt.cls ≠ "java/lang/invoke/VarHandle" ∧ (parseMethodDescriptor yX2_turnAt.desc).map (fun d => d.parameters.length) = some 1 := by decide +kernel
theorem cdX3_codeOf : yX3_codeOf.cls = RX3 ∧ yX3_codeOf.cls ≠ "java/lang/invoke/MethodHandle" ∧ yX3_codeOf.cls ≠ "java/lang/invoke/VarHandle" ∧ (parseMethodDescriptor yX3_codeOf.desc).map (fun d => d.parameters.length) = some 2 := by decide +kernel
theorem cdX3_mateOf : yX3_mateOf.cls = RX3 ∧ yX3_mateOf.cls ≠ "java/lang/invoke/MethodHandle" ∧ yX3_mateOf.cls ≠ "java/lang/invoke/VarHandle" ∧ (parseMethodDescriptor yX3_mateOf.desc).map (fun d => d.parameters.length) = some 2 := by decide +kernel
theorem cdX3_note : yX3_note.cls ≠ "java/lang/invoke/MethodHandle" ∧ yX3_note.cls ≠ "java/lang/invoke/VarHandle" ∧ (parseMethodDescriptor yX3_note.desc).map (fun d => d.parameters.length) = some 3 := by decide +kernel
theorem lX3_readEdges_15 : Cond.fieldLink RX3 15 (TX3 3).1 (TX3 3).2.1 (TX3 3).2.2.1 ∈ wsX3_readEdges := by decide +kernel
theorem lX3_readEdges_31 : Cond.fieldLink RX3 31 (TX3 0).1 (TX3 0).2.1 (TX3 0).2.2.1 ∈ wsX3_readEdges := by decide +kernel
theorem lX3_readEdges_35 : Cond.fieldLink RX3 35 (TX3 1).1 (TX3 1).2.1 (TX3 1).2.2.1 ∈ wsX3_readEdges := by decide +kernel
theorem lX3_readEdges_9 : Cond.fieldLink RX3 9 (TX3 2).1 (TX3 2).2.1 (TX3 2).2.2.1 ∈ wsX3_readEdges := by decide +kernel
theorem iX3_readEdges_X3 : ∀ w ∈ u_ws RX3 TX3 13, w ∈ wsX3_readEdges := by decide +kernel
set_option maxHeartbeats 4000000 in
set_option maxRecDepth 100000 in
theorem k_X3_readEdges (E : gE) (l : Launch) {a_L a_P a_R a_fi a_hs a_jl a_ly a_pc a_se a_sh a_tn a_us a_wa : Nat} {W h n i : Int} {hs se pc tn sh fi : Int → Int} {jo fo sp fd tc : Int} (hB : 1 ≤ W ∧ W ≤ 5 ∧ 1 ≤ h ∧ h ≤ 5) (hse : ∀ p e : Int, 0 ≤ p ∧ p < W * h → 0 ≤ e ∧ e < 4 → se (p * 4 + e) = sdI W h p e) (hh : hB9 hs) (hn : 0 ≤ n ∧ n ≤ 25) (hi : 0 ≤ i ∧ i < n) (hpw : ∀ j : Int, 0 ≤ j ∧ j < n → (0 ≤ pc j ∧ pc j < W * h) ∧ 0 ≤ tn j ∧ tn j < 4) : gMet E l yX3_readEdges wsX3_readEdges { frames := 3, cells := 0, slots := 0, locals := 72 } 0 0 [.ref a_R, .int (iI i)] [(a_R, .inr (3, [.ref a_P, .ref a_L, .ref a_sh, .ref a_fi, .ref a_wa, .ref a_us, .ref a_ly, .ref a_jl, .int (iI jo), .int (iI fo), .int (iI sp), .int (iI fd), .int (iI tc)])), (a_P, .inr (1, [.ref a_hs, .ref a_se, .int (iI W), .int (iI h)])), (a_hs, aI E 200 hs), (a_se, aI E 100 se), (a_L, .inr (2, [.ref a_pc, .ref a_tn, .int (iI n)])), (a_pc, aI E 25 pc), (a_tn, aI E 25 tn), (a_sh, aI E 400 sh), (a_fi, aI E 400 fi)] (fun v w => ∃ sh2 fi2 : Int → Int, (v = none ∧ okN (fun x => if sdI W h (pc i) x = -9 then -1 else coI W h hs (pc i) x) sh sh2 i (tn i) 4 0 ∧ okN (fun x => if sdI W h (pc i) x = -9 then -1 else maI W h hs (pc i) x) fi fi2 i (tn i) 4 0) ∧ w = [(a_R, .inr (3, [.ref a_P, .ref a_L, .ref a_sh, .ref a_fi, .ref a_wa, .ref a_us, .ref a_ly, .ref a_jl, .int (iI jo), .int (iI fo), .int (iI sp), .int (iI fd), .int (iI tc)])), (a_P, .inr (1, [.ref a_hs, .ref a_se, .int (iI W), .int (iI h)])), (a_hs, aI E 200 hs), (a_se, aI E 100 se), (a_L, .inr (2, [.ref a_pc, .ref a_tn, .int (iI n)])), (a_pc, aI E 25 pc), (a_tn, aI E 25 tn), (a_sh, aI E 400 sh2), (a_fi, aI E 400 fi2)]) := by
  refine g_start (cc := cX3_readEdges) (maxL := 9) (ret := none) (by decide) rfl (Nat.le_of_ble_eq_true rfl) ?_
  intro p_ e_ s_ m_ args_ below_ meth_ c_ A_ C hr hnm
  have hn := nsd_b hB
  have hpi := hpw i hi
  refine g_aload_n 1 C 0 dX3_readEdges_0 rfl rfl ?_
  refine g_get 4 C 0 1 3 iX3_readEdges_X3 lX3_readEdges_35 dX3_readEdges_1 rfl rfl rfl (by decide) rfl ?_
  refine g_iload_n 5 C 1 dX3_readEdges_4 rfl rfl ?_
  refine g_callVF 8 C [4, 5] dX3_readEdges_5 rfl (k_X2_pieceAt E l  (by first | assumption | omega) (by first | assumption | omega)) (cwV 1 C.2.2.2.2.1 gX3_readEdges_X2_pieceAt rfl rfl rfl cdX2_pieceAt ⟨Nat.le_of_ble_eq_true rfl, Nat.le_of_ble_eq_true rfl⟩) rfl rfl rfl rfl (Nat.le_of_ble_eq_true rfl) 4 2 rfl rfl rfl ⟨Nat.le_of_ble_eq_true rfl, Nat.le_of_ble_eq_true rfl⟩ ?_
  refine g_istore_n (lv' := [(2, _), (0, _), (1, _)]) 9 C dX3_readEdges_8 rfl rfl (by decide) rfl ?_
  refine g_iconst 10 C dX3_readEdges_9 rfl ?_
  refine g_istore_n (lv' := [(3, _), (2, _), (0, _), (1, _)]) 11 C dX3_readEdges_10 rfl rfl (by decide) rfl ?_
  refine g_loop (α := (Int → Int) × (Int → Int) × Int) (fun zz => [(a_R, .inr (3, [.ref a_P, .ref a_L, .ref a_sh, .ref a_fi, .ref a_wa, .ref a_us, .ref a_ly, .ref a_jl, .int (iI jo), .int (iI fo), .int (iI sp), .int (iI fd), .int (iI tc)])), (a_P, .inr (1, [.ref a_hs, .ref a_se, .int (iI W), .int (iI h)])), (a_hs, aI E 200 hs), (a_se, aI E 100 se), (a_L, .inr (2, [.ref a_pc, .ref a_tn, .int (iI n)])), (a_pc, aI E 25 pc), (a_tn, aI E 25 tn), (a_sh, aI E 400 zz.1), (a_fi, aI E 400 zz.2.1)]) (fun zz => [(3, .int (iI zz.2.2)), (2, .int (iI (pc i))), (1, .int (iI i)), (0, .ref a_R)]) (fun zz => (0 ≤ zz.2.2 ∧ zz.2.2 ≤ 4) ∧ okN (fun x => if sdI W h (pc i) x = -9 then -1 else coI W h hs (pc i) x) sh zz.1 i (tn i) zz.2.2 0 ∧ okN (fun x => if sdI W h (pc i) x = -9 then -1 else maI W h hs (pc i) x) fi zz.2.1 i (tn i) zz.2.2 0) (fun zz => (4 - zz.2.2).toNat) (sh, fi, 0) (by
            try dsimp only
            exact ⟨by omega, okN_0 _ _ _ _, okN_0 _ _ _ _⟩) [0, 1, 3, 2] rfl rfl ?_
  rintro ⟨f, g, e⟩ hI ih11
  try dsimp only at hI ih11 ⊢
  obtain ⟨he, hF, hG⟩ := hI
  refine g_iload_n 12 C 0 dX3_readEdges_11 rfl rfl ?_
  refine g_iconst 13 C dX3_readEdges_12 rfl ?_
  refine g_icmp_ge 137 16 C dX3_readEdges_13 (by decide) rfl (by omega) ?_ ?_
  · intro h13
    exact g_vret C hr dX3_readEdges_137 ⟨_, _, ⟨rfl, by rw [show (4 : Int) = e by omega]; exact hF, by rw [show (4 : Int) = e by omega]; exact hG⟩, rfl⟩
  · intro h13
    refine g_aload_n 17 C 3 dX3_readEdges_16 rfl rfl ?_
    refine g_get 20 C 0 0 3 iX3_readEdges_X3 lX3_readEdges_31 dX3_readEdges_17 rfl rfl rfl (by decide) rfl ?_
    refine g_iload_n 21 C 1 dX3_readEdges_20 rfl rfl ?_
    refine g_iload_n 22 C 0 dX3_readEdges_21 rfl rfl ?_
    refine g_callVF 25 C [1, 3] dX3_readEdges_22 rfl (k_X1_isFlat E l  (by first | assumption | omega) (by first | assumption | omega) (by first | assumption | omega) (by first | assumption | omega)) (cwV 2 C.2.2.2.2.1 gX3_readEdges_X1_isFlat rfl rfl rfl cdX1_isFlat ⟨Nat.le_of_ble_eq_true rfl, Nat.le_of_ble_eq_true rfl⟩) rfl rfl rfl rfl (Nat.le_of_ble_eq_true rfl) 1 1 rfl rfl rfl ⟨Nat.le_of_ble_eq_true rfl, Nat.le_of_ble_eq_true rfl⟩ ?_
    refine g_joinv 38 1 (if sdI W h (pc i) e = -9 then -1 else coI W h hs (pc i) e) ?_ ?_
    · skip
      refine g_istore (lv' := [(4, _), (3, _), (2, _), (1, _), (0, _)]) 40 C dX3_readEdges_38 rfl (by decide) rfl ?_
      refine g_aload_n 41 C 4 dX3_readEdges_40 rfl rfl ?_
      refine g_get 44 C 0 0 3 iX3_readEdges_X3 lX3_readEdges_31 dX3_readEdges_41 rfl rfl rfl (by decide) rfl ?_
      refine g_iload_n 45 C 2 dX3_readEdges_44 rfl rfl ?_
      refine g_iload_n 46 C 1 dX3_readEdges_45 rfl rfl ?_
      refine g_callVF 49 C [1, 3] dX3_readEdges_46 rfl (k_X1_isFlat E l  (by first | assumption | omega) (by first | assumption | omega) (by first | assumption | omega) (by first | assumption | omega)) (cwV 2 C.2.2.2.2.1 gX3_readEdges_X1_isFlat rfl rfl rfl cdX1_isFlat ⟨Nat.le_of_ble_eq_true rfl, Nat.le_of_ble_eq_true rfl⟩) rfl rfl rfl rfl (Nat.le_of_ble_eq_true rfl) 1 1 rfl rfl rfl ⟨Nat.le_of_ble_eq_true rfl, Nat.le_of_ble_eq_true rfl⟩ ?_
      refine g_joinv 62 1 (if sdI W h (pc i) e = -9 then -1 else maI W h hs (pc i) e) ?_ ?_
      · skip
        refine g_istore (lv' := [(5, _), (4, _), (3, _), (2, _), (1, _), (0, _)]) 64 C dX3_readEdges_62 rfl (by decide) rfl ?_
        refine g_iconst 65 C dX3_readEdges_64 rfl ?_
        refine g_istore (lv' := [(6, _), (5, _), (4, _), (3, _), (2, _), (1, _), (0, _)]) 67 C dX3_readEdges_65 rfl (by decide) rfl ?_
        refine g_loop (α := (Int → Int) × (Int → Int) × Int) (fun zz => [(a_R, .inr (3, [.ref a_P, .ref a_L, .ref a_sh, .ref a_fi, .ref a_wa, .ref a_us, .ref a_ly, .ref a_jl, .int (iI jo), .int (iI fo), .int (iI sp), .int (iI fd), .int (iI tc)])), (a_P, .inr (1, [.ref a_hs, .ref a_se, .int (iI W), .int (iI h)])), (a_hs, aI E 200 hs), (a_se, aI E 100 se), (a_L, .inr (2, [.ref a_pc, .ref a_tn, .int (iI n)])), (a_pc, aI E 25 pc), (a_tn, aI E 25 tn), (a_sh, aI E 400 zz.1), (a_fi, aI E 400 zz.2.1)]) (fun zz => [(6, .int (iI zz.2.2)), (4, .int (iI (if sdI W h (pc i) e = -9 then -1 else coI W h hs (pc i) e))), (5, .int (iI (if sdI W h (pc i) e = -9 then -1 else maI W h hs (pc i) e))), (3, .int (iI e)), (2, .int (iI (pc i))), (1, .int (iI i)), (0, .ref a_R)]) (fun zz => (0 ≤ zz.2.2 ∧ zz.2.2 ≤ 4) ∧ okN (fun x => if sdI W h (pc i) x = -9 then -1 else coI W h hs (pc i) x) sh zz.1 i (tn i) e zz.2.2 ∧ okN (fun x => if sdI W h (pc i) x = -9 then -1 else maI W h hs (pc i) x) fi zz.2.1 i (tn i) e zz.2.2) (fun zz => (4 - zz.2.2).toNat) (f, g, 0) (by
            try dsimp only
            exact ⟨by omega, hF, hG⟩) [0, 2, 1, 3, 4, 5, 6] rfl rfl ?_
        rintro ⟨f, g, t⟩ hI ih67
        try dsimp only at hI ih67 ⊢
        obtain ⟨ht, hF2, hG2⟩ := hI
        refine g_iload 69 C 0 dX3_readEdges_67 rfl rfl ?_
        refine g_iconst 70 C dX3_readEdges_69 rfl ?_
        refine g_icmp_ge 131 73 C dX3_readEdges_70 (by decide) rfl (by omega) ?_ ?_
        · intro h70
          refine g_iinc (lv' := [(3, _), (6, _), (4, _), (5, _), (2, _), (1, _), (0, _)]) 134 C 3 dX3_readEdges_131 rfl rfl (by decide) rfl ?_
          refine g_goto 11 C dX3_readEdges_134 (by decide) ?_
          exact g_w [0, 4, 5, 6] rfl rfl (ih11 (f, g, (e + 1)) (by
            try dsimp only
            exact ⟨by omega, okN_e (by omega) hF2, okN_e (by omega) hG2⟩) (by (try dsimp only); omega))
        · intro h70
          refine g_iload_n 74 C 3 dX3_readEdges_73 rfl rfl ?_
          refine g_aload_n 75 C 6 dX3_readEdges_74 rfl rfl ?_
          refine g_get 78 C 0 1 3 iX3_readEdges_X3 lX3_readEdges_35 dX3_readEdges_75 rfl rfl rfl (by decide) rfl ?_
          refine g_iload_n 79 C 5 dX3_readEdges_78 rfl rfl ?_
          refine g_callVF 82 C [4, 6] dX3_readEdges_79 rfl (k_X2_turnAt E l  (by first | assumption | omega) (by first | assumption | omega)) (cwV 1 C.2.2.2.2.1 gX3_readEdges_X2_turnAt rfl rfl rfl cdX2_turnAt ⟨Nat.le_of_ble_eq_true rfl, Nat.le_of_ble_eq_true rfl⟩) rfl rfl rfl rfl (Nat.le_of_ble_eq_true rfl) 4 2 rfl rfl rfl ⟨Nat.le_of_ble_eq_true rfl, Nat.le_of_ble_eq_true rfl⟩ ?_
          refine g_iadd 83 C dX3_readEdges_82 rfl ?_
          refine g_iload 85 C 0 dX3_readEdges_83 rfl rfl ?_
          refine g_iadd 86 C dX3_readEdges_85 rfl ?_
          refine g_iconst 87 C dX3_readEdges_86 rfl ?_
          refine g_irem 88 C dX3_readEdges_87 rfl (by omega) ?_
          refine g_istore (lv' := [(7, _), (6, _), (4, _), (5, _), (3, _), (2, _), (1, _), (0, _)]) 90 C dX3_readEdges_88 rfl (by decide) rfl ?_
          refine g_iload_n 91 C 6 dX3_readEdges_90 rfl rfl ?_
          refine g_iconst 92 C dX3_readEdges_91 rfl ?_
          refine g_imul 93 C dX3_readEdges_92 rfl ?_
          refine g_iload 95 C 1 dX3_readEdges_93 rfl rfl ?_
          refine g_iadd 96 C dX3_readEdges_95 rfl ?_
          refine g_iconst 97 C dX3_readEdges_96 rfl ?_
          refine g_imul 98 C dX3_readEdges_97 rfl ?_
          refine g_iload 100 C 0 dX3_readEdges_98 rfl rfl ?_
          refine g_iadd 101 C dX3_readEdges_100 rfl ?_
          refine g_istore (lv' := [(8, _), (7, _), (6, _), (4, _), (5, _), (3, _), (2, _), (1, _), (0, _)]) 103 C dX3_readEdges_101 rfl (by decide) rfl ?_
          refine g_aload_n 104 C 8 dX3_readEdges_103 rfl rfl ?_
          refine g_get 107 C 0 2 3 iX3_readEdges_X3 lX3_readEdges_9 dX3_readEdges_104 rfl rfl rfl (by decide) rfl ?_
          refine g_iload 109 C 0 dX3_readEdges_107 rfl rfl ?_
          refine g_iload 111 C 3 dX3_readEdges_109 rfl rfl ?_
          refine g_callSU (ws' := [(_, .inr (3, [_, _, _, _, _, _, _, _, _, _, _, _, _])), (_, .inr (1, [_, _, _, _])), (_, aI _ _ _), (_, aI _ _ _), (_, .inr (2, [_, _, _])), (_, aI _ _ _), (_, aI _ _ _), (_, aI _ _ _), (_, aI _ _ _)]) 114 C [7] dX3_readEdges_111 rfl (k_X3_note E l  (by first | assumption | omega) (by first | assumption | omega)) (va_cwS 3 C.2.2.2.2.1 gX3_readEdges_X3_note rfl rfl rfl cdX3_note ⟨Nat.le_of_ble_eq_true rfl, Nat.le_of_ble_eq_true rfl⟩) rfl rfl rfl rfl (Nat.le_of_ble_eq_true rfl) ⟨Nat.le_of_ble_eq_true rfl, Nat.le_of_ble_eq_true rfl⟩ rfl rfl ?_
          refine g_aload_n 115 C 8 dX3_readEdges_114 rfl rfl ?_
          refine g_get 118 C 0 3 3 iX3_readEdges_X3 lX3_readEdges_15 dX3_readEdges_115 rfl rfl rfl (by decide) rfl ?_
          refine g_iload 120 C 0 dX3_readEdges_118 rfl rfl ?_
          refine g_iload 122 C 4 dX3_readEdges_120 rfl rfl ?_
          refine g_callSU (ws' := [(_, .inr (3, [_, _, _, _, _, _, _, _, _, _, _, _, _])), (_, .inr (1, [_, _, _, _])), (_, aI _ _ _), (_, aI _ _ _), (_, .inr (2, [_, _, _])), (_, aI _ _ _), (_, aI _ _ _), (_, aI _ _ _), (_, aI _ _ _)]) 125 C [8] dX3_readEdges_122 rfl (k_X3_note E l  (by first | assumption | omega) (by first | assumption | omega)) (va_cwS 3 C.2.2.2.2.1 gX3_readEdges_X3_note rfl rfl rfl cdX3_note ⟨Nat.le_of_ble_eq_true rfl, Nat.le_of_ble_eq_true rfl⟩) rfl rfl rfl rfl (Nat.le_of_ble_eq_true rfl) ⟨Nat.le_of_ble_eq_true rfl, Nat.le_of_ble_eq_true rfl⟩ rfl rfl ?_
          refine g_iinc (lv' := [(6, _), (8, _), (7, _), (4, _), (5, _), (3, _), (2, _), (1, _), (0, _)]) 128 C 2 dX3_readEdges_125 rfl rfl (by decide) rfl ?_
          refine g_goto 67 C dX3_readEdges_128 (by decide) ?_
          exact g_w [0, 3, 4, 5, 6, 7, 8] rfl rfl (ih67 ((uI f ((i * 4 + t) * 4 + (e + tn i + t) % 4) (if sdI W h (pc i) e = -9 then -1 else coI W h hs (pc i) e)), (uI g ((i * 4 + t) * 4 + (e + tn i + t) % 4) (if sdI W h (pc i) e = -9 then -1 else maI W h hs (pc i) e)), (t + 1)) (by
            try dsimp only
            exact ⟨by omega, okN_s hpi.2 (by omega) (by omega) rfl hF2, okN_s hpi.2 (by omega) (by omega) rfl hG2⟩) (by (try dsimp only); omega))
      · intro kj
        refine g_ifb_eq 56 52 C dX3_readEdges_49 (by decide) rfl ?_ ?_
        · intro h49
          refine g_aload_n 57 C 4 dX3_readEdges_56 rfl rfl ?_
          refine g_iload_n 58 C 2 dX3_readEdges_57 rfl rfl ?_
          refine g_iload_n 59 C 1 dX3_readEdges_58 rfl rfl ?_
          refine g_callVF 62 C [0, 1, 2, 3] dX3_readEdges_59 rfl (k_X3_mateOf E l  (by first | assumption | omega) (by first | assumption | omega) (by first | assumption | omega) (by first | assumption | omega) (by first | assumption | omega) (by first | assumption | omega)) (cwV 2 C.2.2.2.2.1 gX3_readEdges_X3_mateOf rfl rfl rfl cdX3_mateOf ⟨Nat.le_of_ble_eq_true rfl, Nat.le_of_ble_eq_true rfl⟩) rfl rfl rfl rfl (Nat.le_of_ble_eq_true rfl) 0 3 rfl rfl rfl ⟨Nat.le_of_ble_eq_true rfl, Nat.le_of_ble_eq_true rfl⟩ ?_
          exact kj _ (by first | rfl | omega | exact (if_pos (by omega)).symm | exact (if_neg (by omega)).symm)
        · intro h49
          refine g_iconst 53 C dX3_readEdges_52 rfl ?_
          refine g_goto 62 C dX3_readEdges_53 (by decide) ?_
          exact kj _ (by first | rfl | omega | exact (if_pos (by omega)).symm | exact (if_neg (by omega)).symm)
    · intro kj
      refine g_ifb_eq 32 28 C dX3_readEdges_25 (by decide) rfl ?_ ?_
      · intro h25
        refine g_aload_n 33 C 3 dX3_readEdges_32 rfl rfl ?_
        refine g_iload_n 34 C 1 dX3_readEdges_33 rfl rfl ?_
        refine g_iload_n 35 C 0 dX3_readEdges_34 rfl rfl ?_
        refine g_callVF 38 C [0, 1, 2, 3] dX3_readEdges_35 rfl (k_X3_codeOf E l  (by first | assumption | omega) (by first | assumption | omega) (by first | assumption | omega) (by first | assumption | omega) (by first | assumption | omega) (by first | assumption | omega)) (cwV 2 C.2.2.2.2.1 gX3_readEdges_X3_codeOf rfl rfl rfl cdX3_codeOf ⟨Nat.le_of_ble_eq_true rfl, Nat.le_of_ble_eq_true rfl⟩) rfl rfl rfl rfl (Nat.le_of_ble_eq_true rfl) 0 3 rfl rfl rfl ⟨Nat.le_of_ble_eq_true rfl, Nat.le_of_ble_eq_true rfl⟩ ?_
        exact kj _ (by first | rfl | omega | exact (if_pos (by omega)).symm | exact (if_neg (by omega)).symm)
      · intro h25
        refine g_iconst 29 C dX3_readEdges_28 rfl ?_
        refine g_goto 38 C dX3_readEdges_29 (by decide) ?_
        exact kj _ (by first | rfl | omega | exact (if_pos (by omega)).symm | exact (if_neg (by omega)).symm)
theorem cdX1_nextTo : yX1_nextTo.cls = RX1 ∧ yX1_nextTo.cls ≠ "java/lang/invoke/MethodHandle" ∧ yX1_nextTo.cls ≠ "java/lang/invoke/VarHandle" ∧ (parseMethodDescriptor yX1_nextTo.desc).map (fun d => d.parameters.length) = some 2 := by decide +kernel
theorem lX3_lookAround_15 : Cond.fieldLink RX3 15 (TX3 3).1 (TX3 3).2.1 (TX3 3).2.2.1 ∈ wsX3_lookAround := by decide +kernel
theorem lX3_lookAround_18 : Cond.fieldLink RX3 18 (TX3 4).1 (TX3 4).2.1 (TX3 4).2.2.1 ∈ wsX3_lookAround := by decide +kernel
theorem lX3_lookAround_25 : Cond.fieldLink RX3 25 (TX3 6).1 (TX3 6).2.1 (TX3 6).2.2.1 ∈ wsX3_lookAround := by decide +kernel
theorem lX3_lookAround_31 : Cond.fieldLink RX3 31 (TX3 0).1 (TX3 0).2.1 (TX3 0).2.2.1 ∈ wsX3_lookAround := by decide +kernel
theorem iX3_lookAround_X3 : ∀ w ∈ u_ws RX3 TX3 13, w ∈ wsX3_lookAround := by decide +kernel
set_option maxHeartbeats 4000000 in
set_option maxRecDepth 100000 in
theorem k_X3_lookAround (E : gE) (l : Launch) {a_L a_P a_R a_fi a_hs a_jl a_ly a_se a_sh a_us a_wa : Nat} {W h k : Int} {se fi wa ly : Int → Int} {jo fo sp fd tc : Int} (hB : 1 ≤ W ∧ W ≤ 5 ∧ 1 ≤ h ∧ h ≤ 5) (hk : 0 ≤ k ∧ k < W * h) (hse : ∀ p e : Int, 0 ≤ p ∧ p < W * h → 0 ≤ e ∧ e < 4 → se (p * 4 + e) = sdI W h p e) (hly : ∀ j : Int, 0 ≤ j ∧ j < k → 0 ≤ ly j ∧ ly j < 100) : gUpd E l yX3_lookAround wsX3_lookAround { frames := 2, cells := 0, slots := 0, locals := 45 } [.ref a_R, .int (iI k)] [(a_R, .inr (3, [.ref a_P, .ref a_L, .ref a_sh, .ref a_fi, .ref a_wa, .ref a_us, .ref a_ly, .ref a_jl, .int (iI jo), .int (iI fo), .int (iI sp), .int (iI fd), .int (iI tc)])), (a_P, .inr (1, [.ref a_hs, .ref a_se, .int (iI W), .int (iI h)])), (a_se, aI E 100 se), (a_fi, aI E 400 fi), (a_wa, aI E 100 wa), (a_ly, aI E 25 ly)] none [(a_R, .inr (3, [.ref a_P, .ref a_L, .ref a_sh, .ref a_fi, .ref a_wa, .ref a_us, .ref a_ly, .ref a_jl, .int (iI jo), .int (iI fo), .int (iI sp), .int (iI fd), .int (iI tc)])), (a_P, .inr (1, [.ref a_hs, .ref a_se, .int (iI W), .int (iI h)])), (a_se, aI E 100 se), (a_fi, aI E 400 fi), (a_wa, aI E 100 (laI wa k (waV W h fi ly k) 4)), (a_ly, aI E 25 ly)] := by
  refine g_start (cc := cX3_lookAround) (maxL := 6) (ret := none) (by decide) rfl (Nat.le_of_ble_eq_true rfl) ?_
  intro p_ e_ s_ m_ args_ below_ meth_ c_ A_ C hr hnm
  have hn := nsd_b hB
  refine g_iload_n 1 C 1 dX3_lookAround_0 rfl rfl ?_
  refine g_iconst 2 C dX3_lookAround_1 rfl ?_
  refine g_imul 3 C dX3_lookAround_2 rfl ?_
  refine g_istore_n (lv' := [(2, _), (0, _), (1, _)]) 4 C dX3_lookAround_3 rfl rfl (by decide) rfl ?_
  refine g_iload_n 5 C 0 dX3_lookAround_4 rfl rfl ?_
  refine g_if_lt 19 8 C dX3_lookAround_5 (by decide) rfl (by omega) (fun h5 => absurd h5 (by omega)) ?_
  intro h5
  refine g_iload_n 9 C 0 dX3_lookAround_8 rfl rfl ?_
  refine g_aload_n 10 C 1 dX3_lookAround_9 rfl rfl ?_
  refine g_get 13 C 0 4 3 iX3_lookAround_X3 lX3_lookAround_18 dX3_lookAround_10 rfl rfl rfl (by decide) rfl ?_
  refine g_alenI 14 C 4 dX3_lookAround_13 rfl rfl ?_
  refine g_iconst 15 C dX3_lookAround_14 rfl ?_
  refine g_isub 16 C dX3_lookAround_15 rfl ?_
  refine g_icmp_le 20 19 C dX3_lookAround_16 (by decide) rfl (by omega) ?_ (fun h16 => absurd h16 (by omega))
  intro h16
  refine g_iconst 21 C dX3_lookAround_20 rfl ?_
  refine g_istore_n (lv' := [(3, _), (2, _), (0, _), (1, _)]) 22 C dX3_lookAround_21 rfl rfl (by decide) rfl ?_
  refine g_loop (α := Int) (fun zz => [(a_R, .inr (3, [.ref a_P, .ref a_L, .ref a_sh, .ref a_fi, .ref a_wa, .ref a_us, .ref a_ly, .ref a_jl, .int (iI jo), .int (iI fo), .int (iI sp), .int (iI fd), .int (iI tc)])), (a_P, .inr (1, [.ref a_hs, .ref a_se, .int (iI W), .int (iI h)])), (a_se, aI E 100 se), (a_fi, aI E 400 fi), (a_wa, aI E 100 (laI wa k (waV W h fi ly k) zz)), (a_ly, aI E 25 ly)]) (fun zz => [(3, .int (iI zz)), (2, .int (iI (k * 4))), (1, .int (iI k)), (0, .ref a_R)]) (fun zz => 0 ≤ zz ∧ zz ≤ 4) (fun zz => (4 - zz).toNat) (0) (by (try dsimp only); omega) [0, 1, 3, 2] (by rw [laI_0]) rfl ?_
  rintro i hI ih22
  try dsimp only at hI ih22 ⊢
  obtain ⟨hi0, hi4⟩ := hI
  refine g_iload_n 23 C 0 dX3_lookAround_22 rfl rfl ?_
  refine g_iconst 24 C dX3_lookAround_23 rfl ?_
  refine g_icmp_ge 108 27 C dX3_lookAround_24 (by decide) rfl (by omega) ?_ ?_
  · intro h24
    exact g_vret C hr dX3_lookAround_108 ⟨rfl, by rw [show i = 4 by omega]⟩
  · intro h24
    refine g_aload_n 28 C 3 dX3_lookAround_27 rfl rfl ?_
    refine g_get 31 C 0 0 3 iX3_lookAround_X3 lX3_lookAround_31 dX3_lookAround_28 rfl rfl rfl (by decide) rfl ?_
    refine g_iload_n 32 C 2 dX3_lookAround_31 rfl rfl ?_
    refine g_iload_n 33 C 0 dX3_lookAround_32 rfl rfl ?_
    refine g_callVF 36 C [1] dX3_lookAround_33 rfl (k_X1_nextTo E l  (by first | assumption | omega)) (cwV 2 C.2.2.2.2.1 gX3_lookAround_X1_nextTo rfl rfl rfl cdX1_nextTo ⟨Nat.le_of_ble_eq_true rfl, Nat.le_of_ble_eq_true rfl⟩) rfl rfl rfl rfl (Nat.le_of_ble_eq_true rfl) 1 1 rfl rfl rfl ⟨Nat.le_of_ble_eq_true rfl, Nat.le_of_ble_eq_true rfl⟩ ?_
    have e0 := nxI_b (p := k) (e := i) (And.intro hB.1 hB.2.1)
    refine g_istore (lv' := [(4, _), (3, _), (2, _), (1, _), (0, _)]) 38 C dX3_lookAround_36 rfl (by decide) rfl ?_
    refine g_bipush 40 C dX3_lookAround_38 rfl (by decide) ?_
    refine g_istore (lv' := [(5, _), (4, _), (3, _), (2, _), (1, _), (0, _)]) 42 C dX3_lookAround_40 rfl (by decide) rfl ?_
    refine g_aload_n 43 C 5 dX3_lookAround_42 rfl rfl ?_
    refine g_get 46 C 0 0 3 iX3_lookAround_X3 lX3_lookAround_31 dX3_lookAround_43 rfl rfl rfl (by decide) rfl ?_
    refine g_iload_n 47 C 4 dX3_lookAround_46 rfl rfl ?_
    refine g_iload_n 48 C 2 dX3_lookAround_47 rfl rfl ?_
    refine g_callVF 51 C [1, 2] dX3_lookAround_48 rfl (k_X1_isFlat E l  (by first | assumption | omega) (by first | assumption | omega) (by first | assumption | omega) (by first | assumption | omega)) (cwV 2 C.2.2.2.2.1 gX3_lookAround_X1_isFlat rfl rfl rfl cdX1_isFlat ⟨Nat.le_of_ble_eq_true rfl, Nat.le_of_ble_eq_true rfl⟩) rfl rfl rfl rfl (Nat.le_of_ble_eq_true rfl) 1 1 rfl rfl rfl ⟨Nat.le_of_ble_eq_true rfl, Nat.le_of_ble_eq_true rfl⟩ ?_
    refine g_ifb_eq 60 54 C dX3_lookAround_51 (by decide) rfl ?_ ?_
    · intro h51
      refine g_iload 62 C 1 dX3_lookAround_60 rfl rfl ?_
      refine g_iload_n 63 C 4 dX3_lookAround_62 rfl rfl ?_
      refine g_icmp_ge 92 66 C dX3_lookAround_63 (by decide) rfl (by omega) ?_ ?_
      · intro h63
        refine g_aload_n 93 C 5 dX3_lookAround_92 rfl rfl ?_
        refine g_get 96 C 0 4 3 iX3_lookAround_X3 lX3_lookAround_18 dX3_lookAround_93 rfl rfl rfl (by decide) rfl ?_
        refine g_iload_n 97 C 3 dX3_lookAround_96 rfl rfl ?_
        refine g_iload_n 98 C 2 dX3_lookAround_97 rfl rfl ?_
        refine g_iadd 99 C dX3_lookAround_98 rfl ?_
        refine g_iload 101 C 0 dX3_lookAround_99 rfl rfl ?_
        refine g_iastore (ws' := [(_, .inr (3, [_, _, _, _, _, _, _, _, _, _, _, _, _])), (_, .inr (1, [_, _, _, _])), (_, aI _ _ _), (_, aI _ _ _), (_, aI _ _ _), (_, aI _ _ _)]) 102 C 4 dX3_lookAround_101 rfl rfl (by omega) rfl ?_
        refine g_iinc (lv' := [(3, _), (5, _), (4, _), (2, _), (1, _), (0, _)]) 105 C 2 dX3_lookAround_102 rfl rfl (by decide) rfl ?_
        refine g_goto 22 C dX3_lookAround_105 (by decide) ?_
        exact g_w [0, 3, 4, 5] (by (try dsimp only); rw [laI_s (g := waV W h fi ly k) hi0 (by unfold waV; first | rw [if_pos (by omega)] | rw [if_neg (by omega), if_pos (by omega)] | rw [if_neg (by omega), if_neg (by omega)])]) rfl (ih22 ((i + 1)) (by (try dsimp only); omega) (by (try dsimp only); omega))
      · intro h63
        have e2 := nx_nf hB hk (And.intro hi0 (by omega)) (by omega) (by omega)
        have e1 := hly (nxI W k i) (by omega)
        refine g_aload_n 67 C 5 dX3_lookAround_66 rfl rfl ?_
        refine g_get 70 C 0 3 3 iX3_lookAround_X3 lX3_lookAround_15 dX3_lookAround_67 rfl rfl rfl (by decide) rfl ?_
        refine g_aload_n 71 C 5 dX3_lookAround_70 rfl rfl ?_
        refine g_get 74 C 0 6 3 iX3_lookAround_X3 lX3_lookAround_25 dX3_lookAround_71 rfl rfl rfl (by decide) rfl ?_
        refine g_iload 76 C 1 dX3_lookAround_74 rfl rfl ?_
        refine g_callSF 79 C [5] dX3_lookAround_76 rfl (k_X3_look E l  (by first | assumption | omega) (by first | assumption | omega)) (va_cwS 2 C.2.2.2.2.1 gX3_lookAround_X3_look rfl rfl rfl cdX3_look ⟨Nat.le_of_ble_eq_true rfl, Nat.le_of_ble_eq_true rfl⟩) rfl rfl rfl rfl (Nat.le_of_ble_eq_true rfl) ⟨Nat.le_of_ble_eq_true rfl, Nat.le_of_ble_eq_true rfl⟩ ?_
        refine g_iconst 80 C dX3_lookAround_79 rfl ?_
        refine g_imul 81 C dX3_lookAround_80 rfl ?_
        refine g_iload_n 82 C 2 dX3_lookAround_81 rfl rfl ?_
        refine g_iconst 83 C dX3_lookAround_82 rfl ?_
        refine g_iadd 84 C dX3_lookAround_83 rfl ?_
        refine g_iconst 85 C dX3_lookAround_84 rfl ?_
        refine g_irem 86 C dX3_lookAround_85 rfl (by omega) ?_
        refine g_iadd 87 C dX3_lookAround_86 rfl ?_
        refine g_callSF 90 C [3] dX3_lookAround_87 rfl (k_X3_look E l  (by first | assumption | omega) (by first | assumption | omega)) (va_cwS 2 C.2.2.2.2.1 gX3_lookAround_X3_look rfl rfl rfl cdX3_look ⟨Nat.le_of_ble_eq_true rfl, Nat.le_of_ble_eq_true rfl⟩) rfl rfl rfl rfl (Nat.le_of_ble_eq_true rfl) ⟨Nat.le_of_ble_eq_true rfl, Nat.le_of_ble_eq_true rfl⟩ ?_
        refine g_istore (lv' := [(5, _), (4, _), (3, _), (2, _), (1, _), (0, _)]) 92 C dX3_lookAround_90 rfl (by decide) rfl ?_
        refine g_aload_n 93 C 5 dX3_lookAround_92 rfl rfl ?_
        refine g_get 96 C 0 4 3 iX3_lookAround_X3 lX3_lookAround_18 dX3_lookAround_93 rfl rfl rfl (by decide) rfl ?_
        refine g_iload_n 97 C 3 dX3_lookAround_96 rfl rfl ?_
        refine g_iload_n 98 C 2 dX3_lookAround_97 rfl rfl ?_
        refine g_iadd 99 C dX3_lookAround_98 rfl ?_
        refine g_iload 101 C 0 dX3_lookAround_99 rfl rfl ?_
        refine g_iastore (ws' := [(_, .inr (3, [_, _, _, _, _, _, _, _, _, _, _, _, _])), (_, .inr (1, [_, _, _, _])), (_, aI _ _ _), (_, aI _ _ _), (_, aI _ _ _), (_, aI _ _ _)]) 102 C 4 dX3_lookAround_101 rfl rfl (by omega) rfl ?_
        refine g_iinc (lv' := [(3, _), (5, _), (4, _), (2, _), (1, _), (0, _)]) 105 C 2 dX3_lookAround_102 rfl rfl (by decide) rfl ?_
        refine g_goto 22 C dX3_lookAround_105 (by decide) ?_
        exact g_w [0, 3, 4, 5] (by (try dsimp only); rw [laI_s (g := waV W h fi ly k) hi0 (by unfold waV; first | rw [if_pos (by omega)] | rw [if_neg (by omega), if_pos (by omega)] | rw [if_neg (by omega), if_neg (by omega)])]) rfl (ih22 ((i + 1)) (by (try dsimp only); omega) (by (try dsimp only); omega))
    · intro h51
      refine g_iconst 55 C dX3_lookAround_54 rfl ?_
      refine g_istore (lv' := [(5, _), (4, _), (3, _), (2, _), (1, _), (0, _)]) 57 C dX3_lookAround_55 rfl (by decide) rfl ?_
      refine g_goto 92 C dX3_lookAround_57 (by decide) ?_
      refine g_aload_n 93 C 5 dX3_lookAround_92 rfl rfl ?_
      refine g_get 96 C 0 4 3 iX3_lookAround_X3 lX3_lookAround_18 dX3_lookAround_93 rfl rfl rfl (by decide) rfl ?_
      refine g_iload_n 97 C 3 dX3_lookAround_96 rfl rfl ?_
      refine g_iload_n 98 C 2 dX3_lookAround_97 rfl rfl ?_
      refine g_iadd 99 C dX3_lookAround_98 rfl ?_
      refine g_iload 101 C 0 dX3_lookAround_99 rfl rfl ?_
      refine g_iastore (ws' := [(_, .inr (3, [_, _, _, _, _, _, _, _, _, _, _, _, _])), (_, .inr (1, [_, _, _, _])), (_, aI _ _ _), (_, aI _ _ _), (_, aI _ _ _), (_, aI _ _ _)]) 102 C 4 dX3_lookAround_101 rfl rfl (by omega) rfl ?_
      refine g_iinc (lv' := [(3, _), (5, _), (4, _), (2, _), (1, _), (0, _)]) 105 C 2 dX3_lookAround_102 rfl rfl (by decide) rfl ?_
      refine g_goto 22 C dX3_lookAround_105 (by decide) ?_
      exact g_w [0, 3, 4, 5] (by (try dsimp only); rw [laI_s (g := waV W h fi ly k) hi0 (by unfold waV; first | rw [if_pos (by omega)] | rw [if_neg (by omega), if_pos (by omega)] | rw [if_neg (by omega), if_neg (by omega)])]) rfl (ih22 ((i + 1)) (by (try dsimp only); omega) (by (try dsimp only); omega))
theorem lX3_fits_18 : Cond.fieldLink RX3 18 (TX3 4).1 (TX3 4).2.1 (TX3 4).2.2.1 ∈ wsX3_fits := by decide +kernel
theorem lX3_fits_9 : Cond.fieldLink RX3 9 (TX3 2).1 (TX3 2).2.1 (TX3 2).2.2.1 ∈ wsX3_fits := by decide +kernel
theorem iX3_fits_X3 : ∀ w ∈ u_ws RX3 TX3 13, w ∈ wsX3_fits := by decide +kernel
set_option maxHeartbeats 4000000 in
set_option maxRecDepth 100000 in
theorem k_X3_fits (E : gE) (l : Launch) {a_L a_P a_R a_fi a_jl a_ly a_sh a_us a_wa : Nat} {k v : Int} {sh wa : Int → Int} {jo fo sp fd tc : Int} (hk : 0 ≤ k ∧ k < 25) (hv : 0 ≤ v ∧ v < 100) (hwr : ∀ d : Int, 0 ≤ d ∧ d < 4 → -2147483648 ≤ wa (k * 4 + d) ∧ wa (k * 4 + d) < 2147483648) (hsr : ∀ d : Int, 0 ≤ d ∧ d < 4 → -2147483648 ≤ sh (v * 4 + d) ∧ sh (v * 4 + d) < 2147483648) : gFun E l yX3_fits wsX3_fits { frames := 0, cells := 0, slots := 0, locals := 0 } [.ref a_R, .int (iI k), .int (iI v)] [(a_R, .inr (3, [.ref a_P, .ref a_L, .ref a_sh, .ref a_fi, .ref a_wa, .ref a_us, .ref a_ly, .ref a_jl, .int (iI jo), .int (iI fo), .int (iI sp), .int (iI fd), .int (iI tc)])), (a_sh, aI E 400 sh), (a_wa, aI E 100 wa)] (.int (iI (cI (∀ d : Int, 0 ≤ d → d < 4 → okD wa sh v k d) 1 0))) := by
  refine g_start (cc := cX3_fits) (maxL := 8) (ret := (some .boolean)) (by decide) rfl (Nat.le_of_ble_eq_true rfl) ?_
  intro p_ e_ s_ m_ args_ below_ meth_ c_ A_ C hr hnm
  refine g_iload_n 1 C 1 dX3_fits_0 rfl rfl ?_
  refine g_iconst 2 C dX3_fits_1 rfl ?_
  refine g_imul 3 C dX3_fits_2 rfl ?_
  refine g_istore_n (lv' := [(3, _), (0, _), (1, _), (2, _)]) 4 C dX3_fits_3 rfl rfl (by decide) rfl ?_
  refine g_iload_n 5 C 3 dX3_fits_4 rfl rfl ?_
  refine g_iconst 6 C dX3_fits_5 rfl ?_
  refine g_imul 7 C dX3_fits_6 rfl ?_
  refine g_istore (lv' := [(4, _), (3, _), (0, _), (1, _), (2, _)]) 9 C dX3_fits_7 rfl (by decide) rfl ?_
  refine g_iload_n 10 C 1 dX3_fits_9 rfl rfl ?_
  refine g_if_lt 41 13 C dX3_fits_10 (by decide) rfl (by omega) (fun h10 => absurd h10 (by omega)) ?_
  intro h10
  refine g_iload_n 14 C 1 dX3_fits_13 rfl rfl ?_
  refine g_aload_n 15 C 2 dX3_fits_14 rfl rfl ?_
  refine g_get 18 C 0 4 3 iX3_fits_X3 lX3_fits_18 dX3_fits_15 rfl rfl rfl (by decide) rfl ?_
  refine g_alenI 19 C 2 dX3_fits_18 rfl rfl ?_
  refine g_iconst 20 C dX3_fits_19 rfl ?_
  refine g_isub 21 C dX3_fits_20 rfl ?_
  refine g_icmp_gt 41 24 C dX3_fits_21 (by decide) rfl (by omega) (fun h21 => absurd h21 (by omega)) ?_
  intro h21
  refine g_iload 26 C 0 dX3_fits_24 rfl rfl ?_
  refine g_if_lt 41 29 C dX3_fits_26 (by decide) rfl (by omega) (fun h26 => absurd h26 (by omega)) ?_
  intro h26
  refine g_iload 31 C 0 dX3_fits_29 rfl rfl ?_
  refine g_aload_n 32 C 2 dX3_fits_31 rfl rfl ?_
  refine g_get 35 C 0 2 3 iX3_fits_X3 lX3_fits_9 dX3_fits_32 rfl rfl rfl (by decide) rfl ?_
  refine g_alenI 36 C 1 dX3_fits_35 rfl rfl ?_
  refine g_iconst 37 C dX3_fits_36 rfl ?_
  refine g_isub 38 C dX3_fits_37 rfl ?_
  refine g_icmp_le 43 41 C dX3_fits_38 (by decide) rfl (by omega) ?_ (fun h38 => absurd h38 (by omega))
  intro h38
  refine g_iconst 44 C dX3_fits_43 rfl ?_
  refine g_istore (lv' := [(5, _), (4, _), (3, _), (0, _), (1, _), (2, _)]) 46 C dX3_fits_44 rfl (by decide) rfl ?_
  refine g_loop (α := Int) (fun zz => [(a_R, .inr (3, [.ref a_P, .ref a_L, .ref a_sh, .ref a_fi, .ref a_wa, .ref a_us, .ref a_ly, .ref a_jl, .int (iI jo), .int (iI fo), .int (iI sp), .int (iI fd), .int (iI tc)])), (a_sh, aI E 400 sh), (a_wa, aI E 100 wa)]) (fun zz => [(5, .int (iI zz)), (4, .int (iI (v * 4))), (3, .int (iI (k * 4))), (2, .int (iI v)), (1, .int (iI k)), (0, .ref a_R)]) (fun zz => (0 ≤ zz ∧ zz ≤ 4) ∧ ∀ d : Int, 0 ≤ d → d < zz → okD wa sh v k d) (fun zz => (4 - zz).toNat) (0) (by
            try dsimp only
            exact ⟨by omega, fun d h1 h2 => absurd h1 (by omega)⟩) [0, 1, 2, 5, 4, 3] rfl rfl ?_
  rintro i hI ih46
  try dsimp only at hI ih46 ⊢
  obtain ⟨hi, hA⟩ := hI
  refine g_iload 48 C 0 dX3_fits_46 rfl rfl ?_
  refine g_iconst 49 C dX3_fits_48 rfl ?_
  refine g_icmp_ge 106 52 C dX3_fits_49 (by decide) rfl (by omega) ?_ ?_
  · intro h49
    refine g_iconst 107 C dX3_fits_106 rfl ?_
    exact g_zret C hr dX3_fits_107 (by first | rfl | decide | (split <;> rfl)) ⟨g_ri ((cI_t (fun d h1 h2 => hA d h1 (by omega))).symm), rfl⟩
  · intro h49
    refine g_aload_n 53 C 5 dX3_fits_52 rfl rfl ?_
    refine g_get 56 C 0 4 3 iX3_fits_X3 lX3_fits_18 dX3_fits_53 rfl rfl rfl (by decide) rfl ?_
    refine g_iload_n 57 C 2 dX3_fits_56 rfl rfl ?_
    refine g_iload 59 C 0 dX3_fits_57 rfl rfl ?_
    refine g_iadd 60 C dX3_fits_59 rfl ?_
    refine g_iaload 61 C 2 dX3_fits_60 rfl rfl (by omega) ?_
    refine g_istore (lv' := [(6, _), (5, _), (4, _), (3, _), (2, _), (1, _), (0, _)]) 63 C dX3_fits_61 rfl (by decide) rfl ?_
    refine g_aload_n 64 C 6 dX3_fits_63 rfl rfl ?_
    refine g_get 67 C 0 2 3 iX3_fits_X3 lX3_fits_9 dX3_fits_64 rfl rfl rfl (by decide) rfl ?_
    refine g_iload 69 C 2 dX3_fits_67 rfl rfl ?_
    refine g_iload 71 C 1 dX3_fits_69 rfl rfl ?_
    refine g_iadd 72 C dX3_fits_71 rfl ?_
    refine g_iaload 73 C 1 dX3_fits_72 rfl rfl (by omega) ?_
    refine g_istore (lv' := [(7, _), (6, _), (5, _), (4, _), (3, _), (2, _), (1, _), (0, _)]) 75 C dX3_fits_73 rfl (by decide) rfl ?_
    have e0 := hwr i (by omega)
    have e1 := hsr i (by omega)
    refine g_iload 77 C 1 dX3_fits_75 rfl rfl ?_
    refine g_bipush 79 C dX3_fits_77 rfl (by decide) ?_
    refine g_icmp_ne 91 82 C dX3_fits_79 (by decide) rfl (by omega) ?_ ?_
    · intro h79
      refine g_iload 93 C 0 dX3_fits_91 rfl rfl ?_
      refine g_iload 95 C 1 dX3_fits_93 rfl rfl ?_
      refine g_icmp_eq 100 98 C dX3_fits_95 (by decide) rfl (by omega) ?_ ?_
      · intro h95
        refine g_iinc (lv' := [(5, _), (7, _), (6, _), (4, _), (3, _), (2, _), (1, _), (0, _)]) 103 C 2 dX3_fits_100 rfl rfl (by decide) rfl ?_
        refine g_goto 46 C dX3_fits_103 (by decide) ?_
        exact g_w [0, 3, 4, 5, 6, 7] rfl rfl (ih46 ((i + 1)) (by
            try dsimp only
            exact ⟨by omega, fun d h1 h2 => by
              by_cases z : d = i
              · rw [z]; unfold okD; omega
              · exact hA d h1 (by omega)⟩) (by (try dsimp only); omega))
      · intro h95
        refine g_iconst 99 C dX3_fits_98 rfl ?_
        exact g_zret C hr dX3_fits_99 (by first | rfl | decide | (split <;> rfl)) ⟨g_ri ((cI_f (fun q => by have z := q i (by omega) (by omega); unfold okD at z; omega)).symm), rfl⟩
    · intro h79
      refine g_iload 84 C 0 dX3_fits_82 rfl rfl ?_
      refine g_iconst 85 C dX3_fits_84 rfl ?_
      refine g_icmp_ne 100 88 C dX3_fits_85 (by decide) rfl (by omega) ?_ ?_
      · intro h85
        refine g_iinc (lv' := [(5, _), (7, _), (6, _), (4, _), (3, _), (2, _), (1, _), (0, _)]) 103 C 2 dX3_fits_100 rfl rfl (by decide) rfl ?_
        refine g_goto 46 C dX3_fits_103 (by decide) ?_
        exact g_w [0, 3, 4, 5, 6, 7] rfl rfl (ih46 ((i + 1)) (by
            try dsimp only
            exact ⟨by omega, fun d h1 h2 => by
              by_cases z : d = i
              · rw [z]; unfold okD; omega
              · exact hA d h1 (by omega)⟩) (by (try dsimp only); omega))
      · intro h85
        refine g_goto 98 C dX3_fits_88 (by decide) ?_
        refine g_iconst 99 C dX3_fits_98 rfl ?_
        exact g_zret C hr dX3_fits_99 (by first | rfl | decide | (split <;> rfl)) ⟨g_ri ((cI_f (fun q => by have z := q i (by omega) (by omega); unfold okD at z; omega)).symm), rfl⟩
