/-! THE SEARCH: the contract of one level, by the levels that are left -/
def rmF (d : Nat) : Room := { frames := d + 4, cells := 0, slots := 0, locals := d * 40 + 200 }
theorem fl_init {F : (Int → Int) → Int → Prop} {n N fo k : Int} {us ly wa wv q0 u0 : Int → Int} {fd tc : Int} (hc : (0 ≤ fd ∧ fd ≤ tc ∧ tc ≤ 60000) ∧ (fo = 1 → fd = 0)) (hq0 : ∀ j : Int, 0 ≤ j ∧ j < k → q0 j = ly j) (hq1 : q0 k = -1) (hu0 : ∀ j : Int, 0 ≤ j ∧ j < n → u0 j = us j) : flI F n N fo k us ly wa wv (k, q0, u0, tc, fd) (0 * 4 - 1) us ly (laI wa k wv 4) fd tc :=
  ⟨hc, fun _ _ => rfl, fun _ _ => rfl, fun d hd => by
    unfold laI
    rw [if_pos (by omega), show k * 4 + d - k * 4 = d by omega], fun j hj => by
    unfold laI
    rw [if_neg (by omega)], q0, u0, hq0, hq1, hu0, rc_rf _⟩
def fillC (E : gE) (l : Launch) (d : Nat) : Prop := ∀ {a_L a_P a_R a_fi a_hs a_jl a_ly a_pc a_se a_sh a_tn a_us a_wa : Nat} {W h n k : Int} {hs se pc tn sh fi wa us ly q0 u0 : Int → Int} {jo fo fd tc : Int}, (1 ≤ W ∧ W ≤ 5 ∧ 1 ≤ h ∧ h ≤ 5) → (0 ≤ k ∧ k < W * h ∧ k + (d : Int) = W * h) → (∀ p e : Int, 0 ≤ p ∧ p < W * h → 0 ≤ e ∧ e < 4 → se (p * 4 + e) = sdI W h p e) → (hB9 hs) → (0 ≤ n ∧ n ≤ 25) → (∀ j : Int, 0 ≤ j ∧ j < n → (0 ≤ pc j ∧ pc j < W * h) ∧ 0 ≤ tn j ∧ tn j < 4) → (∀ j : Int, 0 ≤ j ∧ j < k → 0 ≤ ly j ∧ ly j < n * 4 ∧ FT W h hs pc tn ly j) → (∀ v d : Int, 0 ≤ v ∧ v < n * 4 → 0 ≤ d ∧ d < 4 → sh (v * 4 + d) = shV W h hs pc tn v d) → (∀ v d : Int, 0 ≤ v ∧ v < n * 4 → 0 ≤ d ∧ d < 4 → fi (v * 4 + d) = fiV W h hs pc tn v d) → (∀ j : Int, 0 ≤ j ∧ j < n → us j = 0 ∨ us j = 1) → ((0 ≤ fd ∧ fd ≤ tc ∧ tc ≤ 60000) ∧ (fo = 1 → fd = 0)) → (fo = 0 ∨ fo = 1) → (∀ j : Int, 0 ≤ j ∧ j < k → q0 j = ly j) → (q0 k = -1) → (∀ j : Int, 0 ≤ j ∧ j < n → u0 j = us j) → gMet E l yX3_fillFrom wsX3_fillFrom (rmF d) 0 0 [.ref a_R, .int (iI k)] [(a_R, .inr (3, [.ref a_P, .ref a_L, .ref a_sh, .ref a_fi, .ref a_wa, .ref a_us, .ref a_ly, .ref a_jl, .int (iI jo), .int (iI fo), .int (iI 0), .int (iI fd), .int (iI tc)])), (a_P, .inr (1, [.ref a_hs, .ref a_se, .int (iI W), .int (iI h)])), (a_se, aI E 100 se), (a_L, .inr (2, [.ref a_pc, .ref a_tn, .int (iI n)])), (a_sh, aI E 400 sh), (a_fi, aI E 400 fi), (a_wa, aI E 100 wa), (a_us, aZ E 25 us), (a_ly, aI E 25 ly)] (fun v w => ∃ (us2 ly2 wa2 : Int → Int) (sp2 fd2 tc2 : Int), (v = none ∧ fillR (FT W h hs pc tn) n (W * h) fo k us ly wa (k, q0, u0, tc, fd) us2 ly2 wa2 sp2 fd2 tc2) ∧ w = [(a_R, .inr (3, [.ref a_P, .ref a_L, .ref a_sh, .ref a_fi, .ref a_wa, .ref a_us, .ref a_ly, .ref a_jl, .int (iI jo), .int (iI fo), .int (iI sp2), .int (iI fd2), .int (iI tc2)])), (a_P, .inr (1, [.ref a_hs, .ref a_se, .int (iI W), .int (iI h)])), (a_se, aI E 100 se), (a_L, .inr (2, [.ref a_pc, .ref a_tn, .int (iI n)])), (a_sh, aI E 400 sh), (a_fi, aI E 400 fi), (a_wa, aI E 100 wa2), (a_us, aZ E 25 us2), (a_ly, aI E 25 ly2)])
theorem lX3_fillFrom_31 : Cond.fieldLink RX3 31 (TX3 0).1 (TX3 0).2.1 (TX3 0).2.2.1 ∈ wsX3_fillFrom := by decide +kernel
theorem lX3_fillFrom_58 : Cond.fieldLink RX3 58 (TX3 11).1 (TX3 11).2.1 (TX3 11).2.2.1 ∈ wsX3_fillFrom := by decide +kernel
theorem iX3_fillFrom_X3 : ∀ w ∈ u_ws RX3 TX3 13, w ∈ wsX3_fillFrom := by decide +kernel
set_option maxHeartbeats 4000000 in
set_option maxRecDepth 100000 in
theorem k_X3_fillFrom_0 (E : gE) (l : Launch) {a_L a_P a_R a_fi a_hs a_jl a_ly a_se a_sh a_us a_wa : Nat} {W h k : Int} {jo fo sp fd tc : Int} (hB : 1 ≤ W ∧ W ≤ 5 ∧ 1 ≤ h ∧ h ≤ 5) (hk : k = W * h) : gUpd E l yX3_fillFrom wsX3_fillFrom ({ frames := 4, cells := 0, slots := 0, locals := 100 } : Room) [.ref a_R, .int (iI k)] [(a_R, .inr (3, [.ref a_P, .ref a_L, .ref a_sh, .ref a_fi, .ref a_wa, .ref a_us, .ref a_ly, .ref a_jl, .int (iI jo), .int (iI fo), .int (iI sp), .int (iI fd), .int (iI tc)])), (a_P, .inr (1, [.ref a_hs, .ref a_se, .int (iI W), .int (iI h)]))] none [(a_R, .inr (3, [.ref a_P, .ref a_L, .ref a_sh, .ref a_fi, .ref a_wa, .ref a_us, .ref a_ly, .ref a_jl, .int (iI jo), .int (iI fo), .int (iI sp), .int (iI (fd + 1)), .int (iI tc)])), (a_P, .inr (1, [.ref a_hs, .ref a_se, .int (iI W), .int (iI h)]))] := by
  refine g_start (cc := cX3_fillFrom) (maxL := 5) (ret := none) (by decide) rfl (Nat.le_of_ble_eq_true rfl) ?_
  intro p_ e_ s_ m_ args_ below_ meth_ c_ A_ C hr hnm
  have hn := nsd_b hB
  refine g_iload_n 1 C 1 dX3_fillFrom_0 rfl rfl ?_
  refine g_aload_n 2 C 0 dX3_fillFrom_1 rfl rfl ?_
  refine g_get 5 C 0 0 3 iX3_fillFrom_X3 lX3_fillFrom_31 dX3_fillFrom_2 rfl rfl rfl (by decide) rfl ?_
  refine g_callVF 8 C [1] dX3_fillFrom_5 rfl (k_X1_pieces E l  ) (cwV 0 C.2.2.2.2.1 gX3_fillFrom_X1_pieces rfl rfl rfl cdX1_pieces ⟨Nat.le_of_ble_eq_true rfl, Nat.le_of_ble_eq_true rfl⟩) rfl rfl rfl rfl (Nat.le_of_ble_eq_true rfl) 1 1 rfl rfl rfl ⟨Nat.le_of_ble_eq_true rfl, Nat.le_of_ble_eq_true rfl⟩ ?_
  refine g_icmp_lt 22 11 C dX3_fillFrom_8 (by decide) rfl (by omega) (fun h8 => absurd h8 (by omega)) ?_
  intro h8
  refine g_aload_n 12 C 0 dX3_fillFrom_11 rfl rfl ?_
  refine g_dup 13 C dX3_fillFrom_12 rfl rfl ?_
  refine g_get 16 C 0 11 3 iX3_fillFrom_X3 lX3_fillFrom_58 dX3_fillFrom_13 rfl rfl rfl (by decide) rfl ?_
  refine g_iconst 17 C dX3_fillFrom_16 rfl ?_
  refine g_iadd 18 C dX3_fillFrom_17 rfl ?_
  refine g_put (ws' := [(_, .inr (3, [_, _, _, _, _, _, _, _, _, _, _, _, _])), (_, .inr (1, [_, _, _, _]))]) 21 C 0 11 3 tyX3 tyX3_ok nmX3 iX3_fillFrom_X3 lX3_fillFrom_58 dX3_fillFrom_18 rfl rfl rfl (by decide) rfl rfl rfl (Nat.le_of_ble_eq_true rfl) rfl ?_
  exact g_vret C hr dX3_fillFrom_21 ⟨rfl, rfl⟩
theorem lX3_fillFrom_116 : Cond.constant RX3 116 (60000) ∈ wsX3_fillFrom := by decide +kernel
theorem cdX2_size : yX2_size.cls = RX2 ∧ yX2_size.cls ≠ "java/lang/invoke/MethodHandle" ∧ yX2_size.cls ≠ "java/lang/invoke/VarHandle" ∧ (parseMethodDescriptor yX2_size.desc).map (fun d => d.parameters.length) = some 0 := by decide +kernel
theorem cdX3_fillFrom : yX3_fillFrom.cls = RX3 ∧ yX3_fillFrom.cls ≠ "java/lang/invoke/MethodHandle" ∧ yX3_fillFrom.cls ≠ "java/lang/invoke/VarHandle" ∧ (parseMethodDescriptor yX3_fillFrom.desc).map (fun d => d.parameters.length) = some 1 := by decide +kernel
theorem cdX3_fits : yX3_fits.cls = RX3 ∧ yX3_fits.cls ≠ "java/lang/invoke/MethodHandle" ∧ yX3_fits.cls ≠ "java/lang/invoke/VarHandle" ∧ (parseMethodDescriptor yX3_fits.desc).map (fun d => d.parameters.length) = some 2 := by decide +kernel
theorem cdX3_lookAround : yX3_lookAround.cls = RX3 ∧ yX3_lookAround.cls ≠ "java/lang/invoke/MethodHandle" ∧ yX3_lookAround.cls ≠ "java/lang/invoke/VarHandle" ∧ (parseMethodDescriptor yX3_lookAround.desc).map (fun d => d.parameters.length) = some 1 := by decide +kernel
theorem lX3_fillFrom_21 : Cond.fieldLink RX3 21 (TX3 5).1 (TX3 5).2.1 (TX3 5).2.2.1 ∈ wsX3_fillFrom := by decide +kernel
theorem lX3_fillFrom_25 : Cond.fieldLink RX3 25 (TX3 6).1 (TX3 6).2.1 (TX3 6).2.2.1 ∈ wsX3_fillFrom := by decide +kernel
theorem lX3_fillFrom_35 : Cond.fieldLink RX3 35 (TX3 1).1 (TX3 1).2.1 (TX3 1).2.2.1 ∈ wsX3_fillFrom := by decide +kernel
theorem lX3_fillFrom_39 : Cond.fieldLink RX3 39 (TX3 12).1 (TX3 12).2.1 (TX3 12).2.2.1 ∈ wsX3_fillFrom := by decide +kernel
theorem lX3_fillFrom_55 : Cond.fieldLink RX3 55 (TX3 10).1 (TX3 10).2.1 (TX3 10).2.2.1 ∈ wsX3_fillFrom := by decide +kernel
theorem lX3_fillFrom_80 : Cond.fieldLink RX3 80 (TX3 9).1 (TX3 9).2.1 (TX3 9).2.2.1 ∈ wsX3_fillFrom := by decide +kernel
theorem lX3_fillFrom_111 : ∀ w ∈ ([Cond.methodLink RX3 111 Lib.Math.min.name, Cond.static Lib.Math.min.name, Cond.initialized "java/lang/Math", Cond.code Lib.Math.min.name Lib.Math.min.code 2 (some .int)] : List Cond), w ∈ wsX3_fillFrom := by decide +kernel
set_option maxHeartbeats 4000000 in
set_option maxRecDepth 100000 in
theorem k_X3_fillFrom_s (E : gE) (l : Launch) {a_L a_P a_R a_fi a_hs a_jl a_ly a_pc a_se a_sh a_tn a_us a_wa : Nat} {d : Nat} (ihF : fillC E l d) {W h n k : Int} {hs se pc tn sh fi wa us ly q0 u0 : Int → Int} {jo fo fd tc : Int} (hB : 1 ≤ W ∧ W ≤ 5 ∧ 1 ≤ h ∧ h ≤ 5) (hk : 0 ≤ k ∧ k < W * h ∧ k + ((d : Int) + 1) = W * h) (hse : ∀ p e : Int, 0 ≤ p ∧ p < W * h → 0 ≤ e ∧ e < 4 → se (p * 4 + e) = sdI W h p e) (hh : hB9 hs) (hn : 0 ≤ n ∧ n ≤ 25) (hpw : ∀ j : Int, 0 ≤ j ∧ j < n → (0 ≤ pc j ∧ pc j < W * h) ∧ 0 ≤ tn j ∧ tn j < 4) (hLY : ∀ j : Int, 0 ≤ j ∧ j < k → 0 ≤ ly j ∧ ly j < n * 4 ∧ FT W h hs pc tn ly j) (hSH : ∀ v d : Int, 0 ≤ v ∧ v < n * 4 → 0 ≤ d ∧ d < 4 → sh (v * 4 + d) = shV W h hs pc tn v d) (hFI : ∀ v d : Int, 0 ≤ v ∧ v < n * 4 → 0 ≤ d ∧ d < 4 → fi (v * 4 + d) = fiV W h hs pc tn v d) (hUS : ∀ j : Int, 0 ≤ j ∧ j < n → us j = 0 ∨ us j = 1) (hc : (0 ≤ fd ∧ fd ≤ tc ∧ tc ≤ 60000) ∧ (fo = 1 → fd = 0)) (hfo : fo = 0 ∨ fo = 1) (hq0 : ∀ j : Int, 0 ≤ j ∧ j < k → q0 j = ly j) (hq1 : q0 k = -1) (hu0 : ∀ j : Int, 0 ≤ j ∧ j < n → u0 j = us j) : gMet E l yX3_fillFrom wsX3_fillFrom (rmF (d + 1)) 0 0 [.ref a_R, .int (iI k)] [(a_R, .inr (3, [.ref a_P, .ref a_L, .ref a_sh, .ref a_fi, .ref a_wa, .ref a_us, .ref a_ly, .ref a_jl, .int (iI jo), .int (iI fo), .int (iI 0), .int (iI fd), .int (iI tc)])), (a_P, .inr (1, [.ref a_hs, .ref a_se, .int (iI W), .int (iI h)])), (a_se, aI E 100 se), (a_L, .inr (2, [.ref a_pc, .ref a_tn, .int (iI n)])), (a_sh, aI E 400 sh), (a_fi, aI E 400 fi), (a_wa, aI E 100 wa), (a_us, aZ E 25 us), (a_ly, aI E 25 ly)] (fun v w => ∃ (us2 ly2 wa2 : Int → Int) (sp2 fd2 tc2 : Int), (v = none ∧ fillR (FT W h hs pc tn) n (W * h) fo k us ly wa (k, q0, u0, tc, fd) us2 ly2 wa2 sp2 fd2 tc2) ∧ w = [(a_R, .inr (3, [.ref a_P, .ref a_L, .ref a_sh, .ref a_fi, .ref a_wa, .ref a_us, .ref a_ly, .ref a_jl, .int (iI jo), .int (iI fo), .int (iI sp2), .int (iI fd2), .int (iI tc2)])), (a_P, .inr (1, [.ref a_hs, .ref a_se, .int (iI W), .int (iI h)])), (a_se, aI E 100 se), (a_L, .inr (2, [.ref a_pc, .ref a_tn, .int (iI n)])), (a_sh, aI E 400 sh), (a_fi, aI E 400 fi), (a_wa, aI E 100 wa2), (a_us, aZ E 25 us2), (a_ly, aI E 25 ly2)]) := by
  refine g_start (cc := cX3_fillFrom) (maxL := 5) (ret := none) (by decide) rfl (Nat.le_of_ble_eq_true rfl) ?_
  intro p_ e_ s_ m_ args_ below_ meth_ c_ A_ C hr hnm
  have hn := nsd_b hB
  unfold fillC at ihF
  refine g_iload_n 1 C 1 dX3_fillFrom_0 rfl rfl ?_
  refine g_aload_n 2 C 0 dX3_fillFrom_1 rfl rfl ?_
  refine g_get 5 C 0 0 3 iX3_fillFrom_X3 lX3_fillFrom_31 dX3_fillFrom_2 rfl rfl rfl (by decide) rfl ?_
  refine g_callVF 8 C [1] dX3_fillFrom_5 rfl (k_X1_pieces E l  ) (cwV 0 C.2.2.2.2.1 gX3_fillFrom_X1_pieces rfl rfl rfl cdX1_pieces ⟨Nat.le_of_ble_eq_true rfl, Nat.le_of_ble_eq_true rfl⟩) rfl rfl rfl rfl (Nat.le_of_ble_eq_true rfl) 1 1 rfl rfl rfl ⟨Nat.le_of_ble_eq_true rfl, Nat.le_of_ble_eq_true rfl⟩ ?_
  refine g_icmp_lt 22 11 C dX3_fillFrom_8 (by decide) rfl (by omega) ?_ (fun h8 => absurd h8 (by omega))
  intro h8
  refine g_aload_n 23 C 0 dX3_fillFrom_22 rfl rfl ?_
  refine g_iload_n 24 C 1 dX3_fillFrom_23 rfl rfl ?_
  refine g_callVU (ws' := [(_, .inr (3, [_, _, _, _, _, _, _, _, _, _, _, _, _])), (_, .inr (1, [_, _, _, _])), (_, aI _ _ _), (_, .inr (2, [_, _, _])), (_, aI _ _ _), (_, aI _ _ _), (_, aI _ _ _), (_, aZ _ _ _), (_, aI _ _ _)]) 27 C [0, 1, 2, 5, 6, 8] dX3_fillFrom_24 rfl (k_X3_lookAround E l  (by first | assumption | omega) (by omega) (by first | assumption | omega) (fun j q => by have := hLY j q; omega)) (cwV 1 C.2.2.2.2.1 gX3_fillFrom_X3_lookAround rfl rfl rfl cdX3_lookAround ⟨Nat.le_of_ble_eq_true rfl, Nat.le_of_ble_eq_true rfl⟩) rfl rfl rfl rfl (Nat.le_of_ble_eq_true rfl) 0 3 rfl rfl rfl ⟨Nat.le_of_ble_eq_true rfl, Nat.le_of_ble_eq_true rfl⟩ rfl rfl ?_
  refine g_aload_n 28 C 0 dX3_fillFrom_27 rfl rfl ?_
  refine g_get 31 C 0 1 3 iX3_fillFrom_X3 lX3_fillFrom_35 dX3_fillFrom_28 rfl rfl rfl (by decide) rfl ?_
  refine g_callVF 34 C [3] dX3_fillFrom_31 rfl (k_X2_size E l  ) (cwV 0 C.2.2.2.2.1 gX3_fillFrom_X2_size rfl rfl rfl cdX2_size ⟨Nat.le_of_ble_eq_true rfl, Nat.le_of_ble_eq_true rfl⟩) rfl rfl rfl rfl (Nat.le_of_ble_eq_true rfl) 3 2 rfl rfl rfl ⟨Nat.le_of_ble_eq_true rfl, Nat.le_of_ble_eq_true rfl⟩ ?_
  refine g_aload_n 35 C 0 dX3_fillFrom_34 rfl rfl ?_
  refine g_get 38 C 0 5 3 iX3_fillFrom_X3 lX3_fillFrom_21 dX3_fillFrom_35 rfl rfl rfl (by decide) rfl ?_
  refine g_alenZ 39 C 7 dX3_fillFrom_38 rfl rfl ?_
  refine g_mmin 42 C n dX3_fillFrom_39 rfl lX3_fillFrom_111 (Nat.le_of_ble_eq_true rfl) (Nat.le_of_ble_eq_true rfl) (Nat.le_of_ble_eq_true rfl) (Nat.le_of_ble_eq_true rfl) (by omega) (by split <;> omega) ?_
  refine g_istore_n (lv' := [(2, _), (0, _), (1, _)]) 43 C dX3_fillFrom_42 rfl rfl (by decide) rfl ?_
  refine g_iconst 44 C dX3_fillFrom_43 rfl ?_
  refine g_istore_n (lv' := [(3, _), (2, _), (0, _), (1, _)]) 45 C dX3_fillFrom_44 rfl rfl (by decide) rfl ?_
  refine g_loop (α := (Int → Int) × (Int → Int) × (Int → Int) × Int × Int × Int) (fun zz => [(a_R, .inr (3, [.ref a_P, .ref a_L, .ref a_sh, .ref a_fi, .ref a_wa, .ref a_us, .ref a_ly, .ref a_jl, .int (iI jo), .int (iI fo), .int (iI 0), .int (iI zz.2.2.2.1), .int (iI zz.2.2.2.2.1)])), (a_P, .inr (1, [.ref a_hs, .ref a_se, .int (iI W), .int (iI h)])), (a_se, aI E 100 se), (a_L, .inr (2, [.ref a_pc, .ref a_tn, .int (iI n)])), (a_sh, aI E 400 sh), (a_fi, aI E 400 fi), (a_wa, aI E 100 zz.2.2.1), (a_us, aZ E 25 zz.1), (a_ly, aI E 25 zz.2.1)]) (fun zz => [(3, .int (iI zz.2.2.2.2.2)), (2, .int (iI n)), (1, .int (iI k)), (0, .ref a_R)]) (fun zz => (0 ≤ zz.2.2.2.2.2 ∧ zz.2.2.2.2.2 ≤ n) ∧ flI (FT W h hs pc tn) n (W * h) fo k us ly wa (waV W h fi ly k) (k, q0, u0, tc, fd) (zz.2.2.2.2.2 * 4 - 1) zz.1 zz.2.1 zz.2.2.1 zz.2.2.2.1 zz.2.2.2.2.1) (fun zz => (n - zz.2.2.2.2.2).toNat) (us, ly, (laI wa k (waV W h fi ly k) 4), fd, tc, 0) (by
            try dsimp only
            exact ⟨by omega, fl_init hc hq0 hq1 hu0⟩) [0, 1, 3, 2] rfl rfl ?_
  rintro ⟨us1, ly1, wa1, fd1, tc1, i⟩ hI ih45
  try dsimp only at hI ih45 ⊢
  obtain ⟨hi, hI⟩ := hI
  refine g_iload_n 46 C 0 dX3_fillFrom_45 rfl rfl ?_
  refine g_iload_n 47 C 1 dX3_fillFrom_46 rfl rfl ?_
  refine g_icmp_ge 179 50 C dX3_fillFrom_47 (by decide) rfl (by omega) ?_ ?_
  · intro h47
    exact g_vret C hr dX3_fillFrom_179 ⟨_, _, _, _, _, _, ⟨rfl, fl_exit (by omega) (by omega) (by rw [show n * 4 - 1 = i * 4 - 1 by omega]; exact hI)⟩, rfl⟩
  · intro h47
    refine g_aload_n 51 C 3 dX3_fillFrom_50 rfl rfl ?_
    refine g_get 54 C 0 5 3 iX3_fillFrom_X3 lX3_fillFrom_21 dX3_fillFrom_51 rfl rfl rfl (by decide) rfl ?_
    have hu1 : us1 i = 0 ∨ us1 i = 1 := by rw [hI.2.1 i (by omega)]; exact hUS i (by omega)
    refine g_iload_n 55 C 0 dX3_fillFrom_54 rfl rfl ?_
    refine g_baload 56 C 7 dX3_fillFrom_55 rfl rfl (by omega) ?_
    refine g_if_eq 62 59 C dX3_fillFrom_56 (by decide) rfl (by omega) ?_ ?_
    · intro h56
      refine g_iconst 63 C dX3_fillFrom_62 rfl ?_
      refine g_istore (lv' := [(4, _), (3, _), (2, _), (1, _), (0, _)]) 65 C dX3_fillFrom_63 rfl (by decide) rfl ?_
      refine g_loop (α := (Int → Int) × (Int → Int) × (Int → Int) × Int × Int × Int) (fun zz => [(a_R, .inr (3, [.ref a_P, .ref a_L, .ref a_sh, .ref a_fi, .ref a_wa, .ref a_us, .ref a_ly, .ref a_jl, .int (iI jo), .int (iI fo), .int (iI 0), .int (iI zz.2.2.2.1), .int (iI zz.2.2.2.2.1)])), (a_P, .inr (1, [.ref a_hs, .ref a_se, .int (iI W), .int (iI h)])), (a_se, aI E 100 se), (a_L, .inr (2, [.ref a_pc, .ref a_tn, .int (iI n)])), (a_sh, aI E 400 sh), (a_fi, aI E 400 fi), (a_wa, aI E 100 zz.2.2.1), (a_us, aZ E 25 zz.1), (a_ly, aI E 25 zz.2.1)]) (fun zz => [(4, .int (iI zz.2.2.2.2.2)), (3, .int (iI i)), (2, .int (iI n)), (1, .int (iI k)), (0, .ref a_R)]) (fun zz => ((0 ≤ zz.2.2.2.2.2 ∧ zz.2.2.2.2.2 ≤ 4) ∧ zz.1 i = 0) ∧ flI (FT W h hs pc tn) n (W * h) fo k us ly wa (waV W h fi ly k) (k, q0, u0, tc, fd) (i * 4 + zz.2.2.2.2.2 - 1) zz.1 zz.2.1 zz.2.2.1 zz.2.2.2.1 zz.2.2.2.2.1) (fun zz => (4 - zz.2.2.2.2.2).toNat) (us1, ly1, wa1, fd1, tc1, 0) (by
            try dsimp only
            exact ⟨⟨by omega, h56⟩, by rw [show i * 4 + 0 - 1 = i * 4 - 1 by omega]; exact hI⟩) [0, 1, 2, 3, 4] rfl rfl ?_
      rintro ⟨us1, ly1, wa1, fd1, tc1, t⟩ hI ih65
      try dsimp only at hI ih65 ⊢
      obtain ⟨ht, hJ⟩ := hI
      refine g_iload 67 C 0 dX3_fillFrom_65 rfl rfl ?_
      refine g_iconst 68 C dX3_fillFrom_67 rfl ?_
      refine g_icmp_ge 173 71 C dX3_fillFrom_68 (by decide) rfl (by omega) ?_ ?_
      · intro h68
        refine g_iinc (lv' := [(3, _), (4, _), (2, _), (1, _), (0, _)]) 176 C 1 dX3_fillFrom_173 rfl rfl (by decide) rfl ?_
        refine g_goto 45 C dX3_fillFrom_176 (by decide) ?_
        exact g_w [0, 2, 3, 4] rfl rfl (ih45 (us1, ly1, wa1, fd1, tc1, (i + 1)) (by
            try dsimp only
            exact ⟨by omega, by first | (rw [show (i + 1) * 4 - 1 = i * 4 + t - 1 by omega]; exact hJ) | exact fl_skip (by omega) (by omega) (by omega) (by assumption) hI⟩) (by (try dsimp only); omega))
      · intro h68
        refine g_aload_n 72 C 4 dX3_fillFrom_71 rfl rfl ?_
        refine g_get 75 C 0 12 3 iX3_fillFrom_X3 lX3_fillFrom_39 dX3_fillFrom_72 rfl rfl rfl (by decide) rfl ?_
        have hb1 := hJ.1
        refine g_ldc 77 C (60000) dX3_fillFrom_75 rfl lX3_fillFrom_116 (by decide) ?_
        refine g_icmp_lt 86 80 C dX3_fillFrom_77 (by decide) rfl (by omega) ?_ ?_
        · intro h77
          refine g_aload_n 87 C 4 dX3_fillFrom_86 rfl rfl ?_
          refine g_dup 88 C dX3_fillFrom_87 rfl rfl ?_
          refine g_get 91 C 0 12 3 iX3_fillFrom_X3 lX3_fillFrom_39 dX3_fillFrom_88 rfl rfl rfl (by decide) rfl ?_
          refine g_iconst 92 C dX3_fillFrom_91 rfl ?_
          refine g_iadd 93 C dX3_fillFrom_92 rfl ?_
          refine g_put (ws' := [(_, .inr (3, [_, _, _, _, _, _, _, _, _, _, _, _, _])), (_, .inr (1, [_, _, _, _])), (_, aI _ _ _), (_, .inr (2, [_, _, _])), (_, aI _ _ _), (_, aI _ _ _), (_, aI _ _ _), (_, aZ _ _ _), (_, aI _ _ _)]) 96 C 0 12 3 tyX3 tyX3_ok nmX3 iX3_fillFrom_X3 lX3_fillFrom_39 dX3_fillFrom_93 rfl rfl rfl (by decide) rfl rfl rfl (Nat.le_of_ble_eq_true rfl) rfl ?_
          refine g_aload_n 97 C 4 dX3_fillFrom_96 rfl rfl ?_
          refine g_iload_n 98 C 3 dX3_fillFrom_97 rfl rfl ?_
          refine g_iload_n 99 C 1 dX3_fillFrom_98 rfl rfl ?_
          refine g_iconst 100 C dX3_fillFrom_99 rfl ?_
          refine g_imul 101 C dX3_fillFrom_100 rfl ?_
          refine g_iload 103 C 0 dX3_fillFrom_101 rfl rfl ?_
          refine g_iadd 104 C dX3_fillFrom_103 rfl ?_
          refine g_callVF 107 C [0, 4, 6] dX3_fillFrom_104 rfl (k_X3_fits E l  (by omega) (by omega) (fun d hd => by rw [hJ.2.2.2.1 d hd]; exact waV_r hB (by omega) hh hLY hFI d hd) (fun d hd => by rw [hSH _ d (by omega) hd]; have := shV_m (W := W) (h := h) (pc := pc) (tn := tn) hh (i * 4 + t) d; omega)) (cwV 2 C.2.2.2.2.1 gX3_fillFrom_X3_fits rfl rfl rfl cdX3_fits ⟨Nat.le_of_ble_eq_true rfl, Nat.le_of_ble_eq_true rfl⟩) rfl rfl rfl rfl (Nat.le_of_ble_eq_true rfl) 0 3 rfl rfl rfl ⟨Nat.le_of_ble_eq_true rfl, Nat.le_of_ble_eq_true rfl⟩ ?_
          have hFi : ∀ q : Int → Int, (∀ j : Int, 0 ≤ j ∧ j < k → q j = ly j) → q k = i * 4 + t → ((∀ d : Int, 0 ≤ d → d < 4 → okD wa1 sh (i * 4 + t) k d) ↔ FT W h hs pc tn q k) := fun q a b => fits_iff hB (by omega) hh hLY hSH hFI hJ.2.2.2.1 (by omega) a b
          refine g_ifb_eq 145 110 C dX3_fillFrom_107 (by decide) rfl ?_ ?_
          · intro h107
            refine g_aload_n 146 C 4 dX3_fillFrom_145 rfl rfl ?_
            refine g_get 149 C 0 10 3 iX3_fillFrom_X3 lX3_fillFrom_55 dX3_fillFrom_146 rfl rfl rfl (by decide) rfl ?_
            refine g_if_ne 166 152 C dX3_fillFrom_149 (by decide) rfl (by omega) (fun q => absurd q (by omega)) ?_
            intro _
            refine g_aload_n 153 C 4 dX3_fillFrom_152 rfl rfl ?_
            refine g_get 156 C 0 9 3 iX3_fillFrom_X3 lX3_fillFrom_80 dX3_fillFrom_153 rfl rfl rfl (by decide) rfl ?_
            refine g_if_eq 167 159 C dX3_fillFrom_156 (by decide) rfl (by omega) ?_ ?_
            · intro h156
              refine g_iinc (lv' := [(4, _), (3, _), (2, _), (1, _), (0, _)]) 170 C 0 dX3_fillFrom_167 rfl rfl (by decide) rfl ?_
              refine g_goto 65 C dX3_fillFrom_170 (by decide) ?_
              exact g_w [0, 1, 2, 3, 4] rfl rfl (ih65 (us1, ly1, wa1, fd1, (tc1 + 1), (t + 1)) (by
            try dsimp only
            exact ⟨⟨by omega, ht.2⟩, fl_not (by omega) (by omega) (by omega) (by omega) (by omega) (by omega) (fun q a b z => h107 ((hFi q a b).mpr z)) hJ⟩) (by (try dsimp only); omega))
            · intro h156
              refine g_aload_n 160 C 4 dX3_fillFrom_159 rfl rfl ?_
              refine g_get 163 C 0 11 3 iX3_fillFrom_X3 lX3_fillFrom_58 dX3_fillFrom_160 rfl rfl rfl (by decide) rfl ?_
              refine g_if_le 167 166 C dX3_fillFrom_163 (by decide) rfl (by omega) ?_ (fun h163 => absurd h163 (by omega))
              intro h163
              refine g_iinc (lv' := [(4, _), (3, _), (2, _), (1, _), (0, _)]) 170 C 0 dX3_fillFrom_167 rfl rfl (by decide) rfl ?_
              refine g_goto 65 C dX3_fillFrom_170 (by decide) ?_
              exact g_w [0, 1, 2, 3, 4] rfl rfl (ih65 (us1, ly1, wa1, fd1, (tc1 + 1), (t + 1)) (by
            try dsimp only
            exact ⟨⟨by omega, ht.2⟩, fl_not (by omega) (by omega) (by omega) (by omega) (by omega) (by omega) (fun q a b z => h107 ((hFi q a b).mpr z)) hJ⟩) (by (try dsimp only); omega))
          · intro h107
            refine g_aload_n 111 C 4 dX3_fillFrom_110 rfl rfl ?_
            refine g_get 114 C 0 6 3 iX3_fillFrom_X3 lX3_fillFrom_25 dX3_fillFrom_111 rfl rfl rfl (by decide) rfl ?_
            refine g_iload_n 115 C 3 dX3_fillFrom_114 rfl rfl ?_
            refine g_iload_n 116 C 1 dX3_fillFrom_115 rfl rfl ?_
            refine g_iconst 117 C dX3_fillFrom_116 rfl ?_
            refine g_imul 118 C dX3_fillFrom_117 rfl ?_
            refine g_iload 120 C 0 dX3_fillFrom_118 rfl rfl ?_
            refine g_iadd 121 C dX3_fillFrom_120 rfl ?_
            refine g_callSU (ws' := [(_, .inr (3, [_, _, _, _, _, _, _, _, _, _, _, _, _])), (_, .inr (1, [_, _, _, _])), (_, aI _ _ _), (_, .inr (2, [_, _, _])), (_, aI _ _ _), (_, aI _ _ _), (_, aI _ _ _), (_, aZ _ _ _), (_, aI _ _ _)]) 124 C [8] dX3_fillFrom_121 rfl (k_X3_note E l  (by first | assumption | omega) (by first | assumption | omega)) (va_cwS 3 C.2.2.2.2.1 gX3_fillFrom_X3_note rfl rfl rfl cdX3_note ⟨Nat.le_of_ble_eq_true rfl, Nat.le_of_ble_eq_true rfl⟩) rfl rfl rfl rfl (Nat.le_of_ble_eq_true rfl) ⟨Nat.le_of_ble_eq_true rfl, Nat.le_of_ble_eq_true rfl⟩ rfl rfl ?_
            refine g_aload_n 125 C 4 dX3_fillFrom_124 rfl rfl ?_
            refine g_get 128 C 0 5 3 iX3_fillFrom_X3 lX3_fillFrom_21 dX3_fillFrom_125 rfl rfl rfl (by decide) rfl ?_
            refine g_iload_n 129 C 1 dX3_fillFrom_128 rfl rfl ?_
            refine g_iconst 130 C dX3_fillFrom_129 rfl ?_
            refine g_bastore (ws' := [(_, .inr (3, [_, _, _, _, _, _, _, _, _, _, _, _, _])), (_, .inr (1, [_, _, _, _])), (_, aI _ _ _), (_, .inr (2, [_, _, _])), (_, aI _ _ _), (_, aI _ _ _), (_, aI _ _ _), (_, aZ _ _ _), (_, aI _ _ _)]) 131 C 7 dX3_fillFrom_130 rfl rfl (by omega) (by decide) rfl ?_
            rcases (by omega : (k + 1 = W * h ∧ fo = 1) ∨ (k + 1 = W * h ∧ fo ≠ 1) ∨ k + 1 ≠ W * h) with hl | hl | hl
            · skip
              refine g_aload_n 132 C 4 dX3_fillFrom_131 rfl rfl ?_
              refine g_iload_n 133 C 3 dX3_fillFrom_132 rfl rfl ?_
              refine g_iconst 134 C dX3_fillFrom_133 rfl ?_
              refine g_iadd 135 C dX3_fillFrom_134 rfl ?_
              refine g_callVU (ws' := [(_, .inr (3, [_, _, _, _, _, _, _, _, _, _, _, _, _])), (_, .inr (1, [_, _, _, _])), (_, aI _ _ _), (_, .inr (2, [_, _, _])), (_, aI _ _ _), (_, aI _ _ _), (_, aI _ _ _), (_, aZ _ _ _), (_, aI _ _ _)]) 138 C [0, 1] dX3_fillFrom_135 rfl (k_X3_fillFrom_0 E l  (by first | assumption | omega) (by first | assumption | omega)) (cwV 1 C.2.2.2.2.1 gX3_fillFrom_X3_fillFrom rfl rfl rfl cdX3_fillFrom ⟨Nat.le_of_ble_eq_true rfl, Nat.le_of_ble_eq_true rfl⟩) rfl rfl rfl rfl (Nat.le_of_ble_eq_true rfl) 0 3 rfl rfl rfl ⟨Nat.le_of_ble_eq_true rfl, Nat.le_of_ble_eq_true rfl⟩ rfl rfl ?_
              refine g_aload_n 139 C 4 dX3_fillFrom_138 rfl rfl ?_
              refine g_get 142 C 0 5 3 iX3_fillFrom_X3 lX3_fillFrom_21 dX3_fillFrom_139 rfl rfl rfl (by decide) rfl ?_
              refine g_iload_n 143 C 1 dX3_fillFrom_142 rfl rfl ?_
              refine g_iconst 144 C dX3_fillFrom_143 rfl ?_
              refine g_bastore (ws' := [(_, .inr (3, [_, _, _, _, _, _, _, _, _, _, _, _, _])), (_, .inr (1, [_, _, _, _])), (_, aI _ _ _), (_, .inr (2, [_, _, _])), (_, aI _ _ _), (_, aI _ _ _), (_, aI _ _ _), (_, aZ _ _ _), (_, aI _ _ _)]) 145 C 7 dX3_fillFrom_144 rfl rfl (by omega) (by decide) rfl ?_
              refine g_aload_n 146 C 4 dX3_fillFrom_145 rfl rfl ?_
              refine g_get 149 C 0 10 3 iX3_fillFrom_X3 lX3_fillFrom_55 dX3_fillFrom_146 rfl rfl rfl (by decide) rfl ?_
              refine g_if_ne 166 152 C dX3_fillFrom_149 (by decide) rfl (by omega) (fun q => absurd q (by omega)) ?_
              intro _
              refine g_aload_n 153 C 4 dX3_fillFrom_152 rfl rfl ?_
              refine g_get 156 C 0 9 3 iX3_fillFrom_X3 lX3_fillFrom_80 dX3_fillFrom_153 rfl rfl rfl (by decide) rfl ?_
              refine g_if_eq 167 159 C dX3_fillFrom_156 (by decide) rfl (by omega) (fun h156 => absurd h156 (by omega)) ?_
              intro h156
              refine g_aload_n 160 C 4 dX3_fillFrom_159 rfl rfl ?_
              refine g_get 163 C 0 11 3 iX3_fillFrom_X3 lX3_fillFrom_58 dX3_fillFrom_160 rfl rfl rfl (by decide) rfl ?_
              refine g_if_le 167 166 C dX3_fillFrom_163 (by decide) rfl (by omega) (fun h163 => absurd h163 (by omega)) ?_
              intro h163
              exact g_vret C hr dX3_fillFrom_166 ⟨_, _, _, _, _, _, ⟨rfl, fl_last1 (by omega) (by omega) (by omega) (by omega) (by omega) (by omega) hl.1 hl.2 (fun j q => by have := hLY j q; omega) (fun q a b => (hFi q a b).mp h107) hJ⟩, rfl⟩
            · skip
              refine g_aload_n 132 C 4 dX3_fillFrom_131 rfl rfl ?_
              refine g_iload_n 133 C 3 dX3_fillFrom_132 rfl rfl ?_
              refine g_iconst 134 C dX3_fillFrom_133 rfl ?_
              refine g_iadd 135 C dX3_fillFrom_134 rfl ?_
              refine g_callVU (ws' := [(_, .inr (3, [_, _, _, _, _, _, _, _, _, _, _, _, _])), (_, .inr (1, [_, _, _, _])), (_, aI _ _ _), (_, .inr (2, [_, _, _])), (_, aI _ _ _), (_, aI _ _ _), (_, aI _ _ _), (_, aZ _ _ _), (_, aI _ _ _)]) 138 C [0, 1] dX3_fillFrom_135 rfl (k_X3_fillFrom_0 E l  (by first | assumption | omega) (by first | assumption | omega)) (cwV 1 C.2.2.2.2.1 gX3_fillFrom_X3_fillFrom rfl rfl rfl cdX3_fillFrom ⟨Nat.le_of_ble_eq_true rfl, Nat.le_of_ble_eq_true rfl⟩) rfl rfl rfl rfl (Nat.le_of_ble_eq_true rfl) 0 3 rfl rfl rfl ⟨Nat.le_of_ble_eq_true rfl, Nat.le_of_ble_eq_true rfl⟩ rfl rfl ?_
              refine g_aload_n 139 C 4 dX3_fillFrom_138 rfl rfl ?_
              refine g_get 142 C 0 5 3 iX3_fillFrom_X3 lX3_fillFrom_21 dX3_fillFrom_139 rfl rfl rfl (by decide) rfl ?_
              refine g_iload_n 143 C 1 dX3_fillFrom_142 rfl rfl ?_
              refine g_iconst 144 C dX3_fillFrom_143 rfl ?_
              refine g_bastore (ws' := [(_, .inr (3, [_, _, _, _, _, _, _, _, _, _, _, _, _])), (_, .inr (1, [_, _, _, _])), (_, aI _ _ _), (_, .inr (2, [_, _, _])), (_, aI _ _ _), (_, aI _ _ _), (_, aI _ _ _), (_, aZ _ _ _), (_, aI _ _ _)]) 145 C 7 dX3_fillFrom_144 rfl rfl (by omega) (by decide) rfl ?_
              refine g_aload_n 146 C 4 dX3_fillFrom_145 rfl rfl ?_
              refine g_get 149 C 0 10 3 iX3_fillFrom_X3 lX3_fillFrom_55 dX3_fillFrom_146 rfl rfl rfl (by decide) rfl ?_
              refine g_if_ne 166 152 C dX3_fillFrom_149 (by decide) rfl (by omega) (fun q => absurd q (by omega)) ?_
              intro _
              refine g_aload_n 153 C 4 dX3_fillFrom_152 rfl rfl ?_
              refine g_get 156 C 0 9 3 iX3_fillFrom_X3 lX3_fillFrom_80 dX3_fillFrom_153 rfl rfl rfl (by decide) rfl ?_
              refine g_if_eq 167 159 C dX3_fillFrom_156 (by decide) rfl (by omega) ?_ (fun h156 => absurd h156 (by omega))
              intro h156
              refine g_iinc (lv' := [(4, _), (3, _), (2, _), (1, _), (0, _)]) 170 C 0 dX3_fillFrom_167 rfl rfl (by decide) rfl ?_
              refine g_goto 65 C dX3_fillFrom_170 (by decide) ?_
              exact g_w [0, 1, 2, 3, 4] rfl rfl (ih65 ((uI (uI us1 i 1) i 0), (uI ly1 k (i * 4 + t)), wa1, (fd1 + 1), (tc1 + 1), (t + 1)) (by
            try dsimp only
            exact ⟨⟨by omega, uI_eq _ _ _⟩, fl_last (by omega) (by omega) (by omega) (by omega) (by omega) (by omega) hl.1 hl.2 (fun q a b => (hFi q a b).mp h107) hJ⟩) (by (try dsimp only); omega))
            · skip
              obtain ⟨q1, u1, hd1, hd2, hd3, hd4⟩ := fl_down (by omega) (by omega) (by omega) (by omega) (by omega) (by omega) hl (fun q a b => (hFi q a b).mp h107) hJ
              have hLY2 : ∀ j : Int, 0 ≤ j ∧ j < k + 1 → 0 ≤ uI ly1 k (i * 4 + t) j ∧ uI ly1 k (i * 4 + t) j < n * 4 ∧ FT W h hs pc tn (uI ly1 k (i * 4 + t)) j := fun j hj => by
                by_cases z : j = k
                · rw [z]
                  exact ⟨by rw [uI_eq]; omega, by rw [uI_eq]; omega, (hFi _ (fun j hj => by rw [uI_ne (by omega)]; exact hJ.2.2.1 j hj) (uI_eq _ _ _)).mp h107⟩
                · have hz := hLY j (by omega)
                  have hz2 : uI ly1 k (i * 4 + t) j = ly j := by rw [uI_ne z]; exact hJ.2.2.1 j (by omega)
                  exact ⟨by omega, by omega, (FT_c hB hj.1 (fun y hy => by rw [uI_ne (by omega)]; exact hJ.2.2.1 y (by omega))).mpr hz.2.2⟩
              have hUS2 : ∀ j : Int, 0 ≤ j ∧ j < n → uI us1 i 1 j = 0 ∨ uI us1 i 1 j = 1 := fun j hj => by
                by_cases z : j = i
                · rw [z, uI_eq]; exact Or.inr rfl
                · rw [uI_ne z, hJ.2.1 j hj]; exact hUS j hj
              refine g_aload_n 132 C 4 dX3_fillFrom_131 rfl rfl ?_
              refine g_iload_n 133 C 3 dX3_fillFrom_132 rfl rfl ?_
              refine g_iconst 134 C dX3_fillFrom_133 rfl ?_
              refine g_iadd 135 C dX3_fillFrom_134 rfl ?_
              refine g_callV 138 C [0, 1, 2, 3, 4, 5, 6, 7, 8] dX3_fillFrom_135 rfl (ihF (by first | assumption | omega) (by omega) (by first | assumption | omega) (by first | assumption | omega) (by first | assumption | omega) (by first | assumption | omega) hLY2 (by first | assumption | omega) (by first | assumption | omega) hUS2 ⟨by omega, hJ.1.2⟩ (by first | assumption | omega) hd1 hd2 hd3) (cwV 1 C.2.2.2.2.1 gX3_fillFrom_X3_fillFrom rfl rfl rfl cdX3_fillFrom ⟨by show d + 4 + 1 ≤ d + 1 + 4; omega, by show 8 + (5 + 11) + (d * 40 + 200) ≤ (d + 1) * 40 + 200; omega⟩) rfl rfl rfl rfl (Nat.le_of_ble_eq_true rfl) 0 3 rfl rfl rfl ⟨Nat.le_of_ble_eq_true rfl, Nat.le_of_ble_eq_true rfl⟩ (fun v w q => by obtain ⟨_, _, _, _, _, _, -, rfl⟩ := q; rfl) ?_
              rintro _ _ ⟨us2, ly2, wa2, sp2, fd2, tc2, ⟨rfl, hb2, hR⟩, rfl⟩
              rcases hR with ⟨rfl, hR⟩ | ⟨rfl, hf1, hf2, hR, hR2⟩ | ⟨rfl, hf3, hR1, hR2, hR3, hR4⟩
              · skip
                refine g_w (ws' := [(_, .inr (3, [_, _, _, _, _, _, _, _, _, _, _, _, _])), (_, .inr (1, [_, _, _, _])), (_, aI _ _ _), (_, .inr (2, [_, _, _])), (_, aI _ _ _), (_, aI _ _ _), (_, aI _ _ _), (_, aZ _ _ _), (_, aI _ _ _)]) [0, 1, 2, 3, 4] rfl rfl ?_
                refine g_aload_n 139 C 4 dX3_fillFrom_138 rfl rfl ?_
                refine g_get 142 C 0 5 3 iX3_fillFrom_X3 lX3_fillFrom_21 dX3_fillFrom_139 rfl rfl rfl (by decide) rfl ?_
                refine g_iload_n 143 C 1 dX3_fillFrom_142 rfl rfl ?_
                refine g_iconst 144 C dX3_fillFrom_143 rfl ?_
                refine g_bastore (ws' := [(_, .inr (3, [_, _, _, _, _, _, _, _, _, _, _, _, _])), (_, .inr (1, [_, _, _, _])), (_, aI _ _ _), (_, .inr (2, [_, _, _])), (_, aI _ _ _), (_, aI _ _ _), (_, aI _ _ _), (_, aZ _ _ _), (_, aI _ _ _)]) 145 C 7 dX3_fillFrom_144 rfl rfl (by omega) (by decide) rfl ?_
                refine g_aload_n 146 C 4 dX3_fillFrom_145 rfl rfl ?_
                refine g_get 149 C 0 10 3 iX3_fillFrom_X3 lX3_fillFrom_55 dX3_fillFrom_146 rfl rfl rfl (by decide) rfl ?_
                refine g_if_ne 166 152 C dX3_fillFrom_149 (by decide) rfl (by omega) ?_ (fun q => absurd q (by omega))
                intro _
                exact g_vret C hr dX3_fillFrom_166 ⟨_, _, _, _, _, _, ⟨rfl, fl_up1 (us2 := us2) (ly2 := ly2) (wa2 := wa2) (sp2 := 1) hb2 hd4 hR⟩, rfl⟩
              · skip
                refine g_w (ws' := [(_, .inr (3, [_, _, _, _, _, _, _, _, _, _, _, _, _])), (_, .inr (1, [_, _, _, _])), (_, aI _ _ _), (_, .inr (2, [_, _, _])), (_, aI _ _ _), (_, aI _ _ _), (_, aI _ _ _), (_, aZ _ _ _), (_, aI _ _ _)]) [0, 1, 2, 3, 4] rfl rfl ?_
                refine g_aload_n 139 C 4 dX3_fillFrom_138 rfl rfl ?_
                refine g_get 142 C 0 5 3 iX3_fillFrom_X3 lX3_fillFrom_21 dX3_fillFrom_139 rfl rfl rfl (by decide) rfl ?_
                refine g_iload_n 143 C 1 dX3_fillFrom_142 rfl rfl ?_
                refine g_iconst 144 C dX3_fillFrom_143 rfl ?_
                refine g_bastore (ws' := [(_, .inr (3, [_, _, _, _, _, _, _, _, _, _, _, _, _])), (_, .inr (1, [_, _, _, _])), (_, aI _ _ _), (_, .inr (2, [_, _, _])), (_, aI _ _ _), (_, aI _ _ _), (_, aI _ _ _), (_, aZ _ _ _), (_, aI _ _ _)]) 145 C 7 dX3_fillFrom_144 rfl rfl (by omega) (by decide) rfl ?_
                refine g_aload_n 146 C 4 dX3_fillFrom_145 rfl rfl ?_
                refine g_get 149 C 0 10 3 iX3_fillFrom_X3 lX3_fillFrom_55 dX3_fillFrom_146 rfl rfl rfl (by decide) rfl ?_
                refine g_if_ne 166 152 C dX3_fillFrom_149 (by decide) rfl (by omega) (fun q => absurd q (by omega)) ?_
                intro _
                refine g_aload_n 153 C 4 dX3_fillFrom_152 rfl rfl ?_
                refine g_get 156 C 0 9 3 iX3_fillFrom_X3 lX3_fillFrom_80 dX3_fillFrom_153 rfl rfl rfl (by decide) rfl ?_
                refine g_if_eq 167 159 C dX3_fillFrom_156 (by decide) rfl (by omega) (fun h156 => absurd h156 (by omega)) ?_
                intro h156
                refine g_aload_n 160 C 4 dX3_fillFrom_159 rfl rfl ?_
                refine g_get 163 C 0 11 3 iX3_fillFrom_X3 lX3_fillFrom_58 dX3_fillFrom_160 rfl rfl rfl (by decide) rfl ?_
                refine g_if_le 167 166 C dX3_fillFrom_163 (by decide) rfl (by omega) (fun h163 => absurd h163 (by omega)) ?_
                intro h163
                exact g_vret C hr dX3_fillFrom_166 ⟨_, _, _, _, _, _, ⟨rfl, fl_up2 hb2 hf1 hf2 hd4 hR hR2⟩, rfl⟩
              · skip
                refine g_w (ws' := [(_, .inr (3, [_, _, _, _, _, _, _, _, _, _, _, _, _])), (_, .inr (1, [_, _, _, _])), (_, aI _ _ _), (_, .inr (2, [_, _, _])), (_, aI _ _ _), (_, aI _ _ _), (_, aI _ _ _), (_, aZ _ _ _), (_, aI _ _ _)]) [0, 1, 2, 3, 4] rfl rfl ?_
                refine g_aload_n 139 C 4 dX3_fillFrom_138 rfl rfl ?_
                refine g_get 142 C 0 5 3 iX3_fillFrom_X3 lX3_fillFrom_21 dX3_fillFrom_139 rfl rfl rfl (by decide) rfl ?_
                refine g_iload_n 143 C 1 dX3_fillFrom_142 rfl rfl ?_
                refine g_iconst 144 C dX3_fillFrom_143 rfl ?_
                refine g_bastore (ws' := [(_, .inr (3, [_, _, _, _, _, _, _, _, _, _, _, _, _])), (_, .inr (1, [_, _, _, _])), (_, aI _ _ _), (_, .inr (2, [_, _, _])), (_, aI _ _ _), (_, aI _ _ _), (_, aI _ _ _), (_, aZ _ _ _), (_, aI _ _ _)]) 145 C 7 dX3_fillFrom_144 rfl rfl (by omega) (by decide) rfl ?_
                refine g_aload_n 146 C 4 dX3_fillFrom_145 rfl rfl ?_
                refine g_get 149 C 0 10 3 iX3_fillFrom_X3 lX3_fillFrom_55 dX3_fillFrom_146 rfl rfl rfl (by decide) rfl ?_
                refine g_if_ne 166 152 C dX3_fillFrom_149 (by decide) rfl (by omega) (fun q => absurd q (by omega)) ?_
                intro _
                refine g_aload_n 153 C 4 dX3_fillFrom_152 rfl rfl ?_
                refine g_get 156 C 0 9 3 iX3_fillFrom_X3 lX3_fillFrom_80 dX3_fillFrom_153 rfl rfl rfl (by decide) rfl ?_
                refine g_if_eq 167 159 C dX3_fillFrom_156 (by decide) rfl (by omega) ?_ ?_
                · intro h156
                  refine g_iinc (lv' := [(4, _), (3, _), (2, _), (1, _), (0, _)]) 170 C 0 dX3_fillFrom_167 rfl rfl (by decide) rfl ?_
                  refine g_goto 65 C dX3_fillFrom_170 (by decide) ?_
                  exact g_w [0, 1, 2, 3, 4] rfl rfl (ih65 ((uI us2 i 0), ly2, wa2, fd2, tc2, (t + 1)) (by
            try dsimp only
            exact ⟨⟨by omega, uI_eq _ _ _⟩, fl_up3 (by omega) (by omega) (by omega) (by omega) hb2 hf3 hR1 hR2 hR3 hd4 hR4 hJ⟩) (by (try dsimp only); omega))
                · intro h156
                  refine g_aload_n 160 C 4 dX3_fillFrom_159 rfl rfl ?_
                  refine g_get 163 C 0 11 3 iX3_fillFrom_X3 lX3_fillFrom_58 dX3_fillFrom_160 rfl rfl rfl (by decide) rfl ?_
                  refine g_if_le 167 166 C dX3_fillFrom_163 (by decide) rfl (by omega) ?_ (fun h163 => absurd h163 (by omega))
                  intro h163
                  refine g_iinc (lv' := [(4, _), (3, _), (2, _), (1, _), (0, _)]) 170 C 0 dX3_fillFrom_167 rfl rfl (by decide) rfl ?_
                  refine g_goto 65 C dX3_fillFrom_170 (by decide) ?_
                  exact g_w [0, 1, 2, 3, 4] rfl rfl (ih65 ((uI us2 i 0), ly2, wa2, fd2, tc2, (t + 1)) (by
            try dsimp only
            exact ⟨⟨by omega, uI_eq _ _ _⟩, fl_up3 (by omega) (by omega) (by omega) (by omega) hb2 hf3 hR1 hR2 hR3 hd4 hR4 hJ⟩) (by (try dsimp only); omega))
        · intro h77
          refine g_aload_n 81 C 4 dX3_fillFrom_80 rfl rfl ?_
          refine g_iconst 82 C dX3_fillFrom_81 rfl ?_
          refine g_put (ws' := [(_, .inr (3, [_, _, _, _, _, _, _, _, _, _, _, _, _])), (_, .inr (1, [_, _, _, _])), (_, aI _ _ _), (_, .inr (2, [_, _, _])), (_, aI _ _ _), (_, aI _ _ _), (_, aI _ _ _), (_, aZ _ _ _), (_, aI _ _ _)]) 85 C 0 10 3 tyX3 tyX3_ok nmX3 iX3_fillFrom_X3 lX3_fillFrom_55 dX3_fillFrom_82 rfl rfl rfl (by decide) rfl (by decide) rfl (Nat.le_of_ble_eq_true rfl) rfl ?_
          exact g_vret C hr dX3_fillFrom_85 ⟨_, _, _, _, _, _, ⟨rfl, fl_spent (by omega) (by omega) (by omega) (by omega) (by omega) (by omega) hJ⟩, rfl⟩
    · intro h56
      refine g_goto 173 C dX3_fillFrom_59 (by decide) ?_
      refine g_iinc (lv' := [(3, _), (2, _), (1, _), (0, _)]) 176 C 0 dX3_fillFrom_173 rfl rfl (by decide) rfl ?_
      refine g_goto 45 C dX3_fillFrom_176 (by decide) ?_
      exact g_w [0, 1, 2, 3] rfl rfl (ih45 (us1, ly1, wa1, fd1, tc1, (i + 1)) (by
            try dsimp only
            exact ⟨by omega, by first | (rw [show (i + 1) * 4 - 1 = i * 4 + t - 1 by omega]; exact hJ) | exact fl_skip (by omega) (by omega) (by omega) (by assumption) hI⟩) (by (try dsimp only); omega))
theorem k_X3_fillFrom (E : gE) (l : Launch) : ∀ d : Nat, fillC E l d := by
  intro d
  induction d with
  | zero =>
    unfold fillC
    intros
    omega
  | succ d ih =>
    unfold fillC
    intro _ _ _ _ _ _ _ _ _ _ _ _ _ W h n k hs se pc tn sh fi wa us ly q0 u0 jo fo fd tc h1 h2 h3 h4 h5 h6 h7 h8 h9 h10 h11 h12 h13 h14 h15
    exact k_X3_fillFrom_s E l ih h1 (by omega) h3 h4 h5 h6 h7 h8 h9 h10 h11 h12 h13 h14 h15
