theorem k_X3_fillFrom_e (E : gE) (l : Launch) (d : Nat) {a_L a_P a_R a_fi a_hs a_jl a_ly a_pc a_se a_sh a_tn a_us a_wa : Nat} {W h n k : Int} {hs se pc tn sh fi wa us ly q0 u0 : Int → Int} {jo fo fd tc : Int} (hB : 1 ≤ W ∧ W ≤ 5 ∧ 1 ≤ h ∧ h ≤ 5) (hk : 0 ≤ k ∧ k < W * h ∧ k + (d : Int) = W * h) (hse : ∀ p e : Int, 0 ≤ p ∧ p < W * h → 0 ≤ e ∧ e < 4 → se (p * 4 + e) = sdI W h p e) (hh : hB9 hs) (hn : 0 ≤ n ∧ n ≤ 25) (hpw : ∀ j : Int, 0 ≤ j ∧ j < n → (0 ≤ pc j ∧ pc j < W * h) ∧ 0 ≤ tn j ∧ tn j < 4) (hLY : ∀ j : Int, 0 ≤ j ∧ j < k → 0 ≤ ly j ∧ ly j < n * 4 ∧ FT W h hs pc tn ly j) (hSH : ∀ v d : Int, 0 ≤ v ∧ v < n * 4 → 0 ≤ d ∧ d < 4 → sh (v * 4 + d) = shV W h hs pc tn v d) (hFI : ∀ v d : Int, 0 ≤ v ∧ v < n * 4 → 0 ≤ d ∧ d < 4 → fi (v * 4 + d) = fiV W h hs pc tn v d) (hUS : ∀ j : Int, 0 ≤ j ∧ j < n → us j = 0 ∨ us j = 1) (hc : (0 ≤ fd ∧ fd ≤ tc ∧ tc ≤ 60000) ∧ (fo = 1 → fd = 0)) (hfo : fo = 0 ∨ fo = 1) (hq0 : ∀ j : Int, 0 ≤ j ∧ j < k → q0 j = ly j) (hq1 : q0 k = -1) (hu0 : ∀ j : Int, 0 ≤ j ∧ j < n → u0 j = us j) : gMet E l yX3_fillFrom wsX3_fillFrom (rmF d) 0 0 [.ref a_R, .int (iI k)] [(a_R, .inr (3, [.ref a_P, .ref a_L, .ref a_sh, .ref a_fi, .ref a_wa, .ref a_us, .ref a_ly, .ref a_jl, .int (iI jo), .int (iI fo), .int (iI 0), .int (iI fd), .int (iI tc)])), (a_P, .inr (1, [.ref a_hs, .ref a_se, .int (iI W), .int (iI h)])), (a_se, aI E 100 se), (a_L, .inr (2, [.ref a_pc, .ref a_tn, .int (iI n)])), (a_sh, aI E 400 sh), (a_fi, aI E 400 fi), (a_wa, aI E 100 wa), (a_us, aZ E 25 us), (a_ly, aI E 25 ly)] (fun v w => ∃ (us2 ly2 wa2 : Int → Int) (sp2 fd2 tc2 : Int), (v = none ∧ fillR (FT W h hs pc tn) n (W * h) fo k us ly wa (k, q0, u0, tc, fd) us2 ly2 wa2 sp2 fd2 tc2) ∧ w = [(a_R, .inr (3, [.ref a_P, .ref a_L, .ref a_sh, .ref a_fi, .ref a_wa, .ref a_us, .ref a_ly, .ref a_jl, .int (iI jo), .int (iI fo), .int (iI sp2), .int (iI fd2), .int (iI tc2)])), (a_P, .inr (1, [.ref a_hs, .ref a_se, .int (iI W), .int (iI h)])), (a_se, aI E 100 se), (a_L, .inr (2, [.ref a_pc, .ref a_tn, .int (iI n)])), (a_sh, aI E 400 sh), (a_fi, aI E 400 fi), (a_wa, aI E 100 wa2), (a_us, aZ E 25 us2), (a_ly, aI E 25 ly2)]) := by
  have q : fillC E l d := k_X3_fillFrom E l d
  unfold fillC at q
  exact q hB hk hse hh hn hpw hLY hSH hFI hUS hc hfo hq0 hq1 hu0
/-- how a run of the search ends, from its start -/
def runR (F : (Int → Int) → Int → Prop) (n N fo : Int) (ly2 : Int → Int) (sp2 fd2 tc2 : Int) : Prop :=
  (0 ≤ fd2 ∧ fd2 ≤ tc2 ∧ tc2 ≤ 60000) ∧
  ((sp2 = 1 ∧ ∃ (m : Nat) (q u : Int → Int), itS F n N fo m (0, (fun _ => -1), (fun _ => 0), 0, 0) = (-2, q, u, tc2, fd2))
  ∨ (sp2 = 0 ∧ fo = 1 ∧ fd2 = 1 ∧ (∃ (m : Nat) (q u : Int → Int), itS F n N fo m (0, (fun _ => -1), (fun _ => 0), 0, 0) = (-3, q, u, tc2, fd2) ∧ ∀ j, 0 ≤ j ∧ j < N → q j = ly2 j) ∧ ∀ j, 0 ≤ j ∧ j < N → 0 ≤ ly2 j ∧ ly2 j < 100)
  ∨ (sp2 = 0 ∧ (fo = 1 → fd2 = 0) ∧ ∃ (m : Nat) (q u : Int → Int), itS F n N fo m (0, (fun _ => -1), (fun _ => 0), 0, 0) = (-1, q, u, tc2, fd2)))
theorem runR_of {F : (Int → Int) → Int → Prop} {n N fo : Int} {us ly wa us2 ly2 wa2 : Int → Int} {sp2 fd2 tc2 : Int} (h : fillR F n N fo 0 us ly wa (0, (fun _ => -1), (fun _ => 0), 0, 0) us2 ly2 wa2 sp2 fd2 tc2) : runR F n N fo ly2 sp2 fd2 tc2 := by
  obtain ⟨hb, h | h | ⟨h1, h2, -, -, -, m, q, u, e, -⟩⟩ := h
  · exact ⟨hb, Or.inl h⟩
  · exact ⟨hb, Or.inr (Or.inl h)⟩
  · exact ⟨hb, Or.inr (Or.inr ⟨h1, h2, m, q, u, e⟩)⟩
theorem runR_sp {F : (Int → Int) → Int → Prop} {n N fo : Int} {ly2 : Int → Int} {sp2 fd2 tc2 : Int} (h : runR F n N fo ly2 sp2 fd2 tc2) : (sp2 = 0 ∨ sp2 = 1) ∧ 0 ≤ fd2 ∧ fd2 ≤ tc2 ∧ tc2 ≤ 60000 := by
  obtain ⟨hb, ⟨h, -⟩ | ⟨h, -⟩ | ⟨h, -⟩⟩ := h <;> exact ⟨by omega, hb⟩
theorem runR_fd {F : (Int → Int) → Int → Prop} {n N : Int} {ly2 : Int → Int} {sp2 fd2 tc2 : Int} (h : runR F n N 1 ly2 sp2 fd2 tc2) (h0 : sp2 = 0) : fd2 = 0 ∨ fd2 = 1 := by
  obtain ⟨hb, ⟨h, -⟩ | ⟨-, -, h, -⟩ | ⟨-, h, -⟩⟩ := h
  · omega
  · exact Or.inr h
  · exact Or.inl (h rfl)
theorem okN_sh {W h i : Int} {hs pc tn f f2 : Int → Int} (hi : 0 ≤ i) (hT : 0 ≤ tn i ∧ tn i < 4) (hF : ∀ v d : Int, 0 ≤ v ∧ v < i * 4 → 0 ≤ d ∧ d < 4 → f (v * 4 + d) = shV W h hs pc tn v d) (hA : okN (fun x => if sdI W h (pc i) x = -9 then -1 else coI W h hs (pc i) x) f f2 i (tn i) 4 0) : ∀ v d : Int, 0 ≤ v ∧ v < (i + 1) * 4 → 0 ≤ d ∧ d < 4 → f2 (v * 4 + d) = shV W h hs pc tn v d := by
  intro v d hv hd
  by_cases z : v < i * 4
  · rw [hA.2 _ (by omega)]; exact hF v d (by omega) hd
  · have e := okN_f hT (Int.le_refl _) hA (t := v % 4) (d := d) (by omega) hd
    rw [show i * 4 + v % 4 = v by omega] at e
    rw [e]
    unfold shV edI
    rw [show v / 4 = i by omega]
theorem okN_fi {W h i : Int} {hs pc tn f f2 : Int → Int} (hi : 0 ≤ i) (hT : 0 ≤ tn i ∧ tn i < 4) (hF : ∀ v d : Int, 0 ≤ v ∧ v < i * 4 → 0 ≤ d ∧ d < 4 → f (v * 4 + d) = fiV W h hs pc tn v d) (hA : okN (fun x => if sdI W h (pc i) x = -9 then -1 else maI W h hs (pc i) x) f f2 i (tn i) 4 0) : ∀ v d : Int, 0 ≤ v ∧ v < (i + 1) * 4 → 0 ≤ d ∧ d < 4 → f2 (v * 4 + d) = fiV W h hs pc tn v d := by
  intro v d hv hd
  by_cases z : v < i * 4
  · rw [hA.2 _ (by omega)]; exact hF v d (by omega) hd
  · have e := okN_f hT (Int.le_refl _) hA (t := v % 4) (d := d) (by omega) hd
    rw [show i * 4 + v % 4 = v by omega] at e
    rw [e]
    unfold fiV edI
    rw [show v / 4 = i by omega]
theorem cdX3_readEdges : yX3_readEdges.cls = RX3 ∧ yX3_readEdges.cls ≠ "java/lang/invoke/MethodHandle" ∧ yX3_readEdges.cls ≠ "java/lang/invoke/VarHandle" ∧ (parseMethodDescriptor yX3_readEdges.desc).map (fun d => d.parameters.length) = some 1 := by decide +kernel
theorem lX3_run_21 : Cond.fieldLink RX3 21 (TX3 5).1 (TX3 5).2.1 (TX3 5).2.2.1 ∈ wsX3_run := by decide +kernel
theorem lX3_run_35 : Cond.fieldLink RX3 35 (TX3 1).1 (TX3 1).2.1 (TX3 1).2.2.1 ∈ wsX3_run := by decide +kernel
theorem lX3_run_39 : Cond.fieldLink RX3 39 (TX3 12).1 (TX3 12).2.1 (TX3 12).2.2.1 ∈ wsX3_run := by decide +kernel
theorem lX3_run_55 : Cond.fieldLink RX3 55 (TX3 10).1 (TX3 10).2.1 (TX3 10).2.2.1 ∈ wsX3_run := by decide +kernel
theorem lX3_run_58 : Cond.fieldLink RX3 58 (TX3 11).1 (TX3 11).2.1 (TX3 11).2.2.1 ∈ wsX3_run := by decide +kernel
theorem lX3_run_80 : Cond.fieldLink RX3 80 (TX3 9).1 (TX3 9).2.1 (TX3 9).2.2.1 ∈ wsX3_run := by decide +kernel
theorem iX3_run_X3 : ∀ w ∈ u_ws RX3 TX3 13, w ∈ wsX3_run := by decide +kernel
set_option maxHeartbeats 4000000 in
set_option maxRecDepth 100000 in
theorem k_X3_run (E : gE) (l : Launch) {a_L a_P a_R a_fi a_hs a_jl a_ly a_pc a_se a_sh a_tn a_us a_wa : Nat} {W h n b : Int} {hs se pc tn sh fi wa us ly : Int → Int} {jo fo sp fd tc : Int} (hB : 1 ≤ W ∧ W ≤ 5 ∧ 1 ≤ h ∧ h ≤ 5) (hse : ∀ p e : Int, 0 ≤ p ∧ p < W * h → 0 ≤ e ∧ e < 4 → se (p * 4 + e) = sdI W h p e) (hh : hB9 hs) (hn : 0 ≤ n ∧ n ≤ 25) (hpw : ∀ j : Int, 0 ≤ j ∧ j < n → (0 ≤ pc j ∧ pc j < W * h) ∧ 0 ≤ tn j ∧ tn j < 4) (hb : b = 0 ∨ b = 1) : gMet E l yX3_run wsX3_run { frames := 40, cells := 0, slots := 0, locals := 1300 } 0 0 [.ref a_R, .int (iI b)] [(a_R, .inr (3, [.ref a_P, .ref a_L, .ref a_sh, .ref a_fi, .ref a_wa, .ref a_us, .ref a_ly, .ref a_jl, .int (iI jo), .int (iI fo), .int (iI sp), .int (iI fd), .int (iI tc)])), (a_P, .inr (1, [.ref a_hs, .ref a_se, .int (iI W), .int (iI h)])), (a_hs, aI E 200 hs), (a_se, aI E 100 se), (a_L, .inr (2, [.ref a_pc, .ref a_tn, .int (iI n)])), (a_pc, aI E 25 pc), (a_tn, aI E 25 tn), (a_sh, aI E 400 sh), (a_fi, aI E 400 fi), (a_wa, aI E 100 wa), (a_us, aZ E 25 us), (a_ly, aI E 25 ly)] (fun v w => ∃ (sh2 fi2 wa2 us2 ly2 : Int → Int) (sp2 fd2 tc2 : Int), (v = none ∧ runR (FT W h hs pc tn) n (W * h) b ly2 sp2 fd2 tc2) ∧ w = [(a_R, .inr (3, [.ref a_P, .ref a_L, .ref a_sh, .ref a_fi, .ref a_wa, .ref a_us, .ref a_ly, .ref a_jl, .int (iI jo), .int (iI b), .int (iI sp2), .int (iI fd2), .int (iI tc2)])), (a_P, .inr (1, [.ref a_hs, .ref a_se, .int (iI W), .int (iI h)])), (a_hs, aI E 200 hs), (a_se, aI E 100 se), (a_L, .inr (2, [.ref a_pc, .ref a_tn, .int (iI n)])), (a_pc, aI E 25 pc), (a_tn, aI E 25 tn), (a_sh, aI E 400 sh2), (a_fi, aI E 400 fi2), (a_wa, aI E 100 wa2), (a_us, aZ E 25 us2), (a_ly, aI E 25 ly2)]) := by
  refine g_start (cc := cX3_run) (maxL := 3) (ret := none) (by decide) rfl (Nat.le_of_ble_eq_true rfl) ?_
  intro p_ e_ s_ m_ args_ below_ meth_ c_ A_ C hr hnm
  have hn := nsd_b hB
  refine g_iconst 1 C dX3_run_0 rfl ?_
  refine g_istore_n (lv' := [(2, _), (0, _), (1, _)]) 2 C dX3_run_1 rfl rfl (by decide) rfl ?_
  refine g_loop (α := Int) (fun zz => [(a_R, .inr (3, [.ref a_P, .ref a_L, .ref a_sh, .ref a_fi, .ref a_wa, .ref a_us, .ref a_ly, .ref a_jl, .int (iI jo), .int (iI fo), .int (iI sp), .int (iI fd), .int (iI tc)])), (a_P, .inr (1, [.ref a_hs, .ref a_se, .int (iI W), .int (iI h)])), (a_hs, aI E 200 hs), (a_se, aI E 100 se), (a_L, .inr (2, [.ref a_pc, .ref a_tn, .int (iI n)])), (a_pc, aI E 25 pc), (a_tn, aI E 25 tn), (a_sh, aI E 400 sh), (a_fi, aI E 400 fi), (a_wa, aI E 100 wa), (a_us, aZ E 25 (zrI us zz)), (a_ly, aI E 25 ly)]) (fun zz => [(2, .int (iI zz)), (1, .int (iI b)), (0, .ref a_R)]) (fun zz => 0 ≤ zz ∧ zz ≤ 25) (fun zz => (25 - zz).toNat) (0) (by (try dsimp only); omega) [0, 2, 1] (by rw [zrI_0]) rfl ?_
  rintro j hI ih2
  try dsimp only at hI ih2 ⊢
  obtain ⟨hj0, hj2⟩ := hI
  refine g_iload_n 3 C 0 dX3_run_2 rfl rfl ?_
  refine g_aload_n 4 C 2 dX3_run_3 rfl rfl ?_
  refine g_get 7 C 0 5 3 iX3_run_X3 lX3_run_21 dX3_run_4 rfl rfl rfl (by decide) rfl ?_
  refine g_alenZ 8 C 10 dX3_run_7 rfl rfl ?_
  refine g_icmp_ge 24 11 C dX3_run_8 (by decide) rfl (by omega) ?_ ?_
  · intro h8
    refine g_iconst 25 C dX3_run_24 rfl ?_
    refine g_istore_n (lv' := [(2, _), (1, _), (0, _)]) 26 C dX3_run_25 rfl rfl (by decide) rfl ?_
    refine g_loop (α := (Int → Int) × (Int → Int) × Int) (fun zz => [(a_R, .inr (3, [.ref a_P, .ref a_L, .ref a_sh, .ref a_fi, .ref a_wa, .ref a_us, .ref a_ly, .ref a_jl, .int (iI jo), .int (iI fo), .int (iI sp), .int (iI fd), .int (iI tc)])), (a_P, .inr (1, [.ref a_hs, .ref a_se, .int (iI W), .int (iI h)])), (a_hs, aI E 200 hs), (a_se, aI E 100 se), (a_L, .inr (2, [.ref a_pc, .ref a_tn, .int (iI n)])), (a_pc, aI E 25 pc), (a_tn, aI E 25 tn), (a_sh, aI E 400 zz.1), (a_fi, aI E 400 zz.2.1), (a_wa, aI E 100 wa), (a_us, aZ E 25 (zrI us 25)), (a_ly, aI E 25 ly)]) (fun zz => [(2, .int (iI zz.2.2)), (1, .int (iI b)), (0, .ref a_R)]) (fun zz => (0 ≤ zz.2.2 ∧ zz.2.2 ≤ n) ∧ (∀ v d : Int, 0 ≤ v ∧ v < zz.2.2 * 4 → 0 ≤ d ∧ d < 4 → zz.1 (v * 4 + d) = shV W h hs pc tn v d) ∧ (∀ v d : Int, 0 ≤ v ∧ v < zz.2.2 * 4 → 0 ≤ d ∧ d < 4 → zz.2.1 (v * 4 + d) = fiV W h hs pc tn v d)) (fun zz => (n - zz.2.2).toNat) (sh, fi, 0) (by
            try dsimp only
            exact ⟨by omega, fun v d hv => by omega, fun v d hv => by omega⟩) [0, 1, 2] (by rw [show j = 25 by omega]) rfl ?_
    rintro ⟨f, g, i⟩ hI ih26
    try dsimp only at hI ih26 ⊢
    obtain ⟨hi, hF, hG⟩ := hI
    refine g_iload_n 27 C 0 dX3_run_26 rfl rfl ?_
    refine g_aload_n 28 C 2 dX3_run_27 rfl rfl ?_
    refine g_get 31 C 0 1 3 iX3_run_X3 lX3_run_35 dX3_run_28 rfl rfl rfl (by decide) rfl ?_
    refine g_callVF 34 C [4] dX3_run_31 rfl (k_X2_size E l  ) (cwV 0 C.2.2.2.2.1 gX3_run_X2_size rfl rfl rfl cdX2_size ⟨Nat.le_of_ble_eq_true rfl, Nat.le_of_ble_eq_true rfl⟩) rfl rfl rfl rfl (Nat.le_of_ble_eq_true rfl) 4 2 rfl rfl rfl ⟨Nat.le_of_ble_eq_true rfl, Nat.le_of_ble_eq_true rfl⟩ ?_
    refine g_icmp_ge 48 37 C dX3_run_34 (by decide) rfl (by omega) ?_ ?_
    · intro h34
      refine g_aload_n 49 C 2 dX3_run_48 rfl rfl ?_
      refine g_iload_n 50 C 1 dX3_run_49 rfl rfl ?_
      refine g_put (ws' := [(_, .inr (3, [_, _, _, _, _, _, _, _, _, _, _, _, _])), (_, .inr (1, [_, _, _, _])), (_, aI _ _ _), (_, aI _ _ _), (_, .inr (2, [_, _, _])), (_, aI _ _ _), (_, aI _ _ _), (_, aI _ _ _), (_, aI _ _ _), (_, aI _ _ _), (_, aZ _ _ _), (_, aI _ _ _)]) 53 C 0 9 3 tyX3 tyX3_ok nmX3 iX3_run_X3 lX3_run_80 dX3_run_50 rfl rfl rfl (by decide) rfl (by rcases hb with rfl | rfl <;> rfl) (by rcases hb with rfl | rfl <;> rfl) (Nat.le_of_ble_eq_true rfl) rfl ?_
      refine g_aload_n 54 C 2 dX3_run_53 rfl rfl ?_
      refine g_iconst 55 C dX3_run_54 rfl ?_
      refine g_put (ws' := [(_, .inr (3, [_, _, _, _, _, _, _, _, _, _, _, _, _])), (_, .inr (1, [_, _, _, _])), (_, aI _ _ _), (_, aI _ _ _), (_, .inr (2, [_, _, _])), (_, aI _ _ _), (_, aI _ _ _), (_, aI _ _ _), (_, aI _ _ _), (_, aI _ _ _), (_, aZ _ _ _), (_, aI _ _ _)]) 58 C 0 10 3 tyX3 tyX3_ok nmX3 iX3_run_X3 lX3_run_55 dX3_run_55 rfl rfl rfl (by decide) rfl (by decide) rfl (Nat.le_of_ble_eq_true rfl) rfl ?_
      refine g_aload_n 59 C 2 dX3_run_58 rfl rfl ?_
      refine g_iconst 60 C dX3_run_59 rfl ?_
      refine g_put (ws' := [(_, .inr (3, [_, _, _, _, _, _, _, _, _, _, _, _, _])), (_, .inr (1, [_, _, _, _])), (_, aI _ _ _), (_, aI _ _ _), (_, .inr (2, [_, _, _])), (_, aI _ _ _), (_, aI _ _ _), (_, aI _ _ _), (_, aI _ _ _), (_, aI _ _ _), (_, aZ _ _ _), (_, aI _ _ _)]) 63 C 0 11 3 tyX3 tyX3_ok nmX3 iX3_run_X3 lX3_run_58 dX3_run_60 rfl rfl rfl (by decide) rfl rfl rfl (Nat.le_of_ble_eq_true rfl) rfl ?_
      refine g_aload_n 64 C 2 dX3_run_63 rfl rfl ?_
      refine g_iconst 65 C dX3_run_64 rfl ?_
      refine g_put (ws' := [(_, .inr (3, [_, _, _, _, _, _, _, _, _, _, _, _, _])), (_, .inr (1, [_, _, _, _])), (_, aI _ _ _), (_, aI _ _ _), (_, .inr (2, [_, _, _])), (_, aI _ _ _), (_, aI _ _ _), (_, aI _ _ _), (_, aI _ _ _), (_, aI _ _ _), (_, aZ _ _ _), (_, aI _ _ _)]) 68 C 0 12 3 tyX3 tyX3_ok nmX3 iX3_run_X3 lX3_run_39 dX3_run_65 rfl rfl rfl (by decide) rfl rfl rfl (Nat.le_of_ble_eq_true rfl) rfl ?_
      refine g_aload_n 69 C 2 dX3_run_68 rfl rfl ?_
      refine g_iconst 70 C dX3_run_69 rfl ?_
      refine g_callV 73 C [0, 1, 3, 4, 7, 8, 9, 10, 11] dX3_run_70 rfl (k_X3_fillFrom_e E l (W * h).toNat (q0 := fun _ => -1) (u0 := fun _ => 0) (by first | assumption | omega) (by omega) (by first | assumption | omega) (by first | assumption | omega) (by first | assumption | omega) (by first | assumption | omega) (fun j hj => absurd hj (by omega)) (fun v d hv hd => hF v d (by omega) hd) (fun v d hv hd => hG v d (by omega) hd) (fun j hj => Or.inl (if_pos (by omega))) ⟨by omega, fun _ => rfl⟩ hb (fun j hj => absurd hj (by omega)) rfl (fun j hj => (if_pos (by omega)).symm)) (cwV 1 C.2.2.2.2.1 gX3_run_X3_fillFrom rfl rfl rfl cdX3_fillFrom ⟨by show (W * h).toNat + 4 + 1 ≤ 40; omega, by show 8 + (5 + 11) + ((W * h).toNat * 40 + 200) ≤ 1300; omega⟩) rfl rfl rfl rfl (Nat.le_of_ble_eq_true rfl) 0 3 rfl rfl rfl ⟨Nat.le_of_ble_eq_true rfl, Nat.le_of_ble_eq_true rfl⟩ (fun v w q => by obtain ⟨_, _, _, _, _, _, -, rfl⟩ := q; rfl) ?_
      rintro _ _ ⟨us2, ly2, wa2, sp2, fd2, tc2, ⟨rfl, hR⟩, rfl⟩
      refine g_w (ws' := [(_, .inr (3, [_, _, _, _, _, _, _, _, _, _, _, _, _])), (_, .inr (1, [_, _, _, _])), (_, aI _ _ _), (_, aI _ _ _), (_, .inr (2, [_, _, _])), (_, aI _ _ _), (_, aI _ _ _), (_, aI _ _ _), (_, aI _ _ _), (_, aI _ _ _), (_, aZ _ _ _), (_, aI _ _ _)]) [0, 1, 2] rfl rfl ?_
      exact g_vret C hr dX3_run_73 ⟨_, _, _, _, _, _, _, _, ⟨rfl, runR_of hR⟩, rfl⟩
    · intro h34
      refine g_aload_n 38 C 2 dX3_run_37 rfl rfl ?_
      refine g_iload_n 39 C 0 dX3_run_38 rfl rfl ?_
      refine g_callV 42 C [0, 1, 2, 3, 4, 5, 6, 7, 8] dX3_run_39 rfl (k_X3_readEdges E l  (by first | assumption | omega) (by first | assumption | omega) (by first | assumption | omega) (by first | assumption | omega) (by first | assumption | omega) (by first | assumption | omega)) (cwV 1 C.2.2.2.2.1 gX3_run_X3_readEdges rfl rfl rfl cdX3_readEdges ⟨Nat.le_of_ble_eq_true rfl, Nat.le_of_ble_eq_true rfl⟩) rfl rfl rfl rfl (Nat.le_of_ble_eq_true rfl) 0 3 rfl rfl rfl ⟨Nat.le_of_ble_eq_true rfl, Nat.le_of_ble_eq_true rfl⟩ (fun v w q => by obtain ⟨f, g, -, rfl⟩ := q; rfl) ?_
      rintro _ _ ⟨f2, g2, ⟨rfl, hA, hA2⟩, rfl⟩
      refine g_w (ws' := [(_, .inr (3, [_, _, _, _, _, _, _, _, _, _, _, _, _])), (_, .inr (1, [_, _, _, _])), (_, aI _ _ _), (_, aI _ _ _), (_, .inr (2, [_, _, _])), (_, aI _ _ _), (_, aI _ _ _), (_, aI _ _ _), (_, aI _ _ _), (_, aI _ _ _), (_, aZ _ _ _), (_, aI _ _ _)]) [0, 1, 2] rfl rfl ?_
      refine g_iinc (lv' := [(2, _), (1, _), (0, _)]) 45 C 0 dX3_run_42 rfl rfl (by decide) rfl ?_
      refine g_goto 26 C dX3_run_45 (by decide) ?_
      exact g_w [0, 1, 2] rfl rfl (ih26 (f2, g2, (i + 1)) (by
            try dsimp only
            exact ⟨by omega, okN_sh (by omega) (hpw i (by omega)).2 hF hA, okN_fi (by omega) (hpw i (by omega)).2 hG hA2⟩) (by (try dsimp only); omega))
  · intro h8
    refine g_aload_n 12 C 2 dX3_run_11 rfl rfl ?_
    refine g_get 15 C 0 5 3 iX3_run_X3 lX3_run_21 dX3_run_12 rfl rfl rfl (by decide) rfl ?_
    refine g_iload_n 16 C 0 dX3_run_15 rfl rfl ?_
    refine g_iconst 17 C dX3_run_16 rfl ?_
    refine g_bastore (ws' := [(_, .inr (3, [_, _, _, _, _, _, _, _, _, _, _, _, _])), (_, .inr (1, [_, _, _, _])), (_, aI _ _ _), (_, aI _ _ _), (_, .inr (2, [_, _, _])), (_, aI _ _ _), (_, aI _ _ _), (_, aI _ _ _), (_, aI _ _ _), (_, aI _ _ _), (_, aZ _ _ _), (_, aI _ _ _)]) 18 C 10 dX3_run_17 rfl rfl (by omega) (by decide) rfl ?_
    refine g_iinc (lv' := [(2, _), (1, _), (0, _)]) 21 C 0 dX3_run_18 rfl rfl (by decide) rfl ?_
    refine g_goto 2 C dX3_run_21 (by decide) ?_
    exact g_w [0, 1, 2] (by (try dsimp only); rw [← zrI_s us hj0]) rfl (ih2 ((j + 1)) (by (try dsimp only); omega) (by (try dsimp only); omega))
theorem cdX3_run : yX3_run.cls = RX3 ∧ yX3_run.cls ≠ "java/lang/invoke/MethodHandle" ∧ yX3_run.cls ≠ "java/lang/invoke/VarHandle" ∧ (parseMethodDescriptor yX3_run.desc).map (fun d => d.parameters.length) = some 1 := by decide +kernel
theorem lX3_countWays_55 : Cond.fieldLink RX3 55 (TX3 10).1 (TX3 10).2.1 (TX3 10).2.2.1 ∈ wsX3_countWays := by decide +kernel
theorem lX3_countWays_58 : Cond.fieldLink RX3 58 (TX3 11).1 (TX3 11).2.1 (TX3 11).2.2.1 ∈ wsX3_countWays := by decide +kernel
theorem iX3_countWays_X3 : ∀ w ∈ u_ws RX3 TX3 13, w ∈ wsX3_countWays := by decide +kernel
set_option maxHeartbeats 4000000 in
set_option maxRecDepth 100000 in
theorem k_X3_countWays (E : gE) (l : Launch) {a_L a_P a_R a_fi a_hs a_jl a_ly a_pc a_se a_sh a_tn a_us a_wa : Nat} {W h n : Int} {hs se pc tn sh fi wa us ly : Int → Int} {jo fo sp fd tc : Int} (hB : 1 ≤ W ∧ W ≤ 5 ∧ 1 ≤ h ∧ h ≤ 5) (hse : ∀ p e : Int, 0 ≤ p ∧ p < W * h → 0 ≤ e ∧ e < 4 → se (p * 4 + e) = sdI W h p e) (hh : hB9 hs) (hn : 0 ≤ n ∧ n ≤ 25) (hpw : ∀ j : Int, 0 ≤ j ∧ j < n → (0 ≤ pc j ∧ pc j < W * h) ∧ 0 ≤ tn j ∧ tn j < 4) : gMet E l yX3_countWays wsX3_countWays { frames := 41, cells := 0, slots := 0, locals := 1322 } 0 0 [.ref a_R] [(a_R, .inr (3, [.ref a_P, .ref a_L, .ref a_sh, .ref a_fi, .ref a_wa, .ref a_us, .ref a_ly, .ref a_jl, .int (iI jo), .int (iI fo), .int (iI sp), .int (iI fd), .int (iI tc)])), (a_P, .inr (1, [.ref a_hs, .ref a_se, .int (iI W), .int (iI h)])), (a_hs, aI E 200 hs), (a_se, aI E 100 se), (a_L, .inr (2, [.ref a_pc, .ref a_tn, .int (iI n)])), (a_pc, aI E 25 pc), (a_tn, aI E 25 tn), (a_sh, aI E 400 sh), (a_fi, aI E 400 fi), (a_wa, aI E 100 wa), (a_us, aZ E 25 us), (a_ly, aI E 25 ly)] (fun v w => ∃ (sh2 fi2 wa2 us2 ly2 : Int → Int) (sp2 fd2 tc2 : Int), (v = some (.int (iI (if sp2 = 1 then -6 else fd2))) ∧ runR (FT W h hs pc tn) n (W * h) 0 ly2 sp2 fd2 tc2) ∧ w = [(a_R, .inr (3, [.ref a_P, .ref a_L, .ref a_sh, .ref a_fi, .ref a_wa, .ref a_us, .ref a_ly, .ref a_jl, .int (iI jo), .int (iI 0), .int (iI sp2), .int (iI fd2), .int (iI tc2)])), (a_P, .inr (1, [.ref a_hs, .ref a_se, .int (iI W), .int (iI h)])), (a_hs, aI E 200 hs), (a_se, aI E 100 se), (a_L, .inr (2, [.ref a_pc, .ref a_tn, .int (iI n)])), (a_pc, aI E 25 pc), (a_tn, aI E 25 tn), (a_sh, aI E 400 sh2), (a_fi, aI E 400 fi2), (a_wa, aI E 100 wa2), (a_us, aZ E 25 us2), (a_ly, aI E 25 ly2)]) := by
  refine g_start (cc := cX3_countWays) (maxL := 1) (ret := (some .int)) (by decide) rfl (Nat.le_of_ble_eq_true rfl) ?_
  intro p_ e_ s_ m_ args_ below_ meth_ c_ A_ C hr hnm
  refine g_aload_n 1 C 0 dX3_countWays_0 rfl rfl ?_
  refine g_iconst 2 C dX3_countWays_1 rfl ?_
  refine g_callV 5 C [0, 1, 2, 3, 4, 5, 6, 7, 8, 9, 10, 11] dX3_countWays_2 rfl (k_X3_run E l  (by first | assumption | omega) (by first | assumption | omega) (by first | assumption | omega) (by first | assumption | omega) (by first | assumption | omega) (by omega)) (cwV 1 C.2.2.2.2.1 gX3_countWays_X3_run rfl rfl rfl cdX3_run ⟨Nat.le_of_ble_eq_true rfl, Nat.le_of_ble_eq_true rfl⟩) rfl rfl rfl rfl (Nat.le_of_ble_eq_true rfl) 0 3 rfl rfl rfl ⟨Nat.le_of_ble_eq_true rfl, Nat.le_of_ble_eq_true rfl⟩ (fun v w q => by obtain ⟨_, _, _, _, _, _, _, _, -, rfl⟩ := q; rfl) ?_
  rintro _ _ ⟨sh2, fi2, wa2, us2, ly2, sp2, fd2, tc2, ⟨rfl, hR⟩, rfl⟩
  refine g_w (ws' := [(_, .inr (3, [_, _, _, _, _, _, _, _, _, _, _, _, _])), (_, .inr (1, [_, _, _, _])), (_, aI _ _ _), (_, aI _ _ _), (_, .inr (2, [_, _, _])), (_, aI _ _ _), (_, aI _ _ _), (_, aI _ _ _), (_, aI _ _ _), (_, aI _ _ _), (_, aZ _ _ _), (_, aI _ _ _)]) [0] rfl rfl ?_
  refine g_aload_n 6 C 0 dX3_countWays_5 rfl rfl ?_
  refine g_get 9 C 0 10 3 iX3_countWays_X3 lX3_countWays_55 dX3_countWays_6 rfl rfl rfl (by decide) rfl ?_
  have hs2 := runR_sp hR
  refine g_if_eq 17 12 C dX3_countWays_9 (by decide) rfl (by omega) ?_ ?_
  · intro h9
    refine g_aload_n 18 C 0 dX3_countWays_17 rfl rfl ?_
    refine g_get 21 C 0 11 3 iX3_countWays_X3 lX3_countWays_58 dX3_countWays_18 rfl rfl rfl (by decide) rfl ?_
    exact g_iret C hr dX3_countWays_21 ⟨_, _, _, _, _, _, _, _, ⟨g_ri (by first | exact (if_pos (by omega)).symm | exact (if_neg (by omega)).symm), hR⟩, rfl⟩
  · intro h9
    refine g_bipush 14 C dX3_countWays_12 rfl (by decide) ?_
    refine g_goto 21 C dX3_countWays_14 (by decide) ?_
    exact g_iret C hr dX3_countWays_21 ⟨_, _, _, _, _, _, _, _, ⟨g_ri (by first | exact (if_pos (by omega)).symm | exact (if_neg (by omega)).symm), hR⟩, rfl⟩
theorem lX3_findFirst_25 : Cond.fieldLink RX3 25 (TX3 6).1 (TX3 6).2.1 (TX3 6).2.2.1 ∈ wsX3_findFirst := by decide +kernel
theorem lX3_findFirst_28 : Cond.fieldLink RX3 28 (TX3 7).1 (TX3 7).2.1 (TX3 7).2.2.1 ∈ wsX3_findFirst := by decide +kernel
theorem lX3_findFirst_31 : Cond.fieldLink RX3 31 (TX3 0).1 (TX3 0).2.1 (TX3 0).2.2.1 ∈ wsX3_findFirst := by decide +kernel
theorem lX3_findFirst_43 : Cond.fieldLink RX3 43 (TX3 8).1 (TX3 8).2.1 (TX3 8).2.2.1 ∈ wsX3_findFirst := by decide +kernel
theorem lX3_findFirst_55 : Cond.fieldLink RX3 55 (TX3 10).1 (TX3 10).2.1 (TX3 10).2.2.1 ∈ wsX3_findFirst := by decide +kernel
theorem lX3_findFirst_58 : Cond.fieldLink RX3 58 (TX3 11).1 (TX3 11).2.1 (TX3 11).2.2.1 ∈ wsX3_findFirst := by decide +kernel
theorem iX3_findFirst_X3 : ∀ w ∈ u_ws RX3 TX3 13, w ∈ wsX3_findFirst := by decide +kernel
set_option maxHeartbeats 4000000 in
set_option maxRecDepth 100000 in
theorem k_X3_findFirst (E : gE) (l : Launch) {a_L a_P a_R a_fi a_hs a_jl a_ly a_pc a_se a_sh a_tn a_us a_wa : Nat} {W h n : Int} {hs se pc tn sh fi wa us ly : Int → Int} {jo fo sp fd tc : Int} {jl : Int → Int} (hB : 1 ≤ W ∧ W ≤ 5 ∧ 1 ≤ h ∧ h ≤ 5) (hse : ∀ p e : Int, 0 ≤ p ∧ p < W * h → 0 ≤ e ∧ e < 4 → se (p * 4 + e) = sdI W h p e) (hh : hB9 hs) (hn : 0 ≤ n ∧ n ≤ 25) (hpw : ∀ j : Int, 0 ≤ j ∧ j < n → (0 ≤ pc j ∧ pc j < W * h) ∧ 0 ≤ tn j ∧ tn j < 4) : gMet E l yX3_findFirst wsX3_findFirst { frames := 41, cells := 0, slots := 0, locals := 1322 } 0 0 [.ref a_R] [(a_R, .inr (3, [.ref a_P, .ref a_L, .ref a_sh, .ref a_fi, .ref a_wa, .ref a_us, .ref a_ly, .ref a_jl, .int (iI jo), .int (iI fo), .int (iI sp), .int (iI fd), .int (iI tc)])), (a_P, .inr (1, [.ref a_hs, .ref a_se, .int (iI W), .int (iI h)])), (a_hs, aI E 200 hs), (a_se, aI E 100 se), (a_L, .inr (2, [.ref a_pc, .ref a_tn, .int (iI n)])), (a_pc, aI E 25 pc), (a_tn, aI E 25 tn), (a_sh, aI E 400 sh), (a_fi, aI E 400 fi), (a_wa, aI E 100 wa), (a_us, aZ E 25 us), (a_ly, aI E 25 ly), (a_jl, aI E 25 jl)] (fun v w => ∃ (sh2 fi2 wa2 us2 ly2 : Int → Int) (sp2 fd2 tc2 : Int) (r jo2 : Int) (jl2 : Int → Int), (v = some (.int (iI r)) ∧ runR (FT W h hs pc tn) n (W * h) 1 ly2 sp2 fd2 tc2 ∧ ((sp2 = 1 ∧ r = -6 ∧ jo2 = jo ∧ jl2 = jl) ∨ (sp2 = 0 ∧ r = 0 ∧ fd2 = 0 ∧ jo2 = 0 ∧ jl2 = jl) ∨ (sp2 = 0 ∧ r = 1 ∧ fd2 = 1 ∧ jo2 = 1 ∧ ∀ j : Int, 0 ≤ j ∧ j < W * h → jl2 j = ly2 j))) ∧ w = [(a_R, .inr (3, [.ref a_P, .ref a_L, .ref a_sh, .ref a_fi, .ref a_wa, .ref a_us, .ref a_ly, .ref a_jl, .int (iI jo2), .int (iI 1), .int (iI sp2), .int (iI fd2), .int (iI tc2)])), (a_P, .inr (1, [.ref a_hs, .ref a_se, .int (iI W), .int (iI h)])), (a_hs, aI E 200 hs), (a_se, aI E 100 se), (a_L, .inr (2, [.ref a_pc, .ref a_tn, .int (iI n)])), (a_pc, aI E 25 pc), (a_tn, aI E 25 tn), (a_sh, aI E 400 sh2), (a_fi, aI E 400 fi2), (a_wa, aI E 100 wa2), (a_us, aZ E 25 us2), (a_ly, aI E 25 ly2), (a_jl, aI E 25 jl2)]) := by
  refine g_start (cc := cX3_findFirst) (maxL := 2) (ret := (some .int)) (by decide) rfl (Nat.le_of_ble_eq_true rfl) ?_
  intro p_ e_ s_ m_ args_ below_ meth_ c_ A_ C hr hnm
  have hn := nsd_b hB
  refine g_aload_n 1 C 0 dX3_findFirst_0 rfl rfl ?_
  refine g_iconst 2 C dX3_findFirst_1 rfl ?_
  refine g_callV 5 C [0, 1, 2, 3, 4, 5, 6, 7, 8, 9, 10, 11] dX3_findFirst_2 rfl (k_X3_run E l  (by first | assumption | omega) (by first | assumption | omega) (by first | assumption | omega) (by first | assumption | omega) (by first | assumption | omega) (by omega)) (cwV 1 C.2.2.2.2.1 gX3_findFirst_X3_run rfl rfl rfl cdX3_run ⟨Nat.le_of_ble_eq_true rfl, Nat.le_of_ble_eq_true rfl⟩) rfl rfl rfl rfl (Nat.le_of_ble_eq_true rfl) 0 3 rfl rfl rfl ⟨Nat.le_of_ble_eq_true rfl, Nat.le_of_ble_eq_true rfl⟩ (fun v w q => by obtain ⟨_, _, _, _, _, _, _, _, -, rfl⟩ := q; rfl) ?_
  rintro _ _ ⟨sh2, fi2, wa2, us2, ly2, sp2, fd2, tc2, ⟨rfl, hR⟩, rfl⟩
  refine g_w (ws' := [(_, .inr (3, [_, _, _, _, _, _, _, _, _, _, _, _, _])), (_, .inr (1, [_, _, _, _])), (_, aI _ _ _), (_, aI _ _ _), (_, .inr (2, [_, _, _])), (_, aI _ _ _), (_, aI _ _ _), (_, aI _ _ _), (_, aI _ _ _), (_, aI _ _ _), (_, aZ _ _ _), (_, aI _ _ _), (_, aI _ _ _)]) [0] rfl rfl ?_
  refine g_aload_n 6 C 0 dX3_findFirst_5 rfl rfl ?_
  refine g_get 9 C 0 10 3 iX3_findFirst_X3 lX3_findFirst_55 dX3_findFirst_6 rfl rfl rfl (by decide) rfl ?_
  have hs2 := runR_sp hR
  refine g_if_eq 15 12 C dX3_findFirst_9 (by decide) rfl (by omega) ?_ ?_
  · intro h9
    refine g_aload_n 16 C 0 dX3_findFirst_15 rfl rfl ?_
    refine g_aload_n 17 C 0 dX3_findFirst_16 rfl rfl ?_
    have hs3 := runR_fd hR (by omega)
    refine g_get 20 C 0 11 3 iX3_findFirst_X3 lX3_findFirst_58 dX3_findFirst_17 rfl rfl rfl (by decide) rfl ?_
    refine g_if_le 27 23 C dX3_findFirst_20 (by decide) rfl (by omega) ?_ ?_
    · intro h20
      refine g_iconst 28 C dX3_findFirst_27 rfl ?_
      refine g_put (ws' := [(_, .inr (3, [_, _, _, _, _, _, _, _, _, _, _, _, _])), (_, .inr (1, [_, _, _, _])), (_, aI _ _ _), (_, aI _ _ _), (_, .inr (2, [_, _, _])), (_, aI _ _ _), (_, aI _ _ _), (_, aI _ _ _), (_, aI _ _ _), (_, aI _ _ _), (_, aZ _ _ _), (_, aI _ _ _), (_, aI _ _ _)]) 31 C 0 8 3 tyX3 tyX3_ok nmX3 iX3_findFirst_X3 lX3_findFirst_43 dX3_findFirst_28 rfl rfl rfl (by decide) rfl (by decide) rfl (Nat.le_of_ble_eq_true rfl) rfl ?_
      refine g_iconst 32 C dX3_findFirst_31 rfl ?_
      refine g_istore_n (lv' := [(1, _), (0, _)]) 33 C dX3_findFirst_32 rfl rfl (by decide) rfl ?_
      refine g_aload_n 34 C 1 dX3_findFirst_33 rfl rfl ?_
      refine g_get 37 C 0 8 3 iX3_findFirst_X3 lX3_findFirst_43 dX3_findFirst_34 rfl rfl rfl (by decide) rfl ?_
      refine g_if_eq 73 40 C dX3_findFirst_37 (by decide) rfl (by omega) ?_ (fun q => absurd q (by omega))
      intro _
      refine g_aload_n 74 C 1 dX3_findFirst_73 rfl rfl ?_
      refine g_get 77 C 0 11 3 iX3_findFirst_X3 lX3_findFirst_58 dX3_findFirst_74 rfl rfl rfl (by decide) rfl ?_
      exact g_iret C hr dX3_findFirst_77 ⟨_, _, _, _, _, _, _, _, fd2, _, _, ⟨rfl, hR, Or.inr (Or.inl ⟨by omega, by omega, by omega, rfl, rfl⟩)⟩, rfl⟩
    · intro h20
      refine g_iconst 24 C dX3_findFirst_23 rfl ?_
      refine g_goto 28 C dX3_findFirst_24 (by decide) ?_
      refine g_put (ws' := [(_, .inr (3, [_, _, _, _, _, _, _, _, _, _, _, _, _])), (_, .inr (1, [_, _, _, _])), (_, aI _ _ _), (_, aI _ _ _), (_, .inr (2, [_, _, _])), (_, aI _ _ _), (_, aI _ _ _), (_, aI _ _ _), (_, aI _ _ _), (_, aI _ _ _), (_, aZ _ _ _), (_, aI _ _ _), (_, aI _ _ _)]) 31 C 0 8 3 tyX3 tyX3_ok nmX3 iX3_findFirst_X3 lX3_findFirst_43 dX3_findFirst_28 rfl rfl rfl (by decide) rfl (by decide) rfl (Nat.le_of_ble_eq_true rfl) rfl ?_
      refine g_iconst 32 C dX3_findFirst_31 rfl ?_
      refine g_istore_n (lv' := [(1, _), (0, _)]) 33 C dX3_findFirst_32 rfl rfl (by decide) rfl ?_
      refine g_loop (α := (Int → Int) × Int) (fun zz => [(a_R, .inr (3, [.ref a_P, .ref a_L, .ref a_sh, .ref a_fi, .ref a_wa, .ref a_us, .ref a_ly, .ref a_jl, .int (iI 1), .int (iI 1), .int (iI sp2), .int (iI fd2), .int (iI tc2)])), (a_P, .inr (1, [.ref a_hs, .ref a_se, .int (iI W), .int (iI h)])), (a_hs, aI E 200 hs), (a_se, aI E 100 se), (a_L, .inr (2, [.ref a_pc, .ref a_tn, .int (iI n)])), (a_pc, aI E 25 pc), (a_tn, aI E 25 tn), (a_sh, aI E 400 sh2), (a_fi, aI E 400 fi2), (a_wa, aI E 100 wa2), (a_us, aZ E 25 us2), (a_ly, aI E 25 ly2), (a_jl, aI E 25 zz.1)]) (fun zz => [(1, .int (iI zz.2)), (0, .ref a_R)]) (fun zz => (0 ≤ zz.2 ∧ zz.2 ≤ W * h) ∧ ∀ j : Int, 0 ≤ j ∧ j < zz.2 → zz.1 j = ly2 j) (fun zz => (W * h - zz.2).toNat) (jl, 0) (by
            try dsimp only
            exact ⟨by omega, fun j hj => by omega⟩) [0, 1] rfl rfl ?_
      rintro ⟨f, z⟩ hI ih33
      try dsimp only at hI ih33 ⊢
      obtain ⟨hz, hf⟩ := hI
      refine g_aload_n 34 C 1 dX3_findFirst_33 rfl rfl ?_
      refine g_get 37 C 0 8 3 iX3_findFirst_X3 lX3_findFirst_43 dX3_findFirst_34 rfl rfl rfl (by decide) rfl ?_
      refine g_if_eq 73 40 C dX3_findFirst_37 (by decide) rfl (by omega) (fun q => absurd q (by omega)) ?_
      intro _
      refine g_iload_n 41 C 0 dX3_findFirst_40 rfl rfl ?_
      refine g_aload_n 42 C 1 dX3_findFirst_41 rfl rfl ?_
      refine g_get 45 C 0 0 3 iX3_findFirst_X3 lX3_findFirst_31 dX3_findFirst_42 rfl rfl rfl (by decide) rfl ?_
      refine g_callVF 48 C [1] dX3_findFirst_45 rfl (k_X1_pieces E l  ) (cwV 0 C.2.2.2.2.1 gX3_findFirst_X1_pieces rfl rfl rfl cdX1_pieces ⟨Nat.le_of_ble_eq_true rfl, Nat.le_of_ble_eq_true rfl⟩) rfl rfl rfl rfl (Nat.le_of_ble_eq_true rfl) 1 1 rfl rfl rfl ⟨Nat.le_of_ble_eq_true rfl, Nat.le_of_ble_eq_true rfl⟩ ?_
      refine g_icmp_ge 73 51 C dX3_findFirst_48 (by decide) rfl (by omega) ?_ ?_
      · intro h48
        refine g_aload_n 74 C 1 dX3_findFirst_73 rfl rfl ?_
        refine g_get 77 C 0 11 3 iX3_findFirst_X3 lX3_findFirst_58 dX3_findFirst_74 rfl rfl rfl (by decide) rfl ?_
        exact g_iret C hr dX3_findFirst_77 ⟨_, _, _, _, _, _, _, _, fd2, _, _, ⟨rfl, hR, Or.inr (Or.inr ⟨by omega, by omega, by omega, rfl, fun j hj => hf j (by omega)⟩)⟩, rfl⟩
      · intro h48
        refine g_aload_n 52 C 1 dX3_findFirst_51 rfl rfl ?_
        refine g_get 55 C 0 7 3 iX3_findFirst_X3 lX3_findFirst_28 dX3_findFirst_52 rfl rfl rfl (by decide) rfl ?_
        refine g_iload_n 56 C 0 dX3_findFirst_55 rfl rfl ?_
        refine g_aload_n 57 C 1 dX3_findFirst_56 rfl rfl ?_
        refine g_get 60 C 0 6 3 iX3_findFirst_X3 lX3_findFirst_25 dX3_findFirst_57 rfl rfl rfl (by decide) rfl ?_
        refine g_iload_n 61 C 0 dX3_findFirst_60 rfl rfl ?_
        refine g_callSF 64 C [11] dX3_findFirst_61 rfl (k_X3_look E l  (by first | assumption | omega) (by first | assumption | omega)) (va_cwS 2 C.2.2.2.2.1 gX3_findFirst_X3_look rfl rfl rfl cdX3_look ⟨Nat.le_of_ble_eq_true rfl, Nat.le_of_ble_eq_true rfl⟩) rfl rfl rfl rfl (Nat.le_of_ble_eq_true rfl) ⟨Nat.le_of_ble_eq_true rfl, Nat.le_of_ble_eq_true rfl⟩ ?_
        refine g_callSU (ws' := [(_, .inr (3, [_, _, _, _, _, _, _, _, _, _, _, _, _])), (_, .inr (1, [_, _, _, _])), (_, aI _ _ _), (_, aI _ _ _), (_, .inr (2, [_, _, _])), (_, aI _ _ _), (_, aI _ _ _), (_, aI _ _ _), (_, aI _ _ _), (_, aI _ _ _), (_, aZ _ _ _), (_, aI _ _ _), (_, aI _ _ _)]) 67 C [12] dX3_findFirst_64 rfl (k_X3_note E l  (by first | assumption | omega) (by first | assumption | omega)) (va_cwS 3 C.2.2.2.2.1 gX3_findFirst_X3_note rfl rfl rfl cdX3_note ⟨Nat.le_of_ble_eq_true rfl, Nat.le_of_ble_eq_true rfl⟩) rfl rfl rfl rfl (Nat.le_of_ble_eq_true rfl) ⟨Nat.le_of_ble_eq_true rfl, Nat.le_of_ble_eq_true rfl⟩ rfl rfl ?_
        refine g_iinc (lv' := [(1, _), (0, _)]) 70 C 0 dX3_findFirst_67 rfl rfl (by decide) rfl ?_
        refine g_goto 33 C dX3_findFirst_70 (by decide) ?_
        exact g_w [0, 1] rfl rfl (ih33 ((uI f z (ly2 z)), (z + 1)) (by
            try dsimp only
            exact ⟨by omega, fun j hj => by
              by_cases e : j = z
              · rw [e, uI_eq]
              · rw [uI_ne e]; exact hf j (by omega)⟩) (by (try dsimp only); omega))
  · intro h9
    refine g_bipush 14 C dX3_findFirst_12 rfl (by decide) ?_
    exact g_iret C hr dX3_findFirst_14 ⟨_, _, _, _, _, _, _, _, -6, _, _, ⟨rfl, hR, Or.inl ⟨by omega, rfl, rfl, rfl⟩⟩, rfl⟩
