def lF4 (a b c d : Nat) : Int → Nat := fun k => if k = 0 then a else if k = 1 then b else if k = 2 then c else d
theorem lF4_q {a b c d : Nat} {f : Int → Option Nat} : ∀ j : Int, 0 ≤ j ∧ j < 4 → uQ (uQ (uQ (uQ f 0 (some a)) 1 (some b)) 2 (some c)) 3 (some d) j = some (lF4 a b c d j) := fun j hj => by
  rcases (show j = 0 ∨ j = 1 ∨ j = 2 ∨ j = 3 by omega) with h | h | h | h <;> rw [h] <;> rfl
theorem lS0 : lshI (fun _ => 0) (fun _ => 0) (fun _ => 0) (fun _ _ => 0) (uI (uI (uI (uI (fun _ => 0) 0 (-1)) 1 (-1)) 2 (-1)) 3 (-1)) (fun _ => 0) (fun _ => 0) := by
  have e : ∀ j : Int, 0 ≤ j ∧ j < 4 → uI (uI (uI (uI (fun _ => 0) 0 (-1)) 1 (-1)) 2 (-1)) 3 (-1) j = -1 := fun j hj => by
    rcases (show j = 0 ∨ j = 1 ∨ j = 2 ∨ j = 3 by omega) with h | h | h | h <;> rw [h] <;> rfl
  refine ⟨fun j hj => ?_, fun j hj => ?_, fun j c => by dsimp only; omega, fun c => by dsimp only; omega⟩
  · rw [e j hj]; dsimp only; omega
  · rw [e j hj]; exact ⟨rfl, rfl, rfl, fun c hc => by omega⟩
theorem b9_0 : hB9 (fun _ => 0) := fun j => by dsimp only; omega
theorem zr_00 : zrI (fun _ => 0) 200 = fun _ => 0 := by
  funext j
  unfold zrI
  split <;> rfl
set_option maxHeartbeats 4000000 in
set_option maxRecDepth 100000 in
theorem law_start {p : Program} {e : Env} {s : State} {m : MethodId} {below : List Frame} {meth : Method} {c : Code} {l : Launch} {b L : Nat} {xs : Nat → Int32} {E : gE} (D : lC p s m meth c b L xs E) (NW : gNw s) : lJ p l e s m below meth c b 0 0 E [] [(0, .ref b)] 0 [] := by
  have C := D.1
  refine g_new 3 C 5 [.null, .null, .null, .null, .null, .int (iI 0), .int (iI 0)] tyX5 tyX5_ok inlX5 lL_law_7 dL_law_0 rfl rfl (fun j hj => by rcases (show j = 0 ∨ j = 1 ∨ j = 2 ∨ j = 3 ∨ j = 4 ∨ j = 5 ∨ j = 6 by omega) with rfl | rfl | rfl | rfl | rfl | rfl | rfl <;> rfl) (Nat.le_of_ble_eq_true rfl) (Nat.le_of_ble_eq_true rfl) ?_
  intro a_X
  refine g_w (ws' := [(_, .inr (5, [_, _, _, _, _, _, _]))]) [0] rfl rfl ?_
  refine g_dup 4 C dL_law_3 rfl rfl ?_
  have q9 := lL_law_9
  refine g_callIq (wr := []) 7 C NW [0] [] dL_law_4 rfl (k_X5_init E l) (cwI 0 C.2.2.2.2.1 gL_law_X5_init rfl rfl rfl (C.2.2.2.2.1 _ q9.1) (C.2.2.2.2.1 _ q9.2.1) (C.2.2.2.2.1 _ q9.2.2) rfl cdX5_init ⟨(Nat.le_of_ble_eq_true rfl), (Nat.le_of_ble_eq_true rfl)⟩) rfl rfl rfl rfl rfl (by decide) rfl (Nat.le_of_ble_eq_true rfl) ⟨(Nat.le_of_ble_eq_true rfl), (Nat.le_of_ble_eq_true rfl)⟩ ?_
  rintro _ _ ⟨a_P, a_hs, a_se, a_L, a_pc, a_tn, a_R, a_sh, a_fi, a_wa, a_us, a_ly, a_jl, a_D, a_Q, a_S0, a_ce0, a_S1, a_ce1, a_S2, a_ce2, a_S3, a_ce3, f5, ⟨rfl, hse⟩, rfl⟩
  refine g_w (ws' := ((_, .inr (5, [_, _, _, _, _, _, _])) :: (_, .inr (1, [_, _, _, _])) :: (_, aI _ _ _) :: (_, aI _ _ _) :: (_, .inr (2, [_, _, _])) :: (_, aI _ _ _) :: (_, aI _ _ _) :: (_, .inr (3, [_, _, _, _, _, _, _, _, _, _, _, _, _])) :: (_, aI _ _ _) :: (_, aI _ _ _) :: (_, aI _ _ _) :: (_, aZ _ _ _) :: (_, aI _ _ _) :: (_, aI _ _ _) :: (_, .inr (0, [_])) :: (_, aQ _ _ _) :: (_, .inr (4, [_, _, _, _])) :: (_, aI _ _ _) :: (_, .inr (4, [_, _, _, _])) :: (_, aI _ _ _) :: (_, .inr (4, [_, _, _, _])) :: (_, aI _ _ _) :: (_, .inr (4, [_, _, _, _])) :: (_, aI _ _ _) :: [])) [0] rfl rfl ?_
  refine g_astore_n (lv' := [(1, _), (0, _)]) 8 C dL_law_7 rfl rfl (by decide) rfl ?_
  refine g_new 11 C 6 [.int (iI 0), .int (iI 0), .int (iI 0), .null, .long 0, .int (iI 0), .int (iI 0), .int (iI 0), .null, .null, .int (iI 0), .int (iI 0), .null, .null, .null, .int (iI 0), .null, .null, .null, .null, .null, .null, .int (iI 0)] tyX6 tyX6_ok inlX6 lL_law_10 dL_law_8 rfl rfl (fun j hj => by rcases (show j = 0 ∨ j = 1 ∨ j = 2 ∨ j = 3 ∨ j = 4 ∨ j = 5 ∨ j = 6 ∨ j = 7 ∨ j = 8 ∨ j = 9 ∨ j = 10 ∨ j = 11 ∨ j = 12 ∨ j = 13 ∨ j = 14 ∨ j = 15 ∨ j = 16 ∨ j = 17 ∨ j = 18 ∨ j = 19 ∨ j = 20 ∨ j = 21 ∨ j = 22 by omega) with rfl | rfl | rfl | rfl | rfl | rfl | rfl | rfl | rfl | rfl | rfl | rfl | rfl | rfl | rfl | rfl | rfl | rfl | rfl | rfl | rfl | rfl | rfl <;> rfl) (Nat.le_of_ble_eq_true rfl) (Nat.le_of_ble_eq_true rfl) ?_
  intro a_M
  refine g_w (ws' := ((_, .inr (5, [_, _, _, _, _, _, _])) :: (_, .inr (1, [_, _, _, _])) :: (_, aI _ _ _) :: (_, aI _ _ _) :: (_, .inr (2, [_, _, _])) :: (_, aI _ _ _) :: (_, aI _ _ _) :: (_, .inr (3, [_, _, _, _, _, _, _, _, _, _, _, _, _])) :: (_, aI _ _ _) :: (_, aI _ _ _) :: (_, aI _ _ _) :: (_, aZ _ _ _) :: (_, aI _ _ _) :: (_, aI _ _ _) :: (_, .inr (0, [_])) :: (_, aQ _ _ _) :: (_, .inr (4, [_, _, _, _])) :: (_, aI _ _ _) :: (_, .inr (4, [_, _, _, _])) :: (_, aI _ _ _) :: (_, .inr (4, [_, _, _, _])) :: (_, aI _ _ _) :: (_, .inr (4, [_, _, _, _])) :: (_, aI _ _ _) :: (_, .inr (6, [_, _, _, _, _, _, _, _, _, _, _, _, _, _, _, _, _, _, _, _, _, _, _])) :: [])) [0, 1] rfl rfl ?_
  refine g_dup 12 C dL_law_11 rfl rfl ?_
  have q12 := lL_law_12
  refine g_callIN (wr := ((_, .inr (5, [_, _, _, _, _, _, _])) :: (_, .inr (1, [_, _, _, _])) :: (_, aI _ _ _) :: (_, aI _ _ _) :: (_, .inr (2, [_, _, _])) :: (_, aI _ _ _) :: (_, aI _ _ _) :: (_, .inr (3, [_, _, _, _, _, _, _, _, _, _, _, _, _])) :: (_, aI _ _ _) :: (_, aI _ _ _) :: (_, aI _ _ _) :: (_, aZ _ _ _) :: (_, aI _ _ _) :: (_, aI _ _ _) :: (_, .inr (0, [_])) :: (_, aQ _ _ _) :: (_, .inr (4, [_, _, _, _])) :: (_, aI _ _ _) :: (_, .inr (4, [_, _, _, _])) :: (_, aI _ _ _) :: (_, .inr (4, [_, _, _, _])) :: (_, aI _ _ _) :: (_, .inr (4, [_, _, _, _])) :: (_, aI _ _ _) :: [])) 15 C [24] [0, 1, 2, 3, 4, 5, 6, 7, 8, 9, 10, 11, 12, 13, 14, 15, 16, 17, 18, 19, 20, 21, 22, 23] dL_law_12 rfl (k_X6_init E l) (cwI 0 C.2.2.2.2.1 gL_law_X6_init rfl rfl rfl (C.2.2.2.2.1 _ q12.1) (C.2.2.2.2.1 _ q12.2.1) (C.2.2.2.2.1 _ q12.2.2) rfl cdX6_init ⟨(Nat.le_of_ble_eq_true rfl), (Nat.le_of_ble_eq_true rfl)⟩) rfl rfl rfl rfl rfl (by decide) rfl (Nat.le_of_ble_eq_true rfl) ⟨(Nat.le_of_ble_eq_true rfl), (Nat.le_of_ble_eq_true rfl)⟩ ?_
  rintro _ _ ⟨a_Mh, a_Mp, a_Mt, a_Ma, a_Mu, a_Mi, a_Mx, a_My, a_Ms, a_Ml, a_Mc, a_Mg, rfl, rfl⟩
  refine g_w (ws' := ((_, .inr (5, [_, _, _, _, _, _, _])) :: (_, .inr (1, [_, _, _, _])) :: (_, aI _ _ _) :: (_, aI _ _ _) :: (_, .inr (2, [_, _, _])) :: (_, aI _ _ _) :: (_, aI _ _ _) :: (_, .inr (3, [_, _, _, _, _, _, _, _, _, _, _, _, _])) :: (_, aI _ _ _) :: (_, aI _ _ _) :: (_, aI _ _ _) :: (_, aZ _ _ _) :: (_, aI _ _ _) :: (_, aI _ _ _) :: (_, .inr (0, [_])) :: (_, aQ _ _ _) :: (_, .inr (4, [_, _, _, _])) :: (_, aI _ _ _) :: (_, .inr (4, [_, _, _, _])) :: (_, aI _ _ _) :: (_, .inr (4, [_, _, _, _])) :: (_, aI _ _ _) :: (_, .inr (4, [_, _, _, _])) :: (_, aI _ _ _) :: (_, .inr (6, [_, _, _, _, _, _, _, _, _, _, _, _, _, _, _, _, _, _, _, _, _, _, _])) :: (_, aI _ _ _) :: (_, aI _ _ _) :: (_, aI _ _ _) :: (_, aI _ _ _) :: (_, aI _ _ _) :: (_, aZ _ _ _) :: (_, aI _ _ _) :: (_, aI _ _ _) :: (_, aI _ _ _) :: (_, aI _ _ _) :: (_, aI _ _ _) :: (_, aI _ _ _) :: [])) [0, 1] rfl rfl ?_
  refine g_astore_n (lv' := [(2, _), (1, _), (0, _)]) 16 C dL_law_15 rfl rfl (by decide) rfl ?_
  refine g_iconst 17 C dL_law_16 rfl ?_
  refine g_istore_n (lv' := [(3, _), (2, _), (1, _), (0, _)]) 18 C dL_law_17 rfl rfl (by decide) rfl ?_
  refine g_perm (ws' := ((_, .inr (5, [_, _, _, _, _, _, _])) :: (_, .inr (1, [_, _, _, _])) :: (_, aI _ _ _) :: (_, aI _ _ _) :: (_, .inr (2, [_, _, _])) :: (_, aI _ _ _) :: (_, aI _ _ _) :: (_, .inr (3, [_, _, _, _, _, _, _, _, _, _, _, _, _])) :: (_, aI _ _ _) :: (_, aI _ _ _) :: (_, aI _ _ _) :: (_, aZ _ _ _) :: (_, aI _ _ _) :: (_, aI _ _ _) :: (_, .inr (0, [_])) :: (_, aQ _ _ _) :: (_, .inr (6, [_, _, _, _, _, _, _, _, _, _, _, _, _, _, _, _, _, _, _, _, _, _, _])) :: (_, aI _ _ _) :: (_, aI _ _ _) :: (_, aI _ _ _) :: (_, aI _ _ _) :: (_, aI _ _ _) :: (_, aZ _ _ _) :: (_, aI _ _ _) :: (_, aI _ _ _) :: (_, aI _ _ _) :: (_, aI _ _ _) :: (_, aI _ _ _) :: (_, aI _ _ _) :: (_, .inr (4, [_, _, _, _])) :: (_, aI _ _ _) :: (_, .inr (4, [_, _, _, _])) :: (_, aI _ _ _) :: (_, .inr (4, [_, _, _, _])) :: (_, aI _ _ _) :: (_, .inr (4, [_, _, _, _])) :: (_, aI _ _ _) :: [])) [0, 1, 2, 3, 4, 5, 6, 7, 8, 9, 10, 11, 12, 13, 14, 15, 24, 25, 26, 27, 28, 29, 30, 31, 32, 33, 34, 35, 36, 16, 17, 18, 19, 20, 21, 22, 23] rfl rfl ?_
  refine g_w (lv' := [(0, _), (1, _), (2, _), (3, _)]) [3, 2, 1, 0] rfl rfl ?_
  rw [zr_00]
  exact law_loop (aS := lF4 a_S0 a_S1 a_S2 a_S3) (aC := lF4 a_ce0 a_ce1 a_ce2 a_ce3) (TH := fun _ => 0) (LN := fun _ => 0) (SZ := fun _ => 0) (CE := fun _ _ => 0) D lF4_q (L + 1) (i := 0) (by omega) (by omega) ⟨by omega, by omega, by omega, by omega⟩ b9_0 hse (by omega) (fun j hj => by omega) (Or.inl rfl) (fun q => absurd q (by decide)) lS0
theorem whole_start {p : Program} {e : Env} {s : State} {m : MethodId} {below : List Frame} {meth : Method} {c : Code} (l : Launch) (hflags : l.flags = flags0) {b L : Nat} {xs : Nat → Int32} (hL : L ≤ 3072) (C0 : lw_At p s m meth c b L xs) : W p l e room_1 s m #[Value.ref b] below meth c s.heap [] 0 0 (lw_Z below #[Value.ref b] s) (entryFrame m ([Value.ref b] : List Value).toArray 4) := by
  obtain ⟨E, D, NW⟩ := law_known hL C0
  have hJ := law_start (e := e) (l := l) (below := below) D NW
  rw [lg_entry_eq]
  exact hJ s.heap [] _ (fun k q h => by simp at h) ⟨fun i j p q h => by simp at h, fun k q h => by simp at h⟩ va_S.rf (lv_entry [.ref b] (n := 4) (Nat.le_of_ble_eq_true rfl))
