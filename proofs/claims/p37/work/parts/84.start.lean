theorem lL_law_22 : Cond.initialized yX5_init.cls ∈ wsL_law ∧ Cond.methodLink RL 22 yX5_init ∈ wsL_law ∧ Cond.instanceMethod yX5_init ∈ wsL_law := ⟨(List.mem_of_getElem? (i := 2) (by decide +kernel)), (List.mem_of_getElem? (i := 7) (by decide +kernel)), (List.mem_of_getElem? (i := 8) (by decide +kernel))⟩
theorem lL_law_10 : ∀ w ∈ ([Cond.classLink RL 10 RX5, Cond.instantiable RX5 7, Cond.initialized RX5] : List Cond), w ∈ wsL_law := List.forall_mem_cons.mpr ⟨(List.mem_of_getElem? (i := 0) (by decide +kernel)), List.forall_mem_cons.mpr ⟨(List.mem_of_getElem? (i := 1) (by decide +kernel)), List.forall_mem_cons.mpr ⟨(List.mem_of_getElem? (i := 2) (by decide +kernel)), fun _ h => absurd h List.not_mem_nil⟩⟩⟩
theorem cdX5_init : yX5_init.cls ≠ "java/lang/invoke/MethodHandle" ∧ yX5_init.cls ≠ "java/lang/invoke/VarHandle" ∧ (parseMethodDescriptor yX5_init.desc).map (fun d => d.parameters.length) = some 0 := by decide +kernel
theorem tbI0 : Cond.instantiable RX0 1 ∈ lw_tbl := List.mem_of_getElem? (i := 124) (by decide +kernel)
theorem tbI1 : Cond.instantiable RX1 4 ∈ lw_tbl := List.mem_of_getElem? (i := 29) (by decide +kernel)
theorem tbI2 : Cond.instantiable RX2 3 ∈ lw_tbl := List.mem_of_getElem? (i := 61) (by decide +kernel)
theorem tbI3 : Cond.instantiable RX3 13 ∈ lw_tbl := List.mem_of_getElem? (i := 77) (by decide +kernel)
theorem tbI4 : Cond.instantiable RX4 4 ∈ lw_tbl := List.mem_of_getElem? (i := 135) (by decide +kernel)
theorem tbI5 : Cond.instantiable RX5 7 ∈ lw_tbl := List.mem_of_getElem? (i := 21) (by decide +kernel)
theorem tbA0 : Cond.arrayClass .int ∈ lw_tbl := List.mem_of_getElem? (i := 59) (by decide +kernel)
theorem tbA1 : Cond.arrayClass .boolean ∈ lw_tbl := List.mem_of_getElem? (i := 122) (by decide +kernel)
theorem tbA2 : Cond.arrayOver (.object RX4) ∈ lw_tbl := List.mem_of_getElem? (i := 134) (by decide +kernel)
theorem tbN20 : Cond.methodLinkNest RX5 20 yX2_init RX5 ∈ lw_tbl := List.mem_of_getElem? (i := 62) (by decide +kernel)
theorem tbN36 : Cond.methodLinkNest RX5 36 yX0_init RX5 ∈ lw_tbl := List.mem_of_getElem? (i := 125) (by decide +kernel)
theorem tbN47 : Cond.methodLinkNest RX5 47 yX4_init RX5 ∈ lw_tbl := List.mem_of_getElem? (i := 136) (by decide +kernel)
set_option maxHeartbeats 4000000 in
theorem law_known {p : Program} {s : State} {m : MethodId} {meth : Method} {c : Code} {b L : Nat} {xs : Nat → Int32} (hL : L ≤ 260) (C0 : lw_At p s m meth c b L xs) : ∃ E : gE, lC p s m meth c b L xs E ∧ gNw s := by
  obtain ⟨hx, hb, hr, hml, hown, hts, hX, hbl, hlocks, hgv⟩ := C0
  obtain ⟨c0, i0, hK0⟩ := u_known (C := RX0) (T := TX0) (N := 1) (n := 1) hts jX0 (hts _ tbI0)
  obtain ⟨c1, i1, hK1⟩ := u_known (C := RX1) (T := TX1) (N := 4) (n := 4) hts jX1 (hts _ tbI1)
  obtain ⟨c2, i2, hK2⟩ := u_known (C := RX2) (T := TX2) (N := 3) (n := 3) hts jX2 (hts _ tbI2)
  obtain ⟨c3, i3, hK3⟩ := u_known (C := RX3) (T := TX3) (N := 13) (n := 13) hts jX3 (hts _ tbI3)
  obtain ⟨c4, i4, hK4⟩ := u_known (C := RX4) (T := TX4) (N := 4) (n := 4) hts jX4 (hts _ tbI4)
  obtain ⟨c5, i5, hK5⟩ := u_known (C := RX5) (T := TX5) (N := 7) (n := 7) hts jX5 (hts _ tbI5)
  obtain ⟨dC, dI, hKc⟩ : ∃ (dC : Nat → ClassId) (dI : Nat → Nat → Nat), ∀ (k : Nat) (q : vw_C), vwCl[k]? = some q → u_Kn s q.1 q.2.1 q.2.2 (dC k) (dI k) := by
    refine ⟨fun k => if k = 0 then c0 else if k = 1 then c1 else if k = 2 then c2 else if k = 3 then c3 else if k = 4 then c4 else c5, fun k => if k = 0 then i0 else if k = 1 then i1 else if k = 2 then i2 else if k = 3 then i3 else if k = 4 then i4 else i5, ?_⟩
    intro k q hq
    match k, hq with
    | 0, hq => cases hq; exact hK0
    | 1, hq => cases hq; exact hK1
    | 2, hq => cases hq; exact hK2
    | 3, hq => cases hq; exact hK3
    | 4, hq => cases hq; exact hK4
    | 5, hq => cases hq; exact hK5
    | k + 6, hq => simp [vwCl] at hq
  obtain ⟨cI, kI, pI, fI, gI, tI⟩ := Cond.arrayClass_spec (hts _ tbA0)
  obtain ⟨cZ, kZ, pZ, fZ, gZ, tZ⟩ := Cond.arrayClass_spec (hts _ tbA1)
  obtain ⟨pQ, cQ, kQ, fQ, -, gQ, tQ, nQ⟩ := Cond.arrayOver_spec (hts _ tbA2)
  refine ⟨((dC, dI), cI, cZ, cQ), ⟨⟨hx, hb, hml, hown, fun w hw => hts w (wsL_law_in w hw), ⟨⟨hKc, ?_⟩, va_AO.of (hts _ tbA2)⟩, fun q h => h, hlocks⟩, hX, hbl, hr, hL⟩, va_Nw.of rfl (hts _ tbN20), va_Nw.of rfl (hts _ tbN36), va_Nw.of rfl (hts _ tbN47)⟩
  intro k q hq
  match k, hq with
  | 0, hq => cases hq; exact ⟨fun n z => ⟨fun k h => (by cases h), kI, gI, pI, tI⟩, fI⟩
  | 1, hq => cases hq; exact ⟨fun n z => ⟨fun k h => (by cases h), kZ, gZ, pZ, tZ⟩, fZ⟩
  | 2, hq => cases hq; exact ⟨fun n z => ⟨fun k h => (by cases h), kQ, gQ, pQ, tQ⟩, kQ, pQ, gQ, tQ, fQ, nQ⟩
  | k + 3, hq => simp [gTy] at hq
theorem b9_0 : hB9 (fun _ => 0) := fun j => by dsimp only; omega
set_option maxHeartbeats 4000000 in
set_option maxRecDepth 100000 in
theorem law_start {p : Program} {e : Env} {s : State} {m : MethodId} {below : List Frame} {meth : Method} {c : Code} {l : Launch} {b L : Nat} {xs : Nat → Int32} {E : gE} (D : lC p s m meth c b L xs E) (NW : gNw s) : lJ p l e s m below meth c b 0 0 E [] [(0, .ref b)] 0 [] := by
  have C := D.1
  refine g_new 3 C 5 [.null, .null, .null, .null, .null, .int (iI 0), .int (iI 0)] tyX5 tyX5_ok inlX5 lL_law_10 dL_law_0 rfl rfl (fun j hj => by rcases (show j = 0 ∨ j = 1 ∨ j = 2 ∨ j = 3 ∨ j = 4 ∨ j = 5 ∨ j = 6 by omega) with rfl | rfl | rfl | rfl | rfl | rfl | rfl <;> rfl) (Nat.le_of_ble_eq_true rfl) (Nat.le_of_ble_eq_true rfl) ?_
  intro a_X
  refine g_w (ws' := [(_, .inr (5, [_, _, _, _, _, _, _]))]) [0] rfl rfl ?_
  refine g_dup 4 C dL_law_3 rfl rfl ?_
  have q22 := lL_law_22
  refine g_callIq (wr := []) 7 C NW [0] [] dL_law_4 rfl (k_X5_init E l) (cwI 0 C.2.2.2.2.1 gL_law_X5_init rfl rfl rfl (C.2.2.2.2.1 _ q22.1) (C.2.2.2.2.1 _ q22.2.1) (C.2.2.2.2.1 _ q22.2.2) rfl cdX5_init ⟨(Nat.le_of_ble_eq_true rfl), (Nat.le_of_ble_eq_true rfl)⟩) rfl rfl rfl rfl rfl (by decide) rfl (Nat.le_of_ble_eq_true rfl) ⟨(Nat.le_of_ble_eq_true rfl), (Nat.le_of_ble_eq_true rfl)⟩ ?_
  rintro _ _ ⟨a_P, a_hs, a_se, a_L, a_pc, a_tn, a_R, a_sh, a_fi, a_wa, a_us, a_ly, a_jl, a_D, a_Q, a_S0, a_ce0, a_S1, a_ce1, a_S2, a_ce2, a_S3, a_ce3, f5, ⟨rfl, -⟩, rfl⟩
  refine g_perm (ws' := [(_, .inr (5, [_, _, _, _, _, _, _])), (_, .inr (1, [_, _, _, _])), (_, aI _ _ _), (_, aI _ _ _), (_, .inr (2, [_, _, _])), (_, aI _ _ _), (_, aI _ _ _), (_, .inr (3, [_, _, _, _, _, _, _, _, _, _, _, _, _])), (_, aI _ _ _), (_, aI _ _ _), (_, aI _ _ _), (_, aZ _ _ _), (_, aI _ _ _), (_, aI _ _ _), (_, .inr (0, [_]))]) [0, 1, 2, 3, 4, 5, 6, 7, 8, 9, 10, 11, 12, 13, 14] rfl rfl ?_
  refine g_astore_n (lv' := [(1, _), (0, _)]) 8 C dL_law_7 rfl rfl (by decide) rfl ?_
  refine g_w (lv' := [(0, _), (1, _)]) [1, 0] rfl rfl ?_
  refine g_widen (k := 100) (n := 3000) (Nat.le_of_ble_eq_true rfl) (Nat.le_of_ble_eq_true rfl) ?_
  have z9 : hB9 (zrI (fun _ => 0) 200) := zrI_b9 b9_0
  refine law_a D z9 ?_
  intro W h se hw hse
  refine law_b D hw hse (zrI_b9 z9) (fun j hj => if_pos hj) ?_
  intro hs2 now2 hh
  refine law_c D hw ?_
  intro n wf pc tn now3 hn6 hpw hwf hpm
  refine law_d D hw hn6 hpw ?_
  intro a_ti ti hti
  refine law_e (now := now3) D hw hn6 hpw hse hti ?_
  refine law_f (now := now3) D hw hn6 hpw hwf hpm ?_
  refine law_g (now := now3) D ?_
  intro a_at a_fu a_fi2 a_ui
  refine law_h (now := now3) D hw hn6 hpw hse hh ?_
  intro fi1 fd1 tc1 ft1 hfr hft h0 h1
  refine law_i (now := now3) D hw hn6 hpw hse hh hwf (fun q => ?_) hfr hft h0 h1
  obtain ⟨e1, e2⟩ := hpm q
  subst e1
  exact wh_fd hw e2 hpw h0
theorem whole_start {p : Program} {e : Env} {s : State} {m : MethodId} {below : List Frame} {meth : Method} {c : Code} (l : Launch) (hflags : l.flags = flags0) {b L : Nat} {xs : Nat → Int32} (hL : L ≤ 260) (C0 : lw_At p s m meth c b L xs) : W p l e room_1 s m #[Value.ref b] below meth c s.heap [] 0 0 (lw_Z below #[Value.ref b] s) (entryFrame m ([Value.ref b] : List Value).toArray 21) := by
  obtain ⟨E, D, NW⟩ := law_known hL C0
  have hJ := law_start (e := e) (l := l) (below := below) D NW
  rw [lg_entry_eq]
  exact hJ s.heap [] _ (fun k q h => by simp at h) ⟨fun i j p q h => by simp at h, fun k q h => by simp at h⟩ va_S.rf (lv_entry [.ref b] (n := 21) (Nat.le_of_ble_eq_true rfl))
