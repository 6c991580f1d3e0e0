theorem lL_law_9 : Cond.initialized yX5_init.cls ∈ wsL_law ∧ Cond.methodLink RL 9 yX5_init ∈ wsL_law ∧ Cond.instanceMethod yX5_init ∈ wsL_law := ⟨(List.mem_of_getElem? (i := 2) (by decide +kernel)), (List.mem_of_getElem? (i := 7) (by decide +kernel)), (List.mem_of_getElem? (i := 8) (by decide +kernel))⟩
theorem lL_law_12 : Cond.initialized yX6_init.cls ∈ wsL_law ∧ Cond.methodLink RL 12 yX6_init ∈ wsL_law ∧ Cond.instanceMethod yX6_init ∈ wsL_law := ⟨(List.mem_of_getElem? (i := 5) (by decide +kernel)), (List.mem_of_getElem? (i := 79) (by decide +kernel)), (List.mem_of_getElem? (i := 80) (by decide +kernel))⟩
theorem lL_law_7 : ∀ w ∈ ([Cond.classLink RL 7 RX5, Cond.instantiable RX5 7, Cond.initialized RX5] : List Cond), w ∈ wsL_law := List.forall_mem_cons.mpr ⟨(List.mem_of_getElem? (i := 0) (by decide +kernel)), List.forall_mem_cons.mpr ⟨(List.mem_of_getElem? (i := 1) (by decide +kernel)), List.forall_mem_cons.mpr ⟨(List.mem_of_getElem? (i := 2) (by decide +kernel)), fun _ h => absurd h List.not_mem_nil⟩⟩⟩
theorem lL_law_10 : ∀ w ∈ ([Cond.classLink RL 10 RX6, Cond.instantiable RX6 23, Cond.initialized RX6] : List Cond), w ∈ wsL_law := List.forall_mem_cons.mpr ⟨(List.mem_of_getElem? (i := 3) (by decide +kernel)), List.forall_mem_cons.mpr ⟨(List.mem_of_getElem? (i := 4) (by decide +kernel)), List.forall_mem_cons.mpr ⟨(List.mem_of_getElem? (i := 5) (by decide +kernel)), fun _ h => absurd h List.not_mem_nil⟩⟩⟩
theorem cdX5_init : yX5_init.cls ≠ "java/lang/invoke/MethodHandle" ∧ yX5_init.cls ≠ "java/lang/invoke/VarHandle" ∧ (parseMethodDescriptor yX5_init.desc).map (fun d => d.parameters.length) = some 0 := by decide +kernel
theorem cdX6_init : yX6_init.cls ≠ "java/lang/invoke/MethodHandle" ∧ yX6_init.cls ≠ "java/lang/invoke/VarHandle" ∧ (parseMethodDescriptor yX6_init.desc).map (fun d => d.parameters.length) = some 0 := by decide +kernel
theorem tbI0 : Cond.instantiable RX0 1 ∈ lw_tbl := List.mem_of_getElem? (i := 163) (by decide +kernel)
theorem tbI1 : Cond.instantiable RX1 4 ∈ lw_tbl := List.mem_of_getElem? (i := 68) (by decide +kernel)
theorem tbI2 : Cond.instantiable RX2 3 ∈ lw_tbl := List.mem_of_getElem? (i := 100) (by decide +kernel)
theorem tbI3 : Cond.instantiable RX3 13 ∈ lw_tbl := List.mem_of_getElem? (i := 116) (by decide +kernel)
theorem tbI4 : Cond.instantiable RX4 4 ∈ lw_tbl := List.mem_of_getElem? (i := 174) (by decide +kernel)
theorem tbI5 : Cond.instantiable RX5 7 ∈ lw_tbl := List.mem_of_getElem? (i := 60) (by decide +kernel)
theorem tbI6 : Cond.instantiable RX6 23 ∈ lw_tbl := List.mem_of_getElem? (i := 683) (by decide +kernel)
theorem tbA0 : Cond.arrayClass .int ∈ lw_tbl := List.mem_of_getElem? (i := 98) (by decide +kernel)
theorem tbA1 : Cond.arrayClass .boolean ∈ lw_tbl := List.mem_of_getElem? (i := 161) (by decide +kernel)
theorem tbA2 : Cond.arrayOver (.object RX4) ∈ lw_tbl := List.mem_of_getElem? (i := 173) (by decide +kernel)
theorem tbN20 : Cond.methodLinkNest RX5 20 yX2_init RX5 ∈ lw_tbl := List.mem_of_getElem? (i := 101) (by decide +kernel)
theorem tbN36 : Cond.methodLinkNest RX5 36 yX0_init RX5 ∈ lw_tbl := List.mem_of_getElem? (i := 164) (by decide +kernel)
theorem tbN47 : Cond.methodLinkNest RX5 47 yX4_init RX5 ∈ lw_tbl := List.mem_of_getElem? (i := 175) (by decide +kernel)
set_option maxHeartbeats 4000000 in
theorem law_known {p : Program} {s : State} {m : MethodId} {meth : Method} {c : Code} {b L : Nat} {xs : Nat → Int32} (hL : L ≤ 3072) (C0 : lw_At p s m meth c b L xs) : ∃ E : gE, lC p s m meth c b L xs E ∧ gNw s := by
  obtain ⟨hx, hb, hr, hml, hown, hts, hX, hbl, hlocks, hgv⟩ := C0
  obtain ⟨c0, i0, hK0⟩ := u_known (C := RX0) (T := TX0) (N := 1) (n := 1) hts jX0 (hts _ tbI0)
  obtain ⟨c1, i1, hK1⟩ := u_known (C := RX1) (T := TX1) (N := 4) (n := 4) hts jX1 (hts _ tbI1)
  obtain ⟨c2, i2, hK2⟩ := u_known (C := RX2) (T := TX2) (N := 3) (n := 3) hts jX2 (hts _ tbI2)
  obtain ⟨c3, i3, hK3⟩ := u_known (C := RX3) (T := TX3) (N := 13) (n := 13) hts jX3 (hts _ tbI3)
  obtain ⟨c4, i4, hK4⟩ := u_known (C := RX4) (T := TX4) (N := 4) (n := 4) hts jX4 (hts _ tbI4)
  obtain ⟨c5, i5, hK5⟩ := u_known (C := RX5) (T := TX5) (N := 7) (n := 7) hts jX5 (hts _ tbI5)
  obtain ⟨c6, i6, hK6⟩ := u_known (C := RX6) (T := TX6) (N := 23) (n := 23) hts jX6 (hts _ tbI6)
  obtain ⟨dC, dI, hKc⟩ : ∃ (dC : Nat → ClassId) (dI : Nat → Nat → Nat), ∀ (k : Nat) (q : vw_C), vwCl[k]? = some q → u_Kn s q.1 q.2.1 q.2.2 (dC k) (dI k) := by
    refine ⟨fun k => if k = 0 then c0 else if k = 1 then c1 else if k = 2 then c2 else if k = 3 then c3 else if k = 4 then c4 else if k = 5 then c5 else c6, fun k => if k = 0 then i0 else if k = 1 then i1 else if k = 2 then i2 else if k = 3 then i3 else if k = 4 then i4 else if k = 5 then i5 else i6, ?_⟩
    intro k q hq
    match k, hq with
    | 0, hq => cases hq; exact hK0
    | 1, hq => cases hq; exact hK1
    | 2, hq => cases hq; exact hK2
    | 3, hq => cases hq; exact hK3
    | 4, hq => cases hq; exact hK4
    | 5, hq => cases hq; exact hK5
    | 6, hq => cases hq; exact hK6
    | k + 7, hq => simp [vwCl] at hq
  obtain ⟨cI, kI, pI, fI, gI, tI⟩ := Cond.arrayClass_spec (hts _ tbA0)
  obtain ⟨cZ, kZ, pZ, fZ, gZ, tZ⟩ := Cond.arrayClass_spec (hts _ tbA1)
  obtain ⟨pQ, cQ, kQ, fQ, -, gQ, tQ, nQ⟩ := Cond.arrayOver_spec (hts _ tbA2)
  refine ⟨((dC, dI), cI, cZ, cQ), ⟨⟨hx, hb, hml, hown, fun w hw => hts w (wsL_law_in w hw), ⟨⟨hKc, ?_⟩, va_AO.of (hts _ tbA2)⟩, fun q h => h, hlocks⟩, hX, hbl, hr, hL⟩, va_Nw.of rfl (hts _ tbN20), va_Nw.of rfl (hts _ tbN36), va_Nw.of rfl (hts _ tbN47)⟩
  intro k q hq
  match k, hq with
  | 0, hq => cases hq; exact ⟨fun n z => ⟨fun k h => (by cases h), kI, gI, pI, tI⟩, fI⟩
  | 1, hq => cases hq; exact ⟨fun n z => ⟨fun k h => (by cases h), kZ, gZ, pZ, tZ⟩, fZ⟩
  | 2, hq => cases hq; exact ⟨fun n z => ⟨fun k h => (by cases h), kQ, gQ, pQ, tQ⟩, kQ, pQ, gQ, tQ, fQ, nQ⟩
  | k + 3, hq => simp [gTy] at hq
