section GL
variable {p : Program} {l : Launch} {e : Env} {R : Room} {s : State} {m : MethodId} {args : Array Value} {below : List Frame} {meth : Method} {c : Code} {cells slots : Nat} {Q : State → Prop} {E : gE} {A : Nat → Prop} {nL : Nat} {ws : va_W} {lv : List (Nat × Value)} {pc : Nat} {st : List Value} {cc : ByteArray} {own : String} {Ts : List Cond}
def gPut : va_W → List Nat → va_W → va_W
  | ws, [], _ => ws
  | ws, _ :: _, [] => ws
  | ws, i :: is, x :: xs => gPut (ws.set i x) is xs
theorem gPut_ne : ∀ (is : List Nat) (ws xs : va_W) (k : Nat), k ∉ is → (gPut ws is xs)[k]? = ws[k]?
  | [], ws, xs, k, _ => by unfold gPut; rfl
  | i :: is, ws, [], k, _ => by unfold gPut; rfl
  | i :: is, ws, x :: xs, k, h => by
    unfold gPut
    rw [gPut_ne is (ws.set i x) xs k (fun q => h (List.mem_cons_of_mem _ q)), List.getElem?_set_ne (fun q : i = k => h (by rw [← q]; exact List.mem_cons_self))]
theorem gPut_eq : ∀ (is : List Nat) (ws xs : va_W) (j k : Nat) (x : Nat × va_E), va_nd is = true → (∀ i ∈ is, i < ws.length) → is[j]? = some k → xs[j]? = some x → (gPut ws is xs)[k]? = some x
  | [], ws, xs, j, k, x, _, _, h, _ => by simp at h
  | i :: is, ws, [], j, k, x, _, _, _, h => by simp at h
  | i :: is, ws, y :: ys, j, k, x, hn, hl, h1, h2 => by
    simp only [va_nd, Bool.and_eq_true, decide_eq_true_eq] at hn
    unfold gPut
    cases j with
    | zero =>
      rw [List.getElem?_cons_zero] at h1 h2
      cases h1
      cases h2
      rw [gPut_ne is _ ys i hn.1, List.getElem?_set_self (hl i List.mem_cons_self)]
    | succ j =>
      rw [List.getElem?_cons_succ] at h1 h2
      exact gPut_eq is _ ys j k x hn.2 (fun q hq => by rw [List.length_set]; exact hl q (List.mem_cons_of_mem _ hq)) h1 h2
theorem gPut_len : ∀ (is : List Nat) (ws xs : va_W), (gPut ws is xs).length = ws.length
  | [], ws, xs => by unfold gPut; rfl
  | i :: is, ws, [] => by unfold gPut; rfl
  | i :: is, ws, x :: xs => by unfold gPut; rw [gPut_len is _ xs, List.length_set]
theorem g_cut {wc : va_W} {cu : List Nat} (hcut : cu.map (fun i => ws[i]?) = wc.map some) {j : Nat} {q : Nat × va_E} (h : wc[j]? = some q) : ∃ i, cu[j]? = some i ∧ ws[i]? = some q := by
  have h1 : (cu.map (fun i => ws[i]?))[j]? = some (some q) := by rw [hcut, List.getElem?_map, h]; rfl
  rw [List.getElem?_map] at h1
  cases hi : cu[j]? with
  | none => rw [hi] at h1; cases h1
  | some i => rw [hi] at h1; exact ⟨i, rfl, Option.some.inj h1⟩
theorem g_cutr {wc : va_W} {cu : List Nat} (hcut : cu.map (fun i => ws[i]?) = wc.map some) {j i : Nat} (h : cu[j]? = some i) : ∃ q, wc[j]? = some q ∧ ws[i]? = some q := by
  have h1 : (cu.map (fun i => ws[i]?))[j]? = some (ws[i]?) := by rw [List.getElem?_map, h]; rfl
  rw [hcut, List.getElem?_map] at h1
  cases hq : wc[j]? with
  | none => rw [hq] at h1; cases h1
  | some q => rw [hq] at h1; exact ⟨q, rfl, (Option.some.inj h1).symm⟩
theorem g_subP {H : Heap} {wc : va_W} {cu : List Nat} (hcut : cu.map (fun i => ws[i]?) = wc.map some) (hP : va_P E.1 vwCl ws H) : va_P E.1 vwCl wc H := by
  intro j q hq
  obtain ⟨i, -, hi⟩ := g_cut hcut hq
  exact hP i q hi
/-- the world behind a call that made no cells -/
theorem g_world {H H1 : Heap} {wc w : va_W} {cu : List Nat} (hP : va_P E.1 vwCl ws H) (hD : va_D A ws) (hcut : cu.map (fun i => ws[i]?) = wc.map some) (hnd : va_nd cu = true) (had : w.map Prod.fst = wc.map Prod.fst) (hk : ∀ q : Nat, q < H.size → ¬ va_A wc H.size q → H1[q]? = H[q]?) (hP1 : va_P E.1 vwCl w H1) : va_P E.1 vwCl (gPut ws cu w) H1 ∧ va_D A (gPut ws cu w) := by
  have hlt : ∀ i ∈ cu, i < ws.length := fun i hi => by
    obtain ⟨j, hj⟩ := List.getElem?_of_mem hi
    obtain ⟨q, -, h⟩ := g_cutr hcut hj
    exact (List.getElem?_eq_some_iff.mp h).1
  have hwl : w.length = wc.length := by
    have := congrArg List.length had
    simpa using this
  have hwa : ∀ (j : Nat) (q r : Nat × va_E), w[j]? = some q → wc[j]? = some r → q.1 = r.1 := fun j q r h1 h2 => by
    have h3 := congrArg (fun z => z[j]?) had
    simp only [List.getElem?_map, h1, h2, Option.map_some] at h3
    exact Option.some.inj h3
  -- each cell of the new world: a cell of w, or one that stayed
  have key : ∀ (k : Nat) (q : Nat × va_E), (gPut ws cu w)[k]? = some q → ∃ q0, ws[k]? = some q0 ∧ q0.1 = q.1 ∧ ((∃ j : Nat, cu[j]? = some k ∧ w[j]? = some q) ∨ (k ∉ cu ∧ q0 = q)) := by
    intro k q hq
    by_cases hkc : k ∈ cu
    · obtain ⟨j, hj⟩ := List.getElem?_of_mem hkc
      obtain ⟨r, hr1, hr2⟩ := g_cutr hcut hj
      have hjl : j < w.length := by rw [hwl]; exact (List.getElem?_eq_some_iff.mp hr1).1
      have hx : w[j]? = some w[j] := List.getElem?_eq_getElem hjl
      have h2 := gPut_eq cu ws w j k w[j] hnd hlt hj hx
      rw [hq] at h2
      cases h2
      exact ⟨r, hr2, (hwa j _ _ hx hr1).symm, Or.inl ⟨j, hj, hx⟩⟩
    · rw [gPut_ne cu ws w k hkc] at hq
      exact ⟨q, hq, rfl, Or.inr ⟨hkc, rfl⟩⟩
  refine ⟨fun k q hq => ?_, fun i j x y hi hj hxy => ?_, fun k q hq => ?_⟩
  · obtain ⟨q0, h0, h1, h2⟩ := key k q hq
    rcases h2 with ⟨j, -, hw⟩ | ⟨hkc, rfl⟩
    · exact hP1 j q hw
    · refine (hP k q0 h0).kept (hk q0.1 (hP k q0 h0).lt (fun z => ?_))
      rcases z with ⟨j, e, hz⟩ | hz
      · obtain ⟨i, hi1, hi2⟩ := g_cut hcut hz
        have := hD.1 k i q0 (q0.1, e) h0 hi2 rfl
        subst this
        exact hkc (List.mem_of_getElem? hi1)
      · exact absurd (hP k q0 h0).lt (Nat.not_lt.mpr hz)
  · obtain ⟨x0, a1, a2, -⟩ := key i x hi
    obtain ⟨y0, b1, b2, -⟩ := key j y hj
    exact hD.1 i j x0 y0 a1 b1 (a2.trans (hxy.trans b2.symm))
  · obtain ⟨q0, h0, h1, -⟩ := key k q hq
    rw [← h1]
    exact hD.2 k q0 h0
/-- behind a run that made no cells -/
theorem g_back {mc ms : Nat} {wc : va_W} {post : Option Value → va_W → Prop} {a : Array Value} {rest : List Value} (n' : Nat) (cu : List Nat) (C : gC p s m args meth c cc nL own Ts E A) (hp : pc + 3 = n') (hcut : cu.map (fun i => ws[i]?) = wc.map some) (hnd : va_nd cu = true) (had : ∀ v w, post v w → w.map Prod.fst = wc.map Prod.fst)
    (run : ∀ (H : Heap) (locs : List Loc) (ls : Array Slot), va_P E.1 vwCl ws H → va_D A ws → lv_has ls nL lv → va_Run p l e R s m args below meth c H locs cells slots mc ms (F0 m pc ls st) rest (gPost E (va_A wc H.size) post a) (va_A wc H.size))
    (kk : ∀ v w, post v w → gJ p l e R s m args below meth c (cells + mc) (slots + ms) Q E A nL (gPut ws cu w) lv n' (v.toList ++ rest)) : gJ p l e R s m args below meth c cells slots Q E A nL ws lv pc st := by
  intro H locs ls hP hD hS hl
  subst hp
  intro T hT X
  obtain ⟨v, st₀, t, T', L, h0, X', hL, e1, e2, ⟨⟨v', w, hv, hpost, hPw, hKw, hDw⟩, hz, hk⟩, st⟩ := run H locs ls hP hD hl T hT X
  cases hv
  rw [h0] at hz hk
  rw [← e1] at hz hk hPw
  have hF := va_free hD hS C.2.2.2.2.2.2.1 cu hcut
  obtain ⟨hP2, hD2⟩ := g_world hP hD hcut hnd (had v w hpost) hk hPw
  obtain ⟨t2, a1, b1⟩ := kk v w hpost T'.heap (locs ++ L) ls hP2 hD2 ⟨Nat.le_trans hS.1 hz, fun q h1 h2 => by rw [hk q (Nat.lt_of_lt_of_le h1 hS.1) (fun z => h2 (hF q z))]; exact hS.2.1 q h1 h2, fun q hq => by
      rcases List.mem_append.mp hq with h | h
      · exact hS.2.2 q h
      · exact hF _ (hL q h)⟩ hl T' rfl X'
  exact ⟨t2, st t2 a1, b1⟩
/-- behind a run that may have made cells: the caller's other cells first, then the callee's -/
theorem g_backN {mc ms : Nat} {wc : va_W} {post : Option Value → va_W → Prop} {a : Array Value} {rest : List Value} (n' : Nat) (cu re : List Nat) (C : gC p s m args meth c cc nL own Ts E A) (hp : pc + 3 = n') (hcut : cu.map (fun i => ws[i]?) = wc.map some) {wr : va_W} (hre : re.map (fun i => ws[i]?) = wr.map some) (hnd : va_nd re = true) (hdis : ∀ i ∈ re, i ∉ cu)
    (run : ∀ (H : Heap) (locs : List Loc) (ls : Array Slot), va_P E.1 vwCl ws H → va_D A ws → lv_has ls nL lv → va_Run p l e R s m args below meth c H locs cells slots mc ms (F0 m pc ls st) rest (gPost E (va_A wc H.size) post a) (va_A wc H.size))
    (kk : ∀ v w, post v w → gJ p l e R s m args below meth c (cells + mc) (slots + ms) Q E A nL (wr ++ w) lv n' (v.toList ++ rest)) : gJ p l e R s m args below meth c cells slots Q E A nL ws lv pc st := by
  intro H locs ls hP hD hS hl
  subst hp
  intro T hT X
  obtain ⟨v, st₀, t, T', L, h0, X', hL, e1, e2, ⟨⟨v', w, hv, hpost, hPw, hKw, hDw⟩, hz, hk⟩, st⟩ := run H locs ls hP hD hl T hT X
  cases hv
  rw [h0] at hz hk
  rw [← e1] at hz hk hPw
  have hF := va_free hD hS C.2.2.2.2.2.2.1 cu hcut
  obtain ⟨hP2, hD2⟩ := va_join hP hD cu re hcut hre hnd hdis hk hF hPw hDw
  obtain ⟨t2, a1, b1⟩ := kk v w hpost T'.heap (locs ++ L) ls hP2 hD2 ⟨Nat.le_trans hS.1 hz, fun q h1 h2 => by rw [hk q (Nat.lt_of_lt_of_le h1 hS.1) (fun z => h2 (hF q z))]; exact hS.2.1 q h1 h2, fun q hq => by
      rcases List.mem_append.mp hq with h | h
      · exact hS.2.2 q h
      · exact hF _ (hL q h)⟩ hl T' rfl X'
  exact ⟨t2, st t2 a1, b1⟩
theorem g_blind {as : List Value} {sz : Nat} {wc : va_W} : FrameBlind (va_Pc as (fun U => U.heap.size = sz ∧ va_P E.1 vwCl wc U.heap ∧ gK E U ∧ va_D (fun _ => True) wc)) := fun a U g mk q => by obtain ⟨q0, q1, qP, qK, qD⟩ := q; exact ⟨q0, q1, qP, gK.moved (u := U) (U := U.calling g mk a) (Vm.Alike.refl U.vm) qK, qD⟩
theorem g_self {wc : va_W} {cu : List Nat} (hcut : cu.map (fun i => ws[i]?) = wc.map some) (hnd : va_nd cu = true) : gPut ws cu wc = ws := by
  apply List.ext_getElem?
  intro k
  have hlt : ∀ i ∈ cu, i < ws.length := fun i hi => by
    obtain ⟨j, hj⟩ := List.getElem?_of_mem hi
    obtain ⟨q, -, h⟩ := g_cutr hcut hj
    exact (List.getElem?_eq_some_iff.mp h).1
  by_cases hkc : k ∈ cu
  · obtain ⟨j, hj⟩ := List.getElem?_of_mem hkc
    obtain ⟨r, hr1, hr2⟩ := g_cutr hcut hj
    rw [gPut_eq cu ws wc j k r hnd hlt hj hr1, hr2]
  · exact gPut_ne cu ws wc k hkc
theorem g_preD {H : Heap} {wc : va_W} {cu : List Nat} (hD : va_D A ws) (hcut : cu.map (fun i => ws[i]?) = wc.map some) (hnd : va_nd cu = true) : va_D (fun _ => True) wc := (hD.sub cu hnd hcut).weaken (fun _ _ _ _ => trivial)
theorem g_runV {k mc ms maxL index : Nat} {y : MethodName} {bytes : ByteArray} {ret : Option FieldType} {wsy : List Cond} {rm : Room} {as rest : List Value} {b : Nat} {Cn : String} {wc : va_W} {post : Option Value → va_W → Prop} (C : gC p s m args meth c cc nL own Ts E A) (hM : gMet E l y wsy rm mc ms (.ref b :: as) wc post) (cw : CallW R s args own Cn index y bytes maxL ret wsy rm mc ms k) (cu : List Nat) (hcut : cu.map (fun i => ws[i]?) = wc.map some) (hnd : va_nd cu = true) (hst : as.reverse ++ .ref b :: rest = st) (hlen : as.length = k) (hcat : (rest.map fun v => v.category).sum ≤ 8) (q0 ci : Nat) {fs : List Value} {r : vw_C} (he : ws[q0]? = some (b, .inr (ci, fs))) (hc : vwCl[ci]? = some r) (hCn : r.1 = Cn) (hdg : decode cc pc = .ok (.invokevirtual index, 3)) (hf : cells + mc ≤ R.cells ∧ slots + ms ≤ R.slots) :
    ∀ (H : Heap) (locs : List Loc) (ls : Array Slot), va_P E.1 vwCl ws H → va_D A ws → lv_has ls nL lv → va_Run p l e R s m args below meth c H locs cells slots mc ms (F0 m pc ls st) rest (gPost E (va_A wc H.size) post (.ref b :: as).toArray) (va_A wc H.size) :=
  fun H locs ls hP hD hl => va_runV (C := Cn) ⟨C.1, C.2.1, C.2.2.1, C.2.2.2.1, C.2.2.2.2.1⟩ (hM H.size) cw ⟨g_blind, hCn ▸ va_recv C.2.2.2.2.2.1.1 hP hc he, fun U hU hW => ⟨rfl, by rw [hU], by rw [hU]; exact g_subP hcut hP, gK.moved hW.alike C.2.2.2.2.2.1, g_preD (H := H) hD hcut hnd⟩⟩ rfl hlen hl.1 hst.symm (lv_room hcat) hdg hf
theorem g_callV (n' : Nat) {k mc ms maxL index : Nat} {y : MethodName} {bytes : ByteArray} {ret : Option FieldType} {wsy : List Cond} {rm : Room} {as rest : List Value} {b : Nat} {Cn : String} {wc : va_W} {post : Option Value → va_W → Prop} (C : gC p s m args meth c cc nL own Ts E A) (cu : List Nat) (hdg : decode cc pc = .ok (.invokevirtual index, 3)) (hp : pc + 3 = n') (hM : gMet E l y wsy rm mc ms (.ref b :: as) wc post) (cw : CallW R s args own Cn index y bytes maxL ret wsy rm mc ms k) (hst : as.reverse ++ .ref b :: rest = st) (hcut : cu.map (fun i => ws[i]?) = wc.map some) (hnd : va_nd cu = true) (hlen : as.length = k) (hcat : (rest.map fun v => v.category).sum ≤ 8) (q0 ci : Nat) {fs : List Value} {r : vw_C} (he : ws[q0]? = some (b, .inr (ci, fs))) (hc : vwCl[ci]? = some r) (hCn : r.1 = Cn) (hf : cells + mc ≤ R.cells ∧ slots + ms ≤ R.slots) (had : ∀ v w, post v w → w.map Prod.fst = wc.map Prod.fst)
    (kk : ∀ v w, post v w → gJ p l e R s m args below meth c (cells + mc) (slots + ms) Q E A nL (gPut ws cu w) lv n' (v.toList ++ rest)) : gJ p l e R s m args below meth c cells slots Q E A nL ws lv pc st :=
  g_back n' cu C hp hcut hnd had (g_runV C hM cw cu hcut hnd hst hlen hcat q0 ci he hc hCn hdg hf) kk
theorem g_callVF (n' : Nat) {k maxL index : Nat} {y : MethodName} {bytes : ByteArray} {ret : Option FieldType} {wsy : List Cond} {rm : Room} {as rest : List Value} {b : Nat} {Cn : String} {wc : va_W} {v : Value} (C : gC p s m args meth c cc nL own Ts E A) (cu : List Nat) (hdg : decode cc pc = .ok (.invokevirtual index, 3)) (hp : pc + 3 = n') (hM : gFun E l y wsy rm (.ref b :: as) wc v) (cw : CallW R s args own Cn index y bytes maxL ret wsy rm 0 0 k) (hst : as.reverse ++ .ref b :: rest = st) (hcut : cu.map (fun i => ws[i]?) = wc.map some) (hnd : va_nd cu = true) (hlen : as.length = k) (hcat : (rest.map fun v => v.category).sum ≤ 8) (q0 ci : Nat) {fs : List Value} {r : vw_C} (he : ws[q0]? = some (b, .inr (ci, fs))) (hc : vwCl[ci]? = some r) (hCn : r.1 = Cn) (hf : cells + 0 ≤ R.cells ∧ slots + 0 ≤ R.slots)
    (kk : gJ p l e R s m args below meth c cells slots Q E A nL ws lv n' (v :: rest)) : gJ p l e R s m args below meth c cells slots Q E A nL ws lv pc st :=
  g_callV n' C cu hdg hp hM cw hst hcut hnd hlen hcat q0 ci he hc hCn hf (fun v w h => by rw [h.2]) (fun v2 w h => by
    obtain ⟨rfl, rfl⟩ := h
    rw [g_self hcut hnd]
    exact kk)
theorem g_callVU (n' : Nat) {k maxL index : Nat} {y : MethodName} {bytes : ByteArray} {ret : Option FieldType} {wsy : List Cond} {rm : Room} {as rest : List Value} {b : Nat} {Cn : String} {wc : va_W} {v : Option Value} {w1 ws' : va_W} (C : gC p s m args meth c cc nL own Ts E A) (cu : List Nat) (hdg : decode cc pc = .ok (.invokevirtual index, 3)) (hp : pc + 3 = n') (hM : gUpd E l y wsy rm (.ref b :: as) wc v w1) (cw : CallW R s args own Cn index y bytes maxL ret wsy rm 0 0 k) (hst : as.reverse ++ .ref b :: rest = st) (hcut : cu.map (fun i => ws[i]?) = wc.map some) (hnd : va_nd cu = true) (hlen : as.length = k) (hcat : (rest.map fun v => v.category).sum ≤ 8) (q0 ci : Nat) {fs : List Value} {r : vw_C} (he : ws[q0]? = some (b, .inr (ci, fs))) (hc : vwCl[ci]? = some r) (hCn : r.1 = Cn) (hf : cells + 0 ≤ R.cells ∧ slots + 0 ≤ R.slots) (had : w1.map Prod.fst = wc.map Prod.fst) (hw : gPut ws cu w1 = ws')
    (kk : gJ p l e R s m args below meth c cells slots Q E A nL ws' lv n' (v.toList ++ rest)) : gJ p l e R s m args below meth c cells slots Q E A nL ws lv pc st :=
  g_callV n' C cu hdg hp hM cw hst hcut hnd hlen hcat q0 ci he hc hCn hf (fun v w h => by rw [h.2]; exact had) (fun v2 w h => by
    obtain ⟨rfl, rfl⟩ := h
    rw [hw]
    exact kk)
theorem g_callVN (n' : Nat) {k mc ms maxL index : Nat} {y : MethodName} {bytes : ByteArray} {ret : Option FieldType} {wsy : List Cond} {rm : Room} {as rest : List Value} {b : Nat} {Cn : String} {wc : va_W} {post : Option Value → va_W → Prop} (C : gC p s m args meth c cc nL own Ts E A) (cu re : List Nat) (hdg : decode cc pc = .ok (.invokevirtual index, 3)) (hp : pc + 3 = n') (hM : gMet E l y wsy rm mc ms (.ref b :: as) wc post) (cw : CallW R s args own Cn index y bytes maxL ret wsy rm mc ms k) (hst : as.reverse ++ .ref b :: rest = st) (hcut : cu.map (fun i => ws[i]?) = wc.map some) (hnd : va_nd cu = true) {wr : va_W} (hre : re.map (fun i => ws[i]?) = wr.map some) (hnr : va_nd re = true) (hdis : ∀ i ∈ re, i ∉ cu) (hlen : as.length = k) (hcat : (rest.map fun v => v.category).sum ≤ 8) (q0 ci : Nat) {fs : List Value} {r : vw_C} (he : ws[q0]? = some (b, .inr (ci, fs))) (hc : vwCl[ci]? = some r) (hCn : r.1 = Cn) (hf : cells + mc ≤ R.cells ∧ slots + ms ≤ R.slots)
    (kk : ∀ v w, post v w → gJ p l e R s m args below meth c (cells + mc) (slots + ms) Q E A nL (wr ++ w) lv n' (v.toList ++ rest)) : gJ p l e R s m args below meth c cells slots Q E A nL ws lv pc st :=
  g_backN n' cu re C hp hcut hre hnr hdis (g_runV C hM cw cu hcut hnd hst hlen hcat q0 ci he hc hCn hdg hf) kk
theorem g_runS {k mc ms maxL index : Nat} {y : MethodName} {bytes : ByteArray} {ret : Option FieldType} {wsy : List Cond} {rm : Room} {as rest : List Value}  {wc : va_W} {post : Option Value → va_W → Prop} (C : gC p s m args meth c cc nL own Ts E A) (hM : gMet E l y wsy rm mc ms as wc post) (cw : CallB R s args own index y bytes maxL ret wsy rm mc ms k ∧ (Cond.static y).before args s = true) (cu : List Nat) (hcut : cu.map (fun i => ws[i]?) = wc.map some) (hnd : va_nd cu = true) (hst : as.reverse ++ rest = st) (hlen : as.length = k) (hcat : (rest.map fun v => v.category).sum ≤ 8) (hdg : decode cc pc = .ok (.invokestatic index, 3)) (hf : cells + mc ≤ R.cells ∧ slots + ms ≤ R.slots) :
    ∀ (H : Heap) (locs : List Loc) (ls : Array Slot), va_P E.1 vwCl ws H → va_D A ws → lv_has ls nL lv → va_Run p l e R s m args below meth c H locs cells slots mc ms (F0 m pc ls st) rest (gPost E (va_A wc H.size) post as.toArray) (va_A wc H.size) :=
  fun H locs ls hP hD hl => va_runS ⟨C.1, C.2.1, C.2.2.1, C.2.2.2.1, C.2.2.2.2.1⟩ (hM H.size) cw ⟨g_blind, fun U hU hW => ⟨rfl, by rw [hU], by rw [hU]; exact g_subP hcut hP, gK.moved hW.alike C.2.2.2.2.2.1, g_preD (H := H) hD hcut hnd⟩⟩ rfl hlen hl.1 hst.symm (lv_room hcat) hdg hf
theorem g_callS (n' : Nat) {k mc ms maxL index : Nat} {y : MethodName} {bytes : ByteArray} {ret : Option FieldType} {wsy : List Cond} {rm : Room} {as rest : List Value}  {wc : va_W} {post : Option Value → va_W → Prop} (C : gC p s m args meth c cc nL own Ts E A) (cu : List Nat) (hdg : decode cc pc = .ok (.invokestatic index, 3)) (hp : pc + 3 = n') (hM : gMet E l y wsy rm mc ms as wc post) (cw : CallB R s args own index y bytes maxL ret wsy rm mc ms k ∧ (Cond.static y).before args s = true) (hst : as.reverse ++ rest = st) (hcut : cu.map (fun i => ws[i]?) = wc.map some) (hnd : va_nd cu = true) (hlen : as.length = k) (hcat : (rest.map fun v => v.category).sum ≤ 8) (hf : cells + mc ≤ R.cells ∧ slots + ms ≤ R.slots) (had : ∀ v w, post v w → w.map Prod.fst = wc.map Prod.fst)
    (kk : ∀ v w, post v w → gJ p l e R s m args below meth c (cells + mc) (slots + ms) Q E A nL (gPut ws cu w) lv n' (v.toList ++ rest)) : gJ p l e R s m args below meth c cells slots Q E A nL ws lv pc st :=
  g_back n' cu C hp hcut hnd had (g_runS C hM cw cu hcut hnd hst hlen hcat hdg hf) kk
theorem g_callSF (n' : Nat) {k maxL index : Nat} {y : MethodName} {bytes : ByteArray} {ret : Option FieldType} {wsy : List Cond} {rm : Room} {as rest : List Value}  {wc : va_W} {v : Value} (C : gC p s m args meth c cc nL own Ts E A) (cu : List Nat) (hdg : decode cc pc = .ok (.invokestatic index, 3)) (hp : pc + 3 = n') (hM : gFun E l y wsy rm as wc v) (cw : CallB R s args own index y bytes maxL ret wsy rm 0 0 k ∧ (Cond.static y).before args s = true) (hst : as.reverse ++ rest = st) (hcut : cu.map (fun i => ws[i]?) = wc.map some) (hnd : va_nd cu = true) (hlen : as.length = k) (hcat : (rest.map fun v => v.category).sum ≤ 8) (hf : cells + 0 ≤ R.cells ∧ slots + 0 ≤ R.slots)
    (kk : gJ p l e R s m args below meth c cells slots Q E A nL ws lv n' (v :: rest)) : gJ p l e R s m args below meth c cells slots Q E A nL ws lv pc st :=
  g_callS n' C cu hdg hp hM cw hst hcut hnd hlen hcat hf (fun v w h => by rw [h.2]) (fun v2 w h => by
    obtain ⟨rfl, rfl⟩ := h
    rw [g_self hcut hnd]
    exact kk)
theorem g_callSU (n' : Nat) {k maxL index : Nat} {y : MethodName} {bytes : ByteArray} {ret : Option FieldType} {wsy : List Cond} {rm : Room} {as rest : List Value}  {wc : va_W} {v : Option Value} {w1 ws' : va_W} (C : gC p s m args meth c cc nL own Ts E A) (cu : List Nat) (hdg : decode cc pc = .ok (.invokestatic index, 3)) (hp : pc + 3 = n') (hM : gUpd E l y wsy rm as wc v w1) (cw : CallB R s args own index y bytes maxL ret wsy rm 0 0 k ∧ (Cond.static y).before args s = true) (hst : as.reverse ++ rest = st) (hcut : cu.map (fun i => ws[i]?) = wc.map some) (hnd : va_nd cu = true) (hlen : as.length = k) (hcat : (rest.map fun v => v.category).sum ≤ 8) (hf : cells + 0 ≤ R.cells ∧ slots + 0 ≤ R.slots) (had : w1.map Prod.fst = wc.map Prod.fst) (hw : gPut ws cu w1 = ws')
    (kk : gJ p l e R s m args below meth c cells slots Q E A nL ws' lv n' (v.toList ++ rest)) : gJ p l e R s m args below meth c cells slots Q E A nL ws lv pc st :=
  g_callS n' C cu hdg hp hM cw hst hcut hnd hlen hcat hf (fun v w h => by rw [h.2]; exact had) (fun v2 w h => by
    obtain ⟨rfl, rfl⟩ := h
    rw [hw]
    exact kk)
theorem g_callSN (n' : Nat) {k mc ms maxL index : Nat} {y : MethodName} {bytes : ByteArray} {ret : Option FieldType} {wsy : List Cond} {rm : Room} {as rest : List Value}  {wc : va_W} {post : Option Value → va_W → Prop} (C : gC p s m args meth c cc nL own Ts E A) (cu re : List Nat) (hdg : decode cc pc = .ok (.invokestatic index, 3)) (hp : pc + 3 = n') (hM : gMet E l y wsy rm mc ms as wc post) (cw : CallB R s args own index y bytes maxL ret wsy rm mc ms k ∧ (Cond.static y).before args s = true) (hst : as.reverse ++ rest = st) (hcut : cu.map (fun i => ws[i]?) = wc.map some) (hnd : va_nd cu = true) {wr : va_W} (hre : re.map (fun i => ws[i]?) = wr.map some) (hnr : va_nd re = true) (hdis : ∀ i ∈ re, i ∉ cu) (hlen : as.length = k) (hcat : (rest.map fun v => v.category).sum ≤ 8) (hf : cells + mc ≤ R.cells ∧ slots + ms ≤ R.slots)
    (kk : ∀ v w, post v w → gJ p l e R s m args below meth c (cells + mc) (slots + ms) Q E A nL (wr ++ w) lv n' (v.toList ++ rest)) : gJ p l e R s m args below meth c cells slots Q E A nL ws lv pc st :=
  g_backN n' cu re C hp hcut hre hnr hdis (g_runS C hM cw cu hcut hnd hst hlen hcat hdg hf) kk
theorem g_runI {k mc ms maxL index : Nat} {y : MethodName} {bytes : ByteArray} {wsy : List Cond} {rm : Room} {as rest : List Value} {b : Nat} {wc : va_W} {post : Option Value → va_W → Prop} (C : gC p s m args meth c cc nL own Ts E A) (hM : gMet E l y wsy rm mc ms (.ref b :: as) wc post) (cw : CallB R s args own index y bytes maxL none wsy rm mc ms k ∧ y.name = "<init>" ∧ (Cond.instanceMethod y).before args s = true) (cu : List Nat) (hcut : cu.map (fun i => ws[i]?) = wc.map some) (hnd : va_nd cu = true) (hst : as.reverse ++ .ref b :: rest = st) (hlen : as.length = k) (hcat : (rest.map fun v => v.category).sum ≤ 8) (hdg : decode cc pc = .ok (.invokespecial index, 3)) (hf : cells + mc ≤ R.cells ∧ slots + ms ≤ R.slots) :
    ∀ (H : Heap) (locs : List Loc) (ls : Array Slot), va_P E.1 vwCl ws H → va_D A ws → lv_has ls nL lv → va_Run p l e R s m args below meth c H locs cells slots mc ms (F0 m pc ls st) rest (gPost E (va_A wc H.size) post (.ref b :: as).toArray) (va_A wc H.size) :=
  fun H locs ls hP hD hl => va_runI ⟨C.1, C.2.1, C.2.2.1, C.2.2.2.1, C.2.2.2.2.1⟩ (hM H.size) cw ⟨g_blind, fun U hU hW => ⟨rfl, by rw [hU], by rw [hU]; exact g_subP hcut hP, gK.moved hW.alike C.2.2.2.2.2.1, g_preD (H := H) hD hcut hnd⟩⟩ rfl hlen hl.1 hst.symm (lv_room hcat) hdg hf
theorem g_callIN (n' : Nat) {k mc ms maxL index : Nat} {y : MethodName} {bytes : ByteArray} {wsy : List Cond} {rm : Room} {as rest : List Value} {b : Nat} {wc : va_W} {post : Option Value → va_W → Prop} (C : gC p s m args meth c cc nL own Ts E A) (cu re : List Nat) (hdg : decode cc pc = .ok (.invokespecial index, 3)) (hp : pc + 3 = n') (hM : gMet E l y wsy rm mc ms (.ref b :: as) wc post) (cw : CallB R s args own index y bytes maxL none wsy rm mc ms k ∧ y.name = "<init>" ∧ (Cond.instanceMethod y).before args s = true) (hst : as.reverse ++ .ref b :: rest = st) (hcut : cu.map (fun i => ws[i]?) = wc.map some) (hnd : va_nd cu = true) {wr : va_W} (hre : re.map (fun i => ws[i]?) = wr.map some) (hnr : va_nd re = true) (hdis : ∀ i ∈ re, i ∉ cu) (hlen : as.length = k) (hcat : (rest.map fun v => v.category).sum ≤ 8) (hf : cells + mc ≤ R.cells ∧ slots + ms ≤ R.slots)
    (kk : ∀ v w, post v w → gJ p l e R s m args below meth c (cells + mc) (slots + ms) Q E A nL (wr ++ w) lv n' (v.toList ++ rest)) : gJ p l e R s m args below meth c cells slots Q E A nL ws lv pc st :=
  g_backN n' cu re C hp hcut hre hnr hdis (g_runI C hM cw cu hcut hnd hst hlen hcat hdg hf) kk
theorem g_iret (C : gC p s m args meth c cc nL own Ts E A) {post : Option Value → va_W → Prop} {x : Int32} (hr : meth.sig.returnType = some .int) (hdg : decode cc pc = .ok (.ireturn, 1)) (hq : post (some (.int x)) ws) : gJ p l e R s m args below meth c cells slots (MQ below (gPost E A post) args s cells slots A) E A nL ws lv pc [.int x] := by
  intro H locs ls hP hD hS hl
  exact W.iret C.1 C.2.1 hr (fun t ht hW => ⟨⟨_, ws, rfl, hq, by rw [ht]; exact hP, gK.moved hW.alike C.2.2.2.2.2.1, hD⟩, hS.F ht⟩) hS.2.2 hdg C.2.2.2.2.2.2.2
theorem g_lret (C : gC p s m args meth c cc nL own Ts E A) {post : Option Value → va_W → Prop} {x : Int64} (hr : meth.sig.returnType = some .long) (hdg : decode cc pc = .ok (.lreturn, 1)) (hq : post (some (.long x)) ws) : gJ p l e R s m args below meth c cells slots (MQ below (gPost E A post) args s cells slots A) E A nL ws lv pc [.long x] := by
  intro H locs ls hP hD hS hl
  exact W.lret C.1 C.2.1 hr (fun t ht hW => ⟨⟨_, ws, rfl, hq, by rw [ht]; exact hP, gK.moved hW.alike C.2.2.2.2.2.1, hD⟩, hS.F ht⟩) hS.2.2 hdg C.2.2.2.2.2.2.2
theorem g_zret (C : gC p s m args meth c cc nL own Ts E A) {post : Option Value → va_W → Prop} {x : Int32} (hr : meth.sig.returnType = some .boolean) (hdg : decode cc pc = .ok (.ireturn, 1)) (hn : narrow .boolean (.int x) = .int x) (hq : post (some (.int x)) ws) : gJ p l e R s m args below meth c cells slots (MQ below (gPost E A post) args s cells slots A) E A nL ws lv pc [.int x] := by
  intro H locs ls hP hD hS hl
  exact W.zret C.1 C.2.1 hr hn (fun t ht hW => ⟨⟨_, ws, rfl, hq, by rw [ht]; exact hP, gK.moved hW.alike C.2.2.2.2.2.1, hD⟩, hS.F ht⟩) hS.2.2 hdg C.2.2.2.2.2.2.2
theorem g_vret (C : gC p s m args meth c cc nL own Ts E A) {post : Option Value → va_W → Prop} (hr : meth.sig.returnType = none) (hdg : decode cc pc = .ok (.return_, 1)) (hq : post none ws) : gJ p l e R s m args below meth c cells slots (MQ below (gPost E A post) args s cells slots A) E A nL ws lv pc [] := by
  intro H locs ls hP hD hS hl
  exact W.vret C.1 C.2.1 hr (fun t ht hW => ⟨⟨_, ws, rfl, hq, by rw [ht]; exact hP, gK.moved hW.alike C.2.2.2.2.2.1, hD⟩, hS.F ht⟩) hS.2.2 hdg C.2.2.2.2.2.2.2
theorem g_widen {k n : Nat} (h1 : cells ≤ k) (h2 : slots ≤ n) (kk : gJ p l e R s m args below meth c k n Q E A nL ws lv pc st) : gJ p l e R s m args below meth c cells slots Q E A nL ws lv pc st := fun H locs ls hP hD hS hl => W.widen h1 h2 (kk H locs ls hP hD hS hl)
-- Math
theorem g_mabs (n' : Nat) (C : gC p s m args meth c cc nL own Ts E A) {index : Nat} {a : Int} (hdg : decode cc pc = .ok (.invokestatic index, 3)) (hp : pc + 3 = n') (hm : ∀ w ∈ ([Cond.methodLink own index Lib.Math.abs.name, Cond.static Lib.Math.abs.name, Cond.initialized "java/lang/Math", Cond.code Lib.Math.abs.name Lib.Math.abs.code 1 (some .int)] : List Cond), w ∈ Ts) (hcat : (st.map fun v => v.category).sum + 13 ≤ R.locals) (hfr : 1 ≤ R.frames) (hc : cells ≤ R.cells) (hs : slots ≤ R.slots) (hr : -2147483648 < a ∧ a < 2147483648) (kk : gJ p l e R s m args below meth c cells slots Q E A nL ws lv n' (.int (iI (if 0 ≤ a then a else -a)) :: st)) : gJ p l e R s m args below meth c cells slots Q E A nL ws lv pc (.int (iI a) :: st) := by
  intro H locs ls hP hD hS hl
  subst hp
  have ht := C.2.2.2.2.1
  refine va_mabs C.1 C.2.1 (C.2.2.1.trans hl.1.symm) C.2.2.2.1 (ht _ (hm _ (by simp))) (ht _ (hm _ (by simp))) (ht _ (hm _ (by simp))) (ht _ (hm _ (by simp))) hfr hcat hc hs hdg ?_
  have e1 : (if (0 : Int32) ≤ iI a then iI a else 0 - iI a) = iI (if 0 ≤ a then a else -a) := by
    by_cases h : 0 ≤ a
    · rw [if_pos h, if_pos (by rw [← iI_0, iI_le (by omega) (by omega) (by omega) (by omega)]; exact h)]
    · rw [if_neg h, if_neg (by rw [← iI_0, iI_le (by omega) (by omega) (by omega) (by omega)]; exact h), ← iI_0, iI_sub, Int.zero_sub]
  rw [e1]
  exact kk H locs ls hP hD hS hl
theorem g_joinv (t k : Nat) (val : Int) (body : gJ p l e R s m args below meth c cells slots Q E A nL ws lv t (.int (iI val) :: st.drop k)) (kk : (∀ v : Int, v = val → gJ p l e R s m args below meth c cells slots Q E A nL ws lv t (.int (iI v) :: st.drop k)) → gJ p l e R s m args below meth c cells slots Q E A nL ws lv pc st) : gJ p l e R s m args below meth c cells slots Q E A nL ws lv pc st := kk (fun _ h => h ▸ body)
theorem g_ri {a b : Int} (h : a = b) : some (Value.int (iI a)) = some (Value.int (iI b)) := by rw [h]
theorem g_rl {a b : Int} (h : a = b) : some (Value.long (lI a)) = some (Value.long (lI b)) := by rw [h]
theorem g_split (P : Prop) (kt : P → gJ p l e R s m args below meth c cells slots Q E A nL ws lv pc st) (kf : ¬ P → gJ p l e R s m args below meth c cells slots Q E A nL ws lv pc st) : gJ p l e R s m args below meth c cells slots Q E A nL ws lv pc st := (Classical.em P).elim kt kf
theorem g_tsw (t : Nat) (C : gC p s m args meth c cc nL own Ts E A) (z : Int) {dflt lo hi a off : Int} {offs : Array Int} {len : Nat} (hdg : decode cc pc = .ok (.tableswitch dflt lo hi offs, len)) (hr : -2147483648 ≤ a ∧ a < 2147483648) (ha : a = z) (h1 : ¬ z < lo) (h2 : ¬ hi < z) (ho : offs[(z - lo).toNat]? = some off) (ht : (pc : Int) + off = (t : Int)) (kk : gJ p l e R s m args below meth c cells slots Q E A nL ws lv t st) : gJ p l e R s m args below meth c cells slots Q E A nL ws lv pc (.int (iI a) :: st) := by
  intro H locs ls hP hD hS hl
  have e := iI_toInt hr.1 hr.2
  subst ha
  exact lv_tableIn C.1 C.2.1 hdg (by rw [e]; exact h1) (by rw [e]; exact h2) (by rw [e]; exact ho) ht (kk H locs ls hP hD hS hl)
theorem g_tswd (t : Nat) (C : gC p s m args meth c cc nL own Ts E A) {dflt lo hi a : Int} {offs : Array Int} {len : Nat} (hdg : decode cc pc = .ok (.tableswitch dflt lo hi offs, len)) (hr : -2147483648 ≤ a ∧ a < 2147483648) (h : a < lo ∨ hi < a) (ht : (pc : Int) + dflt = (t : Int)) (kk : gJ p l e R s m args below meth c cells slots Q E A nL ws lv t st) : gJ p l e R s m args below meth c cells slots Q E A nL ws lv pc (.int (iI a) :: st) := by
  intro H locs ls hP hD hS hl
  exact lv_tableOut C.1 C.2.1 hdg (by rw [iI_toInt hr.1 hr.2]; exact h) ht (kk H locs ls hP hD hS hl)
theorem g_lsw2 (t1 t2 td : Nat) (C : gC p s m args meth c cc nL own Ts E A) {dflt k1 o1 k2 o2 a : Int} {len : Nat} (hdg : decode cc pc = .ok (.lookupswitch dflt #[(k1, o1), (k2, o2)], len)) (hs : k1 < k2) (hr : -2147483648 ≤ a ∧ a < 2147483648) (e1 : (pc : Int) + o1 = (t1 : Int)) (e2 : (pc : Int) + o2 = (t2 : Int)) (ed : (pc : Int) + dflt = (td : Int)) (kk1 : a = k1 → gJ p l e R s m args below meth c cells slots Q E A nL ws lv t1 st) (kk2 : a = k2 → gJ p l e R s m args below meth c cells slots Q E A nL ws lv t2 st) (kkd : a ≠ k1 ∧ a ≠ k2 → gJ p l e R s m args below meth c cells slots Q E A nL ws lv td st) : gJ p l e R s m args below meth c cells slots Q E A nL ws lv pc (.int (iI a) :: st) := by
  intro H locs ls hP hD hS hl
  have e := iI_toInt hr.1 hr.2
  have hz : (((#[(k1, o1), (k2, o2)] : Array (Int × Int)).toList.zip ((#[(k1, o1), (k2, o2)] : Array (Int × Int)).toList.drop 1)).all (fun (a, next) => a.1 < next.1)) = true := by simp [hs]
  by_cases h1 : k1 = a
  · refine lv_lookup C.1 C.2.1 hdg hz (off := o1) ?_ e1 (kk1 h1.symm H locs ls hP hD hS hl)
    show (if k1 = (iI a).toInt then o1 else _) = o1
    rw [e, if_pos h1]
  · by_cases h2 : k2 = a
    · refine lv_lookup C.1 C.2.1 hdg hz (off := o2) ?_ e2 (kk2 h2.symm H locs ls hP hD hS hl)
      show (if k1 = (iI a).toInt then o1 else if k2 = (iI a).toInt then o2 else _) = o2
      rw [e, if_neg h1, if_pos h2]
    · refine lv_lookup C.1 C.2.1 hdg hz (off := dflt) ?_ ed (kkd ⟨fun q => h1 q.symm, fun q => h2 q.symm⟩ H locs ls hP hD hS hl)
      show (if k1 = (iI a).toInt then o1 else if k2 = (iI a).toInt then o2 else dflt) = dflt
      rw [e, if_neg h1, if_neg h2]
end GL
