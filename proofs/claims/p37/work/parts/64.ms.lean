theorem nar_c {P : Prop} : narrow .boolean (.int (iI (cI P 1 0))) = .int (iI (cI P 1 0)) := by
  by_cases h : P
  · rw [cI_t h]; rfl
  · rw [cI_f h]; rfl
theorem uI_self (f : Int → Int) (z : Int) : uI f z (f z) = f := by
  funext j
  unfold uI
  by_cases e : j = z
  · rw [if_pos e, e]
  · rw [if_neg e]
def msI (n k : Int) (qa qf us q u : Int → Int) : Prop := (∀ j : Int, 0 ≤ j ∧ j ≤ k → q j = qa j * 4 + qf j ∧ (0 ≤ qa j ∧ qa j ≤ n) ∧ (-1 ≤ qf j ∧ qf j ≤ 3) ∧ (j < k → 0 ≤ qf j ∧ qa j < n) ∧ (qf j = -1 → qa j = 0)) ∧ ∀ j : Int, 0 ≤ j ∧ j < n → u j = us j ∧ (us j = 0 ∨ us j = 1)
section MS
variable {n k a r : Int} {qa qf us q u : Int → Int}
theorem ms_0 {i : Int} (hi : 25 ≤ i) (hn : 0 ≤ n ∧ n ≤ 25) : msI n 0 (uI qa 0 0) (uI qf 0 (-1)) (zrI us i) (fun _ => -1) (fun _ => 0) := by
  refine ⟨fun j hj => ?_, fun j hj => ?_⟩
  · have e : j = 0 := by omega
    rw [e, uI_eq, uI_eq]; dsimp only; omega
  · have e : zrI us i j = 0 := if_pos (by omega)
    rw [e]; exact ⟨rfl, Or.inl rfl⟩
theorem ms_b0 (hk : k = 0) (h : msI n k qa qf us q u) {qa2 qf2 q2 : Int → Int} : msI n (k + -1) qa2 qf2 us q2 u := ⟨fun j hj => by omega, h.2⟩
theorem ms_bk (hk : 0 < k) (hn : 0 ≤ n ∧ n ≤ 25) (h : msI n k qa qf us q u) {x : Int} : msI n (k + -1) (uI qa k a) (uI qf k r) (uI us (uI qa k a (k + -1)) 0) (uI q k x) (uI u (q (k - 1) / 4) 0) := by
  have h1 := h.1 (k + -1) (by omega)
  rw [show k - 1 = k + -1 by omega, uI_ne (f := qa) (by omega), show q (k + -1) / 4 = qa (k + -1) by omega]
  refine ⟨fun j hj => ?_, fun j hj => ?_⟩
  · have h2 := h.1 j (by omega)
    rw [uI_ne (by omega), uI_ne (by omega), uI_ne (by omega)]
    exact ⟨h2.1, h2.2.1, h2.2.2.1, fun z => h2.2.2.2.1 (by omega), h2.2.2.2.2⟩
  · by_cases z : j = qa (k + -1)
    · rw [z, uI_eq, uI_eq]; exact ⟨rfl, Or.inl rfl⟩
    · rw [uI_ne z, uI_ne z]; exact h.2 j hj
theorem ms_st (ha : 0 ≤ a ∧ a < n) (hr : 0 ≤ r ∧ r < 4) (h : msI n k qa qf us q u) : msI n k (uI qa k a) (uI qf k r) us (uI q k (a * 4 + r)) u := by
  refine ⟨fun j hj => ?_, h.2⟩
  by_cases z : j = k
  · rw [z, uI_eq, uI_eq, uI_eq]; omega
  · rw [uI_ne z, uI_ne z, uI_ne z]; exact h.1 j hj
theorem ms_dn (ha : 0 ≤ a ∧ a < n) (hr : 0 ≤ r ∧ r < 4) (h : msI n k qa qf us q u) : msI n (k + 1) (uI (uI qa k a) (k + 1) 0) (uI (uI qf k r) (k + 1) (-1)) (uI us (uI qa k a k) 1) (uI (uI q k (a * 4 + r)) (k + 1) (-1)) (uI u a 1) := by
  rw [uI_eq]
  refine ⟨fun j hj => ?_, fun j hj => ?_⟩
  · by_cases z : j = k + 1
    · rw [z, uI_eq, uI_eq, uI_eq]; omega
    · rw [uI_ne z, uI_ne z, uI_ne z]
      by_cases y : j = k
      · rw [y, uI_eq, uI_eq, uI_eq]; omega
      · rw [uI_ne y, uI_ne y, uI_ne y]
        have h2 := h.1 j (by omega)
        exact ⟨h2.1, h2.2.1, h2.2.2.1, fun _ => h2.2.2.2.1 (by omega), h2.2.2.2.2⟩
  · by_cases z : j = a
    · rw [z, uI_eq, uI_eq]; exact ⟨rfl, Or.inr rfl⟩
    · rw [uI_ne z, uI_ne z]; exact h.2 j hj
theorem ms_q (ha : 0 ≤ a ∧ a < n) (hr : 0 ≤ r ∧ r < 4) (h : msI n k qa qf us q u) : ∀ j : Int, 0 ≤ j ∧ j ≤ k → (uI qa k a j = uI q k (a * 4 + r) j / 4 ∧ uI qf k r j = uI q k (a * 4 + r) j % 4) ∧ 0 ≤ uI q k (a * 4 + r) j ∧ uI q k (a * 4 + r) j < n * 4 := by
  intro j hj
  by_cases z : j = k
  · rw [z, uI_eq, uI_eq, uI_eq]; omega
  · rw [uI_ne z, uI_ne z, uI_ne z]
    have h2 := h.1 j hj
    have h3 := h2.2.2.2.1 (by omega)
    omega
end MS
theorem fin_e (F : (Int → Int) → Int → Prop) (n N fo : Int) {s fin t : gS} {m0 m : Nat} (hfin : itS F n N fo m0 s = fin) (hneg : fin.1 < 0) (hm : itS F n N fo m s = t) (ht : t.1 < 0) : t = fin := by
  rw [← hm, ← hfin]
  exact it_fin (by rw [hm]; exact ht) (by rw [hfin]; exact hneg)
section GL
variable {p : Program} {l : Launch} {e : Env} {R : Room} {s : State} {m : MethodId} {args : Array Value} {below : List Frame} {meth : Method} {c : Code} {cells slots : Nat} {Q : State → Prop} {E : gE} {A : Nat → Prop} {nL : Nat} {ws : va_W} {lv : List (Nat × Value)} {pc : Nat} {st : List Value}
theorem g_bsplit {P : Prop} {inst : Decidable P} (kt : P → gJ p l e R s m args below meth c cells slots Q E A nL ws lv pc (.int (iI 1) :: st)) (kf : ¬ P → gJ p l e R s m args below meth c cells slots Q E A nL ws lv pc (.int (iI 0) :: st)) : gJ p l e R s m args below meth c cells slots Q E A nL ws lv pc (.int (iI (@ite Int P inst 1 0)) :: st) := by
  by_cases h : P
  · rw [if_pos h]; exact kt h
  · rw [if_neg h]; exact kf h
end GL
