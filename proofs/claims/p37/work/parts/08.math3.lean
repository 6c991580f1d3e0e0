/-! the search: what fits, and the machine of its trials -/
def edI (tn : Int → Int) (v d : Int) : Int := (d + 8 - tn (v / 4) - v % 4) % 4
def ftF (W h : Int) (pc tn : Int → Int) (v d : Int) : Prop := sdI W h (pc (v / 4)) (edI tn v d) = -9
def ftM (W h : Int) (hs pc tn : Int → Int) (v e w f : Int) : Prop := ¬ ftF W h pc tn v e ∧ ¬ ftF W h pc tn w f ∧ frI W h hs (pc (v / 4)) (edI tn v e) (pc (w / 4)) (edI tn w f) = 0
def FT (W h : Int) (hs pc tn : Int → Int) (q : Int → Int) (k : Int) : Prop :=
  ((ftF W h pc tn (q k) 0 ↔ k / W = 0) ∧ (ftF W h pc tn (q k) 1 ↔ k % W = W - 1) ∧ (ftF W h pc tn (q k) 2 ↔ k / W = h - 1) ∧ (ftF W h pc tn (q k) 3 ↔ k % W = 0)) ∧ (k / W = 0 ∨ ftM W h hs pc tn (q k) 0 (q (k - W)) 2) ∧ (k % W = 0 ∨ ftM W h hs pc tn (q k) 3 (q (k - 1)) 1)
def coI (W h : Int) (hs : Int → Int) (p e : Int) : Int := ((((0 * 19 + 9 + ehI W h hs p e 0) * 19 + 9 + ehI W h hs p e 1) * 19 + 9 + ehI W h hs p e 2) * 19 + 9 + ehI W h hs p e 3) * 19 + 9 + ehI W h hs p e 4
def maI (W h : Int) (hs : Int → Int) (p e : Int) : Int := ((((0 * 19 + 9 - ehI W h hs p e 4) * 19 + 9 - ehI W h hs p e 3) * 19 + 9 - ehI W h hs p e 2) * 19 + 9 - ehI W h hs p e 1) * 19 + 9 - ehI W h hs p e 0
theorem coI_b {W h : Int} {hs : Int → Int} (hh : hB9 hs) (p e : Int) : 0 ≤ coI W h hs p e ∧ coI W h hs p e < 2476099 := by
  have h0 := ehI_b (W := W) (h := h) hh p e 0
  have h1 := ehI_b (W := W) (h := h) hh p e 1
  have h2 := ehI_b (W := W) (h := h) hh p e 2
  have h3 := ehI_b (W := W) (h := h) hh p e 3
  have h4 := ehI_b (W := W) (h := h) hh p e 4
  unfold coI; omega
theorem maI_b {W h : Int} {hs : Int → Int} (hh : hB9 hs) (p e : Int) : 0 ≤ maI W h hs p e ∧ maI W h hs p e < 2476099 := by
  have h0 := ehI_b (W := W) (h := h) hh p e 0
  have h1 := ehI_b (W := W) (h := h) hh p e 1
  have h2 := ehI_b (W := W) (h := h) hh p e 2
  have h3 := ehI_b (W := W) (h := h) hh p e 3
  have h4 := ehI_b (W := W) (h := h) hh p e 4
  unfold maI; omega
theorem abI_0 {z : Int} : abI z = 0 ↔ z = 0 := by unfold abI; split <;> omega
theorem abI_n (z : Int) : 0 ≤ abI z := by unfold abI; split <;> omega
theorem frI_z {W h : Int} {hs : Int → Int} (p e q f : Int) : frI W h hs p e q f = 0 ↔ (ehI W h hs p e 0 = - ehI W h hs q f 4 ∧ ehI W h hs p e 1 = - ehI W h hs q f 3 ∧ ehI W h hs p e 2 = - ehI W h hs q f 2 ∧ ehI W h hs p e 3 = - ehI W h hs q f 1 ∧ ehI W h hs p e 4 = - ehI W h hs q f 0) := by
  unfold frI
  have a0 := abI_n (ehI W h hs p e 0 + ehI W h hs q f 4)
  have a1 := abI_n (ehI W h hs p e 1 + ehI W h hs q f 3)
  have a2 := abI_n (ehI W h hs p e 2 + ehI W h hs q f 2)
  have a3 := abI_n (ehI W h hs p e 3 + ehI W h hs q f 1)
  have a4 := abI_n (ehI W h hs p e 4 + ehI W h hs q f 0)
  have b0 := @abI_0 (ehI W h hs p e 0 + ehI W h hs q f 4)
  have b1 := @abI_0 (ehI W h hs p e 1 + ehI W h hs q f 3)
  have b2 := @abI_0 (ehI W h hs p e 2 + ehI W h hs q f 2)
  have b3 := @abI_0 (ehI W h hs p e 3 + ehI W h hs q f 1)
  have b4 := @abI_0 (ehI W h hs p e 4 + ehI W h hs q f 0)
  constructor
  · intro z
    have c0 := b0.mp (by omega)
    have c1 := b1.mp (by omega)
    have c2 := b2.mp (by omega)
    have c3 := b3.mp (by omega)
    have c4 := b4.mp (by omega)
    omega
  · intro z
    have c0 := b0.mpr (by omega)
    have c1 := b1.mpr (by omega)
    have c2 := b2.mpr (by omega)
    have c3 := b3.mpr (by omega)
    have c4 := b4.mpr (by omega)
    omega
theorem dig5 {a b c d e a' b' c' d' e' : Int} (ha : -9 ≤ a ∧ a ≤ 9) (hb : -9 ≤ b ∧ b ≤ 9) (hc : -9 ≤ c ∧ c ≤ 9) (hd : -9 ≤ d ∧ d ≤ 9) (he : -9 ≤ e ∧ e ≤ 9) (ha' : -9 ≤ a' ∧ a' ≤ 9) (hb' : -9 ≤ b' ∧ b' ≤ 9) (hc' : -9 ≤ c' ∧ c' ≤ 9) (hd' : -9 ≤ d' ∧ d' ≤ 9) (he' : -9 ≤ e' ∧ e' ≤ 9)
    (q : ((((0 * 19 + 9 + a) * 19 + 9 + b) * 19 + 9 + c) * 19 + 9 + d) * 19 + 9 + e = ((((0 * 19 + 9 - a') * 19 + 9 - b') * 19 + 9 - c') * 19 + 9 - d') * 19 + 9 - e') : a = -a' ∧ b = -b' ∧ c = -c' ∧ d = -d' ∧ e = -e' := by
  have h5 : e = -e' := by omega
  have h4 : d = -d' := by omega
  have h3 : c = -c' := by omega
  have h2 : b = -b' := by omega
  omega
theorem coI_ma {W h : Int} {hs : Int → Int} (hh : hB9 hs) (p e q f : Int) : coI W h hs p e = maI W h hs q f ↔ frI W h hs p e q f = 0 := by
  rw [frI_z]
  unfold coI maI
  constructor
  · intro z
    exact dig5 (ehI_b hh p e 0) (ehI_b hh p e 1) (ehI_b hh p e 2) (ehI_b hh p e 3) (ehI_b hh p e 4) (ehI_b hh q f 4) (ehI_b hh q f 3) (ehI_b hh q f 2) (ehI_b hh q f 1) (ehI_b hh q f 0) z
  · rintro ⟨z0, z1, z2, z3, z4⟩
    omega
theorem FT_c {W h : Int} {hs pc tn q q' : Int → Int} {k : Int} (hB : 1 ≤ W ∧ W ≤ 5 ∧ 1 ≤ h ∧ h ≤ 5) (hk : 0 ≤ k) (hq : ∀ j, 0 ≤ j ∧ j ≤ k → q j = q' j) : FT W h hs pc tn q k ↔ FT W h hs pc tn q' k := by
  unfold FT
  rw [hq k ⟨hk, Int.le_refl _⟩]
  by_cases c1 : k / W = 0
  · by_cases c2 : k % W = 0
    · simp only [c1, c2, true_or]
    · have hk1 : 0 ≤ k - 1 := by
        by_cases z : k = 0
        · rw [z, Int.zero_emod] at c2; omega
        · omega
      rw [hq (k - 1) ⟨hk1, by omega⟩]
      simp only [c1, true_or]
  · have hkW : 0 ≤ k - W := by
      by_cases z : k < W
      · rw [Int.ediv_eq_zero_of_lt hk z] at c1; omega
      · omega
    rw [hq (k - W) ⟨hkW, by omega⟩, hq (k - 1) ⟨by omega, by omega⟩]
abbrev gS : Type := Int × (Int → Int) × (Int → Int) × Int × Int
def skN (u : Int → Int) (n : Int) : Nat → Int → Int
  | 0, a => a
  | m + 1, a => if a < n ∧ u a ≠ 0 then skN u n m (a + 1) else a
def skp (u : Int → Int) (n a : Int) : Int := skN u n 30 a
theorem skN_u {u : Int → Int} {n : Int} : ∀ (m : Nat) (a b : Int), a ≤ b → b - a ≤ m → (∀ j, a ≤ j → j < b → j < n ∧ u j ≠ 0) → (n ≤ b ∨ u b = 0) → skN u n m a = b
  | 0, a, b, h1, h2, _, _ => by show a = b; omega
  | m + 1, a, b, h1, h2, h3, h4 => by
    show (if a < n ∧ u a ≠ 0 then skN u n m (a + 1) else a) = b
    by_cases e : a = b
    · subst e
      rw [if_neg (by intro q; rcases h4 with z | z <;> omega)]
    · rw [if_pos (h3 a (Int.le_refl _) (by omega))]
      exact skN_u m (a + 1) b (by omega) (by omega) (fun j h5 h6 => h3 j (by omega) h6) h4
theorem skp_u {u : Int → Int} {n a b : Int} (h0 : 0 ≤ a) (hn : n ≤ 25) (h1 : a ≤ b) (hb : b ≤ 26) (h3 : ∀ j, a ≤ j → j < b → j < n ∧ u j ≠ 0) (h4 : n ≤ b ∨ u b = 0) : skp u n a = b := skN_u 30 a b h1 (by omega) h3 h4
noncomputable def stA (F : (Int → Int) → Int → Prop) (n N fo k : Int) (q u : Int → Int) (tc fd a v : Int) : gS :=
  if n ≤ a then (if k = 0 then (-1, uI q k v, u, tc, fd) else (k - 1, uI q k v, uI u (uI q k v (k - 1) / 4) 0, tc, fd))
  else if tc = 60000 then (-2, uI q k v, u, tc, fd)
  else @ite gS (F (uI q k v) k) (Classical.propDecidable _) (if k = N - 1 then (if fo = 1 ∧ fd + 1 = 1 then (-3, uI q k v, u, tc + 1, fd + 1) else (k, uI q k v, u, tc + 1, fd + 1)) else (k + 1, uI (uI q k v) (k + 1) (-1), uI u a 1, tc + 1, fd)) (k, uI q k v, u, tc + 1, fd)
noncomputable def stp (F : (Int → Int) → Int → Prop) (n N fo : Int) (s : gS) : gS :=
  if s.1 < 0 then s else stA F n N fo s.1 s.2.1 s.2.2.1 s.2.2.2.1 s.2.2.2.2 (skp s.2.2.1 n ((s.2.1 s.1 + 1) / 4)) (skp s.2.2.1 n ((s.2.1 s.1 + 1) / 4) * 4 + (s.2.1 s.1 + 1) % 4)
noncomputable def itS (F : (Int → Int) → Int → Prop) (n N fo : Int) : Nat → gS → gS
  | 0, s => s
  | m + 1, s => stp F n N fo (itS F n N fo m s)
theorem itS_a (F : (Int → Int) → Int → Prop) (n N fo : Int) (s : gS) (a : Nat) : ∀ b : Nat, itS F n N fo b (itS F n N fo a s) = itS F n N fo (a + b) s
  | 0 => rfl
  | b + 1 => by
    show stp F n N fo (itS F n N fo b (itS F n N fo a s)) = stp F n N fo (itS F n N fo (a + b) s)
    rw [itS_a F n N fo s a b]
section ST
variable {F : (Int → Int) → Int → Prop} {n N fo k : Int} {q u : Int → Int} {tc fd a : Int}
theorem st_go (hk : 0 ≤ k) (ha : skp u n ((q k + 1) / 4) = a) : stp F n N fo (k, q, u, tc, fd) = stA F n N fo k q u tc fd a (a * 4 + (q k + 1) % 4) := by
  show (if k < 0 then _ else stA F n N fo k q u tc fd (skp u n ((q k + 1) / 4)) (skp u n ((q k + 1) / 4) * 4 + (q k + 1) % 4)) = _
  rw [if_neg (by omega), ha]
theorem st_halt {s : gS} (h : s.1 < 0) : stp F n N fo s = s := if_pos h
theorem st_back0 (hk : k = 0) (ha : skp u n ((q k + 1) / 4) = a) (h : n ≤ a) : stp F n N fo (k, q, u, tc, fd) = (-1, uI q k (a * 4 + (q k + 1) % 4), u, tc, fd) := by
  rw [st_go (by omega) ha]; unfold stA; rw [if_pos h, if_pos hk]
theorem st_back (hk : 0 < k) (ha : skp u n ((q k + 1) / 4) = a) (h : n ≤ a) : stp F n N fo (k, q, u, tc, fd) = (k - 1, uI q k (a * 4 + (q k + 1) % 4), uI u (q (k - 1) / 4) 0, tc, fd) := by
  rw [st_go (by omega) ha]; unfold stA; rw [if_pos h, if_neg (by omega), uI_ne (f := q) (by omega)]
theorem st_spent (hk : 0 ≤ k) (ha : skp u n ((q k + 1) / 4) = a) (h : a < n) (ht : tc = 60000) : stp F n N fo (k, q, u, tc, fd) = (-2, uI q k (a * 4 + (q k + 1) % 4), u, tc, fd) := by
  rw [st_go hk ha]; unfold stA; rw [if_neg (by omega), if_pos ht]
theorem st_not (hk : 0 ≤ k) (ha : skp u n ((q k + 1) / 4) = a) (h : a < n) (ht : tc ≠ 60000) (hF : ¬ F (uI q k (a * 4 + (q k + 1) % 4)) k) : stp F n N fo (k, q, u, tc, fd) = (k, uI q k (a * 4 + (q k + 1) % 4), u, tc + 1, fd) := by
  rw [st_go hk ha]; unfold stA; rw [if_neg (by omega), if_neg ht, if_neg hF]
theorem st_last1 (hk : 0 ≤ k) (ha : skp u n ((q k + 1) / 4) = a) (h : a < n) (ht : tc ≠ 60000) (hF : F (uI q k (a * 4 + (q k + 1) % 4)) k) (hN : k = N - 1) (hf : fo = 1 ∧ fd + 1 = 1) : stp F n N fo (k, q, u, tc, fd) = (-3, uI q k (a * 4 + (q k + 1) % 4), u, tc + 1, fd + 1) := by
  rw [st_go hk ha]; unfold stA; rw [if_neg (by omega), if_neg ht, if_pos hF, if_pos hN, if_pos hf]
theorem st_last (hk : 0 ≤ k) (ha : skp u n ((q k + 1) / 4) = a) (h : a < n) (ht : tc ≠ 60000) (hF : F (uI q k (a * 4 + (q k + 1) % 4)) k) (hN : k = N - 1) (hf : ¬ (fo = 1 ∧ fd + 1 = 1)) : stp F n N fo (k, q, u, tc, fd) = (k, uI q k (a * 4 + (q k + 1) % 4), u, tc + 1, fd + 1) := by
  rw [st_go hk ha]; unfold stA; rw [if_neg (by omega), if_neg ht, if_pos hF, if_pos hN, if_neg hf]
theorem st_down (hk : 0 ≤ k) (ha : skp u n ((q k + 1) / 4) = a) (h : a < n) (ht : tc ≠ 60000) (hF : F (uI q k (a * 4 + (q k + 1) % 4)) k) (hN : k ≠ N - 1) : stp F n N fo (k, q, u, tc, fd) = (k + 1, uI (uI q k (a * 4 + (q k + 1) % 4)) (k + 1) (-1), uI u a 1, tc + 1, fd) := by
  rw [st_go hk ha]; unfold stA; rw [if_neg (by omega), if_neg ht, if_pos hF, if_neg hN]
end ST
/-- s comes to a state whose next is c's next -/
def rcS (F : (Int → Int) → Int → Prop) (n N fo : Int) (s c : gS) : Prop := ∃ m : Nat, stp F n N fo (itS F n N fo m s) = stp F n N fo c
theorem rc_rf {F : (Int → Int) → Int → Prop} {n N fo : Int} (s : gS) : rcS F n N fo s s := ⟨0, rfl⟩
theorem rc_it {F : (Int → Int) → Int → Prop} {n N fo : Int} {s c : gS} (h : ∃ m : Nat, itS F n N fo m s = c) : rcS F n N fo s c := by
  obtain ⟨m, e⟩ := h
  exact ⟨m, by rw [e]⟩
theorem rc_eq {F : (Int → Int) → Int → Prop} {n N fo : Int} {s c d : gS} (h : rcS F n N fo s c) (e : stp F n N fo c = stp F n N fo d) : rcS F n N fo s d := by
  obtain ⟨m, q⟩ := h
  exact ⟨m, q.trans e⟩
theorem rc_st {F : (Int → Int) → Int → Prop} {n N fo : Int} {s c d : gS} (h : rcS F n N fo s c) (e : stp F n N fo c = d) : ∃ m : Nat, itS F n N fo m s = d := by
  obtain ⟨m, q⟩ := h
  exact ⟨m + 1, q.trans e⟩
theorem it_tr {F : (Int → Int) → Int → Prop} {n N fo : Int} {s c d : gS} (h : ∃ m : Nat, itS F n N fo m s = c) (h2 : ∃ m : Nat, itS F n N fo m c = d) : ∃ m : Nat, itS F n N fo m s = d := by
  obtain ⟨a, e⟩ := h
  obtain ⟨b, e2⟩ := h2
  exact ⟨a + b, by rw [← itS_a, e, e2]⟩
