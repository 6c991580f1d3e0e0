/-! level by level: how many trials a search takes at most, and that it finds a way that is there -/
def cS (T : Int) : Nat → Int
  | 0 => 0
  | d + 1 => ((d : Int) + 1) * (4 + T * cS T d)
theorem cS_n {T : Int} (hT : 0 ≤ T) : ∀ d : Nat, 0 ≤ cS T d
  | 0 => Int.le_refl 0
  | d + 1 => by
    show 0 ≤ ((d : Int) + 1) * (4 + T * cS T d)
    have h1 := Int.mul_nonneg hT (cS_n hT d)
    exact Int.mul_nonneg (by omega) (by omega)
def srH (F : (Int → Int) → Int → Prop) (G : Int → Int → Prop) (n N T : Int) (w : Int → Int) : Prop := (0 ≤ n ∧ n ≤ 25) ∧ 0 ≤ T ∧ (∀ (q q' : Int → Int) (k : Int), 0 ≤ k → (∀ j : Int, 0 ≤ j ∧ j ≤ k → q j = q' j) → (F q k ↔ F q' k)) ∧ (∀ (q : Int → Int) (k : Int), 0 ≤ k ∧ k < N → F q k → G k (q k)) ∧
  (∀ k i : Int, 0 ≤ k ∧ k < N → 0 ≤ i ∧ i < n → cI (G k (i * 4)) 1 0 + cI (G k (i * 4 + 1)) 1 0 + cI (G k (i * 4 + 2)) 1 0 + cI (G k (i * 4 + 3)) 1 0 ≤ T) ∧ (∀ k : Int, 0 ≤ k ∧ k < N → (0 ≤ w k ∧ w k < n * 4) ∧ F w k) ∧ ∀ j k : Int, 0 ≤ j ∧ j < k → k < N → w j / 4 ≠ w k / 4
noncomputable def fwI (G : Int → Int → Prop) (k : Int) (u0 : Int → Int) (S v : Int) : Int := cI (u0 (v / 4) = 0) (1 + cI (G k v) S 0) 0
theorem cI_n {P : Prop} {S : Int} (h : 0 ≤ S) : 0 ≤ cI P S 0 := by
  by_cases p : P
  · rw [cI_t p]; exact h
  · rw [cI_f p]; exact Int.le_refl 0
theorem cI_mul {P : Prop} {S : Int} : cI P S 0 = S * cI P 1 0 := by
  by_cases p : P
  · rw [cI_t p, cI_t p, Int.mul_one]
  · rw [cI_f p, cI_f p, Int.mul_zero]
theorem fw_n {G : Int → Int → Prop} {k : Int} {u0 : Int → Int} {S : Int} (h : 0 ≤ S) (v : Int) : 0 ≤ fwI G k u0 S v := by
  unfold fwI
  have := cI_n (P := G k v) h
  exact cI_n (by omega)
theorem suI_m {f : Int → Int} (hf : ∀ v, 0 ≤ f v) {a b : Int} (h0 : 0 ≤ a) (hab : a ≤ b) : suI f a ≤ suI f b := by
  have key : ∀ d, 0 ≤ d → suI f a ≤ suI f (a + d) := fun d hd => by
    refine cnI_ind (M := fun d => suI f a ≤ suI f (a + d)) (by rw [Int.add_zero]; exact Int.le_refl _) ?_ hd
    intro d hd ih
    have := hf (a + d)
    rw [← Int.add_assoc, suI_s f (by omega)]
    omega
  have := key (b - a) (by omega)
  rwa [show a + (b - a) = b by omega] at this
theorem fw_tot {G : Int → Int → Prop} {k n T S : Int} {u0 : Int → Int} (hS : 0 ≤ S) (hT : ∀ i : Int, 0 ≤ i ∧ i < n → cI (G k (i * 4)) 1 0 + cI (G k (i * 4 + 1)) 1 0 + cI (G k (i * 4 + 2)) 1 0 + cI (G k (i * 4 + 3)) 1 0 ≤ T) {i : Int} (hi : 0 ≤ i) : i ≤ n → suI (fwI G k u0 S) (i * 4) ≤ cnI (fun j => u0 j = 0) i * (4 + T * S) := by
  refine cnI_ind (M := fun i => i ≤ n → suI (fwI G k u0 S) (i * 4) ≤ cnI (fun j => u0 j = 0) i * (4 + T * S)) ?_ ?_ hi
  · intro _
    show suI (fwI G k u0 S) 0 ≤ cnI (fun j => u0 j = 0) 0 * (4 + T * S)
    rw [cnI_0, Int.zero_mul]
    exact Int.le_refl 0
  · intro i hi ih hle
    have h1 := ih (by omega)
    rw [show (i + 1) * 4 = i * 4 + 1 + 1 + 1 + 1 by omega, suI_s _ (by omega), suI_s _ (by omega), suI_s _ (by omega), suI_s _ (by omega)]
    have d0 : i * 4 / 4 = i := by omega
    have d1 : (i * 4 + 1) / 4 = i := by omega
    have d2 : (i * 4 + 1 + 1) / 4 = i := by omega
    have d3 : (i * 4 + 1 + 1 + 1) / 4 = i := by omega
    unfold fwI
    unfold fwI at h1
    rw [d0, d1, d2, d3]
    by_cases z : u0 i = 0
    · rw [cnI_st (fun j => u0 j = 0) hi z, cI_t z, cI_t z, cI_t z, cI_t z, cI_mul (P := G k (i * 4)), cI_mul (P := G k (i * 4 + 1)), cI_mul (P := G k (i * 4 + 1 + 1)), cI_mul (P := G k (i * 4 + 1 + 1 + 1)), Int.add_mul, Int.one_mul]
      have h2 := hT i ⟨hi, by omega⟩
      rw [show i * 4 + 2 = i * 4 + 1 + 1 by omega, show i * 4 + 3 = i * 4 + 1 + 1 + 1 by omega] at h2
      have h3 := Int.mul_le_mul_of_nonneg_left h2 hS
      rw [Int.mul_add, Int.mul_add, Int.mul_add, Int.mul_comm S T] at h3
      omega
    · rw [cnI_sf (fun j => u0 j = 0) hi z, cI_f z, cI_f z, cI_f z, cI_f z]
      omega
theorem cn_use {u0 : Int → Int} {b n : Int} (hb : 0 ≤ b ∧ b < n) (hu : u0 b = 0) : cnI (fun j => uI u0 b 1 j = 0) n + 1 = cnI (fun j => u0 j = 0) n := by
  have key : ∀ i, 0 ≤ i → cnI (fun j => uI u0 b 1 j = 0) i + (if b < i then 1 else 0) = cnI (fun j => u0 j = 0) i := fun i hi => by
    refine cnI_ind (M := fun i => cnI (fun j => uI u0 b 1 j = 0) i + (if b < i then 1 else 0) = cnI (fun j => u0 j = 0) i) (by rw [if_neg (by omega)]; rfl) ?_ hi
    intro i hi ih
    by_cases z : i = b
    · rw [z] at ih hi ⊢
      rw [cnI_sf (fun j => uI u0 b 1 j = 0) hi (by rw [uI_eq]; decide), cnI_st (fun j => u0 j = 0) hi hu, if_pos (by omega)]
      rw [if_neg (by omega)] at ih
      omega
    · have e : (if b < i + 1 then (1 : Int) else 0) = if b < i then 1 else 0 := by
        by_cases y : b < i
        · rw [if_pos y, if_pos (by omega)]
        · rw [if_neg y, if_neg (by omega)]
      rw [e]
      by_cases y : u0 i = 0
      · rw [cnI_st (fun j => uI u0 b 1 j = 0) hi (by rw [uI_ne z]; exact y), cnI_st (fun j => u0 j = 0) hi y]
        omega
      · rw [cnI_sf (fun j => uI u0 b 1 j = 0) hi (by rw [uI_ne z]; exact y), cnI_sf (fun j => u0 j = 0) hi y]
        omega
  have := key n (by omega)
  rw [if_pos hb.2] at this
  exact this
/-- from one level, nothing tried there yet, back to the one above -/
def srT (F : (Int → Int) → Int → Prop) (n N : Int) (w : Int → Int) (S k : Int) (q0 u0 : Int → Int) : Prop := ∀ (q u : Int → Int) (tc fd : Int), q k = -1 → (∀ j : Int, 0 ≤ j ∧ j < k → q j = q0 j) → (∀ j : Int, 0 ≤ j ∧ j < n → u j = u0 j) → 0 ≤ tc → tc + S ≤ 60000 →
  ∃ (m : Nat) (q' u' : Int → Int) (tc' fd' : Int), itS F n N 0 m (k, q, u, tc, fd) = (k - 1, q', u', tc', fd') ∧ (∀ j : Int, 0 ≤ j ∧ j < k → q' j = q0 j) ∧ (0 < k → ∀ j : Int, 0 ≤ j ∧ j < n → u' j = uI u0 (q0 (k - 1) / 4) 0 j) ∧ (tc ≤ tc' ∧ tc' ≤ tc + S) ∧ fd ≤ fd' ∧ ((∀ j : Int, 0 ≤ j ∧ j < k → q0 j = w j) → fd < fd')
section SR
variable {F : (Int → Int) → Int → Prop} {G : Int → Int → Prop} {n N T : Int} {w : Int → Int}
theorem sr_in (H : srH F G n N T w) {S k : Int} {q0 u0 : Int → Int} (hS : 0 ≤ S) (hk : 0 ≤ k ∧ k < N) (hU : ∀ i : Int, 0 ≤ i ∧ i < n → u0 i ≠ 0 → ∃ j : Int, (0 ≤ j ∧ j < k) ∧ q0 j / 4 = i)
    (hdn : k + 1 ≠ N → ∀ v b : Int, 0 ≤ b ∧ b < n → u0 b = 0 → v / 4 = b → srT F n N w S (k + 1) (uI q0 k v) (uI u0 b 1)) : ∀ (x : Nat) (c : Int) (q u : Int → Int) (tc fd : Int), n * 4 - 1 - c ≤ x → (-1 ≤ c ∧ c < n * 4) → q k = c → (∀ j : Int, 0 ≤ j ∧ j < k → q j = q0 j) → (∀ j : Int, 0 ≤ j ∧ j < n → u j = u0 j) → ((c + 1) % 4 ≠ 0 → u0 ((c + 1) / 4) = 0) → 0 ≤ tc → tc + (suI (fwI G k u0 S) (n * 4) - suI (fwI G k u0 S) (c + 1)) ≤ 60000 →
    ∃ (m : Nat) (q' u' : Int → Int) (tc' fd' : Int), itS F n N 0 m (k, q, u, tc, fd) = (k - 1, q', u', tc', fd') ∧ (∀ j : Int, 0 ≤ j ∧ j < k → q' j = q0 j) ∧ (0 < k → ∀ j : Int, 0 ≤ j ∧ j < n → u' j = uI u0 (q0 (k - 1) / 4) 0 j) ∧ (tc ≤ tc' ∧ tc' ≤ tc + (suI (fwI G k u0 S) (n * 4) - suI (fwI G k u0 S) (c + 1))) ∧ fd ≤ fd' ∧ ((∀ j : Int, 0 ≤ j ∧ j < k → q0 j = w j) → c < w k → fd < fd') := by
  obtain ⟨hn, hT, hF, hG, hGT, hw, hwi⟩ := H
  have hfn := fw_n (G := G) (k := k) (u0 := u0) hS
  have used : ∀ i : Int, 0 ≤ i ∧ i < n → u0 i ≠ 0 → (∀ j : Int, 0 ≤ j ∧ j < k → q0 j = w j) → i = w k / 4 → False := fun i hi h0 hp hiw => by
    obtain ⟨j, hj, e⟩ := hU i hi h0
    rw [hp j hj] at e
    exact hwi j k hj hk.2 (e.trans hiw)
  have ex : ∀ (c : Int) (q u : Int → Int) (tc fd b : Int), (-1 ≤ c ∧ c < n * 4) → q k = c → (∀ j : Int, 0 ≤ j ∧ j < k → q j = q0 j) → (∀ j : Int, 0 ≤ j ∧ j < n → u j = u0 j) → (c + 1) / 4 ≤ b → b ≤ 26 → (∀ j : Int, (c + 1) / 4 ≤ j → j < b → j < n ∧ u j ≠ 0) → n ≤ b →
    ∃ (m : Nat) (q' u' : Int → Int) (tc' fd' : Int), itS F n N 0 m (k, q, u, tc, fd) = (k - 1, q', u', tc', fd') ∧ (∀ j : Int, 0 ≤ j ∧ j < k → q' j = q0 j) ∧ (0 < k → ∀ j : Int, 0 ≤ j ∧ j < n → u' j = uI u0 (q0 (k - 1) / 4) 0 j) ∧ (tc ≤ tc' ∧ tc' ≤ tc + (suI (fwI G k u0 S) (n * 4) - suI (fwI G k u0 S) (c + 1))) ∧ fd ≤ fd' ∧ ((∀ j : Int, 0 ≤ j ∧ j < k → q0 j = w j) → c < w k → fd < fd') := by
    intro c q u tc fd b hc hqk hq hu hb1 hb2 hb3 hnb
    have hsk : skp u n ((q k + 1) / 4) = b := by
      rw [hqk]
      exact skp_u (by omega) hn.2 hb1 hb2 hb3 (Or.inl hnb)
    have hm := suI_m hfn (a := c + 1) (b := n * 4) (by omega) (by omega)
    have hway : (∀ j : Int, 0 ≤ j ∧ j < k → q0 j = w j) → c < w k → fd < fd := fun hp hcw => by
      have h1 := (hw k hk).1
      have h2 := hb3 (w k / 4) (by omega) (by omega)
      exact (used (w k / 4) (by omega) (by rw [← hu _ (by omega)]; exact h2.2) hp rfl).elim
    by_cases z : k = 0
    · refine ⟨1, _, _, tc, fd, (st_back0 z hsk hnb).trans (by rw [z]; rfl), fun j hj => by omega, fun y => by omega, by omega, Int.le_refl _, hway⟩
    · refine ⟨1, _, _, tc, fd, st_back (by omega) hsk hnb, fun j hj => by rw [uI_ne (by omega)]; exact hq j hj, fun _ j hj => ?_, by omega, Int.le_refl _, hway⟩
      rw [hq (k - 1) (by omega)]
      unfold uI
      split
      · rfl
      · exact hu j hj
  intro x
  induction x with
  | zero =>
    intro c q u tc fd hx hc hqk hq hu hc4 htc hle
    obtain ⟨b, hb1, hb2, hb3, hb4⟩ := skp_ex (u := u) hn.2 30 ((c + 1) / 4) (by omega) (by omega) (by omega)
    exact ex c q u tc fd b hc hqk hq hu hb1 hb2 hb3 (by omega)
  | succ x ih =>
    intro c q u tc fd hx hc hqk hq hu hc4 htc hle
    obtain ⟨b, hb1, hb2, hb3, hb4⟩ := skp_ex (u := u) hn.2 30 ((c + 1) / 4) (by omega) (by omega) (by omega)
    by_cases hnb : n ≤ b
    · exact ex c q u tc fd b hc hqk hq hu hb1 hb2 hb3 hnb
    have hub : u b = 0 := by
      rcases hb4 with y | y
      · omega
      · exact y
    have hu0b : u0 b = 0 := by rw [← hu b (by omega)]; exact hub
    have hsk : skp u n ((q k + 1) / 4) = b := by
      rw [hqk]
      exact skp_u (by omega) hn.2 hb1 hb2 hb3 (Or.inr hub)
    have hc5 : (c + 1) / 4 < b → (c + 1) % 4 = 0 := fun y => Classical.byContradiction fun z => by
      have h1 := hb3 ((c + 1) / 4) (Int.le_refl _) y
      have h2 := hc4 z
      rw [← hu _ (by omega)] at h2
      exact h1.2 h2
    obtain ⟨v, hv⟩ : ∃ v : Int, v = b * 4 + (c + 1) % 4 := ⟨_, rfl⟩
    have hv1 : v / 4 = b := by omega
    have hcv : c + 1 ≤ v := by
      by_cases y : (c + 1) / 4 < b
      · have := hc5 y; omega
      · omega
    have hv4 : (v + 1) % 4 ≠ 0 → u0 ((v + 1) / 4) = 0 := fun y => by rw [show (v + 1) / 4 = b by omega]; exact hu0b
    have hfv : fwI G k u0 S v = 1 + cI (G k v) S 0 := by
      unfold fwI
      rw [hv1, cI_t hu0b]
    have hcI := cI_n (P := G k v) hS
    have m1 := suI_m hfn (a := c + 1) (b := v) (by omega) hcv
    have m2 := suI_s (fwI G k u0 S) (i := v) (by omega)
    have m3 := suI_m hfn (a := v + 1) (b := n * 4) (by omega) (by omega)
    have hvw : (∀ j : Int, 0 ≤ j ∧ j < k → q0 j = w j) → c < w k → v ≤ w k := fun hp hcw => Classical.byContradiction fun z => by
      have h1 := (hw k hk).1
      by_cases y : w k / 4 < b
      · have h2 := hb3 (w k / 4) (by omega) y
        exact used (w k / 4) (by omega) (by rw [← hu _ (by omega)]; exact h2.2) hp rfl
      · by_cases y2 : (c + 1) / 4 < b
        · have := hc5 y2; omega
        · omega
    have hFw : (∀ j : Int, 0 ≤ j ∧ j < k → q0 j = w j) → w k = v → F (uI q k v) k := fun hp hwk => by
      refine (hF _ w k hk.1 (fun j hj => ?_)).mpr (hw k hk).2
      by_cases y : j = k
      · rw [y, uI_eq, hwk]
      · rw [uI_ne y, hq j (by omega), hp j (by omega)]
    have hqv : ∀ j : Int, 0 ≤ j ∧ j < k → uI q k v j = q0 j := fun j hj => by rw [uI_ne (by omega)]; exact hq j hj
    by_cases hFv : F (uI q k v) k
    · by_cases hN : k + 1 = N
      · have e : stp F n N 0 (k, q, u, tc, fd) = (k, uI q k v, u, tc + 1, fd + 1) := by
          have y := st_last (tc := tc) (fd := fd) (N := N) (fo := 0) hk.1 hsk (by omega) (by omega) (by rw [hqk, ← hv]; exact hFv) (by omega) (fun y => by omega)
          rw [hqk, ← hv] at y
          exact y
        obtain ⟨m, q', u', tc', fd', e1, e2, e3, e4, e5, e6⟩ := ih v (uI q k v) u (tc + 1) (fd + 1) (by omega) (by omega) (uI_eq _ _ _) hqv hu hv4 (by omega) (by omega)
        obtain ⟨m', em⟩ := it_tr ⟨1, e⟩ ⟨m, e1⟩
        exact ⟨m', q', u', tc', fd', em, e2, e3, by omega, by omega, fun _ _ => by omega⟩
      · have e : stp F n N 0 (k, q, u, tc, fd) = (k + 1, uI (uI q k v) (k + 1) (-1), uI u b 1, tc + 1, fd) := by
          have y := st_down (tc := tc) (fd := fd) (N := N) (fo := 0) hk.1 hsk (by omega) (by omega) (by rw [hqk, ← hv]; exact hFv) (by omega)
          rw [hqk, ← hv] at y
          exact y
        have hGv : G k v := by
          have y := hG _ k hk hFv
          rw [uI_eq] at y
          exact y
        rw [cI_t hGv] at hfv
        obtain ⟨m2', q2, u2, tc2, fd2, e1, e2, e3, e4, e5, e6⟩ := hdn hN v b (by omega) hu0b hv1 (uI (uI q k v) (k + 1) (-1)) (uI u b 1) (tc + 1) fd (uI_eq _ _ _) (fun j hj => by
            rw [uI_ne (by omega)]
            by_cases y : j = k
            · rw [y, uI_eq, uI_eq]
            · rw [uI_ne y, uI_ne y]; exact hq j (by omega)) (fun j hj => by
            by_cases y : j = b
            · rw [y, uI_eq, uI_eq]
            · rw [uI_ne y, uI_ne y]; exact hu j hj) (by omega) (by omega)
        rw [show k + 1 - 1 = k by omega] at e1
        have q2k : q2 k = v := by rw [e2 k (by omega), uI_eq]
        have q2j : ∀ j : Int, 0 ≤ j ∧ j < k → q2 j = q0 j := fun j hj => by rw [e2 j (by omega), uI_ne (by omega)]
        have u2j : ∀ j : Int, 0 ≤ j ∧ j < n → u2 j = u0 j := fun j hj => by
          rw [e3 (by omega) j hj, show k + 1 - 1 = k by omega, uI_eq, hv1]
          by_cases y : j = b
          · rw [y, uI_eq]; exact hu0b.symm
          · rw [uI_ne y, uI_ne y]
        obtain ⟨m3', q', u', tc', fd', g1, g2, g3, g4, g5, g6⟩ := ih v q2 u2 tc2 fd2 (by omega) (by omega) q2k q2j u2j hv4 (by omega) (by omega)
        obtain ⟨ma, ea⟩ := it_tr ⟨1, e⟩ ⟨m2', e1⟩
        obtain ⟨mb, eb⟩ := it_tr ⟨ma, ea⟩ ⟨m3', g1⟩
        refine ⟨mb, q', u', tc', fd', eb, g2, g3, by omega, by omega, fun hp hcw => ?_⟩
        have hvk := hvw hp hcw
        by_cases y : v = w k
        · have h9 := e6 (fun j hj => by
            by_cases y2 : j = k
            · rw [y2, uI_eq]; exact y
            · rw [uI_ne y2]; exact hp j (by omega))
          omega
        · have h9 := g6 hp (by omega)
          omega
    · have e : stp F n N 0 (k, q, u, tc, fd) = (k, uI q k v, u, tc + 1, fd) := by
        have y := st_not (tc := tc) (fd := fd) (N := N) (fo := 0) hk.1 hsk (by omega) (by omega) (by rw [hqk, ← hv]; exact hFv)
        rw [hqk, ← hv] at y
        exact y
      obtain ⟨m, q', u', tc', fd', e1, e2, e3, e4, e5, e6⟩ := ih v (uI q k v) u (tc + 1) fd (by omega) (by omega) (uI_eq _ _ _) hqv hu hv4 (by omega) (by omega)
      obtain ⟨m', em⟩ := it_tr ⟨1, e⟩ ⟨m, e1⟩
      refine ⟨m', q', u', tc', fd', em, e2, e3, by omega, by omega, fun hp hcw => e6 hp ?_⟩
      have hvk := hvw hp hcw
      by_cases y : w k = v
      · exact absurd (hFw hp y) hFv
      · omega
theorem sr_tot (H : srH F G n N T w) : ∀ (d : Nat) (k : Int) (q0 u0 : Int → Int), 0 ≤ k → k + (d : Int) + 1 = N → (∀ i : Int, 0 ≤ i ∧ i < n → u0 i ≠ 0 → ∃ j : Int, (0 ≤ j ∧ j < k) ∧ q0 j / 4 = i) → cnI (fun j => u0 j = 0) n ≤ (d : Int) + 1 → srT F n N w (cS T (d + 1)) k q0 u0 := by
  have H' := H
  obtain ⟨hn, hT, hF, hG, hGT, hw, hwi⟩ := H'
  have fin : ∀ (d : Nat) (k : Int) (q0 u0 : Int → Int), 0 ≤ k → k < N → (∀ i : Int, 0 ≤ i ∧ i < n → u0 i ≠ 0 → ∃ j : Int, (0 ≤ j ∧ j < k) ∧ q0 j / 4 = i) → cnI (fun j => u0 j = 0) n ≤ (d : Int) + 1 → (k + 1 ≠ N → ∀ v b : Int, 0 ≤ b ∧ b < n → u0 b = 0 → v / 4 = b → srT F n N w (cS T d) (k + 1) (uI q0 k v) (uI u0 b 1)) → srT F n N w (cS T (d + 1)) k q0 u0 := by
    intro d k q0 u0 hk hkN hU hcn hdn q u tc fd hqk hq hu htc hle
    have hS := cS_n hT d
    have ht := fw_tot (G := G) (k := k) (u0 := u0) hS (fun i hi => hGT k i ⟨hk, hkN⟩ hi) hn.1 (Int.le_refl n)
    have hmul := Int.mul_le_mul_of_nonneg_right hcn (show 0 ≤ 4 + T * cS T d by have := Int.mul_nonneg hT hS; omega)
    have hcs : cS T (d + 1) = ((d : Int) + 1) * (4 + T * cS T d) := rfl
    have h0 : suI (fwI G k u0 (cS T d)) (-1 + 1) = 0 := suI_0 _
    obtain ⟨m, q', u', tc', fd', e1, e2, e3, e4, e5, e6⟩ := sr_in H hS ⟨hk, hkN⟩ hU hdn (n * 4).toNat (-1) q u tc fd (by omega) (by omega) hqk hq hu (fun y => absurd rfl y) htc (by omega)
    exact ⟨m, q', u', tc', fd', e1, e2, e3, by omega, e5, fun hp => e6 hp (by have := (hw k ⟨hk, hkN⟩).1; omega)⟩
  intro d
  induction d with
  | zero =>
    intro k q0 u0 hk hkd hU hcn
    exact fin 0 k q0 u0 hk (by omega) hU hcn (fun y => by omega)
  | succ d ih =>
    intro k q0 u0 hk hkd hU hcn
    refine fin (d + 1) k q0 u0 hk (by omega) hU hcn (fun y v b hb hub hvb => ?_)
    refine ih (k + 1) (uI q0 k v) (uI u0 b 1) (by omega) (by omega) (fun i hi h0 => ?_) ?_
    · by_cases z : i = b
      · exact ⟨k, by omega, by rw [uI_eq, hvb, z]⟩
      · rw [uI_ne z] at h0
        obtain ⟨j, hj, e⟩ := hU i hi h0
        exact ⟨j, by omega, by rw [uI_ne (by omega)]; exact e⟩
    · have := cn_use hb hub
      omega
/-- a whole search: it ends, it is never spent, and it finds one -/
theorem sr_all (H : srH F G n N T w) (d : Nat) (hd : (d : Int) + 1 = N) (hnN : n = N) (hcs : cS T (d + 1) ≤ 60000) : ∃ (m : Nat) (q u : Int → Int) (tc fd : Int), itS F n N 0 m (0, (fun _ => -1), (fun _ => 0), 0, 0) = (-1, q, u, tc, fd) ∧ 1 ≤ fd := by
  have hn := H.1
  have hcn : cnI (fun _ : Int => (0 : Int) = 0) n ≤ n := (cnI_b _ hn.1).2
  obtain ⟨m, q, u, tc, fd, e1, -, -, -, -, e6⟩ := sr_tot H d 0 (fun _ => -1) (fun _ => 0) (Int.le_refl 0) (by omega) (fun i hi h0 => absurd rfl h0) (by show cnI (fun _ : Int => (0 : Int) = 0) n ≤ (d : Int) + 1; omega) (fun _ => -1) (fun _ => 0) 0 0 rfl (fun j hj => by omega) (fun j hj => rfl) (Int.le_refl 0) (by omega)
  exact ⟨m, q, u, tc, fd, e1, by have := e6 (fun j hj => by omega); omega⟩
end SR
