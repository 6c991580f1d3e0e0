/-! a level of the search: what holds at its candidates, and how it ends -/
def flI (F : (Int → Int) → Int → Prop) (n N fo k : Int) (us ly wa wv : Int → Int) (e0 : gS) (c : Int) (us1 ly1 wa1 : Int → Int) (fd tc : Int) : Prop :=
  ((0 ≤ fd ∧ fd ≤ tc ∧ tc ≤ 60000) ∧ (fo = 1 → fd = 0)) ∧ (∀ j, 0 ≤ j ∧ j < n → us1 j = us j) ∧ (∀ j, 0 ≤ j ∧ j < k → ly1 j = ly j) ∧ (∀ d, 0 ≤ d ∧ d < 4 → wa1 (k * 4 + d) = wv d) ∧ (∀ j, j < k * 4 → wa1 j = wa j) ∧ ∃ q u : Int → Int, (∀ j, 0 ≤ j ∧ j < k → q j = ly j) ∧ q k = c ∧ (∀ j, 0 ≤ j ∧ j < n → u j = us j) ∧ rcS F n N fo e0 (k, q, u, tc, fd)
def fillR (F : (Int → Int) → Int → Prop) (n N fo k : Int) (us ly wa : Int → Int) (e0 : gS) (us2 ly2 wa2 : Int → Int) (sp2 fd2 tc2 : Int) : Prop :=
  (0 ≤ fd2 ∧ fd2 ≤ tc2 ∧ tc2 ≤ 60000) ∧
  ((sp2 = 1 ∧ ∃ (m : Nat) (q u : Int → Int), itS F n N fo m e0 = (-2, q, u, tc2, fd2))
  ∨ (sp2 = 0 ∧ fo = 1 ∧ fd2 = 1 ∧ (∃ (m : Nat) (q u : Int → Int), itS F n N fo m e0 = (-3, q, u, tc2, fd2) ∧ ∀ j, 0 ≤ j ∧ j < N → q j = ly2 j) ∧ ∀ j, 0 ≤ j ∧ j < N → 0 ≤ ly2 j ∧ ly2 j < 100)
  ∨ (sp2 = 0 ∧ (fo = 1 → fd2 = 0) ∧ (∀ j, 0 ≤ j ∧ j < n → us2 j = us j) ∧ (∀ j, 0 ≤ j ∧ j < k → ly2 j = ly j) ∧ (∀ j, j < k * 4 → wa2 j = wa j) ∧ ∃ (m : Nat) (q u : Int → Int), itS F n N fo m e0 = (k - 1, q, u, tc2, fd2) ∧ (∀ j, 0 ≤ j ∧ j < k → q j = ly j) ∧ (0 < k → ∀ j, 0 ≤ j ∧ j < n → u j = uI us (ly (k - 1) / 4) 0 j)))
theorem uI_2 (f : Int → Int) (z v w : Int) : uI (uI f z v) z w = uI f z w := by
  funext j
  unfold uI
  by_cases e : j = z
  · rw [if_pos e, if_pos e]
  · rw [if_neg e, if_neg e, if_neg e]
theorem skp_ex {u : Int → Int} {n : Int} (hn : n ≤ 25) : ∀ (m : Nat) (a : Int), 0 ≤ a → a ≤ 26 → 26 - a ≤ m → ∃ b, a ≤ b ∧ b ≤ 26 ∧ (∀ j, a ≤ j → j < b → j < n ∧ u j ≠ 0) ∧ (n ≤ b ∨ u b = 0)
  | 0, a, h0, h1, h2 => ⟨a, Int.le_refl _, h1, fun j h3 h4 => by omega, Or.inl (by omega)⟩
  | m + 1, a, h0, h1, h2 => by
    by_cases c : a < n ∧ u a ≠ 0
    · obtain ⟨b, b1, b2, b3, b4⟩ := skp_ex (u := u) hn m (a + 1) (by omega) (by omega) (by omega)
      refine ⟨b, by omega, b2, fun j h3 h4 => ?_, b4⟩
      by_cases z : j = a
      · rw [z]; exact c
      · exact b3 j (by omega) h4
    · refine ⟨a, Int.le_refl _, h1, fun j h3 h4 => by omega, ?_⟩
      by_cases z : a < n
      · exact Or.inr (Classical.byContradiction fun y => c ⟨z, y⟩)
      · exact Or.inl (by omega)
section FL
variable {F : (Int → Int) → Int → Prop} {n N fo k : Int} {us ly wa wv us1 ly1 wa1 : Int → Int} {e0 : gS} {i t fd tc : Int}
theorem stA_q (q u : Int → Int) (a v c : Int) : stA F n N fo k (uI q k c) u tc fd a v = stA F n N fo k q u tc fd a v := by
  unfold stA
  rw [uI_2]
theorem fl_skip (hk : 0 ≤ k) (hn : n ≤ 25) (hi : 0 ≤ i ∧ i < n) (hu : us1 i ≠ 0) (h : flI F n N fo k us ly wa wv e0 (i * 4 - 1) us1 ly1 wa1 fd tc) : flI F n N fo k us ly wa wv e0 ((i + 1) * 4 - 1) us1 ly1 wa1 fd tc := by
  obtain ⟨h1, h2, h3, h4, h5, q, u, hq, hqk, hu2, hr⟩ := h
  refine ⟨h1, h2, h3, h4, h5, uI q k ((i + 1) * 4 - 1), u, fun j hj => by rw [uI_ne (by omega)]; exact hq j hj, uI_eq _ _ _, hu2, rc_eq hr ?_⟩
  obtain ⟨b, b1, b2, b3, b4⟩ := skp_ex (u := u) hn 30 (i + 1) (by omega) (by omega) (by omega)
  have ui : u i ≠ 0 := by rw [hu2 i hi, ← h2 i hi]; exact hu
  have s1 : skp u n ((q k + 1) / 4) = b := by
    rw [hqk, show (i * 4 - 1 + 1) / 4 = i by omega]
    refine skp_u hi.1 hn (by omega) b2 (fun j h6 h7 => ?_) b4
    by_cases z : j = i
    · rw [z]; exact ⟨hi.2, ui⟩
    · exact b3 j (by omega) h7
  have s2 : skp u n ((uI q k ((i + 1) * 4 - 1) k + 1) / 4) = b := by
    rw [uI_eq, show ((i + 1) * 4 - 1 + 1) / 4 = i + 1 by omega]
    exact skp_u (by omega) hn b1 b2 b3 b4
  rw [st_go hk s1, st_go hk s2, stA_q, uI_eq, hqk, show (i * 4 - 1 + 1) % 4 = 0 by omega, show ((i + 1) * 4 - 1 + 1) % 4 = 0 by omega]
theorem fl_exit (hk : 0 ≤ k) (hn : 0 ≤ n ∧ n ≤ 25) (h : flI F n N fo k us ly wa wv e0 (n * 4 - 1) us1 ly1 wa1 fd tc) : fillR F n N fo k us ly wa e0 us1 ly1 wa1 0 fd tc := by
  obtain ⟨h1, h2, h3, h4, h5, q, u, hq, hqk, hu2, hr⟩ := h
  have s1 : skp u n ((q k + 1) / 4) = n := by
    rw [hqk, show (n * 4 - 1 + 1) / 4 = n by omega]
    exact skp_u hn.1 hn.2 (Int.le_refl _) (by omega) (fun j h6 h7 => by omega) (Or.inl (Int.le_refl _))
  refine ⟨h1.1, Or.inr (Or.inr ⟨rfl, h1.2, h2, h3, h5, ?_⟩)⟩
  by_cases z : k = 0
  · obtain ⟨m, e⟩ := rc_st hr (st_back0 z s1 (Int.le_refl _))
    exact ⟨m, _, _, by rw [e, z]; rfl, fun j hj => by omega, fun y => by omega⟩
  · obtain ⟨m, e⟩ := rc_st hr (st_back (by omega) s1 (Int.le_refl _))
    refine ⟨m, _, _, e, fun j hj => by rw [uI_ne (by omega)]; exact hq j hj, fun _ j hj => ?_⟩
    rw [hq (k - 1) (by omega)]
    unfold uI
    split
    · rfl
    · exact hu2 j hj
theorem fl_at (hn : n ≤ 25) (hi : 0 ≤ i ∧ i < n) (ht : 0 ≤ t ∧ t < 4) {u : Int → Int} {c : Int} (hc : c = i * 4 + t - 1) (hu : u i = 0) : skp u n ((c + 1) / 4) = i ∧ i * 4 + (c + 1) % 4 = i * 4 + t := by
  subst hc
  refine ⟨?_, by omega⟩
  rw [show (i * 4 + t - 1 + 1) / 4 = i by omega]
  exact skp_u hi.1 hn (Int.le_refl _) (by omega) (fun j h6 h7 => by omega) (Or.inr hu)
theorem fl_spent (hk : 0 ≤ k) (hn : n ≤ 25) (hi : 0 ≤ i ∧ i < n) (ht : 0 ≤ t ∧ t < 4) (hu : us1 i = 0) (htc : 60000 ≤ tc) (h : flI F n N fo k us ly wa wv e0 (i * 4 + t - 1) us1 ly1 wa1 fd tc) {us3 ly3 wa3 : Int → Int} : fillR F n N fo k us ly wa e0 us3 ly3 wa3 1 fd tc := by
  obtain ⟨h1, h2, h3, h4, h5, q, u, hq, hqk, hu2, hr⟩ := h
  obtain ⟨s1, s2⟩ := fl_at hn hi ht hqk ((hu2 i hi).trans ((h2 i hi).symm.trans hu))
  obtain ⟨m, e⟩ := rc_st hr (st_spent hk s1 hi.2 (by omega))
  exact ⟨h1.1, Or.inl ⟨rfl, m, _, _, e⟩⟩
theorem fl_not (hk : 0 ≤ k) (hn : n ≤ 25) (hi : 0 ≤ i ∧ i < n) (ht : 0 ≤ t ∧ t < 4) (hu : us1 i = 0) (htc : tc < 60000) (hF : ∀ q : Int → Int, (∀ j, 0 ≤ j ∧ j < k → q j = ly j) → q k = i * 4 + t → ¬ F q k) (h : flI F n N fo k us ly wa wv e0 (i * 4 + t - 1) us1 ly1 wa1 fd tc) : flI F n N fo k us ly wa wv e0 (i * 4 + (t + 1) - 1) us1 ly1 wa1 fd (tc + 1) := by
  obtain ⟨h1, h2, h3, h4, h5, q, u, hq, hqk, hu2, hr⟩ := h
  obtain ⟨s1, s2⟩ := fl_at hn hi ht hqk ((hu2 i hi).trans ((h2 i hi).symm.trans hu))
  have hq1 : ∀ j, 0 ≤ j ∧ j < k → uI q k (i * 4 + (q k + 1) % 4) j = ly j := fun j hj => by rw [uI_ne (by omega)]; exact hq j hj
  have hq2 : uI q k (i * 4 + (q k + 1) % 4) k = i * 4 + t := by rw [uI_eq]; exact s2
  have e := st_not (tc := tc) (fd := fd) (N := N) (fo := fo) hk s1 hi.2 (by omega) (hF _ hq1 hq2)
  exact ⟨⟨by omega, h1.2⟩, h2, h3, h4, h5, _, _, hq1, by rw [hq2]; omega, hu2, rc_it (rc_st hr e)⟩
theorem fl_last1 (hk : 0 ≤ k) (hn : n ≤ 25) (hi : 0 ≤ i ∧ i < n) (ht : 0 ≤ t ∧ t < 4) (hu : us1 i = 0) (htc : tc < 60000) (hN : k + 1 = N) (hfo : fo = 1) (hlb : ∀ j, 0 ≤ j ∧ j < k → 0 ≤ ly j ∧ ly j < 100) (hF : ∀ q : Int → Int, (∀ j, 0 ≤ j ∧ j < k → q j = ly j) → q k = i * 4 + t → F q k) (h : flI F n N fo k us ly wa wv e0 (i * 4 + t - 1) us1 ly1 wa1 fd tc) {us3 wa3 : Int → Int} : fillR F n N fo k us ly wa e0 us3 (uI ly1 k (i * 4 + t)) wa3 0 (fd + 1) (tc + 1) := by
  obtain ⟨h1, h2, h3, h4, h5, q, u, hq, hqk, hu2, hr⟩ := h
  obtain ⟨s1, s2⟩ := fl_at hn hi ht hqk ((hu2 i hi).trans ((h2 i hi).symm.trans hu))
  have hq1 : ∀ j, 0 ≤ j ∧ j < k → uI q k (i * 4 + (q k + 1) % 4) j = ly j := fun j hj => by rw [uI_ne (by omega)]; exact hq j hj
  have hq2 : uI q k (i * 4 + (q k + 1) % 4) k = i * 4 + t := by rw [uI_eq]; exact s2
  have hf0 := h1.2 hfo
  obtain ⟨m, e⟩ := rc_st hr (st_last1 hk s1 hi.2 (by omega) (hF _ hq1 hq2) (by omega) ⟨hfo, by omega⟩)
  have hly : ∀ j, 0 ≤ j ∧ j < N → uI q k (i * 4 + (q k + 1) % 4) j = uI ly1 k (i * 4 + t) j := fun j hj => by
    by_cases z : j = k
    · rw [z, uI_eq, uI_eq]; exact s2
    · rw [uI_ne z, uI_ne z, hq j (by omega), h3 j (by omega)]
  refine ⟨by omega, Or.inr (Or.inl ⟨rfl, hfo, by omega, ⟨m, _, _, e, hly⟩, fun j hj => ?_⟩)⟩
  by_cases z : j = k
  · rw [z, uI_eq]; omega
  · rw [uI_ne z, h3 j (by omega)]; exact hlb j (by omega)
theorem fl_last (hk : 0 ≤ k) (hn : n ≤ 25) (hi : 0 ≤ i ∧ i < n) (ht : 0 ≤ t ∧ t < 4) (hu : us1 i = 0) (htc : tc < 60000) (hN : k + 1 = N) (hfo : fo ≠ 1) (hF : ∀ q : Int → Int, (∀ j, 0 ≤ j ∧ j < k → q j = ly j) → q k = i * 4 + t → F q k) (h : flI F n N fo k us ly wa wv e0 (i * 4 + t - 1) us1 ly1 wa1 fd tc) : flI F n N fo k us ly wa wv e0 (i * 4 + (t + 1) - 1) (uI (uI us1 i 1) i 0) (uI ly1 k (i * 4 + t)) wa1 (fd + 1) (tc + 1) := by
  obtain ⟨h1, h2, h3, h4, h5, q, u, hq, hqk, hu2, hr⟩ := h
  obtain ⟨s1, s2⟩ := fl_at hn hi ht hqk ((hu2 i hi).trans ((h2 i hi).symm.trans hu))
  have hq1 : ∀ j, 0 ≤ j ∧ j < k → uI q k (i * 4 + (q k + 1) % 4) j = ly j := fun j hj => by rw [uI_ne (by omega)]; exact hq j hj
  have hq2 : uI q k (i * 4 + (q k + 1) % 4) k = i * 4 + t := by rw [uI_eq]; exact s2
  have e := st_last (tc := tc) (fd := fd) (N := N) (fo := fo) hk s1 hi.2 (by omega) (hF _ hq1 hq2) (by omega) (by omega)
  refine ⟨⟨by omega, fun z => absurd z hfo⟩, fun j hj => ?_, fun j hj => by rw [uI_ne (by omega)]; exact h3 j hj, h4, h5, _, _, hq1, by rw [hq2]; omega, hu2, rc_it (rc_st hr e)⟩
  rw [uI_2]
  by_cases z : j = i
  · rw [z, uI_eq, ← h2 i hi, hu]
  · rw [uI_ne z]; exact h2 j hj
/-- one level further down -/
theorem fl_down (hk : 0 ≤ k) (hn : n ≤ 25) (hi : 0 ≤ i ∧ i < n) (ht : 0 ≤ t ∧ t < 4) (hu : us1 i = 0) (htc : tc < 60000) (hN : k + 1 ≠ N) (hF : ∀ q : Int → Int, (∀ j, 0 ≤ j ∧ j < k → q j = ly j) → q k = i * 4 + t → F q k) (h : flI F n N fo k us ly wa wv e0 (i * 4 + t - 1) us1 ly1 wa1 fd tc) :
    ∃ q1 u1 : Int → Int, (∀ j, 0 ≤ j ∧ j < k + 1 → q1 j = uI ly1 k (i * 4 + t) j) ∧ q1 (k + 1) = -1 ∧ (∀ j, 0 ≤ j ∧ j < n → u1 j = uI us1 i 1 j) ∧ ∃ m : Nat, itS F n N fo m e0 = (k + 1, q1, u1, tc + 1, fd) := by
  obtain ⟨h1, h2, h3, h4, h5, q, u, hq, hqk, hu2, hr⟩ := h
  obtain ⟨s1, s2⟩ := fl_at hn hi ht hqk ((hu2 i hi).trans ((h2 i hi).symm.trans hu))
  have hq1 : ∀ j, 0 ≤ j ∧ j < k → uI q k (i * 4 + (q k + 1) % 4) j = ly j := fun j hj => by rw [uI_ne (by omega)]; exact hq j hj
  have hq2 : uI q k (i * 4 + (q k + 1) % 4) k = i * 4 + t := by rw [uI_eq]; exact s2
  have e := st_down (tc := tc) (fd := fd) (N := N) (fo := fo) hk s1 hi.2 (by omega) (hF _ hq1 hq2) (by omega)
  refine ⟨_, _, fun j hj => ?_, uI_eq _ _ _, fun j hj => ?_, rc_st hr e⟩
  · rw [uI_ne (by omega)]
    by_cases z : j = k
    · rw [z, hq2, uI_eq]
    · rw [hq1 j (by omega), uI_ne z, h3 j (by omega)]
  · by_cases z : j = i
    · rw [z, uI_eq, uI_eq]
    · rw [uI_ne z, uI_ne z, hu2 j hj, h2 j hj]
theorem fl_up1 {e1 : gS} {us2 ly2 wa2 us3 ly3 wa3 : Int → Int} {sp2 fd2 tc2 : Int} (hb : 0 ≤ fd2 ∧ fd2 ≤ tc2 ∧ tc2 ≤ 60000) (hm : ∃ m : Nat, itS F n N fo m e0 = e1) (h : ∃ (m : Nat) (q u : Int → Int), itS F n N fo m e1 = (-2, q, u, tc2, fd2)) : fillR F n N fo k us ly wa e0 us3 ly3 wa3 1 fd2 tc2 := by
  obtain ⟨m, q, u, e⟩ := h
  obtain ⟨m2, e2⟩ := it_tr hm ⟨m, e⟩
  exact ⟨hb, Or.inl ⟨rfl, m2, q, u, e2⟩⟩
theorem fl_up2 {e1 : gS} {us3 ly2 wa3 : Int → Int} {fd2 tc2 : Int} (hb : 0 ≤ fd2 ∧ fd2 ≤ tc2 ∧ tc2 ≤ 60000) (hfo : fo = 1) (hfd : fd2 = 1) (hm : ∃ m : Nat, itS F n N fo m e0 = e1) (h : ∃ (m : Nat) (q u : Int → Int), itS F n N fo m e1 = (-3, q, u, tc2, fd2) ∧ ∀ j, 0 ≤ j ∧ j < N → q j = ly2 j) (hl : ∀ j, 0 ≤ j ∧ j < N → 0 ≤ ly2 j ∧ ly2 j < 100) : fillR F n N fo k us ly wa e0 us3 ly2 wa3 0 fd2 tc2 := by
  obtain ⟨m, q, u, e, hq⟩ := h
  obtain ⟨m2, e2⟩ := it_tr hm ⟨m, e⟩
  exact ⟨hb, Or.inr (Or.inl ⟨rfl, hfo, hfd, ⟨m2, q, u, e2, hq⟩, hl⟩)⟩
theorem fl_up3 {e1 : gS} {us2 ly2 wa2 : Int → Int} {fd2 tc2 : Int} (hk : 0 ≤ k) (hi : 0 ≤ i ∧ i < n) (ht : 0 ≤ t ∧ t < 4) (hu : us1 i = 0) (hb : 0 ≤ fd2 ∧ fd2 ≤ tc2 ∧ tc2 ≤ 60000) (hff : fo = 1 → fd2 = 0) (hus : ∀ j, 0 ≤ j ∧ j < n → us2 j = uI us1 i 1 j) (hly : ∀ j, 0 ≤ j ∧ j < k + 1 → ly2 j = uI ly1 k (i * 4 + t) j) (hwa : ∀ j, j < (k + 1) * 4 → wa2 j = wa1 j) (hm : ∃ m : Nat, itS F n N fo m e0 = e1)
    (hr : ∃ (m : Nat) (q u : Int → Int), itS F n N fo m e1 = (k + 1 - 1, q, u, tc2, fd2) ∧ (∀ j, 0 ≤ j ∧ j < k + 1 → q j = uI ly1 k (i * 4 + t) j) ∧ (0 < k + 1 → ∀ j, 0 ≤ j ∧ j < n → u j = uI (uI us1 i 1) (uI ly1 k (i * 4 + t) (k + 1 - 1) / 4) 0 j)) (h : flI F n N fo k us ly wa wv e0 (i * 4 + t - 1) us1 ly1 wa1 fd tc) : flI F n N fo k us ly wa wv e0 (i * 4 + (t + 1) - 1) (uI us2 i 0) ly2 wa2 fd2 tc2 := by
  obtain ⟨h1, h2, h3, h4, h5, -⟩ := h
  obtain ⟨m, q, u, e, hq, hu3⟩ := hr
  rw [show k + 1 - 1 = k by omega, uI_eq, show (i * 4 + t) / 4 = i by omega] at hu3
  rw [show k + 1 - 1 = k by omega] at e
  refine ⟨⟨hb, hff⟩, fun j hj => ?_, fun j hj => by rw [hly j (by omega), uI_ne (by omega)]; exact h3 j hj, fun d hd => by rw [hwa _ (by omega)]; exact h4 d hd, fun j hj => by rw [hwa j (by omega)]; exact h5 j hj, q, u, fun j hj => by rw [hq j (by omega), uI_ne (by omega)]; exact h3 j hj, by rw [hq k (by omega), uI_eq]; omega, fun j hj => ?_, rc_it (it_tr hm ⟨m, e⟩)⟩
  · by_cases z : j = i
    · rw [z, uI_eq, ← h2 i hi, hu]
    · rw [uI_ne z, hus j hj, uI_ne z]; exact h2 j hj
  · rw [hu3 (by omega) j hj]
    by_cases z : j = i
    · rw [z, uI_eq, ← h2 i hi, hu]
    · rw [uI_ne z, uI_ne z]; exact h2 j hj
end FL
