/-! the law's own search against the machine of trials: with fo = 0 to its end, with fo = 1 for the first way -/
section LS
variable {F : (Int → Int) → Int → Prop} {n N k fd tc ft a : Int} {qa qf us q u fi : Int → Int} {m : Nat}
theorem it_s {fo : Int} {s t x : gS} {m : Nat} (h : itS F n N fo m s = t) (e : stp F n N fo t = x) : itS F n N fo (m + 1) s = x := by
  show stp F n N fo (itS F n N fo m s) = x
  rw [h]
  exact e
end LS
/-- the first way was found by the ft-th trial, and the row fi tells it -/
def f3 (F : (Int → Int) → Int → Prop) (n N : Int) (fi : Int → Int) (ft : Int) : Prop := ∃ (m : Nat) (q u : Int → Int), itS F n N 1 m (0, (fun _ => -1), (fun _ => 0), 0, 0) = (-3, q, u, ft, 1) ∧ ∀ j : Int, 0 ≤ j ∧ j < N → (fi (2 * j) = q j / 4 ∧ fi (2 * j + 1) = q j % 4) ∧ 0 ≤ q j
def f2 (F : (Int → Int) → Int → Prop) (n N fo : Int) : Prop := ∃ (m : Nat) (q u : Int → Int) (d : Int), itS F n N fo m (0, (fun _ => -1), (fun _ => 0), 0, 0) = (-2, q, u, 60000, d)
def fsI (F : (Int → Int) → Int → Prop) (n N : Int) (fi : Int → Int) (fd tc ft k : Int) (q u : Int → Int) : Prop := (fd = 0 ∧ ∃ m : Nat, itS F n N 1 m (0, (fun _ => -1), (fun _ => 0), 0, 0) = (k, q, u, tc, 0)) ∨ (1 ≤ fd ∧ ft ≤ 60000 ∧ f3 F n N fi ft)
def lsA (F : (Int → Int) → Int → Prop) (n N : Int) (qa qf fi us : Int → Int) (fd tc ft k : Int) : Prop := tc ≤ 60000 ∧ ∃ (m : Nat) (q u : Int → Int), itS F n N 0 m (0, (fun _ => -1), (fun _ => 0), 0, 0) = (k, q, u, tc, fd) ∧ msI n k qa qf us q u ∧ fsI F n N fi fd tc ft k q u
def lsB (F : (Int → Int) → Int → Prop) (n N : Int) (fi : Int → Int) (fd tc ft : Int) : Prop := tc = 60001 ∧ f2 F n N 0 ∧ ((fd = 0 ∧ f2 F n N 1) ∨ (1 ≤ fd ∧ ft ≤ 60000 ∧ f3 F n N fi ft) ∨ (1 ≤ fd ∧ ft = 60001 ∧ f2 F n N 1))
def LInv (F : (Int → Int) → Int → Prop) (n N : Int) (qa qf fi us : Int → Int) (fd tc ft k : Int) : Prop := ((-1 ≤ k ∧ k < N) ∧ (0 ≤ fd ∧ fd ≤ tc ∧ tc ≤ 60001) ∧ 0 ≤ ft ∧ ft ≤ 60001) ∧ (lsA F n N qa qf fi us fd tc ft k ∨ lsB F n N fi fd tc ft)
def en0 (F : (Int → Int) → Int → Prop) (n N fd tc : Int) : Prop := (tc ≤ 60000 ∧ ∃ (m : Nat) (q u : Int → Int), itS F n N 0 m (0, (fun _ => -1), (fun _ => 0), 0, 0) = (-1, q, u, tc, fd)) ∨ (tc = 60001 ∧ f2 F n N 0)
def en1 (F : (Int → Int) → Int → Prop) (n N : Int) (fi : Int → Int) (fd tc ft : Int) : Prop := (fd = 0 ∧ tc ≤ 60000 ∧ ∃ (m : Nat) (q u : Int → Int), itS F n N 1 m (0, (fun _ => -1), (fun _ => 0), 0, 0) = (-1, q, u, tc, 0)) ∨ (fd = 0 ∧ tc = 60001 ∧ f2 F n N 1) ∨ (1 ≤ fd ∧ ft ≤ 60000 ∧ f3 F n N fi ft) ∨ (1 ≤ fd ∧ ft = 60001 ∧ tc = 60001 ∧ f2 F n N 1)
section LS
variable {F : (Int → Int) → Int → Prop} {n N k fd tc ft a : Int} {qa qf us q u fi : Int → Int} {m : Nat}
theorem fs_same {k' tc' : Int} {q' u' : Int → Int} (h : fsI F n N fi fd tc ft k q u) (e : stp F n N 1 (k, q, u, tc, fd) = (k', q', u', tc', fd)) : fsI F n N fi fd tc' ft k' q' u' := by
  rcases h with ⟨h0, m1, e1⟩ | h
  · subst h0
    exact Or.inl ⟨rfl, m1 + 1, it_s e1 e⟩
  · exact Or.inr h
theorem li_0 (hn : 0 ≤ n ∧ n ≤ 25) (hN : 1 ≤ N) : LInv F n N (fun _ => 0) (uI (fun _ => 0) 0 (-1)) (fun _ => 0) (fun _ => 0) 0 0 0 0 := by
  refine ⟨by omega, Or.inl ⟨by omega, 0, _, _, rfl, ⟨fun j hj => ?_, fun j hj => ⟨rfl, Or.inl rfl⟩⟩, Or.inl ⟨rfl, 0, rfl⟩⟩⟩
  have e : j = 0 := by omega
  rw [e, uI_eq]
  dsimp only
  omega
theorem li_A (h : LInv F n N qa qf fi us fd tc ft k) (ht : tc ≤ 60000) : ((-1 ≤ k ∧ k < N) ∧ (0 ≤ fd ∧ fd ≤ tc ∧ tc ≤ 60000) ∧ 0 ≤ ft ∧ ft ≤ 60001) ∧ ∃ (m : Nat) (q u : Int → Int), itS F n N 0 m (0, (fun _ => -1), (fun _ => 0), 0, 0) = (k, q, u, tc, fd) ∧ msI n k qa qf us q u ∧ fsI F n N fi fd tc ft k q u := by
  obtain ⟨h1, ⟨-, h2⟩ | h2⟩ := h
  · exact ⟨by omega, h2⟩
  · have := h2.1; omega
section ST2
variable (hb : (-1 ≤ k ∧ k < N) ∧ (0 ≤ fd ∧ fd ≤ tc ∧ tc ≤ 60000) ∧ 0 ≤ ft ∧ ft ≤ 60001) (hI : itS F n N 0 m (0, (fun _ => -1), (fun _ => 0), 0, 0) = (k, q, u, tc, fd)) (hms : msI n k qa qf us q u) (hfs : fsI F n N fi fd tc ft k q u) (hsk : skp u n ((q k + 1) / 4) = a)
theorem li_b0 (hb : (-1 ≤ k ∧ k < N) ∧ (0 ≤ fd ∧ fd ≤ tc ∧ tc ≤ 60000) ∧ 0 ≤ ft ∧ ft ≤ 60001) (hI : itS F n N 0 m (0, (fun _ => -1), (fun _ => 0), 0, 0) = (k, q, u, tc, fd)) (hms : msI n k qa qf us q u) (hfs : fsI F n N fi fd tc ft k q u) (hsk : skp u n ((q k + 1) / 4) = a) (hk : k = 0) (ha : n ≤ a) {qa2 qf2 : Int → Int} : LInv F n N qa2 qf2 fi us fd tc ft (k + -1) := by
  have e : ∀ fo : Int, stp F n N fo (k, q, u, tc, fd) = (k + -1, uI q k (a * 4 + (q k + 1) % 4), u, tc, fd) := fun fo => (st_back0 hk hsk ha).trans (by rw [show k + -1 = -1 by omega])
  exact ⟨by omega, Or.inl ⟨by omega, m + 1, _, _, it_s hI (e 0), ms_b0 hk hms, fs_same hfs (e 1)⟩⟩
theorem li_bk (hb : (-1 ≤ k ∧ k < N) ∧ (0 ≤ fd ∧ fd ≤ tc ∧ tc ≤ 60000) ∧ 0 ≤ ft ∧ ft ≤ 60001) (hI : itS F n N 0 m (0, (fun _ => -1), (fun _ => 0), 0, 0) = (k, q, u, tc, fd)) (hms : msI n k qa qf us q u) (hfs : fsI F n N fi fd tc ft k q u) (hsk : skp u n ((q k + 1) / 4) = a) (hn : 0 ≤ n ∧ n ≤ 25) (hk : 0 < k) (ha : n ≤ a) {r : Int} : LInv F n N (uI qa k a) (uI qf k r) fi (uI us (uI qa k a (k + -1)) 0) fd tc ft (k + -1) := by
  have e : ∀ fo : Int, stp F n N fo (k, q, u, tc, fd) = (k + -1, uI q k (a * 4 + (q k + 1) % 4), uI u (q (k - 1) / 4) 0, tc, fd) := fun fo => (st_back hk hsk ha).trans (by rw [show k + -1 = k - 1 by omega])
  exact ⟨by omega, Or.inl ⟨by omega, m + 1, _, _, it_s hI (e 0), ms_bk hk hn hms, fs_same hfs (e 1)⟩⟩
theorem ls_sp (hI : itS F n N 0 m (0, (fun _ => -1), (fun _ => 0), 0, 0) = (k, q, u, tc, fd)) (hfs : fsI F n N fi fd tc ft k q u) (hsk : skp u n ((q k + 1) / 4) = a) (hk : 0 ≤ k) (ha : a < n) (ht : tc = 60000) : f2 F n N 0 ∧ ((fd = 0 ∧ f2 F n N 1) ∨ (1 ≤ fd ∧ ft ≤ 60000 ∧ f3 F n N fi ft)) := by
  subst ht
  refine ⟨⟨m + 1, _, _, _, it_s hI (st_spent hk hsk ha rfl)⟩, ?_⟩
  rcases hfs with ⟨h0, m1, e1⟩ | h
  · subst h0
    exact Or.inl ⟨rfl, m1 + 1, _, _, _, it_s e1 (st_spent hk hsk ha rfl)⟩
  · exact Or.inr h
theorem li_nf (hb : (-1 ≤ k ∧ k < N) ∧ (0 ≤ fd ∧ fd ≤ tc ∧ tc ≤ 60000) ∧ 0 ≤ ft ∧ ft ≤ 60001) (hI : itS F n N 0 m (0, (fun _ => -1), (fun _ => 0), 0, 0) = (k, q, u, tc, fd)) (hms : msI n k qa qf us q u) (hfs : fsI F n N fi fd tc ft k q u) (hsk : skp u n ((q k + 1) / 4) = a) (hk : 0 ≤ k) (ha : 0 ≤ a ∧ a < n) (hF : ¬ F (uI q k (a * 4 + (q k + 1) % 4)) k) : LInv F n N (uI qa k a) (uI qf k ((q k + 1) % 4)) fi us fd (tc + 1) ft k := by
  by_cases z : tc = 60000
  · obtain ⟨h1, h2⟩ := ls_sp hI hfs hsk hk ha.2 z
    exact ⟨by omega, Or.inr ⟨by omega, h1, by rcases h2 with h2 | h2; exact Or.inl h2; exact Or.inr (Or.inl h2)⟩⟩
  · have e : ∀ fo : Int, stp F n N fo (k, q, u, tc, fd) = (k, uI q k (a * 4 + (q k + 1) % 4), u, tc + 1, fd) := fun fo => st_not hk hsk ha.2 z hF
    exact ⟨by omega, Or.inl ⟨by omega, m + 1, _, _, it_s hI (e 0), ms_st ha (by omega) hms, fs_same hfs (e 1)⟩⟩
theorem li_dn (hb : (-1 ≤ k ∧ k < N) ∧ (0 ≤ fd ∧ fd ≤ tc ∧ tc ≤ 60000) ∧ 0 ≤ ft ∧ ft ≤ 60001) (hI : itS F n N 0 m (0, (fun _ => -1), (fun _ => 0), 0, 0) = (k, q, u, tc, fd)) (hms : msI n k qa qf us q u) (hfs : fsI F n N fi fd tc ft k q u) (hsk : skp u n ((q k + 1) / 4) = a) (hk : 0 ≤ k) (ha : 0 ≤ a ∧ a < n) (hF : F (uI q k (a * 4 + (q k + 1) % 4)) k) (hN : k ≠ N - 1) : LInv F n N (uI (uI qa k a) (k + 1) 0) (uI (uI qf k ((q k + 1) % 4)) (k + 1) (-1)) fi (uI us (uI qa k a k) 1) fd (tc + 1) ft (k + 1) := by
  by_cases z : tc = 60000
  · obtain ⟨h1, h2⟩ := ls_sp hI hfs hsk hk ha.2 z
    exact ⟨by omega, Or.inr ⟨by omega, h1, by rcases h2 with h2 | h2; exact Or.inl h2; exact Or.inr (Or.inl h2)⟩⟩
  · have e : ∀ fo : Int, stp F n N fo (k, q, u, tc, fd) = (k + 1, uI (uI q k (a * 4 + (q k + 1) % 4)) (k + 1) (-1), uI u a 1, tc + 1, fd) := fun fo => st_down hk hsk ha.2 z hF hN
    exact ⟨by omega, Or.inl ⟨by omega, m + 1, _, _, it_s hI (e 0), ms_dn ha (by omega) hms, fs_same hfs (e 1)⟩⟩
theorem li_l0 (hb : (-1 ≤ k ∧ k < N) ∧ (0 ≤ fd ∧ fd ≤ tc ∧ tc ≤ 60000) ∧ 0 ≤ ft ∧ ft ≤ 60001) (hI : itS F n N 0 m (0, (fun _ => -1), (fun _ => 0), 0, 0) = (k, q, u, tc, fd)) (hms : msI n k qa qf us q u) (hfs : fsI F n N fi fd tc ft k q u) (hsk : skp u n ((q k + 1) / 4) = a) (hk : 0 ≤ k) (ha : 0 ≤ a ∧ a < n) (hF : F (uI q k (a * 4 + (q k + 1) % 4)) k) (hN : k = N - 1) (hd : fd = 0) {g : Int → Int} (hg : ∀ j : Int, 0 ≤ j ∧ j < N → g (2 * j) = uI qa k a j ∧ g (2 * j + 1) = uI qf k ((q k + 1) % 4) j) : LInv F n N (uI qa k a) (uI qf k ((q k + 1) % 4)) g us (fd + 1) (tc + 1) (tc + 1) k := by
  by_cases z : tc = 60000
  · obtain ⟨h1, h2⟩ := ls_sp hI hfs hsk hk ha.2 z
    refine ⟨by omega, Or.inr ⟨by omega, h1, Or.inr (Or.inr ⟨by omega, by omega, ?_⟩)⟩⟩
    rcases h2 with h2 | h2
    · exact h2.2
    · omega
  · refine ⟨by omega, Or.inl ⟨by omega, m + 1, _, _, it_s hI (st_last hk hsk ha.2 z hF hN (fun y => by omega)), ms_st ha (by omega) hms, Or.inr ⟨by omega, by omega, ?_⟩⟩⟩
    rcases hfs with ⟨h0, m1, e1⟩ | h
    · subst h0
      refine ⟨m1 + 1, _, _, it_s e1 (st_last1 hk hsk ha.2 z hF hN ⟨rfl, rfl⟩), fun j hj => ?_⟩
      obtain ⟨g1, g2⟩ := hg j hj
      have h2 := ms_q (r := (q k + 1) % 4) ha (by omega) hms j (by omega)
      rw [g1, g2]
      exact ⟨h2.1, h2.2.1⟩
    · omega
theorem li_l1 (hb : (-1 ≤ k ∧ k < N) ∧ (0 ≤ fd ∧ fd ≤ tc ∧ tc ≤ 60000) ∧ 0 ≤ ft ∧ ft ≤ 60001) (hI : itS F n N 0 m (0, (fun _ => -1), (fun _ => 0), 0, 0) = (k, q, u, tc, fd)) (hms : msI n k qa qf us q u) (hfs : fsI F n N fi fd tc ft k q u) (hsk : skp u n ((q k + 1) / 4) = a) (hk : 0 ≤ k) (ha : 0 ≤ a ∧ a < n) (hF : F (uI q k (a * 4 + (q k + 1) % 4)) k) (hN : k = N - 1) (hd : fd ≠ 0) : LInv F n N (uI qa k a) (uI qf k ((q k + 1) % 4)) fi us (fd + 1) (tc + 1) ft k := by
  have h3 : ft ≤ 60000 ∧ f3 F n N fi ft := by
    rcases hfs with ⟨h0, -⟩ | h
    · exact absurd h0 hd
    · exact h.2
  by_cases z : tc = 60000
  · obtain ⟨h1, -⟩ := ls_sp hI hfs hsk hk ha.2 z
    exact ⟨by omega, Or.inr ⟨by omega, h1, Or.inr (Or.inl ⟨by omega, h3⟩)⟩⟩
  · exact ⟨by omega, Or.inl ⟨by omega, m + 1, _, _, it_s hI (st_last hk hsk ha.2 z hF hN (fun y => by omega)), ms_st ha (by omega) hms, Or.inr ⟨by omega, h3⟩⟩⟩
end ST2
theorem li_end (h : LInv F n N qa qf fi us fd tc ft k) (hx : k < 0 ∨ 60000 < tc) : (0 ≤ fd ∧ fd ≤ tc ∧ tc ≤ 60001) ∧ (0 ≤ ft ∧ ft ≤ 60001) ∧ en0 F n N fd tc ∧ en1 F n N fi fd tc ft := by
  obtain ⟨h1, ⟨h2, m, q, u, e, -, hf⟩ | ⟨h2, h3, h4⟩⟩ := h
  · have hk : k = -1 := by omega
    subst hk
    refine ⟨h1.2.1, h1.2.2, Or.inl ⟨h2, m, q, u, e⟩, ?_⟩
    rcases hf with ⟨h0, m1, e1⟩ | hf
    · exact Or.inl ⟨h0, h2, m1, q, u, e1⟩
    · exact Or.inr (Or.inr (Or.inl hf))
  · refine ⟨h1.2.1, h1.2.2, Or.inr ⟨h2, h3⟩, ?_⟩
    rcases h4 with h4 | h4 | h4
    · exact Or.inr (Or.inl ⟨h4.1, h2, h4.2⟩)
    · exact Or.inr (Or.inr (Or.inl h4))
    · exact Or.inr (Or.inr (Or.inr ⟨h4.1, h4.2.1, h2, h4.2.2⟩))
theorem gs_ne {a b : Int} {x y : (Int → Int) × (Int → Int) × Int × Int} (h : ((a, x) : gS) = (b, y)) (hab : a ≠ b) : False := hab (congrArg Prod.fst h)
theorem fin_u {fo : Int} {m1 m2 : Nat} {s x y : gS} (h1 : itS F n N fo m1 s = x) (hx : x.1 < 0) (h2 : itS F n N fo m2 s = y) (hy : y.1 < 0) : x = y := fin_e F n N fo h2 hy h1 hx
theorem en_run {ly2 : Int → Int} {sp2 fd2 tc2 : Int} (h : en0 F n N fd tc) (hR : runR F n N 0 ly2 sp2 fd2 tc2) : (tc ≤ 60000 ∧ sp2 = 0 ∧ fd2 = fd ∧ tc2 = tc) ∨ (60000 < tc ∧ sp2 = 1 ∧ tc2 = 60000) := by
  obtain ⟨hb, ⟨r1, m2, q2, u2, e2⟩ | ⟨r1, r2, -⟩ | ⟨r1, -, m2, q2, u2, e2⟩⟩ := hR
  · rcases h with ⟨h1, m, q, u, e⟩ | ⟨h1, m, q, u, d, e⟩
    · have z := fin_u e (show (-1 : Int) < 0 by omega) e2 (show (-2 : Int) < 0 by omega)
      exact (gs_ne z (by decide)).elim
    · have z := fin_u e (show (-2 : Int) < 0 by omega) e2 (show (-2 : Int) < 0 by omega)
      have z1 : (60000 : Int) = tc2 := congrArg (fun x : gS => x.2.2.2.1) z
      exact Or.inr ⟨by omega, r1, by omega⟩
  · omega
  · rcases h with ⟨h1, m, q, u, e⟩ | ⟨h1, m, q, u, d, e⟩
    · have z := fin_u e (show (-1 : Int) < 0 by omega) e2 (show (-1 : Int) < 0 by omega)
      have z1 : tc = tc2 := congrArg (fun x : gS => x.2.2.2.1) z
      have z2 : fd = fd2 := congrArg (fun x : gS => x.2.2.2.2) z
      exact Or.inl ⟨h1, r1, by omega, by omega⟩
    · have z := fin_u e (show (-2 : Int) < 0 by omega) e2 (show (-1 : Int) < 0 by omega)
      exact (gs_ne z (by decide)).elim
theorem en_join {ly2 jl jl2 : Int → Int} {sp2 fd2 tc2 r jo2 : Int} (h : en1 F n N fi fd tc ft) (hR : runR F n N 1 ly2 sp2 fd2 tc2) (hj : (sp2 = 1 ∧ r = -6 ∧ jo2 = 0 ∧ jl2 = jl) ∨ (sp2 = 0 ∧ r = 0 ∧ fd2 = 0 ∧ jo2 = 0 ∧ jl2 = jl) ∨ (sp2 = 0 ∧ r = 1 ∧ fd2 = 1 ∧ jo2 = 1 ∧ ∀ j : Int, 0 ≤ j ∧ j < N → jl2 j = ly2 j)) :
    (fd = 0 → jo2 = 0 ∧ ((tc ≤ 60000 ∧ r = 0) ∨ (60000 < tc ∧ r = -6))) ∧ (fd ≠ 0 → 60000 < ft → r = -6) ∧ (fd ≠ 0 → ft ≤ 60000 → r = 1 ∧ jo2 = 1 ∧ tc2 = ft ∧ ∀ j : Int, 0 ≤ j ∧ j < N → (fi (2 * j) = jl2 j / 4 ∧ fi (2 * j + 1) = jl2 j % 4) ∧ 0 ≤ jl2 j ∧ jl2 j < 100) := by
  have n1 : (-1 : Int) < 0 := by omega
  have n2 : (-2 : Int) < 0 := by omega
  have n3 : (-3 : Int) < 0 := by omega
  obtain ⟨hb, ⟨r1, m2, q2, u2, e2⟩ | ⟨r1, -, r2, ⟨m2, q2, u2, e2, hq2⟩, hl2⟩ | ⟨r1, -, m2, q2, u2, e2⟩⟩ := hR
  · have hr : r = -6 ∧ jo2 = 0 := by
      rcases hj with a | a | a
      · exact ⟨a.2.1, a.2.2.1⟩
      · omega
      · have := a.1; omega
    rcases h with ⟨h1, h2, m, q, u, e⟩ | ⟨h1, h2, -⟩ | ⟨h1, h2, m, q, u, e, -⟩ | ⟨h1, h2, h3, -⟩
    · exact (gs_ne (fin_u e n1 e2 n2) (by decide)).elim
    · exact ⟨fun _ => ⟨hr.2, Or.inr ⟨by omega, hr.1⟩⟩, fun y => by omega, fun y => by omega⟩
    · exact (gs_ne (fin_u e n3 e2 n2) (by decide)).elim
    · exact ⟨fun y => by omega, fun _ _ => hr.1, fun _ y => by omega⟩
  · have hr : r = 1 ∧ jo2 = 1 ∧ ∀ j : Int, 0 ≤ j ∧ j < N → jl2 j = ly2 j := by
      rcases hj with a | a | a
      · have := a.1; omega
      · have := a.2.2.1; omega
      · exact ⟨a.2.1, a.2.2.2.1, a.2.2.2.2⟩
    rcases h with ⟨h1, h2, m, q, u, e⟩ | ⟨h1, h2, m, q, u, d, e⟩ | ⟨h1, h2, m, q, u, e, hq⟩ | ⟨h1, h2, h3, m, q, u, d, e⟩
    · exact (gs_ne (fin_u e n1 e2 n3) (by decide)).elim
    · exact (gs_ne (fin_u e n2 e2 n3) (by decide)).elim
    · have z := fin_u e n3 e2 n3
      have z1 : ft = tc2 := congrArg (fun x : gS => x.2.2.2.1) z
      have z2 : q = q2 := congrArg (fun x : gS => x.2.1) z
      refine ⟨fun y => by omega, fun _ y => by omega, fun _ _ => ⟨hr.1, hr.2.1, z1.symm, fun j hj => ?_⟩⟩
      rw [hr.2.2 j hj, ← hq2 j hj, ← z2]
      have b := hl2 j hj
      rw [← hq2 j hj, ← z2] at b
      exact ⟨(hq j hj).1, b⟩
    · exact (gs_ne (fin_u e n2 e2 n3) (by decide)).elim
  · rcases h with ⟨h1, h2, m, q, u, e⟩ | ⟨h1, h2, m, q, u, d, e⟩ | ⟨h1, h2, m, q, u, e, hq⟩ | ⟨h1, h2, h3, m, q, u, d, e⟩
    · have z := fin_u e n1 e2 n1
      have z2 : (0 : Int) = fd2 := congrArg (fun x : gS => x.2.2.2.2) z
      have hr : r = 0 ∧ jo2 = 0 := by
        rcases hj with a | a | a
        · have := a.1; omega
        · exact ⟨a.2.1, a.2.2.2.1⟩
        · have := a.2.2.1; omega
      exact ⟨fun _ => ⟨hr.2, Or.inl ⟨h2, hr.1⟩⟩, fun y => by omega, fun y => by omega⟩
    · exact (gs_ne (fin_u e n2 e2 n1) (by decide)).elim
    · exact (gs_ne (fin_u e n3 e2 n1) (by decide)).elim
    · exact (gs_ne (fin_u e n2 e2 n1) (by decide)).elim
end LS
