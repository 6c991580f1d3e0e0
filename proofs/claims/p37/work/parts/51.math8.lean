/-! the reference's numbers are the same -/
theorem ht5 (hs : Int → Int) (z i : Int) : hs (5 * z + i) = htI hs z i 0 := by
  unfold htI
  rw [if_pos rfl, Int.mul_comm]
theorem ht5n (hs : Int → Int) (z i : Int) : - hs (5 * z + 4 - i) = htI hs z i 1 := by
  unfold htI
  rw [if_neg (by decide), show z * 5 + (4 - i) = 5 * z + 4 - i by omega]
theorem eh_a {W h p e i : Int} {hs : Int → Int} (he : e = 1 ∨ e = 2) : hs (5 * sdI W h p e + i) = ehI W h hs p e i := by
  rw [ht5 hs]
  unfold ehI wyI
  rw [if_pos he]
theorem eh_b {W h p e i : Int} {hs : Int → Int} (he : ¬ (e = 1 ∨ e = 2)) : - hs (5 * sdI W h p e + 4 - i) = ehI W h hs p e i := by
  rw [ht5n hs]
  unfold ehI wyI
  rw [if_neg he]
theorem dfI_0 (hs : Int → Int) (z o w : Int) : dfI hs z o w = 0 ↔ ∀ j, 0 ≤ j → j < 5 → htI hs z j 0 = htI hs o j w := by
  unfold dfI
  rw [cnI_z _ (by omega)]
  exact ⟨fun q j h1 h2 => Classical.byContradiction fun y => q j h1 h2 y, fun q j h1 h2 y => y (q j h1 h2)⟩
theorem abI_c (x y : Int) : abI (x + y) = abI (y + x) := by rw [Int.add_comm]
theorem frI_c {W h : Int} {hs : Int → Int} (p e q f : Int) : frI W h hs p e q f = frI W h hs q f p e := by
  unfold frI
  rw [abI_c (ehI W h hs p e 0), abI_c (ehI W h hs p e 1), abI_c (ehI W h hs p e 2), abI_c (ehI W h hs p e 3), abI_c (ehI W h hs p e 4)]
  omega
theorem saI_c {W h : Int} {hs : Int → Int} (a b : Int) : saI W h hs a b = saI W h hs b a := by
  unfold saI
  rw [frI_c]
  split <;> split <;> first | rfl | omega
theorem suI_c {f g : Int → Int} {i : Int} (h : 0 ≤ i) (hfg : ∀ j, 0 ≤ j → j < i → f j = g j) : suI f i = suI g i := by
  have key : ∀ k, 0 ≤ k → k ≤ i → suI f k = suI g k := by
    intro k hk
    refine cnI_ind (M := fun k => k ≤ i → suI f k = suI g k) (fun _ => rfl) ?_ hk
    intro k hk ih hle
    rw [suI_s f hk, suI_s g hk, ih (by omega), hfg k hk (by omega)]
  exact key i h (Int.le_refl _)
theorem suI_a {f g : Int → Int} {i : Int} (h : 0 ≤ i) : suI (fun j => f j + g j) i = suI f i + suI g i := by
  refine cnI_ind (M := fun i => suI (fun j => f j + g j) i = suI f i + suI g i) rfl ?_ h
  intro i hi ih
  rw [suI_s _ hi, suI_s f hi, suI_s g hi, ih]
  omega
theorem suI_n {P : Int → Prop} {i : Int} (h : 0 ≤ i) : suI (fun j => cI (P j) 1 0) i = cnI P i := by
  refine cnI_ind (M := fun i => suI (fun j => cI (P j) 1 0) i = cnI P i) rfl ?_ h
  intro i hi ih
  rw [suI_s _ hi, cnI_s P hi, ih]
/-- pairs counted by their first, and by their second -/
theorem pw_swap (P : Int → Int → Prop) {n : Int} (hn : 0 ≤ n) : suI (fun a => cnI (fun b => a < b ∧ P a b) n) n = suI (fun b => cnI (fun a => P a b) b) n := by
  refine cnI_ind (M := fun n => suI (fun a => cnI (fun b => a < b ∧ P a b) n) n = suI (fun b => cnI (fun a => P a b) b) n) rfl ?_ hn
  intro n hn ih
  rw [suI_s _ hn, suI_s _ hn, ← ih]
  have e1 : cnI (fun b => n < b ∧ P n b) (n + 1) = 0 := (cnI_z _ (by omega)).mpr (fun j h1 h2 q => by have := q.1; omega)
  have e2 : suI (fun a => cnI (fun b => a < b ∧ P a b) (n + 1)) n = suI (fun a => cnI (fun b => a < b ∧ P a b) n + cI (P a n) 1 0) n := suI_c hn (fun a h1 h2 => by
    show cnI (fun b => a < b ∧ P a b) (n + 1) = cnI (fun b => a < b ∧ P a b) n + cI (P a n) 1 0
    rw [cnI_s _ hn]
    congr 1
    exact cI_c ⟨fun q => q.2, fun q => ⟨h2, q⟩⟩)
  rw [e1, e2, suI_a hn, suI_n hn, Int.add_zero]
def rwP (W h : Int) (hs : Int → Int) (d b a : Int) : Prop := saI W h hs a b ≠ -9 ∧ saI W h hs a b ≤ d
noncomputable def rwR (W h : Int) (hs : Int → Int) (d b : Int) : Int := cnI (rwP W h hs d b) b
theorem pw_rw {W h : Int} {hs : Int → Int} {d : Int} (hB : 1 ≤ W ∧ W ≤ 5 ∧ 1 ≤ h ∧ h ≤ 5) : suI (rwR W h hs d) (W * h * 4) = pwI W h hs d := by
  have hn := nsd_b hB
  exact (pw_swap (fun a b => saI W h hs a b ≠ -9 ∧ saI W h hs a b ≤ d) (n := W * h * 4) (by omega)).symm
theorem gv_o0 {hs : Int → Int} {a b w i : Int} (hab : a ≠ b) (hi : 0 ≤ i ∧ i < 5) (hw : w = 0) : gvI hs a b w i (5 * b + i) = htI hs b i w := by
  rw [hw, ← ht5 hs b i]
  exact if_neg (by omega)
theorem gv_o1 {hs : Int → Int} {a b w i : Int} (hab : a ≠ b) (hi : 0 ≤ i ∧ i < 5) (hw : w = 1) : - gvI hs a b w i (5 * b + 4 - i) = htI hs b i w := by
  rw [hw, ← ht5n hs b i]
  congr 1
  exact if_neg (by omega)
theorem gv_z {hs : Int → Int} {a b w i : Int} (hi : 0 ≤ i ∧ i < 5) : gvI hs a b w i (5 * a + i) = htI hs a i 0 := by
  rw [← ht5 hs a i]
  exact if_neg (by omega)
theorem gv_s {hs : Int → Int} {a b w i : Int} (hi : 0 ≤ i ∧ i < 5) : uI (gvI hs a b w i) (5 * a + i) (htI hs b i w) = gvI hs a b w (i + 1) := by
  funext j
  unfold uI gvI
  by_cases h : j = 5 * a + i
  · rw [if_pos h, if_pos (by omega), show j - a * 5 = i by omega]
  · rw [if_neg h]
    by_cases q : a * 5 ≤ j ∧ j < a * 5 + i
    · rw [if_pos q, if_pos (by omega)]
    · rw [if_neg q, if_neg (by omega)]
/-- a row with zeros from b on, m of them -/
def zsI (f : Int → Int) (b m : Int) : Int → Int := fun j => if b ≤ j ∧ j < b + m then 0 else f j
theorem zsI_0 (f : Int → Int) (b : Int) : zsI f b 0 = f := by
  funext j
  exact if_neg (by omega)
theorem zsI_s (f : Int → Int) {b m : Int} (h : 0 ≤ m) : uI (zsI f b m) (b + m) 0 = zsI f b (m + 1) := by
  funext j
  unfold uI zsI
  by_cases e : j = b + m
  · rw [if_pos e, if_pos (by omega)]
  · rw [if_neg e]
    by_cases q : b ≤ j ∧ j < b + m
    · rw [if_pos q, if_pos (by omega)]
    · rw [if_neg q, if_neg (by omega)]
/-- hands: the first m of a row's part; and laid down again -/
theorem cpI_0 (f g : Int → Int) (i j : Int) : cpI f g i j 0 = g := by
  funext x
  exact if_neg (by omega)
theorem cpI_s (f g : Int → Int) {i j m : Int} (h : 0 ≤ m) : uI (cpI f g i j m) (j + m) (f (i + m)) = cpI f g i j (m + 1) := by
  funext x
  unfold uI cpI
  by_cases e : x = j + m
  · rw [if_pos e, if_pos (by omega), show i + (x - j) = i + m by omega]
  · rw [if_neg e]
    by_cases q : j ≤ x ∧ x < j + m
    · rw [if_pos q, if_pos (by omega)]
    · rw [if_neg q, if_neg (by omega)]
theorem rm_s {f : Int → Int} {i k : Int} (h : i ≤ k) : uI (rmI f i (k + 1)) k (rmI f i (k + 1) (k + 1)) = rmI f i (k + 1 + 1) := by
  have := rmI_s f (i := i) (k := k + 1) (by omega)
  rwa [show k + 1 - 1 = k by omega] at this
section HT
variable {F : (Int → Int) → Int → Prop} {n N fo : Int} {s : gS}
theorem it_stay {a : Nat} (h : (itS F n N fo a s).1 < 0) : ∀ b : Nat, itS F n N fo (a + b) s = itS F n N fo a s
  | 0 => rfl
  | b + 1 => by
    show stp F n N fo (itS F n N fo (a + b) s) = _
    rw [it_stay h b]
    exact st_halt h
theorem it_fin {a b : Nat} (ha : (itS F n N fo a s).1 < 0) (hb : (itS F n N fo b s).1 < 0) : itS F n N fo a s = itS F n N fo b s := by
  rcases Nat.le_total a b with h | h
  · have := it_stay ha (b - a)
    rw [show a + (b - a) = b by omega] at this
    exact this.symm
  · have := it_stay hb (a - b)
    rw [show b + (a - b) = a by omega] at this
    exact this
theorem it_lt {a b : Nat} (ha : ¬ (itS F n N fo a s).1 < 0) (hb : (itS F n N fo b s).1 < 0) : a < b := by
  rcases Nat.lt_or_ge a b with h | h
  · exact h
  · have := it_stay hb (a - b)
    rw [show b + (a - b) = a by omega] at this
    rw [this] at ha
    exact absurd hb ha
end HT
