/-! counts, and what the picture's searches say -/
noncomputable abbrev cI (P : Prop) (a b : Int) : Int := @ite Int P (Classical.propDecidable P) a b
theorem cI_t {P : Prop} {a b : Int} (h : P) : cI P a b = a := if_pos h
theorem cI_f {P : Prop} {a b : Int} (h : ¬ P) : cI P a b = b := if_neg h
theorem cI_c {P Q : Prop} {a b : Int} (h : P ↔ Q) : cI P a b = cI Q a b := by
  by_cases q : Q
  · rw [cI_t q, cI_t (h.mpr q)]
  · rw [cI_f q, cI_f (fun z => q (h.mp z))]
noncomputable def cnN (P : Int → Prop) : Nat → Int
  | 0 => 0
  | n + 1 => cnN P n + cI (P (n : Int)) 1 0
noncomputable def cnI (P : Int → Prop) (i : Int) : Int := cnN P i.toNat
theorem cnI_0 (P : Int → Prop) : cnI P 0 = 0 := rfl
theorem cnI_s (P : Int → Prop) {i : Int} (h : 0 ≤ i) : cnI P (i + 1) = cnI P i + cI (P i) 1 0 := by
  obtain ⟨n, rfl⟩ := Int.eq_ofNat_of_zero_le h
  rfl
theorem cnI_st (P : Int → Prop) {i : Int} (h : 0 ≤ i) (q : P i) : cnI P (i + 1) = cnI P i + 1 := by rw [cnI_s P h, cI_t q]
theorem cnI_sf (P : Int → Prop) {i : Int} (h : 0 ≤ i) (q : ¬ P i) : cnI P (i + 1) = cnI P i := by rw [cnI_s P h, cI_f q, Int.add_zero]
theorem cnN_b (P : Int → Prop) : ∀ n : Nat, 0 ≤ cnN P n ∧ cnN P n ≤ n
  | 0 => ⟨Int.le_refl _, Int.le_refl _⟩
  | n + 1 => by
    have h := cnN_b P n
    show 0 ≤ cnN P n + cI (P n) 1 0 ∧ cnN P n + cI (P n) 1 0 ≤ ((n + 1 : Nat) : Int)
    by_cases q : P (n : Int)
    · rw [cI_t q]; omega
    · rw [cI_f q]; omega
theorem cnI_b (P : Int → Prop) {i : Int} (h : 0 ≤ i) : 0 ≤ cnI P i ∧ cnI P i ≤ i := by
  have := cnN_b P i.toNat
  unfold cnI
  omega
theorem cnI_ind {M : Int → Prop} (h0 : M 0) (hs : ∀ i, 0 ≤ i → M i → M (i + 1)) {i : Int} (h : 0 ≤ i) : M i := by
  obtain ⟨n, rfl⟩ := Int.eq_ofNat_of_zero_le h
  induction n with
  | zero => exact h0
  | succ n ih => exact hs _ (by omega) (ih (by omega))
theorem cnI_z (P : Int → Prop) {i : Int} (h : 0 ≤ i) : cnI P i = 0 ↔ ∀ j, 0 ≤ j → j < i → ¬ P j := by
  refine cnI_ind (M := fun i => cnI P i = 0 ↔ ∀ j, 0 ≤ j → j < i → ¬ P j) ⟨fun _ j h1 h2 => absurd h1 (by omega), fun _ => rfl⟩ ?_ h
  intro i hi ih
  have hb := cnI_b P hi
  by_cases q : P i
  · rw [cnI_st P hi q]
    exact ⟨fun z => by omega, fun z => absurd q (z i hi (by omega))⟩
  · rw [cnI_sf P hi q, ih]
    refine ⟨fun z j h1 h2 => ?_, fun z j h1 h2 => z j h1 (by omega)⟩
    by_cases e : j = i
    · rw [e]; exact q
    · exact z j h1 (by omega)
theorem cnI_f (P : Int → Prop) {i : Int} (h : 0 ≤ i) : cnI P i = i ↔ ∀ j, 0 ≤ j → j < i → P j := by
  refine cnI_ind (M := fun i => cnI P i = i ↔ ∀ j, 0 ≤ j → j < i → P j) ⟨fun _ j h1 h2 => absurd h1 (by omega), fun _ => rfl⟩ ?_ h
  intro i hi ih
  have hb := cnI_b P hi
  by_cases q : P i
  · rw [cnI_st P hi q]
    refine ⟨fun z j h1 h2 => ?_, fun z => by have := ih.mpr (fun j h1 h2 => z j h1 (by omega)); omega⟩
    by_cases e : j = i
    · rw [e]; exact q
    · exact ih.mp (by omega) j h1 (by omega)
  · rw [cnI_sf P hi q]
    exact ⟨fun z => by omega, fun z => absurd (z i hi (by omega)) q⟩
theorem cnI_c {P Q : Int → Prop} {i : Int} (h : 0 ≤ i) (hpq : ∀ j, 0 ≤ j → j < i → (P j ↔ Q j)) : cnI P i = cnI Q i := by
  have key : ∀ k, 0 ≤ k → k ≤ i → cnI P k = cnI Q k := by
    intro k hk
    refine cnI_ind (M := fun k => k ≤ i → cnI P k = cnI Q k) (fun _ => rfl) ?_ hk
    intro k hk ih hle
    rw [cnI_s P hk, cnI_s Q hk, ih (by omega), cI_c (hpq k hk (by omega))]
  exact key i h (Int.le_refl _)
def blI (hs : Int → Int) (s : Int) : Prop := (∀ j, 0 ≤ j → j < 5 → 0 < htI hs s j 0) ∨ (∀ j, 0 ≤ j → j < 5 → htI hs s j 0 < 0)
noncomputable def dfI (hs : Int → Int) (s o w : Int) : Int := cnI (fun j => htI hs s j 0 ≠ htI hs o j w) 5
noncomputable def kdI (hs : Int → Int) (n s : Int) : Int := cI (blI hs s) (cI (∃ k, 0 ≤ k ∧ k < n ∧ k ≠ s ∧ (dfI hs s k 0 = 0 ∨ dfI hs s k 1 = 0)) 2 1) 0
theorem kdI_b (hs : Int → Int) (n s : Int) : 0 ≤ kdI hs n s ∧ kdI hs n s ≤ 2 := by
  unfold kdI
  by_cases h : blI hs s
  · rw [cI_t h]
    by_cases q : ∃ k, 0 ≤ k ∧ k < n ∧ k ≠ s ∧ (dfI hs s k 0 = 0 ∨ dfI hs s k 1 = 0)
    · rw [cI_t q]; omega
    · rw [cI_f q]; omega
  · rw [cI_f h]; omega
def gvI (hs : Int → Int) (a b w i : Int) : Int → Int := fun j => if a * 5 ≤ j ∧ j < a * 5 + i then htI hs b (j - a * 5) w else hs j
theorem gvI_0 (hs : Int → Int) (a b w : Int) : gvI hs a b w 0 = hs := by
  funext j
  exact if_neg (by omega)
theorem gvI_s {hs : Int → Int} {a b w i : Int} (hab : a ≠ b) (h0 : 0 ≤ i) (h5 : i < 5) : uI (gvI hs a b w i) (a * 5 + i) (htI (gvI hs a b w i) b i w) = gvI hs a b w (i + 1) := by
  have e : htI (gvI hs a b w i) b i w = htI hs b i w := by
    have e1 : gvI hs a b w i (b * 5 + i) = hs (b * 5 + i) := if_neg (by omega)
    have e2 : gvI hs a b w i (b * 5 + (4 - i)) = hs (b * 5 + (4 - i)) := if_neg (by omega)
    unfold htI
    rw [e1, e2]
  rw [e]
  funext j
  unfold uI gvI
  by_cases h : j = a * 5 + i
  · rw [if_pos h, if_pos (by omega), show j - a * 5 = i by omega]
  · rw [if_neg h]
    by_cases q : a * 5 ≤ j ∧ j < a * 5 + i
    · rw [if_pos q, if_pos (by omega)]
    · rw [if_neg q, if_neg (by omega)]
def zrI (f : Int → Int) (n : Int) : Int → Int := fun j => if 0 ≤ j ∧ j < n then 0 else f j
theorem zrI_0 (f : Int → Int) : zrI f 0 = f := by
  funext j
  exact if_neg (by omega)
theorem zrI_s (f : Int → Int) {i : Int} (h : 0 ≤ i) : uI (zrI f i) i 0 = zrI f (i + 1) := by
  funext j
  unfold uI zrI
  by_cases e : j = i
  · rw [if_pos e, if_pos (by omega)]
  · rw [if_neg e]
    by_cases q : 0 ≤ j ∧ j < i
    · rw [if_pos q, if_pos (by omega)]
    · rw [if_neg q, if_neg (by omega)]
def saI (W h : Int) (hs : Int → Int) (a b : Int) : Int := if a / 4 = b / 4 ∨ sdI W h (a / 4) (a % 4) = -9 ∨ sdI W h (b / 4) (b % 4) = -9 ∨ sdI W h (a / 4) (a % 4) = sdI W h (b / 4) (b % 4) then -9 else frI W h hs (a / 4) (a % 4) (b / 4) (b % 4)
theorem saI_b {W h : Int} {hs : Int → Int} (hh : hB9 hs) (a b : Int) : saI W h hs a b = -9 ∨ (0 ≤ saI W h hs a b ∧ saI W h hs a b ≤ 90) := by
  unfold saI
  split
  · exact Or.inl rfl
  · exact Or.inr (frI_b hh _ _ _ _)
/-- r is the least of saI over the pairs that are done, or -9 where there is none -/
def lfP (W h : Int) (hs : Int → Int) (D : Int → Int → Prop) (r : Int) : Prop := (r = -9 ∧ ∀ a b, D a b → saI W h hs a b = -9) ∨ (0 ≤ r ∧ r ≤ 90 ∧ (∃ a b, D a b ∧ saI W h hs a b = r) ∧ ∀ a b, D a b → saI W h hs a b = -9 ∨ r ≤ saI W h hs a b)
theorem lfP_c {W h : Int} {hs : Int → Int} {D D' : Int → Int → Prop} {r : Int} (hd : ∀ a b, D a b ↔ D' a b) (q : lfP W h hs D r) : lfP W h hs D' r := by
  have e : D = D' := by funext a b; exact propext (hd a b)
  rw [← e]; exact q
theorem lfP_u {W h : Int} {hs : Int → Int} {D : Int → Int → Prop} {r t : Int} (q : lfP W h hs D r) (q' : lfP W h hs D t) : r = t := by
  rcases q with ⟨e, q⟩ | ⟨a0, a1, ⟨a, b, a2, a3⟩, a4⟩ <;> rcases q' with ⟨e', q'⟩ | ⟨b0, b1, ⟨c, d, b2, b3⟩, b4⟩
  · omega
  · have := q c d b2; omega
  · have := q' a b a2; omega
  · have x := a4 c d b2
    have y := b4 a b a2
    omega
theorem lfP_0 {W h : Int} {hs : Int → Int} {D : Int → Int → Prop} (hd : ∀ a b, ¬ D a b) : lfP W h hs D (-9) := Or.inl ⟨rfl, fun a b h => absurd h (hd a b)⟩
/-- one pair more -/
theorem lfP_s {W h : Int} {hs : Int → Int} {D D' : Int → Int → Prop} {r c d : Int} (hh : hB9 hs) (q : lfP W h hs D r) (hd : ∀ a b, D' a b ↔ D a b ∨ (a = c ∧ b = d)) : lfP W h hs D' (if saI W h hs c d ≠ -9 ∧ (r = -9 ∨ saI W h hs c d < r) then saI W h hs c d else r) := by
  have hb := saI_b (W := W) (h := h) hh c d
  split
  · rename_i hz
    refine Or.inr ⟨by omega, by omega, ⟨c, d, (hd c d).mpr (Or.inr ⟨rfl, rfl⟩), rfl⟩, fun a b hab => ?_⟩
    rcases (hd a b).mp hab with z | ⟨rfl, rfl⟩
    · rcases q with ⟨e, q⟩ | ⟨a0, -, -, q⟩
      · exact Or.inl (q a b z)
      · rcases q a b z with y | y
        · exact Or.inl y
        · exact Or.inr (by omega)
    · exact Or.inr (Int.le_refl _)
  · rename_i hz
    rcases q with ⟨e, q⟩ | ⟨a0, a1, ⟨a, b, a2, a3⟩, q⟩
    · refine Or.inl ⟨e, fun a b hab => ?_⟩
      rcases (hd a b).mp hab with z | ⟨rfl, rfl⟩
      · exact q a b z
      · omega
    · refine Or.inr ⟨a0, a1, ⟨a, b, (hd a b).mpr (Or.inl a2), a3⟩, fun a b hab => ?_⟩
      rcases (hd a b).mp hab with z | ⟨rfl, rfl⟩
      · exact q a b z
      · omega
/-! sums; pairs of edges that are near; the table of edges; the heap's row; a sheet's cell cut to its lane; the draw -/
noncomputable def suN (f : Int → Int) : Nat → Int
  | 0 => 0
  | n + 1 => suN f n + f (n : Int)
noncomputable def suI (f : Int → Int) (i : Int) : Int := suN f i.toNat
theorem suI_0 (f : Int → Int) : suI f 0 = 0 := rfl
theorem suI_s (f : Int → Int) {i : Int} (h : 0 ≤ i) : suI f (i + 1) = suI f i + f i := by
  obtain ⟨n, rfl⟩ := Int.eq_ofNat_of_zero_le h
  rfl
def pwP (W h : Int) (hs : Int → Int) (d a b : Int) : Prop := a < b ∧ saI W h hs a b ≠ -9 ∧ saI W h hs a b ≤ d
noncomputable def pwR (W h : Int) (hs : Int → Int) (d a : Int) : Int := cnI (pwP W h hs d a) (W * h * 4)
noncomputable def pwI (W h : Int) (hs : Int → Int) (d : Int) : Int := suI (pwR W h hs d) (W * h * 4)
theorem idx_b {W h x y : Int} (hB : 1 ≤ W ∧ W ≤ 5 ∧ 1 ≤ h ∧ h ≤ 5) (hx : 0 ≤ x ∧ x < W) (hy : 0 ≤ y ∧ y < h) : 0 ≤ W * y ∧ W * y + x < W * h := by
  have h1 : W * y ≤ W * (h - 1) := Int.mul_le_mul_of_nonneg_left (by omega) (by omega)
  rw [Int.mul_sub, Int.mul_one] at h1
  have h2 : 0 ≤ W * y := Int.mul_nonneg (by omega) hy.1
  omega
def leI (W h : Int) (se : Int → Int) (x y : Int) : Int → Int :=
  uI (uI (uI (uI se ((W * y + x) * 4 + 0) (if y = 0 then -9 else (W - 1) * h + W * y + x - W)) ((W * y + x) * 4 + 1) (if x = W - 1 then -9 else (W - 1) * y + x)) ((W * y + x) * 4 + 2) (if y = h - 1 then -9 else (W - 1) * h + W * y + x)) ((W * y + x) * 4 + 3) (if x = 0 then -9 else (W - 1) * y + x - 1)
theorem uI_eq (f : Int → Int) (z v : Int) : uI f z v z = v := if_pos rfl
theorem uI_ne {f : Int → Int} {z v j : Int} (h : j ≠ z) : uI f z v j = f j := if_neg h
theorem sdI_e0 (W h p : Int) : sdI W h p 0 = if p / W = 0 then -9 else (W - 1) * h + (p / W - 1) * W + p % W := rfl
theorem sdI_e1 (W h p : Int) : sdI W h p 1 = if p % W = W - 1 then -9 else p / W * (W - 1) + p % W := rfl
theorem sdI_e2 (W h p : Int) : sdI W h p 2 = if p / W = h - 1 then -9 else (W - 1) * h + p / W * W + p % W := rfl
theorem sdI_e3 (W h p : Int) : sdI W h p 3 = if p % W = 0 then -9 else p / W * (W - 1) + (p % W - 1) := rfl
theorem leI_s {W h x y : Int} {se : Int → Int} (hB : 1 ≤ W ∧ W ≤ 5 ∧ 1 ≤ h ∧ h ≤ 5) (hx : 0 ≤ x ∧ x < W) (hy : 0 ≤ y ∧ y < h) (hf : ∀ p e : Int, 0 ≤ p ∧ p < W * y + x → 0 ≤ e ∧ e < 4 → se (p * 4 + e) = sdI W h p e) : ∀ p e : Int, 0 ≤ p ∧ p < W * y + (x + 1) → 0 ≤ e ∧ e < 4 → leI W h se x y (p * 4 + e) = sdI W h p e := by
  intro p e hp he
  have hi := idx_b hB hx hy
  by_cases q : p = W * y + x
  · have hm : p % W = x := by rw [q, Int.add_comm, Int.add_mul_emod_self_left]; exact Int.emod_eq_of_lt hx.1 hx.2
    have hd : p / W = y := by rw [q, Int.add_comm, Int.add_mul_ediv_left _ _ (by omega), Int.ediv_eq_zero_of_lt hx.1 hx.2, Int.zero_add]
    unfold leI
    rw [← q]
    have h4 : e = 0 ∨ e = 1 ∨ e = 2 ∨ e = 3 := by omega
    have c1 : y * (W - 1) = (W - 1) * y := Int.mul_comm _ _
    have c2 : y * W = W * y := Int.mul_comm _ _
    have c3 : (y - 1) * W = W * y - W := by rw [Int.sub_mul, Int.one_mul, c2]
    rcases h4 with rfl | rfl | rfl | rfl
    · rw [uI_ne (by omega), uI_ne (by omega), uI_ne (by omega), uI_eq, sdI_e0, hd, hm, c3]
      split
      · rfl
      · omega
    · rw [uI_ne (by omega), uI_ne (by omega), uI_eq, sdI_e1, hd, hm, c1]
    · rw [uI_ne (by omega), uI_eq, sdI_e2, hd, hm, c2]
    · rw [uI_eq, sdI_e3, hd, hm, c1]
      split
      · rfl
      · omega
  · unfold leI
    rw [uI_ne (by omega), uI_ne (by omega), uI_ne (by omega), uI_ne (by omega)]
    exact hf p e (by omega) he
def rmI (f : Int → Int) (i n : Int) : Int → Int := fun j => if i ≤ j ∧ j < n - 1 then f (j + 1) else f j
theorem rmI_0 (f : Int → Int) (i : Int) : rmI f i (i + 1) = f := by
  funext j
  exact if_neg (by omega)
theorem rmI_s (f : Int → Int) {i k : Int} (h : i < k) : uI (rmI f i k) (k - 1) (rmI f i k k) = rmI f i (k + 1) := by
  have e : rmI f i k k = f k := if_neg (by omega)
  rw [e]
  funext j
  unfold uI rmI
  by_cases q : j = k - 1
  · rw [if_pos q, if_pos (by omega), show j + 1 = k by omega]
  · rw [if_neg q]
    by_cases z : i ≤ j ∧ j < k - 1
    · rw [if_pos z, if_pos (by omega)]
    · rw [if_neg z, if_neg (by omega)]
def cuI (ln v : Int) : Int := if ln = 0 then (iI v).toInt8.toInt32.toInt else if ln = 1 then (iI v).toInt16.toInt32.toInt else v
theorem cuI_0 {ln v : Int} (h : ln = 0) : iI (cuI ln v) = (iI v).toInt8.toInt32 := by
  unfold cuI
  rw [if_pos h, iI_of]
theorem cuI_1 {ln v : Int} (h : ln = 1) : iI (cuI ln v) = (iI v).toInt16.toInt32 := by
  unfold cuI
  rw [if_neg (by omega), if_pos h, iI_of]
theorem cuI_2 {ln v : Int} (h : ln ≠ 0 ∧ ln ≠ 1) : cuI ln v = v := by
  unfold cuI
  rw [if_neg h.1, if_neg h.2]
/-- the draw: the next, and what it gives below n -/
def dnI (x : Int64) : Int64 := x * lI 6364136223846793005 + lI 1442695040888963407
def dvI (x : Int64) (n : Int) : Int := ((x &&& lI 2147483647) / lI 4096 - (x &&& lI 2147483647) / lI 4096 / lI n * lI n).toInt32.toInt
