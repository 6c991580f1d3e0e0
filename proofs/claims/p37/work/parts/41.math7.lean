/-! what the calls answer, in both: the draw, the heap made from a seed, what is missing, what is known -/
theorem lI_of (x : Int64) : lI x.toInt = x := Int64.ofInt_toInt x
theorem lI_div {a b : Int} (a1 : 0 ≤ a) (a2 : a < 9223372036854775808) (b1 : 0 < b) (b2 : b < 9223372036854775808) : lI a / lI b = lI (a / b) := by
  have hb := Int.ediv_le_self b a1
  have h0 := Int.ediv_nonneg a1 (Int.le_of_lt b1)
  apply Int64.toInt_inj.mp
  have hne : lI b ≠ -1 := fun h => by
    have h2 := congrArg Int64.toInt h
    rw [lI_toInt (by omega) (by omega)] at h2
    have e : (-1 : Int64).toInt = -1 := by decide
    omega
  rw [Int64.toInt_div_of_ne_right _ _ hne, lI_toInt (by omega) (by omega), lI_toInt (by omega) (by omega), lI_toInt (by omega) (by omega), Int.tdiv_eq_ediv_of_nonneg a1]
theorem lI_rem {a b : Int} (a1 : 0 ≤ a) (a2 : a < 9223372036854775808) (b1 : 0 < b) (b2 : b < 9223372036854775808) : lI a - lI a / lI b * lI b = lI (a % b) := by
  rw [lI_div a1 a2 b1 b2, lI_mul, lI_sub, Int.emod_def, Int.mul_comm]
theorem lI_and (x : Int64) : 0 ≤ (x &&& lI 2147483647).toInt ∧ (x &&& lI 2147483647).toInt < 2147483648 := by
  have e1 : (x &&& lI 2147483647).toBitVec.toNat = x.toBitVec.toNat % 2147483648 := by
    have h : (x &&& lI 2147483647).toBitVec = x.toBitVec &&& (lI 2147483647).toBitVec := rfl
    have h2 : (lI 2147483647).toBitVec.toNat = 2 ^ 31 - 1 := by decide
    rw [h, BitVec.toNat_and, h2, Nat.and_two_pow_sub_one_eq_mod]
  have e2 : (x &&& lI 2147483647).toInt = ((x &&& lI 2147483647).toBitVec.toNat : Int) := BitVec.toInt_eq_toNat_of_lt (by rw [e1]; omega)
  rw [e2, e1]
  omega
theorem dvI_b (x : Int64) {n : Int} (hn : 1 ≤ n ∧ n < 2147483648) : 0 ≤ dvI x n ∧ dvI x n < n := by
  obtain ⟨y1, y2⟩ := lI_and x
  unfold dvI
  rw [← lI_of (x &&& lI 2147483647), lI_div y1 (by omega) (by omega) (by omega), lI_rem (by omega) (by omega) (by omega) (by omega), lI_int]
  have h1 := Int.emod_nonneg ((x &&& lI 2147483647).toInt / 4096) (show n ≠ 0 by omega)
  have h2 := Int.emod_lt_of_pos ((x &&& lI 2147483647).toInt / 4096) (show 0 < n by omega)
  rw [iI_toInt (by omega) (by omega)]
  exact ⟨h1, h2⟩
def dnN (sd : Int64) : Nat → Int64
  | 0 => sd
  | k + 1 => dnI (dnN sd k)
def dnT (sd : Int64) (k : Int) : Int64 := dnN sd k.toNat
theorem dnT_0 (sd : Int64) : dnT sd 0 = sd := rfl
theorem dnT_s (sd : Int64) {k : Int} (h : 0 ≤ k) : dnT sd (k + 1) = dnI (dnT sd k) := by
  obtain ⟨n, rfl⟩ := Int.eq_ofNat_of_zero_le h
  rfl
/-- the first k heights made from a seed -/
def mkI (sd : Int64) (hs : Int → Int) (k : Int) : Int → Int := fun j => if 0 ≤ j ∧ j < k then dvI (dnT sd (j + 1)) 19 - 9 else hs j
theorem mkI_0 (sd : Int64) (hs : Int → Int) : mkI sd hs 0 = hs := by
  funext j
  exact if_neg (by omega)
theorem mkI_s (sd : Int64) (hs : Int → Int) {k : Int} (h : 0 ≤ k) : uI (mkI sd hs k) k (dvI (dnI (dnT sd k)) 19 - 9) = mkI sd hs (k + 1) := by
  funext j
  unfold uI mkI
  by_cases e : j = k
  · rw [if_pos e, if_pos (by omega), e, dnT_s sd h]
  · rw [if_neg e]
    by_cases q : 0 ≤ j ∧ j < k
    · rw [if_pos q, if_pos (by omega)]
    · rw [if_neg q, if_neg (by omega)]
theorem mkI_b {hs : Int → Int} (hh : hB9 hs) (sd : Int64) (k : Int) : hB9 (mkI sd hs k) := by
  intro j
  have hb := dvI_b (dnT sd (j + 1)) (n := 19) (by omega)
  unfold mkI
  split
  · omega
  · exact hh j
/-- the row of a whole heap before it is mixed; mixed by k swaps; the turns -/
def apI (f : Int → Int) (k : Int) : Int → Int := fun j => if 0 ≤ j ∧ j < k then j else f j
theorem apI_0 (f : Int → Int) : apI f 0 = f := by
  funext j
  exact if_neg (by omega)
theorem apI_s (f : Int → Int) {k : Int} (h : 0 ≤ k) : uI (apI f k) k k = apI f (k + 1) := by
  funext j
  unfold uI apI
  by_cases e : j = k
  · rw [if_pos e, if_pos (by omega), e]
  · rw [if_neg e]
    by_cases q : 0 ≤ j ∧ j < k
    · rw [if_pos q, if_pos (by omega)]
    · rw [if_neg q, if_neg (by omega)]
def swN (sd : Int64) (M : Int) (f : Int → Int) : Nat → Int → Int
  | 0 => f
  | k + 1 => uI (uI (swN sd M f k) (M - 1 - k) (swN sd M f k (dvI (dnT sd (k + 1)) (M - 1 - k + 1)))) (dvI (dnT sd (k + 1)) (M - 1 - k + 1)) (swN sd M f k (M - 1 - k))
def swI (sd : Int64) (M : Int) (f : Int → Int) (k : Int) : Int → Int := swN sd M f k.toNat
theorem swI_0 (sd : Int64) (M : Int) (f : Int → Int) : swI sd M f 0 = f := rfl
theorem swI_s (sd : Int64) (M : Int) (f : Int → Int) {k : Int} (h : 0 ≤ k) : swI sd M f (k + 1) = uI (uI (swI sd M f k) (M - 1 - k) (swI sd M f k (dvI (dnI (dnT sd k)) (M - 1 - k + 1)))) (dvI (dnI (dnT sd k)) (M - 1 - k + 1)) (swI sd M f k (M - 1 - k)) := by
  obtain ⟨n, rfl⟩ := Int.eq_ofNat_of_zero_le h
  rfl
def trI (sd : Int64) (M : Int) (f : Int → Int) (k : Int) : Int → Int := fun j => if 0 ≤ j ∧ j < k then dvI (dnT sd (M - 1 + j + 1)) 4 else f j
theorem trI_0 (sd : Int64) (M : Int) (f : Int → Int) : trI sd M f 0 = f := by
  funext j
  exact if_neg (by omega)
theorem trI_s (sd : Int64) (M : Int) (f : Int → Int) {k : Int} (h : 0 ≤ k) (hM : 1 ≤ M) : uI (trI sd M f k) k (dvI (dnI (dnT sd (M - 1 + k))) 4) = trI sd M f (k + 1) := by
  funext j
  unfold uI trI
  by_cases e : j = k
  · rw [if_pos e, if_pos (by omega), e, dnT_s sd (by omega)]
  · rw [if_neg e]
    by_cases q : 0 ≤ j ∧ j < k
    · rw [if_pos q, if_pos (by omega)]
    · rw [if_neg q, if_neg (by omega)]
theorem swI_b (sd : Int64) {M : Int} (hM : 1 ≤ M ∧ M ≤ 25) (f : Int → Int) (hf : ∀ j, 0 ≤ j ∧ j < M → 0 ≤ f j ∧ f j < M) {k : Int} (hk : 0 ≤ k) : k ≤ M - 1 → ∀ j, 0 ≤ j ∧ j < M → 0 ≤ swI sd M f k j ∧ swI sd M f k j < M := by
  refine cnI_ind (M := fun k => k ≤ M - 1 → ∀ j, 0 ≤ j ∧ j < M → 0 ≤ swI sd M f k j ∧ swI sd M f k j < M) (fun _ j hj => hf j hj) ?_ hk
  intro k hk ih hle j hj
  have hd := dvI_b (dnI (dnT sd k)) (n := M - 1 - k + 1) (by omega)
  rw [swI_s sd M f hk]
  unfold uI
  split
  · exact ih (by omega) _ (by omega)
  · split
    · exact ih (by omega) _ (by omega)
    · exact ih (by omega) _ hj
noncomputable def tmI (n : Int) (pc : Int → Int) (p : Int) : Int := cnI (fun j => pc j = p) n
def msP (n : Int) (pc : Int → Int) (what p : Int) : Prop := (what = 0 ∧ tmI n pc p = 0) ∨ (what ≠ 0 ∧ 1 < tmI n pc p)
/-- the missing piece at place i of its row, or -1 -/
def mdP (M n : Int) (pc : Int → Int) (what i r : Int) : Prop := (r = -1 ∧ cnI (msP n pc what) M ≤ i) ∨ ((0 ≤ r ∧ r < M) ∧ msP n pc what r ∧ cnI (msP n pc what) r = i)
theorem cnI_m (P : Int → Prop) {a b : Int} (h0 : 0 ≤ a) (hab : a ≤ b) : cnI P a ≤ cnI P b := by
  have key : ∀ d, 0 ≤ d → cnI P a ≤ cnI P (a + d) := fun d hd => by
    refine cnI_ind (M := fun d => cnI P a ≤ cnI P (a + d)) (by rw [Int.add_zero]; exact Int.le_refl _) ?_ hd
    intro d hd ih
    rw [← Int.add_assoc]
    by_cases q : P (a + d)
    · rw [cnI_st P (by omega) q]; omega
    · rw [cnI_sf P (by omega) q]; exact ih
  have := key (b - a) (by omega)
  rwa [show a + (b - a) = b by omega] at this
theorem mdP_u {M n : Int} {pc : Int → Int} {what i r t : Int} (q : mdP M n pc what i r) (q' : mdP M n pc what i t) : r = t := by
  have up : ∀ x y : Int, 0 ≤ x → msP n pc what x → x < y → cnI (msP n pc what) x < cnI (msP n pc what) y := fun x y h0 hx hxy => by
    have h1 := cnI_m (msP n pc what) (a := x + 1) (b := y) (by omega) (by omega)
    rw [cnI_st _ h0 hx] at h1
    omega
  rcases q with ⟨e, q⟩ | ⟨b, m, q⟩ <;> rcases q' with ⟨e', q'⟩ | ⟨b', m', q'⟩
  · omega
  · have := up t M b'.1 m' b'.2; omega
  · have := up r M b.1 m b.2; omega
  · by_cases c : r < t
    · have := up r t b.1 m c; omega
    · by_cases c' : t < r
      · have := up t r b'.1 m' c'; omega
      · omega
noncomputable def knI (W h n : Int) (pc : Int → Int) (p e : Int) : Int := suI (fun e => cI (sdI W h p e ≠ -9 ∧ 0 < tmI n pc (nxI W p e)) 5 0) e
theorem knI_s (W h n : Int) (pc : Int → Int) (p : Int) {e : Int} (he : 0 ≤ e) : knI W h n pc p (e + 1) = knI W h n pc p e + cI (sdI W h p e ≠ -9 ∧ 0 < tmI n pc (nxI W p e)) 5 0 := suI_s _ he
/-- heights taken from a sheet: the first m of them -/
def shI (hs ce : Int → Int) (s i m : Int) : Int → Int := fun j => if s * 5 ≤ j ∧ j < s * 5 + m then ce (i + (j - s * 5)) else hs j
theorem shI_0 (hs ce : Int → Int) (s i : Int) : shI hs ce s i 0 = hs := by
  funext j
  exact if_neg (by omega)
theorem shI_s (hs ce : Int → Int) {s i m : Int} (h : 0 ≤ m) : uI (shI hs ce s i m) (s * 5 + m) (ce (i + m)) = shI hs ce s i (m + 1) := by
  funext j
  unfold uI shI
  by_cases e : j = s * 5 + m
  · rw [if_pos e, if_pos (by omega), e, show s * 5 + m - s * 5 = m by omega]
  · rw [if_neg e]
    by_cases q : s * 5 ≤ j ∧ j < s * 5 + m
    · rw [if_pos q, if_pos (by omega)]
    · rw [if_neg q, if_neg (by omega)]
