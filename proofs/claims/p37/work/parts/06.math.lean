/-! what the system says, as whole numbers: the picture -/
def nsd (W h : Int) : Int := (W - 1) * h + W * (h - 1)
def sdI (W h p e : Int) : Int := if e = 1 then (if p % W = W - 1 then -9 else p / W * (W - 1) + p % W) else if e = 3 then (if p % W = 0 then -9 else p / W * (W - 1) + (p % W - 1)) else if e = 2 then (if p / W = h - 1 then -9 else (W - 1) * h + p / W * W + p % W) else (if p / W = 0 then -9 else (W - 1) * h + (p / W - 1) * W + p % W)
theorem chk2 {P : Nat → Nat → Prop} [∀ W h, Decidable (P W h)] (h0 : ((List.range 6).all fun W => (List.range 6).all fun h => decide (P W h)) = true) (W h : Nat) (hW : W < 6) (hh : h < 6) : P W h :=
  of_decide_eq_true (List.all_eq_true.mp (List.all_eq_true.mp h0 W (List.mem_range.mpr hW)) h (List.mem_range.mpr hh))
theorem chk4 {P : Nat → Nat → Nat → Nat → Prop} [∀ W h p e, Decidable (P W h p e)] (h0 : ((List.range 6).all fun W => (List.range 6).all fun h => (List.range 25).all fun p => (List.range 4).all fun e => decide (P W h p e)) = true) (W h p e : Nat) (hW : W < 6) (hh : h < 6) (hp : p < 25) (he : e < 4) : P W h p e :=
  of_decide_eq_true (List.all_eq_true.mp (List.all_eq_true.mp (List.all_eq_true.mp (List.all_eq_true.mp h0 W (List.mem_range.mpr hW)) h (List.mem_range.mpr hh)) p (List.mem_range.mpr hp)) e (List.mem_range.mpr he))
theorem nsd_nat (W h : Nat) (hW : W < 6) (hh : h < 6) : 1 ≤ W → 1 ≤ h → 0 ≤ nsd (W : Nat) (h : Nat) ∧ nsd W h ≤ 40 ∧ 1 ≤ (W : Int) * h ∧ (W : Int) * h ≤ 25 := chk2 (P := fun W h => 1 ≤ W → 1 ≤ h → 0 ≤ nsd (W : Nat) (h : Nat) ∧ nsd W h ≤ 40 ∧ 1 ≤ (W : Int) * h ∧ (W : Int) * h ≤ 25) (by decide +kernel) W h hW hh
theorem nsd_b {W h : Int} (hB : 1 ≤ W ∧ W ≤ 5 ∧ 1 ≤ h ∧ h ≤ 5) : 0 ≤ nsd W h ∧ nsd W h ≤ 40 ∧ 1 ≤ W * h ∧ W * h ≤ 25 := by
  obtain ⟨w, rfl⟩ := Int.eq_ofNat_of_zero_le (show 0 ≤ W by omega)
  obtain ⟨k, rfl⟩ := Int.eq_ofNat_of_zero_le (show 0 ≤ h by omega)
  exact nsd_nat w k (by omega) (by omega) (by omega) (by omega)
theorem sdI_nat (W h p e : Nat) (hW : W < 6) (hh : h < 6) (hp : p < 25) (he : e < 4) : 1 ≤ W → 1 ≤ h → p < W * h → (sdI (W : Nat) (h : Nat) (p : Nat) (e : Nat) = -9 ∨ (0 ≤ sdI W h p e ∧ sdI W h p e < nsd W h)) := chk4 (P := fun W h p e => 1 ≤ W → 1 ≤ h → p < W * h → (sdI (W : Nat) (h : Nat) (p : Nat) (e : Nat) = -9 ∨ (0 ≤ sdI W h p e ∧ sdI W h p e < nsd W h))) (by decide +kernel) W h p e hW hh hp he
theorem sdI_b {W h p e : Int} (hB : 1 ≤ W ∧ W ≤ 5 ∧ 1 ≤ h ∧ h ≤ 5) (hp : 0 ≤ p ∧ p < W * h) (he : 0 ≤ e ∧ e < 4) : sdI W h p e = -9 ∨ (0 ≤ sdI W h p e ∧ sdI W h p e < nsd W h) := by
  obtain ⟨w, rfl⟩ := Int.eq_ofNat_of_zero_le (show 0 ≤ W by omega)
  obtain ⟨k, rfl⟩ := Int.eq_ofNat_of_zero_le (show 0 ≤ h by omega)
  obtain ⟨q, rfl⟩ := Int.eq_ofNat_of_zero_le hp.1
  obtain ⟨f, rfl⟩ := Int.eq_ofNat_of_zero_le he.1
  have hn := nsd_nat w k (by omega) (by omega) (by omega) (by omega)
  have hq : q < w * k := by
    have := hp.2
    rw [← Int.natCast_mul] at this
    omega
  exact sdI_nat w k q f (by omega) (by omega) (by have := hn.2.2.2; omega) (by omega) (by omega) (by omega) hq
def nxI (W p e : Int) : Int := if e = 0 then p - W else if e = 1 then p + 1 else if e = 2 then p + W else p - 1
def htI (hs : Int → Int) (s i w : Int) : Int := if w = 0 then hs (s * 5 + i) else - hs (s * 5 + (4 - i))
def wyI (e : Int) : Int := if e = 1 ∨ e = 2 then 0 else 1
def ehI (W h : Int) (hs : Int → Int) (p e i : Int) : Int := htI hs (sdI W h p e) i (wyI e)
def abI (z : Int) : Int := if 0 ≤ z then z else -z
def frI (W h : Int) (hs : Int → Int) (p e q f : Int) : Int := 0 + abI (ehI W h hs p e 0 + ehI W h hs q f 4) + abI (ehI W h hs p e 1 + ehI W h hs q f 3) + abI (ehI W h hs p e 2 + ehI W h hs q f 2) + abI (ehI W h hs p e 3 + ehI W h hs q f 1) + abI (ehI W h hs p e 4 + ehI W h hs q f 0)
def smI (hs : Int → Int) (s : Int) : Int := 0 + hs (s * 5 + 0) + hs (s * 5 + 1) + hs (s * 5 + 2) + hs (s * 5 + 3) + hs (s * 5 + 4)
def hB9 (hs : Int → Int) : Prop := ∀ i, -9 ≤ hs i ∧ hs i ≤ 9
theorem htI_b {hs : Int → Int} (hh : hB9 hs) (s i w : Int) : -9 ≤ htI hs s i w ∧ htI hs s i w ≤ 9 := by
  unfold htI
  split
  · exact hh _
  · have := hh (s * 5 + (4 - i)); omega
theorem ehI_b {W h : Int} {hs : Int → Int} (hh : hB9 hs) (p e i : Int) : -9 ≤ ehI W h hs p e i ∧ ehI W h hs p e i ≤ 9 := htI_b hh _ _ _
theorem abI_b {a b : Int} (ha : -9 ≤ a ∧ a ≤ 9) (hb : -9 ≤ b ∧ b ≤ 9) : 0 ≤ abI (a + b) ∧ abI (a + b) ≤ 18 := by unfold abI; split <;> omega
theorem frI_b {W h : Int} {hs : Int → Int} (hh : hB9 hs) (p e q f : Int) : 0 ≤ frI W h hs p e q f ∧ frI W h hs p e q f ≤ 90 := by
  have h0 := abI_b (ehI_b (W := W) (h := h) hh p e 0) (ehI_b (W := W) (h := h) hh q f 4)
  have h1 := abI_b (ehI_b (W := W) (h := h) hh p e 1) (ehI_b (W := W) (h := h) hh q f 3)
  have h2 := abI_b (ehI_b (W := W) (h := h) hh p e 2) (ehI_b (W := W) (h := h) hh q f 2)
  have h3 := abI_b (ehI_b (W := W) (h := h) hh p e 3) (ehI_b (W := W) (h := h) hh q f 1)
  have h4 := abI_b (ehI_b (W := W) (h := h) hh p e 4) (ehI_b (W := W) (h := h) hh q f 0)
  unfold frI; omega
