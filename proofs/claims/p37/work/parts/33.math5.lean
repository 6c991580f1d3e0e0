/-! a trial's test is what fits; the search's steps against the machine of its trials -/
theorem sdI_fln (W h p e : Nat) (hW : W < 6) (hh : h < 6) (hp : p < 25) (he : e < 4) : 1 ≤ W → 1 ≤ h → p < W * h → ((sdI W h p 0 = -9 ↔ (p : Int) / W = 0) ∧ (sdI W h p 1 = -9 ↔ (p : Int) % W = W - 1) ∧ (sdI W h p 2 = -9 ↔ (p : Int) / W = h - 1) ∧ (sdI W h p 3 = -9 ↔ (p : Int) % W = 0)) := chk4 (P := fun W h p e => 1 ≤ W → 1 ≤ h → p < W * h → ((sdI (W : Nat) (h : Nat) (p : Nat) 0 = -9 ↔ (p : Int) / W = 0) ∧ (sdI W h p 1 = -9 ↔ (p : Int) % W = W - 1) ∧ (sdI W h p 2 = -9 ↔ (p : Int) / W = h - 1) ∧ (sdI W h p 3 = -9 ↔ (p : Int) % W = 0))) (by decide +kernel) W h p e hW hh hp he
theorem sdI_fl {W h p : Int} (hB : 1 ≤ W ∧ W ≤ 5 ∧ 1 ≤ h ∧ h ≤ 5) (hp : 0 ≤ p ∧ p < W * h) : (sdI W h p 0 = -9 ↔ p / W = 0) ∧ (sdI W h p 1 = -9 ↔ p % W = W - 1) ∧ (sdI W h p 2 = -9 ↔ p / W = h - 1) ∧ (sdI W h p 3 = -9 ↔ p % W = 0) := by
  have hn := nsd_b hB
  obtain ⟨w, rfl⟩ := Int.eq_ofNat_of_zero_le (show 0 ≤ W by omega)
  obtain ⟨k, rfl⟩ := Int.eq_ofNat_of_zero_le (show 0 ≤ h by omega)
  obtain ⟨q, rfl⟩ := Int.eq_ofNat_of_zero_le hp.1
  have hq : q < w * k := by
    have := hp.2
    rw [← Int.natCast_mul] at this
    omega
  exact sdI_fln w k q 0 (by omega) (by omega) (by have := hn.2.2.2; omega) (by omega) (by omega) (by omega) hq
theorem shV_m {W h : Int} {hs pc tn : Int → Int} (hh : hB9 hs) (v d : Int) : (shV W h hs pc tn v d = -1 ↔ ftF W h pc tn v d) ∧ -1 ≤ shV W h hs pc tn v d ∧ shV W h hs pc tn v d < 2476099 ∧ (¬ ftF W h pc tn v d → shV W h hs pc tn v d = coI W h hs (pc (v / 4)) (edI tn v d)) := by
  have hb := coI_b (W := W) (h := h) hh (pc (v / 4)) (edI tn v d)
  unfold shV ftF
  by_cases z : sdI W h (pc (v / 4)) (edI tn v d) = -9
  · rw [if_pos z]; exact ⟨⟨fun _ => z, fun _ => rfl⟩, by omega, by omega, fun q => absurd z q⟩
  · rw [if_neg z]; exact ⟨⟨fun q => by omega, fun q => absurd q z⟩, by omega, by omega, fun _ => rfl⟩
theorem fiV_m {W h : Int} {hs pc tn : Int → Int} (hh : hB9 hs) (v d : Int) : -1 ≤ fiV W h hs pc tn v d ∧ fiV W h hs pc tn v d < 2476099 ∧ (¬ ftF W h pc tn v d → fiV W h hs pc tn v d = maI W h hs (pc (v / 4)) (edI tn v d)) := by
  have hb := maI_b (W := W) (h := h) hh (pc (v / 4)) (edI tn v d)
  unfold fiV ftF
  by_cases z : sdI W h (pc (v / 4)) (edI tn v d) = -9
  · rw [if_pos z]; exact ⟨by omega, by omega, fun q => absurd z q⟩
  · rw [if_neg z]; exact ⟨by omega, by omega, fun _ => rfl⟩
theorem kW_f {W k : Int} (hW : 1 ≤ W) (hk : 0 ≤ k) (h : k / W ≠ 0) : 0 ≤ k - W ∧ (k - W) / W = k / W - 1 := by
  have h1 : W ≤ k := by
    by_cases z : k < W
    · exact absurd (Int.ediv_eq_zero_of_lt hk z) h
    · omega
  refine ⟨by omega, ?_⟩
  have := Int.add_mul_ediv_right k (-1) (show W ≠ 0 by omega)
  rw [show k + -1 * W = k - W by omega] at this
  omega
theorem k1_f {W k : Int} (hW : 1 ≤ W) (hk : 0 ≤ k) (h : k % W ≠ 0) : 0 ≤ k - 1 ∧ (k - 1) % W = k % W - 1 := by
  have h0 := Int.emod_nonneg k (show W ≠ 0 by omega)
  have h1 := Int.emod_lt_of_pos k (show 0 < W by omega)
  refine ⟨?_, ?_⟩
  · by_cases z : k = 0
    · rw [z, Int.zero_emod] at h; omega
    · omega
  · have e := Int.mul_ediv_add_emod k W
    rw [show k - 1 = (k % W - 1) + W * (k / W) by omega, Int.add_mul_emod_self_left]
    exact Int.emod_eq_of_lt (by omega) (by omega)
section FI
variable {W h n k v : Int} {hs pc tn fi sh ly wa q : Int → Int}
theorem waV_f (hB : 1 ≤ W ∧ W ≤ 5 ∧ 1 ≤ h ∧ h ≤ 5) (hk : 0 ≤ k ∧ k < W * h) (hh : hB9 hs) (hLY : ∀ j, 0 ≤ j ∧ j < k → 0 ≤ ly j ∧ ly j < n * 4 ∧ FT W h hs pc tn ly j) (hFI : ∀ v d : Int, 0 ≤ v ∧ v < n * 4 → 0 ≤ d ∧ d < 4 → fi (v * 4 + d) = fiV W h hs pc tn v d) :
    (waV W h fi ly k 0 = if k / W = 0 then -1 else maI W h hs (pc (ly (k - W) / 4)) (edI tn (ly (k - W)) 2)) ∧ (k / W ≠ 0 → ¬ ftF W h pc tn (ly (k - W)) 2) ∧ (waV W h fi ly k 1 = if k % W = W - 1 then -1 else -2) ∧ (waV W h fi ly k 2 = if k / W = h - 1 then -1 else -2) ∧ (waV W h fi ly k 3 = if k % W = 0 then -1 else maI W h hs (pc (ly (k - 1) / 4)) (edI tn (ly (k - 1)) 1)) ∧ (k % W ≠ 0 → ¬ ftF W h pc tn (ly (k - 1)) 1) := by
  obtain ⟨f0, f1, f2, f3⟩ := sdI_fl hB hk
  have n2 : k / W ≠ 0 → ¬ ftF W h pc tn (ly (k - W)) 2 := fun z => by
    obtain ⟨a1, a2⟩ := kW_f hB.1 hk.1 z
    obtain ⟨-, -, b⟩ := hLY (k - W) ⟨a1, by omega⟩
    intro y
    have := b.1.2.2.1.mp y
    have h9 : k / W < h := Int.ediv_lt_of_lt_mul (by omega) (by rw [Int.mul_comm]; exact hk.2)
    omega
  have n1 : k % W ≠ 0 → ¬ ftF W h pc tn (ly (k - 1)) 1 := fun z => by
    obtain ⟨a1, a2⟩ := k1_f hB.1 hk.1 z
    obtain ⟨-, -, b⟩ := hLY (k - 1) ⟨a1, by omega⟩
    intro y
    have := b.1.2.1.mp y
    have h9 := Int.emod_lt_of_pos k (show 0 < W by omega)
    omega
  have x0 : nxI W k 0 = k - W := rfl
  have x1 : nxI W k 1 = k + 1 := rfl
  have x2 : nxI W k 2 = k + W := rfl
  have x3 : nxI W k 3 = k - 1 := rfl
  refine ⟨?_, n2, ?_, ?_, ?_, n1⟩
  · unfold waV
    rw [x0]
    by_cases z : k / W = 0
    · rw [if_pos z, if_pos (f0.mpr z)]
    · obtain ⟨a1, a2⟩ := kW_f hB.1 hk.1 z
      obtain ⟨b1, b2, -⟩ := hLY (k - W) ⟨a1, by omega⟩
      rw [if_neg z, if_neg (fun y => z (f0.mp y)), if_pos ⟨a1, by omega⟩, show ((0 : Int) + 2) % 4 = 2 from rfl, hFI _ 2 ⟨b1, b2⟩ (by omega), (fiV_m hh _ _).2.2 (n2 z)]
  · unfold waV
    rw [x1]
    by_cases z : k % W = W - 1
    · rw [if_pos z, if_pos (f1.mpr z)]
    · rw [if_neg z, if_neg (fun y => z (f1.mp y)), if_neg (by omega)]
  · unfold waV
    rw [x2]
    by_cases z : k / W = h - 1
    · rw [if_pos z, if_pos (f2.mpr z)]
    · rw [if_neg z, if_neg (fun y => z (f2.mp y)), if_neg (by omega)]
  · unfold waV
    rw [x3]
    by_cases z : k % W = 0
    · rw [if_pos z, if_pos (f3.mpr z)]
    · obtain ⟨a1, a2⟩ := k1_f hB.1 hk.1 z
      obtain ⟨b1, b2, -⟩ := hLY (k - 1) ⟨a1, by omega⟩
      rw [if_neg z, if_neg (fun y => z (f3.mp y)), if_pos ⟨a1, by omega⟩, show ((3 : Int) + 2) % 4 = 1 from rfl, hFI _ 1 ⟨b1, b2⟩ (by omega), (fiV_m hh _ _).2.2 (n1 z)]
theorem waV_r (hB : 1 ≤ W ∧ W ≤ 5 ∧ 1 ≤ h ∧ h ≤ 5) (hk : 0 ≤ k ∧ k < W * h) (hh : hB9 hs) (hLY : ∀ j, 0 ≤ j ∧ j < k → 0 ≤ ly j ∧ ly j < n * 4 ∧ FT W h hs pc tn ly j) (hFI : ∀ v d : Int, 0 ≤ v ∧ v < n * 4 → 0 ≤ d ∧ d < 4 → fi (v * 4 + d) = fiV W h hs pc tn v d) (d : Int) (hd : 0 ≤ d ∧ d < 4) : -2147483648 ≤ waV W h fi ly k d ∧ waV W h fi ly k d < 2147483648 := by
  obtain ⟨a0, -, a1, a2, a3, -⟩ := waV_f hB hk hh hLY hFI
  have m0 := maI_b (W := W) (h := h) hh (pc (ly (k - W) / 4)) (edI tn (ly (k - W)) 2)
  have m1 := maI_b (W := W) (h := h) hh (pc (ly (k - 1) / 4)) (edI tn (ly (k - 1)) 1)
  have h4 : d = 0 ∨ d = 1 ∨ d = 2 ∨ d = 3 := by omega
  rcases h4 with rfl | rfl | rfl | rfl
  · rw [a0]; split <;> omega
  · rw [a1]; split <;> omega
  · rw [a2]; split <;> omega
  · rw [a3]; split <;> omega
theorem ok_b {a b : Int} {P : Prop} (hb : b = -1 ↔ P) {C : Prop} (hc : (C → a = -1) ∧ (¬ C → a = -2)) : ((a = -2 ∧ b ≠ -1) ∨ (a ≠ -2 ∧ b = a)) ↔ (P ↔ C) := by
  by_cases z : C
  · have := hc.1 z
    constructor
    · intro q
      exact ⟨fun _ => z, fun _ => hb.mp (by omega)⟩
    · intro q
      exact Or.inr ⟨by omega, by have := hb.mpr (q.mpr z); omega⟩
  · have := hc.2 z
    constructor
    · intro q
      exact ⟨fun p => by have := hb.mpr p; omega, fun p => absurd p z⟩
    · intro q
      exact Or.inl ⟨by omega, fun p => z (q.mp (hb.mp p))⟩
theorem ok_m {a b co ma fr : Int} {P C M : Prop} (hb : b = -1 ↔ P) (hbn : ¬ P → b = co) (hc : (C → a = -1) ∧ (¬ C → a = ma)) (hm : 0 ≤ ma) (hM : ¬ C → ¬ M) (hf : co = ma ↔ fr = 0) : ((a = -2 ∧ b ≠ -1) ∨ (a ≠ -2 ∧ b = a)) ↔ ((P ↔ C) ∧ (C ∨ (¬ P ∧ ¬ M ∧ fr = 0))) := by
  by_cases z : C
  · have := hc.1 z
    constructor
    · intro q
      exact ⟨⟨fun _ => z, fun _ => hb.mp (by omega)⟩, Or.inl z⟩
    · intro q
      exact Or.inr ⟨by omega, by have := hb.mpr (q.1.mpr z); omega⟩
  · have ha := hc.2 z
    constructor
    · intro q
      have e : b = a := by omega
      have np : ¬ P := fun p => by have := hb.mpr p; omega
      exact ⟨⟨fun p => absurd p np, fun p => absurd p z⟩, Or.inr ⟨np, hM z, hf.mp (by rw [← hbn np, e, ha])⟩⟩
    · intro q
      rcases q.2 with y | ⟨y1, y2, y3⟩
      · exact absurd y z
      · exact Or.inr ⟨by omega, by rw [hbn y1, ha]; exact hf.mpr y3⟩
theorem fits_iff (hB : 1 ≤ W ∧ W ≤ 5 ∧ 1 ≤ h ∧ h ≤ 5) (hk : 0 ≤ k ∧ k < W * h) (hh : hB9 hs) (hLY : ∀ j, 0 ≤ j ∧ j < k → 0 ≤ ly j ∧ ly j < n * 4 ∧ FT W h hs pc tn ly j) (hSH : ∀ v d : Int, 0 ≤ v ∧ v < n * 4 → 0 ≤ d ∧ d < 4 → sh (v * 4 + d) = shV W h hs pc tn v d) (hFI : ∀ v d : Int, 0 ≤ v ∧ v < n * 4 → 0 ≤ d ∧ d < 4 → fi (v * 4 + d) = fiV W h hs pc tn v d)
    (hwa : ∀ d, 0 ≤ d ∧ d < 4 → wa (k * 4 + d) = waV W h fi ly k d) (hv : 0 ≤ v ∧ v < n * 4) (hq : ∀ j, 0 ≤ j ∧ j < k → q j = ly j) (hqk : q k = v) : (∀ d : Int, 0 ≤ d → d < 4 → okD wa sh v k d) ↔ FT W h hs pc tn q k := by
  obtain ⟨a0, n0, a1, a2, a3, n3⟩ := waV_f hB hk hh hLY hFI
  have s0 := shV_m (W := W) (h := h) (pc := pc) (tn := tn) hh v 0
  have s1 := shV_m (W := W) (h := h) (pc := pc) (tn := tn) hh v 1
  have s2 := shV_m (W := W) (h := h) (pc := pc) (tn := tn) hh v 2
  have s3 := shV_m (W := W) (h := h) (pc := pc) (tn := tn) hh v 3
  have e0 : okD wa sh v k 0 ↔ ((ftF W h pc tn v 0 ↔ k / W = 0) ∧ (k / W = 0 ∨ ftM W h hs pc tn v 0 (ly (k - W)) 2)) := by
    unfold okD
    rw [hwa 0 (by omega), hSH v 0 hv (by omega)]
    exact ok_m s0.1 s0.2.2.2 ⟨fun z => by rw [a0, if_pos z], fun z => by rw [a0, if_neg z]⟩ (maI_b hh _ _).1 n0 (coI_ma hh _ _ _ _)
  have e3 : okD wa sh v k 3 ↔ ((ftF W h pc tn v 3 ↔ k % W = 0) ∧ (k % W = 0 ∨ ftM W h hs pc tn v 3 (ly (k - 1)) 1)) := by
    unfold okD
    rw [hwa 3 (by omega), hSH v 3 hv (by omega)]
    exact ok_m s3.1 s3.2.2.2 ⟨fun z => by rw [a3, if_pos z], fun z => by rw [a3, if_neg z]⟩ (maI_b hh _ _).1 n3 (coI_ma hh _ _ _ _)
  have e1 : okD wa sh v k 1 ↔ (ftF W h pc tn v 1 ↔ k % W = W - 1) := by
    unfold okD
    rw [hwa 1 (by omega), hSH v 1 hv (by omega)]
    exact ok_b s1.1 ⟨fun z => by rw [a1, if_pos z], fun z => by rw [a1, if_neg z]⟩
  have e2 : okD wa sh v k 2 ↔ (ftF W h pc tn v 2 ↔ k / W = h - 1) := by
    unfold okD
    rw [hwa 2 (by omega), hSH v 2 hv (by omega)]
    exact ok_b s2.1 ⟨fun z => by rw [a2, if_pos z], fun z => by rw [a2, if_neg z]⟩
  have hall : (∀ d : Int, 0 ≤ d → d < 4 → okD wa sh v k d) ↔ (okD wa sh v k 0 ∧ okD wa sh v k 1 ∧ okD wa sh v k 2 ∧ okD wa sh v k 3) := by
    constructor
    · exact fun z => ⟨z 0 (by omega) (by omega), z 1 (by omega) (by omega), z 2 (by omega) (by omega), z 3 (by omega) (by omega)⟩
    · rintro ⟨z0, z1, z2, z3⟩ d h1 h2
      have h4 : d = 0 ∨ d = 1 ∨ d = 2 ∨ d = 3 := by omega
      rcases h4 with rfl | rfl | rfl | rfl <;> assumption
  rw [hall, e0, e1, e2, e3]
  unfold FT
  rw [hqk]
  constructor
  · rintro ⟨⟨z0, y0⟩, z1, z2, z3, y3⟩
    refine ⟨⟨z0, z1, z2, z3⟩, ?_, ?_⟩
    · by_cases c : k / W = 0
      · exact Or.inl c
      · rw [hq (k - W) ⟨(kW_f hB.1 hk.1 c).1, by omega⟩]; exact y0
    · by_cases c : k % W = 0
      · exact Or.inl c
      · rw [hq (k - 1) ⟨(k1_f hB.1 hk.1 c).1, by omega⟩]; exact y3
  · rintro ⟨⟨z0, z1, z2, z3⟩, y0, y3⟩
    refine ⟨⟨z0, ?_⟩, z1, z2, z3, ?_⟩
    · by_cases c : k / W = 0
      · exact Or.inl c
      · rw [hq (k - W) ⟨(kW_f hB.1 hk.1 c).1, by omega⟩] at y0; exact y0
    · by_cases c : k % W = 0
      · exact Or.inl c
      · rw [hq (k - 1) ⟨(k1_f hB.1 hk.1 c).1, by omega⟩] at y3; exact y3
end FI
