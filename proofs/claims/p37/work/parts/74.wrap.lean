/-! how the law's own test of a place reads what fits -/
def BR (W h k d : Int) : Prop := (d = 0 ∧ k / W = 0) ∨ (d = 1 ∧ k % W = W - 1) ∨ (d = 2 ∧ k / W = h - 1) ∨ (d = 3 ∧ k % W = 0)
def faI (W h : Int) (hs : Int → Int) (p e q f : Int) : Int := if sdI W h p e = -9 ∨ sdI W h q f = -9 then -3 else frI W h hs p e q f
theorem faI_0 {W h : Int} {hs : Int → Int} {p e q f : Int} : faI W h hs p e q f = 0 ↔ ¬ sdI W h p e = -9 ∧ ¬ sdI W h q f = -9 ∧ frI W h hs p e q f = 0 := by
  unfold faI
  by_cases z : sdI W h p e = -9 ∨ sdI W h q f = -9
  · rw [if_pos z]
    exact ⟨fun y => by omega, fun y => by omega⟩
  · rw [if_neg z]
    exact ⟨fun y => ⟨fun a => z (Or.inl a), fun a => z (Or.inr a), y⟩, fun y => y.2.2⟩
theorem faI_b {W h : Int} {hs : Int → Int} (hh : hB9 hs) (p e q f : Int) : -3 ≤ faI W h hs p e q f ∧ faI W h hs p e q f ≤ 90 := by
  have := frI_b (W := W) (h := h) hh p e q f
  unfold faI
  split <;> omega
theorem FTl_iff {W h k i t : Int} {hs pc tn q qa qf : Int → Int} (hB : 1 ≤ W ∧ W ≤ 5 ∧ 1 ≤ h ∧ h ≤ 5) (hk : 0 ≤ k ∧ k < W * h) (ht : 0 ≤ t ∧ t < 4) (hqk : q k = i * 4 + t) (hq : ∀ j : Int, 0 ≤ j ∧ j < k → qa j = q j / 4 ∧ qf j = q j % 4) :
    FT W h hs pc tn q k ↔ ((∀ d : Int, 0 ≤ d → d < 4 → (sdI W h (pc i) ((d + 8 - (tn i + t)) % 4) = -9 ↔ BR W h k d)) ∧ (k / W = 0 ∨ faI W h hs (pc i) ((8 - (tn i + t)) % 4) (pc (qa (k - W))) ((10 - tn (qa (k - W)) - qf (k - W)) % 4) = 0) ∧ (k % W = 0 ∨ faI W h hs (pc i) ((11 - (tn i + t)) % 4) (pc (qa (k - 1))) ((9 - tn (qa (k - 1)) - qf (k - 1)) % 4) = 0)) := by
  have e1 : q k / 4 = i := by omega
  have e2 : q k % 4 = t := by omega
  have ed : ∀ d : Int, edI tn (q k) d = (d + 8 - (tn i + t)) % 4 := fun d => by
    unfold edI
    rw [e1, e2, show d + 8 - tn i - t = d + 8 - (tn i + t) by omega]
  have ej : ∀ j d : Int, 0 ≤ j ∧ j < k → edI tn (q j) d = (d + 8 - tn (qa j) - qf j) % 4 := fun j d hj => by
    unfold edI
    rw [(hq j hj).1, (hq j hj).2]
  have hf : ∀ d : Int, ftF W h pc tn (q k) d ↔ sdI W h (pc i) ((d + 8 - (tn i + t)) % 4) = -9 := fun d => by
    unfold ftF
    rw [ed d, e1]
  have hm : ∀ d j f : Int, 0 ≤ j ∧ j < k → (ftM W h hs pc tn (q k) d (q j) f ↔ faI W h hs (pc i) ((d + 8 - (tn i + t)) % 4) (pc (qa j)) ((f + 8 - tn (qa j) - qf j) % 4) = 0) := fun d j f hj => by
    rw [faI_0]
    unfold ftM
    rw [hf d, ed d, e1]
    unfold ftF
    rw [ej j f hj, (hq j hj).1]
  unfold FT
  rw [hf 0, hf 1, hf 2, hf 3]
  have g1 : (k / W = 0 ∨ ftM W h hs pc tn (q k) 0 (q (k - W)) 2) ↔ (k / W = 0 ∨ faI W h hs (pc i) ((8 - (tn i + t)) % 4) (pc (qa (k - W))) ((10 - tn (qa (k - W)) - qf (k - W)) % 4) = 0) := by
    by_cases c : k / W = 0
    · exact ⟨fun _ => Or.inl c, fun _ => Or.inl c⟩
    · have a := (kW_f hB.1 hk.1 c).1
      have m := hm 0 (k - W) 2 ⟨a, by omega⟩
      rw [show (0 : Int) + 8 = 8 by omega, show (2 : Int) + 8 = 10 by omega] at m
      exact ⟨fun y => y.imp id m.mp, fun y => y.imp id m.mpr⟩
  have g2 : (k % W = 0 ∨ ftM W h hs pc tn (q k) 3 (q (k - 1)) 1) ↔ (k % W = 0 ∨ faI W h hs (pc i) ((11 - (tn i + t)) % 4) (pc (qa (k - 1))) ((9 - tn (qa (k - 1)) - qf (k - 1)) % 4) = 0) := by
    by_cases c : k % W = 0
    · exact ⟨fun _ => Or.inl c, fun _ => Or.inl c⟩
    · have a := (k1_f hB.1 hk.1 c).1
      have m := hm 3 (k - 1) 1 ⟨a, by omega⟩
      rw [show (3 : Int) + 8 = 11 by omega, show (1 : Int) + 8 = 9 by omega] at m
      exact ⟨fun y => y.imp id m.mp, fun y => y.imp id m.mpr⟩
  rw [g1, g2]
  refine and_congr ⟨?_, ?_⟩ Iff.rfl
  · rintro ⟨z0, z1, z2, z3⟩ d h1 h2
    rcases (show d = 0 ∨ d = 1 ∨ d = 2 ∨ d = 3 by omega) with rfl | rfl | rfl | rfl
    · rw [z0]; unfold BR; omega
    · rw [z1]; unfold BR; omega
    · rw [z2]; unfold BR; omega
    · rw [z3]; unfold BR; omega
  · intro z
    have z0 := z 0 (by omega) (by omega)
    have z1 := z 1 (by omega) (by omega)
    have z2 := z 2 (by omega) (by omega)
    have z3 := z 3 (by omega) (by omega)
    unfold BR at z0 z1 z2 z3
    exact ⟨z0.trans (by omega), z1.trans (by omega), z2.trans (by omega), z3.trans (by omega)⟩
theorem k_X5_heaped_0 (E : gE) (l : Launch) {a_D a_L a_P a_Q a_R a_X a_pc a_tn : Nat} {n i  : Int} {pc tn : Int → Int} {tr ft : Int} (hn : 0 ≤ n ∧ n ≤ 25) (hi : 0 ≤ i ∧ i < n) : gFun E l yX5_heaped wsX5_heaped { frames := 2, cells := 0, slots := 0, locals := 42 } [.ref a_X, .int (iI i), .int (iI 0)] [(a_X, .inr (5, [.ref a_P, .ref a_L, .ref a_R, .ref a_D, .ref a_Q, .int (iI tr), .int (iI ft)])), (a_L, .inr (2, [.ref a_pc, .ref a_tn, .int (iI n)])), (a_pc, aI E 25 pc), (a_tn, aI E 25 tn)] (.int (iI (pc i))) := by
  have q_ : gFun E l yX5_heaped wsX5_heaped { frames := 2, cells := 0, slots := 0, locals := 42 } [.ref a_X, .int (iI i), .int (iI 0)] [(a_X, .inr (5, [.ref a_P, .ref a_L, .ref a_R, .ref a_D, .ref a_Q, .int (iI tr), .int (iI ft)])), (a_L, .inr (2, [.ref a_pc, .ref a_tn, .int (iI n)])), (a_pc, aI E 25 pc), (a_tn, aI E 25 tn)] (.int (iI (if ¬ (0 ≤ i ∧ i < n) then -1 else if 0 = 0 then pc i else if 0 = 1 then tn i else -2))) := k_X5_heaped E l (by first | assumption | omega) (by first | assumption | omega) (by first | assumption | omega)
  rw [if_neg (by omega), if_pos rfl] at q_
  exact q_
theorem k_X5_heaped_1 (E : gE) (l : Launch) {a_D a_L a_P a_Q a_R a_X a_pc a_tn : Nat} {n i  : Int} {pc tn : Int → Int} {tr ft : Int} (hn : 0 ≤ n ∧ n ≤ 25) (hi : 0 ≤ i ∧ i < n) : gFun E l yX5_heaped wsX5_heaped { frames := 2, cells := 0, slots := 0, locals := 42 } [.ref a_X, .int (iI i), .int (iI 1)] [(a_X, .inr (5, [.ref a_P, .ref a_L, .ref a_R, .ref a_D, .ref a_Q, .int (iI tr), .int (iI ft)])), (a_L, .inr (2, [.ref a_pc, .ref a_tn, .int (iI n)])), (a_pc, aI E 25 pc), (a_tn, aI E 25 tn)] (.int (iI (tn i))) := by
  have q_ : gFun E l yX5_heaped wsX5_heaped { frames := 2, cells := 0, slots := 0, locals := 42 } [.ref a_X, .int (iI i), .int (iI 1)] [(a_X, .inr (5, [.ref a_P, .ref a_L, .ref a_R, .ref a_D, .ref a_Q, .int (iI tr), .int (iI ft)])), (a_L, .inr (2, [.ref a_pc, .ref a_tn, .int (iI n)])), (a_pc, aI E 25 pc), (a_tn, aI E 25 tn)] (.int (iI (if ¬ (0 ≤ i ∧ i < n) then -1 else if 1 = 0 then pc i else if 1 = 1 then tn i else -2))) := k_X5_heaped E l (by first | assumption | omega) (by first | assumption | omega) (by first | assumption | omega)
  rw [if_neg (by omega), if_neg (by decide), if_pos rfl] at q_
  exact q_
theorem k_X5_sideOf_v (E : gE) (l : Launch) {a_D a_L a_P a_Q a_R a_X a_hs a_se : Nat} {W h p e : Int} {se : Int → Int} {tr ft : Int} (hB : 1 ≤ W ∧ W ≤ 5 ∧ 1 ≤ h ∧ h ≤ 5) (hse : ∀ p e : Int, 0 ≤ p ∧ p < W * h → 0 ≤ e ∧ e < 4 → se (p * 4 + e) = sdI W h p e) (hp : 0 ≤ p ∧ p < W * h) (he : 0 ≤ e ∧ e < 4) : gFun E l yX5_sideOf wsX5_sideOf { frames := 3, cells := 0, slots := 0, locals := 63 } [.ref a_X, .int (iI p), .int (iI e)] [(a_X, .inr (5, [.ref a_P, .ref a_L, .ref a_R, .ref a_D, .ref a_Q, .int (iI tr), .int (iI ft)])), (a_P, .inr (1, [.ref a_hs, .ref a_se, .int (iI W), .int (iI h)])), (a_se, aI E 100 se)] (.int (iI (sdI W h p e))) := by
  have hN_ := nsd_b hB
  have q_ : gFun E l yX5_sideOf wsX5_sideOf { frames := 3, cells := 0, slots := 0, locals := 63 } [.ref a_X, .int (iI p), .int (iI e)] [(a_X, .inr (5, [.ref a_P, .ref a_L, .ref a_R, .ref a_D, .ref a_Q, .int (iI tr), .int (iI ft)])), (a_P, .inr (1, [.ref a_hs, .ref a_se, .int (iI W), .int (iI h)])), (a_se, aI E 100 se)] (.int (iI (if (0 ≤ p ∧ p < W * h) ∧ 0 ≤ e ∧ e < 4 then sdI W h p e else -1))) := k_X5_sideOf E l (by first | assumption | omega) (by first | assumption | omega) (by first | assumption | omega) (by first | assumption | omega)
  rw [if_pos ⟨hp, he⟩] at q_
  exact q_
theorem k_X5_far_v (E : gE) (l : Launch) {a_D a_L a_P a_Q a_R a_X a_hs a_se : Nat} {W h p e q f : Int} {hs se : Int → Int} {tr ft : Int} (hB : 1 ≤ W ∧ W ≤ 5 ∧ 1 ≤ h ∧ h ≤ 5) (hse : ∀ p e : Int, 0 ≤ p ∧ p < W * h → 0 ≤ e ∧ e < 4 → se (p * 4 + e) = sdI W h p e) (hh : hB9 hs) (hp : 0 ≤ p ∧ p < W * h) (he : 0 ≤ e ∧ e < 4) (hq : 0 ≤ q ∧ q < W * h) (hf : 0 ≤ f ∧ f < 4) : gFun E l yX5_far wsX5_far { frames := 3, cells := 0, slots := 0, locals := 74 } [.ref a_X, .int (iI p), .int (iI e), .int (iI q), .int (iI f)] [(a_X, .inr (5, [.ref a_P, .ref a_L, .ref a_R, .ref a_D, .ref a_Q, .int (iI tr), .int (iI ft)])), (a_P, .inr (1, [.ref a_hs, .ref a_se, .int (iI W), .int (iI h)])), (a_hs, aI E 200 hs), (a_se, aI E 100 se)] (.int (iI (faI W h hs p e q f))) := by
  have hN_ := nsd_b hB
  have q_ : gFun E l yX5_far wsX5_far { frames := 3, cells := 0, slots := 0, locals := 74 } [.ref a_X, .int (iI p), .int (iI e), .int (iI q), .int (iI f)] [(a_X, .inr (5, [.ref a_P, .ref a_L, .ref a_R, .ref a_D, .ref a_Q, .int (iI tr), .int (iI ft)])), (a_P, .inr (1, [.ref a_hs, .ref a_se, .int (iI W), .int (iI h)])), (a_hs, aI E 200 hs), (a_se, aI E 100 se)] (.int (iI (if ¬ (((0 ≤ p ∧ p < W * h) ∧ 0 ≤ e ∧ e < 4) ∧ ((0 ≤ q ∧ q < W * h) ∧ 0 ≤ f ∧ f < 4)) then -1 else if sdI W h p e = -9 ∨ sdI W h q f = -9 then -3 else frI W h hs p e q f))) := k_X5_far E l (by first | assumption | omega) (by first | assumption | omega) (by first | assumption | omega) (by first | assumption | omega) (by first | assumption | omega) (by first | assumption | omega) (by first | assumption | omega)
  rw [if_neg (fun z => z ⟨⟨hp, he⟩, hq, hf⟩)] at q_
  exact q_
