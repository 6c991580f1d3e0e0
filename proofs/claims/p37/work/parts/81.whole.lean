/-! a whole heap: the plain way is there; of a piece's turns at most one fits a place's border where there are six -/
theorem nb_nat (W h p e : Nat) (hW : W < 6) (hh : h < 6) (hp : p < 25) (he : e < 4) : 1 ≤ W → 1 ≤ h → p < W * h → (((p : Int) / W ≠ 0 → sdI W h ((p : Int) - W) 2 = sdI W h p 0 ∧ sdI W h p 0 ≠ -9) ∧ ((p : Int) % W ≠ 0 → sdI W h ((p : Int) - 1) 1 = sdI W h p 3 ∧ sdI W h p 3 ≠ -9)) := chk4 (P := fun W h p e => 1 ≤ W → 1 ≤ h → p < W * h → (((p : Int) / (W : Nat) ≠ 0 → sdI (W : Nat) (h : Nat) ((p : Int) - (W : Nat)) 2 = sdI (W : Nat) (h : Nat) (p : Nat) 0 ∧ sdI (W : Nat) (h : Nat) (p : Nat) 0 ≠ -9) ∧ ((p : Int) % (W : Nat) ≠ 0 → sdI (W : Nat) (h : Nat) ((p : Int) - 1) 1 = sdI (W : Nat) (h : Nat) (p : Nat) 3 ∧ sdI (W : Nat) (h : Nat) (p : Nat) 3 ≠ -9))) (by decide +kernel) W h p e hW hh hp he
theorem nb_b {W h p : Int} (hB : 1 ≤ W ∧ W ≤ 5 ∧ 1 ≤ h ∧ h ≤ 5) (hp : 0 ≤ p ∧ p < W * h) : (p / W ≠ 0 → sdI W h (p - W) 2 = sdI W h p 0 ∧ sdI W h p 0 ≠ -9) ∧ (p % W ≠ 0 → sdI W h (p - 1) 1 = sdI W h p 3 ∧ sdI W h p 3 ≠ -9) := by
  have hn := nsd_b hB
  obtain ⟨w, rfl⟩ := Int.eq_ofNat_of_zero_le (show 0 ≤ W by omega)
  obtain ⟨k, rfl⟩ := Int.eq_ofNat_of_zero_le (show 0 ≤ h by omega)
  obtain ⟨q, rfl⟩ := Int.eq_ofNat_of_zero_le hp.1
  have hq : q < w * k := by
    have := hp.2
    rw [← Int.natCast_mul] at this
    omega
  exact nb_nat w k q 0 (by omega) (by omega) (by have := hn.2.2.2; omega) (by omega) (by omega) (by omega) hq
theorem fr_mate {W h p e q f : Int} {hs : Int → Int} (hz : sdI W h p e = sdI W h q f) (he : wyI e = 1) (hf : wyI f = 0) : frI W h hs p e q f = 0 := by
  have a : ∀ i : Int, ehI W h hs p e i = - ehI W h hs q f (4 - i) := fun i => by
    unfold ehI htI
    rw [he, hf, hz, if_neg (by decide), if_pos rfl]
  rw [frI_z]
  exact ⟨a 0, a 1, a 2, a 3, a 4⟩
def GF (W h : Int) (pc tn : Int → Int) (k v : Int) : Prop := (ftF W h pc tn v 0 ↔ k / W = 0) ∧ (ftF W h pc tn v 1 ↔ k % W = W - 1) ∧ (ftF W h pc tn v 2 ↔ k / W = h - 1) ∧ (ftF W h pc tn v 3 ↔ k % W = 0)
theorem br_0 {W h k : Int} : BR W h k 0 ↔ k / W = 0 := by unfold BR; omega
theorem br_1 {W h k : Int} : BR W h k 1 ↔ k % W = W - 1 := by unfold BR; omega
theorem br_2 {W h k : Int} : BR W h k 2 ↔ k / W = h - 1 := by unfold BR; omega
theorem br_3 {W h k : Int} : BR W h k 3 ↔ k % W = 0 := by unfold BR; omega
theorem gf_br {W h k v : Int} {pc tn : Int → Int} (g : GF W h pc tn k v) : ∀ d : Int, 0 ≤ d ∧ d < 4 → (sdI W h (pc (v / 4)) ((d + 8 - tn (v / 4) - v % 4) % 4) = -9 ↔ BR W h k d) := by
  obtain ⟨g0, g1, g2, g3⟩ := g
  intro d hd
  rcases (show d = 0 ∨ d = 1 ∨ d = 2 ∨ d = 3 by omega) with rfl | rfl | rfl | rfl
  · exact Iff.trans g0 br_0.symm
  · exact Iff.trans g1 br_1.symm
  · exact Iff.trans g2 br_2.symm
  · exact Iff.trans g3 br_3.symm
theorem gf_one {W h k v1 v2 : Int} {pc tn : Int → Int} (hw : 1 ≤ W ∧ W ≤ 3 ∧ 1 ≤ h ∧ h ≤ 3 ∧ (W = 3 → h ≤ 2)) (h6 : 4 < W * h) (hk : 0 ≤ k ∧ k < W * h) (hv : v1 / 4 = v2 / 4) (hlt : v1 % 4 < v2 % 4) (g1 : GF W h pc tn k v1) (g2 : GF W h pc tn k v2) : False := by
  have key : ∀ d d' : Int, 0 ≤ d ∧ d < 4 → 0 ≤ d' ∧ d' < 4 → (d' = d + (v2 % 4 - v1 % 4) ∨ d' = d + (v2 % 4 - v1 % 4) - 4) → (BR W h k d ↔ BR W h k d') := fun d d' hd hd' e => by
    have a1 := gf_br g1 d hd
    have a2 := gf_br g2 d' hd'
    rw [← hv, show (d' + 8 - tn (v1 / 4) - v2 % 4) % 4 = (d + 8 - tn (v1 / 4) - v1 % 4) % 4 by omega] at a2
    exact a1.symm.trans a2
  have hWh : (W = 2 ∧ h = 3) ∨ (W = 3 ∧ h = 2) := by
    rcases (show W = 1 ∨ W = 2 ∨ W = 3 by omega) with rfl | rfl | rfl <;> omega
  have b13 : ¬ (BR W h k 1 ↔ BR W h k 3) ∨ ¬ (BR W h k 0 ↔ BR W h k 2) := by
    rw [br_0, br_1, br_2, br_3]
    rcases hWh with ⟨rfl, rfl⟩ | ⟨rfl, rfl⟩
    · exact Or.inl (by omega)
    · exact Or.inr (by omega)
  have c13 : (BR W h k 1 ↔ BR W h k 3) ∧ (BR W h k 0 ↔ BR W h k 2) := by
    rcases (show v2 % 4 - v1 % 4 = 1 ∨ v2 % 4 - v1 % 4 = 2 ∨ v2 % 4 - v1 % 4 = 3 by omega) with e | e | e
    · have k0 := key 0 1 (by omega) (by omega) (by omega)
      have k1 := key 1 2 (by omega) (by omega) (by omega)
      have k2 := key 2 3 (by omega) (by omega) (by omega)
      exact ⟨k1.trans k2, k0.trans k1⟩
    · exact ⟨key 1 3 (by omega) (by omega) (by omega), key 0 2 (by omega) (by omega) (by omega)⟩
    · have k0 := key 1 0 (by omega) (by omega) (by omega)
      have k1 := key 0 3 (by omega) (by omega) (by omega)
      have k2 := key 3 2 (by omega) (by omega) (by omega)
      exact ⟨k0.trans k1, k1.trans k2⟩
  rcases b13 with b | b
  · exact b c13.1
  · exact b c13.2
theorem gf_sum {W h k i : Int} {pc tn : Int → Int} (hw : 1 ≤ W ∧ W ≤ 3 ∧ 1 ≤ h ∧ h ≤ 3 ∧ (W = 3 → h ≤ 2)) (h6 : 4 < W * h) (hk : 0 ≤ k ∧ k < W * h) : cI (GF W h pc tn k (i * 4)) 1 0 + cI (GF W h pc tn k (i * 4 + 1)) 1 0 + cI (GF W h pc tn k (i * 4 + 2)) 1 0 + cI (GF W h pc tn k (i * 4 + 3)) 1 0 ≤ 1 := by
  have x : ∀ v1 v2 : Int, v1 / 4 = v2 / 4 → v1 % 4 < v2 % 4 → GF W h pc tn k v1 → ¬ GF W h pc tn k v2 := fun v1 v2 a b g1 g2 => gf_one hw h6 hk a b g1 g2
  by_cases a : GF W h pc tn k (i * 4)
  · rw [cI_t a, cI_f (x _ (i * 4 + 1) (by omega) (by omega) a), cI_f (x _ (i * 4 + 2) (by omega) (by omega) a), cI_f (x _ (i * 4 + 3) (by omega) (by omega) a)]
    omega
  · rw [cI_f a]
    by_cases b : GF W h pc tn k (i * 4 + 1)
    · rw [cI_t b, cI_f (x _ (i * 4 + 2) (by omega) (by omega) b), cI_f (x _ (i * 4 + 3) (by omega) (by omega) b)]
      omega
    · rw [cI_f b]
      by_cases c : GF W h pc tn k (i * 4 + 2)
      · rw [cI_t c, cI_f (x _ (i * 4 + 3) (by omega) (by omega) c)]
        omega
      · rw [cI_f c]
        by_cases d : GF W h pc tn k (i * 4 + 3)
        · rw [cI_t d]; omega
        · rw [cI_f d]; omega
theorem wh_w {W h : Int} {hs pc tn : Int → Int} (hB : 1 ≤ W ∧ W ≤ 5 ∧ 1 ≤ h ∧ h ≤ 5) (hP : PM (W * h) pc) (hpw : ∀ j : Int, 0 ≤ j ∧ j < W * h → (0 ≤ pc j ∧ pc j < W * h) ∧ 0 ≤ tn j ∧ tn j < 4) : ∃ w : Int → Int, (∀ k : Int, 0 ≤ k ∧ k < W * h → (0 ≤ w k ∧ w k < W * h * 4) ∧ FT W h hs pc tn w k) ∧ ∀ j k : Int, 0 ≤ j ∧ j < k → k < W * h → w j / 4 ≠ w k / 4 := by
  have hch : ∀ k : Int, ∃ j : Int, (0 ≤ k ∧ k < W * h) → ((0 ≤ j ∧ j < W * h) ∧ pc j = k) := fun k => by
    by_cases z : 0 ≤ k ∧ k < W * h
    · obtain ⟨j, hj⟩ := hP.2.2 k z
      exact ⟨j, fun _ => hj⟩
    · exact ⟨0, fun y => absurd y z⟩
  obtain ⟨g, hg⟩ := Classical.axiomOfChoice hch
  obtain ⟨w, hwd⟩ : ∃ w : Int → Int, ∀ k, w k = g k * 4 + (4 - tn (g k)) % 4 := ⟨fun k => g k * 4 + (4 - tn (g k)) % 4, fun k => rfl⟩
  have w4 : ∀ k, w k / 4 = g k := fun k => by rw [hwd k]; omega
  have wr : ∀ k, w k % 4 = (4 - tn (g k)) % 4 := fun k => by rw [hwd k]; omega
  have ed : ∀ k d : Int, 0 ≤ k ∧ k < W * h → 0 ≤ d ∧ d < 4 → edI tn (w k) d = d := fun k d hk hd => by
    have h1 := (hpw (g k) (hg k hk).1).2
    unfold edI
    rw [w4 k, wr k]
    omega
  have ft : ∀ k d : Int, 0 ≤ k ∧ k < W * h → 0 ≤ d ∧ d < 4 → (ftF W h pc tn (w k) d ↔ sdI W h k d = -9) := fun k d hk hd => by
    unfold ftF
    rw [w4 k, (hg k hk).2, ed k d hk hd]
  refine ⟨w, fun k hk => ⟨?_, ?_⟩, fun j k hj hk e => ?_⟩
  · have := (hg k hk).1
    rw [hwd k]
    omega
  · obtain ⟨f0, f1, f2', f3'⟩ := sdI_fl hB hk
    obtain ⟨n0, n3⟩ := nb_b hB hk
    unfold FT
    refine ⟨⟨(ft k 0 hk (by omega)).trans f0, (ft k 1 hk (by omega)).trans f1, (ft k 2 hk (by omega)).trans f2', (ft k 3 hk (by omega)).trans f3'⟩, ?_, ?_⟩
    · by_cases c : k / W = 0
      · exact Or.inl c
      · obtain ⟨e1, e2⟩ := n0 c
        have hkW := (kW_f hB.1 hk.1 c).1
        have hk2 : 0 ≤ k - W ∧ k - W < W * h := ⟨hkW, by omega⟩
        refine Or.inr ⟨fun y => e2 ((ft k 0 hk (by omega)).mp y), fun y => e2 (e1 ▸ (ft (k - W) 2 hk2 (by omega)).mp y), ?_⟩
        rw [w4 k, w4 (k - W), (hg k hk).2, (hg (k - W) hk2).2, ed k 0 hk (by omega), ed (k - W) 2 hk2 (by omega)]
        exact fr_mate e1.symm rfl rfl
    · by_cases c : k % W = 0
      · exact Or.inl c
      · obtain ⟨e1, e2⟩ := n3 c
        have hk1 := (k1_f hB.1 hk.1 c).1
        have hk2 : 0 ≤ k - 1 ∧ k - 1 < W * h := ⟨hk1, by omega⟩
        refine Or.inr ⟨fun y => e2 ((ft k 3 hk (by omega)).mp y), fun y => e2 (e1 ▸ (ft (k - 1) 1 hk2 (by omega)).mp y), ?_⟩
        rw [w4 k, w4 (k - 1), (hg k hk).2, (hg (k - 1) hk2).2, ed k 3 hk (by omega), ed (k - 1) 1 hk2 (by omega)]
        exact fr_mate e1.symm rfl rfl
  · rw [w4 j, w4 k] at e
    have a := (hg j (by omega)).2
    have b := (hg k (by omega)).2
    rw [e, b] at a
    omega
theorem wh_found {W h : Int} {hs pc tn : Int → Int} (hw : 1 ≤ W ∧ W ≤ 3 ∧ 1 ≤ h ∧ h ≤ 3 ∧ (W = 3 → h ≤ 2)) (hP : PM (W * h) pc) (hpw : ∀ j : Int, 0 ≤ j ∧ j < W * h → (0 ≤ pc j ∧ pc j < W * h) ∧ 0 ≤ tn j ∧ tn j < 4) : ∃ (m : Nat) (q u : Int → Int) (tc fd : Int), itS (FT W h hs pc tn) (W * h) (W * h) 0 m (0, (fun _ => -1), (fun _ => 0), 0, 0) = (-1, q, u, tc, fd) ∧ 1 ≤ fd := by
  have hB : 1 ≤ W ∧ W ≤ 5 ∧ 1 ≤ h ∧ h ≤ 5 := by omega
  have h6 := wh6 hw
  obtain ⟨w, hw1, hw2⟩ := wh_w (hs := hs) hB hP hpw
  have hcong : ∀ (q q' : Int → Int) (k : Int), 0 ≤ k → (∀ j : Int, 0 ≤ j ∧ j ≤ k → q j = q' j) → (FT W h hs pc tn q k ↔ FT W h hs pc tn q' k) := fun q q' k hk hq => FT_c hB hk hq
  by_cases z : 4 < W * h
  · have e6 : W * h = 6 := by
      rcases (show W = 1 ∨ W = 2 ∨ W = 3 by omega) with rfl | rfl | rfl <;> omega
    exact sr_all (G := GF W h pc tn) (T := 1) (w := w) ⟨by omega, by omega, hcong, fun q k _ hF => hF.1, fun k i hk _ => gf_sum hw z hk, hw1, hw2⟩ 5 (by omega) rfl (by decide)
  · have key : ∀ d : Nat, (d : Int) + 1 = W * h → cS 4 (d + 1) ≤ 60000 → ∃ (m : Nat) (q u : Int → Int) (tc fd : Int), itS (FT W h hs pc tn) (W * h) (W * h) 0 m (0, (fun _ => -1), (fun _ => 0), 0, 0) = (-1, q, u, tc, fd) ∧ 1 ≤ fd := fun d hd hc =>
      sr_all (G := fun _ _ => True) (T := 4) (w := w) ⟨by omega, by omega, hcong, fun q k _ hF => trivial, fun k i _ _ => by rw [cI_t trivial]; decide, hw1, hw2⟩ d hd rfl hc
    rcases (show W * h = 1 ∨ W * h = 2 ∨ W * h = 3 ∨ W * h = 4 by omega) with e | e | e | e
    · exact key 0 (by omega) (by decide)
    · exact key 1 (by omega) (by decide)
    · exact key 2 (by omega) (by decide)
    · exact key 3 (by omega) (by decide)
theorem wh_fd {W h fd tc : Int} {hs pc tn : Int → Int} (hw : 1 ≤ W ∧ W ≤ 3 ∧ 1 ≤ h ∧ h ≤ 3 ∧ (W = 3 → h ≤ 2)) (hP : PM (W * h) pc) (hpw : ∀ j : Int, 0 ≤ j ∧ j < W * h → (0 ≤ pc j ∧ pc j < W * h) ∧ 0 ≤ tn j ∧ tn j < 4) (h0 : en0 (FT W h hs pc tn) (W * h) (W * h) fd tc) : 1 ≤ fd := by
  obtain ⟨m, q, u, tc', fd', e, hf⟩ := wh_found (hs := hs) hw hP hpw
  rcases h0 with ⟨-, m2, q2, u2, e2⟩ | ⟨-, m2, q2, u2, d2, e2⟩
  · have z : fd' = fd := congrArg (fun x : gS => x.2.2.2.2) (fin_u e (show (-1 : Int) < 0 by omega) e2 (show (-1 : Int) < 0 by omega))
    omega
  · exact (gs_ne (fin_u e (show (-1 : Int) < 0 by omega) e2 (show (-2 : Int) < 0 by omega)) (by decide)).elim
