/-! a whole heap: each piece once -/
def PM (M : Int) (f : Int → Int) : Prop := (∀ j : Int, 0 ≤ j ∧ j < M → 0 ≤ f j ∧ f j < M) ∧ (∀ i j : Int, 0 ≤ i ∧ i < M → 0 ≤ j ∧ j < M → f i = f j → i = j) ∧ ∀ p : Int, 0 ≤ p ∧ p < M → ∃ j : Int, (0 ≤ j ∧ j < M) ∧ f j = p
theorem pm_ap (M : Int) (f : Int → Int) : PM M (apI f M) := by
  have e : ∀ j : Int, 0 ≤ j ∧ j < M → apI f M j = j := fun j hj => if_pos hj
  exact ⟨fun j hj => by rw [e j hj]; exact hj, fun i j hi hj h => by rw [e i hi, e j hj] at h; exact h, fun p hp => ⟨p, hp, e p hp⟩⟩
theorem pm_sw {M i j : Int} {f : Int → Int} (hi : 0 ≤ i ∧ i < M) (hj : 0 ≤ j ∧ j < M) (h : PM M f) : PM M (uI (uI f i (f j)) j (f i)) := by
  obtain ⟨h1, h2, h3⟩ := h
  have ej : uI (uI f i (f j)) j (f i) j = f i := uI_eq _ _ _
  have ei : uI (uI f i (f j)) j (f i) i = f j := by
    by_cases z : i = j
    · rw [z, uI_eq]
    · rw [uI_ne z, uI_eq]
  have eo : ∀ x : Int, x ≠ i → x ≠ j → uI (uI f i (f j)) j (f i) x = f x := fun x a b => by rw [uI_ne b, uI_ne a]
  have key : ∀ x : Int, 0 ≤ x ∧ x < M → ∃ y : Int, (0 ≤ y ∧ y < M) ∧ uI (uI f i (f j)) j (f i) x = f y ∧ ((x = i ∧ y = j) ∨ (x = j ∧ y = i) ∨ (x ≠ i ∧ x ≠ j ∧ y = x)) := fun x hx => by
    by_cases a : x = i
    · exact ⟨j, hj, by rw [a, ei], Or.inl ⟨a, rfl⟩⟩
    · by_cases b : x = j
      · exact ⟨i, hi, by rw [b, ej], Or.inr (Or.inl ⟨b, rfl⟩)⟩
      · exact ⟨x, hx, eo x a b, Or.inr (Or.inr ⟨a, b, rfl⟩)⟩
  refine ⟨fun x hx => ?_, fun x y hx hy hxy => ?_, fun p hp => ?_⟩
  · obtain ⟨y, hy, e, -⟩ := key x hx
    rw [e]; exact h1 y hy
  · obtain ⟨a, ha, ea, ca⟩ := key x hx
    obtain ⟨b, hb, eb, cb⟩ := key y hy
    have := h2 a b ha hb (by rw [← ea, ← eb, hxy])
    omega
  · obtain ⟨y, hy, e⟩ := h3 p hp
    by_cases a : y = i
    · exact ⟨j, hj, by rw [ej, ← a, e]⟩
    · by_cases b : y = j
      · exact ⟨i, hi, by rw [ei, ← b, e]⟩
      · exact ⟨y, hy, by rw [eo y a b, e]⟩
theorem pm_swI (sd : Int64) {M : Int} (hM : 1 ≤ M ∧ M ≤ 25) {f : Int → Int} (hf : PM M f) {k : Int} (hk : 0 ≤ k) : k ≤ M - 1 → PM M (swI sd M f k) := by
  refine cnI_ind (M := fun k => k ≤ M - 1 → PM M (swI sd M f k)) (fun _ => hf) ?_ hk
  intro k hk ih hle
  have hd := dvI_b (dnI (dnT sd k)) (n := M - 1 - k + 1) (by omega)
  rw [swI_s sd M f hk]
  exact pm_sw (by omega) (by omega) (ih (by omega))
theorem cnI_1 {P : Int → Prop} {n j0 : Int} (h0 : 0 ≤ j0 ∧ j0 < n) (hP : P j0) (hu : ∀ j, 0 ≤ j ∧ j < n → P j → j = j0) : cnI P n = 1 := by
  have key : ∀ i, 0 ≤ i → i ≤ n → cnI P i = if j0 < i then 1 else 0 := fun i hi => by
    refine cnI_ind (M := fun i => i ≤ n → cnI P i = if j0 < i then 1 else 0) (fun _ => by rw [if_neg (by omega)]; rfl) ?_ hi
    intro i hi ih hle
    by_cases z : i = j0
    · rw [cnI_st P hi (by rw [z]; exact hP), ih (by omega), if_neg (by omega), if_pos (by omega)]; rfl
    · rw [cnI_sf P hi (fun q => z (hu i ⟨hi, by omega⟩ q)), ih (by omega)]
      by_cases y : j0 < i
      · rw [if_pos y, if_pos (by omega)]
      · rw [if_neg y, if_neg (by omega)]
  rw [key n (by omega) (Int.le_refl _), if_pos h0.2]
theorem pm_tm {M p : Int} {pc : Int → Int} (h : PM M pc) (hp : 0 ≤ p ∧ p < M) : tmI M pc p = 1 := by
  obtain ⟨j, hj, e⟩ := h.2.2 p hp
  exact cnI_1 hj e (fun i hi q => h.2.1 i j hi hj (q.trans e.symm))
theorem pm_ms {M w : Int} {pc : Int → Int} (hM : 0 ≤ M) (h : PM M pc) : cnI (msP M pc w) M = 0 := by
  refine (cnI_z _ hM).mpr (fun j h0 h1 q => ?_)
  have e := pm_tm h ⟨h0, h1⟩
  unfold msP at q
  omega
theorem wh6 {W h : Int} (hw : 1 ≤ W ∧ W ≤ 3 ∧ 1 ≤ h ∧ h ≤ 3 ∧ (W = 3 → h ≤ 2)) : 1 ≤ W * h ∧ W * h ≤ 6 := by
  rcases (show W = 1 ∨ W = 2 ∨ W = 3 by omega) with rfl | rfl | rfl <;> omega
theorem uI_b9 {hs : Int → Int} {z v : Int} (hh : hB9 hs) (hv : -9 ≤ v ∧ v ≤ 9) : hB9 (uI hs z v) := fun j => by
  unfold uI
  split
  · exact hv
  · exact hh j
theorem zrI_b9 {hs : Int → Int} {k : Int} (hh : hB9 hs) : hB9 (zrI hs k) := fun j => by
  unfold zrI
  split
  · omega
  · exact hh j
theorem lay_pw {n p t B : Int} {pc tn : Int → Int} (hpw : ∀ j : Int, 0 ≤ j ∧ j < n → (0 ≤ pc j ∧ pc j < B) ∧ 0 ≤ tn j ∧ tn j < 4) (hp : 0 ≤ p ∧ p < B) (ht : 0 ≤ t ∧ t < 4) : ∀ j : Int, 0 ≤ j ∧ j < n + 1 → (0 ≤ uI pc n p j ∧ uI pc n p j < B) ∧ 0 ≤ uI tn n t j ∧ uI tn n t j < 4 := fun j hj => by
  unfold uI
  by_cases z : j = n
  · rw [if_pos z, if_pos z]; exact ⟨hp, ht⟩
  · rw [if_neg z, if_neg z]; exact hpw j (by omega)
theorem heap_pw (sd : Int64) {M : Int} (hM : 1 ≤ M ∧ M ≤ 25) (pc tn : Int → Int) : ∀ j : Int, 0 ≤ j ∧ j < M → (0 ≤ swI sd M (apI pc M) (M - 1) j ∧ swI sd M (apI pc M) (M - 1) j < M) ∧ 0 ≤ trI sd M tn M j ∧ trI sd M tn M j < 4 := fun j hj => by
  refine ⟨(pm_swI sd hM (pm_ap M pc) (show (0 : Int) ≤ M - 1 by omega) (by omega)).1 j hj, ?_⟩
  unfold trI; rw [if_pos hj]; exact dvI_b _ (by omega)
theorem nx_in {W h p e : Int} (hB : 1 ≤ W ∧ W ≤ 5 ∧ 1 ≤ h ∧ h ≤ 5) (hp : 0 ≤ p ∧ p < W * h) (he : 0 ≤ e ∧ e < 4) (hf : sdI W h p e ≠ -9) : 0 ≤ nxI W p e ∧ nxI W p e < W * h := by
  have hn := nsd_b hB
  obtain ⟨w, rfl⟩ := Int.eq_ofNat_of_zero_le (show 0 ≤ W by omega)
  obtain ⟨k, rfl⟩ := Int.eq_ofNat_of_zero_le (show 0 ≤ h by omega)
  obtain ⟨q, rfl⟩ := Int.eq_ofNat_of_zero_le hp.1
  obtain ⟨d, rfl⟩ := Int.eq_ofNat_of_zero_le he.1
  have hq : q < w * k := by
    have := hp.2
    rw [← Int.natCast_mul] at this
    omega
  exact chk4 (P := fun W h p e => 1 ≤ W → 1 ≤ h → p < W * h → sdI (W : Nat) (h : Nat) (p : Nat) (e : Nat) ≠ -9 → 0 ≤ nxI (W : Nat) (p : Nat) (e : Nat) ∧ nxI (W : Nat) (p : Nat) (e : Nat) < (W : Int) * (h : Nat)) (by decide +kernel) w k q d (by omega) (by omega) (by have := hn.2.2.2; omega) (by omega) (by omega) (by omega) hq hf
theorem md_of {M n t i r : Int} {pc : Int → Int} (hi : 0 ≤ i) (ht : t = 0 ∨ t = 1) (h : (i < 0 ∧ r = -1) ∨ (0 ≤ i ∧ ¬ (t = 0 ∨ t = 1) ∧ r = -2) ∨ (0 ≤ i ∧ (t = 0 ∨ t = 1) ∧ mdP M n pc t i r)) : mdP M n pc t i r := by
  rcases h with h | h | h
  · omega
  · exact absurd ht h.2.1
  · exact h.2.2
theorem k_X5_bend_v (E : gE) (l : Launch) {a_D a_L a_P a_Q a_R a_X a_fi a_hs a_jl a_ly a_se a_sh a_us a_wa : Nat} {W h z i v : Int} {hs : Int → Int} {tr ft : Int} {jo fo sp fd tc : Int} (hB : 1 ≤ W ∧ W ≤ 5 ∧ 1 ≤ h ∧ h ≤ 5) (hh : hB9 hs) (hz : 0 ≤ z ∧ z < nsd W h) (hi : 0 ≤ i ∧ i < 5) (hv : -9 ≤ v ∧ v ≤ 9) : gUpd E l yX5_bend wsX5_bend { frames := 2, cells := 0, slots := 0, locals := 41 } [.ref a_X, .int (iI z), .int (iI i), .int (iI v)] [(a_X, .inr (5, [.ref a_P, .ref a_L, .ref a_R, .ref a_D, .ref a_Q, .int (iI tr), .int (iI ft)])), (a_P, .inr (1, [.ref a_hs, .ref a_se, .int (iI W), .int (iI h)])), (a_hs, aI E 200 hs), (a_R, .inr (3, [.ref a_P, .ref a_L, .ref a_sh, .ref a_fi, .ref a_wa, .ref a_us, .ref a_ly, .ref a_jl, .int (iI jo), .int (iI fo), .int (iI sp), .int (iI fd), .int (iI tc)]))] (some (.long (lI (htI hs z i 0)))) [(a_X, .inr (5, [.ref a_P, .ref a_L, .ref a_R, .ref a_D, .ref a_Q, .int (iI tr), .int (iI ft)])), (a_P, .inr (1, [.ref a_hs, .ref a_se, .int (iI W), .int (iI h)])), (a_hs, aI E 200 (uI hs (z * 5 + i) v)), (a_R, .inr (3, [.ref a_P, .ref a_L, .ref a_sh, .ref a_fi, .ref a_wa, .ref a_us, .ref a_ly, .ref a_jl, .int (iI 0), .int (iI fo), .int (iI sp), .int (iI fd), .int (iI tc)]))] := by
  have hN_ := nsd_b hB
  have hg_ : (0 ≤ z ∧ z < nsd W h) ∧ (0 ≤ i ∧ i < 5) ∧ -9 ≤ v ∧ v ≤ 9 := ⟨hz, hi, hv⟩
  have q_ : gUpd E l yX5_bend wsX5_bend { frames := 2, cells := 0, slots := 0, locals := 41 } [.ref a_X, .int (iI z), .int (iI i), .int (iI v)] [(a_X, .inr (5, [.ref a_P, .ref a_L, .ref a_R, .ref a_D, .ref a_Q, .int (iI tr), .int (iI ft)])), (a_P, .inr (1, [.ref a_hs, .ref a_se, .int (iI W), .int (iI h)])), (a_hs, aI E 200 hs), (a_R, .inr (3, [.ref a_P, .ref a_L, .ref a_sh, .ref a_fi, .ref a_wa, .ref a_us, .ref a_ly, .ref a_jl, .int (iI jo), .int (iI fo), .int (iI sp), .int (iI fd), .int (iI tc)]))] (some (.long (lI (if (0 ≤ z ∧ z < nsd W h) ∧ (0 ≤ i ∧ i < 5) ∧ -9 ≤ v ∧ v ≤ 9 then htI hs z i 0 else -9223372036854775808)))) [(a_X, .inr (5, [.ref a_P, .ref a_L, .ref a_R, .ref a_D, .ref a_Q, .int (iI tr), .int (iI ft)])), (a_P, .inr (1, [.ref a_hs, .ref a_se, .int (iI W), .int (iI h)])), (a_hs, aI E 200 (if (0 ≤ z ∧ z < nsd W h) ∧ (0 ≤ i ∧ i < 5) ∧ -9 ≤ v ∧ v ≤ 9 then uI hs (z * 5 + i) v else hs)), (a_R, .inr (3, [.ref a_P, .ref a_L, .ref a_sh, .ref a_fi, .ref a_wa, .ref a_us, .ref a_ly, .ref a_jl, .int (iI (if (0 ≤ z ∧ z < nsd W h) ∧ (0 ≤ i ∧ i < 5) ∧ -9 ≤ v ∧ v ≤ 9 then 0 else jo)), .int (iI fo), .int (iI sp), .int (iI fd), .int (iI tc)]))] := k_X5_bend E l (by first | assumption | omega) (by first | assumption | omega) (by first | assumption | omega) (by first | assumption | omega) (by first | assumption | omega)
  simp only [if_pos hg_] at q_
  exact q_
theorem k_X5_lay_v (E : gE) (l : Launch) {a_D a_L a_P a_Q a_R a_X a_fi a_hs a_jl a_ly a_pc a_se a_sh a_tn a_us a_wa : Nat} {W h n p t : Int} {pc tn : Int → Int} {tr ft : Int} {jo fo sp fd tc : Int} (hB : 1 ≤ W ∧ W ≤ 5 ∧ 1 ≤ h ∧ h ≤ 5) (hn : 0 ≤ n ∧ n < 25) (hp : 0 ≤ p ∧ p < W * h) (ht : 0 ≤ t ∧ t < 4) : gUpd E l yX5_lay wsX5_lay { frames := 2, cells := 0, slots := 0, locals := 42 } [.ref a_X, .int (iI p), .int (iI t)] [(a_X, .inr (5, [.ref a_P, .ref a_L, .ref a_R, .ref a_D, .ref a_Q, .int (iI tr), .int (iI ft)])), (a_P, .inr (1, [.ref a_hs, .ref a_se, .int (iI W), .int (iI h)])), (a_L, .inr (2, [.ref a_pc, .ref a_tn, .int (iI n)])), (a_pc, aI E 25 pc), (a_tn, aI E 25 tn), (a_R, .inr (3, [.ref a_P, .ref a_L, .ref a_sh, .ref a_fi, .ref a_wa, .ref a_us, .ref a_ly, .ref a_jl, .int (iI jo), .int (iI fo), .int (iI sp), .int (iI fd), .int (iI tc)]))] (some (.int (iI (n + 1)))) [(a_X, .inr (5, [.ref a_P, .ref a_L, .ref a_R, .ref a_D, .ref a_Q, .int (iI tr), .int (iI ft)])), (a_P, .inr (1, [.ref a_hs, .ref a_se, .int (iI W), .int (iI h)])), (a_L, .inr (2, [.ref a_pc, .ref a_tn, .int (iI (n + 1))])), (a_pc, aI E 25 (uI pc n p)), (a_tn, aI E 25 (uI tn n t)), (a_R, .inr (3, [.ref a_P, .ref a_L, .ref a_sh, .ref a_fi, .ref a_wa, .ref a_us, .ref a_ly, .ref a_jl, .int (iI 0), .int (iI fo), .int (iI sp), .int (iI fd), .int (iI tc)]))] := by
  have hN_ := nsd_b hB
  have hg_ : (0 ≤ p ∧ p < W * h) ∧ (0 ≤ t ∧ t < 4) ∧ n < 25 := ⟨hp, ht, hn.2⟩
  have g1_ : ¬ ¬ (0 ≤ p ∧ p < W * h) := fun q => q hp
  have g2_ : ¬ ¬ (0 ≤ t ∧ t < 4) := fun q => q ht
  have g3_ : ¬ 25 ≤ n := by omega
  have q_ : gUpd E l yX5_lay wsX5_lay { frames := 2, cells := 0, slots := 0, locals := 42 } [.ref a_X, .int (iI p), .int (iI t)] [(a_X, .inr (5, [.ref a_P, .ref a_L, .ref a_R, .ref a_D, .ref a_Q, .int (iI tr), .int (iI ft)])), (a_P, .inr (1, [.ref a_hs, .ref a_se, .int (iI W), .int (iI h)])), (a_L, .inr (2, [.ref a_pc, .ref a_tn, .int (iI n)])), (a_pc, aI E 25 pc), (a_tn, aI E 25 tn), (a_R, .inr (3, [.ref a_P, .ref a_L, .ref a_sh, .ref a_fi, .ref a_wa, .ref a_us, .ref a_ly, .ref a_jl, .int (iI jo), .int (iI fo), .int (iI sp), .int (iI fd), .int (iI tc)]))] (some (.int (iI (if ¬ (0 ≤ p ∧ p < W * h) then -1 else if ¬ (0 ≤ t ∧ t < 4) then -2 else if 25 ≤ n then -4 else n + 1)))) [(a_X, .inr (5, [.ref a_P, .ref a_L, .ref a_R, .ref a_D, .ref a_Q, .int (iI tr), .int (iI ft)])), (a_P, .inr (1, [.ref a_hs, .ref a_se, .int (iI W), .int (iI h)])), (a_L, .inr (2, [.ref a_pc, .ref a_tn, .int (iI (if (0 ≤ p ∧ p < W * h) ∧ (0 ≤ t ∧ t < 4) ∧ n < 25 then n + 1 else n))])), (a_pc, aI E 25 (if (0 ≤ p ∧ p < W * h) ∧ (0 ≤ t ∧ t < 4) ∧ n < 25 then uI pc n p else pc)), (a_tn, aI E 25 (if (0 ≤ p ∧ p < W * h) ∧ (0 ≤ t ∧ t < 4) ∧ n < 25 then uI tn n t else tn)), (a_R, .inr (3, [.ref a_P, .ref a_L, .ref a_sh, .ref a_fi, .ref a_wa, .ref a_us, .ref a_ly, .ref a_jl, .int (iI (if (0 ≤ p ∧ p < W * h) ∧ (0 ≤ t ∧ t < 4) ∧ n < 25 then 0 else jo)), .int (iI fo), .int (iI sp), .int (iI fd), .int (iI tc)]))] := k_X5_lay E l (by first | assumption | omega) (by first | assumption | omega) (by first | assumption | omega) (by first | assumption | omega)
  simp only [if_pos hg_, if_neg g1_, if_neg g2_, if_neg g3_] at q_
  exact q_
theorem k_X5_known_v (E : gE) (l : Launch) {a_D a_L a_P a_Q a_R a_X a_hs a_pc a_se a_tn : Nat} {W h n p : Int} {se pc : Int → Int} {tr ft : Int} (hB : 1 ≤ W ∧ W ≤ 5 ∧ 1 ≤ h ∧ h ≤ 5) (hse : ∀ p e : Int, 0 ≤ p ∧ p < W * h → 0 ≤ e ∧ e < 4 → se (p * 4 + e) = sdI W h p e) (hn : 0 ≤ n ∧ n ≤ 25) (hpn : ∀ j : Int, 0 ≤ j ∧ j < n → 0 ≤ pc j ∧ pc j < 25) (hp : 0 ≤ p ∧ p < W * h) : gFun E l yX5_known wsX5_known { frames := 2, cells := 0, slots := 0, locals := 45 } [.ref a_X, .int (iI p)] [(a_X, .inr (5, [.ref a_P, .ref a_L, .ref a_R, .ref a_D, .ref a_Q, .int (iI tr), .int (iI ft)])), (a_P, .inr (1, [.ref a_hs, .ref a_se, .int (iI W), .int (iI h)])), (a_se, aI E 100 se), (a_L, .inr (2, [.ref a_pc, .ref a_tn, .int (iI n)])), (a_pc, aI E 25 pc)] (.int (iI (if tmI n pc p = 0 then knI W h n pc p 4 else -3))) := by
  have hN_ := nsd_b hB
  have e0 := cnI_b (fun j => pc j = p) hn.1
  have e1 : tmI n pc p = cnI (fun j => pc j = p) n := rfl
  have q_ : gFun E l yX5_known wsX5_known { frames := 2, cells := 0, slots := 0, locals := 45 } [.ref a_X, .int (iI p)] [(a_X, .inr (5, [.ref a_P, .ref a_L, .ref a_R, .ref a_D, .ref a_Q, .int (iI tr), .int (iI ft)])), (a_P, .inr (1, [.ref a_hs, .ref a_se, .int (iI W), .int (iI h)])), (a_se, aI E 100 se), (a_L, .inr (2, [.ref a_pc, .ref a_tn, .int (iI n)])), (a_pc, aI E 25 pc)] (.int (iI (if ¬ (0 ≤ p ∧ p < W * h) then -1 else if 0 < tmI n pc p then -3 else knI W h n pc p 4))) := k_X5_known E l (by first | assumption | omega) (by first | assumption | omega) (by first | assumption | omega) (by first | assumption | omega) (by first | assumption | omega)
  rw [show (if ¬ (0 ≤ p ∧ p < W * h) then -1 else if 0 < tmI n pc p then -3 else knI W h n pc p 4 : Int) = if tmI n pc p = 0 then knI W h n pc p 4 else -3 by rw [if_neg (fun q => q hp)]; by_cases z : tmI n pc p = 0; (rw [if_pos z, if_neg (by omega)]); (rw [if_neg z, if_pos (by omega)])] at q_
  exact q_
theorem k_X5_missing_0 (E : gE) (l : Launch) {a_D a_L a_P a_Q a_R a_X a_hs a_pc a_se a_tn : Nat} {W h n  : Int} {pc : Int → Int} {tr ft : Int} (hB : 1 ≤ W ∧ W ≤ 5 ∧ 1 ≤ h ∧ h ≤ 5) (hn : 0 ≤ n ∧ n ≤ 25) (hpn : ∀ j : Int, 0 ≤ j ∧ j < n → 0 ≤ pc j ∧ pc j < 25) : gFun E l yX5_missing wsX5_missing { frames := 3, cells := 0, slots := 0, locals := 69 } [.ref a_X, .int (iI 0)] [(a_X, .inr (5, [.ref a_P, .ref a_L, .ref a_R, .ref a_D, .ref a_Q, .int (iI tr), .int (iI ft)])), (a_P, .inr (1, [.ref a_hs, .ref a_se, .int (iI W), .int (iI h)])), (a_L, .inr (2, [.ref a_pc, .ref a_tn, .int (iI n)])), (a_pc, aI E 25 pc)] (.int (iI (cnI (msP n pc 0) (W * h)))) := by
  have q_ : gFun E l yX5_missing wsX5_missing { frames := 3, cells := 0, slots := 0, locals := 69 } [.ref a_X, .int (iI 0)] [(a_X, .inr (5, [.ref a_P, .ref a_L, .ref a_R, .ref a_D, .ref a_Q, .int (iI tr), .int (iI ft)])), (a_P, .inr (1, [.ref a_hs, .ref a_se, .int (iI W), .int (iI h)])), (a_L, .inr (2, [.ref a_pc, .ref a_tn, .int (iI n)])), (a_pc, aI E 25 pc)] (.int (iI (if 0 = 0 ∨ 0 = 1 then cnI (msP n pc 0) (W * h) else -2))) := k_X5_missing E l (by first | assumption | omega) (by first | assumption | omega) (by first | assumption | omega) (by first | assumption | omega)
  rw [if_pos (Or.inl rfl)] at q_
  exact q_
theorem k_X5_missing_1 (E : gE) (l : Launch) {a_D a_L a_P a_Q a_R a_X a_hs a_pc a_se a_tn : Nat} {W h n  : Int} {pc : Int → Int} {tr ft : Int} (hB : 1 ≤ W ∧ W ≤ 5 ∧ 1 ≤ h ∧ h ≤ 5) (hn : 0 ≤ n ∧ n ≤ 25) (hpn : ∀ j : Int, 0 ≤ j ∧ j < n → 0 ≤ pc j ∧ pc j < 25) : gFun E l yX5_missing wsX5_missing { frames := 3, cells := 0, slots := 0, locals := 69 } [.ref a_X, .int (iI 1)] [(a_X, .inr (5, [.ref a_P, .ref a_L, .ref a_R, .ref a_D, .ref a_Q, .int (iI tr), .int (iI ft)])), (a_P, .inr (1, [.ref a_hs, .ref a_se, .int (iI W), .int (iI h)])), (a_L, .inr (2, [.ref a_pc, .ref a_tn, .int (iI n)])), (a_pc, aI E 25 pc)] (.int (iI (cnI (msP n pc 1) (W * h)))) := by
  have q_ : gFun E l yX5_missing wsX5_missing { frames := 3, cells := 0, slots := 0, locals := 69 } [.ref a_X, .int (iI 1)] [(a_X, .inr (5, [.ref a_P, .ref a_L, .ref a_R, .ref a_D, .ref a_Q, .int (iI tr), .int (iI ft)])), (a_P, .inr (1, [.ref a_hs, .ref a_se, .int (iI W), .int (iI h)])), (a_L, .inr (2, [.ref a_pc, .ref a_tn, .int (iI n)])), (a_pc, aI E 25 pc)] (.int (iI (if 1 = 0 ∨ 1 = 1 then cnI (msP n pc 1) (W * h) else -2))) := k_X5_missing E l (by first | assumption | omega) (by first | assumption | omega) (by first | assumption | omega) (by first | assumption | omega)
  rw [if_pos (Or.inr rfl)] at q_
  exact q_
