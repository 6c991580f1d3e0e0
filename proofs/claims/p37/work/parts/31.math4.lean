/-! the search's tables -/
def shV (W h : Int) (hs pc tn : Int → Int) (v d : Int) : Int := if sdI W h (pc (v / 4)) (edI tn v d) = -9 then -1 else coI W h hs (pc (v / 4)) (edI tn v d)
def fiV (W h : Int) (hs pc tn : Int → Int) (v d : Int) : Int := if sdI W h (pc (v / 4)) (edI tn v d) = -9 then -1 else maI W h hs (pc (v / 4)) (edI tn v d)
def okN (g : Int → Int) (f0 f : Int → Int) (i T e t : Int) : Prop := (∀ e' t' : Int, 0 ≤ e' ∧ e' < 4 → 0 ≤ t' ∧ t' < 4 → (e' < e ∨ (e' = e ∧ t' < t)) → f ((i * 4 + t') * 4 + (e' + T + t') % 4) = g e') ∧ ∀ j : Int, ¬ (i * 16 ≤ j ∧ j < i * 16 + 16) → f j = f0 j
theorem okN_0 (g f0 : Int → Int) (i T : Int) : okN g f0 f0 i T 0 0 := ⟨fun e' t' h1 h2 h3 => by omega, fun _ _ => rfl⟩
theorem okN_s {g f0 f : Int → Int} {i T e t v : Int} (hT : 0 ≤ T ∧ T < 4) (he : 0 ≤ e ∧ e < 4) (ht : 0 ≤ t ∧ t < 4) (hv : v = g e) (q : okN g f0 f i T e t) : okN g f0 (uI f ((i * 4 + t) * 4 + (e + T + t) % 4) v) i T e (t + 1) := by
  refine ⟨fun e' t' h1 h2 h3 => ?_, fun j hj => ?_⟩
  · by_cases z : e' = e ∧ t' = t
    · obtain ⟨rfl, rfl⟩ := z
      rw [uI_eq, hv]
    · rw [uI_ne (by omega)]
      exact q.1 e' t' h1 h2 (by omega)
  · rw [uI_ne (by omega)]
    exact q.2 j hj
theorem okN_e {g f0 f : Int → Int} {i T e t : Int} (ht : 4 ≤ t) (q : okN g f0 f i T e t) : okN g f0 f i T (e + 1) 0 := ⟨fun e' t' h1 h2 h3 => q.1 e' t' h1 h2 (by omega), q.2⟩
theorem okN_f {g f0 f : Int → Int} {i T e : Int} (hT : 0 ≤ T ∧ T < 4) (he : 4 ≤ e) (q : okN g f0 f i T e 0) {t d : Int} (ht : 0 ≤ t ∧ t < 4) (hd : 0 ≤ d ∧ d < 4) : f ((i * 4 + t) * 4 + d) = g ((d + 8 - T - t) % 4) := by
  have h := q.1 ((d + 8 - T - t) % 4) t (by omega) ht (by omega)
  rw [show ((d + 8 - T - t) % 4 + T + t) % 4 = d by omega] at h
  exact h
def laI (wa : Int → Int) (k : Int) (g : Int → Int) (i : Int) : Int → Int := fun j => if k * 4 ≤ j ∧ j < k * 4 + i then g (j - k * 4) else wa j
theorem laI_0 (wa : Int → Int) (k : Int) (g : Int → Int) : laI wa k g 0 = wa := by
  funext j
  exact if_neg (by omega)
theorem laI_s {wa g : Int → Int} {k i v : Int} (h : 0 ≤ i) (hv : v = g i) : uI (laI wa k g i) (k * 4 + i) v = laI wa k g (i + 1) := by
  funext j
  unfold uI laI
  by_cases e : j = k * 4 + i
  · rw [if_pos e, if_pos (by omega), hv, show j - k * 4 = i by omega]
  · rw [if_neg e]
    by_cases q : k * 4 ≤ j ∧ j < k * 4 + i
    · rw [if_pos q, if_pos (by omega)]
    · rw [if_neg q, if_neg (by omega)]
def waV (W h : Int) (fi ly : Int → Int) (k d : Int) : Int := if sdI W h k d = -9 then -1 else if 0 ≤ nxI W k d ∧ nxI W k d < k then fi (ly (nxI W k d) * 4 + (d + 2) % 4) else -2
theorem nxI_b {W p e : Int} (hW : 1 ≤ W ∧ W ≤ 5) : p - 5 ≤ nxI W p e ∧ nxI W p e ≤ p + 5 := by unfold nxI; (repeat' split) <;> omega
def okD (wa sh : Int → Int) (v k d : Int) : Prop := (wa (k * 4 + d) = -2 ∧ sh (v * 4 + d) ≠ -1) ∨ (wa (k * 4 + d) ≠ -2 ∧ sh (v * 4 + d) = wa (k * 4 + d))
