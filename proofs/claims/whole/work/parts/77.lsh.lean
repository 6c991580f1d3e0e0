def P4 (a b c d : Int) : Prop := (a = 0 ∧ b = 1 ∧ c = 2 ∧ d = 3) ∨ (a = 0 ∧ b = 2 ∧ c = 1 ∧ d = 3) ∨ (a = 0 ∧ b = 3 ∧ c = 1 ∧ d = 2) ∨ (a = 1 ∧ b = 0 ∧ c = 2 ∧ d = 3) ∨ (a = 1 ∧ b = 2 ∧ c = 0 ∧ d = 3) ∨ (a = 1 ∧ b = 3 ∧ c = 0 ∧ d = 2) ∨ (a = 2 ∧ b = 0 ∧ c = 1 ∧ d = 3) ∨ (a = 2 ∧ b = 1 ∧ c = 0 ∧ d = 3) ∨ (a = 2 ∧ b = 3 ∧ c = 0 ∧ d = 1) ∨ (a = 3 ∧ b = 0 ∧ c = 1 ∧ d = 2) ∨ (a = 3 ∧ b = 1 ∧ c = 0 ∧ d = 2) ∨ (a = 3 ∧ b = 2 ∧ c = 0 ∧ d = 1)
def uC (f : Int → Int → Int) (z : Int) (v : Int → Int) : Int → Int → Int := fun j => if j = z then v else f j
theorem uC_eq (f : Int → Int → Int) (z : Int) (v : Int → Int) : uC f z v z = v := if_pos rfl
theorem uC_ne {f : Int → Int → Int} {z j : Int} {v : Int → Int} (h : j ≠ z) : uC f z v j = f j := if_neg h
theorem uI_id (f : Int → Int) (z : Int) : uI f z (f z) = f := by
  funext j
  unfold uI
  split
  · next h => rw [h]
  · rfl
theorem sel1 (k : Int) : ∃ a b c d : Int, P4 a b c d ∧ (0 ≤ a ∧ a < 4) ∧ (0 ≤ k ∧ k < 4 → k = a) := by
  rcases (show k = 0 ∨ k = 1 ∨ k = 2 ∨ k = 3 ∨ ¬ (0 ≤ k ∧ k < 4) by omega) with h | h | h | h | h
  · exact ⟨0, 1, 2, 3, (Or.inl ⟨rfl, rfl, rfl, rfl⟩), by omega, by omega⟩
  · exact ⟨1, 0, 2, 3, (Or.inr (Or.inr (Or.inr ((Or.inl ⟨rfl, rfl, rfl, rfl⟩))))), by omega, by omega⟩
  · exact ⟨2, 0, 1, 3, (Or.inr (Or.inr (Or.inr (Or.inr (Or.inr (Or.inr ((Or.inl ⟨rfl, rfl, rfl, rfl⟩)))))))), by omega, by omega⟩
  · exact ⟨3, 0, 1, 2, (Or.inr (Or.inr (Or.inr (Or.inr (Or.inr (Or.inr (Or.inr (Or.inr (Or.inr ((Or.inl ⟨rfl, rfl, rfl, rfl⟩))))))))))), by omega, by omega⟩
  · exact ⟨0, 1, 2, 3, (Or.inl ⟨rfl, rfl, rfl, rfl⟩), by omega, by omega⟩
theorem sel3 (k o : Int) (hk : 0 ≤ k ∧ k < 4) (ho : 0 ≤ o ∧ o < 4) (h : k ≠ o) : ∃ c d : Int, P4 o k c d := by
  rcases (show (k = 0 ∨ k = 1 ∨ k = 2 ∨ k = 3) by omega) with a | a | a | a <;> rcases (show (o = 0 ∨ o = 1 ∨ o = 2 ∨ o = 3) by omega) with b | b | b | b <;> subst a <;> subst b
  · exact absurd rfl h
  · exact ⟨2, 3, (Or.inr (Or.inr (Or.inr ((Or.inl ⟨rfl, rfl, rfl, rfl⟩)))))⟩
  · exact ⟨1, 3, (Or.inr (Or.inr (Or.inr (Or.inr (Or.inr (Or.inr ((Or.inl ⟨rfl, rfl, rfl, rfl⟩))))))))⟩
  · exact ⟨1, 2, (Or.inr (Or.inr (Or.inr (Or.inr (Or.inr (Or.inr (Or.inr (Or.inr (Or.inr ((Or.inl ⟨rfl, rfl, rfl, rfl⟩)))))))))))⟩
  · exact ⟨2, 3, (Or.inl ⟨rfl, rfl, rfl, rfl⟩)⟩
  · exact absurd rfl h
  · exact ⟨0, 3, (Or.inr (Or.inr (Or.inr (Or.inr (Or.inr (Or.inr (Or.inr ((Or.inl ⟨rfl, rfl, rfl, rfl⟩)))))))))⟩
  · exact ⟨0, 2, (Or.inr (Or.inr (Or.inr (Or.inr (Or.inr (Or.inr (Or.inr (Or.inr (Or.inr (Or.inr ((Or.inl ⟨rfl, rfl, rfl, rfl⟩))))))))))))⟩
  · exact ⟨1, 3, (Or.inr ((Or.inl ⟨rfl, rfl, rfl, rfl⟩)))⟩
  · exact ⟨0, 3, (Or.inr (Or.inr (Or.inr (Or.inr ((Or.inl ⟨rfl, rfl, rfl, rfl⟩))))))⟩
  · exact absurd rfl h
  · exact ⟨0, 1, (Or.inr (Or.inr (Or.inr (Or.inr (Or.inr (Or.inr (Or.inr (Or.inr (Or.inr (Or.inr (Or.inr (⟨rfl, rfl, rfl, rfl⟩))))))))))))⟩
  · exact ⟨1, 2, (Or.inr (Or.inr ((Or.inl ⟨rfl, rfl, rfl, rfl⟩))))⟩
  · exact ⟨0, 2, (Or.inr (Or.inr (Or.inr (Or.inr (Or.inr ((Or.inl ⟨rfl, rfl, rfl, rfl⟩)))))))⟩
  · exact ⟨0, 1, (Or.inr (Or.inr (Or.inr (Or.inr (Or.inr (Or.inr (Or.inr (Or.inr ((Or.inl ⟨rfl, rfl, rfl, rfl⟩))))))))))⟩
  · exact absurd rfl h
theorem sel2 (k o : Int) : (∃ a b c d : Int, P4 a b c d ∧ (0 ≤ a ∧ a < 4) ∧ (0 ≤ k ∧ k < 4 → k = a) ∧ (0 ≤ o ∧ o < 4 → o = a)) ∨ ∃ a b c d : Int, P4 a b c d ∧ ((0 ≤ a ∧ a < 4) ∧ 0 ≤ b ∧ b < 4) ∧ k = b ∧ o = a := by
  by_cases hk : 0 ≤ k ∧ k < 4
  · by_cases ho : 0 ≤ o ∧ o < 4
    · by_cases h : k = o
      · obtain ⟨a, b, c, d, h1, h2, h3⟩ := sel1 k
        exact Or.inl ⟨a, b, c, d, h1, h2, h3, by omega⟩
      · obtain ⟨c, d, h1⟩ := sel3 k o hk ho h
        exact Or.inr ⟨o, k, c, d, h1, ⟨ho, hk⟩, rfl, rfl⟩
    · obtain ⟨a, b, c, d, h1, h2, h3⟩ := sel1 k
      exact Or.inl ⟨a, b, c, d, h1, h2, h3, by omega⟩
  · obtain ⟨a, b, c, d, h1, h2, h3⟩ := sel1 o
    exact Or.inl ⟨a, b, c, d, h1, h2, by omega, h3⟩
section LSH
variable {p : Program} {l : Launch} {e : Env} {R : Room} {s : State} {m : MethodId} {args : Array Value} {below : List Frame} {meth : Method} {c : Code} {cells slots : Nat} {Q : State → Prop} {E : gE} {A : Nat → Prop} {nL : Nat} {lv : List (Nat × Value)} {pc : Nat} {st : List Value} {b0 b1 b2 b3 b4 b5 b6 b7 b8 b9 b10 b11 b12 b13 b14 b15 b16 b17 b18 b19 b20 b21 b22 b23 b24 b25 b26 b27 b28 : Nat × va_E} {aS aC : Int → Nat} {TH LN SZ : Int → Int} {CE : Int → Int → Int} {q0 q1 q2 q3 : Int}
theorem sh_in (hp : P4 q0 q1 q2 q3) (kk : gJ p l e R s m args below meth c cells slots Q E A nL (b0 :: b1 :: b2 :: b3 :: b4 :: b5 :: b6 :: b7 :: b8 :: b9 :: b10 :: b11 :: b12 :: b13 :: b14 :: b15 :: b16 :: b17 :: b18 :: b19 :: b20 :: b21 :: b22 :: b23 :: b24 :: b25 :: b26 :: b27 :: b28 :: (aS q0, .inr (4, [.ref (aC q0), .int (iI (TH q0)), .int (iI (LN q0)), .int (iI (SZ q0))])) :: (aC q0, aI E 50 (CE q0)) :: (aS q1, .inr (4, [.ref (aC q1), .int (iI (TH q1)), .int (iI (LN q1)), .int (iI (SZ q1))])) :: (aC q1, aI E 50 (CE q1)) :: (aS q2, .inr (4, [.ref (aC q2), .int (iI (TH q2)), .int (iI (LN q2)), .int (iI (SZ q2))])) :: (aC q2, aI E 50 (CE q2)) :: (aS q3, .inr (4, [.ref (aC q3), .int (iI (TH q3)), .int (iI (LN q3)), .int (iI (SZ q3))])) :: (aC q3, aI E 50 (CE q3)) :: []) lv pc st) : gJ p l e R s m args below meth c cells slots Q E A nL (b0 :: b1 :: b2 :: b3 :: b4 :: b5 :: b6 :: b7 :: b8 :: b9 :: b10 :: b11 :: b12 :: b13 :: b14 :: b15 :: b16 :: b17 :: b18 :: b19 :: b20 :: b21 :: b22 :: b23 :: b24 :: b25 :: b26 :: b27 :: b28 :: (aS 0, .inr (4, [.ref (aC 0), .int (iI (TH 0)), .int (iI (LN 0)), .int (iI (SZ 0))])) :: (aC 0, aI E 50 (CE 0)) :: (aS 1, .inr (4, [.ref (aC 1), .int (iI (TH 1)), .int (iI (LN 1)), .int (iI (SZ 1))])) :: (aC 1, aI E 50 (CE 1)) :: (aS 2, .inr (4, [.ref (aC 2), .int (iI (TH 2)), .int (iI (LN 2)), .int (iI (SZ 2))])) :: (aC 2, aI E 50 (CE 2)) :: (aS 3, .inr (4, [.ref (aC 3), .int (iI (TH 3)), .int (iI (LN 3)), .int (iI (SZ 3))])) :: (aC 3, aI E 50 (CE 3)) :: []) lv pc st := by
  unfold P4 at hp
  rcases hp with ⟨rfl, rfl, rfl, rfl⟩ | ⟨rfl, rfl, rfl, rfl⟩ | ⟨rfl, rfl, rfl, rfl⟩ | ⟨rfl, rfl, rfl, rfl⟩ | ⟨rfl, rfl, rfl, rfl⟩ | ⟨rfl, rfl, rfl, rfl⟩ | ⟨rfl, rfl, rfl, rfl⟩ | ⟨rfl, rfl, rfl, rfl⟩ | ⟨rfl, rfl, rfl, rfl⟩ | ⟨rfl, rfl, rfl, rfl⟩ | ⟨rfl, rfl, rfl, rfl⟩ | ⟨rfl, rfl, rfl, rfl⟩
  · exact g_perm [0, 1, 2, 3, 4, 5, 6, 7, 8, 9, 10, 11, 12, 13, 14, 15, 16, 17, 18, 19, 20, 21, 22, 23, 24, 25, 26, 27, 28, 29, 30, 31, 32, 33, 34, 35, 36] rfl rfl kk
  · exact g_perm [0, 1, 2, 3, 4, 5, 6, 7, 8, 9, 10, 11, 12, 13, 14, 15, 16, 17, 18, 19, 20, 21, 22, 23, 24, 25, 26, 27, 28, 29, 30, 33, 34, 31, 32, 35, 36] rfl rfl kk
  · exact g_perm [0, 1, 2, 3, 4, 5, 6, 7, 8, 9, 10, 11, 12, 13, 14, 15, 16, 17, 18, 19, 20, 21, 22, 23, 24, 25, 26, 27, 28, 29, 30, 35, 36, 31, 32, 33, 34] rfl rfl kk
  · exact g_perm [0, 1, 2, 3, 4, 5, 6, 7, 8, 9, 10, 11, 12, 13, 14, 15, 16, 17, 18, 19, 20, 21, 22, 23, 24, 25, 26, 27, 28, 31, 32, 29, 30, 33, 34, 35, 36] rfl rfl kk
  · exact g_perm [0, 1, 2, 3, 4, 5, 6, 7, 8, 9, 10, 11, 12, 13, 14, 15, 16, 17, 18, 19, 20, 21, 22, 23, 24, 25, 26, 27, 28, 31, 32, 33, 34, 29, 30, 35, 36] rfl rfl kk
  · exact g_perm [0, 1, 2, 3, 4, 5, 6, 7, 8, 9, 10, 11, 12, 13, 14, 15, 16, 17, 18, 19, 20, 21, 22, 23, 24, 25, 26, 27, 28, 31, 32, 35, 36, 29, 30, 33, 34] rfl rfl kk
  · exact g_perm [0, 1, 2, 3, 4, 5, 6, 7, 8, 9, 10, 11, 12, 13, 14, 15, 16, 17, 18, 19, 20, 21, 22, 23, 24, 25, 26, 27, 28, 33, 34, 29, 30, 31, 32, 35, 36] rfl rfl kk
  · exact g_perm [0, 1, 2, 3, 4, 5, 6, 7, 8, 9, 10, 11, 12, 13, 14, 15, 16, 17, 18, 19, 20, 21, 22, 23, 24, 25, 26, 27, 28, 33, 34, 31, 32, 29, 30, 35, 36] rfl rfl kk
  · exact g_perm [0, 1, 2, 3, 4, 5, 6, 7, 8, 9, 10, 11, 12, 13, 14, 15, 16, 17, 18, 19, 20, 21, 22, 23, 24, 25, 26, 27, 28, 33, 34, 35, 36, 29, 30, 31, 32] rfl rfl kk
  · exact g_perm [0, 1, 2, 3, 4, 5, 6, 7, 8, 9, 10, 11, 12, 13, 14, 15, 16, 17, 18, 19, 20, 21, 22, 23, 24, 25, 26, 27, 28, 35, 36, 29, 30, 31, 32, 33, 34] rfl rfl kk
  · exact g_perm [0, 1, 2, 3, 4, 5, 6, 7, 8, 9, 10, 11, 12, 13, 14, 15, 16, 17, 18, 19, 20, 21, 22, 23, 24, 25, 26, 27, 28, 35, 36, 31, 32, 29, 30, 33, 34] rfl rfl kk
  · exact g_perm [0, 1, 2, 3, 4, 5, 6, 7, 8, 9, 10, 11, 12, 13, 14, 15, 16, 17, 18, 19, 20, 21, 22, 23, 24, 25, 26, 27, 28, 35, 36, 33, 34, 29, 30, 31, 32] rfl rfl kk
theorem sh_back (hp : P4 q0 q1 q2 q3) (kk : gJ p l e R s m args below meth c cells slots Q E A nL (b0 :: b1 :: b2 :: b3 :: b4 :: b5 :: b6 :: b7 :: b8 :: b9 :: b10 :: b11 :: b12 :: b13 :: b14 :: b15 :: b16 :: b17 :: b18 :: b19 :: b20 :: b21 :: b22 :: b23 :: b24 :: b25 :: b26 :: b27 :: b28 :: (aS 0, .inr (4, [.ref (aC 0), .int (iI (TH 0)), .int (iI (LN 0)), .int (iI (SZ 0))])) :: (aC 0, aI E 50 (CE 0)) :: (aS 1, .inr (4, [.ref (aC 1), .int (iI (TH 1)), .int (iI (LN 1)), .int (iI (SZ 1))])) :: (aC 1, aI E 50 (CE 1)) :: (aS 2, .inr (4, [.ref (aC 2), .int (iI (TH 2)), .int (iI (LN 2)), .int (iI (SZ 2))])) :: (aC 2, aI E 50 (CE 2)) :: (aS 3, .inr (4, [.ref (aC 3), .int (iI (TH 3)), .int (iI (LN 3)), .int (iI (SZ 3))])) :: (aC 3, aI E 50 (CE 3)) :: []) lv pc st) : gJ p l e R s m args below meth c cells slots Q E A nL (b0 :: b1 :: b2 :: b3 :: b4 :: b5 :: b6 :: b7 :: b8 :: b9 :: b10 :: b11 :: b12 :: b13 :: b14 :: b15 :: b16 :: b17 :: b18 :: b19 :: b20 :: b21 :: b22 :: b23 :: b24 :: b25 :: b26 :: b27 :: b28 :: (aS q0, .inr (4, [.ref (aC q0), .int (iI (TH q0)), .int (iI (LN q0)), .int (iI (SZ q0))])) :: (aC q0, aI E 50 (CE q0)) :: (aS q1, .inr (4, [.ref (aC q1), .int (iI (TH q1)), .int (iI (LN q1)), .int (iI (SZ q1))])) :: (aC q1, aI E 50 (CE q1)) :: (aS q2, .inr (4, [.ref (aC q2), .int (iI (TH q2)), .int (iI (LN q2)), .int (iI (SZ q2))])) :: (aC q2, aI E 50 (CE q2)) :: (aS q3, .inr (4, [.ref (aC q3), .int (iI (TH q3)), .int (iI (LN q3)), .int (iI (SZ q3))])) :: (aC q3, aI E 50 (CE q3)) :: []) lv pc st := by
  unfold P4 at hp
  rcases hp with ⟨rfl, rfl, rfl, rfl⟩ | ⟨rfl, rfl, rfl, rfl⟩ | ⟨rfl, rfl, rfl, rfl⟩ | ⟨rfl, rfl, rfl, rfl⟩ | ⟨rfl, rfl, rfl, rfl⟩ | ⟨rfl, rfl, rfl, rfl⟩ | ⟨rfl, rfl, rfl, rfl⟩ | ⟨rfl, rfl, rfl, rfl⟩ | ⟨rfl, rfl, rfl, rfl⟩ | ⟨rfl, rfl, rfl, rfl⟩ | ⟨rfl, rfl, rfl, rfl⟩ | ⟨rfl, rfl, rfl, rfl⟩
  · exact g_perm [0, 1, 2, 3, 4, 5, 6, 7, 8, 9, 10, 11, 12, 13, 14, 15, 16, 17, 18, 19, 20, 21, 22, 23, 24, 25, 26, 27, 28, 29, 30, 31, 32, 33, 34, 35, 36] rfl rfl kk
  · exact g_perm [0, 1, 2, 3, 4, 5, 6, 7, 8, 9, 10, 11, 12, 13, 14, 15, 16, 17, 18, 19, 20, 21, 22, 23, 24, 25, 26, 27, 28, 29, 30, 33, 34, 31, 32, 35, 36] rfl rfl kk
  · exact g_perm [0, 1, 2, 3, 4, 5, 6, 7, 8, 9, 10, 11, 12, 13, 14, 15, 16, 17, 18, 19, 20, 21, 22, 23, 24, 25, 26, 27, 28, 29, 30, 33, 34, 35, 36, 31, 32] rfl rfl kk
  · exact g_perm [0, 1, 2, 3, 4, 5, 6, 7, 8, 9, 10, 11, 12, 13, 14, 15, 16, 17, 18, 19, 20, 21, 22, 23, 24, 25, 26, 27, 28, 31, 32, 29, 30, 33, 34, 35, 36] rfl rfl kk
  · exact g_perm [0, 1, 2, 3, 4, 5, 6, 7, 8, 9, 10, 11, 12, 13, 14, 15, 16, 17, 18, 19, 20, 21, 22, 23, 24, 25, 26, 27, 28, 33, 34, 29, 30, 31, 32, 35, 36] rfl rfl kk
  · exact g_perm [0, 1, 2, 3, 4, 5, 6, 7, 8, 9, 10, 11, 12, 13, 14, 15, 16, 17, 18, 19, 20, 21, 22, 23, 24, 25, 26, 27, 28, 33, 34, 29, 30, 35, 36, 31, 32] rfl rfl kk
  · exact g_perm [0, 1, 2, 3, 4, 5, 6, 7, 8, 9, 10, 11, 12, 13, 14, 15, 16, 17, 18, 19, 20, 21, 22, 23, 24, 25, 26, 27, 28, 31, 32, 33, 34, 29, 30, 35, 36] rfl rfl kk
  · exact g_perm [0, 1, 2, 3, 4, 5, 6, 7, 8, 9, 10, 11, 12, 13, 14, 15, 16, 17, 18, 19, 20, 21, 22, 23, 24, 25, 26, 27, 28, 33, 34, 31, 32, 29, 30, 35, 36] rfl rfl kk
  · exact g_perm [0, 1, 2, 3, 4, 5, 6, 7, 8, 9, 10, 11, 12, 13, 14, 15, 16, 17, 18, 19, 20, 21, 22, 23, 24, 25, 26, 27, 28, 33, 34, 35, 36, 29, 30, 31, 32] rfl rfl kk
  · exact g_perm [0, 1, 2, 3, 4, 5, 6, 7, 8, 9, 10, 11, 12, 13, 14, 15, 16, 17, 18, 19, 20, 21, 22, 23, 24, 25, 26, 27, 28, 31, 32, 33, 34, 35, 36, 29, 30] rfl rfl kk
  · exact g_perm [0, 1, 2, 3, 4, 5, 6, 7, 8, 9, 10, 11, 12, 13, 14, 15, 16, 17, 18, 19, 20, 21, 22, 23, 24, 25, 26, 27, 28, 33, 34, 31, 32, 35, 36, 29, 30] rfl rfl kk
  · exact g_perm [0, 1, 2, 3, 4, 5, 6, 7, 8, 9, 10, 11, 12, 13, 14, 15, 16, 17, 18, 19, 20, 21, 22, 23, 24, 25, 26, 27, 28, 33, 34, 35, 36, 31, 32, 29, 30] rfl rfl kk
theorem sh_out {th ln sz : Int} {ce : Int → Int} (hp : P4 q0 q1 q2 q3) (kk : gJ p l e R s m args below meth c cells slots Q E A nL (b0 :: b1 :: b2 :: b3 :: b4 :: b5 :: b6 :: b7 :: b8 :: b9 :: b10 :: b11 :: b12 :: b13 :: b14 :: b15 :: b16 :: b17 :: b18 :: b19 :: b20 :: b21 :: b22 :: b23 :: b24 :: b25 :: b26 :: b27 :: b28 :: (aS 0, .inr (4, [.ref (aC 0), .int (iI (uI TH q0 th 0)), .int (iI (uI LN q0 ln 0)), .int (iI (uI SZ q0 sz 0))])) :: (aC 0, aI E 50 (uC CE q0 ce 0)) :: (aS 1, .inr (4, [.ref (aC 1), .int (iI (uI TH q0 th 1)), .int (iI (uI LN q0 ln 1)), .int (iI (uI SZ q0 sz 1))])) :: (aC 1, aI E 50 (uC CE q0 ce 1)) :: (aS 2, .inr (4, [.ref (aC 2), .int (iI (uI TH q0 th 2)), .int (iI (uI LN q0 ln 2)), .int (iI (uI SZ q0 sz 2))])) :: (aC 2, aI E 50 (uC CE q0 ce 2)) :: (aS 3, .inr (4, [.ref (aC 3), .int (iI (uI TH q0 th 3)), .int (iI (uI LN q0 ln 3)), .int (iI (uI SZ q0 sz 3))])) :: (aC 3, aI E 50 (uC CE q0 ce 3)) :: []) lv pc st) : gJ p l e R s m args below meth c cells slots Q E A nL (b0 :: b1 :: b2 :: b3 :: b4 :: b5 :: b6 :: b7 :: b8 :: b9 :: b10 :: b11 :: b12 :: b13 :: b14 :: b15 :: b16 :: b17 :: b18 :: b19 :: b20 :: b21 :: b22 :: b23 :: b24 :: b25 :: b26 :: b27 :: b28 :: (aS q0, .inr (4, [.ref (aC q0), .int (iI (th)), .int (iI (ln)), .int (iI (sz))])) :: (aC q0, aI E 50 (ce)) :: (aS q1, .inr (4, [.ref (aC q1), .int (iI (TH q1)), .int (iI (LN q1)), .int (iI (SZ q1))])) :: (aC q1, aI E 50 (CE q1)) :: (aS q2, .inr (4, [.ref (aC q2), .int (iI (TH q2)), .int (iI (LN q2)), .int (iI (SZ q2))])) :: (aC q2, aI E 50 (CE q2)) :: (aS q3, .inr (4, [.ref (aC q3), .int (iI (TH q3)), .int (iI (LN q3)), .int (iI (SZ q3))])) :: (aC q3, aI E 50 (CE q3)) :: []) lv pc st := by
  unfold P4 at hp
  rcases hp with ⟨rfl, rfl, rfl, rfl⟩ | ⟨rfl, rfl, rfl, rfl⟩ | ⟨rfl, rfl, rfl, rfl⟩ | ⟨rfl, rfl, rfl, rfl⟩ | ⟨rfl, rfl, rfl, rfl⟩ | ⟨rfl, rfl, rfl, rfl⟩ | ⟨rfl, rfl, rfl, rfl⟩ | ⟨rfl, rfl, rfl, rfl⟩ | ⟨rfl, rfl, rfl, rfl⟩ | ⟨rfl, rfl, rfl, rfl⟩ | ⟨rfl, rfl, rfl, rfl⟩ | ⟨rfl, rfl, rfl, rfl⟩
  · exact g_perm [0, 1, 2, 3, 4, 5, 6, 7, 8, 9, 10, 11, 12, 13, 14, 15, 16, 17, 18, 19, 20, 21, 22, 23, 24, 25, 26, 27, 28, 29, 30, 31, 32, 33, 34, 35, 36] rfl rfl kk
  · exact g_perm [0, 1, 2, 3, 4, 5, 6, 7, 8, 9, 10, 11, 12, 13, 14, 15, 16, 17, 18, 19, 20, 21, 22, 23, 24, 25, 26, 27, 28, 29, 30, 33, 34, 31, 32, 35, 36] rfl rfl kk
  · exact g_perm [0, 1, 2, 3, 4, 5, 6, 7, 8, 9, 10, 11, 12, 13, 14, 15, 16, 17, 18, 19, 20, 21, 22, 23, 24, 25, 26, 27, 28, 29, 30, 33, 34, 35, 36, 31, 32] rfl rfl kk
  · exact g_perm [0, 1, 2, 3, 4, 5, 6, 7, 8, 9, 10, 11, 12, 13, 14, 15, 16, 17, 18, 19, 20, 21, 22, 23, 24, 25, 26, 27, 28, 31, 32, 29, 30, 33, 34, 35, 36] rfl rfl kk
  · exact g_perm [0, 1, 2, 3, 4, 5, 6, 7, 8, 9, 10, 11, 12, 13, 14, 15, 16, 17, 18, 19, 20, 21, 22, 23, 24, 25, 26, 27, 28, 33, 34, 29, 30, 31, 32, 35, 36] rfl rfl kk
  · exact g_perm [0, 1, 2, 3, 4, 5, 6, 7, 8, 9, 10, 11, 12, 13, 14, 15, 16, 17, 18, 19, 20, 21, 22, 23, 24, 25, 26, 27, 28, 33, 34, 29, 30, 35, 36, 31, 32] rfl rfl kk
  · exact g_perm [0, 1, 2, 3, 4, 5, 6, 7, 8, 9, 10, 11, 12, 13, 14, 15, 16, 17, 18, 19, 20, 21, 22, 23, 24, 25, 26, 27, 28, 31, 32, 33, 34, 29, 30, 35, 36] rfl rfl kk
  · exact g_perm [0, 1, 2, 3, 4, 5, 6, 7, 8, 9, 10, 11, 12, 13, 14, 15, 16, 17, 18, 19, 20, 21, 22, 23, 24, 25, 26, 27, 28, 33, 34, 31, 32, 29, 30, 35, 36] rfl rfl kk
  · exact g_perm [0, 1, 2, 3, 4, 5, 6, 7, 8, 9, 10, 11, 12, 13, 14, 15, 16, 17, 18, 19, 20, 21, 22, 23, 24, 25, 26, 27, 28, 33, 34, 35, 36, 29, 30, 31, 32] rfl rfl kk
  · exact g_perm [0, 1, 2, 3, 4, 5, 6, 7, 8, 9, 10, 11, 12, 13, 14, 15, 16, 17, 18, 19, 20, 21, 22, 23, 24, 25, 26, 27, 28, 31, 32, 33, 34, 35, 36, 29, 30] rfl rfl kk
  · exact g_perm [0, 1, 2, 3, 4, 5, 6, 7, 8, 9, 10, 11, 12, 13, 14, 15, 16, 17, 18, 19, 20, 21, 22, 23, 24, 25, 26, 27, 28, 33, 34, 31, 32, 35, 36, 29, 30] rfl rfl kk
  · exact g_perm [0, 1, 2, 3, 4, 5, 6, 7, 8, 9, 10, 11, 12, 13, 14, 15, 16, 17, 18, 19, 20, 21, 22, 23, 24, 25, 26, 27, 28, 33, 34, 35, 36, 31, 32, 29, 30] rfl rfl kk
end LSH
section LSI
variable {TH LN SZ ss sl sc : Int → Int} {CE : Int → Int → Int} {k : Int}
theorem lsh_f (hS : lshI TH LN SZ CE ss sl sc) (hk : 0 ≤ k ∧ k < 4) : ((TH k = 1 ∧ 0 ≤ ss k ∧ SZ k = ss k) ∨ (TH k = 0 ∧ ss k < 0 ∧ SZ k = 0)) ∧ LN k = sl k ∧ (-1 ≤ ss k ∧ ss k ≤ 50) ∧ 0 ≤ sl k ∧ sl k ≤ 2 := by
  obtain ⟨a, b, c, -⟩ := hS.2.1 k hk
  refine ⟨?_, c, hS.1 k hk⟩
  by_cases z : 0 ≤ ss k
  · rw [if_pos z] at a b
    exact Or.inl ⟨a, z, b⟩
  · rw [if_neg z] at a b
    exact Or.inr ⟨a, by omega, b⟩
theorem lsh_b (hS : lshI TH LN SZ CE ss sl sc) (hk : 0 ≤ k ∧ k < 4) : (TH k = 0 ∨ TH k = 1) ∧ (0 ≤ SZ k ∧ SZ k ≤ 50) ∧ 0 ≤ LN k ∧ LN k ≤ 2 := by
  have h := lsh_f hS hk
  omega
theorem lsh_c (hS : lshI TH LN SZ CE ss sl sc) (hk : 0 ≤ k ∧ k < 4) : ∀ c : Int, 0 ≤ c ∧ c < ss k → CE k c = sc (50 * k + c) := (hS.2.1 k hk).2.2.2
theorem lsh_set {s' l' th ln sz : Int} {ce sc' : Int → Int} (hS : lshI TH LN SZ CE ss sl sc) (hk : 0 ≤ k ∧ k < 4) (h1 : -1 ≤ s' ∧ s' ≤ 50) (h2 : 0 ≤ l' ∧ l' ≤ 2) (h3 : th = if 0 ≤ s' then 1 else 0) (h4 : sz = if 0 ≤ s' then s' else 0) (h5 : ln = l') (h6 : ∀ c : Int, 0 ≤ c ∧ c < s' → ce c = sc' (50 * k + c)) (h7 : ∀ c : Int, -2147483648 ≤ ce c ∧ ce c < 2147483648) (h8 : ∀ c : Int, -2147483648 ≤ sc' c ∧ sc' c < 2147483648) (h9 : ∀ c : Int, ¬ (50 * k ≤ c ∧ c < 50 * k + 50) → sc' c = sc c) : lshI (uI TH k th) (uI LN k ln) (uI SZ k sz) (uC CE k ce) (uI ss k s') (uI sl k l') sc' := by
  refine ⟨fun j hj => ?_, fun j hj => ?_, fun j c => ?_, h8⟩
  · by_cases z : j = k
    · rw [z, uI_eq, uI_eq]; exact ⟨h1, h2⟩
    · rw [uI_ne z, uI_ne z]; exact hS.1 j hj
  · by_cases z : j = k
    · rw [z, uI_eq, uI_eq, uI_eq, uI_eq, uI_eq, uC_eq]; exact ⟨h3, h4, h5, h6⟩
    · rw [uI_ne z, uI_ne z, uI_ne z, uI_ne z, uI_ne z, uC_ne z]
      obtain ⟨a, b, c, d⟩ := hS.2.1 j hj
      have e := hS.1 j hj
      exact ⟨a, b, c, fun x hx => by rw [d x hx, h9 (50 * j + x) (by omega)]⟩
  · by_cases z : j = k
    · rw [z, uC_eq]; exact h7 c
    · rw [uC_ne z]; exact hS.2.2.1 j c
theorem zr_r {f : Int → Int} {b m : Int} (h : ∀ c : Int, -2147483648 ≤ f c ∧ f c < 2147483648) : ∀ c : Int, -2147483648 ≤ zsI f b m c ∧ zsI f b m c < 2147483648 := fun c => by
  unfold zsI
  split
  · omega
  · exact h c
theorem zr_r2 {f : Int → Int} {m : Int} (h : ∀ c : Int, -2147483648 ≤ f c ∧ f c < 2147483648) : ∀ c : Int, -2147483648 ≤ zrI f m c ∧ zrI f m c < 2147483648 := fun c => by
  unfold zrI
  split
  · omega
  · exact h c
theorem uI_r {f : Int → Int} {z v : Int} (h : ∀ c : Int, -2147483648 ≤ f c ∧ f c < 2147483648) (hv : -2147483648 ≤ v ∧ v < 2147483648) : ∀ c : Int, -2147483648 ≤ uI f z v c ∧ uI f z v c < 2147483648 := fun c => by
  unfold uI
  split
  · exact hv
  · exact h c
theorem cp_r {f g : Int → Int} {i j n : Int} (hf : ∀ c : Int, -2147483648 ≤ f c ∧ f c < 2147483648) (hg : ∀ c : Int, -2147483648 ≤ g c ∧ g c < 2147483648) : ∀ c : Int, -2147483648 ≤ cpI f g i j n c ∧ cpI f g i j n c < 2147483648 := fun c => by
  unfold cpI
  split
  · exact hf _
  · exact hg c
theorem cu_r {ln v : Int} (hv : -2147483648 ≤ v ∧ v < 2147483648) : -2147483648 ≤ cuI ln v ∧ cuI ln v < 2147483648 := by
  unfold cuI
  split
  · exact ⟨Int32.le_toInt _, Int32.toInt_lt _⟩
  · split
    · exact ⟨Int32.le_toInt _, Int32.toInt_lt _⟩
    · exact hv
theorem lsh_sheet {n t : Int} (hS : lshI TH LN SZ CE ss sl sc) (hk : 0 ≤ k ∧ k < 4) (ht : 0 ≤ t ∧ t < 3) (hn : 0 ≤ n ∧ n ≤ 50) : lshI (uI TH k 1) (uI LN k t) (uI SZ k n) (uC CE k (zrI (CE k) 50)) (uI ss k n) (uI sl k t) (zsI sc (50 * k) n) :=
  lsh_set hS hk (by omega) (by omega) (if_pos hn.1).symm (if_pos hn.1).symm rfl (fun c hc => by unfold zrI zsI; rw [if_pos (by omega), if_pos (by omega)]) (zr_r2 (hS.2.2.1 k)) (zr_r hS.2.2.2) (fun c hc => if_neg (by omega))
theorem lsh_lose (hS : lshI TH LN SZ CE ss sl sc) (hk : 0 ≤ k ∧ k < 4) : lshI (uI TH k 0) (uI LN k (LN k)) (uI SZ k 0) (uC CE k (CE k)) (uI ss k (-1)) sl sc := by
  have h := lsh_set (s' := -1) (l' := sl k) (th := 0) (ln := LN k) (sz := 0) (ce := CE k) (sc' := sc) hS hk (by omega) (hS.1 k hk).2 rfl rfl (hS.2.1 k hk).2.2.1 (fun c hc => by omega) (hS.2.2.1 k) hS.2.2.2 (fun c _ => rfl)
  rw [uI_id sl k] at h
  exact h
theorem lsh_ce {ce sc' : Int → Int} (hS : lshI TH LN SZ CE ss sl sc) (hk : 0 ≤ k ∧ k < 4) (h6 : ∀ c : Int, 0 ≤ c ∧ c < ss k → ce c = sc' (50 * k + c)) (h7 : ∀ c : Int, -2147483648 ≤ ce c ∧ ce c < 2147483648) (h8 : ∀ c : Int, -2147483648 ≤ sc' c ∧ sc' c < 2147483648) (h9 : ∀ c : Int, ¬ (50 * k ≤ c ∧ c < 50 * k + 50) → sc' c = sc c) : lshI (uI TH k (TH k)) (uI LN k (LN k)) (uI SZ k (SZ k)) (uC CE k ce) ss sl sc' := by
  obtain ⟨a, b, c, -⟩ := hS.2.1 k hk
  have h := lsh_set (s' := ss k) (l' := sl k) (th := TH k) (ln := LN k) (sz := SZ k) (ce := ce) (sc' := sc') hS hk (hS.1 k hk).1 (hS.1 k hk).2 a b c h6 h7 h8 h9
  rw [uI_id ss k, uI_id sl k] at h
  exact h
theorem lsh_put {i v : Int} (hS : lshI TH LN SZ CE ss sl sc) (hk : 0 ≤ k ∧ k < 4) (hi : 0 ≤ i ∧ i < ss k) (hv : -2147483648 ≤ v ∧ v < 2147483648) : lshI (uI TH k (TH k)) (uI LN k (LN k)) (uI SZ k (SZ k)) (uC CE k (uI (CE k) i (cuI (LN k) v))) ss sl (uI sc (50 * k + i) (cuI (sl k) v)) := by
  have e := (hS.2.1 k hk).2.2.1
  have e2 := (hS.1 k hk).1
  refine lsh_ce hS hk (fun c hc => ?_) (uI_r (hS.2.2.1 k) (cu_r hv)) (uI_r hS.2.2.2 (cu_r hv)) (fun c hc => uI_ne (by omega))
  rw [e]
  by_cases z : c = i
  · rw [z, uI_eq, uI_eq]
  · rw [uI_ne z, uI_ne (by omega)]; exact lsh_c hS hk c hc
theorem lsh_copy {o i j n : Int} (hS : lshI TH LN SZ CE ss sl sc) (hk : 0 ≤ k ∧ k < 4) (ho : 0 ≤ o ∧ o < 4) (hr : (0 ≤ i ∧ 0 ≤ n ∧ i + n ≤ ss k) ∧ 0 ≤ j ∧ 0 ≤ n ∧ j + n ≤ ss o) : lshI (uI TH o (TH o)) (uI LN o (LN o)) (uI SZ o (SZ o)) (uC CE o (cpI (CE k) (CE o) i j n)) ss sl (cpI sc sc (50 * k + i) (50 * o + j) n) := by
  have e2 := (hS.1 o ho).1
  refine lsh_ce hS ho (fun c hc => ?_) (cp_r (hS.2.2.1 k) (hS.2.2.1 o)) (cp_r hS.2.2.2 hS.2.2.2) (fun c hc => if_neg (by omega))
  unfold cpI
  by_cases z : j ≤ c ∧ c < j + n
  · rw [if_pos z, if_pos (by omega), lsh_c hS hk (i + (c - j)) (by omega)]
    exact congrArg sc (by omega)
  · rw [if_neg z, if_neg (by omega)]
    exact lsh_c hS ho c hc
end LSI
theorem shI_b9 {hs ce : Int → Int} {s i m : Int} (hh : hB9 hs) (h : ∀ c : Int, i ≤ c → c < i + m → -9 ≤ ce c ∧ ce c ≤ 9) : hB9 (shI hs ce s i m) := fun j => by
  unfold shI
  split
  · exact h _ (by omega) (by omega)
  · exact hh j
theorem shI_e {hs ce sc : Int → Int} {s i b m : Int} (h : ∀ c : Int, i ≤ c → c < i + m → ce c = sc (b + c)) : shI hs ce s i m = shI hs sc s (b + i) m := by
  funext j
  unfold shI
  by_cases z : s * 5 ≤ j ∧ j < s * 5 + m
  · rw [if_pos z, if_pos z, h _ (by omega) (by omega)]
    exact congrArg sc (by omega)
  · rw [if_neg z, if_neg z]
theorem shape_b {α : Type} {N k t i n s th ln sz ssk slk : Int} {ce sc : Int → Int} (hf : 0 ≤ k ∧ k < 4 → ((th = 1 ∧ 0 ≤ ssk ∧ sz = ssk) ∨ (th = 0 ∧ ssk < 0 ∧ sz = 0)) ∧ ln = slk) (hc : 0 ≤ k ∧ k < 4 → ∀ c : Int, 0 ≤ c ∧ c < ssk → ce c = sc (50 * k + c)) (x0 x1 x2 x3 x4 x5 x6 y6 x7 : α) (hx : (∀ c : Int, i ≤ c → c < i + n * 5 → ce c = sc (50 * k + c)) → x6 = y6) :
    (if ¬ ((0 ≤ k ∧ k < 4) ∧ 0 ≤ s ∧ s < N) then x0 else if ¬ (0 ≤ t ∧ t < 3) then x1 else if th = 1 ∧ ln ≠ t then x2 else if th = 0 then x3 else if n < 0 then x4 else if ¬ ((0 ≤ i ∧ 0 ≤ n * 5 ∧ i + n * 5 ≤ sz) ∧ s + n ≤ N) then x5 else @ite α (∀ c : Int, i ≤ c → c < i + n * 5 → -9 ≤ ce c ∧ ce c ≤ 9) (Classical.propDecidable _) x6 x7)
    = (if ¬ ((0 ≤ k ∧ k < 4) ∧ 0 ≤ s ∧ s < N) then x0 else if ¬ (0 ≤ t ∧ t < 3) then x1 else if 0 ≤ ssk ∧ slk ≠ t then x2 else if ssk < 0 then x3 else if n < 0 then x4 else if ¬ ((0 ≤ i ∧ 0 ≤ n * 5 ∧ i + n * 5 ≤ ssk) ∧ s + n ≤ N) then x5 else @ite α (∀ c : Int, 50 * k + i ≤ c → c < 50 * k + i + n * 5 → -9 ≤ sc c ∧ sc c ≤ 9) (Classical.propDecidable _) y6 x7) := by
  by_cases g0 : ¬ ((0 ≤ k ∧ k < 4) ∧ 0 ≤ s ∧ s < N)
  · rw [if_pos g0, if_pos g0]
  rw [if_neg g0, if_neg g0]
  have hk : 0 ≤ k ∧ k < 4 := by omega
  have hf := hf hk
  have hc := hc hk
  by_cases g1 : ¬ (0 ≤ t ∧ t < 3)
  · rw [if_pos g1, if_pos g1]
  rw [if_neg g1, if_neg g1]
  by_cases g2 : th = 1 ∧ ln ≠ t
  · rw [if_pos g2, if_pos (by omega)]
  rw [if_neg g2, if_neg (show ¬ (0 ≤ ssk ∧ slk ≠ t) by omega)]
  by_cases g3 : th = 0
  · rw [if_pos g3, if_pos (by omega)]
  rw [if_neg g3, if_neg (show ¬ ssk < 0 by omega)]
  by_cases g4 : n < 0
  · rw [if_pos g4, if_pos g4]
  rw [if_neg g4, if_neg g4]
  by_cases g5 : ¬ ((0 ≤ i ∧ 0 ≤ n * 5 ∧ i + n * 5 ≤ sz) ∧ s + n ≤ N)
  · rw [if_pos g5, if_pos (by omega)]
  rw [if_neg g5, if_neg (show ¬ ¬ ((0 ≤ i ∧ 0 ≤ n * 5 ∧ i + n * 5 ≤ ssk) ∧ s + n ≤ N) by omega)]
  have hcc : ∀ c : Int, i ≤ c → c < i + n * 5 → ce c = sc (50 * k + c) := fun c h1 h2 => hc c (by omega)
  by_cases g6 : ∀ c : Int, i ≤ c → c < i + n * 5 → -9 ≤ ce c ∧ ce c ≤ 9
  · rw [if_pos g6, if_pos (fun c h1 h2 => by
      have w := hcc (c - 50 * k) (by omega) (by omega)
      rw [show 50 * k + (c - 50 * k) = c by omega] at w
      rw [← w]
      exact g6 _ (by omega) (by omega))]
    exact hx hcc
  · rw [if_neg g6, if_neg (fun q => g6 (fun c h1 h2 => by rw [hcc c h1 h2]; exact q _ (by omega) (by omega)))]
theorem b9_if {P : Prop} {inst : Decidable P} {f g : Int → Int} (hf : P → hB9 f) (hg : hB9 g) : hB9 (@ite (Int → Int) P inst f g) := by
  by_cases z : P
  · rw [if_pos z]; exact hf z
  · rw [if_neg z]; exact hg
theorem j_if {P : Prop} {inst : Decidable P} {a b jo : Int} (ha : a = jo ∨ a = 0) (hb : b = jo ∨ b = 0) : @ite Int P inst a b = jo ∨ @ite Int P inst a b = 0 := by
  by_cases z : P
  · rw [if_pos z]; exact ha
  · rw [if_neg z]; exact hb
