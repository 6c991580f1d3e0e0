theorem cdX5_far : yX5_far.cls = RX5 ∧ yX5_far.cls ≠ "java/lang/invoke/MethodHandle" ∧ yX5_far.cls ≠ "java/lang/invoke/VarHandle" ∧ (parseMethodDescriptor yX5_far.desc).map (fun d => d.parameters.length) = some 4 := by decide +kernel
theorem cdX5_heaped : yX5_heaped.cls = RX5 ∧ yX5_heaped.cls ≠ "java/lang/invoke/MethodHandle" ∧ yX5_heaped.cls ≠ "java/lang/invoke/VarHandle" ∧ (parseMethodDescriptor yX5_heaped.desc).map (fun d => d.parameters.length) = some 2 := by decide +kernel
theorem cdX5_sideOf : yX5_sideOf.cls = RX5 ∧ yX5_sideOf.cls ≠ "java/lang/invoke/MethodHandle" ∧ yX5_sideOf.cls ≠ "java/lang/invoke/VarHandle" ∧ (parseMethodDescriptor yX5_sideOf.desc).map (fun d => d.parameters.length) = some 2 := by decide +kernel
set_option maxHeartbeats 4000000 in
set_option maxRecDepth 100000 in
theorem k_L_fits (E : gE) (l : Launch) {a_D a_L a_P a_Q a_R a_X a_hs a_pc a_qa a_qf a_se a_tn : Nat} {W h n k i t : Int} {hs se pc tn qa qf q : Int → Int} {tr ft : Int} (hB : 1 ≤ W ∧ W ≤ 5 ∧ 1 ≤ h ∧ h ≤ 5) (hse : ∀ p e : Int, 0 ≤ p ∧ p < W * h → 0 ≤ e ∧ e < 4 → se (p * 4 + e) = sdI W h p e) (hh : hB9 hs) (hn : 0 ≤ n ∧ n ≤ 25) (hpw : ∀ j : Int, 0 ≤ j ∧ j < n → (0 ≤ pc j ∧ pc j < W * h) ∧ 0 ≤ tn j ∧ tn j < 4) (hW9 : W * h ≤ 9) (hk : 0 ≤ k ∧ k < W * h) (hi : 0 ≤ i ∧ i < n) (ht : 0 ≤ t ∧ t < 4) (hqk : q k = i * 4 + t) (hq : ∀ j : Int, 0 ≤ j ∧ j < k → (qa j = q j / 4 ∧ qf j = q j % 4) ∧ 0 ≤ q j ∧ q j < n * 4) : gFun E l yL_fits wsL_fits { frames := 4, cells := 0, slots := 0, locals := 98 } [.ref a_X, .int (iI W), .int (iI h), .int (iI k), .int (iI i), .int (iI t), .ref a_qa, .ref a_qf] [(a_X, .inr (5, [.ref a_P, .ref a_L, .ref a_R, .ref a_D, .ref a_Q, .int (iI tr), .int (iI ft)])), (a_P, .inr (1, [.ref a_hs, .ref a_se, .int (iI W), .int (iI h)])), (a_hs, aI E 200 hs), (a_se, aI E 100 se), (a_L, .inr (2, [.ref a_pc, .ref a_tn, .int (iI n)])), (a_pc, aI E 25 pc), (a_tn, aI E 25 tn), (a_qa, aI E 10 qa), (a_qf, aI E 10 qf)] (.int (iI (cI (FT W h hs pc tn q k) 1 0))) := by
  refine g_start (cc := cL_fits) (maxL := 14) (ret := (some .boolean)) (by decide) rfl (Nat.le_of_ble_eq_true rfl) ?_
  intro p_ e_ s_ m_ args_ below_ meth_ c_ A_ C hr hnm
  have hN := nsd_b hB
  have hm0 := Int.emod_nonneg k (show W ≠ 0 by omega)
  have hm1 := Int.emod_lt_of_pos k (show 0 < W by omega)
  have hd0 := Int.ediv_nonneg hk.1 (show 0 ≤ W by omega)
  have hd1 := Int.ediv_lt_of_lt_mul (show 0 < W by omega) (show k < h * W by rw [Int.mul_comm]; exact hk.2)
  have hp0 := (hpw i hi).1
  have ht0 := (hpw i hi).2
  refine g_iload_n 1 C 3 dL_fits_0 rfl rfl ?_
  refine g_iload_n 2 C 1 dL_fits_1 rfl rfl ?_
  refine g_irem 3 C dL_fits_2 rfl (by omega) ?_
  refine g_istore (lv' := [(8, _), (0, _), (1, _), (2, _), (3, _), (4, _), (5, _), (6, _), (7, _)]) 5 C dL_fits_3 rfl (by decide) rfl ?_
  refine g_iload_n 6 C 4 dL_fits_5 rfl rfl ?_
  refine g_iload_n 7 C 2 dL_fits_6 rfl rfl ?_
  refine g_idiv 8 C dL_fits_7 rfl (by omega) ?_
  refine g_istore (lv' := [(9, _), (8, _), (0, _), (1, _), (2, _), (3, _), (4, _), (5, _), (6, _), (7, _)]) 10 C dL_fits_8 rfl (by decide) rfl ?_
  refine g_aload_n 11 C 2 dL_fits_10 rfl rfl ?_
  refine g_iload 13 C 6 dL_fits_11 rfl rfl ?_
  refine g_iconst 14 C dL_fits_13 rfl ?_
  refine g_callVF 17 C [0, 4, 5, 6] dL_fits_14 rfl (k_X5_heaped_0 E l  (by first | assumption | omega) (by first | assumption | omega)) (cwV 2 C.2.2.2.2.1 gL_fits_X5_heaped rfl rfl rfl cdX5_heaped ⟨Nat.le_of_ble_eq_true rfl, Nat.le_of_ble_eq_true rfl⟩) rfl rfl rfl rfl (Nat.le_of_ble_eq_true rfl) 0 5 rfl rfl rfl ⟨Nat.le_of_ble_eq_true rfl, Nat.le_of_ble_eq_true rfl⟩ ?_
  refine g_istore (lv' := [(10, _), (9, _), (8, _), (0, _), (1, _), (2, _), (3, _), (4, _), (5, _), (6, _), (7, _)]) 19 C dL_fits_17 rfl (by decide) rfl ?_
  refine g_aload_n 20 C 3 dL_fits_19 rfl rfl ?_
  refine g_iload 22 C 7 dL_fits_20 rfl rfl ?_
  refine g_iconst 23 C dL_fits_22 rfl ?_
  refine g_callVF 26 C [0, 4, 5, 6] dL_fits_23 rfl (k_X5_heaped_1 E l  (by first | assumption | omega) (by first | assumption | omega)) (cwV 2 C.2.2.2.2.1 gL_fits_X5_heaped rfl rfl rfl cdX5_heaped ⟨Nat.le_of_ble_eq_true rfl, Nat.le_of_ble_eq_true rfl⟩) rfl rfl rfl rfl (Nat.le_of_ble_eq_true rfl) 0 5 rfl rfl rfl ⟨Nat.le_of_ble_eq_true rfl, Nat.le_of_ble_eq_true rfl⟩ ?_
  refine g_iload 28 C 8 dL_fits_26 rfl rfl ?_
  refine g_iadd 29 C dL_fits_28 rfl ?_
  refine g_istore (lv' := [(11, _), (10, _), (9, _), (8, _), (0, _), (1, _), (2, _), (3, _), (4, _), (5, _), (6, _), (7, _)]) 31 C dL_fits_29 rfl (by decide) rfl ?_
  refine g_iconst 32 C dL_fits_31 rfl ?_
  refine g_istore (lv' := [(12, _), (11, _), (10, _), (9, _), (8, _), (0, _), (1, _), (2, _), (3, _), (4, _), (5, _), (6, _), (7, _)]) 34 C dL_fits_32 rfl (by decide) rfl ?_
  refine g_loop (α := Int) (fun zz => [(a_X, .inr (5, [.ref a_P, .ref a_L, .ref a_R, .ref a_D, .ref a_Q, .int (iI tr), .int (iI ft)])), (a_P, .inr (1, [.ref a_hs, .ref a_se, .int (iI W), .int (iI h)])), (a_hs, aI E 200 hs), (a_se, aI E 100 se), (a_L, .inr (2, [.ref a_pc, .ref a_tn, .int (iI n)])), (a_pc, aI E 25 pc), (a_tn, aI E 25 tn), (a_qa, aI E 10 qa), (a_qf, aI E 10 qf)]) (fun zz => [(12, .int (iI zz)), (11, .int (iI (tn i + t))), (10, .int (iI (pc i))), (9, .int (iI (k / W))), (8, .int (iI (k % W))), (7, .ref a_qf), (6, .ref a_qa), (5, .int (iI t)), (4, .int (iI i)), (3, .int (iI k)), (2, .int (iI h)), (1, .int (iI W)), (0, .ref a_X)]) (fun zz => (0 ≤ zz ∧ zz ≤ 4) ∧ ∀ d : Int, 0 ≤ d → d < zz → (sdI W h (pc i) ((d + 8 - (tn i + t)) % 4) = -9 ↔ BR W h k d)) (fun zz => (4 - zz).toNat) (0) (by
            try dsimp only
            exact ⟨by omega, fun d h1 h2 => by omega⟩) [0, 1, 2, 3, 4, 12, 11, 10, 9, 8, 7, 6, 5] rfl rfl ?_
  rintro e hI ih34
  try dsimp only at hI ih34 ⊢
  obtain ⟨he, hA⟩ := hI
  refine g_iload 36 C 0 dL_fits_34 rfl rfl ?_
  refine g_iconst 37 C dL_fits_36 rfl ?_
  refine g_icmp_ge 151 40 C dL_fits_37 (by decide) rfl (by omega) ?_ ?_
  · intro h37
    have hall : ∀ d : Int, 0 ≤ d → d < 4 → (sdI W h (pc i) ((d + 8 - (tn i + t)) % 4) = -9 ↔ BR W h k d) := fun d h1 h2 => hA d h1 (by omega)
    refine g_iconst 152 C dL_fits_151 rfl ?_
    refine g_istore (lv' := [(12, _), (11, _), (10, _), (9, _), (8, _), (7, _), (6, _), (5, _), (4, _), (3, _), (2, _), (1, _), (0, _)]) 154 C dL_fits_152 rfl (by decide) rfl ?_
    refine g_iload 156 C 3 dL_fits_154 rfl rfl ?_
    refine g_if_le 218 159 C dL_fits_156 (by decide) rfl (by omega) ?_ ?_
    · intro h156
      refine g_iload 220 C 4 dL_fits_218 rfl rfl ?_
      refine g_if_le 287 223 C dL_fits_220 (by decide) rfl (by omega) ?_ ?_
      · intro h220
        refine g_iload 289 C 0 dL_fits_287 rfl rfl ?_
        exact g_zret C hr dL_fits_289 (by first | rfl | decide | (split <;> rfl)) ⟨g_ri (by first | exact (cI_t ((FTl_iff hB hk ht hqk (fun j hj => (hq j hj).1)).mpr ⟨hall, by omega, by omega⟩)).symm | exact (cI_f (fun z => by have z2 := ((FTl_iff hB hk ht hqk (fun j hj => (hq j hj).1)).mp z).2; omega)).symm), rfl⟩
      · intro h220
        refine g_iload 225 C 0 dL_fits_223 rfl rfl ?_
        refine g_if_eq 287 228 C dL_fits_225 (by decide) rfl (by omega) (fun q => absurd q (by omega)) ?_
        intro _
        have e2 := k1_f hB.1 hk.1 (by omega)
        have j3 := hq (k - 1) ⟨e2.1, by omega⟩
        have j4 := hpw (qa (k - 1)) (by omega)
        refine g_iload_n 229 C 9 dL_fits_228 rfl rfl ?_
        refine g_iconst 230 C dL_fits_229 rfl ?_
        refine g_isub 231 C dL_fits_230 rfl ?_
        refine g_istore (lv' := [(13, _), (12, _), (11, _), (10, _), (9, _), (8, _), (7, _), (6, _), (5, _), (4, _), (3, _), (2, _), (1, _), (0, _)]) 233 C dL_fits_231 rfl (by decide) rfl ?_
        refine g_aload_n 234 C 13 dL_fits_233 rfl rfl ?_
        refine g_iload 236 C 3 dL_fits_234 rfl rfl ?_
        refine g_bipush 238 C dL_fits_236 rfl (by decide) ?_
        refine g_iload 240 C 2 dL_fits_238 rfl rfl ?_
        refine g_isub 241 C dL_fits_240 rfl ?_
        refine g_iconst 242 C dL_fits_241 rfl ?_
        refine g_irem 243 C dL_fits_242 rfl (by omega) ?_
        refine g_aload_n 244 C 13 dL_fits_243 rfl rfl ?_
        refine g_aload 246 C 7 dL_fits_244 rfl rfl ?_
        refine g_iload 248 C 0 dL_fits_246 rfl rfl ?_
        refine g_iaload 249 C 7 dL_fits_248 rfl rfl (by omega) ?_
        refine g_iconst 250 C dL_fits_249 rfl ?_
        refine g_callVF 253 C [0, 4, 5, 6] dL_fits_250 rfl (k_X5_heaped_0 E l  (by first | assumption | omega) (by first | assumption | omega)) (cwV 2 C.2.2.2.2.1 gL_fits_X5_heaped rfl rfl rfl cdX5_heaped ⟨Nat.le_of_ble_eq_true rfl, Nat.le_of_ble_eq_true rfl⟩) rfl rfl rfl rfl (Nat.le_of_ble_eq_true rfl) 0 5 rfl rfl rfl ⟨Nat.le_of_ble_eq_true rfl, Nat.le_of_ble_eq_true rfl⟩ ?_
        refine g_bipush 255 C dL_fits_253 rfl (by decide) ?_
        refine g_aload_n 256 C 13 dL_fits_255 rfl rfl ?_
        refine g_aload 258 C 7 dL_fits_256 rfl rfl ?_
        refine g_iload 260 C 0 dL_fits_258 rfl rfl ?_
        refine g_iaload 261 C 7 dL_fits_260 rfl rfl (by omega) ?_
        refine g_iconst 262 C dL_fits_261 rfl ?_
        refine g_callVF 265 C [0, 4, 5, 6] dL_fits_262 rfl (k_X5_heaped_1 E l  (by first | assumption | omega) (by first | assumption | omega)) (cwV 2 C.2.2.2.2.1 gL_fits_X5_heaped rfl rfl rfl cdX5_heaped ⟨Nat.le_of_ble_eq_true rfl, Nat.le_of_ble_eq_true rfl⟩) rfl rfl rfl rfl (Nat.le_of_ble_eq_true rfl) 0 5 rfl rfl rfl ⟨Nat.le_of_ble_eq_true rfl, Nat.le_of_ble_eq_true rfl⟩ ?_
        refine g_isub 266 C dL_fits_265 rfl ?_
        refine g_aload 268 C 6 dL_fits_266 rfl rfl ?_
        refine g_iload 270 C 0 dL_fits_268 rfl rfl ?_
        refine g_iaload 271 C 8 dL_fits_270 rfl rfl (by omega) ?_
        refine g_isub 272 C dL_fits_271 rfl ?_
        refine g_iconst 273 C dL_fits_272 rfl ?_
        refine g_irem 274 C dL_fits_273 rfl (by omega) ?_
        have f2 := faI_b (W := W) (h := h) hh (pc i) ((11 - (tn i + t)) % 4) (pc (qa (k - 1))) ((9 - tn (qa (k - 1)) - qf (k - 1)) % 4)
        refine g_callVF 277 C [0, 1, 2, 3] dL_fits_274 rfl (k_X5_far_v E l  (by first | assumption | omega) (by first | assumption | omega) (by first | assumption | omega) (by first | assumption | omega) (by first | assumption | omega) (by first | assumption | omega) (by first | assumption | omega)) (cwV 4 C.2.2.2.2.1 gL_fits_X5_far rfl rfl rfl cdX5_far ⟨Nat.le_of_ble_eq_true rfl, Nat.le_of_ble_eq_true rfl⟩) rfl rfl rfl rfl (Nat.le_of_ble_eq_true rfl) 0 5 rfl rfl rfl ⟨Nat.le_of_ble_eq_true rfl, Nat.le_of_ble_eq_true rfl⟩ ?_
        refine g_if_ne 284 280 C dL_fits_277 (by decide) rfl (by omega) ?_ ?_
        · intro h277
          refine g_iconst 285 C dL_fits_284 rfl ?_
          refine g_istore (lv' := [(12, _), (13, _), (11, _), (10, _), (9, _), (8, _), (7, _), (6, _), (5, _), (4, _), (3, _), (2, _), (1, _), (0, _)]) 287 C dL_fits_285 rfl (by decide) rfl ?_
          refine g_iload 289 C 0 dL_fits_287 rfl rfl ?_
          exact g_zret C hr dL_fits_289 (by first | rfl | decide | (split <;> rfl)) ⟨g_ri (by first | exact (cI_t ((FTl_iff hB hk ht hqk (fun j hj => (hq j hj).1)).mpr ⟨hall, by omega, by omega⟩)).symm | exact (cI_f (fun z => by have z2 := ((FTl_iff hB hk ht hqk (fun j hj => (hq j hj).1)).mp z).2; omega)).symm), rfl⟩
        · intro h277
          refine g_iconst 281 C dL_fits_280 rfl ?_
          refine g_goto 285 C dL_fits_281 (by decide) ?_
          refine g_istore (lv' := [(12, _), (13, _), (11, _), (10, _), (9, _), (8, _), (7, _), (6, _), (5, _), (4, _), (3, _), (2, _), (1, _), (0, _)]) 287 C dL_fits_285 rfl (by decide) rfl ?_
          refine g_iload 289 C 0 dL_fits_287 rfl rfl ?_
          exact g_zret C hr dL_fits_289 (by first | rfl | decide | (split <;> rfl)) ⟨g_ri (by first | exact (cI_t ((FTl_iff hB hk ht hqk (fun j hj => (hq j hj).1)).mpr ⟨hall, by omega, by omega⟩)).symm | exact (cI_f (fun z => by have z2 := ((FTl_iff hB hk ht hqk (fun j hj => (hq j hj).1)).mp z).2; omega)).symm), rfl⟩
    · intro h156
      have e1 := kW_f hB.1 hk.1 (by omega)
      have j1 := hq (k - W) ⟨e1.1, by omega⟩
      have j2 := hpw (qa (k - W)) (by omega)
      refine g_iload_n 160 C 9 dL_fits_159 rfl rfl ?_
      refine g_iload_n 161 C 11 dL_fits_160 rfl rfl ?_
      refine g_isub 162 C dL_fits_161 rfl ?_
      refine g_istore (lv' := [(13, _), (12, _), (11, _), (10, _), (9, _), (8, _), (7, _), (6, _), (5, _), (4, _), (3, _), (2, _), (1, _), (0, _)]) 164 C dL_fits_162 rfl (by decide) rfl ?_
      refine g_aload_n 165 C 13 dL_fits_164 rfl rfl ?_
      refine g_iload 167 C 3 dL_fits_165 rfl rfl ?_
      refine g_bipush 169 C dL_fits_167 rfl (by decide) ?_
      refine g_iload 171 C 2 dL_fits_169 rfl rfl ?_
      refine g_isub 172 C dL_fits_171 rfl ?_
      refine g_iconst 173 C dL_fits_172 rfl ?_
      refine g_irem 174 C dL_fits_173 rfl (by omega) ?_
      refine g_aload_n 175 C 13 dL_fits_174 rfl rfl ?_
      refine g_aload 177 C 7 dL_fits_175 rfl rfl ?_
      refine g_iload 179 C 0 dL_fits_177 rfl rfl ?_
      refine g_iaload 180 C 7 dL_fits_179 rfl rfl (by omega) ?_
      refine g_iconst 181 C dL_fits_180 rfl ?_
      refine g_callVF 184 C [0, 4, 5, 6] dL_fits_181 rfl (k_X5_heaped_0 E l  (by first | assumption | omega) (by first | assumption | omega)) (cwV 2 C.2.2.2.2.1 gL_fits_X5_heaped rfl rfl rfl cdX5_heaped ⟨Nat.le_of_ble_eq_true rfl, Nat.le_of_ble_eq_true rfl⟩) rfl rfl rfl rfl (Nat.le_of_ble_eq_true rfl) 0 5 rfl rfl rfl ⟨Nat.le_of_ble_eq_true rfl, Nat.le_of_ble_eq_true rfl⟩ ?_
      refine g_bipush 186 C dL_fits_184 rfl (by decide) ?_
      refine g_aload_n 187 C 13 dL_fits_186 rfl rfl ?_
      refine g_aload 189 C 7 dL_fits_187 rfl rfl ?_
      refine g_iload 191 C 0 dL_fits_189 rfl rfl ?_
      refine g_iaload 192 C 7 dL_fits_191 rfl rfl (by omega) ?_
      refine g_iconst 193 C dL_fits_192 rfl ?_
      refine g_callVF 196 C [0, 4, 5, 6] dL_fits_193 rfl (k_X5_heaped_1 E l  (by first | assumption | omega) (by first | assumption | omega)) (cwV 2 C.2.2.2.2.1 gL_fits_X5_heaped rfl rfl rfl cdX5_heaped ⟨Nat.le_of_ble_eq_true rfl, Nat.le_of_ble_eq_true rfl⟩) rfl rfl rfl rfl (Nat.le_of_ble_eq_true rfl) 0 5 rfl rfl rfl ⟨Nat.le_of_ble_eq_true rfl, Nat.le_of_ble_eq_true rfl⟩ ?_
      refine g_isub 197 C dL_fits_196 rfl ?_
      refine g_aload 199 C 6 dL_fits_197 rfl rfl ?_
      refine g_iload 201 C 0 dL_fits_199 rfl rfl ?_
      refine g_iaload 202 C 8 dL_fits_201 rfl rfl (by omega) ?_
      refine g_isub 203 C dL_fits_202 rfl ?_
      refine g_iconst 204 C dL_fits_203 rfl ?_
      refine g_irem 205 C dL_fits_204 rfl (by omega) ?_
      have f1 := faI_b (W := W) (h := h) hh (pc i) ((8 - (tn i + t)) % 4) (pc (qa (k - W))) ((10 - tn (qa (k - W)) - qf (k - W)) % 4)
      refine g_callVF 208 C [0, 1, 2, 3] dL_fits_205 rfl (k_X5_far_v E l  (by first | assumption | omega) (by first | assumption | omega) (by first | assumption | omega) (by first | assumption | omega) (by first | assumption | omega) (by first | assumption | omega) (by first | assumption | omega)) (cwV 4 C.2.2.2.2.1 gL_fits_X5_far rfl rfl rfl cdX5_far ⟨Nat.le_of_ble_eq_true rfl, Nat.le_of_ble_eq_true rfl⟩) rfl rfl rfl rfl (Nat.le_of_ble_eq_true rfl) 0 5 rfl rfl rfl ⟨Nat.le_of_ble_eq_true rfl, Nat.le_of_ble_eq_true rfl⟩ ?_
      refine g_if_ne 215 211 C dL_fits_208 (by decide) rfl (by omega) ?_ ?_
      · intro h208
        refine g_iconst 216 C dL_fits_215 rfl ?_
        refine g_istore (lv' := [(12, _), (13, _), (11, _), (10, _), (9, _), (8, _), (7, _), (6, _), (5, _), (4, _), (3, _), (2, _), (1, _), (0, _)]) 218 C dL_fits_216 rfl (by decide) rfl ?_
        refine g_iload 220 C 5 dL_fits_218 rfl rfl ?_
        refine g_if_le 287 223 C dL_fits_220 (by decide) rfl (by omega) ?_ ?_
        · intro h220
          refine g_iload 289 C 0 dL_fits_287 rfl rfl ?_
          exact g_zret C hr dL_fits_289 (by first | rfl | decide | (split <;> rfl)) ⟨g_ri (by first | exact (cI_t ((FTl_iff hB hk ht hqk (fun j hj => (hq j hj).1)).mpr ⟨hall, by omega, by omega⟩)).symm | exact (cI_f (fun z => by have z2 := ((FTl_iff hB hk ht hqk (fun j hj => (hq j hj).1)).mp z).2; omega)).symm), rfl⟩
        · intro h220
          refine g_iload 225 C 0 dL_fits_223 rfl rfl ?_
          refine g_if_eq 287 228 C dL_fits_225 (by decide) rfl (by omega) ?_ (fun q => absurd q (by omega))
          intro _
          refine g_iload 289 C 0 dL_fits_287 rfl rfl ?_
          exact g_zret C hr dL_fits_289 (by first | rfl | decide | (split <;> rfl)) ⟨g_ri (by first | exact (cI_t ((FTl_iff hB hk ht hqk (fun j hj => (hq j hj).1)).mpr ⟨hall, by omega, by omega⟩)).symm | exact (cI_f (fun z => by have z2 := ((FTl_iff hB hk ht hqk (fun j hj => (hq j hj).1)).mp z).2; omega)).symm), rfl⟩
      · intro h208
        refine g_iconst 212 C dL_fits_211 rfl ?_
        refine g_goto 216 C dL_fits_212 (by decide) ?_
        refine g_istore (lv' := [(12, _), (13, _), (11, _), (10, _), (9, _), (8, _), (7, _), (6, _), (5, _), (4, _), (3, _), (2, _), (1, _), (0, _)]) 218 C dL_fits_216 rfl (by decide) rfl ?_
        refine g_iload 220 C 5 dL_fits_218 rfl rfl ?_
        refine g_if_le 287 223 C dL_fits_220 (by decide) rfl (by omega) ?_ ?_
        · intro h220
          refine g_iload 289 C 0 dL_fits_287 rfl rfl ?_
          exact g_zret C hr dL_fits_289 (by first | rfl | decide | (split <;> rfl)) ⟨g_ri (by first | exact (cI_t ((FTl_iff hB hk ht hqk (fun j hj => (hq j hj).1)).mpr ⟨hall, by omega, by omega⟩)).symm | exact (cI_f (fun z => by have z2 := ((FTl_iff hB hk ht hqk (fun j hj => (hq j hj).1)).mp z).2; omega)).symm), rfl⟩
        · intro h220
          refine g_iload 225 C 0 dL_fits_223 rfl rfl ?_
          refine g_if_eq 287 228 C dL_fits_225 (by decide) rfl (by omega) (fun q => absurd q (by omega)) ?_
          intro _
          have e2 := k1_f hB.1 hk.1 (by omega)
          have j3 := hq (k - 1) ⟨e2.1, by omega⟩
          have j4 := hpw (qa (k - 1)) (by omega)
          refine g_iload_n 229 C 10 dL_fits_228 rfl rfl ?_
          refine g_iconst 230 C dL_fits_229 rfl ?_
          refine g_isub 231 C dL_fits_230 rfl ?_
          refine g_istore (lv' := [(13, _), (12, _), (11, _), (10, _), (9, _), (8, _), (7, _), (6, _), (5, _), (4, _), (3, _), (2, _), (1, _), (0, _)]) 233 C dL_fits_231 rfl (by decide) rfl ?_
          refine g_aload_n 234 C 13 dL_fits_233 rfl rfl ?_
          refine g_iload 236 C 3 dL_fits_234 rfl rfl ?_
          refine g_bipush 238 C dL_fits_236 rfl (by decide) ?_
          refine g_iload 240 C 2 dL_fits_238 rfl rfl ?_
          refine g_isub 241 C dL_fits_240 rfl ?_
          refine g_iconst 242 C dL_fits_241 rfl ?_
          refine g_irem 243 C dL_fits_242 rfl (by omega) ?_
          refine g_aload_n 244 C 13 dL_fits_243 rfl rfl ?_
          refine g_aload 246 C 7 dL_fits_244 rfl rfl ?_
          refine g_iload 248 C 0 dL_fits_246 rfl rfl ?_
          refine g_iaload 249 C 7 dL_fits_248 rfl rfl (by omega) ?_
          refine g_iconst 250 C dL_fits_249 rfl ?_
          refine g_callVF 253 C [0, 4, 5, 6] dL_fits_250 rfl (k_X5_heaped_0 E l  (by first | assumption | omega) (by first | assumption | omega)) (cwV 2 C.2.2.2.2.1 gL_fits_X5_heaped rfl rfl rfl cdX5_heaped ⟨Nat.le_of_ble_eq_true rfl, Nat.le_of_ble_eq_true rfl⟩) rfl rfl rfl rfl (Nat.le_of_ble_eq_true rfl) 0 5 rfl rfl rfl ⟨Nat.le_of_ble_eq_true rfl, Nat.le_of_ble_eq_true rfl⟩ ?_
          refine g_bipush 255 C dL_fits_253 rfl (by decide) ?_
          refine g_aload_n 256 C 13 dL_fits_255 rfl rfl ?_
          refine g_aload 258 C 7 dL_fits_256 rfl rfl ?_
          refine g_iload 260 C 0 dL_fits_258 rfl rfl ?_
          refine g_iaload 261 C 7 dL_fits_260 rfl rfl (by omega) ?_
          refine g_iconst 262 C dL_fits_261 rfl ?_
          refine g_callVF 265 C [0, 4, 5, 6] dL_fits_262 rfl (k_X5_heaped_1 E l  (by first | assumption | omega) (by first | assumption | omega)) (cwV 2 C.2.2.2.2.1 gL_fits_X5_heaped rfl rfl rfl cdX5_heaped ⟨Nat.le_of_ble_eq_true rfl, Nat.le_of_ble_eq_true rfl⟩) rfl rfl rfl rfl (Nat.le_of_ble_eq_true rfl) 0 5 rfl rfl rfl ⟨Nat.le_of_ble_eq_true rfl, Nat.le_of_ble_eq_true rfl⟩ ?_
          refine g_isub 266 C dL_fits_265 rfl ?_
          refine g_aload 268 C 6 dL_fits_266 rfl rfl ?_
          refine g_iload 270 C 0 dL_fits_268 rfl rfl ?_
          refine g_iaload 271 C 8 dL_fits_270 rfl rfl (by omega) ?_
          refine g_isub 272 C dL_fits_271 rfl ?_
          refine g_iconst 273 C dL_fits_272 rfl ?_
          refine g_irem 274 C dL_fits_273 rfl (by omega) ?_
          have f2 := faI_b (W := W) (h := h) hh (pc i) ((11 - (tn i + t)) % 4) (pc (qa (k - 1))) ((9 - tn (qa (k - 1)) - qf (k - 1)) % 4)
          refine g_callVF 277 C [0, 1, 2, 3] dL_fits_274 rfl (k_X5_far_v E l  (by first | assumption | omega) (by first | assumption | omega) (by first | assumption | omega) (by first | assumption | omega) (by first | assumption | omega) (by first | assumption | omega) (by first | assumption | omega)) (cwV 4 C.2.2.2.2.1 gL_fits_X5_far rfl rfl rfl cdX5_far ⟨Nat.le_of_ble_eq_true rfl, Nat.le_of_ble_eq_true rfl⟩) rfl rfl rfl rfl (Nat.le_of_ble_eq_true rfl) 0 5 rfl rfl rfl ⟨Nat.le_of_ble_eq_true rfl, Nat.le_of_ble_eq_true rfl⟩ ?_
          refine g_if_ne 284 280 C dL_fits_277 (by decide) rfl (by omega) ?_ ?_
          · intro h277
            refine g_iconst 285 C dL_fits_284 rfl ?_
            refine g_istore (lv' := [(12, _), (13, _), (11, _), (10, _), (9, _), (8, _), (7, _), (6, _), (5, _), (4, _), (3, _), (2, _), (1, _), (0, _)]) 287 C dL_fits_285 rfl (by decide) rfl ?_
            refine g_iload 289 C 0 dL_fits_287 rfl rfl ?_
            exact g_zret C hr dL_fits_289 (by first | rfl | decide | (split <;> rfl)) ⟨g_ri (by first | exact (cI_t ((FTl_iff hB hk ht hqk (fun j hj => (hq j hj).1)).mpr ⟨hall, by omega, by omega⟩)).symm | exact (cI_f (fun z => by have z2 := ((FTl_iff hB hk ht hqk (fun j hj => (hq j hj).1)).mp z).2; omega)).symm), rfl⟩
          · intro h277
            refine g_iconst 281 C dL_fits_280 rfl ?_
            refine g_goto 285 C dL_fits_281 (by decide) ?_
            refine g_istore (lv' := [(12, _), (13, _), (11, _), (10, _), (9, _), (8, _), (7, _), (6, _), (5, _), (4, _), (3, _), (2, _), (1, _), (0, _)]) 287 C dL_fits_285 rfl (by decide) rfl ?_
            refine g_iload 289 C 0 dL_fits_287 rfl rfl ?_
            exact g_zret C hr dL_fits_289 (by first | rfl | decide | (split <;> rfl)) ⟨g_ri (by first | exact (cI_t ((FTl_iff hB hk ht hqk (fun j hj => (hq j hj).1)).mpr ⟨hall, by omega, by omega⟩)).symm | exact (cI_f (fun z => by have z2 := ((FTl_iff hB hk ht hqk (fun j hj => (hq j hj).1)).mp z).2; omega)).symm), rfl⟩
  · intro h37
    refine g_iload 42 C 0 dL_fits_40 rfl rfl ?_
    refine g_if_ne 58 45 C dL_fits_42 (by decide) rfl (by omega) ?_ ?_
    · intro h42
      refine g_iload 60 C 0 dL_fits_58 rfl rfl ?_
      refine g_iconst 61 C dL_fits_60 rfl ?_
      refine g_icmp_ne 80 64 C dL_fits_61 (by decide) rfl (by omega) ?_ ?_
      · intro h61
        refine g_iload 82 C 0 dL_fits_80 rfl rfl ?_
        refine g_iconst 83 C dL_fits_82 rfl ?_
        refine g_icmp_ne 102 86 C dL_fits_83 (by decide) rfl (by omega) ?_ ?_
        · intro h83
          refine g_iload 104 C 4 dL_fits_102 rfl rfl ?_
          refine g_if_ne 111 107 C dL_fits_104 (by decide) rfl (by omega) ?_ ?_
          · intro h104
            refine g_iconst 112 C dL_fits_111 rfl ?_
            refine g_istore (lv' := [(13, _), (12, _), (11, _), (10, _), (9, _), (8, _), (7, _), (6, _), (5, _), (4, _), (3, _), (2, _), (1, _), (0, _)]) 114 C dL_fits_112 rfl (by decide) rfl ?_
            refine g_aload_n 115 C 13 dL_fits_114 rfl rfl ?_
            refine g_iload 117 C 3 dL_fits_115 rfl rfl ?_
            refine g_iload 119 C 1 dL_fits_117 rfl rfl ?_
            refine g_bipush 121 C dL_fits_119 rfl (by decide) ?_
            refine g_iadd 122 C dL_fits_121 rfl ?_
            refine g_iload 124 C 2 dL_fits_122 rfl rfl ?_
            refine g_isub 125 C dL_fits_124 rfl ?_
            refine g_iconst 126 C dL_fits_125 rfl ?_
            refine g_irem 127 C dL_fits_126 rfl (by omega) ?_
            have hb := sdI_b (p := pc i) (e := (e + 8 - (tn i + t)) % 4) hB hp0 (by omega)
            refine g_callVF 130 C [0, 1, 3] dL_fits_127 rfl (k_X5_sideOf_v E l  (by first | assumption | omega) (by first | assumption | omega) (by first | assumption | omega) (by first | assumption | omega)) (cwV 2 C.2.2.2.2.1 gL_fits_X5_sideOf rfl rfl rfl cdX5_sideOf ⟨Nat.le_of_ble_eq_true rfl, Nat.le_of_ble_eq_true rfl⟩) rfl rfl rfl rfl (Nat.le_of_ble_eq_true rfl) 0 5 rfl rfl rfl ⟨Nat.le_of_ble_eq_true rfl, Nat.le_of_ble_eq_true rfl⟩ ?_
            refine g_if_ge 137 133 C dL_fits_130 (by decide) rfl (by omega) ?_ ?_
            · intro h130
              refine g_iconst 138 C dL_fits_137 rfl ?_
              refine g_iload 140 C 0 dL_fits_138 rfl rfl ?_
              refine g_icmp_eq 145 143 C dL_fits_140 (by decide) rfl (by omega) ?_ (fun q => absurd q (by omega))
              intro _
              refine g_iinc (lv' := [(12, _), (13, _), (11, _), (10, _), (9, _), (8, _), (7, _), (6, _), (5, _), (4, _), (3, _), (2, _), (1, _), (0, _)]) 148 C 1 dL_fits_145 rfl rfl (by decide) rfl ?_
              refine g_goto 34 C dL_fits_148 (by decide) ?_
              exact g_w [0, 2, 3, 4, 5, 6, 7, 8, 9, 10, 11, 12, 13] rfl rfl (ih34 ((e + 1)) (by
            try dsimp only
            exact ⟨by omega, fun d h1 h2 => by
              by_cases z : d = e
              · rw [z]; unfold BR; omega
              · exact hA d h1 (by omega)⟩) (by (try dsimp only); omega))
            · intro h130
              refine g_iconst 134 C dL_fits_133 rfl ?_
              refine g_goto 138 C dL_fits_134 (by decide) ?_
              refine g_iload 140 C 0 dL_fits_138 rfl rfl ?_
              refine g_icmp_eq 145 143 C dL_fits_140 (by decide) rfl (by omega) (fun q => absurd q (by omega)) ?_
              intro _
              refine g_iconst 144 C dL_fits_143 rfl ?_
              exact g_zret C hr dL_fits_144 (by first | rfl | decide | (split <;> rfl)) ⟨g_ri ((cI_f (fun z => by have z2 := ((FTl_iff hB hk ht hqk (fun j hj => (hq j hj).1)).mp z).1 e (by omega) (by omega); unfold BR at z2; omega)).symm), rfl⟩
          · intro h104
            refine g_iconst 108 C dL_fits_107 rfl ?_
            refine g_goto 112 C dL_fits_108 (by decide) ?_
            refine g_istore (lv' := [(13, _), (12, _), (11, _), (10, _), (9, _), (8, _), (7, _), (6, _), (5, _), (4, _), (3, _), (2, _), (1, _), (0, _)]) 114 C dL_fits_112 rfl (by decide) rfl ?_
            refine g_aload_n 115 C 13 dL_fits_114 rfl rfl ?_
            refine g_iload 117 C 3 dL_fits_115 rfl rfl ?_
            refine g_iload 119 C 1 dL_fits_117 rfl rfl ?_
            refine g_bipush 121 C dL_fits_119 rfl (by decide) ?_
            refine g_iadd 122 C dL_fits_121 rfl ?_
            refine g_iload 124 C 2 dL_fits_122 rfl rfl ?_
            refine g_isub 125 C dL_fits_124 rfl ?_
            refine g_iconst 126 C dL_fits_125 rfl ?_
            refine g_irem 127 C dL_fits_126 rfl (by omega) ?_
            have hb := sdI_b (p := pc i) (e := (e + 8 - (tn i + t)) % 4) hB hp0 (by omega)
            refine g_callVF 130 C [0, 1, 3] dL_fits_127 rfl (k_X5_sideOf_v E l  (by first | assumption | omega) (by first | assumption | omega) (by first | assumption | omega) (by first | assumption | omega)) (cwV 2 C.2.2.2.2.1 gL_fits_X5_sideOf rfl rfl rfl cdX5_sideOf ⟨Nat.le_of_ble_eq_true rfl, Nat.le_of_ble_eq_true rfl⟩) rfl rfl rfl rfl (Nat.le_of_ble_eq_true rfl) 0 5 rfl rfl rfl ⟨Nat.le_of_ble_eq_true rfl, Nat.le_of_ble_eq_true rfl⟩ ?_
            refine g_if_ge 137 133 C dL_fits_130 (by decide) rfl (by omega) ?_ ?_
            · intro h130
              refine g_iconst 138 C dL_fits_137 rfl ?_
              refine g_iload 140 C 0 dL_fits_138 rfl rfl ?_
              refine g_icmp_eq 145 143 C dL_fits_140 (by decide) rfl (by omega) (fun q => absurd q (by omega)) ?_
              intro _
              refine g_iconst 144 C dL_fits_143 rfl ?_
              exact g_zret C hr dL_fits_144 (by first | rfl | decide | (split <;> rfl)) ⟨g_ri ((cI_f (fun z => by have z2 := ((FTl_iff hB hk ht hqk (fun j hj => (hq j hj).1)).mp z).1 e (by omega) (by omega); unfold BR at z2; omega)).symm), rfl⟩
            · intro h130
              refine g_iconst 134 C dL_fits_133 rfl ?_
              refine g_goto 138 C dL_fits_134 (by decide) ?_
              refine g_iload 140 C 0 dL_fits_138 rfl rfl ?_
              refine g_icmp_eq 145 143 C dL_fits_140 (by decide) rfl (by omega) ?_ (fun q => absurd q (by omega))
              intro _
              refine g_iinc (lv' := [(12, _), (13, _), (11, _), (10, _), (9, _), (8, _), (7, _), (6, _), (5, _), (4, _), (3, _), (2, _), (1, _), (0, _)]) 148 C 1 dL_fits_145 rfl rfl (by decide) rfl ?_
              refine g_goto 34 C dL_fits_148 (by decide) ?_
              exact g_w [0, 2, 3, 4, 5, 6, 7, 8, 9, 10, 11, 12, 13] rfl rfl (ih34 ((e + 1)) (by
            try dsimp only
            exact ⟨by omega, fun d h1 h2 => by
              by_cases z : d = e
              · rw [z]; unfold BR; omega
              · exact hA d h1 (by omega)⟩) (by (try dsimp only); omega))
        · intro h83
          refine g_iload 88 C 3 dL_fits_86 rfl rfl ?_
          refine g_iload_n 89 C 10 dL_fits_88 rfl rfl ?_
          refine g_iconst 90 C dL_fits_89 rfl ?_
          refine g_isub 91 C dL_fits_90 rfl ?_
          refine g_icmp_ne 98 94 C dL_fits_91 (by decide) rfl (by omega) ?_ ?_
          · intro h91
            refine g_iconst 99 C dL_fits_98 rfl ?_
            refine g_goto 112 C dL_fits_99 (by decide) ?_
            refine g_istore (lv' := [(13, _), (12, _), (11, _), (10, _), (9, _), (8, _), (7, _), (6, _), (5, _), (4, _), (3, _), (2, _), (1, _), (0, _)]) 114 C dL_fits_112 rfl (by decide) rfl ?_
            refine g_aload_n 115 C 13 dL_fits_114 rfl rfl ?_
            refine g_iload 117 C 3 dL_fits_115 rfl rfl ?_
            refine g_iload 119 C 1 dL_fits_117 rfl rfl ?_
            refine g_bipush 121 C dL_fits_119 rfl (by decide) ?_
            refine g_iadd 122 C dL_fits_121 rfl ?_
            refine g_iload 124 C 2 dL_fits_122 rfl rfl ?_
            refine g_isub 125 C dL_fits_124 rfl ?_
            refine g_iconst 126 C dL_fits_125 rfl ?_
            refine g_irem 127 C dL_fits_126 rfl (by omega) ?_
            have hb := sdI_b (p := pc i) (e := (e + 8 - (tn i + t)) % 4) hB hp0 (by omega)
            refine g_callVF 130 C [0, 1, 3] dL_fits_127 rfl (k_X5_sideOf_v E l  (by first | assumption | omega) (by first | assumption | omega) (by first | assumption | omega) (by first | assumption | omega)) (cwV 2 C.2.2.2.2.1 gL_fits_X5_sideOf rfl rfl rfl cdX5_sideOf ⟨Nat.le_of_ble_eq_true rfl, Nat.le_of_ble_eq_true rfl⟩) rfl rfl rfl rfl (Nat.le_of_ble_eq_true rfl) 0 5 rfl rfl rfl ⟨Nat.le_of_ble_eq_true rfl, Nat.le_of_ble_eq_true rfl⟩ ?_
            refine g_if_ge 137 133 C dL_fits_130 (by decide) rfl (by omega) ?_ ?_
            · intro h130
              refine g_iconst 138 C dL_fits_137 rfl ?_
              refine g_iload 140 C 0 dL_fits_138 rfl rfl ?_
              refine g_icmp_eq 145 143 C dL_fits_140 (by decide) rfl (by omega) ?_ (fun q => absurd q (by omega))
              intro _
              refine g_iinc (lv' := [(12, _), (13, _), (11, _), (10, _), (9, _), (8, _), (7, _), (6, _), (5, _), (4, _), (3, _), (2, _), (1, _), (0, _)]) 148 C 1 dL_fits_145 rfl rfl (by decide) rfl ?_
              refine g_goto 34 C dL_fits_148 (by decide) ?_
              exact g_w [0, 2, 3, 4, 5, 6, 7, 8, 9, 10, 11, 12, 13] rfl rfl (ih34 ((e + 1)) (by
            try dsimp only
            exact ⟨by omega, fun d h1 h2 => by
              by_cases z : d = e
              · rw [z]; unfold BR; omega
              · exact hA d h1 (by omega)⟩) (by (try dsimp only); omega))
            · intro h130
              refine g_iconst 134 C dL_fits_133 rfl ?_
              refine g_goto 138 C dL_fits_134 (by decide) ?_
              refine g_iload 140 C 0 dL_fits_138 rfl rfl ?_
              refine g_icmp_eq 145 143 C dL_fits_140 (by decide) rfl (by omega) (fun q => absurd q (by omega)) ?_
              intro _
              refine g_iconst 144 C dL_fits_143 rfl ?_
              exact g_zret C hr dL_fits_144 (by first | rfl | decide | (split <;> rfl)) ⟨g_ri ((cI_f (fun z => by have z2 := ((FTl_iff hB hk ht hqk (fun j hj => (hq j hj).1)).mp z).1 e (by omega) (by omega); unfold BR at z2; omega)).symm), rfl⟩
          · intro h91
            refine g_iconst 95 C dL_fits_94 rfl ?_
            refine g_goto 112 C dL_fits_95 (by decide) ?_
            refine g_istore (lv' := [(13, _), (12, _), (11, _), (10, _), (9, _), (8, _), (7, _), (6, _), (5, _), (4, _), (3, _), (2, _), (1, _), (0, _)]) 114 C dL_fits_112 rfl (by decide) rfl ?_
            refine g_aload_n 115 C 13 dL_fits_114 rfl rfl ?_
            refine g_iload 117 C 3 dL_fits_115 rfl rfl ?_
            refine g_iload 119 C 1 dL_fits_117 rfl rfl ?_
            refine g_bipush 121 C dL_fits_119 rfl (by decide) ?_
            refine g_iadd 122 C dL_fits_121 rfl ?_
            refine g_iload 124 C 2 dL_fits_122 rfl rfl ?_
            refine g_isub 125 C dL_fits_124 rfl ?_
            refine g_iconst 126 C dL_fits_125 rfl ?_
            refine g_irem 127 C dL_fits_126 rfl (by omega) ?_
            have hb := sdI_b (p := pc i) (e := (e + 8 - (tn i + t)) % 4) hB hp0 (by omega)
            refine g_callVF 130 C [0, 1, 3] dL_fits_127 rfl (k_X5_sideOf_v E l  (by first | assumption | omega) (by first | assumption | omega) (by first | assumption | omega) (by first | assumption | omega)) (cwV 2 C.2.2.2.2.1 gL_fits_X5_sideOf rfl rfl rfl cdX5_sideOf ⟨Nat.le_of_ble_eq_true rfl, Nat.le_of_ble_eq_true rfl⟩) rfl rfl rfl rfl (Nat.le_of_ble_eq_true rfl) 0 5 rfl rfl rfl ⟨Nat.le_of_ble_eq_true rfl, Nat.le_of_ble_eq_true rfl⟩ ?_
            refine g_if_ge 137 133 C dL_fits_130 (by decide) rfl (by omega) ?_ ?_
            · intro h130
              refine g_iconst 138 C dL_fits_137 rfl ?_
              refine g_iload 140 C 0 dL_fits_138 rfl rfl ?_
              refine g_icmp_eq 145 143 C dL_fits_140 (by decide) rfl (by omega) (fun q => absurd q (by omega)) ?_
              intro _
              refine g_iconst 144 C dL_fits_143 rfl ?_
              exact g_zret C hr dL_fits_144 (by first | rfl | decide | (split <;> rfl)) ⟨g_ri ((cI_f (fun z => by have z2 := ((FTl_iff hB hk ht hqk (fun j hj => (hq j hj).1)).mp z).1 e (by omega) (by omega); unfold BR at z2; omega)).symm), rfl⟩
            · intro h130
              refine g_iconst 134 C dL_fits_133 rfl ?_
              refine g_goto 138 C dL_fits_134 (by decide) ?_
              refine g_iload 140 C 0 dL_fits_138 rfl rfl ?_
              refine g_icmp_eq 145 143 C dL_fits_140 (by decide) rfl (by omega) ?_ (fun q => absurd q (by omega))
              intro _
              refine g_iinc (lv' := [(12, _), (13, _), (11, _), (10, _), (9, _), (8, _), (7, _), (6, _), (5, _), (4, _), (3, _), (2, _), (1, _), (0, _)]) 148 C 1 dL_fits_145 rfl rfl (by decide) rfl ?_
              refine g_goto 34 C dL_fits_148 (by decide) ?_
              exact g_w [0, 2, 3, 4, 5, 6, 7, 8, 9, 10, 11, 12, 13] rfl rfl (ih34 ((e + 1)) (by
            try dsimp only
            exact ⟨by omega, fun d h1 h2 => by
              by_cases z : d = e
              · rw [z]; unfold BR; omega
              · exact hA d h1 (by omega)⟩) (by (try dsimp only); omega))
      · intro h61
        refine g_iload 66 C 4 dL_fits_64 rfl rfl ?_
        refine g_iload_n 67 C 11 dL_fits_66 rfl rfl ?_
        refine g_iconst 68 C dL_fits_67 rfl ?_
        refine g_isub 69 C dL_fits_68 rfl ?_
        refine g_icmp_ne 76 72 C dL_fits_69 (by decide) rfl (by omega) ?_ ?_
        · intro h69
          refine g_iconst 77 C dL_fits_76 rfl ?_
          refine g_goto 112 C dL_fits_77 (by decide) ?_
          refine g_istore (lv' := [(13, _), (12, _), (11, _), (10, _), (9, _), (8, _), (7, _), (6, _), (5, _), (4, _), (3, _), (2, _), (1, _), (0, _)]) 114 C dL_fits_112 rfl (by decide) rfl ?_
          refine g_aload_n 115 C 13 dL_fits_114 rfl rfl ?_
          refine g_iload 117 C 3 dL_fits_115 rfl rfl ?_
          refine g_iload 119 C 1 dL_fits_117 rfl rfl ?_
          refine g_bipush 121 C dL_fits_119 rfl (by decide) ?_
          refine g_iadd 122 C dL_fits_121 rfl ?_
          refine g_iload 124 C 2 dL_fits_122 rfl rfl ?_
          refine g_isub 125 C dL_fits_124 rfl ?_
          refine g_iconst 126 C dL_fits_125 rfl ?_
          refine g_irem 127 C dL_fits_126 rfl (by omega) ?_
          have hb := sdI_b (p := pc i) (e := (e + 8 - (tn i + t)) % 4) hB hp0 (by omega)
          refine g_callVF 130 C [0, 1, 3] dL_fits_127 rfl (k_X5_sideOf_v E l  (by first | assumption | omega) (by first | assumption | omega) (by first | assumption | omega) (by first | assumption | omega)) (cwV 2 C.2.2.2.2.1 gL_fits_X5_sideOf rfl rfl rfl cdX5_sideOf ⟨Nat.le_of_ble_eq_true rfl, Nat.le_of_ble_eq_true rfl⟩) rfl rfl rfl rfl (Nat.le_of_ble_eq_true rfl) 0 5 rfl rfl rfl ⟨Nat.le_of_ble_eq_true rfl, Nat.le_of_ble_eq_true rfl⟩ ?_
          refine g_if_ge 137 133 C dL_fits_130 (by decide) rfl (by omega) ?_ ?_
          · intro h130
            refine g_iconst 138 C dL_fits_137 rfl ?_
            refine g_iload 140 C 0 dL_fits_138 rfl rfl ?_
            refine g_icmp_eq 145 143 C dL_fits_140 (by decide) rfl (by omega) ?_ (fun q => absurd q (by omega))
            intro _
            refine g_iinc (lv' := [(12, _), (13, _), (11, _), (10, _), (9, _), (8, _), (7, _), (6, _), (5, _), (4, _), (3, _), (2, _), (1, _), (0, _)]) 148 C 1 dL_fits_145 rfl rfl (by decide) rfl ?_
            refine g_goto 34 C dL_fits_148 (by decide) ?_
            exact g_w [0, 2, 3, 4, 5, 6, 7, 8, 9, 10, 11, 12, 13] rfl rfl (ih34 ((e + 1)) (by
            try dsimp only
            exact ⟨by omega, fun d h1 h2 => by
              by_cases z : d = e
              · rw [z]; unfold BR; omega
              · exact hA d h1 (by omega)⟩) (by (try dsimp only); omega))
          · intro h130
            refine g_iconst 134 C dL_fits_133 rfl ?_
            refine g_goto 138 C dL_fits_134 (by decide) ?_
            refine g_iload 140 C 0 dL_fits_138 rfl rfl ?_
            refine g_icmp_eq 145 143 C dL_fits_140 (by decide) rfl (by omega) (fun q => absurd q (by omega)) ?_
            intro _
            refine g_iconst 144 C dL_fits_143 rfl ?_
            exact g_zret C hr dL_fits_144 (by first | rfl | decide | (split <;> rfl)) ⟨g_ri ((cI_f (fun z => by have z2 := ((FTl_iff hB hk ht hqk (fun j hj => (hq j hj).1)).mp z).1 e (by omega) (by omega); unfold BR at z2; omega)).symm), rfl⟩
        · intro h69
          refine g_iconst 73 C dL_fits_72 rfl ?_
          refine g_goto 112 C dL_fits_73 (by decide) ?_
          refine g_istore (lv' := [(13, _), (12, _), (11, _), (10, _), (9, _), (8, _), (7, _), (6, _), (5, _), (4, _), (3, _), (2, _), (1, _), (0, _)]) 114 C dL_fits_112 rfl (by decide) rfl ?_
          refine g_aload_n 115 C 13 dL_fits_114 rfl rfl ?_
          refine g_iload 117 C 3 dL_fits_115 rfl rfl ?_
          refine g_iload 119 C 1 dL_fits_117 rfl rfl ?_
          refine g_bipush 121 C dL_fits_119 rfl (by decide) ?_
          refine g_iadd 122 C dL_fits_121 rfl ?_
          refine g_iload 124 C 2 dL_fits_122 rfl rfl ?_
          refine g_isub 125 C dL_fits_124 rfl ?_
          refine g_iconst 126 C dL_fits_125 rfl ?_
          refine g_irem 127 C dL_fits_126 rfl (by omega) ?_
          have hb := sdI_b (p := pc i) (e := (e + 8 - (tn i + t)) % 4) hB hp0 (by omega)
          refine g_callVF 130 C [0, 1, 3] dL_fits_127 rfl (k_X5_sideOf_v E l  (by first | assumption | omega) (by first | assumption | omega) (by first | assumption | omega) (by first | assumption | omega)) (cwV 2 C.2.2.2.2.1 gL_fits_X5_sideOf rfl rfl rfl cdX5_sideOf ⟨Nat.le_of_ble_eq_true rfl, Nat.le_of_ble_eq_true rfl⟩) rfl rfl rfl rfl (Nat.le_of_ble_eq_true rfl) 0 5 rfl rfl rfl ⟨Nat.le_of_ble_eq_true rfl, Nat.le_of_ble_eq_true rfl⟩ ?_
          refine g_if_ge 137 133 C dL_fits_130 (by decide) rfl (by omega) ?_ ?_
          · intro h130
            refine g_iconst 138 C dL_fits_137 rfl ?_
            refine g_iload 140 C 0 dL_fits_138 rfl rfl ?_
            refine g_icmp_eq 145 143 C dL_fits_140 (by decide) rfl (by omega) (fun q => absurd q (by omega)) ?_
            intro _
            refine g_iconst 144 C dL_fits_143 rfl ?_
            exact g_zret C hr dL_fits_144 (by first | rfl | decide | (split <;> rfl)) ⟨g_ri ((cI_f (fun z => by have z2 := ((FTl_iff hB hk ht hqk (fun j hj => (hq j hj).1)).mp z).1 e (by omega) (by omega); unfold BR at z2; omega)).symm), rfl⟩
          · intro h130
            refine g_iconst 134 C dL_fits_133 rfl ?_
            refine g_goto 138 C dL_fits_134 (by decide) ?_
            refine g_iload 140 C 0 dL_fits_138 rfl rfl ?_
            refine g_icmp_eq 145 143 C dL_fits_140 (by decide) rfl (by omega) ?_ (fun q => absurd q (by omega))
            intro _
            refine g_iinc (lv' := [(12, _), (13, _), (11, _), (10, _), (9, _), (8, _), (7, _), (6, _), (5, _), (4, _), (3, _), (2, _), (1, _), (0, _)]) 148 C 1 dL_fits_145 rfl rfl (by decide) rfl ?_
            refine g_goto 34 C dL_fits_148 (by decide) ?_
            exact g_w [0, 2, 3, 4, 5, 6, 7, 8, 9, 10, 11, 12, 13] rfl rfl (ih34 ((e + 1)) (by
            try dsimp only
            exact ⟨by omega, fun d h1 h2 => by
              by_cases z : d = e
              · rw [z]; unfold BR; omega
              · exact hA d h1 (by omega)⟩) (by (try dsimp only); omega))
    · intro h42
      refine g_iload 47 C 3 dL_fits_45 rfl rfl ?_
      refine g_if_ne 54 50 C dL_fits_47 (by decide) rfl (by omega) ?_ ?_
      · intro h47
        refine g_iconst 55 C dL_fits_54 rfl ?_
        refine g_goto 112 C dL_fits_55 (by decide) ?_
        refine g_istore (lv' := [(13, _), (12, _), (11, _), (10, _), (9, _), (8, _), (7, _), (6, _), (5, _), (4, _), (3, _), (2, _), (1, _), (0, _)]) 114 C dL_fits_112 rfl (by decide) rfl ?_
        refine g_aload_n 115 C 13 dL_fits_114 rfl rfl ?_
        refine g_iload 117 C 3 dL_fits_115 rfl rfl ?_
        refine g_iload 119 C 1 dL_fits_117 rfl rfl ?_
        refine g_bipush 121 C dL_fits_119 rfl (by decide) ?_
        refine g_iadd 122 C dL_fits_121 rfl ?_
        refine g_iload 124 C 2 dL_fits_122 rfl rfl ?_
        refine g_isub 125 C dL_fits_124 rfl ?_
        refine g_iconst 126 C dL_fits_125 rfl ?_
        refine g_irem 127 C dL_fits_126 rfl (by omega) ?_
        have hb := sdI_b (p := pc i) (e := (e + 8 - (tn i + t)) % 4) hB hp0 (by omega)
        refine g_callVF 130 C [0, 1, 3] dL_fits_127 rfl (k_X5_sideOf_v E l  (by first | assumption | omega) (by first | assumption | omega) (by first | assumption | omega) (by first | assumption | omega)) (cwV 2 C.2.2.2.2.1 gL_fits_X5_sideOf rfl rfl rfl cdX5_sideOf ⟨Nat.le_of_ble_eq_true rfl, Nat.le_of_ble_eq_true rfl⟩) rfl rfl rfl rfl (Nat.le_of_ble_eq_true rfl) 0 5 rfl rfl rfl ⟨Nat.le_of_ble_eq_true rfl, Nat.le_of_ble_eq_true rfl⟩ ?_
        refine g_if_ge 137 133 C dL_fits_130 (by decide) rfl (by omega) ?_ ?_
        · intro h130
          refine g_iconst 138 C dL_fits_137 rfl ?_
          refine g_iload 140 C 0 dL_fits_138 rfl rfl ?_
          refine g_icmp_eq 145 143 C dL_fits_140 (by decide) rfl (by omega) ?_ (fun q => absurd q (by omega))
          intro _
          refine g_iinc (lv' := [(12, _), (13, _), (11, _), (10, _), (9, _), (8, _), (7, _), (6, _), (5, _), (4, _), (3, _), (2, _), (1, _), (0, _)]) 148 C 1 dL_fits_145 rfl rfl (by decide) rfl ?_
          refine g_goto 34 C dL_fits_148 (by decide) ?_
          exact g_w [0, 2, 3, 4, 5, 6, 7, 8, 9, 10, 11, 12, 13] rfl rfl (ih34 ((e + 1)) (by
            try dsimp only
            exact ⟨by omega, fun d h1 h2 => by
              by_cases z : d = e
              · rw [z]; unfold BR; omega
              · exact hA d h1 (by omega)⟩) (by (try dsimp only); omega))
        · intro h130
          refine g_iconst 134 C dL_fits_133 rfl ?_
          refine g_goto 138 C dL_fits_134 (by decide) ?_
          refine g_iload 140 C 0 dL_fits_138 rfl rfl ?_
          refine g_icmp_eq 145 143 C dL_fits_140 (by decide) rfl (by omega) (fun q => absurd q (by omega)) ?_
          intro _
          refine g_iconst 144 C dL_fits_143 rfl ?_
          exact g_zret C hr dL_fits_144 (by first | rfl | decide | (split <;> rfl)) ⟨g_ri ((cI_f (fun z => by have z2 := ((FTl_iff hB hk ht hqk (fun j hj => (hq j hj).1)).mp z).1 e (by omega) (by omega); unfold BR at z2; omega)).symm), rfl⟩
      · intro h47
        refine g_iconst 51 C dL_fits_50 rfl ?_
        refine g_goto 112 C dL_fits_51 (by decide) ?_
        refine g_istore (lv' := [(13, _), (12, _), (11, _), (10, _), (9, _), (8, _), (7, _), (6, _), (5, _), (4, _), (3, _), (2, _), (1, _), (0, _)]) 114 C dL_fits_112 rfl (by decide) rfl ?_
        refine g_aload_n 115 C 13 dL_fits_114 rfl rfl ?_
        refine g_iload 117 C 3 dL_fits_115 rfl rfl ?_
        refine g_iload 119 C 1 dL_fits_117 rfl rfl ?_
        refine g_bipush 121 C dL_fits_119 rfl (by decide) ?_
        refine g_iadd 122 C dL_fits_121 rfl ?_
        refine g_iload 124 C 2 dL_fits_122 rfl rfl ?_
        refine g_isub 125 C dL_fits_124 rfl ?_
        refine g_iconst 126 C dL_fits_125 rfl ?_
        refine g_irem 127 C dL_fits_126 rfl (by omega) ?_
        have hb := sdI_b (p := pc i) (e := (e + 8 - (tn i + t)) % 4) hB hp0 (by omega)
        refine g_callVF 130 C [0, 1, 3] dL_fits_127 rfl (k_X5_sideOf_v E l  (by first | assumption | omega) (by first | assumption | omega) (by first | assumption | omega) (by first | assumption | omega)) (cwV 2 C.2.2.2.2.1 gL_fits_X5_sideOf rfl rfl rfl cdX5_sideOf ⟨Nat.le_of_ble_eq_true rfl, Nat.le_of_ble_eq_true rfl⟩) rfl rfl rfl rfl (Nat.le_of_ble_eq_true rfl) 0 5 rfl rfl rfl ⟨Nat.le_of_ble_eq_true rfl, Nat.le_of_ble_eq_true rfl⟩ ?_
        refine g_if_ge 137 133 C dL_fits_130 (by decide) rfl (by omega) ?_ ?_
        · intro h130
          refine g_iconst 138 C dL_fits_137 rfl ?_
          refine g_iload 140 C 0 dL_fits_138 rfl rfl ?_
          refine g_icmp_eq 145 143 C dL_fits_140 (by decide) rfl (by omega) (fun q => absurd q (by omega)) ?_
          intro _
          refine g_iconst 144 C dL_fits_143 rfl ?_
          exact g_zret C hr dL_fits_144 (by first | rfl | decide | (split <;> rfl)) ⟨g_ri ((cI_f (fun z => by have z2 := ((FTl_iff hB hk ht hqk (fun j hj => (hq j hj).1)).mp z).1 e (by omega) (by omega); unfold BR at z2; omega)).symm), rfl⟩
        · intro h130
          refine g_iconst 134 C dL_fits_133 rfl ?_
          refine g_goto 138 C dL_fits_134 (by decide) ?_
          refine g_iload 140 C 0 dL_fits_138 rfl rfl ?_
          refine g_icmp_eq 145 143 C dL_fits_140 (by decide) rfl (by omega) ?_ (fun q => absurd q (by omega))
          intro _
          refine g_iinc (lv' := [(12, _), (13, _), (11, _), (10, _), (9, _), (8, _), (7, _), (6, _), (5, _), (4, _), (3, _), (2, _), (1, _), (0, _)]) 148 C 1 dL_fits_145 rfl rfl (by decide) rfl ?_
          refine g_goto 34 C dL_fits_148 (by decide) ?_
          exact g_w [0, 2, 3, 4, 5, 6, 7, 8, 9, 10, 11, 12, 13] rfl rfl (ih34 ((e + 1)) (by
            try dsimp only
            exact ⟨by omega, fun d h1 h2 => by
              by_cases z : d = e
              · rw [z]; unfold BR; omega
              · exact hA d h1 (by omega)⟩) (by (try dsimp only); omega))
