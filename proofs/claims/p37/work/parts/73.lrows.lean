/-- the law's walk: fresh cells only, the script at b -/
abbrev lJ (p : Program) (l : Launch) (e : Env) (s : State) (m : MethodId) (below : List Frame) (meth : Method) (c : Code) (b : Nat) (cells slots : Nat) (E : gE) (ws : va_W) (lv : List (Nat × Value)) (pc : Nat) (st : List Value) : Prop :=
  gJ p l e room_1 s m #[Value.ref b] below meth c cells slots (lw_Z below #[Value.ref b] s) E (fun q => s.heap.size ≤ q) 21 ws lv pc st
def lC (p : Program) (s : State) (m : MethodId) (meth : Method) (c : Code) (b L : Nat) (xs : Nat → Int32) (E : gE) : Prop :=
  gC p s m #[Value.ref b] meth c cL_law 21 RL wsL_law E (fun q => s.heap.size ≤ q) ∧ va_X b L xs s s.heap ∧ b < s.heap.size ∧ meth.sig.returnType = ret ∧ L ≤ 260
/-- a method that reads the script, and answers -/
def gMetX (E : gE) (l : Launch) (y : MethodName) (ws : List Cond) (rm : Room) (as : List Value) (b L : Nat) (xs : Nat → Int32) (post : Option Value → Prop) : Prop := ∀ sz : Nat, Met l y ws rm (va_Pc as (fun U => U.heap.size = sz ∧ gK E U ∧ va_X b L xs U U.heap ∧ b < sz)) (gPost E (va_A [] sz) (fun r w => post r ∧ w = [])) 0 0 (va_A [] sz)
def pI32 (v : Option Value) : Prop := ∃ r : Int, v = some (.int (iI r)) ∧ -2147483648 ≤ r ∧ r < 2147483648
theorem pI32_of (x : Int32) : pI32 (some (.int x)) := ⟨x.toInt, by rw [iI_of], Int32.le_toInt _, Int32.toInt_lt _⟩
section LX0
variable {p : Program} {l : Launch} {e : Env} {R : Room} {s : State} {m : MethodId} {args : Array Value} {below : List Frame} {meth : Method} {c : Code} {cells slots : Nat} {Q : State → Prop} {E : gE} {A : Nat → Prop} {nL : Nat} {ws : va_W} {lv : List (Nat × Value)} {pc : Nat} {st : List Value} {cc : ByteArray} {own : String} {Ts : List Cond} {b L : Nat} {xs : Nat → Int32}
theorem g_topi {x : Int32} (kk : ∀ z : Int, -2147483648 ≤ z ∧ z < 2147483648 → gJ p l e R s m args below meth c cells slots Q E A nL ws lv pc (.int (iI z) :: st)) : gJ p l e R s m args below meth c cells slots Q E A nL ws lv pc (.int x :: st) := by
  have h := kk x.toInt ⟨Int32.le_toInt _, Int32.toInt_lt _⟩
  rw [iI_of] at h
  exact h
theorem g_ishr_r (n' : Nat) (C : gC p s m args meth c cc nL own Ts E A) {x y : Int32} (hdg : decode cc pc = .ok (.ishr, 1)) (hp : pc + 1 = n') (kk : ∀ z : Int32, gJ p l e R s m args below meth c cells slots Q E A nL ws lv n' (.int z :: st)) : gJ p l e R s m args below meth c cells slots Q E A nL ws lv pc (.int y :: .int x :: st) := by
  intro H locs ls hP hD hS hl
  subst hp
  exact lv_ishr C.1 C.2.1 hdg (kk _ H locs ls hP hD hS hl)
theorem g_cmpN (n' : Nat) (C : gC p s m args meth c cc nL own Ts E A) {x y : Int32} {off : Int} (t : Nat) (hdg : decode cc pc = .ok (.if_icmp .ne off, 3)) (ht : (pc : Int) + off = (t : Int)) (hp : pc + 3 = n') (hxy : x = y) (kk : gJ p l e R s m args below meth c cells slots Q E A nL ws lv n' st) : gJ p l e R s m args below meth c cells slots Q E A nL ws lv pc (.int y :: .int x :: st) := by
  intro H locs ls hP hD hS hl
  subst hp
  exact lv_icmp_ne C.1 C.2.1 hdg ht (fun h => absurd hxy h) (fun _ => kk H locs ls hP hD hS hl)
theorem g_cmpE (t : Nat) (C : gC p s m args meth c cc nL own Ts E A) {x y : Int32} {off : Int} (hdg : decode cc pc = .ok (.if_icmp .eq off, 3)) (ht : (pc : Int) + off = (t : Int)) (hxy : x = y) (kk : gJ p l e R s m args below meth c cells slots Q E A nL ws lv t st) : gJ p l e R s m args below meth c cells slots Q E A nL ws lv pc (.int y :: .int x :: st) := by
  intro H locs ls hP hD hS hl
  exact lv_icmp_eq C.1 C.2.1 hdg ht (fun _ => kk H locs ls hP hD hS hl) (fun h => absurd hxy h)
theorem g_lcE (n1 t : Nat) (C : gC p s m args meth c cc nL own Ts E A) {x y : Int64} {off : Int} (hdg0 : decode cc pc = .ok (.lcmp, 1)) (hp0 : pc + 1 = n1) (hdg : decode cc n1 = .ok (.ifCond .eq off, 3)) (ht : (n1 : Int) + off = (t : Int)) (hxy : x = y) (kk : gJ p l e R s m args below meth c cells slots Q E A nL ws lv t st) : gJ p l e R s m args below meth c cells slots Q E A nL ws lv pc (.long y :: .long x :: st) := by
  intro H locs ls hP hD hS hl
  subst hp0
  subst hxy
  refine W.lcmp C.1 C.2.1 hdg0 ?_
  have e0 : lg_cmp x x = iI 0 := by
    unfold lg_cmp
    rw [if_neg Int64.lt_irrefl, if_pos rfl]
    rfl
  rw [e0]
  exact g_if_eq t _ C (a := 0) hdg ht rfl (by omega) (fun _ => kk) (fun q => absurd rfl q) H locs ls hP hD hS hl
theorem g_sldX (n' : Nat) (C : gC p s m args meth c cc nL own Ts E A) (hX : va_X b L xs s s.heap) (hb : b < s.heap.size) (hA : ¬ A b) {z : Int} (hdg : decode cc pc = .ok (.iaload, 1)) (hp : pc + 1 = n') (hz : 0 ≤ z ∧ z < L ∧ L < 2147483648) (kk : ∀ x : Int32, gJ p l e R s m args below meth c cells slots Q E A nL ws lv n' (.int x :: st)) : gJ p l e R s m args below meth c cells slots Q E A nL ws lv pc (.int (iI z) :: .ref b :: st) := by
  intro H locs ls hP hD hS hl
  subst hp
  exact va_sld C.1 C.2.1 hX hb hA hS (iI_in hz.1 hz.2.1 (by omega)) hdg (kk _ H locs ls hP hD hS hl)
theorem g_slenX (n' : Nat) (C : gC p s m args meth c cc nL own Ts E A) (hX : va_X b L xs s s.heap) (hb : b < s.heap.size) (hA : ¬ A b) (hdg : decode cc pc = .ok (.arraylength, 1)) (hp : pc + 1 = n') (kk : gJ p l e R s m args below meth c cells slots Q E A nL ws lv n' (.int (iI (L : Int)) :: st)) : gJ p l e R s m args below meth c cells slots Q E A nL ws lv pc (.ref b :: st) := by
  intro H locs ls hP hD hS hl
  subst hp
  exact va_slen C.1 C.2.1 hX hb hA hS hdg (kk H locs ls hP hD hS hl)
theorem g_blindX {as : List Value} {sz : Nat} : FrameBlind (va_Pc as (fun U => U.heap.size = sz ∧ gK E U ∧ va_X b L xs U U.heap ∧ b < sz)) := fun a U g mk q => by obtain ⟨q0, q1, qK, qX, qb⟩ := q; exact ⟨q0, q1, gK.moved (u := U) (U := U.calling g mk a) (Vm.Alike.refl U.vm) qK, va_X.moved (u := U) (U := U.calling g mk a) (Vm.Alike.refl U.vm) qX, qb⟩
theorem g_callX (n' : Nat) {k maxL index : Nat} {y : MethodName} {bytes : ByteArray} {ret : Option FieldType} {wsy : List Cond} {rm : Room} {as rest : List Value} {post : Option Value → Prop} (C : gC p s m args meth c cc nL own Ts E A) (hX : va_X b L xs s s.heap) (hb : b < s.heap.size) (hA : ¬ A b) (hdg : decode cc pc = .ok (.invokestatic index, 3)) (hp : pc + 3 = n') (hM : gMetX E l y wsy rm as b L xs post) (cw : CallB R s args own index y bytes maxL ret wsy rm 0 0 k ∧ (Cond.static y).before args s = true) (hst : as.reverse ++ rest = st) (hlen : as.length = k) (hcat : (rest.map fun v => v.category).sum ≤ 8) (hf : cells + 0 ≤ R.cells ∧ slots + 0 ≤ R.slots)
    (kk : ∀ v, post v → gJ p l e R s m args below meth c cells slots Q E A nL ws lv n' (v.toList ++ rest)) : gJ p l e R s m args below meth c cells slots Q E A nL ws lv pc st := by
  intro H locs ls hP hD hS hl
  subst hp
  have hXH : va_X b L xs s H := hX.kept (hS.2.1 b hb hA)
  have hbH : b < H.size := Nat.lt_of_lt_of_le hb hS.1
  have run : va_Run p l e R s m args below meth c H locs cells slots 0 0 (F0 m pc ls st) rest (gPost E (va_A [] H.size) (fun r w => post r ∧ w = []) as.toArray) (va_A [] H.size) :=
    va_runS ⟨C.1, C.2.1, C.2.2.1, C.2.2.2.1, C.2.2.2.2.1⟩ (hM H.size) cw ⟨g_blindX, fun U hU hW => ⟨rfl, by rw [hU], gK.moved hW.alike C.2.2.2.2.2.1, by rw [hU]; exact hXH.moved hW.alike, hbH⟩⟩ rfl hlen hl.1 hst.symm (lv_room hcat) hdg hf
  intro T hT X
  obtain ⟨v, st₀, t, T', L', h0, X', hL, e1, e2, ⟨⟨v', w, hv, hpost, hPw, hKw, hDw⟩, hz, hk⟩, st⟩ := run T hT X
  cases hv
  rw [h0] at hz hk
  rw [← e1] at hz hk hPw
  have hF := va_free (wc := []) hD hS C.2.2.2.2.2.2.1 [] rfl
  obtain ⟨hP2, hD2⟩ := g_world (wc := []) (cu := []) hP hD rfl rfl (by rw [hpost.2]) hk hPw
  rw [hpost.2] at hP2 hD2
  have e3 : gPut ws [] [] = ws := by unfold gPut; rfl
  rw [e3] at hP2 hD2
  obtain ⟨t2, a1, b1⟩ := kk v hpost.1 T'.heap (locs ++ L') ls hP2 hD2 ⟨Nat.le_trans hS.1 hz, fun q h1 h2 => by rw [hk q (Nat.lt_of_lt_of_le h1 hS.1) (fun z => h2 (hF q z))]; exact hS.2.1 q h1 h2, fun q hq => by
      rcases List.mem_append.mp hq with h | h
      · exact hS.2.2 q h
      · exact hF _ (hL q h)⟩ hl T' rfl X'
  exact ⟨t2, st t2 a1, b1⟩
end LX0
theorem lL_cell_7 : Cond.constant RL 7 (15485863) ∈ wsL_cell := by decide +kernel
theorem lL_low_8 : Cond.constant RL 8 (2147483647) ∈ wsL_low := by decide +kernel
set_option maxHeartbeats 4000000 in
theorem k_L_cell (E : gE) (l : Launch) {b L : Nat} {xs : Nat → Int32} {k : Int} (hk : 0 ≤ k ∧ k < 2147483648) (hL : L ≤ 260) : gMetX E l yL_cell wsL_cell { frames := 0, cells := 0, slots := 0, locals := 0 } [.ref b, .int (iI k)] b L xs pI32 := by
  intro sz
  refine Met.ofW (cc := cL_cell) (maxL := 2) (ret := some .int) (by decide) rfl ?_
  intro p e s m args below meth c s₁ B hml hv
  obtain ⟨rfl, hsz, hK, hX, hbl⟩ := hv
  subst hsz
  have C : gC p s m ([.ref b, .int (iI k)] : List Value).toArray meth c cL_cell 2 yL_cell.cls wsL_cell E (va_A [] s.heap.size) := ⟨B.exec, B.bytes, hml, findClass_of_methodNamed B.named, atoms_spec (ws := wsL_cell) B.pre, hK, fun q h => Or.inr h, B.notSynchronized⟩
  have hr := B.returns
  have hA : ¬ va_A [] s.heap.size b := by
    rintro (⟨k, e, h⟩ | h)
    · simp at h
    · omega
  rw [lg_entry_eq]
  have J : gJ p l e { frames := 0, cells := 0, slots := 0, locals := 0 } s m ([.ref b, .int (iI k)] : List Value).toArray below meth c 0 0 (MQ below (gPost E (va_A [] s.heap.size) (fun r w => pI32 r ∧ w = [])) ([.ref b, .int (iI k)] : List Value).toArray s 0 0 (va_A [] s.heap.size)) E (va_A [] s.heap.size) 2 [] (lv_args 0 [.ref b, .int (iI k)]) 0 [] := by
    refine g_iload_n 1 C 1 dL_cell_0 rfl rfl ?_
    refine g_aload_n 2 C 0 dL_cell_1 rfl rfl ?_
    refine g_slenX 3 C hX hbl hA dL_cell_2 rfl ?_
    refine g_icmp_ge 12 6 C dL_cell_3 (by decide) rfl (by omega) ?_ ?_
    · intro _
      refine g_ldc 14 C (15485863) dL_cell_12 rfl lL_cell_7 (by decide) ?_
      refine g_iload_n 15 C 1 dL_cell_14 rfl rfl ?_
      refine g_imul 16 C dL_cell_15 rfl ?_
      refine g_sipush 19 C dL_cell_16 rfl (by decide) ?_
      refine g_iadd 20 C dL_cell_19 rfl ?_
      exact g_iret C hr dL_cell_20 ⟨pI32_of _, rfl⟩
    · intro h3
      refine g_aload_n 7 C 0 dL_cell_6 rfl rfl ?_
      refine g_iload_n 8 C 1 dL_cell_7 rfl rfl ?_
      refine g_sldX 9 C hX hbl hA dL_cell_8 rfl (by omega) ?_
      intro x
      refine g_goto 20 C dL_cell_9 (by decide) ?_
      exact g_iret C hr dL_cell_20 ⟨pI32_of _, rfl⟩
  exact J s.heap [] _ (fun k q h => by simp at h) ⟨fun i j p q h => by simp at h, fun k q h => by simp at h⟩ va_S.rf (lv_entry [.ref b, .int (iI k)] (n := 2) (Nat.le_of_ble_eq_true rfl))
theorem iI_and31 (x : Int32) : 0 ≤ (x &&& iI 2147483647).toInt ∧ (x &&& iI 2147483647).toInt < 2147483648 := by
  have e1 : (x &&& iI 2147483647).toBitVec.toNat = x.toBitVec.toNat % 2147483648 := by
    have h : (x &&& iI 2147483647).toBitVec = x.toBitVec &&& (iI 2147483647).toBitVec := rfl
    have h2 : (iI 2147483647).toBitVec.toNat = 2 ^ 31 - 1 := by decide
    rw [h, BitVec.toNat_and, h2, Nat.and_two_pow_sub_one_eq_mod]
  have e2 : (x &&& iI 2147483647).toInt = ((x &&& iI 2147483647).toBitVec.toNat : Int) := BitVec.toInt_eq_toNat_of_lt (by rw [e1]; omega)
  rw [e2, e1]
  omega
set_option maxHeartbeats 4000000 in
theorem k_L_low (E : gE) (l : Launch) {v n : Int} (hn : 0 < n ∧ n < 2147483648) : gMet E l yL_low wsL_low { frames := 0, cells := 0, slots := 0, locals := 0 } 0 0 [.int (iI v), .int (iI n)] [] (fun r w => ∃ z : Int, (r = some (.int (iI z)) ∧ 0 ≤ z ∧ z < n) ∧ w = []) := by
  refine g_start (cc := cL_low) (maxL := 2) (ret := some .int) (by decide) rfl (Nat.le_of_ble_eq_true rfl) ?_
  intro p_ e_ s_ m_ args_ below_ meth_ c_ A_ C hr hnm
  refine g_iload_n 1 C 0 dL_low_0 rfl rfl ?_
  refine g_ldc 3 C (2147483647) dL_low_1 rfl lL_low_8 (by decide) ?_
  refine g_iand_r 4 C dL_low_3 rfl ?_
  have hb := iI_and31 (iI v)
  rw [← iI_of (iI v &&& iI 2147483647)]
  refine g_iload_n 5 C 1 dL_low_4 rfl rfl ?_
  refine g_irem 6 C dL_low_5 rfl (by omega) ?_
  exact g_iret C hr dL_low_6 ⟨_, ⟨rfl, Int.emod_nonneg _ (by omega), Int.emod_lt_of_pos _ hn.1⟩, rfl⟩
theorem cdL_cell : yL_cell.cls ≠ "java/lang/invoke/MethodHandle" ∧ yL_cell.cls ≠ "java/lang/invoke/VarHandle" ∧ (parseMethodDescriptor yL_cell.desc).map (fun d => d.parameters.length) = some 2 := by decide +kernel
theorem cdL_low : yL_low.cls ≠ "java/lang/invoke/MethodHandle" ∧ yL_low.cls ≠ "java/lang/invoke/VarHandle" ∧ (parseMethodDescriptor yL_low.desc).map (fun d => d.parameters.length) = some 2 := by decide +kernel
section LWR
variable {p : Program} {l : Launch} {e : Env} {s : State} {m : MethodId} {below : List Frame} {meth : Method} {c : Code} {b L : Nat} {xs : Nat → Int32} {cells slots : Nat} {E : gE} {ws : va_W} {lv : List (Nat × Value)} {pc : Nat} {st : List Value}
theorem g_cell (n' : Nat) (D : lC p s m meth c b L xs E) {k : Int} (hdg : decode cL_law pc = .ok (.invokestatic 23, 3)) (hp : pc + 3 = n') (hk : 0 ≤ k ∧ k < 2147483648) (hcat : (st.map fun v => v.category).sum ≤ 8) (hf : cells + 0 ≤ room_1.cells ∧ slots + 0 ≤ room_1.slots) (kk : ∀ r : Int, -2147483648 ≤ r ∧ r < 2147483648 → lJ p l e s m below meth c b cells slots E ws lv n' (.int (iI r) :: st)) : lJ p l e s m below meth c b cells slots E ws lv pc (.int (iI k) :: .ref b :: st) := by
  have C := D.1
  refine g_callX n' C D.2.1 D.2.2.1 (Nat.not_le.mpr D.2.2.1) hdg hp (k_L_cell E l hk D.2.2.2.2) (va_cwS 2 C.2.2.2.2.1 gL_law_L_cell rfl rfl rfl cdL_cell ⟨Nat.le_of_ble_eq_true rfl, Nat.le_of_ble_eq_true rfl⟩) rfl rfl hcat hf ?_
  rintro _ ⟨r, rfl, hr⟩
  exact kk r hr
theorem g_low (n' : Nat) (D : lC p s m meth c b L xs E) {v n : Int} (hdg : decode cL_law pc = .ok (.invokestatic 29, 3)) (hp : pc + 3 = n') (hn : 0 < n ∧ n < 2147483648) (hcat : (st.map fun v => v.category).sum ≤ 8) (hf : cells + 0 ≤ room_1.cells ∧ slots + 0 ≤ room_1.slots) (kk : ∀ r : Int, 0 ≤ r ∧ r < n → lJ p l e s m below meth c b cells slots E ws lv n' (.int (iI r) :: st)) : lJ p l e s m below meth c b cells slots E ws lv pc (.int (iI n) :: .int (iI v) :: st) := by
  have C := D.1
  refine g_callS n' C [] hdg hp (k_L_low E l hn) (va_cwS 2 C.2.2.2.2.1 gL_law_L_low rfl rfl rfl cdL_low ⟨Nat.le_of_ble_eq_true rfl, Nat.le_of_ble_eq_true rfl⟩) rfl rfl rfl rfl hcat hf (fun v w q => by obtain ⟨_, -, rfl⟩ := q; rfl) ?_
  rintro _ _ ⟨r, ⟨rfl, hr⟩, rfl⟩
  have e3 : gPut ws [] [] = ws := by unfold gPut; rfl
  rw [e3]
  exact kk r hr
theorem g_fin (C : lC p s m meth c b L xs E) (hc : cells ≤ 600000) (hs : slots ≤ 7302250) (hdg : decode cL_law pc = .ok (.ireturn, 1)) : lJ p l e s m below meth c b cells slots E ws lv pc [.int (iI 1)] := by
  intro H locs ls hP hD hS hl
  refine va_forget (fun q hq => hS.2.2 q hq) ?_
  refine W.widen (k := 600000) (n := 7302250) hc hs ?_
  exact lw_ret C.1.1 C.1.2.1 C.2.2.2.1 C.1.2.2.2.2.2.2.2 hdg
end LWR
