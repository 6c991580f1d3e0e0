/-- the law's walk: fresh cells only, the script at b -/
abbrev lJ (p : Program) (l : Launch) (e : Env) (s : State) (m : MethodId) (below : List Frame) (meth : Method) (c : Code) (b : Nat) (cells slots : Nat) (E : gE) (ws : va_W) (lv : List (Nat × Value)) (pc : Nat) (st : List Value) : Prop :=
  gJ p l e room_1 s m #[Value.ref b] below meth c cells slots (lw_Z below #[Value.ref b] s) E (fun q => s.heap.size ≤ q) 4 ws lv pc st
def lC (p : Program) (s : State) (m : MethodId) (meth : Method) (c : Code) (b L : Nat) (xs : Nat → Int32) (E : gE) : Prop :=
  gC p s m #[Value.ref b] meth c cL_law 4 RL wsL_law E (fun q => s.heap.size ≤ q) ∧ va_X b L xs s s.heap ∧ b < s.heap.size ∧ meth.sig.returnType = ret ∧ L ≤ 3072
def lX (xs : Nat → Int32) (z : Int) : Int := (xs z.toNat).toInt
section LWR
variable {p : Program} {l : Launch} {e : Env} {s : State} {m : MethodId} {below : List Frame} {meth : Method} {c : Code} {b L : Nat} {xs : Nat → Int32} {cells slots : Nat} {E : gE} {ws : va_W} {lv : List (Nat × Value)} {pc : Nat} {st : List Value}
theorem lX_b (xs : Nat → Int32) (z : Int) : -2147483648 ≤ lX xs z ∧ lX xs z < 2147483648 := ⟨Int32.le_toInt _, Int32.toInt_lt _⟩
theorem g_sld (n' : Nat) (C : lC p s m meth c b L xs E) {z : Int} (hdg : decode cL_law pc = .ok (.iaload, 1)) (hp : pc + 1 = n') (hz : 0 ≤ z ∧ z < L) (kk : lJ p l e s m below meth c b cells slots E ws lv n' (.int (iI (lX xs z)) :: st)) : lJ p l e s m below meth c b cells slots E ws lv pc (.int (iI z) :: .ref b :: st) := by
  intro H locs ls hP hD hS hl
  subst hp
  have hL := C.2.2.2.2
  refine va_sld C.1.1 C.1.2.1 C.2.1 C.2.2.1 (Nat.not_le.mpr C.2.2.1) hS (iI_in hz.1 hz.2 (by omega)) hdg ?_
  rw [iI_clamp hz.1 (by omega)]
  have h := kk H locs ls hP hD hS hl
  rw [lX, iI_of] at h
  exact h
theorem g_slen (n' : Nat) (C : lC p s m meth c b L xs E) (hdg : decode cL_law pc = .ok (.arraylength, 1)) (hp : pc + 1 = n') (kk : lJ p l e s m below meth c b cells slots E ws lv n' (.int (iI (L : Int)) :: st)) : lJ p l e s m below meth c b cells slots E ws lv pc (.ref b :: st) := by
  intro H locs ls hP hD hS hl
  subst hp
  refine va_slen C.1.1 C.1.2.1 C.2.1 C.2.2.1 (Nat.not_le.mpr C.2.2.1) hS hdg ?_
  exact kk H locs ls hP hD hS hl
theorem g_fin (C : lC p s m meth c b L xs E) (hc : cells ≤ 600000) (hs : slots ≤ 7302250) (hdg : decode cL_law pc = .ok (.ireturn, 1)) : lJ p l e s m below meth c b cells slots E ws lv pc [.int 1] := by
  intro H locs ls hP hD hS hl
  refine va_forget (fun q hq => hS.2.2 q hq) ?_
  refine W.widen (k := 600000) (n := 7302250) hc hs ?_
  exact lw_ret C.1.1 C.1.2.1 C.2.2.2.1 C.1.2.2.2.2.2.2.2 hdg
end LWR
section LWC
variable {p : Program} {l : Launch} {e : Env} {R : Room} {s : State} {m : MethodId} {args : Array Value} {below : List Frame} {meth : Method} {c : Code} {cells slots : Nat} {Q : State → Prop} {E : gE} {A : Nat → Prop} {nL : Nat} {ws : va_W} {lv : List (Nat × Value)} {pc : Nat} {st : List Value} {cc : ByteArray} {own : String} {Ts : List Cond}
theorem g_cmpE (t : Nat) (C : gC p s m args meth c cc nL own Ts E A) {x y : Int32} {off : Int} (hdg : decode cc pc = .ok (.if_icmp .eq off, 3)) (ht : (pc : Int) + off = (t : Int)) (hxy : x = y) (kk : gJ p l e R s m args below meth c cells slots Q E A nL ws lv t st) : gJ p l e R s m args below meth c cells slots Q E A nL ws lv pc (.int y :: .int x :: st) := by
  intro H locs ls hP hD hS hl
  exact lv_icmp_eq C.1 C.2.1 hdg ht (fun _ => kk H locs ls hP hD hS hl) (fun h => absurd hxy h)
theorem g_lcE (n1 t : Nat) (C : gC p s m args meth c cc nL own Ts E A) {x y : Int64} {off : Int} (hdg0 : decode cc pc = .ok (.lcmp, 1)) (hp0 : pc + 1 = n1) (hdg : decode cc n1 = .ok (.ifCond .eq off, 3)) (ht : (n1 : Int) + off = (t : Int)) (hxy : x = y) (kk : gJ p l e R s m args below meth c cells slots Q E A nL ws lv t st) : gJ p l e R s m args below meth c cells slots Q E A nL ws lv pc (.long y :: .long x :: st) := by
  intro H locs ls hP hD hS hl
  subst hp0
  subst hxy
  refine W.lcmp C.1 C.2.1 hdg0 ?_
  have e0 : lg_cmp x x = iI 0 := by
    unfold lg_cmp
    rw [if_neg Int64.lt_irrefl, if_pos rfl]
    rfl
  rw [e0]
  exact g_if_eq t _ C (a := 0) hdg ht rfl (by omega) (fun _ => kk) (fun q => absurd rfl q) H locs ls hP hD hS hl
end LWC
