/-! THE WALK'S OWN LAYER: a state of the walk is a list of cells, a list of locals, a place, a stack; heaps and slots are quantified away -/
abbrev gE : Type := va_G × ClassId × ClassId × ClassId
def gTy (E : gE) : List (ClassId × FieldType) := [(E.2.1, .int), (E.2.2.1, .boolean), (E.2.2.2, .object RX4)]
/-- what the tables say of the kinds -/
def gK (E : gE) (U : State) : Prop := va_K E.1 vwCl (gTy E) U ∧ va_AO RX4 U
theorem gK.moved {E : gE} {u U : State} (hvm : u.vm.Alike U.vm) (h : gK E u) : gK E U := ⟨va_K.moved hvm h.1, va_AO.moved hvm h.2⟩
/-- a row of ints, of booleans, of sheets -/
def aI (E : gE) (n : Nat) (f : Int → Int) : va_E := .inl (E.2.1, n, .inl (fun k : Nat => iI (f (k : Int))))
def aZ (E : gE) (n : Nat) (f : Int → Int) : va_E := .inl (E.2.2.1, n, .inl (fun k : Nat => iI (f (k : Int))))
def aQ (E : gE) (n : Nat) (f : Int → Option Nat) : va_E := .inl (E.2.2.2, n, .inr (.inr (.inr (.inr (fun k : Nat => f (k : Int))))))
def uI (f : Int → Int) (z v : Int) : Int → Int := fun j => if j = z then v else f j
def uQ (f : Int → Option Nat) (z : Int) (v : Option Nat) : Int → Option Nat := fun j => if j = z then v else f j
def gPost (E : gE) (A : Nat → Prop) (post : Option Value → va_W → Prop) : Array Value → State → Outcome → State → Prop := fun _ st oc t => (∃ (v : Option Value) (w : va_W), oc = .returned v ∧ post v w ∧ va_P E.1 vwCl w t.heap ∧ gK E t ∧ va_D A w) ∧ va_F A st t
def gMet (E : gE) (l : Launch) (y : MethodName) (ws : List Cond) (rm : Room) (mc ms : Nat) (as : List Value) (wIn : va_W) (post : Option Value → va_W → Prop) : Prop := ∀ sz : Nat, Met l y ws rm (va_Pc as (fun U => U.heap.size = sz ∧ va_P E.1 vwCl wIn U.heap ∧ gK E U ∧ va_D (fun _ => True) wIn)) (gPost E (va_A wIn sz) post) mc ms (va_A wIn sz)
/-- a method that changes nothing and answers v -/
def gFun (E : gE) (l : Launch) (y : MethodName) (ws : List Cond) (rm : Room) (as : List Value) (wIn : va_W) (v : Value) : Prop := gMet E l y ws rm 0 0 as wIn (fun r w => r = some v ∧ w = wIn)
/-- a method that answers v and leaves the cells w1 -/
def gUpd (E : gE) (l : Launch) (y : MethodName) (ws : List Cond) (rm : Room) (as : List Value) (wIn : va_W) (v : Option Value) (w1 : va_W) : Prop := gMet E l y ws rm 0 0 as wIn (fun r w => r = v ∧ w = w1)
def gC (p : Program) (s : State) (m : MethodId) (args : Array Value) (meth : Method) (c : Code) (cc : ByteArray) (nL : Nat) (own : String) (Ts : List Cond) (E : gE) (A : Nat → Prop) : Prop :=
  p.tables.exec = Jvm.exec ∧ c.code = cc ∧ c.maxLocals = nL ∧ s.vm.findClass own = some m.cls ∧ (∀ w ∈ Ts, w.before args s = true) ∧ gK E s ∧ (∀ q : Nat, s.heap.size ≤ q → A q) ∧ meth.locks = false
def gJ (p : Program) (l : Launch) (e : Env) (R : Room) (s : State) (m : MethodId) (args : Array Value) (below : List Frame) (meth : Method) (c : Code) (cells slots : Nat) (Q : State → Prop) (E : gE) (A : Nat → Prop) (nL : Nat) (ws : va_W) (lv : List (Nat × Value)) (pc : Nat) (st : List Value) : Prop :=
  ∀ (H : Heap) (locs : List Loc) (ls : Array Slot), va_P E.1 vwCl ws H → va_D A ws → va_S A s.heap H locs → lv_has ls nL lv → W p l e R s m args below meth c H locs cells slots Q (F0 m pc ls st)
section GL
variable {p : Program} {l : Launch} {e : Env} {R : Room} {s : State} {m : MethodId} {args : Array Value} {below : List Frame} {meth : Method} {c : Code} {cells slots : Nat} {Q : State → Prop} {E : gE} {A : Nat → Prop} {nL : Nat} {ws : va_W} {lv : List (Nat × Value)} {pc : Nat} {st : List Value} {cc : ByteArray} {own : String} {Ts : List Cond}
theorem g_start {y : MethodName} {wsy ws' : List Cond} {rm : Room} {mc ms maxL : Nat} {ret : Option FieldType} {as : List Value} {wIn : va_W} {post : Option Value → va_W → Prop} (hy : plainName y.cls = true) (hw : wsy = Cond.code y cc maxL ret :: ws') (hn : (lg_sl as).length ≤ maxL)
    (body : ∀ (p : Program) (e : Env) (s : State) (m : MethodId) (args : Array Value) (below : List Frame) (meth : Method) (c : Code) (A : Nat → Prop), gC p s m args meth c cc maxL y.cls wsy E A → meth.sig.returnType = ret → meth.name = y.name →
      gJ p l e rm s m args below meth c 0 0 (MQ below (gPost E A post) args s mc ms A) E A maxL wIn (lv_args 0 as) 0 []) : gMet E l y wsy rm mc ms as wIn post := by
  intro sz
  refine Met.ofW (cc := cc) (maxL := maxL) (ret := ret) hy hw ?_
  intro p e s m args below meth c s₁ B hml hv
  obtain ⟨rfl, hsz, hP, hK, hD0⟩ := hv
  subst hsz
  have hD := hD0.self (sz := s.heap.size)
  rw [lg_entry_eq]
  exact body p e s m _ below meth c (va_A wIn s.heap.size) ⟨B.exec, B.bytes, hml, findClass_of_methodNamed B.named, atoms_spec (ws := wsy) B.pre, hK, fun q h => Or.inr h, B.notSynchronized⟩ B.returns (name_of_methodNamed B.named B.method).1 s.heap [] _ hP hD va_S.rf (lv_entry as hn)
theorem g_w {ws' : va_W} {lv' : List (Nat × Value)} (ks : List Nat) (hw : ws = ws') (hl : lv_pick lv ks = lv') (kk : gJ p l e R s m args below meth c cells slots Q E A nL ws' lv' pc st) : gJ p l e R s m args below meth c cells slots Q E A nL ws lv pc st := by
  intro H locs ls hP hD hS hl0
  subst hw
  exact kk H locs ls hP hD hS (lv_sub hl0 ks hl)
theorem g_perm {ws' : va_W} (is : List Nat) (hw : is.map (fun i => ws[i]?) = ws'.map some) (hn : va_nd is = true) (kk : gJ p l e R s m args below meth c cells slots Q E A nL ws' lv pc st) : gJ p l e R s m args below meth c cells slots Q E A nL ws lv pc st := by
  intro H locs ls hP hD hS hl0
  refine kk H locs ls (fun k q hk => ?_) (hD.sub is hn hw) hS hl0
  have h1 : (is.map (fun i => ws[i]?))[k]? = some (some q) := by rw [hw, List.getElem?_map, hk]; rfl
  rw [List.getElem?_map] at h1
  cases hi : is[k]? with
  | none => rw [hi] at h1; cases h1
  | some i => rw [hi] at h1; exact hP i q (Option.some.inj h1)
theorem g_loop {α : Type} (F : α → va_W) (L : α → List (Nat × Value)) (I : α → Prop) (μ : α → Nat) (a0 : α) (h0 : I a0) (ks : List Nat) (hw : ws = F a0) (hl : lv_pick lv ks = L a0)
    (body : ∀ a : α, I a → (∀ b : α, I b → μ b < μ a → gJ p l e R s m args below meth c cells slots Q E A nL (F b) (L b) pc []) → gJ p l e R s m args below meth c cells slots Q E A nL (F a) (L a) pc []) : gJ p l e R s m args below meth c cells slots Q E A nL ws lv pc [] := by
  refine g_w ks hw hl ?_
  have key : ∀ (n : Nat) (a : α), μ a < n → I a → gJ p l e R s m args below meth c cells slots Q E A nL (F a) (L a) pc [] := by
    intro n
    induction n with
    | zero => intro a h; exact absurd h (Nat.not_lt_zero _)
    | succ n ih => exact fun a h hI => body a hI (fun b hb hlt => ih b (by omega) hb)
  exact key _ a0 (Nat.lt_succ_self _) h0
theorem g_join {α : Type} (F : α → va_W) (L : α → List (Nat × Value)) (S : α → List Value) (t : Nat) (I : α → Prop) (body : ∀ a : α, I a → gJ p l e R s m args below meth c cells slots Q E A nL (F a) (L a) t (S a))
    (kk : (∀ a : α, I a → gJ p l e R s m args below meth c cells slots Q E A nL (F a) (L a) t (S a)) → gJ p l e R s m args below meth c cells slots Q E A nL ws lv pc st) : gJ p l e R s m args below meth c cells slots Q E A nL ws lv pc st := kk body
-- constants, locals, the stack
theorem g_iconst (n' : Nat) (C : gC p s m args meth c cc nL own Ts E A) {n : Int} (hdg : decode cc pc = .ok (.iconst n, 1)) (hp : pc + 1 = n') (kk : gJ p l e R s m args below meth c cells slots Q E A nL ws lv n' (.int (iI n) :: st)) : gJ p l e R s m args below meth c cells slots Q E A nL ws lv pc st := by
  intro H locs ls hP hD hS hl
  subst hp
  exact lv_iconst C.1 C.2.1 hdg rfl (kk H locs ls hP hD hS hl)
theorem g_bipush (n' : Nat) (C : gC p s m args meth c cc nL own Ts E A) {n : Int} (hdg : decode cc pc = .ok (.bipush n, 2)) (hp : pc + 2 = n') (hv : (Int8.ofInt n).toInt32 = iI n) (kk : gJ p l e R s m args below meth c cells slots Q E A nL ws lv n' (.int (iI n) :: st)) : gJ p l e R s m args below meth c cells slots Q E A nL ws lv pc st := by
  intro H locs ls hP hD hS hl
  subst hp
  exact lv_bipush C.1 C.2.1 hdg hv (kk H locs ls hP hD hS hl)
theorem g_sipush (n' : Nat) (C : gC p s m args meth c cc nL own Ts E A) {n : Int} (hdg : decode cc pc = .ok (.sipush n, 3)) (hp : pc + 3 = n') (hv : (Int16.ofInt n).toInt32 = iI n) (kk : gJ p l e R s m args below meth c cells slots Q E A nL ws lv n' (.int (iI n) :: st)) : gJ p l e R s m args below meth c cells slots Q E A nL ws lv pc st := by
  intro H locs ls hP hD hS hl
  subst hp
  exact lv_sipush C.1 C.2.1 hdg hv (kk H locs ls hP hD hS hl)
theorem g_ldc (n' : Nat) (C : gC p s m args meth c cc nL own Ts E A) {index : Nat} {v : Int32} (z : Int) (hdg : decode cc pc = .ok (.ldc index, 2)) (hp : pc + 2 = n') (hm : Cond.constant own index v ∈ Ts) (hv : v = iI z) (kk : gJ p l e R s m args below meth c cells slots Q E A nL ws lv n' (.int (iI z) :: st)) : gJ p l e R s m args below meth c cells slots Q E A nL ws lv pc st := by
  intro H locs ls hP hD hS hl
  subst hp
  subst hv
  exact lv_ldc C.1 C.2.1 C.2.2.2.1 (C.2.2.2.2.1 _ hm) hdg (kk H locs ls hP hD hS hl)
theorem g_ldc2 (n' : Nat) (C : gC p s m args meth c cc nL own Ts E A) {index : Nat} {v : Int64} (z : Int) (hdg : decode cc pc = .ok (.ldc2_w index, 3)) (hp : pc + 3 = n') (hm : Cond.constantLong own index v ∈ Ts) (hv : v = lI z) (kk : gJ p l e R s m args below meth c cells slots Q E A nL ws lv n' (.long (lI z) :: st)) : gJ p l e R s m args below meth c cells slots Q E A nL ws lv pc st := by
  intro H locs ls hP hD hS hl
  subst hp
  subst hv
  exact lv_ldc2 C.1 C.2.1 C.2.2.2.1 (C.2.2.2.2.1 _ hm) hdg (kk H locs ls hP hD hS hl)
theorem g_lconst (n' : Nat) (C : gC p s m args meth c cc nL own Ts E A) {n : Fin 2} (z : Int) (hdg : decode cc pc = .ok (.lconst n, 1)) (hp : pc + 1 = n') (hv : Int64.ofNat (n : Nat) = lI z) (kk : gJ p l e R s m args below meth c cells slots Q E A nL ws lv n' (.long (lI z) :: st)) : gJ p l e R s m args below meth c cells slots Q E A nL ws lv pc st := by
  intro H locs ls hP hD hS hl
  subst hp
  exact lv_lconst C.1 C.2.1 hdg hv (kk H locs ls hP hD hS hl)
theorem g_iload_n (n' : Nat) (C : gC p s m args meth c cc nL own Ts E A) (k : Nat) {kf : Fin 4} {x : Int32} (hdg : decode cc pc = .ok (.iload_n kf, 1)) (hp : pc + 1 = n') (hk : lv[k]? = some ((kf : Nat), .int x)) (kk : gJ p l e R s m args below meth c cells slots Q E A nL ws lv n' (.int x :: st)) : gJ p l e R s m args below meth c cells slots Q E A nL ws lv pc st := by
  intro H locs ls hP hD hS hl
  subst hp
  exact lv_iload_n C.1 C.2.1 hdg rfl (lv_at hl k hk) (kk H locs ls hP hD hS hl)
theorem g_iload (n' : Nat) (C : gC p s m args meth c cc nL own Ts E A) (k : Nat) {i : Nat} {x : Int32} (hdg : decode cc pc = .ok (.iload i, 2)) (hp : pc + 2 = n') (hk : lv[k]? = some (i, .int x)) (kk : gJ p l e R s m args below meth c cells slots Q E A nL ws lv n' (.int x :: st)) : gJ p l e R s m args below meth c cells slots Q E A nL ws lv pc st := by
  intro H locs ls hP hD hS hl
  subst hp
  exact lv_iload C.1 C.2.1 hdg (lv_at hl k hk) (kk H locs ls hP hD hS hl)
theorem g_aload_n (n' : Nat) (C : gC p s m args meth c cc nL own Ts E A) (k : Nat) {kf : Fin 4} {x : Nat} (hdg : decode cc pc = .ok (.aload_n kf, 1)) (hp : pc + 1 = n') (hk : lv[k]? = some ((kf : Nat), .ref x)) (kk : gJ p l e R s m args below meth c cells slots Q E A nL ws lv n' (.ref x :: st)) : gJ p l e R s m args below meth c cells slots Q E A nL ws lv pc st := by
  intro H locs ls hP hD hS hl
  subst hp
  exact lv_aload_n C.1 C.2.1 hdg rfl (lv_at hl k hk) (kk H locs ls hP hD hS hl)
theorem g_aload (n' : Nat) (C : gC p s m args meth c cc nL own Ts E A) (k : Nat) {i : Nat} {x : Nat} (hdg : decode cc pc = .ok (.aload i, 2)) (hp : pc + 2 = n') (hk : lv[k]? = some (i, .ref x)) (kk : gJ p l e R s m args below meth c cells slots Q E A nL ws lv n' (.ref x :: st)) : gJ p l e R s m args below meth c cells slots Q E A nL ws lv pc st := by
  intro H locs ls hP hD hS hl
  subst hp
  exact lv_aload C.1 C.2.1 hdg (lv_at hl k hk) (kk H locs ls hP hD hS hl)
theorem g_lload_n (n' : Nat) (C : gC p s m args meth c cc nL own Ts E A) (k : Nat) {kf : Fin 4} {x : Int64} (hdg : decode cc pc = .ok (.lload_n kf, 1)) (hp : pc + 1 = n') (hk : lv[k]? = some ((kf : Nat), .long x)) (kk : gJ p l e R s m args below meth c cells slots Q E A nL ws lv n' (.long x :: st)) : gJ p l e R s m args below meth c cells slots Q E A nL ws lv pc st := by
  intro H locs ls hP hD hS hl
  subst hp
  exact lv_lload_n C.1 C.2.1 hdg rfl (lv_at hl k hk) (kk H locs ls hP hD hS hl)
theorem g_lload (n' : Nat) (C : gC p s m args meth c cc nL own Ts E A) (k : Nat) {i : Nat} {x : Int64} (hdg : decode cc pc = .ok (.lload i, 2)) (hp : pc + 2 = n') (hk : lv[k]? = some (i, .long x)) (kk : gJ p l e R s m args below meth c cells slots Q E A nL ws lv n' (.long x :: st)) : gJ p l e R s m args below meth c cells slots Q E A nL ws lv pc st := by
  intro H locs ls hP hD hS hl
  subst hp
  exact lv_lload C.1 C.2.1 hdg (lv_at hl k hk) (kk H locs ls hP hD hS hl)
theorem g_istore_n (n' : Nat) (C : gC p s m args meth c cc nL own Ts E A) {kf : Fin 4} {i : Nat} {x : Int32} {lv' : List (Nat × Value)} (hdg : decode cc pc = .ok (.istore_n kf, 1)) (hp : pc + 1 = n') (hi : (kf : Nat) = i) (hn : i < nL) (hlv : (i, Value.int x) :: lv.filter (fun q => !(q.1 == i) && !(q.1 + 1 == i && q.2.category == 2)) = lv') (kk : gJ p l e R s m args below meth c cells slots Q E A nL ws lv' n' st) : gJ p l e R s m args below meth c cells slots Q E A nL ws lv pc (.int x :: st) := by
  intro H locs ls hP hD hS hl
  subst hp
  exact lv_istore_n C.1 C.2.1 hdg hi hl hn hlv (fun ls' hl' => kk H locs ls' hP hD hS hl')
theorem g_istore (n' : Nat) (C : gC p s m args meth c cc nL own Ts E A) {i : Nat} {x : Int32} {lv' : List (Nat × Value)} (hdg : decode cc pc = .ok (.istore i, 2)) (hp : pc + 2 = n') (hn : i < nL) (hlv : (i, Value.int x) :: lv.filter (fun q => !(q.1 == i) && !(q.1 + 1 == i && q.2.category == 2)) = lv') (kk : gJ p l e R s m args below meth c cells slots Q E A nL ws lv' n' st) : gJ p l e R s m args below meth c cells slots Q E A nL ws lv pc (.int x :: st) := by
  intro H locs ls hP hD hS hl
  subst hp
  exact lv_istore C.1 C.2.1 hdg hl hn hlv (fun ls' hl' => kk H locs ls' hP hD hS hl')
theorem g_astore_n (n' : Nat) (C : gC p s m args meth c cc nL own Ts E A) {kf : Fin 4} {i : Nat} {x : Nat} {lv' : List (Nat × Value)} (hdg : decode cc pc = .ok (.astore_n kf, 1)) (hp : pc + 1 = n') (hi : (kf : Nat) = i) (hn : i < nL) (hlv : (i, Value.ref x) :: lv.filter (fun q => !(q.1 == i) && !(q.1 + 1 == i && q.2.category == 2)) = lv') (kk : gJ p l e R s m args below meth c cells slots Q E A nL ws lv' n' st) : gJ p l e R s m args below meth c cells slots Q E A nL ws lv pc (.ref x :: st) := by
  intro H locs ls hP hD hS hl
  subst hp
  exact lv_astore_n C.1 C.2.1 hdg hi hl hn hlv (fun ls' hl' => kk H locs ls' hP hD hS hl')
theorem g_astore (n' : Nat) (C : gC p s m args meth c cc nL own Ts E A) {i : Nat} {x : Nat} {lv' : List (Nat × Value)} (hdg : decode cc pc = .ok (.astore i, 2)) (hp : pc + 2 = n') (hn : i < nL) (hlv : (i, Value.ref x) :: lv.filter (fun q => !(q.1 == i) && !(q.1 + 1 == i && q.2.category == 2)) = lv') (kk : gJ p l e R s m args below meth c cells slots Q E A nL ws lv' n' st) : gJ p l e R s m args below meth c cells slots Q E A nL ws lv pc (.ref x :: st) := by
  intro H locs ls hP hD hS hl
  subst hp
  exact lv_astore C.1 C.2.1 hdg hl hn hlv (fun ls' hl' => kk H locs ls' hP hD hS hl')
theorem g_lstore (n' : Nat) (C : gC p s m args meth c cc nL own Ts E A) {i : Nat} {x : Int64} {lv' : List (Nat × Value)} (hdg : decode cc pc = .ok (.lstore i, 2)) (hp : pc + 2 = n') (hn : i + 1 < nL) (hlv : (i, Value.long x) :: lv.filter (fun q => !(q.1 == i) && (!(q.1 == i + 1) && !(q.1 + 1 == i && q.2.category == 2))) = lv') (kk : gJ p l e R s m args below meth c cells slots Q E A nL ws lv' n' st) : gJ p l e R s m args below meth c cells slots Q E A nL ws lv pc (.long x :: st) := by
  intro H locs ls hP hD hS hl
  subst hp
  exact lv_lstore C.1 C.2.1 hdg hl hn hlv (fun ls' hl' => kk H locs ls' hP hD hS hl')
theorem g_lstore_n (n' : Nat) (C : gC p s m args meth c cc nL own Ts E A) {kf : Fin 4} {i : Nat} {x : Int64} {lv' : List (Nat × Value)} (hdg : decode cc pc = .ok (.lstore_n kf, 1)) (hp : pc + 1 = n') (hi : (kf : Nat) = i) (hn : i + 1 < nL) (hlv : (i, Value.long x) :: lv.filter (fun q => !(q.1 == i) && (!(q.1 == i + 1) && !(q.1 + 1 == i && q.2.category == 2))) = lv') (kk : gJ p l e R s m args below meth c cells slots Q E A nL ws lv' n' st) : gJ p l e R s m args below meth c cells slots Q E A nL ws lv pc (.long x :: st) := by
  intro H locs ls hP hD hS hl
  subst hp
  exact lv_lstore_n C.1 C.2.1 hdg hi hl hn hlv (fun ls' hl' => kk H locs ls' hP hD hS hl')
theorem g_iinc (n' : Nat) (C : gC p s m args meth c cc nL own Ts E A) (k : Nat) {i : Nat} {n z : Int} {lv' : List (Nat × Value)} (hdg : decode cc pc = .ok (.iinc i n, 3)) (hp : pc + 3 = n') (hk : lv[k]? = some (i, .int (iI z))) (hn : i < nL) (hlv : (i, Value.int (iI (z + n))) :: lv.filter (fun q => !(q.1 == i) && !(q.1 + 1 == i && q.2.category == 2)) = lv') (kk : gJ p l e R s m args below meth c cells slots Q E A nL ws lv' n' st) : gJ p l e R s m args below meth c cells slots Q E A nL ws lv pc st := by
  intro H locs ls hP hD hS hl
  subst hp
  exact lv_iinc C.1 C.2.1 hdg hl hk (iI_add z n) hn hlv (fun ls' hl' => kk H locs ls' hP hD hS hl')
theorem g_iadd (n' : Nat) (C : gC p s m args meth c cc nL own Ts E A) {a b : Int} (hdg : decode cc pc = .ok (.iadd, 1)) (hp : pc + 1 = n') (kk : gJ p l e R s m args below meth c cells slots Q E A nL ws lv n' (.int (iI (a + b)) :: st)) : gJ p l e R s m args below meth c cells slots Q E A nL ws lv pc (.int (iI b) :: .int (iI a) :: st) := by
  intro H locs ls hP hD hS hl
  subst hp
  exact lv_iadd C.1 C.2.1 hdg (by rw [iI_add]; exact kk H locs ls hP hD hS hl)
theorem g_isub (n' : Nat) (C : gC p s m args meth c cc nL own Ts E A) {a b : Int} (hdg : decode cc pc = .ok (.isub, 1)) (hp : pc + 1 = n') (kk : gJ p l e R s m args below meth c cells slots Q E A nL ws lv n' (.int (iI (a - b)) :: st)) : gJ p l e R s m args below meth c cells slots Q E A nL ws lv pc (.int (iI b) :: .int (iI a) :: st) := by
  intro H locs ls hP hD hS hl
  subst hp
  exact lv_isub C.1 C.2.1 hdg (by rw [iI_sub]; exact kk H locs ls hP hD hS hl)
theorem g_imul (n' : Nat) (C : gC p s m args meth c cc nL own Ts E A) {a b : Int} (hdg : decode cc pc = .ok (.imul, 1)) (hp : pc + 1 = n') (kk : gJ p l e R s m args below meth c cells slots Q E A nL ws lv n' (.int (iI (a * b)) :: st)) : gJ p l e R s m args below meth c cells slots Q E A nL ws lv pc (.int (iI b) :: .int (iI a) :: st) := by
  intro H locs ls hP hD hS hl
  subst hp
  exact lv_imul C.1 C.2.1 hdg (by rw [iI_mul]; exact kk H locs ls hP hD hS hl)
theorem g_ladd (n' : Nat) (C : gC p s m args meth c cc nL own Ts E A) {a b : Int} (hdg : decode cc pc = .ok (.ladd, 1)) (hp : pc + 1 = n') (kk : gJ p l e R s m args below meth c cells slots Q E A nL ws lv n' (.long (lI (a + b)) :: st)) : gJ p l e R s m args below meth c cells slots Q E A nL ws lv pc (.long (lI b) :: .long (lI a) :: st) := by
  intro H locs ls hP hD hS hl
  subst hp
  exact lv_ladd C.1 C.2.1 hdg (by rw [lI_add]; exact kk H locs ls hP hD hS hl)
theorem g_lsub (n' : Nat) (C : gC p s m args meth c cc nL own Ts E A) {a b : Int} (hdg : decode cc pc = .ok (.lsub, 1)) (hp : pc + 1 = n') (kk : gJ p l e R s m args below meth c cells slots Q E A nL ws lv n' (.long (lI (a - b)) :: st)) : gJ p l e R s m args below meth c cells slots Q E A nL ws lv pc (.long (lI b) :: .long (lI a) :: st) := by
  intro H locs ls hP hD hS hl
  subst hp
  exact lv_lsub C.1 C.2.1 hdg (by rw [lI_sub]; exact kk H locs ls hP hD hS hl)
theorem g_lmul (n' : Nat) (C : gC p s m args meth c cc nL own Ts E A) {a b : Int} (hdg : decode cc pc = .ok (.lmul, 1)) (hp : pc + 1 = n') (kk : gJ p l e R s m args below meth c cells slots Q E A nL ws lv n' (.long (lI (a * b)) :: st)) : gJ p l e R s m args below meth c cells slots Q E A nL ws lv pc (.long (lI b) :: .long (lI a) :: st) := by
  intro H locs ls hP hD hS hl
  subst hp
  exact lv_lmul C.1 C.2.1 hdg (by rw [lI_mul]; exact kk H locs ls hP hD hS hl)
theorem g_ladd_r (n' : Nat) (C : gC p s m args meth c cc nL own Ts E A) {a b : Int64} (hdg : decode cc pc = .ok (.ladd, 1)) (hp : pc + 1 = n') (kk : gJ p l e R s m args below meth c cells slots Q E A nL ws lv n' (.long (a + b) :: st)) : gJ p l e R s m args below meth c cells slots Q E A nL ws lv pc (.long b :: .long a :: st) := by
  intro H locs ls hP hD hS hl
  subst hp
  exact lv_ladd C.1 C.2.1 hdg (kk H locs ls hP hD hS hl)
theorem g_lmul_r (n' : Nat) (C : gC p s m args meth c cc nL own Ts E A) {a b : Int64} (hdg : decode cc pc = .ok (.lmul, 1)) (hp : pc + 1 = n') (kk : gJ p l e R s m args below meth c cells slots Q E A nL ws lv n' (.long (a * b) :: st)) : gJ p l e R s m args below meth c cells slots Q E A nL ws lv pc (.long b :: .long a :: st) := by
  intro H locs ls hP hD hS hl
  subst hp
  exact lv_lmul C.1 C.2.1 hdg (kk H locs ls hP hD hS hl)
theorem g_land_r (n' : Nat) (C : gC p s m args meth c cc nL own Ts E A) {a b : Int64} (hdg : decode cc pc = .ok (.land, 1)) (hp : pc + 1 = n') (kk : gJ p l e R s m args below meth c cells slots Q E A nL ws lv n' (.long (a &&& b) :: st)) : gJ p l e R s m args below meth c cells slots Q E A nL ws lv pc (.long b :: .long a :: st) := by
  intro H locs ls hP hD hS hl
  subst hp
  exact lv_land C.1 C.2.1 hdg (kk H locs ls hP hD hS hl)
theorem g_lor_r (n' : Nat) (C : gC p s m args meth c cc nL own Ts E A) {a b : Int64} (hdg : decode cc pc = .ok (.lor, 1)) (hp : pc + 1 = n') (kk : gJ p l e R s m args below meth c cells slots Q E A nL ws lv n' (.long (a ||| b) :: st)) : gJ p l e R s m args below meth c cells slots Q E A nL ws lv pc (.long b :: .long a :: st) := by
  intro H locs ls hP hD hS hl
  subst hp
  exact lv_lor C.1 C.2.1 hdg (kk H locs ls hP hD hS hl)
theorem g_ldiv_r (n' : Nat) (C : gC p s m args meth c cc nL own Ts E A) {a b : Int64} (hdg : decode cc pc = .ok (.ldiv, 1)) (hp : pc + 1 = n') (h0 : ¬ b = 0) (kk : gJ p l e R s m args below meth c cells slots Q E A nL ws lv n' (.long (a / b) :: st)) : gJ p l e R s m args below meth c cells slots Q E A nL ws lv pc (.long b :: .long a :: st) := by
  intro H locs ls hP hD hS hl
  subst hp
  exact lv_ldiv C.1 C.2.1 hdg h0 (kk H locs ls hP hD hS hl)
theorem g_lrem_r (n' : Nat) (C : gC p s m args meth c cc nL own Ts E A) {a b : Int64} (hdg : decode cc pc = .ok (.lrem, 1)) (hp : pc + 1 = n') (h0 : ¬ b = 0) (kk : gJ p l e R s m args below meth c cells slots Q E A nL ws lv n' (.long (a - a / b * b) :: st)) : gJ p l e R s m args below meth c cells slots Q E A nL ws lv pc (.long b :: .long a :: st) := by
  intro H locs ls hP hD hS hl
  subst hp
  exact lv_lrem C.1 C.2.1 hdg h0 (kk H locs ls hP hD hS hl)
theorem g_lshl_r (n' : Nat) (C : gC p s m args meth c cc nL own Ts E A) {a : Int64} {y : Int32} (hdg : decode cc pc = .ok (.lshl, 1)) (hp : pc + 1 = n') (kk : gJ p l e R s m args below meth c cells slots Q E A nL ws lv n' (.long (a <<< (y.toInt64 &&& 63)) :: st)) : gJ p l e R s m args below meth c cells slots Q E A nL ws lv pc (.int y :: .long a :: st) := by
  intro H locs ls hP hD hS hl
  subst hp
  exact lv_lshl C.1 C.2.1 hdg rfl (kk H locs ls hP hD hS hl)
theorem g_ineg (n' : Nat) (C : gC p s m args meth c cc nL own Ts E A) {a : Int} (hdg : decode cc pc = .ok (.ineg, 1)) (hp : pc + 1 = n') (kk : gJ p l e R s m args below meth c cells slots Q E A nL ws lv n' (.int (iI (-a)) :: st)) : gJ p l e R s m args below meth c cells slots Q E A nL ws lv pc (.int (iI a) :: st) := by
  intro H locs ls hP hD hS hl
  subst hp
  exact lv_ineg C.1 C.2.1 hdg (by rw [iI_neg]; exact kk H locs ls hP hD hS hl)
theorem g_idiv (n' : Nat) (C : gC p s m args meth c cc nL own Ts E A) {a b : Int} (hdg : decode cc pc = .ok (.idiv, 1)) (hp : pc + 1 = n') (hr : 0 ≤ a ∧ a < 2147483648 ∧ 0 < b ∧ b < 2147483648) (kk : gJ p l e R s m args below meth c cells slots Q E A nL ws lv n' (.int (iI (a / b)) :: st)) : gJ p l e R s m args below meth c cells slots Q E A nL ws lv pc (.int (iI b) :: .int (iI a) :: st) := by
  intro H locs ls hP hD hS hl
  subst hp
  exact lv_idiv C.1 C.2.1 hdg (iI_ne0 hr.2.2.1 hr.2.2.2) (by rw [iI_div hr.1 hr.2.1 hr.2.2.1 hr.2.2.2]; exact kk H locs ls hP hD hS hl)
theorem g_irem (n' : Nat) (C : gC p s m args meth c cc nL own Ts E A) {a b : Int} (hdg : decode cc pc = .ok (.irem, 1)) (hp : pc + 1 = n') (hr : 0 ≤ a ∧ a < 2147483648 ∧ 0 < b ∧ b < 2147483648) (kk : gJ p l e R s m args below meth c cells slots Q E A nL ws lv n' (.int (iI (a % b)) :: st)) : gJ p l e R s m args below meth c cells slots Q E A nL ws lv pc (.int (iI b) :: .int (iI a) :: st) := by
  intro H locs ls hP hD hS hl
  subst hp
  exact lv_irem C.1 C.2.1 hdg (iI_ne0 hr.2.2.1 hr.2.2.2) (by rw [iI_rem hr.1 hr.2.1 hr.2.2.1 hr.2.2.2]; exact kk H locs ls hP hD hS hl)
theorem g_iand_r (n' : Nat) (C : gC p s m args meth c cc nL own Ts E A) {a b : Int32} (hdg : decode cc pc = .ok (.iand, 1)) (hp : pc + 1 = n') (kk : gJ p l e R s m args below meth c cells slots Q E A nL ws lv n' (.int (a &&& b) :: st)) : gJ p l e R s m args below meth c cells slots Q E A nL ws lv pc (.int b :: .int a :: st) := by
  intro H locs ls hP hD hS hl
  subst hp
  exact lv_iand C.1 C.2.1 hdg (kk H locs ls hP hD hS hl)
theorem g_i2l (n' : Nat) (C : gC p s m args meth c cc nL own Ts E A) {a : Int} (hdg : decode cc pc = .ok (.i2l, 1)) (hp : pc + 1 = n') (hr : -2147483648 ≤ a ∧ a < 2147483648) (kk : gJ p l e R s m args below meth c cells slots Q E A nL ws lv n' (.long (lI a) :: st)) : gJ p l e R s m args below meth c cells slots Q E A nL ws lv pc (.int (iI a) :: st) := by
  intro H locs ls hP hD hS hl
  subst hp
  exact lv_i2l C.1 C.2.1 hdg (iI_long hr.1 hr.2) (kk H locs ls hP hD hS hl)
theorem g_i2l_r (n' : Nat) (C : gC p s m args meth c cc nL own Ts E A) {a : Int32} (hdg : decode cc pc = .ok (.i2l, 1)) (hp : pc + 1 = n') (kk : gJ p l e R s m args below meth c cells slots Q E A nL ws lv n' (.long a.toInt64 :: st)) : gJ p l e R s m args below meth c cells slots Q E A nL ws lv pc (.int a :: st) := by
  intro H locs ls hP hD hS hl
  subst hp
  exact lv_i2l C.1 C.2.1 hdg rfl (kk H locs ls hP hD hS hl)
theorem g_l2i_r (n' : Nat) (C : gC p s m args meth c cc nL own Ts E A) {a : Int64} (hdg : decode cc pc = .ok (.l2i, 1)) (hp : pc + 1 = n') (kk : gJ p l e R s m args below meth c cells slots Q E A nL ws lv n' (.int a.toInt32 :: st)) : gJ p l e R s m args below meth c cells slots Q E A nL ws lv pc (.long a :: st) := by
  intro H locs ls hP hD hS hl
  subst hp
  exact lv_l2i C.1 C.2.1 hdg rfl (kk H locs ls hP hD hS hl)
theorem g_i2b (n' : Nat) (C : gC p s m args meth c cc nL own Ts E A) {a : Int32} (hdg : decode cc pc = .ok (.i2b, 1)) (hp : pc + 1 = n') (kk : gJ p l e R s m args below meth c cells slots Q E A nL ws lv n' (.int a.toInt8.toInt32 :: st)) : gJ p l e R s m args below meth c cells slots Q E A nL ws lv pc (.int a :: st) := by
  intro H locs ls hP hD hS hl
  subst hp
  exact lv_i2b C.1 C.2.1 hdg rfl (kk H locs ls hP hD hS hl)
theorem g_i2s (n' : Nat) (C : gC p s m args meth c cc nL own Ts E A) {a : Int32} (hdg : decode cc pc = .ok (.i2s, 1)) (hp : pc + 1 = n') (kk : gJ p l e R s m args below meth c cells slots Q E A nL ws lv n' (.int a.toInt16.toInt32 :: st)) : gJ p l e R s m args below meth c cells slots Q E A nL ws lv pc (.int a :: st) := by
  intro H locs ls hP hD hS hl
  subst hp
  exact lv_i2s C.1 C.2.1 hdg rfl (kk H locs ls hP hD hS hl)
theorem g_dup (n' : Nat) (C : gC p s m args meth c cc nL own Ts E A) {v : Value} (hdg : decode cc pc = .ok (.dup, 1)) (hp : pc + 1 = n') (hv : v.category = 1) (kk : gJ p l e R s m args below meth c cells slots Q E A nL ws lv n' (v :: v :: st)) : gJ p l e R s m args below meth c cells slots Q E A nL ws lv pc (v :: st) := by
  intro H locs ls hP hD hS hl
  subst hp
  exact lv_dup C.1 C.2.1 hdg hv (kk H locs ls hP hD hS hl)
theorem g_dup2 (n' : Nat) (C : gC p s m args meth c cc nL own Ts E A) {v w : Value} (hdg : decode cc pc = .ok (.dup2, 1)) (hp : pc + 1 = n') (hv : v.category = 1) (hw : w.category = 1) (kk : gJ p l e R s m args below meth c cells slots Q E A nL ws lv n' (v :: w :: v :: w :: st)) : gJ p l e R s m args below meth c cells slots Q E A nL ws lv pc (v :: w :: st) := by
  intro H locs ls hP hD hS hl
  subst hp
  exact lv_dup2_11 C.1 C.2.1 hdg hv hw (kk H locs ls hP hD hS hl)
theorem g_goto (t : Nat) (C : gC p s m args meth c cc nL own Ts E A) {off : Int} (hdg : decode cc pc = .ok (.goto off, 3)) (ht : (pc : Int) + off = (t : Int)) (kk : gJ p l e R s m args below meth c cells slots Q E A nL ws lv t st) : gJ p l e R s m args below meth c cells slots Q E A nL ws lv pc st := by
  intro H locs ls hP hD hS hl
  exact lv_goto C.1 C.2.1 hdg ht (kk H locs ls hP hD hS hl)
theorem g_icmp_ge (t n' : Nat) (C : gC p s m args meth c cc nL own Ts E A) {a b off : Int} (hdg : decode cc pc = .ok (.if_icmp .ge off, 3)) (ht : (pc : Int) + off = (t : Int)) (hp : pc + 3 = n') (hr : -2147483648 ≤ a ∧ a < 2147483648 ∧ -2147483648 ≤ b ∧ b < 2147483648) (kt : b ≤ a → gJ p l e R s m args below meth c cells slots Q E A nL ws lv t st) (kf : a < b → gJ p l e R s m args below meth c cells slots Q E A nL ws lv n' st) : gJ p l e R s m args below meth c cells slots Q E A nL ws lv pc (.int (iI b) :: .int (iI a) :: st) := by
  intro H locs ls hP hD hS hl
  subst hp
  exact lv_icmp_ge C.1 C.2.1 hdg ht (fun h => kt ((iI_le hr.2.2.1 hr.2.2.2 hr.1 hr.2.1).mp h) H locs ls hP hD hS hl) (fun h => kf (by have h2 : ¬ b ≤ a := fun q => h ((iI_le hr.2.2.1 hr.2.2.2 hr.1 hr.2.1).mpr q); omega) H locs ls hP hD hS hl)
theorem g_if_ge (t n' : Nat) (C : gC p s m args meth c cc nL own Ts E A) {a off : Int} (hdg : decode cc pc = .ok (.ifCond .ge off, 3)) (ht : (pc : Int) + off = (t : Int)) (hp : pc + 3 = n') (hq : -2147483648 ≤ a ∧ a < 2147483648) (kt : 0 ≤ a → gJ p l e R s m args below meth c cells slots Q E A nL ws lv t st) (kf : a < 0 → gJ p l e R s m args below meth c cells slots Q E A nL ws lv n' st) : gJ p l e R s m args below meth c cells slots Q E A nL ws lv pc (.int (iI a) :: st) := by
  intro H locs ls hP hD hS hl
  subst hp
  have hr : -2147483648 ≤ a ∧ a < 2147483648 ∧ (-2147483648 : Int) ≤ 0 ∧ (0 : Int) < 2147483648 := by omega
  exact lv_if_ge C.1 C.2.1 hdg ht (fun h => kt ((iI_le hr.2.2.1 hr.2.2.2 hr.1 hr.2.1).mp h) H locs ls hP hD hS hl) (fun h => kf (by have h2 : ¬ 0 ≤ a := fun q => h ((iI_le hr.2.2.1 hr.2.2.2 hr.1 hr.2.1).mpr q); omega) H locs ls hP hD hS hl)
theorem g_icmp_gt (t n' : Nat) (C : gC p s m args meth c cc nL own Ts E A) {a b off : Int} (hdg : decode cc pc = .ok (.if_icmp .gt off, 3)) (ht : (pc : Int) + off = (t : Int)) (hp : pc + 3 = n') (hr : -2147483648 ≤ a ∧ a < 2147483648 ∧ -2147483648 ≤ b ∧ b < 2147483648) (kt : b < a → gJ p l e R s m args below meth c cells slots Q E A nL ws lv t st) (kf : a ≤ b → gJ p l e R s m args below meth c cells slots Q E A nL ws lv n' st) : gJ p l e R s m args below meth c cells slots Q E A nL ws lv pc (.int (iI b) :: .int (iI a) :: st) := by
  intro H locs ls hP hD hS hl
  subst hp
  exact lv_icmp_gt C.1 C.2.1 hdg ht (fun h => kt ((iI_lt hr.2.2.1 hr.2.2.2 hr.1 hr.2.1).mp h) H locs ls hP hD hS hl) (fun h => kf (by have h2 : ¬ b < a := fun q => h ((iI_lt hr.2.2.1 hr.2.2.2 hr.1 hr.2.1).mpr q); omega) H locs ls hP hD hS hl)
theorem g_if_gt (t n' : Nat) (C : gC p s m args meth c cc nL own Ts E A) {a off : Int} (hdg : decode cc pc = .ok (.ifCond .gt off, 3)) (ht : (pc : Int) + off = (t : Int)) (hp : pc + 3 = n') (hq : -2147483648 ≤ a ∧ a < 2147483648) (kt : 0 < a → gJ p l e R s m args below meth c cells slots Q E A nL ws lv t st) (kf : a ≤ 0 → gJ p l e R s m args below meth c cells slots Q E A nL ws lv n' st) : gJ p l e R s m args below meth c cells slots Q E A nL ws lv pc (.int (iI a) :: st) := by
  intro H locs ls hP hD hS hl
  subst hp
  have hr : -2147483648 ≤ a ∧ a < 2147483648 ∧ (-2147483648 : Int) ≤ 0 ∧ (0 : Int) < 2147483648 := by omega
  exact lv_if_gt C.1 C.2.1 hdg ht (fun h => kt ((iI_lt hr.2.2.1 hr.2.2.2 hr.1 hr.2.1).mp h) H locs ls hP hD hS hl) (fun h => kf (by have h2 : ¬ 0 < a := fun q => h ((iI_lt hr.2.2.1 hr.2.2.2 hr.1 hr.2.1).mpr q); omega) H locs ls hP hD hS hl)
theorem g_icmp_le (t n' : Nat) (C : gC p s m args meth c cc nL own Ts E A) {a b off : Int} (hdg : decode cc pc = .ok (.if_icmp .le off, 3)) (ht : (pc : Int) + off = (t : Int)) (hp : pc + 3 = n') (hr : -2147483648 ≤ a ∧ a < 2147483648 ∧ -2147483648 ≤ b ∧ b < 2147483648) (kt : a ≤ b → gJ p l e R s m args below meth c cells slots Q E A nL ws lv t st) (kf : b < a → gJ p l e R s m args below meth c cells slots Q E A nL ws lv n' st) : gJ p l e R s m args below meth c cells slots Q E A nL ws lv pc (.int (iI b) :: .int (iI a) :: st) := by
  intro H locs ls hP hD hS hl
  subst hp
  exact lv_icmp_le C.1 C.2.1 hdg ht (fun h => kt ((iI_le hr.1 hr.2.1 hr.2.2.1 hr.2.2.2).mp h) H locs ls hP hD hS hl) (fun h => kf (by have h2 : ¬ a ≤ b := fun q => h ((iI_le hr.1 hr.2.1 hr.2.2.1 hr.2.2.2).mpr q); omega) H locs ls hP hD hS hl)
theorem g_if_le (t n' : Nat) (C : gC p s m args meth c cc nL own Ts E A) {a off : Int} (hdg : decode cc pc = .ok (.ifCond .le off, 3)) (ht : (pc : Int) + off = (t : Int)) (hp : pc + 3 = n') (hq : -2147483648 ≤ a ∧ a < 2147483648) (kt : a ≤ 0 → gJ p l e R s m args below meth c cells slots Q E A nL ws lv t st) (kf : 0 < a → gJ p l e R s m args below meth c cells slots Q E A nL ws lv n' st) : gJ p l e R s m args below meth c cells slots Q E A nL ws lv pc (.int (iI a) :: st) := by
  intro H locs ls hP hD hS hl
  subst hp
  have hr : -2147483648 ≤ a ∧ a < 2147483648 ∧ (-2147483648 : Int) ≤ 0 ∧ (0 : Int) < 2147483648 := by omega
  exact lv_if_le C.1 C.2.1 hdg ht (fun h => kt ((iI_le hr.1 hr.2.1 hr.2.2.1 hr.2.2.2).mp h) H locs ls hP hD hS hl) (fun h => kf (by have h2 : ¬ a ≤ 0 := fun q => h ((iI_le hr.1 hr.2.1 hr.2.2.1 hr.2.2.2).mpr q); omega) H locs ls hP hD hS hl)
theorem g_icmp_lt (t n' : Nat) (C : gC p s m args meth c cc nL own Ts E A) {a b off : Int} (hdg : decode cc pc = .ok (.if_icmp .lt off, 3)) (ht : (pc : Int) + off = (t : Int)) (hp : pc + 3 = n') (hr : -2147483648 ≤ a ∧ a < 2147483648 ∧ -2147483648 ≤ b ∧ b < 2147483648) (kt : a < b → gJ p l e R s m args below meth c cells slots Q E A nL ws lv t st) (kf : b ≤ a → gJ p l e R s m args below meth c cells slots Q E A nL ws lv n' st) : gJ p l e R s m args below meth c cells slots Q E A nL ws lv pc (.int (iI b) :: .int (iI a) :: st) := by
  intro H locs ls hP hD hS hl
  subst hp
  exact lv_icmp_lt C.1 C.2.1 hdg ht (fun h => kt ((iI_lt hr.1 hr.2.1 hr.2.2.1 hr.2.2.2).mp h) H locs ls hP hD hS hl) (fun h => kf (by have h2 : ¬ a < b := fun q => h ((iI_lt hr.1 hr.2.1 hr.2.2.1 hr.2.2.2).mpr q); omega) H locs ls hP hD hS hl)
theorem g_if_lt (t n' : Nat) (C : gC p s m args meth c cc nL own Ts E A) {a off : Int} (hdg : decode cc pc = .ok (.ifCond .lt off, 3)) (ht : (pc : Int) + off = (t : Int)) (hp : pc + 3 = n') (hq : -2147483648 ≤ a ∧ a < 2147483648) (kt : a < 0 → gJ p l e R s m args below meth c cells slots Q E A nL ws lv t st) (kf : 0 ≤ a → gJ p l e R s m args below meth c cells slots Q E A nL ws lv n' st) : gJ p l e R s m args below meth c cells slots Q E A nL ws lv pc (.int (iI a) :: st) := by
  intro H locs ls hP hD hS hl
  subst hp
  have hr : -2147483648 ≤ a ∧ a < 2147483648 ∧ (-2147483648 : Int) ≤ 0 ∧ (0 : Int) < 2147483648 := by omega
  exact lv_if_lt C.1 C.2.1 hdg ht (fun h => kt ((iI_lt hr.1 hr.2.1 hr.2.2.1 hr.2.2.2).mp h) H locs ls hP hD hS hl) (fun h => kf (by have h2 : ¬ a < 0 := fun q => h ((iI_lt hr.1 hr.2.1 hr.2.2.1 hr.2.2.2).mpr q); omega) H locs ls hP hD hS hl)
theorem g_icmp_eq (t n' : Nat) (C : gC p s m args meth c cc nL own Ts E A) {a b off : Int} (hdg : decode cc pc = .ok (.if_icmp .eq off, 3)) (ht : (pc : Int) + off = (t : Int)) (hp : pc + 3 = n') (hr : -2147483648 ≤ a ∧ a < 2147483648 ∧ -2147483648 ≤ b ∧ b < 2147483648) (kt : a = b → gJ p l e R s m args below meth c cells slots Q E A nL ws lv t st) (kf : a ≠ b → gJ p l e R s m args below meth c cells slots Q E A nL ws lv n' st) : gJ p l e R s m args below meth c cells slots Q E A nL ws lv pc (.int (iI b) :: .int (iI a) :: st) := by
  intro H locs ls hP hD hS hl
  subst hp
  exact lv_icmp_eq C.1 C.2.1 hdg ht (fun h => kt ((iI_inj hr.1 hr.2.1 hr.2.2.1 hr.2.2.2).mp h) H locs ls hP hD hS hl) (fun h => kf (fun q => h ((iI_inj hr.1 hr.2.1 hr.2.2.1 hr.2.2.2).mpr q)) H locs ls hP hD hS hl)
theorem g_if_eq (t n' : Nat) (C : gC p s m args meth c cc nL own Ts E A) {a off : Int} (hdg : decode cc pc = .ok (.ifCond .eq off, 3)) (ht : (pc : Int) + off = (t : Int)) (hp : pc + 3 = n') (hq : -2147483648 ≤ a ∧ a < 2147483648) (kt : a = 0 → gJ p l e R s m args below meth c cells slots Q E A nL ws lv t st) (kf : a ≠ 0 → gJ p l e R s m args below meth c cells slots Q E A nL ws lv n' st) : gJ p l e R s m args below meth c cells slots Q E A nL ws lv pc (.int (iI a) :: st) := by
  intro H locs ls hP hD hS hl
  subst hp
  have hr : -2147483648 ≤ a ∧ a < 2147483648 ∧ (-2147483648 : Int) ≤ 0 ∧ (0 : Int) < 2147483648 := by omega
  exact lv_if_eq C.1 C.2.1 hdg ht (fun h => kt ((iI_inj hr.1 hr.2.1 hr.2.2.1 hr.2.2.2).mp h) H locs ls hP hD hS hl) (fun h => kf (fun q => h ((iI_inj hr.1 hr.2.1 hr.2.2.1 hr.2.2.2).mpr q)) H locs ls hP hD hS hl)
theorem g_icmp_ne (t n' : Nat) (C : gC p s m args meth c cc nL own Ts E A) {a b off : Int} (hdg : decode cc pc = .ok (.if_icmp .ne off, 3)) (ht : (pc : Int) + off = (t : Int)) (hp : pc + 3 = n') (hr : -2147483648 ≤ a ∧ a < 2147483648 ∧ -2147483648 ≤ b ∧ b < 2147483648) (kt : a ≠ b → gJ p l e R s m args below meth c cells slots Q E A nL ws lv t st) (kf : a = b → gJ p l e R s m args below meth c cells slots Q E A nL ws lv n' st) : gJ p l e R s m args below meth c cells slots Q E A nL ws lv pc (.int (iI b) :: .int (iI a) :: st) := by
  intro H locs ls hP hD hS hl
  subst hp
  exact lv_icmp_ne C.1 C.2.1 hdg ht (fun h => kt (fun q => h ((iI_inj hr.1 hr.2.1 hr.2.2.1 hr.2.2.2).mpr q)) H locs ls hP hD hS hl) (fun h => kf ((iI_inj hr.1 hr.2.1 hr.2.2.1 hr.2.2.2).mp h) H locs ls hP hD hS hl)
theorem g_if_ne (t n' : Nat) (C : gC p s m args meth c cc nL own Ts E A) {a off : Int} (hdg : decode cc pc = .ok (.ifCond .ne off, 3)) (ht : (pc : Int) + off = (t : Int)) (hp : pc + 3 = n') (hq : -2147483648 ≤ a ∧ a < 2147483648) (kt : a ≠ 0 → gJ p l e R s m args below meth c cells slots Q E A nL ws lv t st) (kf : a = 0 → gJ p l e R s m args below meth c cells slots Q E A nL ws lv n' st) : gJ p l e R s m args below meth c cells slots Q E A nL ws lv pc (.int (iI a) :: st) := by
  intro H locs ls hP hD hS hl
  subst hp
  have hr : -2147483648 ≤ a ∧ a < 2147483648 ∧ (-2147483648 : Int) ≤ 0 ∧ (0 : Int) < 2147483648 := by omega
  exact lv_if_ne C.1 C.2.1 hdg ht (fun h => kt (fun q => h ((iI_inj hr.1 hr.2.1 hr.2.2.1 hr.2.2.2).mpr q)) H locs ls hP hD hS hl) (fun h => kf ((iI_inj hr.1 hr.2.1 hr.2.2.1 hr.2.2.2).mp h) H locs ls hP hD hS hl)
theorem g_ifb_eq (t n' : Nat) (C : gC p s m args meth c cc nL own Ts E A) {P : Prop} {inst : Decidable P} {off : Int} (hdg : decode cc pc = .ok (.ifCond .eq off, 3)) (ht : (pc : Int) + off = (t : Int)) (hp : pc + 3 = n') (kt : ¬ P → gJ p l e R s m args below meth c cells slots Q E A nL ws lv t st) (kf : P → gJ p l e R s m args below meth c cells slots Q E A nL ws lv n' st) : gJ p l e R s m args below meth c cells slots Q E A nL ws lv pc (.int (iI (if P then 1 else 0)) :: st) := by
  by_cases h : P
  · rw [if_pos h]
    exact g_if_eq t n' C hdg ht hp ⟨by decide, by decide⟩ (fun q => absurd q (by decide)) (fun _ => kf h)
  · rw [if_neg h]
    exact g_if_eq t n' C hdg ht hp ⟨by decide, by decide⟩ (fun _ => kt h) (fun q => absurd rfl q)
theorem g_ifb_ne (t n' : Nat) (C : gC p s m args meth c cc nL own Ts E A) {P : Prop} {inst : Decidable P} {off : Int} (hdg : decode cc pc = .ok (.ifCond .ne off, 3)) (ht : (pc : Int) + off = (t : Int)) (hp : pc + 3 = n') (kt : P → gJ p l e R s m args below meth c cells slots Q E A nL ws lv t st) (kf : ¬ P → gJ p l e R s m args below meth c cells slots Q E A nL ws lv n' st) : gJ p l e R s m args below meth c cells slots Q E A nL ws lv pc (.int (iI (if P then 1 else 0)) :: st) := by
  by_cases h : P
  · rw [if_pos h]
    exact g_if_ne t n' C hdg ht hp ⟨by decide, by decide⟩ (fun _ => kt h) (fun q => absurd q (by decide))
  · rw [if_neg h]
    exact g_if_ne t n' C hdg ht hp ⟨by decide, by decide⟩ (fun q => absurd rfl q) (fun _ => kf h)
theorem g_cmpv {a b : Int} (hr : -9223372036854775808 ≤ a ∧ a < 9223372036854775808 ∧ -9223372036854775808 ≤ b ∧ b < 9223372036854775808) : lg_cmp (lI a) (lI b) = iI (if b < a then 1 else if a = b then 0 else -1) := by
  unfold lg_cmp
  by_cases h1 : b < a
  · rw [if_pos h1, if_pos ((lI_lt hr.2.2.1 hr.2.2.2 hr.1 hr.2.1).mpr h1)]; rfl
  · rw [if_neg h1, if_neg (fun q => h1 ((lI_lt hr.2.2.1 hr.2.2.2 hr.1 hr.2.1).mp q))]
    by_cases h2 : a = b
    · rw [if_pos h2, if_pos (by rw [h2])]; rfl
    · rw [if_neg h2, if_neg (fun q => h2 ((lI_inj hr.1 hr.2.1 hr.2.2.1 hr.2.2.2).mp q))]; rfl
theorem g_lcmp (n' : Nat) (C : gC p s m args meth c cc nL own Ts E A) {a b : Int} (hdg : decode cc pc = .ok (.lcmp, 1)) (hp : pc + 1 = n') (hr : -9223372036854775808 ≤ a ∧ a < 9223372036854775808 ∧ -9223372036854775808 ≤ b ∧ b < 9223372036854775808) (kk : ∀ z : Int, z = (if b < a then 1 else if a = b then 0 else -1) → gJ p l e R s m args below meth c cells slots Q E A nL ws lv n' (.int (iI z) :: st)) : gJ p l e R s m args below meth c cells slots Q E A nL ws lv pc (.long (lI b) :: .long (lI a) :: st) := by
  intro H locs ls hP hD hS hl
  subst hp
  exact W.lcmp C.1 C.2.1 hdg (by rw [g_cmpv hr]; exact kk _ rfl H locs ls hP hD hS hl)
/-- lcmp and the branch behind it -/
theorem g_lc_ge (n1 t n' : Nat) (C : gC p s m args meth c cc nL own Ts E A) {a b off : Int} (hdg0 : decode cc pc = .ok (.lcmp, 1)) (hp0 : pc + 1 = n1) (hdg : decode cc n1 = .ok (.ifCond .ge off, 3)) (ht : (n1 : Int) + off = (t : Int)) (hp : n1 + 3 = n') (hr : -9223372036854775808 ≤ a ∧ a < 9223372036854775808 ∧ -9223372036854775808 ≤ b ∧ b < 9223372036854775808) (kt : b ≤ a → gJ p l e R s m args below meth c cells slots Q E A nL ws lv t st) (kf : a < b → gJ p l e R s m args below meth c cells slots Q E A nL ws lv n' st) : gJ p l e R s m args below meth c cells slots Q E A nL ws lv pc (.long (lI b) :: .long (lI a) :: st) := by
  refine g_lcmp n1 C hdg0 hp0 hr (fun z hz => ?_)
  have hz2 : (b < a ∧ z = 1) ∨ (a = b ∧ z = 0) ∨ (a < b ∧ z = -1) := by
    by_cases h1 : b < a
    · rw [if_pos h1] at hz; exact Or.inl ⟨h1, hz⟩
    · rw [if_neg h1] at hz
      by_cases h2 : a = b
      · rw [if_pos h2] at hz; exact Or.inr (Or.inl ⟨h2, hz⟩)
      · rw [if_neg h2] at hz; exact Or.inr (Or.inr ⟨by omega, hz⟩)
  exact g_if_ge t n' C hdg ht hp (by omega) (fun h => kt (by omega)) (fun h => kf (by omega))
/-- lcmp and the branch behind it -/
theorem g_lc_gt (n1 t n' : Nat) (C : gC p s m args meth c cc nL own Ts E A) {a b off : Int} (hdg0 : decode cc pc = .ok (.lcmp, 1)) (hp0 : pc + 1 = n1) (hdg : decode cc n1 = .ok (.ifCond .gt off, 3)) (ht : (n1 : Int) + off = (t : Int)) (hp : n1 + 3 = n') (hr : -9223372036854775808 ≤ a ∧ a < 9223372036854775808 ∧ -9223372036854775808 ≤ b ∧ b < 9223372036854775808) (kt : b < a → gJ p l e R s m args below meth c cells slots Q E A nL ws lv t st) (kf : a ≤ b → gJ p l e R s m args below meth c cells slots Q E A nL ws lv n' st) : gJ p l e R s m args below meth c cells slots Q E A nL ws lv pc (.long (lI b) :: .long (lI a) :: st) := by
  refine g_lcmp n1 C hdg0 hp0 hr (fun z hz => ?_)
  have hz2 : (b < a ∧ z = 1) ∨ (a = b ∧ z = 0) ∨ (a < b ∧ z = -1) := by
    by_cases h1 : b < a
    · rw [if_pos h1] at hz; exact Or.inl ⟨h1, hz⟩
    · rw [if_neg h1] at hz
      by_cases h2 : a = b
      · rw [if_pos h2] at hz; exact Or.inr (Or.inl ⟨h2, hz⟩)
      · rw [if_neg h2] at hz; exact Or.inr (Or.inr ⟨by omega, hz⟩)
  exact g_if_gt t n' C hdg ht hp (by omega) (fun h => kt (by omega)) (fun h => kf (by omega))
/-- lcmp and the branch behind it -/
theorem g_lc_le (n1 t n' : Nat) (C : gC p s m args meth c cc nL own Ts E A) {a b off : Int} (hdg0 : decode cc pc = .ok (.lcmp, 1)) (hp0 : pc + 1 = n1) (hdg : decode cc n1 = .ok (.ifCond .le off, 3)) (ht : (n1 : Int) + off = (t : Int)) (hp : n1 + 3 = n') (hr : -9223372036854775808 ≤ a ∧ a < 9223372036854775808 ∧ -9223372036854775808 ≤ b ∧ b < 9223372036854775808) (kt : a ≤ b → gJ p l e R s m args below meth c cells slots Q E A nL ws lv t st) (kf : b < a → gJ p l e R s m args below meth c cells slots Q E A nL ws lv n' st) : gJ p l e R s m args below meth c cells slots Q E A nL ws lv pc (.long (lI b) :: .long (lI a) :: st) := by
  refine g_lcmp n1 C hdg0 hp0 hr (fun z hz => ?_)
  have hz2 : (b < a ∧ z = 1) ∨ (a = b ∧ z = 0) ∨ (a < b ∧ z = -1) := by
    by_cases h1 : b < a
    · rw [if_pos h1] at hz; exact Or.inl ⟨h1, hz⟩
    · rw [if_neg h1] at hz
      by_cases h2 : a = b
      · rw [if_pos h2] at hz; exact Or.inr (Or.inl ⟨h2, hz⟩)
      · rw [if_neg h2] at hz; exact Or.inr (Or.inr ⟨by omega, hz⟩)
  exact g_if_le t n' C hdg ht hp (by omega) (fun h => kt (by omega)) (fun h => kf (by omega))
/-- lcmp and the branch behind it -/
theorem g_lc_lt (n1 t n' : Nat) (C : gC p s m args meth c cc nL own Ts E A) {a b off : Int} (hdg0 : decode cc pc = .ok (.lcmp, 1)) (hp0 : pc + 1 = n1) (hdg : decode cc n1 = .ok (.ifCond .lt off, 3)) (ht : (n1 : Int) + off = (t : Int)) (hp : n1 + 3 = n') (hr : -9223372036854775808 ≤ a ∧ a < 9223372036854775808 ∧ -9223372036854775808 ≤ b ∧ b < 9223372036854775808) (kt : a < b → gJ p l e R s m args below meth c cells slots Q E A nL ws lv t st) (kf : b ≤ a → gJ p l e R s m args below meth c cells slots Q E A nL ws lv n' st) : gJ p l e R s m args below meth c cells slots Q E A nL ws lv pc (.long (lI b) :: .long (lI a) :: st) := by
  refine g_lcmp n1 C hdg0 hp0 hr (fun z hz => ?_)
  have hz2 : (b < a ∧ z = 1) ∨ (a = b ∧ z = 0) ∨ (a < b ∧ z = -1) := by
    by_cases h1 : b < a
    · rw [if_pos h1] at hz; exact Or.inl ⟨h1, hz⟩
    · rw [if_neg h1] at hz
      by_cases h2 : a = b
      · rw [if_pos h2] at hz; exact Or.inr (Or.inl ⟨h2, hz⟩)
      · rw [if_neg h2] at hz; exact Or.inr (Or.inr ⟨by omega, hz⟩)
  exact g_if_lt t n' C hdg ht hp (by omega) (fun h => kt (by omega)) (fun h => kf (by omega))
/-- lcmp and the branch behind it -/
theorem g_lc_eq (n1 t n' : Nat) (C : gC p s m args meth c cc nL own Ts E A) {a b off : Int} (hdg0 : decode cc pc = .ok (.lcmp, 1)) (hp0 : pc + 1 = n1) (hdg : decode cc n1 = .ok (.ifCond .eq off, 3)) (ht : (n1 : Int) + off = (t : Int)) (hp : n1 + 3 = n') (hr : -9223372036854775808 ≤ a ∧ a < 9223372036854775808 ∧ -9223372036854775808 ≤ b ∧ b < 9223372036854775808) (kt : a = b → gJ p l e R s m args below meth c cells slots Q E A nL ws lv t st) (kf : a ≠ b → gJ p l e R s m args below meth c cells slots Q E A nL ws lv n' st) : gJ p l e R s m args below meth c cells slots Q E A nL ws lv pc (.long (lI b) :: .long (lI a) :: st) := by
  refine g_lcmp n1 C hdg0 hp0 hr (fun z hz => ?_)
  have hz2 : (b < a ∧ z = 1) ∨ (a = b ∧ z = 0) ∨ (a < b ∧ z = -1) := by
    by_cases h1 : b < a
    · rw [if_pos h1] at hz; exact Or.inl ⟨h1, hz⟩
    · rw [if_neg h1] at hz
      by_cases h2 : a = b
      · rw [if_pos h2] at hz; exact Or.inr (Or.inl ⟨h2, hz⟩)
      · rw [if_neg h2] at hz; exact Or.inr (Or.inr ⟨by omega, hz⟩)
  exact g_if_eq t n' C hdg ht hp (by omega) (fun h => kt (by omega)) (fun h => kf (by omega))
/-- lcmp and the branch behind it -/
theorem g_lc_ne (n1 t n' : Nat) (C : gC p s m args meth c cc nL own Ts E A) {a b off : Int} (hdg0 : decode cc pc = .ok (.lcmp, 1)) (hp0 : pc + 1 = n1) (hdg : decode cc n1 = .ok (.ifCond .ne off, 3)) (ht : (n1 : Int) + off = (t : Int)) (hp : n1 + 3 = n') (hr : -9223372036854775808 ≤ a ∧ a < 9223372036854775808 ∧ -9223372036854775808 ≤ b ∧ b < 9223372036854775808) (kt : a ≠ b → gJ p l e R s m args below meth c cells slots Q E A nL ws lv t st) (kf : a = b → gJ p l e R s m args below meth c cells slots Q E A nL ws lv n' st) : gJ p l e R s m args below meth c cells slots Q E A nL ws lv pc (.long (lI b) :: .long (lI a) :: st) := by
  refine g_lcmp n1 C hdg0 hp0 hr (fun z hz => ?_)
  have hz2 : (b < a ∧ z = 1) ∨ (a = b ∧ z = 0) ∨ (a < b ∧ z = -1) := by
    by_cases h1 : b < a
    · rw [if_pos h1] at hz; exact Or.inl ⟨h1, hz⟩
    · rw [if_neg h1] at hz
      by_cases h2 : a = b
      · rw [if_pos h2] at hz; exact Or.inr (Or.inl ⟨h2, hz⟩)
      · rw [if_neg h2] at hz; exact Or.inr (Or.inr ⟨by omega, hz⟩)
  exact g_if_ne t n' C hdg ht hp (by omega) (fun h => kt (by omega)) (fun h => kf (by omega))
-- fields
theorem g_get (n' : Nat) (C : gC p s m args meth c cc nL own Ts E A) (q k ci : Nat) {Cn : String} {T : u_T} {N index : Nat} {a : Nat} {fs : List Value} {v : Value} (hin : ∀ w ∈ u_ws Cn T N, w ∈ Ts) (hm : Cond.fieldLink own index (T k).1 (T k).2.1 (T k).2.2.1 ∈ Ts) (hdg : decode cc pc = .ok (.getfield index, 3)) (hp : pc + 3 = n') (he : ws[q]? = some (a, .inr (ci, fs))) (hc : vwCl[ci]? = some (Cn, T, N)) (hk : k < N) (hv : fs[k]? = some v) (kk : gJ p l e R s m args below meth c cells slots Q E A nL ws lv n' (v :: st)) : gJ p l e R s m args below meth c cells slots Q E A nL ws lv pc (.ref a :: st) := by
  intro H locs ls hP hD hS hl
  subst hp
  exact va_get C.1 C.2.1 C.2.2.2.2.1 hin C.2.2.2.1 C.2.2.2.2.2.1.1 hP q he hc k hk (C.2.2.2.2.1 _ hm) (fun _ h => h) hv hdg (kk H locs ls hP hD hS hl)
theorem g_put (n' : Nat) (C : gC p s m args meth c cc nL own Ts E A) (q k ci : Nat) {Cn : String} {T : u_T} {N index : Nat} {a : Nat} {fs : List Value} {v : Value} {ws' : va_W} (ty0 : Nat → FieldType) (hty : ∀ k, k < N → parseFieldDescriptor (T k).2.2.1 = some (ty0 k)) (hnm : ∀ a, a < N → ∀ b, b < N → a ≠ b → (T a).2.1 ≠ (T b).2.1) (hin : ∀ w ∈ u_ws Cn T N, w ∈ Ts) (hm : Cond.fieldLink own index (T k).1 (T k).2.1 (T k).2.2.1 ∈ Ts) (hdg : decode cc pc = .ok (.putfield index, 3)) (hp : pc + 3 = n') (he : ws[q]? = some (a, .inr (ci, fs))) (hc : vwCl[ci]? = some (Cn, T, N)) (hk : k < N) (hfin : (T k).2.2.2 = false) (hnr : narrow (ty0 k) v = v) (hfit : fits (ty0 k) v = true) (hl0 : k < fs.length) (hw : ws.set q (a, .inr (ci, fs.set k v)) = ws') (kk : gJ p l e R s m args below meth c cells slots Q E A nL ws' lv n' st) : gJ p l e R s m args below meth c cells slots Q E A nL ws lv pc (v :: .ref a :: st) := by
  intro H locs ls hP hD hS hl
  subst hp
  subst hw
  exact va_put C.1 C.2.1 C.2.2.2.2.1 hin ty0 hty hnm C.2.2.2.1 C.2.2.2.2.2.1.1 hP hD hS q he hc k hk (C.2.2.2.2.1 _ hm) (fun _ h => h) hfin (hty k hk) hnr hfit hl0 hdg (fun H1 locs1 hP hD hS => kk H1 locs1 ls hP hD hS hl)
theorem g_putF (n' : Nat) (C : gC p s m args meth c cc nL own Ts E A) (q k ci : Nat) {Cn : String} {T : u_T} {N index : Nat} {a : Nat} {fs : List Value} {v : Value} {ws' : va_W} (ty0 : Nat → FieldType) (hty : ∀ k, k < N → parseFieldDescriptor (T k).2.2.1 = some (ty0 k)) (hnm : ∀ a, a < N → ∀ b, b < N → a ≠ b → (T a).2.1 ≠ (T b).2.1) (hin : ∀ w ∈ u_ws Cn T N, w ∈ Ts) (hm : Cond.fieldLink own index (T k).1 (T k).2.1 (T k).2.2.1 ∈ Ts) (hnin : meth.name = "<init>") (hdecl : (T k).1 = own) (hdg : decode cc pc = .ok (.putfield index, 3)) (hp : pc + 3 = n') (he : ws[q]? = some (a, .inr (ci, fs))) (hc : vwCl[ci]? = some (Cn, T, N)) (hk : k < N) (hfin : (T k).2.2.2 = true) (hnr : narrow (ty0 k) v = v) (hfit : fits (ty0 k) v = true) (hl0 : k < fs.length) (hw : ws.set q (a, .inr (ci, fs.set k v)) = ws') (kk : gJ p l e R s m args below meth c cells slots Q E A nL ws' lv n' st) : gJ p l e R s m args below meth c cells slots Q E A nL ws lv pc (v :: .ref a :: st) := by
  intro H locs ls hP hD hS hl
  subst hp
  subst hw
  exact va_putF C.1 C.2.1 C.2.2.2.2.1 hin ty0 hty hnm C.2.2.2.1 C.2.2.2.2.2.1.1 hP hD hS q he hc k hk (C.2.2.2.2.1 _ hm) (fun _ h => h) hfin hnin hdecl (hty k hk) hnr hfit hl0 hdg (fun H1 locs1 hP hD hS => kk H1 locs1 ls hP hD hS hl)
-- rows
theorem g_rd {z : Int} (h0 : 0 ≤ z) (h1 : z < 2147483648) : (((iI z).toNatClampNeg : Nat) : Int) = z := by
  rw [iI_clamp h0 h1, Int.toNat_of_nonneg h0]
theorem g_wr (f : Int → Int) {z v : Int} (h0 : 0 ≤ z) (h1 : z < 2147483648) : upd (fun k : Nat => iI (f (k : Int))) (iI z).toNatClampNeg (iI v) = fun k : Nat => iI (uI f z v (k : Int)) := by
  funext k
  rw [iI_clamp h0 h1]
  unfold upd uI
  by_cases h : k = z.toNat
  · rw [if_pos h, if_pos (by omega)]
  · rw [if_neg h, if_neg (by omega)]
theorem g_iaload (n' : Nat) (C : gC p s m args meth c cc nL own Ts E A) (q : Nat) {a n : Nat} {f : Int → Int} {z : Int} (hdg : decode cc pc = .ok (.iaload, 1)) (hp : pc + 1 = n') (he : ws[q]? = some (a, aI E n f)) (hz : 0 ≤ z ∧ z < n ∧ n < 2147483648) (kk : gJ p l e R s m args below meth c cells slots Q E A nL ws lv n' (.int (iI (f z)) :: st)) : gJ p l e R s m args below meth c cells slots Q E A nL ws lv pc (.int (iI z) :: .ref a :: st) := by
  intro H locs ls hP hD hS hl
  subst hp
  exact va_iald C.1 C.2.1 C.2.2.2.2.2.1.1 hP q 0 he rfl (iI_in hz.1 hz.2.1 hz.2.2) hdg (by rw [g_rd hz.1 (by omega)]; exact kk H locs ls hP hD hS hl)
theorem g_baload (n' : Nat) (C : gC p s m args meth c cc nL own Ts E A) (q : Nat) {a n : Nat} {f : Int → Int} {z : Int} (hdg : decode cc pc = .ok (.baload, 1)) (hp : pc + 1 = n') (he : ws[q]? = some (a, aZ E n f)) (hz : 0 ≤ z ∧ z < n ∧ n < 2147483648) (kk : gJ p l e R s m args below meth c cells slots Q E A nL ws lv n' (.int (iI (f z)) :: st)) : gJ p l e R s m args below meth c cells slots Q E A nL ws lv pc (.int (iI z) :: .ref a :: st) := by
  intro H locs ls hP hD hS hl
  subst hp
  exact va_zald C.1 C.2.1 C.2.2.2.2.2.1.1 hP q 1 he rfl (iI_in hz.1 hz.2.1 hz.2.2) hdg (by rw [g_rd hz.1 (by omega)]; exact kk H locs ls hP hD hS hl)
theorem g_iastore (n' : Nat) (C : gC p s m args meth c cc nL own Ts E A) (q : Nat) {a n : Nat} {f : Int → Int} {z v : Int} {ws' : va_W} (hdg : decode cc pc = .ok (.iastore, 1)) (hp : pc + 1 = n') (he : ws[q]? = some (a, aI E n f)) (hz : 0 ≤ z ∧ z < n ∧ n < 2147483648) (hw : ws.set q (a, aI E n (uI f z v)) = ws') (kk : gJ p l e R s m args below meth c cells slots Q E A nL ws' lv n' st) : gJ p l e R s m args below meth c cells slots Q E A nL ws lv pc (.int (iI v) :: .int (iI z) :: .ref a :: st) := by
  intro H locs ls hP hD hS hl
  subst hp
  subst hw
  refine va_iast C.1 C.2.1 C.2.2.2.2.2.1.1 hP hD hS q 0 he rfl (iI_in hz.1 hz.2.1 hz.2.2) hdg (fun H1 locs1 hP hD hS => ?_)
  rw [g_wr f hz.1 (by omega)] at hP hD
  exact kk H1 locs1 ls hP hD hS hl
theorem g_bastore (n' : Nat) (C : gC p s m args meth c cc nL own Ts E A) (q : Nat) {a n : Nat} {f : Int → Int} {z v : Int} {ws' : va_W} (hdg : decode cc pc = .ok (.bastore, 1)) (hp : pc + 1 = n') (he : ws[q]? = some (a, aZ E n f)) (hz : 0 ≤ z ∧ z < n ∧ n < 2147483648) (hv : vp_nar .boolean (iI v) = iI v) (hw : ws.set q (a, aZ E n (uI f z v)) = ws') (kk : gJ p l e R s m args below meth c cells slots Q E A nL ws' lv n' st) : gJ p l e R s m args below meth c cells slots Q E A nL ws lv pc (.int (iI v) :: .int (iI z) :: .ref a :: st) := by
  intro H locs ls hP hD hS hl
  subst hp
  subst hw
  refine va_zast C.1 C.2.1 C.2.2.2.2.2.1.1 hP hD hS q 1 he rfl (iI_in hz.1 hz.2.1 hz.2.2) hdg (fun H1 locs1 hP hD hS => ?_)
  rw [hv, g_wr f hz.1 (by omega)] at hP hD
  exact kk H1 locs1 ls hP hD hS hl
theorem g_alenI (n' : Nat) (C : gC p s m args meth c cc nL own Ts E A) (q : Nat) {a n : Nat} {f : Int → Int} (hdg : decode cc pc = .ok (.arraylength, 1)) (hp : pc + 1 = n') (he : ws[q]? = some (a, aI E n f)) (kk : gJ p l e R s m args below meth c cells slots Q E A nL ws lv n' (.int (iI n) :: st)) : gJ p l e R s m args below meth c cells slots Q E A nL ws lv pc (.ref a :: st) := by
  intro H locs ls hP hD hS hl
  subst hp
  exact va_alen C.1 C.2.1 C.2.2.2.2.2.1.1 hP q 0 he (ty := .int) rfl (v := iI n) rfl hdg (kk H locs ls hP hD hS hl)
theorem g_alenZ (n' : Nat) (C : gC p s m args meth c cc nL own Ts E A) (q : Nat) {a n : Nat} {f : Int → Int} (hdg : decode cc pc = .ok (.arraylength, 1)) (hp : pc + 1 = n') (he : ws[q]? = some (a, aZ E n f)) (kk : gJ p l e R s m args below meth c cells slots Q E A nL ws lv n' (.int (iI n) :: st)) : gJ p l e R s m args below meth c cells slots Q E A nL ws lv pc (.ref a :: st) := by
  intro H locs ls hP hD hS hl
  subst hp
  exact va_alen C.1 C.2.1 C.2.2.2.2.2.1.1 hP q 1 he (ty := .boolean) rfl (v := iI n) rfl hdg (kk H locs ls hP hD hS hl)
theorem g_alenQ (n' : Nat) (C : gC p s m args meth c cc nL own Ts E A) (q : Nat) {a n : Nat} {f : Int → Option Nat} (hdg : decode cc pc = .ok (.arraylength, 1)) (hp : pc + 1 = n') (he : ws[q]? = some (a, aQ E n f)) (kk : gJ p l e R s m args below meth c cells slots Q E A nL ws lv n' (.int (iI n) :: st)) : gJ p l e R s m args below meth c cells slots Q E A nL ws lv pc (.ref a :: st) := by
  intro H locs ls hP hD hS hl
  subst hp
  exact va_alen C.1 C.2.1 C.2.2.2.2.2.1.1 hP q 2 he (ty := .object RX4) rfl (v := iI n) rfl hdg (kk H locs ls hP hD hS hl)
theorem g_aaload (n' : Nat) (C : gC p s m args meth c cc nL own Ts E A) (q : Nat) {a n b : Nat} {f : Int → Option Nat} {z : Int} (hdg : decode cc pc = .ok (.aaload, 1)) (hp : pc + 1 = n') (he : ws[q]? = some (a, aQ E n f)) (hz : 0 ≤ z ∧ z < n ∧ n < 2147483648) (hb : f z = some b) (kk : gJ p l e R s m args below meth c cells slots Q E A nL ws lv n' (.ref b :: st)) : gJ p l e R s m args below meth c cells slots Q E A nL ws lv pc (.int (iI z) :: .ref a :: st) := by
  intro H locs ls hP hD hS hl
  subst hp
  refine va_aldq C.1 C.2.1 C.2.2.2.2.2.1.1 hP q 2 he rfl (iI_in hz.1 hz.2.1 hz.2.2) hdg ?_
  rw [g_rd hz.1 (by omega), hb]
  exact kk H locs ls hP hD hS hl
end GL
