section GL
variable {p : Program} {l : Launch} {e : Env} {R : Room} {s : State} {m : MethodId} {args : Array Value} {below : List Frame} {meth : Method} {c : Code} {cells slots : Nat} {Q : State → Prop} {E : gE} {A : Nat → Prop} {nL : Nat} {ws : va_W} {lv : List (Nat × Value)} {pc : Nat} {st : List Value} {cc : ByteArray} {own : String} {Ts : List Cond}
theorem g_mmax (n' : Nat) (C : gC p s m args meth c cc nL own Ts E A) (z : Int) {index : Nat} {a b : Int} (hdg : decode cc pc = .ok (.invokestatic index, 3)) (hp : pc + 3 = n') (hm : ∀ w ∈ ([Cond.methodLink own index Lib.Math.max.name, Cond.static Lib.Math.max.name, Cond.initialized "java/lang/Math", Cond.code Lib.Math.max.name Lib.Math.max.code 2 (some .int)] : List Cond), w ∈ Ts) (hcat : (st.map fun v => v.category).sum + 13 ≤ R.locals) (hfr : 1 ≤ R.frames) (hc : cells ≤ R.cells) (hs : slots ≤ R.slots) (hr : -2147483648 ≤ a ∧ a < 2147483648 ∧ -2147483648 ≤ b ∧ b < 2147483648) (hz : z = if a < b then b else a) (kk : gJ p l e R s m args below meth c cells slots Q E A nL ws lv n' (.int (iI z) :: st)) : gJ p l e R s m args below meth c cells slots Q E A nL ws lv pc (.int (iI b) :: .int (iI a) :: st) := by
  intro H locs ls hP hD hS hl
  subst hp
  have ht := C.2.2.2.2.1
  refine va_mmax C.1 C.2.1 (C.2.2.1.trans hl.1.symm) C.2.2.2.1 (ht _ (hm _ (by simp))) (ht _ (hm _ (by simp))) (ht _ (hm _ (by simp))) (ht _ (hm _ (by simp))) hfr hcat hc hs hdg ?_
  have e1 : (if iI a < iI b then iI b else iI a) = iI z := by
    rw [hz]
    by_cases h : a < b
    · rw [if_pos h, if_pos ((iI_lt hr.1 hr.2.1 hr.2.2.1 hr.2.2.2).mpr h)]
    · rw [if_neg h, if_neg (fun q => h ((iI_lt hr.1 hr.2.1 hr.2.2.1 hr.2.2.2).mp q))]
  rw [e1]
  exact kk H locs ls hP hD hS hl
theorem g_mmin (n' : Nat) (C : gC p s m args meth c cc nL own Ts E A) (z : Int) {index : Nat} {a b : Int} (hdg : decode cc pc = .ok (.invokestatic index, 3)) (hp : pc + 3 = n') (hm : ∀ w ∈ ([Cond.methodLink own index Lib.Math.min.name, Cond.static Lib.Math.min.name, Cond.initialized "java/lang/Math", Cond.code Lib.Math.min.name Lib.Math.min.code 2 (some .int)] : List Cond), w ∈ Ts) (hcat : (st.map fun v => v.category).sum + 13 ≤ R.locals) (hfr : 1 ≤ R.frames) (hc : cells ≤ R.cells) (hs : slots ≤ R.slots) (hr : -2147483648 ≤ a ∧ a < 2147483648 ∧ -2147483648 ≤ b ∧ b < 2147483648) (hz : z = if b < a then b else a) (kk : gJ p l e R s m args below meth c cells slots Q E A nL ws lv n' (.int (iI z) :: st)) : gJ p l e R s m args below meth c cells slots Q E A nL ws lv pc (.int (iI b) :: .int (iI a) :: st) := by
  intro H locs ls hP hD hS hl
  subst hp
  have ht := C.2.2.2.2.1
  refine va_mmin C.1 C.2.1 (C.2.2.1.trans hl.1.symm) C.2.2.2.1 (ht _ (hm _ (by simp))) (ht _ (hm _ (by simp))) (ht _ (hm _ (by simp))) (ht _ (hm _ (by simp))) hfr hcat hc hs hdg ?_
  have e1 : (if iI b < iI a then iI b else iI a) = iI z := by
    rw [hz]
    by_cases h : b < a
    · rw [if_pos h, if_pos ((iI_lt hr.2.2.1 hr.2.2.2 hr.1 hr.2.1).mpr h)]
    · rw [if_neg h, if_neg (fun q => h ((iI_lt hr.2.2.1 hr.2.2.2 hr.1 hr.2.1).mp q))]
  rw [e1]
  exact kk H locs ls hP hD hS hl
def cpI (f g : Int → Int) (i j n : Int) : Int → Int := fun k => if j ≤ k ∧ k < j + n then f (i + (k - j)) else g k
theorem cpI_e (f g : Int → Int) {i j n : Int} (hi : 0 ≤ i ∧ i < 2147483648) (hj : 0 ≤ j ∧ j < 2147483648) (hn : 0 ≤ n ∧ n < 2147483648) : va_cpy (fun k : Nat => iI (f (k : Int))) (fun k : Nat => iI (g (k : Int))) (iI i).toNatClampNeg (iI j).toNatClampNeg (iI n).toNatClampNeg = fun k : Nat => iI (cpI f g i j n (k : Int)) := by
  funext k
  rw [iI_clamp hi.1 hi.2, iI_clamp hj.1 hj.2, iI_clamp hn.1 hn.2]
  unfold va_cpy cpI
  by_cases h : j ≤ (k : Int) ∧ (k : Int) < j + n
  · rw [if_pos h, if_pos (by omega)]
    show iI (f ((i.toNat + (k - j.toNat) : Nat) : Int)) = _
    rw [show ((i.toNat + (k - j.toNat) : Nat) : Int) = i + ((k : Int) - j) by omega]
  · rw [if_neg h, if_neg (by omega)]
theorem g_copy (n' : Nat) (C : gC p s m args meth c cc nL own Ts E A) (q0 q1 : Nat) {index a0 a1 n0 n1 : Nat} {f g : Int → Int} {i j n : Int} {ws' : va_W} (hdg : decode cc pc = .ok (.invokestatic index, 3)) (hp : pc + 3 = n') (hm : ∀ w ∈ ([Cond.methodLink own index arraycopyName, Cond.native arraycopyName, Cond.static arraycopyName, Cond.initialized "java/lang/System"] : List Cond), w ∈ Ts) (he0 : ws[q0]? = some (a0, aI E n0 f)) (he1 : ws[q1]? = some (a1, aI E n1 g)) (hi : 0 ≤ i ∧ i + n ≤ n0) (hj : 0 ≤ j ∧ j + n ≤ n1) (hn : 0 ≤ n) (hb : n0 < 2147483648 ∧ n1 < 2147483648) (hfr : 1 ≤ R.frames) (hcat : (st.map fun v => v.category).sum + (nativeFrameWords "java/lang/System" "arraycopy" 5 + 11) ≤ R.locals) (hw : ws.set q1 (a1, aI E n1 (cpI f g i j n)) = ws') (kk : gJ p l e R s m args below meth c cells slots Q E A nL ws' lv n' st) : gJ p l e R s m args below meth c cells slots Q E A nL ws lv pc (.int (iI n) :: .int (iI j) :: .ref a1 :: .int (iI i) :: .ref a0 :: st) := by
  intro H locs ls hP hD hS hl
  subst hp
  subst hw
  have ht := C.2.2.2.2.1
  have ei := iI_clamp (z := i) (by omega) (by omega)
  have ej := iI_clamp (z := j) (by omega) (by omega)
  have en := iI_clamp (z := n) (by omega) (by omega)
  have neg : ∀ z : Int, 0 ≤ z → z < 2147483648 → ¬ iI z < 0 := fun z h1 h2 q => by
    rw [← iI_0, iI_lt (by omega) (by omega) (by omega) (by omega)] at q; omega
  refine va_copyi C.1 C.2.1 (C.2.2.1.trans hl.1.symm) C.2.2.2.1 (ht _ (hm _ (by simp))) (ht _ (hm _ (by simp))) (ht _ (hm _ (by simp))) (ht _ (hm _ (by simp))) C.2.2.2.2.2.1.1 hP hD hS q0 q1 0 0 he0 he1 (ty := .int) rfl rfl rfl (neg i (by omega) (by omega)) (neg j (by omega) (by omega)) (neg n (by omega) (by omega)) (by rw [ei, en]; omega) (by rw [ej, en]; omega) (fun k _ => rfl) hfr hcat hdg (fun H1 locs1 hP hD hS => ?_)
  rw [cpI_e f g (by omega) (by omega) (by omega)] at hP hD
  exact kk H1 locs1 ls hP hD hS hl
-- making cells
theorem g_objInit (n' : Nat) (C : gC p s m args meth c cc nL own Ts E A) {idx a : Nat} (hdg : decode cc pc = .ok (.invokespecial idx, 3)) (hp : pc + 3 = n') (hm : ∀ w ∈ ([Cond.methodLink own idx Lib.objectInit, Cond.instanceMethod Lib.objectInit, Cond.code Lib.objectInit ⟨#[0xb1]⟩ 1 none] : List Cond), w ∈ Ts) (hfr : 1 ≤ R.frames) (hlo : (st.map fun v => v.category).sum + 12 ≤ R.locals) (kk : gJ p l e R s m args below meth c cells slots Q E A nL ws lv n' st) : gJ p l e R s m args below meth c cells slots Q E A nL ws lv pc (.ref a :: st) := by
  intro H locs ls hP hD hS hl
  subst hp
  have ht := C.2.2.2.2.1
  have e : (F0 m pc ls (.ref a :: st)).monitorRoom = 0 := rfl
  exact W.objInit C.1 C.2.1 C.2.2.2.1 (ht _ (hm _ (by simp))) (ht _ (hm _ (by simp))) (ht _ (hm _ (by simp))) rfl (hl.1.trans C.2.2.1.symm) rfl hdg hfr (by rw [e]; omega) (kk H locs ls hP hD hS hl)
theorem g_new (n' : Nat) (C : gC p s m args meth c cc nL own Ts E A) (ci : Nat) {Cn : String} {T : u_T} {N index : Nat} (fs : List Value) (ty : Nat → FieldType) (hty : ∀ k, k < N → parseFieldDescriptor (T k).2.2.1 = some (ty k)) (hin : ∀ w ∈ u_ws Cn T N, w ∈ Ts) (hm : ∀ w ∈ ([Cond.classLink own index Cn, Cond.instantiable Cn N, Cond.initialized Cn] : List Cond), w ∈ Ts) (hdg : decode cc pc = .ok (.new index, 3)) (hp : pc + 3 = n') (hc : vwCl[ci]? = some (Cn, T, N)) (hfs : ∀ j, j < N → defaultValue (ty j) = vp_V fs j) (hcells : cells + 1 ≤ R.cells) (hslots : slots + N ≤ R.slots)
    (kk : ∀ a : Nat, gJ p l e R s m args below meth c (cells + 1) (slots + N) Q E A nL (ws ++ [(a, .inr (ci, fs))]) lv n' (.ref a :: st)) : gJ p l e R s m args below meth c cells slots Q E A nL ws lv pc st := by
  intro H locs ls hP hD hS hl
  subst hp
  have ht := C.2.2.2.2.1
  exact va_new C.1 C.2.1 ht hin ty hty C.2.2.2.1 (ht _ (hm _ (by simp))) (ht _ (hm _ (by simp))) (ht _ (hm _ (by simp))) C.2.2.2.2.2.1.1 hP hD hS C.2.2.2.2.2.2.1 hc hfs hcells hslots hdg (fun a H1 hP hD hS => kk a H1 locs ls hP hD hS hl)
theorem g_RAu {U : State} {c1 c2 : ClassId} {ty : FieldType} (h1 : va_RA U c1 ty) (h2 : va_RA U c2 ty) : c1 = c2 := by
  cases ty with
  | object C =>
    obtain ⟨k1, m1, a1, a2, a3, a4⟩ := h1
    obtain ⟨k2, m2, b1, b2, b3, b4⟩ := h2
    exact Option.some.inj (a4.symm.trans b4)
  | _ =>
    have a : U.vm.findClass _ = some c1 := h1
    have b : U.vm.findClass _ = some c2 := h2
    exact Option.some.inj (a.symm.trans b)
theorem g_newI (n' : Nat) (C : gC p s m args meth c cc nL own Ts E A) (N : Nat) (hm : Cond.arrayClass .int ∈ Ts) (hdg : decode cc pc = .ok (.newarray .int, 2)) (hp : pc + 2 = n') (hN : N < 100000) (hcells : cells + 1 ≤ R.cells) (hslots : slots + N ≤ R.slots)
    (kk : ∀ a : Nat, gJ p l e R s m args below meth c (cells + 1) (slots + N) Q E A nL (ws ++ [(a, aI E N (fun _ => 0))]) lv n' (.ref a :: st)) : gJ p l e R s m args below meth c cells slots Q E A nL ws lv pc (.int (iI N) :: st) := by
  intro H locs ls hP hD hS hl
  subst hp
  have ht := C.2.2.2.2.1
  refine va_newa (atype := .int) C.1 C.2.1 (ht _ hm) rfl C.2.2.2.2.2.1.1 hP hD hS C.2.2.2.2.2.2.1 (a0 := (N, .inl (fun _ => 0))) (fun cA => rfl) (fun q => by rw [← iI_0, iI_lt (by omega) (by omega) (by omega) (by omega)] at q; omega) (iI_nat N (by omega)) (by show N * 4 ≤ 536870912; omega) hcells hslots hdg (fun a cA H1 hK hP hD hS => ?_)
  have e := g_RAu ((hK.2 0 (E.2.1, .int) rfl).2) ((hK.2 3 (cA, .int) rfl).2)
  subst e
  exact kk a H1 locs ls hP hD hS hl
theorem g_newZ (n' : Nat) (C : gC p s m args meth c cc nL own Ts E A) (N : Nat) (hm : Cond.arrayClass .boolean ∈ Ts) (hdg : decode cc pc = .ok (.newarray .boolean, 2)) (hp : pc + 2 = n') (hN : N < 100000) (hcells : cells + 1 ≤ R.cells) (hslots : slots + N ≤ R.slots)
    (kk : ∀ a : Nat, gJ p l e R s m args below meth c (cells + 1) (slots + N) Q E A nL (ws ++ [(a, aZ E N (fun _ => 0))]) lv n' (.ref a :: st)) : gJ p l e R s m args below meth c cells slots Q E A nL ws lv pc (.int (iI N) :: st) := by
  intro H locs ls hP hD hS hl
  subst hp
  have ht := C.2.2.2.2.1
  refine va_newa (atype := .boolean) C.1 C.2.1 (ht _ hm) rfl C.2.2.2.2.2.1.1 hP hD hS C.2.2.2.2.2.2.1 (a0 := (N, .inl (fun _ => 0))) (fun cA => rfl) (fun q => by rw [← iI_0, iI_lt (by omega) (by omega) (by omega) (by omega)] at q; omega) (iI_nat N (by omega)) (by show N * 1 ≤ 536870912; omega) hcells hslots hdg (fun a cA H1 hK hP hD hS => ?_)
  have e := g_RAu ((hK.2 1 (E.2.2.1, .boolean) rfl).2) ((hK.2 3 (cA, .boolean) rfl).2)
  subst e
  exact kk a H1 locs ls hP hD hS hl
theorem g_newQ (n' : Nat) (C : gC p s m args meth c cc nL own Ts E A) (N : Nat) {index : Nat} (hm : Cond.classLink own index RX4 ∈ Ts) (hdg : decode cc pc = .ok (.anewarray index, 3)) (hp : pc + 3 = n') (hN : N < 100000) (hcells : cells + 1 ≤ R.cells) (hslots : slots + N ≤ R.slots)
    (kk : ∀ a : Nat, gJ p l e R s m args below meth c (cells + 1) (slots + N) Q E A nL (ws ++ [(a, aQ E N (fun _ => none))]) lv n' (.ref a :: st)) : gJ p l e R s m args below meth c cells slots Q E A nL ws lv pc (.int (iI N) :: st) := by
  intro H locs ls hP hD hS hl
  subst hp
  have ht := C.2.2.2.2.1
  refine va_newq C.1 C.2.1 C.2.2.2.1 (ht _ hm) C.2.2.2.2.2.1.2 C.2.2.2.2.2.1.1 hP hD hS C.2.2.2.2.2.2.1 (fun q => by rw [← iI_0, iI_lt (by omega) (by omega) (by omega) (by omega)] at q; omega) (iI_nat N (by omega)) (by omega) hcells hslots hdg (fun a cA H1 hK hP hD hS => ?_)
  have e := g_RAu ((hK.2 2 (E.2.2.2, .object RX4) rfl).2) ((hK.2 3 (cA, .object RX4) rfl).2)
  subst e
  exact kk a H1 locs ls hP hD hS hl
theorem g_aastore (n' : Nat) (C : gC p s m args meth c cc nL own Ts E A) (q qk : Nat) {a n v : Nat} {fs : List Value} {f : Int → Option Nat} {z : Int} {ws' : va_W} (hdg : decode cc pc = .ok (.aastore, 1)) (hp : pc + 1 = n') (he : ws[q]? = some (a, aQ E n f)) (hv : ws[qk]? = some (v, .inr (4, fs))) (hz : 0 ≤ z ∧ z < n ∧ n < 2147483648) (hw : ws.set q (a, aQ E n (uQ f z (some v))) = ws') (kk : gJ p l e R s m args below meth c cells slots Q E A nL ws' lv n' st) : gJ p l e R s m args below meth c cells slots Q E A nL ws lv pc (.ref v :: .int (iI z) :: .ref a :: st) := by
  intro H locs ls hP hD hS hl
  subst hp
  subst hw
  refine va_astq C.1 C.2.1 C.2.2.2.2.2.1.1 hP hD hS q 2 qk 4 (r := (RX4, TX4, 4)) he rfl hv rfl (iI_in hz.1 hz.2.1 hz.2.2) hdg (fun H1 locs1 hP hD hS => ?_)
  have e : va_up (fun k : Nat => f (k : Int)) (iI z).toNatClampNeg (some v) = fun k : Nat => uQ f z (some v) (k : Int) := by
    funext k
    rw [iI_clamp hz.1 (by omega)]
    unfold va_up uQ
    by_cases h : k = z.toNat
    · rw [if_pos h, if_pos (by omega)]
    · rw [if_neg h, if_neg (by omega)]
  rw [e] at hP hD
  exact kk H1 locs1 ls hP hD hS hl
end GL
