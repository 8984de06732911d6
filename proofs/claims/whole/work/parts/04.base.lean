-- encodings of Bool, Option Nat and Nat in ints, and arrays of them
def bI (b : Bool) : Int32 := if b then 1 else 0
def oI (o : Option Nat) : Int32 := match o with
  | none => -1
  | some i => nI i
def nF (g : Nat → Nat) : Nat → Int32 := fun j => nI (g j)
def bF (g : Nat → Bool) : Nat → Int32 := fun j => bI (g j)
def oF (g : Nat → Option Nat) : Nat → Int32 := fun j => oI (g j)
/-- one bit of a long -/
def bt (i : Nat) : Int64 := (1 : Int64) <<< ((nI i).toInt64 &&& 63)
theorem bI_0 {b : Bool} : bI b = 0 ↔ b = false := by cases b <;> decide
theorem bI_n0 {b : Bool} : ¬ bI b = 0 ↔ b = true := by cases b <;> decide
theorem bI_nar (b : Bool) : narrow .boolean (.int (bI b)) = .int (bI b) := by cases b <;> rfl
theorem bI_vnar (b : Bool) : vp_nar .boolean (bI b) = bI b := by cases b <;> rfl
theorem bI_fit (b : Bool) : fits .boolean (.int (bI b)) = true := by cases b <;> rfl
theorem oI_m1 {o : Option Nat} (h : ∀ i, o = some i → i < 2 ^ 31) : oI o = -1 ↔ o = none := by
  cases o with
  | none => simp [oI]
  | some i =>
    have hi := h i rfl
    constructor
    · intro q
      have q2 : (nI i).toInt = (-1 : Int32).toInt := by rw [show nI i = -1 from q]
      rw [nI_toInt hi] at q2
      have q3 : ((-1 : Int32)).toInt = -1 := by decide
      rw [q3] at q2
      omega
    · intro q; cases q
theorem oI_neg {o : Option Nat} (h : ∀ i, o = some i → i < 2 ^ 31) : oI o < 0 ↔ o = none := by
  cases o with
  | none => simp only [oI, iff_true]; decide
  | some i =>
    constructor
    · intro q; exact absurd q (nI_pos (h i rfl))
    · intro q; cases q
theorem nF_up (g : Nat → Nat) (k v : Nat) : upd (nF g) k (nI v) = nF (va_up g k v) := by
  funext j
  by_cases h : j = k <;> simp [upd, nF, va_up, h]
theorem bF_up (g : Nat → Bool) (k : Nat) (v : Bool) : upd (bF g) k (bI v) = bF (va_up g k v) := by
  funext j
  by_cases h : j = k <;> simp [upd, bF, va_up, h]
theorem oF_up (g : Nat → Option Nat) (k : Nat) (v : Option Nat) : upd (oF g) k (oI v) = oF (va_up g k v) := by
  funext j
  by_cases h : j = k <;> simp [upd, oF, va_up, h]
theorem iF_up (g : Nat → Int32) (k : Nat) (v : Int32) : upd g k v = va_up g k v := rfl
theorem lF_up (g : Nat → Int64) (k : Nat) (v : Int64) : vp_updL g k v = va_up g k v := rfl
theorem nI_inc1 (n : Nat) : nI n + Int32.ofInt 1 = nI (n + 1) := (nI_succ n).symm
theorem lc_0 {x y : Int64} : lg_cmp x y = 0 ↔ x = y := lg_cmp_eq x y
section WX
variable {p : Program} {l : Launch} {e : Env} {R : Room} {s : State} {m : MethodId} {args : Array Value} {below : List Frame} {meth : Method} {c : Code} {H : Heap} {locs : List Loc} {cells slots : Nat} {Q : State → Prop}
variable {cc : ByteArray} {pc : Nat} {ls : Array Slot} {rest : List Value} {D : va_G} {cl : List vw_C} {tys : List (ClassId × FieldType)} {ws : va_W} {A : Nat → Prop} {H0 : Heap} {a : Nat}
theorem tp_i {x y : Int32} (h : x = y) (k : W p l e R s m args below meth c H locs cells slots Q (F0 m pc ls (.int y :: rest))) : W p l e R s m args below meth c H locs cells slots Q (F0 m pc ls (.int x :: rest)) := h ▸ k
theorem tp_l {x y : Int64} (h : x = y) (k : W p l e R s m args below meth c H locs cells slots Q (F0 m pc ls (.long y :: rest))) : W p l e R s m args below meth c H locs cells slots Q (F0 m pc ls (.long x :: rest)) := h ▸ k
theorem tp_v {x y : Value} (h : x = y) (k : W p l e R s m args below meth c H locs cells slots Q (F0 m pc ls (y :: rest))) : W p l e R s m args below meth c H locs cells slots Q (F0 m pc ls (x :: rest)) := h ▸ k
/-- a loop, by a measure that falls -/
theorem wl_ {σ : Type} (head : Nat) (μ : σ → Nat) (J : σ → Heap → List Loc → Array Slot → Prop)
    (hs : ∀ (x : σ) (H : Heap) (locs : List Loc) (ls : Array Slot), J x H locs ls → (∀ (y : σ) (H' : Heap) (locs' : List Loc) (ls' : Array Slot), μ y < μ x → J y H' locs' ls' → W p l e R s m args below meth c H' locs' cells slots Q (F0 m head ls' [])) → W p l e R s m args below meth c H locs cells slots Q (F0 m head ls []))
    (x : σ) (H : Heap) (locs : List Loc) (ls : Array Slot) (h : J x H locs ls) : W p l e R s m args below meth c H locs cells slots Q (F0 m head ls []) := by
  have key : ∀ (n : Nat) (x : σ) (H : Heap) (locs : List Loc) (ls : Array Slot), μ x < n → J x H locs ls → W p l e R s m args below meth c H locs cells slots Q (F0 m head ls []) := by
    intro n
    induction n with
    | zero => intro x H locs ls h; exact absurd h (Nat.not_lt_zero _)
    | succ n ih => intro x H locs ls hm hJ; exact hs x H locs ls hJ (fun y H' locs' ls' hy hJ' => ih y H' locs' ls' (by omega) hJ')
  exact key (μ x + 1) x H locs ls (Nat.lt_succ_self _) h
/-- reading a place of an array of numbers, of options, of raw ints, of booleans, of longs -/
theorem wa_nld (hexec : p.tables.exec = Jvm.exec) (hb : c.code = cc) (hK : va_K D cl tys s) (hP : va_P D cl ws H) (q0 t0 : Nat) {cA : ClassId} {n : Nat} {g : Nat → Nat} (ha : ws[q0]? = some (a, .inl (cA, n, .inl (nF g)))) (ht : tys[t0]? = some (cA, .int)) {k : Nat} (hk : k < n) (hn : n < 2 ^ 31) (hdg : decode cc pc = .ok (.iaload, 1))
    (kk : W p l e R s m args below meth c H locs cells slots Q (F0 m (pc + 1) ls (.int (nI (g k)) :: rest))) : W p l e R s m args below meth c H locs cells slots Q (F0 m pc ls (.int (nI k) :: .ref a :: rest)) := by
  refine va_iald hexec hb hK hP q0 t0 ha ht (vp_in_nI hk hn) hdg ?_
  rw [nI_clamp (by omega)]
  exact kk
theorem wa_old (hexec : p.tables.exec = Jvm.exec) (hb : c.code = cc) (hK : va_K D cl tys s) (hP : va_P D cl ws H) (q0 t0 : Nat) {cA : ClassId} {n : Nat} {g : Nat → Option Nat} (ha : ws[q0]? = some (a, .inl (cA, n, .inl (oF g)))) (ht : tys[t0]? = some (cA, .int)) {k : Nat} (hk : k < n) (hn : n < 2 ^ 31) (hdg : decode cc pc = .ok (.iaload, 1))
    (kk : W p l e R s m args below meth c H locs cells slots Q (F0 m (pc + 1) ls (.int (oI (g k)) :: rest))) : W p l e R s m args below meth c H locs cells slots Q (F0 m pc ls (.int (nI k) :: .ref a :: rest)) := by
  refine va_iald hexec hb hK hP q0 t0 ha ht (vp_in_nI hk hn) hdg ?_
  rw [nI_clamp (by omega)]
  exact kk
theorem wa_ild (hexec : p.tables.exec = Jvm.exec) (hb : c.code = cc) (hK : va_K D cl tys s) (hP : va_P D cl ws H) (q0 t0 : Nat) {cA : ClassId} {n : Nat} {g : Nat → Int32} (ha : ws[q0]? = some (a, .inl (cA, n, .inl g))) (ht : tys[t0]? = some (cA, .int)) {k : Nat} (hk : k < n) (hn : n < 2 ^ 31) (hdg : decode cc pc = .ok (.iaload, 1))
    (kk : W p l e R s m args below meth c H locs cells slots Q (F0 m (pc + 1) ls (.int (g k) :: rest))) : W p l e R s m args below meth c H locs cells slots Q (F0 m pc ls (.int (nI k) :: .ref a :: rest)) := by
  refine va_iald hexec hb hK hP q0 t0 ha ht (vp_in_nI hk hn) hdg ?_
  rw [nI_clamp (by omega)]
  exact kk
theorem wa_bld (hexec : p.tables.exec = Jvm.exec) (hb : c.code = cc) (hK : va_K D cl tys s) (hP : va_P D cl ws H) (q0 t0 : Nat) {cA : ClassId} {n : Nat} {g : Nat → Bool} (ha : ws[q0]? = some (a, .inl (cA, n, .inl (bF g)))) (ht : tys[t0]? = some (cA, .boolean)) {k : Nat} (hk : k < n) (hn : n < 2 ^ 31) (hdg : decode cc pc = .ok (.baload, 1))
    (kk : W p l e R s m args below meth c H locs cells slots Q (F0 m (pc + 1) ls (.int (bI (g k)) :: rest))) : W p l e R s m args below meth c H locs cells slots Q (F0 m pc ls (.int (nI k) :: .ref a :: rest)) := by
  refine va_zald hexec hb hK hP q0 t0 ha ht (vp_in_nI hk hn) hdg ?_
  rw [nI_clamp (by omega)]
  exact kk
theorem wa_lld (hexec : p.tables.exec = Jvm.exec) (hb : c.code = cc) (hK : va_K D cl tys s) (hP : va_P D cl ws H) (q0 t0 : Nat) {cA : ClassId} {n : Nat} {g : Nat → Int64} (ha : ws[q0]? = some (a, .inl (cA, n, .inr (.inl g)))) (ht : tys[t0]? = some (cA, .long)) {k : Nat} (hk : k < n) (hn : n < 2 ^ 31) (hdg : decode cc pc = .ok (.laload, 1))
    (kk : W p l e R s m args below meth c H locs cells slots Q (F0 m (pc + 1) ls (.long (g k) :: rest))) : W p l e R s m args below meth c H locs cells slots Q (F0 m pc ls (.int (nI k) :: .ref a :: rest)) := by
  refine va_lald hexec hb hK hP q0 t0 ha ht (vp_in_nI hk hn) hdg ?_
  rw [nI_clamp (by omega)]
  exact kk
/-- writing -/
theorem wa_nst (hexec : p.tables.exec = Jvm.exec) (hb : c.code = cc) (hK : va_K D cl tys s) (hP : va_P D cl ws H) (hD : va_D A ws) (hS : va_S A H0 H locs) (q0 t0 : Nat) {cA : ClassId} {n : Nat} {g : Nat → Nat} (ha : ws[q0]? = some (a, .inl (cA, n, .inl (nF g)))) (ht : tys[t0]? = some (cA, .int)) {k x : Nat} (hk : k < n) (hn : n < 2 ^ 31) (hdg : decode cc pc = .ok (.iastore, 1))
    (kk : ∀ (H1 : Heap) (locs1 : List Loc), va_P D cl (ws.set q0 (a, .inl (cA, n, .inl (nF (va_up g k x))))) H1 → va_D A (ws.set q0 (a, .inl (cA, n, .inl (nF (va_up g k x))))) → va_S A H0 H1 locs1 → W p l e R s m args below meth c H1 locs1 cells slots Q (F0 m (pc + 1) ls rest)) : W p l e R s m args below meth c H locs cells slots Q (F0 m pc ls (.int (nI x) :: .int (nI k) :: .ref a :: rest)) := by
  refine va_iast hexec hb hK hP hD hS q0 t0 ha ht (vp_in_nI hk hn) hdg (fun H1 locs1 h1 h2 h3 => ?_)
  rw [nI_clamp (by omega), nF_up] at h1 h2
  exact kk H1 locs1 h1 h2 h3
theorem wa_ost (hexec : p.tables.exec = Jvm.exec) (hb : c.code = cc) (hK : va_K D cl tys s) (hP : va_P D cl ws H) (hD : va_D A ws) (hS : va_S A H0 H locs) (q0 t0 : Nat) {cA : ClassId} {n : Nat} {g : Nat → Option Nat} (ha : ws[q0]? = some (a, .inl (cA, n, .inl (oF g)))) (ht : tys[t0]? = some (cA, .int)) {k : Nat} {x : Option Nat} (hk : k < n) (hn : n < 2 ^ 31) (hdg : decode cc pc = .ok (.iastore, 1))
    (kk : ∀ (H1 : Heap) (locs1 : List Loc), va_P D cl (ws.set q0 (a, .inl (cA, n, .inl (oF (va_up g k x))))) H1 → va_D A (ws.set q0 (a, .inl (cA, n, .inl (oF (va_up g k x))))) → va_S A H0 H1 locs1 → W p l e R s m args below meth c H1 locs1 cells slots Q (F0 m (pc + 1) ls rest)) : W p l e R s m args below meth c H locs cells slots Q (F0 m pc ls (.int (oI x) :: .int (nI k) :: .ref a :: rest)) := by
  refine va_iast hexec hb hK hP hD hS q0 t0 ha ht (vp_in_nI hk hn) hdg (fun H1 locs1 h1 h2 h3 => ?_)
  rw [nI_clamp (by omega), oF_up] at h1 h2
  exact kk H1 locs1 h1 h2 h3
theorem wa_ist (hexec : p.tables.exec = Jvm.exec) (hb : c.code = cc) (hK : va_K D cl tys s) (hP : va_P D cl ws H) (hD : va_D A ws) (hS : va_S A H0 H locs) (q0 t0 : Nat) {cA : ClassId} {n : Nat} {g : Nat → Int32} (ha : ws[q0]? = some (a, .inl (cA, n, .inl g))) (ht : tys[t0]? = some (cA, .int)) {k : Nat} {x : Int32} (hk : k < n) (hn : n < 2 ^ 31) (hdg : decode cc pc = .ok (.iastore, 1))
    (kk : ∀ (H1 : Heap) (locs1 : List Loc), va_P D cl (ws.set q0 (a, .inl (cA, n, .inl (va_up g k x)))) H1 → va_D A (ws.set q0 (a, .inl (cA, n, .inl (va_up g k x)))) → va_S A H0 H1 locs1 → W p l e R s m args below meth c H1 locs1 cells slots Q (F0 m (pc + 1) ls rest)) : W p l e R s m args below meth c H locs cells slots Q (F0 m pc ls (.int x :: .int (nI k) :: .ref a :: rest)) := by
  refine va_iast hexec hb hK hP hD hS q0 t0 ha ht (vp_in_nI hk hn) hdg (fun H1 locs1 h1 h2 h3 => ?_)
  rw [nI_clamp (by omega), iF_up] at h1 h2
  exact kk H1 locs1 h1 h2 h3
theorem wa_bst (hexec : p.tables.exec = Jvm.exec) (hb : c.code = cc) (hK : va_K D cl tys s) (hP : va_P D cl ws H) (hD : va_D A ws) (hS : va_S A H0 H locs) (q0 t0 : Nat) {cA : ClassId} {n : Nat} {g : Nat → Bool} (ha : ws[q0]? = some (a, .inl (cA, n, .inl (bF g)))) (ht : tys[t0]? = some (cA, .boolean)) {k : Nat} {x : Bool} (hk : k < n) (hn : n < 2 ^ 31) (hdg : decode cc pc = .ok (.bastore, 1))
    (kk : ∀ (H1 : Heap) (locs1 : List Loc), va_P D cl (ws.set q0 (a, .inl (cA, n, .inl (bF (va_up g k x))))) H1 → va_D A (ws.set q0 (a, .inl (cA, n, .inl (bF (va_up g k x))))) → va_S A H0 H1 locs1 → W p l e R s m args below meth c H1 locs1 cells slots Q (F0 m (pc + 1) ls rest)) : W p l e R s m args below meth c H locs cells slots Q (F0 m pc ls (.int (bI x) :: .int (nI k) :: .ref a :: rest)) := by
  refine va_zast hexec hb hK hP hD hS q0 t0 ha ht (vp_in_nI hk hn) hdg (fun H1 locs1 h1 h2 h3 => ?_)
  rw [nI_clamp (by omega), bI_vnar, bF_up] at h1 h2
  exact kk H1 locs1 h1 h2 h3
theorem wa_lst (hexec : p.tables.exec = Jvm.exec) (hb : c.code = cc) (hK : va_K D cl tys s) (hP : va_P D cl ws H) (hD : va_D A ws) (hS : va_S A H0 H locs) (q0 t0 : Nat) {cA : ClassId} {n : Nat} {g : Nat → Int64} (ha : ws[q0]? = some (a, .inl (cA, n, .inr (.inl g)))) (ht : tys[t0]? = some (cA, .long)) {k : Nat} {x : Int64} (hk : k < n) (hn : n < 2 ^ 31) (hdg : decode cc pc = .ok (.lastore, 1))
    (kk : ∀ (H1 : Heap) (locs1 : List Loc), va_P D cl (ws.set q0 (a, .inl (cA, n, .inr (.inl (va_up g k x))))) H1 → va_D A (ws.set q0 (a, .inl (cA, n, .inr (.inl (va_up g k x))))) → va_S A H0 H1 locs1 → W p l e R s m args below meth c H1 locs1 cells slots Q (F0 m (pc + 1) ls rest)) : W p l e R s m args below meth c H locs cells slots Q (F0 m pc ls (.long x :: .int (nI k) :: .ref a :: rest)) := by
  refine va_last hexec hb hK hP hD hS q0 t0 ha ht (vp_in_nI hk hn) hdg (fun H1 locs1 h1 h2 h3 => ?_)
  rw [nI_clamp (by omega), lF_up] at h1 h2
  exact kk H1 locs1 h1 h2 h3
/-- roads that meet at a place -/
theorem ct_ {g : JFrame} (to : Nat) (J : Heap → List Loc → Array Slot → Prop)
    (h1 : ∀ (H : Heap) (locs : List Loc) (ls : Array Slot), J H locs ls → W p l e R s m args below meth c H locs cells slots Q (F0 m to ls []))
    (h2 : (∀ (H : Heap) (locs : List Loc) (ls : Array Slot), J H locs ls → W p l e R s m args below meth c H locs cells slots Q (F0 m to ls [])) → W p l e R s m args below meth c H locs cells slots Q g) : W p l e R s m args below meth c H locs cells slots Q g := h2 h1
/-- reading a place of an array of references -/
theorem wa_ald (hexec : p.tables.exec = Jvm.exec) (hb : c.code = cc) (hK : va_K D cl tys s) (hP : va_P D cl ws H) (q0 t0 : Nat) {cA : ClassId} {C : String} {n : Nat} {f : Nat → Option Nat} (ha : ws[q0]? = some (a, .inl (cA, n, .inr (.inr (.inr (.inr f)))))) (ht : tys[t0]? = some (cA, .object C)) {k : Nat} (hk : k < n) (hn : n < 2 ^ 31) {v : Nat} (hv : f k = some v) (hdg : decode cc pc = .ok (.aaload, 1))
    (kk : W p l e R s m args below meth c H locs cells slots Q (F0 m (pc + 1) ls (.ref v :: rest))) : W p l e R s m args below meth c H locs cells slots Q (F0 m pc ls (.int (nI k) :: .ref a :: rest)) := by
  refine va_aldq hexec hb hK hP q0 t0 ha ht (vp_in_nI hk hn) hdg ?_
  rw [nI_clamp (by omega), hv]
  exact kk
end WX
-- contracts: the words of a method are its own code and the tables' words that keep
def wsT (y : MethodName) (c : ByteArray) (n : Nat) (r : Option FieldType) : List Cond := .code y c n r :: gtbl
abbrev TYS (cI cJ cZ cP : ClassId) : List (ClassId × FieldType) := [(cI, .int), (cJ, .long), (cZ, .boolean), (cP, .object cn_P)]
def cw_pre (D : va_G) (tys : List (ClassId × FieldType)) (ws : va_W) (sz : Nat) (U : State) : Prop := U.heap.size = sz ∧ va_P D clsL ws U.heap ∧ va_K D clsL tys U ∧ va_D (fun _ => True) ws
def cw_post (D : va_G) (tys : List (ClassId × FieldType)) (A : Nat → Prop) (ws : va_W) (t : State) : Prop := va_P D clsL ws t.heap ∧ va_K D clsL tys t ∧ va_D A ws
def mt_V (l : Launch) (y : MethodName) (c : ByteArray) (n : Nat) (rt : Option FieldType) (rm : Room) (D : va_G) (tys : List (ClassId × FieldType)) (sz : Nat) (av : List Value) (ws ws' : va_W) (mc ms : Nat) : Prop :=
  Met l y (wsT y c n rt) rm (va_Pc av (cw_pre D tys ws sz)) (va_Qv (fun _ : Unit => True) (fun _ => cw_post D tys (va_A ws sz) ws') (va_A ws sz)) mc ms (va_A ws sz)
def mt_I (l : Launch) (y : MethodName) (c : ByteArray) (n : Nat) (rt : Option FieldType) (rm : Room) (D : va_G) (tys : List (ClassId × FieldType)) (sz : Nat) (av : List Value) (ws ws' : va_W) (res : Int32) (mc ms : Nat) : Prop :=
  Met l y (wsT y c n rt) rm (va_Pc av (cw_pre D tys ws sz)) (va_Qi (fun (r : Int32) (_ : Unit) => r = res) (fun _ => cw_post D tys (va_A ws sz) ws') (va_A ws sz)) mc ms (va_A ws sz)
def mt_J (l : Launch) (y : MethodName) (c : ByteArray) (n : Nat) (rt : Option FieldType) (rm : Room) (D : va_G) (tys : List (ClassId × FieldType)) (sz : Nat) (av : List Value) (ws ws' : va_W) (res : Int64) (mc ms : Nat) : Prop :=
  Met l y (wsT y c n rt) rm (va_Pc av (cw_pre D tys ws sz)) (va_Ql (fun (r : Int64) (_ : Unit) => r = res) (fun _ => cw_post D tys (va_A ws sz) ws') (va_A ws sz)) mc ms (va_A ws sz)
def mt_Vx (l : Launch) (y : MethodName) (c : ByteArray) (n : Nat) (rt : Option FieldType) (rm : Room) (D : va_G) (tys : List (ClassId × FieldType)) (sz : Nat) (av : List Value) (ws : va_W) (ws' : (Nat → Bool) → va_W) (mc ms : Nat) : Prop :=
  Met l y (wsT y c n rt) rm (va_Pc av (cw_pre D tys ws sz)) (va_Qv (fun _ : Nat → Bool => True) (fun u => cw_post D tys (va_A ws sz) (ws' u)) (va_A ws sz)) mc ms (va_A ws sz)
def mt_Ix (l : Launch) (y : MethodName) (c : ByteArray) (n : Nat) (rt : Option FieldType) (rm : Room) (D : va_G) (tys : List (ClassId × FieldType)) (sz : Nat) (av : List Value) (ws : va_W) (ws' : (Nat → Bool) → va_W) (res : Int32) (mc ms : Nat) : Prop :=
  Met l y (wsT y c n rt) rm (va_Pc av (cw_pre D tys ws sz)) (va_Qi (fun (r : Int32) (_ : Nat → Bool) => r = res) (fun u => cw_post D tys (va_A ws sz) (ws' u)) (va_A ws sz)) mc ms (va_A ws sz)
theorem gw_good {w : Cond} (h : w ∈ gtbl) : (w.onTables && w.keeps) = true ∨ ∃ ty, w = .arrayClass ty := good_of_word (List.mem_filter.mp h).2
theorem gw_T {y : MethodName} {c : ByteArray} {n : Nat} {r : Option FieldType} (h : (.code y c n r : Cond) ∈ gtbl) : GoodIn gtbl (wsT y c n r) := by
  intro w hw
  have h2 : w ∈ gtbl := by
    rcases List.mem_cons.mp hw with rfl | h2
    · exact h
    · exact h2
  exact ⟨h2, gw_good h2⟩
theorem gw_V {own C : String} {idx n : Nat} {y : MethodName} {c : ByteArray} {r : Option FieldType} (h1 : (.methodLink own idx y : Cond) ∈ gtbl) (h2 : (.instanceMethod y : Cond) ∈ gtbl) (h3 : (.selects C y y : Cond) ∈ gtbl) (h4 : (.initialized C : Cond) ∈ gtbl) (h5 : (.code y c n r : Cond) ∈ gtbl) : GoodIn gtbl (wsV own idx C y (wsT y c n r)) := by
  intro w hw
  have h6 : w ∈ gtbl := by
    unfold wsV at hw
    rcases List.mem_append.mp hw with hw | hw
    · simp only [List.mem_cons, List.not_mem_nil, or_false] at hw
      rcases hw with rfl | rfl | rfl | rfl <;> assumption
    · exact (gw_T h5 w hw).1
  exact ⟨h6, gw_good h6⟩
theorem gw_S {own : String} {idx n : Nat} {y : MethodName} {c : ByteArray} {r : Option FieldType} (h1 : (.methodLink own idx y : Cond) ∈ gtbl) (h2 : (.static y : Cond) ∈ gtbl) (h4 : (.initialized y.cls : Cond) ∈ gtbl) (h5 : (.code y c n r : Cond) ∈ gtbl) : GoodIn gtbl (va_wsS own idx y (wsT y c n r)) := by
  intro w hw
  have h6 : w ∈ gtbl := by
    unfold va_wsS at hw
    rcases List.mem_append.mp hw with hw | hw
    · simp only [List.mem_cons, List.not_mem_nil, or_false] at hw
      rcases hw with rfl | rfl | rfl <;> assumption
    · exact (gw_T h5 w hw).1
  exact ⟨h6, gw_good h6⟩
section PRE
variable {s : State} {H : Heap} {D : va_G} {tys : List (ClassId × FieldType)} {ws wc : va_W} {A : Nat → Prop} {C : String} {b : Nat} {As av : List Value}
theorem pr_S (hP : va_P D clsL ws H) (hK : va_K D clsL tys s) (hD : va_D A ws) (is : List Nat) (hn : va_nd is = true) (h1 : is.filterMap (fun i => ws[i]?) = wc) (h2 : is.map (fun i => ws[i]?) = wc.map some) : PreS s H (va_Pc av (cw_pre D tys wc H.size)) av := by
  refine ⟨?_, ?_⟩
  · intro a U g mk q
    obtain ⟨q0, q1, qP, qK, qD⟩ := q
    exact ⟨q0, q1, qP, va_K.moved (u := U) (U := U.calling g mk a) (Vm.Alike.refl U.vm) qK, qD⟩
  · intro U hU hW
    exact ⟨rfl, by rw [hU], by rw [hU]; exact hP.sub is h1, va_K.moved hW.alike hK, (hD.sub is hn h2).weaken (fun _ _ _ _ => trivial)⟩
theorem pr_V (hP : va_P D clsL ws H) (hK : va_K D clsL tys s) (hD : va_D A ws) (hr : ∃ cell : Cell, H[b]? = some cell ∧ cell.vm.isStatics = false ∧ s.vm.findClass C = some cell.cls) (is : List Nat) (hn : va_nd is = true) (h1 : is.filterMap (fun i => ws[i]?) = wc) (h2 : is.map (fun i => ws[i]?) = wc.map some) : PreV s H C b (va_Pc (.ref b :: As) (cw_pre D tys wc H.size)) As :=
  ⟨(pr_S (av := .ref b :: As) hP hK hD is hn h1 h2).1, hr, (pr_S (av := .ref b :: As) hP hK hD is hn h1 h2).2⟩
end PRE
section CALLS
variable {p : Program} {l : Launch} {e : Env} {R : Room} {s : State} {m : MethodId} {args : Array Value} {below : List Frame} {meth : Method} {c : Code} {H : Heap} {locs : List Loc} {cells slots : Nat} {Q : State → Prop}
variable {pc : Nat} {ls : Array Slot} {rest st0 : List Value} {a : Array Value} {A : Nat → Prop} {H0 : Heap} {mc ms : Nat} {D : va_G} {tys : List (ClassId × FieldType)} {ws wc wr w1 : va_W}
theorem cl_i {res : Int32} (hP : va_P D clsL ws H) (hD : va_D A ws) (hS : va_S A H0 H locs) (hA : ∀ q, H0.size ≤ q → A q) (isC isR : List Nat) (hC : isC.map (fun i => ws[i]?) = wc.map some) (hR : isR.map (fun i => ws[i]?) = wr.map some) (hn : va_nd isR = true) (hdis : ∀ i ∈ isR, i ∉ isC)
    (hr : va_Run p l e R s m args below meth c H locs cells slots mc ms (F0 m pc ls st0) rest (va_Qi (fun (r : Int32) (_ : Unit) => r = res) (fun _ => cw_post D tys (va_A wc H.size) w1) (va_A wc H.size) a) (va_A wc H.size))
    (kk : ∀ (H1 : Heap) (locs1 : List Loc), va_P D clsL (wr ++ w1) H1 → va_D A (wr ++ w1) → va_S A H0 H1 locs1 → W p l e R s m args below meth c H1 locs1 (cells + mc) (slots + ms) Q (F0 m (pc + 3) ls (.int res :: rest))) : W p l e R s m args below meth c H locs cells slots Q (F0 m pc ls st0) := by
  have hFc := va_free (wc := wc) hD hS hA isC hC
  refine va_calli hr hS (fun q _ h => hFc q h) hFc (fun r u t H1 locs1 ht hvm hw hB hz1 hk1 hS1 => ?_)
  obtain ⟨hP1, hK1, hD1⟩ := hB
  rw [ht] at hP1
  obtain ⟨hP2, hD2⟩ := va_join hP hD isC isR hC hR hn hdis hk1 hFc hP1 hD1
  have hw : r = res := hw
  subst hw
  exact kk H1 locs1 hP2 hD2 hS1
theorem cl_l {res : Int64} (hP : va_P D clsL ws H) (hD : va_D A ws) (hS : va_S A H0 H locs) (hA : ∀ q, H0.size ≤ q → A q) (isC isR : List Nat) (hC : isC.map (fun i => ws[i]?) = wc.map some) (hR : isR.map (fun i => ws[i]?) = wr.map some) (hn : va_nd isR = true) (hdis : ∀ i ∈ isR, i ∉ isC)
    (hr : va_Run p l e R s m args below meth c H locs cells slots mc ms (F0 m pc ls st0) rest (va_Ql (fun (r : Int64) (_ : Unit) => r = res) (fun _ => cw_post D tys (va_A wc H.size) w1) (va_A wc H.size) a) (va_A wc H.size))
    (kk : ∀ (H1 : Heap) (locs1 : List Loc), va_P D clsL (wr ++ w1) H1 → va_D A (wr ++ w1) → va_S A H0 H1 locs1 → W p l e R s m args below meth c H1 locs1 (cells + mc) (slots + ms) Q (F0 m (pc + 3) ls (.long res :: rest))) : W p l e R s m args below meth c H locs cells slots Q (F0 m pc ls st0) := by
  have hFc := va_free (wc := wc) hD hS hA isC hC
  refine va_calll hr hS (fun q _ h => hFc q h) hFc (fun r u t H1 locs1 ht hvm hw hB hz1 hk1 hS1 => ?_)
  obtain ⟨hP1, hK1, hD1⟩ := hB
  rw [ht] at hP1
  obtain ⟨hP2, hD2⟩ := va_join hP hD isC isR hC hR hn hdis hk1 hFc hP1 hD1
  have hw : r = res := hw
  subst hw
  exact kk H1 locs1 hP2 hD2 hS1
theorem cl_v (hP : va_P D clsL ws H) (hD : va_D A ws) (hS : va_S A H0 H locs) (hA : ∀ q, H0.size ≤ q → A q) (isC isR : List Nat) (hC : isC.map (fun i => ws[i]?) = wc.map some) (hR : isR.map (fun i => ws[i]?) = wr.map some) (hn : va_nd isR = true) (hdis : ∀ i ∈ isR, i ∉ isC)
    (hr : va_Run p l e R s m args below meth c H locs cells slots mc ms (F0 m pc ls st0) rest (va_Qv (fun _ : Unit => True) (fun _ => cw_post D tys (va_A wc H.size) w1) (va_A wc H.size) a) (va_A wc H.size))
    (kk : ∀ (H1 : Heap) (locs1 : List Loc), va_P D clsL (wr ++ w1) H1 → va_D A (wr ++ w1) → va_S A H0 H1 locs1 → W p l e R s m args below meth c H1 locs1 (cells + mc) (slots + ms) Q (F0 m (pc + 3) ls rest)) : W p l e R s m args below meth c H locs cells slots Q (F0 m pc ls st0) := by
  have hFc := va_free (wc := wc) hD hS hA isC hC
  refine va_callv hr hS (fun q _ h => hFc q h) hFc (fun u t H1 locs1 ht hvm hw hB hz1 hk1 hS1 => ?_)
  obtain ⟨hP1, hK1, hD1⟩ := hB
  rw [ht] at hP1
  obtain ⟨hP2, hD2⟩ := va_join hP hD isC isR hC hR hn hdis hk1 hFc hP1 hD1
  exact kk H1 locs1 hP2 hD2 hS1
theorem cl_ix {res : Int32} {w2 : (Nat → Bool) → va_W} (hP : va_P D clsL ws H) (hD : va_D A ws) (hS : va_S A H0 H locs) (hA : ∀ q, H0.size ≤ q → A q) (isC isR : List Nat) (hC : isC.map (fun i => ws[i]?) = wc.map some) (hR : isR.map (fun i => ws[i]?) = wr.map some) (hn : va_nd isR = true) (hdis : ∀ i ∈ isR, i ∉ isC)
    (hr : va_Run p l e R s m args below meth c H locs cells slots mc ms (F0 m pc ls st0) rest (va_Qi (fun (r : Int32) (_ : Nat → Bool) => r = res) (fun u => cw_post D tys (va_A wc H.size) (w2 u)) (va_A wc H.size) a) (va_A wc H.size))
    (kk : ∀ (u : Nat → Bool) (H1 : Heap) (locs1 : List Loc), va_P D clsL (wr ++ w2 u) H1 → va_D A (wr ++ w2 u) → va_S A H0 H1 locs1 → W p l e R s m args below meth c H1 locs1 (cells + mc) (slots + ms) Q (F0 m (pc + 3) ls (.int res :: rest))) : W p l e R s m args below meth c H locs cells slots Q (F0 m pc ls st0) := by
  have hFc := va_free (wc := wc) hD hS hA isC hC
  refine va_calli hr hS (fun q _ h => hFc q h) hFc (fun r u t H1 locs1 ht hvm hw hB hz1 hk1 hS1 => ?_)
  obtain ⟨hP1, hK1, hD1⟩ := hB
  rw [ht] at hP1
  obtain ⟨hP2, hD2⟩ := va_join hP hD isC isR hC hR hn hdis hk1 hFc hP1 hD1
  have hw : r = res := hw
  subst hw
  exact kk u H1 locs1 hP2 hD2 hS1
theorem cl_vx {w2 : (Nat → Bool) → va_W} (hP : va_P D clsL ws H) (hD : va_D A ws) (hS : va_S A H0 H locs) (hA : ∀ q, H0.size ≤ q → A q) (isC isR : List Nat) (hC : isC.map (fun i => ws[i]?) = wc.map some) (hR : isR.map (fun i => ws[i]?) = wr.map some) (hn : va_nd isR = true) (hdis : ∀ i ∈ isR, i ∉ isC)
    (hr : va_Run p l e R s m args below meth c H locs cells slots mc ms (F0 m pc ls st0) rest (va_Qv (fun _ : Nat → Bool => True) (fun u => cw_post D tys (va_A wc H.size) (w2 u)) (va_A wc H.size) a) (va_A wc H.size))
    (kk : ∀ (u : Nat → Bool) (H1 : Heap) (locs1 : List Loc), va_P D clsL (wr ++ w2 u) H1 → va_D A (wr ++ w2 u) → va_S A H0 H1 locs1 → W p l e R s m args below meth c H1 locs1 (cells + mc) (slots + ms) Q (F0 m (pc + 3) ls rest)) : W p l e R s m args below meth c H locs cells slots Q (F0 m pc ls st0) := by
  have hFc := va_free (wc := wc) hD hS hA isC hC
  refine va_callv hr hS (fun q _ h => hFc q h) hFc (fun u t H1 locs1 ht hvm hw hB hz1 hk1 hS1 => ?_)
  obtain ⟨hP1, hK1, hD1⟩ := hB
  rw [ht] at hP1
  obtain ⟨hP2, hD2⟩ := va_join hP hD isC isR hC hR hn hdis hk1 hFc hP1 hD1
  exact kk u H1 locs1 hP2 hD2 hS1
end CALLS
