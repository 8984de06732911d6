-- contracts of constructors: the new cells' addresses come with the answer
def mt_N (l : Launch) (y : MethodName) (c : ByteArray) (n : Nat) (rt : Option FieldType) (rm : Room) (D : va_G) (tys : List (ClassId × FieldType)) (sz : Nat) (av : List Value) (ws : va_W) (ws' : (Nat → Nat) → va_W) (mc ms : Nat) : Prop :=
  Met l y (wsT y c n rt) rm (va_Pc av (cw_pre D tys ws sz)) (va_Qv (fun _ : Nat → Nat => True) (fun u => cw_post D tys (va_A ws sz) (ws' u)) (va_A ws sz)) mc ms (va_A ws sz)
/-- what OrphanRuntime's constructor needs besides: the words of its nest mates, and of its row of references -/
def xO (U : State) : Prop := va_Nw (.methodLinkNest cn_O 15 mn_P_init cn_O) U ∧ va_Nw (.methodLinkNest cn_O 18 mn_I_init cn_O) U ∧ va_Nw (.methodLinkNest cn_O 25 mn_M_init cn_O) U ∧ va_AO cn_P U
def mt_NX (l : Launch) (y : MethodName) (c : ByteArray) (n : Nat) (rt : Option FieldType) (rm : Room) (D : va_G) (tys : List (ClassId × FieldType)) (sz : Nat) (av : List Value) (ws : va_W) (ws' : (Nat → Nat) → va_W) (mc ms : Nat) : Prop :=
  Met l y (wsT y c n rt) rm (va_Pc av (fun U => cw_pre D tys ws sz U ∧ xO U)) (va_Qv (fun _ : Nat → Nat => True) (fun u => cw_post D tys (va_A ws sz) (ws' u)) (va_A ws sz)) mc ms (va_A ws sz)
theorem xO.same {u U : State} (h : u.vm = U.vm) (hZ : xO u) : xO U :=
  ⟨va_Nw.same rfl h hZ.1, va_Nw.same rfl h hZ.2.1, va_Nw.same rfl h hZ.2.2.1, va_AO.moved (h ▸ Vm.Alike.refl u.vm) hZ.2.2.2⟩
theorem xO.warm {s U : State} (hW : s.WarmedH U.vm) (hZ : xO s) : xO U :=
  ⟨va_Nw.warmM hW hZ.1, va_Nw.warmM hW hZ.2.1, va_Nw.warmM hW hZ.2.2.1, va_AO.moved hW.alike hZ.2.2.2⟩
theorem pr_SX {s : State} {H : Heap} {D : va_G} {tys : List (ClassId × FieldType)} {ws wc : va_W} {A : Nat → Prop} {av : List Value} (hX : xO s) (hP : va_P D clsL ws H) (hK : va_K D clsL tys s) (hD : va_D A ws) (is : List Nat) (hn : va_nd is = true) (h1 : is.filterMap (fun i => ws[i]?) = wc) (h2 : is.map (fun i => ws[i]?) = wc.map some) : PreS s H (va_Pc av (fun U => cw_pre D tys wc H.size U ∧ xO U)) av := by
  refine ⟨?_, ?_⟩
  · intro a U g mk q
    obtain ⟨q0, ⟨q1, qP, qK, qD⟩, qX⟩ := q
    exact ⟨q0, ⟨q1, qP, va_K.moved (u := U) (U := U.calling g mk a) (Vm.Alike.refl U.vm) qK, qD⟩, xO.same (u := U) (U := U.calling g mk a) rfl qX⟩
  · intro U hU hW
    exact ⟨rfl, ⟨by rw [hU], by rw [hU]; exact hP.sub is h1, va_K.moved hW.alike hK, (hD.sub is hn h2).weaken (fun _ _ _ _ => trivial)⟩, xO.warm hW hX⟩
section CTB
variable {p : Program} {l : Launch} {e : Env} {R : Room} {s : State} {m : MethodId} {args : Array Value} {below : List Frame} {meth : Method} {c : Code} {H : Heap} {locs : List Loc} {cells slots : Nat} {Q : State → Prop}
variable {cc : ByteArray} {pc : Nat} {ls : Array Slot} {rest st0 : List Value} {a : Array Value} {A : Nat → Prop} {H0 : Heap} {mc ms : Nat} {D : va_G} {tys : List (ClassId × FieldType)} {ws wc wr w1 : va_W} {cI cJ cZ cP : ClassId}
theorem cl_vn {w2 : (Nat → Nat) → va_W} (hP : va_P D clsL ws H) (hD : va_D A ws) (hS : va_S A H0 H locs) (hA : ∀ q, H0.size ≤ q → A q) (isC isR : List Nat) (hC : isC.map (fun i => ws[i]?) = wc.map some) (hR : isR.map (fun i => ws[i]?) = wr.map some) (hn : va_nd isR = true) (hdis : ∀ i ∈ isR, i ∉ isC)
    (hr : va_Run p l e R s m args below meth c H locs cells slots mc ms (F0 m pc ls st0) rest (va_Qv (fun _ : Nat → Nat => True) (fun u => cw_post D tys (va_A wc H.size) (w2 u)) (va_A wc H.size) a) (va_A wc H.size))
    (kk : ∀ (u : Nat → Nat) (H1 : Heap) (locs1 : List Loc), va_P D clsL (wr ++ w2 u) H1 → va_D A (wr ++ w2 u) → va_S A H0 H1 locs1 → W p l e R s m args below meth c H1 locs1 (cells + mc) (slots + ms) Q (F0 m (pc + 3) ls rest)) : W p l e R s m args below meth c H locs cells slots Q (F0 m pc ls st0) := by
  have hFc := va_free (wc := wc) hD hS hA isC hC
  refine va_callv hr hS (fun q _ h => hFc q h) hFc (fun u t H1 locs1 ht hvm hw hB hz1 hk1 hS1 => ?_)
  obtain ⟨hP1, hK1, hD1⟩ := hB
  rw [ht] at hP1
  obtain ⟨hP2, hD2⟩ := va_join hP hD isC isR hC hR hn hdis hk1 hFc hP1 hD1
  exact kk u H1 locs1 hP2 hD2 hS1
theorem wn_i (hexec : p.tables.exec = Jvm.exec) (hb : c.code = cc) (harr : (Cond.arrayClass .int).before args s = true) (hK : va_K D clsL (TYS cI cJ cZ cP) s) (hP : va_P D clsL ws H) (hD : va_D A ws) (hS : va_S A H0 H locs) (hA : ∀ q, H0.size ≤ q → A q) (k : Nat) (hk : k < 2 ^ 20) (z : Nat → Int32) (hz : ∀ j, z j = 0) (hcells : cells + 1 ≤ R.cells) (hslots : slots + k ≤ R.slots) (hdg : decode cc pc = .ok (.newarray .int, 2))
    (kk : ∀ (q : Nat) (H1 : Heap), va_P D clsL (ws ++ [(q, .inl (cI, k, .inl z))]) H1 → va_D A (ws ++ [(q, .inl (cI, k, .inl z))]) → va_S A H0 H1 locs → W p l e R s m args below meth c H1 locs (cells + 1) (slots + k) Q (F0 m (pc + 2) ls (.ref q :: rest))) : W p l e R s m args below meth c H locs cells slots Q (F0 m pc ls (.int (nI k) :: rest)) := by
  refine va_newa (atype := .int) (a0 := (k, .inl z)) (ty := .int) hexec hb harr rfl hK hP hD hS hA (fun cA => ?_) (nI_pos (by omega)) (nI_clamp (by omega)) (by rw [show componentBytes .int = 4 from rfl]; omega) hcells hslots hdg (fun q cA H1 hK1 hP1 hD1 hS1 => ?_)
  · show arrV cA k (fun j => .int (z j)) = arrV cA k (fun _ => defaultValue .int)
    rw [show (fun j => Value.int (z j)) = (fun _ => defaultValue .int) from funext (fun j => by rw [hz]; rfl)]
  · have e1 := va_nm_int (hK.2 0 (cI, .int) rfl).2
    have e2 := va_nm_int (hK1.2 4 (cA, .int) rfl).2
    have e : cI = cA := Option.some.inj (e1.symm.trans e2)
    subst e
    exact kk q H1 hP1 hD1 hS1
theorem wn_z (hexec : p.tables.exec = Jvm.exec) (hb : c.code = cc) (harr : (Cond.arrayClass .boolean).before args s = true) (hK : va_K D clsL (TYS cI cJ cZ cP) s) (hP : va_P D clsL ws H) (hD : va_D A ws) (hS : va_S A H0 H locs) (hA : ∀ q, H0.size ≤ q → A q) (k : Nat) (hk : k < 2 ^ 20) (z : Nat → Int32) (hz : ∀ j, z j = 0) (hcells : cells + 1 ≤ R.cells) (hslots : slots + k ≤ R.slots) (hdg : decode cc pc = .ok (.newarray .boolean, 2))
    (kk : ∀ (q : Nat) (H1 : Heap), va_P D clsL (ws ++ [(q, .inl (cZ, k, .inl z))]) H1 → va_D A (ws ++ [(q, .inl (cZ, k, .inl z))]) → va_S A H0 H1 locs → W p l e R s m args below meth c H1 locs (cells + 1) (slots + k) Q (F0 m (pc + 2) ls (.ref q :: rest))) : W p l e R s m args below meth c H locs cells slots Q (F0 m pc ls (.int (nI k) :: rest)) := by
  refine va_newa (atype := .boolean) (a0 := (k, .inl z)) (ty := .boolean) hexec hb harr rfl hK hP hD hS hA (fun cA => ?_) (nI_pos (by omega)) (nI_clamp (by omega)) (by rw [show componentBytes .boolean = 1 from rfl]; omega) hcells hslots hdg (fun q cA H1 hK1 hP1 hD1 hS1 => ?_)
  · show arrV cA k (fun j => .int (z j)) = arrV cA k (fun _ => defaultValue .boolean)
    rw [show (fun j => Value.int (z j)) = (fun _ => defaultValue .boolean) from funext (fun j => by rw [hz]; rfl)]
  · have e1 := va_nm_boolean (hK.2 2 (cZ, .boolean) rfl).2
    have e2 := va_nm_boolean (hK1.2 4 (cA, .boolean) rfl).2
    have e : cZ = cA := Option.some.inj (e1.symm.trans e2)
    subst e
    exact kk q H1 hP1 hD1 hS1
theorem wn_l (hexec : p.tables.exec = Jvm.exec) (hb : c.code = cc) (harr : (Cond.arrayClass .long).before args s = true) (hK : va_K D clsL (TYS cI cJ cZ cP) s) (hP : va_P D clsL ws H) (hD : va_D A ws) (hS : va_S A H0 H locs) (hA : ∀ q, H0.size ≤ q → A q) (k : Nat) (hk : k < 2 ^ 20) (z : Nat → Int64) (hz : ∀ j, z j = 0) (hcells : cells + 1 ≤ R.cells) (hslots : slots + k ≤ R.slots) (hdg : decode cc pc = .ok (.newarray .long, 2))
    (kk : ∀ (q : Nat) (H1 : Heap), va_P D clsL (ws ++ [(q, .inl (cJ, k, .inr (.inl z)))]) H1 → va_D A (ws ++ [(q, .inl (cJ, k, .inr (.inl z)))]) → va_S A H0 H1 locs → W p l e R s m args below meth c H1 locs (cells + 1) (slots + k) Q (F0 m (pc + 2) ls (.ref q :: rest))) : W p l e R s m args below meth c H locs cells slots Q (F0 m pc ls (.int (nI k) :: rest)) := by
  refine va_newa (atype := .long) (a0 := (k, .inr (.inl z))) (ty := .long) hexec hb harr rfl hK hP hD hS hA (fun cA => ?_) (nI_pos (by omega)) (nI_clamp (by omega)) (by rw [show componentBytes .long = 8 from rfl]; omega) hcells hslots hdg (fun q cA H1 hK1 hP1 hD1 hS1 => ?_)
  · show arrV cA k (fun j => .long (z j)) = arrV cA k (fun _ => defaultValue .long)
    rw [show (fun j => Value.long (z j)) = (fun _ => defaultValue .long) from funext (fun j => by rw [hz]; rfl)]
  · have e1 := va_nm_long (hK.2 1 (cJ, .long) rfl).2
    have e2 := va_nm_long (hK1.2 4 (cA, .long) rfl).2
    have e : cJ = cA := Option.some.inj (e1.symm.trans e2)
    subst e
    exact kk q H1 hP1 hD1 hS1
theorem wn_r (hexec : p.tables.exec = Jvm.exec) (hb : c.code = cc) {own : String} {index : Nat} (hown : s.vm.findClass own = some m.cls) (hclink : (Cond.classLink own index cn_P).before args s = true) (hover : va_AO cn_P s) (hK : va_K D clsL (TYS cI cJ cZ cP) s) (hP : va_P D clsL ws H) (hD : va_D A ws) (hS : va_S A H0 H locs) (hA : ∀ q, H0.size ≤ q → A q) (k : Nat) (hk : k < 2 ^ 20) (hcells : cells + 1 ≤ R.cells) (hslots : slots + k ≤ R.slots) (hdg : decode cc pc = .ok (.anewarray index, 3))
    (kk : ∀ (q : Nat) (H1 : Heap), va_P D clsL (ws ++ [(q, .inl (cP, k, .inr (.inr (.inr (.inr (fun _ => none))))))]) H1 → va_D A (ws ++ [(q, .inl (cP, k, .inr (.inr (.inr (.inr (fun _ => none))))))]) → va_S A H0 H1 locs → W p l e R s m args below meth c H1 locs (cells + 1) (slots + k) Q (F0 m (pc + 3) ls (.ref q :: rest))) : W p l e R s m args below meth c H locs cells slots Q (F0 m pc ls (.int (nI k) :: rest)) := by
  refine va_newq hexec hb hown hclink hover hK hP hD hS hA (nI_pos (by omega)) (nI_clamp (by omega)) (by omega) hcells hslots hdg (fun q cA H1 hK1 hP1 hD1 hS1 => ?_)
  obtain ⟨_, _, _, _, _, e1⟩ := (hK.2 3 (cP, .object cn_P) rfl).2
  obtain ⟨_, _, _, _, _, e2⟩ := (hK1.2 4 (cA, .object cn_P) rfl).2
  have e : cP = cA := Option.some.inj (e1.symm.trans e2)
  subst e
  exact kk q H1 hP1 hD1 hS1
/-- writing a reference to one of the class's records -/
theorem wa_ast (hexec : p.tables.exec = Jvm.exec) (hb : c.code = cc) (hK : va_K D clsL (TYS cI cJ cZ cP) s) (hP : va_P D clsL ws H) (hD : va_D A ws) (hS : va_S A H0 H locs) (q0 qk : Nat) {n v b : Nat} {vs : List Value} {f : Nat → Option Nat} (ha : ws[q0]? = some (b, .inl (cP, n, .inr (.inr (.inr (.inr f)))))) (hv : ws[qk]? = some (v, .inr (2, vs))) {k : Nat} (hk : k < n) (hn : n < 2 ^ 31) (hdg : decode cc pc = .ok (.aastore, 1))
    (kk : ∀ (H1 : Heap) (locs1 : List Loc), va_P D clsL (ws.set q0 (b, .inl (cP, n, .inr (.inr (.inr (.inr (va_up f k (some v)))))))) H1 → va_D A (ws.set q0 (b, .inl (cP, n, .inr (.inr (.inr (.inr (va_up f k (some v)))))))) → va_S A H0 H1 locs1 → W p l e R s m args below meth c H1 locs1 cells slots Q (F0 m (pc + 1) ls rest)) : W p l e R s m args below meth c H locs cells slots Q (F0 m pc ls (.ref v :: .int (nI k) :: .ref b :: rest)) := by
  refine va_astq (r := (cn_P, ft_P, 11)) hexec hb hK hP hD hS q0 3 qk 2 ha rfl hv rfl (vp_in_nI hk hn) hdg (fun H1 locs1 h1 h2 h3 => ?_)
  rw [nI_clamp (by omega)] at h1 h2
  exact kk H1 locs1 h1 h2 h3
end CTB
theorem z_n : ∀ j : Nat, nF (fun _ => 0) j = 0 := fun _ => nI_0
theorem z_o : ∀ j : Nat, oF (fun _ => some 0) j = 0 := fun _ => nI_0
theorem z_b : ∀ j : Nat, bF (fun _ => false) j = 0 := fun _ => rfl
theorem z_i : ∀ j : Nat, (fun _ : Nat => (nI 0 : Int32)) j = 0 := fun _ => nI_0
