set_option maxHeartbeats 4000000 in
set_option maxRecDepth 100000 in
/-- append(i) -/
theorem oc_P_append (l : Launch) (dC : Nat → ClassId) (dI : Nat → Nat → Nat) (cI cJ cZ cP : ClassId) (sz : Nat) (h : Nat) (a : Nat) (b : Nat) (dn : Bool) (n : Nat) (oc : Nat) (le : Nat) (ll : Int64) (li : Int64) (lc : Nat) (kc : Nat) (rp : Int32) (ch : Nat → Nat) (i : Nat) (hn : n < 40) : mt_V l mn_P_append bc_P_append 2 none ({ frames := 0, cells := 0, slots := 0, locals := 0 }) (dC, dI) (TYS cI cJ cZ cP) sz [.ref h, .int (nI i)] [zP h a b dn n oc le ll li lc kc rp, (a, .inl (cI, 40, .inl (nF ch)))] [zP h a b dn (n + 1) oc le ll li lc kc rp, (a, .inl (cI, 40, .inl (nF (va_up ch n i))))] 0 0 := by
  unfold mt_V
  refine Met.ofW (cc := bc_P_append) (maxL := 2) (ret := none) (by decide) rfl ?_
  intro p e s m args below meth c s₁ B hml hv
  obtain ⟨rfl, hsz, hP, hK, hD0⟩ := hv
  have hx := B.exec
  have hb := B.bytes
  have hr := B.returns
  have hts := atoms_spec (ws := wsT mn_P_append bc_P_append 2 none) B.pre
  have htb : ∀ w ∈ gtbl, w.before _ s = true := fun w h => hts w (List.mem_cons_of_mem _ h)
  have hown : s.vm.findClass cn_P = some m.cls := findClass_of_methodNamed B.named
  have hlocks := B.notSynchronized
  subst hsz
  have hD := hD0.self (sz := s.heap.size)
  generalize hAe : va_A [zP h a b dn n oc le ll li lc kc rp, (a, .inl (cI, 40, .inl (nF ch)))] s.heap.size = A at hD ⊢
  have hA : ∀ q : Nat, s.heap.size ≤ q → A q := fun q h => by rw [← hAe]; exact Or.inr h
  have hS : va_S A s.heap s.heap [] := va_S.rf
  have hP : va_P (dC, dI) clsL [zP h a b dn n oc le ll li lc kc rp, (a, .inl (cI, 40, .inl (nF ch)))] s.heap := hP
  have hl := lv_entry ([.ref h, .int (nI i)]) (n := 2) (Nat.le_of_ble_eq_true rfl)
  rw [lg_entry_eq]
  generalize (lg_sl ([.ref h, .int (nI i)]) ++ List.replicate (2 - (lg_sl ([.ref h, .int (nI i)])).length) Slot.unset).toArray = ls at hl ⊢
  have hl : lv_has ls 2 [(0, .ref h), (1, .int (nI i))] := hl
  refine lv_aload_n hx hb dc_P_append_0 rfl (lv_at hl 0 rfl) ?_
  refine va_get (D := (dC, dI)) (ci := 2) (v := .ref a) (C := cn_P) (T := ft_P) (N := 11) hx hb htb ki_P hown hK hP 0 rfl rfl 0 (by decide) (htb _ kw_22) (fun _ h9 => h9) rfl dc_P_append_1 ?_
  refine lv_aload_n hx hb dc_P_append_4 rfl (lv_at hl 0 rfl) ?_
  refine va_get (D := (dC, dI)) (ci := 2) (v := .int (nI n)) (C := cn_P) (T := ft_P) (N := 11) hx hb htb ki_P hown hK hP 0 rfl rfl 3 (by decide) (htb _ kw_28) (fun _ h9 => h9) rfl dc_P_append_5 ?_
  refine lv_iload_n hx hb dc_P_append_8 rfl (lv_at hl 1 rfl) ?_
  refine wa_nst (k := n) (x := i) hx hb hK hP hD hS 1 0 rfl rfl (by omega) (by omega) dc_P_append_9 (fun H locs hP hD hS => ?_)
  have hP : va_P (dC, dI) clsL [zP h a b dn n oc le ll li lc kc rp, (a, .inl (cI, 40, .inl (nF (va_up ch n i))))] H := hP
  have hD : va_D A [zP h a b dn n oc le ll li lc kc rp, (a, .inl (cI, 40, .inl (nF (va_up ch n i))))] := hD
  refine lv_aload_n hx hb dc_P_append_10 rfl (lv_at hl 0 rfl) ?_
  refine lv_dup hx hb dc_P_append_11 rfl ?_
  refine va_get (D := (dC, dI)) (ci := 2) (v := .int (nI n)) (C := cn_P) (T := ft_P) (N := 11) hx hb htb ki_P hown hK hP 0 rfl rfl 3 (by decide) (htb _ kw_28) (fun _ h9 => h9) rfl dc_P_append_12 ?_
  refine lv_iconst (v := nI 1) hx hb dc_P_append_15 (by decide) ?_
  refine lv_iadd hx hb dc_P_append_16 ?_
  refine tp_i (y := nI (n + 1)) (nI_add _ _) ?_
  refine va_put (D := (dC, dI)) (ci := 2) (v := .int (nI (n + 1))) (ty := .int) (C := cn_P) (T := ft_P) (N := 11) hx hb htb ki_P fy_P fy_P_ok nm_P_d hown hK hP hD hS 0 rfl rfl 3 (by decide) (htb _ kw_28) (fun _ h9 => h9) rfl (by decide +kernel) rfl rfl (Nat.le_of_ble_eq_true rfl) dc_P_append_17 (fun H locs hP hD hS => ?_)
  have hP : va_P (dC, dI) clsL [zP h a b dn (n + 1) oc le ll li lc kc rp, (a, .inl (cI, 40, .inl (nF (va_up ch n i))))] H := hP
  have hD : va_D A [zP h a b dn (n + 1) oc le ll li lc kc rp, (a, .inl (cI, 40, .inl (nF (va_up ch n i))))] := hD
  have hP9 := hP.sub (ws' := [zP h a b dn (n + 1) oc le ll li lc kc rp, (a, .inl (cI, 40, .inl (nF (va_up ch n i))))]) [0, 1] rfl
  have hD9 := hD.sub (ws' := [zP h a b dn (n + 1) oc le ll li lc kc rp, (a, .inl (cI, 40, .inl (nF (va_up ch n i))))]) [0, 1] (by decide) rfl
  exact W.vret hx hb hr (fun t ht hW => ⟨⟨(), rfl, trivial, by rw [ht]; exact hP9, va_K.moved hW.alike hK, hD9⟩, hS.F ht⟩) hS.2.2 dc_P_append_20

set_option maxHeartbeats 4000000 in
set_option maxRecDepth 100000 in
/-- addOutput(v) -/
theorem oc_P_addOutput (l : Launch) (dC : Nat → ClassId) (dI : Nat → Nat → Nat) (cI cJ cZ cP : ClassId) (sz : Nat) (h : Nat) (a : Nat) (b : Nat) (dn : Bool) (n : Nat) (oc : Nat) (le : Nat) (ll : Int64) (li : Int64) (lc : Nat) (kc : Nat) (rp : Int32) (ou : Nat → Int32) (v : Int32) (hn : oc < 40) : mt_V l mn_P_addOutput bc_P_addOutput 2 none ({ frames := 0, cells := 0, slots := 0, locals := 0 }) (dC, dI) (TYS cI cJ cZ cP) sz [.ref h, .int v] [zP h a b dn n oc le ll li lc kc rp, (b, .inl (cI, 40, .inl ou))] [zP h a b dn n (oc + 1) le ll li lc kc rp, (b, .inl (cI, 40, .inl (va_up ou oc v)))] 0 0 := by
  unfold mt_V
  refine Met.ofW (cc := bc_P_addOutput) (maxL := 2) (ret := none) (by decide) rfl ?_
  intro p e s m args below meth c s₁ B hml hv
  obtain ⟨rfl, hsz, hP, hK, hD0⟩ := hv
  have hx := B.exec
  have hb := B.bytes
  have hr := B.returns
  have hts := atoms_spec (ws := wsT mn_P_addOutput bc_P_addOutput 2 none) B.pre
  have htb : ∀ w ∈ gtbl, w.before _ s = true := fun w h => hts w (List.mem_cons_of_mem _ h)
  have hown : s.vm.findClass cn_P = some m.cls := findClass_of_methodNamed B.named
  have hlocks := B.notSynchronized
  subst hsz
  have hD := hD0.self (sz := s.heap.size)
  generalize hAe : va_A [zP h a b dn n oc le ll li lc kc rp, (b, .inl (cI, 40, .inl ou))] s.heap.size = A at hD ⊢
  have hA : ∀ q : Nat, s.heap.size ≤ q → A q := fun q h => by rw [← hAe]; exact Or.inr h
  have hS : va_S A s.heap s.heap [] := va_S.rf
  have hP : va_P (dC, dI) clsL [zP h a b dn n oc le ll li lc kc rp, (b, .inl (cI, 40, .inl ou))] s.heap := hP
  have hl := lv_entry ([.ref h, .int v]) (n := 2) (Nat.le_of_ble_eq_true rfl)
  rw [lg_entry_eq]
  generalize (lg_sl ([.ref h, .int v]) ++ List.replicate (2 - (lg_sl ([.ref h, .int v])).length) Slot.unset).toArray = ls at hl ⊢
  have hl : lv_has ls 2 [(0, .ref h), (1, .int v)] := hl
  refine lv_aload_n hx hb dc_P_addOutput_0 rfl (lv_at hl 0 rfl) ?_
  refine va_get (D := (dC, dI)) (ci := 2) (v := .ref b) (C := cn_P) (T := ft_P) (N := 11) hx hb htb ki_P hown hK hP 0 rfl rfl 1 (by decide) (htb _ kw_24) (fun _ h9 => h9) rfl dc_P_addOutput_1 ?_
  refine lv_aload_n hx hb dc_P_addOutput_4 rfl (lv_at hl 0 rfl) ?_
  refine va_get (D := (dC, dI)) (ci := 2) (v := .int (nI oc)) (C := cn_P) (T := ft_P) (N := 11) hx hb htb ki_P hown hK hP 0 rfl rfl 4 (by decide) (htb _ kw_30) (fun _ h9 => h9) rfl dc_P_addOutput_5 ?_
  refine lv_iload_n hx hb dc_P_addOutput_8 rfl (lv_at hl 1 rfl) ?_
  refine wa_ist (k := oc) (x := v) hx hb hK hP hD hS 1 0 rfl rfl (by omega) (by omega) dc_P_addOutput_9 (fun H locs hP hD hS => ?_)
  have hP : va_P (dC, dI) clsL [zP h a b dn n oc le ll li lc kc rp, (b, .inl (cI, 40, .inl (va_up ou oc v)))] H := hP
  have hD : va_D A [zP h a b dn n oc le ll li lc kc rp, (b, .inl (cI, 40, .inl (va_up ou oc v)))] := hD
  refine lv_aload_n hx hb dc_P_addOutput_10 rfl (lv_at hl 0 rfl) ?_
  refine lv_dup hx hb dc_P_addOutput_11 rfl ?_
  refine va_get (D := (dC, dI)) (ci := 2) (v := .int (nI oc)) (C := cn_P) (T := ft_P) (N := 11) hx hb htb ki_P hown hK hP 0 rfl rfl 4 (by decide) (htb _ kw_30) (fun _ h9 => h9) rfl dc_P_addOutput_12 ?_
  refine lv_iconst (v := nI 1) hx hb dc_P_addOutput_15 (by decide) ?_
  refine lv_iadd hx hb dc_P_addOutput_16 ?_
  refine tp_i (y := nI (oc + 1)) (nI_add _ _) ?_
  refine va_put (D := (dC, dI)) (ci := 2) (v := .int (nI (oc + 1))) (ty := .int) (C := cn_P) (T := ft_P) (N := 11) hx hb htb ki_P fy_P fy_P_ok nm_P_d hown hK hP hD hS 0 rfl rfl 4 (by decide) (htb _ kw_30) (fun _ h9 => h9) rfl (by decide +kernel) rfl rfl (Nat.le_of_ble_eq_true rfl) dc_P_addOutput_17 (fun H locs hP hD hS => ?_)
  have hP : va_P (dC, dI) clsL [zP h a b dn n (oc + 1) le ll li lc kc rp, (b, .inl (cI, 40, .inl (va_up ou oc v)))] H := hP
  have hD : va_D A [zP h a b dn n (oc + 1) le ll li lc kc rp, (b, .inl (cI, 40, .inl (va_up ou oc v)))] := hD
  have hP9 := hP.sub (ws' := [zP h a b dn n (oc + 1) le ll li lc kc rp, (b, .inl (cI, 40, .inl (va_up ou oc v)))]) [0, 1] rfl
  have hD9 := hD.sub (ws' := [zP h a b dn n (oc + 1) le ll li lc kc rp, (b, .inl (cI, 40, .inl (va_up ou oc v)))]) [0, 1] (by decide) rfl
  exact W.vret hx hb hr (fun t ht hW => ⟨⟨(), rfl, trivial, by rw [ht]; exact hP9, va_K.moved hW.alike hK, hD9⟩, hS.F ht⟩) hS.2.2 dc_P_addOutput_20

set_option maxHeartbeats 4000000 in
set_option maxRecDepth 100000 in
/-- chainSet() -/
theorem oc_P_chainSet (l : Launch) (dC : Nat → ClassId) (dI : Nat → Nat → Nat) (cI cJ cZ cP : ClassId) (sz : Nat) (h : Nat) (a : Nat) (b : Nat) (dn : Bool) (n : Nat) (oc : Nat) (le : Nat) (ll : Int64) (li : Int64) (lc : Nat) (kc : Nat) (rp : Int32) (ch : Nat → Nat) (hn : n ≤ 40) : mt_J l mn_P_chainSet bc_P_chainSet 4 (some .long) ({ frames := 0, cells := 0, slots := 0, locals := 0 }) (dC, dI) (TYS cI cJ cZ cP) sz [.ref h] [zP h a b dn n oc le ll li lc kc rp, (a, .inl (cI, 40, .inl (nF ch)))] [zP h a b dn n oc le ll li lc kc rp, (a, .inl (cI, 40, .inl (nF ch)))] (cs_set ch n) 0 0 := by
  unfold mt_J
  refine Met.ofW (cc := bc_P_chainSet) (maxL := 4) (ret := (some .long)) (by decide) rfl ?_
  intro p e s m args below meth c s₁ B hml hv
  obtain ⟨rfl, hsz, hP, hK, hD0⟩ := hv
  have hx := B.exec
  have hb := B.bytes
  have hr := B.returns
  have hts := atoms_spec (ws := wsT mn_P_chainSet bc_P_chainSet 4 (some .long)) B.pre
  have htb : ∀ w ∈ gtbl, w.before _ s = true := fun w h => hts w (List.mem_cons_of_mem _ h)
  have hown : s.vm.findClass cn_P = some m.cls := findClass_of_methodNamed B.named
  have hlocks := B.notSynchronized
  subst hsz
  have hD := hD0.self (sz := s.heap.size)
  generalize hAe : va_A [zP h a b dn n oc le ll li lc kc rp, (a, .inl (cI, 40, .inl (nF ch)))] s.heap.size = A at hD ⊢
  have hA : ∀ q : Nat, s.heap.size ≤ q → A q := fun q h => by rw [← hAe]; exact Or.inr h
  have hS : va_S A s.heap s.heap [] := va_S.rf
  have hP : va_P (dC, dI) clsL [zP h a b dn n oc le ll li lc kc rp, (a, .inl (cI, 40, .inl (nF ch)))] s.heap := hP
  have hl := lv_entry ([.ref h]) (n := 4) (Nat.le_of_ble_eq_true rfl)
  rw [lg_entry_eq]
  generalize (lg_sl ([.ref h]) ++ List.replicate (4 - (lg_sl ([.ref h])).length) Slot.unset).toArray = ls at hl ⊢
  have hl : lv_has ls 4 [(0, .ref h)] := hl
  refine lv_lconst (v := 0) hx hb dc_P_chainSet_0 rfl ?_
  refine lv_lstore_n (lv' := [(1, .long 0), (0, .ref h)]) hx hb dc_P_chainSet_1 rfl hl (by decide) rfl (fun ls hl => ?_)
  refine lv_iconst (v := nI 0) hx hb dc_P_chainSet_2 (by decide) ?_
  refine lv_istore_n (lv' := [(3, .int (nI 0)), (1, .long 0), (0, .ref h)]) hx hb dc_P_chainSet_3 rfl hl (by decide) rfl (fun ls hl => ?_)
  refine wl_ 4 (fun (x : Nat × Int64) => n - x.1) (fun (x : Nat × Int64) (H : Heap) (locs : List Loc) (ls : Array Slot) => (x.1 ≤ n ∧ x.2 = cs_set ch x.1) ∧ va_P (dC, dI) clsL [zP h a b dn n oc le ll li lc kc rp, (a, .inl (cI, 40, .inl (nF ch)))] H ∧ va_D A [zP h a b dn n oc le ll li lc kc rp, (a, .inl (cI, 40, .inl (nF ch)))] ∧ va_S A s.heap H locs ∧ lv_has ls 4 [(3, .int (nI x.1)), (1, .long x.2), (0, .ref h)]) ?_ (0, 0) _ _ _ ⟨⟨Nat.zero_le _, rfl⟩, hP, hD, hS, lv_sub hl [0, 1, 2] rfl⟩
  rintro ⟨k, z⟩ H locs ls ⟨hI, hP, hD, hS, hl⟩ ih
  have hI : k ≤ n ∧ z = cs_set ch k := hI
  have hP : va_P (dC, dI) clsL [zP h a b dn n oc le ll li lc kc rp, (a, .inl (cI, 40, .inl (nF ch)))] H := hP
  have hD : va_D A [zP h a b dn n oc le ll li lc kc rp, (a, .inl (cI, 40, .inl (nF ch)))] := hD
  have hl : lv_has ls 4 [(3, .int (nI k)), (1, .long z), (0, .ref h)] := hl
  have hkn := hI.1
  refine lv_iload_n hx hb dc_P_chainSet_4 rfl (lv_at hl 0 rfl) ?_
  refine lv_aload_n hx hb dc_P_chainSet_5 rfl (lv_at hl 2 rfl) ?_
  refine va_get (D := (dC, dI)) (ci := 2) (v := .int (nI n)) (C := cn_P) (T := ft_P) (N := 11) hx hb htb ki_P hown hK hP 0 rfl rfl 3 (by decide) (htb _ kw_28) (fun _ h9 => h9) rfl dc_P_chainSet_6 ?_
  refine lv_icmp_ge (tgt := 29) hx hb dc_P_chainSet_9 (by decide) (fun hc => ?_) (fun hc => ?_)
  · have hk : n ≤ k := (nI_leI (by omega) (by omega)).mp hc
    refine lv_lload_n hx hb dc_P_chainSet_29 rfl (lv_at hl 1 rfl) ?_
    have hP9 := hP.sub (ws' := [zP h a b dn n oc le ll li lc kc rp, (a, .inl (cI, 40, .inl (nF ch)))]) [0, 1] rfl
    have hD9 := hD.sub (ws' := [zP h a b dn n oc le ll li lc kc rp, (a, .inl (cI, 40, .inl (nF ch)))]) [0, 1] (by decide) rfl
    exact W.lret (v := z) hx hb hr (fun t ht hW => ⟨⟨_, (), rfl, by rw [hI.2, show k = n by omega], by rw [ht]; exact hP9, va_K.moved hW.alike hK, hD9⟩, hS.F ht⟩) hS.2.2 dc_P_chainSet_30
  · have hk : k < n := Nat.lt_of_not_le (fun h9 => hc ((nI_leI (by omega) (by omega)).mpr h9))
    refine lv_lload_n hx hb dc_P_chainSet_12 rfl (lv_at hl 1 rfl) ?_
    refine lv_lconst (v := 1) hx hb dc_P_chainSet_13 rfl ?_
    refine lv_aload_n hx hb dc_P_chainSet_14 rfl (lv_at hl 2 rfl) ?_
    refine va_get (D := (dC, dI)) (ci := 2) (v := .ref a) (C := cn_P) (T := ft_P) (N := 11) hx hb htb ki_P hown hK hP 0 rfl rfl 0 (by decide) (htb _ kw_22) (fun _ h9 => h9) rfl dc_P_chainSet_15 ?_
    refine lv_iload_n hx hb dc_P_chainSet_18 rfl (lv_at hl 0 rfl) ?_
    refine wa_nld (k := k) hx hb hK hP 1 0 rfl rfl (by omega) (by omega) dc_P_chainSet_19 ?_
    refine lv_lshl (v := bt (ch k)) hx hb dc_P_chainSet_20 rfl ?_
    refine lv_lor hx hb dc_P_chainSet_21 ?_
    refine lv_lstore_n (lv' := [(1, .long (z ||| (bt (ch k)))), (3, .int (nI k)), (0, .ref h)]) hx hb dc_P_chainSet_22 rfl hl (by decide) rfl (fun ls hl => ?_)
    refine lv_iinc (k := 1) (v := nI (k + 1)) (lv' := [(3, .int (nI (k + 1))), (1, .long (z ||| (bt (ch k)))), (0, .ref h)]) hx hb dc_P_chainSet_23 hl rfl (nI_inc1 _) (by decide) rfl (fun ls hl => ?_)
    refine lv_goto (tgt := 4) hx hb dc_P_chainSet_26 (by decide) ?_
    exact ih (k + 1, z ||| (bt (ch k))) H locs ls (by dsimp only; omega) ⟨⟨by omega, by rw [hI.2]; rfl⟩, hP, hD, hS, lv_sub hl [0, 1, 2] rfl⟩

set_option maxHeartbeats 4000000 in
set_option maxRecDepth 100000 in
/-- keepCheckpoint() -/
theorem oc_P_keepCheckpoint (l : Launch) (dC : Nat → ClassId) (dI : Nat → Nat → Nat) (cI cJ cZ cP : ClassId) (sz : Nat) (h : Nat) (a : Nat) (b : Nat) (dn : Bool) (n : Nat) (oc : Nat) (le : Nat) (ll : Int64) (li : Int64) (lc : Nat) (kc : Nat) (rp : Int32) (hn : n ≤ 40) (hlc : lc ≤ 40) : mt_V l mn_P_keepCheckpoint bc_P_keepCheckpoint 1 none ({ frames := 0, cells := 0, slots := 0, locals := 0 }) (dC, dI) (TYS cI cJ cZ cP) sz [.ref h] [zP h a b dn n oc le ll li lc kc rp] [zP h a b dn n oc le ll li n (if lc = n then kc else lc) rp] 0 0 := by
  unfold mt_V
  refine Met.ofW (cc := bc_P_keepCheckpoint) (maxL := 1) (ret := none) (by decide) rfl ?_
  intro p e s m args below meth c s₁ B hml hv
  obtain ⟨rfl, hsz, hP, hK, hD0⟩ := hv
  have hx := B.exec
  have hb := B.bytes
  have hr := B.returns
  have hts := atoms_spec (ws := wsT mn_P_keepCheckpoint bc_P_keepCheckpoint 1 none) B.pre
  have htb : ∀ w ∈ gtbl, w.before _ s = true := fun w h => hts w (List.mem_cons_of_mem _ h)
  have hown : s.vm.findClass cn_P = some m.cls := findClass_of_methodNamed B.named
  have hlocks := B.notSynchronized
  subst hsz
  have hD := hD0.self (sz := s.heap.size)
  generalize hAe : va_A [zP h a b dn n oc le ll li lc kc rp] s.heap.size = A at hD ⊢
  have hA : ∀ q : Nat, s.heap.size ≤ q → A q := fun q h => by rw [← hAe]; exact Or.inr h
  have hS : va_S A s.heap s.heap [] := va_S.rf
  have hP : va_P (dC, dI) clsL [zP h a b dn n oc le ll li lc kc rp] s.heap := hP
  have hl := lv_entry ([.ref h]) (n := 1) (Nat.le_of_ble_eq_true rfl)
  rw [lg_entry_eq]
  generalize (lg_sl ([.ref h]) ++ List.replicate (1 - (lg_sl ([.ref h])).length) Slot.unset).toArray = ls at hl ⊢
  have hl : lv_has ls 1 [(0, .ref h)] := hl
  refine lv_aload_n hx hb dc_P_keepCheckpoint_0 rfl (lv_at hl 0 rfl) ?_
  refine va_get (D := (dC, dI)) (ci := 2) (v := .int (nI lc)) (C := cn_P) (T := ft_P) (N := 11) hx hb htb ki_P hown hK hP 0 rfl rfl 8 (by decide) (htb _ kw_38) (fun _ h9 => h9) rfl dc_P_keepCheckpoint_1 ?_
  refine lv_aload_n hx hb dc_P_keepCheckpoint_4 rfl (lv_at hl 0 rfl) ?_
  refine va_get (D := (dC, dI)) (ci := 2) (v := .int (nI n)) (C := cn_P) (T := ft_P) (N := 11) hx hb htb ki_P hown hK hP 0 rfl rfl 3 (by decide) (htb _ kw_28) (fun _ h9 => h9) rfl dc_P_keepCheckpoint_5 ?_
  refine lv_icmp_eq (tgt := 27) hx hb dc_P_keepCheckpoint_8 (by decide) (fun hc => ?_) (fun hc => ?_)
  · have he : lc = n := (nI_eq (by omega) (by omega)).mp hc
    have hP8 := hP.sub (ws' := [zP h a b dn n oc le ll li lc kc rp]) [0] rfl
    have hD8 := hD.sub (ws' := [zP h a b dn n oc le ll li lc kc rp]) [0] (by decide) rfl
    have hW8 : ([zP h a b dn n oc le ll li lc kc rp] : va_W) = [zP h a b dn n oc le ll li n (if lc = n then kc else lc) rp] := by simp [he]
    rw [hW8] at hP8 hD8
    have hP9 := hP8
    have hD9 := hD8
    exact W.vret hx hb hr (fun t ht hW => ⟨⟨(), rfl, trivial, by rw [ht]; exact hP9, va_K.moved hW.alike hK, hD9⟩, hS.F ht⟩) hS.2.2 dc_P_keepCheckpoint_27
  · have he : ¬ lc = n := fun h9 => hc ((nI_eq (by omega) (by omega)).mpr h9)
    refine lv_aload_n hx hb dc_P_keepCheckpoint_11 rfl (lv_at hl 0 rfl) ?_
    refine lv_aload_n hx hb dc_P_keepCheckpoint_12 rfl (lv_at hl 0 rfl) ?_
    refine va_get (D := (dC, dI)) (ci := 2) (v := .int (nI lc)) (C := cn_P) (T := ft_P) (N := 11) hx hb htb ki_P hown hK hP 0 rfl rfl 8 (by decide) (htb _ kw_38) (fun _ h9 => h9) rfl dc_P_keepCheckpoint_13 ?_
    refine va_put (D := (dC, dI)) (ci := 2) (v := .int (nI lc)) (ty := .int) (C := cn_P) (T := ft_P) (N := 11) hx hb htb ki_P fy_P fy_P_ok nm_P_d hown hK hP hD hS 0 rfl rfl 9 (by decide) (htb _ kw_39) (fun _ h9 => h9) rfl (by decide +kernel) rfl rfl (Nat.le_of_ble_eq_true rfl) dc_P_keepCheckpoint_16 (fun H locs hP hD hS => ?_)
    have hP : va_P (dC, dI) clsL [zP h a b dn n oc le ll li lc lc rp] H := hP
    have hD : va_D A [zP h a b dn n oc le ll li lc lc rp] := hD
    refine lv_aload_n hx hb dc_P_keepCheckpoint_19 rfl (lv_at hl 0 rfl) ?_
    refine lv_aload_n hx hb dc_P_keepCheckpoint_20 rfl (lv_at hl 0 rfl) ?_
    refine va_get (D := (dC, dI)) (ci := 2) (v := .int (nI n)) (C := cn_P) (T := ft_P) (N := 11) hx hb htb ki_P hown hK hP 0 rfl rfl 3 (by decide) (htb _ kw_28) (fun _ h9 => h9) rfl dc_P_keepCheckpoint_21 ?_
    refine va_put (D := (dC, dI)) (ci := 2) (v := .int (nI n)) (ty := .int) (C := cn_P) (T := ft_P) (N := 11) hx hb htb ki_P fy_P fy_P_ok nm_P_d hown hK hP hD hS 0 rfl rfl 8 (by decide) (htb _ kw_38) (fun _ h9 => h9) rfl (by decide +kernel) rfl rfl (Nat.le_of_ble_eq_true rfl) dc_P_keepCheckpoint_24 (fun H locs hP hD hS => ?_)
    have hP : va_P (dC, dI) clsL [zP h a b dn n oc le ll li n lc rp] H := hP
    have hD : va_D A [zP h a b dn n oc le ll li n lc rp] := hD
    have hP8 := hP.sub (ws' := [zP h a b dn n oc le ll li n lc rp]) [0] rfl
    have hD8 := hD.sub (ws' := [zP h a b dn n oc le ll li n lc rp]) [0] (by decide) rfl
    have hW8 : ([zP h a b dn n oc le ll li n lc rp] : va_W) = [zP h a b dn n oc le ll li n (if lc = n then kc else lc) rp] := by simp [he]
    rw [hW8] at hP8 hD8
    have hP9 := hP8
    have hD9 := hD8
    exact W.vret hx hb hr (fun t ht hW => ⟨⟨(), rfl, trivial, by rw [ht]; exact hP9, va_K.moved hW.alike hK, hD9⟩, hS.F ht⟩) hS.2.2 dc_P_keepCheckpoint_27

set_option maxHeartbeats 4000000 in
set_option maxRecDepth 100000 in
/-- dropLongCheckpoints() -/
theorem oc_P_dropLong (l : Launch) (dC : Nat → ClassId) (dI : Nat → Nat → Nat) (cI cJ cZ cP : ClassId) (sz : Nat) (h : Nat) (a : Nat) (b : Nat) (dn : Bool) (n : Nat) (oc : Nat) (le : Nat) (ll : Int64) (li : Int64) (lc : Nat) (kc : Nat) (rp : Int32) (hn : n ≤ 40) (hlc : lc ≤ 40) (hk : kc ≤ 40) : mt_V l mn_P_dropLongCheckpoints bc_P_dropLongCheckpoints 1 none ({ frames := 0, cells := 0, slots := 0, locals := 0 }) (dC, dI) (TYS cI cJ cZ cP) sz [.ref h] [zP h a b dn n oc le ll li lc kc rp] [zP h a b dn n oc le ll li (dl_1 n lc kc) (dl_2 n lc kc) rp] 0 0 := by
  unfold mt_V
  refine Met.ofW (cc := bc_P_dropLongCheckpoints) (maxL := 1) (ret := none) (by decide) rfl ?_
  intro p e s m args below meth c s₁ B hml hv
  obtain ⟨rfl, hsz, hP, hK, hD0⟩ := hv
  have hx := B.exec
  have hb := B.bytes
  have hr := B.returns
  have hts := atoms_spec (ws := wsT mn_P_dropLongCheckpoints bc_P_dropLongCheckpoints 1 none) B.pre
  have htb : ∀ w ∈ gtbl, w.before _ s = true := fun w h => hts w (List.mem_cons_of_mem _ h)
  have hown : s.vm.findClass cn_P = some m.cls := findClass_of_methodNamed B.named
  have hlocks := B.notSynchronized
  subst hsz
  have hD := hD0.self (sz := s.heap.size)
  generalize hAe : va_A [zP h a b dn n oc le ll li lc kc rp] s.heap.size = A at hD ⊢
  have hA : ∀ q : Nat, s.heap.size ≤ q → A q := fun q h => by rw [← hAe]; exact Or.inr h
  have hS : va_S A s.heap s.heap [] := va_S.rf
  have hP : va_P (dC, dI) clsL [zP h a b dn n oc le ll li lc kc rp] s.heap := hP
  have hl := lv_entry ([.ref h]) (n := 1) (Nat.le_of_ble_eq_true rfl)
  rw [lg_entry_eq]
  generalize (lg_sl ([.ref h]) ++ List.replicate (1 - (lg_sl ([.ref h])).length) Slot.unset).toArray = ls at hl ⊢
  have hl : lv_has ls 1 [(0, .ref h)] := hl
  refine lv_aload_n hx hb dc_P_dropLongCheckpoints_0 rfl (lv_at hl 0 rfl) ?_
  refine va_get (D := (dC, dI)) (ci := 2) (v := .int (nI kc)) (C := cn_P) (T := ft_P) (N := 11) hx hb htb ki_P hown hK hP 0 rfl rfl 9 (by decide) (htb _ kw_39) (fun _ h9 => h9) rfl dc_P_dropLongCheckpoints_1 ?_
  refine lv_aload_n hx hb dc_P_dropLongCheckpoints_4 rfl (lv_at hl 0 rfl) ?_
  refine va_get (D := (dC, dI)) (ci := 2) (v := .int (nI n)) (C := cn_P) (T := ft_P) (N := 11) hx hb htb ki_P hown hK hP 0 rfl rfl 3 (by decide) (htb _ kw_28) (fun _ h9 => h9) rfl dc_P_dropLongCheckpoints_5 ?_
  refine lv_icmp_le (tgt := 24) hx hb dc_P_dropLongCheckpoints_8 (by decide) (fun hc => ?_) (fun hc => ?_)
  · have h1 : kc ≤ n := (nI_leI (by omega) (by omega)).mp hc
    refine lv_aload_n hx hb dc_P_dropLongCheckpoints_24 rfl (lv_at hl 0 rfl) ?_
    refine va_get (D := (dC, dI)) (ci := 2) (v := .int (nI lc)) (C := cn_P) (T := ft_P) (N := 11) hx hb htb ki_P hown hK hP 0 rfl rfl 8 (by decide) (htb _ kw_38) (fun _ h9 => h9) rfl dc_P_dropLongCheckpoints_25 ?_
    refine lv_aload_n hx hb dc_P_dropLongCheckpoints_28 rfl (lv_at hl 0 rfl) ?_
    refine va_get (D := (dC, dI)) (ci := 2) (v := .int (nI n)) (C := cn_P) (T := ft_P) (N := 11) hx hb htb ki_P hown hK hP 0 rfl rfl 3 (by decide) (htb _ kw_28) (fun _ h9 => h9) rfl dc_P_dropLongCheckpoints_29 ?_
    refine lv_icmp_le (tgt := 48) hx hb dc_P_dropLongCheckpoints_32 (by decide) (fun hc => ?_) (fun hc => ?_)
    · have h2 : lc ≤ n := (nI_leI (by omega) (by omega)).mp hc
      have hP8 := hP.sub (ws' := [zP h a b dn n oc le ll li lc kc rp]) [0] rfl
      have hD8 := hD.sub (ws' := [zP h a b dn n oc le ll li lc kc rp]) [0] (by decide) rfl
      have hW8 : ([zP h a b dn n oc le ll li lc kc rp] : va_W) = [zP h a b dn n oc le ll li (dl_1 n lc kc) (dl_2 n lc kc) rp] := by simp [dl_1, dl_2, Nat.not_lt.mpr, *]
      rw [hW8] at hP8 hD8
      have hP9 := hP8
      have hD9 := hD8
      exact W.vret hx hb hr (fun t ht hW => ⟨⟨(), rfl, trivial, by rw [ht]; exact hP9, va_K.moved hW.alike hK, hD9⟩, hS.F ht⟩) hS.2.2 dc_P_dropLongCheckpoints_48
    · have h2 : n < lc := Nat.lt_of_not_le (fun h9 => hc ((nI_leI (by omega) (by omega)).mpr h9))
      refine lv_aload_n hx hb dc_P_dropLongCheckpoints_35 rfl (lv_at hl 0 rfl) ?_
      refine lv_aload_n hx hb dc_P_dropLongCheckpoints_36 rfl (lv_at hl 0 rfl) ?_
      refine va_get (D := (dC, dI)) (ci := 2) (v := .int (nI kc)) (C := cn_P) (T := ft_P) (N := 11) hx hb htb ki_P hown hK hP 0 rfl rfl 9 (by decide) (htb _ kw_39) (fun _ h9 => h9) rfl dc_P_dropLongCheckpoints_37 ?_
      refine va_put (D := (dC, dI)) (ci := 2) (v := .int (nI kc)) (ty := .int) (C := cn_P) (T := ft_P) (N := 11) hx hb htb ki_P fy_P fy_P_ok nm_P_d hown hK hP hD hS 0 rfl rfl 8 (by decide) (htb _ kw_38) (fun _ h9 => h9) rfl (by decide +kernel) rfl rfl (Nat.le_of_ble_eq_true rfl) dc_P_dropLongCheckpoints_40 (fun H locs hP hD hS => ?_)
      have hP : va_P (dC, dI) clsL [zP h a b dn n oc le ll li kc kc rp] H := hP
      have hD : va_D A [zP h a b dn n oc le ll li kc kc rp] := hD
      refine lv_aload_n hx hb dc_P_dropLongCheckpoints_43 rfl (lv_at hl 0 rfl) ?_
      refine lv_iconst (v := nI 0) hx hb dc_P_dropLongCheckpoints_44 (by decide) ?_
      refine va_put (D := (dC, dI)) (ci := 2) (v := .int (nI 0)) (ty := .int) (C := cn_P) (T := ft_P) (N := 11) hx hb htb ki_P fy_P fy_P_ok nm_P_d hown hK hP hD hS 0 rfl rfl 9 (by decide) (htb _ kw_39) (fun _ h9 => h9) rfl (by decide +kernel) rfl rfl (Nat.le_of_ble_eq_true rfl) dc_P_dropLongCheckpoints_45 (fun H locs hP hD hS => ?_)
      have hP : va_P (dC, dI) clsL [zP h a b dn n oc le ll li kc 0 rp] H := hP
      have hD : va_D A [zP h a b dn n oc le ll li kc 0 rp] := hD
      have hP8 := hP.sub (ws' := [zP h a b dn n oc le ll li kc 0 rp]) [0] rfl
      have hD8 := hD.sub (ws' := [zP h a b dn n oc le ll li kc 0 rp]) [0] (by decide) rfl
      have hW8 : ([zP h a b dn n oc le ll li kc 0 rp] : va_W) = [zP h a b dn n oc le ll li (dl_1 n lc kc) (dl_2 n lc kc) rp] := by simp [dl_1, dl_2, Nat.not_lt.mpr, *]
      rw [hW8] at hP8 hD8
      have hP9 := hP8
      have hD9 := hD8
      exact W.vret hx hb hr (fun t ht hW => ⟨⟨(), rfl, trivial, by rw [ht]; exact hP9, va_K.moved hW.alike hK, hD9⟩, hS.F ht⟩) hS.2.2 dc_P_dropLongCheckpoints_48
  · have h1 : n < kc := Nat.lt_of_not_le (fun h9 => hc ((nI_leI (by omega) (by omega)).mpr h9))
    refine lv_aload_n hx hb dc_P_dropLongCheckpoints_11 rfl (lv_at hl 0 rfl) ?_
    refine lv_iconst (v := nI 0) hx hb dc_P_dropLongCheckpoints_12 (by decide) ?_
    refine va_put (D := (dC, dI)) (ci := 2) (v := .int (nI 0)) (ty := .int) (C := cn_P) (T := ft_P) (N := 11) hx hb htb ki_P fy_P fy_P_ok nm_P_d hown hK hP hD hS 0 rfl rfl 9 (by decide) (htb _ kw_39) (fun _ h9 => h9) rfl (by decide +kernel) rfl rfl (Nat.le_of_ble_eq_true rfl) dc_P_dropLongCheckpoints_13 (fun H locs hP hD hS => ?_)
    have hP : va_P (dC, dI) clsL [zP h a b dn n oc le ll li lc 0 rp] H := hP
    have hD : va_D A [zP h a b dn n oc le ll li lc 0 rp] := hD
    refine lv_aload_n hx hb dc_P_dropLongCheckpoints_16 rfl (lv_at hl 0 rfl) ?_
    refine lv_iconst (v := nI 0) hx hb dc_P_dropLongCheckpoints_17 (by decide) ?_
    refine va_put (D := (dC, dI)) (ci := 2) (v := .int (nI 0)) (ty := .int) (C := cn_P) (T := ft_P) (N := 11) hx hb htb ki_P fy_P fy_P_ok nm_P_d hown hK hP hD hS 0 rfl rfl 8 (by decide) (htb _ kw_38) (fun _ h9 => h9) rfl (by decide +kernel) rfl rfl (Nat.le_of_ble_eq_true rfl) dc_P_dropLongCheckpoints_18 (fun H locs hP hD hS => ?_)
    have hP : va_P (dC, dI) clsL [zP h a b dn n oc le ll li 0 0 rp] H := hP
    have hD : va_D A [zP h a b dn n oc le ll li 0 0 rp] := hD
    refine lv_goto (tgt := 48) hx hb dc_P_dropLongCheckpoints_21 (by decide) ?_
    have hP8 := hP.sub (ws' := [zP h a b dn n oc le ll li 0 0 rp]) [0] rfl
    have hD8 := hD.sub (ws' := [zP h a b dn n oc le ll li 0 0 rp]) [0] (by decide) rfl
    have hW8 : ([zP h a b dn n oc le ll li 0 0 rp] : va_W) = [zP h a b dn n oc le ll li (dl_1 n lc kc) (dl_2 n lc kc) rp] := by simp [dl_1, dl_2, Nat.not_lt.mpr, *]
    rw [hW8] at hP8 hD8
    have hP9 := hP8
    have hD9 := hD8
    exact W.vret hx hb hr (fun t ht hW => ⟨⟨(), rfl, trivial, by rw [ht]; exact hP9, va_K.moved hW.alike hK, hD9⟩, hS.F ht⟩) hS.2.2 dc_P_dropLongCheckpoints_48

set_option maxHeartbeats 4000000 in
set_option maxRecDepth 100000 in
/-- countReplay() -/
theorem oc_P_countReplay (l : Launch) (dC : Nat → ClassId) (dI : Nat → Nat → Nat) (cI cJ cZ cP : ClassId) (sz : Nat) (h : Nat) (a : Nat) (b : Nat) (dn : Bool) (n : Nat) (oc : Nat) (le : Nat) (ll : Int64) (li : Int64) (lc : Nat) (kc : Nat) (rp : Int32)  : mt_V l mn_P_countReplay bc_P_countReplay 1 none ({ frames := 0, cells := 0, slots := 0, locals := 0 }) (dC, dI) (TYS cI cJ cZ cP) sz [.ref h] [zP h a b dn n oc le ll li lc kc rp] [zP h a b dn n oc le ll li lc kc (rp + (nI n - nI lc))] 0 0 := by
  unfold mt_V
  refine Met.ofW (cc := bc_P_countReplay) (maxL := 1) (ret := none) (by decide) rfl ?_
  intro p e s m args below meth c s₁ B hml hv
  obtain ⟨rfl, hsz, hP, hK, hD0⟩ := hv
  have hx := B.exec
  have hb := B.bytes
  have hr := B.returns
  have hts := atoms_spec (ws := wsT mn_P_countReplay bc_P_countReplay 1 none) B.pre
  have htb : ∀ w ∈ gtbl, w.before _ s = true := fun w h => hts w (List.mem_cons_of_mem _ h)
  have hown : s.vm.findClass cn_P = some m.cls := findClass_of_methodNamed B.named
  have hlocks := B.notSynchronized
  subst hsz
  have hD := hD0.self (sz := s.heap.size)
  generalize hAe : va_A [zP h a b dn n oc le ll li lc kc rp] s.heap.size = A at hD ⊢
  have hA : ∀ q : Nat, s.heap.size ≤ q → A q := fun q h => by rw [← hAe]; exact Or.inr h
  have hS : va_S A s.heap s.heap [] := va_S.rf
  have hP : va_P (dC, dI) clsL [zP h a b dn n oc le ll li lc kc rp] s.heap := hP
  have hl := lv_entry ([.ref h]) (n := 1) (Nat.le_of_ble_eq_true rfl)
  rw [lg_entry_eq]
  generalize (lg_sl ([.ref h]) ++ List.replicate (1 - (lg_sl ([.ref h])).length) Slot.unset).toArray = ls at hl ⊢
  have hl : lv_has ls 1 [(0, .ref h)] := hl
  refine lv_aload_n hx hb dc_P_countReplay_0 rfl (lv_at hl 0 rfl) ?_
  refine lv_dup hx hb dc_P_countReplay_1 rfl ?_
  refine va_get (D := (dC, dI)) (ci := 2) (v := .int rp) (C := cn_P) (T := ft_P) (N := 11) hx hb htb ki_P hown hK hP 0 rfl rfl 10 (by decide) (htb _ kw_40) (fun _ h9 => h9) rfl dc_P_countReplay_2 ?_
  refine lv_aload_n hx hb dc_P_countReplay_5 rfl (lv_at hl 0 rfl) ?_
  refine va_get (D := (dC, dI)) (ci := 2) (v := .int (nI n)) (C := cn_P) (T := ft_P) (N := 11) hx hb htb ki_P hown hK hP 0 rfl rfl 3 (by decide) (htb _ kw_28) (fun _ h9 => h9) rfl dc_P_countReplay_6 ?_
  refine lv_aload_n hx hb dc_P_countReplay_9 rfl (lv_at hl 0 rfl) ?_
  refine va_get (D := (dC, dI)) (ci := 2) (v := .int (nI lc)) (C := cn_P) (T := ft_P) (N := 11) hx hb htb ki_P hown hK hP 0 rfl rfl 8 (by decide) (htb _ kw_38) (fun _ h9 => h9) rfl dc_P_countReplay_10 ?_
  refine lv_isub hx hb dc_P_countReplay_13 ?_
  refine lv_iadd hx hb dc_P_countReplay_14 ?_
  refine va_put (D := (dC, dI)) (ci := 2) (v := .int (rp + ((nI n) - (nI lc)))) (ty := .int) (C := cn_P) (T := ft_P) (N := 11) hx hb htb ki_P fy_P fy_P_ok nm_P_d hown hK hP hD hS 0 rfl rfl 10 (by decide) (htb _ kw_40) (fun _ h9 => h9) rfl (by decide +kernel) rfl rfl (Nat.le_of_ble_eq_true rfl) dc_P_countReplay_15 (fun H locs hP hD hS => ?_)
  have hP : va_P (dC, dI) clsL [zP h a b dn n oc le ll li lc kc (rp + ((nI n) - (nI lc)))] H := hP
  have hD : va_D A [zP h a b dn n oc le ll li lc kc (rp + ((nI n) - (nI lc)))] := hD
  have hP8 := hP.sub (ws' := [zP h a b dn n oc le ll li lc kc (rp + ((nI n) - (nI lc)))]) [0] rfl
  have hD8 := hD.sub (ws' := [zP h a b dn n oc le ll li lc kc (rp + ((nI n) - (nI lc)))]) [0] (by decide) rfl
  have hW8 : ([zP h a b dn n oc le ll li lc kc (rp + ((nI n) - (nI lc)))] : va_W) = [zP h a b dn n oc le ll li lc kc (rp + (nI n - nI lc))] := rfl
  rw [hW8] at hP8 hD8
  have hP9 := hP8
  have hD9 := hD8
  exact W.vret hx hb hr (fun t ht hW => ⟨⟨(), rfl, trivial, by rw [ht]; exact hP9, va_K.moved hW.alike hK, hD9⟩, hS.F ht⟩) hS.2.2 dc_P_countReplay_18

set_option maxHeartbeats 4000000 in
set_option maxRecDepth 100000 in
/-- clear() -/
theorem oc_P_clear (l : Launch) (dC : Nat → ClassId) (dI : Nat → Nat → Nat) (cI cJ cZ cP : ClassId) (sz : Nat) (h : Nat) (a : Nat) (b : Nat) (dn : Bool) (n : Nat) (oc : Nat) (le : Nat) (ll : Int64) (li : Int64) (lc : Nat) (kc : Nat) (rp : Int32)  : mt_V l mn_P_clear bc_P_clear 1 none ({ frames := 0, cells := 0, slots := 0, locals := 0 }) (dC, dI) (TYS cI cJ cZ cP) sz [.ref h] [zP h a b dn n oc le ll li lc kc rp] [zP h a b false 0 0 0 0 0 0 0 (nI 0)] 0 0 := by
  unfold mt_V
  refine Met.ofW (cc := bc_P_clear) (maxL := 1) (ret := none) (by decide) rfl ?_
  intro p e s m args below meth c s₁ B hml hv
  obtain ⟨rfl, hsz, hP, hK, hD0⟩ := hv
  have hx := B.exec
  have hb := B.bytes
  have hr := B.returns
  have hts := atoms_spec (ws := wsT mn_P_clear bc_P_clear 1 none) B.pre
  have htb : ∀ w ∈ gtbl, w.before _ s = true := fun w h => hts w (List.mem_cons_of_mem _ h)
  have hown : s.vm.findClass cn_P = some m.cls := findClass_of_methodNamed B.named
  have hlocks := B.notSynchronized
  subst hsz
  have hD := hD0.self (sz := s.heap.size)
  generalize hAe : va_A [zP h a b dn n oc le ll li lc kc rp] s.heap.size = A at hD ⊢
  have hA : ∀ q : Nat, s.heap.size ≤ q → A q := fun q h => by rw [← hAe]; exact Or.inr h
  have hS : va_S A s.heap s.heap [] := va_S.rf
  have hP : va_P (dC, dI) clsL [zP h a b dn n oc le ll li lc kc rp] s.heap := hP
  have hl := lv_entry ([.ref h]) (n := 1) (Nat.le_of_ble_eq_true rfl)
  rw [lg_entry_eq]
  generalize (lg_sl ([.ref h]) ++ List.replicate (1 - (lg_sl ([.ref h])).length) Slot.unset).toArray = ls at hl ⊢
  have hl : lv_has ls 1 [(0, .ref h)] := hl
  refine lv_aload_n hx hb dc_P_clear_0 rfl (lv_at hl 0 rfl) ?_
  refine lv_iconst (v := nI 0) hx hb dc_P_clear_1 (by decide) ?_
  refine tp_i (y := bI false) rfl ?_
  refine va_put (D := (dC, dI)) (ci := 2) (v := .int (bI false)) (ty := .boolean) (C := cn_P) (T := ft_P) (N := 11) hx hb htb ki_P fy_P fy_P_ok nm_P_d hown hK hP hD hS 0 rfl rfl 2 (by decide) (htb _ kw_26) (fun _ h9 => h9) rfl (by decide +kernel) (bI_nar _) (bI_fit _) (Nat.le_of_ble_eq_true rfl) dc_P_clear_2 (fun H locs hP hD hS => ?_)
  have hP : va_P (dC, dI) clsL [zP h a b false n oc le ll li lc kc rp] H := hP
  have hD : va_D A [zP h a b false n oc le ll li lc kc rp] := hD
  refine lv_aload_n hx hb dc_P_clear_5 rfl (lv_at hl 0 rfl) ?_
  refine lv_iconst (v := nI 0) hx hb dc_P_clear_6 (by decide) ?_
  refine va_put (D := (dC, dI)) (ci := 2) (v := .int (nI 0)) (ty := .int) (C := cn_P) (T := ft_P) (N := 11) hx hb htb ki_P fy_P fy_P_ok nm_P_d hown hK hP hD hS 0 rfl rfl 3 (by decide) (htb _ kw_28) (fun _ h9 => h9) rfl (by decide +kernel) rfl rfl (Nat.le_of_ble_eq_true rfl) dc_P_clear_7 (fun H locs hP hD hS => ?_)
  have hP : va_P (dC, dI) clsL [zP h a b false 0 oc le ll li lc kc rp] H := hP
  have hD : va_D A [zP h a b false 0 oc le ll li lc kc rp] := hD
  refine lv_aload_n hx hb dc_P_clear_10 rfl (lv_at hl 0 rfl) ?_
  refine lv_iconst (v := nI 0) hx hb dc_P_clear_11 (by decide) ?_
  refine va_put (D := (dC, dI)) (ci := 2) (v := .int (nI 0)) (ty := .int) (C := cn_P) (T := ft_P) (N := 11) hx hb htb ki_P fy_P fy_P_ok nm_P_d hown hK hP hD hS 0 rfl rfl 4 (by decide) (htb _ kw_30) (fun _ h9 => h9) rfl (by decide +kernel) rfl rfl (Nat.le_of_ble_eq_true rfl) dc_P_clear_12 (fun H locs hP hD hS => ?_)
  have hP : va_P (dC, dI) clsL [zP h a b false 0 0 le ll li lc kc rp] H := hP
  have hD : va_D A [zP h a b false 0 0 le ll li lc kc rp] := hD
  refine lv_aload_n hx hb dc_P_clear_15 rfl (lv_at hl 0 rfl) ?_
  refine lv_iconst (v := nI 0) hx hb dc_P_clear_16 (by decide) ?_
  refine va_put (D := (dC, dI)) (ci := 2) (v := .int (nI 0)) (ty := .int) (C := cn_P) (T := ft_P) (N := 11) hx hb htb ki_P fy_P fy_P_ok nm_P_d hown hK hP hD hS 0 rfl rfl 5 (by decide) (htb _ kw_32) (fun _ h9 => h9) rfl (by decide +kernel) rfl rfl (Nat.le_of_ble_eq_true rfl) dc_P_clear_17 (fun H locs hP hD hS => ?_)
  have hP : va_P (dC, dI) clsL [zP h a b false 0 0 0 ll li lc kc rp] H := hP
  have hD : va_D A [zP h a b false 0 0 0 ll li lc kc rp] := hD
  refine lv_aload_n hx hb dc_P_clear_20 rfl (lv_at hl 0 rfl) ?_
  refine lv_lconst (v := 0) hx hb dc_P_clear_21 rfl ?_
  refine va_put (D := (dC, dI)) (ci := 2) (v := .long 0) (ty := .long) (C := cn_P) (T := ft_P) (N := 11) hx hb htb ki_P fy_P fy_P_ok nm_P_d hown hK hP hD hS 0 rfl rfl 6 (by decide) (htb _ kw_34) (fun _ h9 => h9) rfl (by decide +kernel) rfl rfl (Nat.le_of_ble_eq_true rfl) dc_P_clear_22 (fun H locs hP hD hS => ?_)
  have hP : va_P (dC, dI) clsL [zP h a b false 0 0 0 0 li lc kc rp] H := hP
  have hD : va_D A [zP h a b false 0 0 0 0 li lc kc rp] := hD
  refine lv_aload_n hx hb dc_P_clear_25 rfl (lv_at hl 0 rfl) ?_
  refine lv_lconst (v := 0) hx hb dc_P_clear_26 rfl ?_
  refine va_put (D := (dC, dI)) (ci := 2) (v := .long 0) (ty := .long) (C := cn_P) (T := ft_P) (N := 11) hx hb htb ki_P fy_P fy_P_ok nm_P_d hown hK hP hD hS 0 rfl rfl 7 (by decide) (htb _ kw_36) (fun _ h9 => h9) rfl (by decide +kernel) rfl rfl (Nat.le_of_ble_eq_true rfl) dc_P_clear_27 (fun H locs hP hD hS => ?_)
  have hP : va_P (dC, dI) clsL [zP h a b false 0 0 0 0 0 lc kc rp] H := hP
  have hD : va_D A [zP h a b false 0 0 0 0 0 lc kc rp] := hD
  refine lv_aload_n hx hb dc_P_clear_30 rfl (lv_at hl 0 rfl) ?_
  refine lv_iconst (v := nI 0) hx hb dc_P_clear_31 (by decide) ?_
  refine va_put (D := (dC, dI)) (ci := 2) (v := .int (nI 0)) (ty := .int) (C := cn_P) (T := ft_P) (N := 11) hx hb htb ki_P fy_P fy_P_ok nm_P_d hown hK hP hD hS 0 rfl rfl 8 (by decide) (htb _ kw_38) (fun _ h9 => h9) rfl (by decide +kernel) rfl rfl (Nat.le_of_ble_eq_true rfl) dc_P_clear_32 (fun H locs hP hD hS => ?_)
  have hP : va_P (dC, dI) clsL [zP h a b false 0 0 0 0 0 0 kc rp] H := hP
  have hD : va_D A [zP h a b false 0 0 0 0 0 0 kc rp] := hD
  refine lv_aload_n hx hb dc_P_clear_35 rfl (lv_at hl 0 rfl) ?_
  refine lv_iconst (v := nI 0) hx hb dc_P_clear_36 (by decide) ?_
  refine va_put (D := (dC, dI)) (ci := 2) (v := .int (nI 0)) (ty := .int) (C := cn_P) (T := ft_P) (N := 11) hx hb htb ki_P fy_P fy_P_ok nm_P_d hown hK hP hD hS 0 rfl rfl 9 (by decide) (htb _ kw_39) (fun _ h9 => h9) rfl (by decide +kernel) rfl rfl (Nat.le_of_ble_eq_true rfl) dc_P_clear_37 (fun H locs hP hD hS => ?_)
  have hP : va_P (dC, dI) clsL [zP h a b false 0 0 0 0 0 0 0 rp] H := hP
  have hD : va_D A [zP h a b false 0 0 0 0 0 0 0 rp] := hD
  refine lv_aload_n hx hb dc_P_clear_40 rfl (lv_at hl 0 rfl) ?_
  refine lv_iconst (v := nI 0) hx hb dc_P_clear_41 (by decide) ?_
  refine va_put (D := (dC, dI)) (ci := 2) (v := .int (nI 0)) (ty := .int) (C := cn_P) (T := ft_P) (N := 11) hx hb htb ki_P fy_P fy_P_ok nm_P_d hown hK hP hD hS 0 rfl rfl 10 (by decide) (htb _ kw_40) (fun _ h9 => h9) rfl (by decide +kernel) rfl rfl (Nat.le_of_ble_eq_true rfl) dc_P_clear_42 (fun H locs hP hD hS => ?_)
  have hP : va_P (dC, dI) clsL [(h, .inr (2, [.ref a, .ref b, .int (bI false), .int (nI 0), .int (nI 0), .int (nI 0), .long 0, .long 0, .int (nI 0), .int (nI 0), .int (nI 0)]))] H := hP
  have hD : va_D A [(h, .inr (2, [.ref a, .ref b, .int (bI false), .int (nI 0), .int (nI 0), .int (nI 0), .long 0, .long 0, .int (nI 0), .int (nI 0), .int (nI 0)]))] := hD
  have hP8 := hP.sub (ws' := [(h, .inr (2, [.ref a, .ref b, .int (bI false), .int (nI 0), .int (nI 0), .int (nI 0), .long 0, .long 0, .int (nI 0), .int (nI 0), .int (nI 0)]))]) [0] rfl
  have hD8 := hD.sub (ws' := [(h, .inr (2, [.ref a, .ref b, .int (bI false), .int (nI 0), .int (nI 0), .int (nI 0), .long 0, .long 0, .int (nI 0), .int (nI 0), .int (nI 0)]))]) [0] (by decide) rfl
  have hW8 : ([(h, .inr (2, [.ref a, .ref b, .int (bI false), .int (nI 0), .int (nI 0), .int (nI 0), .long 0, .long 0, .int (nI 0), .int (nI 0), .int (nI 0)]))] : va_W) = [zP h a b false 0 0 0 0 0 0 0 (nI 0)] := rfl
  rw [hW8] at hP8 hD8
  have hP9 := hP8
  have hD9 := hD8
  exact W.vret hx hb hr (fun t ht hW => ⟨⟨(), rfl, trivial, by rw [ht]; exact hP9, va_K.moved hW.alike hK, hD9⟩, hS.F ht⟩) hS.2.2 dc_P_clear_45

