set_option maxHeartbeats 4000000 in
set_option maxRecDepth 100000 in
/-- bitCount, step by step -/
theorem oc_B_bitCount_raw (l : Launch) (dC : Nat → ClassId) (dI : Nat → Nat → Nat) (cI cJ cZ cP : ClassId) (sz : Nat) (z0 : Int64) (z1 : Int64) (z2 : Int64) (z3 : Int64) (z4 : Int64) (z5 : Int64) (z6 : Int64) (e1 : z0 - ((z0.toUInt64 >>> ((nI 1).toInt64.toUInt64 &&& Int64.toUInt64 63)).toInt64 &&& (6148914691236517205)) = z1) (e2 : (z1 &&& (3689348814741910323)) + ((z1.toUInt64 >>> ((nI 2).toInt64.toUInt64 &&& Int64.toUInt64 63)).toInt64 &&& (3689348814741910323)) = z2) (e3 : (z2 + (z2.toUInt64 >>> ((nI 4).toInt64.toUInt64 &&& Int64.toUInt64 63)).toInt64) &&& (1085102592571150095) = z3) (e4 : z3 + (z3.toUInt64 >>> ((nI 8).toInt64.toUInt64 &&& Int64.toUInt64 63)).toInt64 = z4) (e5 : z4 + (z4.toUInt64 >>> ((nI 16).toInt64.toUInt64 &&& Int64.toUInt64 63)).toInt64 = z5) (e6 : z5 + (z5.toUInt64 >>> ((nI 32).toInt64.toUInt64 &&& Int64.toUInt64 63)).toInt64 = z6) : mt_I l mn_B_bitCount bc_B_bitCount 2 (some .int) ({ frames := 0, cells := 0, slots := 0, locals := 0 }) (dC, dI) (TYS cI cJ cZ cP) sz [.long z0] [] [] ((z6.toInt32 &&& nI 127)) 0 0 := by
  unfold mt_I
  refine Met.ofW (cc := bc_B_bitCount) (maxL := 2) (ret := (some .int)) (by decide) rfl ?_
  intro p e s m args below meth c s₁ B hml hv
  obtain ⟨rfl, hsz, hP, hK, hD0⟩ := hv
  have hx := B.exec
  have hb := B.bytes
  have hr := B.returns
  have hts := atoms_spec (ws := wsT mn_B_bitCount bc_B_bitCount 2 (some .int)) B.pre
  have htb : ∀ w ∈ gtbl, w.before _ s = true := fun w h => hts w (List.mem_cons_of_mem _ h)
  have hown : s.vm.findClass cn_B = some m.cls := findClass_of_methodNamed B.named
  have hlocks := B.notSynchronized
  subst hsz
  have hD := hD0.self (sz := s.heap.size)
  generalize hAe : va_A [] s.heap.size = A at hD ⊢
  have hA : ∀ q : Nat, s.heap.size ≤ q → A q := fun q h => by rw [← hAe]; exact Or.inr h
  have hS : va_S A s.heap s.heap [] := va_S.rf
  have hP : va_P (dC, dI) clsL [] s.heap := hP
  have hl := lv_entry ([.long z0]) (n := 2) (Nat.le_of_ble_eq_true rfl)
  rw [lg_entry_eq]
  generalize (lg_sl ([.long z0]) ++ List.replicate (2 - (lg_sl ([.long z0])).length) Slot.unset).toArray = ls at hl ⊢
  have hl : lv_has ls 2 [(0, .long z0)] := hl
  refine lv_lload_n hx hb dc_B_bitCount_0 rfl (lv_at hl 0 rfl) ?_
  refine lv_lload_n hx hb dc_B_bitCount_1 rfl (lv_at hl 0 rfl) ?_
  refine lv_iconst (v := nI 1) hx hb dc_B_bitCount_2 (by decide) ?_
  refine lv_lushr (v := (z0.toUInt64 >>> ((nI 1).toInt64.toUInt64 &&& Int64.toUInt64 63)).toInt64) hx hb dc_B_bitCount_3 rfl ?_
  refine lv_ldc2 (v := 6148914691236517205) hx hb hown (htb _ kw_235) dc_B_bitCount_4 ?_
  refine lv_land hx hb dc_B_bitCount_7 ?_
  refine lv_lsub hx hb dc_B_bitCount_8 ?_
  refine tp_l (y := z1) (e1) ?_
  refine lv_lstore_n (lv' := [(0, .long z1)]) hx hb dc_B_bitCount_9 rfl hl (by decide) rfl (fun ls hl => ?_)
  refine lv_lload_n hx hb dc_B_bitCount_10 rfl (lv_at hl 0 rfl) ?_
  refine lv_ldc2 (v := 3689348814741910323) hx hb hown (htb _ kw_236) dc_B_bitCount_11 ?_
  refine lv_land hx hb dc_B_bitCount_14 ?_
  refine lv_lload_n hx hb dc_B_bitCount_15 rfl (lv_at hl 0 rfl) ?_
  refine lv_iconst (v := nI 2) hx hb dc_B_bitCount_16 (by decide) ?_
  refine lv_lushr (v := (z1.toUInt64 >>> ((nI 2).toInt64.toUInt64 &&& Int64.toUInt64 63)).toInt64) hx hb dc_B_bitCount_17 rfl ?_
  refine lv_ldc2 (v := 3689348814741910323) hx hb hown (htb _ kw_236) dc_B_bitCount_18 ?_
  refine lv_land hx hb dc_B_bitCount_21 ?_
  refine lv_ladd hx hb dc_B_bitCount_22 ?_
  refine tp_l (y := z2) (e2) ?_
  refine lv_lstore_n (lv' := [(0, .long z2)]) hx hb dc_B_bitCount_23 rfl hl (by decide) rfl (fun ls hl => ?_)
  refine lv_lload_n hx hb dc_B_bitCount_24 rfl (lv_at hl 0 rfl) ?_
  refine lv_lload_n hx hb dc_B_bitCount_25 rfl (lv_at hl 0 rfl) ?_
  refine lv_iconst (v := nI 4) hx hb dc_B_bitCount_26 (by decide) ?_
  refine lv_lushr (v := (z2.toUInt64 >>> ((nI 4).toInt64.toUInt64 &&& Int64.toUInt64 63)).toInt64) hx hb dc_B_bitCount_27 rfl ?_
  refine lv_ladd hx hb dc_B_bitCount_28 ?_
  refine lv_ldc2 (v := 1085102592571150095) hx hb hown (htb _ kw_237) dc_B_bitCount_29 ?_
  refine lv_land hx hb dc_B_bitCount_32 ?_
  refine tp_l (y := z3) (e3) ?_
  refine lv_lstore_n (lv' := [(0, .long z3)]) hx hb dc_B_bitCount_33 rfl hl (by decide) rfl (fun ls hl => ?_)
  refine lv_lload_n hx hb dc_B_bitCount_34 rfl (lv_at hl 0 rfl) ?_
  refine lv_lload_n hx hb dc_B_bitCount_35 rfl (lv_at hl 0 rfl) ?_
  refine lv_bipush (v := nI 8) hx hb dc_B_bitCount_36 (by decide) ?_
  refine lv_lushr (v := (z3.toUInt64 >>> ((nI 8).toInt64.toUInt64 &&& Int64.toUInt64 63)).toInt64) hx hb dc_B_bitCount_38 rfl ?_
  refine lv_ladd hx hb dc_B_bitCount_39 ?_
  refine tp_l (y := z4) (e4) ?_
  refine lv_lstore_n (lv' := [(0, .long z4)]) hx hb dc_B_bitCount_40 rfl hl (by decide) rfl (fun ls hl => ?_)
  refine lv_lload_n hx hb dc_B_bitCount_41 rfl (lv_at hl 0 rfl) ?_
  refine lv_lload_n hx hb dc_B_bitCount_42 rfl (lv_at hl 0 rfl) ?_
  refine lv_bipush (v := nI 16) hx hb dc_B_bitCount_43 (by decide) ?_
  refine lv_lushr (v := (z4.toUInt64 >>> ((nI 16).toInt64.toUInt64 &&& Int64.toUInt64 63)).toInt64) hx hb dc_B_bitCount_45 rfl ?_
  refine lv_ladd hx hb dc_B_bitCount_46 ?_
  refine tp_l (y := z5) (e5) ?_
  refine lv_lstore_n (lv' := [(0, .long z5)]) hx hb dc_B_bitCount_47 rfl hl (by decide) rfl (fun ls hl => ?_)
  refine lv_lload_n hx hb dc_B_bitCount_48 rfl (lv_at hl 0 rfl) ?_
  refine lv_lload_n hx hb dc_B_bitCount_49 rfl (lv_at hl 0 rfl) ?_
  refine lv_bipush (v := nI 32) hx hb dc_B_bitCount_50 (by decide) ?_
  refine lv_lushr (v := (z5.toUInt64 >>> ((nI 32).toInt64.toUInt64 &&& Int64.toUInt64 63)).toInt64) hx hb dc_B_bitCount_52 rfl ?_
  refine lv_ladd hx hb dc_B_bitCount_53 ?_
  refine tp_l (y := z6) (e6) ?_
  refine lv_lstore_n (lv' := [(0, .long z6)]) hx hb dc_B_bitCount_54 rfl hl (by decide) rfl (fun ls hl => ?_)
  refine lv_lload_n hx hb dc_B_bitCount_55 rfl (lv_at hl 0 rfl) ?_
  refine lv_l2i (v := z6.toInt32) hx hb dc_B_bitCount_56 rfl ?_
  refine lv_bipush (v := nI 127) hx hb dc_B_bitCount_57 (by decide) ?_
  refine lv_iand hx hb dc_B_bitCount_59 ?_
  have hP9 := hP.sub (ws' := []) [] rfl
  have hD9 := hD.sub (ws' := []) [] (by decide) rfl
  exact W.iret (v := z6.toInt32 &&& (nI 127)) hx hb hr (fun t ht hW => ⟨⟨_, (), rfl, rfl, by rw [ht]; exact hP9, va_K.moved hW.alike hK, hD9⟩, hS.F ht⟩) hS.2.2 dc_B_bitCount_60

set_option maxHeartbeats 4000000 in
theorem oc_B_bitCount (l : Launch) (dC : Nat → ClassId) (dI : Nat → Nat → Nat) (cI cJ cZ cP : ClassId) (sz : Nat) (z0 : Int64)  : mt_I l mn_B_bitCount bc_B_bitCount 2 (some .int) ({ frames := 0, cells := 0, slots := 0, locals := 0 }) (dC, dI) (TYS cI cJ cZ cP) sz [.long z0] [] [] (nI (pc64 z0)) 0 0 := by
  have h := oc_B_bitCount_raw l dC dI cI cJ cZ cP sz z0 _ _ _ _ _ _ rfl rfl rfl rfl rfl rfl
  rw [swar (z0 := z0) rfl rfl rfl rfl rfl rfl] at h
  exact h

set_option maxHeartbeats 4000000 in
set_option maxRecDepth 100000 in
theorem oc_O_isProcess_no (l : Launch) (dC : Nat → ClassId) (dI : Nat → Nat → Nat) (cI cJ cZ cP : ClassId) (sz : Nat) (y : Int32) (hy : y < 0 ∨ nI 3 ≤ y) : mt_I l mn_O_isProcess bc_O_isProcess 1 (some .boolean) ({ frames := 0, cells := 0, slots := 0, locals := 0 }) (dC, dI) (TYS cI cJ cZ cP) sz [.int y] [] [] (bI false) 0 0 := by
  unfold mt_I
  refine Met.ofW (cc := bc_O_isProcess) (maxL := 1) (ret := (some .boolean)) (by decide) rfl ?_
  intro p e s m args below meth c s₁ B hml hv
  obtain ⟨rfl, hsz, hP, hK, hD0⟩ := hv
  have hx := B.exec
  have hb := B.bytes
  have hr := B.returns
  have hts := atoms_spec (ws := wsT mn_O_isProcess bc_O_isProcess 1 (some .boolean)) B.pre
  have htb : ∀ w ∈ gtbl, w.before _ s = true := fun w h => hts w (List.mem_cons_of_mem _ h)
  have hown : s.vm.findClass cn_O = some m.cls := findClass_of_methodNamed B.named
  have hlocks := B.notSynchronized
  subst hsz
  have hD := hD0.self (sz := s.heap.size)
  generalize hAe : va_A [] s.heap.size = A at hD ⊢
  have hA : ∀ q : Nat, s.heap.size ≤ q → A q := fun q h => by rw [← hAe]; exact Or.inr h
  have hS : va_S A s.heap s.heap [] := va_S.rf
  have hP : va_P (dC, dI) clsL [] s.heap := hP
  have hl := lv_entry ([.int y]) (n := 1) (Nat.le_of_ble_eq_true rfl)
  rw [lg_entry_eq]
  generalize (lg_sl ([.int y]) ++ List.replicate (1 - (lg_sl ([.int y])).length) Slot.unset).toArray = ls at hl ⊢
  have hl : lv_has ls 1 [(0, .int y)] := hl
  refine lv_iload_n hx hb dc_O_isProcess_0 rfl (lv_at hl 0 rfl) ?_
  refine lv_if_lt (tgt := 13) hx hb dc_O_isProcess_1 (by decide) (fun hc => ?_) (fun hc => ?_)
  · have h1 := hc
    refine lv_iconst (v := nI 0) hx hb dc_O_isProcess_13 (by decide) ?_
    have hP9 := hP.sub (ws' := []) [] rfl
    have hD9 := hD.sub (ws' := []) [] (by decide) rfl
    exact W.zret (v := nI 0) (ty := .boolean) hx hb hr (rfl) (fun t ht hW => ⟨⟨_, (), rfl, rfl, by rw [ht]; exact hP9, va_K.moved hW.alike hK, hD9⟩, hS.F ht⟩) hS.2.2 dc_O_isProcess_14
  · have h1 := hc
    refine lv_iload_n hx hb dc_O_isProcess_4 rfl (lv_at hl 0 rfl) ?_
    refine lv_iconst (v := nI 3) hx hb dc_O_isProcess_5 (by decide) ?_
    refine lv_icmp_ge (tgt := 13) hx hb dc_O_isProcess_6 (by decide) (fun hc => ?_) (fun hc => ?_)
    rotate_left
    · have h2 := hc
      exact absurd hy (fun q => q.elim h1 h2)
    have h2 := hc
    refine lv_iconst (v := nI 0) hx hb dc_O_isProcess_13 (by decide) ?_
    have hP9 := hP.sub (ws' := []) [] rfl
    have hD9 := hD.sub (ws' := []) [] (by decide) rfl
    exact W.zret (v := nI 0) (ty := .boolean) hx hb hr (rfl) (fun t ht hW => ⟨⟨_, (), rfl, rfl, by rw [ht]; exact hP9, va_K.moved hW.alike hK, hD9⟩, hS.F ht⟩) hS.2.2 dc_O_isProcess_14

set_option maxHeartbeats 4000000 in
set_option maxRecDepth 100000 in
theorem oc_O_isProcess (l : Launch) (dC : Nat → ClassId) (dI : Nat → Nat → Nat) (cI cJ cZ cP : ClassId) (sz : Nat) (j : Nat) (hj : j < 3) : mt_I l mn_O_isProcess bc_O_isProcess 1 (some .boolean) ({ frames := 0, cells := 0, slots := 0, locals := 0 }) (dC, dI) (TYS cI cJ cZ cP) sz [.int (nI j)] [] [] (bI true) 0 0 := by
  unfold mt_I
  refine Met.ofW (cc := bc_O_isProcess) (maxL := 1) (ret := (some .boolean)) (by decide) rfl ?_
  intro p e s m args below meth c s₁ B hml hv
  obtain ⟨rfl, hsz, hP, hK, hD0⟩ := hv
  have hx := B.exec
  have hb := B.bytes
  have hr := B.returns
  have hts := atoms_spec (ws := wsT mn_O_isProcess bc_O_isProcess 1 (some .boolean)) B.pre
  have htb : ∀ w ∈ gtbl, w.before _ s = true := fun w h => hts w (List.mem_cons_of_mem _ h)
  have hown : s.vm.findClass cn_O = some m.cls := findClass_of_methodNamed B.named
  have hlocks := B.notSynchronized
  subst hsz
  have hD := hD0.self (sz := s.heap.size)
  generalize hAe : va_A [] s.heap.size = A at hD ⊢
  have hA : ∀ q : Nat, s.heap.size ≤ q → A q := fun q h => by rw [← hAe]; exact Or.inr h
  have hS : va_S A s.heap s.heap [] := va_S.rf
  have hP : va_P (dC, dI) clsL [] s.heap := hP
  have hl := lv_entry ([.int (nI j)]) (n := 1) (Nat.le_of_ble_eq_true rfl)
  rw [lg_entry_eq]
  generalize (lg_sl ([.int (nI j)]) ++ List.replicate (1 - (lg_sl ([.int (nI j)])).length) Slot.unset).toArray = ls at hl ⊢
  have hl : lv_has ls 1 [(0, .int (nI j))] := hl
  refine lv_iload_n hx hb dc_O_isProcess_0 rfl (lv_at hl 0 rfl) ?_
  refine lv_if_lt (tgt := 13) hx hb dc_O_isProcess_1 (by decide) (fun hc => ?_) (fun hc => ?_)
  · have h1 : False := nI_pos (by omega) hc
    exact h1.elim
  have h1 : 0 ≤ j := Nat.zero_le _
  refine lv_iload_n hx hb dc_O_isProcess_4 rfl (lv_at hl 0 rfl) ?_
  refine lv_iconst (v := nI 3) hx hb dc_O_isProcess_5 (by decide) ?_
  refine lv_icmp_ge (tgt := 13) hx hb dc_O_isProcess_6 (by decide) (fun hc => ?_) (fun hc => ?_)
  · have h2 : 3 ≤ j := (nI_leI (by omega) (by omega)).mp hc
    exact absurd h2 (by omega)
  have h2 : j < 3 := Nat.lt_of_not_le (fun h9 => hc ((nI_leI (by omega) (by omega)).mpr h9))
  refine lv_iconst (v := nI 1) hx hb dc_O_isProcess_9 (by decide) ?_
  refine lv_goto (tgt := 14) hx hb dc_O_isProcess_10 (by decide) ?_
  have hP9 := hP.sub (ws' := []) [] rfl
  have hD9 := hD.sub (ws' := []) [] (by decide) rfl
  exact W.zret (v := nI 1) (ty := .boolean) hx hb hr (rfl) (fun t ht hW => ⟨⟨_, (), rfl, rfl, by rw [ht]; exact hP9, va_K.moved hW.alike hK, hD9⟩, hS.F ht⟩) hS.2.2 dc_O_isProcess_14

set_option maxHeartbeats 4000000 in
set_option maxRecDepth 100000 in
theorem oc_O_isUp_no (l : Launch) (dC : Nat → ClassId) (dI : Nat → Nat → Nat) (cI cJ cZ cP : ClassId) (sz : Nat) (o0 : Nat) (oa : Nat) (i0 : Nat) (m0 : Nat) (nn : Nat) (y : Int32) (hy : y < 0 ∨ nI 3 ≤ y) : mt_I l mn_O_isUp bc_O_isUp 2 (some .boolean) ({ frames := 1, cells := 0, slots := 0, locals := 20 }) (dC, dI) (TYS cI cJ cZ cP) sz [.ref o0, .int y] [zO o0 oa i0 m0 nn] [zO o0 oa i0 m0 nn] (bI false) 0 0 := by
  unfold mt_I
  refine Met.ofW (cc := bc_O_isUp) (maxL := 2) (ret := (some .boolean)) (by decide) rfl ?_
  intro p e s m args below meth c s₁ B hml hv
  obtain ⟨rfl, hsz, hP, hK, hD0⟩ := hv
  have hx := B.exec
  have hb := B.bytes
  have hr := B.returns
  have hts := atoms_spec (ws := wsT mn_O_isUp bc_O_isUp 2 (some .boolean)) B.pre
  have htb : ∀ w ∈ gtbl, w.before _ s = true := fun w h => hts w (List.mem_cons_of_mem _ h)
  have hown : s.vm.findClass cn_O = some m.cls := findClass_of_methodNamed B.named
  have hlocks := B.notSynchronized
  subst hsz
  have hD := hD0.self (sz := s.heap.size)
  generalize hAe : va_A [zO o0 oa i0 m0 nn] s.heap.size = A at hD ⊢
  have hA : ∀ q : Nat, s.heap.size ≤ q → A q := fun q h => by rw [← hAe]; exact Or.inr h
  have hS : va_S A s.heap s.heap [] := va_S.rf
  have hP : va_P (dC, dI) clsL [zO o0 oa i0 m0 nn] s.heap := hP
  have hl := lv_entry ([.ref o0, .int y]) (n := 2) (Nat.le_of_ble_eq_true rfl)
  rw [lg_entry_eq]
  generalize (lg_sl ([.ref o0, .int y]) ++ List.replicate (2 - (lg_sl ([.ref o0, .int y])).length) Slot.unset).toArray = ls at hl ⊢
  have hl : lv_has ls 2 [(0, .ref o0), (1, .int y)] := hl
  refine lv_iload_n hx hb dc_O_isUp_0 rfl (lv_at hl 1 rfl) ?_
  refine cl_i (wc := []) (wr := [zO o0 oa i0 m0 nn]) (w1 := []) hP hD hS hA [] [0] rfl rfl (by decide) (by decide) (va_runS (As := [.int y]) (rest := []) ⟨hx, hb, hml, hown, htb⟩ (oc_O_isProcess_no l dC dI cI cJ cZ cP _ y (by first | assumption | omega)) (va_cwS 1 htb (gw_S kw_172 kw_173 kw_1 kw_174) rfl rfl rfl (by decide +kernel) ⟨Nat.le_of_ble_eq_true rfl, Nat.le_of_ble_eq_true rfl⟩) (pr_S hP hK hD [] (by decide) rfl rfl) rfl rfl hl.1 rfl (lv_room (Nat.le_of_ble_eq_true rfl)) dc_O_isUp_1 ⟨Nat.le_of_ble_eq_true rfl, Nat.le_of_ble_eq_true rfl⟩) (fun H locs hP hD hS => ?_)
  have hP : va_P (dC, dI) clsL [zO o0 oa i0 m0 nn] H := hP.sub (ws' := [zO o0 oa i0 m0 nn]) [0] rfl
  have hD : va_D A [zO o0 oa i0 m0 nn] := hD.sub (ws' := [zO o0 oa i0 m0 nn]) [0] (by decide) rfl
  refine lv_if_eq (tgt := 23) hx hb dc_O_isUp_4 (by decide) (fun hc => ?_) (fun hc => ?_)
  rotate_left
  · have h1 : false = true := bI_n0.mp hc
    exact absurd h1 (by decide)
  have h1 : false = false := bI_0.mp hc
  refine lv_iconst (v := nI 0) hx hb dc_O_isUp_23 (by decide) ?_
  have hP9 := hP.sub (ws' := [zO o0 oa i0 m0 nn]) [0] rfl
  have hD9 := hD.sub (ws' := [zO o0 oa i0 m0 nn]) [0] (by decide) rfl
  exact W.zret (v := nI 0) (ty := .boolean) hx hb hr (rfl) (fun t ht hW => ⟨⟨_, (), rfl, rfl, by rw [ht]; exact hP9, va_K.moved hW.alike hK, hD9⟩, hS.F ht⟩) hS.2.2 dc_O_isUp_24

set_option maxHeartbeats 4000000 in
set_option maxRecDepth 100000 in
theorem oc_O_isUp (l : Launch) (dC : Nat → ClassId) (dI : Nat → Nat → Nat) (cI cJ cZ cP : ClassId) (sz : Nat) (o0 : Nat) (oa : Nat) (i0 : Nat) (m0 : Nat) (nn : Nat) (pf : Nat → Option Nat) (h : Nat) (a : Nat) (b : Nat) (dn : Bool) (n : Nat) (oc : Nat) (le : Nat) (ll : Int64) (li : Int64) (lc : Nat) (kc : Nat) (rp : Int32) (j : Nat) (hj : j < 3) (hf : pf j = some h) : mt_I l mn_O_isUp bc_O_isUp 2 (some .boolean) ({ frames := 1, cells := 0, slots := 0, locals := 20 }) (dC, dI) (TYS cI cJ cZ cP) sz [.ref o0, .int (nI j)] [zO o0 oa i0 m0 nn, (oa, .inl (cP, 3, .inr (.inr (.inr (.inr pf))))), zP h a b dn n oc le ll li lc kc rp] [zO o0 oa i0 m0 nn, (oa, .inl (cP, 3, .inr (.inr (.inr (.inr pf))))), zP h a b dn n oc le ll li lc kc rp] (bI (!dn)) 0 0 := by
  unfold mt_I
  refine Met.ofW (cc := bc_O_isUp) (maxL := 2) (ret := (some .boolean)) (by decide) rfl ?_
  intro p e s m args below meth c s₁ B hml hv
  obtain ⟨rfl, hsz, hP, hK, hD0⟩ := hv
  have hx := B.exec
  have hb := B.bytes
  have hr := B.returns
  have hts := atoms_spec (ws := wsT mn_O_isUp bc_O_isUp 2 (some .boolean)) B.pre
  have htb : ∀ w ∈ gtbl, w.before _ s = true := fun w h => hts w (List.mem_cons_of_mem _ h)
  have hown : s.vm.findClass cn_O = some m.cls := findClass_of_methodNamed B.named
  have hlocks := B.notSynchronized
  subst hsz
  have hD := hD0.self (sz := s.heap.size)
  generalize hAe : va_A [zO o0 oa i0 m0 nn, (oa, .inl (cP, 3, .inr (.inr (.inr (.inr pf))))), zP h a b dn n oc le ll li lc kc rp] s.heap.size = A at hD ⊢
  have hA : ∀ q : Nat, s.heap.size ≤ q → A q := fun q h => by rw [← hAe]; exact Or.inr h
  have hS : va_S A s.heap s.heap [] := va_S.rf
  have hP : va_P (dC, dI) clsL [zO o0 oa i0 m0 nn, (oa, .inl (cP, 3, .inr (.inr (.inr (.inr pf))))), zP h a b dn n oc le ll li lc kc rp] s.heap := hP
  have hl := lv_entry ([.ref o0, .int (nI j)]) (n := 2) (Nat.le_of_ble_eq_true rfl)
  rw [lg_entry_eq]
  generalize (lg_sl ([.ref o0, .int (nI j)]) ++ List.replicate (2 - (lg_sl ([.ref o0, .int (nI j)])).length) Slot.unset).toArray = ls at hl ⊢
  have hl : lv_has ls 2 [(0, .ref o0), (1, .int (nI j))] := hl
  refine lv_iload_n hx hb dc_O_isUp_0 rfl (lv_at hl 1 rfl) ?_
  refine cl_i (wc := []) (wr := [zO o0 oa i0 m0 nn, (oa, .inl (cP, 3, .inr (.inr (.inr (.inr pf))))), zP h a b dn n oc le ll li lc kc rp]) (w1 := []) hP hD hS hA [] [0, 1, 2] rfl rfl (by decide) (by decide) (va_runS (As := [.int (nI j)]) (rest := []) ⟨hx, hb, hml, hown, htb⟩ (oc_O_isProcess l dC dI cI cJ cZ cP _ j (by first | assumption | omega)) (va_cwS 1 htb (gw_S kw_172 kw_173 kw_1 kw_174) rfl rfl rfl (by decide +kernel) ⟨Nat.le_of_ble_eq_true rfl, Nat.le_of_ble_eq_true rfl⟩) (pr_S hP hK hD [] (by decide) rfl rfl) rfl rfl hl.1 rfl (lv_room (Nat.le_of_ble_eq_true rfl)) dc_O_isUp_1 ⟨Nat.le_of_ble_eq_true rfl, Nat.le_of_ble_eq_true rfl⟩) (fun H locs hP hD hS => ?_)
  have hP : va_P (dC, dI) clsL [zO o0 oa i0 m0 nn, (oa, .inl (cP, 3, .inr (.inr (.inr (.inr pf))))), zP h a b dn n oc le ll li lc kc rp] H := hP.sub (ws' := [zO o0 oa i0 m0 nn, (oa, .inl (cP, 3, .inr (.inr (.inr (.inr pf))))), zP h a b dn n oc le ll li lc kc rp]) [0, 1, 2] rfl
  have hD : va_D A [zO o0 oa i0 m0 nn, (oa, .inl (cP, 3, .inr (.inr (.inr (.inr pf))))), zP h a b dn n oc le ll li lc kc rp] := hD.sub (ws' := [zO o0 oa i0 m0 nn, (oa, .inl (cP, 3, .inr (.inr (.inr (.inr pf))))), zP h a b dn n oc le ll li lc kc rp]) [0, 1, 2] (by decide) rfl
  refine lv_if_eq (tgt := 23) hx hb dc_O_isUp_4 (by decide) (fun hc => ?_) (fun hc => ?_)
  · have h1 : true = false := bI_0.mp hc
    exact absurd h1 (by decide)
  have h1 : true = true := bI_n0.mp hc
  refine lv_aload_n hx hb dc_O_isUp_7 rfl (lv_at hl 0 rfl) ?_
  refine va_get (D := (dC, dI)) (ci := 3) (v := .ref oa) (C := cn_O) (T := ft_O) (N := 4) hx hb htb ki_O hown hK hP 0 rfl rfl 0 (by decide) (htb _ kw_139) (fun _ h9 => h9) rfl dc_O_isUp_8 ?_
  refine lv_iload_n hx hb dc_O_isUp_11 rfl (lv_at hl 1 rfl) ?_
  refine wa_ald hx hb hK hP 1 3 rfl rfl (k := j) (by omega) (by omega) (v := h) (hf) dc_O_isUp_12 ?_
  refine va_get (D := (dC, dI)) (ci := 2) (v := .int (bI dn)) (C := cn_P) (T := ft_P) (N := 11) hx hb htb ki_P hown hK hP 2 rfl rfl 2 (by decide) (htb _ kw_27) (fun _ h9 => h9) rfl dc_O_isUp_13 ?_
  refine lv_if_ne (tgt := 23) hx hb dc_O_isUp_16 (by decide) (fun hc => ?_) (fun hc => ?_)
  · have h2 : dn = true := bI_n0.mp hc
    refine lv_iconst (v := nI 0) hx hb dc_O_isUp_23 (by decide) ?_
    have hP9 := hP.sub (ws' := [zO o0 oa i0 m0 nn, (oa, .inl (cP, 3, .inr (.inr (.inr (.inr pf))))), zP h a b dn n oc le ll li lc kc rp]) [0, 1, 2] rfl
    have hD9 := hD.sub (ws' := [zO o0 oa i0 m0 nn, (oa, .inl (cP, 3, .inr (.inr (.inr (.inr pf))))), zP h a b dn n oc le ll li lc kc rp]) [0, 1, 2] (by decide) rfl
    exact W.zret (v := nI 0) (ty := .boolean) hx hb hr (rfl) (fun t ht hW => ⟨⟨_, (), rfl, by rw [h2]; rfl, by rw [ht]; exact hP9, va_K.moved hW.alike hK, hD9⟩, hS.F ht⟩) hS.2.2 dc_O_isUp_24
  · have h2 : dn = false := bI_0.mp hc
    refine lv_iconst (v := nI 1) hx hb dc_O_isUp_19 (by decide) ?_
    refine lv_goto (tgt := 24) hx hb dc_O_isUp_20 (by decide) ?_
    have hP9 := hP.sub (ws' := [zO o0 oa i0 m0 nn, (oa, .inl (cP, 3, .inr (.inr (.inr (.inr pf))))), zP h a b dn n oc le ll li lc kc rp]) [0, 1, 2] rfl
    have hD9 := hD.sub (ws' := [zO o0 oa i0 m0 nn, (oa, .inl (cP, 3, .inr (.inr (.inr (.inr pf))))), zP h a b dn n oc le ll li lc kc rp]) [0, 1, 2] (by decide) rfl
    exact W.zret (v := nI 1) (ty := .boolean) hx hb hr (rfl) (fun t ht hW => ⟨⟨_, (), rfl, by rw [h2]; rfl, by rw [ht]; exact hP9, va_K.moved hW.alike hK, hD9⟩, hS.F ht⟩) hS.2.2 dc_O_isUp_24

set_option maxHeartbeats 4000000 in
set_option maxRecDepth 100000 in
theorem oc_O_stateAtEnd (l : Launch) (dC : Nat → ClassId) (dI : Nat → Nat → Nat) (cI cJ cZ cP : ClassId) (sz : Nat) (o0 : Nat) (oa : Nat) (i0 : Nat) (m0 : Nat) (nn : Nat) (h : Nat) (a : Nat) (b : Nat) (dn : Bool) (n : Nat) (oc : Nat) (le : Nat) (ll : Int64) (li : Int64) (lc : Nat) (kc : Nat) (rp : Int32) (i1 : Nat) (i2 : Nat) (i3 : Nat) (i4 : Nat) (cn : Nat) (sS : Int64) (lS : Int64) (rS : Int64) (ch : Nat → Nat) (sv : Nat → Int32) (hn : n ≤ 40) (hch : ∀ k, k < n → ch k < 40) : mt_I l mn_O_stateAtEnd bc_O_stateAtEnd 3 (some .int) ({ frames := 0, cells := 0, slots := 0, locals := 0 }) (dC, dI) (TYS cI cJ cZ cP) sz [.ref o0, .ref h] [zO o0 oa i0 m0 nn, zP h a b dn n oc le ll li lc kc rp, (a, .inl (cI, 40, .inl (nF ch))), zI i0 i1 i2 i3 i4 cn sS lS rS, (i1, .inl (cI, 40, .inl sv))] [zO o0 oa i0 m0 nn, zP h a b dn n oc le ll li lc kc rp, (a, .inl (cI, 40, .inl (nF ch))), zI i0 i1 i2 i3 i4 cn sS lS rS, (i1, .inl (cI, 40, .inl sv))] ((sae sv ch n)) 0 0 := by
  unfold mt_I
  refine Met.ofW (cc := bc_O_stateAtEnd) (maxL := 3) (ret := (some .int)) (by decide) rfl ?_
  intro p e s m args below meth c s₁ B hml hv
  obtain ⟨rfl, hsz, hP, hK, hD0⟩ := hv
  have hx := B.exec
  have hb := B.bytes
  have hr := B.returns
  have hts := atoms_spec (ws := wsT mn_O_stateAtEnd bc_O_stateAtEnd 3 (some .int)) B.pre
  have htb : ∀ w ∈ gtbl, w.before _ s = true := fun w h => hts w (List.mem_cons_of_mem _ h)
  have hown : s.vm.findClass cn_O = some m.cls := findClass_of_methodNamed B.named
  have hlocks := B.notSynchronized
  subst hsz
  have hD := hD0.self (sz := s.heap.size)
  generalize hAe : va_A [zO o0 oa i0 m0 nn, zP h a b dn n oc le ll li lc kc rp, (a, .inl (cI, 40, .inl (nF ch))), zI i0 i1 i2 i3 i4 cn sS lS rS, (i1, .inl (cI, 40, .inl sv))] s.heap.size = A at hD ⊢
  have hA : ∀ q : Nat, s.heap.size ≤ q → A q := fun q h => by rw [← hAe]; exact Or.inr h
  have hS : va_S A s.heap s.heap [] := va_S.rf
  have hP : va_P (dC, dI) clsL [zO o0 oa i0 m0 nn, zP h a b dn n oc le ll li lc kc rp, (a, .inl (cI, 40, .inl (nF ch))), zI i0 i1 i2 i3 i4 cn sS lS rS, (i1, .inl (cI, 40, .inl sv))] s.heap := hP
  have hl := lv_entry ([.ref o0, .ref h]) (n := 3) (Nat.le_of_ble_eq_true rfl)
  rw [lg_entry_eq]
  generalize (lg_sl ([.ref o0, .ref h]) ++ List.replicate (3 - (lg_sl ([.ref o0, .ref h])).length) Slot.unset).toArray = ls at hl ⊢
  have hl : lv_has ls 3 [(0, .ref o0), (1, .ref h)] := hl
  refine lv_aload_n hx hb dc_O_stateAtEnd_0 rfl (lv_at hl 1 rfl) ?_
  refine va_get (D := (dC, dI)) (ci := 2) (v := .int (nI n)) (C := cn_P) (T := ft_P) (N := 11) hx hb htb ki_P hown hK hP 1 rfl rfl 3 (by decide) (htb _ kw_29) (fun _ h9 => h9) rfl dc_O_stateAtEnd_1 ?_
  refine lv_iconst (v := nI 1) hx hb dc_O_stateAtEnd_4 (by decide) ?_
  refine lv_isub hx hb dc_O_stateAtEnd_5 ?_
  refine lv_istore_n (lv' := [(2, .int ((nI n) - (nI 1))), (0, .ref o0), (1, .ref h)]) hx hb dc_O_stateAtEnd_6 rfl hl (by decide) rfl (fun ls hl => ?_)
  refine lv_iload_n hx hb dc_O_stateAtEnd_7 rfl (lv_at hl 0 rfl) ?_
  refine lv_if_ge (tgt := 15) hx hb dc_O_stateAtEnd_8 (by decide) (fun hc => ?_) (fun hc => ?_)
  · have h8 := hc
    have hn1 := sb_T (by omega) h8
    refine lv_aload_n hx hb dc_O_stateAtEnd_15 rfl (lv_at hl 1 rfl) ?_
    refine va_get (D := (dC, dI)) (ci := 3) (v := .ref i0) (C := cn_O) (T := ft_O) (N := 4) hx hb htb ki_O hown hK hP 0 rfl rfl 1 (by decide) (htb _ kw_140) (fun _ h9 => h9) rfl dc_O_stateAtEnd_16 ?_
    refine va_get (D := (dC, dI)) (ci := 0) (v := .ref i1) (C := cn_I) (T := ft_I) (N := 8) hx hb htb ki_I hown hK hP 3 rfl rfl 0 (by decide) (htb _ kw_73) (fun _ h9 => h9) rfl dc_O_stateAtEnd_19 ?_
    refine lv_aload_n hx hb dc_O_stateAtEnd_22 rfl (lv_at hl 2 rfl) ?_
    refine va_get (D := (dC, dI)) (ci := 2) (v := .ref a) (C := cn_P) (T := ft_P) (N := 11) hx hb htb ki_P hown hK hP 1 rfl rfl 0 (by decide) (htb _ kw_23) (fun _ h9 => h9) rfl dc_O_stateAtEnd_23 ?_
    refine lv_iload_n hx hb dc_O_stateAtEnd_26 rfl (lv_at hl 0 rfl) ?_
    refine tp_i (y := nI (n - 1)) (pk_sub (by omega)) ?_
    refine wa_nld (k := (n - 1)) hx hb hK hP 2 0 rfl rfl (by omega) (by omega) dc_O_stateAtEnd_27 ?_
    refine wa_ild (k := ch (n - 1)) hx hb hK hP 4 0 rfl rfl (hch _ (by omega)) (by omega) dc_O_stateAtEnd_28 ?_
    have hP9 := hP.sub (ws' := [zO o0 oa i0 m0 nn, zP h a b dn n oc le ll li lc kc rp, (a, .inl (cI, 40, .inl (nF ch))), zI i0 i1 i2 i3 i4 cn sS lS rS, (i1, .inl (cI, 40, .inl sv))]) [0, 1, 2, 3, 4] rfl
    have hD9 := hD.sub (ws' := [zO o0 oa i0 m0 nn, zP h a b dn n oc le ll li lc kc rp, (a, .inl (cI, 40, .inl (nF ch))), zI i0 i1 i2 i3 i4 cn sS lS rS, (i1, .inl (cI, 40, .inl sv))]) [0, 1, 2, 3, 4] (by decide) rfl
    exact W.iret (v := sv (ch (n - 1))) hx hb hr (fun t ht hW => ⟨⟨_, (), rfl, by simp [sae, hn1, nI_0], by rw [ht]; exact hP9, va_K.moved hW.alike hK, hD9⟩, hS.F ht⟩) hS.2.2 dc_O_stateAtEnd_29
  · have h8 := hc
    have hn1 := sb_F (by omega) h8
    refine lv_iconst (v := nI 0) hx hb dc_O_stateAtEnd_11 (by decide) ?_
    refine lv_goto (tgt := 29) hx hb dc_O_stateAtEnd_12 (by decide) ?_
    have hP9 := hP.sub (ws' := [zO o0 oa i0 m0 nn, zP h a b dn n oc le ll li lc kc rp, (a, .inl (cI, 40, .inl (nF ch))), zI i0 i1 i2 i3 i4 cn sS lS rS, (i1, .inl (cI, 40, .inl sv))]) [0, 1, 2, 3, 4] rfl
    have hD9 := hD.sub (ws' := [zO o0 oa i0 m0 nn, zP h a b dn n oc le ll li lc kc rp, (a, .inl (cI, 40, .inl (nF ch))), zI i0 i1 i2 i3 i4 cn sS lS rS, (i1, .inl (cI, 40, .inl sv))]) [0, 1, 2, 3, 4] (by decide) rfl
    exact W.iret (v := nI 0) hx hb hr (fun t ht hW => ⟨⟨_, (), rfl, by simp [sae, hn1, nI_0], by rw [ht]; exact hP9, va_K.moved hW.alike hK, hD9⟩, hS.F ht⟩) hS.2.2 dc_O_stateAtEnd_29

set_option maxHeartbeats 4000000 in
set_option maxRecDepth 100000 in
theorem oc_O_dependsAtEnd (l : Launch) (dC : Nat → ClassId) (dI : Nat → Nat → Nat) (cI cJ cZ cP : ClassId) (sz : Nat) (o0 : Nat) (oa : Nat) (i0 : Nat) (m0 : Nat) (nn : Nat) (h : Nat) (a : Nat) (b : Nat) (dn : Bool) (n : Nat) (oc : Nat) (le : Nat) (ll : Int64) (li : Int64) (lc : Nat) (kc : Nat) (rp : Int32) (i1 : Nat) (i2 : Nat) (i3 : Nat) (i4 : Nat) (cn : Nat) (sS : Int64) (lS : Int64) (rS : Int64) (ch : Nat → Nat) (dp : Nat → Int64) (hn : n ≤ 40) (hch : ∀ k, k < n → ch k < 40) : mt_J l mn_O_dependsAtEnd bc_O_dependsAtEnd 3 (some .long) ({ frames := 0, cells := 0, slots := 0, locals := 0 }) (dC, dI) (TYS cI cJ cZ cP) sz [.ref o0, .ref h] [zO o0 oa i0 m0 nn, zP h a b dn n oc le ll li lc kc rp, (a, .inl (cI, 40, .inl (nF ch))), zI i0 i1 i2 i3 i4 cn sS lS rS, (i4, .inl (cJ, 40, .inr (.inl dp)))] [zO o0 oa i0 m0 nn, zP h a b dn n oc le ll li lc kc rp, (a, .inl (cI, 40, .inl (nF ch))), zI i0 i1 i2 i3 i4 cn sS lS rS, (i4, .inl (cJ, 40, .inr (.inl dp)))] ((dae dp ch n)) 0 0 := by
  unfold mt_J
  refine Met.ofW (cc := bc_O_dependsAtEnd) (maxL := 3) (ret := (some .long)) (by decide) rfl ?_
  intro p e s m args below meth c s₁ B hml hv
  obtain ⟨rfl, hsz, hP, hK, hD0⟩ := hv
  have hx := B.exec
  have hb := B.bytes
  have hr := B.returns
  have hts := atoms_spec (ws := wsT mn_O_dependsAtEnd bc_O_dependsAtEnd 3 (some .long)) B.pre
  have htb : ∀ w ∈ gtbl, w.before _ s = true := fun w h => hts w (List.mem_cons_of_mem _ h)
  have hown : s.vm.findClass cn_O = some m.cls := findClass_of_methodNamed B.named
  have hlocks := B.notSynchronized
  subst hsz
  have hD := hD0.self (sz := s.heap.size)
  generalize hAe : va_A [zO o0 oa i0 m0 nn, zP h a b dn n oc le ll li lc kc rp, (a, .inl (cI, 40, .inl (nF ch))), zI i0 i1 i2 i3 i4 cn sS lS rS, (i4, .inl (cJ, 40, .inr (.inl dp)))] s.heap.size = A at hD ⊢
  have hA : ∀ q : Nat, s.heap.size ≤ q → A q := fun q h => by rw [← hAe]; exact Or.inr h
  have hS : va_S A s.heap s.heap [] := va_S.rf
  have hP : va_P (dC, dI) clsL [zO o0 oa i0 m0 nn, zP h a b dn n oc le ll li lc kc rp, (a, .inl (cI, 40, .inl (nF ch))), zI i0 i1 i2 i3 i4 cn sS lS rS, (i4, .inl (cJ, 40, .inr (.inl dp)))] s.heap := hP
  have hl := lv_entry ([.ref o0, .ref h]) (n := 3) (Nat.le_of_ble_eq_true rfl)
  rw [lg_entry_eq]
  generalize (lg_sl ([.ref o0, .ref h]) ++ List.replicate (3 - (lg_sl ([.ref o0, .ref h])).length) Slot.unset).toArray = ls at hl ⊢
  have hl : lv_has ls 3 [(0, .ref o0), (1, .ref h)] := hl
  refine lv_aload_n hx hb dc_O_dependsAtEnd_0 rfl (lv_at hl 1 rfl) ?_
  refine va_get (D := (dC, dI)) (ci := 2) (v := .int (nI n)) (C := cn_P) (T := ft_P) (N := 11) hx hb htb ki_P hown hK hP 1 rfl rfl 3 (by decide) (htb _ kw_29) (fun _ h9 => h9) rfl dc_O_dependsAtEnd_1 ?_
  refine lv_iconst (v := nI 1) hx hb dc_O_dependsAtEnd_4 (by decide) ?_
  refine lv_isub hx hb dc_O_dependsAtEnd_5 ?_
  refine lv_istore_n (lv' := [(2, .int ((nI n) - (nI 1))), (0, .ref o0), (1, .ref h)]) hx hb dc_O_dependsAtEnd_6 rfl hl (by decide) rfl (fun ls hl => ?_)
  refine lv_iload_n hx hb dc_O_dependsAtEnd_7 rfl (lv_at hl 0 rfl) ?_
  refine lv_if_ge (tgt := 15) hx hb dc_O_dependsAtEnd_8 (by decide) (fun hc => ?_) (fun hc => ?_)
  · have h8 := hc
    have hn1 := sb_T (by omega) h8
    refine lv_aload_n hx hb dc_O_dependsAtEnd_15 rfl (lv_at hl 1 rfl) ?_
    refine va_get (D := (dC, dI)) (ci := 3) (v := .ref i0) (C := cn_O) (T := ft_O) (N := 4) hx hb htb ki_O hown hK hP 0 rfl rfl 1 (by decide) (htb _ kw_140) (fun _ h9 => h9) rfl dc_O_dependsAtEnd_16 ?_
    refine va_get (D := (dC, dI)) (ci := 0) (v := .ref i4) (C := cn_I) (T := ft_I) (N := 8) hx hb htb ki_I hown hK hP 3 rfl rfl 3 (by decide) (htb _ kw_78) (fun _ h9 => h9) rfl dc_O_dependsAtEnd_19 ?_
    refine lv_aload_n hx hb dc_O_dependsAtEnd_22 rfl (lv_at hl 2 rfl) ?_
    refine va_get (D := (dC, dI)) (ci := 2) (v := .ref a) (C := cn_P) (T := ft_P) (N := 11) hx hb htb ki_P hown hK hP 1 rfl rfl 0 (by decide) (htb _ kw_23) (fun _ h9 => h9) rfl dc_O_dependsAtEnd_23 ?_
    refine lv_iload_n hx hb dc_O_dependsAtEnd_26 rfl (lv_at hl 0 rfl) ?_
    refine tp_i (y := nI (n - 1)) (pk_sub (by omega)) ?_
    refine wa_nld (k := (n - 1)) hx hb hK hP 2 0 rfl rfl (by omega) (by omega) dc_O_dependsAtEnd_27 ?_
    refine wa_lld (k := ch (n - 1)) hx hb hK hP 4 1 rfl rfl (hch _ (by omega)) (by omega) dc_O_dependsAtEnd_28 ?_
    have hP9 := hP.sub (ws' := [zO o0 oa i0 m0 nn, zP h a b dn n oc le ll li lc kc rp, (a, .inl (cI, 40, .inl (nF ch))), zI i0 i1 i2 i3 i4 cn sS lS rS, (i4, .inl (cJ, 40, .inr (.inl dp)))]) [0, 1, 2, 3, 4] rfl
    have hD9 := hD.sub (ws' := [zO o0 oa i0 m0 nn, zP h a b dn n oc le ll li lc kc rp, (a, .inl (cI, 40, .inl (nF ch))), zI i0 i1 i2 i3 i4 cn sS lS rS, (i4, .inl (cJ, 40, .inr (.inl dp)))]) [0, 1, 2, 3, 4] (by decide) rfl
    exact W.lret (v := dp (ch (n - 1))) hx hb hr (fun t ht hW => ⟨⟨_, (), rfl, by simp [dae, hn1], by rw [ht]; exact hP9, va_K.moved hW.alike hK, hD9⟩, hS.F ht⟩) hS.2.2 dc_O_dependsAtEnd_29
  · have h8 := hc
    have hn1 := sb_F (by omega) h8
    refine lv_lconst (v := 0) hx hb dc_O_dependsAtEnd_11 rfl ?_
    refine lv_goto (tgt := 29) hx hb dc_O_dependsAtEnd_12 (by decide) ?_
    have hP9 := hP.sub (ws' := [zO o0 oa i0 m0 nn, zP h a b dn n oc le ll li lc kc rp, (a, .inl (cI, 40, .inl (nF ch))), zI i0 i1 i2 i3 i4 cn sS lS rS, (i4, .inl (cJ, 40, .inr (.inl dp)))]) [0, 1, 2, 3, 4] rfl
    have hD9 := hD.sub (ws' := [zO o0 oa i0 m0 nn, zP h a b dn n oc le ll li lc kc rp, (a, .inl (cI, 40, .inl (nF ch))), zI i0 i1 i2 i3 i4 cn sS lS rS, (i4, .inl (cJ, 40, .inr (.inl dp)))]) [0, 1, 2, 3, 4] (by decide) rfl
    exact W.lret (v := 0) hx hb hr (fun t ht hW => ⟨⟨_, (), rfl, by simp [dae, hn1], by rw [ht]; exact hP9, va_K.moved hW.alike hK, hD9⟩, hS.F ht⟩) hS.2.2 dc_O_dependsAtEnd_29

set_option maxHeartbeats 4000000 in
set_option maxRecDepth 100000 in
theorem oc_O_dependsAtSource (l : Launch) (dC : Nat → ClassId) (dI : Nat → Nat → Nat) (cI cJ cZ cP : ClassId) (sz : Nat) (o0 : Nat) (oa : Nat) (i0 : Nat) (m0 : Nat) (nn : Nat) (i1 : Nat) (i2 : Nat) (i3 : Nat) (i4 : Nat) (cn : Nat) (sS : Int64) (lS : Int64) (rS : Int64) (m1 : Nat) (m2 : Nat) (m3 : Nat) (m4 : Nat) (m5 : Nat) (mn : Nat) (mi : Nat) (dp : Nat → Int64) (sr : Nat → Option Nat) (j : Nat) (hj : j < 104) (hs : ∀ i, sr j = some i → i < 40) : mt_J l mn_O_dependsAtSource bc_O_dependsAtSource 3 (some .long) ({ frames := 0, cells := 0, slots := 0, locals := 0 }) (dC, dI) (TYS cI cJ cZ cP) sz [.ref o0, .int (nI j)] [zO o0 oa i0 m0 nn, zI i0 i1 i2 i3 i4 cn sS lS rS, (i4, .inl (cJ, 40, .inr (.inl dp))), zM m0 m1 m2 m3 m4 m5 mn mi, (m3, .inl (cI, 104, .inl (oF sr)))] [zO o0 oa i0 m0 nn, zI i0 i1 i2 i3 i4 cn sS lS rS, (i4, .inl (cJ, 40, .inr (.inl dp))), zM m0 m1 m2 m3 m4 m5 mn mi, (m3, .inl (cI, 104, .inl (oF sr)))] ((dsv sr dp j)) 0 0 := by
  unfold mt_J
  refine Met.ofW (cc := bc_O_dependsAtSource) (maxL := 3) (ret := (some .long)) (by decide) rfl ?_
  intro p e s m args below meth c s₁ B hml hv
  obtain ⟨rfl, hsz, hP, hK, hD0⟩ := hv
  have hx := B.exec
  have hb := B.bytes
  have hr := B.returns
  have hts := atoms_spec (ws := wsT mn_O_dependsAtSource bc_O_dependsAtSource 3 (some .long)) B.pre
  have htb : ∀ w ∈ gtbl, w.before _ s = true := fun w h => hts w (List.mem_cons_of_mem _ h)
  have hown : s.vm.findClass cn_O = some m.cls := findClass_of_methodNamed B.named
  have hlocks := B.notSynchronized
  subst hsz
  have hD := hD0.self (sz := s.heap.size)
  generalize hAe : va_A [zO o0 oa i0 m0 nn, zI i0 i1 i2 i3 i4 cn sS lS rS, (i4, .inl (cJ, 40, .inr (.inl dp))), zM m0 m1 m2 m3 m4 m5 mn mi, (m3, .inl (cI, 104, .inl (oF sr)))] s.heap.size = A at hD ⊢
  have hA : ∀ q : Nat, s.heap.size ≤ q → A q := fun q h => by rw [← hAe]; exact Or.inr h
  have hS : va_S A s.heap s.heap [] := va_S.rf
  have hP : va_P (dC, dI) clsL [zO o0 oa i0 m0 nn, zI i0 i1 i2 i3 i4 cn sS lS rS, (i4, .inl (cJ, 40, .inr (.inl dp))), zM m0 m1 m2 m3 m4 m5 mn mi, (m3, .inl (cI, 104, .inl (oF sr)))] s.heap := hP
  have hl := lv_entry ([.ref o0, .int (nI j)]) (n := 3) (Nat.le_of_ble_eq_true rfl)
  rw [lg_entry_eq]
  generalize (lg_sl ([.ref o0, .int (nI j)]) ++ List.replicate (3 - (lg_sl ([.ref o0, .int (nI j)])).length) Slot.unset).toArray = ls at hl ⊢
  have hl : lv_has ls 3 [(0, .ref o0), (1, .int (nI j))] := hl
  refine lv_aload_n hx hb dc_O_dependsAtSource_0 rfl (lv_at hl 0 rfl) ?_
  refine va_get (D := (dC, dI)) (ci := 3) (v := .ref m0) (C := cn_O) (T := ft_O) (N := 4) hx hb htb ki_O hown hK hP 0 rfl rfl 2 (by decide) (htb _ kw_141) (fun _ h9 => h9) rfl dc_O_dependsAtSource_1 ?_
  refine va_get (D := (dC, dI)) (ci := 1) (v := .ref m3) (C := cn_M) (T := ft_M) (N := 7) hx hb htb ki_M hown hK hP 3 rfl rfl 2 (by decide) (htb _ kw_116) (fun _ h9 => h9) rfl dc_O_dependsAtSource_4 ?_
  refine lv_iload_n hx hb dc_O_dependsAtSource_7 rfl (lv_at hl 1 rfl) ?_
  refine wa_old (k := j) hx hb hK hP 4 0 rfl rfl (by omega) (by omega) dc_O_dependsAtSource_8 ?_
  refine lv_istore_n (lv' := [(2, .int (oI (sr j))), (0, .ref o0), (1, .int (nI j))]) hx hb dc_O_dependsAtSource_9 rfl hl (by decide) rfl (fun ls hl => ?_)
  refine lv_iload_n hx hb dc_O_dependsAtSource_10 rfl (lv_at hl 0 rfl) ?_
  refine lv_iconst (v := (-1)) hx hb dc_O_dependsAtSource_11 (by decide) ?_
  refine lv_icmp_ne (tgt := 19) hx hb dc_O_dependsAtSource_12 (by decide) (fun hc => ?_) (fun hc => ?_)
  · have h1 : ¬ sr j = none := fun h9 => hc ((oI_m1 (fun i q => by have := hs i q; omega)).mpr h9)
    obtain ⟨i, hi⟩ : ∃ i, sr j = some i := Option.ne_none_iff_exists'.mp h1
    have hi40 := hs i hi
    refine lv_aload_n hx hb dc_O_dependsAtSource_19 rfl (lv_at hl 1 rfl) ?_
    refine va_get (D := (dC, dI)) (ci := 3) (v := .ref i0) (C := cn_O) (T := ft_O) (N := 4) hx hb htb ki_O hown hK hP 0 rfl rfl 1 (by decide) (htb _ kw_140) (fun _ h9 => h9) rfl dc_O_dependsAtSource_20 ?_
    refine va_get (D := (dC, dI)) (ci := 0) (v := .ref i4) (C := cn_I) (T := ft_I) (N := 8) hx hb htb ki_I hown hK hP 1 rfl rfl 3 (by decide) (htb _ kw_78) (fun _ h9 => h9) rfl dc_O_dependsAtSource_23 ?_
    refine lv_iload_n hx hb dc_O_dependsAtSource_26 rfl (lv_at hl 0 rfl) ?_
    refine tp_i (y := nI i) (by rw [hi]; rfl) ?_
    refine wa_lld (k := i) hx hb hK hP 2 1 rfl rfl (by omega) (by omega) dc_O_dependsAtSource_27 ?_
    have hP9 := hP.sub (ws' := [zO o0 oa i0 m0 nn, zI i0 i1 i2 i3 i4 cn sS lS rS, (i4, .inl (cJ, 40, .inr (.inl dp))), zM m0 m1 m2 m3 m4 m5 mn mi, (m3, .inl (cI, 104, .inl (oF sr)))]) [0, 1, 2, 3, 4] rfl
    have hD9 := hD.sub (ws' := [zO o0 oa i0 m0 nn, zI i0 i1 i2 i3 i4 cn sS lS rS, (i4, .inl (cJ, 40, .inr (.inl dp))), zM m0 m1 m2 m3 m4 m5 mn mi, (m3, .inl (cI, 104, .inl (oF sr)))]) [0, 1, 2, 3, 4] (by decide) rfl
    exact W.lret (v := dp i) hx hb hr (fun t ht hW => ⟨⟨_, (), rfl, by simp [dsv, hi], by rw [ht]; exact hP9, va_K.moved hW.alike hK, hD9⟩, hS.F ht⟩) hS.2.2 dc_O_dependsAtSource_28
  · have h1 : sr j = none := (oI_m1 (fun i q => by have := hs i q; omega)).mp hc
    have hi := h1
    refine lv_lconst (v := 0) hx hb dc_O_dependsAtSource_15 rfl ?_
    refine lv_goto (tgt := 28) hx hb dc_O_dependsAtSource_16 (by decide) ?_
    have hP9 := hP.sub (ws' := [zO o0 oa i0 m0 nn, zI i0 i1 i2 i3 i4 cn sS lS rS, (i4, .inl (cJ, 40, .inr (.inl dp))), zM m0 m1 m2 m3 m4 m5 mn mi, (m3, .inl (cI, 104, .inl (oF sr)))]) [0, 1, 2, 3, 4] rfl
    have hD9 := hD.sub (ws' := [zO o0 oa i0 m0 nn, zI i0 i1 i2 i3 i4 cn sS lS rS, (i4, .inl (cJ, 40, .inr (.inl dp))), zM m0 m1 m2 m3 m4 m5 mn mi, (m3, .inl (cI, 104, .inl (oF sr)))]) [0, 1, 2, 3, 4] (by decide) rfl
    exact W.lret (v := 0) hx hb hr (fun t ht hW => ⟨⟨_, (), rfl, by simp [dsv, hi], by rw [ht]; exact hP9, va_K.moved hW.alike hK, hD9⟩, hS.F ht⟩) hS.2.2 dc_O_dependsAtSource_28

set_option maxHeartbeats 4000000 in
set_option maxRecDepth 100000 in
theorem oc_O_isKnownOrphan (l : Launch) (dC : Nat → ClassId) (dI : Nat → Nat → Nat) (cI cJ cZ cP : ClassId) (sz : Nat) (o0 : Nat) (oa : Nat) (i0 : Nat) (m0 : Nat) (nn : Nat) (h : Nat) (a : Nat) (b : Nat) (dn : Bool) (n : Nat) (oc : Nat) (le : Nat) (ll : Int64) (li : Int64) (lc : Nat) (kc : Nat) (rp : Int32) (i1 : Nat) (i2 : Nat) (i3 : Nat) (i4 : Nat) (cn : Nat) (sS : Int64) (lS : Int64) (rS : Int64) (m1 : Nat) (m2 : Nat) (m3 : Nat) (m4 : Nat) (m5 : Nat) (mn : Nat) (mi : Nat) (dp : Nat → Int64) (sr : Nat → Option Nat) (j : Nat) (hj : j < 104) (hs : ∀ i, sr j = some i → i < 40) : mt_I l mn_O_isKnownOrphan bc_O_isKnownOrphan 3 (some .boolean) ({ frames := 1, cells := 0, slots := 0, locals := 22 }) (dC, dI) (TYS cI cJ cZ cP) sz [.ref o0, .ref h, .int (nI j)] [zO o0 oa i0 m0 nn, zP h a b dn n oc le ll li lc kc rp, zI i0 i1 i2 i3 i4 cn sS lS rS, (i4, .inl (cJ, 40, .inr (.inl dp))), zM m0 m1 m2 m3 m4 m5 mn mi, (m3, .inl (cI, 104, .inl (oF sr)))] [zO o0 oa i0 m0 nn, zP h a b dn n oc le ll li lc kc rp, zI i0 i1 i2 i3 i4 cn sS lS rS, (i4, .inl (cJ, 40, .inr (.inl dp))), zM m0 m1 m2 m3 m4 m5 mn mi, (m3, .inl (cI, 104, .inl (oF sr)))] (bI (ko_B sr dp ll j)) 0 0 := by
  unfold mt_I
  refine Met.ofW (cc := bc_O_isKnownOrphan) (maxL := 3) (ret := (some .boolean)) (by decide) rfl ?_
  intro p e s m args below meth c s₁ B hml hv
  obtain ⟨rfl, hsz, hP, hK, hD0⟩ := hv
  have hx := B.exec
  have hb := B.bytes
  have hr := B.returns
  have hts := atoms_spec (ws := wsT mn_O_isKnownOrphan bc_O_isKnownOrphan 3 (some .boolean)) B.pre
  have htb : ∀ w ∈ gtbl, w.before _ s = true := fun w h => hts w (List.mem_cons_of_mem _ h)
  have hown : s.vm.findClass cn_O = some m.cls := findClass_of_methodNamed B.named
  have hlocks := B.notSynchronized
  subst hsz
  have hD := hD0.self (sz := s.heap.size)
  generalize hAe : va_A [zO o0 oa i0 m0 nn, zP h a b dn n oc le ll li lc kc rp, zI i0 i1 i2 i3 i4 cn sS lS rS, (i4, .inl (cJ, 40, .inr (.inl dp))), zM m0 m1 m2 m3 m4 m5 mn mi, (m3, .inl (cI, 104, .inl (oF sr)))] s.heap.size = A at hD ⊢
  have hA : ∀ q : Nat, s.heap.size ≤ q → A q := fun q h => by rw [← hAe]; exact Or.inr h
  have hS : va_S A s.heap s.heap [] := va_S.rf
  have hP : va_P (dC, dI) clsL [zO o0 oa i0 m0 nn, zP h a b dn n oc le ll li lc kc rp, zI i0 i1 i2 i3 i4 cn sS lS rS, (i4, .inl (cJ, 40, .inr (.inl dp))), zM m0 m1 m2 m3 m4 m5 mn mi, (m3, .inl (cI, 104, .inl (oF sr)))] s.heap := hP
  have hl := lv_entry ([.ref o0, .ref h, .int (nI j)]) (n := 3) (Nat.le_of_ble_eq_true rfl)
  rw [lg_entry_eq]
  generalize (lg_sl ([.ref o0, .ref h, .int (nI j)]) ++ List.replicate (3 - (lg_sl ([.ref o0, .ref h, .int (nI j)])).length) Slot.unset).toArray = ls at hl ⊢
  have hl : lv_has ls 3 [(0, .ref o0), (1, .ref h), (2, .int (nI j))] := hl
  refine lv_aload_n hx hb dc_O_isKnownOrphan_0 rfl (lv_at hl 0 rfl) ?_
  refine lv_iload_n hx hb dc_O_isKnownOrphan_1 rfl (lv_at hl 2 rfl) ?_
  refine cl_l (wc := [zO o0 oa i0 m0 nn, zI i0 i1 i2 i3 i4 cn sS lS rS, (i4, .inl (cJ, 40, .inr (.inl dp))), zM m0 m1 m2 m3 m4 m5 mn mi, (m3, .inl (cI, 104, .inl (oF sr)))]) (wr := [zP h a b dn n oc le ll li lc kc rp]) (w1 := [zO o0 oa i0 m0 nn, zI i0 i1 i2 i3 i4 cn sS lS rS, (i4, .inl (cJ, 40, .inr (.inl dp))), zM m0 m1 m2 m3 m4 m5 mn mi, (m3, .inl (cI, 104, .inl (oF sr)))]) hP hD hS hA [0, 2, 3, 4, 5] [1] rfl rfl (by decide) (by decide) (va_runV (As := [.int (nI j)]) (rest := []) ⟨hx, hb, hml, hown, htb⟩ (oc_O_dependsAtSource l dC dI cI cJ cZ cP _ o0 oa i0 m0 nn i1 i2 i3 i4 cn sS lS rS m1 m2 m3 m4 m5 mn mi dp sr j (by first | assumption | omega) (by first | assumption | omega)) (cwV 1 htb (gw_V kw_195 kw_197 kp_1 kw_1 kw_198) rfl rfl rfl (by decide +kernel) ⟨Nat.le_of_ble_eq_true rfl, Nat.le_of_ble_eq_true rfl⟩) (pr_V hP hK hD (va_recv hK hP (ci := 3) (q0 := 0) rfl rfl) [0, 2, 3, 4, 5] (by decide) rfl rfl) rfl rfl hl.1 rfl (lv_room (Nat.le_of_ble_eq_true rfl)) dc_O_isKnownOrphan_2 ⟨Nat.le_of_ble_eq_true rfl, Nat.le_of_ble_eq_true rfl⟩) (fun H locs hP hD hS => ?_)
  have hP : va_P (dC, dI) clsL [zO o0 oa i0 m0 nn, zP h a b dn n oc le ll li lc kc rp, zI i0 i1 i2 i3 i4 cn sS lS rS, (i4, .inl (cJ, 40, .inr (.inl dp))), zM m0 m1 m2 m3 m4 m5 mn mi, (m3, .inl (cI, 104, .inl (oF sr)))] H := hP.sub (ws' := [zO o0 oa i0 m0 nn, zP h a b dn n oc le ll li lc kc rp, zI i0 i1 i2 i3 i4 cn sS lS rS, (i4, .inl (cJ, 40, .inr (.inl dp))), zM m0 m1 m2 m3 m4 m5 mn mi, (m3, .inl (cI, 104, .inl (oF sr)))]) [1, 0, 2, 3, 4, 5] rfl
  have hD : va_D A [zO o0 oa i0 m0 nn, zP h a b dn n oc le ll li lc kc rp, zI i0 i1 i2 i3 i4 cn sS lS rS, (i4, .inl (cJ, 40, .inr (.inl dp))), zM m0 m1 m2 m3 m4 m5 mn mi, (m3, .inl (cI, 104, .inl (oF sr)))] := hD.sub (ws' := [zO o0 oa i0 m0 nn, zP h a b dn n oc le ll li lc kc rp, zI i0 i1 i2 i3 i4 cn sS lS rS, (i4, .inl (cJ, 40, .inr (.inl dp))), zM m0 m1 m2 m3 m4 m5 mn mi, (m3, .inl (cI, 104, .inl (oF sr)))]) [1, 0, 2, 3, 4, 5] (by decide) rfl
  refine lv_aload_n hx hb dc_O_isKnownOrphan_5 rfl (lv_at hl 1 rfl) ?_
  refine va_get (D := (dC, dI)) (ci := 2) (v := .long ll) (C := cn_P) (T := ft_P) (N := 11) hx hb htb ki_P hown hK hP 1 rfl rfl 6 (by decide) (htb _ kw_35) (fun _ h9 => h9) rfl dc_O_isKnownOrphan_6 ?_
  refine lv_land hx hb dc_O_isKnownOrphan_9 ?_
  refine lv_lconst (v := 0) hx hb dc_O_isKnownOrphan_10 rfl ?_
  refine W.lcmp hx hb dc_O_isKnownOrphan_11 ?_
  refine lv_if_eq (tgt := 19) hx hb dc_O_isKnownOrphan_12 (by decide) (fun hc => ?_) (fun hc => ?_)
  · have h1 : (dsv sr dp j) &&& ll = 0 := lc_0.mp hc
    refine lv_iconst (v := nI 0) hx hb dc_O_isKnownOrphan_19 (by decide) ?_
    have hP9 := hP.sub (ws' := [zO o0 oa i0 m0 nn, zP h a b dn n oc le ll li lc kc rp, zI i0 i1 i2 i3 i4 cn sS lS rS, (i4, .inl (cJ, 40, .inr (.inl dp))), zM m0 m1 m2 m3 m4 m5 mn mi, (m3, .inl (cI, 104, .inl (oF sr)))]) [0, 1, 2, 3, 4, 5] rfl
    have hD9 := hD.sub (ws' := [zO o0 oa i0 m0 nn, zP h a b dn n oc le ll li lc kc rp, zI i0 i1 i2 i3 i4 cn sS lS rS, (i4, .inl (cJ, 40, .inr (.inl dp))), zM m0 m1 m2 m3 m4 m5 mn mi, (m3, .inl (cI, 104, .inl (oF sr)))]) [0, 1, 2, 3, 4, 5] (by decide) rfl
    exact W.zret (v := nI 0) (ty := .boolean) hx hb hr (rfl) (fun t ht hW => ⟨⟨_, (), rfl, by simp [ko_B, bI, h1, nI_0, nI_o], by rw [ht]; exact hP9, va_K.moved hW.alike hK, hD9⟩, hS.F ht⟩) hS.2.2 dc_O_isKnownOrphan_20
  · have h1 : ¬ (dsv sr dp j) &&& ll = 0 := fun h9 => hc (lc_0.mpr h9)
    refine lv_iconst (v := nI 1) hx hb dc_O_isKnownOrphan_15 (by decide) ?_
    refine lv_goto (tgt := 20) hx hb dc_O_isKnownOrphan_16 (by decide) ?_
    have hP9 := hP.sub (ws' := [zO o0 oa i0 m0 nn, zP h a b dn n oc le ll li lc kc rp, zI i0 i1 i2 i3 i4 cn sS lS rS, (i4, .inl (cJ, 40, .inr (.inl dp))), zM m0 m1 m2 m3 m4 m5 mn mi, (m3, .inl (cI, 104, .inl (oF sr)))]) [0, 1, 2, 3, 4, 5] rfl
    have hD9 := hD.sub (ws' := [zO o0 oa i0 m0 nn, zP h a b dn n oc le ll li lc kc rp, zI i0 i1 i2 i3 i4 cn sS lS rS, (i4, .inl (cJ, 40, .inr (.inl dp))), zM m0 m1 m2 m3 m4 m5 mn mi, (m3, .inl (cI, 104, .inl (oF sr)))]) [0, 1, 2, 3, 4, 5] (by decide) rfl
    exact W.zret (v := nI 1) (ty := .boolean) hx hb hr (rfl) (fun t ht hW => ⟨⟨_, (), rfl, by simp [ko_B, bI, h1, nI_0, nI_o], by rw [ht]; exact hP9, va_K.moved hW.alike hK, hD9⟩, hS.F ht⟩) hS.2.2 dc_O_isKnownOrphan_20

set_option maxHeartbeats 4000000 in
set_option maxRecDepth 100000 in
theorem oc_O_sendFrom (l : Launch) (dC : Nat → ClassId) (dI : Nat → Nat → Nat) (cI cJ cZ cP : ClassId) (sz : Nat) (o0 : Nat) (oa : Nat) (i0 : Nat) (m0 : Nat) (nn : Nat) (pf : Nat → Option Nat) (h : Nat) (a : Nat) (b : Nat) (dn : Bool) (n : Nat) (oc : Nat) (le : Nat) (ll : Int64) (li : Int64) (lc : Nat) (kc : Nat) (rp : Int32) (i1 : Nat) (i2 : Nat) (i3 : Nat) (i4 : Nat) (cn : Nat) (sS : Int64) (lS : Int64) (rS : Int64) (m1 : Nat) (m2 : Nat) (m3 : Nat) (m4 : Nat) (m5 : Nat) (mn : Nat) (mi : Nat) (sv : Nat → Int32) (vs : Nat → Int32) (tg : Nat → Nat) (sr : Nat → Option Nat) (kn : Nat → Nat) (su : Nat → Nat) (j : Nat) (i : Nat) (t : Int32) (hj : j < 3) (hf : pf j = some h) (hi : i < 40) (ht : sv i = t) (hmn : mn + 2 ≤ 104) : mt_V l mn_O_sendFrom bc_O_sendFrom 5 none ({ frames := 1, cells := 0, slots := 0, locals := 25 }) (dC, dI) (TYS cI cJ cZ cP) sz [.ref o0, .int (nI j), .int (nI i)] [zO o0 oa i0 m0 nn, (oa, .inl (cP, 3, .inr (.inr (.inr (.inr pf))))), zP h a b dn n oc le ll li lc kc rp, zI i0 i1 i2 i3 i4 cn sS lS rS, (i1, .inl (cI, 40, .inl sv)), zM m0 m1 m2 m3 m4 m5 mn mi, (m1, .inl (cI, 104, .inl vs)), (m2, .inl (cI, 104, .inl (nF tg))), (m3, .inl (cI, 104, .inl (oF sr))), (m4, .inl (cI, 104, .inl (nF kn))), (m5, .inl (cI, 104, .inl (nF su)))] [zO o0 oa i0 m0 nn, (oa, .inl (cP, 3, .inr (.inr (.inr (.inr pf))))), zP h a b dn n oc le ll li lc kc rp, zI i0 i1 i2 i3 i4 cn sS lS rS, (i1, .inl (cI, 40, .inl sv)), zM m0 m1 m2 m3 m4 m5 (mn + (sb1 t).toNat + (sb2 t).toNat) mi, (m1, .inl (cI, 104, .inl (sd_F (sb1 t) (sb2 t) vs mn (t >>> (nI 1 &&& 31)) (t >>> (nI 2 &&& 31))))), (m2, .inl (cI, 104, .inl (nF (sd_F (sb1 t) (sb2 t) tg mn ((j + 1) % 3) ((j + 2) % 3))))), (m3, .inl (cI, 104, .inl (oF (sd_F (sb1 t) (sb2 t) sr mn (some i) (some i))))), (m4, .inl (cI, 104, .inl (nF (sd_F (sb1 t) (sb2 t) kn mn le le)))), (m5, .inl (cI, 104, .inl (nF (sd_F (sb1 t) (sb2 t) su mn 0 0))))] 0 0 := by
  unfold mt_V
  refine Met.ofW (cc := bc_O_sendFrom) (maxL := 5) (ret := none) (by decide) rfl ?_
  intro p e s m args below meth c s₁ B hml hv
  obtain ⟨rfl, hsz, hP, hK, hD0⟩ := hv
  have hx := B.exec
  have hb := B.bytes
  have hr := B.returns
  have hts := atoms_spec (ws := wsT mn_O_sendFrom bc_O_sendFrom 5 none) B.pre
  have htb : ∀ w ∈ gtbl, w.before _ s = true := fun w h => hts w (List.mem_cons_of_mem _ h)
  have hown : s.vm.findClass cn_O = some m.cls := findClass_of_methodNamed B.named
  have hlocks := B.notSynchronized
  subst hsz
  have hD := hD0.self (sz := s.heap.size)
  generalize hAe : va_A [zO o0 oa i0 m0 nn, (oa, .inl (cP, 3, .inr (.inr (.inr (.inr pf))))), zP h a b dn n oc le ll li lc kc rp, zI i0 i1 i2 i3 i4 cn sS lS rS, (i1, .inl (cI, 40, .inl sv)), zM m0 m1 m2 m3 m4 m5 mn mi, (m1, .inl (cI, 104, .inl vs)), (m2, .inl (cI, 104, .inl (nF tg))), (m3, .inl (cI, 104, .inl (oF sr))), (m4, .inl (cI, 104, .inl (nF kn))), (m5, .inl (cI, 104, .inl (nF su)))] s.heap.size = A at hD ⊢
  have hA : ∀ q : Nat, s.heap.size ≤ q → A q := fun q h => by rw [← hAe]; exact Or.inr h
  have hS : va_S A s.heap s.heap [] := va_S.rf
  have hP : va_P (dC, dI) clsL [zO o0 oa i0 m0 nn, (oa, .inl (cP, 3, .inr (.inr (.inr (.inr pf))))), zP h a b dn n oc le ll li lc kc rp, zI i0 i1 i2 i3 i4 cn sS lS rS, (i1, .inl (cI, 40, .inl sv)), zM m0 m1 m2 m3 m4 m5 mn mi, (m1, .inl (cI, 104, .inl vs)), (m2, .inl (cI, 104, .inl (nF tg))), (m3, .inl (cI, 104, .inl (oF sr))), (m4, .inl (cI, 104, .inl (nF kn))), (m5, .inl (cI, 104, .inl (nF su)))] s.heap := hP
  have hl := lv_entry ([.ref o0, .int (nI j), .int (nI i)]) (n := 5) (Nat.le_of_ble_eq_true rfl)
  rw [lg_entry_eq]
  generalize (lg_sl ([.ref o0, .int (nI j), .int (nI i)]) ++ List.replicate (5 - (lg_sl ([.ref o0, .int (nI j), .int (nI i)])).length) Slot.unset).toArray = ls at hl ⊢
  have hl : lv_has ls 5 [(0, .ref o0), (1, .int (nI j)), (2, .int (nI i))] := hl
  refine lv_aload_n hx hb dc_O_sendFrom_0 rfl (lv_at hl 0 rfl) ?_
  refine va_get (D := (dC, dI)) (ci := 3) (v := .ref i0) (C := cn_O) (T := ft_O) (N := 4) hx hb htb ki_O hown hK hP 0 rfl rfl 1 (by decide) (htb _ kw_140) (fun _ h9 => h9) rfl dc_O_sendFrom_1 ?_
  refine va_get (D := (dC, dI)) (ci := 0) (v := .ref i1) (C := cn_I) (T := ft_I) (N := 8) hx hb htb ki_I hown hK hP 3 rfl rfl 0 (by decide) (htb _ kw_73) (fun _ h9 => h9) rfl dc_O_sendFrom_4 ?_
  refine lv_iload_n hx hb dc_O_sendFrom_7 rfl (lv_at hl 2 rfl) ?_
  refine wa_ild (k := i) hx hb hK hP 4 0 rfl rfl (by omega) (by omega) dc_O_sendFrom_8 ?_
  refine tp_i (y := t) (ht) ?_
  refine lv_istore_n (lv' := [(3, .int t), (0, .ref o0), (1, .int (nI j)), (2, .int (nI i))]) hx hb dc_O_sendFrom_9 rfl hl (by decide) rfl (fun ls hl => ?_)
  refine lv_aload_n hx hb dc_O_sendFrom_10 rfl (lv_at hl 1 rfl) ?_
  refine va_get (D := (dC, dI)) (ci := 3) (v := .ref oa) (C := cn_O) (T := ft_O) (N := 4) hx hb htb ki_O hown hK hP 0 rfl rfl 0 (by decide) (htb _ kw_139) (fun _ h9 => h9) rfl dc_O_sendFrom_11 ?_
  refine lv_iload_n hx hb dc_O_sendFrom_14 rfl (lv_at hl 2 rfl) ?_
  refine wa_ald hx hb hK hP 1 3 rfl rfl (k := j) (by omega) (by omega) (v := h) (hf) dc_O_sendFrom_15 ?_
  refine va_get (D := (dC, dI)) (ci := 2) (v := .int (nI le)) (C := cn_P) (T := ft_P) (N := 11) hx hb htb ki_P hown hK hP 2 rfl rfl 5 (by decide) (htb _ kw_33) (fun _ h9 => h9) rfl dc_O_sendFrom_16 ?_
  refine lv_istore (lv' := [(4, .int (nI le)), (3, .int t), (0, .ref o0), (1, .int (nI j)), (2, .int (nI i))]) hx hb dc_O_sendFrom_19 hl (by decide) rfl (fun ls hl => ?_)
  refine lv_iload_n hx hb dc_O_sendFrom_21 rfl (lv_at hl 1 rfl) ?_
  refine lv_iconst (v := nI 1) hx hb dc_O_sendFrom_22 (by decide) ?_
  refine lv_iand hx hb dc_O_sendFrom_23 ?_
  refine lv_if_eq (tgt := 46) hx hb dc_O_sendFrom_24 (by decide) (fun hc => ?_) (fun hc => ?_)
  · have h1 := hc
    refine lv_iload_n hx hb dc_O_sendFrom_46 rfl (lv_at hl 1 rfl) ?_
    refine lv_iconst (v := nI 2) hx hb dc_O_sendFrom_47 (by decide) ?_
    refine lv_iand hx hb dc_O_sendFrom_48 ?_
    refine lv_if_eq (tgt := 71) hx hb dc_O_sendFrom_49 (by decide) (fun hc => ?_) (fun hc => ?_)
    · have h2 := hc
      have hP8 := hP.sub (ws' := [zO o0 oa i0 m0 nn, (oa, .inl (cP, 3, .inr (.inr (.inr (.inr pf))))), zP h a b dn n oc le ll li lc kc rp, zI i0 i1 i2 i3 i4 cn sS lS rS, (i1, .inl (cI, 40, .inl sv)), zM m0 m1 m2 m3 m4 m5 mn mi, (m1, .inl (cI, 104, .inl vs)), (m2, .inl (cI, 104, .inl (nF tg))), (m3, .inl (cI, 104, .inl (oF sr))), (m4, .inl (cI, 104, .inl (nF kn))), (m5, .inl (cI, 104, .inl (nF su)))]) [0, 1, 2, 3, 4, 5, 6, 7, 8, 9, 10] rfl
      have hD8 := hD.sub (ws' := [zO o0 oa i0 m0 nn, (oa, .inl (cP, 3, .inr (.inr (.inr (.inr pf))))), zP h a b dn n oc le ll li lc kc rp, zI i0 i1 i2 i3 i4 cn sS lS rS, (i1, .inl (cI, 40, .inl sv)), zM m0 m1 m2 m3 m4 m5 mn mi, (m1, .inl (cI, 104, .inl vs)), (m2, .inl (cI, 104, .inl (nF tg))), (m3, .inl (cI, 104, .inl (oF sr))), (m4, .inl (cI, 104, .inl (nF kn))), (m5, .inl (cI, 104, .inl (nF su)))]) [0, 1, 2, 3, 4, 5, 6, 7, 8, 9, 10] (by decide) rfl
      have hW8 : ([zO o0 oa i0 m0 nn, (oa, .inl (cP, 3, .inr (.inr (.inr (.inr pf))))), zP h a b dn n oc le ll li lc kc rp, zI i0 i1 i2 i3 i4 cn sS lS rS, (i1, .inl (cI, 40, .inl sv)), zM m0 m1 m2 m3 m4 m5 mn mi, (m1, .inl (cI, 104, .inl vs)), (m2, .inl (cI, 104, .inl (nF tg))), (m3, .inl (cI, 104, .inl (oF sr))), (m4, .inl (cI, 104, .inl (nF kn))), (m5, .inl (cI, 104, .inl (nF su)))] : va_W) = [zO o0 oa i0 m0 nn, (oa, .inl (cP, 3, .inr (.inr (.inr (.inr pf))))), zP h a b dn n oc le ll li lc kc rp, zI i0 i1 i2 i3 i4 cn sS lS rS, (i1, .inl (cI, 40, .inl sv)), zM m0 m1 m2 m3 m4 m5 (mn + (sb1 t).toNat + (sb2 t).toNat) mi, (m1, .inl (cI, 104, .inl (sd_F (sb1 t) (sb2 t) vs mn (t >>> (nI 1 &&& 31)) (t >>> (nI 2 &&& 31))))), (m2, .inl (cI, 104, .inl (nF (sd_F (sb1 t) (sb2 t) tg mn ((j + 1) % 3) ((j + 2) % 3))))), (m3, .inl (cI, 104, .inl (oF (sd_F (sb1 t) (sb2 t) sr mn (some i) (some i))))), (m4, .inl (cI, 104, .inl (nF (sd_F (sb1 t) (sb2 t) kn mn le le)))), (m5, .inl (cI, 104, .inl (nF (sd_F (sb1 t) (sb2 t) su mn 0 0))))] := by simp [sd_F, s1_F, sb1, sb2, h1, h2]
      rw [hW8] at hP8 hD8
      have hP9 := hP8
      have hD9 := hD8
      exact W.vret hx hb hr (fun t ht hW => ⟨⟨(), rfl, trivial, by rw [ht]; exact hP9, va_K.moved hW.alike hK, hD9⟩, hS.F ht⟩) hS.2.2 dc_O_sendFrom_71
    · have h2 := hc
      refine lv_aload_n hx hb dc_O_sendFrom_52 rfl (lv_at hl 2 rfl) ?_
      refine va_get (D := (dC, dI)) (ci := 3) (v := .ref m0) (C := cn_O) (T := ft_O) (N := 4) hx hb htb ki_O hown hK hP 0 rfl rfl 2 (by decide) (htb _ kw_141) (fun _ h9 => h9) rfl dc_O_sendFrom_53 ?_
      refine lv_iload_n hx hb dc_O_sendFrom_56 rfl (lv_at hl 1 rfl) ?_
      refine lv_iconst (v := nI 2) hx hb dc_O_sendFrom_57 (by decide) ?_
      refine lv_ishr hx hb dc_O_sendFrom_58 ?_
      refine lv_iload_n hx hb dc_O_sendFrom_59 rfl (lv_at hl 3 rfl) ?_
      refine lv_iconst (v := nI 2) hx hb dc_O_sendFrom_60 (by decide) ?_
      refine lv_iadd hx hb dc_O_sendFrom_61 ?_
      refine tp_i (y := nI (j + 2)) (nI_add _ _) ?_
      refine lv_iconst (v := nI 3) hx hb dc_O_sendFrom_62 (by decide) ?_
      refine lv_irem hx hb dc_O_sendFrom_63 (by decide) ?_
      refine tp_i (y := nI ((j + 2) % 3)) (pk_rem (by omega) (by omega) (by omega)) ?_
      refine lv_iload_n hx hb dc_O_sendFrom_64 rfl (lv_at hl 4 rfl) ?_
      refine tp_i (y := oI (some i)) (rfl) ?_
      refine lv_iload hx hb dc_O_sendFrom_65 (lv_at hl 0 rfl) ?_
      refine cl_i (wc := [zM m0 m1 m2 m3 m4 m5 mn mi, (m1, .inl (cI, 104, .inl vs)), (m2, .inl (cI, 104, .inl (nF tg))), (m3, .inl (cI, 104, .inl (oF sr))), (m4, .inl (cI, 104, .inl (nF kn))), (m5, .inl (cI, 104, .inl (nF su)))]) (wr := [zO o0 oa i0 m0 nn, (oa, .inl (cP, 3, .inr (.inr (.inr (.inr pf))))), zP h a b dn n oc le ll li lc kc rp, zI i0 i1 i2 i3 i4 cn sS lS rS, (i1, .inl (cI, 40, .inl sv))]) (w1 := [zM m0 m1 m2 m3 m4 m5 (mn + 1) mi, (m1, .inl (cI, 104, .inl (va_up vs mn (t >>> ((nI 2) &&& 31))))), (m2, .inl (cI, 104, .inl (nF (va_up tg mn ((j + 2) % 3))))), (m3, .inl (cI, 104, .inl (oF (va_up sr mn (some i))))), (m4, .inl (cI, 104, .inl (nF (va_up kn mn le)))), (m5, .inl (cI, 104, .inl (nF (va_up su mn 0))))]) hP hD hS hA [5, 6, 7, 8, 9, 10] [0, 1, 2, 3, 4] rfl rfl (by decide) (by decide) (va_runV (As := [.int (t >>> ((nI 2) &&& 31)), .int (nI ((j + 2) % 3)), .int (oI (some i)), .int (nI le)]) (rest := []) ⟨hx, hb, hml, hown, htb⟩ (oc_M_make l dC dI cI cJ cZ cP _ m0 m1 m2 m3 m4 m5 mn mi vs tg sr kn su (t >>> ((nI 2) &&& 31)) ((j + 2) % 3) (some i) le (by first | assumption | omega)) (cwV 4 htb (gw_V kw_175 kw_176 kw_177 kw_4 kw_178) rfl rfl rfl (by decide +kernel) ⟨Nat.le_of_ble_eq_true rfl, Nat.le_of_ble_eq_true rfl⟩) (pr_V hP hK hD (va_recv hK hP (ci := 1) (q0 := 5) rfl rfl) [5, 6, 7, 8, 9, 10] (by decide) rfl rfl) rfl rfl hl.1 rfl (lv_room (Nat.le_of_ble_eq_true rfl)) dc_O_sendFrom_67 ⟨Nat.le_of_ble_eq_true rfl, Nat.le_of_ble_eq_true rfl⟩) (fun H locs hP hD hS => ?_)
      have hP : va_P (dC, dI) clsL [zO o0 oa i0 m0 nn, (oa, .inl (cP, 3, .inr (.inr (.inr (.inr pf))))), zP h a b dn n oc le ll li lc kc rp, zI i0 i1 i2 i3 i4 cn sS lS rS, (i1, .inl (cI, 40, .inl sv)), zM m0 m1 m2 m3 m4 m5 (mn + 1) mi, (m1, .inl (cI, 104, .inl (va_up vs mn (t >>> ((nI 2) &&& 31))))), (m2, .inl (cI, 104, .inl (nF (va_up tg mn ((j + 2) % 3))))), (m3, .inl (cI, 104, .inl (oF (va_up sr mn (some i))))), (m4, .inl (cI, 104, .inl (nF (va_up kn mn le)))), (m5, .inl (cI, 104, .inl (nF (va_up su mn 0))))] H := hP.sub (ws' := [zO o0 oa i0 m0 nn, (oa, .inl (cP, 3, .inr (.inr (.inr (.inr pf))))), zP h a b dn n oc le ll li lc kc rp, zI i0 i1 i2 i3 i4 cn sS lS rS, (i1, .inl (cI, 40, .inl sv)), zM m0 m1 m2 m3 m4 m5 (mn + 1) mi, (m1, .inl (cI, 104, .inl (va_up vs mn (t >>> ((nI 2) &&& 31))))), (m2, .inl (cI, 104, .inl (nF (va_up tg mn ((j + 2) % 3))))), (m3, .inl (cI, 104, .inl (oF (va_up sr mn (some i))))), (m4, .inl (cI, 104, .inl (nF (va_up kn mn le)))), (m5, .inl (cI, 104, .inl (nF (va_up su mn 0))))]) [0, 1, 2, 3, 4, 5, 6, 7, 8, 9, 10] rfl
      have hD : va_D A [zO o0 oa i0 m0 nn, (oa, .inl (cP, 3, .inr (.inr (.inr (.inr pf))))), zP h a b dn n oc le ll li lc kc rp, zI i0 i1 i2 i3 i4 cn sS lS rS, (i1, .inl (cI, 40, .inl sv)), zM m0 m1 m2 m3 m4 m5 (mn + 1) mi, (m1, .inl (cI, 104, .inl (va_up vs mn (t >>> ((nI 2) &&& 31))))), (m2, .inl (cI, 104, .inl (nF (va_up tg mn ((j + 2) % 3))))), (m3, .inl (cI, 104, .inl (oF (va_up sr mn (some i))))), (m4, .inl (cI, 104, .inl (nF (va_up kn mn le)))), (m5, .inl (cI, 104, .inl (nF (va_up su mn 0))))] := hD.sub (ws' := [zO o0 oa i0 m0 nn, (oa, .inl (cP, 3, .inr (.inr (.inr (.inr pf))))), zP h a b dn n oc le ll li lc kc rp, zI i0 i1 i2 i3 i4 cn sS lS rS, (i1, .inl (cI, 40, .inl sv)), zM m0 m1 m2 m3 m4 m5 (mn + 1) mi, (m1, .inl (cI, 104, .inl (va_up vs mn (t >>> ((nI 2) &&& 31))))), (m2, .inl (cI, 104, .inl (nF (va_up tg mn ((j + 2) % 3))))), (m3, .inl (cI, 104, .inl (oF (va_up sr mn (some i))))), (m4, .inl (cI, 104, .inl (nF (va_up kn mn le)))), (m5, .inl (cI, 104, .inl (nF (va_up su mn 0))))]) [0, 1, 2, 3, 4, 5, 6, 7, 8, 9, 10] (by decide) rfl
      refine lv_pop hx hb dc_O_sendFrom_70 rfl ?_
      have hP8 := hP.sub (ws' := [zO o0 oa i0 m0 nn, (oa, .inl (cP, 3, .inr (.inr (.inr (.inr pf))))), zP h a b dn n oc le ll li lc kc rp, zI i0 i1 i2 i3 i4 cn sS lS rS, (i1, .inl (cI, 40, .inl sv)), zM m0 m1 m2 m3 m4 m5 (mn + 1) mi, (m1, .inl (cI, 104, .inl (va_up vs mn (t >>> ((nI 2) &&& 31))))), (m2, .inl (cI, 104, .inl (nF (va_up tg mn ((j + 2) % 3))))), (m3, .inl (cI, 104, .inl (oF (va_up sr mn (some i))))), (m4, .inl (cI, 104, .inl (nF (va_up kn mn le)))), (m5, .inl (cI, 104, .inl (nF (va_up su mn 0))))]) [0, 1, 2, 3, 4, 5, 6, 7, 8, 9, 10] rfl
      have hD8 := hD.sub (ws' := [zO o0 oa i0 m0 nn, (oa, .inl (cP, 3, .inr (.inr (.inr (.inr pf))))), zP h a b dn n oc le ll li lc kc rp, zI i0 i1 i2 i3 i4 cn sS lS rS, (i1, .inl (cI, 40, .inl sv)), zM m0 m1 m2 m3 m4 m5 (mn + 1) mi, (m1, .inl (cI, 104, .inl (va_up vs mn (t >>> ((nI 2) &&& 31))))), (m2, .inl (cI, 104, .inl (nF (va_up tg mn ((j + 2) % 3))))), (m3, .inl (cI, 104, .inl (oF (va_up sr mn (some i))))), (m4, .inl (cI, 104, .inl (nF (va_up kn mn le)))), (m5, .inl (cI, 104, .inl (nF (va_up su mn 0))))]) [0, 1, 2, 3, 4, 5, 6, 7, 8, 9, 10] (by decide) rfl
      have hW8 : ([zO o0 oa i0 m0 nn, (oa, .inl (cP, 3, .inr (.inr (.inr (.inr pf))))), zP h a b dn n oc le ll li lc kc rp, zI i0 i1 i2 i3 i4 cn sS lS rS, (i1, .inl (cI, 40, .inl sv)), zM m0 m1 m2 m3 m4 m5 (mn + 1) mi, (m1, .inl (cI, 104, .inl (va_up vs mn (t >>> ((nI 2) &&& 31))))), (m2, .inl (cI, 104, .inl (nF (va_up tg mn ((j + 2) % 3))))), (m3, .inl (cI, 104, .inl (oF (va_up sr mn (some i))))), (m4, .inl (cI, 104, .inl (nF (va_up kn mn le)))), (m5, .inl (cI, 104, .inl (nF (va_up su mn 0))))] : va_W) = [zO o0 oa i0 m0 nn, (oa, .inl (cP, 3, .inr (.inr (.inr (.inr pf))))), zP h a b dn n oc le ll li lc kc rp, zI i0 i1 i2 i3 i4 cn sS lS rS, (i1, .inl (cI, 40, .inl sv)), zM m0 m1 m2 m3 m4 m5 (mn + (sb1 t).toNat + (sb2 t).toNat) mi, (m1, .inl (cI, 104, .inl (sd_F (sb1 t) (sb2 t) vs mn (t >>> (nI 1 &&& 31)) (t >>> (nI 2 &&& 31))))), (m2, .inl (cI, 104, .inl (nF (sd_F (sb1 t) (sb2 t) tg mn ((j + 1) % 3) ((j + 2) % 3))))), (m3, .inl (cI, 104, .inl (oF (sd_F (sb1 t) (sb2 t) sr mn (some i) (some i))))), (m4, .inl (cI, 104, .inl (nF (sd_F (sb1 t) (sb2 t) kn mn le le)))), (m5, .inl (cI, 104, .inl (nF (sd_F (sb1 t) (sb2 t) su mn 0 0))))] := by simp [sd_F, s1_F, sb1, sb2, h1, h2]
      rw [hW8] at hP8 hD8
      have hP9 := hP8
      have hD9 := hD8
      exact W.vret hx hb hr (fun t ht hW => ⟨⟨(), rfl, trivial, by rw [ht]; exact hP9, va_K.moved hW.alike hK, hD9⟩, hS.F ht⟩) hS.2.2 dc_O_sendFrom_71
  · have h1 := hc
    refine lv_aload_n hx hb dc_O_sendFrom_27 rfl (lv_at hl 2 rfl) ?_
    refine va_get (D := (dC, dI)) (ci := 3) (v := .ref m0) (C := cn_O) (T := ft_O) (N := 4) hx hb htb ki_O hown hK hP 0 rfl rfl 2 (by decide) (htb _ kw_141) (fun _ h9 => h9) rfl dc_O_sendFrom_28 ?_
    refine lv_iload_n hx hb dc_O_sendFrom_31 rfl (lv_at hl 1 rfl) ?_
    refine lv_iconst (v := nI 1) hx hb dc_O_sendFrom_32 (by decide) ?_
    refine lv_ishr hx hb dc_O_sendFrom_33 ?_
    refine lv_iload_n hx hb dc_O_sendFrom_34 rfl (lv_at hl 3 rfl) ?_
    refine lv_iconst (v := nI 1) hx hb dc_O_sendFrom_35 (by decide) ?_
    refine lv_iadd hx hb dc_O_sendFrom_36 ?_
    refine tp_i (y := nI (j + 1)) (nI_add _ _) ?_
    refine lv_iconst (v := nI 3) hx hb dc_O_sendFrom_37 (by decide) ?_
    refine lv_irem hx hb dc_O_sendFrom_38 (by decide) ?_
    refine tp_i (y := nI ((j + 1) % 3)) (pk_rem (by omega) (by omega) (by omega)) ?_
    refine lv_iload_n hx hb dc_O_sendFrom_39 rfl (lv_at hl 4 rfl) ?_
    refine tp_i (y := oI (some i)) (rfl) ?_
    refine lv_iload hx hb dc_O_sendFrom_40 (lv_at hl 0 rfl) ?_
    refine cl_i (wc := [zM m0 m1 m2 m3 m4 m5 mn mi, (m1, .inl (cI, 104, .inl vs)), (m2, .inl (cI, 104, .inl (nF tg))), (m3, .inl (cI, 104, .inl (oF sr))), (m4, .inl (cI, 104, .inl (nF kn))), (m5, .inl (cI, 104, .inl (nF su)))]) (wr := [zO o0 oa i0 m0 nn, (oa, .inl (cP, 3, .inr (.inr (.inr (.inr pf))))), zP h a b dn n oc le ll li lc kc rp, zI i0 i1 i2 i3 i4 cn sS lS rS, (i1, .inl (cI, 40, .inl sv))]) (w1 := [zM m0 m1 m2 m3 m4 m5 (mn + 1) mi, (m1, .inl (cI, 104, .inl (va_up vs mn (t >>> ((nI 1) &&& 31))))), (m2, .inl (cI, 104, .inl (nF (va_up tg mn ((j + 1) % 3))))), (m3, .inl (cI, 104, .inl (oF (va_up sr mn (some i))))), (m4, .inl (cI, 104, .inl (nF (va_up kn mn le)))), (m5, .inl (cI, 104, .inl (nF (va_up su mn 0))))]) hP hD hS hA [5, 6, 7, 8, 9, 10] [0, 1, 2, 3, 4] rfl rfl (by decide) (by decide) (va_runV (As := [.int (t >>> ((nI 1) &&& 31)), .int (nI ((j + 1) % 3)), .int (oI (some i)), .int (nI le)]) (rest := []) ⟨hx, hb, hml, hown, htb⟩ (oc_M_make l dC dI cI cJ cZ cP _ m0 m1 m2 m3 m4 m5 mn mi vs tg sr kn su (t >>> ((nI 1) &&& 31)) ((j + 1) % 3) (some i) le (by first | assumption | omega)) (cwV 4 htb (gw_V kw_175 kw_176 kw_177 kw_4 kw_178) rfl rfl rfl (by decide +kernel) ⟨Nat.le_of_ble_eq_true rfl, Nat.le_of_ble_eq_true rfl⟩) (pr_V hP hK hD (va_recv hK hP (ci := 1) (q0 := 5) rfl rfl) [5, 6, 7, 8, 9, 10] (by decide) rfl rfl) rfl rfl hl.1 rfl (lv_room (Nat.le_of_ble_eq_true rfl)) dc_O_sendFrom_42 ⟨Nat.le_of_ble_eq_true rfl, Nat.le_of_ble_eq_true rfl⟩) (fun H locs hP hD hS => ?_)
    have hP : va_P (dC, dI) clsL [zO o0 oa i0 m0 nn, (oa, .inl (cP, 3, .inr (.inr (.inr (.inr pf))))), zP h a b dn n oc le ll li lc kc rp, zI i0 i1 i2 i3 i4 cn sS lS rS, (i1, .inl (cI, 40, .inl sv)), zM m0 m1 m2 m3 m4 m5 (mn + 1) mi, (m1, .inl (cI, 104, .inl (va_up vs mn (t >>> ((nI 1) &&& 31))))), (m2, .inl (cI, 104, .inl (nF (va_up tg mn ((j + 1) % 3))))), (m3, .inl (cI, 104, .inl (oF (va_up sr mn (some i))))), (m4, .inl (cI, 104, .inl (nF (va_up kn mn le)))), (m5, .inl (cI, 104, .inl (nF (va_up su mn 0))))] H := hP.sub (ws' := [zO o0 oa i0 m0 nn, (oa, .inl (cP, 3, .inr (.inr (.inr (.inr pf))))), zP h a b dn n oc le ll li lc kc rp, zI i0 i1 i2 i3 i4 cn sS lS rS, (i1, .inl (cI, 40, .inl sv)), zM m0 m1 m2 m3 m4 m5 (mn + 1) mi, (m1, .inl (cI, 104, .inl (va_up vs mn (t >>> ((nI 1) &&& 31))))), (m2, .inl (cI, 104, .inl (nF (va_up tg mn ((j + 1) % 3))))), (m3, .inl (cI, 104, .inl (oF (va_up sr mn (some i))))), (m4, .inl (cI, 104, .inl (nF (va_up kn mn le)))), (m5, .inl (cI, 104, .inl (nF (va_up su mn 0))))]) [0, 1, 2, 3, 4, 5, 6, 7, 8, 9, 10] rfl
    have hD : va_D A [zO o0 oa i0 m0 nn, (oa, .inl (cP, 3, .inr (.inr (.inr (.inr pf))))), zP h a b dn n oc le ll li lc kc rp, zI i0 i1 i2 i3 i4 cn sS lS rS, (i1, .inl (cI, 40, .inl sv)), zM m0 m1 m2 m3 m4 m5 (mn + 1) mi, (m1, .inl (cI, 104, .inl (va_up vs mn (t >>> ((nI 1) &&& 31))))), (m2, .inl (cI, 104, .inl (nF (va_up tg mn ((j + 1) % 3))))), (m3, .inl (cI, 104, .inl (oF (va_up sr mn (some i))))), (m4, .inl (cI, 104, .inl (nF (va_up kn mn le)))), (m5, .inl (cI, 104, .inl (nF (va_up su mn 0))))] := hD.sub (ws' := [zO o0 oa i0 m0 nn, (oa, .inl (cP, 3, .inr (.inr (.inr (.inr pf))))), zP h a b dn n oc le ll li lc kc rp, zI i0 i1 i2 i3 i4 cn sS lS rS, (i1, .inl (cI, 40, .inl sv)), zM m0 m1 m2 m3 m4 m5 (mn + 1) mi, (m1, .inl (cI, 104, .inl (va_up vs mn (t >>> ((nI 1) &&& 31))))), (m2, .inl (cI, 104, .inl (nF (va_up tg mn ((j + 1) % 3))))), (m3, .inl (cI, 104, .inl (oF (va_up sr mn (some i))))), (m4, .inl (cI, 104, .inl (nF (va_up kn mn le)))), (m5, .inl (cI, 104, .inl (nF (va_up su mn 0))))]) [0, 1, 2, 3, 4, 5, 6, 7, 8, 9, 10] (by decide) rfl
    refine lv_pop hx hb dc_O_sendFrom_45 rfl ?_
    refine lv_iload_n hx hb dc_O_sendFrom_46 rfl (lv_at hl 1 rfl) ?_
    refine lv_iconst (v := nI 2) hx hb dc_O_sendFrom_47 (by decide) ?_
    refine lv_iand hx hb dc_O_sendFrom_48 ?_
    refine lv_if_eq (tgt := 71) hx hb dc_O_sendFrom_49 (by decide) (fun hc => ?_) (fun hc => ?_)
    · have h2 := hc
      have hP8 := hP.sub (ws' := [zO o0 oa i0 m0 nn, (oa, .inl (cP, 3, .inr (.inr (.inr (.inr pf))))), zP h a b dn n oc le ll li lc kc rp, zI i0 i1 i2 i3 i4 cn sS lS rS, (i1, .inl (cI, 40, .inl sv)), zM m0 m1 m2 m3 m4 m5 (mn + 1) mi, (m1, .inl (cI, 104, .inl (va_up vs mn (t >>> ((nI 1) &&& 31))))), (m2, .inl (cI, 104, .inl (nF (va_up tg mn ((j + 1) % 3))))), (m3, .inl (cI, 104, .inl (oF (va_up sr mn (some i))))), (m4, .inl (cI, 104, .inl (nF (va_up kn mn le)))), (m5, .inl (cI, 104, .inl (nF (va_up su mn 0))))]) [0, 1, 2, 3, 4, 5, 6, 7, 8, 9, 10] rfl
      have hD8 := hD.sub (ws' := [zO o0 oa i0 m0 nn, (oa, .inl (cP, 3, .inr (.inr (.inr (.inr pf))))), zP h a b dn n oc le ll li lc kc rp, zI i0 i1 i2 i3 i4 cn sS lS rS, (i1, .inl (cI, 40, .inl sv)), zM m0 m1 m2 m3 m4 m5 (mn + 1) mi, (m1, .inl (cI, 104, .inl (va_up vs mn (t >>> ((nI 1) &&& 31))))), (m2, .inl (cI, 104, .inl (nF (va_up tg mn ((j + 1) % 3))))), (m3, .inl (cI, 104, .inl (oF (va_up sr mn (some i))))), (m4, .inl (cI, 104, .inl (nF (va_up kn mn le)))), (m5, .inl (cI, 104, .inl (nF (va_up su mn 0))))]) [0, 1, 2, 3, 4, 5, 6, 7, 8, 9, 10] (by decide) rfl
      have hW8 : ([zO o0 oa i0 m0 nn, (oa, .inl (cP, 3, .inr (.inr (.inr (.inr pf))))), zP h a b dn n oc le ll li lc kc rp, zI i0 i1 i2 i3 i4 cn sS lS rS, (i1, .inl (cI, 40, .inl sv)), zM m0 m1 m2 m3 m4 m5 (mn + 1) mi, (m1, .inl (cI, 104, .inl (va_up vs mn (t >>> ((nI 1) &&& 31))))), (m2, .inl (cI, 104, .inl (nF (va_up tg mn ((j + 1) % 3))))), (m3, .inl (cI, 104, .inl (oF (va_up sr mn (some i))))), (m4, .inl (cI, 104, .inl (nF (va_up kn mn le)))), (m5, .inl (cI, 104, .inl (nF (va_up su mn 0))))] : va_W) = [zO o0 oa i0 m0 nn, (oa, .inl (cP, 3, .inr (.inr (.inr (.inr pf))))), zP h a b dn n oc le ll li lc kc rp, zI i0 i1 i2 i3 i4 cn sS lS rS, (i1, .inl (cI, 40, .inl sv)), zM m0 m1 m2 m3 m4 m5 (mn + (sb1 t).toNat + (sb2 t).toNat) mi, (m1, .inl (cI, 104, .inl (sd_F (sb1 t) (sb2 t) vs mn (t >>> (nI 1 &&& 31)) (t >>> (nI 2 &&& 31))))), (m2, .inl (cI, 104, .inl (nF (sd_F (sb1 t) (sb2 t) tg mn ((j + 1) % 3) ((j + 2) % 3))))), (m3, .inl (cI, 104, .inl (oF (sd_F (sb1 t) (sb2 t) sr mn (some i) (some i))))), (m4, .inl (cI, 104, .inl (nF (sd_F (sb1 t) (sb2 t) kn mn le le)))), (m5, .inl (cI, 104, .inl (nF (sd_F (sb1 t) (sb2 t) su mn 0 0))))] := by simp [sd_F, s1_F, sb1, sb2, h1, h2]
      rw [hW8] at hP8 hD8
      have hP9 := hP8
      have hD9 := hD8
      exact W.vret hx hb hr (fun t ht hW => ⟨⟨(), rfl, trivial, by rw [ht]; exact hP9, va_K.moved hW.alike hK, hD9⟩, hS.F ht⟩) hS.2.2 dc_O_sendFrom_71
    · have h2 := hc
      refine lv_aload_n hx hb dc_O_sendFrom_52 rfl (lv_at hl 2 rfl) ?_
      refine va_get (D := (dC, dI)) (ci := 3) (v := .ref m0) (C := cn_O) (T := ft_O) (N := 4) hx hb htb ki_O hown hK hP 0 rfl rfl 2 (by decide) (htb _ kw_141) (fun _ h9 => h9) rfl dc_O_sendFrom_53 ?_
      refine lv_iload_n hx hb dc_O_sendFrom_56 rfl (lv_at hl 1 rfl) ?_
      refine lv_iconst (v := nI 2) hx hb dc_O_sendFrom_57 (by decide) ?_
      refine lv_ishr hx hb dc_O_sendFrom_58 ?_
      refine lv_iload_n hx hb dc_O_sendFrom_59 rfl (lv_at hl 3 rfl) ?_
      refine lv_iconst (v := nI 2) hx hb dc_O_sendFrom_60 (by decide) ?_
      refine lv_iadd hx hb dc_O_sendFrom_61 ?_
      refine tp_i (y := nI (j + 2)) (nI_add _ _) ?_
      refine lv_iconst (v := nI 3) hx hb dc_O_sendFrom_62 (by decide) ?_
      refine lv_irem hx hb dc_O_sendFrom_63 (by decide) ?_
      refine tp_i (y := nI ((j + 2) % 3)) (pk_rem (by omega) (by omega) (by omega)) ?_
      refine lv_iload_n hx hb dc_O_sendFrom_64 rfl (lv_at hl 4 rfl) ?_
      refine tp_i (y := oI (some i)) (rfl) ?_
      refine lv_iload hx hb dc_O_sendFrom_65 (lv_at hl 0 rfl) ?_
      refine cl_i (wc := [zM m0 m1 m2 m3 m4 m5 (mn + 1) mi, (m1, .inl (cI, 104, .inl (va_up vs mn (t >>> ((nI 1) &&& 31))))), (m2, .inl (cI, 104, .inl (nF (va_up tg mn ((j + 1) % 3))))), (m3, .inl (cI, 104, .inl (oF (va_up sr mn (some i))))), (m4, .inl (cI, 104, .inl (nF (va_up kn mn le)))), (m5, .inl (cI, 104, .inl (nF (va_up su mn 0))))]) (wr := [zO o0 oa i0 m0 nn, (oa, .inl (cP, 3, .inr (.inr (.inr (.inr pf))))), zP h a b dn n oc le ll li lc kc rp, zI i0 i1 i2 i3 i4 cn sS lS rS, (i1, .inl (cI, 40, .inl sv))]) (w1 := [zM m0 m1 m2 m3 m4 m5 ((mn + 1) + 1) mi, (m1, .inl (cI, 104, .inl (va_up (va_up vs mn (t >>> ((nI 1) &&& 31))) (mn + 1) (t >>> ((nI 2) &&& 31))))), (m2, .inl (cI, 104, .inl (nF (va_up (va_up tg mn ((j + 1) % 3)) (mn + 1) ((j + 2) % 3))))), (m3, .inl (cI, 104, .inl (oF (va_up (va_up sr mn (some i)) (mn + 1) (some i))))), (m4, .inl (cI, 104, .inl (nF (va_up (va_up kn mn le) (mn + 1) le)))), (m5, .inl (cI, 104, .inl (nF (va_up (va_up su mn 0) (mn + 1) 0))))]) hP hD hS hA [5, 6, 7, 8, 9, 10] [0, 1, 2, 3, 4] rfl rfl (by decide) (by decide) (va_runV (As := [.int (t >>> ((nI 2) &&& 31)), .int (nI ((j + 2) % 3)), .int (oI (some i)), .int (nI le)]) (rest := []) ⟨hx, hb, hml, hown, htb⟩ (oc_M_make l dC dI cI cJ cZ cP _ m0 m1 m2 m3 m4 m5 (mn + 1) mi (va_up vs mn (t >>> ((nI 1) &&& 31))) (va_up tg mn ((j + 1) % 3)) (va_up sr mn (some i)) (va_up kn mn le) (va_up su mn 0) (t >>> ((nI 2) &&& 31)) ((j + 2) % 3) (some i) le (by first | assumption | omega)) (cwV 4 htb (gw_V kw_175 kw_176 kw_177 kw_4 kw_178) rfl rfl rfl (by decide +kernel) ⟨Nat.le_of_ble_eq_true rfl, Nat.le_of_ble_eq_true rfl⟩) (pr_V hP hK hD (va_recv hK hP (ci := 1) (q0 := 5) rfl rfl) [5, 6, 7, 8, 9, 10] (by decide) rfl rfl) rfl rfl hl.1 rfl (lv_room (Nat.le_of_ble_eq_true rfl)) dc_O_sendFrom_67 ⟨Nat.le_of_ble_eq_true rfl, Nat.le_of_ble_eq_true rfl⟩) (fun H locs hP hD hS => ?_)
      have hP : va_P (dC, dI) clsL [zO o0 oa i0 m0 nn, (oa, .inl (cP, 3, .inr (.inr (.inr (.inr pf))))), zP h a b dn n oc le ll li lc kc rp, zI i0 i1 i2 i3 i4 cn sS lS rS, (i1, .inl (cI, 40, .inl sv)), zM m0 m1 m2 m3 m4 m5 ((mn + 1) + 1) mi, (m1, .inl (cI, 104, .inl (va_up (va_up vs mn (t >>> ((nI 1) &&& 31))) (mn + 1) (t >>> ((nI 2) &&& 31))))), (m2, .inl (cI, 104, .inl (nF (va_up (va_up tg mn ((j + 1) % 3)) (mn + 1) ((j + 2) % 3))))), (m3, .inl (cI, 104, .inl (oF (va_up (va_up sr mn (some i)) (mn + 1) (some i))))), (m4, .inl (cI, 104, .inl (nF (va_up (va_up kn mn le) (mn + 1) le)))), (m5, .inl (cI, 104, .inl (nF (va_up (va_up su mn 0) (mn + 1) 0))))] H := hP.sub (ws' := [zO o0 oa i0 m0 nn, (oa, .inl (cP, 3, .inr (.inr (.inr (.inr pf))))), zP h a b dn n oc le ll li lc kc rp, zI i0 i1 i2 i3 i4 cn sS lS rS, (i1, .inl (cI, 40, .inl sv)), zM m0 m1 m2 m3 m4 m5 ((mn + 1) + 1) mi, (m1, .inl (cI, 104, .inl (va_up (va_up vs mn (t >>> ((nI 1) &&& 31))) (mn + 1) (t >>> ((nI 2) &&& 31))))), (m2, .inl (cI, 104, .inl (nF (va_up (va_up tg mn ((j + 1) % 3)) (mn + 1) ((j + 2) % 3))))), (m3, .inl (cI, 104, .inl (oF (va_up (va_up sr mn (some i)) (mn + 1) (some i))))), (m4, .inl (cI, 104, .inl (nF (va_up (va_up kn mn le) (mn + 1) le)))), (m5, .inl (cI, 104, .inl (nF (va_up (va_up su mn 0) (mn + 1) 0))))]) [0, 1, 2, 3, 4, 5, 6, 7, 8, 9, 10] rfl
      have hD : va_D A [zO o0 oa i0 m0 nn, (oa, .inl (cP, 3, .inr (.inr (.inr (.inr pf))))), zP h a b dn n oc le ll li lc kc rp, zI i0 i1 i2 i3 i4 cn sS lS rS, (i1, .inl (cI, 40, .inl sv)), zM m0 m1 m2 m3 m4 m5 ((mn + 1) + 1) mi, (m1, .inl (cI, 104, .inl (va_up (va_up vs mn (t >>> ((nI 1) &&& 31))) (mn + 1) (t >>> ((nI 2) &&& 31))))), (m2, .inl (cI, 104, .inl (nF (va_up (va_up tg mn ((j + 1) % 3)) (mn + 1) ((j + 2) % 3))))), (m3, .inl (cI, 104, .inl (oF (va_up (va_up sr mn (some i)) (mn + 1) (some i))))), (m4, .inl (cI, 104, .inl (nF (va_up (va_up kn mn le) (mn + 1) le)))), (m5, .inl (cI, 104, .inl (nF (va_up (va_up su mn 0) (mn + 1) 0))))] := hD.sub (ws' := [zO o0 oa i0 m0 nn, (oa, .inl (cP, 3, .inr (.inr (.inr (.inr pf))))), zP h a b dn n oc le ll li lc kc rp, zI i0 i1 i2 i3 i4 cn sS lS rS, (i1, .inl (cI, 40, .inl sv)), zM m0 m1 m2 m3 m4 m5 ((mn + 1) + 1) mi, (m1, .inl (cI, 104, .inl (va_up (va_up vs mn (t >>> ((nI 1) &&& 31))) (mn + 1) (t >>> ((nI 2) &&& 31))))), (m2, .inl (cI, 104, .inl (nF (va_up (va_up tg mn ((j + 1) % 3)) (mn + 1) ((j + 2) % 3))))), (m3, .inl (cI, 104, .inl (oF (va_up (va_up sr mn (some i)) (mn + 1) (some i))))), (m4, .inl (cI, 104, .inl (nF (va_up (va_up kn mn le) (mn + 1) le)))), (m5, .inl (cI, 104, .inl (nF (va_up (va_up su mn 0) (mn + 1) 0))))]) [0, 1, 2, 3, 4, 5, 6, 7, 8, 9, 10] (by decide) rfl
      refine lv_pop hx hb dc_O_sendFrom_70 rfl ?_
      have hP8 := hP.sub (ws' := [zO o0 oa i0 m0 nn, (oa, .inl (cP, 3, .inr (.inr (.inr (.inr pf))))), zP h a b dn n oc le ll li lc kc rp, zI i0 i1 i2 i3 i4 cn sS lS rS, (i1, .inl (cI, 40, .inl sv)), zM m0 m1 m2 m3 m4 m5 ((mn + 1) + 1) mi, (m1, .inl (cI, 104, .inl (va_up (va_up vs mn (t >>> ((nI 1) &&& 31))) (mn + 1) (t >>> ((nI 2) &&& 31))))), (m2, .inl (cI, 104, .inl (nF (va_up (va_up tg mn ((j + 1) % 3)) (mn + 1) ((j + 2) % 3))))), (m3, .inl (cI, 104, .inl (oF (va_up (va_up sr mn (some i)) (mn + 1) (some i))))), (m4, .inl (cI, 104, .inl (nF (va_up (va_up kn mn le) (mn + 1) le)))), (m5, .inl (cI, 104, .inl (nF (va_up (va_up su mn 0) (mn + 1) 0))))]) [0, 1, 2, 3, 4, 5, 6, 7, 8, 9, 10] rfl
      have hD8 := hD.sub (ws' := [zO o0 oa i0 m0 nn, (oa, .inl (cP, 3, .inr (.inr (.inr (.inr pf))))), zP h a b dn n oc le ll li lc kc rp, zI i0 i1 i2 i3 i4 cn sS lS rS, (i1, .inl (cI, 40, .inl sv)), zM m0 m1 m2 m3 m4 m5 ((mn + 1) + 1) mi, (m1, .inl (cI, 104, .inl (va_up (va_up vs mn (t >>> ((nI 1) &&& 31))) (mn + 1) (t >>> ((nI 2) &&& 31))))), (m2, .inl (cI, 104, .inl (nF (va_up (va_up tg mn ((j + 1) % 3)) (mn + 1) ((j + 2) % 3))))), (m3, .inl (cI, 104, .inl (oF (va_up (va_up sr mn (some i)) (mn + 1) (some i))))), (m4, .inl (cI, 104, .inl (nF (va_up (va_up kn mn le) (mn + 1) le)))), (m5, .inl (cI, 104, .inl (nF (va_up (va_up su mn 0) (mn + 1) 0))))]) [0, 1, 2, 3, 4, 5, 6, 7, 8, 9, 10] (by decide) rfl
      have hW8 : ([zO o0 oa i0 m0 nn, (oa, .inl (cP, 3, .inr (.inr (.inr (.inr pf))))), zP h a b dn n oc le ll li lc kc rp, zI i0 i1 i2 i3 i4 cn sS lS rS, (i1, .inl (cI, 40, .inl sv)), zM m0 m1 m2 m3 m4 m5 ((mn + 1) + 1) mi, (m1, .inl (cI, 104, .inl (va_up (va_up vs mn (t >>> ((nI 1) &&& 31))) (mn + 1) (t >>> ((nI 2) &&& 31))))), (m2, .inl (cI, 104, .inl (nF (va_up (va_up tg mn ((j + 1) % 3)) (mn + 1) ((j + 2) % 3))))), (m3, .inl (cI, 104, .inl (oF (va_up (va_up sr mn (some i)) (mn + 1) (some i))))), (m4, .inl (cI, 104, .inl (nF (va_up (va_up kn mn le) (mn + 1) le)))), (m5, .inl (cI, 104, .inl (nF (va_up (va_up su mn 0) (mn + 1) 0))))] : va_W) = [zO o0 oa i0 m0 nn, (oa, .inl (cP, 3, .inr (.inr (.inr (.inr pf))))), zP h a b dn n oc le ll li lc kc rp, zI i0 i1 i2 i3 i4 cn sS lS rS, (i1, .inl (cI, 40, .inl sv)), zM m0 m1 m2 m3 m4 m5 (mn + (sb1 t).toNat + (sb2 t).toNat) mi, (m1, .inl (cI, 104, .inl (sd_F (sb1 t) (sb2 t) vs mn (t >>> (nI 1 &&& 31)) (t >>> (nI 2 &&& 31))))), (m2, .inl (cI, 104, .inl (nF (sd_F (sb1 t) (sb2 t) tg mn ((j + 1) % 3) ((j + 2) % 3))))), (m3, .inl (cI, 104, .inl (oF (sd_F (sb1 t) (sb2 t) sr mn (some i) (some i))))), (m4, .inl (cI, 104, .inl (nF (sd_F (sb1 t) (sb2 t) kn mn le le)))), (m5, .inl (cI, 104, .inl (nF (sd_F (sb1 t) (sb2 t) su mn 0 0))))] := by simp [sd_F, s1_F, sb1, sb2, h1, h2]
      rw [hW8] at hP8 hD8
      have hP9 := hP8
      have hD9 := hD8
      exact W.vret hx hb hr (fun t ht hW => ⟨⟨(), rfl, trivial, by rw [ht]; exact hP9, va_K.moved hW.alike hK, hD9⟩, hS.F ht⟩) hS.2.2 dc_O_sendFrom_71

set_option maxHeartbeats 4000000 in
set_option maxRecDepth 100000 in
theorem oc_O_makeStable (l : Launch) (dC : Nat → ClassId) (dI : Nat → Nat → Nat) (cI cJ cZ cP : ClassId) (sz : Nat) (o0 : Nat) (oa : Nat) (i0 : Nat) (m0 : Nat) (nn : Nat) (h : Nat) (a : Nat) (b : Nat) (dn : Bool) (n : Nat) (oc : Nat) (le : Nat) (ll : Int64) (li : Int64) (lc : Nat) (kc : Nat) (rp : Int32) (i1 : Nat) (i2 : Nat) (i3 : Nat) (i4 : Nat) (cn : Nat) (sS : Int64) (lS : Int64) (rS : Int64) (ch : Nat → Nat) (hn : n ≤ 40) : mt_I l mn_O_makeStable bc_O_makeStable 4 (some .int) ({ frames := 1, cells := 0, slots := 0, locals := 23 }) (dC, dI) (TYS cI cJ cZ cP) sz [.ref o0, .ref h] [zO o0 oa i0 m0 nn, zP h a b dn n oc le ll li lc kc rp, (a, .inl (cI, 40, .inl (nF ch))), zI i0 i1 i2 i3 i4 cn sS lS rS] [zO o0 oa i0 m0 nn, zP h a b dn n oc le ll li lc kc rp, (a, .inl (cI, 40, .inl (nF ch))), zI i0 i1 i2 i3 i4 cn (sS ||| ((cs_set ch n) &&& (sS ^^^ (-1)))) lS rS] (nI (pc64 ((cs_set ch n) &&& (sS ^^^ (-1))))) 0 0 := by
  unfold mt_I
  refine Met.ofW (cc := bc_O_makeStable) (maxL := 4) (ret := (some .int)) (by decide) rfl ?_
  intro p e s m args below meth c s₁ B hml hv
  obtain ⟨rfl, hsz, hP, hK, hD0⟩ := hv
  have hx := B.exec
  have hb := B.bytes
  have hr := B.returns
  have hts := atoms_spec (ws := wsT mn_O_makeStable bc_O_makeStable 4 (some .int)) B.pre
  have htb : ∀ w ∈ gtbl, w.before _ s = true := fun w h => hts w (List.mem_cons_of_mem _ h)
  have hown : s.vm.findClass cn_O = some m.cls := findClass_of_methodNamed B.named
  have hlocks := B.notSynchronized
  subst hsz
  have hD := hD0.self (sz := s.heap.size)
  generalize hAe : va_A [zO o0 oa i0 m0 nn, zP h a b dn n oc le ll li lc kc rp, (a, .inl (cI, 40, .inl (nF ch))), zI i0 i1 i2 i3 i4 cn sS lS rS] s.heap.size = A at hD ⊢
  have hA : ∀ q : Nat, s.heap.size ≤ q → A q := fun q h => by rw [← hAe]; exact Or.inr h
  have hS : va_S A s.heap s.heap [] := va_S.rf
  have hP : va_P (dC, dI) clsL [zO o0 oa i0 m0 nn, zP h a b dn n oc le ll li lc kc rp, (a, .inl (cI, 40, .inl (nF ch))), zI i0 i1 i2 i3 i4 cn sS lS rS] s.heap := hP
  have hl := lv_entry ([.ref o0, .ref h]) (n := 4) (Nat.le_of_ble_eq_true rfl)
  rw [lg_entry_eq]
  generalize (lg_sl ([.ref o0, .ref h]) ++ List.replicate (4 - (lg_sl ([.ref o0, .ref h])).length) Slot.unset).toArray = ls at hl ⊢
  have hl : lv_has ls 4 [(0, .ref o0), (1, .ref h)] := hl
  refine lv_aload_n hx hb dc_O_makeStable_0 rfl (lv_at hl 1 rfl) ?_
  refine cl_l (wc := [zP h a b dn n oc le ll li lc kc rp, (a, .inl (cI, 40, .inl (nF ch)))]) (wr := [zO o0 oa i0 m0 nn, zI i0 i1 i2 i3 i4 cn sS lS rS]) (w1 := [zP h a b dn n oc le ll li lc kc rp, (a, .inl (cI, 40, .inl (nF ch)))]) hP hD hS hA [1, 2] [0, 3] rfl rfl (by decide) (by decide) (va_runV (As := []) (rest := []) ⟨hx, hb, hml, hown, htb⟩ (oc_P_chainSet l dC dI cI cJ cZ cP _ h a b dn n oc le ll li lc kc rp ch (by first | assumption | omega)) (cwV 0 htb (gw_V kw_227 kw_228 kw_229 kw_2 kw_230) rfl rfl rfl (by decide +kernel) ⟨Nat.le_of_ble_eq_true rfl, Nat.le_of_ble_eq_true rfl⟩) (pr_V hP hK hD (va_recv hK hP (ci := 2) (q0 := 1) rfl rfl) [1, 2] (by decide) rfl rfl) rfl rfl hl.1 rfl (lv_room (Nat.le_of_ble_eq_true rfl)) dc_O_makeStable_1 ⟨Nat.le_of_ble_eq_true rfl, Nat.le_of_ble_eq_true rfl⟩) (fun H locs hP hD hS => ?_)
  have hP : va_P (dC, dI) clsL [zO o0 oa i0 m0 nn, zP h a b dn n oc le ll li lc kc rp, (a, .inl (cI, 40, .inl (nF ch))), zI i0 i1 i2 i3 i4 cn sS lS rS] H := hP.sub (ws' := [zO o0 oa i0 m0 nn, zP h a b dn n oc le ll li lc kc rp, (a, .inl (cI, 40, .inl (nF ch))), zI i0 i1 i2 i3 i4 cn sS lS rS]) [0, 2, 3, 1] rfl
  have hD : va_D A [zO o0 oa i0 m0 nn, zP h a b dn n oc le ll li lc kc rp, (a, .inl (cI, 40, .inl (nF ch))), zI i0 i1 i2 i3 i4 cn sS lS rS] := hD.sub (ws' := [zO o0 oa i0 m0 nn, zP h a b dn n oc le ll li lc kc rp, (a, .inl (cI, 40, .inl (nF ch))), zI i0 i1 i2 i3 i4 cn sS lS rS]) [0, 2, 3, 1] (by decide) rfl
  refine lv_aload_n hx hb dc_O_makeStable_4 rfl (lv_at hl 0 rfl) ?_
  refine va_get (D := (dC, dI)) (ci := 3) (v := .ref i0) (C := cn_O) (T := ft_O) (N := 4) hx hb htb ki_O hown hK hP 0 rfl rfl 1 (by decide) (htb _ kw_140) (fun _ h9 => h9) rfl dc_O_makeStable_5 ?_
  refine va_get (D := (dC, dI)) (ci := 0) (v := .long sS) (C := cn_I) (T := ft_I) (N := 8) hx hb htb ki_I hown hK hP 3 rfl rfl 5 (by decide) (htb _ kw_82) (fun _ h9 => h9) rfl dc_O_makeStable_8 ?_
  refine lv_ldc2 (v := -1) hx hb hown (htb _ kw_231) dc_O_makeStable_11 ?_
  refine lv_lxor hx hb dc_O_makeStable_14 ?_
  refine lv_land hx hb dc_O_makeStable_15 ?_
  refine lv_lstore_n (lv' := [(2, .long ((cs_set ch n) &&& (sS ^^^ (-1)))), (0, .ref o0), (1, .ref h)]) hx hb dc_O_makeStable_16 rfl hl (by decide) rfl (fun ls hl => ?_)
  refine lv_aload_n hx hb dc_O_makeStable_17 rfl (lv_at hl 1 rfl) ?_
  refine va_get (D := (dC, dI)) (ci := 3) (v := .ref i0) (C := cn_O) (T := ft_O) (N := 4) hx hb htb ki_O hown hK hP 0 rfl rfl 1 (by decide) (htb _ kw_140) (fun _ h9 => h9) rfl dc_O_makeStable_18 ?_
  refine lv_dup hx hb dc_O_makeStable_21 rfl ?_
  refine va_get (D := (dC, dI)) (ci := 0) (v := .long sS) (C := cn_I) (T := ft_I) (N := 8) hx hb htb ki_I hown hK hP 3 rfl rfl 5 (by decide) (htb _ kw_82) (fun _ h9 => h9) rfl dc_O_makeStable_22 ?_
  refine lv_lload_n hx hb dc_O_makeStable_25 rfl (lv_at hl 0 rfl) ?_
  refine lv_lor hx hb dc_O_makeStable_26 ?_
  refine va_put (D := (dC, dI)) (ci := 0) (v := .long (sS ||| ((cs_set ch n) &&& (sS ^^^ (-1))))) (ty := .long) (C := cn_I) (T := ft_I) (N := 8) hx hb htb ki_I fy_I fy_I_ok nm_I_d hown hK hP hD hS 3 rfl rfl 5 (by decide) (htb _ kw_82) (fun _ h9 => h9) rfl (by decide +kernel) rfl rfl (Nat.le_of_ble_eq_true rfl) dc_O_makeStable_27 (fun H locs hP hD hS => ?_)
  have hP : va_P (dC, dI) clsL [zO o0 oa i0 m0 nn, zP h a b dn n oc le ll li lc kc rp, (a, .inl (cI, 40, .inl (nF ch))), zI i0 i1 i2 i3 i4 cn (sS ||| ((cs_set ch n) &&& (sS ^^^ (-1)))) lS rS] H := hP
  have hD : va_D A [zO o0 oa i0 m0 nn, zP h a b dn n oc le ll li lc kc rp, (a, .inl (cI, 40, .inl (nF ch))), zI i0 i1 i2 i3 i4 cn (sS ||| ((cs_set ch n) &&& (sS ^^^ (-1)))) lS rS] := hD
  refine lv_lload_n hx hb dc_O_makeStable_30 rfl (lv_at hl 0 rfl) ?_
  refine cl_i (wc := []) (wr := [zO o0 oa i0 m0 nn, zP h a b dn n oc le ll li lc kc rp, (a, .inl (cI, 40, .inl (nF ch))), zI i0 i1 i2 i3 i4 cn (sS ||| ((cs_set ch n) &&& (sS ^^^ (-1)))) lS rS]) (w1 := []) hP hD hS hA [] [0, 1, 2, 3] rfl rfl (by decide) (by decide) (va_runS (As := [.long ((cs_set ch n) &&& (sS ^^^ (-1)))]) (rest := []) ⟨hx, hb, hml, hown, htb⟩ (oc_B_bitCount l dC dI cI cJ cZ cP _ ((cs_set ch n) &&& (sS ^^^ (-1))) ) (va_cwS 1 htb (gw_S kw_232 kw_233 kw_6 kw_234) rfl rfl rfl (by decide +kernel) ⟨Nat.le_of_ble_eq_true rfl, Nat.le_of_ble_eq_true rfl⟩) (pr_S hP hK hD [] (by decide) rfl rfl) rfl rfl hl.1 rfl (lv_room (Nat.le_of_ble_eq_true rfl)) dc_O_makeStable_31 ⟨Nat.le_of_ble_eq_true rfl, Nat.le_of_ble_eq_true rfl⟩) (fun H locs hP hD hS => ?_)
  have hP : va_P (dC, dI) clsL [zO o0 oa i0 m0 nn, zP h a b dn n oc le ll li lc kc rp, (a, .inl (cI, 40, .inl (nF ch))), zI i0 i1 i2 i3 i4 cn (sS ||| ((cs_set ch n) &&& (sS ^^^ (-1)))) lS rS] H := hP.sub (ws' := [zO o0 oa i0 m0 nn, zP h a b dn n oc le ll li lc kc rp, (a, .inl (cI, 40, .inl (nF ch))), zI i0 i1 i2 i3 i4 cn (sS ||| ((cs_set ch n) &&& (sS ^^^ (-1)))) lS rS]) [0, 1, 2, 3] rfl
  have hD : va_D A [zO o0 oa i0 m0 nn, zP h a b dn n oc le ll li lc kc rp, (a, .inl (cI, 40, .inl (nF ch))), zI i0 i1 i2 i3 i4 cn (sS ||| ((cs_set ch n) &&& (sS ^^^ (-1)))) lS rS] := hD.sub (ws' := [zO o0 oa i0 m0 nn, zP h a b dn n oc le ll li lc kc rp, (a, .inl (cI, 40, .inl (nF ch))), zI i0 i1 i2 i3 i4 cn (sS ||| ((cs_set ch n) &&& (sS ^^^ (-1)))) lS rS]) [0, 1, 2, 3] (by decide) rfl
  have hP9 := hP.sub (ws' := [zO o0 oa i0 m0 nn, zP h a b dn n oc le ll li lc kc rp, (a, .inl (cI, 40, .inl (nF ch))), zI i0 i1 i2 i3 i4 cn (sS ||| ((cs_set ch n) &&& (sS ^^^ (-1)))) lS rS]) [0, 1, 2, 3] rfl
  have hD9 := hD.sub (ws' := [zO o0 oa i0 m0 nn, zP h a b dn n oc le ll li lc kc rp, (a, .inl (cI, 40, .inl (nF ch))), zI i0 i1 i2 i3 i4 cn (sS ||| ((cs_set ch n) &&& (sS ^^^ (-1)))) lS rS]) [0, 1, 2, 3] (by decide) rfl
  exact W.iret (v := nI (pc64 ((cs_set ch n) &&& (sS ^^^ (-1))))) hx hb hr (fun t ht hW => ⟨⟨_, (), rfl, rfl, by rw [ht]; exact hP9, va_K.moved hW.alike hK, hD9⟩, hS.F ht⟩) hS.2.2 dc_O_makeStable_34

set_option maxHeartbeats 4000000 in
set_option maxRecDepth 100000 in
theorem oc_O_receive (l : Launch) (dC : Nat → ClassId) (dI : Nat → Nat → Nat) (cI cJ cZ cP : ClassId) (sz : Nat) (o0 : Nat) (oa : Nat) (i0 : Nat) (m0 : Nat) (nn : Nat) (pf : Nat → Option Nat) (h : Nat) (a : Nat) (b : Nat) (dn : Bool) (n : Nat) (oc : Nat) (le : Nat) (ll : Int64) (li : Int64) (lc : Nat) (kc : Nat) (rp : Int32) (i1 : Nat) (i2 : Nat) (i3 : Nat) (i4 : Nat) (cn : Nat) (sS : Int64) (lS : Int64) (rS : Int64) (m1 : Nat) (m2 : Nat) (m3 : Nat) (m4 : Nat) (m5 : Nat) (mn : Nat) (mi : Nat) (ch : Nat → Nat) (sv : Nat → Int32) (rc : Nat → Nat) (an : Nat → Option Nat) (dp : Nat → Int64) (vs : Nat → Int32) (tg : Nat → Nat) (sr : Nat → Option Nat) (kn : Nat → Nat) (su : Nat → Nat) (j : Nat) (k : Nat) (t : Int32) (d : Int64) (hj : j < 3) (hf : pf j = some h) (hk : k < mn) (hcn : cn < 40) (hmn : mn + 2 ≤ 104) (hn : n < 40) (hch : ∀ i, i < n → ch i < 40) (hs : ∀ i, sr k = some i → i < 40) (ht : nI 31 * (sae sv ch n) + (vs k) = t) (hd : (dae dp ch n) ||| (dsv sr dp k) = d) : mt_I l mn_O_receive bc_O_receive 6 (some .int) ({ frames := 2, cells := 0, slots := 0, locals := 49 }) (dC, dI) (TYS cI cJ cZ cP) sz [.ref o0, .int (nI j), .int (nI k)] [zO o0 oa i0 m0 nn, (oa, .inl (cP, 3, .inr (.inr (.inr (.inr pf))))), zP h a b dn n oc le ll li lc kc rp, (a, .inl (cI, 40, .inl (nF ch))), zI i0 i1 i2 i3 i4 cn sS lS rS, (i1, .inl (cI, 40, .inl sv)), (i2, .inl (cI, 40, .inl (nF rc))), (i3, .inl (cI, 40, .inl (oF an))), (i4, .inl (cJ, 40, .inr (.inl dp))), zM m0 m1 m2 m3 m4 m5 mn mi, (m1, .inl (cI, 104, .inl vs)), (m2, .inl (cI, 104, .inl (nF tg))), (m3, .inl (cI, 104, .inl (oF sr))), (m4, .inl (cI, 104, .inl (nF kn))), (m5, .inl (cI, 104, .inl (nF su)))] [zO o0 oa i0 m0 nn, (oa, .inl (cP, 3, .inr (.inr (.inr (.inr pf))))), zP h a b dn (n + 1) oc le ll li lc kc rp, (a, .inl (cI, 40, .inl (nF (va_up ch n cn)))), zI i0 i1 i2 i3 i4 (cn + 1) (if sr k = none then (sS ||| ((cs_set (va_up ch n cn) (n + 1)) &&& (sS ^^^ (-1)))) else sS) lS rS, (i1, .inl (cI, 40, .inl (va_up sv cn t))), (i2, .inl (cI, 40, .inl (nF (va_up rc cn k)))), (i3, .inl (cI, 40, .inl (oF (va_up an cn none)))), (i4, .inl (cJ, 40, .inr (.inl (va_up dp cn (d ||| (bt cn)))))), zM m0 m1 m2 m3 m4 m5 (mn + (sb1 t).toNat + (sb2 t).toNat) mi, (m1, .inl (cI, 104, .inl (sd_F (sb1 t) (sb2 t) vs mn (t >>> (nI 1 &&& 31)) (t >>> (nI 2 &&& 31))))), (m2, .inl (cI, 104, .inl (nF (sd_F (sb1 t) (sb2 t) tg mn ((j + 1) % 3) ((j + 2) % 3))))), (m3, .inl (cI, 104, .inl (oF (sd_F (sb1 t) (sb2 t) sr mn (some cn) (some cn))))), (m4, .inl (cI, 104, .inl (nF (sd_F (sb1 t) (sb2 t) kn mn le le)))), (m5, .inl (cI, 104, .inl (nF (sd_F (sb1 t) (sb2 t) (va_up su k 1) mn 0 0))))] (nI cn) 0 0 := by
  unfold mt_I
  refine Met.ofW (cc := bc_O_receive) (maxL := 6) (ret := (some .int)) (by decide) rfl ?_
  intro p e s m args below meth c s₁ B hml hv
  obtain ⟨rfl, hsz, hP, hK, hD0⟩ := hv
  have hx := B.exec
  have hb := B.bytes
  have hr := B.returns
  have hts := atoms_spec (ws := wsT mn_O_receive bc_O_receive 6 (some .int)) B.pre
  have htb : ∀ w ∈ gtbl, w.before _ s = true := fun w h => hts w (List.mem_cons_of_mem _ h)
  have hown : s.vm.findClass cn_O = some m.cls := findClass_of_methodNamed B.named
  have hlocks := B.notSynchronized
  subst hsz
  have hD := hD0.self (sz := s.heap.size)
  generalize hAe : va_A [zO o0 oa i0 m0 nn, (oa, .inl (cP, 3, .inr (.inr (.inr (.inr pf))))), zP h a b dn n oc le ll li lc kc rp, (a, .inl (cI, 40, .inl (nF ch))), zI i0 i1 i2 i3 i4 cn sS lS rS, (i1, .inl (cI, 40, .inl sv)), (i2, .inl (cI, 40, .inl (nF rc))), (i3, .inl (cI, 40, .inl (oF an))), (i4, .inl (cJ, 40, .inr (.inl dp))), zM m0 m1 m2 m3 m4 m5 mn mi, (m1, .inl (cI, 104, .inl vs)), (m2, .inl (cI, 104, .inl (nF tg))), (m3, .inl (cI, 104, .inl (oF sr))), (m4, .inl (cI, 104, .inl (nF kn))), (m5, .inl (cI, 104, .inl (nF su)))] s.heap.size = A at hD ⊢
  have hA : ∀ q : Nat, s.heap.size ≤ q → A q := fun q h => by rw [← hAe]; exact Or.inr h
  have hS : va_S A s.heap s.heap [] := va_S.rf
  have hP : va_P (dC, dI) clsL [zO o0 oa i0 m0 nn, (oa, .inl (cP, 3, .inr (.inr (.inr (.inr pf))))), zP h a b dn n oc le ll li lc kc rp, (a, .inl (cI, 40, .inl (nF ch))), zI i0 i1 i2 i3 i4 cn sS lS rS, (i1, .inl (cI, 40, .inl sv)), (i2, .inl (cI, 40, .inl (nF rc))), (i3, .inl (cI, 40, .inl (oF an))), (i4, .inl (cJ, 40, .inr (.inl dp))), zM m0 m1 m2 m3 m4 m5 mn mi, (m1, .inl (cI, 104, .inl vs)), (m2, .inl (cI, 104, .inl (nF tg))), (m3, .inl (cI, 104, .inl (oF sr))), (m4, .inl (cI, 104, .inl (nF kn))), (m5, .inl (cI, 104, .inl (nF su)))] s.heap := hP
  have hl := lv_entry ([.ref o0, .int (nI j), .int (nI k)]) (n := 6) (Nat.le_of_ble_eq_true rfl)
  rw [lg_entry_eq]
  generalize (lg_sl ([.ref o0, .int (nI j), .int (nI k)]) ++ List.replicate (6 - (lg_sl ([.ref o0, .int (nI j), .int (nI k)])).length) Slot.unset).toArray = ls at hl ⊢
  have hl : lv_has ls 6 [(0, .ref o0), (1, .int (nI j)), (2, .int (nI k))] := hl
  refine lv_aload_n hx hb dc_O_receive_0 rfl (lv_at hl 0 rfl) ?_
  refine va_get (D := (dC, dI)) (ci := 3) (v := .ref oa) (C := cn_O) (T := ft_O) (N := 4) hx hb htb ki_O hown hK hP 0 rfl rfl 0 (by decide) (htb _ kw_139) (fun _ h9 => h9) rfl dc_O_receive_1 ?_
  refine lv_iload_n hx hb dc_O_receive_4 rfl (lv_at hl 1 rfl) ?_
  refine wa_ald hx hb hK hP 1 3 rfl rfl (k := j) (by omega) (by omega) (v := h) (hf) dc_O_receive_5 ?_
  refine lv_astore_n (lv' := [(3, .ref h), (0, .ref o0), (1, .int (nI j)), (2, .int (nI k))]) hx hb dc_O_receive_6 rfl hl (by decide) rfl (fun ls hl => ?_)
  refine lv_bipush (v := nI 31) hx hb dc_O_receive_7 (by decide) ?_
  refine lv_aload_n hx hb dc_O_receive_9 rfl (lv_at hl 1 rfl) ?_
  refine lv_aload_n hx hb dc_O_receive_10 rfl (lv_at hl 0 rfl) ?_
  refine cl_i (wc := [zO o0 oa i0 m0 nn, zP h a b dn n oc le ll li lc kc rp, (a, .inl (cI, 40, .inl (nF ch))), zI i0 i1 i2 i3 i4 cn sS lS rS, (i1, .inl (cI, 40, .inl sv))]) (wr := [(oa, .inl (cP, 3, .inr (.inr (.inr (.inr pf))))), (i2, .inl (cI, 40, .inl (nF rc))), (i3, .inl (cI, 40, .inl (oF an))), (i4, .inl (cJ, 40, .inr (.inl dp))), zM m0 m1 m2 m3 m4 m5 mn mi, (m1, .inl (cI, 104, .inl vs)), (m2, .inl (cI, 104, .inl (nF tg))), (m3, .inl (cI, 104, .inl (oF sr))), (m4, .inl (cI, 104, .inl (nF kn))), (m5, .inl (cI, 104, .inl (nF su)))]) (w1 := [zO o0 oa i0 m0 nn, zP h a b dn n oc le ll li lc kc rp, (a, .inl (cI, 40, .inl (nF ch))), zI i0 i1 i2 i3 i4 cn sS lS rS, (i1, .inl (cI, 40, .inl sv))]) hP hD hS hA [0, 2, 3, 4, 5] [1, 6, 7, 8, 9, 10, 11, 12, 13, 14] rfl rfl (by decide) (by decide) (va_runV (As := [.ref h]) (rest := [.int (nI 31)]) ⟨hx, hb, hml, hown, htb⟩ (oc_O_stateAtEnd l dC dI cI cJ cZ cP _ o0 oa i0 m0 nn h a b dn n oc le ll li lc kc rp i1 i2 i3 i4 cn sS lS rS ch sv (by omega) hch) (cwV 1 htb (gw_V kw_203 kw_205 kp_3 kw_1 kw_206) rfl rfl rfl (by decide +kernel) ⟨Nat.le_of_ble_eq_true rfl, Nat.le_of_ble_eq_true rfl⟩) (pr_V hP hK hD (va_recv hK hP (ci := 3) (q0 := 0) rfl rfl) [0, 2, 3, 4, 5] (by decide) rfl rfl) rfl rfl hl.1 rfl (lv_room (Nat.le_of_ble_eq_true rfl)) dc_O_receive_11 ⟨Nat.le_of_ble_eq_true rfl, Nat.le_of_ble_eq_true rfl⟩) (fun H locs hP hD hS => ?_)
  have hP : va_P (dC, dI) clsL [zO o0 oa i0 m0 nn, (oa, .inl (cP, 3, .inr (.inr (.inr (.inr pf))))), zP h a b dn n oc le ll li lc kc rp, (a, .inl (cI, 40, .inl (nF ch))), zI i0 i1 i2 i3 i4 cn sS lS rS, (i1, .inl (cI, 40, .inl sv)), (i2, .inl (cI, 40, .inl (nF rc))), (i3, .inl (cI, 40, .inl (oF an))), (i4, .inl (cJ, 40, .inr (.inl dp))), zM m0 m1 m2 m3 m4 m5 mn mi, (m1, .inl (cI, 104, .inl vs)), (m2, .inl (cI, 104, .inl (nF tg))), (m3, .inl (cI, 104, .inl (oF sr))), (m4, .inl (cI, 104, .inl (nF kn))), (m5, .inl (cI, 104, .inl (nF su)))] H := hP.sub (ws' := [zO o0 oa i0 m0 nn, (oa, .inl (cP, 3, .inr (.inr (.inr (.inr pf))))), zP h a b dn n oc le ll li lc kc rp, (a, .inl (cI, 40, .inl (nF ch))), zI i0 i1 i2 i3 i4 cn sS lS rS, (i1, .inl (cI, 40, .inl sv)), (i2, .inl (cI, 40, .inl (nF rc))), (i3, .inl (cI, 40, .inl (oF an))), (i4, .inl (cJ, 40, .inr (.inl dp))), zM m0 m1 m2 m3 m4 m5 mn mi, (m1, .inl (cI, 104, .inl vs)), (m2, .inl (cI, 104, .inl (nF tg))), (m3, .inl (cI, 104, .inl (oF sr))), (m4, .inl (cI, 104, .inl (nF kn))), (m5, .inl (cI, 104, .inl (nF su)))]) [10, 0, 11, 12, 13, 14, 1, 2, 3, 4, 5, 6, 7, 8, 9] rfl
  have hD : va_D A [zO o0 oa i0 m0 nn, (oa, .inl (cP, 3, .inr (.inr (.inr (.inr pf))))), zP h a b dn n oc le ll li lc kc rp, (a, .inl (cI, 40, .inl (nF ch))), zI i0 i1 i2 i3 i4 cn sS lS rS, (i1, .inl (cI, 40, .inl sv)), (i2, .inl (cI, 40, .inl (nF rc))), (i3, .inl (cI, 40, .inl (oF an))), (i4, .inl (cJ, 40, .inr (.inl dp))), zM m0 m1 m2 m3 m4 m5 mn mi, (m1, .inl (cI, 104, .inl vs)), (m2, .inl (cI, 104, .inl (nF tg))), (m3, .inl (cI, 104, .inl (oF sr))), (m4, .inl (cI, 104, .inl (nF kn))), (m5, .inl (cI, 104, .inl (nF su)))] := hD.sub (ws' := [zO o0 oa i0 m0 nn, (oa, .inl (cP, 3, .inr (.inr (.inr (.inr pf))))), zP h a b dn n oc le ll li lc kc rp, (a, .inl (cI, 40, .inl (nF ch))), zI i0 i1 i2 i3 i4 cn sS lS rS, (i1, .inl (cI, 40, .inl sv)), (i2, .inl (cI, 40, .inl (nF rc))), (i3, .inl (cI, 40, .inl (oF an))), (i4, .inl (cJ, 40, .inr (.inl dp))), zM m0 m1 m2 m3 m4 m5 mn mi, (m1, .inl (cI, 104, .inl vs)), (m2, .inl (cI, 104, .inl (nF tg))), (m3, .inl (cI, 104, .inl (oF sr))), (m4, .inl (cI, 104, .inl (nF kn))), (m5, .inl (cI, 104, .inl (nF su)))]) [10, 0, 11, 12, 13, 14, 1, 2, 3, 4, 5, 6, 7, 8, 9] (by decide) rfl
  refine lv_imul hx hb dc_O_receive_14 ?_
  refine lv_aload_n hx hb dc_O_receive_15 rfl (lv_at hl 1 rfl) ?_
  refine va_get (D := (dC, dI)) (ci := 3) (v := .ref m0) (C := cn_O) (T := ft_O) (N := 4) hx hb htb ki_O hown hK hP 0 rfl rfl 2 (by decide) (htb _ kw_141) (fun _ h9 => h9) rfl dc_O_receive_16 ?_
  refine va_get (D := (dC, dI)) (ci := 1) (v := .ref m1) (C := cn_M) (T := ft_M) (N := 7) hx hb htb ki_M hown hK hP 9 rfl rfl 0 (by decide) (htb _ kw_112) (fun _ h9 => h9) rfl dc_O_receive_19 ?_
  refine lv_iload_n hx hb dc_O_receive_22 rfl (lv_at hl 3 rfl) ?_
  refine wa_ild (k := k) hx hb hK hP 10 0 rfl rfl (by omega) (by omega) dc_O_receive_23 ?_
  refine lv_iadd hx hb dc_O_receive_24 ?_
  refine tp_i (y := t) (ht) ?_
  refine lv_istore (lv' := [(4, .int t), (3, .ref h), (0, .ref o0), (1, .int (nI j)), (2, .int (nI k))]) hx hb dc_O_receive_25 hl (by decide) rfl (fun ls hl => ?_)
  refine lv_aload_n hx hb dc_O_receive_27 rfl (lv_at hl 2 rfl) ?_
  refine va_get (D := (dC, dI)) (ci := 3) (v := .ref i0) (C := cn_O) (T := ft_O) (N := 4) hx hb htb ki_O hown hK hP 0 rfl rfl 1 (by decide) (htb _ kw_140) (fun _ h9 => h9) rfl dc_O_receive_28 ?_
  refine lv_iload hx hb dc_O_receive_31 (lv_at hl 0 rfl) ?_
  refine lv_iload_n hx hb dc_O_receive_33 rfl (lv_at hl 4 rfl) ?_
  refine lv_aload_n hx hb dc_O_receive_34 rfl (lv_at hl 2 rfl) ?_
  refine lv_aload_n hx hb dc_O_receive_35 rfl (lv_at hl 1 rfl) ?_
  refine cl_l (wc := [zO o0 oa i0 m0 nn, zP h a b dn n oc le ll li lc kc rp, (a, .inl (cI, 40, .inl (nF ch))), zI i0 i1 i2 i3 i4 cn sS lS rS, (i4, .inl (cJ, 40, .inr (.inl dp)))]) (wr := [(oa, .inl (cP, 3, .inr (.inr (.inr (.inr pf))))), (i1, .inl (cI, 40, .inl sv)), (i2, .inl (cI, 40, .inl (nF rc))), (i3, .inl (cI, 40, .inl (oF an))), zM m0 m1 m2 m3 m4 m5 mn mi, (m1, .inl (cI, 104, .inl vs)), (m2, .inl (cI, 104, .inl (nF tg))), (m3, .inl (cI, 104, .inl (oF sr))), (m4, .inl (cI, 104, .inl (nF kn))), (m5, .inl (cI, 104, .inl (nF su)))]) (w1 := [zO o0 oa i0 m0 nn, zP h a b dn n oc le ll li lc kc rp, (a, .inl (cI, 40, .inl (nF ch))), zI i0 i1 i2 i3 i4 cn sS lS rS, (i4, .inl (cJ, 40, .inr (.inl dp)))]) hP hD hS hA [0, 2, 3, 4, 8] [1, 5, 6, 7, 9, 10, 11, 12, 13, 14] rfl rfl (by decide) (by decide) (va_runV (As := [.ref h]) (rest := [.int (nI k), .int t, .ref i0]) ⟨hx, hb, hml, hown, htb⟩ (oc_O_dependsAtEnd l dC dI cI cJ cZ cP _ o0 oa i0 m0 nn h a b dn n oc le ll li lc kc rp i1 i2 i3 i4 cn sS lS rS ch dp (by omega) hch) (cwV 1 htb (gw_V kw_207 kw_209 kp_4 kw_1 kw_210) rfl rfl rfl (by decide +kernel) ⟨Nat.le_of_ble_eq_true rfl, Nat.le_of_ble_eq_true rfl⟩) (pr_V hP hK hD (va_recv hK hP (ci := 3) (q0 := 0) rfl rfl) [0, 2, 3, 4, 8] (by decide) rfl rfl) rfl rfl hl.1 rfl (lv_room (Nat.le_of_ble_eq_true rfl)) dc_O_receive_36 ⟨Nat.le_of_ble_eq_true rfl, Nat.le_of_ble_eq_true rfl⟩) (fun H locs hP hD hS => ?_)
  have hP : va_P (dC, dI) clsL [zO o0 oa i0 m0 nn, (oa, .inl (cP, 3, .inr (.inr (.inr (.inr pf))))), zP h a b dn n oc le ll li lc kc rp, (a, .inl (cI, 40, .inl (nF ch))), zI i0 i1 i2 i3 i4 cn sS lS rS, (i1, .inl (cI, 40, .inl sv)), (i2, .inl (cI, 40, .inl (nF rc))), (i3, .inl (cI, 40, .inl (oF an))), (i4, .inl (cJ, 40, .inr (.inl dp))), zM m0 m1 m2 m3 m4 m5 mn mi, (m1, .inl (cI, 104, .inl vs)), (m2, .inl (cI, 104, .inl (nF tg))), (m3, .inl (cI, 104, .inl (oF sr))), (m4, .inl (cI, 104, .inl (nF kn))), (m5, .inl (cI, 104, .inl (nF su)))] H := hP.sub (ws' := [zO o0 oa i0 m0 nn, (oa, .inl (cP, 3, .inr (.inr (.inr (.inr pf))))), zP h a b dn n oc le ll li lc kc rp, (a, .inl (cI, 40, .inl (nF ch))), zI i0 i1 i2 i3 i4 cn sS lS rS, (i1, .inl (cI, 40, .inl sv)), (i2, .inl (cI, 40, .inl (nF rc))), (i3, .inl (cI, 40, .inl (oF an))), (i4, .inl (cJ, 40, .inr (.inl dp))), zM m0 m1 m2 m3 m4 m5 mn mi, (m1, .inl (cI, 104, .inl vs)), (m2, .inl (cI, 104, .inl (nF tg))), (m3, .inl (cI, 104, .inl (oF sr))), (m4, .inl (cI, 104, .inl (nF kn))), (m5, .inl (cI, 104, .inl (nF su)))]) [10, 0, 11, 12, 13, 1, 2, 3, 14, 4, 5, 6, 7, 8, 9] rfl
  have hD : va_D A [zO o0 oa i0 m0 nn, (oa, .inl (cP, 3, .inr (.inr (.inr (.inr pf))))), zP h a b dn n oc le ll li lc kc rp, (a, .inl (cI, 40, .inl (nF ch))), zI i0 i1 i2 i3 i4 cn sS lS rS, (i1, .inl (cI, 40, .inl sv)), (i2, .inl (cI, 40, .inl (nF rc))), (i3, .inl (cI, 40, .inl (oF an))), (i4, .inl (cJ, 40, .inr (.inl dp))), zM m0 m1 m2 m3 m4 m5 mn mi, (m1, .inl (cI, 104, .inl vs)), (m2, .inl (cI, 104, .inl (nF tg))), (m3, .inl (cI, 104, .inl (oF sr))), (m4, .inl (cI, 104, .inl (nF kn))), (m5, .inl (cI, 104, .inl (nF su)))] := hD.sub (ws' := [zO o0 oa i0 m0 nn, (oa, .inl (cP, 3, .inr (.inr (.inr (.inr pf))))), zP h a b dn n oc le ll li lc kc rp, (a, .inl (cI, 40, .inl (nF ch))), zI i0 i1 i2 i3 i4 cn sS lS rS, (i1, .inl (cI, 40, .inl sv)), (i2, .inl (cI, 40, .inl (nF rc))), (i3, .inl (cI, 40, .inl (oF an))), (i4, .inl (cJ, 40, .inr (.inl dp))), zM m0 m1 m2 m3 m4 m5 mn mi, (m1, .inl (cI, 104, .inl vs)), (m2, .inl (cI, 104, .inl (nF tg))), (m3, .inl (cI, 104, .inl (oF sr))), (m4, .inl (cI, 104, .inl (nF kn))), (m5, .inl (cI, 104, .inl (nF su)))]) [10, 0, 11, 12, 13, 1, 2, 3, 14, 4, 5, 6, 7, 8, 9] (by decide) rfl
  refine lv_aload_n hx hb dc_O_receive_39 rfl (lv_at hl 2 rfl) ?_
  refine lv_iload_n hx hb dc_O_receive_40 rfl (lv_at hl 4 rfl) ?_
  refine cl_l (wc := [zO o0 oa i0 m0 nn, zI i0 i1 i2 i3 i4 cn sS lS rS, (i4, .inl (cJ, 40, .inr (.inl dp))), zM m0 m1 m2 m3 m4 m5 mn mi, (m3, .inl (cI, 104, .inl (oF sr)))]) (wr := [(oa, .inl (cP, 3, .inr (.inr (.inr (.inr pf))))), zP h a b dn n oc le ll li lc kc rp, (a, .inl (cI, 40, .inl (nF ch))), (i1, .inl (cI, 40, .inl sv)), (i2, .inl (cI, 40, .inl (nF rc))), (i3, .inl (cI, 40, .inl (oF an))), (m1, .inl (cI, 104, .inl vs)), (m2, .inl (cI, 104, .inl (nF tg))), (m4, .inl (cI, 104, .inl (nF kn))), (m5, .inl (cI, 104, .inl (nF su)))]) (w1 := [zO o0 oa i0 m0 nn, zI i0 i1 i2 i3 i4 cn sS lS rS, (i4, .inl (cJ, 40, .inr (.inl dp))), zM m0 m1 m2 m3 m4 m5 mn mi, (m3, .inl (cI, 104, .inl (oF sr)))]) hP hD hS hA [0, 4, 8, 9, 12] [1, 2, 3, 5, 6, 7, 10, 11, 13, 14] rfl rfl (by decide) (by decide) (va_runV (As := [.int (nI k)]) (rest := [.long (dae dp ch n), .int (nI k), .int t, .ref i0]) ⟨hx, hb, hml, hown, htb⟩ (oc_O_dependsAtSource l dC dI cI cJ cZ cP _ o0 oa i0 m0 nn i1 i2 i3 i4 cn sS lS rS m1 m2 m3 m4 m5 mn mi dp sr k (by omega) hs) (cwV 1 htb (gw_V kw_195 kw_197 kp_1 kw_1 kw_198) rfl rfl rfl (by decide +kernel) ⟨Nat.le_of_ble_eq_true rfl, Nat.le_of_ble_eq_true rfl⟩) (pr_V hP hK hD (va_recv hK hP (ci := 3) (q0 := 0) rfl rfl) [0, 4, 8, 9, 12] (by decide) rfl rfl) rfl rfl hl.1 rfl (lv_room (Nat.le_of_ble_eq_true rfl)) dc_O_receive_41 ⟨Nat.le_of_ble_eq_true rfl, Nat.le_of_ble_eq_true rfl⟩) (fun H locs hP hD hS => ?_)
  have hP : va_P (dC, dI) clsL [zO o0 oa i0 m0 nn, (oa, .inl (cP, 3, .inr (.inr (.inr (.inr pf))))), zP h a b dn n oc le ll li lc kc rp, (a, .inl (cI, 40, .inl (nF ch))), zI i0 i1 i2 i3 i4 cn sS lS rS, (i1, .inl (cI, 40, .inl sv)), (i2, .inl (cI, 40, .inl (nF rc))), (i3, .inl (cI, 40, .inl (oF an))), (i4, .inl (cJ, 40, .inr (.inl dp))), zM m0 m1 m2 m3 m4 m5 mn mi, (m1, .inl (cI, 104, .inl vs)), (m2, .inl (cI, 104, .inl (nF tg))), (m3, .inl (cI, 104, .inl (oF sr))), (m4, .inl (cI, 104, .inl (nF kn))), (m5, .inl (cI, 104, .inl (nF su)))] H := hP.sub (ws' := [zO o0 oa i0 m0 nn, (oa, .inl (cP, 3, .inr (.inr (.inr (.inr pf))))), zP h a b dn n oc le ll li lc kc rp, (a, .inl (cI, 40, .inl (nF ch))), zI i0 i1 i2 i3 i4 cn sS lS rS, (i1, .inl (cI, 40, .inl sv)), (i2, .inl (cI, 40, .inl (nF rc))), (i3, .inl (cI, 40, .inl (oF an))), (i4, .inl (cJ, 40, .inr (.inl dp))), zM m0 m1 m2 m3 m4 m5 mn mi, (m1, .inl (cI, 104, .inl vs)), (m2, .inl (cI, 104, .inl (nF tg))), (m3, .inl (cI, 104, .inl (oF sr))), (m4, .inl (cI, 104, .inl (nF kn))), (m5, .inl (cI, 104, .inl (nF su)))]) [10, 0, 1, 2, 11, 3, 4, 5, 12, 13, 6, 7, 14, 8, 9] rfl
  have hD : va_D A [zO o0 oa i0 m0 nn, (oa, .inl (cP, 3, .inr (.inr (.inr (.inr pf))))), zP h a b dn n oc le ll li lc kc rp, (a, .inl (cI, 40, .inl (nF ch))), zI i0 i1 i2 i3 i4 cn sS lS rS, (i1, .inl (cI, 40, .inl sv)), (i2, .inl (cI, 40, .inl (nF rc))), (i3, .inl (cI, 40, .inl (oF an))), (i4, .inl (cJ, 40, .inr (.inl dp))), zM m0 m1 m2 m3 m4 m5 mn mi, (m1, .inl (cI, 104, .inl vs)), (m2, .inl (cI, 104, .inl (nF tg))), (m3, .inl (cI, 104, .inl (oF sr))), (m4, .inl (cI, 104, .inl (nF kn))), (m5, .inl (cI, 104, .inl (nF su)))] := hD.sub (ws' := [zO o0 oa i0 m0 nn, (oa, .inl (cP, 3, .inr (.inr (.inr (.inr pf))))), zP h a b dn n oc le ll li lc kc rp, (a, .inl (cI, 40, .inl (nF ch))), zI i0 i1 i2 i3 i4 cn sS lS rS, (i1, .inl (cI, 40, .inl sv)), (i2, .inl (cI, 40, .inl (nF rc))), (i3, .inl (cI, 40, .inl (oF an))), (i4, .inl (cJ, 40, .inr (.inl dp))), zM m0 m1 m2 m3 m4 m5 mn mi, (m1, .inl (cI, 104, .inl vs)), (m2, .inl (cI, 104, .inl (nF tg))), (m3, .inl (cI, 104, .inl (oF sr))), (m4, .inl (cI, 104, .inl (nF kn))), (m5, .inl (cI, 104, .inl (nF su)))]) [10, 0, 1, 2, 11, 3, 4, 5, 12, 13, 6, 7, 14, 8, 9] (by decide) rfl
  refine lv_lor hx hb dc_O_receive_44 ?_
  refine tp_l (y := d) (hd) ?_
  refine cl_i (wc := [zI i0 i1 i2 i3 i4 cn sS lS rS, (i1, .inl (cI, 40, .inl sv)), (i2, .inl (cI, 40, .inl (nF rc))), (i3, .inl (cI, 40, .inl (oF an))), (i4, .inl (cJ, 40, .inr (.inl dp)))]) (wr := [zO o0 oa i0 m0 nn, (oa, .inl (cP, 3, .inr (.inr (.inr (.inr pf))))), zP h a b dn n oc le ll li lc kc rp, (a, .inl (cI, 40, .inl (nF ch))), zM m0 m1 m2 m3 m4 m5 mn mi, (m1, .inl (cI, 104, .inl vs)), (m2, .inl (cI, 104, .inl (nF tg))), (m3, .inl (cI, 104, .inl (oF sr))), (m4, .inl (cI, 104, .inl (nF kn))), (m5, .inl (cI, 104, .inl (nF su)))]) (w1 := [zI i0 i1 i2 i3 i4 (cn + 1) sS lS rS, (i1, .inl (cI, 40, .inl (va_up sv cn t))), (i2, .inl (cI, 40, .inl (nF (va_up rc cn k)))), (i3, .inl (cI, 40, .inl (oF (va_up an cn none)))), (i4, .inl (cJ, 40, .inr (.inl (va_up dp cn (d ||| (bt cn))))))]) hP hD hS hA [4, 5, 6, 7, 8] [0, 1, 2, 3, 9, 10, 11, 12, 13, 14] rfl rfl (by decide) (by decide) (va_runV (As := [.int t, .int (nI k), .long d]) (rest := []) ⟨hx, hb, hml, hown, htb⟩ (oc_I_make l dC dI cI cJ cZ cP _ i0 i1 i2 i3 i4 cn sS lS rS sv rc an dp t k d (by first | assumption | omega)) (cwV 3 htb (gw_V kw_211 kw_212 kw_213 kw_3 kw_214) rfl rfl rfl (by decide +kernel) ⟨Nat.le_of_ble_eq_true rfl, Nat.le_of_ble_eq_true rfl⟩) (pr_V hP hK hD (va_recv hK hP (ci := 0) (q0 := 4) rfl rfl) [4, 5, 6, 7, 8] (by decide) rfl rfl) rfl rfl hl.1 rfl (lv_room (Nat.le_of_ble_eq_true rfl)) dc_O_receive_45 ⟨Nat.le_of_ble_eq_true rfl, Nat.le_of_ble_eq_true rfl⟩) (fun H locs hP hD hS => ?_)
  have hP : va_P (dC, dI) clsL [zO o0 oa i0 m0 nn, (oa, .inl (cP, 3, .inr (.inr (.inr (.inr pf))))), zP h a b dn n oc le ll li lc kc rp, (a, .inl (cI, 40, .inl (nF ch))), zI i0 i1 i2 i3 i4 (cn + 1) sS lS rS, (i1, .inl (cI, 40, .inl (va_up sv cn t))), (i2, .inl (cI, 40, .inl (nF (va_up rc cn k)))), (i3, .inl (cI, 40, .inl (oF (va_up an cn none)))), (i4, .inl (cJ, 40, .inr (.inl (va_up dp cn (d ||| (bt cn)))))), zM m0 m1 m2 m3 m4 m5 mn mi, (m1, .inl (cI, 104, .inl vs)), (m2, .inl (cI, 104, .inl (nF tg))), (m3, .inl (cI, 104, .inl (oF sr))), (m4, .inl (cI, 104, .inl (nF kn))), (m5, .inl (cI, 104, .inl (nF su)))] H := hP.sub (ws' := [zO o0 oa i0 m0 nn, (oa, .inl (cP, 3, .inr (.inr (.inr (.inr pf))))), zP h a b dn n oc le ll li lc kc rp, (a, .inl (cI, 40, .inl (nF ch))), zI i0 i1 i2 i3 i4 (cn + 1) sS lS rS, (i1, .inl (cI, 40, .inl (va_up sv cn t))), (i2, .inl (cI, 40, .inl (nF (va_up rc cn k)))), (i3, .inl (cI, 40, .inl (oF (va_up an cn none)))), (i4, .inl (cJ, 40, .inr (.inl (va_up dp cn (d ||| (bt cn)))))), zM m0 m1 m2 m3 m4 m5 mn mi, (m1, .inl (cI, 104, .inl vs)), (m2, .inl (cI, 104, .inl (nF tg))), (m3, .inl (cI, 104, .inl (oF sr))), (m4, .inl (cI, 104, .inl (nF kn))), (m5, .inl (cI, 104, .inl (nF su)))]) [0, 1, 2, 3, 10, 11, 12, 13, 14, 4, 5, 6, 7, 8, 9] rfl
  have hD : va_D A [zO o0 oa i0 m0 nn, (oa, .inl (cP, 3, .inr (.inr (.inr (.inr pf))))), zP h a b dn n oc le ll li lc kc rp, (a, .inl (cI, 40, .inl (nF ch))), zI i0 i1 i2 i3 i4 (cn + 1) sS lS rS, (i1, .inl (cI, 40, .inl (va_up sv cn t))), (i2, .inl (cI, 40, .inl (nF (va_up rc cn k)))), (i3, .inl (cI, 40, .inl (oF (va_up an cn none)))), (i4, .inl (cJ, 40, .inr (.inl (va_up dp cn (d ||| (bt cn)))))), zM m0 m1 m2 m3 m4 m5 mn mi, (m1, .inl (cI, 104, .inl vs)), (m2, .inl (cI, 104, .inl (nF tg))), (m3, .inl (cI, 104, .inl (oF sr))), (m4, .inl (cI, 104, .inl (nF kn))), (m5, .inl (cI, 104, .inl (nF su)))] := hD.sub (ws' := [zO o0 oa i0 m0 nn, (oa, .inl (cP, 3, .inr (.inr (.inr (.inr pf))))), zP h a b dn n oc le ll li lc kc rp, (a, .inl (cI, 40, .inl (nF ch))), zI i0 i1 i2 i3 i4 (cn + 1) sS lS rS, (i1, .inl (cI, 40, .inl (va_up sv cn t))), (i2, .inl (cI, 40, .inl (nF (va_up rc cn k)))), (i3, .inl (cI, 40, .inl (oF (va_up an cn none)))), (i4, .inl (cJ, 40, .inr (.inl (va_up dp cn (d ||| (bt cn)))))), zM m0 m1 m2 m3 m4 m5 mn mi, (m1, .inl (cI, 104, .inl vs)), (m2, .inl (cI, 104, .inl (nF tg))), (m3, .inl (cI, 104, .inl (oF sr))), (m4, .inl (cI, 104, .inl (nF kn))), (m5, .inl (cI, 104, .inl (nF su)))]) [0, 1, 2, 3, 10, 11, 12, 13, 14, 4, 5, 6, 7, 8, 9] (by decide) rfl
  refine lv_istore (lv' := [(5, .int (nI cn)), (4, .int t), (3, .ref h), (0, .ref o0), (1, .int (nI j)), (2, .int (nI k))]) hx hb dc_O_receive_48 hl (by decide) rfl (fun ls hl => ?_)
  refine lv_aload_n hx hb dc_O_receive_50 rfl (lv_at hl 2 rfl) ?_
  refine lv_iload hx hb dc_O_receive_51 (lv_at hl 0 rfl) ?_
  refine cl_v (wc := [zP h a b dn n oc le ll li lc kc rp, (a, .inl (cI, 40, .inl (nF ch)))]) (wr := [zO o0 oa i0 m0 nn, (oa, .inl (cP, 3, .inr (.inr (.inr (.inr pf))))), zI i0 i1 i2 i3 i4 (cn + 1) sS lS rS, (i1, .inl (cI, 40, .inl (va_up sv cn t))), (i2, .inl (cI, 40, .inl (nF (va_up rc cn k)))), (i3, .inl (cI, 40, .inl (oF (va_up an cn none)))), (i4, .inl (cJ, 40, .inr (.inl (va_up dp cn (d ||| (bt cn)))))), zM m0 m1 m2 m3 m4 m5 mn mi, (m1, .inl (cI, 104, .inl vs)), (m2, .inl (cI, 104, .inl (nF tg))), (m3, .inl (cI, 104, .inl (oF sr))), (m4, .inl (cI, 104, .inl (nF kn))), (m5, .inl (cI, 104, .inl (nF su)))]) (w1 := [zP h a b dn (n + 1) oc le ll li lc kc rp, (a, .inl (cI, 40, .inl (nF (va_up ch n cn))))]) hP hD hS hA [2, 3] [0, 1, 4, 5, 6, 7, 8, 9, 10, 11, 12, 13, 14] rfl rfl (by decide) (by decide) (va_runV (As := [.int (nI cn)]) (rest := []) ⟨hx, hb, hml, hown, htb⟩ (oc_P_append l dC dI cI cJ cZ cP _ h a b dn n oc le ll li lc kc rp ch cn (by first | assumption | omega)) (cwV 1 htb (gw_V kw_215 kw_216 kw_217 kw_2 kw_218) rfl rfl rfl (by decide +kernel) ⟨Nat.le_of_ble_eq_true rfl, Nat.le_of_ble_eq_true rfl⟩) (pr_V hP hK hD (va_recv hK hP (ci := 2) (q0 := 2) rfl rfl) [2, 3] (by decide) rfl rfl) rfl rfl hl.1 rfl (lv_room (Nat.le_of_ble_eq_true rfl)) dc_O_receive_53 ⟨Nat.le_of_ble_eq_true rfl, Nat.le_of_ble_eq_true rfl⟩) (fun H locs hP hD hS => ?_)
  have hP : va_P (dC, dI) clsL [zO o0 oa i0 m0 nn, (oa, .inl (cP, 3, .inr (.inr (.inr (.inr pf))))), zP h a b dn (n + 1) oc le ll li lc kc rp, (a, .inl (cI, 40, .inl (nF (va_up ch n cn)))), zI i0 i1 i2 i3 i4 (cn + 1) sS lS rS, (i1, .inl (cI, 40, .inl (va_up sv cn t))), (i2, .inl (cI, 40, .inl (nF (va_up rc cn k)))), (i3, .inl (cI, 40, .inl (oF (va_up an cn none)))), (i4, .inl (cJ, 40, .inr (.inl (va_up dp cn (d ||| (bt cn)))))), zM m0 m1 m2 m3 m4 m5 mn mi, (m1, .inl (cI, 104, .inl vs)), (m2, .inl (cI, 104, .inl (nF tg))), (m3, .inl (cI, 104, .inl (oF sr))), (m4, .inl (cI, 104, .inl (nF kn))), (m5, .inl (cI, 104, .inl (nF su)))] H := hP.sub (ws' := [zO o0 oa i0 m0 nn, (oa, .inl (cP, 3, .inr (.inr (.inr (.inr pf))))), zP h a b dn (n + 1) oc le ll li lc kc rp, (a, .inl (cI, 40, .inl (nF (va_up ch n cn)))), zI i0 i1 i2 i3 i4 (cn + 1) sS lS rS, (i1, .inl (cI, 40, .inl (va_up sv cn t))), (i2, .inl (cI, 40, .inl (nF (va_up rc cn k)))), (i3, .inl (cI, 40, .inl (oF (va_up an cn none)))), (i4, .inl (cJ, 40, .inr (.inl (va_up dp cn (d ||| (bt cn)))))), zM m0 m1 m2 m3 m4 m5 mn mi, (m1, .inl (cI, 104, .inl vs)), (m2, .inl (cI, 104, .inl (nF tg))), (m3, .inl (cI, 104, .inl (oF sr))), (m4, .inl (cI, 104, .inl (nF kn))), (m5, .inl (cI, 104, .inl (nF su)))]) [0, 1, 13, 14, 2, 3, 4, 5, 6, 7, 8, 9, 10, 11, 12] rfl
  have hD : va_D A [zO o0 oa i0 m0 nn, (oa, .inl (cP, 3, .inr (.inr (.inr (.inr pf))))), zP h a b dn (n + 1) oc le ll li lc kc rp, (a, .inl (cI, 40, .inl (nF (va_up ch n cn)))), zI i0 i1 i2 i3 i4 (cn + 1) sS lS rS, (i1, .inl (cI, 40, .inl (va_up sv cn t))), (i2, .inl (cI, 40, .inl (nF (va_up rc cn k)))), (i3, .inl (cI, 40, .inl (oF (va_up an cn none)))), (i4, .inl (cJ, 40, .inr (.inl (va_up dp cn (d ||| (bt cn)))))), zM m0 m1 m2 m3 m4 m5 mn mi, (m1, .inl (cI, 104, .inl vs)), (m2, .inl (cI, 104, .inl (nF tg))), (m3, .inl (cI, 104, .inl (oF sr))), (m4, .inl (cI, 104, .inl (nF kn))), (m5, .inl (cI, 104, .inl (nF su)))] := hD.sub (ws' := [zO o0 oa i0 m0 nn, (oa, .inl (cP, 3, .inr (.inr (.inr (.inr pf))))), zP h a b dn (n + 1) oc le ll li lc kc rp, (a, .inl (cI, 40, .inl (nF (va_up ch n cn)))), zI i0 i1 i2 i3 i4 (cn + 1) sS lS rS, (i1, .inl (cI, 40, .inl (va_up sv cn t))), (i2, .inl (cI, 40, .inl (nF (va_up rc cn k)))), (i3, .inl (cI, 40, .inl (oF (va_up an cn none)))), (i4, .inl (cJ, 40, .inr (.inl (va_up dp cn (d ||| (bt cn)))))), zM m0 m1 m2 m3 m4 m5 mn mi, (m1, .inl (cI, 104, .inl vs)), (m2, .inl (cI, 104, .inl (nF tg))), (m3, .inl (cI, 104, .inl (oF sr))), (m4, .inl (cI, 104, .inl (nF kn))), (m5, .inl (cI, 104, .inl (nF su)))]) [0, 1, 13, 14, 2, 3, 4, 5, 6, 7, 8, 9, 10, 11, 12] (by decide) rfl
  refine lv_aload_n hx hb dc_O_receive_56 rfl (lv_at hl 3 rfl) ?_
  refine va_get (D := (dC, dI)) (ci := 3) (v := .ref m0) (C := cn_O) (T := ft_O) (N := 4) hx hb htb ki_O hown hK hP 0 rfl rfl 2 (by decide) (htb _ kw_141) (fun _ h9 => h9) rfl dc_O_receive_57 ?_
  refine va_get (D := (dC, dI)) (ci := 1) (v := .ref m5) (C := cn_M) (T := ft_M) (N := 7) hx hb htb ki_M hown hK hP 9 rfl rfl 4 (by decide) (htb _ kw_120) (fun _ h9 => h9) rfl dc_O_receive_60 ?_
  refine lv_iload_n hx hb dc_O_receive_63 rfl (lv_at hl 5 rfl) ?_
  refine lv_iconst (v := nI 1) hx hb dc_O_receive_64 (by decide) ?_
  refine wa_nst (k := k) (x := 1) hx hb hK hP hD hS 14 0 rfl rfl (by omega) (by omega) dc_O_receive_65 (fun H locs hP hD hS => ?_)
  have hP : va_P (dC, dI) clsL [zO o0 oa i0 m0 nn, (oa, .inl (cP, 3, .inr (.inr (.inr (.inr pf))))), zP h a b dn (n + 1) oc le ll li lc kc rp, (a, .inl (cI, 40, .inl (nF (va_up ch n cn)))), zI i0 i1 i2 i3 i4 (cn + 1) sS lS rS, (i1, .inl (cI, 40, .inl (va_up sv cn t))), (i2, .inl (cI, 40, .inl (nF (va_up rc cn k)))), (i3, .inl (cI, 40, .inl (oF (va_up an cn none)))), (i4, .inl (cJ, 40, .inr (.inl (va_up dp cn (d ||| (bt cn)))))), zM m0 m1 m2 m3 m4 m5 mn mi, (m1, .inl (cI, 104, .inl vs)), (m2, .inl (cI, 104, .inl (nF tg))), (m3, .inl (cI, 104, .inl (oF sr))), (m4, .inl (cI, 104, .inl (nF kn))), (m5, .inl (cI, 104, .inl (nF (va_up su k 1))))] H := hP
  have hD : va_D A [zO o0 oa i0 m0 nn, (oa, .inl (cP, 3, .inr (.inr (.inr (.inr pf))))), zP h a b dn (n + 1) oc le ll li lc kc rp, (a, .inl (cI, 40, .inl (nF (va_up ch n cn)))), zI i0 i1 i2 i3 i4 (cn + 1) sS lS rS, (i1, .inl (cI, 40, .inl (va_up sv cn t))), (i2, .inl (cI, 40, .inl (nF (va_up rc cn k)))), (i3, .inl (cI, 40, .inl (oF (va_up an cn none)))), (i4, .inl (cJ, 40, .inr (.inl (va_up dp cn (d ||| (bt cn)))))), zM m0 m1 m2 m3 m4 m5 mn mi, (m1, .inl (cI, 104, .inl vs)), (m2, .inl (cI, 104, .inl (nF tg))), (m3, .inl (cI, 104, .inl (oF sr))), (m4, .inl (cI, 104, .inl (nF kn))), (m5, .inl (cI, 104, .inl (nF (va_up su k 1))))] := hD
  refine lv_aload_n hx hb dc_O_receive_66 rfl (lv_at hl 3 rfl) ?_
  refine lv_iload_n hx hb dc_O_receive_67 rfl (lv_at hl 4 rfl) ?_
  refine lv_iload hx hb dc_O_receive_68 (lv_at hl 0 rfl) ?_
  refine cl_v (wc := [zO o0 oa i0 m0 nn, (oa, .inl (cP, 3, .inr (.inr (.inr (.inr pf))))), zP h a b dn (n + 1) oc le ll li lc kc rp, zI i0 i1 i2 i3 i4 (cn + 1) sS lS rS, (i1, .inl (cI, 40, .inl (va_up sv cn t))), zM m0 m1 m2 m3 m4 m5 mn mi, (m1, .inl (cI, 104, .inl vs)), (m2, .inl (cI, 104, .inl (nF tg))), (m3, .inl (cI, 104, .inl (oF sr))), (m4, .inl (cI, 104, .inl (nF kn))), (m5, .inl (cI, 104, .inl (nF (va_up su k 1))))]) (wr := [(a, .inl (cI, 40, .inl (nF (va_up ch n cn)))), (i2, .inl (cI, 40, .inl (nF (va_up rc cn k)))), (i3, .inl (cI, 40, .inl (oF (va_up an cn none)))), (i4, .inl (cJ, 40, .inr (.inl (va_up dp cn (d ||| (bt cn))))))]) (w1 := [zO o0 oa i0 m0 nn, (oa, .inl (cP, 3, .inr (.inr (.inr (.inr pf))))), zP h a b dn (n + 1) oc le ll li lc kc rp, zI i0 i1 i2 i3 i4 (cn + 1) sS lS rS, (i1, .inl (cI, 40, .inl (va_up sv cn t))), zM m0 m1 m2 m3 m4 m5 (mn + (sb1 t).toNat + (sb2 t).toNat) mi, (m1, .inl (cI, 104, .inl (sd_F (sb1 t) (sb2 t) vs mn (t >>> (nI 1 &&& 31)) (t >>> (nI 2 &&& 31))))), (m2, .inl (cI, 104, .inl (nF (sd_F (sb1 t) (sb2 t) tg mn ((j + 1) % 3) ((j + 2) % 3))))), (m3, .inl (cI, 104, .inl (oF (sd_F (sb1 t) (sb2 t) sr mn (some cn) (some cn))))), (m4, .inl (cI, 104, .inl (nF (sd_F (sb1 t) (sb2 t) kn mn le le)))), (m5, .inl (cI, 104, .inl (nF (sd_F (sb1 t) (sb2 t) (va_up su k 1) mn 0 0))))]) hP hD hS hA [0, 1, 2, 4, 5, 9, 10, 11, 12, 13, 14] [3, 6, 7, 8] rfl rfl (by decide) (by decide) (va_runV (As := [.int (nI j), .int (nI cn)]) (rest := []) ⟨hx, hb, hml, hown, htb⟩ (oc_O_sendFrom l dC dI cI cJ cZ cP _ o0 oa i0 m0 nn pf h a b dn (n + 1) oc le ll li lc kc rp i1 i2 i3 i4 (cn + 1) sS lS rS m1 m2 m3 m4 m5 mn mi (va_up sv cn t) vs tg sr kn (va_up su k 1) j cn t (by first | assumption | omega) (by first | assumption | omega) (by first | assumption | omega) (va_up_self _ _ _) (by first | assumption | omega)) (cwV 2 htb (gw_V kw_219 kw_221 kp_5 kw_1 kw_222) rfl rfl rfl (by decide +kernel) ⟨Nat.le_of_ble_eq_true rfl, Nat.le_of_ble_eq_true rfl⟩) (pr_V hP hK hD (va_recv hK hP (ci := 3) (q0 := 0) rfl rfl) [0, 1, 2, 4, 5, 9, 10, 11, 12, 13, 14] (by decide) rfl rfl) rfl rfl hl.1 rfl (lv_room (Nat.le_of_ble_eq_true rfl)) dc_O_receive_70 ⟨Nat.le_of_ble_eq_true rfl, Nat.le_of_ble_eq_true rfl⟩) (fun H locs hP hD hS => ?_)
  have hP : va_P (dC, dI) clsL [zO o0 oa i0 m0 nn, (oa, .inl (cP, 3, .inr (.inr (.inr (.inr pf))))), zP h a b dn (n + 1) oc le ll li lc kc rp, (a, .inl (cI, 40, .inl (nF (va_up ch n cn)))), zI i0 i1 i2 i3 i4 (cn + 1) sS lS rS, (i1, .inl (cI, 40, .inl (va_up sv cn t))), (i2, .inl (cI, 40, .inl (nF (va_up rc cn k)))), (i3, .inl (cI, 40, .inl (oF (va_up an cn none)))), (i4, .inl (cJ, 40, .inr (.inl (va_up dp cn (d ||| (bt cn)))))), zM m0 m1 m2 m3 m4 m5 (mn + (sb1 t).toNat + (sb2 t).toNat) mi, (m1, .inl (cI, 104, .inl (sd_F (sb1 t) (sb2 t) vs mn (t >>> (nI 1 &&& 31)) (t >>> (nI 2 &&& 31))))), (m2, .inl (cI, 104, .inl (nF (sd_F (sb1 t) (sb2 t) tg mn ((j + 1) % 3) ((j + 2) % 3))))), (m3, .inl (cI, 104, .inl (oF (sd_F (sb1 t) (sb2 t) sr mn (some cn) (some cn))))), (m4, .inl (cI, 104, .inl (nF (sd_F (sb1 t) (sb2 t) kn mn le le)))), (m5, .inl (cI, 104, .inl (nF (sd_F (sb1 t) (sb2 t) (va_up su k 1) mn 0 0))))] H := hP.sub (ws' := [zO o0 oa i0 m0 nn, (oa, .inl (cP, 3, .inr (.inr (.inr (.inr pf))))), zP h a b dn (n + 1) oc le ll li lc kc rp, (a, .inl (cI, 40, .inl (nF (va_up ch n cn)))), zI i0 i1 i2 i3 i4 (cn + 1) sS lS rS, (i1, .inl (cI, 40, .inl (va_up sv cn t))), (i2, .inl (cI, 40, .inl (nF (va_up rc cn k)))), (i3, .inl (cI, 40, .inl (oF (va_up an cn none)))), (i4, .inl (cJ, 40, .inr (.inl (va_up dp cn (d ||| (bt cn)))))), zM m0 m1 m2 m3 m4 m5 (mn + (sb1 t).toNat + (sb2 t).toNat) mi, (m1, .inl (cI, 104, .inl (sd_F (sb1 t) (sb2 t) vs mn (t >>> (nI 1 &&& 31)) (t >>> (nI 2 &&& 31))))), (m2, .inl (cI, 104, .inl (nF (sd_F (sb1 t) (sb2 t) tg mn ((j + 1) % 3) ((j + 2) % 3))))), (m3, .inl (cI, 104, .inl (oF (sd_F (sb1 t) (sb2 t) sr mn (some cn) (some cn))))), (m4, .inl (cI, 104, .inl (nF (sd_F (sb1 t) (sb2 t) kn mn le le)))), (m5, .inl (cI, 104, .inl (nF (sd_F (sb1 t) (sb2 t) (va_up su k 1) mn 0 0))))]) [4, 5, 6, 0, 7, 8, 1, 2, 3, 9, 10, 11, 12, 13, 14] rfl
  have hD : va_D A [zO o0 oa i0 m0 nn, (oa, .inl (cP, 3, .inr (.inr (.inr (.inr pf))))), zP h a b dn (n + 1) oc le ll li lc kc rp, (a, .inl (cI, 40, .inl (nF (va_up ch n cn)))), zI i0 i1 i2 i3 i4 (cn + 1) sS lS rS, (i1, .inl (cI, 40, .inl (va_up sv cn t))), (i2, .inl (cI, 40, .inl (nF (va_up rc cn k)))), (i3, .inl (cI, 40, .inl (oF (va_up an cn none)))), (i4, .inl (cJ, 40, .inr (.inl (va_up dp cn (d ||| (bt cn)))))), zM m0 m1 m2 m3 m4 m5 (mn + (sb1 t).toNat + (sb2 t).toNat) mi, (m1, .inl (cI, 104, .inl (sd_F (sb1 t) (sb2 t) vs mn (t >>> (nI 1 &&& 31)) (t >>> (nI 2 &&& 31))))), (m2, .inl (cI, 104, .inl (nF (sd_F (sb1 t) (sb2 t) tg mn ((j + 1) % 3) ((j + 2) % 3))))), (m3, .inl (cI, 104, .inl (oF (sd_F (sb1 t) (sb2 t) sr mn (some cn) (some cn))))), (m4, .inl (cI, 104, .inl (nF (sd_F (sb1 t) (sb2 t) kn mn le le)))), (m5, .inl (cI, 104, .inl (nF (sd_F (sb1 t) (sb2 t) (va_up su k 1) mn 0 0))))] := hD.sub (ws' := [zO o0 oa i0 m0 nn, (oa, .inl (cP, 3, .inr (.inr (.inr (.inr pf))))), zP h a b dn (n + 1) oc le ll li lc kc rp, (a, .inl (cI, 40, .inl (nF (va_up ch n cn)))), zI i0 i1 i2 i3 i4 (cn + 1) sS lS rS, (i1, .inl (cI, 40, .inl (va_up sv cn t))), (i2, .inl (cI, 40, .inl (nF (va_up rc cn k)))), (i3, .inl (cI, 40, .inl (oF (va_up an cn none)))), (i4, .inl (cJ, 40, .inr (.inl (va_up dp cn (d ||| (bt cn)))))), zM m0 m1 m2 m3 m4 m5 (mn + (sb1 t).toNat + (sb2 t).toNat) mi, (m1, .inl (cI, 104, .inl (sd_F (sb1 t) (sb2 t) vs mn (t >>> (nI 1 &&& 31)) (t >>> (nI 2 &&& 31))))), (m2, .inl (cI, 104, .inl (nF (sd_F (sb1 t) (sb2 t) tg mn ((j + 1) % 3) ((j + 2) % 3))))), (m3, .inl (cI, 104, .inl (oF (sd_F (sb1 t) (sb2 t) sr mn (some cn) (some cn))))), (m4, .inl (cI, 104, .inl (nF (sd_F (sb1 t) (sb2 t) kn mn le le)))), (m5, .inl (cI, 104, .inl (nF (sd_F (sb1 t) (sb2 t) (va_up su k 1) mn 0 0))))]) [4, 5, 6, 0, 7, 8, 1, 2, 3, 9, 10, 11, 12, 13, 14] (by decide) rfl
  refine lv_aload_n hx hb dc_O_receive_73 rfl (lv_at hl 3 rfl) ?_
  refine va_get (D := (dC, dI)) (ci := 3) (v := .ref m0) (C := cn_O) (T := ft_O) (N := 4) hx hb htb ki_O hown hK hP 0 rfl rfl 2 (by decide) (htb _ kw_141) (fun _ h9 => h9) rfl dc_O_receive_74 ?_
  refine va_get (D := (dC, dI)) (ci := 1) (v := .ref m3) (C := cn_M) (T := ft_M) (N := 7) hx hb htb ki_M hown hK hP 9 rfl rfl 2 (by decide) (htb _ kw_116) (fun _ h9 => h9) rfl dc_O_receive_77 ?_
  refine lv_iload_n hx hb dc_O_receive_80 rfl (lv_at hl 5 rfl) ?_
  refine wa_old (k := k) hx hb hK hP 12 0 rfl rfl (by omega) (by omega) dc_O_receive_81 ?_
  refine tp_i (y := oI (sr k)) (by rw [sd_F_lt _ _ _ _ hk]) ?_
  refine lv_iconst (v := (-1)) hx hb dc_O_receive_82 (by decide) ?_
  refine lv_icmp_ne (tgt := 92) hx hb dc_O_receive_83 (by decide) (fun hc => ?_) (fun hc => ?_)
  · have h1 : ¬ (sr k) = none := fun h9 => hc ((oI_m1 (fun i q => by have := hs i q; omega)).mpr h9)
    refine lv_iload hx hb dc_O_receive_92 (lv_at hl 0 rfl) ?_
    have hP8 := hP.sub (ws' := [zO o0 oa i0 m0 nn, (oa, .inl (cP, 3, .inr (.inr (.inr (.inr pf))))), zP h a b dn (n + 1) oc le ll li lc kc rp, (a, .inl (cI, 40, .inl (nF (va_up ch n cn)))), zI i0 i1 i2 i3 i4 (cn + 1) sS lS rS, (i1, .inl (cI, 40, .inl (va_up sv cn t))), (i2, .inl (cI, 40, .inl (nF (va_up rc cn k)))), (i3, .inl (cI, 40, .inl (oF (va_up an cn none)))), (i4, .inl (cJ, 40, .inr (.inl (va_up dp cn (d ||| (bt cn)))))), zM m0 m1 m2 m3 m4 m5 (mn + (sb1 t).toNat + (sb2 t).toNat) mi, (m1, .inl (cI, 104, .inl (sd_F (sb1 t) (sb2 t) vs mn (t >>> (nI 1 &&& 31)) (t >>> (nI 2 &&& 31))))), (m2, .inl (cI, 104, .inl (nF (sd_F (sb1 t) (sb2 t) tg mn ((j + 1) % 3) ((j + 2) % 3))))), (m3, .inl (cI, 104, .inl (oF (sd_F (sb1 t) (sb2 t) sr mn (some cn) (some cn))))), (m4, .inl (cI, 104, .inl (nF (sd_F (sb1 t) (sb2 t) kn mn le le)))), (m5, .inl (cI, 104, .inl (nF (sd_F (sb1 t) (sb2 t) (va_up su k 1) mn 0 0))))]) [0, 1, 2, 3, 4, 5, 6, 7, 8, 9, 10, 11, 12, 13, 14] rfl
    have hD8 := hD.sub (ws' := [zO o0 oa i0 m0 nn, (oa, .inl (cP, 3, .inr (.inr (.inr (.inr pf))))), zP h a b dn (n + 1) oc le ll li lc kc rp, (a, .inl (cI, 40, .inl (nF (va_up ch n cn)))), zI i0 i1 i2 i3 i4 (cn + 1) sS lS rS, (i1, .inl (cI, 40, .inl (va_up sv cn t))), (i2, .inl (cI, 40, .inl (nF (va_up rc cn k)))), (i3, .inl (cI, 40, .inl (oF (va_up an cn none)))), (i4, .inl (cJ, 40, .inr (.inl (va_up dp cn (d ||| (bt cn)))))), zM m0 m1 m2 m3 m4 m5 (mn + (sb1 t).toNat + (sb2 t).toNat) mi, (m1, .inl (cI, 104, .inl (sd_F (sb1 t) (sb2 t) vs mn (t >>> (nI 1 &&& 31)) (t >>> (nI 2 &&& 31))))), (m2, .inl (cI, 104, .inl (nF (sd_F (sb1 t) (sb2 t) tg mn ((j + 1) % 3) ((j + 2) % 3))))), (m3, .inl (cI, 104, .inl (oF (sd_F (sb1 t) (sb2 t) sr mn (some cn) (some cn))))), (m4, .inl (cI, 104, .inl (nF (sd_F (sb1 t) (sb2 t) kn mn le le)))), (m5, .inl (cI, 104, .inl (nF (sd_F (sb1 t) (sb2 t) (va_up su k 1) mn 0 0))))]) [0, 1, 2, 3, 4, 5, 6, 7, 8, 9, 10, 11, 12, 13, 14] (by decide) rfl
    have hW8 : ([zO o0 oa i0 m0 nn, (oa, .inl (cP, 3, .inr (.inr (.inr (.inr pf))))), zP h a b dn (n + 1) oc le ll li lc kc rp, (a, .inl (cI, 40, .inl (nF (va_up ch n cn)))), zI i0 i1 i2 i3 i4 (cn + 1) sS lS rS, (i1, .inl (cI, 40, .inl (va_up sv cn t))), (i2, .inl (cI, 40, .inl (nF (va_up rc cn k)))), (i3, .inl (cI, 40, .inl (oF (va_up an cn none)))), (i4, .inl (cJ, 40, .inr (.inl (va_up dp cn (d ||| (bt cn)))))), zM m0 m1 m2 m3 m4 m5 (mn + (sb1 t).toNat + (sb2 t).toNat) mi, (m1, .inl (cI, 104, .inl (sd_F (sb1 t) (sb2 t) vs mn (t >>> (nI 1 &&& 31)) (t >>> (nI 2 &&& 31))))), (m2, .inl (cI, 104, .inl (nF (sd_F (sb1 t) (sb2 t) tg mn ((j + 1) % 3) ((j + 2) % 3))))), (m3, .inl (cI, 104, .inl (oF (sd_F (sb1 t) (sb2 t) sr mn (some cn) (some cn))))), (m4, .inl (cI, 104, .inl (nF (sd_F (sb1 t) (sb2 t) kn mn le le)))), (m5, .inl (cI, 104, .inl (nF (sd_F (sb1 t) (sb2 t) (va_up su k 1) mn 0 0))))] : va_W) = [zO o0 oa i0 m0 nn, (oa, .inl (cP, 3, .inr (.inr (.inr (.inr pf))))), zP h a b dn (n + 1) oc le ll li lc kc rp, (a, .inl (cI, 40, .inl (nF (va_up ch n cn)))), zI i0 i1 i2 i3 i4 (cn + 1) (if sr k = none then (sS ||| ((cs_set (va_up ch n cn) (n + 1)) &&& (sS ^^^ (-1)))) else sS) lS rS, (i1, .inl (cI, 40, .inl (va_up sv cn t))), (i2, .inl (cI, 40, .inl (nF (va_up rc cn k)))), (i3, .inl (cI, 40, .inl (oF (va_up an cn none)))), (i4, .inl (cJ, 40, .inr (.inl (va_up dp cn (d ||| (bt cn)))))), zM m0 m1 m2 m3 m4 m5 (mn + (sb1 t).toNat + (sb2 t).toNat) mi, (m1, .inl (cI, 104, .inl (sd_F (sb1 t) (sb2 t) vs mn (t >>> (nI 1 &&& 31)) (t >>> (nI 2 &&& 31))))), (m2, .inl (cI, 104, .inl (nF (sd_F (sb1 t) (sb2 t) tg mn ((j + 1) % 3) ((j + 2) % 3))))), (m3, .inl (cI, 104, .inl (oF (sd_F (sb1 t) (sb2 t) sr mn (some cn) (some cn))))), (m4, .inl (cI, 104, .inl (nF (sd_F (sb1 t) (sb2 t) kn mn le le)))), (m5, .inl (cI, 104, .inl (nF (sd_F (sb1 t) (sb2 t) (va_up su k 1) mn 0 0))))] := by simp [h1]
    rw [hW8] at hP8 hD8
    have hP9 := hP8
    have hD9 := hD8
    exact W.iret (v := nI cn) hx hb hr (fun t ht hW => ⟨⟨_, (), rfl, rfl, by rw [ht]; exact hP9, va_K.moved hW.alike hK, hD9⟩, hS.F ht⟩) hS.2.2 dc_O_receive_94
  · have h1 : (sr k) = none := (oI_m1 (fun i q => by have := hs i q; omega)).mp hc
    refine lv_aload_n hx hb dc_O_receive_86 rfl (lv_at hl 3 rfl) ?_
    refine lv_aload_n hx hb dc_O_receive_87 rfl (lv_at hl 2 rfl) ?_
    refine cl_i (wc := [zO o0 oa i0 m0 nn, zP h a b dn (n + 1) oc le ll li lc kc rp, (a, .inl (cI, 40, .inl (nF (va_up ch n cn)))), zI i0 i1 i2 i3 i4 (cn + 1) sS lS rS]) (wr := [(oa, .inl (cP, 3, .inr (.inr (.inr (.inr pf))))), (i1, .inl (cI, 40, .inl (va_up sv cn t))), (i2, .inl (cI, 40, .inl (nF (va_up rc cn k)))), (i3, .inl (cI, 40, .inl (oF (va_up an cn none)))), (i4, .inl (cJ, 40, .inr (.inl (va_up dp cn (d ||| (bt cn)))))), zM m0 m1 m2 m3 m4 m5 (mn + (sb1 t).toNat + (sb2 t).toNat) mi, (m1, .inl (cI, 104, .inl (sd_F (sb1 t) (sb2 t) vs mn (t >>> (nI 1 &&& 31)) (t >>> (nI 2 &&& 31))))), (m2, .inl (cI, 104, .inl (nF (sd_F (sb1 t) (sb2 t) tg mn ((j + 1) % 3) ((j + 2) % 3))))), (m3, .inl (cI, 104, .inl (oF (sd_F (sb1 t) (sb2 t) sr mn (some cn) (some cn))))), (m4, .inl (cI, 104, .inl (nF (sd_F (sb1 t) (sb2 t) kn mn le le)))), (m5, .inl (cI, 104, .inl (nF (sd_F (sb1 t) (sb2 t) (va_up su k 1) mn 0 0))))]) (w1 := [zO o0 oa i0 m0 nn, zP h a b dn (n + 1) oc le ll li lc kc rp, (a, .inl (cI, 40, .inl (nF (va_up ch n cn)))), zI i0 i1 i2 i3 i4 (cn + 1) (sS ||| ((cs_set (va_up ch n cn) (n + 1)) &&& (sS ^^^ (-1)))) lS rS]) hP hD hS hA [0, 2, 3, 4] [1, 5, 6, 7, 8, 9, 10, 11, 12, 13, 14] rfl rfl (by decide) (by decide) (va_runV (As := [.ref h]) (rest := []) ⟨hx, hb, hml, hown, htb⟩ (oc_O_makeStable l dC dI cI cJ cZ cP _ o0 oa i0 m0 nn h a b dn (n + 1) oc le ll li lc kc rp i1 i2 i3 i4 (cn + 1) sS lS rS (va_up ch n cn) (by omega)) (cwV 1 htb (gw_V kw_223 kw_225 kp_6 kw_1 kw_226) rfl rfl rfl (by decide +kernel) ⟨Nat.le_of_ble_eq_true rfl, Nat.le_of_ble_eq_true rfl⟩) (pr_V hP hK hD (va_recv hK hP (ci := 3) (q0 := 0) rfl rfl) [0, 2, 3, 4] (by decide) rfl rfl) rfl rfl hl.1 rfl (lv_room (Nat.le_of_ble_eq_true rfl)) dc_O_receive_88 ⟨Nat.le_of_ble_eq_true rfl, Nat.le_of_ble_eq_true rfl⟩) (fun H locs hP hD hS => ?_)
    have hP : va_P (dC, dI) clsL [zO o0 oa i0 m0 nn, (oa, .inl (cP, 3, .inr (.inr (.inr (.inr pf))))), zP h a b dn (n + 1) oc le ll li lc kc rp, (a, .inl (cI, 40, .inl (nF (va_up ch n cn)))), zI i0 i1 i2 i3 i4 (cn + 1) (sS ||| ((cs_set (va_up ch n cn) (n + 1)) &&& (sS ^^^ (-1)))) lS rS, (i1, .inl (cI, 40, .inl (va_up sv cn t))), (i2, .inl (cI, 40, .inl (nF (va_up rc cn k)))), (i3, .inl (cI, 40, .inl (oF (va_up an cn none)))), (i4, .inl (cJ, 40, .inr (.inl (va_up dp cn (d ||| (bt cn)))))), zM m0 m1 m2 m3 m4 m5 (mn + (sb1 t).toNat + (sb2 t).toNat) mi, (m1, .inl (cI, 104, .inl (sd_F (sb1 t) (sb2 t) vs mn (t >>> (nI 1 &&& 31)) (t >>> (nI 2 &&& 31))))), (m2, .inl (cI, 104, .inl (nF (sd_F (sb1 t) (sb2 t) tg mn ((j + 1) % 3) ((j + 2) % 3))))), (m3, .inl (cI, 104, .inl (oF (sd_F (sb1 t) (sb2 t) sr mn (some cn) (some cn))))), (m4, .inl (cI, 104, .inl (nF (sd_F (sb1 t) (sb2 t) kn mn le le)))), (m5, .inl (cI, 104, .inl (nF (sd_F (sb1 t) (sb2 t) (va_up su k 1) mn 0 0))))] H := hP.sub (ws' := [zO o0 oa i0 m0 nn, (oa, .inl (cP, 3, .inr (.inr (.inr (.inr pf))))), zP h a b dn (n + 1) oc le ll li lc kc rp, (a, .inl (cI, 40, .inl (nF (va_up ch n cn)))), zI i0 i1 i2 i3 i4 (cn + 1) (sS ||| ((cs_set (va_up ch n cn) (n + 1)) &&& (sS ^^^ (-1)))) lS rS, (i1, .inl (cI, 40, .inl (va_up sv cn t))), (i2, .inl (cI, 40, .inl (nF (va_up rc cn k)))), (i3, .inl (cI, 40, .inl (oF (va_up an cn none)))), (i4, .inl (cJ, 40, .inr (.inl (va_up dp cn (d ||| (bt cn)))))), zM m0 m1 m2 m3 m4 m5 (mn + (sb1 t).toNat + (sb2 t).toNat) mi, (m1, .inl (cI, 104, .inl (sd_F (sb1 t) (sb2 t) vs mn (t >>> (nI 1 &&& 31)) (t >>> (nI 2 &&& 31))))), (m2, .inl (cI, 104, .inl (nF (sd_F (sb1 t) (sb2 t) tg mn ((j + 1) % 3) ((j + 2) % 3))))), (m3, .inl (cI, 104, .inl (oF (sd_F (sb1 t) (sb2 t) sr mn (some cn) (some cn))))), (m4, .inl (cI, 104, .inl (nF (sd_F (sb1 t) (sb2 t) kn mn le le)))), (m5, .inl (cI, 104, .inl (nF (sd_F (sb1 t) (sb2 t) (va_up su k 1) mn 0 0))))]) [11, 0, 12, 13, 14, 1, 2, 3, 4, 5, 6, 7, 8, 9, 10] rfl
    have hD : va_D A [zO o0 oa i0 m0 nn, (oa, .inl (cP, 3, .inr (.inr (.inr (.inr pf))))), zP h a b dn (n + 1) oc le ll li lc kc rp, (a, .inl (cI, 40, .inl (nF (va_up ch n cn)))), zI i0 i1 i2 i3 i4 (cn + 1) (sS ||| ((cs_set (va_up ch n cn) (n + 1)) &&& (sS ^^^ (-1)))) lS rS, (i1, .inl (cI, 40, .inl (va_up sv cn t))), (i2, .inl (cI, 40, .inl (nF (va_up rc cn k)))), (i3, .inl (cI, 40, .inl (oF (va_up an cn none)))), (i4, .inl (cJ, 40, .inr (.inl (va_up dp cn (d ||| (bt cn)))))), zM m0 m1 m2 m3 m4 m5 (mn + (sb1 t).toNat + (sb2 t).toNat) mi, (m1, .inl (cI, 104, .inl (sd_F (sb1 t) (sb2 t) vs mn (t >>> (nI 1 &&& 31)) (t >>> (nI 2 &&& 31))))), (m2, .inl (cI, 104, .inl (nF (sd_F (sb1 t) (sb2 t) tg mn ((j + 1) % 3) ((j + 2) % 3))))), (m3, .inl (cI, 104, .inl (oF (sd_F (sb1 t) (sb2 t) sr mn (some cn) (some cn))))), (m4, .inl (cI, 104, .inl (nF (sd_F (sb1 t) (sb2 t) kn mn le le)))), (m5, .inl (cI, 104, .inl (nF (sd_F (sb1 t) (sb2 t) (va_up su k 1) mn 0 0))))] := hD.sub (ws' := [zO o0 oa i0 m0 nn, (oa, .inl (cP, 3, .inr (.inr (.inr (.inr pf))))), zP h a b dn (n + 1) oc le ll li lc kc rp, (a, .inl (cI, 40, .inl (nF (va_up ch n cn)))), zI i0 i1 i2 i3 i4 (cn + 1) (sS ||| ((cs_set (va_up ch n cn) (n + 1)) &&& (sS ^^^ (-1)))) lS rS, (i1, .inl (cI, 40, .inl (va_up sv cn t))), (i2, .inl (cI, 40, .inl (nF (va_up rc cn k)))), (i3, .inl (cI, 40, .inl (oF (va_up an cn none)))), (i4, .inl (cJ, 40, .inr (.inl (va_up dp cn (d ||| (bt cn)))))), zM m0 m1 m2 m3 m4 m5 (mn + (sb1 t).toNat + (sb2 t).toNat) mi, (m1, .inl (cI, 104, .inl (sd_F (sb1 t) (sb2 t) vs mn (t >>> (nI 1 &&& 31)) (t >>> (nI 2 &&& 31))))), (m2, .inl (cI, 104, .inl (nF (sd_F (sb1 t) (sb2 t) tg mn ((j + 1) % 3) ((j + 2) % 3))))), (m3, .inl (cI, 104, .inl (oF (sd_F (sb1 t) (sb2 t) sr mn (some cn) (some cn))))), (m4, .inl (cI, 104, .inl (nF (sd_F (sb1 t) (sb2 t) kn mn le le)))), (m5, .inl (cI, 104, .inl (nF (sd_F (sb1 t) (sb2 t) (va_up su k 1) mn 0 0))))]) [11, 0, 12, 13, 14, 1, 2, 3, 4, 5, 6, 7, 8, 9, 10] (by decide) rfl
    refine lv_pop hx hb dc_O_receive_91 rfl ?_
    refine lv_iload hx hb dc_O_receive_92 (lv_at hl 0 rfl) ?_
    have hP8 := hP.sub (ws' := [zO o0 oa i0 m0 nn, (oa, .inl (cP, 3, .inr (.inr (.inr (.inr pf))))), zP h a b dn (n + 1) oc le ll li lc kc rp, (a, .inl (cI, 40, .inl (nF (va_up ch n cn)))), zI i0 i1 i2 i3 i4 (cn + 1) (sS ||| ((cs_set (va_up ch n cn) (n + 1)) &&& (sS ^^^ (-1)))) lS rS, (i1, .inl (cI, 40, .inl (va_up sv cn t))), (i2, .inl (cI, 40, .inl (nF (va_up rc cn k)))), (i3, .inl (cI, 40, .inl (oF (va_up an cn none)))), (i4, .inl (cJ, 40, .inr (.inl (va_up dp cn (d ||| (bt cn)))))), zM m0 m1 m2 m3 m4 m5 (mn + (sb1 t).toNat + (sb2 t).toNat) mi, (m1, .inl (cI, 104, .inl (sd_F (sb1 t) (sb2 t) vs mn (t >>> (nI 1 &&& 31)) (t >>> (nI 2 &&& 31))))), (m2, .inl (cI, 104, .inl (nF (sd_F (sb1 t) (sb2 t) tg mn ((j + 1) % 3) ((j + 2) % 3))))), (m3, .inl (cI, 104, .inl (oF (sd_F (sb1 t) (sb2 t) sr mn (some cn) (some cn))))), (m4, .inl (cI, 104, .inl (nF (sd_F (sb1 t) (sb2 t) kn mn le le)))), (m5, .inl (cI, 104, .inl (nF (sd_F (sb1 t) (sb2 t) (va_up su k 1) mn 0 0))))]) [0, 1, 2, 3, 4, 5, 6, 7, 8, 9, 10, 11, 12, 13, 14] rfl
    have hD8 := hD.sub (ws' := [zO o0 oa i0 m0 nn, (oa, .inl (cP, 3, .inr (.inr (.inr (.inr pf))))), zP h a b dn (n + 1) oc le ll li lc kc rp, (a, .inl (cI, 40, .inl (nF (va_up ch n cn)))), zI i0 i1 i2 i3 i4 (cn + 1) (sS ||| ((cs_set (va_up ch n cn) (n + 1)) &&& (sS ^^^ (-1)))) lS rS, (i1, .inl (cI, 40, .inl (va_up sv cn t))), (i2, .inl (cI, 40, .inl (nF (va_up rc cn k)))), (i3, .inl (cI, 40, .inl (oF (va_up an cn none)))), (i4, .inl (cJ, 40, .inr (.inl (va_up dp cn (d ||| (bt cn)))))), zM m0 m1 m2 m3 m4 m5 (mn + (sb1 t).toNat + (sb2 t).toNat) mi, (m1, .inl (cI, 104, .inl (sd_F (sb1 t) (sb2 t) vs mn (t >>> (nI 1 &&& 31)) (t >>> (nI 2 &&& 31))))), (m2, .inl (cI, 104, .inl (nF (sd_F (sb1 t) (sb2 t) tg mn ((j + 1) % 3) ((j + 2) % 3))))), (m3, .inl (cI, 104, .inl (oF (sd_F (sb1 t) (sb2 t) sr mn (some cn) (some cn))))), (m4, .inl (cI, 104, .inl (nF (sd_F (sb1 t) (sb2 t) kn mn le le)))), (m5, .inl (cI, 104, .inl (nF (sd_F (sb1 t) (sb2 t) (va_up su k 1) mn 0 0))))]) [0, 1, 2, 3, 4, 5, 6, 7, 8, 9, 10, 11, 12, 13, 14] (by decide) rfl
    have hW8 : ([zO o0 oa i0 m0 nn, (oa, .inl (cP, 3, .inr (.inr (.inr (.inr pf))))), zP h a b dn (n + 1) oc le ll li lc kc rp, (a, .inl (cI, 40, .inl (nF (va_up ch n cn)))), zI i0 i1 i2 i3 i4 (cn + 1) (sS ||| ((cs_set (va_up ch n cn) (n + 1)) &&& (sS ^^^ (-1)))) lS rS, (i1, .inl (cI, 40, .inl (va_up sv cn t))), (i2, .inl (cI, 40, .inl (nF (va_up rc cn k)))), (i3, .inl (cI, 40, .inl (oF (va_up an cn none)))), (i4, .inl (cJ, 40, .inr (.inl (va_up dp cn (d ||| (bt cn)))))), zM m0 m1 m2 m3 m4 m5 (mn + (sb1 t).toNat + (sb2 t).toNat) mi, (m1, .inl (cI, 104, .inl (sd_F (sb1 t) (sb2 t) vs mn (t >>> (nI 1 &&& 31)) (t >>> (nI 2 &&& 31))))), (m2, .inl (cI, 104, .inl (nF (sd_F (sb1 t) (sb2 t) tg mn ((j + 1) % 3) ((j + 2) % 3))))), (m3, .inl (cI, 104, .inl (oF (sd_F (sb1 t) (sb2 t) sr mn (some cn) (some cn))))), (m4, .inl (cI, 104, .inl (nF (sd_F (sb1 t) (sb2 t) kn mn le le)))), (m5, .inl (cI, 104, .inl (nF (sd_F (sb1 t) (sb2 t) (va_up su k 1) mn 0 0))))] : va_W) = [zO o0 oa i0 m0 nn, (oa, .inl (cP, 3, .inr (.inr (.inr (.inr pf))))), zP h a b dn (n + 1) oc le ll li lc kc rp, (a, .inl (cI, 40, .inl (nF (va_up ch n cn)))), zI i0 i1 i2 i3 i4 (cn + 1) (if sr k = none then (sS ||| ((cs_set (va_up ch n cn) (n + 1)) &&& (sS ^^^ (-1)))) else sS) lS rS, (i1, .inl (cI, 40, .inl (va_up sv cn t))), (i2, .inl (cI, 40, .inl (nF (va_up rc cn k)))), (i3, .inl (cI, 40, .inl (oF (va_up an cn none)))), (i4, .inl (cJ, 40, .inr (.inl (va_up dp cn (d ||| (bt cn)))))), zM m0 m1 m2 m3 m4 m5 (mn + (sb1 t).toNat + (sb2 t).toNat) mi, (m1, .inl (cI, 104, .inl (sd_F (sb1 t) (sb2 t) vs mn (t >>> (nI 1 &&& 31)) (t >>> (nI 2 &&& 31))))), (m2, .inl (cI, 104, .inl (nF (sd_F (sb1 t) (sb2 t) tg mn ((j + 1) % 3) ((j + 2) % 3))))), (m3, .inl (cI, 104, .inl (oF (sd_F (sb1 t) (sb2 t) sr mn (some cn) (some cn))))), (m4, .inl (cI, 104, .inl (nF (sd_F (sb1 t) (sb2 t) kn mn le le)))), (m5, .inl (cI, 104, .inl (nF (sd_F (sb1 t) (sb2 t) (va_up su k 1) mn 0 0))))] := by simp [h1]
    rw [hW8] at hP8 hD8
    have hP9 := hP8
    have hD9 := hD8
    exact W.iret (v := nI cn) hx hb hr (fun t ht hW => ⟨⟨_, (), rfl, rfl, by rw [ht]; exact hP9, va_K.moved hW.alike hK, hD9⟩, hS.F ht⟩) hS.2.2 dc_O_receive_94

set_option maxHeartbeats 4000000 in
set_option maxRecDepth 100000 in
theorem oc_O_outputs_no (l : Launch) (dC : Nat → ClassId) (dI : Nat → Nat → Nat) (cI cJ cZ cP : ClassId) (sz : Nat) (o0 : Nat) (oa : Nat) (i0 : Nat) (m0 : Nat) (nn : Nat) (y : Int32) (hy : y < 0 ∨ nI 3 ≤ y) : mt_I l mn_O_outputs bc_O_outputs 2 (some .int) ({ frames := 1, cells := 0, slots := 0, locals := 20 }) (dC, dI) (TYS cI cJ cZ cP) sz [.ref o0, .int y] [zO o0 oa i0 m0 nn] [zO o0 oa i0 m0 nn] ((-1)) 0 0 := by
  unfold mt_I
  refine Met.ofW (cc := bc_O_outputs) (maxL := 2) (ret := (some .int)) (by decide) rfl ?_
  intro p e s m args below meth c s₁ B hml hv
  obtain ⟨rfl, hsz, hP, hK, hD0⟩ := hv
  have hx := B.exec
  have hb := B.bytes
  have hr := B.returns
  have hts := atoms_spec (ws := wsT mn_O_outputs bc_O_outputs 2 (some .int)) B.pre
  have htb : ∀ w ∈ gtbl, w.before _ s = true := fun w h => hts w (List.mem_cons_of_mem _ h)
  have hown : s.vm.findClass cn_O = some m.cls := findClass_of_methodNamed B.named
  have hlocks := B.notSynchronized
  subst hsz
  have hD := hD0.self (sz := s.heap.size)
  generalize hAe : va_A [zO o0 oa i0 m0 nn] s.heap.size = A at hD ⊢
  have hA : ∀ q : Nat, s.heap.size ≤ q → A q := fun q h => by rw [← hAe]; exact Or.inr h
  have hS : va_S A s.heap s.heap [] := va_S.rf
  have hP : va_P (dC, dI) clsL [zO o0 oa i0 m0 nn] s.heap := hP
  have hl := lv_entry ([.ref o0, .int y]) (n := 2) (Nat.le_of_ble_eq_true rfl)
  rw [lg_entry_eq]
  generalize (lg_sl ([.ref o0, .int y]) ++ List.replicate (2 - (lg_sl ([.ref o0, .int y])).length) Slot.unset).toArray = ls at hl ⊢
  have hl : lv_has ls 2 [(0, .ref o0), (1, .int y)] := hl
  refine lv_iload_n hx hb dc_O_outputs_0 rfl (lv_at hl 1 rfl) ?_
  refine cl_i (wc := []) (wr := [zO o0 oa i0 m0 nn]) (w1 := []) hP hD hS hA [] [0] rfl rfl (by decide) (by decide) (va_runS (As := [.int y]) (rest := []) ⟨hx, hb, hml, hown, htb⟩ (oc_O_isProcess_no l dC dI cI cJ cZ cP _ y (by first | assumption | omega)) (va_cwS 1 htb (gw_S kw_172 kw_173 kw_1 kw_174) rfl rfl rfl (by decide +kernel) ⟨Nat.le_of_ble_eq_true rfl, Nat.le_of_ble_eq_true rfl⟩) (pr_S hP hK hD [] (by decide) rfl rfl) rfl rfl hl.1 rfl (lv_room (Nat.le_of_ble_eq_true rfl)) dc_O_outputs_1 ⟨Nat.le_of_ble_eq_true rfl, Nat.le_of_ble_eq_true rfl⟩) (fun H locs hP hD hS => ?_)
  have hP : va_P (dC, dI) clsL [zO o0 oa i0 m0 nn] H := hP.sub (ws' := [zO o0 oa i0 m0 nn]) [0] rfl
  have hD : va_D A [zO o0 oa i0 m0 nn] := hD.sub (ws' := [zO o0 oa i0 m0 nn]) [0] (by decide) rfl
  refine lv_if_eq (tgt := 19) hx hb dc_O_outputs_4 (by decide) (fun hc => ?_) (fun hc => ?_)
  rotate_left
  · have h1 : false = true := bI_n0.mp hc
    exact absurd h1 (by decide)
  have h1 : false = false := bI_0.mp hc
  refine lv_iconst (v := (-1)) hx hb dc_O_outputs_19 (by decide) ?_
  have hP9 := hP.sub (ws' := [zO o0 oa i0 m0 nn]) [0] rfl
  have hD9 := hD.sub (ws' := [zO o0 oa i0 m0 nn]) [0] (by decide) rfl
  exact W.iret (v := (-1)) hx hb hr (fun t ht hW => ⟨⟨_, (), rfl, rfl, by rw [ht]; exact hP9, va_K.moved hW.alike hK, hD9⟩, hS.F ht⟩) hS.2.2 dc_O_outputs_20

set_option maxHeartbeats 4000000 in
set_option maxRecDepth 100000 in
theorem oc_O_outputs (l : Launch) (dC : Nat → ClassId) (dI : Nat → Nat → Nat) (cI cJ cZ cP : ClassId) (sz : Nat) (o0 : Nat) (oa : Nat) (i0 : Nat) (m0 : Nat) (nn : Nat) (pf : Nat → Option Nat) (h : Nat) (a : Nat) (b : Nat) (dn : Bool) (n : Nat) (oc : Nat) (le : Nat) (ll : Int64) (li : Int64) (lc : Nat) (kc : Nat) (rp : Int32) (j : Nat) (hj : j < 3) (hf : pf j = some h) : mt_I l mn_O_outputs bc_O_outputs 2 (some .int) ({ frames := 1, cells := 0, slots := 0, locals := 20 }) (dC, dI) (TYS cI cJ cZ cP) sz [.ref o0, .int (nI j)] [zO o0 oa i0 m0 nn, (oa, .inl (cP, 3, .inr (.inr (.inr (.inr pf))))), zP h a b dn n oc le ll li lc kc rp] [zO o0 oa i0 m0 nn, (oa, .inl (cP, 3, .inr (.inr (.inr (.inr pf))))), zP h a b dn n oc le ll li lc kc rp] (nI oc) 0 0 := by
  unfold mt_I
  refine Met.ofW (cc := bc_O_outputs) (maxL := 2) (ret := (some .int)) (by decide) rfl ?_
  intro p e s m args below meth c s₁ B hml hv
  obtain ⟨rfl, hsz, hP, hK, hD0⟩ := hv
  have hx := B.exec
  have hb := B.bytes
  have hr := B.returns
  have hts := atoms_spec (ws := wsT mn_O_outputs bc_O_outputs 2 (some .int)) B.pre
  have htb : ∀ w ∈ gtbl, w.before _ s = true := fun w h => hts w (List.mem_cons_of_mem _ h)
  have hown : s.vm.findClass cn_O = some m.cls := findClass_of_methodNamed B.named
  have hlocks := B.notSynchronized
  subst hsz
  have hD := hD0.self (sz := s.heap.size)
  generalize hAe : va_A [zO o0 oa i0 m0 nn, (oa, .inl (cP, 3, .inr (.inr (.inr (.inr pf))))), zP h a b dn n oc le ll li lc kc rp] s.heap.size = A at hD ⊢
  have hA : ∀ q : Nat, s.heap.size ≤ q → A q := fun q h => by rw [← hAe]; exact Or.inr h
  have hS : va_S A s.heap s.heap [] := va_S.rf
  have hP : va_P (dC, dI) clsL [zO o0 oa i0 m0 nn, (oa, .inl (cP, 3, .inr (.inr (.inr (.inr pf))))), zP h a b dn n oc le ll li lc kc rp] s.heap := hP
  have hl := lv_entry ([.ref o0, .int (nI j)]) (n := 2) (Nat.le_of_ble_eq_true rfl)
  rw [lg_entry_eq]
  generalize (lg_sl ([.ref o0, .int (nI j)]) ++ List.replicate (2 - (lg_sl ([.ref o0, .int (nI j)])).length) Slot.unset).toArray = ls at hl ⊢
  have hl : lv_has ls 2 [(0, .ref o0), (1, .int (nI j))] := hl
  refine lv_iload_n hx hb dc_O_outputs_0 rfl (lv_at hl 1 rfl) ?_
  refine cl_i (wc := []) (wr := [zO o0 oa i0 m0 nn, (oa, .inl (cP, 3, .inr (.inr (.inr (.inr pf))))), zP h a b dn n oc le ll li lc kc rp]) (w1 := []) hP hD hS hA [] [0, 1, 2] rfl rfl (by decide) (by decide) (va_runS (As := [.int (nI j)]) (rest := []) ⟨hx, hb, hml, hown, htb⟩ (oc_O_isProcess l dC dI cI cJ cZ cP _ j (by first | assumption | omega)) (va_cwS 1 htb (gw_S kw_172 kw_173 kw_1 kw_174) rfl rfl rfl (by decide +kernel) ⟨Nat.le_of_ble_eq_true rfl, Nat.le_of_ble_eq_true rfl⟩) (pr_S hP hK hD [] (by decide) rfl rfl) rfl rfl hl.1 rfl (lv_room (Nat.le_of_ble_eq_true rfl)) dc_O_outputs_1 ⟨Nat.le_of_ble_eq_true rfl, Nat.le_of_ble_eq_true rfl⟩) (fun H locs hP hD hS => ?_)
  have hP : va_P (dC, dI) clsL [zO o0 oa i0 m0 nn, (oa, .inl (cP, 3, .inr (.inr (.inr (.inr pf))))), zP h a b dn n oc le ll li lc kc rp] H := hP.sub (ws' := [zO o0 oa i0 m0 nn, (oa, .inl (cP, 3, .inr (.inr (.inr (.inr pf))))), zP h a b dn n oc le ll li lc kc rp]) [0, 1, 2] rfl
  have hD : va_D A [zO o0 oa i0 m0 nn, (oa, .inl (cP, 3, .inr (.inr (.inr (.inr pf))))), zP h a b dn n oc le ll li lc kc rp] := hD.sub (ws' := [zO o0 oa i0 m0 nn, (oa, .inl (cP, 3, .inr (.inr (.inr (.inr pf))))), zP h a b dn n oc le ll li lc kc rp]) [0, 1, 2] (by decide) rfl
  refine lv_if_eq (tgt := 19) hx hb dc_O_outputs_4 (by decide) (fun hc => ?_) (fun hc => ?_)
  · have h1 : true = false := bI_0.mp hc
    exact absurd h1 (by decide)
  have h1 : true = true := bI_n0.mp hc
  refine lv_aload_n hx hb dc_O_outputs_7 rfl (lv_at hl 0 rfl) ?_
  refine va_get (D := (dC, dI)) (ci := 3) (v := .ref oa) (C := cn_O) (T := ft_O) (N := 4) hx hb htb ki_O hown hK hP 0 rfl rfl 0 (by decide) (htb _ kw_139) (fun _ h9 => h9) rfl dc_O_outputs_8 ?_
  refine lv_iload_n hx hb dc_O_outputs_11 rfl (lv_at hl 1 rfl) ?_
  refine wa_ald hx hb hK hP 1 3 rfl rfl (k := j) (by omega) (by omega) (v := h) (hf) dc_O_outputs_12 ?_
  refine va_get (D := (dC, dI)) (ci := 2) (v := .int (nI oc)) (C := cn_P) (T := ft_P) (N := 11) hx hb htb ki_P hown hK hP 2 rfl rfl 4 (by decide) (htb _ kw_31) (fun _ h9 => h9) rfl dc_O_outputs_13 ?_
  refine lv_goto (tgt := 20) hx hb dc_O_outputs_16 (by decide) ?_
  have hP9 := hP.sub (ws' := [zO o0 oa i0 m0 nn, (oa, .inl (cP, 3, .inr (.inr (.inr (.inr pf))))), zP h a b dn n oc le ll li lc kc rp]) [0, 1, 2] rfl
  have hD9 := hD.sub (ws' := [zO o0 oa i0 m0 nn, (oa, .inl (cP, 3, .inr (.inr (.inr (.inr pf))))), zP h a b dn n oc le ll li lc kc rp]) [0, 1, 2] (by decide) rfl
  exact W.iret (v := nI oc) hx hb hr (fun t ht hW => ⟨⟨_, (), rfl, rfl, by rw [ht]; exact hP9, va_K.moved hW.alike hK, hD9⟩, hS.F ht⟩) hS.2.2 dc_O_outputs_20

set_option maxHeartbeats 4000000 in
set_option maxRecDepth 100000 in
theorem oc_O_known_no (l : Launch) (dC : Nat → ClassId) (dI : Nat → Nat → Nat) (cI cJ cZ cP : ClassId) (sz : Nat) (o0 : Nat) (oa : Nat) (i0 : Nat) (m0 : Nat) (nn : Nat) (y : Int32) (hy : y < 0 ∨ nI 3 ≤ y) : mt_I l mn_O_known bc_O_known 2 (some .int) ({ frames := 1, cells := 0, slots := 0, locals := 20 }) (dC, dI) (TYS cI cJ cZ cP) sz [.ref o0, .int y] [zO o0 oa i0 m0 nn] [zO o0 oa i0 m0 nn] ((-1)) 0 0 := by
  unfold mt_I
  refine Met.ofW (cc := bc_O_known) (maxL := 2) (ret := (some .int)) (by decide) rfl ?_
  intro p e s m args below meth c s₁ B hml hv
  obtain ⟨rfl, hsz, hP, hK, hD0⟩ := hv
  have hx := B.exec
  have hb := B.bytes
  have hr := B.returns
  have hts := atoms_spec (ws := wsT mn_O_known bc_O_known 2 (some .int)) B.pre
  have htb : ∀ w ∈ gtbl, w.before _ s = true := fun w h => hts w (List.mem_cons_of_mem _ h)
  have hown : s.vm.findClass cn_O = some m.cls := findClass_of_methodNamed B.named
  have hlocks := B.notSynchronized
  subst hsz
  have hD := hD0.self (sz := s.heap.size)
  generalize hAe : va_A [zO o0 oa i0 m0 nn] s.heap.size = A at hD ⊢
  have hA : ∀ q : Nat, s.heap.size ≤ q → A q := fun q h => by rw [← hAe]; exact Or.inr h
  have hS : va_S A s.heap s.heap [] := va_S.rf
  have hP : va_P (dC, dI) clsL [zO o0 oa i0 m0 nn] s.heap := hP
  have hl := lv_entry ([.ref o0, .int y]) (n := 2) (Nat.le_of_ble_eq_true rfl)
  rw [lg_entry_eq]
  generalize (lg_sl ([.ref o0, .int y]) ++ List.replicate (2 - (lg_sl ([.ref o0, .int y])).length) Slot.unset).toArray = ls at hl ⊢
  have hl : lv_has ls 2 [(0, .ref o0), (1, .int y)] := hl
  refine lv_iload_n hx hb dc_O_known_0 rfl (lv_at hl 1 rfl) ?_
  refine cl_i (wc := []) (wr := [zO o0 oa i0 m0 nn]) (w1 := []) hP hD hS hA [] [0] rfl rfl (by decide) (by decide) (va_runS (As := [.int y]) (rest := []) ⟨hx, hb, hml, hown, htb⟩ (oc_O_isProcess_no l dC dI cI cJ cZ cP _ y (by first | assumption | omega)) (va_cwS 1 htb (gw_S kw_172 kw_173 kw_1 kw_174) rfl rfl rfl (by decide +kernel) ⟨Nat.le_of_ble_eq_true rfl, Nat.le_of_ble_eq_true rfl⟩) (pr_S hP hK hD [] (by decide) rfl rfl) rfl rfl hl.1 rfl (lv_room (Nat.le_of_ble_eq_true rfl)) dc_O_known_1 ⟨Nat.le_of_ble_eq_true rfl, Nat.le_of_ble_eq_true rfl⟩) (fun H locs hP hD hS => ?_)
  have hP : va_P (dC, dI) clsL [zO o0 oa i0 m0 nn] H := hP.sub (ws' := [zO o0 oa i0 m0 nn]) [0] rfl
  have hD : va_D A [zO o0 oa i0 m0 nn] := hD.sub (ws' := [zO o0 oa i0 m0 nn]) [0] (by decide) rfl
  refine lv_if_eq (tgt := 19) hx hb dc_O_known_4 (by decide) (fun hc => ?_) (fun hc => ?_)
  rotate_left
  · have h1 : false = true := bI_n0.mp hc
    exact absurd h1 (by decide)
  have h1 : false = false := bI_0.mp hc
  refine lv_iconst (v := (-1)) hx hb dc_O_known_19 (by decide) ?_
  have hP9 := hP.sub (ws' := [zO o0 oa i0 m0 nn]) [0] rfl
  have hD9 := hD.sub (ws' := [zO o0 oa i0 m0 nn]) [0] (by decide) rfl
  exact W.iret (v := (-1)) hx hb hr (fun t ht hW => ⟨⟨_, (), rfl, rfl, by rw [ht]; exact hP9, va_K.moved hW.alike hK, hD9⟩, hS.F ht⟩) hS.2.2 dc_O_known_20

set_option maxHeartbeats 4000000 in
set_option maxRecDepth 100000 in
theorem oc_O_known (l : Launch) (dC : Nat → ClassId) (dI : Nat → Nat → Nat) (cI cJ cZ cP : ClassId) (sz : Nat) (o0 : Nat) (oa : Nat) (i0 : Nat) (m0 : Nat) (nn : Nat) (pf : Nat → Option Nat) (h : Nat) (a : Nat) (b : Nat) (dn : Bool) (n : Nat) (oc : Nat) (le : Nat) (ll : Int64) (li : Int64) (lc : Nat) (kc : Nat) (rp : Int32) (j : Nat) (hj : j < 3) (hf : pf j = some h) : mt_I l mn_O_known bc_O_known 2 (some .int) ({ frames := 1, cells := 0, slots := 0, locals := 20 }) (dC, dI) (TYS cI cJ cZ cP) sz [.ref o0, .int (nI j)] [zO o0 oa i0 m0 nn, (oa, .inl (cP, 3, .inr (.inr (.inr (.inr pf))))), zP h a b dn n oc le ll li lc kc rp] [zO o0 oa i0 m0 nn, (oa, .inl (cP, 3, .inr (.inr (.inr (.inr pf))))), zP h a b dn n oc le ll li lc kc rp] (nI le) 0 0 := by
  unfold mt_I
  refine Met.ofW (cc := bc_O_known) (maxL := 2) (ret := (some .int)) (by decide) rfl ?_
  intro p e s m args below meth c s₁ B hml hv
  obtain ⟨rfl, hsz, hP, hK, hD0⟩ := hv
  have hx := B.exec
  have hb := B.bytes
  have hr := B.returns
  have hts := atoms_spec (ws := wsT mn_O_known bc_O_known 2 (some .int)) B.pre
  have htb : ∀ w ∈ gtbl, w.before _ s = true := fun w h => hts w (List.mem_cons_of_mem _ h)
  have hown : s.vm.findClass cn_O = some m.cls := findClass_of_methodNamed B.named
  have hlocks := B.notSynchronized
  subst hsz
  have hD := hD0.self (sz := s.heap.size)
  generalize hAe : va_A [zO o0 oa i0 m0 nn, (oa, .inl (cP, 3, .inr (.inr (.inr (.inr pf))))), zP h a b dn n oc le ll li lc kc rp] s.heap.size = A at hD ⊢
  have hA : ∀ q : Nat, s.heap.size ≤ q → A q := fun q h => by rw [← hAe]; exact Or.inr h
  have hS : va_S A s.heap s.heap [] := va_S.rf
  have hP : va_P (dC, dI) clsL [zO o0 oa i0 m0 nn, (oa, .inl (cP, 3, .inr (.inr (.inr (.inr pf))))), zP h a b dn n oc le ll li lc kc rp] s.heap := hP
  have hl := lv_entry ([.ref o0, .int (nI j)]) (n := 2) (Nat.le_of_ble_eq_true rfl)
  rw [lg_entry_eq]
  generalize (lg_sl ([.ref o0, .int (nI j)]) ++ List.replicate (2 - (lg_sl ([.ref o0, .int (nI j)])).length) Slot.unset).toArray = ls at hl ⊢
  have hl : lv_has ls 2 [(0, .ref o0), (1, .int (nI j))] := hl
  refine lv_iload_n hx hb dc_O_known_0 rfl (lv_at hl 1 rfl) ?_
  refine cl_i (wc := []) (wr := [zO o0 oa i0 m0 nn, (oa, .inl (cP, 3, .inr (.inr (.inr (.inr pf))))), zP h a b dn n oc le ll li lc kc rp]) (w1 := []) hP hD hS hA [] [0, 1, 2] rfl rfl (by decide) (by decide) (va_runS (As := [.int (nI j)]) (rest := []) ⟨hx, hb, hml, hown, htb⟩ (oc_O_isProcess l dC dI cI cJ cZ cP _ j (by first | assumption | omega)) (va_cwS 1 htb (gw_S kw_172 kw_173 kw_1 kw_174) rfl rfl rfl (by decide +kernel) ⟨Nat.le_of_ble_eq_true rfl, Nat.le_of_ble_eq_true rfl⟩) (pr_S hP hK hD [] (by decide) rfl rfl) rfl rfl hl.1 rfl (lv_room (Nat.le_of_ble_eq_true rfl)) dc_O_known_1 ⟨Nat.le_of_ble_eq_true rfl, Nat.le_of_ble_eq_true rfl⟩) (fun H locs hP hD hS => ?_)
  have hP : va_P (dC, dI) clsL [zO o0 oa i0 m0 nn, (oa, .inl (cP, 3, .inr (.inr (.inr (.inr pf))))), zP h a b dn n oc le ll li lc kc rp] H := hP.sub (ws' := [zO o0 oa i0 m0 nn, (oa, .inl (cP, 3, .inr (.inr (.inr (.inr pf))))), zP h a b dn n oc le ll li lc kc rp]) [0, 1, 2] rfl
  have hD : va_D A [zO o0 oa i0 m0 nn, (oa, .inl (cP, 3, .inr (.inr (.inr (.inr pf))))), zP h a b dn n oc le ll li lc kc rp] := hD.sub (ws' := [zO o0 oa i0 m0 nn, (oa, .inl (cP, 3, .inr (.inr (.inr (.inr pf))))), zP h a b dn n oc le ll li lc kc rp]) [0, 1, 2] (by decide) rfl
  refine lv_if_eq (tgt := 19) hx hb dc_O_known_4 (by decide) (fun hc => ?_) (fun hc => ?_)
  · have h1 : true = false := bI_0.mp hc
    exact absurd h1 (by decide)
  have h1 : true = true := bI_n0.mp hc
  refine lv_aload_n hx hb dc_O_known_7 rfl (lv_at hl 0 rfl) ?_
  refine va_get (D := (dC, dI)) (ci := 3) (v := .ref oa) (C := cn_O) (T := ft_O) (N := 4) hx hb htb ki_O hown hK hP 0 rfl rfl 0 (by decide) (htb _ kw_139) (fun _ h9 => h9) rfl dc_O_known_8 ?_
  refine lv_iload_n hx hb dc_O_known_11 rfl (lv_at hl 1 rfl) ?_
  refine wa_ald hx hb hK hP 1 3 rfl rfl (k := j) (by omega) (by omega) (v := h) (hf) dc_O_known_12 ?_
  refine va_get (D := (dC, dI)) (ci := 2) (v := .int (nI le)) (C := cn_P) (T := ft_P) (N := 11) hx hb htb ki_P hown hK hP 2 rfl rfl 5 (by decide) (htb _ kw_33) (fun _ h9 => h9) rfl dc_O_known_13 ?_
  refine lv_goto (tgt := 20) hx hb dc_O_known_16 (by decide) ?_
  have hP9 := hP.sub (ws' := [zO o0 oa i0 m0 nn, (oa, .inl (cP, 3, .inr (.inr (.inr (.inr pf))))), zP h a b dn n oc le ll li lc kc rp]) [0, 1, 2] rfl
  have hD9 := hD.sub (ws' := [zO o0 oa i0 m0 nn, (oa, .inl (cP, 3, .inr (.inr (.inr (.inr pf))))), zP h a b dn n oc le ll li lc kc rp]) [0, 1, 2] (by decide) rfl
  exact W.iret (v := nI le) hx hb hr (fun t ht hW => ⟨⟨_, (), rfl, rfl, by rw [ht]; exact hP9, va_K.moved hW.alike hK, hD9⟩, hS.F ht⟩) hS.2.2 dc_O_known_20

set_option maxHeartbeats 4000000 in
set_option maxRecDepth 100000 in
theorem oc_O_replayed_no (l : Launch) (dC : Nat → ClassId) (dI : Nat → Nat → Nat) (cI cJ cZ cP : ClassId) (sz : Nat) (o0 : Nat) (oa : Nat) (i0 : Nat) (m0 : Nat) (nn : Nat) (y : Int32) (hy : y < 0 ∨ nI 3 ≤ y) : mt_I l mn_O_replayed bc_O_replayed 2 (some .int) ({ frames := 1, cells := 0, slots := 0, locals := 20 }) (dC, dI) (TYS cI cJ cZ cP) sz [.ref o0, .int y] [zO o0 oa i0 m0 nn] [zO o0 oa i0 m0 nn] ((-1)) 0 0 := by
  unfold mt_I
  refine Met.ofW (cc := bc_O_replayed) (maxL := 2) (ret := (some .int)) (by decide) rfl ?_
  intro p e s m args below meth c s₁ B hml hv
  obtain ⟨rfl, hsz, hP, hK, hD0⟩ := hv
  have hx := B.exec
  have hb := B.bytes
  have hr := B.returns
  have hts := atoms_spec (ws := wsT mn_O_replayed bc_O_replayed 2 (some .int)) B.pre
  have htb : ∀ w ∈ gtbl, w.before _ s = true := fun w h => hts w (List.mem_cons_of_mem _ h)
  have hown : s.vm.findClass cn_O = some m.cls := findClass_of_methodNamed B.named
  have hlocks := B.notSynchronized
  subst hsz
  have hD := hD0.self (sz := s.heap.size)
  generalize hAe : va_A [zO o0 oa i0 m0 nn] s.heap.size = A at hD ⊢
  have hA : ∀ q : Nat, s.heap.size ≤ q → A q := fun q h => by rw [← hAe]; exact Or.inr h
  have hS : va_S A s.heap s.heap [] := va_S.rf
  have hP : va_P (dC, dI) clsL [zO o0 oa i0 m0 nn] s.heap := hP
  have hl := lv_entry ([.ref o0, .int y]) (n := 2) (Nat.le_of_ble_eq_true rfl)
  rw [lg_entry_eq]
  generalize (lg_sl ([.ref o0, .int y]) ++ List.replicate (2 - (lg_sl ([.ref o0, .int y])).length) Slot.unset).toArray = ls at hl ⊢
  have hl : lv_has ls 2 [(0, .ref o0), (1, .int y)] := hl
  refine lv_iload_n hx hb dc_O_replayed_0 rfl (lv_at hl 1 rfl) ?_
  refine cl_i (wc := []) (wr := [zO o0 oa i0 m0 nn]) (w1 := []) hP hD hS hA [] [0] rfl rfl (by decide) (by decide) (va_runS (As := [.int y]) (rest := []) ⟨hx, hb, hml, hown, htb⟩ (oc_O_isProcess_no l dC dI cI cJ cZ cP _ y (by first | assumption | omega)) (va_cwS 1 htb (gw_S kw_172 kw_173 kw_1 kw_174) rfl rfl rfl (by decide +kernel) ⟨Nat.le_of_ble_eq_true rfl, Nat.le_of_ble_eq_true rfl⟩) (pr_S hP hK hD [] (by decide) rfl rfl) rfl rfl hl.1 rfl (lv_room (Nat.le_of_ble_eq_true rfl)) dc_O_replayed_1 ⟨Nat.le_of_ble_eq_true rfl, Nat.le_of_ble_eq_true rfl⟩) (fun H locs hP hD hS => ?_)
  have hP : va_P (dC, dI) clsL [zO o0 oa i0 m0 nn] H := hP.sub (ws' := [zO o0 oa i0 m0 nn]) [0] rfl
  have hD : va_D A [zO o0 oa i0 m0 nn] := hD.sub (ws' := [zO o0 oa i0 m0 nn]) [0] (by decide) rfl
  refine lv_if_eq (tgt := 19) hx hb dc_O_replayed_4 (by decide) (fun hc => ?_) (fun hc => ?_)
  rotate_left
  · have h1 : false = true := bI_n0.mp hc
    exact absurd h1 (by decide)
  have h1 : false = false := bI_0.mp hc
  refine lv_iconst (v := (-1)) hx hb dc_O_replayed_19 (by decide) ?_
  have hP9 := hP.sub (ws' := [zO o0 oa i0 m0 nn]) [0] rfl
  have hD9 := hD.sub (ws' := [zO o0 oa i0 m0 nn]) [0] (by decide) rfl
  exact W.iret (v := (-1)) hx hb hr (fun t ht hW => ⟨⟨_, (), rfl, rfl, by rw [ht]; exact hP9, va_K.moved hW.alike hK, hD9⟩, hS.F ht⟩) hS.2.2 dc_O_replayed_20

set_option maxHeartbeats 4000000 in
set_option maxRecDepth 100000 in
theorem oc_O_replayed (l : Launch) (dC : Nat → ClassId) (dI : Nat → Nat → Nat) (cI cJ cZ cP : ClassId) (sz : Nat) (o0 : Nat) (oa : Nat) (i0 : Nat) (m0 : Nat) (nn : Nat) (pf : Nat → Option Nat) (h : Nat) (a : Nat) (b : Nat) (dn : Bool) (n : Nat) (oc : Nat) (le : Nat) (ll : Int64) (li : Int64) (lc : Nat) (kc : Nat) (rp : Int32) (j : Nat) (hj : j < 3) (hf : pf j = some h) : mt_I l mn_O_replayed bc_O_replayed 2 (some .int) ({ frames := 1, cells := 0, slots := 0, locals := 20 }) (dC, dI) (TYS cI cJ cZ cP) sz [.ref o0, .int (nI j)] [zO o0 oa i0 m0 nn, (oa, .inl (cP, 3, .inr (.inr (.inr (.inr pf))))), zP h a b dn n oc le ll li lc kc rp] [zO o0 oa i0 m0 nn, (oa, .inl (cP, 3, .inr (.inr (.inr (.inr pf))))), zP h a b dn n oc le ll li lc kc rp] (rp) 0 0 := by
  unfold mt_I
  refine Met.ofW (cc := bc_O_replayed) (maxL := 2) (ret := (some .int)) (by decide) rfl ?_
  intro p e s m args below meth c s₁ B hml hv
  obtain ⟨rfl, hsz, hP, hK, hD0⟩ := hv
  have hx := B.exec
  have hb := B.bytes
  have hr := B.returns
  have hts := atoms_spec (ws := wsT mn_O_replayed bc_O_replayed 2 (some .int)) B.pre
  have htb : ∀ w ∈ gtbl, w.before _ s = true := fun w h => hts w (List.mem_cons_of_mem _ h)
  have hown : s.vm.findClass cn_O = some m.cls := findClass_of_methodNamed B.named
  have hlocks := B.notSynchronized
  subst hsz
  have hD := hD0.self (sz := s.heap.size)
  generalize hAe : va_A [zO o0 oa i0 m0 nn, (oa, .inl (cP, 3, .inr (.inr (.inr (.inr pf))))), zP h a b dn n oc le ll li lc kc rp] s.heap.size = A at hD ⊢
  have hA : ∀ q : Nat, s.heap.size ≤ q → A q := fun q h => by rw [← hAe]; exact Or.inr h
  have hS : va_S A s.heap s.heap [] := va_S.rf
  have hP : va_P (dC, dI) clsL [zO o0 oa i0 m0 nn, (oa, .inl (cP, 3, .inr (.inr (.inr (.inr pf))))), zP h a b dn n oc le ll li lc kc rp] s.heap := hP
  have hl := lv_entry ([.ref o0, .int (nI j)]) (n := 2) (Nat.le_of_ble_eq_true rfl)
  rw [lg_entry_eq]
  generalize (lg_sl ([.ref o0, .int (nI j)]) ++ List.replicate (2 - (lg_sl ([.ref o0, .int (nI j)])).length) Slot.unset).toArray = ls at hl ⊢
  have hl : lv_has ls 2 [(0, .ref o0), (1, .int (nI j))] := hl
  refine lv_iload_n hx hb dc_O_replayed_0 rfl (lv_at hl 1 rfl) ?_
  refine cl_i (wc := []) (wr := [zO o0 oa i0 m0 nn, (oa, .inl (cP, 3, .inr (.inr (.inr (.inr pf))))), zP h a b dn n oc le ll li lc kc rp]) (w1 := []) hP hD hS hA [] [0, 1, 2] rfl rfl (by decide) (by decide) (va_runS (As := [.int (nI j)]) (rest := []) ⟨hx, hb, hml, hown, htb⟩ (oc_O_isProcess l dC dI cI cJ cZ cP _ j (by first | assumption | omega)) (va_cwS 1 htb (gw_S kw_172 kw_173 kw_1 kw_174) rfl rfl rfl (by decide +kernel) ⟨Nat.le_of_ble_eq_true rfl, Nat.le_of_ble_eq_true rfl⟩) (pr_S hP hK hD [] (by decide) rfl rfl) rfl rfl hl.1 rfl (lv_room (Nat.le_of_ble_eq_true rfl)) dc_O_replayed_1 ⟨Nat.le_of_ble_eq_true rfl, Nat.le_of_ble_eq_true rfl⟩) (fun H locs hP hD hS => ?_)
  have hP : va_P (dC, dI) clsL [zO o0 oa i0 m0 nn, (oa, .inl (cP, 3, .inr (.inr (.inr (.inr pf))))), zP h a b dn n oc le ll li lc kc rp] H := hP.sub (ws' := [zO o0 oa i0 m0 nn, (oa, .inl (cP, 3, .inr (.inr (.inr (.inr pf))))), zP h a b dn n oc le ll li lc kc rp]) [0, 1, 2] rfl
  have hD : va_D A [zO o0 oa i0 m0 nn, (oa, .inl (cP, 3, .inr (.inr (.inr (.inr pf))))), zP h a b dn n oc le ll li lc kc rp] := hD.sub (ws' := [zO o0 oa i0 m0 nn, (oa, .inl (cP, 3, .inr (.inr (.inr (.inr pf))))), zP h a b dn n oc le ll li lc kc rp]) [0, 1, 2] (by decide) rfl
  refine lv_if_eq (tgt := 19) hx hb dc_O_replayed_4 (by decide) (fun hc => ?_) (fun hc => ?_)
  · have h1 : true = false := bI_0.mp hc
    exact absurd h1 (by decide)
  have h1 : true = true := bI_n0.mp hc
  refine lv_aload_n hx hb dc_O_replayed_7 rfl (lv_at hl 0 rfl) ?_
  refine va_get (D := (dC, dI)) (ci := 3) (v := .ref oa) (C := cn_O) (T := ft_O) (N := 4) hx hb htb ki_O hown hK hP 0 rfl rfl 0 (by decide) (htb _ kw_139) (fun _ h9 => h9) rfl dc_O_replayed_8 ?_
  refine lv_iload_n hx hb dc_O_replayed_11 rfl (lv_at hl 1 rfl) ?_
  refine wa_ald hx hb hK hP 1 3 rfl rfl (k := j) (by omega) (by omega) (v := h) (hf) dc_O_replayed_12 ?_
  refine va_get (D := (dC, dI)) (ci := 2) (v := .int rp) (C := cn_P) (T := ft_P) (N := 11) hx hb htb ki_P hown hK hP 2 rfl rfl 10 (by decide) (htb _ kw_41) (fun _ h9 => h9) rfl dc_O_replayed_13 ?_
  refine lv_goto (tgt := 20) hx hb dc_O_replayed_16 (by decide) ?_
  have hP9 := hP.sub (ws' := [zO o0 oa i0 m0 nn, (oa, .inl (cP, 3, .inr (.inr (.inr (.inr pf))))), zP h a b dn n oc le ll li lc kc rp]) [0, 1, 2] rfl
  have hD9 := hD.sub (ws' := [zO o0 oa i0 m0 nn, (oa, .inl (cP, 3, .inr (.inr (.inr (.inr pf))))), zP h a b dn n oc le ll li lc kc rp]) [0, 1, 2] (by decide) rfl
  exact W.iret (v := rp) hx hb hr (fun t ht hW => ⟨⟨_, (), rfl, rfl, by rw [ht]; exact hP9, va_K.moved hW.alike hK, hD9⟩, hS.F ht⟩) hS.2.2 dc_O_replayed_20

set_option maxHeartbeats 4000000 in
set_option maxRecDepth 100000 in
theorem oc_O_length_no (l : Launch) (dC : Nat → ClassId) (dI : Nat → Nat → Nat) (cI cJ cZ cP : ClassId) (sz : Nat) (o0 : Nat) (oa : Nat) (i0 : Nat) (m0 : Nat) (nn : Nat) (y : Int32) (hy : y < 0 ∨ nI 3 ≤ y) : mt_I l mn_O_length bc_O_length 2 (some .int) ({ frames := 2, cells := 0, slots := 0, locals := 41 }) (dC, dI) (TYS cI cJ cZ cP) sz [.ref o0, .int y] [zO o0 oa i0 m0 nn] [zO o0 oa i0 m0 nn] ((-1)) 0 0 := by
  unfold mt_I
  refine Met.ofW (cc := bc_O_length) (maxL := 2) (ret := (some .int)) (by decide) rfl ?_
  intro p e s m args below meth c s₁ B hml hv
  obtain ⟨rfl, hsz, hP, hK, hD0⟩ := hv
  have hx := B.exec
  have hb := B.bytes
  have hr := B.returns
  have hts := atoms_spec (ws := wsT mn_O_length bc_O_length 2 (some .int)) B.pre
  have htb : ∀ w ∈ gtbl, w.before _ s = true := fun w h => hts w (List.mem_cons_of_mem _ h)
  have hown : s.vm.findClass cn_O = some m.cls := findClass_of_methodNamed B.named
  have hlocks := B.notSynchronized
  subst hsz
  have hD := hD0.self (sz := s.heap.size)
  generalize hAe : va_A [zO o0 oa i0 m0 nn] s.heap.size = A at hD ⊢
  have hA : ∀ q : Nat, s.heap.size ≤ q → A q := fun q h => by rw [← hAe]; exact Or.inr h
  have hS : va_S A s.heap s.heap [] := va_S.rf
  have hP : va_P (dC, dI) clsL [zO o0 oa i0 m0 nn] s.heap := hP
  have hl := lv_entry ([.ref o0, .int y]) (n := 2) (Nat.le_of_ble_eq_true rfl)
  rw [lg_entry_eq]
  generalize (lg_sl ([.ref o0, .int y]) ++ List.replicate (2 - (lg_sl ([.ref o0, .int y])).length) Slot.unset).toArray = ls at hl ⊢
  have hl : lv_has ls 2 [(0, .ref o0), (1, .int y)] := hl
  refine lv_aload_n hx hb dc_O_length_0 rfl (lv_at hl 0 rfl) ?_
  refine lv_iload_n hx hb dc_O_length_1 rfl (lv_at hl 1 rfl) ?_
  refine cl_i (wc := [zO o0 oa i0 m0 nn]) (wr := []) (w1 := [zO o0 oa i0 m0 nn]) hP hD hS hA [0] [] rfl rfl (by decide) (by decide) (va_runV (As := [.int y]) (rest := []) ⟨hx, hb, hml, hown, htb⟩ (oc_O_isUp_no l dC dI cI cJ cZ cP _ o0 oa i0 m0 nn y (by first | assumption | omega)) (cwV 1 htb (gw_V kw_246 kw_248 kp_7 kw_1 kw_249) rfl rfl rfl (by decide +kernel) ⟨Nat.le_of_ble_eq_true rfl, Nat.le_of_ble_eq_true rfl⟩) (pr_V hP hK hD (va_recv hK hP (ci := 3) (q0 := 0) rfl rfl) [0] (by decide) rfl rfl) rfl rfl hl.1 rfl (lv_room (Nat.le_of_ble_eq_true rfl)) dc_O_length_2 ⟨Nat.le_of_ble_eq_true rfl, Nat.le_of_ble_eq_true rfl⟩) (fun H locs hP hD hS => ?_)
  have hP : va_P (dC, dI) clsL [zO o0 oa i0 m0 nn] H := hP.sub (ws' := [zO o0 oa i0 m0 nn]) [0] rfl
  have hD : va_D A [zO o0 oa i0 m0 nn] := hD.sub (ws' := [zO o0 oa i0 m0 nn]) [0] (by decide) rfl
  refine lv_if_eq (tgt := 20) hx hb dc_O_length_5 (by decide) (fun hc => ?_) (fun hc => ?_)
  rotate_left
  · have h1 : false = true := bI_n0.mp hc
    exact absurd h1 (by decide)
  have h1 : false = false := bI_0.mp hc
  refine lv_iconst (v := (-1)) hx hb dc_O_length_20 (by decide) ?_
  have hP9 := hP.sub (ws' := [zO o0 oa i0 m0 nn]) [0] rfl
  have hD9 := hD.sub (ws' := [zO o0 oa i0 m0 nn]) [0] (by decide) rfl
  exact W.iret (v := (-1)) hx hb hr (fun t ht hW => ⟨⟨_, (), rfl, rfl, by rw [ht]; exact hP9, va_K.moved hW.alike hK, hD9⟩, hS.F ht⟩) hS.2.2 dc_O_length_21

set_option maxHeartbeats 4000000 in
set_option maxRecDepth 100000 in
theorem oc_O_length_dn (l : Launch) (dC : Nat → ClassId) (dI : Nat → Nat → Nat) (cI cJ cZ cP : ClassId) (sz : Nat) (o0 : Nat) (oa : Nat) (i0 : Nat) (m0 : Nat) (nn : Nat) (pf : Nat → Option Nat) (h : Nat) (a : Nat) (b : Nat) (dn : Bool) (n : Nat) (oc : Nat) (le : Nat) (ll : Int64) (li : Int64) (lc : Nat) (kc : Nat) (rp : Int32) (j : Nat) (hj : j < 3) (hf : pf j = some h) (hdn : dn = true) : mt_I l mn_O_length bc_O_length 2 (some .int) ({ frames := 2, cells := 0, slots := 0, locals := 41 }) (dC, dI) (TYS cI cJ cZ cP) sz [.ref o0, .int (nI j)] [zO o0 oa i0 m0 nn, (oa, .inl (cP, 3, .inr (.inr (.inr (.inr pf))))), zP h a b dn n oc le ll li lc kc rp] [zO o0 oa i0 m0 nn, (oa, .inl (cP, 3, .inr (.inr (.inr (.inr pf))))), zP h a b dn n oc le ll li lc kc rp] ((-1)) 0 0 := by
  unfold mt_I
  refine Met.ofW (cc := bc_O_length) (maxL := 2) (ret := (some .int)) (by decide) rfl ?_
  intro p e s m args below meth c s₁ B hml hv
  obtain ⟨rfl, hsz, hP, hK, hD0⟩ := hv
  have hx := B.exec
  have hb := B.bytes
  have hr := B.returns
  have hts := atoms_spec (ws := wsT mn_O_length bc_O_length 2 (some .int)) B.pre
  have htb : ∀ w ∈ gtbl, w.before _ s = true := fun w h => hts w (List.mem_cons_of_mem _ h)
  have hown : s.vm.findClass cn_O = some m.cls := findClass_of_methodNamed B.named
  have hlocks := B.notSynchronized
  subst hsz
  have hD := hD0.self (sz := s.heap.size)
  generalize hAe : va_A [zO o0 oa i0 m0 nn, (oa, .inl (cP, 3, .inr (.inr (.inr (.inr pf))))), zP h a b dn n oc le ll li lc kc rp] s.heap.size = A at hD ⊢
  have hA : ∀ q : Nat, s.heap.size ≤ q → A q := fun q h => by rw [← hAe]; exact Or.inr h
  have hS : va_S A s.heap s.heap [] := va_S.rf
  have hP : va_P (dC, dI) clsL [zO o0 oa i0 m0 nn, (oa, .inl (cP, 3, .inr (.inr (.inr (.inr pf))))), zP h a b dn n oc le ll li lc kc rp] s.heap := hP
  have hl := lv_entry ([.ref o0, .int (nI j)]) (n := 2) (Nat.le_of_ble_eq_true rfl)
  rw [lg_entry_eq]
  generalize (lg_sl ([.ref o0, .int (nI j)]) ++ List.replicate (2 - (lg_sl ([.ref o0, .int (nI j)])).length) Slot.unset).toArray = ls at hl ⊢
  have hl : lv_has ls 2 [(0, .ref o0), (1, .int (nI j))] := hl
  refine lv_aload_n hx hb dc_O_length_0 rfl (lv_at hl 0 rfl) ?_
  refine lv_iload_n hx hb dc_O_length_1 rfl (lv_at hl 1 rfl) ?_
  refine cl_i (wc := [zO o0 oa i0 m0 nn, (oa, .inl (cP, 3, .inr (.inr (.inr (.inr pf))))), zP h a b dn n oc le ll li lc kc rp]) (wr := []) (w1 := [zO o0 oa i0 m0 nn, (oa, .inl (cP, 3, .inr (.inr (.inr (.inr pf))))), zP h a b dn n oc le ll li lc kc rp]) hP hD hS hA [0, 1, 2] [] rfl rfl (by decide) (by decide) (va_runV (As := [.int (nI j)]) (rest := []) ⟨hx, hb, hml, hown, htb⟩ (oc_O_isUp l dC dI cI cJ cZ cP _ o0 oa i0 m0 nn pf h a b dn n oc le ll li lc kc rp j (by first | assumption | omega) (by first | assumption | omega)) (cwV 1 htb (gw_V kw_246 kw_248 kp_7 kw_1 kw_249) rfl rfl rfl (by decide +kernel) ⟨Nat.le_of_ble_eq_true rfl, Nat.le_of_ble_eq_true rfl⟩) (pr_V hP hK hD (va_recv hK hP (ci := 3) (q0 := 0) rfl rfl) [0, 1, 2] (by decide) rfl rfl) rfl rfl hl.1 rfl (lv_room (Nat.le_of_ble_eq_true rfl)) dc_O_length_2 ⟨Nat.le_of_ble_eq_true rfl, Nat.le_of_ble_eq_true rfl⟩) (fun H locs hP hD hS => ?_)
  have hP : va_P (dC, dI) clsL [zO o0 oa i0 m0 nn, (oa, .inl (cP, 3, .inr (.inr (.inr (.inr pf))))), zP h a b dn n oc le ll li lc kc rp] H := hP.sub (ws' := [zO o0 oa i0 m0 nn, (oa, .inl (cP, 3, .inr (.inr (.inr (.inr pf))))), zP h a b dn n oc le ll li lc kc rp]) [0, 1, 2] rfl
  have hD : va_D A [zO o0 oa i0 m0 nn, (oa, .inl (cP, 3, .inr (.inr (.inr (.inr pf))))), zP h a b dn n oc le ll li lc kc rp] := hD.sub (ws' := [zO o0 oa i0 m0 nn, (oa, .inl (cP, 3, .inr (.inr (.inr (.inr pf))))), zP h a b dn n oc le ll li lc kc rp]) [0, 1, 2] (by decide) rfl
  refine lv_if_eq (tgt := 20) hx hb dc_O_length_5 (by decide) (fun hc => ?_) (fun hc => ?_)
  rotate_left
  · have h1 : (!dn) = true := bI_n0.mp hc
    exact absurd h1 (by rw [hdn]; decide)
  have h1 : (!dn) = false := bI_0.mp hc
  refine lv_iconst (v := (-1)) hx hb dc_O_length_20 (by decide) ?_
  have hP9 := hP.sub (ws' := [zO o0 oa i0 m0 nn, (oa, .inl (cP, 3, .inr (.inr (.inr (.inr pf))))), zP h a b dn n oc le ll li lc kc rp]) [0, 1, 2] rfl
  have hD9 := hD.sub (ws' := [zO o0 oa i0 m0 nn, (oa, .inl (cP, 3, .inr (.inr (.inr (.inr pf))))), zP h a b dn n oc le ll li lc kc rp]) [0, 1, 2] (by decide) rfl
  exact W.iret (v := (-1)) hx hb hr (fun t ht hW => ⟨⟨_, (), rfl, rfl, by rw [ht]; exact hP9, va_K.moved hW.alike hK, hD9⟩, hS.F ht⟩) hS.2.2 dc_O_length_21

set_option maxHeartbeats 4000000 in
set_option maxRecDepth 100000 in
theorem oc_O_length (l : Launch) (dC : Nat → ClassId) (dI : Nat → Nat → Nat) (cI cJ cZ cP : ClassId) (sz : Nat) (o0 : Nat) (oa : Nat) (i0 : Nat) (m0 : Nat) (nn : Nat) (pf : Nat → Option Nat) (h : Nat) (a : Nat) (b : Nat) (dn : Bool) (n : Nat) (oc : Nat) (le : Nat) (ll : Int64) (li : Int64) (lc : Nat) (kc : Nat) (rp : Int32) (j : Nat) (hj : j < 3) (hf : pf j = some h) (hdn : dn = false) : mt_I l mn_O_length bc_O_length 2 (some .int) ({ frames := 2, cells := 0, slots := 0, locals := 41 }) (dC, dI) (TYS cI cJ cZ cP) sz [.ref o0, .int (nI j)] [zO o0 oa i0 m0 nn, (oa, .inl (cP, 3, .inr (.inr (.inr (.inr pf))))), zP h a b dn n oc le ll li lc kc rp] [zO o0 oa i0 m0 nn, (oa, .inl (cP, 3, .inr (.inr (.inr (.inr pf))))), zP h a b dn n oc le ll li lc kc rp] (nI n) 0 0 := by
  unfold mt_I
  refine Met.ofW (cc := bc_O_length) (maxL := 2) (ret := (some .int)) (by decide) rfl ?_
  intro p e s m args below meth c s₁ B hml hv
  obtain ⟨rfl, hsz, hP, hK, hD0⟩ := hv
  have hx := B.exec
  have hb := B.bytes
  have hr := B.returns
  have hts := atoms_spec (ws := wsT mn_O_length bc_O_length 2 (some .int)) B.pre
  have htb : ∀ w ∈ gtbl, w.before _ s = true := fun w h => hts w (List.mem_cons_of_mem _ h)
  have hown : s.vm.findClass cn_O = some m.cls := findClass_of_methodNamed B.named
  have hlocks := B.notSynchronized
  subst hsz
  have hD := hD0.self (sz := s.heap.size)
  generalize hAe : va_A [zO o0 oa i0 m0 nn, (oa, .inl (cP, 3, .inr (.inr (.inr (.inr pf))))), zP h a b dn n oc le ll li lc kc rp] s.heap.size = A at hD ⊢
  have hA : ∀ q : Nat, s.heap.size ≤ q → A q := fun q h => by rw [← hAe]; exact Or.inr h
  have hS : va_S A s.heap s.heap [] := va_S.rf
  have hP : va_P (dC, dI) clsL [zO o0 oa i0 m0 nn, (oa, .inl (cP, 3, .inr (.inr (.inr (.inr pf))))), zP h a b dn n oc le ll li lc kc rp] s.heap := hP
  have hl := lv_entry ([.ref o0, .int (nI j)]) (n := 2) (Nat.le_of_ble_eq_true rfl)
  rw [lg_entry_eq]
  generalize (lg_sl ([.ref o0, .int (nI j)]) ++ List.replicate (2 - (lg_sl ([.ref o0, .int (nI j)])).length) Slot.unset).toArray = ls at hl ⊢
  have hl : lv_has ls 2 [(0, .ref o0), (1, .int (nI j))] := hl
  refine lv_aload_n hx hb dc_O_length_0 rfl (lv_at hl 0 rfl) ?_
  refine lv_iload_n hx hb dc_O_length_1 rfl (lv_at hl 1 rfl) ?_
  refine cl_i (wc := [zO o0 oa i0 m0 nn, (oa, .inl (cP, 3, .inr (.inr (.inr (.inr pf))))), zP h a b dn n oc le ll li lc kc rp]) (wr := []) (w1 := [zO o0 oa i0 m0 nn, (oa, .inl (cP, 3, .inr (.inr (.inr (.inr pf))))), zP h a b dn n oc le ll li lc kc rp]) hP hD hS hA [0, 1, 2] [] rfl rfl (by decide) (by decide) (va_runV (As := [.int (nI j)]) (rest := []) ⟨hx, hb, hml, hown, htb⟩ (oc_O_isUp l dC dI cI cJ cZ cP _ o0 oa i0 m0 nn pf h a b dn n oc le ll li lc kc rp j (by first | assumption | omega) (by first | assumption | omega)) (cwV 1 htb (gw_V kw_246 kw_248 kp_7 kw_1 kw_249) rfl rfl rfl (by decide +kernel) ⟨Nat.le_of_ble_eq_true rfl, Nat.le_of_ble_eq_true rfl⟩) (pr_V hP hK hD (va_recv hK hP (ci := 3) (q0 := 0) rfl rfl) [0, 1, 2] (by decide) rfl rfl) rfl rfl hl.1 rfl (lv_room (Nat.le_of_ble_eq_true rfl)) dc_O_length_2 ⟨Nat.le_of_ble_eq_true rfl, Nat.le_of_ble_eq_true rfl⟩) (fun H locs hP hD hS => ?_)
  have hP : va_P (dC, dI) clsL [zO o0 oa i0 m0 nn, (oa, .inl (cP, 3, .inr (.inr (.inr (.inr pf))))), zP h a b dn n oc le ll li lc kc rp] H := hP.sub (ws' := [zO o0 oa i0 m0 nn, (oa, .inl (cP, 3, .inr (.inr (.inr (.inr pf))))), zP h a b dn n oc le ll li lc kc rp]) [0, 1, 2] rfl
  have hD : va_D A [zO o0 oa i0 m0 nn, (oa, .inl (cP, 3, .inr (.inr (.inr (.inr pf))))), zP h a b dn n oc le ll li lc kc rp] := hD.sub (ws' := [zO o0 oa i0 m0 nn, (oa, .inl (cP, 3, .inr (.inr (.inr (.inr pf))))), zP h a b dn n oc le ll li lc kc rp]) [0, 1, 2] (by decide) rfl
  refine lv_if_eq (tgt := 20) hx hb dc_O_length_5 (by decide) (fun hc => ?_) (fun hc => ?_)
  · have h1 : (!dn) = false := bI_0.mp hc
    exact absurd h1 (by rw [hdn]; decide)
  have h1 : (!dn) = true := bI_n0.mp hc
  refine lv_aload_n hx hb dc_O_length_8 rfl (lv_at hl 0 rfl) ?_
  refine va_get (D := (dC, dI)) (ci := 3) (v := .ref oa) (C := cn_O) (T := ft_O) (N := 4) hx hb htb ki_O hown hK hP 0 rfl rfl 0 (by decide) (htb _ kw_139) (fun _ h9 => h9) rfl dc_O_length_9 ?_
  refine lv_iload_n hx hb dc_O_length_12 rfl (lv_at hl 1 rfl) ?_
  refine wa_ald hx hb hK hP 1 3 rfl rfl (k := j) (by omega) (by omega) (v := h) (hf) dc_O_length_13 ?_
  refine va_get (D := (dC, dI)) (ci := 2) (v := .int (nI n)) (C := cn_P) (T := ft_P) (N := 11) hx hb htb ki_P hown hK hP 2 rfl rfl 3 (by decide) (htb _ kw_29) (fun _ h9 => h9) rfl dc_O_length_14 ?_
  refine lv_goto (tgt := 21) hx hb dc_O_length_17 (by decide) ?_
  have hP9 := hP.sub (ws' := [zO o0 oa i0 m0 nn, (oa, .inl (cP, 3, .inr (.inr (.inr (.inr pf))))), zP h a b dn n oc le ll li lc kc rp]) [0, 1, 2] rfl
  have hD9 := hD.sub (ws' := [zO o0 oa i0 m0 nn, (oa, .inl (cP, 3, .inr (.inr (.inr (.inr pf))))), zP h a b dn n oc le ll li lc kc rp]) [0, 1, 2] (by decide) rfl
  exact W.iret (v := nI n) hx hb hr (fun t ht hW => ⟨⟨_, (), rfl, rfl, by rw [ht]; exact hP9, va_K.moved hW.alike hK, hD9⟩, hS.F ht⟩) hS.2.2 dc_O_length_21

set_option maxHeartbeats 4000000 in
set_option maxRecDepth 100000 in
theorem oc_O_state_no (l : Launch) (dC : Nat → ClassId) (dI : Nat → Nat → Nat) (cI cJ cZ cP : ClassId) (sz : Nat) (o0 : Nat) (oa : Nat) (i0 : Nat) (m0 : Nat) (nn : Nat) (y : Int32) (hy : y < 0 ∨ nI 3 ≤ y) : mt_I l mn_O_state bc_O_state 2 (some .int) ({ frames := 2, cells := 0, slots := 0, locals := 41 }) (dC, dI) (TYS cI cJ cZ cP) sz [.ref o0, .int y] [zO o0 oa i0 m0 nn] [zO o0 oa i0 m0 nn] (nI 0) 0 0 := by
  unfold mt_I
  refine Met.ofW (cc := bc_O_state) (maxL := 2) (ret := (some .int)) (by decide) rfl ?_
  intro p e s m args below meth c s₁ B hml hv
  obtain ⟨rfl, hsz, hP, hK, hD0⟩ := hv
  have hx := B.exec
  have hb := B.bytes
  have hr := B.returns
  have hts := atoms_spec (ws := wsT mn_O_state bc_O_state 2 (some .int)) B.pre
  have htb : ∀ w ∈ gtbl, w.before _ s = true := fun w h => hts w (List.mem_cons_of_mem _ h)
  have hown : s.vm.findClass cn_O = some m.cls := findClass_of_methodNamed B.named
  have hlocks := B.notSynchronized
  subst hsz
  have hD := hD0.self (sz := s.heap.size)
  generalize hAe : va_A [zO o0 oa i0 m0 nn] s.heap.size = A at hD ⊢
  have hA : ∀ q : Nat, s.heap.size ≤ q → A q := fun q h => by rw [← hAe]; exact Or.inr h
  have hS : va_S A s.heap s.heap [] := va_S.rf
  have hP : va_P (dC, dI) clsL [zO o0 oa i0 m0 nn] s.heap := hP
  have hl := lv_entry ([.ref o0, .int y]) (n := 2) (Nat.le_of_ble_eq_true rfl)
  rw [lg_entry_eq]
  generalize (lg_sl ([.ref o0, .int y]) ++ List.replicate (2 - (lg_sl ([.ref o0, .int y])).length) Slot.unset).toArray = ls at hl ⊢
  have hl : lv_has ls 2 [(0, .ref o0), (1, .int y)] := hl
  refine lv_aload_n hx hb dc_O_state_0 rfl (lv_at hl 0 rfl) ?_
  refine lv_iload_n hx hb dc_O_state_1 rfl (lv_at hl 1 rfl) ?_
  refine cl_i (wc := [zO o0 oa i0 m0 nn]) (wr := []) (w1 := [zO o0 oa i0 m0 nn]) hP hD hS hA [0] [] rfl rfl (by decide) (by decide) (va_runV (As := [.int y]) (rest := []) ⟨hx, hb, hml, hown, htb⟩ (oc_O_isUp_no l dC dI cI cJ cZ cP _ o0 oa i0 m0 nn y (by first | assumption | omega)) (cwV 1 htb (gw_V kw_246 kw_248 kp_7 kw_1 kw_249) rfl rfl rfl (by decide +kernel) ⟨Nat.le_of_ble_eq_true rfl, Nat.le_of_ble_eq_true rfl⟩) (pr_V hP hK hD (va_recv hK hP (ci := 3) (q0 := 0) rfl rfl) [0] (by decide) rfl rfl) rfl rfl hl.1 rfl (lv_room (Nat.le_of_ble_eq_true rfl)) dc_O_state_2 ⟨Nat.le_of_ble_eq_true rfl, Nat.le_of_ble_eq_true rfl⟩) (fun H locs hP hD hS => ?_)
  have hP : va_P (dC, dI) clsL [zO o0 oa i0 m0 nn] H := hP.sub (ws' := [zO o0 oa i0 m0 nn]) [0] rfl
  have hD : va_D A [zO o0 oa i0 m0 nn] := hD.sub (ws' := [zO o0 oa i0 m0 nn]) [0] (by decide) rfl
  refine lv_if_eq (tgt := 21) hx hb dc_O_state_5 (by decide) (fun hc => ?_) (fun hc => ?_)
  rotate_left
  · have h1 : false = true := bI_n0.mp hc
    exact absurd h1 (by decide)
  have h1 : false = false := bI_0.mp hc
  refine lv_iconst (v := nI 0) hx hb dc_O_state_21 (by decide) ?_
  have hP9 := hP.sub (ws' := [zO o0 oa i0 m0 nn]) [0] rfl
  have hD9 := hD.sub (ws' := [zO o0 oa i0 m0 nn]) [0] (by decide) rfl
  exact W.iret (v := nI 0) hx hb hr (fun t ht hW => ⟨⟨_, (), rfl, rfl, by rw [ht]; exact hP9, va_K.moved hW.alike hK, hD9⟩, hS.F ht⟩) hS.2.2 dc_O_state_22

set_option maxHeartbeats 4000000 in
set_option maxRecDepth 100000 in
theorem oc_O_state_dn (l : Launch) (dC : Nat → ClassId) (dI : Nat → Nat → Nat) (cI cJ cZ cP : ClassId) (sz : Nat) (o0 : Nat) (oa : Nat) (i0 : Nat) (m0 : Nat) (nn : Nat) (pf : Nat → Option Nat) (h : Nat) (a : Nat) (b : Nat) (dn : Bool) (n : Nat) (oc : Nat) (le : Nat) (ll : Int64) (li : Int64) (lc : Nat) (kc : Nat) (rp : Int32) (j : Nat) (hj : j < 3) (hf : pf j = some h) (hdn : dn = true) : mt_I l mn_O_state bc_O_state 2 (some .int) ({ frames := 2, cells := 0, slots := 0, locals := 41 }) (dC, dI) (TYS cI cJ cZ cP) sz [.ref o0, .int (nI j)] [zO o0 oa i0 m0 nn, (oa, .inl (cP, 3, .inr (.inr (.inr (.inr pf))))), zP h a b dn n oc le ll li lc kc rp] [zO o0 oa i0 m0 nn, (oa, .inl (cP, 3, .inr (.inr (.inr (.inr pf))))), zP h a b dn n oc le ll li lc kc rp] (nI 0) 0 0 := by
  unfold mt_I
  refine Met.ofW (cc := bc_O_state) (maxL := 2) (ret := (some .int)) (by decide) rfl ?_
  intro p e s m args below meth c s₁ B hml hv
  obtain ⟨rfl, hsz, hP, hK, hD0⟩ := hv
  have hx := B.exec
  have hb := B.bytes
  have hr := B.returns
  have hts := atoms_spec (ws := wsT mn_O_state bc_O_state 2 (some .int)) B.pre
  have htb : ∀ w ∈ gtbl, w.before _ s = true := fun w h => hts w (List.mem_cons_of_mem _ h)
  have hown : s.vm.findClass cn_O = some m.cls := findClass_of_methodNamed B.named
  have hlocks := B.notSynchronized
  subst hsz
  have hD := hD0.self (sz := s.heap.size)
  generalize hAe : va_A [zO o0 oa i0 m0 nn, (oa, .inl (cP, 3, .inr (.inr (.inr (.inr pf))))), zP h a b dn n oc le ll li lc kc rp] s.heap.size = A at hD ⊢
  have hA : ∀ q : Nat, s.heap.size ≤ q → A q := fun q h => by rw [← hAe]; exact Or.inr h
  have hS : va_S A s.heap s.heap [] := va_S.rf
  have hP : va_P (dC, dI) clsL [zO o0 oa i0 m0 nn, (oa, .inl (cP, 3, .inr (.inr (.inr (.inr pf))))), zP h a b dn n oc le ll li lc kc rp] s.heap := hP
  have hl := lv_entry ([.ref o0, .int (nI j)]) (n := 2) (Nat.le_of_ble_eq_true rfl)
  rw [lg_entry_eq]
  generalize (lg_sl ([.ref o0, .int (nI j)]) ++ List.replicate (2 - (lg_sl ([.ref o0, .int (nI j)])).length) Slot.unset).toArray = ls at hl ⊢
  have hl : lv_has ls 2 [(0, .ref o0), (1, .int (nI j))] := hl
  refine lv_aload_n hx hb dc_O_state_0 rfl (lv_at hl 0 rfl) ?_
  refine lv_iload_n hx hb dc_O_state_1 rfl (lv_at hl 1 rfl) ?_
  refine cl_i (wc := [zO o0 oa i0 m0 nn, (oa, .inl (cP, 3, .inr (.inr (.inr (.inr pf))))), zP h a b dn n oc le ll li lc kc rp]) (wr := []) (w1 := [zO o0 oa i0 m0 nn, (oa, .inl (cP, 3, .inr (.inr (.inr (.inr pf))))), zP h a b dn n oc le ll li lc kc rp]) hP hD hS hA [0, 1, 2] [] rfl rfl (by decide) (by decide) (va_runV (As := [.int (nI j)]) (rest := []) ⟨hx, hb, hml, hown, htb⟩ (oc_O_isUp l dC dI cI cJ cZ cP _ o0 oa i0 m0 nn pf h a b dn n oc le ll li lc kc rp j (by first | assumption | omega) (by first | assumption | omega)) (cwV 1 htb (gw_V kw_246 kw_248 kp_7 kw_1 kw_249) rfl rfl rfl (by decide +kernel) ⟨Nat.le_of_ble_eq_true rfl, Nat.le_of_ble_eq_true rfl⟩) (pr_V hP hK hD (va_recv hK hP (ci := 3) (q0 := 0) rfl rfl) [0, 1, 2] (by decide) rfl rfl) rfl rfl hl.1 rfl (lv_room (Nat.le_of_ble_eq_true rfl)) dc_O_state_2 ⟨Nat.le_of_ble_eq_true rfl, Nat.le_of_ble_eq_true rfl⟩) (fun H locs hP hD hS => ?_)
  have hP : va_P (dC, dI) clsL [zO o0 oa i0 m0 nn, (oa, .inl (cP, 3, .inr (.inr (.inr (.inr pf))))), zP h a b dn n oc le ll li lc kc rp] H := hP.sub (ws' := [zO o0 oa i0 m0 nn, (oa, .inl (cP, 3, .inr (.inr (.inr (.inr pf))))), zP h a b dn n oc le ll li lc kc rp]) [0, 1, 2] rfl
  have hD : va_D A [zO o0 oa i0 m0 nn, (oa, .inl (cP, 3, .inr (.inr (.inr (.inr pf))))), zP h a b dn n oc le ll li lc kc rp] := hD.sub (ws' := [zO o0 oa i0 m0 nn, (oa, .inl (cP, 3, .inr (.inr (.inr (.inr pf))))), zP h a b dn n oc le ll li lc kc rp]) [0, 1, 2] (by decide) rfl
  refine lv_if_eq (tgt := 21) hx hb dc_O_state_5 (by decide) (fun hc => ?_) (fun hc => ?_)
  rotate_left
  · have h1 : (!dn) = true := bI_n0.mp hc
    exact absurd h1 (by rw [hdn]; decide)
  have h1 : (!dn) = false := bI_0.mp hc
  refine lv_iconst (v := nI 0) hx hb dc_O_state_21 (by decide) ?_
  have hP9 := hP.sub (ws' := [zO o0 oa i0 m0 nn, (oa, .inl (cP, 3, .inr (.inr (.inr (.inr pf))))), zP h a b dn n oc le ll li lc kc rp]) [0, 1, 2] rfl
  have hD9 := hD.sub (ws' := [zO o0 oa i0 m0 nn, (oa, .inl (cP, 3, .inr (.inr (.inr (.inr pf))))), zP h a b dn n oc le ll li lc kc rp]) [0, 1, 2] (by decide) rfl
  exact W.iret (v := nI 0) hx hb hr (fun t ht hW => ⟨⟨_, (), rfl, rfl, by rw [ht]; exact hP9, va_K.moved hW.alike hK, hD9⟩, hS.F ht⟩) hS.2.2 dc_O_state_22

set_option maxHeartbeats 4000000 in
set_option maxRecDepth 100000 in
theorem oc_O_state (l : Launch) (dC : Nat → ClassId) (dI : Nat → Nat → Nat) (cI cJ cZ cP : ClassId) (sz : Nat) (o0 : Nat) (oa : Nat) (i0 : Nat) (m0 : Nat) (nn : Nat) (pf : Nat → Option Nat) (h : Nat) (a : Nat) (b : Nat) (dn : Bool) (n : Nat) (oc : Nat) (le : Nat) (ll : Int64) (li : Int64) (lc : Nat) (kc : Nat) (rp : Int32) (i1 : Nat) (i2 : Nat) (i3 : Nat) (i4 : Nat) (cn : Nat) (sS : Int64) (lS : Int64) (rS : Int64) (ch : Nat → Nat) (sv : Nat → Int32) (j : Nat) (hj : j < 3) (hf : pf j = some h) (hdn : dn = false) (hn : n ≤ 40) (hch : ∀ k, k < n → ch k < 40) : mt_I l mn_O_state bc_O_state 2 (some .int) ({ frames := 2, cells := 0, slots := 0, locals := 41 }) (dC, dI) (TYS cI cJ cZ cP) sz [.ref o0, .int (nI j)] [zO o0 oa i0 m0 nn, (oa, .inl (cP, 3, .inr (.inr (.inr (.inr pf))))), zP h a b dn n oc le ll li lc kc rp, (a, .inl (cI, 40, .inl (nF ch))), zI i0 i1 i2 i3 i4 cn sS lS rS, (i1, .inl (cI, 40, .inl sv))] [zO o0 oa i0 m0 nn, (oa, .inl (cP, 3, .inr (.inr (.inr (.inr pf))))), zP h a b dn n oc le ll li lc kc rp, (a, .inl (cI, 40, .inl (nF ch))), zI i0 i1 i2 i3 i4 cn sS lS rS, (i1, .inl (cI, 40, .inl sv))] ((sae sv ch n)) 0 0 := by
  unfold mt_I
  refine Met.ofW (cc := bc_O_state) (maxL := 2) (ret := (some .int)) (by decide) rfl ?_
  intro p e s m args below meth c s₁ B hml hv
  obtain ⟨rfl, hsz, hP, hK, hD0⟩ := hv
  have hx := B.exec
  have hb := B.bytes
  have hr := B.returns
  have hts := atoms_spec (ws := wsT mn_O_state bc_O_state 2 (some .int)) B.pre
  have htb : ∀ w ∈ gtbl, w.before _ s = true := fun w h => hts w (List.mem_cons_of_mem _ h)
  have hown : s.vm.findClass cn_O = some m.cls := findClass_of_methodNamed B.named
  have hlocks := B.notSynchronized
  subst hsz
  have hD := hD0.self (sz := s.heap.size)
  generalize hAe : va_A [zO o0 oa i0 m0 nn, (oa, .inl (cP, 3, .inr (.inr (.inr (.inr pf))))), zP h a b dn n oc le ll li lc kc rp, (a, .inl (cI, 40, .inl (nF ch))), zI i0 i1 i2 i3 i4 cn sS lS rS, (i1, .inl (cI, 40, .inl sv))] s.heap.size = A at hD ⊢
  have hA : ∀ q : Nat, s.heap.size ≤ q → A q := fun q h => by rw [← hAe]; exact Or.inr h
  have hS : va_S A s.heap s.heap [] := va_S.rf
  have hP : va_P (dC, dI) clsL [zO o0 oa i0 m0 nn, (oa, .inl (cP, 3, .inr (.inr (.inr (.inr pf))))), zP h a b dn n oc le ll li lc kc rp, (a, .inl (cI, 40, .inl (nF ch))), zI i0 i1 i2 i3 i4 cn sS lS rS, (i1, .inl (cI, 40, .inl sv))] s.heap := hP
  have hl := lv_entry ([.ref o0, .int (nI j)]) (n := 2) (Nat.le_of_ble_eq_true rfl)
  rw [lg_entry_eq]
  generalize (lg_sl ([.ref o0, .int (nI j)]) ++ List.replicate (2 - (lg_sl ([.ref o0, .int (nI j)])).length) Slot.unset).toArray = ls at hl ⊢
  have hl : lv_has ls 2 [(0, .ref o0), (1, .int (nI j))] := hl
  refine lv_aload_n hx hb dc_O_state_0 rfl (lv_at hl 0 rfl) ?_
  refine lv_iload_n hx hb dc_O_state_1 rfl (lv_at hl 1 rfl) ?_
  refine cl_i (wc := [zO o0 oa i0 m0 nn, (oa, .inl (cP, 3, .inr (.inr (.inr (.inr pf))))), zP h a b dn n oc le ll li lc kc rp]) (wr := [(a, .inl (cI, 40, .inl (nF ch))), zI i0 i1 i2 i3 i4 cn sS lS rS, (i1, .inl (cI, 40, .inl sv))]) (w1 := [zO o0 oa i0 m0 nn, (oa, .inl (cP, 3, .inr (.inr (.inr (.inr pf))))), zP h a b dn n oc le ll li lc kc rp]) hP hD hS hA [0, 1, 2] [3, 4, 5] rfl rfl (by decide) (by decide) (va_runV (As := [.int (nI j)]) (rest := []) ⟨hx, hb, hml, hown, htb⟩ (oc_O_isUp l dC dI cI cJ cZ cP _ o0 oa i0 m0 nn pf h a b dn n oc le ll li lc kc rp j (by first | assumption | omega) (by first | assumption | omega)) (cwV 1 htb (gw_V kw_246 kw_248 kp_7 kw_1 kw_249) rfl rfl rfl (by decide +kernel) ⟨Nat.le_of_ble_eq_true rfl, Nat.le_of_ble_eq_true rfl⟩) (pr_V hP hK hD (va_recv hK hP (ci := 3) (q0 := 0) rfl rfl) [0, 1, 2] (by decide) rfl rfl) rfl rfl hl.1 rfl (lv_room (Nat.le_of_ble_eq_true rfl)) dc_O_state_2 ⟨Nat.le_of_ble_eq_true rfl, Nat.le_of_ble_eq_true rfl⟩) (fun H locs hP hD hS => ?_)
  have hP : va_P (dC, dI) clsL [zO o0 oa i0 m0 nn, (oa, .inl (cP, 3, .inr (.inr (.inr (.inr pf))))), zP h a b dn n oc le ll li lc kc rp, (a, .inl (cI, 40, .inl (nF ch))), zI i0 i1 i2 i3 i4 cn sS lS rS, (i1, .inl (cI, 40, .inl sv))] H := hP.sub (ws' := [zO o0 oa i0 m0 nn, (oa, .inl (cP, 3, .inr (.inr (.inr (.inr pf))))), zP h a b dn n oc le ll li lc kc rp, (a, .inl (cI, 40, .inl (nF ch))), zI i0 i1 i2 i3 i4 cn sS lS rS, (i1, .inl (cI, 40, .inl sv))]) [3, 4, 5, 0, 1, 2] rfl
  have hD : va_D A [zO o0 oa i0 m0 nn, (oa, .inl (cP, 3, .inr (.inr (.inr (.inr pf))))), zP h a b dn n oc le ll li lc kc rp, (a, .inl (cI, 40, .inl (nF ch))), zI i0 i1 i2 i3 i4 cn sS lS rS, (i1, .inl (cI, 40, .inl sv))] := hD.sub (ws' := [zO o0 oa i0 m0 nn, (oa, .inl (cP, 3, .inr (.inr (.inr (.inr pf))))), zP h a b dn n oc le ll li lc kc rp, (a, .inl (cI, 40, .inl (nF ch))), zI i0 i1 i2 i3 i4 cn sS lS rS, (i1, .inl (cI, 40, .inl sv))]) [3, 4, 5, 0, 1, 2] (by decide) rfl
  refine lv_if_eq (tgt := 21) hx hb dc_O_state_5 (by decide) (fun hc => ?_) (fun hc => ?_)
  · have h1 : (!dn) = false := bI_0.mp hc
    exact absurd h1 (by rw [hdn]; decide)
  have h1 : (!dn) = true := bI_n0.mp hc
  refine lv_aload_n hx hb dc_O_state_8 rfl (lv_at hl 0 rfl) ?_
  refine lv_aload_n hx hb dc_O_state_9 rfl (lv_at hl 0 rfl) ?_
  refine va_get (D := (dC, dI)) (ci := 3) (v := .ref oa) (C := cn_O) (T := ft_O) (N := 4) hx hb htb ki_O hown hK hP 0 rfl rfl 0 (by decide) (htb _ kw_139) (fun _ h9 => h9) rfl dc_O_state_10 ?_
  refine lv_iload_n hx hb dc_O_state_13 rfl (lv_at hl 1 rfl) ?_
  refine wa_ald hx hb hK hP 1 3 rfl rfl (k := j) (by omega) (by omega) (v := h) (hf) dc_O_state_14 ?_
  refine cl_i (wc := [zO o0 oa i0 m0 nn, zP h a b dn n oc le ll li lc kc rp, (a, .inl (cI, 40, .inl (nF ch))), zI i0 i1 i2 i3 i4 cn sS lS rS, (i1, .inl (cI, 40, .inl sv))]) (wr := [(oa, .inl (cP, 3, .inr (.inr (.inr (.inr pf)))))]) (w1 := [zO o0 oa i0 m0 nn, zP h a b dn n oc le ll li lc kc rp, (a, .inl (cI, 40, .inl (nF ch))), zI i0 i1 i2 i3 i4 cn sS lS rS, (i1, .inl (cI, 40, .inl sv))]) hP hD hS hA [0, 2, 3, 4, 5] [1] rfl rfl (by decide) (by decide) (va_runV (As := [.ref h]) (rest := []) ⟨hx, hb, hml, hown, htb⟩ (oc_O_stateAtEnd l dC dI cI cJ cZ cP _ o0 oa i0 m0 nn h a b dn n oc le ll li lc kc rp i1 i2 i3 i4 cn sS lS rS ch sv (by first | assumption | omega) (by first | assumption | omega)) (cwV 1 htb (gw_V kw_203 kw_205 kp_3 kw_1 kw_206) rfl rfl rfl (by decide +kernel) ⟨Nat.le_of_ble_eq_true rfl, Nat.le_of_ble_eq_true rfl⟩) (pr_V hP hK hD (va_recv hK hP (ci := 3) (q0 := 0) rfl rfl) [0, 2, 3, 4, 5] (by decide) rfl rfl) rfl rfl hl.1 rfl (lv_room (Nat.le_of_ble_eq_true rfl)) dc_O_state_15 ⟨Nat.le_of_ble_eq_true rfl, Nat.le_of_ble_eq_true rfl⟩) (fun H locs hP hD hS => ?_)
  have hP : va_P (dC, dI) clsL [zO o0 oa i0 m0 nn, (oa, .inl (cP, 3, .inr (.inr (.inr (.inr pf))))), zP h a b dn n oc le ll li lc kc rp, (a, .inl (cI, 40, .inl (nF ch))), zI i0 i1 i2 i3 i4 cn sS lS rS, (i1, .inl (cI, 40, .inl sv))] H := hP.sub (ws' := [zO o0 oa i0 m0 nn, (oa, .inl (cP, 3, .inr (.inr (.inr (.inr pf))))), zP h a b dn n oc le ll li lc kc rp, (a, .inl (cI, 40, .inl (nF ch))), zI i0 i1 i2 i3 i4 cn sS lS rS, (i1, .inl (cI, 40, .inl sv))]) [1, 0, 2, 3, 4, 5] rfl
  have hD : va_D A [zO o0 oa i0 m0 nn, (oa, .inl (cP, 3, .inr (.inr (.inr (.inr pf))))), zP h a b dn n oc le ll li lc kc rp, (a, .inl (cI, 40, .inl (nF ch))), zI i0 i1 i2 i3 i4 cn sS lS rS, (i1, .inl (cI, 40, .inl sv))] := hD.sub (ws' := [zO o0 oa i0 m0 nn, (oa, .inl (cP, 3, .inr (.inr (.inr (.inr pf))))), zP h a b dn n oc le ll li lc kc rp, (a, .inl (cI, 40, .inl (nF ch))), zI i0 i1 i2 i3 i4 cn sS lS rS, (i1, .inl (cI, 40, .inl sv))]) [1, 0, 2, 3, 4, 5] (by decide) rfl
  refine lv_goto (tgt := 22) hx hb dc_O_state_18 (by decide) ?_
  have hP9 := hP.sub (ws' := [zO o0 oa i0 m0 nn, (oa, .inl (cP, 3, .inr (.inr (.inr (.inr pf))))), zP h a b dn n oc le ll li lc kc rp, (a, .inl (cI, 40, .inl (nF ch))), zI i0 i1 i2 i3 i4 cn sS lS rS, (i1, .inl (cI, 40, .inl sv))]) [0, 1, 2, 3, 4, 5] rfl
  have hD9 := hD.sub (ws' := [zO o0 oa i0 m0 nn, (oa, .inl (cP, 3, .inr (.inr (.inr (.inr pf))))), zP h a b dn n oc le ll li lc kc rp, (a, .inl (cI, 40, .inl (nF ch))), zI i0 i1 i2 i3 i4 cn sS lS rS, (i1, .inl (cI, 40, .inl sv))]) [0, 1, 2, 3, 4, 5] (by decide) rfl
  exact W.iret (v := (sae sv ch n)) hx hb hr (fun t ht hW => ⟨⟨_, (), rfl, rfl, by rw [ht]; exact hP9, va_K.moved hW.alike hK, hD9⟩, hS.F ht⟩) hS.2.2 dc_O_state_22

set_option maxHeartbeats 4000000 in
set_option maxRecDepth 100000 in
theorem oc_O_flush_no (l : Launch) (dC : Nat → ClassId) (dI : Nat → Nat → Nat) (cI cJ cZ cP : ClassId) (sz : Nat) (o0 : Nat) (oa : Nat) (i0 : Nat) (m0 : Nat) (nn : Nat) (y : Int32) (hy : y < 0 ∨ nI 3 ≤ y) : mt_I l mn_O_flush bc_O_flush 2 (some .int) ({ frames := 2, cells := 0, slots := 0, locals := 41 }) (dC, dI) (TYS cI cJ cZ cP) sz [.ref o0, .int y] [zO o0 oa i0 m0 nn] [zO o0 oa i0 m0 nn] ((-1)) 0 0 := by
  unfold mt_I
  refine Met.ofW (cc := bc_O_flush) (maxL := 2) (ret := (some .int)) (by decide) rfl ?_
  intro p e s m args below meth c s₁ B hml hv
  obtain ⟨rfl, hsz, hP, hK, hD0⟩ := hv
  have hx := B.exec
  have hb := B.bytes
  have hr := B.returns
  have hts := atoms_spec (ws := wsT mn_O_flush bc_O_flush 2 (some .int)) B.pre
  have htb : ∀ w ∈ gtbl, w.before _ s = true := fun w h => hts w (List.mem_cons_of_mem _ h)
  have hown : s.vm.findClass cn_O = some m.cls := findClass_of_methodNamed B.named
  have hlocks := B.notSynchronized
  subst hsz
  have hD := hD0.self (sz := s.heap.size)
  generalize hAe : va_A [zO o0 oa i0 m0 nn] s.heap.size = A at hD ⊢
  have hA : ∀ q : Nat, s.heap.size ≤ q → A q := fun q h => by rw [← hAe]; exact Or.inr h
  have hS : va_S A s.heap s.heap [] := va_S.rf
  have hP : va_P (dC, dI) clsL [zO o0 oa i0 m0 nn] s.heap := hP
  have hl := lv_entry ([.ref o0, .int y]) (n := 2) (Nat.le_of_ble_eq_true rfl)
  rw [lg_entry_eq]
  generalize (lg_sl ([.ref o0, .int y]) ++ List.replicate (2 - (lg_sl ([.ref o0, .int y])).length) Slot.unset).toArray = ls at hl ⊢
  have hl : lv_has ls 2 [(0, .ref o0), (1, .int y)] := hl
  refine lv_aload_n hx hb dc_O_flush_0 rfl (lv_at hl 0 rfl) ?_
  refine lv_iload_n hx hb dc_O_flush_1 rfl (lv_at hl 1 rfl) ?_
  refine cl_i (wc := [zO o0 oa i0 m0 nn]) (wr := []) (w1 := [zO o0 oa i0 m0 nn]) hP hD hS hA [0] [] rfl rfl (by decide) (by decide) (va_runV (As := [.int y]) (rest := []) ⟨hx, hb, hml, hown, htb⟩ (oc_O_isUp_no l dC dI cI cJ cZ cP _ o0 oa i0 m0 nn y (by first | assumption | omega)) (cwV 1 htb (gw_V kw_246 kw_248 kp_7 kw_1 kw_249) rfl rfl rfl (by decide +kernel) ⟨Nat.le_of_ble_eq_true rfl, Nat.le_of_ble_eq_true rfl⟩) (pr_V hP hK hD (va_recv hK hP (ci := 3) (q0 := 0) rfl rfl) [0] (by decide) rfl rfl) rfl rfl hl.1 rfl (lv_room (Nat.le_of_ble_eq_true rfl)) dc_O_flush_2 ⟨Nat.le_of_ble_eq_true rfl, Nat.le_of_ble_eq_true rfl⟩) (fun H locs hP hD hS => ?_)
  have hP : va_P (dC, dI) clsL [zO o0 oa i0 m0 nn] H := hP.sub (ws' := [zO o0 oa i0 m0 nn]) [0] rfl
  have hD : va_D A [zO o0 oa i0 m0 nn] := hD.sub (ws' := [zO o0 oa i0 m0 nn]) [0] (by decide) rfl
  refine lv_if_ne (tgt := 10) hx hb dc_O_flush_5 (by decide) (fun hc => ?_) (fun hc => ?_)
  · have h1 : false = true := bI_n0.mp hc
    exact absurd h1 (by decide)
  have h1 : false = false := bI_0.mp hc
  refine lv_iconst (v := (-1)) hx hb dc_O_flush_8 (by decide) ?_
  have hP9 := hP.sub (ws' := [zO o0 oa i0 m0 nn]) [0] rfl
  have hD9 := hD.sub (ws' := [zO o0 oa i0 m0 nn]) [0] (by decide) rfl
  exact W.iret (v := (-1)) hx hb hr (fun t ht hW => ⟨⟨_, (), rfl, rfl, by rw [ht]; exact hP9, va_K.moved hW.alike hK, hD9⟩, hS.F ht⟩) hS.2.2 dc_O_flush_9

set_option maxHeartbeats 4000000 in
set_option maxRecDepth 100000 in
theorem oc_O_flush_dn (l : Launch) (dC : Nat → ClassId) (dI : Nat → Nat → Nat) (cI cJ cZ cP : ClassId) (sz : Nat) (o0 : Nat) (oa : Nat) (i0 : Nat) (m0 : Nat) (nn : Nat) (pf : Nat → Option Nat) (h : Nat) (a : Nat) (b : Nat) (dn : Bool) (n : Nat) (oc : Nat) (le : Nat) (ll : Int64) (li : Int64) (lc : Nat) (kc : Nat) (rp : Int32) (j : Nat) (hj : j < 3) (hf : pf j = some h) (hdn : dn = true) : mt_I l mn_O_flush bc_O_flush 2 (some .int) ({ frames := 2, cells := 0, slots := 0, locals := 41 }) (dC, dI) (TYS cI cJ cZ cP) sz [.ref o0, .int (nI j)] [zO o0 oa i0 m0 nn, (oa, .inl (cP, 3, .inr (.inr (.inr (.inr pf))))), zP h a b dn n oc le ll li lc kc rp] [zO o0 oa i0 m0 nn, (oa, .inl (cP, 3, .inr (.inr (.inr (.inr pf))))), zP h a b dn n oc le ll li lc kc rp] ((-1)) 0 0 := by
  unfold mt_I
  refine Met.ofW (cc := bc_O_flush) (maxL := 2) (ret := (some .int)) (by decide) rfl ?_
  intro p e s m args below meth c s₁ B hml hv
  obtain ⟨rfl, hsz, hP, hK, hD0⟩ := hv
  have hx := B.exec
  have hb := B.bytes
  have hr := B.returns
  have hts := atoms_spec (ws := wsT mn_O_flush bc_O_flush 2 (some .int)) B.pre
  have htb : ∀ w ∈ gtbl, w.before _ s = true := fun w h => hts w (List.mem_cons_of_mem _ h)
  have hown : s.vm.findClass cn_O = some m.cls := findClass_of_methodNamed B.named
  have hlocks := B.notSynchronized
  subst hsz
  have hD := hD0.self (sz := s.heap.size)
  generalize hAe : va_A [zO o0 oa i0 m0 nn, (oa, .inl (cP, 3, .inr (.inr (.inr (.inr pf))))), zP h a b dn n oc le ll li lc kc rp] s.heap.size = A at hD ⊢
  have hA : ∀ q : Nat, s.heap.size ≤ q → A q := fun q h => by rw [← hAe]; exact Or.inr h
  have hS : va_S A s.heap s.heap [] := va_S.rf
  have hP : va_P (dC, dI) clsL [zO o0 oa i0 m0 nn, (oa, .inl (cP, 3, .inr (.inr (.inr (.inr pf))))), zP h a b dn n oc le ll li lc kc rp] s.heap := hP
  have hl := lv_entry ([.ref o0, .int (nI j)]) (n := 2) (Nat.le_of_ble_eq_true rfl)
  rw [lg_entry_eq]
  generalize (lg_sl ([.ref o0, .int (nI j)]) ++ List.replicate (2 - (lg_sl ([.ref o0, .int (nI j)])).length) Slot.unset).toArray = ls at hl ⊢
  have hl : lv_has ls 2 [(0, .ref o0), (1, .int (nI j))] := hl
  refine lv_aload_n hx hb dc_O_flush_0 rfl (lv_at hl 0 rfl) ?_
  refine lv_iload_n hx hb dc_O_flush_1 rfl (lv_at hl 1 rfl) ?_
  refine cl_i (wc := [zO o0 oa i0 m0 nn, (oa, .inl (cP, 3, .inr (.inr (.inr (.inr pf))))), zP h a b dn n oc le ll li lc kc rp]) (wr := []) (w1 := [zO o0 oa i0 m0 nn, (oa, .inl (cP, 3, .inr (.inr (.inr (.inr pf))))), zP h a b dn n oc le ll li lc kc rp]) hP hD hS hA [0, 1, 2] [] rfl rfl (by decide) (by decide) (va_runV (As := [.int (nI j)]) (rest := []) ⟨hx, hb, hml, hown, htb⟩ (oc_O_isUp l dC dI cI cJ cZ cP _ o0 oa i0 m0 nn pf h a b dn n oc le ll li lc kc rp j (by first | assumption | omega) (by first | assumption | omega)) (cwV 1 htb (gw_V kw_246 kw_248 kp_7 kw_1 kw_249) rfl rfl rfl (by decide +kernel) ⟨Nat.le_of_ble_eq_true rfl, Nat.le_of_ble_eq_true rfl⟩) (pr_V hP hK hD (va_recv hK hP (ci := 3) (q0 := 0) rfl rfl) [0, 1, 2] (by decide) rfl rfl) rfl rfl hl.1 rfl (lv_room (Nat.le_of_ble_eq_true rfl)) dc_O_flush_2 ⟨Nat.le_of_ble_eq_true rfl, Nat.le_of_ble_eq_true rfl⟩) (fun H locs hP hD hS => ?_)
  have hP : va_P (dC, dI) clsL [zO o0 oa i0 m0 nn, (oa, .inl (cP, 3, .inr (.inr (.inr (.inr pf))))), zP h a b dn n oc le ll li lc kc rp] H := hP.sub (ws' := [zO o0 oa i0 m0 nn, (oa, .inl (cP, 3, .inr (.inr (.inr (.inr pf))))), zP h a b dn n oc le ll li lc kc rp]) [0, 1, 2] rfl
  have hD : va_D A [zO o0 oa i0 m0 nn, (oa, .inl (cP, 3, .inr (.inr (.inr (.inr pf))))), zP h a b dn n oc le ll li lc kc rp] := hD.sub (ws' := [zO o0 oa i0 m0 nn, (oa, .inl (cP, 3, .inr (.inr (.inr (.inr pf))))), zP h a b dn n oc le ll li lc kc rp]) [0, 1, 2] (by decide) rfl
  refine lv_if_ne (tgt := 10) hx hb dc_O_flush_5 (by decide) (fun hc => ?_) (fun hc => ?_)
  · have h1 : (!dn) = true := bI_n0.mp hc
    exact absurd h1 (by rw [hdn]; decide)
  have h1 : (!dn) = false := bI_0.mp hc
  refine lv_iconst (v := (-1)) hx hb dc_O_flush_8 (by decide) ?_
  have hP9 := hP.sub (ws' := [zO o0 oa i0 m0 nn, (oa, .inl (cP, 3, .inr (.inr (.inr (.inr pf))))), zP h a b dn n oc le ll li lc kc rp]) [0, 1, 2] rfl
  have hD9 := hD.sub (ws' := [zO o0 oa i0 m0 nn, (oa, .inl (cP, 3, .inr (.inr (.inr (.inr pf))))), zP h a b dn n oc le ll li lc kc rp]) [0, 1, 2] (by decide) rfl
  exact W.iret (v := (-1)) hx hb hr (fun t ht hW => ⟨⟨_, (), rfl, rfl, by rw [ht]; exact hP9, va_K.moved hW.alike hK, hD9⟩, hS.F ht⟩) hS.2.2 dc_O_flush_9

set_option maxHeartbeats 4000000 in
set_option maxRecDepth 100000 in
theorem oc_O_flush (l : Launch) (dC : Nat → ClassId) (dI : Nat → Nat → Nat) (cI cJ cZ cP : ClassId) (sz : Nat) (o0 : Nat) (oa : Nat) (i0 : Nat) (m0 : Nat) (nn : Nat) (pf : Nat → Option Nat) (h : Nat) (a : Nat) (b : Nat) (dn : Bool) (n : Nat) (oc : Nat) (le : Nat) (ll : Int64) (li : Int64) (lc : Nat) (kc : Nat) (rp : Int32) (i1 : Nat) (i2 : Nat) (i3 : Nat) (i4 : Nat) (cn : Nat) (sS : Int64) (lS : Int64) (rS : Int64) (ch : Nat → Nat) (j : Nat) (hj : j < 3) (hf : pf j = some h) (hdn : dn = false) (hn : n ≤ 40) : mt_I l mn_O_flush bc_O_flush 2 (some .int) ({ frames := 2, cells := 0, slots := 0, locals := 46 }) (dC, dI) (TYS cI cJ cZ cP) sz [.ref o0, .int (nI j)] [zO o0 oa i0 m0 nn, (oa, .inl (cP, 3, .inr (.inr (.inr (.inr pf))))), zP h a b dn n oc le ll li lc kc rp, (a, .inl (cI, 40, .inl (nF ch))), zI i0 i1 i2 i3 i4 cn sS lS rS] [zO o0 oa i0 m0 nn, (oa, .inl (cP, 3, .inr (.inr (.inr (.inr pf))))), zP h a b dn n oc le ll li lc kc rp, (a, .inl (cI, 40, .inl (nF ch))), zI i0 i1 i2 i3 i4 cn (sS ||| ((cs_set ch n) &&& (sS ^^^ (-1)))) lS rS] (nI (pc64 ((cs_set ch n) &&& (sS ^^^ (-1))))) 0 0 := by
  unfold mt_I
  refine Met.ofW (cc := bc_O_flush) (maxL := 2) (ret := (some .int)) (by decide) rfl ?_
  intro p e s m args below meth c s₁ B hml hv
  obtain ⟨rfl, hsz, hP, hK, hD0⟩ := hv
  have hx := B.exec
  have hb := B.bytes
  have hr := B.returns
  have hts := atoms_spec (ws := wsT mn_O_flush bc_O_flush 2 (some .int)) B.pre
  have htb : ∀ w ∈ gtbl, w.before _ s = true := fun w h => hts w (List.mem_cons_of_mem _ h)
  have hown : s.vm.findClass cn_O = some m.cls := findClass_of_methodNamed B.named
  have hlocks := B.notSynchronized
  subst hsz
  have hD := hD0.self (sz := s.heap.size)
  generalize hAe : va_A [zO o0 oa i0 m0 nn, (oa, .inl (cP, 3, .inr (.inr (.inr (.inr pf))))), zP h a b dn n oc le ll li lc kc rp, (a, .inl (cI, 40, .inl (nF ch))), zI i0 i1 i2 i3 i4 cn sS lS rS] s.heap.size = A at hD ⊢
  have hA : ∀ q : Nat, s.heap.size ≤ q → A q := fun q h => by rw [← hAe]; exact Or.inr h
  have hS : va_S A s.heap s.heap [] := va_S.rf
  have hP : va_P (dC, dI) clsL [zO o0 oa i0 m0 nn, (oa, .inl (cP, 3, .inr (.inr (.inr (.inr pf))))), zP h a b dn n oc le ll li lc kc rp, (a, .inl (cI, 40, .inl (nF ch))), zI i0 i1 i2 i3 i4 cn sS lS rS] s.heap := hP
  have hl := lv_entry ([.ref o0, .int (nI j)]) (n := 2) (Nat.le_of_ble_eq_true rfl)
  rw [lg_entry_eq]
  generalize (lg_sl ([.ref o0, .int (nI j)]) ++ List.replicate (2 - (lg_sl ([.ref o0, .int (nI j)])).length) Slot.unset).toArray = ls at hl ⊢
  have hl : lv_has ls 2 [(0, .ref o0), (1, .int (nI j))] := hl
  refine lv_aload_n hx hb dc_O_flush_0 rfl (lv_at hl 0 rfl) ?_
  refine lv_iload_n hx hb dc_O_flush_1 rfl (lv_at hl 1 rfl) ?_
  refine cl_i (wc := [zO o0 oa i0 m0 nn, (oa, .inl (cP, 3, .inr (.inr (.inr (.inr pf))))), zP h a b dn n oc le ll li lc kc rp]) (wr := [(a, .inl (cI, 40, .inl (nF ch))), zI i0 i1 i2 i3 i4 cn sS lS rS]) (w1 := [zO o0 oa i0 m0 nn, (oa, .inl (cP, 3, .inr (.inr (.inr (.inr pf))))), zP h a b dn n oc le ll li lc kc rp]) hP hD hS hA [0, 1, 2] [3, 4] rfl rfl (by decide) (by decide) (va_runV (As := [.int (nI j)]) (rest := []) ⟨hx, hb, hml, hown, htb⟩ (oc_O_isUp l dC dI cI cJ cZ cP _ o0 oa i0 m0 nn pf h a b dn n oc le ll li lc kc rp j (by first | assumption | omega) (by first | assumption | omega)) (cwV 1 htb (gw_V kw_246 kw_248 kp_7 kw_1 kw_249) rfl rfl rfl (by decide +kernel) ⟨Nat.le_of_ble_eq_true rfl, Nat.le_of_ble_eq_true rfl⟩) (pr_V hP hK hD (va_recv hK hP (ci := 3) (q0 := 0) rfl rfl) [0, 1, 2] (by decide) rfl rfl) rfl rfl hl.1 rfl (lv_room (Nat.le_of_ble_eq_true rfl)) dc_O_flush_2 ⟨Nat.le_of_ble_eq_true rfl, Nat.le_of_ble_eq_true rfl⟩) (fun H locs hP hD hS => ?_)
  have hP : va_P (dC, dI) clsL [zO o0 oa i0 m0 nn, (oa, .inl (cP, 3, .inr (.inr (.inr (.inr pf))))), zP h a b dn n oc le ll li lc kc rp, (a, .inl (cI, 40, .inl (nF ch))), zI i0 i1 i2 i3 i4 cn sS lS rS] H := hP.sub (ws' := [zO o0 oa i0 m0 nn, (oa, .inl (cP, 3, .inr (.inr (.inr (.inr pf))))), zP h a b dn n oc le ll li lc kc rp, (a, .inl (cI, 40, .inl (nF ch))), zI i0 i1 i2 i3 i4 cn sS lS rS]) [2, 3, 4, 0, 1] rfl
  have hD : va_D A [zO o0 oa i0 m0 nn, (oa, .inl (cP, 3, .inr (.inr (.inr (.inr pf))))), zP h a b dn n oc le ll li lc kc rp, (a, .inl (cI, 40, .inl (nF ch))), zI i0 i1 i2 i3 i4 cn sS lS rS] := hD.sub (ws' := [zO o0 oa i0 m0 nn, (oa, .inl (cP, 3, .inr (.inr (.inr (.inr pf))))), zP h a b dn n oc le ll li lc kc rp, (a, .inl (cI, 40, .inl (nF ch))), zI i0 i1 i2 i3 i4 cn sS lS rS]) [2, 3, 4, 0, 1] (by decide) rfl
  refine lv_if_ne (tgt := 10) hx hb dc_O_flush_5 (by decide) (fun hc => ?_) (fun hc => ?_)
  rotate_left
  · have h1 : (!dn) = false := bI_0.mp hc
    exact absurd h1 (by rw [hdn]; decide)
  have h1 : (!dn) = true := bI_n0.mp hc
  refine lv_aload_n hx hb dc_O_flush_10 rfl (lv_at hl 0 rfl) ?_
  refine lv_aload_n hx hb dc_O_flush_11 rfl (lv_at hl 0 rfl) ?_
  refine va_get (D := (dC, dI)) (ci := 3) (v := .ref oa) (C := cn_O) (T := ft_O) (N := 4) hx hb htb ki_O hown hK hP 0 rfl rfl 0 (by decide) (htb _ kw_139) (fun _ h9 => h9) rfl dc_O_flush_12 ?_
  refine lv_iload_n hx hb dc_O_flush_15 rfl (lv_at hl 1 rfl) ?_
  refine wa_ald hx hb hK hP 1 3 rfl rfl (k := j) (by omega) (by omega) (v := h) (hf) dc_O_flush_16 ?_
  refine cl_i (wc := [zO o0 oa i0 m0 nn, zP h a b dn n oc le ll li lc kc rp, (a, .inl (cI, 40, .inl (nF ch))), zI i0 i1 i2 i3 i4 cn sS lS rS]) (wr := [(oa, .inl (cP, 3, .inr (.inr (.inr (.inr pf)))))]) (w1 := [zO o0 oa i0 m0 nn, zP h a b dn n oc le ll li lc kc rp, (a, .inl (cI, 40, .inl (nF ch))), zI i0 i1 i2 i3 i4 cn (sS ||| ((cs_set ch n) &&& (sS ^^^ (-1)))) lS rS]) hP hD hS hA [0, 2, 3, 4] [1] rfl rfl (by decide) (by decide) (va_runV (As := [.ref h]) (rest := []) ⟨hx, hb, hml, hown, htb⟩ (oc_O_makeStable l dC dI cI cJ cZ cP _ o0 oa i0 m0 nn h a b dn n oc le ll li lc kc rp i1 i2 i3 i4 cn sS lS rS ch (by first | assumption | omega)) (cwV 1 htb (gw_V kw_223 kw_225 kp_6 kw_1 kw_226) rfl rfl rfl (by decide +kernel) ⟨Nat.le_of_ble_eq_true rfl, Nat.le_of_ble_eq_true rfl⟩) (pr_V hP hK hD (va_recv hK hP (ci := 3) (q0 := 0) rfl rfl) [0, 2, 3, 4] (by decide) rfl rfl) rfl rfl hl.1 rfl (lv_room (Nat.le_of_ble_eq_true rfl)) dc_O_flush_17 ⟨Nat.le_of_ble_eq_true rfl, Nat.le_of_ble_eq_true rfl⟩) (fun H locs hP hD hS => ?_)
  have hP : va_P (dC, dI) clsL [zO o0 oa i0 m0 nn, (oa, .inl (cP, 3, .inr (.inr (.inr (.inr pf))))), zP h a b dn n oc le ll li lc kc rp, (a, .inl (cI, 40, .inl (nF ch))), zI i0 i1 i2 i3 i4 cn (sS ||| ((cs_set ch n) &&& (sS ^^^ (-1)))) lS rS] H := hP.sub (ws' := [zO o0 oa i0 m0 nn, (oa, .inl (cP, 3, .inr (.inr (.inr (.inr pf))))), zP h a b dn n oc le ll li lc kc rp, (a, .inl (cI, 40, .inl (nF ch))), zI i0 i1 i2 i3 i4 cn (sS ||| ((cs_set ch n) &&& (sS ^^^ (-1)))) lS rS]) [1, 0, 2, 3, 4] rfl
  have hD : va_D A [zO o0 oa i0 m0 nn, (oa, .inl (cP, 3, .inr (.inr (.inr (.inr pf))))), zP h a b dn n oc le ll li lc kc rp, (a, .inl (cI, 40, .inl (nF ch))), zI i0 i1 i2 i3 i4 cn (sS ||| ((cs_set ch n) &&& (sS ^^^ (-1)))) lS rS] := hD.sub (ws' := [zO o0 oa i0 m0 nn, (oa, .inl (cP, 3, .inr (.inr (.inr (.inr pf))))), zP h a b dn n oc le ll li lc kc rp, (a, .inl (cI, 40, .inl (nF ch))), zI i0 i1 i2 i3 i4 cn (sS ||| ((cs_set ch n) &&& (sS ^^^ (-1)))) lS rS]) [1, 0, 2, 3, 4] (by decide) rfl
  have hP9 := hP.sub (ws' := [zO o0 oa i0 m0 nn, (oa, .inl (cP, 3, .inr (.inr (.inr (.inr pf))))), zP h a b dn n oc le ll li lc kc rp, (a, .inl (cI, 40, .inl (nF ch))), zI i0 i1 i2 i3 i4 cn (sS ||| ((cs_set ch n) &&& (sS ^^^ (-1)))) lS rS]) [0, 1, 2, 3, 4] rfl
  have hD9 := hD.sub (ws' := [zO o0 oa i0 m0 nn, (oa, .inl (cP, 3, .inr (.inr (.inr (.inr pf))))), zP h a b dn n oc le ll li lc kc rp, (a, .inl (cI, 40, .inl (nF ch))), zI i0 i1 i2 i3 i4 cn (sS ||| ((cs_set ch n) &&& (sS ^^^ (-1)))) lS rS]) [0, 1, 2, 3, 4] (by decide) rfl
  exact W.iret (v := nI (pc64 ((cs_set ch n) &&& (sS ^^^ (-1))))) hx hb hr (fun t ht hW => ⟨⟨_, (), rfl, rfl, by rw [ht]; exact hP9, va_K.moved hW.alike hK, hD9⟩, hS.F ht⟩) hS.2.2 dc_O_flush_20

set_option maxHeartbeats 4000000 in
set_option maxRecDepth 100000 in
theorem oc_O_checkpoint_no (l : Launch) (dC : Nat → ClassId) (dI : Nat → Nat → Nat) (cI cJ cZ cP : ClassId) (sz : Nat) (o0 : Nat) (oa : Nat) (i0 : Nat) (m0 : Nat) (nn : Nat) (y : Int32) (hy : y < 0 ∨ nI 3 ≤ y) : mt_I l mn_O_checkpoint bc_O_checkpoint 3 (some .int) ({ frames := 2, cells := 0, slots := 0, locals := 41 }) (dC, dI) (TYS cI cJ cZ cP) sz [.ref o0, .int y] [zO o0 oa i0 m0 nn] [zO o0 oa i0 m0 nn] ((-1)) 0 0 := by
  unfold mt_I
  refine Met.ofW (cc := bc_O_checkpoint) (maxL := 3) (ret := (some .int)) (by decide) rfl ?_
  intro p e s m args below meth c s₁ B hml hv
  obtain ⟨rfl, hsz, hP, hK, hD0⟩ := hv
  have hx := B.exec
  have hb := B.bytes
  have hr := B.returns
  have hts := atoms_spec (ws := wsT mn_O_checkpoint bc_O_checkpoint 3 (some .int)) B.pre
  have htb : ∀ w ∈ gtbl, w.before _ s = true := fun w h => hts w (List.mem_cons_of_mem _ h)
  have hown : s.vm.findClass cn_O = some m.cls := findClass_of_methodNamed B.named
  have hlocks := B.notSynchronized
  subst hsz
  have hD := hD0.self (sz := s.heap.size)
  generalize hAe : va_A [zO o0 oa i0 m0 nn] s.heap.size = A at hD ⊢
  have hA : ∀ q : Nat, s.heap.size ≤ q → A q := fun q h => by rw [← hAe]; exact Or.inr h
  have hS : va_S A s.heap s.heap [] := va_S.rf
  have hP : va_P (dC, dI) clsL [zO o0 oa i0 m0 nn] s.heap := hP
  have hl := lv_entry ([.ref o0, .int y]) (n := 3) (Nat.le_of_ble_eq_true rfl)
  rw [lg_entry_eq]
  generalize (lg_sl ([.ref o0, .int y]) ++ List.replicate (3 - (lg_sl ([.ref o0, .int y])).length) Slot.unset).toArray = ls at hl ⊢
  have hl : lv_has ls 3 [(0, .ref o0), (1, .int y)] := hl
  refine lv_aload_n hx hb dc_O_checkpoint_0 rfl (lv_at hl 0 rfl) ?_
  refine lv_iload_n hx hb dc_O_checkpoint_1 rfl (lv_at hl 1 rfl) ?_
  refine cl_i (wc := [zO o0 oa i0 m0 nn]) (wr := []) (w1 := [zO o0 oa i0 m0 nn]) hP hD hS hA [0] [] rfl rfl (by decide) (by decide) (va_runV (As := [.int y]) (rest := []) ⟨hx, hb, hml, hown, htb⟩ (oc_O_isUp_no l dC dI cI cJ cZ cP _ o0 oa i0 m0 nn y (by first | assumption | omega)) (cwV 1 htb (gw_V kw_246 kw_248 kp_7 kw_1 kw_249) rfl rfl rfl (by decide +kernel) ⟨Nat.le_of_ble_eq_true rfl, Nat.le_of_ble_eq_true rfl⟩) (pr_V hP hK hD (va_recv hK hP (ci := 3) (q0 := 0) rfl rfl) [0] (by decide) rfl rfl) rfl rfl hl.1 rfl (lv_room (Nat.le_of_ble_eq_true rfl)) dc_O_checkpoint_2 ⟨Nat.le_of_ble_eq_true rfl, Nat.le_of_ble_eq_true rfl⟩) (fun H locs hP hD hS => ?_)
  have hP : va_P (dC, dI) clsL [zO o0 oa i0 m0 nn] H := hP.sub (ws' := [zO o0 oa i0 m0 nn]) [0] rfl
  have hD : va_D A [zO o0 oa i0 m0 nn] := hD.sub (ws' := [zO o0 oa i0 m0 nn]) [0] (by decide) rfl
  refine lv_if_ne (tgt := 10) hx hb dc_O_checkpoint_5 (by decide) (fun hc => ?_) (fun hc => ?_)
  · have h1 : false = true := bI_n0.mp hc
    exact absurd h1 (by decide)
  have h1 : false = false := bI_0.mp hc
  refine lv_iconst (v := (-1)) hx hb dc_O_checkpoint_8 (by decide) ?_
  have hP9 := hP.sub (ws' := [zO o0 oa i0 m0 nn]) [0] rfl
  have hD9 := hD.sub (ws' := [zO o0 oa i0 m0 nn]) [0] (by decide) rfl
  exact W.iret (v := (-1)) hx hb hr (fun t ht hW => ⟨⟨_, (), rfl, rfl, by rw [ht]; exact hP9, va_K.moved hW.alike hK, hD9⟩, hS.F ht⟩) hS.2.2 dc_O_checkpoint_9

set_option maxHeartbeats 4000000 in
set_option maxRecDepth 100000 in
theorem oc_O_checkpoint_dn (l : Launch) (dC : Nat → ClassId) (dI : Nat → Nat → Nat) (cI cJ cZ cP : ClassId) (sz : Nat) (o0 : Nat) (oa : Nat) (i0 : Nat) (m0 : Nat) (nn : Nat) (pf : Nat → Option Nat) (h : Nat) (a : Nat) (b : Nat) (dn : Bool) (n : Nat) (oc : Nat) (le : Nat) (ll : Int64) (li : Int64) (lc : Nat) (kc : Nat) (rp : Int32) (j : Nat) (hj : j < 3) (hf : pf j = some h) (hdn : dn = true) : mt_I l mn_O_checkpoint bc_O_checkpoint 3 (some .int) ({ frames := 2, cells := 0, slots := 0, locals := 41 }) (dC, dI) (TYS cI cJ cZ cP) sz [.ref o0, .int (nI j)] [zO o0 oa i0 m0 nn, (oa, .inl (cP, 3, .inr (.inr (.inr (.inr pf))))), zP h a b dn n oc le ll li lc kc rp] [zO o0 oa i0 m0 nn, (oa, .inl (cP, 3, .inr (.inr (.inr (.inr pf))))), zP h a b dn n oc le ll li lc kc rp] ((-1)) 0 0 := by
  unfold mt_I
  refine Met.ofW (cc := bc_O_checkpoint) (maxL := 3) (ret := (some .int)) (by decide) rfl ?_
  intro p e s m args below meth c s₁ B hml hv
  obtain ⟨rfl, hsz, hP, hK, hD0⟩ := hv
  have hx := B.exec
  have hb := B.bytes
  have hr := B.returns
  have hts := atoms_spec (ws := wsT mn_O_checkpoint bc_O_checkpoint 3 (some .int)) B.pre
  have htb : ∀ w ∈ gtbl, w.before _ s = true := fun w h => hts w (List.mem_cons_of_mem _ h)
  have hown : s.vm.findClass cn_O = some m.cls := findClass_of_methodNamed B.named
  have hlocks := B.notSynchronized
  subst hsz
  have hD := hD0.self (sz := s.heap.size)
  generalize hAe : va_A [zO o0 oa i0 m0 nn, (oa, .inl (cP, 3, .inr (.inr (.inr (.inr pf))))), zP h a b dn n oc le ll li lc kc rp] s.heap.size = A at hD ⊢
  have hA : ∀ q : Nat, s.heap.size ≤ q → A q := fun q h => by rw [← hAe]; exact Or.inr h
  have hS : va_S A s.heap s.heap [] := va_S.rf
  have hP : va_P (dC, dI) clsL [zO o0 oa i0 m0 nn, (oa, .inl (cP, 3, .inr (.inr (.inr (.inr pf))))), zP h a b dn n oc le ll li lc kc rp] s.heap := hP
  have hl := lv_entry ([.ref o0, .int (nI j)]) (n := 3) (Nat.le_of_ble_eq_true rfl)
  rw [lg_entry_eq]
  generalize (lg_sl ([.ref o0, .int (nI j)]) ++ List.replicate (3 - (lg_sl ([.ref o0, .int (nI j)])).length) Slot.unset).toArray = ls at hl ⊢
  have hl : lv_has ls 3 [(0, .ref o0), (1, .int (nI j))] := hl
  refine lv_aload_n hx hb dc_O_checkpoint_0 rfl (lv_at hl 0 rfl) ?_
  refine lv_iload_n hx hb dc_O_checkpoint_1 rfl (lv_at hl 1 rfl) ?_
  refine cl_i (wc := [zO o0 oa i0 m0 nn, (oa, .inl (cP, 3, .inr (.inr (.inr (.inr pf))))), zP h a b dn n oc le ll li lc kc rp]) (wr := []) (w1 := [zO o0 oa i0 m0 nn, (oa, .inl (cP, 3, .inr (.inr (.inr (.inr pf))))), zP h a b dn n oc le ll li lc kc rp]) hP hD hS hA [0, 1, 2] [] rfl rfl (by decide) (by decide) (va_runV (As := [.int (nI j)]) (rest := []) ⟨hx, hb, hml, hown, htb⟩ (oc_O_isUp l dC dI cI cJ cZ cP _ o0 oa i0 m0 nn pf h a b dn n oc le ll li lc kc rp j (by first | assumption | omega) (by first | assumption | omega)) (cwV 1 htb (gw_V kw_246 kw_248 kp_7 kw_1 kw_249) rfl rfl rfl (by decide +kernel) ⟨Nat.le_of_ble_eq_true rfl, Nat.le_of_ble_eq_true rfl⟩) (pr_V hP hK hD (va_recv hK hP (ci := 3) (q0 := 0) rfl rfl) [0, 1, 2] (by decide) rfl rfl) rfl rfl hl.1 rfl (lv_room (Nat.le_of_ble_eq_true rfl)) dc_O_checkpoint_2 ⟨Nat.le_of_ble_eq_true rfl, Nat.le_of_ble_eq_true rfl⟩) (fun H locs hP hD hS => ?_)
  have hP : va_P (dC, dI) clsL [zO o0 oa i0 m0 nn, (oa, .inl (cP, 3, .inr (.inr (.inr (.inr pf))))), zP h a b dn n oc le ll li lc kc rp] H := hP.sub (ws' := [zO o0 oa i0 m0 nn, (oa, .inl (cP, 3, .inr (.inr (.inr (.inr pf))))), zP h a b dn n oc le ll li lc kc rp]) [0, 1, 2] rfl
  have hD : va_D A [zO o0 oa i0 m0 nn, (oa, .inl (cP, 3, .inr (.inr (.inr (.inr pf))))), zP h a b dn n oc le ll li lc kc rp] := hD.sub (ws' := [zO o0 oa i0 m0 nn, (oa, .inl (cP, 3, .inr (.inr (.inr (.inr pf))))), zP h a b dn n oc le ll li lc kc rp]) [0, 1, 2] (by decide) rfl
  refine lv_if_ne (tgt := 10) hx hb dc_O_checkpoint_5 (by decide) (fun hc => ?_) (fun hc => ?_)
  · have h1 : (!dn) = true := bI_n0.mp hc
    exact absurd h1 (by rw [hdn]; decide)
  have h1 : (!dn) = false := bI_0.mp hc
  refine lv_iconst (v := (-1)) hx hb dc_O_checkpoint_8 (by decide) ?_
  have hP9 := hP.sub (ws' := [zO o0 oa i0 m0 nn, (oa, .inl (cP, 3, .inr (.inr (.inr (.inr pf))))), zP h a b dn n oc le ll li lc kc rp]) [0, 1, 2] rfl
  have hD9 := hD.sub (ws' := [zO o0 oa i0 m0 nn, (oa, .inl (cP, 3, .inr (.inr (.inr (.inr pf))))), zP h a b dn n oc le ll li lc kc rp]) [0, 1, 2] (by decide) rfl
  exact W.iret (v := (-1)) hx hb hr (fun t ht hW => ⟨⟨_, (), rfl, rfl, by rw [ht]; exact hP9, va_K.moved hW.alike hK, hD9⟩, hS.F ht⟩) hS.2.2 dc_O_checkpoint_9

set_option maxHeartbeats 4000000 in
set_option maxRecDepth 100000 in
theorem oc_O_checkpoint (l : Launch) (dC : Nat → ClassId) (dI : Nat → Nat → Nat) (cI cJ cZ cP : ClassId) (sz : Nat) (o0 : Nat) (oa : Nat) (i0 : Nat) (m0 : Nat) (nn : Nat) (pf : Nat → Option Nat) (h : Nat) (a : Nat) (b : Nat) (dn : Bool) (n : Nat) (oc : Nat) (le : Nat) (ll : Int64) (li : Int64) (lc : Nat) (kc : Nat) (rp : Int32) (i1 : Nat) (i2 : Nat) (i3 : Nat) (i4 : Nat) (cn : Nat) (sS : Int64) (lS : Int64) (rS : Int64) (ch : Nat → Nat) (j : Nat) (hj : j < 3) (hf : pf j = some h) (hdn : dn = false) (hn : n ≤ 40) (hlc : lc ≤ 40) : mt_I l mn_O_checkpoint bc_O_checkpoint 3 (some .int) ({ frames := 2, cells := 0, slots := 0, locals := 46 }) (dC, dI) (TYS cI cJ cZ cP) sz [.ref o0, .int (nI j)] [zO o0 oa i0 m0 nn, (oa, .inl (cP, 3, .inr (.inr (.inr (.inr pf))))), zP h a b dn n oc le ll li lc kc rp, (a, .inl (cI, 40, .inl (nF ch))), zI i0 i1 i2 i3 i4 cn sS lS rS] [zO o0 oa i0 m0 nn, (oa, .inl (cP, 3, .inr (.inr (.inr (.inr pf))))), zP h a b dn n oc le ll li n (if lc = n then kc else lc) rp, (a, .inl (cI, 40, .inl (nF ch))), zI i0 i1 i2 i3 i4 cn (sS ||| ((cs_set ch n) &&& (sS ^^^ (-1)))) lS rS] (nI n) 0 0 := by
  unfold mt_I
  refine Met.ofW (cc := bc_O_checkpoint) (maxL := 3) (ret := (some .int)) (by decide) rfl ?_
  intro p e s m args below meth c s₁ B hml hv
  obtain ⟨rfl, hsz, hP, hK, hD0⟩ := hv
  have hx := B.exec
  have hb := B.bytes
  have hr := B.returns
  have hts := atoms_spec (ws := wsT mn_O_checkpoint bc_O_checkpoint 3 (some .int)) B.pre
  have htb : ∀ w ∈ gtbl, w.before _ s = true := fun w h => hts w (List.mem_cons_of_mem _ h)
  have hown : s.vm.findClass cn_O = some m.cls := findClass_of_methodNamed B.named
  have hlocks := B.notSynchronized
  subst hsz
  have hD := hD0.self (sz := s.heap.size)
  generalize hAe : va_A [zO o0 oa i0 m0 nn, (oa, .inl (cP, 3, .inr (.inr (.inr (.inr pf))))), zP h a b dn n oc le ll li lc kc rp, (a, .inl (cI, 40, .inl (nF ch))), zI i0 i1 i2 i3 i4 cn sS lS rS] s.heap.size = A at hD ⊢
  have hA : ∀ q : Nat, s.heap.size ≤ q → A q := fun q h => by rw [← hAe]; exact Or.inr h
  have hS : va_S A s.heap s.heap [] := va_S.rf
  have hP : va_P (dC, dI) clsL [zO o0 oa i0 m0 nn, (oa, .inl (cP, 3, .inr (.inr (.inr (.inr pf))))), zP h a b dn n oc le ll li lc kc rp, (a, .inl (cI, 40, .inl (nF ch))), zI i0 i1 i2 i3 i4 cn sS lS rS] s.heap := hP
  have hl := lv_entry ([.ref o0, .int (nI j)]) (n := 3) (Nat.le_of_ble_eq_true rfl)
  rw [lg_entry_eq]
  generalize (lg_sl ([.ref o0, .int (nI j)]) ++ List.replicate (3 - (lg_sl ([.ref o0, .int (nI j)])).length) Slot.unset).toArray = ls at hl ⊢
  have hl : lv_has ls 3 [(0, .ref o0), (1, .int (nI j))] := hl
  refine lv_aload_n hx hb dc_O_checkpoint_0 rfl (lv_at hl 0 rfl) ?_
  refine lv_iload_n hx hb dc_O_checkpoint_1 rfl (lv_at hl 1 rfl) ?_
  refine cl_i (wc := [zO o0 oa i0 m0 nn, (oa, .inl (cP, 3, .inr (.inr (.inr (.inr pf))))), zP h a b dn n oc le ll li lc kc rp]) (wr := [(a, .inl (cI, 40, .inl (nF ch))), zI i0 i1 i2 i3 i4 cn sS lS rS]) (w1 := [zO o0 oa i0 m0 nn, (oa, .inl (cP, 3, .inr (.inr (.inr (.inr pf))))), zP h a b dn n oc le ll li lc kc rp]) hP hD hS hA [0, 1, 2] [3, 4] rfl rfl (by decide) (by decide) (va_runV (As := [.int (nI j)]) (rest := []) ⟨hx, hb, hml, hown, htb⟩ (oc_O_isUp l dC dI cI cJ cZ cP _ o0 oa i0 m0 nn pf h a b dn n oc le ll li lc kc rp j (by first | assumption | omega) (by first | assumption | omega)) (cwV 1 htb (gw_V kw_246 kw_248 kp_7 kw_1 kw_249) rfl rfl rfl (by decide +kernel) ⟨Nat.le_of_ble_eq_true rfl, Nat.le_of_ble_eq_true rfl⟩) (pr_V hP hK hD (va_recv hK hP (ci := 3) (q0 := 0) rfl rfl) [0, 1, 2] (by decide) rfl rfl) rfl rfl hl.1 rfl (lv_room (Nat.le_of_ble_eq_true rfl)) dc_O_checkpoint_2 ⟨Nat.le_of_ble_eq_true rfl, Nat.le_of_ble_eq_true rfl⟩) (fun H locs hP hD hS => ?_)
  have hP : va_P (dC, dI) clsL [zO o0 oa i0 m0 nn, (oa, .inl (cP, 3, .inr (.inr (.inr (.inr pf))))), zP h a b dn n oc le ll li lc kc rp, (a, .inl (cI, 40, .inl (nF ch))), zI i0 i1 i2 i3 i4 cn sS lS rS] H := hP.sub (ws' := [zO o0 oa i0 m0 nn, (oa, .inl (cP, 3, .inr (.inr (.inr (.inr pf))))), zP h a b dn n oc le ll li lc kc rp, (a, .inl (cI, 40, .inl (nF ch))), zI i0 i1 i2 i3 i4 cn sS lS rS]) [2, 3, 4, 0, 1] rfl
  have hD : va_D A [zO o0 oa i0 m0 nn, (oa, .inl (cP, 3, .inr (.inr (.inr (.inr pf))))), zP h a b dn n oc le ll li lc kc rp, (a, .inl (cI, 40, .inl (nF ch))), zI i0 i1 i2 i3 i4 cn sS lS rS] := hD.sub (ws' := [zO o0 oa i0 m0 nn, (oa, .inl (cP, 3, .inr (.inr (.inr (.inr pf))))), zP h a b dn n oc le ll li lc kc rp, (a, .inl (cI, 40, .inl (nF ch))), zI i0 i1 i2 i3 i4 cn sS lS rS]) [2, 3, 4, 0, 1] (by decide) rfl
  refine lv_if_ne (tgt := 10) hx hb dc_O_checkpoint_5 (by decide) (fun hc => ?_) (fun hc => ?_)
  rotate_left
  · have h1 : (!dn) = false := bI_0.mp hc
    exact absurd h1 (by rw [hdn]; decide)
  have h1 : (!dn) = true := bI_n0.mp hc
  refine lv_aload_n hx hb dc_O_checkpoint_10 rfl (lv_at hl 0 rfl) ?_
  refine va_get (D := (dC, dI)) (ci := 3) (v := .ref oa) (C := cn_O) (T := ft_O) (N := 4) hx hb htb ki_O hown hK hP 0 rfl rfl 0 (by decide) (htb _ kw_139) (fun _ h9 => h9) rfl dc_O_checkpoint_11 ?_
  refine lv_iload_n hx hb dc_O_checkpoint_14 rfl (lv_at hl 1 rfl) ?_
  refine wa_ald hx hb hK hP 1 3 rfl rfl (k := j) (by omega) (by omega) (v := h) (hf) dc_O_checkpoint_15 ?_
  refine lv_astore_n (lv' := [(2, .ref h), (0, .ref o0), (1, .int (nI j))]) hx hb dc_O_checkpoint_16 rfl hl (by decide) rfl (fun ls hl => ?_)
  refine lv_aload_n hx hb dc_O_checkpoint_17 rfl (lv_at hl 1 rfl) ?_
  refine lv_aload_n hx hb dc_O_checkpoint_18 rfl (lv_at hl 0 rfl) ?_
  refine cl_i (wc := [zO o0 oa i0 m0 nn, zP h a b dn n oc le ll li lc kc rp, (a, .inl (cI, 40, .inl (nF ch))), zI i0 i1 i2 i3 i4 cn sS lS rS]) (wr := [(oa, .inl (cP, 3, .inr (.inr (.inr (.inr pf)))))]) (w1 := [zO o0 oa i0 m0 nn, zP h a b dn n oc le ll li lc kc rp, (a, .inl (cI, 40, .inl (nF ch))), zI i0 i1 i2 i3 i4 cn (sS ||| ((cs_set ch n) &&& (sS ^^^ (-1)))) lS rS]) hP hD hS hA [0, 2, 3, 4] [1] rfl rfl (by decide) (by decide) (va_runV (As := [.ref h]) (rest := []) ⟨hx, hb, hml, hown, htb⟩ (oc_O_makeStable l dC dI cI cJ cZ cP _ o0 oa i0 m0 nn h a b dn n oc le ll li lc kc rp i1 i2 i3 i4 cn sS lS rS ch (by first | assumption | omega)) (cwV 1 htb (gw_V kw_223 kw_225 kp_6 kw_1 kw_226) rfl rfl rfl (by decide +kernel) ⟨Nat.le_of_ble_eq_true rfl, Nat.le_of_ble_eq_true rfl⟩) (pr_V hP hK hD (va_recv hK hP (ci := 3) (q0 := 0) rfl rfl) [0, 2, 3, 4] (by decide) rfl rfl) rfl rfl hl.1 rfl (lv_room (Nat.le_of_ble_eq_true rfl)) dc_O_checkpoint_19 ⟨Nat.le_of_ble_eq_true rfl, Nat.le_of_ble_eq_true rfl⟩) (fun H locs hP hD hS => ?_)
  have hP : va_P (dC, dI) clsL [zO o0 oa i0 m0 nn, (oa, .inl (cP, 3, .inr (.inr (.inr (.inr pf))))), zP h a b dn n oc le ll li lc kc rp, (a, .inl (cI, 40, .inl (nF ch))), zI i0 i1 i2 i3 i4 cn (sS ||| ((cs_set ch n) &&& (sS ^^^ (-1)))) lS rS] H := hP.sub (ws' := [zO o0 oa i0 m0 nn, (oa, .inl (cP, 3, .inr (.inr (.inr (.inr pf))))), zP h a b dn n oc le ll li lc kc rp, (a, .inl (cI, 40, .inl (nF ch))), zI i0 i1 i2 i3 i4 cn (sS ||| ((cs_set ch n) &&& (sS ^^^ (-1)))) lS rS]) [1, 0, 2, 3, 4] rfl
  have hD : va_D A [zO o0 oa i0 m0 nn, (oa, .inl (cP, 3, .inr (.inr (.inr (.inr pf))))), zP h a b dn n oc le ll li lc kc rp, (a, .inl (cI, 40, .inl (nF ch))), zI i0 i1 i2 i3 i4 cn (sS ||| ((cs_set ch n) &&& (sS ^^^ (-1)))) lS rS] := hD.sub (ws' := [zO o0 oa i0 m0 nn, (oa, .inl (cP, 3, .inr (.inr (.inr (.inr pf))))), zP h a b dn n oc le ll li lc kc rp, (a, .inl (cI, 40, .inl (nF ch))), zI i0 i1 i2 i3 i4 cn (sS ||| ((cs_set ch n) &&& (sS ^^^ (-1)))) lS rS]) [1, 0, 2, 3, 4] (by decide) rfl
  refine lv_pop hx hb dc_O_checkpoint_22 rfl ?_
  refine lv_aload_n hx hb dc_O_checkpoint_23 rfl (lv_at hl 0 rfl) ?_
  refine cl_v (wc := [zP h a b dn n oc le ll li lc kc rp]) (wr := [zO o0 oa i0 m0 nn, (oa, .inl (cP, 3, .inr (.inr (.inr (.inr pf))))), (a, .inl (cI, 40, .inl (nF ch))), zI i0 i1 i2 i3 i4 cn (sS ||| ((cs_set ch n) &&& (sS ^^^ (-1)))) lS rS]) (w1 := [zP h a b dn n oc le ll li n (if lc = n then kc else lc) rp]) hP hD hS hA [2] [0, 1, 3, 4] rfl rfl (by decide) (by decide) (va_runV (As := []) (rest := []) ⟨hx, hb, hml, hown, htb⟩ (oc_P_keepCheckpoint l dC dI cI cJ cZ cP _ h a b dn n oc le ll li lc kc rp (by first | assumption | omega) (by first | assumption | omega)) (cwV 0 htb (gw_V kw_262 kw_263 kw_264 kw_2 kw_265) rfl rfl rfl (by decide +kernel) ⟨Nat.le_of_ble_eq_true rfl, Nat.le_of_ble_eq_true rfl⟩) (pr_V hP hK hD (va_recv hK hP (ci := 2) (q0 := 2) rfl rfl) [2] (by decide) rfl rfl) rfl rfl hl.1 rfl (lv_room (Nat.le_of_ble_eq_true rfl)) dc_O_checkpoint_24 ⟨Nat.le_of_ble_eq_true rfl, Nat.le_of_ble_eq_true rfl⟩) (fun H locs hP hD hS => ?_)
  have hP : va_P (dC, dI) clsL [zO o0 oa i0 m0 nn, (oa, .inl (cP, 3, .inr (.inr (.inr (.inr pf))))), zP h a b dn n oc le ll li n (if lc = n then kc else lc) rp, (a, .inl (cI, 40, .inl (nF ch))), zI i0 i1 i2 i3 i4 cn (sS ||| ((cs_set ch n) &&& (sS ^^^ (-1)))) lS rS] H := hP.sub (ws' := [zO o0 oa i0 m0 nn, (oa, .inl (cP, 3, .inr (.inr (.inr (.inr pf))))), zP h a b dn n oc le ll li n (if lc = n then kc else lc) rp, (a, .inl (cI, 40, .inl (nF ch))), zI i0 i1 i2 i3 i4 cn (sS ||| ((cs_set ch n) &&& (sS ^^^ (-1)))) lS rS]) [0, 1, 4, 2, 3] rfl
  have hD : va_D A [zO o0 oa i0 m0 nn, (oa, .inl (cP, 3, .inr (.inr (.inr (.inr pf))))), zP h a b dn n oc le ll li n (if lc = n then kc else lc) rp, (a, .inl (cI, 40, .inl (nF ch))), zI i0 i1 i2 i3 i4 cn (sS ||| ((cs_set ch n) &&& (sS ^^^ (-1)))) lS rS] := hD.sub (ws' := [zO o0 oa i0 m0 nn, (oa, .inl (cP, 3, .inr (.inr (.inr (.inr pf))))), zP h a b dn n oc le ll li n (if lc = n then kc else lc) rp, (a, .inl (cI, 40, .inl (nF ch))), zI i0 i1 i2 i3 i4 cn (sS ||| ((cs_set ch n) &&& (sS ^^^ (-1)))) lS rS]) [0, 1, 4, 2, 3] (by decide) rfl
  refine lv_aload_n hx hb dc_O_checkpoint_27 rfl (lv_at hl 0 rfl) ?_
  refine va_get (D := (dC, dI)) (ci := 2) (v := .int (nI n)) (C := cn_P) (T := ft_P) (N := 11) hx hb htb ki_P hown hK hP 2 rfl rfl 3 (by decide) (htb _ kw_29) (fun _ h9 => h9) rfl dc_O_checkpoint_28 ?_
  have hP9 := hP.sub (ws' := [zO o0 oa i0 m0 nn, (oa, .inl (cP, 3, .inr (.inr (.inr (.inr pf))))), zP h a b dn n oc le ll li n (if lc = n then kc else lc) rp, (a, .inl (cI, 40, .inl (nF ch))), zI i0 i1 i2 i3 i4 cn (sS ||| ((cs_set ch n) &&& (sS ^^^ (-1)))) lS rS]) [0, 1, 2, 3, 4] rfl
  have hD9 := hD.sub (ws' := [zO o0 oa i0 m0 nn, (oa, .inl (cP, 3, .inr (.inr (.inr (.inr pf))))), zP h a b dn n oc le ll li n (if lc = n then kc else lc) rp, (a, .inl (cI, 40, .inl (nF ch))), zI i0 i1 i2 i3 i4 cn (sS ||| ((cs_set ch n) &&& (sS ^^^ (-1)))) lS rS]) [0, 1, 2, 3, 4] (by decide) rfl
  exact W.iret (v := nI n) hx hb hr (fun t ht hW => ⟨⟨_, (), rfl, rfl, by rw [ht]; exact hP9, va_K.moved hW.alike hK, hD9⟩, hS.F ht⟩) hS.2.2 dc_O_checkpoint_31

set_option maxHeartbeats 4000000 in
set_option maxRecDepth 100000 in
theorem oc_O_resend_no (l : Launch) (dC : Nat → ClassId) (dI : Nat → Nat → Nat) (cI cJ cZ cP : ClassId) (sz : Nat) (o0 : Nat) (oa : Nat) (i0 : Nat) (m0 : Nat) (nn : Nat) (y : Int32) (hy : y < 0 ∨ nI 3 ≤ y) : mt_I l mn_O_resend bc_O_resend 2 (some .int) ({ frames := 2, cells := 0, slots := 0, locals := 41 }) (dC, dI) (TYS cI cJ cZ cP) sz [.ref o0, .int y] [zO o0 oa i0 m0 nn] [zO o0 oa i0 m0 nn] ((-1)) 0 0 := by
  unfold mt_I
  refine Met.ofW (cc := bc_O_resend) (maxL := 2) (ret := (some .int)) (by decide) rfl ?_
  intro p e s m args below meth c s₁ B hml hv
  obtain ⟨rfl, hsz, hP, hK, hD0⟩ := hv
  have hx := B.exec
  have hb := B.bytes
  have hr := B.returns
  have hts := atoms_spec (ws := wsT mn_O_resend bc_O_resend 2 (some .int)) B.pre
  have htb : ∀ w ∈ gtbl, w.before _ s = true := fun w h => hts w (List.mem_cons_of_mem _ h)
  have hown : s.vm.findClass cn_O = some m.cls := findClass_of_methodNamed B.named
  have hlocks := B.notSynchronized
  subst hsz
  have hD := hD0.self (sz := s.heap.size)
  generalize hAe : va_A [zO o0 oa i0 m0 nn] s.heap.size = A at hD ⊢
  have hA : ∀ q : Nat, s.heap.size ≤ q → A q := fun q h => by rw [← hAe]; exact Or.inr h
  have hS : va_S A s.heap s.heap [] := va_S.rf
  have hP : va_P (dC, dI) clsL [zO o0 oa i0 m0 nn] s.heap := hP
  have hl := lv_entry ([.ref o0, .int y]) (n := 2) (Nat.le_of_ble_eq_true rfl)
  rw [lg_entry_eq]
  generalize (lg_sl ([.ref o0, .int y]) ++ List.replicate (2 - (lg_sl ([.ref o0, .int y])).length) Slot.unset).toArray = ls at hl ⊢
  have hl : lv_has ls 2 [(0, .ref o0), (1, .int y)] := hl
  refine lv_aload_n hx hb dc_O_resend_0 rfl (lv_at hl 0 rfl) ?_
  refine lv_iload_n hx hb dc_O_resend_1 rfl (lv_at hl 1 rfl) ?_
  refine cl_i (wc := [zO o0 oa i0 m0 nn]) (wr := []) (w1 := [zO o0 oa i0 m0 nn]) hP hD hS hA [0] [] rfl rfl (by decide) (by decide) (va_runV (As := [.int y]) (rest := []) ⟨hx, hb, hml, hown, htb⟩ (oc_O_isUp_no l dC dI cI cJ cZ cP _ o0 oa i0 m0 nn y (by first | assumption | omega)) (cwV 1 htb (gw_V kw_246 kw_248 kp_7 kw_1 kw_249) rfl rfl rfl (by decide +kernel) ⟨Nat.le_of_ble_eq_true rfl, Nat.le_of_ble_eq_true rfl⟩) (pr_V hP hK hD (va_recv hK hP (ci := 3) (q0 := 0) rfl rfl) [0] (by decide) rfl rfl) rfl rfl hl.1 rfl (lv_room (Nat.le_of_ble_eq_true rfl)) dc_O_resend_2 ⟨Nat.le_of_ble_eq_true rfl, Nat.le_of_ble_eq_true rfl⟩) (fun H locs hP hD hS => ?_)
  have hP : va_P (dC, dI) clsL [zO o0 oa i0 m0 nn] H := hP.sub (ws' := [zO o0 oa i0 m0 nn]) [0] rfl
  have hD : va_D A [zO o0 oa i0 m0 nn] := hD.sub (ws' := [zO o0 oa i0 m0 nn]) [0] (by decide) rfl
  refine lv_if_ne (tgt := 10) hx hb dc_O_resend_5 (by decide) (fun hc => ?_) (fun hc => ?_)
  · have h1 : false = true := bI_n0.mp hc
    exact absurd h1 (by decide)
  have h1 : false = false := bI_0.mp hc
  refine lv_iconst (v := (-1)) hx hb dc_O_resend_8 (by decide) ?_
  have hP9 := hP.sub (ws' := [zO o0 oa i0 m0 nn]) [0] rfl
  have hD9 := hD.sub (ws' := [zO o0 oa i0 m0 nn]) [0] (by decide) rfl
  exact W.iret (v := (-1)) hx hb hr (fun t ht hW => ⟨⟨_, (), rfl, rfl, by rw [ht]; exact hP9, va_K.moved hW.alike hK, hD9⟩, hS.F ht⟩) hS.2.2 dc_O_resend_9

set_option maxHeartbeats 4000000 in
set_option maxRecDepth 100000 in
theorem oc_O_resend_dn (l : Launch) (dC : Nat → ClassId) (dI : Nat → Nat → Nat) (cI cJ cZ cP : ClassId) (sz : Nat) (o0 : Nat) (oa : Nat) (i0 : Nat) (m0 : Nat) (nn : Nat) (pf : Nat → Option Nat) (h : Nat) (a : Nat) (b : Nat) (dn : Bool) (n : Nat) (oc : Nat) (le : Nat) (ll : Int64) (li : Int64) (lc : Nat) (kc : Nat) (rp : Int32) (j : Nat) (hj : j < 3) (hf : pf j = some h) (hdn : dn = true) : mt_I l mn_O_resend bc_O_resend 2 (some .int) ({ frames := 2, cells := 0, slots := 0, locals := 41 }) (dC, dI) (TYS cI cJ cZ cP) sz [.ref o0, .int (nI j)] [zO o0 oa i0 m0 nn, (oa, .inl (cP, 3, .inr (.inr (.inr (.inr pf))))), zP h a b dn n oc le ll li lc kc rp] [zO o0 oa i0 m0 nn, (oa, .inl (cP, 3, .inr (.inr (.inr (.inr pf))))), zP h a b dn n oc le ll li lc kc rp] ((-1)) 0 0 := by
  unfold mt_I
  refine Met.ofW (cc := bc_O_resend) (maxL := 2) (ret := (some .int)) (by decide) rfl ?_
  intro p e s m args below meth c s₁ B hml hv
  obtain ⟨rfl, hsz, hP, hK, hD0⟩ := hv
  have hx := B.exec
  have hb := B.bytes
  have hr := B.returns
  have hts := atoms_spec (ws := wsT mn_O_resend bc_O_resend 2 (some .int)) B.pre
  have htb : ∀ w ∈ gtbl, w.before _ s = true := fun w h => hts w (List.mem_cons_of_mem _ h)
  have hown : s.vm.findClass cn_O = some m.cls := findClass_of_methodNamed B.named
  have hlocks := B.notSynchronized
  subst hsz
  have hD := hD0.self (sz := s.heap.size)
  generalize hAe : va_A [zO o0 oa i0 m0 nn, (oa, .inl (cP, 3, .inr (.inr (.inr (.inr pf))))), zP h a b dn n oc le ll li lc kc rp] s.heap.size = A at hD ⊢
  have hA : ∀ q : Nat, s.heap.size ≤ q → A q := fun q h => by rw [← hAe]; exact Or.inr h
  have hS : va_S A s.heap s.heap [] := va_S.rf
  have hP : va_P (dC, dI) clsL [zO o0 oa i0 m0 nn, (oa, .inl (cP, 3, .inr (.inr (.inr (.inr pf))))), zP h a b dn n oc le ll li lc kc rp] s.heap := hP
  have hl := lv_entry ([.ref o0, .int (nI j)]) (n := 2) (Nat.le_of_ble_eq_true rfl)
  rw [lg_entry_eq]
  generalize (lg_sl ([.ref o0, .int (nI j)]) ++ List.replicate (2 - (lg_sl ([.ref o0, .int (nI j)])).length) Slot.unset).toArray = ls at hl ⊢
  have hl : lv_has ls 2 [(0, .ref o0), (1, .int (nI j))] := hl
  refine lv_aload_n hx hb dc_O_resend_0 rfl (lv_at hl 0 rfl) ?_
  refine lv_iload_n hx hb dc_O_resend_1 rfl (lv_at hl 1 rfl) ?_
  refine cl_i (wc := [zO o0 oa i0 m0 nn, (oa, .inl (cP, 3, .inr (.inr (.inr (.inr pf))))), zP h a b dn n oc le ll li lc kc rp]) (wr := []) (w1 := [zO o0 oa i0 m0 nn, (oa, .inl (cP, 3, .inr (.inr (.inr (.inr pf))))), zP h a b dn n oc le ll li lc kc rp]) hP hD hS hA [0, 1, 2] [] rfl rfl (by decide) (by decide) (va_runV (As := [.int (nI j)]) (rest := []) ⟨hx, hb, hml, hown, htb⟩ (oc_O_isUp l dC dI cI cJ cZ cP _ o0 oa i0 m0 nn pf h a b dn n oc le ll li lc kc rp j (by first | assumption | omega) (by first | assumption | omega)) (cwV 1 htb (gw_V kw_246 kw_248 kp_7 kw_1 kw_249) rfl rfl rfl (by decide +kernel) ⟨Nat.le_of_ble_eq_true rfl, Nat.le_of_ble_eq_true rfl⟩) (pr_V hP hK hD (va_recv hK hP (ci := 3) (q0 := 0) rfl rfl) [0, 1, 2] (by decide) rfl rfl) rfl rfl hl.1 rfl (lv_room (Nat.le_of_ble_eq_true rfl)) dc_O_resend_2 ⟨Nat.le_of_ble_eq_true rfl, Nat.le_of_ble_eq_true rfl⟩) (fun H locs hP hD hS => ?_)
  have hP : va_P (dC, dI) clsL [zO o0 oa i0 m0 nn, (oa, .inl (cP, 3, .inr (.inr (.inr (.inr pf))))), zP h a b dn n oc le ll li lc kc rp] H := hP.sub (ws' := [zO o0 oa i0 m0 nn, (oa, .inl (cP, 3, .inr (.inr (.inr (.inr pf))))), zP h a b dn n oc le ll li lc kc rp]) [0, 1, 2] rfl
  have hD : va_D A [zO o0 oa i0 m0 nn, (oa, .inl (cP, 3, .inr (.inr (.inr (.inr pf))))), zP h a b dn n oc le ll li lc kc rp] := hD.sub (ws' := [zO o0 oa i0 m0 nn, (oa, .inl (cP, 3, .inr (.inr (.inr (.inr pf))))), zP h a b dn n oc le ll li lc kc rp]) [0, 1, 2] (by decide) rfl
  refine lv_if_ne (tgt := 10) hx hb dc_O_resend_5 (by decide) (fun hc => ?_) (fun hc => ?_)
  · have h1 : (!dn) = true := bI_n0.mp hc
    exact absurd h1 (by rw [hdn]; decide)
  have h1 : (!dn) = false := bI_0.mp hc
  refine lv_iconst (v := (-1)) hx hb dc_O_resend_8 (by decide) ?_
  have hP9 := hP.sub (ws' := [zO o0 oa i0 m0 nn, (oa, .inl (cP, 3, .inr (.inr (.inr (.inr pf))))), zP h a b dn n oc le ll li lc kc rp]) [0, 1, 2] rfl
  have hD9 := hD.sub (ws' := [zO o0 oa i0 m0 nn, (oa, .inl (cP, 3, .inr (.inr (.inr (.inr pf))))), zP h a b dn n oc le ll li lc kc rp]) [0, 1, 2] (by decide) rfl
  exact W.iret (v := (-1)) hx hb hr (fun t ht hW => ⟨⟨_, (), rfl, rfl, by rw [ht]; exact hP9, va_K.moved hW.alike hK, hD9⟩, hS.F ht⟩) hS.2.2 dc_O_resend_9

set_option maxHeartbeats 4000000 in
set_option maxRecDepth 100000 in
theorem oc_O_resend (l : Launch) (dC : Nat → ClassId) (dI : Nat → Nat → Nat) (cI cJ cZ cP : ClassId) (sz : Nat) (o0 : Nat) (oa : Nat) (i0 : Nat) (m0 : Nat) (nn : Nat) (pf : Nat → Option Nat) (h : Nat) (a : Nat) (b : Nat) (dn : Bool) (n : Nat) (oc : Nat) (le : Nat) (ll : Int64) (li : Int64) (lc : Nat) (kc : Nat) (rp : Int32) (ch : Nat → Nat) (m1 : Nat) (m2 : Nat) (m3 : Nat) (m4 : Nat) (m5 : Nat) (mn : Nat) (mi : Nat) (sr : Nat → Option Nat) (su : Nat → Nat) (j : Nat) (hj : j < 3) (hf : pf j = some h) (hdn : dn = false) (hn : n ≤ 40) (hmn : mn ≤ 104) (hu : ∀ k, k < mn → su k < 4) : mt_I l mn_O_resend bc_O_resend 2 (some .int) ({ frames := 2, cells := 0, slots := 0, locals := 41 }) (dC, dI) (TYS cI cJ cZ cP) sz [.ref o0, .int (nI j)] [zO o0 oa i0 m0 nn, (oa, .inl (cP, 3, .inr (.inr (.inr (.inr pf))))), zP h a b dn n oc le ll li lc kc rp, (a, .inl (cI, 40, .inl (nF ch))), zM m0 m1 m2 m3 m4 m5 mn mi, (m3, .inl (cI, 104, .inl (oF sr))), (m5, .inl (cI, 104, .inl (nF su)))] [zO o0 oa i0 m0 nn, (oa, .inl (cP, 3, .inr (.inr (.inr (.inr pf))))), zP h a b dn n oc le ll li lc kc rp, (a, .inl (cI, 40, .inl (nF ch))), zM m0 m1 m2 m3 m4 m5 mn mi, (m3, .inl (cI, 104, .inl (oF sr))), (m5, .inl (cI, 104, .inl (nF (rv_F su sr (cs_set ch n) mn))))] (nI (rv_C su sr (cs_set ch n) mn)) 0 0 := by
  unfold mt_I
  refine Met.ofW (cc := bc_O_resend) (maxL := 2) (ret := (some .int)) (by decide) rfl ?_
  intro p e s m args below meth c s₁ B hml hv
  obtain ⟨rfl, hsz, hP, hK, hD0⟩ := hv
  have hx := B.exec
  have hb := B.bytes
  have hr := B.returns
  have hts := atoms_spec (ws := wsT mn_O_resend bc_O_resend 2 (some .int)) B.pre
  have htb : ∀ w ∈ gtbl, w.before _ s = true := fun w h => hts w (List.mem_cons_of_mem _ h)
  have hown : s.vm.findClass cn_O = some m.cls := findClass_of_methodNamed B.named
  have hlocks := B.notSynchronized
  subst hsz
  have hD := hD0.self (sz := s.heap.size)
  generalize hAe : va_A [zO o0 oa i0 m0 nn, (oa, .inl (cP, 3, .inr (.inr (.inr (.inr pf))))), zP h a b dn n oc le ll li lc kc rp, (a, .inl (cI, 40, .inl (nF ch))), zM m0 m1 m2 m3 m4 m5 mn mi, (m3, .inl (cI, 104, .inl (oF sr))), (m5, .inl (cI, 104, .inl (nF su)))] s.heap.size = A at hD ⊢
  have hA : ∀ q : Nat, s.heap.size ≤ q → A q := fun q h => by rw [← hAe]; exact Or.inr h
  have hS : va_S A s.heap s.heap [] := va_S.rf
  have hP : va_P (dC, dI) clsL [zO o0 oa i0 m0 nn, (oa, .inl (cP, 3, .inr (.inr (.inr (.inr pf))))), zP h a b dn n oc le ll li lc kc rp, (a, .inl (cI, 40, .inl (nF ch))), zM m0 m1 m2 m3 m4 m5 mn mi, (m3, .inl (cI, 104, .inl (oF sr))), (m5, .inl (cI, 104, .inl (nF su)))] s.heap := hP
  have hl := lv_entry ([.ref o0, .int (nI j)]) (n := 2) (Nat.le_of_ble_eq_true rfl)
  rw [lg_entry_eq]
  generalize (lg_sl ([.ref o0, .int (nI j)]) ++ List.replicate (2 - (lg_sl ([.ref o0, .int (nI j)])).length) Slot.unset).toArray = ls at hl ⊢
  have hl : lv_has ls 2 [(0, .ref o0), (1, .int (nI j))] := hl
  refine lv_aload_n hx hb dc_O_resend_0 rfl (lv_at hl 0 rfl) ?_
  refine lv_iload_n hx hb dc_O_resend_1 rfl (lv_at hl 1 rfl) ?_
  refine cl_i (wc := [zO o0 oa i0 m0 nn, (oa, .inl (cP, 3, .inr (.inr (.inr (.inr pf))))), zP h a b dn n oc le ll li lc kc rp]) (wr := [(a, .inl (cI, 40, .inl (nF ch))), zM m0 m1 m2 m3 m4 m5 mn mi, (m3, .inl (cI, 104, .inl (oF sr))), (m5, .inl (cI, 104, .inl (nF su)))]) (w1 := [zO o0 oa i0 m0 nn, (oa, .inl (cP, 3, .inr (.inr (.inr (.inr pf))))), zP h a b dn n oc le ll li lc kc rp]) hP hD hS hA [0, 1, 2] [3, 4, 5, 6] rfl rfl (by decide) (by decide) (va_runV (As := [.int (nI j)]) (rest := []) ⟨hx, hb, hml, hown, htb⟩ (oc_O_isUp l dC dI cI cJ cZ cP _ o0 oa i0 m0 nn pf h a b dn n oc le ll li lc kc rp j (by first | assumption | omega) (by first | assumption | omega)) (cwV 1 htb (gw_V kw_246 kw_248 kp_7 kw_1 kw_249) rfl rfl rfl (by decide +kernel) ⟨Nat.le_of_ble_eq_true rfl, Nat.le_of_ble_eq_true rfl⟩) (pr_V hP hK hD (va_recv hK hP (ci := 3) (q0 := 0) rfl rfl) [0, 1, 2] (by decide) rfl rfl) rfl rfl hl.1 rfl (lv_room (Nat.le_of_ble_eq_true rfl)) dc_O_resend_2 ⟨Nat.le_of_ble_eq_true rfl, Nat.le_of_ble_eq_true rfl⟩) (fun H locs hP hD hS => ?_)
  have hP : va_P (dC, dI) clsL [zO o0 oa i0 m0 nn, (oa, .inl (cP, 3, .inr (.inr (.inr (.inr pf))))), zP h a b dn n oc le ll li lc kc rp, (a, .inl (cI, 40, .inl (nF ch))), zM m0 m1 m2 m3 m4 m5 mn mi, (m3, .inl (cI, 104, .inl (oF sr))), (m5, .inl (cI, 104, .inl (nF su)))] H := hP.sub (ws' := [zO o0 oa i0 m0 nn, (oa, .inl (cP, 3, .inr (.inr (.inr (.inr pf))))), zP h a b dn n oc le ll li lc kc rp, (a, .inl (cI, 40, .inl (nF ch))), zM m0 m1 m2 m3 m4 m5 mn mi, (m3, .inl (cI, 104, .inl (oF sr))), (m5, .inl (cI, 104, .inl (nF su)))]) [4, 5, 6, 0, 1, 2, 3] rfl
  have hD : va_D A [zO o0 oa i0 m0 nn, (oa, .inl (cP, 3, .inr (.inr (.inr (.inr pf))))), zP h a b dn n oc le ll li lc kc rp, (a, .inl (cI, 40, .inl (nF ch))), zM m0 m1 m2 m3 m4 m5 mn mi, (m3, .inl (cI, 104, .inl (oF sr))), (m5, .inl (cI, 104, .inl (nF su)))] := hD.sub (ws' := [zO o0 oa i0 m0 nn, (oa, .inl (cP, 3, .inr (.inr (.inr (.inr pf))))), zP h a b dn n oc le ll li lc kc rp, (a, .inl (cI, 40, .inl (nF ch))), zM m0 m1 m2 m3 m4 m5 mn mi, (m3, .inl (cI, 104, .inl (oF sr))), (m5, .inl (cI, 104, .inl (nF su)))]) [4, 5, 6, 0, 1, 2, 3] (by decide) rfl
  refine lv_if_ne (tgt := 10) hx hb dc_O_resend_5 (by decide) (fun hc => ?_) (fun hc => ?_)
  rotate_left
  · have h1 : (!dn) = false := bI_0.mp hc
    exact absurd h1 (by rw [hdn]; decide)
  have h1 : (!dn) = true := bI_n0.mp hc
  refine lv_aload_n hx hb dc_O_resend_10 rfl (lv_at hl 0 rfl) ?_
  refine va_get (D := (dC, dI)) (ci := 3) (v := .ref m0) (C := cn_O) (T := ft_O) (N := 4) hx hb htb ki_O hown hK hP 0 rfl rfl 2 (by decide) (htb _ kw_141) (fun _ h9 => h9) rfl dc_O_resend_11 ?_
  refine lv_aload_n hx hb dc_O_resend_14 rfl (lv_at hl 0 rfl) ?_
  refine va_get (D := (dC, dI)) (ci := 3) (v := .ref oa) (C := cn_O) (T := ft_O) (N := 4) hx hb htb ki_O hown hK hP 0 rfl rfl 0 (by decide) (htb _ kw_139) (fun _ h9 => h9) rfl dc_O_resend_15 ?_
  refine lv_iload_n hx hb dc_O_resend_18 rfl (lv_at hl 1 rfl) ?_
  refine wa_ald hx hb hK hP 1 3 rfl rfl (k := j) (by omega) (by omega) (v := h) (hf) dc_O_resend_19 ?_
  refine cl_l (wc := [zP h a b dn n oc le ll li lc kc rp, (a, .inl (cI, 40, .inl (nF ch)))]) (wr := [zO o0 oa i0 m0 nn, (oa, .inl (cP, 3, .inr (.inr (.inr (.inr pf))))), zM m0 m1 m2 m3 m4 m5 mn mi, (m3, .inl (cI, 104, .inl (oF sr))), (m5, .inl (cI, 104, .inl (nF su)))]) (w1 := [zP h a b dn n oc le ll li lc kc rp, (a, .inl (cI, 40, .inl (nF ch)))]) hP hD hS hA [2, 3] [0, 1, 4, 5, 6] rfl rfl (by decide) (by decide) (va_runV (As := []) (rest := [.ref m0]) ⟨hx, hb, hml, hown, htb⟩ (oc_P_chainSet l dC dI cI cJ cZ cP _ h a b dn n oc le ll li lc kc rp ch (by first | assumption | omega)) (cwV 0 htb (gw_V kw_227 kw_228 kw_229 kw_2 kw_230) rfl rfl rfl (by decide +kernel) ⟨Nat.le_of_ble_eq_true rfl, Nat.le_of_ble_eq_true rfl⟩) (pr_V hP hK hD (va_recv hK hP (ci := 2) (q0 := 2) rfl rfl) [2, 3] (by decide) rfl rfl) rfl rfl hl.1 rfl (lv_room (Nat.le_of_ble_eq_true rfl)) dc_O_resend_20 ⟨Nat.le_of_ble_eq_true rfl, Nat.le_of_ble_eq_true rfl⟩) (fun H locs hP hD hS => ?_)
  have hP : va_P (dC, dI) clsL [zO o0 oa i0 m0 nn, (oa, .inl (cP, 3, .inr (.inr (.inr (.inr pf))))), zP h a b dn n oc le ll li lc kc rp, (a, .inl (cI, 40, .inl (nF ch))), zM m0 m1 m2 m3 m4 m5 mn mi, (m3, .inl (cI, 104, .inl (oF sr))), (m5, .inl (cI, 104, .inl (nF su)))] H := hP.sub (ws' := [zO o0 oa i0 m0 nn, (oa, .inl (cP, 3, .inr (.inr (.inr (.inr pf))))), zP h a b dn n oc le ll li lc kc rp, (a, .inl (cI, 40, .inl (nF ch))), zM m0 m1 m2 m3 m4 m5 mn mi, (m3, .inl (cI, 104, .inl (oF sr))), (m5, .inl (cI, 104, .inl (nF su)))]) [0, 1, 5, 6, 2, 3, 4] rfl
  have hD : va_D A [zO o0 oa i0 m0 nn, (oa, .inl (cP, 3, .inr (.inr (.inr (.inr pf))))), zP h a b dn n oc le ll li lc kc rp, (a, .inl (cI, 40, .inl (nF ch))), zM m0 m1 m2 m3 m4 m5 mn mi, (m3, .inl (cI, 104, .inl (oF sr))), (m5, .inl (cI, 104, .inl (nF su)))] := hD.sub (ws' := [zO o0 oa i0 m0 nn, (oa, .inl (cP, 3, .inr (.inr (.inr (.inr pf))))), zP h a b dn n oc le ll li lc kc rp, (a, .inl (cI, 40, .inl (nF ch))), zM m0 m1 m2 m3 m4 m5 mn mi, (m3, .inl (cI, 104, .inl (oF sr))), (m5, .inl (cI, 104, .inl (nF su)))]) [0, 1, 5, 6, 2, 3, 4] (by decide) rfl
  refine cl_i (wc := [zM m0 m1 m2 m3 m4 m5 mn mi, (m3, .inl (cI, 104, .inl (oF sr))), (m5, .inl (cI, 104, .inl (nF su)))]) (wr := [zO o0 oa i0 m0 nn, (oa, .inl (cP, 3, .inr (.inr (.inr (.inr pf))))), zP h a b dn n oc le ll li lc kc rp, (a, .inl (cI, 40, .inl (nF ch)))]) (w1 := [zM m0 m1 m2 m3 m4 m5 mn mi, (m3, .inl (cI, 104, .inl (oF sr))), (m5, .inl (cI, 104, .inl (nF (rv_F su sr (cs_set ch n) mn))))]) hP hD hS hA [4, 5, 6] [0, 1, 2, 3] rfl rfl (by decide) (by decide) (va_runV (As := [.long (cs_set ch n)]) (rest := []) ⟨hx, hb, hml, hown, htb⟩ (oc_M_reviveFrom l dC dI cI cJ cZ cP _ m0 m1 m2 m3 m4 m5 mn mi sr su (cs_set ch n) (by first | assumption | omega) (by first | assumption | omega)) (cwV 1 htb (gw_V kw_250 kw_251 kw_252 kw_4 kw_253) rfl rfl rfl (by decide +kernel) ⟨Nat.le_of_ble_eq_true rfl, Nat.le_of_ble_eq_true rfl⟩) (pr_V hP hK hD (va_recv hK hP (ci := 1) (q0 := 4) rfl rfl) [4, 5, 6] (by decide) rfl rfl) rfl rfl hl.1 rfl (lv_room (Nat.le_of_ble_eq_true rfl)) dc_O_resend_23 ⟨Nat.le_of_ble_eq_true rfl, Nat.le_of_ble_eq_true rfl⟩) (fun H locs hP hD hS => ?_)
  have hP : va_P (dC, dI) clsL [zO o0 oa i0 m0 nn, (oa, .inl (cP, 3, .inr (.inr (.inr (.inr pf))))), zP h a b dn n oc le ll li lc kc rp, (a, .inl (cI, 40, .inl (nF ch))), zM m0 m1 m2 m3 m4 m5 mn mi, (m3, .inl (cI, 104, .inl (oF sr))), (m5, .inl (cI, 104, .inl (nF (rv_F su sr (cs_set ch n) mn))))] H := hP.sub (ws' := [zO o0 oa i0 m0 nn, (oa, .inl (cP, 3, .inr (.inr (.inr (.inr pf))))), zP h a b dn n oc le ll li lc kc rp, (a, .inl (cI, 40, .inl (nF ch))), zM m0 m1 m2 m3 m4 m5 mn mi, (m3, .inl (cI, 104, .inl (oF sr))), (m5, .inl (cI, 104, .inl (nF (rv_F su sr (cs_set ch n) mn))))]) [0, 1, 2, 3, 4, 5, 6] rfl
  have hD : va_D A [zO o0 oa i0 m0 nn, (oa, .inl (cP, 3, .inr (.inr (.inr (.inr pf))))), zP h a b dn n oc le ll li lc kc rp, (a, .inl (cI, 40, .inl (nF ch))), zM m0 m1 m2 m3 m4 m5 mn mi, (m3, .inl (cI, 104, .inl (oF sr))), (m5, .inl (cI, 104, .inl (nF (rv_F su sr (cs_set ch n) mn))))] := hD.sub (ws' := [zO o0 oa i0 m0 nn, (oa, .inl (cP, 3, .inr (.inr (.inr (.inr pf))))), zP h a b dn n oc le ll li lc kc rp, (a, .inl (cI, 40, .inl (nF ch))), zM m0 m1 m2 m3 m4 m5 mn mi, (m3, .inl (cI, 104, .inl (oF sr))), (m5, .inl (cI, 104, .inl (nF (rv_F su sr (cs_set ch n) mn))))]) [0, 1, 2, 3, 4, 5, 6] (by decide) rfl
  have hP9 := hP.sub (ws' := [zO o0 oa i0 m0 nn, (oa, .inl (cP, 3, .inr (.inr (.inr (.inr pf))))), zP h a b dn n oc le ll li lc kc rp, (a, .inl (cI, 40, .inl (nF ch))), zM m0 m1 m2 m3 m4 m5 mn mi, (m3, .inl (cI, 104, .inl (oF sr))), (m5, .inl (cI, 104, .inl (nF (rv_F su sr (cs_set ch n) mn))))]) [0, 1, 2, 3, 4, 5, 6] rfl
  have hD9 := hD.sub (ws' := [zO o0 oa i0 m0 nn, (oa, .inl (cP, 3, .inr (.inr (.inr (.inr pf))))), zP h a b dn n oc le ll li lc kc rp, (a, .inl (cI, 40, .inl (nF ch))), zM m0 m1 m2 m3 m4 m5 mn mi, (m3, .inl (cI, 104, .inl (oF sr))), (m5, .inl (cI, 104, .inl (nF (rv_F su sr (cs_set ch n) mn))))]) [0, 1, 2, 3, 4, 5, 6] (by decide) rfl
  exact W.iret (v := nI (rv_C su sr (cs_set ch n) mn)) hx hb hr (fun t ht hW => ⟨⟨_, (), rfl, rfl, by rw [ht]; exact hP9, va_K.moved hW.alike hK, hD9⟩, hS.F ht⟩) hS.2.2 dc_O_resend_26

set_option maxHeartbeats 4000000 in
set_option maxRecDepth 100000 in
theorem oc_O_loseUnstable (l : Launch) (dC : Nat → ClassId) (dI : Nat → Nat → Nat) (cI cJ cZ cP : ClassId) (sz : Nat) (o0 : Nat) (oa : Nat) (i0 : Nat) (m0 : Nat) (nn : Nat) (h : Nat) (a : Nat) (b : Nat) (dn : Bool) (n : Nat) (oc : Nat) (le : Nat) (ll : Int64) (li : Int64) (lc : Nat) (kc : Nat) (rp : Int32) (i1 : Nat) (i2 : Nat) (i3 : Nat) (i4 : Nat) (cn : Nat) (sS : Int64) (lS : Int64) (rS : Int64) (m1 : Nat) (m2 : Nat) (m3 : Nat) (m4 : Nat) (m5 : Nat) (mn : Nat) (mi : Nat) (ch : Nat → Nat) (rc : Nat → Nat) (su : Nat → Nat) (kp : Nat) (hn : n ≤ 40) (hkp : kp + pc64 ((cs_set ch n) &&& (sS ^^^ (-1))) = n) (hch : ∀ i, i < n → ch i < 40) (hrc : ∀ i, i < n → rc (ch i) < 104) : mt_I l mn_O_loseUnstable bc_O_loseUnstable 6 (some .int) ({ frames := 1, cells := 0, slots := 0, locals := 23 }) (dC, dI) (TYS cI cJ cZ cP) sz [.ref o0, .ref h] [zO o0 oa i0 m0 nn, zP h a b dn n oc le ll li lc kc rp, (a, .inl (cI, 40, .inl (nF ch))), zI i0 i1 i2 i3 i4 cn sS lS rS, (i2, .inl (cI, 40, .inl (nF rc))), zM m0 m1 m2 m3 m4 m5 mn mi, (m5, .inl (cI, 104, .inl (nF su)))] [zO o0 oa i0 m0 nn, zP h a b dn kp oc le ll ((cs_set ch n) &&& (sS ^^^ (-1))) lc kc rp, (a, .inl (cI, 40, .inl (nF ch))), zI i0 i1 i2 i3 i4 cn sS (lS ||| ((cs_set ch n) &&& (sS ^^^ (-1)))) rS, (i2, .inl (cI, 40, .inl (nF rc))), zM m0 m1 m2 m3 m4 m5 mn mi, (m5, .inl (cI, 104, .inl (nF (lu_F su (fun i => rc (ch i)) kp (n - kp)))))] (nI (pc64 ((cs_set ch n) &&& (sS ^^^ (-1))))) 0 0 := by
  unfold mt_I
  refine Met.ofW (cc := bc_O_loseUnstable) (maxL := 6) (ret := (some .int)) (by decide) rfl ?_
  intro p e s m args below meth c s₁ B hml hv
  obtain ⟨rfl, hsz, hP, hK, hD0⟩ := hv
  have hx := B.exec
  have hb := B.bytes
  have hr := B.returns
  have hts := atoms_spec (ws := wsT mn_O_loseUnstable bc_O_loseUnstable 6 (some .int)) B.pre
  have htb : ∀ w ∈ gtbl, w.before _ s = true := fun w h => hts w (List.mem_cons_of_mem _ h)
  have hown : s.vm.findClass cn_O = some m.cls := findClass_of_methodNamed B.named
  have hlocks := B.notSynchronized
  subst hsz
  have hD := hD0.self (sz := s.heap.size)
  generalize hAe : va_A [zO o0 oa i0 m0 nn, zP h a b dn n oc le ll li lc kc rp, (a, .inl (cI, 40, .inl (nF ch))), zI i0 i1 i2 i3 i4 cn sS lS rS, (i2, .inl (cI, 40, .inl (nF rc))), zM m0 m1 m2 m3 m4 m5 mn mi, (m5, .inl (cI, 104, .inl (nF su)))] s.heap.size = A at hD ⊢
  have hA : ∀ q : Nat, s.heap.size ≤ q → A q := fun q h => by rw [← hAe]; exact Or.inr h
  have hS : va_S A s.heap s.heap [] := va_S.rf
  have hP : va_P (dC, dI) clsL [zO o0 oa i0 m0 nn, zP h a b dn n oc le ll li lc kc rp, (a, .inl (cI, 40, .inl (nF ch))), zI i0 i1 i2 i3 i4 cn sS lS rS, (i2, .inl (cI, 40, .inl (nF rc))), zM m0 m1 m2 m3 m4 m5 mn mi, (m5, .inl (cI, 104, .inl (nF su)))] s.heap := hP
  have hl := lv_entry ([.ref o0, .ref h]) (n := 6) (Nat.le_of_ble_eq_true rfl)
  rw [lg_entry_eq]
  generalize (lg_sl ([.ref o0, .ref h]) ++ List.replicate (6 - (lg_sl ([.ref o0, .ref h])).length) Slot.unset).toArray = ls at hl ⊢
  have hl : lv_has ls 6 [(0, .ref o0), (1, .ref h)] := hl
  refine lv_aload_n hx hb dc_O_loseUnstable_0 rfl (lv_at hl 1 rfl) ?_
  refine cl_l (wc := [zP h a b dn n oc le ll li lc kc rp, (a, .inl (cI, 40, .inl (nF ch)))]) (wr := [zO o0 oa i0 m0 nn, zI i0 i1 i2 i3 i4 cn sS lS rS, (i2, .inl (cI, 40, .inl (nF rc))), zM m0 m1 m2 m3 m4 m5 mn mi, (m5, .inl (cI, 104, .inl (nF su)))]) (w1 := [zP h a b dn n oc le ll li lc kc rp, (a, .inl (cI, 40, .inl (nF ch)))]) hP hD hS hA [1, 2] [0, 3, 4, 5, 6] rfl rfl (by decide) (by decide) (va_runV (As := []) (rest := []) ⟨hx, hb, hml, hown, htb⟩ (oc_P_chainSet l dC dI cI cJ cZ cP _ h a b dn n oc le ll li lc kc rp ch hn) (cwV 0 htb (gw_V kw_227 kw_228 kw_229 kw_2 kw_230) rfl rfl rfl (by decide +kernel) ⟨Nat.le_of_ble_eq_true rfl, Nat.le_of_ble_eq_true rfl⟩) (pr_V hP hK hD (va_recv hK hP (ci := 2) (q0 := 1) rfl rfl) [1, 2] (by decide) rfl rfl) rfl rfl hl.1 rfl (lv_room (Nat.le_of_ble_eq_true rfl)) dc_O_loseUnstable_1 ⟨Nat.le_of_ble_eq_true rfl, Nat.le_of_ble_eq_true rfl⟩) (fun H locs hP hD hS => ?_)
  have hP : va_P (dC, dI) clsL [zO o0 oa i0 m0 nn, zP h a b dn n oc le ll li lc kc rp, (a, .inl (cI, 40, .inl (nF ch))), zI i0 i1 i2 i3 i4 cn sS lS rS, (i2, .inl (cI, 40, .inl (nF rc))), zM m0 m1 m2 m3 m4 m5 mn mi, (m5, .inl (cI, 104, .inl (nF su)))] H := hP.sub (ws' := [zO o0 oa i0 m0 nn, zP h a b dn n oc le ll li lc kc rp, (a, .inl (cI, 40, .inl (nF ch))), zI i0 i1 i2 i3 i4 cn sS lS rS, (i2, .inl (cI, 40, .inl (nF rc))), zM m0 m1 m2 m3 m4 m5 mn mi, (m5, .inl (cI, 104, .inl (nF su)))]) [0, 5, 6, 1, 2, 3, 4] rfl
  have hD : va_D A [zO o0 oa i0 m0 nn, zP h a b dn n oc le ll li lc kc rp, (a, .inl (cI, 40, .inl (nF ch))), zI i0 i1 i2 i3 i4 cn sS lS rS, (i2, .inl (cI, 40, .inl (nF rc))), zM m0 m1 m2 m3 m4 m5 mn mi, (m5, .inl (cI, 104, .inl (nF su)))] := hD.sub (ws' := [zO o0 oa i0 m0 nn, zP h a b dn n oc le ll li lc kc rp, (a, .inl (cI, 40, .inl (nF ch))), zI i0 i1 i2 i3 i4 cn sS lS rS, (i2, .inl (cI, 40, .inl (nF rc))), zM m0 m1 m2 m3 m4 m5 mn mi, (m5, .inl (cI, 104, .inl (nF su)))]) [0, 5, 6, 1, 2, 3, 4] (by decide) rfl
  refine lv_aload_n hx hb dc_O_loseUnstable_4 rfl (lv_at hl 0 rfl) ?_
  refine va_get (D := (dC, dI)) (ci := 3) (v := .ref i0) (C := cn_O) (T := ft_O) (N := 4) hx hb htb ki_O hown hK hP 0 rfl rfl 1 (by decide) (htb _ kw_140) (fun _ h9 => h9) rfl dc_O_loseUnstable_5 ?_
  refine va_get (D := (dC, dI)) (ci := 0) (v := .long sS) (C := cn_I) (T := ft_I) (N := 8) hx hb htb ki_I hown hK hP 3 rfl rfl 5 (by decide) (htb _ kw_82) (fun _ h9 => h9) rfl dc_O_loseUnstable_8 ?_
  refine lv_ldc2 (v := -1) hx hb hown (htb _ kw_231) dc_O_loseUnstable_11 ?_
  refine lv_lxor hx hb dc_O_loseUnstable_14 ?_
  refine lv_land hx hb dc_O_loseUnstable_15 ?_
  refine lv_lstore_n (lv' := [(2, .long ((cs_set ch n) &&& (sS ^^^ (-1)))), (0, .ref o0), (1, .ref h)]) hx hb dc_O_loseUnstable_16 rfl hl (by decide) rfl (fun ls hl => ?_)
  refine lv_aload_n hx hb dc_O_loseUnstable_17 rfl (lv_at hl 2 rfl) ?_
  refine va_get (D := (dC, dI)) (ci := 2) (v := .int (nI n)) (C := cn_P) (T := ft_P) (N := 11) hx hb htb ki_P hown hK hP 1 rfl rfl 3 (by decide) (htb _ kw_29) (fun _ h9 => h9) rfl dc_O_loseUnstable_18 ?_
  refine lv_lload_n hx hb dc_O_loseUnstable_21 rfl (lv_at hl 0 rfl) ?_
  refine cl_i (wc := []) (wr := [zO o0 oa i0 m0 nn, zP h a b dn n oc le ll li lc kc rp, (a, .inl (cI, 40, .inl (nF ch))), zI i0 i1 i2 i3 i4 cn sS lS rS, (i2, .inl (cI, 40, .inl (nF rc))), zM m0 m1 m2 m3 m4 m5 mn mi, (m5, .inl (cI, 104, .inl (nF su)))]) (w1 := []) hP hD hS hA [] [0, 1, 2, 3, 4, 5, 6] rfl rfl (by decide) (by decide) (va_runS (As := [.long ((cs_set ch n) &&& (sS ^^^ (-1)))]) (rest := [.int (nI n)]) ⟨hx, hb, hml, hown, htb⟩ (oc_B_bitCount l dC dI cI cJ cZ cP _ ((cs_set ch n) &&& (sS ^^^ (-1))) ) (va_cwS 1 htb (gw_S kw_232 kw_233 kw_6 kw_234) rfl rfl rfl (by decide +kernel) ⟨Nat.le_of_ble_eq_true rfl, Nat.le_of_ble_eq_true rfl⟩) (pr_S hP hK hD [] (by decide) rfl rfl) rfl rfl hl.1 rfl (lv_room (Nat.le_of_ble_eq_true rfl)) dc_O_loseUnstable_22 ⟨Nat.le_of_ble_eq_true rfl, Nat.le_of_ble_eq_true rfl⟩) (fun H locs hP hD hS => ?_)
  have hP : va_P (dC, dI) clsL [zO o0 oa i0 m0 nn, zP h a b dn n oc le ll li lc kc rp, (a, .inl (cI, 40, .inl (nF ch))), zI i0 i1 i2 i3 i4 cn sS lS rS, (i2, .inl (cI, 40, .inl (nF rc))), zM m0 m1 m2 m3 m4 m5 mn mi, (m5, .inl (cI, 104, .inl (nF su)))] H := hP.sub (ws' := [zO o0 oa i0 m0 nn, zP h a b dn n oc le ll li lc kc rp, (a, .inl (cI, 40, .inl (nF ch))), zI i0 i1 i2 i3 i4 cn sS lS rS, (i2, .inl (cI, 40, .inl (nF rc))), zM m0 m1 m2 m3 m4 m5 mn mi, (m5, .inl (cI, 104, .inl (nF su)))]) [0, 1, 2, 3, 4, 5, 6] rfl
  have hD : va_D A [zO o0 oa i0 m0 nn, zP h a b dn n oc le ll li lc kc rp, (a, .inl (cI, 40, .inl (nF ch))), zI i0 i1 i2 i3 i4 cn sS lS rS, (i2, .inl (cI, 40, .inl (nF rc))), zM m0 m1 m2 m3 m4 m5 mn mi, (m5, .inl (cI, 104, .inl (nF su)))] := hD.sub (ws' := [zO o0 oa i0 m0 nn, zP h a b dn n oc le ll li lc kc rp, (a, .inl (cI, 40, .inl (nF ch))), zI i0 i1 i2 i3 i4 cn sS lS rS, (i2, .inl (cI, 40, .inl (nF rc))), zM m0 m1 m2 m3 m4 m5 mn mi, (m5, .inl (cI, 104, .inl (nF su)))]) [0, 1, 2, 3, 4, 5, 6] (by decide) rfl
  refine lv_isub hx hb dc_O_loseUnstable_25 ?_
  refine tp_i (y := nI kp) (by rw [pk_sub (by omega)]; congr 1; omega) ?_
  refine lv_istore (lv' := [(4, .int (nI kp)), (2, .long ((cs_set ch n) &&& (sS ^^^ (-1)))), (0, .ref o0), (1, .ref h)]) hx hb dc_O_loseUnstable_26 hl (by decide) rfl (fun ls hl => ?_)
  refine lv_iload hx hb dc_O_loseUnstable_28 (lv_at hl 0 rfl) ?_
  refine lv_istore (lv' := [(5, .int (nI kp)), (4, .int (nI kp)), (2, .long ((cs_set ch n) &&& (sS ^^^ (-1)))), (0, .ref o0), (1, .ref h)]) hx hb dc_O_loseUnstable_30 hl (by decide) rfl (fun ls hl => ?_)
  refine wl_ 32 (fun (x : Nat × (Nat → Nat)) => n - x.1) (fun (x : Nat × (Nat → Nat)) (H : Heap) (locs : List Loc) (ls : Array Slot) => (kp ≤ x.1 ∧ x.1 ≤ n ∧ x.2 = lu_F su (fun i => rc (ch i)) kp (x.1 - kp)) ∧ va_P (dC, dI) clsL [zO o0 oa i0 m0 nn, zP h a b dn n oc le ll li lc kc rp, (a, .inl (cI, 40, .inl (nF ch))), zI i0 i1 i2 i3 i4 cn sS lS rS, (i2, .inl (cI, 40, .inl (nF rc))), zM m0 m1 m2 m3 m4 m5 mn mi, (m5, .inl (cI, 104, .inl (nF x.2)))] H ∧ va_D A [zO o0 oa i0 m0 nn, zP h a b dn n oc le ll li lc kc rp, (a, .inl (cI, 40, .inl (nF ch))), zI i0 i1 i2 i3 i4 cn sS lS rS, (i2, .inl (cI, 40, .inl (nF rc))), zM m0 m1 m2 m3 m4 m5 mn mi, (m5, .inl (cI, 104, .inl (nF x.2)))] ∧ va_S A s.heap H locs ∧ lv_has ls 6 [(5, .int (nI x.1)), (4, .int (nI kp)), (2, .long ((cs_set ch n) &&& (sS ^^^ (-1)))), (1, .ref h), (0, .ref o0)]) ?_ (kp, su) _ _ _ ⟨⟨Nat.le_refl _, by first | omega | (dsimp only; omega), by rw [Nat.sub_self]; rfl⟩, hP, hD, hS, lv_sub hl [0, 1, 2, 4, 3] rfl⟩
  rintro ⟨k, g⟩ H locs ls ⟨hI, hP, hD, hS, hl⟩ ih
  replace hI : kp ≤ k ∧ k ≤ n ∧ g = lu_F su (fun i => rc (ch i)) kp (k - kp) := hI
  replace hP : va_P (dC, dI) clsL [zO o0 oa i0 m0 nn, zP h a b dn n oc le ll li lc kc rp, (a, .inl (cI, 40, .inl (nF ch))), zI i0 i1 i2 i3 i4 cn sS lS rS, (i2, .inl (cI, 40, .inl (nF rc))), zM m0 m1 m2 m3 m4 m5 mn mi, (m5, .inl (cI, 104, .inl (nF g)))] H := hP
  replace hD : va_D A [zO o0 oa i0 m0 nn, zP h a b dn n oc le ll li lc kc rp, (a, .inl (cI, 40, .inl (nF ch))), zI i0 i1 i2 i3 i4 cn sS lS rS, (i2, .inl (cI, 40, .inl (nF rc))), zM m0 m1 m2 m3 m4 m5 mn mi, (m5, .inl (cI, 104, .inl (nF g)))] := hD
  replace hl : lv_has ls 6 [(5, .int (nI k)), (4, .int (nI kp)), (2, .long ((cs_set ch n) &&& (sS ^^^ (-1)))), (1, .ref h), (0, .ref o0)] := hl
  have hk1 := hI.1
  have hk2 := hI.2.1
  refine lv_iload hx hb dc_O_loseUnstable_32 (lv_at hl 0 rfl) ?_
  refine lv_aload_n hx hb dc_O_loseUnstable_34 rfl (lv_at hl 3 rfl) ?_
  refine va_get (D := (dC, dI)) (ci := 2) (v := .int (nI n)) (C := cn_P) (T := ft_P) (N := 11) hx hb htb ki_P hown hK hP 1 rfl rfl 3 (by decide) (htb _ kw_29) (fun _ h9 => h9) rfl dc_O_loseUnstable_35 ?_
  refine lv_icmp_ge (tgt := 71) hx hb dc_O_loseUnstable_38 (by decide) (fun hc => ?_) (fun hc => ?_)
  · have hk : n ≤ k := (nI_leI (by omega) (by omega)).mp hc
    refine lv_aload_n hx hb dc_O_loseUnstable_71 rfl (lv_at hl 3 rfl) ?_
    refine lv_iload hx hb dc_O_loseUnstable_72 (lv_at hl 1 rfl) ?_
    refine va_put (D := (dC, dI)) (ci := 2) (v := .int (nI kp)) (ty := .int) (C := cn_P) (T := ft_P) (N := 11) hx hb htb ki_P fy_P fy_P_ok nm_P_d hown hK hP hD hS 1 rfl rfl 3 (by decide) (htb _ kw_29) (fun _ h9 => h9) rfl (by decide +kernel) rfl rfl (Nat.le_of_ble_eq_true rfl) dc_O_loseUnstable_74 (fun H locs hP hD hS => ?_)
    have hP : va_P (dC, dI) clsL [zO o0 oa i0 m0 nn, zP h a b dn kp oc le ll li lc kc rp, (a, .inl (cI, 40, .inl (nF ch))), zI i0 i1 i2 i3 i4 cn sS lS rS, (i2, .inl (cI, 40, .inl (nF rc))), zM m0 m1 m2 m3 m4 m5 mn mi, (m5, .inl (cI, 104, .inl (nF g)))] H := hP
    have hD : va_D A [zO o0 oa i0 m0 nn, zP h a b dn kp oc le ll li lc kc rp, (a, .inl (cI, 40, .inl (nF ch))), zI i0 i1 i2 i3 i4 cn sS lS rS, (i2, .inl (cI, 40, .inl (nF rc))), zM m0 m1 m2 m3 m4 m5 mn mi, (m5, .inl (cI, 104, .inl (nF g)))] := hD
    refine lv_aload_n hx hb dc_O_loseUnstable_77 rfl (lv_at hl 3 rfl) ?_
    refine lv_lload_n hx hb dc_O_loseUnstable_78 rfl (lv_at hl 2 rfl) ?_
    refine va_put (D := (dC, dI)) (ci := 2) (v := .long ((cs_set ch n) &&& (sS ^^^ (-1)))) (ty := .long) (C := cn_P) (T := ft_P) (N := 11) hx hb htb ki_P fy_P fy_P_ok nm_P_d hown hK hP hD hS 1 rfl rfl 7 (by decide) (htb _ kw_37) (fun _ h9 => h9) rfl (by decide +kernel) rfl rfl (Nat.le_of_ble_eq_true rfl) dc_O_loseUnstable_79 (fun H locs hP hD hS => ?_)
    have hP : va_P (dC, dI) clsL [zO o0 oa i0 m0 nn, zP h a b dn kp oc le ll ((cs_set ch n) &&& (sS ^^^ (-1))) lc kc rp, (a, .inl (cI, 40, .inl (nF ch))), zI i0 i1 i2 i3 i4 cn sS lS rS, (i2, .inl (cI, 40, .inl (nF rc))), zM m0 m1 m2 m3 m4 m5 mn mi, (m5, .inl (cI, 104, .inl (nF g)))] H := hP
    have hD : va_D A [zO o0 oa i0 m0 nn, zP h a b dn kp oc le ll ((cs_set ch n) &&& (sS ^^^ (-1))) lc kc rp, (a, .inl (cI, 40, .inl (nF ch))), zI i0 i1 i2 i3 i4 cn sS lS rS, (i2, .inl (cI, 40, .inl (nF rc))), zM m0 m1 m2 m3 m4 m5 mn mi, (m5, .inl (cI, 104, .inl (nF g)))] := hD
    refine lv_aload_n hx hb dc_O_loseUnstable_82 rfl (lv_at hl 4 rfl) ?_
    refine va_get (D := (dC, dI)) (ci := 3) (v := .ref i0) (C := cn_O) (T := ft_O) (N := 4) hx hb htb ki_O hown hK hP 0 rfl rfl 1 (by decide) (htb _ kw_140) (fun _ h9 => h9) rfl dc_O_loseUnstable_83 ?_
    refine lv_dup hx hb dc_O_loseUnstable_86 rfl ?_
    refine va_get (D := (dC, dI)) (ci := 0) (v := .long lS) (C := cn_I) (T := ft_I) (N := 8) hx hb htb ki_I hown hK hP 3 rfl rfl 6 (by decide) (htb _ kw_84) (fun _ h9 => h9) rfl dc_O_loseUnstable_87 ?_
    refine lv_lload_n hx hb dc_O_loseUnstable_90 rfl (lv_at hl 2 rfl) ?_
    refine lv_lor hx hb dc_O_loseUnstable_91 ?_
    refine va_put (D := (dC, dI)) (ci := 0) (v := .long (lS ||| ((cs_set ch n) &&& (sS ^^^ (-1))))) (ty := .long) (C := cn_I) (T := ft_I) (N := 8) hx hb htb ki_I fy_I fy_I_ok nm_I_d hown hK hP hD hS 3 rfl rfl 6 (by decide) (htb _ kw_84) (fun _ h9 => h9) rfl (by decide +kernel) rfl rfl (Nat.le_of_ble_eq_true rfl) dc_O_loseUnstable_92 (fun H locs hP hD hS => ?_)
    have hP : va_P (dC, dI) clsL [zO o0 oa i0 m0 nn, zP h a b dn kp oc le ll ((cs_set ch n) &&& (sS ^^^ (-1))) lc kc rp, (a, .inl (cI, 40, .inl (nF ch))), zI i0 i1 i2 i3 i4 cn sS (lS ||| ((cs_set ch n) &&& (sS ^^^ (-1)))) rS, (i2, .inl (cI, 40, .inl (nF rc))), zM m0 m1 m2 m3 m4 m5 mn mi, (m5, .inl (cI, 104, .inl (nF g)))] H := hP
    have hD : va_D A [zO o0 oa i0 m0 nn, zP h a b dn kp oc le ll ((cs_set ch n) &&& (sS ^^^ (-1))) lc kc rp, (a, .inl (cI, 40, .inl (nF ch))), zI i0 i1 i2 i3 i4 cn sS (lS ||| ((cs_set ch n) &&& (sS ^^^ (-1)))) rS, (i2, .inl (cI, 40, .inl (nF rc))), zM m0 m1 m2 m3 m4 m5 mn mi, (m5, .inl (cI, 104, .inl (nF g)))] := hD
    refine lv_lload_n hx hb dc_O_loseUnstable_95 rfl (lv_at hl 2 rfl) ?_
    refine cl_i (wc := []) (wr := [zO o0 oa i0 m0 nn, zP h a b dn kp oc le ll ((cs_set ch n) &&& (sS ^^^ (-1))) lc kc rp, (a, .inl (cI, 40, .inl (nF ch))), zI i0 i1 i2 i3 i4 cn sS (lS ||| ((cs_set ch n) &&& (sS ^^^ (-1)))) rS, (i2, .inl (cI, 40, .inl (nF rc))), zM m0 m1 m2 m3 m4 m5 mn mi, (m5, .inl (cI, 104, .inl (nF g)))]) (w1 := []) hP hD hS hA [] [0, 1, 2, 3, 4, 5, 6] rfl rfl (by decide) (by decide) (va_runS (As := [.long ((cs_set ch n) &&& (sS ^^^ (-1)))]) (rest := []) ⟨hx, hb, hml, hown, htb⟩ (oc_B_bitCount l dC dI cI cJ cZ cP _ ((cs_set ch n) &&& (sS ^^^ (-1))) ) (va_cwS 1 htb (gw_S kw_232 kw_233 kw_6 kw_234) rfl rfl rfl (by decide +kernel) ⟨Nat.le_of_ble_eq_true rfl, Nat.le_of_ble_eq_true rfl⟩) (pr_S hP hK hD [] (by decide) rfl rfl) rfl rfl hl.1 rfl (lv_room (Nat.le_of_ble_eq_true rfl)) dc_O_loseUnstable_96 ⟨Nat.le_of_ble_eq_true rfl, Nat.le_of_ble_eq_true rfl⟩) (fun H locs hP hD hS => ?_)
    have hP : va_P (dC, dI) clsL [zO o0 oa i0 m0 nn, zP h a b dn kp oc le ll ((cs_set ch n) &&& (sS ^^^ (-1))) lc kc rp, (a, .inl (cI, 40, .inl (nF ch))), zI i0 i1 i2 i3 i4 cn sS (lS ||| ((cs_set ch n) &&& (sS ^^^ (-1)))) rS, (i2, .inl (cI, 40, .inl (nF rc))), zM m0 m1 m2 m3 m4 m5 mn mi, (m5, .inl (cI, 104, .inl (nF g)))] H := hP.sub (ws' := [zO o0 oa i0 m0 nn, zP h a b dn kp oc le ll ((cs_set ch n) &&& (sS ^^^ (-1))) lc kc rp, (a, .inl (cI, 40, .inl (nF ch))), zI i0 i1 i2 i3 i4 cn sS (lS ||| ((cs_set ch n) &&& (sS ^^^ (-1)))) rS, (i2, .inl (cI, 40, .inl (nF rc))), zM m0 m1 m2 m3 m4 m5 mn mi, (m5, .inl (cI, 104, .inl (nF g)))]) [0, 1, 2, 3, 4, 5, 6] rfl
    have hD : va_D A [zO o0 oa i0 m0 nn, zP h a b dn kp oc le ll ((cs_set ch n) &&& (sS ^^^ (-1))) lc kc rp, (a, .inl (cI, 40, .inl (nF ch))), zI i0 i1 i2 i3 i4 cn sS (lS ||| ((cs_set ch n) &&& (sS ^^^ (-1)))) rS, (i2, .inl (cI, 40, .inl (nF rc))), zM m0 m1 m2 m3 m4 m5 mn mi, (m5, .inl (cI, 104, .inl (nF g)))] := hD.sub (ws' := [zO o0 oa i0 m0 nn, zP h a b dn kp oc le ll ((cs_set ch n) &&& (sS ^^^ (-1))) lc kc rp, (a, .inl (cI, 40, .inl (nF ch))), zI i0 i1 i2 i3 i4 cn sS (lS ||| ((cs_set ch n) &&& (sS ^^^ (-1)))) rS, (i2, .inl (cI, 40, .inl (nF rc))), zM m0 m1 m2 m3 m4 m5 mn mi, (m5, .inl (cI, 104, .inl (nF g)))]) [0, 1, 2, 3, 4, 5, 6] (by decide) rfl
    obtain rfl : n = k := by omega
    have hP8 := hP.sub (ws' := [zO o0 oa i0 m0 nn, zP h a b dn kp oc le ll ((cs_set ch n) &&& (sS ^^^ (-1))) lc kc rp, (a, .inl (cI, 40, .inl (nF ch))), zI i0 i1 i2 i3 i4 cn sS (lS ||| ((cs_set ch n) &&& (sS ^^^ (-1)))) rS, (i2, .inl (cI, 40, .inl (nF rc))), zM m0 m1 m2 m3 m4 m5 mn mi, (m5, .inl (cI, 104, .inl (nF g)))]) [0, 1, 2, 3, 4, 5, 6] rfl
    have hD8 := hD.sub (ws' := [zO o0 oa i0 m0 nn, zP h a b dn kp oc le ll ((cs_set ch n) &&& (sS ^^^ (-1))) lc kc rp, (a, .inl (cI, 40, .inl (nF ch))), zI i0 i1 i2 i3 i4 cn sS (lS ||| ((cs_set ch n) &&& (sS ^^^ (-1)))) rS, (i2, .inl (cI, 40, .inl (nF rc))), zM m0 m1 m2 m3 m4 m5 mn mi, (m5, .inl (cI, 104, .inl (nF g)))]) [0, 1, 2, 3, 4, 5, 6] (by decide) rfl
    have hW8 : ([zO o0 oa i0 m0 nn, zP h a b dn kp oc le ll ((cs_set ch n) &&& (sS ^^^ (-1))) lc kc rp, (a, .inl (cI, 40, .inl (nF ch))), zI i0 i1 i2 i3 i4 cn sS (lS ||| ((cs_set ch n) &&& (sS ^^^ (-1)))) rS, (i2, .inl (cI, 40, .inl (nF rc))), zM m0 m1 m2 m3 m4 m5 mn mi, (m5, .inl (cI, 104, .inl (nF g)))] : va_W) = [zO o0 oa i0 m0 nn, zP h a b dn kp oc le ll ((cs_set ch n) &&& (sS ^^^ (-1))) lc kc rp, (a, .inl (cI, 40, .inl (nF ch))), zI i0 i1 i2 i3 i4 cn sS (lS ||| ((cs_set ch n) &&& (sS ^^^ (-1)))) rS, (i2, .inl (cI, 40, .inl (nF rc))), zM m0 m1 m2 m3 m4 m5 mn mi, (m5, .inl (cI, 104, .inl (nF (lu_F su (fun i => rc (ch i)) kp (n - kp)))))] := by rw [hI.2.2]
    rw [hW8] at hP8 hD8
    have hP9 := hP8
    have hD9 := hD8
    exact W.iret (v := nI (pc64 ((cs_set ch n) &&& (sS ^^^ (-1))))) hx hb hr (fun t ht hW => ⟨⟨_, (), rfl, rfl, by rw [ht]; exact hP9, va_K.moved hW.alike hK, hD9⟩, hS.F ht⟩) hS.2.2 dc_O_loseUnstable_99
  · have hk : k < n := Nat.lt_of_not_le (fun h9 => hc ((nI_leI (by omega) (by omega)).mpr h9))
    refine lv_aload_n hx hb dc_O_loseUnstable_41 rfl (lv_at hl 4 rfl) ?_
    refine va_get (D := (dC, dI)) (ci := 3) (v := .ref m0) (C := cn_O) (T := ft_O) (N := 4) hx hb htb ki_O hown hK hP 0 rfl rfl 2 (by decide) (htb _ kw_141) (fun _ h9 => h9) rfl dc_O_loseUnstable_42 ?_
    refine va_get (D := (dC, dI)) (ci := 1) (v := .ref m5) (C := cn_M) (T := ft_M) (N := 7) hx hb htb ki_M hown hK hP 5 rfl rfl 4 (by decide) (htb _ kw_120) (fun _ h9 => h9) rfl dc_O_loseUnstable_45 ?_
    refine lv_aload_n hx hb dc_O_loseUnstable_48 rfl (lv_at hl 4 rfl) ?_
    refine va_get (D := (dC, dI)) (ci := 3) (v := .ref i0) (C := cn_O) (T := ft_O) (N := 4) hx hb htb ki_O hown hK hP 0 rfl rfl 1 (by decide) (htb _ kw_140) (fun _ h9 => h9) rfl dc_O_loseUnstable_49 ?_
    refine va_get (D := (dC, dI)) (ci := 0) (v := .ref i2) (C := cn_I) (T := ft_I) (N := 8) hx hb htb ki_I hown hK hP 3 rfl rfl 1 (by decide) (htb _ kw_75) (fun _ h9 => h9) rfl dc_O_loseUnstable_52 ?_
    refine lv_aload_n hx hb dc_O_loseUnstable_55 rfl (lv_at hl 3 rfl) ?_
    refine va_get (D := (dC, dI)) (ci := 2) (v := .ref a) (C := cn_P) (T := ft_P) (N := 11) hx hb htb ki_P hown hK hP 1 rfl rfl 0 (by decide) (htb _ kw_23) (fun _ h9 => h9) rfl dc_O_loseUnstable_56 ?_
    refine lv_iload hx hb dc_O_loseUnstable_59 (lv_at hl 0 rfl) ?_
    refine wa_nld (k := k) hx hb hK hP 2 0 rfl rfl (by omega) (by omega) dc_O_loseUnstable_61 ?_
    refine wa_nld (k := ch k) hx hb hK hP 4 0 rfl rfl (hch k hk) (by omega) dc_O_loseUnstable_62 ?_
    refine lv_iconst (v := nI 2) hx hb dc_O_loseUnstable_63 (by decide) ?_
    refine wa_nst (k := rc (ch k)) (x := 2) hx hb hK hP hD hS 6 0 rfl rfl (hrc k hk) (by omega) dc_O_loseUnstable_64 (fun H locs hP hD hS => ?_)
    have hP : va_P (dC, dI) clsL [zO o0 oa i0 m0 nn, zP h a b dn n oc le ll li lc kc rp, (a, .inl (cI, 40, .inl (nF ch))), zI i0 i1 i2 i3 i4 cn sS lS rS, (i2, .inl (cI, 40, .inl (nF rc))), zM m0 m1 m2 m3 m4 m5 mn mi, (m5, .inl (cI, 104, .inl (nF (va_up g (rc (ch k)) 2))))] H := hP
    have hD : va_D A [zO o0 oa i0 m0 nn, zP h a b dn n oc le ll li lc kc rp, (a, .inl (cI, 40, .inl (nF ch))), zI i0 i1 i2 i3 i4 cn sS lS rS, (i2, .inl (cI, 40, .inl (nF rc))), zM m0 m1 m2 m3 m4 m5 mn mi, (m5, .inl (cI, 104, .inl (nF (va_up g (rc (ch k)) 2))))] := hD
    refine lv_iinc (k := 0) (v := nI (k + 1)) (lv' := [(5, .int (nI (k + 1))), (4, .int (nI kp)), (2, .long ((cs_set ch n) &&& (sS ^^^ (-1)))), (1, .ref h), (0, .ref o0)]) hx hb dc_O_loseUnstable_65 hl rfl (nI_inc1 _) (by decide) rfl (fun ls hl => ?_)
    refine lv_goto (tgt := 32) hx hb dc_O_loseUnstable_68 (by decide) ?_
    exact ih (k + 1, va_up g (rc (ch k)) 2) H locs ls (by first | omega | (dsimp only; omega)) ⟨⟨by first | omega | (dsimp only; omega), by first | omega | (dsimp only; omega), by rw [hI.2.2, show k + 1 - kp = (k - kp) + 1 by omega]; simp [lu_F, show kp + (k - kp) = k by omega]⟩, hP, hD, hS, lv_sub hl [0, 1, 2, 3, 4] rfl⟩

set_option maxHeartbeats 4000000 in
set_option maxRecDepth 100000 in
theorem oc_O_crash_no (l : Launch) (dC : Nat → ClassId) (dI : Nat → Nat → Nat) (cI cJ cZ cP : ClassId) (sz : Nat) (o0 : Nat) (oa : Nat) (i0 : Nat) (m0 : Nat) (nn : Nat) (y : Int32) (hy : y < 0 ∨ nI 3 ≤ y) : mt_I l mn_O_crash bc_O_crash 3 (some .int) ({ frames := 2, cells := 0, slots := 0, locals := 41 }) (dC, dI) (TYS cI cJ cZ cP) sz [.ref o0, .int y] [zO o0 oa i0 m0 nn] [zO o0 oa i0 m0 nn] ((-1)) 0 0 := by
  unfold mt_I
  refine Met.ofW (cc := bc_O_crash) (maxL := 3) (ret := (some .int)) (by decide) rfl ?_
  intro p e s m args below meth c s₁ B hml hv
  obtain ⟨rfl, hsz, hP, hK, hD0⟩ := hv
  have hx := B.exec
  have hb := B.bytes
  have hr := B.returns
  have hts := atoms_spec (ws := wsT mn_O_crash bc_O_crash 3 (some .int)) B.pre
  have htb : ∀ w ∈ gtbl, w.before _ s = true := fun w h => hts w (List.mem_cons_of_mem _ h)
  have hown : s.vm.findClass cn_O = some m.cls := findClass_of_methodNamed B.named
  have hlocks := B.notSynchronized
  subst hsz
  have hD := hD0.self (sz := s.heap.size)
  generalize hAe : va_A [zO o0 oa i0 m0 nn] s.heap.size = A at hD ⊢
  have hA : ∀ q : Nat, s.heap.size ≤ q → A q := fun q h => by rw [← hAe]; exact Or.inr h
  have hS : va_S A s.heap s.heap [] := va_S.rf
  have hP : va_P (dC, dI) clsL [zO o0 oa i0 m0 nn] s.heap := hP
  have hl := lv_entry ([.ref o0, .int y]) (n := 3) (Nat.le_of_ble_eq_true rfl)
  rw [lg_entry_eq]
  generalize (lg_sl ([.ref o0, .int y]) ++ List.replicate (3 - (lg_sl ([.ref o0, .int y])).length) Slot.unset).toArray = ls at hl ⊢
  have hl : lv_has ls 3 [(0, .ref o0), (1, .int y)] := hl
  refine lv_aload_n hx hb dc_O_crash_0 rfl (lv_at hl 0 rfl) ?_
  refine lv_iload_n hx hb dc_O_crash_1 rfl (lv_at hl 1 rfl) ?_
  refine cl_i (wc := [zO o0 oa i0 m0 nn]) (wr := []) (w1 := [zO o0 oa i0 m0 nn]) hP hD hS hA [0] [] rfl rfl (by decide) (by decide) (va_runV (As := [.int y]) (rest := []) ⟨hx, hb, hml, hown, htb⟩ (oc_O_isUp_no l dC dI cI cJ cZ cP _ o0 oa i0 m0 nn y (by first | assumption | omega)) (cwV 1 htb (gw_V kw_246 kw_248 kp_7 kw_1 kw_249) rfl rfl rfl (by decide +kernel) ⟨Nat.le_of_ble_eq_true rfl, Nat.le_of_ble_eq_true rfl⟩) (pr_V hP hK hD (va_recv hK hP (ci := 3) (q0 := 0) rfl rfl) [0] (by decide) rfl rfl) rfl rfl hl.1 rfl (lv_room (Nat.le_of_ble_eq_true rfl)) dc_O_crash_2 ⟨Nat.le_of_ble_eq_true rfl, Nat.le_of_ble_eq_true rfl⟩) (fun H locs hP hD hS => ?_)
  have hP : va_P (dC, dI) clsL [zO o0 oa i0 m0 nn] H := hP.sub (ws' := [zO o0 oa i0 m0 nn]) [0] rfl
  have hD : va_D A [zO o0 oa i0 m0 nn] := hD.sub (ws' := [zO o0 oa i0 m0 nn]) [0] (by decide) rfl
  refine lv_if_ne (tgt := 10) hx hb dc_O_crash_5 (by decide) (fun hc => ?_) (fun hc => ?_)
  · have h1 : false = true := bI_n0.mp hc
    exact absurd h1 (by decide)
  have h1 : false = false := bI_0.mp hc
  refine lv_iconst (v := (-1)) hx hb dc_O_crash_8 (by decide) ?_
  have hP9 := hP.sub (ws' := [zO o0 oa i0 m0 nn]) [0] rfl
  have hD9 := hD.sub (ws' := [zO o0 oa i0 m0 nn]) [0] (by decide) rfl
  exact W.iret (v := (-1)) hx hb hr (fun t ht hW => ⟨⟨_, (), rfl, rfl, by rw [ht]; exact hP9, va_K.moved hW.alike hK, hD9⟩, hS.F ht⟩) hS.2.2 dc_O_crash_9

set_option maxHeartbeats 4000000 in
set_option maxRecDepth 100000 in
theorem oc_O_crash_dn (l : Launch) (dC : Nat → ClassId) (dI : Nat → Nat → Nat) (cI cJ cZ cP : ClassId) (sz : Nat) (o0 : Nat) (oa : Nat) (i0 : Nat) (m0 : Nat) (nn : Nat) (pf : Nat → Option Nat) (h : Nat) (a : Nat) (b : Nat) (dn : Bool) (n : Nat) (oc : Nat) (le : Nat) (ll : Int64) (li : Int64) (lc : Nat) (kc : Nat) (rp : Int32) (j : Nat) (hj : j < 3) (hf : pf j = some h) (hdn : dn = true) : mt_I l mn_O_crash bc_O_crash 3 (some .int) ({ frames := 2, cells := 0, slots := 0, locals := 41 }) (dC, dI) (TYS cI cJ cZ cP) sz [.ref o0, .int (nI j)] [zO o0 oa i0 m0 nn, (oa, .inl (cP, 3, .inr (.inr (.inr (.inr pf))))), zP h a b dn n oc le ll li lc kc rp] [zO o0 oa i0 m0 nn, (oa, .inl (cP, 3, .inr (.inr (.inr (.inr pf))))), zP h a b dn n oc le ll li lc kc rp] ((-1)) 0 0 := by
  unfold mt_I
  refine Met.ofW (cc := bc_O_crash) (maxL := 3) (ret := (some .int)) (by decide) rfl ?_
  intro p e s m args below meth c s₁ B hml hv
  obtain ⟨rfl, hsz, hP, hK, hD0⟩ := hv
  have hx := B.exec
  have hb := B.bytes
  have hr := B.returns
  have hts := atoms_spec (ws := wsT mn_O_crash bc_O_crash 3 (some .int)) B.pre
  have htb : ∀ w ∈ gtbl, w.before _ s = true := fun w h => hts w (List.mem_cons_of_mem _ h)
  have hown : s.vm.findClass cn_O = some m.cls := findClass_of_methodNamed B.named
  have hlocks := B.notSynchronized
  subst hsz
  have hD := hD0.self (sz := s.heap.size)
  generalize hAe : va_A [zO o0 oa i0 m0 nn, (oa, .inl (cP, 3, .inr (.inr (.inr (.inr pf))))), zP h a b dn n oc le ll li lc kc rp] s.heap.size = A at hD ⊢
  have hA : ∀ q : Nat, s.heap.size ≤ q → A q := fun q h => by rw [← hAe]; exact Or.inr h
  have hS : va_S A s.heap s.heap [] := va_S.rf
  have hP : va_P (dC, dI) clsL [zO o0 oa i0 m0 nn, (oa, .inl (cP, 3, .inr (.inr (.inr (.inr pf))))), zP h a b dn n oc le ll li lc kc rp] s.heap := hP
  have hl := lv_entry ([.ref o0, .int (nI j)]) (n := 3) (Nat.le_of_ble_eq_true rfl)
  rw [lg_entry_eq]
  generalize (lg_sl ([.ref o0, .int (nI j)]) ++ List.replicate (3 - (lg_sl ([.ref o0, .int (nI j)])).length) Slot.unset).toArray = ls at hl ⊢
  have hl : lv_has ls 3 [(0, .ref o0), (1, .int (nI j))] := hl
  refine lv_aload_n hx hb dc_O_crash_0 rfl (lv_at hl 0 rfl) ?_
  refine lv_iload_n hx hb dc_O_crash_1 rfl (lv_at hl 1 rfl) ?_
  refine cl_i (wc := [zO o0 oa i0 m0 nn, (oa, .inl (cP, 3, .inr (.inr (.inr (.inr pf))))), zP h a b dn n oc le ll li lc kc rp]) (wr := []) (w1 := [zO o0 oa i0 m0 nn, (oa, .inl (cP, 3, .inr (.inr (.inr (.inr pf))))), zP h a b dn n oc le ll li lc kc rp]) hP hD hS hA [0, 1, 2] [] rfl rfl (by decide) (by decide) (va_runV (As := [.int (nI j)]) (rest := []) ⟨hx, hb, hml, hown, htb⟩ (oc_O_isUp l dC dI cI cJ cZ cP _ o0 oa i0 m0 nn pf h a b dn n oc le ll li lc kc rp j (by first | assumption | omega) (by first | assumption | omega)) (cwV 1 htb (gw_V kw_246 kw_248 kp_7 kw_1 kw_249) rfl rfl rfl (by decide +kernel) ⟨Nat.le_of_ble_eq_true rfl, Nat.le_of_ble_eq_true rfl⟩) (pr_V hP hK hD (va_recv hK hP (ci := 3) (q0 := 0) rfl rfl) [0, 1, 2] (by decide) rfl rfl) rfl rfl hl.1 rfl (lv_room (Nat.le_of_ble_eq_true rfl)) dc_O_crash_2 ⟨Nat.le_of_ble_eq_true rfl, Nat.le_of_ble_eq_true rfl⟩) (fun H locs hP hD hS => ?_)
  have hP : va_P (dC, dI) clsL [zO o0 oa i0 m0 nn, (oa, .inl (cP, 3, .inr (.inr (.inr (.inr pf))))), zP h a b dn n oc le ll li lc kc rp] H := hP.sub (ws' := [zO o0 oa i0 m0 nn, (oa, .inl (cP, 3, .inr (.inr (.inr (.inr pf))))), zP h a b dn n oc le ll li lc kc rp]) [0, 1, 2] rfl
  have hD : va_D A [zO o0 oa i0 m0 nn, (oa, .inl (cP, 3, .inr (.inr (.inr (.inr pf))))), zP h a b dn n oc le ll li lc kc rp] := hD.sub (ws' := [zO o0 oa i0 m0 nn, (oa, .inl (cP, 3, .inr (.inr (.inr (.inr pf))))), zP h a b dn n oc le ll li lc kc rp]) [0, 1, 2] (by decide) rfl
  refine lv_if_ne (tgt := 10) hx hb dc_O_crash_5 (by decide) (fun hc => ?_) (fun hc => ?_)
  · have h1 : (!dn) = true := bI_n0.mp hc
    exact absurd h1 (by rw [hdn]; decide)
  have h1 : (!dn) = false := bI_0.mp hc
  refine lv_iconst (v := (-1)) hx hb dc_O_crash_8 (by decide) ?_
  have hP9 := hP.sub (ws' := [zO o0 oa i0 m0 nn, (oa, .inl (cP, 3, .inr (.inr (.inr (.inr pf))))), zP h a b dn n oc le ll li lc kc rp]) [0, 1, 2] rfl
  have hD9 := hD.sub (ws' := [zO o0 oa i0 m0 nn, (oa, .inl (cP, 3, .inr (.inr (.inr (.inr pf))))), zP h a b dn n oc le ll li lc kc rp]) [0, 1, 2] (by decide) rfl
  exact W.iret (v := (-1)) hx hb hr (fun t ht hW => ⟨⟨_, (), rfl, rfl, by rw [ht]; exact hP9, va_K.moved hW.alike hK, hD9⟩, hS.F ht⟩) hS.2.2 dc_O_crash_9

set_option maxHeartbeats 4000000 in
set_option maxRecDepth 100000 in
theorem oc_O_crash (l : Launch) (dC : Nat → ClassId) (dI : Nat → Nat → Nat) (cI cJ cZ cP : ClassId) (sz : Nat) (o0 : Nat) (oa : Nat) (i0 : Nat) (m0 : Nat) (nn : Nat) (pf : Nat → Option Nat) (h : Nat) (a : Nat) (b : Nat) (dn : Bool) (n : Nat) (oc : Nat) (le : Nat) (ll : Int64) (li : Int64) (lc : Nat) (kc : Nat) (rp : Int32) (i1 : Nat) (i2 : Nat) (i3 : Nat) (i4 : Nat) (cn : Nat) (sS : Int64) (lS : Int64) (rS : Int64) (m1 : Nat) (m2 : Nat) (m3 : Nat) (m4 : Nat) (m5 : Nat) (mn : Nat) (mi : Nat) (ch : Nat → Nat) (rc : Nat → Nat) (su : Nat → Nat) (kp : Nat) (j : Nat) (hj : j < 3) (hf : pf j = some h) (hdn : dn = false) (hn : n ≤ 40) (hkp : kp + pc64 ((cs_set ch n) &&& (sS ^^^ (-1))) = n) (hch : ∀ i, i < n → ch i < 40) (hrc : ∀ i, i < n → rc (ch i) < 104) : mt_I l mn_O_crash bc_O_crash 3 (some .int) ({ frames := 2, cells := 0, slots := 0, locals := 48 }) (dC, dI) (TYS cI cJ cZ cP) sz [.ref o0, .int (nI j)] [zO o0 oa i0 m0 nn, (oa, .inl (cP, 3, .inr (.inr (.inr (.inr pf))))), zP h a b dn n oc le ll li lc kc rp, (a, .inl (cI, 40, .inl (nF ch))), zI i0 i1 i2 i3 i4 cn sS lS rS, (i2, .inl (cI, 40, .inl (nF rc))), zM m0 m1 m2 m3 m4 m5 mn mi, (m5, .inl (cI, 104, .inl (nF su)))] [zO o0 oa i0 m0 nn, (oa, .inl (cP, 3, .inr (.inr (.inr (.inr pf))))), zP h a b true kp oc le ll ((cs_set ch n) &&& (sS ^^^ (-1))) lc kc rp, (a, .inl (cI, 40, .inl (nF ch))), zI i0 i1 i2 i3 i4 cn sS (lS ||| ((cs_set ch n) &&& (sS ^^^ (-1)))) rS, (i2, .inl (cI, 40, .inl (nF rc))), zM m0 m1 m2 m3 m4 m5 mn mi, (m5, .inl (cI, 104, .inl (nF (lu_F su (fun i => rc (ch i)) kp (n - kp)))))] (nI (pc64 ((cs_set ch n) &&& (sS ^^^ (-1))))) 0 0 := by
  unfold mt_I
  refine Met.ofW (cc := bc_O_crash) (maxL := 3) (ret := (some .int)) (by decide) rfl ?_
  intro p e s m args below meth c s₁ B hml hv
  obtain ⟨rfl, hsz, hP, hK, hD0⟩ := hv
  have hx := B.exec
  have hb := B.bytes
  have hr := B.returns
  have hts := atoms_spec (ws := wsT mn_O_crash bc_O_crash 3 (some .int)) B.pre
  have htb : ∀ w ∈ gtbl, w.before _ s = true := fun w h => hts w (List.mem_cons_of_mem _ h)
  have hown : s.vm.findClass cn_O = some m.cls := findClass_of_methodNamed B.named
  have hlocks := B.notSynchronized
  subst hsz
  have hD := hD0.self (sz := s.heap.size)
  generalize hAe : va_A [zO o0 oa i0 m0 nn, (oa, .inl (cP, 3, .inr (.inr (.inr (.inr pf))))), zP h a b dn n oc le ll li lc kc rp, (a, .inl (cI, 40, .inl (nF ch))), zI i0 i1 i2 i3 i4 cn sS lS rS, (i2, .inl (cI, 40, .inl (nF rc))), zM m0 m1 m2 m3 m4 m5 mn mi, (m5, .inl (cI, 104, .inl (nF su)))] s.heap.size = A at hD ⊢
  have hA : ∀ q : Nat, s.heap.size ≤ q → A q := fun q h => by rw [← hAe]; exact Or.inr h
  have hS : va_S A s.heap s.heap [] := va_S.rf
  have hP : va_P (dC, dI) clsL [zO o0 oa i0 m0 nn, (oa, .inl (cP, 3, .inr (.inr (.inr (.inr pf))))), zP h a b dn n oc le ll li lc kc rp, (a, .inl (cI, 40, .inl (nF ch))), zI i0 i1 i2 i3 i4 cn sS lS rS, (i2, .inl (cI, 40, .inl (nF rc))), zM m0 m1 m2 m3 m4 m5 mn mi, (m5, .inl (cI, 104, .inl (nF su)))] s.heap := hP
  have hl := lv_entry ([.ref o0, .int (nI j)]) (n := 3) (Nat.le_of_ble_eq_true rfl)
  rw [lg_entry_eq]
  generalize (lg_sl ([.ref o0, .int (nI j)]) ++ List.replicate (3 - (lg_sl ([.ref o0, .int (nI j)])).length) Slot.unset).toArray = ls at hl ⊢
  have hl : lv_has ls 3 [(0, .ref o0), (1, .int (nI j))] := hl
  refine lv_aload_n hx hb dc_O_crash_0 rfl (lv_at hl 0 rfl) ?_
  refine lv_iload_n hx hb dc_O_crash_1 rfl (lv_at hl 1 rfl) ?_
  refine cl_i (wc := [zO o0 oa i0 m0 nn, (oa, .inl (cP, 3, .inr (.inr (.inr (.inr pf))))), zP h a b dn n oc le ll li lc kc rp]) (wr := [(a, .inl (cI, 40, .inl (nF ch))), zI i0 i1 i2 i3 i4 cn sS lS rS, (i2, .inl (cI, 40, .inl (nF rc))), zM m0 m1 m2 m3 m4 m5 mn mi, (m5, .inl (cI, 104, .inl (nF su)))]) (w1 := [zO o0 oa i0 m0 nn, (oa, .inl (cP, 3, .inr (.inr (.inr (.inr pf))))), zP h a b dn n oc le ll li lc kc rp]) hP hD hS hA [0, 1, 2] [3, 4, 5, 6, 7] rfl rfl (by decide) (by decide) (va_runV (As := [.int (nI j)]) (rest := []) ⟨hx, hb, hml, hown, htb⟩ (oc_O_isUp l dC dI cI cJ cZ cP _ o0 oa i0 m0 nn pf h a b dn n oc le ll li lc kc rp j (by first | assumption | omega) (by first | assumption | omega)) (cwV 1 htb (gw_V kw_246 kw_248 kp_7 kw_1 kw_249) rfl rfl rfl (by decide +kernel) ⟨Nat.le_of_ble_eq_true rfl, Nat.le_of_ble_eq_true rfl⟩) (pr_V hP hK hD (va_recv hK hP (ci := 3) (q0 := 0) rfl rfl) [0, 1, 2] (by decide) rfl rfl) rfl rfl hl.1 rfl (lv_room (Nat.le_of_ble_eq_true rfl)) dc_O_crash_2 ⟨Nat.le_of_ble_eq_true rfl, Nat.le_of_ble_eq_true rfl⟩) (fun H locs hP hD hS => ?_)
  have hP : va_P (dC, dI) clsL [zO o0 oa i0 m0 nn, (oa, .inl (cP, 3, .inr (.inr (.inr (.inr pf))))), zP h a b dn n oc le ll li lc kc rp, (a, .inl (cI, 40, .inl (nF ch))), zI i0 i1 i2 i3 i4 cn sS lS rS, (i2, .inl (cI, 40, .inl (nF rc))), zM m0 m1 m2 m3 m4 m5 mn mi, (m5, .inl (cI, 104, .inl (nF su)))] H := hP.sub (ws' := [zO o0 oa i0 m0 nn, (oa, .inl (cP, 3, .inr (.inr (.inr (.inr pf))))), zP h a b dn n oc le ll li lc kc rp, (a, .inl (cI, 40, .inl (nF ch))), zI i0 i1 i2 i3 i4 cn sS lS rS, (i2, .inl (cI, 40, .inl (nF rc))), zM m0 m1 m2 m3 m4 m5 mn mi, (m5, .inl (cI, 104, .inl (nF su)))]) [5, 6, 7, 0, 1, 2, 3, 4] rfl
  have hD : va_D A [zO o0 oa i0 m0 nn, (oa, .inl (cP, 3, .inr (.inr (.inr (.inr pf))))), zP h a b dn n oc le ll li lc kc rp, (a, .inl (cI, 40, .inl (nF ch))), zI i0 i1 i2 i3 i4 cn sS lS rS, (i2, .inl (cI, 40, .inl (nF rc))), zM m0 m1 m2 m3 m4 m5 mn mi, (m5, .inl (cI, 104, .inl (nF su)))] := hD.sub (ws' := [zO o0 oa i0 m0 nn, (oa, .inl (cP, 3, .inr (.inr (.inr (.inr pf))))), zP h a b dn n oc le ll li lc kc rp, (a, .inl (cI, 40, .inl (nF ch))), zI i0 i1 i2 i3 i4 cn sS lS rS, (i2, .inl (cI, 40, .inl (nF rc))), zM m0 m1 m2 m3 m4 m5 mn mi, (m5, .inl (cI, 104, .inl (nF su)))]) [5, 6, 7, 0, 1, 2, 3, 4] (by decide) rfl
  refine lv_if_ne (tgt := 10) hx hb dc_O_crash_5 (by decide) (fun hc => ?_) (fun hc => ?_)
  rotate_left
  · have h1 : (!dn) = false := bI_0.mp hc
    exact absurd h1 (by rw [hdn]; decide)
  have h1 : (!dn) = true := bI_n0.mp hc
  refine lv_aload_n hx hb dc_O_crash_10 rfl (lv_at hl 0 rfl) ?_
  refine va_get (D := (dC, dI)) (ci := 3) (v := .ref oa) (C := cn_O) (T := ft_O) (N := 4) hx hb htb ki_O hown hK hP 0 rfl rfl 0 (by decide) (htb _ kw_139) (fun _ h9 => h9) rfl dc_O_crash_11 ?_
  refine lv_iload_n hx hb dc_O_crash_14 rfl (lv_at hl 1 rfl) ?_
  refine wa_ald hx hb hK hP 1 3 rfl rfl (k := j) (by omega) (by omega) (v := h) (hf) dc_O_crash_15 ?_
  refine lv_astore_n (lv' := [(2, .ref h), (0, .ref o0), (1, .int (nI j))]) hx hb dc_O_crash_16 rfl hl (by decide) rfl (fun ls hl => ?_)
  refine lv_aload_n hx hb dc_O_crash_17 rfl (lv_at hl 0 rfl) ?_
  refine lv_iconst (v := nI 1) hx hb dc_O_crash_18 (by decide) ?_
  refine tp_i (y := bI true) rfl ?_
  refine va_put (D := (dC, dI)) (ci := 2) (v := .int (bI true)) (ty := .boolean) (C := cn_P) (T := ft_P) (N := 11) hx hb htb ki_P fy_P fy_P_ok nm_P_d hown hK hP hD hS 2 rfl rfl 2 (by decide) (htb _ kw_27) (fun _ h9 => h9) rfl (by decide +kernel) (bI_nar _) (bI_fit _) (Nat.le_of_ble_eq_true rfl) dc_O_crash_19 (fun H locs hP hD hS => ?_)
  have hP : va_P (dC, dI) clsL [zO o0 oa i0 m0 nn, (oa, .inl (cP, 3, .inr (.inr (.inr (.inr pf))))), zP h a b true n oc le ll li lc kc rp, (a, .inl (cI, 40, .inl (nF ch))), zI i0 i1 i2 i3 i4 cn sS lS rS, (i2, .inl (cI, 40, .inl (nF rc))), zM m0 m1 m2 m3 m4 m5 mn mi, (m5, .inl (cI, 104, .inl (nF su)))] H := hP
  have hD : va_D A [zO o0 oa i0 m0 nn, (oa, .inl (cP, 3, .inr (.inr (.inr (.inr pf))))), zP h a b true n oc le ll li lc kc rp, (a, .inl (cI, 40, .inl (nF ch))), zI i0 i1 i2 i3 i4 cn sS lS rS, (i2, .inl (cI, 40, .inl (nF rc))), zM m0 m1 m2 m3 m4 m5 mn mi, (m5, .inl (cI, 104, .inl (nF su)))] := hD
  refine lv_aload_n hx hb dc_O_crash_22 rfl (lv_at hl 1 rfl) ?_
  refine lv_aload_n hx hb dc_O_crash_23 rfl (lv_at hl 0 rfl) ?_
  refine cl_i (wc := [zO o0 oa i0 m0 nn, zP h a b true n oc le ll li lc kc rp, (a, .inl (cI, 40, .inl (nF ch))), zI i0 i1 i2 i3 i4 cn sS lS rS, (i2, .inl (cI, 40, .inl (nF rc))), zM m0 m1 m2 m3 m4 m5 mn mi, (m5, .inl (cI, 104, .inl (nF su)))]) (wr := [(oa, .inl (cP, 3, .inr (.inr (.inr (.inr pf)))))]) (w1 := [zO o0 oa i0 m0 nn, zP h a b true kp oc le ll ((cs_set ch n) &&& (sS ^^^ (-1))) lc kc rp, (a, .inl (cI, 40, .inl (nF ch))), zI i0 i1 i2 i3 i4 cn sS (lS ||| ((cs_set ch n) &&& (sS ^^^ (-1)))) rS, (i2, .inl (cI, 40, .inl (nF rc))), zM m0 m1 m2 m3 m4 m5 mn mi, (m5, .inl (cI, 104, .inl (nF (lu_F su (fun i => rc (ch i)) kp (n - kp)))))]) hP hD hS hA [0, 2, 3, 4, 5, 6, 7] [1] rfl rfl (by decide) (by decide) (va_runV (As := [.ref h]) (rest := []) ⟨hx, hb, hml, hown, htb⟩ (oc_O_loseUnstable l dC dI cI cJ cZ cP _ o0 oa i0 m0 nn h a b true n oc le ll li lc kc rp i1 i2 i3 i4 cn sS lS rS m1 m2 m3 m4 m5 mn mi ch rc su kp hn hkp hch hrc) (cwV 1 htb (gw_V kw_270 kw_272 kp_8 kw_1 kw_273) rfl rfl rfl (by decide +kernel) ⟨Nat.le_of_ble_eq_true rfl, Nat.le_of_ble_eq_true rfl⟩) (pr_V hP hK hD (va_recv hK hP (ci := 3) (q0 := 0) rfl rfl) [0, 2, 3, 4, 5, 6, 7] (by decide) rfl rfl) rfl rfl hl.1 rfl (lv_room (Nat.le_of_ble_eq_true rfl)) dc_O_crash_24 ⟨Nat.le_of_ble_eq_true rfl, Nat.le_of_ble_eq_true rfl⟩) (fun H locs hP hD hS => ?_)
  have hP : va_P (dC, dI) clsL [zO o0 oa i0 m0 nn, (oa, .inl (cP, 3, .inr (.inr (.inr (.inr pf))))), zP h a b true kp oc le ll ((cs_set ch n) &&& (sS ^^^ (-1))) lc kc rp, (a, .inl (cI, 40, .inl (nF ch))), zI i0 i1 i2 i3 i4 cn sS (lS ||| ((cs_set ch n) &&& (sS ^^^ (-1)))) rS, (i2, .inl (cI, 40, .inl (nF rc))), zM m0 m1 m2 m3 m4 m5 mn mi, (m5, .inl (cI, 104, .inl (nF (lu_F su (fun i => rc (ch i)) kp (n - kp)))))] H := hP.sub (ws' := [zO o0 oa i0 m0 nn, (oa, .inl (cP, 3, .inr (.inr (.inr (.inr pf))))), zP h a b true kp oc le ll ((cs_set ch n) &&& (sS ^^^ (-1))) lc kc rp, (a, .inl (cI, 40, .inl (nF ch))), zI i0 i1 i2 i3 i4 cn sS (lS ||| ((cs_set ch n) &&& (sS ^^^ (-1)))) rS, (i2, .inl (cI, 40, .inl (nF rc))), zM m0 m1 m2 m3 m4 m5 mn mi, (m5, .inl (cI, 104, .inl (nF (lu_F su (fun i => rc (ch i)) kp (n - kp)))))]) [1, 0, 2, 3, 4, 5, 6, 7] rfl
  have hD : va_D A [zO o0 oa i0 m0 nn, (oa, .inl (cP, 3, .inr (.inr (.inr (.inr pf))))), zP h a b true kp oc le ll ((cs_set ch n) &&& (sS ^^^ (-1))) lc kc rp, (a, .inl (cI, 40, .inl (nF ch))), zI i0 i1 i2 i3 i4 cn sS (lS ||| ((cs_set ch n) &&& (sS ^^^ (-1)))) rS, (i2, .inl (cI, 40, .inl (nF rc))), zM m0 m1 m2 m3 m4 m5 mn mi, (m5, .inl (cI, 104, .inl (nF (lu_F su (fun i => rc (ch i)) kp (n - kp)))))] := hD.sub (ws' := [zO o0 oa i0 m0 nn, (oa, .inl (cP, 3, .inr (.inr (.inr (.inr pf))))), zP h a b true kp oc le ll ((cs_set ch n) &&& (sS ^^^ (-1))) lc kc rp, (a, .inl (cI, 40, .inl (nF ch))), zI i0 i1 i2 i3 i4 cn sS (lS ||| ((cs_set ch n) &&& (sS ^^^ (-1)))) rS, (i2, .inl (cI, 40, .inl (nF rc))), zM m0 m1 m2 m3 m4 m5 mn mi, (m5, .inl (cI, 104, .inl (nF (lu_F su (fun i => rc (ch i)) kp (n - kp)))))]) [1, 0, 2, 3, 4, 5, 6, 7] (by decide) rfl
  have hP9 := hP.sub (ws' := [zO o0 oa i0 m0 nn, (oa, .inl (cP, 3, .inr (.inr (.inr (.inr pf))))), zP h a b true kp oc le ll ((cs_set ch n) &&& (sS ^^^ (-1))) lc kc rp, (a, .inl (cI, 40, .inl (nF ch))), zI i0 i1 i2 i3 i4 cn sS (lS ||| ((cs_set ch n) &&& (sS ^^^ (-1)))) rS, (i2, .inl (cI, 40, .inl (nF rc))), zM m0 m1 m2 m3 m4 m5 mn mi, (m5, .inl (cI, 104, .inl (nF (lu_F su (fun i => rc (ch i)) kp (n - kp)))))]) [0, 1, 2, 3, 4, 5, 6, 7] rfl
  have hD9 := hD.sub (ws' := [zO o0 oa i0 m0 nn, (oa, .inl (cP, 3, .inr (.inr (.inr (.inr pf))))), zP h a b true kp oc le ll ((cs_set ch n) &&& (sS ^^^ (-1))) lc kc rp, (a, .inl (cI, 40, .inl (nF ch))), zI i0 i1 i2 i3 i4 cn sS (lS ||| ((cs_set ch n) &&& (sS ^^^ (-1)))) rS, (i2, .inl (cI, 40, .inl (nF rc))), zM m0 m1 m2 m3 m4 m5 mn mi, (m5, .inl (cI, 104, .inl (nF (lu_F su (fun i => rc (ch i)) kp (n - kp)))))]) [0, 1, 2, 3, 4, 5, 6, 7] (by decide) rfl
  exact W.iret (v := nI (pc64 ((cs_set ch n) &&& (sS ^^^ (-1))))) hx hb hr (fun t ht hW => ⟨⟨_, (), rfl, rfl, by rw [ht]; exact hP9, va_K.moved hW.alike hK, hD9⟩, hS.F ht⟩) hS.2.2 dc_O_crash_27

set_option maxHeartbeats 4000000 in
set_option maxRecDepth 100000 in
theorem oc_O_firstOnChain (l : Launch) (dC : Nat → ClassId) (dI : Nat → Nat → Nat) (cI cJ cZ cP : ClassId) (sz : Nat) (o0 : Nat) (oa : Nat) (i0 : Nat) (m0 : Nat) (nn : Nat) (h : Nat) (a : Nat) (b : Nat) (dn : Bool) (n : Nat) (oc : Nat) (le : Nat) (ll : Int64) (li : Int64) (lc : Nat) (kc : Nat) (rp : Int32) (i1 : Nat) (i2 : Nat) (i3 : Nat) (i4 : Nat) (cn : Nat) (sS : Int64) (lS : Int64) (rS : Int64) (ch : Nat → Nat) (dp : Nat → Int64) (st : Int64) (hn : n ≤ 40) (hch : ∀ k, k < n → ch k < 40) : mt_I l mn_O_firstOnChain bc_O_firstOnChain 5 (some .int) ({ frames := 0, cells := 0, slots := 0, locals := 0 }) (dC, dI) (TYS cI cJ cZ cP) sz [.ref o0, .ref h, .long st] [zO o0 oa i0 m0 nn, zP h a b dn n oc le ll li lc kc rp, (a, .inl (cI, 40, .inl (nF ch))), zI i0 i1 i2 i3 i4 cn sS lS rS, (i4, .inl (cJ, 40, .inr (.inl dp)))] [zO o0 oa i0 m0 nn, zP h a b dn n oc le ll li lc kc rp, (a, .inl (cI, 40, .inl (nF ch))), zI i0 i1 i2 i3 i4 cn sS lS rS, (i4, .inl (cJ, 40, .inr (.inl dp)))] (nI (fo_N (hb_B dp ch st) n 0)) 0 0 := by
  unfold mt_I
  refine Met.ofW (cc := bc_O_firstOnChain) (maxL := 5) (ret := (some .int)) (by decide) rfl ?_
  intro p e s m args below meth c s₁ B hml hv
  obtain ⟨rfl, hsz, hP, hK, hD0⟩ := hv
  have hx := B.exec
  have hb := B.bytes
  have hr := B.returns
  have hts := atoms_spec (ws := wsT mn_O_firstOnChain bc_O_firstOnChain 5 (some .int)) B.pre
  have htb : ∀ w ∈ gtbl, w.before _ s = true := fun w h => hts w (List.mem_cons_of_mem _ h)
  have hown : s.vm.findClass cn_O = some m.cls := findClass_of_methodNamed B.named
  have hlocks := B.notSynchronized
  subst hsz
  have hD := hD0.self (sz := s.heap.size)
  generalize hAe : va_A [zO o0 oa i0 m0 nn, zP h a b dn n oc le ll li lc kc rp, (a, .inl (cI, 40, .inl (nF ch))), zI i0 i1 i2 i3 i4 cn sS lS rS, (i4, .inl (cJ, 40, .inr (.inl dp)))] s.heap.size = A at hD ⊢
  have hA : ∀ q : Nat, s.heap.size ≤ q → A q := fun q h => by rw [← hAe]; exact Or.inr h
  have hS : va_S A s.heap s.heap [] := va_S.rf
  have hP : va_P (dC, dI) clsL [zO o0 oa i0 m0 nn, zP h a b dn n oc le ll li lc kc rp, (a, .inl (cI, 40, .inl (nF ch))), zI i0 i1 i2 i3 i4 cn sS lS rS, (i4, .inl (cJ, 40, .inr (.inl dp)))] s.heap := hP
  have hl := lv_entry ([.ref o0, .ref h, .long st]) (n := 5) (Nat.le_of_ble_eq_true rfl)
  rw [lg_entry_eq]
  generalize (lg_sl ([.ref o0, .ref h, .long st]) ++ List.replicate (5 - (lg_sl ([.ref o0, .ref h, .long st])).length) Slot.unset).toArray = ls at hl ⊢
  have hl : lv_has ls 5 [(0, .ref o0), (1, .ref h), (2, .long st)] := hl
  refine lv_iconst (v := nI 0) hx hb dc_O_firstOnChain_0 (by decide) ?_
  refine lv_istore (lv' := [(4, .int (nI 0)), (0, .ref o0), (1, .ref h), (2, .long st)]) hx hb dc_O_firstOnChain_1 hl (by decide) rfl (fun ls hl => ?_)
  refine wl_ 3 (fun (x : Nat) => n - x) (fun (x : Nat) (H : Heap) (locs : List Loc) (ls : Array Slot) => (x ≤ n ∧ fo_N (hb_B dp ch st) (n - x) x = fo_N (hb_B dp ch st) n 0) ∧ va_P (dC, dI) clsL [zO o0 oa i0 m0 nn, zP h a b dn n oc le ll li lc kc rp, (a, .inl (cI, 40, .inl (nF ch))), zI i0 i1 i2 i3 i4 cn sS lS rS, (i4, .inl (cJ, 40, .inr (.inl dp)))] H ∧ va_D A [zO o0 oa i0 m0 nn, zP h a b dn n oc le ll li lc kc rp, (a, .inl (cI, 40, .inl (nF ch))), zI i0 i1 i2 i3 i4 cn sS lS rS, (i4, .inl (cJ, 40, .inr (.inl dp)))] ∧ va_S A s.heap H locs ∧ lv_has ls 5 [(4, .int (nI x)), (2, .long st), (1, .ref h), (0, .ref o0)]) ?_ 0 _ _ _ ⟨⟨Nat.zero_le _, rfl⟩, hP, hD, hS, lv_sub hl [0, 3, 2, 1] rfl⟩
  rintro k H locs ls ⟨hI, hP, hD, hS, hl⟩ ih
  replace hI : k ≤ n ∧ fo_N (hb_B dp ch st) (n - k) k = fo_N (hb_B dp ch st) n 0 := hI
  replace hP : va_P (dC, dI) clsL [zO o0 oa i0 m0 nn, zP h a b dn n oc le ll li lc kc rp, (a, .inl (cI, 40, .inl (nF ch))), zI i0 i1 i2 i3 i4 cn sS lS rS, (i4, .inl (cJ, 40, .inr (.inl dp)))] H := hP
  replace hD : va_D A [zO o0 oa i0 m0 nn, zP h a b dn n oc le ll li lc kc rp, (a, .inl (cI, 40, .inl (nF ch))), zI i0 i1 i2 i3 i4 cn sS lS rS, (i4, .inl (cJ, 40, .inr (.inl dp)))] := hD
  replace hl : lv_has ls 5 [(4, .int (nI k)), (2, .long st), (1, .ref h), (0, .ref o0)] := hl
  have hk1 := hI.1
  refine lv_iload hx hb dc_O_firstOnChain_3 (lv_at hl 0 rfl) ?_
  refine lv_aload_n hx hb dc_O_firstOnChain_5 rfl (lv_at hl 2 rfl) ?_
  refine va_get (D := (dC, dI)) (ci := 2) (v := .int (nI n)) (C := cn_P) (T := ft_P) (N := 11) hx hb htb ki_P hown hK hP 1 rfl rfl 3 (by decide) (htb _ kw_29) (fun _ h9 => h9) rfl dc_O_firstOnChain_6 ?_
  refine lv_icmp_ge (tgt := 43) hx hb dc_O_firstOnChain_9 (by decide) (fun hc => ?_) (fun hc => ?_)
  · have hk : n ≤ k := (nI_leI (by omega) (by omega)).mp hc
    refine lv_aload_n hx hb dc_O_firstOnChain_43 rfl (lv_at hl 2 rfl) ?_
    refine va_get (D := (dC, dI)) (ci := 2) (v := .int (nI n)) (C := cn_P) (T := ft_P) (N := 11) hx hb htb ki_P hown hK hP 1 rfl rfl 3 (by decide) (htb _ kw_29) (fun _ h9 => h9) rfl dc_O_firstOnChain_44 ?_
    have hP9 := hP.sub (ws' := [zO o0 oa i0 m0 nn, zP h a b dn n oc le ll li lc kc rp, (a, .inl (cI, 40, .inl (nF ch))), zI i0 i1 i2 i3 i4 cn sS lS rS, (i4, .inl (cJ, 40, .inr (.inl dp)))]) [0, 1, 2, 3, 4] rfl
    have hD9 := hD.sub (ws' := [zO o0 oa i0 m0 nn, zP h a b dn n oc le ll li lc kc rp, (a, .inl (cI, 40, .inl (nF ch))), zI i0 i1 i2 i3 i4 cn sS lS rS, (i4, .inl (cJ, 40, .inr (.inl dp)))]) [0, 1, 2, 3, 4] (by decide) rfl
    exact W.iret (v := nI n) hx hb hr (fun t ht hW => ⟨⟨_, (), rfl, by rw [← hI.2, show k = n by omega, Nat.sub_self]; rfl, by rw [ht]; exact hP9, va_K.moved hW.alike hK, hD9⟩, hS.F ht⟩) hS.2.2 dc_O_firstOnChain_47
  · have hk : k < n := Nat.lt_of_not_le (fun h9 => hc ((nI_leI (by omega) (by omega)).mpr h9))
    refine lv_aload_n hx hb dc_O_firstOnChain_12 rfl (lv_at hl 3 rfl) ?_
    refine va_get (D := (dC, dI)) (ci := 3) (v := .ref i0) (C := cn_O) (T := ft_O) (N := 4) hx hb htb ki_O hown hK hP 0 rfl rfl 1 (by decide) (htb _ kw_140) (fun _ h9 => h9) rfl dc_O_firstOnChain_13 ?_
    refine va_get (D := (dC, dI)) (ci := 0) (v := .ref i4) (C := cn_I) (T := ft_I) (N := 8) hx hb htb ki_I hown hK hP 3 rfl rfl 3 (by decide) (htb _ kw_78) (fun _ h9 => h9) rfl dc_O_firstOnChain_16 ?_
    refine lv_aload_n hx hb dc_O_firstOnChain_19 rfl (lv_at hl 2 rfl) ?_
    refine va_get (D := (dC, dI)) (ci := 2) (v := .ref a) (C := cn_P) (T := ft_P) (N := 11) hx hb htb ki_P hown hK hP 1 rfl rfl 0 (by decide) (htb _ kw_23) (fun _ h9 => h9) rfl dc_O_firstOnChain_20 ?_
    refine lv_iload hx hb dc_O_firstOnChain_23 (lv_at hl 0 rfl) ?_
    refine wa_nld (k := k) hx hb hK hP 2 0 rfl rfl (by omega) (by omega) dc_O_firstOnChain_25 ?_
    refine wa_lld (k := ch k) hx hb hK hP 4 1 rfl rfl (hch k hk) (by omega) dc_O_firstOnChain_26 ?_
    refine lv_lload_n hx hb dc_O_firstOnChain_27 rfl (lv_at hl 1 rfl) ?_
    refine lv_land hx hb dc_O_firstOnChain_28 ?_
    refine lv_lconst (v := 0) hx hb dc_O_firstOnChain_29 rfl ?_
    refine W.lcmp hx hb dc_O_firstOnChain_30 ?_
    refine lv_if_eq (tgt := 37) hx hb dc_O_firstOnChain_31 (by decide) (fun hc => ?_) (fun hc => ?_)
    · have h1 : (dp (ch k)) &&& st = 0 := lc_0.mp hc
      refine lv_iinc (k := 0) (v := nI (k + 1)) (lv' := [(4, .int (nI (k + 1))), (2, .long st), (1, .ref h), (0, .ref o0)]) hx hb dc_O_firstOnChain_37 hl rfl (nI_inc1 _) (by decide) rfl (fun ls hl => ?_)
      refine lv_goto (tgt := 3) hx hb dc_O_firstOnChain_40 (by decide) ?_
      exact ih (k + 1) H locs ls (by first | omega | (dsimp only; omega)) ⟨⟨by first | omega | (dsimp only; omega), by rw [← hI.2, show n - k = (n - (k + 1)) + 1 by omega]; simp [fo_N, hb_B, h1]⟩, hP, hD, hS, lv_sub hl [0, 1, 2, 3] rfl⟩
    · have h1 : ¬ (dp (ch k)) &&& st = 0 := fun h9 => hc (lc_0.mpr h9)
      refine lv_iload hx hb dc_O_firstOnChain_34 (lv_at hl 0 rfl) ?_
      have hP9 := hP.sub (ws' := [zO o0 oa i0 m0 nn, zP h a b dn n oc le ll li lc kc rp, (a, .inl (cI, 40, .inl (nF ch))), zI i0 i1 i2 i3 i4 cn sS lS rS, (i4, .inl (cJ, 40, .inr (.inl dp)))]) [0, 1, 2, 3, 4] rfl
      have hD9 := hD.sub (ws' := [zO o0 oa i0 m0 nn, zP h a b dn n oc le ll li lc kc rp, (a, .inl (cI, 40, .inl (nF ch))), zI i0 i1 i2 i3 i4 cn sS lS rS, (i4, .inl (cJ, 40, .inr (.inl dp)))]) [0, 1, 2, 3, 4] (by decide) rfl
      exact W.iret (v := nI k) hx hb hr (fun t ht hW => ⟨⟨_, (), rfl, by rw [← hI.2, show n - k = (n - k - 1) + 1 by omega]; simp [fo_N, hb_B, h1], by rw [ht]; exact hP9, va_K.moved hW.alike hK, hD9⟩, hS.F ht⟩) hS.2.2 dc_O_firstOnChain_36

set_option maxHeartbeats 4000000 in
set_option maxRecDepth 100000 in
theorem oc_O_orphansOn (l : Launch) (dC : Nat → ClassId) (dI : Nat → Nat → Nat) (cI cJ cZ cP : ClassId) (sz : Nat) (o0 : Nat) (oa : Nat) (i0 : Nat) (m0 : Nat) (nn : Nat) (h : Nat) (a : Nat) (b : Nat) (dn : Bool) (n : Nat) (oc : Nat) (le : Nat) (ll : Int64) (li : Int64) (lc : Nat) (kc : Nat) (rp : Int32) (i1 : Nat) (i2 : Nat) (i3 : Nat) (i4 : Nat) (cn : Nat) (sS : Int64) (lS : Int64) (rS : Int64) (ch : Nat → Nat) (dp : Nat → Int64) (hn : n ≤ 40) (hch : ∀ k, k < n → ch k < 40) : mt_I l mn_O_orphansOn bc_O_orphansOn 2 (some .int) ({ frames := 1, cells := 0, slots := 0, locals := 24 }) (dC, dI) (TYS cI cJ cZ cP) sz [.ref o0, .ref h] [zO o0 oa i0 m0 nn, zP h a b dn n oc le ll li lc kc rp, (a, .inl (cI, 40, .inl (nF ch))), zI i0 i1 i2 i3 i4 cn sS lS rS, (i4, .inl (cJ, 40, .inr (.inl dp)))] [zO o0 oa i0 m0 nn, zP h a b dn n oc le ll li lc kc rp, (a, .inl (cI, 40, .inl (nF ch))), zI i0 i1 i2 i3 i4 cn sS lS rS, (i4, .inl (cJ, 40, .inr (.inl dp)))] (nI (n - (fo_N (hb_B dp ch lS) n 0))) 0 0 := by
  unfold mt_I
  refine Met.ofW (cc := bc_O_orphansOn) (maxL := 2) (ret := (some .int)) (by decide) rfl ?_
  intro p e s m args below meth c s₁ B hml hv
  obtain ⟨rfl, hsz, hP, hK, hD0⟩ := hv
  have hx := B.exec
  have hb := B.bytes
  have hr := B.returns
  have hts := atoms_spec (ws := wsT mn_O_orphansOn bc_O_orphansOn 2 (some .int)) B.pre
  have htb : ∀ w ∈ gtbl, w.before _ s = true := fun w h => hts w (List.mem_cons_of_mem _ h)
  have hown : s.vm.findClass cn_O = some m.cls := findClass_of_methodNamed B.named
  have hlocks := B.notSynchronized
  subst hsz
  have hD := hD0.self (sz := s.heap.size)
  generalize hAe : va_A [zO o0 oa i0 m0 nn, zP h a b dn n oc le ll li lc kc rp, (a, .inl (cI, 40, .inl (nF ch))), zI i0 i1 i2 i3 i4 cn sS lS rS, (i4, .inl (cJ, 40, .inr (.inl dp)))] s.heap.size = A at hD ⊢
  have hA : ∀ q : Nat, s.heap.size ≤ q → A q := fun q h => by rw [← hAe]; exact Or.inr h
  have hS : va_S A s.heap s.heap [] := va_S.rf
  have hP : va_P (dC, dI) clsL [zO o0 oa i0 m0 nn, zP h a b dn n oc le ll li lc kc rp, (a, .inl (cI, 40, .inl (nF ch))), zI i0 i1 i2 i3 i4 cn sS lS rS, (i4, .inl (cJ, 40, .inr (.inl dp)))] s.heap := hP
  have hl := lv_entry ([.ref o0, .ref h]) (n := 2) (Nat.le_of_ble_eq_true rfl)
  rw [lg_entry_eq]
  generalize (lg_sl ([.ref o0, .ref h]) ++ List.replicate (2 - (lg_sl ([.ref o0, .ref h])).length) Slot.unset).toArray = ls at hl ⊢
  have hl : lv_has ls 2 [(0, .ref o0), (1, .ref h)] := hl
  refine lv_aload_n hx hb dc_O_orphansOn_0 rfl (lv_at hl 1 rfl) ?_
  refine va_get (D := (dC, dI)) (ci := 2) (v := .int (nI n)) (C := cn_P) (T := ft_P) (N := 11) hx hb htb ki_P hown hK hP 1 rfl rfl 3 (by decide) (htb _ kw_29) (fun _ h9 => h9) rfl dc_O_orphansOn_1 ?_
  refine lv_aload_n hx hb dc_O_orphansOn_4 rfl (lv_at hl 0 rfl) ?_
  refine lv_aload_n hx hb dc_O_orphansOn_5 rfl (lv_at hl 1 rfl) ?_
  refine lv_aload_n hx hb dc_O_orphansOn_6 rfl (lv_at hl 0 rfl) ?_
  refine va_get (D := (dC, dI)) (ci := 3) (v := .ref i0) (C := cn_O) (T := ft_O) (N := 4) hx hb htb ki_O hown hK hP 0 rfl rfl 1 (by decide) (htb _ kw_140) (fun _ h9 => h9) rfl dc_O_orphansOn_7 ?_
  refine va_get (D := (dC, dI)) (ci := 0) (v := .long lS) (C := cn_I) (T := ft_I) (N := 8) hx hb htb ki_I hown hK hP 3 rfl rfl 6 (by decide) (htb _ kw_84) (fun _ h9 => h9) rfl dc_O_orphansOn_10 ?_
  refine cl_i (wc := [zO o0 oa i0 m0 nn, zP h a b dn n oc le ll li lc kc rp, (a, .inl (cI, 40, .inl (nF ch))), zI i0 i1 i2 i3 i4 cn sS lS rS, (i4, .inl (cJ, 40, .inr (.inl dp)))]) (wr := []) (w1 := [zO o0 oa i0 m0 nn, zP h a b dn n oc le ll li lc kc rp, (a, .inl (cI, 40, .inl (nF ch))), zI i0 i1 i2 i3 i4 cn sS lS rS, (i4, .inl (cJ, 40, .inr (.inl dp)))]) hP hD hS hA [0, 1, 2, 3, 4] [] rfl rfl (by decide) (by decide) (va_runV (As := [.ref h, .long lS]) (rest := [.int (nI n)]) ⟨hx, hb, hml, hown, htb⟩ (oc_O_firstOnChain l dC dI cI cJ cZ cP _ o0 oa i0 m0 nn h a b dn n oc le ll li lc kc rp i1 i2 i3 i4 cn sS lS rS ch dp lS (by first | assumption | omega) (by first | assumption | omega)) (cwV 2 htb (gw_V kw_290 kw_292 kp_10 kw_1 kw_293) rfl rfl rfl (by decide +kernel) ⟨Nat.le_of_ble_eq_true rfl, Nat.le_of_ble_eq_true rfl⟩) (pr_V hP hK hD (va_recv hK hP (ci := 3) (q0 := 0) rfl rfl) [0, 1, 2, 3, 4] (by decide) rfl rfl) rfl rfl hl.1 rfl (lv_room (Nat.le_of_ble_eq_true rfl)) dc_O_orphansOn_13 ⟨Nat.le_of_ble_eq_true rfl, Nat.le_of_ble_eq_true rfl⟩) (fun H locs hP hD hS => ?_)
  have hP : va_P (dC, dI) clsL [zO o0 oa i0 m0 nn, zP h a b dn n oc le ll li lc kc rp, (a, .inl (cI, 40, .inl (nF ch))), zI i0 i1 i2 i3 i4 cn sS lS rS, (i4, .inl (cJ, 40, .inr (.inl dp)))] H := hP.sub (ws' := [zO o0 oa i0 m0 nn, zP h a b dn n oc le ll li lc kc rp, (a, .inl (cI, 40, .inl (nF ch))), zI i0 i1 i2 i3 i4 cn sS lS rS, (i4, .inl (cJ, 40, .inr (.inl dp)))]) [0, 1, 2, 3, 4] rfl
  have hD : va_D A [zO o0 oa i0 m0 nn, zP h a b dn n oc le ll li lc kc rp, (a, .inl (cI, 40, .inl (nF ch))), zI i0 i1 i2 i3 i4 cn sS lS rS, (i4, .inl (cJ, 40, .inr (.inl dp)))] := hD.sub (ws' := [zO o0 oa i0 m0 nn, zP h a b dn n oc le ll li lc kc rp, (a, .inl (cI, 40, .inl (nF ch))), zI i0 i1 i2 i3 i4 cn sS lS rS, (i4, .inl (cJ, 40, .inr (.inl dp)))]) [0, 1, 2, 3, 4] (by decide) rfl
  refine lv_isub hx hb dc_O_orphansOn_16 ?_
  refine tp_i (y := nI (n - (fo_N (hb_B dp ch lS) n 0))) (pk_sub (fo_N_le0 _ _)) ?_
  have hP9 := hP.sub (ws' := [zO o0 oa i0 m0 nn, zP h a b dn n oc le ll li lc kc rp, (a, .inl (cI, 40, .inl (nF ch))), zI i0 i1 i2 i3 i4 cn sS lS rS, (i4, .inl (cJ, 40, .inr (.inl dp)))]) [0, 1, 2, 3, 4] rfl
  have hD9 := hD.sub (ws' := [zO o0 oa i0 m0 nn, zP h a b dn n oc le ll li lc kc rp, (a, .inl (cI, 40, .inl (nF ch))), zI i0 i1 i2 i3 i4 cn sS lS rS, (i4, .inl (cJ, 40, .inr (.inl dp)))]) [0, 1, 2, 3, 4] (by decide) rfl
  exact W.iret (v := nI (n - (fo_N (hb_B dp ch lS) n 0))) hx hb hr (fun t ht hW => ⟨⟨_, (), rfl, rfl, by rw [ht]; exact hP9, va_K.moved hW.alike hK, hD9⟩, hS.F ht⟩) hS.2.2 dc_O_orphansOn_17

set_option maxHeartbeats 4000000 in
set_option maxRecDepth 100000 in
theorem oc_O_renew (l : Launch) (dC : Nat → ClassId) (dI : Nat → Nat → Nat) (cI cJ cZ cP : ClassId) (sz : Nat) (o0 : Nat) (oa : Nat) (i0 : Nat) (m0 : Nat) (nn : Nat) (pf : Nat → Option Nat) (h0 : Nat) (a0 : Nat) (b0 : Nat) (dn0 : Bool) (n0 : Nat) (oc0 : Nat) (le0 : Nat) (ll0 : Int64) (li0 : Int64) (lc0 : Nat) (kc0 : Nat) (rp0 : Int32) (ch0 : Nat → Nat) (h1 : Nat) (a1 : Nat) (b1 : Nat) (dn1 : Bool) (n1 : Nat) (oc1 : Nat) (le1 : Nat) (ll1 : Int64) (li1 : Int64) (lc1 : Nat) (kc1 : Nat) (rp1 : Int32) (ch1 : Nat → Nat) (h2 : Nat) (a2 : Nat) (b2 : Nat) (dn2 : Bool) (n2 : Nat) (oc2 : Nat) (le2 : Nat) (ll2 : Int64) (li2 : Int64) (lc2 : Nat) (kc2 : Nat) (rp2 : Int32) (ch2 : Nat → Nat) (i1 : Nat) (i2 : Nat) (i3 : Nat) (i4 : Nat) (cn : Nat) (sS : Int64) (lS : Int64) (rS : Int64) (m1 : Nat) (m2 : Nat) (m3 : Nat) (m4 : Nat) (m5 : Nat) (mn : Nat) (mi : Nat) (hf0 : pf 0 = some h0) (hf1 : pf 1 = some h1) (hf2 : pf 2 = some h2) : mt_V l mn_O_renew bc_O_renew 2 none ({ frames := 1, cells := 0, slots := 0, locals := 20 }) (dC, dI) (TYS cI cJ cZ cP) sz [.ref o0] [zO o0 oa i0 m0 nn, (oa, .inl (cP, 3, .inr (.inr (.inr (.inr pf))))), zP h0 a0 b0 dn0 n0 oc0 le0 ll0 li0 lc0 kc0 rp0, zP h1 a1 b1 dn1 n1 oc1 le1 ll1 li1 lc1 kc1 rp1, zP h2 a2 b2 dn2 n2 oc2 le2 ll2 li2 lc2 kc2 rp2, zI i0 i1 i2 i3 i4 cn sS lS rS, zM m0 m1 m2 m3 m4 m5 mn mi] [zO o0 oa i0 m0 0, (oa, .inl (cP, 3, .inr (.inr (.inr (.inr pf))))), zP h0 a0 b0 false 0 0 0 0 0 0 0 (nI 0), zP h1 a1 b1 false 0 0 0 0 0 0 0 (nI 0), zP h2 a2 b2 false 0 0 0 0 0 0 0 (nI 0), zI i0 i1 i2 i3 i4 0 0 0 0, zM m0 m1 m2 m3 m4 m5 0 0] 0 0 := by
  unfold mt_V
  refine Met.ofW (cc := bc_O_renew) (maxL := 2) (ret := none) (by decide) rfl ?_
  intro p e s m args below meth c s₁ B hml hv
  obtain ⟨rfl, hsz, hP, hK, hD0⟩ := hv
  have hx := B.exec
  have hb := B.bytes
  have hr := B.returns
  have hts := atoms_spec (ws := wsT mn_O_renew bc_O_renew 2 none) B.pre
  have htb : ∀ w ∈ gtbl, w.before _ s = true := fun w h => hts w (List.mem_cons_of_mem _ h)
  have hown : s.vm.findClass cn_O = some m.cls := findClass_of_methodNamed B.named
  have hlocks := B.notSynchronized
  subst hsz
  have hD := hD0.self (sz := s.heap.size)
  generalize hAe : va_A [zO o0 oa i0 m0 nn, (oa, .inl (cP, 3, .inr (.inr (.inr (.inr pf))))), zP h0 a0 b0 dn0 n0 oc0 le0 ll0 li0 lc0 kc0 rp0, zP h1 a1 b1 dn1 n1 oc1 le1 ll1 li1 lc1 kc1 rp1, zP h2 a2 b2 dn2 n2 oc2 le2 ll2 li2 lc2 kc2 rp2, zI i0 i1 i2 i3 i4 cn sS lS rS, zM m0 m1 m2 m3 m4 m5 mn mi] s.heap.size = A at hD ⊢
  have hA : ∀ q : Nat, s.heap.size ≤ q → A q := fun q h => by rw [← hAe]; exact Or.inr h
  have hS : va_S A s.heap s.heap [] := va_S.rf
  have hP : va_P (dC, dI) clsL [zO o0 oa i0 m0 nn, (oa, .inl (cP, 3, .inr (.inr (.inr (.inr pf))))), zP h0 a0 b0 dn0 n0 oc0 le0 ll0 li0 lc0 kc0 rp0, zP h1 a1 b1 dn1 n1 oc1 le1 ll1 li1 lc1 kc1 rp1, zP h2 a2 b2 dn2 n2 oc2 le2 ll2 li2 lc2 kc2 rp2, zI i0 i1 i2 i3 i4 cn sS lS rS, zM m0 m1 m2 m3 m4 m5 mn mi] s.heap := hP
  have hl := lv_entry ([.ref o0]) (n := 2) (Nat.le_of_ble_eq_true rfl)
  rw [lg_entry_eq]
  generalize (lg_sl ([.ref o0]) ++ List.replicate (2 - (lg_sl ([.ref o0])).length) Slot.unset).toArray = ls at hl ⊢
  have hl : lv_has ls 2 [(0, .ref o0)] := hl
  refine lv_iconst (v := nI 0) hx hb dc_O_renew_0 (by decide) ?_
  refine lv_istore_n (lv' := [(1, .int (nI 0)), (0, .ref o0)]) hx hb dc_O_renew_1 rfl hl (by decide) rfl (fun ls hl => ?_)
  refine lv_iload_n hx hb dc_O_renew_2 rfl (lv_at hl 0 rfl) ?_
  refine lv_iconst (v := nI 3) hx hb dc_O_renew_3 (by decide) ?_
  refine lv_icmp_ge (tgt := 22) hx hb dc_O_renew_4 (by decide) (fun hc => ?_) (fun hc => ?_)
  · have h4 : 3 ≤ 0 := (nI_leI (by omega) (by omega)).mp hc
    exact absurd h4 (by omega)
  have h4 : 0 < 3 := Nat.lt_of_not_le (fun h9 => hc ((nI_leI (by omega) (by omega)).mpr h9))
  refine lv_aload_n hx hb dc_O_renew_7 rfl (lv_at hl 1 rfl) ?_
  refine va_get (D := (dC, dI)) (ci := 3) (v := .ref oa) (C := cn_O) (T := ft_O) (N := 4) hx hb htb ki_O hown hK hP 0 rfl rfl 0 (by decide) (htb _ kw_139) (fun _ h9 => h9) rfl dc_O_renew_8 ?_
  refine lv_iload_n hx hb dc_O_renew_11 rfl (lv_at hl 0 rfl) ?_
  refine wa_ald hx hb hK hP 1 3 rfl rfl (k := 0) (by omega) (by omega) (v := h0) (hf0) dc_O_renew_12 ?_
  refine cl_v (wc := [zP h0 a0 b0 dn0 n0 oc0 le0 ll0 li0 lc0 kc0 rp0]) (wr := [zO o0 oa i0 m0 nn, (oa, .inl (cP, 3, .inr (.inr (.inr (.inr pf))))), zP h1 a1 b1 dn1 n1 oc1 le1 ll1 li1 lc1 kc1 rp1, zP h2 a2 b2 dn2 n2 oc2 le2 ll2 li2 lc2 kc2 rp2, zI i0 i1 i2 i3 i4 cn sS lS rS, zM m0 m1 m2 m3 m4 m5 mn mi]) (w1 := [zP h0 a0 b0 false 0 0 0 0 0 0 0 (nI 0)]) hP hD hS hA [2] [0, 1, 3, 4, 5, 6] rfl rfl (by decide) (by decide) (va_runV (As := []) (rest := []) ⟨hx, hb, hml, hown, htb⟩ (oc_P_clear l dC dI cI cJ cZ cP _ h0 a0 b0 dn0 n0 oc0 le0 ll0 li0 lc0 kc0 rp0 ) (cwV 0 htb (gw_V kw_156 kw_157 kw_158 kw_2 kw_159) rfl rfl rfl (by decide +kernel) ⟨Nat.le_of_ble_eq_true rfl, Nat.le_of_ble_eq_true rfl⟩) (pr_V hP hK hD (va_recv hK hP (ci := 2) (q0 := 2) rfl rfl) [2] (by decide) rfl rfl) rfl rfl hl.1 rfl (lv_room (Nat.le_of_ble_eq_true rfl)) dc_O_renew_13 ⟨Nat.le_of_ble_eq_true rfl, Nat.le_of_ble_eq_true rfl⟩) (fun H locs hP hD hS => ?_)
  have hP : va_P (dC, dI) clsL [zO o0 oa i0 m0 nn, (oa, .inl (cP, 3, .inr (.inr (.inr (.inr pf))))), zP h0 a0 b0 false 0 0 0 0 0 0 0 (nI 0), zP h1 a1 b1 dn1 n1 oc1 le1 ll1 li1 lc1 kc1 rp1, zP h2 a2 b2 dn2 n2 oc2 le2 ll2 li2 lc2 kc2 rp2, zI i0 i1 i2 i3 i4 cn sS lS rS, zM m0 m1 m2 m3 m4 m5 mn mi] H := hP.sub (ws' := [zO o0 oa i0 m0 nn, (oa, .inl (cP, 3, .inr (.inr (.inr (.inr pf))))), zP h0 a0 b0 false 0 0 0 0 0 0 0 (nI 0), zP h1 a1 b1 dn1 n1 oc1 le1 ll1 li1 lc1 kc1 rp1, zP h2 a2 b2 dn2 n2 oc2 le2 ll2 li2 lc2 kc2 rp2, zI i0 i1 i2 i3 i4 cn sS lS rS, zM m0 m1 m2 m3 m4 m5 mn mi]) [0, 1, 6, 2, 3, 4, 5] rfl
  have hD : va_D A [zO o0 oa i0 m0 nn, (oa, .inl (cP, 3, .inr (.inr (.inr (.inr pf))))), zP h0 a0 b0 false 0 0 0 0 0 0 0 (nI 0), zP h1 a1 b1 dn1 n1 oc1 le1 ll1 li1 lc1 kc1 rp1, zP h2 a2 b2 dn2 n2 oc2 le2 ll2 li2 lc2 kc2 rp2, zI i0 i1 i2 i3 i4 cn sS lS rS, zM m0 m1 m2 m3 m4 m5 mn mi] := hD.sub (ws' := [zO o0 oa i0 m0 nn, (oa, .inl (cP, 3, .inr (.inr (.inr (.inr pf))))), zP h0 a0 b0 false 0 0 0 0 0 0 0 (nI 0), zP h1 a1 b1 dn1 n1 oc1 le1 ll1 li1 lc1 kc1 rp1, zP h2 a2 b2 dn2 n2 oc2 le2 ll2 li2 lc2 kc2 rp2, zI i0 i1 i2 i3 i4 cn sS lS rS, zM m0 m1 m2 m3 m4 m5 mn mi]) [0, 1, 6, 2, 3, 4, 5] (by decide) rfl
  refine lv_iinc (k := 0) (v := nI (0 + 1)) (lv' := [(1, .int (nI (0 + 1))), (0, .ref o0)]) hx hb dc_O_renew_16 hl rfl (nI_inc1 _) (by decide) rfl (fun ls hl => ?_)
  refine lv_goto (tgt := 2) hx hb dc_O_renew_19 (by decide) ?_
  refine lv_iload_n hx hb dc_O_renew_2 rfl (lv_at hl 0 rfl) ?_
  refine lv_iconst (v := nI 3) hx hb dc_O_renew_3 (by decide) ?_
  refine lv_icmp_ge (tgt := 22) hx hb dc_O_renew_4 (by decide) (fun hc => ?_) (fun hc => ?_)
  · have h4 : 3 ≤ (0 + 1) := (nI_leI (by omega) (by omega)).mp hc
    exact absurd h4 (by omega)
  have h4 : (0 + 1) < 3 := Nat.lt_of_not_le (fun h9 => hc ((nI_leI (by omega) (by omega)).mpr h9))
  refine lv_aload_n hx hb dc_O_renew_7 rfl (lv_at hl 1 rfl) ?_
  refine va_get (D := (dC, dI)) (ci := 3) (v := .ref oa) (C := cn_O) (T := ft_O) (N := 4) hx hb htb ki_O hown hK hP 0 rfl rfl 0 (by decide) (htb _ kw_139) (fun _ h9 => h9) rfl dc_O_renew_8 ?_
  refine lv_iload_n hx hb dc_O_renew_11 rfl (lv_at hl 0 rfl) ?_
  refine wa_ald hx hb hK hP 1 3 rfl rfl (k := 0 + 1) (by omega) (by omega) (v := h1) (hf1) dc_O_renew_12 ?_
  refine cl_v (wc := [zP h1 a1 b1 dn1 n1 oc1 le1 ll1 li1 lc1 kc1 rp1]) (wr := [zO o0 oa i0 m0 nn, (oa, .inl (cP, 3, .inr (.inr (.inr (.inr pf))))), zP h0 a0 b0 false 0 0 0 0 0 0 0 (nI 0), zP h2 a2 b2 dn2 n2 oc2 le2 ll2 li2 lc2 kc2 rp2, zI i0 i1 i2 i3 i4 cn sS lS rS, zM m0 m1 m2 m3 m4 m5 mn mi]) (w1 := [zP h1 a1 b1 false 0 0 0 0 0 0 0 (nI 0)]) hP hD hS hA [3] [0, 1, 2, 4, 5, 6] rfl rfl (by decide) (by decide) (va_runV (As := []) (rest := []) ⟨hx, hb, hml, hown, htb⟩ (oc_P_clear l dC dI cI cJ cZ cP _ h1 a1 b1 dn1 n1 oc1 le1 ll1 li1 lc1 kc1 rp1 ) (cwV 0 htb (gw_V kw_156 kw_157 kw_158 kw_2 kw_159) rfl rfl rfl (by decide +kernel) ⟨Nat.le_of_ble_eq_true rfl, Nat.le_of_ble_eq_true rfl⟩) (pr_V hP hK hD (va_recv hK hP (ci := 2) (q0 := 3) rfl rfl) [3] (by decide) rfl rfl) rfl rfl hl.1 rfl (lv_room (Nat.le_of_ble_eq_true rfl)) dc_O_renew_13 ⟨Nat.le_of_ble_eq_true rfl, Nat.le_of_ble_eq_true rfl⟩) (fun H locs hP hD hS => ?_)
  have hP : va_P (dC, dI) clsL [zO o0 oa i0 m0 nn, (oa, .inl (cP, 3, .inr (.inr (.inr (.inr pf))))), zP h0 a0 b0 false 0 0 0 0 0 0 0 (nI 0), zP h1 a1 b1 false 0 0 0 0 0 0 0 (nI 0), zP h2 a2 b2 dn2 n2 oc2 le2 ll2 li2 lc2 kc2 rp2, zI i0 i1 i2 i3 i4 cn sS lS rS, zM m0 m1 m2 m3 m4 m5 mn mi] H := hP.sub (ws' := [zO o0 oa i0 m0 nn, (oa, .inl (cP, 3, .inr (.inr (.inr (.inr pf))))), zP h0 a0 b0 false 0 0 0 0 0 0 0 (nI 0), zP h1 a1 b1 false 0 0 0 0 0 0 0 (nI 0), zP h2 a2 b2 dn2 n2 oc2 le2 ll2 li2 lc2 kc2 rp2, zI i0 i1 i2 i3 i4 cn sS lS rS, zM m0 m1 m2 m3 m4 m5 mn mi]) [0, 1, 2, 6, 3, 4, 5] rfl
  have hD : va_D A [zO o0 oa i0 m0 nn, (oa, .inl (cP, 3, .inr (.inr (.inr (.inr pf))))), zP h0 a0 b0 false 0 0 0 0 0 0 0 (nI 0), zP h1 a1 b1 false 0 0 0 0 0 0 0 (nI 0), zP h2 a2 b2 dn2 n2 oc2 le2 ll2 li2 lc2 kc2 rp2, zI i0 i1 i2 i3 i4 cn sS lS rS, zM m0 m1 m2 m3 m4 m5 mn mi] := hD.sub (ws' := [zO o0 oa i0 m0 nn, (oa, .inl (cP, 3, .inr (.inr (.inr (.inr pf))))), zP h0 a0 b0 false 0 0 0 0 0 0 0 (nI 0), zP h1 a1 b1 false 0 0 0 0 0 0 0 (nI 0), zP h2 a2 b2 dn2 n2 oc2 le2 ll2 li2 lc2 kc2 rp2, zI i0 i1 i2 i3 i4 cn sS lS rS, zM m0 m1 m2 m3 m4 m5 mn mi]) [0, 1, 2, 6, 3, 4, 5] (by decide) rfl
  refine lv_iinc (k := 0) (v := nI (0 + 1 + 1)) (lv' := [(1, .int (nI (0 + 1 + 1))), (0, .ref o0)]) hx hb dc_O_renew_16 hl rfl (nI_inc1 _) (by decide) rfl (fun ls hl => ?_)
  refine lv_goto (tgt := 2) hx hb dc_O_renew_19 (by decide) ?_
  refine lv_iload_n hx hb dc_O_renew_2 rfl (lv_at hl 0 rfl) ?_
  refine lv_iconst (v := nI 3) hx hb dc_O_renew_3 (by decide) ?_
  refine lv_icmp_ge (tgt := 22) hx hb dc_O_renew_4 (by decide) (fun hc => ?_) (fun hc => ?_)
  · have h4 : 3 ≤ (0 + 1 + 1) := (nI_leI (by omega) (by omega)).mp hc
    exact absurd h4 (by omega)
  have h4 : (0 + 1 + 1) < 3 := Nat.lt_of_not_le (fun h9 => hc ((nI_leI (by omega) (by omega)).mpr h9))
  refine lv_aload_n hx hb dc_O_renew_7 rfl (lv_at hl 1 rfl) ?_
  refine va_get (D := (dC, dI)) (ci := 3) (v := .ref oa) (C := cn_O) (T := ft_O) (N := 4) hx hb htb ki_O hown hK hP 0 rfl rfl 0 (by decide) (htb _ kw_139) (fun _ h9 => h9) rfl dc_O_renew_8 ?_
  refine lv_iload_n hx hb dc_O_renew_11 rfl (lv_at hl 0 rfl) ?_
  refine wa_ald hx hb hK hP 1 3 rfl rfl (k := 0 + 1 + 1) (by omega) (by omega) (v := h2) (hf2) dc_O_renew_12 ?_
  refine cl_v (wc := [zP h2 a2 b2 dn2 n2 oc2 le2 ll2 li2 lc2 kc2 rp2]) (wr := [zO o0 oa i0 m0 nn, (oa, .inl (cP, 3, .inr (.inr (.inr (.inr pf))))), zP h0 a0 b0 false 0 0 0 0 0 0 0 (nI 0), zP h1 a1 b1 false 0 0 0 0 0 0 0 (nI 0), zI i0 i1 i2 i3 i4 cn sS lS rS, zM m0 m1 m2 m3 m4 m5 mn mi]) (w1 := [zP h2 a2 b2 false 0 0 0 0 0 0 0 (nI 0)]) hP hD hS hA [4] [0, 1, 2, 3, 5, 6] rfl rfl (by decide) (by decide) (va_runV (As := []) (rest := []) ⟨hx, hb, hml, hown, htb⟩ (oc_P_clear l dC dI cI cJ cZ cP _ h2 a2 b2 dn2 n2 oc2 le2 ll2 li2 lc2 kc2 rp2 ) (cwV 0 htb (gw_V kw_156 kw_157 kw_158 kw_2 kw_159) rfl rfl rfl (by decide +kernel) ⟨Nat.le_of_ble_eq_true rfl, Nat.le_of_ble_eq_true rfl⟩) (pr_V hP hK hD (va_recv hK hP (ci := 2) (q0 := 4) rfl rfl) [4] (by decide) rfl rfl) rfl rfl hl.1 rfl (lv_room (Nat.le_of_ble_eq_true rfl)) dc_O_renew_13 ⟨Nat.le_of_ble_eq_true rfl, Nat.le_of_ble_eq_true rfl⟩) (fun H locs hP hD hS => ?_)
  have hP : va_P (dC, dI) clsL [zO o0 oa i0 m0 nn, (oa, .inl (cP, 3, .inr (.inr (.inr (.inr pf))))), zP h0 a0 b0 false 0 0 0 0 0 0 0 (nI 0), zP h1 a1 b1 false 0 0 0 0 0 0 0 (nI 0), zP h2 a2 b2 false 0 0 0 0 0 0 0 (nI 0), zI i0 i1 i2 i3 i4 cn sS lS rS, zM m0 m1 m2 m3 m4 m5 mn mi] H := hP.sub (ws' := [zO o0 oa i0 m0 nn, (oa, .inl (cP, 3, .inr (.inr (.inr (.inr pf))))), zP h0 a0 b0 false 0 0 0 0 0 0 0 (nI 0), zP h1 a1 b1 false 0 0 0 0 0 0 0 (nI 0), zP h2 a2 b2 false 0 0 0 0 0 0 0 (nI 0), zI i0 i1 i2 i3 i4 cn sS lS rS, zM m0 m1 m2 m3 m4 m5 mn mi]) [0, 1, 2, 3, 6, 4, 5] rfl
  have hD : va_D A [zO o0 oa i0 m0 nn, (oa, .inl (cP, 3, .inr (.inr (.inr (.inr pf))))), zP h0 a0 b0 false 0 0 0 0 0 0 0 (nI 0), zP h1 a1 b1 false 0 0 0 0 0 0 0 (nI 0), zP h2 a2 b2 false 0 0 0 0 0 0 0 (nI 0), zI i0 i1 i2 i3 i4 cn sS lS rS, zM m0 m1 m2 m3 m4 m5 mn mi] := hD.sub (ws' := [zO o0 oa i0 m0 nn, (oa, .inl (cP, 3, .inr (.inr (.inr (.inr pf))))), zP h0 a0 b0 false 0 0 0 0 0 0 0 (nI 0), zP h1 a1 b1 false 0 0 0 0 0 0 0 (nI 0), zP h2 a2 b2 false 0 0 0 0 0 0 0 (nI 0), zI i0 i1 i2 i3 i4 cn sS lS rS, zM m0 m1 m2 m3 m4 m5 mn mi]) [0, 1, 2, 3, 6, 4, 5] (by decide) rfl
  refine lv_iinc (k := 0) (v := nI (0 + 1 + 1 + 1)) (lv' := [(1, .int (nI (0 + 1 + 1 + 1))), (0, .ref o0)]) hx hb dc_O_renew_16 hl rfl (nI_inc1 _) (by decide) rfl (fun ls hl => ?_)
  refine lv_goto (tgt := 2) hx hb dc_O_renew_19 (by decide) ?_
  refine lv_iload_n hx hb dc_O_renew_2 rfl (lv_at hl 0 rfl) ?_
  refine lv_iconst (v := nI 3) hx hb dc_O_renew_3 (by decide) ?_
  refine lv_icmp_ge (tgt := 22) hx hb dc_O_renew_4 (by decide) (fun hc => ?_) (fun hc => ?_)
  rotate_left
  · have h4 : (0 + 1 + 1 + 1) < 3 := Nat.lt_of_not_le (fun h9 => hc ((nI_leI (by omega) (by omega)).mpr h9))
    exact absurd h4 (by omega)
  have h4 : 3 ≤ (0 + 1 + 1 + 1) := (nI_leI (by omega) (by omega)).mp hc
  refine lv_aload_n hx hb dc_O_renew_22 rfl (lv_at hl 1 rfl) ?_
  refine va_get (D := (dC, dI)) (ci := 3) (v := .ref i0) (C := cn_O) (T := ft_O) (N := 4) hx hb htb ki_O hown hK hP 0 rfl rfl 1 (by decide) (htb _ kw_140) (fun _ h9 => h9) rfl dc_O_renew_23 ?_
  refine cl_v (wc := [zI i0 i1 i2 i3 i4 cn sS lS rS]) (wr := [zO o0 oa i0 m0 nn, (oa, .inl (cP, 3, .inr (.inr (.inr (.inr pf))))), zP h0 a0 b0 false 0 0 0 0 0 0 0 (nI 0), zP h1 a1 b1 false 0 0 0 0 0 0 0 (nI 0), zP h2 a2 b2 false 0 0 0 0 0 0 0 (nI 0), zM m0 m1 m2 m3 m4 m5 mn mi]) (w1 := [zI i0 i1 i2 i3 i4 0 0 0 0]) hP hD hS hA [5] [0, 1, 2, 3, 4, 6] rfl rfl (by decide) (by decide) (va_runV (As := []) (rest := []) ⟨hx, hb, hml, hown, htb⟩ (oc_I_clear l dC dI cI cJ cZ cP _ i0 i1 i2 i3 i4 cn sS lS rS ) (cwV 0 htb (gw_V kw_160 kw_161 kw_162 kw_3 kw_163) rfl rfl rfl (by decide +kernel) ⟨Nat.le_of_ble_eq_true rfl, Nat.le_of_ble_eq_true rfl⟩) (pr_V hP hK hD (va_recv hK hP (ci := 0) (q0 := 5) rfl rfl) [5] (by decide) rfl rfl) rfl rfl hl.1 rfl (lv_room (Nat.le_of_ble_eq_true rfl)) dc_O_renew_26 ⟨Nat.le_of_ble_eq_true rfl, Nat.le_of_ble_eq_true rfl⟩) (fun H locs hP hD hS => ?_)
  have hP : va_P (dC, dI) clsL [zO o0 oa i0 m0 nn, (oa, .inl (cP, 3, .inr (.inr (.inr (.inr pf))))), zP h0 a0 b0 false 0 0 0 0 0 0 0 (nI 0), zP h1 a1 b1 false 0 0 0 0 0 0 0 (nI 0), zP h2 a2 b2 false 0 0 0 0 0 0 0 (nI 0), zI i0 i1 i2 i3 i4 0 0 0 0, zM m0 m1 m2 m3 m4 m5 mn mi] H := hP.sub (ws' := [zO o0 oa i0 m0 nn, (oa, .inl (cP, 3, .inr (.inr (.inr (.inr pf))))), zP h0 a0 b0 false 0 0 0 0 0 0 0 (nI 0), zP h1 a1 b1 false 0 0 0 0 0 0 0 (nI 0), zP h2 a2 b2 false 0 0 0 0 0 0 0 (nI 0), zI i0 i1 i2 i3 i4 0 0 0 0, zM m0 m1 m2 m3 m4 m5 mn mi]) [0, 1, 2, 3, 4, 6, 5] rfl
  have hD : va_D A [zO o0 oa i0 m0 nn, (oa, .inl (cP, 3, .inr (.inr (.inr (.inr pf))))), zP h0 a0 b0 false 0 0 0 0 0 0 0 (nI 0), zP h1 a1 b1 false 0 0 0 0 0 0 0 (nI 0), zP h2 a2 b2 false 0 0 0 0 0 0 0 (nI 0), zI i0 i1 i2 i3 i4 0 0 0 0, zM m0 m1 m2 m3 m4 m5 mn mi] := hD.sub (ws' := [zO o0 oa i0 m0 nn, (oa, .inl (cP, 3, .inr (.inr (.inr (.inr pf))))), zP h0 a0 b0 false 0 0 0 0 0 0 0 (nI 0), zP h1 a1 b1 false 0 0 0 0 0 0 0 (nI 0), zP h2 a2 b2 false 0 0 0 0 0 0 0 (nI 0), zI i0 i1 i2 i3 i4 0 0 0 0, zM m0 m1 m2 m3 m4 m5 mn mi]) [0, 1, 2, 3, 4, 6, 5] (by decide) rfl
  refine lv_aload_n hx hb dc_O_renew_29 rfl (lv_at hl 1 rfl) ?_
  refine va_get (D := (dC, dI)) (ci := 3) (v := .ref m0) (C := cn_O) (T := ft_O) (N := 4) hx hb htb ki_O hown hK hP 0 rfl rfl 2 (by decide) (htb _ kw_141) (fun _ h9 => h9) rfl dc_O_renew_30 ?_
  refine cl_v (wc := [zM m0 m1 m2 m3 m4 m5 mn mi]) (wr := [zO o0 oa i0 m0 nn, (oa, .inl (cP, 3, .inr (.inr (.inr (.inr pf))))), zP h0 a0 b0 false 0 0 0 0 0 0 0 (nI 0), zP h1 a1 b1 false 0 0 0 0 0 0 0 (nI 0), zP h2 a2 b2 false 0 0 0 0 0 0 0 (nI 0), zI i0 i1 i2 i3 i4 0 0 0 0]) (w1 := [zM m0 m1 m2 m3 m4 m5 0 0]) hP hD hS hA [6] [0, 1, 2, 3, 4, 5] rfl rfl (by decide) (by decide) (va_runV (As := []) (rest := []) ⟨hx, hb, hml, hown, htb⟩ (oc_M_clear l dC dI cI cJ cZ cP _ m0 m1 m2 m3 m4 m5 mn mi ) (cwV 0 htb (gw_V kw_164 kw_165 kw_166 kw_4 kw_167) rfl rfl rfl (by decide +kernel) ⟨Nat.le_of_ble_eq_true rfl, Nat.le_of_ble_eq_true rfl⟩) (pr_V hP hK hD (va_recv hK hP (ci := 1) (q0 := 6) rfl rfl) [6] (by decide) rfl rfl) rfl rfl hl.1 rfl (lv_room (Nat.le_of_ble_eq_true rfl)) dc_O_renew_33 ⟨Nat.le_of_ble_eq_true rfl, Nat.le_of_ble_eq_true rfl⟩) (fun H locs hP hD hS => ?_)
  have hP : va_P (dC, dI) clsL [zO o0 oa i0 m0 nn, (oa, .inl (cP, 3, .inr (.inr (.inr (.inr pf))))), zP h0 a0 b0 false 0 0 0 0 0 0 0 (nI 0), zP h1 a1 b1 false 0 0 0 0 0 0 0 (nI 0), zP h2 a2 b2 false 0 0 0 0 0 0 0 (nI 0), zI i0 i1 i2 i3 i4 0 0 0 0, zM m0 m1 m2 m3 m4 m5 0 0] H := hP.sub (ws' := [zO o0 oa i0 m0 nn, (oa, .inl (cP, 3, .inr (.inr (.inr (.inr pf))))), zP h0 a0 b0 false 0 0 0 0 0 0 0 (nI 0), zP h1 a1 b1 false 0 0 0 0 0 0 0 (nI 0), zP h2 a2 b2 false 0 0 0 0 0 0 0 (nI 0), zI i0 i1 i2 i3 i4 0 0 0 0, zM m0 m1 m2 m3 m4 m5 0 0]) [0, 1, 2, 3, 4, 5, 6] rfl
  have hD : va_D A [zO o0 oa i0 m0 nn, (oa, .inl (cP, 3, .inr (.inr (.inr (.inr pf))))), zP h0 a0 b0 false 0 0 0 0 0 0 0 (nI 0), zP h1 a1 b1 false 0 0 0 0 0 0 0 (nI 0), zP h2 a2 b2 false 0 0 0 0 0 0 0 (nI 0), zI i0 i1 i2 i3 i4 0 0 0 0, zM m0 m1 m2 m3 m4 m5 0 0] := hD.sub (ws' := [zO o0 oa i0 m0 nn, (oa, .inl (cP, 3, .inr (.inr (.inr (.inr pf))))), zP h0 a0 b0 false 0 0 0 0 0 0 0 (nI 0), zP h1 a1 b1 false 0 0 0 0 0 0 0 (nI 0), zP h2 a2 b2 false 0 0 0 0 0 0 0 (nI 0), zI i0 i1 i2 i3 i4 0 0 0 0, zM m0 m1 m2 m3 m4 m5 0 0]) [0, 1, 2, 3, 4, 5, 6] (by decide) rfl
  refine lv_aload_n hx hb dc_O_renew_36 rfl (lv_at hl 1 rfl) ?_
  refine lv_iconst (v := nI 0) hx hb dc_O_renew_37 (by decide) ?_
  refine va_put (D := (dC, dI)) (ci := 3) (v := .int (nI 0)) (ty := .int) (C := cn_O) (T := ft_O) (N := 4) hx hb htb ki_O fy_O fy_O_ok nm_O_d hown hK hP hD hS 0 rfl rfl 3 (by decide) (htb _ kw_142) (fun _ h9 => h9) rfl (by decide +kernel) rfl rfl (Nat.le_of_ble_eq_true rfl) dc_O_renew_38 (fun H locs hP hD hS => ?_)
  have hP : va_P (dC, dI) clsL [zO o0 oa i0 m0 0, (oa, .inl (cP, 3, .inr (.inr (.inr (.inr pf))))), zP h0 a0 b0 false 0 0 0 0 0 0 0 (nI 0), zP h1 a1 b1 false 0 0 0 0 0 0 0 (nI 0), zP h2 a2 b2 false 0 0 0 0 0 0 0 (nI 0), zI i0 i1 i2 i3 i4 0 0 0 0, zM m0 m1 m2 m3 m4 m5 0 0] H := hP
  have hD : va_D A [zO o0 oa i0 m0 0, (oa, .inl (cP, 3, .inr (.inr (.inr (.inr pf))))), zP h0 a0 b0 false 0 0 0 0 0 0 0 (nI 0), zP h1 a1 b1 false 0 0 0 0 0 0 0 (nI 0), zP h2 a2 b2 false 0 0 0 0 0 0 0 (nI 0), zI i0 i1 i2 i3 i4 0 0 0 0, zM m0 m1 m2 m3 m4 m5 0 0] := hD
  have hP9 := hP.sub (ws' := [zO o0 oa i0 m0 0, (oa, .inl (cP, 3, .inr (.inr (.inr (.inr pf))))), zP h0 a0 b0 false 0 0 0 0 0 0 0 (nI 0), zP h1 a1 b1 false 0 0 0 0 0 0 0 (nI 0), zP h2 a2 b2 false 0 0 0 0 0 0 0 (nI 0), zI i0 i1 i2 i3 i4 0 0 0 0, zM m0 m1 m2 m3 m4 m5 0 0]) [0, 1, 2, 3, 4, 5, 6] rfl
  have hD9 := hD.sub (ws' := [zO o0 oa i0 m0 0, (oa, .inl (cP, 3, .inr (.inr (.inr (.inr pf))))), zP h0 a0 b0 false 0 0 0 0 0 0 0 (nI 0), zP h1 a1 b1 false 0 0 0 0 0 0 0 (nI 0), zP h2 a2 b2 false 0 0 0 0 0 0 0 (nI 0), zI i0 i1 i2 i3 i4 0 0 0 0, zM m0 m1 m2 m3 m4 m5 0 0]) [0, 1, 2, 3, 4, 5, 6] (by decide) rfl
  exact W.vret hx hb hr (fun t ht hW => ⟨⟨(), rfl, trivial, by rw [ht]; exact hP9, va_K.moved hW.alike hK, hD9⟩, hS.F ht⟩) hS.2.2 dc_O_renew_41

set_option maxHeartbeats 4000000 in
set_option maxRecDepth 100000 in
theorem oc_O_orphans (l : Launch) (dC : Nat → ClassId) (dI : Nat → Nat → Nat) (cI cJ cZ cP : ClassId) (sz : Nat) (o0 : Nat) (oa : Nat) (i0 : Nat) (m0 : Nat) (nn : Nat) (pf : Nat → Option Nat) (h0 : Nat) (a0 : Nat) (b0 : Nat) (dn0 : Bool) (n0 : Nat) (oc0 : Nat) (le0 : Nat) (ll0 : Int64) (li0 : Int64) (lc0 : Nat) (kc0 : Nat) (rp0 : Int32) (ch0 : Nat → Nat) (h1 : Nat) (a1 : Nat) (b1 : Nat) (dn1 : Bool) (n1 : Nat) (oc1 : Nat) (le1 : Nat) (ll1 : Int64) (li1 : Int64) (lc1 : Nat) (kc1 : Nat) (rp1 : Int32) (ch1 : Nat → Nat) (h2 : Nat) (a2 : Nat) (b2 : Nat) (dn2 : Bool) (n2 : Nat) (oc2 : Nat) (le2 : Nat) (ll2 : Int64) (li2 : Int64) (lc2 : Nat) (kc2 : Nat) (rp2 : Int32) (ch2 : Nat → Nat) (i1 : Nat) (i2 : Nat) (i3 : Nat) (i4 : Nat) (cn : Nat) (sS : Int64) (lS : Int64) (rS : Int64) (dp : Nat → Int64) (hf0 : pf 0 = some h0) (hf1 : pf 1 = some h1) (hf2 : pf 2 = some h2) (hn0 : n0 ≤ 40) (hch0 : ∀ k, k < n0 → ch0 k < 40) (hn1 : n1 ≤ 40) (hch1 : ∀ k, k < n1 → ch1 k < 40) (hn2 : n2 ≤ 40) (hch2 : ∀ k, k < n2 → ch2 k < 40) : mt_I l mn_O_orphans bc_O_orphans 3 (some .int) ({ frames := 2, cells := 0, slots := 0, locals := 45 }) (dC, dI) (TYS cI cJ cZ cP) sz [.ref o0] [zO o0 oa i0 m0 nn, (oa, .inl (cP, 3, .inr (.inr (.inr (.inr pf))))), zP h0 a0 b0 dn0 n0 oc0 le0 ll0 li0 lc0 kc0 rp0, (a0, .inl (cI, 40, .inl (nF ch0))), zP h1 a1 b1 dn1 n1 oc1 le1 ll1 li1 lc1 kc1 rp1, (a1, .inl (cI, 40, .inl (nF ch1))), zP h2 a2 b2 dn2 n2 oc2 le2 ll2 li2 lc2 kc2 rp2, (a2, .inl (cI, 40, .inl (nF ch2))), zI i0 i1 i2 i3 i4 cn sS lS rS, (i4, .inl (cJ, 40, .inr (.inl dp)))] [zO o0 oa i0 m0 nn, (oa, .inl (cP, 3, .inr (.inr (.inr (.inr pf))))), zP h0 a0 b0 dn0 n0 oc0 le0 ll0 li0 lc0 kc0 rp0, (a0, .inl (cI, 40, .inl (nF ch0))), zP h1 a1 b1 dn1 n1 oc1 le1 ll1 li1 lc1 kc1 rp1, (a1, .inl (cI, 40, .inl (nF ch1))), zP h2 a2 b2 dn2 n2 oc2 le2 ll2 li2 lc2 kc2 rp2, (a2, .inl (cI, 40, .inl (nF ch2))), zI i0 i1 i2 i3 i4 cn sS lS rS, (i4, .inl (cJ, 40, .inr (.inl dp)))] (nI (0 + (if dn0 then 0 else n0 - fo_N (hb_B dp ch0 lS) n0 0) + (if dn1 then 0 else n1 - fo_N (hb_B dp ch1 lS) n1 0) + (if dn2 then 0 else n2 - fo_N (hb_B dp ch2 lS) n2 0))) 0 0 := by
  unfold mt_I
  refine Met.ofW (cc := bc_O_orphans) (maxL := 3) (ret := (some .int)) (by decide) rfl ?_
  intro p e s m args below meth c s₁ B hml hv
  obtain ⟨rfl, hsz, hP, hK, hD0⟩ := hv
  have hx := B.exec
  have hb := B.bytes
  have hr := B.returns
  have hts := atoms_spec (ws := wsT mn_O_orphans bc_O_orphans 3 (some .int)) B.pre
  have htb : ∀ w ∈ gtbl, w.before _ s = true := fun w h => hts w (List.mem_cons_of_mem _ h)
  have hown : s.vm.findClass cn_O = some m.cls := findClass_of_methodNamed B.named
  have hlocks := B.notSynchronized
  subst hsz
  have hD := hD0.self (sz := s.heap.size)
  generalize hAe : va_A [zO o0 oa i0 m0 nn, (oa, .inl (cP, 3, .inr (.inr (.inr (.inr pf))))), zP h0 a0 b0 dn0 n0 oc0 le0 ll0 li0 lc0 kc0 rp0, (a0, .inl (cI, 40, .inl (nF ch0))), zP h1 a1 b1 dn1 n1 oc1 le1 ll1 li1 lc1 kc1 rp1, (a1, .inl (cI, 40, .inl (nF ch1))), zP h2 a2 b2 dn2 n2 oc2 le2 ll2 li2 lc2 kc2 rp2, (a2, .inl (cI, 40, .inl (nF ch2))), zI i0 i1 i2 i3 i4 cn sS lS rS, (i4, .inl (cJ, 40, .inr (.inl dp)))] s.heap.size = A at hD ⊢
  have hA : ∀ q : Nat, s.heap.size ≤ q → A q := fun q h => by rw [← hAe]; exact Or.inr h
  have hS : va_S A s.heap s.heap [] := va_S.rf
  have hP : va_P (dC, dI) clsL [zO o0 oa i0 m0 nn, (oa, .inl (cP, 3, .inr (.inr (.inr (.inr pf))))), zP h0 a0 b0 dn0 n0 oc0 le0 ll0 li0 lc0 kc0 rp0, (a0, .inl (cI, 40, .inl (nF ch0))), zP h1 a1 b1 dn1 n1 oc1 le1 ll1 li1 lc1 kc1 rp1, (a1, .inl (cI, 40, .inl (nF ch1))), zP h2 a2 b2 dn2 n2 oc2 le2 ll2 li2 lc2 kc2 rp2, (a2, .inl (cI, 40, .inl (nF ch2))), zI i0 i1 i2 i3 i4 cn sS lS rS, (i4, .inl (cJ, 40, .inr (.inl dp)))] s.heap := hP
  have hl := lv_entry ([.ref o0]) (n := 3) (Nat.le_of_ble_eq_true rfl)
  rw [lg_entry_eq]
  generalize (lg_sl ([.ref o0]) ++ List.replicate (3 - (lg_sl ([.ref o0])).length) Slot.unset).toArray = ls at hl ⊢
  have hl : lv_has ls 3 [(0, .ref o0)] := hl
  refine lv_iconst (v := nI 0) hx hb dc_O_orphans_0 (by decide) ?_
  refine lv_istore_n (lv' := [(1, .int (nI 0)), (0, .ref o0)]) hx hb dc_O_orphans_1 rfl hl (by decide) rfl (fun ls hl => ?_)
  refine lv_iconst (v := nI 0) hx hb dc_O_orphans_2 (by decide) ?_
  refine lv_istore_n (lv' := [(2, .int (nI 0)), (1, .int (nI 0)), (0, .ref o0)]) hx hb dc_O_orphans_3 rfl hl (by decide) rfl (fun ls hl => ?_)
  refine lv_iload_n hx hb dc_O_orphans_4 rfl (lv_at hl 0 rfl) ?_
  refine lv_iconst (v := nI 3) hx hb dc_O_orphans_5 (by decide) ?_
  refine lv_icmp_ge (tgt := 40) hx hb dc_O_orphans_6 (by decide) (fun hc => ?_) (fun hc => ?_)
  · have h6 : 3 ≤ 0 := (nI_leI (by omega) (by omega)).mp hc
    exact absurd h6 (by omega)
  have h6 : 0 < 3 := Nat.lt_of_not_le (fun h9 => hc ((nI_leI (by omega) (by omega)).mpr h9))
  refine lv_aload_n hx hb dc_O_orphans_9 rfl (lv_at hl 2 rfl) ?_
  refine va_get (D := (dC, dI)) (ci := 3) (v := .ref oa) (C := cn_O) (T := ft_O) (N := 4) hx hb htb ki_O hown hK hP 0 rfl rfl 0 (by decide) (htb _ kw_139) (fun _ h9 => h9) rfl dc_O_orphans_10 ?_
  refine lv_iload_n hx hb dc_O_orphans_13 rfl (lv_at hl 0 rfl) ?_
  refine wa_ald hx hb hK hP 1 3 rfl rfl (k := 0) (by omega) (by omega) (v := h0) (hf0) dc_O_orphans_14 ?_
  refine va_get (D := (dC, dI)) (ci := 2) (v := .int (bI dn0)) (C := cn_P) (T := ft_P) (N := 11) hx hb htb ki_P hown hK hP 2 rfl rfl 2 (by decide) (htb _ kw_27) (fun _ h9 => h9) rfl dc_O_orphans_15 ?_
  refine lv_if_ne (tgt := 34) hx hb dc_O_orphans_18 (by decide) (fun hc => ?_) (fun hc => ?_)
  · have h18 : dn0 = true := bI_n0.mp hc
    refine lv_iinc (k := 0) (v := nI (0 + 1)) (lv' := [(2, .int (nI (0 + 1))), (1, .int (nI 0)), (0, .ref o0)]) hx hb dc_O_orphans_34 hl rfl (nI_inc1 _) (by decide) rfl (fun ls hl => ?_)
    refine lv_goto (tgt := 4) hx hb dc_O_orphans_37 (by decide) ?_
    refine lv_iload_n hx hb dc_O_orphans_4 rfl (lv_at hl 0 rfl) ?_
    refine lv_iconst (v := nI 3) hx hb dc_O_orphans_5 (by decide) ?_
    refine lv_icmp_ge (tgt := 40) hx hb dc_O_orphans_6 (by decide) (fun hc => ?_) (fun hc => ?_)
    · have h6 : 3 ≤ (0 + 1) := (nI_leI (by omega) (by omega)).mp hc
      exact absurd h6 (by omega)
    have h6 : (0 + 1) < 3 := Nat.lt_of_not_le (fun h9 => hc ((nI_leI (by omega) (by omega)).mpr h9))
    refine lv_aload_n hx hb dc_O_orphans_9 rfl (lv_at hl 2 rfl) ?_
    refine va_get (D := (dC, dI)) (ci := 3) (v := .ref oa) (C := cn_O) (T := ft_O) (N := 4) hx hb htb ki_O hown hK hP 0 rfl rfl 0 (by decide) (htb _ kw_139) (fun _ h9 => h9) rfl dc_O_orphans_10 ?_
    refine lv_iload_n hx hb dc_O_orphans_13 rfl (lv_at hl 0 rfl) ?_
    refine wa_ald hx hb hK hP 1 3 rfl rfl (k := 0 + 1) (by omega) (by omega) (v := h1) (hf1) dc_O_orphans_14 ?_
    refine va_get (D := (dC, dI)) (ci := 2) (v := .int (bI dn1)) (C := cn_P) (T := ft_P) (N := 11) hx hb htb ki_P hown hK hP 4 rfl rfl 2 (by decide) (htb _ kw_27) (fun _ h9 => h9) rfl dc_O_orphans_15 ?_
    refine lv_if_ne (tgt := 34) hx hb dc_O_orphans_18 (by decide) (fun hc => ?_) (fun hc => ?_)
    · have h18 : dn1 = true := bI_n0.mp hc
      refine lv_iinc (k := 0) (v := nI (0 + 1 + 1)) (lv' := [(2, .int (nI (0 + 1 + 1))), (1, .int (nI 0)), (0, .ref o0)]) hx hb dc_O_orphans_34 hl rfl (nI_inc1 _) (by decide) rfl (fun ls hl => ?_)
      refine lv_goto (tgt := 4) hx hb dc_O_orphans_37 (by decide) ?_
      refine lv_iload_n hx hb dc_O_orphans_4 rfl (lv_at hl 0 rfl) ?_
      refine lv_iconst (v := nI 3) hx hb dc_O_orphans_5 (by decide) ?_
      refine lv_icmp_ge (tgt := 40) hx hb dc_O_orphans_6 (by decide) (fun hc => ?_) (fun hc => ?_)
      · have h6 : 3 ≤ (0 + 1 + 1) := (nI_leI (by omega) (by omega)).mp hc
        exact absurd h6 (by omega)
      have h6 : (0 + 1 + 1) < 3 := Nat.lt_of_not_le (fun h9 => hc ((nI_leI (by omega) (by omega)).mpr h9))
      refine lv_aload_n hx hb dc_O_orphans_9 rfl (lv_at hl 2 rfl) ?_
      refine va_get (D := (dC, dI)) (ci := 3) (v := .ref oa) (C := cn_O) (T := ft_O) (N := 4) hx hb htb ki_O hown hK hP 0 rfl rfl 0 (by decide) (htb _ kw_139) (fun _ h9 => h9) rfl dc_O_orphans_10 ?_
      refine lv_iload_n hx hb dc_O_orphans_13 rfl (lv_at hl 0 rfl) ?_
      refine wa_ald hx hb hK hP 1 3 rfl rfl (k := 0 + 1 + 1) (by omega) (by omega) (v := h2) (hf2) dc_O_orphans_14 ?_
      refine va_get (D := (dC, dI)) (ci := 2) (v := .int (bI dn2)) (C := cn_P) (T := ft_P) (N := 11) hx hb htb ki_P hown hK hP 6 rfl rfl 2 (by decide) (htb _ kw_27) (fun _ h9 => h9) rfl dc_O_orphans_15 ?_
      refine lv_if_ne (tgt := 34) hx hb dc_O_orphans_18 (by decide) (fun hc => ?_) (fun hc => ?_)
      · have h18 : dn2 = true := bI_n0.mp hc
        refine lv_iinc (k := 0) (v := nI (0 + 1 + 1 + 1)) (lv' := [(2, .int (nI (0 + 1 + 1 + 1))), (1, .int (nI 0)), (0, .ref o0)]) hx hb dc_O_orphans_34 hl rfl (nI_inc1 _) (by decide) rfl (fun ls hl => ?_)
        refine lv_goto (tgt := 4) hx hb dc_O_orphans_37 (by decide) ?_
        refine lv_iload_n hx hb dc_O_orphans_4 rfl (lv_at hl 0 rfl) ?_
        refine lv_iconst (v := nI 3) hx hb dc_O_orphans_5 (by decide) ?_
        refine lv_icmp_ge (tgt := 40) hx hb dc_O_orphans_6 (by decide) (fun hc => ?_) (fun hc => ?_)
        rotate_left
        · have h6 : (0 + 1 + 1 + 1) < 3 := Nat.lt_of_not_le (fun h9 => hc ((nI_leI (by omega) (by omega)).mpr h9))
          exact absurd h6 (by omega)
        have h6 : 3 ≤ (0 + 1 + 1 + 1) := (nI_leI (by omega) (by omega)).mp hc
        refine lv_iload_n hx hb dc_O_orphans_40 rfl (lv_at hl 1 rfl) ?_
        have hP9 := hP.sub (ws' := [zO o0 oa i0 m0 nn, (oa, .inl (cP, 3, .inr (.inr (.inr (.inr pf))))), zP h0 a0 b0 dn0 n0 oc0 le0 ll0 li0 lc0 kc0 rp0, (a0, .inl (cI, 40, .inl (nF ch0))), zP h1 a1 b1 dn1 n1 oc1 le1 ll1 li1 lc1 kc1 rp1, (a1, .inl (cI, 40, .inl (nF ch1))), zP h2 a2 b2 dn2 n2 oc2 le2 ll2 li2 lc2 kc2 rp2, (a2, .inl (cI, 40, .inl (nF ch2))), zI i0 i1 i2 i3 i4 cn sS lS rS, (i4, .inl (cJ, 40, .inr (.inl dp)))]) [0, 1, 2, 3, 4, 5, 6, 7, 8, 9] rfl
        have hD9 := hD.sub (ws' := [zO o0 oa i0 m0 nn, (oa, .inl (cP, 3, .inr (.inr (.inr (.inr pf))))), zP h0 a0 b0 dn0 n0 oc0 le0 ll0 li0 lc0 kc0 rp0, (a0, .inl (cI, 40, .inl (nF ch0))), zP h1 a1 b1 dn1 n1 oc1 le1 ll1 li1 lc1 kc1 rp1, (a1, .inl (cI, 40, .inl (nF ch1))), zP h2 a2 b2 dn2 n2 oc2 le2 ll2 li2 lc2 kc2 rp2, (a2, .inl (cI, 40, .inl (nF ch2))), zI i0 i1 i2 i3 i4 cn sS lS rS, (i4, .inl (cJ, 40, .inr (.inl dp)))]) [0, 1, 2, 3, 4, 5, 6, 7, 8, 9] (by decide) rfl
        exact W.iret (v := nI 0) hx hb hr (fun t ht hW => ⟨⟨_, (), rfl, by simp [*], by rw [ht]; exact hP9, va_K.moved hW.alike hK, hD9⟩, hS.F ht⟩) hS.2.2 dc_O_orphans_41
      · have h18 : dn2 = false := bI_0.mp hc
        refine lv_iload_n hx hb dc_O_orphans_21 rfl (lv_at hl 1 rfl) ?_
        refine lv_aload_n hx hb dc_O_orphans_22 rfl (lv_at hl 2 rfl) ?_
        refine lv_aload_n hx hb dc_O_orphans_23 rfl (lv_at hl 2 rfl) ?_
        refine va_get (D := (dC, dI)) (ci := 3) (v := .ref oa) (C := cn_O) (T := ft_O) (N := 4) hx hb htb ki_O hown hK hP 0 rfl rfl 0 (by decide) (htb _ kw_139) (fun _ h9 => h9) rfl dc_O_orphans_24 ?_
        refine lv_iload_n hx hb dc_O_orphans_27 rfl (lv_at hl 0 rfl) ?_
        refine wa_ald hx hb hK hP 1 3 rfl rfl (k := 0 + 1 + 1) (by omega) (by omega) (v := h2) (hf2) dc_O_orphans_28 ?_
        refine cl_i (wc := [zO o0 oa i0 m0 nn, zP h2 a2 b2 dn2 n2 oc2 le2 ll2 li2 lc2 kc2 rp2, (a2, .inl (cI, 40, .inl (nF ch2))), zI i0 i1 i2 i3 i4 cn sS lS rS, (i4, .inl (cJ, 40, .inr (.inl dp)))]) (wr := [(oa, .inl (cP, 3, .inr (.inr (.inr (.inr pf))))), zP h0 a0 b0 dn0 n0 oc0 le0 ll0 li0 lc0 kc0 rp0, (a0, .inl (cI, 40, .inl (nF ch0))), zP h1 a1 b1 dn1 n1 oc1 le1 ll1 li1 lc1 kc1 rp1, (a1, .inl (cI, 40, .inl (nF ch1)))]) (w1 := [zO o0 oa i0 m0 nn, zP h2 a2 b2 dn2 n2 oc2 le2 ll2 li2 lc2 kc2 rp2, (a2, .inl (cI, 40, .inl (nF ch2))), zI i0 i1 i2 i3 i4 cn sS lS rS, (i4, .inl (cJ, 40, .inr (.inl dp)))]) hP hD hS hA [0, 6, 7, 8, 9] [1, 2, 3, 4, 5] rfl rfl (by decide) (by decide) (va_runV (As := [.ref h2]) (rest := [.int (nI 0)]) ⟨hx, hb, hml, hown, htb⟩ (oc_O_orphansOn l dC dI cI cJ cZ cP _ o0 oa i0 m0 nn h2 a2 b2 dn2 n2 oc2 le2 ll2 li2 lc2 kc2 rp2 i1 i2 i3 i4 cn sS lS rS ch2 dp (by first | assumption | omega) (by first | assumption | omega)) (cwV 1 htb (gw_V kw_352 kw_354 kp_12 kw_1 kw_355) rfl rfl rfl (by decide +kernel) ⟨Nat.le_of_ble_eq_true rfl, Nat.le_of_ble_eq_true rfl⟩) (pr_V hP hK hD (va_recv hK hP (ci := 3) (q0 := 0) rfl rfl) [0, 6, 7, 8, 9] (by decide) rfl rfl) rfl rfl hl.1 rfl (lv_room (Nat.le_of_ble_eq_true rfl)) dc_O_orphans_29 ⟨Nat.le_of_ble_eq_true rfl, Nat.le_of_ble_eq_true rfl⟩) (fun H locs hP hD hS => ?_)
        have hP : va_P (dC, dI) clsL [zO o0 oa i0 m0 nn, (oa, .inl (cP, 3, .inr (.inr (.inr (.inr pf))))), zP h0 a0 b0 dn0 n0 oc0 le0 ll0 li0 lc0 kc0 rp0, (a0, .inl (cI, 40, .inl (nF ch0))), zP h1 a1 b1 dn1 n1 oc1 le1 ll1 li1 lc1 kc1 rp1, (a1, .inl (cI, 40, .inl (nF ch1))), zP h2 a2 b2 dn2 n2 oc2 le2 ll2 li2 lc2 kc2 rp2, (a2, .inl (cI, 40, .inl (nF ch2))), zI i0 i1 i2 i3 i4 cn sS lS rS, (i4, .inl (cJ, 40, .inr (.inl dp)))] H := hP.sub (ws' := [zO o0 oa i0 m0 nn, (oa, .inl (cP, 3, .inr (.inr (.inr (.inr pf))))), zP h0 a0 b0 dn0 n0 oc0 le0 ll0 li0 lc0 kc0 rp0, (a0, .inl (cI, 40, .inl (nF ch0))), zP h1 a1 b1 dn1 n1 oc1 le1 ll1 li1 lc1 kc1 rp1, (a1, .inl (cI, 40, .inl (nF ch1))), zP h2 a2 b2 dn2 n2 oc2 le2 ll2 li2 lc2 kc2 rp2, (a2, .inl (cI, 40, .inl (nF ch2))), zI i0 i1 i2 i3 i4 cn sS lS rS, (i4, .inl (cJ, 40, .inr (.inl dp)))]) [5, 0, 1, 2, 3, 4, 6, 7, 8, 9] rfl
        have hD : va_D A [zO o0 oa i0 m0 nn, (oa, .inl (cP, 3, .inr (.inr (.inr (.inr pf))))), zP h0 a0 b0 dn0 n0 oc0 le0 ll0 li0 lc0 kc0 rp0, (a0, .inl (cI, 40, .inl (nF ch0))), zP h1 a1 b1 dn1 n1 oc1 le1 ll1 li1 lc1 kc1 rp1, (a1, .inl (cI, 40, .inl (nF ch1))), zP h2 a2 b2 dn2 n2 oc2 le2 ll2 li2 lc2 kc2 rp2, (a2, .inl (cI, 40, .inl (nF ch2))), zI i0 i1 i2 i3 i4 cn sS lS rS, (i4, .inl (cJ, 40, .inr (.inl dp)))] := hD.sub (ws' := [zO o0 oa i0 m0 nn, (oa, .inl (cP, 3, .inr (.inr (.inr (.inr pf))))), zP h0 a0 b0 dn0 n0 oc0 le0 ll0 li0 lc0 kc0 rp0, (a0, .inl (cI, 40, .inl (nF ch0))), zP h1 a1 b1 dn1 n1 oc1 le1 ll1 li1 lc1 kc1 rp1, (a1, .inl (cI, 40, .inl (nF ch1))), zP h2 a2 b2 dn2 n2 oc2 le2 ll2 li2 lc2 kc2 rp2, (a2, .inl (cI, 40, .inl (nF ch2))), zI i0 i1 i2 i3 i4 cn sS lS rS, (i4, .inl (cJ, 40, .inr (.inl dp)))]) [5, 0, 1, 2, 3, 4, 6, 7, 8, 9] (by decide) rfl
        refine lv_iadd hx hb dc_O_orphans_32 ?_
        refine tp_i (y := nI (0 + (n2 - (fo_N (hb_B dp ch2 lS) n2 0)))) (nI_add _ _) ?_
        refine lv_istore_n (lv' := [(1, .int (nI (0 + (n2 - (fo_N (hb_B dp ch2 lS) n2 0))))), (2, .int (nI (0 + 1 + 1))), (0, .ref o0)]) hx hb dc_O_orphans_33 rfl hl (by decide) rfl (fun ls hl => ?_)
        refine lv_iinc (k := 1) (v := nI (0 + 1 + 1 + 1)) (lv' := [(2, .int (nI (0 + 1 + 1 + 1))), (1, .int (nI (0 + (n2 - (fo_N (hb_B dp ch2 lS) n2 0))))), (0, .ref o0)]) hx hb dc_O_orphans_34 hl rfl (nI_inc1 _) (by decide) rfl (fun ls hl => ?_)
        refine lv_goto (tgt := 4) hx hb dc_O_orphans_37 (by decide) ?_
        refine lv_iload_n hx hb dc_O_orphans_4 rfl (lv_at hl 0 rfl) ?_
        refine lv_iconst (v := nI 3) hx hb dc_O_orphans_5 (by decide) ?_
        refine lv_icmp_ge (tgt := 40) hx hb dc_O_orphans_6 (by decide) (fun hc => ?_) (fun hc => ?_)
        rotate_left
        · have h6 : (0 + 1 + 1 + 1) < 3 := Nat.lt_of_not_le (fun h9 => hc ((nI_leI (by omega) (by omega)).mpr h9))
          exact absurd h6 (by omega)
        have h6 : 3 ≤ (0 + 1 + 1 + 1) := (nI_leI (by omega) (by omega)).mp hc
        refine lv_iload_n hx hb dc_O_orphans_40 rfl (lv_at hl 1 rfl) ?_
        have hP9 := hP.sub (ws' := [zO o0 oa i0 m0 nn, (oa, .inl (cP, 3, .inr (.inr (.inr (.inr pf))))), zP h0 a0 b0 dn0 n0 oc0 le0 ll0 li0 lc0 kc0 rp0, (a0, .inl (cI, 40, .inl (nF ch0))), zP h1 a1 b1 dn1 n1 oc1 le1 ll1 li1 lc1 kc1 rp1, (a1, .inl (cI, 40, .inl (nF ch1))), zP h2 a2 b2 dn2 n2 oc2 le2 ll2 li2 lc2 kc2 rp2, (a2, .inl (cI, 40, .inl (nF ch2))), zI i0 i1 i2 i3 i4 cn sS lS rS, (i4, .inl (cJ, 40, .inr (.inl dp)))]) [0, 1, 2, 3, 4, 5, 6, 7, 8, 9] rfl
        have hD9 := hD.sub (ws' := [zO o0 oa i0 m0 nn, (oa, .inl (cP, 3, .inr (.inr (.inr (.inr pf))))), zP h0 a0 b0 dn0 n0 oc0 le0 ll0 li0 lc0 kc0 rp0, (a0, .inl (cI, 40, .inl (nF ch0))), zP h1 a1 b1 dn1 n1 oc1 le1 ll1 li1 lc1 kc1 rp1, (a1, .inl (cI, 40, .inl (nF ch1))), zP h2 a2 b2 dn2 n2 oc2 le2 ll2 li2 lc2 kc2 rp2, (a2, .inl (cI, 40, .inl (nF ch2))), zI i0 i1 i2 i3 i4 cn sS lS rS, (i4, .inl (cJ, 40, .inr (.inl dp)))]) [0, 1, 2, 3, 4, 5, 6, 7, 8, 9] (by decide) rfl
        exact W.iret (v := nI (0 + (n2 - (fo_N (hb_B dp ch2 lS) n2 0)))) hx hb hr (fun t ht hW => ⟨⟨_, (), rfl, by simp [*], by rw [ht]; exact hP9, va_K.moved hW.alike hK, hD9⟩, hS.F ht⟩) hS.2.2 dc_O_orphans_41
    · have h18 : dn1 = false := bI_0.mp hc
      refine lv_iload_n hx hb dc_O_orphans_21 rfl (lv_at hl 1 rfl) ?_
      refine lv_aload_n hx hb dc_O_orphans_22 rfl (lv_at hl 2 rfl) ?_
      refine lv_aload_n hx hb dc_O_orphans_23 rfl (lv_at hl 2 rfl) ?_
      refine va_get (D := (dC, dI)) (ci := 3) (v := .ref oa) (C := cn_O) (T := ft_O) (N := 4) hx hb htb ki_O hown hK hP 0 rfl rfl 0 (by decide) (htb _ kw_139) (fun _ h9 => h9) rfl dc_O_orphans_24 ?_
      refine lv_iload_n hx hb dc_O_orphans_27 rfl (lv_at hl 0 rfl) ?_
      refine wa_ald hx hb hK hP 1 3 rfl rfl (k := 0 + 1) (by omega) (by omega) (v := h1) (hf1) dc_O_orphans_28 ?_
      refine cl_i (wc := [zO o0 oa i0 m0 nn, zP h1 a1 b1 dn1 n1 oc1 le1 ll1 li1 lc1 kc1 rp1, (a1, .inl (cI, 40, .inl (nF ch1))), zI i0 i1 i2 i3 i4 cn sS lS rS, (i4, .inl (cJ, 40, .inr (.inl dp)))]) (wr := [(oa, .inl (cP, 3, .inr (.inr (.inr (.inr pf))))), zP h0 a0 b0 dn0 n0 oc0 le0 ll0 li0 lc0 kc0 rp0, (a0, .inl (cI, 40, .inl (nF ch0))), zP h2 a2 b2 dn2 n2 oc2 le2 ll2 li2 lc2 kc2 rp2, (a2, .inl (cI, 40, .inl (nF ch2)))]) (w1 := [zO o0 oa i0 m0 nn, zP h1 a1 b1 dn1 n1 oc1 le1 ll1 li1 lc1 kc1 rp1, (a1, .inl (cI, 40, .inl (nF ch1))), zI i0 i1 i2 i3 i4 cn sS lS rS, (i4, .inl (cJ, 40, .inr (.inl dp)))]) hP hD hS hA [0, 4, 5, 8, 9] [1, 2, 3, 6, 7] rfl rfl (by decide) (by decide) (va_runV (As := [.ref h1]) (rest := [.int (nI 0)]) ⟨hx, hb, hml, hown, htb⟩ (oc_O_orphansOn l dC dI cI cJ cZ cP _ o0 oa i0 m0 nn h1 a1 b1 dn1 n1 oc1 le1 ll1 li1 lc1 kc1 rp1 i1 i2 i3 i4 cn sS lS rS ch1 dp (by first | assumption | omega) (by first | assumption | omega)) (cwV 1 htb (gw_V kw_352 kw_354 kp_12 kw_1 kw_355) rfl rfl rfl (by decide +kernel) ⟨Nat.le_of_ble_eq_true rfl, Nat.le_of_ble_eq_true rfl⟩) (pr_V hP hK hD (va_recv hK hP (ci := 3) (q0 := 0) rfl rfl) [0, 4, 5, 8, 9] (by decide) rfl rfl) rfl rfl hl.1 rfl (lv_room (Nat.le_of_ble_eq_true rfl)) dc_O_orphans_29 ⟨Nat.le_of_ble_eq_true rfl, Nat.le_of_ble_eq_true rfl⟩) (fun H locs hP hD hS => ?_)
      have hP : va_P (dC, dI) clsL [zO o0 oa i0 m0 nn, (oa, .inl (cP, 3, .inr (.inr (.inr (.inr pf))))), zP h0 a0 b0 dn0 n0 oc0 le0 ll0 li0 lc0 kc0 rp0, (a0, .inl (cI, 40, .inl (nF ch0))), zP h1 a1 b1 dn1 n1 oc1 le1 ll1 li1 lc1 kc1 rp1, (a1, .inl (cI, 40, .inl (nF ch1))), zP h2 a2 b2 dn2 n2 oc2 le2 ll2 li2 lc2 kc2 rp2, (a2, .inl (cI, 40, .inl (nF ch2))), zI i0 i1 i2 i3 i4 cn sS lS rS, (i4, .inl (cJ, 40, .inr (.inl dp)))] H := hP.sub (ws' := [zO o0 oa i0 m0 nn, (oa, .inl (cP, 3, .inr (.inr (.inr (.inr pf))))), zP h0 a0 b0 dn0 n0 oc0 le0 ll0 li0 lc0 kc0 rp0, (a0, .inl (cI, 40, .inl (nF ch0))), zP h1 a1 b1 dn1 n1 oc1 le1 ll1 li1 lc1 kc1 rp1, (a1, .inl (cI, 40, .inl (nF ch1))), zP h2 a2 b2 dn2 n2 oc2 le2 ll2 li2 lc2 kc2 rp2, (a2, .inl (cI, 40, .inl (nF ch2))), zI i0 i1 i2 i3 i4 cn sS lS rS, (i4, .inl (cJ, 40, .inr (.inl dp)))]) [5, 0, 1, 2, 6, 7, 3, 4, 8, 9] rfl
      have hD : va_D A [zO o0 oa i0 m0 nn, (oa, .inl (cP, 3, .inr (.inr (.inr (.inr pf))))), zP h0 a0 b0 dn0 n0 oc0 le0 ll0 li0 lc0 kc0 rp0, (a0, .inl (cI, 40, .inl (nF ch0))), zP h1 a1 b1 dn1 n1 oc1 le1 ll1 li1 lc1 kc1 rp1, (a1, .inl (cI, 40, .inl (nF ch1))), zP h2 a2 b2 dn2 n2 oc2 le2 ll2 li2 lc2 kc2 rp2, (a2, .inl (cI, 40, .inl (nF ch2))), zI i0 i1 i2 i3 i4 cn sS lS rS, (i4, .inl (cJ, 40, .inr (.inl dp)))] := hD.sub (ws' := [zO o0 oa i0 m0 nn, (oa, .inl (cP, 3, .inr (.inr (.inr (.inr pf))))), zP h0 a0 b0 dn0 n0 oc0 le0 ll0 li0 lc0 kc0 rp0, (a0, .inl (cI, 40, .inl (nF ch0))), zP h1 a1 b1 dn1 n1 oc1 le1 ll1 li1 lc1 kc1 rp1, (a1, .inl (cI, 40, .inl (nF ch1))), zP h2 a2 b2 dn2 n2 oc2 le2 ll2 li2 lc2 kc2 rp2, (a2, .inl (cI, 40, .inl (nF ch2))), zI i0 i1 i2 i3 i4 cn sS lS rS, (i4, .inl (cJ, 40, .inr (.inl dp)))]) [5, 0, 1, 2, 6, 7, 3, 4, 8, 9] (by decide) rfl
      refine lv_iadd hx hb dc_O_orphans_32 ?_
      refine tp_i (y := nI (0 + (n1 - (fo_N (hb_B dp ch1 lS) n1 0)))) (nI_add _ _) ?_
      refine lv_istore_n (lv' := [(1, .int (nI (0 + (n1 - (fo_N (hb_B dp ch1 lS) n1 0))))), (2, .int (nI (0 + 1))), (0, .ref o0)]) hx hb dc_O_orphans_33 rfl hl (by decide) rfl (fun ls hl => ?_)
      refine lv_iinc (k := 1) (v := nI (0 + 1 + 1)) (lv' := [(2, .int (nI (0 + 1 + 1))), (1, .int (nI (0 + (n1 - (fo_N (hb_B dp ch1 lS) n1 0))))), (0, .ref o0)]) hx hb dc_O_orphans_34 hl rfl (nI_inc1 _) (by decide) rfl (fun ls hl => ?_)
      refine lv_goto (tgt := 4) hx hb dc_O_orphans_37 (by decide) ?_
      refine lv_iload_n hx hb dc_O_orphans_4 rfl (lv_at hl 0 rfl) ?_
      refine lv_iconst (v := nI 3) hx hb dc_O_orphans_5 (by decide) ?_
      refine lv_icmp_ge (tgt := 40) hx hb dc_O_orphans_6 (by decide) (fun hc => ?_) (fun hc => ?_)
      · have h6 : 3 ≤ (0 + 1 + 1) := (nI_leI (by omega) (by omega)).mp hc
        exact absurd h6 (by omega)
      have h6 : (0 + 1 + 1) < 3 := Nat.lt_of_not_le (fun h9 => hc ((nI_leI (by omega) (by omega)).mpr h9))
      refine lv_aload_n hx hb dc_O_orphans_9 rfl (lv_at hl 2 rfl) ?_
      refine va_get (D := (dC, dI)) (ci := 3) (v := .ref oa) (C := cn_O) (T := ft_O) (N := 4) hx hb htb ki_O hown hK hP 0 rfl rfl 0 (by decide) (htb _ kw_139) (fun _ h9 => h9) rfl dc_O_orphans_10 ?_
      refine lv_iload_n hx hb dc_O_orphans_13 rfl (lv_at hl 0 rfl) ?_
      refine wa_ald hx hb hK hP 1 3 rfl rfl (k := 0 + 1 + 1) (by omega) (by omega) (v := h2) (hf2) dc_O_orphans_14 ?_
      refine va_get (D := (dC, dI)) (ci := 2) (v := .int (bI dn2)) (C := cn_P) (T := ft_P) (N := 11) hx hb htb ki_P hown hK hP 6 rfl rfl 2 (by decide) (htb _ kw_27) (fun _ h9 => h9) rfl dc_O_orphans_15 ?_
      refine lv_if_ne (tgt := 34) hx hb dc_O_orphans_18 (by decide) (fun hc => ?_) (fun hc => ?_)
      · have h18 : dn2 = true := bI_n0.mp hc
        refine lv_iinc (k := 0) (v := nI (0 + 1 + 1 + 1)) (lv' := [(2, .int (nI (0 + 1 + 1 + 1))), (1, .int (nI (0 + (n1 - (fo_N (hb_B dp ch1 lS) n1 0))))), (0, .ref o0)]) hx hb dc_O_orphans_34 hl rfl (nI_inc1 _) (by decide) rfl (fun ls hl => ?_)
        refine lv_goto (tgt := 4) hx hb dc_O_orphans_37 (by decide) ?_
        refine lv_iload_n hx hb dc_O_orphans_4 rfl (lv_at hl 0 rfl) ?_
        refine lv_iconst (v := nI 3) hx hb dc_O_orphans_5 (by decide) ?_
        refine lv_icmp_ge (tgt := 40) hx hb dc_O_orphans_6 (by decide) (fun hc => ?_) (fun hc => ?_)
        rotate_left
        · have h6 : (0 + 1 + 1 + 1) < 3 := Nat.lt_of_not_le (fun h9 => hc ((nI_leI (by omega) (by omega)).mpr h9))
          exact absurd h6 (by omega)
        have h6 : 3 ≤ (0 + 1 + 1 + 1) := (nI_leI (by omega) (by omega)).mp hc
        refine lv_iload_n hx hb dc_O_orphans_40 rfl (lv_at hl 1 rfl) ?_
        have hP9 := hP.sub (ws' := [zO o0 oa i0 m0 nn, (oa, .inl (cP, 3, .inr (.inr (.inr (.inr pf))))), zP h0 a0 b0 dn0 n0 oc0 le0 ll0 li0 lc0 kc0 rp0, (a0, .inl (cI, 40, .inl (nF ch0))), zP h1 a1 b1 dn1 n1 oc1 le1 ll1 li1 lc1 kc1 rp1, (a1, .inl (cI, 40, .inl (nF ch1))), zP h2 a2 b2 dn2 n2 oc2 le2 ll2 li2 lc2 kc2 rp2, (a2, .inl (cI, 40, .inl (nF ch2))), zI i0 i1 i2 i3 i4 cn sS lS rS, (i4, .inl (cJ, 40, .inr (.inl dp)))]) [0, 1, 2, 3, 4, 5, 6, 7, 8, 9] rfl
        have hD9 := hD.sub (ws' := [zO o0 oa i0 m0 nn, (oa, .inl (cP, 3, .inr (.inr (.inr (.inr pf))))), zP h0 a0 b0 dn0 n0 oc0 le0 ll0 li0 lc0 kc0 rp0, (a0, .inl (cI, 40, .inl (nF ch0))), zP h1 a1 b1 dn1 n1 oc1 le1 ll1 li1 lc1 kc1 rp1, (a1, .inl (cI, 40, .inl (nF ch1))), zP h2 a2 b2 dn2 n2 oc2 le2 ll2 li2 lc2 kc2 rp2, (a2, .inl (cI, 40, .inl (nF ch2))), zI i0 i1 i2 i3 i4 cn sS lS rS, (i4, .inl (cJ, 40, .inr (.inl dp)))]) [0, 1, 2, 3, 4, 5, 6, 7, 8, 9] (by decide) rfl
        exact W.iret (v := nI (0 + (n1 - (fo_N (hb_B dp ch1 lS) n1 0)))) hx hb hr (fun t ht hW => ⟨⟨_, (), rfl, by simp [*], by rw [ht]; exact hP9, va_K.moved hW.alike hK, hD9⟩, hS.F ht⟩) hS.2.2 dc_O_orphans_41
      · have h18 : dn2 = false := bI_0.mp hc
        refine lv_iload_n hx hb dc_O_orphans_21 rfl (lv_at hl 1 rfl) ?_
        refine lv_aload_n hx hb dc_O_orphans_22 rfl (lv_at hl 2 rfl) ?_
        refine lv_aload_n hx hb dc_O_orphans_23 rfl (lv_at hl 2 rfl) ?_
        refine va_get (D := (dC, dI)) (ci := 3) (v := .ref oa) (C := cn_O) (T := ft_O) (N := 4) hx hb htb ki_O hown hK hP 0 rfl rfl 0 (by decide) (htb _ kw_139) (fun _ h9 => h9) rfl dc_O_orphans_24 ?_
        refine lv_iload_n hx hb dc_O_orphans_27 rfl (lv_at hl 0 rfl) ?_
        refine wa_ald hx hb hK hP 1 3 rfl rfl (k := 0 + 1 + 1) (by omega) (by omega) (v := h2) (hf2) dc_O_orphans_28 ?_
        refine cl_i (wc := [zO o0 oa i0 m0 nn, zP h2 a2 b2 dn2 n2 oc2 le2 ll2 li2 lc2 kc2 rp2, (a2, .inl (cI, 40, .inl (nF ch2))), zI i0 i1 i2 i3 i4 cn sS lS rS, (i4, .inl (cJ, 40, .inr (.inl dp)))]) (wr := [(oa, .inl (cP, 3, .inr (.inr (.inr (.inr pf))))), zP h0 a0 b0 dn0 n0 oc0 le0 ll0 li0 lc0 kc0 rp0, (a0, .inl (cI, 40, .inl (nF ch0))), zP h1 a1 b1 dn1 n1 oc1 le1 ll1 li1 lc1 kc1 rp1, (a1, .inl (cI, 40, .inl (nF ch1)))]) (w1 := [zO o0 oa i0 m0 nn, zP h2 a2 b2 dn2 n2 oc2 le2 ll2 li2 lc2 kc2 rp2, (a2, .inl (cI, 40, .inl (nF ch2))), zI i0 i1 i2 i3 i4 cn sS lS rS, (i4, .inl (cJ, 40, .inr (.inl dp)))]) hP hD hS hA [0, 6, 7, 8, 9] [1, 2, 3, 4, 5] rfl rfl (by decide) (by decide) (va_runV (As := [.ref h2]) (rest := [.int (nI (0 + (n1 - (fo_N (hb_B dp ch1 lS) n1 0))))]) ⟨hx, hb, hml, hown, htb⟩ (oc_O_orphansOn l dC dI cI cJ cZ cP _ o0 oa i0 m0 nn h2 a2 b2 dn2 n2 oc2 le2 ll2 li2 lc2 kc2 rp2 i1 i2 i3 i4 cn sS lS rS ch2 dp (by first | assumption | omega) (by first | assumption | omega)) (cwV 1 htb (gw_V kw_352 kw_354 kp_12 kw_1 kw_355) rfl rfl rfl (by decide +kernel) ⟨Nat.le_of_ble_eq_true rfl, Nat.le_of_ble_eq_true rfl⟩) (pr_V hP hK hD (va_recv hK hP (ci := 3) (q0 := 0) rfl rfl) [0, 6, 7, 8, 9] (by decide) rfl rfl) rfl rfl hl.1 rfl (lv_room (Nat.le_of_ble_eq_true rfl)) dc_O_orphans_29 ⟨Nat.le_of_ble_eq_true rfl, Nat.le_of_ble_eq_true rfl⟩) (fun H locs hP hD hS => ?_)
        have hP : va_P (dC, dI) clsL [zO o0 oa i0 m0 nn, (oa, .inl (cP, 3, .inr (.inr (.inr (.inr pf))))), zP h0 a0 b0 dn0 n0 oc0 le0 ll0 li0 lc0 kc0 rp0, (a0, .inl (cI, 40, .inl (nF ch0))), zP h1 a1 b1 dn1 n1 oc1 le1 ll1 li1 lc1 kc1 rp1, (a1, .inl (cI, 40, .inl (nF ch1))), zP h2 a2 b2 dn2 n2 oc2 le2 ll2 li2 lc2 kc2 rp2, (a2, .inl (cI, 40, .inl (nF ch2))), zI i0 i1 i2 i3 i4 cn sS lS rS, (i4, .inl (cJ, 40, .inr (.inl dp)))] H := hP.sub (ws' := [zO o0 oa i0 m0 nn, (oa, .inl (cP, 3, .inr (.inr (.inr (.inr pf))))), zP h0 a0 b0 dn0 n0 oc0 le0 ll0 li0 lc0 kc0 rp0, (a0, .inl (cI, 40, .inl (nF ch0))), zP h1 a1 b1 dn1 n1 oc1 le1 ll1 li1 lc1 kc1 rp1, (a1, .inl (cI, 40, .inl (nF ch1))), zP h2 a2 b2 dn2 n2 oc2 le2 ll2 li2 lc2 kc2 rp2, (a2, .inl (cI, 40, .inl (nF ch2))), zI i0 i1 i2 i3 i4 cn sS lS rS, (i4, .inl (cJ, 40, .inr (.inl dp)))]) [5, 0, 1, 2, 3, 4, 6, 7, 8, 9] rfl
        have hD : va_D A [zO o0 oa i0 m0 nn, (oa, .inl (cP, 3, .inr (.inr (.inr (.inr pf))))), zP h0 a0 b0 dn0 n0 oc0 le0 ll0 li0 lc0 kc0 rp0, (a0, .inl (cI, 40, .inl (nF ch0))), zP h1 a1 b1 dn1 n1 oc1 le1 ll1 li1 lc1 kc1 rp1, (a1, .inl (cI, 40, .inl (nF ch1))), zP h2 a2 b2 dn2 n2 oc2 le2 ll2 li2 lc2 kc2 rp2, (a2, .inl (cI, 40, .inl (nF ch2))), zI i0 i1 i2 i3 i4 cn sS lS rS, (i4, .inl (cJ, 40, .inr (.inl dp)))] := hD.sub (ws' := [zO o0 oa i0 m0 nn, (oa, .inl (cP, 3, .inr (.inr (.inr (.inr pf))))), zP h0 a0 b0 dn0 n0 oc0 le0 ll0 li0 lc0 kc0 rp0, (a0, .inl (cI, 40, .inl (nF ch0))), zP h1 a1 b1 dn1 n1 oc1 le1 ll1 li1 lc1 kc1 rp1, (a1, .inl (cI, 40, .inl (nF ch1))), zP h2 a2 b2 dn2 n2 oc2 le2 ll2 li2 lc2 kc2 rp2, (a2, .inl (cI, 40, .inl (nF ch2))), zI i0 i1 i2 i3 i4 cn sS lS rS, (i4, .inl (cJ, 40, .inr (.inl dp)))]) [5, 0, 1, 2, 3, 4, 6, 7, 8, 9] (by decide) rfl
        refine lv_iadd hx hb dc_O_orphans_32 ?_
        refine tp_i (y := nI (0 + (n1 - (fo_N (hb_B dp ch1 lS) n1 0)) + (n2 - (fo_N (hb_B dp ch2 lS) n2 0)))) (nI_add _ _) ?_
        refine lv_istore_n (lv' := [(1, .int (nI (0 + (n1 - (fo_N (hb_B dp ch1 lS) n1 0)) + (n2 - (fo_N (hb_B dp ch2 lS) n2 0))))), (2, .int (nI (0 + 1 + 1))), (0, .ref o0)]) hx hb dc_O_orphans_33 rfl hl (by decide) rfl (fun ls hl => ?_)
        refine lv_iinc (k := 1) (v := nI (0 + 1 + 1 + 1)) (lv' := [(2, .int (nI (0 + 1 + 1 + 1))), (1, .int (nI (0 + (n1 - (fo_N (hb_B dp ch1 lS) n1 0)) + (n2 - (fo_N (hb_B dp ch2 lS) n2 0))))), (0, .ref o0)]) hx hb dc_O_orphans_34 hl rfl (nI_inc1 _) (by decide) rfl (fun ls hl => ?_)
        refine lv_goto (tgt := 4) hx hb dc_O_orphans_37 (by decide) ?_
        refine lv_iload_n hx hb dc_O_orphans_4 rfl (lv_at hl 0 rfl) ?_
        refine lv_iconst (v := nI 3) hx hb dc_O_orphans_5 (by decide) ?_
        refine lv_icmp_ge (tgt := 40) hx hb dc_O_orphans_6 (by decide) (fun hc => ?_) (fun hc => ?_)
        rotate_left
        · have h6 : (0 + 1 + 1 + 1) < 3 := Nat.lt_of_not_le (fun h9 => hc ((nI_leI (by omega) (by omega)).mpr h9))
          exact absurd h6 (by omega)
        have h6 : 3 ≤ (0 + 1 + 1 + 1) := (nI_leI (by omega) (by omega)).mp hc
        refine lv_iload_n hx hb dc_O_orphans_40 rfl (lv_at hl 1 rfl) ?_
        have hP9 := hP.sub (ws' := [zO o0 oa i0 m0 nn, (oa, .inl (cP, 3, .inr (.inr (.inr (.inr pf))))), zP h0 a0 b0 dn0 n0 oc0 le0 ll0 li0 lc0 kc0 rp0, (a0, .inl (cI, 40, .inl (nF ch0))), zP h1 a1 b1 dn1 n1 oc1 le1 ll1 li1 lc1 kc1 rp1, (a1, .inl (cI, 40, .inl (nF ch1))), zP h2 a2 b2 dn2 n2 oc2 le2 ll2 li2 lc2 kc2 rp2, (a2, .inl (cI, 40, .inl (nF ch2))), zI i0 i1 i2 i3 i4 cn sS lS rS, (i4, .inl (cJ, 40, .inr (.inl dp)))]) [0, 1, 2, 3, 4, 5, 6, 7, 8, 9] rfl
        have hD9 := hD.sub (ws' := [zO o0 oa i0 m0 nn, (oa, .inl (cP, 3, .inr (.inr (.inr (.inr pf))))), zP h0 a0 b0 dn0 n0 oc0 le0 ll0 li0 lc0 kc0 rp0, (a0, .inl (cI, 40, .inl (nF ch0))), zP h1 a1 b1 dn1 n1 oc1 le1 ll1 li1 lc1 kc1 rp1, (a1, .inl (cI, 40, .inl (nF ch1))), zP h2 a2 b2 dn2 n2 oc2 le2 ll2 li2 lc2 kc2 rp2, (a2, .inl (cI, 40, .inl (nF ch2))), zI i0 i1 i2 i3 i4 cn sS lS rS, (i4, .inl (cJ, 40, .inr (.inl dp)))]) [0, 1, 2, 3, 4, 5, 6, 7, 8, 9] (by decide) rfl
        exact W.iret (v := nI (0 + (n1 - (fo_N (hb_B dp ch1 lS) n1 0)) + (n2 - (fo_N (hb_B dp ch2 lS) n2 0)))) hx hb hr (fun t ht hW => ⟨⟨_, (), rfl, by simp [*], by rw [ht]; exact hP9, va_K.moved hW.alike hK, hD9⟩, hS.F ht⟩) hS.2.2 dc_O_orphans_41
  · have h18 : dn0 = false := bI_0.mp hc
    refine lv_iload_n hx hb dc_O_orphans_21 rfl (lv_at hl 1 rfl) ?_
    refine lv_aload_n hx hb dc_O_orphans_22 rfl (lv_at hl 2 rfl) ?_
    refine lv_aload_n hx hb dc_O_orphans_23 rfl (lv_at hl 2 rfl) ?_
    refine va_get (D := (dC, dI)) (ci := 3) (v := .ref oa) (C := cn_O) (T := ft_O) (N := 4) hx hb htb ki_O hown hK hP 0 rfl rfl 0 (by decide) (htb _ kw_139) (fun _ h9 => h9) rfl dc_O_orphans_24 ?_
    refine lv_iload_n hx hb dc_O_orphans_27 rfl (lv_at hl 0 rfl) ?_
    refine wa_ald hx hb hK hP 1 3 rfl rfl (k := 0) (by omega) (by omega) (v := h0) (hf0) dc_O_orphans_28 ?_
    refine cl_i (wc := [zO o0 oa i0 m0 nn, zP h0 a0 b0 dn0 n0 oc0 le0 ll0 li0 lc0 kc0 rp0, (a0, .inl (cI, 40, .inl (nF ch0))), zI i0 i1 i2 i3 i4 cn sS lS rS, (i4, .inl (cJ, 40, .inr (.inl dp)))]) (wr := [(oa, .inl (cP, 3, .inr (.inr (.inr (.inr pf))))), zP h1 a1 b1 dn1 n1 oc1 le1 ll1 li1 lc1 kc1 rp1, (a1, .inl (cI, 40, .inl (nF ch1))), zP h2 a2 b2 dn2 n2 oc2 le2 ll2 li2 lc2 kc2 rp2, (a2, .inl (cI, 40, .inl (nF ch2)))]) (w1 := [zO o0 oa i0 m0 nn, zP h0 a0 b0 dn0 n0 oc0 le0 ll0 li0 lc0 kc0 rp0, (a0, .inl (cI, 40, .inl (nF ch0))), zI i0 i1 i2 i3 i4 cn sS lS rS, (i4, .inl (cJ, 40, .inr (.inl dp)))]) hP hD hS hA [0, 2, 3, 8, 9] [1, 4, 5, 6, 7] rfl rfl (by decide) (by decide) (va_runV (As := [.ref h0]) (rest := [.int (nI 0)]) ⟨hx, hb, hml, hown, htb⟩ (oc_O_orphansOn l dC dI cI cJ cZ cP _ o0 oa i0 m0 nn h0 a0 b0 dn0 n0 oc0 le0 ll0 li0 lc0 kc0 rp0 i1 i2 i3 i4 cn sS lS rS ch0 dp (by first | assumption | omega) (by first | assumption | omega)) (cwV 1 htb (gw_V kw_352 kw_354 kp_12 kw_1 kw_355) rfl rfl rfl (by decide +kernel) ⟨Nat.le_of_ble_eq_true rfl, Nat.le_of_ble_eq_true rfl⟩) (pr_V hP hK hD (va_recv hK hP (ci := 3) (q0 := 0) rfl rfl) [0, 2, 3, 8, 9] (by decide) rfl rfl) rfl rfl hl.1 rfl (lv_room (Nat.le_of_ble_eq_true rfl)) dc_O_orphans_29 ⟨Nat.le_of_ble_eq_true rfl, Nat.le_of_ble_eq_true rfl⟩) (fun H locs hP hD hS => ?_)
    have hP : va_P (dC, dI) clsL [zO o0 oa i0 m0 nn, (oa, .inl (cP, 3, .inr (.inr (.inr (.inr pf))))), zP h0 a0 b0 dn0 n0 oc0 le0 ll0 li0 lc0 kc0 rp0, (a0, .inl (cI, 40, .inl (nF ch0))), zP h1 a1 b1 dn1 n1 oc1 le1 ll1 li1 lc1 kc1 rp1, (a1, .inl (cI, 40, .inl (nF ch1))), zP h2 a2 b2 dn2 n2 oc2 le2 ll2 li2 lc2 kc2 rp2, (a2, .inl (cI, 40, .inl (nF ch2))), zI i0 i1 i2 i3 i4 cn sS lS rS, (i4, .inl (cJ, 40, .inr (.inl dp)))] H := hP.sub (ws' := [zO o0 oa i0 m0 nn, (oa, .inl (cP, 3, .inr (.inr (.inr (.inr pf))))), zP h0 a0 b0 dn0 n0 oc0 le0 ll0 li0 lc0 kc0 rp0, (a0, .inl (cI, 40, .inl (nF ch0))), zP h1 a1 b1 dn1 n1 oc1 le1 ll1 li1 lc1 kc1 rp1, (a1, .inl (cI, 40, .inl (nF ch1))), zP h2 a2 b2 dn2 n2 oc2 le2 ll2 li2 lc2 kc2 rp2, (a2, .inl (cI, 40, .inl (nF ch2))), zI i0 i1 i2 i3 i4 cn sS lS rS, (i4, .inl (cJ, 40, .inr (.inl dp)))]) [5, 0, 6, 7, 1, 2, 3, 4, 8, 9] rfl
    have hD : va_D A [zO o0 oa i0 m0 nn, (oa, .inl (cP, 3, .inr (.inr (.inr (.inr pf))))), zP h0 a0 b0 dn0 n0 oc0 le0 ll0 li0 lc0 kc0 rp0, (a0, .inl (cI, 40, .inl (nF ch0))), zP h1 a1 b1 dn1 n1 oc1 le1 ll1 li1 lc1 kc1 rp1, (a1, .inl (cI, 40, .inl (nF ch1))), zP h2 a2 b2 dn2 n2 oc2 le2 ll2 li2 lc2 kc2 rp2, (a2, .inl (cI, 40, .inl (nF ch2))), zI i0 i1 i2 i3 i4 cn sS lS rS, (i4, .inl (cJ, 40, .inr (.inl dp)))] := hD.sub (ws' := [zO o0 oa i0 m0 nn, (oa, .inl (cP, 3, .inr (.inr (.inr (.inr pf))))), zP h0 a0 b0 dn0 n0 oc0 le0 ll0 li0 lc0 kc0 rp0, (a0, .inl (cI, 40, .inl (nF ch0))), zP h1 a1 b1 dn1 n1 oc1 le1 ll1 li1 lc1 kc1 rp1, (a1, .inl (cI, 40, .inl (nF ch1))), zP h2 a2 b2 dn2 n2 oc2 le2 ll2 li2 lc2 kc2 rp2, (a2, .inl (cI, 40, .inl (nF ch2))), zI i0 i1 i2 i3 i4 cn sS lS rS, (i4, .inl (cJ, 40, .inr (.inl dp)))]) [5, 0, 6, 7, 1, 2, 3, 4, 8, 9] (by decide) rfl
    refine lv_iadd hx hb dc_O_orphans_32 ?_
    refine tp_i (y := nI (0 + (n0 - (fo_N (hb_B dp ch0 lS) n0 0)))) (nI_add _ _) ?_
    refine lv_istore_n (lv' := [(1, .int (nI (0 + (n0 - (fo_N (hb_B dp ch0 lS) n0 0))))), (2, .int (nI 0)), (0, .ref o0)]) hx hb dc_O_orphans_33 rfl hl (by decide) rfl (fun ls hl => ?_)
    refine lv_iinc (k := 1) (v := nI (0 + 1)) (lv' := [(2, .int (nI (0 + 1))), (1, .int (nI (0 + (n0 - (fo_N (hb_B dp ch0 lS) n0 0))))), (0, .ref o0)]) hx hb dc_O_orphans_34 hl rfl (nI_inc1 _) (by decide) rfl (fun ls hl => ?_)
    refine lv_goto (tgt := 4) hx hb dc_O_orphans_37 (by decide) ?_
    refine lv_iload_n hx hb dc_O_orphans_4 rfl (lv_at hl 0 rfl) ?_
    refine lv_iconst (v := nI 3) hx hb dc_O_orphans_5 (by decide) ?_
    refine lv_icmp_ge (tgt := 40) hx hb dc_O_orphans_6 (by decide) (fun hc => ?_) (fun hc => ?_)
    · have h6 : 3 ≤ (0 + 1) := (nI_leI (by omega) (by omega)).mp hc
      exact absurd h6 (by omega)
    have h6 : (0 + 1) < 3 := Nat.lt_of_not_le (fun h9 => hc ((nI_leI (by omega) (by omega)).mpr h9))
    refine lv_aload_n hx hb dc_O_orphans_9 rfl (lv_at hl 2 rfl) ?_
    refine va_get (D := (dC, dI)) (ci := 3) (v := .ref oa) (C := cn_O) (T := ft_O) (N := 4) hx hb htb ki_O hown hK hP 0 rfl rfl 0 (by decide) (htb _ kw_139) (fun _ h9 => h9) rfl dc_O_orphans_10 ?_
    refine lv_iload_n hx hb dc_O_orphans_13 rfl (lv_at hl 0 rfl) ?_
    refine wa_ald hx hb hK hP 1 3 rfl rfl (k := 0 + 1) (by omega) (by omega) (v := h1) (hf1) dc_O_orphans_14 ?_
    refine va_get (D := (dC, dI)) (ci := 2) (v := .int (bI dn1)) (C := cn_P) (T := ft_P) (N := 11) hx hb htb ki_P hown hK hP 4 rfl rfl 2 (by decide) (htb _ kw_27) (fun _ h9 => h9) rfl dc_O_orphans_15 ?_
    refine lv_if_ne (tgt := 34) hx hb dc_O_orphans_18 (by decide) (fun hc => ?_) (fun hc => ?_)
    · have h18 : dn1 = true := bI_n0.mp hc
      refine lv_iinc (k := 0) (v := nI (0 + 1 + 1)) (lv' := [(2, .int (nI (0 + 1 + 1))), (1, .int (nI (0 + (n0 - (fo_N (hb_B dp ch0 lS) n0 0))))), (0, .ref o0)]) hx hb dc_O_orphans_34 hl rfl (nI_inc1 _) (by decide) rfl (fun ls hl => ?_)
      refine lv_goto (tgt := 4) hx hb dc_O_orphans_37 (by decide) ?_
      refine lv_iload_n hx hb dc_O_orphans_4 rfl (lv_at hl 0 rfl) ?_
      refine lv_iconst (v := nI 3) hx hb dc_O_orphans_5 (by decide) ?_
      refine lv_icmp_ge (tgt := 40) hx hb dc_O_orphans_6 (by decide) (fun hc => ?_) (fun hc => ?_)
      · have h6 : 3 ≤ (0 + 1 + 1) := (nI_leI (by omega) (by omega)).mp hc
        exact absurd h6 (by omega)
      have h6 : (0 + 1 + 1) < 3 := Nat.lt_of_not_le (fun h9 => hc ((nI_leI (by omega) (by omega)).mpr h9))
      refine lv_aload_n hx hb dc_O_orphans_9 rfl (lv_at hl 2 rfl) ?_
      refine va_get (D := (dC, dI)) (ci := 3) (v := .ref oa) (C := cn_O) (T := ft_O) (N := 4) hx hb htb ki_O hown hK hP 0 rfl rfl 0 (by decide) (htb _ kw_139) (fun _ h9 => h9) rfl dc_O_orphans_10 ?_
      refine lv_iload_n hx hb dc_O_orphans_13 rfl (lv_at hl 0 rfl) ?_
      refine wa_ald hx hb hK hP 1 3 rfl rfl (k := 0 + 1 + 1) (by omega) (by omega) (v := h2) (hf2) dc_O_orphans_14 ?_
      refine va_get (D := (dC, dI)) (ci := 2) (v := .int (bI dn2)) (C := cn_P) (T := ft_P) (N := 11) hx hb htb ki_P hown hK hP 6 rfl rfl 2 (by decide) (htb _ kw_27) (fun _ h9 => h9) rfl dc_O_orphans_15 ?_
      refine lv_if_ne (tgt := 34) hx hb dc_O_orphans_18 (by decide) (fun hc => ?_) (fun hc => ?_)
      · have h18 : dn2 = true := bI_n0.mp hc
        refine lv_iinc (k := 0) (v := nI (0 + 1 + 1 + 1)) (lv' := [(2, .int (nI (0 + 1 + 1 + 1))), (1, .int (nI (0 + (n0 - (fo_N (hb_B dp ch0 lS) n0 0))))), (0, .ref o0)]) hx hb dc_O_orphans_34 hl rfl (nI_inc1 _) (by decide) rfl (fun ls hl => ?_)
        refine lv_goto (tgt := 4) hx hb dc_O_orphans_37 (by decide) ?_
        refine lv_iload_n hx hb dc_O_orphans_4 rfl (lv_at hl 0 rfl) ?_
        refine lv_iconst (v := nI 3) hx hb dc_O_orphans_5 (by decide) ?_
        refine lv_icmp_ge (tgt := 40) hx hb dc_O_orphans_6 (by decide) (fun hc => ?_) (fun hc => ?_)
        rotate_left
        · have h6 : (0 + 1 + 1 + 1) < 3 := Nat.lt_of_not_le (fun h9 => hc ((nI_leI (by omega) (by omega)).mpr h9))
          exact absurd h6 (by omega)
        have h6 : 3 ≤ (0 + 1 + 1 + 1) := (nI_leI (by omega) (by omega)).mp hc
        refine lv_iload_n hx hb dc_O_orphans_40 rfl (lv_at hl 1 rfl) ?_
        have hP9 := hP.sub (ws' := [zO o0 oa i0 m0 nn, (oa, .inl (cP, 3, .inr (.inr (.inr (.inr pf))))), zP h0 a0 b0 dn0 n0 oc0 le0 ll0 li0 lc0 kc0 rp0, (a0, .inl (cI, 40, .inl (nF ch0))), zP h1 a1 b1 dn1 n1 oc1 le1 ll1 li1 lc1 kc1 rp1, (a1, .inl (cI, 40, .inl (nF ch1))), zP h2 a2 b2 dn2 n2 oc2 le2 ll2 li2 lc2 kc2 rp2, (a2, .inl (cI, 40, .inl (nF ch2))), zI i0 i1 i2 i3 i4 cn sS lS rS, (i4, .inl (cJ, 40, .inr (.inl dp)))]) [0, 1, 2, 3, 4, 5, 6, 7, 8, 9] rfl
        have hD9 := hD.sub (ws' := [zO o0 oa i0 m0 nn, (oa, .inl (cP, 3, .inr (.inr (.inr (.inr pf))))), zP h0 a0 b0 dn0 n0 oc0 le0 ll0 li0 lc0 kc0 rp0, (a0, .inl (cI, 40, .inl (nF ch0))), zP h1 a1 b1 dn1 n1 oc1 le1 ll1 li1 lc1 kc1 rp1, (a1, .inl (cI, 40, .inl (nF ch1))), zP h2 a2 b2 dn2 n2 oc2 le2 ll2 li2 lc2 kc2 rp2, (a2, .inl (cI, 40, .inl (nF ch2))), zI i0 i1 i2 i3 i4 cn sS lS rS, (i4, .inl (cJ, 40, .inr (.inl dp)))]) [0, 1, 2, 3, 4, 5, 6, 7, 8, 9] (by decide) rfl
        exact W.iret (v := nI (0 + (n0 - (fo_N (hb_B dp ch0 lS) n0 0)))) hx hb hr (fun t ht hW => ⟨⟨_, (), rfl, by simp [*], by rw [ht]; exact hP9, va_K.moved hW.alike hK, hD9⟩, hS.F ht⟩) hS.2.2 dc_O_orphans_41
      · have h18 : dn2 = false := bI_0.mp hc
        refine lv_iload_n hx hb dc_O_orphans_21 rfl (lv_at hl 1 rfl) ?_
        refine lv_aload_n hx hb dc_O_orphans_22 rfl (lv_at hl 2 rfl) ?_
        refine lv_aload_n hx hb dc_O_orphans_23 rfl (lv_at hl 2 rfl) ?_
        refine va_get (D := (dC, dI)) (ci := 3) (v := .ref oa) (C := cn_O) (T := ft_O) (N := 4) hx hb htb ki_O hown hK hP 0 rfl rfl 0 (by decide) (htb _ kw_139) (fun _ h9 => h9) rfl dc_O_orphans_24 ?_
        refine lv_iload_n hx hb dc_O_orphans_27 rfl (lv_at hl 0 rfl) ?_
        refine wa_ald hx hb hK hP 1 3 rfl rfl (k := 0 + 1 + 1) (by omega) (by omega) (v := h2) (hf2) dc_O_orphans_28 ?_
        refine cl_i (wc := [zO o0 oa i0 m0 nn, zP h2 a2 b2 dn2 n2 oc2 le2 ll2 li2 lc2 kc2 rp2, (a2, .inl (cI, 40, .inl (nF ch2))), zI i0 i1 i2 i3 i4 cn sS lS rS, (i4, .inl (cJ, 40, .inr (.inl dp)))]) (wr := [(oa, .inl (cP, 3, .inr (.inr (.inr (.inr pf))))), zP h0 a0 b0 dn0 n0 oc0 le0 ll0 li0 lc0 kc0 rp0, (a0, .inl (cI, 40, .inl (nF ch0))), zP h1 a1 b1 dn1 n1 oc1 le1 ll1 li1 lc1 kc1 rp1, (a1, .inl (cI, 40, .inl (nF ch1)))]) (w1 := [zO o0 oa i0 m0 nn, zP h2 a2 b2 dn2 n2 oc2 le2 ll2 li2 lc2 kc2 rp2, (a2, .inl (cI, 40, .inl (nF ch2))), zI i0 i1 i2 i3 i4 cn sS lS rS, (i4, .inl (cJ, 40, .inr (.inl dp)))]) hP hD hS hA [0, 6, 7, 8, 9] [1, 2, 3, 4, 5] rfl rfl (by decide) (by decide) (va_runV (As := [.ref h2]) (rest := [.int (nI (0 + (n0 - (fo_N (hb_B dp ch0 lS) n0 0))))]) ⟨hx, hb, hml, hown, htb⟩ (oc_O_orphansOn l dC dI cI cJ cZ cP _ o0 oa i0 m0 nn h2 a2 b2 dn2 n2 oc2 le2 ll2 li2 lc2 kc2 rp2 i1 i2 i3 i4 cn sS lS rS ch2 dp (by first | assumption | omega) (by first | assumption | omega)) (cwV 1 htb (gw_V kw_352 kw_354 kp_12 kw_1 kw_355) rfl rfl rfl (by decide +kernel) ⟨Nat.le_of_ble_eq_true rfl, Nat.le_of_ble_eq_true rfl⟩) (pr_V hP hK hD (va_recv hK hP (ci := 3) (q0 := 0) rfl rfl) [0, 6, 7, 8, 9] (by decide) rfl rfl) rfl rfl hl.1 rfl (lv_room (Nat.le_of_ble_eq_true rfl)) dc_O_orphans_29 ⟨Nat.le_of_ble_eq_true rfl, Nat.le_of_ble_eq_true rfl⟩) (fun H locs hP hD hS => ?_)
        have hP : va_P (dC, dI) clsL [zO o0 oa i0 m0 nn, (oa, .inl (cP, 3, .inr (.inr (.inr (.inr pf))))), zP h0 a0 b0 dn0 n0 oc0 le0 ll0 li0 lc0 kc0 rp0, (a0, .inl (cI, 40, .inl (nF ch0))), zP h1 a1 b1 dn1 n1 oc1 le1 ll1 li1 lc1 kc1 rp1, (a1, .inl (cI, 40, .inl (nF ch1))), zP h2 a2 b2 dn2 n2 oc2 le2 ll2 li2 lc2 kc2 rp2, (a2, .inl (cI, 40, .inl (nF ch2))), zI i0 i1 i2 i3 i4 cn sS lS rS, (i4, .inl (cJ, 40, .inr (.inl dp)))] H := hP.sub (ws' := [zO o0 oa i0 m0 nn, (oa, .inl (cP, 3, .inr (.inr (.inr (.inr pf))))), zP h0 a0 b0 dn0 n0 oc0 le0 ll0 li0 lc0 kc0 rp0, (a0, .inl (cI, 40, .inl (nF ch0))), zP h1 a1 b1 dn1 n1 oc1 le1 ll1 li1 lc1 kc1 rp1, (a1, .inl (cI, 40, .inl (nF ch1))), zP h2 a2 b2 dn2 n2 oc2 le2 ll2 li2 lc2 kc2 rp2, (a2, .inl (cI, 40, .inl (nF ch2))), zI i0 i1 i2 i3 i4 cn sS lS rS, (i4, .inl (cJ, 40, .inr (.inl dp)))]) [5, 0, 1, 2, 3, 4, 6, 7, 8, 9] rfl
        have hD : va_D A [zO o0 oa i0 m0 nn, (oa, .inl (cP, 3, .inr (.inr (.inr (.inr pf))))), zP h0 a0 b0 dn0 n0 oc0 le0 ll0 li0 lc0 kc0 rp0, (a0, .inl (cI, 40, .inl (nF ch0))), zP h1 a1 b1 dn1 n1 oc1 le1 ll1 li1 lc1 kc1 rp1, (a1, .inl (cI, 40, .inl (nF ch1))), zP h2 a2 b2 dn2 n2 oc2 le2 ll2 li2 lc2 kc2 rp2, (a2, .inl (cI, 40, .inl (nF ch2))), zI i0 i1 i2 i3 i4 cn sS lS rS, (i4, .inl (cJ, 40, .inr (.inl dp)))] := hD.sub (ws' := [zO o0 oa i0 m0 nn, (oa, .inl (cP, 3, .inr (.inr (.inr (.inr pf))))), zP h0 a0 b0 dn0 n0 oc0 le0 ll0 li0 lc0 kc0 rp0, (a0, .inl (cI, 40, .inl (nF ch0))), zP h1 a1 b1 dn1 n1 oc1 le1 ll1 li1 lc1 kc1 rp1, (a1, .inl (cI, 40, .inl (nF ch1))), zP h2 a2 b2 dn2 n2 oc2 le2 ll2 li2 lc2 kc2 rp2, (a2, .inl (cI, 40, .inl (nF ch2))), zI i0 i1 i2 i3 i4 cn sS lS rS, (i4, .inl (cJ, 40, .inr (.inl dp)))]) [5, 0, 1, 2, 3, 4, 6, 7, 8, 9] (by decide) rfl
        refine lv_iadd hx hb dc_O_orphans_32 ?_
        refine tp_i (y := nI (0 + (n0 - (fo_N (hb_B dp ch0 lS) n0 0)) + (n2 - (fo_N (hb_B dp ch2 lS) n2 0)))) (nI_add _ _) ?_
        refine lv_istore_n (lv' := [(1, .int (nI (0 + (n0 - (fo_N (hb_B dp ch0 lS) n0 0)) + (n2 - (fo_N (hb_B dp ch2 lS) n2 0))))), (2, .int (nI (0 + 1 + 1))), (0, .ref o0)]) hx hb dc_O_orphans_33 rfl hl (by decide) rfl (fun ls hl => ?_)
        refine lv_iinc (k := 1) (v := nI (0 + 1 + 1 + 1)) (lv' := [(2, .int (nI (0 + 1 + 1 + 1))), (1, .int (nI (0 + (n0 - (fo_N (hb_B dp ch0 lS) n0 0)) + (n2 - (fo_N (hb_B dp ch2 lS) n2 0))))), (0, .ref o0)]) hx hb dc_O_orphans_34 hl rfl (nI_inc1 _) (by decide) rfl (fun ls hl => ?_)
        refine lv_goto (tgt := 4) hx hb dc_O_orphans_37 (by decide) ?_
        refine lv_iload_n hx hb dc_O_orphans_4 rfl (lv_at hl 0 rfl) ?_
        refine lv_iconst (v := nI 3) hx hb dc_O_orphans_5 (by decide) ?_
        refine lv_icmp_ge (tgt := 40) hx hb dc_O_orphans_6 (by decide) (fun hc => ?_) (fun hc => ?_)
        rotate_left
        · have h6 : (0 + 1 + 1 + 1) < 3 := Nat.lt_of_not_le (fun h9 => hc ((nI_leI (by omega) (by omega)).mpr h9))
          exact absurd h6 (by omega)
        have h6 : 3 ≤ (0 + 1 + 1 + 1) := (nI_leI (by omega) (by omega)).mp hc
        refine lv_iload_n hx hb dc_O_orphans_40 rfl (lv_at hl 1 rfl) ?_
        have hP9 := hP.sub (ws' := [zO o0 oa i0 m0 nn, (oa, .inl (cP, 3, .inr (.inr (.inr (.inr pf))))), zP h0 a0 b0 dn0 n0 oc0 le0 ll0 li0 lc0 kc0 rp0, (a0, .inl (cI, 40, .inl (nF ch0))), zP h1 a1 b1 dn1 n1 oc1 le1 ll1 li1 lc1 kc1 rp1, (a1, .inl (cI, 40, .inl (nF ch1))), zP h2 a2 b2 dn2 n2 oc2 le2 ll2 li2 lc2 kc2 rp2, (a2, .inl (cI, 40, .inl (nF ch2))), zI i0 i1 i2 i3 i4 cn sS lS rS, (i4, .inl (cJ, 40, .inr (.inl dp)))]) [0, 1, 2, 3, 4, 5, 6, 7, 8, 9] rfl
        have hD9 := hD.sub (ws' := [zO o0 oa i0 m0 nn, (oa, .inl (cP, 3, .inr (.inr (.inr (.inr pf))))), zP h0 a0 b0 dn0 n0 oc0 le0 ll0 li0 lc0 kc0 rp0, (a0, .inl (cI, 40, .inl (nF ch0))), zP h1 a1 b1 dn1 n1 oc1 le1 ll1 li1 lc1 kc1 rp1, (a1, .inl (cI, 40, .inl (nF ch1))), zP h2 a2 b2 dn2 n2 oc2 le2 ll2 li2 lc2 kc2 rp2, (a2, .inl (cI, 40, .inl (nF ch2))), zI i0 i1 i2 i3 i4 cn sS lS rS, (i4, .inl (cJ, 40, .inr (.inl dp)))]) [0, 1, 2, 3, 4, 5, 6, 7, 8, 9] (by decide) rfl
        exact W.iret (v := nI (0 + (n0 - (fo_N (hb_B dp ch0 lS) n0 0)) + (n2 - (fo_N (hb_B dp ch2 lS) n2 0)))) hx hb hr (fun t ht hW => ⟨⟨_, (), rfl, by simp [*], by rw [ht]; exact hP9, va_K.moved hW.alike hK, hD9⟩, hS.F ht⟩) hS.2.2 dc_O_orphans_41
    · have h18 : dn1 = false := bI_0.mp hc
      refine lv_iload_n hx hb dc_O_orphans_21 rfl (lv_at hl 1 rfl) ?_
      refine lv_aload_n hx hb dc_O_orphans_22 rfl (lv_at hl 2 rfl) ?_
      refine lv_aload_n hx hb dc_O_orphans_23 rfl (lv_at hl 2 rfl) ?_
      refine va_get (D := (dC, dI)) (ci := 3) (v := .ref oa) (C := cn_O) (T := ft_O) (N := 4) hx hb htb ki_O hown hK hP 0 rfl rfl 0 (by decide) (htb _ kw_139) (fun _ h9 => h9) rfl dc_O_orphans_24 ?_
      refine lv_iload_n hx hb dc_O_orphans_27 rfl (lv_at hl 0 rfl) ?_
      refine wa_ald hx hb hK hP 1 3 rfl rfl (k := 0 + 1) (by omega) (by omega) (v := h1) (hf1) dc_O_orphans_28 ?_
      refine cl_i (wc := [zO o0 oa i0 m0 nn, zP h1 a1 b1 dn1 n1 oc1 le1 ll1 li1 lc1 kc1 rp1, (a1, .inl (cI, 40, .inl (nF ch1))), zI i0 i1 i2 i3 i4 cn sS lS rS, (i4, .inl (cJ, 40, .inr (.inl dp)))]) (wr := [(oa, .inl (cP, 3, .inr (.inr (.inr (.inr pf))))), zP h0 a0 b0 dn0 n0 oc0 le0 ll0 li0 lc0 kc0 rp0, (a0, .inl (cI, 40, .inl (nF ch0))), zP h2 a2 b2 dn2 n2 oc2 le2 ll2 li2 lc2 kc2 rp2, (a2, .inl (cI, 40, .inl (nF ch2)))]) (w1 := [zO o0 oa i0 m0 nn, zP h1 a1 b1 dn1 n1 oc1 le1 ll1 li1 lc1 kc1 rp1, (a1, .inl (cI, 40, .inl (nF ch1))), zI i0 i1 i2 i3 i4 cn sS lS rS, (i4, .inl (cJ, 40, .inr (.inl dp)))]) hP hD hS hA [0, 4, 5, 8, 9] [1, 2, 3, 6, 7] rfl rfl (by decide) (by decide) (va_runV (As := [.ref h1]) (rest := [.int (nI (0 + (n0 - (fo_N (hb_B dp ch0 lS) n0 0))))]) ⟨hx, hb, hml, hown, htb⟩ (oc_O_orphansOn l dC dI cI cJ cZ cP _ o0 oa i0 m0 nn h1 a1 b1 dn1 n1 oc1 le1 ll1 li1 lc1 kc1 rp1 i1 i2 i3 i4 cn sS lS rS ch1 dp (by first | assumption | omega) (by first | assumption | omega)) (cwV 1 htb (gw_V kw_352 kw_354 kp_12 kw_1 kw_355) rfl rfl rfl (by decide +kernel) ⟨Nat.le_of_ble_eq_true rfl, Nat.le_of_ble_eq_true rfl⟩) (pr_V hP hK hD (va_recv hK hP (ci := 3) (q0 := 0) rfl rfl) [0, 4, 5, 8, 9] (by decide) rfl rfl) rfl rfl hl.1 rfl (lv_room (Nat.le_of_ble_eq_true rfl)) dc_O_orphans_29 ⟨Nat.le_of_ble_eq_true rfl, Nat.le_of_ble_eq_true rfl⟩) (fun H locs hP hD hS => ?_)
      have hP : va_P (dC, dI) clsL [zO o0 oa i0 m0 nn, (oa, .inl (cP, 3, .inr (.inr (.inr (.inr pf))))), zP h0 a0 b0 dn0 n0 oc0 le0 ll0 li0 lc0 kc0 rp0, (a0, .inl (cI, 40, .inl (nF ch0))), zP h1 a1 b1 dn1 n1 oc1 le1 ll1 li1 lc1 kc1 rp1, (a1, .inl (cI, 40, .inl (nF ch1))), zP h2 a2 b2 dn2 n2 oc2 le2 ll2 li2 lc2 kc2 rp2, (a2, .inl (cI, 40, .inl (nF ch2))), zI i0 i1 i2 i3 i4 cn sS lS rS, (i4, .inl (cJ, 40, .inr (.inl dp)))] H := hP.sub (ws' := [zO o0 oa i0 m0 nn, (oa, .inl (cP, 3, .inr (.inr (.inr (.inr pf))))), zP h0 a0 b0 dn0 n0 oc0 le0 ll0 li0 lc0 kc0 rp0, (a0, .inl (cI, 40, .inl (nF ch0))), zP h1 a1 b1 dn1 n1 oc1 le1 ll1 li1 lc1 kc1 rp1, (a1, .inl (cI, 40, .inl (nF ch1))), zP h2 a2 b2 dn2 n2 oc2 le2 ll2 li2 lc2 kc2 rp2, (a2, .inl (cI, 40, .inl (nF ch2))), zI i0 i1 i2 i3 i4 cn sS lS rS, (i4, .inl (cJ, 40, .inr (.inl dp)))]) [5, 0, 1, 2, 6, 7, 3, 4, 8, 9] rfl
      have hD : va_D A [zO o0 oa i0 m0 nn, (oa, .inl (cP, 3, .inr (.inr (.inr (.inr pf))))), zP h0 a0 b0 dn0 n0 oc0 le0 ll0 li0 lc0 kc0 rp0, (a0, .inl (cI, 40, .inl (nF ch0))), zP h1 a1 b1 dn1 n1 oc1 le1 ll1 li1 lc1 kc1 rp1, (a1, .inl (cI, 40, .inl (nF ch1))), zP h2 a2 b2 dn2 n2 oc2 le2 ll2 li2 lc2 kc2 rp2, (a2, .inl (cI, 40, .inl (nF ch2))), zI i0 i1 i2 i3 i4 cn sS lS rS, (i4, .inl (cJ, 40, .inr (.inl dp)))] := hD.sub (ws' := [zO o0 oa i0 m0 nn, (oa, .inl (cP, 3, .inr (.inr (.inr (.inr pf))))), zP h0 a0 b0 dn0 n0 oc0 le0 ll0 li0 lc0 kc0 rp0, (a0, .inl (cI, 40, .inl (nF ch0))), zP h1 a1 b1 dn1 n1 oc1 le1 ll1 li1 lc1 kc1 rp1, (a1, .inl (cI, 40, .inl (nF ch1))), zP h2 a2 b2 dn2 n2 oc2 le2 ll2 li2 lc2 kc2 rp2, (a2, .inl (cI, 40, .inl (nF ch2))), zI i0 i1 i2 i3 i4 cn sS lS rS, (i4, .inl (cJ, 40, .inr (.inl dp)))]) [5, 0, 1, 2, 6, 7, 3, 4, 8, 9] (by decide) rfl
      refine lv_iadd hx hb dc_O_orphans_32 ?_
      refine tp_i (y := nI (0 + (n0 - (fo_N (hb_B dp ch0 lS) n0 0)) + (n1 - (fo_N (hb_B dp ch1 lS) n1 0)))) (nI_add _ _) ?_
      refine lv_istore_n (lv' := [(1, .int (nI (0 + (n0 - (fo_N (hb_B dp ch0 lS) n0 0)) + (n1 - (fo_N (hb_B dp ch1 lS) n1 0))))), (2, .int (nI (0 + 1))), (0, .ref o0)]) hx hb dc_O_orphans_33 rfl hl (by decide) rfl (fun ls hl => ?_)
      refine lv_iinc (k := 1) (v := nI (0 + 1 + 1)) (lv' := [(2, .int (nI (0 + 1 + 1))), (1, .int (nI (0 + (n0 - (fo_N (hb_B dp ch0 lS) n0 0)) + (n1 - (fo_N (hb_B dp ch1 lS) n1 0))))), (0, .ref o0)]) hx hb dc_O_orphans_34 hl rfl (nI_inc1 _) (by decide) rfl (fun ls hl => ?_)
      refine lv_goto (tgt := 4) hx hb dc_O_orphans_37 (by decide) ?_
      refine lv_iload_n hx hb dc_O_orphans_4 rfl (lv_at hl 0 rfl) ?_
      refine lv_iconst (v := nI 3) hx hb dc_O_orphans_5 (by decide) ?_
      refine lv_icmp_ge (tgt := 40) hx hb dc_O_orphans_6 (by decide) (fun hc => ?_) (fun hc => ?_)
      · have h6 : 3 ≤ (0 + 1 + 1) := (nI_leI (by omega) (by omega)).mp hc
        exact absurd h6 (by omega)
      have h6 : (0 + 1 + 1) < 3 := Nat.lt_of_not_le (fun h9 => hc ((nI_leI (by omega) (by omega)).mpr h9))
      refine lv_aload_n hx hb dc_O_orphans_9 rfl (lv_at hl 2 rfl) ?_
      refine va_get (D := (dC, dI)) (ci := 3) (v := .ref oa) (C := cn_O) (T := ft_O) (N := 4) hx hb htb ki_O hown hK hP 0 rfl rfl 0 (by decide) (htb _ kw_139) (fun _ h9 => h9) rfl dc_O_orphans_10 ?_
      refine lv_iload_n hx hb dc_O_orphans_13 rfl (lv_at hl 0 rfl) ?_
      refine wa_ald hx hb hK hP 1 3 rfl rfl (k := 0 + 1 + 1) (by omega) (by omega) (v := h2) (hf2) dc_O_orphans_14 ?_
      refine va_get (D := (dC, dI)) (ci := 2) (v := .int (bI dn2)) (C := cn_P) (T := ft_P) (N := 11) hx hb htb ki_P hown hK hP 6 rfl rfl 2 (by decide) (htb _ kw_27) (fun _ h9 => h9) rfl dc_O_orphans_15 ?_
      refine lv_if_ne (tgt := 34) hx hb dc_O_orphans_18 (by decide) (fun hc => ?_) (fun hc => ?_)
      · have h18 : dn2 = true := bI_n0.mp hc
        refine lv_iinc (k := 0) (v := nI (0 + 1 + 1 + 1)) (lv' := [(2, .int (nI (0 + 1 + 1 + 1))), (1, .int (nI (0 + (n0 - (fo_N (hb_B dp ch0 lS) n0 0)) + (n1 - (fo_N (hb_B dp ch1 lS) n1 0))))), (0, .ref o0)]) hx hb dc_O_orphans_34 hl rfl (nI_inc1 _) (by decide) rfl (fun ls hl => ?_)
        refine lv_goto (tgt := 4) hx hb dc_O_orphans_37 (by decide) ?_
        refine lv_iload_n hx hb dc_O_orphans_4 rfl (lv_at hl 0 rfl) ?_
        refine lv_iconst (v := nI 3) hx hb dc_O_orphans_5 (by decide) ?_
        refine lv_icmp_ge (tgt := 40) hx hb dc_O_orphans_6 (by decide) (fun hc => ?_) (fun hc => ?_)
        rotate_left
        · have h6 : (0 + 1 + 1 + 1) < 3 := Nat.lt_of_not_le (fun h9 => hc ((nI_leI (by omega) (by omega)).mpr h9))
          exact absurd h6 (by omega)
        have h6 : 3 ≤ (0 + 1 + 1 + 1) := (nI_leI (by omega) (by omega)).mp hc
        refine lv_iload_n hx hb dc_O_orphans_40 rfl (lv_at hl 1 rfl) ?_
        have hP9 := hP.sub (ws' := [zO o0 oa i0 m0 nn, (oa, .inl (cP, 3, .inr (.inr (.inr (.inr pf))))), zP h0 a0 b0 dn0 n0 oc0 le0 ll0 li0 lc0 kc0 rp0, (a0, .inl (cI, 40, .inl (nF ch0))), zP h1 a1 b1 dn1 n1 oc1 le1 ll1 li1 lc1 kc1 rp1, (a1, .inl (cI, 40, .inl (nF ch1))), zP h2 a2 b2 dn2 n2 oc2 le2 ll2 li2 lc2 kc2 rp2, (a2, .inl (cI, 40, .inl (nF ch2))), zI i0 i1 i2 i3 i4 cn sS lS rS, (i4, .inl (cJ, 40, .inr (.inl dp)))]) [0, 1, 2, 3, 4, 5, 6, 7, 8, 9] rfl
        have hD9 := hD.sub (ws' := [zO o0 oa i0 m0 nn, (oa, .inl (cP, 3, .inr (.inr (.inr (.inr pf))))), zP h0 a0 b0 dn0 n0 oc0 le0 ll0 li0 lc0 kc0 rp0, (a0, .inl (cI, 40, .inl (nF ch0))), zP h1 a1 b1 dn1 n1 oc1 le1 ll1 li1 lc1 kc1 rp1, (a1, .inl (cI, 40, .inl (nF ch1))), zP h2 a2 b2 dn2 n2 oc2 le2 ll2 li2 lc2 kc2 rp2, (a2, .inl (cI, 40, .inl (nF ch2))), zI i0 i1 i2 i3 i4 cn sS lS rS, (i4, .inl (cJ, 40, .inr (.inl dp)))]) [0, 1, 2, 3, 4, 5, 6, 7, 8, 9] (by decide) rfl
        exact W.iret (v := nI (0 + (n0 - (fo_N (hb_B dp ch0 lS) n0 0)) + (n1 - (fo_N (hb_B dp ch1 lS) n1 0)))) hx hb hr (fun t ht hW => ⟨⟨_, (), rfl, by simp [*], by rw [ht]; exact hP9, va_K.moved hW.alike hK, hD9⟩, hS.F ht⟩) hS.2.2 dc_O_orphans_41
      · have h18 : dn2 = false := bI_0.mp hc
        refine lv_iload_n hx hb dc_O_orphans_21 rfl (lv_at hl 1 rfl) ?_
        refine lv_aload_n hx hb dc_O_orphans_22 rfl (lv_at hl 2 rfl) ?_
        refine lv_aload_n hx hb dc_O_orphans_23 rfl (lv_at hl 2 rfl) ?_
        refine va_get (D := (dC, dI)) (ci := 3) (v := .ref oa) (C := cn_O) (T := ft_O) (N := 4) hx hb htb ki_O hown hK hP 0 rfl rfl 0 (by decide) (htb _ kw_139) (fun _ h9 => h9) rfl dc_O_orphans_24 ?_
        refine lv_iload_n hx hb dc_O_orphans_27 rfl (lv_at hl 0 rfl) ?_
        refine wa_ald hx hb hK hP 1 3 rfl rfl (k := 0 + 1 + 1) (by omega) (by omega) (v := h2) (hf2) dc_O_orphans_28 ?_
        refine cl_i (wc := [zO o0 oa i0 m0 nn, zP h2 a2 b2 dn2 n2 oc2 le2 ll2 li2 lc2 kc2 rp2, (a2, .inl (cI, 40, .inl (nF ch2))), zI i0 i1 i2 i3 i4 cn sS lS rS, (i4, .inl (cJ, 40, .inr (.inl dp)))]) (wr := [(oa, .inl (cP, 3, .inr (.inr (.inr (.inr pf))))), zP h0 a0 b0 dn0 n0 oc0 le0 ll0 li0 lc0 kc0 rp0, (a0, .inl (cI, 40, .inl (nF ch0))), zP h1 a1 b1 dn1 n1 oc1 le1 ll1 li1 lc1 kc1 rp1, (a1, .inl (cI, 40, .inl (nF ch1)))]) (w1 := [zO o0 oa i0 m0 nn, zP h2 a2 b2 dn2 n2 oc2 le2 ll2 li2 lc2 kc2 rp2, (a2, .inl (cI, 40, .inl (nF ch2))), zI i0 i1 i2 i3 i4 cn sS lS rS, (i4, .inl (cJ, 40, .inr (.inl dp)))]) hP hD hS hA [0, 6, 7, 8, 9] [1, 2, 3, 4, 5] rfl rfl (by decide) (by decide) (va_runV (As := [.ref h2]) (rest := [.int (nI (0 + (n0 - (fo_N (hb_B dp ch0 lS) n0 0)) + (n1 - (fo_N (hb_B dp ch1 lS) n1 0))))]) ⟨hx, hb, hml, hown, htb⟩ (oc_O_orphansOn l dC dI cI cJ cZ cP _ o0 oa i0 m0 nn h2 a2 b2 dn2 n2 oc2 le2 ll2 li2 lc2 kc2 rp2 i1 i2 i3 i4 cn sS lS rS ch2 dp (by first | assumption | omega) (by first | assumption | omega)) (cwV 1 htb (gw_V kw_352 kw_354 kp_12 kw_1 kw_355) rfl rfl rfl (by decide +kernel) ⟨Nat.le_of_ble_eq_true rfl, Nat.le_of_ble_eq_true rfl⟩) (pr_V hP hK hD (va_recv hK hP (ci := 3) (q0 := 0) rfl rfl) [0, 6, 7, 8, 9] (by decide) rfl rfl) rfl rfl hl.1 rfl (lv_room (Nat.le_of_ble_eq_true rfl)) dc_O_orphans_29 ⟨Nat.le_of_ble_eq_true rfl, Nat.le_of_ble_eq_true rfl⟩) (fun H locs hP hD hS => ?_)
        have hP : va_P (dC, dI) clsL [zO o0 oa i0 m0 nn, (oa, .inl (cP, 3, .inr (.inr (.inr (.inr pf))))), zP h0 a0 b0 dn0 n0 oc0 le0 ll0 li0 lc0 kc0 rp0, (a0, .inl (cI, 40, .inl (nF ch0))), zP h1 a1 b1 dn1 n1 oc1 le1 ll1 li1 lc1 kc1 rp1, (a1, .inl (cI, 40, .inl (nF ch1))), zP h2 a2 b2 dn2 n2 oc2 le2 ll2 li2 lc2 kc2 rp2, (a2, .inl (cI, 40, .inl (nF ch2))), zI i0 i1 i2 i3 i4 cn sS lS rS, (i4, .inl (cJ, 40, .inr (.inl dp)))] H := hP.sub (ws' := [zO o0 oa i0 m0 nn, (oa, .inl (cP, 3, .inr (.inr (.inr (.inr pf))))), zP h0 a0 b0 dn0 n0 oc0 le0 ll0 li0 lc0 kc0 rp0, (a0, .inl (cI, 40, .inl (nF ch0))), zP h1 a1 b1 dn1 n1 oc1 le1 ll1 li1 lc1 kc1 rp1, (a1, .inl (cI, 40, .inl (nF ch1))), zP h2 a2 b2 dn2 n2 oc2 le2 ll2 li2 lc2 kc2 rp2, (a2, .inl (cI, 40, .inl (nF ch2))), zI i0 i1 i2 i3 i4 cn sS lS rS, (i4, .inl (cJ, 40, .inr (.inl dp)))]) [5, 0, 1, 2, 3, 4, 6, 7, 8, 9] rfl
        have hD : va_D A [zO o0 oa i0 m0 nn, (oa, .inl (cP, 3, .inr (.inr (.inr (.inr pf))))), zP h0 a0 b0 dn0 n0 oc0 le0 ll0 li0 lc0 kc0 rp0, (a0, .inl (cI, 40, .inl (nF ch0))), zP h1 a1 b1 dn1 n1 oc1 le1 ll1 li1 lc1 kc1 rp1, (a1, .inl (cI, 40, .inl (nF ch1))), zP h2 a2 b2 dn2 n2 oc2 le2 ll2 li2 lc2 kc2 rp2, (a2, .inl (cI, 40, .inl (nF ch2))), zI i0 i1 i2 i3 i4 cn sS lS rS, (i4, .inl (cJ, 40, .inr (.inl dp)))] := hD.sub (ws' := [zO o0 oa i0 m0 nn, (oa, .inl (cP, 3, .inr (.inr (.inr (.inr pf))))), zP h0 a0 b0 dn0 n0 oc0 le0 ll0 li0 lc0 kc0 rp0, (a0, .inl (cI, 40, .inl (nF ch0))), zP h1 a1 b1 dn1 n1 oc1 le1 ll1 li1 lc1 kc1 rp1, (a1, .inl (cI, 40, .inl (nF ch1))), zP h2 a2 b2 dn2 n2 oc2 le2 ll2 li2 lc2 kc2 rp2, (a2, .inl (cI, 40, .inl (nF ch2))), zI i0 i1 i2 i3 i4 cn sS lS rS, (i4, .inl (cJ, 40, .inr (.inl dp)))]) [5, 0, 1, 2, 3, 4, 6, 7, 8, 9] (by decide) rfl
        refine lv_iadd hx hb dc_O_orphans_32 ?_
        refine tp_i (y := nI (0 + (n0 - (fo_N (hb_B dp ch0 lS) n0 0)) + (n1 - (fo_N (hb_B dp ch1 lS) n1 0)) + (n2 - (fo_N (hb_B dp ch2 lS) n2 0)))) (nI_add _ _) ?_
        refine lv_istore_n (lv' := [(1, .int (nI (0 + (n0 - (fo_N (hb_B dp ch0 lS) n0 0)) + (n1 - (fo_N (hb_B dp ch1 lS) n1 0)) + (n2 - (fo_N (hb_B dp ch2 lS) n2 0))))), (2, .int (nI (0 + 1 + 1))), (0, .ref o0)]) hx hb dc_O_orphans_33 rfl hl (by decide) rfl (fun ls hl => ?_)
        refine lv_iinc (k := 1) (v := nI (0 + 1 + 1 + 1)) (lv' := [(2, .int (nI (0 + 1 + 1 + 1))), (1, .int (nI (0 + (n0 - (fo_N (hb_B dp ch0 lS) n0 0)) + (n1 - (fo_N (hb_B dp ch1 lS) n1 0)) + (n2 - (fo_N (hb_B dp ch2 lS) n2 0))))), (0, .ref o0)]) hx hb dc_O_orphans_34 hl rfl (nI_inc1 _) (by decide) rfl (fun ls hl => ?_)
        refine lv_goto (tgt := 4) hx hb dc_O_orphans_37 (by decide) ?_
        refine lv_iload_n hx hb dc_O_orphans_4 rfl (lv_at hl 0 rfl) ?_
        refine lv_iconst (v := nI 3) hx hb dc_O_orphans_5 (by decide) ?_
        refine lv_icmp_ge (tgt := 40) hx hb dc_O_orphans_6 (by decide) (fun hc => ?_) (fun hc => ?_)
        rotate_left
        · have h6 : (0 + 1 + 1 + 1) < 3 := Nat.lt_of_not_le (fun h9 => hc ((nI_leI (by omega) (by omega)).mpr h9))
          exact absurd h6 (by omega)
        have h6 : 3 ≤ (0 + 1 + 1 + 1) := (nI_leI (by omega) (by omega)).mp hc
        refine lv_iload_n hx hb dc_O_orphans_40 rfl (lv_at hl 1 rfl) ?_
        have hP9 := hP.sub (ws' := [zO o0 oa i0 m0 nn, (oa, .inl (cP, 3, .inr (.inr (.inr (.inr pf))))), zP h0 a0 b0 dn0 n0 oc0 le0 ll0 li0 lc0 kc0 rp0, (a0, .inl (cI, 40, .inl (nF ch0))), zP h1 a1 b1 dn1 n1 oc1 le1 ll1 li1 lc1 kc1 rp1, (a1, .inl (cI, 40, .inl (nF ch1))), zP h2 a2 b2 dn2 n2 oc2 le2 ll2 li2 lc2 kc2 rp2, (a2, .inl (cI, 40, .inl (nF ch2))), zI i0 i1 i2 i3 i4 cn sS lS rS, (i4, .inl (cJ, 40, .inr (.inl dp)))]) [0, 1, 2, 3, 4, 5, 6, 7, 8, 9] rfl
        have hD9 := hD.sub (ws' := [zO o0 oa i0 m0 nn, (oa, .inl (cP, 3, .inr (.inr (.inr (.inr pf))))), zP h0 a0 b0 dn0 n0 oc0 le0 ll0 li0 lc0 kc0 rp0, (a0, .inl (cI, 40, .inl (nF ch0))), zP h1 a1 b1 dn1 n1 oc1 le1 ll1 li1 lc1 kc1 rp1, (a1, .inl (cI, 40, .inl (nF ch1))), zP h2 a2 b2 dn2 n2 oc2 le2 ll2 li2 lc2 kc2 rp2, (a2, .inl (cI, 40, .inl (nF ch2))), zI i0 i1 i2 i3 i4 cn sS lS rS, (i4, .inl (cJ, 40, .inr (.inl dp)))]) [0, 1, 2, 3, 4, 5, 6, 7, 8, 9] (by decide) rfl
        exact W.iret (v := nI (0 + (n0 - (fo_N (hb_B dp ch0 lS) n0 0)) + (n1 - (fo_N (hb_B dp ch1 lS) n1 0)) + (n2 - (fo_N (hb_B dp ch2 lS) n2 0)))) hx hb hr (fun t ht hW => ⟨⟨_, (), rfl, by simp [*], by rw [ht]; exact hP9, va_K.moved hW.alike hK, hD9⟩, hS.F ht⟩) hS.2.2 dc_O_orphans_41

set_option maxHeartbeats 4000000 in
set_option maxRecDepth 100000 in
theorem oc_O_giveBack (l : Launch) (dC : Nat → ClassId) (dI : Nat → Nat → Nat) (cI cJ cZ cP : ClassId) (sz : Nat) (o0 : Nat) (oa : Nat) (i0 : Nat) (m0 : Nat) (nn : Nat) (h : Nat) (a : Nat) (b : Nat) (dn : Bool) (n : Nat) (oc : Nat) (le : Nat) (ll : Int64) (li : Int64) (lc : Nat) (kc : Nat) (rp : Int32) (i1 : Nat) (i2 : Nat) (i3 : Nat) (i4 : Nat) (cn : Nat) (sS : Int64) (lS : Int64) (rS : Int64) (m1 : Nat) (m2 : Nat) (m3 : Nat) (m4 : Nat) (m5 : Nat) (mn : Nat) (mi : Nat) (dp : Nat → Int64) (sr : Nat → Option Nat) (su : Nat → Nat) (j : Nat) (hj : j < 104) (hs : ∀ i, sr j = some i → i < 40) : mt_V l mn_O_giveBack bc_O_giveBack 3 none ({ frames := 2, cells := 0, slots := 0, locals := 44 }) (dC, dI) (TYS cI cJ cZ cP) sz [.ref o0, .ref h, .int (nI j)] [zO o0 oa i0 m0 nn, zP h a b dn n oc le ll li lc kc rp, zI i0 i1 i2 i3 i4 cn sS lS rS, (i4, .inl (cJ, 40, .inr (.inl dp))), zM m0 m1 m2 m3 m4 m5 mn mi, (m3, .inl (cI, 104, .inl (oF sr))), (m5, .inl (cI, 104, .inl (nF su)))] [zO o0 oa i0 m0 nn, zP h a b dn n oc le ll li lc kc rp, zI i0 i1 i2 i3 i4 cn sS lS rS, (i4, .inl (cJ, 40, .inr (.inl dp))), zM m0 m1 m2 m3 m4 m5 mn mi, (m3, .inl (cI, 104, .inl (oF sr))), (m5, .inl (cI, 104, .inl (nF (va_up su j (if ko_B sr dp ll j then 3 else 0)))))] 0 0 := by
  unfold mt_V
  refine Met.ofW (cc := bc_O_giveBack) (maxL := 3) (ret := none) (by decide) rfl ?_
  intro p e s m args below meth c s₁ B hml hv
  obtain ⟨rfl, hsz, hP, hK, hD0⟩ := hv
  have hx := B.exec
  have hb := B.bytes
  have hr := B.returns
  have hts := atoms_spec (ws := wsT mn_O_giveBack bc_O_giveBack 3 none) B.pre
  have htb : ∀ w ∈ gtbl, w.before _ s = true := fun w h => hts w (List.mem_cons_of_mem _ h)
  have hown : s.vm.findClass cn_O = some m.cls := findClass_of_methodNamed B.named
  have hlocks := B.notSynchronized
  subst hsz
  have hD := hD0.self (sz := s.heap.size)
  generalize hAe : va_A [zO o0 oa i0 m0 nn, zP h a b dn n oc le ll li lc kc rp, zI i0 i1 i2 i3 i4 cn sS lS rS, (i4, .inl (cJ, 40, .inr (.inl dp))), zM m0 m1 m2 m3 m4 m5 mn mi, (m3, .inl (cI, 104, .inl (oF sr))), (m5, .inl (cI, 104, .inl (nF su)))] s.heap.size = A at hD ⊢
  have hA : ∀ q : Nat, s.heap.size ≤ q → A q := fun q h => by rw [← hAe]; exact Or.inr h
  have hS : va_S A s.heap s.heap [] := va_S.rf
  have hP : va_P (dC, dI) clsL [zO o0 oa i0 m0 nn, zP h a b dn n oc le ll li lc kc rp, zI i0 i1 i2 i3 i4 cn sS lS rS, (i4, .inl (cJ, 40, .inr (.inl dp))), zM m0 m1 m2 m3 m4 m5 mn mi, (m3, .inl (cI, 104, .inl (oF sr))), (m5, .inl (cI, 104, .inl (nF su)))] s.heap := hP
  have hl := lv_entry ([.ref o0, .ref h, .int (nI j)]) (n := 3) (Nat.le_of_ble_eq_true rfl)
  rw [lg_entry_eq]
  generalize (lg_sl ([.ref o0, .ref h, .int (nI j)]) ++ List.replicate (3 - (lg_sl ([.ref o0, .ref h, .int (nI j)])).length) Slot.unset).toArray = ls at hl ⊢
  have hl : lv_has ls 3 [(0, .ref o0), (1, .ref h), (2, .int (nI j))] := hl
  refine lv_aload_n hx hb dc_O_giveBack_0 rfl (lv_at hl 0 rfl) ?_
  refine va_get (D := (dC, dI)) (ci := 3) (v := .ref m0) (C := cn_O) (T := ft_O) (N := 4) hx hb htb ki_O hown hK hP 0 rfl rfl 2 (by decide) (htb _ kw_141) (fun _ h9 => h9) rfl dc_O_giveBack_1 ?_
  refine va_get (D := (dC, dI)) (ci := 1) (v := .ref m5) (C := cn_M) (T := ft_M) (N := 7) hx hb htb ki_M hown hK hP 4 rfl rfl 4 (by decide) (htb _ kw_120) (fun _ h9 => h9) rfl dc_O_giveBack_4 ?_
  refine lv_iload_n hx hb dc_O_giveBack_7 rfl (lv_at hl 2 rfl) ?_
  refine lv_aload_n hx hb dc_O_giveBack_8 rfl (lv_at hl 0 rfl) ?_
  refine lv_aload_n hx hb dc_O_giveBack_9 rfl (lv_at hl 1 rfl) ?_
  refine lv_iload_n hx hb dc_O_giveBack_10 rfl (lv_at hl 2 rfl) ?_
  refine cl_i (wc := [zO o0 oa i0 m0 nn, zP h a b dn n oc le ll li lc kc rp, zI i0 i1 i2 i3 i4 cn sS lS rS, (i4, .inl (cJ, 40, .inr (.inl dp))), zM m0 m1 m2 m3 m4 m5 mn mi, (m3, .inl (cI, 104, .inl (oF sr)))]) (wr := [(m5, .inl (cI, 104, .inl (nF su)))]) (w1 := [zO o0 oa i0 m0 nn, zP h a b dn n oc le ll li lc kc rp, zI i0 i1 i2 i3 i4 cn sS lS rS, (i4, .inl (cJ, 40, .inr (.inl dp))), zM m0 m1 m2 m3 m4 m5 mn mi, (m3, .inl (cI, 104, .inl (oF sr)))]) hP hD hS hA [0, 1, 2, 3, 4, 5] [6] rfl rfl (by decide) (by decide) (va_runV (As := [.ref h, .int (nI j)]) (rest := [.int (nI j), .ref m5]) ⟨hx, hb, hml, hown, htb⟩ (oc_O_isKnownOrphan l dC dI cI cJ cZ cP _ o0 oa i0 m0 nn h a b dn n oc le ll li lc kc rp i1 i2 i3 i4 cn sS lS rS m1 m2 m3 m4 m5 mn mi dp sr j (by first | assumption | omega) (by first | assumption | omega)) (cwV 2 htb (gw_V kw_191 kw_193 kp_0 kw_1 kw_194) rfl rfl rfl (by decide +kernel) ⟨Nat.le_of_ble_eq_true rfl, Nat.le_of_ble_eq_true rfl⟩) (pr_V hP hK hD (va_recv hK hP (ci := 3) (q0 := 0) rfl rfl) [0, 1, 2, 3, 4, 5] (by decide) rfl rfl) rfl rfl hl.1 rfl (lv_room (Nat.le_of_ble_eq_true rfl)) dc_O_giveBack_11 ⟨Nat.le_of_ble_eq_true rfl, Nat.le_of_ble_eq_true rfl⟩) (fun H locs hP hD hS => ?_)
  have hP : va_P (dC, dI) clsL [zO o0 oa i0 m0 nn, zP h a b dn n oc le ll li lc kc rp, zI i0 i1 i2 i3 i4 cn sS lS rS, (i4, .inl (cJ, 40, .inr (.inl dp))), zM m0 m1 m2 m3 m4 m5 mn mi, (m3, .inl (cI, 104, .inl (oF sr))), (m5, .inl (cI, 104, .inl (nF su)))] H := hP.sub (ws' := [zO o0 oa i0 m0 nn, zP h a b dn n oc le ll li lc kc rp, zI i0 i1 i2 i3 i4 cn sS lS rS, (i4, .inl (cJ, 40, .inr (.inl dp))), zM m0 m1 m2 m3 m4 m5 mn mi, (m3, .inl (cI, 104, .inl (oF sr))), (m5, .inl (cI, 104, .inl (nF su)))]) [1, 2, 3, 4, 5, 6, 0] rfl
  have hD : va_D A [zO o0 oa i0 m0 nn, zP h a b dn n oc le ll li lc kc rp, zI i0 i1 i2 i3 i4 cn sS lS rS, (i4, .inl (cJ, 40, .inr (.inl dp))), zM m0 m1 m2 m3 m4 m5 mn mi, (m3, .inl (cI, 104, .inl (oF sr))), (m5, .inl (cI, 104, .inl (nF su)))] := hD.sub (ws' := [zO o0 oa i0 m0 nn, zP h a b dn n oc le ll li lc kc rp, zI i0 i1 i2 i3 i4 cn sS lS rS, (i4, .inl (cJ, 40, .inr (.inl dp))), zM m0 m1 m2 m3 m4 m5 mn mi, (m3, .inl (cI, 104, .inl (oF sr))), (m5, .inl (cI, 104, .inl (nF su)))]) [1, 2, 3, 4, 5, 6, 0] (by decide) rfl
  refine lv_if_eq (tgt := 21) hx hb dc_O_giveBack_14 (by decide) (fun hc => ?_) (fun hc => ?_)
  · have h1 : (ko_B sr dp ll j) = false := bI_0.mp hc
    refine lv_iconst (v := nI 0) hx hb dc_O_giveBack_21 (by decide) ?_
    refine wa_nst (k := j) (x := 0) hx hb hK hP hD hS 6 0 rfl rfl (by omega) (by omega) dc_O_giveBack_22 (fun H locs hP hD hS => ?_)
    have hP : va_P (dC, dI) clsL [zO o0 oa i0 m0 nn, zP h a b dn n oc le ll li lc kc rp, zI i0 i1 i2 i3 i4 cn sS lS rS, (i4, .inl (cJ, 40, .inr (.inl dp))), zM m0 m1 m2 m3 m4 m5 mn mi, (m3, .inl (cI, 104, .inl (oF sr))), (m5, .inl (cI, 104, .inl (nF (va_up su j 0))))] H := hP
    have hD : va_D A [zO o0 oa i0 m0 nn, zP h a b dn n oc le ll li lc kc rp, zI i0 i1 i2 i3 i4 cn sS lS rS, (i4, .inl (cJ, 40, .inr (.inl dp))), zM m0 m1 m2 m3 m4 m5 mn mi, (m3, .inl (cI, 104, .inl (oF sr))), (m5, .inl (cI, 104, .inl (nF (va_up su j 0))))] := hD
    have hP8 := hP.sub (ws' := [zO o0 oa i0 m0 nn, zP h a b dn n oc le ll li lc kc rp, zI i0 i1 i2 i3 i4 cn sS lS rS, (i4, .inl (cJ, 40, .inr (.inl dp))), zM m0 m1 m2 m3 m4 m5 mn mi, (m3, .inl (cI, 104, .inl (oF sr))), (m5, .inl (cI, 104, .inl (nF (va_up su j 0))))]) [0, 1, 2, 3, 4, 5, 6] rfl
    have hD8 := hD.sub (ws' := [zO o0 oa i0 m0 nn, zP h a b dn n oc le ll li lc kc rp, zI i0 i1 i2 i3 i4 cn sS lS rS, (i4, .inl (cJ, 40, .inr (.inl dp))), zM m0 m1 m2 m3 m4 m5 mn mi, (m3, .inl (cI, 104, .inl (oF sr))), (m5, .inl (cI, 104, .inl (nF (va_up su j 0))))]) [0, 1, 2, 3, 4, 5, 6] (by decide) rfl
    have hW8 : ([zO o0 oa i0 m0 nn, zP h a b dn n oc le ll li lc kc rp, zI i0 i1 i2 i3 i4 cn sS lS rS, (i4, .inl (cJ, 40, .inr (.inl dp))), zM m0 m1 m2 m3 m4 m5 mn mi, (m3, .inl (cI, 104, .inl (oF sr))), (m5, .inl (cI, 104, .inl (nF (va_up su j 0))))] : va_W) = [zO o0 oa i0 m0 nn, zP h a b dn n oc le ll li lc kc rp, zI i0 i1 i2 i3 i4 cn sS lS rS, (i4, .inl (cJ, 40, .inr (.inl dp))), zM m0 m1 m2 m3 m4 m5 mn mi, (m3, .inl (cI, 104, .inl (oF sr))), (m5, .inl (cI, 104, .inl (nF (va_up su j (if ko_B sr dp ll j then 3 else 0)))))] := by simp [h1]
    rw [hW8] at hP8 hD8
    have hP9 := hP8
    have hD9 := hD8
    exact W.vret hx hb hr (fun t ht hW => ⟨⟨(), rfl, trivial, by rw [ht]; exact hP9, va_K.moved hW.alike hK, hD9⟩, hS.F ht⟩) hS.2.2 dc_O_giveBack_23
  · have h1 : (ko_B sr dp ll j) = true := bI_n0.mp hc
    refine lv_iconst (v := nI 3) hx hb dc_O_giveBack_17 (by decide) ?_
    refine lv_goto (tgt := 22) hx hb dc_O_giveBack_18 (by decide) ?_
    refine wa_nst (k := j) (x := 3) hx hb hK hP hD hS 6 0 rfl rfl (by omega) (by omega) dc_O_giveBack_22 (fun H locs hP hD hS => ?_)
    have hP : va_P (dC, dI) clsL [zO o0 oa i0 m0 nn, zP h a b dn n oc le ll li lc kc rp, zI i0 i1 i2 i3 i4 cn sS lS rS, (i4, .inl (cJ, 40, .inr (.inl dp))), zM m0 m1 m2 m3 m4 m5 mn mi, (m3, .inl (cI, 104, .inl (oF sr))), (m5, .inl (cI, 104, .inl (nF (va_up su j 3))))] H := hP
    have hD : va_D A [zO o0 oa i0 m0 nn, zP h a b dn n oc le ll li lc kc rp, zI i0 i1 i2 i3 i4 cn sS lS rS, (i4, .inl (cJ, 40, .inr (.inl dp))), zM m0 m1 m2 m3 m4 m5 mn mi, (m3, .inl (cI, 104, .inl (oF sr))), (m5, .inl (cI, 104, .inl (nF (va_up su j 3))))] := hD
    have hP8 := hP.sub (ws' := [zO o0 oa i0 m0 nn, zP h a b dn n oc le ll li lc kc rp, zI i0 i1 i2 i3 i4 cn sS lS rS, (i4, .inl (cJ, 40, .inr (.inl dp))), zM m0 m1 m2 m3 m4 m5 mn mi, (m3, .inl (cI, 104, .inl (oF sr))), (m5, .inl (cI, 104, .inl (nF (va_up su j 3))))]) [0, 1, 2, 3, 4, 5, 6] rfl
    have hD8 := hD.sub (ws' := [zO o0 oa i0 m0 nn, zP h a b dn n oc le ll li lc kc rp, zI i0 i1 i2 i3 i4 cn sS lS rS, (i4, .inl (cJ, 40, .inr (.inl dp))), zM m0 m1 m2 m3 m4 m5 mn mi, (m3, .inl (cI, 104, .inl (oF sr))), (m5, .inl (cI, 104, .inl (nF (va_up su j 3))))]) [0, 1, 2, 3, 4, 5, 6] (by decide) rfl
    have hW8 : ([zO o0 oa i0 m0 nn, zP h a b dn n oc le ll li lc kc rp, zI i0 i1 i2 i3 i4 cn sS lS rS, (i4, .inl (cJ, 40, .inr (.inl dp))), zM m0 m1 m2 m3 m4 m5 mn mi, (m3, .inl (cI, 104, .inl (oF sr))), (m5, .inl (cI, 104, .inl (nF (va_up su j 3))))] : va_W) = [zO o0 oa i0 m0 nn, zP h a b dn n oc le ll li lc kc rp, zI i0 i1 i2 i3 i4 cn sS lS rS, (i4, .inl (cJ, 40, .inr (.inl dp))), zM m0 m1 m2 m3 m4 m5 mn mi, (m3, .inl (cI, 104, .inl (oF sr))), (m5, .inl (cI, 104, .inl (nF (va_up su j (if ko_B sr dp ll j then 3 else 0)))))] := by simp [h1]
    rw [hW8] at hP8 hD8
    have hP9 := hP8
    have hD9 := hD8
    exact W.vret hx hb hr (fun t ht hW => ⟨⟨(), rfl, trivial, by rw [ht]; exact hP9, va_K.moved hW.alike hK, hD9⟩, hS.F ht⟩) hS.2.2 dc_O_giveBack_23

set_option maxHeartbeats 4000000 in
set_option maxRecDepth 100000 in
theorem oc_O_learnNext (l : Launch) (dC : Nat → ClassId) (dI : Nat → Nat → Nat) (cI cJ cZ cP : ClassId) (sz : Nat) (o0 : Nat) (oa : Nat) (i0 : Nat) (m0 : Nat) (nn : Nat) (h : Nat) (a : Nat) (b : Nat) (dn : Bool) (n : Nat) (oc : Nat) (le : Nat) (ll : Int64) (li : Int64) (lc : Nat) (kc : Nat) (rp : Int32) (i1 : Nat) (i2 : Nat) (i3 : Nat) (i4 : Nat) (cn : Nat) (sS : Int64) (lS : Int64) (rS : Int64) (m1 : Nat) (m2 : Nat) (m3 : Nat) (m4 : Nat) (m5 : Nat) (mn : Nat) (mi : Nat) (ch : Nat → Nat) (rc : Nat → Nat) (an : Nat → Option Nat) (dp : Nat → Int64) (sr : Nat → Option Nat) (su : Nat → Nat) (kp : Nat) (la : Int64) (hn : n ≤ 40) (hch : ∀ k, k < n → ch k < 40) (hrc : ∀ i, i < n → rc (ch i) < 104) (hsr : ∀ q, q < 104 → ∀ i, sr q = some i → i < 40) (hcn : cn ≤ 40) (hle : le + 1 < 2 ^ 31) (han : ∀ k, k < cn → ∀ i, an k = some i → i < 2 ^ 31) (hlc : lc ≤ 40) (hkc : kc ≤ 40) (hla : ab_S an le cn = la) (hkp : fo_N (hb_B dp ch la) n 0 = kp) : mt_I l mn_O_learnNext bc_O_learnNext 7 (some .int) ({ frames := 3, cells := 0, slots := 0, locals := 66 }) (dC, dI) (TYS cI cJ cZ cP) sz [.ref o0, .ref h] [zO o0 oa i0 m0 nn, zP h a b dn n oc le ll li lc kc rp, (a, .inl (cI, 40, .inl (nF ch))), zI i0 i1 i2 i3 i4 cn sS lS rS, (i2, .inl (cI, 40, .inl (nF rc))), (i3, .inl (cI, 40, .inl (oF an))), (i4, .inl (cJ, 40, .inr (.inl dp))), zM m0 m1 m2 m3 m4 m5 mn mi, (m3, .inl (cI, 104, .inl (oF sr))), (m5, .inl (cI, 104, .inl (nF su)))] [zO o0 oa i0 m0 nn, zP h a b dn kp oc (le + 1) (ll ||| la) li (dl_1 kp lc kc) (dl_2 kp lc kc) rp, (a, .inl (cI, 40, .inl (nF ch))), zI i0 i1 i2 i3 i4 cn sS lS rS, (i2, .inl (cI, 40, .inl (nF rc))), (i3, .inl (cI, 40, .inl (oF an))), (i4, .inl (cJ, 40, .inr (.inl dp))), zM m0 m1 m2 m3 m4 m5 mn mi, (m3, .inl (cI, 104, .inl (oF sr))), (m5, .inl (cI, 104, .inl (nF (gb_F su (fun i => rc (ch i)) (ko_B sr dp (ll ||| la)) kp (n - kp)))))] (nI (n - kp)) 0 0 := by
  unfold mt_I
  refine Met.ofW (cc := bc_O_learnNext) (maxL := 7) (ret := (some .int)) (by decide) rfl ?_
  intro p e s m args below meth c s₁ B hml hv
  obtain ⟨rfl, hsz, hP, hK, hD0⟩ := hv
  have hx := B.exec
  have hb := B.bytes
  have hr := B.returns
  have hts := atoms_spec (ws := wsT mn_O_learnNext bc_O_learnNext 7 (some .int)) B.pre
  have htb : ∀ w ∈ gtbl, w.before _ s = true := fun w h => hts w (List.mem_cons_of_mem _ h)
  have hown : s.vm.findClass cn_O = some m.cls := findClass_of_methodNamed B.named
  have hlocks := B.notSynchronized
  subst hsz
  have hD := hD0.self (sz := s.heap.size)
  generalize hAe : va_A [zO o0 oa i0 m0 nn, zP h a b dn n oc le ll li lc kc rp, (a, .inl (cI, 40, .inl (nF ch))), zI i0 i1 i2 i3 i4 cn sS lS rS, (i2, .inl (cI, 40, .inl (nF rc))), (i3, .inl (cI, 40, .inl (oF an))), (i4, .inl (cJ, 40, .inr (.inl dp))), zM m0 m1 m2 m3 m4 m5 mn mi, (m3, .inl (cI, 104, .inl (oF sr))), (m5, .inl (cI, 104, .inl (nF su)))] s.heap.size = A at hD ⊢
  have hA : ∀ q : Nat, s.heap.size ≤ q → A q := fun q h => by rw [← hAe]; exact Or.inr h
  have hS : va_S A s.heap s.heap [] := va_S.rf
  have hP : va_P (dC, dI) clsL [zO o0 oa i0 m0 nn, zP h a b dn n oc le ll li lc kc rp, (a, .inl (cI, 40, .inl (nF ch))), zI i0 i1 i2 i3 i4 cn sS lS rS, (i2, .inl (cI, 40, .inl (nF rc))), (i3, .inl (cI, 40, .inl (oF an))), (i4, .inl (cJ, 40, .inr (.inl dp))), zM m0 m1 m2 m3 m4 m5 mn mi, (m3, .inl (cI, 104, .inl (oF sr))), (m5, .inl (cI, 104, .inl (nF su)))] s.heap := hP
  have hl := lv_entry ([.ref o0, .ref h]) (n := 7) (Nat.le_of_ble_eq_true rfl)
  rw [lg_entry_eq]
  generalize (lg_sl ([.ref o0, .ref h]) ++ List.replicate (7 - (lg_sl ([.ref o0, .ref h])).length) Slot.unset).toArray = ls at hl ⊢
  have hl : lv_has ls 7 [(0, .ref o0), (1, .ref h)] := hl
  refine lv_aload_n hx hb dc_O_learnNext_0 rfl (lv_at hl 0 rfl) ?_
  refine va_get (D := (dC, dI)) (ci := 3) (v := .ref i0) (C := cn_O) (T := ft_O) (N := 4) hx hb htb ki_O hown hK hP 0 rfl rfl 1 (by decide) (htb _ kw_140) (fun _ h9 => h9) rfl dc_O_learnNext_1 ?_
  refine lv_aload_n hx hb dc_O_learnNext_4 rfl (lv_at hl 1 rfl) ?_
  refine va_get (D := (dC, dI)) (ci := 2) (v := .int (nI le)) (C := cn_P) (T := ft_P) (N := 11) hx hb htb ki_P hown hK hP 1 rfl rfl 5 (by decide) (htb _ kw_33) (fun _ h9 => h9) rfl dc_O_learnNext_5 ?_
  refine cl_l (wc := [zI i0 i1 i2 i3 i4 cn sS lS rS, (i3, .inl (cI, 40, .inl (oF an)))]) (wr := [zO o0 oa i0 m0 nn, zP h a b dn n oc le ll li lc kc rp, (a, .inl (cI, 40, .inl (nF ch))), (i2, .inl (cI, 40, .inl (nF rc))), (i4, .inl (cJ, 40, .inr (.inl dp))), zM m0 m1 m2 m3 m4 m5 mn mi, (m3, .inl (cI, 104, .inl (oF sr))), (m5, .inl (cI, 104, .inl (nF su)))]) (w1 := [zI i0 i1 i2 i3 i4 cn sS lS rS, (i3, .inl (cI, 40, .inl (oF an)))]) hP hD hS hA [3, 5] [0, 1, 2, 4, 6, 7, 8, 9] rfl rfl (by decide) (by decide) (va_runV (As := [.int (nI le)]) (rest := []) ⟨hx, hb, hml, hown, htb⟩ (oc_I_announcedBy l dC dI cI cJ cZ cP _ i0 i1 i2 i3 i4 cn sS lS rS an le hcn (by omega) han) (cwV 1 htb (gw_V kw_286 kw_287 kw_288 kw_3 kw_289) rfl rfl rfl (by decide +kernel) ⟨Nat.le_of_ble_eq_true rfl, Nat.le_of_ble_eq_true rfl⟩) (pr_V hP hK hD (va_recv hK hP (ci := 0) (q0 := 3) rfl rfl) [3, 5] (by decide) rfl rfl) rfl rfl hl.1 rfl (lv_room (Nat.le_of_ble_eq_true rfl)) dc_O_learnNext_8 ⟨Nat.le_of_ble_eq_true rfl, Nat.le_of_ble_eq_true rfl⟩) (fun H locs hP hD hS => ?_)
  have hP : va_P (dC, dI) clsL [zO o0 oa i0 m0 nn, zP h a b dn n oc le ll li lc kc rp, (a, .inl (cI, 40, .inl (nF ch))), zI i0 i1 i2 i3 i4 cn sS lS rS, (i2, .inl (cI, 40, .inl (nF rc))), (i3, .inl (cI, 40, .inl (oF an))), (i4, .inl (cJ, 40, .inr (.inl dp))), zM m0 m1 m2 m3 m4 m5 mn mi, (m3, .inl (cI, 104, .inl (oF sr))), (m5, .inl (cI, 104, .inl (nF su)))] H := hP.sub (ws' := [zO o0 oa i0 m0 nn, zP h a b dn n oc le ll li lc kc rp, (a, .inl (cI, 40, .inl (nF ch))), zI i0 i1 i2 i3 i4 cn sS lS rS, (i2, .inl (cI, 40, .inl (nF rc))), (i3, .inl (cI, 40, .inl (oF an))), (i4, .inl (cJ, 40, .inr (.inl dp))), zM m0 m1 m2 m3 m4 m5 mn mi, (m3, .inl (cI, 104, .inl (oF sr))), (m5, .inl (cI, 104, .inl (nF su)))]) [0, 1, 2, 8, 3, 9, 4, 5, 6, 7] rfl
  have hD : va_D A [zO o0 oa i0 m0 nn, zP h a b dn n oc le ll li lc kc rp, (a, .inl (cI, 40, .inl (nF ch))), zI i0 i1 i2 i3 i4 cn sS lS rS, (i2, .inl (cI, 40, .inl (nF rc))), (i3, .inl (cI, 40, .inl (oF an))), (i4, .inl (cJ, 40, .inr (.inl dp))), zM m0 m1 m2 m3 m4 m5 mn mi, (m3, .inl (cI, 104, .inl (oF sr))), (m5, .inl (cI, 104, .inl (nF su)))] := hD.sub (ws' := [zO o0 oa i0 m0 nn, zP h a b dn n oc le ll li lc kc rp, (a, .inl (cI, 40, .inl (nF ch))), zI i0 i1 i2 i3 i4 cn sS lS rS, (i2, .inl (cI, 40, .inl (nF rc))), (i3, .inl (cI, 40, .inl (oF an))), (i4, .inl (cJ, 40, .inr (.inl dp))), zM m0 m1 m2 m3 m4 m5 mn mi, (m3, .inl (cI, 104, .inl (oF sr))), (m5, .inl (cI, 104, .inl (nF su)))]) [0, 1, 2, 8, 3, 9, 4, 5, 6, 7] (by decide) rfl
  refine tp_l (y := la) (hla) ?_
  refine lv_lstore_n (lv' := [(2, .long la), (0, .ref o0), (1, .ref h)]) hx hb dc_O_learnNext_11 rfl hl (by decide) rfl (fun ls hl => ?_)
  refine lv_aload_n hx hb dc_O_learnNext_12 rfl (lv_at hl 2 rfl) ?_
  refine lv_dup hx hb dc_O_learnNext_13 rfl ?_
  refine va_get (D := (dC, dI)) (ci := 2) (v := .int (nI le)) (C := cn_P) (T := ft_P) (N := 11) hx hb htb ki_P hown hK hP 1 rfl rfl 5 (by decide) (htb _ kw_33) (fun _ h9 => h9) rfl dc_O_learnNext_14 ?_
  refine lv_iconst (v := nI 1) hx hb dc_O_learnNext_17 (by decide) ?_
  refine lv_iadd hx hb dc_O_learnNext_18 ?_
  refine tp_i (y := nI (le + 1)) (nI_add _ _) ?_
  refine va_put (D := (dC, dI)) (ci := 2) (v := .int (nI (le + 1))) (ty := .int) (C := cn_P) (T := ft_P) (N := 11) hx hb htb ki_P fy_P fy_P_ok nm_P_d hown hK hP hD hS 1 rfl rfl 5 (by decide) (htb _ kw_33) (fun _ h9 => h9) rfl (by decide +kernel) rfl rfl (Nat.le_of_ble_eq_true rfl) dc_O_learnNext_19 (fun H locs hP hD hS => ?_)
  have hP : va_P (dC, dI) clsL [zO o0 oa i0 m0 nn, zP h a b dn n oc (le + 1) ll li lc kc rp, (a, .inl (cI, 40, .inl (nF ch))), zI i0 i1 i2 i3 i4 cn sS lS rS, (i2, .inl (cI, 40, .inl (nF rc))), (i3, .inl (cI, 40, .inl (oF an))), (i4, .inl (cJ, 40, .inr (.inl dp))), zM m0 m1 m2 m3 m4 m5 mn mi, (m3, .inl (cI, 104, .inl (oF sr))), (m5, .inl (cI, 104, .inl (nF su)))] H := hP
  have hD : va_D A [zO o0 oa i0 m0 nn, zP h a b dn n oc (le + 1) ll li lc kc rp, (a, .inl (cI, 40, .inl (nF ch))), zI i0 i1 i2 i3 i4 cn sS lS rS, (i2, .inl (cI, 40, .inl (nF rc))), (i3, .inl (cI, 40, .inl (oF an))), (i4, .inl (cJ, 40, .inr (.inl dp))), zM m0 m1 m2 m3 m4 m5 mn mi, (m3, .inl (cI, 104, .inl (oF sr))), (m5, .inl (cI, 104, .inl (nF su)))] := hD
  refine lv_aload_n hx hb dc_O_learnNext_22 rfl (lv_at hl 2 rfl) ?_
  refine lv_dup hx hb dc_O_learnNext_23 rfl ?_
  refine va_get (D := (dC, dI)) (ci := 2) (v := .long ll) (C := cn_P) (T := ft_P) (N := 11) hx hb htb ki_P hown hK hP 1 rfl rfl 6 (by decide) (htb _ kw_35) (fun _ h9 => h9) rfl dc_O_learnNext_24 ?_
  refine lv_lload_n hx hb dc_O_learnNext_27 rfl (lv_at hl 0 rfl) ?_
  refine lv_lor hx hb dc_O_learnNext_28 ?_
  refine va_put (D := (dC, dI)) (ci := 2) (v := .long (ll ||| la)) (ty := .long) (C := cn_P) (T := ft_P) (N := 11) hx hb htb ki_P fy_P fy_P_ok nm_P_d hown hK hP hD hS 1 rfl rfl 6 (by decide) (htb _ kw_35) (fun _ h9 => h9) rfl (by decide +kernel) rfl rfl (Nat.le_of_ble_eq_true rfl) dc_O_learnNext_29 (fun H locs hP hD hS => ?_)
  have hP : va_P (dC, dI) clsL [zO o0 oa i0 m0 nn, zP h a b dn n oc (le + 1) (ll ||| la) li lc kc rp, (a, .inl (cI, 40, .inl (nF ch))), zI i0 i1 i2 i3 i4 cn sS lS rS, (i2, .inl (cI, 40, .inl (nF rc))), (i3, .inl (cI, 40, .inl (oF an))), (i4, .inl (cJ, 40, .inr (.inl dp))), zM m0 m1 m2 m3 m4 m5 mn mi, (m3, .inl (cI, 104, .inl (oF sr))), (m5, .inl (cI, 104, .inl (nF su)))] H := hP
  have hD : va_D A [zO o0 oa i0 m0 nn, zP h a b dn n oc (le + 1) (ll ||| la) li lc kc rp, (a, .inl (cI, 40, .inl (nF ch))), zI i0 i1 i2 i3 i4 cn sS lS rS, (i2, .inl (cI, 40, .inl (nF rc))), (i3, .inl (cI, 40, .inl (oF an))), (i4, .inl (cJ, 40, .inr (.inl dp))), zM m0 m1 m2 m3 m4 m5 mn mi, (m3, .inl (cI, 104, .inl (oF sr))), (m5, .inl (cI, 104, .inl (nF su)))] := hD
  refine lv_aload_n hx hb dc_O_learnNext_32 rfl (lv_at hl 1 rfl) ?_
  refine lv_aload_n hx hb dc_O_learnNext_33 rfl (lv_at hl 2 rfl) ?_
  refine lv_lload_n hx hb dc_O_learnNext_34 rfl (lv_at hl 0 rfl) ?_
  refine cl_i (wc := [zO o0 oa i0 m0 nn, zP h a b dn n oc (le + 1) (ll ||| la) li lc kc rp, (a, .inl (cI, 40, .inl (nF ch))), zI i0 i1 i2 i3 i4 cn sS lS rS, (i4, .inl (cJ, 40, .inr (.inl dp)))]) (wr := [(i2, .inl (cI, 40, .inl (nF rc))), (i3, .inl (cI, 40, .inl (oF an))), zM m0 m1 m2 m3 m4 m5 mn mi, (m3, .inl (cI, 104, .inl (oF sr))), (m5, .inl (cI, 104, .inl (nF su)))]) (w1 := [zO o0 oa i0 m0 nn, zP h a b dn n oc (le + 1) (ll ||| la) li lc kc rp, (a, .inl (cI, 40, .inl (nF ch))), zI i0 i1 i2 i3 i4 cn sS lS rS, (i4, .inl (cJ, 40, .inr (.inl dp)))]) hP hD hS hA [0, 1, 2, 3, 6] [4, 5, 7, 8, 9] rfl rfl (by decide) (by decide) (va_runV (As := [.ref h, .long la]) (rest := []) ⟨hx, hb, hml, hown, htb⟩ (oc_O_firstOnChain l dC dI cI cJ cZ cP _ o0 oa i0 m0 nn h a b dn n oc (le + 1) (ll ||| la) li lc kc rp i1 i2 i3 i4 cn sS lS rS ch dp la hn hch) (cwV 2 htb (gw_V kw_290 kw_292 kp_10 kw_1 kw_293) rfl rfl rfl (by decide +kernel) ⟨Nat.le_of_ble_eq_true rfl, Nat.le_of_ble_eq_true rfl⟩) (pr_V hP hK hD (va_recv hK hP (ci := 3) (q0 := 0) rfl rfl) [0, 1, 2, 3, 6] (by decide) rfl rfl) rfl rfl hl.1 rfl (lv_room (Nat.le_of_ble_eq_true rfl)) dc_O_learnNext_35 ⟨Nat.le_of_ble_eq_true rfl, Nat.le_of_ble_eq_true rfl⟩) (fun H locs hP hD hS => ?_)
  have hP : va_P (dC, dI) clsL [zO o0 oa i0 m0 nn, zP h a b dn n oc (le + 1) (ll ||| la) li lc kc rp, (a, .inl (cI, 40, .inl (nF ch))), zI i0 i1 i2 i3 i4 cn sS lS rS, (i2, .inl (cI, 40, .inl (nF rc))), (i3, .inl (cI, 40, .inl (oF an))), (i4, .inl (cJ, 40, .inr (.inl dp))), zM m0 m1 m2 m3 m4 m5 mn mi, (m3, .inl (cI, 104, .inl (oF sr))), (m5, .inl (cI, 104, .inl (nF su)))] H := hP.sub (ws' := [zO o0 oa i0 m0 nn, zP h a b dn n oc (le + 1) (ll ||| la) li lc kc rp, (a, .inl (cI, 40, .inl (nF ch))), zI i0 i1 i2 i3 i4 cn sS lS rS, (i2, .inl (cI, 40, .inl (nF rc))), (i3, .inl (cI, 40, .inl (oF an))), (i4, .inl (cJ, 40, .inr (.inl dp))), zM m0 m1 m2 m3 m4 m5 mn mi, (m3, .inl (cI, 104, .inl (oF sr))), (m5, .inl (cI, 104, .inl (nF su)))]) [5, 6, 7, 8, 0, 1, 9, 2, 3, 4] rfl
  have hD : va_D A [zO o0 oa i0 m0 nn, zP h a b dn n oc (le + 1) (ll ||| la) li lc kc rp, (a, .inl (cI, 40, .inl (nF ch))), zI i0 i1 i2 i3 i4 cn sS lS rS, (i2, .inl (cI, 40, .inl (nF rc))), (i3, .inl (cI, 40, .inl (oF an))), (i4, .inl (cJ, 40, .inr (.inl dp))), zM m0 m1 m2 m3 m4 m5 mn mi, (m3, .inl (cI, 104, .inl (oF sr))), (m5, .inl (cI, 104, .inl (nF su)))] := hD.sub (ws' := [zO o0 oa i0 m0 nn, zP h a b dn n oc (le + 1) (ll ||| la) li lc kc rp, (a, .inl (cI, 40, .inl (nF ch))), zI i0 i1 i2 i3 i4 cn sS lS rS, (i2, .inl (cI, 40, .inl (nF rc))), (i3, .inl (cI, 40, .inl (oF an))), (i4, .inl (cJ, 40, .inr (.inl dp))), zM m0 m1 m2 m3 m4 m5 mn mi, (m3, .inl (cI, 104, .inl (oF sr))), (m5, .inl (cI, 104, .inl (nF su)))]) [5, 6, 7, 8, 0, 1, 9, 2, 3, 4] (by decide) rfl
  refine tp_i (y := nI kp) (by rw [hkp]) ?_
  have hkn : kp ≤ n := hkp ▸ fo_N_le0 _ _
  refine lv_istore (lv' := [(4, .int (nI kp)), (2, .long la), (0, .ref o0), (1, .ref h)]) hx hb dc_O_learnNext_38 hl (by decide) rfl (fun ls hl => ?_)
  refine lv_aload_n hx hb dc_O_learnNext_40 rfl (lv_at hl 3 rfl) ?_
  refine va_get (D := (dC, dI)) (ci := 2) (v := .int (nI n)) (C := cn_P) (T := ft_P) (N := 11) hx hb htb ki_P hown hK hP 1 rfl rfl 3 (by decide) (htb _ kw_29) (fun _ h9 => h9) rfl dc_O_learnNext_41 ?_
  refine lv_iload hx hb dc_O_learnNext_44 (lv_at hl 0 rfl) ?_
  refine lv_isub hx hb dc_O_learnNext_46 ?_
  refine tp_i (y := nI (n - kp)) (pk_sub (by omega)) ?_
  refine lv_istore (lv' := [(5, .int (nI (n - kp))), (4, .int (nI kp)), (2, .long la), (0, .ref o0), (1, .ref h)]) hx hb dc_O_learnNext_47 hl (by decide) rfl (fun ls hl => ?_)
  refine lv_iload hx hb dc_O_learnNext_49 (lv_at hl 1 rfl) ?_
  refine lv_istore (lv' := [(6, .int (nI kp)), (5, .int (nI (n - kp))), (4, .int (nI kp)), (2, .long la), (0, .ref o0), (1, .ref h)]) hx hb dc_O_learnNext_51 hl (by decide) rfl (fun ls hl => ?_)
  refine wl_ 53 (fun (x : Nat × (Nat → Nat)) => n - x.1) (fun (x : Nat × (Nat → Nat)) (H : Heap) (locs : List Loc) (ls : Array Slot) => (kp ≤ x.1 ∧ x.1 ≤ n ∧ x.2 = gb_F su (fun i => rc (ch i)) (ko_B sr dp (ll ||| la)) kp (x.1 - kp)) ∧ va_P (dC, dI) clsL [zO o0 oa i0 m0 nn, zP h a b dn n oc (le + 1) (ll ||| la) li lc kc rp, (a, .inl (cI, 40, .inl (nF ch))), zI i0 i1 i2 i3 i4 cn sS lS rS, (i2, .inl (cI, 40, .inl (nF rc))), (i3, .inl (cI, 40, .inl (oF an))), (i4, .inl (cJ, 40, .inr (.inl dp))), zM m0 m1 m2 m3 m4 m5 mn mi, (m3, .inl (cI, 104, .inl (oF sr))), (m5, .inl (cI, 104, .inl (nF x.2)))] H ∧ va_D A [zO o0 oa i0 m0 nn, zP h a b dn n oc (le + 1) (ll ||| la) li lc kc rp, (a, .inl (cI, 40, .inl (nF ch))), zI i0 i1 i2 i3 i4 cn sS lS rS, (i2, .inl (cI, 40, .inl (nF rc))), (i3, .inl (cI, 40, .inl (oF an))), (i4, .inl (cJ, 40, .inr (.inl dp))), zM m0 m1 m2 m3 m4 m5 mn mi, (m3, .inl (cI, 104, .inl (oF sr))), (m5, .inl (cI, 104, .inl (nF x.2)))] ∧ va_S A s.heap H locs ∧ lv_has ls 7 [(6, .int (nI x.1)), (5, .int (nI (n - kp))), (4, .int (nI kp)), (1, .ref h), (0, .ref o0)]) ?_ (kp, su) _ _ _ ⟨⟨Nat.le_refl _, hkn, by rw [Nat.sub_self]; rfl⟩, hP, hD, hS, lv_sub hl [0, 1, 2, 5, 4] rfl⟩
  rintro ⟨k, g⟩ H locs ls ⟨hI, hP, hD, hS, hl⟩ ih
  replace hI : kp ≤ k ∧ k ≤ n ∧ g = gb_F su (fun i => rc (ch i)) (ko_B sr dp (ll ||| la)) kp (k - kp) := hI
  replace hP : va_P (dC, dI) clsL [zO o0 oa i0 m0 nn, zP h a b dn n oc (le + 1) (ll ||| la) li lc kc rp, (a, .inl (cI, 40, .inl (nF ch))), zI i0 i1 i2 i3 i4 cn sS lS rS, (i2, .inl (cI, 40, .inl (nF rc))), (i3, .inl (cI, 40, .inl (oF an))), (i4, .inl (cJ, 40, .inr (.inl dp))), zM m0 m1 m2 m3 m4 m5 mn mi, (m3, .inl (cI, 104, .inl (oF sr))), (m5, .inl (cI, 104, .inl (nF g)))] H := hP
  replace hD : va_D A [zO o0 oa i0 m0 nn, zP h a b dn n oc (le + 1) (ll ||| la) li lc kc rp, (a, .inl (cI, 40, .inl (nF ch))), zI i0 i1 i2 i3 i4 cn sS lS rS, (i2, .inl (cI, 40, .inl (nF rc))), (i3, .inl (cI, 40, .inl (oF an))), (i4, .inl (cJ, 40, .inr (.inl dp))), zM m0 m1 m2 m3 m4 m5 mn mi, (m3, .inl (cI, 104, .inl (oF sr))), (m5, .inl (cI, 104, .inl (nF g)))] := hD
  replace hl : lv_has ls 7 [(6, .int (nI k)), (5, .int (nI (n - kp))), (4, .int (nI kp)), (1, .ref h), (0, .ref o0)] := hl
  have hk1 := hI.1
  have hk2 := hI.2.1
  refine lv_iload hx hb dc_O_learnNext_53 (lv_at hl 0 rfl) ?_
  refine lv_aload_n hx hb dc_O_learnNext_55 rfl (lv_at hl 3 rfl) ?_
  refine va_get (D := (dC, dI)) (ci := 2) (v := .int (nI n)) (C := cn_P) (T := ft_P) (N := 11) hx hb htb ki_P hown hK hP 1 rfl rfl 3 (by decide) (htb _ kw_29) (fun _ h9 => h9) rfl dc_O_learnNext_56 ?_
  refine lv_icmp_ge (tgt := 88) hx hb dc_O_learnNext_59 (by decide) (fun hc => ?_) (fun hc => ?_)
  · have hk : n ≤ k := (nI_leI (by omega) (by omega)).mp hc
    refine lv_aload_n hx hb dc_O_learnNext_88 rfl (lv_at hl 3 rfl) ?_
    refine lv_iload hx hb dc_O_learnNext_89 (lv_at hl 2 rfl) ?_
    refine va_put (D := (dC, dI)) (ci := 2) (v := .int (nI kp)) (ty := .int) (C := cn_P) (T := ft_P) (N := 11) hx hb htb ki_P fy_P fy_P_ok nm_P_d hown hK hP hD hS 1 rfl rfl 3 (by decide) (htb _ kw_29) (fun _ h9 => h9) rfl (by decide +kernel) rfl rfl (Nat.le_of_ble_eq_true rfl) dc_O_learnNext_91 (fun H locs hP hD hS => ?_)
    have hP : va_P (dC, dI) clsL [zO o0 oa i0 m0 nn, zP h a b dn kp oc (le + 1) (ll ||| la) li lc kc rp, (a, .inl (cI, 40, .inl (nF ch))), zI i0 i1 i2 i3 i4 cn sS lS rS, (i2, .inl (cI, 40, .inl (nF rc))), (i3, .inl (cI, 40, .inl (oF an))), (i4, .inl (cJ, 40, .inr (.inl dp))), zM m0 m1 m2 m3 m4 m5 mn mi, (m3, .inl (cI, 104, .inl (oF sr))), (m5, .inl (cI, 104, .inl (nF g)))] H := hP
    have hD : va_D A [zO o0 oa i0 m0 nn, zP h a b dn kp oc (le + 1) (ll ||| la) li lc kc rp, (a, .inl (cI, 40, .inl (nF ch))), zI i0 i1 i2 i3 i4 cn sS lS rS, (i2, .inl (cI, 40, .inl (nF rc))), (i3, .inl (cI, 40, .inl (oF an))), (i4, .inl (cJ, 40, .inr (.inl dp))), zM m0 m1 m2 m3 m4 m5 mn mi, (m3, .inl (cI, 104, .inl (oF sr))), (m5, .inl (cI, 104, .inl (nF g)))] := hD
    refine lv_aload_n hx hb dc_O_learnNext_94 rfl (lv_at hl 3 rfl) ?_
    refine cl_v (wc := [zP h a b dn kp oc (le + 1) (ll ||| la) li lc kc rp]) (wr := [zO o0 oa i0 m0 nn, (a, .inl (cI, 40, .inl (nF ch))), zI i0 i1 i2 i3 i4 cn sS lS rS, (i2, .inl (cI, 40, .inl (nF rc))), (i3, .inl (cI, 40, .inl (oF an))), (i4, .inl (cJ, 40, .inr (.inl dp))), zM m0 m1 m2 m3 m4 m5 mn mi, (m3, .inl (cI, 104, .inl (oF sr))), (m5, .inl (cI, 104, .inl (nF g)))]) (w1 := [zP h a b dn kp oc (le + 1) (ll ||| la) li (dl_1 kp lc kc) (dl_2 kp lc kc) rp]) hP hD hS hA [1] [0, 2, 3, 4, 5, 6, 7, 8, 9] rfl rfl (by decide) (by decide) (va_runV (As := []) (rest := []) ⟨hx, hb, hml, hown, htb⟩ (oc_P_dropLong l dC dI cI cJ cZ cP _ h a b dn kp oc (le + 1) (ll ||| la) li lc kc rp (by omega) hlc hkc) (cwV 0 htb (gw_V kw_298 kw_299 kw_300 kw_2 kw_301) rfl rfl rfl (by decide +kernel) ⟨Nat.le_of_ble_eq_true rfl, Nat.le_of_ble_eq_true rfl⟩) (pr_V hP hK hD (va_recv hK hP (ci := 2) (q0 := 1) rfl rfl) [1] (by decide) rfl rfl) rfl rfl hl.1 rfl (lv_room (Nat.le_of_ble_eq_true rfl)) dc_O_learnNext_95 ⟨Nat.le_of_ble_eq_true rfl, Nat.le_of_ble_eq_true rfl⟩) (fun H locs hP hD hS => ?_)
    have hP : va_P (dC, dI) clsL [zO o0 oa i0 m0 nn, zP h a b dn kp oc (le + 1) (ll ||| la) li (dl_1 kp lc kc) (dl_2 kp lc kc) rp, (a, .inl (cI, 40, .inl (nF ch))), zI i0 i1 i2 i3 i4 cn sS lS rS, (i2, .inl (cI, 40, .inl (nF rc))), (i3, .inl (cI, 40, .inl (oF an))), (i4, .inl (cJ, 40, .inr (.inl dp))), zM m0 m1 m2 m3 m4 m5 mn mi, (m3, .inl (cI, 104, .inl (oF sr))), (m5, .inl (cI, 104, .inl (nF g)))] H := hP.sub (ws' := [zO o0 oa i0 m0 nn, zP h a b dn kp oc (le + 1) (ll ||| la) li (dl_1 kp lc kc) (dl_2 kp lc kc) rp, (a, .inl (cI, 40, .inl (nF ch))), zI i0 i1 i2 i3 i4 cn sS lS rS, (i2, .inl (cI, 40, .inl (nF rc))), (i3, .inl (cI, 40, .inl (oF an))), (i4, .inl (cJ, 40, .inr (.inl dp))), zM m0 m1 m2 m3 m4 m5 mn mi, (m3, .inl (cI, 104, .inl (oF sr))), (m5, .inl (cI, 104, .inl (nF g)))]) [0, 9, 1, 2, 3, 4, 5, 6, 7, 8] rfl
    have hD : va_D A [zO o0 oa i0 m0 nn, zP h a b dn kp oc (le + 1) (ll ||| la) li (dl_1 kp lc kc) (dl_2 kp lc kc) rp, (a, .inl (cI, 40, .inl (nF ch))), zI i0 i1 i2 i3 i4 cn sS lS rS, (i2, .inl (cI, 40, .inl (nF rc))), (i3, .inl (cI, 40, .inl (oF an))), (i4, .inl (cJ, 40, .inr (.inl dp))), zM m0 m1 m2 m3 m4 m5 mn mi, (m3, .inl (cI, 104, .inl (oF sr))), (m5, .inl (cI, 104, .inl (nF g)))] := hD.sub (ws' := [zO o0 oa i0 m0 nn, zP h a b dn kp oc (le + 1) (ll ||| la) li (dl_1 kp lc kc) (dl_2 kp lc kc) rp, (a, .inl (cI, 40, .inl (nF ch))), zI i0 i1 i2 i3 i4 cn sS lS rS, (i2, .inl (cI, 40, .inl (nF rc))), (i3, .inl (cI, 40, .inl (oF an))), (i4, .inl (cJ, 40, .inr (.inl dp))), zM m0 m1 m2 m3 m4 m5 mn mi, (m3, .inl (cI, 104, .inl (oF sr))), (m5, .inl (cI, 104, .inl (nF g)))]) [0, 9, 1, 2, 3, 4, 5, 6, 7, 8] (by decide) rfl
    refine lv_iload hx hb dc_O_learnNext_98 (lv_at hl 1 rfl) ?_
    obtain rfl : n = k := by omega
    have hP8 := hP.sub (ws' := [zO o0 oa i0 m0 nn, zP h a b dn kp oc (le + 1) (ll ||| la) li (dl_1 kp lc kc) (dl_2 kp lc kc) rp, (a, .inl (cI, 40, .inl (nF ch))), zI i0 i1 i2 i3 i4 cn sS lS rS, (i2, .inl (cI, 40, .inl (nF rc))), (i3, .inl (cI, 40, .inl (oF an))), (i4, .inl (cJ, 40, .inr (.inl dp))), zM m0 m1 m2 m3 m4 m5 mn mi, (m3, .inl (cI, 104, .inl (oF sr))), (m5, .inl (cI, 104, .inl (nF g)))]) [0, 1, 2, 3, 4, 5, 6, 7, 8, 9] rfl
    have hD8 := hD.sub (ws' := [zO o0 oa i0 m0 nn, zP h a b dn kp oc (le + 1) (ll ||| la) li (dl_1 kp lc kc) (dl_2 kp lc kc) rp, (a, .inl (cI, 40, .inl (nF ch))), zI i0 i1 i2 i3 i4 cn sS lS rS, (i2, .inl (cI, 40, .inl (nF rc))), (i3, .inl (cI, 40, .inl (oF an))), (i4, .inl (cJ, 40, .inr (.inl dp))), zM m0 m1 m2 m3 m4 m5 mn mi, (m3, .inl (cI, 104, .inl (oF sr))), (m5, .inl (cI, 104, .inl (nF g)))]) [0, 1, 2, 3, 4, 5, 6, 7, 8, 9] (by decide) rfl
    have hW8 : ([zO o0 oa i0 m0 nn, zP h a b dn kp oc (le + 1) (ll ||| la) li (dl_1 kp lc kc) (dl_2 kp lc kc) rp, (a, .inl (cI, 40, .inl (nF ch))), zI i0 i1 i2 i3 i4 cn sS lS rS, (i2, .inl (cI, 40, .inl (nF rc))), (i3, .inl (cI, 40, .inl (oF an))), (i4, .inl (cJ, 40, .inr (.inl dp))), zM m0 m1 m2 m3 m4 m5 mn mi, (m3, .inl (cI, 104, .inl (oF sr))), (m5, .inl (cI, 104, .inl (nF g)))] : va_W) = [zO o0 oa i0 m0 nn, zP h a b dn kp oc (le + 1) (ll ||| la) li (dl_1 kp lc kc) (dl_2 kp lc kc) rp, (a, .inl (cI, 40, .inl (nF ch))), zI i0 i1 i2 i3 i4 cn sS lS rS, (i2, .inl (cI, 40, .inl (nF rc))), (i3, .inl (cI, 40, .inl (oF an))), (i4, .inl (cJ, 40, .inr (.inl dp))), zM m0 m1 m2 m3 m4 m5 mn mi, (m3, .inl (cI, 104, .inl (oF sr))), (m5, .inl (cI, 104, .inl (nF (gb_F su (fun i => rc (ch i)) (ko_B sr dp (ll ||| la)) kp (n - kp)))))] := by rw [hI.2.2]
    rw [hW8] at hP8 hD8
    have hP9 := hP8
    have hD9 := hD8
    exact W.iret (v := nI (n - kp)) hx hb hr (fun t ht hW => ⟨⟨_, (), rfl, rfl, by rw [ht]; exact hP9, va_K.moved hW.alike hK, hD9⟩, hS.F ht⟩) hS.2.2 dc_O_learnNext_100
  · have hk : k < n := Nat.lt_of_not_le (fun h9 => hc ((nI_leI (by omega) (by omega)).mpr h9))
    refine lv_aload_n hx hb dc_O_learnNext_62 rfl (lv_at hl 4 rfl) ?_
    refine lv_aload_n hx hb dc_O_learnNext_63 rfl (lv_at hl 3 rfl) ?_
    refine lv_aload_n hx hb dc_O_learnNext_64 rfl (lv_at hl 4 rfl) ?_
    refine va_get (D := (dC, dI)) (ci := 3) (v := .ref i0) (C := cn_O) (T := ft_O) (N := 4) hx hb htb ki_O hown hK hP 0 rfl rfl 1 (by decide) (htb _ kw_140) (fun _ h9 => h9) rfl dc_O_learnNext_65 ?_
    refine va_get (D := (dC, dI)) (ci := 0) (v := .ref i2) (C := cn_I) (T := ft_I) (N := 8) hx hb htb ki_I hown hK hP 3 rfl rfl 1 (by decide) (htb _ kw_75) (fun _ h9 => h9) rfl dc_O_learnNext_68 ?_
    refine lv_aload_n hx hb dc_O_learnNext_71 rfl (lv_at hl 3 rfl) ?_
    refine va_get (D := (dC, dI)) (ci := 2) (v := .ref a) (C := cn_P) (T := ft_P) (N := 11) hx hb htb ki_P hown hK hP 1 rfl rfl 0 (by decide) (htb _ kw_23) (fun _ h9 => h9) rfl dc_O_learnNext_72 ?_
    refine lv_iload hx hb dc_O_learnNext_75 (lv_at hl 0 rfl) ?_
    refine wa_nld (k := k) hx hb hK hP 2 0 rfl rfl (by omega) (by omega) dc_O_learnNext_77 ?_
    refine wa_nld (k := ch k) hx hb hK hP 4 0 rfl rfl (hch k hk) (by omega) dc_O_learnNext_78 ?_
    refine cl_v (wc := [zO o0 oa i0 m0 nn, zP h a b dn n oc (le + 1) (ll ||| la) li lc kc rp, zI i0 i1 i2 i3 i4 cn sS lS rS, (i4, .inl (cJ, 40, .inr (.inl dp))), zM m0 m1 m2 m3 m4 m5 mn mi, (m3, .inl (cI, 104, .inl (oF sr))), (m5, .inl (cI, 104, .inl (nF g)))]) (wr := [(a, .inl (cI, 40, .inl (nF ch))), (i2, .inl (cI, 40, .inl (nF rc))), (i3, .inl (cI, 40, .inl (oF an)))]) (w1 := [zO o0 oa i0 m0 nn, zP h a b dn n oc (le + 1) (ll ||| la) li lc kc rp, zI i0 i1 i2 i3 i4 cn sS lS rS, (i4, .inl (cJ, 40, .inr (.inl dp))), zM m0 m1 m2 m3 m4 m5 mn mi, (m3, .inl (cI, 104, .inl (oF sr))), (m5, .inl (cI, 104, .inl (nF (va_up g (rc (ch k)) (if ko_B sr dp (ll ||| la) (rc (ch k)) then 3 else 0)))))]) hP hD hS hA [0, 1, 3, 6, 7, 8, 9] [2, 4, 5] rfl rfl (by decide) (by decide) (va_runV (As := [.ref h, .int (nI (rc (ch k)))]) (rest := []) ⟨hx, hb, hml, hown, htb⟩ (oc_O_giveBack l dC dI cI cJ cZ cP _ o0 oa i0 m0 nn h a b dn n oc (le + 1) (ll ||| la) li lc kc rp i1 i2 i3 i4 cn sS lS rS m1 m2 m3 m4 m5 mn mi dp sr g (rc (ch k)) (hrc k hk) (hsr _ (hrc k hk))) (cwV 2 htb (gw_V kw_294 kw_296 kp_11 kw_1 kw_297) rfl rfl rfl (by decide +kernel) ⟨Nat.le_of_ble_eq_true rfl, Nat.le_of_ble_eq_true rfl⟩) (pr_V hP hK hD (va_recv hK hP (ci := 3) (q0 := 0) rfl rfl) [0, 1, 3, 6, 7, 8, 9] (by decide) rfl rfl) rfl rfl hl.1 rfl (lv_room (Nat.le_of_ble_eq_true rfl)) dc_O_learnNext_79 ⟨Nat.le_of_ble_eq_true rfl, Nat.le_of_ble_eq_true rfl⟩) (fun H locs hP hD hS => ?_)
    have hP : va_P (dC, dI) clsL [zO o0 oa i0 m0 nn, zP h a b dn n oc (le + 1) (ll ||| la) li lc kc rp, (a, .inl (cI, 40, .inl (nF ch))), zI i0 i1 i2 i3 i4 cn sS lS rS, (i2, .inl (cI, 40, .inl (nF rc))), (i3, .inl (cI, 40, .inl (oF an))), (i4, .inl (cJ, 40, .inr (.inl dp))), zM m0 m1 m2 m3 m4 m5 mn mi, (m3, .inl (cI, 104, .inl (oF sr))), (m5, .inl (cI, 104, .inl (nF (va_up g (rc (ch k)) (if ko_B sr dp (ll ||| la) (rc (ch k)) then 3 else 0)))))] H := hP.sub (ws' := [zO o0 oa i0 m0 nn, zP h a b dn n oc (le + 1) (ll ||| la) li lc kc rp, (a, .inl (cI, 40, .inl (nF ch))), zI i0 i1 i2 i3 i4 cn sS lS rS, (i2, .inl (cI, 40, .inl (nF rc))), (i3, .inl (cI, 40, .inl (oF an))), (i4, .inl (cJ, 40, .inr (.inl dp))), zM m0 m1 m2 m3 m4 m5 mn mi, (m3, .inl (cI, 104, .inl (oF sr))), (m5, .inl (cI, 104, .inl (nF (va_up g (rc (ch k)) (if ko_B sr dp (ll ||| la) (rc (ch k)) then 3 else 0)))))]) [3, 4, 0, 5, 1, 2, 6, 7, 8, 9] rfl
    have hD : va_D A [zO o0 oa i0 m0 nn, zP h a b dn n oc (le + 1) (ll ||| la) li lc kc rp, (a, .inl (cI, 40, .inl (nF ch))), zI i0 i1 i2 i3 i4 cn sS lS rS, (i2, .inl (cI, 40, .inl (nF rc))), (i3, .inl (cI, 40, .inl (oF an))), (i4, .inl (cJ, 40, .inr (.inl dp))), zM m0 m1 m2 m3 m4 m5 mn mi, (m3, .inl (cI, 104, .inl (oF sr))), (m5, .inl (cI, 104, .inl (nF (va_up g (rc (ch k)) (if ko_B sr dp (ll ||| la) (rc (ch k)) then 3 else 0)))))] := hD.sub (ws' := [zO o0 oa i0 m0 nn, zP h a b dn n oc (le + 1) (ll ||| la) li lc kc rp, (a, .inl (cI, 40, .inl (nF ch))), zI i0 i1 i2 i3 i4 cn sS lS rS, (i2, .inl (cI, 40, .inl (nF rc))), (i3, .inl (cI, 40, .inl (oF an))), (i4, .inl (cJ, 40, .inr (.inl dp))), zM m0 m1 m2 m3 m4 m5 mn mi, (m3, .inl (cI, 104, .inl (oF sr))), (m5, .inl (cI, 104, .inl (nF (va_up g (rc (ch k)) (if ko_B sr dp (ll ||| la) (rc (ch k)) then 3 else 0)))))]) [3, 4, 0, 5, 1, 2, 6, 7, 8, 9] (by decide) rfl
    refine lv_iinc (k := 0) (v := nI (k + 1)) (lv' := [(6, .int (nI (k + 1))), (5, .int (nI (n - kp))), (4, .int (nI kp)), (1, .ref h), (0, .ref o0)]) hx hb dc_O_learnNext_82 hl rfl (nI_inc1 _) (by decide) rfl (fun ls hl => ?_)
    refine lv_goto (tgt := 53) hx hb dc_O_learnNext_85 (by decide) ?_
    exact ih (k + 1, (va_up g (rc (ch k)) (if ko_B sr dp (ll ||| la) (rc (ch k)) then 3 else 0))) H locs ls (by first | omega | (dsimp only; omega)) ⟨⟨by first | omega | (dsimp only; omega), by first | omega | (dsimp only; omega), by rw [hI.2.2, show k + 1 - kp = (k - kp) + 1 by omega]; simp [gb_F, show kp + (k - kp) = k by omega]⟩, hP, hD, hS, lv_sub hl [0, 1, 2, 3, 4] rfl⟩

set_option maxHeartbeats 4000000 in
set_option maxRecDepth 100000 in
theorem oc_O_learn_no (l : Launch) (dC : Nat → ClassId) (dI : Nat → Nat → Nat) (cI cJ cZ cP : ClassId) (sz : Nat) (o0 : Nat) (oa : Nat) (i0 : Nat) (m0 : Nat) (nn : Nat) (y : Int32) (hy : y < 0 ∨ nI 3 ≤ y) : mt_I l mn_O_learn bc_O_learn 4 (some .int) ({ frames := 2, cells := 0, slots := 0, locals := 41 }) (dC, dI) (TYS cI cJ cZ cP) sz [.ref o0, .int y] [zO o0 oa i0 m0 nn] [zO o0 oa i0 m0 nn] ((-1)) 0 0 := by
  unfold mt_I
  refine Met.ofW (cc := bc_O_learn) (maxL := 4) (ret := (some .int)) (by decide) rfl ?_
  intro p e s m args below meth c s₁ B hml hv
  obtain ⟨rfl, hsz, hP, hK, hD0⟩ := hv
  have hx := B.exec
  have hb := B.bytes
  have hr := B.returns
  have hts := atoms_spec (ws := wsT mn_O_learn bc_O_learn 4 (some .int)) B.pre
  have htb : ∀ w ∈ gtbl, w.before _ s = true := fun w h => hts w (List.mem_cons_of_mem _ h)
  have hown : s.vm.findClass cn_O = some m.cls := findClass_of_methodNamed B.named
  have hlocks := B.notSynchronized
  subst hsz
  have hD := hD0.self (sz := s.heap.size)
  generalize hAe : va_A [zO o0 oa i0 m0 nn] s.heap.size = A at hD ⊢
  have hA : ∀ q : Nat, s.heap.size ≤ q → A q := fun q h => by rw [← hAe]; exact Or.inr h
  have hS : va_S A s.heap s.heap [] := va_S.rf
  have hP : va_P (dC, dI) clsL [zO o0 oa i0 m0 nn] s.heap := hP
  have hl := lv_entry ([.ref o0, .int y]) (n := 4) (Nat.le_of_ble_eq_true rfl)
  rw [lg_entry_eq]
  generalize (lg_sl ([.ref o0, .int y]) ++ List.replicate (4 - (lg_sl ([.ref o0, .int y])).length) Slot.unset).toArray = ls at hl ⊢
  have hl : lv_has ls 4 [(0, .ref o0), (1, .int y)] := hl
  refine lv_aload_n hx hb dc_O_learn_0 rfl (lv_at hl 0 rfl) ?_
  refine lv_iload_n hx hb dc_O_learn_1 rfl (lv_at hl 1 rfl) ?_
  refine cl_i (wc := [zO o0 oa i0 m0 nn]) (wr := []) (w1 := [zO o0 oa i0 m0 nn]) hP hD hS hA [0] [] rfl rfl (by decide) (by decide) (va_runV (As := [.int y]) (rest := []) ⟨hx, hb, hml, hown, htb⟩ (oc_O_isUp_no l dC dI cI cJ cZ cP _ o0 oa i0 m0 nn y (by first | assumption | omega)) (cwV 1 htb (gw_V kw_246 kw_248 kp_7 kw_1 kw_249) rfl rfl rfl (by decide +kernel) ⟨Nat.le_of_ble_eq_true rfl, Nat.le_of_ble_eq_true rfl⟩) (pr_V hP hK hD (va_recv hK hP (ci := 3) (q0 := 0) rfl rfl) [0] (by decide) rfl rfl) rfl rfl hl.1 rfl (lv_room (Nat.le_of_ble_eq_true rfl)) dc_O_learn_2 ⟨Nat.le_of_ble_eq_true rfl, Nat.le_of_ble_eq_true rfl⟩) (fun H locs hP hD hS => ?_)
  have hP : va_P (dC, dI) clsL [zO o0 oa i0 m0 nn] H := hP.sub (ws' := [zO o0 oa i0 m0 nn]) [0] rfl
  have hD : va_D A [zO o0 oa i0 m0 nn] := hD.sub (ws' := [zO o0 oa i0 m0 nn]) [0] (by decide) rfl
  refine lv_if_eq (tgt := 24) hx hb dc_O_learn_5 (by decide) (fun hc => ?_) (fun hc => ?_)
  rotate_left
  · have h1 : false = true := bI_n0.mp hc
    exact absurd h1 (by decide)
  have h1 : false = false := bI_0.mp hc
  refine lv_iconst (v := (-1)) hx hb dc_O_learn_24 (by decide) ?_
  have hP9 := hP.sub (ws' := [zO o0 oa i0 m0 nn]) [0] rfl
  have hD9 := hD.sub (ws' := [zO o0 oa i0 m0 nn]) [0] (by decide) rfl
  exact W.iret (v := (-1)) hx hb hr (fun t ht hW => ⟨⟨_, (), rfl, rfl, by rw [ht]; exact hP9, va_K.moved hW.alike hK, hD9⟩, hS.F ht⟩) hS.2.2 dc_O_learn_25

set_option maxHeartbeats 4000000 in
set_option maxRecDepth 100000 in
theorem oc_O_learn_dn (l : Launch) (dC : Nat → ClassId) (dI : Nat → Nat → Nat) (cI cJ cZ cP : ClassId) (sz : Nat) (o0 : Nat) (oa : Nat) (i0 : Nat) (m0 : Nat) (nn : Nat) (pf : Nat → Option Nat) (h : Nat) (a : Nat) (b : Nat) (dn : Bool) (n : Nat) (oc : Nat) (le : Nat) (ll : Int64) (li : Int64) (lc : Nat) (kc : Nat) (rp : Int32) (j : Nat) (hj : j < 3) (hf : pf j = some h) (hdn : dn = true) : mt_I l mn_O_learn bc_O_learn 4 (some .int) ({ frames := 2, cells := 0, slots := 0, locals := 41 }) (dC, dI) (TYS cI cJ cZ cP) sz [.ref o0, .int (nI j)] [zO o0 oa i0 m0 nn, (oa, .inl (cP, 3, .inr (.inr (.inr (.inr pf))))), zP h a b dn n oc le ll li lc kc rp] [zO o0 oa i0 m0 nn, (oa, .inl (cP, 3, .inr (.inr (.inr (.inr pf))))), zP h a b dn n oc le ll li lc kc rp] ((-1)) 0 0 := by
  unfold mt_I
  refine Met.ofW (cc := bc_O_learn) (maxL := 4) (ret := (some .int)) (by decide) rfl ?_
  intro p e s m args below meth c s₁ B hml hv
  obtain ⟨rfl, hsz, hP, hK, hD0⟩ := hv
  have hx := B.exec
  have hb := B.bytes
  have hr := B.returns
  have hts := atoms_spec (ws := wsT mn_O_learn bc_O_learn 4 (some .int)) B.pre
  have htb : ∀ w ∈ gtbl, w.before _ s = true := fun w h => hts w (List.mem_cons_of_mem _ h)
  have hown : s.vm.findClass cn_O = some m.cls := findClass_of_methodNamed B.named
  have hlocks := B.notSynchronized
  subst hsz
  have hD := hD0.self (sz := s.heap.size)
  generalize hAe : va_A [zO o0 oa i0 m0 nn, (oa, .inl (cP, 3, .inr (.inr (.inr (.inr pf))))), zP h a b dn n oc le ll li lc kc rp] s.heap.size = A at hD ⊢
  have hA : ∀ q : Nat, s.heap.size ≤ q → A q := fun q h => by rw [← hAe]; exact Or.inr h
  have hS : va_S A s.heap s.heap [] := va_S.rf
  have hP : va_P (dC, dI) clsL [zO o0 oa i0 m0 nn, (oa, .inl (cP, 3, .inr (.inr (.inr (.inr pf))))), zP h a b dn n oc le ll li lc kc rp] s.heap := hP
  have hl := lv_entry ([.ref o0, .int (nI j)]) (n := 4) (Nat.le_of_ble_eq_true rfl)
  rw [lg_entry_eq]
  generalize (lg_sl ([.ref o0, .int (nI j)]) ++ List.replicate (4 - (lg_sl ([.ref o0, .int (nI j)])).length) Slot.unset).toArray = ls at hl ⊢
  have hl : lv_has ls 4 [(0, .ref o0), (1, .int (nI j))] := hl
  refine lv_aload_n hx hb dc_O_learn_0 rfl (lv_at hl 0 rfl) ?_
  refine lv_iload_n hx hb dc_O_learn_1 rfl (lv_at hl 1 rfl) ?_
  refine cl_i (wc := [zO o0 oa i0 m0 nn, (oa, .inl (cP, 3, .inr (.inr (.inr (.inr pf))))), zP h a b dn n oc le ll li lc kc rp]) (wr := []) (w1 := [zO o0 oa i0 m0 nn, (oa, .inl (cP, 3, .inr (.inr (.inr (.inr pf))))), zP h a b dn n oc le ll li lc kc rp]) hP hD hS hA [0, 1, 2] [] rfl rfl (by decide) (by decide) (va_runV (As := [.int (nI j)]) (rest := []) ⟨hx, hb, hml, hown, htb⟩ (oc_O_isUp l dC dI cI cJ cZ cP _ o0 oa i0 m0 nn pf h a b dn n oc le ll li lc kc rp j (by first | assumption | omega) (by first | assumption | omega)) (cwV 1 htb (gw_V kw_246 kw_248 kp_7 kw_1 kw_249) rfl rfl rfl (by decide +kernel) ⟨Nat.le_of_ble_eq_true rfl, Nat.le_of_ble_eq_true rfl⟩) (pr_V hP hK hD (va_recv hK hP (ci := 3) (q0 := 0) rfl rfl) [0, 1, 2] (by decide) rfl rfl) rfl rfl hl.1 rfl (lv_room (Nat.le_of_ble_eq_true rfl)) dc_O_learn_2 ⟨Nat.le_of_ble_eq_true rfl, Nat.le_of_ble_eq_true rfl⟩) (fun H locs hP hD hS => ?_)
  have hP : va_P (dC, dI) clsL [zO o0 oa i0 m0 nn, (oa, .inl (cP, 3, .inr (.inr (.inr (.inr pf))))), zP h a b dn n oc le ll li lc kc rp] H := hP.sub (ws' := [zO o0 oa i0 m0 nn, (oa, .inl (cP, 3, .inr (.inr (.inr (.inr pf))))), zP h a b dn n oc le ll li lc kc rp]) [0, 1, 2] rfl
  have hD : va_D A [zO o0 oa i0 m0 nn, (oa, .inl (cP, 3, .inr (.inr (.inr (.inr pf))))), zP h a b dn n oc le ll li lc kc rp] := hD.sub (ws' := [zO o0 oa i0 m0 nn, (oa, .inl (cP, 3, .inr (.inr (.inr (.inr pf))))), zP h a b dn n oc le ll li lc kc rp]) [0, 1, 2] (by decide) rfl
  refine lv_if_eq (tgt := 24) hx hb dc_O_learn_5 (by decide) (fun hc => ?_) (fun hc => ?_)
  rotate_left
  · have h1 : (!dn) = true := bI_n0.mp hc
    exact absurd h1 (by rw [hdn]; decide)
  have h1 : (!dn) = false := bI_0.mp hc
  refine lv_iconst (v := (-1)) hx hb dc_O_learn_24 (by decide) ?_
  have hP9 := hP.sub (ws' := [zO o0 oa i0 m0 nn, (oa, .inl (cP, 3, .inr (.inr (.inr (.inr pf))))), zP h a b dn n oc le ll li lc kc rp]) [0, 1, 2] rfl
  have hD9 := hD.sub (ws' := [zO o0 oa i0 m0 nn, (oa, .inl (cP, 3, .inr (.inr (.inr (.inr pf))))), zP h a b dn n oc le ll li lc kc rp]) [0, 1, 2] (by decide) rfl
  exact W.iret (v := (-1)) hx hb hr (fun t ht hW => ⟨⟨_, (), rfl, rfl, by rw [ht]; exact hP9, va_K.moved hW.alike hK, hD9⟩, hS.F ht⟩) hS.2.2 dc_O_learn_25

set_option maxHeartbeats 4000000 in
set_option maxRecDepth 100000 in
theorem oc_O_learn_all (l : Launch) (dC : Nat → ClassId) (dI : Nat → Nat → Nat) (cI cJ cZ cP : ClassId) (sz : Nat) (o0 : Nat) (oa : Nat) (i0 : Nat) (m0 : Nat) (nn : Nat) (pf : Nat → Option Nat) (h : Nat) (a : Nat) (b : Nat) (dn : Bool) (n : Nat) (oc : Nat) (le : Nat) (ll : Int64) (li : Int64) (lc : Nat) (kc : Nat) (rp : Int32) (j : Nat) (hj : j < 3) (hf : pf j = some h) (hdn : dn = false) (hnn : nn < 2 ^ 30) (hln : le ≤ nn) (hall : nn ≤ le) : mt_I l mn_O_learn bc_O_learn 4 (some .int) ({ frames := 2, cells := 0, slots := 0, locals := 41 }) (dC, dI) (TYS cI cJ cZ cP) sz [.ref o0, .int (nI j)] [zO o0 oa i0 m0 nn, (oa, .inl (cP, 3, .inr (.inr (.inr (.inr pf))))), zP h a b dn n oc le ll li lc kc rp] [zO o0 oa i0 m0 nn, (oa, .inl (cP, 3, .inr (.inr (.inr (.inr pf))))), zP h a b dn n oc le ll li lc kc rp] ((-1)) 0 0 := by
  unfold mt_I
  refine Met.ofW (cc := bc_O_learn) (maxL := 4) (ret := (some .int)) (by decide) rfl ?_
  intro p e s m args below meth c s₁ B hml hv
  obtain ⟨rfl, hsz, hP, hK, hD0⟩ := hv
  have hx := B.exec
  have hb := B.bytes
  have hr := B.returns
  have hts := atoms_spec (ws := wsT mn_O_learn bc_O_learn 4 (some .int)) B.pre
  have htb : ∀ w ∈ gtbl, w.before _ s = true := fun w h => hts w (List.mem_cons_of_mem _ h)
  have hown : s.vm.findClass cn_O = some m.cls := findClass_of_methodNamed B.named
  have hlocks := B.notSynchronized
  subst hsz
  have hD := hD0.self (sz := s.heap.size)
  generalize hAe : va_A [zO o0 oa i0 m0 nn, (oa, .inl (cP, 3, .inr (.inr (.inr (.inr pf))))), zP h a b dn n oc le ll li lc kc rp] s.heap.size = A at hD ⊢
  have hA : ∀ q : Nat, s.heap.size ≤ q → A q := fun q h => by rw [← hAe]; exact Or.inr h
  have hS : va_S A s.heap s.heap [] := va_S.rf
  have hP : va_P (dC, dI) clsL [zO o0 oa i0 m0 nn, (oa, .inl (cP, 3, .inr (.inr (.inr (.inr pf))))), zP h a b dn n oc le ll li lc kc rp] s.heap := hP
  have hl := lv_entry ([.ref o0, .int (nI j)]) (n := 4) (Nat.le_of_ble_eq_true rfl)
  rw [lg_entry_eq]
  generalize (lg_sl ([.ref o0, .int (nI j)]) ++ List.replicate (4 - (lg_sl ([.ref o0, .int (nI j)])).length) Slot.unset).toArray = ls at hl ⊢
  have hl : lv_has ls 4 [(0, .ref o0), (1, .int (nI j))] := hl
  refine lv_aload_n hx hb dc_O_learn_0 rfl (lv_at hl 0 rfl) ?_
  refine lv_iload_n hx hb dc_O_learn_1 rfl (lv_at hl 1 rfl) ?_
  refine cl_i (wc := [zO o0 oa i0 m0 nn, (oa, .inl (cP, 3, .inr (.inr (.inr (.inr pf))))), zP h a b dn n oc le ll li lc kc rp]) (wr := []) (w1 := [zO o0 oa i0 m0 nn, (oa, .inl (cP, 3, .inr (.inr (.inr (.inr pf))))), zP h a b dn n oc le ll li lc kc rp]) hP hD hS hA [0, 1, 2] [] rfl rfl (by decide) (by decide) (va_runV (As := [.int (nI j)]) (rest := []) ⟨hx, hb, hml, hown, htb⟩ (oc_O_isUp l dC dI cI cJ cZ cP _ o0 oa i0 m0 nn pf h a b dn n oc le ll li lc kc rp j (by first | assumption | omega) (by first | assumption | omega)) (cwV 1 htb (gw_V kw_246 kw_248 kp_7 kw_1 kw_249) rfl rfl rfl (by decide +kernel) ⟨Nat.le_of_ble_eq_true rfl, Nat.le_of_ble_eq_true rfl⟩) (pr_V hP hK hD (va_recv hK hP (ci := 3) (q0 := 0) rfl rfl) [0, 1, 2] (by decide) rfl rfl) rfl rfl hl.1 rfl (lv_room (Nat.le_of_ble_eq_true rfl)) dc_O_learn_2 ⟨Nat.le_of_ble_eq_true rfl, Nat.le_of_ble_eq_true rfl⟩) (fun H locs hP hD hS => ?_)
  have hP : va_P (dC, dI) clsL [zO o0 oa i0 m0 nn, (oa, .inl (cP, 3, .inr (.inr (.inr (.inr pf))))), zP h a b dn n oc le ll li lc kc rp] H := hP.sub (ws' := [zO o0 oa i0 m0 nn, (oa, .inl (cP, 3, .inr (.inr (.inr (.inr pf))))), zP h a b dn n oc le ll li lc kc rp]) [0, 1, 2] rfl
  have hD : va_D A [zO o0 oa i0 m0 nn, (oa, .inl (cP, 3, .inr (.inr (.inr (.inr pf))))), zP h a b dn n oc le ll li lc kc rp] := hD.sub (ws' := [zO o0 oa i0 m0 nn, (oa, .inl (cP, 3, .inr (.inr (.inr (.inr pf))))), zP h a b dn n oc le ll li lc kc rp]) [0, 1, 2] (by decide) rfl
  refine lv_if_eq (tgt := 24) hx hb dc_O_learn_5 (by decide) (fun hc => ?_) (fun hc => ?_)
  · have h1 : (!dn) = false := bI_0.mp hc
    exact absurd h1 (by rw [hdn]; decide)
  have h1 : (!dn) = true := bI_n0.mp hc
  refine lv_aload_n hx hb dc_O_learn_8 rfl (lv_at hl 0 rfl) ?_
  refine va_get (D := (dC, dI)) (ci := 3) (v := .ref oa) (C := cn_O) (T := ft_O) (N := 4) hx hb htb ki_O hown hK hP 0 rfl rfl 0 (by decide) (htb _ kw_139) (fun _ h9 => h9) rfl dc_O_learn_9 ?_
  refine lv_iload_n hx hb dc_O_learn_12 rfl (lv_at hl 1 rfl) ?_
  refine wa_ald hx hb hK hP 1 3 rfl rfl (k := j) (by omega) (by omega) (v := h) (hf) dc_O_learn_13 ?_
  refine va_get (D := (dC, dI)) (ci := 2) (v := .int (nI le)) (C := cn_P) (T := ft_P) (N := 11) hx hb htb ki_P hown hK hP 2 rfl rfl 5 (by decide) (htb _ kw_33) (fun _ h9 => h9) rfl dc_O_learn_14 ?_
  refine lv_aload_n hx hb dc_O_learn_17 rfl (lv_at hl 0 rfl) ?_
  refine va_get (D := (dC, dI)) (ci := 3) (v := .int (nI nn)) (C := cn_O) (T := ft_O) (N := 4) hx hb htb ki_O hown hK hP 0 rfl rfl 3 (by decide) (htb _ kw_142) (fun _ h9 => h9) rfl dc_O_learn_18 ?_
  refine lv_icmp_lt (tgt := 26) hx hb dc_O_learn_21 (by decide) (fun hc => ?_) (fun hc => ?_)
  · have h2 : le < nn := (nI_ltI (by omega) (by omega)).mp hc
    exact absurd h2 (by omega)
  have h2 : nn ≤ le := Nat.le_of_not_lt (fun h9 => hc ((nI_ltI (by omega) (by omega)).mpr h9))
  refine lv_iconst (v := (-1)) hx hb dc_O_learn_24 (by decide) ?_
  have hP9 := hP.sub (ws' := [zO o0 oa i0 m0 nn, (oa, .inl (cP, 3, .inr (.inr (.inr (.inr pf))))), zP h a b dn n oc le ll li lc kc rp]) [0, 1, 2] rfl
  have hD9 := hD.sub (ws' := [zO o0 oa i0 m0 nn, (oa, .inl (cP, 3, .inr (.inr (.inr (.inr pf))))), zP h a b dn n oc le ll li lc kc rp]) [0, 1, 2] (by decide) rfl
  exact W.iret (v := (-1)) hx hb hr (fun t ht hW => ⟨⟨_, (), rfl, rfl, by rw [ht]; exact hP9, va_K.moved hW.alike hK, hD9⟩, hS.F ht⟩) hS.2.2 dc_O_learn_25

set_option maxHeartbeats 4000000 in
set_option maxRecDepth 100000 in
theorem oc_O_learn_0 (l : Launch) (dC : Nat → ClassId) (dI : Nat → Nat → Nat) (cI cJ cZ cP : ClassId) (sz : Nat) (o0 : Nat) (oa : Nat) (i0 : Nat) (m0 : Nat) (nn : Nat) (pf : Nat → Option Nat) (h : Nat) (a : Nat) (b : Nat) (dn : Bool) (n : Nat) (oc : Nat) (le : Nat) (ll : Int64) (li : Int64) (lc : Nat) (kc : Nat) (rp : Int32) (i1 : Nat) (i2 : Nat) (i3 : Nat) (i4 : Nat) (cn : Nat) (sS : Int64) (lS : Int64) (rS : Int64) (m1 : Nat) (m2 : Nat) (m3 : Nat) (m4 : Nat) (m5 : Nat) (mn : Nat) (mi : Nat) (ch : Nat → Nat) (rc : Nat → Nat) (an : Nat → Option Nat) (dp : Nat → Int64) (sr : Nat → Option Nat) (su : Nat → Nat) (kp : Nat) (la : Int64) (j : Nat) (hj : j < 3) (hf : pf j = some h) (hdn : dn = false) (hnn : nn < 2 ^ 30) (hln : le ≤ nn) (hlt : le < nn) (h0 : n - kp = 0) (hn : n ≤ 40) (hch : ∀ k, k < n → ch k < 40) (hrc : ∀ i, i < n → rc (ch i) < 104) (hsr : ∀ q, q < 104 → ∀ i, sr q = some i → i < 40) (hcn : cn ≤ 40) (han : ∀ k, k < cn → ∀ i, an k = some i → i < 2 ^ 31) (hlc : lc ≤ 40) (hkc : kc ≤ 40) (hla : ab_S an le cn = la) (hkp : fo_N (hb_B dp ch la) n 0 = kp) : mt_I l mn_O_learn bc_O_learn 4 (some .int) ({ frames := 4, cells := 0, slots := 0, locals := 92 }) (dC, dI) (TYS cI cJ cZ cP) sz [.ref o0, .int (nI j)] [zO o0 oa i0 m0 nn, (oa, .inl (cP, 3, .inr (.inr (.inr (.inr pf))))), zP h a b dn n oc le ll li lc kc rp, (a, .inl (cI, 40, .inl (nF ch))), zI i0 i1 i2 i3 i4 cn sS lS rS, (i2, .inl (cI, 40, .inl (nF rc))), (i3, .inl (cI, 40, .inl (oF an))), (i4, .inl (cJ, 40, .inr (.inl dp))), zM m0 m1 m2 m3 m4 m5 mn mi, (m3, .inl (cI, 104, .inl (oF sr))), (m5, .inl (cI, 104, .inl (nF su)))] [zO o0 oa i0 m0 nn, (oa, .inl (cP, 3, .inr (.inr (.inr (.inr pf))))), zP h a b dn kp oc (le + 1) (ll ||| la) li (dl_1 kp lc kc) (dl_2 kp lc kc) rp, (a, .inl (cI, 40, .inl (nF ch))), zI i0 i1 i2 i3 i4 cn sS lS rS, (i2, .inl (cI, 40, .inl (nF rc))), (i3, .inl (cI, 40, .inl (oF an))), (i4, .inl (cJ, 40, .inr (.inl dp))), zM m0 m1 m2 m3 m4 m5 mn mi, (m3, .inl (cI, 104, .inl (oF sr))), (m5, .inl (cI, 104, .inl (nF (gb_F su (fun i => rc (ch i)) (ko_B sr dp (ll ||| la)) kp (n - kp)))))] (nI (n - kp)) 0 0 := by
  unfold mt_I
  refine Met.ofW (cc := bc_O_learn) (maxL := 4) (ret := (some .int)) (by decide) rfl ?_
  intro p e s m args below meth c s₁ B hml hv
  obtain ⟨rfl, hsz, hP, hK, hD0⟩ := hv
  have hx := B.exec
  have hb := B.bytes
  have hr := B.returns
  have hts := atoms_spec (ws := wsT mn_O_learn bc_O_learn 4 (some .int)) B.pre
  have htb : ∀ w ∈ gtbl, w.before _ s = true := fun w h => hts w (List.mem_cons_of_mem _ h)
  have hown : s.vm.findClass cn_O = some m.cls := findClass_of_methodNamed B.named
  have hlocks := B.notSynchronized
  subst hsz
  have hD := hD0.self (sz := s.heap.size)
  generalize hAe : va_A [zO o0 oa i0 m0 nn, (oa, .inl (cP, 3, .inr (.inr (.inr (.inr pf))))), zP h a b dn n oc le ll li lc kc rp, (a, .inl (cI, 40, .inl (nF ch))), zI i0 i1 i2 i3 i4 cn sS lS rS, (i2, .inl (cI, 40, .inl (nF rc))), (i3, .inl (cI, 40, .inl (oF an))), (i4, .inl (cJ, 40, .inr (.inl dp))), zM m0 m1 m2 m3 m4 m5 mn mi, (m3, .inl (cI, 104, .inl (oF sr))), (m5, .inl (cI, 104, .inl (nF su)))] s.heap.size = A at hD ⊢
  have hA : ∀ q : Nat, s.heap.size ≤ q → A q := fun q h => by rw [← hAe]; exact Or.inr h
  have hS : va_S A s.heap s.heap [] := va_S.rf
  have hP : va_P (dC, dI) clsL [zO o0 oa i0 m0 nn, (oa, .inl (cP, 3, .inr (.inr (.inr (.inr pf))))), zP h a b dn n oc le ll li lc kc rp, (a, .inl (cI, 40, .inl (nF ch))), zI i0 i1 i2 i3 i4 cn sS lS rS, (i2, .inl (cI, 40, .inl (nF rc))), (i3, .inl (cI, 40, .inl (oF an))), (i4, .inl (cJ, 40, .inr (.inl dp))), zM m0 m1 m2 m3 m4 m5 mn mi, (m3, .inl (cI, 104, .inl (oF sr))), (m5, .inl (cI, 104, .inl (nF su)))] s.heap := hP
  have hl := lv_entry ([.ref o0, .int (nI j)]) (n := 4) (Nat.le_of_ble_eq_true rfl)
  rw [lg_entry_eq]
  generalize (lg_sl ([.ref o0, .int (nI j)]) ++ List.replicate (4 - (lg_sl ([.ref o0, .int (nI j)])).length) Slot.unset).toArray = ls at hl ⊢
  have hl : lv_has ls 4 [(0, .ref o0), (1, .int (nI j))] := hl
  refine lv_aload_n hx hb dc_O_learn_0 rfl (lv_at hl 0 rfl) ?_
  refine lv_iload_n hx hb dc_O_learn_1 rfl (lv_at hl 1 rfl) ?_
  refine cl_i (wc := [zO o0 oa i0 m0 nn, (oa, .inl (cP, 3, .inr (.inr (.inr (.inr pf))))), zP h a b dn n oc le ll li lc kc rp]) (wr := [(a, .inl (cI, 40, .inl (nF ch))), zI i0 i1 i2 i3 i4 cn sS lS rS, (i2, .inl (cI, 40, .inl (nF rc))), (i3, .inl (cI, 40, .inl (oF an))), (i4, .inl (cJ, 40, .inr (.inl dp))), zM m0 m1 m2 m3 m4 m5 mn mi, (m3, .inl (cI, 104, .inl (oF sr))), (m5, .inl (cI, 104, .inl (nF su)))]) (w1 := [zO o0 oa i0 m0 nn, (oa, .inl (cP, 3, .inr (.inr (.inr (.inr pf))))), zP h a b dn n oc le ll li lc kc rp]) hP hD hS hA [0, 1, 2] [3, 4, 5, 6, 7, 8, 9, 10] rfl rfl (by decide) (by decide) (va_runV (As := [.int (nI j)]) (rest := []) ⟨hx, hb, hml, hown, htb⟩ (oc_O_isUp l dC dI cI cJ cZ cP _ o0 oa i0 m0 nn pf h a b dn n oc le ll li lc kc rp j (by first | assumption | omega) (by first | assumption | omega)) (cwV 1 htb (gw_V kw_246 kw_248 kp_7 kw_1 kw_249) rfl rfl rfl (by decide +kernel) ⟨Nat.le_of_ble_eq_true rfl, Nat.le_of_ble_eq_true rfl⟩) (pr_V hP hK hD (va_recv hK hP (ci := 3) (q0 := 0) rfl rfl) [0, 1, 2] (by decide) rfl rfl) rfl rfl hl.1 rfl (lv_room (Nat.le_of_ble_eq_true rfl)) dc_O_learn_2 ⟨Nat.le_of_ble_eq_true rfl, Nat.le_of_ble_eq_true rfl⟩) (fun H locs hP hD hS => ?_)
  have hP : va_P (dC, dI) clsL [zO o0 oa i0 m0 nn, (oa, .inl (cP, 3, .inr (.inr (.inr (.inr pf))))), zP h a b dn n oc le ll li lc kc rp, (a, .inl (cI, 40, .inl (nF ch))), zI i0 i1 i2 i3 i4 cn sS lS rS, (i2, .inl (cI, 40, .inl (nF rc))), (i3, .inl (cI, 40, .inl (oF an))), (i4, .inl (cJ, 40, .inr (.inl dp))), zM m0 m1 m2 m3 m4 m5 mn mi, (m3, .inl (cI, 104, .inl (oF sr))), (m5, .inl (cI, 104, .inl (nF su)))] H := hP.sub (ws' := [zO o0 oa i0 m0 nn, (oa, .inl (cP, 3, .inr (.inr (.inr (.inr pf))))), zP h a b dn n oc le ll li lc kc rp, (a, .inl (cI, 40, .inl (nF ch))), zI i0 i1 i2 i3 i4 cn sS lS rS, (i2, .inl (cI, 40, .inl (nF rc))), (i3, .inl (cI, 40, .inl (oF an))), (i4, .inl (cJ, 40, .inr (.inl dp))), zM m0 m1 m2 m3 m4 m5 mn mi, (m3, .inl (cI, 104, .inl (oF sr))), (m5, .inl (cI, 104, .inl (nF su)))]) [8, 9, 10, 0, 1, 2, 3, 4, 5, 6, 7] rfl
  have hD : va_D A [zO o0 oa i0 m0 nn, (oa, .inl (cP, 3, .inr (.inr (.inr (.inr pf))))), zP h a b dn n oc le ll li lc kc rp, (a, .inl (cI, 40, .inl (nF ch))), zI i0 i1 i2 i3 i4 cn sS lS rS, (i2, .inl (cI, 40, .inl (nF rc))), (i3, .inl (cI, 40, .inl (oF an))), (i4, .inl (cJ, 40, .inr (.inl dp))), zM m0 m1 m2 m3 m4 m5 mn mi, (m3, .inl (cI, 104, .inl (oF sr))), (m5, .inl (cI, 104, .inl (nF su)))] := hD.sub (ws' := [zO o0 oa i0 m0 nn, (oa, .inl (cP, 3, .inr (.inr (.inr (.inr pf))))), zP h a b dn n oc le ll li lc kc rp, (a, .inl (cI, 40, .inl (nF ch))), zI i0 i1 i2 i3 i4 cn sS lS rS, (i2, .inl (cI, 40, .inl (nF rc))), (i3, .inl (cI, 40, .inl (oF an))), (i4, .inl (cJ, 40, .inr (.inl dp))), zM m0 m1 m2 m3 m4 m5 mn mi, (m3, .inl (cI, 104, .inl (oF sr))), (m5, .inl (cI, 104, .inl (nF su)))]) [8, 9, 10, 0, 1, 2, 3, 4, 5, 6, 7] (by decide) rfl
  refine lv_if_eq (tgt := 24) hx hb dc_O_learn_5 (by decide) (fun hc => ?_) (fun hc => ?_)
  · have h1 : (!dn) = false := bI_0.mp hc
    exact absurd h1 (by rw [hdn]; decide)
  have h1 : (!dn) = true := bI_n0.mp hc
  refine lv_aload_n hx hb dc_O_learn_8 rfl (lv_at hl 0 rfl) ?_
  refine va_get (D := (dC, dI)) (ci := 3) (v := .ref oa) (C := cn_O) (T := ft_O) (N := 4) hx hb htb ki_O hown hK hP 0 rfl rfl 0 (by decide) (htb _ kw_139) (fun _ h9 => h9) rfl dc_O_learn_9 ?_
  refine lv_iload_n hx hb dc_O_learn_12 rfl (lv_at hl 1 rfl) ?_
  refine wa_ald hx hb hK hP 1 3 rfl rfl (k := j) (by omega) (by omega) (v := h) (hf) dc_O_learn_13 ?_
  refine va_get (D := (dC, dI)) (ci := 2) (v := .int (nI le)) (C := cn_P) (T := ft_P) (N := 11) hx hb htb ki_P hown hK hP 2 rfl rfl 5 (by decide) (htb _ kw_33) (fun _ h9 => h9) rfl dc_O_learn_14 ?_
  refine lv_aload_n hx hb dc_O_learn_17 rfl (lv_at hl 0 rfl) ?_
  refine va_get (D := (dC, dI)) (ci := 3) (v := .int (nI nn)) (C := cn_O) (T := ft_O) (N := 4) hx hb htb ki_O hown hK hP 0 rfl rfl 3 (by decide) (htb _ kw_142) (fun _ h9 => h9) rfl dc_O_learn_18 ?_
  refine lv_icmp_lt (tgt := 26) hx hb dc_O_learn_21 (by decide) (fun hc => ?_) (fun hc => ?_)
  rotate_left
  · have h2 : nn ≤ le := Nat.le_of_not_lt (fun h9 => hc ((nI_ltI (by omega) (by omega)).mpr h9))
    exact absurd h2 (by omega)
  have h2 : le < nn := (nI_ltI (by omega) (by omega)).mp hc
  refine lv_aload_n hx hb dc_O_learn_26 rfl (lv_at hl 0 rfl) ?_
  refine va_get (D := (dC, dI)) (ci := 3) (v := .ref oa) (C := cn_O) (T := ft_O) (N := 4) hx hb htb ki_O hown hK hP 0 rfl rfl 0 (by decide) (htb _ kw_139) (fun _ h9 => h9) rfl dc_O_learn_27 ?_
  refine lv_iload_n hx hb dc_O_learn_30 rfl (lv_at hl 1 rfl) ?_
  refine wa_ald hx hb hK hP 1 3 rfl rfl (k := j) (by omega) (by omega) (v := h) (hf) dc_O_learn_31 ?_
  refine lv_astore_n (lv' := [(2, .ref h), (0, .ref o0), (1, .int (nI j))]) hx hb dc_O_learn_32 rfl hl (by decide) rfl (fun ls hl => ?_)
  refine lv_aload_n hx hb dc_O_learn_33 rfl (lv_at hl 1 rfl) ?_
  refine lv_aload_n hx hb dc_O_learn_34 rfl (lv_at hl 0 rfl) ?_
  refine cl_i (wc := [zO o0 oa i0 m0 nn, zP h a b dn n oc le ll li lc kc rp, (a, .inl (cI, 40, .inl (nF ch))), zI i0 i1 i2 i3 i4 cn sS lS rS, (i2, .inl (cI, 40, .inl (nF rc))), (i3, .inl (cI, 40, .inl (oF an))), (i4, .inl (cJ, 40, .inr (.inl dp))), zM m0 m1 m2 m3 m4 m5 mn mi, (m3, .inl (cI, 104, .inl (oF sr))), (m5, .inl (cI, 104, .inl (nF su)))]) (wr := [(oa, .inl (cP, 3, .inr (.inr (.inr (.inr pf)))))]) (w1 := [zO o0 oa i0 m0 nn, zP h a b dn kp oc (le + 1) (ll ||| la) li (dl_1 kp lc kc) (dl_2 kp lc kc) rp, (a, .inl (cI, 40, .inl (nF ch))), zI i0 i1 i2 i3 i4 cn sS lS rS, (i2, .inl (cI, 40, .inl (nF rc))), (i3, .inl (cI, 40, .inl (oF an))), (i4, .inl (cJ, 40, .inr (.inl dp))), zM m0 m1 m2 m3 m4 m5 mn mi, (m3, .inl (cI, 104, .inl (oF sr))), (m5, .inl (cI, 104, .inl (nF (gb_F su (fun i => rc (ch i)) (ko_B sr dp (ll ||| la)) kp (n - kp)))))]) hP hD hS hA [0, 2, 3, 4, 5, 6, 7, 8, 9, 10] [1] rfl rfl (by decide) (by decide) (va_runV (As := [.ref h]) (rest := []) ⟨hx, hb, hml, hown, htb⟩ (oc_O_learnNext l dC dI cI cJ cZ cP _ o0 oa i0 m0 nn h a b dn n oc le ll li lc kc rp i1 i2 i3 i4 cn sS lS rS m1 m2 m3 m4 m5 mn mi ch rc an dp sr su kp la hn hch hrc hsr hcn (by omega) han hlc hkc hla hkp) (cwV 1 htb (gw_V kw_282 kw_284 kp_9 kw_1 kw_285) rfl rfl rfl (by decide +kernel) ⟨Nat.le_of_ble_eq_true rfl, Nat.le_of_ble_eq_true rfl⟩) (pr_V hP hK hD (va_recv hK hP (ci := 3) (q0 := 0) rfl rfl) [0, 2, 3, 4, 5, 6, 7, 8, 9, 10] (by decide) rfl rfl) rfl rfl hl.1 rfl (lv_room (Nat.le_of_ble_eq_true rfl)) dc_O_learn_35 ⟨Nat.le_of_ble_eq_true rfl, Nat.le_of_ble_eq_true rfl⟩) (fun H locs hP hD hS => ?_)
  have hP : va_P (dC, dI) clsL [zO o0 oa i0 m0 nn, (oa, .inl (cP, 3, .inr (.inr (.inr (.inr pf))))), zP h a b dn kp oc (le + 1) (ll ||| la) li (dl_1 kp lc kc) (dl_2 kp lc kc) rp, (a, .inl (cI, 40, .inl (nF ch))), zI i0 i1 i2 i3 i4 cn sS lS rS, (i2, .inl (cI, 40, .inl (nF rc))), (i3, .inl (cI, 40, .inl (oF an))), (i4, .inl (cJ, 40, .inr (.inl dp))), zM m0 m1 m2 m3 m4 m5 mn mi, (m3, .inl (cI, 104, .inl (oF sr))), (m5, .inl (cI, 104, .inl (nF (gb_F su (fun i => rc (ch i)) (ko_B sr dp (ll ||| la)) kp (n - kp)))))] H := hP.sub (ws' := [zO o0 oa i0 m0 nn, (oa, .inl (cP, 3, .inr (.inr (.inr (.inr pf))))), zP h a b dn kp oc (le + 1) (ll ||| la) li (dl_1 kp lc kc) (dl_2 kp lc kc) rp, (a, .inl (cI, 40, .inl (nF ch))), zI i0 i1 i2 i3 i4 cn sS lS rS, (i2, .inl (cI, 40, .inl (nF rc))), (i3, .inl (cI, 40, .inl (oF an))), (i4, .inl (cJ, 40, .inr (.inl dp))), zM m0 m1 m2 m3 m4 m5 mn mi, (m3, .inl (cI, 104, .inl (oF sr))), (m5, .inl (cI, 104, .inl (nF (gb_F su (fun i => rc (ch i)) (ko_B sr dp (ll ||| la)) kp (n - kp)))))]) [1, 0, 2, 3, 4, 5, 6, 7, 8, 9, 10] rfl
  have hD : va_D A [zO o0 oa i0 m0 nn, (oa, .inl (cP, 3, .inr (.inr (.inr (.inr pf))))), zP h a b dn kp oc (le + 1) (ll ||| la) li (dl_1 kp lc kc) (dl_2 kp lc kc) rp, (a, .inl (cI, 40, .inl (nF ch))), zI i0 i1 i2 i3 i4 cn sS lS rS, (i2, .inl (cI, 40, .inl (nF rc))), (i3, .inl (cI, 40, .inl (oF an))), (i4, .inl (cJ, 40, .inr (.inl dp))), zM m0 m1 m2 m3 m4 m5 mn mi, (m3, .inl (cI, 104, .inl (oF sr))), (m5, .inl (cI, 104, .inl (nF (gb_F su (fun i => rc (ch i)) (ko_B sr dp (ll ||| la)) kp (n - kp)))))] := hD.sub (ws' := [zO o0 oa i0 m0 nn, (oa, .inl (cP, 3, .inr (.inr (.inr (.inr pf))))), zP h a b dn kp oc (le + 1) (ll ||| la) li (dl_1 kp lc kc) (dl_2 kp lc kc) rp, (a, .inl (cI, 40, .inl (nF ch))), zI i0 i1 i2 i3 i4 cn sS lS rS, (i2, .inl (cI, 40, .inl (nF rc))), (i3, .inl (cI, 40, .inl (oF an))), (i4, .inl (cJ, 40, .inr (.inl dp))), zM m0 m1 m2 m3 m4 m5 mn mi, (m3, .inl (cI, 104, .inl (oF sr))), (m5, .inl (cI, 104, .inl (nF (gb_F su (fun i => rc (ch i)) (ko_B sr dp (ll ||| la)) kp (n - kp)))))]) [1, 0, 2, 3, 4, 5, 6, 7, 8, 9, 10] (by decide) rfl
  refine lv_istore_n (lv' := [(3, .int (nI (n - kp))), (2, .ref h), (0, .ref o0), (1, .int (nI j))]) hx hb dc_O_learn_38 rfl hl (by decide) rfl (fun ls hl => ?_)
  refine lv_iload_n hx hb dc_O_learn_39 rfl (lv_at hl 0 rfl) ?_
  refine lv_if_le (tgt := 47) hx hb dc_O_learn_40 (by decide) (fun hc => ?_) (fun hc => ?_)
  rotate_left
  · have h3 : 0 < (n - kp) := Nat.pos_of_ne_zero (fun h9 => hc ((nI_leI (b := 0) (by omega) (by omega)).mpr (Nat.le_of_eq h9)))
    exact absurd h3 (by omega)
  have h3 : (n - kp) = 0 := Nat.le_zero.mp ((nI_leI (b := 0) (by omega) (by omega)).mp hc)
  refine lv_iload_n hx hb dc_O_learn_47 rfl (lv_at hl 0 rfl) ?_
  have hP9 := hP.sub (ws' := [zO o0 oa i0 m0 nn, (oa, .inl (cP, 3, .inr (.inr (.inr (.inr pf))))), zP h a b dn kp oc (le + 1) (ll ||| la) li (dl_1 kp lc kc) (dl_2 kp lc kc) rp, (a, .inl (cI, 40, .inl (nF ch))), zI i0 i1 i2 i3 i4 cn sS lS rS, (i2, .inl (cI, 40, .inl (nF rc))), (i3, .inl (cI, 40, .inl (oF an))), (i4, .inl (cJ, 40, .inr (.inl dp))), zM m0 m1 m2 m3 m4 m5 mn mi, (m3, .inl (cI, 104, .inl (oF sr))), (m5, .inl (cI, 104, .inl (nF (gb_F su (fun i => rc (ch i)) (ko_B sr dp (ll ||| la)) kp (n - kp)))))]) [0, 1, 2, 3, 4, 5, 6, 7, 8, 9, 10] rfl
  have hD9 := hD.sub (ws' := [zO o0 oa i0 m0 nn, (oa, .inl (cP, 3, .inr (.inr (.inr (.inr pf))))), zP h a b dn kp oc (le + 1) (ll ||| la) li (dl_1 kp lc kc) (dl_2 kp lc kc) rp, (a, .inl (cI, 40, .inl (nF ch))), zI i0 i1 i2 i3 i4 cn sS lS rS, (i2, .inl (cI, 40, .inl (nF rc))), (i3, .inl (cI, 40, .inl (oF an))), (i4, .inl (cJ, 40, .inr (.inl dp))), zM m0 m1 m2 m3 m4 m5 mn mi, (m3, .inl (cI, 104, .inl (oF sr))), (m5, .inl (cI, 104, .inl (nF (gb_F su (fun i => rc (ch i)) (ko_B sr dp (ll ||| la)) kp (n - kp)))))]) [0, 1, 2, 3, 4, 5, 6, 7, 8, 9, 10] (by decide) rfl
  exact W.iret (v := nI (n - kp)) hx hb hr (fun t ht hW => ⟨⟨_, (), rfl, rfl, by rw [ht]; exact hP9, va_K.moved hW.alike hK, hD9⟩, hS.F ht⟩) hS.2.2 dc_O_learn_48

set_option maxHeartbeats 4000000 in
set_option maxRecDepth 100000 in
theorem oc_O_learn (l : Launch) (dC : Nat → ClassId) (dI : Nat → Nat → Nat) (cI cJ cZ cP : ClassId) (sz : Nat) (o0 : Nat) (oa : Nat) (i0 : Nat) (m0 : Nat) (nn : Nat) (pf : Nat → Option Nat) (h : Nat) (a : Nat) (b : Nat) (dn : Bool) (n : Nat) (oc : Nat) (le : Nat) (ll : Int64) (li : Int64) (lc : Nat) (kc : Nat) (rp : Int32) (i1 : Nat) (i2 : Nat) (i3 : Nat) (i4 : Nat) (cn : Nat) (sS : Int64) (lS : Int64) (rS : Int64) (m1 : Nat) (m2 : Nat) (m3 : Nat) (m4 : Nat) (m5 : Nat) (mn : Nat) (mi : Nat) (ch : Nat → Nat) (rc : Nat → Nat) (an : Nat → Option Nat) (dp : Nat → Int64) (sr : Nat → Option Nat) (su : Nat → Nat) (kp : Nat) (la : Int64) (j : Nat) (hj : j < 3) (hf : pf j = some h) (hdn : dn = false) (hnn : nn < 2 ^ 30) (hln : le ≤ nn) (hlt : le < nn) (h0 : 0 < n - kp) (hn : n ≤ 40) (hch : ∀ k, k < n → ch k < 40) (hrc : ∀ i, i < n → rc (ch i) < 104) (hsr : ∀ q, q < 104 → ∀ i, sr q = some i → i < 40) (hcn : cn ≤ 40) (han : ∀ k, k < cn → ∀ i, an k = some i → i < 2 ^ 31) (hlc : lc ≤ 40) (hkc : kc ≤ 40) (hla : ab_S an le cn = la) (hkp : fo_N (hb_B dp ch la) n 0 = kp) : mt_I l mn_O_learn bc_O_learn 4 (some .int) ({ frames := 4, cells := 0, slots := 0, locals := 92 }) (dC, dI) (TYS cI cJ cZ cP) sz [.ref o0, .int (nI j)] [zO o0 oa i0 m0 nn, (oa, .inl (cP, 3, .inr (.inr (.inr (.inr pf))))), zP h a b dn n oc le ll li lc kc rp, (a, .inl (cI, 40, .inl (nF ch))), zI i0 i1 i2 i3 i4 cn sS lS rS, (i2, .inl (cI, 40, .inl (nF rc))), (i3, .inl (cI, 40, .inl (oF an))), (i4, .inl (cJ, 40, .inr (.inl dp))), zM m0 m1 m2 m3 m4 m5 mn mi, (m3, .inl (cI, 104, .inl (oF sr))), (m5, .inl (cI, 104, .inl (nF su)))] [zO o0 oa i0 m0 nn, (oa, .inl (cP, 3, .inr (.inr (.inr (.inr pf))))), zP h a b dn kp oc (le + 1) (ll ||| la) li (dl_1 kp lc kc) (dl_2 kp lc kc) (rp + (nI kp - nI (dl_1 kp lc kc))), (a, .inl (cI, 40, .inl (nF ch))), zI i0 i1 i2 i3 i4 cn sS lS rS, (i2, .inl (cI, 40, .inl (nF rc))), (i3, .inl (cI, 40, .inl (oF an))), (i4, .inl (cJ, 40, .inr (.inl dp))), zM m0 m1 m2 m3 m4 m5 mn mi, (m3, .inl (cI, 104, .inl (oF sr))), (m5, .inl (cI, 104, .inl (nF (gb_F su (fun i => rc (ch i)) (ko_B sr dp (ll ||| la)) kp (n - kp)))))] (nI (n - kp)) 0 0 := by
  unfold mt_I
  refine Met.ofW (cc := bc_O_learn) (maxL := 4) (ret := (some .int)) (by decide) rfl ?_
  intro p e s m args below meth c s₁ B hml hv
  obtain ⟨rfl, hsz, hP, hK, hD0⟩ := hv
  have hx := B.exec
  have hb := B.bytes
  have hr := B.returns
  have hts := atoms_spec (ws := wsT mn_O_learn bc_O_learn 4 (some .int)) B.pre
  have htb : ∀ w ∈ gtbl, w.before _ s = true := fun w h => hts w (List.mem_cons_of_mem _ h)
  have hown : s.vm.findClass cn_O = some m.cls := findClass_of_methodNamed B.named
  have hlocks := B.notSynchronized
  subst hsz
  have hD := hD0.self (sz := s.heap.size)
  generalize hAe : va_A [zO o0 oa i0 m0 nn, (oa, .inl (cP, 3, .inr (.inr (.inr (.inr pf))))), zP h a b dn n oc le ll li lc kc rp, (a, .inl (cI, 40, .inl (nF ch))), zI i0 i1 i2 i3 i4 cn sS lS rS, (i2, .inl (cI, 40, .inl (nF rc))), (i3, .inl (cI, 40, .inl (oF an))), (i4, .inl (cJ, 40, .inr (.inl dp))), zM m0 m1 m2 m3 m4 m5 mn mi, (m3, .inl (cI, 104, .inl (oF sr))), (m5, .inl (cI, 104, .inl (nF su)))] s.heap.size = A at hD ⊢
  have hA : ∀ q : Nat, s.heap.size ≤ q → A q := fun q h => by rw [← hAe]; exact Or.inr h
  have hS : va_S A s.heap s.heap [] := va_S.rf
  have hP : va_P (dC, dI) clsL [zO o0 oa i0 m0 nn, (oa, .inl (cP, 3, .inr (.inr (.inr (.inr pf))))), zP h a b dn n oc le ll li lc kc rp, (a, .inl (cI, 40, .inl (nF ch))), zI i0 i1 i2 i3 i4 cn sS lS rS, (i2, .inl (cI, 40, .inl (nF rc))), (i3, .inl (cI, 40, .inl (oF an))), (i4, .inl (cJ, 40, .inr (.inl dp))), zM m0 m1 m2 m3 m4 m5 mn mi, (m3, .inl (cI, 104, .inl (oF sr))), (m5, .inl (cI, 104, .inl (nF su)))] s.heap := hP
  have hl := lv_entry ([.ref o0, .int (nI j)]) (n := 4) (Nat.le_of_ble_eq_true rfl)
  rw [lg_entry_eq]
  generalize (lg_sl ([.ref o0, .int (nI j)]) ++ List.replicate (4 - (lg_sl ([.ref o0, .int (nI j)])).length) Slot.unset).toArray = ls at hl ⊢
  have hl : lv_has ls 4 [(0, .ref o0), (1, .int (nI j))] := hl
  refine lv_aload_n hx hb dc_O_learn_0 rfl (lv_at hl 0 rfl) ?_
  refine lv_iload_n hx hb dc_O_learn_1 rfl (lv_at hl 1 rfl) ?_
  refine cl_i (wc := [zO o0 oa i0 m0 nn, (oa, .inl (cP, 3, .inr (.inr (.inr (.inr pf))))), zP h a b dn n oc le ll li lc kc rp]) (wr := [(a, .inl (cI, 40, .inl (nF ch))), zI i0 i1 i2 i3 i4 cn sS lS rS, (i2, .inl (cI, 40, .inl (nF rc))), (i3, .inl (cI, 40, .inl (oF an))), (i4, .inl (cJ, 40, .inr (.inl dp))), zM m0 m1 m2 m3 m4 m5 mn mi, (m3, .inl (cI, 104, .inl (oF sr))), (m5, .inl (cI, 104, .inl (nF su)))]) (w1 := [zO o0 oa i0 m0 nn, (oa, .inl (cP, 3, .inr (.inr (.inr (.inr pf))))), zP h a b dn n oc le ll li lc kc rp]) hP hD hS hA [0, 1, 2] [3, 4, 5, 6, 7, 8, 9, 10] rfl rfl (by decide) (by decide) (va_runV (As := [.int (nI j)]) (rest := []) ⟨hx, hb, hml, hown, htb⟩ (oc_O_isUp l dC dI cI cJ cZ cP _ o0 oa i0 m0 nn pf h a b dn n oc le ll li lc kc rp j (by first | assumption | omega) (by first | assumption | omega)) (cwV 1 htb (gw_V kw_246 kw_248 kp_7 kw_1 kw_249) rfl rfl rfl (by decide +kernel) ⟨Nat.le_of_ble_eq_true rfl, Nat.le_of_ble_eq_true rfl⟩) (pr_V hP hK hD (va_recv hK hP (ci := 3) (q0 := 0) rfl rfl) [0, 1, 2] (by decide) rfl rfl) rfl rfl hl.1 rfl (lv_room (Nat.le_of_ble_eq_true rfl)) dc_O_learn_2 ⟨Nat.le_of_ble_eq_true rfl, Nat.le_of_ble_eq_true rfl⟩) (fun H locs hP hD hS => ?_)
  have hP : va_P (dC, dI) clsL [zO o0 oa i0 m0 nn, (oa, .inl (cP, 3, .inr (.inr (.inr (.inr pf))))), zP h a b dn n oc le ll li lc kc rp, (a, .inl (cI, 40, .inl (nF ch))), zI i0 i1 i2 i3 i4 cn sS lS rS, (i2, .inl (cI, 40, .inl (nF rc))), (i3, .inl (cI, 40, .inl (oF an))), (i4, .inl (cJ, 40, .inr (.inl dp))), zM m0 m1 m2 m3 m4 m5 mn mi, (m3, .inl (cI, 104, .inl (oF sr))), (m5, .inl (cI, 104, .inl (nF su)))] H := hP.sub (ws' := [zO o0 oa i0 m0 nn, (oa, .inl (cP, 3, .inr (.inr (.inr (.inr pf))))), zP h a b dn n oc le ll li lc kc rp, (a, .inl (cI, 40, .inl (nF ch))), zI i0 i1 i2 i3 i4 cn sS lS rS, (i2, .inl (cI, 40, .inl (nF rc))), (i3, .inl (cI, 40, .inl (oF an))), (i4, .inl (cJ, 40, .inr (.inl dp))), zM m0 m1 m2 m3 m4 m5 mn mi, (m3, .inl (cI, 104, .inl (oF sr))), (m5, .inl (cI, 104, .inl (nF su)))]) [8, 9, 10, 0, 1, 2, 3, 4, 5, 6, 7] rfl
  have hD : va_D A [zO o0 oa i0 m0 nn, (oa, .inl (cP, 3, .inr (.inr (.inr (.inr pf))))), zP h a b dn n oc le ll li lc kc rp, (a, .inl (cI, 40, .inl (nF ch))), zI i0 i1 i2 i3 i4 cn sS lS rS, (i2, .inl (cI, 40, .inl (nF rc))), (i3, .inl (cI, 40, .inl (oF an))), (i4, .inl (cJ, 40, .inr (.inl dp))), zM m0 m1 m2 m3 m4 m5 mn mi, (m3, .inl (cI, 104, .inl (oF sr))), (m5, .inl (cI, 104, .inl (nF su)))] := hD.sub (ws' := [zO o0 oa i0 m0 nn, (oa, .inl (cP, 3, .inr (.inr (.inr (.inr pf))))), zP h a b dn n oc le ll li lc kc rp, (a, .inl (cI, 40, .inl (nF ch))), zI i0 i1 i2 i3 i4 cn sS lS rS, (i2, .inl (cI, 40, .inl (nF rc))), (i3, .inl (cI, 40, .inl (oF an))), (i4, .inl (cJ, 40, .inr (.inl dp))), zM m0 m1 m2 m3 m4 m5 mn mi, (m3, .inl (cI, 104, .inl (oF sr))), (m5, .inl (cI, 104, .inl (nF su)))]) [8, 9, 10, 0, 1, 2, 3, 4, 5, 6, 7] (by decide) rfl
  refine lv_if_eq (tgt := 24) hx hb dc_O_learn_5 (by decide) (fun hc => ?_) (fun hc => ?_)
  · have h1 : (!dn) = false := bI_0.mp hc
    exact absurd h1 (by rw [hdn]; decide)
  have h1 : (!dn) = true := bI_n0.mp hc
  refine lv_aload_n hx hb dc_O_learn_8 rfl (lv_at hl 0 rfl) ?_
  refine va_get (D := (dC, dI)) (ci := 3) (v := .ref oa) (C := cn_O) (T := ft_O) (N := 4) hx hb htb ki_O hown hK hP 0 rfl rfl 0 (by decide) (htb _ kw_139) (fun _ h9 => h9) rfl dc_O_learn_9 ?_
  refine lv_iload_n hx hb dc_O_learn_12 rfl (lv_at hl 1 rfl) ?_
  refine wa_ald hx hb hK hP 1 3 rfl rfl (k := j) (by omega) (by omega) (v := h) (hf) dc_O_learn_13 ?_
  refine va_get (D := (dC, dI)) (ci := 2) (v := .int (nI le)) (C := cn_P) (T := ft_P) (N := 11) hx hb htb ki_P hown hK hP 2 rfl rfl 5 (by decide) (htb _ kw_33) (fun _ h9 => h9) rfl dc_O_learn_14 ?_
  refine lv_aload_n hx hb dc_O_learn_17 rfl (lv_at hl 0 rfl) ?_
  refine va_get (D := (dC, dI)) (ci := 3) (v := .int (nI nn)) (C := cn_O) (T := ft_O) (N := 4) hx hb htb ki_O hown hK hP 0 rfl rfl 3 (by decide) (htb _ kw_142) (fun _ h9 => h9) rfl dc_O_learn_18 ?_
  refine lv_icmp_lt (tgt := 26) hx hb dc_O_learn_21 (by decide) (fun hc => ?_) (fun hc => ?_)
  rotate_left
  · have h2 : nn ≤ le := Nat.le_of_not_lt (fun h9 => hc ((nI_ltI (by omega) (by omega)).mpr h9))
    exact absurd h2 (by omega)
  have h2 : le < nn := (nI_ltI (by omega) (by omega)).mp hc
  refine lv_aload_n hx hb dc_O_learn_26 rfl (lv_at hl 0 rfl) ?_
  refine va_get (D := (dC, dI)) (ci := 3) (v := .ref oa) (C := cn_O) (T := ft_O) (N := 4) hx hb htb ki_O hown hK hP 0 rfl rfl 0 (by decide) (htb _ kw_139) (fun _ h9 => h9) rfl dc_O_learn_27 ?_
  refine lv_iload_n hx hb dc_O_learn_30 rfl (lv_at hl 1 rfl) ?_
  refine wa_ald hx hb hK hP 1 3 rfl rfl (k := j) (by omega) (by omega) (v := h) (hf) dc_O_learn_31 ?_
  refine lv_astore_n (lv' := [(2, .ref h), (0, .ref o0), (1, .int (nI j))]) hx hb dc_O_learn_32 rfl hl (by decide) rfl (fun ls hl => ?_)
  refine lv_aload_n hx hb dc_O_learn_33 rfl (lv_at hl 1 rfl) ?_
  refine lv_aload_n hx hb dc_O_learn_34 rfl (lv_at hl 0 rfl) ?_
  refine cl_i (wc := [zO o0 oa i0 m0 nn, zP h a b dn n oc le ll li lc kc rp, (a, .inl (cI, 40, .inl (nF ch))), zI i0 i1 i2 i3 i4 cn sS lS rS, (i2, .inl (cI, 40, .inl (nF rc))), (i3, .inl (cI, 40, .inl (oF an))), (i4, .inl (cJ, 40, .inr (.inl dp))), zM m0 m1 m2 m3 m4 m5 mn mi, (m3, .inl (cI, 104, .inl (oF sr))), (m5, .inl (cI, 104, .inl (nF su)))]) (wr := [(oa, .inl (cP, 3, .inr (.inr (.inr (.inr pf)))))]) (w1 := [zO o0 oa i0 m0 nn, zP h a b dn kp oc (le + 1) (ll ||| la) li (dl_1 kp lc kc) (dl_2 kp lc kc) rp, (a, .inl (cI, 40, .inl (nF ch))), zI i0 i1 i2 i3 i4 cn sS lS rS, (i2, .inl (cI, 40, .inl (nF rc))), (i3, .inl (cI, 40, .inl (oF an))), (i4, .inl (cJ, 40, .inr (.inl dp))), zM m0 m1 m2 m3 m4 m5 mn mi, (m3, .inl (cI, 104, .inl (oF sr))), (m5, .inl (cI, 104, .inl (nF (gb_F su (fun i => rc (ch i)) (ko_B sr dp (ll ||| la)) kp (n - kp)))))]) hP hD hS hA [0, 2, 3, 4, 5, 6, 7, 8, 9, 10] [1] rfl rfl (by decide) (by decide) (va_runV (As := [.ref h]) (rest := []) ⟨hx, hb, hml, hown, htb⟩ (oc_O_learnNext l dC dI cI cJ cZ cP _ o0 oa i0 m0 nn h a b dn n oc le ll li lc kc rp i1 i2 i3 i4 cn sS lS rS m1 m2 m3 m4 m5 mn mi ch rc an dp sr su kp la hn hch hrc hsr hcn (by omega) han hlc hkc hla hkp) (cwV 1 htb (gw_V kw_282 kw_284 kp_9 kw_1 kw_285) rfl rfl rfl (by decide +kernel) ⟨Nat.le_of_ble_eq_true rfl, Nat.le_of_ble_eq_true rfl⟩) (pr_V hP hK hD (va_recv hK hP (ci := 3) (q0 := 0) rfl rfl) [0, 2, 3, 4, 5, 6, 7, 8, 9, 10] (by decide) rfl rfl) rfl rfl hl.1 rfl (lv_room (Nat.le_of_ble_eq_true rfl)) dc_O_learn_35 ⟨Nat.le_of_ble_eq_true rfl, Nat.le_of_ble_eq_true rfl⟩) (fun H locs hP hD hS => ?_)
  have hP : va_P (dC, dI) clsL [zO o0 oa i0 m0 nn, (oa, .inl (cP, 3, .inr (.inr (.inr (.inr pf))))), zP h a b dn kp oc (le + 1) (ll ||| la) li (dl_1 kp lc kc) (dl_2 kp lc kc) rp, (a, .inl (cI, 40, .inl (nF ch))), zI i0 i1 i2 i3 i4 cn sS lS rS, (i2, .inl (cI, 40, .inl (nF rc))), (i3, .inl (cI, 40, .inl (oF an))), (i4, .inl (cJ, 40, .inr (.inl dp))), zM m0 m1 m2 m3 m4 m5 mn mi, (m3, .inl (cI, 104, .inl (oF sr))), (m5, .inl (cI, 104, .inl (nF (gb_F su (fun i => rc (ch i)) (ko_B sr dp (ll ||| la)) kp (n - kp)))))] H := hP.sub (ws' := [zO o0 oa i0 m0 nn, (oa, .inl (cP, 3, .inr (.inr (.inr (.inr pf))))), zP h a b dn kp oc (le + 1) (ll ||| la) li (dl_1 kp lc kc) (dl_2 kp lc kc) rp, (a, .inl (cI, 40, .inl (nF ch))), zI i0 i1 i2 i3 i4 cn sS lS rS, (i2, .inl (cI, 40, .inl (nF rc))), (i3, .inl (cI, 40, .inl (oF an))), (i4, .inl (cJ, 40, .inr (.inl dp))), zM m0 m1 m2 m3 m4 m5 mn mi, (m3, .inl (cI, 104, .inl (oF sr))), (m5, .inl (cI, 104, .inl (nF (gb_F su (fun i => rc (ch i)) (ko_B sr dp (ll ||| la)) kp (n - kp)))))]) [1, 0, 2, 3, 4, 5, 6, 7, 8, 9, 10] rfl
  have hD : va_D A [zO o0 oa i0 m0 nn, (oa, .inl (cP, 3, .inr (.inr (.inr (.inr pf))))), zP h a b dn kp oc (le + 1) (ll ||| la) li (dl_1 kp lc kc) (dl_2 kp lc kc) rp, (a, .inl (cI, 40, .inl (nF ch))), zI i0 i1 i2 i3 i4 cn sS lS rS, (i2, .inl (cI, 40, .inl (nF rc))), (i3, .inl (cI, 40, .inl (oF an))), (i4, .inl (cJ, 40, .inr (.inl dp))), zM m0 m1 m2 m3 m4 m5 mn mi, (m3, .inl (cI, 104, .inl (oF sr))), (m5, .inl (cI, 104, .inl (nF (gb_F su (fun i => rc (ch i)) (ko_B sr dp (ll ||| la)) kp (n - kp)))))] := hD.sub (ws' := [zO o0 oa i0 m0 nn, (oa, .inl (cP, 3, .inr (.inr (.inr (.inr pf))))), zP h a b dn kp oc (le + 1) (ll ||| la) li (dl_1 kp lc kc) (dl_2 kp lc kc) rp, (a, .inl (cI, 40, .inl (nF ch))), zI i0 i1 i2 i3 i4 cn sS lS rS, (i2, .inl (cI, 40, .inl (nF rc))), (i3, .inl (cI, 40, .inl (oF an))), (i4, .inl (cJ, 40, .inr (.inl dp))), zM m0 m1 m2 m3 m4 m5 mn mi, (m3, .inl (cI, 104, .inl (oF sr))), (m5, .inl (cI, 104, .inl (nF (gb_F su (fun i => rc (ch i)) (ko_B sr dp (ll ||| la)) kp (n - kp)))))]) [1, 0, 2, 3, 4, 5, 6, 7, 8, 9, 10] (by decide) rfl
  refine lv_istore_n (lv' := [(3, .int (nI (n - kp))), (2, .ref h), (0, .ref o0), (1, .int (nI j))]) hx hb dc_O_learn_38 rfl hl (by decide) rfl (fun ls hl => ?_)
  refine lv_iload_n hx hb dc_O_learn_39 rfl (lv_at hl 0 rfl) ?_
  refine lv_if_le (tgt := 47) hx hb dc_O_learn_40 (by decide) (fun hc => ?_) (fun hc => ?_)
  · have h3 : (n - kp) = 0 := Nat.le_zero.mp ((nI_leI (b := 0) (by omega) (by omega)).mp hc)
    exact absurd h3 (by omega)
  have h3 : 0 < (n - kp) := Nat.pos_of_ne_zero (fun h9 => hc ((nI_leI (b := 0) (by omega) (by omega)).mpr (Nat.le_of_eq h9)))
  refine lv_aload_n hx hb dc_O_learn_43 rfl (lv_at hl 1 rfl) ?_
  refine cl_v (wc := [zP h a b dn kp oc (le + 1) (ll ||| la) li (dl_1 kp lc kc) (dl_2 kp lc kc) rp]) (wr := [zO o0 oa i0 m0 nn, (oa, .inl (cP, 3, .inr (.inr (.inr (.inr pf))))), (a, .inl (cI, 40, .inl (nF ch))), zI i0 i1 i2 i3 i4 cn sS lS rS, (i2, .inl (cI, 40, .inl (nF rc))), (i3, .inl (cI, 40, .inl (oF an))), (i4, .inl (cJ, 40, .inr (.inl dp))), zM m0 m1 m2 m3 m4 m5 mn mi, (m3, .inl (cI, 104, .inl (oF sr))), (m5, .inl (cI, 104, .inl (nF (gb_F su (fun i => rc (ch i)) (ko_B sr dp (ll ||| la)) kp (n - kp)))))]) (w1 := [zP h a b dn kp oc (le + 1) (ll ||| la) li (dl_1 kp lc kc) (dl_2 kp lc kc) (rp + (nI kp - nI (dl_1 kp lc kc)))]) hP hD hS hA [2] [0, 1, 3, 4, 5, 6, 7, 8, 9, 10] rfl rfl (by decide) (by decide) (va_runV (As := []) (rest := []) ⟨hx, hb, hml, hown, htb⟩ (oc_P_countReplay l dC dI cI cJ cZ cP _ h a b dn kp oc (le + 1) (ll ||| la) li (dl_1 kp lc kc) (dl_2 kp lc kc) rp ) (cwV 0 htb (gw_V kw_302 kw_303 kw_304 kw_2 kw_305) rfl rfl rfl (by decide +kernel) ⟨Nat.le_of_ble_eq_true rfl, Nat.le_of_ble_eq_true rfl⟩) (pr_V hP hK hD (va_recv hK hP (ci := 2) (q0 := 2) rfl rfl) [2] (by decide) rfl rfl) rfl rfl hl.1 rfl (lv_room (Nat.le_of_ble_eq_true rfl)) dc_O_learn_44 ⟨Nat.le_of_ble_eq_true rfl, Nat.le_of_ble_eq_true rfl⟩) (fun H locs hP hD hS => ?_)
  have hP : va_P (dC, dI) clsL [zO o0 oa i0 m0 nn, (oa, .inl (cP, 3, .inr (.inr (.inr (.inr pf))))), zP h a b dn kp oc (le + 1) (ll ||| la) li (dl_1 kp lc kc) (dl_2 kp lc kc) (rp + (nI kp - nI (dl_1 kp lc kc))), (a, .inl (cI, 40, .inl (nF ch))), zI i0 i1 i2 i3 i4 cn sS lS rS, (i2, .inl (cI, 40, .inl (nF rc))), (i3, .inl (cI, 40, .inl (oF an))), (i4, .inl (cJ, 40, .inr (.inl dp))), zM m0 m1 m2 m3 m4 m5 mn mi, (m3, .inl (cI, 104, .inl (oF sr))), (m5, .inl (cI, 104, .inl (nF (gb_F su (fun i => rc (ch i)) (ko_B sr dp (ll ||| la)) kp (n - kp)))))] H := hP.sub (ws' := [zO o0 oa i0 m0 nn, (oa, .inl (cP, 3, .inr (.inr (.inr (.inr pf))))), zP h a b dn kp oc (le + 1) (ll ||| la) li (dl_1 kp lc kc) (dl_2 kp lc kc) (rp + (nI kp - nI (dl_1 kp lc kc))), (a, .inl (cI, 40, .inl (nF ch))), zI i0 i1 i2 i3 i4 cn sS lS rS, (i2, .inl (cI, 40, .inl (nF rc))), (i3, .inl (cI, 40, .inl (oF an))), (i4, .inl (cJ, 40, .inr (.inl dp))), zM m0 m1 m2 m3 m4 m5 mn mi, (m3, .inl (cI, 104, .inl (oF sr))), (m5, .inl (cI, 104, .inl (nF (gb_F su (fun i => rc (ch i)) (ko_B sr dp (ll ||| la)) kp (n - kp)))))]) [0, 1, 10, 2, 3, 4, 5, 6, 7, 8, 9] rfl
  have hD : va_D A [zO o0 oa i0 m0 nn, (oa, .inl (cP, 3, .inr (.inr (.inr (.inr pf))))), zP h a b dn kp oc (le + 1) (ll ||| la) li (dl_1 kp lc kc) (dl_2 kp lc kc) (rp + (nI kp - nI (dl_1 kp lc kc))), (a, .inl (cI, 40, .inl (nF ch))), zI i0 i1 i2 i3 i4 cn sS lS rS, (i2, .inl (cI, 40, .inl (nF rc))), (i3, .inl (cI, 40, .inl (oF an))), (i4, .inl (cJ, 40, .inr (.inl dp))), zM m0 m1 m2 m3 m4 m5 mn mi, (m3, .inl (cI, 104, .inl (oF sr))), (m5, .inl (cI, 104, .inl (nF (gb_F su (fun i => rc (ch i)) (ko_B sr dp (ll ||| la)) kp (n - kp)))))] := hD.sub (ws' := [zO o0 oa i0 m0 nn, (oa, .inl (cP, 3, .inr (.inr (.inr (.inr pf))))), zP h a b dn kp oc (le + 1) (ll ||| la) li (dl_1 kp lc kc) (dl_2 kp lc kc) (rp + (nI kp - nI (dl_1 kp lc kc))), (a, .inl (cI, 40, .inl (nF ch))), zI i0 i1 i2 i3 i4 cn sS lS rS, (i2, .inl (cI, 40, .inl (nF rc))), (i3, .inl (cI, 40, .inl (oF an))), (i4, .inl (cJ, 40, .inr (.inl dp))), zM m0 m1 m2 m3 m4 m5 mn mi, (m3, .inl (cI, 104, .inl (oF sr))), (m5, .inl (cI, 104, .inl (nF (gb_F su (fun i => rc (ch i)) (ko_B sr dp (ll ||| la)) kp (n - kp)))))]) [0, 1, 10, 2, 3, 4, 5, 6, 7, 8, 9] (by decide) rfl
  refine lv_iload_n hx hb dc_O_learn_47 rfl (lv_at hl 0 rfl) ?_
  have hP9 := hP.sub (ws' := [zO o0 oa i0 m0 nn, (oa, .inl (cP, 3, .inr (.inr (.inr (.inr pf))))), zP h a b dn kp oc (le + 1) (ll ||| la) li (dl_1 kp lc kc) (dl_2 kp lc kc) (rp + (nI kp - nI (dl_1 kp lc kc))), (a, .inl (cI, 40, .inl (nF ch))), zI i0 i1 i2 i3 i4 cn sS lS rS, (i2, .inl (cI, 40, .inl (nF rc))), (i3, .inl (cI, 40, .inl (oF an))), (i4, .inl (cJ, 40, .inr (.inl dp))), zM m0 m1 m2 m3 m4 m5 mn mi, (m3, .inl (cI, 104, .inl (oF sr))), (m5, .inl (cI, 104, .inl (nF (gb_F su (fun i => rc (ch i)) (ko_B sr dp (ll ||| la)) kp (n - kp)))))]) [0, 1, 2, 3, 4, 5, 6, 7, 8, 9, 10] rfl
  have hD9 := hD.sub (ws' := [zO o0 oa i0 m0 nn, (oa, .inl (cP, 3, .inr (.inr (.inr (.inr pf))))), zP h a b dn kp oc (le + 1) (ll ||| la) li (dl_1 kp lc kc) (dl_2 kp lc kc) (rp + (nI kp - nI (dl_1 kp lc kc))), (a, .inl (cI, 40, .inl (nF ch))), zI i0 i1 i2 i3 i4 cn sS lS rS, (i2, .inl (cI, 40, .inl (nF rc))), (i3, .inl (cI, 40, .inl (oF an))), (i4, .inl (cJ, 40, .inr (.inl dp))), zM m0 m1 m2 m3 m4 m5 mn mi, (m3, .inl (cI, 104, .inl (oF sr))), (m5, .inl (cI, 104, .inl (nF (gb_F su (fun i => rc (ch i)) (ko_B sr dp (ll ||| la)) kp (n - kp)))))]) [0, 1, 2, 3, 4, 5, 6, 7, 8, 9, 10] (by decide) rfl
  exact W.iret (v := nI (n - kp)) hx hb hr (fun t ht hW => ⟨⟨_, (), rfl, rfl, by rw [ht]; exact hP9, va_K.moved hW.alike hK, hD9⟩, hS.F ht⟩) hS.2.2 dc_O_learn_48

set_option maxHeartbeats 4000000 in
set_option maxRecDepth 100000 in
theorem oc_O_restart_no (l : Launch) (dC : Nat → ClassId) (dI : Nat → Nat → Nat) (cI cJ cZ cP : ClassId) (sz : Nat) (o0 : Nat) (oa : Nat) (i0 : Nat) (m0 : Nat) (nn : Nat) (y : Int32) (hy : y < 0 ∨ nI 3 ≤ y) : mt_I l mn_O_restart bc_O_restart 4 (some .int) ({ frames := 1, cells := 0, slots := 0, locals := 20 }) (dC, dI) (TYS cI cJ cZ cP) sz [.ref o0, .int y] [zO o0 oa i0 m0 nn] [zO o0 oa i0 m0 nn] ((-1)) 0 0 := by
  unfold mt_I
  refine Met.ofW (cc := bc_O_restart) (maxL := 4) (ret := (some .int)) (by decide) rfl ?_
  intro p e s m args below meth c s₁ B hml hv
  obtain ⟨rfl, hsz, hP, hK, hD0⟩ := hv
  have hx := B.exec
  have hb := B.bytes
  have hr := B.returns
  have hts := atoms_spec (ws := wsT mn_O_restart bc_O_restart 4 (some .int)) B.pre
  have htb : ∀ w ∈ gtbl, w.before _ s = true := fun w h => hts w (List.mem_cons_of_mem _ h)
  have hown : s.vm.findClass cn_O = some m.cls := findClass_of_methodNamed B.named
  have hlocks := B.notSynchronized
  subst hsz
  have hD := hD0.self (sz := s.heap.size)
  generalize hAe : va_A [zO o0 oa i0 m0 nn] s.heap.size = A at hD ⊢
  have hA : ∀ q : Nat, s.heap.size ≤ q → A q := fun q h => by rw [← hAe]; exact Or.inr h
  have hS : va_S A s.heap s.heap [] := va_S.rf
  have hP : va_P (dC, dI) clsL [zO o0 oa i0 m0 nn] s.heap := hP
  have hl := lv_entry ([.ref o0, .int y]) (n := 4) (Nat.le_of_ble_eq_true rfl)
  rw [lg_entry_eq]
  generalize (lg_sl ([.ref o0, .int y]) ++ List.replicate (4 - (lg_sl ([.ref o0, .int y])).length) Slot.unset).toArray = ls at hl ⊢
  have hl : lv_has ls 4 [(0, .ref o0), (1, .int y)] := hl
  refine lv_iload_n hx hb dc_O_restart_0 rfl (lv_at hl 1 rfl) ?_
  refine cl_i (wc := []) (wr := [zO o0 oa i0 m0 nn]) (w1 := []) hP hD hS hA [] [0] rfl rfl (by decide) (by decide) (va_runS (As := [.int y]) (rest := []) ⟨hx, hb, hml, hown, htb⟩ (oc_O_isProcess_no l dC dI cI cJ cZ cP _ y (by first | assumption | omega)) (va_cwS 1 htb (gw_S kw_172 kw_173 kw_1 kw_174) rfl rfl rfl (by decide +kernel) ⟨Nat.le_of_ble_eq_true rfl, Nat.le_of_ble_eq_true rfl⟩) (pr_S hP hK hD [] (by decide) rfl rfl) rfl rfl hl.1 rfl (lv_room (Nat.le_of_ble_eq_true rfl)) dc_O_restart_1 ⟨Nat.le_of_ble_eq_true rfl, Nat.le_of_ble_eq_true rfl⟩) (fun H locs hP hD hS => ?_)
  have hP : va_P (dC, dI) clsL [zO o0 oa i0 m0 nn] H := hP.sub (ws' := [zO o0 oa i0 m0 nn]) [0] rfl
  have hD : va_D A [zO o0 oa i0 m0 nn] := hD.sub (ws' := [zO o0 oa i0 m0 nn]) [0] (by decide) rfl
  refine lv_if_eq (tgt := 19) hx hb dc_O_restart_4 (by decide) (fun hc => ?_) (fun hc => ?_)
  rotate_left
  · have h1 : false = true := bI_n0.mp hc
    exact absurd h1 (by decide)
  have h1 : false = false := bI_0.mp hc
  refine lv_iconst (v := (-1)) hx hb dc_O_restart_19 (by decide) ?_
  have hP9 := hP.sub (ws' := [zO o0 oa i0 m0 nn]) [0] rfl
  have hD9 := hD.sub (ws' := [zO o0 oa i0 m0 nn]) [0] (by decide) rfl
  exact W.iret (v := (-1)) hx hb hr (fun t ht hW => ⟨⟨_, (), rfl, rfl, by rw [ht]; exact hP9, va_K.moved hW.alike hK, hD9⟩, hS.F ht⟩) hS.2.2 dc_O_restart_20

set_option maxHeartbeats 4000000 in
set_option maxRecDepth 100000 in
theorem oc_O_restart_up (l : Launch) (dC : Nat → ClassId) (dI : Nat → Nat → Nat) (cI cJ cZ cP : ClassId) (sz : Nat) (o0 : Nat) (oa : Nat) (i0 : Nat) (m0 : Nat) (nn : Nat) (pf : Nat → Option Nat) (h : Nat) (a : Nat) (b : Nat) (dn : Bool) (n : Nat) (oc : Nat) (le : Nat) (ll : Int64) (li : Int64) (lc : Nat) (kc : Nat) (rp : Int32) (j : Nat) (hj : j < 3) (hf : pf j = some h) (hdn : dn = false) : mt_I l mn_O_restart bc_O_restart 4 (some .int) ({ frames := 1, cells := 0, slots := 0, locals := 20 }) (dC, dI) (TYS cI cJ cZ cP) sz [.ref o0, .int (nI j)] [zO o0 oa i0 m0 nn, (oa, .inl (cP, 3, .inr (.inr (.inr (.inr pf))))), zP h a b dn n oc le ll li lc kc rp] [zO o0 oa i0 m0 nn, (oa, .inl (cP, 3, .inr (.inr (.inr (.inr pf))))), zP h a b dn n oc le ll li lc kc rp] ((-1)) 0 0 := by
  unfold mt_I
  refine Met.ofW (cc := bc_O_restart) (maxL := 4) (ret := (some .int)) (by decide) rfl ?_
  intro p e s m args below meth c s₁ B hml hv
  obtain ⟨rfl, hsz, hP, hK, hD0⟩ := hv
  have hx := B.exec
  have hb := B.bytes
  have hr := B.returns
  have hts := atoms_spec (ws := wsT mn_O_restart bc_O_restart 4 (some .int)) B.pre
  have htb : ∀ w ∈ gtbl, w.before _ s = true := fun w h => hts w (List.mem_cons_of_mem _ h)
  have hown : s.vm.findClass cn_O = some m.cls := findClass_of_methodNamed B.named
  have hlocks := B.notSynchronized
  subst hsz
  have hD := hD0.self (sz := s.heap.size)
  generalize hAe : va_A [zO o0 oa i0 m0 nn, (oa, .inl (cP, 3, .inr (.inr (.inr (.inr pf))))), zP h a b dn n oc le ll li lc kc rp] s.heap.size = A at hD ⊢
  have hA : ∀ q : Nat, s.heap.size ≤ q → A q := fun q h => by rw [← hAe]; exact Or.inr h
  have hS : va_S A s.heap s.heap [] := va_S.rf
  have hP : va_P (dC, dI) clsL [zO o0 oa i0 m0 nn, (oa, .inl (cP, 3, .inr (.inr (.inr (.inr pf))))), zP h a b dn n oc le ll li lc kc rp] s.heap := hP
  have hl := lv_entry ([.ref o0, .int (nI j)]) (n := 4) (Nat.le_of_ble_eq_true rfl)
  rw [lg_entry_eq]
  generalize (lg_sl ([.ref o0, .int (nI j)]) ++ List.replicate (4 - (lg_sl ([.ref o0, .int (nI j)])).length) Slot.unset).toArray = ls at hl ⊢
  have hl : lv_has ls 4 [(0, .ref o0), (1, .int (nI j))] := hl
  refine lv_iload_n hx hb dc_O_restart_0 rfl (lv_at hl 1 rfl) ?_
  refine cl_i (wc := []) (wr := [zO o0 oa i0 m0 nn, (oa, .inl (cP, 3, .inr (.inr (.inr (.inr pf))))), zP h a b dn n oc le ll li lc kc rp]) (w1 := []) hP hD hS hA [] [0, 1, 2] rfl rfl (by decide) (by decide) (va_runS (As := [.int (nI j)]) (rest := []) ⟨hx, hb, hml, hown, htb⟩ (oc_O_isProcess l dC dI cI cJ cZ cP _ j (by first | assumption | omega)) (va_cwS 1 htb (gw_S kw_172 kw_173 kw_1 kw_174) rfl rfl rfl (by decide +kernel) ⟨Nat.le_of_ble_eq_true rfl, Nat.le_of_ble_eq_true rfl⟩) (pr_S hP hK hD [] (by decide) rfl rfl) rfl rfl hl.1 rfl (lv_room (Nat.le_of_ble_eq_true rfl)) dc_O_restart_1 ⟨Nat.le_of_ble_eq_true rfl, Nat.le_of_ble_eq_true rfl⟩) (fun H locs hP hD hS => ?_)
  have hP : va_P (dC, dI) clsL [zO o0 oa i0 m0 nn, (oa, .inl (cP, 3, .inr (.inr (.inr (.inr pf))))), zP h a b dn n oc le ll li lc kc rp] H := hP.sub (ws' := [zO o0 oa i0 m0 nn, (oa, .inl (cP, 3, .inr (.inr (.inr (.inr pf))))), zP h a b dn n oc le ll li lc kc rp]) [0, 1, 2] rfl
  have hD : va_D A [zO o0 oa i0 m0 nn, (oa, .inl (cP, 3, .inr (.inr (.inr (.inr pf))))), zP h a b dn n oc le ll li lc kc rp] := hD.sub (ws' := [zO o0 oa i0 m0 nn, (oa, .inl (cP, 3, .inr (.inr (.inr (.inr pf))))), zP h a b dn n oc le ll li lc kc rp]) [0, 1, 2] (by decide) rfl
  refine lv_if_eq (tgt := 19) hx hb dc_O_restart_4 (by decide) (fun hc => ?_) (fun hc => ?_)
  · have h1 : true = false := bI_0.mp hc
    exact absurd h1 (by decide)
  have h1 : true = true := bI_n0.mp hc
  refine lv_aload_n hx hb dc_O_restart_7 rfl (lv_at hl 0 rfl) ?_
  refine va_get (D := (dC, dI)) (ci := 3) (v := .ref oa) (C := cn_O) (T := ft_O) (N := 4) hx hb htb ki_O hown hK hP 0 rfl rfl 0 (by decide) (htb _ kw_139) (fun _ h9 => h9) rfl dc_O_restart_8 ?_
  refine lv_iload_n hx hb dc_O_restart_11 rfl (lv_at hl 1 rfl) ?_
  refine wa_ald hx hb hK hP 1 3 rfl rfl (k := j) (by omega) (by omega) (v := h) (hf) dc_O_restart_12 ?_
  refine va_get (D := (dC, dI)) (ci := 2) (v := .int (bI dn)) (C := cn_P) (T := ft_P) (N := 11) hx hb htb ki_P hown hK hP 2 rfl rfl 2 (by decide) (htb _ kw_27) (fun _ h9 => h9) rfl dc_O_restart_13 ?_
  refine lv_if_ne (tgt := 21) hx hb dc_O_restart_16 (by decide) (fun hc => ?_) (fun hc => ?_)
  · have h2 : dn = true := bI_n0.mp hc
    rw [hdn] at h2; exact absurd h2 (by decide)
  have h2 : dn = false := bI_0.mp hc
  refine lv_iconst (v := (-1)) hx hb dc_O_restart_19 (by decide) ?_
  have hP9 := hP.sub (ws' := [zO o0 oa i0 m0 nn, (oa, .inl (cP, 3, .inr (.inr (.inr (.inr pf))))), zP h a b dn n oc le ll li lc kc rp]) [0, 1, 2] rfl
  have hD9 := hD.sub (ws' := [zO o0 oa i0 m0 nn, (oa, .inl (cP, 3, .inr (.inr (.inr (.inr pf))))), zP h a b dn n oc le ll li lc kc rp]) [0, 1, 2] (by decide) rfl
  exact W.iret (v := (-1)) hx hb hr (fun t ht hW => ⟨⟨_, (), rfl, rfl, by rw [ht]; exact hP9, va_K.moved hW.alike hK, hD9⟩, hS.F ht⟩) hS.2.2 dc_O_restart_20

set_option maxHeartbeats 4000000 in
set_option maxRecDepth 100000 in
theorem oc_O_restart (l : Launch) (dC : Nat → ClassId) (dI : Nat → Nat → Nat) (cI cJ cZ cP : ClassId) (sz : Nat) (o0 : Nat) (oa : Nat) (i0 : Nat) (m0 : Nat) (nn : Nat) (pf : Nat → Option Nat) (h : Nat) (a : Nat) (b : Nat) (dn : Bool) (n : Nat) (oc : Nat) (le : Nat) (ll : Int64) (li : Int64) (lc : Nat) (kc : Nat) (rp : Int32) (i1 : Nat) (i2 : Nat) (i3 : Nat) (i4 : Nat) (cn : Nat) (sS : Int64) (lS : Int64) (rS : Int64) (m1 : Nat) (m2 : Nat) (m3 : Nat) (m4 : Nat) (m5 : Nat) (mn : Nat) (mi : Nat) (ch : Nat → Nat) (rc : Nat → Nat) (an : Nat → Option Nat) (dp : Nat → Int64) (sr : Nat → Option Nat) (su : Nat → Nat) (n2 : Nat) (lc2 : Nat) (kc2 : Nat) (ll2 : Int64) (su2 : Nat → Nat) (j : Nat) (hj : j < 3) (hf : pf j = some h) (hdn : dn = true) (hnn : nn < 2 ^ 30) (hln : le ≤ nn) (hn : n ≤ 40) (hch : ∀ k, k < n → ch k < 40) (hrc : ∀ i, i < n → rc (ch i) < 104) (hsr : ∀ q, q < 104 → ∀ i, sr q = some i → i < 40) (hcn : cn ≤ 40) (han : ∀ k, k < cn → ∀ i, (an_F an li nn cn) k = some i → i < 2 ^ 31) (hlc : lc ≤ 40) (hkc : kc ≤ 40) (hq : it_S (ln_S (an_F an li nn cn) (fun i => rc (ch i)) dp ch sr cn) (nn + 1 - le) (n, le, ll, lc, kc, su) = (n2, nn + 1, ll2, lc2, kc2, su2)) : mt_I l mn_O_restart bc_O_restart 4 (some .int) ({ frames := 4, cells := 0, slots := 0, locals := 92 }) (dC, dI) (TYS cI cJ cZ cP) sz [.ref o0, .int (nI j)] [zO o0 oa i0 m0 nn, (oa, .inl (cP, 3, .inr (.inr (.inr (.inr pf))))), zP h a b dn n oc le ll li lc kc rp, (a, .inl (cI, 40, .inl (nF ch))), zI i0 i1 i2 i3 i4 cn sS lS rS, (i2, .inl (cI, 40, .inl (nF rc))), (i3, .inl (cI, 40, .inl (oF an))), (i4, .inl (cJ, 40, .inr (.inl dp))), zM m0 m1 m2 m3 m4 m5 mn mi, (m3, .inl (cI, 104, .inl (oF sr))), (m5, .inl (cI, 104, .inl (nF su)))] [zO o0 oa i0 m0 (nn + 1), (oa, .inl (cP, 3, .inr (.inr (.inr (.inr pf))))), zP h a b false n2 oc (nn + 1) ll2 li lc2 kc2 (rp + (nI n2 - nI lc2)), (a, .inl (cI, 40, .inl (nF ch))), zI i0 i1 i2 i3 i4 cn sS lS rS, (i2, .inl (cI, 40, .inl (nF rc))), (i3, .inl (cI, 40, .inl (oF (an_F an li nn cn)))), (i4, .inl (cJ, 40, .inr (.inl dp))), zM m0 m1 m2 m3 m4 m5 mn mi, (m3, .inl (cI, 104, .inl (oF sr))), (m5, .inl (cI, 104, .inl (nF su2)))] (nI n2) 0 0 := by
  unfold mt_I
  refine Met.ofW (cc := bc_O_restart) (maxL := 4) (ret := (some .int)) (by decide) rfl ?_
  intro p e s m args below meth c s₁ B hml hv
  obtain ⟨rfl, hsz, hP, hK, hD0⟩ := hv
  have hx := B.exec
  have hb := B.bytes
  have hr := B.returns
  have hts := atoms_spec (ws := wsT mn_O_restart bc_O_restart 4 (some .int)) B.pre
  have htb : ∀ w ∈ gtbl, w.before _ s = true := fun w h => hts w (List.mem_cons_of_mem _ h)
  have hown : s.vm.findClass cn_O = some m.cls := findClass_of_methodNamed B.named
  have hlocks := B.notSynchronized
  subst hsz
  have hD := hD0.self (sz := s.heap.size)
  generalize hAe : va_A [zO o0 oa i0 m0 nn, (oa, .inl (cP, 3, .inr (.inr (.inr (.inr pf))))), zP h a b dn n oc le ll li lc kc rp, (a, .inl (cI, 40, .inl (nF ch))), zI i0 i1 i2 i3 i4 cn sS lS rS, (i2, .inl (cI, 40, .inl (nF rc))), (i3, .inl (cI, 40, .inl (oF an))), (i4, .inl (cJ, 40, .inr (.inl dp))), zM m0 m1 m2 m3 m4 m5 mn mi, (m3, .inl (cI, 104, .inl (oF sr))), (m5, .inl (cI, 104, .inl (nF su)))] s.heap.size = A at hD ⊢
  have hA : ∀ q : Nat, s.heap.size ≤ q → A q := fun q h => by rw [← hAe]; exact Or.inr h
  have hS : va_S A s.heap s.heap [] := va_S.rf
  have hP : va_P (dC, dI) clsL [zO o0 oa i0 m0 nn, (oa, .inl (cP, 3, .inr (.inr (.inr (.inr pf))))), zP h a b dn n oc le ll li lc kc rp, (a, .inl (cI, 40, .inl (nF ch))), zI i0 i1 i2 i3 i4 cn sS lS rS, (i2, .inl (cI, 40, .inl (nF rc))), (i3, .inl (cI, 40, .inl (oF an))), (i4, .inl (cJ, 40, .inr (.inl dp))), zM m0 m1 m2 m3 m4 m5 mn mi, (m3, .inl (cI, 104, .inl (oF sr))), (m5, .inl (cI, 104, .inl (nF su)))] s.heap := hP
  have hl := lv_entry ([.ref o0, .int (nI j)]) (n := 4) (Nat.le_of_ble_eq_true rfl)
  rw [lg_entry_eq]
  generalize (lg_sl ([.ref o0, .int (nI j)]) ++ List.replicate (4 - (lg_sl ([.ref o0, .int (nI j)])).length) Slot.unset).toArray = ls at hl ⊢
  have hl : lv_has ls 4 [(0, .ref o0), (1, .int (nI j))] := hl
  refine lv_iload_n hx hb dc_O_restart_0 rfl (lv_at hl 1 rfl) ?_
  refine cl_i (wc := []) (wr := [zO o0 oa i0 m0 nn, (oa, .inl (cP, 3, .inr (.inr (.inr (.inr pf))))), zP h a b dn n oc le ll li lc kc rp, (a, .inl (cI, 40, .inl (nF ch))), zI i0 i1 i2 i3 i4 cn sS lS rS, (i2, .inl (cI, 40, .inl (nF rc))), (i3, .inl (cI, 40, .inl (oF an))), (i4, .inl (cJ, 40, .inr (.inl dp))), zM m0 m1 m2 m3 m4 m5 mn mi, (m3, .inl (cI, 104, .inl (oF sr))), (m5, .inl (cI, 104, .inl (nF su)))]) (w1 := []) hP hD hS hA [] [0, 1, 2, 3, 4, 5, 6, 7, 8, 9, 10] rfl rfl (by decide) (by decide) (va_runS (As := [.int (nI j)]) (rest := []) ⟨hx, hb, hml, hown, htb⟩ (oc_O_isProcess l dC dI cI cJ cZ cP _ j (by first | assumption | omega)) (va_cwS 1 htb (gw_S kw_172 kw_173 kw_1 kw_174) rfl rfl rfl (by decide +kernel) ⟨Nat.le_of_ble_eq_true rfl, Nat.le_of_ble_eq_true rfl⟩) (pr_S hP hK hD [] (by decide) rfl rfl) rfl rfl hl.1 rfl (lv_room (Nat.le_of_ble_eq_true rfl)) dc_O_restart_1 ⟨Nat.le_of_ble_eq_true rfl, Nat.le_of_ble_eq_true rfl⟩) (fun H locs hP hD hS => ?_)
  have hP : va_P (dC, dI) clsL [zO o0 oa i0 m0 nn, (oa, .inl (cP, 3, .inr (.inr (.inr (.inr pf))))), zP h a b dn n oc le ll li lc kc rp, (a, .inl (cI, 40, .inl (nF ch))), zI i0 i1 i2 i3 i4 cn sS lS rS, (i2, .inl (cI, 40, .inl (nF rc))), (i3, .inl (cI, 40, .inl (oF an))), (i4, .inl (cJ, 40, .inr (.inl dp))), zM m0 m1 m2 m3 m4 m5 mn mi, (m3, .inl (cI, 104, .inl (oF sr))), (m5, .inl (cI, 104, .inl (nF su)))] H := hP.sub (ws' := [zO o0 oa i0 m0 nn, (oa, .inl (cP, 3, .inr (.inr (.inr (.inr pf))))), zP h a b dn n oc le ll li lc kc rp, (a, .inl (cI, 40, .inl (nF ch))), zI i0 i1 i2 i3 i4 cn sS lS rS, (i2, .inl (cI, 40, .inl (nF rc))), (i3, .inl (cI, 40, .inl (oF an))), (i4, .inl (cJ, 40, .inr (.inl dp))), zM m0 m1 m2 m3 m4 m5 mn mi, (m3, .inl (cI, 104, .inl (oF sr))), (m5, .inl (cI, 104, .inl (nF su)))]) [0, 1, 2, 3, 4, 5, 6, 7, 8, 9, 10] rfl
  have hD : va_D A [zO o0 oa i0 m0 nn, (oa, .inl (cP, 3, .inr (.inr (.inr (.inr pf))))), zP h a b dn n oc le ll li lc kc rp, (a, .inl (cI, 40, .inl (nF ch))), zI i0 i1 i2 i3 i4 cn sS lS rS, (i2, .inl (cI, 40, .inl (nF rc))), (i3, .inl (cI, 40, .inl (oF an))), (i4, .inl (cJ, 40, .inr (.inl dp))), zM m0 m1 m2 m3 m4 m5 mn mi, (m3, .inl (cI, 104, .inl (oF sr))), (m5, .inl (cI, 104, .inl (nF su)))] := hD.sub (ws' := [zO o0 oa i0 m0 nn, (oa, .inl (cP, 3, .inr (.inr (.inr (.inr pf))))), zP h a b dn n oc le ll li lc kc rp, (a, .inl (cI, 40, .inl (nF ch))), zI i0 i1 i2 i3 i4 cn sS lS rS, (i2, .inl (cI, 40, .inl (nF rc))), (i3, .inl (cI, 40, .inl (oF an))), (i4, .inl (cJ, 40, .inr (.inl dp))), zM m0 m1 m2 m3 m4 m5 mn mi, (m3, .inl (cI, 104, .inl (oF sr))), (m5, .inl (cI, 104, .inl (nF su)))]) [0, 1, 2, 3, 4, 5, 6, 7, 8, 9, 10] (by decide) rfl
  refine lv_if_eq (tgt := 19) hx hb dc_O_restart_4 (by decide) (fun hc => ?_) (fun hc => ?_)
  · have h1 : true = false := bI_0.mp hc
    exact absurd h1 (by decide)
  have h1 : true = true := bI_n0.mp hc
  refine lv_aload_n hx hb dc_O_restart_7 rfl (lv_at hl 0 rfl) ?_
  refine va_get (D := (dC, dI)) (ci := 3) (v := .ref oa) (C := cn_O) (T := ft_O) (N := 4) hx hb htb ki_O hown hK hP 0 rfl rfl 0 (by decide) (htb _ kw_139) (fun _ h9 => h9) rfl dc_O_restart_8 ?_
  refine lv_iload_n hx hb dc_O_restart_11 rfl (lv_at hl 1 rfl) ?_
  refine wa_ald hx hb hK hP 1 3 rfl rfl (k := j) (by omega) (by omega) (v := h) (hf) dc_O_restart_12 ?_
  refine va_get (D := (dC, dI)) (ci := 2) (v := .int (bI dn)) (C := cn_P) (T := ft_P) (N := 11) hx hb htb ki_P hown hK hP 2 rfl rfl 2 (by decide) (htb _ kw_27) (fun _ h9 => h9) rfl dc_O_restart_13 ?_
  refine lv_if_ne (tgt := 21) hx hb dc_O_restart_16 (by decide) (fun hc => ?_) (fun hc => ?_)
  rotate_left
  · have h2 : dn = false := bI_0.mp hc
    rw [hdn] at h2; exact absurd h2 (by decide)
  have h2 : dn = true := bI_n0.mp hc
  refine lv_aload_n hx hb dc_O_restart_21 rfl (lv_at hl 0 rfl) ?_
  refine va_get (D := (dC, dI)) (ci := 3) (v := .ref oa) (C := cn_O) (T := ft_O) (N := 4) hx hb htb ki_O hown hK hP 0 rfl rfl 0 (by decide) (htb _ kw_139) (fun _ h9 => h9) rfl dc_O_restart_22 ?_
  refine lv_iload_n hx hb dc_O_restart_25 rfl (lv_at hl 1 rfl) ?_
  refine wa_ald hx hb hK hP 1 3 rfl rfl (k := j) (by omega) (by omega) (v := h) (hf) dc_O_restart_26 ?_
  refine lv_astore_n (lv' := [(2, .ref h), (0, .ref o0), (1, .int (nI j))]) hx hb dc_O_restart_27 rfl hl (by decide) rfl (fun ls hl => ?_)
  refine lv_aload_n hx hb dc_O_restart_28 rfl (lv_at hl 0 rfl) ?_
  refine lv_iconst (v := nI 0) hx hb dc_O_restart_29 (by decide) ?_
  refine tp_i (y := bI false) rfl ?_
  refine va_put (D := (dC, dI)) (ci := 2) (v := .int (bI false)) (ty := .boolean) (C := cn_P) (T := ft_P) (N := 11) hx hb htb ki_P fy_P fy_P_ok nm_P_d hown hK hP hD hS 2 rfl rfl 2 (by decide) (htb _ kw_27) (fun _ h9 => h9) rfl (by decide +kernel) (bI_nar _) (bI_fit _) (Nat.le_of_ble_eq_true rfl) dc_O_restart_30 (fun H locs hP hD hS => ?_)
  have hP : va_P (dC, dI) clsL [zO o0 oa i0 m0 nn, (oa, .inl (cP, 3, .inr (.inr (.inr (.inr pf))))), zP h a b false n oc le ll li lc kc rp, (a, .inl (cI, 40, .inl (nF ch))), zI i0 i1 i2 i3 i4 cn sS lS rS, (i2, .inl (cI, 40, .inl (nF rc))), (i3, .inl (cI, 40, .inl (oF an))), (i4, .inl (cJ, 40, .inr (.inl dp))), zM m0 m1 m2 m3 m4 m5 mn mi, (m3, .inl (cI, 104, .inl (oF sr))), (m5, .inl (cI, 104, .inl (nF su)))] H := hP
  have hD : va_D A [zO o0 oa i0 m0 nn, (oa, .inl (cP, 3, .inr (.inr (.inr (.inr pf))))), zP h a b false n oc le ll li lc kc rp, (a, .inl (cI, 40, .inl (nF ch))), zI i0 i1 i2 i3 i4 cn sS lS rS, (i2, .inl (cI, 40, .inl (nF rc))), (i3, .inl (cI, 40, .inl (oF an))), (i4, .inl (cJ, 40, .inr (.inl dp))), zM m0 m1 m2 m3 m4 m5 mn mi, (m3, .inl (cI, 104, .inl (oF sr))), (m5, .inl (cI, 104, .inl (nF su)))] := hD
  refine lv_aload_n hx hb dc_O_restart_33 rfl (lv_at hl 1 rfl) ?_
  refine va_get (D := (dC, dI)) (ci := 3) (v := .ref i0) (C := cn_O) (T := ft_O) (N := 4) hx hb htb ki_O hown hK hP 0 rfl rfl 1 (by decide) (htb _ kw_140) (fun _ h9 => h9) rfl dc_O_restart_34 ?_
  refine lv_aload_n hx hb dc_O_restart_37 rfl (lv_at hl 0 rfl) ?_
  refine va_get (D := (dC, dI)) (ci := 2) (v := .long li) (C := cn_P) (T := ft_P) (N := 11) hx hb htb ki_P hown hK hP 2 rfl rfl 7 (by decide) (htb _ kw_37) (fun _ h9 => h9) rfl dc_O_restart_38 ?_
  refine lv_aload_n hx hb dc_O_restart_41 rfl (lv_at hl 1 rfl) ?_
  refine va_get (D := (dC, dI)) (ci := 3) (v := .int (nI nn)) (C := cn_O) (T := ft_O) (N := 4) hx hb htb ki_O hown hK hP 0 rfl rfl 3 (by decide) (htb _ kw_142) (fun _ h9 => h9) rfl dc_O_restart_42 ?_
  refine cl_v (wc := [zI i0 i1 i2 i3 i4 cn sS lS rS, (i3, .inl (cI, 40, .inl (oF an)))]) (wr := [zO o0 oa i0 m0 nn, (oa, .inl (cP, 3, .inr (.inr (.inr (.inr pf))))), zP h a b false n oc le ll li lc kc rp, (a, .inl (cI, 40, .inl (nF ch))), (i2, .inl (cI, 40, .inl (nF rc))), (i4, .inl (cJ, 40, .inr (.inl dp))), zM m0 m1 m2 m3 m4 m5 mn mi, (m3, .inl (cI, 104, .inl (oF sr))), (m5, .inl (cI, 104, .inl (nF su)))]) (w1 := [zI i0 i1 i2 i3 i4 cn sS lS rS, (i3, .inl (cI, 40, .inl (oF (an_F an li nn cn))))]) hP hD hS hA [4, 6] [0, 1, 2, 3, 5, 7, 8, 9, 10] rfl rfl (by decide) (by decide) (va_runV (As := [.long li, .int (nI nn)]) (rest := []) ⟨hx, hb, hml, hown, htb⟩ (oc_I_announce l dC dI cI cJ cZ cP _ i0 i1 i2 i3 i4 cn sS lS rS an li nn hcn) (cwV 2 htb (gw_V kw_278 kw_279 kw_280 kw_3 kw_281) rfl rfl rfl (by decide +kernel) ⟨Nat.le_of_ble_eq_true rfl, Nat.le_of_ble_eq_true rfl⟩) (pr_V hP hK hD (va_recv hK hP (ci := 0) (q0 := 4) rfl rfl) [4, 6] (by decide) rfl rfl) rfl rfl hl.1 rfl (lv_room (Nat.le_of_ble_eq_true rfl)) dc_O_restart_45 ⟨Nat.le_of_ble_eq_true rfl, Nat.le_of_ble_eq_true rfl⟩) (fun H locs hP hD hS => ?_)
  have hP : va_P (dC, dI) clsL [zO o0 oa i0 m0 nn, (oa, .inl (cP, 3, .inr (.inr (.inr (.inr pf))))), zP h a b false n oc le ll li lc kc rp, (a, .inl (cI, 40, .inl (nF ch))), zI i0 i1 i2 i3 i4 cn sS lS rS, (i2, .inl (cI, 40, .inl (nF rc))), (i3, .inl (cI, 40, .inl (oF (an_F an li nn cn)))), (i4, .inl (cJ, 40, .inr (.inl dp))), zM m0 m1 m2 m3 m4 m5 mn mi, (m3, .inl (cI, 104, .inl (oF sr))), (m5, .inl (cI, 104, .inl (nF su)))] H := hP.sub (ws' := [zO o0 oa i0 m0 nn, (oa, .inl (cP, 3, .inr (.inr (.inr (.inr pf))))), zP h a b false n oc le ll li lc kc rp, (a, .inl (cI, 40, .inl (nF ch))), zI i0 i1 i2 i3 i4 cn sS lS rS, (i2, .inl (cI, 40, .inl (nF rc))), (i3, .inl (cI, 40, .inl (oF (an_F an li nn cn)))), (i4, .inl (cJ, 40, .inr (.inl dp))), zM m0 m1 m2 m3 m4 m5 mn mi, (m3, .inl (cI, 104, .inl (oF sr))), (m5, .inl (cI, 104, .inl (nF su)))]) [0, 1, 2, 3, 9, 4, 10, 5, 6, 7, 8] rfl
  have hD : va_D A [zO o0 oa i0 m0 nn, (oa, .inl (cP, 3, .inr (.inr (.inr (.inr pf))))), zP h a b false n oc le ll li lc kc rp, (a, .inl (cI, 40, .inl (nF ch))), zI i0 i1 i2 i3 i4 cn sS lS rS, (i2, .inl (cI, 40, .inl (nF rc))), (i3, .inl (cI, 40, .inl (oF (an_F an li nn cn)))), (i4, .inl (cJ, 40, .inr (.inl dp))), zM m0 m1 m2 m3 m4 m5 mn mi, (m3, .inl (cI, 104, .inl (oF sr))), (m5, .inl (cI, 104, .inl (nF su)))] := hD.sub (ws' := [zO o0 oa i0 m0 nn, (oa, .inl (cP, 3, .inr (.inr (.inr (.inr pf))))), zP h a b false n oc le ll li lc kc rp, (a, .inl (cI, 40, .inl (nF ch))), zI i0 i1 i2 i3 i4 cn sS lS rS, (i2, .inl (cI, 40, .inl (nF rc))), (i3, .inl (cI, 40, .inl (oF (an_F an li nn cn)))), (i4, .inl (cJ, 40, .inr (.inl dp))), zM m0 m1 m2 m3 m4 m5 mn mi, (m3, .inl (cI, 104, .inl (oF sr))), (m5, .inl (cI, 104, .inl (nF su)))]) [0, 1, 2, 3, 9, 4, 10, 5, 6, 7, 8] (by decide) rfl
  refine lv_aload_n hx hb dc_O_restart_48 rfl (lv_at hl 1 rfl) ?_
  refine lv_dup hx hb dc_O_restart_49 rfl ?_
  refine va_get (D := (dC, dI)) (ci := 3) (v := .int (nI nn)) (C := cn_O) (T := ft_O) (N := 4) hx hb htb ki_O hown hK hP 0 rfl rfl 3 (by decide) (htb _ kw_142) (fun _ h9 => h9) rfl dc_O_restart_50 ?_
  refine lv_iconst (v := nI 1) hx hb dc_O_restart_53 (by decide) ?_
  refine lv_iadd hx hb dc_O_restart_54 ?_
  refine tp_i (y := nI (nn + 1)) (nI_add _ _) ?_
  refine va_put (D := (dC, dI)) (ci := 3) (v := .int (nI (nn + 1))) (ty := .int) (C := cn_O) (T := ft_O) (N := 4) hx hb htb ki_O fy_O fy_O_ok nm_O_d hown hK hP hD hS 0 rfl rfl 3 (by decide) (htb _ kw_142) (fun _ h9 => h9) rfl (by decide +kernel) rfl rfl (Nat.le_of_ble_eq_true rfl) dc_O_restart_55 (fun H locs hP hD hS => ?_)
  have hP : va_P (dC, dI) clsL [zO o0 oa i0 m0 (nn + 1), (oa, .inl (cP, 3, .inr (.inr (.inr (.inr pf))))), zP h a b false n oc le ll li lc kc rp, (a, .inl (cI, 40, .inl (nF ch))), zI i0 i1 i2 i3 i4 cn sS lS rS, (i2, .inl (cI, 40, .inl (nF rc))), (i3, .inl (cI, 40, .inl (oF (an_F an li nn cn)))), (i4, .inl (cJ, 40, .inr (.inl dp))), zM m0 m1 m2 m3 m4 m5 mn mi, (m3, .inl (cI, 104, .inl (oF sr))), (m5, .inl (cI, 104, .inl (nF su)))] H := hP
  have hD : va_D A [zO o0 oa i0 m0 (nn + 1), (oa, .inl (cP, 3, .inr (.inr (.inr (.inr pf))))), zP h a b false n oc le ll li lc kc rp, (a, .inl (cI, 40, .inl (nF ch))), zI i0 i1 i2 i3 i4 cn sS lS rS, (i2, .inl (cI, 40, .inl (nF rc))), (i3, .inl (cI, 40, .inl (oF (an_F an li nn cn)))), (i4, .inl (cJ, 40, .inr (.inl dp))), zM m0 m1 m2 m3 m4 m5 mn mi, (m3, .inl (cI, 104, .inl (oF sr))), (m5, .inl (cI, 104, .inl (nF su)))] := hD
  refine lv_aload_n hx hb dc_O_restart_58 rfl (lv_at hl 0 rfl) ?_
  refine va_get (D := (dC, dI)) (ci := 2) (v := .int (nI le)) (C := cn_P) (T := ft_P) (N := 11) hx hb htb ki_P hown hK hP 2 rfl rfl 5 (by decide) (htb _ kw_33) (fun _ h9 => h9) rfl dc_O_restart_59 ?_
  refine lv_istore_n (lv' := [(3, .int (nI le)), (2, .ref h), (0, .ref o0), (1, .int (nI j))]) hx hb dc_O_restart_62 rfl hl (by decide) rfl (fun ls hl => ?_)
  refine wl_ 63 (fun (x : Nat × Nat × Int64 × Nat × Nat × (Nat → Nat)) => nn + 1 - x.2.1) (fun (x : Nat × Nat × Int64 × Nat × Nat × (Nat → Nat)) (H : Heap) (locs : List Loc) (ls : Array Slot) => ((x.1, x.2.1, x.2.2.1, x.2.2.2.1, x.2.2.2.2.1, x.2.2.2.2.2) = it_S (ln_S (an_F an li nn cn) (fun i => rc (ch i)) dp ch sr cn) (x.2.1 - le) (n, le, ll, lc, kc, su) ∧ le ≤ x.2.1 ∧ x.2.1 ≤ nn + 1 ∧ x.1 ≤ n ∧ x.2.2.2.1 ≤ 40 ∧ x.2.2.2.2.1 ≤ 40) ∧ va_P (dC, dI) clsL [zO o0 oa i0 m0 (nn + 1), (oa, .inl (cP, 3, .inr (.inr (.inr (.inr pf))))), zP h a b false x.1 oc x.2.1 x.2.2.1 li x.2.2.2.1 x.2.2.2.2.1 rp, (a, .inl (cI, 40, .inl (nF ch))), zI i0 i1 i2 i3 i4 cn sS lS rS, (i2, .inl (cI, 40, .inl (nF rc))), (i3, .inl (cI, 40, .inl (oF (an_F an li nn cn)))), (i4, .inl (cJ, 40, .inr (.inl dp))), zM m0 m1 m2 m3 m4 m5 mn mi, (m3, .inl (cI, 104, .inl (oF sr))), (m5, .inl (cI, 104, .inl (nF x.2.2.2.2.2)))] H ∧ va_D A [zO o0 oa i0 m0 (nn + 1), (oa, .inl (cP, 3, .inr (.inr (.inr (.inr pf))))), zP h a b false x.1 oc x.2.1 x.2.2.1 li x.2.2.2.1 x.2.2.2.2.1 rp, (a, .inl (cI, 40, .inl (nF ch))), zI i0 i1 i2 i3 i4 cn sS lS rS, (i2, .inl (cI, 40, .inl (nF rc))), (i3, .inl (cI, 40, .inl (oF (an_F an li nn cn)))), (i4, .inl (cJ, 40, .inr (.inl dp))), zM m0 m1 m2 m3 m4 m5 mn mi, (m3, .inl (cI, 104, .inl (oF sr))), (m5, .inl (cI, 104, .inl (nF x.2.2.2.2.2)))] ∧ va_S A s.heap H locs ∧ lv_has ls 4 [(3, .int (nI x.2.1)), (2, .ref h), (1, .int (nI j)), (0, .ref o0)]) ?_ (n, le, ll, lc, kc, su) _ _ _ ⟨⟨by rw [Nat.sub_self]; rfl, Nat.le_refl _, by first | omega | (dsimp only; omega), Nat.le_refl _, hlc, hkc⟩, hP, hD, hS, lv_sub hl [0, 1, 3, 2] rfl⟩
  rintro ⟨n3, le3, ll3, lc3, kc3, su3⟩ H locs ls ⟨hI, hP, hD, hS, hl⟩ ih
  replace hI : (n3, le3, ll3, lc3, kc3, su3) = it_S (ln_S (an_F an li nn cn) (fun i => rc (ch i)) dp ch sr cn) (le3 - le) (n, le, ll, lc, kc, su) ∧ le ≤ le3 ∧ le3 ≤ nn + 1 ∧ n3 ≤ n ∧ lc3 ≤ 40 ∧ kc3 ≤ 40 := hI
  replace hP : va_P (dC, dI) clsL [zO o0 oa i0 m0 (nn + 1), (oa, .inl (cP, 3, .inr (.inr (.inr (.inr pf))))), zP h a b false n3 oc le3 ll3 li lc3 kc3 rp, (a, .inl (cI, 40, .inl (nF ch))), zI i0 i1 i2 i3 i4 cn sS lS rS, (i2, .inl (cI, 40, .inl (nF rc))), (i3, .inl (cI, 40, .inl (oF (an_F an li nn cn)))), (i4, .inl (cJ, 40, .inr (.inl dp))), zM m0 m1 m2 m3 m4 m5 mn mi, (m3, .inl (cI, 104, .inl (oF sr))), (m5, .inl (cI, 104, .inl (nF su3)))] H := hP
  replace hD : va_D A [zO o0 oa i0 m0 (nn + 1), (oa, .inl (cP, 3, .inr (.inr (.inr (.inr pf))))), zP h a b false n3 oc le3 ll3 li lc3 kc3 rp, (a, .inl (cI, 40, .inl (nF ch))), zI i0 i1 i2 i3 i4 cn sS lS rS, (i2, .inl (cI, 40, .inl (nF rc))), (i3, .inl (cI, 40, .inl (oF (an_F an li nn cn)))), (i4, .inl (cJ, 40, .inr (.inl dp))), zM m0 m1 m2 m3 m4 m5 mn mi, (m3, .inl (cI, 104, .inl (oF sr))), (m5, .inl (cI, 104, .inl (nF su3)))] := hD
  replace hl : lv_has ls 4 [(3, .int (nI le3)), (2, .ref h), (1, .int (nI j)), (0, .ref o0)] := hl
  have hk1 := hI.2.1
  have hk2 := hI.2.2.1
  have hk3 := hI.2.2.2.1
  refine lv_iload_n hx hb dc_O_restart_63 rfl (lv_at hl 0 rfl) ?_
  refine lv_aload_n hx hb dc_O_restart_64 rfl (lv_at hl 3 rfl) ?_
  refine va_get (D := (dC, dI)) (ci := 3) (v := .int (nI (nn + 1))) (C := cn_O) (T := ft_O) (N := 4) hx hb htb ki_O hown hK hP 0 rfl rfl 3 (by decide) (htb _ kw_142) (fun _ h9 => h9) rfl dc_O_restart_65 ?_
  refine lv_icmp_ge (tgt := 83) hx hb dc_O_restart_68 (by decide) (fun hc => ?_) (fun hc => ?_)
  · have hk : (nn + 1) ≤ le3 := (nI_leI (by omega) (by omega)).mp hc
    obtain rfl : le3 = nn + 1 := by omega
    have hq9 := hI.1.trans hq
    obtain ⟨rfl, rfl, rfl, rfl, rfl⟩ : n2 = n3 ∧ ll2 = ll3 ∧ lc2 = lc3 ∧ kc2 = kc3 ∧ su2 = su3 := by simp only [Prod.mk.injEq] at hq9; obtain ⟨a1, -, a3, a4, a5, a6⟩ := hq9; exact ⟨a1.symm, a3.symm, a4.symm, a5.symm, a6.symm⟩
    refine lv_aload_n hx hb dc_O_restart_83 rfl (lv_at hl 1 rfl) ?_
    refine cl_v (wc := [zP h a b false n2 oc (nn + 1) ll2 li lc2 kc2 rp]) (wr := [zO o0 oa i0 m0 (nn + 1), (oa, .inl (cP, 3, .inr (.inr (.inr (.inr pf))))), (a, .inl (cI, 40, .inl (nF ch))), zI i0 i1 i2 i3 i4 cn sS lS rS, (i2, .inl (cI, 40, .inl (nF rc))), (i3, .inl (cI, 40, .inl (oF (an_F an li nn cn)))), (i4, .inl (cJ, 40, .inr (.inl dp))), zM m0 m1 m2 m3 m4 m5 mn mi, (m3, .inl (cI, 104, .inl (oF sr))), (m5, .inl (cI, 104, .inl (nF su2)))]) (w1 := [zP h a b false n2 oc (nn + 1) ll2 li lc2 kc2 (rp + (nI n2 - nI lc2))]) hP hD hS hA [2] [0, 1, 3, 4, 5, 6, 7, 8, 9, 10] rfl rfl (by decide) (by decide) (va_runV (As := []) (rest := []) ⟨hx, hb, hml, hown, htb⟩ (oc_P_countReplay l dC dI cI cJ cZ cP _ h a b false n2 oc (nn + 1) ll2 li lc2 kc2 rp ) (cwV 0 htb (gw_V kw_302 kw_303 kw_304 kw_2 kw_305) rfl rfl rfl (by decide +kernel) ⟨Nat.le_of_ble_eq_true rfl, Nat.le_of_ble_eq_true rfl⟩) (pr_V hP hK hD (va_recv hK hP (ci := 2) (q0 := 2) rfl rfl) [2] (by decide) rfl rfl) rfl rfl hl.1 rfl (lv_room (Nat.le_of_ble_eq_true rfl)) dc_O_restart_84 ⟨Nat.le_of_ble_eq_true rfl, Nat.le_of_ble_eq_true rfl⟩) (fun H locs hP hD hS => ?_)
    have hP : va_P (dC, dI) clsL [zO o0 oa i0 m0 (nn + 1), (oa, .inl (cP, 3, .inr (.inr (.inr (.inr pf))))), zP h a b false n2 oc (nn + 1) ll2 li lc2 kc2 (rp + (nI n2 - nI lc2)), (a, .inl (cI, 40, .inl (nF ch))), zI i0 i1 i2 i3 i4 cn sS lS rS, (i2, .inl (cI, 40, .inl (nF rc))), (i3, .inl (cI, 40, .inl (oF (an_F an li nn cn)))), (i4, .inl (cJ, 40, .inr (.inl dp))), zM m0 m1 m2 m3 m4 m5 mn mi, (m3, .inl (cI, 104, .inl (oF sr))), (m5, .inl (cI, 104, .inl (nF su2)))] H := hP.sub (ws' := [zO o0 oa i0 m0 (nn + 1), (oa, .inl (cP, 3, .inr (.inr (.inr (.inr pf))))), zP h a b false n2 oc (nn + 1) ll2 li lc2 kc2 (rp + (nI n2 - nI lc2)), (a, .inl (cI, 40, .inl (nF ch))), zI i0 i1 i2 i3 i4 cn sS lS rS, (i2, .inl (cI, 40, .inl (nF rc))), (i3, .inl (cI, 40, .inl (oF (an_F an li nn cn)))), (i4, .inl (cJ, 40, .inr (.inl dp))), zM m0 m1 m2 m3 m4 m5 mn mi, (m3, .inl (cI, 104, .inl (oF sr))), (m5, .inl (cI, 104, .inl (nF su2)))]) [0, 1, 10, 2, 3, 4, 5, 6, 7, 8, 9] rfl
    have hD : va_D A [zO o0 oa i0 m0 (nn + 1), (oa, .inl (cP, 3, .inr (.inr (.inr (.inr pf))))), zP h a b false n2 oc (nn + 1) ll2 li lc2 kc2 (rp + (nI n2 - nI lc2)), (a, .inl (cI, 40, .inl (nF ch))), zI i0 i1 i2 i3 i4 cn sS lS rS, (i2, .inl (cI, 40, .inl (nF rc))), (i3, .inl (cI, 40, .inl (oF (an_F an li nn cn)))), (i4, .inl (cJ, 40, .inr (.inl dp))), zM m0 m1 m2 m3 m4 m5 mn mi, (m3, .inl (cI, 104, .inl (oF sr))), (m5, .inl (cI, 104, .inl (nF su2)))] := hD.sub (ws' := [zO o0 oa i0 m0 (nn + 1), (oa, .inl (cP, 3, .inr (.inr (.inr (.inr pf))))), zP h a b false n2 oc (nn + 1) ll2 li lc2 kc2 (rp + (nI n2 - nI lc2)), (a, .inl (cI, 40, .inl (nF ch))), zI i0 i1 i2 i3 i4 cn sS lS rS, (i2, .inl (cI, 40, .inl (nF rc))), (i3, .inl (cI, 40, .inl (oF (an_F an li nn cn)))), (i4, .inl (cJ, 40, .inr (.inl dp))), zM m0 m1 m2 m3 m4 m5 mn mi, (m3, .inl (cI, 104, .inl (oF sr))), (m5, .inl (cI, 104, .inl (nF su2)))]) [0, 1, 10, 2, 3, 4, 5, 6, 7, 8, 9] (by decide) rfl
    refine lv_aload_n hx hb dc_O_restart_87 rfl (lv_at hl 1 rfl) ?_
    refine va_get (D := (dC, dI)) (ci := 2) (v := .int (nI n2)) (C := cn_P) (T := ft_P) (N := 11) hx hb htb ki_P hown hK hP 2 rfl rfl 3 (by decide) (htb _ kw_29) (fun _ h9 => h9) rfl dc_O_restart_88 ?_
    have hP9 := hP.sub (ws' := [zO o0 oa i0 m0 (nn + 1), (oa, .inl (cP, 3, .inr (.inr (.inr (.inr pf))))), zP h a b false n2 oc (nn + 1) ll2 li lc2 kc2 (rp + (nI n2 - nI lc2)), (a, .inl (cI, 40, .inl (nF ch))), zI i0 i1 i2 i3 i4 cn sS lS rS, (i2, .inl (cI, 40, .inl (nF rc))), (i3, .inl (cI, 40, .inl (oF (an_F an li nn cn)))), (i4, .inl (cJ, 40, .inr (.inl dp))), zM m0 m1 m2 m3 m4 m5 mn mi, (m3, .inl (cI, 104, .inl (oF sr))), (m5, .inl (cI, 104, .inl (nF su2)))]) [0, 1, 2, 3, 4, 5, 6, 7, 8, 9, 10] rfl
    have hD9 := hD.sub (ws' := [zO o0 oa i0 m0 (nn + 1), (oa, .inl (cP, 3, .inr (.inr (.inr (.inr pf))))), zP h a b false n2 oc (nn + 1) ll2 li lc2 kc2 (rp + (nI n2 - nI lc2)), (a, .inl (cI, 40, .inl (nF ch))), zI i0 i1 i2 i3 i4 cn sS lS rS, (i2, .inl (cI, 40, .inl (nF rc))), (i3, .inl (cI, 40, .inl (oF (an_F an li nn cn)))), (i4, .inl (cJ, 40, .inr (.inl dp))), zM m0 m1 m2 m3 m4 m5 mn mi, (m3, .inl (cI, 104, .inl (oF sr))), (m5, .inl (cI, 104, .inl (nF su2)))]) [0, 1, 2, 3, 4, 5, 6, 7, 8, 9, 10] (by decide) rfl
    exact W.iret (v := nI n2) hx hb hr (fun t ht hW => ⟨⟨_, (), rfl, rfl, by rw [ht]; exact hP9, va_K.moved hW.alike hK, hD9⟩, hS.F ht⟩) hS.2.2 dc_O_restart_91
  · have hk : le3 < (nn + 1) := Nat.lt_of_not_le (fun h9 => hc ((nI_leI (by omega) (by omega)).mpr h9))
    refine lv_aload_n hx hb dc_O_restart_71 rfl (lv_at hl 3 rfl) ?_
    refine lv_aload_n hx hb dc_O_restart_72 rfl (lv_at hl 1 rfl) ?_
    refine cl_i (wc := [zO o0 oa i0 m0 (nn + 1), zP h a b false n3 oc le3 ll3 li lc3 kc3 rp, (a, .inl (cI, 40, .inl (nF ch))), zI i0 i1 i2 i3 i4 cn sS lS rS, (i2, .inl (cI, 40, .inl (nF rc))), (i3, .inl (cI, 40, .inl (oF (an_F an li nn cn)))), (i4, .inl (cJ, 40, .inr (.inl dp))), zM m0 m1 m2 m3 m4 m5 mn mi, (m3, .inl (cI, 104, .inl (oF sr))), (m5, .inl (cI, 104, .inl (nF su3)))]) (wr := [(oa, .inl (cP, 3, .inr (.inr (.inr (.inr pf)))))]) (w1 := [zO o0 oa i0 m0 (nn + 1), zP h a b false (fo_N (hb_B dp ch (ab_S (an_F an li nn cn) le3 cn)) n3 0) oc (le3 + 1) (ll3 ||| (ab_S (an_F an li nn cn) le3 cn)) li (dl_1 (fo_N (hb_B dp ch (ab_S (an_F an li nn cn) le3 cn)) n3 0) lc3 kc3) (dl_2 (fo_N (hb_B dp ch (ab_S (an_F an li nn cn) le3 cn)) n3 0) lc3 kc3) rp, (a, .inl (cI, 40, .inl (nF ch))), zI i0 i1 i2 i3 i4 cn sS lS rS, (i2, .inl (cI, 40, .inl (nF rc))), (i3, .inl (cI, 40, .inl (oF (an_F an li nn cn)))), (i4, .inl (cJ, 40, .inr (.inl dp))), zM m0 m1 m2 m3 m4 m5 mn mi, (m3, .inl (cI, 104, .inl (oF sr))), (m5, .inl (cI, 104, .inl (nF (gb_F su3 (fun i => rc (ch i)) (ko_B sr dp (ll3 ||| (ab_S (an_F an li nn cn) le3 cn))) (fo_N (hb_B dp ch (ab_S (an_F an li nn cn) le3 cn)) n3 0) (n3 - (fo_N (hb_B dp ch (ab_S (an_F an li nn cn) le3 cn)) n3 0))))))]) hP hD hS hA [0, 2, 3, 4, 5, 6, 7, 8, 9, 10] [1] rfl rfl (by decide) (by decide) (va_runV (As := [.ref h]) (rest := []) ⟨hx, hb, hml, hown, htb⟩ (oc_O_learnNext l dC dI cI cJ cZ cP _ o0 oa i0 m0 (nn + 1) h a b false n3 oc le3 ll3 li lc3 kc3 rp i1 i2 i3 i4 cn sS lS rS m1 m2 m3 m4 m5 mn mi ch rc (an_F an li nn cn) dp sr su3 (fo_N (hb_B dp ch (ab_S (an_F an li nn cn) le3 cn)) n3 0) (ab_S (an_F an li nn cn) le3 cn) (by omega) (fun k q => hch k (by omega)) (fun k q => hrc k (by omega)) hsr hcn (by omega) han hI.2.2.2.2.1 hI.2.2.2.2.2 rfl rfl) (cwV 1 htb (gw_V kw_282 kw_284 kp_9 kw_1 kw_285) rfl rfl rfl (by decide +kernel) ⟨Nat.le_of_ble_eq_true rfl, Nat.le_of_ble_eq_true rfl⟩) (pr_V hP hK hD (va_recv hK hP (ci := 3) (q0 := 0) rfl rfl) [0, 2, 3, 4, 5, 6, 7, 8, 9, 10] (by decide) rfl rfl) rfl rfl hl.1 rfl (lv_room (Nat.le_of_ble_eq_true rfl)) dc_O_restart_73 ⟨Nat.le_of_ble_eq_true rfl, Nat.le_of_ble_eq_true rfl⟩) (fun H locs hP hD hS => ?_)
    have hP : va_P (dC, dI) clsL [zO o0 oa i0 m0 (nn + 1), (oa, .inl (cP, 3, .inr (.inr (.inr (.inr pf))))), zP h a b false (fo_N (hb_B dp ch (ab_S (an_F an li nn cn) le3 cn)) n3 0) oc (le3 + 1) (ll3 ||| (ab_S (an_F an li nn cn) le3 cn)) li (dl_1 (fo_N (hb_B dp ch (ab_S (an_F an li nn cn) le3 cn)) n3 0) lc3 kc3) (dl_2 (fo_N (hb_B dp ch (ab_S (an_F an li nn cn) le3 cn)) n3 0) lc3 kc3) rp, (a, .inl (cI, 40, .inl (nF ch))), zI i0 i1 i2 i3 i4 cn sS lS rS, (i2, .inl (cI, 40, .inl (nF rc))), (i3, .inl (cI, 40, .inl (oF (an_F an li nn cn)))), (i4, .inl (cJ, 40, .inr (.inl dp))), zM m0 m1 m2 m3 m4 m5 mn mi, (m3, .inl (cI, 104, .inl (oF sr))), (m5, .inl (cI, 104, .inl (nF (gb_F su3 (fun i => rc (ch i)) (ko_B sr dp (ll3 ||| (ab_S (an_F an li nn cn) le3 cn))) (fo_N (hb_B dp ch (ab_S (an_F an li nn cn) le3 cn)) n3 0) (n3 - (fo_N (hb_B dp ch (ab_S (an_F an li nn cn) le3 cn)) n3 0))))))] H := hP.sub (ws' := [zO o0 oa i0 m0 (nn + 1), (oa, .inl (cP, 3, .inr (.inr (.inr (.inr pf))))), zP h a b false (fo_N (hb_B dp ch (ab_S (an_F an li nn cn) le3 cn)) n3 0) oc (le3 + 1) (ll3 ||| (ab_S (an_F an li nn cn) le3 cn)) li (dl_1 (fo_N (hb_B dp ch (ab_S (an_F an li nn cn) le3 cn)) n3 0) lc3 kc3) (dl_2 (fo_N (hb_B dp ch (ab_S (an_F an li nn cn) le3 cn)) n3 0) lc3 kc3) rp, (a, .inl (cI, 40, .inl (nF ch))), zI i0 i1 i2 i3 i4 cn sS lS rS, (i2, .inl (cI, 40, .inl (nF rc))), (i3, .inl (cI, 40, .inl (oF (an_F an li nn cn)))), (i4, .inl (cJ, 40, .inr (.inl dp))), zM m0 m1 m2 m3 m4 m5 mn mi, (m3, .inl (cI, 104, .inl (oF sr))), (m5, .inl (cI, 104, .inl (nF (gb_F su3 (fun i => rc (ch i)) (ko_B sr dp (ll3 ||| (ab_S (an_F an li nn cn) le3 cn))) (fo_N (hb_B dp ch (ab_S (an_F an li nn cn) le3 cn)) n3 0) (n3 - (fo_N (hb_B dp ch (ab_S (an_F an li nn cn) le3 cn)) n3 0))))))]) [1, 0, 2, 3, 4, 5, 6, 7, 8, 9, 10] rfl
    have hD : va_D A [zO o0 oa i0 m0 (nn + 1), (oa, .inl (cP, 3, .inr (.inr (.inr (.inr pf))))), zP h a b false (fo_N (hb_B dp ch (ab_S (an_F an li nn cn) le3 cn)) n3 0) oc (le3 + 1) (ll3 ||| (ab_S (an_F an li nn cn) le3 cn)) li (dl_1 (fo_N (hb_B dp ch (ab_S (an_F an li nn cn) le3 cn)) n3 0) lc3 kc3) (dl_2 (fo_N (hb_B dp ch (ab_S (an_F an li nn cn) le3 cn)) n3 0) lc3 kc3) rp, (a, .inl (cI, 40, .inl (nF ch))), zI i0 i1 i2 i3 i4 cn sS lS rS, (i2, .inl (cI, 40, .inl (nF rc))), (i3, .inl (cI, 40, .inl (oF (an_F an li nn cn)))), (i4, .inl (cJ, 40, .inr (.inl dp))), zM m0 m1 m2 m3 m4 m5 mn mi, (m3, .inl (cI, 104, .inl (oF sr))), (m5, .inl (cI, 104, .inl (nF (gb_F su3 (fun i => rc (ch i)) (ko_B sr dp (ll3 ||| (ab_S (an_F an li nn cn) le3 cn))) (fo_N (hb_B dp ch (ab_S (an_F an li nn cn) le3 cn)) n3 0) (n3 - (fo_N (hb_B dp ch (ab_S (an_F an li nn cn) le3 cn)) n3 0))))))] := hD.sub (ws' := [zO o0 oa i0 m0 (nn + 1), (oa, .inl (cP, 3, .inr (.inr (.inr (.inr pf))))), zP h a b false (fo_N (hb_B dp ch (ab_S (an_F an li nn cn) le3 cn)) n3 0) oc (le3 + 1) (ll3 ||| (ab_S (an_F an li nn cn) le3 cn)) li (dl_1 (fo_N (hb_B dp ch (ab_S (an_F an li nn cn) le3 cn)) n3 0) lc3 kc3) (dl_2 (fo_N (hb_B dp ch (ab_S (an_F an li nn cn) le3 cn)) n3 0) lc3 kc3) rp, (a, .inl (cI, 40, .inl (nF ch))), zI i0 i1 i2 i3 i4 cn sS lS rS, (i2, .inl (cI, 40, .inl (nF rc))), (i3, .inl (cI, 40, .inl (oF (an_F an li nn cn)))), (i4, .inl (cJ, 40, .inr (.inl dp))), zM m0 m1 m2 m3 m4 m5 mn mi, (m3, .inl (cI, 104, .inl (oF sr))), (m5, .inl (cI, 104, .inl (nF (gb_F su3 (fun i => rc (ch i)) (ko_B sr dp (ll3 ||| (ab_S (an_F an li nn cn) le3 cn))) (fo_N (hb_B dp ch (ab_S (an_F an li nn cn) le3 cn)) n3 0) (n3 - (fo_N (hb_B dp ch (ab_S (an_F an li nn cn) le3 cn)) n3 0))))))]) [1, 0, 2, 3, 4, 5, 6, 7, 8, 9, 10] (by decide) rfl
    refine lv_pop hx hb dc_O_restart_76 rfl ?_
    refine lv_iinc (k := 0) (v := nI (le3 + 1)) (lv' := [(3, .int (nI (le3 + 1))), (2, .ref h), (1, .int (nI j)), (0, .ref o0)]) hx hb dc_O_restart_77 hl rfl (nI_inc1 _) (by decide) rfl (fun ls hl => ?_)
    refine lv_goto (tgt := 63) hx hb dc_O_restart_80 (by decide) ?_
    exact ih ((fo_N (hb_B dp ch (ab_S (an_F an li nn cn) le3 cn)) n3 0), le3 + 1, (ll3 ||| (ab_S (an_F an li nn cn) le3 cn)), (dl_1 (fo_N (hb_B dp ch (ab_S (an_F an li nn cn) le3 cn)) n3 0) lc3 kc3), (dl_2 (fo_N (hb_B dp ch (ab_S (an_F an li nn cn) le3 cn)) n3 0) lc3 kc3), (gb_F su3 (fun i => rc (ch i)) (ko_B sr dp (ll3 ||| (ab_S (an_F an li nn cn) le3 cn))) (fo_N (hb_B dp ch (ab_S (an_F an li nn cn) le3 cn)) n3 0) (n3 - (fo_N (hb_B dp ch (ab_S (an_F an li nn cn) le3 cn)) n3 0)))) H locs ls (by first | omega | (dsimp only; omega)) ⟨⟨by rw [show le3 + 1 - le = (le3 - le) + 1 by omega]; simp only [it_S]; rw [← hI.1]; rfl, by first | omega | (dsimp only; omega), by first | omega | (dsimp only; omega), Nat.le_trans (fo_N_le0 _ _) hI.2.2.2.1, dl_1_le _ hI.2.2.2.2.1 hI.2.2.2.2.2, dl_2_le _ hI.2.2.2.2.1 hI.2.2.2.2.2⟩, hP, hD, hS, lv_sub hl [0, 1, 2, 3] rfl⟩

set_option maxHeartbeats 4000000 in
set_option maxRecDepth 100000 in
theorem oc_O_release_no (l : Launch) (dC : Nat → ClassId) (dI : Nat → Nat → Nat) (cI cJ cZ cP : ClassId) (sz : Nat) (o0 : Nat) (oa : Nat) (i0 : Nat) (m0 : Nat) (nn : Nat) (y : Int32) (hy : y < 0 ∨ nI 3 ≤ y) : mt_I l mn_O_release bc_O_release 6 (some .int) ({ frames := 2, cells := 0, slots := 0, locals := 41 }) (dC, dI) (TYS cI cJ cZ cP) sz [.ref o0, .int y] [zO o0 oa i0 m0 nn] [zO o0 oa i0 m0 nn] ((-1)) 0 0 := by
  unfold mt_I
  refine Met.ofW (cc := bc_O_release) (maxL := 6) (ret := (some .int)) (by decide) rfl ?_
  intro p e s m args below meth c s₁ B hml hv
  obtain ⟨rfl, hsz, hP, hK, hD0⟩ := hv
  have hx := B.exec
  have hb := B.bytes
  have hr := B.returns
  have hts := atoms_spec (ws := wsT mn_O_release bc_O_release 6 (some .int)) B.pre
  have htb : ∀ w ∈ gtbl, w.before _ s = true := fun w h => hts w (List.mem_cons_of_mem _ h)
  have hown : s.vm.findClass cn_O = some m.cls := findClass_of_methodNamed B.named
  have hlocks := B.notSynchronized
  subst hsz
  have hD := hD0.self (sz := s.heap.size)
  generalize hAe : va_A [zO o0 oa i0 m0 nn] s.heap.size = A at hD ⊢
  have hA : ∀ q : Nat, s.heap.size ≤ q → A q := fun q h => by rw [← hAe]; exact Or.inr h
  have hS : va_S A s.heap s.heap [] := va_S.rf
  have hP : va_P (dC, dI) clsL [zO o0 oa i0 m0 nn] s.heap := hP
  have hl := lv_entry ([.ref o0, .int y]) (n := 6) (Nat.le_of_ble_eq_true rfl)
  rw [lg_entry_eq]
  generalize (lg_sl ([.ref o0, .int y]) ++ List.replicate (6 - (lg_sl ([.ref o0, .int y])).length) Slot.unset).toArray = ls at hl ⊢
  have hl : lv_has ls 6 [(0, .ref o0), (1, .int y)] := hl
  refine lv_aload_n hx hb dc_O_release_0 rfl (lv_at hl 0 rfl) ?_
  refine lv_iload_n hx hb dc_O_release_1 rfl (lv_at hl 1 rfl) ?_
  refine cl_i (wc := [zO o0 oa i0 m0 nn]) (wr := []) (w1 := [zO o0 oa i0 m0 nn]) hP hD hS hA [0] [] rfl rfl (by decide) (by decide) (va_runV (As := [.int y]) (rest := []) ⟨hx, hb, hml, hown, htb⟩ (oc_O_isUp_no l dC dI cI cJ cZ cP _ o0 oa i0 m0 nn y (by first | assumption | omega)) (cwV 1 htb (gw_V kw_246 kw_248 kp_7 kw_1 kw_249) rfl rfl rfl (by decide +kernel) ⟨Nat.le_of_ble_eq_true rfl, Nat.le_of_ble_eq_true rfl⟩) (pr_V hP hK hD (va_recv hK hP (ci := 3) (q0 := 0) rfl rfl) [0] (by decide) rfl rfl) rfl rfl hl.1 rfl (lv_room (Nat.le_of_ble_eq_true rfl)) dc_O_release_2 ⟨Nat.le_of_ble_eq_true rfl, Nat.le_of_ble_eq_true rfl⟩) (fun H locs hP hD hS => ?_)
  have hP : va_P (dC, dI) clsL [zO o0 oa i0 m0 nn] H := hP.sub (ws' := [zO o0 oa i0 m0 nn]) [0] rfl
  have hD : va_D A [zO o0 oa i0 m0 nn] := hD.sub (ws' := [zO o0 oa i0 m0 nn]) [0] (by decide) rfl
  refine lv_if_ne (tgt := 10) hx hb dc_O_release_5 (by decide) (fun hc => ?_) (fun hc => ?_)
  · have h1 : false = true := bI_n0.mp hc
    exact absurd h1 (by decide)
  have h1 : false = false := bI_0.mp hc
  refine lv_iconst (v := (-1)) hx hb dc_O_release_8 (by decide) ?_
  have hP9 := hP.sub (ws' := [zO o0 oa i0 m0 nn]) [0] rfl
  have hD9 := hD.sub (ws' := [zO o0 oa i0 m0 nn]) [0] (by decide) rfl
  exact W.iret (v := (-1)) hx hb hr (fun t ht hW => ⟨⟨_, (), rfl, rfl, by rw [ht]; exact hP9, va_K.moved hW.alike hK, hD9⟩, hS.F ht⟩) hS.2.2 dc_O_release_9

set_option maxHeartbeats 4000000 in
set_option maxRecDepth 100000 in
theorem oc_O_release_dn (l : Launch) (dC : Nat → ClassId) (dI : Nat → Nat → Nat) (cI cJ cZ cP : ClassId) (sz : Nat) (o0 : Nat) (oa : Nat) (i0 : Nat) (m0 : Nat) (nn : Nat) (pf : Nat → Option Nat) (h : Nat) (a : Nat) (b : Nat) (dn : Bool) (n : Nat) (oc : Nat) (le : Nat) (ll : Int64) (li : Int64) (lc : Nat) (kc : Nat) (rp : Int32) (j : Nat) (hj : j < 3) (hf : pf j = some h) (hdn : dn = true) : mt_I l mn_O_release bc_O_release 6 (some .int) ({ frames := 2, cells := 0, slots := 0, locals := 41 }) (dC, dI) (TYS cI cJ cZ cP) sz [.ref o0, .int (nI j)] [zO o0 oa i0 m0 nn, (oa, .inl (cP, 3, .inr (.inr (.inr (.inr pf))))), zP h a b dn n oc le ll li lc kc rp] [zO o0 oa i0 m0 nn, (oa, .inl (cP, 3, .inr (.inr (.inr (.inr pf))))), zP h a b dn n oc le ll li lc kc rp] ((-1)) 0 0 := by
  unfold mt_I
  refine Met.ofW (cc := bc_O_release) (maxL := 6) (ret := (some .int)) (by decide) rfl ?_
  intro p e s m args below meth c s₁ B hml hv
  obtain ⟨rfl, hsz, hP, hK, hD0⟩ := hv
  have hx := B.exec
  have hb := B.bytes
  have hr := B.returns
  have hts := atoms_spec (ws := wsT mn_O_release bc_O_release 6 (some .int)) B.pre
  have htb : ∀ w ∈ gtbl, w.before _ s = true := fun w h => hts w (List.mem_cons_of_mem _ h)
  have hown : s.vm.findClass cn_O = some m.cls := findClass_of_methodNamed B.named
  have hlocks := B.notSynchronized
  subst hsz
  have hD := hD0.self (sz := s.heap.size)
  generalize hAe : va_A [zO o0 oa i0 m0 nn, (oa, .inl (cP, 3, .inr (.inr (.inr (.inr pf))))), zP h a b dn n oc le ll li lc kc rp] s.heap.size = A at hD ⊢
  have hA : ∀ q : Nat, s.heap.size ≤ q → A q := fun q h => by rw [← hAe]; exact Or.inr h
  have hS : va_S A s.heap s.heap [] := va_S.rf
  have hP : va_P (dC, dI) clsL [zO o0 oa i0 m0 nn, (oa, .inl (cP, 3, .inr (.inr (.inr (.inr pf))))), zP h a b dn n oc le ll li lc kc rp] s.heap := hP
  have hl := lv_entry ([.ref o0, .int (nI j)]) (n := 6) (Nat.le_of_ble_eq_true rfl)
  rw [lg_entry_eq]
  generalize (lg_sl ([.ref o0, .int (nI j)]) ++ List.replicate (6 - (lg_sl ([.ref o0, .int (nI j)])).length) Slot.unset).toArray = ls at hl ⊢
  have hl : lv_has ls 6 [(0, .ref o0), (1, .int (nI j))] := hl
  refine lv_aload_n hx hb dc_O_release_0 rfl (lv_at hl 0 rfl) ?_
  refine lv_iload_n hx hb dc_O_release_1 rfl (lv_at hl 1 rfl) ?_
  refine cl_i (wc := [zO o0 oa i0 m0 nn, (oa, .inl (cP, 3, .inr (.inr (.inr (.inr pf))))), zP h a b dn n oc le ll li lc kc rp]) (wr := []) (w1 := [zO o0 oa i0 m0 nn, (oa, .inl (cP, 3, .inr (.inr (.inr (.inr pf))))), zP h a b dn n oc le ll li lc kc rp]) hP hD hS hA [0, 1, 2] [] rfl rfl (by decide) (by decide) (va_runV (As := [.int (nI j)]) (rest := []) ⟨hx, hb, hml, hown, htb⟩ (oc_O_isUp l dC dI cI cJ cZ cP _ o0 oa i0 m0 nn pf h a b dn n oc le ll li lc kc rp j (by first | assumption | omega) (by first | assumption | omega)) (cwV 1 htb (gw_V kw_246 kw_248 kp_7 kw_1 kw_249) rfl rfl rfl (by decide +kernel) ⟨Nat.le_of_ble_eq_true rfl, Nat.le_of_ble_eq_true rfl⟩) (pr_V hP hK hD (va_recv hK hP (ci := 3) (q0 := 0) rfl rfl) [0, 1, 2] (by decide) rfl rfl) rfl rfl hl.1 rfl (lv_room (Nat.le_of_ble_eq_true rfl)) dc_O_release_2 ⟨Nat.le_of_ble_eq_true rfl, Nat.le_of_ble_eq_true rfl⟩) (fun H locs hP hD hS => ?_)
  have hP : va_P (dC, dI) clsL [zO o0 oa i0 m0 nn, (oa, .inl (cP, 3, .inr (.inr (.inr (.inr pf))))), zP h a b dn n oc le ll li lc kc rp] H := hP.sub (ws' := [zO o0 oa i0 m0 nn, (oa, .inl (cP, 3, .inr (.inr (.inr (.inr pf))))), zP h a b dn n oc le ll li lc kc rp]) [0, 1, 2] rfl
  have hD : va_D A [zO o0 oa i0 m0 nn, (oa, .inl (cP, 3, .inr (.inr (.inr (.inr pf))))), zP h a b dn n oc le ll li lc kc rp] := hD.sub (ws' := [zO o0 oa i0 m0 nn, (oa, .inl (cP, 3, .inr (.inr (.inr (.inr pf))))), zP h a b dn n oc le ll li lc kc rp]) [0, 1, 2] (by decide) rfl
  refine lv_if_ne (tgt := 10) hx hb dc_O_release_5 (by decide) (fun hc => ?_) (fun hc => ?_)
  · have h1 : (!dn) = true := bI_n0.mp hc
    exact absurd h1 (by rw [hdn]; decide)
  have h1 : (!dn) = false := bI_0.mp hc
  refine lv_iconst (v := (-1)) hx hb dc_O_release_8 (by decide) ?_
  have hP9 := hP.sub (ws' := [zO o0 oa i0 m0 nn, (oa, .inl (cP, 3, .inr (.inr (.inr (.inr pf))))), zP h a b dn n oc le ll li lc kc rp]) [0, 1, 2] rfl
  have hD9 := hD.sub (ws' := [zO o0 oa i0 m0 nn, (oa, .inl (cP, 3, .inr (.inr (.inr (.inr pf))))), zP h a b dn n oc le ll li lc kc rp]) [0, 1, 2] (by decide) rfl
  exact W.iret (v := (-1)) hx hb hr (fun t ht hW => ⟨⟨_, (), rfl, rfl, by rw [ht]; exact hP9, va_K.moved hW.alike hK, hD9⟩, hS.F ht⟩) hS.2.2 dc_O_release_9

set_option maxHeartbeats 4000000 in
set_option maxRecDepth 100000 in
theorem oc_O_release (l : Launch) (dC : Nat → ClassId) (dI : Nat → Nat → Nat) (cI cJ cZ cP : ClassId) (sz : Nat) (o0 : Nat) (oa : Nat) (i0 : Nat) (m0 : Nat) (nn : Nat) (pf : Nat → Option Nat) (h : Nat) (a : Nat) (b : Nat) (dn : Bool) (n : Nat) (oc : Nat) (le : Nat) (ll : Int64) (li : Int64) (lc : Nat) (kc : Nat) (rp : Int32) (i1 : Nat) (i2 : Nat) (i3 : Nat) (i4 : Nat) (cn : Nat) (sS : Int64) (lS : Int64) (rS : Int64) (ch : Nat → Nat) (ou : Nat → Int32) (sv : Nat → Int32) (dp : Nat → Int64) (oc2 : Nat) (rS2 : Int64) (ou2 : Nat → Int32) (j : Nat) (hj : j < 3) (hf : pf j = some h) (hdn : dn = false) (hn : n ≤ 40) (hch : ∀ k, k < n → ch k < 40) (hoc : oc ≤ 40) (hro : ∀ k, k < n → rl_B sv dp sS (re_S sv dp sS ch (rS, oc, ou) k).1 (ch k) = true → (re_S sv dp sS ch (rS, oc, ou) k).2.1 < 40) (hq : (re_S sv dp sS ch (rS, oc, ou) n) = (rS2, oc2, ou2)) : mt_I l mn_O_release bc_O_release 6 (some .int) ({ frames := 2, cells := 0, slots := 0, locals := 41 }) (dC, dI) (TYS cI cJ cZ cP) sz [.ref o0, .int (nI j)] [zO o0 oa i0 m0 nn, (oa, .inl (cP, 3, .inr (.inr (.inr (.inr pf))))), zP h a b dn n oc le ll li lc kc rp, (a, .inl (cI, 40, .inl (nF ch))), (b, .inl (cI, 40, .inl ou)), zI i0 i1 i2 i3 i4 cn sS lS rS, (i1, .inl (cI, 40, .inl sv)), (i4, .inl (cJ, 40, .inr (.inl dp)))] [zO o0 oa i0 m0 nn, (oa, .inl (cP, 3, .inr (.inr (.inr (.inr pf))))), zP h a b dn n oc2 le ll li lc kc rp, (a, .inl (cI, 40, .inl (nF ch))), (b, .inl (cI, 40, .inl ou2)), zI i0 i1 i2 i3 i4 cn sS lS rS2, (i1, .inl (cI, 40, .inl sv)), (i4, .inl (cJ, 40, .inr (.inl dp)))] (nI (oc2 - oc)) 0 0 := by
  unfold mt_I
  refine Met.ofW (cc := bc_O_release) (maxL := 6) (ret := (some .int)) (by decide) rfl ?_
  intro p e s m args below meth c s₁ B hml hv
  obtain ⟨rfl, hsz, hP, hK, hD0⟩ := hv
  have hx := B.exec
  have hb := B.bytes
  have hr := B.returns
  have hts := atoms_spec (ws := wsT mn_O_release bc_O_release 6 (some .int)) B.pre
  have htb : ∀ w ∈ gtbl, w.before _ s = true := fun w h => hts w (List.mem_cons_of_mem _ h)
  have hown : s.vm.findClass cn_O = some m.cls := findClass_of_methodNamed B.named
  have hlocks := B.notSynchronized
  subst hsz
  have hD := hD0.self (sz := s.heap.size)
  generalize hAe : va_A [zO o0 oa i0 m0 nn, (oa, .inl (cP, 3, .inr (.inr (.inr (.inr pf))))), zP h a b dn n oc le ll li lc kc rp, (a, .inl (cI, 40, .inl (nF ch))), (b, .inl (cI, 40, .inl ou)), zI i0 i1 i2 i3 i4 cn sS lS rS, (i1, .inl (cI, 40, .inl sv)), (i4, .inl (cJ, 40, .inr (.inl dp)))] s.heap.size = A at hD ⊢
  have hA : ∀ q : Nat, s.heap.size ≤ q → A q := fun q h => by rw [← hAe]; exact Or.inr h
  have hS : va_S A s.heap s.heap [] := va_S.rf
  have hP : va_P (dC, dI) clsL [zO o0 oa i0 m0 nn, (oa, .inl (cP, 3, .inr (.inr (.inr (.inr pf))))), zP h a b dn n oc le ll li lc kc rp, (a, .inl (cI, 40, .inl (nF ch))), (b, .inl (cI, 40, .inl ou)), zI i0 i1 i2 i3 i4 cn sS lS rS, (i1, .inl (cI, 40, .inl sv)), (i4, .inl (cJ, 40, .inr (.inl dp)))] s.heap := hP
  have hl := lv_entry ([.ref o0, .int (nI j)]) (n := 6) (Nat.le_of_ble_eq_true rfl)
  rw [lg_entry_eq]
  generalize (lg_sl ([.ref o0, .int (nI j)]) ++ List.replicate (6 - (lg_sl ([.ref o0, .int (nI j)])).length) Slot.unset).toArray = ls at hl ⊢
  have hl : lv_has ls 6 [(0, .ref o0), (1, .int (nI j))] := hl
  refine lv_aload_n hx hb dc_O_release_0 rfl (lv_at hl 0 rfl) ?_
  refine lv_iload_n hx hb dc_O_release_1 rfl (lv_at hl 1 rfl) ?_
  refine cl_i (wc := [zO o0 oa i0 m0 nn, (oa, .inl (cP, 3, .inr (.inr (.inr (.inr pf))))), zP h a b dn n oc le ll li lc kc rp]) (wr := [(a, .inl (cI, 40, .inl (nF ch))), (b, .inl (cI, 40, .inl ou)), zI i0 i1 i2 i3 i4 cn sS lS rS, (i1, .inl (cI, 40, .inl sv)), (i4, .inl (cJ, 40, .inr (.inl dp)))]) (w1 := [zO o0 oa i0 m0 nn, (oa, .inl (cP, 3, .inr (.inr (.inr (.inr pf))))), zP h a b dn n oc le ll li lc kc rp]) hP hD hS hA [0, 1, 2] [3, 4, 5, 6, 7] rfl rfl (by decide) (by decide) (va_runV (As := [.int (nI j)]) (rest := []) ⟨hx, hb, hml, hown, htb⟩ (oc_O_isUp l dC dI cI cJ cZ cP _ o0 oa i0 m0 nn pf h a b dn n oc le ll li lc kc rp j (by first | assumption | omega) (by first | assumption | omega)) (cwV 1 htb (gw_V kw_246 kw_248 kp_7 kw_1 kw_249) rfl rfl rfl (by decide +kernel) ⟨Nat.le_of_ble_eq_true rfl, Nat.le_of_ble_eq_true rfl⟩) (pr_V hP hK hD (va_recv hK hP (ci := 3) (q0 := 0) rfl rfl) [0, 1, 2] (by decide) rfl rfl) rfl rfl hl.1 rfl (lv_room (Nat.le_of_ble_eq_true rfl)) dc_O_release_2 ⟨Nat.le_of_ble_eq_true rfl, Nat.le_of_ble_eq_true rfl⟩) (fun H locs hP hD hS => ?_)
  have hP : va_P (dC, dI) clsL [zO o0 oa i0 m0 nn, (oa, .inl (cP, 3, .inr (.inr (.inr (.inr pf))))), zP h a b dn n oc le ll li lc kc rp, (a, .inl (cI, 40, .inl (nF ch))), (b, .inl (cI, 40, .inl ou)), zI i0 i1 i2 i3 i4 cn sS lS rS, (i1, .inl (cI, 40, .inl sv)), (i4, .inl (cJ, 40, .inr (.inl dp)))] H := hP.sub (ws' := [zO o0 oa i0 m0 nn, (oa, .inl (cP, 3, .inr (.inr (.inr (.inr pf))))), zP h a b dn n oc le ll li lc kc rp, (a, .inl (cI, 40, .inl (nF ch))), (b, .inl (cI, 40, .inl ou)), zI i0 i1 i2 i3 i4 cn sS lS rS, (i1, .inl (cI, 40, .inl sv)), (i4, .inl (cJ, 40, .inr (.inl dp)))]) [5, 6, 7, 0, 1, 2, 3, 4] rfl
  have hD : va_D A [zO o0 oa i0 m0 nn, (oa, .inl (cP, 3, .inr (.inr (.inr (.inr pf))))), zP h a b dn n oc le ll li lc kc rp, (a, .inl (cI, 40, .inl (nF ch))), (b, .inl (cI, 40, .inl ou)), zI i0 i1 i2 i3 i4 cn sS lS rS, (i1, .inl (cI, 40, .inl sv)), (i4, .inl (cJ, 40, .inr (.inl dp)))] := hD.sub (ws' := [zO o0 oa i0 m0 nn, (oa, .inl (cP, 3, .inr (.inr (.inr (.inr pf))))), zP h a b dn n oc le ll li lc kc rp, (a, .inl (cI, 40, .inl (nF ch))), (b, .inl (cI, 40, .inl ou)), zI i0 i1 i2 i3 i4 cn sS lS rS, (i1, .inl (cI, 40, .inl sv)), (i4, .inl (cJ, 40, .inr (.inl dp)))]) [5, 6, 7, 0, 1, 2, 3, 4] (by decide) rfl
  refine lv_if_ne (tgt := 10) hx hb dc_O_release_5 (by decide) (fun hc => ?_) (fun hc => ?_)
  rotate_left
  · have h1 : (!dn) = false := bI_0.mp hc
    exact absurd h1 (by rw [hdn]; decide)
  have h1 : (!dn) = true := bI_n0.mp hc
  refine lv_aload_n hx hb dc_O_release_10 rfl (lv_at hl 0 rfl) ?_
  refine va_get (D := (dC, dI)) (ci := 3) (v := .ref oa) (C := cn_O) (T := ft_O) (N := 4) hx hb htb ki_O hown hK hP 0 rfl rfl 0 (by decide) (htb _ kw_139) (fun _ h9 => h9) rfl dc_O_release_11 ?_
  refine lv_iload_n hx hb dc_O_release_14 rfl (lv_at hl 1 rfl) ?_
  refine wa_ald hx hb hK hP 1 3 rfl rfl (k := j) (by omega) (by omega) (v := h) (hf) dc_O_release_15 ?_
  refine lv_astore_n (lv' := [(2, .ref h), (0, .ref o0), (1, .int (nI j))]) hx hb dc_O_release_16 rfl hl (by decide) rfl (fun ls hl => ?_)
  refine lv_aload_n hx hb dc_O_release_17 rfl (lv_at hl 0 rfl) ?_
  refine va_get (D := (dC, dI)) (ci := 2) (v := .int (nI oc)) (C := cn_P) (T := ft_P) (N := 11) hx hb htb ki_P hown hK hP 2 rfl rfl 4 (by decide) (htb _ kw_31) (fun _ h9 => h9) rfl dc_O_release_18 ?_
  refine lv_istore_n (lv' := [(3, .int (nI oc)), (2, .ref h), (0, .ref o0), (1, .int (nI j))]) hx hb dc_O_release_21 rfl hl (by decide) rfl (fun ls hl => ?_)
  refine lv_iconst (v := nI 0) hx hb dc_O_release_22 (by decide) ?_
  refine lv_istore (lv' := [(4, .int (nI 0)), (3, .int (nI oc)), (2, .ref h), (0, .ref o0), (1, .int (nI j))]) hx hb dc_O_release_23 hl (by decide) rfl (fun ls hl => ?_)
  refine wl_ 25 (fun (x : Nat × Int64 × Nat × (Nat → Int32)) => n - x.1) (fun (x : Nat × Int64 × Nat × (Nat → Int32)) (H : Heap) (locs : List Loc) (ls : Array Slot) => (x.1 ≤ n ∧ (x.2.1, x.2.2.1, x.2.2.2) = (re_S sv dp sS ch (rS, oc, ou) x.1) ∧ oc ≤ x.2.2.1 ∧ x.2.2.1 ≤ 40) ∧ va_P (dC, dI) clsL [zO o0 oa i0 m0 nn, (oa, .inl (cP, 3, .inr (.inr (.inr (.inr pf))))), zP h a b dn n x.2.2.1 le ll li lc kc rp, (a, .inl (cI, 40, .inl (nF ch))), (b, .inl (cI, 40, .inl x.2.2.2)), zI i0 i1 i2 i3 i4 cn sS lS x.2.1, (i1, .inl (cI, 40, .inl sv)), (i4, .inl (cJ, 40, .inr (.inl dp)))] H ∧ va_D A [zO o0 oa i0 m0 nn, (oa, .inl (cP, 3, .inr (.inr (.inr (.inr pf))))), zP h a b dn n x.2.2.1 le ll li lc kc rp, (a, .inl (cI, 40, .inl (nF ch))), (b, .inl (cI, 40, .inl x.2.2.2)), zI i0 i1 i2 i3 i4 cn sS lS x.2.1, (i1, .inl (cI, 40, .inl sv)), (i4, .inl (cJ, 40, .inr (.inl dp)))] ∧ va_S A s.heap H locs ∧ lv_has ls 6 [(4, .int (nI x.1)), (3, .int (nI oc)), (2, .ref h), (1, .int (nI j)), (0, .ref o0)]) ?_ (0, rS, oc, ou) _ _ _ ⟨⟨Nat.zero_le _, rfl, Nat.le_refl _, hoc⟩, hP, hD, hS, lv_sub hl [0, 1, 2, 4, 3] rfl⟩
  rintro ⟨k, z, q, g⟩ H locs ls ⟨hI, hP, hD, hS, hl⟩ ih
  replace hI : k ≤ n ∧ (z, q, g) = (re_S sv dp sS ch (rS, oc, ou) k) ∧ oc ≤ q ∧ q ≤ 40 := hI
  replace hP : va_P (dC, dI) clsL [zO o0 oa i0 m0 nn, (oa, .inl (cP, 3, .inr (.inr (.inr (.inr pf))))), zP h a b dn n q le ll li lc kc rp, (a, .inl (cI, 40, .inl (nF ch))), (b, .inl (cI, 40, .inl g)), zI i0 i1 i2 i3 i4 cn sS lS z, (i1, .inl (cI, 40, .inl sv)), (i4, .inl (cJ, 40, .inr (.inl dp)))] H := hP
  replace hD : va_D A [zO o0 oa i0 m0 nn, (oa, .inl (cP, 3, .inr (.inr (.inr (.inr pf))))), zP h a b dn n q le ll li lc kc rp, (a, .inl (cI, 40, .inl (nF ch))), (b, .inl (cI, 40, .inl g)), zI i0 i1 i2 i3 i4 cn sS lS z, (i1, .inl (cI, 40, .inl sv)), (i4, .inl (cJ, 40, .inr (.inl dp)))] := hD
  replace hl : lv_has ls 6 [(4, .int (nI k)), (3, .int (nI oc)), (2, .ref h), (1, .int (nI j)), (0, .ref o0)] := hl
  have hk1 := hI.1
  have hk2 := hI.2.2.1
  have hk3 := hI.2.2.2
  refine lv_iload hx hb dc_O_release_25 (lv_at hl 0 rfl) ?_
  refine lv_aload_n hx hb dc_O_release_27 rfl (lv_at hl 2 rfl) ?_
  refine va_get (D := (dC, dI)) (ci := 2) (v := .int (nI n)) (C := cn_P) (T := ft_P) (N := 11) hx hb htb ki_P hown hK hP 2 rfl rfl 3 (by decide) (htb _ kw_29) (fun _ h9 => h9) rfl dc_O_release_28 ?_
  refine lv_icmp_ge (tgt := 91) hx hb dc_O_release_31 (by decide) (fun hc => ?_) (fun hc => ?_)
  · have hk : n ≤ k := (nI_leI (by omega) (by omega)).mp hc
    obtain rfl : n = k := by omega
    have hq9 := hI.2.1.trans hq
    obtain ⟨rfl, rfl, rfl⟩ : rS2 = z ∧ oc2 = q ∧ ou2 = g := by simp only [Prod.mk.injEq] at hq9; obtain ⟨a1, a2, a3⟩ := hq9; exact ⟨a1.symm, a2.symm, a3.symm⟩
    refine lv_aload_n hx hb dc_O_release_91 rfl (lv_at hl 2 rfl) ?_
    refine va_get (D := (dC, dI)) (ci := 2) (v := .int (nI oc2)) (C := cn_P) (T := ft_P) (N := 11) hx hb htb ki_P hown hK hP 2 rfl rfl 4 (by decide) (htb _ kw_31) (fun _ h9 => h9) rfl dc_O_release_92 ?_
    refine lv_iload_n hx hb dc_O_release_95 rfl (lv_at hl 1 rfl) ?_
    refine lv_isub hx hb dc_O_release_96 ?_
    refine tp_i (y := nI (oc2 - oc)) (pk_sub (by omega)) ?_
    have hP9 := hP.sub (ws' := [zO o0 oa i0 m0 nn, (oa, .inl (cP, 3, .inr (.inr (.inr (.inr pf))))), zP h a b dn n oc2 le ll li lc kc rp, (a, .inl (cI, 40, .inl (nF ch))), (b, .inl (cI, 40, .inl ou2)), zI i0 i1 i2 i3 i4 cn sS lS rS2, (i1, .inl (cI, 40, .inl sv)), (i4, .inl (cJ, 40, .inr (.inl dp)))]) [0, 1, 2, 3, 4, 5, 6, 7] rfl
    have hD9 := hD.sub (ws' := [zO o0 oa i0 m0 nn, (oa, .inl (cP, 3, .inr (.inr (.inr (.inr pf))))), zP h a b dn n oc2 le ll li lc kc rp, (a, .inl (cI, 40, .inl (nF ch))), (b, .inl (cI, 40, .inl ou2)), zI i0 i1 i2 i3 i4 cn sS lS rS2, (i1, .inl (cI, 40, .inl sv)), (i4, .inl (cJ, 40, .inr (.inl dp)))]) [0, 1, 2, 3, 4, 5, 6, 7] (by decide) rfl
    exact W.iret (v := nI (oc2 - oc)) hx hb hr (fun t ht hW => ⟨⟨_, (), rfl, rfl, by rw [ht]; exact hP9, va_K.moved hW.alike hK, hD9⟩, hS.F ht⟩) hS.2.2 dc_O_release_97
  · have hk : k < n := Nat.lt_of_not_le (fun h9 => hc ((nI_leI (by omega) (by omega)).mpr h9))
    have hck := hch k hk
    refine lv_aload_n hx hb dc_O_release_34 rfl (lv_at hl 2 rfl) ?_
    refine va_get (D := (dC, dI)) (ci := 2) (v := .ref a) (C := cn_P) (T := ft_P) (N := 11) hx hb htb ki_P hown hK hP 2 rfl rfl 0 (by decide) (htb _ kw_23) (fun _ h9 => h9) rfl dc_O_release_35 ?_
    refine lv_iload hx hb dc_O_release_38 (lv_at hl 0 rfl) ?_
    refine wa_nld (k := k) hx hb hK hP 3 0 rfl rfl (by omega) (by omega) dc_O_release_40 ?_
    refine lv_istore (lv' := [(5, .int (nI (ch k))), (4, .int (nI k)), (3, .int (nI oc)), (2, .ref h), (1, .int (nI j)), (0, .ref o0)]) hx hb dc_O_release_41 hl (by decide) rfl (fun ls hl => ?_)
    refine lv_aload_n hx hb dc_O_release_43 rfl (lv_at hl 5 rfl) ?_
    refine va_get (D := (dC, dI)) (ci := 3) (v := .ref i0) (C := cn_O) (T := ft_O) (N := 4) hx hb htb ki_O hown hK hP 0 rfl rfl 1 (by decide) (htb _ kw_140) (fun _ h9 => h9) rfl dc_O_release_44 ?_
    refine lv_iload hx hb dc_O_release_47 (lv_at hl 0 rfl) ?_
    refine cl_i (wc := [zI i0 i1 i2 i3 i4 cn sS lS z, (i1, .inl (cI, 40, .inl sv)), (i4, .inl (cJ, 40, .inr (.inl dp)))]) (wr := [zO o0 oa i0 m0 nn, (oa, .inl (cP, 3, .inr (.inr (.inr (.inr pf))))), zP h a b dn n q le ll li lc kc rp, (a, .inl (cI, 40, .inl (nF ch))), (b, .inl (cI, 40, .inl g))]) (w1 := [zI i0 i1 i2 i3 i4 cn sS lS z, (i1, .inl (cI, 40, .inl sv)), (i4, .inl (cJ, 40, .inr (.inl dp)))]) hP hD hS hA [5, 6, 7] [0, 1, 2, 3, 4] rfl rfl (by decide) (by decide) (va_runV (As := [.int (nI (ch k))]) (rest := []) ⟨hx, hb, hml, hown, htb⟩ (oc_I_isReleasable l dC dI cI cJ cZ cP _ i0 i1 i2 i3 i4 cn sS lS z sv dp (ch k) (by first | assumption | omega)) (cwV 1 htb (gw_V kw_314 kw_315 kw_316 kw_3 kw_317) rfl rfl rfl (by decide +kernel) ⟨Nat.le_of_ble_eq_true rfl, Nat.le_of_ble_eq_true rfl⟩) (pr_V hP hK hD (va_recv hK hP (ci := 0) (q0 := 5) rfl rfl) [5, 6, 7] (by decide) rfl rfl) rfl rfl hl.1 rfl (lv_room (Nat.le_of_ble_eq_true rfl)) dc_O_release_49 ⟨Nat.le_of_ble_eq_true rfl, Nat.le_of_ble_eq_true rfl⟩) (fun H locs hP hD hS => ?_)
    have hP : va_P (dC, dI) clsL [zO o0 oa i0 m0 nn, (oa, .inl (cP, 3, .inr (.inr (.inr (.inr pf))))), zP h a b dn n q le ll li lc kc rp, (a, .inl (cI, 40, .inl (nF ch))), (b, .inl (cI, 40, .inl g)), zI i0 i1 i2 i3 i4 cn sS lS z, (i1, .inl (cI, 40, .inl sv)), (i4, .inl (cJ, 40, .inr (.inl dp)))] H := hP.sub (ws' := [zO o0 oa i0 m0 nn, (oa, .inl (cP, 3, .inr (.inr (.inr (.inr pf))))), zP h a b dn n q le ll li lc kc rp, (a, .inl (cI, 40, .inl (nF ch))), (b, .inl (cI, 40, .inl g)), zI i0 i1 i2 i3 i4 cn sS lS z, (i1, .inl (cI, 40, .inl sv)), (i4, .inl (cJ, 40, .inr (.inl dp)))]) [0, 1, 2, 3, 4, 5, 6, 7] rfl
    have hD : va_D A [zO o0 oa i0 m0 nn, (oa, .inl (cP, 3, .inr (.inr (.inr (.inr pf))))), zP h a b dn n q le ll li lc kc rp, (a, .inl (cI, 40, .inl (nF ch))), (b, .inl (cI, 40, .inl g)), zI i0 i1 i2 i3 i4 cn sS lS z, (i1, .inl (cI, 40, .inl sv)), (i4, .inl (cJ, 40, .inr (.inl dp)))] := hD.sub (ws' := [zO o0 oa i0 m0 nn, (oa, .inl (cP, 3, .inr (.inr (.inr (.inr pf))))), zP h a b dn n q le ll li lc kc rp, (a, .inl (cI, 40, .inl (nF ch))), (b, .inl (cI, 40, .inl g)), zI i0 i1 i2 i3 i4 cn sS lS z, (i1, .inl (cI, 40, .inl sv)), (i4, .inl (cJ, 40, .inr (.inl dp)))]) [0, 1, 2, 3, 4, 5, 6, 7] (by decide) rfl
    refine lv_if_eq (tgt := 85) hx hb dc_O_release_52 (by decide) (fun hc => ?_) (fun hc => ?_)
    · have h2 : (rl_B sv dp sS z (ch k)) = false := bI_0.mp hc
      refine lv_iinc (k := 1) (v := nI (k + 1)) (lv' := [(4, .int (nI (k + 1))), (5, .int (nI (ch k))), (3, .int (nI oc)), (2, .ref h), (1, .int (nI j)), (0, .ref o0)]) hx hb dc_O_release_85 hl rfl (nI_inc1 _) (by decide) rfl (fun ls hl => ?_)
      refine lv_goto (tgt := 25) hx hb dc_O_release_88 (by decide) ?_
      exact ih (k + 1, z, q, g) H locs ls (by first | omega | (dsimp only; omega)) ⟨⟨by first | omega | (dsimp only; omega), by simp only [re_S]; rw [← hI.2.1]; simp [h2], by first | omega | (dsimp only; omega), by first | omega | (dsimp only; omega)⟩, hP, hD, hS, lv_sub hl [0, 2, 3, 4, 5] rfl⟩
    · have h2 : (rl_B sv dp sS z (ch k)) = true := bI_n0.mp hc
      have hq40 : q < 40 := by have h7 := hro k hk; rw [← hI.2.1] at h7; exact h7 h2
      refine lv_aload_n hx hb dc_O_release_55 rfl (lv_at hl 5 rfl) ?_
      refine va_get (D := (dC, dI)) (ci := 3) (v := .ref i0) (C := cn_O) (T := ft_O) (N := 4) hx hb htb ki_O hown hK hP 0 rfl rfl 1 (by decide) (htb _ kw_140) (fun _ h9 => h9) rfl dc_O_release_56 ?_
      refine lv_dup hx hb dc_O_release_59 rfl ?_
      refine va_get (D := (dC, dI)) (ci := 0) (v := .long z) (C := cn_I) (T := ft_I) (N := 8) hx hb htb ki_I hown hK hP 5 rfl rfl 7 (by decide) (htb _ kw_86) (fun _ h9 => h9) rfl dc_O_release_60 ?_
      refine lv_lconst (v := 1) hx hb dc_O_release_63 rfl ?_
      refine lv_iload hx hb dc_O_release_64 (lv_at hl 0 rfl) ?_
      refine lv_lshl (v := bt (ch k)) hx hb dc_O_release_66 rfl ?_
      refine lv_lor hx hb dc_O_release_67 ?_
      refine va_put (D := (dC, dI)) (ci := 0) (v := .long (z ||| (bt (ch k)))) (ty := .long) (C := cn_I) (T := ft_I) (N := 8) hx hb htb ki_I fy_I fy_I_ok nm_I_d hown hK hP hD hS 5 rfl rfl 7 (by decide) (htb _ kw_86) (fun _ h9 => h9) rfl (by decide +kernel) rfl rfl (Nat.le_of_ble_eq_true rfl) dc_O_release_68 (fun H locs hP hD hS => ?_)
      have hP : va_P (dC, dI) clsL [zO o0 oa i0 m0 nn, (oa, .inl (cP, 3, .inr (.inr (.inr (.inr pf))))), zP h a b dn n q le ll li lc kc rp, (a, .inl (cI, 40, .inl (nF ch))), (b, .inl (cI, 40, .inl g)), zI i0 i1 i2 i3 i4 cn sS lS (z ||| (bt (ch k))), (i1, .inl (cI, 40, .inl sv)), (i4, .inl (cJ, 40, .inr (.inl dp)))] H := hP
      have hD : va_D A [zO o0 oa i0 m0 nn, (oa, .inl (cP, 3, .inr (.inr (.inr (.inr pf))))), zP h a b dn n q le ll li lc kc rp, (a, .inl (cI, 40, .inl (nF ch))), (b, .inl (cI, 40, .inl g)), zI i0 i1 i2 i3 i4 cn sS lS (z ||| (bt (ch k))), (i1, .inl (cI, 40, .inl sv)), (i4, .inl (cJ, 40, .inr (.inl dp)))] := hD
      refine lv_aload_n hx hb dc_O_release_71 rfl (lv_at hl 3 rfl) ?_
      refine lv_aload_n hx hb dc_O_release_72 rfl (lv_at hl 5 rfl) ?_
      refine va_get (D := (dC, dI)) (ci := 3) (v := .ref i0) (C := cn_O) (T := ft_O) (N := 4) hx hb htb ki_O hown hK hP 0 rfl rfl 1 (by decide) (htb _ kw_140) (fun _ h9 => h9) rfl dc_O_release_73 ?_
      refine va_get (D := (dC, dI)) (ci := 0) (v := .ref i1) (C := cn_I) (T := ft_I) (N := 8) hx hb htb ki_I hown hK hP 5 rfl rfl 0 (by decide) (htb _ kw_73) (fun _ h9 => h9) rfl dc_O_release_76 ?_
      refine lv_iload hx hb dc_O_release_79 (lv_at hl 0 rfl) ?_
      refine wa_ild (k := ch k) hx hb hK hP 6 0 rfl rfl (by omega) (by omega) dc_O_release_81 ?_
      refine cl_v (wc := [zP h a b dn n q le ll li lc kc rp, (b, .inl (cI, 40, .inl g))]) (wr := [zO o0 oa i0 m0 nn, (oa, .inl (cP, 3, .inr (.inr (.inr (.inr pf))))), (a, .inl (cI, 40, .inl (nF ch))), zI i0 i1 i2 i3 i4 cn sS lS (z ||| (bt (ch k))), (i1, .inl (cI, 40, .inl sv)), (i4, .inl (cJ, 40, .inr (.inl dp)))]) (w1 := [zP h a b dn n (q + 1) le ll li lc kc rp, (b, .inl (cI, 40, .inl (va_up g q (sv (ch k)))))]) hP hD hS hA [2, 4] [0, 1, 3, 5, 6, 7] rfl rfl (by decide) (by decide) (va_runV (As := [.int (sv (ch k))]) (rest := []) ⟨hx, hb, hml, hown, htb⟩ (oc_P_addOutput l dC dI cI cJ cZ cP _ h a b dn n q le ll li lc kc rp g (sv (ch k)) (by first | assumption | omega)) (cwV 1 htb (gw_V kw_319 kw_320 kw_321 kw_2 kw_322) rfl rfl rfl (by decide +kernel) ⟨Nat.le_of_ble_eq_true rfl, Nat.le_of_ble_eq_true rfl⟩) (pr_V hP hK hD (va_recv hK hP (ci := 2) (q0 := 2) rfl rfl) [2, 4] (by decide) rfl rfl) rfl rfl hl.1 rfl (lv_room (Nat.le_of_ble_eq_true rfl)) dc_O_release_82 ⟨Nat.le_of_ble_eq_true rfl, Nat.le_of_ble_eq_true rfl⟩) (fun H locs hP hD hS => ?_)
      have hP : va_P (dC, dI) clsL [zO o0 oa i0 m0 nn, (oa, .inl (cP, 3, .inr (.inr (.inr (.inr pf))))), zP h a b dn n (q + 1) le ll li lc kc rp, (a, .inl (cI, 40, .inl (nF ch))), (b, .inl (cI, 40, .inl (va_up g q (sv (ch k))))), zI i0 i1 i2 i3 i4 cn sS lS (z ||| (bt (ch k))), (i1, .inl (cI, 40, .inl sv)), (i4, .inl (cJ, 40, .inr (.inl dp)))] H := hP.sub (ws' := [zO o0 oa i0 m0 nn, (oa, .inl (cP, 3, .inr (.inr (.inr (.inr pf))))), zP h a b dn n (q + 1) le ll li lc kc rp, (a, .inl (cI, 40, .inl (nF ch))), (b, .inl (cI, 40, .inl (va_up g q (sv (ch k))))), zI i0 i1 i2 i3 i4 cn sS lS (z ||| (bt (ch k))), (i1, .inl (cI, 40, .inl sv)), (i4, .inl (cJ, 40, .inr (.inl dp)))]) [0, 1, 6, 2, 7, 3, 4, 5] rfl
      have hD : va_D A [zO o0 oa i0 m0 nn, (oa, .inl (cP, 3, .inr (.inr (.inr (.inr pf))))), zP h a b dn n (q + 1) le ll li lc kc rp, (a, .inl (cI, 40, .inl (nF ch))), (b, .inl (cI, 40, .inl (va_up g q (sv (ch k))))), zI i0 i1 i2 i3 i4 cn sS lS (z ||| (bt (ch k))), (i1, .inl (cI, 40, .inl sv)), (i4, .inl (cJ, 40, .inr (.inl dp)))] := hD.sub (ws' := [zO o0 oa i0 m0 nn, (oa, .inl (cP, 3, .inr (.inr (.inr (.inr pf))))), zP h a b dn n (q + 1) le ll li lc kc rp, (a, .inl (cI, 40, .inl (nF ch))), (b, .inl (cI, 40, .inl (va_up g q (sv (ch k))))), zI i0 i1 i2 i3 i4 cn sS lS (z ||| (bt (ch k))), (i1, .inl (cI, 40, .inl sv)), (i4, .inl (cJ, 40, .inr (.inl dp)))]) [0, 1, 6, 2, 7, 3, 4, 5] (by decide) rfl
      refine lv_iinc (k := 1) (v := nI (k + 1)) (lv' := [(4, .int (nI (k + 1))), (5, .int (nI (ch k))), (3, .int (nI oc)), (2, .ref h), (1, .int (nI j)), (0, .ref o0)]) hx hb dc_O_release_85 hl rfl (nI_inc1 _) (by decide) rfl (fun ls hl => ?_)
      refine lv_goto (tgt := 25) hx hb dc_O_release_88 (by decide) ?_
      exact ih (k + 1, z ||| (bt (ch k)), (q + 1), (va_up g q (sv (ch k)))) H locs ls (by first | omega | (dsimp only; omega)) ⟨⟨by first | omega | (dsimp only; omega), by simp only [re_S]; rw [← hI.2.1]; simp [h2], by first | omega | (dsimp only; omega), by first | omega | (dsimp only; omega)⟩, hP, hD, hS, lv_sub hl [0, 2, 3, 4, 5] rfl⟩

set_option maxHeartbeats 4000000 in
set_option maxRecDepth 100000 in
theorem oc_O_released_no (l : Launch) (dC : Nat → ClassId) (dI : Nat → Nat → Nat) (cI cJ cZ cP : ClassId) (sz : Nat) (o0 : Nat) (oa : Nat) (i0 : Nat) (m0 : Nat) (nn : Nat) (y : Int32) (w : Int32) (hy : y < 0 ∨ nI 3 ≤ y) : mt_I l mn_O_released bc_O_released 3 (some .int) ({ frames := 1, cells := 0, slots := 0, locals := 20 }) (dC, dI) (TYS cI cJ cZ cP) sz [.ref o0, .int y, .int w] [zO o0 oa i0 m0 nn] [zO o0 oa i0 m0 nn] (nI 0) 0 0 := by
  unfold mt_I
  refine Met.ofW (cc := bc_O_released) (maxL := 3) (ret := (some .int)) (by decide) rfl ?_
  intro p e s m args below meth c s₁ B hml hv
  obtain ⟨rfl, hsz, hP, hK, hD0⟩ := hv
  have hx := B.exec
  have hb := B.bytes
  have hr := B.returns
  have hts := atoms_spec (ws := wsT mn_O_released bc_O_released 3 (some .int)) B.pre
  have htb : ∀ w ∈ gtbl, w.before _ s = true := fun w h => hts w (List.mem_cons_of_mem _ h)
  have hown : s.vm.findClass cn_O = some m.cls := findClass_of_methodNamed B.named
  have hlocks := B.notSynchronized
  subst hsz
  have hD := hD0.self (sz := s.heap.size)
  generalize hAe : va_A [zO o0 oa i0 m0 nn] s.heap.size = A at hD ⊢
  have hA : ∀ q : Nat, s.heap.size ≤ q → A q := fun q h => by rw [← hAe]; exact Or.inr h
  have hS : va_S A s.heap s.heap [] := va_S.rf
  have hP : va_P (dC, dI) clsL [zO o0 oa i0 m0 nn] s.heap := hP
  have hl := lv_entry ([.ref o0, .int y, .int w]) (n := 3) (Nat.le_of_ble_eq_true rfl)
  rw [lg_entry_eq]
  generalize (lg_sl ([.ref o0, .int y, .int w]) ++ List.replicate (3 - (lg_sl ([.ref o0, .int y, .int w])).length) Slot.unset).toArray = ls at hl ⊢
  have hl : lv_has ls 3 [(0, .ref o0), (1, .int y), (2, .int w)] := hl
  refine lv_iload_n hx hb dc_O_released_0 rfl (lv_at hl 1 rfl) ?_
  refine cl_i (wc := []) (wr := [zO o0 oa i0 m0 nn]) (w1 := []) hP hD hS hA [] [0] rfl rfl (by decide) (by decide) (va_runS (As := [.int y]) (rest := []) ⟨hx, hb, hml, hown, htb⟩ (oc_O_isProcess_no l dC dI cI cJ cZ cP _ y (by first | assumption | omega)) (va_cwS 1 htb (gw_S kw_172 kw_173 kw_1 kw_174) rfl rfl rfl (by decide +kernel) ⟨Nat.le_of_ble_eq_true rfl, Nat.le_of_ble_eq_true rfl⟩) (pr_S hP hK hD [] (by decide) rfl rfl) rfl rfl hl.1 rfl (lv_room (Nat.le_of_ble_eq_true rfl)) dc_O_released_1 ⟨Nat.le_of_ble_eq_true rfl, Nat.le_of_ble_eq_true rfl⟩) (fun H locs hP hD hS => ?_)
  have hP : va_P (dC, dI) clsL [zO o0 oa i0 m0 nn] H := hP.sub (ws' := [zO o0 oa i0 m0 nn]) [0] rfl
  have hD : va_D A [zO o0 oa i0 m0 nn] := hD.sub (ws' := [zO o0 oa i0 m0 nn]) [0] (by decide) rfl
  refine lv_if_eq (tgt := 24) hx hb dc_O_released_4 (by decide) (fun hc => ?_) (fun hc => ?_)
  rotate_left
  · have h1 : false = true := bI_n0.mp hc
    exact absurd h1 (by decide)
  have h1 : false = false := bI_0.mp hc
  refine lv_iconst (v := nI 0) hx hb dc_O_released_24 (by decide) ?_
  have hP9 := hP.sub (ws' := [zO o0 oa i0 m0 nn]) [0] rfl
  have hD9 := hD.sub (ws' := [zO o0 oa i0 m0 nn]) [0] (by decide) rfl
  exact W.iret (v := nI 0) hx hb hr (fun t ht hW => ⟨⟨_, (), rfl, rfl, by rw [ht]; exact hP9, va_K.moved hW.alike hK, hD9⟩, hS.F ht⟩) hS.2.2 dc_O_released_25

set_option maxHeartbeats 4000000 in
set_option maxRecDepth 100000 in
theorem oc_O_released_nk (l : Launch) (dC : Nat → ClassId) (dI : Nat → Nat → Nat) (cI cJ cZ cP : ClassId) (sz : Nat) (o0 : Nat) (oa : Nat) (i0 : Nat) (m0 : Nat) (nn : Nat) (pf : Nat → Option Nat) (h : Nat) (a : Nat) (b : Nat) (dn : Bool) (n : Nat) (oc : Nat) (le : Nat) (ll : Int64) (li : Int64) (lc : Nat) (kc : Nat) (rp : Int32) (j : Nat) (w : Int32) (hj : j < 3) (hf : pf j = some h) (hw : w < 0 ∨ nI oc ≤ w) : mt_I l mn_O_released bc_O_released 3 (some .int) ({ frames := 1, cells := 0, slots := 0, locals := 20 }) (dC, dI) (TYS cI cJ cZ cP) sz [.ref o0, .int (nI j), .int w] [zO o0 oa i0 m0 nn, (oa, .inl (cP, 3, .inr (.inr (.inr (.inr pf))))), zP h a b dn n oc le ll li lc kc rp] [zO o0 oa i0 m0 nn, (oa, .inl (cP, 3, .inr (.inr (.inr (.inr pf))))), zP h a b dn n oc le ll li lc kc rp] (nI 0) 0 0 := by
  unfold mt_I
  refine Met.ofW (cc := bc_O_released) (maxL := 3) (ret := (some .int)) (by decide) rfl ?_
  intro p e s m args below meth c s₁ B hml hv
  obtain ⟨rfl, hsz, hP, hK, hD0⟩ := hv
  have hx := B.exec
  have hb := B.bytes
  have hr := B.returns
  have hts := atoms_spec (ws := wsT mn_O_released bc_O_released 3 (some .int)) B.pre
  have htb : ∀ w ∈ gtbl, w.before _ s = true := fun w h => hts w (List.mem_cons_of_mem _ h)
  have hown : s.vm.findClass cn_O = some m.cls := findClass_of_methodNamed B.named
  have hlocks := B.notSynchronized
  subst hsz
  have hD := hD0.self (sz := s.heap.size)
  generalize hAe : va_A [zO o0 oa i0 m0 nn, (oa, .inl (cP, 3, .inr (.inr (.inr (.inr pf))))), zP h a b dn n oc le ll li lc kc rp] s.heap.size = A at hD ⊢
  have hA : ∀ q : Nat, s.heap.size ≤ q → A q := fun q h => by rw [← hAe]; exact Or.inr h
  have hS : va_S A s.heap s.heap [] := va_S.rf
  have hP : va_P (dC, dI) clsL [zO o0 oa i0 m0 nn, (oa, .inl (cP, 3, .inr (.inr (.inr (.inr pf))))), zP h a b dn n oc le ll li lc kc rp] s.heap := hP
  have hl := lv_entry ([.ref o0, .int (nI j), .int w]) (n := 3) (Nat.le_of_ble_eq_true rfl)
  rw [lg_entry_eq]
  generalize (lg_sl ([.ref o0, .int (nI j), .int w]) ++ List.replicate (3 - (lg_sl ([.ref o0, .int (nI j), .int w])).length) Slot.unset).toArray = ls at hl ⊢
  have hl : lv_has ls 3 [(0, .ref o0), (1, .int (nI j)), (2, .int w)] := hl
  refine lv_iload_n hx hb dc_O_released_0 rfl (lv_at hl 1 rfl) ?_
  refine cl_i (wc := []) (wr := [zO o0 oa i0 m0 nn, (oa, .inl (cP, 3, .inr (.inr (.inr (.inr pf))))), zP h a b dn n oc le ll li lc kc rp]) (w1 := []) hP hD hS hA [] [0, 1, 2] rfl rfl (by decide) (by decide) (va_runS (As := [.int (nI j)]) (rest := []) ⟨hx, hb, hml, hown, htb⟩ (oc_O_isProcess l dC dI cI cJ cZ cP _ j (by first | assumption | omega)) (va_cwS 1 htb (gw_S kw_172 kw_173 kw_1 kw_174) rfl rfl rfl (by decide +kernel) ⟨Nat.le_of_ble_eq_true rfl, Nat.le_of_ble_eq_true rfl⟩) (pr_S hP hK hD [] (by decide) rfl rfl) rfl rfl hl.1 rfl (lv_room (Nat.le_of_ble_eq_true rfl)) dc_O_released_1 ⟨Nat.le_of_ble_eq_true rfl, Nat.le_of_ble_eq_true rfl⟩) (fun H locs hP hD hS => ?_)
  have hP : va_P (dC, dI) clsL [zO o0 oa i0 m0 nn, (oa, .inl (cP, 3, .inr (.inr (.inr (.inr pf))))), zP h a b dn n oc le ll li lc kc rp] H := hP.sub (ws' := [zO o0 oa i0 m0 nn, (oa, .inl (cP, 3, .inr (.inr (.inr (.inr pf))))), zP h a b dn n oc le ll li lc kc rp]) [0, 1, 2] rfl
  have hD : va_D A [zO o0 oa i0 m0 nn, (oa, .inl (cP, 3, .inr (.inr (.inr (.inr pf))))), zP h a b dn n oc le ll li lc kc rp] := hD.sub (ws' := [zO o0 oa i0 m0 nn, (oa, .inl (cP, 3, .inr (.inr (.inr (.inr pf))))), zP h a b dn n oc le ll li lc kc rp]) [0, 1, 2] (by decide) rfl
  refine lv_if_eq (tgt := 24) hx hb dc_O_released_4 (by decide) (fun hc => ?_) (fun hc => ?_)
  · have h1 : true = false := bI_0.mp hc
    exact absurd h1 (by decide)
  have h1 : true = true := bI_n0.mp hc
  refine lv_iload_n hx hb dc_O_released_7 rfl (lv_at hl 2 rfl) ?_
  refine lv_if_lt (tgt := 24) hx hb dc_O_released_8 (by decide) (fun hc => ?_) (fun hc => ?_)
  · have h2 := hc
    refine lv_iconst (v := nI 0) hx hb dc_O_released_24 (by decide) ?_
    have hP9 := hP.sub (ws' := [zO o0 oa i0 m0 nn, (oa, .inl (cP, 3, .inr (.inr (.inr (.inr pf))))), zP h a b dn n oc le ll li lc kc rp]) [0, 1, 2] rfl
    have hD9 := hD.sub (ws' := [zO o0 oa i0 m0 nn, (oa, .inl (cP, 3, .inr (.inr (.inr (.inr pf))))), zP h a b dn n oc le ll li lc kc rp]) [0, 1, 2] (by decide) rfl
    exact W.iret (v := nI 0) hx hb hr (fun t ht hW => ⟨⟨_, (), rfl, rfl, by rw [ht]; exact hP9, va_K.moved hW.alike hK, hD9⟩, hS.F ht⟩) hS.2.2 dc_O_released_25
  · have h2 := hc
    refine lv_iload_n hx hb dc_O_released_11 rfl (lv_at hl 2 rfl) ?_
    refine lv_aload_n hx hb dc_O_released_12 rfl (lv_at hl 0 rfl) ?_
    refine va_get (D := (dC, dI)) (ci := 3) (v := .ref oa) (C := cn_O) (T := ft_O) (N := 4) hx hb htb ki_O hown hK hP 0 rfl rfl 0 (by decide) (htb _ kw_139) (fun _ h9 => h9) rfl dc_O_released_13 ?_
    refine lv_iload_n hx hb dc_O_released_16 rfl (lv_at hl 1 rfl) ?_
    refine wa_ald hx hb hK hP 1 3 rfl rfl (k := j) (by omega) (by omega) (v := h) (hf) dc_O_released_17 ?_
    refine va_get (D := (dC, dI)) (ci := 2) (v := .int (nI oc)) (C := cn_P) (T := ft_P) (N := 11) hx hb htb ki_P hown hK hP 2 rfl rfl 4 (by decide) (htb _ kw_31) (fun _ h9 => h9) rfl dc_O_released_18 ?_
    refine lv_icmp_lt (tgt := 26) hx hb dc_O_released_21 (by decide) (fun hc => ?_) (fun hc => ?_)
    · have h3 := hc
      exact absurd hw (fun q => q.elim h2 (fun h9 => nlt_le h3 h9))
    have h3 := hc
    refine lv_iconst (v := nI 0) hx hb dc_O_released_24 (by decide) ?_
    have hP9 := hP.sub (ws' := [zO o0 oa i0 m0 nn, (oa, .inl (cP, 3, .inr (.inr (.inr (.inr pf))))), zP h a b dn n oc le ll li lc kc rp]) [0, 1, 2] rfl
    have hD9 := hD.sub (ws' := [zO o0 oa i0 m0 nn, (oa, .inl (cP, 3, .inr (.inr (.inr (.inr pf))))), zP h a b dn n oc le ll li lc kc rp]) [0, 1, 2] (by decide) rfl
    exact W.iret (v := nI 0) hx hb hr (fun t ht hW => ⟨⟨_, (), rfl, rfl, by rw [ht]; exact hP9, va_K.moved hW.alike hK, hD9⟩, hS.F ht⟩) hS.2.2 dc_O_released_25

set_option maxHeartbeats 4000000 in
set_option maxRecDepth 100000 in
theorem oc_O_released (l : Launch) (dC : Nat → ClassId) (dI : Nat → Nat → Nat) (cI cJ cZ cP : ClassId) (sz : Nat) (o0 : Nat) (oa : Nat) (i0 : Nat) (m0 : Nat) (nn : Nat) (pf : Nat → Option Nat) (h : Nat) (a : Nat) (b : Nat) (dn : Bool) (n : Nat) (oc : Nat) (le : Nat) (ll : Int64) (li : Int64) (lc : Nat) (kc : Nat) (rp : Int32) (ou : Nat → Int32) (j : Nat) (k : Nat) (hj : j < 3) (hf : pf j = some h) (hk : k < oc) (hoc : oc ≤ 40) : mt_I l mn_O_released bc_O_released 3 (some .int) ({ frames := 1, cells := 0, slots := 0, locals := 20 }) (dC, dI) (TYS cI cJ cZ cP) sz [.ref o0, .int (nI j), .int (nI k)] [zO o0 oa i0 m0 nn, (oa, .inl (cP, 3, .inr (.inr (.inr (.inr pf))))), zP h a b dn n oc le ll li lc kc rp, (b, .inl (cI, 40, .inl ou))] [zO o0 oa i0 m0 nn, (oa, .inl (cP, 3, .inr (.inr (.inr (.inr pf))))), zP h a b dn n oc le ll li lc kc rp, (b, .inl (cI, 40, .inl ou))] ((ou k)) 0 0 := by
  unfold mt_I
  refine Met.ofW (cc := bc_O_released) (maxL := 3) (ret := (some .int)) (by decide) rfl ?_
  intro p e s m args below meth c s₁ B hml hv
  obtain ⟨rfl, hsz, hP, hK, hD0⟩ := hv
  have hx := B.exec
  have hb := B.bytes
  have hr := B.returns
  have hts := atoms_spec (ws := wsT mn_O_released bc_O_released 3 (some .int)) B.pre
  have htb : ∀ w ∈ gtbl, w.before _ s = true := fun w h => hts w (List.mem_cons_of_mem _ h)
  have hown : s.vm.findClass cn_O = some m.cls := findClass_of_methodNamed B.named
  have hlocks := B.notSynchronized
  subst hsz
  have hD := hD0.self (sz := s.heap.size)
  generalize hAe : va_A [zO o0 oa i0 m0 nn, (oa, .inl (cP, 3, .inr (.inr (.inr (.inr pf))))), zP h a b dn n oc le ll li lc kc rp, (b, .inl (cI, 40, .inl ou))] s.heap.size = A at hD ⊢
  have hA : ∀ q : Nat, s.heap.size ≤ q → A q := fun q h => by rw [← hAe]; exact Or.inr h
  have hS : va_S A s.heap s.heap [] := va_S.rf
  have hP : va_P (dC, dI) clsL [zO o0 oa i0 m0 nn, (oa, .inl (cP, 3, .inr (.inr (.inr (.inr pf))))), zP h a b dn n oc le ll li lc kc rp, (b, .inl (cI, 40, .inl ou))] s.heap := hP
  have hl := lv_entry ([.ref o0, .int (nI j), .int (nI k)]) (n := 3) (Nat.le_of_ble_eq_true rfl)
  rw [lg_entry_eq]
  generalize (lg_sl ([.ref o0, .int (nI j), .int (nI k)]) ++ List.replicate (3 - (lg_sl ([.ref o0, .int (nI j), .int (nI k)])).length) Slot.unset).toArray = ls at hl ⊢
  have hl : lv_has ls 3 [(0, .ref o0), (1, .int (nI j)), (2, .int (nI k))] := hl
  refine lv_iload_n hx hb dc_O_released_0 rfl (lv_at hl 1 rfl) ?_
  refine cl_i (wc := []) (wr := [zO o0 oa i0 m0 nn, (oa, .inl (cP, 3, .inr (.inr (.inr (.inr pf))))), zP h a b dn n oc le ll li lc kc rp, (b, .inl (cI, 40, .inl ou))]) (w1 := []) hP hD hS hA [] [0, 1, 2, 3] rfl rfl (by decide) (by decide) (va_runS (As := [.int (nI j)]) (rest := []) ⟨hx, hb, hml, hown, htb⟩ (oc_O_isProcess l dC dI cI cJ cZ cP _ j (by first | assumption | omega)) (va_cwS 1 htb (gw_S kw_172 kw_173 kw_1 kw_174) rfl rfl rfl (by decide +kernel) ⟨Nat.le_of_ble_eq_true rfl, Nat.le_of_ble_eq_true rfl⟩) (pr_S hP hK hD [] (by decide) rfl rfl) rfl rfl hl.1 rfl (lv_room (Nat.le_of_ble_eq_true rfl)) dc_O_released_1 ⟨Nat.le_of_ble_eq_true rfl, Nat.le_of_ble_eq_true rfl⟩) (fun H locs hP hD hS => ?_)
  have hP : va_P (dC, dI) clsL [zO o0 oa i0 m0 nn, (oa, .inl (cP, 3, .inr (.inr (.inr (.inr pf))))), zP h a b dn n oc le ll li lc kc rp, (b, .inl (cI, 40, .inl ou))] H := hP.sub (ws' := [zO o0 oa i0 m0 nn, (oa, .inl (cP, 3, .inr (.inr (.inr (.inr pf))))), zP h a b dn n oc le ll li lc kc rp, (b, .inl (cI, 40, .inl ou))]) [0, 1, 2, 3] rfl
  have hD : va_D A [zO o0 oa i0 m0 nn, (oa, .inl (cP, 3, .inr (.inr (.inr (.inr pf))))), zP h a b dn n oc le ll li lc kc rp, (b, .inl (cI, 40, .inl ou))] := hD.sub (ws' := [zO o0 oa i0 m0 nn, (oa, .inl (cP, 3, .inr (.inr (.inr (.inr pf))))), zP h a b dn n oc le ll li lc kc rp, (b, .inl (cI, 40, .inl ou))]) [0, 1, 2, 3] (by decide) rfl
  refine lv_if_eq (tgt := 24) hx hb dc_O_released_4 (by decide) (fun hc => ?_) (fun hc => ?_)
  · have h1 : true = false := bI_0.mp hc
    exact absurd h1 (by decide)
  have h1 : true = true := bI_n0.mp hc
  refine lv_iload_n hx hb dc_O_released_7 rfl (lv_at hl 2 rfl) ?_
  refine lv_if_lt (tgt := 24) hx hb dc_O_released_8 (by decide) (fun hc => ?_) (fun hc => ?_)
  · have h2 : False := nI_pos (by omega) hc
    exact h2.elim
  have h2 : 0 ≤ k := Nat.zero_le _
  refine lv_iload_n hx hb dc_O_released_11 rfl (lv_at hl 2 rfl) ?_
  refine lv_aload_n hx hb dc_O_released_12 rfl (lv_at hl 0 rfl) ?_
  refine va_get (D := (dC, dI)) (ci := 3) (v := .ref oa) (C := cn_O) (T := ft_O) (N := 4) hx hb htb ki_O hown hK hP 0 rfl rfl 0 (by decide) (htb _ kw_139) (fun _ h9 => h9) rfl dc_O_released_13 ?_
  refine lv_iload_n hx hb dc_O_released_16 rfl (lv_at hl 1 rfl) ?_
  refine wa_ald hx hb hK hP 1 3 rfl rfl (k := j) (by omega) (by omega) (v := h) (hf) dc_O_released_17 ?_
  refine va_get (D := (dC, dI)) (ci := 2) (v := .int (nI oc)) (C := cn_P) (T := ft_P) (N := 11) hx hb htb ki_P hown hK hP 2 rfl rfl 4 (by decide) (htb _ kw_31) (fun _ h9 => h9) rfl dc_O_released_18 ?_
  refine lv_icmp_lt (tgt := 26) hx hb dc_O_released_21 (by decide) (fun hc => ?_) (fun hc => ?_)
  rotate_left
  · have h3 : oc ≤ k := Nat.le_of_not_lt (fun h9 => hc ((nI_ltI (by omega) (by omega)).mpr h9))
    exact absurd h3 (by omega)
  have h3 : k < oc := (nI_ltI (by omega) (by omega)).mp hc
  refine lv_aload_n hx hb dc_O_released_26 rfl (lv_at hl 0 rfl) ?_
  refine va_get (D := (dC, dI)) (ci := 3) (v := .ref oa) (C := cn_O) (T := ft_O) (N := 4) hx hb htb ki_O hown hK hP 0 rfl rfl 0 (by decide) (htb _ kw_139) (fun _ h9 => h9) rfl dc_O_released_27 ?_
  refine lv_iload_n hx hb dc_O_released_30 rfl (lv_at hl 1 rfl) ?_
  refine wa_ald hx hb hK hP 1 3 rfl rfl (k := j) (by omega) (by omega) (v := h) (hf) dc_O_released_31 ?_
  refine va_get (D := (dC, dI)) (ci := 2) (v := .ref b) (C := cn_P) (T := ft_P) (N := 11) hx hb htb ki_P hown hK hP 2 rfl rfl 1 (by decide) (htb _ kw_25) (fun _ h9 => h9) rfl dc_O_released_32 ?_
  refine lv_iload_n hx hb dc_O_released_35 rfl (lv_at hl 2 rfl) ?_
  refine wa_ild (k := k) hx hb hK hP 3 0 rfl rfl (by omega) (by omega) dc_O_released_36 ?_
  have hP9 := hP.sub (ws' := [zO o0 oa i0 m0 nn, (oa, .inl (cP, 3, .inr (.inr (.inr (.inr pf))))), zP h a b dn n oc le ll li lc kc rp, (b, .inl (cI, 40, .inl ou))]) [0, 1, 2, 3] rfl
  have hD9 := hD.sub (ws' := [zO o0 oa i0 m0 nn, (oa, .inl (cP, 3, .inr (.inr (.inr (.inr pf))))), zP h a b dn n oc le ll li lc kc rp, (b, .inl (cI, 40, .inl ou))]) [0, 1, 2, 3] (by decide) rfl
  exact W.iret (v := ou k) hx hb hr (fun t ht hW => ⟨⟨_, (), rfl, rfl, by rw [ht]; exact hP9, va_K.moved hW.alike hK, hD9⟩, hS.F ht⟩) hS.2.2 dc_O_released_37

set_option maxHeartbeats 4000000 in
set_option maxRecDepth 100000 in
theorem oc_O_status_no (l : Launch) (dC : Nat → ClassId) (dI : Nat → Nat → Nat) (cI cJ cZ cP : ClassId) (sz : Nat) (o0 : Nat) (oa : Nat) (i0 : Nat) (m0 : Nat) (nn : Nat) (m1 : Nat) (m2 : Nat) (m3 : Nat) (m4 : Nat) (m5 : Nat) (mn : Nat) (mi : Nat) (y : Int32) (hy : y < 0 ∨ nI mn ≤ y) : mt_I l mn_O_status bc_O_status 2 (some .int) ({ frames := 1, cells := 0, slots := 0, locals := 21 }) (dC, dI) (TYS cI cJ cZ cP) sz [.ref o0, .int y] [zO o0 oa i0 m0 nn, zM m0 m1 m2 m3 m4 m5 mn mi] [zO o0 oa i0 m0 nn, zM m0 m1 m2 m3 m4 m5 mn mi] ((-1)) 0 0 := by
  unfold mt_I
  refine Met.ofW (cc := bc_O_status) (maxL := 2) (ret := (some .int)) (by decide) rfl ?_
  intro p e s m args below meth c s₁ B hml hv
  obtain ⟨rfl, hsz, hP, hK, hD0⟩ := hv
  have hx := B.exec
  have hb := B.bytes
  have hr := B.returns
  have hts := atoms_spec (ws := wsT mn_O_status bc_O_status 2 (some .int)) B.pre
  have htb : ∀ w ∈ gtbl, w.before _ s = true := fun w h => hts w (List.mem_cons_of_mem _ h)
  have hown : s.vm.findClass cn_O = some m.cls := findClass_of_methodNamed B.named
  have hlocks := B.notSynchronized
  subst hsz
  have hD := hD0.self (sz := s.heap.size)
  generalize hAe : va_A [zO o0 oa i0 m0 nn, zM m0 m1 m2 m3 m4 m5 mn mi] s.heap.size = A at hD ⊢
  have hA : ∀ q : Nat, s.heap.size ≤ q → A q := fun q h => by rw [← hAe]; exact Or.inr h
  have hS : va_S A s.heap s.heap [] := va_S.rf
  have hP : va_P (dC, dI) clsL [zO o0 oa i0 m0 nn, zM m0 m1 m2 m3 m4 m5 mn mi] s.heap := hP
  have hl := lv_entry ([.ref o0, .int y]) (n := 2) (Nat.le_of_ble_eq_true rfl)
  rw [lg_entry_eq]
  generalize (lg_sl ([.ref o0, .int y]) ++ List.replicate (2 - (lg_sl ([.ref o0, .int y])).length) Slot.unset).toArray = ls at hl ⊢
  have hl : lv_has ls 2 [(0, .ref o0), (1, .int y)] := hl
  refine lv_aload_n hx hb dc_O_status_0 rfl (lv_at hl 0 rfl) ?_
  refine va_get (D := (dC, dI)) (ci := 3) (v := .ref m0) (C := cn_O) (T := ft_O) (N := 4) hx hb htb ki_O hown hK hP 0 rfl rfl 2 (by decide) (htb _ kw_141) (fun _ h9 => h9) rfl dc_O_status_1 ?_
  refine lv_iload_n hx hb dc_O_status_4 rfl (lv_at hl 1 rfl) ?_
  refine cl_i (wc := [zM m0 m1 m2 m3 m4 m5 mn mi]) (wr := [zO o0 oa i0 m0 nn]) (w1 := [zM m0 m1 m2 m3 m4 m5 mn mi]) hP hD hS hA [1] [0] rfl rfl (by decide) (by decide) (va_runV (As := [.int y]) (rest := []) ⟨hx, hb, hml, hown, htb⟩ (oc_M_isMade_no l dC dI cI cJ cZ cP _ m0 m1 m2 m3 m4 m5 mn mi y (by first | assumption | omega)) (cwV 1 htb (gw_V kw_347 kw_188 kw_189 kw_4 kw_190) rfl rfl rfl (by decide +kernel) ⟨Nat.le_of_ble_eq_true rfl, Nat.le_of_ble_eq_true rfl⟩) (pr_V hP hK hD (va_recv hK hP (ci := 1) (q0 := 1) rfl rfl) [1] (by decide) rfl rfl) rfl rfl hl.1 rfl (lv_room (Nat.le_of_ble_eq_true rfl)) dc_O_status_5 ⟨Nat.le_of_ble_eq_true rfl, Nat.le_of_ble_eq_true rfl⟩) (fun H locs hP hD hS => ?_)
  have hP : va_P (dC, dI) clsL [zO o0 oa i0 m0 nn, zM m0 m1 m2 m3 m4 m5 mn mi] H := hP.sub (ws' := [zO o0 oa i0 m0 nn, zM m0 m1 m2 m3 m4 m5 mn mi]) [0, 1] rfl
  have hD : va_D A [zO o0 oa i0 m0 nn, zM m0 m1 m2 m3 m4 m5 mn mi] := hD.sub (ws' := [zO o0 oa i0 m0 nn, zM m0 m1 m2 m3 m4 m5 mn mi]) [0, 1] (by decide) rfl
  refine lv_if_eq (tgt := 23) hx hb dc_O_status_8 (by decide) (fun hc => ?_) (fun hc => ?_)
  rotate_left
  · have h1 : false = true := bI_n0.mp hc
    exact absurd h1 (by decide)
  have h1 : false = false := bI_0.mp hc
  refine lv_iconst (v := (-1)) hx hb dc_O_status_23 (by decide) ?_
  have hP9 := hP.sub (ws' := [zO o0 oa i0 m0 nn, zM m0 m1 m2 m3 m4 m5 mn mi]) [0, 1] rfl
  have hD9 := hD.sub (ws' := [zO o0 oa i0 m0 nn, zM m0 m1 m2 m3 m4 m5 mn mi]) [0, 1] (by decide) rfl
  exact W.iret (v := (-1)) hx hb hr (fun t ht hW => ⟨⟨_, (), rfl, rfl, by rw [ht]; exact hP9, va_K.moved hW.alike hK, hD9⟩, hS.F ht⟩) hS.2.2 dc_O_status_24

set_option maxHeartbeats 4000000 in
set_option maxRecDepth 100000 in
theorem oc_O_status (l : Launch) (dC : Nat → ClassId) (dI : Nat → Nat → Nat) (cI cJ cZ cP : ClassId) (sz : Nat) (o0 : Nat) (oa : Nat) (i0 : Nat) (m0 : Nat) (nn : Nat) (m1 : Nat) (m2 : Nat) (m3 : Nat) (m4 : Nat) (m5 : Nat) (mn : Nat) (mi : Nat) (su : Nat → Nat) (k : Nat) (hk : k < mn) (hmn : mn ≤ 104) : mt_I l mn_O_status bc_O_status 2 (some .int) ({ frames := 1, cells := 0, slots := 0, locals := 21 }) (dC, dI) (TYS cI cJ cZ cP) sz [.ref o0, .int (nI k)] [zO o0 oa i0 m0 nn, zM m0 m1 m2 m3 m4 m5 mn mi, (m5, .inl (cI, 104, .inl (nF su)))] [zO o0 oa i0 m0 nn, zM m0 m1 m2 m3 m4 m5 mn mi, (m5, .inl (cI, 104, .inl (nF su)))] (nI (su k)) 0 0 := by
  unfold mt_I
  refine Met.ofW (cc := bc_O_status) (maxL := 2) (ret := (some .int)) (by decide) rfl ?_
  intro p e s m args below meth c s₁ B hml hv
  obtain ⟨rfl, hsz, hP, hK, hD0⟩ := hv
  have hx := B.exec
  have hb := B.bytes
  have hr := B.returns
  have hts := atoms_spec (ws := wsT mn_O_status bc_O_status 2 (some .int)) B.pre
  have htb : ∀ w ∈ gtbl, w.before _ s = true := fun w h => hts w (List.mem_cons_of_mem _ h)
  have hown : s.vm.findClass cn_O = some m.cls := findClass_of_methodNamed B.named
  have hlocks := B.notSynchronized
  subst hsz
  have hD := hD0.self (sz := s.heap.size)
  generalize hAe : va_A [zO o0 oa i0 m0 nn, zM m0 m1 m2 m3 m4 m5 mn mi, (m5, .inl (cI, 104, .inl (nF su)))] s.heap.size = A at hD ⊢
  have hA : ∀ q : Nat, s.heap.size ≤ q → A q := fun q h => by rw [← hAe]; exact Or.inr h
  have hS : va_S A s.heap s.heap [] := va_S.rf
  have hP : va_P (dC, dI) clsL [zO o0 oa i0 m0 nn, zM m0 m1 m2 m3 m4 m5 mn mi, (m5, .inl (cI, 104, .inl (nF su)))] s.heap := hP
  have hl := lv_entry ([.ref o0, .int (nI k)]) (n := 2) (Nat.le_of_ble_eq_true rfl)
  rw [lg_entry_eq]
  generalize (lg_sl ([.ref o0, .int (nI k)]) ++ List.replicate (2 - (lg_sl ([.ref o0, .int (nI k)])).length) Slot.unset).toArray = ls at hl ⊢
  have hl : lv_has ls 2 [(0, .ref o0), (1, .int (nI k))] := hl
  refine lv_aload_n hx hb dc_O_status_0 rfl (lv_at hl 0 rfl) ?_
  refine va_get (D := (dC, dI)) (ci := 3) (v := .ref m0) (C := cn_O) (T := ft_O) (N := 4) hx hb htb ki_O hown hK hP 0 rfl rfl 2 (by decide) (htb _ kw_141) (fun _ h9 => h9) rfl dc_O_status_1 ?_
  refine lv_iload_n hx hb dc_O_status_4 rfl (lv_at hl 1 rfl) ?_
  refine cl_i (wc := [zM m0 m1 m2 m3 m4 m5 mn mi]) (wr := [zO o0 oa i0 m0 nn, (m5, .inl (cI, 104, .inl (nF su)))]) (w1 := [zM m0 m1 m2 m3 m4 m5 mn mi]) hP hD hS hA [1] [0, 2] rfl rfl (by decide) (by decide) (va_runV (As := [.int (nI k)]) (rest := []) ⟨hx, hb, hml, hown, htb⟩ (oc_M_isMade_yes l dC dI cI cJ cZ cP _ m0 m1 m2 m3 m4 m5 mn mi k (by first | assumption | omega) (by first | assumption | omega)) (cwV 1 htb (gw_V kw_347 kw_188 kw_189 kw_4 kw_190) rfl rfl rfl (by decide +kernel) ⟨Nat.le_of_ble_eq_true rfl, Nat.le_of_ble_eq_true rfl⟩) (pr_V hP hK hD (va_recv hK hP (ci := 1) (q0 := 1) rfl rfl) [1] (by decide) rfl rfl) rfl rfl hl.1 rfl (lv_room (Nat.le_of_ble_eq_true rfl)) dc_O_status_5 ⟨Nat.le_of_ble_eq_true rfl, Nat.le_of_ble_eq_true rfl⟩) (fun H locs hP hD hS => ?_)
  have hP : va_P (dC, dI) clsL [zO o0 oa i0 m0 nn, zM m0 m1 m2 m3 m4 m5 mn mi, (m5, .inl (cI, 104, .inl (nF su)))] H := hP.sub (ws' := [zO o0 oa i0 m0 nn, zM m0 m1 m2 m3 m4 m5 mn mi, (m5, .inl (cI, 104, .inl (nF su)))]) [0, 2, 1] rfl
  have hD : va_D A [zO o0 oa i0 m0 nn, zM m0 m1 m2 m3 m4 m5 mn mi, (m5, .inl (cI, 104, .inl (nF su)))] := hD.sub (ws' := [zO o0 oa i0 m0 nn, zM m0 m1 m2 m3 m4 m5 mn mi, (m5, .inl (cI, 104, .inl (nF su)))]) [0, 2, 1] (by decide) rfl
  refine lv_if_eq (tgt := 23) hx hb dc_O_status_8 (by decide) (fun hc => ?_) (fun hc => ?_)
  · have h1 : true = false := bI_0.mp hc
    exact absurd h1 (by decide)
  have h1 : true = true := bI_n0.mp hc
  refine lv_aload_n hx hb dc_O_status_11 rfl (lv_at hl 0 rfl) ?_
  refine va_get (D := (dC, dI)) (ci := 3) (v := .ref m0) (C := cn_O) (T := ft_O) (N := 4) hx hb htb ki_O hown hK hP 0 rfl rfl 2 (by decide) (htb _ kw_141) (fun _ h9 => h9) rfl dc_O_status_12 ?_
  refine va_get (D := (dC, dI)) (ci := 1) (v := .ref m5) (C := cn_M) (T := ft_M) (N := 7) hx hb htb ki_M hown hK hP 1 rfl rfl 4 (by decide) (htb _ kw_120) (fun _ h9 => h9) rfl dc_O_status_15 ?_
  refine lv_iload_n hx hb dc_O_status_18 rfl (lv_at hl 1 rfl) ?_
  refine wa_nld (k := k) hx hb hK hP 2 0 rfl rfl (by omega) (by omega) dc_O_status_19 ?_
  refine lv_goto (tgt := 24) hx hb dc_O_status_20 (by decide) ?_
  have hP9 := hP.sub (ws' := [zO o0 oa i0 m0 nn, zM m0 m1 m2 m3 m4 m5 mn mi, (m5, .inl (cI, 104, .inl (nF su)))]) [0, 1, 2] rfl
  have hD9 := hD.sub (ws' := [zO o0 oa i0 m0 nn, zM m0 m1 m2 m3 m4 m5 mn mi, (m5, .inl (cI, 104, .inl (nF su)))]) [0, 1, 2] (by decide) rfl
  exact W.iret (v := nI (su k)) hx hb hr (fun t ht hW => ⟨⟨_, (), rfl, rfl, by rw [ht]; exact hP9, va_K.moved hW.alike hK, hD9⟩, hS.F ht⟩) hS.2.2 dc_O_status_24

set_option maxHeartbeats 4000000 in
set_option maxRecDepth 100000 in
theorem oc_O_lose_no (l : Launch) (dC : Nat → ClassId) (dI : Nat → Nat → Nat) (cI cJ cZ cP : ClassId) (sz : Nat) (o0 : Nat) (oa : Nat) (i0 : Nat) (m0 : Nat) (nn : Nat) (m1 : Nat) (m2 : Nat) (m3 : Nat) (m4 : Nat) (m5 : Nat) (mn : Nat) (mi : Nat) (su : Nat → Nat) (y : Int32) (hy : y < 0 ∨ nI mn ≤ y) : mt_I l mn_O_lose bc_O_lose 2 (some .boolean) ({ frames := 2, cells := 0, slots := 0, locals := 42 }) (dC, dI) (TYS cI cJ cZ cP) sz [.ref o0, .int y] [zO o0 oa i0 m0 nn, zM m0 m1 m2 m3 m4 m5 mn mi, (m5, .inl (cI, 104, .inl (nF su)))] [zO o0 oa i0 m0 nn, zM m0 m1 m2 m3 m4 m5 mn mi, (m5, .inl (cI, 104, .inl (nF su)))] (bI false) 0 0 := by
  unfold mt_I
  refine Met.ofW (cc := bc_O_lose) (maxL := 2) (ret := (some .boolean)) (by decide) rfl ?_
  intro p e s m args below meth c s₁ B hml hv
  obtain ⟨rfl, hsz, hP, hK, hD0⟩ := hv
  have hx := B.exec
  have hb := B.bytes
  have hr := B.returns
  have hts := atoms_spec (ws := wsT mn_O_lose bc_O_lose 2 (some .boolean)) B.pre
  have htb : ∀ w ∈ gtbl, w.before _ s = true := fun w h => hts w (List.mem_cons_of_mem _ h)
  have hown : s.vm.findClass cn_O = some m.cls := findClass_of_methodNamed B.named
  have hlocks := B.notSynchronized
  subst hsz
  have hD := hD0.self (sz := s.heap.size)
  generalize hAe : va_A [zO o0 oa i0 m0 nn, zM m0 m1 m2 m3 m4 m5 mn mi, (m5, .inl (cI, 104, .inl (nF su)))] s.heap.size = A at hD ⊢
  have hA : ∀ q : Nat, s.heap.size ≤ q → A q := fun q h => by rw [← hAe]; exact Or.inr h
  have hS : va_S A s.heap s.heap [] := va_S.rf
  have hP : va_P (dC, dI) clsL [zO o0 oa i0 m0 nn, zM m0 m1 m2 m3 m4 m5 mn mi, (m5, .inl (cI, 104, .inl (nF su)))] s.heap := hP
  have hl := lv_entry ([.ref o0, .int y]) (n := 2) (Nat.le_of_ble_eq_true rfl)
  rw [lg_entry_eq]
  generalize (lg_sl ([.ref o0, .int y]) ++ List.replicate (2 - (lg_sl ([.ref o0, .int y])).length) Slot.unset).toArray = ls at hl ⊢
  have hl : lv_has ls 2 [(0, .ref o0), (1, .int y)] := hl
  refine lv_aload_n hx hb dc_O_lose_0 rfl (lv_at hl 0 rfl) ?_
  refine va_get (D := (dC, dI)) (ci := 3) (v := .ref m0) (C := cn_O) (T := ft_O) (N := 4) hx hb htb ki_O hown hK hP 0 rfl rfl 2 (by decide) (htb _ kw_141) (fun _ h9 => h9) rfl dc_O_lose_1 ?_
  refine lv_iload_n hx hb dc_O_lose_4 rfl (lv_at hl 1 rfl) ?_
  refine cl_i (wc := [zM m0 m1 m2 m3 m4 m5 mn mi, (m5, .inl (cI, 104, .inl (nF su)))]) (wr := [zO o0 oa i0 m0 nn]) (w1 := [zM m0 m1 m2 m3 m4 m5 mn mi, (m5, .inl (cI, 104, .inl (nF su)))]) hP hD hS hA [1, 2] [0] rfl rfl (by decide) (by decide) (va_runV (As := [.int y]) (rest := []) ⟨hx, hb, hml, hown, htb⟩ (oc_M_isWaiting_no l dC dI cI cJ cZ cP _ m0 m1 m2 m3 m4 m5 mn mi su y (by first | assumption | omega)) (cwV 1 htb (gw_V kw_183 kw_184 kw_185 kw_4 kw_186) rfl rfl rfl (by decide +kernel) ⟨Nat.le_of_ble_eq_true rfl, Nat.le_of_ble_eq_true rfl⟩) (pr_V hP hK hD (va_recv hK hP (ci := 1) (q0 := 1) rfl rfl) [1, 2] (by decide) rfl rfl) rfl rfl hl.1 rfl (lv_room (Nat.le_of_ble_eq_true rfl)) dc_O_lose_5 ⟨Nat.le_of_ble_eq_true rfl, Nat.le_of_ble_eq_true rfl⟩) (fun H locs hP hD hS => ?_)
  have hP : va_P (dC, dI) clsL [zO o0 oa i0 m0 nn, zM m0 m1 m2 m3 m4 m5 mn mi, (m5, .inl (cI, 104, .inl (nF su)))] H := hP.sub (ws' := [zO o0 oa i0 m0 nn, zM m0 m1 m2 m3 m4 m5 mn mi, (m5, .inl (cI, 104, .inl (nF su)))]) [0, 1, 2] rfl
  have hD : va_D A [zO o0 oa i0 m0 nn, zM m0 m1 m2 m3 m4 m5 mn mi, (m5, .inl (cI, 104, .inl (nF su)))] := hD.sub (ws' := [zO o0 oa i0 m0 nn, zM m0 m1 m2 m3 m4 m5 mn mi, (m5, .inl (cI, 104, .inl (nF su)))]) [0, 1, 2] (by decide) rfl
  refine lv_if_eq (tgt := 24) hx hb dc_O_lose_8 (by decide) (fun hc => ?_) (fun hc => ?_)
  rotate_left
  · have h1 : false = true := bI_n0.mp hc
    exact absurd h1 (by decide)
  have h1 : false = false := bI_0.mp hc
  refine lv_iconst (v := nI 0) hx hb dc_O_lose_24 (by decide) ?_
  have hP9 := hP.sub (ws' := [zO o0 oa i0 m0 nn, zM m0 m1 m2 m3 m4 m5 mn mi, (m5, .inl (cI, 104, .inl (nF su)))]) [0, 1, 2] rfl
  have hD9 := hD.sub (ws' := [zO o0 oa i0 m0 nn, zM m0 m1 m2 m3 m4 m5 mn mi, (m5, .inl (cI, 104, .inl (nF su)))]) [0, 1, 2] (by decide) rfl
  exact W.zret (v := nI 0) (ty := .boolean) hx hb hr (rfl) (fun t ht hW => ⟨⟨_, (), rfl, rfl, by rw [ht]; exact hP9, va_K.moved hW.alike hK, hD9⟩, hS.F ht⟩) hS.2.2 dc_O_lose_25

set_option maxHeartbeats 4000000 in
set_option maxRecDepth 100000 in
theorem oc_O_lose (l : Launch) (dC : Nat → ClassId) (dI : Nat → Nat → Nat) (cI cJ cZ cP : ClassId) (sz : Nat) (o0 : Nat) (oa : Nat) (i0 : Nat) (m0 : Nat) (nn : Nat) (m1 : Nat) (m2 : Nat) (m3 : Nat) (m4 : Nat) (m5 : Nat) (mn : Nat) (mi : Nat) (sr : Nat → Option Nat) (su : Nat → Nat) (k : Nat) (hk : k < mn) (hmn : mn ≤ 104) (hu : su k < 4) (hs : ∀ i, sr k = some i → i < 40) : mt_I l mn_O_lose bc_O_lose 2 (some .boolean) ({ frames := 2, cells := 0, slots := 0, locals := 42 }) (dC, dI) (TYS cI cJ cZ cP) sz [.ref o0, .int (nI k)] [zO o0 oa i0 m0 nn, zM m0 m1 m2 m3 m4 m5 mn mi, (m3, .inl (cI, 104, .inl (oF sr))), (m5, .inl (cI, 104, .inl (nF su)))] [zO o0 oa i0 m0 nn, zM m0 m1 m2 m3 m4 m5 mn mi, (m3, .inl (cI, 104, .inl (oF sr))), (m5, .inl (cI, 104, .inl (nF (if lo_B su sr k = true then va_up su k 2 else su))))] (bI (lo_B su sr k)) 0 0 := by
  unfold mt_I
  refine Met.ofW (cc := bc_O_lose) (maxL := 2) (ret := (some .boolean)) (by decide) rfl ?_
  intro p e s m args below meth c s₁ B hml hv
  obtain ⟨rfl, hsz, hP, hK, hD0⟩ := hv
  have hx := B.exec
  have hb := B.bytes
  have hr := B.returns
  have hts := atoms_spec (ws := wsT mn_O_lose bc_O_lose 2 (some .boolean)) B.pre
  have htb : ∀ w ∈ gtbl, w.before _ s = true := fun w h => hts w (List.mem_cons_of_mem _ h)
  have hown : s.vm.findClass cn_O = some m.cls := findClass_of_methodNamed B.named
  have hlocks := B.notSynchronized
  subst hsz
  have hD := hD0.self (sz := s.heap.size)
  generalize hAe : va_A [zO o0 oa i0 m0 nn, zM m0 m1 m2 m3 m4 m5 mn mi, (m3, .inl (cI, 104, .inl (oF sr))), (m5, .inl (cI, 104, .inl (nF su)))] s.heap.size = A at hD ⊢
  have hA : ∀ q : Nat, s.heap.size ≤ q → A q := fun q h => by rw [← hAe]; exact Or.inr h
  have hS : va_S A s.heap s.heap [] := va_S.rf
  have hP : va_P (dC, dI) clsL [zO o0 oa i0 m0 nn, zM m0 m1 m2 m3 m4 m5 mn mi, (m3, .inl (cI, 104, .inl (oF sr))), (m5, .inl (cI, 104, .inl (nF su)))] s.heap := hP
  have hl := lv_entry ([.ref o0, .int (nI k)]) (n := 2) (Nat.le_of_ble_eq_true rfl)
  rw [lg_entry_eq]
  generalize (lg_sl ([.ref o0, .int (nI k)]) ++ List.replicate (2 - (lg_sl ([.ref o0, .int (nI k)])).length) Slot.unset).toArray = ls at hl ⊢
  have hl : lv_has ls 2 [(0, .ref o0), (1, .int (nI k))] := hl
  refine lv_aload_n hx hb dc_O_lose_0 rfl (lv_at hl 0 rfl) ?_
  refine va_get (D := (dC, dI)) (ci := 3) (v := .ref m0) (C := cn_O) (T := ft_O) (N := 4) hx hb htb ki_O hown hK hP 0 rfl rfl 2 (by decide) (htb _ kw_141) (fun _ h9 => h9) rfl dc_O_lose_1 ?_
  refine lv_iload_n hx hb dc_O_lose_4 rfl (lv_at hl 1 rfl) ?_
  refine cl_i (wc := [zM m0 m1 m2 m3 m4 m5 mn mi, (m5, .inl (cI, 104, .inl (nF su)))]) (wr := [zO o0 oa i0 m0 nn, (m3, .inl (cI, 104, .inl (oF sr)))]) (w1 := [zM m0 m1 m2 m3 m4 m5 mn mi, (m5, .inl (cI, 104, .inl (nF su)))]) hP hD hS hA [1, 3] [0, 2] rfl rfl (by decide) (by decide) (va_runV (As := [.int (nI k)]) (rest := []) ⟨hx, hb, hml, hown, htb⟩ (oc_M_isWaiting l dC dI cI cJ cZ cP _ m0 m1 m2 m3 m4 m5 mn mi su k hk hmn hu) (cwV 1 htb (gw_V kw_183 kw_184 kw_185 kw_4 kw_186) rfl rfl rfl (by decide +kernel) ⟨Nat.le_of_ble_eq_true rfl, Nat.le_of_ble_eq_true rfl⟩) (pr_V hP hK hD (va_recv hK hP (ci := 1) (q0 := 1) rfl rfl) [1, 3] (by decide) rfl rfl) rfl rfl hl.1 rfl (lv_room (Nat.le_of_ble_eq_true rfl)) dc_O_lose_5 ⟨Nat.le_of_ble_eq_true rfl, Nat.le_of_ble_eq_true rfl⟩) (fun H locs hP hD hS => ?_)
  have hP : va_P (dC, dI) clsL [zO o0 oa i0 m0 nn, zM m0 m1 m2 m3 m4 m5 mn mi, (m3, .inl (cI, 104, .inl (oF sr))), (m5, .inl (cI, 104, .inl (nF su)))] H := hP.sub (ws' := [zO o0 oa i0 m0 nn, zM m0 m1 m2 m3 m4 m5 mn mi, (m3, .inl (cI, 104, .inl (oF sr))), (m5, .inl (cI, 104, .inl (nF su)))]) [0, 2, 1, 3] rfl
  have hD : va_D A [zO o0 oa i0 m0 nn, zM m0 m1 m2 m3 m4 m5 mn mi, (m3, .inl (cI, 104, .inl (oF sr))), (m5, .inl (cI, 104, .inl (nF su)))] := hD.sub (ws' := [zO o0 oa i0 m0 nn, zM m0 m1 m2 m3 m4 m5 mn mi, (m3, .inl (cI, 104, .inl (oF sr))), (m5, .inl (cI, 104, .inl (nF su)))]) [0, 2, 1, 3] (by decide) rfl
  refine lv_if_eq (tgt := 24) hx hb dc_O_lose_8 (by decide) (fun hc => ?_) (fun hc => ?_)
  · have h1 : (decide (su k = 0)) = false := bI_0.mp hc
    refine lv_iconst (v := nI 0) hx hb dc_O_lose_24 (by decide) ?_
    have hP8 := hP.sub (ws' := [zO o0 oa i0 m0 nn, zM m0 m1 m2 m3 m4 m5 mn mi, (m3, .inl (cI, 104, .inl (oF sr))), (m5, .inl (cI, 104, .inl (nF su)))]) [0, 1, 2, 3] rfl
    have hD8 := hD.sub (ws' := [zO o0 oa i0 m0 nn, zM m0 m1 m2 m3 m4 m5 mn mi, (m3, .inl (cI, 104, .inl (oF sr))), (m5, .inl (cI, 104, .inl (nF su)))]) [0, 1, 2, 3] (by decide) rfl
    have hW8 : ([zO o0 oa i0 m0 nn, zM m0 m1 m2 m3 m4 m5 mn mi, (m3, .inl (cI, 104, .inl (oF sr))), (m5, .inl (cI, 104, .inl (nF su)))] : va_W) = [zO o0 oa i0 m0 nn, zM m0 m1 m2 m3 m4 m5 mn mi, (m3, .inl (cI, 104, .inl (oF sr))), (m5, .inl (cI, 104, .inl (nF (if lo_B su sr k = true then va_up su k 2 else su))))] := by simp_all [lo_B]
    rw [hW8] at hP8 hD8
    have hP9 := hP8
    have hD9 := hD8
    exact W.zret (v := nI 0) (ty := .boolean) hx hb hr (rfl) (fun t ht hW => ⟨⟨_, (), rfl, by simp_all [lo_B, bI, nI_0], by rw [ht]; exact hP9, va_K.moved hW.alike hK, hD9⟩, hS.F ht⟩) hS.2.2 dc_O_lose_25
  · have h1 : (decide (su k = 0)) = true := bI_n0.mp hc
    refine lv_aload_n hx hb dc_O_lose_11 rfl (lv_at hl 0 rfl) ?_
    refine va_get (D := (dC, dI)) (ci := 3) (v := .ref m0) (C := cn_O) (T := ft_O) (N := 4) hx hb htb ki_O hown hK hP 0 rfl rfl 2 (by decide) (htb _ kw_141) (fun _ h9 => h9) rfl dc_O_lose_12 ?_
    refine va_get (D := (dC, dI)) (ci := 1) (v := .ref m3) (C := cn_M) (T := ft_M) (N := 7) hx hb htb ki_M hown hK hP 1 rfl rfl 2 (by decide) (htb _ kw_116) (fun _ h9 => h9) rfl dc_O_lose_15 ?_
    refine lv_iload_n hx hb dc_O_lose_18 rfl (lv_at hl 1 rfl) ?_
    refine wa_old (k := k) hx hb hK hP 2 0 rfl rfl (by omega) (by omega) dc_O_lose_19 ?_
    refine lv_iconst (v := (-1)) hx hb dc_O_lose_20 (by decide) ?_
    refine lv_icmp_ne (tgt := 26) hx hb dc_O_lose_21 (by decide) (fun hc => ?_) (fun hc => ?_)
    · have h2 : ¬ sr k = none := fun h9 => hc ((oI_m1 (fun i q => by have := hs i q; omega)).mpr h9)
      refine lv_aload_n hx hb dc_O_lose_26 rfl (lv_at hl 0 rfl) ?_
      refine va_get (D := (dC, dI)) (ci := 3) (v := .ref m0) (C := cn_O) (T := ft_O) (N := 4) hx hb htb ki_O hown hK hP 0 rfl rfl 2 (by decide) (htb _ kw_141) (fun _ h9 => h9) rfl dc_O_lose_27 ?_
      refine va_get (D := (dC, dI)) (ci := 1) (v := .ref m5) (C := cn_M) (T := ft_M) (N := 7) hx hb htb ki_M hown hK hP 1 rfl rfl 4 (by decide) (htb _ kw_120) (fun _ h9 => h9) rfl dc_O_lose_30 ?_
      refine lv_iload_n hx hb dc_O_lose_33 rfl (lv_at hl 1 rfl) ?_
      refine lv_iconst (v := nI 2) hx hb dc_O_lose_34 (by decide) ?_
      refine wa_nst (k := k) (x := 2) hx hb hK hP hD hS 3 0 rfl rfl (by omega) (by omega) dc_O_lose_35 (fun H locs hP hD hS => ?_)
      have hP : va_P (dC, dI) clsL [zO o0 oa i0 m0 nn, zM m0 m1 m2 m3 m4 m5 mn mi, (m3, .inl (cI, 104, .inl (oF sr))), (m5, .inl (cI, 104, .inl (nF (va_up su k 2))))] H := hP
      have hD : va_D A [zO o0 oa i0 m0 nn, zM m0 m1 m2 m3 m4 m5 mn mi, (m3, .inl (cI, 104, .inl (oF sr))), (m5, .inl (cI, 104, .inl (nF (va_up su k 2))))] := hD
      refine lv_iconst (v := nI 1) hx hb dc_O_lose_36 (by decide) ?_
      have hP8 := hP.sub (ws' := [zO o0 oa i0 m0 nn, zM m0 m1 m2 m3 m4 m5 mn mi, (m3, .inl (cI, 104, .inl (oF sr))), (m5, .inl (cI, 104, .inl (nF (va_up su k 2))))]) [0, 1, 2, 3] rfl
      have hD8 := hD.sub (ws' := [zO o0 oa i0 m0 nn, zM m0 m1 m2 m3 m4 m5 mn mi, (m3, .inl (cI, 104, .inl (oF sr))), (m5, .inl (cI, 104, .inl (nF (va_up su k 2))))]) [0, 1, 2, 3] (by decide) rfl
      have hW8 : ([zO o0 oa i0 m0 nn, zM m0 m1 m2 m3 m4 m5 mn mi, (m3, .inl (cI, 104, .inl (oF sr))), (m5, .inl (cI, 104, .inl (nF (va_up su k 2))))] : va_W) = [zO o0 oa i0 m0 nn, zM m0 m1 m2 m3 m4 m5 mn mi, (m3, .inl (cI, 104, .inl (oF sr))), (m5, .inl (cI, 104, .inl (nF (if lo_B su sr k = true then va_up su k 2 else su))))] := by simp_all [lo_B]
      rw [hW8] at hP8 hD8
      have hP9 := hP8
      have hD9 := hD8
      exact W.zret (v := nI 1) (ty := .boolean) hx hb hr (rfl) (fun t ht hW => ⟨⟨_, (), rfl, by simp_all [lo_B, bI, nI_o], by rw [ht]; exact hP9, va_K.moved hW.alike hK, hD9⟩, hS.F ht⟩) hS.2.2 dc_O_lose_37
    · have h2 : sr k = none := (oI_m1 (fun i q => by have := hs i q; omega)).mp hc
      refine lv_iconst (v := nI 0) hx hb dc_O_lose_24 (by decide) ?_
      have hP8 := hP.sub (ws' := [zO o0 oa i0 m0 nn, zM m0 m1 m2 m3 m4 m5 mn mi, (m3, .inl (cI, 104, .inl (oF sr))), (m5, .inl (cI, 104, .inl (nF su)))]) [0, 1, 2, 3] rfl
      have hD8 := hD.sub (ws' := [zO o0 oa i0 m0 nn, zM m0 m1 m2 m3 m4 m5 mn mi, (m3, .inl (cI, 104, .inl (oF sr))), (m5, .inl (cI, 104, .inl (nF su)))]) [0, 1, 2, 3] (by decide) rfl
      have hW8 : ([zO o0 oa i0 m0 nn, zM m0 m1 m2 m3 m4 m5 mn mi, (m3, .inl (cI, 104, .inl (oF sr))), (m5, .inl (cI, 104, .inl (nF su)))] : va_W) = [zO o0 oa i0 m0 nn, zM m0 m1 m2 m3 m4 m5 mn mi, (m3, .inl (cI, 104, .inl (oF sr))), (m5, .inl (cI, 104, .inl (nF (if lo_B su sr k = true then va_up su k 2 else su))))] := by simp_all [lo_B]
      rw [hW8] at hP8 hD8
      have hP9 := hP8
      have hD9 := hD8
      exact W.zret (v := nI 0) (ty := .boolean) hx hb hr (rfl) (fun t ht hW => ⟨⟨_, (), rfl, by simp_all [lo_B, bI, nI_0], by rw [ht]; exact hP9, va_K.moved hW.alike hK, hD9⟩, hS.F ht⟩) hS.2.2 dc_O_lose_25

set_option maxHeartbeats 4000000 in
set_option maxRecDepth 100000 in
theorem oc_O_input_no (l : Launch) (dC : Nat → ClassId) (dI : Nat → Nat → Nat) (cI cJ cZ cP : ClassId) (sz : Nat) (o0 : Nat) (oa : Nat) (i0 : Nat) (m0 : Nat) (nn : Nat) (y : Int32) (v : Int32) (hy : y < 0 ∨ nI 3 ≤ y) : mt_I l mn_O_input bc_O_input 3 (some .int) ({ frames := 1, cells := 0, slots := 0, locals := 20 }) (dC, dI) (TYS cI cJ cZ cP) sz [.ref o0, .int y, .int v] [zO o0 oa i0 m0 nn] [zO o0 oa i0 m0 nn] ((-1)) 0 0 := by
  unfold mt_I
  refine Met.ofW (cc := bc_O_input) (maxL := 3) (ret := (some .int)) (by decide) rfl ?_
  intro p e s m args below meth c s₁ B hml hv
  obtain ⟨rfl, hsz, hP, hK, hD0⟩ := hv
  have hx := B.exec
  have hb := B.bytes
  have hr := B.returns
  have hts := atoms_spec (ws := wsT mn_O_input bc_O_input 3 (some .int)) B.pre
  have htb : ∀ w ∈ gtbl, w.before _ s = true := fun w h => hts w (List.mem_cons_of_mem _ h)
  have hown : s.vm.findClass cn_O = some m.cls := findClass_of_methodNamed B.named
  have hlocks := B.notSynchronized
  subst hsz
  have hD := hD0.self (sz := s.heap.size)
  generalize hAe : va_A [zO o0 oa i0 m0 nn] s.heap.size = A at hD ⊢
  have hA : ∀ q : Nat, s.heap.size ≤ q → A q := fun q h => by rw [← hAe]; exact Or.inr h
  have hS : va_S A s.heap s.heap [] := va_S.rf
  have hP : va_P (dC, dI) clsL [zO o0 oa i0 m0 nn] s.heap := hP
  have hl := lv_entry ([.ref o0, .int y, .int v]) (n := 3) (Nat.le_of_ble_eq_true rfl)
  rw [lg_entry_eq]
  generalize (lg_sl ([.ref o0, .int y, .int v]) ++ List.replicate (3 - (lg_sl ([.ref o0, .int y, .int v])).length) Slot.unset).toArray = ls at hl ⊢
  have hl : lv_has ls 3 [(0, .ref o0), (1, .int y), (2, .int v)] := hl
  refine lv_iload_n hx hb dc_O_input_0 rfl (lv_at hl 1 rfl) ?_
  refine cl_i (wc := []) (wr := [zO o0 oa i0 m0 nn]) (w1 := []) hP hD hS hA [] [0] rfl rfl (by decide) (by decide) (va_runS (As := [.int y]) (rest := []) ⟨hx, hb, hml, hown, htb⟩ (oc_O_isProcess_no l dC dI cI cJ cZ cP _ y (by first | assumption | omega)) (va_cwS 1 htb (gw_S kw_172 kw_173 kw_1 kw_174) rfl rfl rfl (by decide +kernel) ⟨Nat.le_of_ble_eq_true rfl, Nat.le_of_ble_eq_true rfl⟩) (pr_S hP hK hD [] (by decide) rfl rfl) rfl rfl hl.1 rfl (lv_room (Nat.le_of_ble_eq_true rfl)) dc_O_input_1 ⟨Nat.le_of_ble_eq_true rfl, Nat.le_of_ble_eq_true rfl⟩) (fun H locs hP hD hS => ?_)
  have hP : va_P (dC, dI) clsL [zO o0 oa i0 m0 nn] H := hP.sub (ws' := [zO o0 oa i0 m0 nn]) [0] rfl
  have hD : va_D A [zO o0 oa i0 m0 nn] := hD.sub (ws' := [zO o0 oa i0 m0 nn]) [0] (by decide) rfl
  refine lv_if_eq (tgt := 19) hx hb dc_O_input_4 (by decide) (fun hc => ?_) (fun hc => ?_)
  rotate_left
  · have h1 : false = true := bI_n0.mp hc
    exact absurd h1 (by decide)
  have h1 : false = false := bI_0.mp hc
  refine lv_iconst (v := (-1)) hx hb dc_O_input_19 (by decide) ?_
  have hP9 := hP.sub (ws' := [zO o0 oa i0 m0 nn]) [0] rfl
  have hD9 := hD.sub (ws' := [zO o0 oa i0 m0 nn]) [0] (by decide) rfl
  exact W.iret (v := (-1)) hx hb hr (fun t ht hW => ⟨⟨_, (), rfl, rfl, by rw [ht]; exact hP9, va_K.moved hW.alike hK, hD9⟩, hS.F ht⟩) hS.2.2 dc_O_input_20

set_option maxHeartbeats 4000000 in
set_option maxRecDepth 100000 in
theorem oc_O_input_full (l : Launch) (dC : Nat → ClassId) (dI : Nat → Nat → Nat) (cI cJ cZ cP : ClassId) (sz : Nat) (o0 : Nat) (oa : Nat) (i0 : Nat) (m0 : Nat) (nn : Nat) (m1 : Nat) (m2 : Nat) (m3 : Nat) (m4 : Nat) (m5 : Nat) (mn : Nat) (mi : Nat) (j : Nat) (v : Int32) (hj : j < 3) (hmi : mi = 24) : mt_I l mn_O_input bc_O_input 3 (some .int) ({ frames := 1, cells := 0, slots := 0, locals := 20 }) (dC, dI) (TYS cI cJ cZ cP) sz [.ref o0, .int (nI j), .int v] [zO o0 oa i0 m0 nn, zM m0 m1 m2 m3 m4 m5 mn mi] [zO o0 oa i0 m0 nn, zM m0 m1 m2 m3 m4 m5 mn mi] ((-1)) 0 0 := by
  unfold mt_I
  refine Met.ofW (cc := bc_O_input) (maxL := 3) (ret := (some .int)) (by decide) rfl ?_
  intro p e s m args below meth c s₁ B hml hv
  obtain ⟨rfl, hsz, hP, hK, hD0⟩ := hv
  have hx := B.exec
  have hb := B.bytes
  have hr := B.returns
  have hts := atoms_spec (ws := wsT mn_O_input bc_O_input 3 (some .int)) B.pre
  have htb : ∀ w ∈ gtbl, w.before _ s = true := fun w h => hts w (List.mem_cons_of_mem _ h)
  have hown : s.vm.findClass cn_O = some m.cls := findClass_of_methodNamed B.named
  have hlocks := B.notSynchronized
  subst hsz
  have hD := hD0.self (sz := s.heap.size)
  generalize hAe : va_A [zO o0 oa i0 m0 nn, zM m0 m1 m2 m3 m4 m5 mn mi] s.heap.size = A at hD ⊢
  have hA : ∀ q : Nat, s.heap.size ≤ q → A q := fun q h => by rw [← hAe]; exact Or.inr h
  have hS : va_S A s.heap s.heap [] := va_S.rf
  have hP : va_P (dC, dI) clsL [zO o0 oa i0 m0 nn, zM m0 m1 m2 m3 m4 m5 mn mi] s.heap := hP
  have hl := lv_entry ([.ref o0, .int (nI j), .int v]) (n := 3) (Nat.le_of_ble_eq_true rfl)
  rw [lg_entry_eq]
  generalize (lg_sl ([.ref o0, .int (nI j), .int v]) ++ List.replicate (3 - (lg_sl ([.ref o0, .int (nI j), .int v])).length) Slot.unset).toArray = ls at hl ⊢
  have hl : lv_has ls 3 [(0, .ref o0), (1, .int (nI j)), (2, .int v)] := hl
  refine lv_iload_n hx hb dc_O_input_0 rfl (lv_at hl 1 rfl) ?_
  refine cl_i (wc := []) (wr := [zO o0 oa i0 m0 nn, zM m0 m1 m2 m3 m4 m5 mn mi]) (w1 := []) hP hD hS hA [] [0, 1] rfl rfl (by decide) (by decide) (va_runS (As := [.int (nI j)]) (rest := []) ⟨hx, hb, hml, hown, htb⟩ (oc_O_isProcess l dC dI cI cJ cZ cP _ j (by first | assumption | omega)) (va_cwS 1 htb (gw_S kw_172 kw_173 kw_1 kw_174) rfl rfl rfl (by decide +kernel) ⟨Nat.le_of_ble_eq_true rfl, Nat.le_of_ble_eq_true rfl⟩) (pr_S hP hK hD [] (by decide) rfl rfl) rfl rfl hl.1 rfl (lv_room (Nat.le_of_ble_eq_true rfl)) dc_O_input_1 ⟨Nat.le_of_ble_eq_true rfl, Nat.le_of_ble_eq_true rfl⟩) (fun H locs hP hD hS => ?_)
  have hP : va_P (dC, dI) clsL [zO o0 oa i0 m0 nn, zM m0 m1 m2 m3 m4 m5 mn mi] H := hP.sub (ws' := [zO o0 oa i0 m0 nn, zM m0 m1 m2 m3 m4 m5 mn mi]) [0, 1] rfl
  have hD : va_D A [zO o0 oa i0 m0 nn, zM m0 m1 m2 m3 m4 m5 mn mi] := hD.sub (ws' := [zO o0 oa i0 m0 nn, zM m0 m1 m2 m3 m4 m5 mn mi]) [0, 1] (by decide) rfl
  refine lv_if_eq (tgt := 19) hx hb dc_O_input_4 (by decide) (fun hc => ?_) (fun hc => ?_)
  · have h1 : true = false := bI_0.mp hc
    exact absurd h1 (by decide)
  have h1 : true = true := bI_n0.mp hc
  refine lv_aload_n hx hb dc_O_input_7 rfl (lv_at hl 0 rfl) ?_
  refine va_get (D := (dC, dI)) (ci := 3) (v := .ref m0) (C := cn_O) (T := ft_O) (N := 4) hx hb htb ki_O hown hK hP 0 rfl rfl 2 (by decide) (htb _ kw_141) (fun _ h9 => h9) rfl dc_O_input_8 ?_
  refine va_get (D := (dC, dI)) (ci := 1) (v := .int (nI mi)) (C := cn_M) (T := ft_M) (N := 7) hx hb htb ki_M hown hK hP 1 rfl rfl 6 (by decide) (htb _ kw_123) (fun _ h9 => h9) rfl dc_O_input_11 ?_
  refine lv_bipush (v := nI 24) hx hb dc_O_input_14 (by decide) ?_
  refine lv_icmp_lt (tgt := 21) hx hb dc_O_input_16 (by decide) (fun hc => ?_) (fun hc => ?_)
  · have h2 : mi < 24 := (nI_ltI (by omega) (by omega)).mp hc
    exact absurd h2 (by omega)
  have h2 : 24 ≤ mi := Nat.le_of_not_lt (fun h9 => hc ((nI_ltI (by omega) (by omega)).mpr h9))
  refine lv_iconst (v := (-1)) hx hb dc_O_input_19 (by decide) ?_
  have hP9 := hP.sub (ws' := [zO o0 oa i0 m0 nn, zM m0 m1 m2 m3 m4 m5 mn mi]) [0, 1] rfl
  have hD9 := hD.sub (ws' := [zO o0 oa i0 m0 nn, zM m0 m1 m2 m3 m4 m5 mn mi]) [0, 1] (by decide) rfl
  exact W.iret (v := (-1)) hx hb hr (fun t ht hW => ⟨⟨_, (), rfl, rfl, by rw [ht]; exact hP9, va_K.moved hW.alike hK, hD9⟩, hS.F ht⟩) hS.2.2 dc_O_input_20

set_option maxHeartbeats 4000000 in
set_option maxRecDepth 100000 in
theorem oc_O_input (l : Launch) (dC : Nat → ClassId) (dI : Nat → Nat → Nat) (cI cJ cZ cP : ClassId) (sz : Nat) (o0 : Nat) (oa : Nat) (i0 : Nat) (m0 : Nat) (nn : Nat) (m1 : Nat) (m2 : Nat) (m3 : Nat) (m4 : Nat) (m5 : Nat) (mn : Nat) (mi : Nat) (vs : Nat → Int32) (tg : Nat → Nat) (sr : Nat → Option Nat) (kn : Nat → Nat) (su : Nat → Nat) (j : Nat) (v : Int32) (hj : j < 3) (hmi : mi < 24) (hmn : mn < 104) : mt_I l mn_O_input bc_O_input 3 (some .int) ({ frames := 1, cells := 0, slots := 0, locals := 25 }) (dC, dI) (TYS cI cJ cZ cP) sz [.ref o0, .int (nI j), .int v] [zO o0 oa i0 m0 nn, zM m0 m1 m2 m3 m4 m5 mn mi, (m1, .inl (cI, 104, .inl vs)), (m2, .inl (cI, 104, .inl (nF tg))), (m3, .inl (cI, 104, .inl (oF sr))), (m4, .inl (cI, 104, .inl (nF kn))), (m5, .inl (cI, 104, .inl (nF su)))] [zO o0 oa i0 m0 nn, zM m0 m1 m2 m3 m4 m5 (mn + 1) (mi + 1), (m1, .inl (cI, 104, .inl (va_up vs mn v))), (m2, .inl (cI, 104, .inl (nF (va_up tg mn j)))), (m3, .inl (cI, 104, .inl (oF (va_up sr mn none)))), (m4, .inl (cI, 104, .inl (nF (va_up kn mn 0)))), (m5, .inl (cI, 104, .inl (nF (va_up su mn 0))))] (nI mn) 0 0 := by
  unfold mt_I
  refine Met.ofW (cc := bc_O_input) (maxL := 3) (ret := (some .int)) (by decide) rfl ?_
  intro p e s m args below meth c s₁ B hml hv
  obtain ⟨rfl, hsz, hP, hK, hD0⟩ := hv
  have hx := B.exec
  have hb := B.bytes
  have hr := B.returns
  have hts := atoms_spec (ws := wsT mn_O_input bc_O_input 3 (some .int)) B.pre
  have htb : ∀ w ∈ gtbl, w.before _ s = true := fun w h => hts w (List.mem_cons_of_mem _ h)
  have hown : s.vm.findClass cn_O = some m.cls := findClass_of_methodNamed B.named
  have hlocks := B.notSynchronized
  subst hsz
  have hD := hD0.self (sz := s.heap.size)
  generalize hAe : va_A [zO o0 oa i0 m0 nn, zM m0 m1 m2 m3 m4 m5 mn mi, (m1, .inl (cI, 104, .inl vs)), (m2, .inl (cI, 104, .inl (nF tg))), (m3, .inl (cI, 104, .inl (oF sr))), (m4, .inl (cI, 104, .inl (nF kn))), (m5, .inl (cI, 104, .inl (nF su)))] s.heap.size = A at hD ⊢
  have hA : ∀ q : Nat, s.heap.size ≤ q → A q := fun q h => by rw [← hAe]; exact Or.inr h
  have hS : va_S A s.heap s.heap [] := va_S.rf
  have hP : va_P (dC, dI) clsL [zO o0 oa i0 m0 nn, zM m0 m1 m2 m3 m4 m5 mn mi, (m1, .inl (cI, 104, .inl vs)), (m2, .inl (cI, 104, .inl (nF tg))), (m3, .inl (cI, 104, .inl (oF sr))), (m4, .inl (cI, 104, .inl (nF kn))), (m5, .inl (cI, 104, .inl (nF su)))] s.heap := hP
  have hl := lv_entry ([.ref o0, .int (nI j), .int v]) (n := 3) (Nat.le_of_ble_eq_true rfl)
  rw [lg_entry_eq]
  generalize (lg_sl ([.ref o0, .int (nI j), .int v]) ++ List.replicate (3 - (lg_sl ([.ref o0, .int (nI j), .int v])).length) Slot.unset).toArray = ls at hl ⊢
  have hl : lv_has ls 3 [(0, .ref o0), (1, .int (nI j)), (2, .int v)] := hl
  refine lv_iload_n hx hb dc_O_input_0 rfl (lv_at hl 1 rfl) ?_
  refine cl_i (wc := []) (wr := [zO o0 oa i0 m0 nn, zM m0 m1 m2 m3 m4 m5 mn mi, (m1, .inl (cI, 104, .inl vs)), (m2, .inl (cI, 104, .inl (nF tg))), (m3, .inl (cI, 104, .inl (oF sr))), (m4, .inl (cI, 104, .inl (nF kn))), (m5, .inl (cI, 104, .inl (nF su)))]) (w1 := []) hP hD hS hA [] [0, 1, 2, 3, 4, 5, 6] rfl rfl (by decide) (by decide) (va_runS (As := [.int (nI j)]) (rest := []) ⟨hx, hb, hml, hown, htb⟩ (oc_O_isProcess l dC dI cI cJ cZ cP _ j (by first | assumption | omega)) (va_cwS 1 htb (gw_S kw_172 kw_173 kw_1 kw_174) rfl rfl rfl (by decide +kernel) ⟨Nat.le_of_ble_eq_true rfl, Nat.le_of_ble_eq_true rfl⟩) (pr_S hP hK hD [] (by decide) rfl rfl) rfl rfl hl.1 rfl (lv_room (Nat.le_of_ble_eq_true rfl)) dc_O_input_1 ⟨Nat.le_of_ble_eq_true rfl, Nat.le_of_ble_eq_true rfl⟩) (fun H locs hP hD hS => ?_)
  have hP : va_P (dC, dI) clsL [zO o0 oa i0 m0 nn, zM m0 m1 m2 m3 m4 m5 mn mi, (m1, .inl (cI, 104, .inl vs)), (m2, .inl (cI, 104, .inl (nF tg))), (m3, .inl (cI, 104, .inl (oF sr))), (m4, .inl (cI, 104, .inl (nF kn))), (m5, .inl (cI, 104, .inl (nF su)))] H := hP.sub (ws' := [zO o0 oa i0 m0 nn, zM m0 m1 m2 m3 m4 m5 mn mi, (m1, .inl (cI, 104, .inl vs)), (m2, .inl (cI, 104, .inl (nF tg))), (m3, .inl (cI, 104, .inl (oF sr))), (m4, .inl (cI, 104, .inl (nF kn))), (m5, .inl (cI, 104, .inl (nF su)))]) [0, 1, 2, 3, 4, 5, 6] rfl
  have hD : va_D A [zO o0 oa i0 m0 nn, zM m0 m1 m2 m3 m4 m5 mn mi, (m1, .inl (cI, 104, .inl vs)), (m2, .inl (cI, 104, .inl (nF tg))), (m3, .inl (cI, 104, .inl (oF sr))), (m4, .inl (cI, 104, .inl (nF kn))), (m5, .inl (cI, 104, .inl (nF su)))] := hD.sub (ws' := [zO o0 oa i0 m0 nn, zM m0 m1 m2 m3 m4 m5 mn mi, (m1, .inl (cI, 104, .inl vs)), (m2, .inl (cI, 104, .inl (nF tg))), (m3, .inl (cI, 104, .inl (oF sr))), (m4, .inl (cI, 104, .inl (nF kn))), (m5, .inl (cI, 104, .inl (nF su)))]) [0, 1, 2, 3, 4, 5, 6] (by decide) rfl
  refine lv_if_eq (tgt := 19) hx hb dc_O_input_4 (by decide) (fun hc => ?_) (fun hc => ?_)
  · have h1 : true = false := bI_0.mp hc
    exact absurd h1 (by decide)
  have h1 : true = true := bI_n0.mp hc
  refine lv_aload_n hx hb dc_O_input_7 rfl (lv_at hl 0 rfl) ?_
  refine va_get (D := (dC, dI)) (ci := 3) (v := .ref m0) (C := cn_O) (T := ft_O) (N := 4) hx hb htb ki_O hown hK hP 0 rfl rfl 2 (by decide) (htb _ kw_141) (fun _ h9 => h9) rfl dc_O_input_8 ?_
  refine va_get (D := (dC, dI)) (ci := 1) (v := .int (nI mi)) (C := cn_M) (T := ft_M) (N := 7) hx hb htb ki_M hown hK hP 1 rfl rfl 6 (by decide) (htb _ kw_123) (fun _ h9 => h9) rfl dc_O_input_11 ?_
  refine lv_bipush (v := nI 24) hx hb dc_O_input_14 (by decide) ?_
  refine lv_icmp_lt (tgt := 21) hx hb dc_O_input_16 (by decide) (fun hc => ?_) (fun hc => ?_)
  rotate_left
  · have h2 : 24 ≤ mi := Nat.le_of_not_lt (fun h9 => hc ((nI_ltI (by omega) (by omega)).mpr h9))
    exact absurd h2 (by omega)
  have h2 : mi < 24 := (nI_ltI (by omega) (by omega)).mp hc
  refine lv_aload_n hx hb dc_O_input_21 rfl (lv_at hl 0 rfl) ?_
  refine va_get (D := (dC, dI)) (ci := 3) (v := .ref m0) (C := cn_O) (T := ft_O) (N := 4) hx hb htb ki_O hown hK hP 0 rfl rfl 2 (by decide) (htb _ kw_141) (fun _ h9 => h9) rfl dc_O_input_22 ?_
  refine lv_dup hx hb dc_O_input_25 rfl ?_
  refine va_get (D := (dC, dI)) (ci := 1) (v := .int (nI mi)) (C := cn_M) (T := ft_M) (N := 7) hx hb htb ki_M hown hK hP 1 rfl rfl 6 (by decide) (htb _ kw_123) (fun _ h9 => h9) rfl dc_O_input_26 ?_
  refine lv_iconst (v := nI 1) hx hb dc_O_input_29 (by decide) ?_
  refine lv_iadd hx hb dc_O_input_30 ?_
  refine tp_i (y := nI (mi + 1)) (nI_add _ _) ?_
  refine va_put (D := (dC, dI)) (ci := 1) (v := .int (nI (mi + 1))) (ty := .int) (C := cn_M) (T := ft_M) (N := 7) hx hb htb ki_M fy_M fy_M_ok nm_M_d hown hK hP hD hS 1 rfl rfl 6 (by decide) (htb _ kw_123) (fun _ h9 => h9) rfl (by decide +kernel) rfl rfl (Nat.le_of_ble_eq_true rfl) dc_O_input_31 (fun H locs hP hD hS => ?_)
  have hP : va_P (dC, dI) clsL [zO o0 oa i0 m0 nn, zM m0 m1 m2 m3 m4 m5 mn (mi + 1), (m1, .inl (cI, 104, .inl vs)), (m2, .inl (cI, 104, .inl (nF tg))), (m3, .inl (cI, 104, .inl (oF sr))), (m4, .inl (cI, 104, .inl (nF kn))), (m5, .inl (cI, 104, .inl (nF su)))] H := hP
  have hD : va_D A [zO o0 oa i0 m0 nn, zM m0 m1 m2 m3 m4 m5 mn (mi + 1), (m1, .inl (cI, 104, .inl vs)), (m2, .inl (cI, 104, .inl (nF tg))), (m3, .inl (cI, 104, .inl (oF sr))), (m4, .inl (cI, 104, .inl (nF kn))), (m5, .inl (cI, 104, .inl (nF su)))] := hD
  refine lv_aload_n hx hb dc_O_input_34 rfl (lv_at hl 0 rfl) ?_
  refine va_get (D := (dC, dI)) (ci := 3) (v := .ref m0) (C := cn_O) (T := ft_O) (N := 4) hx hb htb ki_O hown hK hP 0 rfl rfl 2 (by decide) (htb _ kw_141) (fun _ h9 => h9) rfl dc_O_input_35 ?_
  refine lv_iload_n hx hb dc_O_input_38 rfl (lv_at hl 2 rfl) ?_
  refine lv_iload_n hx hb dc_O_input_39 rfl (lv_at hl 1 rfl) ?_
  refine lv_iconst (v := (-1)) hx hb dc_O_input_40 (by decide) ?_
  refine tp_i (y := oI none) (rfl) ?_
  refine lv_iconst (v := nI 0) hx hb dc_O_input_41 (by decide) ?_
  refine cl_i (wc := [zM m0 m1 m2 m3 m4 m5 mn (mi + 1), (m1, .inl (cI, 104, .inl vs)), (m2, .inl (cI, 104, .inl (nF tg))), (m3, .inl (cI, 104, .inl (oF sr))), (m4, .inl (cI, 104, .inl (nF kn))), (m5, .inl (cI, 104, .inl (nF su)))]) (wr := [zO o0 oa i0 m0 nn]) (w1 := [zM m0 m1 m2 m3 m4 m5 (mn + 1) (mi + 1), (m1, .inl (cI, 104, .inl (va_up vs mn v))), (m2, .inl (cI, 104, .inl (nF (va_up tg mn j)))), (m3, .inl (cI, 104, .inl (oF (va_up sr mn none)))), (m4, .inl (cI, 104, .inl (nF (va_up kn mn 0)))), (m5, .inl (cI, 104, .inl (nF (va_up su mn 0))))]) hP hD hS hA [1, 2, 3, 4, 5, 6] [0] rfl rfl (by decide) (by decide) (va_runV (As := [.int v, .int (nI j), .int (oI none), .int (nI 0)]) (rest := []) ⟨hx, hb, hml, hown, htb⟩ (oc_M_make l dC dI cI cJ cZ cP _ m0 m1 m2 m3 m4 m5 mn (mi + 1) vs tg sr kn su v j none 0 (by first | assumption | omega)) (cwV 4 htb (gw_V kw_175 kw_176 kw_177 kw_4 kw_178) rfl rfl rfl (by decide +kernel) ⟨Nat.le_of_ble_eq_true rfl, Nat.le_of_ble_eq_true rfl⟩) (pr_V hP hK hD (va_recv hK hP (ci := 1) (q0 := 1) rfl rfl) [1, 2, 3, 4, 5, 6] (by decide) rfl rfl) rfl rfl hl.1 rfl (lv_room (Nat.le_of_ble_eq_true rfl)) dc_O_input_42 ⟨Nat.le_of_ble_eq_true rfl, Nat.le_of_ble_eq_true rfl⟩) (fun H locs hP hD hS => ?_)
  have hP : va_P (dC, dI) clsL [zO o0 oa i0 m0 nn, zM m0 m1 m2 m3 m4 m5 (mn + 1) (mi + 1), (m1, .inl (cI, 104, .inl (va_up vs mn v))), (m2, .inl (cI, 104, .inl (nF (va_up tg mn j)))), (m3, .inl (cI, 104, .inl (oF (va_up sr mn none)))), (m4, .inl (cI, 104, .inl (nF (va_up kn mn 0)))), (m5, .inl (cI, 104, .inl (nF (va_up su mn 0))))] H := hP.sub (ws' := [zO o0 oa i0 m0 nn, zM m0 m1 m2 m3 m4 m5 (mn + 1) (mi + 1), (m1, .inl (cI, 104, .inl (va_up vs mn v))), (m2, .inl (cI, 104, .inl (nF (va_up tg mn j)))), (m3, .inl (cI, 104, .inl (oF (va_up sr mn none)))), (m4, .inl (cI, 104, .inl (nF (va_up kn mn 0)))), (m5, .inl (cI, 104, .inl (nF (va_up su mn 0))))]) [0, 1, 2, 3, 4, 5, 6] rfl
  have hD : va_D A [zO o0 oa i0 m0 nn, zM m0 m1 m2 m3 m4 m5 (mn + 1) (mi + 1), (m1, .inl (cI, 104, .inl (va_up vs mn v))), (m2, .inl (cI, 104, .inl (nF (va_up tg mn j)))), (m3, .inl (cI, 104, .inl (oF (va_up sr mn none)))), (m4, .inl (cI, 104, .inl (nF (va_up kn mn 0)))), (m5, .inl (cI, 104, .inl (nF (va_up su mn 0))))] := hD.sub (ws' := [zO o0 oa i0 m0 nn, zM m0 m1 m2 m3 m4 m5 (mn + 1) (mi + 1), (m1, .inl (cI, 104, .inl (va_up vs mn v))), (m2, .inl (cI, 104, .inl (nF (va_up tg mn j)))), (m3, .inl (cI, 104, .inl (oF (va_up sr mn none)))), (m4, .inl (cI, 104, .inl (nF (va_up kn mn 0)))), (m5, .inl (cI, 104, .inl (nF (va_up su mn 0))))]) [0, 1, 2, 3, 4, 5, 6] (by decide) rfl
  have hP9 := hP.sub (ws' := [zO o0 oa i0 m0 nn, zM m0 m1 m2 m3 m4 m5 (mn + 1) (mi + 1), (m1, .inl (cI, 104, .inl (va_up vs mn v))), (m2, .inl (cI, 104, .inl (nF (va_up tg mn j)))), (m3, .inl (cI, 104, .inl (oF (va_up sr mn none)))), (m4, .inl (cI, 104, .inl (nF (va_up kn mn 0)))), (m5, .inl (cI, 104, .inl (nF (va_up su mn 0))))]) [0, 1, 2, 3, 4, 5, 6] rfl
  have hD9 := hD.sub (ws' := [zO o0 oa i0 m0 nn, zM m0 m1 m2 m3 m4 m5 (mn + 1) (mi + 1), (m1, .inl (cI, 104, .inl (va_up vs mn v))), (m2, .inl (cI, 104, .inl (nF (va_up tg mn j)))), (m3, .inl (cI, 104, .inl (oF (va_up sr mn none)))), (m4, .inl (cI, 104, .inl (nF (va_up kn mn 0)))), (m5, .inl (cI, 104, .inl (nF (va_up su mn 0))))]) [0, 1, 2, 3, 4, 5, 6] (by decide) rfl
  exact W.iret (v := nI mn) hx hb hr (fun t ht hW => ⟨⟨_, (), rfl, rfl, by rw [ht]; exact hP9, va_K.moved hW.alike hK, hD9⟩, hS.F ht⟩) hS.2.2 dc_O_input_45

set_option maxHeartbeats 4000000 in
set_option maxRecDepth 100000 in
theorem oc_O_deliver_no (l : Launch) (dC : Nat → ClassId) (dI : Nat → Nat → Nat) (cI cJ cZ cP : ClassId) (sz : Nat) (o0 : Nat) (oa : Nat) (i0 : Nat) (m0 : Nat) (nn : Nat) (m1 : Nat) (m2 : Nat) (m3 : Nat) (m4 : Nat) (m5 : Nat) (mn : Nat) (mi : Nat) (su : Nat → Nat) (y : Int32) (hy : y < 0 ∨ nI mn ≤ y) : mt_I l mn_O_deliver bc_O_deliver 4 (some .int) ({ frames := 2, cells := 0, slots := 0, locals := 42 }) (dC, dI) (TYS cI cJ cZ cP) sz [.ref o0, .int y] [zO o0 oa i0 m0 nn, zM m0 m1 m2 m3 m4 m5 mn mi, (m5, .inl (cI, 104, .inl (nF su)))] [zO o0 oa i0 m0 nn, zM m0 m1 m2 m3 m4 m5 mn mi, (m5, .inl (cI, 104, .inl (nF su)))] ((-1)) 0 0 := by
  unfold mt_I
  refine Met.ofW (cc := bc_O_deliver) (maxL := 4) (ret := (some .int)) (by decide) rfl ?_
  intro p e s m args below meth c s₁ B hml hv
  obtain ⟨rfl, hsz, hP, hK, hD0⟩ := hv
  have hx := B.exec
  have hb := B.bytes
  have hr := B.returns
  have hts := atoms_spec (ws := wsT mn_O_deliver bc_O_deliver 4 (some .int)) B.pre
  have htb : ∀ w ∈ gtbl, w.before _ s = true := fun w h => hts w (List.mem_cons_of_mem _ h)
  have hown : s.vm.findClass cn_O = some m.cls := findClass_of_methodNamed B.named
  have hlocks := B.notSynchronized
  subst hsz
  have hD := hD0.self (sz := s.heap.size)
  generalize hAe : va_A [zO o0 oa i0 m0 nn, zM m0 m1 m2 m3 m4 m5 mn mi, (m5, .inl (cI, 104, .inl (nF su)))] s.heap.size = A at hD ⊢
  have hA : ∀ q : Nat, s.heap.size ≤ q → A q := fun q h => by rw [← hAe]; exact Or.inr h
  have hS : va_S A s.heap s.heap [] := va_S.rf
  have hP : va_P (dC, dI) clsL [zO o0 oa i0 m0 nn, zM m0 m1 m2 m3 m4 m5 mn mi, (m5, .inl (cI, 104, .inl (nF su)))] s.heap := hP
  have hl := lv_entry ([.ref o0, .int y]) (n := 4) (Nat.le_of_ble_eq_true rfl)
  rw [lg_entry_eq]
  generalize (lg_sl ([.ref o0, .int y]) ++ List.replicate (4 - (lg_sl ([.ref o0, .int y])).length) Slot.unset).toArray = ls at hl ⊢
  have hl : lv_has ls 4 [(0, .ref o0), (1, .int y)] := hl
  refine lv_aload_n hx hb dc_O_deliver_0 rfl (lv_at hl 0 rfl) ?_
  refine va_get (D := (dC, dI)) (ci := 3) (v := .ref m0) (C := cn_O) (T := ft_O) (N := 4) hx hb htb ki_O hown hK hP 0 rfl rfl 2 (by decide) (htb _ kw_141) (fun _ h9 => h9) rfl dc_O_deliver_1 ?_
  refine lv_iload_n hx hb dc_O_deliver_4 rfl (lv_at hl 1 rfl) ?_
  refine cl_i (wc := [zM m0 m1 m2 m3 m4 m5 mn mi, (m5, .inl (cI, 104, .inl (nF su)))]) (wr := [zO o0 oa i0 m0 nn]) (w1 := [zM m0 m1 m2 m3 m4 m5 mn mi, (m5, .inl (cI, 104, .inl (nF su)))]) hP hD hS hA [1, 2] [0] rfl rfl (by decide) (by decide) (va_runV (As := [.int y]) (rest := []) ⟨hx, hb, hml, hown, htb⟩ (oc_M_isWaiting_no l dC dI cI cJ cZ cP _ m0 m1 m2 m3 m4 m5 mn mi su y (by first | assumption | omega)) (cwV 1 htb (gw_V kw_183 kw_184 kw_185 kw_4 kw_186) rfl rfl rfl (by decide +kernel) ⟨Nat.le_of_ble_eq_true rfl, Nat.le_of_ble_eq_true rfl⟩) (pr_V hP hK hD (va_recv hK hP (ci := 1) (q0 := 1) rfl rfl) [1, 2] (by decide) rfl rfl) rfl rfl hl.1 rfl (lv_room (Nat.le_of_ble_eq_true rfl)) dc_O_deliver_5 ⟨Nat.le_of_ble_eq_true rfl, Nat.le_of_ble_eq_true rfl⟩) (fun H locs hP hD hS => ?_)
  have hP : va_P (dC, dI) clsL [zO o0 oa i0 m0 nn, zM m0 m1 m2 m3 m4 m5 mn mi, (m5, .inl (cI, 104, .inl (nF su)))] H := hP.sub (ws' := [zO o0 oa i0 m0 nn, zM m0 m1 m2 m3 m4 m5 mn mi, (m5, .inl (cI, 104, .inl (nF su)))]) [0, 1, 2] rfl
  have hD : va_D A [zO o0 oa i0 m0 nn, zM m0 m1 m2 m3 m4 m5 mn mi, (m5, .inl (cI, 104, .inl (nF su)))] := hD.sub (ws' := [zO o0 oa i0 m0 nn, zM m0 m1 m2 m3 m4 m5 mn mi, (m5, .inl (cI, 104, .inl (nF su)))]) [0, 1, 2] (by decide) rfl
  refine lv_if_eq (tgt := 23) hx hb dc_O_deliver_8 (by decide) (fun hc => ?_) (fun hc => ?_)
  rotate_left
  · have h1 : false = true := bI_n0.mp hc
    exact absurd h1 (by decide)
  have h1 : false = false := bI_0.mp hc
  refine lv_iconst (v := (-1)) hx hb dc_O_deliver_23 (by decide) ?_
  have hP9 := hP.sub (ws' := [zO o0 oa i0 m0 nn, zM m0 m1 m2 m3 m4 m5 mn mi, (m5, .inl (cI, 104, .inl (nF su)))]) [0, 1, 2] rfl
  have hD9 := hD.sub (ws' := [zO o0 oa i0 m0 nn, zM m0 m1 m2 m3 m4 m5 mn mi, (m5, .inl (cI, 104, .inl (nF su)))]) [0, 1, 2] (by decide) rfl
  exact W.iret (v := (-1)) hx hb hr (fun t ht hW => ⟨⟨_, (), rfl, rfl, by rw [ht]; exact hP9, va_K.moved hW.alike hK, hD9⟩, hS.F ht⟩) hS.2.2 dc_O_deliver_24

set_option maxHeartbeats 4000000 in
set_option maxRecDepth 100000 in
theorem oc_O_deliver_nw (l : Launch) (dC : Nat → ClassId) (dI : Nat → Nat → Nat) (cI cJ cZ cP : ClassId) (sz : Nat) (o0 : Nat) (oa : Nat) (i0 : Nat) (m0 : Nat) (nn : Nat) (m1 : Nat) (m2 : Nat) (m3 : Nat) (m4 : Nat) (m5 : Nat) (mn : Nat) (mi : Nat) (su : Nat → Nat) (k : Nat) (hk : k < mn) (hmn : mn ≤ 104) (hu : su k < 4) (hw : ¬ su k = 0) : mt_I l mn_O_deliver bc_O_deliver 4 (some .int) ({ frames := 2, cells := 0, slots := 0, locals := 42 }) (dC, dI) (TYS cI cJ cZ cP) sz [.ref o0, .int (nI k)] [zO o0 oa i0 m0 nn, zM m0 m1 m2 m3 m4 m5 mn mi, (m5, .inl (cI, 104, .inl (nF su)))] [zO o0 oa i0 m0 nn, zM m0 m1 m2 m3 m4 m5 mn mi, (m5, .inl (cI, 104, .inl (nF su)))] ((-1)) 0 0 := by
  unfold mt_I
  refine Met.ofW (cc := bc_O_deliver) (maxL := 4) (ret := (some .int)) (by decide) rfl ?_
  intro p e s m args below meth c s₁ B hml hv
  obtain ⟨rfl, hsz, hP, hK, hD0⟩ := hv
  have hx := B.exec
  have hb := B.bytes
  have hr := B.returns
  have hts := atoms_spec (ws := wsT mn_O_deliver bc_O_deliver 4 (some .int)) B.pre
  have htb : ∀ w ∈ gtbl, w.before _ s = true := fun w h => hts w (List.mem_cons_of_mem _ h)
  have hown : s.vm.findClass cn_O = some m.cls := findClass_of_methodNamed B.named
  have hlocks := B.notSynchronized
  subst hsz
  have hD := hD0.self (sz := s.heap.size)
  generalize hAe : va_A [zO o0 oa i0 m0 nn, zM m0 m1 m2 m3 m4 m5 mn mi, (m5, .inl (cI, 104, .inl (nF su)))] s.heap.size = A at hD ⊢
  have hA : ∀ q : Nat, s.heap.size ≤ q → A q := fun q h => by rw [← hAe]; exact Or.inr h
  have hS : va_S A s.heap s.heap [] := va_S.rf
  have hP : va_P (dC, dI) clsL [zO o0 oa i0 m0 nn, zM m0 m1 m2 m3 m4 m5 mn mi, (m5, .inl (cI, 104, .inl (nF su)))] s.heap := hP
  have hl := lv_entry ([.ref o0, .int (nI k)]) (n := 4) (Nat.le_of_ble_eq_true rfl)
  rw [lg_entry_eq]
  generalize (lg_sl ([.ref o0, .int (nI k)]) ++ List.replicate (4 - (lg_sl ([.ref o0, .int (nI k)])).length) Slot.unset).toArray = ls at hl ⊢
  have hl : lv_has ls 4 [(0, .ref o0), (1, .int (nI k))] := hl
  refine lv_aload_n hx hb dc_O_deliver_0 rfl (lv_at hl 0 rfl) ?_
  refine va_get (D := (dC, dI)) (ci := 3) (v := .ref m0) (C := cn_O) (T := ft_O) (N := 4) hx hb htb ki_O hown hK hP 0 rfl rfl 2 (by decide) (htb _ kw_141) (fun _ h9 => h9) rfl dc_O_deliver_1 ?_
  refine lv_iload_n hx hb dc_O_deliver_4 rfl (lv_at hl 1 rfl) ?_
  refine cl_i (wc := [zM m0 m1 m2 m3 m4 m5 mn mi, (m5, .inl (cI, 104, .inl (nF su)))]) (wr := [zO o0 oa i0 m0 nn]) (w1 := [zM m0 m1 m2 m3 m4 m5 mn mi, (m5, .inl (cI, 104, .inl (nF su)))]) hP hD hS hA [1, 2] [0] rfl rfl (by decide) (by decide) (va_runV (As := [.int (nI k)]) (rest := []) ⟨hx, hb, hml, hown, htb⟩ (oc_M_isWaiting l dC dI cI cJ cZ cP _ m0 m1 m2 m3 m4 m5 mn mi su k hk hmn hu) (cwV 1 htb (gw_V kw_183 kw_184 kw_185 kw_4 kw_186) rfl rfl rfl (by decide +kernel) ⟨Nat.le_of_ble_eq_true rfl, Nat.le_of_ble_eq_true rfl⟩) (pr_V hP hK hD (va_recv hK hP (ci := 1) (q0 := 1) rfl rfl) [1, 2] (by decide) rfl rfl) rfl rfl hl.1 rfl (lv_room (Nat.le_of_ble_eq_true rfl)) dc_O_deliver_5 ⟨Nat.le_of_ble_eq_true rfl, Nat.le_of_ble_eq_true rfl⟩) (fun H locs hP hD hS => ?_)
  have hP : va_P (dC, dI) clsL [zO o0 oa i0 m0 nn, zM m0 m1 m2 m3 m4 m5 mn mi, (m5, .inl (cI, 104, .inl (nF su)))] H := hP.sub (ws' := [zO o0 oa i0 m0 nn, zM m0 m1 m2 m3 m4 m5 mn mi, (m5, .inl (cI, 104, .inl (nF su)))]) [0, 1, 2] rfl
  have hD : va_D A [zO o0 oa i0 m0 nn, zM m0 m1 m2 m3 m4 m5 mn mi, (m5, .inl (cI, 104, .inl (nF su)))] := hD.sub (ws' := [zO o0 oa i0 m0 nn, zM m0 m1 m2 m3 m4 m5 mn mi, (m5, .inl (cI, 104, .inl (nF su)))]) [0, 1, 2] (by decide) rfl
  refine lv_if_eq (tgt := 23) hx hb dc_O_deliver_8 (by decide) (fun hc => ?_) (fun hc => ?_)
  rotate_left
  · have h1 : (decide (su k = 0)) = true := bI_n0.mp hc
    simp [hw] at h1
  have h1 : (decide (su k = 0)) = false := bI_0.mp hc
  refine lv_iconst (v := (-1)) hx hb dc_O_deliver_23 (by decide) ?_
  have hP9 := hP.sub (ws' := [zO o0 oa i0 m0 nn, zM m0 m1 m2 m3 m4 m5 mn mi, (m5, .inl (cI, 104, .inl (nF su)))]) [0, 1, 2] rfl
  have hD9 := hD.sub (ws' := [zO o0 oa i0 m0 nn, zM m0 m1 m2 m3 m4 m5 mn mi, (m5, .inl (cI, 104, .inl (nF su)))]) [0, 1, 2] (by decide) rfl
  exact W.iret (v := (-1)) hx hb hr (fun t ht hW => ⟨⟨_, (), rfl, rfl, by rw [ht]; exact hP9, va_K.moved hW.alike hK, hD9⟩, hS.F ht⟩) hS.2.2 dc_O_deliver_24

set_option maxHeartbeats 4000000 in
set_option maxRecDepth 100000 in
theorem oc_O_deliver_full (l : Launch) (dC : Nat → ClassId) (dI : Nat → Nat → Nat) (cI cJ cZ cP : ClassId) (sz : Nat) (o0 : Nat) (oa : Nat) (i0 : Nat) (m0 : Nat) (nn : Nat) (m1 : Nat) (m2 : Nat) (m3 : Nat) (m4 : Nat) (m5 : Nat) (mn : Nat) (mi : Nat) (i1 : Nat) (i2 : Nat) (i3 : Nat) (i4 : Nat) (cn : Nat) (sS : Int64) (lS : Int64) (rS : Int64) (su : Nat → Nat) (k : Nat) (hk : k < mn) (hmn : mn ≤ 104) (hu : su k < 4) (hw : su k = 0) (hcn : cn = 40) : mt_I l mn_O_deliver bc_O_deliver 4 (some .int) ({ frames := 2, cells := 0, slots := 0, locals := 42 }) (dC, dI) (TYS cI cJ cZ cP) sz [.ref o0, .int (nI k)] [zO o0 oa i0 m0 nn, zM m0 m1 m2 m3 m4 m5 mn mi, (m5, .inl (cI, 104, .inl (nF su))), zI i0 i1 i2 i3 i4 cn sS lS rS] [zO o0 oa i0 m0 nn, zM m0 m1 m2 m3 m4 m5 mn mi, (m5, .inl (cI, 104, .inl (nF su))), zI i0 i1 i2 i3 i4 cn sS lS rS] ((-1)) 0 0 := by
  unfold mt_I
  refine Met.ofW (cc := bc_O_deliver) (maxL := 4) (ret := (some .int)) (by decide) rfl ?_
  intro p e s m args below meth c s₁ B hml hv
  obtain ⟨rfl, hsz, hP, hK, hD0⟩ := hv
  have hx := B.exec
  have hb := B.bytes
  have hr := B.returns
  have hts := atoms_spec (ws := wsT mn_O_deliver bc_O_deliver 4 (some .int)) B.pre
  have htb : ∀ w ∈ gtbl, w.before _ s = true := fun w h => hts w (List.mem_cons_of_mem _ h)
  have hown : s.vm.findClass cn_O = some m.cls := findClass_of_methodNamed B.named
  have hlocks := B.notSynchronized
  subst hsz
  have hD := hD0.self (sz := s.heap.size)
  generalize hAe : va_A [zO o0 oa i0 m0 nn, zM m0 m1 m2 m3 m4 m5 mn mi, (m5, .inl (cI, 104, .inl (nF su))), zI i0 i1 i2 i3 i4 cn sS lS rS] s.heap.size = A at hD ⊢
  have hA : ∀ q : Nat, s.heap.size ≤ q → A q := fun q h => by rw [← hAe]; exact Or.inr h
  have hS : va_S A s.heap s.heap [] := va_S.rf
  have hP : va_P (dC, dI) clsL [zO o0 oa i0 m0 nn, zM m0 m1 m2 m3 m4 m5 mn mi, (m5, .inl (cI, 104, .inl (nF su))), zI i0 i1 i2 i3 i4 cn sS lS rS] s.heap := hP
  have hl := lv_entry ([.ref o0, .int (nI k)]) (n := 4) (Nat.le_of_ble_eq_true rfl)
  rw [lg_entry_eq]
  generalize (lg_sl ([.ref o0, .int (nI k)]) ++ List.replicate (4 - (lg_sl ([.ref o0, .int (nI k)])).length) Slot.unset).toArray = ls at hl ⊢
  have hl : lv_has ls 4 [(0, .ref o0), (1, .int (nI k))] := hl
  refine lv_aload_n hx hb dc_O_deliver_0 rfl (lv_at hl 0 rfl) ?_
  refine va_get (D := (dC, dI)) (ci := 3) (v := .ref m0) (C := cn_O) (T := ft_O) (N := 4) hx hb htb ki_O hown hK hP 0 rfl rfl 2 (by decide) (htb _ kw_141) (fun _ h9 => h9) rfl dc_O_deliver_1 ?_
  refine lv_iload_n hx hb dc_O_deliver_4 rfl (lv_at hl 1 rfl) ?_
  refine cl_i (wc := [zM m0 m1 m2 m3 m4 m5 mn mi, (m5, .inl (cI, 104, .inl (nF su)))]) (wr := [zO o0 oa i0 m0 nn, zI i0 i1 i2 i3 i4 cn sS lS rS]) (w1 := [zM m0 m1 m2 m3 m4 m5 mn mi, (m5, .inl (cI, 104, .inl (nF su)))]) hP hD hS hA [1, 2] [0, 3] rfl rfl (by decide) (by decide) (va_runV (As := [.int (nI k)]) (rest := []) ⟨hx, hb, hml, hown, htb⟩ (oc_M_isWaiting l dC dI cI cJ cZ cP _ m0 m1 m2 m3 m4 m5 mn mi su k hk hmn hu) (cwV 1 htb (gw_V kw_183 kw_184 kw_185 kw_4 kw_186) rfl rfl rfl (by decide +kernel) ⟨Nat.le_of_ble_eq_true rfl, Nat.le_of_ble_eq_true rfl⟩) (pr_V hP hK hD (va_recv hK hP (ci := 1) (q0 := 1) rfl rfl) [1, 2] (by decide) rfl rfl) rfl rfl hl.1 rfl (lv_room (Nat.le_of_ble_eq_true rfl)) dc_O_deliver_5 ⟨Nat.le_of_ble_eq_true rfl, Nat.le_of_ble_eq_true rfl⟩) (fun H locs hP hD hS => ?_)
  have hP : va_P (dC, dI) clsL [zO o0 oa i0 m0 nn, zM m0 m1 m2 m3 m4 m5 mn mi, (m5, .inl (cI, 104, .inl (nF su))), zI i0 i1 i2 i3 i4 cn sS lS rS] H := hP.sub (ws' := [zO o0 oa i0 m0 nn, zM m0 m1 m2 m3 m4 m5 mn mi, (m5, .inl (cI, 104, .inl (nF su))), zI i0 i1 i2 i3 i4 cn sS lS rS]) [0, 2, 3, 1] rfl
  have hD : va_D A [zO o0 oa i0 m0 nn, zM m0 m1 m2 m3 m4 m5 mn mi, (m5, .inl (cI, 104, .inl (nF su))), zI i0 i1 i2 i3 i4 cn sS lS rS] := hD.sub (ws' := [zO o0 oa i0 m0 nn, zM m0 m1 m2 m3 m4 m5 mn mi, (m5, .inl (cI, 104, .inl (nF su))), zI i0 i1 i2 i3 i4 cn sS lS rS]) [0, 2, 3, 1] (by decide) rfl
  refine lv_if_eq (tgt := 23) hx hb dc_O_deliver_8 (by decide) (fun hc => ?_) (fun hc => ?_)
  · have h1 : (decide (su k = 0)) = false := bI_0.mp hc
    simp [hw] at h1
  have h1 : (decide (su k = 0)) = true := bI_n0.mp hc
  refine lv_aload_n hx hb dc_O_deliver_11 rfl (lv_at hl 0 rfl) ?_
  refine va_get (D := (dC, dI)) (ci := 3) (v := .ref i0) (C := cn_O) (T := ft_O) (N := 4) hx hb htb ki_O hown hK hP 0 rfl rfl 1 (by decide) (htb _ kw_140) (fun _ h9 => h9) rfl dc_O_deliver_12 ?_
  refine va_get (D := (dC, dI)) (ci := 0) (v := .int (nI cn)) (C := cn_I) (T := ft_I) (N := 8) hx hb htb ki_I hown hK hP 3 rfl rfl 4 (by decide) (htb _ kw_80) (fun _ h9 => h9) rfl dc_O_deliver_15 ?_
  refine lv_bipush (v := nI 40) hx hb dc_O_deliver_18 (by decide) ?_
  refine lv_icmp_lt (tgt := 25) hx hb dc_O_deliver_20 (by decide) (fun hc => ?_) (fun hc => ?_)
  · have h2 : cn < 40 := (nI_ltI (by omega) (by omega)).mp hc
    exact absurd h2 (by omega)
  have h2 : 40 ≤ cn := Nat.le_of_not_lt (fun h9 => hc ((nI_ltI (by omega) (by omega)).mpr h9))
  refine lv_iconst (v := (-1)) hx hb dc_O_deliver_23 (by decide) ?_
  have hP9 := hP.sub (ws' := [zO o0 oa i0 m0 nn, zM m0 m1 m2 m3 m4 m5 mn mi, (m5, .inl (cI, 104, .inl (nF su))), zI i0 i1 i2 i3 i4 cn sS lS rS]) [0, 1, 2, 3] rfl
  have hD9 := hD.sub (ws' := [zO o0 oa i0 m0 nn, zM m0 m1 m2 m3 m4 m5 mn mi, (m5, .inl (cI, 104, .inl (nF su))), zI i0 i1 i2 i3 i4 cn sS lS rS]) [0, 1, 2, 3] (by decide) rfl
  exact W.iret (v := (-1)) hx hb hr (fun t ht hW => ⟨⟨_, (), rfl, rfl, by rw [ht]; exact hP9, va_K.moved hW.alike hK, hD9⟩, hS.F ht⟩) hS.2.2 dc_O_deliver_24

set_option maxHeartbeats 4000000 in
set_option maxRecDepth 100000 in
theorem oc_O_deliver_dn (l : Launch) (dC : Nat → ClassId) (dI : Nat → Nat → Nat) (cI cJ cZ cP : ClassId) (sz : Nat) (o0 : Nat) (oa : Nat) (i0 : Nat) (m0 : Nat) (nn : Nat) (pf : Nat → Option Nat) (h : Nat) (a : Nat) (b : Nat) (dn : Bool) (n : Nat) (oc : Nat) (le : Nat) (ll : Int64) (li : Int64) (lc : Nat) (kc : Nat) (rp : Int32) (i1 : Nat) (i2 : Nat) (i3 : Nat) (i4 : Nat) (cn : Nat) (sS : Int64) (lS : Int64) (rS : Int64) (m1 : Nat) (m2 : Nat) (m3 : Nat) (m4 : Nat) (m5 : Nat) (mn : Nat) (mi : Nat) (tg : Nat → Nat) (su : Nat → Nat) (j : Nat) (k : Nat) (hk : k < mn) (hmn : mn ≤ 104) (hu : su k < 4) (hw : su k = 0) (hcn : cn < 40) (htg : tg k = j) (hj : j < 3) (hf : pf j = some h) (hdn : dn = true) : mt_I l mn_O_deliver bc_O_deliver 4 (some .int) ({ frames := 2, cells := 0, slots := 0, locals := 42 }) (dC, dI) (TYS cI cJ cZ cP) sz [.ref o0, .int (nI k)] [zO o0 oa i0 m0 nn, (oa, .inl (cP, 3, .inr (.inr (.inr (.inr pf))))), zP h a b dn n oc le ll li lc kc rp, zI i0 i1 i2 i3 i4 cn sS lS rS, zM m0 m1 m2 m3 m4 m5 mn mi, (m2, .inl (cI, 104, .inl (nF tg))), (m5, .inl (cI, 104, .inl (nF su)))] [zO o0 oa i0 m0 nn, (oa, .inl (cP, 3, .inr (.inr (.inr (.inr pf))))), zP h a b dn n oc le ll li lc kc rp, zI i0 i1 i2 i3 i4 cn sS lS rS, zM m0 m1 m2 m3 m4 m5 mn mi, (m2, .inl (cI, 104, .inl (nF tg))), (m5, .inl (cI, 104, .inl (nF su)))] ((-1)) 0 0 := by
  unfold mt_I
  refine Met.ofW (cc := bc_O_deliver) (maxL := 4) (ret := (some .int)) (by decide) rfl ?_
  intro p e s m args below meth c s₁ B hml hv
  obtain ⟨rfl, hsz, hP, hK, hD0⟩ := hv
  have hx := B.exec
  have hb := B.bytes
  have hr := B.returns
  have hts := atoms_spec (ws := wsT mn_O_deliver bc_O_deliver 4 (some .int)) B.pre
  have htb : ∀ w ∈ gtbl, w.before _ s = true := fun w h => hts w (List.mem_cons_of_mem _ h)
  have hown : s.vm.findClass cn_O = some m.cls := findClass_of_methodNamed B.named
  have hlocks := B.notSynchronized
  subst hsz
  have hD := hD0.self (sz := s.heap.size)
  generalize hAe : va_A [zO o0 oa i0 m0 nn, (oa, .inl (cP, 3, .inr (.inr (.inr (.inr pf))))), zP h a b dn n oc le ll li lc kc rp, zI i0 i1 i2 i3 i4 cn sS lS rS, zM m0 m1 m2 m3 m4 m5 mn mi, (m2, .inl (cI, 104, .inl (nF tg))), (m5, .inl (cI, 104, .inl (nF su)))] s.heap.size = A at hD ⊢
  have hA : ∀ q : Nat, s.heap.size ≤ q → A q := fun q h => by rw [← hAe]; exact Or.inr h
  have hS : va_S A s.heap s.heap [] := va_S.rf
  have hP : va_P (dC, dI) clsL [zO o0 oa i0 m0 nn, (oa, .inl (cP, 3, .inr (.inr (.inr (.inr pf))))), zP h a b dn n oc le ll li lc kc rp, zI i0 i1 i2 i3 i4 cn sS lS rS, zM m0 m1 m2 m3 m4 m5 mn mi, (m2, .inl (cI, 104, .inl (nF tg))), (m5, .inl (cI, 104, .inl (nF su)))] s.heap := hP
  have hl := lv_entry ([.ref o0, .int (nI k)]) (n := 4) (Nat.le_of_ble_eq_true rfl)
  rw [lg_entry_eq]
  generalize (lg_sl ([.ref o0, .int (nI k)]) ++ List.replicate (4 - (lg_sl ([.ref o0, .int (nI k)])).length) Slot.unset).toArray = ls at hl ⊢
  have hl : lv_has ls 4 [(0, .ref o0), (1, .int (nI k))] := hl
  refine lv_aload_n hx hb dc_O_deliver_0 rfl (lv_at hl 0 rfl) ?_
  refine va_get (D := (dC, dI)) (ci := 3) (v := .ref m0) (C := cn_O) (T := ft_O) (N := 4) hx hb htb ki_O hown hK hP 0 rfl rfl 2 (by decide) (htb _ kw_141) (fun _ h9 => h9) rfl dc_O_deliver_1 ?_
  refine lv_iload_n hx hb dc_O_deliver_4 rfl (lv_at hl 1 rfl) ?_
  refine cl_i (wc := [zM m0 m1 m2 m3 m4 m5 mn mi, (m5, .inl (cI, 104, .inl (nF su)))]) (wr := [zO o0 oa i0 m0 nn, (oa, .inl (cP, 3, .inr (.inr (.inr (.inr pf))))), zP h a b dn n oc le ll li lc kc rp, zI i0 i1 i2 i3 i4 cn sS lS rS, (m2, .inl (cI, 104, .inl (nF tg)))]) (w1 := [zM m0 m1 m2 m3 m4 m5 mn mi, (m5, .inl (cI, 104, .inl (nF su)))]) hP hD hS hA [4, 6] [0, 1, 2, 3, 5] rfl rfl (by decide) (by decide) (va_runV (As := [.int (nI k)]) (rest := []) ⟨hx, hb, hml, hown, htb⟩ (oc_M_isWaiting l dC dI cI cJ cZ cP _ m0 m1 m2 m3 m4 m5 mn mi su k hk hmn hu) (cwV 1 htb (gw_V kw_183 kw_184 kw_185 kw_4 kw_186) rfl rfl rfl (by decide +kernel) ⟨Nat.le_of_ble_eq_true rfl, Nat.le_of_ble_eq_true rfl⟩) (pr_V hP hK hD (va_recv hK hP (ci := 1) (q0 := 4) rfl rfl) [4, 6] (by decide) rfl rfl) rfl rfl hl.1 rfl (lv_room (Nat.le_of_ble_eq_true rfl)) dc_O_deliver_5 ⟨Nat.le_of_ble_eq_true rfl, Nat.le_of_ble_eq_true rfl⟩) (fun H locs hP hD hS => ?_)
  have hP : va_P (dC, dI) clsL [zO o0 oa i0 m0 nn, (oa, .inl (cP, 3, .inr (.inr (.inr (.inr pf))))), zP h a b dn n oc le ll li lc kc rp, zI i0 i1 i2 i3 i4 cn sS lS rS, zM m0 m1 m2 m3 m4 m5 mn mi, (m2, .inl (cI, 104, .inl (nF tg))), (m5, .inl (cI, 104, .inl (nF su)))] H := hP.sub (ws' := [zO o0 oa i0 m0 nn, (oa, .inl (cP, 3, .inr (.inr (.inr (.inr pf))))), zP h a b dn n oc le ll li lc kc rp, zI i0 i1 i2 i3 i4 cn sS lS rS, zM m0 m1 m2 m3 m4 m5 mn mi, (m2, .inl (cI, 104, .inl (nF tg))), (m5, .inl (cI, 104, .inl (nF su)))]) [0, 1, 2, 3, 5, 4, 6] rfl
  have hD : va_D A [zO o0 oa i0 m0 nn, (oa, .inl (cP, 3, .inr (.inr (.inr (.inr pf))))), zP h a b dn n oc le ll li lc kc rp, zI i0 i1 i2 i3 i4 cn sS lS rS, zM m0 m1 m2 m3 m4 m5 mn mi, (m2, .inl (cI, 104, .inl (nF tg))), (m5, .inl (cI, 104, .inl (nF su)))] := hD.sub (ws' := [zO o0 oa i0 m0 nn, (oa, .inl (cP, 3, .inr (.inr (.inr (.inr pf))))), zP h a b dn n oc le ll li lc kc rp, zI i0 i1 i2 i3 i4 cn sS lS rS, zM m0 m1 m2 m3 m4 m5 mn mi, (m2, .inl (cI, 104, .inl (nF tg))), (m5, .inl (cI, 104, .inl (nF su)))]) [0, 1, 2, 3, 5, 4, 6] (by decide) rfl
  refine lv_if_eq (tgt := 23) hx hb dc_O_deliver_8 (by decide) (fun hc => ?_) (fun hc => ?_)
  · have h1 : (decide (su k = 0)) = false := bI_0.mp hc
    simp [hw] at h1
  have h1 : (decide (su k = 0)) = true := bI_n0.mp hc
  refine lv_aload_n hx hb dc_O_deliver_11 rfl (lv_at hl 0 rfl) ?_
  refine va_get (D := (dC, dI)) (ci := 3) (v := .ref i0) (C := cn_O) (T := ft_O) (N := 4) hx hb htb ki_O hown hK hP 0 rfl rfl 1 (by decide) (htb _ kw_140) (fun _ h9 => h9) rfl dc_O_deliver_12 ?_
  refine va_get (D := (dC, dI)) (ci := 0) (v := .int (nI cn)) (C := cn_I) (T := ft_I) (N := 8) hx hb htb ki_I hown hK hP 3 rfl rfl 4 (by decide) (htb _ kw_80) (fun _ h9 => h9) rfl dc_O_deliver_15 ?_
  refine lv_bipush (v := nI 40) hx hb dc_O_deliver_18 (by decide) ?_
  refine lv_icmp_lt (tgt := 25) hx hb dc_O_deliver_20 (by decide) (fun hc => ?_) (fun hc => ?_)
  rotate_left
  · have h2 : 40 ≤ cn := Nat.le_of_not_lt (fun h9 => hc ((nI_ltI (by omega) (by omega)).mpr h9))
    exact absurd h2 (by omega)
  have h2 : cn < 40 := (nI_ltI (by omega) (by omega)).mp hc
  refine lv_aload_n hx hb dc_O_deliver_25 rfl (lv_at hl 0 rfl) ?_
  refine va_get (D := (dC, dI)) (ci := 3) (v := .ref m0) (C := cn_O) (T := ft_O) (N := 4) hx hb htb ki_O hown hK hP 0 rfl rfl 2 (by decide) (htb _ kw_141) (fun _ h9 => h9) rfl dc_O_deliver_26 ?_
  refine va_get (D := (dC, dI)) (ci := 1) (v := .ref m2) (C := cn_M) (T := ft_M) (N := 7) hx hb htb ki_M hown hK hP 4 rfl rfl 1 (by decide) (htb _ kw_114) (fun _ h9 => h9) rfl dc_O_deliver_29 ?_
  refine lv_iload_n hx hb dc_O_deliver_32 rfl (lv_at hl 1 rfl) ?_
  refine wa_nld (k := k) hx hb hK hP 5 0 rfl rfl (by omega) (by omega) dc_O_deliver_33 ?_
  refine tp_i (y := nI j) (by rw [htg]) ?_
  refine lv_istore_n (lv' := [(2, .int (nI j)), (0, .ref o0), (1, .int (nI k))]) hx hb dc_O_deliver_34 rfl hl (by decide) rfl (fun ls hl => ?_)
  refine lv_aload_n hx hb dc_O_deliver_35 rfl (lv_at hl 1 rfl) ?_
  refine va_get (D := (dC, dI)) (ci := 3) (v := .ref oa) (C := cn_O) (T := ft_O) (N := 4) hx hb htb ki_O hown hK hP 0 rfl rfl 0 (by decide) (htb _ kw_139) (fun _ h9 => h9) rfl dc_O_deliver_36 ?_
  refine lv_iload_n hx hb dc_O_deliver_39 rfl (lv_at hl 0 rfl) ?_
  refine wa_ald hx hb hK hP 1 3 rfl rfl (k := j) (by omega) (by omega) (v := h) (hf) dc_O_deliver_40 ?_
  refine lv_astore_n (lv' := [(3, .ref h), (2, .int (nI j)), (0, .ref o0), (1, .int (nI k))]) hx hb dc_O_deliver_41 rfl hl (by decide) rfl (fun ls hl => ?_)
  refine lv_aload_n hx hb dc_O_deliver_42 rfl (lv_at hl 0 rfl) ?_
  refine va_get (D := (dC, dI)) (ci := 2) (v := .int (bI dn)) (C := cn_P) (T := ft_P) (N := 11) hx hb htb ki_P hown hK hP 2 rfl rfl 2 (by decide) (htb _ kw_27) (fun _ h9 => h9) rfl dc_O_deliver_43 ?_
  refine lv_if_eq (tgt := 51) hx hb dc_O_deliver_46 (by decide) (fun hc => ?_) (fun hc => ?_)
  · have h3 : dn = false := bI_0.mp hc
    rw [hdn] at h3; exact absurd h3 (by decide)
  have h3 : dn = true := bI_n0.mp hc
  refine lv_iconst (v := (-1)) hx hb dc_O_deliver_49 (by decide) ?_
  have hP9 := hP.sub (ws' := [zO o0 oa i0 m0 nn, (oa, .inl (cP, 3, .inr (.inr (.inr (.inr pf))))), zP h a b dn n oc le ll li lc kc rp, zI i0 i1 i2 i3 i4 cn sS lS rS, zM m0 m1 m2 m3 m4 m5 mn mi, (m2, .inl (cI, 104, .inl (nF tg))), (m5, .inl (cI, 104, .inl (nF su)))]) [0, 1, 2, 3, 4, 5, 6] rfl
  have hD9 := hD.sub (ws' := [zO o0 oa i0 m0 nn, (oa, .inl (cP, 3, .inr (.inr (.inr (.inr pf))))), zP h a b dn n oc le ll li lc kc rp, zI i0 i1 i2 i3 i4 cn sS lS rS, zM m0 m1 m2 m3 m4 m5 mn mi, (m2, .inl (cI, 104, .inl (nF tg))), (m5, .inl (cI, 104, .inl (nF su)))]) [0, 1, 2, 3, 4, 5, 6] (by decide) rfl
  exact W.iret (v := (-1)) hx hb hr (fun t ht hW => ⟨⟨_, (), rfl, rfl, by rw [ht]; exact hP9, va_K.moved hW.alike hK, hD9⟩, hS.F ht⟩) hS.2.2 dc_O_deliver_50

set_option maxHeartbeats 4000000 in
set_option maxRecDepth 100000 in
theorem oc_O_deliver_held (l : Launch) (dC : Nat → ClassId) (dI : Nat → Nat → Nat) (cI cJ cZ cP : ClassId) (sz : Nat) (o0 : Nat) (oa : Nat) (i0 : Nat) (m0 : Nat) (nn : Nat) (pf : Nat → Option Nat) (h : Nat) (a : Nat) (b : Nat) (dn : Bool) (n : Nat) (oc : Nat) (le : Nat) (ll : Int64) (li : Int64) (lc : Nat) (kc : Nat) (rp : Int32) (i1 : Nat) (i2 : Nat) (i3 : Nat) (i4 : Nat) (cn : Nat) (sS : Int64) (lS : Int64) (rS : Int64) (m1 : Nat) (m2 : Nat) (m3 : Nat) (m4 : Nat) (m5 : Nat) (mn : Nat) (mi : Nat) (tg : Nat → Nat) (su : Nat → Nat) (j : Nat) (k : Nat) (kn : Nat → Nat) (hk : k < mn) (hmn : mn ≤ 104) (hu : su k < 4) (hw : su k = 0) (hcn : cn < 40) (htg : tg k = j) (hj : j < 3) (hf : pf j = some h) (hdn : dn = false) (hkb : kn k < 2 ^ 30) (hlb : le < 2 ^ 30) (hh : le < kn k) : mt_I l mn_O_deliver bc_O_deliver 4 (some .int) ({ frames := 2, cells := 0, slots := 0, locals := 42 }) (dC, dI) (TYS cI cJ cZ cP) sz [.ref o0, .int (nI k)] [zO o0 oa i0 m0 nn, (oa, .inl (cP, 3, .inr (.inr (.inr (.inr pf))))), zP h a b dn n oc le ll li lc kc rp, zI i0 i1 i2 i3 i4 cn sS lS rS, zM m0 m1 m2 m3 m4 m5 mn mi, (m2, .inl (cI, 104, .inl (nF tg))), (m5, .inl (cI, 104, .inl (nF su))), (m4, .inl (cI, 104, .inl (nF kn)))] [zO o0 oa i0 m0 nn, (oa, .inl (cP, 3, .inr (.inr (.inr (.inr pf))))), zP h a b dn n oc le ll li lc kc rp, zI i0 i1 i2 i3 i4 cn sS lS rS, zM m0 m1 m2 m3 m4 m5 mn mi, (m2, .inl (cI, 104, .inl (nF tg))), (m5, .inl (cI, 104, .inl (nF su))), (m4, .inl (cI, 104, .inl (nF kn)))] ((-2)) 0 0 := by
  unfold mt_I
  refine Met.ofW (cc := bc_O_deliver) (maxL := 4) (ret := (some .int)) (by decide) rfl ?_
  intro p e s m args below meth c s₁ B hml hv
  obtain ⟨rfl, hsz, hP, hK, hD0⟩ := hv
  have hx := B.exec
  have hb := B.bytes
  have hr := B.returns
  have hts := atoms_spec (ws := wsT mn_O_deliver bc_O_deliver 4 (some .int)) B.pre
  have htb : ∀ w ∈ gtbl, w.before _ s = true := fun w h => hts w (List.mem_cons_of_mem _ h)
  have hown : s.vm.findClass cn_O = some m.cls := findClass_of_methodNamed B.named
  have hlocks := B.notSynchronized
  subst hsz
  have hD := hD0.self (sz := s.heap.size)
  generalize hAe : va_A [zO o0 oa i0 m0 nn, (oa, .inl (cP, 3, .inr (.inr (.inr (.inr pf))))), zP h a b dn n oc le ll li lc kc rp, zI i0 i1 i2 i3 i4 cn sS lS rS, zM m0 m1 m2 m3 m4 m5 mn mi, (m2, .inl (cI, 104, .inl (nF tg))), (m5, .inl (cI, 104, .inl (nF su))), (m4, .inl (cI, 104, .inl (nF kn)))] s.heap.size = A at hD ⊢
  have hA : ∀ q : Nat, s.heap.size ≤ q → A q := fun q h => by rw [← hAe]; exact Or.inr h
  have hS : va_S A s.heap s.heap [] := va_S.rf
  have hP : va_P (dC, dI) clsL [zO o0 oa i0 m0 nn, (oa, .inl (cP, 3, .inr (.inr (.inr (.inr pf))))), zP h a b dn n oc le ll li lc kc rp, zI i0 i1 i2 i3 i4 cn sS lS rS, zM m0 m1 m2 m3 m4 m5 mn mi, (m2, .inl (cI, 104, .inl (nF tg))), (m5, .inl (cI, 104, .inl (nF su))), (m4, .inl (cI, 104, .inl (nF kn)))] s.heap := hP
  have hl := lv_entry ([.ref o0, .int (nI k)]) (n := 4) (Nat.le_of_ble_eq_true rfl)
  rw [lg_entry_eq]
  generalize (lg_sl ([.ref o0, .int (nI k)]) ++ List.replicate (4 - (lg_sl ([.ref o0, .int (nI k)])).length) Slot.unset).toArray = ls at hl ⊢
  have hl : lv_has ls 4 [(0, .ref o0), (1, .int (nI k))] := hl
  refine lv_aload_n hx hb dc_O_deliver_0 rfl (lv_at hl 0 rfl) ?_
  refine va_get (D := (dC, dI)) (ci := 3) (v := .ref m0) (C := cn_O) (T := ft_O) (N := 4) hx hb htb ki_O hown hK hP 0 rfl rfl 2 (by decide) (htb _ kw_141) (fun _ h9 => h9) rfl dc_O_deliver_1 ?_
  refine lv_iload_n hx hb dc_O_deliver_4 rfl (lv_at hl 1 rfl) ?_
  refine cl_i (wc := [zM m0 m1 m2 m3 m4 m5 mn mi, (m5, .inl (cI, 104, .inl (nF su)))]) (wr := [zO o0 oa i0 m0 nn, (oa, .inl (cP, 3, .inr (.inr (.inr (.inr pf))))), zP h a b dn n oc le ll li lc kc rp, zI i0 i1 i2 i3 i4 cn sS lS rS, (m2, .inl (cI, 104, .inl (nF tg))), (m4, .inl (cI, 104, .inl (nF kn)))]) (w1 := [zM m0 m1 m2 m3 m4 m5 mn mi, (m5, .inl (cI, 104, .inl (nF su)))]) hP hD hS hA [4, 6] [0, 1, 2, 3, 5, 7] rfl rfl (by decide) (by decide) (va_runV (As := [.int (nI k)]) (rest := []) ⟨hx, hb, hml, hown, htb⟩ (oc_M_isWaiting l dC dI cI cJ cZ cP _ m0 m1 m2 m3 m4 m5 mn mi su k hk hmn hu) (cwV 1 htb (gw_V kw_183 kw_184 kw_185 kw_4 kw_186) rfl rfl rfl (by decide +kernel) ⟨Nat.le_of_ble_eq_true rfl, Nat.le_of_ble_eq_true rfl⟩) (pr_V hP hK hD (va_recv hK hP (ci := 1) (q0 := 4) rfl rfl) [4, 6] (by decide) rfl rfl) rfl rfl hl.1 rfl (lv_room (Nat.le_of_ble_eq_true rfl)) dc_O_deliver_5 ⟨Nat.le_of_ble_eq_true rfl, Nat.le_of_ble_eq_true rfl⟩) (fun H locs hP hD hS => ?_)
  have hP : va_P (dC, dI) clsL [zO o0 oa i0 m0 nn, (oa, .inl (cP, 3, .inr (.inr (.inr (.inr pf))))), zP h a b dn n oc le ll li lc kc rp, zI i0 i1 i2 i3 i4 cn sS lS rS, zM m0 m1 m2 m3 m4 m5 mn mi, (m2, .inl (cI, 104, .inl (nF tg))), (m5, .inl (cI, 104, .inl (nF su))), (m4, .inl (cI, 104, .inl (nF kn)))] H := hP.sub (ws' := [zO o0 oa i0 m0 nn, (oa, .inl (cP, 3, .inr (.inr (.inr (.inr pf))))), zP h a b dn n oc le ll li lc kc rp, zI i0 i1 i2 i3 i4 cn sS lS rS, zM m0 m1 m2 m3 m4 m5 mn mi, (m2, .inl (cI, 104, .inl (nF tg))), (m5, .inl (cI, 104, .inl (nF su))), (m4, .inl (cI, 104, .inl (nF kn)))]) [0, 1, 2, 3, 6, 4, 7, 5] rfl
  have hD : va_D A [zO o0 oa i0 m0 nn, (oa, .inl (cP, 3, .inr (.inr (.inr (.inr pf))))), zP h a b dn n oc le ll li lc kc rp, zI i0 i1 i2 i3 i4 cn sS lS rS, zM m0 m1 m2 m3 m4 m5 mn mi, (m2, .inl (cI, 104, .inl (nF tg))), (m5, .inl (cI, 104, .inl (nF su))), (m4, .inl (cI, 104, .inl (nF kn)))] := hD.sub (ws' := [zO o0 oa i0 m0 nn, (oa, .inl (cP, 3, .inr (.inr (.inr (.inr pf))))), zP h a b dn n oc le ll li lc kc rp, zI i0 i1 i2 i3 i4 cn sS lS rS, zM m0 m1 m2 m3 m4 m5 mn mi, (m2, .inl (cI, 104, .inl (nF tg))), (m5, .inl (cI, 104, .inl (nF su))), (m4, .inl (cI, 104, .inl (nF kn)))]) [0, 1, 2, 3, 6, 4, 7, 5] (by decide) rfl
  refine lv_if_eq (tgt := 23) hx hb dc_O_deliver_8 (by decide) (fun hc => ?_) (fun hc => ?_)
  · have h1 : (decide (su k = 0)) = false := bI_0.mp hc
    simp [hw] at h1
  have h1 : (decide (su k = 0)) = true := bI_n0.mp hc
  refine lv_aload_n hx hb dc_O_deliver_11 rfl (lv_at hl 0 rfl) ?_
  refine va_get (D := (dC, dI)) (ci := 3) (v := .ref i0) (C := cn_O) (T := ft_O) (N := 4) hx hb htb ki_O hown hK hP 0 rfl rfl 1 (by decide) (htb _ kw_140) (fun _ h9 => h9) rfl dc_O_deliver_12 ?_
  refine va_get (D := (dC, dI)) (ci := 0) (v := .int (nI cn)) (C := cn_I) (T := ft_I) (N := 8) hx hb htb ki_I hown hK hP 3 rfl rfl 4 (by decide) (htb _ kw_80) (fun _ h9 => h9) rfl dc_O_deliver_15 ?_
  refine lv_bipush (v := nI 40) hx hb dc_O_deliver_18 (by decide) ?_
  refine lv_icmp_lt (tgt := 25) hx hb dc_O_deliver_20 (by decide) (fun hc => ?_) (fun hc => ?_)
  rotate_left
  · have h2 : 40 ≤ cn := Nat.le_of_not_lt (fun h9 => hc ((nI_ltI (by omega) (by omega)).mpr h9))
    exact absurd h2 (by omega)
  have h2 : cn < 40 := (nI_ltI (by omega) (by omega)).mp hc
  refine lv_aload_n hx hb dc_O_deliver_25 rfl (lv_at hl 0 rfl) ?_
  refine va_get (D := (dC, dI)) (ci := 3) (v := .ref m0) (C := cn_O) (T := ft_O) (N := 4) hx hb htb ki_O hown hK hP 0 rfl rfl 2 (by decide) (htb _ kw_141) (fun _ h9 => h9) rfl dc_O_deliver_26 ?_
  refine va_get (D := (dC, dI)) (ci := 1) (v := .ref m2) (C := cn_M) (T := ft_M) (N := 7) hx hb htb ki_M hown hK hP 4 rfl rfl 1 (by decide) (htb _ kw_114) (fun _ h9 => h9) rfl dc_O_deliver_29 ?_
  refine lv_iload_n hx hb dc_O_deliver_32 rfl (lv_at hl 1 rfl) ?_
  refine wa_nld (k := k) hx hb hK hP 5 0 rfl rfl (by omega) (by omega) dc_O_deliver_33 ?_
  refine tp_i (y := nI j) (by rw [htg]) ?_
  refine lv_istore_n (lv' := [(2, .int (nI j)), (0, .ref o0), (1, .int (nI k))]) hx hb dc_O_deliver_34 rfl hl (by decide) rfl (fun ls hl => ?_)
  refine lv_aload_n hx hb dc_O_deliver_35 rfl (lv_at hl 1 rfl) ?_
  refine va_get (D := (dC, dI)) (ci := 3) (v := .ref oa) (C := cn_O) (T := ft_O) (N := 4) hx hb htb ki_O hown hK hP 0 rfl rfl 0 (by decide) (htb _ kw_139) (fun _ h9 => h9) rfl dc_O_deliver_36 ?_
  refine lv_iload_n hx hb dc_O_deliver_39 rfl (lv_at hl 0 rfl) ?_
  refine wa_ald hx hb hK hP 1 3 rfl rfl (k := j) (by omega) (by omega) (v := h) (hf) dc_O_deliver_40 ?_
  refine lv_astore_n (lv' := [(3, .ref h), (2, .int (nI j)), (0, .ref o0), (1, .int (nI k))]) hx hb dc_O_deliver_41 rfl hl (by decide) rfl (fun ls hl => ?_)
  refine lv_aload_n hx hb dc_O_deliver_42 rfl (lv_at hl 0 rfl) ?_
  refine va_get (D := (dC, dI)) (ci := 2) (v := .int (bI dn)) (C := cn_P) (T := ft_P) (N := 11) hx hb htb ki_P hown hK hP 2 rfl rfl 2 (by decide) (htb _ kw_27) (fun _ h9 => h9) rfl dc_O_deliver_43 ?_
  refine lv_if_eq (tgt := 51) hx hb dc_O_deliver_46 (by decide) (fun hc => ?_) (fun hc => ?_)
  rotate_left
  · have h3 : dn = true := bI_n0.mp hc
    rw [hdn] at h3; exact absurd h3 (by decide)
  have h3 : dn = false := bI_0.mp hc
  refine lv_aload_n hx hb dc_O_deliver_51 rfl (lv_at hl 2 rfl) ?_
  refine va_get (D := (dC, dI)) (ci := 3) (v := .ref m0) (C := cn_O) (T := ft_O) (N := 4) hx hb htb ki_O hown hK hP 0 rfl rfl 2 (by decide) (htb _ kw_141) (fun _ h9 => h9) rfl dc_O_deliver_52 ?_
  refine va_get (D := (dC, dI)) (ci := 1) (v := .ref m4) (C := cn_M) (T := ft_M) (N := 7) hx hb htb ki_M hown hK hP 4 rfl rfl 3 (by decide) (htb _ kw_118) (fun _ h9 => h9) rfl dc_O_deliver_55 ?_
  refine lv_iload_n hx hb dc_O_deliver_58 rfl (lv_at hl 3 rfl) ?_
  refine wa_nld (k := k) hx hb hK hP 7 0 rfl rfl (by omega) (by omega) dc_O_deliver_59 ?_
  refine lv_aload_n hx hb dc_O_deliver_60 rfl (lv_at hl 0 rfl) ?_
  refine va_get (D := (dC, dI)) (ci := 2) (v := .int (nI le)) (C := cn_P) (T := ft_P) (N := 11) hx hb htb ki_P hown hK hP 2 rfl rfl 5 (by decide) (htb _ kw_33) (fun _ h9 => h9) rfl dc_O_deliver_61 ?_
  refine lv_icmp_le (tgt := 70) hx hb dc_O_deliver_64 (by decide) (fun hc => ?_) (fun hc => ?_)
  · have h4 : (kn k) ≤ le := (nI_leI (by omega) (by omega)).mp hc
    exact absurd h4 (by omega)
  have h4 : le < (kn k) := Nat.lt_of_not_le (fun h9 => hc ((nI_leI (by omega) (by omega)).mpr h9))
  refine lv_bipush (v := (-2)) hx hb dc_O_deliver_67 (by decide) ?_
  have hP9 := hP.sub (ws' := [zO o0 oa i0 m0 nn, (oa, .inl (cP, 3, .inr (.inr (.inr (.inr pf))))), zP h a b dn n oc le ll li lc kc rp, zI i0 i1 i2 i3 i4 cn sS lS rS, zM m0 m1 m2 m3 m4 m5 mn mi, (m2, .inl (cI, 104, .inl (nF tg))), (m5, .inl (cI, 104, .inl (nF su))), (m4, .inl (cI, 104, .inl (nF kn)))]) [0, 1, 2, 3, 4, 5, 6, 7] rfl
  have hD9 := hD.sub (ws' := [zO o0 oa i0 m0 nn, (oa, .inl (cP, 3, .inr (.inr (.inr (.inr pf))))), zP h a b dn n oc le ll li lc kc rp, zI i0 i1 i2 i3 i4 cn sS lS rS, zM m0 m1 m2 m3 m4 m5 mn mi, (m2, .inl (cI, 104, .inl (nF tg))), (m5, .inl (cI, 104, .inl (nF su))), (m4, .inl (cI, 104, .inl (nF kn)))]) [0, 1, 2, 3, 4, 5, 6, 7] (by decide) rfl
  exact W.iret (v := (-2)) hx hb hr (fun t ht hW => ⟨⟨_, (), rfl, rfl, by rw [ht]; exact hP9, va_K.moved hW.alike hK, hD9⟩, hS.F ht⟩) hS.2.2 dc_O_deliver_69

set_option maxHeartbeats 4000000 in
set_option maxRecDepth 100000 in
theorem oc_O_deliver_orph (l : Launch) (dC : Nat → ClassId) (dI : Nat → Nat → Nat) (cI cJ cZ cP : ClassId) (sz : Nat) (o0 : Nat) (oa : Nat) (i0 : Nat) (m0 : Nat) (nn : Nat) (pf : Nat → Option Nat) (h : Nat) (a : Nat) (b : Nat) (dn : Bool) (n : Nat) (oc : Nat) (le : Nat) (ll : Int64) (li : Int64) (lc : Nat) (kc : Nat) (rp : Int32) (i1 : Nat) (i2 : Nat) (i3 : Nat) (i4 : Nat) (cn : Nat) (sS : Int64) (lS : Int64) (rS : Int64) (m1 : Nat) (m2 : Nat) (m3 : Nat) (m4 : Nat) (m5 : Nat) (mn : Nat) (mi : Nat) (tg : Nat → Nat) (su : Nat → Nat) (j : Nat) (k : Nat) (kn : Nat → Nat) (dp : Nat → Int64) (sr : Nat → Option Nat) (hk : k < mn) (hmn : mn ≤ 104) (hu : su k < 4) (hw : su k = 0) (hcn : cn < 40) (htg : tg k = j) (hj : j < 3) (hf : pf j = some h) (hdn : dn = false) (hkb : kn k < 2 ^ 30) (hlb : le < 2 ^ 30) (hh : kn k ≤ le) (hs : ∀ i, sr k = some i → i < 40) (ho : ko_B sr dp ll k = true) : mt_I l mn_O_deliver bc_O_deliver 4 (some .int) ({ frames := 2, cells := 0, slots := 0, locals := 44 }) (dC, dI) (TYS cI cJ cZ cP) sz [.ref o0, .int (nI k)] [zO o0 oa i0 m0 nn, (oa, .inl (cP, 3, .inr (.inr (.inr (.inr pf))))), zP h a b dn n oc le ll li lc kc rp, zI i0 i1 i2 i3 i4 cn sS lS rS, zM m0 m1 m2 m3 m4 m5 mn mi, (m2, .inl (cI, 104, .inl (nF tg))), (m5, .inl (cI, 104, .inl (nF su))), (m4, .inl (cI, 104, .inl (nF kn))), (i4, .inl (cJ, 40, .inr (.inl dp))), (m3, .inl (cI, 104, .inl (oF sr)))] [zO o0 oa i0 m0 nn, (oa, .inl (cP, 3, .inr (.inr (.inr (.inr pf))))), zP h a b dn n oc le ll li lc kc rp, zI i0 i1 i2 i3 i4 cn sS lS rS, zM m0 m1 m2 m3 m4 m5 mn mi, (m2, .inl (cI, 104, .inl (nF tg))), (m5, .inl (cI, 104, .inl (nF (va_up su k 3)))), (m4, .inl (cI, 104, .inl (nF kn))), (i4, .inl (cJ, 40, .inr (.inl dp))), (m3, .inl (cI, 104, .inl (oF sr)))] ((-3)) 0 0 := by
  unfold mt_I
  refine Met.ofW (cc := bc_O_deliver) (maxL := 4) (ret := (some .int)) (by decide) rfl ?_
  intro p e s m args below meth c s₁ B hml hv
  obtain ⟨rfl, hsz, hP, hK, hD0⟩ := hv
  have hx := B.exec
  have hb := B.bytes
  have hr := B.returns
  have hts := atoms_spec (ws := wsT mn_O_deliver bc_O_deliver 4 (some .int)) B.pre
  have htb : ∀ w ∈ gtbl, w.before _ s = true := fun w h => hts w (List.mem_cons_of_mem _ h)
  have hown : s.vm.findClass cn_O = some m.cls := findClass_of_methodNamed B.named
  have hlocks := B.notSynchronized
  subst hsz
  have hD := hD0.self (sz := s.heap.size)
  generalize hAe : va_A [zO o0 oa i0 m0 nn, (oa, .inl (cP, 3, .inr (.inr (.inr (.inr pf))))), zP h a b dn n oc le ll li lc kc rp, zI i0 i1 i2 i3 i4 cn sS lS rS, zM m0 m1 m2 m3 m4 m5 mn mi, (m2, .inl (cI, 104, .inl (nF tg))), (m5, .inl (cI, 104, .inl (nF su))), (m4, .inl (cI, 104, .inl (nF kn))), (i4, .inl (cJ, 40, .inr (.inl dp))), (m3, .inl (cI, 104, .inl (oF sr)))] s.heap.size = A at hD ⊢
  have hA : ∀ q : Nat, s.heap.size ≤ q → A q := fun q h => by rw [← hAe]; exact Or.inr h
  have hS : va_S A s.heap s.heap [] := va_S.rf
  have hP : va_P (dC, dI) clsL [zO o0 oa i0 m0 nn, (oa, .inl (cP, 3, .inr (.inr (.inr (.inr pf))))), zP h a b dn n oc le ll li lc kc rp, zI i0 i1 i2 i3 i4 cn sS lS rS, zM m0 m1 m2 m3 m4 m5 mn mi, (m2, .inl (cI, 104, .inl (nF tg))), (m5, .inl (cI, 104, .inl (nF su))), (m4, .inl (cI, 104, .inl (nF kn))), (i4, .inl (cJ, 40, .inr (.inl dp))), (m3, .inl (cI, 104, .inl (oF sr)))] s.heap := hP
  have hl := lv_entry ([.ref o0, .int (nI k)]) (n := 4) (Nat.le_of_ble_eq_true rfl)
  rw [lg_entry_eq]
  generalize (lg_sl ([.ref o0, .int (nI k)]) ++ List.replicate (4 - (lg_sl ([.ref o0, .int (nI k)])).length) Slot.unset).toArray = ls at hl ⊢
  have hl : lv_has ls 4 [(0, .ref o0), (1, .int (nI k))] := hl
  refine lv_aload_n hx hb dc_O_deliver_0 rfl (lv_at hl 0 rfl) ?_
  refine va_get (D := (dC, dI)) (ci := 3) (v := .ref m0) (C := cn_O) (T := ft_O) (N := 4) hx hb htb ki_O hown hK hP 0 rfl rfl 2 (by decide) (htb _ kw_141) (fun _ h9 => h9) rfl dc_O_deliver_1 ?_
  refine lv_iload_n hx hb dc_O_deliver_4 rfl (lv_at hl 1 rfl) ?_
  refine cl_i (wc := [zM m0 m1 m2 m3 m4 m5 mn mi, (m5, .inl (cI, 104, .inl (nF su)))]) (wr := [zO o0 oa i0 m0 nn, (oa, .inl (cP, 3, .inr (.inr (.inr (.inr pf))))), zP h a b dn n oc le ll li lc kc rp, zI i0 i1 i2 i3 i4 cn sS lS rS, (m2, .inl (cI, 104, .inl (nF tg))), (m4, .inl (cI, 104, .inl (nF kn))), (i4, .inl (cJ, 40, .inr (.inl dp))), (m3, .inl (cI, 104, .inl (oF sr)))]) (w1 := [zM m0 m1 m2 m3 m4 m5 mn mi, (m5, .inl (cI, 104, .inl (nF su)))]) hP hD hS hA [4, 6] [0, 1, 2, 3, 5, 7, 8, 9] rfl rfl (by decide) (by decide) (va_runV (As := [.int (nI k)]) (rest := []) ⟨hx, hb, hml, hown, htb⟩ (oc_M_isWaiting l dC dI cI cJ cZ cP _ m0 m1 m2 m3 m4 m5 mn mi su k hk hmn hu) (cwV 1 htb (gw_V kw_183 kw_184 kw_185 kw_4 kw_186) rfl rfl rfl (by decide +kernel) ⟨Nat.le_of_ble_eq_true rfl, Nat.le_of_ble_eq_true rfl⟩) (pr_V hP hK hD (va_recv hK hP (ci := 1) (q0 := 4) rfl rfl) [4, 6] (by decide) rfl rfl) rfl rfl hl.1 rfl (lv_room (Nat.le_of_ble_eq_true rfl)) dc_O_deliver_5 ⟨Nat.le_of_ble_eq_true rfl, Nat.le_of_ble_eq_true rfl⟩) (fun H locs hP hD hS => ?_)
  have hP : va_P (dC, dI) clsL [zO o0 oa i0 m0 nn, (oa, .inl (cP, 3, .inr (.inr (.inr (.inr pf))))), zP h a b dn n oc le ll li lc kc rp, zI i0 i1 i2 i3 i4 cn sS lS rS, zM m0 m1 m2 m3 m4 m5 mn mi, (m2, .inl (cI, 104, .inl (nF tg))), (m5, .inl (cI, 104, .inl (nF su))), (m4, .inl (cI, 104, .inl (nF kn))), (i4, .inl (cJ, 40, .inr (.inl dp))), (m3, .inl (cI, 104, .inl (oF sr)))] H := hP.sub (ws' := [zO o0 oa i0 m0 nn, (oa, .inl (cP, 3, .inr (.inr (.inr (.inr pf))))), zP h a b dn n oc le ll li lc kc rp, zI i0 i1 i2 i3 i4 cn sS lS rS, zM m0 m1 m2 m3 m4 m5 mn mi, (m2, .inl (cI, 104, .inl (nF tg))), (m5, .inl (cI, 104, .inl (nF su))), (m4, .inl (cI, 104, .inl (nF kn))), (i4, .inl (cJ, 40, .inr (.inl dp))), (m3, .inl (cI, 104, .inl (oF sr)))]) [0, 1, 2, 3, 8, 4, 9, 5, 6, 7] rfl
  have hD : va_D A [zO o0 oa i0 m0 nn, (oa, .inl (cP, 3, .inr (.inr (.inr (.inr pf))))), zP h a b dn n oc le ll li lc kc rp, zI i0 i1 i2 i3 i4 cn sS lS rS, zM m0 m1 m2 m3 m4 m5 mn mi, (m2, .inl (cI, 104, .inl (nF tg))), (m5, .inl (cI, 104, .inl (nF su))), (m4, .inl (cI, 104, .inl (nF kn))), (i4, .inl (cJ, 40, .inr (.inl dp))), (m3, .inl (cI, 104, .inl (oF sr)))] := hD.sub (ws' := [zO o0 oa i0 m0 nn, (oa, .inl (cP, 3, .inr (.inr (.inr (.inr pf))))), zP h a b dn n oc le ll li lc kc rp, zI i0 i1 i2 i3 i4 cn sS lS rS, zM m0 m1 m2 m3 m4 m5 mn mi, (m2, .inl (cI, 104, .inl (nF tg))), (m5, .inl (cI, 104, .inl (nF su))), (m4, .inl (cI, 104, .inl (nF kn))), (i4, .inl (cJ, 40, .inr (.inl dp))), (m3, .inl (cI, 104, .inl (oF sr)))]) [0, 1, 2, 3, 8, 4, 9, 5, 6, 7] (by decide) rfl
  refine lv_if_eq (tgt := 23) hx hb dc_O_deliver_8 (by decide) (fun hc => ?_) (fun hc => ?_)
  · have h1 : (decide (su k = 0)) = false := bI_0.mp hc
    simp [hw] at h1
  have h1 : (decide (su k = 0)) = true := bI_n0.mp hc
  refine lv_aload_n hx hb dc_O_deliver_11 rfl (lv_at hl 0 rfl) ?_
  refine va_get (D := (dC, dI)) (ci := 3) (v := .ref i0) (C := cn_O) (T := ft_O) (N := 4) hx hb htb ki_O hown hK hP 0 rfl rfl 1 (by decide) (htb _ kw_140) (fun _ h9 => h9) rfl dc_O_deliver_12 ?_
  refine va_get (D := (dC, dI)) (ci := 0) (v := .int (nI cn)) (C := cn_I) (T := ft_I) (N := 8) hx hb htb ki_I hown hK hP 3 rfl rfl 4 (by decide) (htb _ kw_80) (fun _ h9 => h9) rfl dc_O_deliver_15 ?_
  refine lv_bipush (v := nI 40) hx hb dc_O_deliver_18 (by decide) ?_
  refine lv_icmp_lt (tgt := 25) hx hb dc_O_deliver_20 (by decide) (fun hc => ?_) (fun hc => ?_)
  rotate_left
  · have h2 : 40 ≤ cn := Nat.le_of_not_lt (fun h9 => hc ((nI_ltI (by omega) (by omega)).mpr h9))
    exact absurd h2 (by omega)
  have h2 : cn < 40 := (nI_ltI (by omega) (by omega)).mp hc
  refine lv_aload_n hx hb dc_O_deliver_25 rfl (lv_at hl 0 rfl) ?_
  refine va_get (D := (dC, dI)) (ci := 3) (v := .ref m0) (C := cn_O) (T := ft_O) (N := 4) hx hb htb ki_O hown hK hP 0 rfl rfl 2 (by decide) (htb _ kw_141) (fun _ h9 => h9) rfl dc_O_deliver_26 ?_
  refine va_get (D := (dC, dI)) (ci := 1) (v := .ref m2) (C := cn_M) (T := ft_M) (N := 7) hx hb htb ki_M hown hK hP 4 rfl rfl 1 (by decide) (htb _ kw_114) (fun _ h9 => h9) rfl dc_O_deliver_29 ?_
  refine lv_iload_n hx hb dc_O_deliver_32 rfl (lv_at hl 1 rfl) ?_
  refine wa_nld (k := k) hx hb hK hP 5 0 rfl rfl (by omega) (by omega) dc_O_deliver_33 ?_
  refine tp_i (y := nI j) (by rw [htg]) ?_
  refine lv_istore_n (lv' := [(2, .int (nI j)), (0, .ref o0), (1, .int (nI k))]) hx hb dc_O_deliver_34 rfl hl (by decide) rfl (fun ls hl => ?_)
  refine lv_aload_n hx hb dc_O_deliver_35 rfl (lv_at hl 1 rfl) ?_
  refine va_get (D := (dC, dI)) (ci := 3) (v := .ref oa) (C := cn_O) (T := ft_O) (N := 4) hx hb htb ki_O hown hK hP 0 rfl rfl 0 (by decide) (htb _ kw_139) (fun _ h9 => h9) rfl dc_O_deliver_36 ?_
  refine lv_iload_n hx hb dc_O_deliver_39 rfl (lv_at hl 0 rfl) ?_
  refine wa_ald hx hb hK hP 1 3 rfl rfl (k := j) (by omega) (by omega) (v := h) (hf) dc_O_deliver_40 ?_
  refine lv_astore_n (lv' := [(3, .ref h), (2, .int (nI j)), (0, .ref o0), (1, .int (nI k))]) hx hb dc_O_deliver_41 rfl hl (by decide) rfl (fun ls hl => ?_)
  refine lv_aload_n hx hb dc_O_deliver_42 rfl (lv_at hl 0 rfl) ?_
  refine va_get (D := (dC, dI)) (ci := 2) (v := .int (bI dn)) (C := cn_P) (T := ft_P) (N := 11) hx hb htb ki_P hown hK hP 2 rfl rfl 2 (by decide) (htb _ kw_27) (fun _ h9 => h9) rfl dc_O_deliver_43 ?_
  refine lv_if_eq (tgt := 51) hx hb dc_O_deliver_46 (by decide) (fun hc => ?_) (fun hc => ?_)
  rotate_left
  · have h3 : dn = true := bI_n0.mp hc
    rw [hdn] at h3; exact absurd h3 (by decide)
  have h3 : dn = false := bI_0.mp hc
  refine lv_aload_n hx hb dc_O_deliver_51 rfl (lv_at hl 2 rfl) ?_
  refine va_get (D := (dC, dI)) (ci := 3) (v := .ref m0) (C := cn_O) (T := ft_O) (N := 4) hx hb htb ki_O hown hK hP 0 rfl rfl 2 (by decide) (htb _ kw_141) (fun _ h9 => h9) rfl dc_O_deliver_52 ?_
  refine va_get (D := (dC, dI)) (ci := 1) (v := .ref m4) (C := cn_M) (T := ft_M) (N := 7) hx hb htb ki_M hown hK hP 4 rfl rfl 3 (by decide) (htb _ kw_118) (fun _ h9 => h9) rfl dc_O_deliver_55 ?_
  refine lv_iload_n hx hb dc_O_deliver_58 rfl (lv_at hl 3 rfl) ?_
  refine wa_nld (k := k) hx hb hK hP 7 0 rfl rfl (by omega) (by omega) dc_O_deliver_59 ?_
  refine lv_aload_n hx hb dc_O_deliver_60 rfl (lv_at hl 0 rfl) ?_
  refine va_get (D := (dC, dI)) (ci := 2) (v := .int (nI le)) (C := cn_P) (T := ft_P) (N := 11) hx hb htb ki_P hown hK hP 2 rfl rfl 5 (by decide) (htb _ kw_33) (fun _ h9 => h9) rfl dc_O_deliver_61 ?_
  refine lv_icmp_le (tgt := 70) hx hb dc_O_deliver_64 (by decide) (fun hc => ?_) (fun hc => ?_)
  rotate_left
  · have h4 : le < (kn k) := Nat.lt_of_not_le (fun h9 => hc ((nI_leI (by omega) (by omega)).mpr h9))
    exact absurd h4 (by omega)
  have h4 : (kn k) ≤ le := (nI_leI (by omega) (by omega)).mp hc
  refine lv_aload_n hx hb dc_O_deliver_70 rfl (lv_at hl 2 rfl) ?_
  refine lv_aload_n hx hb dc_O_deliver_71 rfl (lv_at hl 0 rfl) ?_
  refine lv_iload_n hx hb dc_O_deliver_72 rfl (lv_at hl 3 rfl) ?_
  refine cl_i (wc := [zO o0 oa i0 m0 nn, zP h a b dn n oc le ll li lc kc rp, zI i0 i1 i2 i3 i4 cn sS lS rS, (i4, .inl (cJ, 40, .inr (.inl dp))), zM m0 m1 m2 m3 m4 m5 mn mi, (m3, .inl (cI, 104, .inl (oF sr)))]) (wr := [(oa, .inl (cP, 3, .inr (.inr (.inr (.inr pf))))), (m2, .inl (cI, 104, .inl (nF tg))), (m5, .inl (cI, 104, .inl (nF su))), (m4, .inl (cI, 104, .inl (nF kn)))]) (w1 := [zO o0 oa i0 m0 nn, zP h a b dn n oc le ll li lc kc rp, zI i0 i1 i2 i3 i4 cn sS lS rS, (i4, .inl (cJ, 40, .inr (.inl dp))), zM m0 m1 m2 m3 m4 m5 mn mi, (m3, .inl (cI, 104, .inl (oF sr)))]) hP hD hS hA [0, 2, 3, 8, 4, 9] [1, 5, 6, 7] rfl rfl (by decide) (by decide) (va_runV (As := [.ref h, .int (nI k)]) (rest := []) ⟨hx, hb, hml, hown, htb⟩ (oc_O_isKnownOrphan l dC dI cI cJ cZ cP _ o0 oa i0 m0 nn h a b dn n oc le ll li lc kc rp i1 i2 i3 i4 cn sS lS rS m1 m2 m3 m4 m5 mn mi dp sr k (by omega) hs) (cwV 2 htb (gw_V kw_191 kw_193 kp_0 kw_1 kw_194) rfl rfl rfl (by decide +kernel) ⟨Nat.le_of_ble_eq_true rfl, Nat.le_of_ble_eq_true rfl⟩) (pr_V hP hK hD (va_recv hK hP (ci := 3) (q0 := 0) rfl rfl) [0, 2, 3, 8, 4, 9] (by decide) rfl rfl) rfl rfl hl.1 rfl (lv_room (Nat.le_of_ble_eq_true rfl)) dc_O_deliver_73 ⟨Nat.le_of_ble_eq_true rfl, Nat.le_of_ble_eq_true rfl⟩) (fun H locs hP hD hS => ?_)
  have hP : va_P (dC, dI) clsL [zO o0 oa i0 m0 nn, (oa, .inl (cP, 3, .inr (.inr (.inr (.inr pf))))), zP h a b dn n oc le ll li lc kc rp, zI i0 i1 i2 i3 i4 cn sS lS rS, zM m0 m1 m2 m3 m4 m5 mn mi, (m2, .inl (cI, 104, .inl (nF tg))), (m5, .inl (cI, 104, .inl (nF su))), (m4, .inl (cI, 104, .inl (nF kn))), (i4, .inl (cJ, 40, .inr (.inl dp))), (m3, .inl (cI, 104, .inl (oF sr)))] H := hP.sub (ws' := [zO o0 oa i0 m0 nn, (oa, .inl (cP, 3, .inr (.inr (.inr (.inr pf))))), zP h a b dn n oc le ll li lc kc rp, zI i0 i1 i2 i3 i4 cn sS lS rS, zM m0 m1 m2 m3 m4 m5 mn mi, (m2, .inl (cI, 104, .inl (nF tg))), (m5, .inl (cI, 104, .inl (nF su))), (m4, .inl (cI, 104, .inl (nF kn))), (i4, .inl (cJ, 40, .inr (.inl dp))), (m3, .inl (cI, 104, .inl (oF sr)))]) [4, 0, 5, 6, 8, 1, 2, 3, 7, 9] rfl
  have hD : va_D A [zO o0 oa i0 m0 nn, (oa, .inl (cP, 3, .inr (.inr (.inr (.inr pf))))), zP h a b dn n oc le ll li lc kc rp, zI i0 i1 i2 i3 i4 cn sS lS rS, zM m0 m1 m2 m3 m4 m5 mn mi, (m2, .inl (cI, 104, .inl (nF tg))), (m5, .inl (cI, 104, .inl (nF su))), (m4, .inl (cI, 104, .inl (nF kn))), (i4, .inl (cJ, 40, .inr (.inl dp))), (m3, .inl (cI, 104, .inl (oF sr)))] := hD.sub (ws' := [zO o0 oa i0 m0 nn, (oa, .inl (cP, 3, .inr (.inr (.inr (.inr pf))))), zP h a b dn n oc le ll li lc kc rp, zI i0 i1 i2 i3 i4 cn sS lS rS, zM m0 m1 m2 m3 m4 m5 mn mi, (m2, .inl (cI, 104, .inl (nF tg))), (m5, .inl (cI, 104, .inl (nF su))), (m4, .inl (cI, 104, .inl (nF kn))), (i4, .inl (cJ, 40, .inr (.inl dp))), (m3, .inl (cI, 104, .inl (oF sr)))]) [4, 0, 5, 6, 8, 1, 2, 3, 7, 9] (by decide) rfl
  refine lv_if_eq (tgt := 92) hx hb dc_O_deliver_76 (by decide) (fun hc => ?_) (fun hc => ?_)
  · have h5 : (ko_B sr dp ll k) = false := bI_0.mp hc
    rw [ho] at h5; exact absurd h5 (by decide)
  have h5 : (ko_B sr dp ll k) = true := bI_n0.mp hc
  refine lv_aload_n hx hb dc_O_deliver_79 rfl (lv_at hl 2 rfl) ?_
  refine va_get (D := (dC, dI)) (ci := 3) (v := .ref m0) (C := cn_O) (T := ft_O) (N := 4) hx hb htb ki_O hown hK hP 0 rfl rfl 2 (by decide) (htb _ kw_141) (fun _ h9 => h9) rfl dc_O_deliver_80 ?_
  refine va_get (D := (dC, dI)) (ci := 1) (v := .ref m5) (C := cn_M) (T := ft_M) (N := 7) hx hb htb ki_M hown hK hP 4 rfl rfl 4 (by decide) (htb _ kw_120) (fun _ h9 => h9) rfl dc_O_deliver_83 ?_
  refine lv_iload_n hx hb dc_O_deliver_86 rfl (lv_at hl 3 rfl) ?_
  refine lv_iconst (v := nI 3) hx hb dc_O_deliver_87 (by decide) ?_
  refine wa_nst (k := k) (x := 3) hx hb hK hP hD hS 6 0 rfl rfl (by omega) (by omega) dc_O_deliver_88 (fun H locs hP hD hS => ?_)
  have hP : va_P (dC, dI) clsL [zO o0 oa i0 m0 nn, (oa, .inl (cP, 3, .inr (.inr (.inr (.inr pf))))), zP h a b dn n oc le ll li lc kc rp, zI i0 i1 i2 i3 i4 cn sS lS rS, zM m0 m1 m2 m3 m4 m5 mn mi, (m2, .inl (cI, 104, .inl (nF tg))), (m5, .inl (cI, 104, .inl (nF (va_up su k 3)))), (m4, .inl (cI, 104, .inl (nF kn))), (i4, .inl (cJ, 40, .inr (.inl dp))), (m3, .inl (cI, 104, .inl (oF sr)))] H := hP
  have hD : va_D A [zO o0 oa i0 m0 nn, (oa, .inl (cP, 3, .inr (.inr (.inr (.inr pf))))), zP h a b dn n oc le ll li lc kc rp, zI i0 i1 i2 i3 i4 cn sS lS rS, zM m0 m1 m2 m3 m4 m5 mn mi, (m2, .inl (cI, 104, .inl (nF tg))), (m5, .inl (cI, 104, .inl (nF (va_up su k 3)))), (m4, .inl (cI, 104, .inl (nF kn))), (i4, .inl (cJ, 40, .inr (.inl dp))), (m3, .inl (cI, 104, .inl (oF sr)))] := hD
  refine lv_bipush (v := (-3)) hx hb dc_O_deliver_89 (by decide) ?_
  have hP9 := hP.sub (ws' := [zO o0 oa i0 m0 nn, (oa, .inl (cP, 3, .inr (.inr (.inr (.inr pf))))), zP h a b dn n oc le ll li lc kc rp, zI i0 i1 i2 i3 i4 cn sS lS rS, zM m0 m1 m2 m3 m4 m5 mn mi, (m2, .inl (cI, 104, .inl (nF tg))), (m5, .inl (cI, 104, .inl (nF (va_up su k 3)))), (m4, .inl (cI, 104, .inl (nF kn))), (i4, .inl (cJ, 40, .inr (.inl dp))), (m3, .inl (cI, 104, .inl (oF sr)))]) [0, 1, 2, 3, 4, 5, 6, 7, 8, 9] rfl
  have hD9 := hD.sub (ws' := [zO o0 oa i0 m0 nn, (oa, .inl (cP, 3, .inr (.inr (.inr (.inr pf))))), zP h a b dn n oc le ll li lc kc rp, zI i0 i1 i2 i3 i4 cn sS lS rS, zM m0 m1 m2 m3 m4 m5 mn mi, (m2, .inl (cI, 104, .inl (nF tg))), (m5, .inl (cI, 104, .inl (nF (va_up su k 3)))), (m4, .inl (cI, 104, .inl (nF kn))), (i4, .inl (cJ, 40, .inr (.inl dp))), (m3, .inl (cI, 104, .inl (oF sr)))]) [0, 1, 2, 3, 4, 5, 6, 7, 8, 9] (by decide) rfl
  exact W.iret (v := (-3)) hx hb hr (fun t ht hW => ⟨⟨_, (), rfl, rfl, by rw [ht]; exact hP9, va_K.moved hW.alike hK, hD9⟩, hS.F ht⟩) hS.2.2 dc_O_deliver_91

set_option maxHeartbeats 4000000 in
set_option maxRecDepth 100000 in
theorem oc_O_deliver (l : Launch) (dC : Nat → ClassId) (dI : Nat → Nat → Nat) (cI cJ cZ cP : ClassId) (sz : Nat) (o0 : Nat) (oa : Nat) (i0 : Nat) (m0 : Nat) (nn : Nat) (pf : Nat → Option Nat) (h : Nat) (a : Nat) (b : Nat) (dn : Bool) (n : Nat) (oc : Nat) (le : Nat) (ll : Int64) (li : Int64) (lc : Nat) (kc : Nat) (rp : Int32) (i1 : Nat) (i2 : Nat) (i3 : Nat) (i4 : Nat) (cn : Nat) (sS : Int64) (lS : Int64) (rS : Int64) (m1 : Nat) (m2 : Nat) (m3 : Nat) (m4 : Nat) (m5 : Nat) (mn : Nat) (mi : Nat) (ch : Nat → Nat) (sv : Nat → Int32) (rc : Nat → Nat) (an : Nat → Option Nat) (dp : Nat → Int64) (vs : Nat → Int32) (tg : Nat → Nat) (sr : Nat → Option Nat) (kn : Nat → Nat) (su : Nat → Nat) (j : Nat) (k : Nat) (t : Int32) (d : Int64) (hu : su k < 4) (hw : su k = 0) (htg : tg k = j) (hdn : dn = false) (hkb : kn k < 2 ^ 30) (hlb : le < 2 ^ 30) (hh : kn k ≤ le) (ho : ko_B sr dp ll k = false) (hj : j < 3) (hf : pf j = some h) (hk : k < mn) (hcn : cn < 40) (hmn : mn + 2 ≤ 104) (hn : n < 40) (hch : ∀ i, i < n → ch i < 40) (hs : ∀ i, sr k = some i → i < 40) (ht : nI 31 * (sae sv ch n) + (vs k) = t) (hd : (dae dp ch n) ||| (dsv sr dp k) = d) : mt_I l mn_O_deliver bc_O_deliver 4 (some .int) ({ frames := 3, cells := 0, slots := 0, locals := 74 }) (dC, dI) (TYS cI cJ cZ cP) sz [.ref o0, .int (nI k)] [zO o0 oa i0 m0 nn, (oa, .inl (cP, 3, .inr (.inr (.inr (.inr pf))))), zP h a b dn n oc le ll li lc kc rp, (a, .inl (cI, 40, .inl (nF ch))), zI i0 i1 i2 i3 i4 cn sS lS rS, (i1, .inl (cI, 40, .inl sv)), (i2, .inl (cI, 40, .inl (nF rc))), (i3, .inl (cI, 40, .inl (oF an))), (i4, .inl (cJ, 40, .inr (.inl dp))), zM m0 m1 m2 m3 m4 m5 mn mi, (m1, .inl (cI, 104, .inl vs)), (m2, .inl (cI, 104, .inl (nF tg))), (m3, .inl (cI, 104, .inl (oF sr))), (m4, .inl (cI, 104, .inl (nF kn))), (m5, .inl (cI, 104, .inl (nF su)))] [zO o0 oa i0 m0 nn, (oa, .inl (cP, 3, .inr (.inr (.inr (.inr pf))))), zP h a b dn (n + 1) oc le ll li lc kc rp, (a, .inl (cI, 40, .inl (nF (va_up ch n cn)))), zI i0 i1 i2 i3 i4 (cn + 1) (if sr k = none then (sS ||| ((cs_set (va_up ch n cn) (n + 1)) &&& (sS ^^^ (-1)))) else sS) lS rS, (i1, .inl (cI, 40, .inl (va_up sv cn t))), (i2, .inl (cI, 40, .inl (nF (va_up rc cn k)))), (i3, .inl (cI, 40, .inl (oF (va_up an cn none)))), (i4, .inl (cJ, 40, .inr (.inl (va_up dp cn (d ||| (bt cn)))))), zM m0 m1 m2 m3 m4 m5 (mn + (sb1 t).toNat + (sb2 t).toNat) mi, (m1, .inl (cI, 104, .inl (sd_F (sb1 t) (sb2 t) vs mn (t >>> (nI 1 &&& 31)) (t >>> (nI 2 &&& 31))))), (m2, .inl (cI, 104, .inl (nF (sd_F (sb1 t) (sb2 t) tg mn ((j + 1) % 3) ((j + 2) % 3))))), (m3, .inl (cI, 104, .inl (oF (sd_F (sb1 t) (sb2 t) sr mn (some cn) (some cn))))), (m4, .inl (cI, 104, .inl (nF (sd_F (sb1 t) (sb2 t) kn mn le le)))), (m5, .inl (cI, 104, .inl (nF (sd_F (sb1 t) (sb2 t) (va_up su k 1) mn 0 0))))] (nI cn) 0 0 := by
  unfold mt_I
  refine Met.ofW (cc := bc_O_deliver) (maxL := 4) (ret := (some .int)) (by decide) rfl ?_
  intro p e s m args below meth c s₁ B hml hv
  obtain ⟨rfl, hsz, hP, hK, hD0⟩ := hv
  have hx := B.exec
  have hb := B.bytes
  have hr := B.returns
  have hts := atoms_spec (ws := wsT mn_O_deliver bc_O_deliver 4 (some .int)) B.pre
  have htb : ∀ w ∈ gtbl, w.before _ s = true := fun w h => hts w (List.mem_cons_of_mem _ h)
  have hown : s.vm.findClass cn_O = some m.cls := findClass_of_methodNamed B.named
  have hlocks := B.notSynchronized
  subst hsz
  have hD := hD0.self (sz := s.heap.size)
  generalize hAe : va_A [zO o0 oa i0 m0 nn, (oa, .inl (cP, 3, .inr (.inr (.inr (.inr pf))))), zP h a b dn n oc le ll li lc kc rp, (a, .inl (cI, 40, .inl (nF ch))), zI i0 i1 i2 i3 i4 cn sS lS rS, (i1, .inl (cI, 40, .inl sv)), (i2, .inl (cI, 40, .inl (nF rc))), (i3, .inl (cI, 40, .inl (oF an))), (i4, .inl (cJ, 40, .inr (.inl dp))), zM m0 m1 m2 m3 m4 m5 mn mi, (m1, .inl (cI, 104, .inl vs)), (m2, .inl (cI, 104, .inl (nF tg))), (m3, .inl (cI, 104, .inl (oF sr))), (m4, .inl (cI, 104, .inl (nF kn))), (m5, .inl (cI, 104, .inl (nF su)))] s.heap.size = A at hD ⊢
  have hA : ∀ q : Nat, s.heap.size ≤ q → A q := fun q h => by rw [← hAe]; exact Or.inr h
  have hS : va_S A s.heap s.heap [] := va_S.rf
  have hP : va_P (dC, dI) clsL [zO o0 oa i0 m0 nn, (oa, .inl (cP, 3, .inr (.inr (.inr (.inr pf))))), zP h a b dn n oc le ll li lc kc rp, (a, .inl (cI, 40, .inl (nF ch))), zI i0 i1 i2 i3 i4 cn sS lS rS, (i1, .inl (cI, 40, .inl sv)), (i2, .inl (cI, 40, .inl (nF rc))), (i3, .inl (cI, 40, .inl (oF an))), (i4, .inl (cJ, 40, .inr (.inl dp))), zM m0 m1 m2 m3 m4 m5 mn mi, (m1, .inl (cI, 104, .inl vs)), (m2, .inl (cI, 104, .inl (nF tg))), (m3, .inl (cI, 104, .inl (oF sr))), (m4, .inl (cI, 104, .inl (nF kn))), (m5, .inl (cI, 104, .inl (nF su)))] s.heap := hP
  have hl := lv_entry ([.ref o0, .int (nI k)]) (n := 4) (Nat.le_of_ble_eq_true rfl)
  rw [lg_entry_eq]
  generalize (lg_sl ([.ref o0, .int (nI k)]) ++ List.replicate (4 - (lg_sl ([.ref o0, .int (nI k)])).length) Slot.unset).toArray = ls at hl ⊢
  have hl : lv_has ls 4 [(0, .ref o0), (1, .int (nI k))] := hl
  refine lv_aload_n hx hb dc_O_deliver_0 rfl (lv_at hl 0 rfl) ?_
  refine va_get (D := (dC, dI)) (ci := 3) (v := .ref m0) (C := cn_O) (T := ft_O) (N := 4) hx hb htb ki_O hown hK hP 0 rfl rfl 2 (by decide) (htb _ kw_141) (fun _ h9 => h9) rfl dc_O_deliver_1 ?_
  refine lv_iload_n hx hb dc_O_deliver_4 rfl (lv_at hl 1 rfl) ?_
  refine cl_i (wc := [zM m0 m1 m2 m3 m4 m5 mn mi, (m5, .inl (cI, 104, .inl (nF su)))]) (wr := [zO o0 oa i0 m0 nn, (oa, .inl (cP, 3, .inr (.inr (.inr (.inr pf))))), zP h a b dn n oc le ll li lc kc rp, (a, .inl (cI, 40, .inl (nF ch))), zI i0 i1 i2 i3 i4 cn sS lS rS, (i1, .inl (cI, 40, .inl sv)), (i2, .inl (cI, 40, .inl (nF rc))), (i3, .inl (cI, 40, .inl (oF an))), (i4, .inl (cJ, 40, .inr (.inl dp))), (m1, .inl (cI, 104, .inl vs)), (m2, .inl (cI, 104, .inl (nF tg))), (m3, .inl (cI, 104, .inl (oF sr))), (m4, .inl (cI, 104, .inl (nF kn)))]) (w1 := [zM m0 m1 m2 m3 m4 m5 mn mi, (m5, .inl (cI, 104, .inl (nF su)))]) hP hD hS hA [9, 14] [0, 1, 2, 3, 4, 5, 6, 7, 8, 10, 11, 12, 13] rfl rfl (by decide) (by decide) (va_runV (As := [.int (nI k)]) (rest := []) ⟨hx, hb, hml, hown, htb⟩ (oc_M_isWaiting l dC dI cI cJ cZ cP _ m0 m1 m2 m3 m4 m5 mn mi su k hk (by omega) hu) (cwV 1 htb (gw_V kw_183 kw_184 kw_185 kw_4 kw_186) rfl rfl rfl (by decide +kernel) ⟨Nat.le_of_ble_eq_true rfl, Nat.le_of_ble_eq_true rfl⟩) (pr_V hP hK hD (va_recv hK hP (ci := 1) (q0 := 9) rfl rfl) [9, 14] (by decide) rfl rfl) rfl rfl hl.1 rfl (lv_room (Nat.le_of_ble_eq_true rfl)) dc_O_deliver_5 ⟨Nat.le_of_ble_eq_true rfl, Nat.le_of_ble_eq_true rfl⟩) (fun H locs hP hD hS => ?_)
  have hP : va_P (dC, dI) clsL [zO o0 oa i0 m0 nn, (oa, .inl (cP, 3, .inr (.inr (.inr (.inr pf))))), zP h a b dn n oc le ll li lc kc rp, (a, .inl (cI, 40, .inl (nF ch))), zI i0 i1 i2 i3 i4 cn sS lS rS, (i1, .inl (cI, 40, .inl sv)), (i2, .inl (cI, 40, .inl (nF rc))), (i3, .inl (cI, 40, .inl (oF an))), (i4, .inl (cJ, 40, .inr (.inl dp))), zM m0 m1 m2 m3 m4 m5 mn mi, (m1, .inl (cI, 104, .inl vs)), (m2, .inl (cI, 104, .inl (nF tg))), (m3, .inl (cI, 104, .inl (oF sr))), (m4, .inl (cI, 104, .inl (nF kn))), (m5, .inl (cI, 104, .inl (nF su)))] H := hP.sub (ws' := [zO o0 oa i0 m0 nn, (oa, .inl (cP, 3, .inr (.inr (.inr (.inr pf))))), zP h a b dn n oc le ll li lc kc rp, (a, .inl (cI, 40, .inl (nF ch))), zI i0 i1 i2 i3 i4 cn sS lS rS, (i1, .inl (cI, 40, .inl sv)), (i2, .inl (cI, 40, .inl (nF rc))), (i3, .inl (cI, 40, .inl (oF an))), (i4, .inl (cJ, 40, .inr (.inl dp))), zM m0 m1 m2 m3 m4 m5 mn mi, (m1, .inl (cI, 104, .inl vs)), (m2, .inl (cI, 104, .inl (nF tg))), (m3, .inl (cI, 104, .inl (oF sr))), (m4, .inl (cI, 104, .inl (nF kn))), (m5, .inl (cI, 104, .inl (nF su)))]) [0, 1, 2, 3, 4, 5, 6, 7, 8, 13, 9, 10, 11, 12, 14] rfl
  have hD : va_D A [zO o0 oa i0 m0 nn, (oa, .inl (cP, 3, .inr (.inr (.inr (.inr pf))))), zP h a b dn n oc le ll li lc kc rp, (a, .inl (cI, 40, .inl (nF ch))), zI i0 i1 i2 i3 i4 cn sS lS rS, (i1, .inl (cI, 40, .inl sv)), (i2, .inl (cI, 40, .inl (nF rc))), (i3, .inl (cI, 40, .inl (oF an))), (i4, .inl (cJ, 40, .inr (.inl dp))), zM m0 m1 m2 m3 m4 m5 mn mi, (m1, .inl (cI, 104, .inl vs)), (m2, .inl (cI, 104, .inl (nF tg))), (m3, .inl (cI, 104, .inl (oF sr))), (m4, .inl (cI, 104, .inl (nF kn))), (m5, .inl (cI, 104, .inl (nF su)))] := hD.sub (ws' := [zO o0 oa i0 m0 nn, (oa, .inl (cP, 3, .inr (.inr (.inr (.inr pf))))), zP h a b dn n oc le ll li lc kc rp, (a, .inl (cI, 40, .inl (nF ch))), zI i0 i1 i2 i3 i4 cn sS lS rS, (i1, .inl (cI, 40, .inl sv)), (i2, .inl (cI, 40, .inl (nF rc))), (i3, .inl (cI, 40, .inl (oF an))), (i4, .inl (cJ, 40, .inr (.inl dp))), zM m0 m1 m2 m3 m4 m5 mn mi, (m1, .inl (cI, 104, .inl vs)), (m2, .inl (cI, 104, .inl (nF tg))), (m3, .inl (cI, 104, .inl (oF sr))), (m4, .inl (cI, 104, .inl (nF kn))), (m5, .inl (cI, 104, .inl (nF su)))]) [0, 1, 2, 3, 4, 5, 6, 7, 8, 13, 9, 10, 11, 12, 14] (by decide) rfl
  refine lv_if_eq (tgt := 23) hx hb dc_O_deliver_8 (by decide) (fun hc => ?_) (fun hc => ?_)
  · have h1 : (decide (su k = 0)) = false := bI_0.mp hc
    simp [hw] at h1
  have h1 : (decide (su k = 0)) = true := bI_n0.mp hc
  refine lv_aload_n hx hb dc_O_deliver_11 rfl (lv_at hl 0 rfl) ?_
  refine va_get (D := (dC, dI)) (ci := 3) (v := .ref i0) (C := cn_O) (T := ft_O) (N := 4) hx hb htb ki_O hown hK hP 0 rfl rfl 1 (by decide) (htb _ kw_140) (fun _ h9 => h9) rfl dc_O_deliver_12 ?_
  refine va_get (D := (dC, dI)) (ci := 0) (v := .int (nI cn)) (C := cn_I) (T := ft_I) (N := 8) hx hb htb ki_I hown hK hP 4 rfl rfl 4 (by decide) (htb _ kw_80) (fun _ h9 => h9) rfl dc_O_deliver_15 ?_
  refine lv_bipush (v := nI 40) hx hb dc_O_deliver_18 (by decide) ?_
  refine lv_icmp_lt (tgt := 25) hx hb dc_O_deliver_20 (by decide) (fun hc => ?_) (fun hc => ?_)
  rotate_left
  · have h2 : 40 ≤ cn := Nat.le_of_not_lt (fun h9 => hc ((nI_ltI (by omega) (by omega)).mpr h9))
    exact absurd h2 (by omega)
  have h2 : cn < 40 := (nI_ltI (by omega) (by omega)).mp hc
  refine lv_aload_n hx hb dc_O_deliver_25 rfl (lv_at hl 0 rfl) ?_
  refine va_get (D := (dC, dI)) (ci := 3) (v := .ref m0) (C := cn_O) (T := ft_O) (N := 4) hx hb htb ki_O hown hK hP 0 rfl rfl 2 (by decide) (htb _ kw_141) (fun _ h9 => h9) rfl dc_O_deliver_26 ?_
  refine va_get (D := (dC, dI)) (ci := 1) (v := .ref m2) (C := cn_M) (T := ft_M) (N := 7) hx hb htb ki_M hown hK hP 9 rfl rfl 1 (by decide) (htb _ kw_114) (fun _ h9 => h9) rfl dc_O_deliver_29 ?_
  refine lv_iload_n hx hb dc_O_deliver_32 rfl (lv_at hl 1 rfl) ?_
  refine wa_nld (k := k) hx hb hK hP 11 0 rfl rfl (by omega) (by omega) dc_O_deliver_33 ?_
  refine tp_i (y := nI j) (by rw [htg]) ?_
  refine lv_istore_n (lv' := [(2, .int (nI j)), (0, .ref o0), (1, .int (nI k))]) hx hb dc_O_deliver_34 rfl hl (by decide) rfl (fun ls hl => ?_)
  refine lv_aload_n hx hb dc_O_deliver_35 rfl (lv_at hl 1 rfl) ?_
  refine va_get (D := (dC, dI)) (ci := 3) (v := .ref oa) (C := cn_O) (T := ft_O) (N := 4) hx hb htb ki_O hown hK hP 0 rfl rfl 0 (by decide) (htb _ kw_139) (fun _ h9 => h9) rfl dc_O_deliver_36 ?_
  refine lv_iload_n hx hb dc_O_deliver_39 rfl (lv_at hl 0 rfl) ?_
  refine wa_ald hx hb hK hP 1 3 rfl rfl (k := j) (by omega) (by omega) (v := h) (hf) dc_O_deliver_40 ?_
  refine lv_astore_n (lv' := [(3, .ref h), (2, .int (nI j)), (0, .ref o0), (1, .int (nI k))]) hx hb dc_O_deliver_41 rfl hl (by decide) rfl (fun ls hl => ?_)
  refine lv_aload_n hx hb dc_O_deliver_42 rfl (lv_at hl 0 rfl) ?_
  refine va_get (D := (dC, dI)) (ci := 2) (v := .int (bI dn)) (C := cn_P) (T := ft_P) (N := 11) hx hb htb ki_P hown hK hP 2 rfl rfl 2 (by decide) (htb _ kw_27) (fun _ h9 => h9) rfl dc_O_deliver_43 ?_
  refine lv_if_eq (tgt := 51) hx hb dc_O_deliver_46 (by decide) (fun hc => ?_) (fun hc => ?_)
  rotate_left
  · have h3 : dn = true := bI_n0.mp hc
    rw [hdn] at h3; exact absurd h3 (by decide)
  have h3 : dn = false := bI_0.mp hc
  refine lv_aload_n hx hb dc_O_deliver_51 rfl (lv_at hl 2 rfl) ?_
  refine va_get (D := (dC, dI)) (ci := 3) (v := .ref m0) (C := cn_O) (T := ft_O) (N := 4) hx hb htb ki_O hown hK hP 0 rfl rfl 2 (by decide) (htb _ kw_141) (fun _ h9 => h9) rfl dc_O_deliver_52 ?_
  refine va_get (D := (dC, dI)) (ci := 1) (v := .ref m4) (C := cn_M) (T := ft_M) (N := 7) hx hb htb ki_M hown hK hP 9 rfl rfl 3 (by decide) (htb _ kw_118) (fun _ h9 => h9) rfl dc_O_deliver_55 ?_
  refine lv_iload_n hx hb dc_O_deliver_58 rfl (lv_at hl 3 rfl) ?_
  refine wa_nld (k := k) hx hb hK hP 13 0 rfl rfl (by omega) (by omega) dc_O_deliver_59 ?_
  refine lv_aload_n hx hb dc_O_deliver_60 rfl (lv_at hl 0 rfl) ?_
  refine va_get (D := (dC, dI)) (ci := 2) (v := .int (nI le)) (C := cn_P) (T := ft_P) (N := 11) hx hb htb ki_P hown hK hP 2 rfl rfl 5 (by decide) (htb _ kw_33) (fun _ h9 => h9) rfl dc_O_deliver_61 ?_
  refine lv_icmp_le (tgt := 70) hx hb dc_O_deliver_64 (by decide) (fun hc => ?_) (fun hc => ?_)
  rotate_left
  · have h4 : le < (kn k) := Nat.lt_of_not_le (fun h9 => hc ((nI_leI (by omega) (by omega)).mpr h9))
    exact absurd h4 (by omega)
  have h4 : (kn k) ≤ le := (nI_leI (by omega) (by omega)).mp hc
  refine lv_aload_n hx hb dc_O_deliver_70 rfl (lv_at hl 2 rfl) ?_
  refine lv_aload_n hx hb dc_O_deliver_71 rfl (lv_at hl 0 rfl) ?_
  refine lv_iload_n hx hb dc_O_deliver_72 rfl (lv_at hl 3 rfl) ?_
  refine cl_i (wc := [zO o0 oa i0 m0 nn, zP h a b dn n oc le ll li lc kc rp, zI i0 i1 i2 i3 i4 cn sS lS rS, (i4, .inl (cJ, 40, .inr (.inl dp))), zM m0 m1 m2 m3 m4 m5 mn mi, (m3, .inl (cI, 104, .inl (oF sr)))]) (wr := [(oa, .inl (cP, 3, .inr (.inr (.inr (.inr pf))))), (a, .inl (cI, 40, .inl (nF ch))), (i1, .inl (cI, 40, .inl sv)), (i2, .inl (cI, 40, .inl (nF rc))), (i3, .inl (cI, 40, .inl (oF an))), (m1, .inl (cI, 104, .inl vs)), (m2, .inl (cI, 104, .inl (nF tg))), (m4, .inl (cI, 104, .inl (nF kn))), (m5, .inl (cI, 104, .inl (nF su)))]) (w1 := [zO o0 oa i0 m0 nn, zP h a b dn n oc le ll li lc kc rp, zI i0 i1 i2 i3 i4 cn sS lS rS, (i4, .inl (cJ, 40, .inr (.inl dp))), zM m0 m1 m2 m3 m4 m5 mn mi, (m3, .inl (cI, 104, .inl (oF sr)))]) hP hD hS hA [0, 2, 4, 8, 9, 12] [1, 3, 5, 6, 7, 10, 11, 13, 14] rfl rfl (by decide) (by decide) (va_runV (As := [.ref h, .int (nI k)]) (rest := []) ⟨hx, hb, hml, hown, htb⟩ (oc_O_isKnownOrphan l dC dI cI cJ cZ cP _ o0 oa i0 m0 nn h a b dn n oc le ll li lc kc rp i1 i2 i3 i4 cn sS lS rS m1 m2 m3 m4 m5 mn mi dp sr k (by omega) hs) (cwV 2 htb (gw_V kw_191 kw_193 kp_0 kw_1 kw_194) rfl rfl rfl (by decide +kernel) ⟨Nat.le_of_ble_eq_true rfl, Nat.le_of_ble_eq_true rfl⟩) (pr_V hP hK hD (va_recv hK hP (ci := 3) (q0 := 0) rfl rfl) [0, 2, 4, 8, 9, 12] (by decide) rfl rfl) rfl rfl hl.1 rfl (lv_room (Nat.le_of_ble_eq_true rfl)) dc_O_deliver_73 ⟨Nat.le_of_ble_eq_true rfl, Nat.le_of_ble_eq_true rfl⟩) (fun H locs hP hD hS => ?_)
  have hP : va_P (dC, dI) clsL [zO o0 oa i0 m0 nn, (oa, .inl (cP, 3, .inr (.inr (.inr (.inr pf))))), zP h a b dn n oc le ll li lc kc rp, (a, .inl (cI, 40, .inl (nF ch))), zI i0 i1 i2 i3 i4 cn sS lS rS, (i1, .inl (cI, 40, .inl sv)), (i2, .inl (cI, 40, .inl (nF rc))), (i3, .inl (cI, 40, .inl (oF an))), (i4, .inl (cJ, 40, .inr (.inl dp))), zM m0 m1 m2 m3 m4 m5 mn mi, (m1, .inl (cI, 104, .inl vs)), (m2, .inl (cI, 104, .inl (nF tg))), (m3, .inl (cI, 104, .inl (oF sr))), (m4, .inl (cI, 104, .inl (nF kn))), (m5, .inl (cI, 104, .inl (nF su)))] H := hP.sub (ws' := [zO o0 oa i0 m0 nn, (oa, .inl (cP, 3, .inr (.inr (.inr (.inr pf))))), zP h a b dn n oc le ll li lc kc rp, (a, .inl (cI, 40, .inl (nF ch))), zI i0 i1 i2 i3 i4 cn sS lS rS, (i1, .inl (cI, 40, .inl sv)), (i2, .inl (cI, 40, .inl (nF rc))), (i3, .inl (cI, 40, .inl (oF an))), (i4, .inl (cJ, 40, .inr (.inl dp))), zM m0 m1 m2 m3 m4 m5 mn mi, (m1, .inl (cI, 104, .inl vs)), (m2, .inl (cI, 104, .inl (nF tg))), (m3, .inl (cI, 104, .inl (oF sr))), (m4, .inl (cI, 104, .inl (nF kn))), (m5, .inl (cI, 104, .inl (nF su)))]) [9, 0, 10, 1, 11, 2, 3, 4, 12, 13, 5, 6, 14, 7, 8] rfl
  have hD : va_D A [zO o0 oa i0 m0 nn, (oa, .inl (cP, 3, .inr (.inr (.inr (.inr pf))))), zP h a b dn n oc le ll li lc kc rp, (a, .inl (cI, 40, .inl (nF ch))), zI i0 i1 i2 i3 i4 cn sS lS rS, (i1, .inl (cI, 40, .inl sv)), (i2, .inl (cI, 40, .inl (nF rc))), (i3, .inl (cI, 40, .inl (oF an))), (i4, .inl (cJ, 40, .inr (.inl dp))), zM m0 m1 m2 m3 m4 m5 mn mi, (m1, .inl (cI, 104, .inl vs)), (m2, .inl (cI, 104, .inl (nF tg))), (m3, .inl (cI, 104, .inl (oF sr))), (m4, .inl (cI, 104, .inl (nF kn))), (m5, .inl (cI, 104, .inl (nF su)))] := hD.sub (ws' := [zO o0 oa i0 m0 nn, (oa, .inl (cP, 3, .inr (.inr (.inr (.inr pf))))), zP h a b dn n oc le ll li lc kc rp, (a, .inl (cI, 40, .inl (nF ch))), zI i0 i1 i2 i3 i4 cn sS lS rS, (i1, .inl (cI, 40, .inl sv)), (i2, .inl (cI, 40, .inl (nF rc))), (i3, .inl (cI, 40, .inl (oF an))), (i4, .inl (cJ, 40, .inr (.inl dp))), zM m0 m1 m2 m3 m4 m5 mn mi, (m1, .inl (cI, 104, .inl vs)), (m2, .inl (cI, 104, .inl (nF tg))), (m3, .inl (cI, 104, .inl (oF sr))), (m4, .inl (cI, 104, .inl (nF kn))), (m5, .inl (cI, 104, .inl (nF su)))]) [9, 0, 10, 1, 11, 2, 3, 4, 12, 13, 5, 6, 14, 7, 8] (by decide) rfl
  refine lv_if_eq (tgt := 92) hx hb dc_O_deliver_76 (by decide) (fun hc => ?_) (fun hc => ?_)
  rotate_left
  · have h5 : (ko_B sr dp ll k) = true := bI_n0.mp hc
    rw [ho] at h5; exact absurd h5 (by decide)
  have h5 : (ko_B sr dp ll k) = false := bI_0.mp hc
  refine lv_aload_n hx hb dc_O_deliver_92 rfl (lv_at hl 2 rfl) ?_
  refine lv_iload_n hx hb dc_O_deliver_93 rfl (lv_at hl 1 rfl) ?_
  refine lv_iload_n hx hb dc_O_deliver_94 rfl (lv_at hl 3 rfl) ?_
  refine cl_i (wc := [zO o0 oa i0 m0 nn, (oa, .inl (cP, 3, .inr (.inr (.inr (.inr pf))))), zP h a b dn n oc le ll li lc kc rp, (a, .inl (cI, 40, .inl (nF ch))), zI i0 i1 i2 i3 i4 cn sS lS rS, (i1, .inl (cI, 40, .inl sv)), (i2, .inl (cI, 40, .inl (nF rc))), (i3, .inl (cI, 40, .inl (oF an))), (i4, .inl (cJ, 40, .inr (.inl dp))), zM m0 m1 m2 m3 m4 m5 mn mi, (m1, .inl (cI, 104, .inl vs)), (m2, .inl (cI, 104, .inl (nF tg))), (m3, .inl (cI, 104, .inl (oF sr))), (m4, .inl (cI, 104, .inl (nF kn))), (m5, .inl (cI, 104, .inl (nF su)))]) (wr := []) (w1 := [zO o0 oa i0 m0 nn, (oa, .inl (cP, 3, .inr (.inr (.inr (.inr pf))))), zP h a b dn (n + 1) oc le ll li lc kc rp, (a, .inl (cI, 40, .inl (nF (va_up ch n cn)))), zI i0 i1 i2 i3 i4 (cn + 1) (if sr k = none then (sS ||| ((cs_set (va_up ch n cn) (n + 1)) &&& (sS ^^^ (-1)))) else sS) lS rS, (i1, .inl (cI, 40, .inl (va_up sv cn t))), (i2, .inl (cI, 40, .inl (nF (va_up rc cn k)))), (i3, .inl (cI, 40, .inl (oF (va_up an cn none)))), (i4, .inl (cJ, 40, .inr (.inl (va_up dp cn (d ||| (bt cn)))))), zM m0 m1 m2 m3 m4 m5 (mn + (sb1 t).toNat + (sb2 t).toNat) mi, (m1, .inl (cI, 104, .inl (sd_F (sb1 t) (sb2 t) vs mn (t >>> (nI 1 &&& 31)) (t >>> (nI 2 &&& 31))))), (m2, .inl (cI, 104, .inl (nF (sd_F (sb1 t) (sb2 t) tg mn ((j + 1) % 3) ((j + 2) % 3))))), (m3, .inl (cI, 104, .inl (oF (sd_F (sb1 t) (sb2 t) sr mn (some cn) (some cn))))), (m4, .inl (cI, 104, .inl (nF (sd_F (sb1 t) (sb2 t) kn mn le le)))), (m5, .inl (cI, 104, .inl (nF (sd_F (sb1 t) (sb2 t) (va_up su k 1) mn 0 0))))]) hP hD hS hA [0, 1, 2, 3, 4, 5, 6, 7, 8, 9, 10, 11, 12, 13, 14] [] rfl rfl (by decide) (by decide) (va_runV (As := [.int (nI j), .int (nI k)]) (rest := []) ⟨hx, hb, hml, hown, htb⟩ (oc_O_receive l dC dI cI cJ cZ cP _ o0 oa i0 m0 nn pf h a b dn n oc le ll li lc kc rp i1 i2 i3 i4 cn sS lS rS m1 m2 m3 m4 m5 mn mi ch sv rc an dp vs tg sr kn su j k t d hj hf hk hcn hmn hn hch hs ht hd) (cwV 2 htb (gw_V kw_199 kw_201 kp_2 kw_1 kw_202) rfl rfl rfl (by decide +kernel) ⟨Nat.le_of_ble_eq_true rfl, Nat.le_of_ble_eq_true rfl⟩) (pr_V hP hK hD (va_recv hK hP (ci := 3) (q0 := 0) rfl rfl) [0, 1, 2, 3, 4, 5, 6, 7, 8, 9, 10, 11, 12, 13, 14] (by decide) rfl rfl) rfl rfl hl.1 rfl (lv_room (Nat.le_of_ble_eq_true rfl)) dc_O_deliver_95 ⟨Nat.le_of_ble_eq_true rfl, Nat.le_of_ble_eq_true rfl⟩) (fun H locs hP hD hS => ?_)
  have hP : va_P (dC, dI) clsL [zO o0 oa i0 m0 nn, (oa, .inl (cP, 3, .inr (.inr (.inr (.inr pf))))), zP h a b dn (n + 1) oc le ll li lc kc rp, (a, .inl (cI, 40, .inl (nF (va_up ch n cn)))), zI i0 i1 i2 i3 i4 (cn + 1) (if sr k = none then (sS ||| ((cs_set (va_up ch n cn) (n + 1)) &&& (sS ^^^ (-1)))) else sS) lS rS, (i1, .inl (cI, 40, .inl (va_up sv cn t))), (i2, .inl (cI, 40, .inl (nF (va_up rc cn k)))), (i3, .inl (cI, 40, .inl (oF (va_up an cn none)))), (i4, .inl (cJ, 40, .inr (.inl (va_up dp cn (d ||| (bt cn)))))), zM m0 m1 m2 m3 m4 m5 (mn + (sb1 t).toNat + (sb2 t).toNat) mi, (m1, .inl (cI, 104, .inl (sd_F (sb1 t) (sb2 t) vs mn (t >>> (nI 1 &&& 31)) (t >>> (nI 2 &&& 31))))), (m2, .inl (cI, 104, .inl (nF (sd_F (sb1 t) (sb2 t) tg mn ((j + 1) % 3) ((j + 2) % 3))))), (m3, .inl (cI, 104, .inl (oF (sd_F (sb1 t) (sb2 t) sr mn (some cn) (some cn))))), (m4, .inl (cI, 104, .inl (nF (sd_F (sb1 t) (sb2 t) kn mn le le)))), (m5, .inl (cI, 104, .inl (nF (sd_F (sb1 t) (sb2 t) (va_up su k 1) mn 0 0))))] H := hP.sub (ws' := [zO o0 oa i0 m0 nn, (oa, .inl (cP, 3, .inr (.inr (.inr (.inr pf))))), zP h a b dn (n + 1) oc le ll li lc kc rp, (a, .inl (cI, 40, .inl (nF (va_up ch n cn)))), zI i0 i1 i2 i3 i4 (cn + 1) (if sr k = none then (sS ||| ((cs_set (va_up ch n cn) (n + 1)) &&& (sS ^^^ (-1)))) else sS) lS rS, (i1, .inl (cI, 40, .inl (va_up sv cn t))), (i2, .inl (cI, 40, .inl (nF (va_up rc cn k)))), (i3, .inl (cI, 40, .inl (oF (va_up an cn none)))), (i4, .inl (cJ, 40, .inr (.inl (va_up dp cn (d ||| (bt cn)))))), zM m0 m1 m2 m3 m4 m5 (mn + (sb1 t).toNat + (sb2 t).toNat) mi, (m1, .inl (cI, 104, .inl (sd_F (sb1 t) (sb2 t) vs mn (t >>> (nI 1 &&& 31)) (t >>> (nI 2 &&& 31))))), (m2, .inl (cI, 104, .inl (nF (sd_F (sb1 t) (sb2 t) tg mn ((j + 1) % 3) ((j + 2) % 3))))), (m3, .inl (cI, 104, .inl (oF (sd_F (sb1 t) (sb2 t) sr mn (some cn) (some cn))))), (m4, .inl (cI, 104, .inl (nF (sd_F (sb1 t) (sb2 t) kn mn le le)))), (m5, .inl (cI, 104, .inl (nF (sd_F (sb1 t) (sb2 t) (va_up su k 1) mn 0 0))))]) [0, 1, 2, 3, 4, 5, 6, 7, 8, 9, 10, 11, 12, 13, 14] rfl
  have hD : va_D A [zO o0 oa i0 m0 nn, (oa, .inl (cP, 3, .inr (.inr (.inr (.inr pf))))), zP h a b dn (n + 1) oc le ll li lc kc rp, (a, .inl (cI, 40, .inl (nF (va_up ch n cn)))), zI i0 i1 i2 i3 i4 (cn + 1) (if sr k = none then (sS ||| ((cs_set (va_up ch n cn) (n + 1)) &&& (sS ^^^ (-1)))) else sS) lS rS, (i1, .inl (cI, 40, .inl (va_up sv cn t))), (i2, .inl (cI, 40, .inl (nF (va_up rc cn k)))), (i3, .inl (cI, 40, .inl (oF (va_up an cn none)))), (i4, .inl (cJ, 40, .inr (.inl (va_up dp cn (d ||| (bt cn)))))), zM m0 m1 m2 m3 m4 m5 (mn + (sb1 t).toNat + (sb2 t).toNat) mi, (m1, .inl (cI, 104, .inl (sd_F (sb1 t) (sb2 t) vs mn (t >>> (nI 1 &&& 31)) (t >>> (nI 2 &&& 31))))), (m2, .inl (cI, 104, .inl (nF (sd_F (sb1 t) (sb2 t) tg mn ((j + 1) % 3) ((j + 2) % 3))))), (m3, .inl (cI, 104, .inl (oF (sd_F (sb1 t) (sb2 t) sr mn (some cn) (some cn))))), (m4, .inl (cI, 104, .inl (nF (sd_F (sb1 t) (sb2 t) kn mn le le)))), (m5, .inl (cI, 104, .inl (nF (sd_F (sb1 t) (sb2 t) (va_up su k 1) mn 0 0))))] := hD.sub (ws' := [zO o0 oa i0 m0 nn, (oa, .inl (cP, 3, .inr (.inr (.inr (.inr pf))))), zP h a b dn (n + 1) oc le ll li lc kc rp, (a, .inl (cI, 40, .inl (nF (va_up ch n cn)))), zI i0 i1 i2 i3 i4 (cn + 1) (if sr k = none then (sS ||| ((cs_set (va_up ch n cn) (n + 1)) &&& (sS ^^^ (-1)))) else sS) lS rS, (i1, .inl (cI, 40, .inl (va_up sv cn t))), (i2, .inl (cI, 40, .inl (nF (va_up rc cn k)))), (i3, .inl (cI, 40, .inl (oF (va_up an cn none)))), (i4, .inl (cJ, 40, .inr (.inl (va_up dp cn (d ||| (bt cn)))))), zM m0 m1 m2 m3 m4 m5 (mn + (sb1 t).toNat + (sb2 t).toNat) mi, (m1, .inl (cI, 104, .inl (sd_F (sb1 t) (sb2 t) vs mn (t >>> (nI 1 &&& 31)) (t >>> (nI 2 &&& 31))))), (m2, .inl (cI, 104, .inl (nF (sd_F (sb1 t) (sb2 t) tg mn ((j + 1) % 3) ((j + 2) % 3))))), (m3, .inl (cI, 104, .inl (oF (sd_F (sb1 t) (sb2 t) sr mn (some cn) (some cn))))), (m4, .inl (cI, 104, .inl (nF (sd_F (sb1 t) (sb2 t) kn mn le le)))), (m5, .inl (cI, 104, .inl (nF (sd_F (sb1 t) (sb2 t) (va_up su k 1) mn 0 0))))]) [0, 1, 2, 3, 4, 5, 6, 7, 8, 9, 10, 11, 12, 13, 14] (by decide) rfl
  have hP9 := hP.sub (ws' := [zO o0 oa i0 m0 nn, (oa, .inl (cP, 3, .inr (.inr (.inr (.inr pf))))), zP h a b dn (n + 1) oc le ll li lc kc rp, (a, .inl (cI, 40, .inl (nF (va_up ch n cn)))), zI i0 i1 i2 i3 i4 (cn + 1) (if sr k = none then (sS ||| ((cs_set (va_up ch n cn) (n + 1)) &&& (sS ^^^ (-1)))) else sS) lS rS, (i1, .inl (cI, 40, .inl (va_up sv cn t))), (i2, .inl (cI, 40, .inl (nF (va_up rc cn k)))), (i3, .inl (cI, 40, .inl (oF (va_up an cn none)))), (i4, .inl (cJ, 40, .inr (.inl (va_up dp cn (d ||| (bt cn)))))), zM m0 m1 m2 m3 m4 m5 (mn + (sb1 t).toNat + (sb2 t).toNat) mi, (m1, .inl (cI, 104, .inl (sd_F (sb1 t) (sb2 t) vs mn (t >>> (nI 1 &&& 31)) (t >>> (nI 2 &&& 31))))), (m2, .inl (cI, 104, .inl (nF (sd_F (sb1 t) (sb2 t) tg mn ((j + 1) % 3) ((j + 2) % 3))))), (m3, .inl (cI, 104, .inl (oF (sd_F (sb1 t) (sb2 t) sr mn (some cn) (some cn))))), (m4, .inl (cI, 104, .inl (nF (sd_F (sb1 t) (sb2 t) kn mn le le)))), (m5, .inl (cI, 104, .inl (nF (sd_F (sb1 t) (sb2 t) (va_up su k 1) mn 0 0))))]) [0, 1, 2, 3, 4, 5, 6, 7, 8, 9, 10, 11, 12, 13, 14] rfl
  have hD9 := hD.sub (ws' := [zO o0 oa i0 m0 nn, (oa, .inl (cP, 3, .inr (.inr (.inr (.inr pf))))), zP h a b dn (n + 1) oc le ll li lc kc rp, (a, .inl (cI, 40, .inl (nF (va_up ch n cn)))), zI i0 i1 i2 i3 i4 (cn + 1) (if sr k = none then (sS ||| ((cs_set (va_up ch n cn) (n + 1)) &&& (sS ^^^ (-1)))) else sS) lS rS, (i1, .inl (cI, 40, .inl (va_up sv cn t))), (i2, .inl (cI, 40, .inl (nF (va_up rc cn k)))), (i3, .inl (cI, 40, .inl (oF (va_up an cn none)))), (i4, .inl (cJ, 40, .inr (.inl (va_up dp cn (d ||| (bt cn)))))), zM m0 m1 m2 m3 m4 m5 (mn + (sb1 t).toNat + (sb2 t).toNat) mi, (m1, .inl (cI, 104, .inl (sd_F (sb1 t) (sb2 t) vs mn (t >>> (nI 1 &&& 31)) (t >>> (nI 2 &&& 31))))), (m2, .inl (cI, 104, .inl (nF (sd_F (sb1 t) (sb2 t) tg mn ((j + 1) % 3) ((j + 2) % 3))))), (m3, .inl (cI, 104, .inl (oF (sd_F (sb1 t) (sb2 t) sr mn (some cn) (some cn))))), (m4, .inl (cI, 104, .inl (nF (sd_F (sb1 t) (sb2 t) kn mn le le)))), (m5, .inl (cI, 104, .inl (nF (sd_F (sb1 t) (sb2 t) (va_up su k 1) mn 0 0))))]) [0, 1, 2, 3, 4, 5, 6, 7, 8, 9, 10, 11, 12, 13, 14] (by decide) rfl
  exact W.iret (v := nI cn) hx hb hr (fun t ht hW => ⟨⟨_, (), rfl, rfl, by rw [ht]; exact hP9, va_K.moved hW.alike hK, hD9⟩, hS.F ht⟩) hS.2.2 dc_O_deliver_98

