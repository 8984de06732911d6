set_option maxHeartbeats 4000000 in
set_option maxRecDepth 100000 in
/-- clear() -/
theorem oc_I_clear (l : Launch) (dC : Nat → ClassId) (dI : Nat → Nat → Nat) (cI cJ cZ cP : ClassId) (sz : Nat) (i0 : Nat) (i1 : Nat) (i2 : Nat) (i3 : Nat) (i4 : Nat) (cn : Nat) (sS : Int64) (lS : Int64) (rS : Int64)  : mt_V l mn_I_clear bc_I_clear 1 none ({ frames := 0, cells := 0, slots := 0, locals := 0 }) (dC, dI) (TYS cI cJ cZ cP) sz [.ref i0] [zI i0 i1 i2 i3 i4 cn sS lS rS] [zI i0 i1 i2 i3 i4 0 0 0 0] 0 0 := by
  unfold mt_V
  refine Met.ofW (cc := bc_I_clear) (maxL := 1) (ret := none) (by decide) rfl ?_
  intro p e s m args below meth c s₁ B hml hv
  obtain ⟨rfl, hsz, hP, hK, hD0⟩ := hv
  have hx := B.exec
  have hb := B.bytes
  have hr := B.returns
  have hts := atoms_spec (ws := wsT mn_I_clear bc_I_clear 1 none) B.pre
  have htb : ∀ w ∈ gtbl, w.before _ s = true := fun w h => hts w (List.mem_cons_of_mem _ h)
  have hown : s.vm.findClass cn_I = some m.cls := findClass_of_methodNamed B.named
  have hlocks := B.notSynchronized
  subst hsz
  have hD := hD0.self (sz := s.heap.size)
  generalize hAe : va_A [zI i0 i1 i2 i3 i4 cn sS lS rS] s.heap.size = A at hD ⊢
  have hA : ∀ q : Nat, s.heap.size ≤ q → A q := fun q h => by rw [← hAe]; exact Or.inr h
  have hS : va_S A s.heap s.heap [] := va_S.rf
  have hP : va_P (dC, dI) clsL [zI i0 i1 i2 i3 i4 cn sS lS rS] s.heap := hP
  have hl := lv_entry ([.ref i0]) (n := 1) (Nat.le_of_ble_eq_true rfl)
  rw [lg_entry_eq]
  generalize (lg_sl ([.ref i0]) ++ List.replicate (1 - (lg_sl ([.ref i0])).length) Slot.unset).toArray = ls at hl ⊢
  have hl : lv_has ls 1 [(0, .ref i0)] := hl
  refine lv_aload_n hx hb dc_I_clear_0 rfl (lv_at hl 0 rfl) ?_
  refine lv_iconst (v := nI 0) hx hb dc_I_clear_1 (by decide) ?_
  refine va_put (D := (dC, dI)) (ci := 0) (v := .int (nI 0)) (ty := .int) (C := cn_I) (T := ft_I) (N := 8) hx hb htb ki_I fy_I fy_I_ok nm_I_d hown hK hP hD hS 0 rfl rfl 4 (by decide) (htb _ kw_79) (fun _ h9 => h9) rfl (by decide +kernel) rfl rfl (Nat.le_of_ble_eq_true rfl) dc_I_clear_2 (fun H locs hP hD hS => ?_)
  have hP : va_P (dC, dI) clsL [zI i0 i1 i2 i3 i4 0 sS lS rS] H := hP
  have hD : va_D A [zI i0 i1 i2 i3 i4 0 sS lS rS] := hD
  refine lv_aload_n hx hb dc_I_clear_5 rfl (lv_at hl 0 rfl) ?_
  refine lv_lconst (v := 0) hx hb dc_I_clear_6 rfl ?_
  refine va_put (D := (dC, dI)) (ci := 0) (v := .long 0) (ty := .long) (C := cn_I) (T := ft_I) (N := 8) hx hb htb ki_I fy_I fy_I_ok nm_I_d hown hK hP hD hS 0 rfl rfl 5 (by decide) (htb _ kw_81) (fun _ h9 => h9) rfl (by decide +kernel) rfl rfl (Nat.le_of_ble_eq_true rfl) dc_I_clear_7 (fun H locs hP hD hS => ?_)
  have hP : va_P (dC, dI) clsL [zI i0 i1 i2 i3 i4 0 0 lS rS] H := hP
  have hD : va_D A [zI i0 i1 i2 i3 i4 0 0 lS rS] := hD
  refine lv_aload_n hx hb dc_I_clear_10 rfl (lv_at hl 0 rfl) ?_
  refine lv_lconst (v := 0) hx hb dc_I_clear_11 rfl ?_
  refine va_put (D := (dC, dI)) (ci := 0) (v := .long 0) (ty := .long) (C := cn_I) (T := ft_I) (N := 8) hx hb htb ki_I fy_I fy_I_ok nm_I_d hown hK hP hD hS 0 rfl rfl 6 (by decide) (htb _ kw_83) (fun _ h9 => h9) rfl (by decide +kernel) rfl rfl (Nat.le_of_ble_eq_true rfl) dc_I_clear_12 (fun H locs hP hD hS => ?_)
  have hP : va_P (dC, dI) clsL [zI i0 i1 i2 i3 i4 0 0 0 rS] H := hP
  have hD : va_D A [zI i0 i1 i2 i3 i4 0 0 0 rS] := hD
  refine lv_aload_n hx hb dc_I_clear_15 rfl (lv_at hl 0 rfl) ?_
  refine lv_lconst (v := 0) hx hb dc_I_clear_16 rfl ?_
  refine va_put (D := (dC, dI)) (ci := 0) (v := .long 0) (ty := .long) (C := cn_I) (T := ft_I) (N := 8) hx hb htb ki_I fy_I fy_I_ok nm_I_d hown hK hP hD hS 0 rfl rfl 7 (by decide) (htb _ kw_85) (fun _ h9 => h9) rfl (by decide +kernel) rfl rfl (Nat.le_of_ble_eq_true rfl) dc_I_clear_17 (fun H locs hP hD hS => ?_)
  have hP : va_P (dC, dI) clsL [zI i0 i1 i2 i3 i4 0 0 0 0] H := hP
  have hD : va_D A [zI i0 i1 i2 i3 i4 0 0 0 0] := hD
  have hP9 := hP.sub (ws' := [zI i0 i1 i2 i3 i4 0 0 0 0]) [0] rfl
  have hD9 := hD.sub (ws' := [zI i0 i1 i2 i3 i4 0 0 0 0]) [0] (by decide) rfl
  exact W.vret hx hb hr (fun t ht hW => ⟨⟨(), rfl, trivial, by rw [ht]; exact hP9, va_K.moved hW.alike hK, hD9⟩, hS.F ht⟩) hS.2.2 dc_I_clear_20

set_option maxHeartbeats 4000000 in
set_option maxRecDepth 100000 in
/-- make(t, j, d) -/
theorem oc_I_make (l : Launch) (dC : Nat → ClassId) (dI : Nat → Nat → Nat) (cI cJ cZ cP : ClassId) (sz : Nat) (i0 : Nat) (i1 : Nat) (i2 : Nat) (i3 : Nat) (i4 : Nat) (cn : Nat) (sS : Int64) (lS : Int64) (rS : Int64) (sv : Nat → Int32) (rc : Nat → Nat) (an : Nat → Option Nat) (dp : Nat → Int64) (t : Int32) (j : Nat) (d : Int64) (hn : cn < 40) : mt_I l mn_I_make bc_I_make 6 (some .int) ({ frames := 0, cells := 0, slots := 0, locals := 0 }) (dC, dI) (TYS cI cJ cZ cP) sz [.ref i0, .int t, .int (nI j), .long d] [zI i0 i1 i2 i3 i4 cn sS lS rS, (i1, .inl (cI, 40, .inl sv)), (i2, .inl (cI, 40, .inl (nF rc))), (i3, .inl (cI, 40, .inl (oF an))), (i4, .inl (cJ, 40, .inr (.inl dp)))] [zI i0 i1 i2 i3 i4 (cn + 1) sS lS rS, (i1, .inl (cI, 40, .inl (va_up sv cn t))), (i2, .inl (cI, 40, .inl (nF (va_up rc cn j)))), (i3, .inl (cI, 40, .inl (oF (va_up an cn none)))), (i4, .inl (cJ, 40, .inr (.inl (va_up dp cn (d ||| (bt cn))))))] (nI cn) 0 0 := by
  unfold mt_I
  refine Met.ofW (cc := bc_I_make) (maxL := 6) (ret := (some .int)) (by decide) rfl ?_
  intro p e s m args below meth c s₁ B hml hv
  obtain ⟨rfl, hsz, hP, hK, hD0⟩ := hv
  have hx := B.exec
  have hb := B.bytes
  have hr := B.returns
  have hts := atoms_spec (ws := wsT mn_I_make bc_I_make 6 (some .int)) B.pre
  have htb : ∀ w ∈ gtbl, w.before _ s = true := fun w h => hts w (List.mem_cons_of_mem _ h)
  have hown : s.vm.findClass cn_I = some m.cls := findClass_of_methodNamed B.named
  have hlocks := B.notSynchronized
  subst hsz
  have hD := hD0.self (sz := s.heap.size)
  generalize hAe : va_A [zI i0 i1 i2 i3 i4 cn sS lS rS, (i1, .inl (cI, 40, .inl sv)), (i2, .inl (cI, 40, .inl (nF rc))), (i3, .inl (cI, 40, .inl (oF an))), (i4, .inl (cJ, 40, .inr (.inl dp)))] s.heap.size = A at hD ⊢
  have hA : ∀ q : Nat, s.heap.size ≤ q → A q := fun q h => by rw [← hAe]; exact Or.inr h
  have hS : va_S A s.heap s.heap [] := va_S.rf
  have hP : va_P (dC, dI) clsL [zI i0 i1 i2 i3 i4 cn sS lS rS, (i1, .inl (cI, 40, .inl sv)), (i2, .inl (cI, 40, .inl (nF rc))), (i3, .inl (cI, 40, .inl (oF an))), (i4, .inl (cJ, 40, .inr (.inl dp)))] s.heap := hP
  have hl := lv_entry ([.ref i0, .int t, .int (nI j), .long d]) (n := 6) (Nat.le_of_ble_eq_true rfl)
  rw [lg_entry_eq]
  generalize (lg_sl ([.ref i0, .int t, .int (nI j), .long d]) ++ List.replicate (6 - (lg_sl ([.ref i0, .int t, .int (nI j), .long d])).length) Slot.unset).toArray = ls at hl ⊢
  have hl : lv_has ls 6 [(0, .ref i0), (1, .int t), (2, .int (nI j)), (3, .long d)] := hl
  refine lv_aload_n hx hb dc_I_make_0 rfl (lv_at hl 0 rfl) ?_
  refine va_get (D := (dC, dI)) (ci := 0) (v := .int (nI cn)) (C := cn_I) (T := ft_I) (N := 8) hx hb htb ki_I hown hK hP 0 rfl rfl 4 (by decide) (htb _ kw_79) (fun _ h9 => h9) rfl dc_I_make_1 ?_
  refine lv_istore (lv' := [(5, .int (nI cn)), (0, .ref i0), (1, .int t), (2, .int (nI j)), (3, .long d)]) hx hb dc_I_make_4 hl (by decide) rfl (fun ls hl => ?_)
  refine lv_aload_n hx hb dc_I_make_6 rfl (lv_at hl 1 rfl) ?_
  refine lv_dup hx hb dc_I_make_7 rfl ?_
  refine va_get (D := (dC, dI)) (ci := 0) (v := .int (nI cn)) (C := cn_I) (T := ft_I) (N := 8) hx hb htb ki_I hown hK hP 0 rfl rfl 4 (by decide) (htb _ kw_79) (fun _ h9 => h9) rfl dc_I_make_8 ?_
  refine lv_iconst (v := nI 1) hx hb dc_I_make_11 (by decide) ?_
  refine lv_iadd hx hb dc_I_make_12 ?_
  refine tp_i (y := nI (cn + 1)) (nI_add _ _) ?_
  refine va_put (D := (dC, dI)) (ci := 0) (v := .int (nI (cn + 1))) (ty := .int) (C := cn_I) (T := ft_I) (N := 8) hx hb htb ki_I fy_I fy_I_ok nm_I_d hown hK hP hD hS 0 rfl rfl 4 (by decide) (htb _ kw_79) (fun _ h9 => h9) rfl (by decide +kernel) rfl rfl (Nat.le_of_ble_eq_true rfl) dc_I_make_13 (fun H locs hP hD hS => ?_)
  have hP : va_P (dC, dI) clsL [zI i0 i1 i2 i3 i4 (cn + 1) sS lS rS, (i1, .inl (cI, 40, .inl sv)), (i2, .inl (cI, 40, .inl (nF rc))), (i3, .inl (cI, 40, .inl (oF an))), (i4, .inl (cJ, 40, .inr (.inl dp)))] H := hP
  have hD : va_D A [zI i0 i1 i2 i3 i4 (cn + 1) sS lS rS, (i1, .inl (cI, 40, .inl sv)), (i2, .inl (cI, 40, .inl (nF rc))), (i3, .inl (cI, 40, .inl (oF an))), (i4, .inl (cJ, 40, .inr (.inl dp)))] := hD
  refine lv_aload_n hx hb dc_I_make_16 rfl (lv_at hl 1 rfl) ?_
  refine va_get (D := (dC, dI)) (ci := 0) (v := .ref i1) (C := cn_I) (T := ft_I) (N := 8) hx hb htb ki_I hown hK hP 0 rfl rfl 0 (by decide) (htb _ kw_72) (fun _ h9 => h9) rfl dc_I_make_17 ?_
  refine lv_iload hx hb dc_I_make_20 (lv_at hl 0 rfl) ?_
  refine lv_iload_n hx hb dc_I_make_22 rfl (lv_at hl 2 rfl) ?_
  refine wa_ist (k := cn) (x := t) hx hb hK hP hD hS 1 0 rfl rfl (by omega) (by omega) dc_I_make_23 (fun H locs hP hD hS => ?_)
  have hP : va_P (dC, dI) clsL [zI i0 i1 i2 i3 i4 (cn + 1) sS lS rS, (i1, .inl (cI, 40, .inl (va_up sv cn t))), (i2, .inl (cI, 40, .inl (nF rc))), (i3, .inl (cI, 40, .inl (oF an))), (i4, .inl (cJ, 40, .inr (.inl dp)))] H := hP
  have hD : va_D A [zI i0 i1 i2 i3 i4 (cn + 1) sS lS rS, (i1, .inl (cI, 40, .inl (va_up sv cn t))), (i2, .inl (cI, 40, .inl (nF rc))), (i3, .inl (cI, 40, .inl (oF an))), (i4, .inl (cJ, 40, .inr (.inl dp)))] := hD
  refine lv_aload_n hx hb dc_I_make_24 rfl (lv_at hl 1 rfl) ?_
  refine va_get (D := (dC, dI)) (ci := 0) (v := .ref i2) (C := cn_I) (T := ft_I) (N := 8) hx hb htb ki_I hown hK hP 0 rfl rfl 1 (by decide) (htb _ kw_74) (fun _ h9 => h9) rfl dc_I_make_25 ?_
  refine lv_iload hx hb dc_I_make_28 (lv_at hl 0 rfl) ?_
  refine lv_iload_n hx hb dc_I_make_30 rfl (lv_at hl 3 rfl) ?_
  refine wa_nst (k := cn) (x := j) hx hb hK hP hD hS 2 0 rfl rfl (by omega) (by omega) dc_I_make_31 (fun H locs hP hD hS => ?_)
  have hP : va_P (dC, dI) clsL [zI i0 i1 i2 i3 i4 (cn + 1) sS lS rS, (i1, .inl (cI, 40, .inl (va_up sv cn t))), (i2, .inl (cI, 40, .inl (nF (va_up rc cn j)))), (i3, .inl (cI, 40, .inl (oF an))), (i4, .inl (cJ, 40, .inr (.inl dp)))] H := hP
  have hD : va_D A [zI i0 i1 i2 i3 i4 (cn + 1) sS lS rS, (i1, .inl (cI, 40, .inl (va_up sv cn t))), (i2, .inl (cI, 40, .inl (nF (va_up rc cn j)))), (i3, .inl (cI, 40, .inl (oF an))), (i4, .inl (cJ, 40, .inr (.inl dp)))] := hD
  refine lv_aload_n hx hb dc_I_make_32 rfl (lv_at hl 1 rfl) ?_
  refine va_get (D := (dC, dI)) (ci := 0) (v := .ref i3) (C := cn_I) (T := ft_I) (N := 8) hx hb htb ki_I hown hK hP 0 rfl rfl 2 (by decide) (htb _ kw_76) (fun _ h9 => h9) rfl dc_I_make_33 ?_
  refine lv_iload hx hb dc_I_make_36 (lv_at hl 0 rfl) ?_
  refine lv_iconst (v := (-1)) hx hb dc_I_make_38 (by decide) ?_
  refine tp_i (y := oI none) (rfl) ?_
  refine wa_ost (k := cn) (x := none) hx hb hK hP hD hS 3 0 rfl rfl (by omega) (by omega) dc_I_make_39 (fun H locs hP hD hS => ?_)
  have hP : va_P (dC, dI) clsL [zI i0 i1 i2 i3 i4 (cn + 1) sS lS rS, (i1, .inl (cI, 40, .inl (va_up sv cn t))), (i2, .inl (cI, 40, .inl (nF (va_up rc cn j)))), (i3, .inl (cI, 40, .inl (oF (va_up an cn none)))), (i4, .inl (cJ, 40, .inr (.inl dp)))] H := hP
  have hD : va_D A [zI i0 i1 i2 i3 i4 (cn + 1) sS lS rS, (i1, .inl (cI, 40, .inl (va_up sv cn t))), (i2, .inl (cI, 40, .inl (nF (va_up rc cn j)))), (i3, .inl (cI, 40, .inl (oF (va_up an cn none)))), (i4, .inl (cJ, 40, .inr (.inl dp)))] := hD
  refine lv_aload_n hx hb dc_I_make_40 rfl (lv_at hl 1 rfl) ?_
  refine va_get (D := (dC, dI)) (ci := 0) (v := .ref i4) (C := cn_I) (T := ft_I) (N := 8) hx hb htb ki_I hown hK hP 0 rfl rfl 3 (by decide) (htb _ kw_77) (fun _ h9 => h9) rfl dc_I_make_41 ?_
  refine lv_iload hx hb dc_I_make_44 (lv_at hl 0 rfl) ?_
  refine lv_lload_n hx hb dc_I_make_46 rfl (lv_at hl 4 rfl) ?_
  refine lv_lconst (v := 1) hx hb dc_I_make_47 rfl ?_
  refine lv_iload hx hb dc_I_make_48 (lv_at hl 0 rfl) ?_
  refine lv_lshl (v := bt cn) hx hb dc_I_make_50 rfl ?_
  refine lv_lor hx hb dc_I_make_51 ?_
  refine wa_lst (k := cn) (x := d ||| (bt cn)) hx hb hK hP hD hS 4 1 rfl rfl (by omega) (by omega) dc_I_make_52 (fun H locs hP hD hS => ?_)
  have hP : va_P (dC, dI) clsL [zI i0 i1 i2 i3 i4 (cn + 1) sS lS rS, (i1, .inl (cI, 40, .inl (va_up sv cn t))), (i2, .inl (cI, 40, .inl (nF (va_up rc cn j)))), (i3, .inl (cI, 40, .inl (oF (va_up an cn none)))), (i4, .inl (cJ, 40, .inr (.inl (va_up dp cn (d ||| (bt cn))))))] H := hP
  have hD : va_D A [zI i0 i1 i2 i3 i4 (cn + 1) sS lS rS, (i1, .inl (cI, 40, .inl (va_up sv cn t))), (i2, .inl (cI, 40, .inl (nF (va_up rc cn j)))), (i3, .inl (cI, 40, .inl (oF (va_up an cn none)))), (i4, .inl (cJ, 40, .inr (.inl (va_up dp cn (d ||| (bt cn))))))] := hD
  refine lv_iload hx hb dc_I_make_53 (lv_at hl 0 rfl) ?_
  have hP9 := hP.sub (ws' := [zI i0 i1 i2 i3 i4 (cn + 1) sS lS rS, (i1, .inl (cI, 40, .inl (va_up sv cn t))), (i2, .inl (cI, 40, .inl (nF (va_up rc cn j)))), (i3, .inl (cI, 40, .inl (oF (va_up an cn none)))), (i4, .inl (cJ, 40, .inr (.inl (va_up dp cn (d ||| (bt cn))))))]) [0, 1, 2, 3, 4] rfl
  have hD9 := hD.sub (ws' := [zI i0 i1 i2 i3 i4 (cn + 1) sS lS rS, (i1, .inl (cI, 40, .inl (va_up sv cn t))), (i2, .inl (cI, 40, .inl (nF (va_up rc cn j)))), (i3, .inl (cI, 40, .inl (oF (va_up an cn none)))), (i4, .inl (cJ, 40, .inr (.inl (va_up dp cn (d ||| (bt cn))))))]) [0, 1, 2, 3, 4] (by decide) rfl
  exact W.iret (v := nI cn) hx hb hr (fun t ht hW => ⟨⟨_, (), rfl, rfl, by rw [ht]; exact hP9, va_K.moved hW.alike hK, hD9⟩, hS.F ht⟩) hS.2.2 dc_I_make_55

set_option maxHeartbeats 4000000 in
set_option maxRecDepth 100000 in
/-- announce(st, w) -/
theorem oc_I_announce (l : Launch) (dC : Nat → ClassId) (dI : Nat → Nat → Nat) (cI cJ cZ cP : ClassId) (sz : Nat) (i0 : Nat) (i1 : Nat) (i2 : Nat) (i3 : Nat) (i4 : Nat) (cn : Nat) (sS : Int64) (lS : Int64) (rS : Int64) (an : Nat → Option Nat) (st : Int64) (w : Nat) (hn : cn ≤ 40) : mt_V l mn_I_announce bc_I_announce 5 none ({ frames := 0, cells := 0, slots := 0, locals := 0 }) (dC, dI) (TYS cI cJ cZ cP) sz [.ref i0, .long st, .int (nI w)] [zI i0 i1 i2 i3 i4 cn sS lS rS, (i3, .inl (cI, 40, .inl (oF an)))] [zI i0 i1 i2 i3 i4 cn sS lS rS, (i3, .inl (cI, 40, .inl (oF (an_F an st w cn))))] 0 0 := by
  unfold mt_V
  refine Met.ofW (cc := bc_I_announce) (maxL := 5) (ret := none) (by decide) rfl ?_
  intro p e s m args below meth c s₁ B hml hv
  obtain ⟨rfl, hsz, hP, hK, hD0⟩ := hv
  have hx := B.exec
  have hb := B.bytes
  have hr := B.returns
  have hts := atoms_spec (ws := wsT mn_I_announce bc_I_announce 5 none) B.pre
  have htb : ∀ w ∈ gtbl, w.before _ s = true := fun w h => hts w (List.mem_cons_of_mem _ h)
  have hown : s.vm.findClass cn_I = some m.cls := findClass_of_methodNamed B.named
  have hlocks := B.notSynchronized
  subst hsz
  have hD := hD0.self (sz := s.heap.size)
  generalize hAe : va_A [zI i0 i1 i2 i3 i4 cn sS lS rS, (i3, .inl (cI, 40, .inl (oF an)))] s.heap.size = A at hD ⊢
  have hA : ∀ q : Nat, s.heap.size ≤ q → A q := fun q h => by rw [← hAe]; exact Or.inr h
  have hS : va_S A s.heap s.heap [] := va_S.rf
  have hP : va_P (dC, dI) clsL [zI i0 i1 i2 i3 i4 cn sS lS rS, (i3, .inl (cI, 40, .inl (oF an)))] s.heap := hP
  have hl := lv_entry ([.ref i0, .long st, .int (nI w)]) (n := 5) (Nat.le_of_ble_eq_true rfl)
  rw [lg_entry_eq]
  generalize (lg_sl ([.ref i0, .long st, .int (nI w)]) ++ List.replicate (5 - (lg_sl ([.ref i0, .long st, .int (nI w)])).length) Slot.unset).toArray = ls at hl ⊢
  have hl : lv_has ls 5 [(0, .ref i0), (1, .long st), (3, .int (nI w))] := hl
  refine lv_iconst (v := nI 0) hx hb dc_I_announce_0 (by decide) ?_
  refine lv_istore (lv' := [(4, .int (nI 0)), (0, .ref i0), (1, .long st), (3, .int (nI w))]) hx hb dc_I_announce_1 hl (by decide) rfl (fun ls hl => ?_)
  refine wl_ 3 (fun (x : Nat × (Nat → Option Nat)) => cn - x.1) (fun (x : Nat × (Nat → Option Nat)) (H : Heap) (locs : List Loc) (ls : Array Slot) => (x.1 ≤ cn ∧ x.2 = an_F an st w x.1) ∧ va_P (dC, dI) clsL [zI i0 i1 i2 i3 i4 cn sS lS rS, (i3, .inl (cI, 40, .inl (oF x.2)))] H ∧ va_D A [zI i0 i1 i2 i3 i4 cn sS lS rS, (i3, .inl (cI, 40, .inl (oF x.2)))] ∧ va_S A s.heap H locs ∧ lv_has ls 5 [(4, .int (nI x.1)), (3, .int (nI w)), (1, .long st), (0, .ref i0)]) ?_ (0, an) _ _ _ ⟨⟨Nat.zero_le _, rfl⟩, hP, hD, hS, lv_sub hl [0, 3, 2, 1] rfl⟩
  rintro ⟨k, g⟩ H locs ls ⟨hI, hP, hD, hS, hl⟩ ih
  have hI : k ≤ cn ∧ g = an_F an st w k := hI
  have hP : va_P (dC, dI) clsL [zI i0 i1 i2 i3 i4 cn sS lS rS, (i3, .inl (cI, 40, .inl (oF g)))] H := hP
  have hD : va_D A [zI i0 i1 i2 i3 i4 cn sS lS rS, (i3, .inl (cI, 40, .inl (oF g)))] := hD
  have hl : lv_has ls 5 [(4, .int (nI k)), (3, .int (nI w)), (1, .long st), (0, .ref i0)] := hl
  have hkn := hI.1
  refine lv_iload hx hb dc_I_announce_3 (lv_at hl 0 rfl) ?_
  refine lv_aload_n hx hb dc_I_announce_5 rfl (lv_at hl 3 rfl) ?_
  refine va_get (D := (dC, dI)) (ci := 0) (v := .int (nI cn)) (C := cn_I) (T := ft_I) (N := 8) hx hb htb ki_I hown hK hP 0 rfl rfl 4 (by decide) (htb _ kw_79) (fun _ h9 => h9) rfl dc_I_announce_6 ?_
  refine lv_icmp_ge (tgt := 37) hx hb dc_I_announce_9 (by decide) (fun hc => ?_) (fun hc => ?_)
  · have hk : cn ≤ k := (nI_leI (by omega) (by omega)).mp hc
    obtain rfl : cn = k := by omega
    have hP8 := hP.sub (ws' := [zI i0 i1 i2 i3 i4 cn sS lS rS, (i3, .inl (cI, 40, .inl (oF g)))]) [0, 1] rfl
    have hD8 := hD.sub (ws' := [zI i0 i1 i2 i3 i4 cn sS lS rS, (i3, .inl (cI, 40, .inl (oF g)))]) [0, 1] (by decide) rfl
    have hW8 : ([zI i0 i1 i2 i3 i4 cn sS lS rS, (i3, .inl (cI, 40, .inl (oF g)))] : va_W) = [zI i0 i1 i2 i3 i4 cn sS lS rS, (i3, .inl (cI, 40, .inl (oF (an_F an st w cn))))] := by rw [hI.2]
    rw [hW8] at hP8 hD8
    have hP9 := hP8
    have hD9 := hD8
    exact W.vret hx hb hr (fun t ht hW => ⟨⟨(), rfl, trivial, by rw [ht]; exact hP9, va_K.moved hW.alike hK, hD9⟩, hS.F ht⟩) hS.2.2 dc_I_announce_37
  · have hk : k < cn := Nat.lt_of_not_le (fun h9 => hc ((nI_leI (by omega) (by omega)).mpr h9))
    refine lv_lload_n hx hb dc_I_announce_12 rfl (lv_at hl 2 rfl) ?_
    refine lv_lconst (v := 1) hx hb dc_I_announce_13 rfl ?_
    refine lv_iload hx hb dc_I_announce_14 (lv_at hl 0 rfl) ?_
    refine lv_lshl (v := bt k) hx hb dc_I_announce_16 rfl ?_
    refine lv_land hx hb dc_I_announce_17 ?_
    refine lv_lconst (v := 0) hx hb dc_I_announce_18 rfl ?_
    refine W.lcmp hx hb dc_I_announce_19 ?_
    refine lv_if_eq (tgt := 31) hx hb dc_I_announce_20 (by decide) (fun hc => ?_) (fun hc => ?_)
    · have hz : st &&& (bt k) = 0 := lc_0.mp hc
      refine lv_iinc (k := 0) (v := nI (k + 1)) (lv' := [(4, .int (nI (k + 1))), (3, .int (nI w)), (1, .long st), (0, .ref i0)]) hx hb dc_I_announce_31 hl rfl (nI_inc1 _) (by decide) rfl (fun ls hl => ?_)
      refine lv_goto (tgt := 3) hx hb dc_I_announce_34 (by decide) ?_
      exact ih (k + 1, g) H locs ls (by dsimp only; omega) ⟨⟨by omega, by rw [hI.2]; simp [an_F, hz]⟩, hP, hD, hS, lv_sub hl [0, 1, 2, 3] rfl⟩
    · have hz : ¬ st &&& (bt k) = 0 := fun h9 => hc (lc_0.mpr h9)
      refine lv_aload_n hx hb dc_I_announce_23 rfl (lv_at hl 3 rfl) ?_
      refine va_get (D := (dC, dI)) (ci := 0) (v := .ref i3) (C := cn_I) (T := ft_I) (N := 8) hx hb htb ki_I hown hK hP 0 rfl rfl 2 (by decide) (htb _ kw_76) (fun _ h9 => h9) rfl dc_I_announce_24 ?_
      refine lv_iload hx hb dc_I_announce_27 (lv_at hl 0 rfl) ?_
      refine lv_iload_n hx hb dc_I_announce_29 rfl (lv_at hl 1 rfl) ?_
      refine tp_i (y := oI (some w)) (rfl) ?_
      refine wa_ost (k := k) (x := (some w)) hx hb hK hP hD hS 1 0 rfl rfl (by omega) (by omega) dc_I_announce_30 (fun H locs hP hD hS => ?_)
      have hP : va_P (dC, dI) clsL [zI i0 i1 i2 i3 i4 cn sS lS rS, (i3, .inl (cI, 40, .inl (oF (va_up g k (some w)))))] H := hP
      have hD : va_D A [zI i0 i1 i2 i3 i4 cn sS lS rS, (i3, .inl (cI, 40, .inl (oF (va_up g k (some w)))))] := hD
      refine lv_iinc (k := 0) (v := nI (k + 1)) (lv' := [(4, .int (nI (k + 1))), (3, .int (nI w)), (1, .long st), (0, .ref i0)]) hx hb dc_I_announce_31 hl rfl (nI_inc1 _) (by decide) rfl (fun ls hl => ?_)
      refine lv_goto (tgt := 3) hx hb dc_I_announce_34 (by decide) ?_
      exact ih (k + 1, va_up g k (some w)) H locs ls (by dsimp only; omega) ⟨⟨by omega, by rw [hI.2]; simp [an_F, hz]⟩, hP, hD, hS, lv_sub hl [0, 1, 2, 3] rfl⟩

set_option maxHeartbeats 4000000 in
set_option maxRecDepth 100000 in
/-- announcedBy(w) -/
theorem oc_I_announcedBy (l : Launch) (dC : Nat → ClassId) (dI : Nat → Nat → Nat) (cI cJ cZ cP : ClassId) (sz : Nat) (i0 : Nat) (i1 : Nat) (i2 : Nat) (i3 : Nat) (i4 : Nat) (cn : Nat) (sS : Int64) (lS : Int64) (rS : Int64) (an : Nat → Option Nat) (w : Nat) (hn : cn ≤ 40) (hw : w < 2 ^ 31) (hb9 : ∀ k, k < cn → ∀ i, an k = some i → i < 2 ^ 31) : mt_J l mn_I_announcedBy bc_I_announcedBy 5 (some .long) ({ frames := 0, cells := 0, slots := 0, locals := 0 }) (dC, dI) (TYS cI cJ cZ cP) sz [.ref i0, .int (nI w)] [zI i0 i1 i2 i3 i4 cn sS lS rS, (i3, .inl (cI, 40, .inl (oF an)))] [zI i0 i1 i2 i3 i4 cn sS lS rS, (i3, .inl (cI, 40, .inl (oF an)))] (ab_S an w cn) 0 0 := by
  unfold mt_J
  refine Met.ofW (cc := bc_I_announcedBy) (maxL := 5) (ret := (some .long)) (by decide) rfl ?_
  intro p e s m args below meth c s₁ B hml hv
  obtain ⟨rfl, hsz, hP, hK, hD0⟩ := hv
  have hx := B.exec
  have hb := B.bytes
  have hr := B.returns
  have hts := atoms_spec (ws := wsT mn_I_announcedBy bc_I_announcedBy 5 (some .long)) B.pre
  have htb : ∀ w ∈ gtbl, w.before _ s = true := fun w h => hts w (List.mem_cons_of_mem _ h)
  have hown : s.vm.findClass cn_I = some m.cls := findClass_of_methodNamed B.named
  have hlocks := B.notSynchronized
  subst hsz
  have hD := hD0.self (sz := s.heap.size)
  generalize hAe : va_A [zI i0 i1 i2 i3 i4 cn sS lS rS, (i3, .inl (cI, 40, .inl (oF an)))] s.heap.size = A at hD ⊢
  have hA : ∀ q : Nat, s.heap.size ≤ q → A q := fun q h => by rw [← hAe]; exact Or.inr h
  have hS : va_S A s.heap s.heap [] := va_S.rf
  have hP : va_P (dC, dI) clsL [zI i0 i1 i2 i3 i4 cn sS lS rS, (i3, .inl (cI, 40, .inl (oF an)))] s.heap := hP
  have hl := lv_entry ([.ref i0, .int (nI w)]) (n := 5) (Nat.le_of_ble_eq_true rfl)
  rw [lg_entry_eq]
  generalize (lg_sl ([.ref i0, .int (nI w)]) ++ List.replicate (5 - (lg_sl ([.ref i0, .int (nI w)])).length) Slot.unset).toArray = ls at hl ⊢
  have hl : lv_has ls 5 [(0, .ref i0), (1, .int (nI w))] := hl
  refine lv_lconst (v := 0) hx hb dc_I_announcedBy_0 rfl ?_
  refine lv_lstore_n (lv' := [(2, .long 0), (0, .ref i0), (1, .int (nI w))]) hx hb dc_I_announcedBy_1 rfl hl (by decide) rfl (fun ls hl => ?_)
  refine lv_iconst (v := nI 0) hx hb dc_I_announcedBy_2 (by decide) ?_
  refine lv_istore (lv' := [(4, .int (nI 0)), (2, .long 0), (0, .ref i0), (1, .int (nI w))]) hx hb dc_I_announcedBy_3 hl (by decide) rfl (fun ls hl => ?_)
  refine wl_ 5 (fun (x : Nat × Int64) => cn - x.1) (fun (x : Nat × Int64) (H : Heap) (locs : List Loc) (ls : Array Slot) => (x.1 ≤ cn ∧ x.2 = ab_S an w x.1) ∧ va_P (dC, dI) clsL [zI i0 i1 i2 i3 i4 cn sS lS rS, (i3, .inl (cI, 40, .inl (oF an)))] H ∧ va_D A [zI i0 i1 i2 i3 i4 cn sS lS rS, (i3, .inl (cI, 40, .inl (oF an)))] ∧ va_S A s.heap H locs ∧ lv_has ls 5 [(4, .int (nI x.1)), (2, .long x.2), (1, .int (nI w)), (0, .ref i0)]) ?_ (0, 0) _ _ _ ⟨⟨Nat.zero_le _, rfl⟩, hP, hD, hS, lv_sub hl [0, 1, 3, 2] rfl⟩
  rintro ⟨k, z⟩ H locs ls ⟨hI, hP, hD, hS, hl⟩ ih
  have hI : k ≤ cn ∧ z = ab_S an w k := hI
  have hP : va_P (dC, dI) clsL [zI i0 i1 i2 i3 i4 cn sS lS rS, (i3, .inl (cI, 40, .inl (oF an)))] H := hP
  have hD : va_D A [zI i0 i1 i2 i3 i4 cn sS lS rS, (i3, .inl (cI, 40, .inl (oF an)))] := hD
  have hl : lv_has ls 5 [(4, .int (nI k)), (2, .long z), (1, .int (nI w)), (0, .ref i0)] := hl
  have hkn := hI.1
  refine lv_iload hx hb dc_I_announcedBy_5 (lv_at hl 0 rfl) ?_
  refine lv_aload_n hx hb dc_I_announcedBy_7 rfl (lv_at hl 3 rfl) ?_
  refine va_get (D := (dC, dI)) (ci := 0) (v := .int (nI cn)) (C := cn_I) (T := ft_I) (N := 8) hx hb htb ki_I hown hK hP 0 rfl rfl 4 (by decide) (htb _ kw_79) (fun _ h9 => h9) rfl dc_I_announcedBy_8 ?_
  refine lv_icmp_ge (tgt := 38) hx hb dc_I_announcedBy_11 (by decide) (fun hc => ?_) (fun hc => ?_)
  · have hk : cn ≤ k := (nI_leI (by omega) (by omega)).mp hc
    refine lv_lload_n hx hb dc_I_announcedBy_38 rfl (lv_at hl 1 rfl) ?_
    have hP9 := hP.sub (ws' := [zI i0 i1 i2 i3 i4 cn sS lS rS, (i3, .inl (cI, 40, .inl (oF an)))]) [0, 1] rfl
    have hD9 := hD.sub (ws' := [zI i0 i1 i2 i3 i4 cn sS lS rS, (i3, .inl (cI, 40, .inl (oF an)))]) [0, 1] (by decide) rfl
    exact W.lret (v := z) hx hb hr (fun t ht hW => ⟨⟨_, (), rfl, by rw [hI.2, show k = cn by omega], by rw [ht]; exact hP9, va_K.moved hW.alike hK, hD9⟩, hS.F ht⟩) hS.2.2 dc_I_announcedBy_39
  · have hk : k < cn := Nat.lt_of_not_le (fun h9 => hc ((nI_leI (by omega) (by omega)).mpr h9))
    refine lv_aload_n hx hb dc_I_announcedBy_14 rfl (lv_at hl 3 rfl) ?_
    refine va_get (D := (dC, dI)) (ci := 0) (v := .ref i3) (C := cn_I) (T := ft_I) (N := 8) hx hb htb ki_I hown hK hP 0 rfl rfl 2 (by decide) (htb _ kw_76) (fun _ h9 => h9) rfl dc_I_announcedBy_15 ?_
    refine lv_iload hx hb dc_I_announcedBy_18 (lv_at hl 0 rfl) ?_
    refine wa_old (k := k) hx hb hK hP 1 0 rfl rfl (by omega) (by omega) dc_I_announcedBy_20 ?_
    refine lv_iload_n hx hb dc_I_announcedBy_21 rfl (lv_at hl 2 rfl) ?_
    refine lv_icmp_ne (tgt := 32) hx hb dc_I_announcedBy_22 (by decide) (fun hc => ?_) (fun hc => ?_)
    · have hz : ¬ an k = some w := fun h9 => hc ((oI_n (hb9 k hk) hw).mpr h9)
      refine lv_iinc (k := 0) (v := nI (k + 1)) (lv' := [(4, .int (nI (k + 1))), (2, .long z), (1, .int (nI w)), (0, .ref i0)]) hx hb dc_I_announcedBy_32 hl rfl (nI_inc1 _) (by decide) rfl (fun ls hl => ?_)
      refine lv_goto (tgt := 5) hx hb dc_I_announcedBy_35 (by decide) ?_
      exact ih (k + 1, z) H locs ls (by dsimp only; omega) ⟨⟨by omega, by rw [hI.2]; simp [ab_S, hz]⟩, hP, hD, hS, lv_sub hl [0, 1, 2, 3] rfl⟩
    · have hz : an k = some w := (oI_n (hb9 k hk) hw).mp hc
      refine lv_lload_n hx hb dc_I_announcedBy_25 rfl (lv_at hl 1 rfl) ?_
      refine lv_lconst (v := 1) hx hb dc_I_announcedBy_26 rfl ?_
      refine lv_iload hx hb dc_I_announcedBy_27 (lv_at hl 0 rfl) ?_
      refine lv_lshl (v := bt k) hx hb dc_I_announcedBy_29 rfl ?_
      refine lv_lor hx hb dc_I_announcedBy_30 ?_
      refine lv_lstore_n (lv' := [(2, .long (z ||| (bt k))), (4, .int (nI k)), (1, .int (nI w)), (0, .ref i0)]) hx hb dc_I_announcedBy_31 rfl hl (by decide) rfl (fun ls hl => ?_)
      refine lv_iinc (k := 1) (v := nI (k + 1)) (lv' := [(4, .int (nI (k + 1))), (2, .long (z ||| (bt k))), (1, .int (nI w)), (0, .ref i0)]) hx hb dc_I_announcedBy_32 hl rfl (nI_inc1 _) (by decide) rfl (fun ls hl => ?_)
      refine lv_goto (tgt := 5) hx hb dc_I_announcedBy_35 (by decide) ?_
      exact ih (k + 1, z ||| (bt k)) H locs ls (by dsimp only; omega) ⟨⟨by omega, by rw [hI.2]; simp [ab_S, hz]⟩, hP, hD, hS, lv_sub hl [0, 1, 2, 3] rfl⟩

set_option maxHeartbeats 4000000 in
set_option maxRecDepth 100000 in
/-- isReleasable(j) -/
theorem oc_I_isReleasable (l : Launch) (dC : Nat → ClassId) (dI : Nat → Nat → Nat) (cI cJ cZ cP : ClassId) (sz : Nat) (i0 : Nat) (i1 : Nat) (i2 : Nat) (i3 : Nat) (i4 : Nat) (cn : Nat) (sS : Int64) (lS : Int64) (rS : Int64) (sv : Nat → Int32) (dp : Nat → Int64) (j : Nat) (hj : j < 40) : mt_I l mn_I_isReleasable bc_I_isReleasable 2 (some .boolean) ({ frames := 0, cells := 0, slots := 0, locals := 0 }) (dC, dI) (TYS cI cJ cZ cP) sz [.ref i0, .int (nI j)] [zI i0 i1 i2 i3 i4 cn sS lS rS, (i1, .inl (cI, 40, .inl sv)), (i4, .inl (cJ, 40, .inr (.inl dp)))] [zI i0 i1 i2 i3 i4 cn sS lS rS, (i1, .inl (cI, 40, .inl sv)), (i4, .inl (cJ, 40, .inr (.inl dp)))] (bI (rl_B sv dp sS rS j)) 0 0 := by
  unfold mt_I
  refine Met.ofW (cc := bc_I_isReleasable) (maxL := 2) (ret := (some .boolean)) (by decide) rfl ?_
  intro p e s m args below meth c s₁ B hml hv
  obtain ⟨rfl, hsz, hP, hK, hD0⟩ := hv
  have hx := B.exec
  have hb := B.bytes
  have hr := B.returns
  have hts := atoms_spec (ws := wsT mn_I_isReleasable bc_I_isReleasable 2 (some .boolean)) B.pre
  have htb : ∀ w ∈ gtbl, w.before _ s = true := fun w h => hts w (List.mem_cons_of_mem _ h)
  have hown : s.vm.findClass cn_I = some m.cls := findClass_of_methodNamed B.named
  have hlocks := B.notSynchronized
  subst hsz
  have hD := hD0.self (sz := s.heap.size)
  generalize hAe : va_A [zI i0 i1 i2 i3 i4 cn sS lS rS, (i1, .inl (cI, 40, .inl sv)), (i4, .inl (cJ, 40, .inr (.inl dp)))] s.heap.size = A at hD ⊢
  have hA : ∀ q : Nat, s.heap.size ≤ q → A q := fun q h => by rw [← hAe]; exact Or.inr h
  have hS : va_S A s.heap s.heap [] := va_S.rf
  have hP : va_P (dC, dI) clsL [zI i0 i1 i2 i3 i4 cn sS lS rS, (i1, .inl (cI, 40, .inl sv)), (i4, .inl (cJ, 40, .inr (.inl dp)))] s.heap := hP
  have hl := lv_entry ([.ref i0, .int (nI j)]) (n := 2) (Nat.le_of_ble_eq_true rfl)
  rw [lg_entry_eq]
  generalize (lg_sl ([.ref i0, .int (nI j)]) ++ List.replicate (2 - (lg_sl ([.ref i0, .int (nI j)])).length) Slot.unset).toArray = ls at hl ⊢
  have hl : lv_has ls 2 [(0, .ref i0), (1, .int (nI j))] := hl
  refine lv_aload_n hx hb dc_I_isReleasable_0 rfl (lv_at hl 0 rfl) ?_
  refine va_get (D := (dC, dI)) (ci := 0) (v := .ref i1) (C := cn_I) (T := ft_I) (N := 8) hx hb htb ki_I hown hK hP 0 rfl rfl 0 (by decide) (htb _ kw_72) (fun _ h9 => h9) rfl dc_I_isReleasable_1 ?_
  refine lv_iload_n hx hb dc_I_isReleasable_4 rfl (lv_at hl 1 rfl) ?_
  refine wa_ild (k := j) hx hb hK hP 1 0 rfl rfl (by omega) (by omega) dc_I_isReleasable_5 ?_
  refine lv_iconst (v := nI 4) hx hb dc_I_isReleasable_6 (by decide) ?_
  refine lv_iand hx hb dc_I_isReleasable_7 ?_
  refine lv_if_eq (tgt := 48) hx hb dc_I_isReleasable_8 (by decide) (fun hc => ?_) (fun hc => ?_)
  · have h1 := hc
    refine lv_iconst (v := nI 0) hx hb dc_I_isReleasable_48 (by decide) ?_
    have hP9 := hP.sub (ws' := [zI i0 i1 i2 i3 i4 cn sS lS rS, (i1, .inl (cI, 40, .inl sv)), (i4, .inl (cJ, 40, .inr (.inl dp)))]) [0, 1, 2] rfl
    have hD9 := hD.sub (ws' := [zI i0 i1 i2 i3 i4 cn sS lS rS, (i1, .inl (cI, 40, .inl sv)), (i4, .inl (cJ, 40, .inr (.inl dp)))]) [0, 1, 2] (by decide) rfl
    exact W.zret (v := nI 0) (ty := .boolean) hx hb hr (rfl) (fun t ht hW => ⟨⟨_, (), rfl, by simp [rl_B, bI, nI_0, nI_o, -Int64.xor_neg_one, *], by rw [ht]; exact hP9, va_K.moved hW.alike hK, hD9⟩, hS.F ht⟩) hS.2.2 dc_I_isReleasable_49
  · have h1 := hc
    refine lv_aload_n hx hb dc_I_isReleasable_11 rfl (lv_at hl 0 rfl) ?_
    refine va_get (D := (dC, dI)) (ci := 0) (v := .long rS) (C := cn_I) (T := ft_I) (N := 8) hx hb htb ki_I hown hK hP 0 rfl rfl 7 (by decide) (htb _ kw_85) (fun _ h9 => h9) rfl dc_I_isReleasable_12 ?_
    refine lv_lconst (v := 1) hx hb dc_I_isReleasable_15 rfl ?_
    refine lv_iload_n hx hb dc_I_isReleasable_16 rfl (lv_at hl 1 rfl) ?_
    refine lv_lshl (v := bt j) hx hb dc_I_isReleasable_17 rfl ?_
    refine lv_land hx hb dc_I_isReleasable_18 ?_
    refine lv_lconst (v := 0) hx hb dc_I_isReleasable_19 rfl ?_
    refine W.lcmp hx hb dc_I_isReleasable_20 ?_
    refine lv_if_ne (tgt := 48) hx hb dc_I_isReleasable_21 (by decide) (fun hc => ?_) (fun hc => ?_)
    · have h2 : ¬ rS &&& (bt j) = 0 := fun h9 => hc (lc_0.mpr h9)
      refine lv_iconst (v := nI 0) hx hb dc_I_isReleasable_48 (by decide) ?_
      have hP9 := hP.sub (ws' := [zI i0 i1 i2 i3 i4 cn sS lS rS, (i1, .inl (cI, 40, .inl sv)), (i4, .inl (cJ, 40, .inr (.inl dp)))]) [0, 1, 2] rfl
      have hD9 := hD.sub (ws' := [zI i0 i1 i2 i3 i4 cn sS lS rS, (i1, .inl (cI, 40, .inl sv)), (i4, .inl (cJ, 40, .inr (.inl dp)))]) [0, 1, 2] (by decide) rfl
      exact W.zret (v := nI 0) (ty := .boolean) hx hb hr (rfl) (fun t ht hW => ⟨⟨_, (), rfl, by simp [rl_B, bI, nI_0, nI_o, -Int64.xor_neg_one, *], by rw [ht]; exact hP9, va_K.moved hW.alike hK, hD9⟩, hS.F ht⟩) hS.2.2 dc_I_isReleasable_49
    · have h2 : rS &&& (bt j) = 0 := lc_0.mp hc
      refine lv_aload_n hx hb dc_I_isReleasable_24 rfl (lv_at hl 0 rfl) ?_
      refine va_get (D := (dC, dI)) (ci := 0) (v := .ref i4) (C := cn_I) (T := ft_I) (N := 8) hx hb htb ki_I hown hK hP 0 rfl rfl 3 (by decide) (htb _ kw_77) (fun _ h9 => h9) rfl dc_I_isReleasable_25 ?_
      refine lv_iload_n hx hb dc_I_isReleasable_28 rfl (lv_at hl 1 rfl) ?_
      refine wa_lld (k := j) hx hb hK hP 2 1 rfl rfl (by omega) (by omega) dc_I_isReleasable_29 ?_
      refine lv_aload_n hx hb dc_I_isReleasable_30 rfl (lv_at hl 0 rfl) ?_
      refine va_get (D := (dC, dI)) (ci := 0) (v := .long sS) (C := cn_I) (T := ft_I) (N := 8) hx hb htb ki_I hown hK hP 0 rfl rfl 5 (by decide) (htb _ kw_81) (fun _ h9 => h9) rfl dc_I_isReleasable_31 ?_
      refine lv_ldc2 (v := -1) hx hb hown (htb _ kw_318) dc_I_isReleasable_34 ?_
      refine lv_lxor hx hb dc_I_isReleasable_37 ?_
      refine lv_land hx hb dc_I_isReleasable_38 ?_
      refine lv_lconst (v := 0) hx hb dc_I_isReleasable_39 rfl ?_
      refine W.lcmp hx hb dc_I_isReleasable_40 ?_
      refine lv_if_ne (tgt := 48) hx hb dc_I_isReleasable_41 (by decide) (fun hc => ?_) (fun hc => ?_)
      · have h3 : ¬ (dp j) &&& (sS ^^^ (-1)) = 0 := fun h9 => hc (lc_0.mpr h9)
        refine lv_iconst (v := nI 0) hx hb dc_I_isReleasable_48 (by decide) ?_
        have hP9 := hP.sub (ws' := [zI i0 i1 i2 i3 i4 cn sS lS rS, (i1, .inl (cI, 40, .inl sv)), (i4, .inl (cJ, 40, .inr (.inl dp)))]) [0, 1, 2] rfl
        have hD9 := hD.sub (ws' := [zI i0 i1 i2 i3 i4 cn sS lS rS, (i1, .inl (cI, 40, .inl sv)), (i4, .inl (cJ, 40, .inr (.inl dp)))]) [0, 1, 2] (by decide) rfl
        exact W.zret (v := nI 0) (ty := .boolean) hx hb hr (rfl) (fun t ht hW => ⟨⟨_, (), rfl, by simp [rl_B, bI, nI_0, nI_o, -Int64.xor_neg_one, *], by rw [ht]; exact hP9, va_K.moved hW.alike hK, hD9⟩, hS.F ht⟩) hS.2.2 dc_I_isReleasable_49
      · have h3 : (dp j) &&& (sS ^^^ (-1)) = 0 := lc_0.mp hc
        refine lv_iconst (v := nI 1) hx hb dc_I_isReleasable_44 (by decide) ?_
        refine lv_goto (tgt := 49) hx hb dc_I_isReleasable_45 (by decide) ?_
        have hP9 := hP.sub (ws' := [zI i0 i1 i2 i3 i4 cn sS lS rS, (i1, .inl (cI, 40, .inl sv)), (i4, .inl (cJ, 40, .inr (.inl dp)))]) [0, 1, 2] rfl
        have hD9 := hD.sub (ws' := [zI i0 i1 i2 i3 i4 cn sS lS rS, (i1, .inl (cI, 40, .inl sv)), (i4, .inl (cJ, 40, .inr (.inl dp)))]) [0, 1, 2] (by decide) rfl
        exact W.zret (v := nI 1) (ty := .boolean) hx hb hr (rfl) (fun t ht hW => ⟨⟨_, (), rfl, by simp [rl_B, bI, nI_0, nI_o, -Int64.xor_neg_one, *], by rw [ht]; exact hP9, va_K.moved hW.alike hK, hD9⟩, hS.F ht⟩) hS.2.2 dc_I_isReleasable_49

set_option maxHeartbeats 4000000 in
set_option maxRecDepth 100000 in
/-- clear() -/
theorem oc_M_clear (l : Launch) (dC : Nat → ClassId) (dI : Nat → Nat → Nat) (cI cJ cZ cP : ClassId) (sz : Nat) (m0 : Nat) (m1 : Nat) (m2 : Nat) (m3 : Nat) (m4 : Nat) (m5 : Nat) (mn : Nat) (mi : Nat)  : mt_V l mn_M_clear bc_M_clear 1 none ({ frames := 0, cells := 0, slots := 0, locals := 0 }) (dC, dI) (TYS cI cJ cZ cP) sz [.ref m0] [zM m0 m1 m2 m3 m4 m5 mn mi] [zM m0 m1 m2 m3 m4 m5 0 0] 0 0 := by
  unfold mt_V
  refine Met.ofW (cc := bc_M_clear) (maxL := 1) (ret := none) (by decide) rfl ?_
  intro p e s m args below meth c s₁ B hml hv
  obtain ⟨rfl, hsz, hP, hK, hD0⟩ := hv
  have hx := B.exec
  have hb := B.bytes
  have hr := B.returns
  have hts := atoms_spec (ws := wsT mn_M_clear bc_M_clear 1 none) B.pre
  have htb : ∀ w ∈ gtbl, w.before _ s = true := fun w h => hts w (List.mem_cons_of_mem _ h)
  have hown : s.vm.findClass cn_M = some m.cls := findClass_of_methodNamed B.named
  have hlocks := B.notSynchronized
  subst hsz
  have hD := hD0.self (sz := s.heap.size)
  generalize hAe : va_A [zM m0 m1 m2 m3 m4 m5 mn mi] s.heap.size = A at hD ⊢
  have hA : ∀ q : Nat, s.heap.size ≤ q → A q := fun q h => by rw [← hAe]; exact Or.inr h
  have hS : va_S A s.heap s.heap [] := va_S.rf
  have hP : va_P (dC, dI) clsL [zM m0 m1 m2 m3 m4 m5 mn mi] s.heap := hP
  have hl := lv_entry ([.ref m0]) (n := 1) (Nat.le_of_ble_eq_true rfl)
  rw [lg_entry_eq]
  generalize (lg_sl ([.ref m0]) ++ List.replicate (1 - (lg_sl ([.ref m0])).length) Slot.unset).toArray = ls at hl ⊢
  have hl : lv_has ls 1 [(0, .ref m0)] := hl
  refine lv_aload_n hx hb dc_M_clear_0 rfl (lv_at hl 0 rfl) ?_
  refine lv_iconst (v := nI 0) hx hb dc_M_clear_1 (by decide) ?_
  refine va_put (D := (dC, dI)) (ci := 1) (v := .int (nI 0)) (ty := .int) (C := cn_M) (T := ft_M) (N := 7) hx hb htb ki_M fy_M fy_M_ok nm_M_d hown hK hP hD hS 0 rfl rfl 5 (by decide) (htb _ kw_121) (fun _ h9 => h9) rfl (by decide +kernel) rfl rfl (Nat.le_of_ble_eq_true rfl) dc_M_clear_2 (fun H locs hP hD hS => ?_)
  have hP : va_P (dC, dI) clsL [zM m0 m1 m2 m3 m4 m5 0 mi] H := hP
  have hD : va_D A [zM m0 m1 m2 m3 m4 m5 0 mi] := hD
  refine lv_aload_n hx hb dc_M_clear_5 rfl (lv_at hl 0 rfl) ?_
  refine lv_iconst (v := nI 0) hx hb dc_M_clear_6 (by decide) ?_
  refine va_put (D := (dC, dI)) (ci := 1) (v := .int (nI 0)) (ty := .int) (C := cn_M) (T := ft_M) (N := 7) hx hb htb ki_M fy_M fy_M_ok nm_M_d hown hK hP hD hS 0 rfl rfl 6 (by decide) (htb _ kw_122) (fun _ h9 => h9) rfl (by decide +kernel) rfl rfl (Nat.le_of_ble_eq_true rfl) dc_M_clear_7 (fun H locs hP hD hS => ?_)
  have hP : va_P (dC, dI) clsL [zM m0 m1 m2 m3 m4 m5 0 0] H := hP
  have hD : va_D A [zM m0 m1 m2 m3 m4 m5 0 0] := hD
  have hP9 := hP.sub (ws' := [zM m0 m1 m2 m3 m4 m5 0 0]) [0] rfl
  have hD9 := hD.sub (ws' := [zM m0 m1 m2 m3 m4 m5 0 0]) [0] (by decide) rfl
  exact W.vret hx hb hr (fun t ht hW => ⟨⟨(), rfl, trivial, by rw [ht]; exact hP9, va_K.moved hW.alike hK, hD9⟩, hS.F ht⟩) hS.2.2 dc_M_clear_10

set_option maxHeartbeats 4000000 in
set_option maxRecDepth 100000 in
/-- make(v, t, u, w) -/
theorem oc_M_make (l : Launch) (dC : Nat → ClassId) (dI : Nat → Nat → Nat) (cI cJ cZ cP : ClassId) (sz : Nat) (m0 : Nat) (m1 : Nat) (m2 : Nat) (m3 : Nat) (m4 : Nat) (m5 : Nat) (mn : Nat) (mi : Nat) (vs : Nat → Int32) (tg : Nat → Nat) (sr : Nat → Option Nat) (kn : Nat → Nat) (su : Nat → Nat) (v : Int32) (t : Nat) (u : Option Nat) (w : Nat) (hn : mn < 104) : mt_I l mn_M_make bc_M_make 6 (some .int) ({ frames := 0, cells := 0, slots := 0, locals := 0 }) (dC, dI) (TYS cI cJ cZ cP) sz [.ref m0, .int v, .int (nI t), .int (oI u), .int (nI w)] [zM m0 m1 m2 m3 m4 m5 mn mi, (m1, .inl (cI, 104, .inl vs)), (m2, .inl (cI, 104, .inl (nF tg))), (m3, .inl (cI, 104, .inl (oF sr))), (m4, .inl (cI, 104, .inl (nF kn))), (m5, .inl (cI, 104, .inl (nF su)))] [zM m0 m1 m2 m3 m4 m5 (mn + 1) mi, (m1, .inl (cI, 104, .inl (va_up vs mn v))), (m2, .inl (cI, 104, .inl (nF (va_up tg mn t)))), (m3, .inl (cI, 104, .inl (oF (va_up sr mn u)))), (m4, .inl (cI, 104, .inl (nF (va_up kn mn w)))), (m5, .inl (cI, 104, .inl (nF (va_up su mn 0))))] (nI mn) 0 0 := by
  unfold mt_I
  refine Met.ofW (cc := bc_M_make) (maxL := 6) (ret := (some .int)) (by decide) rfl ?_
  intro p e s m args below meth c s₁ B hml hv
  obtain ⟨rfl, hsz, hP, hK, hD0⟩ := hv
  have hx := B.exec
  have hb := B.bytes
  have hr := B.returns
  have hts := atoms_spec (ws := wsT mn_M_make bc_M_make 6 (some .int)) B.pre
  have htb : ∀ w ∈ gtbl, w.before _ s = true := fun w h => hts w (List.mem_cons_of_mem _ h)
  have hown : s.vm.findClass cn_M = some m.cls := findClass_of_methodNamed B.named
  have hlocks := B.notSynchronized
  subst hsz
  have hD := hD0.self (sz := s.heap.size)
  generalize hAe : va_A [zM m0 m1 m2 m3 m4 m5 mn mi, (m1, .inl (cI, 104, .inl vs)), (m2, .inl (cI, 104, .inl (nF tg))), (m3, .inl (cI, 104, .inl (oF sr))), (m4, .inl (cI, 104, .inl (nF kn))), (m5, .inl (cI, 104, .inl (nF su)))] s.heap.size = A at hD ⊢
  have hA : ∀ q : Nat, s.heap.size ≤ q → A q := fun q h => by rw [← hAe]; exact Or.inr h
  have hS : va_S A s.heap s.heap [] := va_S.rf
  have hP : va_P (dC, dI) clsL [zM m0 m1 m2 m3 m4 m5 mn mi, (m1, .inl (cI, 104, .inl vs)), (m2, .inl (cI, 104, .inl (nF tg))), (m3, .inl (cI, 104, .inl (oF sr))), (m4, .inl (cI, 104, .inl (nF kn))), (m5, .inl (cI, 104, .inl (nF su)))] s.heap := hP
  have hl := lv_entry ([.ref m0, .int v, .int (nI t), .int (oI u), .int (nI w)]) (n := 6) (Nat.le_of_ble_eq_true rfl)
  rw [lg_entry_eq]
  generalize (lg_sl ([.ref m0, .int v, .int (nI t), .int (oI u), .int (nI w)]) ++ List.replicate (6 - (lg_sl ([.ref m0, .int v, .int (nI t), .int (oI u), .int (nI w)])).length) Slot.unset).toArray = ls at hl ⊢
  have hl : lv_has ls 6 [(0, .ref m0), (1, .int v), (2, .int (nI t)), (3, .int (oI u)), (4, .int (nI w))] := hl
  refine lv_aload_n hx hb dc_M_make_0 rfl (lv_at hl 0 rfl) ?_
  refine va_get (D := (dC, dI)) (ci := 1) (v := .int (nI mn)) (C := cn_M) (T := ft_M) (N := 7) hx hb htb ki_M hown hK hP 0 rfl rfl 5 (by decide) (htb _ kw_121) (fun _ h9 => h9) rfl dc_M_make_1 ?_
  refine lv_istore (lv' := [(5, .int (nI mn)), (0, .ref m0), (1, .int v), (2, .int (nI t)), (3, .int (oI u)), (4, .int (nI w))]) hx hb dc_M_make_4 hl (by decide) rfl (fun ls hl => ?_)
  refine lv_aload_n hx hb dc_M_make_6 rfl (lv_at hl 1 rfl) ?_
  refine lv_dup hx hb dc_M_make_7 rfl ?_
  refine va_get (D := (dC, dI)) (ci := 1) (v := .int (nI mn)) (C := cn_M) (T := ft_M) (N := 7) hx hb htb ki_M hown hK hP 0 rfl rfl 5 (by decide) (htb _ kw_121) (fun _ h9 => h9) rfl dc_M_make_8 ?_
  refine lv_iconst (v := nI 1) hx hb dc_M_make_11 (by decide) ?_
  refine lv_iadd hx hb dc_M_make_12 ?_
  refine tp_i (y := nI (mn + 1)) (nI_add _ _) ?_
  refine va_put (D := (dC, dI)) (ci := 1) (v := .int (nI (mn + 1))) (ty := .int) (C := cn_M) (T := ft_M) (N := 7) hx hb htb ki_M fy_M fy_M_ok nm_M_d hown hK hP hD hS 0 rfl rfl 5 (by decide) (htb _ kw_121) (fun _ h9 => h9) rfl (by decide +kernel) rfl rfl (Nat.le_of_ble_eq_true rfl) dc_M_make_13 (fun H locs hP hD hS => ?_)
  have hP : va_P (dC, dI) clsL [zM m0 m1 m2 m3 m4 m5 (mn + 1) mi, (m1, .inl (cI, 104, .inl vs)), (m2, .inl (cI, 104, .inl (nF tg))), (m3, .inl (cI, 104, .inl (oF sr))), (m4, .inl (cI, 104, .inl (nF kn))), (m5, .inl (cI, 104, .inl (nF su)))] H := hP
  have hD : va_D A [zM m0 m1 m2 m3 m4 m5 (mn + 1) mi, (m1, .inl (cI, 104, .inl vs)), (m2, .inl (cI, 104, .inl (nF tg))), (m3, .inl (cI, 104, .inl (oF sr))), (m4, .inl (cI, 104, .inl (nF kn))), (m5, .inl (cI, 104, .inl (nF su)))] := hD
  refine lv_aload_n hx hb dc_M_make_16 rfl (lv_at hl 1 rfl) ?_
  refine va_get (D := (dC, dI)) (ci := 1) (v := .ref m1) (C := cn_M) (T := ft_M) (N := 7) hx hb htb ki_M hown hK hP 0 rfl rfl 0 (by decide) (htb _ kw_111) (fun _ h9 => h9) rfl dc_M_make_17 ?_
  refine lv_iload hx hb dc_M_make_20 (lv_at hl 0 rfl) ?_
  refine lv_iload_n hx hb dc_M_make_22 rfl (lv_at hl 2 rfl) ?_
  refine wa_ist (k := mn) (x := v) hx hb hK hP hD hS 1 0 rfl rfl (by omega) (by omega) dc_M_make_23 (fun H locs hP hD hS => ?_)
  have hP : va_P (dC, dI) clsL [zM m0 m1 m2 m3 m4 m5 (mn + 1) mi, (m1, .inl (cI, 104, .inl (va_up vs mn v))), (m2, .inl (cI, 104, .inl (nF tg))), (m3, .inl (cI, 104, .inl (oF sr))), (m4, .inl (cI, 104, .inl (nF kn))), (m5, .inl (cI, 104, .inl (nF su)))] H := hP
  have hD : va_D A [zM m0 m1 m2 m3 m4 m5 (mn + 1) mi, (m1, .inl (cI, 104, .inl (va_up vs mn v))), (m2, .inl (cI, 104, .inl (nF tg))), (m3, .inl (cI, 104, .inl (oF sr))), (m4, .inl (cI, 104, .inl (nF kn))), (m5, .inl (cI, 104, .inl (nF su)))] := hD
  refine lv_aload_n hx hb dc_M_make_24 rfl (lv_at hl 1 rfl) ?_
  refine va_get (D := (dC, dI)) (ci := 1) (v := .ref m2) (C := cn_M) (T := ft_M) (N := 7) hx hb htb ki_M hown hK hP 0 rfl rfl 1 (by decide) (htb _ kw_113) (fun _ h9 => h9) rfl dc_M_make_25 ?_
  refine lv_iload hx hb dc_M_make_28 (lv_at hl 0 rfl) ?_
  refine lv_iload_n hx hb dc_M_make_30 rfl (lv_at hl 3 rfl) ?_
  refine wa_nst (k := mn) (x := t) hx hb hK hP hD hS 2 0 rfl rfl (by omega) (by omega) dc_M_make_31 (fun H locs hP hD hS => ?_)
  have hP : va_P (dC, dI) clsL [zM m0 m1 m2 m3 m4 m5 (mn + 1) mi, (m1, .inl (cI, 104, .inl (va_up vs mn v))), (m2, .inl (cI, 104, .inl (nF (va_up tg mn t)))), (m3, .inl (cI, 104, .inl (oF sr))), (m4, .inl (cI, 104, .inl (nF kn))), (m5, .inl (cI, 104, .inl (nF su)))] H := hP
  have hD : va_D A [zM m0 m1 m2 m3 m4 m5 (mn + 1) mi, (m1, .inl (cI, 104, .inl (va_up vs mn v))), (m2, .inl (cI, 104, .inl (nF (va_up tg mn t)))), (m3, .inl (cI, 104, .inl (oF sr))), (m4, .inl (cI, 104, .inl (nF kn))), (m5, .inl (cI, 104, .inl (nF su)))] := hD
  refine lv_aload_n hx hb dc_M_make_32 rfl (lv_at hl 1 rfl) ?_
  refine va_get (D := (dC, dI)) (ci := 1) (v := .ref m3) (C := cn_M) (T := ft_M) (N := 7) hx hb htb ki_M hown hK hP 0 rfl rfl 2 (by decide) (htb _ kw_115) (fun _ h9 => h9) rfl dc_M_make_33 ?_
  refine lv_iload hx hb dc_M_make_36 (lv_at hl 0 rfl) ?_
  refine lv_iload_n hx hb dc_M_make_38 rfl (lv_at hl 4 rfl) ?_
  refine wa_ost (k := mn) (x := u) hx hb hK hP hD hS 3 0 rfl rfl (by omega) (by omega) dc_M_make_39 (fun H locs hP hD hS => ?_)
  have hP : va_P (dC, dI) clsL [zM m0 m1 m2 m3 m4 m5 (mn + 1) mi, (m1, .inl (cI, 104, .inl (va_up vs mn v))), (m2, .inl (cI, 104, .inl (nF (va_up tg mn t)))), (m3, .inl (cI, 104, .inl (oF (va_up sr mn u)))), (m4, .inl (cI, 104, .inl (nF kn))), (m5, .inl (cI, 104, .inl (nF su)))] H := hP
  have hD : va_D A [zM m0 m1 m2 m3 m4 m5 (mn + 1) mi, (m1, .inl (cI, 104, .inl (va_up vs mn v))), (m2, .inl (cI, 104, .inl (nF (va_up tg mn t)))), (m3, .inl (cI, 104, .inl (oF (va_up sr mn u)))), (m4, .inl (cI, 104, .inl (nF kn))), (m5, .inl (cI, 104, .inl (nF su)))] := hD
  refine lv_aload_n hx hb dc_M_make_40 rfl (lv_at hl 1 rfl) ?_
  refine va_get (D := (dC, dI)) (ci := 1) (v := .ref m4) (C := cn_M) (T := ft_M) (N := 7) hx hb htb ki_M hown hK hP 0 rfl rfl 3 (by decide) (htb _ kw_117) (fun _ h9 => h9) rfl dc_M_make_41 ?_
  refine lv_iload hx hb dc_M_make_44 (lv_at hl 0 rfl) ?_
  refine lv_iload hx hb dc_M_make_46 (lv_at hl 5 rfl) ?_
  refine wa_nst (k := mn) (x := w) hx hb hK hP hD hS 4 0 rfl rfl (by omega) (by omega) dc_M_make_48 (fun H locs hP hD hS => ?_)
  have hP : va_P (dC, dI) clsL [zM m0 m1 m2 m3 m4 m5 (mn + 1) mi, (m1, .inl (cI, 104, .inl (va_up vs mn v))), (m2, .inl (cI, 104, .inl (nF (va_up tg mn t)))), (m3, .inl (cI, 104, .inl (oF (va_up sr mn u)))), (m4, .inl (cI, 104, .inl (nF (va_up kn mn w)))), (m5, .inl (cI, 104, .inl (nF su)))] H := hP
  have hD : va_D A [zM m0 m1 m2 m3 m4 m5 (mn + 1) mi, (m1, .inl (cI, 104, .inl (va_up vs mn v))), (m2, .inl (cI, 104, .inl (nF (va_up tg mn t)))), (m3, .inl (cI, 104, .inl (oF (va_up sr mn u)))), (m4, .inl (cI, 104, .inl (nF (va_up kn mn w)))), (m5, .inl (cI, 104, .inl (nF su)))] := hD
  refine lv_aload_n hx hb dc_M_make_49 rfl (lv_at hl 1 rfl) ?_
  refine va_get (D := (dC, dI)) (ci := 1) (v := .ref m5) (C := cn_M) (T := ft_M) (N := 7) hx hb htb ki_M hown hK hP 0 rfl rfl 4 (by decide) (htb _ kw_119) (fun _ h9 => h9) rfl dc_M_make_50 ?_
  refine lv_iload hx hb dc_M_make_53 (lv_at hl 0 rfl) ?_
  refine lv_iconst (v := nI 0) hx hb dc_M_make_55 (by decide) ?_
  refine wa_nst (k := mn) (x := 0) hx hb hK hP hD hS 5 0 rfl rfl (by omega) (by omega) dc_M_make_56 (fun H locs hP hD hS => ?_)
  have hP : va_P (dC, dI) clsL [zM m0 m1 m2 m3 m4 m5 (mn + 1) mi, (m1, .inl (cI, 104, .inl (va_up vs mn v))), (m2, .inl (cI, 104, .inl (nF (va_up tg mn t)))), (m3, .inl (cI, 104, .inl (oF (va_up sr mn u)))), (m4, .inl (cI, 104, .inl (nF (va_up kn mn w)))), (m5, .inl (cI, 104, .inl (nF (va_up su mn 0))))] H := hP
  have hD : va_D A [zM m0 m1 m2 m3 m4 m5 (mn + 1) mi, (m1, .inl (cI, 104, .inl (va_up vs mn v))), (m2, .inl (cI, 104, .inl (nF (va_up tg mn t)))), (m3, .inl (cI, 104, .inl (oF (va_up sr mn u)))), (m4, .inl (cI, 104, .inl (nF (va_up kn mn w)))), (m5, .inl (cI, 104, .inl (nF (va_up su mn 0))))] := hD
  refine lv_iload hx hb dc_M_make_57 (lv_at hl 0 rfl) ?_
  have hP9 := hP.sub (ws' := [zM m0 m1 m2 m3 m4 m5 (mn + 1) mi, (m1, .inl (cI, 104, .inl (va_up vs mn v))), (m2, .inl (cI, 104, .inl (nF (va_up tg mn t)))), (m3, .inl (cI, 104, .inl (oF (va_up sr mn u)))), (m4, .inl (cI, 104, .inl (nF (va_up kn mn w)))), (m5, .inl (cI, 104, .inl (nF (va_up su mn 0))))]) [0, 1, 2, 3, 4, 5] rfl
  have hD9 := hD.sub (ws' := [zM m0 m1 m2 m3 m4 m5 (mn + 1) mi, (m1, .inl (cI, 104, .inl (va_up vs mn v))), (m2, .inl (cI, 104, .inl (nF (va_up tg mn t)))), (m3, .inl (cI, 104, .inl (oF (va_up sr mn u)))), (m4, .inl (cI, 104, .inl (nF (va_up kn mn w)))), (m5, .inl (cI, 104, .inl (nF (va_up su mn 0))))]) [0, 1, 2, 3, 4, 5] (by decide) rfl
  exact W.iret (v := nI mn) hx hb hr (fun t ht hW => ⟨⟨_, (), rfl, rfl, by rw [ht]; exact hP9, va_K.moved hW.alike hK, hD9⟩, hS.F ht⟩) hS.2.2 dc_M_make_59

set_option maxHeartbeats 4000000 in
set_option maxRecDepth 100000 in
/-- isMade of no message -/
theorem oc_M_isMade_no (l : Launch) (dC : Nat → ClassId) (dI : Nat → Nat → Nat) (cI cJ cZ cP : ClassId) (sz : Nat) (m0 : Nat) (m1 : Nat) (m2 : Nat) (m3 : Nat) (m4 : Nat) (m5 : Nat) (mn : Nat) (mi : Nat) (y : Int32) (hy : y < 0 ∨ nI mn ≤ y) : mt_I l mn_M_isMade bc_M_isMade 2 (some .boolean) ({ frames := 0, cells := 0, slots := 0, locals := 0 }) (dC, dI) (TYS cI cJ cZ cP) sz [.ref m0, .int y] [zM m0 m1 m2 m3 m4 m5 mn mi] [zM m0 m1 m2 m3 m4 m5 mn mi] (bI false) 0 0 := by
  unfold mt_I
  refine Met.ofW (cc := bc_M_isMade) (maxL := 2) (ret := (some .boolean)) (by decide) rfl ?_
  intro p e s m args below meth c s₁ B hml hv
  obtain ⟨rfl, hsz, hP, hK, hD0⟩ := hv
  have hx := B.exec
  have hb := B.bytes
  have hr := B.returns
  have hts := atoms_spec (ws := wsT mn_M_isMade bc_M_isMade 2 (some .boolean)) B.pre
  have htb : ∀ w ∈ gtbl, w.before _ s = true := fun w h => hts w (List.mem_cons_of_mem _ h)
  have hown : s.vm.findClass cn_M = some m.cls := findClass_of_methodNamed B.named
  have hlocks := B.notSynchronized
  subst hsz
  have hD := hD0.self (sz := s.heap.size)
  generalize hAe : va_A [zM m0 m1 m2 m3 m4 m5 mn mi] s.heap.size = A at hD ⊢
  have hA : ∀ q : Nat, s.heap.size ≤ q → A q := fun q h => by rw [← hAe]; exact Or.inr h
  have hS : va_S A s.heap s.heap [] := va_S.rf
  have hP : va_P (dC, dI) clsL [zM m0 m1 m2 m3 m4 m5 mn mi] s.heap := hP
  have hl := lv_entry ([.ref m0, .int y]) (n := 2) (Nat.le_of_ble_eq_true rfl)
  rw [lg_entry_eq]
  generalize (lg_sl ([.ref m0, .int y]) ++ List.replicate (2 - (lg_sl ([.ref m0, .int y])).length) Slot.unset).toArray = ls at hl ⊢
  have hl : lv_has ls 2 [(0, .ref m0), (1, .int y)] := hl
  refine lv_iload_n hx hb dc_M_isMade_0 rfl (lv_at hl 1 rfl) ?_
  refine lv_if_lt (tgt := 16) hx hb dc_M_isMade_1 (by decide) (fun hc => ?_) (fun hc => ?_)
  · have h1 := hc
    refine lv_iconst (v := nI 0) hx hb dc_M_isMade_16 (by decide) ?_
    have hP9 := hP.sub (ws' := [zM m0 m1 m2 m3 m4 m5 mn mi]) [0] rfl
    have hD9 := hD.sub (ws' := [zM m0 m1 m2 m3 m4 m5 mn mi]) [0] (by decide) rfl
    exact W.zret (v := nI 0) (ty := .boolean) hx hb hr (rfl) (fun t ht hW => ⟨⟨_, (), rfl, rfl, by rw [ht]; exact hP9, va_K.moved hW.alike hK, hD9⟩, hS.F ht⟩) hS.2.2 dc_M_isMade_17
  · have h1 := hc
    refine lv_iload_n hx hb dc_M_isMade_4 rfl (lv_at hl 1 rfl) ?_
    refine lv_aload_n hx hb dc_M_isMade_5 rfl (lv_at hl 0 rfl) ?_
    refine va_get (D := (dC, dI)) (ci := 1) (v := .int (nI mn)) (C := cn_M) (T := ft_M) (N := 7) hx hb htb ki_M hown hK hP 0 rfl rfl 5 (by decide) (htb _ kw_121) (fun _ h9 => h9) rfl dc_M_isMade_6 ?_
    refine lv_icmp_ge (tgt := 16) hx hb dc_M_isMade_9 (by decide) (fun hc => ?_) (fun hc => ?_)
    rotate_left
    · have h2 := hc
      exact absurd hy (fun q => q.elim h1 h2)
    have h2 := hc
    refine lv_iconst (v := nI 0) hx hb dc_M_isMade_16 (by decide) ?_
    have hP9 := hP.sub (ws' := [zM m0 m1 m2 m3 m4 m5 mn mi]) [0] rfl
    have hD9 := hD.sub (ws' := [zM m0 m1 m2 m3 m4 m5 mn mi]) [0] (by decide) rfl
    exact W.zret (v := nI 0) (ty := .boolean) hx hb hr (rfl) (fun t ht hW => ⟨⟨_, (), rfl, rfl, by rw [ht]; exact hP9, va_K.moved hW.alike hK, hD9⟩, hS.F ht⟩) hS.2.2 dc_M_isMade_17

set_option maxHeartbeats 4000000 in
set_option maxRecDepth 100000 in
/-- isMade of a message -/
theorem oc_M_isMade_yes (l : Launch) (dC : Nat → ClassId) (dI : Nat → Nat → Nat) (cI cJ cZ cP : ClassId) (sz : Nat) (m0 : Nat) (m1 : Nat) (m2 : Nat) (m3 : Nat) (m4 : Nat) (m5 : Nat) (mn : Nat) (mi : Nat) (j : Nat) (hj : j < mn) (hn : mn ≤ 104) : mt_I l mn_M_isMade bc_M_isMade 2 (some .boolean) ({ frames := 0, cells := 0, slots := 0, locals := 0 }) (dC, dI) (TYS cI cJ cZ cP) sz [.ref m0, .int (nI j)] [zM m0 m1 m2 m3 m4 m5 mn mi] [zM m0 m1 m2 m3 m4 m5 mn mi] (bI true) 0 0 := by
  unfold mt_I
  refine Met.ofW (cc := bc_M_isMade) (maxL := 2) (ret := (some .boolean)) (by decide) rfl ?_
  intro p e s m args below meth c s₁ B hml hv
  obtain ⟨rfl, hsz, hP, hK, hD0⟩ := hv
  have hx := B.exec
  have hb := B.bytes
  have hr := B.returns
  have hts := atoms_spec (ws := wsT mn_M_isMade bc_M_isMade 2 (some .boolean)) B.pre
  have htb : ∀ w ∈ gtbl, w.before _ s = true := fun w h => hts w (List.mem_cons_of_mem _ h)
  have hown : s.vm.findClass cn_M = some m.cls := findClass_of_methodNamed B.named
  have hlocks := B.notSynchronized
  subst hsz
  have hD := hD0.self (sz := s.heap.size)
  generalize hAe : va_A [zM m0 m1 m2 m3 m4 m5 mn mi] s.heap.size = A at hD ⊢
  have hA : ∀ q : Nat, s.heap.size ≤ q → A q := fun q h => by rw [← hAe]; exact Or.inr h
  have hS : va_S A s.heap s.heap [] := va_S.rf
  have hP : va_P (dC, dI) clsL [zM m0 m1 m2 m3 m4 m5 mn mi] s.heap := hP
  have hl := lv_entry ([.ref m0, .int (nI j)]) (n := 2) (Nat.le_of_ble_eq_true rfl)
  rw [lg_entry_eq]
  generalize (lg_sl ([.ref m0, .int (nI j)]) ++ List.replicate (2 - (lg_sl ([.ref m0, .int (nI j)])).length) Slot.unset).toArray = ls at hl ⊢
  have hl : lv_has ls 2 [(0, .ref m0), (1, .int (nI j))] := hl
  refine lv_iload_n hx hb dc_M_isMade_0 rfl (lv_at hl 1 rfl) ?_
  refine lv_if_lt (tgt := 16) hx hb dc_M_isMade_1 (by decide) (fun hc => ?_) (fun hc => ?_)
  · have h1 : False := nI_pos (by omega) hc
    exact h1.elim
  have h1 : 0 ≤ j := Nat.zero_le _
  refine lv_iload_n hx hb dc_M_isMade_4 rfl (lv_at hl 1 rfl) ?_
  refine lv_aload_n hx hb dc_M_isMade_5 rfl (lv_at hl 0 rfl) ?_
  refine va_get (D := (dC, dI)) (ci := 1) (v := .int (nI mn)) (C := cn_M) (T := ft_M) (N := 7) hx hb htb ki_M hown hK hP 0 rfl rfl 5 (by decide) (htb _ kw_121) (fun _ h9 => h9) rfl dc_M_isMade_6 ?_
  refine lv_icmp_ge (tgt := 16) hx hb dc_M_isMade_9 (by decide) (fun hc => ?_) (fun hc => ?_)
  · have h2 : mn ≤ j := (nI_leI (by omega) (by omega)).mp hc
    exact absurd h2 (by omega)
  have h2 : j < mn := Nat.lt_of_not_le (fun h9 => hc ((nI_leI (by omega) (by omega)).mpr h9))
  refine lv_iconst (v := nI 1) hx hb dc_M_isMade_12 (by decide) ?_
  refine lv_goto (tgt := 17) hx hb dc_M_isMade_13 (by decide) ?_
  have hP9 := hP.sub (ws' := [zM m0 m1 m2 m3 m4 m5 mn mi]) [0] rfl
  have hD9 := hD.sub (ws' := [zM m0 m1 m2 m3 m4 m5 mn mi]) [0] (by decide) rfl
  exact W.zret (v := nI 1) (ty := .boolean) hx hb hr (rfl) (fun t ht hW => ⟨⟨_, (), rfl, rfl, by rw [ht]; exact hP9, va_K.moved hW.alike hK, hD9⟩, hS.F ht⟩) hS.2.2 dc_M_isMade_17

set_option maxHeartbeats 4000000 in
set_option maxRecDepth 100000 in
/-- isWaiting of no message -/
theorem oc_M_isWaiting_no (l : Launch) (dC : Nat → ClassId) (dI : Nat → Nat → Nat) (cI cJ cZ cP : ClassId) (sz : Nat) (m0 : Nat) (m1 : Nat) (m2 : Nat) (m3 : Nat) (m4 : Nat) (m5 : Nat) (mn : Nat) (mi : Nat) (su : Nat → Nat) (y : Int32) (hy : y < 0 ∨ nI mn ≤ y) : mt_I l mn_M_isWaiting bc_M_isWaiting 2 (some .boolean) ({ frames := 1, cells := 0, slots := 0, locals := 21 }) (dC, dI) (TYS cI cJ cZ cP) sz [.ref m0, .int y] [zM m0 m1 m2 m3 m4 m5 mn mi, (m5, .inl (cI, 104, .inl (nF su)))] [zM m0 m1 m2 m3 m4 m5 mn mi, (m5, .inl (cI, 104, .inl (nF su)))] (bI false) 0 0 := by
  unfold mt_I
  refine Met.ofW (cc := bc_M_isWaiting) (maxL := 2) (ret := (some .boolean)) (by decide) rfl ?_
  intro p e s m args below meth c s₁ B hml hv
  obtain ⟨rfl, hsz, hP, hK, hD0⟩ := hv
  have hx := B.exec
  have hb := B.bytes
  have hr := B.returns
  have hts := atoms_spec (ws := wsT mn_M_isWaiting bc_M_isWaiting 2 (some .boolean)) B.pre
  have htb : ∀ w ∈ gtbl, w.before _ s = true := fun w h => hts w (List.mem_cons_of_mem _ h)
  have hown : s.vm.findClass cn_M = some m.cls := findClass_of_methodNamed B.named
  have hlocks := B.notSynchronized
  subst hsz
  have hD := hD0.self (sz := s.heap.size)
  generalize hAe : va_A [zM m0 m1 m2 m3 m4 m5 mn mi, (m5, .inl (cI, 104, .inl (nF su)))] s.heap.size = A at hD ⊢
  have hA : ∀ q : Nat, s.heap.size ≤ q → A q := fun q h => by rw [← hAe]; exact Or.inr h
  have hS : va_S A s.heap s.heap [] := va_S.rf
  have hP : va_P (dC, dI) clsL [zM m0 m1 m2 m3 m4 m5 mn mi, (m5, .inl (cI, 104, .inl (nF su)))] s.heap := hP
  have hl := lv_entry ([.ref m0, .int y]) (n := 2) (Nat.le_of_ble_eq_true rfl)
  rw [lg_entry_eq]
  generalize (lg_sl ([.ref m0, .int y]) ++ List.replicate (2 - (lg_sl ([.ref m0, .int y])).length) Slot.unset).toArray = ls at hl ⊢
  have hl : lv_has ls 2 [(0, .ref m0), (1, .int y)] := hl
  refine lv_aload_n hx hb dc_M_isWaiting_0 rfl (lv_at hl 0 rfl) ?_
  refine lv_iload_n hx hb dc_M_isWaiting_1 rfl (lv_at hl 1 rfl) ?_
  refine cl_i (wc := [zM m0 m1 m2 m3 m4 m5 mn mi]) (wr := [(m5, .inl (cI, 104, .inl (nF su)))]) (w1 := [zM m0 m1 m2 m3 m4 m5 mn mi]) hP hD hS hA [0] [1] rfl rfl (by decide) (by decide) (va_runV (As := [.int y]) (rest := []) ⟨hx, hb, hml, hown, htb⟩ (oc_M_isMade_no l dC dI cI cJ cZ cP _ m0 m1 m2 m3 m4 m5 mn mi y (by first | assumption | omega)) (cwV 1 htb (gw_V kw_187 kw_188 kw_189 kw_4 kw_190) rfl rfl rfl (by decide +kernel) ⟨Nat.le_of_ble_eq_true rfl, Nat.le_of_ble_eq_true rfl⟩) (pr_V hP hK hD (va_recv hK hP (ci := 1) (q0 := 0) rfl rfl) [0] (by decide) rfl rfl) rfl rfl hl.1 rfl (lv_room (Nat.le_of_ble_eq_true rfl)) dc_M_isWaiting_2 ⟨Nat.le_of_ble_eq_true rfl, Nat.le_of_ble_eq_true rfl⟩) (fun H locs hP hD hS => ?_)
  have hP : va_P (dC, dI) clsL [zM m0 m1 m2 m3 m4 m5 mn mi, (m5, .inl (cI, 104, .inl (nF su)))] H := hP.sub (ws' := [zM m0 m1 m2 m3 m4 m5 mn mi, (m5, .inl (cI, 104, .inl (nF su)))]) [1, 0] rfl
  have hD : va_D A [zM m0 m1 m2 m3 m4 m5 mn mi, (m5, .inl (cI, 104, .inl (nF su)))] := hD.sub (ws' := [zM m0 m1 m2 m3 m4 m5 mn mi, (m5, .inl (cI, 104, .inl (nF su)))]) [1, 0] (by decide) rfl
  refine lv_if_eq (tgt := 21) hx hb dc_M_isWaiting_5 (by decide) (fun hc => ?_) (fun hc => ?_)
  rotate_left
  · have h1 : false = true := bI_n0.mp hc
    exact absurd h1 (by decide)
  have h1 : false = false := bI_0.mp hc
  refine lv_iconst (v := nI 0) hx hb dc_M_isWaiting_21 (by decide) ?_
  have hP9 := hP.sub (ws' := [zM m0 m1 m2 m3 m4 m5 mn mi, (m5, .inl (cI, 104, .inl (nF su)))]) [0, 1] rfl
  have hD9 := hD.sub (ws' := [zM m0 m1 m2 m3 m4 m5 mn mi, (m5, .inl (cI, 104, .inl (nF su)))]) [0, 1] (by decide) rfl
  exact W.zret (v := nI 0) (ty := .boolean) hx hb hr (rfl) (fun t ht hW => ⟨⟨_, (), rfl, rfl, by rw [ht]; exact hP9, va_K.moved hW.alike hK, hD9⟩, hS.F ht⟩) hS.2.2 dc_M_isWaiting_22

set_option maxHeartbeats 4000000 in
set_option maxRecDepth 100000 in
/-- isWaiting of a message -/
theorem oc_M_isWaiting (l : Launch) (dC : Nat → ClassId) (dI : Nat → Nat → Nat) (cI cJ cZ cP : ClassId) (sz : Nat) (m0 : Nat) (m1 : Nat) (m2 : Nat) (m3 : Nat) (m4 : Nat) (m5 : Nat) (mn : Nat) (mi : Nat) (su : Nat → Nat) (j : Nat) (hj : j < mn) (hn : mn ≤ 104) (hu : su j < 4) : mt_I l mn_M_isWaiting bc_M_isWaiting 2 (some .boolean) ({ frames := 1, cells := 0, slots := 0, locals := 21 }) (dC, dI) (TYS cI cJ cZ cP) sz [.ref m0, .int (nI j)] [zM m0 m1 m2 m3 m4 m5 mn mi, (m5, .inl (cI, 104, .inl (nF su)))] [zM m0 m1 m2 m3 m4 m5 mn mi, (m5, .inl (cI, 104, .inl (nF su)))] (bI (decide (su j = 0))) 0 0 := by
  unfold mt_I
  refine Met.ofW (cc := bc_M_isWaiting) (maxL := 2) (ret := (some .boolean)) (by decide) rfl ?_
  intro p e s m args below meth c s₁ B hml hv
  obtain ⟨rfl, hsz, hP, hK, hD0⟩ := hv
  have hx := B.exec
  have hb := B.bytes
  have hr := B.returns
  have hts := atoms_spec (ws := wsT mn_M_isWaiting bc_M_isWaiting 2 (some .boolean)) B.pre
  have htb : ∀ w ∈ gtbl, w.before _ s = true := fun w h => hts w (List.mem_cons_of_mem _ h)
  have hown : s.vm.findClass cn_M = some m.cls := findClass_of_methodNamed B.named
  have hlocks := B.notSynchronized
  subst hsz
  have hD := hD0.self (sz := s.heap.size)
  generalize hAe : va_A [zM m0 m1 m2 m3 m4 m5 mn mi, (m5, .inl (cI, 104, .inl (nF su)))] s.heap.size = A at hD ⊢
  have hA : ∀ q : Nat, s.heap.size ≤ q → A q := fun q h => by rw [← hAe]; exact Or.inr h
  have hS : va_S A s.heap s.heap [] := va_S.rf
  have hP : va_P (dC, dI) clsL [zM m0 m1 m2 m3 m4 m5 mn mi, (m5, .inl (cI, 104, .inl (nF su)))] s.heap := hP
  have hl := lv_entry ([.ref m0, .int (nI j)]) (n := 2) (Nat.le_of_ble_eq_true rfl)
  rw [lg_entry_eq]
  generalize (lg_sl ([.ref m0, .int (nI j)]) ++ List.replicate (2 - (lg_sl ([.ref m0, .int (nI j)])).length) Slot.unset).toArray = ls at hl ⊢
  have hl : lv_has ls 2 [(0, .ref m0), (1, .int (nI j))] := hl
  refine lv_aload_n hx hb dc_M_isWaiting_0 rfl (lv_at hl 0 rfl) ?_
  refine lv_iload_n hx hb dc_M_isWaiting_1 rfl (lv_at hl 1 rfl) ?_
  refine cl_i (wc := [zM m0 m1 m2 m3 m4 m5 mn mi]) (wr := [(m5, .inl (cI, 104, .inl (nF su)))]) (w1 := [zM m0 m1 m2 m3 m4 m5 mn mi]) hP hD hS hA [0] [1] rfl rfl (by decide) (by decide) (va_runV (As := [.int (nI j)]) (rest := []) ⟨hx, hb, hml, hown, htb⟩ (oc_M_isMade_yes l dC dI cI cJ cZ cP _ m0 m1 m2 m3 m4 m5 mn mi j (by first | assumption | omega) (by first | assumption | omega)) (cwV 1 htb (gw_V kw_187 kw_188 kw_189 kw_4 kw_190) rfl rfl rfl (by decide +kernel) ⟨Nat.le_of_ble_eq_true rfl, Nat.le_of_ble_eq_true rfl⟩) (pr_V hP hK hD (va_recv hK hP (ci := 1) (q0 := 0) rfl rfl) [0] (by decide) rfl rfl) rfl rfl hl.1 rfl (lv_room (Nat.le_of_ble_eq_true rfl)) dc_M_isWaiting_2 ⟨Nat.le_of_ble_eq_true rfl, Nat.le_of_ble_eq_true rfl⟩) (fun H locs hP hD hS => ?_)
  have hP : va_P (dC, dI) clsL [zM m0 m1 m2 m3 m4 m5 mn mi, (m5, .inl (cI, 104, .inl (nF su)))] H := hP.sub (ws' := [zM m0 m1 m2 m3 m4 m5 mn mi, (m5, .inl (cI, 104, .inl (nF su)))]) [1, 0] rfl
  have hD : va_D A [zM m0 m1 m2 m3 m4 m5 mn mi, (m5, .inl (cI, 104, .inl (nF su)))] := hD.sub (ws' := [zM m0 m1 m2 m3 m4 m5 mn mi, (m5, .inl (cI, 104, .inl (nF su)))]) [1, 0] (by decide) rfl
  refine lv_if_eq (tgt := 21) hx hb dc_M_isWaiting_5 (by decide) (fun hc => ?_) (fun hc => ?_)
  · have h1 : true = false := bI_0.mp hc
    exact absurd h1 (by decide)
  have h1 : true = true := bI_n0.mp hc
  refine lv_aload_n hx hb dc_M_isWaiting_8 rfl (lv_at hl 0 rfl) ?_
  refine va_get (D := (dC, dI)) (ci := 1) (v := .ref m5) (C := cn_M) (T := ft_M) (N := 7) hx hb htb ki_M hown hK hP 0 rfl rfl 4 (by decide) (htb _ kw_119) (fun _ h9 => h9) rfl dc_M_isWaiting_9 ?_
  refine lv_iload_n hx hb dc_M_isWaiting_12 rfl (lv_at hl 1 rfl) ?_
  refine wa_nld (k := j) hx hb hK hP 1 0 rfl rfl (by omega) (by omega) dc_M_isWaiting_13 ?_
  refine lv_if_ne (tgt := 21) hx hb dc_M_isWaiting_14 (by decide) (fun hc => ?_) (fun hc => ?_)
  · have h2 : ¬ (su j) = 0 := fun h9 => hc ((nI_eq (b := 0) (by omega) (by omega)).mpr h9)
    refine lv_iconst (v := nI 0) hx hb dc_M_isWaiting_21 (by decide) ?_
    have hP9 := hP.sub (ws' := [zM m0 m1 m2 m3 m4 m5 mn mi, (m5, .inl (cI, 104, .inl (nF su)))]) [0, 1] rfl
    have hD9 := hD.sub (ws' := [zM m0 m1 m2 m3 m4 m5 mn mi, (m5, .inl (cI, 104, .inl (nF su)))]) [0, 1] (by decide) rfl
    exact W.zret (v := nI 0) (ty := .boolean) hx hb hr (rfl) (fun t ht hW => ⟨⟨_, (), rfl, by simp [bI, h2, nI_0, nI_o], by rw [ht]; exact hP9, va_K.moved hW.alike hK, hD9⟩, hS.F ht⟩) hS.2.2 dc_M_isWaiting_22
  · have h2 : (su j) = 0 := (nI_eq (b := 0) (by omega) (by omega)).mp hc
    refine lv_iconst (v := nI 1) hx hb dc_M_isWaiting_17 (by decide) ?_
    refine lv_goto (tgt := 22) hx hb dc_M_isWaiting_18 (by decide) ?_
    have hP9 := hP.sub (ws' := [zM m0 m1 m2 m3 m4 m5 mn mi, (m5, .inl (cI, 104, .inl (nF su)))]) [0, 1] rfl
    have hD9 := hD.sub (ws' := [zM m0 m1 m2 m3 m4 m5 mn mi, (m5, .inl (cI, 104, .inl (nF su)))]) [0, 1] (by decide) rfl
    exact W.zret (v := nI 1) (ty := .boolean) hx hb hr (rfl) (fun t ht hW => ⟨⟨_, (), rfl, by simp [bI, h2, nI_0, nI_o], by rw [ht]; exact hP9, va_K.moved hW.alike hK, hD9⟩, hS.F ht⟩) hS.2.2 dc_M_isWaiting_22

set_option maxHeartbeats 4000000 in
set_option maxRecDepth 100000 in
/-- reviveFrom(st) -/
theorem oc_M_reviveFrom (l : Launch) (dC : Nat → ClassId) (dI : Nat → Nat → Nat) (cI cJ cZ cP : ClassId) (sz : Nat) (m0 : Nat) (m1 : Nat) (m2 : Nat) (m3 : Nat) (m4 : Nat) (m5 : Nat) (mn : Nat) (mi : Nat) (sr : Nat → Option Nat) (su : Nat → Nat) (st : Int64) (hn : mn ≤ 104) (hu : ∀ k, k < mn → su k < 4) : mt_I l mn_M_reviveFrom bc_M_reviveFrom 5 (some .int) ({ frames := 0, cells := 0, slots := 0, locals := 0 }) (dC, dI) (TYS cI cJ cZ cP) sz [.ref m0, .long st] [zM m0 m1 m2 m3 m4 m5 mn mi, (m3, .inl (cI, 104, .inl (oF sr))), (m5, .inl (cI, 104, .inl (nF su)))] [zM m0 m1 m2 m3 m4 m5 mn mi, (m3, .inl (cI, 104, .inl (oF sr))), (m5, .inl (cI, 104, .inl (nF (rv_F su sr st mn))))] (nI (rv_C su sr st mn)) 0 0 := by
  unfold mt_I
  refine Met.ofW (cc := bc_M_reviveFrom) (maxL := 5) (ret := (some .int)) (by decide) rfl ?_
  intro p e s m args below meth c s₁ B hml hv
  obtain ⟨rfl, hsz, hP, hK, hD0⟩ := hv
  have hx := B.exec
  have hb := B.bytes
  have hr := B.returns
  have hts := atoms_spec (ws := wsT mn_M_reviveFrom bc_M_reviveFrom 5 (some .int)) B.pre
  have htb : ∀ w ∈ gtbl, w.before _ s = true := fun w h => hts w (List.mem_cons_of_mem _ h)
  have hown : s.vm.findClass cn_M = some m.cls := findClass_of_methodNamed B.named
  have hlocks := B.notSynchronized
  subst hsz
  have hD := hD0.self (sz := s.heap.size)
  generalize hAe : va_A [zM m0 m1 m2 m3 m4 m5 mn mi, (m3, .inl (cI, 104, .inl (oF sr))), (m5, .inl (cI, 104, .inl (nF su)))] s.heap.size = A at hD ⊢
  have hA : ∀ q : Nat, s.heap.size ≤ q → A q := fun q h => by rw [← hAe]; exact Or.inr h
  have hS : va_S A s.heap s.heap [] := va_S.rf
  have hP : va_P (dC, dI) clsL [zM m0 m1 m2 m3 m4 m5 mn mi, (m3, .inl (cI, 104, .inl (oF sr))), (m5, .inl (cI, 104, .inl (nF su)))] s.heap := hP
  have hl := lv_entry ([.ref m0, .long st]) (n := 5) (Nat.le_of_ble_eq_true rfl)
  rw [lg_entry_eq]
  generalize (lg_sl ([.ref m0, .long st]) ++ List.replicate (5 - (lg_sl ([.ref m0, .long st])).length) Slot.unset).toArray = ls at hl ⊢
  have hl : lv_has ls 5 [(0, .ref m0), (1, .long st)] := hl
  refine lv_iconst (v := nI 0) hx hb dc_M_reviveFrom_0 (by decide) ?_
  refine lv_istore_n (lv' := [(3, .int (nI 0)), (0, .ref m0), (1, .long st)]) hx hb dc_M_reviveFrom_1 rfl hl (by decide) rfl (fun ls hl => ?_)
  refine lv_iconst (v := nI 0) hx hb dc_M_reviveFrom_2 (by decide) ?_
  refine lv_istore (lv' := [(4, .int (nI 0)), (3, .int (nI 0)), (0, .ref m0), (1, .long st)]) hx hb dc_M_reviveFrom_3 hl (by decide) rfl (fun ls hl => ?_)
  refine wl_ 5 (fun (x : Nat × Nat × (Nat → Nat)) => mn - x.1) (fun (x : Nat × Nat × (Nat → Nat)) (H : Heap) (locs : List Loc) (ls : Array Slot) => (x.1 ≤ mn ∧ x.2.1 = rv_C su sr st x.1 ∧ x.2.2 = rv_F su sr st x.1) ∧ va_P (dC, dI) clsL [zM m0 m1 m2 m3 m4 m5 mn mi, (m3, .inl (cI, 104, .inl (oF sr))), (m5, .inl (cI, 104, .inl (nF x.2.2)))] H ∧ va_D A [zM m0 m1 m2 m3 m4 m5 mn mi, (m3, .inl (cI, 104, .inl (oF sr))), (m5, .inl (cI, 104, .inl (nF x.2.2)))] ∧ va_S A s.heap H locs ∧ lv_has ls 5 [(4, .int (nI x.1)), (3, .int (nI x.2.1)), (1, .long st), (0, .ref m0)]) ?_ (0, 0, su) _ _ _ ⟨⟨Nat.zero_le _, rfl, rfl⟩, hP, hD, hS, lv_sub hl [0, 1, 3, 2] rfl⟩
  rintro ⟨k, z, g⟩ H locs ls ⟨hI, hP, hD, hS, hl⟩ ih
  have hI : k ≤ mn ∧ z = rv_C su sr st k ∧ g = rv_F su sr st k := hI
  have hP : va_P (dC, dI) clsL [zM m0 m1 m2 m3 m4 m5 mn mi, (m3, .inl (cI, 104, .inl (oF sr))), (m5, .inl (cI, 104, .inl (nF g)))] H := hP
  have hD : va_D A [zM m0 m1 m2 m3 m4 m5 mn mi, (m3, .inl (cI, 104, .inl (oF sr))), (m5, .inl (cI, 104, .inl (nF g)))] := hD
  have hl : lv_has ls 5 [(4, .int (nI k)), (3, .int (nI z)), (1, .long st), (0, .ref m0)] := hl
  have hkn := hI.1
  refine lv_iload hx hb dc_M_reviveFrom_5 (lv_at hl 0 rfl) ?_
  refine lv_aload_n hx hb dc_M_reviveFrom_7 rfl (lv_at hl 3 rfl) ?_
  refine va_get (D := (dC, dI)) (ci := 1) (v := .int (nI mn)) (C := cn_M) (T := ft_M) (N := 7) hx hb htb ki_M hown hK hP 0 rfl rfl 5 (by decide) (htb _ kw_121) (fun _ h9 => h9) rfl dc_M_reviveFrom_8 ?_
  refine lv_icmp_ge (tgt := 58) hx hb dc_M_reviveFrom_11 (by decide) (fun hc => ?_) (fun hc => ?_)
  · have hk : mn ≤ k := (nI_leI (by omega) (by omega)).mp hc
    refine lv_iload_n hx hb dc_M_reviveFrom_58 rfl (lv_at hl 1 rfl) ?_
    obtain rfl : mn = k := by omega
    have hP8 := hP.sub (ws' := [zM m0 m1 m2 m3 m4 m5 mn mi, (m3, .inl (cI, 104, .inl (oF sr))), (m5, .inl (cI, 104, .inl (nF g)))]) [0, 1, 2] rfl
    have hD8 := hD.sub (ws' := [zM m0 m1 m2 m3 m4 m5 mn mi, (m3, .inl (cI, 104, .inl (oF sr))), (m5, .inl (cI, 104, .inl (nF g)))]) [0, 1, 2] (by decide) rfl
    have hW8 : ([zM m0 m1 m2 m3 m4 m5 mn mi, (m3, .inl (cI, 104, .inl (oF sr))), (m5, .inl (cI, 104, .inl (nF g)))] : va_W) = [zM m0 m1 m2 m3 m4 m5 mn mi, (m3, .inl (cI, 104, .inl (oF sr))), (m5, .inl (cI, 104, .inl (nF (rv_F su sr st mn))))] := by rw [hI.2.2]
    rw [hW8] at hP8 hD8
    have hP9 := hP8
    have hD9 := hD8
    exact W.iret (v := nI z) hx hb hr (fun t ht hW => ⟨⟨_, (), rfl, by rw [hI.2.1], by rw [ht]; exact hP9, va_K.moved hW.alike hK, hD9⟩, hS.F ht⟩) hS.2.2 dc_M_reviveFrom_59
  · have hk : k < mn := Nat.lt_of_not_le (fun h9 => hc ((nI_leI (by omega) (by omega)).mpr h9))
    have hgk : g k = su k := by rw [hI.2.2]; exact rv_F_ge _ _ _ (Nat.le_refl _)
    have hgb : g k < 4 := by rw [hgk]; exact hu k hk
    refine lv_aload_n hx hb dc_M_reviveFrom_14 rfl (lv_at hl 3 rfl) ?_
    refine va_get (D := (dC, dI)) (ci := 1) (v := .ref m5) (C := cn_M) (T := ft_M) (N := 7) hx hb htb ki_M hown hK hP 0 rfl rfl 4 (by decide) (htb _ kw_119) (fun _ h9 => h9) rfl dc_M_reviveFrom_15 ?_
    refine lv_iload hx hb dc_M_reviveFrom_18 (lv_at hl 0 rfl) ?_
    rw [hgk] at hgb
    refine wa_nld (k := k) hx hb hK hP 2 0 rfl rfl (by omega) (by omega) dc_M_reviveFrom_20 ?_
    refine tp_i (y := nI (su k)) (by rw [hgk]) ?_
    refine lv_iconst (v := nI 2) hx hb dc_M_reviveFrom_21 (by decide) ?_
    refine lv_icmp_ne (tgt := 52) hx hb dc_M_reviveFrom_22 (by decide) (fun hc => ?_) (fun hc => ?_)
    · have h1 : ¬ (su k) = 2 := fun h9 => hc ((nI_eq (by omega) (by omega)).mpr h9)
      refine lv_iinc (k := 0) (v := nI (k + 1)) (lv' := [(4, .int (nI (k + 1))), (3, .int (nI z)), (1, .long st), (0, .ref m0)]) hx hb dc_M_reviveFrom_52 hl rfl (nI_inc1 _) (by decide) rfl (fun ls hl => ?_)
      refine lv_goto (tgt := 5) hx hb dc_M_reviveFrom_55 (by decide) ?_
      exact ih (k + 1, z, g) H locs ls (by dsimp only; omega) ⟨⟨by omega, by rw [hI.2.1]; simp [rv_C, *], by rw [hI.2.2]; simp [rv_F, *]⟩, hP, hD, hS, lv_sub hl [0, 1, 2, 3] rfl⟩
    · have h1 : (su k) = 2 := (nI_eq (by omega) (by omega)).mp hc
      refine lv_lload_n hx hb dc_M_reviveFrom_25 rfl (lv_at hl 2 rfl) ?_
      refine lv_lconst (v := 1) hx hb dc_M_reviveFrom_26 rfl ?_
      refine lv_aload_n hx hb dc_M_reviveFrom_27 rfl (lv_at hl 3 rfl) ?_
      refine va_get (D := (dC, dI)) (ci := 1) (v := .ref m3) (C := cn_M) (T := ft_M) (N := 7) hx hb htb ki_M hown hK hP 0 rfl rfl 2 (by decide) (htb _ kw_115) (fun _ h9 => h9) rfl dc_M_reviveFrom_28 ?_
      refine lv_iload hx hb dc_M_reviveFrom_31 (lv_at hl 0 rfl) ?_
      refine wa_old (k := k) hx hb hK hP 1 0 rfl rfl (by omega) (by omega) dc_M_reviveFrom_33 ?_
      refine lv_lshl (v := bto (sr k)) hx hb dc_M_reviveFrom_34 rfl ?_
      refine lv_land hx hb dc_M_reviveFrom_35 ?_
      refine lv_lconst (v := 0) hx hb dc_M_reviveFrom_36 rfl ?_
      refine W.lcmp hx hb dc_M_reviveFrom_37 ?_
      refine lv_if_eq (tgt := 52) hx hb dc_M_reviveFrom_38 (by decide) (fun hc => ?_) (fun hc => ?_)
      · have h2 : st &&& (bto (sr k)) = 0 := lc_0.mp hc
        refine lv_iinc (k := 0) (v := nI (k + 1)) (lv' := [(4, .int (nI (k + 1))), (3, .int (nI z)), (1, .long st), (0, .ref m0)]) hx hb dc_M_reviveFrom_52 hl rfl (nI_inc1 _) (by decide) rfl (fun ls hl => ?_)
        refine lv_goto (tgt := 5) hx hb dc_M_reviveFrom_55 (by decide) ?_
        exact ih (k + 1, z, g) H locs ls (by dsimp only; omega) ⟨⟨by omega, by rw [hI.2.1]; simp [rv_C, *], by rw [hI.2.2]; simp [rv_F, *]⟩, hP, hD, hS, lv_sub hl [0, 1, 2, 3] rfl⟩
      · have h2 : ¬ st &&& (bto (sr k)) = 0 := fun h9 => hc (lc_0.mpr h9)
        refine lv_aload_n hx hb dc_M_reviveFrom_41 rfl (lv_at hl 3 rfl) ?_
        refine va_get (D := (dC, dI)) (ci := 1) (v := .ref m5) (C := cn_M) (T := ft_M) (N := 7) hx hb htb ki_M hown hK hP 0 rfl rfl 4 (by decide) (htb _ kw_119) (fun _ h9 => h9) rfl dc_M_reviveFrom_42 ?_
        refine lv_iload hx hb dc_M_reviveFrom_45 (lv_at hl 0 rfl) ?_
        refine lv_iconst (v := nI 0) hx hb dc_M_reviveFrom_47 (by decide) ?_
        refine wa_nst (k := k) (x := 0) hx hb hK hP hD hS 2 0 rfl rfl (by omega) (by omega) dc_M_reviveFrom_48 (fun H locs hP hD hS => ?_)
        have hP : va_P (dC, dI) clsL [zM m0 m1 m2 m3 m4 m5 mn mi, (m3, .inl (cI, 104, .inl (oF sr))), (m5, .inl (cI, 104, .inl (nF (va_up g k 0))))] H := hP
        have hD : va_D A [zM m0 m1 m2 m3 m4 m5 mn mi, (m3, .inl (cI, 104, .inl (oF sr))), (m5, .inl (cI, 104, .inl (nF (va_up g k 0))))] := hD
        refine lv_iinc (k := 1) (v := nI (z + 1)) (lv' := [(3, .int (nI (z + 1))), (4, .int (nI k)), (1, .long st), (0, .ref m0)]) hx hb dc_M_reviveFrom_49 hl rfl (nI_inc1 _) (by decide) rfl (fun ls hl => ?_)
        refine lv_iinc (k := 1) (v := nI (k + 1)) (lv' := [(4, .int (nI (k + 1))), (3, .int (nI (z + 1))), (1, .long st), (0, .ref m0)]) hx hb dc_M_reviveFrom_52 hl rfl (nI_inc1 _) (by decide) rfl (fun ls hl => ?_)
        refine lv_goto (tgt := 5) hx hb dc_M_reviveFrom_55 (by decide) ?_
        exact ih (k + 1, z + 1, va_up g k 0) H locs ls (by dsimp only; omega) ⟨⟨by omega, by rw [hI.2.1]; simp [rv_C, *], by rw [hI.2.2]; simp [rv_F, *]⟩, hP, hD, hS, lv_sub hl [0, 1, 2, 3] rfl⟩

