set_option maxHeartbeats 4000000 in
set_option maxRecDepth 100000 in
theorem oc_R_isProcess_no (l : Launch) (dC : Nat → ClassId) (dI : Nat → Nat → Nat) (cI cJ cZ cP : ClassId) (sz : Nat) (r : Nat → Nat) (cn : Nat) (mn : Nat) (mi : Nat) (nn : Nat) (y : Int32) (hy : y < 0 ∨ nI 3 ≤ y) : mt_I l mn_R_isProcess bc_R_isProcess 2 (some .boolean) ({ frames := 0, cells := 0, slots := 0, locals := 0 }) (dC, dI) (TYS cI cJ cZ cP) sz [.ref (r 0), .int y] [zR r cn mn mi nn] [zR r cn mn mi nn] (bI false) 0 0 := by
  unfold mt_I
  refine Met.ofW (cc := bc_R_isProcess) (maxL := 2) (ret := (some .boolean)) (by decide) rfl ?_
  intro p e s m args below meth c s₁ B hml hv
  obtain ⟨rfl, hsz, hP, hK, hD0⟩ := hv
  have hx := B.exec
  have hb := B.bytes
  have hr := B.returns
  have hts := atoms_spec (ws := wsT mn_R_isProcess bc_R_isProcess 2 (some .boolean)) B.pre
  have htb : ∀ w ∈ gtbl, w.before _ s = true := fun w h => hts w (List.mem_cons_of_mem _ h)
  have hown : s.vm.findClass cn_R = some m.cls := findClass_of_methodNamed B.named
  have hlocks := B.notSynchronized
  subst hsz
  have hD := hD0.self (sz := s.heap.size)
  generalize hAe : va_A [zR r cn mn mi nn] s.heap.size = A at hD ⊢
  have hA : ∀ q : Nat, s.heap.size ≤ q → A q := fun q h => by rw [← hAe]; exact Or.inr h
  have hS : va_S A s.heap s.heap [] := va_S.rf
  have hP : va_P (dC, dI) clsL [zR r cn mn mi nn] s.heap := hP
  have hl := lv_entry ([.ref (r 0), .int y]) (n := 2) (Nat.le_of_ble_eq_true rfl)
  rw [lg_entry_eq]
  generalize (lg_sl ([.ref (r 0), .int y]) ++ List.replicate (2 - (lg_sl ([.ref (r 0), .int y])).length) Slot.unset).toArray = ls at hl ⊢
  have hl : lv_has ls 2 [(0, .ref (r 0)), (1, .int y)] := hl
  refine lv_iload_n hx hb dc_R_isProcess_0 rfl (lv_at hl 1 rfl) ?_
  refine lv_if_lt (tgt := 13) hx hb dc_R_isProcess_1 (by decide) (fun hc => ?_) (fun hc => ?_)
  · have h1 := hc
    refine lv_iconst (v := nI 0) hx hb dc_R_isProcess_13 (by decide) ?_
    have hP9 := hP.sub (ws' := [zR r cn mn mi nn]) [0] rfl
    have hD9 := hD.sub (ws' := [zR r cn mn mi nn]) [0] (by decide) rfl
    exact W.zret (v := nI 0) (ty := .boolean) hx hb hr (rfl) (fun t ht hW => ⟨⟨_, (), rfl, rfl, by rw [ht]; exact hP9, va_K.moved hW.alike hK, hD9⟩, hS.F ht⟩) hS.2.2 dc_R_isProcess_14
  · have h1 := hc
    refine lv_iload_n hx hb dc_R_isProcess_4 rfl (lv_at hl 1 rfl) ?_
    refine lv_iconst (v := nI 2) hx hb dc_R_isProcess_5 (by decide) ?_
    refine lv_icmp_gt (tgt := 13) hx hb dc_R_isProcess_6 (by decide) (fun hc => ?_) (fun hc => ?_)
    rotate_left
    · have h2 := hc
      exact absurd hy (fun q => q.elim h1 (fun h9 => h2 (ge3_gt2 h9)))
    have h2 := hc
    refine lv_iconst (v := nI 0) hx hb dc_R_isProcess_13 (by decide) ?_
    have hP9 := hP.sub (ws' := [zR r cn mn mi nn]) [0] rfl
    have hD9 := hD.sub (ws' := [zR r cn mn mi nn]) [0] (by decide) rfl
    exact W.zret (v := nI 0) (ty := .boolean) hx hb hr (rfl) (fun t ht hW => ⟨⟨_, (), rfl, rfl, by rw [ht]; exact hP9, va_K.moved hW.alike hK, hD9⟩, hS.F ht⟩) hS.2.2 dc_R_isProcess_14

set_option maxHeartbeats 4000000 in
set_option maxRecDepth 100000 in
theorem oc_R_isProcess (l : Launch) (dC : Nat → ClassId) (dI : Nat → Nat → Nat) (cI cJ cZ cP : ClassId) (sz : Nat) (r : Nat → Nat) (cn : Nat) (mn : Nat) (mi : Nat) (nn : Nat) (j : Nat) (hj : j < 3) : mt_I l mn_R_isProcess bc_R_isProcess 2 (some .boolean) ({ frames := 0, cells := 0, slots := 0, locals := 0 }) (dC, dI) (TYS cI cJ cZ cP) sz [.ref (r 0), .int (nI j)] [zR r cn mn mi nn] [zR r cn mn mi nn] (bI true) 0 0 := by
  unfold mt_I
  refine Met.ofW (cc := bc_R_isProcess) (maxL := 2) (ret := (some .boolean)) (by decide) rfl ?_
  intro p e s m args below meth c s₁ B hml hv
  obtain ⟨rfl, hsz, hP, hK, hD0⟩ := hv
  have hx := B.exec
  have hb := B.bytes
  have hr := B.returns
  have hts := atoms_spec (ws := wsT mn_R_isProcess bc_R_isProcess 2 (some .boolean)) B.pre
  have htb : ∀ w ∈ gtbl, w.before _ s = true := fun w h => hts w (List.mem_cons_of_mem _ h)
  have hown : s.vm.findClass cn_R = some m.cls := findClass_of_methodNamed B.named
  have hlocks := B.notSynchronized
  subst hsz
  have hD := hD0.self (sz := s.heap.size)
  generalize hAe : va_A [zR r cn mn mi nn] s.heap.size = A at hD ⊢
  have hA : ∀ q : Nat, s.heap.size ≤ q → A q := fun q h => by rw [← hAe]; exact Or.inr h
  have hS : va_S A s.heap s.heap [] := va_S.rf
  have hP : va_P (dC, dI) clsL [zR r cn mn mi nn] s.heap := hP
  have hl := lv_entry ([.ref (r 0), .int (nI j)]) (n := 2) (Nat.le_of_ble_eq_true rfl)
  rw [lg_entry_eq]
  generalize (lg_sl ([.ref (r 0), .int (nI j)]) ++ List.replicate (2 - (lg_sl ([.ref (r 0), .int (nI j)])).length) Slot.unset).toArray = ls at hl ⊢
  have hl : lv_has ls 2 [(0, .ref (r 0)), (1, .int (nI j))] := hl
  refine lv_iload_n hx hb dc_R_isProcess_0 rfl (lv_at hl 1 rfl) ?_
  refine lv_if_lt (tgt := 13) hx hb dc_R_isProcess_1 (by decide) (fun hc => ?_) (fun hc => ?_)
  · have h1 : False := nI_pos (by omega) hc
    exact h1.elim
  have h1 : 0 ≤ j := Nat.zero_le _
  refine lv_iload_n hx hb dc_R_isProcess_4 rfl (lv_at hl 1 rfl) ?_
  refine lv_iconst (v := nI 2) hx hb dc_R_isProcess_5 (by decide) ?_
  refine lv_icmp_gt (tgt := 13) hx hb dc_R_isProcess_6 (by decide) (fun hc => ?_) (fun hc => ?_)
  · have h2 : 2 < j := (nI_ltI (by omega) (by omega)).mp hc
    exact absurd h2 (by omega)
  have h2 : j ≤ 2 := Nat.le_of_not_lt (fun h9 => hc ((nI_ltI (by omega) (by omega)).mpr h9))
  refine lv_iconst (v := nI 1) hx hb dc_R_isProcess_9 (by decide) ?_
  refine lv_goto (tgt := 14) hx hb dc_R_isProcess_10 (by decide) ?_
  have hP9 := hP.sub (ws' := [zR r cn mn mi nn]) [0] rfl
  have hD9 := hD.sub (ws' := [zR r cn mn mi nn]) [0] (by decide) rfl
  exact W.zret (v := nI 1) (ty := .boolean) hx hb hr (rfl) (fun t ht hW => ⟨⟨_, (), rfl, rfl, by rw [ht]; exact hP9, va_K.moved hW.alike hK, hD9⟩, hS.F ht⟩) hS.2.2 dc_R_isProcess_14

set_option maxHeartbeats 4000000 in
set_option maxRecDepth 100000 in
theorem oc_R_isMessage_no (l : Launch) (dC : Nat → ClassId) (dI : Nat → Nat → Nat) (cI cJ cZ cP : ClassId) (sz : Nat) (r : Nat → Nat) (cn : Nat) (mn : Nat) (mi : Nat) (nn : Nat) (y : Int32) (hy : y < 0 ∨ nI mn ≤ y) : mt_I l mn_R_isMessage bc_R_isMessage 2 (some .boolean) ({ frames := 0, cells := 0, slots := 0, locals := 0 }) (dC, dI) (TYS cI cJ cZ cP) sz [.ref (r 0), .int y] [zR r cn mn mi nn] [zR r cn mn mi nn] (bI false) 0 0 := by
  unfold mt_I
  refine Met.ofW (cc := bc_R_isMessage) (maxL := 2) (ret := (some .boolean)) (by decide) rfl ?_
  intro p e s m args below meth c s₁ B hml hv
  obtain ⟨rfl, hsz, hP, hK, hD0⟩ := hv
  have hx := B.exec
  have hb := B.bytes
  have hr := B.returns
  have hts := atoms_spec (ws := wsT mn_R_isMessage bc_R_isMessage 2 (some .boolean)) B.pre
  have htb : ∀ w ∈ gtbl, w.before _ s = true := fun w h => hts w (List.mem_cons_of_mem _ h)
  have hown : s.vm.findClass cn_R = some m.cls := findClass_of_methodNamed B.named
  have hlocks := B.notSynchronized
  subst hsz
  have hD := hD0.self (sz := s.heap.size)
  generalize hAe : va_A [zR r cn mn mi nn] s.heap.size = A at hD ⊢
  have hA : ∀ q : Nat, s.heap.size ≤ q → A q := fun q h => by rw [← hAe]; exact Or.inr h
  have hS : va_S A s.heap s.heap [] := va_S.rf
  have hP : va_P (dC, dI) clsL [zR r cn mn mi nn] s.heap := hP
  have hl := lv_entry ([.ref (r 0), .int y]) (n := 2) (Nat.le_of_ble_eq_true rfl)
  rw [lg_entry_eq]
  generalize (lg_sl ([.ref (r 0), .int y]) ++ List.replicate (2 - (lg_sl ([.ref (r 0), .int y])).length) Slot.unset).toArray = ls at hl ⊢
  have hl : lv_has ls 2 [(0, .ref (r 0)), (1, .int y)] := hl
  refine lv_iload_n hx hb dc_R_isMessage_0 rfl (lv_at hl 1 rfl) ?_
  refine lv_if_lt (tgt := 16) hx hb dc_R_isMessage_1 (by decide) (fun hc => ?_) (fun hc => ?_)
  · have h1 := hc
    refine lv_iconst (v := nI 0) hx hb dc_R_isMessage_16 (by decide) ?_
    have hP9 := hP.sub (ws' := [zR r cn mn mi nn]) [0] rfl
    have hD9 := hD.sub (ws' := [zR r cn mn mi nn]) [0] (by decide) rfl
    exact W.zret (v := nI 0) (ty := .boolean) hx hb hr (rfl) (fun t ht hW => ⟨⟨_, (), rfl, rfl, by rw [ht]; exact hP9, va_K.moved hW.alike hK, hD9⟩, hS.F ht⟩) hS.2.2 dc_R_isMessage_17
  · have h1 := hc
    refine lv_iload_n hx hb dc_R_isMessage_4 rfl (lv_at hl 1 rfl) ?_
    refine lv_aload_n hx hb dc_R_isMessage_5 rfl (lv_at hl 0 rfl) ?_
    refine va_get (D := (dC, dI)) (ci := 4) (v := .int (nI mn)) (C := cn_R) (T := ft_R) (N := 27) hx hb htb ki_R hown hK hP 0 rfl rfl 10 (by decide) (htb _ kw_380) (fun _ h9 => h9) rfl dc_R_isMessage_6 ?_
    refine lv_icmp_ge (tgt := 16) hx hb dc_R_isMessage_9 (by decide) (fun hc => ?_) (fun hc => ?_)
    rotate_left
    · have h2 := hc
      exact absurd hy (fun q => q.elim h1 h2)
    have h2 := hc
    refine lv_iconst (v := nI 0) hx hb dc_R_isMessage_16 (by decide) ?_
    have hP9 := hP.sub (ws' := [zR r cn mn mi nn]) [0] rfl
    have hD9 := hD.sub (ws' := [zR r cn mn mi nn]) [0] (by decide) rfl
    exact W.zret (v := nI 0) (ty := .boolean) hx hb hr (rfl) (fun t ht hW => ⟨⟨_, (), rfl, rfl, by rw [ht]; exact hP9, va_K.moved hW.alike hK, hD9⟩, hS.F ht⟩) hS.2.2 dc_R_isMessage_17

set_option maxHeartbeats 4000000 in
set_option maxRecDepth 100000 in
theorem oc_R_isMessage (l : Launch) (dC : Nat → ClassId) (dI : Nat → Nat → Nat) (cI cJ cZ cP : ClassId) (sz : Nat) (r : Nat → Nat) (cn : Nat) (mn : Nat) (mi : Nat) (nn : Nat) (k : Nat) (hk : k < mn) (hmn : mn ≤ 104) : mt_I l mn_R_isMessage bc_R_isMessage 2 (some .boolean) ({ frames := 0, cells := 0, slots := 0, locals := 0 }) (dC, dI) (TYS cI cJ cZ cP) sz [.ref (r 0), .int (nI k)] [zR r cn mn mi nn] [zR r cn mn mi nn] (bI true) 0 0 := by
  unfold mt_I
  refine Met.ofW (cc := bc_R_isMessage) (maxL := 2) (ret := (some .boolean)) (by decide) rfl ?_
  intro p e s m args below meth c s₁ B hml hv
  obtain ⟨rfl, hsz, hP, hK, hD0⟩ := hv
  have hx := B.exec
  have hb := B.bytes
  have hr := B.returns
  have hts := atoms_spec (ws := wsT mn_R_isMessage bc_R_isMessage 2 (some .boolean)) B.pre
  have htb : ∀ w ∈ gtbl, w.before _ s = true := fun w h => hts w (List.mem_cons_of_mem _ h)
  have hown : s.vm.findClass cn_R = some m.cls := findClass_of_methodNamed B.named
  have hlocks := B.notSynchronized
  subst hsz
  have hD := hD0.self (sz := s.heap.size)
  generalize hAe : va_A [zR r cn mn mi nn] s.heap.size = A at hD ⊢
  have hA : ∀ q : Nat, s.heap.size ≤ q → A q := fun q h => by rw [← hAe]; exact Or.inr h
  have hS : va_S A s.heap s.heap [] := va_S.rf
  have hP : va_P (dC, dI) clsL [zR r cn mn mi nn] s.heap := hP
  have hl := lv_entry ([.ref (r 0), .int (nI k)]) (n := 2) (Nat.le_of_ble_eq_true rfl)
  rw [lg_entry_eq]
  generalize (lg_sl ([.ref (r 0), .int (nI k)]) ++ List.replicate (2 - (lg_sl ([.ref (r 0), .int (nI k)])).length) Slot.unset).toArray = ls at hl ⊢
  have hl : lv_has ls 2 [(0, .ref (r 0)), (1, .int (nI k))] := hl
  refine lv_iload_n hx hb dc_R_isMessage_0 rfl (lv_at hl 1 rfl) ?_
  refine lv_if_lt (tgt := 16) hx hb dc_R_isMessage_1 (by decide) (fun hc => ?_) (fun hc => ?_)
  · have h1 : False := nI_pos (by omega) hc
    exact h1.elim
  have h1 : 0 ≤ k := Nat.zero_le _
  refine lv_iload_n hx hb dc_R_isMessage_4 rfl (lv_at hl 1 rfl) ?_
  refine lv_aload_n hx hb dc_R_isMessage_5 rfl (lv_at hl 0 rfl) ?_
  refine va_get (D := (dC, dI)) (ci := 4) (v := .int (nI mn)) (C := cn_R) (T := ft_R) (N := 27) hx hb htb ki_R hown hK hP 0 rfl rfl 10 (by decide) (htb _ kw_380) (fun _ h9 => h9) rfl dc_R_isMessage_6 ?_
  refine lv_icmp_ge (tgt := 16) hx hb dc_R_isMessage_9 (by decide) (fun hc => ?_) (fun hc => ?_)
  · have h2 : mn ≤ k := (nI_leI (by omega) (by omega)).mp hc
    exact absurd h2 (by omega)
  have h2 : k < mn := Nat.lt_of_not_le (fun h9 => hc ((nI_leI (by omega) (by omega)).mpr h9))
  refine lv_iconst (v := nI 1) hx hb dc_R_isMessage_12 (by decide) ?_
  refine lv_goto (tgt := 17) hx hb dc_R_isMessage_13 (by decide) ?_
  have hP9 := hP.sub (ws' := [zR r cn mn mi nn]) [0] rfl
  have hD9 := hD.sub (ws' := [zR r cn mn mi nn]) [0] (by decide) rfl
  exact W.zret (v := nI 1) (ty := .boolean) hx hb hr (rfl) (fun t ht hW => ⟨⟨_, (), rfl, rfl, by rw [ht]; exact hP9, va_K.moved hW.alike hK, hD9⟩, hS.F ht⟩) hS.2.2 dc_R_isMessage_17

set_option maxHeartbeats 4000000 in
set_option maxRecDepth 100000 in
theorem oc_R_isUp_no (l : Launch) (dC : Nat → ClassId) (dI : Nat → Nat → Nat) (cI cJ cZ cP : ClassId) (sz : Nat) (r : Nat → Nat) (cn : Nat) (mn : Nat) (mi : Nat) (nn : Nat) (y : Int32) (hy : y < 0 ∨ nI 3 ≤ y) : mt_I l mn_R_isUp bc_R_isUp 2 (some .boolean) ({ frames := 1, cells := 0, slots := 0, locals := 21 }) (dC, dI) (TYS cI cJ cZ cP) sz [.ref (r 0), .int y] [zR r cn mn mi nn] [zR r cn mn mi nn] (bI false) 0 0 := by
  unfold mt_I
  refine Met.ofW (cc := bc_R_isUp) (maxL := 2) (ret := (some .boolean)) (by decide) rfl ?_
  intro p e s m args below meth c s₁ B hml hv
  obtain ⟨rfl, hsz, hP, hK, hD0⟩ := hv
  have hx := B.exec
  have hb := B.bytes
  have hr := B.returns
  have hts := atoms_spec (ws := wsT mn_R_isUp bc_R_isUp 2 (some .boolean)) B.pre
  have htb : ∀ w ∈ gtbl, w.before _ s = true := fun w h => hts w (List.mem_cons_of_mem _ h)
  have hown : s.vm.findClass cn_R = some m.cls := findClass_of_methodNamed B.named
  have hlocks := B.notSynchronized
  subst hsz
  have hD := hD0.self (sz := s.heap.size)
  generalize hAe : va_A [zR r cn mn mi nn] s.heap.size = A at hD ⊢
  have hA : ∀ q : Nat, s.heap.size ≤ q → A q := fun q h => by rw [← hAe]; exact Or.inr h
  have hS : va_S A s.heap s.heap [] := va_S.rf
  have hP : va_P (dC, dI) clsL [zR r cn mn mi nn] s.heap := hP
  have hl := lv_entry ([.ref (r 0), .int y]) (n := 2) (Nat.le_of_ble_eq_true rfl)
  rw [lg_entry_eq]
  generalize (lg_sl ([.ref (r 0), .int y]) ++ List.replicate (2 - (lg_sl ([.ref (r 0), .int y])).length) Slot.unset).toArray = ls at hl ⊢
  have hl : lv_has ls 2 [(0, .ref (r 0)), (1, .int y)] := hl
  refine lv_aload_n hx hb dc_R_isUp_0 rfl (lv_at hl 0 rfl) ?_
  refine lv_iload_n hx hb dc_R_isUp_1 rfl (lv_at hl 1 rfl) ?_
  refine cl_i (wc := [zR r cn mn mi nn]) (wr := []) (w1 := [zR r cn mn mi nn]) hP hD hS hA [0] [] rfl rfl (by decide) (by decide) (va_runV (As := [.int y]) (rest := []) ⟨hx, hb, hml, hown, htb⟩ (oc_R_isProcess_no l dC dI cI cJ cZ cP _ r cn mn mi nn y (by first | assumption | omega)) (cwV 1 htb (gw_V kw_458 kw_460 kp_13 kw_5 kw_461) rfl rfl rfl (by decide +kernel) ⟨Nat.le_of_ble_eq_true rfl, Nat.le_of_ble_eq_true rfl⟩) (pr_V hP hK hD (va_recv hK hP (ci := 4) (q0 := 0) rfl rfl) [0] (by decide) rfl rfl) rfl rfl hl.1 rfl (lv_room (Nat.le_of_ble_eq_true rfl)) dc_R_isUp_2 ⟨Nat.le_of_ble_eq_true rfl, Nat.le_of_ble_eq_true rfl⟩) (fun H locs hP hD hS => ?_)
  have hP : va_P (dC, dI) clsL [zR r cn mn mi nn] H := hP.sub (ws' := [zR r cn mn mi nn]) [0] rfl
  have hD : va_D A [zR r cn mn mi nn] := hD.sub (ws' := [zR r cn mn mi nn]) [0] (by decide) rfl
  refine lv_if_eq (tgt := 21) hx hb dc_R_isUp_5 (by decide) (fun hc => ?_) (fun hc => ?_)
  rotate_left
  · have h1 : false = true := bI_n0.mp hc
    exact absurd h1 (by decide)
  have h1 : false = false := bI_0.mp hc
  refine lv_iconst (v := nI 0) hx hb dc_R_isUp_21 (by decide) ?_
  have hP9 := hP.sub (ws' := [zR r cn mn mi nn]) [0] rfl
  have hD9 := hD.sub (ws' := [zR r cn mn mi nn]) [0] (by decide) rfl
  exact W.zret (v := nI 0) (ty := .boolean) hx hb hr (rfl) (fun t ht hW => ⟨⟨_, (), rfl, rfl, by rw [ht]; exact hP9, va_K.moved hW.alike hK, hD9⟩, hS.F ht⟩) hS.2.2 dc_R_isUp_22

set_option maxHeartbeats 4000000 in
set_option maxRecDepth 100000 in
theorem oc_R_isUp (l : Launch) (dC : Nat → ClassId) (dI : Nat → Nat → Nat) (cI cJ cZ cP : ClassId) (sz : Nat) (r : Nat → Nat) (cn : Nat) (mn : Nat) (mi : Nat) (nn : Nat) (dw : Nat → Bool) (j : Nat) (hj : j < 3) : mt_I l mn_R_isUp bc_R_isUp 2 (some .boolean) ({ frames := 1, cells := 0, slots := 0, locals := 21 }) (dC, dI) (TYS cI cJ cZ cP) sz [.ref (r 0), .int (nI j)] [zR r cn mn mi nn, ((r 18), .inl (cZ, 3, .inl (bF dw)))] [zR r cn mn mi nn, ((r 18), .inl (cZ, 3, .inl (bF dw)))] (bI (!(dw j))) 0 0 := by
  unfold mt_I
  refine Met.ofW (cc := bc_R_isUp) (maxL := 2) (ret := (some .boolean)) (by decide) rfl ?_
  intro p e s m args below meth c s₁ B hml hv
  obtain ⟨rfl, hsz, hP, hK, hD0⟩ := hv
  have hx := B.exec
  have hb := B.bytes
  have hr := B.returns
  have hts := atoms_spec (ws := wsT mn_R_isUp bc_R_isUp 2 (some .boolean)) B.pre
  have htb : ∀ w ∈ gtbl, w.before _ s = true := fun w h => hts w (List.mem_cons_of_mem _ h)
  have hown : s.vm.findClass cn_R = some m.cls := findClass_of_methodNamed B.named
  have hlocks := B.notSynchronized
  subst hsz
  have hD := hD0.self (sz := s.heap.size)
  generalize hAe : va_A [zR r cn mn mi nn, ((r 18), .inl (cZ, 3, .inl (bF dw)))] s.heap.size = A at hD ⊢
  have hA : ∀ q : Nat, s.heap.size ≤ q → A q := fun q h => by rw [← hAe]; exact Or.inr h
  have hS : va_S A s.heap s.heap [] := va_S.rf
  have hP : va_P (dC, dI) clsL [zR r cn mn mi nn, ((r 18), .inl (cZ, 3, .inl (bF dw)))] s.heap := hP
  have hl := lv_entry ([.ref (r 0), .int (nI j)]) (n := 2) (Nat.le_of_ble_eq_true rfl)
  rw [lg_entry_eq]
  generalize (lg_sl ([.ref (r 0), .int (nI j)]) ++ List.replicate (2 - (lg_sl ([.ref (r 0), .int (nI j)])).length) Slot.unset).toArray = ls at hl ⊢
  have hl : lv_has ls 2 [(0, .ref (r 0)), (1, .int (nI j))] := hl
  refine lv_aload_n hx hb dc_R_isUp_0 rfl (lv_at hl 0 rfl) ?_
  refine lv_iload_n hx hb dc_R_isUp_1 rfl (lv_at hl 1 rfl) ?_
  refine cl_i (wc := [zR r cn mn mi nn]) (wr := [((r 18), .inl (cZ, 3, .inl (bF dw)))]) (w1 := [zR r cn mn mi nn]) hP hD hS hA [0] [1] rfl rfl (by decide) (by decide) (va_runV (As := [.int (nI j)]) (rest := []) ⟨hx, hb, hml, hown, htb⟩ (oc_R_isProcess l dC dI cI cJ cZ cP _ r cn mn mi nn j (by first | assumption | omega)) (cwV 1 htb (gw_V kw_458 kw_460 kp_13 kw_5 kw_461) rfl rfl rfl (by decide +kernel) ⟨Nat.le_of_ble_eq_true rfl, Nat.le_of_ble_eq_true rfl⟩) (pr_V hP hK hD (va_recv hK hP (ci := 4) (q0 := 0) rfl rfl) [0] (by decide) rfl rfl) rfl rfl hl.1 rfl (lv_room (Nat.le_of_ble_eq_true rfl)) dc_R_isUp_2 ⟨Nat.le_of_ble_eq_true rfl, Nat.le_of_ble_eq_true rfl⟩) (fun H locs hP hD hS => ?_)
  have hP : va_P (dC, dI) clsL [zR r cn mn mi nn, ((r 18), .inl (cZ, 3, .inl (bF dw)))] H := hP.sub (ws' := [zR r cn mn mi nn, ((r 18), .inl (cZ, 3, .inl (bF dw)))]) [1, 0] rfl
  have hD : va_D A [zR r cn mn mi nn, ((r 18), .inl (cZ, 3, .inl (bF dw)))] := hD.sub (ws' := [zR r cn mn mi nn, ((r 18), .inl (cZ, 3, .inl (bF dw)))]) [1, 0] (by decide) rfl
  refine lv_if_eq (tgt := 21) hx hb dc_R_isUp_5 (by decide) (fun hc => ?_) (fun hc => ?_)
  · have h1 : true = false := bI_0.mp hc
    exact absurd h1 (by decide)
  have h1 : true = true := bI_n0.mp hc
  refine lv_aload_n hx hb dc_R_isUp_8 rfl (lv_at hl 0 rfl) ?_
  refine va_get (D := (dC, dI)) (ci := 4) (v := .ref (r 18)) (C := cn_R) (T := ft_R) (N := 27) hx hb htb ki_R hown hK hP 0 rfl rfl 18 (by decide) (htb _ kw_388) (fun _ h9 => h9) rfl dc_R_isUp_9 ?_
  refine lv_iload_n hx hb dc_R_isUp_12 rfl (lv_at hl 1 rfl) ?_
  refine wa_bld (k := j) hx hb hK hP 1 2 rfl rfl (by omega) (by omega) dc_R_isUp_13 ?_
  refine lv_if_ne (tgt := 21) hx hb dc_R_isUp_14 (by decide) (fun hc => ?_) (fun hc => ?_)
  · have h2 : dw j = true := bI_n0.mp hc
    refine lv_iconst (v := nI 0) hx hb dc_R_isUp_21 (by decide) ?_
    have hP9 := hP.sub (ws' := [zR r cn mn mi nn, ((r 18), .inl (cZ, 3, .inl (bF dw)))]) [0, 1] rfl
    have hD9 := hD.sub (ws' := [zR r cn mn mi nn, ((r 18), .inl (cZ, 3, .inl (bF dw)))]) [0, 1] (by decide) rfl
    exact W.zret (v := nI 0) (ty := .boolean) hx hb hr (rfl) (fun t ht hW => ⟨⟨_, (), rfl, by rw [h2]; rfl, by rw [ht]; exact hP9, va_K.moved hW.alike hK, hD9⟩, hS.F ht⟩) hS.2.2 dc_R_isUp_22
  · have h2 : dw j = false := bI_0.mp hc
    refine lv_iconst (v := nI 1) hx hb dc_R_isUp_17 (by decide) ?_
    refine lv_goto (tgt := 22) hx hb dc_R_isUp_18 (by decide) ?_
    have hP9 := hP.sub (ws' := [zR r cn mn mi nn, ((r 18), .inl (cZ, 3, .inl (bF dw)))]) [0, 1] rfl
    have hD9 := hD.sub (ws' := [zR r cn mn mi nn, ((r 18), .inl (cZ, 3, .inl (bF dw)))]) [0, 1] (by decide) rfl
    exact W.zret (v := nI 1) (ty := .boolean) hx hb hr (rfl) (fun t ht hW => ⟨⟨_, (), rfl, by rw [h2]; rfl, by rw [ht]; exact hP9, va_K.moved hW.alike hK, hD9⟩, hS.F ht⟩) hS.2.2 dc_R_isUp_22

set_option maxHeartbeats 4000000 in
set_option maxRecDepth 100000 in
theorem oc_R_send (l : Launch) (dC : Nat → ClassId) (dI : Nat → Nat → Nat) (cI cJ cZ cP : ClassId) (sz : Nat) (r : Nat → Nat) (cn : Nat) (mn : Nat) (mi : Nat) (nn : Nat) (vs : Nat → Int32) (tg : Nat → Nat) (sr : Nat → Option Nat) (kn : Nat → Nat) (su : Nat → Nat) (t : Nat) (v : Int32) (u : Option Nat) (w : Nat) (hn : mn < 104) : mt_I l mn_R_send bc_R_send 5 (some .int) ({ frames := 0, cells := 0, slots := 0, locals := 0 }) (dC, dI) (TYS cI cJ cZ cP) sz [.ref (r 0), .int (nI t), .int v, .int (oI u), .int (nI w)] [zR r cn mn mi nn, ((r 12), .inl (cI, 104, .inl vs)), ((r 13), .inl (cI, 104, .inl (nF tg))), ((r 15), .inl (cI, 104, .inl (oF sr))), ((r 16), .inl (cI, 104, .inl (nF kn))), ((r 14), .inl (cI, 104, .inl (nF su)))] [zR r cn (mn + 1) mi nn, ((r 12), .inl (cI, 104, .inl (va_up vs mn v))), ((r 13), .inl (cI, 104, .inl (nF (va_up tg mn t)))), ((r 15), .inl (cI, 104, .inl (oF (va_up sr mn u)))), ((r 16), .inl (cI, 104, .inl (nF (va_up kn mn w)))), ((r 14), .inl (cI, 104, .inl (nF (va_up su mn 0))))] (nI mn) 0 0 := by
  unfold mt_I
  refine Met.ofW (cc := bc_R_send) (maxL := 5) (ret := (some .int)) (by decide) rfl ?_
  intro p e s m args below meth c s₁ B hml hv
  obtain ⟨rfl, hsz, hP, hK, hD0⟩ := hv
  have hx := B.exec
  have hb := B.bytes
  have hr := B.returns
  have hts := atoms_spec (ws := wsT mn_R_send bc_R_send 5 (some .int)) B.pre
  have htb : ∀ w ∈ gtbl, w.before _ s = true := fun w h => hts w (List.mem_cons_of_mem _ h)
  have hown : s.vm.findClass cn_R = some m.cls := findClass_of_methodNamed B.named
  have hlocks := B.notSynchronized
  subst hsz
  have hD := hD0.self (sz := s.heap.size)
  generalize hAe : va_A [zR r cn mn mi nn, ((r 12), .inl (cI, 104, .inl vs)), ((r 13), .inl (cI, 104, .inl (nF tg))), ((r 15), .inl (cI, 104, .inl (oF sr))), ((r 16), .inl (cI, 104, .inl (nF kn))), ((r 14), .inl (cI, 104, .inl (nF su)))] s.heap.size = A at hD ⊢
  have hA : ∀ q : Nat, s.heap.size ≤ q → A q := fun q h => by rw [← hAe]; exact Or.inr h
  have hS : va_S A s.heap s.heap [] := va_S.rf
  have hP : va_P (dC, dI) clsL [zR r cn mn mi nn, ((r 12), .inl (cI, 104, .inl vs)), ((r 13), .inl (cI, 104, .inl (nF tg))), ((r 15), .inl (cI, 104, .inl (oF sr))), ((r 16), .inl (cI, 104, .inl (nF kn))), ((r 14), .inl (cI, 104, .inl (nF su)))] s.heap := hP
  have hl := lv_entry ([.ref (r 0), .int (nI t), .int v, .int (oI u), .int (nI w)]) (n := 5) (Nat.le_of_ble_eq_true rfl)
  rw [lg_entry_eq]
  generalize (lg_sl ([.ref (r 0), .int (nI t), .int v, .int (oI u), .int (nI w)]) ++ List.replicate (5 - (lg_sl ([.ref (r 0), .int (nI t), .int v, .int (oI u), .int (nI w)])).length) Slot.unset).toArray = ls at hl ⊢
  have hl : lv_has ls 5 [(0, .ref (r 0)), (1, .int (nI t)), (2, .int v), (3, .int (oI u)), (4, .int (nI w))] := hl
  refine lv_aload_n hx hb dc_R_send_0 rfl (lv_at hl 0 rfl) ?_
  refine va_get (D := (dC, dI)) (ci := 4) (v := .ref (r 12)) (C := cn_R) (T := ft_R) (N := 27) hx hb htb ki_R hown hK hP 0 rfl rfl 12 (by decide) (htb _ kw_382) (fun _ h9 => h9) rfl dc_R_send_1 ?_
  refine lv_aload_n hx hb dc_R_send_4 rfl (lv_at hl 0 rfl) ?_
  refine va_get (D := (dC, dI)) (ci := 4) (v := .int (nI mn)) (C := cn_R) (T := ft_R) (N := 27) hx hb htb ki_R hown hK hP 0 rfl rfl 10 (by decide) (htb _ kw_380) (fun _ h9 => h9) rfl dc_R_send_5 ?_
  refine lv_iload_n hx hb dc_R_send_8 rfl (lv_at hl 2 rfl) ?_
  refine wa_ist (k := mn) (x := v) hx hb hK hP hD hS 1 0 rfl rfl (by omega) (by omega) dc_R_send_9 (fun H locs hP hD hS => ?_)
  have hP : va_P (dC, dI) clsL [zR r cn mn mi nn, ((r 12), .inl (cI, 104, .inl (va_up vs mn v))), ((r 13), .inl (cI, 104, .inl (nF tg))), ((r 15), .inl (cI, 104, .inl (oF sr))), ((r 16), .inl (cI, 104, .inl (nF kn))), ((r 14), .inl (cI, 104, .inl (nF su)))] H := hP
  have hD : va_D A [zR r cn mn mi nn, ((r 12), .inl (cI, 104, .inl (va_up vs mn v))), ((r 13), .inl (cI, 104, .inl (nF tg))), ((r 15), .inl (cI, 104, .inl (oF sr))), ((r 16), .inl (cI, 104, .inl (nF kn))), ((r 14), .inl (cI, 104, .inl (nF su)))] := hD
  refine lv_aload_n hx hb dc_R_send_10 rfl (lv_at hl 0 rfl) ?_
  refine va_get (D := (dC, dI)) (ci := 4) (v := .ref (r 13)) (C := cn_R) (T := ft_R) (N := 27) hx hb htb ki_R hown hK hP 0 rfl rfl 13 (by decide) (htb _ kw_383) (fun _ h9 => h9) rfl dc_R_send_11 ?_
  refine lv_aload_n hx hb dc_R_send_14 rfl (lv_at hl 0 rfl) ?_
  refine va_get (D := (dC, dI)) (ci := 4) (v := .int (nI mn)) (C := cn_R) (T := ft_R) (N := 27) hx hb htb ki_R hown hK hP 0 rfl rfl 10 (by decide) (htb _ kw_380) (fun _ h9 => h9) rfl dc_R_send_15 ?_
  refine lv_iload_n hx hb dc_R_send_18 rfl (lv_at hl 1 rfl) ?_
  refine wa_nst (k := mn) (x := t) hx hb hK hP hD hS 2 0 rfl rfl (by omega) (by omega) dc_R_send_19 (fun H locs hP hD hS => ?_)
  have hP : va_P (dC, dI) clsL [zR r cn mn mi nn, ((r 12), .inl (cI, 104, .inl (va_up vs mn v))), ((r 13), .inl (cI, 104, .inl (nF (va_up tg mn t)))), ((r 15), .inl (cI, 104, .inl (oF sr))), ((r 16), .inl (cI, 104, .inl (nF kn))), ((r 14), .inl (cI, 104, .inl (nF su)))] H := hP
  have hD : va_D A [zR r cn mn mi nn, ((r 12), .inl (cI, 104, .inl (va_up vs mn v))), ((r 13), .inl (cI, 104, .inl (nF (va_up tg mn t)))), ((r 15), .inl (cI, 104, .inl (oF sr))), ((r 16), .inl (cI, 104, .inl (nF kn))), ((r 14), .inl (cI, 104, .inl (nF su)))] := hD
  refine lv_aload_n hx hb dc_R_send_20 rfl (lv_at hl 0 rfl) ?_
  refine va_get (D := (dC, dI)) (ci := 4) (v := .ref (r 14)) (C := cn_R) (T := ft_R) (N := 27) hx hb htb ki_R hown hK hP 0 rfl rfl 14 (by decide) (htb _ kw_384) (fun _ h9 => h9) rfl dc_R_send_21 ?_
  refine lv_aload_n hx hb dc_R_send_24 rfl (lv_at hl 0 rfl) ?_
  refine va_get (D := (dC, dI)) (ci := 4) (v := .int (nI mn)) (C := cn_R) (T := ft_R) (N := 27) hx hb htb ki_R hown hK hP 0 rfl rfl 10 (by decide) (htb _ kw_380) (fun _ h9 => h9) rfl dc_R_send_25 ?_
  refine lv_iconst (v := nI 0) hx hb dc_R_send_28 (by decide) ?_
  refine wa_nst (k := mn) (x := 0) hx hb hK hP hD hS 5 0 rfl rfl (by omega) (by omega) dc_R_send_29 (fun H locs hP hD hS => ?_)
  have hP : va_P (dC, dI) clsL [zR r cn mn mi nn, ((r 12), .inl (cI, 104, .inl (va_up vs mn v))), ((r 13), .inl (cI, 104, .inl (nF (va_up tg mn t)))), ((r 15), .inl (cI, 104, .inl (oF sr))), ((r 16), .inl (cI, 104, .inl (nF kn))), ((r 14), .inl (cI, 104, .inl (nF (va_up su mn 0))))] H := hP
  have hD : va_D A [zR r cn mn mi nn, ((r 12), .inl (cI, 104, .inl (va_up vs mn v))), ((r 13), .inl (cI, 104, .inl (nF (va_up tg mn t)))), ((r 15), .inl (cI, 104, .inl (oF sr))), ((r 16), .inl (cI, 104, .inl (nF kn))), ((r 14), .inl (cI, 104, .inl (nF (va_up su mn 0))))] := hD
  refine lv_aload_n hx hb dc_R_send_30 rfl (lv_at hl 0 rfl) ?_
  refine va_get (D := (dC, dI)) (ci := 4) (v := .ref (r 15)) (C := cn_R) (T := ft_R) (N := 27) hx hb htb ki_R hown hK hP 0 rfl rfl 15 (by decide) (htb _ kw_385) (fun _ h9 => h9) rfl dc_R_send_31 ?_
  refine lv_aload_n hx hb dc_R_send_34 rfl (lv_at hl 0 rfl) ?_
  refine va_get (D := (dC, dI)) (ci := 4) (v := .int (nI mn)) (C := cn_R) (T := ft_R) (N := 27) hx hb htb ki_R hown hK hP 0 rfl rfl 10 (by decide) (htb _ kw_380) (fun _ h9 => h9) rfl dc_R_send_35 ?_
  refine lv_iload_n hx hb dc_R_send_38 rfl (lv_at hl 3 rfl) ?_
  refine wa_ost (k := mn) (x := u) hx hb hK hP hD hS 3 0 rfl rfl (by omega) (by omega) dc_R_send_39 (fun H locs hP hD hS => ?_)
  have hP : va_P (dC, dI) clsL [zR r cn mn mi nn, ((r 12), .inl (cI, 104, .inl (va_up vs mn v))), ((r 13), .inl (cI, 104, .inl (nF (va_up tg mn t)))), ((r 15), .inl (cI, 104, .inl (oF (va_up sr mn u)))), ((r 16), .inl (cI, 104, .inl (nF kn))), ((r 14), .inl (cI, 104, .inl (nF (va_up su mn 0))))] H := hP
  have hD : va_D A [zR r cn mn mi nn, ((r 12), .inl (cI, 104, .inl (va_up vs mn v))), ((r 13), .inl (cI, 104, .inl (nF (va_up tg mn t)))), ((r 15), .inl (cI, 104, .inl (oF (va_up sr mn u)))), ((r 16), .inl (cI, 104, .inl (nF kn))), ((r 14), .inl (cI, 104, .inl (nF (va_up su mn 0))))] := hD
  refine lv_aload_n hx hb dc_R_send_40 rfl (lv_at hl 0 rfl) ?_
  refine va_get (D := (dC, dI)) (ci := 4) (v := .ref (r 16)) (C := cn_R) (T := ft_R) (N := 27) hx hb htb ki_R hown hK hP 0 rfl rfl 16 (by decide) (htb _ kw_386) (fun _ h9 => h9) rfl dc_R_send_41 ?_
  refine lv_aload_n hx hb dc_R_send_44 rfl (lv_at hl 0 rfl) ?_
  refine va_get (D := (dC, dI)) (ci := 4) (v := .int (nI mn)) (C := cn_R) (T := ft_R) (N := 27) hx hb htb ki_R hown hK hP 0 rfl rfl 10 (by decide) (htb _ kw_380) (fun _ h9 => h9) rfl dc_R_send_45 ?_
  refine lv_iload hx hb dc_R_send_48 (lv_at hl 4 rfl) ?_
  refine wa_nst (k := mn) (x := w) hx hb hK hP hD hS 4 0 rfl rfl (by omega) (by omega) dc_R_send_50 (fun H locs hP hD hS => ?_)
  have hP : va_P (dC, dI) clsL [zR r cn mn mi nn, ((r 12), .inl (cI, 104, .inl (va_up vs mn v))), ((r 13), .inl (cI, 104, .inl (nF (va_up tg mn t)))), ((r 15), .inl (cI, 104, .inl (oF (va_up sr mn u)))), ((r 16), .inl (cI, 104, .inl (nF (va_up kn mn w)))), ((r 14), .inl (cI, 104, .inl (nF (va_up su mn 0))))] H := hP
  have hD : va_D A [zR r cn mn mi nn, ((r 12), .inl (cI, 104, .inl (va_up vs mn v))), ((r 13), .inl (cI, 104, .inl (nF (va_up tg mn t)))), ((r 15), .inl (cI, 104, .inl (oF (va_up sr mn u)))), ((r 16), .inl (cI, 104, .inl (nF (va_up kn mn w)))), ((r 14), .inl (cI, 104, .inl (nF (va_up su mn 0))))] := hD
  refine lv_aload_n hx hb dc_R_send_51 rfl (lv_at hl 0 rfl) ?_
  refine lv_dup hx hb dc_R_send_52 rfl ?_
  refine va_get (D := (dC, dI)) (ci := 4) (v := .int (nI mn)) (C := cn_R) (T := ft_R) (N := 27) hx hb htb ki_R hown hK hP 0 rfl rfl 10 (by decide) (htb _ kw_380) (fun _ h9 => h9) rfl dc_R_send_53 ?_
  refine lv_iconst (v := nI 1) hx hb dc_R_send_56 (by decide) ?_
  refine lv_iadd hx hb dc_R_send_57 ?_
  refine tp_i (y := nI (mn + 1)) (nI_add _ _) ?_
  refine va_put (D := (dC, dI)) (ci := 4) (v := .int (nI (mn + 1))) (ty := .int) (C := cn_R) (T := ft_R) (N := 27) hx hb htb ki_R fy_R fy_R_ok nm_R_d hown hK hP hD hS 0 rfl rfl 10 (by decide) (htb _ kw_380) (fun _ h9 => h9) rfl (by decide +kernel) rfl rfl (Nat.le_of_ble_eq_true rfl) dc_R_send_58 (fun H locs hP hD hS => ?_)
  have hP : va_P (dC, dI) clsL [zR r cn (mn + 1) mi nn, ((r 12), .inl (cI, 104, .inl (va_up vs mn v))), ((r 13), .inl (cI, 104, .inl (nF (va_up tg mn t)))), ((r 15), .inl (cI, 104, .inl (oF (va_up sr mn u)))), ((r 16), .inl (cI, 104, .inl (nF (va_up kn mn w)))), ((r 14), .inl (cI, 104, .inl (nF (va_up su mn 0))))] H := hP
  have hD : va_D A [zR r cn (mn + 1) mi nn, ((r 12), .inl (cI, 104, .inl (va_up vs mn v))), ((r 13), .inl (cI, 104, .inl (nF (va_up tg mn t)))), ((r 15), .inl (cI, 104, .inl (oF (va_up sr mn u)))), ((r 16), .inl (cI, 104, .inl (nF (va_up kn mn w)))), ((r 14), .inl (cI, 104, .inl (nF (va_up su mn 0))))] := hD
  refine lv_aload_n hx hb dc_R_send_61 rfl (lv_at hl 0 rfl) ?_
  refine va_get (D := (dC, dI)) (ci := 4) (v := .int (nI (mn + 1))) (C := cn_R) (T := ft_R) (N := 27) hx hb htb ki_R hown hK hP 0 rfl rfl 10 (by decide) (htb _ kw_380) (fun _ h9 => h9) rfl dc_R_send_62 ?_
  refine lv_iconst (v := nI 1) hx hb dc_R_send_65 (by decide) ?_
  refine lv_isub hx hb dc_R_send_66 ?_
  refine tp_i (y := nI (mn + 1 - 1)) (pk_sub (by omega)) ?_
  refine tp_i (y := nI mn) (rfl) ?_
  have hP9 := hP.sub (ws' := [zR r cn (mn + 1) mi nn, ((r 12), .inl (cI, 104, .inl (va_up vs mn v))), ((r 13), .inl (cI, 104, .inl (nF (va_up tg mn t)))), ((r 15), .inl (cI, 104, .inl (oF (va_up sr mn u)))), ((r 16), .inl (cI, 104, .inl (nF (va_up kn mn w)))), ((r 14), .inl (cI, 104, .inl (nF (va_up su mn 0))))]) [0, 1, 2, 3, 4, 5] rfl
  have hD9 := hD.sub (ws' := [zR r cn (mn + 1) mi nn, ((r 12), .inl (cI, 104, .inl (va_up vs mn v))), ((r 13), .inl (cI, 104, .inl (nF (va_up tg mn t)))), ((r 15), .inl (cI, 104, .inl (oF (va_up sr mn u)))), ((r 16), .inl (cI, 104, .inl (nF (va_up kn mn w)))), ((r 14), .inl (cI, 104, .inl (nF (va_up su mn 0))))]) [0, 1, 2, 3, 4, 5] (by decide) rfl
  exact W.iret (v := nI mn) hx hb hr (fun t ht hW => ⟨⟨_, (), rfl, rfl, by rw [ht]; exact hP9, va_K.moved hW.alike hK, hD9⟩, hS.F ht⟩) hS.2.2 dc_R_send_67

set_option maxHeartbeats 4000000 in
set_option maxRecDepth 100000 in
theorem oc_R_trace (l : Launch) (dC : Nat → ClassId) (dI : Nat → Nat → Nat) (cI cJ cZ cP : ClassId) (sz : Nat) (r : Nat → Nat) (cn : Nat) (mn : Nat) (mi : Nat) (nn : Nat) (bf : Nat → Option Nat) (rc : Nat → Nat) (sr : Nat → Option Nat) (mk : Nat → Bool) (io : Option Nat) (hio : ∀ i, io = some i → i < cn) (hcn : cn ≤ 40) (hbf : ∀ k, k < cn → ∀ i, bf k = some i → i < 40) (hrc : ∀ k, k < cn → rc k < 104) (hsr : ∀ k, k < cn → ∀ i, sr (rc k) = some i → i < 40) : mt_V l mn_R_trace bc_R_trace 4 none ({ frames := 0, cells := 0, slots := 0, locals := 0 }) (dC, dI) (TYS cI cJ cZ cP) sz [.ref (r 0), .int (oI io)] [zR r cn mn mi nn, ((r 1), .inl (cI, 40, .inl (oF bf))), ((r 2), .inl (cI, 40, .inl (nF rc))), ((r 15), .inl (cI, 104, .inl (oF sr))), ((r 9), .inl (cZ, 40, .inl (bF mk)))] [zR r cn mn mi nn, ((r 1), .inl (cI, 40, .inl (oF bf))), ((r 2), .inl (cI, 40, .inl (nF rc))), ((r 15), .inl (cI, 104, .inl (oF sr))), ((r 9), .inl (cZ, 40, .inl (bF (tr_M bf rc sr mk io))))] 0 0 := by
  unfold mt_V
  refine Met.ofW (cc := bc_R_trace) (maxL := 4) (ret := none) (by decide) rfl ?_
  intro p e s m args below meth c s₁ B hml hv
  obtain ⟨rfl, hsz, hP, hK, hD0⟩ := hv
  have hx := B.exec
  have hb := B.bytes
  have hr := B.returns
  have hts := atoms_spec (ws := wsT mn_R_trace bc_R_trace 4 none) B.pre
  have htb : ∀ w ∈ gtbl, w.before _ s = true := fun w h => hts w (List.mem_cons_of_mem _ h)
  have hown : s.vm.findClass cn_R = some m.cls := findClass_of_methodNamed B.named
  have hlocks := B.notSynchronized
  subst hsz
  have hD := hD0.self (sz := s.heap.size)
  generalize hAe : va_A [zR r cn mn mi nn, ((r 1), .inl (cI, 40, .inl (oF bf))), ((r 2), .inl (cI, 40, .inl (nF rc))), ((r 15), .inl (cI, 104, .inl (oF sr))), ((r 9), .inl (cZ, 40, .inl (bF mk)))] s.heap.size = A at hD ⊢
  have hA : ∀ q : Nat, s.heap.size ≤ q → A q := fun q h => by rw [← hAe]; exact Or.inr h
  have hS : va_S A s.heap s.heap [] := va_S.rf
  have hP : va_P (dC, dI) clsL [zR r cn mn mi nn, ((r 1), .inl (cI, 40, .inl (oF bf))), ((r 2), .inl (cI, 40, .inl (nF rc))), ((r 15), .inl (cI, 104, .inl (oF sr))), ((r 9), .inl (cZ, 40, .inl (bF mk)))] s.heap := hP
  have hl := lv_entry ([.ref (r 0), .int (oI io)]) (n := 4) (Nat.le_of_ble_eq_true rfl)
  rw [lg_entry_eq]
  generalize (lg_sl ([.ref (r 0), .int (oI io)]) ++ List.replicate (4 - (lg_sl ([.ref (r 0), .int (oI io)])).length) Slot.unset).toArray = ls at hl ⊢
  have hl : lv_has ls 4 [(0, .ref (r 0)), (1, .int (oI io))] := hl
  refine lv_iconst (v := nI 0) hx hb dc_R_trace_0 (by decide) ?_
  refine lv_istore_n (lv' := [(2, .int (nI 0)), (0, .ref (r 0)), (1, .int (oI io))]) hx hb dc_R_trace_1 rfl hl (by decide) rfl (fun ls hl => ?_)
  refine wl_ 2 (fun (x : Nat × (Nat → Bool)) => 40 - x.1) (fun (x : Nat × (Nat → Bool)) (H : Heap) (locs : List Loc) (ls : Array Slot) => (x.1 ≤ 40 ∧ x.2 = tr_0 mk io x.1) ∧ va_P (dC, dI) clsL [zR r cn mn mi nn, ((r 1), .inl (cI, 40, .inl (oF bf))), ((r 2), .inl (cI, 40, .inl (nF rc))), ((r 15), .inl (cI, 104, .inl (oF sr))), ((r 9), .inl (cZ, 40, .inl (bF x.2)))] H ∧ va_D A [zR r cn mn mi nn, ((r 1), .inl (cI, 40, .inl (oF bf))), ((r 2), .inl (cI, 40, .inl (nF rc))), ((r 15), .inl (cI, 104, .inl (oF sr))), ((r 9), .inl (cZ, 40, .inl (bF x.2)))] ∧ va_S A s.heap H locs ∧ lv_has ls 4 [(2, .int (nI x.1)), (1, .int (oI io)), (0, .ref (r 0))]) ?_ (0, mk) _ _ _ ⟨⟨Nat.zero_le _, by rw [tr_00]⟩, hP, hD, hS, lv_sub hl [0, 2, 1] rfl⟩
  rintro ⟨k, g⟩ H locs ls ⟨hI, hP, hD, hS, hl⟩ ih2
  replace hI : k ≤ 40 ∧ g = tr_0 mk io k := hI
  replace hP : va_P (dC, dI) clsL [zR r cn mn mi nn, ((r 1), .inl (cI, 40, .inl (oF bf))), ((r 2), .inl (cI, 40, .inl (nF rc))), ((r 15), .inl (cI, 104, .inl (oF sr))), ((r 9), .inl (cZ, 40, .inl (bF g)))] H := hP
  replace hD : va_D A [zR r cn mn mi nn, ((r 1), .inl (cI, 40, .inl (oF bf))), ((r 2), .inl (cI, 40, .inl (nF rc))), ((r 15), .inl (cI, 104, .inl (oF sr))), ((r 9), .inl (cZ, 40, .inl (bF g)))] := hD
  replace hl : lv_has ls 4 [(2, .int (nI k)), (1, .int (oI io)), (0, .ref (r 0))] := hl
  have hk1 := hI.1
  refine lv_iload_n hx hb dc_R_trace_2 rfl (lv_at hl 0 rfl) ?_
  refine lv_bipush (v := nI 40) hx hb dc_R_trace_3 (by decide) ?_
  refine lv_icmp_ge (tgt := 30) hx hb dc_R_trace_5 (by decide) (fun hc => ?_) (fun hc => ?_)
  · have hk : 40 ≤ k := (nI_leI (by omega) (by omega)).mp hc
    obtain rfl : k = 40 := by omega
    refine lv_iload_n hx hb dc_R_trace_30 rfl (lv_at hl 1 rfl) ?_
    refine tp_i (y := oI (pd_ (pu_ io))) (by rw [pd_pu]) ?_
    refine lv_istore_n (lv' := [(2, .int (oI (pd_ (pu_ io)))), (1, .int (oI io)), (0, .ref (r 0))]) hx hb dc_R_trace_31 rfl hl (by decide) rfl (fun ls hl => ?_)
    refine wl_ 32 (fun (x : Nat × (Nat → Bool)) => x.1) (fun (x : Nat × (Nat → Bool)) (H : Heap) (locs : List Loc) (ls : Array Slot) => (x.1 ≤ cn ∧ tr_S bf rc sr x.1 x.2 = (tr_M bf rc sr mk io)) ∧ va_P (dC, dI) clsL [zR r cn mn mi nn, ((r 1), .inl (cI, 40, .inl (oF bf))), ((r 2), .inl (cI, 40, .inl (nF rc))), ((r 15), .inl (cI, 104, .inl (oF sr))), ((r 9), .inl (cZ, 40, .inl (bF x.2)))] H ∧ va_D A [zR r cn mn mi nn, ((r 1), .inl (cI, 40, .inl (oF bf))), ((r 2), .inl (cI, 40, .inl (nF rc))), ((r 15), .inl (cI, 104, .inl (oF sr))), ((r 9), .inl (cZ, 40, .inl (bF x.2)))] ∧ va_S A s.heap H locs ∧ lv_has ls 4 [(2, .int (oI (pd_ x.1))), (1, .int (oI io)), (0, .ref (r 0))]) ?_ ((pu_ io), g) _ _ _ ⟨⟨pu_le hio, by rw [hI.2]; rfl⟩, hP, hD, hS, lv_sub hl [0, 1, 2] rfl⟩
    rintro ⟨kk, g⟩ H locs ls ⟨hI, hP, hD, hS, hl⟩ ih32
    replace hI : kk ≤ cn ∧ tr_S bf rc sr kk g = (tr_M bf rc sr mk io) := hI
    replace hP : va_P (dC, dI) clsL [zR r cn mn mi nn, ((r 1), .inl (cI, 40, .inl (oF bf))), ((r 2), .inl (cI, 40, .inl (nF rc))), ((r 15), .inl (cI, 104, .inl (oF sr))), ((r 9), .inl (cZ, 40, .inl (bF g)))] H := hP
    replace hD : va_D A [zR r cn mn mi nn, ((r 1), .inl (cI, 40, .inl (oF bf))), ((r 2), .inl (cI, 40, .inl (nF rc))), ((r 15), .inl (cI, 104, .inl (oF sr))), ((r 9), .inl (cZ, 40, .inl (bF g)))] := hD
    replace hl : lv_has ls 4 [(2, .int (oI (pd_ kk))), (1, .int (oI io)), (0, .ref (r 0))] := hl
    have hk2 := hI.1
    refine lv_iload_n hx hb dc_R_trace_32 rfl (lv_at hl 0 rfl) ?_
    refine lv_if_lt (tgt := 95) hx hb dc_R_trace_33 (by decide) (fun hc => ?_) (fun hc => ?_)
    · have h3 : (pd_ kk) = none := (oI_neg (pd_lt (by omega))).mp hc
      have hP8 := hP.sub (ws' := [zR r cn mn mi nn, ((r 1), .inl (cI, 40, .inl (oF bf))), ((r 2), .inl (cI, 40, .inl (nF rc))), ((r 15), .inl (cI, 104, .inl (oF sr))), ((r 9), .inl (cZ, 40, .inl (bF g)))]) [0, 1, 2, 3, 4] rfl
      have hD8 := hD.sub (ws' := [zR r cn mn mi nn, ((r 1), .inl (cI, 40, .inl (oF bf))), ((r 2), .inl (cI, 40, .inl (nF rc))), ((r 15), .inl (cI, 104, .inl (oF sr))), ((r 9), .inl (cZ, 40, .inl (bF g)))]) [0, 1, 2, 3, 4] (by decide) rfl
      have hW8 : ([zR r cn mn mi nn, ((r 1), .inl (cI, 40, .inl (oF bf))), ((r 2), .inl (cI, 40, .inl (nF rc))), ((r 15), .inl (cI, 104, .inl (oF sr))), ((r 9), .inl (cZ, 40, .inl (bF g)))] : va_W) = [zR r cn mn mi nn, ((r 1), .inl (cI, 40, .inl (oF bf))), ((r 2), .inl (cI, 40, .inl (nF rc))), ((r 15), .inl (cI, 104, .inl (oF sr))), ((r 9), .inl (cZ, 40, .inl (bF (tr_M bf rc sr mk io))))] := by rw [← hI.2, show kk = 0 from pd_none h3]; rfl
      rw [hW8] at hP8 hD8
      have hP9 := hP8
      have hD9 := hD8
      exact W.vret hx hb hr (fun t ht hW => ⟨⟨(), rfl, trivial, by rw [ht]; exact hP9, va_K.moved hW.alike hK, hD9⟩, hS.F ht⟩) hS.2.2 dc_R_trace_95
    · have h3 : ¬ (pd_ kk) = none := fun h9 => hc ((oI_neg (pd_lt (by omega))).mpr h9)
      obtain ⟨q, hq⟩ : ∃ q, kk = q + 1 := pd_some h3
      have hqc : q < cn := by omega
      refine lv_aload_n hx hb dc_R_trace_36 rfl (lv_at hl 2 rfl) ?_
      refine va_get (D := (dC, dI)) (ci := 4) (v := .ref (r 9)) (C := cn_R) (T := ft_R) (N := 27) hx hb htb ki_R hown hK hP 0 rfl rfl 9 (by decide) (htb _ kw_379) (fun _ h9 => h9) rfl dc_R_trace_37 ?_
      refine lv_iload_n hx hb dc_R_trace_40 rfl (lv_at hl 0 rfl) ?_
      refine tp_i (y := nI q) (by rw [hq]; rfl) ?_
      refine wa_bld (k := q) hx hb hK hP 4 2 rfl rfl (by omega) (by omega) dc_R_trace_41 ?_
      refine lv_if_eq (tgt := 89) hx hb dc_R_trace_42 (by decide) (fun hc => ?_) (fun hc => ?_)
      · have h4 : g q = false := bI_0.mp hc
        refine lv_iinc (k := 0) (v := oI (pd_ q)) (lv' := [(2, .int (oI (pd_ q))), (1, .int (oI io)), (0, .ref (r 0))]) hx hb dc_R_trace_89 hl rfl (by rw [hq]; exact pd_dec (by omega)) (by decide) rfl (fun ls hl => ?_)
        refine lv_goto (tgt := 32) hx hb dc_R_trace_92 (by decide) ?_
        exact ih32 (q, g) H locs ls (by first | omega | (dsimp only; omega)) ⟨⟨by first | omega | (dsimp only; omega), by rw [← hI.2, hq]; simp [tr_S, *]⟩, hP, hD, hS, lv_sub hl [0, 1, 2] rfl⟩
      · have h4 : g q = true := bI_n0.mp hc
        refine lv_aload_n hx hb dc_R_trace_45 rfl (lv_at hl 2 rfl) ?_
        refine va_get (D := (dC, dI)) (ci := 4) (v := .ref (r 1)) (C := cn_R) (T := ft_R) (N := 27) hx hb htb ki_R hown hK hP 0 rfl rfl 1 (by decide) (htb _ kw_371) (fun _ h9 => h9) rfl dc_R_trace_46 ?_
        refine lv_iload_n hx hb dc_R_trace_49 rfl (lv_at hl 0 rfl) ?_
        refine tp_i (y := nI q) (by rw [hq]; rfl) ?_
        refine wa_old (k := q) hx hb hK hP 1 0 rfl rfl (by omega) (by omega) dc_R_trace_50 ?_
        refine lv_if_lt (tgt := 66) hx hb dc_R_trace_51 (by decide) (fun hc => ?_) (fun hc => ?_)
        · have h5 : bf q = none := (oI_neg (fun i w => by have := hbf q hqc i w; omega)).mp hc
          refine lv_aload_n hx hb dc_R_trace_66 rfl (lv_at hl 2 rfl) ?_
          refine va_get (D := (dC, dI)) (ci := 4) (v := .ref (r 15)) (C := cn_R) (T := ft_R) (N := 27) hx hb htb ki_R hown hK hP 0 rfl rfl 15 (by decide) (htb _ kw_385) (fun _ h9 => h9) rfl dc_R_trace_67 ?_
          refine lv_aload_n hx hb dc_R_trace_70 rfl (lv_at hl 2 rfl) ?_
          refine va_get (D := (dC, dI)) (ci := 4) (v := .ref (r 2)) (C := cn_R) (T := ft_R) (N := 27) hx hb htb ki_R hown hK hP 0 rfl rfl 2 (by decide) (htb _ kw_372) (fun _ h9 => h9) rfl dc_R_trace_71 ?_
          refine lv_iload_n hx hb dc_R_trace_74 rfl (lv_at hl 0 rfl) ?_
          refine tp_i (y := nI q) (by rw [hq]; rfl) ?_
          refine wa_nld (k := q) hx hb hK hP 2 0 rfl rfl (by omega) (by omega) dc_R_trace_75 ?_
          refine wa_old (k := rc q) hx hb hK hP 3 0 rfl rfl (hrc q hqc) (by omega) dc_R_trace_76 ?_
          refine lv_istore_n (lv' := [(3, .int (oI (sr (rc q)))), (2, .int (oI (pd_ kk))), (1, .int (oI io)), (0, .ref (r 0))]) hx hb dc_R_trace_77 rfl hl (by decide) rfl (fun ls hl => ?_)
          refine lv_iload_n hx hb dc_R_trace_78 rfl (lv_at hl 0 rfl) ?_
          refine lv_if_lt (tgt := 89) hx hb dc_R_trace_79 (by decide) (fun hc => ?_) (fun hc => ?_)
          · have h6 : sr (rc q) = none := (oI_neg (fun i w => by have := hsr q hqc i w; omega)).mp hc
            refine lv_iinc (k := 1) (v := oI (pd_ q)) (lv' := [(2, .int (oI (pd_ q))), (3, .int (oI (sr (rc q)))), (1, .int (oI io)), (0, .ref (r 0))]) hx hb dc_R_trace_89 hl rfl (by rw [hq]; exact pd_dec (by omega)) (by decide) rfl (fun ls hl => ?_)
            refine lv_goto (tgt := 32) hx hb dc_R_trace_92 (by decide) ?_
            exact ih32 (q, g) H locs ls (by first | omega | (dsimp only; omega)) ⟨⟨by first | omega | (dsimp only; omega), by rw [← hI.2, hq]; simp [tr_S, *]⟩, hP, hD, hS, lv_sub hl [0, 2, 3] rfl⟩
          · have h6 : ¬ sr (rc q) = none := fun h9 => hc ((oI_neg (fun i w => by have := hsr q hqc i w; omega)).mpr h9)
            obtain ⟨s9, hs9⟩ : ∃ i, sr (rc q) = some i := Option.ne_none_iff_exists'.mp h6
            have hs40 := hsr q hqc s9 hs9
            refine lv_aload_n hx hb dc_R_trace_82 rfl (lv_at hl 3 rfl) ?_
            refine va_get (D := (dC, dI)) (ci := 4) (v := .ref (r 9)) (C := cn_R) (T := ft_R) (N := 27) hx hb htb ki_R hown hK hP 0 rfl rfl 9 (by decide) (htb _ kw_379) (fun _ h9 => h9) rfl dc_R_trace_83 ?_
            refine lv_iload_n hx hb dc_R_trace_86 rfl (lv_at hl 0 rfl) ?_
            refine tp_i (y := nI s9) (by rw [hs9]; rfl) ?_
            refine lv_iconst (v := nI 1) hx hb dc_R_trace_87 (by decide) ?_
            refine tp_i (y := bI true) (rfl) ?_
            refine wa_bst (k := s9) (x := true) hx hb hK hP hD hS 4 2 rfl rfl (by omega) (by omega) dc_R_trace_88 (fun H locs hP hD hS => ?_)
            have hP : va_P (dC, dI) clsL [zR r cn mn mi nn, ((r 1), .inl (cI, 40, .inl (oF bf))), ((r 2), .inl (cI, 40, .inl (nF rc))), ((r 15), .inl (cI, 104, .inl (oF sr))), ((r 9), .inl (cZ, 40, .inl (bF (va_up g s9 true))))] H := hP
            have hD : va_D A [zR r cn mn mi nn, ((r 1), .inl (cI, 40, .inl (oF bf))), ((r 2), .inl (cI, 40, .inl (nF rc))), ((r 15), .inl (cI, 104, .inl (oF sr))), ((r 9), .inl (cZ, 40, .inl (bF (va_up g s9 true))))] := hD
            refine lv_iinc (k := 1) (v := oI (pd_ q)) (lv' := [(2, .int (oI (pd_ q))), (3, .int (oI (sr (rc q)))), (1, .int (oI io)), (0, .ref (r 0))]) hx hb dc_R_trace_89 hl rfl (by rw [hq]; exact pd_dec (by omega)) (by decide) rfl (fun ls hl => ?_)
            refine lv_goto (tgt := 32) hx hb dc_R_trace_92 (by decide) ?_
            exact ih32 (q, va_up g s9 true) H locs ls (by first | omega | (dsimp only; omega)) ⟨⟨by first | omega | (dsimp only; omega), by rw [← hI.2, hq]; simp [tr_S, *]⟩, hP, hD, hS, lv_sub hl [0, 2, 3] rfl⟩
        · have h5 : ¬ bf q = none := fun h9 => hc ((oI_neg (fun i w => by have := hbf q hqc i w; omega)).mpr h9)
          obtain ⟨b9, hb9⟩ : ∃ i, bf q = some i := Option.ne_none_iff_exists'.mp h5
          have hb40 := hbf q hqc b9 hb9
          refine lv_aload_n hx hb dc_R_trace_54 rfl (lv_at hl 2 rfl) ?_
          refine va_get (D := (dC, dI)) (ci := 4) (v := .ref (r 9)) (C := cn_R) (T := ft_R) (N := 27) hx hb htb ki_R hown hK hP 0 rfl rfl 9 (by decide) (htb _ kw_379) (fun _ h9 => h9) rfl dc_R_trace_55 ?_
          refine lv_aload_n hx hb dc_R_trace_58 rfl (lv_at hl 2 rfl) ?_
          refine va_get (D := (dC, dI)) (ci := 4) (v := .ref (r 1)) (C := cn_R) (T := ft_R) (N := 27) hx hb htb ki_R hown hK hP 0 rfl rfl 1 (by decide) (htb _ kw_371) (fun _ h9 => h9) rfl dc_R_trace_59 ?_
          refine lv_iload_n hx hb dc_R_trace_62 rfl (lv_at hl 0 rfl) ?_
          refine tp_i (y := nI q) (by rw [hq]; rfl) ?_
          refine wa_old (k := q) hx hb hK hP 1 0 rfl rfl (by omega) (by omega) dc_R_trace_63 ?_
          refine tp_i (y := nI b9) (by rw [hb9]; rfl) ?_
          refine lv_iconst (v := nI 1) hx hb dc_R_trace_64 (by decide) ?_
          refine tp_i (y := bI true) (rfl) ?_
          refine wa_bst (k := b9) (x := true) hx hb hK hP hD hS 4 2 rfl rfl (by omega) (by omega) dc_R_trace_65 (fun H locs hP hD hS => ?_)
          have hP : va_P (dC, dI) clsL [zR r cn mn mi nn, ((r 1), .inl (cI, 40, .inl (oF bf))), ((r 2), .inl (cI, 40, .inl (nF rc))), ((r 15), .inl (cI, 104, .inl (oF sr))), ((r 9), .inl (cZ, 40, .inl (bF (va_up g b9 true))))] H := hP
          have hD : va_D A [zR r cn mn mi nn, ((r 1), .inl (cI, 40, .inl (oF bf))), ((r 2), .inl (cI, 40, .inl (nF rc))), ((r 15), .inl (cI, 104, .inl (oF sr))), ((r 9), .inl (cZ, 40, .inl (bF (va_up g b9 true))))] := hD
          refine lv_aload_n hx hb dc_R_trace_66 rfl (lv_at hl 2 rfl) ?_
          refine va_get (D := (dC, dI)) (ci := 4) (v := .ref (r 15)) (C := cn_R) (T := ft_R) (N := 27) hx hb htb ki_R hown hK hP 0 rfl rfl 15 (by decide) (htb _ kw_385) (fun _ h9 => h9) rfl dc_R_trace_67 ?_
          refine lv_aload_n hx hb dc_R_trace_70 rfl (lv_at hl 2 rfl) ?_
          refine va_get (D := (dC, dI)) (ci := 4) (v := .ref (r 2)) (C := cn_R) (T := ft_R) (N := 27) hx hb htb ki_R hown hK hP 0 rfl rfl 2 (by decide) (htb _ kw_372) (fun _ h9 => h9) rfl dc_R_trace_71 ?_
          refine lv_iload_n hx hb dc_R_trace_74 rfl (lv_at hl 0 rfl) ?_
          refine tp_i (y := nI q) (by rw [hq]; rfl) ?_
          refine wa_nld (k := q) hx hb hK hP 2 0 rfl rfl (by omega) (by omega) dc_R_trace_75 ?_
          refine wa_old (k := rc q) hx hb hK hP 3 0 rfl rfl (hrc q hqc) (by omega) dc_R_trace_76 ?_
          refine lv_istore_n (lv' := [(3, .int (oI (sr (rc q)))), (2, .int (oI (pd_ kk))), (1, .int (oI io)), (0, .ref (r 0))]) hx hb dc_R_trace_77 rfl hl (by decide) rfl (fun ls hl => ?_)
          refine lv_iload_n hx hb dc_R_trace_78 rfl (lv_at hl 0 rfl) ?_
          refine lv_if_lt (tgt := 89) hx hb dc_R_trace_79 (by decide) (fun hc => ?_) (fun hc => ?_)
          · have h6 : sr (rc q) = none := (oI_neg (fun i w => by have := hsr q hqc i w; omega)).mp hc
            refine lv_iinc (k := 1) (v := oI (pd_ q)) (lv' := [(2, .int (oI (pd_ q))), (3, .int (oI (sr (rc q)))), (1, .int (oI io)), (0, .ref (r 0))]) hx hb dc_R_trace_89 hl rfl (by rw [hq]; exact pd_dec (by omega)) (by decide) rfl (fun ls hl => ?_)
            refine lv_goto (tgt := 32) hx hb dc_R_trace_92 (by decide) ?_
            exact ih32 (q, va_up g b9 true) H locs ls (by first | omega | (dsimp only; omega)) ⟨⟨by first | omega | (dsimp only; omega), by rw [← hI.2, hq]; simp [tr_S, *]⟩, hP, hD, hS, lv_sub hl [0, 2, 3] rfl⟩
          · have h6 : ¬ sr (rc q) = none := fun h9 => hc ((oI_neg (fun i w => by have := hsr q hqc i w; omega)).mpr h9)
            obtain ⟨s9, hs9⟩ : ∃ i, sr (rc q) = some i := Option.ne_none_iff_exists'.mp h6
            have hs40 := hsr q hqc s9 hs9
            refine lv_aload_n hx hb dc_R_trace_82 rfl (lv_at hl 3 rfl) ?_
            refine va_get (D := (dC, dI)) (ci := 4) (v := .ref (r 9)) (C := cn_R) (T := ft_R) (N := 27) hx hb htb ki_R hown hK hP 0 rfl rfl 9 (by decide) (htb _ kw_379) (fun _ h9 => h9) rfl dc_R_trace_83 ?_
            refine lv_iload_n hx hb dc_R_trace_86 rfl (lv_at hl 0 rfl) ?_
            refine tp_i (y := nI s9) (by rw [hs9]; rfl) ?_
            refine lv_iconst (v := nI 1) hx hb dc_R_trace_87 (by decide) ?_
            refine tp_i (y := bI true) (rfl) ?_
            refine wa_bst (k := s9) (x := true) hx hb hK hP hD hS 4 2 rfl rfl (by omega) (by omega) dc_R_trace_88 (fun H locs hP hD hS => ?_)
            have hP : va_P (dC, dI) clsL [zR r cn mn mi nn, ((r 1), .inl (cI, 40, .inl (oF bf))), ((r 2), .inl (cI, 40, .inl (nF rc))), ((r 15), .inl (cI, 104, .inl (oF sr))), ((r 9), .inl (cZ, 40, .inl (bF (va_up (va_up g b9 true) s9 true))))] H := hP
            have hD : va_D A [zR r cn mn mi nn, ((r 1), .inl (cI, 40, .inl (oF bf))), ((r 2), .inl (cI, 40, .inl (nF rc))), ((r 15), .inl (cI, 104, .inl (oF sr))), ((r 9), .inl (cZ, 40, .inl (bF (va_up (va_up g b9 true) s9 true))))] := hD
            refine lv_iinc (k := 1) (v := oI (pd_ q)) (lv' := [(2, .int (oI (pd_ q))), (3, .int (oI (sr (rc q)))), (1, .int (oI io)), (0, .ref (r 0))]) hx hb dc_R_trace_89 hl rfl (by rw [hq]; exact pd_dec (by omega)) (by decide) rfl (fun ls hl => ?_)
            refine lv_goto (tgt := 32) hx hb dc_R_trace_92 (by decide) ?_
            exact ih32 (q, va_up (va_up g b9 true) s9 true) H locs ls (by first | omega | (dsimp only; omega)) ⟨⟨by first | omega | (dsimp only; omega), by rw [← hI.2, hq]; simp [tr_S, *]⟩, hP, hD, hS, lv_sub hl [0, 2, 3] rfl⟩
  · have hk : k < 40 := Nat.lt_of_not_le (fun h9 => hc ((nI_leI (by omega) (by omega)).mpr h9))
    refine lv_aload_n hx hb dc_R_trace_8 rfl (lv_at hl 2 rfl) ?_
    refine va_get (D := (dC, dI)) (ci := 4) (v := .ref (r 9)) (C := cn_R) (T := ft_R) (N := 27) hx hb htb ki_R hown hK hP 0 rfl rfl 9 (by decide) (htb _ kw_379) (fun _ h9 => h9) rfl dc_R_trace_9 ?_
    refine lv_iload_n hx hb dc_R_trace_12 rfl (lv_at hl 0 rfl) ?_
    refine lv_iload_n hx hb dc_R_trace_13 rfl (lv_at hl 0 rfl) ?_
    refine lv_iload_n hx hb dc_R_trace_14 rfl (lv_at hl 1 rfl) ?_
    refine lv_icmp_ne (tgt := 22) hx hb dc_R_trace_15 (by decide) (fun hc => ?_) (fun hc => ?_)
    · have h2 : ¬ io = some k := fun h9 => hc ((nI_o_ (fun i q => by have := hio i q; omega) (by omega)).mpr h9)
      refine lv_iconst (v := nI 0) hx hb dc_R_trace_22 (by decide) ?_
      refine tp_i (y := bI false) (rfl) ?_
      refine wa_bst (k := k) (x := false) hx hb hK hP hD hS 4 2 rfl rfl (by omega) (by omega) dc_R_trace_23 (fun H locs hP hD hS => ?_)
      have hP : va_P (dC, dI) clsL [zR r cn mn mi nn, ((r 1), .inl (cI, 40, .inl (oF bf))), ((r 2), .inl (cI, 40, .inl (nF rc))), ((r 15), .inl (cI, 104, .inl (oF sr))), ((r 9), .inl (cZ, 40, .inl (bF (va_up g k false))))] H := hP
      have hD : va_D A [zR r cn mn mi nn, ((r 1), .inl (cI, 40, .inl (oF bf))), ((r 2), .inl (cI, 40, .inl (nF rc))), ((r 15), .inl (cI, 104, .inl (oF sr))), ((r 9), .inl (cZ, 40, .inl (bF (va_up g k false))))] := hD
      refine lv_iinc (k := 0) (v := nI (k + 1)) (lv' := [(2, .int (nI (k + 1))), (1, .int (oI io)), (0, .ref (r 0))]) hx hb dc_R_trace_24 hl rfl (nI_inc1 _) (by decide) rfl (fun ls hl => ?_)
      refine lv_goto (tgt := 2) hx hb dc_R_trace_27 (by decide) ?_
      exact ih2 (k + 1, va_up g k false) H locs ls (by first | omega | (dsimp only; omega)) ⟨⟨by first | omega | (dsimp only; omega), by rw [hI.2]; simp [tr_0_s, h2]⟩, hP, hD, hS, lv_sub hl [0, 1, 2] rfl⟩
    · have h2 : io = some k := (nI_o_ (fun i q => by have := hio i q; omega) (by omega)).mp hc
      refine lv_iconst (v := nI 1) hx hb dc_R_trace_18 (by decide) ?_
      refine tp_i (y := bI true) (rfl) ?_
      refine lv_goto (tgt := 23) hx hb dc_R_trace_19 (by decide) ?_
      refine wa_bst (k := k) (x := true) hx hb hK hP hD hS 4 2 rfl rfl (by omega) (by omega) dc_R_trace_23 (fun H locs hP hD hS => ?_)
      have hP : va_P (dC, dI) clsL [zR r cn mn mi nn, ((r 1), .inl (cI, 40, .inl (oF bf))), ((r 2), .inl (cI, 40, .inl (nF rc))), ((r 15), .inl (cI, 104, .inl (oF sr))), ((r 9), .inl (cZ, 40, .inl (bF (va_up g k true))))] H := hP
      have hD : va_D A [zR r cn mn mi nn, ((r 1), .inl (cI, 40, .inl (oF bf))), ((r 2), .inl (cI, 40, .inl (nF rc))), ((r 15), .inl (cI, 104, .inl (oF sr))), ((r 9), .inl (cZ, 40, .inl (bF (va_up g k true))))] := hD
      refine lv_iinc (k := 0) (v := nI (k + 1)) (lv' := [(2, .int (nI (k + 1))), (1, .int (oI io)), (0, .ref (r 0))]) hx hb dc_R_trace_24 hl rfl (nI_inc1 _) (by decide) rfl (fun ls hl => ?_)
      refine lv_goto (tgt := 2) hx hb dc_R_trace_27 (by decide) ?_
      exact ih2 (k + 1, va_up g k true) H locs ls (by first | omega | (dsimp only; omega)) ⟨⟨by first | omega | (dsimp only; omega), by rw [hI.2]; simp [tr_0_s, h2]⟩, hP, hD, hS, lv_sub hl [0, 1, 2] rfl⟩

set_option maxHeartbeats 4000000 in
set_option maxRecDepth 100000 in
theorem oc_R_isHit (l : Launch) (dC : Nat → ClassId) (dI : Nat → Nat → Nat) (cI cJ cZ cP : ClassId) (sz : Nat) (r : Nat → Nat) (cn : Nat) (mn : Nat) (mi : Nat) (nn : Nat) (bf : Nat → Option Nat) (rc : Nat → Nat) (sr : Nat → Option Nat) (mk : Nat → Bool) (an : Nat → Option Nat) (io : Option Nat) (x1 : Nat) (x2 : Nat) (hio : ∀ i, io = some i → i < cn) (hcn : cn ≤ 40) (hbf : ∀ k, k < cn → ∀ i, bf k = some i → i < 40) (hrc : ∀ k, k < cn → rc k < 104) (hsr : ∀ k, k < cn → ∀ i, sr (rc k) = some i → i < 40) : mt_Ix l mn_R_isHit bc_R_isHit 6 (some .boolean) ({ frames := 1, cells := 0, slots := 0, locals := 23 }) (dC, dI) (TYS cI cJ cZ cP) sz [.ref (r 0), .int (oI io), .int (nI x1), .int (nI x2)] [zR r cn mn mi nn, ((r 1), .inl (cI, 40, .inl (oF bf))), ((r 2), .inl (cI, 40, .inl (nF rc))), ((r 15), .inl (cI, 104, .inl (oF sr))), ((r 9), .inl (cZ, 40, .inl (bF mk))), ((r 7), .inl (cI, 40, .inl (oF an)))] (fun (mkz : Nat → Bool) => [zR r cn mn mi nn, ((r 1), .inl (cI, 40, .inl (oF bf))), ((r 2), .inl (cI, 40, .inl (nF rc))), ((r 15), .inl (cI, 104, .inl (oF sr))), ((r 9), .inl (cZ, 40, .inl (bF mkz))), ((r 7), .inl (cI, 40, .inl (oF an)))]) (bI (hi_B bf rc sr an io x1 x2 cn)) 0 0 := by
  unfold mt_Ix
  refine Met.ofW (cc := bc_R_isHit) (maxL := 6) (ret := (some .boolean)) (by decide) rfl ?_
  intro p e s m args below meth c s₁ B hml hv
  obtain ⟨rfl, hsz, hP, hK, hD0⟩ := hv
  have hx := B.exec
  have hb := B.bytes
  have hr := B.returns
  have hts := atoms_spec (ws := wsT mn_R_isHit bc_R_isHit 6 (some .boolean)) B.pre
  have htb : ∀ w ∈ gtbl, w.before _ s = true := fun w h => hts w (List.mem_cons_of_mem _ h)
  have hown : s.vm.findClass cn_R = some m.cls := findClass_of_methodNamed B.named
  have hlocks := B.notSynchronized
  subst hsz
  have hD := hD0.self (sz := s.heap.size)
  generalize hAe : va_A [zR r cn mn mi nn, ((r 1), .inl (cI, 40, .inl (oF bf))), ((r 2), .inl (cI, 40, .inl (nF rc))), ((r 15), .inl (cI, 104, .inl (oF sr))), ((r 9), .inl (cZ, 40, .inl (bF mk))), ((r 7), .inl (cI, 40, .inl (oF an)))] s.heap.size = A at hD ⊢
  have hA : ∀ q : Nat, s.heap.size ≤ q → A q := fun q h => by rw [← hAe]; exact Or.inr h
  have hS : va_S A s.heap s.heap [] := va_S.rf
  have hP : va_P (dC, dI) clsL [zR r cn mn mi nn, ((r 1), .inl (cI, 40, .inl (oF bf))), ((r 2), .inl (cI, 40, .inl (nF rc))), ((r 15), .inl (cI, 104, .inl (oF sr))), ((r 9), .inl (cZ, 40, .inl (bF mk))), ((r 7), .inl (cI, 40, .inl (oF an)))] s.heap := hP
  have hl := lv_entry ([.ref (r 0), .int (oI io), .int (nI x1), .int (nI x2)]) (n := 6) (Nat.le_of_ble_eq_true rfl)
  rw [lg_entry_eq]
  generalize (lg_sl ([.ref (r 0), .int (oI io), .int (nI x1), .int (nI x2)]) ++ List.replicate (6 - (lg_sl ([.ref (r 0), .int (oI io), .int (nI x1), .int (nI x2)])).length) Slot.unset).toArray = ls at hl ⊢
  have hl : lv_has ls 6 [(0, .ref (r 0)), (1, .int (oI io)), (2, .int (nI x1)), (3, .int (nI x2))] := hl
  refine lv_aload_n hx hb dc_R_isHit_0 rfl (lv_at hl 0 rfl) ?_
  refine lv_iload_n hx hb dc_R_isHit_1 rfl (lv_at hl 1 rfl) ?_
  refine cl_v (wc := [zR r cn mn mi nn, ((r 1), .inl (cI, 40, .inl (oF bf))), ((r 2), .inl (cI, 40, .inl (nF rc))), ((r 15), .inl (cI, 104, .inl (oF sr))), ((r 9), .inl (cZ, 40, .inl (bF mk)))]) (wr := [((r 7), .inl (cI, 40, .inl (oF an)))]) (w1 := [zR r cn mn mi nn, ((r 1), .inl (cI, 40, .inl (oF bf))), ((r 2), .inl (cI, 40, .inl (nF rc))), ((r 15), .inl (cI, 104, .inl (oF sr))), ((r 9), .inl (cZ, 40, .inl (bF (tr_M bf rc sr mk io))))]) hP hD hS hA [0, 1, 2, 3, 4] [5] rfl rfl (by decide) (by decide) (va_runV (As := [.int (oI io)]) (rest := []) ⟨hx, hb, hml, hown, htb⟩ (oc_R_trace l dC dI cI cJ cZ cP _ r cn mn mi nn bf rc sr mk io (by first | assumption | omega) (by first | assumption | omega) (by first | assumption | omega) (by first | assumption | omega) (by first | assumption | omega)) (cwV 1 htb (gw_V kw_478 kw_480 kp_17 kw_5 kw_481) rfl rfl rfl (by decide +kernel) ⟨Nat.le_of_ble_eq_true rfl, Nat.le_of_ble_eq_true rfl⟩) (pr_V hP hK hD (va_recv hK hP (ci := 4) (q0 := 0) rfl rfl) [0, 1, 2, 3, 4] (by decide) rfl rfl) rfl rfl hl.1 rfl (lv_room (Nat.le_of_ble_eq_true rfl)) dc_R_isHit_2 ⟨Nat.le_of_ble_eq_true rfl, Nat.le_of_ble_eq_true rfl⟩) (fun H locs hP hD hS => ?_)
  have hP : va_P (dC, dI) clsL [zR r cn mn mi nn, ((r 1), .inl (cI, 40, .inl (oF bf))), ((r 2), .inl (cI, 40, .inl (nF rc))), ((r 15), .inl (cI, 104, .inl (oF sr))), ((r 9), .inl (cZ, 40, .inl (bF (tr_M bf rc sr mk io)))), ((r 7), .inl (cI, 40, .inl (oF an)))] H := hP.sub (ws' := [zR r cn mn mi nn, ((r 1), .inl (cI, 40, .inl (oF bf))), ((r 2), .inl (cI, 40, .inl (nF rc))), ((r 15), .inl (cI, 104, .inl (oF sr))), ((r 9), .inl (cZ, 40, .inl (bF (tr_M bf rc sr mk io)))), ((r 7), .inl (cI, 40, .inl (oF an)))]) [1, 2, 3, 4, 5, 0] rfl
  have hD : va_D A [zR r cn mn mi nn, ((r 1), .inl (cI, 40, .inl (oF bf))), ((r 2), .inl (cI, 40, .inl (nF rc))), ((r 15), .inl (cI, 104, .inl (oF sr))), ((r 9), .inl (cZ, 40, .inl (bF (tr_M bf rc sr mk io)))), ((r 7), .inl (cI, 40, .inl (oF an)))] := hD.sub (ws' := [zR r cn mn mi nn, ((r 1), .inl (cI, 40, .inl (oF bf))), ((r 2), .inl (cI, 40, .inl (nF rc))), ((r 15), .inl (cI, 104, .inl (oF sr))), ((r 9), .inl (cZ, 40, .inl (bF (tr_M bf rc sr mk io)))), ((r 7), .inl (cI, 40, .inl (oF an)))]) [1, 2, 3, 4, 5, 0] (by decide) rfl
  refine lv_iconst (v := nI 0) hx hb dc_R_isHit_5 (by decide) ?_
  refine tp_i (y := bI false) (rfl) ?_
  refine lv_istore (lv' := [(4, .int (bI false)), (0, .ref (r 0)), (1, .int (oI io)), (2, .int (nI x1)), (3, .int (nI x2))]) hx hb dc_R_isHit_6 hl (by decide) rfl (fun ls hl => ?_)
  refine lv_iconst (v := nI 0) hx hb dc_R_isHit_8 (by decide) ?_
  refine lv_istore (lv' := [(5, .int (nI 0)), (4, .int (bI false)), (0, .ref (r 0)), (1, .int (oI io)), (2, .int (nI x1)), (3, .int (nI x2))]) hx hb dc_R_isHit_9 hl (by decide) rfl (fun ls hl => ?_)
  refine wl_ 11 (fun (x : Nat × Bool) => cn - x.1) (fun (x : Nat × Bool) (H : Heap) (locs : List Loc) (ls : Array Slot) => (x.1 ≤ cn ∧ x.2 = ht_F (tr_M bf rc sr mk io) an x1 x2 x.1) ∧ va_P (dC, dI) clsL [zR r cn mn mi nn, ((r 1), .inl (cI, 40, .inl (oF bf))), ((r 2), .inl (cI, 40, .inl (nF rc))), ((r 15), .inl (cI, 104, .inl (oF sr))), ((r 9), .inl (cZ, 40, .inl (bF (tr_M bf rc sr mk io)))), ((r 7), .inl (cI, 40, .inl (oF an)))] H ∧ va_D A [zR r cn mn mi nn, ((r 1), .inl (cI, 40, .inl (oF bf))), ((r 2), .inl (cI, 40, .inl (nF rc))), ((r 15), .inl (cI, 104, .inl (oF sr))), ((r 9), .inl (cZ, 40, .inl (bF (tr_M bf rc sr mk io)))), ((r 7), .inl (cI, 40, .inl (oF an)))] ∧ va_S A s.heap H locs ∧ lv_has ls 6 [(5, .int (nI x.1)), (4, .int (bI x.2)), (3, .int (nI x2)), (2, .int (nI x1)), (1, .int (oI io)), (0, .ref (r 0))]) ?_ (0, false) _ _ _ ⟨⟨Nat.zero_le _, rfl⟩, hP, hD, hS, lv_sub hl [0, 1, 5, 4, 3, 2] rfl⟩
  rintro ⟨k, z⟩ H locs ls ⟨hI, hP, hD, hS, hl⟩ ih11
  replace hI : k ≤ cn ∧ z = ht_F (tr_M bf rc sr mk io) an x1 x2 k := hI
  replace hP : va_P (dC, dI) clsL [zR r cn mn mi nn, ((r 1), .inl (cI, 40, .inl (oF bf))), ((r 2), .inl (cI, 40, .inl (nF rc))), ((r 15), .inl (cI, 104, .inl (oF sr))), ((r 9), .inl (cZ, 40, .inl (bF (tr_M bf rc sr mk io)))), ((r 7), .inl (cI, 40, .inl (oF an)))] H := hP
  replace hD : va_D A [zR r cn mn mi nn, ((r 1), .inl (cI, 40, .inl (oF bf))), ((r 2), .inl (cI, 40, .inl (nF rc))), ((r 15), .inl (cI, 104, .inl (oF sr))), ((r 9), .inl (cZ, 40, .inl (bF (tr_M bf rc sr mk io)))), ((r 7), .inl (cI, 40, .inl (oF an)))] := hD
  replace hl : lv_has ls 6 [(5, .int (nI k)), (4, .int (bI z)), (3, .int (nI x2)), (2, .int (nI x1)), (1, .int (oI io)), (0, .ref (r 0))] := hl
  have hk1 := hI.1
  refine lv_iload hx hb dc_R_isHit_11 (lv_at hl 0 rfl) ?_
  refine lv_aload_n hx hb dc_R_isHit_13 rfl (lv_at hl 5 rfl) ?_
  refine va_get (D := (dC, dI)) (ci := 4) (v := .int (nI cn)) (C := cn_R) (T := ft_R) (N := 27) hx hb htb ki_R hown hK hP 0 rfl rfl 0 (by decide) (htb _ kw_370) (fun _ h9 => h9) rfl dc_R_isHit_14 ?_
  refine lv_icmp_ge (tgt := 70) hx hb dc_R_isHit_17 (by decide) (fun hc => ?_) (fun hc => ?_)
  · have hk : cn ≤ k := (nI_leI (by omega) (by omega)).mp hc
    refine lv_iload hx hb dc_R_isHit_70 (lv_at hl 1 rfl) ?_
    have hP9 := hP.sub (ws' := [zR r cn mn mi nn, ((r 1), .inl (cI, 40, .inl (oF bf))), ((r 2), .inl (cI, 40, .inl (nF rc))), ((r 15), .inl (cI, 104, .inl (oF sr))), ((r 9), .inl (cZ, 40, .inl (bF (tr_M bf rc sr mk io)))), ((r 7), .inl (cI, 40, .inl (oF an)))]) [0, 1, 2, 3, 4, 5] rfl
    have hD9 := hD.sub (ws' := [zR r cn mn mi nn, ((r 1), .inl (cI, 40, .inl (oF bf))), ((r 2), .inl (cI, 40, .inl (nF rc))), ((r 15), .inl (cI, 104, .inl (oF sr))), ((r 9), .inl (cZ, 40, .inl (bF (tr_M bf rc sr mk io)))), ((r 7), .inl (cI, 40, .inl (oF an)))]) [0, 1, 2, 3, 4, 5] (by decide) rfl
    exact W.zret (v := bI z) (ty := .boolean) hx hb hr (bI_nar _) (fun t ht hW => ⟨⟨_, (tr_M bf rc sr mk io), rfl, by rw [hI.2, show k = cn by omega, hi_B_eq hcn hio], by rw [ht]; exact hP9, va_K.moved hW.alike hK, hD9⟩, hS.F ht⟩) hS.2.2 dc_R_isHit_72
  · have hk : k < cn := Nat.lt_of_not_le (fun h9 => hc ((nI_leI (by omega) (by omega)).mpr h9))
    refine lv_iload hx hb dc_R_isHit_20 (lv_at hl 1 rfl) ?_
    refine lv_if_ne (tgt := 57) hx hb dc_R_isHit_22 (by decide) (fun hc => ?_) (fun hc => ?_)
    · have h1 : z = true := bI_n0.mp hc
      refine lv_iconst (v := nI 1) hx hb dc_R_isHit_57 (by decide) ?_
      refine tp_i (y := bI true) (rfl) ?_
      refine lv_goto (tgt := 62) hx hb dc_R_isHit_58 (by decide) ?_
      refine lv_istore (lv' := [(4, .int (bI true)), (5, .int (nI k)), (3, .int (nI x2)), (2, .int (nI x1)), (1, .int (oI io)), (0, .ref (r 0))]) hx hb dc_R_isHit_62 hl (by decide) rfl (fun ls hl => ?_)
      refine lv_iinc (k := 1) (v := nI (k + 1)) (lv' := [(5, .int (nI (k + 1))), (4, .int (bI true)), (3, .int (nI x2)), (2, .int (nI x1)), (1, .int (oI io)), (0, .ref (r 0))]) hx hb dc_R_isHit_64 hl rfl (nI_inc1 _) (by decide) rfl (fun ls hl => ?_)
      refine lv_goto (tgt := 11) hx hb dc_R_isHit_67 (by decide) ?_
      exact ih11 (k + 1, true) H locs ls (by first | omega | (dsimp only; omega)) ⟨⟨by first | omega | (dsimp only; omega), by simp only [ht_F]; rw [← hI.2]; clear hI; simp [*]⟩, hP, hD, hS, lv_sub hl [0, 1, 2, 3, 4, 5] rfl⟩
    · have h1 : z = false := bI_0.mp hc
      refine lv_aload_n hx hb dc_R_isHit_25 rfl (lv_at hl 5 rfl) ?_
      refine va_get (D := (dC, dI)) (ci := 4) (v := .ref (r 9)) (C := cn_R) (T := ft_R) (N := 27) hx hb htb ki_R hown hK hP 0 rfl rfl 9 (by decide) (htb _ kw_379) (fun _ h9 => h9) rfl dc_R_isHit_26 ?_
      refine lv_iload hx hb dc_R_isHit_29 (lv_at hl 0 rfl) ?_
      refine wa_bld (k := k) hx hb hK hP 4 2 rfl rfl (by omega) (by omega) dc_R_isHit_31 ?_
      refine lv_if_eq (tgt := 61) hx hb dc_R_isHit_32 (by decide) (fun hc => ?_) (fun hc => ?_)
      · have h2 : (tr_M bf rc sr mk io) k = false := bI_0.mp hc
        refine lv_iconst (v := nI 0) hx hb dc_R_isHit_61 (by decide) ?_
        refine tp_i (y := bI false) (rfl) ?_
        refine lv_istore (lv' := [(4, .int (bI false)), (5, .int (nI k)), (3, .int (nI x2)), (2, .int (nI x1)), (1, .int (oI io)), (0, .ref (r 0))]) hx hb dc_R_isHit_62 hl (by decide) rfl (fun ls hl => ?_)
        refine lv_iinc (k := 1) (v := nI (k + 1)) (lv' := [(5, .int (nI (k + 1))), (4, .int (bI false)), (3, .int (nI x2)), (2, .int (nI x1)), (1, .int (oI io)), (0, .ref (r 0))]) hx hb dc_R_isHit_64 hl rfl (nI_inc1 _) (by decide) rfl (fun ls hl => ?_)
        refine lv_goto (tgt := 11) hx hb dc_R_isHit_67 (by decide) ?_
        exact ih11 (k + 1, false) H locs ls (by first | omega | (dsimp only; omega)) ⟨⟨by first | omega | (dsimp only; omega), by simp only [ht_F]; rw [← hI.2]; clear hI; simp [*]⟩, hP, hD, hS, lv_sub hl [0, 1, 2, 3, 4, 5] rfl⟩
      · have h2 : (tr_M bf rc sr mk io) k = true := bI_n0.mp hc
        refine lv_aload_n hx hb dc_R_isHit_35 rfl (lv_at hl 5 rfl) ?_
        refine va_get (D := (dC, dI)) (ci := 4) (v := .ref (r 7)) (C := cn_R) (T := ft_R) (N := 27) hx hb htb ki_R hown hK hP 0 rfl rfl 7 (by decide) (htb _ kw_377) (fun _ h9 => h9) rfl dc_R_isHit_36 ?_
        refine lv_iload hx hb dc_R_isHit_39 (lv_at hl 0 rfl) ?_
        refine wa_old (k := k) hx hb hK hP 5 0 rfl rfl (by omega) (by omega) dc_R_isHit_41 ?_
        refine lv_iload_n hx hb dc_R_isHit_42 rfl (lv_at hl 3 rfl) ?_
        refine lv_icmp_lt (tgt := 61) hx hb dc_R_isHit_43 (by decide) (fun hc => ?_) (fun hc => ?_)
        · have h3 := hc
          refine lv_iconst (v := nI 0) hx hb dc_R_isHit_61 (by decide) ?_
          refine tp_i (y := bI false) (rfl) ?_
          refine lv_istore (lv' := [(4, .int (bI false)), (5, .int (nI k)), (3, .int (nI x2)), (2, .int (nI x1)), (1, .int (oI io)), (0, .ref (r 0))]) hx hb dc_R_isHit_62 hl (by decide) rfl (fun ls hl => ?_)
          refine lv_iinc (k := 1) (v := nI (k + 1)) (lv' := [(5, .int (nI (k + 1))), (4, .int (bI false)), (3, .int (nI x2)), (2, .int (nI x1)), (1, .int (oI io)), (0, .ref (r 0))]) hx hb dc_R_isHit_64 hl rfl (nI_inc1 _) (by decide) rfl (fun ls hl => ?_)
          refine lv_goto (tgt := 11) hx hb dc_R_isHit_67 (by decide) ?_
          exact ih11 (k + 1, false) H locs ls (by first | omega | (dsimp only; omega)) ⟨⟨by first | omega | (dsimp only; omega), by simp only [ht_F]; rw [← hI.2]; clear hI; simp [*]⟩, hP, hD, hS, lv_sub hl [0, 1, 2, 3, 4, 5] rfl⟩
        · have h3 := hc
          refine lv_aload_n hx hb dc_R_isHit_46 rfl (lv_at hl 5 rfl) ?_
          refine va_get (D := (dC, dI)) (ci := 4) (v := .ref (r 7)) (C := cn_R) (T := ft_R) (N := 27) hx hb htb ki_R hown hK hP 0 rfl rfl 7 (by decide) (htb _ kw_377) (fun _ h9 => h9) rfl dc_R_isHit_47 ?_
          refine lv_iload hx hb dc_R_isHit_50 (lv_at hl 0 rfl) ?_
          refine wa_old (k := k) hx hb hK hP 5 0 rfl rfl (by omega) (by omega) dc_R_isHit_52 ?_
          refine lv_iload_n hx hb dc_R_isHit_53 rfl (lv_at hl 2 rfl) ?_
          refine lv_icmp_ge (tgt := 61) hx hb dc_R_isHit_54 (by decide) (fun hc => ?_) (fun hc => ?_)
          · have h4 := hc
            refine lv_iconst (v := nI 0) hx hb dc_R_isHit_61 (by decide) ?_
            refine tp_i (y := bI false) (rfl) ?_
            refine lv_istore (lv' := [(4, .int (bI false)), (5, .int (nI k)), (3, .int (nI x2)), (2, .int (nI x1)), (1, .int (oI io)), (0, .ref (r 0))]) hx hb dc_R_isHit_62 hl (by decide) rfl (fun ls hl => ?_)
            refine lv_iinc (k := 1) (v := nI (k + 1)) (lv' := [(5, .int (nI (k + 1))), (4, .int (bI false)), (3, .int (nI x2)), (2, .int (nI x1)), (1, .int (oI io)), (0, .ref (r 0))]) hx hb dc_R_isHit_64 hl rfl (nI_inc1 _) (by decide) rfl (fun ls hl => ?_)
            refine lv_goto (tgt := 11) hx hb dc_R_isHit_67 (by decide) ?_
            exact ih11 (k + 1, false) H locs ls (by first | omega | (dsimp only; omega)) ⟨⟨by first | omega | (dsimp only; omega), by simp only [ht_F]; rw [← hI.2]; clear hI; simp [*]⟩, hP, hD, hS, lv_sub hl [0, 1, 2, 3, 4, 5] rfl⟩
          · have h4 := hc
            refine lv_iconst (v := nI 1) hx hb dc_R_isHit_57 (by decide) ?_
            refine tp_i (y := bI true) (rfl) ?_
            refine lv_goto (tgt := 62) hx hb dc_R_isHit_58 (by decide) ?_
            refine lv_istore (lv' := [(4, .int (bI true)), (5, .int (nI k)), (3, .int (nI x2)), (2, .int (nI x1)), (1, .int (oI io)), (0, .ref (r 0))]) hx hb dc_R_isHit_62 hl (by decide) rfl (fun ls hl => ?_)
            refine lv_iinc (k := 1) (v := nI (k + 1)) (lv' := [(5, .int (nI (k + 1))), (4, .int (bI true)), (3, .int (nI x2)), (2, .int (nI x1)), (1, .int (oI io)), (0, .ref (r 0))]) hx hb dc_R_isHit_64 hl rfl (nI_inc1 _) (by decide) rfl (fun ls hl => ?_)
            refine lv_goto (tgt := 11) hx hb dc_R_isHit_67 (by decide) ?_
            exact ih11 (k + 1, true) H locs ls (by first | omega | (dsimp only; omega)) ⟨⟨by first | omega | (dsimp only; omega), by simp only [ht_F]; rw [← hI.2]; clear hI; simp [*]⟩, hP, hD, hS, lv_sub hl [0, 1, 2, 3, 4, 5] rfl⟩

set_option maxHeartbeats 4000000 in
set_option maxRecDepth 100000 in
theorem oc_R_dependsOnLost (l : Launch) (dC : Nat → ClassId) (dI : Nat → Nat → Nat) (cI cJ cZ cP : ClassId) (sz : Nat) (r : Nat → Nat) (cn : Nat) (mn : Nat) (mi : Nat) (nn : Nat) (bf : Nat → Option Nat) (rc : Nat → Nat) (sr : Nat → Option Nat) (mk : Nat → Bool) (lo : Nat → Bool) (io : Option Nat) (hio : ∀ i, io = some i → i < cn) (hcn : cn ≤ 40) (hbf : ∀ k, k < cn → ∀ i, bf k = some i → i < 40) (hrc : ∀ k, k < cn → rc k < 104) (hsr : ∀ k, k < cn → ∀ i, sr (rc k) = some i → i < 40) : mt_Ix l mn_R_dependsOnLost bc_R_dependsOnLost 4 (some .boolean) ({ frames := 1, cells := 0, slots := 0, locals := 23 }) (dC, dI) (TYS cI cJ cZ cP) sz [.ref (r 0), .int (oI io)] [zR r cn mn mi nn, ((r 1), .inl (cI, 40, .inl (oF bf))), ((r 2), .inl (cI, 40, .inl (nF rc))), ((r 15), .inl (cI, 104, .inl (oF sr))), ((r 9), .inl (cZ, 40, .inl (bF mk))), ((r 5), .inl (cZ, 40, .inl (bF lo)))] (fun (mkz : Nat → Bool) => [zR r cn mn mi nn, ((r 1), .inl (cI, 40, .inl (oF bf))), ((r 2), .inl (cI, 40, .inl (nF rc))), ((r 15), .inl (cI, 104, .inl (oF sr))), ((r 9), .inl (cZ, 40, .inl (bF mkz))), ((r 5), .inl (cZ, 40, .inl (bF lo)))]) (bI (dlo_B bf rc sr lo io cn)) 0 0 := by
  unfold mt_Ix
  refine Met.ofW (cc := bc_R_dependsOnLost) (maxL := 4) (ret := (some .boolean)) (by decide) rfl ?_
  intro p e s m args below meth c s₁ B hml hv
  obtain ⟨rfl, hsz, hP, hK, hD0⟩ := hv
  have hx := B.exec
  have hb := B.bytes
  have hr := B.returns
  have hts := atoms_spec (ws := wsT mn_R_dependsOnLost bc_R_dependsOnLost 4 (some .boolean)) B.pre
  have htb : ∀ w ∈ gtbl, w.before _ s = true := fun w h => hts w (List.mem_cons_of_mem _ h)
  have hown : s.vm.findClass cn_R = some m.cls := findClass_of_methodNamed B.named
  have hlocks := B.notSynchronized
  subst hsz
  have hD := hD0.self (sz := s.heap.size)
  generalize hAe : va_A [zR r cn mn mi nn, ((r 1), .inl (cI, 40, .inl (oF bf))), ((r 2), .inl (cI, 40, .inl (nF rc))), ((r 15), .inl (cI, 104, .inl (oF sr))), ((r 9), .inl (cZ, 40, .inl (bF mk))), ((r 5), .inl (cZ, 40, .inl (bF lo)))] s.heap.size = A at hD ⊢
  have hA : ∀ q : Nat, s.heap.size ≤ q → A q := fun q h => by rw [← hAe]; exact Or.inr h
  have hS : va_S A s.heap s.heap [] := va_S.rf
  have hP : va_P (dC, dI) clsL [zR r cn mn mi nn, ((r 1), .inl (cI, 40, .inl (oF bf))), ((r 2), .inl (cI, 40, .inl (nF rc))), ((r 15), .inl (cI, 104, .inl (oF sr))), ((r 9), .inl (cZ, 40, .inl (bF mk))), ((r 5), .inl (cZ, 40, .inl (bF lo)))] s.heap := hP
  have hl := lv_entry ([.ref (r 0), .int (oI io)]) (n := 4) (Nat.le_of_ble_eq_true rfl)
  rw [lg_entry_eq]
  generalize (lg_sl ([.ref (r 0), .int (oI io)]) ++ List.replicate (4 - (lg_sl ([.ref (r 0), .int (oI io)])).length) Slot.unset).toArray = ls at hl ⊢
  have hl : lv_has ls 4 [(0, .ref (r 0)), (1, .int (oI io))] := hl
  refine lv_aload_n hx hb dc_R_dependsOnLost_0 rfl (lv_at hl 0 rfl) ?_
  refine lv_iload_n hx hb dc_R_dependsOnLost_1 rfl (lv_at hl 1 rfl) ?_
  refine cl_v (wc := [zR r cn mn mi nn, ((r 1), .inl (cI, 40, .inl (oF bf))), ((r 2), .inl (cI, 40, .inl (nF rc))), ((r 15), .inl (cI, 104, .inl (oF sr))), ((r 9), .inl (cZ, 40, .inl (bF mk)))]) (wr := [((r 5), .inl (cZ, 40, .inl (bF lo)))]) (w1 := [zR r cn mn mi nn, ((r 1), .inl (cI, 40, .inl (oF bf))), ((r 2), .inl (cI, 40, .inl (nF rc))), ((r 15), .inl (cI, 104, .inl (oF sr))), ((r 9), .inl (cZ, 40, .inl (bF (tr_M bf rc sr mk io))))]) hP hD hS hA [0, 1, 2, 3, 4] [5] rfl rfl (by decide) (by decide) (va_runV (As := [.int (oI io)]) (rest := []) ⟨hx, hb, hml, hown, htb⟩ (oc_R_trace l dC dI cI cJ cZ cP _ r cn mn mi nn bf rc sr mk io (by first | assumption | omega) (by first | assumption | omega) (by first | assumption | omega) (by first | assumption | omega) (by first | assumption | omega)) (cwV 1 htb (gw_V kw_478 kw_480 kp_17 kw_5 kw_481) rfl rfl rfl (by decide +kernel) ⟨Nat.le_of_ble_eq_true rfl, Nat.le_of_ble_eq_true rfl⟩) (pr_V hP hK hD (va_recv hK hP (ci := 4) (q0 := 0) rfl rfl) [0, 1, 2, 3, 4] (by decide) rfl rfl) rfl rfl hl.1 rfl (lv_room (Nat.le_of_ble_eq_true rfl)) dc_R_dependsOnLost_2 ⟨Nat.le_of_ble_eq_true rfl, Nat.le_of_ble_eq_true rfl⟩) (fun H locs hP hD hS => ?_)
  have hP : va_P (dC, dI) clsL [zR r cn mn mi nn, ((r 1), .inl (cI, 40, .inl (oF bf))), ((r 2), .inl (cI, 40, .inl (nF rc))), ((r 15), .inl (cI, 104, .inl (oF sr))), ((r 9), .inl (cZ, 40, .inl (bF (tr_M bf rc sr mk io)))), ((r 5), .inl (cZ, 40, .inl (bF lo)))] H := hP.sub (ws' := [zR r cn mn mi nn, ((r 1), .inl (cI, 40, .inl (oF bf))), ((r 2), .inl (cI, 40, .inl (nF rc))), ((r 15), .inl (cI, 104, .inl (oF sr))), ((r 9), .inl (cZ, 40, .inl (bF (tr_M bf rc sr mk io)))), ((r 5), .inl (cZ, 40, .inl (bF lo)))]) [1, 2, 3, 4, 5, 0] rfl
  have hD : va_D A [zR r cn mn mi nn, ((r 1), .inl (cI, 40, .inl (oF bf))), ((r 2), .inl (cI, 40, .inl (nF rc))), ((r 15), .inl (cI, 104, .inl (oF sr))), ((r 9), .inl (cZ, 40, .inl (bF (tr_M bf rc sr mk io)))), ((r 5), .inl (cZ, 40, .inl (bF lo)))] := hD.sub (ws' := [zR r cn mn mi nn, ((r 1), .inl (cI, 40, .inl (oF bf))), ((r 2), .inl (cI, 40, .inl (nF rc))), ((r 15), .inl (cI, 104, .inl (oF sr))), ((r 9), .inl (cZ, 40, .inl (bF (tr_M bf rc sr mk io)))), ((r 5), .inl (cZ, 40, .inl (bF lo)))]) [1, 2, 3, 4, 5, 0] (by decide) rfl
  refine lv_iconst (v := nI 0) hx hb dc_R_dependsOnLost_5 (by decide) ?_
  refine tp_i (y := bI false) (rfl) ?_
  refine lv_istore_n (lv' := [(2, .int (bI false)), (0, .ref (r 0)), (1, .int (oI io))]) hx hb dc_R_dependsOnLost_6 rfl hl (by decide) rfl (fun ls hl => ?_)
  refine lv_iconst (v := nI 0) hx hb dc_R_dependsOnLost_7 (by decide) ?_
  refine lv_istore_n (lv' := [(3, .int (nI 0)), (2, .int (bI false)), (0, .ref (r 0)), (1, .int (oI io))]) hx hb dc_R_dependsOnLost_8 rfl hl (by decide) rfl (fun ls hl => ?_)
  refine wl_ 9 (fun (x : Nat × Bool) => cn - x.1) (fun (x : Nat × Bool) (H : Heap) (locs : List Loc) (ls : Array Slot) => (x.1 ≤ cn ∧ x.2 = dl_F (tr_M bf rc sr mk io) lo x.1) ∧ va_P (dC, dI) clsL [zR r cn mn mi nn, ((r 1), .inl (cI, 40, .inl (oF bf))), ((r 2), .inl (cI, 40, .inl (nF rc))), ((r 15), .inl (cI, 104, .inl (oF sr))), ((r 9), .inl (cZ, 40, .inl (bF (tr_M bf rc sr mk io)))), ((r 5), .inl (cZ, 40, .inl (bF lo)))] H ∧ va_D A [zR r cn mn mi nn, ((r 1), .inl (cI, 40, .inl (oF bf))), ((r 2), .inl (cI, 40, .inl (nF rc))), ((r 15), .inl (cI, 104, .inl (oF sr))), ((r 9), .inl (cZ, 40, .inl (bF (tr_M bf rc sr mk io)))), ((r 5), .inl (cZ, 40, .inl (bF lo)))] ∧ va_S A s.heap H locs ∧ lv_has ls 4 [(3, .int (nI x.1)), (2, .int (bI x.2)), (1, .int (oI io)), (0, .ref (r 0))]) ?_ (0, false) _ _ _ ⟨⟨Nat.zero_le _, rfl⟩, hP, hD, hS, lv_sub hl [0, 1, 3, 2] rfl⟩
  rintro ⟨k, z⟩ H locs ls ⟨hI, hP, hD, hS, hl⟩ ih9
  replace hI : k ≤ cn ∧ z = dl_F (tr_M bf rc sr mk io) lo k := hI
  replace hP : va_P (dC, dI) clsL [zR r cn mn mi nn, ((r 1), .inl (cI, 40, .inl (oF bf))), ((r 2), .inl (cI, 40, .inl (nF rc))), ((r 15), .inl (cI, 104, .inl (oF sr))), ((r 9), .inl (cZ, 40, .inl (bF (tr_M bf rc sr mk io)))), ((r 5), .inl (cZ, 40, .inl (bF lo)))] H := hP
  replace hD : va_D A [zR r cn mn mi nn, ((r 1), .inl (cI, 40, .inl (oF bf))), ((r 2), .inl (cI, 40, .inl (nF rc))), ((r 15), .inl (cI, 104, .inl (oF sr))), ((r 9), .inl (cZ, 40, .inl (bF (tr_M bf rc sr mk io)))), ((r 5), .inl (cZ, 40, .inl (bF lo)))] := hD
  replace hl : lv_has ls 4 [(3, .int (nI k)), (2, .int (bI z)), (1, .int (oI io)), (0, .ref (r 0))] := hl
  have hk1 := hI.1
  refine lv_iload_n hx hb dc_R_dependsOnLost_9 rfl (lv_at hl 0 rfl) ?_
  refine lv_aload_n hx hb dc_R_dependsOnLost_10 rfl (lv_at hl 3 rfl) ?_
  refine va_get (D := (dC, dI)) (ci := 4) (v := .int (nI cn)) (C := cn_R) (T := ft_R) (N := 27) hx hb htb ki_R hown hK hP 0 rfl rfl 0 (by decide) (htb _ kw_370) (fun _ h9 => h9) rfl dc_R_dependsOnLost_11 ?_
  refine lv_icmp_ge (tgt := 51) hx hb dc_R_dependsOnLost_14 (by decide) (fun hc => ?_) (fun hc => ?_)
  · have hk : cn ≤ k := (nI_leI (by omega) (by omega)).mp hc
    refine lv_iload_n hx hb dc_R_dependsOnLost_51 rfl (lv_at hl 1 rfl) ?_
    have hP9 := hP.sub (ws' := [zR r cn mn mi nn, ((r 1), .inl (cI, 40, .inl (oF bf))), ((r 2), .inl (cI, 40, .inl (nF rc))), ((r 15), .inl (cI, 104, .inl (oF sr))), ((r 9), .inl (cZ, 40, .inl (bF (tr_M bf rc sr mk io)))), ((r 5), .inl (cZ, 40, .inl (bF lo)))]) [0, 1, 2, 3, 4, 5] rfl
    have hD9 := hD.sub (ws' := [zR r cn mn mi nn, ((r 1), .inl (cI, 40, .inl (oF bf))), ((r 2), .inl (cI, 40, .inl (nF rc))), ((r 15), .inl (cI, 104, .inl (oF sr))), ((r 9), .inl (cZ, 40, .inl (bF (tr_M bf rc sr mk io)))), ((r 5), .inl (cZ, 40, .inl (bF lo)))]) [0, 1, 2, 3, 4, 5] (by decide) rfl
    exact W.zret (v := bI z) (ty := .boolean) hx hb hr (bI_nar _) (fun t ht hW => ⟨⟨_, (tr_M bf rc sr mk io), rfl, by rw [hI.2, show k = cn by omega, dlo_B_eq hcn hio], by rw [ht]; exact hP9, va_K.moved hW.alike hK, hD9⟩, hS.F ht⟩) hS.2.2 dc_R_dependsOnLost_52
  · have hk : k < cn := Nat.lt_of_not_le (fun h9 => hc ((nI_leI (by omega) (by omega)).mpr h9))
    refine lv_iload_n hx hb dc_R_dependsOnLost_17 rfl (lv_at hl 1 rfl) ?_
    refine lv_if_ne (tgt := 39) hx hb dc_R_dependsOnLost_18 (by decide) (fun hc => ?_) (fun hc => ?_)
    · have h1 : z = true := bI_n0.mp hc
      refine lv_iconst (v := nI 1) hx hb dc_R_dependsOnLost_39 (by decide) ?_
      refine tp_i (y := bI true) (rfl) ?_
      refine lv_goto (tgt := 44) hx hb dc_R_dependsOnLost_40 (by decide) ?_
      refine lv_istore_n (lv' := [(2, .int (bI true)), (3, .int (nI k)), (1, .int (oI io)), (0, .ref (r 0))]) hx hb dc_R_dependsOnLost_44 rfl hl (by decide) rfl (fun ls hl => ?_)
      refine lv_iinc (k := 1) (v := nI (k + 1)) (lv' := [(3, .int (nI (k + 1))), (2, .int (bI true)), (1, .int (oI io)), (0, .ref (r 0))]) hx hb dc_R_dependsOnLost_45 hl rfl (nI_inc1 _) (by decide) rfl (fun ls hl => ?_)
      refine lv_goto (tgt := 9) hx hb dc_R_dependsOnLost_48 (by decide) ?_
      exact ih9 (k + 1, true) H locs ls (by first | omega | (dsimp only; omega)) ⟨⟨by first | omega | (dsimp only; omega), by simp only [dl_F]; rw [← hI.2]; clear hI; simp [*]⟩, hP, hD, hS, lv_sub hl [0, 1, 2, 3] rfl⟩
    · have h1 : z = false := bI_0.mp hc
      refine lv_aload_n hx hb dc_R_dependsOnLost_21 rfl (lv_at hl 3 rfl) ?_
      refine va_get (D := (dC, dI)) (ci := 4) (v := .ref (r 9)) (C := cn_R) (T := ft_R) (N := 27) hx hb htb ki_R hown hK hP 0 rfl rfl 9 (by decide) (htb _ kw_379) (fun _ h9 => h9) rfl dc_R_dependsOnLost_22 ?_
      refine lv_iload_n hx hb dc_R_dependsOnLost_25 rfl (lv_at hl 0 rfl) ?_
      refine wa_bld (k := k) hx hb hK hP 4 2 rfl rfl (by omega) (by omega) dc_R_dependsOnLost_26 ?_
      refine lv_if_eq (tgt := 43) hx hb dc_R_dependsOnLost_27 (by decide) (fun hc => ?_) (fun hc => ?_)
      · have h2 : (tr_M bf rc sr mk io) k = false := bI_0.mp hc
        refine lv_iconst (v := nI 0) hx hb dc_R_dependsOnLost_43 (by decide) ?_
        refine tp_i (y := bI false) (rfl) ?_
        refine lv_istore_n (lv' := [(2, .int (bI false)), (3, .int (nI k)), (1, .int (oI io)), (0, .ref (r 0))]) hx hb dc_R_dependsOnLost_44 rfl hl (by decide) rfl (fun ls hl => ?_)
        refine lv_iinc (k := 1) (v := nI (k + 1)) (lv' := [(3, .int (nI (k + 1))), (2, .int (bI false)), (1, .int (oI io)), (0, .ref (r 0))]) hx hb dc_R_dependsOnLost_45 hl rfl (nI_inc1 _) (by decide) rfl (fun ls hl => ?_)
        refine lv_goto (tgt := 9) hx hb dc_R_dependsOnLost_48 (by decide) ?_
        exact ih9 (k + 1, false) H locs ls (by first | omega | (dsimp only; omega)) ⟨⟨by first | omega | (dsimp only; omega), by simp only [dl_F]; rw [← hI.2]; clear hI; simp [*]⟩, hP, hD, hS, lv_sub hl [0, 1, 2, 3] rfl⟩
      · have h2 : (tr_M bf rc sr mk io) k = true := bI_n0.mp hc
        refine lv_aload_n hx hb dc_R_dependsOnLost_30 rfl (lv_at hl 3 rfl) ?_
        refine va_get (D := (dC, dI)) (ci := 4) (v := .ref (r 5)) (C := cn_R) (T := ft_R) (N := 27) hx hb htb ki_R hown hK hP 0 rfl rfl 5 (by decide) (htb _ kw_375) (fun _ h9 => h9) rfl dc_R_dependsOnLost_31 ?_
        refine lv_iload_n hx hb dc_R_dependsOnLost_34 rfl (lv_at hl 0 rfl) ?_
        refine wa_bld (k := k) hx hb hK hP 5 2 rfl rfl (by omega) (by omega) dc_R_dependsOnLost_35 ?_
        refine lv_if_eq (tgt := 43) hx hb dc_R_dependsOnLost_36 (by decide) (fun hc => ?_) (fun hc => ?_)
        · have h3 : lo k = false := bI_0.mp hc
          refine lv_iconst (v := nI 0) hx hb dc_R_dependsOnLost_43 (by decide) ?_
          refine tp_i (y := bI false) (rfl) ?_
          refine lv_istore_n (lv' := [(2, .int (bI false)), (3, .int (nI k)), (1, .int (oI io)), (0, .ref (r 0))]) hx hb dc_R_dependsOnLost_44 rfl hl (by decide) rfl (fun ls hl => ?_)
          refine lv_iinc (k := 1) (v := nI (k + 1)) (lv' := [(3, .int (nI (k + 1))), (2, .int (bI false)), (1, .int (oI io)), (0, .ref (r 0))]) hx hb dc_R_dependsOnLost_45 hl rfl (nI_inc1 _) (by decide) rfl (fun ls hl => ?_)
          refine lv_goto (tgt := 9) hx hb dc_R_dependsOnLost_48 (by decide) ?_
          exact ih9 (k + 1, false) H locs ls (by first | omega | (dsimp only; omega)) ⟨⟨by first | omega | (dsimp only; omega), by simp only [dl_F]; rw [← hI.2]; clear hI; simp [*]⟩, hP, hD, hS, lv_sub hl [0, 1, 2, 3] rfl⟩
        · have h3 : lo k = true := bI_n0.mp hc
          refine lv_iconst (v := nI 1) hx hb dc_R_dependsOnLost_39 (by decide) ?_
          refine tp_i (y := bI true) (rfl) ?_
          refine lv_goto (tgt := 44) hx hb dc_R_dependsOnLost_40 (by decide) ?_
          refine lv_istore_n (lv' := [(2, .int (bI true)), (3, .int (nI k)), (1, .int (oI io)), (0, .ref (r 0))]) hx hb dc_R_dependsOnLost_44 rfl hl (by decide) rfl (fun ls hl => ?_)
          refine lv_iinc (k := 1) (v := nI (k + 1)) (lv' := [(3, .int (nI (k + 1))), (2, .int (bI true)), (1, .int (oI io)), (0, .ref (r 0))]) hx hb dc_R_dependsOnLost_45 hl rfl (nI_inc1 _) (by decide) rfl (fun ls hl => ?_)
          refine lv_goto (tgt := 9) hx hb dc_R_dependsOnLost_48 (by decide) ?_
          exact ih9 (k + 1, true) H locs ls (by first | omega | (dsimp only; omega)) ⟨⟨by first | omega | (dsimp only; omega), by simp only [dl_F]; rw [← hI.2]; clear hI; simp [*]⟩, hP, hD, hS, lv_sub hl [0, 1, 2, 3] rfl⟩

set_option maxHeartbeats 4000000 in
set_option maxRecDepth 100000 in
theorem oc_R_dependsOnStable (l : Launch) (dC : Nat → ClassId) (dI : Nat → Nat → Nat) (cI cJ cZ cP : ClassId) (sz : Nat) (r : Nat → Nat) (cn : Nat) (mn : Nat) (mi : Nat) (nn : Nat) (bf : Nat → Option Nat) (rc : Nat → Nat) (sr : Nat → Option Nat) (mk : Nat → Bool) (sb : Nat → Bool) (io : Option Nat) (hio : ∀ i, io = some i → i < cn) (hcn : cn ≤ 40) (hbf : ∀ k, k < cn → ∀ i, bf k = some i → i < 40) (hrc : ∀ k, k < cn → rc k < 104) (hsr : ∀ k, k < cn → ∀ i, sr (rc k) = some i → i < 40) : mt_Ix l mn_R_dependsOnStable bc_R_dependsOnStable 4 (some .boolean) ({ frames := 1, cells := 0, slots := 0, locals := 23 }) (dC, dI) (TYS cI cJ cZ cP) sz [.ref (r 0), .int (oI io)] [zR r cn mn mi nn, ((r 1), .inl (cI, 40, .inl (oF bf))), ((r 2), .inl (cI, 40, .inl (nF rc))), ((r 15), .inl (cI, 104, .inl (oF sr))), ((r 9), .inl (cZ, 40, .inl (bF mk))), ((r 4), .inl (cZ, 40, .inl (bF sb)))] (fun (mkz : Nat → Bool) => [zR r cn mn mi nn, ((r 1), .inl (cI, 40, .inl (oF bf))), ((r 2), .inl (cI, 40, .inl (nF rc))), ((r 15), .inl (cI, 104, .inl (oF sr))), ((r 9), .inl (cZ, 40, .inl (bF mkz))), ((r 4), .inl (cZ, 40, .inl (bF sb)))]) (bI (dst_B bf rc sr sb io cn)) 0 0 := by
  unfold mt_Ix
  refine Met.ofW (cc := bc_R_dependsOnStable) (maxL := 4) (ret := (some .boolean)) (by decide) rfl ?_
  intro p e s m args below meth c s₁ B hml hv
  obtain ⟨rfl, hsz, hP, hK, hD0⟩ := hv
  have hx := B.exec
  have hb := B.bytes
  have hr := B.returns
  have hts := atoms_spec (ws := wsT mn_R_dependsOnStable bc_R_dependsOnStable 4 (some .boolean)) B.pre
  have htb : ∀ w ∈ gtbl, w.before _ s = true := fun w h => hts w (List.mem_cons_of_mem _ h)
  have hown : s.vm.findClass cn_R = some m.cls := findClass_of_methodNamed B.named
  have hlocks := B.notSynchronized
  subst hsz
  have hD := hD0.self (sz := s.heap.size)
  generalize hAe : va_A [zR r cn mn mi nn, ((r 1), .inl (cI, 40, .inl (oF bf))), ((r 2), .inl (cI, 40, .inl (nF rc))), ((r 15), .inl (cI, 104, .inl (oF sr))), ((r 9), .inl (cZ, 40, .inl (bF mk))), ((r 4), .inl (cZ, 40, .inl (bF sb)))] s.heap.size = A at hD ⊢
  have hA : ∀ q : Nat, s.heap.size ≤ q → A q := fun q h => by rw [← hAe]; exact Or.inr h
  have hS : va_S A s.heap s.heap [] := va_S.rf
  have hP : va_P (dC, dI) clsL [zR r cn mn mi nn, ((r 1), .inl (cI, 40, .inl (oF bf))), ((r 2), .inl (cI, 40, .inl (nF rc))), ((r 15), .inl (cI, 104, .inl (oF sr))), ((r 9), .inl (cZ, 40, .inl (bF mk))), ((r 4), .inl (cZ, 40, .inl (bF sb)))] s.heap := hP
  have hl := lv_entry ([.ref (r 0), .int (oI io)]) (n := 4) (Nat.le_of_ble_eq_true rfl)
  rw [lg_entry_eq]
  generalize (lg_sl ([.ref (r 0), .int (oI io)]) ++ List.replicate (4 - (lg_sl ([.ref (r 0), .int (oI io)])).length) Slot.unset).toArray = ls at hl ⊢
  have hl : lv_has ls 4 [(0, .ref (r 0)), (1, .int (oI io))] := hl
  refine lv_aload_n hx hb dc_R_dependsOnStable_0 rfl (lv_at hl 0 rfl) ?_
  refine lv_iload_n hx hb dc_R_dependsOnStable_1 rfl (lv_at hl 1 rfl) ?_
  refine cl_v (wc := [zR r cn mn mi nn, ((r 1), .inl (cI, 40, .inl (oF bf))), ((r 2), .inl (cI, 40, .inl (nF rc))), ((r 15), .inl (cI, 104, .inl (oF sr))), ((r 9), .inl (cZ, 40, .inl (bF mk)))]) (wr := [((r 4), .inl (cZ, 40, .inl (bF sb)))]) (w1 := [zR r cn mn mi nn, ((r 1), .inl (cI, 40, .inl (oF bf))), ((r 2), .inl (cI, 40, .inl (nF rc))), ((r 15), .inl (cI, 104, .inl (oF sr))), ((r 9), .inl (cZ, 40, .inl (bF (tr_M bf rc sr mk io))))]) hP hD hS hA [0, 1, 2, 3, 4] [5] rfl rfl (by decide) (by decide) (va_runV (As := [.int (oI io)]) (rest := []) ⟨hx, hb, hml, hown, htb⟩ (oc_R_trace l dC dI cI cJ cZ cP _ r cn mn mi nn bf rc sr mk io (by first | assumption | omega) (by first | assumption | omega) (by first | assumption | omega) (by first | assumption | omega) (by first | assumption | omega)) (cwV 1 htb (gw_V kw_478 kw_480 kp_17 kw_5 kw_481) rfl rfl rfl (by decide +kernel) ⟨Nat.le_of_ble_eq_true rfl, Nat.le_of_ble_eq_true rfl⟩) (pr_V hP hK hD (va_recv hK hP (ci := 4) (q0 := 0) rfl rfl) [0, 1, 2, 3, 4] (by decide) rfl rfl) rfl rfl hl.1 rfl (lv_room (Nat.le_of_ble_eq_true rfl)) dc_R_dependsOnStable_2 ⟨Nat.le_of_ble_eq_true rfl, Nat.le_of_ble_eq_true rfl⟩) (fun H locs hP hD hS => ?_)
  have hP : va_P (dC, dI) clsL [zR r cn mn mi nn, ((r 1), .inl (cI, 40, .inl (oF bf))), ((r 2), .inl (cI, 40, .inl (nF rc))), ((r 15), .inl (cI, 104, .inl (oF sr))), ((r 9), .inl (cZ, 40, .inl (bF (tr_M bf rc sr mk io)))), ((r 4), .inl (cZ, 40, .inl (bF sb)))] H := hP.sub (ws' := [zR r cn mn mi nn, ((r 1), .inl (cI, 40, .inl (oF bf))), ((r 2), .inl (cI, 40, .inl (nF rc))), ((r 15), .inl (cI, 104, .inl (oF sr))), ((r 9), .inl (cZ, 40, .inl (bF (tr_M bf rc sr mk io)))), ((r 4), .inl (cZ, 40, .inl (bF sb)))]) [1, 2, 3, 4, 5, 0] rfl
  have hD : va_D A [zR r cn mn mi nn, ((r 1), .inl (cI, 40, .inl (oF bf))), ((r 2), .inl (cI, 40, .inl (nF rc))), ((r 15), .inl (cI, 104, .inl (oF sr))), ((r 9), .inl (cZ, 40, .inl (bF (tr_M bf rc sr mk io)))), ((r 4), .inl (cZ, 40, .inl (bF sb)))] := hD.sub (ws' := [zR r cn mn mi nn, ((r 1), .inl (cI, 40, .inl (oF bf))), ((r 2), .inl (cI, 40, .inl (nF rc))), ((r 15), .inl (cI, 104, .inl (oF sr))), ((r 9), .inl (cZ, 40, .inl (bF (tr_M bf rc sr mk io)))), ((r 4), .inl (cZ, 40, .inl (bF sb)))]) [1, 2, 3, 4, 5, 0] (by decide) rfl
  refine lv_iconst (v := nI 1) hx hb dc_R_dependsOnStable_5 (by decide) ?_
  refine tp_i (y := bI true) (rfl) ?_
  refine lv_istore_n (lv' := [(2, .int (bI true)), (0, .ref (r 0)), (1, .int (oI io))]) hx hb dc_R_dependsOnStable_6 rfl hl (by decide) rfl (fun ls hl => ?_)
  refine lv_iconst (v := nI 0) hx hb dc_R_dependsOnStable_7 (by decide) ?_
  refine lv_istore_n (lv' := [(3, .int (nI 0)), (2, .int (bI true)), (0, .ref (r 0)), (1, .int (oI io))]) hx hb dc_R_dependsOnStable_8 rfl hl (by decide) rfl (fun ls hl => ?_)
  refine wl_ 9 (fun (x : Nat × Bool) => cn - x.1) (fun (x : Nat × Bool) (H : Heap) (locs : List Loc) (ls : Array Slot) => (x.1 ≤ cn ∧ x.2 = ds_F (tr_M bf rc sr mk io) sb x.1) ∧ va_P (dC, dI) clsL [zR r cn mn mi nn, ((r 1), .inl (cI, 40, .inl (oF bf))), ((r 2), .inl (cI, 40, .inl (nF rc))), ((r 15), .inl (cI, 104, .inl (oF sr))), ((r 9), .inl (cZ, 40, .inl (bF (tr_M bf rc sr mk io)))), ((r 4), .inl (cZ, 40, .inl (bF sb)))] H ∧ va_D A [zR r cn mn mi nn, ((r 1), .inl (cI, 40, .inl (oF bf))), ((r 2), .inl (cI, 40, .inl (nF rc))), ((r 15), .inl (cI, 104, .inl (oF sr))), ((r 9), .inl (cZ, 40, .inl (bF (tr_M bf rc sr mk io)))), ((r 4), .inl (cZ, 40, .inl (bF sb)))] ∧ va_S A s.heap H locs ∧ lv_has ls 4 [(3, .int (nI x.1)), (2, .int (bI x.2)), (1, .int (oI io)), (0, .ref (r 0))]) ?_ (0, true) _ _ _ ⟨⟨Nat.zero_le _, rfl⟩, hP, hD, hS, lv_sub hl [0, 1, 3, 2] rfl⟩
  rintro ⟨k, z⟩ H locs ls ⟨hI, hP, hD, hS, hl⟩ ih9
  replace hI : k ≤ cn ∧ z = ds_F (tr_M bf rc sr mk io) sb k := hI
  replace hP : va_P (dC, dI) clsL [zR r cn mn mi nn, ((r 1), .inl (cI, 40, .inl (oF bf))), ((r 2), .inl (cI, 40, .inl (nF rc))), ((r 15), .inl (cI, 104, .inl (oF sr))), ((r 9), .inl (cZ, 40, .inl (bF (tr_M bf rc sr mk io)))), ((r 4), .inl (cZ, 40, .inl (bF sb)))] H := hP
  replace hD : va_D A [zR r cn mn mi nn, ((r 1), .inl (cI, 40, .inl (oF bf))), ((r 2), .inl (cI, 40, .inl (nF rc))), ((r 15), .inl (cI, 104, .inl (oF sr))), ((r 9), .inl (cZ, 40, .inl (bF (tr_M bf rc sr mk io)))), ((r 4), .inl (cZ, 40, .inl (bF sb)))] := hD
  replace hl : lv_has ls 4 [(3, .int (nI k)), (2, .int (bI z)), (1, .int (oI io)), (0, .ref (r 0))] := hl
  have hk1 := hI.1
  refine lv_iload_n hx hb dc_R_dependsOnStable_9 rfl (lv_at hl 0 rfl) ?_
  refine lv_aload_n hx hb dc_R_dependsOnStable_10 rfl (lv_at hl 3 rfl) ?_
  refine va_get (D := (dC, dI)) (ci := 4) (v := .int (nI cn)) (C := cn_R) (T := ft_R) (N := 27) hx hb htb ki_R hown hK hP 0 rfl rfl 0 (by decide) (htb _ kw_370) (fun _ h9 => h9) rfl dc_R_dependsOnStable_11 ?_
  refine lv_icmp_ge (tgt := 51) hx hb dc_R_dependsOnStable_14 (by decide) (fun hc => ?_) (fun hc => ?_)
  · have hk : cn ≤ k := (nI_leI (by omega) (by omega)).mp hc
    refine lv_iload_n hx hb dc_R_dependsOnStable_51 rfl (lv_at hl 1 rfl) ?_
    have hP9 := hP.sub (ws' := [zR r cn mn mi nn, ((r 1), .inl (cI, 40, .inl (oF bf))), ((r 2), .inl (cI, 40, .inl (nF rc))), ((r 15), .inl (cI, 104, .inl (oF sr))), ((r 9), .inl (cZ, 40, .inl (bF (tr_M bf rc sr mk io)))), ((r 4), .inl (cZ, 40, .inl (bF sb)))]) [0, 1, 2, 3, 4, 5] rfl
    have hD9 := hD.sub (ws' := [zR r cn mn mi nn, ((r 1), .inl (cI, 40, .inl (oF bf))), ((r 2), .inl (cI, 40, .inl (nF rc))), ((r 15), .inl (cI, 104, .inl (oF sr))), ((r 9), .inl (cZ, 40, .inl (bF (tr_M bf rc sr mk io)))), ((r 4), .inl (cZ, 40, .inl (bF sb)))]) [0, 1, 2, 3, 4, 5] (by decide) rfl
    exact W.zret (v := bI z) (ty := .boolean) hx hb hr (bI_nar _) (fun t ht hW => ⟨⟨_, (tr_M bf rc sr mk io), rfl, by rw [hI.2, show k = cn by omega, dst_B_eq hcn hio], by rw [ht]; exact hP9, va_K.moved hW.alike hK, hD9⟩, hS.F ht⟩) hS.2.2 dc_R_dependsOnStable_52
  · have hk : k < cn := Nat.lt_of_not_le (fun h9 => hc ((nI_leI (by omega) (by omega)).mpr h9))
    refine lv_iload_n hx hb dc_R_dependsOnStable_17 rfl (lv_at hl 1 rfl) ?_
    refine lv_if_eq (tgt := 43) hx hb dc_R_dependsOnStable_18 (by decide) (fun hc => ?_) (fun hc => ?_)
    · have h1 : z = false := bI_0.mp hc
      refine lv_iconst (v := nI 0) hx hb dc_R_dependsOnStable_43 (by decide) ?_
      refine tp_i (y := bI false) (rfl) ?_
      refine lv_istore_n (lv' := [(2, .int (bI false)), (3, .int (nI k)), (1, .int (oI io)), (0, .ref (r 0))]) hx hb dc_R_dependsOnStable_44 rfl hl (by decide) rfl (fun ls hl => ?_)
      refine lv_iinc (k := 1) (v := nI (k + 1)) (lv' := [(3, .int (nI (k + 1))), (2, .int (bI false)), (1, .int (oI io)), (0, .ref (r 0))]) hx hb dc_R_dependsOnStable_45 hl rfl (nI_inc1 _) (by decide) rfl (fun ls hl => ?_)
      refine lv_goto (tgt := 9) hx hb dc_R_dependsOnStable_48 (by decide) ?_
      exact ih9 (k + 1, false) H locs ls (by first | omega | (dsimp only; omega)) ⟨⟨by first | omega | (dsimp only; omega), by simp only [ds_F]; rw [← hI.2]; clear hI; simp [*]⟩, hP, hD, hS, lv_sub hl [0, 1, 2, 3] rfl⟩
    · have h1 : z = true := bI_n0.mp hc
      refine lv_aload_n hx hb dc_R_dependsOnStable_21 rfl (lv_at hl 3 rfl) ?_
      refine va_get (D := (dC, dI)) (ci := 4) (v := .ref (r 9)) (C := cn_R) (T := ft_R) (N := 27) hx hb htb ki_R hown hK hP 0 rfl rfl 9 (by decide) (htb _ kw_379) (fun _ h9 => h9) rfl dc_R_dependsOnStable_22 ?_
      refine lv_iload_n hx hb dc_R_dependsOnStable_25 rfl (lv_at hl 0 rfl) ?_
      refine wa_bld (k := k) hx hb hK hP 4 2 rfl rfl (by omega) (by omega) dc_R_dependsOnStable_26 ?_
      refine lv_if_eq (tgt := 39) hx hb dc_R_dependsOnStable_27 (by decide) (fun hc => ?_) (fun hc => ?_)
      · have h2 : (tr_M bf rc sr mk io) k = false := bI_0.mp hc
        refine lv_iconst (v := nI 1) hx hb dc_R_dependsOnStable_39 (by decide) ?_
        refine tp_i (y := bI true) (rfl) ?_
        refine lv_goto (tgt := 44) hx hb dc_R_dependsOnStable_40 (by decide) ?_
        refine lv_istore_n (lv' := [(2, .int (bI true)), (3, .int (nI k)), (1, .int (oI io)), (0, .ref (r 0))]) hx hb dc_R_dependsOnStable_44 rfl hl (by decide) rfl (fun ls hl => ?_)
        refine lv_iinc (k := 1) (v := nI (k + 1)) (lv' := [(3, .int (nI (k + 1))), (2, .int (bI true)), (1, .int (oI io)), (0, .ref (r 0))]) hx hb dc_R_dependsOnStable_45 hl rfl (nI_inc1 _) (by decide) rfl (fun ls hl => ?_)
        refine lv_goto (tgt := 9) hx hb dc_R_dependsOnStable_48 (by decide) ?_
        exact ih9 (k + 1, true) H locs ls (by first | omega | (dsimp only; omega)) ⟨⟨by first | omega | (dsimp only; omega), by simp only [ds_F]; rw [← hI.2]; clear hI; simp [*]⟩, hP, hD, hS, lv_sub hl [0, 1, 2, 3] rfl⟩
      · have h2 : (tr_M bf rc sr mk io) k = true := bI_n0.mp hc
        refine lv_aload_n hx hb dc_R_dependsOnStable_30 rfl (lv_at hl 3 rfl) ?_
        refine va_get (D := (dC, dI)) (ci := 4) (v := .ref (r 4)) (C := cn_R) (T := ft_R) (N := 27) hx hb htb ki_R hown hK hP 0 rfl rfl 4 (by decide) (htb _ kw_374) (fun _ h9 => h9) rfl dc_R_dependsOnStable_31 ?_
        refine lv_iload_n hx hb dc_R_dependsOnStable_34 rfl (lv_at hl 0 rfl) ?_
        refine wa_bld (k := k) hx hb hK hP 5 2 rfl rfl (by omega) (by omega) dc_R_dependsOnStable_35 ?_
        refine lv_if_eq (tgt := 43) hx hb dc_R_dependsOnStable_36 (by decide) (fun hc => ?_) (fun hc => ?_)
        · have h3 : sb k = false := bI_0.mp hc
          refine lv_iconst (v := nI 0) hx hb dc_R_dependsOnStable_43 (by decide) ?_
          refine tp_i (y := bI false) (rfl) ?_
          refine lv_istore_n (lv' := [(2, .int (bI false)), (3, .int (nI k)), (1, .int (oI io)), (0, .ref (r 0))]) hx hb dc_R_dependsOnStable_44 rfl hl (by decide) rfl (fun ls hl => ?_)
          refine lv_iinc (k := 1) (v := nI (k + 1)) (lv' := [(3, .int (nI (k + 1))), (2, .int (bI false)), (1, .int (oI io)), (0, .ref (r 0))]) hx hb dc_R_dependsOnStable_45 hl rfl (nI_inc1 _) (by decide) rfl (fun ls hl => ?_)
          refine lv_goto (tgt := 9) hx hb dc_R_dependsOnStable_48 (by decide) ?_
          exact ih9 (k + 1, false) H locs ls (by first | omega | (dsimp only; omega)) ⟨⟨by first | omega | (dsimp only; omega), by simp only [ds_F]; rw [← hI.2]; clear hI; simp [*]⟩, hP, hD, hS, lv_sub hl [0, 1, 2, 3] rfl⟩
        · have h3 : sb k = true := bI_n0.mp hc
          refine lv_iconst (v := nI 1) hx hb dc_R_dependsOnStable_39 (by decide) ?_
          refine tp_i (y := bI true) (rfl) ?_
          refine lv_goto (tgt := 44) hx hb dc_R_dependsOnStable_40 (by decide) ?_
          refine lv_istore_n (lv' := [(2, .int (bI true)), (3, .int (nI k)), (1, .int (oI io)), (0, .ref (r 0))]) hx hb dc_R_dependsOnStable_44 rfl hl (by decide) rfl (fun ls hl => ?_)
          refine lv_iinc (k := 1) (v := nI (k + 1)) (lv' := [(3, .int (nI (k + 1))), (2, .int (bI true)), (1, .int (oI io)), (0, .ref (r 0))]) hx hb dc_R_dependsOnStable_45 hl rfl (nI_inc1 _) (by decide) rfl (fun ls hl => ?_)
          refine lv_goto (tgt := 9) hx hb dc_R_dependsOnStable_48 (by decide) ?_
          exact ih9 (k + 1, true) H locs ls (by first | omega | (dsimp only; omega)) ⟨⟨by first | omega | (dsimp only; omega), by simp only [ds_F]; rw [← hI.2]; clear hI; simp [*]⟩, hP, hD, hS, lv_sub hl [0, 1, 2, 3] rfl⟩

set_option maxHeartbeats 4000000 in
set_option maxRecDepth 100000 in
theorem oc_R_stateOf (l : Launch) (dC : Nat → ClassId) (dI : Nat → Nat → Nat) (cI cJ cZ cP : ClassId) (sz : Nat) (r : Nat → Nat) (cn : Nat) (mn : Nat) (mi : Nat) (nn : Nat) (sv : Nat → Int32) (cc : Nat → Nat) (lg : Nat → Nat) (j : Nat) (n : Nat) (hj : j < 3) (hlg : lg j = n) (hn : n ≤ 40) (hcc : ∀ i, i < n → cc (40 * j + i) < 40) : mt_I l mn_R_stateOf bc_R_stateOf 2 (some .int) ({ frames := 0, cells := 0, slots := 0, locals := 0 }) (dC, dI) (TYS cI cJ cZ cP) sz [.ref (r 0), .int (nI j)] [zR r cn mn mi nn, ((r 3), .inl (cI, 40, .inl sv)), ((r 19), .inl (cI, 120, .inl (nF cc))), ((r 20), .inl (cI, 3, .inl (nF lg)))] [zR r cn mn mi nn, ((r 3), .inl (cI, 40, .inl sv)), ((r 19), .inl (cI, 120, .inl (nF cc))), ((r 20), .inl (cI, 3, .inl (nF lg)))] ((sof sv cc j n)) 0 0 := by
  unfold mt_I
  refine Met.ofW (cc := bc_R_stateOf) (maxL := 2) (ret := (some .int)) (by decide) rfl ?_
  intro p e s m args below meth c s₁ B hml hv
  obtain ⟨rfl, hsz, hP, hK, hD0⟩ := hv
  have hx := B.exec
  have hb := B.bytes
  have hr := B.returns
  have hts := atoms_spec (ws := wsT mn_R_stateOf bc_R_stateOf 2 (some .int)) B.pre
  have htb : ∀ w ∈ gtbl, w.before _ s = true := fun w h => hts w (List.mem_cons_of_mem _ h)
  have hown : s.vm.findClass cn_R = some m.cls := findClass_of_methodNamed B.named
  have hlocks := B.notSynchronized
  subst hsz
  have hD := hD0.self (sz := s.heap.size)
  generalize hAe : va_A [zR r cn mn mi nn, ((r 3), .inl (cI, 40, .inl sv)), ((r 19), .inl (cI, 120, .inl (nF cc))), ((r 20), .inl (cI, 3, .inl (nF lg)))] s.heap.size = A at hD ⊢
  have hA : ∀ q : Nat, s.heap.size ≤ q → A q := fun q h => by rw [← hAe]; exact Or.inr h
  have hS : va_S A s.heap s.heap [] := va_S.rf
  have hP : va_P (dC, dI) clsL [zR r cn mn mi nn, ((r 3), .inl (cI, 40, .inl sv)), ((r 19), .inl (cI, 120, .inl (nF cc))), ((r 20), .inl (cI, 3, .inl (nF lg)))] s.heap := hP
  have hl := lv_entry ([.ref (r 0), .int (nI j)]) (n := 2) (Nat.le_of_ble_eq_true rfl)
  rw [lg_entry_eq]
  generalize (lg_sl ([.ref (r 0), .int (nI j)]) ++ List.replicate (2 - (lg_sl ([.ref (r 0), .int (nI j)])).length) Slot.unset).toArray = ls at hl ⊢
  have hl : lv_has ls 2 [(0, .ref (r 0)), (1, .int (nI j))] := hl
  refine lv_aload_n hx hb dc_R_stateOf_0 rfl (lv_at hl 0 rfl) ?_
  refine va_get (D := (dC, dI)) (ci := 4) (v := .ref (r 20)) (C := cn_R) (T := ft_R) (N := 27) hx hb htb ki_R hown hK hP 0 rfl rfl 20 (by decide) (htb _ kw_390) (fun _ h9 => h9) rfl dc_R_stateOf_1 ?_
  refine lv_iload_n hx hb dc_R_stateOf_4 rfl (lv_at hl 1 rfl) ?_
  refine wa_nld (k := j) hx hb hK hP 3 0 rfl rfl (by omega) (by omega) dc_R_stateOf_5 ?_
  refine tp_i (y := nI n) (by rw [hlg]) ?_
  refine lv_if_ne (tgt := 13) hx hb dc_R_stateOf_6 (by decide) (fun hc => ?_) (fun hc => ?_)
  · have h1 : ¬ n = 0 := fun h9 => hc ((nI_eq (b := 0) (by omega) (by omega)).mpr h9)
    refine lv_aload_n hx hb dc_R_stateOf_13 rfl (lv_at hl 0 rfl) ?_
    refine va_get (D := (dC, dI)) (ci := 4) (v := .ref (r 3)) (C := cn_R) (T := ft_R) (N := 27) hx hb htb ki_R hown hK hP 0 rfl rfl 3 (by decide) (htb _ kw_373) (fun _ h9 => h9) rfl dc_R_stateOf_14 ?_
    refine lv_aload_n hx hb dc_R_stateOf_17 rfl (lv_at hl 0 rfl) ?_
    refine va_get (D := (dC, dI)) (ci := 4) (v := .ref (r 19)) (C := cn_R) (T := ft_R) (N := 27) hx hb htb ki_R hown hK hP 0 rfl rfl 19 (by decide) (htb _ kw_389) (fun _ h9 => h9) rfl dc_R_stateOf_18 ?_
    refine lv_bipush (v := nI 40) hx hb dc_R_stateOf_21 (by decide) ?_
    refine lv_iload_n hx hb dc_R_stateOf_23 rfl (lv_at hl 1 rfl) ?_
    refine lv_imul hx hb dc_R_stateOf_24 ?_
    refine tp_i (y := nI (40 * j)) (pk_mul _ _) ?_
    refine lv_aload_n hx hb dc_R_stateOf_25 rfl (lv_at hl 0 rfl) ?_
    refine va_get (D := (dC, dI)) (ci := 4) (v := .ref (r 20)) (C := cn_R) (T := ft_R) (N := 27) hx hb htb ki_R hown hK hP 0 rfl rfl 20 (by decide) (htb _ kw_390) (fun _ h9 => h9) rfl dc_R_stateOf_26 ?_
    refine lv_iload_n hx hb dc_R_stateOf_29 rfl (lv_at hl 1 rfl) ?_
    refine wa_nld (k := j) hx hb hK hP 3 0 rfl rfl (by omega) (by omega) dc_R_stateOf_30 ?_
    refine tp_i (y := nI n) (by rw [hlg]) ?_
    refine lv_iadd hx hb dc_R_stateOf_31 ?_
    refine tp_i (y := nI (40 * j + n)) (nI_add _ _) ?_
    refine lv_iconst (v := nI 1) hx hb dc_R_stateOf_32 (by decide) ?_
    refine lv_isub hx hb dc_R_stateOf_33 ?_
    refine tp_i (y := nI (40 * j + n - 1)) (pk_sub (by omega)) ?_
    refine wa_nld (k := 40 * j + n - 1) hx hb hK hP 2 0 rfl rfl (by omega) (by omega) dc_R_stateOf_34 ?_
    refine wa_ild (k := cc (40 * j + n - 1)) hx hb hK hP 1 0 rfl rfl (by have h7 := hcc (n - 1) (by omega); rwa [show 40 * j + (n - 1) = 40 * j + n - 1 by omega] at h7) (by omega) dc_R_stateOf_35 ?_
    have hP9 := hP.sub (ws' := [zR r cn mn mi nn, ((r 3), .inl (cI, 40, .inl sv)), ((r 19), .inl (cI, 120, .inl (nF cc))), ((r 20), .inl (cI, 3, .inl (nF lg)))]) [0, 1, 2, 3] rfl
    have hD9 := hD.sub (ws' := [zR r cn mn mi nn, ((r 3), .inl (cI, 40, .inl sv)), ((r 19), .inl (cI, 120, .inl (nF cc))), ((r 20), .inl (cI, 3, .inl (nF lg)))]) [0, 1, 2, 3] (by decide) rfl
    exact W.iret (v := sv (cc (40 * j + n - 1))) hx hb hr (fun t ht hW => ⟨⟨_, (), rfl, by simp [sof, h1, nI_0], by rw [ht]; exact hP9, va_K.moved hW.alike hK, hD9⟩, hS.F ht⟩) hS.2.2 dc_R_stateOf_36
  · have h1 : n = 0 := (nI_eq (b := 0) (by omega) (by omega)).mp hc
    refine lv_iconst (v := nI 0) hx hb dc_R_stateOf_9 (by decide) ?_
    refine lv_goto (tgt := 36) hx hb dc_R_stateOf_10 (by decide) ?_
    have hP9 := hP.sub (ws' := [zR r cn mn mi nn, ((r 3), .inl (cI, 40, .inl sv)), ((r 19), .inl (cI, 120, .inl (nF cc))), ((r 20), .inl (cI, 3, .inl (nF lg)))]) [0, 1, 2, 3] rfl
    have hD9 := hD.sub (ws' := [zR r cn mn mi nn, ((r 3), .inl (cI, 40, .inl sv)), ((r 19), .inl (cI, 120, .inl (nF cc))), ((r 20), .inl (cI, 3, .inl (nF lg)))]) [0, 1, 2, 3] (by decide) rfl
    exact W.iret (v := nI 0) hx hb hr (fun t ht hW => ⟨⟨_, (), rfl, by simp [sof, h1, nI_0], by rw [ht]; exact hP9, va_K.moved hW.alike hK, hD9⟩, hS.F ht⟩) hS.2.2 dc_R_stateOf_36

set_option maxHeartbeats 4000000 in
set_option maxRecDepth 100000 in
theorem oc_R_settle (l : Launch) (dC : Nat → ClassId) (dI : Nat → Nat → Nat) (cI cJ cZ cP : ClassId) (sz : Nat) (r : Nat → Nat) (cn : Nat) (mn : Nat) (mi : Nat) (nn : Nat) (sb : Nat → Bool) (cc : Nat → Nat) (lg : Nat → Nat) (j : Nat) (n : Nat) (hj : j < 3) (hlg : lg j = n) (hn : n ≤ 40) (hcc : ∀ i, i < n → cc (40 * j + i) < 40) : mt_I l mn_R_settle bc_R_settle 5 (some .int) ({ frames := 0, cells := 0, slots := 0, locals := 0 }) (dC, dI) (TYS cI cJ cZ cP) sz [.ref (r 0), .int (nI j)] [zR r cn mn mi nn, ((r 4), .inl (cZ, 40, .inl (bF sb))), ((r 19), .inl (cI, 120, .inl (nF cc))), ((r 20), .inl (cI, 3, .inl (nF lg)))] [zR r cn mn mi nn, ((r 4), .inl (cZ, 40, .inl (bF ((se_S sb (fun i => cc (40 * j + i)) n).2)))), ((r 19), .inl (cI, 120, .inl (nF cc))), ((r 20), .inl (cI, 3, .inl (nF lg)))] (nI ((se_S sb (fun i => cc (40 * j + i)) n).1)) 0 0 := by
  unfold mt_I
  refine Met.ofW (cc := bc_R_settle) (maxL := 5) (ret := (some .int)) (by decide) rfl ?_
  intro p e s m args below meth c s₁ B hml hv
  obtain ⟨rfl, hsz, hP, hK, hD0⟩ := hv
  have hx := B.exec
  have hb := B.bytes
  have hr := B.returns
  have hts := atoms_spec (ws := wsT mn_R_settle bc_R_settle 5 (some .int)) B.pre
  have htb : ∀ w ∈ gtbl, w.before _ s = true := fun w h => hts w (List.mem_cons_of_mem _ h)
  have hown : s.vm.findClass cn_R = some m.cls := findClass_of_methodNamed B.named
  have hlocks := B.notSynchronized
  subst hsz
  have hD := hD0.self (sz := s.heap.size)
  generalize hAe : va_A [zR r cn mn mi nn, ((r 4), .inl (cZ, 40, .inl (bF sb))), ((r 19), .inl (cI, 120, .inl (nF cc))), ((r 20), .inl (cI, 3, .inl (nF lg)))] s.heap.size = A at hD ⊢
  have hA : ∀ q : Nat, s.heap.size ≤ q → A q := fun q h => by rw [← hAe]; exact Or.inr h
  have hS : va_S A s.heap s.heap [] := va_S.rf
  have hP : va_P (dC, dI) clsL [zR r cn mn mi nn, ((r 4), .inl (cZ, 40, .inl (bF sb))), ((r 19), .inl (cI, 120, .inl (nF cc))), ((r 20), .inl (cI, 3, .inl (nF lg)))] s.heap := hP
  have hl := lv_entry ([.ref (r 0), .int (nI j)]) (n := 5) (Nat.le_of_ble_eq_true rfl)
  rw [lg_entry_eq]
  generalize (lg_sl ([.ref (r 0), .int (nI j)]) ++ List.replicate (5 - (lg_sl ([.ref (r 0), .int (nI j)])).length) Slot.unset).toArray = ls at hl ⊢
  have hl : lv_has ls 5 [(0, .ref (r 0)), (1, .int (nI j))] := hl
  refine lv_iconst (v := nI 0) hx hb dc_R_settle_0 (by decide) ?_
  refine lv_istore_n (lv' := [(2, .int (nI 0)), (0, .ref (r 0)), (1, .int (nI j))]) hx hb dc_R_settle_1 rfl hl (by decide) rfl (fun ls hl => ?_)
  refine lv_iconst (v := nI 0) hx hb dc_R_settle_2 (by decide) ?_
  refine lv_istore_n (lv' := [(3, .int (nI 0)), (2, .int (nI 0)), (0, .ref (r 0)), (1, .int (nI j))]) hx hb dc_R_settle_3 rfl hl (by decide) rfl (fun ls hl => ?_)
  refine wl_ 4 (fun (x : Nat × Nat × (Nat → Bool)) => n - x.1) (fun (x : Nat × Nat × (Nat → Bool)) (H : Heap) (locs : List Loc) (ls : Array Slot) => (x.1 ≤ n ∧ (x.2.1, x.2.2) = (se_S sb (fun i => cc (40 * j + i)) x.1)) ∧ va_P (dC, dI) clsL [zR r cn mn mi nn, ((r 4), .inl (cZ, 40, .inl (bF x.2.2))), ((r 19), .inl (cI, 120, .inl (nF cc))), ((r 20), .inl (cI, 3, .inl (nF lg)))] H ∧ va_D A [zR r cn mn mi nn, ((r 4), .inl (cZ, 40, .inl (bF x.2.2))), ((r 19), .inl (cI, 120, .inl (nF cc))), ((r 20), .inl (cI, 3, .inl (nF lg)))] ∧ va_S A s.heap H locs ∧ lv_has ls 5 [(3, .int (nI x.1)), (2, .int (nI x.2.1)), (1, .int (nI j)), (0, .ref (r 0))]) ?_ (0, 0, sb) _ _ _ ⟨⟨Nat.zero_le _, rfl⟩, hP, hD, hS, lv_sub hl [0, 1, 3, 2] rfl⟩
  rintro ⟨k, z, g⟩ H locs ls ⟨hI, hP, hD, hS, hl⟩ ih4
  replace hI : k ≤ n ∧ (z, g) = (se_S sb (fun i => cc (40 * j + i)) k) := hI
  replace hP : va_P (dC, dI) clsL [zR r cn mn mi nn, ((r 4), .inl (cZ, 40, .inl (bF g))), ((r 19), .inl (cI, 120, .inl (nF cc))), ((r 20), .inl (cI, 3, .inl (nF lg)))] H := hP
  replace hD : va_D A [zR r cn mn mi nn, ((r 4), .inl (cZ, 40, .inl (bF g))), ((r 19), .inl (cI, 120, .inl (nF cc))), ((r 20), .inl (cI, 3, .inl (nF lg)))] := hD
  replace hl : lv_has ls 5 [(3, .int (nI k)), (2, .int (nI z)), (1, .int (nI j)), (0, .ref (r 0))] := hl
  have hk1 := hI.1
  refine lv_iload_n hx hb dc_R_settle_4 rfl (lv_at hl 0 rfl) ?_
  refine lv_aload_n hx hb dc_R_settle_5 rfl (lv_at hl 3 rfl) ?_
  refine va_get (D := (dC, dI)) (ci := 4) (v := .ref (r 20)) (C := cn_R) (T := ft_R) (N := 27) hx hb htb ki_R hown hK hP 0 rfl rfl 20 (by decide) (htb _ kw_390) (fun _ h9 => h9) rfl dc_R_settle_6 ?_
  refine lv_iload_n hx hb dc_R_settle_9 rfl (lv_at hl 2 rfl) ?_
  refine wa_nld (k := j) hx hb hK hP 3 0 rfl rfl (by omega) (by omega) dc_R_settle_10 ?_
  refine tp_i (y := nI n) (by rw [hlg]) ?_
  refine lv_icmp_ge (tgt := 59) hx hb dc_R_settle_11 (by decide) (fun hc => ?_) (fun hc => ?_)
  · have hk : n ≤ k := (nI_leI (by omega) (by omega)).mp hc
    refine lv_iload_n hx hb dc_R_settle_59 rfl (lv_at hl 1 rfl) ?_
    obtain rfl : n = k := by omega
    have hP8 := hP.sub (ws' := [zR r cn mn mi nn, ((r 4), .inl (cZ, 40, .inl (bF g))), ((r 19), .inl (cI, 120, .inl (nF cc))), ((r 20), .inl (cI, 3, .inl (nF lg)))]) [0, 1, 2, 3] rfl
    have hD8 := hD.sub (ws' := [zR r cn mn mi nn, ((r 4), .inl (cZ, 40, .inl (bF g))), ((r 19), .inl (cI, 120, .inl (nF cc))), ((r 20), .inl (cI, 3, .inl (nF lg)))]) [0, 1, 2, 3] (by decide) rfl
    have hW8 : ([zR r cn mn mi nn, ((r 4), .inl (cZ, 40, .inl (bF g))), ((r 19), .inl (cI, 120, .inl (nF cc))), ((r 20), .inl (cI, 3, .inl (nF lg)))] : va_W) = [zR r cn mn mi nn, ((r 4), .inl (cZ, 40, .inl (bF ((se_S sb (fun i => cc (40 * j + i)) n).2)))), ((r 19), .inl (cI, 120, .inl (nF cc))), ((r 20), .inl (cI, 3, .inl (nF lg)))] := by rw [← hI.2]
    rw [hW8] at hP8 hD8
    have hP9 := hP8
    have hD9 := hD8
    exact W.iret (v := nI z) hx hb hr (fun t ht hW => ⟨⟨_, (), rfl, by rw [← hI.2], by rw [ht]; exact hP9, va_K.moved hW.alike hK, hD9⟩, hS.F ht⟩) hS.2.2 dc_R_settle_60
  · have hk : k < n := Nat.lt_of_not_le (fun h9 => hc ((nI_leI (by omega) (by omega)).mpr h9))
    refine lv_aload_n hx hb dc_R_settle_14 rfl (lv_at hl 3 rfl) ?_
    refine va_get (D := (dC, dI)) (ci := 4) (v := .ref (r 19)) (C := cn_R) (T := ft_R) (N := 27) hx hb htb ki_R hown hK hP 0 rfl rfl 19 (by decide) (htb _ kw_389) (fun _ h9 => h9) rfl dc_R_settle_15 ?_
    refine lv_bipush (v := nI 40) hx hb dc_R_settle_18 (by decide) ?_
    refine lv_iload_n hx hb dc_R_settle_20 rfl (lv_at hl 2 rfl) ?_
    refine lv_imul hx hb dc_R_settle_21 ?_
    refine tp_i (y := nI (40 * j)) (pk_mul _ _) ?_
    refine lv_iload_n hx hb dc_R_settle_22 rfl (lv_at hl 0 rfl) ?_
    refine lv_iadd hx hb dc_R_settle_23 ?_
    refine tp_i (y := nI (40 * j + k)) (nI_add _ _) ?_
    refine wa_nld (k := 40 * j + k) hx hb hK hP 2 0 rfl rfl (by omega) (by omega) dc_R_settle_24 ?_
    have hc9 := hcc k hk
    refine lv_istore (lv' := [(4, .int (nI (cc (40 * j + k)))), (3, .int (nI k)), (2, .int (nI z)), (1, .int (nI j)), (0, .ref (r 0))]) hx hb dc_R_settle_25 hl (by decide) rfl (fun ls hl => ?_)
    refine lv_aload_n hx hb dc_R_settle_27 rfl (lv_at hl 4 rfl) ?_
    refine va_get (D := (dC, dI)) (ci := 4) (v := .ref (r 4)) (C := cn_R) (T := ft_R) (N := 27) hx hb htb ki_R hown hK hP 0 rfl rfl 4 (by decide) (htb _ kw_374) (fun _ h9 => h9) rfl dc_R_settle_28 ?_
    refine lv_iload hx hb dc_R_settle_31 (lv_at hl 0 rfl) ?_
    refine wa_bld (k := cc (40 * j + k)) hx hb hK hP 1 2 rfl rfl (by omega) (by omega) dc_R_settle_33 ?_
    refine lv_if_eq (tgt := 41) hx hb dc_R_settle_34 (by decide) (fun hc => ?_) (fun hc => ?_)
    · have h1 : g (cc (40 * j + k)) = false := bI_0.mp hc
      refine lv_iload_n hx hb dc_R_settle_41 rfl (lv_at hl 2 rfl) ?_
      refine lv_iconst (v := nI 1) hx hb dc_R_settle_42 (by decide) ?_
      refine lv_iadd hx hb dc_R_settle_43 ?_
      refine tp_i (y := nI (z + 1)) (nI_add _ _) ?_
      refine lv_istore_n (lv' := [(2, .int (nI (z + 1))), (4, .int (nI (cc (40 * j + k)))), (3, .int (nI k)), (1, .int (nI j)), (0, .ref (r 0))]) hx hb dc_R_settle_44 rfl hl (by decide) rfl (fun ls hl => ?_)
      refine lv_aload_n hx hb dc_R_settle_45 rfl (lv_at hl 4 rfl) ?_
      refine va_get (D := (dC, dI)) (ci := 4) (v := .ref (r 4)) (C := cn_R) (T := ft_R) (N := 27) hx hb htb ki_R hown hK hP 0 rfl rfl 4 (by decide) (htb _ kw_374) (fun _ h9 => h9) rfl dc_R_settle_46 ?_
      refine lv_iload hx hb dc_R_settle_49 (lv_at hl 1 rfl) ?_
      refine lv_iconst (v := nI 1) hx hb dc_R_settle_51 (by decide) ?_
      refine tp_i (y := bI true) (rfl) ?_
      refine wa_bst (k := cc (40 * j + k)) (x := true) hx hb hK hP hD hS 1 2 rfl rfl (by omega) (by omega) dc_R_settle_52 (fun H locs hP hD hS => ?_)
      have hP : va_P (dC, dI) clsL [zR r cn mn mi nn, ((r 4), .inl (cZ, 40, .inl (bF (va_up g (cc (40 * j + k)) true)))), ((r 19), .inl (cI, 120, .inl (nF cc))), ((r 20), .inl (cI, 3, .inl (nF lg)))] H := hP
      have hD : va_D A [zR r cn mn mi nn, ((r 4), .inl (cZ, 40, .inl (bF (va_up g (cc (40 * j + k)) true)))), ((r 19), .inl (cI, 120, .inl (nF cc))), ((r 20), .inl (cI, 3, .inl (nF lg)))] := hD
      refine lv_iinc (k := 2) (v := nI (k + 1)) (lv' := [(3, .int (nI (k + 1))), (2, .int (nI (z + 1))), (4, .int (nI (cc (40 * j + k)))), (1, .int (nI j)), (0, .ref (r 0))]) hx hb dc_R_settle_53 hl rfl (nI_inc1 _) (by decide) rfl (fun ls hl => ?_)
      refine lv_goto (tgt := 4) hx hb dc_R_settle_56 (by decide) ?_
      exact ih4 (k + 1, z + 1, va_up g (cc (40 * j + k)) true) H locs ls (by first | omega | (dsimp only; omega)) ⟨⟨by first | omega | (dsimp only; omega), by simp only [se_S]; rw [← hI.2]; simp [h1]⟩, hP, hD, hS, lv_sub hl [0, 1, 3, 4] rfl⟩
    · have h1 : g (cc (40 * j + k)) = true := bI_n0.mp hc
      refine lv_iload_n hx hb dc_R_settle_37 rfl (lv_at hl 2 rfl) ?_
      refine lv_goto (tgt := 44) hx hb dc_R_settle_38 (by decide) ?_
      refine lv_istore_n (lv' := [(2, .int (nI z)), (4, .int (nI (cc (40 * j + k)))), (3, .int (nI k)), (1, .int (nI j)), (0, .ref (r 0))]) hx hb dc_R_settle_44 rfl hl (by decide) rfl (fun ls hl => ?_)
      refine lv_aload_n hx hb dc_R_settle_45 rfl (lv_at hl 4 rfl) ?_
      refine va_get (D := (dC, dI)) (ci := 4) (v := .ref (r 4)) (C := cn_R) (T := ft_R) (N := 27) hx hb htb ki_R hown hK hP 0 rfl rfl 4 (by decide) (htb _ kw_374) (fun _ h9 => h9) rfl dc_R_settle_46 ?_
      refine lv_iload hx hb dc_R_settle_49 (lv_at hl 1 rfl) ?_
      refine lv_iconst (v := nI 1) hx hb dc_R_settle_51 (by decide) ?_
      refine tp_i (y := bI true) (rfl) ?_
      refine wa_bst (k := cc (40 * j + k)) (x := true) hx hb hK hP hD hS 1 2 rfl rfl (by omega) (by omega) dc_R_settle_52 (fun H locs hP hD hS => ?_)
      have hP : va_P (dC, dI) clsL [zR r cn mn mi nn, ((r 4), .inl (cZ, 40, .inl (bF (va_up g (cc (40 * j + k)) true)))), ((r 19), .inl (cI, 120, .inl (nF cc))), ((r 20), .inl (cI, 3, .inl (nF lg)))] H := hP
      have hD : va_D A [zR r cn mn mi nn, ((r 4), .inl (cZ, 40, .inl (bF (va_up g (cc (40 * j + k)) true)))), ((r 19), .inl (cI, 120, .inl (nF cc))), ((r 20), .inl (cI, 3, .inl (nF lg)))] := hD
      refine lv_iinc (k := 2) (v := nI (k + 1)) (lv' := [(3, .int (nI (k + 1))), (2, .int (nI z)), (4, .int (nI (cc (40 * j + k)))), (1, .int (nI j)), (0, .ref (r 0))]) hx hb dc_R_settle_53 hl rfl (nI_inc1 _) (by decide) rfl (fun ls hl => ?_)
      refine lv_goto (tgt := 4) hx hb dc_R_settle_56 (by decide) ?_
      exact ih4 (k + 1, z, va_up g (cc (40 * j + k)) true) H locs ls (by first | omega | (dsimp only; omega)) ⟨⟨by first | omega | (dsimp only; omega), by simp only [se_S]; rw [← hI.2]; simp [h1]⟩, hP, hD, hS, lv_sub hl [0, 1, 3, 4] rfl⟩

set_option maxHeartbeats 4000000 in
set_option maxRecDepth 100000 in
theorem oc_R_isOn (l : Launch) (dC : Nat → ClassId) (dI : Nat → Nat → Nat) (cI cJ cZ cP : ClassId) (sz : Nat) (r : Nat → Nat) (cn : Nat) (mn : Nat) (mi : Nat) (nn : Nat) (cc : Nat → Nat) (lg : Nat → Nat) (j : Nat) (n : Nat) (io : Option Nat) (hj : j < 3) (hlg : lg j = n) (hn : n ≤ 40) (hcc : ∀ i, i < n → cc (40 * j + i) < 40) (hio : ∀ i, io = some i → i < 40) : mt_I l mn_R_isOn bc_R_isOn 5 (some .boolean) ({ frames := 0, cells := 0, slots := 0, locals := 0 }) (dC, dI) (TYS cI cJ cZ cP) sz [.ref (r 0), .int (nI j), .int (oI io)] [zR r cn mn mi nn, ((r 19), .inl (cI, 120, .inl (nF cc))), ((r 20), .inl (cI, 3, .inl (nF lg)))] [zR r cn mn mi nn, ((r 19), .inl (cI, 120, .inl (nF cc))), ((r 20), .inl (cI, 3, .inl (nF lg)))] (bI (on_F (fun i => cc (40 * j + i)) io n)) 0 0 := by
  unfold mt_I
  refine Met.ofW (cc := bc_R_isOn) (maxL := 5) (ret := (some .boolean)) (by decide) rfl ?_
  intro p e s m args below meth c s₁ B hml hv
  obtain ⟨rfl, hsz, hP, hK, hD0⟩ := hv
  have hx := B.exec
  have hb := B.bytes
  have hr := B.returns
  have hts := atoms_spec (ws := wsT mn_R_isOn bc_R_isOn 5 (some .boolean)) B.pre
  have htb : ∀ w ∈ gtbl, w.before _ s = true := fun w h => hts w (List.mem_cons_of_mem _ h)
  have hown : s.vm.findClass cn_R = some m.cls := findClass_of_methodNamed B.named
  have hlocks := B.notSynchronized
  subst hsz
  have hD := hD0.self (sz := s.heap.size)
  generalize hAe : va_A [zR r cn mn mi nn, ((r 19), .inl (cI, 120, .inl (nF cc))), ((r 20), .inl (cI, 3, .inl (nF lg)))] s.heap.size = A at hD ⊢
  have hA : ∀ q : Nat, s.heap.size ≤ q → A q := fun q h => by rw [← hAe]; exact Or.inr h
  have hS : va_S A s.heap s.heap [] := va_S.rf
  have hP : va_P (dC, dI) clsL [zR r cn mn mi nn, ((r 19), .inl (cI, 120, .inl (nF cc))), ((r 20), .inl (cI, 3, .inl (nF lg)))] s.heap := hP
  have hl := lv_entry ([.ref (r 0), .int (nI j), .int (oI io)]) (n := 5) (Nat.le_of_ble_eq_true rfl)
  rw [lg_entry_eq]
  generalize (lg_sl ([.ref (r 0), .int (nI j), .int (oI io)]) ++ List.replicate (5 - (lg_sl ([.ref (r 0), .int (nI j), .int (oI io)])).length) Slot.unset).toArray = ls at hl ⊢
  have hl : lv_has ls 5 [(0, .ref (r 0)), (1, .int (nI j)), (2, .int (oI io))] := hl
  refine lv_iconst (v := nI 0) hx hb dc_R_isOn_0 (by decide) ?_
  refine tp_i (y := bI false) (rfl) ?_
  refine lv_istore_n (lv' := [(3, .int (bI false)), (0, .ref (r 0)), (1, .int (nI j)), (2, .int (oI io))]) hx hb dc_R_isOn_1 rfl hl (by decide) rfl (fun ls hl => ?_)
  refine lv_iconst (v := nI 0) hx hb dc_R_isOn_2 (by decide) ?_
  refine lv_istore (lv' := [(4, .int (nI 0)), (3, .int (bI false)), (0, .ref (r 0)), (1, .int (nI j)), (2, .int (oI io))]) hx hb dc_R_isOn_3 hl (by decide) rfl (fun ls hl => ?_)
  refine wl_ 5 (fun (x : Nat × Bool) => n - x.1) (fun (x : Nat × Bool) (H : Heap) (locs : List Loc) (ls : Array Slot) => (x.1 ≤ n ∧ x.2 = on_F (fun i => cc (40 * j + i)) io x.1) ∧ va_P (dC, dI) clsL [zR r cn mn mi nn, ((r 19), .inl (cI, 120, .inl (nF cc))), ((r 20), .inl (cI, 3, .inl (nF lg)))] H ∧ va_D A [zR r cn mn mi nn, ((r 19), .inl (cI, 120, .inl (nF cc))), ((r 20), .inl (cI, 3, .inl (nF lg)))] ∧ va_S A s.heap H locs ∧ lv_has ls 5 [(4, .int (nI x.1)), (3, .int (bI x.2)), (2, .int (oI io)), (1, .int (nI j)), (0, .ref (r 0))]) ?_ (0, false) _ _ _ ⟨⟨Nat.zero_le _, rfl⟩, hP, hD, hS, lv_sub hl [0, 1, 4, 3, 2] rfl⟩
  rintro ⟨k, z⟩ H locs ls ⟨hI, hP, hD, hS, hl⟩ ih5
  replace hI : k ≤ n ∧ z = on_F (fun i => cc (40 * j + i)) io k := hI
  replace hP : va_P (dC, dI) clsL [zR r cn mn mi nn, ((r 19), .inl (cI, 120, .inl (nF cc))), ((r 20), .inl (cI, 3, .inl (nF lg)))] H := hP
  replace hD : va_D A [zR r cn mn mi nn, ((r 19), .inl (cI, 120, .inl (nF cc))), ((r 20), .inl (cI, 3, .inl (nF lg)))] := hD
  replace hl : lv_has ls 5 [(4, .int (nI k)), (3, .int (bI z)), (2, .int (oI io)), (1, .int (nI j)), (0, .ref (r 0))] := hl
  have hk1 := hI.1
  refine lv_iload hx hb dc_R_isOn_5 (lv_at hl 0 rfl) ?_
  refine lv_aload_n hx hb dc_R_isOn_7 rfl (lv_at hl 4 rfl) ?_
  refine va_get (D := (dC, dI)) (ci := 4) (v := .ref (r 20)) (C := cn_R) (T := ft_R) (N := 27) hx hb htb ki_R hown hK hP 0 rfl rfl 20 (by decide) (htb _ kw_390) (fun _ h9 => h9) rfl dc_R_isOn_8 ?_
  refine lv_iload_n hx hb dc_R_isOn_11 rfl (lv_at hl 3 rfl) ?_
  refine wa_nld (k := j) hx hb hK hP 2 0 rfl rfl (by omega) (by omega) dc_R_isOn_12 ?_
  refine tp_i (y := nI n) (by rw [hlg]) ?_
  refine lv_icmp_ge (tgt := 48) hx hb dc_R_isOn_13 (by decide) (fun hc => ?_) (fun hc => ?_)
  · have hk : n ≤ k := (nI_leI (by omega) (by omega)).mp hc
    refine lv_iload_n hx hb dc_R_isOn_48 rfl (lv_at hl 1 rfl) ?_
    have hP9 := hP.sub (ws' := [zR r cn mn mi nn, ((r 19), .inl (cI, 120, .inl (nF cc))), ((r 20), .inl (cI, 3, .inl (nF lg)))]) [0, 1, 2] rfl
    have hD9 := hD.sub (ws' := [zR r cn mn mi nn, ((r 19), .inl (cI, 120, .inl (nF cc))), ((r 20), .inl (cI, 3, .inl (nF lg)))]) [0, 1, 2] (by decide) rfl
    exact W.zret (v := bI z) (ty := .boolean) hx hb hr (bI_nar _) (fun t ht hW => ⟨⟨_, (), rfl, by rw [hI.2, show k = n by omega], by rw [ht]; exact hP9, va_K.moved hW.alike hK, hD9⟩, hS.F ht⟩) hS.2.2 dc_R_isOn_49
  · have hk : k < n := Nat.lt_of_not_le (fun h9 => hc ((nI_leI (by omega) (by omega)).mpr h9))
    refine lv_iload_n hx hb dc_R_isOn_16 rfl (lv_at hl 1 rfl) ?_
    refine lv_if_ne (tgt := 36) hx hb dc_R_isOn_17 (by decide) (fun hc => ?_) (fun hc => ?_)
    · have h1 : z = true := bI_n0.mp hc
      refine lv_iconst (v := nI 1) hx hb dc_R_isOn_36 (by decide) ?_
      refine tp_i (y := bI true) (rfl) ?_
      refine lv_goto (tgt := 41) hx hb dc_R_isOn_37 (by decide) ?_
      refine lv_istore_n (lv' := [(3, .int (bI true)), (4, .int (nI k)), (2, .int (oI io)), (1, .int (nI j)), (0, .ref (r 0))]) hx hb dc_R_isOn_41 rfl hl (by decide) rfl (fun ls hl => ?_)
      refine lv_iinc (k := 1) (v := nI (k + 1)) (lv' := [(4, .int (nI (k + 1))), (3, .int (bI true)), (2, .int (oI io)), (1, .int (nI j)), (0, .ref (r 0))]) hx hb dc_R_isOn_42 hl rfl (nI_inc1 _) (by decide) rfl (fun ls hl => ?_)
      refine lv_goto (tgt := 5) hx hb dc_R_isOn_45 (by decide) ?_
      exact ih5 (k + 1, true) H locs ls (by first | omega | (dsimp only; omega)) ⟨⟨by first | omega | (dsimp only; omega), by simp only [on_F]; rw [← hI.2]; clear hI; simp [*]⟩, hP, hD, hS, lv_sub hl [0, 1, 2, 3, 4] rfl⟩
    · have h1 : z = false := bI_0.mp hc
      refine lv_aload_n hx hb dc_R_isOn_20 rfl (lv_at hl 4 rfl) ?_
      refine va_get (D := (dC, dI)) (ci := 4) (v := .ref (r 19)) (C := cn_R) (T := ft_R) (N := 27) hx hb htb ki_R hown hK hP 0 rfl rfl 19 (by decide) (htb _ kw_389) (fun _ h9 => h9) rfl dc_R_isOn_21 ?_
      refine lv_bipush (v := nI 40) hx hb dc_R_isOn_24 (by decide) ?_
      refine lv_iload_n hx hb dc_R_isOn_26 rfl (lv_at hl 3 rfl) ?_
      refine lv_imul hx hb dc_R_isOn_27 ?_
      refine tp_i (y := nI (40 * j)) (pk_mul _ _) ?_
      refine lv_iload hx hb dc_R_isOn_28 (lv_at hl 0 rfl) ?_
      refine lv_iadd hx hb dc_R_isOn_30 ?_
      refine tp_i (y := nI (40 * j + k)) (nI_add _ _) ?_
      refine wa_nld (k := 40 * j + k) hx hb hK hP 1 0 rfl rfl (by omega) (by omega) dc_R_isOn_31 ?_
      have hc9 := hcc k hk
      refine lv_iload_n hx hb dc_R_isOn_32 rfl (lv_at hl 2 rfl) ?_
      refine lv_icmp_ne (tgt := 40) hx hb dc_R_isOn_33 (by decide) (fun hc => ?_) (fun hc => ?_)
      · have h2 : ¬ io = some (cc (40 * j + k)) := fun h9 => hc ((nI_o_ (fun i q => by have := hio i q; omega) (by omega)).mpr h9)
        refine lv_iconst (v := nI 0) hx hb dc_R_isOn_40 (by decide) ?_
        refine tp_i (y := bI false) (rfl) ?_
        refine lv_istore_n (lv' := [(3, .int (bI false)), (4, .int (nI k)), (2, .int (oI io)), (1, .int (nI j)), (0, .ref (r 0))]) hx hb dc_R_isOn_41 rfl hl (by decide) rfl (fun ls hl => ?_)
        refine lv_iinc (k := 1) (v := nI (k + 1)) (lv' := [(4, .int (nI (k + 1))), (3, .int (bI false)), (2, .int (oI io)), (1, .int (nI j)), (0, .ref (r 0))]) hx hb dc_R_isOn_42 hl rfl (nI_inc1 _) (by decide) rfl (fun ls hl => ?_)
        refine lv_goto (tgt := 5) hx hb dc_R_isOn_45 (by decide) ?_
        exact ih5 (k + 1, false) H locs ls (by first | omega | (dsimp only; omega)) ⟨⟨by first | omega | (dsimp only; omega), by simp only [on_F]; rw [← hI.2]; clear hI; simp [*]⟩, hP, hD, hS, lv_sub hl [0, 1, 2, 3, 4] rfl⟩
      · have h2 : io = some (cc (40 * j + k)) := (nI_o_ (fun i q => by have := hio i q; omega) (by omega)).mp hc
        refine lv_iconst (v := nI 1) hx hb dc_R_isOn_36 (by decide) ?_
        refine tp_i (y := bI true) (rfl) ?_
        refine lv_goto (tgt := 41) hx hb dc_R_isOn_37 (by decide) ?_
        refine lv_istore_n (lv' := [(3, .int (bI true)), (4, .int (nI k)), (2, .int (oI io)), (1, .int (nI j)), (0, .ref (r 0))]) hx hb dc_R_isOn_41 rfl hl (by decide) rfl (fun ls hl => ?_)
        refine lv_iinc (k := 1) (v := nI (k + 1)) (lv' := [(4, .int (nI (k + 1))), (3, .int (bI true)), (2, .int (oI io)), (1, .int (nI j)), (0, .ref (r 0))]) hx hb dc_R_isOn_42 hl rfl (nI_inc1 _) (by decide) rfl (fun ls hl => ?_)
        refine lv_goto (tgt := 5) hx hb dc_R_isOn_45 (by decide) ?_
        exact ih5 (k + 1, true) H locs ls (by first | omega | (dsimp only; omega)) ⟨⟨by first | omega | (dsimp only; omega), by simp only [on_F]; rw [← hI.2]; clear hI; simp [*]⟩, hP, hD, hS, lv_sub hl [0, 1, 2, 3, 4] rfl⟩

set_option maxHeartbeats 4000000 in
set_option maxRecDepth 100000 in
theorem oc_R_drop (l : Launch) (dC : Nat → ClassId) (dI : Nat → Nat → Nat) (cI cJ cZ cP : ClassId) (sz : Nat) (r : Nat → Nat) (cn : Nat) (mn : Nat) (mi : Nat) (nn : Nat) (lg : Nat → Nat) (lt : Nat → Option Nat) (sd : Nat → Option Nat) (j : Nat) (n : Nat) (hj : j < 3) (hlg : lg j = n) (hn : n ≤ 40) : mt_V l mn_R_drop bc_R_drop 2 none ({ frames := 0, cells := 0, slots := 0, locals := 0 }) (dC, dI) (TYS cI cJ cZ cP) sz [.ref (r 0), .int (nI j)] [zR r cn mn mi nn, ((r 20), .inl (cI, 3, .inl (nF lg))), ((r 22), .inl (cI, 3, .inl (oF lt))), ((r 23), .inl (cI, 3, .inl (oF sd)))] [zR r cn mn mi nn, ((r 20), .inl (cI, 3, .inl (nF lg))), ((r 22), .inl (cI, 3, .inl (oF (dr_L lt sd j n)))), ((r 23), .inl (cI, 3, .inl (oF (dr_S lt sd j n))))] 0 0 := by
  unfold mt_V
  refine Met.ofW (cc := bc_R_drop) (maxL := 2) (ret := none) (by decide) rfl ?_
  intro p e s m args below meth c s₁ B hml hv
  obtain ⟨rfl, hsz, hP, hK, hD0⟩ := hv
  have hx := B.exec
  have hb := B.bytes
  have hr := B.returns
  have hts := atoms_spec (ws := wsT mn_R_drop bc_R_drop 2 none) B.pre
  have htb : ∀ w ∈ gtbl, w.before _ s = true := fun w h => hts w (List.mem_cons_of_mem _ h)
  have hown : s.vm.findClass cn_R = some m.cls := findClass_of_methodNamed B.named
  have hlocks := B.notSynchronized
  subst hsz
  have hD := hD0.self (sz := s.heap.size)
  generalize hAe : va_A [zR r cn mn mi nn, ((r 20), .inl (cI, 3, .inl (nF lg))), ((r 22), .inl (cI, 3, .inl (oF lt))), ((r 23), .inl (cI, 3, .inl (oF sd)))] s.heap.size = A at hD ⊢
  have hA : ∀ q : Nat, s.heap.size ≤ q → A q := fun q h => by rw [← hAe]; exact Or.inr h
  have hS : va_S A s.heap s.heap [] := va_S.rf
  have hP : va_P (dC, dI) clsL [zR r cn mn mi nn, ((r 20), .inl (cI, 3, .inl (nF lg))), ((r 22), .inl (cI, 3, .inl (oF lt))), ((r 23), .inl (cI, 3, .inl (oF sd)))] s.heap := hP
  have hl := lv_entry ([.ref (r 0), .int (nI j)]) (n := 2) (Nat.le_of_ble_eq_true rfl)
  rw [lg_entry_eq]
  generalize (lg_sl ([.ref (r 0), .int (nI j)]) ++ List.replicate (2 - (lg_sl ([.ref (r 0), .int (nI j)])).length) Slot.unset).toArray = ls at hl ⊢
  have hl : lv_has ls 2 [(0, .ref (r 0)), (1, .int (nI j))] := hl
  refine lv_aload_n hx hb dc_R_drop_0 rfl (lv_at hl 0 rfl) ?_
  refine va_get (D := (dC, dI)) (ci := 4) (v := .ref (r 23)) (C := cn_R) (T := ft_R) (N := 27) hx hb htb ki_R hown hK hP 0 rfl rfl 23 (by decide) (htb _ kw_393) (fun _ h9 => h9) rfl dc_R_drop_1 ?_
  refine lv_iload_n hx hb dc_R_drop_4 rfl (lv_at hl 1 rfl) ?_
  refine wa_old (k := j) hx hb hK hP 3 0 rfl rfl (by omega) (by omega) dc_R_drop_5 ?_
  refine lv_aload_n hx hb dc_R_drop_6 rfl (lv_at hl 0 rfl) ?_
  refine va_get (D := (dC, dI)) (ci := 4) (v := .ref (r 20)) (C := cn_R) (T := ft_R) (N := 27) hx hb htb ki_R hown hK hP 0 rfl rfl 20 (by decide) (htb _ kw_390) (fun _ h9 => h9) rfl dc_R_drop_7 ?_
  refine lv_iload_n hx hb dc_R_drop_10 rfl (lv_at hl 1 rfl) ?_
  refine wa_nld (k := j) hx hb hK hP 1 0 rfl rfl (by omega) (by omega) dc_R_drop_11 ?_
  refine tp_i (y := nI n) (by rw [hlg]) ?_
  refine lv_icmp_le (tgt := 22) hx hb dc_R_drop_12 (by decide) (fun hc => ?_) (fun hc => ?_)
  · have h1 := hc
    refine lv_aload_n hx hb dc_R_drop_22 rfl (lv_at hl 0 rfl) ?_
    refine va_get (D := (dC, dI)) (ci := 4) (v := .ref (r 22)) (C := cn_R) (T := ft_R) (N := 27) hx hb htb ki_R hown hK hP 0 rfl rfl 22 (by decide) (htb _ kw_392) (fun _ h9 => h9) rfl dc_R_drop_23 ?_
    refine lv_iload_n hx hb dc_R_drop_26 rfl (lv_at hl 1 rfl) ?_
    refine wa_old (k := j) hx hb hK hP 2 0 rfl rfl (by omega) (by omega) dc_R_drop_27 ?_
    refine lv_aload_n hx hb dc_R_drop_28 rfl (lv_at hl 0 rfl) ?_
    refine va_get (D := (dC, dI)) (ci := 4) (v := .ref (r 20)) (C := cn_R) (T := ft_R) (N := 27) hx hb htb ki_R hown hK hP 0 rfl rfl 20 (by decide) (htb _ kw_390) (fun _ h9 => h9) rfl dc_R_drop_29 ?_
    refine lv_iload_n hx hb dc_R_drop_32 rfl (lv_at hl 1 rfl) ?_
    refine wa_nld (k := j) hx hb hK hP 1 0 rfl rfl (by omega) (by omega) dc_R_drop_33 ?_
    refine tp_i (y := nI n) (by rw [hlg]) ?_
    refine lv_icmp_le (tgt := 56) hx hb dc_R_drop_34 (by decide) (fun hc => ?_) (fun hc => ?_)
    · have h2 := hc
      have hP8 := hP.sub (ws' := [zR r cn mn mi nn, ((r 20), .inl (cI, 3, .inl (nF lg))), ((r 22), .inl (cI, 3, .inl (oF lt))), ((r 23), .inl (cI, 3, .inl (oF sd)))]) [0, 1, 2, 3] rfl
      have hD8 := hD.sub (ws' := [zR r cn mn mi nn, ((r 20), .inl (cI, 3, .inl (nF lg))), ((r 22), .inl (cI, 3, .inl (oF lt))), ((r 23), .inl (cI, 3, .inl (oF sd)))]) [0, 1, 2, 3] (by decide) rfl
      have hW8 : ([zR r cn mn mi nn, ((r 20), .inl (cI, 3, .inl (nF lg))), ((r 22), .inl (cI, 3, .inl (oF lt))), ((r 23), .inl (cI, 3, .inl (oF sd)))] : va_W) = [zR r cn mn mi nn, ((r 20), .inl (cI, 3, .inl (nF lg))), ((r 22), .inl (cI, 3, .inl (oF (dr_L lt sd j n)))), ((r 23), .inl (cI, 3, .inl (oF (dr_S lt sd j n))))] := by simp [dr_L, dr_S, dr_S1, h1, h2]
      rw [hW8] at hP8 hD8
      have hP9 := hP8
      have hD9 := hD8
      exact W.vret hx hb hr (fun t ht hW => ⟨⟨(), rfl, trivial, by rw [ht]; exact hP9, va_K.moved hW.alike hK, hD9⟩, hS.F ht⟩) hS.2.2 dc_R_drop_56
    · have h2 := hc
      refine lv_aload_n hx hb dc_R_drop_37 rfl (lv_at hl 0 rfl) ?_
      refine va_get (D := (dC, dI)) (ci := 4) (v := .ref (r 22)) (C := cn_R) (T := ft_R) (N := 27) hx hb htb ki_R hown hK hP 0 rfl rfl 22 (by decide) (htb _ kw_392) (fun _ h9 => h9) rfl dc_R_drop_38 ?_
      refine lv_iload_n hx hb dc_R_drop_41 rfl (lv_at hl 1 rfl) ?_
      refine lv_aload_n hx hb dc_R_drop_42 rfl (lv_at hl 0 rfl) ?_
      refine va_get (D := (dC, dI)) (ci := 4) (v := .ref (r 23)) (C := cn_R) (T := ft_R) (N := 27) hx hb htb ki_R hown hK hP 0 rfl rfl 23 (by decide) (htb _ kw_393) (fun _ h9 => h9) rfl dc_R_drop_43 ?_
      refine lv_iload_n hx hb dc_R_drop_46 rfl (lv_at hl 1 rfl) ?_
      refine wa_old (k := j) hx hb hK hP 3 0 rfl rfl (by omega) (by omega) dc_R_drop_47 ?_
      refine wa_ost (k := j) (x := sd j) hx hb hK hP hD hS 2 0 rfl rfl (by omega) (by omega) dc_R_drop_48 (fun H locs hP hD hS => ?_)
      have hP : va_P (dC, dI) clsL [zR r cn mn mi nn, ((r 20), .inl (cI, 3, .inl (nF lg))), ((r 22), .inl (cI, 3, .inl (oF (va_up lt j (sd j))))), ((r 23), .inl (cI, 3, .inl (oF sd)))] H := hP
      have hD : va_D A [zR r cn mn mi nn, ((r 20), .inl (cI, 3, .inl (nF lg))), ((r 22), .inl (cI, 3, .inl (oF (va_up lt j (sd j))))), ((r 23), .inl (cI, 3, .inl (oF sd)))] := hD
      refine lv_aload_n hx hb dc_R_drop_49 rfl (lv_at hl 0 rfl) ?_
      refine va_get (D := (dC, dI)) (ci := 4) (v := .ref (r 23)) (C := cn_R) (T := ft_R) (N := 27) hx hb htb ki_R hown hK hP 0 rfl rfl 23 (by decide) (htb _ kw_393) (fun _ h9 => h9) rfl dc_R_drop_50 ?_
      refine lv_iload_n hx hb dc_R_drop_53 rfl (lv_at hl 1 rfl) ?_
      refine lv_iconst (v := (-1)) hx hb dc_R_drop_54 (by decide) ?_
      refine tp_i (y := oI none) (rfl) ?_
      refine wa_ost (k := j) (x := none) hx hb hK hP hD hS 3 0 rfl rfl (by omega) (by omega) dc_R_drop_55 (fun H locs hP hD hS => ?_)
      have hP : va_P (dC, dI) clsL [zR r cn mn mi nn, ((r 20), .inl (cI, 3, .inl (nF lg))), ((r 22), .inl (cI, 3, .inl (oF (va_up lt j (sd j))))), ((r 23), .inl (cI, 3, .inl (oF (va_up sd j none))))] H := hP
      have hD : va_D A [zR r cn mn mi nn, ((r 20), .inl (cI, 3, .inl (nF lg))), ((r 22), .inl (cI, 3, .inl (oF (va_up lt j (sd j))))), ((r 23), .inl (cI, 3, .inl (oF (va_up sd j none))))] := hD
      have hP8 := hP.sub (ws' := [zR r cn mn mi nn, ((r 20), .inl (cI, 3, .inl (nF lg))), ((r 22), .inl (cI, 3, .inl (oF (va_up lt j (sd j))))), ((r 23), .inl (cI, 3, .inl (oF (va_up sd j none))))]) [0, 1, 2, 3] rfl
      have hD8 := hD.sub (ws' := [zR r cn mn mi nn, ((r 20), .inl (cI, 3, .inl (nF lg))), ((r 22), .inl (cI, 3, .inl (oF (va_up lt j (sd j))))), ((r 23), .inl (cI, 3, .inl (oF (va_up sd j none))))]) [0, 1, 2, 3] (by decide) rfl
      have hW8 : ([zR r cn mn mi nn, ((r 20), .inl (cI, 3, .inl (nF lg))), ((r 22), .inl (cI, 3, .inl (oF (va_up lt j (sd j))))), ((r 23), .inl (cI, 3, .inl (oF (va_up sd j none))))] : va_W) = [zR r cn mn mi nn, ((r 20), .inl (cI, 3, .inl (nF lg))), ((r 22), .inl (cI, 3, .inl (oF (dr_L lt sd j n)))), ((r 23), .inl (cI, 3, .inl (oF (dr_S lt sd j n))))] := by simp [dr_L, dr_S, dr_S1, h1, h2]
      rw [hW8] at hP8 hD8
      have hP9 := hP8
      have hD9 := hD8
      exact W.vret hx hb hr (fun t ht hW => ⟨⟨(), rfl, trivial, by rw [ht]; exact hP9, va_K.moved hW.alike hK, hD9⟩, hS.F ht⟩) hS.2.2 dc_R_drop_56
  · have h1 := hc
    refine lv_aload_n hx hb dc_R_drop_15 rfl (lv_at hl 0 rfl) ?_
    refine va_get (D := (dC, dI)) (ci := 4) (v := .ref (r 23)) (C := cn_R) (T := ft_R) (N := 27) hx hb htb ki_R hown hK hP 0 rfl rfl 23 (by decide) (htb _ kw_393) (fun _ h9 => h9) rfl dc_R_drop_16 ?_
    refine lv_iload_n hx hb dc_R_drop_19 rfl (lv_at hl 1 rfl) ?_
    refine lv_iconst (v := (-1)) hx hb dc_R_drop_20 (by decide) ?_
    refine tp_i (y := oI none) (rfl) ?_
    refine wa_ost (k := j) (x := none) hx hb hK hP hD hS 3 0 rfl rfl (by omega) (by omega) dc_R_drop_21 (fun H locs hP hD hS => ?_)
    have hP : va_P (dC, dI) clsL [zR r cn mn mi nn, ((r 20), .inl (cI, 3, .inl (nF lg))), ((r 22), .inl (cI, 3, .inl (oF lt))), ((r 23), .inl (cI, 3, .inl (oF (va_up sd j none))))] H := hP
    have hD : va_D A [zR r cn mn mi nn, ((r 20), .inl (cI, 3, .inl (nF lg))), ((r 22), .inl (cI, 3, .inl (oF lt))), ((r 23), .inl (cI, 3, .inl (oF (va_up sd j none))))] := hD
    refine lv_aload_n hx hb dc_R_drop_22 rfl (lv_at hl 0 rfl) ?_
    refine va_get (D := (dC, dI)) (ci := 4) (v := .ref (r 22)) (C := cn_R) (T := ft_R) (N := 27) hx hb htb ki_R hown hK hP 0 rfl rfl 22 (by decide) (htb _ kw_392) (fun _ h9 => h9) rfl dc_R_drop_23 ?_
    refine lv_iload_n hx hb dc_R_drop_26 rfl (lv_at hl 1 rfl) ?_
    refine wa_old (k := j) hx hb hK hP 2 0 rfl rfl (by omega) (by omega) dc_R_drop_27 ?_
    refine lv_aload_n hx hb dc_R_drop_28 rfl (lv_at hl 0 rfl) ?_
    refine va_get (D := (dC, dI)) (ci := 4) (v := .ref (r 20)) (C := cn_R) (T := ft_R) (N := 27) hx hb htb ki_R hown hK hP 0 rfl rfl 20 (by decide) (htb _ kw_390) (fun _ h9 => h9) rfl dc_R_drop_29 ?_
    refine lv_iload_n hx hb dc_R_drop_32 rfl (lv_at hl 1 rfl) ?_
    refine wa_nld (k := j) hx hb hK hP 1 0 rfl rfl (by omega) (by omega) dc_R_drop_33 ?_
    refine tp_i (y := nI n) (by rw [hlg]) ?_
    refine lv_icmp_le (tgt := 56) hx hb dc_R_drop_34 (by decide) (fun hc => ?_) (fun hc => ?_)
    · have h2 := hc
      have hP8 := hP.sub (ws' := [zR r cn mn mi nn, ((r 20), .inl (cI, 3, .inl (nF lg))), ((r 22), .inl (cI, 3, .inl (oF lt))), ((r 23), .inl (cI, 3, .inl (oF (va_up sd j none))))]) [0, 1, 2, 3] rfl
      have hD8 := hD.sub (ws' := [zR r cn mn mi nn, ((r 20), .inl (cI, 3, .inl (nF lg))), ((r 22), .inl (cI, 3, .inl (oF lt))), ((r 23), .inl (cI, 3, .inl (oF (va_up sd j none))))]) [0, 1, 2, 3] (by decide) rfl
      have hW8 : ([zR r cn mn mi nn, ((r 20), .inl (cI, 3, .inl (nF lg))), ((r 22), .inl (cI, 3, .inl (oF lt))), ((r 23), .inl (cI, 3, .inl (oF (va_up sd j none))))] : va_W) = [zR r cn mn mi nn, ((r 20), .inl (cI, 3, .inl (nF lg))), ((r 22), .inl (cI, 3, .inl (oF (dr_L lt sd j n)))), ((r 23), .inl (cI, 3, .inl (oF (dr_S lt sd j n))))] := by simp [dr_L, dr_S, dr_S1, h1, h2]
      rw [hW8] at hP8 hD8
      have hP9 := hP8
      have hD9 := hD8
      exact W.vret hx hb hr (fun t ht hW => ⟨⟨(), rfl, trivial, by rw [ht]; exact hP9, va_K.moved hW.alike hK, hD9⟩, hS.F ht⟩) hS.2.2 dc_R_drop_56
    · have h2 := hc
      refine lv_aload_n hx hb dc_R_drop_37 rfl (lv_at hl 0 rfl) ?_
      refine va_get (D := (dC, dI)) (ci := 4) (v := .ref (r 22)) (C := cn_R) (T := ft_R) (N := 27) hx hb htb ki_R hown hK hP 0 rfl rfl 22 (by decide) (htb _ kw_392) (fun _ h9 => h9) rfl dc_R_drop_38 ?_
      refine lv_iload_n hx hb dc_R_drop_41 rfl (lv_at hl 1 rfl) ?_
      refine lv_aload_n hx hb dc_R_drop_42 rfl (lv_at hl 0 rfl) ?_
      refine va_get (D := (dC, dI)) (ci := 4) (v := .ref (r 23)) (C := cn_R) (T := ft_R) (N := 27) hx hb htb ki_R hown hK hP 0 rfl rfl 23 (by decide) (htb _ kw_393) (fun _ h9 => h9) rfl dc_R_drop_43 ?_
      refine lv_iload_n hx hb dc_R_drop_46 rfl (lv_at hl 1 rfl) ?_
      refine wa_old (k := j) hx hb hK hP 3 0 rfl rfl (by omega) (by omega) dc_R_drop_47 ?_
      refine wa_ost (k := j) (x := (va_up sd j none) j) hx hb hK hP hD hS 2 0 rfl rfl (by omega) (by omega) dc_R_drop_48 (fun H locs hP hD hS => ?_)
      have hP : va_P (dC, dI) clsL [zR r cn mn mi nn, ((r 20), .inl (cI, 3, .inl (nF lg))), ((r 22), .inl (cI, 3, .inl (oF (va_up lt j ((va_up sd j none) j))))), ((r 23), .inl (cI, 3, .inl (oF (va_up sd j none))))] H := hP
      have hD : va_D A [zR r cn mn mi nn, ((r 20), .inl (cI, 3, .inl (nF lg))), ((r 22), .inl (cI, 3, .inl (oF (va_up lt j ((va_up sd j none) j))))), ((r 23), .inl (cI, 3, .inl (oF (va_up sd j none))))] := hD
      refine lv_aload_n hx hb dc_R_drop_49 rfl (lv_at hl 0 rfl) ?_
      refine va_get (D := (dC, dI)) (ci := 4) (v := .ref (r 23)) (C := cn_R) (T := ft_R) (N := 27) hx hb htb ki_R hown hK hP 0 rfl rfl 23 (by decide) (htb _ kw_393) (fun _ h9 => h9) rfl dc_R_drop_50 ?_
      refine lv_iload_n hx hb dc_R_drop_53 rfl (lv_at hl 1 rfl) ?_
      refine lv_iconst (v := (-1)) hx hb dc_R_drop_54 (by decide) ?_
      refine tp_i (y := oI none) (rfl) ?_
      refine wa_ost (k := j) (x := none) hx hb hK hP hD hS 3 0 rfl rfl (by omega) (by omega) dc_R_drop_55 (fun H locs hP hD hS => ?_)
      have hP : va_P (dC, dI) clsL [zR r cn mn mi nn, ((r 20), .inl (cI, 3, .inl (nF lg))), ((r 22), .inl (cI, 3, .inl (oF (va_up lt j ((va_up sd j none) j))))), ((r 23), .inl (cI, 3, .inl (oF (va_up (va_up sd j none) j none))))] H := hP
      have hD : va_D A [zR r cn mn mi nn, ((r 20), .inl (cI, 3, .inl (nF lg))), ((r 22), .inl (cI, 3, .inl (oF (va_up lt j ((va_up sd j none) j))))), ((r 23), .inl (cI, 3, .inl (oF (va_up (va_up sd j none) j none))))] := hD
      have hP8 := hP.sub (ws' := [zR r cn mn mi nn, ((r 20), .inl (cI, 3, .inl (nF lg))), ((r 22), .inl (cI, 3, .inl (oF (va_up lt j ((va_up sd j none) j))))), ((r 23), .inl (cI, 3, .inl (oF (va_up (va_up sd j none) j none))))]) [0, 1, 2, 3] rfl
      have hD8 := hD.sub (ws' := [zR r cn mn mi nn, ((r 20), .inl (cI, 3, .inl (nF lg))), ((r 22), .inl (cI, 3, .inl (oF (va_up lt j ((va_up sd j none) j))))), ((r 23), .inl (cI, 3, .inl (oF (va_up (va_up sd j none) j none))))]) [0, 1, 2, 3] (by decide) rfl
      have hW8 : ([zR r cn mn mi nn, ((r 20), .inl (cI, 3, .inl (nF lg))), ((r 22), .inl (cI, 3, .inl (oF (va_up lt j ((va_up sd j none) j))))), ((r 23), .inl (cI, 3, .inl (oF (va_up (va_up sd j none) j none))))] : va_W) = [zR r cn mn mi nn, ((r 20), .inl (cI, 3, .inl (nF lg))), ((r 22), .inl (cI, 3, .inl (oF (dr_L lt sd j n)))), ((r 23), .inl (cI, 3, .inl (oF (dr_S lt sd j n))))] := by simp [dr_L, dr_S, dr_S1, h1, h2]
      rw [hW8] at hP8 hD8
      have hP9 := hP8
      have hD9 := hD8
      exact W.vret hx hb hr (fun t ht hW => ⟨⟨(), rfl, trivial, by rw [ht]; exact hP9, va_K.moved hW.alike hK, hD9⟩, hS.F ht⟩) hS.2.2 dc_R_drop_56

set_option maxHeartbeats 4000000 in
set_option maxRecDepth 100000 in
theorem oc_R_replay (l : Launch) (dC : Nat → ClassId) (dI : Nat → Nat → Nat) (cI cJ cZ cP : ClassId) (sz : Nat) (r : Nat → Nat) (cn : Nat) (mn : Nat) (mi : Nat) (nn : Nat) (lg : Nat → Nat) (lt : Nat → Option Nat) (pl : Nat → Int32) (j : Nat) (n : Nat) (hj : j < 3) (hlg : lg j = n) (hn : n ≤ 40) (hlt : ∀ i, lt j = some i → i < 2 ^ 31) : mt_V l mn_R_replay bc_R_replay 2 none ({ frames := 0, cells := 0, slots := 0, locals := 0 }) (dC, dI) (TYS cI cJ cZ cP) sz [.ref (r 0), .int (nI j)] [zR r cn mn mi nn, ((r 20), .inl (cI, 3, .inl (nF lg))), ((r 22), .inl (cI, 3, .inl (oF lt))), ((r 24), .inl (cI, 3, .inl pl))] [zR r cn mn mi nn, ((r 20), .inl (cI, 3, .inl (nF lg))), ((r 22), .inl (cI, 3, .inl (oF lt))), ((r 24), .inl (cI, 3, .inl (va_up pl j (rp_V (pl j) n (lt j)))))] 0 0 := by
  unfold mt_V
  refine Met.ofW (cc := bc_R_replay) (maxL := 2) (ret := none) (by decide) rfl ?_
  intro p e s m args below meth c s₁ B hml hv
  obtain ⟨rfl, hsz, hP, hK, hD0⟩ := hv
  have hx := B.exec
  have hb := B.bytes
  have hr := B.returns
  have hts := atoms_spec (ws := wsT mn_R_replay bc_R_replay 2 none) B.pre
  have htb : ∀ w ∈ gtbl, w.before _ s = true := fun w h => hts w (List.mem_cons_of_mem _ h)
  have hown : s.vm.findClass cn_R = some m.cls := findClass_of_methodNamed B.named
  have hlocks := B.notSynchronized
  subst hsz
  have hD := hD0.self (sz := s.heap.size)
  generalize hAe : va_A [zR r cn mn mi nn, ((r 20), .inl (cI, 3, .inl (nF lg))), ((r 22), .inl (cI, 3, .inl (oF lt))), ((r 24), .inl (cI, 3, .inl pl))] s.heap.size = A at hD ⊢
  have hA : ∀ q : Nat, s.heap.size ≤ q → A q := fun q h => by rw [← hAe]; exact Or.inr h
  have hS : va_S A s.heap s.heap [] := va_S.rf
  have hP : va_P (dC, dI) clsL [zR r cn mn mi nn, ((r 20), .inl (cI, 3, .inl (nF lg))), ((r 22), .inl (cI, 3, .inl (oF lt))), ((r 24), .inl (cI, 3, .inl pl))] s.heap := hP
  have hl := lv_entry ([.ref (r 0), .int (nI j)]) (n := 2) (Nat.le_of_ble_eq_true rfl)
  rw [lg_entry_eq]
  generalize (lg_sl ([.ref (r 0), .int (nI j)]) ++ List.replicate (2 - (lg_sl ([.ref (r 0), .int (nI j)])).length) Slot.unset).toArray = ls at hl ⊢
  have hl : lv_has ls 2 [(0, .ref (r 0)), (1, .int (nI j))] := hl
  refine lv_aload_n hx hb dc_R_replay_0 rfl (lv_at hl 0 rfl) ?_
  refine va_get (D := (dC, dI)) (ci := 4) (v := .ref (r 24)) (C := cn_R) (T := ft_R) (N := 27) hx hb htb ki_R hown hK hP 0 rfl rfl 24 (by decide) (htb _ kw_394) (fun _ h9 => h9) rfl dc_R_replay_1 ?_
  refine lv_iload_n hx hb dc_R_replay_4 rfl (lv_at hl 1 rfl) ?_
  refine lv_aload_n hx hb dc_R_replay_5 rfl (lv_at hl 0 rfl) ?_
  refine va_get (D := (dC, dI)) (ci := 4) (v := .ref (r 24)) (C := cn_R) (T := ft_R) (N := 27) hx hb htb ki_R hown hK hP 0 rfl rfl 24 (by decide) (htb _ kw_394) (fun _ h9 => h9) rfl dc_R_replay_6 ?_
  refine lv_iload_n hx hb dc_R_replay_9 rfl (lv_at hl 1 rfl) ?_
  refine wa_ild (k := j) hx hb hK hP 3 0 rfl rfl (by omega) (by omega) dc_R_replay_10 ?_
  refine lv_aload_n hx hb dc_R_replay_11 rfl (lv_at hl 0 rfl) ?_
  refine va_get (D := (dC, dI)) (ci := 4) (v := .ref (r 20)) (C := cn_R) (T := ft_R) (N := 27) hx hb htb ki_R hown hK hP 0 rfl rfl 20 (by decide) (htb _ kw_390) (fun _ h9 => h9) rfl dc_R_replay_12 ?_
  refine lv_iload_n hx hb dc_R_replay_15 rfl (lv_at hl 1 rfl) ?_
  refine wa_nld (k := j) hx hb hK hP 1 0 rfl rfl (by omega) (by omega) dc_R_replay_16 ?_
  refine tp_i (y := nI n) (by rw [hlg]) ?_
  refine lv_iadd hx hb dc_R_replay_17 ?_
  refine lv_aload_n hx hb dc_R_replay_18 rfl (lv_at hl 0 rfl) ?_
  refine va_get (D := (dC, dI)) (ci := 4) (v := .ref (r 22)) (C := cn_R) (T := ft_R) (N := 27) hx hb htb ki_R hown hK hP 0 rfl rfl 22 (by decide) (htb _ kw_392) (fun _ h9 => h9) rfl dc_R_replay_19 ?_
  refine lv_iload_n hx hb dc_R_replay_22 rfl (lv_at hl 1 rfl) ?_
  refine wa_old (k := j) hx hb hK hP 2 0 rfl rfl (by omega) (by omega) dc_R_replay_23 ?_
  refine lv_if_ge (tgt := 31) hx hb dc_R_replay_24 (by decide) (fun hc => ?_) (fun hc => ?_)
  · have h1 : ¬ lt j = none := fun h9 => oI_ge (by assumption) h9 hc
    obtain ⟨q, hq⟩ : ∃ q, lt j = some q := Option.ne_none_iff_exists'.mp h1
    refine lv_aload_n hx hb dc_R_replay_31 rfl (lv_at hl 0 rfl) ?_
    refine va_get (D := (dC, dI)) (ci := 4) (v := .ref (r 22)) (C := cn_R) (T := ft_R) (N := 27) hx hb htb ki_R hown hK hP 0 rfl rfl 22 (by decide) (htb _ kw_392) (fun _ h9 => h9) rfl dc_R_replay_32 ?_
    refine lv_iload_n hx hb dc_R_replay_35 rfl (lv_at hl 1 rfl) ?_
    refine wa_old (k := j) hx hb hK hP 2 0 rfl rfl (by omega) (by omega) dc_R_replay_36 ?_
    refine lv_isub hx hb dc_R_replay_37 ?_
    refine wa_ist (k := j) (x := ((pl j) + (nI n)) - (oI (lt j))) hx hb hK hP hD hS 3 0 rfl rfl (by omega) (by omega) dc_R_replay_38 (fun H locs hP hD hS => ?_)
    have hP : va_P (dC, dI) clsL [zR r cn mn mi nn, ((r 20), .inl (cI, 3, .inl (nF lg))), ((r 22), .inl (cI, 3, .inl (oF lt))), ((r 24), .inl (cI, 3, .inl (va_up pl j (((pl j) + (nI n)) - (oI (lt j))))))] H := hP
    have hD : va_D A [zR r cn mn mi nn, ((r 20), .inl (cI, 3, .inl (nF lg))), ((r 22), .inl (cI, 3, .inl (oF lt))), ((r 24), .inl (cI, 3, .inl (va_up pl j (((pl j) + (nI n)) - (oI (lt j))))))] := hD
    have hP8 := hP.sub (ws' := [zR r cn mn mi nn, ((r 20), .inl (cI, 3, .inl (nF lg))), ((r 22), .inl (cI, 3, .inl (oF lt))), ((r 24), .inl (cI, 3, .inl (va_up pl j (((pl j) + (nI n)) - (oI (lt j))))))]) [0, 1, 2, 3] rfl
    have hD8 := hD.sub (ws' := [zR r cn mn mi nn, ((r 20), .inl (cI, 3, .inl (nF lg))), ((r 22), .inl (cI, 3, .inl (oF lt))), ((r 24), .inl (cI, 3, .inl (va_up pl j (((pl j) + (nI n)) - (oI (lt j))))))]) [0, 1, 2, 3] (by decide) rfl
    have hW8 : ([zR r cn mn mi nn, ((r 20), .inl (cI, 3, .inl (nF lg))), ((r 22), .inl (cI, 3, .inl (oF lt))), ((r 24), .inl (cI, 3, .inl (va_up pl j (((pl j) + (nI n)) - (oI (lt j))))))] : va_W) = [zR r cn mn mi nn, ((r 20), .inl (cI, 3, .inl (nF lg))), ((r 22), .inl (cI, 3, .inl (oF lt))), ((r 24), .inl (cI, 3, .inl (va_up pl j (rp_V (pl j) n (lt j)))))] := by simp [rp_V, hq, oI]
    rw [hW8] at hP8 hD8
    have hP9 := hP8
    have hD9 := hD8
    exact W.vret hx hb hr (fun t ht hW => ⟨⟨(), rfl, trivial, by rw [ht]; exact hP9, va_K.moved hW.alike hK, hD9⟩, hS.F ht⟩) hS.2.2 dc_R_replay_39
  · have h1 : lt j = none := oI_nge (by assumption) hc
    have hq := h1
    refine lv_iconst (v := nI 0) hx hb dc_R_replay_27 (by decide) ?_
    refine lv_goto (tgt := 37) hx hb dc_R_replay_28 (by decide) ?_
    refine lv_isub hx hb dc_R_replay_37 ?_
    refine wa_ist (k := j) (x := ((pl j) + (nI n)) - (nI 0)) hx hb hK hP hD hS 3 0 rfl rfl (by omega) (by omega) dc_R_replay_38 (fun H locs hP hD hS => ?_)
    have hP : va_P (dC, dI) clsL [zR r cn mn mi nn, ((r 20), .inl (cI, 3, .inl (nF lg))), ((r 22), .inl (cI, 3, .inl (oF lt))), ((r 24), .inl (cI, 3, .inl (va_up pl j (((pl j) + (nI n)) - (nI 0)))))] H := hP
    have hD : va_D A [zR r cn mn mi nn, ((r 20), .inl (cI, 3, .inl (nF lg))), ((r 22), .inl (cI, 3, .inl (oF lt))), ((r 24), .inl (cI, 3, .inl (va_up pl j (((pl j) + (nI n)) - (nI 0)))))] := hD
    have hP8 := hP.sub (ws' := [zR r cn mn mi nn, ((r 20), .inl (cI, 3, .inl (nF lg))), ((r 22), .inl (cI, 3, .inl (oF lt))), ((r 24), .inl (cI, 3, .inl (va_up pl j (((pl j) + (nI n)) - (nI 0)))))]) [0, 1, 2, 3] rfl
    have hD8 := hD.sub (ws' := [zR r cn mn mi nn, ((r 20), .inl (cI, 3, .inl (nF lg))), ((r 22), .inl (cI, 3, .inl (oF lt))), ((r 24), .inl (cI, 3, .inl (va_up pl j (((pl j) + (nI n)) - (nI 0)))))]) [0, 1, 2, 3] (by decide) rfl
    have hW8 : ([zR r cn mn mi nn, ((r 20), .inl (cI, 3, .inl (nF lg))), ((r 22), .inl (cI, 3, .inl (oF lt))), ((r 24), .inl (cI, 3, .inl (va_up pl j (((pl j) + (nI n)) - (nI 0)))))] : va_W) = [zR r cn mn mi nn, ((r 20), .inl (cI, 3, .inl (nF lg))), ((r 22), .inl (cI, 3, .inl (oF lt))), ((r 24), .inl (cI, 3, .inl (va_up pl j (rp_V (pl j) n (lt j)))))] := by simp [rp_V, hq, oI]
    rw [hW8] at hP8 hD8
    have hP9 := hP8
    have hD9 := hD8
    exact W.vret hx hb hr (fun t ht hW => ⟨⟨(), rfl, trivial, by rw [ht]; exact hP9, va_K.moved hW.alike hK, hD9⟩, hS.F ht⟩) hS.2.2 dc_R_replay_39

set_option maxHeartbeats 4000000 in
set_option maxRecDepth 100000 in
theorem oc_R_receive (l : Launch) (dC : Nat → ClassId) (dI : Nat → Nat → Nat) (cI cJ cZ cP : ClassId) (sz : Nat) (r : Nat → Nat) (cn : Nat) (mn : Nat) (mi : Nat) (nn : Nat) (bf : Nat → Option Nat) (rc : Nat → Nat) (sv : Nat → Int32) (sb : Nat → Bool) (lo : Nat → Bool) (fr : Nat → Nat) (an : Nat → Option Nat) (ot : Nat → Bool) (vs : Nat → Int32) (tg : Nat → Nat) (sr : Nat → Option Nat) (kn : Nat → Nat) (su : Nat → Nat) (cc : Nat → Nat) (lg : Nat → Nat) (ler : Nat → Nat) (j : Nat) (k : Nat) (n : Nat) (le : Nat) (t : Int32) (bv : Option Nat) (hj : j < 3) (hlg : lg j = n) (hn : n < 40) (hcc : ∀ i, i < n → cc (40 * j + i) < 40) (hle : ler j = le) (hk : k < mn) (hcn : cn < 40) (hmn : mn + 2 ≤ 104) (hs : ∀ i, sr k = some i → i < 40) (ht : nI 31 * (sof sv cc j n) + (vs k) = t) (hbv : bv_O cc j n = bv) : mt_V l mn_R_receive bc_R_receive 5 none ({ frames := 1, cells := 0, slots := 0, locals := 24 }) (dC, dI) (TYS cI cJ cZ cP) sz [.ref (r 0), .int (nI j), .int (nI k)] [zR r cn mn mi nn, ((r 1), .inl (cI, 40, .inl (oF bf))), ((r 2), .inl (cI, 40, .inl (nF rc))), ((r 3), .inl (cI, 40, .inl sv)), ((r 4), .inl (cZ, 40, .inl (bF sb))), ((r 5), .inl (cZ, 40, .inl (bF lo))), ((r 6), .inl (cI, 40, .inl (nF fr))), ((r 7), .inl (cI, 40, .inl (oF an))), ((r 8), .inl (cZ, 40, .inl (bF ot))), ((r 12), .inl (cI, 104, .inl vs)), ((r 13), .inl (cI, 104, .inl (nF tg))), ((r 15), .inl (cI, 104, .inl (oF sr))), ((r 16), .inl (cI, 104, .inl (nF kn))), ((r 14), .inl (cI, 104, .inl (nF su))), ((r 19), .inl (cI, 120, .inl (nF cc))), ((r 20), .inl (cI, 3, .inl (nF lg))), ((r 21), .inl (cI, 3, .inl (nF ler)))] [zR r (cn + 1) (mn + (sb1 t).toNat + (sb2 t).toNat) mi nn, ((r 1), .inl (cI, 40, .inl (oF (va_up bf cn bv)))), ((r 2), .inl (cI, 40, .inl (nF (va_up rc cn k)))), ((r 3), .inl (cI, 40, .inl (va_up sv cn t))), ((r 4), .inl (cZ, 40, .inl (bF (if sr k = none then (se_S (va_up sb cn false) (fun i => (va_up cc (40 * j + n) cn) (40 * j + i)) (n + 1)).2 else (va_up sb cn false))))), ((r 5), .inl (cZ, 40, .inl (bF (va_up lo cn false)))), ((r 6), .inl (cI, 40, .inl (nF (va_up fr cn 3)))), ((r 7), .inl (cI, 40, .inl (oF (va_up an cn none)))), ((r 8), .inl (cZ, 40, .inl (bF (va_up ot cn false)))), ((r 12), .inl (cI, 104, .inl (s1_F (sb2 t) (s1_F (sb1 t) vs mn (t >>> (nI 1 &&& 31))) (mn + (sb1 t).toNat) (t >>> (nI 2 &&& 31))))), ((r 13), .inl (cI, 104, .inl (nF (s1_F (sb2 t) (s1_F (sb1 t) tg mn ((j + 1) % 3)) (mn + (sb1 t).toNat) ((j + 2) % 3))))), ((r 15), .inl (cI, 104, .inl (oF (s1_F (sb2 t) (s1_F (sb1 t) sr mn (some cn)) (mn + (sb1 t).toNat) (some cn))))), ((r 16), .inl (cI, 104, .inl (nF (s1_F (sb2 t) (s1_F (sb1 t) kn mn le) (mn + (sb1 t).toNat) le)))), ((r 14), .inl (cI, 104, .inl (nF (s1_F (sb2 t) (s1_F (sb1 t) su mn 0) (mn + (sb1 t).toNat) 0)))), ((r 19), .inl (cI, 120, .inl (nF (va_up cc (40 * j + n) cn)))), ((r 20), .inl (cI, 3, .inl (nF (va_up lg j (n + 1))))), ((r 21), .inl (cI, 3, .inl (nF ler)))] 0 0 := by
  unfold mt_V
  refine Met.ofW (cc := bc_R_receive) (maxL := 5) (ret := none) (by decide) rfl ?_
  intro p e s m args below meth c s₁ B hml hv
  obtain ⟨rfl, hsz, hP, hK, hD0⟩ := hv
  have hx := B.exec
  have hb := B.bytes
  have hr := B.returns
  have hts := atoms_spec (ws := wsT mn_R_receive bc_R_receive 5 none) B.pre
  have htb : ∀ w ∈ gtbl, w.before _ s = true := fun w h => hts w (List.mem_cons_of_mem _ h)
  have hown : s.vm.findClass cn_R = some m.cls := findClass_of_methodNamed B.named
  have hlocks := B.notSynchronized
  subst hsz
  have hD := hD0.self (sz := s.heap.size)
  generalize hAe : va_A [zR r cn mn mi nn, ((r 1), .inl (cI, 40, .inl (oF bf))), ((r 2), .inl (cI, 40, .inl (nF rc))), ((r 3), .inl (cI, 40, .inl sv)), ((r 4), .inl (cZ, 40, .inl (bF sb))), ((r 5), .inl (cZ, 40, .inl (bF lo))), ((r 6), .inl (cI, 40, .inl (nF fr))), ((r 7), .inl (cI, 40, .inl (oF an))), ((r 8), .inl (cZ, 40, .inl (bF ot))), ((r 12), .inl (cI, 104, .inl vs)), ((r 13), .inl (cI, 104, .inl (nF tg))), ((r 15), .inl (cI, 104, .inl (oF sr))), ((r 16), .inl (cI, 104, .inl (nF kn))), ((r 14), .inl (cI, 104, .inl (nF su))), ((r 19), .inl (cI, 120, .inl (nF cc))), ((r 20), .inl (cI, 3, .inl (nF lg))), ((r 21), .inl (cI, 3, .inl (nF ler)))] s.heap.size = A at hD ⊢
  have hA : ∀ q : Nat, s.heap.size ≤ q → A q := fun q h => by rw [← hAe]; exact Or.inr h
  have hS : va_S A s.heap s.heap [] := va_S.rf
  have hP : va_P (dC, dI) clsL [zR r cn mn mi nn, ((r 1), .inl (cI, 40, .inl (oF bf))), ((r 2), .inl (cI, 40, .inl (nF rc))), ((r 3), .inl (cI, 40, .inl sv)), ((r 4), .inl (cZ, 40, .inl (bF sb))), ((r 5), .inl (cZ, 40, .inl (bF lo))), ((r 6), .inl (cI, 40, .inl (nF fr))), ((r 7), .inl (cI, 40, .inl (oF an))), ((r 8), .inl (cZ, 40, .inl (bF ot))), ((r 12), .inl (cI, 104, .inl vs)), ((r 13), .inl (cI, 104, .inl (nF tg))), ((r 15), .inl (cI, 104, .inl (oF sr))), ((r 16), .inl (cI, 104, .inl (nF kn))), ((r 14), .inl (cI, 104, .inl (nF su))), ((r 19), .inl (cI, 120, .inl (nF cc))), ((r 20), .inl (cI, 3, .inl (nF lg))), ((r 21), .inl (cI, 3, .inl (nF ler)))] s.heap := hP
  have hl := lv_entry ([.ref (r 0), .int (nI j), .int (nI k)]) (n := 5) (Nat.le_of_ble_eq_true rfl)
  rw [lg_entry_eq]
  generalize (lg_sl ([.ref (r 0), .int (nI j), .int (nI k)]) ++ List.replicate (5 - (lg_sl ([.ref (r 0), .int (nI j), .int (nI k)])).length) Slot.unset).toArray = ls at hl ⊢
  have hl : lv_has ls 5 [(0, .ref (r 0)), (1, .int (nI j)), (2, .int (nI k))] := hl
  refine lv_aload_n hx hb dc_R_receive_0 rfl (lv_at hl 0 rfl) ?_
  refine va_get (D := (dC, dI)) (ci := 4) (v := .int (nI cn)) (C := cn_R) (T := ft_R) (N := 27) hx hb htb ki_R hown hK hP 0 rfl rfl 0 (by decide) (htb _ kw_370) (fun _ h9 => h9) rfl dc_R_receive_1 ?_
  refine lv_istore_n (lv' := [(3, .int (nI cn)), (0, .ref (r 0)), (1, .int (nI j)), (2, .int (nI k))]) hx hb dc_R_receive_4 rfl hl (by decide) rfl (fun ls hl => ?_)
  refine lv_aload_n hx hb dc_R_receive_5 rfl (lv_at hl 1 rfl) ?_
  refine lv_dup hx hb dc_R_receive_6 rfl ?_
  refine va_get (D := (dC, dI)) (ci := 4) (v := .int (nI cn)) (C := cn_R) (T := ft_R) (N := 27) hx hb htb ki_R hown hK hP 0 rfl rfl 0 (by decide) (htb _ kw_370) (fun _ h9 => h9) rfl dc_R_receive_7 ?_
  refine lv_iconst (v := nI 1) hx hb dc_R_receive_10 (by decide) ?_
  refine lv_iadd hx hb dc_R_receive_11 ?_
  refine tp_i (y := nI (cn + 1)) (nI_add _ _) ?_
  refine va_put (D := (dC, dI)) (ci := 4) (v := .int (nI (cn + 1))) (ty := .int) (C := cn_R) (T := ft_R) (N := 27) hx hb htb ki_R fy_R fy_R_ok nm_R_d hown hK hP hD hS 0 rfl rfl 0 (by decide) (htb _ kw_370) (fun _ h9 => h9) rfl (by decide +kernel) rfl rfl (Nat.le_of_ble_eq_true rfl) dc_R_receive_12 (fun H locs hP hD hS => ?_)
  have hP : va_P (dC, dI) clsL [zR r (cn + 1) mn mi nn, ((r 1), .inl (cI, 40, .inl (oF bf))), ((r 2), .inl (cI, 40, .inl (nF rc))), ((r 3), .inl (cI, 40, .inl sv)), ((r 4), .inl (cZ, 40, .inl (bF sb))), ((r 5), .inl (cZ, 40, .inl (bF lo))), ((r 6), .inl (cI, 40, .inl (nF fr))), ((r 7), .inl (cI, 40, .inl (oF an))), ((r 8), .inl (cZ, 40, .inl (bF ot))), ((r 12), .inl (cI, 104, .inl vs)), ((r 13), .inl (cI, 104, .inl (nF tg))), ((r 15), .inl (cI, 104, .inl (oF sr))), ((r 16), .inl (cI, 104, .inl (nF kn))), ((r 14), .inl (cI, 104, .inl (nF su))), ((r 19), .inl (cI, 120, .inl (nF cc))), ((r 20), .inl (cI, 3, .inl (nF lg))), ((r 21), .inl (cI, 3, .inl (nF ler)))] H := hP
  have hD : va_D A [zR r (cn + 1) mn mi nn, ((r 1), .inl (cI, 40, .inl (oF bf))), ((r 2), .inl (cI, 40, .inl (nF rc))), ((r 3), .inl (cI, 40, .inl sv)), ((r 4), .inl (cZ, 40, .inl (bF sb))), ((r 5), .inl (cZ, 40, .inl (bF lo))), ((r 6), .inl (cI, 40, .inl (nF fr))), ((r 7), .inl (cI, 40, .inl (oF an))), ((r 8), .inl (cZ, 40, .inl (bF ot))), ((r 12), .inl (cI, 104, .inl vs)), ((r 13), .inl (cI, 104, .inl (nF tg))), ((r 15), .inl (cI, 104, .inl (oF sr))), ((r 16), .inl (cI, 104, .inl (nF kn))), ((r 14), .inl (cI, 104, .inl (nF su))), ((r 19), .inl (cI, 120, .inl (nF cc))), ((r 20), .inl (cI, 3, .inl (nF lg))), ((r 21), .inl (cI, 3, .inl (nF ler)))] := hD
  refine ct_ 52 (fun (H : Heap) (locs : List Loc) (ls : Array Slot) => va_P (dC, dI) clsL [zR r (cn + 1) mn mi nn, ((r 1), .inl (cI, 40, .inl (oF (va_up bf cn bv)))), ((r 2), .inl (cI, 40, .inl (nF rc))), ((r 3), .inl (cI, 40, .inl sv)), ((r 4), .inl (cZ, 40, .inl (bF sb))), ((r 5), .inl (cZ, 40, .inl (bF lo))), ((r 6), .inl (cI, 40, .inl (nF fr))), ((r 7), .inl (cI, 40, .inl (oF an))), ((r 8), .inl (cZ, 40, .inl (bF ot))), ((r 12), .inl (cI, 104, .inl vs)), ((r 13), .inl (cI, 104, .inl (nF tg))), ((r 15), .inl (cI, 104, .inl (oF sr))), ((r 16), .inl (cI, 104, .inl (nF kn))), ((r 14), .inl (cI, 104, .inl (nF su))), ((r 19), .inl (cI, 120, .inl (nF cc))), ((r 20), .inl (cI, 3, .inl (nF lg))), ((r 21), .inl (cI, 3, .inl (nF ler)))] H ∧ va_D A [zR r (cn + 1) mn mi nn, ((r 1), .inl (cI, 40, .inl (oF (va_up bf cn bv)))), ((r 2), .inl (cI, 40, .inl (nF rc))), ((r 3), .inl (cI, 40, .inl sv)), ((r 4), .inl (cZ, 40, .inl (bF sb))), ((r 5), .inl (cZ, 40, .inl (bF lo))), ((r 6), .inl (cI, 40, .inl (nF fr))), ((r 7), .inl (cI, 40, .inl (oF an))), ((r 8), .inl (cZ, 40, .inl (bF ot))), ((r 12), .inl (cI, 104, .inl vs)), ((r 13), .inl (cI, 104, .inl (nF tg))), ((r 15), .inl (cI, 104, .inl (oF sr))), ((r 16), .inl (cI, 104, .inl (nF kn))), ((r 14), .inl (cI, 104, .inl (nF su))), ((r 19), .inl (cI, 120, .inl (nF cc))), ((r 20), .inl (cI, 3, .inl (nF lg))), ((r 21), .inl (cI, 3, .inl (nF ler)))] ∧ va_S A s.heap H locs ∧ lv_has ls 5 [(3, .int (nI cn)), (2, .int (nI k)), (1, .int (nI j)), (0, .ref (r 0))]) ?_ ?_
  · rintro H locs ls ⟨hP, hD, hS, hl⟩
    refine lv_bipush (v := nI 31) hx hb dc_R_receive_52 (by decide) ?_
    refine lv_aload_n hx hb dc_R_receive_54 rfl (lv_at hl 3 rfl) ?_
    refine lv_iload_n hx hb dc_R_receive_55 rfl (lv_at hl 2 rfl) ?_
    refine cl_i (wc := [zR r (cn + 1) mn mi nn, ((r 3), .inl (cI, 40, .inl sv)), ((r 19), .inl (cI, 120, .inl (nF cc))), ((r 20), .inl (cI, 3, .inl (nF lg)))]) (wr := [((r 1), .inl (cI, 40, .inl (oF (va_up bf cn bv)))), ((r 2), .inl (cI, 40, .inl (nF rc))), ((r 4), .inl (cZ, 40, .inl (bF sb))), ((r 5), .inl (cZ, 40, .inl (bF lo))), ((r 6), .inl (cI, 40, .inl (nF fr))), ((r 7), .inl (cI, 40, .inl (oF an))), ((r 8), .inl (cZ, 40, .inl (bF ot))), ((r 12), .inl (cI, 104, .inl vs)), ((r 13), .inl (cI, 104, .inl (nF tg))), ((r 15), .inl (cI, 104, .inl (oF sr))), ((r 16), .inl (cI, 104, .inl (nF kn))), ((r 14), .inl (cI, 104, .inl (nF su))), ((r 21), .inl (cI, 3, .inl (nF ler)))]) (w1 := [zR r (cn + 1) mn mi nn, ((r 3), .inl (cI, 40, .inl sv)), ((r 19), .inl (cI, 120, .inl (nF cc))), ((r 20), .inl (cI, 3, .inl (nF lg)))]) hP hD hS hA [0, 3, 14, 15] [1, 2, 4, 5, 6, 7, 8, 9, 10, 11, 12, 13, 16] rfl rfl (by decide) (by decide) (va_runV (As := [.int (nI j)]) (rest := [.int (nI 31)]) ⟨hx, hb, hml, hown, htb⟩ (oc_R_stateOf l dC dI cI cJ cZ cP _ r (cn + 1) mn mi nn sv cc lg j n (by first | assumption | omega) (by first | assumption | omega) (by omega) (by first | assumption | omega)) (cwV 1 htb (gw_V kw_486 kw_488 kp_19 kw_5 kw_489) rfl rfl rfl (by decide +kernel) ⟨Nat.le_of_ble_eq_true rfl, Nat.le_of_ble_eq_true rfl⟩) (pr_V hP hK hD (va_recv hK hP (ci := 4) (q0 := 0) rfl rfl) [0, 3, 14, 15] (by decide) rfl rfl) rfl rfl hl.1 rfl (lv_room (Nat.le_of_ble_eq_true rfl)) dc_R_receive_56 ⟨Nat.le_of_ble_eq_true rfl, Nat.le_of_ble_eq_true rfl⟩) (fun H locs hP hD hS => ?_)
    have hP : va_P (dC, dI) clsL [zR r (cn + 1) mn mi nn, ((r 1), .inl (cI, 40, .inl (oF (va_up bf cn bv)))), ((r 2), .inl (cI, 40, .inl (nF rc))), ((r 3), .inl (cI, 40, .inl sv)), ((r 4), .inl (cZ, 40, .inl (bF sb))), ((r 5), .inl (cZ, 40, .inl (bF lo))), ((r 6), .inl (cI, 40, .inl (nF fr))), ((r 7), .inl (cI, 40, .inl (oF an))), ((r 8), .inl (cZ, 40, .inl (bF ot))), ((r 12), .inl (cI, 104, .inl vs)), ((r 13), .inl (cI, 104, .inl (nF tg))), ((r 15), .inl (cI, 104, .inl (oF sr))), ((r 16), .inl (cI, 104, .inl (nF kn))), ((r 14), .inl (cI, 104, .inl (nF su))), ((r 19), .inl (cI, 120, .inl (nF cc))), ((r 20), .inl (cI, 3, .inl (nF lg))), ((r 21), .inl (cI, 3, .inl (nF ler)))] H := hP.sub (ws' := [zR r (cn + 1) mn mi nn, ((r 1), .inl (cI, 40, .inl (oF (va_up bf cn bv)))), ((r 2), .inl (cI, 40, .inl (nF rc))), ((r 3), .inl (cI, 40, .inl sv)), ((r 4), .inl (cZ, 40, .inl (bF sb))), ((r 5), .inl (cZ, 40, .inl (bF lo))), ((r 6), .inl (cI, 40, .inl (nF fr))), ((r 7), .inl (cI, 40, .inl (oF an))), ((r 8), .inl (cZ, 40, .inl (bF ot))), ((r 12), .inl (cI, 104, .inl vs)), ((r 13), .inl (cI, 104, .inl (nF tg))), ((r 15), .inl (cI, 104, .inl (oF sr))), ((r 16), .inl (cI, 104, .inl (nF kn))), ((r 14), .inl (cI, 104, .inl (nF su))), ((r 19), .inl (cI, 120, .inl (nF cc))), ((r 20), .inl (cI, 3, .inl (nF lg))), ((r 21), .inl (cI, 3, .inl (nF ler)))]) [13, 0, 1, 14, 2, 3, 4, 5, 6, 7, 8, 9, 10, 11, 15, 16, 12] rfl
    have hD : va_D A [zR r (cn + 1) mn mi nn, ((r 1), .inl (cI, 40, .inl (oF (va_up bf cn bv)))), ((r 2), .inl (cI, 40, .inl (nF rc))), ((r 3), .inl (cI, 40, .inl sv)), ((r 4), .inl (cZ, 40, .inl (bF sb))), ((r 5), .inl (cZ, 40, .inl (bF lo))), ((r 6), .inl (cI, 40, .inl (nF fr))), ((r 7), .inl (cI, 40, .inl (oF an))), ((r 8), .inl (cZ, 40, .inl (bF ot))), ((r 12), .inl (cI, 104, .inl vs)), ((r 13), .inl (cI, 104, .inl (nF tg))), ((r 15), .inl (cI, 104, .inl (oF sr))), ((r 16), .inl (cI, 104, .inl (nF kn))), ((r 14), .inl (cI, 104, .inl (nF su))), ((r 19), .inl (cI, 120, .inl (nF cc))), ((r 20), .inl (cI, 3, .inl (nF lg))), ((r 21), .inl (cI, 3, .inl (nF ler)))] := hD.sub (ws' := [zR r (cn + 1) mn mi nn, ((r 1), .inl (cI, 40, .inl (oF (va_up bf cn bv)))), ((r 2), .inl (cI, 40, .inl (nF rc))), ((r 3), .inl (cI, 40, .inl sv)), ((r 4), .inl (cZ, 40, .inl (bF sb))), ((r 5), .inl (cZ, 40, .inl (bF lo))), ((r 6), .inl (cI, 40, .inl (nF fr))), ((r 7), .inl (cI, 40, .inl (oF an))), ((r 8), .inl (cZ, 40, .inl (bF ot))), ((r 12), .inl (cI, 104, .inl vs)), ((r 13), .inl (cI, 104, .inl (nF tg))), ((r 15), .inl (cI, 104, .inl (oF sr))), ((r 16), .inl (cI, 104, .inl (nF kn))), ((r 14), .inl (cI, 104, .inl (nF su))), ((r 19), .inl (cI, 120, .inl (nF cc))), ((r 20), .inl (cI, 3, .inl (nF lg))), ((r 21), .inl (cI, 3, .inl (nF ler)))]) [13, 0, 1, 14, 2, 3, 4, 5, 6, 7, 8, 9, 10, 11, 15, 16, 12] (by decide) rfl
    refine lv_imul hx hb dc_R_receive_59 ?_
    refine lv_aload_n hx hb dc_R_receive_60 rfl (lv_at hl 3 rfl) ?_
    refine va_get (D := (dC, dI)) (ci := 4) (v := .ref (r 12)) (C := cn_R) (T := ft_R) (N := 27) hx hb htb ki_R hown hK hP 0 rfl rfl 12 (by decide) (htb _ kw_382) (fun _ h9 => h9) rfl dc_R_receive_61 ?_
    refine lv_iload_n hx hb dc_R_receive_64 rfl (lv_at hl 1 rfl) ?_
    refine wa_ild (k := k) hx hb hK hP 9 0 rfl rfl (by omega) (by omega) dc_R_receive_65 ?_
    refine lv_iadd hx hb dc_R_receive_66 ?_
    refine tp_i (y := t) (ht) ?_
    refine lv_istore (lv' := [(4, .int t), (3, .int (nI cn)), (2, .int (nI k)), (1, .int (nI j)), (0, .ref (r 0))]) hx hb dc_R_receive_67 hl (by decide) rfl (fun ls hl => ?_)
    refine lv_aload_n hx hb dc_R_receive_69 rfl (lv_at hl 4 rfl) ?_
    refine va_get (D := (dC, dI)) (ci := 4) (v := .ref (r 2)) (C := cn_R) (T := ft_R) (N := 27) hx hb htb ki_R hown hK hP 0 rfl rfl 2 (by decide) (htb _ kw_372) (fun _ h9 => h9) rfl dc_R_receive_70 ?_
    refine lv_iload_n hx hb dc_R_receive_73 rfl (lv_at hl 1 rfl) ?_
    refine lv_iload_n hx hb dc_R_receive_74 rfl (lv_at hl 2 rfl) ?_
    refine wa_nst (k := cn) (x := k) hx hb hK hP hD hS 2 0 rfl rfl (by omega) (by omega) dc_R_receive_75 (fun H locs hP hD hS => ?_)
    have hP : va_P (dC, dI) clsL [zR r (cn + 1) mn mi nn, ((r 1), .inl (cI, 40, .inl (oF (va_up bf cn bv)))), ((r 2), .inl (cI, 40, .inl (nF (va_up rc cn k)))), ((r 3), .inl (cI, 40, .inl sv)), ((r 4), .inl (cZ, 40, .inl (bF sb))), ((r 5), .inl (cZ, 40, .inl (bF lo))), ((r 6), .inl (cI, 40, .inl (nF fr))), ((r 7), .inl (cI, 40, .inl (oF an))), ((r 8), .inl (cZ, 40, .inl (bF ot))), ((r 12), .inl (cI, 104, .inl vs)), ((r 13), .inl (cI, 104, .inl (nF tg))), ((r 15), .inl (cI, 104, .inl (oF sr))), ((r 16), .inl (cI, 104, .inl (nF kn))), ((r 14), .inl (cI, 104, .inl (nF su))), ((r 19), .inl (cI, 120, .inl (nF cc))), ((r 20), .inl (cI, 3, .inl (nF lg))), ((r 21), .inl (cI, 3, .inl (nF ler)))] H := hP
    have hD : va_D A [zR r (cn + 1) mn mi nn, ((r 1), .inl (cI, 40, .inl (oF (va_up bf cn bv)))), ((r 2), .inl (cI, 40, .inl (nF (va_up rc cn k)))), ((r 3), .inl (cI, 40, .inl sv)), ((r 4), .inl (cZ, 40, .inl (bF sb))), ((r 5), .inl (cZ, 40, .inl (bF lo))), ((r 6), .inl (cI, 40, .inl (nF fr))), ((r 7), .inl (cI, 40, .inl (oF an))), ((r 8), .inl (cZ, 40, .inl (bF ot))), ((r 12), .inl (cI, 104, .inl vs)), ((r 13), .inl (cI, 104, .inl (nF tg))), ((r 15), .inl (cI, 104, .inl (oF sr))), ((r 16), .inl (cI, 104, .inl (nF kn))), ((r 14), .inl (cI, 104, .inl (nF su))), ((r 19), .inl (cI, 120, .inl (nF cc))), ((r 20), .inl (cI, 3, .inl (nF lg))), ((r 21), .inl (cI, 3, .inl (nF ler)))] := hD
    refine lv_aload_n hx hb dc_R_receive_76 rfl (lv_at hl 4 rfl) ?_
    refine va_get (D := (dC, dI)) (ci := 4) (v := .ref (r 3)) (C := cn_R) (T := ft_R) (N := 27) hx hb htb ki_R hown hK hP 0 rfl rfl 3 (by decide) (htb _ kw_373) (fun _ h9 => h9) rfl dc_R_receive_77 ?_
    refine lv_iload_n hx hb dc_R_receive_80 rfl (lv_at hl 1 rfl) ?_
    refine lv_iload hx hb dc_R_receive_81 (lv_at hl 0 rfl) ?_
    refine wa_ist (k := cn) (x := t) hx hb hK hP hD hS 3 0 rfl rfl (by omega) (by omega) dc_R_receive_83 (fun H locs hP hD hS => ?_)
    have hP : va_P (dC, dI) clsL [zR r (cn + 1) mn mi nn, ((r 1), .inl (cI, 40, .inl (oF (va_up bf cn bv)))), ((r 2), .inl (cI, 40, .inl (nF (va_up rc cn k)))), ((r 3), .inl (cI, 40, .inl (va_up sv cn t))), ((r 4), .inl (cZ, 40, .inl (bF sb))), ((r 5), .inl (cZ, 40, .inl (bF lo))), ((r 6), .inl (cI, 40, .inl (nF fr))), ((r 7), .inl (cI, 40, .inl (oF an))), ((r 8), .inl (cZ, 40, .inl (bF ot))), ((r 12), .inl (cI, 104, .inl vs)), ((r 13), .inl (cI, 104, .inl (nF tg))), ((r 15), .inl (cI, 104, .inl (oF sr))), ((r 16), .inl (cI, 104, .inl (nF kn))), ((r 14), .inl (cI, 104, .inl (nF su))), ((r 19), .inl (cI, 120, .inl (nF cc))), ((r 20), .inl (cI, 3, .inl (nF lg))), ((r 21), .inl (cI, 3, .inl (nF ler)))] H := hP
    have hD : va_D A [zR r (cn + 1) mn mi nn, ((r 1), .inl (cI, 40, .inl (oF (va_up bf cn bv)))), ((r 2), .inl (cI, 40, .inl (nF (va_up rc cn k)))), ((r 3), .inl (cI, 40, .inl (va_up sv cn t))), ((r 4), .inl (cZ, 40, .inl (bF sb))), ((r 5), .inl (cZ, 40, .inl (bF lo))), ((r 6), .inl (cI, 40, .inl (nF fr))), ((r 7), .inl (cI, 40, .inl (oF an))), ((r 8), .inl (cZ, 40, .inl (bF ot))), ((r 12), .inl (cI, 104, .inl vs)), ((r 13), .inl (cI, 104, .inl (nF tg))), ((r 15), .inl (cI, 104, .inl (oF sr))), ((r 16), .inl (cI, 104, .inl (nF kn))), ((r 14), .inl (cI, 104, .inl (nF su))), ((r 19), .inl (cI, 120, .inl (nF cc))), ((r 20), .inl (cI, 3, .inl (nF lg))), ((r 21), .inl (cI, 3, .inl (nF ler)))] := hD
    refine lv_aload_n hx hb dc_R_receive_84 rfl (lv_at hl 4 rfl) ?_
    refine va_get (D := (dC, dI)) (ci := 4) (v := .ref (r 4)) (C := cn_R) (T := ft_R) (N := 27) hx hb htb ki_R hown hK hP 0 rfl rfl 4 (by decide) (htb _ kw_374) (fun _ h9 => h9) rfl dc_R_receive_85 ?_
    refine lv_iload_n hx hb dc_R_receive_88 rfl (lv_at hl 1 rfl) ?_
    refine lv_iconst (v := nI 0) hx hb dc_R_receive_89 (by decide) ?_
    refine tp_i (y := bI false) (rfl) ?_
    refine wa_bst (k := cn) (x := false) hx hb hK hP hD hS 4 2 rfl rfl (by omega) (by omega) dc_R_receive_90 (fun H locs hP hD hS => ?_)
    have hP : va_P (dC, dI) clsL [zR r (cn + 1) mn mi nn, ((r 1), .inl (cI, 40, .inl (oF (va_up bf cn bv)))), ((r 2), .inl (cI, 40, .inl (nF (va_up rc cn k)))), ((r 3), .inl (cI, 40, .inl (va_up sv cn t))), ((r 4), .inl (cZ, 40, .inl (bF (va_up sb cn false)))), ((r 5), .inl (cZ, 40, .inl (bF lo))), ((r 6), .inl (cI, 40, .inl (nF fr))), ((r 7), .inl (cI, 40, .inl (oF an))), ((r 8), .inl (cZ, 40, .inl (bF ot))), ((r 12), .inl (cI, 104, .inl vs)), ((r 13), .inl (cI, 104, .inl (nF tg))), ((r 15), .inl (cI, 104, .inl (oF sr))), ((r 16), .inl (cI, 104, .inl (nF kn))), ((r 14), .inl (cI, 104, .inl (nF su))), ((r 19), .inl (cI, 120, .inl (nF cc))), ((r 20), .inl (cI, 3, .inl (nF lg))), ((r 21), .inl (cI, 3, .inl (nF ler)))] H := hP
    have hD : va_D A [zR r (cn + 1) mn mi nn, ((r 1), .inl (cI, 40, .inl (oF (va_up bf cn bv)))), ((r 2), .inl (cI, 40, .inl (nF (va_up rc cn k)))), ((r 3), .inl (cI, 40, .inl (va_up sv cn t))), ((r 4), .inl (cZ, 40, .inl (bF (va_up sb cn false)))), ((r 5), .inl (cZ, 40, .inl (bF lo))), ((r 6), .inl (cI, 40, .inl (nF fr))), ((r 7), .inl (cI, 40, .inl (oF an))), ((r 8), .inl (cZ, 40, .inl (bF ot))), ((r 12), .inl (cI, 104, .inl vs)), ((r 13), .inl (cI, 104, .inl (nF tg))), ((r 15), .inl (cI, 104, .inl (oF sr))), ((r 16), .inl (cI, 104, .inl (nF kn))), ((r 14), .inl (cI, 104, .inl (nF su))), ((r 19), .inl (cI, 120, .inl (nF cc))), ((r 20), .inl (cI, 3, .inl (nF lg))), ((r 21), .inl (cI, 3, .inl (nF ler)))] := hD
    refine lv_aload_n hx hb dc_R_receive_91 rfl (lv_at hl 4 rfl) ?_
    refine va_get (D := (dC, dI)) (ci := 4) (v := .ref (r 5)) (C := cn_R) (T := ft_R) (N := 27) hx hb htb ki_R hown hK hP 0 rfl rfl 5 (by decide) (htb _ kw_375) (fun _ h9 => h9) rfl dc_R_receive_92 ?_
    refine lv_iload_n hx hb dc_R_receive_95 rfl (lv_at hl 1 rfl) ?_
    refine lv_iconst (v := nI 0) hx hb dc_R_receive_96 (by decide) ?_
    refine tp_i (y := bI false) (rfl) ?_
    refine wa_bst (k := cn) (x := false) hx hb hK hP hD hS 5 2 rfl rfl (by omega) (by omega) dc_R_receive_97 (fun H locs hP hD hS => ?_)
    have hP : va_P (dC, dI) clsL [zR r (cn + 1) mn mi nn, ((r 1), .inl (cI, 40, .inl (oF (va_up bf cn bv)))), ((r 2), .inl (cI, 40, .inl (nF (va_up rc cn k)))), ((r 3), .inl (cI, 40, .inl (va_up sv cn t))), ((r 4), .inl (cZ, 40, .inl (bF (va_up sb cn false)))), ((r 5), .inl (cZ, 40, .inl (bF (va_up lo cn false)))), ((r 6), .inl (cI, 40, .inl (nF fr))), ((r 7), .inl (cI, 40, .inl (oF an))), ((r 8), .inl (cZ, 40, .inl (bF ot))), ((r 12), .inl (cI, 104, .inl vs)), ((r 13), .inl (cI, 104, .inl (nF tg))), ((r 15), .inl (cI, 104, .inl (oF sr))), ((r 16), .inl (cI, 104, .inl (nF kn))), ((r 14), .inl (cI, 104, .inl (nF su))), ((r 19), .inl (cI, 120, .inl (nF cc))), ((r 20), .inl (cI, 3, .inl (nF lg))), ((r 21), .inl (cI, 3, .inl (nF ler)))] H := hP
    have hD : va_D A [zR r (cn + 1) mn mi nn, ((r 1), .inl (cI, 40, .inl (oF (va_up bf cn bv)))), ((r 2), .inl (cI, 40, .inl (nF (va_up rc cn k)))), ((r 3), .inl (cI, 40, .inl (va_up sv cn t))), ((r 4), .inl (cZ, 40, .inl (bF (va_up sb cn false)))), ((r 5), .inl (cZ, 40, .inl (bF (va_up lo cn false)))), ((r 6), .inl (cI, 40, .inl (nF fr))), ((r 7), .inl (cI, 40, .inl (oF an))), ((r 8), .inl (cZ, 40, .inl (bF ot))), ((r 12), .inl (cI, 104, .inl vs)), ((r 13), .inl (cI, 104, .inl (nF tg))), ((r 15), .inl (cI, 104, .inl (oF sr))), ((r 16), .inl (cI, 104, .inl (nF kn))), ((r 14), .inl (cI, 104, .inl (nF su))), ((r 19), .inl (cI, 120, .inl (nF cc))), ((r 20), .inl (cI, 3, .inl (nF lg))), ((r 21), .inl (cI, 3, .inl (nF ler)))] := hD
    refine lv_aload_n hx hb dc_R_receive_98 rfl (lv_at hl 4 rfl) ?_
    refine va_get (D := (dC, dI)) (ci := 4) (v := .ref (r 6)) (C := cn_R) (T := ft_R) (N := 27) hx hb htb ki_R hown hK hP 0 rfl rfl 6 (by decide) (htb _ kw_376) (fun _ h9 => h9) rfl dc_R_receive_99 ?_
    refine lv_iload_n hx hb dc_R_receive_102 rfl (lv_at hl 1 rfl) ?_
    refine lv_iconst (v := nI 3) hx hb dc_R_receive_103 (by decide) ?_
    refine wa_nst (k := cn) (x := 3) hx hb hK hP hD hS 6 0 rfl rfl (by omega) (by omega) dc_R_receive_104 (fun H locs hP hD hS => ?_)
    have hP : va_P (dC, dI) clsL [zR r (cn + 1) mn mi nn, ((r 1), .inl (cI, 40, .inl (oF (va_up bf cn bv)))), ((r 2), .inl (cI, 40, .inl (nF (va_up rc cn k)))), ((r 3), .inl (cI, 40, .inl (va_up sv cn t))), ((r 4), .inl (cZ, 40, .inl (bF (va_up sb cn false)))), ((r 5), .inl (cZ, 40, .inl (bF (va_up lo cn false)))), ((r 6), .inl (cI, 40, .inl (nF (va_up fr cn 3)))), ((r 7), .inl (cI, 40, .inl (oF an))), ((r 8), .inl (cZ, 40, .inl (bF ot))), ((r 12), .inl (cI, 104, .inl vs)), ((r 13), .inl (cI, 104, .inl (nF tg))), ((r 15), .inl (cI, 104, .inl (oF sr))), ((r 16), .inl (cI, 104, .inl (nF kn))), ((r 14), .inl (cI, 104, .inl (nF su))), ((r 19), .inl (cI, 120, .inl (nF cc))), ((r 20), .inl (cI, 3, .inl (nF lg))), ((r 21), .inl (cI, 3, .inl (nF ler)))] H := hP
    have hD : va_D A [zR r (cn + 1) mn mi nn, ((r 1), .inl (cI, 40, .inl (oF (va_up bf cn bv)))), ((r 2), .inl (cI, 40, .inl (nF (va_up rc cn k)))), ((r 3), .inl (cI, 40, .inl (va_up sv cn t))), ((r 4), .inl (cZ, 40, .inl (bF (va_up sb cn false)))), ((r 5), .inl (cZ, 40, .inl (bF (va_up lo cn false)))), ((r 6), .inl (cI, 40, .inl (nF (va_up fr cn 3)))), ((r 7), .inl (cI, 40, .inl (oF an))), ((r 8), .inl (cZ, 40, .inl (bF ot))), ((r 12), .inl (cI, 104, .inl vs)), ((r 13), .inl (cI, 104, .inl (nF tg))), ((r 15), .inl (cI, 104, .inl (oF sr))), ((r 16), .inl (cI, 104, .inl (nF kn))), ((r 14), .inl (cI, 104, .inl (nF su))), ((r 19), .inl (cI, 120, .inl (nF cc))), ((r 20), .inl (cI, 3, .inl (nF lg))), ((r 21), .inl (cI, 3, .inl (nF ler)))] := hD
    refine lv_aload_n hx hb dc_R_receive_105 rfl (lv_at hl 4 rfl) ?_
    refine va_get (D := (dC, dI)) (ci := 4) (v := .ref (r 7)) (C := cn_R) (T := ft_R) (N := 27) hx hb htb ki_R hown hK hP 0 rfl rfl 7 (by decide) (htb _ kw_377) (fun _ h9 => h9) rfl dc_R_receive_106 ?_
    refine lv_iload_n hx hb dc_R_receive_109 rfl (lv_at hl 1 rfl) ?_
    refine lv_iconst (v := (-1)) hx hb dc_R_receive_110 (by decide) ?_
    refine tp_i (y := oI none) (rfl) ?_
    refine wa_ost (k := cn) (x := none) hx hb hK hP hD hS 7 0 rfl rfl (by omega) (by omega) dc_R_receive_111 (fun H locs hP hD hS => ?_)
    have hP : va_P (dC, dI) clsL [zR r (cn + 1) mn mi nn, ((r 1), .inl (cI, 40, .inl (oF (va_up bf cn bv)))), ((r 2), .inl (cI, 40, .inl (nF (va_up rc cn k)))), ((r 3), .inl (cI, 40, .inl (va_up sv cn t))), ((r 4), .inl (cZ, 40, .inl (bF (va_up sb cn false)))), ((r 5), .inl (cZ, 40, .inl (bF (va_up lo cn false)))), ((r 6), .inl (cI, 40, .inl (nF (va_up fr cn 3)))), ((r 7), .inl (cI, 40, .inl (oF (va_up an cn none)))), ((r 8), .inl (cZ, 40, .inl (bF ot))), ((r 12), .inl (cI, 104, .inl vs)), ((r 13), .inl (cI, 104, .inl (nF tg))), ((r 15), .inl (cI, 104, .inl (oF sr))), ((r 16), .inl (cI, 104, .inl (nF kn))), ((r 14), .inl (cI, 104, .inl (nF su))), ((r 19), .inl (cI, 120, .inl (nF cc))), ((r 20), .inl (cI, 3, .inl (nF lg))), ((r 21), .inl (cI, 3, .inl (nF ler)))] H := hP
    have hD : va_D A [zR r (cn + 1) mn mi nn, ((r 1), .inl (cI, 40, .inl (oF (va_up bf cn bv)))), ((r 2), .inl (cI, 40, .inl (nF (va_up rc cn k)))), ((r 3), .inl (cI, 40, .inl (va_up sv cn t))), ((r 4), .inl (cZ, 40, .inl (bF (va_up sb cn false)))), ((r 5), .inl (cZ, 40, .inl (bF (va_up lo cn false)))), ((r 6), .inl (cI, 40, .inl (nF (va_up fr cn 3)))), ((r 7), .inl (cI, 40, .inl (oF (va_up an cn none)))), ((r 8), .inl (cZ, 40, .inl (bF ot))), ((r 12), .inl (cI, 104, .inl vs)), ((r 13), .inl (cI, 104, .inl (nF tg))), ((r 15), .inl (cI, 104, .inl (oF sr))), ((r 16), .inl (cI, 104, .inl (nF kn))), ((r 14), .inl (cI, 104, .inl (nF su))), ((r 19), .inl (cI, 120, .inl (nF cc))), ((r 20), .inl (cI, 3, .inl (nF lg))), ((r 21), .inl (cI, 3, .inl (nF ler)))] := hD
    refine lv_aload_n hx hb dc_R_receive_112 rfl (lv_at hl 4 rfl) ?_
    refine va_get (D := (dC, dI)) (ci := 4) (v := .ref (r 8)) (C := cn_R) (T := ft_R) (N := 27) hx hb htb ki_R hown hK hP 0 rfl rfl 8 (by decide) (htb _ kw_378) (fun _ h9 => h9) rfl dc_R_receive_113 ?_
    refine lv_iload_n hx hb dc_R_receive_116 rfl (lv_at hl 1 rfl) ?_
    refine lv_iconst (v := nI 0) hx hb dc_R_receive_117 (by decide) ?_
    refine tp_i (y := bI false) (rfl) ?_
    refine wa_bst (k := cn) (x := false) hx hb hK hP hD hS 8 2 rfl rfl (by omega) (by omega) dc_R_receive_118 (fun H locs hP hD hS => ?_)
    have hP : va_P (dC, dI) clsL [zR r (cn + 1) mn mi nn, ((r 1), .inl (cI, 40, .inl (oF (va_up bf cn bv)))), ((r 2), .inl (cI, 40, .inl (nF (va_up rc cn k)))), ((r 3), .inl (cI, 40, .inl (va_up sv cn t))), ((r 4), .inl (cZ, 40, .inl (bF (va_up sb cn false)))), ((r 5), .inl (cZ, 40, .inl (bF (va_up lo cn false)))), ((r 6), .inl (cI, 40, .inl (nF (va_up fr cn 3)))), ((r 7), .inl (cI, 40, .inl (oF (va_up an cn none)))), ((r 8), .inl (cZ, 40, .inl (bF (va_up ot cn false)))), ((r 12), .inl (cI, 104, .inl vs)), ((r 13), .inl (cI, 104, .inl (nF tg))), ((r 15), .inl (cI, 104, .inl (oF sr))), ((r 16), .inl (cI, 104, .inl (nF kn))), ((r 14), .inl (cI, 104, .inl (nF su))), ((r 19), .inl (cI, 120, .inl (nF cc))), ((r 20), .inl (cI, 3, .inl (nF lg))), ((r 21), .inl (cI, 3, .inl (nF ler)))] H := hP
    have hD : va_D A [zR r (cn + 1) mn mi nn, ((r 1), .inl (cI, 40, .inl (oF (va_up bf cn bv)))), ((r 2), .inl (cI, 40, .inl (nF (va_up rc cn k)))), ((r 3), .inl (cI, 40, .inl (va_up sv cn t))), ((r 4), .inl (cZ, 40, .inl (bF (va_up sb cn false)))), ((r 5), .inl (cZ, 40, .inl (bF (va_up lo cn false)))), ((r 6), .inl (cI, 40, .inl (nF (va_up fr cn 3)))), ((r 7), .inl (cI, 40, .inl (oF (va_up an cn none)))), ((r 8), .inl (cZ, 40, .inl (bF (va_up ot cn false)))), ((r 12), .inl (cI, 104, .inl vs)), ((r 13), .inl (cI, 104, .inl (nF tg))), ((r 15), .inl (cI, 104, .inl (oF sr))), ((r 16), .inl (cI, 104, .inl (nF kn))), ((r 14), .inl (cI, 104, .inl (nF su))), ((r 19), .inl (cI, 120, .inl (nF cc))), ((r 20), .inl (cI, 3, .inl (nF lg))), ((r 21), .inl (cI, 3, .inl (nF ler)))] := hD
    refine lv_aload_n hx hb dc_R_receive_119 rfl (lv_at hl 4 rfl) ?_
    refine va_get (D := (dC, dI)) (ci := 4) (v := .ref (r 19)) (C := cn_R) (T := ft_R) (N := 27) hx hb htb ki_R hown hK hP 0 rfl rfl 19 (by decide) (htb _ kw_389) (fun _ h9 => h9) rfl dc_R_receive_120 ?_
    refine lv_bipush (v := nI 40) hx hb dc_R_receive_123 (by decide) ?_
    refine lv_iload_n hx hb dc_R_receive_125 rfl (lv_at hl 3 rfl) ?_
    refine lv_imul hx hb dc_R_receive_126 ?_
    refine tp_i (y := nI (40 * j)) (pk_mul _ _) ?_
    refine lv_aload_n hx hb dc_R_receive_127 rfl (lv_at hl 4 rfl) ?_
    refine va_get (D := (dC, dI)) (ci := 4) (v := .ref (r 20)) (C := cn_R) (T := ft_R) (N := 27) hx hb htb ki_R hown hK hP 0 rfl rfl 20 (by decide) (htb _ kw_390) (fun _ h9 => h9) rfl dc_R_receive_128 ?_
    refine lv_iload_n hx hb dc_R_receive_131 rfl (lv_at hl 3 rfl) ?_
    refine wa_nld (k := j) hx hb hK hP 15 0 rfl rfl (by omega) (by omega) dc_R_receive_132 ?_
    refine tp_i (y := nI n) (by rw [hlg]) ?_
    refine lv_iadd hx hb dc_R_receive_133 ?_
    refine tp_i (y := nI (40 * j + n)) (nI_add _ _) ?_
    refine lv_iload_n hx hb dc_R_receive_134 rfl (lv_at hl 1 rfl) ?_
    refine wa_nst (k := 40 * j + n) (x := cn) hx hb hK hP hD hS 14 0 rfl rfl (by omega) (by omega) dc_R_receive_135 (fun H locs hP hD hS => ?_)
    have hP : va_P (dC, dI) clsL [zR r (cn + 1) mn mi nn, ((r 1), .inl (cI, 40, .inl (oF (va_up bf cn bv)))), ((r 2), .inl (cI, 40, .inl (nF (va_up rc cn k)))), ((r 3), .inl (cI, 40, .inl (va_up sv cn t))), ((r 4), .inl (cZ, 40, .inl (bF (va_up sb cn false)))), ((r 5), .inl (cZ, 40, .inl (bF (va_up lo cn false)))), ((r 6), .inl (cI, 40, .inl (nF (va_up fr cn 3)))), ((r 7), .inl (cI, 40, .inl (oF (va_up an cn none)))), ((r 8), .inl (cZ, 40, .inl (bF (va_up ot cn false)))), ((r 12), .inl (cI, 104, .inl vs)), ((r 13), .inl (cI, 104, .inl (nF tg))), ((r 15), .inl (cI, 104, .inl (oF sr))), ((r 16), .inl (cI, 104, .inl (nF kn))), ((r 14), .inl (cI, 104, .inl (nF su))), ((r 19), .inl (cI, 120, .inl (nF (va_up cc (40 * j + n) cn)))), ((r 20), .inl (cI, 3, .inl (nF lg))), ((r 21), .inl (cI, 3, .inl (nF ler)))] H := hP
    have hD : va_D A [zR r (cn + 1) mn mi nn, ((r 1), .inl (cI, 40, .inl (oF (va_up bf cn bv)))), ((r 2), .inl (cI, 40, .inl (nF (va_up rc cn k)))), ((r 3), .inl (cI, 40, .inl (va_up sv cn t))), ((r 4), .inl (cZ, 40, .inl (bF (va_up sb cn false)))), ((r 5), .inl (cZ, 40, .inl (bF (va_up lo cn false)))), ((r 6), .inl (cI, 40, .inl (nF (va_up fr cn 3)))), ((r 7), .inl (cI, 40, .inl (oF (va_up an cn none)))), ((r 8), .inl (cZ, 40, .inl (bF (va_up ot cn false)))), ((r 12), .inl (cI, 104, .inl vs)), ((r 13), .inl (cI, 104, .inl (nF tg))), ((r 15), .inl (cI, 104, .inl (oF sr))), ((r 16), .inl (cI, 104, .inl (nF kn))), ((r 14), .inl (cI, 104, .inl (nF su))), ((r 19), .inl (cI, 120, .inl (nF (va_up cc (40 * j + n) cn)))), ((r 20), .inl (cI, 3, .inl (nF lg))), ((r 21), .inl (cI, 3, .inl (nF ler)))] := hD
    refine lv_aload_n hx hb dc_R_receive_136 rfl (lv_at hl 4 rfl) ?_
    refine va_get (D := (dC, dI)) (ci := 4) (v := .ref (r 20)) (C := cn_R) (T := ft_R) (N := 27) hx hb htb ki_R hown hK hP 0 rfl rfl 20 (by decide) (htb _ kw_390) (fun _ h9 => h9) rfl dc_R_receive_137 ?_
    refine lv_iload_n hx hb dc_R_receive_140 rfl (lv_at hl 3 rfl) ?_
    refine lv_dup2_11 hx hb dc_R_receive_141 rfl rfl ?_
    refine wa_nld (k := j) hx hb hK hP 15 0 rfl rfl (by omega) (by omega) dc_R_receive_142 ?_
    refine tp_i (y := nI n) (by rw [hlg]) ?_
    refine lv_iconst (v := nI 1) hx hb dc_R_receive_143 (by decide) ?_
    refine lv_iadd hx hb dc_R_receive_144 ?_
    refine tp_i (y := nI (n + 1)) (nI_add _ _) ?_
    refine wa_nst (k := j) (x := n + 1) hx hb hK hP hD hS 15 0 rfl rfl (by omega) (by omega) dc_R_receive_145 (fun H locs hP hD hS => ?_)
    have hP : va_P (dC, dI) clsL [zR r (cn + 1) mn mi nn, ((r 1), .inl (cI, 40, .inl (oF (va_up bf cn bv)))), ((r 2), .inl (cI, 40, .inl (nF (va_up rc cn k)))), ((r 3), .inl (cI, 40, .inl (va_up sv cn t))), ((r 4), .inl (cZ, 40, .inl (bF (va_up sb cn false)))), ((r 5), .inl (cZ, 40, .inl (bF (va_up lo cn false)))), ((r 6), .inl (cI, 40, .inl (nF (va_up fr cn 3)))), ((r 7), .inl (cI, 40, .inl (oF (va_up an cn none)))), ((r 8), .inl (cZ, 40, .inl (bF (va_up ot cn false)))), ((r 12), .inl (cI, 104, .inl vs)), ((r 13), .inl (cI, 104, .inl (nF tg))), ((r 15), .inl (cI, 104, .inl (oF sr))), ((r 16), .inl (cI, 104, .inl (nF kn))), ((r 14), .inl (cI, 104, .inl (nF su))), ((r 19), .inl (cI, 120, .inl (nF (va_up cc (40 * j + n) cn)))), ((r 20), .inl (cI, 3, .inl (nF (va_up lg j (n + 1))))), ((r 21), .inl (cI, 3, .inl (nF ler)))] H := hP
    have hD : va_D A [zR r (cn + 1) mn mi nn, ((r 1), .inl (cI, 40, .inl (oF (va_up bf cn bv)))), ((r 2), .inl (cI, 40, .inl (nF (va_up rc cn k)))), ((r 3), .inl (cI, 40, .inl (va_up sv cn t))), ((r 4), .inl (cZ, 40, .inl (bF (va_up sb cn false)))), ((r 5), .inl (cZ, 40, .inl (bF (va_up lo cn false)))), ((r 6), .inl (cI, 40, .inl (nF (va_up fr cn 3)))), ((r 7), .inl (cI, 40, .inl (oF (va_up an cn none)))), ((r 8), .inl (cZ, 40, .inl (bF (va_up ot cn false)))), ((r 12), .inl (cI, 104, .inl vs)), ((r 13), .inl (cI, 104, .inl (nF tg))), ((r 15), .inl (cI, 104, .inl (oF sr))), ((r 16), .inl (cI, 104, .inl (nF kn))), ((r 14), .inl (cI, 104, .inl (nF su))), ((r 19), .inl (cI, 120, .inl (nF (va_up cc (40 * j + n) cn)))), ((r 20), .inl (cI, 3, .inl (nF (va_up lg j (n + 1))))), ((r 21), .inl (cI, 3, .inl (nF ler)))] := hD
    refine ct_ 174 (fun (H : Heap) (locs : List Loc) (ls : Array Slot) => va_P (dC, dI) clsL [zR r (cn + 1) (mn + (sb1 t).toNat) mi nn, ((r 1), .inl (cI, 40, .inl (oF (va_up bf cn bv)))), ((r 2), .inl (cI, 40, .inl (nF (va_up rc cn k)))), ((r 3), .inl (cI, 40, .inl (va_up sv cn t))), ((r 4), .inl (cZ, 40, .inl (bF (va_up sb cn false)))), ((r 5), .inl (cZ, 40, .inl (bF (va_up lo cn false)))), ((r 6), .inl (cI, 40, .inl (nF (va_up fr cn 3)))), ((r 7), .inl (cI, 40, .inl (oF (va_up an cn none)))), ((r 8), .inl (cZ, 40, .inl (bF (va_up ot cn false)))), ((r 12), .inl (cI, 104, .inl (s1_F (sb1 t) vs mn (t >>> (nI 1 &&& 31))))), ((r 13), .inl (cI, 104, .inl (nF (s1_F (sb1 t) tg mn ((j + 1) % 3))))), ((r 15), .inl (cI, 104, .inl (oF (s1_F (sb1 t) sr mn (some cn))))), ((r 16), .inl (cI, 104, .inl (nF (s1_F (sb1 t) kn mn le)))), ((r 14), .inl (cI, 104, .inl (nF (s1_F (sb1 t) su mn 0)))), ((r 19), .inl (cI, 120, .inl (nF (va_up cc (40 * j + n) cn)))), ((r 20), .inl (cI, 3, .inl (nF (va_up lg j (n + 1))))), ((r 21), .inl (cI, 3, .inl (nF ler)))] H ∧ va_D A [zR r (cn + 1) (mn + (sb1 t).toNat) mi nn, ((r 1), .inl (cI, 40, .inl (oF (va_up bf cn bv)))), ((r 2), .inl (cI, 40, .inl (nF (va_up rc cn k)))), ((r 3), .inl (cI, 40, .inl (va_up sv cn t))), ((r 4), .inl (cZ, 40, .inl (bF (va_up sb cn false)))), ((r 5), .inl (cZ, 40, .inl (bF (va_up lo cn false)))), ((r 6), .inl (cI, 40, .inl (nF (va_up fr cn 3)))), ((r 7), .inl (cI, 40, .inl (oF (va_up an cn none)))), ((r 8), .inl (cZ, 40, .inl (bF (va_up ot cn false)))), ((r 12), .inl (cI, 104, .inl (s1_F (sb1 t) vs mn (t >>> (nI 1 &&& 31))))), ((r 13), .inl (cI, 104, .inl (nF (s1_F (sb1 t) tg mn ((j + 1) % 3))))), ((r 15), .inl (cI, 104, .inl (oF (s1_F (sb1 t) sr mn (some cn))))), ((r 16), .inl (cI, 104, .inl (nF (s1_F (sb1 t) kn mn le)))), ((r 14), .inl (cI, 104, .inl (nF (s1_F (sb1 t) su mn 0)))), ((r 19), .inl (cI, 120, .inl (nF (va_up cc (40 * j + n) cn)))), ((r 20), .inl (cI, 3, .inl (nF (va_up lg j (n + 1))))), ((r 21), .inl (cI, 3, .inl (nF ler)))] ∧ va_S A s.heap H locs ∧ lv_has ls 5 [(4, .int t), (3, .int (nI cn)), (2, .int (nI k)), (1, .int (nI j)), (0, .ref (r 0))]) ?_ ?_
    · rintro H locs ls ⟨hP, hD, hS, hl⟩
      have hb1 := sb_le (sb1 t)
      refine ct_ 202 (fun (H : Heap) (locs : List Loc) (ls : Array Slot) => va_P (dC, dI) clsL [zR r (cn + 1) (mn + (sb1 t).toNat + (sb2 t).toNat) mi nn, ((r 1), .inl (cI, 40, .inl (oF (va_up bf cn bv)))), ((r 2), .inl (cI, 40, .inl (nF (va_up rc cn k)))), ((r 3), .inl (cI, 40, .inl (va_up sv cn t))), ((r 4), .inl (cZ, 40, .inl (bF (va_up sb cn false)))), ((r 5), .inl (cZ, 40, .inl (bF (va_up lo cn false)))), ((r 6), .inl (cI, 40, .inl (nF (va_up fr cn 3)))), ((r 7), .inl (cI, 40, .inl (oF (va_up an cn none)))), ((r 8), .inl (cZ, 40, .inl (bF (va_up ot cn false)))), ((r 12), .inl (cI, 104, .inl (s1_F (sb2 t) (s1_F (sb1 t) vs mn (t >>> (nI 1 &&& 31))) (mn + (sb1 t).toNat) (t >>> (nI 2 &&& 31))))), ((r 13), .inl (cI, 104, .inl (nF (s1_F (sb2 t) (s1_F (sb1 t) tg mn ((j + 1) % 3)) (mn + (sb1 t).toNat) ((j + 2) % 3))))), ((r 15), .inl (cI, 104, .inl (oF (s1_F (sb2 t) (s1_F (sb1 t) sr mn (some cn)) (mn + (sb1 t).toNat) (some cn))))), ((r 16), .inl (cI, 104, .inl (nF (s1_F (sb2 t) (s1_F (sb1 t) kn mn le) (mn + (sb1 t).toNat) le)))), ((r 14), .inl (cI, 104, .inl (nF (s1_F (sb2 t) (s1_F (sb1 t) su mn 0) (mn + (sb1 t).toNat) 0)))), ((r 19), .inl (cI, 120, .inl (nF (va_up cc (40 * j + n) cn)))), ((r 20), .inl (cI, 3, .inl (nF (va_up lg j (n + 1))))), ((r 21), .inl (cI, 3, .inl (nF ler)))] H ∧ va_D A [zR r (cn + 1) (mn + (sb1 t).toNat + (sb2 t).toNat) mi nn, ((r 1), .inl (cI, 40, .inl (oF (va_up bf cn bv)))), ((r 2), .inl (cI, 40, .inl (nF (va_up rc cn k)))), ((r 3), .inl (cI, 40, .inl (va_up sv cn t))), ((r 4), .inl (cZ, 40, .inl (bF (va_up sb cn false)))), ((r 5), .inl (cZ, 40, .inl (bF (va_up lo cn false)))), ((r 6), .inl (cI, 40, .inl (nF (va_up fr cn 3)))), ((r 7), .inl (cI, 40, .inl (oF (va_up an cn none)))), ((r 8), .inl (cZ, 40, .inl (bF (va_up ot cn false)))), ((r 12), .inl (cI, 104, .inl (s1_F (sb2 t) (s1_F (sb1 t) vs mn (t >>> (nI 1 &&& 31))) (mn + (sb1 t).toNat) (t >>> (nI 2 &&& 31))))), ((r 13), .inl (cI, 104, .inl (nF (s1_F (sb2 t) (s1_F (sb1 t) tg mn ((j + 1) % 3)) (mn + (sb1 t).toNat) ((j + 2) % 3))))), ((r 15), .inl (cI, 104, .inl (oF (s1_F (sb2 t) (s1_F (sb1 t) sr mn (some cn)) (mn + (sb1 t).toNat) (some cn))))), ((r 16), .inl (cI, 104, .inl (nF (s1_F (sb2 t) (s1_F (sb1 t) kn mn le) (mn + (sb1 t).toNat) le)))), ((r 14), .inl (cI, 104, .inl (nF (s1_F (sb2 t) (s1_F (sb1 t) su mn 0) (mn + (sb1 t).toNat) 0)))), ((r 19), .inl (cI, 120, .inl (nF (va_up cc (40 * j + n) cn)))), ((r 20), .inl (cI, 3, .inl (nF (va_up lg j (n + 1))))), ((r 21), .inl (cI, 3, .inl (nF ler)))] ∧ va_S A s.heap H locs ∧ lv_has ls 5 [(4, .int t), (3, .int (nI cn)), (2, .int (nI k)), (1, .int (nI j)), (0, .ref (r 0))]) ?_ ?_
      · rintro H locs ls ⟨hP, hD, hS, hl⟩
        refine lv_aload_n hx hb dc_R_receive_202 rfl (lv_at hl 4 rfl) ?_
        refine va_get (D := (dC, dI)) (ci := 4) (v := .ref (r 15)) (C := cn_R) (T := ft_R) (N := 27) hx hb htb ki_R hown hK hP 0 rfl rfl 15 (by decide) (htb _ kw_385) (fun _ h9 => h9) rfl dc_R_receive_203 ?_
        refine lv_iload_n hx hb dc_R_receive_206 rfl (lv_at hl 2 rfl) ?_
        refine wa_old (k := k) hx hb hK hP 11 0 rfl rfl (by omega) (by omega) dc_R_receive_207 ?_
        refine tp_i (y := oI (sr k)) (by rw [s1_F_lt _ _ (by omega), s1_F_lt _ _ hk]) ?_
        refine lv_if_ge (tgt := 217) hx hb dc_R_receive_208 (by decide) (fun hc => ?_) (fun hc => ?_)
        · have h4 : ¬ (sr k) = none := fun h9 => oI_ge (fun i q => by have := hs i q; omega) h9 hc
          have hP8 := hP.sub (ws' := [zR r (cn + 1) (mn + (sb1 t).toNat + (sb2 t).toNat) mi nn, ((r 1), .inl (cI, 40, .inl (oF (va_up bf cn bv)))), ((r 2), .inl (cI, 40, .inl (nF (va_up rc cn k)))), ((r 3), .inl (cI, 40, .inl (va_up sv cn t))), ((r 4), .inl (cZ, 40, .inl (bF (va_up sb cn false)))), ((r 5), .inl (cZ, 40, .inl (bF (va_up lo cn false)))), ((r 6), .inl (cI, 40, .inl (nF (va_up fr cn 3)))), ((r 7), .inl (cI, 40, .inl (oF (va_up an cn none)))), ((r 8), .inl (cZ, 40, .inl (bF (va_up ot cn false)))), ((r 12), .inl (cI, 104, .inl (s1_F (sb2 t) (s1_F (sb1 t) vs mn (t >>> (nI 1 &&& 31))) (mn + (sb1 t).toNat) (t >>> (nI 2 &&& 31))))), ((r 13), .inl (cI, 104, .inl (nF (s1_F (sb2 t) (s1_F (sb1 t) tg mn ((j + 1) % 3)) (mn + (sb1 t).toNat) ((j + 2) % 3))))), ((r 15), .inl (cI, 104, .inl (oF (s1_F (sb2 t) (s1_F (sb1 t) sr mn (some cn)) (mn + (sb1 t).toNat) (some cn))))), ((r 16), .inl (cI, 104, .inl (nF (s1_F (sb2 t) (s1_F (sb1 t) kn mn le) (mn + (sb1 t).toNat) le)))), ((r 14), .inl (cI, 104, .inl (nF (s1_F (sb2 t) (s1_F (sb1 t) su mn 0) (mn + (sb1 t).toNat) 0)))), ((r 19), .inl (cI, 120, .inl (nF (va_up cc (40 * j + n) cn)))), ((r 20), .inl (cI, 3, .inl (nF (va_up lg j (n + 1))))), ((r 21), .inl (cI, 3, .inl (nF ler)))]) [0, 1, 2, 3, 4, 5, 6, 7, 8, 9, 10, 11, 12, 13, 14, 15, 16] rfl
          have hD8 := hD.sub (ws' := [zR r (cn + 1) (mn + (sb1 t).toNat + (sb2 t).toNat) mi nn, ((r 1), .inl (cI, 40, .inl (oF (va_up bf cn bv)))), ((r 2), .inl (cI, 40, .inl (nF (va_up rc cn k)))), ((r 3), .inl (cI, 40, .inl (va_up sv cn t))), ((r 4), .inl (cZ, 40, .inl (bF (va_up sb cn false)))), ((r 5), .inl (cZ, 40, .inl (bF (va_up lo cn false)))), ((r 6), .inl (cI, 40, .inl (nF (va_up fr cn 3)))), ((r 7), .inl (cI, 40, .inl (oF (va_up an cn none)))), ((r 8), .inl (cZ, 40, .inl (bF (va_up ot cn false)))), ((r 12), .inl (cI, 104, .inl (s1_F (sb2 t) (s1_F (sb1 t) vs mn (t >>> (nI 1 &&& 31))) (mn + (sb1 t).toNat) (t >>> (nI 2 &&& 31))))), ((r 13), .inl (cI, 104, .inl (nF (s1_F (sb2 t) (s1_F (sb1 t) tg mn ((j + 1) % 3)) (mn + (sb1 t).toNat) ((j + 2) % 3))))), ((r 15), .inl (cI, 104, .inl (oF (s1_F (sb2 t) (s1_F (sb1 t) sr mn (some cn)) (mn + (sb1 t).toNat) (some cn))))), ((r 16), .inl (cI, 104, .inl (nF (s1_F (sb2 t) (s1_F (sb1 t) kn mn le) (mn + (sb1 t).toNat) le)))), ((r 14), .inl (cI, 104, .inl (nF (s1_F (sb2 t) (s1_F (sb1 t) su mn 0) (mn + (sb1 t).toNat) 0)))), ((r 19), .inl (cI, 120, .inl (nF (va_up cc (40 * j + n) cn)))), ((r 20), .inl (cI, 3, .inl (nF (va_up lg j (n + 1))))), ((r 21), .inl (cI, 3, .inl (nF ler)))]) [0, 1, 2, 3, 4, 5, 6, 7, 8, 9, 10, 11, 12, 13, 14, 15, 16] (by decide) rfl
          have hW8 : ([zR r (cn + 1) (mn + (sb1 t).toNat + (sb2 t).toNat) mi nn, ((r 1), .inl (cI, 40, .inl (oF (va_up bf cn bv)))), ((r 2), .inl (cI, 40, .inl (nF (va_up rc cn k)))), ((r 3), .inl (cI, 40, .inl (va_up sv cn t))), ((r 4), .inl (cZ, 40, .inl (bF (va_up sb cn false)))), ((r 5), .inl (cZ, 40, .inl (bF (va_up lo cn false)))), ((r 6), .inl (cI, 40, .inl (nF (va_up fr cn 3)))), ((r 7), .inl (cI, 40, .inl (oF (va_up an cn none)))), ((r 8), .inl (cZ, 40, .inl (bF (va_up ot cn false)))), ((r 12), .inl (cI, 104, .inl (s1_F (sb2 t) (s1_F (sb1 t) vs mn (t >>> (nI 1 &&& 31))) (mn + (sb1 t).toNat) (t >>> (nI 2 &&& 31))))), ((r 13), .inl (cI, 104, .inl (nF (s1_F (sb2 t) (s1_F (sb1 t) tg mn ((j + 1) % 3)) (mn + (sb1 t).toNat) ((j + 2) % 3))))), ((r 15), .inl (cI, 104, .inl (oF (s1_F (sb2 t) (s1_F (sb1 t) sr mn (some cn)) (mn + (sb1 t).toNat) (some cn))))), ((r 16), .inl (cI, 104, .inl (nF (s1_F (sb2 t) (s1_F (sb1 t) kn mn le) (mn + (sb1 t).toNat) le)))), ((r 14), .inl (cI, 104, .inl (nF (s1_F (sb2 t) (s1_F (sb1 t) su mn 0) (mn + (sb1 t).toNat) 0)))), ((r 19), .inl (cI, 120, .inl (nF (va_up cc (40 * j + n) cn)))), ((r 20), .inl (cI, 3, .inl (nF (va_up lg j (n + 1))))), ((r 21), .inl (cI, 3, .inl (nF ler)))] : va_W) = [zR r (cn + 1) (mn + (sb1 t).toNat + (sb2 t).toNat) mi nn, ((r 1), .inl (cI, 40, .inl (oF (va_up bf cn bv)))), ((r 2), .inl (cI, 40, .inl (nF (va_up rc cn k)))), ((r 3), .inl (cI, 40, .inl (va_up sv cn t))), ((r 4), .inl (cZ, 40, .inl (bF (if sr k = none then (se_S (va_up sb cn false) (fun i => (va_up cc (40 * j + n) cn) (40 * j + i)) (n + 1)).2 else (va_up sb cn false))))), ((r 5), .inl (cZ, 40, .inl (bF (va_up lo cn false)))), ((r 6), .inl (cI, 40, .inl (nF (va_up fr cn 3)))), ((r 7), .inl (cI, 40, .inl (oF (va_up an cn none)))), ((r 8), .inl (cZ, 40, .inl (bF (va_up ot cn false)))), ((r 12), .inl (cI, 104, .inl (s1_F (sb2 t) (s1_F (sb1 t) vs mn (t >>> (nI 1 &&& 31))) (mn + (sb1 t).toNat) (t >>> (nI 2 &&& 31))))), ((r 13), .inl (cI, 104, .inl (nF (s1_F (sb2 t) (s1_F (sb1 t) tg mn ((j + 1) % 3)) (mn + (sb1 t).toNat) ((j + 2) % 3))))), ((r 15), .inl (cI, 104, .inl (oF (s1_F (sb2 t) (s1_F (sb1 t) sr mn (some cn)) (mn + (sb1 t).toNat) (some cn))))), ((r 16), .inl (cI, 104, .inl (nF (s1_F (sb2 t) (s1_F (sb1 t) kn mn le) (mn + (sb1 t).toNat) le)))), ((r 14), .inl (cI, 104, .inl (nF (s1_F (sb2 t) (s1_F (sb1 t) su mn 0) (mn + (sb1 t).toNat) 0)))), ((r 19), .inl (cI, 120, .inl (nF (va_up cc (40 * j + n) cn)))), ((r 20), .inl (cI, 3, .inl (nF (va_up lg j (n + 1))))), ((r 21), .inl (cI, 3, .inl (nF ler)))] := by simp [h4]
          rw [hW8] at hP8 hD8
          have hP9 := hP8
          have hD9 := hD8
          exact W.vret hx hb hr (fun t ht hW => ⟨⟨(), rfl, trivial, by rw [ht]; exact hP9, va_K.moved hW.alike hK, hD9⟩, hS.F ht⟩) hS.2.2 dc_R_receive_217
        · have h4 : (sr k) = none := oI_nge (fun i q => by have := hs i q; omega) hc
          refine lv_aload_n hx hb dc_R_receive_211 rfl (lv_at hl 4 rfl) ?_
          refine lv_iload_n hx hb dc_R_receive_212 rfl (lv_at hl 3 rfl) ?_
          refine cl_i (wc := [zR r (cn + 1) (mn + (sb1 t).toNat + (sb2 t).toNat) mi nn, ((r 4), .inl (cZ, 40, .inl (bF (va_up sb cn false)))), ((r 19), .inl (cI, 120, .inl (nF (va_up cc (40 * j + n) cn)))), ((r 20), .inl (cI, 3, .inl (nF (va_up lg j (n + 1)))))]) (wr := [((r 1), .inl (cI, 40, .inl (oF (va_up bf cn bv)))), ((r 2), .inl (cI, 40, .inl (nF (va_up rc cn k)))), ((r 3), .inl (cI, 40, .inl (va_up sv cn t))), ((r 5), .inl (cZ, 40, .inl (bF (va_up lo cn false)))), ((r 6), .inl (cI, 40, .inl (nF (va_up fr cn 3)))), ((r 7), .inl (cI, 40, .inl (oF (va_up an cn none)))), ((r 8), .inl (cZ, 40, .inl (bF (va_up ot cn false)))), ((r 12), .inl (cI, 104, .inl (s1_F (sb2 t) (s1_F (sb1 t) vs mn (t >>> (nI 1 &&& 31))) (mn + (sb1 t).toNat) (t >>> (nI 2 &&& 31))))), ((r 13), .inl (cI, 104, .inl (nF (s1_F (sb2 t) (s1_F (sb1 t) tg mn ((j + 1) % 3)) (mn + (sb1 t).toNat) ((j + 2) % 3))))), ((r 15), .inl (cI, 104, .inl (oF (s1_F (sb2 t) (s1_F (sb1 t) sr mn (some cn)) (mn + (sb1 t).toNat) (some cn))))), ((r 16), .inl (cI, 104, .inl (nF (s1_F (sb2 t) (s1_F (sb1 t) kn mn le) (mn + (sb1 t).toNat) le)))), ((r 14), .inl (cI, 104, .inl (nF (s1_F (sb2 t) (s1_F (sb1 t) su mn 0) (mn + (sb1 t).toNat) 0)))), ((r 21), .inl (cI, 3, .inl (nF ler)))]) (w1 := [zR r (cn + 1) (mn + (sb1 t).toNat + (sb2 t).toNat) mi nn, ((r 4), .inl (cZ, 40, .inl (bF ((se_S (va_up sb cn false) (fun i => (va_up cc (40 * j + n) cn) (40 * j + i)) (n + 1)).2)))), ((r 19), .inl (cI, 120, .inl (nF (va_up cc (40 * j + n) cn)))), ((r 20), .inl (cI, 3, .inl (nF (va_up lg j (n + 1)))))]) hP hD hS hA [0, 4, 14, 15] [1, 2, 3, 5, 6, 7, 8, 9, 10, 11, 12, 13, 16] rfl rfl (by decide) (by decide) (va_runV (As := [.int (nI j)]) (rest := []) ⟨hx, hb, hml, hown, htb⟩ (oc_R_settle l dC dI cI cJ cZ cP _ r (cn + 1) (mn + (sb1 t).toNat + (sb2 t).toNat) mi nn (va_up sb cn false) (va_up cc (40 * j + n) cn) (va_up lg j (n + 1)) j (n + 1) (by first | assumption | omega) (va_up_self _ _ _) (by omega) (cc_push hcc hcn)) (cwV 1 htb (gw_V kw_490 kw_492 kp_20 kw_5 kw_493) rfl rfl rfl (by decide +kernel) ⟨Nat.le_of_ble_eq_true rfl, Nat.le_of_ble_eq_true rfl⟩) (pr_V hP hK hD (va_recv hK hP (ci := 4) (q0 := 0) rfl rfl) [0, 4, 14, 15] (by decide) rfl rfl) rfl rfl hl.1 rfl (lv_room (Nat.le_of_ble_eq_true rfl)) dc_R_receive_213 ⟨Nat.le_of_ble_eq_true rfl, Nat.le_of_ble_eq_true rfl⟩) (fun H locs hP hD hS => ?_)
          have hP : va_P (dC, dI) clsL [zR r (cn + 1) (mn + (sb1 t).toNat + (sb2 t).toNat) mi nn, ((r 1), .inl (cI, 40, .inl (oF (va_up bf cn bv)))), ((r 2), .inl (cI, 40, .inl (nF (va_up rc cn k)))), ((r 3), .inl (cI, 40, .inl (va_up sv cn t))), ((r 4), .inl (cZ, 40, .inl (bF ((se_S (va_up sb cn false) (fun i => (va_up cc (40 * j + n) cn) (40 * j + i)) (n + 1)).2)))), ((r 5), .inl (cZ, 40, .inl (bF (va_up lo cn false)))), ((r 6), .inl (cI, 40, .inl (nF (va_up fr cn 3)))), ((r 7), .inl (cI, 40, .inl (oF (va_up an cn none)))), ((r 8), .inl (cZ, 40, .inl (bF (va_up ot cn false)))), ((r 12), .inl (cI, 104, .inl (s1_F (sb2 t) (s1_F (sb1 t) vs mn (t >>> (nI 1 &&& 31))) (mn + (sb1 t).toNat) (t >>> (nI 2 &&& 31))))), ((r 13), .inl (cI, 104, .inl (nF (s1_F (sb2 t) (s1_F (sb1 t) tg mn ((j + 1) % 3)) (mn + (sb1 t).toNat) ((j + 2) % 3))))), ((r 15), .inl (cI, 104, .inl (oF (s1_F (sb2 t) (s1_F (sb1 t) sr mn (some cn)) (mn + (sb1 t).toNat) (some cn))))), ((r 16), .inl (cI, 104, .inl (nF (s1_F (sb2 t) (s1_F (sb1 t) kn mn le) (mn + (sb1 t).toNat) le)))), ((r 14), .inl (cI, 104, .inl (nF (s1_F (sb2 t) (s1_F (sb1 t) su mn 0) (mn + (sb1 t).toNat) 0)))), ((r 19), .inl (cI, 120, .inl (nF (va_up cc (40 * j + n) cn)))), ((r 20), .inl (cI, 3, .inl (nF (va_up lg j (n + 1))))), ((r 21), .inl (cI, 3, .inl (nF ler)))] H := hP.sub (ws' := [zR r (cn + 1) (mn + (sb1 t).toNat + (sb2 t).toNat) mi nn, ((r 1), .inl (cI, 40, .inl (oF (va_up bf cn bv)))), ((r 2), .inl (cI, 40, .inl (nF (va_up rc cn k)))), ((r 3), .inl (cI, 40, .inl (va_up sv cn t))), ((r 4), .inl (cZ, 40, .inl (bF ((se_S (va_up sb cn false) (fun i => (va_up cc (40 * j + n) cn) (40 * j + i)) (n + 1)).2)))), ((r 5), .inl (cZ, 40, .inl (bF (va_up lo cn false)))), ((r 6), .inl (cI, 40, .inl (nF (va_up fr cn 3)))), ((r 7), .inl (cI, 40, .inl (oF (va_up an cn none)))), ((r 8), .inl (cZ, 40, .inl (bF (va_up ot cn false)))), ((r 12), .inl (cI, 104, .inl (s1_F (sb2 t) (s1_F (sb1 t) vs mn (t >>> (nI 1 &&& 31))) (mn + (sb1 t).toNat) (t >>> (nI 2 &&& 31))))), ((r 13), .inl (cI, 104, .inl (nF (s1_F (sb2 t) (s1_F (sb1 t) tg mn ((j + 1) % 3)) (mn + (sb1 t).toNat) ((j + 2) % 3))))), ((r 15), .inl (cI, 104, .inl (oF (s1_F (sb2 t) (s1_F (sb1 t) sr mn (some cn)) (mn + (sb1 t).toNat) (some cn))))), ((r 16), .inl (cI, 104, .inl (nF (s1_F (sb2 t) (s1_F (sb1 t) kn mn le) (mn + (sb1 t).toNat) le)))), ((r 14), .inl (cI, 104, .inl (nF (s1_F (sb2 t) (s1_F (sb1 t) su mn 0) (mn + (sb1 t).toNat) 0)))), ((r 19), .inl (cI, 120, .inl (nF (va_up cc (40 * j + n) cn)))), ((r 20), .inl (cI, 3, .inl (nF (va_up lg j (n + 1))))), ((r 21), .inl (cI, 3, .inl (nF ler)))]) [13, 0, 1, 2, 14, 3, 4, 5, 6, 7, 8, 9, 10, 11, 15, 16, 12] rfl
          have hD : va_D A [zR r (cn + 1) (mn + (sb1 t).toNat + (sb2 t).toNat) mi nn, ((r 1), .inl (cI, 40, .inl (oF (va_up bf cn bv)))), ((r 2), .inl (cI, 40, .inl (nF (va_up rc cn k)))), ((r 3), .inl (cI, 40, .inl (va_up sv cn t))), ((r 4), .inl (cZ, 40, .inl (bF ((se_S (va_up sb cn false) (fun i => (va_up cc (40 * j + n) cn) (40 * j + i)) (n + 1)).2)))), ((r 5), .inl (cZ, 40, .inl (bF (va_up lo cn false)))), ((r 6), .inl (cI, 40, .inl (nF (va_up fr cn 3)))), ((r 7), .inl (cI, 40, .inl (oF (va_up an cn none)))), ((r 8), .inl (cZ, 40, .inl (bF (va_up ot cn false)))), ((r 12), .inl (cI, 104, .inl (s1_F (sb2 t) (s1_F (sb1 t) vs mn (t >>> (nI 1 &&& 31))) (mn + (sb1 t).toNat) (t >>> (nI 2 &&& 31))))), ((r 13), .inl (cI, 104, .inl (nF (s1_F (sb2 t) (s1_F (sb1 t) tg mn ((j + 1) % 3)) (mn + (sb1 t).toNat) ((j + 2) % 3))))), ((r 15), .inl (cI, 104, .inl (oF (s1_F (sb2 t) (s1_F (sb1 t) sr mn (some cn)) (mn + (sb1 t).toNat) (some cn))))), ((r 16), .inl (cI, 104, .inl (nF (s1_F (sb2 t) (s1_F (sb1 t) kn mn le) (mn + (sb1 t).toNat) le)))), ((r 14), .inl (cI, 104, .inl (nF (s1_F (sb2 t) (s1_F (sb1 t) su mn 0) (mn + (sb1 t).toNat) 0)))), ((r 19), .inl (cI, 120, .inl (nF (va_up cc (40 * j + n) cn)))), ((r 20), .inl (cI, 3, .inl (nF (va_up lg j (n + 1))))), ((r 21), .inl (cI, 3, .inl (nF ler)))] := hD.sub (ws' := [zR r (cn + 1) (mn + (sb1 t).toNat + (sb2 t).toNat) mi nn, ((r 1), .inl (cI, 40, .inl (oF (va_up bf cn bv)))), ((r 2), .inl (cI, 40, .inl (nF (va_up rc cn k)))), ((r 3), .inl (cI, 40, .inl (va_up sv cn t))), ((r 4), .inl (cZ, 40, .inl (bF ((se_S (va_up sb cn false) (fun i => (va_up cc (40 * j + n) cn) (40 * j + i)) (n + 1)).2)))), ((r 5), .inl (cZ, 40, .inl (bF (va_up lo cn false)))), ((r 6), .inl (cI, 40, .inl (nF (va_up fr cn 3)))), ((r 7), .inl (cI, 40, .inl (oF (va_up an cn none)))), ((r 8), .inl (cZ, 40, .inl (bF (va_up ot cn false)))), ((r 12), .inl (cI, 104, .inl (s1_F (sb2 t) (s1_F (sb1 t) vs mn (t >>> (nI 1 &&& 31))) (mn + (sb1 t).toNat) (t >>> (nI 2 &&& 31))))), ((r 13), .inl (cI, 104, .inl (nF (s1_F (sb2 t) (s1_F (sb1 t) tg mn ((j + 1) % 3)) (mn + (sb1 t).toNat) ((j + 2) % 3))))), ((r 15), .inl (cI, 104, .inl (oF (s1_F (sb2 t) (s1_F (sb1 t) sr mn (some cn)) (mn + (sb1 t).toNat) (some cn))))), ((r 16), .inl (cI, 104, .inl (nF (s1_F (sb2 t) (s1_F (sb1 t) kn mn le) (mn + (sb1 t).toNat) le)))), ((r 14), .inl (cI, 104, .inl (nF (s1_F (sb2 t) (s1_F (sb1 t) su mn 0) (mn + (sb1 t).toNat) 0)))), ((r 19), .inl (cI, 120, .inl (nF (va_up cc (40 * j + n) cn)))), ((r 20), .inl (cI, 3, .inl (nF (va_up lg j (n + 1))))), ((r 21), .inl (cI, 3, .inl (nF ler)))]) [13, 0, 1, 2, 14, 3, 4, 5, 6, 7, 8, 9, 10, 11, 15, 16, 12] (by decide) rfl
          refine lv_pop hx hb dc_R_receive_216 rfl ?_
          have hP8 := hP.sub (ws' := [zR r (cn + 1) (mn + (sb1 t).toNat + (sb2 t).toNat) mi nn, ((r 1), .inl (cI, 40, .inl (oF (va_up bf cn bv)))), ((r 2), .inl (cI, 40, .inl (nF (va_up rc cn k)))), ((r 3), .inl (cI, 40, .inl (va_up sv cn t))), ((r 4), .inl (cZ, 40, .inl (bF ((se_S (va_up sb cn false) (fun i => (va_up cc (40 * j + n) cn) (40 * j + i)) (n + 1)).2)))), ((r 5), .inl (cZ, 40, .inl (bF (va_up lo cn false)))), ((r 6), .inl (cI, 40, .inl (nF (va_up fr cn 3)))), ((r 7), .inl (cI, 40, .inl (oF (va_up an cn none)))), ((r 8), .inl (cZ, 40, .inl (bF (va_up ot cn false)))), ((r 12), .inl (cI, 104, .inl (s1_F (sb2 t) (s1_F (sb1 t) vs mn (t >>> (nI 1 &&& 31))) (mn + (sb1 t).toNat) (t >>> (nI 2 &&& 31))))), ((r 13), .inl (cI, 104, .inl (nF (s1_F (sb2 t) (s1_F (sb1 t) tg mn ((j + 1) % 3)) (mn + (sb1 t).toNat) ((j + 2) % 3))))), ((r 15), .inl (cI, 104, .inl (oF (s1_F (sb2 t) (s1_F (sb1 t) sr mn (some cn)) (mn + (sb1 t).toNat) (some cn))))), ((r 16), .inl (cI, 104, .inl (nF (s1_F (sb2 t) (s1_F (sb1 t) kn mn le) (mn + (sb1 t).toNat) le)))), ((r 14), .inl (cI, 104, .inl (nF (s1_F (sb2 t) (s1_F (sb1 t) su mn 0) (mn + (sb1 t).toNat) 0)))), ((r 19), .inl (cI, 120, .inl (nF (va_up cc (40 * j + n) cn)))), ((r 20), .inl (cI, 3, .inl (nF (va_up lg j (n + 1))))), ((r 21), .inl (cI, 3, .inl (nF ler)))]) [0, 1, 2, 3, 4, 5, 6, 7, 8, 9, 10, 11, 12, 13, 14, 15, 16] rfl
          have hD8 := hD.sub (ws' := [zR r (cn + 1) (mn + (sb1 t).toNat + (sb2 t).toNat) mi nn, ((r 1), .inl (cI, 40, .inl (oF (va_up bf cn bv)))), ((r 2), .inl (cI, 40, .inl (nF (va_up rc cn k)))), ((r 3), .inl (cI, 40, .inl (va_up sv cn t))), ((r 4), .inl (cZ, 40, .inl (bF ((se_S (va_up sb cn false) (fun i => (va_up cc (40 * j + n) cn) (40 * j + i)) (n + 1)).2)))), ((r 5), .inl (cZ, 40, .inl (bF (va_up lo cn false)))), ((r 6), .inl (cI, 40, .inl (nF (va_up fr cn 3)))), ((r 7), .inl (cI, 40, .inl (oF (va_up an cn none)))), ((r 8), .inl (cZ, 40, .inl (bF (va_up ot cn false)))), ((r 12), .inl (cI, 104, .inl (s1_F (sb2 t) (s1_F (sb1 t) vs mn (t >>> (nI 1 &&& 31))) (mn + (sb1 t).toNat) (t >>> (nI 2 &&& 31))))), ((r 13), .inl (cI, 104, .inl (nF (s1_F (sb2 t) (s1_F (sb1 t) tg mn ((j + 1) % 3)) (mn + (sb1 t).toNat) ((j + 2) % 3))))), ((r 15), .inl (cI, 104, .inl (oF (s1_F (sb2 t) (s1_F (sb1 t) sr mn (some cn)) (mn + (sb1 t).toNat) (some cn))))), ((r 16), .inl (cI, 104, .inl (nF (s1_F (sb2 t) (s1_F (sb1 t) kn mn le) (mn + (sb1 t).toNat) le)))), ((r 14), .inl (cI, 104, .inl (nF (s1_F (sb2 t) (s1_F (sb1 t) su mn 0) (mn + (sb1 t).toNat) 0)))), ((r 19), .inl (cI, 120, .inl (nF (va_up cc (40 * j + n) cn)))), ((r 20), .inl (cI, 3, .inl (nF (va_up lg j (n + 1))))), ((r 21), .inl (cI, 3, .inl (nF ler)))]) [0, 1, 2, 3, 4, 5, 6, 7, 8, 9, 10, 11, 12, 13, 14, 15, 16] (by decide) rfl
          have hW8 : ([zR r (cn + 1) (mn + (sb1 t).toNat + (sb2 t).toNat) mi nn, ((r 1), .inl (cI, 40, .inl (oF (va_up bf cn bv)))), ((r 2), .inl (cI, 40, .inl (nF (va_up rc cn k)))), ((r 3), .inl (cI, 40, .inl (va_up sv cn t))), ((r 4), .inl (cZ, 40, .inl (bF ((se_S (va_up sb cn false) (fun i => (va_up cc (40 * j + n) cn) (40 * j + i)) (n + 1)).2)))), ((r 5), .inl (cZ, 40, .inl (bF (va_up lo cn false)))), ((r 6), .inl (cI, 40, .inl (nF (va_up fr cn 3)))), ((r 7), .inl (cI, 40, .inl (oF (va_up an cn none)))), ((r 8), .inl (cZ, 40, .inl (bF (va_up ot cn false)))), ((r 12), .inl (cI, 104, .inl (s1_F (sb2 t) (s1_F (sb1 t) vs mn (t >>> (nI 1 &&& 31))) (mn + (sb1 t).toNat) (t >>> (nI 2 &&& 31))))), ((r 13), .inl (cI, 104, .inl (nF (s1_F (sb2 t) (s1_F (sb1 t) tg mn ((j + 1) % 3)) (mn + (sb1 t).toNat) ((j + 2) % 3))))), ((r 15), .inl (cI, 104, .inl (oF (s1_F (sb2 t) (s1_F (sb1 t) sr mn (some cn)) (mn + (sb1 t).toNat) (some cn))))), ((r 16), .inl (cI, 104, .inl (nF (s1_F (sb2 t) (s1_F (sb1 t) kn mn le) (mn + (sb1 t).toNat) le)))), ((r 14), .inl (cI, 104, .inl (nF (s1_F (sb2 t) (s1_F (sb1 t) su mn 0) (mn + (sb1 t).toNat) 0)))), ((r 19), .inl (cI, 120, .inl (nF (va_up cc (40 * j + n) cn)))), ((r 20), .inl (cI, 3, .inl (nF (va_up lg j (n + 1))))), ((r 21), .inl (cI, 3, .inl (nF ler)))] : va_W) = [zR r (cn + 1) (mn + (sb1 t).toNat + (sb2 t).toNat) mi nn, ((r 1), .inl (cI, 40, .inl (oF (va_up bf cn bv)))), ((r 2), .inl (cI, 40, .inl (nF (va_up rc cn k)))), ((r 3), .inl (cI, 40, .inl (va_up sv cn t))), ((r 4), .inl (cZ, 40, .inl (bF (if sr k = none then (se_S (va_up sb cn false) (fun i => (va_up cc (40 * j + n) cn) (40 * j + i)) (n + 1)).2 else (va_up sb cn false))))), ((r 5), .inl (cZ, 40, .inl (bF (va_up lo cn false)))), ((r 6), .inl (cI, 40, .inl (nF (va_up fr cn 3)))), ((r 7), .inl (cI, 40, .inl (oF (va_up an cn none)))), ((r 8), .inl (cZ, 40, .inl (bF (va_up ot cn false)))), ((r 12), .inl (cI, 104, .inl (s1_F (sb2 t) (s1_F (sb1 t) vs mn (t >>> (nI 1 &&& 31))) (mn + (sb1 t).toNat) (t >>> (nI 2 &&& 31))))), ((r 13), .inl (cI, 104, .inl (nF (s1_F (sb2 t) (s1_F (sb1 t) tg mn ((j + 1) % 3)) (mn + (sb1 t).toNat) ((j + 2) % 3))))), ((r 15), .inl (cI, 104, .inl (oF (s1_F (sb2 t) (s1_F (sb1 t) sr mn (some cn)) (mn + (sb1 t).toNat) (some cn))))), ((r 16), .inl (cI, 104, .inl (nF (s1_F (sb2 t) (s1_F (sb1 t) kn mn le) (mn + (sb1 t).toNat) le)))), ((r 14), .inl (cI, 104, .inl (nF (s1_F (sb2 t) (s1_F (sb1 t) su mn 0) (mn + (sb1 t).toNat) 0)))), ((r 19), .inl (cI, 120, .inl (nF (va_up cc (40 * j + n) cn)))), ((r 20), .inl (cI, 3, .inl (nF (va_up lg j (n + 1))))), ((r 21), .inl (cI, 3, .inl (nF ler)))] := by simp [h4]
          rw [hW8] at hP8 hD8
          have hP9 := hP8
          have hD9 := hD8
          exact W.vret hx hb hr (fun t ht hW => ⟨⟨(), rfl, trivial, by rw [ht]; exact hP9, va_K.moved hW.alike hK, hD9⟩, hS.F ht⟩) hS.2.2 dc_R_receive_217
      · intro hct
        refine lv_iload hx hb dc_R_receive_174 (lv_at hl 0 rfl) ?_
        refine lv_iconst (v := nI 2) hx hb dc_R_receive_176 (by decide) ?_
        refine lv_iand hx hb dc_R_receive_177 ?_
        refine lv_if_eq (tgt := 202) hx hb dc_R_receive_178 (by decide) (fun hc => ?_) (fun hc => ?_)
        · have h3 := hc
          have hW8 : ([zR r (cn + 1) (mn + (sb1 t).toNat) mi nn, ((r 1), .inl (cI, 40, .inl (oF (va_up bf cn bv)))), ((r 2), .inl (cI, 40, .inl (nF (va_up rc cn k)))), ((r 3), .inl (cI, 40, .inl (va_up sv cn t))), ((r 4), .inl (cZ, 40, .inl (bF (va_up sb cn false)))), ((r 5), .inl (cZ, 40, .inl (bF (va_up lo cn false)))), ((r 6), .inl (cI, 40, .inl (nF (va_up fr cn 3)))), ((r 7), .inl (cI, 40, .inl (oF (va_up an cn none)))), ((r 8), .inl (cZ, 40, .inl (bF (va_up ot cn false)))), ((r 12), .inl (cI, 104, .inl (s1_F (sb1 t) vs mn (t >>> (nI 1 &&& 31))))), ((r 13), .inl (cI, 104, .inl (nF (s1_F (sb1 t) tg mn ((j + 1) % 3))))), ((r 15), .inl (cI, 104, .inl (oF (s1_F (sb1 t) sr mn (some cn))))), ((r 16), .inl (cI, 104, .inl (nF (s1_F (sb1 t) kn mn le)))), ((r 14), .inl (cI, 104, .inl (nF (s1_F (sb1 t) su mn 0)))), ((r 19), .inl (cI, 120, .inl (nF (va_up cc (40 * j + n) cn)))), ((r 20), .inl (cI, 3, .inl (nF (va_up lg j (n + 1))))), ((r 21), .inl (cI, 3, .inl (nF ler)))] : va_W) = [zR r (cn + 1) (mn + (sb1 t).toNat + (sb2 t).toNat) mi nn, ((r 1), .inl (cI, 40, .inl (oF (va_up bf cn bv)))), ((r 2), .inl (cI, 40, .inl (nF (va_up rc cn k)))), ((r 3), .inl (cI, 40, .inl (va_up sv cn t))), ((r 4), .inl (cZ, 40, .inl (bF (va_up sb cn false)))), ((r 5), .inl (cZ, 40, .inl (bF (va_up lo cn false)))), ((r 6), .inl (cI, 40, .inl (nF (va_up fr cn 3)))), ((r 7), .inl (cI, 40, .inl (oF (va_up an cn none)))), ((r 8), .inl (cZ, 40, .inl (bF (va_up ot cn false)))), ((r 12), .inl (cI, 104, .inl (s1_F (sb2 t) (s1_F (sb1 t) vs mn (t >>> (nI 1 &&& 31))) (mn + (sb1 t).toNat) (t >>> (nI 2 &&& 31))))), ((r 13), .inl (cI, 104, .inl (nF (s1_F (sb2 t) (s1_F (sb1 t) tg mn ((j + 1) % 3)) (mn + (sb1 t).toNat) ((j + 2) % 3))))), ((r 15), .inl (cI, 104, .inl (oF (s1_F (sb2 t) (s1_F (sb1 t) sr mn (some cn)) (mn + (sb1 t).toNat) (some cn))))), ((r 16), .inl (cI, 104, .inl (nF (s1_F (sb2 t) (s1_F (sb1 t) kn mn le) (mn + (sb1 t).toNat) le)))), ((r 14), .inl (cI, 104, .inl (nF (s1_F (sb2 t) (s1_F (sb1 t) su mn 0) (mn + (sb1 t).toNat) 0)))), ((r 19), .inl (cI, 120, .inl (nF (va_up cc (40 * j + n) cn)))), ((r 20), .inl (cI, 3, .inl (nF (va_up lg j (n + 1))))), ((r 21), .inl (cI, 3, .inl (nF ler)))] := by simp [s1_F, sb2, h3]
          rw [hW8] at hP hD
          exact hct _ _ _ ⟨hP, hD, hS, lv_sub hl [0, 1, 2, 3, 4] rfl⟩
        · have h3 := hc
          refine lv_aload_n hx hb dc_R_receive_181 rfl (lv_at hl 4 rfl) ?_
          refine lv_iload_n hx hb dc_R_receive_182 rfl (lv_at hl 3 rfl) ?_
          refine lv_iconst (v := nI 2) hx hb dc_R_receive_183 (by decide) ?_
          refine lv_iadd hx hb dc_R_receive_184 ?_
          refine tp_i (y := nI (j + 2)) (nI_add _ _) ?_
          refine lv_iconst (v := nI 3) hx hb dc_R_receive_185 (by decide) ?_
          refine lv_irem hx hb dc_R_receive_186 (by decide) ?_
          refine tp_i (y := nI ((j + 2) % 3)) (pk_rem (by omega) (by omega) (by omega)) ?_
          refine lv_iload hx hb dc_R_receive_187 (lv_at hl 0 rfl) ?_
          refine lv_iconst (v := nI 2) hx hb dc_R_receive_189 (by decide) ?_
          refine lv_ishr hx hb dc_R_receive_190 ?_
          refine lv_iload_n hx hb dc_R_receive_191 rfl (lv_at hl 1 rfl) ?_
          refine tp_i (y := oI (some cn)) (rfl) ?_
          refine lv_aload_n hx hb dc_R_receive_192 rfl (lv_at hl 4 rfl) ?_
          refine va_get (D := (dC, dI)) (ci := 4) (v := .ref (r 21)) (C := cn_R) (T := ft_R) (N := 27) hx hb htb ki_R hown hK hP 0 rfl rfl 21 (by decide) (htb _ kw_391) (fun _ h9 => h9) rfl dc_R_receive_193 ?_
          refine lv_iload_n hx hb dc_R_receive_196 rfl (lv_at hl 3 rfl) ?_
          refine wa_nld (k := j) hx hb hK hP 16 0 rfl rfl (by omega) (by omega) dc_R_receive_197 ?_
          refine tp_i (y := nI le) (by rw [hle]) ?_
          refine cl_i (wc := [zR r (cn + 1) (mn + (sb1 t).toNat) mi nn, ((r 12), .inl (cI, 104, .inl (s1_F (sb1 t) vs mn (t >>> (nI 1 &&& 31))))), ((r 13), .inl (cI, 104, .inl (nF (s1_F (sb1 t) tg mn ((j + 1) % 3))))), ((r 15), .inl (cI, 104, .inl (oF (s1_F (sb1 t) sr mn (some cn))))), ((r 16), .inl (cI, 104, .inl (nF (s1_F (sb1 t) kn mn le)))), ((r 14), .inl (cI, 104, .inl (nF (s1_F (sb1 t) su mn 0))))]) (wr := [((r 1), .inl (cI, 40, .inl (oF (va_up bf cn bv)))), ((r 2), .inl (cI, 40, .inl (nF (va_up rc cn k)))), ((r 3), .inl (cI, 40, .inl (va_up sv cn t))), ((r 4), .inl (cZ, 40, .inl (bF (va_up sb cn false)))), ((r 5), .inl (cZ, 40, .inl (bF (va_up lo cn false)))), ((r 6), .inl (cI, 40, .inl (nF (va_up fr cn 3)))), ((r 7), .inl (cI, 40, .inl (oF (va_up an cn none)))), ((r 8), .inl (cZ, 40, .inl (bF (va_up ot cn false)))), ((r 19), .inl (cI, 120, .inl (nF (va_up cc (40 * j + n) cn)))), ((r 20), .inl (cI, 3, .inl (nF (va_up lg j (n + 1))))), ((r 21), .inl (cI, 3, .inl (nF ler)))]) (w1 := [zR r (cn + 1) ((mn + (sb1 t).toNat) + 1) mi nn, ((r 12), .inl (cI, 104, .inl (va_up (s1_F (sb1 t) vs mn (t >>> (nI 1 &&& 31))) (mn + (sb1 t).toNat) (t >>> ((nI 2) &&& 31))))), ((r 13), .inl (cI, 104, .inl (nF (va_up (s1_F (sb1 t) tg mn ((j + 1) % 3)) (mn + (sb1 t).toNat) ((j + 2) % 3))))), ((r 15), .inl (cI, 104, .inl (oF (va_up (s1_F (sb1 t) sr mn (some cn)) (mn + (sb1 t).toNat) (some cn))))), ((r 16), .inl (cI, 104, .inl (nF (va_up (s1_F (sb1 t) kn mn le) (mn + (sb1 t).toNat) le)))), ((r 14), .inl (cI, 104, .inl (nF (va_up (s1_F (sb1 t) su mn 0) (mn + (sb1 t).toNat) 0))))]) hP hD hS hA [0, 9, 10, 11, 12, 13] [1, 2, 3, 4, 5, 6, 7, 8, 14, 15, 16] rfl rfl (by decide) (by decide) (va_runV (As := [.int (nI ((j + 2) % 3)), .int (t >>> ((nI 2) &&& 31)), .int (oI (some cn)), .int (nI le)]) (rest := []) ⟨hx, hb, hml, hown, htb⟩ (oc_R_send l dC dI cI cJ cZ cP _ r (cn + 1) (mn + (sb1 t).toNat) mi nn (s1_F (sb1 t) vs mn (t >>> (nI 1 &&& 31))) (s1_F (sb1 t) tg mn ((j + 1) % 3)) (s1_F (sb1 t) sr mn (some cn)) (s1_F (sb1 t) kn mn le) (s1_F (sb1 t) su mn 0) ((j + 2) % 3) (t >>> ((nI 2) &&& 31)) (some cn) le (by first | assumption | omega)) (cwV 4 htb (gw_V kw_462 kw_464 kp_14 kw_5 kw_465) rfl rfl rfl (by decide +kernel) ⟨Nat.le_of_ble_eq_true rfl, Nat.le_of_ble_eq_true rfl⟩) (pr_V hP hK hD (va_recv hK hP (ci := 4) (q0 := 0) rfl rfl) [0, 9, 10, 11, 12, 13] (by decide) rfl rfl) rfl rfl hl.1 rfl (lv_room (Nat.le_of_ble_eq_true rfl)) dc_R_receive_198 ⟨Nat.le_of_ble_eq_true rfl, Nat.le_of_ble_eq_true rfl⟩) (fun H locs hP hD hS => ?_)
          have hP : va_P (dC, dI) clsL [zR r (cn + 1) ((mn + (sb1 t).toNat) + 1) mi nn, ((r 1), .inl (cI, 40, .inl (oF (va_up bf cn bv)))), ((r 2), .inl (cI, 40, .inl (nF (va_up rc cn k)))), ((r 3), .inl (cI, 40, .inl (va_up sv cn t))), ((r 4), .inl (cZ, 40, .inl (bF (va_up sb cn false)))), ((r 5), .inl (cZ, 40, .inl (bF (va_up lo cn false)))), ((r 6), .inl (cI, 40, .inl (nF (va_up fr cn 3)))), ((r 7), .inl (cI, 40, .inl (oF (va_up an cn none)))), ((r 8), .inl (cZ, 40, .inl (bF (va_up ot cn false)))), ((r 12), .inl (cI, 104, .inl (va_up (s1_F (sb1 t) vs mn (t >>> (nI 1 &&& 31))) (mn + (sb1 t).toNat) (t >>> ((nI 2) &&& 31))))), ((r 13), .inl (cI, 104, .inl (nF (va_up (s1_F (sb1 t) tg mn ((j + 1) % 3)) (mn + (sb1 t).toNat) ((j + 2) % 3))))), ((r 15), .inl (cI, 104, .inl (oF (va_up (s1_F (sb1 t) sr mn (some cn)) (mn + (sb1 t).toNat) (some cn))))), ((r 16), .inl (cI, 104, .inl (nF (va_up (s1_F (sb1 t) kn mn le) (mn + (sb1 t).toNat) le)))), ((r 14), .inl (cI, 104, .inl (nF (va_up (s1_F (sb1 t) su mn 0) (mn + (sb1 t).toNat) 0)))), ((r 19), .inl (cI, 120, .inl (nF (va_up cc (40 * j + n) cn)))), ((r 20), .inl (cI, 3, .inl (nF (va_up lg j (n + 1))))), ((r 21), .inl (cI, 3, .inl (nF ler)))] H := hP.sub (ws' := [zR r (cn + 1) ((mn + (sb1 t).toNat) + 1) mi nn, ((r 1), .inl (cI, 40, .inl (oF (va_up bf cn bv)))), ((r 2), .inl (cI, 40, .inl (nF (va_up rc cn k)))), ((r 3), .inl (cI, 40, .inl (va_up sv cn t))), ((r 4), .inl (cZ, 40, .inl (bF (va_up sb cn false)))), ((r 5), .inl (cZ, 40, .inl (bF (va_up lo cn false)))), ((r 6), .inl (cI, 40, .inl (nF (va_up fr cn 3)))), ((r 7), .inl (cI, 40, .inl (oF (va_up an cn none)))), ((r 8), .inl (cZ, 40, .inl (bF (va_up ot cn false)))), ((r 12), .inl (cI, 104, .inl (va_up (s1_F (sb1 t) vs mn (t >>> (nI 1 &&& 31))) (mn + (sb1 t).toNat) (t >>> ((nI 2) &&& 31))))), ((r 13), .inl (cI, 104, .inl (nF (va_up (s1_F (sb1 t) tg mn ((j + 1) % 3)) (mn + (sb1 t).toNat) ((j + 2) % 3))))), ((r 15), .inl (cI, 104, .inl (oF (va_up (s1_F (sb1 t) sr mn (some cn)) (mn + (sb1 t).toNat) (some cn))))), ((r 16), .inl (cI, 104, .inl (nF (va_up (s1_F (sb1 t) kn mn le) (mn + (sb1 t).toNat) le)))), ((r 14), .inl (cI, 104, .inl (nF (va_up (s1_F (sb1 t) su mn 0) (mn + (sb1 t).toNat) 0)))), ((r 19), .inl (cI, 120, .inl (nF (va_up cc (40 * j + n) cn)))), ((r 20), .inl (cI, 3, .inl (nF (va_up lg j (n + 1))))), ((r 21), .inl (cI, 3, .inl (nF ler)))]) [11, 0, 1, 2, 3, 4, 5, 6, 7, 12, 13, 14, 15, 16, 8, 9, 10] rfl
          have hD : va_D A [zR r (cn + 1) ((mn + (sb1 t).toNat) + 1) mi nn, ((r 1), .inl (cI, 40, .inl (oF (va_up bf cn bv)))), ((r 2), .inl (cI, 40, .inl (nF (va_up rc cn k)))), ((r 3), .inl (cI, 40, .inl (va_up sv cn t))), ((r 4), .inl (cZ, 40, .inl (bF (va_up sb cn false)))), ((r 5), .inl (cZ, 40, .inl (bF (va_up lo cn false)))), ((r 6), .inl (cI, 40, .inl (nF (va_up fr cn 3)))), ((r 7), .inl (cI, 40, .inl (oF (va_up an cn none)))), ((r 8), .inl (cZ, 40, .inl (bF (va_up ot cn false)))), ((r 12), .inl (cI, 104, .inl (va_up (s1_F (sb1 t) vs mn (t >>> (nI 1 &&& 31))) (mn + (sb1 t).toNat) (t >>> ((nI 2) &&& 31))))), ((r 13), .inl (cI, 104, .inl (nF (va_up (s1_F (sb1 t) tg mn ((j + 1) % 3)) (mn + (sb1 t).toNat) ((j + 2) % 3))))), ((r 15), .inl (cI, 104, .inl (oF (va_up (s1_F (sb1 t) sr mn (some cn)) (mn + (sb1 t).toNat) (some cn))))), ((r 16), .inl (cI, 104, .inl (nF (va_up (s1_F (sb1 t) kn mn le) (mn + (sb1 t).toNat) le)))), ((r 14), .inl (cI, 104, .inl (nF (va_up (s1_F (sb1 t) su mn 0) (mn + (sb1 t).toNat) 0)))), ((r 19), .inl (cI, 120, .inl (nF (va_up cc (40 * j + n) cn)))), ((r 20), .inl (cI, 3, .inl (nF (va_up lg j (n + 1))))), ((r 21), .inl (cI, 3, .inl (nF ler)))] := hD.sub (ws' := [zR r (cn + 1) ((mn + (sb1 t).toNat) + 1) mi nn, ((r 1), .inl (cI, 40, .inl (oF (va_up bf cn bv)))), ((r 2), .inl (cI, 40, .inl (nF (va_up rc cn k)))), ((r 3), .inl (cI, 40, .inl (va_up sv cn t))), ((r 4), .inl (cZ, 40, .inl (bF (va_up sb cn false)))), ((r 5), .inl (cZ, 40, .inl (bF (va_up lo cn false)))), ((r 6), .inl (cI, 40, .inl (nF (va_up fr cn 3)))), ((r 7), .inl (cI, 40, .inl (oF (va_up an cn none)))), ((r 8), .inl (cZ, 40, .inl (bF (va_up ot cn false)))), ((r 12), .inl (cI, 104, .inl (va_up (s1_F (sb1 t) vs mn (t >>> (nI 1 &&& 31))) (mn + (sb1 t).toNat) (t >>> ((nI 2) &&& 31))))), ((r 13), .inl (cI, 104, .inl (nF (va_up (s1_F (sb1 t) tg mn ((j + 1) % 3)) (mn + (sb1 t).toNat) ((j + 2) % 3))))), ((r 15), .inl (cI, 104, .inl (oF (va_up (s1_F (sb1 t) sr mn (some cn)) (mn + (sb1 t).toNat) (some cn))))), ((r 16), .inl (cI, 104, .inl (nF (va_up (s1_F (sb1 t) kn mn le) (mn + (sb1 t).toNat) le)))), ((r 14), .inl (cI, 104, .inl (nF (va_up (s1_F (sb1 t) su mn 0) (mn + (sb1 t).toNat) 0)))), ((r 19), .inl (cI, 120, .inl (nF (va_up cc (40 * j + n) cn)))), ((r 20), .inl (cI, 3, .inl (nF (va_up lg j (n + 1))))), ((r 21), .inl (cI, 3, .inl (nF ler)))]) [11, 0, 1, 2, 3, 4, 5, 6, 7, 12, 13, 14, 15, 16, 8, 9, 10] (by decide) rfl
          refine lv_pop hx hb dc_R_receive_201 rfl ?_
          have hW8 : ([zR r (cn + 1) ((mn + (sb1 t).toNat) + 1) mi nn, ((r 1), .inl (cI, 40, .inl (oF (va_up bf cn bv)))), ((r 2), .inl (cI, 40, .inl (nF (va_up rc cn k)))), ((r 3), .inl (cI, 40, .inl (va_up sv cn t))), ((r 4), .inl (cZ, 40, .inl (bF (va_up sb cn false)))), ((r 5), .inl (cZ, 40, .inl (bF (va_up lo cn false)))), ((r 6), .inl (cI, 40, .inl (nF (va_up fr cn 3)))), ((r 7), .inl (cI, 40, .inl (oF (va_up an cn none)))), ((r 8), .inl (cZ, 40, .inl (bF (va_up ot cn false)))), ((r 12), .inl (cI, 104, .inl (va_up (s1_F (sb1 t) vs mn (t >>> (nI 1 &&& 31))) (mn + (sb1 t).toNat) (t >>> ((nI 2) &&& 31))))), ((r 13), .inl (cI, 104, .inl (nF (va_up (s1_F (sb1 t) tg mn ((j + 1) % 3)) (mn + (sb1 t).toNat) ((j + 2) % 3))))), ((r 15), .inl (cI, 104, .inl (oF (va_up (s1_F (sb1 t) sr mn (some cn)) (mn + (sb1 t).toNat) (some cn))))), ((r 16), .inl (cI, 104, .inl (nF (va_up (s1_F (sb1 t) kn mn le) (mn + (sb1 t).toNat) le)))), ((r 14), .inl (cI, 104, .inl (nF (va_up (s1_F (sb1 t) su mn 0) (mn + (sb1 t).toNat) 0)))), ((r 19), .inl (cI, 120, .inl (nF (va_up cc (40 * j + n) cn)))), ((r 20), .inl (cI, 3, .inl (nF (va_up lg j (n + 1))))), ((r 21), .inl (cI, 3, .inl (nF ler)))] : va_W) = [zR r (cn + 1) (mn + (sb1 t).toNat + (sb2 t).toNat) mi nn, ((r 1), .inl (cI, 40, .inl (oF (va_up bf cn bv)))), ((r 2), .inl (cI, 40, .inl (nF (va_up rc cn k)))), ((r 3), .inl (cI, 40, .inl (va_up sv cn t))), ((r 4), .inl (cZ, 40, .inl (bF (va_up sb cn false)))), ((r 5), .inl (cZ, 40, .inl (bF (va_up lo cn false)))), ((r 6), .inl (cI, 40, .inl (nF (va_up fr cn 3)))), ((r 7), .inl (cI, 40, .inl (oF (va_up an cn none)))), ((r 8), .inl (cZ, 40, .inl (bF (va_up ot cn false)))), ((r 12), .inl (cI, 104, .inl (s1_F (sb2 t) (s1_F (sb1 t) vs mn (t >>> (nI 1 &&& 31))) (mn + (sb1 t).toNat) (t >>> (nI 2 &&& 31))))), ((r 13), .inl (cI, 104, .inl (nF (s1_F (sb2 t) (s1_F (sb1 t) tg mn ((j + 1) % 3)) (mn + (sb1 t).toNat) ((j + 2) % 3))))), ((r 15), .inl (cI, 104, .inl (oF (s1_F (sb2 t) (s1_F (sb1 t) sr mn (some cn)) (mn + (sb1 t).toNat) (some cn))))), ((r 16), .inl (cI, 104, .inl (nF (s1_F (sb2 t) (s1_F (sb1 t) kn mn le) (mn + (sb1 t).toNat) le)))), ((r 14), .inl (cI, 104, .inl (nF (s1_F (sb2 t) (s1_F (sb1 t) su mn 0) (mn + (sb1 t).toNat) 0)))), ((r 19), .inl (cI, 120, .inl (nF (va_up cc (40 * j + n) cn)))), ((r 20), .inl (cI, 3, .inl (nF (va_up lg j (n + 1))))), ((r 21), .inl (cI, 3, .inl (nF ler)))] := by simp [s1_F, sb2, h3]
          rw [hW8] at hP hD
          exact hct _ _ _ ⟨hP, hD, hS, lv_sub hl [0, 1, 2, 3, 4] rfl⟩
    · intro hct
      refine lv_iload hx hb dc_R_receive_146 (lv_at hl 0 rfl) ?_
      refine lv_iconst (v := nI 1) hx hb dc_R_receive_148 (by decide) ?_
      refine lv_iand hx hb dc_R_receive_149 ?_
      refine lv_if_eq (tgt := 174) hx hb dc_R_receive_150 (by decide) (fun hc => ?_) (fun hc => ?_)
      · have h2 := hc
        have hW8 : ([zR r (cn + 1) mn mi nn, ((r 1), .inl (cI, 40, .inl (oF (va_up bf cn bv)))), ((r 2), .inl (cI, 40, .inl (nF (va_up rc cn k)))), ((r 3), .inl (cI, 40, .inl (va_up sv cn t))), ((r 4), .inl (cZ, 40, .inl (bF (va_up sb cn false)))), ((r 5), .inl (cZ, 40, .inl (bF (va_up lo cn false)))), ((r 6), .inl (cI, 40, .inl (nF (va_up fr cn 3)))), ((r 7), .inl (cI, 40, .inl (oF (va_up an cn none)))), ((r 8), .inl (cZ, 40, .inl (bF (va_up ot cn false)))), ((r 12), .inl (cI, 104, .inl vs)), ((r 13), .inl (cI, 104, .inl (nF tg))), ((r 15), .inl (cI, 104, .inl (oF sr))), ((r 16), .inl (cI, 104, .inl (nF kn))), ((r 14), .inl (cI, 104, .inl (nF su))), ((r 19), .inl (cI, 120, .inl (nF (va_up cc (40 * j + n) cn)))), ((r 20), .inl (cI, 3, .inl (nF (va_up lg j (n + 1))))), ((r 21), .inl (cI, 3, .inl (nF ler)))] : va_W) = [zR r (cn + 1) (mn + (sb1 t).toNat) mi nn, ((r 1), .inl (cI, 40, .inl (oF (va_up bf cn bv)))), ((r 2), .inl (cI, 40, .inl (nF (va_up rc cn k)))), ((r 3), .inl (cI, 40, .inl (va_up sv cn t))), ((r 4), .inl (cZ, 40, .inl (bF (va_up sb cn false)))), ((r 5), .inl (cZ, 40, .inl (bF (va_up lo cn false)))), ((r 6), .inl (cI, 40, .inl (nF (va_up fr cn 3)))), ((r 7), .inl (cI, 40, .inl (oF (va_up an cn none)))), ((r 8), .inl (cZ, 40, .inl (bF (va_up ot cn false)))), ((r 12), .inl (cI, 104, .inl (s1_F (sb1 t) vs mn (t >>> (nI 1 &&& 31))))), ((r 13), .inl (cI, 104, .inl (nF (s1_F (sb1 t) tg mn ((j + 1) % 3))))), ((r 15), .inl (cI, 104, .inl (oF (s1_F (sb1 t) sr mn (some cn))))), ((r 16), .inl (cI, 104, .inl (nF (s1_F (sb1 t) kn mn le)))), ((r 14), .inl (cI, 104, .inl (nF (s1_F (sb1 t) su mn 0)))), ((r 19), .inl (cI, 120, .inl (nF (va_up cc (40 * j + n) cn)))), ((r 20), .inl (cI, 3, .inl (nF (va_up lg j (n + 1))))), ((r 21), .inl (cI, 3, .inl (nF ler)))] := by simp [s1_F, sb1, h2]
        rw [hW8] at hP hD
        exact hct _ _ _ ⟨hP, hD, hS, lv_sub hl [0, 1, 2, 3, 4] rfl⟩
      · have h2 := hc
        refine lv_aload_n hx hb dc_R_receive_153 rfl (lv_at hl 4 rfl) ?_
        refine lv_iload_n hx hb dc_R_receive_154 rfl (lv_at hl 3 rfl) ?_
        refine lv_iconst (v := nI 1) hx hb dc_R_receive_155 (by decide) ?_
        refine lv_iadd hx hb dc_R_receive_156 ?_
        refine tp_i (y := nI (j + 1)) (nI_add _ _) ?_
        refine lv_iconst (v := nI 3) hx hb dc_R_receive_157 (by decide) ?_
        refine lv_irem hx hb dc_R_receive_158 (by decide) ?_
        refine tp_i (y := nI ((j + 1) % 3)) (pk_rem (by omega) (by omega) (by omega)) ?_
        refine lv_iload hx hb dc_R_receive_159 (lv_at hl 0 rfl) ?_
        refine lv_iconst (v := nI 1) hx hb dc_R_receive_161 (by decide) ?_
        refine lv_ishr hx hb dc_R_receive_162 ?_
        refine lv_iload_n hx hb dc_R_receive_163 rfl (lv_at hl 1 rfl) ?_
        refine tp_i (y := oI (some cn)) (rfl) ?_
        refine lv_aload_n hx hb dc_R_receive_164 rfl (lv_at hl 4 rfl) ?_
        refine va_get (D := (dC, dI)) (ci := 4) (v := .ref (r 21)) (C := cn_R) (T := ft_R) (N := 27) hx hb htb ki_R hown hK hP 0 rfl rfl 21 (by decide) (htb _ kw_391) (fun _ h9 => h9) rfl dc_R_receive_165 ?_
        refine lv_iload_n hx hb dc_R_receive_168 rfl (lv_at hl 3 rfl) ?_
        refine wa_nld (k := j) hx hb hK hP 16 0 rfl rfl (by omega) (by omega) dc_R_receive_169 ?_
        refine tp_i (y := nI le) (by rw [hle]) ?_
        refine cl_i (wc := [zR r (cn + 1) mn mi nn, ((r 12), .inl (cI, 104, .inl vs)), ((r 13), .inl (cI, 104, .inl (nF tg))), ((r 15), .inl (cI, 104, .inl (oF sr))), ((r 16), .inl (cI, 104, .inl (nF kn))), ((r 14), .inl (cI, 104, .inl (nF su)))]) (wr := [((r 1), .inl (cI, 40, .inl (oF (va_up bf cn bv)))), ((r 2), .inl (cI, 40, .inl (nF (va_up rc cn k)))), ((r 3), .inl (cI, 40, .inl (va_up sv cn t))), ((r 4), .inl (cZ, 40, .inl (bF (va_up sb cn false)))), ((r 5), .inl (cZ, 40, .inl (bF (va_up lo cn false)))), ((r 6), .inl (cI, 40, .inl (nF (va_up fr cn 3)))), ((r 7), .inl (cI, 40, .inl (oF (va_up an cn none)))), ((r 8), .inl (cZ, 40, .inl (bF (va_up ot cn false)))), ((r 19), .inl (cI, 120, .inl (nF (va_up cc (40 * j + n) cn)))), ((r 20), .inl (cI, 3, .inl (nF (va_up lg j (n + 1))))), ((r 21), .inl (cI, 3, .inl (nF ler)))]) (w1 := [zR r (cn + 1) (mn + 1) mi nn, ((r 12), .inl (cI, 104, .inl (va_up vs mn (t >>> ((nI 1) &&& 31))))), ((r 13), .inl (cI, 104, .inl (nF (va_up tg mn ((j + 1) % 3))))), ((r 15), .inl (cI, 104, .inl (oF (va_up sr mn (some cn))))), ((r 16), .inl (cI, 104, .inl (nF (va_up kn mn le)))), ((r 14), .inl (cI, 104, .inl (nF (va_up su mn 0))))]) hP hD hS hA [0, 9, 10, 11, 12, 13] [1, 2, 3, 4, 5, 6, 7, 8, 14, 15, 16] rfl rfl (by decide) (by decide) (va_runV (As := [.int (nI ((j + 1) % 3)), .int (t >>> ((nI 1) &&& 31)), .int (oI (some cn)), .int (nI le)]) (rest := []) ⟨hx, hb, hml, hown, htb⟩ (oc_R_send l dC dI cI cJ cZ cP _ r (cn + 1) mn mi nn vs tg sr kn su ((j + 1) % 3) (t >>> ((nI 1) &&& 31)) (some cn) le (by first | assumption | omega)) (cwV 4 htb (gw_V kw_462 kw_464 kp_14 kw_5 kw_465) rfl rfl rfl (by decide +kernel) ⟨Nat.le_of_ble_eq_true rfl, Nat.le_of_ble_eq_true rfl⟩) (pr_V hP hK hD (va_recv hK hP (ci := 4) (q0 := 0) rfl rfl) [0, 9, 10, 11, 12, 13] (by decide) rfl rfl) rfl rfl hl.1 rfl (lv_room (Nat.le_of_ble_eq_true rfl)) dc_R_receive_170 ⟨Nat.le_of_ble_eq_true rfl, Nat.le_of_ble_eq_true rfl⟩) (fun H locs hP hD hS => ?_)
        have hP : va_P (dC, dI) clsL [zR r (cn + 1) (mn + 1) mi nn, ((r 1), .inl (cI, 40, .inl (oF (va_up bf cn bv)))), ((r 2), .inl (cI, 40, .inl (nF (va_up rc cn k)))), ((r 3), .inl (cI, 40, .inl (va_up sv cn t))), ((r 4), .inl (cZ, 40, .inl (bF (va_up sb cn false)))), ((r 5), .inl (cZ, 40, .inl (bF (va_up lo cn false)))), ((r 6), .inl (cI, 40, .inl (nF (va_up fr cn 3)))), ((r 7), .inl (cI, 40, .inl (oF (va_up an cn none)))), ((r 8), .inl (cZ, 40, .inl (bF (va_up ot cn false)))), ((r 12), .inl (cI, 104, .inl (va_up vs mn (t >>> ((nI 1) &&& 31))))), ((r 13), .inl (cI, 104, .inl (nF (va_up tg mn ((j + 1) % 3))))), ((r 15), .inl (cI, 104, .inl (oF (va_up sr mn (some cn))))), ((r 16), .inl (cI, 104, .inl (nF (va_up kn mn le)))), ((r 14), .inl (cI, 104, .inl (nF (va_up su mn 0)))), ((r 19), .inl (cI, 120, .inl (nF (va_up cc (40 * j + n) cn)))), ((r 20), .inl (cI, 3, .inl (nF (va_up lg j (n + 1))))), ((r 21), .inl (cI, 3, .inl (nF ler)))] H := hP.sub (ws' := [zR r (cn + 1) (mn + 1) mi nn, ((r 1), .inl (cI, 40, .inl (oF (va_up bf cn bv)))), ((r 2), .inl (cI, 40, .inl (nF (va_up rc cn k)))), ((r 3), .inl (cI, 40, .inl (va_up sv cn t))), ((r 4), .inl (cZ, 40, .inl (bF (va_up sb cn false)))), ((r 5), .inl (cZ, 40, .inl (bF (va_up lo cn false)))), ((r 6), .inl (cI, 40, .inl (nF (va_up fr cn 3)))), ((r 7), .inl (cI, 40, .inl (oF (va_up an cn none)))), ((r 8), .inl (cZ, 40, .inl (bF (va_up ot cn false)))), ((r 12), .inl (cI, 104, .inl (va_up vs mn (t >>> ((nI 1) &&& 31))))), ((r 13), .inl (cI, 104, .inl (nF (va_up tg mn ((j + 1) % 3))))), ((r 15), .inl (cI, 104, .inl (oF (va_up sr mn (some cn))))), ((r 16), .inl (cI, 104, .inl (nF (va_up kn mn le)))), ((r 14), .inl (cI, 104, .inl (nF (va_up su mn 0)))), ((r 19), .inl (cI, 120, .inl (nF (va_up cc (40 * j + n) cn)))), ((r 20), .inl (cI, 3, .inl (nF (va_up lg j (n + 1))))), ((r 21), .inl (cI, 3, .inl (nF ler)))]) [11, 0, 1, 2, 3, 4, 5, 6, 7, 12, 13, 14, 15, 16, 8, 9, 10] rfl
        have hD : va_D A [zR r (cn + 1) (mn + 1) mi nn, ((r 1), .inl (cI, 40, .inl (oF (va_up bf cn bv)))), ((r 2), .inl (cI, 40, .inl (nF (va_up rc cn k)))), ((r 3), .inl (cI, 40, .inl (va_up sv cn t))), ((r 4), .inl (cZ, 40, .inl (bF (va_up sb cn false)))), ((r 5), .inl (cZ, 40, .inl (bF (va_up lo cn false)))), ((r 6), .inl (cI, 40, .inl (nF (va_up fr cn 3)))), ((r 7), .inl (cI, 40, .inl (oF (va_up an cn none)))), ((r 8), .inl (cZ, 40, .inl (bF (va_up ot cn false)))), ((r 12), .inl (cI, 104, .inl (va_up vs mn (t >>> ((nI 1) &&& 31))))), ((r 13), .inl (cI, 104, .inl (nF (va_up tg mn ((j + 1) % 3))))), ((r 15), .inl (cI, 104, .inl (oF (va_up sr mn (some cn))))), ((r 16), .inl (cI, 104, .inl (nF (va_up kn mn le)))), ((r 14), .inl (cI, 104, .inl (nF (va_up su mn 0)))), ((r 19), .inl (cI, 120, .inl (nF (va_up cc (40 * j + n) cn)))), ((r 20), .inl (cI, 3, .inl (nF (va_up lg j (n + 1))))), ((r 21), .inl (cI, 3, .inl (nF ler)))] := hD.sub (ws' := [zR r (cn + 1) (mn + 1) mi nn, ((r 1), .inl (cI, 40, .inl (oF (va_up bf cn bv)))), ((r 2), .inl (cI, 40, .inl (nF (va_up rc cn k)))), ((r 3), .inl (cI, 40, .inl (va_up sv cn t))), ((r 4), .inl (cZ, 40, .inl (bF (va_up sb cn false)))), ((r 5), .inl (cZ, 40, .inl (bF (va_up lo cn false)))), ((r 6), .inl (cI, 40, .inl (nF (va_up fr cn 3)))), ((r 7), .inl (cI, 40, .inl (oF (va_up an cn none)))), ((r 8), .inl (cZ, 40, .inl (bF (va_up ot cn false)))), ((r 12), .inl (cI, 104, .inl (va_up vs mn (t >>> ((nI 1) &&& 31))))), ((r 13), .inl (cI, 104, .inl (nF (va_up tg mn ((j + 1) % 3))))), ((r 15), .inl (cI, 104, .inl (oF (va_up sr mn (some cn))))), ((r 16), .inl (cI, 104, .inl (nF (va_up kn mn le)))), ((r 14), .inl (cI, 104, .inl (nF (va_up su mn 0)))), ((r 19), .inl (cI, 120, .inl (nF (va_up cc (40 * j + n) cn)))), ((r 20), .inl (cI, 3, .inl (nF (va_up lg j (n + 1))))), ((r 21), .inl (cI, 3, .inl (nF ler)))]) [11, 0, 1, 2, 3, 4, 5, 6, 7, 12, 13, 14, 15, 16, 8, 9, 10] (by decide) rfl
        refine lv_pop hx hb dc_R_receive_173 rfl ?_
        have hW8 : ([zR r (cn + 1) (mn + 1) mi nn, ((r 1), .inl (cI, 40, .inl (oF (va_up bf cn bv)))), ((r 2), .inl (cI, 40, .inl (nF (va_up rc cn k)))), ((r 3), .inl (cI, 40, .inl (va_up sv cn t))), ((r 4), .inl (cZ, 40, .inl (bF (va_up sb cn false)))), ((r 5), .inl (cZ, 40, .inl (bF (va_up lo cn false)))), ((r 6), .inl (cI, 40, .inl (nF (va_up fr cn 3)))), ((r 7), .inl (cI, 40, .inl (oF (va_up an cn none)))), ((r 8), .inl (cZ, 40, .inl (bF (va_up ot cn false)))), ((r 12), .inl (cI, 104, .inl (va_up vs mn (t >>> ((nI 1) &&& 31))))), ((r 13), .inl (cI, 104, .inl (nF (va_up tg mn ((j + 1) % 3))))), ((r 15), .inl (cI, 104, .inl (oF (va_up sr mn (some cn))))), ((r 16), .inl (cI, 104, .inl (nF (va_up kn mn le)))), ((r 14), .inl (cI, 104, .inl (nF (va_up su mn 0)))), ((r 19), .inl (cI, 120, .inl (nF (va_up cc (40 * j + n) cn)))), ((r 20), .inl (cI, 3, .inl (nF (va_up lg j (n + 1))))), ((r 21), .inl (cI, 3, .inl (nF ler)))] : va_W) = [zR r (cn + 1) (mn + (sb1 t).toNat) mi nn, ((r 1), .inl (cI, 40, .inl (oF (va_up bf cn bv)))), ((r 2), .inl (cI, 40, .inl (nF (va_up rc cn k)))), ((r 3), .inl (cI, 40, .inl (va_up sv cn t))), ((r 4), .inl (cZ, 40, .inl (bF (va_up sb cn false)))), ((r 5), .inl (cZ, 40, .inl (bF (va_up lo cn false)))), ((r 6), .inl (cI, 40, .inl (nF (va_up fr cn 3)))), ((r 7), .inl (cI, 40, .inl (oF (va_up an cn none)))), ((r 8), .inl (cZ, 40, .inl (bF (va_up ot cn false)))), ((r 12), .inl (cI, 104, .inl (s1_F (sb1 t) vs mn (t >>> (nI 1 &&& 31))))), ((r 13), .inl (cI, 104, .inl (nF (s1_F (sb1 t) tg mn ((j + 1) % 3))))), ((r 15), .inl (cI, 104, .inl (oF (s1_F (sb1 t) sr mn (some cn))))), ((r 16), .inl (cI, 104, .inl (nF (s1_F (sb1 t) kn mn le)))), ((r 14), .inl (cI, 104, .inl (nF (s1_F (sb1 t) su mn 0)))), ((r 19), .inl (cI, 120, .inl (nF (va_up cc (40 * j + n) cn)))), ((r 20), .inl (cI, 3, .inl (nF (va_up lg j (n + 1))))), ((r 21), .inl (cI, 3, .inl (nF ler)))] := by simp [s1_F, sb1, h2]
        rw [hW8] at hP hD
        exact hct _ _ _ ⟨hP, hD, hS, lv_sub hl [0, 1, 2, 3, 4] rfl⟩
  · intro hct
    refine lv_aload_n hx hb dc_R_receive_15 rfl (lv_at hl 1 rfl) ?_
    refine va_get (D := (dC, dI)) (ci := 4) (v := .ref (r 1)) (C := cn_R) (T := ft_R) (N := 27) hx hb htb ki_R hown hK hP 0 rfl rfl 1 (by decide) (htb _ kw_371) (fun _ h9 => h9) rfl dc_R_receive_16 ?_
    refine lv_iload_n hx hb dc_R_receive_19 rfl (lv_at hl 0 rfl) ?_
    refine lv_aload_n hx hb dc_R_receive_20 rfl (lv_at hl 1 rfl) ?_
    refine va_get (D := (dC, dI)) (ci := 4) (v := .ref (r 20)) (C := cn_R) (T := ft_R) (N := 27) hx hb htb ki_R hown hK hP 0 rfl rfl 20 (by decide) (htb _ kw_390) (fun _ h9 => h9) rfl dc_R_receive_21 ?_
    refine lv_iload_n hx hb dc_R_receive_24 rfl (lv_at hl 2 rfl) ?_
    refine wa_nld (k := j) hx hb hK hP 15 0 rfl rfl (by omega) (by omega) dc_R_receive_25 ?_
    refine tp_i (y := nI n) (by rw [hlg]) ?_
    refine lv_if_ne (tgt := 33) hx hb dc_R_receive_26 (by decide) (fun hc => ?_) (fun hc => ?_)
    · have h1 : ¬ n = 0 := fun h9 => hc ((nI_eq (b := 0) (by omega) (by omega)).mpr h9)
      refine lv_aload_n hx hb dc_R_receive_33 rfl (lv_at hl 1 rfl) ?_
      refine va_get (D := (dC, dI)) (ci := 4) (v := .ref (r 19)) (C := cn_R) (T := ft_R) (N := 27) hx hb htb ki_R hown hK hP 0 rfl rfl 19 (by decide) (htb _ kw_389) (fun _ h9 => h9) rfl dc_R_receive_34 ?_
      refine lv_bipush (v := nI 40) hx hb dc_R_receive_37 (by decide) ?_
      refine lv_iload_n hx hb dc_R_receive_39 rfl (lv_at hl 2 rfl) ?_
      refine lv_imul hx hb dc_R_receive_40 ?_
      refine tp_i (y := nI (40 * j)) (pk_mul _ _) ?_
      refine lv_aload_n hx hb dc_R_receive_41 rfl (lv_at hl 1 rfl) ?_
      refine va_get (D := (dC, dI)) (ci := 4) (v := .ref (r 20)) (C := cn_R) (T := ft_R) (N := 27) hx hb htb ki_R hown hK hP 0 rfl rfl 20 (by decide) (htb _ kw_390) (fun _ h9 => h9) rfl dc_R_receive_42 ?_
      refine lv_iload_n hx hb dc_R_receive_45 rfl (lv_at hl 2 rfl) ?_
      refine wa_nld (k := j) hx hb hK hP 15 0 rfl rfl (by omega) (by omega) dc_R_receive_46 ?_
      refine tp_i (y := nI n) (by rw [hlg]) ?_
      refine lv_iadd hx hb dc_R_receive_47 ?_
      refine tp_i (y := nI (40 * j + n)) (nI_add _ _) ?_
      refine lv_iconst (v := nI 1) hx hb dc_R_receive_48 (by decide) ?_
      refine lv_isub hx hb dc_R_receive_49 ?_
      refine tp_i (y := nI (40 * j + n - 1)) (pk_sub (by omega)) ?_
      refine wa_nld (k := 40 * j + n - 1) hx hb hK hP 14 0 rfl rfl (by omega) (by omega) dc_R_receive_50 ?_
      refine tp_i (y := oI bv) (by rw [← hbv, bv_O, if_neg h1]; rfl) ?_
      refine wa_ost (k := cn) (x := bv) hx hb hK hP hD hS 1 0 rfl rfl (by omega) (by omega) dc_R_receive_51 (fun H locs hP hD hS => ?_)
      have hP : va_P (dC, dI) clsL [zR r (cn + 1) mn mi nn, ((r 1), .inl (cI, 40, .inl (oF (va_up bf cn bv)))), ((r 2), .inl (cI, 40, .inl (nF rc))), ((r 3), .inl (cI, 40, .inl sv)), ((r 4), .inl (cZ, 40, .inl (bF sb))), ((r 5), .inl (cZ, 40, .inl (bF lo))), ((r 6), .inl (cI, 40, .inl (nF fr))), ((r 7), .inl (cI, 40, .inl (oF an))), ((r 8), .inl (cZ, 40, .inl (bF ot))), ((r 12), .inl (cI, 104, .inl vs)), ((r 13), .inl (cI, 104, .inl (nF tg))), ((r 15), .inl (cI, 104, .inl (oF sr))), ((r 16), .inl (cI, 104, .inl (nF kn))), ((r 14), .inl (cI, 104, .inl (nF su))), ((r 19), .inl (cI, 120, .inl (nF cc))), ((r 20), .inl (cI, 3, .inl (nF lg))), ((r 21), .inl (cI, 3, .inl (nF ler)))] H := hP
      have hD : va_D A [zR r (cn + 1) mn mi nn, ((r 1), .inl (cI, 40, .inl (oF (va_up bf cn bv)))), ((r 2), .inl (cI, 40, .inl (nF rc))), ((r 3), .inl (cI, 40, .inl sv)), ((r 4), .inl (cZ, 40, .inl (bF sb))), ((r 5), .inl (cZ, 40, .inl (bF lo))), ((r 6), .inl (cI, 40, .inl (nF fr))), ((r 7), .inl (cI, 40, .inl (oF an))), ((r 8), .inl (cZ, 40, .inl (bF ot))), ((r 12), .inl (cI, 104, .inl vs)), ((r 13), .inl (cI, 104, .inl (nF tg))), ((r 15), .inl (cI, 104, .inl (oF sr))), ((r 16), .inl (cI, 104, .inl (nF kn))), ((r 14), .inl (cI, 104, .inl (nF su))), ((r 19), .inl (cI, 120, .inl (nF cc))), ((r 20), .inl (cI, 3, .inl (nF lg))), ((r 21), .inl (cI, 3, .inl (nF ler)))] := hD
      exact hct _ _ _ ⟨hP, hD, hS, lv_sub hl [0, 3, 2, 1] rfl⟩
    · have h1 : n = 0 := (nI_eq (b := 0) (by omega) (by omega)).mp hc
      refine lv_iconst (v := (-1)) hx hb dc_R_receive_29 (by decide) ?_
      refine tp_i (y := oI bv) (by rw [← hbv, bv_O, if_pos h1]; rfl) ?_
      refine lv_goto (tgt := 51) hx hb dc_R_receive_30 (by decide) ?_
      refine wa_ost (k := cn) (x := bv) hx hb hK hP hD hS 1 0 rfl rfl (by omega) (by omega) dc_R_receive_51 (fun H locs hP hD hS => ?_)
      have hP : va_P (dC, dI) clsL [zR r (cn + 1) mn mi nn, ((r 1), .inl (cI, 40, .inl (oF (va_up bf cn bv)))), ((r 2), .inl (cI, 40, .inl (nF rc))), ((r 3), .inl (cI, 40, .inl sv)), ((r 4), .inl (cZ, 40, .inl (bF sb))), ((r 5), .inl (cZ, 40, .inl (bF lo))), ((r 6), .inl (cI, 40, .inl (nF fr))), ((r 7), .inl (cI, 40, .inl (oF an))), ((r 8), .inl (cZ, 40, .inl (bF ot))), ((r 12), .inl (cI, 104, .inl vs)), ((r 13), .inl (cI, 104, .inl (nF tg))), ((r 15), .inl (cI, 104, .inl (oF sr))), ((r 16), .inl (cI, 104, .inl (nF kn))), ((r 14), .inl (cI, 104, .inl (nF su))), ((r 19), .inl (cI, 120, .inl (nF cc))), ((r 20), .inl (cI, 3, .inl (nF lg))), ((r 21), .inl (cI, 3, .inl (nF ler)))] H := hP
      have hD : va_D A [zR r (cn + 1) mn mi nn, ((r 1), .inl (cI, 40, .inl (oF (va_up bf cn bv)))), ((r 2), .inl (cI, 40, .inl (nF rc))), ((r 3), .inl (cI, 40, .inl sv)), ((r 4), .inl (cZ, 40, .inl (bF sb))), ((r 5), .inl (cZ, 40, .inl (bF lo))), ((r 6), .inl (cI, 40, .inl (nF fr))), ((r 7), .inl (cI, 40, .inl (oF an))), ((r 8), .inl (cZ, 40, .inl (bF ot))), ((r 12), .inl (cI, 104, .inl vs)), ((r 13), .inl (cI, 104, .inl (nF tg))), ((r 15), .inl (cI, 104, .inl (oF sr))), ((r 16), .inl (cI, 104, .inl (nF kn))), ((r 14), .inl (cI, 104, .inl (nF su))), ((r 19), .inl (cI, 120, .inl (nF cc))), ((r 20), .inl (cI, 3, .inl (nF lg))), ((r 21), .inl (cI, 3, .inl (nF ler)))] := hD
      exact hct _ _ _ ⟨hP, hD, hS, lv_sub hl [0, 3, 2, 1] rfl⟩

set_option maxHeartbeats 4000000 in
set_option maxRecDepth 100000 in
theorem oc_R_next (l : Launch) (dC : Nat → ClassId) (dI : Nat → Nat → Nat) (cI cJ cZ cP : ClassId) (sz : Nat) (r : Nat → Nat) (cn : Nat) (mn : Nat) (mi : Nat) (nn : Nat) (bf : Nat → Option Nat) (rc : Nat → Nat) (sr : Nat → Option Nat) (mk : Nat → Bool) (an : Nat → Option Nat) (su : Nat → Nat) (cc : Nat → Nat) (lg : Nat → Nat) (ler : Nat → Nat) (lt : Nat → Option Nat) (sd : Nat → Option Nat) (j : Nat) (n : Nat) (le : Nat) (kp : Nat) (hj : j < 3) (hlg : lg j = n) (hn : n ≤ 40) (hcc : ∀ i, i < n → cc (40 * j + i) < cn) (hle : ler j = le) (hlb : le + 1 < 2 ^ 31) (hss : ∀ i, i < n → ∀ q, sr (rc (cc (40 * j + i))) = some q → q < cn) (hcn : cn ≤ 40) (hbf : ∀ k, k < cn → ∀ i, bf k = some i → i < 40) (hrc : ∀ k, k < cn → rc k < 104) (hsr : ∀ k, k < cn → ∀ i, sr (rc k) = some i → i < 40) (hkp : fo_N (fun i => hi_B bf rc sr an (some (cc (40 * j + i))) le (le + 1) cn) n 0 = kp) : mt_Ix l mn_R_next bc_R_next 7 (some .int) ({ frames := 2, cells := 0, slots := 0, locals := 48 }) (dC, dI) (TYS cI cJ cZ cP) sz [.ref (r 0), .int (nI j)] [zR r cn mn mi nn, ((r 1), .inl (cI, 40, .inl (oF bf))), ((r 2), .inl (cI, 40, .inl (nF rc))), ((r 15), .inl (cI, 104, .inl (oF sr))), ((r 9), .inl (cZ, 40, .inl (bF mk))), ((r 7), .inl (cI, 40, .inl (oF an))), ((r 14), .inl (cI, 104, .inl (nF su))), ((r 19), .inl (cI, 120, .inl (nF cc))), ((r 20), .inl (cI, 3, .inl (nF lg))), ((r 21), .inl (cI, 3, .inl (nF ler))), ((r 22), .inl (cI, 3, .inl (oF lt))), ((r 23), .inl (cI, 3, .inl (oF sd)))] (fun (mkz : Nat → Bool) => [zR r cn mn mi nn, ((r 1), .inl (cI, 40, .inl (oF bf))), ((r 2), .inl (cI, 40, .inl (nF rc))), ((r 15), .inl (cI, 104, .inl (oF sr))), ((r 9), .inl (cZ, 40, .inl (bF mkz))), ((r 7), .inl (cI, 40, .inl (oF an))), ((r 14), .inl (cI, 104, .inl (nF (gb_F su (fun i => rc (cc (40 * j + i))) (fun q => hi_B bf rc sr an (sr q) 0 (le + 1) cn) kp (n - kp))))), ((r 19), .inl (cI, 120, .inl (nF cc))), ((r 20), .inl (cI, 3, .inl (nF (va_up lg j kp)))), ((r 21), .inl (cI, 3, .inl (nF (va_up ler j (le + 1))))), ((r 22), .inl (cI, 3, .inl (oF (dr_L lt sd j kp)))), ((r 23), .inl (cI, 3, .inl (oF (dr_S lt sd j kp))))]) (nI (n - kp)) 0 0 := by
  unfold mt_Ix
  refine Met.ofW (cc := bc_R_next) (maxL := 7) (ret := (some .int)) (by decide) rfl ?_
  intro p e s m args below meth c s₁ B hml hv
  obtain ⟨rfl, hsz, hP, hK, hD0⟩ := hv
  have hx := B.exec
  have hb := B.bytes
  have hr := B.returns
  have hts := atoms_spec (ws := wsT mn_R_next bc_R_next 7 (some .int)) B.pre
  have htb : ∀ w ∈ gtbl, w.before _ s = true := fun w h => hts w (List.mem_cons_of_mem _ h)
  have hown : s.vm.findClass cn_R = some m.cls := findClass_of_methodNamed B.named
  have hlocks := B.notSynchronized
  subst hsz
  have hD := hD0.self (sz := s.heap.size)
  generalize hAe : va_A [zR r cn mn mi nn, ((r 1), .inl (cI, 40, .inl (oF bf))), ((r 2), .inl (cI, 40, .inl (nF rc))), ((r 15), .inl (cI, 104, .inl (oF sr))), ((r 9), .inl (cZ, 40, .inl (bF mk))), ((r 7), .inl (cI, 40, .inl (oF an))), ((r 14), .inl (cI, 104, .inl (nF su))), ((r 19), .inl (cI, 120, .inl (nF cc))), ((r 20), .inl (cI, 3, .inl (nF lg))), ((r 21), .inl (cI, 3, .inl (nF ler))), ((r 22), .inl (cI, 3, .inl (oF lt))), ((r 23), .inl (cI, 3, .inl (oF sd)))] s.heap.size = A at hD ⊢
  have hA : ∀ q : Nat, s.heap.size ≤ q → A q := fun q h => by rw [← hAe]; exact Or.inr h
  have hS : va_S A s.heap s.heap [] := va_S.rf
  have hP : va_P (dC, dI) clsL [zR r cn mn mi nn, ((r 1), .inl (cI, 40, .inl (oF bf))), ((r 2), .inl (cI, 40, .inl (nF rc))), ((r 15), .inl (cI, 104, .inl (oF sr))), ((r 9), .inl (cZ, 40, .inl (bF mk))), ((r 7), .inl (cI, 40, .inl (oF an))), ((r 14), .inl (cI, 104, .inl (nF su))), ((r 19), .inl (cI, 120, .inl (nF cc))), ((r 20), .inl (cI, 3, .inl (nF lg))), ((r 21), .inl (cI, 3, .inl (nF ler))), ((r 22), .inl (cI, 3, .inl (oF lt))), ((r 23), .inl (cI, 3, .inl (oF sd)))] s.heap := hP
  have hl := lv_entry ([.ref (r 0), .int (nI j)]) (n := 7) (Nat.le_of_ble_eq_true rfl)
  rw [lg_entry_eq]
  generalize (lg_sl ([.ref (r 0), .int (nI j)]) ++ List.replicate (7 - (lg_sl ([.ref (r 0), .int (nI j)])).length) Slot.unset).toArray = ls at hl ⊢
  have hl : lv_has ls 7 [(0, .ref (r 0)), (1, .int (nI j))] := hl
  refine lv_aload_n hx hb dc_R_next_0 rfl (lv_at hl 0 rfl) ?_
  refine va_get (D := (dC, dI)) (ci := 4) (v := .ref (r 21)) (C := cn_R) (T := ft_R) (N := 27) hx hb htb ki_R hown hK hP 0 rfl rfl 21 (by decide) (htb _ kw_391) (fun _ h9 => h9) rfl dc_R_next_1 ?_
  refine lv_iload_n hx hb dc_R_next_4 rfl (lv_at hl 1 rfl) ?_
  refine wa_nld (k := j) hx hb hK hP 9 0 rfl rfl (by omega) (by omega) dc_R_next_5 ?_
  refine tp_i (y := nI le) (by rw [hle]) ?_
  refine lv_istore_n (lv' := [(2, .int (nI le)), (0, .ref (r 0)), (1, .int (nI j))]) hx hb dc_R_next_6 rfl hl (by decide) rfl (fun ls hl => ?_)
  refine lv_aload_n hx hb dc_R_next_7 rfl (lv_at hl 1 rfl) ?_
  refine va_get (D := (dC, dI)) (ci := 4) (v := .ref (r 21)) (C := cn_R) (T := ft_R) (N := 27) hx hb htb ki_R hown hK hP 0 rfl rfl 21 (by decide) (htb _ kw_391) (fun _ h9 => h9) rfl dc_R_next_8 ?_
  refine lv_iload_n hx hb dc_R_next_11 rfl (lv_at hl 2 rfl) ?_
  refine lv_dup2_11 hx hb dc_R_next_12 rfl rfl ?_
  refine wa_nld (k := j) hx hb hK hP 9 0 rfl rfl (by omega) (by omega) dc_R_next_13 ?_
  refine tp_i (y := nI le) (by rw [hle]) ?_
  refine lv_iconst (v := nI 1) hx hb dc_R_next_14 (by decide) ?_
  refine lv_iadd hx hb dc_R_next_15 ?_
  refine tp_i (y := nI (le + 1)) (nI_add _ _) ?_
  refine wa_nst (k := j) (x := le + 1) hx hb hK hP hD hS 9 0 rfl rfl (by omega) (by omega) dc_R_next_16 (fun H locs hP hD hS => ?_)
  have hP : va_P (dC, dI) clsL [zR r cn mn mi nn, ((r 1), .inl (cI, 40, .inl (oF bf))), ((r 2), .inl (cI, 40, .inl (nF rc))), ((r 15), .inl (cI, 104, .inl (oF sr))), ((r 9), .inl (cZ, 40, .inl (bF mk))), ((r 7), .inl (cI, 40, .inl (oF an))), ((r 14), .inl (cI, 104, .inl (nF su))), ((r 19), .inl (cI, 120, .inl (nF cc))), ((r 20), .inl (cI, 3, .inl (nF lg))), ((r 21), .inl (cI, 3, .inl (nF (va_up ler j (le + 1))))), ((r 22), .inl (cI, 3, .inl (oF lt))), ((r 23), .inl (cI, 3, .inl (oF sd)))] H := hP
  have hD : va_D A [zR r cn mn mi nn, ((r 1), .inl (cI, 40, .inl (oF bf))), ((r 2), .inl (cI, 40, .inl (nF rc))), ((r 15), .inl (cI, 104, .inl (oF sr))), ((r 9), .inl (cZ, 40, .inl (bF mk))), ((r 7), .inl (cI, 40, .inl (oF an))), ((r 14), .inl (cI, 104, .inl (nF su))), ((r 19), .inl (cI, 120, .inl (nF cc))), ((r 20), .inl (cI, 3, .inl (nF lg))), ((r 21), .inl (cI, 3, .inl (nF (va_up ler j (le + 1))))), ((r 22), .inl (cI, 3, .inl (oF lt))), ((r 23), .inl (cI, 3, .inl (oF sd)))] := hD
  refine lv_aload_n hx hb dc_R_next_17 rfl (lv_at hl 1 rfl) ?_
  refine va_get (D := (dC, dI)) (ci := 4) (v := .ref (r 20)) (C := cn_R) (T := ft_R) (N := 27) hx hb htb ki_R hown hK hP 0 rfl rfl 20 (by decide) (htb _ kw_390) (fun _ h9 => h9) rfl dc_R_next_18 ?_
  refine lv_iload_n hx hb dc_R_next_21 rfl (lv_at hl 2 rfl) ?_
  refine wa_nld (k := j) hx hb hK hP 8 0 rfl rfl (by omega) (by omega) dc_R_next_22 ?_
  refine tp_i (y := nI n) (by rw [hlg]) ?_
  refine lv_istore_n (lv' := [(3, .int (nI n)), (2, .int (nI le)), (0, .ref (r 0)), (1, .int (nI j))]) hx hb dc_R_next_23 rfl hl (by decide) rfl (fun ls hl => ?_)
  refine lv_aload_n hx hb dc_R_next_24 rfl (lv_at hl 2 rfl) ?_
  refine va_get (D := (dC, dI)) (ci := 4) (v := .ref (r 20)) (C := cn_R) (T := ft_R) (N := 27) hx hb htb ki_R hown hK hP 0 rfl rfl 20 (by decide) (htb _ kw_390) (fun _ h9 => h9) rfl dc_R_next_25 ?_
  refine lv_iload_n hx hb dc_R_next_28 rfl (lv_at hl 3 rfl) ?_
  refine wa_nld (k := j) hx hb hK hP 8 0 rfl rfl (by omega) (by omega) dc_R_next_29 ?_
  refine tp_i (y := nI n) (by rw [hlg]) ?_
  refine lv_iconst (v := nI 1) hx hb dc_R_next_30 (by decide) ?_
  refine lv_isub hx hb dc_R_next_31 ?_
  refine tp_i (y := oI (pd_ n)) (pd_sub (by omega)) ?_
  refine lv_istore (lv' := [(4, .int (oI (pd_ n))), (3, .int (nI n)), (2, .int (nI le)), (0, .ref (r 0)), (1, .int (nI j))]) hx hb dc_R_next_32 hl (by decide) rfl (fun ls hl => ?_)
  refine wl_ 34 (fun (x : Nat × Nat × (Nat → Bool)) => x.1) (fun (x : Nat × Nat × (Nat → Bool)) (H : Heap) (locs : List Loc) (ls : Array Slot) => (x.1 ≤ n ∧ x.2.1 = fo_N (fun i => hi_B bf rc sr an (some (cc (40 * j + i))) le (le + 1) cn) (n - x.1) x.1) ∧ va_P (dC, dI) clsL [zR r cn mn mi nn, ((r 1), .inl (cI, 40, .inl (oF bf))), ((r 2), .inl (cI, 40, .inl (nF rc))), ((r 15), .inl (cI, 104, .inl (oF sr))), ((r 9), .inl (cZ, 40, .inl (bF x.2.2))), ((r 7), .inl (cI, 40, .inl (oF an))), ((r 14), .inl (cI, 104, .inl (nF su))), ((r 19), .inl (cI, 120, .inl (nF cc))), ((r 20), .inl (cI, 3, .inl (nF lg))), ((r 21), .inl (cI, 3, .inl (nF (va_up ler j (le + 1))))), ((r 22), .inl (cI, 3, .inl (oF lt))), ((r 23), .inl (cI, 3, .inl (oF sd)))] H ∧ va_D A [zR r cn mn mi nn, ((r 1), .inl (cI, 40, .inl (oF bf))), ((r 2), .inl (cI, 40, .inl (nF rc))), ((r 15), .inl (cI, 104, .inl (oF sr))), ((r 9), .inl (cZ, 40, .inl (bF x.2.2))), ((r 7), .inl (cI, 40, .inl (oF an))), ((r 14), .inl (cI, 104, .inl (nF su))), ((r 19), .inl (cI, 120, .inl (nF cc))), ((r 20), .inl (cI, 3, .inl (nF lg))), ((r 21), .inl (cI, 3, .inl (nF (va_up ler j (le + 1))))), ((r 22), .inl (cI, 3, .inl (oF lt))), ((r 23), .inl (cI, 3, .inl (oF sd)))] ∧ va_S A s.heap H locs ∧ lv_has ls 7 [(4, .int (oI (pd_ x.1))), (3, .int (nI x.2.1)), (2, .int (nI le)), (1, .int (nI j)), (0, .ref (r 0))]) ?_ (n, n, mk) _ _ _ ⟨⟨Nat.le_refl _, by rw [Nat.sub_self]; rfl⟩, hP, hD, hS, lv_sub hl [0, 1, 2, 4, 3] rfl⟩
  rintro ⟨kk, z, g⟩ H locs ls ⟨hI, hP, hD, hS, hl⟩ ih34
  replace hI : kk ≤ n ∧ z = fo_N (fun i => hi_B bf rc sr an (some (cc (40 * j + i))) le (le + 1) cn) (n - kk) kk := hI
  replace hP : va_P (dC, dI) clsL [zR r cn mn mi nn, ((r 1), .inl (cI, 40, .inl (oF bf))), ((r 2), .inl (cI, 40, .inl (nF rc))), ((r 15), .inl (cI, 104, .inl (oF sr))), ((r 9), .inl (cZ, 40, .inl (bF g))), ((r 7), .inl (cI, 40, .inl (oF an))), ((r 14), .inl (cI, 104, .inl (nF su))), ((r 19), .inl (cI, 120, .inl (nF cc))), ((r 20), .inl (cI, 3, .inl (nF lg))), ((r 21), .inl (cI, 3, .inl (nF (va_up ler j (le + 1))))), ((r 22), .inl (cI, 3, .inl (oF lt))), ((r 23), .inl (cI, 3, .inl (oF sd)))] H := hP
  replace hD : va_D A [zR r cn mn mi nn, ((r 1), .inl (cI, 40, .inl (oF bf))), ((r 2), .inl (cI, 40, .inl (nF rc))), ((r 15), .inl (cI, 104, .inl (oF sr))), ((r 9), .inl (cZ, 40, .inl (bF g))), ((r 7), .inl (cI, 40, .inl (oF an))), ((r 14), .inl (cI, 104, .inl (nF su))), ((r 19), .inl (cI, 120, .inl (nF cc))), ((r 20), .inl (cI, 3, .inl (nF lg))), ((r 21), .inl (cI, 3, .inl (nF (va_up ler j (le + 1))))), ((r 22), .inl (cI, 3, .inl (oF lt))), ((r 23), .inl (cI, 3, .inl (oF sd)))] := hD
  replace hl : lv_has ls 7 [(4, .int (oI (pd_ kk))), (3, .int (nI z)), (2, .int (nI le)), (1, .int (nI j)), (0, .ref (r 0))] := hl
  have hk1 := hI.1
  refine lv_iload hx hb dc_R_next_34 (lv_at hl 0 rfl) ?_
  refine lv_if_lt (tgt := 75) hx hb dc_R_next_36 (by decide) (fun hc => ?_) (fun hc => ?_)
  · have h1 : (pd_ kk) = none := (oI_neg (pd_lt (by omega))).mp hc
    have hk0 := pd_none h1
    obtain rfl : kp = z := by rw [hI.2, hk0, Nat.sub_zero]; exact hkp.symm
    have hzn : kp ≤ n := by rw [← hkp]; exact fo_N_le0 _ _
    refine lv_aload_n hx hb dc_R_next_75 rfl (lv_at hl 4 rfl) ?_
    refine va_get (D := (dC, dI)) (ci := 4) (v := .ref (r 20)) (C := cn_R) (T := ft_R) (N := 27) hx hb htb ki_R hown hK hP 0 rfl rfl 20 (by decide) (htb _ kw_390) (fun _ h9 => h9) rfl dc_R_next_76 ?_
    refine lv_iload_n hx hb dc_R_next_79 rfl (lv_at hl 3 rfl) ?_
    refine wa_nld (k := j) hx hb hK hP 8 0 rfl rfl (by omega) (by omega) dc_R_next_80 ?_
    refine tp_i (y := nI n) (by rw [hlg]) ?_
    refine lv_iload_n hx hb dc_R_next_81 rfl (lv_at hl 1 rfl) ?_
    refine lv_isub hx hb dc_R_next_82 ?_
    refine tp_i (y := nI (n - kp)) (pk_sub (by omega)) ?_
    refine lv_istore (lv' := [(4, .int (nI (n - kp))), (3, .int (nI kp)), (2, .int (nI le)), (1, .int (nI j)), (0, .ref (r 0))]) hx hb dc_R_next_83 hl (by decide) rfl (fun ls hl => ?_)
    refine lv_iload_n hx hb dc_R_next_85 rfl (lv_at hl 1 rfl) ?_
    refine lv_istore (lv' := [(5, .int (nI kp)), (4, .int (nI (n - kp))), (3, .int (nI kp)), (2, .int (nI le)), (1, .int (nI j)), (0, .ref (r 0))]) hx hb dc_R_next_86 hl (by decide) rfl (fun ls hl => ?_)
    refine wl_ 88 (fun (x : Nat × (Nat → Nat) × (Nat → Bool)) => n - x.1) (fun (x : Nat × (Nat → Nat) × (Nat → Bool)) (H : Heap) (locs : List Loc) (ls : Array Slot) => (kp ≤ x.1 ∧ x.1 ≤ n ∧ x.2.1 = (gb_F su (fun i => rc (cc (40 * j + i))) (fun q => hi_B bf rc sr an (sr q) 0 (le + 1) cn) kp (x.1 - kp))) ∧ va_P (dC, dI) clsL [zR r cn mn mi nn, ((r 1), .inl (cI, 40, .inl (oF bf))), ((r 2), .inl (cI, 40, .inl (nF rc))), ((r 15), .inl (cI, 104, .inl (oF sr))), ((r 9), .inl (cZ, 40, .inl (bF x.2.2))), ((r 7), .inl (cI, 40, .inl (oF an))), ((r 14), .inl (cI, 104, .inl (nF x.2.1))), ((r 19), .inl (cI, 120, .inl (nF cc))), ((r 20), .inl (cI, 3, .inl (nF lg))), ((r 21), .inl (cI, 3, .inl (nF (va_up ler j (le + 1))))), ((r 22), .inl (cI, 3, .inl (oF lt))), ((r 23), .inl (cI, 3, .inl (oF sd)))] H ∧ va_D A [zR r cn mn mi nn, ((r 1), .inl (cI, 40, .inl (oF bf))), ((r 2), .inl (cI, 40, .inl (nF rc))), ((r 15), .inl (cI, 104, .inl (oF sr))), ((r 9), .inl (cZ, 40, .inl (bF x.2.2))), ((r 7), .inl (cI, 40, .inl (oF an))), ((r 14), .inl (cI, 104, .inl (nF x.2.1))), ((r 19), .inl (cI, 120, .inl (nF cc))), ((r 20), .inl (cI, 3, .inl (nF lg))), ((r 21), .inl (cI, 3, .inl (nF (va_up ler j (le + 1))))), ((r 22), .inl (cI, 3, .inl (oF lt))), ((r 23), .inl (cI, 3, .inl (oF sd)))] ∧ va_S A s.heap H locs ∧ lv_has ls 7 [(5, .int (nI x.1)), (4, .int (nI (n - kp))), (3, .int (nI kp)), (2, .int (nI le)), (1, .int (nI j)), (0, .ref (r 0))]) ?_ (kp, su, g) _ _ _ ⟨⟨Nat.le_refl _, hzn, by rw [Nat.sub_self]; rfl⟩, hP, hD, hS, lv_sub hl [0, 1, 2, 3, 4, 5] rfl⟩
    rintro ⟨k, g, w⟩ H locs ls ⟨hI, hP, hD, hS, hl⟩ ih88
    replace hI : kp ≤ k ∧ k ≤ n ∧ g = (gb_F su (fun i => rc (cc (40 * j + i))) (fun q => hi_B bf rc sr an (sr q) 0 (le + 1) cn) kp (k - kp)) := hI
    replace hP : va_P (dC, dI) clsL [zR r cn mn mi nn, ((r 1), .inl (cI, 40, .inl (oF bf))), ((r 2), .inl (cI, 40, .inl (nF rc))), ((r 15), .inl (cI, 104, .inl (oF sr))), ((r 9), .inl (cZ, 40, .inl (bF w))), ((r 7), .inl (cI, 40, .inl (oF an))), ((r 14), .inl (cI, 104, .inl (nF g))), ((r 19), .inl (cI, 120, .inl (nF cc))), ((r 20), .inl (cI, 3, .inl (nF lg))), ((r 21), .inl (cI, 3, .inl (nF (va_up ler j (le + 1))))), ((r 22), .inl (cI, 3, .inl (oF lt))), ((r 23), .inl (cI, 3, .inl (oF sd)))] H := hP
    replace hD : va_D A [zR r cn mn mi nn, ((r 1), .inl (cI, 40, .inl (oF bf))), ((r 2), .inl (cI, 40, .inl (nF rc))), ((r 15), .inl (cI, 104, .inl (oF sr))), ((r 9), .inl (cZ, 40, .inl (bF w))), ((r 7), .inl (cI, 40, .inl (oF an))), ((r 14), .inl (cI, 104, .inl (nF g))), ((r 19), .inl (cI, 120, .inl (nF cc))), ((r 20), .inl (cI, 3, .inl (nF lg))), ((r 21), .inl (cI, 3, .inl (nF (va_up ler j (le + 1))))), ((r 22), .inl (cI, 3, .inl (oF lt))), ((r 23), .inl (cI, 3, .inl (oF sd)))] := hD
    replace hl : lv_has ls 7 [(5, .int (nI k)), (4, .int (nI (n - kp))), (3, .int (nI kp)), (2, .int (nI le)), (1, .int (nI j)), (0, .ref (r 0))] := hl
    have hI9 := hI
    have hk2 := hI9.1
    have hk3 := hI9.2.1
    refine lv_iload hx hb dc_R_next_88 (lv_at hl 0 rfl) ?_
    refine lv_aload_n hx hb dc_R_next_90 rfl (lv_at hl 5 rfl) ?_
    refine va_get (D := (dC, dI)) (ci := 4) (v := .ref (r 20)) (C := cn_R) (T := ft_R) (N := 27) hx hb htb ki_R hown hK hP 0 rfl rfl 20 (by decide) (htb _ kw_390) (fun _ h9 => h9) rfl dc_R_next_91 ?_
    refine lv_iload_n hx hb dc_R_next_94 rfl (lv_at hl 4 rfl) ?_
    refine wa_nld (k := j) hx hb hK hP 8 0 rfl rfl (by omega) (by omega) dc_R_next_95 ?_
    refine tp_i (y := nI n) (by rw [hlg]) ?_
    refine lv_icmp_ge (tgt := 157) hx hb dc_R_next_96 (by decide) (fun hc => ?_) (fun hc => ?_)
    · have hk : n ≤ k := (nI_leI (by omega) (by omega)).mp hc
      refine lv_aload_n hx hb dc_R_next_157 rfl (lv_at hl 5 rfl) ?_
      refine va_get (D := (dC, dI)) (ci := 4) (v := .ref (r 20)) (C := cn_R) (T := ft_R) (N := 27) hx hb htb ki_R hown hK hP 0 rfl rfl 20 (by decide) (htb _ kw_390) (fun _ h9 => h9) rfl dc_R_next_158 ?_
      refine lv_iload_n hx hb dc_R_next_161 rfl (lv_at hl 4 rfl) ?_
      refine lv_iload_n hx hb dc_R_next_162 rfl (lv_at hl 2 rfl) ?_
      refine wa_nst (k := j) (x := kp) hx hb hK hP hD hS 8 0 rfl rfl (by omega) (by omega) dc_R_next_163 (fun H locs hP hD hS => ?_)
      have hP : va_P (dC, dI) clsL [zR r cn mn mi nn, ((r 1), .inl (cI, 40, .inl (oF bf))), ((r 2), .inl (cI, 40, .inl (nF rc))), ((r 15), .inl (cI, 104, .inl (oF sr))), ((r 9), .inl (cZ, 40, .inl (bF w))), ((r 7), .inl (cI, 40, .inl (oF an))), ((r 14), .inl (cI, 104, .inl (nF g))), ((r 19), .inl (cI, 120, .inl (nF cc))), ((r 20), .inl (cI, 3, .inl (nF (va_up lg j kp)))), ((r 21), .inl (cI, 3, .inl (nF (va_up ler j (le + 1))))), ((r 22), .inl (cI, 3, .inl (oF lt))), ((r 23), .inl (cI, 3, .inl (oF sd)))] H := hP
      have hD : va_D A [zR r cn mn mi nn, ((r 1), .inl (cI, 40, .inl (oF bf))), ((r 2), .inl (cI, 40, .inl (nF rc))), ((r 15), .inl (cI, 104, .inl (oF sr))), ((r 9), .inl (cZ, 40, .inl (bF w))), ((r 7), .inl (cI, 40, .inl (oF an))), ((r 14), .inl (cI, 104, .inl (nF g))), ((r 19), .inl (cI, 120, .inl (nF cc))), ((r 20), .inl (cI, 3, .inl (nF (va_up lg j kp)))), ((r 21), .inl (cI, 3, .inl (nF (va_up ler j (le + 1))))), ((r 22), .inl (cI, 3, .inl (oF lt))), ((r 23), .inl (cI, 3, .inl (oF sd)))] := hD
      refine lv_aload_n hx hb dc_R_next_164 rfl (lv_at hl 5 rfl) ?_
      refine lv_iload_n hx hb dc_R_next_165 rfl (lv_at hl 4 rfl) ?_
      refine cl_v (wc := [zR r cn mn mi nn, ((r 20), .inl (cI, 3, .inl (nF (va_up lg j kp)))), ((r 22), .inl (cI, 3, .inl (oF lt))), ((r 23), .inl (cI, 3, .inl (oF sd)))]) (wr := [((r 1), .inl (cI, 40, .inl (oF bf))), ((r 2), .inl (cI, 40, .inl (nF rc))), ((r 15), .inl (cI, 104, .inl (oF sr))), ((r 9), .inl (cZ, 40, .inl (bF w))), ((r 7), .inl (cI, 40, .inl (oF an))), ((r 14), .inl (cI, 104, .inl (nF g))), ((r 19), .inl (cI, 120, .inl (nF cc))), ((r 21), .inl (cI, 3, .inl (nF (va_up ler j (le + 1)))))]) (w1 := [zR r cn mn mi nn, ((r 20), .inl (cI, 3, .inl (nF (va_up lg j kp)))), ((r 22), .inl (cI, 3, .inl (oF (dr_L lt sd j kp)))), ((r 23), .inl (cI, 3, .inl (oF (dr_S lt sd j kp))))]) hP hD hS hA [0, 8, 10, 11] [1, 2, 3, 4, 5, 6, 7, 9] rfl rfl (by decide) (by decide) (va_runV (As := [.int (nI j)]) (rest := []) ⟨hx, hb, hml, hown, htb⟩ (oc_R_drop l dC dI cI cJ cZ cP _ r cn mn mi nn (va_up lg j kp) lt sd j kp (by first | assumption | omega) (va_up_self _ _ _) (by omega)) (cwV 1 htb (gw_V kw_530 kw_532 kp_24 kw_5 kw_533) rfl rfl rfl (by decide +kernel) ⟨Nat.le_of_ble_eq_true rfl, Nat.le_of_ble_eq_true rfl⟩) (pr_V hP hK hD (va_recv hK hP (ci := 4) (q0 := 0) rfl rfl) [0, 8, 10, 11] (by decide) rfl rfl) rfl rfl hl.1 rfl (lv_room (Nat.le_of_ble_eq_true rfl)) dc_R_next_166 ⟨Nat.le_of_ble_eq_true rfl, Nat.le_of_ble_eq_true rfl⟩) (fun H locs hP hD hS => ?_)
      have hP : va_P (dC, dI) clsL [zR r cn mn mi nn, ((r 1), .inl (cI, 40, .inl (oF bf))), ((r 2), .inl (cI, 40, .inl (nF rc))), ((r 15), .inl (cI, 104, .inl (oF sr))), ((r 9), .inl (cZ, 40, .inl (bF w))), ((r 7), .inl (cI, 40, .inl (oF an))), ((r 14), .inl (cI, 104, .inl (nF g))), ((r 19), .inl (cI, 120, .inl (nF cc))), ((r 20), .inl (cI, 3, .inl (nF (va_up lg j kp)))), ((r 21), .inl (cI, 3, .inl (nF (va_up ler j (le + 1))))), ((r 22), .inl (cI, 3, .inl (oF (dr_L lt sd j kp)))), ((r 23), .inl (cI, 3, .inl (oF (dr_S lt sd j kp))))] H := hP.sub (ws' := [zR r cn mn mi nn, ((r 1), .inl (cI, 40, .inl (oF bf))), ((r 2), .inl (cI, 40, .inl (nF rc))), ((r 15), .inl (cI, 104, .inl (oF sr))), ((r 9), .inl (cZ, 40, .inl (bF w))), ((r 7), .inl (cI, 40, .inl (oF an))), ((r 14), .inl (cI, 104, .inl (nF g))), ((r 19), .inl (cI, 120, .inl (nF cc))), ((r 20), .inl (cI, 3, .inl (nF (va_up lg j kp)))), ((r 21), .inl (cI, 3, .inl (nF (va_up ler j (le + 1))))), ((r 22), .inl (cI, 3, .inl (oF (dr_L lt sd j kp)))), ((r 23), .inl (cI, 3, .inl (oF (dr_S lt sd j kp))))]) [8, 0, 1, 2, 3, 4, 5, 6, 9, 7, 10, 11] rfl
      have hD : va_D A [zR r cn mn mi nn, ((r 1), .inl (cI, 40, .inl (oF bf))), ((r 2), .inl (cI, 40, .inl (nF rc))), ((r 15), .inl (cI, 104, .inl (oF sr))), ((r 9), .inl (cZ, 40, .inl (bF w))), ((r 7), .inl (cI, 40, .inl (oF an))), ((r 14), .inl (cI, 104, .inl (nF g))), ((r 19), .inl (cI, 120, .inl (nF cc))), ((r 20), .inl (cI, 3, .inl (nF (va_up lg j kp)))), ((r 21), .inl (cI, 3, .inl (nF (va_up ler j (le + 1))))), ((r 22), .inl (cI, 3, .inl (oF (dr_L lt sd j kp)))), ((r 23), .inl (cI, 3, .inl (oF (dr_S lt sd j kp))))] := hD.sub (ws' := [zR r cn mn mi nn, ((r 1), .inl (cI, 40, .inl (oF bf))), ((r 2), .inl (cI, 40, .inl (nF rc))), ((r 15), .inl (cI, 104, .inl (oF sr))), ((r 9), .inl (cZ, 40, .inl (bF w))), ((r 7), .inl (cI, 40, .inl (oF an))), ((r 14), .inl (cI, 104, .inl (nF g))), ((r 19), .inl (cI, 120, .inl (nF cc))), ((r 20), .inl (cI, 3, .inl (nF (va_up lg j kp)))), ((r 21), .inl (cI, 3, .inl (nF (va_up ler j (le + 1))))), ((r 22), .inl (cI, 3, .inl (oF (dr_L lt sd j kp)))), ((r 23), .inl (cI, 3, .inl (oF (dr_S lt sd j kp))))]) [8, 0, 1, 2, 3, 4, 5, 6, 9, 7, 10, 11] (by decide) rfl
      refine lv_iload hx hb dc_R_next_169 (lv_at hl 1 rfl) ?_
      obtain rfl : n = k := by omega
      have hP8 := hP.sub (ws' := [zR r cn mn mi nn, ((r 1), .inl (cI, 40, .inl (oF bf))), ((r 2), .inl (cI, 40, .inl (nF rc))), ((r 15), .inl (cI, 104, .inl (oF sr))), ((r 9), .inl (cZ, 40, .inl (bF w))), ((r 7), .inl (cI, 40, .inl (oF an))), ((r 14), .inl (cI, 104, .inl (nF g))), ((r 19), .inl (cI, 120, .inl (nF cc))), ((r 20), .inl (cI, 3, .inl (nF (va_up lg j kp)))), ((r 21), .inl (cI, 3, .inl (nF (va_up ler j (le + 1))))), ((r 22), .inl (cI, 3, .inl (oF (dr_L lt sd j kp)))), ((r 23), .inl (cI, 3, .inl (oF (dr_S lt sd j kp))))]) [0, 1, 2, 3, 4, 5, 6, 7, 8, 9, 10, 11] rfl
      have hD8 := hD.sub (ws' := [zR r cn mn mi nn, ((r 1), .inl (cI, 40, .inl (oF bf))), ((r 2), .inl (cI, 40, .inl (nF rc))), ((r 15), .inl (cI, 104, .inl (oF sr))), ((r 9), .inl (cZ, 40, .inl (bF w))), ((r 7), .inl (cI, 40, .inl (oF an))), ((r 14), .inl (cI, 104, .inl (nF g))), ((r 19), .inl (cI, 120, .inl (nF cc))), ((r 20), .inl (cI, 3, .inl (nF (va_up lg j kp)))), ((r 21), .inl (cI, 3, .inl (nF (va_up ler j (le + 1))))), ((r 22), .inl (cI, 3, .inl (oF (dr_L lt sd j kp)))), ((r 23), .inl (cI, 3, .inl (oF (dr_S lt sd j kp))))]) [0, 1, 2, 3, 4, 5, 6, 7, 8, 9, 10, 11] (by decide) rfl
      have hW8 : ([zR r cn mn mi nn, ((r 1), .inl (cI, 40, .inl (oF bf))), ((r 2), .inl (cI, 40, .inl (nF rc))), ((r 15), .inl (cI, 104, .inl (oF sr))), ((r 9), .inl (cZ, 40, .inl (bF w))), ((r 7), .inl (cI, 40, .inl (oF an))), ((r 14), .inl (cI, 104, .inl (nF g))), ((r 19), .inl (cI, 120, .inl (nF cc))), ((r 20), .inl (cI, 3, .inl (nF (va_up lg j kp)))), ((r 21), .inl (cI, 3, .inl (nF (va_up ler j (le + 1))))), ((r 22), .inl (cI, 3, .inl (oF (dr_L lt sd j kp)))), ((r 23), .inl (cI, 3, .inl (oF (dr_S lt sd j kp))))] : va_W) = [zR r cn mn mi nn, ((r 1), .inl (cI, 40, .inl (oF bf))), ((r 2), .inl (cI, 40, .inl (nF rc))), ((r 15), .inl (cI, 104, .inl (oF sr))), ((r 9), .inl (cZ, 40, .inl (bF w))), ((r 7), .inl (cI, 40, .inl (oF an))), ((r 14), .inl (cI, 104, .inl (nF (gb_F su (fun i => rc (cc (40 * j + i))) (fun q => hi_B bf rc sr an (sr q) 0 (le + 1) cn) kp (n - kp))))), ((r 19), .inl (cI, 120, .inl (nF cc))), ((r 20), .inl (cI, 3, .inl (nF (va_up lg j kp)))), ((r 21), .inl (cI, 3, .inl (nF (va_up ler j (le + 1))))), ((r 22), .inl (cI, 3, .inl (oF (dr_L lt sd j kp)))), ((r 23), .inl (cI, 3, .inl (oF (dr_S lt sd j kp))))] := by rw [hI9.2.2]
      rw [hW8] at hP8 hD8
      have hP9 := hP8
      have hD9 := hD8
      exact W.iret (v := nI (n - kp)) hx hb hr (fun t ht hW => ⟨⟨_, w, rfl, rfl, by rw [ht]; exact hP9, va_K.moved hW.alike hK, hD9⟩, hS.F ht⟩) hS.2.2 dc_R_next_171
    · have hk : k < n := Nat.lt_of_not_le (fun h9 => hc ((nI_leI (by omega) (by omega)).mpr h9))
      have hc9 := hcc k hk
      have hc8 : cc (40 * j + k) < 40 := by omega
      have hm9 := hrc _ hc9
      refine lv_aload_n hx hb dc_R_next_99 rfl (lv_at hl 5 rfl) ?_
      refine va_get (D := (dC, dI)) (ci := 4) (v := .ref (r 2)) (C := cn_R) (T := ft_R) (N := 27) hx hb htb ki_R hown hK hP 0 rfl rfl 2 (by decide) (htb _ kw_372) (fun _ h9 => h9) rfl dc_R_next_100 ?_
      refine lv_aload_n hx hb dc_R_next_103 rfl (lv_at hl 5 rfl) ?_
      refine va_get (D := (dC, dI)) (ci := 4) (v := .ref (r 19)) (C := cn_R) (T := ft_R) (N := 27) hx hb htb ki_R hown hK hP 0 rfl rfl 19 (by decide) (htb _ kw_389) (fun _ h9 => h9) rfl dc_R_next_104 ?_
      refine lv_bipush (v := nI 40) hx hb dc_R_next_107 (by decide) ?_
      refine lv_iload_n hx hb dc_R_next_109 rfl (lv_at hl 4 rfl) ?_
      refine lv_imul hx hb dc_R_next_110 ?_
      refine tp_i (y := nI (40 * j)) (pk_mul _ _) ?_
      refine lv_iload hx hb dc_R_next_111 (lv_at hl 0 rfl) ?_
      refine lv_iadd hx hb dc_R_next_113 ?_
      refine tp_i (y := nI (40 * j + k)) (nI_add _ _) ?_
      refine wa_nld (k := 40 * j + k) hx hb hK hP 7 0 rfl rfl (by omega) (by omega) dc_R_next_114 ?_
      refine wa_nld (k := cc (40 * j + k)) hx hb hK hP 2 0 rfl rfl (hc8) (by omega) dc_R_next_115 ?_
      refine lv_istore (lv' := [(6, .int (nI (rc (cc (40 * j + k))))), (5, .int (nI k)), (4, .int (nI (n - kp))), (3, .int (nI kp)), (2, .int (nI le)), (1, .int (nI j)), (0, .ref (r 0))]) hx hb dc_R_next_116 hl (by decide) rfl (fun ls hl => ?_)
      refine lv_aload_n hx hb dc_R_next_118 rfl (lv_at hl 6 rfl) ?_
      refine va_get (D := (dC, dI)) (ci := 4) (v := .ref (r 14)) (C := cn_R) (T := ft_R) (N := 27) hx hb htb ki_R hown hK hP 0 rfl rfl 14 (by decide) (htb _ kw_384) (fun _ h9 => h9) rfl dc_R_next_119 ?_
      refine lv_iload hx hb dc_R_next_122 (lv_at hl 0 rfl) ?_
      refine lv_aload_n hx hb dc_R_next_124 rfl (lv_at hl 6 rfl) ?_
      refine lv_aload_n hx hb dc_R_next_125 rfl (lv_at hl 6 rfl) ?_
      refine va_get (D := (dC, dI)) (ci := 4) (v := .ref (r 15)) (C := cn_R) (T := ft_R) (N := 27) hx hb htb ki_R hown hK hP 0 rfl rfl 15 (by decide) (htb _ kw_385) (fun _ h9 => h9) rfl dc_R_next_126 ?_
      refine lv_iload hx hb dc_R_next_129 (lv_at hl 0 rfl) ?_
      refine wa_old (k := rc (cc (40 * j + k))) hx hb hK hP 3 0 rfl rfl (hm9) (by omega) dc_R_next_131 ?_
      refine lv_iconst (v := nI 0) hx hb dc_R_next_132 (by decide) ?_
      refine lv_aload_n hx hb dc_R_next_133 rfl (lv_at hl 6 rfl) ?_
      refine va_get (D := (dC, dI)) (ci := 4) (v := .ref (r 21)) (C := cn_R) (T := ft_R) (N := 27) hx hb htb ki_R hown hK hP 0 rfl rfl 21 (by decide) (htb _ kw_391) (fun _ h9 => h9) rfl dc_R_next_134 ?_
      refine lv_iload_n hx hb dc_R_next_137 rfl (lv_at hl 5 rfl) ?_
      refine wa_nld (k := j) hx hb hK hP 9 0 rfl rfl (by omega) (by omega) dc_R_next_138 ?_
      refine tp_i (y := nI (le + 1)) (by rw [va_up_self]) ?_
      refine cl_ix (wc := [zR r cn mn mi nn, ((r 1), .inl (cI, 40, .inl (oF bf))), ((r 2), .inl (cI, 40, .inl (nF rc))), ((r 15), .inl (cI, 104, .inl (oF sr))), ((r 9), .inl (cZ, 40, .inl (bF w))), ((r 7), .inl (cI, 40, .inl (oF an)))]) (wr := [((r 14), .inl (cI, 104, .inl (nF g))), ((r 19), .inl (cI, 120, .inl (nF cc))), ((r 20), .inl (cI, 3, .inl (nF lg))), ((r 21), .inl (cI, 3, .inl (nF (va_up ler j (le + 1))))), ((r 22), .inl (cI, 3, .inl (oF lt))), ((r 23), .inl (cI, 3, .inl (oF sd)))]) (w2 := (fun (mkz_1 : Nat → Bool) => [zR r cn mn mi nn, ((r 1), .inl (cI, 40, .inl (oF bf))), ((r 2), .inl (cI, 40, .inl (nF rc))), ((r 15), .inl (cI, 104, .inl (oF sr))), ((r 9), .inl (cZ, 40, .inl (bF mkz_1))), ((r 7), .inl (cI, 40, .inl (oF an)))])) hP hD hS hA [0, 1, 2, 3, 4, 5] [6, 7, 8, 9, 10, 11] rfl rfl (by decide) (by decide) (va_runV (As := [.int (oI (sr (rc (cc (40 * j + k))))), .int (nI 0), .int (nI (le + 1))]) (rest := [.int (nI (rc (cc (40 * j + k)))), .ref (r 14)]) ⟨hx, hb, hml, hown, htb⟩ (oc_R_isHit l dC dI cI cJ cZ cP _ r cn mn mi nn bf rc sr w an (sr (rc (cc (40 * j + k)))) 0 (le + 1) (hss k hk) hcn hbf hrc hsr) (cwV 3 htb (gw_V kw_474 kw_476 kp_16 kw_5 kw_477) rfl rfl rfl (by decide +kernel) ⟨Nat.le_of_ble_eq_true rfl, Nat.le_of_ble_eq_true rfl⟩) (pr_V hP hK hD (va_recv hK hP (ci := 4) (q0 := 0) rfl rfl) [0, 1, 2, 3, 4, 5] (by decide) rfl rfl) rfl rfl hl.1 rfl (lv_room (Nat.le_of_ble_eq_true rfl)) dc_R_next_139 ⟨Nat.le_of_ble_eq_true rfl, Nat.le_of_ble_eq_true rfl⟩) (fun mkz_1 H locs hP hD hS => ?_)
      have hP : va_P (dC, dI) clsL [zR r cn mn mi nn, ((r 1), .inl (cI, 40, .inl (oF bf))), ((r 2), .inl (cI, 40, .inl (nF rc))), ((r 15), .inl (cI, 104, .inl (oF sr))), ((r 9), .inl (cZ, 40, .inl (bF mkz_1))), ((r 7), .inl (cI, 40, .inl (oF an))), ((r 14), .inl (cI, 104, .inl (nF g))), ((r 19), .inl (cI, 120, .inl (nF cc))), ((r 20), .inl (cI, 3, .inl (nF lg))), ((r 21), .inl (cI, 3, .inl (nF (va_up ler j (le + 1))))), ((r 22), .inl (cI, 3, .inl (oF lt))), ((r 23), .inl (cI, 3, .inl (oF sd)))] H := hP.sub (ws' := [zR r cn mn mi nn, ((r 1), .inl (cI, 40, .inl (oF bf))), ((r 2), .inl (cI, 40, .inl (nF rc))), ((r 15), .inl (cI, 104, .inl (oF sr))), ((r 9), .inl (cZ, 40, .inl (bF mkz_1))), ((r 7), .inl (cI, 40, .inl (oF an))), ((r 14), .inl (cI, 104, .inl (nF g))), ((r 19), .inl (cI, 120, .inl (nF cc))), ((r 20), .inl (cI, 3, .inl (nF lg))), ((r 21), .inl (cI, 3, .inl (nF (va_up ler j (le + 1))))), ((r 22), .inl (cI, 3, .inl (oF lt))), ((r 23), .inl (cI, 3, .inl (oF sd)))]) [6, 7, 8, 9, 10, 11, 0, 1, 2, 3, 4, 5] rfl
      have hD : va_D A [zR r cn mn mi nn, ((r 1), .inl (cI, 40, .inl (oF bf))), ((r 2), .inl (cI, 40, .inl (nF rc))), ((r 15), .inl (cI, 104, .inl (oF sr))), ((r 9), .inl (cZ, 40, .inl (bF mkz_1))), ((r 7), .inl (cI, 40, .inl (oF an))), ((r 14), .inl (cI, 104, .inl (nF g))), ((r 19), .inl (cI, 120, .inl (nF cc))), ((r 20), .inl (cI, 3, .inl (nF lg))), ((r 21), .inl (cI, 3, .inl (nF (va_up ler j (le + 1))))), ((r 22), .inl (cI, 3, .inl (oF lt))), ((r 23), .inl (cI, 3, .inl (oF sd)))] := hD.sub (ws' := [zR r cn mn mi nn, ((r 1), .inl (cI, 40, .inl (oF bf))), ((r 2), .inl (cI, 40, .inl (nF rc))), ((r 15), .inl (cI, 104, .inl (oF sr))), ((r 9), .inl (cZ, 40, .inl (bF mkz_1))), ((r 7), .inl (cI, 40, .inl (oF an))), ((r 14), .inl (cI, 104, .inl (nF g))), ((r 19), .inl (cI, 120, .inl (nF cc))), ((r 20), .inl (cI, 3, .inl (nF lg))), ((r 21), .inl (cI, 3, .inl (nF (va_up ler j (le + 1))))), ((r 22), .inl (cI, 3, .inl (oF lt))), ((r 23), .inl (cI, 3, .inl (oF sd)))]) [6, 7, 8, 9, 10, 11, 0, 1, 2, 3, 4, 5] (by decide) rfl
      refine lv_if_eq (tgt := 149) hx hb dc_R_next_142 (by decide) (fun hc => ?_) (fun hc => ?_)
      · have h3 : (hi_B bf rc sr an (sr (rc (cc (40 * j + k)))) 0 (le + 1) cn) = false := bI_0.mp hc
        refine lv_iconst (v := nI 0) hx hb dc_R_next_149 (by decide) ?_
        refine wa_nst (k := rc (cc (40 * j + k))) (x := 0) hx hb hK hP hD hS 6 0 rfl rfl (hm9) (by omega) dc_R_next_150 (fun H locs hP hD hS => ?_)
        have hP : va_P (dC, dI) clsL [zR r cn mn mi nn, ((r 1), .inl (cI, 40, .inl (oF bf))), ((r 2), .inl (cI, 40, .inl (nF rc))), ((r 15), .inl (cI, 104, .inl (oF sr))), ((r 9), .inl (cZ, 40, .inl (bF mkz_1))), ((r 7), .inl (cI, 40, .inl (oF an))), ((r 14), .inl (cI, 104, .inl (nF (va_up g (rc (cc (40 * j + k))) 0)))), ((r 19), .inl (cI, 120, .inl (nF cc))), ((r 20), .inl (cI, 3, .inl (nF lg))), ((r 21), .inl (cI, 3, .inl (nF (va_up ler j (le + 1))))), ((r 22), .inl (cI, 3, .inl (oF lt))), ((r 23), .inl (cI, 3, .inl (oF sd)))] H := hP
        have hD : va_D A [zR r cn mn mi nn, ((r 1), .inl (cI, 40, .inl (oF bf))), ((r 2), .inl (cI, 40, .inl (nF rc))), ((r 15), .inl (cI, 104, .inl (oF sr))), ((r 9), .inl (cZ, 40, .inl (bF mkz_1))), ((r 7), .inl (cI, 40, .inl (oF an))), ((r 14), .inl (cI, 104, .inl (nF (va_up g (rc (cc (40 * j + k))) 0)))), ((r 19), .inl (cI, 120, .inl (nF cc))), ((r 20), .inl (cI, 3, .inl (nF lg))), ((r 21), .inl (cI, 3, .inl (nF (va_up ler j (le + 1))))), ((r 22), .inl (cI, 3, .inl (oF lt))), ((r 23), .inl (cI, 3, .inl (oF sd)))] := hD
        refine lv_iinc (k := 1) (v := nI (k + 1)) (lv' := [(5, .int (nI (k + 1))), (6, .int (nI (rc (cc (40 * j + k))))), (4, .int (nI (n - kp))), (3, .int (nI kp)), (2, .int (nI le)), (1, .int (nI j)), (0, .ref (r 0))]) hx hb dc_R_next_151 hl rfl (nI_inc1 _) (by decide) rfl (fun ls hl => ?_)
        refine lv_goto (tgt := 88) hx hb dc_R_next_154 (by decide) ?_
        exact ih88 (k + 1, va_up g (rc (cc (40 * j + k))) 0, mkz_1) H locs ls (by first | omega | (dsimp only; omega)) ⟨⟨by first | omega | (dsimp only; omega), by first | omega | (dsimp only; omega), by rw [hI9.2.2, show k + 1 - kp = (k - kp) + 1 by omega]; simp [gb_F, show kp + (k - kp) = k by omega, h3]⟩, hP, hD, hS, lv_sub hl [0, 2, 3, 4, 5, 6] rfl⟩
      · have h3 : (hi_B bf rc sr an (sr (rc (cc (40 * j + k)))) 0 (le + 1) cn) = true := bI_n0.mp hc
        refine lv_iconst (v := nI 3) hx hb dc_R_next_145 (by decide) ?_
        refine lv_goto (tgt := 150) hx hb dc_R_next_146 (by decide) ?_
        refine wa_nst (k := rc (cc (40 * j + k))) (x := 3) hx hb hK hP hD hS 6 0 rfl rfl (hm9) (by omega) dc_R_next_150 (fun H locs hP hD hS => ?_)
        have hP : va_P (dC, dI) clsL [zR r cn mn mi nn, ((r 1), .inl (cI, 40, .inl (oF bf))), ((r 2), .inl (cI, 40, .inl (nF rc))), ((r 15), .inl (cI, 104, .inl (oF sr))), ((r 9), .inl (cZ, 40, .inl (bF mkz_1))), ((r 7), .inl (cI, 40, .inl (oF an))), ((r 14), .inl (cI, 104, .inl (nF (va_up g (rc (cc (40 * j + k))) 3)))), ((r 19), .inl (cI, 120, .inl (nF cc))), ((r 20), .inl (cI, 3, .inl (nF lg))), ((r 21), .inl (cI, 3, .inl (nF (va_up ler j (le + 1))))), ((r 22), .inl (cI, 3, .inl (oF lt))), ((r 23), .inl (cI, 3, .inl (oF sd)))] H := hP
        have hD : va_D A [zR r cn mn mi nn, ((r 1), .inl (cI, 40, .inl (oF bf))), ((r 2), .inl (cI, 40, .inl (nF rc))), ((r 15), .inl (cI, 104, .inl (oF sr))), ((r 9), .inl (cZ, 40, .inl (bF mkz_1))), ((r 7), .inl (cI, 40, .inl (oF an))), ((r 14), .inl (cI, 104, .inl (nF (va_up g (rc (cc (40 * j + k))) 3)))), ((r 19), .inl (cI, 120, .inl (nF cc))), ((r 20), .inl (cI, 3, .inl (nF lg))), ((r 21), .inl (cI, 3, .inl (nF (va_up ler j (le + 1))))), ((r 22), .inl (cI, 3, .inl (oF lt))), ((r 23), .inl (cI, 3, .inl (oF sd)))] := hD
        refine lv_iinc (k := 1) (v := nI (k + 1)) (lv' := [(5, .int (nI (k + 1))), (6, .int (nI (rc (cc (40 * j + k))))), (4, .int (nI (n - kp))), (3, .int (nI kp)), (2, .int (nI le)), (1, .int (nI j)), (0, .ref (r 0))]) hx hb dc_R_next_151 hl rfl (nI_inc1 _) (by decide) rfl (fun ls hl => ?_)
        refine lv_goto (tgt := 88) hx hb dc_R_next_154 (by decide) ?_
        exact ih88 (k + 1, va_up g (rc (cc (40 * j + k))) 3, mkz_1) H locs ls (by first | omega | (dsimp only; omega)) ⟨⟨by first | omega | (dsimp only; omega), by first | omega | (dsimp only; omega), by rw [hI9.2.2, show k + 1 - kp = (k - kp) + 1 by omega]; simp [gb_F, show kp + (k - kp) = k by omega, h3]⟩, hP, hD, hS, lv_sub hl [0, 2, 3, 4, 5, 6] rfl⟩
  · have h1 : ¬ (pd_ kk) = none := fun h9 => hc ((oI_neg (pd_lt (by omega))).mpr h9)
    obtain ⟨q, hq⟩ : ∃ q, kk = q + 1 := pd_some h1
    have hqn : q < n := by omega
    have hqc := hcc q hqn
    refine lv_aload_n hx hb dc_R_next_39 rfl (lv_at hl 4 rfl) ?_
    refine lv_aload_n hx hb dc_R_next_40 rfl (lv_at hl 4 rfl) ?_
    refine va_get (D := (dC, dI)) (ci := 4) (v := .ref (r 19)) (C := cn_R) (T := ft_R) (N := 27) hx hb htb ki_R hown hK hP 0 rfl rfl 19 (by decide) (htb _ kw_389) (fun _ h9 => h9) rfl dc_R_next_41 ?_
    refine lv_bipush (v := nI 40) hx hb dc_R_next_44 (by decide) ?_
    refine lv_iload_n hx hb dc_R_next_46 rfl (lv_at hl 3 rfl) ?_
    refine lv_imul hx hb dc_R_next_47 ?_
    refine tp_i (y := nI (40 * j)) (pk_mul _ _) ?_
    refine lv_iload hx hb dc_R_next_48 (lv_at hl 0 rfl) ?_
    refine tp_i (y := nI q) (by rw [hq]; rfl) ?_
    refine lv_iadd hx hb dc_R_next_50 ?_
    refine tp_i (y := nI (40 * j + q)) (nI_add _ _) ?_
    refine wa_nld (k := 40 * j + q) hx hb hK hP 7 0 rfl rfl (by omega) (by omega) dc_R_next_51 ?_
    refine tp_i (y := oI (some (cc (40 * j + q)))) (rfl) ?_
    refine lv_iload_n hx hb dc_R_next_52 rfl (lv_at hl 2 rfl) ?_
    refine lv_iload_n hx hb dc_R_next_53 rfl (lv_at hl 2 rfl) ?_
    refine lv_iconst (v := nI 1) hx hb dc_R_next_54 (by decide) ?_
    refine lv_iadd hx hb dc_R_next_55 ?_
    refine tp_i (y := nI (le + 1)) (nI_add _ _) ?_
    refine cl_ix (wc := [zR r cn mn mi nn, ((r 1), .inl (cI, 40, .inl (oF bf))), ((r 2), .inl (cI, 40, .inl (nF rc))), ((r 15), .inl (cI, 104, .inl (oF sr))), ((r 9), .inl (cZ, 40, .inl (bF g))), ((r 7), .inl (cI, 40, .inl (oF an)))]) (wr := [((r 14), .inl (cI, 104, .inl (nF su))), ((r 19), .inl (cI, 120, .inl (nF cc))), ((r 20), .inl (cI, 3, .inl (nF lg))), ((r 21), .inl (cI, 3, .inl (nF (va_up ler j (le + 1))))), ((r 22), .inl (cI, 3, .inl (oF lt))), ((r 23), .inl (cI, 3, .inl (oF sd)))]) (w2 := (fun (mkz_2 : Nat → Bool) => [zR r cn mn mi nn, ((r 1), .inl (cI, 40, .inl (oF bf))), ((r 2), .inl (cI, 40, .inl (nF rc))), ((r 15), .inl (cI, 104, .inl (oF sr))), ((r 9), .inl (cZ, 40, .inl (bF mkz_2))), ((r 7), .inl (cI, 40, .inl (oF an)))])) hP hD hS hA [0, 1, 2, 3, 4, 5] [6, 7, 8, 9, 10, 11] rfl rfl (by decide) (by decide) (va_runV (As := [.int (oI (some (cc (40 * j + q)))), .int (nI le), .int (nI (le + 1))]) (rest := []) ⟨hx, hb, hml, hown, htb⟩ (oc_R_isHit l dC dI cI cJ cZ cP _ r cn mn mi nn bf rc sr g an (some (cc (40 * j + q))) le (le + 1) (fun i w => by cases w; exact hqc) hcn hbf hrc hsr) (cwV 3 htb (gw_V kw_474 kw_476 kp_16 kw_5 kw_477) rfl rfl rfl (by decide +kernel) ⟨Nat.le_of_ble_eq_true rfl, Nat.le_of_ble_eq_true rfl⟩) (pr_V hP hK hD (va_recv hK hP (ci := 4) (q0 := 0) rfl rfl) [0, 1, 2, 3, 4, 5] (by decide) rfl rfl) rfl rfl hl.1 rfl (lv_room (Nat.le_of_ble_eq_true rfl)) dc_R_next_56 ⟨Nat.le_of_ble_eq_true rfl, Nat.le_of_ble_eq_true rfl⟩) (fun mkz_2 H locs hP hD hS => ?_)
    have hP : va_P (dC, dI) clsL [zR r cn mn mi nn, ((r 1), .inl (cI, 40, .inl (oF bf))), ((r 2), .inl (cI, 40, .inl (nF rc))), ((r 15), .inl (cI, 104, .inl (oF sr))), ((r 9), .inl (cZ, 40, .inl (bF mkz_2))), ((r 7), .inl (cI, 40, .inl (oF an))), ((r 14), .inl (cI, 104, .inl (nF su))), ((r 19), .inl (cI, 120, .inl (nF cc))), ((r 20), .inl (cI, 3, .inl (nF lg))), ((r 21), .inl (cI, 3, .inl (nF (va_up ler j (le + 1))))), ((r 22), .inl (cI, 3, .inl (oF lt))), ((r 23), .inl (cI, 3, .inl (oF sd)))] H := hP.sub (ws' := [zR r cn mn mi nn, ((r 1), .inl (cI, 40, .inl (oF bf))), ((r 2), .inl (cI, 40, .inl (nF rc))), ((r 15), .inl (cI, 104, .inl (oF sr))), ((r 9), .inl (cZ, 40, .inl (bF mkz_2))), ((r 7), .inl (cI, 40, .inl (oF an))), ((r 14), .inl (cI, 104, .inl (nF su))), ((r 19), .inl (cI, 120, .inl (nF cc))), ((r 20), .inl (cI, 3, .inl (nF lg))), ((r 21), .inl (cI, 3, .inl (nF (va_up ler j (le + 1))))), ((r 22), .inl (cI, 3, .inl (oF lt))), ((r 23), .inl (cI, 3, .inl (oF sd)))]) [6, 7, 8, 9, 10, 11, 0, 1, 2, 3, 4, 5] rfl
    have hD : va_D A [zR r cn mn mi nn, ((r 1), .inl (cI, 40, .inl (oF bf))), ((r 2), .inl (cI, 40, .inl (nF rc))), ((r 15), .inl (cI, 104, .inl (oF sr))), ((r 9), .inl (cZ, 40, .inl (bF mkz_2))), ((r 7), .inl (cI, 40, .inl (oF an))), ((r 14), .inl (cI, 104, .inl (nF su))), ((r 19), .inl (cI, 120, .inl (nF cc))), ((r 20), .inl (cI, 3, .inl (nF lg))), ((r 21), .inl (cI, 3, .inl (nF (va_up ler j (le + 1))))), ((r 22), .inl (cI, 3, .inl (oF lt))), ((r 23), .inl (cI, 3, .inl (oF sd)))] := hD.sub (ws' := [zR r cn mn mi nn, ((r 1), .inl (cI, 40, .inl (oF bf))), ((r 2), .inl (cI, 40, .inl (nF rc))), ((r 15), .inl (cI, 104, .inl (oF sr))), ((r 9), .inl (cZ, 40, .inl (bF mkz_2))), ((r 7), .inl (cI, 40, .inl (oF an))), ((r 14), .inl (cI, 104, .inl (nF su))), ((r 19), .inl (cI, 120, .inl (nF cc))), ((r 20), .inl (cI, 3, .inl (nF lg))), ((r 21), .inl (cI, 3, .inl (nF (va_up ler j (le + 1))))), ((r 22), .inl (cI, 3, .inl (oF lt))), ((r 23), .inl (cI, 3, .inl (oF sd)))]) [6, 7, 8, 9, 10, 11, 0, 1, 2, 3, 4, 5] (by decide) rfl
    refine lv_if_eq (tgt := 67) hx hb dc_R_next_59 (by decide) (fun hc => ?_) (fun hc => ?_)
    · have h2 : (hi_B bf rc sr an (some (cc (40 * j + q))) le (le + 1) cn) = false := bI_0.mp hc
      refine lv_iload_n hx hb dc_R_next_67 rfl (lv_at hl 1 rfl) ?_
      refine lv_istore_n (lv' := [(3, .int (nI z)), (4, .int (oI (pd_ kk))), (2, .int (nI le)), (1, .int (nI j)), (0, .ref (r 0))]) hx hb dc_R_next_68 rfl hl (by decide) rfl (fun ls hl => ?_)
      refine lv_iinc (k := 1) (v := oI (pd_ q)) (lv' := [(4, .int (oI (pd_ q))), (3, .int (nI z)), (2, .int (nI le)), (1, .int (nI j)), (0, .ref (r 0))]) hx hb dc_R_next_69 hl rfl (by rw [hq]; exact pd_dec (by omega)) (by decide) rfl (fun ls hl => ?_)
      refine lv_goto (tgt := 34) hx hb dc_R_next_72 (by decide) ?_
      exact ih34 (q, z, mkz_2) H locs ls (by first | omega | (dsimp only; omega)) ⟨⟨by first | omega | (dsimp only; omega), by dsimp only; rw [show n - q = (n - (q + 1)) + 1 by omega]; first | (rw [hI.2, hq]; simp [fo_N, h2]; done) | (simp [fo_N, h2]; done)⟩, hP, hD, hS, lv_sub hl [0, 1, 2, 3, 4] rfl⟩
    · have h2 : (hi_B bf rc sr an (some (cc (40 * j + q))) le (le + 1) cn) = true := bI_n0.mp hc
      refine lv_iload hx hb dc_R_next_62 (lv_at hl 0 rfl) ?_
      refine tp_i (y := nI q) (by rw [hq]; rfl) ?_
      refine lv_goto (tgt := 68) hx hb dc_R_next_64 (by decide) ?_
      refine lv_istore_n (lv' := [(3, .int (nI q)), (4, .int (oI (pd_ kk))), (2, .int (nI le)), (1, .int (nI j)), (0, .ref (r 0))]) hx hb dc_R_next_68 rfl hl (by decide) rfl (fun ls hl => ?_)
      refine lv_iinc (k := 1) (v := oI (pd_ q)) (lv' := [(4, .int (oI (pd_ q))), (3, .int (nI q)), (2, .int (nI le)), (1, .int (nI j)), (0, .ref (r 0))]) hx hb dc_R_next_69 hl rfl (by rw [hq]; exact pd_dec (by omega)) (by decide) rfl (fun ls hl => ?_)
      refine lv_goto (tgt := 34) hx hb dc_R_next_72 (by decide) ?_
      exact ih34 (q, q, mkz_2) H locs ls (by first | omega | (dsimp only; omega)) ⟨⟨by first | omega | (dsimp only; omega), by dsimp only; rw [show n - q = (n - (q + 1)) + 1 by omega]; first | (rw [hI.2, hq]; simp [fo_N, h2]; done) | (simp [fo_N, h2]; done)⟩, hP, hD, hS, lv_sub hl [0, 1, 2, 3, 4] rfl⟩

set_option maxHeartbeats 4000000 in
set_option maxRecDepth 100000 in
theorem oc_R_outputs_no (l : Launch) (dC : Nat → ClassId) (dI : Nat → Nat → Nat) (cI cJ cZ cP : ClassId) (sz : Nat) (r : Nat → Nat) (cn : Nat) (mn : Nat) (mi : Nat) (nn : Nat) (y : Int32) (hy : y < 0 ∨ nI 3 ≤ y) : mt_I l mn_R_outputs bc_R_outputs 2 (some .int) ({ frames := 1, cells := 0, slots := 0, locals := 21 }) (dC, dI) (TYS cI cJ cZ cP) sz [.ref (r 0), .int y] [zR r cn mn mi nn] [zR r cn mn mi nn] ((-1)) 0 0 := by
  unfold mt_I
  refine Met.ofW (cc := bc_R_outputs) (maxL := 2) (ret := (some .int)) (by decide) rfl ?_
  intro p e s m args below meth c s₁ B hml hv
  obtain ⟨rfl, hsz, hP, hK, hD0⟩ := hv
  have hx := B.exec
  have hb := B.bytes
  have hr := B.returns
  have hts := atoms_spec (ws := wsT mn_R_outputs bc_R_outputs 2 (some .int)) B.pre
  have htb : ∀ w ∈ gtbl, w.before _ s = true := fun w h => hts w (List.mem_cons_of_mem _ h)
  have hown : s.vm.findClass cn_R = some m.cls := findClass_of_methodNamed B.named
  have hlocks := B.notSynchronized
  subst hsz
  have hD := hD0.self (sz := s.heap.size)
  generalize hAe : va_A [zR r cn mn mi nn] s.heap.size = A at hD ⊢
  have hA : ∀ q : Nat, s.heap.size ≤ q → A q := fun q h => by rw [← hAe]; exact Or.inr h
  have hS : va_S A s.heap s.heap [] := va_S.rf
  have hP : va_P (dC, dI) clsL [zR r cn mn mi nn] s.heap := hP
  have hl := lv_entry ([.ref (r 0), .int y]) (n := 2) (Nat.le_of_ble_eq_true rfl)
  rw [lg_entry_eq]
  generalize (lg_sl ([.ref (r 0), .int y]) ++ List.replicate (2 - (lg_sl ([.ref (r 0), .int y])).length) Slot.unset).toArray = ls at hl ⊢
  have hl : lv_has ls 2 [(0, .ref (r 0)), (1, .int y)] := hl
  refine lv_aload_n hx hb dc_R_outputs_0 rfl (lv_at hl 0 rfl) ?_
  refine lv_iload_n hx hb dc_R_outputs_1 rfl (lv_at hl 1 rfl) ?_
  refine cl_i (wc := [zR r cn mn mi nn]) (wr := []) (w1 := [zR r cn mn mi nn]) hP hD hS hA [0] [] rfl rfl (by decide) (by decide) (va_runV (As := [.int y]) (rest := []) ⟨hx, hb, hml, hown, htb⟩ (oc_R_isProcess_no l dC dI cI cJ cZ cP _ r cn mn mi nn y (by first | assumption | omega)) (cwV 1 htb (gw_V kw_458 kw_460 kp_13 kw_5 kw_461) rfl rfl rfl (by decide +kernel) ⟨Nat.le_of_ble_eq_true rfl, Nat.le_of_ble_eq_true rfl⟩) (pr_V hP hK hD (va_recv hK hP (ci := 4) (q0 := 0) rfl rfl) [0] (by decide) rfl rfl) rfl rfl hl.1 rfl (lv_room (Nat.le_of_ble_eq_true rfl)) dc_R_outputs_2 ⟨Nat.le_of_ble_eq_true rfl, Nat.le_of_ble_eq_true rfl⟩) (fun H locs hP hD hS => ?_)
  have hP : va_P (dC, dI) clsL [zR r cn mn mi nn] H := hP.sub (ws' := [zR r cn mn mi nn]) [0] rfl
  have hD : va_D A [zR r cn mn mi nn] := hD.sub (ws' := [zR r cn mn mi nn]) [0] (by decide) rfl
  refine lv_if_eq (tgt := 17) hx hb dc_R_outputs_5 (by decide) (fun hc => ?_) (fun hc => ?_)
  rotate_left
  · have h1 : false = true := bI_n0.mp hc
    exact absurd h1 (by decide)
  have h1 : false = false := bI_0.mp hc
  refine lv_iconst (v := (-1)) hx hb dc_R_outputs_17 (by decide) ?_
  have hP9 := hP.sub (ws' := [zR r cn mn mi nn]) [0] rfl
  have hD9 := hD.sub (ws' := [zR r cn mn mi nn]) [0] (by decide) rfl
  exact W.iret (v := (-1)) hx hb hr (fun t ht hW => ⟨⟨_, (), rfl, rfl, by rw [ht]; exact hP9, va_K.moved hW.alike hK, hD9⟩, hS.F ht⟩) hS.2.2 dc_R_outputs_18

set_option maxHeartbeats 4000000 in
set_option maxRecDepth 100000 in
theorem oc_R_outputs (l : Launch) (dC : Nat → ClassId) (dI : Nat → Nat → Nat) (cI cJ cZ cP : ClassId) (sz : Nat) (r : Nat → Nat) (cn : Nat) (mn : Nat) (mi : Nat) (nn : Nat) (sn : Nat → Nat) (j : Nat) (hj : j < 3) : mt_I l mn_R_outputs bc_R_outputs 2 (some .int) ({ frames := 1, cells := 0, slots := 0, locals := 21 }) (dC, dI) (TYS cI cJ cZ cP) sz [.ref (r 0), .int (nI j)] [zR r cn mn mi nn, ((r 26), .inl (cI, 3, .inl (nF sn)))] [zR r cn mn mi nn, ((r 26), .inl (cI, 3, .inl (nF sn)))] (nI (sn j)) 0 0 := by
  unfold mt_I
  refine Met.ofW (cc := bc_R_outputs) (maxL := 2) (ret := (some .int)) (by decide) rfl ?_
  intro p e s m args below meth c s₁ B hml hv
  obtain ⟨rfl, hsz, hP, hK, hD0⟩ := hv
  have hx := B.exec
  have hb := B.bytes
  have hr := B.returns
  have hts := atoms_spec (ws := wsT mn_R_outputs bc_R_outputs 2 (some .int)) B.pre
  have htb : ∀ w ∈ gtbl, w.before _ s = true := fun w h => hts w (List.mem_cons_of_mem _ h)
  have hown : s.vm.findClass cn_R = some m.cls := findClass_of_methodNamed B.named
  have hlocks := B.notSynchronized
  subst hsz
  have hD := hD0.self (sz := s.heap.size)
  generalize hAe : va_A [zR r cn mn mi nn, ((r 26), .inl (cI, 3, .inl (nF sn)))] s.heap.size = A at hD ⊢
  have hA : ∀ q : Nat, s.heap.size ≤ q → A q := fun q h => by rw [← hAe]; exact Or.inr h
  have hS : va_S A s.heap s.heap [] := va_S.rf
  have hP : va_P (dC, dI) clsL [zR r cn mn mi nn, ((r 26), .inl (cI, 3, .inl (nF sn)))] s.heap := hP
  have hl := lv_entry ([.ref (r 0), .int (nI j)]) (n := 2) (Nat.le_of_ble_eq_true rfl)
  rw [lg_entry_eq]
  generalize (lg_sl ([.ref (r 0), .int (nI j)]) ++ List.replicate (2 - (lg_sl ([.ref (r 0), .int (nI j)])).length) Slot.unset).toArray = ls at hl ⊢
  have hl : lv_has ls 2 [(0, .ref (r 0)), (1, .int (nI j))] := hl
  refine lv_aload_n hx hb dc_R_outputs_0 rfl (lv_at hl 0 rfl) ?_
  refine lv_iload_n hx hb dc_R_outputs_1 rfl (lv_at hl 1 rfl) ?_
  refine cl_i (wc := [zR r cn mn mi nn]) (wr := [((r 26), .inl (cI, 3, .inl (nF sn)))]) (w1 := [zR r cn mn mi nn]) hP hD hS hA [0] [1] rfl rfl (by decide) (by decide) (va_runV (As := [.int (nI j)]) (rest := []) ⟨hx, hb, hml, hown, htb⟩ (oc_R_isProcess l dC dI cI cJ cZ cP _ r cn mn mi nn j (by first | assumption | omega)) (cwV 1 htb (gw_V kw_458 kw_460 kp_13 kw_5 kw_461) rfl rfl rfl (by decide +kernel) ⟨Nat.le_of_ble_eq_true rfl, Nat.le_of_ble_eq_true rfl⟩) (pr_V hP hK hD (va_recv hK hP (ci := 4) (q0 := 0) rfl rfl) [0] (by decide) rfl rfl) rfl rfl hl.1 rfl (lv_room (Nat.le_of_ble_eq_true rfl)) dc_R_outputs_2 ⟨Nat.le_of_ble_eq_true rfl, Nat.le_of_ble_eq_true rfl⟩) (fun H locs hP hD hS => ?_)
  have hP : va_P (dC, dI) clsL [zR r cn mn mi nn, ((r 26), .inl (cI, 3, .inl (nF sn)))] H := hP.sub (ws' := [zR r cn mn mi nn, ((r 26), .inl (cI, 3, .inl (nF sn)))]) [1, 0] rfl
  have hD : va_D A [zR r cn mn mi nn, ((r 26), .inl (cI, 3, .inl (nF sn)))] := hD.sub (ws' := [zR r cn mn mi nn, ((r 26), .inl (cI, 3, .inl (nF sn)))]) [1, 0] (by decide) rfl
  refine lv_if_eq (tgt := 17) hx hb dc_R_outputs_5 (by decide) (fun hc => ?_) (fun hc => ?_)
  · have h1 : true = false := bI_0.mp hc
    exact absurd h1 (by decide)
  have h1 : true = true := bI_n0.mp hc
  refine lv_aload_n hx hb dc_R_outputs_8 rfl (lv_at hl 0 rfl) ?_
  refine va_get (D := (dC, dI)) (ci := 4) (v := .ref (r 26)) (C := cn_R) (T := ft_R) (N := 27) hx hb htb ki_R hown hK hP 0 rfl rfl 26 (by decide) (htb _ kw_396) (fun _ h9 => h9) rfl dc_R_outputs_9 ?_
  refine lv_iload_n hx hb dc_R_outputs_12 rfl (lv_at hl 1 rfl) ?_
  refine wa_nld (k := j) hx hb hK hP 1 0 rfl rfl (by omega) (by omega) dc_R_outputs_13 ?_
  refine lv_goto (tgt := 18) hx hb dc_R_outputs_14 (by decide) ?_
  have hP9 := hP.sub (ws' := [zR r cn mn mi nn, ((r 26), .inl (cI, 3, .inl (nF sn)))]) [0, 1] rfl
  have hD9 := hD.sub (ws' := [zR r cn mn mi nn, ((r 26), .inl (cI, 3, .inl (nF sn)))]) [0, 1] (by decide) rfl
  exact W.iret (v := nI (sn j)) hx hb hr (fun t ht hW => ⟨⟨_, (), rfl, rfl, by rw [ht]; exact hP9, va_K.moved hW.alike hK, hD9⟩, hS.F ht⟩) hS.2.2 dc_R_outputs_18

set_option maxHeartbeats 4000000 in
set_option maxRecDepth 100000 in
theorem oc_R_known_no (l : Launch) (dC : Nat → ClassId) (dI : Nat → Nat → Nat) (cI cJ cZ cP : ClassId) (sz : Nat) (r : Nat → Nat) (cn : Nat) (mn : Nat) (mi : Nat) (nn : Nat) (y : Int32) (hy : y < 0 ∨ nI 3 ≤ y) : mt_I l mn_R_known bc_R_known 2 (some .int) ({ frames := 1, cells := 0, slots := 0, locals := 21 }) (dC, dI) (TYS cI cJ cZ cP) sz [.ref (r 0), .int y] [zR r cn mn mi nn] [zR r cn mn mi nn] ((-1)) 0 0 := by
  unfold mt_I
  refine Met.ofW (cc := bc_R_known) (maxL := 2) (ret := (some .int)) (by decide) rfl ?_
  intro p e s m args below meth c s₁ B hml hv
  obtain ⟨rfl, hsz, hP, hK, hD0⟩ := hv
  have hx := B.exec
  have hb := B.bytes
  have hr := B.returns
  have hts := atoms_spec (ws := wsT mn_R_known bc_R_known 2 (some .int)) B.pre
  have htb : ∀ w ∈ gtbl, w.before _ s = true := fun w h => hts w (List.mem_cons_of_mem _ h)
  have hown : s.vm.findClass cn_R = some m.cls := findClass_of_methodNamed B.named
  have hlocks := B.notSynchronized
  subst hsz
  have hD := hD0.self (sz := s.heap.size)
  generalize hAe : va_A [zR r cn mn mi nn] s.heap.size = A at hD ⊢
  have hA : ∀ q : Nat, s.heap.size ≤ q → A q := fun q h => by rw [← hAe]; exact Or.inr h
  have hS : va_S A s.heap s.heap [] := va_S.rf
  have hP : va_P (dC, dI) clsL [zR r cn mn mi nn] s.heap := hP
  have hl := lv_entry ([.ref (r 0), .int y]) (n := 2) (Nat.le_of_ble_eq_true rfl)
  rw [lg_entry_eq]
  generalize (lg_sl ([.ref (r 0), .int y]) ++ List.replicate (2 - (lg_sl ([.ref (r 0), .int y])).length) Slot.unset).toArray = ls at hl ⊢
  have hl : lv_has ls 2 [(0, .ref (r 0)), (1, .int y)] := hl
  refine lv_aload_n hx hb dc_R_known_0 rfl (lv_at hl 0 rfl) ?_
  refine lv_iload_n hx hb dc_R_known_1 rfl (lv_at hl 1 rfl) ?_
  refine cl_i (wc := [zR r cn mn mi nn]) (wr := []) (w1 := [zR r cn mn mi nn]) hP hD hS hA [0] [] rfl rfl (by decide) (by decide) (va_runV (As := [.int y]) (rest := []) ⟨hx, hb, hml, hown, htb⟩ (oc_R_isProcess_no l dC dI cI cJ cZ cP _ r cn mn mi nn y (by first | assumption | omega)) (cwV 1 htb (gw_V kw_458 kw_460 kp_13 kw_5 kw_461) rfl rfl rfl (by decide +kernel) ⟨Nat.le_of_ble_eq_true rfl, Nat.le_of_ble_eq_true rfl⟩) (pr_V hP hK hD (va_recv hK hP (ci := 4) (q0 := 0) rfl rfl) [0] (by decide) rfl rfl) rfl rfl hl.1 rfl (lv_room (Nat.le_of_ble_eq_true rfl)) dc_R_known_2 ⟨Nat.le_of_ble_eq_true rfl, Nat.le_of_ble_eq_true rfl⟩) (fun H locs hP hD hS => ?_)
  have hP : va_P (dC, dI) clsL [zR r cn mn mi nn] H := hP.sub (ws' := [zR r cn mn mi nn]) [0] rfl
  have hD : va_D A [zR r cn mn mi nn] := hD.sub (ws' := [zR r cn mn mi nn]) [0] (by decide) rfl
  refine lv_if_eq (tgt := 17) hx hb dc_R_known_5 (by decide) (fun hc => ?_) (fun hc => ?_)
  rotate_left
  · have h1 : false = true := bI_n0.mp hc
    exact absurd h1 (by decide)
  have h1 : false = false := bI_0.mp hc
  refine lv_iconst (v := (-1)) hx hb dc_R_known_17 (by decide) ?_
  have hP9 := hP.sub (ws' := [zR r cn mn mi nn]) [0] rfl
  have hD9 := hD.sub (ws' := [zR r cn mn mi nn]) [0] (by decide) rfl
  exact W.iret (v := (-1)) hx hb hr (fun t ht hW => ⟨⟨_, (), rfl, rfl, by rw [ht]; exact hP9, va_K.moved hW.alike hK, hD9⟩, hS.F ht⟩) hS.2.2 dc_R_known_18

set_option maxHeartbeats 4000000 in
set_option maxRecDepth 100000 in
theorem oc_R_known (l : Launch) (dC : Nat → ClassId) (dI : Nat → Nat → Nat) (cI cJ cZ cP : ClassId) (sz : Nat) (r : Nat → Nat) (cn : Nat) (mn : Nat) (mi : Nat) (nn : Nat) (ler : Nat → Nat) (j : Nat) (hj : j < 3) : mt_I l mn_R_known bc_R_known 2 (some .int) ({ frames := 1, cells := 0, slots := 0, locals := 21 }) (dC, dI) (TYS cI cJ cZ cP) sz [.ref (r 0), .int (nI j)] [zR r cn mn mi nn, ((r 21), .inl (cI, 3, .inl (nF ler)))] [zR r cn mn mi nn, ((r 21), .inl (cI, 3, .inl (nF ler)))] (nI (ler j)) 0 0 := by
  unfold mt_I
  refine Met.ofW (cc := bc_R_known) (maxL := 2) (ret := (some .int)) (by decide) rfl ?_
  intro p e s m args below meth c s₁ B hml hv
  obtain ⟨rfl, hsz, hP, hK, hD0⟩ := hv
  have hx := B.exec
  have hb := B.bytes
  have hr := B.returns
  have hts := atoms_spec (ws := wsT mn_R_known bc_R_known 2 (some .int)) B.pre
  have htb : ∀ w ∈ gtbl, w.before _ s = true := fun w h => hts w (List.mem_cons_of_mem _ h)
  have hown : s.vm.findClass cn_R = some m.cls := findClass_of_methodNamed B.named
  have hlocks := B.notSynchronized
  subst hsz
  have hD := hD0.self (sz := s.heap.size)
  generalize hAe : va_A [zR r cn mn mi nn, ((r 21), .inl (cI, 3, .inl (nF ler)))] s.heap.size = A at hD ⊢
  have hA : ∀ q : Nat, s.heap.size ≤ q → A q := fun q h => by rw [← hAe]; exact Or.inr h
  have hS : va_S A s.heap s.heap [] := va_S.rf
  have hP : va_P (dC, dI) clsL [zR r cn mn mi nn, ((r 21), .inl (cI, 3, .inl (nF ler)))] s.heap := hP
  have hl := lv_entry ([.ref (r 0), .int (nI j)]) (n := 2) (Nat.le_of_ble_eq_true rfl)
  rw [lg_entry_eq]
  generalize (lg_sl ([.ref (r 0), .int (nI j)]) ++ List.replicate (2 - (lg_sl ([.ref (r 0), .int (nI j)])).length) Slot.unset).toArray = ls at hl ⊢
  have hl : lv_has ls 2 [(0, .ref (r 0)), (1, .int (nI j))] := hl
  refine lv_aload_n hx hb dc_R_known_0 rfl (lv_at hl 0 rfl) ?_
  refine lv_iload_n hx hb dc_R_known_1 rfl (lv_at hl 1 rfl) ?_
  refine cl_i (wc := [zR r cn mn mi nn]) (wr := [((r 21), .inl (cI, 3, .inl (nF ler)))]) (w1 := [zR r cn mn mi nn]) hP hD hS hA [0] [1] rfl rfl (by decide) (by decide) (va_runV (As := [.int (nI j)]) (rest := []) ⟨hx, hb, hml, hown, htb⟩ (oc_R_isProcess l dC dI cI cJ cZ cP _ r cn mn mi nn j (by first | assumption | omega)) (cwV 1 htb (gw_V kw_458 kw_460 kp_13 kw_5 kw_461) rfl rfl rfl (by decide +kernel) ⟨Nat.le_of_ble_eq_true rfl, Nat.le_of_ble_eq_true rfl⟩) (pr_V hP hK hD (va_recv hK hP (ci := 4) (q0 := 0) rfl rfl) [0] (by decide) rfl rfl) rfl rfl hl.1 rfl (lv_room (Nat.le_of_ble_eq_true rfl)) dc_R_known_2 ⟨Nat.le_of_ble_eq_true rfl, Nat.le_of_ble_eq_true rfl⟩) (fun H locs hP hD hS => ?_)
  have hP : va_P (dC, dI) clsL [zR r cn mn mi nn, ((r 21), .inl (cI, 3, .inl (nF ler)))] H := hP.sub (ws' := [zR r cn mn mi nn, ((r 21), .inl (cI, 3, .inl (nF ler)))]) [1, 0] rfl
  have hD : va_D A [zR r cn mn mi nn, ((r 21), .inl (cI, 3, .inl (nF ler)))] := hD.sub (ws' := [zR r cn mn mi nn, ((r 21), .inl (cI, 3, .inl (nF ler)))]) [1, 0] (by decide) rfl
  refine lv_if_eq (tgt := 17) hx hb dc_R_known_5 (by decide) (fun hc => ?_) (fun hc => ?_)
  · have h1 : true = false := bI_0.mp hc
    exact absurd h1 (by decide)
  have h1 : true = true := bI_n0.mp hc
  refine lv_aload_n hx hb dc_R_known_8 rfl (lv_at hl 0 rfl) ?_
  refine va_get (D := (dC, dI)) (ci := 4) (v := .ref (r 21)) (C := cn_R) (T := ft_R) (N := 27) hx hb htb ki_R hown hK hP 0 rfl rfl 21 (by decide) (htb _ kw_391) (fun _ h9 => h9) rfl dc_R_known_9 ?_
  refine lv_iload_n hx hb dc_R_known_12 rfl (lv_at hl 1 rfl) ?_
  refine wa_nld (k := j) hx hb hK hP 1 0 rfl rfl (by omega) (by omega) dc_R_known_13 ?_
  refine lv_goto (tgt := 18) hx hb dc_R_known_14 (by decide) ?_
  have hP9 := hP.sub (ws' := [zR r cn mn mi nn, ((r 21), .inl (cI, 3, .inl (nF ler)))]) [0, 1] rfl
  have hD9 := hD.sub (ws' := [zR r cn mn mi nn, ((r 21), .inl (cI, 3, .inl (nF ler)))]) [0, 1] (by decide) rfl
  exact W.iret (v := nI (ler j)) hx hb hr (fun t ht hW => ⟨⟨_, (), rfl, rfl, by rw [ht]; exact hP9, va_K.moved hW.alike hK, hD9⟩, hS.F ht⟩) hS.2.2 dc_R_known_18

set_option maxHeartbeats 4000000 in
set_option maxRecDepth 100000 in
theorem oc_R_replayed_no (l : Launch) (dC : Nat → ClassId) (dI : Nat → Nat → Nat) (cI cJ cZ cP : ClassId) (sz : Nat) (r : Nat → Nat) (cn : Nat) (mn : Nat) (mi : Nat) (nn : Nat) (y : Int32) (hy : y < 0 ∨ nI 3 ≤ y) : mt_I l mn_R_replayed bc_R_replayed 2 (some .int) ({ frames := 1, cells := 0, slots := 0, locals := 21 }) (dC, dI) (TYS cI cJ cZ cP) sz [.ref (r 0), .int y] [zR r cn mn mi nn] [zR r cn mn mi nn] ((-1)) 0 0 := by
  unfold mt_I
  refine Met.ofW (cc := bc_R_replayed) (maxL := 2) (ret := (some .int)) (by decide) rfl ?_
  intro p e s m args below meth c s₁ B hml hv
  obtain ⟨rfl, hsz, hP, hK, hD0⟩ := hv
  have hx := B.exec
  have hb := B.bytes
  have hr := B.returns
  have hts := atoms_spec (ws := wsT mn_R_replayed bc_R_replayed 2 (some .int)) B.pre
  have htb : ∀ w ∈ gtbl, w.before _ s = true := fun w h => hts w (List.mem_cons_of_mem _ h)
  have hown : s.vm.findClass cn_R = some m.cls := findClass_of_methodNamed B.named
  have hlocks := B.notSynchronized
  subst hsz
  have hD := hD0.self (sz := s.heap.size)
  generalize hAe : va_A [zR r cn mn mi nn] s.heap.size = A at hD ⊢
  have hA : ∀ q : Nat, s.heap.size ≤ q → A q := fun q h => by rw [← hAe]; exact Or.inr h
  have hS : va_S A s.heap s.heap [] := va_S.rf
  have hP : va_P (dC, dI) clsL [zR r cn mn mi nn] s.heap := hP
  have hl := lv_entry ([.ref (r 0), .int y]) (n := 2) (Nat.le_of_ble_eq_true rfl)
  rw [lg_entry_eq]
  generalize (lg_sl ([.ref (r 0), .int y]) ++ List.replicate (2 - (lg_sl ([.ref (r 0), .int y])).length) Slot.unset).toArray = ls at hl ⊢
  have hl : lv_has ls 2 [(0, .ref (r 0)), (1, .int y)] := hl
  refine lv_aload_n hx hb dc_R_replayed_0 rfl (lv_at hl 0 rfl) ?_
  refine lv_iload_n hx hb dc_R_replayed_1 rfl (lv_at hl 1 rfl) ?_
  refine cl_i (wc := [zR r cn mn mi nn]) (wr := []) (w1 := [zR r cn mn mi nn]) hP hD hS hA [0] [] rfl rfl (by decide) (by decide) (va_runV (As := [.int y]) (rest := []) ⟨hx, hb, hml, hown, htb⟩ (oc_R_isProcess_no l dC dI cI cJ cZ cP _ r cn mn mi nn y (by first | assumption | omega)) (cwV 1 htb (gw_V kw_458 kw_460 kp_13 kw_5 kw_461) rfl rfl rfl (by decide +kernel) ⟨Nat.le_of_ble_eq_true rfl, Nat.le_of_ble_eq_true rfl⟩) (pr_V hP hK hD (va_recv hK hP (ci := 4) (q0 := 0) rfl rfl) [0] (by decide) rfl rfl) rfl rfl hl.1 rfl (lv_room (Nat.le_of_ble_eq_true rfl)) dc_R_replayed_2 ⟨Nat.le_of_ble_eq_true rfl, Nat.le_of_ble_eq_true rfl⟩) (fun H locs hP hD hS => ?_)
  have hP : va_P (dC, dI) clsL [zR r cn mn mi nn] H := hP.sub (ws' := [zR r cn mn mi nn]) [0] rfl
  have hD : va_D A [zR r cn mn mi nn] := hD.sub (ws' := [zR r cn mn mi nn]) [0] (by decide) rfl
  refine lv_if_eq (tgt := 17) hx hb dc_R_replayed_5 (by decide) (fun hc => ?_) (fun hc => ?_)
  rotate_left
  · have h1 : false = true := bI_n0.mp hc
    exact absurd h1 (by decide)
  have h1 : false = false := bI_0.mp hc
  refine lv_iconst (v := (-1)) hx hb dc_R_replayed_17 (by decide) ?_
  have hP9 := hP.sub (ws' := [zR r cn mn mi nn]) [0] rfl
  have hD9 := hD.sub (ws' := [zR r cn mn mi nn]) [0] (by decide) rfl
  exact W.iret (v := (-1)) hx hb hr (fun t ht hW => ⟨⟨_, (), rfl, rfl, by rw [ht]; exact hP9, va_K.moved hW.alike hK, hD9⟩, hS.F ht⟩) hS.2.2 dc_R_replayed_18

set_option maxHeartbeats 4000000 in
set_option maxRecDepth 100000 in
theorem oc_R_replayed (l : Launch) (dC : Nat → ClassId) (dI : Nat → Nat → Nat) (cI cJ cZ cP : ClassId) (sz : Nat) (r : Nat → Nat) (cn : Nat) (mn : Nat) (mi : Nat) (nn : Nat) (pl : Nat → Int32) (j : Nat) (hj : j < 3) : mt_I l mn_R_replayed bc_R_replayed 2 (some .int) ({ frames := 1, cells := 0, slots := 0, locals := 21 }) (dC, dI) (TYS cI cJ cZ cP) sz [.ref (r 0), .int (nI j)] [zR r cn mn mi nn, ((r 24), .inl (cI, 3, .inl pl))] [zR r cn mn mi nn, ((r 24), .inl (cI, 3, .inl pl))] ((pl j)) 0 0 := by
  unfold mt_I
  refine Met.ofW (cc := bc_R_replayed) (maxL := 2) (ret := (some .int)) (by decide) rfl ?_
  intro p e s m args below meth c s₁ B hml hv
  obtain ⟨rfl, hsz, hP, hK, hD0⟩ := hv
  have hx := B.exec
  have hb := B.bytes
  have hr := B.returns
  have hts := atoms_spec (ws := wsT mn_R_replayed bc_R_replayed 2 (some .int)) B.pre
  have htb : ∀ w ∈ gtbl, w.before _ s = true := fun w h => hts w (List.mem_cons_of_mem _ h)
  have hown : s.vm.findClass cn_R = some m.cls := findClass_of_methodNamed B.named
  have hlocks := B.notSynchronized
  subst hsz
  have hD := hD0.self (sz := s.heap.size)
  generalize hAe : va_A [zR r cn mn mi nn, ((r 24), .inl (cI, 3, .inl pl))] s.heap.size = A at hD ⊢
  have hA : ∀ q : Nat, s.heap.size ≤ q → A q := fun q h => by rw [← hAe]; exact Or.inr h
  have hS : va_S A s.heap s.heap [] := va_S.rf
  have hP : va_P (dC, dI) clsL [zR r cn mn mi nn, ((r 24), .inl (cI, 3, .inl pl))] s.heap := hP
  have hl := lv_entry ([.ref (r 0), .int (nI j)]) (n := 2) (Nat.le_of_ble_eq_true rfl)
  rw [lg_entry_eq]
  generalize (lg_sl ([.ref (r 0), .int (nI j)]) ++ List.replicate (2 - (lg_sl ([.ref (r 0), .int (nI j)])).length) Slot.unset).toArray = ls at hl ⊢
  have hl : lv_has ls 2 [(0, .ref (r 0)), (1, .int (nI j))] := hl
  refine lv_aload_n hx hb dc_R_replayed_0 rfl (lv_at hl 0 rfl) ?_
  refine lv_iload_n hx hb dc_R_replayed_1 rfl (lv_at hl 1 rfl) ?_
  refine cl_i (wc := [zR r cn mn mi nn]) (wr := [((r 24), .inl (cI, 3, .inl pl))]) (w1 := [zR r cn mn mi nn]) hP hD hS hA [0] [1] rfl rfl (by decide) (by decide) (va_runV (As := [.int (nI j)]) (rest := []) ⟨hx, hb, hml, hown, htb⟩ (oc_R_isProcess l dC dI cI cJ cZ cP _ r cn mn mi nn j (by first | assumption | omega)) (cwV 1 htb (gw_V kw_458 kw_460 kp_13 kw_5 kw_461) rfl rfl rfl (by decide +kernel) ⟨Nat.le_of_ble_eq_true rfl, Nat.le_of_ble_eq_true rfl⟩) (pr_V hP hK hD (va_recv hK hP (ci := 4) (q0 := 0) rfl rfl) [0] (by decide) rfl rfl) rfl rfl hl.1 rfl (lv_room (Nat.le_of_ble_eq_true rfl)) dc_R_replayed_2 ⟨Nat.le_of_ble_eq_true rfl, Nat.le_of_ble_eq_true rfl⟩) (fun H locs hP hD hS => ?_)
  have hP : va_P (dC, dI) clsL [zR r cn mn mi nn, ((r 24), .inl (cI, 3, .inl pl))] H := hP.sub (ws' := [zR r cn mn mi nn, ((r 24), .inl (cI, 3, .inl pl))]) [1, 0] rfl
  have hD : va_D A [zR r cn mn mi nn, ((r 24), .inl (cI, 3, .inl pl))] := hD.sub (ws' := [zR r cn mn mi nn, ((r 24), .inl (cI, 3, .inl pl))]) [1, 0] (by decide) rfl
  refine lv_if_eq (tgt := 17) hx hb dc_R_replayed_5 (by decide) (fun hc => ?_) (fun hc => ?_)
  · have h1 : true = false := bI_0.mp hc
    exact absurd h1 (by decide)
  have h1 : true = true := bI_n0.mp hc
  refine lv_aload_n hx hb dc_R_replayed_8 rfl (lv_at hl 0 rfl) ?_
  refine va_get (D := (dC, dI)) (ci := 4) (v := .ref (r 24)) (C := cn_R) (T := ft_R) (N := 27) hx hb htb ki_R hown hK hP 0 rfl rfl 24 (by decide) (htb _ kw_394) (fun _ h9 => h9) rfl dc_R_replayed_9 ?_
  refine lv_iload_n hx hb dc_R_replayed_12 rfl (lv_at hl 1 rfl) ?_
  refine wa_ild (k := j) hx hb hK hP 1 0 rfl rfl (by omega) (by omega) dc_R_replayed_13 ?_
  refine lv_goto (tgt := 18) hx hb dc_R_replayed_14 (by decide) ?_
  have hP9 := hP.sub (ws' := [zR r cn mn mi nn, ((r 24), .inl (cI, 3, .inl pl))]) [0, 1] rfl
  have hD9 := hD.sub (ws' := [zR r cn mn mi nn, ((r 24), .inl (cI, 3, .inl pl))]) [0, 1] (by decide) rfl
  exact W.iret (v := pl j) hx hb hr (fun t ht hW => ⟨⟨_, (), rfl, rfl, by rw [ht]; exact hP9, va_K.moved hW.alike hK, hD9⟩, hS.F ht⟩) hS.2.2 dc_R_replayed_18

set_option maxHeartbeats 4000000 in
set_option maxRecDepth 100000 in
theorem oc_R_length_no (l : Launch) (dC : Nat → ClassId) (dI : Nat → Nat → Nat) (cI cJ cZ cP : ClassId) (sz : Nat) (r : Nat → Nat) (cn : Nat) (mn : Nat) (mi : Nat) (nn : Nat) (y : Int32) (hy : y < 0 ∨ nI 3 ≤ y) : mt_I l mn_R_length bc_R_length 2 (some .int) ({ frames := 2, cells := 0, slots := 0, locals := 42 }) (dC, dI) (TYS cI cJ cZ cP) sz [.ref (r 0), .int y] [zR r cn mn mi nn] [zR r cn mn mi nn] ((-1)) 0 0 := by
  unfold mt_I
  refine Met.ofW (cc := bc_R_length) (maxL := 2) (ret := (some .int)) (by decide) rfl ?_
  intro p e s m args below meth c s₁ B hml hv
  obtain ⟨rfl, hsz, hP, hK, hD0⟩ := hv
  have hx := B.exec
  have hb := B.bytes
  have hr := B.returns
  have hts := atoms_spec (ws := wsT mn_R_length bc_R_length 2 (some .int)) B.pre
  have htb : ∀ w ∈ gtbl, w.before _ s = true := fun w h => hts w (List.mem_cons_of_mem _ h)
  have hown : s.vm.findClass cn_R = some m.cls := findClass_of_methodNamed B.named
  have hlocks := B.notSynchronized
  subst hsz
  have hD := hD0.self (sz := s.heap.size)
  generalize hAe : va_A [zR r cn mn mi nn] s.heap.size = A at hD ⊢
  have hA : ∀ q : Nat, s.heap.size ≤ q → A q := fun q h => by rw [← hAe]; exact Or.inr h
  have hS : va_S A s.heap s.heap [] := va_S.rf
  have hP : va_P (dC, dI) clsL [zR r cn mn mi nn] s.heap := hP
  have hl := lv_entry ([.ref (r 0), .int y]) (n := 2) (Nat.le_of_ble_eq_true rfl)
  rw [lg_entry_eq]
  generalize (lg_sl ([.ref (r 0), .int y]) ++ List.replicate (2 - (lg_sl ([.ref (r 0), .int y])).length) Slot.unset).toArray = ls at hl ⊢
  have hl : lv_has ls 2 [(0, .ref (r 0)), (1, .int y)] := hl
  refine lv_aload_n hx hb dc_R_length_0 rfl (lv_at hl 0 rfl) ?_
  refine lv_iload_n hx hb dc_R_length_1 rfl (lv_at hl 1 rfl) ?_
  refine cl_i (wc := [zR r cn mn mi nn]) (wr := []) (w1 := [zR r cn mn mi nn]) hP hD hS hA [0] [] rfl rfl (by decide) (by decide) (va_runV (As := [.int y]) (rest := []) ⟨hx, hb, hml, hown, htb⟩ (oc_R_isUp_no l dC dI cI cJ cZ cP _ r cn mn mi nn y (by first | assumption | omega)) (cwV 1 htb (gw_V kw_502 kw_504 kp_21 kw_5 kw_505) rfl rfl rfl (by decide +kernel) ⟨Nat.le_of_ble_eq_true rfl, Nat.le_of_ble_eq_true rfl⟩) (pr_V hP hK hD (va_recv hK hP (ci := 4) (q0 := 0) rfl rfl) [0] (by decide) rfl rfl) rfl rfl hl.1 rfl (lv_room (Nat.le_of_ble_eq_true rfl)) dc_R_length_2 ⟨Nat.le_of_ble_eq_true rfl, Nat.le_of_ble_eq_true rfl⟩) (fun H locs hP hD hS => ?_)
  have hP : va_P (dC, dI) clsL [zR r cn mn mi nn] H := hP.sub (ws' := [zR r cn mn mi nn]) [0] rfl
  have hD : va_D A [zR r cn mn mi nn] := hD.sub (ws' := [zR r cn mn mi nn]) [0] (by decide) rfl
  refine lv_if_eq (tgt := 17) hx hb dc_R_length_5 (by decide) (fun hc => ?_) (fun hc => ?_)
  rotate_left
  · have h1 : false = true := bI_n0.mp hc
    exact absurd h1 (by decide)
  have h1 : false = false := bI_0.mp hc
  refine lv_iconst (v := (-1)) hx hb dc_R_length_17 (by decide) ?_
  have hP9 := hP.sub (ws' := [zR r cn mn mi nn]) [0] rfl
  have hD9 := hD.sub (ws' := [zR r cn mn mi nn]) [0] (by decide) rfl
  exact W.iret (v := (-1)) hx hb hr (fun t ht hW => ⟨⟨_, (), rfl, rfl, by rw [ht]; exact hP9, va_K.moved hW.alike hK, hD9⟩, hS.F ht⟩) hS.2.2 dc_R_length_18

set_option maxHeartbeats 4000000 in
set_option maxRecDepth 100000 in
theorem oc_R_length_dn (l : Launch) (dC : Nat → ClassId) (dI : Nat → Nat → Nat) (cI cJ cZ cP : ClassId) (sz : Nat) (r : Nat → Nat) (cn : Nat) (mn : Nat) (mi : Nat) (nn : Nat) (dw : Nat → Bool) (j : Nat) (hj : j < 3) (hdw : dw j = true) : mt_I l mn_R_length bc_R_length 2 (some .int) ({ frames := 2, cells := 0, slots := 0, locals := 42 }) (dC, dI) (TYS cI cJ cZ cP) sz [.ref (r 0), .int (nI j)] [zR r cn mn mi nn, ((r 18), .inl (cZ, 3, .inl (bF dw)))] [zR r cn mn mi nn, ((r 18), .inl (cZ, 3, .inl (bF dw)))] ((-1)) 0 0 := by
  unfold mt_I
  refine Met.ofW (cc := bc_R_length) (maxL := 2) (ret := (some .int)) (by decide) rfl ?_
  intro p e s m args below meth c s₁ B hml hv
  obtain ⟨rfl, hsz, hP, hK, hD0⟩ := hv
  have hx := B.exec
  have hb := B.bytes
  have hr := B.returns
  have hts := atoms_spec (ws := wsT mn_R_length bc_R_length 2 (some .int)) B.pre
  have htb : ∀ w ∈ gtbl, w.before _ s = true := fun w h => hts w (List.mem_cons_of_mem _ h)
  have hown : s.vm.findClass cn_R = some m.cls := findClass_of_methodNamed B.named
  have hlocks := B.notSynchronized
  subst hsz
  have hD := hD0.self (sz := s.heap.size)
  generalize hAe : va_A [zR r cn mn mi nn, ((r 18), .inl (cZ, 3, .inl (bF dw)))] s.heap.size = A at hD ⊢
  have hA : ∀ q : Nat, s.heap.size ≤ q → A q := fun q h => by rw [← hAe]; exact Or.inr h
  have hS : va_S A s.heap s.heap [] := va_S.rf
  have hP : va_P (dC, dI) clsL [zR r cn mn mi nn, ((r 18), .inl (cZ, 3, .inl (bF dw)))] s.heap := hP
  have hl := lv_entry ([.ref (r 0), .int (nI j)]) (n := 2) (Nat.le_of_ble_eq_true rfl)
  rw [lg_entry_eq]
  generalize (lg_sl ([.ref (r 0), .int (nI j)]) ++ List.replicate (2 - (lg_sl ([.ref (r 0), .int (nI j)])).length) Slot.unset).toArray = ls at hl ⊢
  have hl : lv_has ls 2 [(0, .ref (r 0)), (1, .int (nI j))] := hl
  refine lv_aload_n hx hb dc_R_length_0 rfl (lv_at hl 0 rfl) ?_
  refine lv_iload_n hx hb dc_R_length_1 rfl (lv_at hl 1 rfl) ?_
  refine cl_i (wc := [zR r cn mn mi nn, ((r 18), .inl (cZ, 3, .inl (bF dw)))]) (wr := []) (w1 := [zR r cn mn mi nn, ((r 18), .inl (cZ, 3, .inl (bF dw)))]) hP hD hS hA [0, 1] [] rfl rfl (by decide) (by decide) (va_runV (As := [.int (nI j)]) (rest := []) ⟨hx, hb, hml, hown, htb⟩ (oc_R_isUp l dC dI cI cJ cZ cP _ r cn mn mi nn dw j (by first | assumption | omega)) (cwV 1 htb (gw_V kw_502 kw_504 kp_21 kw_5 kw_505) rfl rfl rfl (by decide +kernel) ⟨Nat.le_of_ble_eq_true rfl, Nat.le_of_ble_eq_true rfl⟩) (pr_V hP hK hD (va_recv hK hP (ci := 4) (q0 := 0) rfl rfl) [0, 1] (by decide) rfl rfl) rfl rfl hl.1 rfl (lv_room (Nat.le_of_ble_eq_true rfl)) dc_R_length_2 ⟨Nat.le_of_ble_eq_true rfl, Nat.le_of_ble_eq_true rfl⟩) (fun H locs hP hD hS => ?_)
  have hP : va_P (dC, dI) clsL [zR r cn mn mi nn, ((r 18), .inl (cZ, 3, .inl (bF dw)))] H := hP.sub (ws' := [zR r cn mn mi nn, ((r 18), .inl (cZ, 3, .inl (bF dw)))]) [0, 1] rfl
  have hD : va_D A [zR r cn mn mi nn, ((r 18), .inl (cZ, 3, .inl (bF dw)))] := hD.sub (ws' := [zR r cn mn mi nn, ((r 18), .inl (cZ, 3, .inl (bF dw)))]) [0, 1] (by decide) rfl
  refine lv_if_eq (tgt := 17) hx hb dc_R_length_5 (by decide) (fun hc => ?_) (fun hc => ?_)
  rotate_left
  · have h1 : (!(dw j)) = true := bI_n0.mp hc
    exact absurd h1 (by rw [hdw]; decide)
  have h1 : (!(dw j)) = false := bI_0.mp hc
  refine lv_iconst (v := (-1)) hx hb dc_R_length_17 (by decide) ?_
  have hP9 := hP.sub (ws' := [zR r cn mn mi nn, ((r 18), .inl (cZ, 3, .inl (bF dw)))]) [0, 1] rfl
  have hD9 := hD.sub (ws' := [zR r cn mn mi nn, ((r 18), .inl (cZ, 3, .inl (bF dw)))]) [0, 1] (by decide) rfl
  exact W.iret (v := (-1)) hx hb hr (fun t ht hW => ⟨⟨_, (), rfl, rfl, by rw [ht]; exact hP9, va_K.moved hW.alike hK, hD9⟩, hS.F ht⟩) hS.2.2 dc_R_length_18

set_option maxHeartbeats 4000000 in
set_option maxRecDepth 100000 in
theorem oc_R_length (l : Launch) (dC : Nat → ClassId) (dI : Nat → Nat → Nat) (cI cJ cZ cP : ClassId) (sz : Nat) (r : Nat → Nat) (cn : Nat) (mn : Nat) (mi : Nat) (nn : Nat) (dw : Nat → Bool) (lg : Nat → Nat) (j : Nat) (hj : j < 3) (hdw : dw j = false) : mt_I l mn_R_length bc_R_length 2 (some .int) ({ frames := 2, cells := 0, slots := 0, locals := 42 }) (dC, dI) (TYS cI cJ cZ cP) sz [.ref (r 0), .int (nI j)] [zR r cn mn mi nn, ((r 18), .inl (cZ, 3, .inl (bF dw))), ((r 20), .inl (cI, 3, .inl (nF lg)))] [zR r cn mn mi nn, ((r 18), .inl (cZ, 3, .inl (bF dw))), ((r 20), .inl (cI, 3, .inl (nF lg)))] (nI (lg j)) 0 0 := by
  unfold mt_I
  refine Met.ofW (cc := bc_R_length) (maxL := 2) (ret := (some .int)) (by decide) rfl ?_
  intro p e s m args below meth c s₁ B hml hv
  obtain ⟨rfl, hsz, hP, hK, hD0⟩ := hv
  have hx := B.exec
  have hb := B.bytes
  have hr := B.returns
  have hts := atoms_spec (ws := wsT mn_R_length bc_R_length 2 (some .int)) B.pre
  have htb : ∀ w ∈ gtbl, w.before _ s = true := fun w h => hts w (List.mem_cons_of_mem _ h)
  have hown : s.vm.findClass cn_R = some m.cls := findClass_of_methodNamed B.named
  have hlocks := B.notSynchronized
  subst hsz
  have hD := hD0.self (sz := s.heap.size)
  generalize hAe : va_A [zR r cn mn mi nn, ((r 18), .inl (cZ, 3, .inl (bF dw))), ((r 20), .inl (cI, 3, .inl (nF lg)))] s.heap.size = A at hD ⊢
  have hA : ∀ q : Nat, s.heap.size ≤ q → A q := fun q h => by rw [← hAe]; exact Or.inr h
  have hS : va_S A s.heap s.heap [] := va_S.rf
  have hP : va_P (dC, dI) clsL [zR r cn mn mi nn, ((r 18), .inl (cZ, 3, .inl (bF dw))), ((r 20), .inl (cI, 3, .inl (nF lg)))] s.heap := hP
  have hl := lv_entry ([.ref (r 0), .int (nI j)]) (n := 2) (Nat.le_of_ble_eq_true rfl)
  rw [lg_entry_eq]
  generalize (lg_sl ([.ref (r 0), .int (nI j)]) ++ List.replicate (2 - (lg_sl ([.ref (r 0), .int (nI j)])).length) Slot.unset).toArray = ls at hl ⊢
  have hl : lv_has ls 2 [(0, .ref (r 0)), (1, .int (nI j))] := hl
  refine lv_aload_n hx hb dc_R_length_0 rfl (lv_at hl 0 rfl) ?_
  refine lv_iload_n hx hb dc_R_length_1 rfl (lv_at hl 1 rfl) ?_
  refine cl_i (wc := [zR r cn mn mi nn, ((r 18), .inl (cZ, 3, .inl (bF dw)))]) (wr := [((r 20), .inl (cI, 3, .inl (nF lg)))]) (w1 := [zR r cn mn mi nn, ((r 18), .inl (cZ, 3, .inl (bF dw)))]) hP hD hS hA [0, 1] [2] rfl rfl (by decide) (by decide) (va_runV (As := [.int (nI j)]) (rest := []) ⟨hx, hb, hml, hown, htb⟩ (oc_R_isUp l dC dI cI cJ cZ cP _ r cn mn mi nn dw j (by first | assumption | omega)) (cwV 1 htb (gw_V kw_502 kw_504 kp_21 kw_5 kw_505) rfl rfl rfl (by decide +kernel) ⟨Nat.le_of_ble_eq_true rfl, Nat.le_of_ble_eq_true rfl⟩) (pr_V hP hK hD (va_recv hK hP (ci := 4) (q0 := 0) rfl rfl) [0, 1] (by decide) rfl rfl) rfl rfl hl.1 rfl (lv_room (Nat.le_of_ble_eq_true rfl)) dc_R_length_2 ⟨Nat.le_of_ble_eq_true rfl, Nat.le_of_ble_eq_true rfl⟩) (fun H locs hP hD hS => ?_)
  have hP : va_P (dC, dI) clsL [zR r cn mn mi nn, ((r 18), .inl (cZ, 3, .inl (bF dw))), ((r 20), .inl (cI, 3, .inl (nF lg)))] H := hP.sub (ws' := [zR r cn mn mi nn, ((r 18), .inl (cZ, 3, .inl (bF dw))), ((r 20), .inl (cI, 3, .inl (nF lg)))]) [1, 2, 0] rfl
  have hD : va_D A [zR r cn mn mi nn, ((r 18), .inl (cZ, 3, .inl (bF dw))), ((r 20), .inl (cI, 3, .inl (nF lg)))] := hD.sub (ws' := [zR r cn mn mi nn, ((r 18), .inl (cZ, 3, .inl (bF dw))), ((r 20), .inl (cI, 3, .inl (nF lg)))]) [1, 2, 0] (by decide) rfl
  refine lv_if_eq (tgt := 17) hx hb dc_R_length_5 (by decide) (fun hc => ?_) (fun hc => ?_)
  · have h1 : (!(dw j)) = false := bI_0.mp hc
    exact absurd h1 (by rw [hdw]; decide)
  have h1 : (!(dw j)) = true := bI_n0.mp hc
  refine lv_aload_n hx hb dc_R_length_8 rfl (lv_at hl 0 rfl) ?_
  refine va_get (D := (dC, dI)) (ci := 4) (v := .ref (r 20)) (C := cn_R) (T := ft_R) (N := 27) hx hb htb ki_R hown hK hP 0 rfl rfl 20 (by decide) (htb _ kw_390) (fun _ h9 => h9) rfl dc_R_length_9 ?_
  refine lv_iload_n hx hb dc_R_length_12 rfl (lv_at hl 1 rfl) ?_
  refine wa_nld (k := j) hx hb hK hP 2 0 rfl rfl (by omega) (by omega) dc_R_length_13 ?_
  refine lv_goto (tgt := 18) hx hb dc_R_length_14 (by decide) ?_
  have hP9 := hP.sub (ws' := [zR r cn mn mi nn, ((r 18), .inl (cZ, 3, .inl (bF dw))), ((r 20), .inl (cI, 3, .inl (nF lg)))]) [0, 1, 2] rfl
  have hD9 := hD.sub (ws' := [zR r cn mn mi nn, ((r 18), .inl (cZ, 3, .inl (bF dw))), ((r 20), .inl (cI, 3, .inl (nF lg)))]) [0, 1, 2] (by decide) rfl
  exact W.iret (v := nI (lg j)) hx hb hr (fun t ht hW => ⟨⟨_, (), rfl, rfl, by rw [ht]; exact hP9, va_K.moved hW.alike hK, hD9⟩, hS.F ht⟩) hS.2.2 dc_R_length_18

set_option maxHeartbeats 4000000 in
set_option maxRecDepth 100000 in
theorem oc_R_state_no (l : Launch) (dC : Nat → ClassId) (dI : Nat → Nat → Nat) (cI cJ cZ cP : ClassId) (sz : Nat) (r : Nat → Nat) (cn : Nat) (mn : Nat) (mi : Nat) (nn : Nat) (y : Int32) (hy : y < 0 ∨ nI 3 ≤ y) : mt_I l mn_R_state bc_R_state 2 (some .int) ({ frames := 2, cells := 0, slots := 0, locals := 42 }) (dC, dI) (TYS cI cJ cZ cP) sz [.ref (r 0), .int y] [zR r cn mn mi nn] [zR r cn mn mi nn] (nI 0) 0 0 := by
  unfold mt_I
  refine Met.ofW (cc := bc_R_state) (maxL := 2) (ret := (some .int)) (by decide) rfl ?_
  intro p e s m args below meth c s₁ B hml hv
  obtain ⟨rfl, hsz, hP, hK, hD0⟩ := hv
  have hx := B.exec
  have hb := B.bytes
  have hr := B.returns
  have hts := atoms_spec (ws := wsT mn_R_state bc_R_state 2 (some .int)) B.pre
  have htb : ∀ w ∈ gtbl, w.before _ s = true := fun w h => hts w (List.mem_cons_of_mem _ h)
  have hown : s.vm.findClass cn_R = some m.cls := findClass_of_methodNamed B.named
  have hlocks := B.notSynchronized
  subst hsz
  have hD := hD0.self (sz := s.heap.size)
  generalize hAe : va_A [zR r cn mn mi nn] s.heap.size = A at hD ⊢
  have hA : ∀ q : Nat, s.heap.size ≤ q → A q := fun q h => by rw [← hAe]; exact Or.inr h
  have hS : va_S A s.heap s.heap [] := va_S.rf
  have hP : va_P (dC, dI) clsL [zR r cn mn mi nn] s.heap := hP
  have hl := lv_entry ([.ref (r 0), .int y]) (n := 2) (Nat.le_of_ble_eq_true rfl)
  rw [lg_entry_eq]
  generalize (lg_sl ([.ref (r 0), .int y]) ++ List.replicate (2 - (lg_sl ([.ref (r 0), .int y])).length) Slot.unset).toArray = ls at hl ⊢
  have hl : lv_has ls 2 [(0, .ref (r 0)), (1, .int y)] := hl
  refine lv_aload_n hx hb dc_R_state_0 rfl (lv_at hl 0 rfl) ?_
  refine lv_iload_n hx hb dc_R_state_1 rfl (lv_at hl 1 rfl) ?_
  refine cl_i (wc := [zR r cn mn mi nn]) (wr := []) (w1 := [zR r cn mn mi nn]) hP hD hS hA [0] [] rfl rfl (by decide) (by decide) (va_runV (As := [.int y]) (rest := []) ⟨hx, hb, hml, hown, htb⟩ (oc_R_isUp_no l dC dI cI cJ cZ cP _ r cn mn mi nn y (by first | assumption | omega)) (cwV 1 htb (gw_V kw_502 kw_504 kp_21 kw_5 kw_505) rfl rfl rfl (by decide +kernel) ⟨Nat.le_of_ble_eq_true rfl, Nat.le_of_ble_eq_true rfl⟩) (pr_V hP hK hD (va_recv hK hP (ci := 4) (q0 := 0) rfl rfl) [0] (by decide) rfl rfl) rfl rfl hl.1 rfl (lv_room (Nat.le_of_ble_eq_true rfl)) dc_R_state_2 ⟨Nat.le_of_ble_eq_true rfl, Nat.le_of_ble_eq_true rfl⟩) (fun H locs hP hD hS => ?_)
  have hP : va_P (dC, dI) clsL [zR r cn mn mi nn] H := hP.sub (ws' := [zR r cn mn mi nn]) [0] rfl
  have hD : va_D A [zR r cn mn mi nn] := hD.sub (ws' := [zR r cn mn mi nn]) [0] (by decide) rfl
  refine lv_if_eq (tgt := 16) hx hb dc_R_state_5 (by decide) (fun hc => ?_) (fun hc => ?_)
  rotate_left
  · have h1 : false = true := bI_n0.mp hc
    exact absurd h1 (by decide)
  have h1 : false = false := bI_0.mp hc
  refine lv_iconst (v := nI 0) hx hb dc_R_state_16 (by decide) ?_
  have hP9 := hP.sub (ws' := [zR r cn mn mi nn]) [0] rfl
  have hD9 := hD.sub (ws' := [zR r cn mn mi nn]) [0] (by decide) rfl
  exact W.iret (v := nI 0) hx hb hr (fun t ht hW => ⟨⟨_, (), rfl, rfl, by rw [ht]; exact hP9, va_K.moved hW.alike hK, hD9⟩, hS.F ht⟩) hS.2.2 dc_R_state_17

set_option maxHeartbeats 4000000 in
set_option maxRecDepth 100000 in
theorem oc_R_state_dn (l : Launch) (dC : Nat → ClassId) (dI : Nat → Nat → Nat) (cI cJ cZ cP : ClassId) (sz : Nat) (r : Nat → Nat) (cn : Nat) (mn : Nat) (mi : Nat) (nn : Nat) (dw : Nat → Bool) (j : Nat) (hj : j < 3) (hdw : dw j = true) : mt_I l mn_R_state bc_R_state 2 (some .int) ({ frames := 2, cells := 0, slots := 0, locals := 42 }) (dC, dI) (TYS cI cJ cZ cP) sz [.ref (r 0), .int (nI j)] [zR r cn mn mi nn, ((r 18), .inl (cZ, 3, .inl (bF dw)))] [zR r cn mn mi nn, ((r 18), .inl (cZ, 3, .inl (bF dw)))] (nI 0) 0 0 := by
  unfold mt_I
  refine Met.ofW (cc := bc_R_state) (maxL := 2) (ret := (some .int)) (by decide) rfl ?_
  intro p e s m args below meth c s₁ B hml hv
  obtain ⟨rfl, hsz, hP, hK, hD0⟩ := hv
  have hx := B.exec
  have hb := B.bytes
  have hr := B.returns
  have hts := atoms_spec (ws := wsT mn_R_state bc_R_state 2 (some .int)) B.pre
  have htb : ∀ w ∈ gtbl, w.before _ s = true := fun w h => hts w (List.mem_cons_of_mem _ h)
  have hown : s.vm.findClass cn_R = some m.cls := findClass_of_methodNamed B.named
  have hlocks := B.notSynchronized
  subst hsz
  have hD := hD0.self (sz := s.heap.size)
  generalize hAe : va_A [zR r cn mn mi nn, ((r 18), .inl (cZ, 3, .inl (bF dw)))] s.heap.size = A at hD ⊢
  have hA : ∀ q : Nat, s.heap.size ≤ q → A q := fun q h => by rw [← hAe]; exact Or.inr h
  have hS : va_S A s.heap s.heap [] := va_S.rf
  have hP : va_P (dC, dI) clsL [zR r cn mn mi nn, ((r 18), .inl (cZ, 3, .inl (bF dw)))] s.heap := hP
  have hl := lv_entry ([.ref (r 0), .int (nI j)]) (n := 2) (Nat.le_of_ble_eq_true rfl)
  rw [lg_entry_eq]
  generalize (lg_sl ([.ref (r 0), .int (nI j)]) ++ List.replicate (2 - (lg_sl ([.ref (r 0), .int (nI j)])).length) Slot.unset).toArray = ls at hl ⊢
  have hl : lv_has ls 2 [(0, .ref (r 0)), (1, .int (nI j))] := hl
  refine lv_aload_n hx hb dc_R_state_0 rfl (lv_at hl 0 rfl) ?_
  refine lv_iload_n hx hb dc_R_state_1 rfl (lv_at hl 1 rfl) ?_
  refine cl_i (wc := [zR r cn mn mi nn, ((r 18), .inl (cZ, 3, .inl (bF dw)))]) (wr := []) (w1 := [zR r cn mn mi nn, ((r 18), .inl (cZ, 3, .inl (bF dw)))]) hP hD hS hA [0, 1] [] rfl rfl (by decide) (by decide) (va_runV (As := [.int (nI j)]) (rest := []) ⟨hx, hb, hml, hown, htb⟩ (oc_R_isUp l dC dI cI cJ cZ cP _ r cn mn mi nn dw j (by first | assumption | omega)) (cwV 1 htb (gw_V kw_502 kw_504 kp_21 kw_5 kw_505) rfl rfl rfl (by decide +kernel) ⟨Nat.le_of_ble_eq_true rfl, Nat.le_of_ble_eq_true rfl⟩) (pr_V hP hK hD (va_recv hK hP (ci := 4) (q0 := 0) rfl rfl) [0, 1] (by decide) rfl rfl) rfl rfl hl.1 rfl (lv_room (Nat.le_of_ble_eq_true rfl)) dc_R_state_2 ⟨Nat.le_of_ble_eq_true rfl, Nat.le_of_ble_eq_true rfl⟩) (fun H locs hP hD hS => ?_)
  have hP : va_P (dC, dI) clsL [zR r cn mn mi nn, ((r 18), .inl (cZ, 3, .inl (bF dw)))] H := hP.sub (ws' := [zR r cn mn mi nn, ((r 18), .inl (cZ, 3, .inl (bF dw)))]) [0, 1] rfl
  have hD : va_D A [zR r cn mn mi nn, ((r 18), .inl (cZ, 3, .inl (bF dw)))] := hD.sub (ws' := [zR r cn mn mi nn, ((r 18), .inl (cZ, 3, .inl (bF dw)))]) [0, 1] (by decide) rfl
  refine lv_if_eq (tgt := 16) hx hb dc_R_state_5 (by decide) (fun hc => ?_) (fun hc => ?_)
  rotate_left
  · have h1 : (!(dw j)) = true := bI_n0.mp hc
    exact absurd h1 (by rw [hdw]; decide)
  have h1 : (!(dw j)) = false := bI_0.mp hc
  refine lv_iconst (v := nI 0) hx hb dc_R_state_16 (by decide) ?_
  have hP9 := hP.sub (ws' := [zR r cn mn mi nn, ((r 18), .inl (cZ, 3, .inl (bF dw)))]) [0, 1] rfl
  have hD9 := hD.sub (ws' := [zR r cn mn mi nn, ((r 18), .inl (cZ, 3, .inl (bF dw)))]) [0, 1] (by decide) rfl
  exact W.iret (v := nI 0) hx hb hr (fun t ht hW => ⟨⟨_, (), rfl, rfl, by rw [ht]; exact hP9, va_K.moved hW.alike hK, hD9⟩, hS.F ht⟩) hS.2.2 dc_R_state_17

set_option maxHeartbeats 4000000 in
set_option maxRecDepth 100000 in
theorem oc_R_state (l : Launch) (dC : Nat → ClassId) (dI : Nat → Nat → Nat) (cI cJ cZ cP : ClassId) (sz : Nat) (r : Nat → Nat) (cn : Nat) (mn : Nat) (mi : Nat) (nn : Nat) (dw : Nat → Bool) (sv : Nat → Int32) (cc : Nat → Nat) (lg : Nat → Nat) (j : Nat) (n : Nat) (hj : j < 3) (hdw : dw j = false) (hlg : lg j = n) (hn : n ≤ 40) (hcc : ∀ i, i < n → cc (40 * j + i) < 40) : mt_I l mn_R_state bc_R_state 2 (some .int) ({ frames := 2, cells := 0, slots := 0, locals := 42 }) (dC, dI) (TYS cI cJ cZ cP) sz [.ref (r 0), .int (nI j)] [zR r cn mn mi nn, ((r 18), .inl (cZ, 3, .inl (bF dw))), ((r 3), .inl (cI, 40, .inl sv)), ((r 19), .inl (cI, 120, .inl (nF cc))), ((r 20), .inl (cI, 3, .inl (nF lg)))] [zR r cn mn mi nn, ((r 18), .inl (cZ, 3, .inl (bF dw))), ((r 3), .inl (cI, 40, .inl sv)), ((r 19), .inl (cI, 120, .inl (nF cc))), ((r 20), .inl (cI, 3, .inl (nF lg)))] ((sof sv cc j n)) 0 0 := by
  unfold mt_I
  refine Met.ofW (cc := bc_R_state) (maxL := 2) (ret := (some .int)) (by decide) rfl ?_
  intro p e s m args below meth c s₁ B hml hv
  obtain ⟨rfl, hsz, hP, hK, hD0⟩ := hv
  have hx := B.exec
  have hb := B.bytes
  have hr := B.returns
  have hts := atoms_spec (ws := wsT mn_R_state bc_R_state 2 (some .int)) B.pre
  have htb : ∀ w ∈ gtbl, w.before _ s = true := fun w h => hts w (List.mem_cons_of_mem _ h)
  have hown : s.vm.findClass cn_R = some m.cls := findClass_of_methodNamed B.named
  have hlocks := B.notSynchronized
  subst hsz
  have hD := hD0.self (sz := s.heap.size)
  generalize hAe : va_A [zR r cn mn mi nn, ((r 18), .inl (cZ, 3, .inl (bF dw))), ((r 3), .inl (cI, 40, .inl sv)), ((r 19), .inl (cI, 120, .inl (nF cc))), ((r 20), .inl (cI, 3, .inl (nF lg)))] s.heap.size = A at hD ⊢
  have hA : ∀ q : Nat, s.heap.size ≤ q → A q := fun q h => by rw [← hAe]; exact Or.inr h
  have hS : va_S A s.heap s.heap [] := va_S.rf
  have hP : va_P (dC, dI) clsL [zR r cn mn mi nn, ((r 18), .inl (cZ, 3, .inl (bF dw))), ((r 3), .inl (cI, 40, .inl sv)), ((r 19), .inl (cI, 120, .inl (nF cc))), ((r 20), .inl (cI, 3, .inl (nF lg)))] s.heap := hP
  have hl := lv_entry ([.ref (r 0), .int (nI j)]) (n := 2) (Nat.le_of_ble_eq_true rfl)
  rw [lg_entry_eq]
  generalize (lg_sl ([.ref (r 0), .int (nI j)]) ++ List.replicate (2 - (lg_sl ([.ref (r 0), .int (nI j)])).length) Slot.unset).toArray = ls at hl ⊢
  have hl : lv_has ls 2 [(0, .ref (r 0)), (1, .int (nI j))] := hl
  refine lv_aload_n hx hb dc_R_state_0 rfl (lv_at hl 0 rfl) ?_
  refine lv_iload_n hx hb dc_R_state_1 rfl (lv_at hl 1 rfl) ?_
  refine cl_i (wc := [zR r cn mn mi nn, ((r 18), .inl (cZ, 3, .inl (bF dw)))]) (wr := [((r 3), .inl (cI, 40, .inl sv)), ((r 19), .inl (cI, 120, .inl (nF cc))), ((r 20), .inl (cI, 3, .inl (nF lg)))]) (w1 := [zR r cn mn mi nn, ((r 18), .inl (cZ, 3, .inl (bF dw)))]) hP hD hS hA [0, 1] [2, 3, 4] rfl rfl (by decide) (by decide) (va_runV (As := [.int (nI j)]) (rest := []) ⟨hx, hb, hml, hown, htb⟩ (oc_R_isUp l dC dI cI cJ cZ cP _ r cn mn mi nn dw j (by first | assumption | omega)) (cwV 1 htb (gw_V kw_502 kw_504 kp_21 kw_5 kw_505) rfl rfl rfl (by decide +kernel) ⟨Nat.le_of_ble_eq_true rfl, Nat.le_of_ble_eq_true rfl⟩) (pr_V hP hK hD (va_recv hK hP (ci := 4) (q0 := 0) rfl rfl) [0, 1] (by decide) rfl rfl) rfl rfl hl.1 rfl (lv_room (Nat.le_of_ble_eq_true rfl)) dc_R_state_2 ⟨Nat.le_of_ble_eq_true rfl, Nat.le_of_ble_eq_true rfl⟩) (fun H locs hP hD hS => ?_)
  have hP : va_P (dC, dI) clsL [zR r cn mn mi nn, ((r 18), .inl (cZ, 3, .inl (bF dw))), ((r 3), .inl (cI, 40, .inl sv)), ((r 19), .inl (cI, 120, .inl (nF cc))), ((r 20), .inl (cI, 3, .inl (nF lg)))] H := hP.sub (ws' := [zR r cn mn mi nn, ((r 18), .inl (cZ, 3, .inl (bF dw))), ((r 3), .inl (cI, 40, .inl sv)), ((r 19), .inl (cI, 120, .inl (nF cc))), ((r 20), .inl (cI, 3, .inl (nF lg)))]) [3, 4, 0, 1, 2] rfl
  have hD : va_D A [zR r cn mn mi nn, ((r 18), .inl (cZ, 3, .inl (bF dw))), ((r 3), .inl (cI, 40, .inl sv)), ((r 19), .inl (cI, 120, .inl (nF cc))), ((r 20), .inl (cI, 3, .inl (nF lg)))] := hD.sub (ws' := [zR r cn mn mi nn, ((r 18), .inl (cZ, 3, .inl (bF dw))), ((r 3), .inl (cI, 40, .inl sv)), ((r 19), .inl (cI, 120, .inl (nF cc))), ((r 20), .inl (cI, 3, .inl (nF lg)))]) [3, 4, 0, 1, 2] (by decide) rfl
  refine lv_if_eq (tgt := 16) hx hb dc_R_state_5 (by decide) (fun hc => ?_) (fun hc => ?_)
  · have h1 : (!(dw j)) = false := bI_0.mp hc
    exact absurd h1 (by rw [hdw]; decide)
  have h1 : (!(dw j)) = true := bI_n0.mp hc
  refine lv_aload_n hx hb dc_R_state_8 rfl (lv_at hl 0 rfl) ?_
  refine lv_iload_n hx hb dc_R_state_9 rfl (lv_at hl 1 rfl) ?_
  refine cl_i (wc := [zR r cn mn mi nn, ((r 3), .inl (cI, 40, .inl sv)), ((r 19), .inl (cI, 120, .inl (nF cc))), ((r 20), .inl (cI, 3, .inl (nF lg)))]) (wr := [((r 18), .inl (cZ, 3, .inl (bF dw)))]) (w1 := [zR r cn mn mi nn, ((r 3), .inl (cI, 40, .inl sv)), ((r 19), .inl (cI, 120, .inl (nF cc))), ((r 20), .inl (cI, 3, .inl (nF lg)))]) hP hD hS hA [0, 2, 3, 4] [1] rfl rfl (by decide) (by decide) (va_runV (As := [.int (nI j)]) (rest := []) ⟨hx, hb, hml, hown, htb⟩ (oc_R_stateOf l dC dI cI cJ cZ cP _ r cn mn mi nn sv cc lg j n (by first | assumption | omega) (by first | assumption | omega) (by first | assumption | omega) (by first | assumption | omega)) (cwV 1 htb (gw_V kw_486 kw_488 kp_19 kw_5 kw_489) rfl rfl rfl (by decide +kernel) ⟨Nat.le_of_ble_eq_true rfl, Nat.le_of_ble_eq_true rfl⟩) (pr_V hP hK hD (va_recv hK hP (ci := 4) (q0 := 0) rfl rfl) [0, 2, 3, 4] (by decide) rfl rfl) rfl rfl hl.1 rfl (lv_room (Nat.le_of_ble_eq_true rfl)) dc_R_state_10 ⟨Nat.le_of_ble_eq_true rfl, Nat.le_of_ble_eq_true rfl⟩) (fun H locs hP hD hS => ?_)
  have hP : va_P (dC, dI) clsL [zR r cn mn mi nn, ((r 18), .inl (cZ, 3, .inl (bF dw))), ((r 3), .inl (cI, 40, .inl sv)), ((r 19), .inl (cI, 120, .inl (nF cc))), ((r 20), .inl (cI, 3, .inl (nF lg)))] H := hP.sub (ws' := [zR r cn mn mi nn, ((r 18), .inl (cZ, 3, .inl (bF dw))), ((r 3), .inl (cI, 40, .inl sv)), ((r 19), .inl (cI, 120, .inl (nF cc))), ((r 20), .inl (cI, 3, .inl (nF lg)))]) [1, 0, 2, 3, 4] rfl
  have hD : va_D A [zR r cn mn mi nn, ((r 18), .inl (cZ, 3, .inl (bF dw))), ((r 3), .inl (cI, 40, .inl sv)), ((r 19), .inl (cI, 120, .inl (nF cc))), ((r 20), .inl (cI, 3, .inl (nF lg)))] := hD.sub (ws' := [zR r cn mn mi nn, ((r 18), .inl (cZ, 3, .inl (bF dw))), ((r 3), .inl (cI, 40, .inl sv)), ((r 19), .inl (cI, 120, .inl (nF cc))), ((r 20), .inl (cI, 3, .inl (nF lg)))]) [1, 0, 2, 3, 4] (by decide) rfl
  refine lv_goto (tgt := 17) hx hb dc_R_state_13 (by decide) ?_
  have hP9 := hP.sub (ws' := [zR r cn mn mi nn, ((r 18), .inl (cZ, 3, .inl (bF dw))), ((r 3), .inl (cI, 40, .inl sv)), ((r 19), .inl (cI, 120, .inl (nF cc))), ((r 20), .inl (cI, 3, .inl (nF lg)))]) [0, 1, 2, 3, 4] rfl
  have hD9 := hD.sub (ws' := [zR r cn mn mi nn, ((r 18), .inl (cZ, 3, .inl (bF dw))), ((r 3), .inl (cI, 40, .inl sv)), ((r 19), .inl (cI, 120, .inl (nF cc))), ((r 20), .inl (cI, 3, .inl (nF lg)))]) [0, 1, 2, 3, 4] (by decide) rfl
  exact W.iret (v := (sof sv cc j n)) hx hb hr (fun t ht hW => ⟨⟨_, (), rfl, rfl, by rw [ht]; exact hP9, va_K.moved hW.alike hK, hD9⟩, hS.F ht⟩) hS.2.2 dc_R_state_17

set_option maxHeartbeats 4000000 in
set_option maxRecDepth 100000 in
theorem oc_R_flush_no (l : Launch) (dC : Nat → ClassId) (dI : Nat → Nat → Nat) (cI cJ cZ cP : ClassId) (sz : Nat) (r : Nat → Nat) (cn : Nat) (mn : Nat) (mi : Nat) (nn : Nat) (y : Int32) (hy : y < 0 ∨ nI 3 ≤ y) : mt_I l mn_R_flush bc_R_flush 2 (some .int) ({ frames := 2, cells := 0, slots := 0, locals := 42 }) (dC, dI) (TYS cI cJ cZ cP) sz [.ref (r 0), .int y] [zR r cn mn mi nn] [zR r cn mn mi nn] ((-1)) 0 0 := by
  unfold mt_I
  refine Met.ofW (cc := bc_R_flush) (maxL := 2) (ret := (some .int)) (by decide) rfl ?_
  intro p e s m args below meth c s₁ B hml hv
  obtain ⟨rfl, hsz, hP, hK, hD0⟩ := hv
  have hx := B.exec
  have hb := B.bytes
  have hr := B.returns
  have hts := atoms_spec (ws := wsT mn_R_flush bc_R_flush 2 (some .int)) B.pre
  have htb : ∀ w ∈ gtbl, w.before _ s = true := fun w h => hts w (List.mem_cons_of_mem _ h)
  have hown : s.vm.findClass cn_R = some m.cls := findClass_of_methodNamed B.named
  have hlocks := B.notSynchronized
  subst hsz
  have hD := hD0.self (sz := s.heap.size)
  generalize hAe : va_A [zR r cn mn mi nn] s.heap.size = A at hD ⊢
  have hA : ∀ q : Nat, s.heap.size ≤ q → A q := fun q h => by rw [← hAe]; exact Or.inr h
  have hS : va_S A s.heap s.heap [] := va_S.rf
  have hP : va_P (dC, dI) clsL [zR r cn mn mi nn] s.heap := hP
  have hl := lv_entry ([.ref (r 0), .int y]) (n := 2) (Nat.le_of_ble_eq_true rfl)
  rw [lg_entry_eq]
  generalize (lg_sl ([.ref (r 0), .int y]) ++ List.replicate (2 - (lg_sl ([.ref (r 0), .int y])).length) Slot.unset).toArray = ls at hl ⊢
  have hl : lv_has ls 2 [(0, .ref (r 0)), (1, .int y)] := hl
  refine lv_aload_n hx hb dc_R_flush_0 rfl (lv_at hl 0 rfl) ?_
  refine lv_iload_n hx hb dc_R_flush_1 rfl (lv_at hl 1 rfl) ?_
  refine cl_i (wc := [zR r cn mn mi nn]) (wr := []) (w1 := [zR r cn mn mi nn]) hP hD hS hA [0] [] rfl rfl (by decide) (by decide) (va_runV (As := [.int y]) (rest := []) ⟨hx, hb, hml, hown, htb⟩ (oc_R_isUp_no l dC dI cI cJ cZ cP _ r cn mn mi nn y (by first | assumption | omega)) (cwV 1 htb (gw_V kw_502 kw_504 kp_21 kw_5 kw_505) rfl rfl rfl (by decide +kernel) ⟨Nat.le_of_ble_eq_true rfl, Nat.le_of_ble_eq_true rfl⟩) (pr_V hP hK hD (va_recv hK hP (ci := 4) (q0 := 0) rfl rfl) [0] (by decide) rfl rfl) rfl rfl hl.1 rfl (lv_room (Nat.le_of_ble_eq_true rfl)) dc_R_flush_2 ⟨Nat.le_of_ble_eq_true rfl, Nat.le_of_ble_eq_true rfl⟩) (fun H locs hP hD hS => ?_)
  have hP : va_P (dC, dI) clsL [zR r cn mn mi nn] H := hP.sub (ws' := [zR r cn mn mi nn]) [0] rfl
  have hD : va_D A [zR r cn mn mi nn] := hD.sub (ws' := [zR r cn mn mi nn]) [0] (by decide) rfl
  refine lv_if_eq (tgt := 16) hx hb dc_R_flush_5 (by decide) (fun hc => ?_) (fun hc => ?_)
  rotate_left
  · have h1 : false = true := bI_n0.mp hc
    exact absurd h1 (by decide)
  have h1 : false = false := bI_0.mp hc
  refine lv_iconst (v := (-1)) hx hb dc_R_flush_16 (by decide) ?_
  have hP9 := hP.sub (ws' := [zR r cn mn mi nn]) [0] rfl
  have hD9 := hD.sub (ws' := [zR r cn mn mi nn]) [0] (by decide) rfl
  exact W.iret (v := (-1)) hx hb hr (fun t ht hW => ⟨⟨_, (), rfl, rfl, by rw [ht]; exact hP9, va_K.moved hW.alike hK, hD9⟩, hS.F ht⟩) hS.2.2 dc_R_flush_17

set_option maxHeartbeats 4000000 in
set_option maxRecDepth 100000 in
theorem oc_R_flush_dn (l : Launch) (dC : Nat → ClassId) (dI : Nat → Nat → Nat) (cI cJ cZ cP : ClassId) (sz : Nat) (r : Nat → Nat) (cn : Nat) (mn : Nat) (mi : Nat) (nn : Nat) (dw : Nat → Bool) (j : Nat) (hj : j < 3) (hdw : dw j = true) : mt_I l mn_R_flush bc_R_flush 2 (some .int) ({ frames := 2, cells := 0, slots := 0, locals := 42 }) (dC, dI) (TYS cI cJ cZ cP) sz [.ref (r 0), .int (nI j)] [zR r cn mn mi nn, ((r 18), .inl (cZ, 3, .inl (bF dw)))] [zR r cn mn mi nn, ((r 18), .inl (cZ, 3, .inl (bF dw)))] ((-1)) 0 0 := by
  unfold mt_I
  refine Met.ofW (cc := bc_R_flush) (maxL := 2) (ret := (some .int)) (by decide) rfl ?_
  intro p e s m args below meth c s₁ B hml hv
  obtain ⟨rfl, hsz, hP, hK, hD0⟩ := hv
  have hx := B.exec
  have hb := B.bytes
  have hr := B.returns
  have hts := atoms_spec (ws := wsT mn_R_flush bc_R_flush 2 (some .int)) B.pre
  have htb : ∀ w ∈ gtbl, w.before _ s = true := fun w h => hts w (List.mem_cons_of_mem _ h)
  have hown : s.vm.findClass cn_R = some m.cls := findClass_of_methodNamed B.named
  have hlocks := B.notSynchronized
  subst hsz
  have hD := hD0.self (sz := s.heap.size)
  generalize hAe : va_A [zR r cn mn mi nn, ((r 18), .inl (cZ, 3, .inl (bF dw)))] s.heap.size = A at hD ⊢
  have hA : ∀ q : Nat, s.heap.size ≤ q → A q := fun q h => by rw [← hAe]; exact Or.inr h
  have hS : va_S A s.heap s.heap [] := va_S.rf
  have hP : va_P (dC, dI) clsL [zR r cn mn mi nn, ((r 18), .inl (cZ, 3, .inl (bF dw)))] s.heap := hP
  have hl := lv_entry ([.ref (r 0), .int (nI j)]) (n := 2) (Nat.le_of_ble_eq_true rfl)
  rw [lg_entry_eq]
  generalize (lg_sl ([.ref (r 0), .int (nI j)]) ++ List.replicate (2 - (lg_sl ([.ref (r 0), .int (nI j)])).length) Slot.unset).toArray = ls at hl ⊢
  have hl : lv_has ls 2 [(0, .ref (r 0)), (1, .int (nI j))] := hl
  refine lv_aload_n hx hb dc_R_flush_0 rfl (lv_at hl 0 rfl) ?_
  refine lv_iload_n hx hb dc_R_flush_1 rfl (lv_at hl 1 rfl) ?_
  refine cl_i (wc := [zR r cn mn mi nn, ((r 18), .inl (cZ, 3, .inl (bF dw)))]) (wr := []) (w1 := [zR r cn mn mi nn, ((r 18), .inl (cZ, 3, .inl (bF dw)))]) hP hD hS hA [0, 1] [] rfl rfl (by decide) (by decide) (va_runV (As := [.int (nI j)]) (rest := []) ⟨hx, hb, hml, hown, htb⟩ (oc_R_isUp l dC dI cI cJ cZ cP _ r cn mn mi nn dw j (by first | assumption | omega)) (cwV 1 htb (gw_V kw_502 kw_504 kp_21 kw_5 kw_505) rfl rfl rfl (by decide +kernel) ⟨Nat.le_of_ble_eq_true rfl, Nat.le_of_ble_eq_true rfl⟩) (pr_V hP hK hD (va_recv hK hP (ci := 4) (q0 := 0) rfl rfl) [0, 1] (by decide) rfl rfl) rfl rfl hl.1 rfl (lv_room (Nat.le_of_ble_eq_true rfl)) dc_R_flush_2 ⟨Nat.le_of_ble_eq_true rfl, Nat.le_of_ble_eq_true rfl⟩) (fun H locs hP hD hS => ?_)
  have hP : va_P (dC, dI) clsL [zR r cn mn mi nn, ((r 18), .inl (cZ, 3, .inl (bF dw)))] H := hP.sub (ws' := [zR r cn mn mi nn, ((r 18), .inl (cZ, 3, .inl (bF dw)))]) [0, 1] rfl
  have hD : va_D A [zR r cn mn mi nn, ((r 18), .inl (cZ, 3, .inl (bF dw)))] := hD.sub (ws' := [zR r cn mn mi nn, ((r 18), .inl (cZ, 3, .inl (bF dw)))]) [0, 1] (by decide) rfl
  refine lv_if_eq (tgt := 16) hx hb dc_R_flush_5 (by decide) (fun hc => ?_) (fun hc => ?_)
  rotate_left
  · have h1 : (!(dw j)) = true := bI_n0.mp hc
    exact absurd h1 (by rw [hdw]; decide)
  have h1 : (!(dw j)) = false := bI_0.mp hc
  refine lv_iconst (v := (-1)) hx hb dc_R_flush_16 (by decide) ?_
  have hP9 := hP.sub (ws' := [zR r cn mn mi nn, ((r 18), .inl (cZ, 3, .inl (bF dw)))]) [0, 1] rfl
  have hD9 := hD.sub (ws' := [zR r cn mn mi nn, ((r 18), .inl (cZ, 3, .inl (bF dw)))]) [0, 1] (by decide) rfl
  exact W.iret (v := (-1)) hx hb hr (fun t ht hW => ⟨⟨_, (), rfl, rfl, by rw [ht]; exact hP9, va_K.moved hW.alike hK, hD9⟩, hS.F ht⟩) hS.2.2 dc_R_flush_17

set_option maxHeartbeats 4000000 in
set_option maxRecDepth 100000 in
theorem oc_R_flush (l : Launch) (dC : Nat → ClassId) (dI : Nat → Nat → Nat) (cI cJ cZ cP : ClassId) (sz : Nat) (r : Nat → Nat) (cn : Nat) (mn : Nat) (mi : Nat) (nn : Nat) (dw : Nat → Bool) (sb : Nat → Bool) (cc : Nat → Nat) (lg : Nat → Nat) (j : Nat) (n : Nat) (hj : j < 3) (hdw : dw j = false) (hlg : lg j = n) (hn : n ≤ 40) (hcc : ∀ i, i < n → cc (40 * j + i) < 40) : mt_I l mn_R_flush bc_R_flush 2 (some .int) ({ frames := 2, cells := 0, slots := 0, locals := 42 }) (dC, dI) (TYS cI cJ cZ cP) sz [.ref (r 0), .int (nI j)] [zR r cn mn mi nn, ((r 18), .inl (cZ, 3, .inl (bF dw))), ((r 4), .inl (cZ, 40, .inl (bF sb))), ((r 19), .inl (cI, 120, .inl (nF cc))), ((r 20), .inl (cI, 3, .inl (nF lg)))] [zR r cn mn mi nn, ((r 18), .inl (cZ, 3, .inl (bF dw))), ((r 4), .inl (cZ, 40, .inl (bF ((se_S sb (fun i => cc (40 * j + i)) n).2)))), ((r 19), .inl (cI, 120, .inl (nF cc))), ((r 20), .inl (cI, 3, .inl (nF lg)))] (nI ((se_S sb (fun i => cc (40 * j + i)) n).1)) 0 0 := by
  unfold mt_I
  refine Met.ofW (cc := bc_R_flush) (maxL := 2) (ret := (some .int)) (by decide) rfl ?_
  intro p e s m args below meth c s₁ B hml hv
  obtain ⟨rfl, hsz, hP, hK, hD0⟩ := hv
  have hx := B.exec
  have hb := B.bytes
  have hr := B.returns
  have hts := atoms_spec (ws := wsT mn_R_flush bc_R_flush 2 (some .int)) B.pre
  have htb : ∀ w ∈ gtbl, w.before _ s = true := fun w h => hts w (List.mem_cons_of_mem _ h)
  have hown : s.vm.findClass cn_R = some m.cls := findClass_of_methodNamed B.named
  have hlocks := B.notSynchronized
  subst hsz
  have hD := hD0.self (sz := s.heap.size)
  generalize hAe : va_A [zR r cn mn mi nn, ((r 18), .inl (cZ, 3, .inl (bF dw))), ((r 4), .inl (cZ, 40, .inl (bF sb))), ((r 19), .inl (cI, 120, .inl (nF cc))), ((r 20), .inl (cI, 3, .inl (nF lg)))] s.heap.size = A at hD ⊢
  have hA : ∀ q : Nat, s.heap.size ≤ q → A q := fun q h => by rw [← hAe]; exact Or.inr h
  have hS : va_S A s.heap s.heap [] := va_S.rf
  have hP : va_P (dC, dI) clsL [zR r cn mn mi nn, ((r 18), .inl (cZ, 3, .inl (bF dw))), ((r 4), .inl (cZ, 40, .inl (bF sb))), ((r 19), .inl (cI, 120, .inl (nF cc))), ((r 20), .inl (cI, 3, .inl (nF lg)))] s.heap := hP
  have hl := lv_entry ([.ref (r 0), .int (nI j)]) (n := 2) (Nat.le_of_ble_eq_true rfl)
  rw [lg_entry_eq]
  generalize (lg_sl ([.ref (r 0), .int (nI j)]) ++ List.replicate (2 - (lg_sl ([.ref (r 0), .int (nI j)])).length) Slot.unset).toArray = ls at hl ⊢
  have hl : lv_has ls 2 [(0, .ref (r 0)), (1, .int (nI j))] := hl
  refine lv_aload_n hx hb dc_R_flush_0 rfl (lv_at hl 0 rfl) ?_
  refine lv_iload_n hx hb dc_R_flush_1 rfl (lv_at hl 1 rfl) ?_
  refine cl_i (wc := [zR r cn mn mi nn, ((r 18), .inl (cZ, 3, .inl (bF dw)))]) (wr := [((r 4), .inl (cZ, 40, .inl (bF sb))), ((r 19), .inl (cI, 120, .inl (nF cc))), ((r 20), .inl (cI, 3, .inl (nF lg)))]) (w1 := [zR r cn mn mi nn, ((r 18), .inl (cZ, 3, .inl (bF dw)))]) hP hD hS hA [0, 1] [2, 3, 4] rfl rfl (by decide) (by decide) (va_runV (As := [.int (nI j)]) (rest := []) ⟨hx, hb, hml, hown, htb⟩ (oc_R_isUp l dC dI cI cJ cZ cP _ r cn mn mi nn dw j (by first | assumption | omega)) (cwV 1 htb (gw_V kw_502 kw_504 kp_21 kw_5 kw_505) rfl rfl rfl (by decide +kernel) ⟨Nat.le_of_ble_eq_true rfl, Nat.le_of_ble_eq_true rfl⟩) (pr_V hP hK hD (va_recv hK hP (ci := 4) (q0 := 0) rfl rfl) [0, 1] (by decide) rfl rfl) rfl rfl hl.1 rfl (lv_room (Nat.le_of_ble_eq_true rfl)) dc_R_flush_2 ⟨Nat.le_of_ble_eq_true rfl, Nat.le_of_ble_eq_true rfl⟩) (fun H locs hP hD hS => ?_)
  have hP : va_P (dC, dI) clsL [zR r cn mn mi nn, ((r 18), .inl (cZ, 3, .inl (bF dw))), ((r 4), .inl (cZ, 40, .inl (bF sb))), ((r 19), .inl (cI, 120, .inl (nF cc))), ((r 20), .inl (cI, 3, .inl (nF lg)))] H := hP.sub (ws' := [zR r cn mn mi nn, ((r 18), .inl (cZ, 3, .inl (bF dw))), ((r 4), .inl (cZ, 40, .inl (bF sb))), ((r 19), .inl (cI, 120, .inl (nF cc))), ((r 20), .inl (cI, 3, .inl (nF lg)))]) [3, 4, 0, 1, 2] rfl
  have hD : va_D A [zR r cn mn mi nn, ((r 18), .inl (cZ, 3, .inl (bF dw))), ((r 4), .inl (cZ, 40, .inl (bF sb))), ((r 19), .inl (cI, 120, .inl (nF cc))), ((r 20), .inl (cI, 3, .inl (nF lg)))] := hD.sub (ws' := [zR r cn mn mi nn, ((r 18), .inl (cZ, 3, .inl (bF dw))), ((r 4), .inl (cZ, 40, .inl (bF sb))), ((r 19), .inl (cI, 120, .inl (nF cc))), ((r 20), .inl (cI, 3, .inl (nF lg)))]) [3, 4, 0, 1, 2] (by decide) rfl
  refine lv_if_eq (tgt := 16) hx hb dc_R_flush_5 (by decide) (fun hc => ?_) (fun hc => ?_)
  · have h1 : (!(dw j)) = false := bI_0.mp hc
    exact absurd h1 (by rw [hdw]; decide)
  have h1 : (!(dw j)) = true := bI_n0.mp hc
  refine lv_aload_n hx hb dc_R_flush_8 rfl (lv_at hl 0 rfl) ?_
  refine lv_iload_n hx hb dc_R_flush_9 rfl (lv_at hl 1 rfl) ?_
  refine cl_i (wc := [zR r cn mn mi nn, ((r 4), .inl (cZ, 40, .inl (bF sb))), ((r 19), .inl (cI, 120, .inl (nF cc))), ((r 20), .inl (cI, 3, .inl (nF lg)))]) (wr := [((r 18), .inl (cZ, 3, .inl (bF dw)))]) (w1 := [zR r cn mn mi nn, ((r 4), .inl (cZ, 40, .inl (bF ((se_S sb (fun i => cc (40 * j + i)) n).2)))), ((r 19), .inl (cI, 120, .inl (nF cc))), ((r 20), .inl (cI, 3, .inl (nF lg)))]) hP hD hS hA [0, 2, 3, 4] [1] rfl rfl (by decide) (by decide) (va_runV (As := [.int (nI j)]) (rest := []) ⟨hx, hb, hml, hown, htb⟩ (oc_R_settle l dC dI cI cJ cZ cP _ r cn mn mi nn sb cc lg j n (by first | assumption | omega) (by first | assumption | omega) (by first | assumption | omega) (by first | assumption | omega)) (cwV 1 htb (gw_V kw_490 kw_492 kp_20 kw_5 kw_493) rfl rfl rfl (by decide +kernel) ⟨Nat.le_of_ble_eq_true rfl, Nat.le_of_ble_eq_true rfl⟩) (pr_V hP hK hD (va_recv hK hP (ci := 4) (q0 := 0) rfl rfl) [0, 2, 3, 4] (by decide) rfl rfl) rfl rfl hl.1 rfl (lv_room (Nat.le_of_ble_eq_true rfl)) dc_R_flush_10 ⟨Nat.le_of_ble_eq_true rfl, Nat.le_of_ble_eq_true rfl⟩) (fun H locs hP hD hS => ?_)
  have hP : va_P (dC, dI) clsL [zR r cn mn mi nn, ((r 18), .inl (cZ, 3, .inl (bF dw))), ((r 4), .inl (cZ, 40, .inl (bF ((se_S sb (fun i => cc (40 * j + i)) n).2)))), ((r 19), .inl (cI, 120, .inl (nF cc))), ((r 20), .inl (cI, 3, .inl (nF lg)))] H := hP.sub (ws' := [zR r cn mn mi nn, ((r 18), .inl (cZ, 3, .inl (bF dw))), ((r 4), .inl (cZ, 40, .inl (bF ((se_S sb (fun i => cc (40 * j + i)) n).2)))), ((r 19), .inl (cI, 120, .inl (nF cc))), ((r 20), .inl (cI, 3, .inl (nF lg)))]) [1, 0, 2, 3, 4] rfl
  have hD : va_D A [zR r cn mn mi nn, ((r 18), .inl (cZ, 3, .inl (bF dw))), ((r 4), .inl (cZ, 40, .inl (bF ((se_S sb (fun i => cc (40 * j + i)) n).2)))), ((r 19), .inl (cI, 120, .inl (nF cc))), ((r 20), .inl (cI, 3, .inl (nF lg)))] := hD.sub (ws' := [zR r cn mn mi nn, ((r 18), .inl (cZ, 3, .inl (bF dw))), ((r 4), .inl (cZ, 40, .inl (bF ((se_S sb (fun i => cc (40 * j + i)) n).2)))), ((r 19), .inl (cI, 120, .inl (nF cc))), ((r 20), .inl (cI, 3, .inl (nF lg)))]) [1, 0, 2, 3, 4] (by decide) rfl
  refine lv_goto (tgt := 17) hx hb dc_R_flush_13 (by decide) ?_
  have hP9 := hP.sub (ws' := [zR r cn mn mi nn, ((r 18), .inl (cZ, 3, .inl (bF dw))), ((r 4), .inl (cZ, 40, .inl (bF ((se_S sb (fun i => cc (40 * j + i)) n).2)))), ((r 19), .inl (cI, 120, .inl (nF cc))), ((r 20), .inl (cI, 3, .inl (nF lg)))]) [0, 1, 2, 3, 4] rfl
  have hD9 := hD.sub (ws' := [zR r cn mn mi nn, ((r 18), .inl (cZ, 3, .inl (bF dw))), ((r 4), .inl (cZ, 40, .inl (bF ((se_S sb (fun i => cc (40 * j + i)) n).2)))), ((r 19), .inl (cI, 120, .inl (nF cc))), ((r 20), .inl (cI, 3, .inl (nF lg)))]) [0, 1, 2, 3, 4] (by decide) rfl
  exact W.iret (v := nI ((se_S sb (fun i => cc (40 * j + i)) n).1)) hx hb hr (fun t ht hW => ⟨⟨_, (), rfl, rfl, by rw [ht]; exact hP9, va_K.moved hW.alike hK, hD9⟩, hS.F ht⟩) hS.2.2 dc_R_flush_17

set_option maxHeartbeats 4000000 in
set_option maxRecDepth 100000 in
theorem oc_R_checkpoint_no (l : Launch) (dC : Nat → ClassId) (dI : Nat → Nat → Nat) (cI cJ cZ cP : ClassId) (sz : Nat) (r : Nat → Nat) (cn : Nat) (mn : Nat) (mi : Nat) (nn : Nat) (y : Int32) (hy : y < 0 ∨ nI 3 ≤ y) : mt_I l mn_R_checkpoint bc_R_checkpoint 2 (some .int) ({ frames := 2, cells := 0, slots := 0, locals := 42 }) (dC, dI) (TYS cI cJ cZ cP) sz [.ref (r 0), .int y] [zR r cn mn mi nn] [zR r cn mn mi nn] ((-1)) 0 0 := by
  unfold mt_I
  refine Met.ofW (cc := bc_R_checkpoint) (maxL := 2) (ret := (some .int)) (by decide) rfl ?_
  intro p e s m args below meth c s₁ B hml hv
  obtain ⟨rfl, hsz, hP, hK, hD0⟩ := hv
  have hx := B.exec
  have hb := B.bytes
  have hr := B.returns
  have hts := atoms_spec (ws := wsT mn_R_checkpoint bc_R_checkpoint 2 (some .int)) B.pre
  have htb : ∀ w ∈ gtbl, w.before _ s = true := fun w h => hts w (List.mem_cons_of_mem _ h)
  have hown : s.vm.findClass cn_R = some m.cls := findClass_of_methodNamed B.named
  have hlocks := B.notSynchronized
  subst hsz
  have hD := hD0.self (sz := s.heap.size)
  generalize hAe : va_A [zR r cn mn mi nn] s.heap.size = A at hD ⊢
  have hA : ∀ q : Nat, s.heap.size ≤ q → A q := fun q h => by rw [← hAe]; exact Or.inr h
  have hS : va_S A s.heap s.heap [] := va_S.rf
  have hP : va_P (dC, dI) clsL [zR r cn mn mi nn] s.heap := hP
  have hl := lv_entry ([.ref (r 0), .int y]) (n := 2) (Nat.le_of_ble_eq_true rfl)
  rw [lg_entry_eq]
  generalize (lg_sl ([.ref (r 0), .int y]) ++ List.replicate (2 - (lg_sl ([.ref (r 0), .int y])).length) Slot.unset).toArray = ls at hl ⊢
  have hl : lv_has ls 2 [(0, .ref (r 0)), (1, .int y)] := hl
  refine lv_aload_n hx hb dc_R_checkpoint_0 rfl (lv_at hl 0 rfl) ?_
  refine lv_iload_n hx hb dc_R_checkpoint_1 rfl (lv_at hl 1 rfl) ?_
  refine cl_i (wc := [zR r cn mn mi nn]) (wr := []) (w1 := [zR r cn mn mi nn]) hP hD hS hA [0] [] rfl rfl (by decide) (by decide) (va_runV (As := [.int y]) (rest := []) ⟨hx, hb, hml, hown, htb⟩ (oc_R_isUp_no l dC dI cI cJ cZ cP _ r cn mn mi nn y (by first | assumption | omega)) (cwV 1 htb (gw_V kw_502 kw_504 kp_21 kw_5 kw_505) rfl rfl rfl (by decide +kernel) ⟨Nat.le_of_ble_eq_true rfl, Nat.le_of_ble_eq_true rfl⟩) (pr_V hP hK hD (va_recv hK hP (ci := 4) (q0 := 0) rfl rfl) [0] (by decide) rfl rfl) rfl rfl hl.1 rfl (lv_room (Nat.le_of_ble_eq_true rfl)) dc_R_checkpoint_2 ⟨Nat.le_of_ble_eq_true rfl, Nat.le_of_ble_eq_true rfl⟩) (fun H locs hP hD hS => ?_)
  have hP : va_P (dC, dI) clsL [zR r cn mn mi nn] H := hP.sub (ws' := [zR r cn mn mi nn]) [0] rfl
  have hD : va_D A [zR r cn mn mi nn] := hD.sub (ws' := [zR r cn mn mi nn]) [0] (by decide) rfl
  refine lv_if_ne (tgt := 10) hx hb dc_R_checkpoint_5 (by decide) (fun hc => ?_) (fun hc => ?_)
  · have h1 : false = true := bI_n0.mp hc
    exact absurd h1 (by decide)
  have h1 : false = false := bI_0.mp hc
  refine lv_iconst (v := (-1)) hx hb dc_R_checkpoint_8 (by decide) ?_
  have hP9 := hP.sub (ws' := [zR r cn mn mi nn]) [0] rfl
  have hD9 := hD.sub (ws' := [zR r cn mn mi nn]) [0] (by decide) rfl
  exact W.iret (v := (-1)) hx hb hr (fun t ht hW => ⟨⟨_, (), rfl, rfl, by rw [ht]; exact hP9, va_K.moved hW.alike hK, hD9⟩, hS.F ht⟩) hS.2.2 dc_R_checkpoint_9

set_option maxHeartbeats 4000000 in
set_option maxRecDepth 100000 in
theorem oc_R_checkpoint_dn (l : Launch) (dC : Nat → ClassId) (dI : Nat → Nat → Nat) (cI cJ cZ cP : ClassId) (sz : Nat) (r : Nat → Nat) (cn : Nat) (mn : Nat) (mi : Nat) (nn : Nat) (dw : Nat → Bool) (j : Nat) (hj : j < 3) (hdw : dw j = true) : mt_I l mn_R_checkpoint bc_R_checkpoint 2 (some .int) ({ frames := 2, cells := 0, slots := 0, locals := 42 }) (dC, dI) (TYS cI cJ cZ cP) sz [.ref (r 0), .int (nI j)] [zR r cn mn mi nn, ((r 18), .inl (cZ, 3, .inl (bF dw)))] [zR r cn mn mi nn, ((r 18), .inl (cZ, 3, .inl (bF dw)))] ((-1)) 0 0 := by
  unfold mt_I
  refine Met.ofW (cc := bc_R_checkpoint) (maxL := 2) (ret := (some .int)) (by decide) rfl ?_
  intro p e s m args below meth c s₁ B hml hv
  obtain ⟨rfl, hsz, hP, hK, hD0⟩ := hv
  have hx := B.exec
  have hb := B.bytes
  have hr := B.returns
  have hts := atoms_spec (ws := wsT mn_R_checkpoint bc_R_checkpoint 2 (some .int)) B.pre
  have htb : ∀ w ∈ gtbl, w.before _ s = true := fun w h => hts w (List.mem_cons_of_mem _ h)
  have hown : s.vm.findClass cn_R = some m.cls := findClass_of_methodNamed B.named
  have hlocks := B.notSynchronized
  subst hsz
  have hD := hD0.self (sz := s.heap.size)
  generalize hAe : va_A [zR r cn mn mi nn, ((r 18), .inl (cZ, 3, .inl (bF dw)))] s.heap.size = A at hD ⊢
  have hA : ∀ q : Nat, s.heap.size ≤ q → A q := fun q h => by rw [← hAe]; exact Or.inr h
  have hS : va_S A s.heap s.heap [] := va_S.rf
  have hP : va_P (dC, dI) clsL [zR r cn mn mi nn, ((r 18), .inl (cZ, 3, .inl (bF dw)))] s.heap := hP
  have hl := lv_entry ([.ref (r 0), .int (nI j)]) (n := 2) (Nat.le_of_ble_eq_true rfl)
  rw [lg_entry_eq]
  generalize (lg_sl ([.ref (r 0), .int (nI j)]) ++ List.replicate (2 - (lg_sl ([.ref (r 0), .int (nI j)])).length) Slot.unset).toArray = ls at hl ⊢
  have hl : lv_has ls 2 [(0, .ref (r 0)), (1, .int (nI j))] := hl
  refine lv_aload_n hx hb dc_R_checkpoint_0 rfl (lv_at hl 0 rfl) ?_
  refine lv_iload_n hx hb dc_R_checkpoint_1 rfl (lv_at hl 1 rfl) ?_
  refine cl_i (wc := [zR r cn mn mi nn, ((r 18), .inl (cZ, 3, .inl (bF dw)))]) (wr := []) (w1 := [zR r cn mn mi nn, ((r 18), .inl (cZ, 3, .inl (bF dw)))]) hP hD hS hA [0, 1] [] rfl rfl (by decide) (by decide) (va_runV (As := [.int (nI j)]) (rest := []) ⟨hx, hb, hml, hown, htb⟩ (oc_R_isUp l dC dI cI cJ cZ cP _ r cn mn mi nn dw j (by first | assumption | omega)) (cwV 1 htb (gw_V kw_502 kw_504 kp_21 kw_5 kw_505) rfl rfl rfl (by decide +kernel) ⟨Nat.le_of_ble_eq_true rfl, Nat.le_of_ble_eq_true rfl⟩) (pr_V hP hK hD (va_recv hK hP (ci := 4) (q0 := 0) rfl rfl) [0, 1] (by decide) rfl rfl) rfl rfl hl.1 rfl (lv_room (Nat.le_of_ble_eq_true rfl)) dc_R_checkpoint_2 ⟨Nat.le_of_ble_eq_true rfl, Nat.le_of_ble_eq_true rfl⟩) (fun H locs hP hD hS => ?_)
  have hP : va_P (dC, dI) clsL [zR r cn mn mi nn, ((r 18), .inl (cZ, 3, .inl (bF dw)))] H := hP.sub (ws' := [zR r cn mn mi nn, ((r 18), .inl (cZ, 3, .inl (bF dw)))]) [0, 1] rfl
  have hD : va_D A [zR r cn mn mi nn, ((r 18), .inl (cZ, 3, .inl (bF dw)))] := hD.sub (ws' := [zR r cn mn mi nn, ((r 18), .inl (cZ, 3, .inl (bF dw)))]) [0, 1] (by decide) rfl
  refine lv_if_ne (tgt := 10) hx hb dc_R_checkpoint_5 (by decide) (fun hc => ?_) (fun hc => ?_)
  · have h1 : (!(dw j)) = true := bI_n0.mp hc
    exact absurd h1 (by rw [hdw]; decide)
  have h1 : (!(dw j)) = false := bI_0.mp hc
  refine lv_iconst (v := (-1)) hx hb dc_R_checkpoint_8 (by decide) ?_
  have hP9 := hP.sub (ws' := [zR r cn mn mi nn, ((r 18), .inl (cZ, 3, .inl (bF dw)))]) [0, 1] rfl
  have hD9 := hD.sub (ws' := [zR r cn mn mi nn, ((r 18), .inl (cZ, 3, .inl (bF dw)))]) [0, 1] (by decide) rfl
  exact W.iret (v := (-1)) hx hb hr (fun t ht hW => ⟨⟨_, (), rfl, rfl, by rw [ht]; exact hP9, va_K.moved hW.alike hK, hD9⟩, hS.F ht⟩) hS.2.2 dc_R_checkpoint_9

set_option maxHeartbeats 4000000 in
set_option maxRecDepth 100000 in
theorem oc_R_checkpoint (l : Launch) (dC : Nat → ClassId) (dI : Nat → Nat → Nat) (cI cJ cZ cP : ClassId) (sz : Nat) (r : Nat → Nat) (cn : Nat) (mn : Nat) (mi : Nat) (nn : Nat) (dw : Nat → Bool) (sb : Nat → Bool) (cc : Nat → Nat) (lg : Nat → Nat) (lt : Nat → Option Nat) (sd : Nat → Option Nat) (j : Nat) (n : Nat) (hj : j < 3) (hdw : dw j = false) (hlg : lg j = n) (hn : n ≤ 40) (hcc : ∀ i, i < n → cc (40 * j + i) < 40) (hlt : ∀ i, lt j = some i → i < 2 ^ 31) : mt_I l mn_R_checkpoint bc_R_checkpoint 2 (some .int) ({ frames := 2, cells := 0, slots := 0, locals := 42 }) (dC, dI) (TYS cI cJ cZ cP) sz [.ref (r 0), .int (nI j)] [zR r cn mn mi nn, ((r 18), .inl (cZ, 3, .inl (bF dw))), ((r 4), .inl (cZ, 40, .inl (bF sb))), ((r 19), .inl (cI, 120, .inl (nF cc))), ((r 20), .inl (cI, 3, .inl (nF lg))), ((r 22), .inl (cI, 3, .inl (oF lt))), ((r 23), .inl (cI, 3, .inl (oF sd)))] [zR r cn mn mi nn, ((r 18), .inl (cZ, 3, .inl (bF dw))), ((r 4), .inl (cZ, 40, .inl (bF ((se_S sb (fun i => cc (40 * j + i)) n).2)))), ((r 19), .inl (cI, 120, .inl (nF cc))), ((r 20), .inl (cI, 3, .inl (nF lg))), ((r 22), .inl (cI, 3, .inl (oF (ck_L lt j n)))), ((r 23), .inl (cI, 3, .inl (oF (ck_S lt sd j n))))] (nI n) 0 0 := by
  unfold mt_I
  refine Met.ofW (cc := bc_R_checkpoint) (maxL := 2) (ret := (some .int)) (by decide) rfl ?_
  intro p e s m args below meth c s₁ B hml hv
  obtain ⟨rfl, hsz, hP, hK, hD0⟩ := hv
  have hx := B.exec
  have hb := B.bytes
  have hr := B.returns
  have hts := atoms_spec (ws := wsT mn_R_checkpoint bc_R_checkpoint 2 (some .int)) B.pre
  have htb : ∀ w ∈ gtbl, w.before _ s = true := fun w h => hts w (List.mem_cons_of_mem _ h)
  have hown : s.vm.findClass cn_R = some m.cls := findClass_of_methodNamed B.named
  have hlocks := B.notSynchronized
  subst hsz
  have hD := hD0.self (sz := s.heap.size)
  generalize hAe : va_A [zR r cn mn mi nn, ((r 18), .inl (cZ, 3, .inl (bF dw))), ((r 4), .inl (cZ, 40, .inl (bF sb))), ((r 19), .inl (cI, 120, .inl (nF cc))), ((r 20), .inl (cI, 3, .inl (nF lg))), ((r 22), .inl (cI, 3, .inl (oF lt))), ((r 23), .inl (cI, 3, .inl (oF sd)))] s.heap.size = A at hD ⊢
  have hA : ∀ q : Nat, s.heap.size ≤ q → A q := fun q h => by rw [← hAe]; exact Or.inr h
  have hS : va_S A s.heap s.heap [] := va_S.rf
  have hP : va_P (dC, dI) clsL [zR r cn mn mi nn, ((r 18), .inl (cZ, 3, .inl (bF dw))), ((r 4), .inl (cZ, 40, .inl (bF sb))), ((r 19), .inl (cI, 120, .inl (nF cc))), ((r 20), .inl (cI, 3, .inl (nF lg))), ((r 22), .inl (cI, 3, .inl (oF lt))), ((r 23), .inl (cI, 3, .inl (oF sd)))] s.heap := hP
  have hl := lv_entry ([.ref (r 0), .int (nI j)]) (n := 2) (Nat.le_of_ble_eq_true rfl)
  rw [lg_entry_eq]
  generalize (lg_sl ([.ref (r 0), .int (nI j)]) ++ List.replicate (2 - (lg_sl ([.ref (r 0), .int (nI j)])).length) Slot.unset).toArray = ls at hl ⊢
  have hl : lv_has ls 2 [(0, .ref (r 0)), (1, .int (nI j))] := hl
  refine lv_aload_n hx hb dc_R_checkpoint_0 rfl (lv_at hl 0 rfl) ?_
  refine lv_iload_n hx hb dc_R_checkpoint_1 rfl (lv_at hl 1 rfl) ?_
  refine cl_i (wc := [zR r cn mn mi nn, ((r 18), .inl (cZ, 3, .inl (bF dw)))]) (wr := [((r 4), .inl (cZ, 40, .inl (bF sb))), ((r 19), .inl (cI, 120, .inl (nF cc))), ((r 20), .inl (cI, 3, .inl (nF lg))), ((r 22), .inl (cI, 3, .inl (oF lt))), ((r 23), .inl (cI, 3, .inl (oF sd)))]) (w1 := [zR r cn mn mi nn, ((r 18), .inl (cZ, 3, .inl (bF dw)))]) hP hD hS hA [0, 1] [2, 3, 4, 5, 6] rfl rfl (by decide) (by decide) (va_runV (As := [.int (nI j)]) (rest := []) ⟨hx, hb, hml, hown, htb⟩ (oc_R_isUp l dC dI cI cJ cZ cP _ r cn mn mi nn dw j (by first | assumption | omega)) (cwV 1 htb (gw_V kw_502 kw_504 kp_21 kw_5 kw_505) rfl rfl rfl (by decide +kernel) ⟨Nat.le_of_ble_eq_true rfl, Nat.le_of_ble_eq_true rfl⟩) (pr_V hP hK hD (va_recv hK hP (ci := 4) (q0 := 0) rfl rfl) [0, 1] (by decide) rfl rfl) rfl rfl hl.1 rfl (lv_room (Nat.le_of_ble_eq_true rfl)) dc_R_checkpoint_2 ⟨Nat.le_of_ble_eq_true rfl, Nat.le_of_ble_eq_true rfl⟩) (fun H locs hP hD hS => ?_)
  have hP : va_P (dC, dI) clsL [zR r cn mn mi nn, ((r 18), .inl (cZ, 3, .inl (bF dw))), ((r 4), .inl (cZ, 40, .inl (bF sb))), ((r 19), .inl (cI, 120, .inl (nF cc))), ((r 20), .inl (cI, 3, .inl (nF lg))), ((r 22), .inl (cI, 3, .inl (oF lt))), ((r 23), .inl (cI, 3, .inl (oF sd)))] H := hP.sub (ws' := [zR r cn mn mi nn, ((r 18), .inl (cZ, 3, .inl (bF dw))), ((r 4), .inl (cZ, 40, .inl (bF sb))), ((r 19), .inl (cI, 120, .inl (nF cc))), ((r 20), .inl (cI, 3, .inl (nF lg))), ((r 22), .inl (cI, 3, .inl (oF lt))), ((r 23), .inl (cI, 3, .inl (oF sd)))]) [5, 6, 0, 1, 2, 3, 4] rfl
  have hD : va_D A [zR r cn mn mi nn, ((r 18), .inl (cZ, 3, .inl (bF dw))), ((r 4), .inl (cZ, 40, .inl (bF sb))), ((r 19), .inl (cI, 120, .inl (nF cc))), ((r 20), .inl (cI, 3, .inl (nF lg))), ((r 22), .inl (cI, 3, .inl (oF lt))), ((r 23), .inl (cI, 3, .inl (oF sd)))] := hD.sub (ws' := [zR r cn mn mi nn, ((r 18), .inl (cZ, 3, .inl (bF dw))), ((r 4), .inl (cZ, 40, .inl (bF sb))), ((r 19), .inl (cI, 120, .inl (nF cc))), ((r 20), .inl (cI, 3, .inl (nF lg))), ((r 22), .inl (cI, 3, .inl (oF lt))), ((r 23), .inl (cI, 3, .inl (oF sd)))]) [5, 6, 0, 1, 2, 3, 4] (by decide) rfl
  refine lv_if_ne (tgt := 10) hx hb dc_R_checkpoint_5 (by decide) (fun hc => ?_) (fun hc => ?_)
  rotate_left
  · have h1 : (!(dw j)) = false := bI_0.mp hc
    exact absurd h1 (by rw [hdw]; decide)
  have h1 : (!(dw j)) = true := bI_n0.mp hc
  refine lv_aload_n hx hb dc_R_checkpoint_10 rfl (lv_at hl 0 rfl) ?_
  refine lv_iload_n hx hb dc_R_checkpoint_11 rfl (lv_at hl 1 rfl) ?_
  refine cl_i (wc := [zR r cn mn mi nn, ((r 4), .inl (cZ, 40, .inl (bF sb))), ((r 19), .inl (cI, 120, .inl (nF cc))), ((r 20), .inl (cI, 3, .inl (nF lg)))]) (wr := [((r 18), .inl (cZ, 3, .inl (bF dw))), ((r 22), .inl (cI, 3, .inl (oF lt))), ((r 23), .inl (cI, 3, .inl (oF sd)))]) (w1 := [zR r cn mn mi nn, ((r 4), .inl (cZ, 40, .inl (bF ((se_S sb (fun i => cc (40 * j + i)) n).2)))), ((r 19), .inl (cI, 120, .inl (nF cc))), ((r 20), .inl (cI, 3, .inl (nF lg)))]) hP hD hS hA [0, 2, 3, 4] [1, 5, 6] rfl rfl (by decide) (by decide) (va_runV (As := [.int (nI j)]) (rest := []) ⟨hx, hb, hml, hown, htb⟩ (oc_R_settle l dC dI cI cJ cZ cP _ r cn mn mi nn sb cc lg j n (by first | assumption | omega) (by first | assumption | omega) (by first | assumption | omega) (by first | assumption | omega)) (cwV 1 htb (gw_V kw_490 kw_492 kp_20 kw_5 kw_493) rfl rfl rfl (by decide +kernel) ⟨Nat.le_of_ble_eq_true rfl, Nat.le_of_ble_eq_true rfl⟩) (pr_V hP hK hD (va_recv hK hP (ci := 4) (q0 := 0) rfl rfl) [0, 2, 3, 4] (by decide) rfl rfl) rfl rfl hl.1 rfl (lv_room (Nat.le_of_ble_eq_true rfl)) dc_R_checkpoint_12 ⟨Nat.le_of_ble_eq_true rfl, Nat.le_of_ble_eq_true rfl⟩) (fun H locs hP hD hS => ?_)
  have hP : va_P (dC, dI) clsL [zR r cn mn mi nn, ((r 18), .inl (cZ, 3, .inl (bF dw))), ((r 4), .inl (cZ, 40, .inl (bF ((se_S sb (fun i => cc (40 * j + i)) n).2)))), ((r 19), .inl (cI, 120, .inl (nF cc))), ((r 20), .inl (cI, 3, .inl (nF lg))), ((r 22), .inl (cI, 3, .inl (oF lt))), ((r 23), .inl (cI, 3, .inl (oF sd)))] H := hP.sub (ws' := [zR r cn mn mi nn, ((r 18), .inl (cZ, 3, .inl (bF dw))), ((r 4), .inl (cZ, 40, .inl (bF ((se_S sb (fun i => cc (40 * j + i)) n).2)))), ((r 19), .inl (cI, 120, .inl (nF cc))), ((r 20), .inl (cI, 3, .inl (nF lg))), ((r 22), .inl (cI, 3, .inl (oF lt))), ((r 23), .inl (cI, 3, .inl (oF sd)))]) [3, 0, 4, 5, 6, 1, 2] rfl
  have hD : va_D A [zR r cn mn mi nn, ((r 18), .inl (cZ, 3, .inl (bF dw))), ((r 4), .inl (cZ, 40, .inl (bF ((se_S sb (fun i => cc (40 * j + i)) n).2)))), ((r 19), .inl (cI, 120, .inl (nF cc))), ((r 20), .inl (cI, 3, .inl (nF lg))), ((r 22), .inl (cI, 3, .inl (oF lt))), ((r 23), .inl (cI, 3, .inl (oF sd)))] := hD.sub (ws' := [zR r cn mn mi nn, ((r 18), .inl (cZ, 3, .inl (bF dw))), ((r 4), .inl (cZ, 40, .inl (bF ((se_S sb (fun i => cc (40 * j + i)) n).2)))), ((r 19), .inl (cI, 120, .inl (nF cc))), ((r 20), .inl (cI, 3, .inl (nF lg))), ((r 22), .inl (cI, 3, .inl (oF lt))), ((r 23), .inl (cI, 3, .inl (oF sd)))]) [3, 0, 4, 5, 6, 1, 2] (by decide) rfl
  refine lv_pop hx hb dc_R_checkpoint_15 rfl ?_
  refine lv_aload_n hx hb dc_R_checkpoint_16 rfl (lv_at hl 0 rfl) ?_
  refine va_get (D := (dC, dI)) (ci := 4) (v := .ref (r 22)) (C := cn_R) (T := ft_R) (N := 27) hx hb htb ki_R hown hK hP 0 rfl rfl 22 (by decide) (htb _ kw_392) (fun _ h9 => h9) rfl dc_R_checkpoint_17 ?_
  refine lv_iload_n hx hb dc_R_checkpoint_20 rfl (lv_at hl 1 rfl) ?_
  refine wa_old (k := j) hx hb hK hP 5 0 rfl rfl (by omega) (by omega) dc_R_checkpoint_21 ?_
  refine lv_aload_n hx hb dc_R_checkpoint_22 rfl (lv_at hl 0 rfl) ?_
  refine va_get (D := (dC, dI)) (ci := 4) (v := .ref (r 20)) (C := cn_R) (T := ft_R) (N := 27) hx hb htb ki_R hown hK hP 0 rfl rfl 20 (by decide) (htb _ kw_390) (fun _ h9 => h9) rfl dc_R_checkpoint_23 ?_
  refine lv_iload_n hx hb dc_R_checkpoint_26 rfl (lv_at hl 1 rfl) ?_
  refine wa_nld (k := j) hx hb hK hP 4 0 rfl rfl (by omega) (by omega) dc_R_checkpoint_27 ?_
  refine tp_i (y := nI n) (by rw [hlg]) ?_
  refine lv_icmp_eq (tgt := 55) hx hb dc_R_checkpoint_28 (by decide) (fun hc => ?_) (fun hc => ?_)
  · have h2 : lt j = some n := (oI_n (by assumption) (by omega)).mp hc
    refine lv_aload_n hx hb dc_R_checkpoint_55 rfl (lv_at hl 0 rfl) ?_
    refine va_get (D := (dC, dI)) (ci := 4) (v := .ref (r 20)) (C := cn_R) (T := ft_R) (N := 27) hx hb htb ki_R hown hK hP 0 rfl rfl 20 (by decide) (htb _ kw_390) (fun _ h9 => h9) rfl dc_R_checkpoint_56 ?_
    refine lv_iload_n hx hb dc_R_checkpoint_59 rfl (lv_at hl 1 rfl) ?_
    refine wa_nld (k := j) hx hb hK hP 4 0 rfl rfl (by omega) (by omega) dc_R_checkpoint_60 ?_
    refine tp_i (y := nI n) (by rw [hlg]) ?_
    have hP8 := hP.sub (ws' := [zR r cn mn mi nn, ((r 18), .inl (cZ, 3, .inl (bF dw))), ((r 4), .inl (cZ, 40, .inl (bF ((se_S sb (fun i => cc (40 * j + i)) n).2)))), ((r 19), .inl (cI, 120, .inl (nF cc))), ((r 20), .inl (cI, 3, .inl (nF lg))), ((r 22), .inl (cI, 3, .inl (oF lt))), ((r 23), .inl (cI, 3, .inl (oF sd)))]) [0, 1, 2, 3, 4, 5, 6] rfl
    have hD8 := hD.sub (ws' := [zR r cn mn mi nn, ((r 18), .inl (cZ, 3, .inl (bF dw))), ((r 4), .inl (cZ, 40, .inl (bF ((se_S sb (fun i => cc (40 * j + i)) n).2)))), ((r 19), .inl (cI, 120, .inl (nF cc))), ((r 20), .inl (cI, 3, .inl (nF lg))), ((r 22), .inl (cI, 3, .inl (oF lt))), ((r 23), .inl (cI, 3, .inl (oF sd)))]) [0, 1, 2, 3, 4, 5, 6] (by decide) rfl
    have hW8 : ([zR r cn mn mi nn, ((r 18), .inl (cZ, 3, .inl (bF dw))), ((r 4), .inl (cZ, 40, .inl (bF ((se_S sb (fun i => cc (40 * j + i)) n).2)))), ((r 19), .inl (cI, 120, .inl (nF cc))), ((r 20), .inl (cI, 3, .inl (nF lg))), ((r 22), .inl (cI, 3, .inl (oF lt))), ((r 23), .inl (cI, 3, .inl (oF sd)))] : va_W) = [zR r cn mn mi nn, ((r 18), .inl (cZ, 3, .inl (bF dw))), ((r 4), .inl (cZ, 40, .inl (bF ((se_S sb (fun i => cc (40 * j + i)) n).2)))), ((r 19), .inl (cI, 120, .inl (nF cc))), ((r 20), .inl (cI, 3, .inl (nF lg))), ((r 22), .inl (cI, 3, .inl (oF (ck_L lt j n)))), ((r 23), .inl (cI, 3, .inl (oF (ck_S lt sd j n))))] := by simp [ck_L, ck_S, h2]
    rw [hW8] at hP8 hD8
    have hP9 := hP8
    have hD9 := hD8
    exact W.iret (v := nI n) hx hb hr (fun t ht hW => ⟨⟨_, (), rfl, rfl, by rw [ht]; exact hP9, va_K.moved hW.alike hK, hD9⟩, hS.F ht⟩) hS.2.2 dc_R_checkpoint_61
  · have h2 : ¬ lt j = some n := fun h9 => hc ((oI_n (by assumption) (by omega)).mpr h9)
    refine lv_aload_n hx hb dc_R_checkpoint_31 rfl (lv_at hl 0 rfl) ?_
    refine va_get (D := (dC, dI)) (ci := 4) (v := .ref (r 23)) (C := cn_R) (T := ft_R) (N := 27) hx hb htb ki_R hown hK hP 0 rfl rfl 23 (by decide) (htb _ kw_393) (fun _ h9 => h9) rfl dc_R_checkpoint_32 ?_
    refine lv_iload_n hx hb dc_R_checkpoint_35 rfl (lv_at hl 1 rfl) ?_
    refine lv_aload_n hx hb dc_R_checkpoint_36 rfl (lv_at hl 0 rfl) ?_
    refine va_get (D := (dC, dI)) (ci := 4) (v := .ref (r 22)) (C := cn_R) (T := ft_R) (N := 27) hx hb htb ki_R hown hK hP 0 rfl rfl 22 (by decide) (htb _ kw_392) (fun _ h9 => h9) rfl dc_R_checkpoint_37 ?_
    refine lv_iload_n hx hb dc_R_checkpoint_40 rfl (lv_at hl 1 rfl) ?_
    refine wa_old (k := j) hx hb hK hP 5 0 rfl rfl (by omega) (by omega) dc_R_checkpoint_41 ?_
    refine wa_ost (k := j) (x := lt j) hx hb hK hP hD hS 6 0 rfl rfl (by omega) (by omega) dc_R_checkpoint_42 (fun H locs hP hD hS => ?_)
    have hP : va_P (dC, dI) clsL [zR r cn mn mi nn, ((r 18), .inl (cZ, 3, .inl (bF dw))), ((r 4), .inl (cZ, 40, .inl (bF ((se_S sb (fun i => cc (40 * j + i)) n).2)))), ((r 19), .inl (cI, 120, .inl (nF cc))), ((r 20), .inl (cI, 3, .inl (nF lg))), ((r 22), .inl (cI, 3, .inl (oF lt))), ((r 23), .inl (cI, 3, .inl (oF (va_up sd j (lt j)))))] H := hP
    have hD : va_D A [zR r cn mn mi nn, ((r 18), .inl (cZ, 3, .inl (bF dw))), ((r 4), .inl (cZ, 40, .inl (bF ((se_S sb (fun i => cc (40 * j + i)) n).2)))), ((r 19), .inl (cI, 120, .inl (nF cc))), ((r 20), .inl (cI, 3, .inl (nF lg))), ((r 22), .inl (cI, 3, .inl (oF lt))), ((r 23), .inl (cI, 3, .inl (oF (va_up sd j (lt j)))))] := hD
    refine lv_aload_n hx hb dc_R_checkpoint_43 rfl (lv_at hl 0 rfl) ?_
    refine va_get (D := (dC, dI)) (ci := 4) (v := .ref (r 22)) (C := cn_R) (T := ft_R) (N := 27) hx hb htb ki_R hown hK hP 0 rfl rfl 22 (by decide) (htb _ kw_392) (fun _ h9 => h9) rfl dc_R_checkpoint_44 ?_
    refine lv_iload_n hx hb dc_R_checkpoint_47 rfl (lv_at hl 1 rfl) ?_
    refine lv_aload_n hx hb dc_R_checkpoint_48 rfl (lv_at hl 0 rfl) ?_
    refine va_get (D := (dC, dI)) (ci := 4) (v := .ref (r 20)) (C := cn_R) (T := ft_R) (N := 27) hx hb htb ki_R hown hK hP 0 rfl rfl 20 (by decide) (htb _ kw_390) (fun _ h9 => h9) rfl dc_R_checkpoint_49 ?_
    refine lv_iload_n hx hb dc_R_checkpoint_52 rfl (lv_at hl 1 rfl) ?_
    refine wa_nld (k := j) hx hb hK hP 4 0 rfl rfl (by omega) (by omega) dc_R_checkpoint_53 ?_
    refine tp_i (y := nI n) (by rw [hlg]) ?_
    refine wa_ost (k := j) (x := (some n)) hx hb hK hP hD hS 5 0 rfl rfl (by omega) (by omega) dc_R_checkpoint_54 (fun H locs hP hD hS => ?_)
    have hP : va_P (dC, dI) clsL [zR r cn mn mi nn, ((r 18), .inl (cZ, 3, .inl (bF dw))), ((r 4), .inl (cZ, 40, .inl (bF ((se_S sb (fun i => cc (40 * j + i)) n).2)))), ((r 19), .inl (cI, 120, .inl (nF cc))), ((r 20), .inl (cI, 3, .inl (nF lg))), ((r 22), .inl (cI, 3, .inl (oF (va_up lt j (some n))))), ((r 23), .inl (cI, 3, .inl (oF (va_up sd j (lt j)))))] H := hP
    have hD : va_D A [zR r cn mn mi nn, ((r 18), .inl (cZ, 3, .inl (bF dw))), ((r 4), .inl (cZ, 40, .inl (bF ((se_S sb (fun i => cc (40 * j + i)) n).2)))), ((r 19), .inl (cI, 120, .inl (nF cc))), ((r 20), .inl (cI, 3, .inl (nF lg))), ((r 22), .inl (cI, 3, .inl (oF (va_up lt j (some n))))), ((r 23), .inl (cI, 3, .inl (oF (va_up sd j (lt j)))))] := hD
    refine lv_aload_n hx hb dc_R_checkpoint_55 rfl (lv_at hl 0 rfl) ?_
    refine va_get (D := (dC, dI)) (ci := 4) (v := .ref (r 20)) (C := cn_R) (T := ft_R) (N := 27) hx hb htb ki_R hown hK hP 0 rfl rfl 20 (by decide) (htb _ kw_390) (fun _ h9 => h9) rfl dc_R_checkpoint_56 ?_
    refine lv_iload_n hx hb dc_R_checkpoint_59 rfl (lv_at hl 1 rfl) ?_
    refine wa_nld (k := j) hx hb hK hP 4 0 rfl rfl (by omega) (by omega) dc_R_checkpoint_60 ?_
    refine tp_i (y := nI n) (by rw [hlg]) ?_
    have hP8 := hP.sub (ws' := [zR r cn mn mi nn, ((r 18), .inl (cZ, 3, .inl (bF dw))), ((r 4), .inl (cZ, 40, .inl (bF ((se_S sb (fun i => cc (40 * j + i)) n).2)))), ((r 19), .inl (cI, 120, .inl (nF cc))), ((r 20), .inl (cI, 3, .inl (nF lg))), ((r 22), .inl (cI, 3, .inl (oF (va_up lt j (some n))))), ((r 23), .inl (cI, 3, .inl (oF (va_up sd j (lt j)))))]) [0, 1, 2, 3, 4, 5, 6] rfl
    have hD8 := hD.sub (ws' := [zR r cn mn mi nn, ((r 18), .inl (cZ, 3, .inl (bF dw))), ((r 4), .inl (cZ, 40, .inl (bF ((se_S sb (fun i => cc (40 * j + i)) n).2)))), ((r 19), .inl (cI, 120, .inl (nF cc))), ((r 20), .inl (cI, 3, .inl (nF lg))), ((r 22), .inl (cI, 3, .inl (oF (va_up lt j (some n))))), ((r 23), .inl (cI, 3, .inl (oF (va_up sd j (lt j)))))]) [0, 1, 2, 3, 4, 5, 6] (by decide) rfl
    have hW8 : ([zR r cn mn mi nn, ((r 18), .inl (cZ, 3, .inl (bF dw))), ((r 4), .inl (cZ, 40, .inl (bF ((se_S sb (fun i => cc (40 * j + i)) n).2)))), ((r 19), .inl (cI, 120, .inl (nF cc))), ((r 20), .inl (cI, 3, .inl (nF lg))), ((r 22), .inl (cI, 3, .inl (oF (va_up lt j (some n))))), ((r 23), .inl (cI, 3, .inl (oF (va_up sd j (lt j)))))] : va_W) = [zR r cn mn mi nn, ((r 18), .inl (cZ, 3, .inl (bF dw))), ((r 4), .inl (cZ, 40, .inl (bF ((se_S sb (fun i => cc (40 * j + i)) n).2)))), ((r 19), .inl (cI, 120, .inl (nF cc))), ((r 20), .inl (cI, 3, .inl (nF lg))), ((r 22), .inl (cI, 3, .inl (oF (ck_L lt j n)))), ((r 23), .inl (cI, 3, .inl (oF (ck_S lt sd j n))))] := by simp [ck_L, ck_S, h2]
    rw [hW8] at hP8 hD8
    have hP9 := hP8
    have hD9 := hD8
    exact W.iret (v := nI n) hx hb hr (fun t ht hW => ⟨⟨_, (), rfl, rfl, by rw [ht]; exact hP9, va_K.moved hW.alike hK, hD9⟩, hS.F ht⟩) hS.2.2 dc_R_checkpoint_61

set_option maxHeartbeats 4000000 in
set_option maxRecDepth 100000 in
theorem oc_R_resend_no (l : Launch) (dC : Nat → ClassId) (dI : Nat → Nat → Nat) (cI cJ cZ cP : ClassId) (sz : Nat) (r : Nat → Nat) (cn : Nat) (mn : Nat) (mi : Nat) (nn : Nat) (y : Int32) (hy : y < 0 ∨ nI 3 ≤ y) : mt_I l mn_R_resend bc_R_resend 4 (some .int) ({ frames := 2, cells := 0, slots := 0, locals := 42 }) (dC, dI) (TYS cI cJ cZ cP) sz [.ref (r 0), .int y] [zR r cn mn mi nn] [zR r cn mn mi nn] ((-1)) 0 0 := by
  unfold mt_I
  refine Met.ofW (cc := bc_R_resend) (maxL := 4) (ret := (some .int)) (by decide) rfl ?_
  intro p e s m args below meth c s₁ B hml hv
  obtain ⟨rfl, hsz, hP, hK, hD0⟩ := hv
  have hx := B.exec
  have hb := B.bytes
  have hr := B.returns
  have hts := atoms_spec (ws := wsT mn_R_resend bc_R_resend 4 (some .int)) B.pre
  have htb : ∀ w ∈ gtbl, w.before _ s = true := fun w h => hts w (List.mem_cons_of_mem _ h)
  have hown : s.vm.findClass cn_R = some m.cls := findClass_of_methodNamed B.named
  have hlocks := B.notSynchronized
  subst hsz
  have hD := hD0.self (sz := s.heap.size)
  generalize hAe : va_A [zR r cn mn mi nn] s.heap.size = A at hD ⊢
  have hA : ∀ q : Nat, s.heap.size ≤ q → A q := fun q h => by rw [← hAe]; exact Or.inr h
  have hS : va_S A s.heap s.heap [] := va_S.rf
  have hP : va_P (dC, dI) clsL [zR r cn mn mi nn] s.heap := hP
  have hl := lv_entry ([.ref (r 0), .int y]) (n := 4) (Nat.le_of_ble_eq_true rfl)
  rw [lg_entry_eq]
  generalize (lg_sl ([.ref (r 0), .int y]) ++ List.replicate (4 - (lg_sl ([.ref (r 0), .int y])).length) Slot.unset).toArray = ls at hl ⊢
  have hl : lv_has ls 4 [(0, .ref (r 0)), (1, .int y)] := hl
  refine lv_aload_n hx hb dc_R_resend_0 rfl (lv_at hl 0 rfl) ?_
  refine lv_iload_n hx hb dc_R_resend_1 rfl (lv_at hl 1 rfl) ?_
  refine cl_i (wc := [zR r cn mn mi nn]) (wr := []) (w1 := [zR r cn mn mi nn]) hP hD hS hA [0] [] rfl rfl (by decide) (by decide) (va_runV (As := [.int y]) (rest := []) ⟨hx, hb, hml, hown, htb⟩ (oc_R_isUp_no l dC dI cI cJ cZ cP _ r cn mn mi nn y (by first | assumption | omega)) (cwV 1 htb (gw_V kw_502 kw_504 kp_21 kw_5 kw_505) rfl rfl rfl (by decide +kernel) ⟨Nat.le_of_ble_eq_true rfl, Nat.le_of_ble_eq_true rfl⟩) (pr_V hP hK hD (va_recv hK hP (ci := 4) (q0 := 0) rfl rfl) [0] (by decide) rfl rfl) rfl rfl hl.1 rfl (lv_room (Nat.le_of_ble_eq_true rfl)) dc_R_resend_2 ⟨Nat.le_of_ble_eq_true rfl, Nat.le_of_ble_eq_true rfl⟩) (fun H locs hP hD hS => ?_)
  have hP : va_P (dC, dI) clsL [zR r cn mn mi nn] H := hP.sub (ws' := [zR r cn mn mi nn]) [0] rfl
  have hD : va_D A [zR r cn mn mi nn] := hD.sub (ws' := [zR r cn mn mi nn]) [0] (by decide) rfl
  refine lv_if_ne (tgt := 10) hx hb dc_R_resend_5 (by decide) (fun hc => ?_) (fun hc => ?_)
  · have h1 : false = true := bI_n0.mp hc
    exact absurd h1 (by decide)
  have h1 : false = false := bI_0.mp hc
  refine lv_iconst (v := (-1)) hx hb dc_R_resend_8 (by decide) ?_
  have hP9 := hP.sub (ws' := [zR r cn mn mi nn]) [0] rfl
  have hD9 := hD.sub (ws' := [zR r cn mn mi nn]) [0] (by decide) rfl
  exact W.iret (v := (-1)) hx hb hr (fun t ht hW => ⟨⟨_, (), rfl, rfl, by rw [ht]; exact hP9, va_K.moved hW.alike hK, hD9⟩, hS.F ht⟩) hS.2.2 dc_R_resend_9

set_option maxHeartbeats 4000000 in
set_option maxRecDepth 100000 in
theorem oc_R_resend_dn (l : Launch) (dC : Nat → ClassId) (dI : Nat → Nat → Nat) (cI cJ cZ cP : ClassId) (sz : Nat) (r : Nat → Nat) (cn : Nat) (mn : Nat) (mi : Nat) (nn : Nat) (dw : Nat → Bool) (j : Nat) (hj : j < 3) (hdw : dw j = true) : mt_I l mn_R_resend bc_R_resend 4 (some .int) ({ frames := 2, cells := 0, slots := 0, locals := 42 }) (dC, dI) (TYS cI cJ cZ cP) sz [.ref (r 0), .int (nI j)] [zR r cn mn mi nn, ((r 18), .inl (cZ, 3, .inl (bF dw)))] [zR r cn mn mi nn, ((r 18), .inl (cZ, 3, .inl (bF dw)))] ((-1)) 0 0 := by
  unfold mt_I
  refine Met.ofW (cc := bc_R_resend) (maxL := 4) (ret := (some .int)) (by decide) rfl ?_
  intro p e s m args below meth c s₁ B hml hv
  obtain ⟨rfl, hsz, hP, hK, hD0⟩ := hv
  have hx := B.exec
  have hb := B.bytes
  have hr := B.returns
  have hts := atoms_spec (ws := wsT mn_R_resend bc_R_resend 4 (some .int)) B.pre
  have htb : ∀ w ∈ gtbl, w.before _ s = true := fun w h => hts w (List.mem_cons_of_mem _ h)
  have hown : s.vm.findClass cn_R = some m.cls := findClass_of_methodNamed B.named
  have hlocks := B.notSynchronized
  subst hsz
  have hD := hD0.self (sz := s.heap.size)
  generalize hAe : va_A [zR r cn mn mi nn, ((r 18), .inl (cZ, 3, .inl (bF dw)))] s.heap.size = A at hD ⊢
  have hA : ∀ q : Nat, s.heap.size ≤ q → A q := fun q h => by rw [← hAe]; exact Or.inr h
  have hS : va_S A s.heap s.heap [] := va_S.rf
  have hP : va_P (dC, dI) clsL [zR r cn mn mi nn, ((r 18), .inl (cZ, 3, .inl (bF dw)))] s.heap := hP
  have hl := lv_entry ([.ref (r 0), .int (nI j)]) (n := 4) (Nat.le_of_ble_eq_true rfl)
  rw [lg_entry_eq]
  generalize (lg_sl ([.ref (r 0), .int (nI j)]) ++ List.replicate (4 - (lg_sl ([.ref (r 0), .int (nI j)])).length) Slot.unset).toArray = ls at hl ⊢
  have hl : lv_has ls 4 [(0, .ref (r 0)), (1, .int (nI j))] := hl
  refine lv_aload_n hx hb dc_R_resend_0 rfl (lv_at hl 0 rfl) ?_
  refine lv_iload_n hx hb dc_R_resend_1 rfl (lv_at hl 1 rfl) ?_
  refine cl_i (wc := [zR r cn mn mi nn, ((r 18), .inl (cZ, 3, .inl (bF dw)))]) (wr := []) (w1 := [zR r cn mn mi nn, ((r 18), .inl (cZ, 3, .inl (bF dw)))]) hP hD hS hA [0, 1] [] rfl rfl (by decide) (by decide) (va_runV (As := [.int (nI j)]) (rest := []) ⟨hx, hb, hml, hown, htb⟩ (oc_R_isUp l dC dI cI cJ cZ cP _ r cn mn mi nn dw j (by first | assumption | omega)) (cwV 1 htb (gw_V kw_502 kw_504 kp_21 kw_5 kw_505) rfl rfl rfl (by decide +kernel) ⟨Nat.le_of_ble_eq_true rfl, Nat.le_of_ble_eq_true rfl⟩) (pr_V hP hK hD (va_recv hK hP (ci := 4) (q0 := 0) rfl rfl) [0, 1] (by decide) rfl rfl) rfl rfl hl.1 rfl (lv_room (Nat.le_of_ble_eq_true rfl)) dc_R_resend_2 ⟨Nat.le_of_ble_eq_true rfl, Nat.le_of_ble_eq_true rfl⟩) (fun H locs hP hD hS => ?_)
  have hP : va_P (dC, dI) clsL [zR r cn mn mi nn, ((r 18), .inl (cZ, 3, .inl (bF dw)))] H := hP.sub (ws' := [zR r cn mn mi nn, ((r 18), .inl (cZ, 3, .inl (bF dw)))]) [0, 1] rfl
  have hD : va_D A [zR r cn mn mi nn, ((r 18), .inl (cZ, 3, .inl (bF dw)))] := hD.sub (ws' := [zR r cn mn mi nn, ((r 18), .inl (cZ, 3, .inl (bF dw)))]) [0, 1] (by decide) rfl
  refine lv_if_ne (tgt := 10) hx hb dc_R_resend_5 (by decide) (fun hc => ?_) (fun hc => ?_)
  · have h1 : (!(dw j)) = true := bI_n0.mp hc
    exact absurd h1 (by rw [hdw]; decide)
  have h1 : (!(dw j)) = false := bI_0.mp hc
  refine lv_iconst (v := (-1)) hx hb dc_R_resend_8 (by decide) ?_
  have hP9 := hP.sub (ws' := [zR r cn mn mi nn, ((r 18), .inl (cZ, 3, .inl (bF dw)))]) [0, 1] rfl
  have hD9 := hD.sub (ws' := [zR r cn mn mi nn, ((r 18), .inl (cZ, 3, .inl (bF dw)))]) [0, 1] (by decide) rfl
  exact W.iret (v := (-1)) hx hb hr (fun t ht hW => ⟨⟨_, (), rfl, rfl, by rw [ht]; exact hP9, va_K.moved hW.alike hK, hD9⟩, hS.F ht⟩) hS.2.2 dc_R_resend_9

set_option maxHeartbeats 4000000 in
set_option maxRecDepth 100000 in
theorem oc_R_resend (l : Launch) (dC : Nat → ClassId) (dI : Nat → Nat → Nat) (cI cJ cZ cP : ClassId) (sz : Nat) (r : Nat → Nat) (cn : Nat) (mn : Nat) (mi : Nat) (nn : Nat) (dw : Nat → Bool) (cc : Nat → Nat) (lg : Nat → Nat) (su : Nat → Nat) (sr : Nat → Option Nat) (j : Nat) (n : Nat) (hj : j < 3) (hdw : dw j = false) (hlg : lg j = n) (hn : n ≤ 40) (hcc : ∀ i, i < n → cc (40 * j + i) < 40) (hmn : mn ≤ 104) (hu : ∀ k, k < mn → su k < 4) (hs : ∀ k, k < mn → ∀ i, sr k = some i → i < 40) : mt_I l mn_R_resend bc_R_resend 4 (some .int) ({ frames := 2, cells := 0, slots := 0, locals := 42 }) (dC, dI) (TYS cI cJ cZ cP) sz [.ref (r 0), .int (nI j)] [zR r cn mn mi nn, ((r 18), .inl (cZ, 3, .inl (bF dw))), ((r 19), .inl (cI, 120, .inl (nF cc))), ((r 20), .inl (cI, 3, .inl (nF lg))), ((r 14), .inl (cI, 104, .inl (nF su))), ((r 15), .inl (cI, 104, .inl (oF sr)))] [zR r cn mn mi nn, ((r 18), .inl (cZ, 3, .inl (bF dw))), ((r 19), .inl (cI, 120, .inl (nF cc))), ((r 20), .inl (cI, 3, .inl (nF lg))), ((r 14), .inl (cI, 104, .inl (nF (rs_F su sr (fun i => cc (40 * j + i)) n mn)))), ((r 15), .inl (cI, 104, .inl (oF sr)))] (nI (rs_C su sr (fun i => cc (40 * j + i)) n mn)) 0 0 := by
  unfold mt_I
  refine Met.ofW (cc := bc_R_resend) (maxL := 4) (ret := (some .int)) (by decide) rfl ?_
  intro p e s m args below meth c s₁ B hml hv
  obtain ⟨rfl, hsz, hP, hK, hD0⟩ := hv
  have hx := B.exec
  have hb := B.bytes
  have hr := B.returns
  have hts := atoms_spec (ws := wsT mn_R_resend bc_R_resend 4 (some .int)) B.pre
  have htb : ∀ w ∈ gtbl, w.before _ s = true := fun w h => hts w (List.mem_cons_of_mem _ h)
  have hown : s.vm.findClass cn_R = some m.cls := findClass_of_methodNamed B.named
  have hlocks := B.notSynchronized
  subst hsz
  have hD := hD0.self (sz := s.heap.size)
  generalize hAe : va_A [zR r cn mn mi nn, ((r 18), .inl (cZ, 3, .inl (bF dw))), ((r 19), .inl (cI, 120, .inl (nF cc))), ((r 20), .inl (cI, 3, .inl (nF lg))), ((r 14), .inl (cI, 104, .inl (nF su))), ((r 15), .inl (cI, 104, .inl (oF sr)))] s.heap.size = A at hD ⊢
  have hA : ∀ q : Nat, s.heap.size ≤ q → A q := fun q h => by rw [← hAe]; exact Or.inr h
  have hS : va_S A s.heap s.heap [] := va_S.rf
  have hP : va_P (dC, dI) clsL [zR r cn mn mi nn, ((r 18), .inl (cZ, 3, .inl (bF dw))), ((r 19), .inl (cI, 120, .inl (nF cc))), ((r 20), .inl (cI, 3, .inl (nF lg))), ((r 14), .inl (cI, 104, .inl (nF su))), ((r 15), .inl (cI, 104, .inl (oF sr)))] s.heap := hP
  have hl := lv_entry ([.ref (r 0), .int (nI j)]) (n := 4) (Nat.le_of_ble_eq_true rfl)
  rw [lg_entry_eq]
  generalize (lg_sl ([.ref (r 0), .int (nI j)]) ++ List.replicate (4 - (lg_sl ([.ref (r 0), .int (nI j)])).length) Slot.unset).toArray = ls at hl ⊢
  have hl : lv_has ls 4 [(0, .ref (r 0)), (1, .int (nI j))] := hl
  refine lv_aload_n hx hb dc_R_resend_0 rfl (lv_at hl 0 rfl) ?_
  refine lv_iload_n hx hb dc_R_resend_1 rfl (lv_at hl 1 rfl) ?_
  refine cl_i (wc := [zR r cn mn mi nn, ((r 18), .inl (cZ, 3, .inl (bF dw)))]) (wr := [((r 19), .inl (cI, 120, .inl (nF cc))), ((r 20), .inl (cI, 3, .inl (nF lg))), ((r 14), .inl (cI, 104, .inl (nF su))), ((r 15), .inl (cI, 104, .inl (oF sr)))]) (w1 := [zR r cn mn mi nn, ((r 18), .inl (cZ, 3, .inl (bF dw)))]) hP hD hS hA [0, 1] [2, 3, 4, 5] rfl rfl (by decide) (by decide) (va_runV (As := [.int (nI j)]) (rest := []) ⟨hx, hb, hml, hown, htb⟩ (oc_R_isUp l dC dI cI cJ cZ cP _ r cn mn mi nn dw j (by first | assumption | omega)) (cwV 1 htb (gw_V kw_502 kw_504 kp_21 kw_5 kw_505) rfl rfl rfl (by decide +kernel) ⟨Nat.le_of_ble_eq_true rfl, Nat.le_of_ble_eq_true rfl⟩) (pr_V hP hK hD (va_recv hK hP (ci := 4) (q0 := 0) rfl rfl) [0, 1] (by decide) rfl rfl) rfl rfl hl.1 rfl (lv_room (Nat.le_of_ble_eq_true rfl)) dc_R_resend_2 ⟨Nat.le_of_ble_eq_true rfl, Nat.le_of_ble_eq_true rfl⟩) (fun H locs hP hD hS => ?_)
  have hP : va_P (dC, dI) clsL [zR r cn mn mi nn, ((r 18), .inl (cZ, 3, .inl (bF dw))), ((r 19), .inl (cI, 120, .inl (nF cc))), ((r 20), .inl (cI, 3, .inl (nF lg))), ((r 14), .inl (cI, 104, .inl (nF su))), ((r 15), .inl (cI, 104, .inl (oF sr)))] H := hP.sub (ws' := [zR r cn mn mi nn, ((r 18), .inl (cZ, 3, .inl (bF dw))), ((r 19), .inl (cI, 120, .inl (nF cc))), ((r 20), .inl (cI, 3, .inl (nF lg))), ((r 14), .inl (cI, 104, .inl (nF su))), ((r 15), .inl (cI, 104, .inl (oF sr)))]) [4, 5, 0, 1, 2, 3] rfl
  have hD : va_D A [zR r cn mn mi nn, ((r 18), .inl (cZ, 3, .inl (bF dw))), ((r 19), .inl (cI, 120, .inl (nF cc))), ((r 20), .inl (cI, 3, .inl (nF lg))), ((r 14), .inl (cI, 104, .inl (nF su))), ((r 15), .inl (cI, 104, .inl (oF sr)))] := hD.sub (ws' := [zR r cn mn mi nn, ((r 18), .inl (cZ, 3, .inl (bF dw))), ((r 19), .inl (cI, 120, .inl (nF cc))), ((r 20), .inl (cI, 3, .inl (nF lg))), ((r 14), .inl (cI, 104, .inl (nF su))), ((r 15), .inl (cI, 104, .inl (oF sr)))]) [4, 5, 0, 1, 2, 3] (by decide) rfl
  refine lv_if_ne (tgt := 10) hx hb dc_R_resend_5 (by decide) (fun hc => ?_) (fun hc => ?_)
  rotate_left
  · have h1 : (!(dw j)) = false := bI_0.mp hc
    exact absurd h1 (by rw [hdw]; decide)
  have h1 : (!(dw j)) = true := bI_n0.mp hc
  refine lv_iconst (v := nI 0) hx hb dc_R_resend_10 (by decide) ?_
  refine lv_istore_n (lv' := [(2, .int (nI 0)), (0, .ref (r 0)), (1, .int (nI j))]) hx hb dc_R_resend_11 rfl hl (by decide) rfl (fun ls hl => ?_)
  refine lv_iconst (v := nI 0) hx hb dc_R_resend_12 (by decide) ?_
  refine lv_istore_n (lv' := [(3, .int (nI 0)), (2, .int (nI 0)), (0, .ref (r 0)), (1, .int (nI j))]) hx hb dc_R_resend_13 rfl hl (by decide) rfl (fun ls hl => ?_)
  refine wl_ 14 (fun (x : Nat × Nat × (Nat → Nat)) => mn - x.1) (fun (x : Nat × Nat × (Nat → Nat)) (H : Heap) (locs : List Loc) (ls : Array Slot) => (x.1 ≤ mn ∧ x.2.1 = rs_C su sr (fun i => cc (40 * j + i)) n x.1 ∧ x.2.2 = rs_F su sr (fun i => cc (40 * j + i)) n x.1) ∧ va_P (dC, dI) clsL [zR r cn mn mi nn, ((r 18), .inl (cZ, 3, .inl (bF dw))), ((r 19), .inl (cI, 120, .inl (nF cc))), ((r 20), .inl (cI, 3, .inl (nF lg))), ((r 14), .inl (cI, 104, .inl (nF x.2.2))), ((r 15), .inl (cI, 104, .inl (oF sr)))] H ∧ va_D A [zR r cn mn mi nn, ((r 18), .inl (cZ, 3, .inl (bF dw))), ((r 19), .inl (cI, 120, .inl (nF cc))), ((r 20), .inl (cI, 3, .inl (nF lg))), ((r 14), .inl (cI, 104, .inl (nF x.2.2))), ((r 15), .inl (cI, 104, .inl (oF sr)))] ∧ va_S A s.heap H locs ∧ lv_has ls 4 [(3, .int (nI x.1)), (2, .int (nI x.2.1)), (1, .int (nI j)), (0, .ref (r 0))]) ?_ (0, 0, su) _ _ _ ⟨⟨Nat.zero_le _, rfl, rfl⟩, hP, hD, hS, lv_sub hl [0, 1, 3, 2] rfl⟩
  rintro ⟨k, z, g⟩ H locs ls ⟨hI, hP, hD, hS, hl⟩ ih14
  replace hI : k ≤ mn ∧ z = rs_C su sr (fun i => cc (40 * j + i)) n k ∧ g = rs_F su sr (fun i => cc (40 * j + i)) n k := hI
  replace hP : va_P (dC, dI) clsL [zR r cn mn mi nn, ((r 18), .inl (cZ, 3, .inl (bF dw))), ((r 19), .inl (cI, 120, .inl (nF cc))), ((r 20), .inl (cI, 3, .inl (nF lg))), ((r 14), .inl (cI, 104, .inl (nF g))), ((r 15), .inl (cI, 104, .inl (oF sr)))] H := hP
  replace hD : va_D A [zR r cn mn mi nn, ((r 18), .inl (cZ, 3, .inl (bF dw))), ((r 19), .inl (cI, 120, .inl (nF cc))), ((r 20), .inl (cI, 3, .inl (nF lg))), ((r 14), .inl (cI, 104, .inl (nF g))), ((r 15), .inl (cI, 104, .inl (oF sr)))] := hD
  replace hl : lv_has ls 4 [(3, .int (nI k)), (2, .int (nI z)), (1, .int (nI j)), (0, .ref (r 0))] := hl
  have hk1 := hI.1
  refine lv_iload_n hx hb dc_R_resend_14 rfl (lv_at hl 0 rfl) ?_
  refine lv_aload_n hx hb dc_R_resend_15 rfl (lv_at hl 3 rfl) ?_
  refine va_get (D := (dC, dI)) (ci := 4) (v := .int (nI mn)) (C := cn_R) (T := ft_R) (N := 27) hx hb htb ki_R hown hK hP 0 rfl rfl 10 (by decide) (htb _ kw_380) (fun _ h9 => h9) rfl dc_R_resend_16 ?_
  refine lv_icmp_ge (tgt := 62) hx hb dc_R_resend_19 (by decide) (fun hc => ?_) (fun hc => ?_)
  · have hk : mn ≤ k := (nI_leI (by omega) (by omega)).mp hc
    refine lv_iload_n hx hb dc_R_resend_62 rfl (lv_at hl 1 rfl) ?_
    obtain rfl : mn = k := by omega
    have hP8 := hP.sub (ws' := [zR r cn mn mi nn, ((r 18), .inl (cZ, 3, .inl (bF dw))), ((r 19), .inl (cI, 120, .inl (nF cc))), ((r 20), .inl (cI, 3, .inl (nF lg))), ((r 14), .inl (cI, 104, .inl (nF g))), ((r 15), .inl (cI, 104, .inl (oF sr)))]) [0, 1, 2, 3, 4, 5] rfl
    have hD8 := hD.sub (ws' := [zR r cn mn mi nn, ((r 18), .inl (cZ, 3, .inl (bF dw))), ((r 19), .inl (cI, 120, .inl (nF cc))), ((r 20), .inl (cI, 3, .inl (nF lg))), ((r 14), .inl (cI, 104, .inl (nF g))), ((r 15), .inl (cI, 104, .inl (oF sr)))]) [0, 1, 2, 3, 4, 5] (by decide) rfl
    have hW8 : ([zR r cn mn mi nn, ((r 18), .inl (cZ, 3, .inl (bF dw))), ((r 19), .inl (cI, 120, .inl (nF cc))), ((r 20), .inl (cI, 3, .inl (nF lg))), ((r 14), .inl (cI, 104, .inl (nF g))), ((r 15), .inl (cI, 104, .inl (oF sr)))] : va_W) = [zR r cn mn mi nn, ((r 18), .inl (cZ, 3, .inl (bF dw))), ((r 19), .inl (cI, 120, .inl (nF cc))), ((r 20), .inl (cI, 3, .inl (nF lg))), ((r 14), .inl (cI, 104, .inl (nF (rs_F su sr (fun i => cc (40 * j + i)) n mn)))), ((r 15), .inl (cI, 104, .inl (oF sr)))] := by rw [hI.2.2]
    rw [hW8] at hP8 hD8
    have hP9 := hP8
    have hD9 := hD8
    exact W.iret (v := nI z) hx hb hr (fun t ht hW => ⟨⟨_, (), rfl, by rw [hI.2.1], by rw [ht]; exact hP9, va_K.moved hW.alike hK, hD9⟩, hS.F ht⟩) hS.2.2 dc_R_resend_63
  · have hk : k < mn := Nat.lt_of_not_le (fun h9 => hc ((nI_leI (by omega) (by omega)).mpr h9))
    have hgk : g k = su k := by rw [hI.2.2]; exact rs_F_ge _ _ _ _ (Nat.le_refl _)
    have hub := hu k hk
    refine lv_aload_n hx hb dc_R_resend_22 rfl (lv_at hl 3 rfl) ?_
    refine va_get (D := (dC, dI)) (ci := 4) (v := .ref (r 14)) (C := cn_R) (T := ft_R) (N := 27) hx hb htb ki_R hown hK hP 0 rfl rfl 14 (by decide) (htb _ kw_384) (fun _ h9 => h9) rfl dc_R_resend_23 ?_
    refine lv_iload_n hx hb dc_R_resend_26 rfl (lv_at hl 0 rfl) ?_
    refine wa_nld (k := k) hx hb hK hP 4 0 rfl rfl (by omega) (by omega) dc_R_resend_27 ?_
    refine tp_i (y := nI (su k)) (by rw [hgk]) ?_
    refine lv_iconst (v := nI 2) hx hb dc_R_resend_28 (by decide) ?_
    refine lv_icmp_ne (tgt := 56) hx hb dc_R_resend_29 (by decide) (fun hc => ?_) (fun hc => ?_)
    · have h2 : ¬ (su k) = 2 := fun h9 => hc ((nI_eq (by omega) (by omega)).mpr h9)
      refine lv_iinc (k := 0) (v := nI (k + 1)) (lv' := [(3, .int (nI (k + 1))), (2, .int (nI z)), (1, .int (nI j)), (0, .ref (r 0))]) hx hb dc_R_resend_56 hl rfl (nI_inc1 _) (by decide) rfl (fun ls hl => ?_)
      refine lv_goto (tgt := 14) hx hb dc_R_resend_59 (by decide) ?_
      exact ih14 (k + 1, z, g) H locs ls (by first | omega | (dsimp only; omega)) ⟨⟨by first | omega | (dsimp only; omega), by rw [hI.2.1]; simp [rs_C, *], by rw [hI.2.2]; simp [rs_F, *]⟩, hP, hD, hS, lv_sub hl [0, 1, 2, 3] rfl⟩
    · have h2 : (su k) = 2 := (nI_eq (by omega) (by omega)).mp hc
      refine lv_aload_n hx hb dc_R_resend_32 rfl (lv_at hl 3 rfl) ?_
      refine lv_iload_n hx hb dc_R_resend_33 rfl (lv_at hl 2 rfl) ?_
      refine lv_aload_n hx hb dc_R_resend_34 rfl (lv_at hl 3 rfl) ?_
      refine va_get (D := (dC, dI)) (ci := 4) (v := .ref (r 15)) (C := cn_R) (T := ft_R) (N := 27) hx hb htb ki_R hown hK hP 0 rfl rfl 15 (by decide) (htb _ kw_385) (fun _ h9 => h9) rfl dc_R_resend_35 ?_
      refine lv_iload_n hx hb dc_R_resend_38 rfl (lv_at hl 0 rfl) ?_
      refine wa_old (k := k) hx hb hK hP 5 0 rfl rfl (by omega) (by omega) dc_R_resend_39 ?_
      refine cl_i (wc := [zR r cn mn mi nn, ((r 19), .inl (cI, 120, .inl (nF cc))), ((r 20), .inl (cI, 3, .inl (nF lg)))]) (wr := [((r 18), .inl (cZ, 3, .inl (bF dw))), ((r 14), .inl (cI, 104, .inl (nF g))), ((r 15), .inl (cI, 104, .inl (oF sr)))]) (w1 := [zR r cn mn mi nn, ((r 19), .inl (cI, 120, .inl (nF cc))), ((r 20), .inl (cI, 3, .inl (nF lg)))]) hP hD hS hA [0, 2, 3] [1, 4, 5] rfl rfl (by decide) (by decide) (va_runV (As := [.int (nI j), .int (oI (sr k))]) (rest := []) ⟨hx, hb, hml, hown, htb⟩ (oc_R_isOn l dC dI cI cJ cZ cP _ r cn mn mi nn cc lg j n (sr k) (by first | assumption | omega) (by first | assumption | omega) (by first | assumption | omega) (by first | assumption | omega) (hs k hk)) (cwV 2 htb (gw_V kw_506 kw_508 kp_22 kw_5 kw_509) rfl rfl rfl (by decide +kernel) ⟨Nat.le_of_ble_eq_true rfl, Nat.le_of_ble_eq_true rfl⟩) (pr_V hP hK hD (va_recv hK hP (ci := 4) (q0 := 0) rfl rfl) [0, 2, 3] (by decide) rfl rfl) rfl rfl hl.1 rfl (lv_room (Nat.le_of_ble_eq_true rfl)) dc_R_resend_40 ⟨Nat.le_of_ble_eq_true rfl, Nat.le_of_ble_eq_true rfl⟩) (fun H locs hP hD hS => ?_)
      have hP : va_P (dC, dI) clsL [zR r cn mn mi nn, ((r 18), .inl (cZ, 3, .inl (bF dw))), ((r 19), .inl (cI, 120, .inl (nF cc))), ((r 20), .inl (cI, 3, .inl (nF lg))), ((r 14), .inl (cI, 104, .inl (nF g))), ((r 15), .inl (cI, 104, .inl (oF sr)))] H := hP.sub (ws' := [zR r cn mn mi nn, ((r 18), .inl (cZ, 3, .inl (bF dw))), ((r 19), .inl (cI, 120, .inl (nF cc))), ((r 20), .inl (cI, 3, .inl (nF lg))), ((r 14), .inl (cI, 104, .inl (nF g))), ((r 15), .inl (cI, 104, .inl (oF sr)))]) [3, 0, 4, 5, 1, 2] rfl
      have hD : va_D A [zR r cn mn mi nn, ((r 18), .inl (cZ, 3, .inl (bF dw))), ((r 19), .inl (cI, 120, .inl (nF cc))), ((r 20), .inl (cI, 3, .inl (nF lg))), ((r 14), .inl (cI, 104, .inl (nF g))), ((r 15), .inl (cI, 104, .inl (oF sr)))] := hD.sub (ws' := [zR r cn mn mi nn, ((r 18), .inl (cZ, 3, .inl (bF dw))), ((r 19), .inl (cI, 120, .inl (nF cc))), ((r 20), .inl (cI, 3, .inl (nF lg))), ((r 14), .inl (cI, 104, .inl (nF g))), ((r 15), .inl (cI, 104, .inl (oF sr)))]) [3, 0, 4, 5, 1, 2] (by decide) rfl
      refine lv_if_eq (tgt := 56) hx hb dc_R_resend_43 (by decide) (fun hc => ?_) (fun hc => ?_)
      · have h3 : (on_F (fun i => cc (40 * j + i)) (sr k) n) = false := bI_0.mp hc
        refine lv_iinc (k := 0) (v := nI (k + 1)) (lv' := [(3, .int (nI (k + 1))), (2, .int (nI z)), (1, .int (nI j)), (0, .ref (r 0))]) hx hb dc_R_resend_56 hl rfl (nI_inc1 _) (by decide) rfl (fun ls hl => ?_)
        refine lv_goto (tgt := 14) hx hb dc_R_resend_59 (by decide) ?_
        exact ih14 (k + 1, z, g) H locs ls (by first | omega | (dsimp only; omega)) ⟨⟨by first | omega | (dsimp only; omega), by rw [hI.2.1]; simp [rs_C, *], by rw [hI.2.2]; simp [rs_F, *]⟩, hP, hD, hS, lv_sub hl [0, 1, 2, 3] rfl⟩
      · have h3 : (on_F (fun i => cc (40 * j + i)) (sr k) n) = true := bI_n0.mp hc
        refine lv_aload_n hx hb dc_R_resend_46 rfl (lv_at hl 3 rfl) ?_
        refine va_get (D := (dC, dI)) (ci := 4) (v := .ref (r 14)) (C := cn_R) (T := ft_R) (N := 27) hx hb htb ki_R hown hK hP 0 rfl rfl 14 (by decide) (htb _ kw_384) (fun _ h9 => h9) rfl dc_R_resend_47 ?_
        refine lv_iload_n hx hb dc_R_resend_50 rfl (lv_at hl 0 rfl) ?_
        refine lv_iconst (v := nI 0) hx hb dc_R_resend_51 (by decide) ?_
        refine wa_nst (k := k) (x := 0) hx hb hK hP hD hS 4 0 rfl rfl (by omega) (by omega) dc_R_resend_52 (fun H locs hP hD hS => ?_)
        have hP : va_P (dC, dI) clsL [zR r cn mn mi nn, ((r 18), .inl (cZ, 3, .inl (bF dw))), ((r 19), .inl (cI, 120, .inl (nF cc))), ((r 20), .inl (cI, 3, .inl (nF lg))), ((r 14), .inl (cI, 104, .inl (nF (va_up g k 0)))), ((r 15), .inl (cI, 104, .inl (oF sr)))] H := hP
        have hD : va_D A [zR r cn mn mi nn, ((r 18), .inl (cZ, 3, .inl (bF dw))), ((r 19), .inl (cI, 120, .inl (nF cc))), ((r 20), .inl (cI, 3, .inl (nF lg))), ((r 14), .inl (cI, 104, .inl (nF (va_up g k 0)))), ((r 15), .inl (cI, 104, .inl (oF sr)))] := hD
        refine lv_iinc (k := 1) (v := nI (z + 1)) (lv' := [(2, .int (nI (z + 1))), (3, .int (nI k)), (1, .int (nI j)), (0, .ref (r 0))]) hx hb dc_R_resend_53 hl rfl (nI_inc1 _) (by decide) rfl (fun ls hl => ?_)
        refine lv_iinc (k := 1) (v := nI (k + 1)) (lv' := [(3, .int (nI (k + 1))), (2, .int (nI (z + 1))), (1, .int (nI j)), (0, .ref (r 0))]) hx hb dc_R_resend_56 hl rfl (nI_inc1 _) (by decide) rfl (fun ls hl => ?_)
        refine lv_goto (tgt := 14) hx hb dc_R_resend_59 (by decide) ?_
        exact ih14 (k + 1, z + 1, va_up g k 0) H locs ls (by first | omega | (dsimp only; omega)) ⟨⟨by first | omega | (dsimp only; omega), by rw [hI.2.1]; simp [rs_C, *], by rw [hI.2.2]; simp [rs_F, *]⟩, hP, hD, hS, lv_sub hl [0, 1, 2, 3] rfl⟩

set_option maxHeartbeats 4000000 in
set_option maxRecDepth 100000 in
theorem oc_R_crash_no (l : Launch) (dC : Nat → ClassId) (dI : Nat → Nat → Nat) (cI cJ cZ cP : ClassId) (sz : Nat) (r : Nat → Nat) (cn : Nat) (mn : Nat) (mi : Nat) (nn : Nat) (y : Int32) (hy : y < 0 ∨ nI 3 ≤ y) : mt_I l mn_R_crash bc_R_crash 5 (some .int) ({ frames := 2, cells := 0, slots := 0, locals := 42 }) (dC, dI) (TYS cI cJ cZ cP) sz [.ref (r 0), .int y] [zR r cn mn mi nn] [zR r cn mn mi nn] ((-1)) 0 0 := by
  unfold mt_I
  refine Met.ofW (cc := bc_R_crash) (maxL := 5) (ret := (some .int)) (by decide) rfl ?_
  intro p e s m args below meth c s₁ B hml hv
  obtain ⟨rfl, hsz, hP, hK, hD0⟩ := hv
  have hx := B.exec
  have hb := B.bytes
  have hr := B.returns
  have hts := atoms_spec (ws := wsT mn_R_crash bc_R_crash 5 (some .int)) B.pre
  have htb : ∀ w ∈ gtbl, w.before _ s = true := fun w h => hts w (List.mem_cons_of_mem _ h)
  have hown : s.vm.findClass cn_R = some m.cls := findClass_of_methodNamed B.named
  have hlocks := B.notSynchronized
  subst hsz
  have hD := hD0.self (sz := s.heap.size)
  generalize hAe : va_A [zR r cn mn mi nn] s.heap.size = A at hD ⊢
  have hA : ∀ q : Nat, s.heap.size ≤ q → A q := fun q h => by rw [← hAe]; exact Or.inr h
  have hS : va_S A s.heap s.heap [] := va_S.rf
  have hP : va_P (dC, dI) clsL [zR r cn mn mi nn] s.heap := hP
  have hl := lv_entry ([.ref (r 0), .int y]) (n := 5) (Nat.le_of_ble_eq_true rfl)
  rw [lg_entry_eq]
  generalize (lg_sl ([.ref (r 0), .int y]) ++ List.replicate (5 - (lg_sl ([.ref (r 0), .int y])).length) Slot.unset).toArray = ls at hl ⊢
  have hl : lv_has ls 5 [(0, .ref (r 0)), (1, .int y)] := hl
  refine lv_aload_n hx hb dc_R_crash_0 rfl (lv_at hl 0 rfl) ?_
  refine lv_iload_n hx hb dc_R_crash_1 rfl (lv_at hl 1 rfl) ?_
  refine cl_i (wc := [zR r cn mn mi nn]) (wr := []) (w1 := [zR r cn mn mi nn]) hP hD hS hA [0] [] rfl rfl (by decide) (by decide) (va_runV (As := [.int y]) (rest := []) ⟨hx, hb, hml, hown, htb⟩ (oc_R_isUp_no l dC dI cI cJ cZ cP _ r cn mn mi nn y (by first | assumption | omega)) (cwV 1 htb (gw_V kw_502 kw_504 kp_21 kw_5 kw_505) rfl rfl rfl (by decide +kernel) ⟨Nat.le_of_ble_eq_true rfl, Nat.le_of_ble_eq_true rfl⟩) (pr_V hP hK hD (va_recv hK hP (ci := 4) (q0 := 0) rfl rfl) [0] (by decide) rfl rfl) rfl rfl hl.1 rfl (lv_room (Nat.le_of_ble_eq_true rfl)) dc_R_crash_2 ⟨Nat.le_of_ble_eq_true rfl, Nat.le_of_ble_eq_true rfl⟩) (fun H locs hP hD hS => ?_)
  have hP : va_P (dC, dI) clsL [zR r cn mn mi nn] H := hP.sub (ws' := [zR r cn mn mi nn]) [0] rfl
  have hD : va_D A [zR r cn mn mi nn] := hD.sub (ws' := [zR r cn mn mi nn]) [0] (by decide) rfl
  refine lv_if_ne (tgt := 10) hx hb dc_R_crash_5 (by decide) (fun hc => ?_) (fun hc => ?_)
  · have h1 : false = true := bI_n0.mp hc
    exact absurd h1 (by decide)
  have h1 : false = false := bI_0.mp hc
  refine lv_iconst (v := (-1)) hx hb dc_R_crash_8 (by decide) ?_
  have hP9 := hP.sub (ws' := [zR r cn mn mi nn]) [0] rfl
  have hD9 := hD.sub (ws' := [zR r cn mn mi nn]) [0] (by decide) rfl
  exact W.iret (v := (-1)) hx hb hr (fun t ht hW => ⟨⟨_, (), rfl, rfl, by rw [ht]; exact hP9, va_K.moved hW.alike hK, hD9⟩, hS.F ht⟩) hS.2.2 dc_R_crash_9

set_option maxHeartbeats 4000000 in
set_option maxRecDepth 100000 in
theorem oc_R_crash_dn (l : Launch) (dC : Nat → ClassId) (dI : Nat → Nat → Nat) (cI cJ cZ cP : ClassId) (sz : Nat) (r : Nat → Nat) (cn : Nat) (mn : Nat) (mi : Nat) (nn : Nat) (dw : Nat → Bool) (j : Nat) (hj : j < 3) (hdw : dw j = true) : mt_I l mn_R_crash bc_R_crash 5 (some .int) ({ frames := 2, cells := 0, slots := 0, locals := 42 }) (dC, dI) (TYS cI cJ cZ cP) sz [.ref (r 0), .int (nI j)] [zR r cn mn mi nn, ((r 18), .inl (cZ, 3, .inl (bF dw)))] [zR r cn mn mi nn, ((r 18), .inl (cZ, 3, .inl (bF dw)))] ((-1)) 0 0 := by
  unfold mt_I
  refine Met.ofW (cc := bc_R_crash) (maxL := 5) (ret := (some .int)) (by decide) rfl ?_
  intro p e s m args below meth c s₁ B hml hv
  obtain ⟨rfl, hsz, hP, hK, hD0⟩ := hv
  have hx := B.exec
  have hb := B.bytes
  have hr := B.returns
  have hts := atoms_spec (ws := wsT mn_R_crash bc_R_crash 5 (some .int)) B.pre
  have htb : ∀ w ∈ gtbl, w.before _ s = true := fun w h => hts w (List.mem_cons_of_mem _ h)
  have hown : s.vm.findClass cn_R = some m.cls := findClass_of_methodNamed B.named
  have hlocks := B.notSynchronized
  subst hsz
  have hD := hD0.self (sz := s.heap.size)
  generalize hAe : va_A [zR r cn mn mi nn, ((r 18), .inl (cZ, 3, .inl (bF dw)))] s.heap.size = A at hD ⊢
  have hA : ∀ q : Nat, s.heap.size ≤ q → A q := fun q h => by rw [← hAe]; exact Or.inr h
  have hS : va_S A s.heap s.heap [] := va_S.rf
  have hP : va_P (dC, dI) clsL [zR r cn mn mi nn, ((r 18), .inl (cZ, 3, .inl (bF dw)))] s.heap := hP
  have hl := lv_entry ([.ref (r 0), .int (nI j)]) (n := 5) (Nat.le_of_ble_eq_true rfl)
  rw [lg_entry_eq]
  generalize (lg_sl ([.ref (r 0), .int (nI j)]) ++ List.replicate (5 - (lg_sl ([.ref (r 0), .int (nI j)])).length) Slot.unset).toArray = ls at hl ⊢
  have hl : lv_has ls 5 [(0, .ref (r 0)), (1, .int (nI j))] := hl
  refine lv_aload_n hx hb dc_R_crash_0 rfl (lv_at hl 0 rfl) ?_
  refine lv_iload_n hx hb dc_R_crash_1 rfl (lv_at hl 1 rfl) ?_
  refine cl_i (wc := [zR r cn mn mi nn, ((r 18), .inl (cZ, 3, .inl (bF dw)))]) (wr := []) (w1 := [zR r cn mn mi nn, ((r 18), .inl (cZ, 3, .inl (bF dw)))]) hP hD hS hA [0, 1] [] rfl rfl (by decide) (by decide) (va_runV (As := [.int (nI j)]) (rest := []) ⟨hx, hb, hml, hown, htb⟩ (oc_R_isUp l dC dI cI cJ cZ cP _ r cn mn mi nn dw j (by first | assumption | omega)) (cwV 1 htb (gw_V kw_502 kw_504 kp_21 kw_5 kw_505) rfl rfl rfl (by decide +kernel) ⟨Nat.le_of_ble_eq_true rfl, Nat.le_of_ble_eq_true rfl⟩) (pr_V hP hK hD (va_recv hK hP (ci := 4) (q0 := 0) rfl rfl) [0, 1] (by decide) rfl rfl) rfl rfl hl.1 rfl (lv_room (Nat.le_of_ble_eq_true rfl)) dc_R_crash_2 ⟨Nat.le_of_ble_eq_true rfl, Nat.le_of_ble_eq_true rfl⟩) (fun H locs hP hD hS => ?_)
  have hP : va_P (dC, dI) clsL [zR r cn mn mi nn, ((r 18), .inl (cZ, 3, .inl (bF dw)))] H := hP.sub (ws' := [zR r cn mn mi nn, ((r 18), .inl (cZ, 3, .inl (bF dw)))]) [0, 1] rfl
  have hD : va_D A [zR r cn mn mi nn, ((r 18), .inl (cZ, 3, .inl (bF dw)))] := hD.sub (ws' := [zR r cn mn mi nn, ((r 18), .inl (cZ, 3, .inl (bF dw)))]) [0, 1] (by decide) rfl
  refine lv_if_ne (tgt := 10) hx hb dc_R_crash_5 (by decide) (fun hc => ?_) (fun hc => ?_)
  · have h1 : (!(dw j)) = true := bI_n0.mp hc
    exact absurd h1 (by rw [hdw]; decide)
  have h1 : (!(dw j)) = false := bI_0.mp hc
  refine lv_iconst (v := (-1)) hx hb dc_R_crash_8 (by decide) ?_
  have hP9 := hP.sub (ws' := [zR r cn mn mi nn, ((r 18), .inl (cZ, 3, .inl (bF dw)))]) [0, 1] rfl
  have hD9 := hD.sub (ws' := [zR r cn mn mi nn, ((r 18), .inl (cZ, 3, .inl (bF dw)))]) [0, 1] (by decide) rfl
  exact W.iret (v := (-1)) hx hb hr (fun t ht hW => ⟨⟨_, (), rfl, rfl, by rw [ht]; exact hP9, va_K.moved hW.alike hK, hD9⟩, hS.F ht⟩) hS.2.2 dc_R_crash_9

set_option maxHeartbeats 4000000 in
set_option maxRecDepth 100000 in
theorem oc_R_crash (l : Launch) (dC : Nat → ClassId) (dI : Nat → Nat → Nat) (cI cJ cZ cP : ClassId) (sz : Nat) (r : Nat → Nat) (cn : Nat) (mn : Nat) (mi : Nat) (nn : Nat) (dw : Nat → Bool) (cc : Nat → Nat) (lg : Nat → Nat) (sb : Nat → Bool) (lo : Nat → Bool) (fr : Nat → Nat) (su : Nat → Nat) (rc : Nat → Nat) (j : Nat) (n : Nat) (kp : Nat) (cc2 : Nat → Nat) (lo2 : Nat → Bool) (fr2 : Nat → Nat) (su2 : Nat → Nat) (hj : j < 3) (hdw : dw j = false) (hlg : lg j = n) (hn : n ≤ 40) (hcc : ∀ i, i < n → cc (40 * j + i) < 40) (hrc : ∀ i, i < n → rc (cc (40 * j + i)) < 104) (hq : (cr_S sb rc j (cc, lo, fr, su) n) = (kp, cc2, lo2, fr2, su2)) : mt_I l mn_R_crash bc_R_crash 5 (some .int) ({ frames := 2, cells := 0, slots := 0, locals := 42 }) (dC, dI) (TYS cI cJ cZ cP) sz [.ref (r 0), .int (nI j)] [zR r cn mn mi nn, ((r 18), .inl (cZ, 3, .inl (bF dw))), ((r 19), .inl (cI, 120, .inl (nF cc))), ((r 20), .inl (cI, 3, .inl (nF lg))), ((r 4), .inl (cZ, 40, .inl (bF sb))), ((r 5), .inl (cZ, 40, .inl (bF lo))), ((r 6), .inl (cI, 40, .inl (nF fr))), ((r 14), .inl (cI, 104, .inl (nF su))), ((r 2), .inl (cI, 40, .inl (nF rc)))] [zR r cn mn mi nn, ((r 18), .inl (cZ, 3, .inl (bF (va_up dw j true)))), ((r 19), .inl (cI, 120, .inl (nF cc2))), ((r 20), .inl (cI, 3, .inl (nF (va_up lg j kp)))), ((r 4), .inl (cZ, 40, .inl (bF sb))), ((r 5), .inl (cZ, 40, .inl (bF lo2))), ((r 6), .inl (cI, 40, .inl (nF fr2))), ((r 14), .inl (cI, 104, .inl (nF su2))), ((r 2), .inl (cI, 40, .inl (nF rc)))] (nI (n - kp)) 0 0 := by
  unfold mt_I
  refine Met.ofW (cc := bc_R_crash) (maxL := 5) (ret := (some .int)) (by decide) rfl ?_
  intro p e s m args below meth c s₁ B hml hv
  obtain ⟨rfl, hsz, hP, hK, hD0⟩ := hv
  have hx := B.exec
  have hb := B.bytes
  have hr := B.returns
  have hts := atoms_spec (ws := wsT mn_R_crash bc_R_crash 5 (some .int)) B.pre
  have htb : ∀ w ∈ gtbl, w.before _ s = true := fun w h => hts w (List.mem_cons_of_mem _ h)
  have hown : s.vm.findClass cn_R = some m.cls := findClass_of_methodNamed B.named
  have hlocks := B.notSynchronized
  subst hsz
  have hD := hD0.self (sz := s.heap.size)
  generalize hAe : va_A [zR r cn mn mi nn, ((r 18), .inl (cZ, 3, .inl (bF dw))), ((r 19), .inl (cI, 120, .inl (nF cc))), ((r 20), .inl (cI, 3, .inl (nF lg))), ((r 4), .inl (cZ, 40, .inl (bF sb))), ((r 5), .inl (cZ, 40, .inl (bF lo))), ((r 6), .inl (cI, 40, .inl (nF fr))), ((r 14), .inl (cI, 104, .inl (nF su))), ((r 2), .inl (cI, 40, .inl (nF rc)))] s.heap.size = A at hD ⊢
  have hA : ∀ q : Nat, s.heap.size ≤ q → A q := fun q h => by rw [← hAe]; exact Or.inr h
  have hS : va_S A s.heap s.heap [] := va_S.rf
  have hP : va_P (dC, dI) clsL [zR r cn mn mi nn, ((r 18), .inl (cZ, 3, .inl (bF dw))), ((r 19), .inl (cI, 120, .inl (nF cc))), ((r 20), .inl (cI, 3, .inl (nF lg))), ((r 4), .inl (cZ, 40, .inl (bF sb))), ((r 5), .inl (cZ, 40, .inl (bF lo))), ((r 6), .inl (cI, 40, .inl (nF fr))), ((r 14), .inl (cI, 104, .inl (nF su))), ((r 2), .inl (cI, 40, .inl (nF rc)))] s.heap := hP
  have hl := lv_entry ([.ref (r 0), .int (nI j)]) (n := 5) (Nat.le_of_ble_eq_true rfl)
  rw [lg_entry_eq]
  generalize (lg_sl ([.ref (r 0), .int (nI j)]) ++ List.replicate (5 - (lg_sl ([.ref (r 0), .int (nI j)])).length) Slot.unset).toArray = ls at hl ⊢
  have hl : lv_has ls 5 [(0, .ref (r 0)), (1, .int (nI j))] := hl
  refine lv_aload_n hx hb dc_R_crash_0 rfl (lv_at hl 0 rfl) ?_
  refine lv_iload_n hx hb dc_R_crash_1 rfl (lv_at hl 1 rfl) ?_
  refine cl_i (wc := [zR r cn mn mi nn, ((r 18), .inl (cZ, 3, .inl (bF dw)))]) (wr := [((r 19), .inl (cI, 120, .inl (nF cc))), ((r 20), .inl (cI, 3, .inl (nF lg))), ((r 4), .inl (cZ, 40, .inl (bF sb))), ((r 5), .inl (cZ, 40, .inl (bF lo))), ((r 6), .inl (cI, 40, .inl (nF fr))), ((r 14), .inl (cI, 104, .inl (nF su))), ((r 2), .inl (cI, 40, .inl (nF rc)))]) (w1 := [zR r cn mn mi nn, ((r 18), .inl (cZ, 3, .inl (bF dw)))]) hP hD hS hA [0, 1] [2, 3, 4, 5, 6, 7, 8] rfl rfl (by decide) (by decide) (va_runV (As := [.int (nI j)]) (rest := []) ⟨hx, hb, hml, hown, htb⟩ (oc_R_isUp l dC dI cI cJ cZ cP _ r cn mn mi nn dw j (by first | assumption | omega)) (cwV 1 htb (gw_V kw_502 kw_504 kp_21 kw_5 kw_505) rfl rfl rfl (by decide +kernel) ⟨Nat.le_of_ble_eq_true rfl, Nat.le_of_ble_eq_true rfl⟩) (pr_V hP hK hD (va_recv hK hP (ci := 4) (q0 := 0) rfl rfl) [0, 1] (by decide) rfl rfl) rfl rfl hl.1 rfl (lv_room (Nat.le_of_ble_eq_true rfl)) dc_R_crash_2 ⟨Nat.le_of_ble_eq_true rfl, Nat.le_of_ble_eq_true rfl⟩) (fun H locs hP hD hS => ?_)
  have hP : va_P (dC, dI) clsL [zR r cn mn mi nn, ((r 18), .inl (cZ, 3, .inl (bF dw))), ((r 19), .inl (cI, 120, .inl (nF cc))), ((r 20), .inl (cI, 3, .inl (nF lg))), ((r 4), .inl (cZ, 40, .inl (bF sb))), ((r 5), .inl (cZ, 40, .inl (bF lo))), ((r 6), .inl (cI, 40, .inl (nF fr))), ((r 14), .inl (cI, 104, .inl (nF su))), ((r 2), .inl (cI, 40, .inl (nF rc)))] H := hP.sub (ws' := [zR r cn mn mi nn, ((r 18), .inl (cZ, 3, .inl (bF dw))), ((r 19), .inl (cI, 120, .inl (nF cc))), ((r 20), .inl (cI, 3, .inl (nF lg))), ((r 4), .inl (cZ, 40, .inl (bF sb))), ((r 5), .inl (cZ, 40, .inl (bF lo))), ((r 6), .inl (cI, 40, .inl (nF fr))), ((r 14), .inl (cI, 104, .inl (nF su))), ((r 2), .inl (cI, 40, .inl (nF rc)))]) [7, 8, 0, 1, 2, 3, 4, 5, 6] rfl
  have hD : va_D A [zR r cn mn mi nn, ((r 18), .inl (cZ, 3, .inl (bF dw))), ((r 19), .inl (cI, 120, .inl (nF cc))), ((r 20), .inl (cI, 3, .inl (nF lg))), ((r 4), .inl (cZ, 40, .inl (bF sb))), ((r 5), .inl (cZ, 40, .inl (bF lo))), ((r 6), .inl (cI, 40, .inl (nF fr))), ((r 14), .inl (cI, 104, .inl (nF su))), ((r 2), .inl (cI, 40, .inl (nF rc)))] := hD.sub (ws' := [zR r cn mn mi nn, ((r 18), .inl (cZ, 3, .inl (bF dw))), ((r 19), .inl (cI, 120, .inl (nF cc))), ((r 20), .inl (cI, 3, .inl (nF lg))), ((r 4), .inl (cZ, 40, .inl (bF sb))), ((r 5), .inl (cZ, 40, .inl (bF lo))), ((r 6), .inl (cI, 40, .inl (nF fr))), ((r 14), .inl (cI, 104, .inl (nF su))), ((r 2), .inl (cI, 40, .inl (nF rc)))]) [7, 8, 0, 1, 2, 3, 4, 5, 6] (by decide) rfl
  refine lv_if_ne (tgt := 10) hx hb dc_R_crash_5 (by decide) (fun hc => ?_) (fun hc => ?_)
  rotate_left
  · have h1 : (!(dw j)) = false := bI_0.mp hc
    exact absurd h1 (by rw [hdw]; decide)
  have h1 : (!(dw j)) = true := bI_n0.mp hc
  refine lv_aload_n hx hb dc_R_crash_10 rfl (lv_at hl 0 rfl) ?_
  refine va_get (D := (dC, dI)) (ci := 4) (v := .ref (r 18)) (C := cn_R) (T := ft_R) (N := 27) hx hb htb ki_R hown hK hP 0 rfl rfl 18 (by decide) (htb _ kw_388) (fun _ h9 => h9) rfl dc_R_crash_11 ?_
  refine lv_iload_n hx hb dc_R_crash_14 rfl (lv_at hl 1 rfl) ?_
  refine lv_iconst (v := nI 1) hx hb dc_R_crash_15 (by decide) ?_
  refine tp_i (y := bI true) (rfl) ?_
  refine wa_bst (k := j) (x := true) hx hb hK hP hD hS 1 2 rfl rfl (by omega) (by omega) dc_R_crash_16 (fun H locs hP hD hS => ?_)
  have hP : va_P (dC, dI) clsL [zR r cn mn mi nn, ((r 18), .inl (cZ, 3, .inl (bF (va_up dw j true)))), ((r 19), .inl (cI, 120, .inl (nF cc))), ((r 20), .inl (cI, 3, .inl (nF lg))), ((r 4), .inl (cZ, 40, .inl (bF sb))), ((r 5), .inl (cZ, 40, .inl (bF lo))), ((r 6), .inl (cI, 40, .inl (nF fr))), ((r 14), .inl (cI, 104, .inl (nF su))), ((r 2), .inl (cI, 40, .inl (nF rc)))] H := hP
  have hD : va_D A [zR r cn mn mi nn, ((r 18), .inl (cZ, 3, .inl (bF (va_up dw j true)))), ((r 19), .inl (cI, 120, .inl (nF cc))), ((r 20), .inl (cI, 3, .inl (nF lg))), ((r 4), .inl (cZ, 40, .inl (bF sb))), ((r 5), .inl (cZ, 40, .inl (bF lo))), ((r 6), .inl (cI, 40, .inl (nF fr))), ((r 14), .inl (cI, 104, .inl (nF su))), ((r 2), .inl (cI, 40, .inl (nF rc)))] := hD
  refine lv_iconst (v := nI 0) hx hb dc_R_crash_17 (by decide) ?_
  refine lv_istore_n (lv' := [(2, .int (nI 0)), (0, .ref (r 0)), (1, .int (nI j))]) hx hb dc_R_crash_18 rfl hl (by decide) rfl (fun ls hl => ?_)
  refine lv_iconst (v := nI 0) hx hb dc_R_crash_19 (by decide) ?_
  refine lv_istore_n (lv' := [(3, .int (nI 0)), (2, .int (nI 0)), (0, .ref (r 0)), (1, .int (nI j))]) hx hb dc_R_crash_20 rfl hl (by decide) rfl (fun ls hl => ?_)
  refine wl_ 21 (fun (x : Nat × Nat × (Nat → Nat) × (Nat → Bool) × (Nat → Nat) × (Nat → Nat)) => n - x.1) (fun (x : Nat × Nat × (Nat → Nat) × (Nat → Bool) × (Nat → Nat) × (Nat → Nat)) (H : Heap) (locs : List Loc) (ls : Array Slot) => (x.1 ≤ n ∧ x.2.1 ≤ x.1 ∧ (x.2.1, x.2.2.1, x.2.2.2.1, x.2.2.2.2.1, x.2.2.2.2.2) = (cr_S sb rc j (cc, lo, fr, su) x.1) ∧ ∀ i, x.1 ≤ i → x.2.2.1 (40 * j + i) = cc (40 * j + i)) ∧ va_P (dC, dI) clsL [zR r cn mn mi nn, ((r 18), .inl (cZ, 3, .inl (bF (va_up dw j true)))), ((r 19), .inl (cI, 120, .inl (nF x.2.2.1))), ((r 20), .inl (cI, 3, .inl (nF lg))), ((r 4), .inl (cZ, 40, .inl (bF sb))), ((r 5), .inl (cZ, 40, .inl (bF x.2.2.2.1))), ((r 6), .inl (cI, 40, .inl (nF x.2.2.2.2.1))), ((r 14), .inl (cI, 104, .inl (nF x.2.2.2.2.2))), ((r 2), .inl (cI, 40, .inl (nF rc)))] H ∧ va_D A [zR r cn mn mi nn, ((r 18), .inl (cZ, 3, .inl (bF (va_up dw j true)))), ((r 19), .inl (cI, 120, .inl (nF x.2.2.1))), ((r 20), .inl (cI, 3, .inl (nF lg))), ((r 4), .inl (cZ, 40, .inl (bF sb))), ((r 5), .inl (cZ, 40, .inl (bF x.2.2.2.1))), ((r 6), .inl (cI, 40, .inl (nF x.2.2.2.2.1))), ((r 14), .inl (cI, 104, .inl (nF x.2.2.2.2.2))), ((r 2), .inl (cI, 40, .inl (nF rc)))] ∧ va_S A s.heap H locs ∧ lv_has ls 5 [(3, .int (nI x.1)), (2, .int (nI x.2.1)), (1, .int (nI j)), (0, .ref (r 0))]) ?_ (0, 0, cc, lo, fr, su) _ _ _ ⟨⟨Nat.zero_le _, Nat.le_refl _, rfl, fun _ _ => rfl⟩, hP, hD, hS, lv_sub hl [0, 1, 3, 2] rfl⟩
  rintro ⟨k, q, c3, l3, f3, u3⟩ H locs ls ⟨hI, hP, hD, hS, hl⟩ ih21
  replace hI : k ≤ n ∧ q ≤ k ∧ (q, c3, l3, f3, u3) = (cr_S sb rc j (cc, lo, fr, su) k) ∧ ∀ i, k ≤ i → c3 (40 * j + i) = cc (40 * j + i) := hI
  replace hP : va_P (dC, dI) clsL [zR r cn mn mi nn, ((r 18), .inl (cZ, 3, .inl (bF (va_up dw j true)))), ((r 19), .inl (cI, 120, .inl (nF c3))), ((r 20), .inl (cI, 3, .inl (nF lg))), ((r 4), .inl (cZ, 40, .inl (bF sb))), ((r 5), .inl (cZ, 40, .inl (bF l3))), ((r 6), .inl (cI, 40, .inl (nF f3))), ((r 14), .inl (cI, 104, .inl (nF u3))), ((r 2), .inl (cI, 40, .inl (nF rc)))] H := hP
  replace hD : va_D A [zR r cn mn mi nn, ((r 18), .inl (cZ, 3, .inl (bF (va_up dw j true)))), ((r 19), .inl (cI, 120, .inl (nF c3))), ((r 20), .inl (cI, 3, .inl (nF lg))), ((r 4), .inl (cZ, 40, .inl (bF sb))), ((r 5), .inl (cZ, 40, .inl (bF l3))), ((r 6), .inl (cI, 40, .inl (nF f3))), ((r 14), .inl (cI, 104, .inl (nF u3))), ((r 2), .inl (cI, 40, .inl (nF rc)))] := hD
  replace hl : lv_has ls 5 [(3, .int (nI k)), (2, .int (nI q)), (1, .int (nI j)), (0, .ref (r 0))] := hl
  have hk1 := hI.1
  have hk2 := hI.2.1
  refine lv_iload_n hx hb dc_R_crash_21 rfl (lv_at hl 0 rfl) ?_
  refine lv_aload_n hx hb dc_R_crash_22 rfl (lv_at hl 3 rfl) ?_
  refine va_get (D := (dC, dI)) (ci := 4) (v := .ref (r 20)) (C := cn_R) (T := ft_R) (N := 27) hx hb htb ki_R hown hK hP 0 rfl rfl 20 (by decide) (htb _ kw_390) (fun _ h9 => h9) rfl dc_R_crash_23 ?_
  refine lv_iload_n hx hb dc_R_crash_26 rfl (lv_at hl 2 rfl) ?_
  refine wa_nld (k := j) hx hb hK hP 3 0 rfl rfl (by omega) (by omega) dc_R_crash_27 ?_
  refine tp_i (y := nI n) (by rw [hlg]) ?_
  refine lv_icmp_ge (tgt := 108) hx hb dc_R_crash_28 (by decide) (fun hc => ?_) (fun hc => ?_)
  · have hk : n ≤ k := (nI_leI (by omega) (by omega)).mp hc
    obtain rfl : n = k := by omega
    have hq9 := hI.2.2.1.trans hq
    obtain ⟨rfl, rfl, rfl, rfl, rfl⟩ : kp = q ∧ cc2 = c3 ∧ lo2 = l3 ∧ fr2 = f3 ∧ su2 = u3 := by simp only [Prod.mk.injEq] at hq9; obtain ⟨a1, a2, a3, a4, a5⟩ := hq9; exact ⟨a1.symm, a2.symm, a3.symm, a4.symm, a5.symm⟩
    refine lv_aload_n hx hb dc_R_crash_108 rfl (lv_at hl 3 rfl) ?_
    refine va_get (D := (dC, dI)) (ci := 4) (v := .ref (r 20)) (C := cn_R) (T := ft_R) (N := 27) hx hb htb ki_R hown hK hP 0 rfl rfl 20 (by decide) (htb _ kw_390) (fun _ h9 => h9) rfl dc_R_crash_109 ?_
    refine lv_iload_n hx hb dc_R_crash_112 rfl (lv_at hl 2 rfl) ?_
    refine wa_nld (k := j) hx hb hK hP 3 0 rfl rfl (by omega) (by omega) dc_R_crash_113 ?_
    refine tp_i (y := nI n) (by rw [hlg]) ?_
    refine lv_iload_n hx hb dc_R_crash_114 rfl (lv_at hl 1 rfl) ?_
    refine lv_isub hx hb dc_R_crash_115 ?_
    refine tp_i (y := nI (n - kp)) (pk_sub (by omega)) ?_
    refine lv_istore_n (lv' := [(3, .int (nI (n - kp))), (2, .int (nI kp)), (1, .int (nI j)), (0, .ref (r 0))]) hx hb dc_R_crash_116 rfl hl (by decide) rfl (fun ls hl => ?_)
    refine lv_aload_n hx hb dc_R_crash_117 rfl (lv_at hl 3 rfl) ?_
    refine va_get (D := (dC, dI)) (ci := 4) (v := .ref (r 20)) (C := cn_R) (T := ft_R) (N := 27) hx hb htb ki_R hown hK hP 0 rfl rfl 20 (by decide) (htb _ kw_390) (fun _ h9 => h9) rfl dc_R_crash_118 ?_
    refine lv_iload_n hx hb dc_R_crash_121 rfl (lv_at hl 2 rfl) ?_
    refine lv_iload_n hx hb dc_R_crash_122 rfl (lv_at hl 1 rfl) ?_
    refine wa_nst (k := j) (x := kp) hx hb hK hP hD hS 3 0 rfl rfl (by omega) (by omega) dc_R_crash_123 (fun H locs hP hD hS => ?_)
    have hP : va_P (dC, dI) clsL [zR r cn mn mi nn, ((r 18), .inl (cZ, 3, .inl (bF (va_up dw j true)))), ((r 19), .inl (cI, 120, .inl (nF cc2))), ((r 20), .inl (cI, 3, .inl (nF (va_up lg j kp)))), ((r 4), .inl (cZ, 40, .inl (bF sb))), ((r 5), .inl (cZ, 40, .inl (bF lo2))), ((r 6), .inl (cI, 40, .inl (nF fr2))), ((r 14), .inl (cI, 104, .inl (nF su2))), ((r 2), .inl (cI, 40, .inl (nF rc)))] H := hP
    have hD : va_D A [zR r cn mn mi nn, ((r 18), .inl (cZ, 3, .inl (bF (va_up dw j true)))), ((r 19), .inl (cI, 120, .inl (nF cc2))), ((r 20), .inl (cI, 3, .inl (nF (va_up lg j kp)))), ((r 4), .inl (cZ, 40, .inl (bF sb))), ((r 5), .inl (cZ, 40, .inl (bF lo2))), ((r 6), .inl (cI, 40, .inl (nF fr2))), ((r 14), .inl (cI, 104, .inl (nF su2))), ((r 2), .inl (cI, 40, .inl (nF rc)))] := hD
    refine lv_iload_n hx hb dc_R_crash_124 rfl (lv_at hl 0 rfl) ?_
    have hP9 := hP.sub (ws' := [zR r cn mn mi nn, ((r 18), .inl (cZ, 3, .inl (bF (va_up dw j true)))), ((r 19), .inl (cI, 120, .inl (nF cc2))), ((r 20), .inl (cI, 3, .inl (nF (va_up lg j kp)))), ((r 4), .inl (cZ, 40, .inl (bF sb))), ((r 5), .inl (cZ, 40, .inl (bF lo2))), ((r 6), .inl (cI, 40, .inl (nF fr2))), ((r 14), .inl (cI, 104, .inl (nF su2))), ((r 2), .inl (cI, 40, .inl (nF rc)))]) [0, 1, 2, 3, 4, 5, 6, 7, 8] rfl
    have hD9 := hD.sub (ws' := [zR r cn mn mi nn, ((r 18), .inl (cZ, 3, .inl (bF (va_up dw j true)))), ((r 19), .inl (cI, 120, .inl (nF cc2))), ((r 20), .inl (cI, 3, .inl (nF (va_up lg j kp)))), ((r 4), .inl (cZ, 40, .inl (bF sb))), ((r 5), .inl (cZ, 40, .inl (bF lo2))), ((r 6), .inl (cI, 40, .inl (nF fr2))), ((r 14), .inl (cI, 104, .inl (nF su2))), ((r 2), .inl (cI, 40, .inl (nF rc)))]) [0, 1, 2, 3, 4, 5, 6, 7, 8] (by decide) rfl
    exact W.iret (v := nI (n - kp)) hx hb hr (fun t ht hW => ⟨⟨_, (), rfl, rfl, by rw [ht]; exact hP9, va_K.moved hW.alike hK, hD9⟩, hS.F ht⟩) hS.2.2 dc_R_crash_125
  · have hk : k < n := Nat.lt_of_not_le (fun h9 => hc ((nI_leI (by omega) (by omega)).mpr h9))
    have hck := hI.2.2.2 k (Nat.le_refl _)
    have hc9 := hcc k hk
    have hr9 := hrc k hk
    refine lv_aload_n hx hb dc_R_crash_31 rfl (lv_at hl 3 rfl) ?_
    refine va_get (D := (dC, dI)) (ci := 4) (v := .ref (r 19)) (C := cn_R) (T := ft_R) (N := 27) hx hb htb ki_R hown hK hP 0 rfl rfl 19 (by decide) (htb _ kw_389) (fun _ h9 => h9) rfl dc_R_crash_32 ?_
    refine lv_bipush (v := nI 40) hx hb dc_R_crash_35 (by decide) ?_
    refine lv_iload_n hx hb dc_R_crash_37 rfl (lv_at hl 2 rfl) ?_
    refine lv_imul hx hb dc_R_crash_38 ?_
    refine tp_i (y := nI (40 * j)) (pk_mul _ _) ?_
    refine lv_iload_n hx hb dc_R_crash_39 rfl (lv_at hl 0 rfl) ?_
    refine lv_iadd hx hb dc_R_crash_40 ?_
    refine tp_i (y := nI (40 * j + k)) (nI_add _ _) ?_
    refine wa_nld (k := 40 * j + k) hx hb hK hP 2 0 rfl rfl (by omega) (by omega) dc_R_crash_41 ?_
    refine tp_i (y := nI (cc (40 * j + k))) (by rw [hck]) ?_
    refine lv_istore (lv' := [(4, .int (nI (cc (40 * j + k)))), (3, .int (nI k)), (2, .int (nI q)), (1, .int (nI j)), (0, .ref (r 0))]) hx hb dc_R_crash_42 hl (by decide) rfl (fun ls hl => ?_)
    refine lv_aload_n hx hb dc_R_crash_44 rfl (lv_at hl 4 rfl) ?_
    refine va_get (D := (dC, dI)) (ci := 4) (v := .ref (r 4)) (C := cn_R) (T := ft_R) (N := 27) hx hb htb ki_R hown hK hP 0 rfl rfl 4 (by decide) (htb _ kw_374) (fun _ h9 => h9) rfl dc_R_crash_45 ?_
    refine lv_iload hx hb dc_R_crash_48 (lv_at hl 0 rfl) ?_
    refine wa_bld (k := (cc (40 * j + k))) hx hb hK hP 4 2 rfl rfl (by omega) (by omega) dc_R_crash_50 ?_
    refine lv_if_eq (tgt := 73) hx hb dc_R_crash_51 (by decide) (fun hc => ?_) (fun hc => ?_)
    · have h2 : sb (cc (40 * j + k)) = false := bI_0.mp hc
      refine lv_aload_n hx hb dc_R_crash_73 rfl (lv_at hl 4 rfl) ?_
      refine va_get (D := (dC, dI)) (ci := 4) (v := .ref (r 5)) (C := cn_R) (T := ft_R) (N := 27) hx hb htb ki_R hown hK hP 0 rfl rfl 5 (by decide) (htb _ kw_375) (fun _ h9 => h9) rfl dc_R_crash_74 ?_
      refine lv_iload hx hb dc_R_crash_77 (lv_at hl 0 rfl) ?_
      refine lv_iconst (v := nI 1) hx hb dc_R_crash_79 (by decide) ?_
      refine tp_i (y := bI true) (rfl) ?_
      refine wa_bst (k := (cc (40 * j + k))) (x := true) hx hb hK hP hD hS 5 2 rfl rfl (by omega) (by omega) dc_R_crash_80 (fun H locs hP hD hS => ?_)
      have hP : va_P (dC, dI) clsL [zR r cn mn mi nn, ((r 18), .inl (cZ, 3, .inl (bF (va_up dw j true)))), ((r 19), .inl (cI, 120, .inl (nF c3))), ((r 20), .inl (cI, 3, .inl (nF lg))), ((r 4), .inl (cZ, 40, .inl (bF sb))), ((r 5), .inl (cZ, 40, .inl (bF (va_up l3 (cc (40 * j + k)) true)))), ((r 6), .inl (cI, 40, .inl (nF f3))), ((r 14), .inl (cI, 104, .inl (nF u3))), ((r 2), .inl (cI, 40, .inl (nF rc)))] H := hP
      have hD : va_D A [zR r cn mn mi nn, ((r 18), .inl (cZ, 3, .inl (bF (va_up dw j true)))), ((r 19), .inl (cI, 120, .inl (nF c3))), ((r 20), .inl (cI, 3, .inl (nF lg))), ((r 4), .inl (cZ, 40, .inl (bF sb))), ((r 5), .inl (cZ, 40, .inl (bF (va_up l3 (cc (40 * j + k)) true)))), ((r 6), .inl (cI, 40, .inl (nF f3))), ((r 14), .inl (cI, 104, .inl (nF u3))), ((r 2), .inl (cI, 40, .inl (nF rc)))] := hD
      refine lv_aload_n hx hb dc_R_crash_81 rfl (lv_at hl 4 rfl) ?_
      refine va_get (D := (dC, dI)) (ci := 4) (v := .ref (r 6)) (C := cn_R) (T := ft_R) (N := 27) hx hb htb ki_R hown hK hP 0 rfl rfl 6 (by decide) (htb _ kw_376) (fun _ h9 => h9) rfl dc_R_crash_82 ?_
      refine lv_iload hx hb dc_R_crash_85 (lv_at hl 0 rfl) ?_
      refine lv_iload_n hx hb dc_R_crash_87 rfl (lv_at hl 3 rfl) ?_
      refine wa_nst (k := (cc (40 * j + k))) (x := j) hx hb hK hP hD hS 6 0 rfl rfl (by omega) (by omega) dc_R_crash_88 (fun H locs hP hD hS => ?_)
      have hP : va_P (dC, dI) clsL [zR r cn mn mi nn, ((r 18), .inl (cZ, 3, .inl (bF (va_up dw j true)))), ((r 19), .inl (cI, 120, .inl (nF c3))), ((r 20), .inl (cI, 3, .inl (nF lg))), ((r 4), .inl (cZ, 40, .inl (bF sb))), ((r 5), .inl (cZ, 40, .inl (bF (va_up l3 (cc (40 * j + k)) true)))), ((r 6), .inl (cI, 40, .inl (nF (va_up f3 (cc (40 * j + k)) j)))), ((r 14), .inl (cI, 104, .inl (nF u3))), ((r 2), .inl (cI, 40, .inl (nF rc)))] H := hP
      have hD : va_D A [zR r cn mn mi nn, ((r 18), .inl (cZ, 3, .inl (bF (va_up dw j true)))), ((r 19), .inl (cI, 120, .inl (nF c3))), ((r 20), .inl (cI, 3, .inl (nF lg))), ((r 4), .inl (cZ, 40, .inl (bF sb))), ((r 5), .inl (cZ, 40, .inl (bF (va_up l3 (cc (40 * j + k)) true)))), ((r 6), .inl (cI, 40, .inl (nF (va_up f3 (cc (40 * j + k)) j)))), ((r 14), .inl (cI, 104, .inl (nF u3))), ((r 2), .inl (cI, 40, .inl (nF rc)))] := hD
      refine lv_aload_n hx hb dc_R_crash_89 rfl (lv_at hl 4 rfl) ?_
      refine va_get (D := (dC, dI)) (ci := 4) (v := .ref (r 14)) (C := cn_R) (T := ft_R) (N := 27) hx hb htb ki_R hown hK hP 0 rfl rfl 14 (by decide) (htb _ kw_384) (fun _ h9 => h9) rfl dc_R_crash_90 ?_
      refine lv_aload_n hx hb dc_R_crash_93 rfl (lv_at hl 4 rfl) ?_
      refine va_get (D := (dC, dI)) (ci := 4) (v := .ref (r 2)) (C := cn_R) (T := ft_R) (N := 27) hx hb htb ki_R hown hK hP 0 rfl rfl 2 (by decide) (htb _ kw_372) (fun _ h9 => h9) rfl dc_R_crash_94 ?_
      refine lv_iload hx hb dc_R_crash_97 (lv_at hl 0 rfl) ?_
      refine wa_nld (k := (cc (40 * j + k))) hx hb hK hP 8 0 rfl rfl (by omega) (by omega) dc_R_crash_99 ?_
      refine lv_iconst (v := nI 2) hx hb dc_R_crash_100 (by decide) ?_
      refine wa_nst (k := rc (cc (40 * j + k))) (x := 2) hx hb hK hP hD hS 7 0 rfl rfl (hr9) (by omega) dc_R_crash_101 (fun H locs hP hD hS => ?_)
      have hP : va_P (dC, dI) clsL [zR r cn mn mi nn, ((r 18), .inl (cZ, 3, .inl (bF (va_up dw j true)))), ((r 19), .inl (cI, 120, .inl (nF c3))), ((r 20), .inl (cI, 3, .inl (nF lg))), ((r 4), .inl (cZ, 40, .inl (bF sb))), ((r 5), .inl (cZ, 40, .inl (bF (va_up l3 (cc (40 * j + k)) true)))), ((r 6), .inl (cI, 40, .inl (nF (va_up f3 (cc (40 * j + k)) j)))), ((r 14), .inl (cI, 104, .inl (nF (va_up u3 (rc (cc (40 * j + k))) 2)))), ((r 2), .inl (cI, 40, .inl (nF rc)))] H := hP
      have hD : va_D A [zR r cn mn mi nn, ((r 18), .inl (cZ, 3, .inl (bF (va_up dw j true)))), ((r 19), .inl (cI, 120, .inl (nF c3))), ((r 20), .inl (cI, 3, .inl (nF lg))), ((r 4), .inl (cZ, 40, .inl (bF sb))), ((r 5), .inl (cZ, 40, .inl (bF (va_up l3 (cc (40 * j + k)) true)))), ((r 6), .inl (cI, 40, .inl (nF (va_up f3 (cc (40 * j + k)) j)))), ((r 14), .inl (cI, 104, .inl (nF (va_up u3 (rc (cc (40 * j + k))) 2)))), ((r 2), .inl (cI, 40, .inl (nF rc)))] := hD
      refine lv_iinc (k := 1) (v := nI (k + 1)) (lv' := [(3, .int (nI (k + 1))), (4, .int (nI (cc (40 * j + k)))), (2, .int (nI q)), (1, .int (nI j)), (0, .ref (r 0))]) hx hb dc_R_crash_102 hl rfl (nI_inc1 _) (by decide) rfl (fun ls hl => ?_)
      refine lv_goto (tgt := 21) hx hb dc_R_crash_105 (by decide) ?_
      exact ih21 (k + 1, q, c3, va_up l3 (cc (40 * j + k)) true, va_up f3 (cc (40 * j + k)) j, va_up u3 (rc (cc (40 * j + k))) 2) H locs ls (by first | omega | (dsimp only; omega)) ⟨⟨by first | omega | (dsimp only; omega), by first | omega | (dsimp only; omega), by simp only [cr_S]; rw [← hI.2.2.1]; simp [h2, hck], fun i hi => by dsimp only; first | (rw [va_up_ne _ _ (by omega)]; exact hI.2.2.2 i (by omega)) | exact hI.2.2.2 i (by omega)⟩, hP, hD, hS, lv_sub hl [0, 2, 3, 4] rfl⟩
    · have h2 : sb (cc (40 * j + k)) = true := bI_n0.mp hc
      refine lv_aload_n hx hb dc_R_crash_54 rfl (lv_at hl 4 rfl) ?_
      refine va_get (D := (dC, dI)) (ci := 4) (v := .ref (r 19)) (C := cn_R) (T := ft_R) (N := 27) hx hb htb ki_R hown hK hP 0 rfl rfl 19 (by decide) (htb _ kw_389) (fun _ h9 => h9) rfl dc_R_crash_55 ?_
      refine lv_bipush (v := nI 40) hx hb dc_R_crash_58 (by decide) ?_
      refine lv_iload_n hx hb dc_R_crash_60 rfl (lv_at hl 3 rfl) ?_
      refine lv_imul hx hb dc_R_crash_61 ?_
      refine tp_i (y := nI (40 * j)) (pk_mul _ _) ?_
      refine lv_iload_n hx hb dc_R_crash_62 rfl (lv_at hl 2 rfl) ?_
      refine lv_iadd hx hb dc_R_crash_63 ?_
      refine tp_i (y := nI (40 * j + q)) (nI_add _ _) ?_
      refine lv_iload hx hb dc_R_crash_64 (lv_at hl 0 rfl) ?_
      refine wa_nst (k := 40 * j + q) (x := (cc (40 * j + k))) hx hb hK hP hD hS 2 0 rfl rfl (by omega) (by omega) dc_R_crash_66 (fun H locs hP hD hS => ?_)
      have hP : va_P (dC, dI) clsL [zR r cn mn mi nn, ((r 18), .inl (cZ, 3, .inl (bF (va_up dw j true)))), ((r 19), .inl (cI, 120, .inl (nF (va_up c3 (40 * j + q) (cc (40 * j + k)))))), ((r 20), .inl (cI, 3, .inl (nF lg))), ((r 4), .inl (cZ, 40, .inl (bF sb))), ((r 5), .inl (cZ, 40, .inl (bF l3))), ((r 6), .inl (cI, 40, .inl (nF f3))), ((r 14), .inl (cI, 104, .inl (nF u3))), ((r 2), .inl (cI, 40, .inl (nF rc)))] H := hP
      have hD : va_D A [zR r cn mn mi nn, ((r 18), .inl (cZ, 3, .inl (bF (va_up dw j true)))), ((r 19), .inl (cI, 120, .inl (nF (va_up c3 (40 * j + q) (cc (40 * j + k)))))), ((r 20), .inl (cI, 3, .inl (nF lg))), ((r 4), .inl (cZ, 40, .inl (bF sb))), ((r 5), .inl (cZ, 40, .inl (bF l3))), ((r 6), .inl (cI, 40, .inl (nF f3))), ((r 14), .inl (cI, 104, .inl (nF u3))), ((r 2), .inl (cI, 40, .inl (nF rc)))] := hD
      refine lv_iinc (k := 2) (v := nI (q + 1)) (lv' := [(2, .int (nI (q + 1))), (4, .int (nI (cc (40 * j + k)))), (3, .int (nI k)), (1, .int (nI j)), (0, .ref (r 0))]) hx hb dc_R_crash_67 hl rfl (nI_inc1 _) (by decide) rfl (fun ls hl => ?_)
      refine lv_goto (tgt := 102) hx hb dc_R_crash_70 (by decide) ?_
      refine lv_iinc (k := 2) (v := nI (k + 1)) (lv' := [(3, .int (nI (k + 1))), (2, .int (nI (q + 1))), (4, .int (nI (cc (40 * j + k)))), (1, .int (nI j)), (0, .ref (r 0))]) hx hb dc_R_crash_102 hl rfl (nI_inc1 _) (by decide) rfl (fun ls hl => ?_)
      refine lv_goto (tgt := 21) hx hb dc_R_crash_105 (by decide) ?_
      exact ih21 (k + 1, q + 1, va_up c3 (40 * j + q) (cc (40 * j + k)), l3, f3, u3) H locs ls (by first | omega | (dsimp only; omega)) ⟨⟨by first | omega | (dsimp only; omega), by first | omega | (dsimp only; omega), by simp only [cr_S]; rw [← hI.2.2.1]; simp [h2, hck], fun i hi => by dsimp only; first | (rw [va_up_ne _ _ (by omega)]; exact hI.2.2.2 i (by omega)) | exact hI.2.2.2 i (by omega)⟩, hP, hD, hS, lv_sub hl [0, 1, 3, 4] rfl⟩

set_option maxHeartbeats 4000000 in
set_option maxRecDepth 100000 in
theorem oc_R_learn_no (l : Launch) (dC : Nat → ClassId) (dI : Nat → Nat → Nat) (cI cJ cZ cP : ClassId) (sz : Nat) (r : Nat → Nat) (cn : Nat) (mn : Nat) (mi : Nat) (nn : Nat) (y : Int32) (hy : y < 0 ∨ nI 3 ≤ y) : mt_I l mn_R_learn bc_R_learn 3 (some .int) ({ frames := 2, cells := 0, slots := 0, locals := 42 }) (dC, dI) (TYS cI cJ cZ cP) sz [.ref (r 0), .int y] [zR r cn mn mi nn] [zR r cn mn mi nn] ((-1)) 0 0 := by
  unfold mt_I
  refine Met.ofW (cc := bc_R_learn) (maxL := 3) (ret := (some .int)) (by decide) rfl ?_
  intro p e s m args below meth c s₁ B hml hv
  obtain ⟨rfl, hsz, hP, hK, hD0⟩ := hv
  have hx := B.exec
  have hb := B.bytes
  have hr := B.returns
  have hts := atoms_spec (ws := wsT mn_R_learn bc_R_learn 3 (some .int)) B.pre
  have htb : ∀ w ∈ gtbl, w.before _ s = true := fun w h => hts w (List.mem_cons_of_mem _ h)
  have hown : s.vm.findClass cn_R = some m.cls := findClass_of_methodNamed B.named
  have hlocks := B.notSynchronized
  subst hsz
  have hD := hD0.self (sz := s.heap.size)
  generalize hAe : va_A [zR r cn mn mi nn] s.heap.size = A at hD ⊢
  have hA : ∀ q : Nat, s.heap.size ≤ q → A q := fun q h => by rw [← hAe]; exact Or.inr h
  have hS : va_S A s.heap s.heap [] := va_S.rf
  have hP : va_P (dC, dI) clsL [zR r cn mn mi nn] s.heap := hP
  have hl := lv_entry ([.ref (r 0), .int y]) (n := 3) (Nat.le_of_ble_eq_true rfl)
  rw [lg_entry_eq]
  generalize (lg_sl ([.ref (r 0), .int y]) ++ List.replicate (3 - (lg_sl ([.ref (r 0), .int y])).length) Slot.unset).toArray = ls at hl ⊢
  have hl : lv_has ls 3 [(0, .ref (r 0)), (1, .int y)] := hl
  refine lv_aload_n hx hb dc_R_learn_0 rfl (lv_at hl 0 rfl) ?_
  refine lv_iload_n hx hb dc_R_learn_1 rfl (lv_at hl 1 rfl) ?_
  refine cl_i (wc := [zR r cn mn mi nn]) (wr := []) (w1 := [zR r cn mn mi nn]) hP hD hS hA [0] [] rfl rfl (by decide) (by decide) (va_runV (As := [.int y]) (rest := []) ⟨hx, hb, hml, hown, htb⟩ (oc_R_isUp_no l dC dI cI cJ cZ cP _ r cn mn mi nn y (by first | assumption | omega)) (cwV 1 htb (gw_V kw_502 kw_504 kp_21 kw_5 kw_505) rfl rfl rfl (by decide +kernel) ⟨Nat.le_of_ble_eq_true rfl, Nat.le_of_ble_eq_true rfl⟩) (pr_V hP hK hD (va_recv hK hP (ci := 4) (q0 := 0) rfl rfl) [0] (by decide) rfl rfl) rfl rfl hl.1 rfl (lv_room (Nat.le_of_ble_eq_true rfl)) dc_R_learn_2 ⟨Nat.le_of_ble_eq_true rfl, Nat.le_of_ble_eq_true rfl⟩) (fun H locs hP hD hS => ?_)
  have hP : va_P (dC, dI) clsL [zR r cn mn mi nn] H := hP.sub (ws' := [zR r cn mn mi nn]) [0] rfl
  have hD : va_D A [zR r cn mn mi nn] := hD.sub (ws' := [zR r cn mn mi nn]) [0] (by decide) rfl
  refine lv_if_eq (tgt := 21) hx hb dc_R_learn_5 (by decide) (fun hc => ?_) (fun hc => ?_)
  rotate_left
  · have h1 : false = true := bI_n0.mp hc
    exact absurd h1 (by decide)
  have h1 : false = false := bI_0.mp hc
  refine lv_iconst (v := (-1)) hx hb dc_R_learn_21 (by decide) ?_
  have hP9 := hP.sub (ws' := [zR r cn mn mi nn]) [0] rfl
  have hD9 := hD.sub (ws' := [zR r cn mn mi nn]) [0] (by decide) rfl
  exact W.iret (v := (-1)) hx hb hr (fun t ht hW => ⟨⟨_, (), rfl, rfl, by rw [ht]; exact hP9, va_K.moved hW.alike hK, hD9⟩, hS.F ht⟩) hS.2.2 dc_R_learn_22

set_option maxHeartbeats 4000000 in
set_option maxRecDepth 100000 in
theorem oc_R_learn_dn (l : Launch) (dC : Nat → ClassId) (dI : Nat → Nat → Nat) (cI cJ cZ cP : ClassId) (sz : Nat) (r : Nat → Nat) (cn : Nat) (mn : Nat) (mi : Nat) (nn : Nat) (dw : Nat → Bool) (j : Nat) (hj : j < 3) (hdw : dw j = true) : mt_I l mn_R_learn bc_R_learn 3 (some .int) ({ frames := 2, cells := 0, slots := 0, locals := 42 }) (dC, dI) (TYS cI cJ cZ cP) sz [.ref (r 0), .int (nI j)] [zR r cn mn mi nn, ((r 18), .inl (cZ, 3, .inl (bF dw)))] [zR r cn mn mi nn, ((r 18), .inl (cZ, 3, .inl (bF dw)))] ((-1)) 0 0 := by
  unfold mt_I
  refine Met.ofW (cc := bc_R_learn) (maxL := 3) (ret := (some .int)) (by decide) rfl ?_
  intro p e s m args below meth c s₁ B hml hv
  obtain ⟨rfl, hsz, hP, hK, hD0⟩ := hv
  have hx := B.exec
  have hb := B.bytes
  have hr := B.returns
  have hts := atoms_spec (ws := wsT mn_R_learn bc_R_learn 3 (some .int)) B.pre
  have htb : ∀ w ∈ gtbl, w.before _ s = true := fun w h => hts w (List.mem_cons_of_mem _ h)
  have hown : s.vm.findClass cn_R = some m.cls := findClass_of_methodNamed B.named
  have hlocks := B.notSynchronized
  subst hsz
  have hD := hD0.self (sz := s.heap.size)
  generalize hAe : va_A [zR r cn mn mi nn, ((r 18), .inl (cZ, 3, .inl (bF dw)))] s.heap.size = A at hD ⊢
  have hA : ∀ q : Nat, s.heap.size ≤ q → A q := fun q h => by rw [← hAe]; exact Or.inr h
  have hS : va_S A s.heap s.heap [] := va_S.rf
  have hP : va_P (dC, dI) clsL [zR r cn mn mi nn, ((r 18), .inl (cZ, 3, .inl (bF dw)))] s.heap := hP
  have hl := lv_entry ([.ref (r 0), .int (nI j)]) (n := 3) (Nat.le_of_ble_eq_true rfl)
  rw [lg_entry_eq]
  generalize (lg_sl ([.ref (r 0), .int (nI j)]) ++ List.replicate (3 - (lg_sl ([.ref (r 0), .int (nI j)])).length) Slot.unset).toArray = ls at hl ⊢
  have hl : lv_has ls 3 [(0, .ref (r 0)), (1, .int (nI j))] := hl
  refine lv_aload_n hx hb dc_R_learn_0 rfl (lv_at hl 0 rfl) ?_
  refine lv_iload_n hx hb dc_R_learn_1 rfl (lv_at hl 1 rfl) ?_
  refine cl_i (wc := [zR r cn mn mi nn, ((r 18), .inl (cZ, 3, .inl (bF dw)))]) (wr := []) (w1 := [zR r cn mn mi nn, ((r 18), .inl (cZ, 3, .inl (bF dw)))]) hP hD hS hA [0, 1] [] rfl rfl (by decide) (by decide) (va_runV (As := [.int (nI j)]) (rest := []) ⟨hx, hb, hml, hown, htb⟩ (oc_R_isUp l dC dI cI cJ cZ cP _ r cn mn mi nn dw j (by first | assumption | omega)) (cwV 1 htb (gw_V kw_502 kw_504 kp_21 kw_5 kw_505) rfl rfl rfl (by decide +kernel) ⟨Nat.le_of_ble_eq_true rfl, Nat.le_of_ble_eq_true rfl⟩) (pr_V hP hK hD (va_recv hK hP (ci := 4) (q0 := 0) rfl rfl) [0, 1] (by decide) rfl rfl) rfl rfl hl.1 rfl (lv_room (Nat.le_of_ble_eq_true rfl)) dc_R_learn_2 ⟨Nat.le_of_ble_eq_true rfl, Nat.le_of_ble_eq_true rfl⟩) (fun H locs hP hD hS => ?_)
  have hP : va_P (dC, dI) clsL [zR r cn mn mi nn, ((r 18), .inl (cZ, 3, .inl (bF dw)))] H := hP.sub (ws' := [zR r cn mn mi nn, ((r 18), .inl (cZ, 3, .inl (bF dw)))]) [0, 1] rfl
  have hD : va_D A [zR r cn mn mi nn, ((r 18), .inl (cZ, 3, .inl (bF dw)))] := hD.sub (ws' := [zR r cn mn mi nn, ((r 18), .inl (cZ, 3, .inl (bF dw)))]) [0, 1] (by decide) rfl
  refine lv_if_eq (tgt := 21) hx hb dc_R_learn_5 (by decide) (fun hc => ?_) (fun hc => ?_)
  rotate_left
  · have h1 : (!(dw j)) = true := bI_n0.mp hc
    exact absurd h1 (by rw [hdw]; decide)
  have h1 : (!(dw j)) = false := bI_0.mp hc
  refine lv_iconst (v := (-1)) hx hb dc_R_learn_21 (by decide) ?_
  have hP9 := hP.sub (ws' := [zR r cn mn mi nn, ((r 18), .inl (cZ, 3, .inl (bF dw)))]) [0, 1] rfl
  have hD9 := hD.sub (ws' := [zR r cn mn mi nn, ((r 18), .inl (cZ, 3, .inl (bF dw)))]) [0, 1] (by decide) rfl
  exact W.iret (v := (-1)) hx hb hr (fun t ht hW => ⟨⟨_, (), rfl, rfl, by rw [ht]; exact hP9, va_K.moved hW.alike hK, hD9⟩, hS.F ht⟩) hS.2.2 dc_R_learn_22

set_option maxHeartbeats 4000000 in
set_option maxRecDepth 100000 in
theorem oc_R_learn_all (l : Launch) (dC : Nat → ClassId) (dI : Nat → Nat → Nat) (cI cJ cZ cP : ClassId) (sz : Nat) (r : Nat → Nat) (cn : Nat) (mn : Nat) (mi : Nat) (nn : Nat) (dw : Nat → Bool) (ler : Nat → Nat) (j : Nat) (le : Nat) (hj : j < 3) (hdw : dw j = false) (hnn : nn < 2 ^ 30) (hle : ler j = le) (hlb : le < 2 ^ 30) (hall : nn ≤ le) : mt_I l mn_R_learn bc_R_learn 3 (some .int) ({ frames := 2, cells := 0, slots := 0, locals := 42 }) (dC, dI) (TYS cI cJ cZ cP) sz [.ref (r 0), .int (nI j)] [zR r cn mn mi nn, ((r 18), .inl (cZ, 3, .inl (bF dw))), ((r 21), .inl (cI, 3, .inl (nF ler)))] [zR r cn mn mi nn, ((r 18), .inl (cZ, 3, .inl (bF dw))), ((r 21), .inl (cI, 3, .inl (nF ler)))] ((-1)) 0 0 := by
  unfold mt_I
  refine Met.ofW (cc := bc_R_learn) (maxL := 3) (ret := (some .int)) (by decide) rfl ?_
  intro p e s m args below meth c s₁ B hml hv
  obtain ⟨rfl, hsz, hP, hK, hD0⟩ := hv
  have hx := B.exec
  have hb := B.bytes
  have hr := B.returns
  have hts := atoms_spec (ws := wsT mn_R_learn bc_R_learn 3 (some .int)) B.pre
  have htb : ∀ w ∈ gtbl, w.before _ s = true := fun w h => hts w (List.mem_cons_of_mem _ h)
  have hown : s.vm.findClass cn_R = some m.cls := findClass_of_methodNamed B.named
  have hlocks := B.notSynchronized
  subst hsz
  have hD := hD0.self (sz := s.heap.size)
  generalize hAe : va_A [zR r cn mn mi nn, ((r 18), .inl (cZ, 3, .inl (bF dw))), ((r 21), .inl (cI, 3, .inl (nF ler)))] s.heap.size = A at hD ⊢
  have hA : ∀ q : Nat, s.heap.size ≤ q → A q := fun q h => by rw [← hAe]; exact Or.inr h
  have hS : va_S A s.heap s.heap [] := va_S.rf
  have hP : va_P (dC, dI) clsL [zR r cn mn mi nn, ((r 18), .inl (cZ, 3, .inl (bF dw))), ((r 21), .inl (cI, 3, .inl (nF ler)))] s.heap := hP
  have hl := lv_entry ([.ref (r 0), .int (nI j)]) (n := 3) (Nat.le_of_ble_eq_true rfl)
  rw [lg_entry_eq]
  generalize (lg_sl ([.ref (r 0), .int (nI j)]) ++ List.replicate (3 - (lg_sl ([.ref (r 0), .int (nI j)])).length) Slot.unset).toArray = ls at hl ⊢
  have hl : lv_has ls 3 [(0, .ref (r 0)), (1, .int (nI j))] := hl
  refine lv_aload_n hx hb dc_R_learn_0 rfl (lv_at hl 0 rfl) ?_
  refine lv_iload_n hx hb dc_R_learn_1 rfl (lv_at hl 1 rfl) ?_
  refine cl_i (wc := [zR r cn mn mi nn, ((r 18), .inl (cZ, 3, .inl (bF dw)))]) (wr := [((r 21), .inl (cI, 3, .inl (nF ler)))]) (w1 := [zR r cn mn mi nn, ((r 18), .inl (cZ, 3, .inl (bF dw)))]) hP hD hS hA [0, 1] [2] rfl rfl (by decide) (by decide) (va_runV (As := [.int (nI j)]) (rest := []) ⟨hx, hb, hml, hown, htb⟩ (oc_R_isUp l dC dI cI cJ cZ cP _ r cn mn mi nn dw j (by first | assumption | omega)) (cwV 1 htb (gw_V kw_502 kw_504 kp_21 kw_5 kw_505) rfl rfl rfl (by decide +kernel) ⟨Nat.le_of_ble_eq_true rfl, Nat.le_of_ble_eq_true rfl⟩) (pr_V hP hK hD (va_recv hK hP (ci := 4) (q0 := 0) rfl rfl) [0, 1] (by decide) rfl rfl) rfl rfl hl.1 rfl (lv_room (Nat.le_of_ble_eq_true rfl)) dc_R_learn_2 ⟨Nat.le_of_ble_eq_true rfl, Nat.le_of_ble_eq_true rfl⟩) (fun H locs hP hD hS => ?_)
  have hP : va_P (dC, dI) clsL [zR r cn mn mi nn, ((r 18), .inl (cZ, 3, .inl (bF dw))), ((r 21), .inl (cI, 3, .inl (nF ler)))] H := hP.sub (ws' := [zR r cn mn mi nn, ((r 18), .inl (cZ, 3, .inl (bF dw))), ((r 21), .inl (cI, 3, .inl (nF ler)))]) [1, 2, 0] rfl
  have hD : va_D A [zR r cn mn mi nn, ((r 18), .inl (cZ, 3, .inl (bF dw))), ((r 21), .inl (cI, 3, .inl (nF ler)))] := hD.sub (ws' := [zR r cn mn mi nn, ((r 18), .inl (cZ, 3, .inl (bF dw))), ((r 21), .inl (cI, 3, .inl (nF ler)))]) [1, 2, 0] (by decide) rfl
  refine lv_if_eq (tgt := 21) hx hb dc_R_learn_5 (by decide) (fun hc => ?_) (fun hc => ?_)
  · have h1 : (!(dw j)) = false := bI_0.mp hc
    exact absurd h1 (by rw [hdw]; decide)
  have h1 : (!(dw j)) = true := bI_n0.mp hc
  refine lv_aload_n hx hb dc_R_learn_8 rfl (lv_at hl 0 rfl) ?_
  refine va_get (D := (dC, dI)) (ci := 4) (v := .ref (r 21)) (C := cn_R) (T := ft_R) (N := 27) hx hb htb ki_R hown hK hP 0 rfl rfl 21 (by decide) (htb _ kw_391) (fun _ h9 => h9) rfl dc_R_learn_9 ?_
  refine lv_iload_n hx hb dc_R_learn_12 rfl (lv_at hl 1 rfl) ?_
  refine wa_nld (k := j) hx hb hK hP 2 0 rfl rfl (by omega) (by omega) dc_R_learn_13 ?_
  refine tp_i (y := nI le) (by rw [hle]) ?_
  refine lv_aload_n hx hb dc_R_learn_14 rfl (lv_at hl 0 rfl) ?_
  refine va_get (D := (dC, dI)) (ci := 4) (v := .int (nI nn)) (C := cn_R) (T := ft_R) (N := 27) hx hb htb ki_R hown hK hP 0 rfl rfl 17 (by decide) (htb _ kw_387) (fun _ h9 => h9) rfl dc_R_learn_15 ?_
  refine lv_icmp_lt (tgt := 23) hx hb dc_R_learn_18 (by decide) (fun hc => ?_) (fun hc => ?_)
  · have h2 : le < nn := (nI_ltI (by omega) (by omega)).mp hc
    exact absurd h2 (by omega)
  have h2 : nn ≤ le := Nat.le_of_not_lt (fun h9 => hc ((nI_ltI (by omega) (by omega)).mpr h9))
  refine lv_iconst (v := (-1)) hx hb dc_R_learn_21 (by decide) ?_
  have hP9 := hP.sub (ws' := [zR r cn mn mi nn, ((r 18), .inl (cZ, 3, .inl (bF dw))), ((r 21), .inl (cI, 3, .inl (nF ler)))]) [0, 1, 2] rfl
  have hD9 := hD.sub (ws' := [zR r cn mn mi nn, ((r 18), .inl (cZ, 3, .inl (bF dw))), ((r 21), .inl (cI, 3, .inl (nF ler)))]) [0, 1, 2] (by decide) rfl
  exact W.iret (v := (-1)) hx hb hr (fun t ht hW => ⟨⟨_, (), rfl, rfl, by rw [ht]; exact hP9, va_K.moved hW.alike hK, hD9⟩, hS.F ht⟩) hS.2.2 dc_R_learn_22

set_option maxHeartbeats 4000000 in
set_option maxRecDepth 100000 in
theorem oc_R_learn_0 (l : Launch) (dC : Nat → ClassId) (dI : Nat → Nat → Nat) (cI cJ cZ cP : ClassId) (sz : Nat) (r : Nat → Nat) (cn : Nat) (mn : Nat) (mi : Nat) (nn : Nat) (dw : Nat → Bool) (bf : Nat → Option Nat) (rc : Nat → Nat) (sr : Nat → Option Nat) (mk : Nat → Bool) (an : Nat → Option Nat) (su : Nat → Nat) (cc : Nat → Nat) (lg : Nat → Nat) (ler : Nat → Nat) (lt : Nat → Option Nat) (sd : Nat → Option Nat) (j : Nat) (n : Nat) (le : Nat) (kp : Nat) (hj : j < 3) (hdw : dw j = false) (hnn : nn < 2 ^ 30) (hlt : le < nn) (h0 : n - kp = 0) (hlg : lg j = n) (hn : n ≤ 40) (hcc : ∀ i, i < n → cc (40 * j + i) < cn) (hle : ler j = le) (hss : ∀ i, i < n → ∀ q, sr (rc (cc (40 * j + i))) = some q → q < cn) (hcn : cn ≤ 40) (hbf : ∀ k, k < cn → ∀ i, bf k = some i → i < 40) (hrc : ∀ k, k < cn → rc k < 104) (hsr : ∀ k, k < cn → ∀ i, sr (rc k) = some i → i < 40) (hkp : fo_N (fun i => hi_B bf rc sr an (some (cc (40 * j + i))) le (le + 1) cn) n 0 = kp) : mt_Ix l mn_R_learn bc_R_learn 3 (some .int) ({ frames := 3, cells := 0, slots := 0, locals := 74 }) (dC, dI) (TYS cI cJ cZ cP) sz [.ref (r 0), .int (nI j)] [zR r cn mn mi nn, ((r 18), .inl (cZ, 3, .inl (bF dw))), ((r 1), .inl (cI, 40, .inl (oF bf))), ((r 2), .inl (cI, 40, .inl (nF rc))), ((r 15), .inl (cI, 104, .inl (oF sr))), ((r 9), .inl (cZ, 40, .inl (bF mk))), ((r 7), .inl (cI, 40, .inl (oF an))), ((r 14), .inl (cI, 104, .inl (nF su))), ((r 19), .inl (cI, 120, .inl (nF cc))), ((r 20), .inl (cI, 3, .inl (nF lg))), ((r 21), .inl (cI, 3, .inl (nF ler))), ((r 22), .inl (cI, 3, .inl (oF lt))), ((r 23), .inl (cI, 3, .inl (oF sd)))] (fun (mkz : Nat → Bool) => [zR r cn mn mi nn, ((r 18), .inl (cZ, 3, .inl (bF dw))), ((r 1), .inl (cI, 40, .inl (oF bf))), ((r 2), .inl (cI, 40, .inl (nF rc))), ((r 15), .inl (cI, 104, .inl (oF sr))), ((r 9), .inl (cZ, 40, .inl (bF mkz))), ((r 7), .inl (cI, 40, .inl (oF an))), ((r 14), .inl (cI, 104, .inl (nF (gb_F su (fun i => rc (cc (40 * j + i))) (fun q => hi_B bf rc sr an (sr q) 0 (le + 1) cn) kp (n - kp))))), ((r 19), .inl (cI, 120, .inl (nF cc))), ((r 20), .inl (cI, 3, .inl (nF (va_up lg j kp)))), ((r 21), .inl (cI, 3, .inl (nF (va_up ler j (le + 1))))), ((r 22), .inl (cI, 3, .inl (oF (dr_L lt sd j kp)))), ((r 23), .inl (cI, 3, .inl (oF (dr_S lt sd j kp))))]) (nI (n - kp)) 0 0 := by
  unfold mt_Ix
  refine Met.ofW (cc := bc_R_learn) (maxL := 3) (ret := (some .int)) (by decide) rfl ?_
  intro p e s m args below meth c s₁ B hml hv
  obtain ⟨rfl, hsz, hP, hK, hD0⟩ := hv
  have hx := B.exec
  have hb := B.bytes
  have hr := B.returns
  have hts := atoms_spec (ws := wsT mn_R_learn bc_R_learn 3 (some .int)) B.pre
  have htb : ∀ w ∈ gtbl, w.before _ s = true := fun w h => hts w (List.mem_cons_of_mem _ h)
  have hown : s.vm.findClass cn_R = some m.cls := findClass_of_methodNamed B.named
  have hlocks := B.notSynchronized
  subst hsz
  have hD := hD0.self (sz := s.heap.size)
  generalize hAe : va_A [zR r cn mn mi nn, ((r 18), .inl (cZ, 3, .inl (bF dw))), ((r 1), .inl (cI, 40, .inl (oF bf))), ((r 2), .inl (cI, 40, .inl (nF rc))), ((r 15), .inl (cI, 104, .inl (oF sr))), ((r 9), .inl (cZ, 40, .inl (bF mk))), ((r 7), .inl (cI, 40, .inl (oF an))), ((r 14), .inl (cI, 104, .inl (nF su))), ((r 19), .inl (cI, 120, .inl (nF cc))), ((r 20), .inl (cI, 3, .inl (nF lg))), ((r 21), .inl (cI, 3, .inl (nF ler))), ((r 22), .inl (cI, 3, .inl (oF lt))), ((r 23), .inl (cI, 3, .inl (oF sd)))] s.heap.size = A at hD ⊢
  have hA : ∀ q : Nat, s.heap.size ≤ q → A q := fun q h => by rw [← hAe]; exact Or.inr h
  have hS : va_S A s.heap s.heap [] := va_S.rf
  have hP : va_P (dC, dI) clsL [zR r cn mn mi nn, ((r 18), .inl (cZ, 3, .inl (bF dw))), ((r 1), .inl (cI, 40, .inl (oF bf))), ((r 2), .inl (cI, 40, .inl (nF rc))), ((r 15), .inl (cI, 104, .inl (oF sr))), ((r 9), .inl (cZ, 40, .inl (bF mk))), ((r 7), .inl (cI, 40, .inl (oF an))), ((r 14), .inl (cI, 104, .inl (nF su))), ((r 19), .inl (cI, 120, .inl (nF cc))), ((r 20), .inl (cI, 3, .inl (nF lg))), ((r 21), .inl (cI, 3, .inl (nF ler))), ((r 22), .inl (cI, 3, .inl (oF lt))), ((r 23), .inl (cI, 3, .inl (oF sd)))] s.heap := hP
  have hl := lv_entry ([.ref (r 0), .int (nI j)]) (n := 3) (Nat.le_of_ble_eq_true rfl)
  rw [lg_entry_eq]
  generalize (lg_sl ([.ref (r 0), .int (nI j)]) ++ List.replicate (3 - (lg_sl ([.ref (r 0), .int (nI j)])).length) Slot.unset).toArray = ls at hl ⊢
  have hl : lv_has ls 3 [(0, .ref (r 0)), (1, .int (nI j))] := hl
  refine lv_aload_n hx hb dc_R_learn_0 rfl (lv_at hl 0 rfl) ?_
  refine lv_iload_n hx hb dc_R_learn_1 rfl (lv_at hl 1 rfl) ?_
  refine cl_i (wc := [zR r cn mn mi nn, ((r 18), .inl (cZ, 3, .inl (bF dw)))]) (wr := [((r 1), .inl (cI, 40, .inl (oF bf))), ((r 2), .inl (cI, 40, .inl (nF rc))), ((r 15), .inl (cI, 104, .inl (oF sr))), ((r 9), .inl (cZ, 40, .inl (bF mk))), ((r 7), .inl (cI, 40, .inl (oF an))), ((r 14), .inl (cI, 104, .inl (nF su))), ((r 19), .inl (cI, 120, .inl (nF cc))), ((r 20), .inl (cI, 3, .inl (nF lg))), ((r 21), .inl (cI, 3, .inl (nF ler))), ((r 22), .inl (cI, 3, .inl (oF lt))), ((r 23), .inl (cI, 3, .inl (oF sd)))]) (w1 := [zR r cn mn mi nn, ((r 18), .inl (cZ, 3, .inl (bF dw)))]) hP hD hS hA [0, 1] [2, 3, 4, 5, 6, 7, 8, 9, 10, 11, 12] rfl rfl (by decide) (by decide) (va_runV (As := [.int (nI j)]) (rest := []) ⟨hx, hb, hml, hown, htb⟩ (oc_R_isUp l dC dI cI cJ cZ cP _ r cn mn mi nn dw j (by first | assumption | omega)) (cwV 1 htb (gw_V kw_502 kw_504 kp_21 kw_5 kw_505) rfl rfl rfl (by decide +kernel) ⟨Nat.le_of_ble_eq_true rfl, Nat.le_of_ble_eq_true rfl⟩) (pr_V hP hK hD (va_recv hK hP (ci := 4) (q0 := 0) rfl rfl) [0, 1] (by decide) rfl rfl) rfl rfl hl.1 rfl (lv_room (Nat.le_of_ble_eq_true rfl)) dc_R_learn_2 ⟨Nat.le_of_ble_eq_true rfl, Nat.le_of_ble_eq_true rfl⟩) (fun H locs hP hD hS => ?_)
  have hP : va_P (dC, dI) clsL [zR r cn mn mi nn, ((r 18), .inl (cZ, 3, .inl (bF dw))), ((r 1), .inl (cI, 40, .inl (oF bf))), ((r 2), .inl (cI, 40, .inl (nF rc))), ((r 15), .inl (cI, 104, .inl (oF sr))), ((r 9), .inl (cZ, 40, .inl (bF mk))), ((r 7), .inl (cI, 40, .inl (oF an))), ((r 14), .inl (cI, 104, .inl (nF su))), ((r 19), .inl (cI, 120, .inl (nF cc))), ((r 20), .inl (cI, 3, .inl (nF lg))), ((r 21), .inl (cI, 3, .inl (nF ler))), ((r 22), .inl (cI, 3, .inl (oF lt))), ((r 23), .inl (cI, 3, .inl (oF sd)))] H := hP.sub (ws' := [zR r cn mn mi nn, ((r 18), .inl (cZ, 3, .inl (bF dw))), ((r 1), .inl (cI, 40, .inl (oF bf))), ((r 2), .inl (cI, 40, .inl (nF rc))), ((r 15), .inl (cI, 104, .inl (oF sr))), ((r 9), .inl (cZ, 40, .inl (bF mk))), ((r 7), .inl (cI, 40, .inl (oF an))), ((r 14), .inl (cI, 104, .inl (nF su))), ((r 19), .inl (cI, 120, .inl (nF cc))), ((r 20), .inl (cI, 3, .inl (nF lg))), ((r 21), .inl (cI, 3, .inl (nF ler))), ((r 22), .inl (cI, 3, .inl (oF lt))), ((r 23), .inl (cI, 3, .inl (oF sd)))]) [11, 12, 0, 1, 2, 3, 4, 5, 6, 7, 8, 9, 10] rfl
  have hD : va_D A [zR r cn mn mi nn, ((r 18), .inl (cZ, 3, .inl (bF dw))), ((r 1), .inl (cI, 40, .inl (oF bf))), ((r 2), .inl (cI, 40, .inl (nF rc))), ((r 15), .inl (cI, 104, .inl (oF sr))), ((r 9), .inl (cZ, 40, .inl (bF mk))), ((r 7), .inl (cI, 40, .inl (oF an))), ((r 14), .inl (cI, 104, .inl (nF su))), ((r 19), .inl (cI, 120, .inl (nF cc))), ((r 20), .inl (cI, 3, .inl (nF lg))), ((r 21), .inl (cI, 3, .inl (nF ler))), ((r 22), .inl (cI, 3, .inl (oF lt))), ((r 23), .inl (cI, 3, .inl (oF sd)))] := hD.sub (ws' := [zR r cn mn mi nn, ((r 18), .inl (cZ, 3, .inl (bF dw))), ((r 1), .inl (cI, 40, .inl (oF bf))), ((r 2), .inl (cI, 40, .inl (nF rc))), ((r 15), .inl (cI, 104, .inl (oF sr))), ((r 9), .inl (cZ, 40, .inl (bF mk))), ((r 7), .inl (cI, 40, .inl (oF an))), ((r 14), .inl (cI, 104, .inl (nF su))), ((r 19), .inl (cI, 120, .inl (nF cc))), ((r 20), .inl (cI, 3, .inl (nF lg))), ((r 21), .inl (cI, 3, .inl (nF ler))), ((r 22), .inl (cI, 3, .inl (oF lt))), ((r 23), .inl (cI, 3, .inl (oF sd)))]) [11, 12, 0, 1, 2, 3, 4, 5, 6, 7, 8, 9, 10] (by decide) rfl
  refine lv_if_eq (tgt := 21) hx hb dc_R_learn_5 (by decide) (fun hc => ?_) (fun hc => ?_)
  · have h1 : (!(dw j)) = false := bI_0.mp hc
    exact absurd h1 (by rw [hdw]; decide)
  have h1 : (!(dw j)) = true := bI_n0.mp hc
  refine lv_aload_n hx hb dc_R_learn_8 rfl (lv_at hl 0 rfl) ?_
  refine va_get (D := (dC, dI)) (ci := 4) (v := .ref (r 21)) (C := cn_R) (T := ft_R) (N := 27) hx hb htb ki_R hown hK hP 0 rfl rfl 21 (by decide) (htb _ kw_391) (fun _ h9 => h9) rfl dc_R_learn_9 ?_
  refine lv_iload_n hx hb dc_R_learn_12 rfl (lv_at hl 1 rfl) ?_
  refine wa_nld (k := j) hx hb hK hP 10 0 rfl rfl (by omega) (by omega) dc_R_learn_13 ?_
  refine tp_i (y := nI le) (by rw [hle]) ?_
  refine lv_aload_n hx hb dc_R_learn_14 rfl (lv_at hl 0 rfl) ?_
  refine va_get (D := (dC, dI)) (ci := 4) (v := .int (nI nn)) (C := cn_R) (T := ft_R) (N := 27) hx hb htb ki_R hown hK hP 0 rfl rfl 17 (by decide) (htb _ kw_387) (fun _ h9 => h9) rfl dc_R_learn_15 ?_
  refine lv_icmp_lt (tgt := 23) hx hb dc_R_learn_18 (by decide) (fun hc => ?_) (fun hc => ?_)
  rotate_left
  · have h2 : nn ≤ le := Nat.le_of_not_lt (fun h9 => hc ((nI_ltI (by omega) (by omega)).mpr h9))
    exact absurd h2 (by omega)
  have h2 : le < nn := (nI_ltI (by omega) (by omega)).mp hc
  refine lv_aload_n hx hb dc_R_learn_23 rfl (lv_at hl 0 rfl) ?_
  refine lv_iload_n hx hb dc_R_learn_24 rfl (lv_at hl 1 rfl) ?_
  refine cl_ix (wc := [zR r cn mn mi nn, ((r 1), .inl (cI, 40, .inl (oF bf))), ((r 2), .inl (cI, 40, .inl (nF rc))), ((r 15), .inl (cI, 104, .inl (oF sr))), ((r 9), .inl (cZ, 40, .inl (bF mk))), ((r 7), .inl (cI, 40, .inl (oF an))), ((r 14), .inl (cI, 104, .inl (nF su))), ((r 19), .inl (cI, 120, .inl (nF cc))), ((r 20), .inl (cI, 3, .inl (nF lg))), ((r 21), .inl (cI, 3, .inl (nF ler))), ((r 22), .inl (cI, 3, .inl (oF lt))), ((r 23), .inl (cI, 3, .inl (oF sd)))]) (wr := [((r 18), .inl (cZ, 3, .inl (bF dw)))]) (w2 := (fun (mkz_1 : Nat → Bool) => [zR r cn mn mi nn, ((r 1), .inl (cI, 40, .inl (oF bf))), ((r 2), .inl (cI, 40, .inl (nF rc))), ((r 15), .inl (cI, 104, .inl (oF sr))), ((r 9), .inl (cZ, 40, .inl (bF mkz_1))), ((r 7), .inl (cI, 40, .inl (oF an))), ((r 14), .inl (cI, 104, .inl (nF (gb_F su (fun i => rc (cc (40 * j + i))) (fun q => hi_B bf rc sr an (sr q) 0 (le + 1) cn) kp (n - kp))))), ((r 19), .inl (cI, 120, .inl (nF cc))), ((r 20), .inl (cI, 3, .inl (nF (va_up lg j kp)))), ((r 21), .inl (cI, 3, .inl (nF (va_up ler j (le + 1))))), ((r 22), .inl (cI, 3, .inl (oF (dr_L lt sd j kp)))), ((r 23), .inl (cI, 3, .inl (oF (dr_S lt sd j kp))))])) hP hD hS hA [0, 2, 3, 4, 5, 6, 7, 8, 9, 10, 11, 12] [1] rfl rfl (by decide) (by decide) (va_runV (As := [.int (nI j)]) (rest := []) ⟨hx, hb, hml, hown, htb⟩ (oc_R_next l dC dI cI cJ cZ cP _ r cn mn mi nn bf rc sr mk an su cc lg ler lt sd j n le kp hj hlg hn hcc hle (by omega) hss hcn hbf hrc hsr hkp) (cwV 1 htb (gw_V kw_526 kw_528 kp_23 kw_5 kw_529) rfl rfl rfl (by decide +kernel) ⟨Nat.le_of_ble_eq_true rfl, Nat.le_of_ble_eq_true rfl⟩) (pr_V hP hK hD (va_recv hK hP (ci := 4) (q0 := 0) rfl rfl) [0, 2, 3, 4, 5, 6, 7, 8, 9, 10, 11, 12] (by decide) rfl rfl) rfl rfl hl.1 rfl (lv_room (Nat.le_of_ble_eq_true rfl)) dc_R_learn_25 ⟨Nat.le_of_ble_eq_true rfl, Nat.le_of_ble_eq_true rfl⟩) (fun mkz_1 H locs hP hD hS => ?_)
  have hP : va_P (dC, dI) clsL [zR r cn mn mi nn, ((r 18), .inl (cZ, 3, .inl (bF dw))), ((r 1), .inl (cI, 40, .inl (oF bf))), ((r 2), .inl (cI, 40, .inl (nF rc))), ((r 15), .inl (cI, 104, .inl (oF sr))), ((r 9), .inl (cZ, 40, .inl (bF mkz_1))), ((r 7), .inl (cI, 40, .inl (oF an))), ((r 14), .inl (cI, 104, .inl (nF (gb_F su (fun i => rc (cc (40 * j + i))) (fun q => hi_B bf rc sr an (sr q) 0 (le + 1) cn) kp (n - kp))))), ((r 19), .inl (cI, 120, .inl (nF cc))), ((r 20), .inl (cI, 3, .inl (nF (va_up lg j kp)))), ((r 21), .inl (cI, 3, .inl (nF (va_up ler j (le + 1))))), ((r 22), .inl (cI, 3, .inl (oF (dr_L lt sd j kp)))), ((r 23), .inl (cI, 3, .inl (oF (dr_S lt sd j kp))))] H := hP.sub (ws' := [zR r cn mn mi nn, ((r 18), .inl (cZ, 3, .inl (bF dw))), ((r 1), .inl (cI, 40, .inl (oF bf))), ((r 2), .inl (cI, 40, .inl (nF rc))), ((r 15), .inl (cI, 104, .inl (oF sr))), ((r 9), .inl (cZ, 40, .inl (bF mkz_1))), ((r 7), .inl (cI, 40, .inl (oF an))), ((r 14), .inl (cI, 104, .inl (nF (gb_F su (fun i => rc (cc (40 * j + i))) (fun q => hi_B bf rc sr an (sr q) 0 (le + 1) cn) kp (n - kp))))), ((r 19), .inl (cI, 120, .inl (nF cc))), ((r 20), .inl (cI, 3, .inl (nF (va_up lg j kp)))), ((r 21), .inl (cI, 3, .inl (nF (va_up ler j (le + 1))))), ((r 22), .inl (cI, 3, .inl (oF (dr_L lt sd j kp)))), ((r 23), .inl (cI, 3, .inl (oF (dr_S lt sd j kp))))]) [1, 0, 2, 3, 4, 5, 6, 7, 8, 9, 10, 11, 12] rfl
  have hD : va_D A [zR r cn mn mi nn, ((r 18), .inl (cZ, 3, .inl (bF dw))), ((r 1), .inl (cI, 40, .inl (oF bf))), ((r 2), .inl (cI, 40, .inl (nF rc))), ((r 15), .inl (cI, 104, .inl (oF sr))), ((r 9), .inl (cZ, 40, .inl (bF mkz_1))), ((r 7), .inl (cI, 40, .inl (oF an))), ((r 14), .inl (cI, 104, .inl (nF (gb_F su (fun i => rc (cc (40 * j + i))) (fun q => hi_B bf rc sr an (sr q) 0 (le + 1) cn) kp (n - kp))))), ((r 19), .inl (cI, 120, .inl (nF cc))), ((r 20), .inl (cI, 3, .inl (nF (va_up lg j kp)))), ((r 21), .inl (cI, 3, .inl (nF (va_up ler j (le + 1))))), ((r 22), .inl (cI, 3, .inl (oF (dr_L lt sd j kp)))), ((r 23), .inl (cI, 3, .inl (oF (dr_S lt sd j kp))))] := hD.sub (ws' := [zR r cn mn mi nn, ((r 18), .inl (cZ, 3, .inl (bF dw))), ((r 1), .inl (cI, 40, .inl (oF bf))), ((r 2), .inl (cI, 40, .inl (nF rc))), ((r 15), .inl (cI, 104, .inl (oF sr))), ((r 9), .inl (cZ, 40, .inl (bF mkz_1))), ((r 7), .inl (cI, 40, .inl (oF an))), ((r 14), .inl (cI, 104, .inl (nF (gb_F su (fun i => rc (cc (40 * j + i))) (fun q => hi_B bf rc sr an (sr q) 0 (le + 1) cn) kp (n - kp))))), ((r 19), .inl (cI, 120, .inl (nF cc))), ((r 20), .inl (cI, 3, .inl (nF (va_up lg j kp)))), ((r 21), .inl (cI, 3, .inl (nF (va_up ler j (le + 1))))), ((r 22), .inl (cI, 3, .inl (oF (dr_L lt sd j kp)))), ((r 23), .inl (cI, 3, .inl (oF (dr_S lt sd j kp))))]) [1, 0, 2, 3, 4, 5, 6, 7, 8, 9, 10, 11, 12] (by decide) rfl
  refine lv_istore_n (lv' := [(2, .int (nI (n - kp))), (0, .ref (r 0)), (1, .int (nI j))]) hx hb dc_R_learn_28 rfl hl (by decide) rfl (fun ls hl => ?_)
  refine lv_iload_n hx hb dc_R_learn_29 rfl (lv_at hl 0 rfl) ?_
  refine lv_if_le (tgt := 38) hx hb dc_R_learn_30 (by decide) (fun hc => ?_) (fun hc => ?_)
  rotate_left
  · have h3 : 0 < (n - kp) := Nat.pos_of_ne_zero (fun h9 => hc ((nI_leI (b := 0) (by omega) (by omega)).mpr (Nat.le_of_eq h9)))
    exact absurd h3 (by omega)
  have h3 : (n - kp) = 0 := Nat.le_zero.mp ((nI_leI (b := 0) (by omega) (by omega)).mp hc)
  refine lv_iload_n hx hb dc_R_learn_38 rfl (lv_at hl 0 rfl) ?_
  have hP9 := hP.sub (ws' := [zR r cn mn mi nn, ((r 18), .inl (cZ, 3, .inl (bF dw))), ((r 1), .inl (cI, 40, .inl (oF bf))), ((r 2), .inl (cI, 40, .inl (nF rc))), ((r 15), .inl (cI, 104, .inl (oF sr))), ((r 9), .inl (cZ, 40, .inl (bF mkz_1))), ((r 7), .inl (cI, 40, .inl (oF an))), ((r 14), .inl (cI, 104, .inl (nF (gb_F su (fun i => rc (cc (40 * j + i))) (fun q => hi_B bf rc sr an (sr q) 0 (le + 1) cn) kp (n - kp))))), ((r 19), .inl (cI, 120, .inl (nF cc))), ((r 20), .inl (cI, 3, .inl (nF (va_up lg j kp)))), ((r 21), .inl (cI, 3, .inl (nF (va_up ler j (le + 1))))), ((r 22), .inl (cI, 3, .inl (oF (dr_L lt sd j kp)))), ((r 23), .inl (cI, 3, .inl (oF (dr_S lt sd j kp))))]) [0, 1, 2, 3, 4, 5, 6, 7, 8, 9, 10, 11, 12] rfl
  have hD9 := hD.sub (ws' := [zR r cn mn mi nn, ((r 18), .inl (cZ, 3, .inl (bF dw))), ((r 1), .inl (cI, 40, .inl (oF bf))), ((r 2), .inl (cI, 40, .inl (nF rc))), ((r 15), .inl (cI, 104, .inl (oF sr))), ((r 9), .inl (cZ, 40, .inl (bF mkz_1))), ((r 7), .inl (cI, 40, .inl (oF an))), ((r 14), .inl (cI, 104, .inl (nF (gb_F su (fun i => rc (cc (40 * j + i))) (fun q => hi_B bf rc sr an (sr q) 0 (le + 1) cn) kp (n - kp))))), ((r 19), .inl (cI, 120, .inl (nF cc))), ((r 20), .inl (cI, 3, .inl (nF (va_up lg j kp)))), ((r 21), .inl (cI, 3, .inl (nF (va_up ler j (le + 1))))), ((r 22), .inl (cI, 3, .inl (oF (dr_L lt sd j kp)))), ((r 23), .inl (cI, 3, .inl (oF (dr_S lt sd j kp))))]) [0, 1, 2, 3, 4, 5, 6, 7, 8, 9, 10, 11, 12] (by decide) rfl
  exact W.iret (v := nI (n - kp)) hx hb hr (fun t ht hW => ⟨⟨_, mkz_1, rfl, rfl, by rw [ht]; exact hP9, va_K.moved hW.alike hK, hD9⟩, hS.F ht⟩) hS.2.2 dc_R_learn_39

set_option maxHeartbeats 4000000 in
set_option maxRecDepth 100000 in
theorem oc_R_learn (l : Launch) (dC : Nat → ClassId) (dI : Nat → Nat → Nat) (cI cJ cZ cP : ClassId) (sz : Nat) (r : Nat → Nat) (cn : Nat) (mn : Nat) (mi : Nat) (nn : Nat) (dw : Nat → Bool) (bf : Nat → Option Nat) (rc : Nat → Nat) (sr : Nat → Option Nat) (mk : Nat → Bool) (an : Nat → Option Nat) (su : Nat → Nat) (cc : Nat → Nat) (lg : Nat → Nat) (ler : Nat → Nat) (lt : Nat → Option Nat) (sd : Nat → Option Nat) (pl : Nat → Int32) (j : Nat) (n : Nat) (le : Nat) (kp : Nat) (hj : j < 3) (hdw : dw j = false) (hnn : nn < 2 ^ 30) (hlt : le < nn) (h0 : 0 < n - kp) (hlg : lg j = n) (hn : n ≤ 40) (hcc : ∀ i, i < n → cc (40 * j + i) < cn) (hle : ler j = le) (hss : ∀ i, i < n → ∀ q, sr (rc (cc (40 * j + i))) = some q → q < cn) (hcn : cn ≤ 40) (hbf : ∀ k, k < cn → ∀ i, bf k = some i → i < 40) (hrc : ∀ k, k < cn → rc k < 104) (hsr : ∀ k, k < cn → ∀ i, sr (rc k) = some i → i < 40) (hkp : fo_N (fun i => hi_B bf rc sr an (some (cc (40 * j + i))) le (le + 1) cn) n 0 = kp) (hlt2 : ∀ i, (dr_L lt sd j kp) j = some i → i < 2 ^ 31) : mt_Ix l mn_R_learn bc_R_learn 3 (some .int) ({ frames := 3, cells := 0, slots := 0, locals := 74 }) (dC, dI) (TYS cI cJ cZ cP) sz [.ref (r 0), .int (nI j)] [zR r cn mn mi nn, ((r 18), .inl (cZ, 3, .inl (bF dw))), ((r 1), .inl (cI, 40, .inl (oF bf))), ((r 2), .inl (cI, 40, .inl (nF rc))), ((r 15), .inl (cI, 104, .inl (oF sr))), ((r 9), .inl (cZ, 40, .inl (bF mk))), ((r 7), .inl (cI, 40, .inl (oF an))), ((r 14), .inl (cI, 104, .inl (nF su))), ((r 19), .inl (cI, 120, .inl (nF cc))), ((r 20), .inl (cI, 3, .inl (nF lg))), ((r 21), .inl (cI, 3, .inl (nF ler))), ((r 22), .inl (cI, 3, .inl (oF lt))), ((r 23), .inl (cI, 3, .inl (oF sd))), ((r 24), .inl (cI, 3, .inl pl))] (fun (mkz : Nat → Bool) => [zR r cn mn mi nn, ((r 18), .inl (cZ, 3, .inl (bF dw))), ((r 1), .inl (cI, 40, .inl (oF bf))), ((r 2), .inl (cI, 40, .inl (nF rc))), ((r 15), .inl (cI, 104, .inl (oF sr))), ((r 9), .inl (cZ, 40, .inl (bF mkz))), ((r 7), .inl (cI, 40, .inl (oF an))), ((r 14), .inl (cI, 104, .inl (nF (gb_F su (fun i => rc (cc (40 * j + i))) (fun q => hi_B bf rc sr an (sr q) 0 (le + 1) cn) kp (n - kp))))), ((r 19), .inl (cI, 120, .inl (nF cc))), ((r 20), .inl (cI, 3, .inl (nF (va_up lg j kp)))), ((r 21), .inl (cI, 3, .inl (nF (va_up ler j (le + 1))))), ((r 22), .inl (cI, 3, .inl (oF (dr_L lt sd j kp)))), ((r 23), .inl (cI, 3, .inl (oF (dr_S lt sd j kp)))), ((r 24), .inl (cI, 3, .inl (va_up pl j (rp_V (pl j) kp ((dr_L lt sd j kp) j)))))]) (nI (n - kp)) 0 0 := by
  unfold mt_Ix
  refine Met.ofW (cc := bc_R_learn) (maxL := 3) (ret := (some .int)) (by decide) rfl ?_
  intro p e s m args below meth c s₁ B hml hv
  obtain ⟨rfl, hsz, hP, hK, hD0⟩ := hv
  have hx := B.exec
  have hb := B.bytes
  have hr := B.returns
  have hts := atoms_spec (ws := wsT mn_R_learn bc_R_learn 3 (some .int)) B.pre
  have htb : ∀ w ∈ gtbl, w.before _ s = true := fun w h => hts w (List.mem_cons_of_mem _ h)
  have hown : s.vm.findClass cn_R = some m.cls := findClass_of_methodNamed B.named
  have hlocks := B.notSynchronized
  subst hsz
  have hD := hD0.self (sz := s.heap.size)
  generalize hAe : va_A [zR r cn mn mi nn, ((r 18), .inl (cZ, 3, .inl (bF dw))), ((r 1), .inl (cI, 40, .inl (oF bf))), ((r 2), .inl (cI, 40, .inl (nF rc))), ((r 15), .inl (cI, 104, .inl (oF sr))), ((r 9), .inl (cZ, 40, .inl (bF mk))), ((r 7), .inl (cI, 40, .inl (oF an))), ((r 14), .inl (cI, 104, .inl (nF su))), ((r 19), .inl (cI, 120, .inl (nF cc))), ((r 20), .inl (cI, 3, .inl (nF lg))), ((r 21), .inl (cI, 3, .inl (nF ler))), ((r 22), .inl (cI, 3, .inl (oF lt))), ((r 23), .inl (cI, 3, .inl (oF sd))), ((r 24), .inl (cI, 3, .inl pl))] s.heap.size = A at hD ⊢
  have hA : ∀ q : Nat, s.heap.size ≤ q → A q := fun q h => by rw [← hAe]; exact Or.inr h
  have hS : va_S A s.heap s.heap [] := va_S.rf
  have hP : va_P (dC, dI) clsL [zR r cn mn mi nn, ((r 18), .inl (cZ, 3, .inl (bF dw))), ((r 1), .inl (cI, 40, .inl (oF bf))), ((r 2), .inl (cI, 40, .inl (nF rc))), ((r 15), .inl (cI, 104, .inl (oF sr))), ((r 9), .inl (cZ, 40, .inl (bF mk))), ((r 7), .inl (cI, 40, .inl (oF an))), ((r 14), .inl (cI, 104, .inl (nF su))), ((r 19), .inl (cI, 120, .inl (nF cc))), ((r 20), .inl (cI, 3, .inl (nF lg))), ((r 21), .inl (cI, 3, .inl (nF ler))), ((r 22), .inl (cI, 3, .inl (oF lt))), ((r 23), .inl (cI, 3, .inl (oF sd))), ((r 24), .inl (cI, 3, .inl pl))] s.heap := hP
  have hl := lv_entry ([.ref (r 0), .int (nI j)]) (n := 3) (Nat.le_of_ble_eq_true rfl)
  rw [lg_entry_eq]
  generalize (lg_sl ([.ref (r 0), .int (nI j)]) ++ List.replicate (3 - (lg_sl ([.ref (r 0), .int (nI j)])).length) Slot.unset).toArray = ls at hl ⊢
  have hl : lv_has ls 3 [(0, .ref (r 0)), (1, .int (nI j))] := hl
  refine lv_aload_n hx hb dc_R_learn_0 rfl (lv_at hl 0 rfl) ?_
  refine lv_iload_n hx hb dc_R_learn_1 rfl (lv_at hl 1 rfl) ?_
  refine cl_i (wc := [zR r cn mn mi nn, ((r 18), .inl (cZ, 3, .inl (bF dw)))]) (wr := [((r 1), .inl (cI, 40, .inl (oF bf))), ((r 2), .inl (cI, 40, .inl (nF rc))), ((r 15), .inl (cI, 104, .inl (oF sr))), ((r 9), .inl (cZ, 40, .inl (bF mk))), ((r 7), .inl (cI, 40, .inl (oF an))), ((r 14), .inl (cI, 104, .inl (nF su))), ((r 19), .inl (cI, 120, .inl (nF cc))), ((r 20), .inl (cI, 3, .inl (nF lg))), ((r 21), .inl (cI, 3, .inl (nF ler))), ((r 22), .inl (cI, 3, .inl (oF lt))), ((r 23), .inl (cI, 3, .inl (oF sd))), ((r 24), .inl (cI, 3, .inl pl))]) (w1 := [zR r cn mn mi nn, ((r 18), .inl (cZ, 3, .inl (bF dw)))]) hP hD hS hA [0, 1] [2, 3, 4, 5, 6, 7, 8, 9, 10, 11, 12, 13] rfl rfl (by decide) (by decide) (va_runV (As := [.int (nI j)]) (rest := []) ⟨hx, hb, hml, hown, htb⟩ (oc_R_isUp l dC dI cI cJ cZ cP _ r cn mn mi nn dw j (by first | assumption | omega)) (cwV 1 htb (gw_V kw_502 kw_504 kp_21 kw_5 kw_505) rfl rfl rfl (by decide +kernel) ⟨Nat.le_of_ble_eq_true rfl, Nat.le_of_ble_eq_true rfl⟩) (pr_V hP hK hD (va_recv hK hP (ci := 4) (q0 := 0) rfl rfl) [0, 1] (by decide) rfl rfl) rfl rfl hl.1 rfl (lv_room (Nat.le_of_ble_eq_true rfl)) dc_R_learn_2 ⟨Nat.le_of_ble_eq_true rfl, Nat.le_of_ble_eq_true rfl⟩) (fun H locs hP hD hS => ?_)
  have hP : va_P (dC, dI) clsL [zR r cn mn mi nn, ((r 18), .inl (cZ, 3, .inl (bF dw))), ((r 1), .inl (cI, 40, .inl (oF bf))), ((r 2), .inl (cI, 40, .inl (nF rc))), ((r 15), .inl (cI, 104, .inl (oF sr))), ((r 9), .inl (cZ, 40, .inl (bF mk))), ((r 7), .inl (cI, 40, .inl (oF an))), ((r 14), .inl (cI, 104, .inl (nF su))), ((r 19), .inl (cI, 120, .inl (nF cc))), ((r 20), .inl (cI, 3, .inl (nF lg))), ((r 21), .inl (cI, 3, .inl (nF ler))), ((r 22), .inl (cI, 3, .inl (oF lt))), ((r 23), .inl (cI, 3, .inl (oF sd))), ((r 24), .inl (cI, 3, .inl pl))] H := hP.sub (ws' := [zR r cn mn mi nn, ((r 18), .inl (cZ, 3, .inl (bF dw))), ((r 1), .inl (cI, 40, .inl (oF bf))), ((r 2), .inl (cI, 40, .inl (nF rc))), ((r 15), .inl (cI, 104, .inl (oF sr))), ((r 9), .inl (cZ, 40, .inl (bF mk))), ((r 7), .inl (cI, 40, .inl (oF an))), ((r 14), .inl (cI, 104, .inl (nF su))), ((r 19), .inl (cI, 120, .inl (nF cc))), ((r 20), .inl (cI, 3, .inl (nF lg))), ((r 21), .inl (cI, 3, .inl (nF ler))), ((r 22), .inl (cI, 3, .inl (oF lt))), ((r 23), .inl (cI, 3, .inl (oF sd))), ((r 24), .inl (cI, 3, .inl pl))]) [12, 13, 0, 1, 2, 3, 4, 5, 6, 7, 8, 9, 10, 11] rfl
  have hD : va_D A [zR r cn mn mi nn, ((r 18), .inl (cZ, 3, .inl (bF dw))), ((r 1), .inl (cI, 40, .inl (oF bf))), ((r 2), .inl (cI, 40, .inl (nF rc))), ((r 15), .inl (cI, 104, .inl (oF sr))), ((r 9), .inl (cZ, 40, .inl (bF mk))), ((r 7), .inl (cI, 40, .inl (oF an))), ((r 14), .inl (cI, 104, .inl (nF su))), ((r 19), .inl (cI, 120, .inl (nF cc))), ((r 20), .inl (cI, 3, .inl (nF lg))), ((r 21), .inl (cI, 3, .inl (nF ler))), ((r 22), .inl (cI, 3, .inl (oF lt))), ((r 23), .inl (cI, 3, .inl (oF sd))), ((r 24), .inl (cI, 3, .inl pl))] := hD.sub (ws' := [zR r cn mn mi nn, ((r 18), .inl (cZ, 3, .inl (bF dw))), ((r 1), .inl (cI, 40, .inl (oF bf))), ((r 2), .inl (cI, 40, .inl (nF rc))), ((r 15), .inl (cI, 104, .inl (oF sr))), ((r 9), .inl (cZ, 40, .inl (bF mk))), ((r 7), .inl (cI, 40, .inl (oF an))), ((r 14), .inl (cI, 104, .inl (nF su))), ((r 19), .inl (cI, 120, .inl (nF cc))), ((r 20), .inl (cI, 3, .inl (nF lg))), ((r 21), .inl (cI, 3, .inl (nF ler))), ((r 22), .inl (cI, 3, .inl (oF lt))), ((r 23), .inl (cI, 3, .inl (oF sd))), ((r 24), .inl (cI, 3, .inl pl))]) [12, 13, 0, 1, 2, 3, 4, 5, 6, 7, 8, 9, 10, 11] (by decide) rfl
  refine lv_if_eq (tgt := 21) hx hb dc_R_learn_5 (by decide) (fun hc => ?_) (fun hc => ?_)
  · have h1 : (!(dw j)) = false := bI_0.mp hc
    exact absurd h1 (by rw [hdw]; decide)
  have h1 : (!(dw j)) = true := bI_n0.mp hc
  refine lv_aload_n hx hb dc_R_learn_8 rfl (lv_at hl 0 rfl) ?_
  refine va_get (D := (dC, dI)) (ci := 4) (v := .ref (r 21)) (C := cn_R) (T := ft_R) (N := 27) hx hb htb ki_R hown hK hP 0 rfl rfl 21 (by decide) (htb _ kw_391) (fun _ h9 => h9) rfl dc_R_learn_9 ?_
  refine lv_iload_n hx hb dc_R_learn_12 rfl (lv_at hl 1 rfl) ?_
  refine wa_nld (k := j) hx hb hK hP 10 0 rfl rfl (by omega) (by omega) dc_R_learn_13 ?_
  refine tp_i (y := nI le) (by rw [hle]) ?_
  refine lv_aload_n hx hb dc_R_learn_14 rfl (lv_at hl 0 rfl) ?_
  refine va_get (D := (dC, dI)) (ci := 4) (v := .int (nI nn)) (C := cn_R) (T := ft_R) (N := 27) hx hb htb ki_R hown hK hP 0 rfl rfl 17 (by decide) (htb _ kw_387) (fun _ h9 => h9) rfl dc_R_learn_15 ?_
  refine lv_icmp_lt (tgt := 23) hx hb dc_R_learn_18 (by decide) (fun hc => ?_) (fun hc => ?_)
  rotate_left
  · have h2 : nn ≤ le := Nat.le_of_not_lt (fun h9 => hc ((nI_ltI (by omega) (by omega)).mpr h9))
    exact absurd h2 (by omega)
  have h2 : le < nn := (nI_ltI (by omega) (by omega)).mp hc
  refine lv_aload_n hx hb dc_R_learn_23 rfl (lv_at hl 0 rfl) ?_
  refine lv_iload_n hx hb dc_R_learn_24 rfl (lv_at hl 1 rfl) ?_
  refine cl_ix (wc := [zR r cn mn mi nn, ((r 1), .inl (cI, 40, .inl (oF bf))), ((r 2), .inl (cI, 40, .inl (nF rc))), ((r 15), .inl (cI, 104, .inl (oF sr))), ((r 9), .inl (cZ, 40, .inl (bF mk))), ((r 7), .inl (cI, 40, .inl (oF an))), ((r 14), .inl (cI, 104, .inl (nF su))), ((r 19), .inl (cI, 120, .inl (nF cc))), ((r 20), .inl (cI, 3, .inl (nF lg))), ((r 21), .inl (cI, 3, .inl (nF ler))), ((r 22), .inl (cI, 3, .inl (oF lt))), ((r 23), .inl (cI, 3, .inl (oF sd)))]) (wr := [((r 18), .inl (cZ, 3, .inl (bF dw))), ((r 24), .inl (cI, 3, .inl pl))]) (w2 := (fun (mkz_1 : Nat → Bool) => [zR r cn mn mi nn, ((r 1), .inl (cI, 40, .inl (oF bf))), ((r 2), .inl (cI, 40, .inl (nF rc))), ((r 15), .inl (cI, 104, .inl (oF sr))), ((r 9), .inl (cZ, 40, .inl (bF mkz_1))), ((r 7), .inl (cI, 40, .inl (oF an))), ((r 14), .inl (cI, 104, .inl (nF (gb_F su (fun i => rc (cc (40 * j + i))) (fun q => hi_B bf rc sr an (sr q) 0 (le + 1) cn) kp (n - kp))))), ((r 19), .inl (cI, 120, .inl (nF cc))), ((r 20), .inl (cI, 3, .inl (nF (va_up lg j kp)))), ((r 21), .inl (cI, 3, .inl (nF (va_up ler j (le + 1))))), ((r 22), .inl (cI, 3, .inl (oF (dr_L lt sd j kp)))), ((r 23), .inl (cI, 3, .inl (oF (dr_S lt sd j kp))))])) hP hD hS hA [0, 2, 3, 4, 5, 6, 7, 8, 9, 10, 11, 12] [1, 13] rfl rfl (by decide) (by decide) (va_runV (As := [.int (nI j)]) (rest := []) ⟨hx, hb, hml, hown, htb⟩ (oc_R_next l dC dI cI cJ cZ cP _ r cn mn mi nn bf rc sr mk an su cc lg ler lt sd j n le kp hj hlg hn hcc hle (by omega) hss hcn hbf hrc hsr hkp) (cwV 1 htb (gw_V kw_526 kw_528 kp_23 kw_5 kw_529) rfl rfl rfl (by decide +kernel) ⟨Nat.le_of_ble_eq_true rfl, Nat.le_of_ble_eq_true rfl⟩) (pr_V hP hK hD (va_recv hK hP (ci := 4) (q0 := 0) rfl rfl) [0, 2, 3, 4, 5, 6, 7, 8, 9, 10, 11, 12] (by decide) rfl rfl) rfl rfl hl.1 rfl (lv_room (Nat.le_of_ble_eq_true rfl)) dc_R_learn_25 ⟨Nat.le_of_ble_eq_true rfl, Nat.le_of_ble_eq_true rfl⟩) (fun mkz_1 H locs hP hD hS => ?_)
  have hP : va_P (dC, dI) clsL [zR r cn mn mi nn, ((r 18), .inl (cZ, 3, .inl (bF dw))), ((r 1), .inl (cI, 40, .inl (oF bf))), ((r 2), .inl (cI, 40, .inl (nF rc))), ((r 15), .inl (cI, 104, .inl (oF sr))), ((r 9), .inl (cZ, 40, .inl (bF mkz_1))), ((r 7), .inl (cI, 40, .inl (oF an))), ((r 14), .inl (cI, 104, .inl (nF (gb_F su (fun i => rc (cc (40 * j + i))) (fun q => hi_B bf rc sr an (sr q) 0 (le + 1) cn) kp (n - kp))))), ((r 19), .inl (cI, 120, .inl (nF cc))), ((r 20), .inl (cI, 3, .inl (nF (va_up lg j kp)))), ((r 21), .inl (cI, 3, .inl (nF (va_up ler j (le + 1))))), ((r 22), .inl (cI, 3, .inl (oF (dr_L lt sd j kp)))), ((r 23), .inl (cI, 3, .inl (oF (dr_S lt sd j kp)))), ((r 24), .inl (cI, 3, .inl pl))] H := hP.sub (ws' := [zR r cn mn mi nn, ((r 18), .inl (cZ, 3, .inl (bF dw))), ((r 1), .inl (cI, 40, .inl (oF bf))), ((r 2), .inl (cI, 40, .inl (nF rc))), ((r 15), .inl (cI, 104, .inl (oF sr))), ((r 9), .inl (cZ, 40, .inl (bF mkz_1))), ((r 7), .inl (cI, 40, .inl (oF an))), ((r 14), .inl (cI, 104, .inl (nF (gb_F su (fun i => rc (cc (40 * j + i))) (fun q => hi_B bf rc sr an (sr q) 0 (le + 1) cn) kp (n - kp))))), ((r 19), .inl (cI, 120, .inl (nF cc))), ((r 20), .inl (cI, 3, .inl (nF (va_up lg j kp)))), ((r 21), .inl (cI, 3, .inl (nF (va_up ler j (le + 1))))), ((r 22), .inl (cI, 3, .inl (oF (dr_L lt sd j kp)))), ((r 23), .inl (cI, 3, .inl (oF (dr_S lt sd j kp)))), ((r 24), .inl (cI, 3, .inl pl))]) [2, 0, 3, 4, 5, 6, 7, 8, 9, 10, 11, 12, 13, 1] rfl
  have hD : va_D A [zR r cn mn mi nn, ((r 18), .inl (cZ, 3, .inl (bF dw))), ((r 1), .inl (cI, 40, .inl (oF bf))), ((r 2), .inl (cI, 40, .inl (nF rc))), ((r 15), .inl (cI, 104, .inl (oF sr))), ((r 9), .inl (cZ, 40, .inl (bF mkz_1))), ((r 7), .inl (cI, 40, .inl (oF an))), ((r 14), .inl (cI, 104, .inl (nF (gb_F su (fun i => rc (cc (40 * j + i))) (fun q => hi_B bf rc sr an (sr q) 0 (le + 1) cn) kp (n - kp))))), ((r 19), .inl (cI, 120, .inl (nF cc))), ((r 20), .inl (cI, 3, .inl (nF (va_up lg j kp)))), ((r 21), .inl (cI, 3, .inl (nF (va_up ler j (le + 1))))), ((r 22), .inl (cI, 3, .inl (oF (dr_L lt sd j kp)))), ((r 23), .inl (cI, 3, .inl (oF (dr_S lt sd j kp)))), ((r 24), .inl (cI, 3, .inl pl))] := hD.sub (ws' := [zR r cn mn mi nn, ((r 18), .inl (cZ, 3, .inl (bF dw))), ((r 1), .inl (cI, 40, .inl (oF bf))), ((r 2), .inl (cI, 40, .inl (nF rc))), ((r 15), .inl (cI, 104, .inl (oF sr))), ((r 9), .inl (cZ, 40, .inl (bF mkz_1))), ((r 7), .inl (cI, 40, .inl (oF an))), ((r 14), .inl (cI, 104, .inl (nF (gb_F su (fun i => rc (cc (40 * j + i))) (fun q => hi_B bf rc sr an (sr q) 0 (le + 1) cn) kp (n - kp))))), ((r 19), .inl (cI, 120, .inl (nF cc))), ((r 20), .inl (cI, 3, .inl (nF (va_up lg j kp)))), ((r 21), .inl (cI, 3, .inl (nF (va_up ler j (le + 1))))), ((r 22), .inl (cI, 3, .inl (oF (dr_L lt sd j kp)))), ((r 23), .inl (cI, 3, .inl (oF (dr_S lt sd j kp)))), ((r 24), .inl (cI, 3, .inl pl))]) [2, 0, 3, 4, 5, 6, 7, 8, 9, 10, 11, 12, 13, 1] (by decide) rfl
  refine lv_istore_n (lv' := [(2, .int (nI (n - kp))), (0, .ref (r 0)), (1, .int (nI j))]) hx hb dc_R_learn_28 rfl hl (by decide) rfl (fun ls hl => ?_)
  refine lv_iload_n hx hb dc_R_learn_29 rfl (lv_at hl 0 rfl) ?_
  refine lv_if_le (tgt := 38) hx hb dc_R_learn_30 (by decide) (fun hc => ?_) (fun hc => ?_)
  · have h3 : (n - kp) = 0 := Nat.le_zero.mp ((nI_leI (b := 0) (by omega) (by omega)).mp hc)
    exact absurd h3 (by omega)
  have h3 : 0 < (n - kp) := Nat.pos_of_ne_zero (fun h9 => hc ((nI_leI (b := 0) (by omega) (by omega)).mpr (Nat.le_of_eq h9)))
  refine lv_aload_n hx hb dc_R_learn_33 rfl (lv_at hl 1 rfl) ?_
  refine lv_iload_n hx hb dc_R_learn_34 rfl (lv_at hl 2 rfl) ?_
  refine cl_v (wc := [zR r cn mn mi nn, ((r 20), .inl (cI, 3, .inl (nF (va_up lg j kp)))), ((r 22), .inl (cI, 3, .inl (oF (dr_L lt sd j kp)))), ((r 24), .inl (cI, 3, .inl pl))]) (wr := [((r 18), .inl (cZ, 3, .inl (bF dw))), ((r 1), .inl (cI, 40, .inl (oF bf))), ((r 2), .inl (cI, 40, .inl (nF rc))), ((r 15), .inl (cI, 104, .inl (oF sr))), ((r 9), .inl (cZ, 40, .inl (bF mkz_1))), ((r 7), .inl (cI, 40, .inl (oF an))), ((r 14), .inl (cI, 104, .inl (nF (gb_F su (fun i => rc (cc (40 * j + i))) (fun q => hi_B bf rc sr an (sr q) 0 (le + 1) cn) kp (n - kp))))), ((r 19), .inl (cI, 120, .inl (nF cc))), ((r 21), .inl (cI, 3, .inl (nF (va_up ler j (le + 1))))), ((r 23), .inl (cI, 3, .inl (oF (dr_S lt sd j kp))))]) (w1 := [zR r cn mn mi nn, ((r 20), .inl (cI, 3, .inl (nF (va_up lg j kp)))), ((r 22), .inl (cI, 3, .inl (oF (dr_L lt sd j kp)))), ((r 24), .inl (cI, 3, .inl (va_up pl j (rp_V (pl j) kp ((dr_L lt sd j kp) j)))))]) hP hD hS hA [0, 9, 11, 13] [1, 2, 3, 4, 5, 6, 7, 8, 10, 12] rfl rfl (by decide) (by decide) (va_runV (As := [.int (nI j)]) (rest := []) ⟨hx, hb, hml, hown, htb⟩ (oc_R_replay l dC dI cI cJ cZ cP _ r cn mn mi nn (va_up lg j kp) (dr_L lt sd j kp) pl j kp (by first | assumption | omega) (va_up_self _ _ _) (by omega) hlt2) (cwV 1 htb (gw_V kw_534 kw_536 kp_25 kw_5 kw_537) rfl rfl rfl (by decide +kernel) ⟨Nat.le_of_ble_eq_true rfl, Nat.le_of_ble_eq_true rfl⟩) (pr_V hP hK hD (va_recv hK hP (ci := 4) (q0 := 0) rfl rfl) [0, 9, 11, 13] (by decide) rfl rfl) rfl rfl hl.1 rfl (lv_room (Nat.le_of_ble_eq_true rfl)) dc_R_learn_35 ⟨Nat.le_of_ble_eq_true rfl, Nat.le_of_ble_eq_true rfl⟩) (fun H locs hP hD hS => ?_)
  have hP : va_P (dC, dI) clsL [zR r cn mn mi nn, ((r 18), .inl (cZ, 3, .inl (bF dw))), ((r 1), .inl (cI, 40, .inl (oF bf))), ((r 2), .inl (cI, 40, .inl (nF rc))), ((r 15), .inl (cI, 104, .inl (oF sr))), ((r 9), .inl (cZ, 40, .inl (bF mkz_1))), ((r 7), .inl (cI, 40, .inl (oF an))), ((r 14), .inl (cI, 104, .inl (nF (gb_F su (fun i => rc (cc (40 * j + i))) (fun q => hi_B bf rc sr an (sr q) 0 (le + 1) cn) kp (n - kp))))), ((r 19), .inl (cI, 120, .inl (nF cc))), ((r 20), .inl (cI, 3, .inl (nF (va_up lg j kp)))), ((r 21), .inl (cI, 3, .inl (nF (va_up ler j (le + 1))))), ((r 22), .inl (cI, 3, .inl (oF (dr_L lt sd j kp)))), ((r 23), .inl (cI, 3, .inl (oF (dr_S lt sd j kp)))), ((r 24), .inl (cI, 3, .inl (va_up pl j (rp_V (pl j) kp ((dr_L lt sd j kp) j)))))] H := hP.sub (ws' := [zR r cn mn mi nn, ((r 18), .inl (cZ, 3, .inl (bF dw))), ((r 1), .inl (cI, 40, .inl (oF bf))), ((r 2), .inl (cI, 40, .inl (nF rc))), ((r 15), .inl (cI, 104, .inl (oF sr))), ((r 9), .inl (cZ, 40, .inl (bF mkz_1))), ((r 7), .inl (cI, 40, .inl (oF an))), ((r 14), .inl (cI, 104, .inl (nF (gb_F su (fun i => rc (cc (40 * j + i))) (fun q => hi_B bf rc sr an (sr q) 0 (le + 1) cn) kp (n - kp))))), ((r 19), .inl (cI, 120, .inl (nF cc))), ((r 20), .inl (cI, 3, .inl (nF (va_up lg j kp)))), ((r 21), .inl (cI, 3, .inl (nF (va_up ler j (le + 1))))), ((r 22), .inl (cI, 3, .inl (oF (dr_L lt sd j kp)))), ((r 23), .inl (cI, 3, .inl (oF (dr_S lt sd j kp)))), ((r 24), .inl (cI, 3, .inl (va_up pl j (rp_V (pl j) kp ((dr_L lt sd j kp) j)))))]) [10, 0, 1, 2, 3, 4, 5, 6, 7, 11, 8, 12, 9, 13] rfl
  have hD : va_D A [zR r cn mn mi nn, ((r 18), .inl (cZ, 3, .inl (bF dw))), ((r 1), .inl (cI, 40, .inl (oF bf))), ((r 2), .inl (cI, 40, .inl (nF rc))), ((r 15), .inl (cI, 104, .inl (oF sr))), ((r 9), .inl (cZ, 40, .inl (bF mkz_1))), ((r 7), .inl (cI, 40, .inl (oF an))), ((r 14), .inl (cI, 104, .inl (nF (gb_F su (fun i => rc (cc (40 * j + i))) (fun q => hi_B bf rc sr an (sr q) 0 (le + 1) cn) kp (n - kp))))), ((r 19), .inl (cI, 120, .inl (nF cc))), ((r 20), .inl (cI, 3, .inl (nF (va_up lg j kp)))), ((r 21), .inl (cI, 3, .inl (nF (va_up ler j (le + 1))))), ((r 22), .inl (cI, 3, .inl (oF (dr_L lt sd j kp)))), ((r 23), .inl (cI, 3, .inl (oF (dr_S lt sd j kp)))), ((r 24), .inl (cI, 3, .inl (va_up pl j (rp_V (pl j) kp ((dr_L lt sd j kp) j)))))] := hD.sub (ws' := [zR r cn mn mi nn, ((r 18), .inl (cZ, 3, .inl (bF dw))), ((r 1), .inl (cI, 40, .inl (oF bf))), ((r 2), .inl (cI, 40, .inl (nF rc))), ((r 15), .inl (cI, 104, .inl (oF sr))), ((r 9), .inl (cZ, 40, .inl (bF mkz_1))), ((r 7), .inl (cI, 40, .inl (oF an))), ((r 14), .inl (cI, 104, .inl (nF (gb_F su (fun i => rc (cc (40 * j + i))) (fun q => hi_B bf rc sr an (sr q) 0 (le + 1) cn) kp (n - kp))))), ((r 19), .inl (cI, 120, .inl (nF cc))), ((r 20), .inl (cI, 3, .inl (nF (va_up lg j kp)))), ((r 21), .inl (cI, 3, .inl (nF (va_up ler j (le + 1))))), ((r 22), .inl (cI, 3, .inl (oF (dr_L lt sd j kp)))), ((r 23), .inl (cI, 3, .inl (oF (dr_S lt sd j kp)))), ((r 24), .inl (cI, 3, .inl (va_up pl j (rp_V (pl j) kp ((dr_L lt sd j kp) j)))))]) [10, 0, 1, 2, 3, 4, 5, 6, 7, 11, 8, 12, 9, 13] (by decide) rfl
  refine lv_iload_n hx hb dc_R_learn_38 rfl (lv_at hl 0 rfl) ?_
  have hP9 := hP.sub (ws' := [zR r cn mn mi nn, ((r 18), .inl (cZ, 3, .inl (bF dw))), ((r 1), .inl (cI, 40, .inl (oF bf))), ((r 2), .inl (cI, 40, .inl (nF rc))), ((r 15), .inl (cI, 104, .inl (oF sr))), ((r 9), .inl (cZ, 40, .inl (bF mkz_1))), ((r 7), .inl (cI, 40, .inl (oF an))), ((r 14), .inl (cI, 104, .inl (nF (gb_F su (fun i => rc (cc (40 * j + i))) (fun q => hi_B bf rc sr an (sr q) 0 (le + 1) cn) kp (n - kp))))), ((r 19), .inl (cI, 120, .inl (nF cc))), ((r 20), .inl (cI, 3, .inl (nF (va_up lg j kp)))), ((r 21), .inl (cI, 3, .inl (nF (va_up ler j (le + 1))))), ((r 22), .inl (cI, 3, .inl (oF (dr_L lt sd j kp)))), ((r 23), .inl (cI, 3, .inl (oF (dr_S lt sd j kp)))), ((r 24), .inl (cI, 3, .inl (va_up pl j (rp_V (pl j) kp ((dr_L lt sd j kp) j)))))]) [0, 1, 2, 3, 4, 5, 6, 7, 8, 9, 10, 11, 12, 13] rfl
  have hD9 := hD.sub (ws' := [zR r cn mn mi nn, ((r 18), .inl (cZ, 3, .inl (bF dw))), ((r 1), .inl (cI, 40, .inl (oF bf))), ((r 2), .inl (cI, 40, .inl (nF rc))), ((r 15), .inl (cI, 104, .inl (oF sr))), ((r 9), .inl (cZ, 40, .inl (bF mkz_1))), ((r 7), .inl (cI, 40, .inl (oF an))), ((r 14), .inl (cI, 104, .inl (nF (gb_F su (fun i => rc (cc (40 * j + i))) (fun q => hi_B bf rc sr an (sr q) 0 (le + 1) cn) kp (n - kp))))), ((r 19), .inl (cI, 120, .inl (nF cc))), ((r 20), .inl (cI, 3, .inl (nF (va_up lg j kp)))), ((r 21), .inl (cI, 3, .inl (nF (va_up ler j (le + 1))))), ((r 22), .inl (cI, 3, .inl (oF (dr_L lt sd j kp)))), ((r 23), .inl (cI, 3, .inl (oF (dr_S lt sd j kp)))), ((r 24), .inl (cI, 3, .inl (va_up pl j (rp_V (pl j) kp ((dr_L lt sd j kp) j)))))]) [0, 1, 2, 3, 4, 5, 6, 7, 8, 9, 10, 11, 12, 13] (by decide) rfl
  exact W.iret (v := nI (n - kp)) hx hb hr (fun t ht hW => ⟨⟨_, mkz_1, rfl, rfl, by rw [ht]; exact hP9, va_K.moved hW.alike hK, hD9⟩, hS.F ht⟩) hS.2.2 dc_R_learn_39

set_option maxHeartbeats 4000000 in
set_option maxRecDepth 100000 in
theorem oc_R_restart_no (l : Launch) (dC : Nat → ClassId) (dI : Nat → Nat → Nat) (cI cJ cZ cP : ClassId) (sz : Nat) (r : Nat → Nat) (cn : Nat) (mn : Nat) (mi : Nat) (nn : Nat) (y : Int32) (hy : y < 0 ∨ nI 3 ≤ y) : mt_I l mn_R_restart bc_R_restart 3 (some .int) ({ frames := 1, cells := 0, slots := 0, locals := 21 }) (dC, dI) (TYS cI cJ cZ cP) sz [.ref (r 0), .int y] [zR r cn mn mi nn] [zR r cn mn mi nn] ((-1)) 0 0 := by
  unfold mt_I
  refine Met.ofW (cc := bc_R_restart) (maxL := 3) (ret := (some .int)) (by decide) rfl ?_
  intro p e s m args below meth c s₁ B hml hv
  obtain ⟨rfl, hsz, hP, hK, hD0⟩ := hv
  have hx := B.exec
  have hb := B.bytes
  have hr := B.returns
  have hts := atoms_spec (ws := wsT mn_R_restart bc_R_restart 3 (some .int)) B.pre
  have htb : ∀ w ∈ gtbl, w.before _ s = true := fun w h => hts w (List.mem_cons_of_mem _ h)
  have hown : s.vm.findClass cn_R = some m.cls := findClass_of_methodNamed B.named
  have hlocks := B.notSynchronized
  subst hsz
  have hD := hD0.self (sz := s.heap.size)
  generalize hAe : va_A [zR r cn mn mi nn] s.heap.size = A at hD ⊢
  have hA : ∀ q : Nat, s.heap.size ≤ q → A q := fun q h => by rw [← hAe]; exact Or.inr h
  have hS : va_S A s.heap s.heap [] := va_S.rf
  have hP : va_P (dC, dI) clsL [zR r cn mn mi nn] s.heap := hP
  have hl := lv_entry ([.ref (r 0), .int y]) (n := 3) (Nat.le_of_ble_eq_true rfl)
  rw [lg_entry_eq]
  generalize (lg_sl ([.ref (r 0), .int y]) ++ List.replicate (3 - (lg_sl ([.ref (r 0), .int y])).length) Slot.unset).toArray = ls at hl ⊢
  have hl : lv_has ls 3 [(0, .ref (r 0)), (1, .int y)] := hl
  refine lv_aload_n hx hb dc_R_restart_0 rfl (lv_at hl 0 rfl) ?_
  refine lv_iload_n hx hb dc_R_restart_1 rfl (lv_at hl 1 rfl) ?_
  refine cl_i (wc := [zR r cn mn mi nn]) (wr := []) (w1 := [zR r cn mn mi nn]) hP hD hS hA [0] [] rfl rfl (by decide) (by decide) (va_runV (As := [.int y]) (rest := []) ⟨hx, hb, hml, hown, htb⟩ (oc_R_isProcess_no l dC dI cI cJ cZ cP _ r cn mn mi nn y (by first | assumption | omega)) (cwV 1 htb (gw_V kw_458 kw_460 kp_13 kw_5 kw_461) rfl rfl rfl (by decide +kernel) ⟨Nat.le_of_ble_eq_true rfl, Nat.le_of_ble_eq_true rfl⟩) (pr_V hP hK hD (va_recv hK hP (ci := 4) (q0 := 0) rfl rfl) [0] (by decide) rfl rfl) rfl rfl hl.1 rfl (lv_room (Nat.le_of_ble_eq_true rfl)) dc_R_restart_2 ⟨Nat.le_of_ble_eq_true rfl, Nat.le_of_ble_eq_true rfl⟩) (fun H locs hP hD hS => ?_)
  have hP : va_P (dC, dI) clsL [zR r cn mn mi nn] H := hP.sub (ws' := [zR r cn mn mi nn]) [0] rfl
  have hD : va_D A [zR r cn mn mi nn] := hD.sub (ws' := [zR r cn mn mi nn]) [0] (by decide) rfl
  refine lv_if_eq (tgt := 17) hx hb dc_R_restart_5 (by decide) (fun hc => ?_) (fun hc => ?_)
  rotate_left
  · have h1 : false = true := bI_n0.mp hc
    exact absurd h1 (by decide)
  have h1 : false = false := bI_0.mp hc
  refine lv_iconst (v := (-1)) hx hb dc_R_restart_17 (by decide) ?_
  have hP9 := hP.sub (ws' := [zR r cn mn mi nn]) [0] rfl
  have hD9 := hD.sub (ws' := [zR r cn mn mi nn]) [0] (by decide) rfl
  exact W.iret (v := (-1)) hx hb hr (fun t ht hW => ⟨⟨_, (), rfl, rfl, by rw [ht]; exact hP9, va_K.moved hW.alike hK, hD9⟩, hS.F ht⟩) hS.2.2 dc_R_restart_18

set_option maxHeartbeats 4000000 in
set_option maxRecDepth 100000 in
theorem oc_R_restart_up (l : Launch) (dC : Nat → ClassId) (dI : Nat → Nat → Nat) (cI cJ cZ cP : ClassId) (sz : Nat) (r : Nat → Nat) (cn : Nat) (mn : Nat) (mi : Nat) (nn : Nat) (dw : Nat → Bool) (j : Nat) (hj : j < 3) (hdw : dw j = false) : mt_I l mn_R_restart bc_R_restart 3 (some .int) ({ frames := 1, cells := 0, slots := 0, locals := 21 }) (dC, dI) (TYS cI cJ cZ cP) sz [.ref (r 0), .int (nI j)] [zR r cn mn mi nn, ((r 18), .inl (cZ, 3, .inl (bF dw)))] [zR r cn mn mi nn, ((r 18), .inl (cZ, 3, .inl (bF dw)))] ((-1)) 0 0 := by
  unfold mt_I
  refine Met.ofW (cc := bc_R_restart) (maxL := 3) (ret := (some .int)) (by decide) rfl ?_
  intro p e s m args below meth c s₁ B hml hv
  obtain ⟨rfl, hsz, hP, hK, hD0⟩ := hv
  have hx := B.exec
  have hb := B.bytes
  have hr := B.returns
  have hts := atoms_spec (ws := wsT mn_R_restart bc_R_restart 3 (some .int)) B.pre
  have htb : ∀ w ∈ gtbl, w.before _ s = true := fun w h => hts w (List.mem_cons_of_mem _ h)
  have hown : s.vm.findClass cn_R = some m.cls := findClass_of_methodNamed B.named
  have hlocks := B.notSynchronized
  subst hsz
  have hD := hD0.self (sz := s.heap.size)
  generalize hAe : va_A [zR r cn mn mi nn, ((r 18), .inl (cZ, 3, .inl (bF dw)))] s.heap.size = A at hD ⊢
  have hA : ∀ q : Nat, s.heap.size ≤ q → A q := fun q h => by rw [← hAe]; exact Or.inr h
  have hS : va_S A s.heap s.heap [] := va_S.rf
  have hP : va_P (dC, dI) clsL [zR r cn mn mi nn, ((r 18), .inl (cZ, 3, .inl (bF dw)))] s.heap := hP
  have hl := lv_entry ([.ref (r 0), .int (nI j)]) (n := 3) (Nat.le_of_ble_eq_true rfl)
  rw [lg_entry_eq]
  generalize (lg_sl ([.ref (r 0), .int (nI j)]) ++ List.replicate (3 - (lg_sl ([.ref (r 0), .int (nI j)])).length) Slot.unset).toArray = ls at hl ⊢
  have hl : lv_has ls 3 [(0, .ref (r 0)), (1, .int (nI j))] := hl
  refine lv_aload_n hx hb dc_R_restart_0 rfl (lv_at hl 0 rfl) ?_
  refine lv_iload_n hx hb dc_R_restart_1 rfl (lv_at hl 1 rfl) ?_
  refine cl_i (wc := [zR r cn mn mi nn]) (wr := [((r 18), .inl (cZ, 3, .inl (bF dw)))]) (w1 := [zR r cn mn mi nn]) hP hD hS hA [0] [1] rfl rfl (by decide) (by decide) (va_runV (As := [.int (nI j)]) (rest := []) ⟨hx, hb, hml, hown, htb⟩ (oc_R_isProcess l dC dI cI cJ cZ cP _ r cn mn mi nn j (by first | assumption | omega)) (cwV 1 htb (gw_V kw_458 kw_460 kp_13 kw_5 kw_461) rfl rfl rfl (by decide +kernel) ⟨Nat.le_of_ble_eq_true rfl, Nat.le_of_ble_eq_true rfl⟩) (pr_V hP hK hD (va_recv hK hP (ci := 4) (q0 := 0) rfl rfl) [0] (by decide) rfl rfl) rfl rfl hl.1 rfl (lv_room (Nat.le_of_ble_eq_true rfl)) dc_R_restart_2 ⟨Nat.le_of_ble_eq_true rfl, Nat.le_of_ble_eq_true rfl⟩) (fun H locs hP hD hS => ?_)
  have hP : va_P (dC, dI) clsL [zR r cn mn mi nn, ((r 18), .inl (cZ, 3, .inl (bF dw)))] H := hP.sub (ws' := [zR r cn mn mi nn, ((r 18), .inl (cZ, 3, .inl (bF dw)))]) [1, 0] rfl
  have hD : va_D A [zR r cn mn mi nn, ((r 18), .inl (cZ, 3, .inl (bF dw)))] := hD.sub (ws' := [zR r cn mn mi nn, ((r 18), .inl (cZ, 3, .inl (bF dw)))]) [1, 0] (by decide) rfl
  refine lv_if_eq (tgt := 17) hx hb dc_R_restart_5 (by decide) (fun hc => ?_) (fun hc => ?_)
  · have h1 : true = false := bI_0.mp hc
    exact absurd h1 (by decide)
  have h1 : true = true := bI_n0.mp hc
  refine lv_aload_n hx hb dc_R_restart_8 rfl (lv_at hl 0 rfl) ?_
  refine va_get (D := (dC, dI)) (ci := 4) (v := .ref (r 18)) (C := cn_R) (T := ft_R) (N := 27) hx hb htb ki_R hown hK hP 0 rfl rfl 18 (by decide) (htb _ kw_388) (fun _ h9 => h9) rfl dc_R_restart_9 ?_
  refine lv_iload_n hx hb dc_R_restart_12 rfl (lv_at hl 1 rfl) ?_
  refine wa_bld (k := j) hx hb hK hP 1 2 rfl rfl (by omega) (by omega) dc_R_restart_13 ?_
  refine lv_if_ne (tgt := 19) hx hb dc_R_restart_14 (by decide) (fun hc => ?_) (fun hc => ?_)
  · have h2 : dw j = true := bI_n0.mp hc
    rw [hdw] at h2; exact absurd h2 (by decide)
  have h2 : dw j = false := bI_0.mp hc
  refine lv_iconst (v := (-1)) hx hb dc_R_restart_17 (by decide) ?_
  have hP9 := hP.sub (ws' := [zR r cn mn mi nn, ((r 18), .inl (cZ, 3, .inl (bF dw)))]) [0, 1] rfl
  have hD9 := hD.sub (ws' := [zR r cn mn mi nn, ((r 18), .inl (cZ, 3, .inl (bF dw)))]) [0, 1] (by decide) rfl
  exact W.iret (v := (-1)) hx hb hr (fun t ht hW => ⟨⟨_, (), rfl, rfl, by rw [ht]; exact hP9, va_K.moved hW.alike hK, hD9⟩, hS.F ht⟩) hS.2.2 dc_R_restart_18

set_option maxHeartbeats 4000000 in
set_option maxRecDepth 100000 in
theorem oc_R_restart (l : Launch) (dC : Nat → ClassId) (dI : Nat → Nat → Nat) (cI cJ cZ cP : ClassId) (sz : Nat) (r : Nat → Nat) (cn : Nat) (mn : Nat) (mi : Nat) (nn : Nat) (dw : Nat → Bool) (fr : Nat → Nat) (bf : Nat → Option Nat) (rc : Nat → Nat) (sr : Nat → Option Nat) (mk : Nat → Bool) (an : Nat → Option Nat) (su : Nat → Nat) (cc : Nat → Nat) (lg : Nat → Nat) (ler : Nat → Nat) (lt : Nat → Option Nat) (sd : Nat → Option Nat) (pl : Nat → Int32) (j : Nat) (n : Nat) (le : Nat) (n2 : Nat) (lt2 : Nat → Option Nat) (sd2 : Nat → Option Nat) (su2 : Nat → Nat) (hj : j < 3) (hdw : dw j = true) (hnn : nn < 2 ^ 30) (hlg : lg j = n) (hn : n ≤ 40) (hcc : ∀ i, i < n → cc (40 * j + i) < cn) (hle : ler j = le) (hln : le ≤ nn) (hss : ∀ i, i < n → ∀ q, sr (rc (cc (40 * j + i))) = some q → q < cn) (hfr : ∀ k, k < cn → fr k < 4) (hcn : cn ≤ 40) (hbf : ∀ k, k < cn → ∀ i, bf k = some i → i < 40) (hrc : ∀ k, k < cn → rc k < 104) (hsr : ∀ k, k < cn → ∀ i, sr (rc k) = some i → i < 40) (hq : it_S (nx_S bf rc sr (ra_F an fr j nn cn) cc j cn) (nn + 1 - le) (n, le, lt, sd, su) = (n2, nn + 1, lt2, sd2, su2)) (hlt2 : ∀ i, lt2 j = some i → i < 2 ^ 31) : mt_Ix l mn_R_restart bc_R_restart 3 (some .int) ({ frames := 3, cells := 0, slots := 0, locals := 74 }) (dC, dI) (TYS cI cJ cZ cP) sz [.ref (r 0), .int (nI j)] [zR r cn mn mi nn, ((r 18), .inl (cZ, 3, .inl (bF dw))), ((r 6), .inl (cI, 40, .inl (nF fr))), ((r 1), .inl (cI, 40, .inl (oF bf))), ((r 2), .inl (cI, 40, .inl (nF rc))), ((r 15), .inl (cI, 104, .inl (oF sr))), ((r 9), .inl (cZ, 40, .inl (bF mk))), ((r 7), .inl (cI, 40, .inl (oF an))), ((r 14), .inl (cI, 104, .inl (nF su))), ((r 19), .inl (cI, 120, .inl (nF cc))), ((r 20), .inl (cI, 3, .inl (nF lg))), ((r 21), .inl (cI, 3, .inl (nF ler))), ((r 22), .inl (cI, 3, .inl (oF lt))), ((r 23), .inl (cI, 3, .inl (oF sd))), ((r 24), .inl (cI, 3, .inl pl))] (fun (mkz : Nat → Bool) => [zR r cn mn mi (nn + 1), ((r 18), .inl (cZ, 3, .inl (bF (va_up dw j false)))), ((r 6), .inl (cI, 40, .inl (nF (rf_F fr j cn)))), ((r 1), .inl (cI, 40, .inl (oF bf))), ((r 2), .inl (cI, 40, .inl (nF rc))), ((r 15), .inl (cI, 104, .inl (oF sr))), ((r 9), .inl (cZ, 40, .inl (bF mkz))), ((r 7), .inl (cI, 40, .inl (oF (ra_F an fr j nn cn)))), ((r 14), .inl (cI, 104, .inl (nF su2))), ((r 19), .inl (cI, 120, .inl (nF cc))), ((r 20), .inl (cI, 3, .inl (nF (va_up lg j n2)))), ((r 21), .inl (cI, 3, .inl (nF (va_up ler j (nn + 1))))), ((r 22), .inl (cI, 3, .inl (oF lt2))), ((r 23), .inl (cI, 3, .inl (oF sd2))), ((r 24), .inl (cI, 3, .inl (va_up pl j (rp_V (pl j) n2 (lt2 j)))))]) (nI n2) 0 0 := by
  unfold mt_Ix
  refine Met.ofW (cc := bc_R_restart) (maxL := 3) (ret := (some .int)) (by decide) rfl ?_
  intro p e s m args below meth c s₁ B hml hv
  obtain ⟨rfl, hsz, hP, hK, hD0⟩ := hv
  have hx := B.exec
  have hb := B.bytes
  have hr := B.returns
  have hts := atoms_spec (ws := wsT mn_R_restart bc_R_restart 3 (some .int)) B.pre
  have htb : ∀ w ∈ gtbl, w.before _ s = true := fun w h => hts w (List.mem_cons_of_mem _ h)
  have hown : s.vm.findClass cn_R = some m.cls := findClass_of_methodNamed B.named
  have hlocks := B.notSynchronized
  subst hsz
  have hD := hD0.self (sz := s.heap.size)
  generalize hAe : va_A [zR r cn mn mi nn, ((r 18), .inl (cZ, 3, .inl (bF dw))), ((r 6), .inl (cI, 40, .inl (nF fr))), ((r 1), .inl (cI, 40, .inl (oF bf))), ((r 2), .inl (cI, 40, .inl (nF rc))), ((r 15), .inl (cI, 104, .inl (oF sr))), ((r 9), .inl (cZ, 40, .inl (bF mk))), ((r 7), .inl (cI, 40, .inl (oF an))), ((r 14), .inl (cI, 104, .inl (nF su))), ((r 19), .inl (cI, 120, .inl (nF cc))), ((r 20), .inl (cI, 3, .inl (nF lg))), ((r 21), .inl (cI, 3, .inl (nF ler))), ((r 22), .inl (cI, 3, .inl (oF lt))), ((r 23), .inl (cI, 3, .inl (oF sd))), ((r 24), .inl (cI, 3, .inl pl))] s.heap.size = A at hD ⊢
  have hA : ∀ q : Nat, s.heap.size ≤ q → A q := fun q h => by rw [← hAe]; exact Or.inr h
  have hS : va_S A s.heap s.heap [] := va_S.rf
  have hP : va_P (dC, dI) clsL [zR r cn mn mi nn, ((r 18), .inl (cZ, 3, .inl (bF dw))), ((r 6), .inl (cI, 40, .inl (nF fr))), ((r 1), .inl (cI, 40, .inl (oF bf))), ((r 2), .inl (cI, 40, .inl (nF rc))), ((r 15), .inl (cI, 104, .inl (oF sr))), ((r 9), .inl (cZ, 40, .inl (bF mk))), ((r 7), .inl (cI, 40, .inl (oF an))), ((r 14), .inl (cI, 104, .inl (nF su))), ((r 19), .inl (cI, 120, .inl (nF cc))), ((r 20), .inl (cI, 3, .inl (nF lg))), ((r 21), .inl (cI, 3, .inl (nF ler))), ((r 22), .inl (cI, 3, .inl (oF lt))), ((r 23), .inl (cI, 3, .inl (oF sd))), ((r 24), .inl (cI, 3, .inl pl))] s.heap := hP
  have hl := lv_entry ([.ref (r 0), .int (nI j)]) (n := 3) (Nat.le_of_ble_eq_true rfl)
  rw [lg_entry_eq]
  generalize (lg_sl ([.ref (r 0), .int (nI j)]) ++ List.replicate (3 - (lg_sl ([.ref (r 0), .int (nI j)])).length) Slot.unset).toArray = ls at hl ⊢
  have hl : lv_has ls 3 [(0, .ref (r 0)), (1, .int (nI j))] := hl
  refine lv_aload_n hx hb dc_R_restart_0 rfl (lv_at hl 0 rfl) ?_
  refine lv_iload_n hx hb dc_R_restart_1 rfl (lv_at hl 1 rfl) ?_
  refine cl_i (wc := [zR r cn mn mi nn]) (wr := [((r 18), .inl (cZ, 3, .inl (bF dw))), ((r 6), .inl (cI, 40, .inl (nF fr))), ((r 1), .inl (cI, 40, .inl (oF bf))), ((r 2), .inl (cI, 40, .inl (nF rc))), ((r 15), .inl (cI, 104, .inl (oF sr))), ((r 9), .inl (cZ, 40, .inl (bF mk))), ((r 7), .inl (cI, 40, .inl (oF an))), ((r 14), .inl (cI, 104, .inl (nF su))), ((r 19), .inl (cI, 120, .inl (nF cc))), ((r 20), .inl (cI, 3, .inl (nF lg))), ((r 21), .inl (cI, 3, .inl (nF ler))), ((r 22), .inl (cI, 3, .inl (oF lt))), ((r 23), .inl (cI, 3, .inl (oF sd))), ((r 24), .inl (cI, 3, .inl pl))]) (w1 := [zR r cn mn mi nn]) hP hD hS hA [0] [1, 2, 3, 4, 5, 6, 7, 8, 9, 10, 11, 12, 13, 14] rfl rfl (by decide) (by decide) (va_runV (As := [.int (nI j)]) (rest := []) ⟨hx, hb, hml, hown, htb⟩ (oc_R_isProcess l dC dI cI cJ cZ cP _ r cn mn mi nn j (by first | assumption | omega)) (cwV 1 htb (gw_V kw_458 kw_460 kp_13 kw_5 kw_461) rfl rfl rfl (by decide +kernel) ⟨Nat.le_of_ble_eq_true rfl, Nat.le_of_ble_eq_true rfl⟩) (pr_V hP hK hD (va_recv hK hP (ci := 4) (q0 := 0) rfl rfl) [0] (by decide) rfl rfl) rfl rfl hl.1 rfl (lv_room (Nat.le_of_ble_eq_true rfl)) dc_R_restart_2 ⟨Nat.le_of_ble_eq_true rfl, Nat.le_of_ble_eq_true rfl⟩) (fun H locs hP hD hS => ?_)
  have hP : va_P (dC, dI) clsL [zR r cn mn mi nn, ((r 18), .inl (cZ, 3, .inl (bF dw))), ((r 6), .inl (cI, 40, .inl (nF fr))), ((r 1), .inl (cI, 40, .inl (oF bf))), ((r 2), .inl (cI, 40, .inl (nF rc))), ((r 15), .inl (cI, 104, .inl (oF sr))), ((r 9), .inl (cZ, 40, .inl (bF mk))), ((r 7), .inl (cI, 40, .inl (oF an))), ((r 14), .inl (cI, 104, .inl (nF su))), ((r 19), .inl (cI, 120, .inl (nF cc))), ((r 20), .inl (cI, 3, .inl (nF lg))), ((r 21), .inl (cI, 3, .inl (nF ler))), ((r 22), .inl (cI, 3, .inl (oF lt))), ((r 23), .inl (cI, 3, .inl (oF sd))), ((r 24), .inl (cI, 3, .inl pl))] H := hP.sub (ws' := [zR r cn mn mi nn, ((r 18), .inl (cZ, 3, .inl (bF dw))), ((r 6), .inl (cI, 40, .inl (nF fr))), ((r 1), .inl (cI, 40, .inl (oF bf))), ((r 2), .inl (cI, 40, .inl (nF rc))), ((r 15), .inl (cI, 104, .inl (oF sr))), ((r 9), .inl (cZ, 40, .inl (bF mk))), ((r 7), .inl (cI, 40, .inl (oF an))), ((r 14), .inl (cI, 104, .inl (nF su))), ((r 19), .inl (cI, 120, .inl (nF cc))), ((r 20), .inl (cI, 3, .inl (nF lg))), ((r 21), .inl (cI, 3, .inl (nF ler))), ((r 22), .inl (cI, 3, .inl (oF lt))), ((r 23), .inl (cI, 3, .inl (oF sd))), ((r 24), .inl (cI, 3, .inl pl))]) [14, 0, 1, 2, 3, 4, 5, 6, 7, 8, 9, 10, 11, 12, 13] rfl
  have hD : va_D A [zR r cn mn mi nn, ((r 18), .inl (cZ, 3, .inl (bF dw))), ((r 6), .inl (cI, 40, .inl (nF fr))), ((r 1), .inl (cI, 40, .inl (oF bf))), ((r 2), .inl (cI, 40, .inl (nF rc))), ((r 15), .inl (cI, 104, .inl (oF sr))), ((r 9), .inl (cZ, 40, .inl (bF mk))), ((r 7), .inl (cI, 40, .inl (oF an))), ((r 14), .inl (cI, 104, .inl (nF su))), ((r 19), .inl (cI, 120, .inl (nF cc))), ((r 20), .inl (cI, 3, .inl (nF lg))), ((r 21), .inl (cI, 3, .inl (nF ler))), ((r 22), .inl (cI, 3, .inl (oF lt))), ((r 23), .inl (cI, 3, .inl (oF sd))), ((r 24), .inl (cI, 3, .inl pl))] := hD.sub (ws' := [zR r cn mn mi nn, ((r 18), .inl (cZ, 3, .inl (bF dw))), ((r 6), .inl (cI, 40, .inl (nF fr))), ((r 1), .inl (cI, 40, .inl (oF bf))), ((r 2), .inl (cI, 40, .inl (nF rc))), ((r 15), .inl (cI, 104, .inl (oF sr))), ((r 9), .inl (cZ, 40, .inl (bF mk))), ((r 7), .inl (cI, 40, .inl (oF an))), ((r 14), .inl (cI, 104, .inl (nF su))), ((r 19), .inl (cI, 120, .inl (nF cc))), ((r 20), .inl (cI, 3, .inl (nF lg))), ((r 21), .inl (cI, 3, .inl (nF ler))), ((r 22), .inl (cI, 3, .inl (oF lt))), ((r 23), .inl (cI, 3, .inl (oF sd))), ((r 24), .inl (cI, 3, .inl pl))]) [14, 0, 1, 2, 3, 4, 5, 6, 7, 8, 9, 10, 11, 12, 13] (by decide) rfl
  refine lv_if_eq (tgt := 17) hx hb dc_R_restart_5 (by decide) (fun hc => ?_) (fun hc => ?_)
  · have h1 : true = false := bI_0.mp hc
    exact absurd h1 (by decide)
  have h1 : true = true := bI_n0.mp hc
  refine lv_aload_n hx hb dc_R_restart_8 rfl (lv_at hl 0 rfl) ?_
  refine va_get (D := (dC, dI)) (ci := 4) (v := .ref (r 18)) (C := cn_R) (T := ft_R) (N := 27) hx hb htb ki_R hown hK hP 0 rfl rfl 18 (by decide) (htb _ kw_388) (fun _ h9 => h9) rfl dc_R_restart_9 ?_
  refine lv_iload_n hx hb dc_R_restart_12 rfl (lv_at hl 1 rfl) ?_
  refine wa_bld (k := j) hx hb hK hP 1 2 rfl rfl (by omega) (by omega) dc_R_restart_13 ?_
  refine lv_if_ne (tgt := 19) hx hb dc_R_restart_14 (by decide) (fun hc => ?_) (fun hc => ?_)
  rotate_left
  · have h2 : dw j = false := bI_0.mp hc
    rw [hdw] at h2; exact absurd h2 (by decide)
  have h2 : dw j = true := bI_n0.mp hc
  refine lv_aload_n hx hb dc_R_restart_19 rfl (lv_at hl 0 rfl) ?_
  refine va_get (D := (dC, dI)) (ci := 4) (v := .ref (r 18)) (C := cn_R) (T := ft_R) (N := 27) hx hb htb ki_R hown hK hP 0 rfl rfl 18 (by decide) (htb _ kw_388) (fun _ h9 => h9) rfl dc_R_restart_20 ?_
  refine lv_iload_n hx hb dc_R_restart_23 rfl (lv_at hl 1 rfl) ?_
  refine lv_iconst (v := nI 0) hx hb dc_R_restart_24 (by decide) ?_
  refine tp_i (y := bI false) (rfl) ?_
  refine wa_bst (k := j) (x := false) hx hb hK hP hD hS 1 2 rfl rfl (by omega) (by omega) dc_R_restart_25 (fun H locs hP hD hS => ?_)
  have hP : va_P (dC, dI) clsL [zR r cn mn mi nn, ((r 18), .inl (cZ, 3, .inl (bF (va_up dw j false)))), ((r 6), .inl (cI, 40, .inl (nF fr))), ((r 1), .inl (cI, 40, .inl (oF bf))), ((r 2), .inl (cI, 40, .inl (nF rc))), ((r 15), .inl (cI, 104, .inl (oF sr))), ((r 9), .inl (cZ, 40, .inl (bF mk))), ((r 7), .inl (cI, 40, .inl (oF an))), ((r 14), .inl (cI, 104, .inl (nF su))), ((r 19), .inl (cI, 120, .inl (nF cc))), ((r 20), .inl (cI, 3, .inl (nF lg))), ((r 21), .inl (cI, 3, .inl (nF ler))), ((r 22), .inl (cI, 3, .inl (oF lt))), ((r 23), .inl (cI, 3, .inl (oF sd))), ((r 24), .inl (cI, 3, .inl pl))] H := hP
  have hD : va_D A [zR r cn mn mi nn, ((r 18), .inl (cZ, 3, .inl (bF (va_up dw j false)))), ((r 6), .inl (cI, 40, .inl (nF fr))), ((r 1), .inl (cI, 40, .inl (oF bf))), ((r 2), .inl (cI, 40, .inl (nF rc))), ((r 15), .inl (cI, 104, .inl (oF sr))), ((r 9), .inl (cZ, 40, .inl (bF mk))), ((r 7), .inl (cI, 40, .inl (oF an))), ((r 14), .inl (cI, 104, .inl (nF su))), ((r 19), .inl (cI, 120, .inl (nF cc))), ((r 20), .inl (cI, 3, .inl (nF lg))), ((r 21), .inl (cI, 3, .inl (nF ler))), ((r 22), .inl (cI, 3, .inl (oF lt))), ((r 23), .inl (cI, 3, .inl (oF sd))), ((r 24), .inl (cI, 3, .inl pl))] := hD
  refine lv_iconst (v := nI 0) hx hb dc_R_restart_26 (by decide) ?_
  refine lv_istore_n (lv' := [(2, .int (nI 0)), (0, .ref (r 0)), (1, .int (nI j))]) hx hb dc_R_restart_27 rfl hl (by decide) rfl (fun ls hl => ?_)
  refine wl_ 28 (fun (x : Nat × (Nat → Nat) × (Nat → Option Nat)) => cn - x.1) (fun (x : Nat × (Nat → Nat) × (Nat → Option Nat)) (H : Heap) (locs : List Loc) (ls : Array Slot) => (x.1 ≤ cn ∧ x.2.1 = rf_F fr j x.1 ∧ x.2.2 = ra_F an fr j nn x.1) ∧ va_P (dC, dI) clsL [zR r cn mn mi nn, ((r 18), .inl (cZ, 3, .inl (bF (va_up dw j false)))), ((r 6), .inl (cI, 40, .inl (nF x.2.1))), ((r 1), .inl (cI, 40, .inl (oF bf))), ((r 2), .inl (cI, 40, .inl (nF rc))), ((r 15), .inl (cI, 104, .inl (oF sr))), ((r 9), .inl (cZ, 40, .inl (bF mk))), ((r 7), .inl (cI, 40, .inl (oF x.2.2))), ((r 14), .inl (cI, 104, .inl (nF su))), ((r 19), .inl (cI, 120, .inl (nF cc))), ((r 20), .inl (cI, 3, .inl (nF lg))), ((r 21), .inl (cI, 3, .inl (nF ler))), ((r 22), .inl (cI, 3, .inl (oF lt))), ((r 23), .inl (cI, 3, .inl (oF sd))), ((r 24), .inl (cI, 3, .inl pl))] H ∧ va_D A [zR r cn mn mi nn, ((r 18), .inl (cZ, 3, .inl (bF (va_up dw j false)))), ((r 6), .inl (cI, 40, .inl (nF x.2.1))), ((r 1), .inl (cI, 40, .inl (oF bf))), ((r 2), .inl (cI, 40, .inl (nF rc))), ((r 15), .inl (cI, 104, .inl (oF sr))), ((r 9), .inl (cZ, 40, .inl (bF mk))), ((r 7), .inl (cI, 40, .inl (oF x.2.2))), ((r 14), .inl (cI, 104, .inl (nF su))), ((r 19), .inl (cI, 120, .inl (nF cc))), ((r 20), .inl (cI, 3, .inl (nF lg))), ((r 21), .inl (cI, 3, .inl (nF ler))), ((r 22), .inl (cI, 3, .inl (oF lt))), ((r 23), .inl (cI, 3, .inl (oF sd))), ((r 24), .inl (cI, 3, .inl pl))] ∧ va_S A s.heap H locs ∧ lv_has ls 3 [(2, .int (nI x.1)), (1, .int (nI j)), (0, .ref (r 0))]) ?_ (0, fr, an) _ _ _ ⟨⟨Nat.zero_le _, rfl, rfl⟩, hP, hD, hS, lv_sub hl [0, 2, 1] rfl⟩
  rintro ⟨k, f, g⟩ H locs ls ⟨hI, hP, hD, hS, hl⟩ ih28
  replace hI : k ≤ cn ∧ f = rf_F fr j k ∧ g = ra_F an fr j nn k := hI
  replace hP : va_P (dC, dI) clsL [zR r cn mn mi nn, ((r 18), .inl (cZ, 3, .inl (bF (va_up dw j false)))), ((r 6), .inl (cI, 40, .inl (nF f))), ((r 1), .inl (cI, 40, .inl (oF bf))), ((r 2), .inl (cI, 40, .inl (nF rc))), ((r 15), .inl (cI, 104, .inl (oF sr))), ((r 9), .inl (cZ, 40, .inl (bF mk))), ((r 7), .inl (cI, 40, .inl (oF g))), ((r 14), .inl (cI, 104, .inl (nF su))), ((r 19), .inl (cI, 120, .inl (nF cc))), ((r 20), .inl (cI, 3, .inl (nF lg))), ((r 21), .inl (cI, 3, .inl (nF ler))), ((r 22), .inl (cI, 3, .inl (oF lt))), ((r 23), .inl (cI, 3, .inl (oF sd))), ((r 24), .inl (cI, 3, .inl pl))] H := hP
  replace hD : va_D A [zR r cn mn mi nn, ((r 18), .inl (cZ, 3, .inl (bF (va_up dw j false)))), ((r 6), .inl (cI, 40, .inl (nF f))), ((r 1), .inl (cI, 40, .inl (oF bf))), ((r 2), .inl (cI, 40, .inl (nF rc))), ((r 15), .inl (cI, 104, .inl (oF sr))), ((r 9), .inl (cZ, 40, .inl (bF mk))), ((r 7), .inl (cI, 40, .inl (oF g))), ((r 14), .inl (cI, 104, .inl (nF su))), ((r 19), .inl (cI, 120, .inl (nF cc))), ((r 20), .inl (cI, 3, .inl (nF lg))), ((r 21), .inl (cI, 3, .inl (nF ler))), ((r 22), .inl (cI, 3, .inl (oF lt))), ((r 23), .inl (cI, 3, .inl (oF sd))), ((r 24), .inl (cI, 3, .inl pl))] := hD
  replace hl : lv_has ls 3 [(2, .int (nI k)), (1, .int (nI j)), (0, .ref (r 0))] := hl
  have hk1 := hI.1
  refine lv_iload_n hx hb dc_R_restart_28 rfl (lv_at hl 0 rfl) ?_
  refine lv_aload_n hx hb dc_R_restart_29 rfl (lv_at hl 2 rfl) ?_
  refine va_get (D := (dC, dI)) (ci := 4) (v := .int (nI cn)) (C := cn_R) (T := ft_R) (N := 27) hx hb htb ki_R hown hK hP 0 rfl rfl 0 (by decide) (htb _ kw_370) (fun _ h9 => h9) rfl dc_R_restart_30 ?_
  refine lv_icmp_ge (tgt := 69) hx hb dc_R_restart_33 (by decide) (fun hc => ?_) (fun hc => ?_)
  · have hk : cn ≤ k := (nI_leI (by omega) (by omega)).mp hc
    obtain rfl : cn = k := by omega
    obtain ⟨rfl, rfl⟩ : rf_F fr j cn = f ∧ ra_F an fr j nn cn = g := ⟨hI.2.1.symm, hI.2.2.symm⟩
    have hlg0 : lg = va_up lg j n := by rw [← hlg]; exact (va_up_eta lg j).symm
    have hle0 : ler = va_up ler j le := by rw [← hle]; exact (va_up_eta ler j).symm
    refine lv_aload_n hx hb dc_R_restart_69 rfl (lv_at hl 2 rfl) ?_
    refine lv_dup hx hb dc_R_restart_70 rfl ?_
    refine va_get (D := (dC, dI)) (ci := 4) (v := .int (nI nn)) (C := cn_R) (T := ft_R) (N := 27) hx hb htb ki_R hown hK hP 0 rfl rfl 17 (by decide) (htb _ kw_387) (fun _ h9 => h9) rfl dc_R_restart_71 ?_
    refine lv_iconst (v := nI 1) hx hb dc_R_restart_74 (by decide) ?_
    refine lv_iadd hx hb dc_R_restart_75 ?_
    refine tp_i (y := nI (nn + 1)) (nI_add _ _) ?_
    refine va_put (D := (dC, dI)) (ci := 4) (v := .int (nI (nn + 1))) (ty := .int) (C := cn_R) (T := ft_R) (N := 27) hx hb htb ki_R fy_R fy_R_ok nm_R_d hown hK hP hD hS 0 rfl rfl 17 (by decide) (htb _ kw_387) (fun _ h9 => h9) rfl (by decide +kernel) rfl rfl (Nat.le_of_ble_eq_true rfl) dc_R_restart_76 (fun H locs hP hD hS => ?_)
    have hP : va_P (dC, dI) clsL [zR r cn mn mi (nn + 1), ((r 18), .inl (cZ, 3, .inl (bF (va_up dw j false)))), ((r 6), .inl (cI, 40, .inl (nF (rf_F fr j cn)))), ((r 1), .inl (cI, 40, .inl (oF bf))), ((r 2), .inl (cI, 40, .inl (nF rc))), ((r 15), .inl (cI, 104, .inl (oF sr))), ((r 9), .inl (cZ, 40, .inl (bF mk))), ((r 7), .inl (cI, 40, .inl (oF (ra_F an fr j nn cn)))), ((r 14), .inl (cI, 104, .inl (nF su))), ((r 19), .inl (cI, 120, .inl (nF cc))), ((r 20), .inl (cI, 3, .inl (nF lg))), ((r 21), .inl (cI, 3, .inl (nF ler))), ((r 22), .inl (cI, 3, .inl (oF lt))), ((r 23), .inl (cI, 3, .inl (oF sd))), ((r 24), .inl (cI, 3, .inl pl))] H := hP
    have hD : va_D A [zR r cn mn mi (nn + 1), ((r 18), .inl (cZ, 3, .inl (bF (va_up dw j false)))), ((r 6), .inl (cI, 40, .inl (nF (rf_F fr j cn)))), ((r 1), .inl (cI, 40, .inl (oF bf))), ((r 2), .inl (cI, 40, .inl (nF rc))), ((r 15), .inl (cI, 104, .inl (oF sr))), ((r 9), .inl (cZ, 40, .inl (bF mk))), ((r 7), .inl (cI, 40, .inl (oF (ra_F an fr j nn cn)))), ((r 14), .inl (cI, 104, .inl (nF su))), ((r 19), .inl (cI, 120, .inl (nF cc))), ((r 20), .inl (cI, 3, .inl (nF lg))), ((r 21), .inl (cI, 3, .inl (nF ler))), ((r 22), .inl (cI, 3, .inl (oF lt))), ((r 23), .inl (cI, 3, .inl (oF sd))), ((r 24), .inl (cI, 3, .inl pl))] := hD
    refine lv_aload_n hx hb dc_R_restart_79 rfl (lv_at hl 2 rfl) ?_
    refine va_get (D := (dC, dI)) (ci := 4) (v := .ref (r 21)) (C := cn_R) (T := ft_R) (N := 27) hx hb htb ki_R hown hK hP 0 rfl rfl 21 (by decide) (htb _ kw_391) (fun _ h9 => h9) rfl dc_R_restart_80 ?_
    refine lv_iload_n hx hb dc_R_restart_83 rfl (lv_at hl 1 rfl) ?_
    refine wa_nld (k := j) hx hb hK hP 11 0 rfl rfl (by omega) (by omega) dc_R_restart_84 ?_
    refine tp_i (y := nI le) (by rw [hle]) ?_
    refine lv_istore_n (lv' := [(2, .int (nI le)), (1, .int (nI j)), (0, .ref (r 0))]) hx hb dc_R_restart_85 rfl hl (by decide) rfl (fun ls hl => ?_)
    refine wl_ 86 (fun (x : Nat × Nat × (Nat → Nat) × (Nat → Nat) × (Nat → Option Nat) × (Nat → Option Nat) × (Nat → Nat) × (Nat → Bool)) => nn + 1 - x.2.1) (fun (x : Nat × Nat × (Nat → Nat) × (Nat → Nat) × (Nat → Option Nat) × (Nat → Option Nat) × (Nat → Nat) × (Nat → Bool)) (H : Heap) (locs : List Loc) (ls : Array Slot) => ((x.1, x.2.1, x.2.2.2.2.1, x.2.2.2.2.2.1, x.2.2.2.2.2.2.1) = it_S (nx_S bf rc sr (ra_F an fr j nn cn) cc j cn) (x.2.1 - le) (n, le, lt, sd, su) ∧ le ≤ x.2.1 ∧ x.2.1 ≤ nn + 1 ∧ x.1 ≤ n ∧ x.2.2.1 = va_up lg j x.1 ∧ x.2.2.2.1 = va_up ler j x.2.1) ∧ va_P (dC, dI) clsL [zR r cn mn mi (nn + 1), ((r 18), .inl (cZ, 3, .inl (bF (va_up dw j false)))), ((r 6), .inl (cI, 40, .inl (nF (rf_F fr j cn)))), ((r 1), .inl (cI, 40, .inl (oF bf))), ((r 2), .inl (cI, 40, .inl (nF rc))), ((r 15), .inl (cI, 104, .inl (oF sr))), ((r 9), .inl (cZ, 40, .inl (bF x.2.2.2.2.2.2.2))), ((r 7), .inl (cI, 40, .inl (oF (ra_F an fr j nn cn)))), ((r 14), .inl (cI, 104, .inl (nF x.2.2.2.2.2.2.1))), ((r 19), .inl (cI, 120, .inl (nF cc))), ((r 20), .inl (cI, 3, .inl (nF x.2.2.1))), ((r 21), .inl (cI, 3, .inl (nF x.2.2.2.1))), ((r 22), .inl (cI, 3, .inl (oF x.2.2.2.2.1))), ((r 23), .inl (cI, 3, .inl (oF x.2.2.2.2.2.1))), ((r 24), .inl (cI, 3, .inl pl))] H ∧ va_D A [zR r cn mn mi (nn + 1), ((r 18), .inl (cZ, 3, .inl (bF (va_up dw j false)))), ((r 6), .inl (cI, 40, .inl (nF (rf_F fr j cn)))), ((r 1), .inl (cI, 40, .inl (oF bf))), ((r 2), .inl (cI, 40, .inl (nF rc))), ((r 15), .inl (cI, 104, .inl (oF sr))), ((r 9), .inl (cZ, 40, .inl (bF x.2.2.2.2.2.2.2))), ((r 7), .inl (cI, 40, .inl (oF (ra_F an fr j nn cn)))), ((r 14), .inl (cI, 104, .inl (nF x.2.2.2.2.2.2.1))), ((r 19), .inl (cI, 120, .inl (nF cc))), ((r 20), .inl (cI, 3, .inl (nF x.2.2.1))), ((r 21), .inl (cI, 3, .inl (nF x.2.2.2.1))), ((r 22), .inl (cI, 3, .inl (oF x.2.2.2.2.1))), ((r 23), .inl (cI, 3, .inl (oF x.2.2.2.2.2.1))), ((r 24), .inl (cI, 3, .inl pl))] ∧ va_S A s.heap H locs ∧ lv_has ls 3 [(2, .int (nI x.2.1)), (1, .int (nI j)), (0, .ref (r 0))]) ?_ (n, le, lg, ler, lt, sd, su, mk) _ _ _ ⟨⟨by rw [Nat.sub_self]; rfl, Nat.le_refl _, by first | omega | (dsimp only; omega), Nat.le_refl _, hlg0, hle0⟩, hP, hD, hS, lv_sub hl [0, 1, 2] rfl⟩
    rintro ⟨n3, le3, lgA, leA, lt3, sd3, su3, w⟩ H locs ls ⟨hI, hP, hD, hS, hl⟩ ih86
    replace hI : (n3, le3, lt3, sd3, su3) = it_S (nx_S bf rc sr (ra_F an fr j nn cn) cc j cn) (le3 - le) (n, le, lt, sd, su) ∧ le ≤ le3 ∧ le3 ≤ nn + 1 ∧ n3 ≤ n ∧ lgA = va_up lg j n3 ∧ leA = va_up ler j le3 := hI
    replace hP : va_P (dC, dI) clsL [zR r cn mn mi (nn + 1), ((r 18), .inl (cZ, 3, .inl (bF (va_up dw j false)))), ((r 6), .inl (cI, 40, .inl (nF (rf_F fr j cn)))), ((r 1), .inl (cI, 40, .inl (oF bf))), ((r 2), .inl (cI, 40, .inl (nF rc))), ((r 15), .inl (cI, 104, .inl (oF sr))), ((r 9), .inl (cZ, 40, .inl (bF w))), ((r 7), .inl (cI, 40, .inl (oF (ra_F an fr j nn cn)))), ((r 14), .inl (cI, 104, .inl (nF su3))), ((r 19), .inl (cI, 120, .inl (nF cc))), ((r 20), .inl (cI, 3, .inl (nF lgA))), ((r 21), .inl (cI, 3, .inl (nF leA))), ((r 22), .inl (cI, 3, .inl (oF lt3))), ((r 23), .inl (cI, 3, .inl (oF sd3))), ((r 24), .inl (cI, 3, .inl pl))] H := hP
    replace hD : va_D A [zR r cn mn mi (nn + 1), ((r 18), .inl (cZ, 3, .inl (bF (va_up dw j false)))), ((r 6), .inl (cI, 40, .inl (nF (rf_F fr j cn)))), ((r 1), .inl (cI, 40, .inl (oF bf))), ((r 2), .inl (cI, 40, .inl (nF rc))), ((r 15), .inl (cI, 104, .inl (oF sr))), ((r 9), .inl (cZ, 40, .inl (bF w))), ((r 7), .inl (cI, 40, .inl (oF (ra_F an fr j nn cn)))), ((r 14), .inl (cI, 104, .inl (nF su3))), ((r 19), .inl (cI, 120, .inl (nF cc))), ((r 20), .inl (cI, 3, .inl (nF lgA))), ((r 21), .inl (cI, 3, .inl (nF leA))), ((r 22), .inl (cI, 3, .inl (oF lt3))), ((r 23), .inl (cI, 3, .inl (oF sd3))), ((r 24), .inl (cI, 3, .inl pl))] := hD
    replace hl : lv_has ls 3 [(2, .int (nI le3)), (1, .int (nI j)), (0, .ref (r 0))] := hl
    have hI9 := hI
    have hk2 := hI9.2.1
    have hk3 := hI9.2.2.1
    have hk4 := hI9.2.2.2.1
    refine lv_iload_n hx hb dc_R_restart_86 rfl (lv_at hl 0 rfl) ?_
    refine lv_aload_n hx hb dc_R_restart_87 rfl (lv_at hl 2 rfl) ?_
    refine va_get (D := (dC, dI)) (ci := 4) (v := .int (nI (nn + 1))) (C := cn_R) (T := ft_R) (N := 27) hx hb htb ki_R hown hK hP 0 rfl rfl 17 (by decide) (htb _ kw_387) (fun _ h9 => h9) rfl dc_R_restart_88 ?_
    refine lv_icmp_ge (tgt := 106) hx hb dc_R_restart_91 (by decide) (fun hc => ?_) (fun hc => ?_)
    · have hk : (nn + 1) ≤ le3 := (nI_leI (by omega) (by omega)).mp hc
      obtain rfl : le3 = nn + 1 := by omega
      have hq9 := hI9.1.trans hq
      obtain ⟨rfl, rfl, rfl, rfl⟩ : n2 = n3 ∧ lt2 = lt3 ∧ sd2 = sd3 ∧ su2 = su3 := by simp only [Prod.mk.injEq] at hq9; obtain ⟨a1, -, a3, a4, a5⟩ := hq9; exact ⟨a1.symm, a3.symm, a4.symm, a5.symm⟩
      obtain ⟨rfl, rfl⟩ : va_up lg j n2 = lgA ∧ va_up ler j (nn + 1) = leA := ⟨hI9.2.2.2.2.1.symm, hI9.2.2.2.2.2.symm⟩
      refine lv_aload_n hx hb dc_R_restart_106 rfl (lv_at hl 2 rfl) ?_
      refine lv_iload_n hx hb dc_R_restart_107 rfl (lv_at hl 1 rfl) ?_
      refine cl_v (wc := [zR r cn mn mi (nn + 1), ((r 20), .inl (cI, 3, .inl (nF (va_up lg j n2)))), ((r 22), .inl (cI, 3, .inl (oF lt2))), ((r 24), .inl (cI, 3, .inl pl))]) (wr := [((r 18), .inl (cZ, 3, .inl (bF (va_up dw j false)))), ((r 6), .inl (cI, 40, .inl (nF (rf_F fr j cn)))), ((r 1), .inl (cI, 40, .inl (oF bf))), ((r 2), .inl (cI, 40, .inl (nF rc))), ((r 15), .inl (cI, 104, .inl (oF sr))), ((r 9), .inl (cZ, 40, .inl (bF w))), ((r 7), .inl (cI, 40, .inl (oF (ra_F an fr j nn cn)))), ((r 14), .inl (cI, 104, .inl (nF su2))), ((r 19), .inl (cI, 120, .inl (nF cc))), ((r 21), .inl (cI, 3, .inl (nF (va_up ler j (nn + 1))))), ((r 23), .inl (cI, 3, .inl (oF sd2)))]) (w1 := [zR r cn mn mi (nn + 1), ((r 20), .inl (cI, 3, .inl (nF (va_up lg j n2)))), ((r 22), .inl (cI, 3, .inl (oF lt2))), ((r 24), .inl (cI, 3, .inl (va_up pl j (rp_V (pl j) n2 (lt2 j)))))]) hP hD hS hA [0, 10, 12, 14] [1, 2, 3, 4, 5, 6, 7, 8, 9, 11, 13] rfl rfl (by decide) (by decide) (va_runV (As := [.int (nI j)]) (rest := []) ⟨hx, hb, hml, hown, htb⟩ (oc_R_replay l dC dI cI cJ cZ cP _ r cn mn mi (nn + 1) (va_up lg j n2) lt2 pl j n2 (by first | assumption | omega) (va_up_self _ _ _) (by omega) hlt2) (cwV 1 htb (gw_V kw_534 kw_536 kp_25 kw_5 kw_537) rfl rfl rfl (by decide +kernel) ⟨Nat.le_of_ble_eq_true rfl, Nat.le_of_ble_eq_true rfl⟩) (pr_V hP hK hD (va_recv hK hP (ci := 4) (q0 := 0) rfl rfl) [0, 10, 12, 14] (by decide) rfl rfl) rfl rfl hl.1 rfl (lv_room (Nat.le_of_ble_eq_true rfl)) dc_R_restart_108 ⟨Nat.le_of_ble_eq_true rfl, Nat.le_of_ble_eq_true rfl⟩) (fun H locs hP hD hS => ?_)
      have hP : va_P (dC, dI) clsL [zR r cn mn mi (nn + 1), ((r 18), .inl (cZ, 3, .inl (bF (va_up dw j false)))), ((r 6), .inl (cI, 40, .inl (nF (rf_F fr j cn)))), ((r 1), .inl (cI, 40, .inl (oF bf))), ((r 2), .inl (cI, 40, .inl (nF rc))), ((r 15), .inl (cI, 104, .inl (oF sr))), ((r 9), .inl (cZ, 40, .inl (bF w))), ((r 7), .inl (cI, 40, .inl (oF (ra_F an fr j nn cn)))), ((r 14), .inl (cI, 104, .inl (nF su2))), ((r 19), .inl (cI, 120, .inl (nF cc))), ((r 20), .inl (cI, 3, .inl (nF (va_up lg j n2)))), ((r 21), .inl (cI, 3, .inl (nF (va_up ler j (nn + 1))))), ((r 22), .inl (cI, 3, .inl (oF lt2))), ((r 23), .inl (cI, 3, .inl (oF sd2))), ((r 24), .inl (cI, 3, .inl (va_up pl j (rp_V (pl j) n2 (lt2 j)))))] H := hP.sub (ws' := [zR r cn mn mi (nn + 1), ((r 18), .inl (cZ, 3, .inl (bF (va_up dw j false)))), ((r 6), .inl (cI, 40, .inl (nF (rf_F fr j cn)))), ((r 1), .inl (cI, 40, .inl (oF bf))), ((r 2), .inl (cI, 40, .inl (nF rc))), ((r 15), .inl (cI, 104, .inl (oF sr))), ((r 9), .inl (cZ, 40, .inl (bF w))), ((r 7), .inl (cI, 40, .inl (oF (ra_F an fr j nn cn)))), ((r 14), .inl (cI, 104, .inl (nF su2))), ((r 19), .inl (cI, 120, .inl (nF cc))), ((r 20), .inl (cI, 3, .inl (nF (va_up lg j n2)))), ((r 21), .inl (cI, 3, .inl (nF (va_up ler j (nn + 1))))), ((r 22), .inl (cI, 3, .inl (oF lt2))), ((r 23), .inl (cI, 3, .inl (oF sd2))), ((r 24), .inl (cI, 3, .inl (va_up pl j (rp_V (pl j) n2 (lt2 j)))))]) [11, 0, 1, 2, 3, 4, 5, 6, 7, 8, 12, 9, 13, 10, 14] rfl
      have hD : va_D A [zR r cn mn mi (nn + 1), ((r 18), .inl (cZ, 3, .inl (bF (va_up dw j false)))), ((r 6), .inl (cI, 40, .inl (nF (rf_F fr j cn)))), ((r 1), .inl (cI, 40, .inl (oF bf))), ((r 2), .inl (cI, 40, .inl (nF rc))), ((r 15), .inl (cI, 104, .inl (oF sr))), ((r 9), .inl (cZ, 40, .inl (bF w))), ((r 7), .inl (cI, 40, .inl (oF (ra_F an fr j nn cn)))), ((r 14), .inl (cI, 104, .inl (nF su2))), ((r 19), .inl (cI, 120, .inl (nF cc))), ((r 20), .inl (cI, 3, .inl (nF (va_up lg j n2)))), ((r 21), .inl (cI, 3, .inl (nF (va_up ler j (nn + 1))))), ((r 22), .inl (cI, 3, .inl (oF lt2))), ((r 23), .inl (cI, 3, .inl (oF sd2))), ((r 24), .inl (cI, 3, .inl (va_up pl j (rp_V (pl j) n2 (lt2 j)))))] := hD.sub (ws' := [zR r cn mn mi (nn + 1), ((r 18), .inl (cZ, 3, .inl (bF (va_up dw j false)))), ((r 6), .inl (cI, 40, .inl (nF (rf_F fr j cn)))), ((r 1), .inl (cI, 40, .inl (oF bf))), ((r 2), .inl (cI, 40, .inl (nF rc))), ((r 15), .inl (cI, 104, .inl (oF sr))), ((r 9), .inl (cZ, 40, .inl (bF w))), ((r 7), .inl (cI, 40, .inl (oF (ra_F an fr j nn cn)))), ((r 14), .inl (cI, 104, .inl (nF su2))), ((r 19), .inl (cI, 120, .inl (nF cc))), ((r 20), .inl (cI, 3, .inl (nF (va_up lg j n2)))), ((r 21), .inl (cI, 3, .inl (nF (va_up ler j (nn + 1))))), ((r 22), .inl (cI, 3, .inl (oF lt2))), ((r 23), .inl (cI, 3, .inl (oF sd2))), ((r 24), .inl (cI, 3, .inl (va_up pl j (rp_V (pl j) n2 (lt2 j)))))]) [11, 0, 1, 2, 3, 4, 5, 6, 7, 8, 12, 9, 13, 10, 14] (by decide) rfl
      refine lv_aload_n hx hb dc_R_restart_111 rfl (lv_at hl 2 rfl) ?_
      refine va_get (D := (dC, dI)) (ci := 4) (v := .ref (r 20)) (C := cn_R) (T := ft_R) (N := 27) hx hb htb ki_R hown hK hP 0 rfl rfl 20 (by decide) (htb _ kw_390) (fun _ h9 => h9) rfl dc_R_restart_112 ?_
      refine lv_iload_n hx hb dc_R_restart_115 rfl (lv_at hl 1 rfl) ?_
      refine wa_nld (k := j) hx hb hK hP 10 0 rfl rfl (by omega) (by omega) dc_R_restart_116 ?_
      refine tp_i (y := nI n2) (by rw [va_up_self]) ?_
      have hP9 := hP.sub (ws' := [zR r cn mn mi (nn + 1), ((r 18), .inl (cZ, 3, .inl (bF (va_up dw j false)))), ((r 6), .inl (cI, 40, .inl (nF (rf_F fr j cn)))), ((r 1), .inl (cI, 40, .inl (oF bf))), ((r 2), .inl (cI, 40, .inl (nF rc))), ((r 15), .inl (cI, 104, .inl (oF sr))), ((r 9), .inl (cZ, 40, .inl (bF w))), ((r 7), .inl (cI, 40, .inl (oF (ra_F an fr j nn cn)))), ((r 14), .inl (cI, 104, .inl (nF su2))), ((r 19), .inl (cI, 120, .inl (nF cc))), ((r 20), .inl (cI, 3, .inl (nF (va_up lg j n2)))), ((r 21), .inl (cI, 3, .inl (nF (va_up ler j (nn + 1))))), ((r 22), .inl (cI, 3, .inl (oF lt2))), ((r 23), .inl (cI, 3, .inl (oF sd2))), ((r 24), .inl (cI, 3, .inl (va_up pl j (rp_V (pl j) n2 (lt2 j)))))]) [0, 1, 2, 3, 4, 5, 6, 7, 8, 9, 10, 11, 12, 13, 14] rfl
      have hD9 := hD.sub (ws' := [zR r cn mn mi (nn + 1), ((r 18), .inl (cZ, 3, .inl (bF (va_up dw j false)))), ((r 6), .inl (cI, 40, .inl (nF (rf_F fr j cn)))), ((r 1), .inl (cI, 40, .inl (oF bf))), ((r 2), .inl (cI, 40, .inl (nF rc))), ((r 15), .inl (cI, 104, .inl (oF sr))), ((r 9), .inl (cZ, 40, .inl (bF w))), ((r 7), .inl (cI, 40, .inl (oF (ra_F an fr j nn cn)))), ((r 14), .inl (cI, 104, .inl (nF su2))), ((r 19), .inl (cI, 120, .inl (nF cc))), ((r 20), .inl (cI, 3, .inl (nF (va_up lg j n2)))), ((r 21), .inl (cI, 3, .inl (nF (va_up ler j (nn + 1))))), ((r 22), .inl (cI, 3, .inl (oF lt2))), ((r 23), .inl (cI, 3, .inl (oF sd2))), ((r 24), .inl (cI, 3, .inl (va_up pl j (rp_V (pl j) n2 (lt2 j)))))]) [0, 1, 2, 3, 4, 5, 6, 7, 8, 9, 10, 11, 12, 13, 14] (by decide) rfl
      exact W.iret (v := nI n2) hx hb hr (fun t ht hW => ⟨⟨_, w, rfl, rfl, by rw [ht]; exact hP9, va_K.moved hW.alike hK, hD9⟩, hS.F ht⟩) hS.2.2 dc_R_restart_117
    · have hk : le3 < (nn + 1) := Nat.lt_of_not_le (fun h9 => hc ((nI_leI (by omega) (by omega)).mpr h9))
      refine lv_aload_n hx hb dc_R_restart_94 rfl (lv_at hl 2 rfl) ?_
      refine lv_iload_n hx hb dc_R_restart_95 rfl (lv_at hl 1 rfl) ?_
      refine cl_ix (wc := [zR r cn mn mi (nn + 1), ((r 1), .inl (cI, 40, .inl (oF bf))), ((r 2), .inl (cI, 40, .inl (nF rc))), ((r 15), .inl (cI, 104, .inl (oF sr))), ((r 9), .inl (cZ, 40, .inl (bF w))), ((r 7), .inl (cI, 40, .inl (oF (ra_F an fr j nn cn)))), ((r 14), .inl (cI, 104, .inl (nF su3))), ((r 19), .inl (cI, 120, .inl (nF cc))), ((r 20), .inl (cI, 3, .inl (nF lgA))), ((r 21), .inl (cI, 3, .inl (nF leA))), ((r 22), .inl (cI, 3, .inl (oF lt3))), ((r 23), .inl (cI, 3, .inl (oF sd3)))]) (wr := [((r 18), .inl (cZ, 3, .inl (bF (va_up dw j false)))), ((r 6), .inl (cI, 40, .inl (nF (rf_F fr j cn)))), ((r 24), .inl (cI, 3, .inl pl))]) (w2 := (fun (mkz_1 : Nat → Bool) => [zR r cn mn mi (nn + 1), ((r 1), .inl (cI, 40, .inl (oF bf))), ((r 2), .inl (cI, 40, .inl (nF rc))), ((r 15), .inl (cI, 104, .inl (oF sr))), ((r 9), .inl (cZ, 40, .inl (bF mkz_1))), ((r 7), .inl (cI, 40, .inl (oF (ra_F an fr j nn cn)))), ((r 14), .inl (cI, 104, .inl (nF (gb_F su3 (fun i => rc (cc (40 * j + i))) (fun q => hi_B bf rc sr (ra_F an fr j nn cn) (sr q) 0 (le3 + 1) cn) (fo_N (fun i => hi_B bf rc sr (ra_F an fr j nn cn) (some (cc (40 * j + i))) le3 (le3 + 1) cn) n3 0) (n3 - (fo_N (fun i => hi_B bf rc sr (ra_F an fr j nn cn) (some (cc (40 * j + i))) le3 (le3 + 1) cn) n3 0)))))), ((r 19), .inl (cI, 120, .inl (nF cc))), ((r 20), .inl (cI, 3, .inl (nF (va_up lgA j (fo_N (fun i => hi_B bf rc sr (ra_F an fr j nn cn) (some (cc (40 * j + i))) le3 (le3 + 1) cn) n3 0))))), ((r 21), .inl (cI, 3, .inl (nF (va_up leA j (le3 + 1))))), ((r 22), .inl (cI, 3, .inl (oF (dr_L lt3 sd3 j (fo_N (fun i => hi_B bf rc sr (ra_F an fr j nn cn) (some (cc (40 * j + i))) le3 (le3 + 1) cn) n3 0))))), ((r 23), .inl (cI, 3, .inl (oF (dr_S lt3 sd3 j (fo_N (fun i => hi_B bf rc sr (ra_F an fr j nn cn) (some (cc (40 * j + i))) le3 (le3 + 1) cn) n3 0)))))])) hP hD hS hA [0, 3, 4, 5, 6, 7, 8, 9, 10, 11, 12, 13] [1, 2, 14] rfl rfl (by decide) (by decide) (va_runV (As := [.int (nI j)]) (rest := []) ⟨hx, hb, hml, hown, htb⟩ (oc_R_next l dC dI cI cJ cZ cP _ r cn mn mi (nn + 1) bf rc sr w (ra_F an fr j nn cn) su3 cc lgA leA lt3 sd3 j n3 le3 (fo_N (fun i => hi_B bf rc sr (ra_F an fr j nn cn) (some (cc (40 * j + i))) le3 (le3 + 1) cn) n3 0) hj (by rw [hI9.2.2.2.2.1, va_up_self]) (by omega) (fun i q => hcc i (by omega)) (by rw [hI9.2.2.2.2.2, va_up_self]) (by omega) (fun i q => hss i (by omega)) hcn hbf hrc hsr rfl) (cwV 1 htb (gw_V kw_526 kw_528 kp_23 kw_5 kw_529) rfl rfl rfl (by decide +kernel) ⟨Nat.le_of_ble_eq_true rfl, Nat.le_of_ble_eq_true rfl⟩) (pr_V hP hK hD (va_recv hK hP (ci := 4) (q0 := 0) rfl rfl) [0, 3, 4, 5, 6, 7, 8, 9, 10, 11, 12, 13] (by decide) rfl rfl) rfl rfl hl.1 rfl (lv_room (Nat.le_of_ble_eq_true rfl)) dc_R_restart_96 ⟨Nat.le_of_ble_eq_true rfl, Nat.le_of_ble_eq_true rfl⟩) (fun mkz_1 H locs hP hD hS => ?_)
      have hP : va_P (dC, dI) clsL [zR r cn mn mi (nn + 1), ((r 18), .inl (cZ, 3, .inl (bF (va_up dw j false)))), ((r 6), .inl (cI, 40, .inl (nF (rf_F fr j cn)))), ((r 1), .inl (cI, 40, .inl (oF bf))), ((r 2), .inl (cI, 40, .inl (nF rc))), ((r 15), .inl (cI, 104, .inl (oF sr))), ((r 9), .inl (cZ, 40, .inl (bF mkz_1))), ((r 7), .inl (cI, 40, .inl (oF (ra_F an fr j nn cn)))), ((r 14), .inl (cI, 104, .inl (nF (gb_F su3 (fun i => rc (cc (40 * j + i))) (fun q => hi_B bf rc sr (ra_F an fr j nn cn) (sr q) 0 (le3 + 1) cn) (fo_N (fun i => hi_B bf rc sr (ra_F an fr j nn cn) (some (cc (40 * j + i))) le3 (le3 + 1) cn) n3 0) (n3 - (fo_N (fun i => hi_B bf rc sr (ra_F an fr j nn cn) (some (cc (40 * j + i))) le3 (le3 + 1) cn) n3 0)))))), ((r 19), .inl (cI, 120, .inl (nF cc))), ((r 20), .inl (cI, 3, .inl (nF (va_up lgA j (fo_N (fun i => hi_B bf rc sr (ra_F an fr j nn cn) (some (cc (40 * j + i))) le3 (le3 + 1) cn) n3 0))))), ((r 21), .inl (cI, 3, .inl (nF (va_up leA j (le3 + 1))))), ((r 22), .inl (cI, 3, .inl (oF (dr_L lt3 sd3 j (fo_N (fun i => hi_B bf rc sr (ra_F an fr j nn cn) (some (cc (40 * j + i))) le3 (le3 + 1) cn) n3 0))))), ((r 23), .inl (cI, 3, .inl (oF (dr_S lt3 sd3 j (fo_N (fun i => hi_B bf rc sr (ra_F an fr j nn cn) (some (cc (40 * j + i))) le3 (le3 + 1) cn) n3 0))))), ((r 24), .inl (cI, 3, .inl pl))] H := hP.sub (ws' := [zR r cn mn mi (nn + 1), ((r 18), .inl (cZ, 3, .inl (bF (va_up dw j false)))), ((r 6), .inl (cI, 40, .inl (nF (rf_F fr j cn)))), ((r 1), .inl (cI, 40, .inl (oF bf))), ((r 2), .inl (cI, 40, .inl (nF rc))), ((r 15), .inl (cI, 104, .inl (oF sr))), ((r 9), .inl (cZ, 40, .inl (bF mkz_1))), ((r 7), .inl (cI, 40, .inl (oF (ra_F an fr j nn cn)))), ((r 14), .inl (cI, 104, .inl (nF (gb_F su3 (fun i => rc (cc (40 * j + i))) (fun q => hi_B bf rc sr (ra_F an fr j nn cn) (sr q) 0 (le3 + 1) cn) (fo_N (fun i => hi_B bf rc sr (ra_F an fr j nn cn) (some (cc (40 * j + i))) le3 (le3 + 1) cn) n3 0) (n3 - (fo_N (fun i => hi_B bf rc sr (ra_F an fr j nn cn) (some (cc (40 * j + i))) le3 (le3 + 1) cn) n3 0)))))), ((r 19), .inl (cI, 120, .inl (nF cc))), ((r 20), .inl (cI, 3, .inl (nF (va_up lgA j (fo_N (fun i => hi_B bf rc sr (ra_F an fr j nn cn) (some (cc (40 * j + i))) le3 (le3 + 1) cn) n3 0))))), ((r 21), .inl (cI, 3, .inl (nF (va_up leA j (le3 + 1))))), ((r 22), .inl (cI, 3, .inl (oF (dr_L lt3 sd3 j (fo_N (fun i => hi_B bf rc sr (ra_F an fr j nn cn) (some (cc (40 * j + i))) le3 (le3 + 1) cn) n3 0))))), ((r 23), .inl (cI, 3, .inl (oF (dr_S lt3 sd3 j (fo_N (fun i => hi_B bf rc sr (ra_F an fr j nn cn) (some (cc (40 * j + i))) le3 (le3 + 1) cn) n3 0))))), ((r 24), .inl (cI, 3, .inl pl))]) [3, 0, 1, 4, 5, 6, 7, 8, 9, 10, 11, 12, 13, 14, 2] rfl
      have hD : va_D A [zR r cn mn mi (nn + 1), ((r 18), .inl (cZ, 3, .inl (bF (va_up dw j false)))), ((r 6), .inl (cI, 40, .inl (nF (rf_F fr j cn)))), ((r 1), .inl (cI, 40, .inl (oF bf))), ((r 2), .inl (cI, 40, .inl (nF rc))), ((r 15), .inl (cI, 104, .inl (oF sr))), ((r 9), .inl (cZ, 40, .inl (bF mkz_1))), ((r 7), .inl (cI, 40, .inl (oF (ra_F an fr j nn cn)))), ((r 14), .inl (cI, 104, .inl (nF (gb_F su3 (fun i => rc (cc (40 * j + i))) (fun q => hi_B bf rc sr (ra_F an fr j nn cn) (sr q) 0 (le3 + 1) cn) (fo_N (fun i => hi_B bf rc sr (ra_F an fr j nn cn) (some (cc (40 * j + i))) le3 (le3 + 1) cn) n3 0) (n3 - (fo_N (fun i => hi_B bf rc sr (ra_F an fr j nn cn) (some (cc (40 * j + i))) le3 (le3 + 1) cn) n3 0)))))), ((r 19), .inl (cI, 120, .inl (nF cc))), ((r 20), .inl (cI, 3, .inl (nF (va_up lgA j (fo_N (fun i => hi_B bf rc sr (ra_F an fr j nn cn) (some (cc (40 * j + i))) le3 (le3 + 1) cn) n3 0))))), ((r 21), .inl (cI, 3, .inl (nF (va_up leA j (le3 + 1))))), ((r 22), .inl (cI, 3, .inl (oF (dr_L lt3 sd3 j (fo_N (fun i => hi_B bf rc sr (ra_F an fr j nn cn) (some (cc (40 * j + i))) le3 (le3 + 1) cn) n3 0))))), ((r 23), .inl (cI, 3, .inl (oF (dr_S lt3 sd3 j (fo_N (fun i => hi_B bf rc sr (ra_F an fr j nn cn) (some (cc (40 * j + i))) le3 (le3 + 1) cn) n3 0))))), ((r 24), .inl (cI, 3, .inl pl))] := hD.sub (ws' := [zR r cn mn mi (nn + 1), ((r 18), .inl (cZ, 3, .inl (bF (va_up dw j false)))), ((r 6), .inl (cI, 40, .inl (nF (rf_F fr j cn)))), ((r 1), .inl (cI, 40, .inl (oF bf))), ((r 2), .inl (cI, 40, .inl (nF rc))), ((r 15), .inl (cI, 104, .inl (oF sr))), ((r 9), .inl (cZ, 40, .inl (bF mkz_1))), ((r 7), .inl (cI, 40, .inl (oF (ra_F an fr j nn cn)))), ((r 14), .inl (cI, 104, .inl (nF (gb_F su3 (fun i => rc (cc (40 * j + i))) (fun q => hi_B bf rc sr (ra_F an fr j nn cn) (sr q) 0 (le3 + 1) cn) (fo_N (fun i => hi_B bf rc sr (ra_F an fr j nn cn) (some (cc (40 * j + i))) le3 (le3 + 1) cn) n3 0) (n3 - (fo_N (fun i => hi_B bf rc sr (ra_F an fr j nn cn) (some (cc (40 * j + i))) le3 (le3 + 1) cn) n3 0)))))), ((r 19), .inl (cI, 120, .inl (nF cc))), ((r 20), .inl (cI, 3, .inl (nF (va_up lgA j (fo_N (fun i => hi_B bf rc sr (ra_F an fr j nn cn) (some (cc (40 * j + i))) le3 (le3 + 1) cn) n3 0))))), ((r 21), .inl (cI, 3, .inl (nF (va_up leA j (le3 + 1))))), ((r 22), .inl (cI, 3, .inl (oF (dr_L lt3 sd3 j (fo_N (fun i => hi_B bf rc sr (ra_F an fr j nn cn) (some (cc (40 * j + i))) le3 (le3 + 1) cn) n3 0))))), ((r 23), .inl (cI, 3, .inl (oF (dr_S lt3 sd3 j (fo_N (fun i => hi_B bf rc sr (ra_F an fr j nn cn) (some (cc (40 * j + i))) le3 (le3 + 1) cn) n3 0))))), ((r 24), .inl (cI, 3, .inl pl))]) [3, 0, 1, 4, 5, 6, 7, 8, 9, 10, 11, 12, 13, 14, 2] (by decide) rfl
      refine lv_pop hx hb dc_R_restart_99 rfl ?_
      refine lv_iinc (k := 0) (v := nI (le3 + 1)) (lv' := [(2, .int (nI (le3 + 1))), (1, .int (nI j)), (0, .ref (r 0))]) hx hb dc_R_restart_100 hl rfl (nI_inc1 _) (by decide) rfl (fun ls hl => ?_)
      refine lv_goto (tgt := 86) hx hb dc_R_restart_103 (by decide) ?_
      exact ih86 ((fo_N (fun i => hi_B bf rc sr (ra_F an fr j nn cn) (some (cc (40 * j + i))) le3 (le3 + 1) cn) n3 0), le3 + 1, (va_up lgA j (fo_N (fun i => hi_B bf rc sr (ra_F an fr j nn cn) (some (cc (40 * j + i))) le3 (le3 + 1) cn) n3 0)), (va_up leA j (le3 + 1)), (dr_L lt3 sd3 j (fo_N (fun i => hi_B bf rc sr (ra_F an fr j nn cn) (some (cc (40 * j + i))) le3 (le3 + 1) cn) n3 0)), (dr_S lt3 sd3 j (fo_N (fun i => hi_B bf rc sr (ra_F an fr j nn cn) (some (cc (40 * j + i))) le3 (le3 + 1) cn) n3 0)), (gb_F su3 (fun i => rc (cc (40 * j + i))) (fun q => hi_B bf rc sr (ra_F an fr j nn cn) (sr q) 0 (le3 + 1) cn) (fo_N (fun i => hi_B bf rc sr (ra_F an fr j nn cn) (some (cc (40 * j + i))) le3 (le3 + 1) cn) n3 0) (n3 - (fo_N (fun i => hi_B bf rc sr (ra_F an fr j nn cn) (some (cc (40 * j + i))) le3 (le3 + 1) cn) n3 0))), mkz_1) H locs ls (by first | omega | (dsimp only; omega)) ⟨⟨by rw [show le3 + 1 - le = (le3 - le) + 1 by omega]; simp only [it_S]; rw [← hI9.1]; rfl, by first | omega | (dsimp only; omega), by first | omega | (dsimp only; omega), Nat.le_trans (fo_N_le0 _ _) hI9.2.2.2.1, by rw [hI9.2.2.2.2.1, bx_uu], by rw [hI9.2.2.2.2.2, bx_uu]⟩, hP, hD, hS, lv_sub hl [0, 1, 2] rfl⟩
  · have hk : k < cn := Nat.lt_of_not_le (fun h9 => hc ((nI_leI (by omega) (by omega)).mpr h9))
    have hfk : f k = fr k := by rw [hI.2.1]; exact rf_F_ge _ _ (Nat.le_refl _)
    have hf4 := hfr k hk
    refine lv_aload_n hx hb dc_R_restart_36 rfl (lv_at hl 2 rfl) ?_
    refine va_get (D := (dC, dI)) (ci := 4) (v := .ref (r 6)) (C := cn_R) (T := ft_R) (N := 27) hx hb htb ki_R hown hK hP 0 rfl rfl 6 (by decide) (htb _ kw_376) (fun _ h9 => h9) rfl dc_R_restart_37 ?_
    refine lv_iload_n hx hb dc_R_restart_40 rfl (lv_at hl 0 rfl) ?_
    refine wa_nld (k := k) hx hb hK hP 2 0 rfl rfl (by omega) (by omega) dc_R_restart_41 ?_
    refine tp_i (y := nI (fr k)) (by rw [hfk]) ?_
    refine lv_iload_n hx hb dc_R_restart_42 rfl (lv_at hl 1 rfl) ?_
    refine lv_icmp_ne (tgt := 63) hx hb dc_R_restart_43 (by decide) (fun hc => ?_) (fun hc => ?_)
    · have h3 : ¬ (fr k) = j := fun h9 => hc ((nI_eq (by omega) (by omega)).mpr h9)
      refine lv_iinc (k := 0) (v := nI (k + 1)) (lv' := [(2, .int (nI (k + 1))), (1, .int (nI j)), (0, .ref (r 0))]) hx hb dc_R_restart_63 hl rfl (nI_inc1 _) (by decide) rfl (fun ls hl => ?_)
      refine lv_goto (tgt := 28) hx hb dc_R_restart_66 (by decide) ?_
      exact ih28 (k + 1, f, g) H locs ls (by first | omega | (dsimp only; omega)) ⟨⟨by first | omega | (dsimp only; omega), by rw [hI.2.1]; simp [rf_F, h3], by rw [hI.2.2]; simp [ra_F, h3]⟩, hP, hD, hS, lv_sub hl [0, 1, 2] rfl⟩
    · have h3 : (fr k) = j := (nI_eq (by omega) (by omega)).mp hc
      refine lv_aload_n hx hb dc_R_restart_46 rfl (lv_at hl 2 rfl) ?_
      refine va_get (D := (dC, dI)) (ci := 4) (v := .ref (r 6)) (C := cn_R) (T := ft_R) (N := 27) hx hb htb ki_R hown hK hP 0 rfl rfl 6 (by decide) (htb _ kw_376) (fun _ h9 => h9) rfl dc_R_restart_47 ?_
      refine lv_iload_n hx hb dc_R_restart_50 rfl (lv_at hl 0 rfl) ?_
      refine lv_iconst (v := nI 3) hx hb dc_R_restart_51 (by decide) ?_
      refine wa_nst (k := k) (x := 3) hx hb hK hP hD hS 2 0 rfl rfl (by omega) (by omega) dc_R_restart_52 (fun H locs hP hD hS => ?_)
      have hP : va_P (dC, dI) clsL [zR r cn mn mi nn, ((r 18), .inl (cZ, 3, .inl (bF (va_up dw j false)))), ((r 6), .inl (cI, 40, .inl (nF (va_up f k 3)))), ((r 1), .inl (cI, 40, .inl (oF bf))), ((r 2), .inl (cI, 40, .inl (nF rc))), ((r 15), .inl (cI, 104, .inl (oF sr))), ((r 9), .inl (cZ, 40, .inl (bF mk))), ((r 7), .inl (cI, 40, .inl (oF g))), ((r 14), .inl (cI, 104, .inl (nF su))), ((r 19), .inl (cI, 120, .inl (nF cc))), ((r 20), .inl (cI, 3, .inl (nF lg))), ((r 21), .inl (cI, 3, .inl (nF ler))), ((r 22), .inl (cI, 3, .inl (oF lt))), ((r 23), .inl (cI, 3, .inl (oF sd))), ((r 24), .inl (cI, 3, .inl pl))] H := hP
      have hD : va_D A [zR r cn mn mi nn, ((r 18), .inl (cZ, 3, .inl (bF (va_up dw j false)))), ((r 6), .inl (cI, 40, .inl (nF (va_up f k 3)))), ((r 1), .inl (cI, 40, .inl (oF bf))), ((r 2), .inl (cI, 40, .inl (nF rc))), ((r 15), .inl (cI, 104, .inl (oF sr))), ((r 9), .inl (cZ, 40, .inl (bF mk))), ((r 7), .inl (cI, 40, .inl (oF g))), ((r 14), .inl (cI, 104, .inl (nF su))), ((r 19), .inl (cI, 120, .inl (nF cc))), ((r 20), .inl (cI, 3, .inl (nF lg))), ((r 21), .inl (cI, 3, .inl (nF ler))), ((r 22), .inl (cI, 3, .inl (oF lt))), ((r 23), .inl (cI, 3, .inl (oF sd))), ((r 24), .inl (cI, 3, .inl pl))] := hD
      refine lv_aload_n hx hb dc_R_restart_53 rfl (lv_at hl 2 rfl) ?_
      refine va_get (D := (dC, dI)) (ci := 4) (v := .ref (r 7)) (C := cn_R) (T := ft_R) (N := 27) hx hb htb ki_R hown hK hP 0 rfl rfl 7 (by decide) (htb _ kw_377) (fun _ h9 => h9) rfl dc_R_restart_54 ?_
      refine lv_iload_n hx hb dc_R_restart_57 rfl (lv_at hl 0 rfl) ?_
      refine lv_aload_n hx hb dc_R_restart_58 rfl (lv_at hl 2 rfl) ?_
      refine va_get (D := (dC, dI)) (ci := 4) (v := .int (nI nn)) (C := cn_R) (T := ft_R) (N := 27) hx hb htb ki_R hown hK hP 0 rfl rfl 17 (by decide) (htb _ kw_387) (fun _ h9 => h9) rfl dc_R_restart_59 ?_
      refine wa_ost (k := k) (x := (some nn)) hx hb hK hP hD hS 7 0 rfl rfl (by omega) (by omega) dc_R_restart_62 (fun H locs hP hD hS => ?_)
      have hP : va_P (dC, dI) clsL [zR r cn mn mi nn, ((r 18), .inl (cZ, 3, .inl (bF (va_up dw j false)))), ((r 6), .inl (cI, 40, .inl (nF (va_up f k 3)))), ((r 1), .inl (cI, 40, .inl (oF bf))), ((r 2), .inl (cI, 40, .inl (nF rc))), ((r 15), .inl (cI, 104, .inl (oF sr))), ((r 9), .inl (cZ, 40, .inl (bF mk))), ((r 7), .inl (cI, 40, .inl (oF (va_up g k (some nn))))), ((r 14), .inl (cI, 104, .inl (nF su))), ((r 19), .inl (cI, 120, .inl (nF cc))), ((r 20), .inl (cI, 3, .inl (nF lg))), ((r 21), .inl (cI, 3, .inl (nF ler))), ((r 22), .inl (cI, 3, .inl (oF lt))), ((r 23), .inl (cI, 3, .inl (oF sd))), ((r 24), .inl (cI, 3, .inl pl))] H := hP
      have hD : va_D A [zR r cn mn mi nn, ((r 18), .inl (cZ, 3, .inl (bF (va_up dw j false)))), ((r 6), .inl (cI, 40, .inl (nF (va_up f k 3)))), ((r 1), .inl (cI, 40, .inl (oF bf))), ((r 2), .inl (cI, 40, .inl (nF rc))), ((r 15), .inl (cI, 104, .inl (oF sr))), ((r 9), .inl (cZ, 40, .inl (bF mk))), ((r 7), .inl (cI, 40, .inl (oF (va_up g k (some nn))))), ((r 14), .inl (cI, 104, .inl (nF su))), ((r 19), .inl (cI, 120, .inl (nF cc))), ((r 20), .inl (cI, 3, .inl (nF lg))), ((r 21), .inl (cI, 3, .inl (nF ler))), ((r 22), .inl (cI, 3, .inl (oF lt))), ((r 23), .inl (cI, 3, .inl (oF sd))), ((r 24), .inl (cI, 3, .inl pl))] := hD
      refine lv_iinc (k := 0) (v := nI (k + 1)) (lv' := [(2, .int (nI (k + 1))), (1, .int (nI j)), (0, .ref (r 0))]) hx hb dc_R_restart_63 hl rfl (nI_inc1 _) (by decide) rfl (fun ls hl => ?_)
      refine lv_goto (tgt := 28) hx hb dc_R_restart_66 (by decide) ?_
      exact ih28 (k + 1, va_up f k 3, va_up g k (some nn)) H locs ls (by first | omega | (dsimp only; omega)) ⟨⟨by first | omega | (dsimp only; omega), by rw [hI.2.1]; simp [rf_F, h3], by rw [hI.2.2]; simp [ra_F, h3]⟩, hP, hD, hS, lv_sub hl [0, 1, 2] rfl⟩

set_option maxHeartbeats 4000000 in
set_option maxRecDepth 100000 in
theorem oc_R_release_no (l : Launch) (dC : Nat → ClassId) (dI : Nat → Nat → Nat) (cI cJ cZ cP : ClassId) (sz : Nat) (r : Nat → Nat) (cn : Nat) (mn : Nat) (mi : Nat) (nn : Nat) (y : Int32) (hy : y < 0 ∨ nI 3 ≤ y) : mt_I l mn_R_release bc_R_release 5 (some .int) ({ frames := 2, cells := 0, slots := 0, locals := 42 }) (dC, dI) (TYS cI cJ cZ cP) sz [.ref (r 0), .int y] [zR r cn mn mi nn] [zR r cn mn mi nn] ((-1)) 0 0 := by
  unfold mt_I
  refine Met.ofW (cc := bc_R_release) (maxL := 5) (ret := (some .int)) (by decide) rfl ?_
  intro p e s m args below meth c s₁ B hml hv
  obtain ⟨rfl, hsz, hP, hK, hD0⟩ := hv
  have hx := B.exec
  have hb := B.bytes
  have hr := B.returns
  have hts := atoms_spec (ws := wsT mn_R_release bc_R_release 5 (some .int)) B.pre
  have htb : ∀ w ∈ gtbl, w.before _ s = true := fun w h => hts w (List.mem_cons_of_mem _ h)
  have hown : s.vm.findClass cn_R = some m.cls := findClass_of_methodNamed B.named
  have hlocks := B.notSynchronized
  subst hsz
  have hD := hD0.self (sz := s.heap.size)
  generalize hAe : va_A [zR r cn mn mi nn] s.heap.size = A at hD ⊢
  have hA : ∀ q : Nat, s.heap.size ≤ q → A q := fun q h => by rw [← hAe]; exact Or.inr h
  have hS : va_S A s.heap s.heap [] := va_S.rf
  have hP : va_P (dC, dI) clsL [zR r cn mn mi nn] s.heap := hP
  have hl := lv_entry ([.ref (r 0), .int y]) (n := 5) (Nat.le_of_ble_eq_true rfl)
  rw [lg_entry_eq]
  generalize (lg_sl ([.ref (r 0), .int y]) ++ List.replicate (5 - (lg_sl ([.ref (r 0), .int y])).length) Slot.unset).toArray = ls at hl ⊢
  have hl : lv_has ls 5 [(0, .ref (r 0)), (1, .int y)] := hl
  refine lv_aload_n hx hb dc_R_release_0 rfl (lv_at hl 0 rfl) ?_
  refine lv_iload_n hx hb dc_R_release_1 rfl (lv_at hl 1 rfl) ?_
  refine cl_i (wc := [zR r cn mn mi nn]) (wr := []) (w1 := [zR r cn mn mi nn]) hP hD hS hA [0] [] rfl rfl (by decide) (by decide) (va_runV (As := [.int y]) (rest := []) ⟨hx, hb, hml, hown, htb⟩ (oc_R_isUp_no l dC dI cI cJ cZ cP _ r cn mn mi nn y (by first | assumption | omega)) (cwV 1 htb (gw_V kw_502 kw_504 kp_21 kw_5 kw_505) rfl rfl rfl (by decide +kernel) ⟨Nat.le_of_ble_eq_true rfl, Nat.le_of_ble_eq_true rfl⟩) (pr_V hP hK hD (va_recv hK hP (ci := 4) (q0 := 0) rfl rfl) [0] (by decide) rfl rfl) rfl rfl hl.1 rfl (lv_room (Nat.le_of_ble_eq_true rfl)) dc_R_release_2 ⟨Nat.le_of_ble_eq_true rfl, Nat.le_of_ble_eq_true rfl⟩) (fun H locs hP hD hS => ?_)
  have hP : va_P (dC, dI) clsL [zR r cn mn mi nn] H := hP.sub (ws' := [zR r cn mn mi nn]) [0] rfl
  have hD : va_D A [zR r cn mn mi nn] := hD.sub (ws' := [zR r cn mn mi nn]) [0] (by decide) rfl
  refine lv_if_ne (tgt := 10) hx hb dc_R_release_5 (by decide) (fun hc => ?_) (fun hc => ?_)
  · have h1 : false = true := bI_n0.mp hc
    exact absurd h1 (by decide)
  have h1 : false = false := bI_0.mp hc
  refine lv_iconst (v := (-1)) hx hb dc_R_release_8 (by decide) ?_
  have hP9 := hP.sub (ws' := [zR r cn mn mi nn]) [0] rfl
  have hD9 := hD.sub (ws' := [zR r cn mn mi nn]) [0] (by decide) rfl
  exact W.iret (v := (-1)) hx hb hr (fun t ht hW => ⟨⟨_, (), rfl, rfl, by rw [ht]; exact hP9, va_K.moved hW.alike hK, hD9⟩, hS.F ht⟩) hS.2.2 dc_R_release_9

set_option maxHeartbeats 4000000 in
set_option maxRecDepth 100000 in
theorem oc_R_release_dn (l : Launch) (dC : Nat → ClassId) (dI : Nat → Nat → Nat) (cI cJ cZ cP : ClassId) (sz : Nat) (r : Nat → Nat) (cn : Nat) (mn : Nat) (mi : Nat) (nn : Nat) (dw : Nat → Bool) (j : Nat) (hj : j < 3) (hdw : dw j = true) : mt_I l mn_R_release bc_R_release 5 (some .int) ({ frames := 2, cells := 0, slots := 0, locals := 42 }) (dC, dI) (TYS cI cJ cZ cP) sz [.ref (r 0), .int (nI j)] [zR r cn mn mi nn, ((r 18), .inl (cZ, 3, .inl (bF dw)))] [zR r cn mn mi nn, ((r 18), .inl (cZ, 3, .inl (bF dw)))] ((-1)) 0 0 := by
  unfold mt_I
  refine Met.ofW (cc := bc_R_release) (maxL := 5) (ret := (some .int)) (by decide) rfl ?_
  intro p e s m args below meth c s₁ B hml hv
  obtain ⟨rfl, hsz, hP, hK, hD0⟩ := hv
  have hx := B.exec
  have hb := B.bytes
  have hr := B.returns
  have hts := atoms_spec (ws := wsT mn_R_release bc_R_release 5 (some .int)) B.pre
  have htb : ∀ w ∈ gtbl, w.before _ s = true := fun w h => hts w (List.mem_cons_of_mem _ h)
  have hown : s.vm.findClass cn_R = some m.cls := findClass_of_methodNamed B.named
  have hlocks := B.notSynchronized
  subst hsz
  have hD := hD0.self (sz := s.heap.size)
  generalize hAe : va_A [zR r cn mn mi nn, ((r 18), .inl (cZ, 3, .inl (bF dw)))] s.heap.size = A at hD ⊢
  have hA : ∀ q : Nat, s.heap.size ≤ q → A q := fun q h => by rw [← hAe]; exact Or.inr h
  have hS : va_S A s.heap s.heap [] := va_S.rf
  have hP : va_P (dC, dI) clsL [zR r cn mn mi nn, ((r 18), .inl (cZ, 3, .inl (bF dw)))] s.heap := hP
  have hl := lv_entry ([.ref (r 0), .int (nI j)]) (n := 5) (Nat.le_of_ble_eq_true rfl)
  rw [lg_entry_eq]
  generalize (lg_sl ([.ref (r 0), .int (nI j)]) ++ List.replicate (5 - (lg_sl ([.ref (r 0), .int (nI j)])).length) Slot.unset).toArray = ls at hl ⊢
  have hl : lv_has ls 5 [(0, .ref (r 0)), (1, .int (nI j))] := hl
  refine lv_aload_n hx hb dc_R_release_0 rfl (lv_at hl 0 rfl) ?_
  refine lv_iload_n hx hb dc_R_release_1 rfl (lv_at hl 1 rfl) ?_
  refine cl_i (wc := [zR r cn mn mi nn, ((r 18), .inl (cZ, 3, .inl (bF dw)))]) (wr := []) (w1 := [zR r cn mn mi nn, ((r 18), .inl (cZ, 3, .inl (bF dw)))]) hP hD hS hA [0, 1] [] rfl rfl (by decide) (by decide) (va_runV (As := [.int (nI j)]) (rest := []) ⟨hx, hb, hml, hown, htb⟩ (oc_R_isUp l dC dI cI cJ cZ cP _ r cn mn mi nn dw j (by first | assumption | omega)) (cwV 1 htb (gw_V kw_502 kw_504 kp_21 kw_5 kw_505) rfl rfl rfl (by decide +kernel) ⟨Nat.le_of_ble_eq_true rfl, Nat.le_of_ble_eq_true rfl⟩) (pr_V hP hK hD (va_recv hK hP (ci := 4) (q0 := 0) rfl rfl) [0, 1] (by decide) rfl rfl) rfl rfl hl.1 rfl (lv_room (Nat.le_of_ble_eq_true rfl)) dc_R_release_2 ⟨Nat.le_of_ble_eq_true rfl, Nat.le_of_ble_eq_true rfl⟩) (fun H locs hP hD hS => ?_)
  have hP : va_P (dC, dI) clsL [zR r cn mn mi nn, ((r 18), .inl (cZ, 3, .inl (bF dw)))] H := hP.sub (ws' := [zR r cn mn mi nn, ((r 18), .inl (cZ, 3, .inl (bF dw)))]) [0, 1] rfl
  have hD : va_D A [zR r cn mn mi nn, ((r 18), .inl (cZ, 3, .inl (bF dw)))] := hD.sub (ws' := [zR r cn mn mi nn, ((r 18), .inl (cZ, 3, .inl (bF dw)))]) [0, 1] (by decide) rfl
  refine lv_if_ne (tgt := 10) hx hb dc_R_release_5 (by decide) (fun hc => ?_) (fun hc => ?_)
  · have h1 : (!(dw j)) = true := bI_n0.mp hc
    exact absurd h1 (by rw [hdw]; decide)
  have h1 : (!(dw j)) = false := bI_0.mp hc
  refine lv_iconst (v := (-1)) hx hb dc_R_release_8 (by decide) ?_
  have hP9 := hP.sub (ws' := [zR r cn mn mi nn, ((r 18), .inl (cZ, 3, .inl (bF dw)))]) [0, 1] rfl
  have hD9 := hD.sub (ws' := [zR r cn mn mi nn, ((r 18), .inl (cZ, 3, .inl (bF dw)))]) [0, 1] (by decide) rfl
  exact W.iret (v := (-1)) hx hb hr (fun t ht hW => ⟨⟨_, (), rfl, rfl, by rw [ht]; exact hP9, va_K.moved hW.alike hK, hD9⟩, hS.F ht⟩) hS.2.2 dc_R_release_9

set_option maxHeartbeats 4000000 in
set_option maxRecDepth 100000 in
theorem oc_R_release (l : Launch) (dC : Nat → ClassId) (dI : Nat → Nat → Nat) (cI cJ cZ cP : ClassId) (sz : Nat) (r : Nat → Nat) (cn : Nat) (mn : Nat) (mi : Nat) (nn : Nat) (dw : Nat → Bool) (bf : Nat → Option Nat) (rc : Nat → Nat) (sr : Nat → Option Nat) (mk : Nat → Bool) (sb : Nat → Bool) (sv : Nat → Int32) (ot : Nat → Bool) (cc : Nat → Nat) (lg : Nat → Nat) (sh : Nat → Int32) (sn : Nat → Nat) (j : Nat) (n : Nat) (q0 : Nat) (q2 : Nat) (z2 : Nat) (ot2 : Nat → Bool) (sh2 : Nat → Int32) (hj : j < 3) (hdw : dw j = false) (hlg : lg j = n) (hn : n ≤ 40) (hcc : ∀ i, i < n → cc (40 * j + i) < cn) (hsn : sn j = q0) (hq0 : q0 ≤ 40) (hcn : cn ≤ 40) (hbf : ∀ k, k < cn → ∀ i, bf k = some i → i < 40) (hrc : ∀ k, k < cn → rc k < 104) (hsr : ∀ k, k < cn → ∀ i, sr (rc k) = some i → i < 40) (hro : ∀ k, k < n → ¬ (sv (cc (40 * j + k))) &&& (nI 4) = 0 → ((rr_S bf rc sr sb sv (fun i => cc (40 * j + i)) j cn (0, ot, sh, q0) k).2.1) (cc (40 * j + k)) = false → dst_B bf rc sr sb (some (cc (40 * j + k))) cn = true → (rr_S bf rc sr sb sv (fun i => cc (40 * j + i)) j cn (0, ot, sh, q0) k).2.2.2 < 40) (hq : (rr_S bf rc sr sb sv (fun i => cc (40 * j + i)) j cn (0, ot, sh, q0) n) = (z2, ot2, sh2, q2)) : mt_Ix l mn_R_release bc_R_release 5 (some .int) ({ frames := 2, cells := 0, slots := 0, locals := 46 }) (dC, dI) (TYS cI cJ cZ cP) sz [.ref (r 0), .int (nI j)] [zR r cn mn mi nn, ((r 18), .inl (cZ, 3, .inl (bF dw))), ((r 1), .inl (cI, 40, .inl (oF bf))), ((r 2), .inl (cI, 40, .inl (nF rc))), ((r 15), .inl (cI, 104, .inl (oF sr))), ((r 9), .inl (cZ, 40, .inl (bF mk))), ((r 4), .inl (cZ, 40, .inl (bF sb))), ((r 3), .inl (cI, 40, .inl sv)), ((r 8), .inl (cZ, 40, .inl (bF ot))), ((r 19), .inl (cI, 120, .inl (nF cc))), ((r 20), .inl (cI, 3, .inl (nF lg))), ((r 25), .inl (cI, 120, .inl sh)), ((r 26), .inl (cI, 3, .inl (nF sn)))] (fun (mkz : Nat → Bool) => [zR r cn mn mi nn, ((r 18), .inl (cZ, 3, .inl (bF dw))), ((r 1), .inl (cI, 40, .inl (oF bf))), ((r 2), .inl (cI, 40, .inl (nF rc))), ((r 15), .inl (cI, 104, .inl (oF sr))), ((r 9), .inl (cZ, 40, .inl (bF mkz))), ((r 4), .inl (cZ, 40, .inl (bF sb))), ((r 3), .inl (cI, 40, .inl sv)), ((r 8), .inl (cZ, 40, .inl (bF ot2))), ((r 19), .inl (cI, 120, .inl (nF cc))), ((r 20), .inl (cI, 3, .inl (nF lg))), ((r 25), .inl (cI, 120, .inl sh2)), ((r 26), .inl (cI, 3, .inl (nF (va_up sn j q2))))]) (nI z2) 0 0 := by
  unfold mt_Ix
  refine Met.ofW (cc := bc_R_release) (maxL := 5) (ret := (some .int)) (by decide) rfl ?_
  intro p e s m args below meth c s₁ B hml hv
  obtain ⟨rfl, hsz, hP, hK, hD0⟩ := hv
  have hx := B.exec
  have hb := B.bytes
  have hr := B.returns
  have hts := atoms_spec (ws := wsT mn_R_release bc_R_release 5 (some .int)) B.pre
  have htb : ∀ w ∈ gtbl, w.before _ s = true := fun w h => hts w (List.mem_cons_of_mem _ h)
  have hown : s.vm.findClass cn_R = some m.cls := findClass_of_methodNamed B.named
  have hlocks := B.notSynchronized
  subst hsz
  have hD := hD0.self (sz := s.heap.size)
  generalize hAe : va_A [zR r cn mn mi nn, ((r 18), .inl (cZ, 3, .inl (bF dw))), ((r 1), .inl (cI, 40, .inl (oF bf))), ((r 2), .inl (cI, 40, .inl (nF rc))), ((r 15), .inl (cI, 104, .inl (oF sr))), ((r 9), .inl (cZ, 40, .inl (bF mk))), ((r 4), .inl (cZ, 40, .inl (bF sb))), ((r 3), .inl (cI, 40, .inl sv)), ((r 8), .inl (cZ, 40, .inl (bF ot))), ((r 19), .inl (cI, 120, .inl (nF cc))), ((r 20), .inl (cI, 3, .inl (nF lg))), ((r 25), .inl (cI, 120, .inl sh)), ((r 26), .inl (cI, 3, .inl (nF sn)))] s.heap.size = A at hD ⊢
  have hA : ∀ q : Nat, s.heap.size ≤ q → A q := fun q h => by rw [← hAe]; exact Or.inr h
  have hS : va_S A s.heap s.heap [] := va_S.rf
  have hP : va_P (dC, dI) clsL [zR r cn mn mi nn, ((r 18), .inl (cZ, 3, .inl (bF dw))), ((r 1), .inl (cI, 40, .inl (oF bf))), ((r 2), .inl (cI, 40, .inl (nF rc))), ((r 15), .inl (cI, 104, .inl (oF sr))), ((r 9), .inl (cZ, 40, .inl (bF mk))), ((r 4), .inl (cZ, 40, .inl (bF sb))), ((r 3), .inl (cI, 40, .inl sv)), ((r 8), .inl (cZ, 40, .inl (bF ot))), ((r 19), .inl (cI, 120, .inl (nF cc))), ((r 20), .inl (cI, 3, .inl (nF lg))), ((r 25), .inl (cI, 120, .inl sh)), ((r 26), .inl (cI, 3, .inl (nF sn)))] s.heap := hP
  have hl := lv_entry ([.ref (r 0), .int (nI j)]) (n := 5) (Nat.le_of_ble_eq_true rfl)
  rw [lg_entry_eq]
  generalize (lg_sl ([.ref (r 0), .int (nI j)]) ++ List.replicate (5 - (lg_sl ([.ref (r 0), .int (nI j)])).length) Slot.unset).toArray = ls at hl ⊢
  have hl : lv_has ls 5 [(0, .ref (r 0)), (1, .int (nI j))] := hl
  refine lv_aload_n hx hb dc_R_release_0 rfl (lv_at hl 0 rfl) ?_
  refine lv_iload_n hx hb dc_R_release_1 rfl (lv_at hl 1 rfl) ?_
  refine cl_i (wc := [zR r cn mn mi nn, ((r 18), .inl (cZ, 3, .inl (bF dw)))]) (wr := [((r 1), .inl (cI, 40, .inl (oF bf))), ((r 2), .inl (cI, 40, .inl (nF rc))), ((r 15), .inl (cI, 104, .inl (oF sr))), ((r 9), .inl (cZ, 40, .inl (bF mk))), ((r 4), .inl (cZ, 40, .inl (bF sb))), ((r 3), .inl (cI, 40, .inl sv)), ((r 8), .inl (cZ, 40, .inl (bF ot))), ((r 19), .inl (cI, 120, .inl (nF cc))), ((r 20), .inl (cI, 3, .inl (nF lg))), ((r 25), .inl (cI, 120, .inl sh)), ((r 26), .inl (cI, 3, .inl (nF sn)))]) (w1 := [zR r cn mn mi nn, ((r 18), .inl (cZ, 3, .inl (bF dw)))]) hP hD hS hA [0, 1] [2, 3, 4, 5, 6, 7, 8, 9, 10, 11, 12] rfl rfl (by decide) (by decide) (va_runV (As := [.int (nI j)]) (rest := []) ⟨hx, hb, hml, hown, htb⟩ (oc_R_isUp l dC dI cI cJ cZ cP _ r cn mn mi nn dw j (by first | assumption | omega)) (cwV 1 htb (gw_V kw_502 kw_504 kp_21 kw_5 kw_505) rfl rfl rfl (by decide +kernel) ⟨Nat.le_of_ble_eq_true rfl, Nat.le_of_ble_eq_true rfl⟩) (pr_V hP hK hD (va_recv hK hP (ci := 4) (q0 := 0) rfl rfl) [0, 1] (by decide) rfl rfl) rfl rfl hl.1 rfl (lv_room (Nat.le_of_ble_eq_true rfl)) dc_R_release_2 ⟨Nat.le_of_ble_eq_true rfl, Nat.le_of_ble_eq_true rfl⟩) (fun H locs hP hD hS => ?_)
  have hP : va_P (dC, dI) clsL [zR r cn mn mi nn, ((r 18), .inl (cZ, 3, .inl (bF dw))), ((r 1), .inl (cI, 40, .inl (oF bf))), ((r 2), .inl (cI, 40, .inl (nF rc))), ((r 15), .inl (cI, 104, .inl (oF sr))), ((r 9), .inl (cZ, 40, .inl (bF mk))), ((r 4), .inl (cZ, 40, .inl (bF sb))), ((r 3), .inl (cI, 40, .inl sv)), ((r 8), .inl (cZ, 40, .inl (bF ot))), ((r 19), .inl (cI, 120, .inl (nF cc))), ((r 20), .inl (cI, 3, .inl (nF lg))), ((r 25), .inl (cI, 120, .inl sh)), ((r 26), .inl (cI, 3, .inl (nF sn)))] H := hP.sub (ws' := [zR r cn mn mi nn, ((r 18), .inl (cZ, 3, .inl (bF dw))), ((r 1), .inl (cI, 40, .inl (oF bf))), ((r 2), .inl (cI, 40, .inl (nF rc))), ((r 15), .inl (cI, 104, .inl (oF sr))), ((r 9), .inl (cZ, 40, .inl (bF mk))), ((r 4), .inl (cZ, 40, .inl (bF sb))), ((r 3), .inl (cI, 40, .inl sv)), ((r 8), .inl (cZ, 40, .inl (bF ot))), ((r 19), .inl (cI, 120, .inl (nF cc))), ((r 20), .inl (cI, 3, .inl (nF lg))), ((r 25), .inl (cI, 120, .inl sh)), ((r 26), .inl (cI, 3, .inl (nF sn)))]) [11, 12, 0, 1, 2, 3, 4, 5, 6, 7, 8, 9, 10] rfl
  have hD : va_D A [zR r cn mn mi nn, ((r 18), .inl (cZ, 3, .inl (bF dw))), ((r 1), .inl (cI, 40, .inl (oF bf))), ((r 2), .inl (cI, 40, .inl (nF rc))), ((r 15), .inl (cI, 104, .inl (oF sr))), ((r 9), .inl (cZ, 40, .inl (bF mk))), ((r 4), .inl (cZ, 40, .inl (bF sb))), ((r 3), .inl (cI, 40, .inl sv)), ((r 8), .inl (cZ, 40, .inl (bF ot))), ((r 19), .inl (cI, 120, .inl (nF cc))), ((r 20), .inl (cI, 3, .inl (nF lg))), ((r 25), .inl (cI, 120, .inl sh)), ((r 26), .inl (cI, 3, .inl (nF sn)))] := hD.sub (ws' := [zR r cn mn mi nn, ((r 18), .inl (cZ, 3, .inl (bF dw))), ((r 1), .inl (cI, 40, .inl (oF bf))), ((r 2), .inl (cI, 40, .inl (nF rc))), ((r 15), .inl (cI, 104, .inl (oF sr))), ((r 9), .inl (cZ, 40, .inl (bF mk))), ((r 4), .inl (cZ, 40, .inl (bF sb))), ((r 3), .inl (cI, 40, .inl sv)), ((r 8), .inl (cZ, 40, .inl (bF ot))), ((r 19), .inl (cI, 120, .inl (nF cc))), ((r 20), .inl (cI, 3, .inl (nF lg))), ((r 25), .inl (cI, 120, .inl sh)), ((r 26), .inl (cI, 3, .inl (nF sn)))]) [11, 12, 0, 1, 2, 3, 4, 5, 6, 7, 8, 9, 10] (by decide) rfl
  refine lv_if_ne (tgt := 10) hx hb dc_R_release_5 (by decide) (fun hc => ?_) (fun hc => ?_)
  rotate_left
  · have h1 : (!(dw j)) = false := bI_0.mp hc
    exact absurd h1 (by rw [hdw]; decide)
  have h1 : (!(dw j)) = true := bI_n0.mp hc
  have hsn0 : sn = va_up sn j q0 := by rw [← hsn]; exact (va_up_eta sn j).symm
  refine lv_iconst (v := nI 0) hx hb dc_R_release_10 (by decide) ?_
  refine lv_istore_n (lv' := [(2, .int (nI 0)), (0, .ref (r 0)), (1, .int (nI j))]) hx hb dc_R_release_11 rfl hl (by decide) rfl (fun ls hl => ?_)
  refine lv_iconst (v := nI 0) hx hb dc_R_release_12 (by decide) ?_
  refine lv_istore_n (lv' := [(3, .int (nI 0)), (2, .int (nI 0)), (0, .ref (r 0)), (1, .int (nI j))]) hx hb dc_R_release_13 rfl hl (by decide) rfl (fun ls hl => ?_)
  refine wl_ 14 (fun (x : Nat × Nat × (Nat → Bool) × (Nat → Int32) × Nat × (Nat → Nat) × (Nat → Bool)) => n - x.1) (fun (x : Nat × Nat × (Nat → Bool) × (Nat → Int32) × Nat × (Nat → Nat) × (Nat → Bool)) (H : Heap) (locs : List Loc) (ls : Array Slot) => (x.1 ≤ n ∧ (x.2.1, x.2.2.1, x.2.2.2.1, x.2.2.2.2.1) = (rr_S bf rc sr sb sv (fun i => cc (40 * j + i)) j cn (0, ot, sh, q0) x.1) ∧ x.2.2.2.2.2.1 = va_up sn j x.2.2.2.2.1 ∧ x.2.2.2.2.1 ≤ 40) ∧ va_P (dC, dI) clsL [zR r cn mn mi nn, ((r 18), .inl (cZ, 3, .inl (bF dw))), ((r 1), .inl (cI, 40, .inl (oF bf))), ((r 2), .inl (cI, 40, .inl (nF rc))), ((r 15), .inl (cI, 104, .inl (oF sr))), ((r 9), .inl (cZ, 40, .inl (bF x.2.2.2.2.2.2))), ((r 4), .inl (cZ, 40, .inl (bF sb))), ((r 3), .inl (cI, 40, .inl sv)), ((r 8), .inl (cZ, 40, .inl (bF x.2.2.1))), ((r 19), .inl (cI, 120, .inl (nF cc))), ((r 20), .inl (cI, 3, .inl (nF lg))), ((r 25), .inl (cI, 120, .inl x.2.2.2.1)), ((r 26), .inl (cI, 3, .inl (nF x.2.2.2.2.2.1)))] H ∧ va_D A [zR r cn mn mi nn, ((r 18), .inl (cZ, 3, .inl (bF dw))), ((r 1), .inl (cI, 40, .inl (oF bf))), ((r 2), .inl (cI, 40, .inl (nF rc))), ((r 15), .inl (cI, 104, .inl (oF sr))), ((r 9), .inl (cZ, 40, .inl (bF x.2.2.2.2.2.2))), ((r 4), .inl (cZ, 40, .inl (bF sb))), ((r 3), .inl (cI, 40, .inl sv)), ((r 8), .inl (cZ, 40, .inl (bF x.2.2.1))), ((r 19), .inl (cI, 120, .inl (nF cc))), ((r 20), .inl (cI, 3, .inl (nF lg))), ((r 25), .inl (cI, 120, .inl x.2.2.2.1)), ((r 26), .inl (cI, 3, .inl (nF x.2.2.2.2.2.1)))] ∧ va_S A s.heap H locs ∧ lv_has ls 5 [(3, .int (nI x.1)), (2, .int (nI x.2.1)), (1, .int (nI j)), (0, .ref (r 0))]) ?_ (0, 0, ot, sh, q0, sn, mk) _ _ _ ⟨⟨Nat.zero_le _, rfl, hsn0, hq0⟩, hP, hD, hS, lv_sub hl [0, 1, 3, 2] rfl⟩
  rintro ⟨k, z, o3, h3, q3, n3, w⟩ H locs ls ⟨hI, hP, hD, hS, hl⟩ ih14
  replace hI : k ≤ n ∧ (z, o3, h3, q3) = (rr_S bf rc sr sb sv (fun i => cc (40 * j + i)) j cn (0, ot, sh, q0) k) ∧ n3 = va_up sn j q3 ∧ q3 ≤ 40 := hI
  replace hP : va_P (dC, dI) clsL [zR r cn mn mi nn, ((r 18), .inl (cZ, 3, .inl (bF dw))), ((r 1), .inl (cI, 40, .inl (oF bf))), ((r 2), .inl (cI, 40, .inl (nF rc))), ((r 15), .inl (cI, 104, .inl (oF sr))), ((r 9), .inl (cZ, 40, .inl (bF w))), ((r 4), .inl (cZ, 40, .inl (bF sb))), ((r 3), .inl (cI, 40, .inl sv)), ((r 8), .inl (cZ, 40, .inl (bF o3))), ((r 19), .inl (cI, 120, .inl (nF cc))), ((r 20), .inl (cI, 3, .inl (nF lg))), ((r 25), .inl (cI, 120, .inl h3)), ((r 26), .inl (cI, 3, .inl (nF n3)))] H := hP
  replace hD : va_D A [zR r cn mn mi nn, ((r 18), .inl (cZ, 3, .inl (bF dw))), ((r 1), .inl (cI, 40, .inl (oF bf))), ((r 2), .inl (cI, 40, .inl (nF rc))), ((r 15), .inl (cI, 104, .inl (oF sr))), ((r 9), .inl (cZ, 40, .inl (bF w))), ((r 4), .inl (cZ, 40, .inl (bF sb))), ((r 3), .inl (cI, 40, .inl sv)), ((r 8), .inl (cZ, 40, .inl (bF o3))), ((r 19), .inl (cI, 120, .inl (nF cc))), ((r 20), .inl (cI, 3, .inl (nF lg))), ((r 25), .inl (cI, 120, .inl h3)), ((r 26), .inl (cI, 3, .inl (nF n3)))] := hD
  replace hl : lv_has ls 5 [(3, .int (nI k)), (2, .int (nI z)), (1, .int (nI j)), (0, .ref (r 0))] := hl
  have hI9 := hI
  have hk1 := hI9.1
  have hk2 := hI9.2.2.2
  refine lv_iload_n hx hb dc_R_release_14 rfl (lv_at hl 0 rfl) ?_
  refine lv_aload_n hx hb dc_R_release_15 rfl (lv_at hl 3 rfl) ?_
  refine va_get (D := (dC, dI)) (ci := 4) (v := .ref (r 20)) (C := cn_R) (T := ft_R) (N := 27) hx hb htb ki_R hown hK hP 0 rfl rfl 20 (by decide) (htb _ kw_390) (fun _ h9 => h9) rfl dc_R_release_16 ?_
  refine lv_iload_n hx hb dc_R_release_19 rfl (lv_at hl 2 rfl) ?_
  refine wa_nld (k := j) hx hb hK hP 10 0 rfl rfl (by omega) (by omega) dc_R_release_20 ?_
  refine tp_i (y := nI n) (by rw [hlg]) ?_
  refine lv_icmp_ge (tgt := 118) hx hb dc_R_release_21 (by decide) (fun hc => ?_) (fun hc => ?_)
  · have hk : n ≤ k := (nI_leI (by omega) (by omega)).mp hc
    obtain rfl : n = k := by omega
    have hq9 := hI9.2.1.trans hq
    obtain ⟨rfl, rfl, rfl, rfl⟩ : z2 = z ∧ ot2 = o3 ∧ sh2 = h3 ∧ q2 = q3 := by simp only [Prod.mk.injEq] at hq9; obtain ⟨a1, a2, a3, a4⟩ := hq9; exact ⟨a1.symm, a2.symm, a3.symm, a4.symm⟩
    obtain rfl : va_up sn j q2 = n3 := hI9.2.2.1.symm
    refine lv_iload_n hx hb dc_R_release_118 rfl (lv_at hl 1 rfl) ?_
    have hP9 := hP.sub (ws' := [zR r cn mn mi nn, ((r 18), .inl (cZ, 3, .inl (bF dw))), ((r 1), .inl (cI, 40, .inl (oF bf))), ((r 2), .inl (cI, 40, .inl (nF rc))), ((r 15), .inl (cI, 104, .inl (oF sr))), ((r 9), .inl (cZ, 40, .inl (bF w))), ((r 4), .inl (cZ, 40, .inl (bF sb))), ((r 3), .inl (cI, 40, .inl sv)), ((r 8), .inl (cZ, 40, .inl (bF ot2))), ((r 19), .inl (cI, 120, .inl (nF cc))), ((r 20), .inl (cI, 3, .inl (nF lg))), ((r 25), .inl (cI, 120, .inl sh2)), ((r 26), .inl (cI, 3, .inl (nF (va_up sn j q2))))]) [0, 1, 2, 3, 4, 5, 6, 7, 8, 9, 10, 11, 12] rfl
    have hD9 := hD.sub (ws' := [zR r cn mn mi nn, ((r 18), .inl (cZ, 3, .inl (bF dw))), ((r 1), .inl (cI, 40, .inl (oF bf))), ((r 2), .inl (cI, 40, .inl (nF rc))), ((r 15), .inl (cI, 104, .inl (oF sr))), ((r 9), .inl (cZ, 40, .inl (bF w))), ((r 4), .inl (cZ, 40, .inl (bF sb))), ((r 3), .inl (cI, 40, .inl sv)), ((r 8), .inl (cZ, 40, .inl (bF ot2))), ((r 19), .inl (cI, 120, .inl (nF cc))), ((r 20), .inl (cI, 3, .inl (nF lg))), ((r 25), .inl (cI, 120, .inl sh2)), ((r 26), .inl (cI, 3, .inl (nF (va_up sn j q2))))]) [0, 1, 2, 3, 4, 5, 6, 7, 8, 9, 10, 11, 12] (by decide) rfl
    exact W.iret (v := nI z2) hx hb hr (fun t ht hW => ⟨⟨_, w, rfl, rfl, by rw [ht]; exact hP9, va_K.moved hW.alike hK, hD9⟩, hS.F ht⟩) hS.2.2 dc_R_release_119
  · have hk : k < n := Nat.lt_of_not_le (fun h9 => hc ((nI_leI (by omega) (by omega)).mpr h9))
    have hc9 := hcc k hk
    have hc8 : cc (40 * j + k) < 40 := by omega
    refine lv_aload_n hx hb dc_R_release_24 rfl (lv_at hl 3 rfl) ?_
    refine va_get (D := (dC, dI)) (ci := 4) (v := .ref (r 19)) (C := cn_R) (T := ft_R) (N := 27) hx hb htb ki_R hown hK hP 0 rfl rfl 19 (by decide) (htb _ kw_389) (fun _ h9 => h9) rfl dc_R_release_25 ?_
    refine lv_bipush (v := nI 40) hx hb dc_R_release_28 (by decide) ?_
    refine lv_iload_n hx hb dc_R_release_30 rfl (lv_at hl 2 rfl) ?_
    refine lv_imul hx hb dc_R_release_31 ?_
    refine tp_i (y := nI (40 * j)) (pk_mul _ _) ?_
    refine lv_iload_n hx hb dc_R_release_32 rfl (lv_at hl 0 rfl) ?_
    refine lv_iadd hx hb dc_R_release_33 ?_
    refine tp_i (y := nI (40 * j + k)) (nI_add _ _) ?_
    refine wa_nld (k := 40 * j + k) hx hb hK hP 9 0 rfl rfl (by omega) (by omega) dc_R_release_34 ?_
    refine lv_istore (lv' := [(4, .int (nI (cc (40 * j + k)))), (3, .int (nI k)), (2, .int (nI z)), (1, .int (nI j)), (0, .ref (r 0))]) hx hb dc_R_release_35 hl (by decide) rfl (fun ls hl => ?_)
    refine lv_aload_n hx hb dc_R_release_37 rfl (lv_at hl 4 rfl) ?_
    refine va_get (D := (dC, dI)) (ci := 4) (v := .ref (r 3)) (C := cn_R) (T := ft_R) (N := 27) hx hb htb ki_R hown hK hP 0 rfl rfl 3 (by decide) (htb _ kw_373) (fun _ h9 => h9) rfl dc_R_release_38 ?_
    refine lv_iload hx hb dc_R_release_41 (lv_at hl 0 rfl) ?_
    refine wa_ild (k := cc (40 * j + k)) hx hb hK hP 7 0 rfl rfl (by omega) (by omega) dc_R_release_43 ?_
    refine lv_iconst (v := nI 4) hx hb dc_R_release_44 (by decide) ?_
    refine lv_iand hx hb dc_R_release_45 ?_
    refine lv_if_eq (tgt := 112) hx hb dc_R_release_46 (by decide) (fun hc => ?_) (fun hc => ?_)
    · have h2 := hc
      refine lv_iinc (k := 1) (v := nI (k + 1)) (lv' := [(3, .int (nI (k + 1))), (4, .int (nI (cc (40 * j + k)))), (2, .int (nI z)), (1, .int (nI j)), (0, .ref (r 0))]) hx hb dc_R_release_112 hl rfl (nI_inc1 _) (by decide) rfl (fun ls hl => ?_)
      refine lv_goto (tgt := 14) hx hb dc_R_release_115 (by decide) ?_
      exact ih14 (k + 1, z, o3, h3, q3, n3, w) H locs ls (by first | omega | (dsimp only; omega)) ⟨⟨by first | omega | (dsimp only; omega), by simp only [rr_S]; rw [← hI9.2.1]; simp [*], by first | exact hI9.2.2.1 | rw [hI9.2.2.1, bx_uu], by first | omega | (dsimp only; omega)⟩, hP, hD, hS, lv_sub hl [0, 2, 3, 4] rfl⟩
    · have h2 := hc
      refine lv_aload_n hx hb dc_R_release_49 rfl (lv_at hl 4 rfl) ?_
      refine va_get (D := (dC, dI)) (ci := 4) (v := .ref (r 8)) (C := cn_R) (T := ft_R) (N := 27) hx hb htb ki_R hown hK hP 0 rfl rfl 8 (by decide) (htb _ kw_378) (fun _ h9 => h9) rfl dc_R_release_50 ?_
      refine lv_iload hx hb dc_R_release_53 (lv_at hl 0 rfl) ?_
      refine wa_bld (k := cc (40 * j + k)) hx hb hK hP 8 2 rfl rfl (by omega) (by omega) dc_R_release_55 ?_
      refine lv_if_ne (tgt := 112) hx hb dc_R_release_56 (by decide) (fun hc => ?_) (fun hc => ?_)
      · have h4 : o3 (cc (40 * j + k)) = true := bI_n0.mp hc
        refine lv_iinc (k := 1) (v := nI (k + 1)) (lv' := [(3, .int (nI (k + 1))), (4, .int (nI (cc (40 * j + k)))), (2, .int (nI z)), (1, .int (nI j)), (0, .ref (r 0))]) hx hb dc_R_release_112 hl rfl (nI_inc1 _) (by decide) rfl (fun ls hl => ?_)
        refine lv_goto (tgt := 14) hx hb dc_R_release_115 (by decide) ?_
        exact ih14 (k + 1, z, o3, h3, q3, n3, w) H locs ls (by first | omega | (dsimp only; omega)) ⟨⟨by first | omega | (dsimp only; omega), by simp only [rr_S]; rw [← hI9.2.1]; simp [*], by first | exact hI9.2.2.1 | rw [hI9.2.2.1, bx_uu], by first | omega | (dsimp only; omega)⟩, hP, hD, hS, lv_sub hl [0, 2, 3, 4] rfl⟩
      · have h4 : o3 (cc (40 * j + k)) = false := bI_0.mp hc
        refine lv_aload_n hx hb dc_R_release_59 rfl (lv_at hl 4 rfl) ?_
        refine lv_iload hx hb dc_R_release_60 (lv_at hl 0 rfl) ?_
        refine tp_i (y := oI (some (cc (40 * j + k)))) (rfl) ?_
        refine cl_ix (wc := [zR r cn mn mi nn, ((r 1), .inl (cI, 40, .inl (oF bf))), ((r 2), .inl (cI, 40, .inl (nF rc))), ((r 15), .inl (cI, 104, .inl (oF sr))), ((r 9), .inl (cZ, 40, .inl (bF w))), ((r 4), .inl (cZ, 40, .inl (bF sb)))]) (wr := [((r 18), .inl (cZ, 3, .inl (bF dw))), ((r 3), .inl (cI, 40, .inl sv)), ((r 8), .inl (cZ, 40, .inl (bF o3))), ((r 19), .inl (cI, 120, .inl (nF cc))), ((r 20), .inl (cI, 3, .inl (nF lg))), ((r 25), .inl (cI, 120, .inl h3)), ((r 26), .inl (cI, 3, .inl (nF n3)))]) (w2 := (fun (mkz_1 : Nat → Bool) => [zR r cn mn mi nn, ((r 1), .inl (cI, 40, .inl (oF bf))), ((r 2), .inl (cI, 40, .inl (nF rc))), ((r 15), .inl (cI, 104, .inl (oF sr))), ((r 9), .inl (cZ, 40, .inl (bF mkz_1))), ((r 4), .inl (cZ, 40, .inl (bF sb)))])) hP hD hS hA [0, 2, 3, 4, 5, 6] [1, 7, 8, 9, 10, 11, 12] rfl rfl (by decide) (by decide) (va_runV (As := [.int (oI (some (cc (40 * j + k))))]) (rest := []) ⟨hx, hb, hml, hown, htb⟩ (oc_R_dependsOnStable l dC dI cI cJ cZ cP _ r cn mn mi nn bf rc sr w sb (some (cc (40 * j + k))) (fun i e9 => by cases e9; exact hc9) hcn hbf hrc hsr) (cwV 1 htb (gw_V kw_546 kw_548 kp_26 kw_5 kw_549) rfl rfl rfl (by decide +kernel) ⟨Nat.le_of_ble_eq_true rfl, Nat.le_of_ble_eq_true rfl⟩) (pr_V hP hK hD (va_recv hK hP (ci := 4) (q0 := 0) rfl rfl) [0, 2, 3, 4, 5, 6] (by decide) rfl rfl) rfl rfl hl.1 rfl (lv_room (Nat.le_of_ble_eq_true rfl)) dc_R_release_62 ⟨Nat.le_of_ble_eq_true rfl, Nat.le_of_ble_eq_true rfl⟩) (fun mkz_1 H locs hP hD hS => ?_)
        have hP : va_P (dC, dI) clsL [zR r cn mn mi nn, ((r 18), .inl (cZ, 3, .inl (bF dw))), ((r 1), .inl (cI, 40, .inl (oF bf))), ((r 2), .inl (cI, 40, .inl (nF rc))), ((r 15), .inl (cI, 104, .inl (oF sr))), ((r 9), .inl (cZ, 40, .inl (bF mkz_1))), ((r 4), .inl (cZ, 40, .inl (bF sb))), ((r 3), .inl (cI, 40, .inl sv)), ((r 8), .inl (cZ, 40, .inl (bF o3))), ((r 19), .inl (cI, 120, .inl (nF cc))), ((r 20), .inl (cI, 3, .inl (nF lg))), ((r 25), .inl (cI, 120, .inl h3)), ((r 26), .inl (cI, 3, .inl (nF n3)))] H := hP.sub (ws' := [zR r cn mn mi nn, ((r 18), .inl (cZ, 3, .inl (bF dw))), ((r 1), .inl (cI, 40, .inl (oF bf))), ((r 2), .inl (cI, 40, .inl (nF rc))), ((r 15), .inl (cI, 104, .inl (oF sr))), ((r 9), .inl (cZ, 40, .inl (bF mkz_1))), ((r 4), .inl (cZ, 40, .inl (bF sb))), ((r 3), .inl (cI, 40, .inl sv)), ((r 8), .inl (cZ, 40, .inl (bF o3))), ((r 19), .inl (cI, 120, .inl (nF cc))), ((r 20), .inl (cI, 3, .inl (nF lg))), ((r 25), .inl (cI, 120, .inl h3)), ((r 26), .inl (cI, 3, .inl (nF n3)))]) [7, 0, 8, 9, 10, 11, 12, 1, 2, 3, 4, 5, 6] rfl
        have hD : va_D A [zR r cn mn mi nn, ((r 18), .inl (cZ, 3, .inl (bF dw))), ((r 1), .inl (cI, 40, .inl (oF bf))), ((r 2), .inl (cI, 40, .inl (nF rc))), ((r 15), .inl (cI, 104, .inl (oF sr))), ((r 9), .inl (cZ, 40, .inl (bF mkz_1))), ((r 4), .inl (cZ, 40, .inl (bF sb))), ((r 3), .inl (cI, 40, .inl sv)), ((r 8), .inl (cZ, 40, .inl (bF o3))), ((r 19), .inl (cI, 120, .inl (nF cc))), ((r 20), .inl (cI, 3, .inl (nF lg))), ((r 25), .inl (cI, 120, .inl h3)), ((r 26), .inl (cI, 3, .inl (nF n3)))] := hD.sub (ws' := [zR r cn mn mi nn, ((r 18), .inl (cZ, 3, .inl (bF dw))), ((r 1), .inl (cI, 40, .inl (oF bf))), ((r 2), .inl (cI, 40, .inl (nF rc))), ((r 15), .inl (cI, 104, .inl (oF sr))), ((r 9), .inl (cZ, 40, .inl (bF mkz_1))), ((r 4), .inl (cZ, 40, .inl (bF sb))), ((r 3), .inl (cI, 40, .inl sv)), ((r 8), .inl (cZ, 40, .inl (bF o3))), ((r 19), .inl (cI, 120, .inl (nF cc))), ((r 20), .inl (cI, 3, .inl (nF lg))), ((r 25), .inl (cI, 120, .inl h3)), ((r 26), .inl (cI, 3, .inl (nF n3)))]) [7, 0, 8, 9, 10, 11, 12, 1, 2, 3, 4, 5, 6] (by decide) rfl
        refine lv_if_eq (tgt := 112) hx hb dc_R_release_65 (by decide) (fun hc => ?_) (fun hc => ?_)
        · have h5 : (dst_B bf rc sr sb (some (cc (40 * j + k))) cn) = false := bI_0.mp hc
          refine lv_iinc (k := 1) (v := nI (k + 1)) (lv' := [(3, .int (nI (k + 1))), (4, .int (nI (cc (40 * j + k)))), (2, .int (nI z)), (1, .int (nI j)), (0, .ref (r 0))]) hx hb dc_R_release_112 hl rfl (nI_inc1 _) (by decide) rfl (fun ls hl => ?_)
          refine lv_goto (tgt := 14) hx hb dc_R_release_115 (by decide) ?_
          exact ih14 (k + 1, z, o3, h3, q3, n3, mkz_1) H locs ls (by first | omega | (dsimp only; omega)) ⟨⟨by first | omega | (dsimp only; omega), by simp only [rr_S]; rw [← hI9.2.1]; simp [*], by first | exact hI9.2.2.1 | rw [hI9.2.2.1, bx_uu], by first | omega | (dsimp only; omega)⟩, hP, hD, hS, lv_sub hl [0, 2, 3, 4] rfl⟩
        · have h5 : (dst_B bf rc sr sb (some (cc (40 * j + k))) cn) = true := bI_n0.mp hc
          have hq40 : q3 < 40 := by have h7 := hro k hk; rw [← hI9.2.1] at h7; exact h7 h2 h4 h5
          refine lv_aload_n hx hb dc_R_release_68 rfl (lv_at hl 4 rfl) ?_
          refine va_get (D := (dC, dI)) (ci := 4) (v := .ref (r 8)) (C := cn_R) (T := ft_R) (N := 27) hx hb htb ki_R hown hK hP 0 rfl rfl 8 (by decide) (htb _ kw_378) (fun _ h9 => h9) rfl dc_R_release_69 ?_
          refine lv_iload hx hb dc_R_release_72 (lv_at hl 0 rfl) ?_
          refine lv_iconst (v := nI 1) hx hb dc_R_release_74 (by decide) ?_
          refine tp_i (y := bI true) (rfl) ?_
          refine wa_bst (k := cc (40 * j + k)) (x := true) hx hb hK hP hD hS 8 2 rfl rfl (by omega) (by omega) dc_R_release_75 (fun H locs hP hD hS => ?_)
          have hP : va_P (dC, dI) clsL [zR r cn mn mi nn, ((r 18), .inl (cZ, 3, .inl (bF dw))), ((r 1), .inl (cI, 40, .inl (oF bf))), ((r 2), .inl (cI, 40, .inl (nF rc))), ((r 15), .inl (cI, 104, .inl (oF sr))), ((r 9), .inl (cZ, 40, .inl (bF mkz_1))), ((r 4), .inl (cZ, 40, .inl (bF sb))), ((r 3), .inl (cI, 40, .inl sv)), ((r 8), .inl (cZ, 40, .inl (bF (va_up o3 (cc (40 * j + k)) true)))), ((r 19), .inl (cI, 120, .inl (nF cc))), ((r 20), .inl (cI, 3, .inl (nF lg))), ((r 25), .inl (cI, 120, .inl h3)), ((r 26), .inl (cI, 3, .inl (nF n3)))] H := hP
          have hD : va_D A [zR r cn mn mi nn, ((r 18), .inl (cZ, 3, .inl (bF dw))), ((r 1), .inl (cI, 40, .inl (oF bf))), ((r 2), .inl (cI, 40, .inl (nF rc))), ((r 15), .inl (cI, 104, .inl (oF sr))), ((r 9), .inl (cZ, 40, .inl (bF mkz_1))), ((r 4), .inl (cZ, 40, .inl (bF sb))), ((r 3), .inl (cI, 40, .inl sv)), ((r 8), .inl (cZ, 40, .inl (bF (va_up o3 (cc (40 * j + k)) true)))), ((r 19), .inl (cI, 120, .inl (nF cc))), ((r 20), .inl (cI, 3, .inl (nF lg))), ((r 25), .inl (cI, 120, .inl h3)), ((r 26), .inl (cI, 3, .inl (nF n3)))] := hD
          refine lv_aload_n hx hb dc_R_release_76 rfl (lv_at hl 4 rfl) ?_
          refine va_get (D := (dC, dI)) (ci := 4) (v := .ref (r 25)) (C := cn_R) (T := ft_R) (N := 27) hx hb htb ki_R hown hK hP 0 rfl rfl 25 (by decide) (htb _ kw_395) (fun _ h9 => h9) rfl dc_R_release_77 ?_
          refine lv_bipush (v := nI 40) hx hb dc_R_release_80 (by decide) ?_
          refine lv_iload_n hx hb dc_R_release_82 rfl (lv_at hl 3 rfl) ?_
          refine lv_imul hx hb dc_R_release_83 ?_
          refine tp_i (y := nI (40 * j)) (pk_mul _ _) ?_
          refine lv_aload_n hx hb dc_R_release_84 rfl (lv_at hl 4 rfl) ?_
          refine va_get (D := (dC, dI)) (ci := 4) (v := .ref (r 26)) (C := cn_R) (T := ft_R) (N := 27) hx hb htb ki_R hown hK hP 0 rfl rfl 26 (by decide) (htb _ kw_396) (fun _ h9 => h9) rfl dc_R_release_85 ?_
          refine lv_iload_n hx hb dc_R_release_88 rfl (lv_at hl 3 rfl) ?_
          refine wa_nld (k := j) hx hb hK hP 12 0 rfl rfl (by omega) (by omega) dc_R_release_89 ?_
          refine tp_i (y := nI q3) (by rw [hI9.2.2.1, va_up_self]) ?_
          refine lv_iadd hx hb dc_R_release_90 ?_
          refine tp_i (y := nI (40 * j + q3)) (nI_add _ _) ?_
          refine lv_aload_n hx hb dc_R_release_91 rfl (lv_at hl 4 rfl) ?_
          refine va_get (D := (dC, dI)) (ci := 4) (v := .ref (r 3)) (C := cn_R) (T := ft_R) (N := 27) hx hb htb ki_R hown hK hP 0 rfl rfl 3 (by decide) (htb _ kw_373) (fun _ h9 => h9) rfl dc_R_release_92 ?_
          refine lv_iload hx hb dc_R_release_95 (lv_at hl 0 rfl) ?_
          refine wa_ild (k := cc (40 * j + k)) hx hb hK hP 7 0 rfl rfl (by omega) (by omega) dc_R_release_97 ?_
          refine wa_ist (k := 40 * j + q3) (x := sv (cc (40 * j + k))) hx hb hK hP hD hS 11 0 rfl rfl (by omega) (by omega) dc_R_release_98 (fun H locs hP hD hS => ?_)
          have hP : va_P (dC, dI) clsL [zR r cn mn mi nn, ((r 18), .inl (cZ, 3, .inl (bF dw))), ((r 1), .inl (cI, 40, .inl (oF bf))), ((r 2), .inl (cI, 40, .inl (nF rc))), ((r 15), .inl (cI, 104, .inl (oF sr))), ((r 9), .inl (cZ, 40, .inl (bF mkz_1))), ((r 4), .inl (cZ, 40, .inl (bF sb))), ((r 3), .inl (cI, 40, .inl sv)), ((r 8), .inl (cZ, 40, .inl (bF (va_up o3 (cc (40 * j + k)) true)))), ((r 19), .inl (cI, 120, .inl (nF cc))), ((r 20), .inl (cI, 3, .inl (nF lg))), ((r 25), .inl (cI, 120, .inl (va_up h3 (40 * j + q3) (sv (cc (40 * j + k)))))), ((r 26), .inl (cI, 3, .inl (nF n3)))] H := hP
          have hD : va_D A [zR r cn mn mi nn, ((r 18), .inl (cZ, 3, .inl (bF dw))), ((r 1), .inl (cI, 40, .inl (oF bf))), ((r 2), .inl (cI, 40, .inl (nF rc))), ((r 15), .inl (cI, 104, .inl (oF sr))), ((r 9), .inl (cZ, 40, .inl (bF mkz_1))), ((r 4), .inl (cZ, 40, .inl (bF sb))), ((r 3), .inl (cI, 40, .inl sv)), ((r 8), .inl (cZ, 40, .inl (bF (va_up o3 (cc (40 * j + k)) true)))), ((r 19), .inl (cI, 120, .inl (nF cc))), ((r 20), .inl (cI, 3, .inl (nF lg))), ((r 25), .inl (cI, 120, .inl (va_up h3 (40 * j + q3) (sv (cc (40 * j + k)))))), ((r 26), .inl (cI, 3, .inl (nF n3)))] := hD
          refine lv_aload_n hx hb dc_R_release_99 rfl (lv_at hl 4 rfl) ?_
          refine va_get (D := (dC, dI)) (ci := 4) (v := .ref (r 26)) (C := cn_R) (T := ft_R) (N := 27) hx hb htb ki_R hown hK hP 0 rfl rfl 26 (by decide) (htb _ kw_396) (fun _ h9 => h9) rfl dc_R_release_100 ?_
          refine lv_iload_n hx hb dc_R_release_103 rfl (lv_at hl 3 rfl) ?_
          refine lv_dup2_11 hx hb dc_R_release_104 rfl rfl ?_
          refine wa_nld (k := j) hx hb hK hP 12 0 rfl rfl (by omega) (by omega) dc_R_release_105 ?_
          refine tp_i (y := nI q3) (by rw [hI9.2.2.1, va_up_self]) ?_
          refine lv_iconst (v := nI 1) hx hb dc_R_release_106 (by decide) ?_
          refine lv_iadd hx hb dc_R_release_107 ?_
          refine tp_i (y := nI (q3 + 1)) (nI_add _ _) ?_
          refine wa_nst (k := j) (x := q3 + 1) hx hb hK hP hD hS 12 0 rfl rfl (by omega) (by omega) dc_R_release_108 (fun H locs hP hD hS => ?_)
          have hP : va_P (dC, dI) clsL [zR r cn mn mi nn, ((r 18), .inl (cZ, 3, .inl (bF dw))), ((r 1), .inl (cI, 40, .inl (oF bf))), ((r 2), .inl (cI, 40, .inl (nF rc))), ((r 15), .inl (cI, 104, .inl (oF sr))), ((r 9), .inl (cZ, 40, .inl (bF mkz_1))), ((r 4), .inl (cZ, 40, .inl (bF sb))), ((r 3), .inl (cI, 40, .inl sv)), ((r 8), .inl (cZ, 40, .inl (bF (va_up o3 (cc (40 * j + k)) true)))), ((r 19), .inl (cI, 120, .inl (nF cc))), ((r 20), .inl (cI, 3, .inl (nF lg))), ((r 25), .inl (cI, 120, .inl (va_up h3 (40 * j + q3) (sv (cc (40 * j + k)))))), ((r 26), .inl (cI, 3, .inl (nF (va_up n3 j (q3 + 1)))))] H := hP
          have hD : va_D A [zR r cn mn mi nn, ((r 18), .inl (cZ, 3, .inl (bF dw))), ((r 1), .inl (cI, 40, .inl (oF bf))), ((r 2), .inl (cI, 40, .inl (nF rc))), ((r 15), .inl (cI, 104, .inl (oF sr))), ((r 9), .inl (cZ, 40, .inl (bF mkz_1))), ((r 4), .inl (cZ, 40, .inl (bF sb))), ((r 3), .inl (cI, 40, .inl sv)), ((r 8), .inl (cZ, 40, .inl (bF (va_up o3 (cc (40 * j + k)) true)))), ((r 19), .inl (cI, 120, .inl (nF cc))), ((r 20), .inl (cI, 3, .inl (nF lg))), ((r 25), .inl (cI, 120, .inl (va_up h3 (40 * j + q3) (sv (cc (40 * j + k)))))), ((r 26), .inl (cI, 3, .inl (nF (va_up n3 j (q3 + 1)))))] := hD
          refine lv_iinc (k := 2) (v := nI (z + 1)) (lv' := [(2, .int (nI (z + 1))), (4, .int (nI (cc (40 * j + k)))), (3, .int (nI k)), (1, .int (nI j)), (0, .ref (r 0))]) hx hb dc_R_release_109 hl rfl (nI_inc1 _) (by decide) rfl (fun ls hl => ?_)
          refine lv_iinc (k := 2) (v := nI (k + 1)) (lv' := [(3, .int (nI (k + 1))), (2, .int (nI (z + 1))), (4, .int (nI (cc (40 * j + k)))), (1, .int (nI j)), (0, .ref (r 0))]) hx hb dc_R_release_112 hl rfl (nI_inc1 _) (by decide) rfl (fun ls hl => ?_)
          refine lv_goto (tgt := 14) hx hb dc_R_release_115 (by decide) ?_
          exact ih14 (k + 1, z + 1, va_up o3 (cc (40 * j + k)) true, va_up h3 (40 * j + q3) (sv (cc (40 * j + k))), q3 + 1, va_up n3 j (q3 + 1), mkz_1) H locs ls (by first | omega | (dsimp only; omega)) ⟨⟨by first | omega | (dsimp only; omega), by simp only [rr_S]; rw [← hI9.2.1]; simp [*], by first | exact hI9.2.2.1 | rw [hI9.2.2.1, bx_uu], by first | omega | (dsimp only; omega)⟩, hP, hD, hS, lv_sub hl [0, 1, 3, 4] rfl⟩

set_option maxHeartbeats 4000000 in
set_option maxRecDepth 100000 in
theorem oc_R_released_no (l : Launch) (dC : Nat → ClassId) (dI : Nat → Nat → Nat) (cI cJ cZ cP : ClassId) (sz : Nat) (r : Nat → Nat) (cn : Nat) (mn : Nat) (mi : Nat) (nn : Nat) (y : Int32) (w : Int32) (hy : y < 0 ∨ nI 3 ≤ y) : mt_I l mn_R_released bc_R_released 3 (some .int) ({ frames := 1, cells := 0, slots := 0, locals := 21 }) (dC, dI) (TYS cI cJ cZ cP) sz [.ref (r 0), .int y, .int w] [zR r cn mn mi nn] [zR r cn mn mi nn] (nI 0) 0 0 := by
  unfold mt_I
  refine Met.ofW (cc := bc_R_released) (maxL := 3) (ret := (some .int)) (by decide) rfl ?_
  intro p e s m args below meth c s₁ B hml hv
  obtain ⟨rfl, hsz, hP, hK, hD0⟩ := hv
  have hx := B.exec
  have hb := B.bytes
  have hr := B.returns
  have hts := atoms_spec (ws := wsT mn_R_released bc_R_released 3 (some .int)) B.pre
  have htb : ∀ w ∈ gtbl, w.before _ s = true := fun w h => hts w (List.mem_cons_of_mem _ h)
  have hown : s.vm.findClass cn_R = some m.cls := findClass_of_methodNamed B.named
  have hlocks := B.notSynchronized
  subst hsz
  have hD := hD0.self (sz := s.heap.size)
  generalize hAe : va_A [zR r cn mn mi nn] s.heap.size = A at hD ⊢
  have hA : ∀ q : Nat, s.heap.size ≤ q → A q := fun q h => by rw [← hAe]; exact Or.inr h
  have hS : va_S A s.heap s.heap [] := va_S.rf
  have hP : va_P (dC, dI) clsL [zR r cn mn mi nn] s.heap := hP
  have hl := lv_entry ([.ref (r 0), .int y, .int w]) (n := 3) (Nat.le_of_ble_eq_true rfl)
  rw [lg_entry_eq]
  generalize (lg_sl ([.ref (r 0), .int y, .int w]) ++ List.replicate (3 - (lg_sl ([.ref (r 0), .int y, .int w])).length) Slot.unset).toArray = ls at hl ⊢
  have hl : lv_has ls 3 [(0, .ref (r 0)), (1, .int y), (2, .int w)] := hl
  refine lv_aload_n hx hb dc_R_released_0 rfl (lv_at hl 0 rfl) ?_
  refine lv_iload_n hx hb dc_R_released_1 rfl (lv_at hl 1 rfl) ?_
  refine cl_i (wc := [zR r cn mn mi nn]) (wr := []) (w1 := [zR r cn mn mi nn]) hP hD hS hA [0] [] rfl rfl (by decide) (by decide) (va_runV (As := [.int y]) (rest := []) ⟨hx, hb, hml, hown, htb⟩ (oc_R_isProcess_no l dC dI cI cJ cZ cP _ r cn mn mi nn y (by first | assumption | omega)) (cwV 1 htb (gw_V kw_458 kw_460 kp_13 kw_5 kw_461) rfl rfl rfl (by decide +kernel) ⟨Nat.le_of_ble_eq_true rfl, Nat.le_of_ble_eq_true rfl⟩) (pr_V hP hK hD (va_recv hK hP (ci := 4) (q0 := 0) rfl rfl) [0] (by decide) rfl rfl) rfl rfl hl.1 rfl (lv_room (Nat.le_of_ble_eq_true rfl)) dc_R_released_2 ⟨Nat.le_of_ble_eq_true rfl, Nat.le_of_ble_eq_true rfl⟩) (fun H locs hP hD hS => ?_)
  have hP : va_P (dC, dI) clsL [zR r cn mn mi nn] H := hP.sub (ws' := [zR r cn mn mi nn]) [0] rfl
  have hD : va_D A [zR r cn mn mi nn] := hD.sub (ws' := [zR r cn mn mi nn]) [0] (by decide) rfl
  refine lv_if_eq (tgt := 36) hx hb dc_R_released_5 (by decide) (fun hc => ?_) (fun hc => ?_)
  rotate_left
  · have h1 : false = true := bI_n0.mp hc
    exact absurd h1 (by decide)
  have h1 : false = false := bI_0.mp hc
  refine lv_iconst (v := nI 0) hx hb dc_R_released_36 (by decide) ?_
  have hP9 := hP.sub (ws' := [zR r cn mn mi nn]) [0] rfl
  have hD9 := hD.sub (ws' := [zR r cn mn mi nn]) [0] (by decide) rfl
  exact W.iret (v := nI 0) hx hb hr (fun t ht hW => ⟨⟨_, (), rfl, rfl, by rw [ht]; exact hP9, va_K.moved hW.alike hK, hD9⟩, hS.F ht⟩) hS.2.2 dc_R_released_37

set_option maxHeartbeats 4000000 in
set_option maxRecDepth 100000 in
theorem oc_R_released_nk (l : Launch) (dC : Nat → ClassId) (dI : Nat → Nat → Nat) (cI cJ cZ cP : ClassId) (sz : Nat) (r : Nat → Nat) (cn : Nat) (mn : Nat) (mi : Nat) (nn : Nat) (sn : Nat → Nat) (j : Nat) (w : Int32) (hj : j < 3) (hw : w < 0 ∨ nI (sn j) ≤ w) : mt_I l mn_R_released bc_R_released 3 (some .int) ({ frames := 1, cells := 0, slots := 0, locals := 21 }) (dC, dI) (TYS cI cJ cZ cP) sz [.ref (r 0), .int (nI j), .int w] [zR r cn mn mi nn, ((r 26), .inl (cI, 3, .inl (nF sn)))] [zR r cn mn mi nn, ((r 26), .inl (cI, 3, .inl (nF sn)))] (nI 0) 0 0 := by
  unfold mt_I
  refine Met.ofW (cc := bc_R_released) (maxL := 3) (ret := (some .int)) (by decide) rfl ?_
  intro p e s m args below meth c s₁ B hml hv
  obtain ⟨rfl, hsz, hP, hK, hD0⟩ := hv
  have hx := B.exec
  have hb := B.bytes
  have hr := B.returns
  have hts := atoms_spec (ws := wsT mn_R_released bc_R_released 3 (some .int)) B.pre
  have htb : ∀ w ∈ gtbl, w.before _ s = true := fun w h => hts w (List.mem_cons_of_mem _ h)
  have hown : s.vm.findClass cn_R = some m.cls := findClass_of_methodNamed B.named
  have hlocks := B.notSynchronized
  subst hsz
  have hD := hD0.self (sz := s.heap.size)
  generalize hAe : va_A [zR r cn mn mi nn, ((r 26), .inl (cI, 3, .inl (nF sn)))] s.heap.size = A at hD ⊢
  have hA : ∀ q : Nat, s.heap.size ≤ q → A q := fun q h => by rw [← hAe]; exact Or.inr h
  have hS : va_S A s.heap s.heap [] := va_S.rf
  have hP : va_P (dC, dI) clsL [zR r cn mn mi nn, ((r 26), .inl (cI, 3, .inl (nF sn)))] s.heap := hP
  have hl := lv_entry ([.ref (r 0), .int (nI j), .int w]) (n := 3) (Nat.le_of_ble_eq_true rfl)
  rw [lg_entry_eq]
  generalize (lg_sl ([.ref (r 0), .int (nI j), .int w]) ++ List.replicate (3 - (lg_sl ([.ref (r 0), .int (nI j), .int w])).length) Slot.unset).toArray = ls at hl ⊢
  have hl : lv_has ls 3 [(0, .ref (r 0)), (1, .int (nI j)), (2, .int w)] := hl
  refine lv_aload_n hx hb dc_R_released_0 rfl (lv_at hl 0 rfl) ?_
  refine lv_iload_n hx hb dc_R_released_1 rfl (lv_at hl 1 rfl) ?_
  refine cl_i (wc := [zR r cn mn mi nn]) (wr := [((r 26), .inl (cI, 3, .inl (nF sn)))]) (w1 := [zR r cn mn mi nn]) hP hD hS hA [0] [1] rfl rfl (by decide) (by decide) (va_runV (As := [.int (nI j)]) (rest := []) ⟨hx, hb, hml, hown, htb⟩ (oc_R_isProcess l dC dI cI cJ cZ cP _ r cn mn mi nn j (by first | assumption | omega)) (cwV 1 htb (gw_V kw_458 kw_460 kp_13 kw_5 kw_461) rfl rfl rfl (by decide +kernel) ⟨Nat.le_of_ble_eq_true rfl, Nat.le_of_ble_eq_true rfl⟩) (pr_V hP hK hD (va_recv hK hP (ci := 4) (q0 := 0) rfl rfl) [0] (by decide) rfl rfl) rfl rfl hl.1 rfl (lv_room (Nat.le_of_ble_eq_true rfl)) dc_R_released_2 ⟨Nat.le_of_ble_eq_true rfl, Nat.le_of_ble_eq_true rfl⟩) (fun H locs hP hD hS => ?_)
  have hP : va_P (dC, dI) clsL [zR r cn mn mi nn, ((r 26), .inl (cI, 3, .inl (nF sn)))] H := hP.sub (ws' := [zR r cn mn mi nn, ((r 26), .inl (cI, 3, .inl (nF sn)))]) [1, 0] rfl
  have hD : va_D A [zR r cn mn mi nn, ((r 26), .inl (cI, 3, .inl (nF sn)))] := hD.sub (ws' := [zR r cn mn mi nn, ((r 26), .inl (cI, 3, .inl (nF sn)))]) [1, 0] (by decide) rfl
  refine lv_if_eq (tgt := 36) hx hb dc_R_released_5 (by decide) (fun hc => ?_) (fun hc => ?_)
  · have h1 : true = false := bI_0.mp hc
    exact absurd h1 (by decide)
  have h1 : true = true := bI_n0.mp hc
  refine lv_iload_n hx hb dc_R_released_8 rfl (lv_at hl 2 rfl) ?_
  refine lv_if_lt (tgt := 36) hx hb dc_R_released_9 (by decide) (fun hc => ?_) (fun hc => ?_)
  · have h2 := hc
    refine lv_iconst (v := nI 0) hx hb dc_R_released_36 (by decide) ?_
    have hP9 := hP.sub (ws' := [zR r cn mn mi nn, ((r 26), .inl (cI, 3, .inl (nF sn)))]) [0, 1] rfl
    have hD9 := hD.sub (ws' := [zR r cn mn mi nn, ((r 26), .inl (cI, 3, .inl (nF sn)))]) [0, 1] (by decide) rfl
    exact W.iret (v := nI 0) hx hb hr (fun t ht hW => ⟨⟨_, (), rfl, rfl, by rw [ht]; exact hP9, va_K.moved hW.alike hK, hD9⟩, hS.F ht⟩) hS.2.2 dc_R_released_37
  · have h2 := hc
    refine lv_iload_n hx hb dc_R_released_12 rfl (lv_at hl 2 rfl) ?_
    refine lv_aload_n hx hb dc_R_released_13 rfl (lv_at hl 0 rfl) ?_
    refine va_get (D := (dC, dI)) (ci := 4) (v := .ref (r 26)) (C := cn_R) (T := ft_R) (N := 27) hx hb htb ki_R hown hK hP 0 rfl rfl 26 (by decide) (htb _ kw_396) (fun _ h9 => h9) rfl dc_R_released_14 ?_
    refine lv_iload_n hx hb dc_R_released_17 rfl (lv_at hl 1 rfl) ?_
    refine wa_nld (k := j) hx hb hK hP 1 0 rfl rfl (by omega) (by omega) dc_R_released_18 ?_
    refine lv_icmp_ge (tgt := 36) hx hb dc_R_released_19 (by decide) (fun hc => ?_) (fun hc => ?_)
    rotate_left
    · have h3 := hc
      exact absurd hw (fun q => q.elim h2 h3)
    have h3 := hc
    refine lv_iconst (v := nI 0) hx hb dc_R_released_36 (by decide) ?_
    have hP9 := hP.sub (ws' := [zR r cn mn mi nn, ((r 26), .inl (cI, 3, .inl (nF sn)))]) [0, 1] rfl
    have hD9 := hD.sub (ws' := [zR r cn mn mi nn, ((r 26), .inl (cI, 3, .inl (nF sn)))]) [0, 1] (by decide) rfl
    exact W.iret (v := nI 0) hx hb hr (fun t ht hW => ⟨⟨_, (), rfl, rfl, by rw [ht]; exact hP9, va_K.moved hW.alike hK, hD9⟩, hS.F ht⟩) hS.2.2 dc_R_released_37

set_option maxHeartbeats 4000000 in
set_option maxRecDepth 100000 in
theorem oc_R_released (l : Launch) (dC : Nat → ClassId) (dI : Nat → Nat → Nat) (cI cJ cZ cP : ClassId) (sz : Nat) (r : Nat → Nat) (cn : Nat) (mn : Nat) (mi : Nat) (nn : Nat) (sn : Nat → Nat) (sh : Nat → Int32) (j : Nat) (k : Nat) (hj : j < 3) (hk : k < sn j) (hsn : sn j ≤ 40) : mt_I l mn_R_released bc_R_released 3 (some .int) ({ frames := 1, cells := 0, slots := 0, locals := 21 }) (dC, dI) (TYS cI cJ cZ cP) sz [.ref (r 0), .int (nI j), .int (nI k)] [zR r cn mn mi nn, ((r 26), .inl (cI, 3, .inl (nF sn))), ((r 25), .inl (cI, 120, .inl sh))] [zR r cn mn mi nn, ((r 26), .inl (cI, 3, .inl (nF sn))), ((r 25), .inl (cI, 120, .inl sh))] ((sh (40 * j + k))) 0 0 := by
  unfold mt_I
  refine Met.ofW (cc := bc_R_released) (maxL := 3) (ret := (some .int)) (by decide) rfl ?_
  intro p e s m args below meth c s₁ B hml hv
  obtain ⟨rfl, hsz, hP, hK, hD0⟩ := hv
  have hx := B.exec
  have hb := B.bytes
  have hr := B.returns
  have hts := atoms_spec (ws := wsT mn_R_released bc_R_released 3 (some .int)) B.pre
  have htb : ∀ w ∈ gtbl, w.before _ s = true := fun w h => hts w (List.mem_cons_of_mem _ h)
  have hown : s.vm.findClass cn_R = some m.cls := findClass_of_methodNamed B.named
  have hlocks := B.notSynchronized
  subst hsz
  have hD := hD0.self (sz := s.heap.size)
  generalize hAe : va_A [zR r cn mn mi nn, ((r 26), .inl (cI, 3, .inl (nF sn))), ((r 25), .inl (cI, 120, .inl sh))] s.heap.size = A at hD ⊢
  have hA : ∀ q : Nat, s.heap.size ≤ q → A q := fun q h => by rw [← hAe]; exact Or.inr h
  have hS : va_S A s.heap s.heap [] := va_S.rf
  have hP : va_P (dC, dI) clsL [zR r cn mn mi nn, ((r 26), .inl (cI, 3, .inl (nF sn))), ((r 25), .inl (cI, 120, .inl sh))] s.heap := hP
  have hl := lv_entry ([.ref (r 0), .int (nI j), .int (nI k)]) (n := 3) (Nat.le_of_ble_eq_true rfl)
  rw [lg_entry_eq]
  generalize (lg_sl ([.ref (r 0), .int (nI j), .int (nI k)]) ++ List.replicate (3 - (lg_sl ([.ref (r 0), .int (nI j), .int (nI k)])).length) Slot.unset).toArray = ls at hl ⊢
  have hl : lv_has ls 3 [(0, .ref (r 0)), (1, .int (nI j)), (2, .int (nI k))] := hl
  refine lv_aload_n hx hb dc_R_released_0 rfl (lv_at hl 0 rfl) ?_
  refine lv_iload_n hx hb dc_R_released_1 rfl (lv_at hl 1 rfl) ?_
  refine cl_i (wc := [zR r cn mn mi nn]) (wr := [((r 26), .inl (cI, 3, .inl (nF sn))), ((r 25), .inl (cI, 120, .inl sh))]) (w1 := [zR r cn mn mi nn]) hP hD hS hA [0] [1, 2] rfl rfl (by decide) (by decide) (va_runV (As := [.int (nI j)]) (rest := []) ⟨hx, hb, hml, hown, htb⟩ (oc_R_isProcess l dC dI cI cJ cZ cP _ r cn mn mi nn j (by first | assumption | omega)) (cwV 1 htb (gw_V kw_458 kw_460 kp_13 kw_5 kw_461) rfl rfl rfl (by decide +kernel) ⟨Nat.le_of_ble_eq_true rfl, Nat.le_of_ble_eq_true rfl⟩) (pr_V hP hK hD (va_recv hK hP (ci := 4) (q0 := 0) rfl rfl) [0] (by decide) rfl rfl) rfl rfl hl.1 rfl (lv_room (Nat.le_of_ble_eq_true rfl)) dc_R_released_2 ⟨Nat.le_of_ble_eq_true rfl, Nat.le_of_ble_eq_true rfl⟩) (fun H locs hP hD hS => ?_)
  have hP : va_P (dC, dI) clsL [zR r cn mn mi nn, ((r 26), .inl (cI, 3, .inl (nF sn))), ((r 25), .inl (cI, 120, .inl sh))] H := hP.sub (ws' := [zR r cn mn mi nn, ((r 26), .inl (cI, 3, .inl (nF sn))), ((r 25), .inl (cI, 120, .inl sh))]) [2, 0, 1] rfl
  have hD : va_D A [zR r cn mn mi nn, ((r 26), .inl (cI, 3, .inl (nF sn))), ((r 25), .inl (cI, 120, .inl sh))] := hD.sub (ws' := [zR r cn mn mi nn, ((r 26), .inl (cI, 3, .inl (nF sn))), ((r 25), .inl (cI, 120, .inl sh))]) [2, 0, 1] (by decide) rfl
  refine lv_if_eq (tgt := 36) hx hb dc_R_released_5 (by decide) (fun hc => ?_) (fun hc => ?_)
  · have h1 : true = false := bI_0.mp hc
    exact absurd h1 (by decide)
  have h1 : true = true := bI_n0.mp hc
  refine lv_iload_n hx hb dc_R_released_8 rfl (lv_at hl 2 rfl) ?_
  refine lv_if_lt (tgt := 36) hx hb dc_R_released_9 (by decide) (fun hc => ?_) (fun hc => ?_)
  · have h2 : False := nI_pos (by omega) hc
    exact h2.elim
  have h2 : 0 ≤ k := Nat.zero_le _
  refine lv_iload_n hx hb dc_R_released_12 rfl (lv_at hl 2 rfl) ?_
  refine lv_aload_n hx hb dc_R_released_13 rfl (lv_at hl 0 rfl) ?_
  refine va_get (D := (dC, dI)) (ci := 4) (v := .ref (r 26)) (C := cn_R) (T := ft_R) (N := 27) hx hb htb ki_R hown hK hP 0 rfl rfl 26 (by decide) (htb _ kw_396) (fun _ h9 => h9) rfl dc_R_released_14 ?_
  refine lv_iload_n hx hb dc_R_released_17 rfl (lv_at hl 1 rfl) ?_
  refine wa_nld (k := j) hx hb hK hP 1 0 rfl rfl (by omega) (by omega) dc_R_released_18 ?_
  refine lv_icmp_ge (tgt := 36) hx hb dc_R_released_19 (by decide) (fun hc => ?_) (fun hc => ?_)
  · have h3 : (sn j) ≤ k := (nI_leI (by omega) (by omega)).mp hc
    exact absurd h3 (by omega)
  have h3 : k < (sn j) := Nat.lt_of_not_le (fun h9 => hc ((nI_leI (by omega) (by omega)).mpr h9))
  refine lv_aload_n hx hb dc_R_released_22 rfl (lv_at hl 0 rfl) ?_
  refine va_get (D := (dC, dI)) (ci := 4) (v := .ref (r 25)) (C := cn_R) (T := ft_R) (N := 27) hx hb htb ki_R hown hK hP 0 rfl rfl 25 (by decide) (htb _ kw_395) (fun _ h9 => h9) rfl dc_R_released_23 ?_
  refine lv_bipush (v := nI 40) hx hb dc_R_released_26 (by decide) ?_
  refine lv_iload_n hx hb dc_R_released_28 rfl (lv_at hl 1 rfl) ?_
  refine lv_imul hx hb dc_R_released_29 ?_
  refine tp_i (y := nI (40 * j)) (pk_mul _ _) ?_
  refine lv_iload_n hx hb dc_R_released_30 rfl (lv_at hl 2 rfl) ?_
  refine lv_iadd hx hb dc_R_released_31 ?_
  refine tp_i (y := nI (40 * j + k)) (nI_add _ _) ?_
  refine wa_ild (k := 40 * j + k) hx hb hK hP 2 0 rfl rfl (by omega) (by omega) dc_R_released_32 ?_
  refine lv_goto (tgt := 37) hx hb dc_R_released_33 (by decide) ?_
  have hP9 := hP.sub (ws' := [zR r cn mn mi nn, ((r 26), .inl (cI, 3, .inl (nF sn))), ((r 25), .inl (cI, 120, .inl sh))]) [0, 1, 2] rfl
  have hD9 := hD.sub (ws' := [zR r cn mn mi nn, ((r 26), .inl (cI, 3, .inl (nF sn))), ((r 25), .inl (cI, 120, .inl sh))]) [0, 1, 2] (by decide) rfl
  exact W.iret (v := sh (40 * j + k)) hx hb hr (fun t ht hW => ⟨⟨_, (), rfl, rfl, by rw [ht]; exact hP9, va_K.moved hW.alike hK, hD9⟩, hS.F ht⟩) hS.2.2 dc_R_released_37

set_option maxHeartbeats 4000000 in
set_option maxRecDepth 100000 in
theorem oc_R_status_no (l : Launch) (dC : Nat → ClassId) (dI : Nat → Nat → Nat) (cI cJ cZ cP : ClassId) (sz : Nat) (r : Nat → Nat) (cn : Nat) (mn : Nat) (mi : Nat) (nn : Nat) (y : Int32) (hy : y < 0 ∨ nI mn ≤ y) : mt_I l mn_R_status bc_R_status 2 (some .int) ({ frames := 1, cells := 0, slots := 0, locals := 21 }) (dC, dI) (TYS cI cJ cZ cP) sz [.ref (r 0), .int y] [zR r cn mn mi nn] [zR r cn mn mi nn] ((-1)) 0 0 := by
  unfold mt_I
  refine Met.ofW (cc := bc_R_status) (maxL := 2) (ret := (some .int)) (by decide) rfl ?_
  intro p e s m args below meth c s₁ B hml hv
  obtain ⟨rfl, hsz, hP, hK, hD0⟩ := hv
  have hx := B.exec
  have hb := B.bytes
  have hr := B.returns
  have hts := atoms_spec (ws := wsT mn_R_status bc_R_status 2 (some .int)) B.pre
  have htb : ∀ w ∈ gtbl, w.before _ s = true := fun w h => hts w (List.mem_cons_of_mem _ h)
  have hown : s.vm.findClass cn_R = some m.cls := findClass_of_methodNamed B.named
  have hlocks := B.notSynchronized
  subst hsz
  have hD := hD0.self (sz := s.heap.size)
  generalize hAe : va_A [zR r cn mn mi nn] s.heap.size = A at hD ⊢
  have hA : ∀ q : Nat, s.heap.size ≤ q → A q := fun q h => by rw [← hAe]; exact Or.inr h
  have hS : va_S A s.heap s.heap [] := va_S.rf
  have hP : va_P (dC, dI) clsL [zR r cn mn mi nn] s.heap := hP
  have hl := lv_entry ([.ref (r 0), .int y]) (n := 2) (Nat.le_of_ble_eq_true rfl)
  rw [lg_entry_eq]
  generalize (lg_sl ([.ref (r 0), .int y]) ++ List.replicate (2 - (lg_sl ([.ref (r 0), .int y])).length) Slot.unset).toArray = ls at hl ⊢
  have hl : lv_has ls 2 [(0, .ref (r 0)), (1, .int y)] := hl
  refine lv_aload_n hx hb dc_R_status_0 rfl (lv_at hl 0 rfl) ?_
  refine lv_iload_n hx hb dc_R_status_1 rfl (lv_at hl 1 rfl) ?_
  refine cl_i (wc := [zR r cn mn mi nn]) (wr := []) (w1 := [zR r cn mn mi nn]) hP hD hS hA [0] [] rfl rfl (by decide) (by decide) (va_runV (As := [.int y]) (rest := []) ⟨hx, hb, hml, hown, htb⟩ (oc_R_isMessage_no l dC dI cI cJ cZ cP _ r cn mn mi nn y (by first | assumption | omega)) (cwV 1 htb (gw_V kw_470 kw_472 kp_15 kw_5 kw_473) rfl rfl rfl (by decide +kernel) ⟨Nat.le_of_ble_eq_true rfl, Nat.le_of_ble_eq_true rfl⟩) (pr_V hP hK hD (va_recv hK hP (ci := 4) (q0 := 0) rfl rfl) [0] (by decide) rfl rfl) rfl rfl hl.1 rfl (lv_room (Nat.le_of_ble_eq_true rfl)) dc_R_status_2 ⟨Nat.le_of_ble_eq_true rfl, Nat.le_of_ble_eq_true rfl⟩) (fun H locs hP hD hS => ?_)
  have hP : va_P (dC, dI) clsL [zR r cn mn mi nn] H := hP.sub (ws' := [zR r cn mn mi nn]) [0] rfl
  have hD : va_D A [zR r cn mn mi nn] := hD.sub (ws' := [zR r cn mn mi nn]) [0] (by decide) rfl
  refine lv_if_eq (tgt := 17) hx hb dc_R_status_5 (by decide) (fun hc => ?_) (fun hc => ?_)
  rotate_left
  · have h1 : false = true := bI_n0.mp hc
    exact absurd h1 (by decide)
  have h1 : false = false := bI_0.mp hc
  refine lv_iconst (v := (-1)) hx hb dc_R_status_17 (by decide) ?_
  have hP9 := hP.sub (ws' := [zR r cn mn mi nn]) [0] rfl
  have hD9 := hD.sub (ws' := [zR r cn mn mi nn]) [0] (by decide) rfl
  exact W.iret (v := (-1)) hx hb hr (fun t ht hW => ⟨⟨_, (), rfl, rfl, by rw [ht]; exact hP9, va_K.moved hW.alike hK, hD9⟩, hS.F ht⟩) hS.2.2 dc_R_status_18

set_option maxHeartbeats 4000000 in
set_option maxRecDepth 100000 in
theorem oc_R_status (l : Launch) (dC : Nat → ClassId) (dI : Nat → Nat → Nat) (cI cJ cZ cP : ClassId) (sz : Nat) (r : Nat → Nat) (cn : Nat) (mn : Nat) (mi : Nat) (nn : Nat) (su : Nat → Nat) (k : Nat) (hk : k < mn) (hmn : mn ≤ 104) : mt_I l mn_R_status bc_R_status 2 (some .int) ({ frames := 1, cells := 0, slots := 0, locals := 21 }) (dC, dI) (TYS cI cJ cZ cP) sz [.ref (r 0), .int (nI k)] [zR r cn mn mi nn, ((r 14), .inl (cI, 104, .inl (nF su)))] [zR r cn mn mi nn, ((r 14), .inl (cI, 104, .inl (nF su)))] (nI (su k)) 0 0 := by
  unfold mt_I
  refine Met.ofW (cc := bc_R_status) (maxL := 2) (ret := (some .int)) (by decide) rfl ?_
  intro p e s m args below meth c s₁ B hml hv
  obtain ⟨rfl, hsz, hP, hK, hD0⟩ := hv
  have hx := B.exec
  have hb := B.bytes
  have hr := B.returns
  have hts := atoms_spec (ws := wsT mn_R_status bc_R_status 2 (some .int)) B.pre
  have htb : ∀ w ∈ gtbl, w.before _ s = true := fun w h => hts w (List.mem_cons_of_mem _ h)
  have hown : s.vm.findClass cn_R = some m.cls := findClass_of_methodNamed B.named
  have hlocks := B.notSynchronized
  subst hsz
  have hD := hD0.self (sz := s.heap.size)
  generalize hAe : va_A [zR r cn mn mi nn, ((r 14), .inl (cI, 104, .inl (nF su)))] s.heap.size = A at hD ⊢
  have hA : ∀ q : Nat, s.heap.size ≤ q → A q := fun q h => by rw [← hAe]; exact Or.inr h
  have hS : va_S A s.heap s.heap [] := va_S.rf
  have hP : va_P (dC, dI) clsL [zR r cn mn mi nn, ((r 14), .inl (cI, 104, .inl (nF su)))] s.heap := hP
  have hl := lv_entry ([.ref (r 0), .int (nI k)]) (n := 2) (Nat.le_of_ble_eq_true rfl)
  rw [lg_entry_eq]
  generalize (lg_sl ([.ref (r 0), .int (nI k)]) ++ List.replicate (2 - (lg_sl ([.ref (r 0), .int (nI k)])).length) Slot.unset).toArray = ls at hl ⊢
  have hl : lv_has ls 2 [(0, .ref (r 0)), (1, .int (nI k))] := hl
  refine lv_aload_n hx hb dc_R_status_0 rfl (lv_at hl 0 rfl) ?_
  refine lv_iload_n hx hb dc_R_status_1 rfl (lv_at hl 1 rfl) ?_
  refine cl_i (wc := [zR r cn mn mi nn]) (wr := [((r 14), .inl (cI, 104, .inl (nF su)))]) (w1 := [zR r cn mn mi nn]) hP hD hS hA [0] [1] rfl rfl (by decide) (by decide) (va_runV (As := [.int (nI k)]) (rest := []) ⟨hx, hb, hml, hown, htb⟩ (oc_R_isMessage l dC dI cI cJ cZ cP _ r cn mn mi nn k (by first | assumption | omega) (by first | assumption | omega)) (cwV 1 htb (gw_V kw_470 kw_472 kp_15 kw_5 kw_473) rfl rfl rfl (by decide +kernel) ⟨Nat.le_of_ble_eq_true rfl, Nat.le_of_ble_eq_true rfl⟩) (pr_V hP hK hD (va_recv hK hP (ci := 4) (q0 := 0) rfl rfl) [0] (by decide) rfl rfl) rfl rfl hl.1 rfl (lv_room (Nat.le_of_ble_eq_true rfl)) dc_R_status_2 ⟨Nat.le_of_ble_eq_true rfl, Nat.le_of_ble_eq_true rfl⟩) (fun H locs hP hD hS => ?_)
  have hP : va_P (dC, dI) clsL [zR r cn mn mi nn, ((r 14), .inl (cI, 104, .inl (nF su)))] H := hP.sub (ws' := [zR r cn mn mi nn, ((r 14), .inl (cI, 104, .inl (nF su)))]) [1, 0] rfl
  have hD : va_D A [zR r cn mn mi nn, ((r 14), .inl (cI, 104, .inl (nF su)))] := hD.sub (ws' := [zR r cn mn mi nn, ((r 14), .inl (cI, 104, .inl (nF su)))]) [1, 0] (by decide) rfl
  refine lv_if_eq (tgt := 17) hx hb dc_R_status_5 (by decide) (fun hc => ?_) (fun hc => ?_)
  · have h1 : true = false := bI_0.mp hc
    exact absurd h1 (by decide)
  have h1 : true = true := bI_n0.mp hc
  refine lv_aload_n hx hb dc_R_status_8 rfl (lv_at hl 0 rfl) ?_
  refine va_get (D := (dC, dI)) (ci := 4) (v := .ref (r 14)) (C := cn_R) (T := ft_R) (N := 27) hx hb htb ki_R hown hK hP 0 rfl rfl 14 (by decide) (htb _ kw_384) (fun _ h9 => h9) rfl dc_R_status_9 ?_
  refine lv_iload_n hx hb dc_R_status_12 rfl (lv_at hl 1 rfl) ?_
  refine wa_nld (k := k) hx hb hK hP 1 0 rfl rfl (by omega) (by omega) dc_R_status_13 ?_
  refine lv_goto (tgt := 18) hx hb dc_R_status_14 (by decide) ?_
  have hP9 := hP.sub (ws' := [zR r cn mn mi nn, ((r 14), .inl (cI, 104, .inl (nF su)))]) [0, 1] rfl
  have hD9 := hD.sub (ws' := [zR r cn mn mi nn, ((r 14), .inl (cI, 104, .inl (nF su)))]) [0, 1] (by decide) rfl
  exact W.iret (v := nI (su k)) hx hb hr (fun t ht hW => ⟨⟨_, (), rfl, rfl, by rw [ht]; exact hP9, va_K.moved hW.alike hK, hD9⟩, hS.F ht⟩) hS.2.2 dc_R_status_18

set_option maxHeartbeats 4000000 in
set_option maxRecDepth 100000 in
theorem oc_R_lose_no (l : Launch) (dC : Nat → ClassId) (dI : Nat → Nat → Nat) (cI cJ cZ cP : ClassId) (sz : Nat) (r : Nat → Nat) (cn : Nat) (mn : Nat) (mi : Nat) (nn : Nat) (y : Int32) (hy : y < 0 ∨ nI mn ≤ y) : mt_I l mn_R_lose bc_R_lose 2 (some .boolean) ({ frames := 1, cells := 0, slots := 0, locals := 21 }) (dC, dI) (TYS cI cJ cZ cP) sz [.ref (r 0), .int y] [zR r cn mn mi nn] [zR r cn mn mi nn] (bI false) 0 0 := by
  unfold mt_I
  refine Met.ofW (cc := bc_R_lose) (maxL := 2) (ret := (some .boolean)) (by decide) rfl ?_
  intro p e s m args below meth c s₁ B hml hv
  obtain ⟨rfl, hsz, hP, hK, hD0⟩ := hv
  have hx := B.exec
  have hb := B.bytes
  have hr := B.returns
  have hts := atoms_spec (ws := wsT mn_R_lose bc_R_lose 2 (some .boolean)) B.pre
  have htb : ∀ w ∈ gtbl, w.before _ s = true := fun w h => hts w (List.mem_cons_of_mem _ h)
  have hown : s.vm.findClass cn_R = some m.cls := findClass_of_methodNamed B.named
  have hlocks := B.notSynchronized
  subst hsz
  have hD := hD0.self (sz := s.heap.size)
  generalize hAe : va_A [zR r cn mn mi nn] s.heap.size = A at hD ⊢
  have hA : ∀ q : Nat, s.heap.size ≤ q → A q := fun q h => by rw [← hAe]; exact Or.inr h
  have hS : va_S A s.heap s.heap [] := va_S.rf
  have hP : va_P (dC, dI) clsL [zR r cn mn mi nn] s.heap := hP
  have hl := lv_entry ([.ref (r 0), .int y]) (n := 2) (Nat.le_of_ble_eq_true rfl)
  rw [lg_entry_eq]
  generalize (lg_sl ([.ref (r 0), .int y]) ++ List.replicate (2 - (lg_sl ([.ref (r 0), .int y])).length) Slot.unset).toArray = ls at hl ⊢
  have hl : lv_has ls 2 [(0, .ref (r 0)), (1, .int y)] := hl
  refine lv_aload_n hx hb dc_R_lose_0 rfl (lv_at hl 0 rfl) ?_
  refine lv_iload_n hx hb dc_R_lose_1 rfl (lv_at hl 1 rfl) ?_
  refine cl_i (wc := [zR r cn mn mi nn]) (wr := []) (w1 := [zR r cn mn mi nn]) hP hD hS hA [0] [] rfl rfl (by decide) (by decide) (va_runV (As := [.int y]) (rest := []) ⟨hx, hb, hml, hown, htb⟩ (oc_R_isMessage_no l dC dI cI cJ cZ cP _ r cn mn mi nn y (by first | assumption | omega)) (cwV 1 htb (gw_V kw_470 kw_472 kp_15 kw_5 kw_473) rfl rfl rfl (by decide +kernel) ⟨Nat.le_of_ble_eq_true rfl, Nat.le_of_ble_eq_true rfl⟩) (pr_V hP hK hD (va_recv hK hP (ci := 4) (q0 := 0) rfl rfl) [0] (by decide) rfl rfl) rfl rfl hl.1 rfl (lv_room (Nat.le_of_ble_eq_true rfl)) dc_R_lose_2 ⟨Nat.le_of_ble_eq_true rfl, Nat.le_of_ble_eq_true rfl⟩) (fun H locs hP hD hS => ?_)
  have hP : va_P (dC, dI) clsL [zR r cn mn mi nn] H := hP.sub (ws' := [zR r cn mn mi nn]) [0] rfl
  have hD : va_D A [zR r cn mn mi nn] := hD.sub (ws' := [zR r cn mn mi nn]) [0] (by decide) rfl
  refine lv_if_eq (tgt := 26) hx hb dc_R_lose_5 (by decide) (fun hc => ?_) (fun hc => ?_)
  rotate_left
  · have h1 : false = true := bI_n0.mp hc
    exact absurd h1 (by decide)
  have h1 : false = false := bI_0.mp hc
  refine lv_iconst (v := nI 0) hx hb dc_R_lose_26 (by decide) ?_
  have hP9 := hP.sub (ws' := [zR r cn mn mi nn]) [0] rfl
  have hD9 := hD.sub (ws' := [zR r cn mn mi nn]) [0] (by decide) rfl
  exact W.zret (v := nI 0) (ty := .boolean) hx hb hr (rfl) (fun t ht hW => ⟨⟨_, (), rfl, rfl, by rw [ht]; exact hP9, va_K.moved hW.alike hK, hD9⟩, hS.F ht⟩) hS.2.2 dc_R_lose_27

set_option maxHeartbeats 4000000 in
set_option maxRecDepth 100000 in
theorem oc_R_lose (l : Launch) (dC : Nat → ClassId) (dI : Nat → Nat → Nat) (cI cJ cZ cP : ClassId) (sz : Nat) (r : Nat → Nat) (cn : Nat) (mn : Nat) (mi : Nat) (nn : Nat) (su : Nat → Nat) (sr : Nat → Option Nat) (k : Nat) (hk : k < mn) (hmn : mn ≤ 104) (hu : su k < 4) (hs : ∀ i, sr k = some i → i < 40) : mt_I l mn_R_lose bc_R_lose 2 (some .boolean) ({ frames := 1, cells := 0, slots := 0, locals := 21 }) (dC, dI) (TYS cI cJ cZ cP) sz [.ref (r 0), .int (nI k)] [zR r cn mn mi nn, ((r 14), .inl (cI, 104, .inl (nF su))), ((r 15), .inl (cI, 104, .inl (oF sr)))] [zR r cn mn mi nn, ((r 14), .inl (cI, 104, .inl (nF (if lo_B su sr k = true then va_up su k 2 else su)))), ((r 15), .inl (cI, 104, .inl (oF sr)))] (bI (lo_B su sr k)) 0 0 := by
  unfold mt_I
  refine Met.ofW (cc := bc_R_lose) (maxL := 2) (ret := (some .boolean)) (by decide) rfl ?_
  intro p e s m args below meth c s₁ B hml hv
  obtain ⟨rfl, hsz, hP, hK, hD0⟩ := hv
  have hx := B.exec
  have hb := B.bytes
  have hr := B.returns
  have hts := atoms_spec (ws := wsT mn_R_lose bc_R_lose 2 (some .boolean)) B.pre
  have htb : ∀ w ∈ gtbl, w.before _ s = true := fun w h => hts w (List.mem_cons_of_mem _ h)
  have hown : s.vm.findClass cn_R = some m.cls := findClass_of_methodNamed B.named
  have hlocks := B.notSynchronized
  subst hsz
  have hD := hD0.self (sz := s.heap.size)
  generalize hAe : va_A [zR r cn mn mi nn, ((r 14), .inl (cI, 104, .inl (nF su))), ((r 15), .inl (cI, 104, .inl (oF sr)))] s.heap.size = A at hD ⊢
  have hA : ∀ q : Nat, s.heap.size ≤ q → A q := fun q h => by rw [← hAe]; exact Or.inr h
  have hS : va_S A s.heap s.heap [] := va_S.rf
  have hP : va_P (dC, dI) clsL [zR r cn mn mi nn, ((r 14), .inl (cI, 104, .inl (nF su))), ((r 15), .inl (cI, 104, .inl (oF sr)))] s.heap := hP
  have hl := lv_entry ([.ref (r 0), .int (nI k)]) (n := 2) (Nat.le_of_ble_eq_true rfl)
  rw [lg_entry_eq]
  generalize (lg_sl ([.ref (r 0), .int (nI k)]) ++ List.replicate (2 - (lg_sl ([.ref (r 0), .int (nI k)])).length) Slot.unset).toArray = ls at hl ⊢
  have hl : lv_has ls 2 [(0, .ref (r 0)), (1, .int (nI k))] := hl
  refine lv_aload_n hx hb dc_R_lose_0 rfl (lv_at hl 0 rfl) ?_
  refine lv_iload_n hx hb dc_R_lose_1 rfl (lv_at hl 1 rfl) ?_
  refine cl_i (wc := [zR r cn mn mi nn]) (wr := [((r 14), .inl (cI, 104, .inl (nF su))), ((r 15), .inl (cI, 104, .inl (oF sr)))]) (w1 := [zR r cn mn mi nn]) hP hD hS hA [0] [1, 2] rfl rfl (by decide) (by decide) (va_runV (As := [.int (nI k)]) (rest := []) ⟨hx, hb, hml, hown, htb⟩ (oc_R_isMessage l dC dI cI cJ cZ cP _ r cn mn mi nn k (by first | assumption | omega) (by first | assumption | omega)) (cwV 1 htb (gw_V kw_470 kw_472 kp_15 kw_5 kw_473) rfl rfl rfl (by decide +kernel) ⟨Nat.le_of_ble_eq_true rfl, Nat.le_of_ble_eq_true rfl⟩) (pr_V hP hK hD (va_recv hK hP (ci := 4) (q0 := 0) rfl rfl) [0] (by decide) rfl rfl) rfl rfl hl.1 rfl (lv_room (Nat.le_of_ble_eq_true rfl)) dc_R_lose_2 ⟨Nat.le_of_ble_eq_true rfl, Nat.le_of_ble_eq_true rfl⟩) (fun H locs hP hD hS => ?_)
  have hP : va_P (dC, dI) clsL [zR r cn mn mi nn, ((r 14), .inl (cI, 104, .inl (nF su))), ((r 15), .inl (cI, 104, .inl (oF sr)))] H := hP.sub (ws' := [zR r cn mn mi nn, ((r 14), .inl (cI, 104, .inl (nF su))), ((r 15), .inl (cI, 104, .inl (oF sr)))]) [2, 0, 1] rfl
  have hD : va_D A [zR r cn mn mi nn, ((r 14), .inl (cI, 104, .inl (nF su))), ((r 15), .inl (cI, 104, .inl (oF sr)))] := hD.sub (ws' := [zR r cn mn mi nn, ((r 14), .inl (cI, 104, .inl (nF su))), ((r 15), .inl (cI, 104, .inl (oF sr)))]) [2, 0, 1] (by decide) rfl
  refine lv_if_eq (tgt := 26) hx hb dc_R_lose_5 (by decide) (fun hc => ?_) (fun hc => ?_)
  · have h1 : true = false := bI_0.mp hc
    exact absurd h1 (by decide)
  have h1 : true = true := bI_n0.mp hc
  refine lv_aload_n hx hb dc_R_lose_8 rfl (lv_at hl 0 rfl) ?_
  refine va_get (D := (dC, dI)) (ci := 4) (v := .ref (r 14)) (C := cn_R) (T := ft_R) (N := 27) hx hb htb ki_R hown hK hP 0 rfl rfl 14 (by decide) (htb _ kw_384) (fun _ h9 => h9) rfl dc_R_lose_9 ?_
  refine lv_iload_n hx hb dc_R_lose_12 rfl (lv_at hl 1 rfl) ?_
  refine wa_nld (k := k) hx hb hK hP 1 0 rfl rfl (by omega) (by omega) dc_R_lose_13 ?_
  refine lv_if_ne (tgt := 26) hx hb dc_R_lose_14 (by decide) (fun hc => ?_) (fun hc => ?_)
  · have h2 : ¬ (su k) = 0 := fun h9 => hc ((nI_eq (b := 0) (by omega) (by omega)).mpr h9)
    refine lv_iconst (v := nI 0) hx hb dc_R_lose_26 (by decide) ?_
    have hP8 := hP.sub (ws' := [zR r cn mn mi nn, ((r 14), .inl (cI, 104, .inl (nF su))), ((r 15), .inl (cI, 104, .inl (oF sr)))]) [0, 1, 2] rfl
    have hD8 := hD.sub (ws' := [zR r cn mn mi nn, ((r 14), .inl (cI, 104, .inl (nF su))), ((r 15), .inl (cI, 104, .inl (oF sr)))]) [0, 1, 2] (by decide) rfl
    have hW8 : ([zR r cn mn mi nn, ((r 14), .inl (cI, 104, .inl (nF su))), ((r 15), .inl (cI, 104, .inl (oF sr)))] : va_W) = [zR r cn mn mi nn, ((r 14), .inl (cI, 104, .inl (nF (if lo_B su sr k = true then va_up su k 2 else su)))), ((r 15), .inl (cI, 104, .inl (oF sr)))] := by simp_all [lo_B]
    rw [hW8] at hP8 hD8
    have hP9 := hP8
    have hD9 := hD8
    exact W.zret (v := nI 0) (ty := .boolean) hx hb hr (rfl) (fun t ht hW => ⟨⟨_, (), rfl, by simp_all [lo_B, bI, nI_0], by rw [ht]; exact hP9, va_K.moved hW.alike hK, hD9⟩, hS.F ht⟩) hS.2.2 dc_R_lose_27
  · have h2 : (su k) = 0 := (nI_eq (b := 0) (by omega) (by omega)).mp hc
    refine lv_aload_n hx hb dc_R_lose_17 rfl (lv_at hl 0 rfl) ?_
    refine va_get (D := (dC, dI)) (ci := 4) (v := .ref (r 15)) (C := cn_R) (T := ft_R) (N := 27) hx hb htb ki_R hown hK hP 0 rfl rfl 15 (by decide) (htb _ kw_385) (fun _ h9 => h9) rfl dc_R_lose_18 ?_
    refine lv_iload_n hx hb dc_R_lose_21 rfl (lv_at hl 1 rfl) ?_
    refine wa_old (k := k) hx hb hK hP 2 0 rfl rfl (by omega) (by omega) dc_R_lose_22 ?_
    refine lv_if_ge (tgt := 28) hx hb dc_R_lose_23 (by decide) (fun hc => ?_) (fun hc => ?_)
    · have h3 : ¬ sr k = none := fun h9 => oI_ge (fun i q => by have := hs i q; omega) h9 hc
      refine lv_aload_n hx hb dc_R_lose_28 rfl (lv_at hl 0 rfl) ?_
      refine va_get (D := (dC, dI)) (ci := 4) (v := .ref (r 14)) (C := cn_R) (T := ft_R) (N := 27) hx hb htb ki_R hown hK hP 0 rfl rfl 14 (by decide) (htb _ kw_384) (fun _ h9 => h9) rfl dc_R_lose_29 ?_
      refine lv_iload_n hx hb dc_R_lose_32 rfl (lv_at hl 1 rfl) ?_
      refine lv_iconst (v := nI 2) hx hb dc_R_lose_33 (by decide) ?_
      refine wa_nst (k := k) (x := 2) hx hb hK hP hD hS 1 0 rfl rfl (by omega) (by omega) dc_R_lose_34 (fun H locs hP hD hS => ?_)
      have hP : va_P (dC, dI) clsL [zR r cn mn mi nn, ((r 14), .inl (cI, 104, .inl (nF (va_up su k 2)))), ((r 15), .inl (cI, 104, .inl (oF sr)))] H := hP
      have hD : va_D A [zR r cn mn mi nn, ((r 14), .inl (cI, 104, .inl (nF (va_up su k 2)))), ((r 15), .inl (cI, 104, .inl (oF sr)))] := hD
      refine lv_iconst (v := nI 1) hx hb dc_R_lose_35 (by decide) ?_
      have hP8 := hP.sub (ws' := [zR r cn mn mi nn, ((r 14), .inl (cI, 104, .inl (nF (va_up su k 2)))), ((r 15), .inl (cI, 104, .inl (oF sr)))]) [0, 1, 2] rfl
      have hD8 := hD.sub (ws' := [zR r cn mn mi nn, ((r 14), .inl (cI, 104, .inl (nF (va_up su k 2)))), ((r 15), .inl (cI, 104, .inl (oF sr)))]) [0, 1, 2] (by decide) rfl
      have hW8 : ([zR r cn mn mi nn, ((r 14), .inl (cI, 104, .inl (nF (va_up su k 2)))), ((r 15), .inl (cI, 104, .inl (oF sr)))] : va_W) = [zR r cn mn mi nn, ((r 14), .inl (cI, 104, .inl (nF (if lo_B su sr k = true then va_up su k 2 else su)))), ((r 15), .inl (cI, 104, .inl (oF sr)))] := by simp_all [lo_B]
      rw [hW8] at hP8 hD8
      have hP9 := hP8
      have hD9 := hD8
      exact W.zret (v := nI 1) (ty := .boolean) hx hb hr (rfl) (fun t ht hW => ⟨⟨_, (), rfl, by simp_all [lo_B, bI, nI_o], by rw [ht]; exact hP9, va_K.moved hW.alike hK, hD9⟩, hS.F ht⟩) hS.2.2 dc_R_lose_36
    · have h3 : sr k = none := oI_nge (fun i q => by have := hs i q; omega) hc
      refine lv_iconst (v := nI 0) hx hb dc_R_lose_26 (by decide) ?_
      have hP8 := hP.sub (ws' := [zR r cn mn mi nn, ((r 14), .inl (cI, 104, .inl (nF su))), ((r 15), .inl (cI, 104, .inl (oF sr)))]) [0, 1, 2] rfl
      have hD8 := hD.sub (ws' := [zR r cn mn mi nn, ((r 14), .inl (cI, 104, .inl (nF su))), ((r 15), .inl (cI, 104, .inl (oF sr)))]) [0, 1, 2] (by decide) rfl
      have hW8 : ([zR r cn mn mi nn, ((r 14), .inl (cI, 104, .inl (nF su))), ((r 15), .inl (cI, 104, .inl (oF sr)))] : va_W) = [zR r cn mn mi nn, ((r 14), .inl (cI, 104, .inl (nF (if lo_B su sr k = true then va_up su k 2 else su)))), ((r 15), .inl (cI, 104, .inl (oF sr)))] := by simp_all [lo_B]
      rw [hW8] at hP8 hD8
      have hP9 := hP8
      have hD9 := hD8
      exact W.zret (v := nI 0) (ty := .boolean) hx hb hr (rfl) (fun t ht hW => ⟨⟨_, (), rfl, by simp_all [lo_B, bI, nI_0], by rw [ht]; exact hP9, va_K.moved hW.alike hK, hD9⟩, hS.F ht⟩) hS.2.2 dc_R_lose_27

set_option maxHeartbeats 4000000 in
set_option maxRecDepth 100000 in
theorem oc_R_input_no (l : Launch) (dC : Nat → ClassId) (dI : Nat → Nat → Nat) (cI cJ cZ cP : ClassId) (sz : Nat) (r : Nat → Nat) (cn : Nat) (mn : Nat) (mi : Nat) (nn : Nat) (y : Int32) (v : Int32) (hy : y < 0 ∨ nI 3 ≤ y) : mt_I l mn_R_input bc_R_input 3 (some .int) ({ frames := 1, cells := 0, slots := 0, locals := 21 }) (dC, dI) (TYS cI cJ cZ cP) sz [.ref (r 0), .int y, .int v] [zR r cn mn mi nn] [zR r cn mn mi nn] ((-1)) 0 0 := by
  unfold mt_I
  refine Met.ofW (cc := bc_R_input) (maxL := 3) (ret := (some .int)) (by decide) rfl ?_
  intro p e s m args below meth c s₁ B hml hv
  obtain ⟨rfl, hsz, hP, hK, hD0⟩ := hv
  have hx := B.exec
  have hb := B.bytes
  have hr := B.returns
  have hts := atoms_spec (ws := wsT mn_R_input bc_R_input 3 (some .int)) B.pre
  have htb : ∀ w ∈ gtbl, w.before _ s = true := fun w h => hts w (List.mem_cons_of_mem _ h)
  have hown : s.vm.findClass cn_R = some m.cls := findClass_of_methodNamed B.named
  have hlocks := B.notSynchronized
  subst hsz
  have hD := hD0.self (sz := s.heap.size)
  generalize hAe : va_A [zR r cn mn mi nn] s.heap.size = A at hD ⊢
  have hA : ∀ q : Nat, s.heap.size ≤ q → A q := fun q h => by rw [← hAe]; exact Or.inr h
  have hS : va_S A s.heap s.heap [] := va_S.rf
  have hP : va_P (dC, dI) clsL [zR r cn mn mi nn] s.heap := hP
  have hl := lv_entry ([.ref (r 0), .int y, .int v]) (n := 3) (Nat.le_of_ble_eq_true rfl)
  rw [lg_entry_eq]
  generalize (lg_sl ([.ref (r 0), .int y, .int v]) ++ List.replicate (3 - (lg_sl ([.ref (r 0), .int y, .int v])).length) Slot.unset).toArray = ls at hl ⊢
  have hl : lv_has ls 3 [(0, .ref (r 0)), (1, .int y), (2, .int v)] := hl
  refine lv_aload_n hx hb dc_R_input_0 rfl (lv_at hl 0 rfl) ?_
  refine lv_iload_n hx hb dc_R_input_1 rfl (lv_at hl 1 rfl) ?_
  refine cl_i (wc := [zR r cn mn mi nn]) (wr := []) (w1 := [zR r cn mn mi nn]) hP hD hS hA [0] [] rfl rfl (by decide) (by decide) (va_runV (As := [.int y]) (rest := []) ⟨hx, hb, hml, hown, htb⟩ (oc_R_isProcess_no l dC dI cI cJ cZ cP _ r cn mn mi nn y (by first | assumption | omega)) (cwV 1 htb (gw_V kw_458 kw_460 kp_13 kw_5 kw_461) rfl rfl rfl (by decide +kernel) ⟨Nat.le_of_ble_eq_true rfl, Nat.le_of_ble_eq_true rfl⟩) (pr_V hP hK hD (va_recv hK hP (ci := 4) (q0 := 0) rfl rfl) [0] (by decide) rfl rfl) rfl rfl hl.1 rfl (lv_room (Nat.le_of_ble_eq_true rfl)) dc_R_input_2 ⟨Nat.le_of_ble_eq_true rfl, Nat.le_of_ble_eq_true rfl⟩) (fun H locs hP hD hS => ?_)
  have hP : va_P (dC, dI) clsL [zR r cn mn mi nn] H := hP.sub (ws' := [zR r cn mn mi nn]) [0] rfl
  have hD : va_D A [zR r cn mn mi nn] := hD.sub (ws' := [zR r cn mn mi nn]) [0] (by decide) rfl
  refine lv_if_eq (tgt := 17) hx hb dc_R_input_5 (by decide) (fun hc => ?_) (fun hc => ?_)
  rotate_left
  · have h1 : false = true := bI_n0.mp hc
    exact absurd h1 (by decide)
  have h1 : false = false := bI_0.mp hc
  refine lv_iconst (v := (-1)) hx hb dc_R_input_17 (by decide) ?_
  have hP9 := hP.sub (ws' := [zR r cn mn mi nn]) [0] rfl
  have hD9 := hD.sub (ws' := [zR r cn mn mi nn]) [0] (by decide) rfl
  exact W.iret (v := (-1)) hx hb hr (fun t ht hW => ⟨⟨_, (), rfl, rfl, by rw [ht]; exact hP9, va_K.moved hW.alike hK, hD9⟩, hS.F ht⟩) hS.2.2 dc_R_input_18

set_option maxHeartbeats 4000000 in
set_option maxRecDepth 100000 in
theorem oc_R_input_full (l : Launch) (dC : Nat → ClassId) (dI : Nat → Nat → Nat) (cI cJ cZ cP : ClassId) (sz : Nat) (r : Nat → Nat) (cn : Nat) (mn : Nat) (mi : Nat) (nn : Nat) (j : Nat) (v : Int32) (hj : j < 3) (hmi : mi = 24) : mt_I l mn_R_input bc_R_input 3 (some .int) ({ frames := 1, cells := 0, slots := 0, locals := 21 }) (dC, dI) (TYS cI cJ cZ cP) sz [.ref (r 0), .int (nI j), .int v] [zR r cn mn mi nn] [zR r cn mn mi nn] ((-1)) 0 0 := by
  unfold mt_I
  refine Met.ofW (cc := bc_R_input) (maxL := 3) (ret := (some .int)) (by decide) rfl ?_
  intro p e s m args below meth c s₁ B hml hv
  obtain ⟨rfl, hsz, hP, hK, hD0⟩ := hv
  have hx := B.exec
  have hb := B.bytes
  have hr := B.returns
  have hts := atoms_spec (ws := wsT mn_R_input bc_R_input 3 (some .int)) B.pre
  have htb : ∀ w ∈ gtbl, w.before _ s = true := fun w h => hts w (List.mem_cons_of_mem _ h)
  have hown : s.vm.findClass cn_R = some m.cls := findClass_of_methodNamed B.named
  have hlocks := B.notSynchronized
  subst hsz
  have hD := hD0.self (sz := s.heap.size)
  generalize hAe : va_A [zR r cn mn mi nn] s.heap.size = A at hD ⊢
  have hA : ∀ q : Nat, s.heap.size ≤ q → A q := fun q h => by rw [← hAe]; exact Or.inr h
  have hS : va_S A s.heap s.heap [] := va_S.rf
  have hP : va_P (dC, dI) clsL [zR r cn mn mi nn] s.heap := hP
  have hl := lv_entry ([.ref (r 0), .int (nI j), .int v]) (n := 3) (Nat.le_of_ble_eq_true rfl)
  rw [lg_entry_eq]
  generalize (lg_sl ([.ref (r 0), .int (nI j), .int v]) ++ List.replicate (3 - (lg_sl ([.ref (r 0), .int (nI j), .int v])).length) Slot.unset).toArray = ls at hl ⊢
  have hl : lv_has ls 3 [(0, .ref (r 0)), (1, .int (nI j)), (2, .int v)] := hl
  refine lv_aload_n hx hb dc_R_input_0 rfl (lv_at hl 0 rfl) ?_
  refine lv_iload_n hx hb dc_R_input_1 rfl (lv_at hl 1 rfl) ?_
  refine cl_i (wc := [zR r cn mn mi nn]) (wr := []) (w1 := [zR r cn mn mi nn]) hP hD hS hA [0] [] rfl rfl (by decide) (by decide) (va_runV (As := [.int (nI j)]) (rest := []) ⟨hx, hb, hml, hown, htb⟩ (oc_R_isProcess l dC dI cI cJ cZ cP _ r cn mn mi nn j (by first | assumption | omega)) (cwV 1 htb (gw_V kw_458 kw_460 kp_13 kw_5 kw_461) rfl rfl rfl (by decide +kernel) ⟨Nat.le_of_ble_eq_true rfl, Nat.le_of_ble_eq_true rfl⟩) (pr_V hP hK hD (va_recv hK hP (ci := 4) (q0 := 0) rfl rfl) [0] (by decide) rfl rfl) rfl rfl hl.1 rfl (lv_room (Nat.le_of_ble_eq_true rfl)) dc_R_input_2 ⟨Nat.le_of_ble_eq_true rfl, Nat.le_of_ble_eq_true rfl⟩) (fun H locs hP hD hS => ?_)
  have hP : va_P (dC, dI) clsL [zR r cn mn mi nn] H := hP.sub (ws' := [zR r cn mn mi nn]) [0] rfl
  have hD : va_D A [zR r cn mn mi nn] := hD.sub (ws' := [zR r cn mn mi nn]) [0] (by decide) rfl
  refine lv_if_eq (tgt := 17) hx hb dc_R_input_5 (by decide) (fun hc => ?_) (fun hc => ?_)
  · have h1 : true = false := bI_0.mp hc
    exact absurd h1 (by decide)
  have h1 : true = true := bI_n0.mp hc
  refine lv_aload_n hx hb dc_R_input_8 rfl (lv_at hl 0 rfl) ?_
  refine va_get (D := (dC, dI)) (ci := 4) (v := .int (nI mi)) (C := cn_R) (T := ft_R) (N := 27) hx hb htb ki_R hown hK hP 0 rfl rfl 11 (by decide) (htb _ kw_381) (fun _ h9 => h9) rfl dc_R_input_9 ?_
  refine lv_bipush (v := nI 24) hx hb dc_R_input_12 (by decide) ?_
  refine lv_icmp_lt (tgt := 19) hx hb dc_R_input_14 (by decide) (fun hc => ?_) (fun hc => ?_)
  · have h2 : mi < 24 := (nI_ltI (by omega) (by omega)).mp hc
    exact absurd h2 (by omega)
  have h2 : 24 ≤ mi := Nat.le_of_not_lt (fun h9 => hc ((nI_ltI (by omega) (by omega)).mpr h9))
  refine lv_iconst (v := (-1)) hx hb dc_R_input_17 (by decide) ?_
  have hP9 := hP.sub (ws' := [zR r cn mn mi nn]) [0] rfl
  have hD9 := hD.sub (ws' := [zR r cn mn mi nn]) [0] (by decide) rfl
  exact W.iret (v := (-1)) hx hb hr (fun t ht hW => ⟨⟨_, (), rfl, rfl, by rw [ht]; exact hP9, va_K.moved hW.alike hK, hD9⟩, hS.F ht⟩) hS.2.2 dc_R_input_18

set_option maxHeartbeats 4000000 in
set_option maxRecDepth 100000 in
theorem oc_R_input (l : Launch) (dC : Nat → ClassId) (dI : Nat → Nat → Nat) (cI cJ cZ cP : ClassId) (sz : Nat) (r : Nat → Nat) (cn : Nat) (mn : Nat) (mi : Nat) (nn : Nat) (vs : Nat → Int32) (tg : Nat → Nat) (sr : Nat → Option Nat) (kn : Nat → Nat) (su : Nat → Nat) (j : Nat) (v : Int32) (hj : j < 3) (hmi : mi < 24) (hmn : mn < 104) : mt_I l mn_R_input bc_R_input 3 (some .int) ({ frames := 1, cells := 0, slots := 0, locals := 24 }) (dC, dI) (TYS cI cJ cZ cP) sz [.ref (r 0), .int (nI j), .int v] [zR r cn mn mi nn, ((r 12), .inl (cI, 104, .inl vs)), ((r 13), .inl (cI, 104, .inl (nF tg))), ((r 15), .inl (cI, 104, .inl (oF sr))), ((r 16), .inl (cI, 104, .inl (nF kn))), ((r 14), .inl (cI, 104, .inl (nF su)))] [zR r cn (mn + 1) (mi + 1) nn, ((r 12), .inl (cI, 104, .inl (va_up vs mn v))), ((r 13), .inl (cI, 104, .inl (nF (va_up tg mn j)))), ((r 15), .inl (cI, 104, .inl (oF (va_up sr mn none)))), ((r 16), .inl (cI, 104, .inl (nF (va_up kn mn 0)))), ((r 14), .inl (cI, 104, .inl (nF (va_up su mn 0))))] (nI mn) 0 0 := by
  unfold mt_I
  refine Met.ofW (cc := bc_R_input) (maxL := 3) (ret := (some .int)) (by decide) rfl ?_
  intro p e s m args below meth c s₁ B hml hv
  obtain ⟨rfl, hsz, hP, hK, hD0⟩ := hv
  have hx := B.exec
  have hb := B.bytes
  have hr := B.returns
  have hts := atoms_spec (ws := wsT mn_R_input bc_R_input 3 (some .int)) B.pre
  have htb : ∀ w ∈ gtbl, w.before _ s = true := fun w h => hts w (List.mem_cons_of_mem _ h)
  have hown : s.vm.findClass cn_R = some m.cls := findClass_of_methodNamed B.named
  have hlocks := B.notSynchronized
  subst hsz
  have hD := hD0.self (sz := s.heap.size)
  generalize hAe : va_A [zR r cn mn mi nn, ((r 12), .inl (cI, 104, .inl vs)), ((r 13), .inl (cI, 104, .inl (nF tg))), ((r 15), .inl (cI, 104, .inl (oF sr))), ((r 16), .inl (cI, 104, .inl (nF kn))), ((r 14), .inl (cI, 104, .inl (nF su)))] s.heap.size = A at hD ⊢
  have hA : ∀ q : Nat, s.heap.size ≤ q → A q := fun q h => by rw [← hAe]; exact Or.inr h
  have hS : va_S A s.heap s.heap [] := va_S.rf
  have hP : va_P (dC, dI) clsL [zR r cn mn mi nn, ((r 12), .inl (cI, 104, .inl vs)), ((r 13), .inl (cI, 104, .inl (nF tg))), ((r 15), .inl (cI, 104, .inl (oF sr))), ((r 16), .inl (cI, 104, .inl (nF kn))), ((r 14), .inl (cI, 104, .inl (nF su)))] s.heap := hP
  have hl := lv_entry ([.ref (r 0), .int (nI j), .int v]) (n := 3) (Nat.le_of_ble_eq_true rfl)
  rw [lg_entry_eq]
  generalize (lg_sl ([.ref (r 0), .int (nI j), .int v]) ++ List.replicate (3 - (lg_sl ([.ref (r 0), .int (nI j), .int v])).length) Slot.unset).toArray = ls at hl ⊢
  have hl : lv_has ls 3 [(0, .ref (r 0)), (1, .int (nI j)), (2, .int v)] := hl
  refine lv_aload_n hx hb dc_R_input_0 rfl (lv_at hl 0 rfl) ?_
  refine lv_iload_n hx hb dc_R_input_1 rfl (lv_at hl 1 rfl) ?_
  refine cl_i (wc := [zR r cn mn mi nn]) (wr := [((r 12), .inl (cI, 104, .inl vs)), ((r 13), .inl (cI, 104, .inl (nF tg))), ((r 15), .inl (cI, 104, .inl (oF sr))), ((r 16), .inl (cI, 104, .inl (nF kn))), ((r 14), .inl (cI, 104, .inl (nF su)))]) (w1 := [zR r cn mn mi nn]) hP hD hS hA [0] [1, 2, 3, 4, 5] rfl rfl (by decide) (by decide) (va_runV (As := [.int (nI j)]) (rest := []) ⟨hx, hb, hml, hown, htb⟩ (oc_R_isProcess l dC dI cI cJ cZ cP _ r cn mn mi nn j (by first | assumption | omega)) (cwV 1 htb (gw_V kw_458 kw_460 kp_13 kw_5 kw_461) rfl rfl rfl (by decide +kernel) ⟨Nat.le_of_ble_eq_true rfl, Nat.le_of_ble_eq_true rfl⟩) (pr_V hP hK hD (va_recv hK hP (ci := 4) (q0 := 0) rfl rfl) [0] (by decide) rfl rfl) rfl rfl hl.1 rfl (lv_room (Nat.le_of_ble_eq_true rfl)) dc_R_input_2 ⟨Nat.le_of_ble_eq_true rfl, Nat.le_of_ble_eq_true rfl⟩) (fun H locs hP hD hS => ?_)
  have hP : va_P (dC, dI) clsL [zR r cn mn mi nn, ((r 12), .inl (cI, 104, .inl vs)), ((r 13), .inl (cI, 104, .inl (nF tg))), ((r 15), .inl (cI, 104, .inl (oF sr))), ((r 16), .inl (cI, 104, .inl (nF kn))), ((r 14), .inl (cI, 104, .inl (nF su)))] H := hP.sub (ws' := [zR r cn mn mi nn, ((r 12), .inl (cI, 104, .inl vs)), ((r 13), .inl (cI, 104, .inl (nF tg))), ((r 15), .inl (cI, 104, .inl (oF sr))), ((r 16), .inl (cI, 104, .inl (nF kn))), ((r 14), .inl (cI, 104, .inl (nF su)))]) [5, 0, 1, 2, 3, 4] rfl
  have hD : va_D A [zR r cn mn mi nn, ((r 12), .inl (cI, 104, .inl vs)), ((r 13), .inl (cI, 104, .inl (nF tg))), ((r 15), .inl (cI, 104, .inl (oF sr))), ((r 16), .inl (cI, 104, .inl (nF kn))), ((r 14), .inl (cI, 104, .inl (nF su)))] := hD.sub (ws' := [zR r cn mn mi nn, ((r 12), .inl (cI, 104, .inl vs)), ((r 13), .inl (cI, 104, .inl (nF tg))), ((r 15), .inl (cI, 104, .inl (oF sr))), ((r 16), .inl (cI, 104, .inl (nF kn))), ((r 14), .inl (cI, 104, .inl (nF su)))]) [5, 0, 1, 2, 3, 4] (by decide) rfl
  refine lv_if_eq (tgt := 17) hx hb dc_R_input_5 (by decide) (fun hc => ?_) (fun hc => ?_)
  · have h1 : true = false := bI_0.mp hc
    exact absurd h1 (by decide)
  have h1 : true = true := bI_n0.mp hc
  refine lv_aload_n hx hb dc_R_input_8 rfl (lv_at hl 0 rfl) ?_
  refine va_get (D := (dC, dI)) (ci := 4) (v := .int (nI mi)) (C := cn_R) (T := ft_R) (N := 27) hx hb htb ki_R hown hK hP 0 rfl rfl 11 (by decide) (htb _ kw_381) (fun _ h9 => h9) rfl dc_R_input_9 ?_
  refine lv_bipush (v := nI 24) hx hb dc_R_input_12 (by decide) ?_
  refine lv_icmp_lt (tgt := 19) hx hb dc_R_input_14 (by decide) (fun hc => ?_) (fun hc => ?_)
  rotate_left
  · have h2 : 24 ≤ mi := Nat.le_of_not_lt (fun h9 => hc ((nI_ltI (by omega) (by omega)).mpr h9))
    exact absurd h2 (by omega)
  have h2 : mi < 24 := (nI_ltI (by omega) (by omega)).mp hc
  refine lv_aload_n hx hb dc_R_input_19 rfl (lv_at hl 0 rfl) ?_
  refine lv_dup hx hb dc_R_input_20 rfl ?_
  refine va_get (D := (dC, dI)) (ci := 4) (v := .int (nI mi)) (C := cn_R) (T := ft_R) (N := 27) hx hb htb ki_R hown hK hP 0 rfl rfl 11 (by decide) (htb _ kw_381) (fun _ h9 => h9) rfl dc_R_input_21 ?_
  refine lv_iconst (v := nI 1) hx hb dc_R_input_24 (by decide) ?_
  refine lv_iadd hx hb dc_R_input_25 ?_
  refine tp_i (y := nI (mi + 1)) (nI_add _ _) ?_
  refine va_put (D := (dC, dI)) (ci := 4) (v := .int (nI (mi + 1))) (ty := .int) (C := cn_R) (T := ft_R) (N := 27) hx hb htb ki_R fy_R fy_R_ok nm_R_d hown hK hP hD hS 0 rfl rfl 11 (by decide) (htb _ kw_381) (fun _ h9 => h9) rfl (by decide +kernel) rfl rfl (Nat.le_of_ble_eq_true rfl) dc_R_input_26 (fun H locs hP hD hS => ?_)
  have hP : va_P (dC, dI) clsL [zR r cn mn (mi + 1) nn, ((r 12), .inl (cI, 104, .inl vs)), ((r 13), .inl (cI, 104, .inl (nF tg))), ((r 15), .inl (cI, 104, .inl (oF sr))), ((r 16), .inl (cI, 104, .inl (nF kn))), ((r 14), .inl (cI, 104, .inl (nF su)))] H := hP
  have hD : va_D A [zR r cn mn (mi + 1) nn, ((r 12), .inl (cI, 104, .inl vs)), ((r 13), .inl (cI, 104, .inl (nF tg))), ((r 15), .inl (cI, 104, .inl (oF sr))), ((r 16), .inl (cI, 104, .inl (nF kn))), ((r 14), .inl (cI, 104, .inl (nF su)))] := hD
  refine lv_aload_n hx hb dc_R_input_29 rfl (lv_at hl 0 rfl) ?_
  refine lv_iload_n hx hb dc_R_input_30 rfl (lv_at hl 1 rfl) ?_
  refine lv_iload_n hx hb dc_R_input_31 rfl (lv_at hl 2 rfl) ?_
  refine lv_iconst (v := (-1)) hx hb dc_R_input_32 (by decide) ?_
  refine tp_i (y := oI none) (rfl) ?_
  refine lv_iconst (v := nI 0) hx hb dc_R_input_33 (by decide) ?_
  refine cl_i (wc := [zR r cn mn (mi + 1) nn, ((r 12), .inl (cI, 104, .inl vs)), ((r 13), .inl (cI, 104, .inl (nF tg))), ((r 15), .inl (cI, 104, .inl (oF sr))), ((r 16), .inl (cI, 104, .inl (nF kn))), ((r 14), .inl (cI, 104, .inl (nF su)))]) (wr := []) (w1 := [zR r cn (mn + 1) (mi + 1) nn, ((r 12), .inl (cI, 104, .inl (va_up vs mn v))), ((r 13), .inl (cI, 104, .inl (nF (va_up tg mn j)))), ((r 15), .inl (cI, 104, .inl (oF (va_up sr mn none)))), ((r 16), .inl (cI, 104, .inl (nF (va_up kn mn 0)))), ((r 14), .inl (cI, 104, .inl (nF (va_up su mn 0))))]) hP hD hS hA [0, 1, 2, 3, 4, 5] [] rfl rfl (by decide) (by decide) (va_runV (As := [.int (nI j), .int v, .int (oI none), .int (nI 0)]) (rest := []) ⟨hx, hb, hml, hown, htb⟩ (oc_R_send l dC dI cI cJ cZ cP _ r cn mn (mi + 1) nn vs tg sr kn su j v none 0 (by first | assumption | omega)) (cwV 4 htb (gw_V kw_462 kw_464 kp_14 kw_5 kw_465) rfl rfl rfl (by decide +kernel) ⟨Nat.le_of_ble_eq_true rfl, Nat.le_of_ble_eq_true rfl⟩) (pr_V hP hK hD (va_recv hK hP (ci := 4) (q0 := 0) rfl rfl) [0, 1, 2, 3, 4, 5] (by decide) rfl rfl) rfl rfl hl.1 rfl (lv_room (Nat.le_of_ble_eq_true rfl)) dc_R_input_34 ⟨Nat.le_of_ble_eq_true rfl, Nat.le_of_ble_eq_true rfl⟩) (fun H locs hP hD hS => ?_)
  have hP : va_P (dC, dI) clsL [zR r cn (mn + 1) (mi + 1) nn, ((r 12), .inl (cI, 104, .inl (va_up vs mn v))), ((r 13), .inl (cI, 104, .inl (nF (va_up tg mn j)))), ((r 15), .inl (cI, 104, .inl (oF (va_up sr mn none)))), ((r 16), .inl (cI, 104, .inl (nF (va_up kn mn 0)))), ((r 14), .inl (cI, 104, .inl (nF (va_up su mn 0))))] H := hP.sub (ws' := [zR r cn (mn + 1) (mi + 1) nn, ((r 12), .inl (cI, 104, .inl (va_up vs mn v))), ((r 13), .inl (cI, 104, .inl (nF (va_up tg mn j)))), ((r 15), .inl (cI, 104, .inl (oF (va_up sr mn none)))), ((r 16), .inl (cI, 104, .inl (nF (va_up kn mn 0)))), ((r 14), .inl (cI, 104, .inl (nF (va_up su mn 0))))]) [0, 1, 2, 3, 4, 5] rfl
  have hD : va_D A [zR r cn (mn + 1) (mi + 1) nn, ((r 12), .inl (cI, 104, .inl (va_up vs mn v))), ((r 13), .inl (cI, 104, .inl (nF (va_up tg mn j)))), ((r 15), .inl (cI, 104, .inl (oF (va_up sr mn none)))), ((r 16), .inl (cI, 104, .inl (nF (va_up kn mn 0)))), ((r 14), .inl (cI, 104, .inl (nF (va_up su mn 0))))] := hD.sub (ws' := [zR r cn (mn + 1) (mi + 1) nn, ((r 12), .inl (cI, 104, .inl (va_up vs mn v))), ((r 13), .inl (cI, 104, .inl (nF (va_up tg mn j)))), ((r 15), .inl (cI, 104, .inl (oF (va_up sr mn none)))), ((r 16), .inl (cI, 104, .inl (nF (va_up kn mn 0)))), ((r 14), .inl (cI, 104, .inl (nF (va_up su mn 0))))]) [0, 1, 2, 3, 4, 5] (by decide) rfl
  have hP9 := hP.sub (ws' := [zR r cn (mn + 1) (mi + 1) nn, ((r 12), .inl (cI, 104, .inl (va_up vs mn v))), ((r 13), .inl (cI, 104, .inl (nF (va_up tg mn j)))), ((r 15), .inl (cI, 104, .inl (oF (va_up sr mn none)))), ((r 16), .inl (cI, 104, .inl (nF (va_up kn mn 0)))), ((r 14), .inl (cI, 104, .inl (nF (va_up su mn 0))))]) [0, 1, 2, 3, 4, 5] rfl
  have hD9 := hD.sub (ws' := [zR r cn (mn + 1) (mi + 1) nn, ((r 12), .inl (cI, 104, .inl (va_up vs mn v))), ((r 13), .inl (cI, 104, .inl (nF (va_up tg mn j)))), ((r 15), .inl (cI, 104, .inl (oF (va_up sr mn none)))), ((r 16), .inl (cI, 104, .inl (nF (va_up kn mn 0)))), ((r 14), .inl (cI, 104, .inl (nF (va_up su mn 0))))]) [0, 1, 2, 3, 4, 5] (by decide) rfl
  exact W.iret (v := nI mn) hx hb hr (fun t ht hW => ⟨⟨_, (), rfl, rfl, by rw [ht]; exact hP9, va_K.moved hW.alike hK, hD9⟩, hS.F ht⟩) hS.2.2 dc_R_input_37

set_option maxHeartbeats 4000000 in
set_option maxRecDepth 100000 in
theorem oc_R_deliver_no (l : Launch) (dC : Nat → ClassId) (dI : Nat → Nat → Nat) (cI cJ cZ cP : ClassId) (sz : Nat) (r : Nat → Nat) (cn : Nat) (mn : Nat) (mi : Nat) (nn : Nat) (y : Int32) (hy : y < 0 ∨ nI mn ≤ y) : mt_I l mn_R_deliver bc_R_deliver 3 (some .int) ({ frames := 1, cells := 0, slots := 0, locals := 21 }) (dC, dI) (TYS cI cJ cZ cP) sz [.ref (r 0), .int y] [zR r cn mn mi nn] [zR r cn mn mi nn] ((-1)) 0 0 := by
  unfold mt_I
  refine Met.ofW (cc := bc_R_deliver) (maxL := 3) (ret := (some .int)) (by decide) rfl ?_
  intro p e s m args below meth c s₁ B hml hv
  obtain ⟨rfl, hsz, hP, hK, hD0⟩ := hv
  have hx := B.exec
  have hb := B.bytes
  have hr := B.returns
  have hts := atoms_spec (ws := wsT mn_R_deliver bc_R_deliver 3 (some .int)) B.pre
  have htb : ∀ w ∈ gtbl, w.before _ s = true := fun w h => hts w (List.mem_cons_of_mem _ h)
  have hown : s.vm.findClass cn_R = some m.cls := findClass_of_methodNamed B.named
  have hlocks := B.notSynchronized
  subst hsz
  have hD := hD0.self (sz := s.heap.size)
  generalize hAe : va_A [zR r cn mn mi nn] s.heap.size = A at hD ⊢
  have hA : ∀ q : Nat, s.heap.size ≤ q → A q := fun q h => by rw [← hAe]; exact Or.inr h
  have hS : va_S A s.heap s.heap [] := va_S.rf
  have hP : va_P (dC, dI) clsL [zR r cn mn mi nn] s.heap := hP
  have hl := lv_entry ([.ref (r 0), .int y]) (n := 3) (Nat.le_of_ble_eq_true rfl)
  rw [lg_entry_eq]
  generalize (lg_sl ([.ref (r 0), .int y]) ++ List.replicate (3 - (lg_sl ([.ref (r 0), .int y])).length) Slot.unset).toArray = ls at hl ⊢
  have hl : lv_has ls 3 [(0, .ref (r 0)), (1, .int y)] := hl
  refine lv_aload_n hx hb dc_R_deliver_0 rfl (lv_at hl 0 rfl) ?_
  refine lv_iload_n hx hb dc_R_deliver_1 rfl (lv_at hl 1 rfl) ?_
  refine cl_i (wc := [zR r cn mn mi nn]) (wr := []) (w1 := [zR r cn mn mi nn]) hP hD hS hA [0] [] rfl rfl (by decide) (by decide) (va_runV (As := [.int y]) (rest := []) ⟨hx, hb, hml, hown, htb⟩ (oc_R_isMessage_no l dC dI cI cJ cZ cP _ r cn mn mi nn y (by first | assumption | omega)) (cwV 1 htb (gw_V kw_470 kw_472 kp_15 kw_5 kw_473) rfl rfl rfl (by decide +kernel) ⟨Nat.le_of_ble_eq_true rfl, Nat.le_of_ble_eq_true rfl⟩) (pr_V hP hK hD (va_recv hK hP (ci := 4) (q0 := 0) rfl rfl) [0] (by decide) rfl rfl) rfl rfl hl.1 rfl (lv_room (Nat.le_of_ble_eq_true rfl)) dc_R_deliver_2 ⟨Nat.le_of_ble_eq_true rfl, Nat.le_of_ble_eq_true rfl⟩) (fun H locs hP hD hS => ?_)
  have hP : va_P (dC, dI) clsL [zR r cn mn mi nn] H := hP.sub (ws' := [zR r cn mn mi nn]) [0] rfl
  have hD : va_D A [zR r cn mn mi nn] := hD.sub (ws' := [zR r cn mn mi nn]) [0] (by decide) rfl
  refine lv_if_eq (tgt := 40) hx hb dc_R_deliver_5 (by decide) (fun hc => ?_) (fun hc => ?_)
  rotate_left
  · have h1 : false = true := bI_n0.mp hc
    exact absurd h1 (by decide)
  have h1 : false = false := bI_0.mp hc
  refine lv_iconst (v := (-1)) hx hb dc_R_deliver_40 (by decide) ?_
  have hP9 := hP.sub (ws' := [zR r cn mn mi nn]) [0] rfl
  have hD9 := hD.sub (ws' := [zR r cn mn mi nn]) [0] (by decide) rfl
  exact W.iret (v := (-1)) hx hb hr (fun t ht hW => ⟨⟨_, (), rfl, rfl, by rw [ht]; exact hP9, va_K.moved hW.alike hK, hD9⟩, hS.F ht⟩) hS.2.2 dc_R_deliver_41

set_option maxHeartbeats 4000000 in
set_option maxRecDepth 100000 in
theorem oc_R_deliver_nw (l : Launch) (dC : Nat → ClassId) (dI : Nat → Nat → Nat) (cI cJ cZ cP : ClassId) (sz : Nat) (r : Nat → Nat) (cn : Nat) (mn : Nat) (mi : Nat) (nn : Nat) (su : Nat → Nat) (k : Nat) (hk : k < mn) (hmn : mn ≤ 104) (hu : su k < 4) (hw : ¬ su k = 0) : mt_I l mn_R_deliver bc_R_deliver 3 (some .int) ({ frames := 1, cells := 0, slots := 0, locals := 21 }) (dC, dI) (TYS cI cJ cZ cP) sz [.ref (r 0), .int (nI k)] [zR r cn mn mi nn, ((r 14), .inl (cI, 104, .inl (nF su)))] [zR r cn mn mi nn, ((r 14), .inl (cI, 104, .inl (nF su)))] ((-1)) 0 0 := by
  unfold mt_I
  refine Met.ofW (cc := bc_R_deliver) (maxL := 3) (ret := (some .int)) (by decide) rfl ?_
  intro p e s m args below meth c s₁ B hml hv
  obtain ⟨rfl, hsz, hP, hK, hD0⟩ := hv
  have hx := B.exec
  have hb := B.bytes
  have hr := B.returns
  have hts := atoms_spec (ws := wsT mn_R_deliver bc_R_deliver 3 (some .int)) B.pre
  have htb : ∀ w ∈ gtbl, w.before _ s = true := fun w h => hts w (List.mem_cons_of_mem _ h)
  have hown : s.vm.findClass cn_R = some m.cls := findClass_of_methodNamed B.named
  have hlocks := B.notSynchronized
  subst hsz
  have hD := hD0.self (sz := s.heap.size)
  generalize hAe : va_A [zR r cn mn mi nn, ((r 14), .inl (cI, 104, .inl (nF su)))] s.heap.size = A at hD ⊢
  have hA : ∀ q : Nat, s.heap.size ≤ q → A q := fun q h => by rw [← hAe]; exact Or.inr h
  have hS : va_S A s.heap s.heap [] := va_S.rf
  have hP : va_P (dC, dI) clsL [zR r cn mn mi nn, ((r 14), .inl (cI, 104, .inl (nF su)))] s.heap := hP
  have hl := lv_entry ([.ref (r 0), .int (nI k)]) (n := 3) (Nat.le_of_ble_eq_true rfl)
  rw [lg_entry_eq]
  generalize (lg_sl ([.ref (r 0), .int (nI k)]) ++ List.replicate (3 - (lg_sl ([.ref (r 0), .int (nI k)])).length) Slot.unset).toArray = ls at hl ⊢
  have hl : lv_has ls 3 [(0, .ref (r 0)), (1, .int (nI k))] := hl
  refine lv_aload_n hx hb dc_R_deliver_0 rfl (lv_at hl 0 rfl) ?_
  refine lv_iload_n hx hb dc_R_deliver_1 rfl (lv_at hl 1 rfl) ?_
  refine cl_i (wc := [zR r cn mn mi nn]) (wr := [((r 14), .inl (cI, 104, .inl (nF su)))]) (w1 := [zR r cn mn mi nn]) hP hD hS hA [0] [1] rfl rfl (by decide) (by decide) (va_runV (As := [.int (nI k)]) (rest := []) ⟨hx, hb, hml, hown, htb⟩ (oc_R_isMessage l dC dI cI cJ cZ cP _ r cn mn mi nn k (by first | assumption | omega) (by first | assumption | omega)) (cwV 1 htb (gw_V kw_470 kw_472 kp_15 kw_5 kw_473) rfl rfl rfl (by decide +kernel) ⟨Nat.le_of_ble_eq_true rfl, Nat.le_of_ble_eq_true rfl⟩) (pr_V hP hK hD (va_recv hK hP (ci := 4) (q0 := 0) rfl rfl) [0] (by decide) rfl rfl) rfl rfl hl.1 rfl (lv_room (Nat.le_of_ble_eq_true rfl)) dc_R_deliver_2 ⟨Nat.le_of_ble_eq_true rfl, Nat.le_of_ble_eq_true rfl⟩) (fun H locs hP hD hS => ?_)
  have hP : va_P (dC, dI) clsL [zR r cn mn mi nn, ((r 14), .inl (cI, 104, .inl (nF su)))] H := hP.sub (ws' := [zR r cn mn mi nn, ((r 14), .inl (cI, 104, .inl (nF su)))]) [1, 0] rfl
  have hD : va_D A [zR r cn mn mi nn, ((r 14), .inl (cI, 104, .inl (nF su)))] := hD.sub (ws' := [zR r cn mn mi nn, ((r 14), .inl (cI, 104, .inl (nF su)))]) [1, 0] (by decide) rfl
  refine lv_if_eq (tgt := 40) hx hb dc_R_deliver_5 (by decide) (fun hc => ?_) (fun hc => ?_)
  · have h1 : true = false := bI_0.mp hc
    exact absurd h1 (by decide)
  have h1 : true = true := bI_n0.mp hc
  refine lv_aload_n hx hb dc_R_deliver_8 rfl (lv_at hl 0 rfl) ?_
  refine va_get (D := (dC, dI)) (ci := 4) (v := .ref (r 14)) (C := cn_R) (T := ft_R) (N := 27) hx hb htb ki_R hown hK hP 0 rfl rfl 14 (by decide) (htb _ kw_384) (fun _ h9 => h9) rfl dc_R_deliver_9 ?_
  refine lv_iload_n hx hb dc_R_deliver_12 rfl (lv_at hl 1 rfl) ?_
  refine wa_nld (k := k) hx hb hK hP 1 0 rfl rfl (by omega) (by omega) dc_R_deliver_13 ?_
  refine lv_if_ne (tgt := 40) hx hb dc_R_deliver_14 (by decide) (fun hc => ?_) (fun hc => ?_)
  rotate_left
  · have h2 : (su k) = 0 := (nI_eq (b := 0) (by omega) (by omega)).mp hc
    exact absurd h2 hw
  have h2 : ¬ (su k) = 0 := fun h9 => hc ((nI_eq (b := 0) (by omega) (by omega)).mpr h9)
  refine lv_iconst (v := (-1)) hx hb dc_R_deliver_40 (by decide) ?_
  have hP9 := hP.sub (ws' := [zR r cn mn mi nn, ((r 14), .inl (cI, 104, .inl (nF su)))]) [0, 1] rfl
  have hD9 := hD.sub (ws' := [zR r cn mn mi nn, ((r 14), .inl (cI, 104, .inl (nF su)))]) [0, 1] (by decide) rfl
  exact W.iret (v := (-1)) hx hb hr (fun t ht hW => ⟨⟨_, (), rfl, rfl, by rw [ht]; exact hP9, va_K.moved hW.alike hK, hD9⟩, hS.F ht⟩) hS.2.2 dc_R_deliver_41

set_option maxHeartbeats 4000000 in
set_option maxRecDepth 100000 in
theorem oc_R_deliver_dn (l : Launch) (dC : Nat → ClassId) (dI : Nat → Nat → Nat) (cI cJ cZ cP : ClassId) (sz : Nat) (r : Nat → Nat) (cn : Nat) (mn : Nat) (mi : Nat) (nn : Nat) (su : Nat → Nat) (tg : Nat → Nat) (dw : Nat → Bool) (k : Nat) (j : Nat) (hk : k < mn) (hmn : mn ≤ 104) (hu : su k < 4) (hw : su k = 0) (htg : tg k = j) (hj : j < 3) (hdw : dw j = true) : mt_I l mn_R_deliver bc_R_deliver 3 (some .int) ({ frames := 1, cells := 0, slots := 0, locals := 21 }) (dC, dI) (TYS cI cJ cZ cP) sz [.ref (r 0), .int (nI k)] [zR r cn mn mi nn, ((r 14), .inl (cI, 104, .inl (nF su))), ((r 13), .inl (cI, 104, .inl (nF tg))), ((r 18), .inl (cZ, 3, .inl (bF dw)))] [zR r cn mn mi nn, ((r 14), .inl (cI, 104, .inl (nF su))), ((r 13), .inl (cI, 104, .inl (nF tg))), ((r 18), .inl (cZ, 3, .inl (bF dw)))] ((-1)) 0 0 := by
  unfold mt_I
  refine Met.ofW (cc := bc_R_deliver) (maxL := 3) (ret := (some .int)) (by decide) rfl ?_
  intro p e s m args below meth c s₁ B hml hv
  obtain ⟨rfl, hsz, hP, hK, hD0⟩ := hv
  have hx := B.exec
  have hb := B.bytes
  have hr := B.returns
  have hts := atoms_spec (ws := wsT mn_R_deliver bc_R_deliver 3 (some .int)) B.pre
  have htb : ∀ w ∈ gtbl, w.before _ s = true := fun w h => hts w (List.mem_cons_of_mem _ h)
  have hown : s.vm.findClass cn_R = some m.cls := findClass_of_methodNamed B.named
  have hlocks := B.notSynchronized
  subst hsz
  have hD := hD0.self (sz := s.heap.size)
  generalize hAe : va_A [zR r cn mn mi nn, ((r 14), .inl (cI, 104, .inl (nF su))), ((r 13), .inl (cI, 104, .inl (nF tg))), ((r 18), .inl (cZ, 3, .inl (bF dw)))] s.heap.size = A at hD ⊢
  have hA : ∀ q : Nat, s.heap.size ≤ q → A q := fun q h => by rw [← hAe]; exact Or.inr h
  have hS : va_S A s.heap s.heap [] := va_S.rf
  have hP : va_P (dC, dI) clsL [zR r cn mn mi nn, ((r 14), .inl (cI, 104, .inl (nF su))), ((r 13), .inl (cI, 104, .inl (nF tg))), ((r 18), .inl (cZ, 3, .inl (bF dw)))] s.heap := hP
  have hl := lv_entry ([.ref (r 0), .int (nI k)]) (n := 3) (Nat.le_of_ble_eq_true rfl)
  rw [lg_entry_eq]
  generalize (lg_sl ([.ref (r 0), .int (nI k)]) ++ List.replicate (3 - (lg_sl ([.ref (r 0), .int (nI k)])).length) Slot.unset).toArray = ls at hl ⊢
  have hl : lv_has ls 3 [(0, .ref (r 0)), (1, .int (nI k))] := hl
  refine lv_aload_n hx hb dc_R_deliver_0 rfl (lv_at hl 0 rfl) ?_
  refine lv_iload_n hx hb dc_R_deliver_1 rfl (lv_at hl 1 rfl) ?_
  refine cl_i (wc := [zR r cn mn mi nn]) (wr := [((r 14), .inl (cI, 104, .inl (nF su))), ((r 13), .inl (cI, 104, .inl (nF tg))), ((r 18), .inl (cZ, 3, .inl (bF dw)))]) (w1 := [zR r cn mn mi nn]) hP hD hS hA [0] [1, 2, 3] rfl rfl (by decide) (by decide) (va_runV (As := [.int (nI k)]) (rest := []) ⟨hx, hb, hml, hown, htb⟩ (oc_R_isMessage l dC dI cI cJ cZ cP _ r cn mn mi nn k (by first | assumption | omega) (by first | assumption | omega)) (cwV 1 htb (gw_V kw_470 kw_472 kp_15 kw_5 kw_473) rfl rfl rfl (by decide +kernel) ⟨Nat.le_of_ble_eq_true rfl, Nat.le_of_ble_eq_true rfl⟩) (pr_V hP hK hD (va_recv hK hP (ci := 4) (q0 := 0) rfl rfl) [0] (by decide) rfl rfl) rfl rfl hl.1 rfl (lv_room (Nat.le_of_ble_eq_true rfl)) dc_R_deliver_2 ⟨Nat.le_of_ble_eq_true rfl, Nat.le_of_ble_eq_true rfl⟩) (fun H locs hP hD hS => ?_)
  have hP : va_P (dC, dI) clsL [zR r cn mn mi nn, ((r 14), .inl (cI, 104, .inl (nF su))), ((r 13), .inl (cI, 104, .inl (nF tg))), ((r 18), .inl (cZ, 3, .inl (bF dw)))] H := hP.sub (ws' := [zR r cn mn mi nn, ((r 14), .inl (cI, 104, .inl (nF su))), ((r 13), .inl (cI, 104, .inl (nF tg))), ((r 18), .inl (cZ, 3, .inl (bF dw)))]) [3, 0, 1, 2] rfl
  have hD : va_D A [zR r cn mn mi nn, ((r 14), .inl (cI, 104, .inl (nF su))), ((r 13), .inl (cI, 104, .inl (nF tg))), ((r 18), .inl (cZ, 3, .inl (bF dw)))] := hD.sub (ws' := [zR r cn mn mi nn, ((r 14), .inl (cI, 104, .inl (nF su))), ((r 13), .inl (cI, 104, .inl (nF tg))), ((r 18), .inl (cZ, 3, .inl (bF dw)))]) [3, 0, 1, 2] (by decide) rfl
  refine lv_if_eq (tgt := 40) hx hb dc_R_deliver_5 (by decide) (fun hc => ?_) (fun hc => ?_)
  · have h1 : true = false := bI_0.mp hc
    exact absurd h1 (by decide)
  have h1 : true = true := bI_n0.mp hc
  refine lv_aload_n hx hb dc_R_deliver_8 rfl (lv_at hl 0 rfl) ?_
  refine va_get (D := (dC, dI)) (ci := 4) (v := .ref (r 14)) (C := cn_R) (T := ft_R) (N := 27) hx hb htb ki_R hown hK hP 0 rfl rfl 14 (by decide) (htb _ kw_384) (fun _ h9 => h9) rfl dc_R_deliver_9 ?_
  refine lv_iload_n hx hb dc_R_deliver_12 rfl (lv_at hl 1 rfl) ?_
  refine wa_nld (k := k) hx hb hK hP 1 0 rfl rfl (by omega) (by omega) dc_R_deliver_13 ?_
  refine lv_if_ne (tgt := 40) hx hb dc_R_deliver_14 (by decide) (fun hc => ?_) (fun hc => ?_)
  · have h2 : ¬ (su k) = 0 := fun h9 => hc ((nI_eq (b := 0) (by omega) (by omega)).mpr h9)
    exact absurd hw h2
  have h2 : (su k) = 0 := (nI_eq (b := 0) (by omega) (by omega)).mp hc
  refine lv_aload_n hx hb dc_R_deliver_17 rfl (lv_at hl 0 rfl) ?_
  refine va_get (D := (dC, dI)) (ci := 4) (v := .ref (r 18)) (C := cn_R) (T := ft_R) (N := 27) hx hb htb ki_R hown hK hP 0 rfl rfl 18 (by decide) (htb _ kw_388) (fun _ h9 => h9) rfl dc_R_deliver_18 ?_
  refine lv_aload_n hx hb dc_R_deliver_21 rfl (lv_at hl 0 rfl) ?_
  refine va_get (D := (dC, dI)) (ci := 4) (v := .ref (r 13)) (C := cn_R) (T := ft_R) (N := 27) hx hb htb ki_R hown hK hP 0 rfl rfl 13 (by decide) (htb _ kw_383) (fun _ h9 => h9) rfl dc_R_deliver_22 ?_
  refine lv_iload_n hx hb dc_R_deliver_25 rfl (lv_at hl 1 rfl) ?_
  refine wa_nld (k := k) hx hb hK hP 2 0 rfl rfl (by omega) (by omega) dc_R_deliver_26 ?_
  refine tp_i (y := nI j) (by rw [htg]) ?_
  refine wa_bld (k := j) hx hb hK hP 3 2 rfl rfl (by omega) (by omega) dc_R_deliver_27 ?_
  refine lv_if_ne (tgt := 40) hx hb dc_R_deliver_28 (by decide) (fun hc => ?_) (fun hc => ?_)
  rotate_left
  · have h3 : dw j = false := bI_0.mp hc
    rw [hdw] at h3; exact absurd h3 (by decide)
  have h3 : dw j = true := bI_n0.mp hc
  refine lv_iconst (v := (-1)) hx hb dc_R_deliver_40 (by decide) ?_
  have hP9 := hP.sub (ws' := [zR r cn mn mi nn, ((r 14), .inl (cI, 104, .inl (nF su))), ((r 13), .inl (cI, 104, .inl (nF tg))), ((r 18), .inl (cZ, 3, .inl (bF dw)))]) [0, 1, 2, 3] rfl
  have hD9 := hD.sub (ws' := [zR r cn mn mi nn, ((r 14), .inl (cI, 104, .inl (nF su))), ((r 13), .inl (cI, 104, .inl (nF tg))), ((r 18), .inl (cZ, 3, .inl (bF dw)))]) [0, 1, 2, 3] (by decide) rfl
  exact W.iret (v := (-1)) hx hb hr (fun t ht hW => ⟨⟨_, (), rfl, rfl, by rw [ht]; exact hP9, va_K.moved hW.alike hK, hD9⟩, hS.F ht⟩) hS.2.2 dc_R_deliver_41

set_option maxHeartbeats 4000000 in
set_option maxRecDepth 100000 in
theorem oc_R_deliver_full (l : Launch) (dC : Nat → ClassId) (dI : Nat → Nat → Nat) (cI cJ cZ cP : ClassId) (sz : Nat) (r : Nat → Nat) (cn : Nat) (mn : Nat) (mi : Nat) (nn : Nat) (su : Nat → Nat) (tg : Nat → Nat) (dw : Nat → Bool) (k : Nat) (j : Nat) (hk : k < mn) (hmn : mn ≤ 104) (hu : su k < 4) (hw : su k = 0) (htg : tg k = j) (hj : j < 3) (hdw : dw j = false) (hcn : cn = 40) : mt_I l mn_R_deliver bc_R_deliver 3 (some .int) ({ frames := 1, cells := 0, slots := 0, locals := 21 }) (dC, dI) (TYS cI cJ cZ cP) sz [.ref (r 0), .int (nI k)] [zR r cn mn mi nn, ((r 14), .inl (cI, 104, .inl (nF su))), ((r 13), .inl (cI, 104, .inl (nF tg))), ((r 18), .inl (cZ, 3, .inl (bF dw)))] [zR r cn mn mi nn, ((r 14), .inl (cI, 104, .inl (nF su))), ((r 13), .inl (cI, 104, .inl (nF tg))), ((r 18), .inl (cZ, 3, .inl (bF dw)))] ((-1)) 0 0 := by
  unfold mt_I
  refine Met.ofW (cc := bc_R_deliver) (maxL := 3) (ret := (some .int)) (by decide) rfl ?_
  intro p e s m args below meth c s₁ B hml hv
  obtain ⟨rfl, hsz, hP, hK, hD0⟩ := hv
  have hx := B.exec
  have hb := B.bytes
  have hr := B.returns
  have hts := atoms_spec (ws := wsT mn_R_deliver bc_R_deliver 3 (some .int)) B.pre
  have htb : ∀ w ∈ gtbl, w.before _ s = true := fun w h => hts w (List.mem_cons_of_mem _ h)
  have hown : s.vm.findClass cn_R = some m.cls := findClass_of_methodNamed B.named
  have hlocks := B.notSynchronized
  subst hsz
  have hD := hD0.self (sz := s.heap.size)
  generalize hAe : va_A [zR r cn mn mi nn, ((r 14), .inl (cI, 104, .inl (nF su))), ((r 13), .inl (cI, 104, .inl (nF tg))), ((r 18), .inl (cZ, 3, .inl (bF dw)))] s.heap.size = A at hD ⊢
  have hA : ∀ q : Nat, s.heap.size ≤ q → A q := fun q h => by rw [← hAe]; exact Or.inr h
  have hS : va_S A s.heap s.heap [] := va_S.rf
  have hP : va_P (dC, dI) clsL [zR r cn mn mi nn, ((r 14), .inl (cI, 104, .inl (nF su))), ((r 13), .inl (cI, 104, .inl (nF tg))), ((r 18), .inl (cZ, 3, .inl (bF dw)))] s.heap := hP
  have hl := lv_entry ([.ref (r 0), .int (nI k)]) (n := 3) (Nat.le_of_ble_eq_true rfl)
  rw [lg_entry_eq]
  generalize (lg_sl ([.ref (r 0), .int (nI k)]) ++ List.replicate (3 - (lg_sl ([.ref (r 0), .int (nI k)])).length) Slot.unset).toArray = ls at hl ⊢
  have hl : lv_has ls 3 [(0, .ref (r 0)), (1, .int (nI k))] := hl
  refine lv_aload_n hx hb dc_R_deliver_0 rfl (lv_at hl 0 rfl) ?_
  refine lv_iload_n hx hb dc_R_deliver_1 rfl (lv_at hl 1 rfl) ?_
  refine cl_i (wc := [zR r cn mn mi nn]) (wr := [((r 14), .inl (cI, 104, .inl (nF su))), ((r 13), .inl (cI, 104, .inl (nF tg))), ((r 18), .inl (cZ, 3, .inl (bF dw)))]) (w1 := [zR r cn mn mi nn]) hP hD hS hA [0] [1, 2, 3] rfl rfl (by decide) (by decide) (va_runV (As := [.int (nI k)]) (rest := []) ⟨hx, hb, hml, hown, htb⟩ (oc_R_isMessage l dC dI cI cJ cZ cP _ r cn mn mi nn k (by first | assumption | omega) (by first | assumption | omega)) (cwV 1 htb (gw_V kw_470 kw_472 kp_15 kw_5 kw_473) rfl rfl rfl (by decide +kernel) ⟨Nat.le_of_ble_eq_true rfl, Nat.le_of_ble_eq_true rfl⟩) (pr_V hP hK hD (va_recv hK hP (ci := 4) (q0 := 0) rfl rfl) [0] (by decide) rfl rfl) rfl rfl hl.1 rfl (lv_room (Nat.le_of_ble_eq_true rfl)) dc_R_deliver_2 ⟨Nat.le_of_ble_eq_true rfl, Nat.le_of_ble_eq_true rfl⟩) (fun H locs hP hD hS => ?_)
  have hP : va_P (dC, dI) clsL [zR r cn mn mi nn, ((r 14), .inl (cI, 104, .inl (nF su))), ((r 13), .inl (cI, 104, .inl (nF tg))), ((r 18), .inl (cZ, 3, .inl (bF dw)))] H := hP.sub (ws' := [zR r cn mn mi nn, ((r 14), .inl (cI, 104, .inl (nF su))), ((r 13), .inl (cI, 104, .inl (nF tg))), ((r 18), .inl (cZ, 3, .inl (bF dw)))]) [3, 0, 1, 2] rfl
  have hD : va_D A [zR r cn mn mi nn, ((r 14), .inl (cI, 104, .inl (nF su))), ((r 13), .inl (cI, 104, .inl (nF tg))), ((r 18), .inl (cZ, 3, .inl (bF dw)))] := hD.sub (ws' := [zR r cn mn mi nn, ((r 14), .inl (cI, 104, .inl (nF su))), ((r 13), .inl (cI, 104, .inl (nF tg))), ((r 18), .inl (cZ, 3, .inl (bF dw)))]) [3, 0, 1, 2] (by decide) rfl
  refine lv_if_eq (tgt := 40) hx hb dc_R_deliver_5 (by decide) (fun hc => ?_) (fun hc => ?_)
  · have h1 : true = false := bI_0.mp hc
    exact absurd h1 (by decide)
  have h1 : true = true := bI_n0.mp hc
  refine lv_aload_n hx hb dc_R_deliver_8 rfl (lv_at hl 0 rfl) ?_
  refine va_get (D := (dC, dI)) (ci := 4) (v := .ref (r 14)) (C := cn_R) (T := ft_R) (N := 27) hx hb htb ki_R hown hK hP 0 rfl rfl 14 (by decide) (htb _ kw_384) (fun _ h9 => h9) rfl dc_R_deliver_9 ?_
  refine lv_iload_n hx hb dc_R_deliver_12 rfl (lv_at hl 1 rfl) ?_
  refine wa_nld (k := k) hx hb hK hP 1 0 rfl rfl (by omega) (by omega) dc_R_deliver_13 ?_
  refine lv_if_ne (tgt := 40) hx hb dc_R_deliver_14 (by decide) (fun hc => ?_) (fun hc => ?_)
  · have h2 : ¬ (su k) = 0 := fun h9 => hc ((nI_eq (b := 0) (by omega) (by omega)).mpr h9)
    exact absurd hw h2
  have h2 : (su k) = 0 := (nI_eq (b := 0) (by omega) (by omega)).mp hc
  refine lv_aload_n hx hb dc_R_deliver_17 rfl (lv_at hl 0 rfl) ?_
  refine va_get (D := (dC, dI)) (ci := 4) (v := .ref (r 18)) (C := cn_R) (T := ft_R) (N := 27) hx hb htb ki_R hown hK hP 0 rfl rfl 18 (by decide) (htb _ kw_388) (fun _ h9 => h9) rfl dc_R_deliver_18 ?_
  refine lv_aload_n hx hb dc_R_deliver_21 rfl (lv_at hl 0 rfl) ?_
  refine va_get (D := (dC, dI)) (ci := 4) (v := .ref (r 13)) (C := cn_R) (T := ft_R) (N := 27) hx hb htb ki_R hown hK hP 0 rfl rfl 13 (by decide) (htb _ kw_383) (fun _ h9 => h9) rfl dc_R_deliver_22 ?_
  refine lv_iload_n hx hb dc_R_deliver_25 rfl (lv_at hl 1 rfl) ?_
  refine wa_nld (k := k) hx hb hK hP 2 0 rfl rfl (by omega) (by omega) dc_R_deliver_26 ?_
  refine tp_i (y := nI j) (by rw [htg]) ?_
  refine wa_bld (k := j) hx hb hK hP 3 2 rfl rfl (by omega) (by omega) dc_R_deliver_27 ?_
  refine lv_if_ne (tgt := 40) hx hb dc_R_deliver_28 (by decide) (fun hc => ?_) (fun hc => ?_)
  · have h3 : dw j = true := bI_n0.mp hc
    rw [hdw] at h3; exact absurd h3 (by decide)
  have h3 : dw j = false := bI_0.mp hc
  refine lv_aload_n hx hb dc_R_deliver_31 rfl (lv_at hl 0 rfl) ?_
  refine va_get (D := (dC, dI)) (ci := 4) (v := .int (nI cn)) (C := cn_R) (T := ft_R) (N := 27) hx hb htb ki_R hown hK hP 0 rfl rfl 0 (by decide) (htb _ kw_370) (fun _ h9 => h9) rfl dc_R_deliver_32 ?_
  refine lv_bipush (v := nI 40) hx hb dc_R_deliver_35 (by decide) ?_
  refine lv_icmp_lt (tgt := 42) hx hb dc_R_deliver_37 (by decide) (fun hc => ?_) (fun hc => ?_)
  · have h4 : cn < 40 := (nI_ltI (by omega) (by omega)).mp hc
    exact absurd h4 (by omega)
  have h4 : 40 ≤ cn := Nat.le_of_not_lt (fun h9 => hc ((nI_ltI (by omega) (by omega)).mpr h9))
  refine lv_iconst (v := (-1)) hx hb dc_R_deliver_40 (by decide) ?_
  have hP9 := hP.sub (ws' := [zR r cn mn mi nn, ((r 14), .inl (cI, 104, .inl (nF su))), ((r 13), .inl (cI, 104, .inl (nF tg))), ((r 18), .inl (cZ, 3, .inl (bF dw)))]) [0, 1, 2, 3] rfl
  have hD9 := hD.sub (ws' := [zR r cn mn mi nn, ((r 14), .inl (cI, 104, .inl (nF su))), ((r 13), .inl (cI, 104, .inl (nF tg))), ((r 18), .inl (cZ, 3, .inl (bF dw)))]) [0, 1, 2, 3] (by decide) rfl
  exact W.iret (v := (-1)) hx hb hr (fun t ht hW => ⟨⟨_, (), rfl, rfl, by rw [ht]; exact hP9, va_K.moved hW.alike hK, hD9⟩, hS.F ht⟩) hS.2.2 dc_R_deliver_41

set_option maxHeartbeats 4000000 in
set_option maxRecDepth 100000 in
theorem oc_R_deliver_held (l : Launch) (dC : Nat → ClassId) (dI : Nat → Nat → Nat) (cI cJ cZ cP : ClassId) (sz : Nat) (r : Nat → Nat) (cn : Nat) (mn : Nat) (mi : Nat) (nn : Nat) (su : Nat → Nat) (tg : Nat → Nat) (dw : Nat → Bool) (kn : Nat → Nat) (ler : Nat → Nat) (k : Nat) (j : Nat) (le : Nat) (hk : k < mn) (hmn : mn ≤ 104) (hu : su k < 4) (hw : su k = 0) (htg : tg k = j) (hj : j < 3) (hdw : dw j = false) (hcn : cn < 40) (hle : ler j = le) (hkb : kn k < 2 ^ 30) (hlb : le < 2 ^ 30) (hh : le < kn k) : mt_I l mn_R_deliver bc_R_deliver 3 (some .int) ({ frames := 1, cells := 0, slots := 0, locals := 21 }) (dC, dI) (TYS cI cJ cZ cP) sz [.ref (r 0), .int (nI k)] [zR r cn mn mi nn, ((r 14), .inl (cI, 104, .inl (nF su))), ((r 13), .inl (cI, 104, .inl (nF tg))), ((r 18), .inl (cZ, 3, .inl (bF dw))), ((r 16), .inl (cI, 104, .inl (nF kn))), ((r 21), .inl (cI, 3, .inl (nF ler)))] [zR r cn mn mi nn, ((r 14), .inl (cI, 104, .inl (nF su))), ((r 13), .inl (cI, 104, .inl (nF tg))), ((r 18), .inl (cZ, 3, .inl (bF dw))), ((r 16), .inl (cI, 104, .inl (nF kn))), ((r 21), .inl (cI, 3, .inl (nF ler)))] ((-2)) 0 0 := by
  unfold mt_I
  refine Met.ofW (cc := bc_R_deliver) (maxL := 3) (ret := (some .int)) (by decide) rfl ?_
  intro p e s m args below meth c s₁ B hml hv
  obtain ⟨rfl, hsz, hP, hK, hD0⟩ := hv
  have hx := B.exec
  have hb := B.bytes
  have hr := B.returns
  have hts := atoms_spec (ws := wsT mn_R_deliver bc_R_deliver 3 (some .int)) B.pre
  have htb : ∀ w ∈ gtbl, w.before _ s = true := fun w h => hts w (List.mem_cons_of_mem _ h)
  have hown : s.vm.findClass cn_R = some m.cls := findClass_of_methodNamed B.named
  have hlocks := B.notSynchronized
  subst hsz
  have hD := hD0.self (sz := s.heap.size)
  generalize hAe : va_A [zR r cn mn mi nn, ((r 14), .inl (cI, 104, .inl (nF su))), ((r 13), .inl (cI, 104, .inl (nF tg))), ((r 18), .inl (cZ, 3, .inl (bF dw))), ((r 16), .inl (cI, 104, .inl (nF kn))), ((r 21), .inl (cI, 3, .inl (nF ler)))] s.heap.size = A at hD ⊢
  have hA : ∀ q : Nat, s.heap.size ≤ q → A q := fun q h => by rw [← hAe]; exact Or.inr h
  have hS : va_S A s.heap s.heap [] := va_S.rf
  have hP : va_P (dC, dI) clsL [zR r cn mn mi nn, ((r 14), .inl (cI, 104, .inl (nF su))), ((r 13), .inl (cI, 104, .inl (nF tg))), ((r 18), .inl (cZ, 3, .inl (bF dw))), ((r 16), .inl (cI, 104, .inl (nF kn))), ((r 21), .inl (cI, 3, .inl (nF ler)))] s.heap := hP
  have hl := lv_entry ([.ref (r 0), .int (nI k)]) (n := 3) (Nat.le_of_ble_eq_true rfl)
  rw [lg_entry_eq]
  generalize (lg_sl ([.ref (r 0), .int (nI k)]) ++ List.replicate (3 - (lg_sl ([.ref (r 0), .int (nI k)])).length) Slot.unset).toArray = ls at hl ⊢
  have hl : lv_has ls 3 [(0, .ref (r 0)), (1, .int (nI k))] := hl
  refine lv_aload_n hx hb dc_R_deliver_0 rfl (lv_at hl 0 rfl) ?_
  refine lv_iload_n hx hb dc_R_deliver_1 rfl (lv_at hl 1 rfl) ?_
  refine cl_i (wc := [zR r cn mn mi nn]) (wr := [((r 14), .inl (cI, 104, .inl (nF su))), ((r 13), .inl (cI, 104, .inl (nF tg))), ((r 18), .inl (cZ, 3, .inl (bF dw))), ((r 16), .inl (cI, 104, .inl (nF kn))), ((r 21), .inl (cI, 3, .inl (nF ler)))]) (w1 := [zR r cn mn mi nn]) hP hD hS hA [0] [1, 2, 3, 4, 5] rfl rfl (by decide) (by decide) (va_runV (As := [.int (nI k)]) (rest := []) ⟨hx, hb, hml, hown, htb⟩ (oc_R_isMessage l dC dI cI cJ cZ cP _ r cn mn mi nn k (by first | assumption | omega) (by first | assumption | omega)) (cwV 1 htb (gw_V kw_470 kw_472 kp_15 kw_5 kw_473) rfl rfl rfl (by decide +kernel) ⟨Nat.le_of_ble_eq_true rfl, Nat.le_of_ble_eq_true rfl⟩) (pr_V hP hK hD (va_recv hK hP (ci := 4) (q0 := 0) rfl rfl) [0] (by decide) rfl rfl) rfl rfl hl.1 rfl (lv_room (Nat.le_of_ble_eq_true rfl)) dc_R_deliver_2 ⟨Nat.le_of_ble_eq_true rfl, Nat.le_of_ble_eq_true rfl⟩) (fun H locs hP hD hS => ?_)
  have hP : va_P (dC, dI) clsL [zR r cn mn mi nn, ((r 14), .inl (cI, 104, .inl (nF su))), ((r 13), .inl (cI, 104, .inl (nF tg))), ((r 18), .inl (cZ, 3, .inl (bF dw))), ((r 16), .inl (cI, 104, .inl (nF kn))), ((r 21), .inl (cI, 3, .inl (nF ler)))] H := hP.sub (ws' := [zR r cn mn mi nn, ((r 14), .inl (cI, 104, .inl (nF su))), ((r 13), .inl (cI, 104, .inl (nF tg))), ((r 18), .inl (cZ, 3, .inl (bF dw))), ((r 16), .inl (cI, 104, .inl (nF kn))), ((r 21), .inl (cI, 3, .inl (nF ler)))]) [5, 0, 1, 2, 3, 4] rfl
  have hD : va_D A [zR r cn mn mi nn, ((r 14), .inl (cI, 104, .inl (nF su))), ((r 13), .inl (cI, 104, .inl (nF tg))), ((r 18), .inl (cZ, 3, .inl (bF dw))), ((r 16), .inl (cI, 104, .inl (nF kn))), ((r 21), .inl (cI, 3, .inl (nF ler)))] := hD.sub (ws' := [zR r cn mn mi nn, ((r 14), .inl (cI, 104, .inl (nF su))), ((r 13), .inl (cI, 104, .inl (nF tg))), ((r 18), .inl (cZ, 3, .inl (bF dw))), ((r 16), .inl (cI, 104, .inl (nF kn))), ((r 21), .inl (cI, 3, .inl (nF ler)))]) [5, 0, 1, 2, 3, 4] (by decide) rfl
  refine lv_if_eq (tgt := 40) hx hb dc_R_deliver_5 (by decide) (fun hc => ?_) (fun hc => ?_)
  · have h1 : true = false := bI_0.mp hc
    exact absurd h1 (by decide)
  have h1 : true = true := bI_n0.mp hc
  refine lv_aload_n hx hb dc_R_deliver_8 rfl (lv_at hl 0 rfl) ?_
  refine va_get (D := (dC, dI)) (ci := 4) (v := .ref (r 14)) (C := cn_R) (T := ft_R) (N := 27) hx hb htb ki_R hown hK hP 0 rfl rfl 14 (by decide) (htb _ kw_384) (fun _ h9 => h9) rfl dc_R_deliver_9 ?_
  refine lv_iload_n hx hb dc_R_deliver_12 rfl (lv_at hl 1 rfl) ?_
  refine wa_nld (k := k) hx hb hK hP 1 0 rfl rfl (by omega) (by omega) dc_R_deliver_13 ?_
  refine lv_if_ne (tgt := 40) hx hb dc_R_deliver_14 (by decide) (fun hc => ?_) (fun hc => ?_)
  · have h2 : ¬ (su k) = 0 := fun h9 => hc ((nI_eq (b := 0) (by omega) (by omega)).mpr h9)
    exact absurd hw h2
  have h2 : (su k) = 0 := (nI_eq (b := 0) (by omega) (by omega)).mp hc
  refine lv_aload_n hx hb dc_R_deliver_17 rfl (lv_at hl 0 rfl) ?_
  refine va_get (D := (dC, dI)) (ci := 4) (v := .ref (r 18)) (C := cn_R) (T := ft_R) (N := 27) hx hb htb ki_R hown hK hP 0 rfl rfl 18 (by decide) (htb _ kw_388) (fun _ h9 => h9) rfl dc_R_deliver_18 ?_
  refine lv_aload_n hx hb dc_R_deliver_21 rfl (lv_at hl 0 rfl) ?_
  refine va_get (D := (dC, dI)) (ci := 4) (v := .ref (r 13)) (C := cn_R) (T := ft_R) (N := 27) hx hb htb ki_R hown hK hP 0 rfl rfl 13 (by decide) (htb _ kw_383) (fun _ h9 => h9) rfl dc_R_deliver_22 ?_
  refine lv_iload_n hx hb dc_R_deliver_25 rfl (lv_at hl 1 rfl) ?_
  refine wa_nld (k := k) hx hb hK hP 2 0 rfl rfl (by omega) (by omega) dc_R_deliver_26 ?_
  refine tp_i (y := nI j) (by rw [htg]) ?_
  refine wa_bld (k := j) hx hb hK hP 3 2 rfl rfl (by omega) (by omega) dc_R_deliver_27 ?_
  refine lv_if_ne (tgt := 40) hx hb dc_R_deliver_28 (by decide) (fun hc => ?_) (fun hc => ?_)
  · have h3 : dw j = true := bI_n0.mp hc
    rw [hdw] at h3; exact absurd h3 (by decide)
  have h3 : dw j = false := bI_0.mp hc
  refine lv_aload_n hx hb dc_R_deliver_31 rfl (lv_at hl 0 rfl) ?_
  refine va_get (D := (dC, dI)) (ci := 4) (v := .int (nI cn)) (C := cn_R) (T := ft_R) (N := 27) hx hb htb ki_R hown hK hP 0 rfl rfl 0 (by decide) (htb _ kw_370) (fun _ h9 => h9) rfl dc_R_deliver_32 ?_
  refine lv_bipush (v := nI 40) hx hb dc_R_deliver_35 (by decide) ?_
  refine lv_icmp_lt (tgt := 42) hx hb dc_R_deliver_37 (by decide) (fun hc => ?_) (fun hc => ?_)
  rotate_left
  · have h4 : 40 ≤ cn := Nat.le_of_not_lt (fun h9 => hc ((nI_ltI (by omega) (by omega)).mpr h9))
    exact absurd h4 (by omega)
  have h4 : cn < 40 := (nI_ltI (by omega) (by omega)).mp hc
  refine lv_aload_n hx hb dc_R_deliver_42 rfl (lv_at hl 0 rfl) ?_
  refine va_get (D := (dC, dI)) (ci := 4) (v := .ref (r 13)) (C := cn_R) (T := ft_R) (N := 27) hx hb htb ki_R hown hK hP 0 rfl rfl 13 (by decide) (htb _ kw_383) (fun _ h9 => h9) rfl dc_R_deliver_43 ?_
  refine lv_iload_n hx hb dc_R_deliver_46 rfl (lv_at hl 1 rfl) ?_
  refine wa_nld (k := k) hx hb hK hP 2 0 rfl rfl (by omega) (by omega) dc_R_deliver_47 ?_
  refine tp_i (y := nI j) (by rw [htg]) ?_
  refine lv_istore_n (lv' := [(2, .int (nI j)), (0, .ref (r 0)), (1, .int (nI k))]) hx hb dc_R_deliver_48 rfl hl (by decide) rfl (fun ls hl => ?_)
  refine lv_aload_n hx hb dc_R_deliver_49 rfl (lv_at hl 1 rfl) ?_
  refine va_get (D := (dC, dI)) (ci := 4) (v := .ref (r 16)) (C := cn_R) (T := ft_R) (N := 27) hx hb htb ki_R hown hK hP 0 rfl rfl 16 (by decide) (htb _ kw_386) (fun _ h9 => h9) rfl dc_R_deliver_50 ?_
  refine lv_iload_n hx hb dc_R_deliver_53 rfl (lv_at hl 2 rfl) ?_
  refine wa_nld (k := k) hx hb hK hP 4 0 rfl rfl (by omega) (by omega) dc_R_deliver_54 ?_
  refine lv_aload_n hx hb dc_R_deliver_55 rfl (lv_at hl 1 rfl) ?_
  refine va_get (D := (dC, dI)) (ci := 4) (v := .ref (r 21)) (C := cn_R) (T := ft_R) (N := 27) hx hb htb ki_R hown hK hP 0 rfl rfl 21 (by decide) (htb _ kw_391) (fun _ h9 => h9) rfl dc_R_deliver_56 ?_
  refine lv_iload_n hx hb dc_R_deliver_59 rfl (lv_at hl 0 rfl) ?_
  refine wa_nld (k := j) hx hb hK hP 5 0 rfl rfl (by omega) (by omega) dc_R_deliver_60 ?_
  refine tp_i (y := nI le) (by rw [hle]) ?_
  refine lv_icmp_le (tgt := 67) hx hb dc_R_deliver_61 (by decide) (fun hc => ?_) (fun hc => ?_)
  · have h5 : (kn k) ≤ le := (nI_leI (by omega) (by omega)).mp hc
    exact absurd h5 (by omega)
  have h5 : le < (kn k) := Nat.lt_of_not_le (fun h9 => hc ((nI_leI (by omega) (by omega)).mpr h9))
  refine lv_bipush (v := (-2)) hx hb dc_R_deliver_64 (by decide) ?_
  have hP9 := hP.sub (ws' := [zR r cn mn mi nn, ((r 14), .inl (cI, 104, .inl (nF su))), ((r 13), .inl (cI, 104, .inl (nF tg))), ((r 18), .inl (cZ, 3, .inl (bF dw))), ((r 16), .inl (cI, 104, .inl (nF kn))), ((r 21), .inl (cI, 3, .inl (nF ler)))]) [0, 1, 2, 3, 4, 5] rfl
  have hD9 := hD.sub (ws' := [zR r cn mn mi nn, ((r 14), .inl (cI, 104, .inl (nF su))), ((r 13), .inl (cI, 104, .inl (nF tg))), ((r 18), .inl (cZ, 3, .inl (bF dw))), ((r 16), .inl (cI, 104, .inl (nF kn))), ((r 21), .inl (cI, 3, .inl (nF ler)))]) [0, 1, 2, 3, 4, 5] (by decide) rfl
  exact W.iret (v := (-2)) hx hb hr (fun t ht hW => ⟨⟨_, (), rfl, rfl, by rw [ht]; exact hP9, va_K.moved hW.alike hK, hD9⟩, hS.F ht⟩) hS.2.2 dc_R_deliver_66

set_option maxHeartbeats 4000000 in
set_option maxRecDepth 100000 in
theorem oc_R_deliver_orph (l : Launch) (dC : Nat → ClassId) (dI : Nat → Nat → Nat) (cI cJ cZ cP : ClassId) (sz : Nat) (r : Nat → Nat) (cn : Nat) (mn : Nat) (mi : Nat) (nn : Nat) (su : Nat → Nat) (tg : Nat → Nat) (dw : Nat → Bool) (kn : Nat → Nat) (ler : Nat → Nat) (bf : Nat → Option Nat) (rc : Nat → Nat) (sr : Nat → Option Nat) (mk : Nat → Bool) (an : Nat → Option Nat) (k : Nat) (j : Nat) (le : Nat) (hk : k < mn) (hmn : mn ≤ 104) (hu : su k < 4) (hw : su k = 0) (htg : tg k = j) (hj : j < 3) (hdw : dw j = false) (hcn : cn < 40) (hle : ler j = le) (hkb : kn k < 2 ^ 30) (hlb : le < 2 ^ 30) (hh : kn k ≤ le) (hso : ∀ i, sr k = some i → i < cn) (hbf : ∀ k, k < cn → ∀ i, bf k = some i → i < 40) (hrc : ∀ k, k < cn → rc k < 104) (hsr : ∀ k, k < cn → ∀ i, sr (rc k) = some i → i < 40) (ho : hi_B bf rc sr an (sr k) 0 le cn = true) : mt_Ix l mn_R_deliver bc_R_deliver 3 (some .int) ({ frames := 2, cells := 0, slots := 0, locals := 48 }) (dC, dI) (TYS cI cJ cZ cP) sz [.ref (r 0), .int (nI k)] [zR r cn mn mi nn, ((r 14), .inl (cI, 104, .inl (nF su))), ((r 13), .inl (cI, 104, .inl (nF tg))), ((r 18), .inl (cZ, 3, .inl (bF dw))), ((r 16), .inl (cI, 104, .inl (nF kn))), ((r 21), .inl (cI, 3, .inl (nF ler))), ((r 1), .inl (cI, 40, .inl (oF bf))), ((r 2), .inl (cI, 40, .inl (nF rc))), ((r 15), .inl (cI, 104, .inl (oF sr))), ((r 9), .inl (cZ, 40, .inl (bF mk))), ((r 7), .inl (cI, 40, .inl (oF an)))] (fun (mkz : Nat → Bool) => [zR r cn mn mi nn, ((r 14), .inl (cI, 104, .inl (nF (va_up su k 3)))), ((r 13), .inl (cI, 104, .inl (nF tg))), ((r 18), .inl (cZ, 3, .inl (bF dw))), ((r 16), .inl (cI, 104, .inl (nF kn))), ((r 21), .inl (cI, 3, .inl (nF ler))), ((r 1), .inl (cI, 40, .inl (oF bf))), ((r 2), .inl (cI, 40, .inl (nF rc))), ((r 15), .inl (cI, 104, .inl (oF sr))), ((r 9), .inl (cZ, 40, .inl (bF mkz))), ((r 7), .inl (cI, 40, .inl (oF an)))]) ((-3)) 0 0 := by
  unfold mt_Ix
  refine Met.ofW (cc := bc_R_deliver) (maxL := 3) (ret := (some .int)) (by decide) rfl ?_
  intro p e s m args below meth c s₁ B hml hv
  obtain ⟨rfl, hsz, hP, hK, hD0⟩ := hv
  have hx := B.exec
  have hb := B.bytes
  have hr := B.returns
  have hts := atoms_spec (ws := wsT mn_R_deliver bc_R_deliver 3 (some .int)) B.pre
  have htb : ∀ w ∈ gtbl, w.before _ s = true := fun w h => hts w (List.mem_cons_of_mem _ h)
  have hown : s.vm.findClass cn_R = some m.cls := findClass_of_methodNamed B.named
  have hlocks := B.notSynchronized
  subst hsz
  have hD := hD0.self (sz := s.heap.size)
  generalize hAe : va_A [zR r cn mn mi nn, ((r 14), .inl (cI, 104, .inl (nF su))), ((r 13), .inl (cI, 104, .inl (nF tg))), ((r 18), .inl (cZ, 3, .inl (bF dw))), ((r 16), .inl (cI, 104, .inl (nF kn))), ((r 21), .inl (cI, 3, .inl (nF ler))), ((r 1), .inl (cI, 40, .inl (oF bf))), ((r 2), .inl (cI, 40, .inl (nF rc))), ((r 15), .inl (cI, 104, .inl (oF sr))), ((r 9), .inl (cZ, 40, .inl (bF mk))), ((r 7), .inl (cI, 40, .inl (oF an)))] s.heap.size = A at hD ⊢
  have hA : ∀ q : Nat, s.heap.size ≤ q → A q := fun q h => by rw [← hAe]; exact Or.inr h
  have hS : va_S A s.heap s.heap [] := va_S.rf
  have hP : va_P (dC, dI) clsL [zR r cn mn mi nn, ((r 14), .inl (cI, 104, .inl (nF su))), ((r 13), .inl (cI, 104, .inl (nF tg))), ((r 18), .inl (cZ, 3, .inl (bF dw))), ((r 16), .inl (cI, 104, .inl (nF kn))), ((r 21), .inl (cI, 3, .inl (nF ler))), ((r 1), .inl (cI, 40, .inl (oF bf))), ((r 2), .inl (cI, 40, .inl (nF rc))), ((r 15), .inl (cI, 104, .inl (oF sr))), ((r 9), .inl (cZ, 40, .inl (bF mk))), ((r 7), .inl (cI, 40, .inl (oF an)))] s.heap := hP
  have hl := lv_entry ([.ref (r 0), .int (nI k)]) (n := 3) (Nat.le_of_ble_eq_true rfl)
  rw [lg_entry_eq]
  generalize (lg_sl ([.ref (r 0), .int (nI k)]) ++ List.replicate (3 - (lg_sl ([.ref (r 0), .int (nI k)])).length) Slot.unset).toArray = ls at hl ⊢
  have hl : lv_has ls 3 [(0, .ref (r 0)), (1, .int (nI k))] := hl
  refine lv_aload_n hx hb dc_R_deliver_0 rfl (lv_at hl 0 rfl) ?_
  refine lv_iload_n hx hb dc_R_deliver_1 rfl (lv_at hl 1 rfl) ?_
  refine cl_i (wc := [zR r cn mn mi nn]) (wr := [((r 14), .inl (cI, 104, .inl (nF su))), ((r 13), .inl (cI, 104, .inl (nF tg))), ((r 18), .inl (cZ, 3, .inl (bF dw))), ((r 16), .inl (cI, 104, .inl (nF kn))), ((r 21), .inl (cI, 3, .inl (nF ler))), ((r 1), .inl (cI, 40, .inl (oF bf))), ((r 2), .inl (cI, 40, .inl (nF rc))), ((r 15), .inl (cI, 104, .inl (oF sr))), ((r 9), .inl (cZ, 40, .inl (bF mk))), ((r 7), .inl (cI, 40, .inl (oF an)))]) (w1 := [zR r cn mn mi nn]) hP hD hS hA [0] [1, 2, 3, 4, 5, 6, 7, 8, 9, 10] rfl rfl (by decide) (by decide) (va_runV (As := [.int (nI k)]) (rest := []) ⟨hx, hb, hml, hown, htb⟩ (oc_R_isMessage l dC dI cI cJ cZ cP _ r cn mn mi nn k (by first | assumption | omega) (by first | assumption | omega)) (cwV 1 htb (gw_V kw_470 kw_472 kp_15 kw_5 kw_473) rfl rfl rfl (by decide +kernel) ⟨Nat.le_of_ble_eq_true rfl, Nat.le_of_ble_eq_true rfl⟩) (pr_V hP hK hD (va_recv hK hP (ci := 4) (q0 := 0) rfl rfl) [0] (by decide) rfl rfl) rfl rfl hl.1 rfl (lv_room (Nat.le_of_ble_eq_true rfl)) dc_R_deliver_2 ⟨Nat.le_of_ble_eq_true rfl, Nat.le_of_ble_eq_true rfl⟩) (fun H locs hP hD hS => ?_)
  have hP : va_P (dC, dI) clsL [zR r cn mn mi nn, ((r 14), .inl (cI, 104, .inl (nF su))), ((r 13), .inl (cI, 104, .inl (nF tg))), ((r 18), .inl (cZ, 3, .inl (bF dw))), ((r 16), .inl (cI, 104, .inl (nF kn))), ((r 21), .inl (cI, 3, .inl (nF ler))), ((r 1), .inl (cI, 40, .inl (oF bf))), ((r 2), .inl (cI, 40, .inl (nF rc))), ((r 15), .inl (cI, 104, .inl (oF sr))), ((r 9), .inl (cZ, 40, .inl (bF mk))), ((r 7), .inl (cI, 40, .inl (oF an)))] H := hP.sub (ws' := [zR r cn mn mi nn, ((r 14), .inl (cI, 104, .inl (nF su))), ((r 13), .inl (cI, 104, .inl (nF tg))), ((r 18), .inl (cZ, 3, .inl (bF dw))), ((r 16), .inl (cI, 104, .inl (nF kn))), ((r 21), .inl (cI, 3, .inl (nF ler))), ((r 1), .inl (cI, 40, .inl (oF bf))), ((r 2), .inl (cI, 40, .inl (nF rc))), ((r 15), .inl (cI, 104, .inl (oF sr))), ((r 9), .inl (cZ, 40, .inl (bF mk))), ((r 7), .inl (cI, 40, .inl (oF an)))]) [10, 0, 1, 2, 3, 4, 5, 6, 7, 8, 9] rfl
  have hD : va_D A [zR r cn mn mi nn, ((r 14), .inl (cI, 104, .inl (nF su))), ((r 13), .inl (cI, 104, .inl (nF tg))), ((r 18), .inl (cZ, 3, .inl (bF dw))), ((r 16), .inl (cI, 104, .inl (nF kn))), ((r 21), .inl (cI, 3, .inl (nF ler))), ((r 1), .inl (cI, 40, .inl (oF bf))), ((r 2), .inl (cI, 40, .inl (nF rc))), ((r 15), .inl (cI, 104, .inl (oF sr))), ((r 9), .inl (cZ, 40, .inl (bF mk))), ((r 7), .inl (cI, 40, .inl (oF an)))] := hD.sub (ws' := [zR r cn mn mi nn, ((r 14), .inl (cI, 104, .inl (nF su))), ((r 13), .inl (cI, 104, .inl (nF tg))), ((r 18), .inl (cZ, 3, .inl (bF dw))), ((r 16), .inl (cI, 104, .inl (nF kn))), ((r 21), .inl (cI, 3, .inl (nF ler))), ((r 1), .inl (cI, 40, .inl (oF bf))), ((r 2), .inl (cI, 40, .inl (nF rc))), ((r 15), .inl (cI, 104, .inl (oF sr))), ((r 9), .inl (cZ, 40, .inl (bF mk))), ((r 7), .inl (cI, 40, .inl (oF an)))]) [10, 0, 1, 2, 3, 4, 5, 6, 7, 8, 9] (by decide) rfl
  refine lv_if_eq (tgt := 40) hx hb dc_R_deliver_5 (by decide) (fun hc => ?_) (fun hc => ?_)
  · have h1 : true = false := bI_0.mp hc
    exact absurd h1 (by decide)
  have h1 : true = true := bI_n0.mp hc
  refine lv_aload_n hx hb dc_R_deliver_8 rfl (lv_at hl 0 rfl) ?_
  refine va_get (D := (dC, dI)) (ci := 4) (v := .ref (r 14)) (C := cn_R) (T := ft_R) (N := 27) hx hb htb ki_R hown hK hP 0 rfl rfl 14 (by decide) (htb _ kw_384) (fun _ h9 => h9) rfl dc_R_deliver_9 ?_
  refine lv_iload_n hx hb dc_R_deliver_12 rfl (lv_at hl 1 rfl) ?_
  refine wa_nld (k := k) hx hb hK hP 1 0 rfl rfl (by omega) (by omega) dc_R_deliver_13 ?_
  refine lv_if_ne (tgt := 40) hx hb dc_R_deliver_14 (by decide) (fun hc => ?_) (fun hc => ?_)
  · have h2 : ¬ (su k) = 0 := fun h9 => hc ((nI_eq (b := 0) (by omega) (by omega)).mpr h9)
    exact absurd hw h2
  have h2 : (su k) = 0 := (nI_eq (b := 0) (by omega) (by omega)).mp hc
  refine lv_aload_n hx hb dc_R_deliver_17 rfl (lv_at hl 0 rfl) ?_
  refine va_get (D := (dC, dI)) (ci := 4) (v := .ref (r 18)) (C := cn_R) (T := ft_R) (N := 27) hx hb htb ki_R hown hK hP 0 rfl rfl 18 (by decide) (htb _ kw_388) (fun _ h9 => h9) rfl dc_R_deliver_18 ?_
  refine lv_aload_n hx hb dc_R_deliver_21 rfl (lv_at hl 0 rfl) ?_
  refine va_get (D := (dC, dI)) (ci := 4) (v := .ref (r 13)) (C := cn_R) (T := ft_R) (N := 27) hx hb htb ki_R hown hK hP 0 rfl rfl 13 (by decide) (htb _ kw_383) (fun _ h9 => h9) rfl dc_R_deliver_22 ?_
  refine lv_iload_n hx hb dc_R_deliver_25 rfl (lv_at hl 1 rfl) ?_
  refine wa_nld (k := k) hx hb hK hP 2 0 rfl rfl (by omega) (by omega) dc_R_deliver_26 ?_
  refine tp_i (y := nI j) (by rw [htg]) ?_
  refine wa_bld (k := j) hx hb hK hP 3 2 rfl rfl (by omega) (by omega) dc_R_deliver_27 ?_
  refine lv_if_ne (tgt := 40) hx hb dc_R_deliver_28 (by decide) (fun hc => ?_) (fun hc => ?_)
  · have h3 : dw j = true := bI_n0.mp hc
    rw [hdw] at h3; exact absurd h3 (by decide)
  have h3 : dw j = false := bI_0.mp hc
  refine lv_aload_n hx hb dc_R_deliver_31 rfl (lv_at hl 0 rfl) ?_
  refine va_get (D := (dC, dI)) (ci := 4) (v := .int (nI cn)) (C := cn_R) (T := ft_R) (N := 27) hx hb htb ki_R hown hK hP 0 rfl rfl 0 (by decide) (htb _ kw_370) (fun _ h9 => h9) rfl dc_R_deliver_32 ?_
  refine lv_bipush (v := nI 40) hx hb dc_R_deliver_35 (by decide) ?_
  refine lv_icmp_lt (tgt := 42) hx hb dc_R_deliver_37 (by decide) (fun hc => ?_) (fun hc => ?_)
  rotate_left
  · have h4 : 40 ≤ cn := Nat.le_of_not_lt (fun h9 => hc ((nI_ltI (by omega) (by omega)).mpr h9))
    exact absurd h4 (by omega)
  have h4 : cn < 40 := (nI_ltI (by omega) (by omega)).mp hc
  refine lv_aload_n hx hb dc_R_deliver_42 rfl (lv_at hl 0 rfl) ?_
  refine va_get (D := (dC, dI)) (ci := 4) (v := .ref (r 13)) (C := cn_R) (T := ft_R) (N := 27) hx hb htb ki_R hown hK hP 0 rfl rfl 13 (by decide) (htb _ kw_383) (fun _ h9 => h9) rfl dc_R_deliver_43 ?_
  refine lv_iload_n hx hb dc_R_deliver_46 rfl (lv_at hl 1 rfl) ?_
  refine wa_nld (k := k) hx hb hK hP 2 0 rfl rfl (by omega) (by omega) dc_R_deliver_47 ?_
  refine tp_i (y := nI j) (by rw [htg]) ?_
  refine lv_istore_n (lv' := [(2, .int (nI j)), (0, .ref (r 0)), (1, .int (nI k))]) hx hb dc_R_deliver_48 rfl hl (by decide) rfl (fun ls hl => ?_)
  refine lv_aload_n hx hb dc_R_deliver_49 rfl (lv_at hl 1 rfl) ?_
  refine va_get (D := (dC, dI)) (ci := 4) (v := .ref (r 16)) (C := cn_R) (T := ft_R) (N := 27) hx hb htb ki_R hown hK hP 0 rfl rfl 16 (by decide) (htb _ kw_386) (fun _ h9 => h9) rfl dc_R_deliver_50 ?_
  refine lv_iload_n hx hb dc_R_deliver_53 rfl (lv_at hl 2 rfl) ?_
  refine wa_nld (k := k) hx hb hK hP 4 0 rfl rfl (by omega) (by omega) dc_R_deliver_54 ?_
  refine lv_aload_n hx hb dc_R_deliver_55 rfl (lv_at hl 1 rfl) ?_
  refine va_get (D := (dC, dI)) (ci := 4) (v := .ref (r 21)) (C := cn_R) (T := ft_R) (N := 27) hx hb htb ki_R hown hK hP 0 rfl rfl 21 (by decide) (htb _ kw_391) (fun _ h9 => h9) rfl dc_R_deliver_56 ?_
  refine lv_iload_n hx hb dc_R_deliver_59 rfl (lv_at hl 0 rfl) ?_
  refine wa_nld (k := j) hx hb hK hP 5 0 rfl rfl (by omega) (by omega) dc_R_deliver_60 ?_
  refine tp_i (y := nI le) (by rw [hle]) ?_
  refine lv_icmp_le (tgt := 67) hx hb dc_R_deliver_61 (by decide) (fun hc => ?_) (fun hc => ?_)
  rotate_left
  · have h5 : le < (kn k) := Nat.lt_of_not_le (fun h9 => hc ((nI_leI (by omega) (by omega)).mpr h9))
    exact absurd h5 (by omega)
  have h5 : (kn k) ≤ le := (nI_leI (by omega) (by omega)).mp hc
  refine lv_aload_n hx hb dc_R_deliver_67 rfl (lv_at hl 1 rfl) ?_
  refine lv_aload_n hx hb dc_R_deliver_68 rfl (lv_at hl 1 rfl) ?_
  refine va_get (D := (dC, dI)) (ci := 4) (v := .ref (r 15)) (C := cn_R) (T := ft_R) (N := 27) hx hb htb ki_R hown hK hP 0 rfl rfl 15 (by decide) (htb _ kw_385) (fun _ h9 => h9) rfl dc_R_deliver_69 ?_
  refine lv_iload_n hx hb dc_R_deliver_72 rfl (lv_at hl 2 rfl) ?_
  refine wa_old (k := k) hx hb hK hP 8 0 rfl rfl (by omega) (by omega) dc_R_deliver_73 ?_
  refine lv_iconst (v := nI 0) hx hb dc_R_deliver_74 (by decide) ?_
  refine lv_aload_n hx hb dc_R_deliver_75 rfl (lv_at hl 1 rfl) ?_
  refine va_get (D := (dC, dI)) (ci := 4) (v := .ref (r 21)) (C := cn_R) (T := ft_R) (N := 27) hx hb htb ki_R hown hK hP 0 rfl rfl 21 (by decide) (htb _ kw_391) (fun _ h9 => h9) rfl dc_R_deliver_76 ?_
  refine lv_iload_n hx hb dc_R_deliver_79 rfl (lv_at hl 0 rfl) ?_
  refine wa_nld (k := j) hx hb hK hP 5 0 rfl rfl (by omega) (by omega) dc_R_deliver_80 ?_
  refine tp_i (y := nI le) (by rw [hle]) ?_
  refine cl_ix (wc := [zR r cn mn mi nn, ((r 1), .inl (cI, 40, .inl (oF bf))), ((r 2), .inl (cI, 40, .inl (nF rc))), ((r 15), .inl (cI, 104, .inl (oF sr))), ((r 9), .inl (cZ, 40, .inl (bF mk))), ((r 7), .inl (cI, 40, .inl (oF an)))]) (wr := [((r 14), .inl (cI, 104, .inl (nF su))), ((r 13), .inl (cI, 104, .inl (nF tg))), ((r 18), .inl (cZ, 3, .inl (bF dw))), ((r 16), .inl (cI, 104, .inl (nF kn))), ((r 21), .inl (cI, 3, .inl (nF ler)))]) (w2 := (fun (mkz_1 : Nat → Bool) => [zR r cn mn mi nn, ((r 1), .inl (cI, 40, .inl (oF bf))), ((r 2), .inl (cI, 40, .inl (nF rc))), ((r 15), .inl (cI, 104, .inl (oF sr))), ((r 9), .inl (cZ, 40, .inl (bF mkz_1))), ((r 7), .inl (cI, 40, .inl (oF an)))])) hP hD hS hA [0, 6, 7, 8, 9, 10] [1, 2, 3, 4, 5] rfl rfl (by decide) (by decide) (va_runV (As := [.int (oI (sr k)), .int (nI 0), .int (nI le)]) (rest := []) ⟨hx, hb, hml, hown, htb⟩ (oc_R_isHit l dC dI cI cJ cZ cP _ r cn mn mi nn bf rc sr mk an (sr k) 0 le hso (by omega) hbf hrc hsr) (cwV 3 htb (gw_V kw_474 kw_476 kp_16 kw_5 kw_477) rfl rfl rfl (by decide +kernel) ⟨Nat.le_of_ble_eq_true rfl, Nat.le_of_ble_eq_true rfl⟩) (pr_V hP hK hD (va_recv hK hP (ci := 4) (q0 := 0) rfl rfl) [0, 6, 7, 8, 9, 10] (by decide) rfl rfl) rfl rfl hl.1 rfl (lv_room (Nat.le_of_ble_eq_true rfl)) dc_R_deliver_81 ⟨Nat.le_of_ble_eq_true rfl, Nat.le_of_ble_eq_true rfl⟩) (fun mkz_1 H locs hP hD hS => ?_)
  have hP : va_P (dC, dI) clsL [zR r cn mn mi nn, ((r 14), .inl (cI, 104, .inl (nF su))), ((r 13), .inl (cI, 104, .inl (nF tg))), ((r 18), .inl (cZ, 3, .inl (bF dw))), ((r 16), .inl (cI, 104, .inl (nF kn))), ((r 21), .inl (cI, 3, .inl (nF ler))), ((r 1), .inl (cI, 40, .inl (oF bf))), ((r 2), .inl (cI, 40, .inl (nF rc))), ((r 15), .inl (cI, 104, .inl (oF sr))), ((r 9), .inl (cZ, 40, .inl (bF mkz_1))), ((r 7), .inl (cI, 40, .inl (oF an)))] H := hP.sub (ws' := [zR r cn mn mi nn, ((r 14), .inl (cI, 104, .inl (nF su))), ((r 13), .inl (cI, 104, .inl (nF tg))), ((r 18), .inl (cZ, 3, .inl (bF dw))), ((r 16), .inl (cI, 104, .inl (nF kn))), ((r 21), .inl (cI, 3, .inl (nF ler))), ((r 1), .inl (cI, 40, .inl (oF bf))), ((r 2), .inl (cI, 40, .inl (nF rc))), ((r 15), .inl (cI, 104, .inl (oF sr))), ((r 9), .inl (cZ, 40, .inl (bF mkz_1))), ((r 7), .inl (cI, 40, .inl (oF an)))]) [5, 0, 1, 2, 3, 4, 6, 7, 8, 9, 10] rfl
  have hD : va_D A [zR r cn mn mi nn, ((r 14), .inl (cI, 104, .inl (nF su))), ((r 13), .inl (cI, 104, .inl (nF tg))), ((r 18), .inl (cZ, 3, .inl (bF dw))), ((r 16), .inl (cI, 104, .inl (nF kn))), ((r 21), .inl (cI, 3, .inl (nF ler))), ((r 1), .inl (cI, 40, .inl (oF bf))), ((r 2), .inl (cI, 40, .inl (nF rc))), ((r 15), .inl (cI, 104, .inl (oF sr))), ((r 9), .inl (cZ, 40, .inl (bF mkz_1))), ((r 7), .inl (cI, 40, .inl (oF an)))] := hD.sub (ws' := [zR r cn mn mi nn, ((r 14), .inl (cI, 104, .inl (nF su))), ((r 13), .inl (cI, 104, .inl (nF tg))), ((r 18), .inl (cZ, 3, .inl (bF dw))), ((r 16), .inl (cI, 104, .inl (nF kn))), ((r 21), .inl (cI, 3, .inl (nF ler))), ((r 1), .inl (cI, 40, .inl (oF bf))), ((r 2), .inl (cI, 40, .inl (nF rc))), ((r 15), .inl (cI, 104, .inl (oF sr))), ((r 9), .inl (cZ, 40, .inl (bF mkz_1))), ((r 7), .inl (cI, 40, .inl (oF an)))]) [5, 0, 1, 2, 3, 4, 6, 7, 8, 9, 10] (by decide) rfl
  refine lv_if_eq (tgt := 97) hx hb dc_R_deliver_84 (by decide) (fun hc => ?_) (fun hc => ?_)
  · have h6 : (hi_B bf rc sr an (sr k) 0 le cn) = false := bI_0.mp hc
    rw [ho] at h6; exact absurd h6 (by decide)
  have h6 : (hi_B bf rc sr an (sr k) 0 le cn) = true := bI_n0.mp hc
  refine lv_aload_n hx hb dc_R_deliver_87 rfl (lv_at hl 1 rfl) ?_
  refine va_get (D := (dC, dI)) (ci := 4) (v := .ref (r 14)) (C := cn_R) (T := ft_R) (N := 27) hx hb htb ki_R hown hK hP 0 rfl rfl 14 (by decide) (htb _ kw_384) (fun _ h9 => h9) rfl dc_R_deliver_88 ?_
  refine lv_iload_n hx hb dc_R_deliver_91 rfl (lv_at hl 2 rfl) ?_
  refine lv_iconst (v := nI 3) hx hb dc_R_deliver_92 (by decide) ?_
  refine wa_nst (k := k) (x := 3) hx hb hK hP hD hS 1 0 rfl rfl (by omega) (by omega) dc_R_deliver_93 (fun H locs hP hD hS => ?_)
  have hP : va_P (dC, dI) clsL [zR r cn mn mi nn, ((r 14), .inl (cI, 104, .inl (nF (va_up su k 3)))), ((r 13), .inl (cI, 104, .inl (nF tg))), ((r 18), .inl (cZ, 3, .inl (bF dw))), ((r 16), .inl (cI, 104, .inl (nF kn))), ((r 21), .inl (cI, 3, .inl (nF ler))), ((r 1), .inl (cI, 40, .inl (oF bf))), ((r 2), .inl (cI, 40, .inl (nF rc))), ((r 15), .inl (cI, 104, .inl (oF sr))), ((r 9), .inl (cZ, 40, .inl (bF mkz_1))), ((r 7), .inl (cI, 40, .inl (oF an)))] H := hP
  have hD : va_D A [zR r cn mn mi nn, ((r 14), .inl (cI, 104, .inl (nF (va_up su k 3)))), ((r 13), .inl (cI, 104, .inl (nF tg))), ((r 18), .inl (cZ, 3, .inl (bF dw))), ((r 16), .inl (cI, 104, .inl (nF kn))), ((r 21), .inl (cI, 3, .inl (nF ler))), ((r 1), .inl (cI, 40, .inl (oF bf))), ((r 2), .inl (cI, 40, .inl (nF rc))), ((r 15), .inl (cI, 104, .inl (oF sr))), ((r 9), .inl (cZ, 40, .inl (bF mkz_1))), ((r 7), .inl (cI, 40, .inl (oF an)))] := hD
  refine lv_bipush (v := (-3)) hx hb dc_R_deliver_94 (by decide) ?_
  have hP9 := hP.sub (ws' := [zR r cn mn mi nn, ((r 14), .inl (cI, 104, .inl (nF (va_up su k 3)))), ((r 13), .inl (cI, 104, .inl (nF tg))), ((r 18), .inl (cZ, 3, .inl (bF dw))), ((r 16), .inl (cI, 104, .inl (nF kn))), ((r 21), .inl (cI, 3, .inl (nF ler))), ((r 1), .inl (cI, 40, .inl (oF bf))), ((r 2), .inl (cI, 40, .inl (nF rc))), ((r 15), .inl (cI, 104, .inl (oF sr))), ((r 9), .inl (cZ, 40, .inl (bF mkz_1))), ((r 7), .inl (cI, 40, .inl (oF an)))]) [0, 1, 2, 3, 4, 5, 6, 7, 8, 9, 10] rfl
  have hD9 := hD.sub (ws' := [zR r cn mn mi nn, ((r 14), .inl (cI, 104, .inl (nF (va_up su k 3)))), ((r 13), .inl (cI, 104, .inl (nF tg))), ((r 18), .inl (cZ, 3, .inl (bF dw))), ((r 16), .inl (cI, 104, .inl (nF kn))), ((r 21), .inl (cI, 3, .inl (nF ler))), ((r 1), .inl (cI, 40, .inl (oF bf))), ((r 2), .inl (cI, 40, .inl (nF rc))), ((r 15), .inl (cI, 104, .inl (oF sr))), ((r 9), .inl (cZ, 40, .inl (bF mkz_1))), ((r 7), .inl (cI, 40, .inl (oF an)))]) [0, 1, 2, 3, 4, 5, 6, 7, 8, 9, 10] (by decide) rfl
  exact W.iret (v := (-3)) hx hb hr (fun t ht hW => ⟨⟨_, mkz_1, rfl, rfl, by rw [ht]; exact hP9, va_K.moved hW.alike hK, hD9⟩, hS.F ht⟩) hS.2.2 dc_R_deliver_96

set_option maxHeartbeats 4000000 in
set_option maxRecDepth 100000 in
theorem oc_R_deliver (l : Launch) (dC : Nat → ClassId) (dI : Nat → Nat → Nat) (cI cJ cZ cP : ClassId) (sz : Nat) (r : Nat → Nat) (cn : Nat) (mn : Nat) (mi : Nat) (nn : Nat) (dw : Nat → Bool) (mk : Nat → Bool) (bf : Nat → Option Nat) (rc : Nat → Nat) (sv : Nat → Int32) (sb : Nat → Bool) (lo : Nat → Bool) (fr : Nat → Nat) (an : Nat → Option Nat) (ot : Nat → Bool) (vs : Nat → Int32) (tg : Nat → Nat) (sr : Nat → Option Nat) (kn : Nat → Nat) (su : Nat → Nat) (cc : Nat → Nat) (lg : Nat → Nat) (ler : Nat → Nat) (k : Nat) (j : Nat) (n : Nat) (le : Nat) (t : Int32) (bv : Option Nat) (hu : su k < 4) (hw : su k = 0) (htg : tg k = j) (hdw : dw j = false) (hkb : kn k < 2 ^ 30) (hlb : le < 2 ^ 30) (hh : kn k ≤ le) (hso : ∀ i, sr k = some i → i < cn) (hbf : ∀ k, k < cn → ∀ i, bf k = some i → i < 40) (hrc : ∀ k, k < cn → rc k < 104) (hsr : ∀ k, k < cn → ∀ i, sr (rc k) = some i → i < 40) (ho : hi_B bf rc sr an (sr k) 0 le cn = false) (hj : j < 3) (hlg : lg j = n) (hn : n < 40) (hcc : ∀ i, i < n → cc (40 * j + i) < 40) (hle : ler j = le) (hk : k < mn) (hcn : cn < 40) (hmn : mn + 2 ≤ 104) (hs : ∀ i, sr k = some i → i < 40) (ht : nI 31 * (sof sv cc j n) + (vs k) = t) (hbv : bv_O cc j n = bv) : mt_Ix l mn_R_deliver bc_R_deliver 3 (some .int) ({ frames := 2, cells := 0, slots := 0, locals := 48 }) (dC, dI) (TYS cI cJ cZ cP) sz [.ref (r 0), .int (nI k)] [zR r cn mn mi nn, ((r 18), .inl (cZ, 3, .inl (bF dw))), ((r 9), .inl (cZ, 40, .inl (bF mk))), ((r 1), .inl (cI, 40, .inl (oF bf))), ((r 2), .inl (cI, 40, .inl (nF rc))), ((r 3), .inl (cI, 40, .inl sv)), ((r 4), .inl (cZ, 40, .inl (bF sb))), ((r 5), .inl (cZ, 40, .inl (bF lo))), ((r 6), .inl (cI, 40, .inl (nF fr))), ((r 7), .inl (cI, 40, .inl (oF an))), ((r 8), .inl (cZ, 40, .inl (bF ot))), ((r 12), .inl (cI, 104, .inl vs)), ((r 13), .inl (cI, 104, .inl (nF tg))), ((r 15), .inl (cI, 104, .inl (oF sr))), ((r 16), .inl (cI, 104, .inl (nF kn))), ((r 14), .inl (cI, 104, .inl (nF su))), ((r 19), .inl (cI, 120, .inl (nF cc))), ((r 20), .inl (cI, 3, .inl (nF lg))), ((r 21), .inl (cI, 3, .inl (nF ler)))] (fun (mkz : Nat → Bool) => [zR r (cn + 1) (mn + (sb1 t).toNat + (sb2 t).toNat) mi nn, ((r 18), .inl (cZ, 3, .inl (bF dw))), ((r 9), .inl (cZ, 40, .inl (bF mkz))), ((r 1), .inl (cI, 40, .inl (oF (va_up bf cn bv)))), ((r 2), .inl (cI, 40, .inl (nF (va_up rc cn k)))), ((r 3), .inl (cI, 40, .inl (va_up sv cn t))), ((r 4), .inl (cZ, 40, .inl (bF (if sr k = none then (se_S (va_up sb cn false) (fun i => (va_up cc (40 * j + n) cn) (40 * j + i)) (n + 1)).2 else (va_up sb cn false))))), ((r 5), .inl (cZ, 40, .inl (bF (va_up lo cn false)))), ((r 6), .inl (cI, 40, .inl (nF (va_up fr cn 3)))), ((r 7), .inl (cI, 40, .inl (oF (va_up an cn none)))), ((r 8), .inl (cZ, 40, .inl (bF (va_up ot cn false)))), ((r 12), .inl (cI, 104, .inl (s1_F (sb2 t) (s1_F (sb1 t) vs mn (t >>> (nI 1 &&& 31))) (mn + (sb1 t).toNat) (t >>> (nI 2 &&& 31))))), ((r 13), .inl (cI, 104, .inl (nF (s1_F (sb2 t) (s1_F (sb1 t) tg mn ((j + 1) % 3)) (mn + (sb1 t).toNat) ((j + 2) % 3))))), ((r 15), .inl (cI, 104, .inl (oF (s1_F (sb2 t) (s1_F (sb1 t) sr mn (some cn)) (mn + (sb1 t).toNat) (some cn))))), ((r 16), .inl (cI, 104, .inl (nF (s1_F (sb2 t) (s1_F (sb1 t) kn mn le) (mn + (sb1 t).toNat) le)))), ((r 14), .inl (cI, 104, .inl (nF (s1_F (sb2 t) (s1_F (sb1 t) (va_up su k 1) mn 0) (mn + (sb1 t).toNat) 0)))), ((r 19), .inl (cI, 120, .inl (nF (va_up cc (40 * j + n) cn)))), ((r 20), .inl (cI, 3, .inl (nF (va_up lg j (n + 1))))), ((r 21), .inl (cI, 3, .inl (nF ler)))]) (nI cn) 0 0 := by
  unfold mt_Ix
  refine Met.ofW (cc := bc_R_deliver) (maxL := 3) (ret := (some .int)) (by decide) rfl ?_
  intro p e s m args below meth c s₁ B hml hv
  obtain ⟨rfl, hsz, hP, hK, hD0⟩ := hv
  have hx := B.exec
  have hb := B.bytes
  have hr := B.returns
  have hts := atoms_spec (ws := wsT mn_R_deliver bc_R_deliver 3 (some .int)) B.pre
  have htb : ∀ w ∈ gtbl, w.before _ s = true := fun w h => hts w (List.mem_cons_of_mem _ h)
  have hown : s.vm.findClass cn_R = some m.cls := findClass_of_methodNamed B.named
  have hlocks := B.notSynchronized
  subst hsz
  have hD := hD0.self (sz := s.heap.size)
  generalize hAe : va_A [zR r cn mn mi nn, ((r 18), .inl (cZ, 3, .inl (bF dw))), ((r 9), .inl (cZ, 40, .inl (bF mk))), ((r 1), .inl (cI, 40, .inl (oF bf))), ((r 2), .inl (cI, 40, .inl (nF rc))), ((r 3), .inl (cI, 40, .inl sv)), ((r 4), .inl (cZ, 40, .inl (bF sb))), ((r 5), .inl (cZ, 40, .inl (bF lo))), ((r 6), .inl (cI, 40, .inl (nF fr))), ((r 7), .inl (cI, 40, .inl (oF an))), ((r 8), .inl (cZ, 40, .inl (bF ot))), ((r 12), .inl (cI, 104, .inl vs)), ((r 13), .inl (cI, 104, .inl (nF tg))), ((r 15), .inl (cI, 104, .inl (oF sr))), ((r 16), .inl (cI, 104, .inl (nF kn))), ((r 14), .inl (cI, 104, .inl (nF su))), ((r 19), .inl (cI, 120, .inl (nF cc))), ((r 20), .inl (cI, 3, .inl (nF lg))), ((r 21), .inl (cI, 3, .inl (nF ler)))] s.heap.size = A at hD ⊢
  have hA : ∀ q : Nat, s.heap.size ≤ q → A q := fun q h => by rw [← hAe]; exact Or.inr h
  have hS : va_S A s.heap s.heap [] := va_S.rf
  have hP : va_P (dC, dI) clsL [zR r cn mn mi nn, ((r 18), .inl (cZ, 3, .inl (bF dw))), ((r 9), .inl (cZ, 40, .inl (bF mk))), ((r 1), .inl (cI, 40, .inl (oF bf))), ((r 2), .inl (cI, 40, .inl (nF rc))), ((r 3), .inl (cI, 40, .inl sv)), ((r 4), .inl (cZ, 40, .inl (bF sb))), ((r 5), .inl (cZ, 40, .inl (bF lo))), ((r 6), .inl (cI, 40, .inl (nF fr))), ((r 7), .inl (cI, 40, .inl (oF an))), ((r 8), .inl (cZ, 40, .inl (bF ot))), ((r 12), .inl (cI, 104, .inl vs)), ((r 13), .inl (cI, 104, .inl (nF tg))), ((r 15), .inl (cI, 104, .inl (oF sr))), ((r 16), .inl (cI, 104, .inl (nF kn))), ((r 14), .inl (cI, 104, .inl (nF su))), ((r 19), .inl (cI, 120, .inl (nF cc))), ((r 20), .inl (cI, 3, .inl (nF lg))), ((r 21), .inl (cI, 3, .inl (nF ler)))] s.heap := hP
  have hl := lv_entry ([.ref (r 0), .int (nI k)]) (n := 3) (Nat.le_of_ble_eq_true rfl)
  rw [lg_entry_eq]
  generalize (lg_sl ([.ref (r 0), .int (nI k)]) ++ List.replicate (3 - (lg_sl ([.ref (r 0), .int (nI k)])).length) Slot.unset).toArray = ls at hl ⊢
  have hl : lv_has ls 3 [(0, .ref (r 0)), (1, .int (nI k))] := hl
  refine lv_aload_n hx hb dc_R_deliver_0 rfl (lv_at hl 0 rfl) ?_
  refine lv_iload_n hx hb dc_R_deliver_1 rfl (lv_at hl 1 rfl) ?_
  refine cl_i (wc := [zR r cn mn mi nn]) (wr := [((r 18), .inl (cZ, 3, .inl (bF dw))), ((r 9), .inl (cZ, 40, .inl (bF mk))), ((r 1), .inl (cI, 40, .inl (oF bf))), ((r 2), .inl (cI, 40, .inl (nF rc))), ((r 3), .inl (cI, 40, .inl sv)), ((r 4), .inl (cZ, 40, .inl (bF sb))), ((r 5), .inl (cZ, 40, .inl (bF lo))), ((r 6), .inl (cI, 40, .inl (nF fr))), ((r 7), .inl (cI, 40, .inl (oF an))), ((r 8), .inl (cZ, 40, .inl (bF ot))), ((r 12), .inl (cI, 104, .inl vs)), ((r 13), .inl (cI, 104, .inl (nF tg))), ((r 15), .inl (cI, 104, .inl (oF sr))), ((r 16), .inl (cI, 104, .inl (nF kn))), ((r 14), .inl (cI, 104, .inl (nF su))), ((r 19), .inl (cI, 120, .inl (nF cc))), ((r 20), .inl (cI, 3, .inl (nF lg))), ((r 21), .inl (cI, 3, .inl (nF ler)))]) (w1 := [zR r cn mn mi nn]) hP hD hS hA [0] [1, 2, 3, 4, 5, 6, 7, 8, 9, 10, 11, 12, 13, 14, 15, 16, 17, 18] rfl rfl (by decide) (by decide) (va_runV (As := [.int (nI k)]) (rest := []) ⟨hx, hb, hml, hown, htb⟩ (oc_R_isMessage l dC dI cI cJ cZ cP _ r cn mn mi nn k (by first | assumption | omega) (by omega)) (cwV 1 htb (gw_V kw_470 kw_472 kp_15 kw_5 kw_473) rfl rfl rfl (by decide +kernel) ⟨Nat.le_of_ble_eq_true rfl, Nat.le_of_ble_eq_true rfl⟩) (pr_V hP hK hD (va_recv hK hP (ci := 4) (q0 := 0) rfl rfl) [0] (by decide) rfl rfl) rfl rfl hl.1 rfl (lv_room (Nat.le_of_ble_eq_true rfl)) dc_R_deliver_2 ⟨Nat.le_of_ble_eq_true rfl, Nat.le_of_ble_eq_true rfl⟩) (fun H locs hP hD hS => ?_)
  have hP : va_P (dC, dI) clsL [zR r cn mn mi nn, ((r 18), .inl (cZ, 3, .inl (bF dw))), ((r 9), .inl (cZ, 40, .inl (bF mk))), ((r 1), .inl (cI, 40, .inl (oF bf))), ((r 2), .inl (cI, 40, .inl (nF rc))), ((r 3), .inl (cI, 40, .inl sv)), ((r 4), .inl (cZ, 40, .inl (bF sb))), ((r 5), .inl (cZ, 40, .inl (bF lo))), ((r 6), .inl (cI, 40, .inl (nF fr))), ((r 7), .inl (cI, 40, .inl (oF an))), ((r 8), .inl (cZ, 40, .inl (bF ot))), ((r 12), .inl (cI, 104, .inl vs)), ((r 13), .inl (cI, 104, .inl (nF tg))), ((r 15), .inl (cI, 104, .inl (oF sr))), ((r 16), .inl (cI, 104, .inl (nF kn))), ((r 14), .inl (cI, 104, .inl (nF su))), ((r 19), .inl (cI, 120, .inl (nF cc))), ((r 20), .inl (cI, 3, .inl (nF lg))), ((r 21), .inl (cI, 3, .inl (nF ler)))] H := hP.sub (ws' := [zR r cn mn mi nn, ((r 18), .inl (cZ, 3, .inl (bF dw))), ((r 9), .inl (cZ, 40, .inl (bF mk))), ((r 1), .inl (cI, 40, .inl (oF bf))), ((r 2), .inl (cI, 40, .inl (nF rc))), ((r 3), .inl (cI, 40, .inl sv)), ((r 4), .inl (cZ, 40, .inl (bF sb))), ((r 5), .inl (cZ, 40, .inl (bF lo))), ((r 6), .inl (cI, 40, .inl (nF fr))), ((r 7), .inl (cI, 40, .inl (oF an))), ((r 8), .inl (cZ, 40, .inl (bF ot))), ((r 12), .inl (cI, 104, .inl vs)), ((r 13), .inl (cI, 104, .inl (nF tg))), ((r 15), .inl (cI, 104, .inl (oF sr))), ((r 16), .inl (cI, 104, .inl (nF kn))), ((r 14), .inl (cI, 104, .inl (nF su))), ((r 19), .inl (cI, 120, .inl (nF cc))), ((r 20), .inl (cI, 3, .inl (nF lg))), ((r 21), .inl (cI, 3, .inl (nF ler)))]) [18, 0, 1, 2, 3, 4, 5, 6, 7, 8, 9, 10, 11, 12, 13, 14, 15, 16, 17] rfl
  have hD : va_D A [zR r cn mn mi nn, ((r 18), .inl (cZ, 3, .inl (bF dw))), ((r 9), .inl (cZ, 40, .inl (bF mk))), ((r 1), .inl (cI, 40, .inl (oF bf))), ((r 2), .inl (cI, 40, .inl (nF rc))), ((r 3), .inl (cI, 40, .inl sv)), ((r 4), .inl (cZ, 40, .inl (bF sb))), ((r 5), .inl (cZ, 40, .inl (bF lo))), ((r 6), .inl (cI, 40, .inl (nF fr))), ((r 7), .inl (cI, 40, .inl (oF an))), ((r 8), .inl (cZ, 40, .inl (bF ot))), ((r 12), .inl (cI, 104, .inl vs)), ((r 13), .inl (cI, 104, .inl (nF tg))), ((r 15), .inl (cI, 104, .inl (oF sr))), ((r 16), .inl (cI, 104, .inl (nF kn))), ((r 14), .inl (cI, 104, .inl (nF su))), ((r 19), .inl (cI, 120, .inl (nF cc))), ((r 20), .inl (cI, 3, .inl (nF lg))), ((r 21), .inl (cI, 3, .inl (nF ler)))] := hD.sub (ws' := [zR r cn mn mi nn, ((r 18), .inl (cZ, 3, .inl (bF dw))), ((r 9), .inl (cZ, 40, .inl (bF mk))), ((r 1), .inl (cI, 40, .inl (oF bf))), ((r 2), .inl (cI, 40, .inl (nF rc))), ((r 3), .inl (cI, 40, .inl sv)), ((r 4), .inl (cZ, 40, .inl (bF sb))), ((r 5), .inl (cZ, 40, .inl (bF lo))), ((r 6), .inl (cI, 40, .inl (nF fr))), ((r 7), .inl (cI, 40, .inl (oF an))), ((r 8), .inl (cZ, 40, .inl (bF ot))), ((r 12), .inl (cI, 104, .inl vs)), ((r 13), .inl (cI, 104, .inl (nF tg))), ((r 15), .inl (cI, 104, .inl (oF sr))), ((r 16), .inl (cI, 104, .inl (nF kn))), ((r 14), .inl (cI, 104, .inl (nF su))), ((r 19), .inl (cI, 120, .inl (nF cc))), ((r 20), .inl (cI, 3, .inl (nF lg))), ((r 21), .inl (cI, 3, .inl (nF ler)))]) [18, 0, 1, 2, 3, 4, 5, 6, 7, 8, 9, 10, 11, 12, 13, 14, 15, 16, 17] (by decide) rfl
  refine lv_if_eq (tgt := 40) hx hb dc_R_deliver_5 (by decide) (fun hc => ?_) (fun hc => ?_)
  · have h1 : true = false := bI_0.mp hc
    exact absurd h1 (by decide)
  have h1 : true = true := bI_n0.mp hc
  refine lv_aload_n hx hb dc_R_deliver_8 rfl (lv_at hl 0 rfl) ?_
  refine va_get (D := (dC, dI)) (ci := 4) (v := .ref (r 14)) (C := cn_R) (T := ft_R) (N := 27) hx hb htb ki_R hown hK hP 0 rfl rfl 14 (by decide) (htb _ kw_384) (fun _ h9 => h9) rfl dc_R_deliver_9 ?_
  refine lv_iload_n hx hb dc_R_deliver_12 rfl (lv_at hl 1 rfl) ?_
  refine wa_nld (k := k) hx hb hK hP 15 0 rfl rfl (by omega) (by omega) dc_R_deliver_13 ?_
  refine lv_if_ne (tgt := 40) hx hb dc_R_deliver_14 (by decide) (fun hc => ?_) (fun hc => ?_)
  · have h2 : ¬ (su k) = 0 := fun h9 => hc ((nI_eq (b := 0) (by omega) (by omega)).mpr h9)
    exact absurd hw h2
  have h2 : (su k) = 0 := (nI_eq (b := 0) (by omega) (by omega)).mp hc
  refine lv_aload_n hx hb dc_R_deliver_17 rfl (lv_at hl 0 rfl) ?_
  refine va_get (D := (dC, dI)) (ci := 4) (v := .ref (r 18)) (C := cn_R) (T := ft_R) (N := 27) hx hb htb ki_R hown hK hP 0 rfl rfl 18 (by decide) (htb _ kw_388) (fun _ h9 => h9) rfl dc_R_deliver_18 ?_
  refine lv_aload_n hx hb dc_R_deliver_21 rfl (lv_at hl 0 rfl) ?_
  refine va_get (D := (dC, dI)) (ci := 4) (v := .ref (r 13)) (C := cn_R) (T := ft_R) (N := 27) hx hb htb ki_R hown hK hP 0 rfl rfl 13 (by decide) (htb _ kw_383) (fun _ h9 => h9) rfl dc_R_deliver_22 ?_
  refine lv_iload_n hx hb dc_R_deliver_25 rfl (lv_at hl 1 rfl) ?_
  refine wa_nld (k := k) hx hb hK hP 12 0 rfl rfl (by omega) (by omega) dc_R_deliver_26 ?_
  refine tp_i (y := nI j) (by rw [htg]) ?_
  refine wa_bld (k := j) hx hb hK hP 1 2 rfl rfl (by omega) (by omega) dc_R_deliver_27 ?_
  refine lv_if_ne (tgt := 40) hx hb dc_R_deliver_28 (by decide) (fun hc => ?_) (fun hc => ?_)
  · have h3 : dw j = true := bI_n0.mp hc
    rw [hdw] at h3; exact absurd h3 (by decide)
  have h3 : dw j = false := bI_0.mp hc
  refine lv_aload_n hx hb dc_R_deliver_31 rfl (lv_at hl 0 rfl) ?_
  refine va_get (D := (dC, dI)) (ci := 4) (v := .int (nI cn)) (C := cn_R) (T := ft_R) (N := 27) hx hb htb ki_R hown hK hP 0 rfl rfl 0 (by decide) (htb _ kw_370) (fun _ h9 => h9) rfl dc_R_deliver_32 ?_
  refine lv_bipush (v := nI 40) hx hb dc_R_deliver_35 (by decide) ?_
  refine lv_icmp_lt (tgt := 42) hx hb dc_R_deliver_37 (by decide) (fun hc => ?_) (fun hc => ?_)
  rotate_left
  · have h4 : 40 ≤ cn := Nat.le_of_not_lt (fun h9 => hc ((nI_ltI (by omega) (by omega)).mpr h9))
    exact absurd h4 (by omega)
  have h4 : cn < 40 := (nI_ltI (by omega) (by omega)).mp hc
  refine lv_aload_n hx hb dc_R_deliver_42 rfl (lv_at hl 0 rfl) ?_
  refine va_get (D := (dC, dI)) (ci := 4) (v := .ref (r 13)) (C := cn_R) (T := ft_R) (N := 27) hx hb htb ki_R hown hK hP 0 rfl rfl 13 (by decide) (htb _ kw_383) (fun _ h9 => h9) rfl dc_R_deliver_43 ?_
  refine lv_iload_n hx hb dc_R_deliver_46 rfl (lv_at hl 1 rfl) ?_
  refine wa_nld (k := k) hx hb hK hP 12 0 rfl rfl (by omega) (by omega) dc_R_deliver_47 ?_
  refine tp_i (y := nI j) (by rw [htg]) ?_
  refine lv_istore_n (lv' := [(2, .int (nI j)), (0, .ref (r 0)), (1, .int (nI k))]) hx hb dc_R_deliver_48 rfl hl (by decide) rfl (fun ls hl => ?_)
  refine lv_aload_n hx hb dc_R_deliver_49 rfl (lv_at hl 1 rfl) ?_
  refine va_get (D := (dC, dI)) (ci := 4) (v := .ref (r 16)) (C := cn_R) (T := ft_R) (N := 27) hx hb htb ki_R hown hK hP 0 rfl rfl 16 (by decide) (htb _ kw_386) (fun _ h9 => h9) rfl dc_R_deliver_50 ?_
  refine lv_iload_n hx hb dc_R_deliver_53 rfl (lv_at hl 2 rfl) ?_
  refine wa_nld (k := k) hx hb hK hP 14 0 rfl rfl (by omega) (by omega) dc_R_deliver_54 ?_
  refine lv_aload_n hx hb dc_R_deliver_55 rfl (lv_at hl 1 rfl) ?_
  refine va_get (D := (dC, dI)) (ci := 4) (v := .ref (r 21)) (C := cn_R) (T := ft_R) (N := 27) hx hb htb ki_R hown hK hP 0 rfl rfl 21 (by decide) (htb _ kw_391) (fun _ h9 => h9) rfl dc_R_deliver_56 ?_
  refine lv_iload_n hx hb dc_R_deliver_59 rfl (lv_at hl 0 rfl) ?_
  refine wa_nld (k := j) hx hb hK hP 18 0 rfl rfl (by omega) (by omega) dc_R_deliver_60 ?_
  refine tp_i (y := nI le) (by rw [hle]) ?_
  refine lv_icmp_le (tgt := 67) hx hb dc_R_deliver_61 (by decide) (fun hc => ?_) (fun hc => ?_)
  rotate_left
  · have h5 : le < (kn k) := Nat.lt_of_not_le (fun h9 => hc ((nI_leI (by omega) (by omega)).mpr h9))
    exact absurd h5 (by omega)
  have h5 : (kn k) ≤ le := (nI_leI (by omega) (by omega)).mp hc
  refine lv_aload_n hx hb dc_R_deliver_67 rfl (lv_at hl 1 rfl) ?_
  refine lv_aload_n hx hb dc_R_deliver_68 rfl (lv_at hl 1 rfl) ?_
  refine va_get (D := (dC, dI)) (ci := 4) (v := .ref (r 15)) (C := cn_R) (T := ft_R) (N := 27) hx hb htb ki_R hown hK hP 0 rfl rfl 15 (by decide) (htb _ kw_385) (fun _ h9 => h9) rfl dc_R_deliver_69 ?_
  refine lv_iload_n hx hb dc_R_deliver_72 rfl (lv_at hl 2 rfl) ?_
  refine wa_old (k := k) hx hb hK hP 13 0 rfl rfl (by omega) (by omega) dc_R_deliver_73 ?_
  refine lv_iconst (v := nI 0) hx hb dc_R_deliver_74 (by decide) ?_
  refine lv_aload_n hx hb dc_R_deliver_75 rfl (lv_at hl 1 rfl) ?_
  refine va_get (D := (dC, dI)) (ci := 4) (v := .ref (r 21)) (C := cn_R) (T := ft_R) (N := 27) hx hb htb ki_R hown hK hP 0 rfl rfl 21 (by decide) (htb _ kw_391) (fun _ h9 => h9) rfl dc_R_deliver_76 ?_
  refine lv_iload_n hx hb dc_R_deliver_79 rfl (lv_at hl 0 rfl) ?_
  refine wa_nld (k := j) hx hb hK hP 18 0 rfl rfl (by omega) (by omega) dc_R_deliver_80 ?_
  refine tp_i (y := nI le) (by rw [hle]) ?_
  refine cl_ix (wc := [zR r cn mn mi nn, ((r 1), .inl (cI, 40, .inl (oF bf))), ((r 2), .inl (cI, 40, .inl (nF rc))), ((r 15), .inl (cI, 104, .inl (oF sr))), ((r 9), .inl (cZ, 40, .inl (bF mk))), ((r 7), .inl (cI, 40, .inl (oF an)))]) (wr := [((r 18), .inl (cZ, 3, .inl (bF dw))), ((r 3), .inl (cI, 40, .inl sv)), ((r 4), .inl (cZ, 40, .inl (bF sb))), ((r 5), .inl (cZ, 40, .inl (bF lo))), ((r 6), .inl (cI, 40, .inl (nF fr))), ((r 8), .inl (cZ, 40, .inl (bF ot))), ((r 12), .inl (cI, 104, .inl vs)), ((r 13), .inl (cI, 104, .inl (nF tg))), ((r 16), .inl (cI, 104, .inl (nF kn))), ((r 14), .inl (cI, 104, .inl (nF su))), ((r 19), .inl (cI, 120, .inl (nF cc))), ((r 20), .inl (cI, 3, .inl (nF lg))), ((r 21), .inl (cI, 3, .inl (nF ler)))]) (w2 := (fun (mkz_1 : Nat → Bool) => [zR r cn mn mi nn, ((r 1), .inl (cI, 40, .inl (oF bf))), ((r 2), .inl (cI, 40, .inl (nF rc))), ((r 15), .inl (cI, 104, .inl (oF sr))), ((r 9), .inl (cZ, 40, .inl (bF mkz_1))), ((r 7), .inl (cI, 40, .inl (oF an)))])) hP hD hS hA [0, 3, 4, 13, 2, 9] [1, 5, 6, 7, 8, 10, 11, 12, 14, 15, 16, 17, 18] rfl rfl (by decide) (by decide) (va_runV (As := [.int (oI (sr k)), .int (nI 0), .int (nI le)]) (rest := []) ⟨hx, hb, hml, hown, htb⟩ (oc_R_isHit l dC dI cI cJ cZ cP _ r cn mn mi nn bf rc sr mk an (sr k) 0 le hso (by omega) hbf hrc hsr) (cwV 3 htb (gw_V kw_474 kw_476 kp_16 kw_5 kw_477) rfl rfl rfl (by decide +kernel) ⟨Nat.le_of_ble_eq_true rfl, Nat.le_of_ble_eq_true rfl⟩) (pr_V hP hK hD (va_recv hK hP (ci := 4) (q0 := 0) rfl rfl) [0, 3, 4, 13, 2, 9] (by decide) rfl rfl) rfl rfl hl.1 rfl (lv_room (Nat.le_of_ble_eq_true rfl)) dc_R_deliver_81 ⟨Nat.le_of_ble_eq_true rfl, Nat.le_of_ble_eq_true rfl⟩) (fun mkz_1 H locs hP hD hS => ?_)
  have hP : va_P (dC, dI) clsL [zR r cn mn mi nn, ((r 18), .inl (cZ, 3, .inl (bF dw))), ((r 9), .inl (cZ, 40, .inl (bF mkz_1))), ((r 1), .inl (cI, 40, .inl (oF bf))), ((r 2), .inl (cI, 40, .inl (nF rc))), ((r 3), .inl (cI, 40, .inl sv)), ((r 4), .inl (cZ, 40, .inl (bF sb))), ((r 5), .inl (cZ, 40, .inl (bF lo))), ((r 6), .inl (cI, 40, .inl (nF fr))), ((r 7), .inl (cI, 40, .inl (oF an))), ((r 8), .inl (cZ, 40, .inl (bF ot))), ((r 12), .inl (cI, 104, .inl vs)), ((r 13), .inl (cI, 104, .inl (nF tg))), ((r 15), .inl (cI, 104, .inl (oF sr))), ((r 16), .inl (cI, 104, .inl (nF kn))), ((r 14), .inl (cI, 104, .inl (nF su))), ((r 19), .inl (cI, 120, .inl (nF cc))), ((r 20), .inl (cI, 3, .inl (nF lg))), ((r 21), .inl (cI, 3, .inl (nF ler)))] H := hP.sub (ws' := [zR r cn mn mi nn, ((r 18), .inl (cZ, 3, .inl (bF dw))), ((r 9), .inl (cZ, 40, .inl (bF mkz_1))), ((r 1), .inl (cI, 40, .inl (oF bf))), ((r 2), .inl (cI, 40, .inl (nF rc))), ((r 3), .inl (cI, 40, .inl sv)), ((r 4), .inl (cZ, 40, .inl (bF sb))), ((r 5), .inl (cZ, 40, .inl (bF lo))), ((r 6), .inl (cI, 40, .inl (nF fr))), ((r 7), .inl (cI, 40, .inl (oF an))), ((r 8), .inl (cZ, 40, .inl (bF ot))), ((r 12), .inl (cI, 104, .inl vs)), ((r 13), .inl (cI, 104, .inl (nF tg))), ((r 15), .inl (cI, 104, .inl (oF sr))), ((r 16), .inl (cI, 104, .inl (nF kn))), ((r 14), .inl (cI, 104, .inl (nF su))), ((r 19), .inl (cI, 120, .inl (nF cc))), ((r 20), .inl (cI, 3, .inl (nF lg))), ((r 21), .inl (cI, 3, .inl (nF ler)))]) [13, 0, 17, 14, 15, 1, 2, 3, 4, 18, 5, 6, 7, 16, 8, 9, 10, 11, 12] rfl
  have hD : va_D A [zR r cn mn mi nn, ((r 18), .inl (cZ, 3, .inl (bF dw))), ((r 9), .inl (cZ, 40, .inl (bF mkz_1))), ((r 1), .inl (cI, 40, .inl (oF bf))), ((r 2), .inl (cI, 40, .inl (nF rc))), ((r 3), .inl (cI, 40, .inl sv)), ((r 4), .inl (cZ, 40, .inl (bF sb))), ((r 5), .inl (cZ, 40, .inl (bF lo))), ((r 6), .inl (cI, 40, .inl (nF fr))), ((r 7), .inl (cI, 40, .inl (oF an))), ((r 8), .inl (cZ, 40, .inl (bF ot))), ((r 12), .inl (cI, 104, .inl vs)), ((r 13), .inl (cI, 104, .inl (nF tg))), ((r 15), .inl (cI, 104, .inl (oF sr))), ((r 16), .inl (cI, 104, .inl (nF kn))), ((r 14), .inl (cI, 104, .inl (nF su))), ((r 19), .inl (cI, 120, .inl (nF cc))), ((r 20), .inl (cI, 3, .inl (nF lg))), ((r 21), .inl (cI, 3, .inl (nF ler)))] := hD.sub (ws' := [zR r cn mn mi nn, ((r 18), .inl (cZ, 3, .inl (bF dw))), ((r 9), .inl (cZ, 40, .inl (bF mkz_1))), ((r 1), .inl (cI, 40, .inl (oF bf))), ((r 2), .inl (cI, 40, .inl (nF rc))), ((r 3), .inl (cI, 40, .inl sv)), ((r 4), .inl (cZ, 40, .inl (bF sb))), ((r 5), .inl (cZ, 40, .inl (bF lo))), ((r 6), .inl (cI, 40, .inl (nF fr))), ((r 7), .inl (cI, 40, .inl (oF an))), ((r 8), .inl (cZ, 40, .inl (bF ot))), ((r 12), .inl (cI, 104, .inl vs)), ((r 13), .inl (cI, 104, .inl (nF tg))), ((r 15), .inl (cI, 104, .inl (oF sr))), ((r 16), .inl (cI, 104, .inl (nF kn))), ((r 14), .inl (cI, 104, .inl (nF su))), ((r 19), .inl (cI, 120, .inl (nF cc))), ((r 20), .inl (cI, 3, .inl (nF lg))), ((r 21), .inl (cI, 3, .inl (nF ler)))]) [13, 0, 17, 14, 15, 1, 2, 3, 4, 18, 5, 6, 7, 16, 8, 9, 10, 11, 12] (by decide) rfl
  refine lv_if_eq (tgt := 97) hx hb dc_R_deliver_84 (by decide) (fun hc => ?_) (fun hc => ?_)
  rotate_left
  · have h6 : (hi_B bf rc sr an (sr k) 0 le cn) = true := bI_n0.mp hc
    rw [ho] at h6; exact absurd h6 (by decide)
  have h6 : (hi_B bf rc sr an (sr k) 0 le cn) = false := bI_0.mp hc
  refine lv_aload_n hx hb dc_R_deliver_97 rfl (lv_at hl 1 rfl) ?_
  refine va_get (D := (dC, dI)) (ci := 4) (v := .ref (r 14)) (C := cn_R) (T := ft_R) (N := 27) hx hb htb ki_R hown hK hP 0 rfl rfl 14 (by decide) (htb _ kw_384) (fun _ h9 => h9) rfl dc_R_deliver_98 ?_
  refine lv_iload_n hx hb dc_R_deliver_101 rfl (lv_at hl 2 rfl) ?_
  refine lv_iconst (v := nI 1) hx hb dc_R_deliver_102 (by decide) ?_
  refine wa_nst (k := k) (x := 1) hx hb hK hP hD hS 15 0 rfl rfl (by omega) (by omega) dc_R_deliver_103 (fun H locs hP hD hS => ?_)
  have hP : va_P (dC, dI) clsL [zR r cn mn mi nn, ((r 18), .inl (cZ, 3, .inl (bF dw))), ((r 9), .inl (cZ, 40, .inl (bF mkz_1))), ((r 1), .inl (cI, 40, .inl (oF bf))), ((r 2), .inl (cI, 40, .inl (nF rc))), ((r 3), .inl (cI, 40, .inl sv)), ((r 4), .inl (cZ, 40, .inl (bF sb))), ((r 5), .inl (cZ, 40, .inl (bF lo))), ((r 6), .inl (cI, 40, .inl (nF fr))), ((r 7), .inl (cI, 40, .inl (oF an))), ((r 8), .inl (cZ, 40, .inl (bF ot))), ((r 12), .inl (cI, 104, .inl vs)), ((r 13), .inl (cI, 104, .inl (nF tg))), ((r 15), .inl (cI, 104, .inl (oF sr))), ((r 16), .inl (cI, 104, .inl (nF kn))), ((r 14), .inl (cI, 104, .inl (nF (va_up su k 1)))), ((r 19), .inl (cI, 120, .inl (nF cc))), ((r 20), .inl (cI, 3, .inl (nF lg))), ((r 21), .inl (cI, 3, .inl (nF ler)))] H := hP
  have hD : va_D A [zR r cn mn mi nn, ((r 18), .inl (cZ, 3, .inl (bF dw))), ((r 9), .inl (cZ, 40, .inl (bF mkz_1))), ((r 1), .inl (cI, 40, .inl (oF bf))), ((r 2), .inl (cI, 40, .inl (nF rc))), ((r 3), .inl (cI, 40, .inl sv)), ((r 4), .inl (cZ, 40, .inl (bF sb))), ((r 5), .inl (cZ, 40, .inl (bF lo))), ((r 6), .inl (cI, 40, .inl (nF fr))), ((r 7), .inl (cI, 40, .inl (oF an))), ((r 8), .inl (cZ, 40, .inl (bF ot))), ((r 12), .inl (cI, 104, .inl vs)), ((r 13), .inl (cI, 104, .inl (nF tg))), ((r 15), .inl (cI, 104, .inl (oF sr))), ((r 16), .inl (cI, 104, .inl (nF kn))), ((r 14), .inl (cI, 104, .inl (nF (va_up su k 1)))), ((r 19), .inl (cI, 120, .inl (nF cc))), ((r 20), .inl (cI, 3, .inl (nF lg))), ((r 21), .inl (cI, 3, .inl (nF ler)))] := hD
  refine lv_aload_n hx hb dc_R_deliver_104 rfl (lv_at hl 1 rfl) ?_
  refine lv_iload_n hx hb dc_R_deliver_105 rfl (lv_at hl 0 rfl) ?_
  refine lv_iload_n hx hb dc_R_deliver_106 rfl (lv_at hl 2 rfl) ?_
  refine cl_v (wc := [zR r cn mn mi nn, ((r 1), .inl (cI, 40, .inl (oF bf))), ((r 2), .inl (cI, 40, .inl (nF rc))), ((r 3), .inl (cI, 40, .inl sv)), ((r 4), .inl (cZ, 40, .inl (bF sb))), ((r 5), .inl (cZ, 40, .inl (bF lo))), ((r 6), .inl (cI, 40, .inl (nF fr))), ((r 7), .inl (cI, 40, .inl (oF an))), ((r 8), .inl (cZ, 40, .inl (bF ot))), ((r 12), .inl (cI, 104, .inl vs)), ((r 13), .inl (cI, 104, .inl (nF tg))), ((r 15), .inl (cI, 104, .inl (oF sr))), ((r 16), .inl (cI, 104, .inl (nF kn))), ((r 14), .inl (cI, 104, .inl (nF (va_up su k 1)))), ((r 19), .inl (cI, 120, .inl (nF cc))), ((r 20), .inl (cI, 3, .inl (nF lg))), ((r 21), .inl (cI, 3, .inl (nF ler)))]) (wr := [((r 18), .inl (cZ, 3, .inl (bF dw))), ((r 9), .inl (cZ, 40, .inl (bF mkz_1)))]) (w1 := [zR r (cn + 1) (mn + (sb1 t).toNat + (sb2 t).toNat) mi nn, ((r 1), .inl (cI, 40, .inl (oF (va_up bf cn bv)))), ((r 2), .inl (cI, 40, .inl (nF (va_up rc cn k)))), ((r 3), .inl (cI, 40, .inl (va_up sv cn t))), ((r 4), .inl (cZ, 40, .inl (bF (if sr k = none then (se_S (va_up sb cn false) (fun i => (va_up cc (40 * j + n) cn) (40 * j + i)) (n + 1)).2 else (va_up sb cn false))))), ((r 5), .inl (cZ, 40, .inl (bF (va_up lo cn false)))), ((r 6), .inl (cI, 40, .inl (nF (va_up fr cn 3)))), ((r 7), .inl (cI, 40, .inl (oF (va_up an cn none)))), ((r 8), .inl (cZ, 40, .inl (bF (va_up ot cn false)))), ((r 12), .inl (cI, 104, .inl (s1_F (sb2 t) (s1_F (sb1 t) vs mn (t >>> (nI 1 &&& 31))) (mn + (sb1 t).toNat) (t >>> (nI 2 &&& 31))))), ((r 13), .inl (cI, 104, .inl (nF (s1_F (sb2 t) (s1_F (sb1 t) tg mn ((j + 1) % 3)) (mn + (sb1 t).toNat) ((j + 2) % 3))))), ((r 15), .inl (cI, 104, .inl (oF (s1_F (sb2 t) (s1_F (sb1 t) sr mn (some cn)) (mn + (sb1 t).toNat) (some cn))))), ((r 16), .inl (cI, 104, .inl (nF (s1_F (sb2 t) (s1_F (sb1 t) kn mn le) (mn + (sb1 t).toNat) le)))), ((r 14), .inl (cI, 104, .inl (nF (s1_F (sb2 t) (s1_F (sb1 t) (va_up su k 1) mn 0) (mn + (sb1 t).toNat) 0)))), ((r 19), .inl (cI, 120, .inl (nF (va_up cc (40 * j + n) cn)))), ((r 20), .inl (cI, 3, .inl (nF (va_up lg j (n + 1))))), ((r 21), .inl (cI, 3, .inl (nF ler)))]) hP hD hS hA [0, 3, 4, 5, 6, 7, 8, 9, 10, 11, 12, 13, 14, 15, 16, 17, 18] [1, 2] rfl rfl (by decide) (by decide) (va_runV (As := [.int (nI j), .int (nI k)]) (rest := []) ⟨hx, hb, hml, hown, htb⟩ (oc_R_receive l dC dI cI cJ cZ cP _ r cn mn mi nn bf rc sv sb lo fr an ot vs tg sr kn (va_up su k 1) cc lg ler j k n le t bv hj hlg hn hcc hle hk hcn hmn hs ht hbv) (cwV 2 htb (gw_V kw_482 kw_484 kp_18 kw_5 kw_485) rfl rfl rfl (by decide +kernel) ⟨Nat.le_of_ble_eq_true rfl, Nat.le_of_ble_eq_true rfl⟩) (pr_V hP hK hD (va_recv hK hP (ci := 4) (q0 := 0) rfl rfl) [0, 3, 4, 5, 6, 7, 8, 9, 10, 11, 12, 13, 14, 15, 16, 17, 18] (by decide) rfl rfl) rfl rfl hl.1 rfl (lv_room (Nat.le_of_ble_eq_true rfl)) dc_R_deliver_107 ⟨Nat.le_of_ble_eq_true rfl, Nat.le_of_ble_eq_true rfl⟩) (fun H locs hP hD hS => ?_)
  have hP : va_P (dC, dI) clsL [zR r (cn + 1) (mn + (sb1 t).toNat + (sb2 t).toNat) mi nn, ((r 18), .inl (cZ, 3, .inl (bF dw))), ((r 9), .inl (cZ, 40, .inl (bF mkz_1))), ((r 1), .inl (cI, 40, .inl (oF (va_up bf cn bv)))), ((r 2), .inl (cI, 40, .inl (nF (va_up rc cn k)))), ((r 3), .inl (cI, 40, .inl (va_up sv cn t))), ((r 4), .inl (cZ, 40, .inl (bF (if sr k = none then (se_S (va_up sb cn false) (fun i => (va_up cc (40 * j + n) cn) (40 * j + i)) (n + 1)).2 else (va_up sb cn false))))), ((r 5), .inl (cZ, 40, .inl (bF (va_up lo cn false)))), ((r 6), .inl (cI, 40, .inl (nF (va_up fr cn 3)))), ((r 7), .inl (cI, 40, .inl (oF (va_up an cn none)))), ((r 8), .inl (cZ, 40, .inl (bF (va_up ot cn false)))), ((r 12), .inl (cI, 104, .inl (s1_F (sb2 t) (s1_F (sb1 t) vs mn (t >>> (nI 1 &&& 31))) (mn + (sb1 t).toNat) (t >>> (nI 2 &&& 31))))), ((r 13), .inl (cI, 104, .inl (nF (s1_F (sb2 t) (s1_F (sb1 t) tg mn ((j + 1) % 3)) (mn + (sb1 t).toNat) ((j + 2) % 3))))), ((r 15), .inl (cI, 104, .inl (oF (s1_F (sb2 t) (s1_F (sb1 t) sr mn (some cn)) (mn + (sb1 t).toNat) (some cn))))), ((r 16), .inl (cI, 104, .inl (nF (s1_F (sb2 t) (s1_F (sb1 t) kn mn le) (mn + (sb1 t).toNat) le)))), ((r 14), .inl (cI, 104, .inl (nF (s1_F (sb2 t) (s1_F (sb1 t) (va_up su k 1) mn 0) (mn + (sb1 t).toNat) 0)))), ((r 19), .inl (cI, 120, .inl (nF (va_up cc (40 * j + n) cn)))), ((r 20), .inl (cI, 3, .inl (nF (va_up lg j (n + 1))))), ((r 21), .inl (cI, 3, .inl (nF ler)))] H := hP.sub (ws' := [zR r (cn + 1) (mn + (sb1 t).toNat + (sb2 t).toNat) mi nn, ((r 18), .inl (cZ, 3, .inl (bF dw))), ((r 9), .inl (cZ, 40, .inl (bF mkz_1))), ((r 1), .inl (cI, 40, .inl (oF (va_up bf cn bv)))), ((r 2), .inl (cI, 40, .inl (nF (va_up rc cn k)))), ((r 3), .inl (cI, 40, .inl (va_up sv cn t))), ((r 4), .inl (cZ, 40, .inl (bF (if sr k = none then (se_S (va_up sb cn false) (fun i => (va_up cc (40 * j + n) cn) (40 * j + i)) (n + 1)).2 else (va_up sb cn false))))), ((r 5), .inl (cZ, 40, .inl (bF (va_up lo cn false)))), ((r 6), .inl (cI, 40, .inl (nF (va_up fr cn 3)))), ((r 7), .inl (cI, 40, .inl (oF (va_up an cn none)))), ((r 8), .inl (cZ, 40, .inl (bF (va_up ot cn false)))), ((r 12), .inl (cI, 104, .inl (s1_F (sb2 t) (s1_F (sb1 t) vs mn (t >>> (nI 1 &&& 31))) (mn + (sb1 t).toNat) (t >>> (nI 2 &&& 31))))), ((r 13), .inl (cI, 104, .inl (nF (s1_F (sb2 t) (s1_F (sb1 t) tg mn ((j + 1) % 3)) (mn + (sb1 t).toNat) ((j + 2) % 3))))), ((r 15), .inl (cI, 104, .inl (oF (s1_F (sb2 t) (s1_F (sb1 t) sr mn (some cn)) (mn + (sb1 t).toNat) (some cn))))), ((r 16), .inl (cI, 104, .inl (nF (s1_F (sb2 t) (s1_F (sb1 t) kn mn le) (mn + (sb1 t).toNat) le)))), ((r 14), .inl (cI, 104, .inl (nF (s1_F (sb2 t) (s1_F (sb1 t) (va_up su k 1) mn 0) (mn + (sb1 t).toNat) 0)))), ((r 19), .inl (cI, 120, .inl (nF (va_up cc (40 * j + n) cn)))), ((r 20), .inl (cI, 3, .inl (nF (va_up lg j (n + 1))))), ((r 21), .inl (cI, 3, .inl (nF ler)))]) [2, 0, 1, 3, 4, 5, 6, 7, 8, 9, 10, 11, 12, 13, 14, 15, 16, 17, 18] rfl
  have hD : va_D A [zR r (cn + 1) (mn + (sb1 t).toNat + (sb2 t).toNat) mi nn, ((r 18), .inl (cZ, 3, .inl (bF dw))), ((r 9), .inl (cZ, 40, .inl (bF mkz_1))), ((r 1), .inl (cI, 40, .inl (oF (va_up bf cn bv)))), ((r 2), .inl (cI, 40, .inl (nF (va_up rc cn k)))), ((r 3), .inl (cI, 40, .inl (va_up sv cn t))), ((r 4), .inl (cZ, 40, .inl (bF (if sr k = none then (se_S (va_up sb cn false) (fun i => (va_up cc (40 * j + n) cn) (40 * j + i)) (n + 1)).2 else (va_up sb cn false))))), ((r 5), .inl (cZ, 40, .inl (bF (va_up lo cn false)))), ((r 6), .inl (cI, 40, .inl (nF (va_up fr cn 3)))), ((r 7), .inl (cI, 40, .inl (oF (va_up an cn none)))), ((r 8), .inl (cZ, 40, .inl (bF (va_up ot cn false)))), ((r 12), .inl (cI, 104, .inl (s1_F (sb2 t) (s1_F (sb1 t) vs mn (t >>> (nI 1 &&& 31))) (mn + (sb1 t).toNat) (t >>> (nI 2 &&& 31))))), ((r 13), .inl (cI, 104, .inl (nF (s1_F (sb2 t) (s1_F (sb1 t) tg mn ((j + 1) % 3)) (mn + (sb1 t).toNat) ((j + 2) % 3))))), ((r 15), .inl (cI, 104, .inl (oF (s1_F (sb2 t) (s1_F (sb1 t) sr mn (some cn)) (mn + (sb1 t).toNat) (some cn))))), ((r 16), .inl (cI, 104, .inl (nF (s1_F (sb2 t) (s1_F (sb1 t) kn mn le) (mn + (sb1 t).toNat) le)))), ((r 14), .inl (cI, 104, .inl (nF (s1_F (sb2 t) (s1_F (sb1 t) (va_up su k 1) mn 0) (mn + (sb1 t).toNat) 0)))), ((r 19), .inl (cI, 120, .inl (nF (va_up cc (40 * j + n) cn)))), ((r 20), .inl (cI, 3, .inl (nF (va_up lg j (n + 1))))), ((r 21), .inl (cI, 3, .inl (nF ler)))] := hD.sub (ws' := [zR r (cn + 1) (mn + (sb1 t).toNat + (sb2 t).toNat) mi nn, ((r 18), .inl (cZ, 3, .inl (bF dw))), ((r 9), .inl (cZ, 40, .inl (bF mkz_1))), ((r 1), .inl (cI, 40, .inl (oF (va_up bf cn bv)))), ((r 2), .inl (cI, 40, .inl (nF (va_up rc cn k)))), ((r 3), .inl (cI, 40, .inl (va_up sv cn t))), ((r 4), .inl (cZ, 40, .inl (bF (if sr k = none then (se_S (va_up sb cn false) (fun i => (va_up cc (40 * j + n) cn) (40 * j + i)) (n + 1)).2 else (va_up sb cn false))))), ((r 5), .inl (cZ, 40, .inl (bF (va_up lo cn false)))), ((r 6), .inl (cI, 40, .inl (nF (va_up fr cn 3)))), ((r 7), .inl (cI, 40, .inl (oF (va_up an cn none)))), ((r 8), .inl (cZ, 40, .inl (bF (va_up ot cn false)))), ((r 12), .inl (cI, 104, .inl (s1_F (sb2 t) (s1_F (sb1 t) vs mn (t >>> (nI 1 &&& 31))) (mn + (sb1 t).toNat) (t >>> (nI 2 &&& 31))))), ((r 13), .inl (cI, 104, .inl (nF (s1_F (sb2 t) (s1_F (sb1 t) tg mn ((j + 1) % 3)) (mn + (sb1 t).toNat) ((j + 2) % 3))))), ((r 15), .inl (cI, 104, .inl (oF (s1_F (sb2 t) (s1_F (sb1 t) sr mn (some cn)) (mn + (sb1 t).toNat) (some cn))))), ((r 16), .inl (cI, 104, .inl (nF (s1_F (sb2 t) (s1_F (sb1 t) kn mn le) (mn + (sb1 t).toNat) le)))), ((r 14), .inl (cI, 104, .inl (nF (s1_F (sb2 t) (s1_F (sb1 t) (va_up su k 1) mn 0) (mn + (sb1 t).toNat) 0)))), ((r 19), .inl (cI, 120, .inl (nF (va_up cc (40 * j + n) cn)))), ((r 20), .inl (cI, 3, .inl (nF (va_up lg j (n + 1))))), ((r 21), .inl (cI, 3, .inl (nF ler)))]) [2, 0, 1, 3, 4, 5, 6, 7, 8, 9, 10, 11, 12, 13, 14, 15, 16, 17, 18] (by decide) rfl
  refine lv_aload_n hx hb dc_R_deliver_110 rfl (lv_at hl 1 rfl) ?_
  refine va_get (D := (dC, dI)) (ci := 4) (v := .int (nI (cn + 1))) (C := cn_R) (T := ft_R) (N := 27) hx hb htb ki_R hown hK hP 0 rfl rfl 0 (by decide) (htb _ kw_370) (fun _ h9 => h9) rfl dc_R_deliver_111 ?_
  refine lv_iconst (v := nI 1) hx hb dc_R_deliver_114 (by decide) ?_
  refine lv_isub hx hb dc_R_deliver_115 ?_
  refine tp_i (y := nI ((cn + 1) - 1)) (pk_sub (by omega)) ?_
  refine tp_i (y := nI cn) (rfl) ?_
  have hP9 := hP.sub (ws' := [zR r (cn + 1) (mn + (sb1 t).toNat + (sb2 t).toNat) mi nn, ((r 18), .inl (cZ, 3, .inl (bF dw))), ((r 9), .inl (cZ, 40, .inl (bF mkz_1))), ((r 1), .inl (cI, 40, .inl (oF (va_up bf cn bv)))), ((r 2), .inl (cI, 40, .inl (nF (va_up rc cn k)))), ((r 3), .inl (cI, 40, .inl (va_up sv cn t))), ((r 4), .inl (cZ, 40, .inl (bF (if sr k = none then (se_S (va_up sb cn false) (fun i => (va_up cc (40 * j + n) cn) (40 * j + i)) (n + 1)).2 else (va_up sb cn false))))), ((r 5), .inl (cZ, 40, .inl (bF (va_up lo cn false)))), ((r 6), .inl (cI, 40, .inl (nF (va_up fr cn 3)))), ((r 7), .inl (cI, 40, .inl (oF (va_up an cn none)))), ((r 8), .inl (cZ, 40, .inl (bF (va_up ot cn false)))), ((r 12), .inl (cI, 104, .inl (s1_F (sb2 t) (s1_F (sb1 t) vs mn (t >>> (nI 1 &&& 31))) (mn + (sb1 t).toNat) (t >>> (nI 2 &&& 31))))), ((r 13), .inl (cI, 104, .inl (nF (s1_F (sb2 t) (s1_F (sb1 t) tg mn ((j + 1) % 3)) (mn + (sb1 t).toNat) ((j + 2) % 3))))), ((r 15), .inl (cI, 104, .inl (oF (s1_F (sb2 t) (s1_F (sb1 t) sr mn (some cn)) (mn + (sb1 t).toNat) (some cn))))), ((r 16), .inl (cI, 104, .inl (nF (s1_F (sb2 t) (s1_F (sb1 t) kn mn le) (mn + (sb1 t).toNat) le)))), ((r 14), .inl (cI, 104, .inl (nF (s1_F (sb2 t) (s1_F (sb1 t) (va_up su k 1) mn 0) (mn + (sb1 t).toNat) 0)))), ((r 19), .inl (cI, 120, .inl (nF (va_up cc (40 * j + n) cn)))), ((r 20), .inl (cI, 3, .inl (nF (va_up lg j (n + 1))))), ((r 21), .inl (cI, 3, .inl (nF ler)))]) [0, 1, 2, 3, 4, 5, 6, 7, 8, 9, 10, 11, 12, 13, 14, 15, 16, 17, 18] rfl
  have hD9 := hD.sub (ws' := [zR r (cn + 1) (mn + (sb1 t).toNat + (sb2 t).toNat) mi nn, ((r 18), .inl (cZ, 3, .inl (bF dw))), ((r 9), .inl (cZ, 40, .inl (bF mkz_1))), ((r 1), .inl (cI, 40, .inl (oF (va_up bf cn bv)))), ((r 2), .inl (cI, 40, .inl (nF (va_up rc cn k)))), ((r 3), .inl (cI, 40, .inl (va_up sv cn t))), ((r 4), .inl (cZ, 40, .inl (bF (if sr k = none then (se_S (va_up sb cn false) (fun i => (va_up cc (40 * j + n) cn) (40 * j + i)) (n + 1)).2 else (va_up sb cn false))))), ((r 5), .inl (cZ, 40, .inl (bF (va_up lo cn false)))), ((r 6), .inl (cI, 40, .inl (nF (va_up fr cn 3)))), ((r 7), .inl (cI, 40, .inl (oF (va_up an cn none)))), ((r 8), .inl (cZ, 40, .inl (bF (va_up ot cn false)))), ((r 12), .inl (cI, 104, .inl (s1_F (sb2 t) (s1_F (sb1 t) vs mn (t >>> (nI 1 &&& 31))) (mn + (sb1 t).toNat) (t >>> (nI 2 &&& 31))))), ((r 13), .inl (cI, 104, .inl (nF (s1_F (sb2 t) (s1_F (sb1 t) tg mn ((j + 1) % 3)) (mn + (sb1 t).toNat) ((j + 2) % 3))))), ((r 15), .inl (cI, 104, .inl (oF (s1_F (sb2 t) (s1_F (sb1 t) sr mn (some cn)) (mn + (sb1 t).toNat) (some cn))))), ((r 16), .inl (cI, 104, .inl (nF (s1_F (sb2 t) (s1_F (sb1 t) kn mn le) (mn + (sb1 t).toNat) le)))), ((r 14), .inl (cI, 104, .inl (nF (s1_F (sb2 t) (s1_F (sb1 t) (va_up su k 1) mn 0) (mn + (sb1 t).toNat) 0)))), ((r 19), .inl (cI, 120, .inl (nF (va_up cc (40 * j + n) cn)))), ((r 20), .inl (cI, 3, .inl (nF (va_up lg j (n + 1))))), ((r 21), .inl (cI, 3, .inl (nF ler)))]) [0, 1, 2, 3, 4, 5, 6, 7, 8, 9, 10, 11, 12, 13, 14, 15, 16, 17, 18] (by decide) rfl
  exact W.iret (v := nI cn) hx hb hr (fun t ht hW => ⟨⟨_, mkz_1, rfl, rfl, by rw [ht]; exact hP9, va_K.moved hW.alike hK, hD9⟩, hS.F ht⟩) hS.2.2 dc_R_deliver_116

set_option maxHeartbeats 4000000 in
set_option maxRecDepth 100000 in
theorem oc_R_orphans (l : Launch) (dC : Nat → ClassId) (dI : Nat → Nat → Nat) (cI cJ cZ cP : ClassId) (sz : Nat) (r : Nat → Nat) (cn : Nat) (mn : Nat) (mi : Nat) (nn : Nat) (dw : Nat → Bool) (bf : Nat → Option Nat) (rc : Nat → Nat) (sr : Nat → Option Nat) (mk : Nat → Bool) (lo : Nat → Bool) (cc : Nat → Nat) (lg : Nat → Nat) (hcn : cn ≤ 40) (hbf : ∀ k, k < cn → ∀ i, bf k = some i → i < 40) (hrc : ∀ k, k < cn → rc k < 104) (hsr : ∀ k, k < cn → ∀ i, sr (rc k) = some i → i < 40) (hlg : ∀ j, j < 3 → lg j ≤ 40) (hcc : ∀ j, j < 3 → ∀ i, i < lg j → cc (40 * j + i) < cn) : mt_Ix l mn_R_orphans bc_R_orphans 4 (some .int) ({ frames := 2, cells := 0, slots := 0, locals := 46 }) (dC, dI) (TYS cI cJ cZ cP) sz [.ref (r 0)] [zR r cn mn mi nn, ((r 18), .inl (cZ, 3, .inl (bF dw))), ((r 1), .inl (cI, 40, .inl (oF bf))), ((r 2), .inl (cI, 40, .inl (nF rc))), ((r 15), .inl (cI, 104, .inl (oF sr))), ((r 9), .inl (cZ, 40, .inl (bF mk))), ((r 5), .inl (cZ, 40, .inl (bF lo))), ((r 19), .inl (cI, 120, .inl (nF cc))), ((r 20), .inl (cI, 3, .inl (nF lg)))] (fun (mkz : Nat → Bool) => [zR r cn mn mi nn, ((r 18), .inl (cZ, 3, .inl (bF dw))), ((r 1), .inl (cI, 40, .inl (oF bf))), ((r 2), .inl (cI, 40, .inl (nF rc))), ((r 15), .inl (cI, 104, .inl (oF sr))), ((r 9), .inl (cZ, 40, .inl (bF mkz))), ((r 5), .inl (cZ, 40, .inl (bF lo))), ((r 19), .inl (cI, 120, .inl (nF cc))), ((r 20), .inl (cI, 3, .inl (nF lg)))]) (nI (or_T bf rc sr lo cc lg dw cn 3)) 0 0 := by
  unfold mt_Ix
  refine Met.ofW (cc := bc_R_orphans) (maxL := 4) (ret := (some .int)) (by decide) rfl ?_
  intro p e s m args below meth c s₁ B hml hv
  obtain ⟨rfl, hsz, hP, hK, hD0⟩ := hv
  have hx := B.exec
  have hb := B.bytes
  have hr := B.returns
  have hts := atoms_spec (ws := wsT mn_R_orphans bc_R_orphans 4 (some .int)) B.pre
  have htb : ∀ w ∈ gtbl, w.before _ s = true := fun w h => hts w (List.mem_cons_of_mem _ h)
  have hown : s.vm.findClass cn_R = some m.cls := findClass_of_methodNamed B.named
  have hlocks := B.notSynchronized
  subst hsz
  have hD := hD0.self (sz := s.heap.size)
  generalize hAe : va_A [zR r cn mn mi nn, ((r 18), .inl (cZ, 3, .inl (bF dw))), ((r 1), .inl (cI, 40, .inl (oF bf))), ((r 2), .inl (cI, 40, .inl (nF rc))), ((r 15), .inl (cI, 104, .inl (oF sr))), ((r 9), .inl (cZ, 40, .inl (bF mk))), ((r 5), .inl (cZ, 40, .inl (bF lo))), ((r 19), .inl (cI, 120, .inl (nF cc))), ((r 20), .inl (cI, 3, .inl (nF lg)))] s.heap.size = A at hD ⊢
  have hA : ∀ q : Nat, s.heap.size ≤ q → A q := fun q h => by rw [← hAe]; exact Or.inr h
  have hS : va_S A s.heap s.heap [] := va_S.rf
  have hP : va_P (dC, dI) clsL [zR r cn mn mi nn, ((r 18), .inl (cZ, 3, .inl (bF dw))), ((r 1), .inl (cI, 40, .inl (oF bf))), ((r 2), .inl (cI, 40, .inl (nF rc))), ((r 15), .inl (cI, 104, .inl (oF sr))), ((r 9), .inl (cZ, 40, .inl (bF mk))), ((r 5), .inl (cZ, 40, .inl (bF lo))), ((r 19), .inl (cI, 120, .inl (nF cc))), ((r 20), .inl (cI, 3, .inl (nF lg)))] s.heap := hP
  have hl := lv_entry ([.ref (r 0)]) (n := 4) (Nat.le_of_ble_eq_true rfl)
  rw [lg_entry_eq]
  generalize (lg_sl ([.ref (r 0)]) ++ List.replicate (4 - (lg_sl ([.ref (r 0)])).length) Slot.unset).toArray = ls at hl ⊢
  have hl : lv_has ls 4 [(0, .ref (r 0))] := hl
  refine lv_iconst (v := nI 0) hx hb dc_R_orphans_0 (by decide) ?_
  refine lv_istore_n (lv' := [(1, .int (nI 0)), (0, .ref (r 0))]) hx hb dc_R_orphans_1 rfl hl (by decide) rfl (fun ls hl => ?_)
  refine lv_iconst (v := nI 0) hx hb dc_R_orphans_2 (by decide) ?_
  refine lv_istore_n (lv' := [(2, .int (nI 0)), (1, .int (nI 0)), (0, .ref (r 0))]) hx hb dc_R_orphans_3 rfl hl (by decide) rfl (fun ls hl => ?_)
  refine wl_ 4 (fun (x : Nat × Nat × (Nat → Bool)) => 3 - x.1) (fun (x : Nat × Nat × (Nat → Bool)) (H : Heap) (locs : List Loc) (ls : Array Slot) => (x.1 ≤ 3 ∧ x.2.1 = (or_T bf rc sr lo cc lg dw cn x.1)) ∧ va_P (dC, dI) clsL [zR r cn mn mi nn, ((r 18), .inl (cZ, 3, .inl (bF dw))), ((r 1), .inl (cI, 40, .inl (oF bf))), ((r 2), .inl (cI, 40, .inl (nF rc))), ((r 15), .inl (cI, 104, .inl (oF sr))), ((r 9), .inl (cZ, 40, .inl (bF x.2.2))), ((r 5), .inl (cZ, 40, .inl (bF lo))), ((r 19), .inl (cI, 120, .inl (nF cc))), ((r 20), .inl (cI, 3, .inl (nF lg)))] H ∧ va_D A [zR r cn mn mi nn, ((r 18), .inl (cZ, 3, .inl (bF dw))), ((r 1), .inl (cI, 40, .inl (oF bf))), ((r 2), .inl (cI, 40, .inl (nF rc))), ((r 15), .inl (cI, 104, .inl (oF sr))), ((r 9), .inl (cZ, 40, .inl (bF x.2.2))), ((r 5), .inl (cZ, 40, .inl (bF lo))), ((r 19), .inl (cI, 120, .inl (nF cc))), ((r 20), .inl (cI, 3, .inl (nF lg)))] ∧ va_S A s.heap H locs ∧ lv_has ls 4 [(2, .int (nI x.1)), (1, .int (nI x.2.1)), (0, .ref (r 0))]) ?_ (0, 0, mk) _ _ _ ⟨⟨Nat.zero_le _, rfl⟩, hP, hD, hS, lv_sub hl [0, 1, 2] rfl⟩
  rintro ⟨j, z, g⟩ H locs ls ⟨hI, hP, hD, hS, hl⟩ ih4
  replace hI : j ≤ 3 ∧ z = (or_T bf rc sr lo cc lg dw cn j) := hI
  replace hP : va_P (dC, dI) clsL [zR r cn mn mi nn, ((r 18), .inl (cZ, 3, .inl (bF dw))), ((r 1), .inl (cI, 40, .inl (oF bf))), ((r 2), .inl (cI, 40, .inl (nF rc))), ((r 15), .inl (cI, 104, .inl (oF sr))), ((r 9), .inl (cZ, 40, .inl (bF g))), ((r 5), .inl (cZ, 40, .inl (bF lo))), ((r 19), .inl (cI, 120, .inl (nF cc))), ((r 20), .inl (cI, 3, .inl (nF lg)))] H := hP
  replace hD : va_D A [zR r cn mn mi nn, ((r 18), .inl (cZ, 3, .inl (bF dw))), ((r 1), .inl (cI, 40, .inl (oF bf))), ((r 2), .inl (cI, 40, .inl (nF rc))), ((r 15), .inl (cI, 104, .inl (oF sr))), ((r 9), .inl (cZ, 40, .inl (bF g))), ((r 5), .inl (cZ, 40, .inl (bF lo))), ((r 19), .inl (cI, 120, .inl (nF cc))), ((r 20), .inl (cI, 3, .inl (nF lg)))] := hD
  replace hl : lv_has ls 4 [(2, .int (nI j)), (1, .int (nI z)), (0, .ref (r 0))] := hl
  have hI8 := hI
  have hj1 := hI8.1
  refine lv_iload_n hx hb dc_R_orphans_4 rfl (lv_at hl 0 rfl) ?_
  refine lv_iconst (v := nI 3) hx hb dc_R_orphans_5 (by decide) ?_
  refine lv_icmp_ge (tgt := 68) hx hb dc_R_orphans_6 (by decide) (fun hc => ?_) (fun hc => ?_)
  · have hj : 3 ≤ j := (nI_leI (by omega) (by omega)).mp hc
    refine lv_iload_n hx hb dc_R_orphans_68 rfl (lv_at hl 1 rfl) ?_
    have hP9 := hP.sub (ws' := [zR r cn mn mi nn, ((r 18), .inl (cZ, 3, .inl (bF dw))), ((r 1), .inl (cI, 40, .inl (oF bf))), ((r 2), .inl (cI, 40, .inl (nF rc))), ((r 15), .inl (cI, 104, .inl (oF sr))), ((r 9), .inl (cZ, 40, .inl (bF g))), ((r 5), .inl (cZ, 40, .inl (bF lo))), ((r 19), .inl (cI, 120, .inl (nF cc))), ((r 20), .inl (cI, 3, .inl (nF lg)))]) [0, 1, 2, 3, 4, 5, 6, 7, 8] rfl
    have hD9 := hD.sub (ws' := [zR r cn mn mi nn, ((r 18), .inl (cZ, 3, .inl (bF dw))), ((r 1), .inl (cI, 40, .inl (oF bf))), ((r 2), .inl (cI, 40, .inl (nF rc))), ((r 15), .inl (cI, 104, .inl (oF sr))), ((r 9), .inl (cZ, 40, .inl (bF g))), ((r 5), .inl (cZ, 40, .inl (bF lo))), ((r 19), .inl (cI, 120, .inl (nF cc))), ((r 20), .inl (cI, 3, .inl (nF lg)))]) [0, 1, 2, 3, 4, 5, 6, 7, 8] (by decide) rfl
    exact W.iret (v := nI z) hx hb hr (fun t ht hW => ⟨⟨_, g, rfl, by rw [hI8.2, show j = 3 by omega], by rw [ht]; exact hP9, va_K.moved hW.alike hK, hD9⟩, hS.F ht⟩) hS.2.2 dc_R_orphans_69
  · have hj : j < 3 := Nat.lt_of_not_le (fun h9 => hc ((nI_leI (by omega) (by omega)).mpr h9))
    have hl9 := hlg j hj
    refine lv_iconst (v := nI 0) hx hb dc_R_orphans_9 (by decide) ?_
    refine lv_istore_n (lv' := [(3, .int (nI 0)), (2, .int (nI j)), (1, .int (nI z)), (0, .ref (r 0))]) hx hb dc_R_orphans_10 rfl hl (by decide) rfl (fun ls hl => ?_)
    refine wl_ 11 (fun (x : Nat × Nat × (Nat → Bool)) => lg j - x.1) (fun (x : Nat × Nat × (Nat → Bool)) (H : Heap) (locs : List Loc) (ls : Array Slot) => (x.1 ≤ lg j ∧ x.2.1 = (or_T bf rc sr lo cc lg dw cn j) + (or_I bf rc sr lo cc dw cn j x.1)) ∧ va_P (dC, dI) clsL [zR r cn mn mi nn, ((r 18), .inl (cZ, 3, .inl (bF dw))), ((r 1), .inl (cI, 40, .inl (oF bf))), ((r 2), .inl (cI, 40, .inl (nF rc))), ((r 15), .inl (cI, 104, .inl (oF sr))), ((r 9), .inl (cZ, 40, .inl (bF x.2.2))), ((r 5), .inl (cZ, 40, .inl (bF lo))), ((r 19), .inl (cI, 120, .inl (nF cc))), ((r 20), .inl (cI, 3, .inl (nF lg)))] H ∧ va_D A [zR r cn mn mi nn, ((r 18), .inl (cZ, 3, .inl (bF dw))), ((r 1), .inl (cI, 40, .inl (oF bf))), ((r 2), .inl (cI, 40, .inl (nF rc))), ((r 15), .inl (cI, 104, .inl (oF sr))), ((r 9), .inl (cZ, 40, .inl (bF x.2.2))), ((r 5), .inl (cZ, 40, .inl (bF lo))), ((r 19), .inl (cI, 120, .inl (nF cc))), ((r 20), .inl (cI, 3, .inl (nF lg)))] ∧ va_S A s.heap H locs ∧ lv_has ls 4 [(3, .int (nI x.1)), (2, .int (nI j)), (1, .int (nI x.2.1)), (0, .ref (r 0))]) ?_ (0, z, g) _ _ _ ⟨⟨Nat.zero_le _, by rw [hI8.2]; rfl⟩, hP, hD, hS, lv_sub hl [0, 1, 2, 3] rfl⟩
    rintro ⟨k, y, w⟩ H locs ls ⟨hI, hP, hD, hS, hl⟩ ih11
    replace hI : k ≤ lg j ∧ y = (or_T bf rc sr lo cc lg dw cn j) + (or_I bf rc sr lo cc dw cn j k) := hI
    replace hP : va_P (dC, dI) clsL [zR r cn mn mi nn, ((r 18), .inl (cZ, 3, .inl (bF dw))), ((r 1), .inl (cI, 40, .inl (oF bf))), ((r 2), .inl (cI, 40, .inl (nF rc))), ((r 15), .inl (cI, 104, .inl (oF sr))), ((r 9), .inl (cZ, 40, .inl (bF w))), ((r 5), .inl (cZ, 40, .inl (bF lo))), ((r 19), .inl (cI, 120, .inl (nF cc))), ((r 20), .inl (cI, 3, .inl (nF lg)))] H := hP
    replace hD : va_D A [zR r cn mn mi nn, ((r 18), .inl (cZ, 3, .inl (bF dw))), ((r 1), .inl (cI, 40, .inl (oF bf))), ((r 2), .inl (cI, 40, .inl (nF rc))), ((r 15), .inl (cI, 104, .inl (oF sr))), ((r 9), .inl (cZ, 40, .inl (bF w))), ((r 5), .inl (cZ, 40, .inl (bF lo))), ((r 19), .inl (cI, 120, .inl (nF cc))), ((r 20), .inl (cI, 3, .inl (nF lg)))] := hD
    replace hl : lv_has ls 4 [(3, .int (nI k)), (2, .int (nI j)), (1, .int (nI y)), (0, .ref (r 0))] := hl
    have hI9 := hI
    have hk1 := hI9.1
    refine lv_iload_n hx hb dc_R_orphans_11 rfl (lv_at hl 0 rfl) ?_
    refine lv_aload_n hx hb dc_R_orphans_12 rfl (lv_at hl 3 rfl) ?_
    refine va_get (D := (dC, dI)) (ci := 4) (v := .ref (r 20)) (C := cn_R) (T := ft_R) (N := 27) hx hb htb ki_R hown hK hP 0 rfl rfl 20 (by decide) (htb _ kw_390) (fun _ h9 => h9) rfl dc_R_orphans_13 ?_
    refine lv_iload_n hx hb dc_R_orphans_16 rfl (lv_at hl 1 rfl) ?_
    refine wa_nld (k := j) hx hb hK hP 8 0 rfl rfl (by omega) (by omega) dc_R_orphans_17 ?_
    refine lv_icmp_ge (tgt := 62) hx hb dc_R_orphans_18 (by decide) (fun hc => ?_) (fun hc => ?_)
    · have hk : (lg j) ≤ k := (nI_leI (by omega) (by omega)).mp hc
      refine lv_iinc (k := 1) (v := nI (j + 1)) (lv' := [(2, .int (nI (j + 1))), (3, .int (nI k)), (1, .int (nI y)), (0, .ref (r 0))]) hx hb dc_R_orphans_62 hl rfl (nI_inc1 _) (by decide) rfl (fun ls hl => ?_)
      refine lv_goto (tgt := 4) hx hb dc_R_orphans_65 (by decide) ?_
      exact ih4 (j + 1, y, w) H locs ls (by first | omega | (dsimp only; omega)) ⟨⟨by first | omega | (dsimp only; omega), by rw [hI9.2, show k = lg j by omega]; rfl⟩, hP, hD, hS, lv_sub hl [0, 2, 3] rfl⟩
    · have hk : k < (lg j) := Nat.lt_of_not_le (fun h9 => hc ((nI_leI (by omega) (by omega)).mpr h9))
      have hc9 := hcc j hj k hk
      refine lv_aload_n hx hb dc_R_orphans_21 rfl (lv_at hl 3 rfl) ?_
      refine va_get (D := (dC, dI)) (ci := 4) (v := .ref (r 18)) (C := cn_R) (T := ft_R) (N := 27) hx hb htb ki_R hown hK hP 0 rfl rfl 18 (by decide) (htb _ kw_388) (fun _ h9 => h9) rfl dc_R_orphans_22 ?_
      refine lv_iload_n hx hb dc_R_orphans_25 rfl (lv_at hl 1 rfl) ?_
      refine wa_bld (k := j) hx hb hK hP 1 2 rfl rfl (by omega) (by omega) dc_R_orphans_26 ?_
      refine lv_if_ne (tgt := 54) hx hb dc_R_orphans_27 (by decide) (fun hc => ?_) (fun hc => ?_)
      · have h1 : dw j = true := bI_n0.mp hc
        refine lv_iload_n hx hb dc_R_orphans_54 rfl (lv_at hl 2 rfl) ?_
        refine lv_istore_n (lv' := [(1, .int (nI y)), (3, .int (nI k)), (2, .int (nI j)), (0, .ref (r 0))]) hx hb dc_R_orphans_55 rfl hl (by decide) rfl (fun ls hl => ?_)
        refine lv_iinc (k := 1) (v := nI (k + 1)) (lv' := [(3, .int (nI (k + 1))), (1, .int (nI y)), (2, .int (nI j)), (0, .ref (r 0))]) hx hb dc_R_orphans_56 hl rfl (nI_inc1 _) (by decide) rfl (fun ls hl => ?_)
        refine lv_goto (tgt := 11) hx hb dc_R_orphans_59 (by decide) ?_
        exact ih11 (k + 1, y, w) H locs ls (by first | omega | (dsimp only; omega)) ⟨⟨by first | omega | (dsimp only; omega), by rw [hI9.2]; simp [or_I, Nat.add_assoc, *]⟩, hP, hD, hS, lv_sub hl [0, 2, 1, 3] rfl⟩
      · have h1 : dw j = false := bI_0.mp hc
        refine lv_aload_n hx hb dc_R_orphans_30 rfl (lv_at hl 3 rfl) ?_
        refine lv_aload_n hx hb dc_R_orphans_31 rfl (lv_at hl 3 rfl) ?_
        refine va_get (D := (dC, dI)) (ci := 4) (v := .ref (r 19)) (C := cn_R) (T := ft_R) (N := 27) hx hb htb ki_R hown hK hP 0 rfl rfl 19 (by decide) (htb _ kw_389) (fun _ h9 => h9) rfl dc_R_orphans_32 ?_
        refine lv_bipush (v := nI 40) hx hb dc_R_orphans_35 (by decide) ?_
        refine lv_iload_n hx hb dc_R_orphans_37 rfl (lv_at hl 1 rfl) ?_
        refine lv_imul hx hb dc_R_orphans_38 ?_
        refine tp_i (y := nI (40 * j)) (pk_mul _ _) ?_
        refine lv_iload_n hx hb dc_R_orphans_39 rfl (lv_at hl 0 rfl) ?_
        refine lv_iadd hx hb dc_R_orphans_40 ?_
        refine tp_i (y := nI (40 * j + k)) (nI_add _ _) ?_
        refine wa_nld (k := 40 * j + k) hx hb hK hP 7 0 rfl rfl (by omega) (by omega) dc_R_orphans_41 ?_
        refine tp_i (y := oI (some (cc (40 * j + k)))) (rfl) ?_
        refine cl_ix (wc := [zR r cn mn mi nn, ((r 1), .inl (cI, 40, .inl (oF bf))), ((r 2), .inl (cI, 40, .inl (nF rc))), ((r 15), .inl (cI, 104, .inl (oF sr))), ((r 9), .inl (cZ, 40, .inl (bF w))), ((r 5), .inl (cZ, 40, .inl (bF lo)))]) (wr := [((r 18), .inl (cZ, 3, .inl (bF dw))), ((r 19), .inl (cI, 120, .inl (nF cc))), ((r 20), .inl (cI, 3, .inl (nF lg)))]) (w2 := (fun (mkz_1 : Nat → Bool) => [zR r cn mn mi nn, ((r 1), .inl (cI, 40, .inl (oF bf))), ((r 2), .inl (cI, 40, .inl (nF rc))), ((r 15), .inl (cI, 104, .inl (oF sr))), ((r 9), .inl (cZ, 40, .inl (bF mkz_1))), ((r 5), .inl (cZ, 40, .inl (bF lo)))])) hP hD hS hA [0, 2, 3, 4, 5, 6] [1, 7, 8] rfl rfl (by decide) (by decide) (va_runV (As := [.int (oI (some (cc (40 * j + k))))]) (rest := []) ⟨hx, hb, hml, hown, htb⟩ (oc_R_dependsOnLost l dC dI cI cJ cZ cP _ r cn mn mi nn bf rc sr w lo (some (cc (40 * j + k))) (fun i e9 => by cases e9; exact hc9) hcn hbf hrc hsr) (cwV 1 htb (gw_V kw_578 kw_580 kp_27 kw_5 kw_581) rfl rfl rfl (by decide +kernel) ⟨Nat.le_of_ble_eq_true rfl, Nat.le_of_ble_eq_true rfl⟩) (pr_V hP hK hD (va_recv hK hP (ci := 4) (q0 := 0) rfl rfl) [0, 2, 3, 4, 5, 6] (by decide) rfl rfl) rfl rfl hl.1 rfl (lv_room (Nat.le_of_ble_eq_true rfl)) dc_R_orphans_42 ⟨Nat.le_of_ble_eq_true rfl, Nat.le_of_ble_eq_true rfl⟩) (fun mkz_1 H locs hP hD hS => ?_)
        have hP : va_P (dC, dI) clsL [zR r cn mn mi nn, ((r 18), .inl (cZ, 3, .inl (bF dw))), ((r 1), .inl (cI, 40, .inl (oF bf))), ((r 2), .inl (cI, 40, .inl (nF rc))), ((r 15), .inl (cI, 104, .inl (oF sr))), ((r 9), .inl (cZ, 40, .inl (bF mkz_1))), ((r 5), .inl (cZ, 40, .inl (bF lo))), ((r 19), .inl (cI, 120, .inl (nF cc))), ((r 20), .inl (cI, 3, .inl (nF lg)))] H := hP.sub (ws' := [zR r cn mn mi nn, ((r 18), .inl (cZ, 3, .inl (bF dw))), ((r 1), .inl (cI, 40, .inl (oF bf))), ((r 2), .inl (cI, 40, .inl (nF rc))), ((r 15), .inl (cI, 104, .inl (oF sr))), ((r 9), .inl (cZ, 40, .inl (bF mkz_1))), ((r 5), .inl (cZ, 40, .inl (bF lo))), ((r 19), .inl (cI, 120, .inl (nF cc))), ((r 20), .inl (cI, 3, .inl (nF lg)))]) [3, 0, 4, 5, 6, 7, 8, 1, 2] rfl
        have hD : va_D A [zR r cn mn mi nn, ((r 18), .inl (cZ, 3, .inl (bF dw))), ((r 1), .inl (cI, 40, .inl (oF bf))), ((r 2), .inl (cI, 40, .inl (nF rc))), ((r 15), .inl (cI, 104, .inl (oF sr))), ((r 9), .inl (cZ, 40, .inl (bF mkz_1))), ((r 5), .inl (cZ, 40, .inl (bF lo))), ((r 19), .inl (cI, 120, .inl (nF cc))), ((r 20), .inl (cI, 3, .inl (nF lg)))] := hD.sub (ws' := [zR r cn mn mi nn, ((r 18), .inl (cZ, 3, .inl (bF dw))), ((r 1), .inl (cI, 40, .inl (oF bf))), ((r 2), .inl (cI, 40, .inl (nF rc))), ((r 15), .inl (cI, 104, .inl (oF sr))), ((r 9), .inl (cZ, 40, .inl (bF mkz_1))), ((r 5), .inl (cZ, 40, .inl (bF lo))), ((r 19), .inl (cI, 120, .inl (nF cc))), ((r 20), .inl (cI, 3, .inl (nF lg)))]) [3, 0, 4, 5, 6, 7, 8, 1, 2] (by decide) rfl
        refine lv_if_eq (tgt := 54) hx hb dc_R_orphans_45 (by decide) (fun hc => ?_) (fun hc => ?_)
        · have h2 : (dlo_B bf rc sr lo (some (cc (40 * j + k))) cn) = false := bI_0.mp hc
          refine lv_iload_n hx hb dc_R_orphans_54 rfl (lv_at hl 2 rfl) ?_
          refine lv_istore_n (lv' := [(1, .int (nI y)), (3, .int (nI k)), (2, .int (nI j)), (0, .ref (r 0))]) hx hb dc_R_orphans_55 rfl hl (by decide) rfl (fun ls hl => ?_)
          refine lv_iinc (k := 1) (v := nI (k + 1)) (lv' := [(3, .int (nI (k + 1))), (1, .int (nI y)), (2, .int (nI j)), (0, .ref (r 0))]) hx hb dc_R_orphans_56 hl rfl (nI_inc1 _) (by decide) rfl (fun ls hl => ?_)
          refine lv_goto (tgt := 11) hx hb dc_R_orphans_59 (by decide) ?_
          exact ih11 (k + 1, y, mkz_1) H locs ls (by first | omega | (dsimp only; omega)) ⟨⟨by first | omega | (dsimp only; omega), by rw [hI9.2]; simp [or_I, Nat.add_assoc, *]⟩, hP, hD, hS, lv_sub hl [0, 2, 1, 3] rfl⟩
        · have h2 : (dlo_B bf rc sr lo (some (cc (40 * j + k))) cn) = true := bI_n0.mp hc
          refine lv_iload_n hx hb dc_R_orphans_48 rfl (lv_at hl 2 rfl) ?_
          refine lv_iconst (v := nI 1) hx hb dc_R_orphans_49 (by decide) ?_
          refine lv_iadd hx hb dc_R_orphans_50 ?_
          refine tp_i (y := nI (y + 1)) (nI_add _ _) ?_
          refine lv_goto (tgt := 55) hx hb dc_R_orphans_51 (by decide) ?_
          refine lv_istore_n (lv' := [(1, .int (nI (y + 1))), (3, .int (nI k)), (2, .int (nI j)), (0, .ref (r 0))]) hx hb dc_R_orphans_55 rfl hl (by decide) rfl (fun ls hl => ?_)
          refine lv_iinc (k := 1) (v := nI (k + 1)) (lv' := [(3, .int (nI (k + 1))), (1, .int (nI (y + 1))), (2, .int (nI j)), (0, .ref (r 0))]) hx hb dc_R_orphans_56 hl rfl (nI_inc1 _) (by decide) rfl (fun ls hl => ?_)
          refine lv_goto (tgt := 11) hx hb dc_R_orphans_59 (by decide) ?_
          exact ih11 (k + 1, y + 1, mkz_1) H locs ls (by first | omega | (dsimp only; omega)) ⟨⟨by first | omega | (dsimp only; omega), by rw [hI9.2]; simp [or_I, Nat.add_assoc, *]⟩, hP, hD, hS, lv_sub hl [0, 2, 1, 3] rfl⟩

set_option maxHeartbeats 4000000 in
set_option maxRecDepth 100000 in
theorem oc_R_renew (l : Launch) (dC : Nat → ClassId) (dI : Nat → Nat → Nat) (cI cJ cZ cP : ClassId) (sz : Nat) (r : Nat → Nat) (cn : Nat) (mn : Nat) (mi : Nat) (nn : Nat) (dw : Nat → Bool) (lg : Nat → Nat) (ler : Nat → Nat) (lt : Nat → Option Nat) (sd : Nat → Option Nat) (pl : Nat → Int32) (sn : Nat → Nat)  : mt_V l mn_R_renew bc_R_renew 2 none ({ frames := 0, cells := 0, slots := 0, locals := 0 }) (dC, dI) (TYS cI cJ cZ cP) sz [.ref (r 0)] [zR r cn mn mi nn, ((r 18), .inl (cZ, 3, .inl (bF dw))), ((r 20), .inl (cI, 3, .inl (nF lg))), ((r 21), .inl (cI, 3, .inl (nF ler))), ((r 22), .inl (cI, 3, .inl (oF lt))), ((r 23), .inl (cI, 3, .inl (oF sd))), ((r 24), .inl (cI, 3, .inl pl)), ((r 26), .inl (cI, 3, .inl (nF sn)))] [zR r 0 0 0 0, ((r 18), .inl (cZ, 3, .inl (bF (va_up (va_up (va_up dw 0 false) (0 + 1) false) (0 + 1 + 1) false)))), ((r 20), .inl (cI, 3, .inl (nF (va_up (va_up (va_up lg 0 0) (0 + 1) 0) (0 + 1 + 1) 0)))), ((r 21), .inl (cI, 3, .inl (nF (va_up (va_up (va_up ler 0 0) (0 + 1) 0) (0 + 1 + 1) 0)))), ((r 22), .inl (cI, 3, .inl (oF (va_up (va_up (va_up lt 0 none) (0 + 1) none) (0 + 1 + 1) none)))), ((r 23), .inl (cI, 3, .inl (oF (va_up (va_up (va_up sd 0 none) (0 + 1) none) (0 + 1 + 1) none)))), ((r 24), .inl (cI, 3, .inl (va_up (va_up (va_up pl 0 (nI 0)) (0 + 1) (nI 0)) (0 + 1 + 1) (nI 0)))), ((r 26), .inl (cI, 3, .inl (nF (va_up (va_up (va_up sn 0 0) (0 + 1) 0) (0 + 1 + 1) 0))))] 0 0 := by
  unfold mt_V
  refine Met.ofW (cc := bc_R_renew) (maxL := 2) (ret := none) (by decide) rfl ?_
  intro p e s m args below meth c s₁ B hml hv
  obtain ⟨rfl, hsz, hP, hK, hD0⟩ := hv
  have hx := B.exec
  have hb := B.bytes
  have hr := B.returns
  have hts := atoms_spec (ws := wsT mn_R_renew bc_R_renew 2 none) B.pre
  have htb : ∀ w ∈ gtbl, w.before _ s = true := fun w h => hts w (List.mem_cons_of_mem _ h)
  have hown : s.vm.findClass cn_R = some m.cls := findClass_of_methodNamed B.named
  have hlocks := B.notSynchronized
  subst hsz
  have hD := hD0.self (sz := s.heap.size)
  generalize hAe : va_A [zR r cn mn mi nn, ((r 18), .inl (cZ, 3, .inl (bF dw))), ((r 20), .inl (cI, 3, .inl (nF lg))), ((r 21), .inl (cI, 3, .inl (nF ler))), ((r 22), .inl (cI, 3, .inl (oF lt))), ((r 23), .inl (cI, 3, .inl (oF sd))), ((r 24), .inl (cI, 3, .inl pl)), ((r 26), .inl (cI, 3, .inl (nF sn)))] s.heap.size = A at hD ⊢
  have hA : ∀ q : Nat, s.heap.size ≤ q → A q := fun q h => by rw [← hAe]; exact Or.inr h
  have hS : va_S A s.heap s.heap [] := va_S.rf
  have hP : va_P (dC, dI) clsL [zR r cn mn mi nn, ((r 18), .inl (cZ, 3, .inl (bF dw))), ((r 20), .inl (cI, 3, .inl (nF lg))), ((r 21), .inl (cI, 3, .inl (nF ler))), ((r 22), .inl (cI, 3, .inl (oF lt))), ((r 23), .inl (cI, 3, .inl (oF sd))), ((r 24), .inl (cI, 3, .inl pl)), ((r 26), .inl (cI, 3, .inl (nF sn)))] s.heap := hP
  have hl := lv_entry ([.ref (r 0)]) (n := 2) (Nat.le_of_ble_eq_true rfl)
  rw [lg_entry_eq]
  generalize (lg_sl ([.ref (r 0)]) ++ List.replicate (2 - (lg_sl ([.ref (r 0)])).length) Slot.unset).toArray = ls at hl ⊢
  have hl : lv_has ls 2 [(0, .ref (r 0))] := hl
  refine lv_aload_n hx hb dc_R_renew_0 rfl (lv_at hl 0 rfl) ?_
  refine lv_iconst (v := nI 0) hx hb dc_R_renew_1 (by decide) ?_
  refine va_put (D := (dC, dI)) (ci := 4) (v := .int (nI 0)) (ty := .int) (C := cn_R) (T := ft_R) (N := 27) hx hb htb ki_R fy_R fy_R_ok nm_R_d hown hK hP hD hS 0 rfl rfl 0 (by decide) (htb _ kw_370) (fun _ h9 => h9) rfl (by decide +kernel) rfl rfl (Nat.le_of_ble_eq_true rfl) dc_R_renew_2 (fun H locs hP hD hS => ?_)
  have hP : va_P (dC, dI) clsL [zR r 0 mn mi nn, ((r 18), .inl (cZ, 3, .inl (bF dw))), ((r 20), .inl (cI, 3, .inl (nF lg))), ((r 21), .inl (cI, 3, .inl (nF ler))), ((r 22), .inl (cI, 3, .inl (oF lt))), ((r 23), .inl (cI, 3, .inl (oF sd))), ((r 24), .inl (cI, 3, .inl pl)), ((r 26), .inl (cI, 3, .inl (nF sn)))] H := hP
  have hD : va_D A [zR r 0 mn mi nn, ((r 18), .inl (cZ, 3, .inl (bF dw))), ((r 20), .inl (cI, 3, .inl (nF lg))), ((r 21), .inl (cI, 3, .inl (nF ler))), ((r 22), .inl (cI, 3, .inl (oF lt))), ((r 23), .inl (cI, 3, .inl (oF sd))), ((r 24), .inl (cI, 3, .inl pl)), ((r 26), .inl (cI, 3, .inl (nF sn)))] := hD
  refine lv_aload_n hx hb dc_R_renew_5 rfl (lv_at hl 0 rfl) ?_
  refine lv_iconst (v := nI 0) hx hb dc_R_renew_6 (by decide) ?_
  refine va_put (D := (dC, dI)) (ci := 4) (v := .int (nI 0)) (ty := .int) (C := cn_R) (T := ft_R) (N := 27) hx hb htb ki_R fy_R fy_R_ok nm_R_d hown hK hP hD hS 0 rfl rfl 10 (by decide) (htb _ kw_380) (fun _ h9 => h9) rfl (by decide +kernel) rfl rfl (Nat.le_of_ble_eq_true rfl) dc_R_renew_7 (fun H locs hP hD hS => ?_)
  have hP : va_P (dC, dI) clsL [zR r 0 0 mi nn, ((r 18), .inl (cZ, 3, .inl (bF dw))), ((r 20), .inl (cI, 3, .inl (nF lg))), ((r 21), .inl (cI, 3, .inl (nF ler))), ((r 22), .inl (cI, 3, .inl (oF lt))), ((r 23), .inl (cI, 3, .inl (oF sd))), ((r 24), .inl (cI, 3, .inl pl)), ((r 26), .inl (cI, 3, .inl (nF sn)))] H := hP
  have hD : va_D A [zR r 0 0 mi nn, ((r 18), .inl (cZ, 3, .inl (bF dw))), ((r 20), .inl (cI, 3, .inl (nF lg))), ((r 21), .inl (cI, 3, .inl (nF ler))), ((r 22), .inl (cI, 3, .inl (oF lt))), ((r 23), .inl (cI, 3, .inl (oF sd))), ((r 24), .inl (cI, 3, .inl pl)), ((r 26), .inl (cI, 3, .inl (nF sn)))] := hD
  refine lv_aload_n hx hb dc_R_renew_10 rfl (lv_at hl 0 rfl) ?_
  refine lv_iconst (v := nI 0) hx hb dc_R_renew_11 (by decide) ?_
  refine va_put (D := (dC, dI)) (ci := 4) (v := .int (nI 0)) (ty := .int) (C := cn_R) (T := ft_R) (N := 27) hx hb htb ki_R fy_R fy_R_ok nm_R_d hown hK hP hD hS 0 rfl rfl 11 (by decide) (htb _ kw_381) (fun _ h9 => h9) rfl (by decide +kernel) rfl rfl (Nat.le_of_ble_eq_true rfl) dc_R_renew_12 (fun H locs hP hD hS => ?_)
  have hP : va_P (dC, dI) clsL [zR r 0 0 0 nn, ((r 18), .inl (cZ, 3, .inl (bF dw))), ((r 20), .inl (cI, 3, .inl (nF lg))), ((r 21), .inl (cI, 3, .inl (nF ler))), ((r 22), .inl (cI, 3, .inl (oF lt))), ((r 23), .inl (cI, 3, .inl (oF sd))), ((r 24), .inl (cI, 3, .inl pl)), ((r 26), .inl (cI, 3, .inl (nF sn)))] H := hP
  have hD : va_D A [zR r 0 0 0 nn, ((r 18), .inl (cZ, 3, .inl (bF dw))), ((r 20), .inl (cI, 3, .inl (nF lg))), ((r 21), .inl (cI, 3, .inl (nF ler))), ((r 22), .inl (cI, 3, .inl (oF lt))), ((r 23), .inl (cI, 3, .inl (oF sd))), ((r 24), .inl (cI, 3, .inl pl)), ((r 26), .inl (cI, 3, .inl (nF sn)))] := hD
  refine lv_aload_n hx hb dc_R_renew_15 rfl (lv_at hl 0 rfl) ?_
  refine lv_iconst (v := nI 0) hx hb dc_R_renew_16 (by decide) ?_
  refine va_put (D := (dC, dI)) (ci := 4) (v := .int (nI 0)) (ty := .int) (C := cn_R) (T := ft_R) (N := 27) hx hb htb ki_R fy_R fy_R_ok nm_R_d hown hK hP hD hS 0 rfl rfl 17 (by decide) (htb _ kw_387) (fun _ h9 => h9) rfl (by decide +kernel) rfl rfl (Nat.le_of_ble_eq_true rfl) dc_R_renew_17 (fun H locs hP hD hS => ?_)
  have hP : va_P (dC, dI) clsL [zR r 0 0 0 0, ((r 18), .inl (cZ, 3, .inl (bF dw))), ((r 20), .inl (cI, 3, .inl (nF lg))), ((r 21), .inl (cI, 3, .inl (nF ler))), ((r 22), .inl (cI, 3, .inl (oF lt))), ((r 23), .inl (cI, 3, .inl (oF sd))), ((r 24), .inl (cI, 3, .inl pl)), ((r 26), .inl (cI, 3, .inl (nF sn)))] H := hP
  have hD : va_D A [zR r 0 0 0 0, ((r 18), .inl (cZ, 3, .inl (bF dw))), ((r 20), .inl (cI, 3, .inl (nF lg))), ((r 21), .inl (cI, 3, .inl (nF ler))), ((r 22), .inl (cI, 3, .inl (oF lt))), ((r 23), .inl (cI, 3, .inl (oF sd))), ((r 24), .inl (cI, 3, .inl pl)), ((r 26), .inl (cI, 3, .inl (nF sn)))] := hD
  refine lv_iconst (v := nI 0) hx hb dc_R_renew_20 (by decide) ?_
  refine lv_istore_n (lv' := [(1, .int (nI 0)), (0, .ref (r 0))]) hx hb dc_R_renew_21 rfl hl (by decide) rfl (fun ls hl => ?_)
  refine lv_iload_n hx hb dc_R_renew_22 rfl (lv_at hl 0 rfl) ?_
  refine lv_iconst (v := nI 3) hx hb dc_R_renew_23 (by decide) ?_
  refine lv_icmp_ge (tgt := 82) hx hb dc_R_renew_24 (by decide) (fun hc => ?_) (fun hc => ?_)
  · have h24 : 3 ≤ 0 := (nI_leI (by omega) (by omega)).mp hc
    exact absurd h24 (by omega)
  have h24 : 0 < 3 := Nat.lt_of_not_le (fun h9 => hc ((nI_leI (by omega) (by omega)).mpr h9))
  refine lv_aload_n hx hb dc_R_renew_27 rfl (lv_at hl 1 rfl) ?_
  refine va_get (D := (dC, dI)) (ci := 4) (v := .ref (r 18)) (C := cn_R) (T := ft_R) (N := 27) hx hb htb ki_R hown hK hP 0 rfl rfl 18 (by decide) (htb _ kw_388) (fun _ h9 => h9) rfl dc_R_renew_28 ?_
  refine lv_iload_n hx hb dc_R_renew_31 rfl (lv_at hl 0 rfl) ?_
  refine lv_iconst (v := nI 0) hx hb dc_R_renew_32 (by decide) ?_
  refine tp_i (y := bI false) (rfl) ?_
  refine wa_bst (k := 0) (x := false) hx hb hK hP hD hS 1 2 rfl rfl (by omega) (by omega) dc_R_renew_33 (fun H locs hP hD hS => ?_)
  have hP : va_P (dC, dI) clsL [zR r 0 0 0 0, ((r 18), .inl (cZ, 3, .inl (bF (va_up dw 0 false)))), ((r 20), .inl (cI, 3, .inl (nF lg))), ((r 21), .inl (cI, 3, .inl (nF ler))), ((r 22), .inl (cI, 3, .inl (oF lt))), ((r 23), .inl (cI, 3, .inl (oF sd))), ((r 24), .inl (cI, 3, .inl pl)), ((r 26), .inl (cI, 3, .inl (nF sn)))] H := hP
  have hD : va_D A [zR r 0 0 0 0, ((r 18), .inl (cZ, 3, .inl (bF (va_up dw 0 false)))), ((r 20), .inl (cI, 3, .inl (nF lg))), ((r 21), .inl (cI, 3, .inl (nF ler))), ((r 22), .inl (cI, 3, .inl (oF lt))), ((r 23), .inl (cI, 3, .inl (oF sd))), ((r 24), .inl (cI, 3, .inl pl)), ((r 26), .inl (cI, 3, .inl (nF sn)))] := hD
  refine lv_aload_n hx hb dc_R_renew_34 rfl (lv_at hl 1 rfl) ?_
  refine va_get (D := (dC, dI)) (ci := 4) (v := .ref (r 20)) (C := cn_R) (T := ft_R) (N := 27) hx hb htb ki_R hown hK hP 0 rfl rfl 20 (by decide) (htb _ kw_390) (fun _ h9 => h9) rfl dc_R_renew_35 ?_
  refine lv_iload_n hx hb dc_R_renew_38 rfl (lv_at hl 0 rfl) ?_
  refine lv_iconst (v := nI 0) hx hb dc_R_renew_39 (by decide) ?_
  refine wa_nst (k := 0) (x := 0) hx hb hK hP hD hS 2 0 rfl rfl (by omega) (by omega) dc_R_renew_40 (fun H locs hP hD hS => ?_)
  have hP : va_P (dC, dI) clsL [zR r 0 0 0 0, ((r 18), .inl (cZ, 3, .inl (bF (va_up dw 0 false)))), ((r 20), .inl (cI, 3, .inl (nF (va_up lg 0 0)))), ((r 21), .inl (cI, 3, .inl (nF ler))), ((r 22), .inl (cI, 3, .inl (oF lt))), ((r 23), .inl (cI, 3, .inl (oF sd))), ((r 24), .inl (cI, 3, .inl pl)), ((r 26), .inl (cI, 3, .inl (nF sn)))] H := hP
  have hD : va_D A [zR r 0 0 0 0, ((r 18), .inl (cZ, 3, .inl (bF (va_up dw 0 false)))), ((r 20), .inl (cI, 3, .inl (nF (va_up lg 0 0)))), ((r 21), .inl (cI, 3, .inl (nF ler))), ((r 22), .inl (cI, 3, .inl (oF lt))), ((r 23), .inl (cI, 3, .inl (oF sd))), ((r 24), .inl (cI, 3, .inl pl)), ((r 26), .inl (cI, 3, .inl (nF sn)))] := hD
  refine lv_aload_n hx hb dc_R_renew_41 rfl (lv_at hl 1 rfl) ?_
  refine va_get (D := (dC, dI)) (ci := 4) (v := .ref (r 21)) (C := cn_R) (T := ft_R) (N := 27) hx hb htb ki_R hown hK hP 0 rfl rfl 21 (by decide) (htb _ kw_391) (fun _ h9 => h9) rfl dc_R_renew_42 ?_
  refine lv_iload_n hx hb dc_R_renew_45 rfl (lv_at hl 0 rfl) ?_
  refine lv_iconst (v := nI 0) hx hb dc_R_renew_46 (by decide) ?_
  refine wa_nst (k := 0) (x := 0) hx hb hK hP hD hS 3 0 rfl rfl (by omega) (by omega) dc_R_renew_47 (fun H locs hP hD hS => ?_)
  have hP : va_P (dC, dI) clsL [zR r 0 0 0 0, ((r 18), .inl (cZ, 3, .inl (bF (va_up dw 0 false)))), ((r 20), .inl (cI, 3, .inl (nF (va_up lg 0 0)))), ((r 21), .inl (cI, 3, .inl (nF (va_up ler 0 0)))), ((r 22), .inl (cI, 3, .inl (oF lt))), ((r 23), .inl (cI, 3, .inl (oF sd))), ((r 24), .inl (cI, 3, .inl pl)), ((r 26), .inl (cI, 3, .inl (nF sn)))] H := hP
  have hD : va_D A [zR r 0 0 0 0, ((r 18), .inl (cZ, 3, .inl (bF (va_up dw 0 false)))), ((r 20), .inl (cI, 3, .inl (nF (va_up lg 0 0)))), ((r 21), .inl (cI, 3, .inl (nF (va_up ler 0 0)))), ((r 22), .inl (cI, 3, .inl (oF lt))), ((r 23), .inl (cI, 3, .inl (oF sd))), ((r 24), .inl (cI, 3, .inl pl)), ((r 26), .inl (cI, 3, .inl (nF sn)))] := hD
  refine lv_aload_n hx hb dc_R_renew_48 rfl (lv_at hl 1 rfl) ?_
  refine va_get (D := (dC, dI)) (ci := 4) (v := .ref (r 22)) (C := cn_R) (T := ft_R) (N := 27) hx hb htb ki_R hown hK hP 0 rfl rfl 22 (by decide) (htb _ kw_392) (fun _ h9 => h9) rfl dc_R_renew_49 ?_
  refine lv_iload_n hx hb dc_R_renew_52 rfl (lv_at hl 0 rfl) ?_
  refine lv_iconst (v := (-1)) hx hb dc_R_renew_53 (by decide) ?_
  refine tp_i (y := oI none) (rfl) ?_
  refine wa_ost (k := 0) (x := none) hx hb hK hP hD hS 4 0 rfl rfl (by omega) (by omega) dc_R_renew_54 (fun H locs hP hD hS => ?_)
  have hP : va_P (dC, dI) clsL [zR r 0 0 0 0, ((r 18), .inl (cZ, 3, .inl (bF (va_up dw 0 false)))), ((r 20), .inl (cI, 3, .inl (nF (va_up lg 0 0)))), ((r 21), .inl (cI, 3, .inl (nF (va_up ler 0 0)))), ((r 22), .inl (cI, 3, .inl (oF (va_up lt 0 none)))), ((r 23), .inl (cI, 3, .inl (oF sd))), ((r 24), .inl (cI, 3, .inl pl)), ((r 26), .inl (cI, 3, .inl (nF sn)))] H := hP
  have hD : va_D A [zR r 0 0 0 0, ((r 18), .inl (cZ, 3, .inl (bF (va_up dw 0 false)))), ((r 20), .inl (cI, 3, .inl (nF (va_up lg 0 0)))), ((r 21), .inl (cI, 3, .inl (nF (va_up ler 0 0)))), ((r 22), .inl (cI, 3, .inl (oF (va_up lt 0 none)))), ((r 23), .inl (cI, 3, .inl (oF sd))), ((r 24), .inl (cI, 3, .inl pl)), ((r 26), .inl (cI, 3, .inl (nF sn)))] := hD
  refine lv_aload_n hx hb dc_R_renew_55 rfl (lv_at hl 1 rfl) ?_
  refine va_get (D := (dC, dI)) (ci := 4) (v := .ref (r 23)) (C := cn_R) (T := ft_R) (N := 27) hx hb htb ki_R hown hK hP 0 rfl rfl 23 (by decide) (htb _ kw_393) (fun _ h9 => h9) rfl dc_R_renew_56 ?_
  refine lv_iload_n hx hb dc_R_renew_59 rfl (lv_at hl 0 rfl) ?_
  refine lv_iconst (v := (-1)) hx hb dc_R_renew_60 (by decide) ?_
  refine tp_i (y := oI none) (rfl) ?_
  refine wa_ost (k := 0) (x := none) hx hb hK hP hD hS 5 0 rfl rfl (by omega) (by omega) dc_R_renew_61 (fun H locs hP hD hS => ?_)
  have hP : va_P (dC, dI) clsL [zR r 0 0 0 0, ((r 18), .inl (cZ, 3, .inl (bF (va_up dw 0 false)))), ((r 20), .inl (cI, 3, .inl (nF (va_up lg 0 0)))), ((r 21), .inl (cI, 3, .inl (nF (va_up ler 0 0)))), ((r 22), .inl (cI, 3, .inl (oF (va_up lt 0 none)))), ((r 23), .inl (cI, 3, .inl (oF (va_up sd 0 none)))), ((r 24), .inl (cI, 3, .inl pl)), ((r 26), .inl (cI, 3, .inl (nF sn)))] H := hP
  have hD : va_D A [zR r 0 0 0 0, ((r 18), .inl (cZ, 3, .inl (bF (va_up dw 0 false)))), ((r 20), .inl (cI, 3, .inl (nF (va_up lg 0 0)))), ((r 21), .inl (cI, 3, .inl (nF (va_up ler 0 0)))), ((r 22), .inl (cI, 3, .inl (oF (va_up lt 0 none)))), ((r 23), .inl (cI, 3, .inl (oF (va_up sd 0 none)))), ((r 24), .inl (cI, 3, .inl pl)), ((r 26), .inl (cI, 3, .inl (nF sn)))] := hD
  refine lv_aload_n hx hb dc_R_renew_62 rfl (lv_at hl 1 rfl) ?_
  refine va_get (D := (dC, dI)) (ci := 4) (v := .ref (r 24)) (C := cn_R) (T := ft_R) (N := 27) hx hb htb ki_R hown hK hP 0 rfl rfl 24 (by decide) (htb _ kw_394) (fun _ h9 => h9) rfl dc_R_renew_63 ?_
  refine lv_iload_n hx hb dc_R_renew_66 rfl (lv_at hl 0 rfl) ?_
  refine lv_iconst (v := nI 0) hx hb dc_R_renew_67 (by decide) ?_
  refine wa_ist (k := 0) (x := nI 0) hx hb hK hP hD hS 6 0 rfl rfl (by omega) (by omega) dc_R_renew_68 (fun H locs hP hD hS => ?_)
  have hP : va_P (dC, dI) clsL [zR r 0 0 0 0, ((r 18), .inl (cZ, 3, .inl (bF (va_up dw 0 false)))), ((r 20), .inl (cI, 3, .inl (nF (va_up lg 0 0)))), ((r 21), .inl (cI, 3, .inl (nF (va_up ler 0 0)))), ((r 22), .inl (cI, 3, .inl (oF (va_up lt 0 none)))), ((r 23), .inl (cI, 3, .inl (oF (va_up sd 0 none)))), ((r 24), .inl (cI, 3, .inl (va_up pl 0 (nI 0)))), ((r 26), .inl (cI, 3, .inl (nF sn)))] H := hP
  have hD : va_D A [zR r 0 0 0 0, ((r 18), .inl (cZ, 3, .inl (bF (va_up dw 0 false)))), ((r 20), .inl (cI, 3, .inl (nF (va_up lg 0 0)))), ((r 21), .inl (cI, 3, .inl (nF (va_up ler 0 0)))), ((r 22), .inl (cI, 3, .inl (oF (va_up lt 0 none)))), ((r 23), .inl (cI, 3, .inl (oF (va_up sd 0 none)))), ((r 24), .inl (cI, 3, .inl (va_up pl 0 (nI 0)))), ((r 26), .inl (cI, 3, .inl (nF sn)))] := hD
  refine lv_aload_n hx hb dc_R_renew_69 rfl (lv_at hl 1 rfl) ?_
  refine va_get (D := (dC, dI)) (ci := 4) (v := .ref (r 26)) (C := cn_R) (T := ft_R) (N := 27) hx hb htb ki_R hown hK hP 0 rfl rfl 26 (by decide) (htb _ kw_396) (fun _ h9 => h9) rfl dc_R_renew_70 ?_
  refine lv_iload_n hx hb dc_R_renew_73 rfl (lv_at hl 0 rfl) ?_
  refine lv_iconst (v := nI 0) hx hb dc_R_renew_74 (by decide) ?_
  refine wa_nst (k := 0) (x := 0) hx hb hK hP hD hS 7 0 rfl rfl (by omega) (by omega) dc_R_renew_75 (fun H locs hP hD hS => ?_)
  have hP : va_P (dC, dI) clsL [zR r 0 0 0 0, ((r 18), .inl (cZ, 3, .inl (bF (va_up dw 0 false)))), ((r 20), .inl (cI, 3, .inl (nF (va_up lg 0 0)))), ((r 21), .inl (cI, 3, .inl (nF (va_up ler 0 0)))), ((r 22), .inl (cI, 3, .inl (oF (va_up lt 0 none)))), ((r 23), .inl (cI, 3, .inl (oF (va_up sd 0 none)))), ((r 24), .inl (cI, 3, .inl (va_up pl 0 (nI 0)))), ((r 26), .inl (cI, 3, .inl (nF (va_up sn 0 0))))] H := hP
  have hD : va_D A [zR r 0 0 0 0, ((r 18), .inl (cZ, 3, .inl (bF (va_up dw 0 false)))), ((r 20), .inl (cI, 3, .inl (nF (va_up lg 0 0)))), ((r 21), .inl (cI, 3, .inl (nF (va_up ler 0 0)))), ((r 22), .inl (cI, 3, .inl (oF (va_up lt 0 none)))), ((r 23), .inl (cI, 3, .inl (oF (va_up sd 0 none)))), ((r 24), .inl (cI, 3, .inl (va_up pl 0 (nI 0)))), ((r 26), .inl (cI, 3, .inl (nF (va_up sn 0 0))))] := hD
  refine lv_iinc (k := 0) (v := nI (0 + 1)) (lv' := [(1, .int (nI (0 + 1))), (0, .ref (r 0))]) hx hb dc_R_renew_76 hl rfl (nI_inc1 _) (by decide) rfl (fun ls hl => ?_)
  refine lv_goto (tgt := 22) hx hb dc_R_renew_79 (by decide) ?_
  refine lv_iload_n hx hb dc_R_renew_22 rfl (lv_at hl 0 rfl) ?_
  refine lv_iconst (v := nI 3) hx hb dc_R_renew_23 (by decide) ?_
  refine lv_icmp_ge (tgt := 82) hx hb dc_R_renew_24 (by decide) (fun hc => ?_) (fun hc => ?_)
  · have h24 : 3 ≤ (0 + 1) := (nI_leI (by omega) (by omega)).mp hc
    exact absurd h24 (by omega)
  have h24 : (0 + 1) < 3 := Nat.lt_of_not_le (fun h9 => hc ((nI_leI (by omega) (by omega)).mpr h9))
  refine lv_aload_n hx hb dc_R_renew_27 rfl (lv_at hl 1 rfl) ?_
  refine va_get (D := (dC, dI)) (ci := 4) (v := .ref (r 18)) (C := cn_R) (T := ft_R) (N := 27) hx hb htb ki_R hown hK hP 0 rfl rfl 18 (by decide) (htb _ kw_388) (fun _ h9 => h9) rfl dc_R_renew_28 ?_
  refine lv_iload_n hx hb dc_R_renew_31 rfl (lv_at hl 0 rfl) ?_
  refine lv_iconst (v := nI 0) hx hb dc_R_renew_32 (by decide) ?_
  refine tp_i (y := bI false) (rfl) ?_
  refine wa_bst (k := 0 + 1) (x := false) hx hb hK hP hD hS 1 2 rfl rfl (by omega) (by omega) dc_R_renew_33 (fun H locs hP hD hS => ?_)
  have hP : va_P (dC, dI) clsL [zR r 0 0 0 0, ((r 18), .inl (cZ, 3, .inl (bF (va_up (va_up dw 0 false) (0 + 1) false)))), ((r 20), .inl (cI, 3, .inl (nF (va_up lg 0 0)))), ((r 21), .inl (cI, 3, .inl (nF (va_up ler 0 0)))), ((r 22), .inl (cI, 3, .inl (oF (va_up lt 0 none)))), ((r 23), .inl (cI, 3, .inl (oF (va_up sd 0 none)))), ((r 24), .inl (cI, 3, .inl (va_up pl 0 (nI 0)))), ((r 26), .inl (cI, 3, .inl (nF (va_up sn 0 0))))] H := hP
  have hD : va_D A [zR r 0 0 0 0, ((r 18), .inl (cZ, 3, .inl (bF (va_up (va_up dw 0 false) (0 + 1) false)))), ((r 20), .inl (cI, 3, .inl (nF (va_up lg 0 0)))), ((r 21), .inl (cI, 3, .inl (nF (va_up ler 0 0)))), ((r 22), .inl (cI, 3, .inl (oF (va_up lt 0 none)))), ((r 23), .inl (cI, 3, .inl (oF (va_up sd 0 none)))), ((r 24), .inl (cI, 3, .inl (va_up pl 0 (nI 0)))), ((r 26), .inl (cI, 3, .inl (nF (va_up sn 0 0))))] := hD
  refine lv_aload_n hx hb dc_R_renew_34 rfl (lv_at hl 1 rfl) ?_
  refine va_get (D := (dC, dI)) (ci := 4) (v := .ref (r 20)) (C := cn_R) (T := ft_R) (N := 27) hx hb htb ki_R hown hK hP 0 rfl rfl 20 (by decide) (htb _ kw_390) (fun _ h9 => h9) rfl dc_R_renew_35 ?_
  refine lv_iload_n hx hb dc_R_renew_38 rfl (lv_at hl 0 rfl) ?_
  refine lv_iconst (v := nI 0) hx hb dc_R_renew_39 (by decide) ?_
  refine wa_nst (k := 0 + 1) (x := 0) hx hb hK hP hD hS 2 0 rfl rfl (by omega) (by omega) dc_R_renew_40 (fun H locs hP hD hS => ?_)
  have hP : va_P (dC, dI) clsL [zR r 0 0 0 0, ((r 18), .inl (cZ, 3, .inl (bF (va_up (va_up dw 0 false) (0 + 1) false)))), ((r 20), .inl (cI, 3, .inl (nF (va_up (va_up lg 0 0) (0 + 1) 0)))), ((r 21), .inl (cI, 3, .inl (nF (va_up ler 0 0)))), ((r 22), .inl (cI, 3, .inl (oF (va_up lt 0 none)))), ((r 23), .inl (cI, 3, .inl (oF (va_up sd 0 none)))), ((r 24), .inl (cI, 3, .inl (va_up pl 0 (nI 0)))), ((r 26), .inl (cI, 3, .inl (nF (va_up sn 0 0))))] H := hP
  have hD : va_D A [zR r 0 0 0 0, ((r 18), .inl (cZ, 3, .inl (bF (va_up (va_up dw 0 false) (0 + 1) false)))), ((r 20), .inl (cI, 3, .inl (nF (va_up (va_up lg 0 0) (0 + 1) 0)))), ((r 21), .inl (cI, 3, .inl (nF (va_up ler 0 0)))), ((r 22), .inl (cI, 3, .inl (oF (va_up lt 0 none)))), ((r 23), .inl (cI, 3, .inl (oF (va_up sd 0 none)))), ((r 24), .inl (cI, 3, .inl (va_up pl 0 (nI 0)))), ((r 26), .inl (cI, 3, .inl (nF (va_up sn 0 0))))] := hD
  refine lv_aload_n hx hb dc_R_renew_41 rfl (lv_at hl 1 rfl) ?_
  refine va_get (D := (dC, dI)) (ci := 4) (v := .ref (r 21)) (C := cn_R) (T := ft_R) (N := 27) hx hb htb ki_R hown hK hP 0 rfl rfl 21 (by decide) (htb _ kw_391) (fun _ h9 => h9) rfl dc_R_renew_42 ?_
  refine lv_iload_n hx hb dc_R_renew_45 rfl (lv_at hl 0 rfl) ?_
  refine lv_iconst (v := nI 0) hx hb dc_R_renew_46 (by decide) ?_
  refine wa_nst (k := 0 + 1) (x := 0) hx hb hK hP hD hS 3 0 rfl rfl (by omega) (by omega) dc_R_renew_47 (fun H locs hP hD hS => ?_)
  have hP : va_P (dC, dI) clsL [zR r 0 0 0 0, ((r 18), .inl (cZ, 3, .inl (bF (va_up (va_up dw 0 false) (0 + 1) false)))), ((r 20), .inl (cI, 3, .inl (nF (va_up (va_up lg 0 0) (0 + 1) 0)))), ((r 21), .inl (cI, 3, .inl (nF (va_up (va_up ler 0 0) (0 + 1) 0)))), ((r 22), .inl (cI, 3, .inl (oF (va_up lt 0 none)))), ((r 23), .inl (cI, 3, .inl (oF (va_up sd 0 none)))), ((r 24), .inl (cI, 3, .inl (va_up pl 0 (nI 0)))), ((r 26), .inl (cI, 3, .inl (nF (va_up sn 0 0))))] H := hP
  have hD : va_D A [zR r 0 0 0 0, ((r 18), .inl (cZ, 3, .inl (bF (va_up (va_up dw 0 false) (0 + 1) false)))), ((r 20), .inl (cI, 3, .inl (nF (va_up (va_up lg 0 0) (0 + 1) 0)))), ((r 21), .inl (cI, 3, .inl (nF (va_up (va_up ler 0 0) (0 + 1) 0)))), ((r 22), .inl (cI, 3, .inl (oF (va_up lt 0 none)))), ((r 23), .inl (cI, 3, .inl (oF (va_up sd 0 none)))), ((r 24), .inl (cI, 3, .inl (va_up pl 0 (nI 0)))), ((r 26), .inl (cI, 3, .inl (nF (va_up sn 0 0))))] := hD
  refine lv_aload_n hx hb dc_R_renew_48 rfl (lv_at hl 1 rfl) ?_
  refine va_get (D := (dC, dI)) (ci := 4) (v := .ref (r 22)) (C := cn_R) (T := ft_R) (N := 27) hx hb htb ki_R hown hK hP 0 rfl rfl 22 (by decide) (htb _ kw_392) (fun _ h9 => h9) rfl dc_R_renew_49 ?_
  refine lv_iload_n hx hb dc_R_renew_52 rfl (lv_at hl 0 rfl) ?_
  refine lv_iconst (v := (-1)) hx hb dc_R_renew_53 (by decide) ?_
  refine tp_i (y := oI none) (rfl) ?_
  refine wa_ost (k := 0 + 1) (x := none) hx hb hK hP hD hS 4 0 rfl rfl (by omega) (by omega) dc_R_renew_54 (fun H locs hP hD hS => ?_)
  have hP : va_P (dC, dI) clsL [zR r 0 0 0 0, ((r 18), .inl (cZ, 3, .inl (bF (va_up (va_up dw 0 false) (0 + 1) false)))), ((r 20), .inl (cI, 3, .inl (nF (va_up (va_up lg 0 0) (0 + 1) 0)))), ((r 21), .inl (cI, 3, .inl (nF (va_up (va_up ler 0 0) (0 + 1) 0)))), ((r 22), .inl (cI, 3, .inl (oF (va_up (va_up lt 0 none) (0 + 1) none)))), ((r 23), .inl (cI, 3, .inl (oF (va_up sd 0 none)))), ((r 24), .inl (cI, 3, .inl (va_up pl 0 (nI 0)))), ((r 26), .inl (cI, 3, .inl (nF (va_up sn 0 0))))] H := hP
  have hD : va_D A [zR r 0 0 0 0, ((r 18), .inl (cZ, 3, .inl (bF (va_up (va_up dw 0 false) (0 + 1) false)))), ((r 20), .inl (cI, 3, .inl (nF (va_up (va_up lg 0 0) (0 + 1) 0)))), ((r 21), .inl (cI, 3, .inl (nF (va_up (va_up ler 0 0) (0 + 1) 0)))), ((r 22), .inl (cI, 3, .inl (oF (va_up (va_up lt 0 none) (0 + 1) none)))), ((r 23), .inl (cI, 3, .inl (oF (va_up sd 0 none)))), ((r 24), .inl (cI, 3, .inl (va_up pl 0 (nI 0)))), ((r 26), .inl (cI, 3, .inl (nF (va_up sn 0 0))))] := hD
  refine lv_aload_n hx hb dc_R_renew_55 rfl (lv_at hl 1 rfl) ?_
  refine va_get (D := (dC, dI)) (ci := 4) (v := .ref (r 23)) (C := cn_R) (T := ft_R) (N := 27) hx hb htb ki_R hown hK hP 0 rfl rfl 23 (by decide) (htb _ kw_393) (fun _ h9 => h9) rfl dc_R_renew_56 ?_
  refine lv_iload_n hx hb dc_R_renew_59 rfl (lv_at hl 0 rfl) ?_
  refine lv_iconst (v := (-1)) hx hb dc_R_renew_60 (by decide) ?_
  refine tp_i (y := oI none) (rfl) ?_
  refine wa_ost (k := 0 + 1) (x := none) hx hb hK hP hD hS 5 0 rfl rfl (by omega) (by omega) dc_R_renew_61 (fun H locs hP hD hS => ?_)
  have hP : va_P (dC, dI) clsL [zR r 0 0 0 0, ((r 18), .inl (cZ, 3, .inl (bF (va_up (va_up dw 0 false) (0 + 1) false)))), ((r 20), .inl (cI, 3, .inl (nF (va_up (va_up lg 0 0) (0 + 1) 0)))), ((r 21), .inl (cI, 3, .inl (nF (va_up (va_up ler 0 0) (0 + 1) 0)))), ((r 22), .inl (cI, 3, .inl (oF (va_up (va_up lt 0 none) (0 + 1) none)))), ((r 23), .inl (cI, 3, .inl (oF (va_up (va_up sd 0 none) (0 + 1) none)))), ((r 24), .inl (cI, 3, .inl (va_up pl 0 (nI 0)))), ((r 26), .inl (cI, 3, .inl (nF (va_up sn 0 0))))] H := hP
  have hD : va_D A [zR r 0 0 0 0, ((r 18), .inl (cZ, 3, .inl (bF (va_up (va_up dw 0 false) (0 + 1) false)))), ((r 20), .inl (cI, 3, .inl (nF (va_up (va_up lg 0 0) (0 + 1) 0)))), ((r 21), .inl (cI, 3, .inl (nF (va_up (va_up ler 0 0) (0 + 1) 0)))), ((r 22), .inl (cI, 3, .inl (oF (va_up (va_up lt 0 none) (0 + 1) none)))), ((r 23), .inl (cI, 3, .inl (oF (va_up (va_up sd 0 none) (0 + 1) none)))), ((r 24), .inl (cI, 3, .inl (va_up pl 0 (nI 0)))), ((r 26), .inl (cI, 3, .inl (nF (va_up sn 0 0))))] := hD
  refine lv_aload_n hx hb dc_R_renew_62 rfl (lv_at hl 1 rfl) ?_
  refine va_get (D := (dC, dI)) (ci := 4) (v := .ref (r 24)) (C := cn_R) (T := ft_R) (N := 27) hx hb htb ki_R hown hK hP 0 rfl rfl 24 (by decide) (htb _ kw_394) (fun _ h9 => h9) rfl dc_R_renew_63 ?_
  refine lv_iload_n hx hb dc_R_renew_66 rfl (lv_at hl 0 rfl) ?_
  refine lv_iconst (v := nI 0) hx hb dc_R_renew_67 (by decide) ?_
  refine wa_ist (k := 0 + 1) (x := nI 0) hx hb hK hP hD hS 6 0 rfl rfl (by omega) (by omega) dc_R_renew_68 (fun H locs hP hD hS => ?_)
  have hP : va_P (dC, dI) clsL [zR r 0 0 0 0, ((r 18), .inl (cZ, 3, .inl (bF (va_up (va_up dw 0 false) (0 + 1) false)))), ((r 20), .inl (cI, 3, .inl (nF (va_up (va_up lg 0 0) (0 + 1) 0)))), ((r 21), .inl (cI, 3, .inl (nF (va_up (va_up ler 0 0) (0 + 1) 0)))), ((r 22), .inl (cI, 3, .inl (oF (va_up (va_up lt 0 none) (0 + 1) none)))), ((r 23), .inl (cI, 3, .inl (oF (va_up (va_up sd 0 none) (0 + 1) none)))), ((r 24), .inl (cI, 3, .inl (va_up (va_up pl 0 (nI 0)) (0 + 1) (nI 0)))), ((r 26), .inl (cI, 3, .inl (nF (va_up sn 0 0))))] H := hP
  have hD : va_D A [zR r 0 0 0 0, ((r 18), .inl (cZ, 3, .inl (bF (va_up (va_up dw 0 false) (0 + 1) false)))), ((r 20), .inl (cI, 3, .inl (nF (va_up (va_up lg 0 0) (0 + 1) 0)))), ((r 21), .inl (cI, 3, .inl (nF (va_up (va_up ler 0 0) (0 + 1) 0)))), ((r 22), .inl (cI, 3, .inl (oF (va_up (va_up lt 0 none) (0 + 1) none)))), ((r 23), .inl (cI, 3, .inl (oF (va_up (va_up sd 0 none) (0 + 1) none)))), ((r 24), .inl (cI, 3, .inl (va_up (va_up pl 0 (nI 0)) (0 + 1) (nI 0)))), ((r 26), .inl (cI, 3, .inl (nF (va_up sn 0 0))))] := hD
  refine lv_aload_n hx hb dc_R_renew_69 rfl (lv_at hl 1 rfl) ?_
  refine va_get (D := (dC, dI)) (ci := 4) (v := .ref (r 26)) (C := cn_R) (T := ft_R) (N := 27) hx hb htb ki_R hown hK hP 0 rfl rfl 26 (by decide) (htb _ kw_396) (fun _ h9 => h9) rfl dc_R_renew_70 ?_
  refine lv_iload_n hx hb dc_R_renew_73 rfl (lv_at hl 0 rfl) ?_
  refine lv_iconst (v := nI 0) hx hb dc_R_renew_74 (by decide) ?_
  refine wa_nst (k := 0 + 1) (x := 0) hx hb hK hP hD hS 7 0 rfl rfl (by omega) (by omega) dc_R_renew_75 (fun H locs hP hD hS => ?_)
  have hP : va_P (dC, dI) clsL [zR r 0 0 0 0, ((r 18), .inl (cZ, 3, .inl (bF (va_up (va_up dw 0 false) (0 + 1) false)))), ((r 20), .inl (cI, 3, .inl (nF (va_up (va_up lg 0 0) (0 + 1) 0)))), ((r 21), .inl (cI, 3, .inl (nF (va_up (va_up ler 0 0) (0 + 1) 0)))), ((r 22), .inl (cI, 3, .inl (oF (va_up (va_up lt 0 none) (0 + 1) none)))), ((r 23), .inl (cI, 3, .inl (oF (va_up (va_up sd 0 none) (0 + 1) none)))), ((r 24), .inl (cI, 3, .inl (va_up (va_up pl 0 (nI 0)) (0 + 1) (nI 0)))), ((r 26), .inl (cI, 3, .inl (nF (va_up (va_up sn 0 0) (0 + 1) 0))))] H := hP
  have hD : va_D A [zR r 0 0 0 0, ((r 18), .inl (cZ, 3, .inl (bF (va_up (va_up dw 0 false) (0 + 1) false)))), ((r 20), .inl (cI, 3, .inl (nF (va_up (va_up lg 0 0) (0 + 1) 0)))), ((r 21), .inl (cI, 3, .inl (nF (va_up (va_up ler 0 0) (0 + 1) 0)))), ((r 22), .inl (cI, 3, .inl (oF (va_up (va_up lt 0 none) (0 + 1) none)))), ((r 23), .inl (cI, 3, .inl (oF (va_up (va_up sd 0 none) (0 + 1) none)))), ((r 24), .inl (cI, 3, .inl (va_up (va_up pl 0 (nI 0)) (0 + 1) (nI 0)))), ((r 26), .inl (cI, 3, .inl (nF (va_up (va_up sn 0 0) (0 + 1) 0))))] := hD
  refine lv_iinc (k := 0) (v := nI (0 + 1 + 1)) (lv' := [(1, .int (nI (0 + 1 + 1))), (0, .ref (r 0))]) hx hb dc_R_renew_76 hl rfl (nI_inc1 _) (by decide) rfl (fun ls hl => ?_)
  refine lv_goto (tgt := 22) hx hb dc_R_renew_79 (by decide) ?_
  refine lv_iload_n hx hb dc_R_renew_22 rfl (lv_at hl 0 rfl) ?_
  refine lv_iconst (v := nI 3) hx hb dc_R_renew_23 (by decide) ?_
  refine lv_icmp_ge (tgt := 82) hx hb dc_R_renew_24 (by decide) (fun hc => ?_) (fun hc => ?_)
  · have h24 : 3 ≤ (0 + 1 + 1) := (nI_leI (by omega) (by omega)).mp hc
    exact absurd h24 (by omega)
  have h24 : (0 + 1 + 1) < 3 := Nat.lt_of_not_le (fun h9 => hc ((nI_leI (by omega) (by omega)).mpr h9))
  refine lv_aload_n hx hb dc_R_renew_27 rfl (lv_at hl 1 rfl) ?_
  refine va_get (D := (dC, dI)) (ci := 4) (v := .ref (r 18)) (C := cn_R) (T := ft_R) (N := 27) hx hb htb ki_R hown hK hP 0 rfl rfl 18 (by decide) (htb _ kw_388) (fun _ h9 => h9) rfl dc_R_renew_28 ?_
  refine lv_iload_n hx hb dc_R_renew_31 rfl (lv_at hl 0 rfl) ?_
  refine lv_iconst (v := nI 0) hx hb dc_R_renew_32 (by decide) ?_
  refine tp_i (y := bI false) (rfl) ?_
  refine wa_bst (k := 0 + 1 + 1) (x := false) hx hb hK hP hD hS 1 2 rfl rfl (by omega) (by omega) dc_R_renew_33 (fun H locs hP hD hS => ?_)
  have hP : va_P (dC, dI) clsL [zR r 0 0 0 0, ((r 18), .inl (cZ, 3, .inl (bF (va_up (va_up (va_up dw 0 false) (0 + 1) false) (0 + 1 + 1) false)))), ((r 20), .inl (cI, 3, .inl (nF (va_up (va_up lg 0 0) (0 + 1) 0)))), ((r 21), .inl (cI, 3, .inl (nF (va_up (va_up ler 0 0) (0 + 1) 0)))), ((r 22), .inl (cI, 3, .inl (oF (va_up (va_up lt 0 none) (0 + 1) none)))), ((r 23), .inl (cI, 3, .inl (oF (va_up (va_up sd 0 none) (0 + 1) none)))), ((r 24), .inl (cI, 3, .inl (va_up (va_up pl 0 (nI 0)) (0 + 1) (nI 0)))), ((r 26), .inl (cI, 3, .inl (nF (va_up (va_up sn 0 0) (0 + 1) 0))))] H := hP
  have hD : va_D A [zR r 0 0 0 0, ((r 18), .inl (cZ, 3, .inl (bF (va_up (va_up (va_up dw 0 false) (0 + 1) false) (0 + 1 + 1) false)))), ((r 20), .inl (cI, 3, .inl (nF (va_up (va_up lg 0 0) (0 + 1) 0)))), ((r 21), .inl (cI, 3, .inl (nF (va_up (va_up ler 0 0) (0 + 1) 0)))), ((r 22), .inl (cI, 3, .inl (oF (va_up (va_up lt 0 none) (0 + 1) none)))), ((r 23), .inl (cI, 3, .inl (oF (va_up (va_up sd 0 none) (0 + 1) none)))), ((r 24), .inl (cI, 3, .inl (va_up (va_up pl 0 (nI 0)) (0 + 1) (nI 0)))), ((r 26), .inl (cI, 3, .inl (nF (va_up (va_up sn 0 0) (0 + 1) 0))))] := hD
  refine lv_aload_n hx hb dc_R_renew_34 rfl (lv_at hl 1 rfl) ?_
  refine va_get (D := (dC, dI)) (ci := 4) (v := .ref (r 20)) (C := cn_R) (T := ft_R) (N := 27) hx hb htb ki_R hown hK hP 0 rfl rfl 20 (by decide) (htb _ kw_390) (fun _ h9 => h9) rfl dc_R_renew_35 ?_
  refine lv_iload_n hx hb dc_R_renew_38 rfl (lv_at hl 0 rfl) ?_
  refine lv_iconst (v := nI 0) hx hb dc_R_renew_39 (by decide) ?_
  refine wa_nst (k := 0 + 1 + 1) (x := 0) hx hb hK hP hD hS 2 0 rfl rfl (by omega) (by omega) dc_R_renew_40 (fun H locs hP hD hS => ?_)
  have hP : va_P (dC, dI) clsL [zR r 0 0 0 0, ((r 18), .inl (cZ, 3, .inl (bF (va_up (va_up (va_up dw 0 false) (0 + 1) false) (0 + 1 + 1) false)))), ((r 20), .inl (cI, 3, .inl (nF (va_up (va_up (va_up lg 0 0) (0 + 1) 0) (0 + 1 + 1) 0)))), ((r 21), .inl (cI, 3, .inl (nF (va_up (va_up ler 0 0) (0 + 1) 0)))), ((r 22), .inl (cI, 3, .inl (oF (va_up (va_up lt 0 none) (0 + 1) none)))), ((r 23), .inl (cI, 3, .inl (oF (va_up (va_up sd 0 none) (0 + 1) none)))), ((r 24), .inl (cI, 3, .inl (va_up (va_up pl 0 (nI 0)) (0 + 1) (nI 0)))), ((r 26), .inl (cI, 3, .inl (nF (va_up (va_up sn 0 0) (0 + 1) 0))))] H := hP
  have hD : va_D A [zR r 0 0 0 0, ((r 18), .inl (cZ, 3, .inl (bF (va_up (va_up (va_up dw 0 false) (0 + 1) false) (0 + 1 + 1) false)))), ((r 20), .inl (cI, 3, .inl (nF (va_up (va_up (va_up lg 0 0) (0 + 1) 0) (0 + 1 + 1) 0)))), ((r 21), .inl (cI, 3, .inl (nF (va_up (va_up ler 0 0) (0 + 1) 0)))), ((r 22), .inl (cI, 3, .inl (oF (va_up (va_up lt 0 none) (0 + 1) none)))), ((r 23), .inl (cI, 3, .inl (oF (va_up (va_up sd 0 none) (0 + 1) none)))), ((r 24), .inl (cI, 3, .inl (va_up (va_up pl 0 (nI 0)) (0 + 1) (nI 0)))), ((r 26), .inl (cI, 3, .inl (nF (va_up (va_up sn 0 0) (0 + 1) 0))))] := hD
  refine lv_aload_n hx hb dc_R_renew_41 rfl (lv_at hl 1 rfl) ?_
  refine va_get (D := (dC, dI)) (ci := 4) (v := .ref (r 21)) (C := cn_R) (T := ft_R) (N := 27) hx hb htb ki_R hown hK hP 0 rfl rfl 21 (by decide) (htb _ kw_391) (fun _ h9 => h9) rfl dc_R_renew_42 ?_
  refine lv_iload_n hx hb dc_R_renew_45 rfl (lv_at hl 0 rfl) ?_
  refine lv_iconst (v := nI 0) hx hb dc_R_renew_46 (by decide) ?_
  refine wa_nst (k := 0 + 1 + 1) (x := 0) hx hb hK hP hD hS 3 0 rfl rfl (by omega) (by omega) dc_R_renew_47 (fun H locs hP hD hS => ?_)
  have hP : va_P (dC, dI) clsL [zR r 0 0 0 0, ((r 18), .inl (cZ, 3, .inl (bF (va_up (va_up (va_up dw 0 false) (0 + 1) false) (0 + 1 + 1) false)))), ((r 20), .inl (cI, 3, .inl (nF (va_up (va_up (va_up lg 0 0) (0 + 1) 0) (0 + 1 + 1) 0)))), ((r 21), .inl (cI, 3, .inl (nF (va_up (va_up (va_up ler 0 0) (0 + 1) 0) (0 + 1 + 1) 0)))), ((r 22), .inl (cI, 3, .inl (oF (va_up (va_up lt 0 none) (0 + 1) none)))), ((r 23), .inl (cI, 3, .inl (oF (va_up (va_up sd 0 none) (0 + 1) none)))), ((r 24), .inl (cI, 3, .inl (va_up (va_up pl 0 (nI 0)) (0 + 1) (nI 0)))), ((r 26), .inl (cI, 3, .inl (nF (va_up (va_up sn 0 0) (0 + 1) 0))))] H := hP
  have hD : va_D A [zR r 0 0 0 0, ((r 18), .inl (cZ, 3, .inl (bF (va_up (va_up (va_up dw 0 false) (0 + 1) false) (0 + 1 + 1) false)))), ((r 20), .inl (cI, 3, .inl (nF (va_up (va_up (va_up lg 0 0) (0 + 1) 0) (0 + 1 + 1) 0)))), ((r 21), .inl (cI, 3, .inl (nF (va_up (va_up (va_up ler 0 0) (0 + 1) 0) (0 + 1 + 1) 0)))), ((r 22), .inl (cI, 3, .inl (oF (va_up (va_up lt 0 none) (0 + 1) none)))), ((r 23), .inl (cI, 3, .inl (oF (va_up (va_up sd 0 none) (0 + 1) none)))), ((r 24), .inl (cI, 3, .inl (va_up (va_up pl 0 (nI 0)) (0 + 1) (nI 0)))), ((r 26), .inl (cI, 3, .inl (nF (va_up (va_up sn 0 0) (0 + 1) 0))))] := hD
  refine lv_aload_n hx hb dc_R_renew_48 rfl (lv_at hl 1 rfl) ?_
  refine va_get (D := (dC, dI)) (ci := 4) (v := .ref (r 22)) (C := cn_R) (T := ft_R) (N := 27) hx hb htb ki_R hown hK hP 0 rfl rfl 22 (by decide) (htb _ kw_392) (fun _ h9 => h9) rfl dc_R_renew_49 ?_
  refine lv_iload_n hx hb dc_R_renew_52 rfl (lv_at hl 0 rfl) ?_
  refine lv_iconst (v := (-1)) hx hb dc_R_renew_53 (by decide) ?_
  refine tp_i (y := oI none) (rfl) ?_
  refine wa_ost (k := 0 + 1 + 1) (x := none) hx hb hK hP hD hS 4 0 rfl rfl (by omega) (by omega) dc_R_renew_54 (fun H locs hP hD hS => ?_)
  have hP : va_P (dC, dI) clsL [zR r 0 0 0 0, ((r 18), .inl (cZ, 3, .inl (bF (va_up (va_up (va_up dw 0 false) (0 + 1) false) (0 + 1 + 1) false)))), ((r 20), .inl (cI, 3, .inl (nF (va_up (va_up (va_up lg 0 0) (0 + 1) 0) (0 + 1 + 1) 0)))), ((r 21), .inl (cI, 3, .inl (nF (va_up (va_up (va_up ler 0 0) (0 + 1) 0) (0 + 1 + 1) 0)))), ((r 22), .inl (cI, 3, .inl (oF (va_up (va_up (va_up lt 0 none) (0 + 1) none) (0 + 1 + 1) none)))), ((r 23), .inl (cI, 3, .inl (oF (va_up (va_up sd 0 none) (0 + 1) none)))), ((r 24), .inl (cI, 3, .inl (va_up (va_up pl 0 (nI 0)) (0 + 1) (nI 0)))), ((r 26), .inl (cI, 3, .inl (nF (va_up (va_up sn 0 0) (0 + 1) 0))))] H := hP
  have hD : va_D A [zR r 0 0 0 0, ((r 18), .inl (cZ, 3, .inl (bF (va_up (va_up (va_up dw 0 false) (0 + 1) false) (0 + 1 + 1) false)))), ((r 20), .inl (cI, 3, .inl (nF (va_up (va_up (va_up lg 0 0) (0 + 1) 0) (0 + 1 + 1) 0)))), ((r 21), .inl (cI, 3, .inl (nF (va_up (va_up (va_up ler 0 0) (0 + 1) 0) (0 + 1 + 1) 0)))), ((r 22), .inl (cI, 3, .inl (oF (va_up (va_up (va_up lt 0 none) (0 + 1) none) (0 + 1 + 1) none)))), ((r 23), .inl (cI, 3, .inl (oF (va_up (va_up sd 0 none) (0 + 1) none)))), ((r 24), .inl (cI, 3, .inl (va_up (va_up pl 0 (nI 0)) (0 + 1) (nI 0)))), ((r 26), .inl (cI, 3, .inl (nF (va_up (va_up sn 0 0) (0 + 1) 0))))] := hD
  refine lv_aload_n hx hb dc_R_renew_55 rfl (lv_at hl 1 rfl) ?_
  refine va_get (D := (dC, dI)) (ci := 4) (v := .ref (r 23)) (C := cn_R) (T := ft_R) (N := 27) hx hb htb ki_R hown hK hP 0 rfl rfl 23 (by decide) (htb _ kw_393) (fun _ h9 => h9) rfl dc_R_renew_56 ?_
  refine lv_iload_n hx hb dc_R_renew_59 rfl (lv_at hl 0 rfl) ?_
  refine lv_iconst (v := (-1)) hx hb dc_R_renew_60 (by decide) ?_
  refine tp_i (y := oI none) (rfl) ?_
  refine wa_ost (k := 0 + 1 + 1) (x := none) hx hb hK hP hD hS 5 0 rfl rfl (by omega) (by omega) dc_R_renew_61 (fun H locs hP hD hS => ?_)
  have hP : va_P (dC, dI) clsL [zR r 0 0 0 0, ((r 18), .inl (cZ, 3, .inl (bF (va_up (va_up (va_up dw 0 false) (0 + 1) false) (0 + 1 + 1) false)))), ((r 20), .inl (cI, 3, .inl (nF (va_up (va_up (va_up lg 0 0) (0 + 1) 0) (0 + 1 + 1) 0)))), ((r 21), .inl (cI, 3, .inl (nF (va_up (va_up (va_up ler 0 0) (0 + 1) 0) (0 + 1 + 1) 0)))), ((r 22), .inl (cI, 3, .inl (oF (va_up (va_up (va_up lt 0 none) (0 + 1) none) (0 + 1 + 1) none)))), ((r 23), .inl (cI, 3, .inl (oF (va_up (va_up (va_up sd 0 none) (0 + 1) none) (0 + 1 + 1) none)))), ((r 24), .inl (cI, 3, .inl (va_up (va_up pl 0 (nI 0)) (0 + 1) (nI 0)))), ((r 26), .inl (cI, 3, .inl (nF (va_up (va_up sn 0 0) (0 + 1) 0))))] H := hP
  have hD : va_D A [zR r 0 0 0 0, ((r 18), .inl (cZ, 3, .inl (bF (va_up (va_up (va_up dw 0 false) (0 + 1) false) (0 + 1 + 1) false)))), ((r 20), .inl (cI, 3, .inl (nF (va_up (va_up (va_up lg 0 0) (0 + 1) 0) (0 + 1 + 1) 0)))), ((r 21), .inl (cI, 3, .inl (nF (va_up (va_up (va_up ler 0 0) (0 + 1) 0) (0 + 1 + 1) 0)))), ((r 22), .inl (cI, 3, .inl (oF (va_up (va_up (va_up lt 0 none) (0 + 1) none) (0 + 1 + 1) none)))), ((r 23), .inl (cI, 3, .inl (oF (va_up (va_up (va_up sd 0 none) (0 + 1) none) (0 + 1 + 1) none)))), ((r 24), .inl (cI, 3, .inl (va_up (va_up pl 0 (nI 0)) (0 + 1) (nI 0)))), ((r 26), .inl (cI, 3, .inl (nF (va_up (va_up sn 0 0) (0 + 1) 0))))] := hD
  refine lv_aload_n hx hb dc_R_renew_62 rfl (lv_at hl 1 rfl) ?_
  refine va_get (D := (dC, dI)) (ci := 4) (v := .ref (r 24)) (C := cn_R) (T := ft_R) (N := 27) hx hb htb ki_R hown hK hP 0 rfl rfl 24 (by decide) (htb _ kw_394) (fun _ h9 => h9) rfl dc_R_renew_63 ?_
  refine lv_iload_n hx hb dc_R_renew_66 rfl (lv_at hl 0 rfl) ?_
  refine lv_iconst (v := nI 0) hx hb dc_R_renew_67 (by decide) ?_
  refine wa_ist (k := 0 + 1 + 1) (x := nI 0) hx hb hK hP hD hS 6 0 rfl rfl (by omega) (by omega) dc_R_renew_68 (fun H locs hP hD hS => ?_)
  have hP : va_P (dC, dI) clsL [zR r 0 0 0 0, ((r 18), .inl (cZ, 3, .inl (bF (va_up (va_up (va_up dw 0 false) (0 + 1) false) (0 + 1 + 1) false)))), ((r 20), .inl (cI, 3, .inl (nF (va_up (va_up (va_up lg 0 0) (0 + 1) 0) (0 + 1 + 1) 0)))), ((r 21), .inl (cI, 3, .inl (nF (va_up (va_up (va_up ler 0 0) (0 + 1) 0) (0 + 1 + 1) 0)))), ((r 22), .inl (cI, 3, .inl (oF (va_up (va_up (va_up lt 0 none) (0 + 1) none) (0 + 1 + 1) none)))), ((r 23), .inl (cI, 3, .inl (oF (va_up (va_up (va_up sd 0 none) (0 + 1) none) (0 + 1 + 1) none)))), ((r 24), .inl (cI, 3, .inl (va_up (va_up (va_up pl 0 (nI 0)) (0 + 1) (nI 0)) (0 + 1 + 1) (nI 0)))), ((r 26), .inl (cI, 3, .inl (nF (va_up (va_up sn 0 0) (0 + 1) 0))))] H := hP
  have hD : va_D A [zR r 0 0 0 0, ((r 18), .inl (cZ, 3, .inl (bF (va_up (va_up (va_up dw 0 false) (0 + 1) false) (0 + 1 + 1) false)))), ((r 20), .inl (cI, 3, .inl (nF (va_up (va_up (va_up lg 0 0) (0 + 1) 0) (0 + 1 + 1) 0)))), ((r 21), .inl (cI, 3, .inl (nF (va_up (va_up (va_up ler 0 0) (0 + 1) 0) (0 + 1 + 1) 0)))), ((r 22), .inl (cI, 3, .inl (oF (va_up (va_up (va_up lt 0 none) (0 + 1) none) (0 + 1 + 1) none)))), ((r 23), .inl (cI, 3, .inl (oF (va_up (va_up (va_up sd 0 none) (0 + 1) none) (0 + 1 + 1) none)))), ((r 24), .inl (cI, 3, .inl (va_up (va_up (va_up pl 0 (nI 0)) (0 + 1) (nI 0)) (0 + 1 + 1) (nI 0)))), ((r 26), .inl (cI, 3, .inl (nF (va_up (va_up sn 0 0) (0 + 1) 0))))] := hD
  refine lv_aload_n hx hb dc_R_renew_69 rfl (lv_at hl 1 rfl) ?_
  refine va_get (D := (dC, dI)) (ci := 4) (v := .ref (r 26)) (C := cn_R) (T := ft_R) (N := 27) hx hb htb ki_R hown hK hP 0 rfl rfl 26 (by decide) (htb _ kw_396) (fun _ h9 => h9) rfl dc_R_renew_70 ?_
  refine lv_iload_n hx hb dc_R_renew_73 rfl (lv_at hl 0 rfl) ?_
  refine lv_iconst (v := nI 0) hx hb dc_R_renew_74 (by decide) ?_
  refine wa_nst (k := 0 + 1 + 1) (x := 0) hx hb hK hP hD hS 7 0 rfl rfl (by omega) (by omega) dc_R_renew_75 (fun H locs hP hD hS => ?_)
  have hP : va_P (dC, dI) clsL [zR r 0 0 0 0, ((r 18), .inl (cZ, 3, .inl (bF (va_up (va_up (va_up dw 0 false) (0 + 1) false) (0 + 1 + 1) false)))), ((r 20), .inl (cI, 3, .inl (nF (va_up (va_up (va_up lg 0 0) (0 + 1) 0) (0 + 1 + 1) 0)))), ((r 21), .inl (cI, 3, .inl (nF (va_up (va_up (va_up ler 0 0) (0 + 1) 0) (0 + 1 + 1) 0)))), ((r 22), .inl (cI, 3, .inl (oF (va_up (va_up (va_up lt 0 none) (0 + 1) none) (0 + 1 + 1) none)))), ((r 23), .inl (cI, 3, .inl (oF (va_up (va_up (va_up sd 0 none) (0 + 1) none) (0 + 1 + 1) none)))), ((r 24), .inl (cI, 3, .inl (va_up (va_up (va_up pl 0 (nI 0)) (0 + 1) (nI 0)) (0 + 1 + 1) (nI 0)))), ((r 26), .inl (cI, 3, .inl (nF (va_up (va_up (va_up sn 0 0) (0 + 1) 0) (0 + 1 + 1) 0))))] H := hP
  have hD : va_D A [zR r 0 0 0 0, ((r 18), .inl (cZ, 3, .inl (bF (va_up (va_up (va_up dw 0 false) (0 + 1) false) (0 + 1 + 1) false)))), ((r 20), .inl (cI, 3, .inl (nF (va_up (va_up (va_up lg 0 0) (0 + 1) 0) (0 + 1 + 1) 0)))), ((r 21), .inl (cI, 3, .inl (nF (va_up (va_up (va_up ler 0 0) (0 + 1) 0) (0 + 1 + 1) 0)))), ((r 22), .inl (cI, 3, .inl (oF (va_up (va_up (va_up lt 0 none) (0 + 1) none) (0 + 1 + 1) none)))), ((r 23), .inl (cI, 3, .inl (oF (va_up (va_up (va_up sd 0 none) (0 + 1) none) (0 + 1 + 1) none)))), ((r 24), .inl (cI, 3, .inl (va_up (va_up (va_up pl 0 (nI 0)) (0 + 1) (nI 0)) (0 + 1 + 1) (nI 0)))), ((r 26), .inl (cI, 3, .inl (nF (va_up (va_up (va_up sn 0 0) (0 + 1) 0) (0 + 1 + 1) 0))))] := hD
  refine lv_iinc (k := 0) (v := nI (0 + 1 + 1 + 1)) (lv' := [(1, .int (nI (0 + 1 + 1 + 1))), (0, .ref (r 0))]) hx hb dc_R_renew_76 hl rfl (nI_inc1 _) (by decide) rfl (fun ls hl => ?_)
  refine lv_goto (tgt := 22) hx hb dc_R_renew_79 (by decide) ?_
  refine lv_iload_n hx hb dc_R_renew_22 rfl (lv_at hl 0 rfl) ?_
  refine lv_iconst (v := nI 3) hx hb dc_R_renew_23 (by decide) ?_
  refine lv_icmp_ge (tgt := 82) hx hb dc_R_renew_24 (by decide) (fun hc => ?_) (fun hc => ?_)
  rotate_left
  · have h24 : (0 + 1 + 1 + 1) < 3 := Nat.lt_of_not_le (fun h9 => hc ((nI_leI (by omega) (by omega)).mpr h9))
    exact absurd h24 (by omega)
  have h24 : 3 ≤ (0 + 1 + 1 + 1) := (nI_leI (by omega) (by omega)).mp hc
  have hP9 := hP.sub (ws' := [zR r 0 0 0 0, ((r 18), .inl (cZ, 3, .inl (bF (va_up (va_up (va_up dw 0 false) (0 + 1) false) (0 + 1 + 1) false)))), ((r 20), .inl (cI, 3, .inl (nF (va_up (va_up (va_up lg 0 0) (0 + 1) 0) (0 + 1 + 1) 0)))), ((r 21), .inl (cI, 3, .inl (nF (va_up (va_up (va_up ler 0 0) (0 + 1) 0) (0 + 1 + 1) 0)))), ((r 22), .inl (cI, 3, .inl (oF (va_up (va_up (va_up lt 0 none) (0 + 1) none) (0 + 1 + 1) none)))), ((r 23), .inl (cI, 3, .inl (oF (va_up (va_up (va_up sd 0 none) (0 + 1) none) (0 + 1 + 1) none)))), ((r 24), .inl (cI, 3, .inl (va_up (va_up (va_up pl 0 (nI 0)) (0 + 1) (nI 0)) (0 + 1 + 1) (nI 0)))), ((r 26), .inl (cI, 3, .inl (nF (va_up (va_up (va_up sn 0 0) (0 + 1) 0) (0 + 1 + 1) 0))))]) [0, 1, 2, 3, 4, 5, 6, 7] rfl
  have hD9 := hD.sub (ws' := [zR r 0 0 0 0, ((r 18), .inl (cZ, 3, .inl (bF (va_up (va_up (va_up dw 0 false) (0 + 1) false) (0 + 1 + 1) false)))), ((r 20), .inl (cI, 3, .inl (nF (va_up (va_up (va_up lg 0 0) (0 + 1) 0) (0 + 1 + 1) 0)))), ((r 21), .inl (cI, 3, .inl (nF (va_up (va_up (va_up ler 0 0) (0 + 1) 0) (0 + 1 + 1) 0)))), ((r 22), .inl (cI, 3, .inl (oF (va_up (va_up (va_up lt 0 none) (0 + 1) none) (0 + 1 + 1) none)))), ((r 23), .inl (cI, 3, .inl (oF (va_up (va_up (va_up sd 0 none) (0 + 1) none) (0 + 1 + 1) none)))), ((r 24), .inl (cI, 3, .inl (va_up (va_up (va_up pl 0 (nI 0)) (0 + 1) (nI 0)) (0 + 1 + 1) (nI 0)))), ((r 26), .inl (cI, 3, .inl (nF (va_up (va_up (va_up sn 0 0) (0 + 1) 0) (0 + 1 + 1) 0))))]) [0, 1, 2, 3, 4, 5, 6, 7] (by decide) rfl
  exact W.vret hx hb hr (fun t ht hW => ⟨⟨(), rfl, trivial, by rw [ht]; exact hP9, va_K.moved hW.alike hK, hD9⟩, hS.F ht⟩) hS.2.2 dc_R_renew_82

