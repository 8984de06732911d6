/-! THE CLAIM OUT OF ONE WALK OF THE LAW'S BODY. Your part is whole_start (and what it stands on); all else here is the same for every law, but numbers. -/
def R_law : String := "OrphanRuntimeLaw"
def lw_P (b : Addr) (xs : List Int32) (args : Array Value) (s : State) : Prop := args = #[.ref b] ∧ s.IntsAt b xs ∧ xs.length ≤ 1536 ∧ (Jvm.Cond.and given_1 narrow_1).before args s = true
def lw_Q (_ : Array Value) (s : State) (o : Outcome) (t : State) : Prop := o = .returned (some (.int 1)) ∧ Framed s o t [] 600000 7302250
def lw_Z (below : List Frame) (a : Array Value) (s : State) : State → Prop := fun t => ∃ o, t.status = .running ∧ Ended t below o ∧ lw_Q a s o t
/-- the law's own end, with 1 on the stack, nothing written that was there before, its room as the claim has it -/
theorem lw_ret {p : Program} {l : Launch} {e : Env} {s : State} {m : MethodId} {below : List Frame} {meth : Method} {c : Code} {b : Nat} (hx : p.tables.exec = Jvm.exec) (hb : c.code = code) (hr : meth.sig.returnType = ret) (hlocks : meth.locks = false) {pc : Nat} {H : Heap} {ls : Array Slot} (hdg : decode code pc = .ok (.ireturn, 1)) : W p l e room_1 s m #[Value.ref b] below meth c H [] 600000 7302250 (lw_Z below #[Value.ref b] s) (F0 m pc ls [.int 1]) := by
  intro T hT X
  obtain ⟨fs, hret, hrun, hended, hW, hframe⟩ := X.leave (v := some (.int 1)) (hlocks := hlocks) (fun h => by rw [hr] at h; cases h)
  have hmeth' : T.vm.method? m = some meth := X.method'
  refine ⟨T.setFrames fs, ?_, .returned (some (.int 1)), hrun, hended, rfl, ⟨_, rfl⟩, hW, hframe⟩
  jvm_step X.here [X.here.top, hx, hb, hdg, hmeth', hr, ret, narrow_b1]
  (try refine ⟨rfl, ?_⟩); (try refine ⟨rfl, ?_⟩)
  first | (intro acts; rw [hret _ acts rfl rfl rfl]) | rw [hret _ _ rfl rfl rfl]
  exact Steps.refl _
/-- what holds at the law's entry: the machine, the code, the tables' words (any of lw_tbl by 'hts w (by decide +kernel)'), the script of L ints xs at the cell b, what the Statement gives of the start (any of its parts by flat_of_before) -/
def lw_At (p : Program) (s : State) (m : MethodId) (meth : Method) (c : Code) (b L : Nat) (xs : Nat → Int32) : Prop :=
  p.tables.exec = Jvm.exec ∧ c.code = code ∧ meth.sig.returnType = ret ∧ c.maxLocals = 4 ∧ s.vm.findClass R_law = some m.cls ∧ (∀ w ∈ lw_tbl, w.before #[Value.ref b] s = true) ∧ va_X b L xs s s.heap ∧ b < s.heap.size ∧ meth.locks = false ∧ (Jvm.Cond.and given_1 narrow_1).before #[Value.ref b] s = true
theorem ic_3 (x : Nat) : nI x + Int32.ofInt 3 = nI (x + 3) := nI_add x 3
set_option maxHeartbeats 4000000 in
set_option maxRecDepth 100000 in
theorem whole_start {p : Program} {e : Env} {s : State} {m : MethodId} {below : List Frame} {meth : Method} {c : Code} (l : Launch) {b L : Nat} {xs : Nat → Int32} (hL : L ≤ 1536) (C0 : lw_At p s m meth c b L xs) : W p l e room_1 s m #[Value.ref b] below meth c s.heap [] 0 0 (lw_Z below #[Value.ref b] s) (entryFrame m ([Value.ref b] : List Value).toArray 4) := by
  obtain ⟨hx, hb, hr, hml, hown, hts, hScr, hbl, hlocks, hgv⟩ := C0
  have htb : ∀ w ∈ gtbl, w.before _ s = true := fun w h => hts w (kg_lw h)
  have hown : s.vm.findClass cn_L = some m.cls := hown
  have hX : xO s := ⟨va_Nw.of rfl (hts _ kw_18), va_Nw.of rfl (hts _ kw_68), va_Nw.of rfl (hts _ kw_107), va_AO.of (hts _ kw_16)⟩
  obtain ⟨c0, d0, k0⟩ := u_known (C := cn_I) (T := ft_I) (N := 8) htb ki_I (htb _ kw_67)
  obtain ⟨c1, d1, k1⟩ := u_known (C := cn_M) (T := ft_M) (N := 7) htb ki_M (htb _ kw_106)
  obtain ⟨c2, d2, k2⟩ := u_known (C := cn_P) (T := ft_P) (N := 11) htb ki_P (htb _ kw_17)
  obtain ⟨c3, d3, k3⟩ := u_known (C := cn_O) (T := ft_O) (N := 4) htb ki_O (htb _ kw_8)
  obtain ⟨c4, d4, k4⟩ := u_known (C := cn_R) (T := ft_R) (N := 27) htb ki_R (htb _ kw_361)
  obtain ⟨cI, ygI, yqI, yaI, ybI, yeI⟩ := Cond.arrayClass_spec (htb _ kw_65)
  obtain ⟨cJ, ygJ, yqJ, yaJ, ybJ, yeJ⟩ := Cond.arrayClass_spec (htb _ kw_104)
  obtain ⟨cZ, ygZ, yqZ, yaZ, ybZ, yeZ⟩ := Cond.arrayClass_spec (htb _ kw_452)
  obtain ⟨yqP, cP, ygP, yaP, _, ybP, yeP, yfP⟩ := Cond.arrayOver_spec (hts _ kw_16)
  obtain ⟨dC, hdC⟩ : ∃ dC : Nat → ClassId, dC = fun i => [c0, c1, c2, c3, c4].getD i c0 := ⟨_, rfl⟩
  obtain ⟨dI, hdI⟩ : ∃ dI : Nat → Nat → Nat, dI = fun i => [d0, d1, d2, d3, d4].getD i d0 := ⟨_, rfl⟩
  have hK : va_K (dC, dI) clsL (TYS cI cJ cZ cP) s := by
    subst hdC; subst hdI
    refine ⟨fun i q hq => ?_, fun i q hq => ?_⟩
    · rcases i with _ | _ | _ | _ | _ | i
      · obtain rfl := Option.some.inj hq; exact k0
      · obtain rfl := Option.some.inj hq; exact k1
      · obtain rfl := Option.some.inj hq; exact k2
      · obtain rfl := Option.some.inj hq; exact k3
      · obtain rfl := Option.some.inj hq; exact k4
      · cases hq
    · rcases i with _ | _ | _ | _ | i
      · obtain rfl := Option.some.inj hq; exact ⟨fun _ _ => ⟨(fun _ h => by cases h), ygI, ybI, yqI, yeI⟩, yaI⟩
      · obtain rfl := Option.some.inj hq; exact ⟨fun _ _ => ⟨(fun _ h => by cases h), ygJ, ybJ, yqJ, yeJ⟩, yaJ⟩
      · obtain rfl := Option.some.inj hq; exact ⟨fun _ _ => ⟨(fun _ h => by cases h), ygZ, ybZ, yqZ, yeZ⟩, yaZ⟩
      · obtain rfl := Option.some.inj hq; exact ⟨fun _ _ => ⟨(fun _ h => by cases h), ygP, ybP, yqP, yeP⟩, ygP, yqP, ybP, yeP, yaP, yfP⟩
      · cases hq
  obtain ⟨A, hAe⟩ : ∃ A : Nat → Prop, A = fun q => s.heap.size ≤ q := ⟨_, rfl⟩
  have hA : ∀ q : Nat, s.heap.size ≤ q → A q := fun q h => by rw [hAe]; exact h
  have hbA : ¬ A b := by rw [hAe]; exact Nat.not_le.mpr hbl
  have hS : va_S A s.heap s.heap [] := va_S.rf
  have hP : va_P (dC, dI) clsL [] s.heap := fun k q h => by cases h
  have hD : va_D A [] := ⟨(fun i j p q h => by cases h), (fun k q h => by cases h)⟩
  have hl := lv_entry ([.ref b]) (n := 4) (Nat.le_of_ble_eq_true rfl)
  rw [lg_entry_eq]
  generalize (lg_sl ([.ref b]) ++ List.replicate (4 - (lg_sl ([.ref b])).length) Slot.unset).toArray = ls at hl ⊢
  have hl : lv_has ls 4 [(0, .ref b)] := hl
  refine va_new (D := (dC, dI)) (ci := 3) (fs := [.null, .null, .null, .int (nI 0)]) (C := cn_O) (T := ft_O) (N := 4) hx hb htb ki_O fy_O fy_O_ok hown (htb _ kw_7) (htb _ kw_8) (htb _ kw_1) hK hP hD hS hA rfl df_O (Nat.le_of_ble_eq_true rfl) (Nat.le_of_ble_eq_true rfl) dc_L_law_0 (fun p1 H hP hD hS => ?_)
  have hP : va_P (dC, dI) clsL [(p1, .inr (3, [.null, .null, .null, .int (nI 0)]))] H := hP
  have hD : va_D A [(p1, .inr (3, [.null, .null, .null, .int (nI 0)]))] := hD
  refine lv_dup hx hb dc_L_law_3 rfl ?_
  refine cl_vn (wc := [(p1, .inr (3, [.null, .null, .null, .int (nI 0)]))]) (wr := []) (w2 := (fun (u_1 : Nat → Nat) => [zO p1 (u_1 0) (u_1 10) (u_1 15) 0, ((u_1 0), .inl (cP, 3, .inr (.inr (.inr (.inr (va_up (va_up (va_up (fun _ => none) 0 (some (u_1 1))) (0 + 1) (some (u_1 4))) (0 + 1 + 1) (some (u_1 7)))))))), ((u_1 1), .inr (2, [.ref (u_1 2), .ref (u_1 3), .int (bI false), .int (nI 0), .int (nI 0), .int (nI 0), .long 0, .long 0, .int (nI 0), .int (nI 0), .int (nI 0)])), ((u_1 2), .inl (cI, 40, .inl (nF (fun _ => 0)))), ((u_1 3), .inl (cI, 40, .inl (fun _ => nI 0))), ((u_1 4), .inr (2, [.ref (u_1 5), .ref (u_1 6), .int (bI false), .int (nI 0), .int (nI 0), .int (nI 0), .long 0, .long 0, .int (nI 0), .int (nI 0), .int (nI 0)])), ((u_1 5), .inl (cI, 40, .inl (nF (fun _ => 0)))), ((u_1 6), .inl (cI, 40, .inl (fun _ => nI 0))), ((u_1 7), .inr (2, [.ref (u_1 8), .ref (u_1 9), .int (bI false), .int (nI 0), .int (nI 0), .int (nI 0), .long 0, .long 0, .int (nI 0), .int (nI 0), .int (nI 0)])), ((u_1 8), .inl (cI, 40, .inl (nF (fun _ => 0)))), ((u_1 9), .inl (cI, 40, .inl (fun _ => nI 0))), zI (u_1 10) (u_1 11) (u_1 12) (u_1 13) (u_1 14) 0 0 0 0, ((u_1 11), .inl (cI, 40, .inl (fun _ => nI 0))), ((u_1 12), .inl (cI, 40, .inl (nF (fun _ => 0)))), ((u_1 13), .inl (cI, 40, .inl (oF (fun _ => some 0)))), ((u_1 14), .inl (cJ, 40, .inr (.inl (fun _ => 0)))), zM (u_1 15) (u_1 16) (u_1 17) (u_1 18) (u_1 19) (u_1 20) 0 0, ((u_1 16), .inl (cI, 104, .inl (fun _ => nI 0))), ((u_1 17), .inl (cI, 104, .inl (nF (fun _ => 0)))), ((u_1 18), .inl (cI, 104, .inl (oF (fun _ => some 0)))), ((u_1 19), .inl (cI, 104, .inl (nF (fun _ => 0)))), ((u_1 20), .inl (cI, 104, .inl (nF (fun _ => 0))))])) hP hD hS hA [0] [] rfl rfl (by decide) (by decide) (va_runI (As := []) (rest := [.ref p1]) ⟨hx, hb, hml, hown, htb⟩ (oc_O_init l dC dI cI cJ cZ cP _ p1 ) (cwI 0 htb (gw_T kw_11) rfl rfl rfl (htb _ kw_1) (htb _ kw_9) (htb _ kw_10) rfl (by decide +kernel) ⟨Nat.le_of_ble_eq_true rfl, Nat.le_of_ble_eq_true rfl⟩) (pr_SX hX hP hK hD [0] (by decide) rfl rfl) rfl rfl hl.1 rfl (lv_room (Nat.le_of_ble_eq_true rfl)) dc_L_law_4 ⟨Nat.le_of_ble_eq_true rfl, Nat.le_of_ble_eq_true rfl⟩) (fun u_1 H locs hP hD hS => ?_)
  have hP : va_P (dC, dI) clsL [zO p1 (u_1 0) (u_1 10) (u_1 15) 0, ((u_1 0), .inl (cP, 3, .inr (.inr (.inr (.inr (va_up (va_up (va_up (fun _ => none) 0 (some (u_1 1))) (0 + 1) (some (u_1 4))) (0 + 1 + 1) (some (u_1 7)))))))), ((u_1 1), .inr (2, [.ref (u_1 2), .ref (u_1 3), .int (bI false), .int (nI 0), .int (nI 0), .int (nI 0), .long 0, .long 0, .int (nI 0), .int (nI 0), .int (nI 0)])), ((u_1 2), .inl (cI, 40, .inl (nF (fun _ => 0)))), ((u_1 3), .inl (cI, 40, .inl (fun _ => nI 0))), ((u_1 4), .inr (2, [.ref (u_1 5), .ref (u_1 6), .int (bI false), .int (nI 0), .int (nI 0), .int (nI 0), .long 0, .long 0, .int (nI 0), .int (nI 0), .int (nI 0)])), ((u_1 5), .inl (cI, 40, .inl (nF (fun _ => 0)))), ((u_1 6), .inl (cI, 40, .inl (fun _ => nI 0))), ((u_1 7), .inr (2, [.ref (u_1 8), .ref (u_1 9), .int (bI false), .int (nI 0), .int (nI 0), .int (nI 0), .long 0, .long 0, .int (nI 0), .int (nI 0), .int (nI 0)])), ((u_1 8), .inl (cI, 40, .inl (nF (fun _ => 0)))), ((u_1 9), .inl (cI, 40, .inl (fun _ => nI 0))), zI (u_1 10) (u_1 11) (u_1 12) (u_1 13) (u_1 14) 0 0 0 0, ((u_1 11), .inl (cI, 40, .inl (fun _ => nI 0))), ((u_1 12), .inl (cI, 40, .inl (nF (fun _ => 0)))), ((u_1 13), .inl (cI, 40, .inl (oF (fun _ => some 0)))), ((u_1 14), .inl (cJ, 40, .inr (.inl (fun _ => 0)))), zM (u_1 15) (u_1 16) (u_1 17) (u_1 18) (u_1 19) (u_1 20) 0 0, ((u_1 16), .inl (cI, 104, .inl (fun _ => nI 0))), ((u_1 17), .inl (cI, 104, .inl (nF (fun _ => 0)))), ((u_1 18), .inl (cI, 104, .inl (oF (fun _ => some 0)))), ((u_1 19), .inl (cI, 104, .inl (nF (fun _ => 0)))), ((u_1 20), .inl (cI, 104, .inl (nF (fun _ => 0))))] H := hP.sub (ws' := [zO p1 (u_1 0) (u_1 10) (u_1 15) 0, ((u_1 0), .inl (cP, 3, .inr (.inr (.inr (.inr (va_up (va_up (va_up (fun _ => none) 0 (some (u_1 1))) (0 + 1) (some (u_1 4))) (0 + 1 + 1) (some (u_1 7)))))))), ((u_1 1), .inr (2, [.ref (u_1 2), .ref (u_1 3), .int (bI false), .int (nI 0), .int (nI 0), .int (nI 0), .long 0, .long 0, .int (nI 0), .int (nI 0), .int (nI 0)])), ((u_1 2), .inl (cI, 40, .inl (nF (fun _ => 0)))), ((u_1 3), .inl (cI, 40, .inl (fun _ => nI 0))), ((u_1 4), .inr (2, [.ref (u_1 5), .ref (u_1 6), .int (bI false), .int (nI 0), .int (nI 0), .int (nI 0), .long 0, .long 0, .int (nI 0), .int (nI 0), .int (nI 0)])), ((u_1 5), .inl (cI, 40, .inl (nF (fun _ => 0)))), ((u_1 6), .inl (cI, 40, .inl (fun _ => nI 0))), ((u_1 7), .inr (2, [.ref (u_1 8), .ref (u_1 9), .int (bI false), .int (nI 0), .int (nI 0), .int (nI 0), .long 0, .long 0, .int (nI 0), .int (nI 0), .int (nI 0)])), ((u_1 8), .inl (cI, 40, .inl (nF (fun _ => 0)))), ((u_1 9), .inl (cI, 40, .inl (fun _ => nI 0))), zI (u_1 10) (u_1 11) (u_1 12) (u_1 13) (u_1 14) 0 0 0 0, ((u_1 11), .inl (cI, 40, .inl (fun _ => nI 0))), ((u_1 12), .inl (cI, 40, .inl (nF (fun _ => 0)))), ((u_1 13), .inl (cI, 40, .inl (oF (fun _ => some 0)))), ((u_1 14), .inl (cJ, 40, .inr (.inl (fun _ => 0)))), zM (u_1 15) (u_1 16) (u_1 17) (u_1 18) (u_1 19) (u_1 20) 0 0, ((u_1 16), .inl (cI, 104, .inl (fun _ => nI 0))), ((u_1 17), .inl (cI, 104, .inl (nF (fun _ => 0)))), ((u_1 18), .inl (cI, 104, .inl (oF (fun _ => some 0)))), ((u_1 19), .inl (cI, 104, .inl (nF (fun _ => 0)))), ((u_1 20), .inl (cI, 104, .inl (nF (fun _ => 0))))]) [0, 1, 2, 3, 4, 5, 6, 7, 8, 9, 10, 11, 12, 13, 14, 15, 16, 17, 18, 19, 20, 21] rfl
  have hD : va_D A [zO p1 (u_1 0) (u_1 10) (u_1 15) 0, ((u_1 0), .inl (cP, 3, .inr (.inr (.inr (.inr (va_up (va_up (va_up (fun _ => none) 0 (some (u_1 1))) (0 + 1) (some (u_1 4))) (0 + 1 + 1) (some (u_1 7)))))))), ((u_1 1), .inr (2, [.ref (u_1 2), .ref (u_1 3), .int (bI false), .int (nI 0), .int (nI 0), .int (nI 0), .long 0, .long 0, .int (nI 0), .int (nI 0), .int (nI 0)])), ((u_1 2), .inl (cI, 40, .inl (nF (fun _ => 0)))), ((u_1 3), .inl (cI, 40, .inl (fun _ => nI 0))), ((u_1 4), .inr (2, [.ref (u_1 5), .ref (u_1 6), .int (bI false), .int (nI 0), .int (nI 0), .int (nI 0), .long 0, .long 0, .int (nI 0), .int (nI 0), .int (nI 0)])), ((u_1 5), .inl (cI, 40, .inl (nF (fun _ => 0)))), ((u_1 6), .inl (cI, 40, .inl (fun _ => nI 0))), ((u_1 7), .inr (2, [.ref (u_1 8), .ref (u_1 9), .int (bI false), .int (nI 0), .int (nI 0), .int (nI 0), .long 0, .long 0, .int (nI 0), .int (nI 0), .int (nI 0)])), ((u_1 8), .inl (cI, 40, .inl (nF (fun _ => 0)))), ((u_1 9), .inl (cI, 40, .inl (fun _ => nI 0))), zI (u_1 10) (u_1 11) (u_1 12) (u_1 13) (u_1 14) 0 0 0 0, ((u_1 11), .inl (cI, 40, .inl (fun _ => nI 0))), ((u_1 12), .inl (cI, 40, .inl (nF (fun _ => 0)))), ((u_1 13), .inl (cI, 40, .inl (oF (fun _ => some 0)))), ((u_1 14), .inl (cJ, 40, .inr (.inl (fun _ => 0)))), zM (u_1 15) (u_1 16) (u_1 17) (u_1 18) (u_1 19) (u_1 20) 0 0, ((u_1 16), .inl (cI, 104, .inl (fun _ => nI 0))), ((u_1 17), .inl (cI, 104, .inl (nF (fun _ => 0)))), ((u_1 18), .inl (cI, 104, .inl (oF (fun _ => some 0)))), ((u_1 19), .inl (cI, 104, .inl (nF (fun _ => 0)))), ((u_1 20), .inl (cI, 104, .inl (nF (fun _ => 0))))] := hD.sub (ws' := [zO p1 (u_1 0) (u_1 10) (u_1 15) 0, ((u_1 0), .inl (cP, 3, .inr (.inr (.inr (.inr (va_up (va_up (va_up (fun _ => none) 0 (some (u_1 1))) (0 + 1) (some (u_1 4))) (0 + 1 + 1) (some (u_1 7)))))))), ((u_1 1), .inr (2, [.ref (u_1 2), .ref (u_1 3), .int (bI false), .int (nI 0), .int (nI 0), .int (nI 0), .long 0, .long 0, .int (nI 0), .int (nI 0), .int (nI 0)])), ((u_1 2), .inl (cI, 40, .inl (nF (fun _ => 0)))), ((u_1 3), .inl (cI, 40, .inl (fun _ => nI 0))), ((u_1 4), .inr (2, [.ref (u_1 5), .ref (u_1 6), .int (bI false), .int (nI 0), .int (nI 0), .int (nI 0), .long 0, .long 0, .int (nI 0), .int (nI 0), .int (nI 0)])), ((u_1 5), .inl (cI, 40, .inl (nF (fun _ => 0)))), ((u_1 6), .inl (cI, 40, .inl (fun _ => nI 0))), ((u_1 7), .inr (2, [.ref (u_1 8), .ref (u_1 9), .int (bI false), .int (nI 0), .int (nI 0), .int (nI 0), .long 0, .long 0, .int (nI 0), .int (nI 0), .int (nI 0)])), ((u_1 8), .inl (cI, 40, .inl (nF (fun _ => 0)))), ((u_1 9), .inl (cI, 40, .inl (fun _ => nI 0))), zI (u_1 10) (u_1 11) (u_1 12) (u_1 13) (u_1 14) 0 0 0 0, ((u_1 11), .inl (cI, 40, .inl (fun _ => nI 0))), ((u_1 12), .inl (cI, 40, .inl (nF (fun _ => 0)))), ((u_1 13), .inl (cI, 40, .inl (oF (fun _ => some 0)))), ((u_1 14), .inl (cJ, 40, .inr (.inl (fun _ => 0)))), zM (u_1 15) (u_1 16) (u_1 17) (u_1 18) (u_1 19) (u_1 20) 0 0, ((u_1 16), .inl (cI, 104, .inl (fun _ => nI 0))), ((u_1 17), .inl (cI, 104, .inl (nF (fun _ => 0)))), ((u_1 18), .inl (cI, 104, .inl (oF (fun _ => some 0)))), ((u_1 19), .inl (cI, 104, .inl (nF (fun _ => 0)))), ((u_1 20), .inl (cI, 104, .inl (nF (fun _ => 0))))]) [0, 1, 2, 3, 4, 5, 6, 7, 8, 9, 10, 11, 12, 13, 14, 15, 16, 17, 18, 19, 20, 21] (by decide) rfl
  refine lv_astore_n (lv' := [(1, .ref p1), (0, .ref b)]) hx hb dc_L_law_7 rfl hl (by decide) rfl (fun ls hl => ?_)
  refine va_new (D := (dC, dI)) (ci := 4) (fs := [.int (nI 0), .null, .null, .null, .null, .null, .null, .null, .null, .null, .int (nI 0), .int (nI 0), .null, .null, .null, .null, .null, .int (nI 0), .null, .null, .null, .null, .null, .null, .null, .null, .null]) (C := cn_R) (T := ft_R) (N := 27) hx hb htb ki_R fy_R fy_R_ok hown (htb _ kw_360) (htb _ kw_361) (htb _ kw_5) hK hP hD hS hA rfl df_R (Nat.le_of_ble_eq_true rfl) (Nat.le_of_ble_eq_true rfl) dc_L_law_8 (fun p2 H hP hD hS => ?_)
  have hP : va_P (dC, dI) clsL [zO p1 (u_1 0) (u_1 10) (u_1 15) 0, ((u_1 0), .inl (cP, 3, .inr (.inr (.inr (.inr (va_up (va_up (va_up (fun _ => none) 0 (some (u_1 1))) (0 + 1) (some (u_1 4))) (0 + 1 + 1) (some (u_1 7)))))))), ((u_1 1), .inr (2, [.ref (u_1 2), .ref (u_1 3), .int (bI false), .int (nI 0), .int (nI 0), .int (nI 0), .long 0, .long 0, .int (nI 0), .int (nI 0), .int (nI 0)])), ((u_1 2), .inl (cI, 40, .inl (nF (fun _ => 0)))), ((u_1 3), .inl (cI, 40, .inl (fun _ => nI 0))), ((u_1 4), .inr (2, [.ref (u_1 5), .ref (u_1 6), .int (bI false), .int (nI 0), .int (nI 0), .int (nI 0), .long 0, .long 0, .int (nI 0), .int (nI 0), .int (nI 0)])), ((u_1 5), .inl (cI, 40, .inl (nF (fun _ => 0)))), ((u_1 6), .inl (cI, 40, .inl (fun _ => nI 0))), ((u_1 7), .inr (2, [.ref (u_1 8), .ref (u_1 9), .int (bI false), .int (nI 0), .int (nI 0), .int (nI 0), .long 0, .long 0, .int (nI 0), .int (nI 0), .int (nI 0)])), ((u_1 8), .inl (cI, 40, .inl (nF (fun _ => 0)))), ((u_1 9), .inl (cI, 40, .inl (fun _ => nI 0))), zI (u_1 10) (u_1 11) (u_1 12) (u_1 13) (u_1 14) 0 0 0 0, ((u_1 11), .inl (cI, 40, .inl (fun _ => nI 0))), ((u_1 12), .inl (cI, 40, .inl (nF (fun _ => 0)))), ((u_1 13), .inl (cI, 40, .inl (oF (fun _ => some 0)))), ((u_1 14), .inl (cJ, 40, .inr (.inl (fun _ => 0)))), zM (u_1 15) (u_1 16) (u_1 17) (u_1 18) (u_1 19) (u_1 20) 0 0, ((u_1 16), .inl (cI, 104, .inl (fun _ => nI 0))), ((u_1 17), .inl (cI, 104, .inl (nF (fun _ => 0)))), ((u_1 18), .inl (cI, 104, .inl (oF (fun _ => some 0)))), ((u_1 19), .inl (cI, 104, .inl (nF (fun _ => 0)))), ((u_1 20), .inl (cI, 104, .inl (nF (fun _ => 0)))), (p2, .inr (4, [.int (nI 0), .null, .null, .null, .null, .null, .null, .null, .null, .null, .int (nI 0), .int (nI 0), .null, .null, .null, .null, .null, .int (nI 0), .null, .null, .null, .null, .null, .null, .null, .null, .null]))] H := hP
  have hD : va_D A [zO p1 (u_1 0) (u_1 10) (u_1 15) 0, ((u_1 0), .inl (cP, 3, .inr (.inr (.inr (.inr (va_up (va_up (va_up (fun _ => none) 0 (some (u_1 1))) (0 + 1) (some (u_1 4))) (0 + 1 + 1) (some (u_1 7)))))))), ((u_1 1), .inr (2, [.ref (u_1 2), .ref (u_1 3), .int (bI false), .int (nI 0), .int (nI 0), .int (nI 0), .long 0, .long 0, .int (nI 0), .int (nI 0), .int (nI 0)])), ((u_1 2), .inl (cI, 40, .inl (nF (fun _ => 0)))), ((u_1 3), .inl (cI, 40, .inl (fun _ => nI 0))), ((u_1 4), .inr (2, [.ref (u_1 5), .ref (u_1 6), .int (bI false), .int (nI 0), .int (nI 0), .int (nI 0), .long 0, .long 0, .int (nI 0), .int (nI 0), .int (nI 0)])), ((u_1 5), .inl (cI, 40, .inl (nF (fun _ => 0)))), ((u_1 6), .inl (cI, 40, .inl (fun _ => nI 0))), ((u_1 7), .inr (2, [.ref (u_1 8), .ref (u_1 9), .int (bI false), .int (nI 0), .int (nI 0), .int (nI 0), .long 0, .long 0, .int (nI 0), .int (nI 0), .int (nI 0)])), ((u_1 8), .inl (cI, 40, .inl (nF (fun _ => 0)))), ((u_1 9), .inl (cI, 40, .inl (fun _ => nI 0))), zI (u_1 10) (u_1 11) (u_1 12) (u_1 13) (u_1 14) 0 0 0 0, ((u_1 11), .inl (cI, 40, .inl (fun _ => nI 0))), ((u_1 12), .inl (cI, 40, .inl (nF (fun _ => 0)))), ((u_1 13), .inl (cI, 40, .inl (oF (fun _ => some 0)))), ((u_1 14), .inl (cJ, 40, .inr (.inl (fun _ => 0)))), zM (u_1 15) (u_1 16) (u_1 17) (u_1 18) (u_1 19) (u_1 20) 0 0, ((u_1 16), .inl (cI, 104, .inl (fun _ => nI 0))), ((u_1 17), .inl (cI, 104, .inl (nF (fun _ => 0)))), ((u_1 18), .inl (cI, 104, .inl (oF (fun _ => some 0)))), ((u_1 19), .inl (cI, 104, .inl (nF (fun _ => 0)))), ((u_1 20), .inl (cI, 104, .inl (nF (fun _ => 0)))), (p2, .inr (4, [.int (nI 0), .null, .null, .null, .null, .null, .null, .null, .null, .null, .int (nI 0), .int (nI 0), .null, .null, .null, .null, .null, .int (nI 0), .null, .null, .null, .null, .null, .null, .null, .null, .null]))] := hD
  refine lv_dup hx hb dc_L_law_11 rfl ?_
  refine cl_vn (wc := [(p2, .inr (4, [.int (nI 0), .null, .null, .null, .null, .null, .null, .null, .null, .null, .int (nI 0), .int (nI 0), .null, .null, .null, .null, .null, .int (nI 0), .null, .null, .null, .null, .null, .null, .null, .null, .null]))]) (wr := [zO p1 (u_1 0) (u_1 10) (u_1 15) 0, ((u_1 0), .inl (cP, 3, .inr (.inr (.inr (.inr (va_up (va_up (va_up (fun _ => none) 0 (some (u_1 1))) (0 + 1) (some (u_1 4))) (0 + 1 + 1) (some (u_1 7)))))))), ((u_1 1), .inr (2, [.ref (u_1 2), .ref (u_1 3), .int (bI false), .int (nI 0), .int (nI 0), .int (nI 0), .long 0, .long 0, .int (nI 0), .int (nI 0), .int (nI 0)])), ((u_1 2), .inl (cI, 40, .inl (nF (fun _ => 0)))), ((u_1 3), .inl (cI, 40, .inl (fun _ => nI 0))), ((u_1 4), .inr (2, [.ref (u_1 5), .ref (u_1 6), .int (bI false), .int (nI 0), .int (nI 0), .int (nI 0), .long 0, .long 0, .int (nI 0), .int (nI 0), .int (nI 0)])), ((u_1 5), .inl (cI, 40, .inl (nF (fun _ => 0)))), ((u_1 6), .inl (cI, 40, .inl (fun _ => nI 0))), ((u_1 7), .inr (2, [.ref (u_1 8), .ref (u_1 9), .int (bI false), .int (nI 0), .int (nI 0), .int (nI 0), .long 0, .long 0, .int (nI 0), .int (nI 0), .int (nI 0)])), ((u_1 8), .inl (cI, 40, .inl (nF (fun _ => 0)))), ((u_1 9), .inl (cI, 40, .inl (fun _ => nI 0))), zI (u_1 10) (u_1 11) (u_1 12) (u_1 13) (u_1 14) 0 0 0 0, ((u_1 11), .inl (cI, 40, .inl (fun _ => nI 0))), ((u_1 12), .inl (cI, 40, .inl (nF (fun _ => 0)))), ((u_1 13), .inl (cI, 40, .inl (oF (fun _ => some 0)))), ((u_1 14), .inl (cJ, 40, .inr (.inl (fun _ => 0)))), zM (u_1 15) (u_1 16) (u_1 17) (u_1 18) (u_1 19) (u_1 20) 0 0, ((u_1 16), .inl (cI, 104, .inl (fun _ => nI 0))), ((u_1 17), .inl (cI, 104, .inl (nF (fun _ => 0)))), ((u_1 18), .inl (cI, 104, .inl (oF (fun _ => some 0)))), ((u_1 19), .inl (cI, 104, .inl (nF (fun _ => 0)))), ((u_1 20), .inl (cI, 104, .inl (nF (fun _ => 0))))]) (w2 := (fun (u_2 : Nat → Nat) => [(p2, .inr (4, [.int (nI 0), .ref (u_2 1), .ref (u_2 2), .ref (u_2 3), .ref (u_2 4), .ref (u_2 5), .ref (u_2 6), .ref (u_2 7), .ref (u_2 8), .ref (u_2 9), .int (nI 0), .int (nI 0), .ref (u_2 12), .ref (u_2 13), .ref (u_2 14), .ref (u_2 15), .ref (u_2 16), .int (nI 0), .ref (u_2 18), .ref (u_2 19), .ref (u_2 20), .ref (u_2 21), .ref (u_2 22), .ref (u_2 23), .ref (u_2 24), .ref (u_2 25), .ref (u_2 26)])), ((u_2 1), .inl (cI, 40, .inl (oF (fun _ => some 0)))), ((u_2 2), .inl (cI, 40, .inl (nF (fun _ => 0)))), ((u_2 3), .inl (cI, 40, .inl (fun _ => nI 0))), ((u_2 4), .inl (cZ, 40, .inl (bF (fun _ => false)))), ((u_2 5), .inl (cZ, 40, .inl (bF (fun _ => false)))), ((u_2 6), .inl (cI, 40, .inl (nF (fun _ => 0)))), ((u_2 7), .inl (cI, 40, .inl (oF (fun _ => some 0)))), ((u_2 8), .inl (cZ, 40, .inl (bF (fun _ => false)))), ((u_2 9), .inl (cZ, 40, .inl (bF (fun _ => false)))), ((u_2 12), .inl (cI, 104, .inl (fun _ => nI 0))), ((u_2 13), .inl (cI, 104, .inl (nF (fun _ => 0)))), ((u_2 14), .inl (cI, 104, .inl (nF (fun _ => 0)))), ((u_2 15), .inl (cI, 104, .inl (oF (fun _ => some 0)))), ((u_2 16), .inl (cI, 104, .inl (nF (fun _ => 0)))), ((u_2 18), .inl (cZ, 3, .inl (bF (va_up (va_up (va_up (fun _ => false) 0 false) (0 + 1) false) (0 + 1 + 1) false)))), ((u_2 19), .inl (cI, 120, .inl (nF (fun _ => 0)))), ((u_2 20), .inl (cI, 3, .inl (nF (va_up (va_up (va_up (fun _ => 0) 0 0) (0 + 1) 0) (0 + 1 + 1) 0)))), ((u_2 21), .inl (cI, 3, .inl (nF (va_up (va_up (va_up (fun _ => 0) 0 0) (0 + 1) 0) (0 + 1 + 1) 0)))), ((u_2 22), .inl (cI, 3, .inl (oF (va_up (va_up (va_up (fun _ => some 0) 0 none) (0 + 1) none) (0 + 1 + 1) none)))), ((u_2 23), .inl (cI, 3, .inl (oF (va_up (va_up (va_up (fun _ => some 0) 0 none) (0 + 1) none) (0 + 1 + 1) none)))), ((u_2 24), .inl (cI, 3, .inl (va_up (va_up (va_up (fun _ => nI 0) 0 (nI 0)) (0 + 1) (nI 0)) (0 + 1 + 1) (nI 0)))), ((u_2 25), .inl (cI, 120, .inl (fun _ => nI 0))), ((u_2 26), .inl (cI, 3, .inl (nF (va_up (va_up (va_up (fun _ => 0) 0 0) (0 + 1) 0) (0 + 1 + 1) 0))))])) hP hD hS hA [22] [0, 1, 2, 3, 4, 5, 6, 7, 8, 9, 10, 11, 12, 13, 14, 15, 16, 17, 18, 19, 20, 21] rfl rfl (by decide) (by decide) (va_runI (As := []) (rest := [.ref p2]) ⟨hx, hb, hml, hown, htb⟩ (oc_R_made l dC dI cI cJ cZ cP _ p2 ) (cwI 0 htb (gw_T kw_364) rfl rfl rfl (htb _ kw_5) (htb _ kw_362) (htb _ kw_363) rfl (by decide +kernel) ⟨Nat.le_of_ble_eq_true rfl, Nat.le_of_ble_eq_true rfl⟩) (pr_S hP hK hD [22] (by decide) rfl rfl) rfl rfl hl.1 rfl (lv_room (Nat.le_of_ble_eq_true rfl)) dc_L_law_12 ⟨Nat.le_of_ble_eq_true rfl, Nat.le_of_ble_eq_true rfl⟩) (fun u_2 H locs hP hD hS => ?_)
  have hP : va_P (dC, dI) clsL [zO p1 (u_1 0) (u_1 10) (u_1 15) 0, ((u_1 0), .inl (cP, 3, .inr (.inr (.inr (.inr (va_up (va_up (va_up (fun _ => none) 0 (some (u_1 1))) (0 + 1) (some (u_1 4))) (0 + 1 + 1) (some (u_1 7)))))))), ((u_1 1), .inr (2, [.ref (u_1 2), .ref (u_1 3), .int (bI false), .int (nI 0), .int (nI 0), .int (nI 0), .long 0, .long 0, .int (nI 0), .int (nI 0), .int (nI 0)])), ((u_1 2), .inl (cI, 40, .inl (nF (fun _ => 0)))), ((u_1 3), .inl (cI, 40, .inl (fun _ => nI 0))), ((u_1 4), .inr (2, [.ref (u_1 5), .ref (u_1 6), .int (bI false), .int (nI 0), .int (nI 0), .int (nI 0), .long 0, .long 0, .int (nI 0), .int (nI 0), .int (nI 0)])), ((u_1 5), .inl (cI, 40, .inl (nF (fun _ => 0)))), ((u_1 6), .inl (cI, 40, .inl (fun _ => nI 0))), ((u_1 7), .inr (2, [.ref (u_1 8), .ref (u_1 9), .int (bI false), .int (nI 0), .int (nI 0), .int (nI 0), .long 0, .long 0, .int (nI 0), .int (nI 0), .int (nI 0)])), ((u_1 8), .inl (cI, 40, .inl (nF (fun _ => 0)))), ((u_1 9), .inl (cI, 40, .inl (fun _ => nI 0))), zI (u_1 10) (u_1 11) (u_1 12) (u_1 13) (u_1 14) 0 0 0 0, ((u_1 11), .inl (cI, 40, .inl (fun _ => nI 0))), ((u_1 12), .inl (cI, 40, .inl (nF (fun _ => 0)))), ((u_1 13), .inl (cI, 40, .inl (oF (fun _ => some 0)))), ((u_1 14), .inl (cJ, 40, .inr (.inl (fun _ => 0)))), zM (u_1 15) (u_1 16) (u_1 17) (u_1 18) (u_1 19) (u_1 20) 0 0, ((u_1 16), .inl (cI, 104, .inl (fun _ => nI 0))), ((u_1 17), .inl (cI, 104, .inl (nF (fun _ => 0)))), ((u_1 18), .inl (cI, 104, .inl (oF (fun _ => some 0)))), ((u_1 19), .inl (cI, 104, .inl (nF (fun _ => 0)))), ((u_1 20), .inl (cI, 104, .inl (nF (fun _ => 0)))), (p2, .inr (4, [.int (nI 0), .ref (u_2 1), .ref (u_2 2), .ref (u_2 3), .ref (u_2 4), .ref (u_2 5), .ref (u_2 6), .ref (u_2 7), .ref (u_2 8), .ref (u_2 9), .int (nI 0), .int (nI 0), .ref (u_2 12), .ref (u_2 13), .ref (u_2 14), .ref (u_2 15), .ref (u_2 16), .int (nI 0), .ref (u_2 18), .ref (u_2 19), .ref (u_2 20), .ref (u_2 21), .ref (u_2 22), .ref (u_2 23), .ref (u_2 24), .ref (u_2 25), .ref (u_2 26)])), ((u_2 1), .inl (cI, 40, .inl (oF (fun _ => some 0)))), ((u_2 2), .inl (cI, 40, .inl (nF (fun _ => 0)))), ((u_2 3), .inl (cI, 40, .inl (fun _ => nI 0))), ((u_2 4), .inl (cZ, 40, .inl (bF (fun _ => false)))), ((u_2 5), .inl (cZ, 40, .inl (bF (fun _ => false)))), ((u_2 6), .inl (cI, 40, .inl (nF (fun _ => 0)))), ((u_2 7), .inl (cI, 40, .inl (oF (fun _ => some 0)))), ((u_2 8), .inl (cZ, 40, .inl (bF (fun _ => false)))), ((u_2 9), .inl (cZ, 40, .inl (bF (fun _ => false)))), ((u_2 12), .inl (cI, 104, .inl (fun _ => nI 0))), ((u_2 13), .inl (cI, 104, .inl (nF (fun _ => 0)))), ((u_2 14), .inl (cI, 104, .inl (nF (fun _ => 0)))), ((u_2 15), .inl (cI, 104, .inl (oF (fun _ => some 0)))), ((u_2 16), .inl (cI, 104, .inl (nF (fun _ => 0)))), ((u_2 18), .inl (cZ, 3, .inl (bF (va_up (va_up (va_up (fun _ => false) 0 false) (0 + 1) false) (0 + 1 + 1) false)))), ((u_2 19), .inl (cI, 120, .inl (nF (fun _ => 0)))), ((u_2 20), .inl (cI, 3, .inl (nF (va_up (va_up (va_up (fun _ => 0) 0 0) (0 + 1) 0) (0 + 1 + 1) 0)))), ((u_2 21), .inl (cI, 3, .inl (nF (va_up (va_up (va_up (fun _ => 0) 0 0) (0 + 1) 0) (0 + 1 + 1) 0)))), ((u_2 22), .inl (cI, 3, .inl (oF (va_up (va_up (va_up (fun _ => some 0) 0 none) (0 + 1) none) (0 + 1 + 1) none)))), ((u_2 23), .inl (cI, 3, .inl (oF (va_up (va_up (va_up (fun _ => some 0) 0 none) (0 + 1) none) (0 + 1 + 1) none)))), ((u_2 24), .inl (cI, 3, .inl (va_up (va_up (va_up (fun _ => nI 0) 0 (nI 0)) (0 + 1) (nI 0)) (0 + 1 + 1) (nI 0)))), ((u_2 25), .inl (cI, 120, .inl (fun _ => nI 0))), ((u_2 26), .inl (cI, 3, .inl (nF (va_up (va_up (va_up (fun _ => 0) 0 0) (0 + 1) 0) (0 + 1 + 1) 0))))] H := hP.sub (ws' := [zO p1 (u_1 0) (u_1 10) (u_1 15) 0, ((u_1 0), .inl (cP, 3, .inr (.inr (.inr (.inr (va_up (va_up (va_up (fun _ => none) 0 (some (u_1 1))) (0 + 1) (some (u_1 4))) (0 + 1 + 1) (some (u_1 7)))))))), ((u_1 1), .inr (2, [.ref (u_1 2), .ref (u_1 3), .int (bI false), .int (nI 0), .int (nI 0), .int (nI 0), .long 0, .long 0, .int (nI 0), .int (nI 0), .int (nI 0)])), ((u_1 2), .inl (cI, 40, .inl (nF (fun _ => 0)))), ((u_1 3), .inl (cI, 40, .inl (fun _ => nI 0))), ((u_1 4), .inr (2, [.ref (u_1 5), .ref (u_1 6), .int (bI false), .int (nI 0), .int (nI 0), .int (nI 0), .long 0, .long 0, .int (nI 0), .int (nI 0), .int (nI 0)])), ((u_1 5), .inl (cI, 40, .inl (nF (fun _ => 0)))), ((u_1 6), .inl (cI, 40, .inl (fun _ => nI 0))), ((u_1 7), .inr (2, [.ref (u_1 8), .ref (u_1 9), .int (bI false), .int (nI 0), .int (nI 0), .int (nI 0), .long 0, .long 0, .int (nI 0), .int (nI 0), .int (nI 0)])), ((u_1 8), .inl (cI, 40, .inl (nF (fun _ => 0)))), ((u_1 9), .inl (cI, 40, .inl (fun _ => nI 0))), zI (u_1 10) (u_1 11) (u_1 12) (u_1 13) (u_1 14) 0 0 0 0, ((u_1 11), .inl (cI, 40, .inl (fun _ => nI 0))), ((u_1 12), .inl (cI, 40, .inl (nF (fun _ => 0)))), ((u_1 13), .inl (cI, 40, .inl (oF (fun _ => some 0)))), ((u_1 14), .inl (cJ, 40, .inr (.inl (fun _ => 0)))), zM (u_1 15) (u_1 16) (u_1 17) (u_1 18) (u_1 19) (u_1 20) 0 0, ((u_1 16), .inl (cI, 104, .inl (fun _ => nI 0))), ((u_1 17), .inl (cI, 104, .inl (nF (fun _ => 0)))), ((u_1 18), .inl (cI, 104, .inl (oF (fun _ => some 0)))), ((u_1 19), .inl (cI, 104, .inl (nF (fun _ => 0)))), ((u_1 20), .inl (cI, 104, .inl (nF (fun _ => 0)))), (p2, .inr (4, [.int (nI 0), .ref (u_2 1), .ref (u_2 2), .ref (u_2 3), .ref (u_2 4), .ref (u_2 5), .ref (u_2 6), .ref (u_2 7), .ref (u_2 8), .ref (u_2 9), .int (nI 0), .int (nI 0), .ref (u_2 12), .ref (u_2 13), .ref (u_2 14), .ref (u_2 15), .ref (u_2 16), .int (nI 0), .ref (u_2 18), .ref (u_2 19), .ref (u_2 20), .ref (u_2 21), .ref (u_2 22), .ref (u_2 23), .ref (u_2 24), .ref (u_2 25), .ref (u_2 26)])), ((u_2 1), .inl (cI, 40, .inl (oF (fun _ => some 0)))), ((u_2 2), .inl (cI, 40, .inl (nF (fun _ => 0)))), ((u_2 3), .inl (cI, 40, .inl (fun _ => nI 0))), ((u_2 4), .inl (cZ, 40, .inl (bF (fun _ => false)))), ((u_2 5), .inl (cZ, 40, .inl (bF (fun _ => false)))), ((u_2 6), .inl (cI, 40, .inl (nF (fun _ => 0)))), ((u_2 7), .inl (cI, 40, .inl (oF (fun _ => some 0)))), ((u_2 8), .inl (cZ, 40, .inl (bF (fun _ => false)))), ((u_2 9), .inl (cZ, 40, .inl (bF (fun _ => false)))), ((u_2 12), .inl (cI, 104, .inl (fun _ => nI 0))), ((u_2 13), .inl (cI, 104, .inl (nF (fun _ => 0)))), ((u_2 14), .inl (cI, 104, .inl (nF (fun _ => 0)))), ((u_2 15), .inl (cI, 104, .inl (oF (fun _ => some 0)))), ((u_2 16), .inl (cI, 104, .inl (nF (fun _ => 0)))), ((u_2 18), .inl (cZ, 3, .inl (bF (va_up (va_up (va_up (fun _ => false) 0 false) (0 + 1) false) (0 + 1 + 1) false)))), ((u_2 19), .inl (cI, 120, .inl (nF (fun _ => 0)))), ((u_2 20), .inl (cI, 3, .inl (nF (va_up (va_up (va_up (fun _ => 0) 0 0) (0 + 1) 0) (0 + 1 + 1) 0)))), ((u_2 21), .inl (cI, 3, .inl (nF (va_up (va_up (va_up (fun _ => 0) 0 0) (0 + 1) 0) (0 + 1 + 1) 0)))), ((u_2 22), .inl (cI, 3, .inl (oF (va_up (va_up (va_up (fun _ => some 0) 0 none) (0 + 1) none) (0 + 1 + 1) none)))), ((u_2 23), .inl (cI, 3, .inl (oF (va_up (va_up (va_up (fun _ => some 0) 0 none) (0 + 1) none) (0 + 1 + 1) none)))), ((u_2 24), .inl (cI, 3, .inl (va_up (va_up (va_up (fun _ => nI 0) 0 (nI 0)) (0 + 1) (nI 0)) (0 + 1 + 1) (nI 0)))), ((u_2 25), .inl (cI, 120, .inl (fun _ => nI 0))), ((u_2 26), .inl (cI, 3, .inl (nF (va_up (va_up (va_up (fun _ => 0) 0 0) (0 + 1) 0) (0 + 1 + 1) 0))))]) [0, 1, 2, 3, 4, 5, 6, 7, 8, 9, 10, 11, 12, 13, 14, 15, 16, 17, 18, 19, 20, 21, 22, 23, 24, 25, 26, 27, 28, 29, 30, 31, 32, 33, 34, 35, 36, 37, 38, 39, 40, 41, 42, 43, 44, 45] rfl
  have hD : va_D A [zO p1 (u_1 0) (u_1 10) (u_1 15) 0, ((u_1 0), .inl (cP, 3, .inr (.inr (.inr (.inr (va_up (va_up (va_up (fun _ => none) 0 (some (u_1 1))) (0 + 1) (some (u_1 4))) (0 + 1 + 1) (some (u_1 7)))))))), ((u_1 1), .inr (2, [.ref (u_1 2), .ref (u_1 3), .int (bI false), .int (nI 0), .int (nI 0), .int (nI 0), .long 0, .long 0, .int (nI 0), .int (nI 0), .int (nI 0)])), ((u_1 2), .inl (cI, 40, .inl (nF (fun _ => 0)))), ((u_1 3), .inl (cI, 40, .inl (fun _ => nI 0))), ((u_1 4), .inr (2, [.ref (u_1 5), .ref (u_1 6), .int (bI false), .int (nI 0), .int (nI 0), .int (nI 0), .long 0, .long 0, .int (nI 0), .int (nI 0), .int (nI 0)])), ((u_1 5), .inl (cI, 40, .inl (nF (fun _ => 0)))), ((u_1 6), .inl (cI, 40, .inl (fun _ => nI 0))), ((u_1 7), .inr (2, [.ref (u_1 8), .ref (u_1 9), .int (bI false), .int (nI 0), .int (nI 0), .int (nI 0), .long 0, .long 0, .int (nI 0), .int (nI 0), .int (nI 0)])), ((u_1 8), .inl (cI, 40, .inl (nF (fun _ => 0)))), ((u_1 9), .inl (cI, 40, .inl (fun _ => nI 0))), zI (u_1 10) (u_1 11) (u_1 12) (u_1 13) (u_1 14) 0 0 0 0, ((u_1 11), .inl (cI, 40, .inl (fun _ => nI 0))), ((u_1 12), .inl (cI, 40, .inl (nF (fun _ => 0)))), ((u_1 13), .inl (cI, 40, .inl (oF (fun _ => some 0)))), ((u_1 14), .inl (cJ, 40, .inr (.inl (fun _ => 0)))), zM (u_1 15) (u_1 16) (u_1 17) (u_1 18) (u_1 19) (u_1 20) 0 0, ((u_1 16), .inl (cI, 104, .inl (fun _ => nI 0))), ((u_1 17), .inl (cI, 104, .inl (nF (fun _ => 0)))), ((u_1 18), .inl (cI, 104, .inl (oF (fun _ => some 0)))), ((u_1 19), .inl (cI, 104, .inl (nF (fun _ => 0)))), ((u_1 20), .inl (cI, 104, .inl (nF (fun _ => 0)))), (p2, .inr (4, [.int (nI 0), .ref (u_2 1), .ref (u_2 2), .ref (u_2 3), .ref (u_2 4), .ref (u_2 5), .ref (u_2 6), .ref (u_2 7), .ref (u_2 8), .ref (u_2 9), .int (nI 0), .int (nI 0), .ref (u_2 12), .ref (u_2 13), .ref (u_2 14), .ref (u_2 15), .ref (u_2 16), .int (nI 0), .ref (u_2 18), .ref (u_2 19), .ref (u_2 20), .ref (u_2 21), .ref (u_2 22), .ref (u_2 23), .ref (u_2 24), .ref (u_2 25), .ref (u_2 26)])), ((u_2 1), .inl (cI, 40, .inl (oF (fun _ => some 0)))), ((u_2 2), .inl (cI, 40, .inl (nF (fun _ => 0)))), ((u_2 3), .inl (cI, 40, .inl (fun _ => nI 0))), ((u_2 4), .inl (cZ, 40, .inl (bF (fun _ => false)))), ((u_2 5), .inl (cZ, 40, .inl (bF (fun _ => false)))), ((u_2 6), .inl (cI, 40, .inl (nF (fun _ => 0)))), ((u_2 7), .inl (cI, 40, .inl (oF (fun _ => some 0)))), ((u_2 8), .inl (cZ, 40, .inl (bF (fun _ => false)))), ((u_2 9), .inl (cZ, 40, .inl (bF (fun _ => false)))), ((u_2 12), .inl (cI, 104, .inl (fun _ => nI 0))), ((u_2 13), .inl (cI, 104, .inl (nF (fun _ => 0)))), ((u_2 14), .inl (cI, 104, .inl (nF (fun _ => 0)))), ((u_2 15), .inl (cI, 104, .inl (oF (fun _ => some 0)))), ((u_2 16), .inl (cI, 104, .inl (nF (fun _ => 0)))), ((u_2 18), .inl (cZ, 3, .inl (bF (va_up (va_up (va_up (fun _ => false) 0 false) (0 + 1) false) (0 + 1 + 1) false)))), ((u_2 19), .inl (cI, 120, .inl (nF (fun _ => 0)))), ((u_2 20), .inl (cI, 3, .inl (nF (va_up (va_up (va_up (fun _ => 0) 0 0) (0 + 1) 0) (0 + 1 + 1) 0)))), ((u_2 21), .inl (cI, 3, .inl (nF (va_up (va_up (va_up (fun _ => 0) 0 0) (0 + 1) 0) (0 + 1 + 1) 0)))), ((u_2 22), .inl (cI, 3, .inl (oF (va_up (va_up (va_up (fun _ => some 0) 0 none) (0 + 1) none) (0 + 1 + 1) none)))), ((u_2 23), .inl (cI, 3, .inl (oF (va_up (va_up (va_up (fun _ => some 0) 0 none) (0 + 1) none) (0 + 1 + 1) none)))), ((u_2 24), .inl (cI, 3, .inl (va_up (va_up (va_up (fun _ => nI 0) 0 (nI 0)) (0 + 1) (nI 0)) (0 + 1 + 1) (nI 0)))), ((u_2 25), .inl (cI, 120, .inl (fun _ => nI 0))), ((u_2 26), .inl (cI, 3, .inl (nF (va_up (va_up (va_up (fun _ => 0) 0 0) (0 + 1) 0) (0 + 1 + 1) 0))))] := hD.sub (ws' := [zO p1 (u_1 0) (u_1 10) (u_1 15) 0, ((u_1 0), .inl (cP, 3, .inr (.inr (.inr (.inr (va_up (va_up (va_up (fun _ => none) 0 (some (u_1 1))) (0 + 1) (some (u_1 4))) (0 + 1 + 1) (some (u_1 7)))))))), ((u_1 1), .inr (2, [.ref (u_1 2), .ref (u_1 3), .int (bI false), .int (nI 0), .int (nI 0), .int (nI 0), .long 0, .long 0, .int (nI 0), .int (nI 0), .int (nI 0)])), ((u_1 2), .inl (cI, 40, .inl (nF (fun _ => 0)))), ((u_1 3), .inl (cI, 40, .inl (fun _ => nI 0))), ((u_1 4), .inr (2, [.ref (u_1 5), .ref (u_1 6), .int (bI false), .int (nI 0), .int (nI 0), .int (nI 0), .long 0, .long 0, .int (nI 0), .int (nI 0), .int (nI 0)])), ((u_1 5), .inl (cI, 40, .inl (nF (fun _ => 0)))), ((u_1 6), .inl (cI, 40, .inl (fun _ => nI 0))), ((u_1 7), .inr (2, [.ref (u_1 8), .ref (u_1 9), .int (bI false), .int (nI 0), .int (nI 0), .int (nI 0), .long 0, .long 0, .int (nI 0), .int (nI 0), .int (nI 0)])), ((u_1 8), .inl (cI, 40, .inl (nF (fun _ => 0)))), ((u_1 9), .inl (cI, 40, .inl (fun _ => nI 0))), zI (u_1 10) (u_1 11) (u_1 12) (u_1 13) (u_1 14) 0 0 0 0, ((u_1 11), .inl (cI, 40, .inl (fun _ => nI 0))), ((u_1 12), .inl (cI, 40, .inl (nF (fun _ => 0)))), ((u_1 13), .inl (cI, 40, .inl (oF (fun _ => some 0)))), ((u_1 14), .inl (cJ, 40, .inr (.inl (fun _ => 0)))), zM (u_1 15) (u_1 16) (u_1 17) (u_1 18) (u_1 19) (u_1 20) 0 0, ((u_1 16), .inl (cI, 104, .inl (fun _ => nI 0))), ((u_1 17), .inl (cI, 104, .inl (nF (fun _ => 0)))), ((u_1 18), .inl (cI, 104, .inl (oF (fun _ => some 0)))), ((u_1 19), .inl (cI, 104, .inl (nF (fun _ => 0)))), ((u_1 20), .inl (cI, 104, .inl (nF (fun _ => 0)))), (p2, .inr (4, [.int (nI 0), .ref (u_2 1), .ref (u_2 2), .ref (u_2 3), .ref (u_2 4), .ref (u_2 5), .ref (u_2 6), .ref (u_2 7), .ref (u_2 8), .ref (u_2 9), .int (nI 0), .int (nI 0), .ref (u_2 12), .ref (u_2 13), .ref (u_2 14), .ref (u_2 15), .ref (u_2 16), .int (nI 0), .ref (u_2 18), .ref (u_2 19), .ref (u_2 20), .ref (u_2 21), .ref (u_2 22), .ref (u_2 23), .ref (u_2 24), .ref (u_2 25), .ref (u_2 26)])), ((u_2 1), .inl (cI, 40, .inl (oF (fun _ => some 0)))), ((u_2 2), .inl (cI, 40, .inl (nF (fun _ => 0)))), ((u_2 3), .inl (cI, 40, .inl (fun _ => nI 0))), ((u_2 4), .inl (cZ, 40, .inl (bF (fun _ => false)))), ((u_2 5), .inl (cZ, 40, .inl (bF (fun _ => false)))), ((u_2 6), .inl (cI, 40, .inl (nF (fun _ => 0)))), ((u_2 7), .inl (cI, 40, .inl (oF (fun _ => some 0)))), ((u_2 8), .inl (cZ, 40, .inl (bF (fun _ => false)))), ((u_2 9), .inl (cZ, 40, .inl (bF (fun _ => false)))), ((u_2 12), .inl (cI, 104, .inl (fun _ => nI 0))), ((u_2 13), .inl (cI, 104, .inl (nF (fun _ => 0)))), ((u_2 14), .inl (cI, 104, .inl (nF (fun _ => 0)))), ((u_2 15), .inl (cI, 104, .inl (oF (fun _ => some 0)))), ((u_2 16), .inl (cI, 104, .inl (nF (fun _ => 0)))), ((u_2 18), .inl (cZ, 3, .inl (bF (va_up (va_up (va_up (fun _ => false) 0 false) (0 + 1) false) (0 + 1 + 1) false)))), ((u_2 19), .inl (cI, 120, .inl (nF (fun _ => 0)))), ((u_2 20), .inl (cI, 3, .inl (nF (va_up (va_up (va_up (fun _ => 0) 0 0) (0 + 1) 0) (0 + 1 + 1) 0)))), ((u_2 21), .inl (cI, 3, .inl (nF (va_up (va_up (va_up (fun _ => 0) 0 0) (0 + 1) 0) (0 + 1 + 1) 0)))), ((u_2 22), .inl (cI, 3, .inl (oF (va_up (va_up (va_up (fun _ => some 0) 0 none) (0 + 1) none) (0 + 1 + 1) none)))), ((u_2 23), .inl (cI, 3, .inl (oF (va_up (va_up (va_up (fun _ => some 0) 0 none) (0 + 1) none) (0 + 1 + 1) none)))), ((u_2 24), .inl (cI, 3, .inl (va_up (va_up (va_up (fun _ => nI 0) 0 (nI 0)) (0 + 1) (nI 0)) (0 + 1 + 1) (nI 0)))), ((u_2 25), .inl (cI, 120, .inl (fun _ => nI 0))), ((u_2 26), .inl (cI, 3, .inl (nF (va_up (va_up (va_up (fun _ => 0) 0 0) (0 + 1) 0) (0 + 1 + 1) 0))))]) [0, 1, 2, 3, 4, 5, 6, 7, 8, 9, 10, 11, 12, 13, 14, 15, 16, 17, 18, 19, 20, 21, 22, 23, 24, 25, 26, 27, 28, 29, 30, 31, 32, 33, 34, 35, 36, 37, 38, 39, 40, 41, 42, 43, 44, 45] (by decide) rfl
  refine lv_astore_n (lv' := [(2, .ref p2), (1, .ref p1), (0, .ref b)]) hx hb dc_L_law_15 rfl hl (by decide) rfl (fun ls hl => ?_)
  refine lv_iconst (v := nI 0) hx hb dc_L_law_16 (by decide) ?_
  refine lv_istore_n (lv' := [(3, .int (nI 0)), (2, .ref p2), (1, .ref p1), (0, .ref b)]) hx hb dc_L_law_17 rfl hl (by decide) rfl (fun ls hl => ?_)
  obtain ⟨r, hre⟩ : ∃ r : Nat → Nat, r = (fun i => [p2, u_2 1, u_2 2, u_2 3, u_2 4, u_2 5, u_2 6, u_2 7, u_2 8, u_2 9, u_2 10, u_2 11, u_2 12, u_2 13, u_2 14, u_2 15, u_2 16, u_2 17, u_2 18, u_2 19, u_2 20, u_2 21, u_2 22, u_2 23, u_2 24, u_2 25, u_2 26].getD i 0) := ⟨_, rfl⟩
  have hr0 : r 0 = p2 := by rw [hre]; rfl
  obtain ⟨pf, hpe⟩ : ∃ pf : Nat → Option Nat, pf = va_up (va_up (va_up (fun _ => none) 0 (some (u_1 1))) (0 + 1) (some (u_1 4))) (0 + 1 + 1) (some (u_1 7)) := ⟨_, rfl⟩
  have hpf : pf 0 = some (u_1 1) ∧ pf 1 = some (u_1 4) ∧ pf 2 = some (u_1 7) := by rw [hpe]; exact ⟨rfl, rfl, rfl⟩
  have hRel : Rel cI cJ cZ cP p1 u_1 r pf 0 (wC p1 u_1 cI cJ cP pf 0 (va_up (va_up (va_up (fun _ => false) 0 false) (0 + 1) false) (0 + 1 + 1) false) (va_up (va_up (va_up (fun _ => 0) 0 0) (0 + 1) 0) (0 + 1 + 1) 0) (va_up (va_up (va_up (fun _ => 0) 0 0) (0 + 1) 0) (0 + 1 + 1) 0) (va_up (va_up (va_up (fun _ => 0) 0 0) (0 + 1) 0) (0 + 1 + 1) 0) (fun _ => 0) (fun _ => 0) (fun _ => 0) (fun _ => 0) (va_up (va_up (va_up (fun _ => nI 0) 0 (nI 0)) (0 + 1) (nI 0)) (0 + 1 + 1) (nI 0)) (fun _ _ => 0) (fun _ _ => nI 0) 0 0 0 0 (fun _ => nI 0) (fun _ => 0) (fun _ => some 0) (fun _ => 0) 0 0 (fun _ => nI 0) (fun _ => 0) (fun _ => some 0) (fun _ => 0) (fun _ => 0)) (fun mk => wR r cI cZ 0 0 0 0 (fun _ => some 0) (fun _ => 0) (fun _ => nI 0) (fun _ => false) (fun _ => false) (fun _ => 0) (fun _ => some 0) (fun _ => false) mk (fun _ => nI 0) (fun _ => 0) (fun _ => 0) (fun _ => some 0) (fun _ => 0) (va_up (va_up (va_up (fun _ => false) 0 false) (0 + 1) false) (0 + 1 + 1) false) (fun _ => 0) (va_up (va_up (va_up (fun _ => 0) 0 0) (0 + 1) 0) (0 + 1 + 1) 0) (va_up (va_up (va_up (fun _ => 0) 0 0) (0 + 1) 0) (0 + 1 + 1) 0) (va_up (va_up (va_up (fun _ => some 0) 0 none) (0 + 1) none) (0 + 1 + 1) none) (va_up (va_up (va_up (fun _ => some 0) 0 none) (0 + 1) none) (0 + 1 + 1) none) (va_up (va_up (va_up (fun _ => nI 0) 0 (nI 0)) (0 + 1) (nI 0)) (0 + 1 + 1) (nI 0)) (fun _ => nI 0) (va_up (va_up (va_up (fun _ => 0) 0 0) (0 + 1) 0) (0 + 1 + 1) 0)) := ⟨0, 0, 0, 0, (fun _ => nI 0), (fun _ => 0), (fun _ => some 0), (fun _ => nI 0), (fun _ => 0), (fun _ => some 0), (fun _ => 0), (fun _ => 0), (va_up (va_up (va_up (fun _ => false) 0 false) (0 + 1) false) (0 + 1 + 1) false), (va_up (va_up (va_up (fun _ => 0) 0 0) (0 + 1) 0) (0 + 1 + 1) 0), (va_up (va_up (va_up (fun _ => 0) 0 0) (0 + 1) 0) (0 + 1 + 1) 0), (va_up (va_up (va_up (fun _ => 0) 0 0) (0 + 1) 0) (0 + 1 + 1) 0), (va_up (va_up (va_up (fun _ => nI 0) 0 (nI 0)) (0 + 1) (nI 0)) (0 + 1 + 1) (nI 0)), (fun _ => 0), (fun _ => 0), (fun _ => 0), (fun _ => 0), (fun _ _ => 0), (fun _ _ => nI 0), 0, 0, 0, (fun _ => 0), (fun _ => some 0), (fun _ => false), (fun _ => false), (fun _ => 0), (fun _ => false), (fun _ => 0), (va_up (va_up (va_up (fun _ => some 0) 0 none) (0 + 1) none) (0 + 1 + 1) none), (va_up (va_up (va_up (fun _ => some 0) 0 none) (0 + 1) none) (0 + 1 + 1) none), (fun _ => nI 0), inv_0 (fun _ _ h => by cases h; decide) (fun _ => by decide) (fun j hj => by
      rcases (show j = 0 ∨ j = 1 ∨ j = 2 by omega) with rfl | rfl | rfl <;> exact ⟨rfl, rfl, rfl, rfl, rfl, rfl, rfl, rfl, rfl⟩), Nat.le_refl _, rfl, rfl⟩
  have hP : va_P (dC, dI) clsL ((wC p1 u_1 cI cJ cP pf 0 (va_up (va_up (va_up (fun _ => false) 0 false) (0 + 1) false) (0 + 1 + 1) false) (va_up (va_up (va_up (fun _ => 0) 0 0) (0 + 1) 0) (0 + 1 + 1) 0) (va_up (va_up (va_up (fun _ => 0) 0 0) (0 + 1) 0) (0 + 1 + 1) 0) (va_up (va_up (va_up (fun _ => 0) 0 0) (0 + 1) 0) (0 + 1 + 1) 0) (fun _ => 0) (fun _ => 0) (fun _ => 0) (fun _ => 0) (va_up (va_up (va_up (fun _ => nI 0) 0 (nI 0)) (0 + 1) (nI 0)) (0 + 1 + 1) (nI 0)) (fun _ _ => 0) (fun _ _ => nI 0) 0 0 0 0 (fun _ => nI 0) (fun _ => 0) (fun _ => some 0) (fun _ => 0) 0 0 (fun _ => nI 0) (fun _ => 0) (fun _ => some 0) (fun _ => 0) (fun _ => 0)) ++ (wR r cI cZ 0 0 0 0 (fun _ => some 0) (fun _ => 0) (fun _ => nI 0) (fun _ => false) (fun _ => false) (fun _ => 0) (fun _ => some 0) (fun _ => false) (fun _ => false) (fun _ => nI 0) (fun _ => 0) (fun _ => 0) (fun _ => some 0) (fun _ => 0) (va_up (va_up (va_up (fun _ => false) 0 false) (0 + 1) false) (0 + 1 + 1) false) (fun _ => 0) (va_up (va_up (va_up (fun _ => 0) 0 0) (0 + 1) 0) (0 + 1 + 1) 0) (va_up (va_up (va_up (fun _ => 0) 0 0) (0 + 1) 0) (0 + 1 + 1) 0) (va_up (va_up (va_up (fun _ => some 0) 0 none) (0 + 1) none) (0 + 1 + 1) none) (va_up (va_up (va_up (fun _ => some 0) 0 none) (0 + 1) none) (0 + 1 + 1) none) (va_up (va_up (va_up (fun _ => nI 0) 0 (nI 0)) (0 + 1) (nI 0)) (0 + 1 + 1) (nI 0)) (fun _ => nI 0) (va_up (va_up (va_up (fun _ => 0) 0 0) (0 + 1) 0) (0 + 1 + 1) 0))) H := by
    rw [hpe, hre]
    exact hP.sub [0, 1, 2, 3, 4, 5, 6, 7, 8, 9, 10, 11, 12, 13, 14, 15, 16, 17, 18, 19, 20, 21, 22, 23, 24, 25, 26, 27, 28, 29, 30, 31, 32, 33, 34, 35, 36, 37, 38, 39, 40, 41, 42, 43, 44, 45] rfl
  have hD : va_D A ((wC p1 u_1 cI cJ cP pf 0 (va_up (va_up (va_up (fun _ => false) 0 false) (0 + 1) false) (0 + 1 + 1) false) (va_up (va_up (va_up (fun _ => 0) 0 0) (0 + 1) 0) (0 + 1 + 1) 0) (va_up (va_up (va_up (fun _ => 0) 0 0) (0 + 1) 0) (0 + 1 + 1) 0) (va_up (va_up (va_up (fun _ => 0) 0 0) (0 + 1) 0) (0 + 1 + 1) 0) (fun _ => 0) (fun _ => 0) (fun _ => 0) (fun _ => 0) (va_up (va_up (va_up (fun _ => nI 0) 0 (nI 0)) (0 + 1) (nI 0)) (0 + 1 + 1) (nI 0)) (fun _ _ => 0) (fun _ _ => nI 0) 0 0 0 0 (fun _ => nI 0) (fun _ => 0) (fun _ => some 0) (fun _ => 0) 0 0 (fun _ => nI 0) (fun _ => 0) (fun _ => some 0) (fun _ => 0) (fun _ => 0)) ++ (wR r cI cZ 0 0 0 0 (fun _ => some 0) (fun _ => 0) (fun _ => nI 0) (fun _ => false) (fun _ => false) (fun _ => 0) (fun _ => some 0) (fun _ => false) (fun _ => false) (fun _ => nI 0) (fun _ => 0) (fun _ => 0) (fun _ => some 0) (fun _ => 0) (va_up (va_up (va_up (fun _ => false) 0 false) (0 + 1) false) (0 + 1 + 1) false) (fun _ => 0) (va_up (va_up (va_up (fun _ => 0) 0 0) (0 + 1) 0) (0 + 1 + 1) 0) (va_up (va_up (va_up (fun _ => 0) 0 0) (0 + 1) 0) (0 + 1 + 1) 0) (va_up (va_up (va_up (fun _ => some 0) 0 none) (0 + 1) none) (0 + 1 + 1) none) (va_up (va_up (va_up (fun _ => some 0) 0 none) (0 + 1) none) (0 + 1 + 1) none) (va_up (va_up (va_up (fun _ => nI 0) 0 (nI 0)) (0 + 1) (nI 0)) (0 + 1 + 1) (nI 0)) (fun _ => nI 0) (va_up (va_up (va_up (fun _ => 0) 0 0) (0 + 1) 0) (0 + 1 + 1) 0))) := by
    rw [hpe, hre]
    exact hD.sub [0, 1, 2, 3, 4, 5, 6, 7, 8, 9, 10, 11, 12, 13, 14, 15, 16, 17, 18, 19, 20, 21, 22, 23, 24, 25, 26, 27, 28, 29, 30, 31, 32, 33, 34, 35, 36, 37, 38, 39, 40, 41, 42, 43, 44, 45] (by decide) rfl
  rw [← hr0] at hl
  refine wl_ 18 (fun (x : Nat) => L + 6 - x) (fun (x : Nat) (H : Heap) (locs : List Loc) (ls : Array Slot) => (x ≤ L + 3 ∧ ∃ (w1 : va_W) (w2 : (Nat → Bool) → va_W) (mk : Nat → Bool), Rel cI cJ cZ cP p1 u_1 r pf x w1 w2 ∧ va_P (dC, dI) clsL (w1 ++ w2 mk) H ∧ va_D A (w1 ++ w2 mk)) ∧ va_S A s.heap H locs ∧ lv_has ls 4 [(3, .int (nI x)), (2, .ref (r 0)), (1, .ref p1), (0, .ref b)]) ?_ 0 _ _ _ ⟨⟨Nat.zero_le _, _, _, _, hRel, hP, hD⟩, hS, lv_sub hl [0, 1, 2, 3] rfl⟩
  clear hP hD hS hl hRel
  rintro x H locs ls ⟨⟨hxL, w1, w2, mk, hRel, hP, hD⟩, hS, hl⟩ ih
  replace hl : lv_has ls 4 [(3, .int (nI x)), (2, .ref (r 0)), (1, .ref p1), (0, .ref b)] := hl
  refine lv_iload_n hx hb dc_L_law_18 rfl (lv_at hl 0 rfl) ?_
  refine lv_aload_n hx hb dc_L_law_19 rfl (lv_at hl 3 rfl) ?_
  refine va_slen hx hb hScr hbl hbA hS dc_L_law_20 ?_
  refine tp_i (y := nI L) rfl ?_
  refine lv_iconst (v := nI 3) hx hb dc_L_law_21 (by decide) ?_
  refine lv_isub hx hb dc_L_law_22 ?_
  refine lv_icmp_gt (tgt := 565) hx hb dc_L_law_23 (by decide) (fun hc => ?_) (fun hc => ?_)
  · refine lv_iconst (v := 1) hx hb dc_L_law_565 (by decide) ?_
    refine va_forget (fun q hq => by have h9 := hS.2.2 q hq; rw [hAe] at h9; exact h9) ?_
    refine W.widen (k := 600000) (n := 7302250) (Nat.le_of_ble_eq_true rfl) (Nat.le_of_ble_eq_true rfl) ?_
    exact lw_ret hx hb hr hlocks dc_L_law_566
  · have hx3 : x + 3 ≤ L := Nat.le_of_not_lt (fun h9 => hc ((lp_c hL (by omega)).mpr h9))
    obtain ⟨hl1, ⟨f1, h01⟩, hl2⟩ := Rel_len hRel
    have hfit : ∀ a b : Nat, True := fun _ _ => trivial
    refine ct_ 559 (fun (H : Heap) (locs : List Loc) (ls : Array Slot) => (∃ (w1 : va_W) (w2 : (Nat → Bool) → va_W) (mk : Nat → Bool), Rel cI cJ cZ cP p1 u_1 r pf (x + 1) w1 w2 ∧ va_P (dC, dI) clsL (w1 ++ w2 mk) H ∧ va_D A (w1 ++ w2 mk)) ∧ va_S A s.heap H locs ∧ lv_has ls 4 [(3, .int (nI x)), (2, .ref (r 0)), (1, .ref p1), (0, .ref b)]) ?_ ?_
    · rintro H locs ls ⟨⟨w1, w2, mk, hRel, hP, hD⟩, hS, hl⟩
      refine lv_iinc (k := 0) (v := nI (x + 3)) (lv' := [(3, .int (nI (x + 3))), (2, .ref (r 0)), (1, .ref p1), (0, .ref b)]) hx hb dc_L_law_559 hl rfl (ic_3 x) (by decide) rfl (fun ls hl => ?_)
      refine lv_goto (tgt := 18) hx hb dc_L_law_562 (by decide) ?_
      exact ih (x + 3) H locs ls (by omega) ⟨⟨by omega, w1, w2, mk, Rel_up (by omega) hRel, hP, hD⟩, hS, hl⟩
    · intro hct
      refine lv_aload_n hx hb dc_L_law_26 rfl (lv_at hl 3 rfl) ?_
      refine lv_iload_n hx hb dc_L_law_27 rfl (lv_at hl 0 rfl) ?_
      refine wl_ld (k := x) hx hb hScr hbl hbA hS (by omega) hL dc_L_law_28 ?_
      refine lv_bipush (v := nI 31) hx hb dc_L_law_29 (by decide) ?_
      refine lv_iand hx hb dc_L_law_31 ?_
      obtain ⟨j, hj, ej⟩ := pk_andE (xs x) (m := nI 31) 5 (by decide +kernel)
      refine tp_i (y := nI j) ej ?_
      by_cases hj19 : 19 ≤ j
      · refine lv_tableOut (tgt := 559) hx hb dc_L_law_32 (Or.inr (by rw [nI_toInt (by omega)]; omega)) (by decide) ?_
        exact hct _ _ _ ⟨⟨w1, w2, mk, Rel_up (by omega) hRel, hP, hD⟩, hS, hl⟩
      · rcases (show j = 0 ∨ j = 1 ∨ j = 2 ∨ j = 3 ∨ j = 4 ∨ j = 5 ∨ j = 6 ∨ j = 7 ∨ j = 8 ∨ j = 9 ∨ j = 10 ∨ j = 11 ∨ j = 12 ∨ j = 13 ∨ j = 14 ∨ j = 15 ∨ j = 16 ∨ j = 17 ∨ j = 18 by omega) with rfl | rfl | rfl | rfl | rfl | rfl | rfl | rfl | rfl | rfl | rfl | rfl | rfl | rfl | rfl | rfl | rfl | rfl | rfl
        · refine lv_tableIn (tgt := 124) (off := 92) hx hb dc_L_law_32 (by decide +kernel) (by decide +kernel) (by decide +kernel) (by decide) ?_
          obtain ⟨w1n, w2n, w3, hC, hR, h3, hRel⟩ := st_renew l dC dI cI cJ cZ cP p1 u_1 r pf hpf mk (by omega) hRel 
          obtain ⟨hl2a, f2, h02⟩ := hl2 mk
          obtain ⟨hln1, _, hln2⟩ := Rel_len hRel
          refine lv_aload_n hx hb dc_L_law_124 rfl (lv_at hl 2 rfl) ?_
          refine lw_v (rest := []) (q := (cn_O, ft_O, 4)) (ci := 3) ⟨hx, hb, hml, hown, htb⟩ hK hC (gw_V kw_152 kw_153 kw_154 kw_1 kw_155) (show mn_O_renew.cls = cn_O ∧ mn_O_renew.cls ≠ "java/lang/invoke/MethodHandle" ∧ mn_O_renew.cls ≠ "java/lang/invoke/VarHandle" ∧ (parseMethodDescriptor mn_O_renew.desc).map (fun d => d.parameters.length) = some 0 by decide +kernel) rfl h01 22 24 hl1 hl2a (by decide) (by decide) hP hD hS hA hl.1 (lv_room (Nat.le_of_ble_eq_true rfl)) dc_L_law_125 ⟨Nat.le_of_ble_eq_true rfl, Nat.le_of_ble_eq_true rfl⟩ (fun z H locs hP hD hS => ?_)
          refine lv_aload_n hx hb dc_L_law_128 rfl (lv_at hl 1 rfl) ?_
          refine lw_v (rest := []) (q := (cn_R, ft_R, 27)) (ci := 4) ⟨hx, hb, hml, hown, htb⟩ hK hR (gw_V kw_453 kw_367 kw_368 kw_5 kw_369) (show mn_R_renew.cls = cn_R ∧ mn_R_renew.cls ≠ "java/lang/invoke/MethodHandle" ∧ mn_R_renew.cls ≠ "java/lang/invoke/VarHandle" ∧ (parseMethodDescriptor mn_R_renew.desc).map (fun d => d.parameters.length) = some 0 by decide +kernel) rfl h02 24 22 hl2a hln1 (by decide) (by decide) hP hD hS hA hl.1 (lv_room (Nat.le_of_ble_eq_true rfl)) dc_L_law_129 ⟨Nat.le_of_ble_eq_true rfl, Nat.le_of_ble_eq_true rfl⟩ (fun z H locs hP hD hS => ?_)
          obtain ⟨mkn, e3⟩ := h3 z
          rw [e3] at hP hD
          refine lv_goto (tgt := 559) hx hb dc_L_law_132 (by decide) ?_
          exact hct _ _ _ ⟨⟨w1n, w2n, mkn, hRel, hP, hD⟩, hS, hl⟩
        · refine lv_tableIn (tgt := 135) (off := 103) hx hb dc_L_law_32 (by decide +kernel) (by decide +kernel) (by decide +kernel) (by decide) ?_
          obtain ⟨w1n, w2n, w3, res, hC, hR, h3, hRel⟩ := st_input l dC dI cI cJ cZ cP p1 u_1 r pf hpf mk (by omega) hRel (xs (x + 1)) (xs (x + 2))
          obtain ⟨hl2a, f2, h02⟩ := hl2 mk
          obtain ⟨hln1, _, hln2⟩ := Rel_len hRel
          refine lv_aload_n hx hb dc_L_law_135 rfl (lv_at hl 2 rfl) ?_
          refine lv_aload_n hx hb dc_L_law_136 rfl (lv_at hl 3 rfl) ?_
          refine lv_iload_n hx hb dc_L_law_137 rfl (lv_at hl 0 rfl) ?_
          refine lv_iconst (v := nI 1) hx hb dc_L_law_138 (by decide) ?_
          refine lv_iadd hx hb dc_L_law_139 ?_
          refine tp_i (y := nI (x + 1)) (nI_add _ _) ?_
          refine wl_ld (k := x + 1) hx hb hScr hbl hbA hS (by omega) hL dc_L_law_140 ?_
          refine lv_aload_n hx hb dc_L_law_141 rfl (lv_at hl 3 rfl) ?_
          refine lv_iload_n hx hb dc_L_law_142 rfl (lv_at hl 0 rfl) ?_
          refine lv_iconst (v := nI 2) hx hb dc_L_law_143 (by decide) ?_
          refine lv_iadd hx hb dc_L_law_144 ?_
          refine tp_i (y := nI (x + 2)) (nI_add _ _) ?_
          refine wl_ld (k := x + 2) hx hb hScr hbl hbA hS (by omega) hL dc_L_law_145 ?_
          refine lw_i (rest := []) (q := (cn_O, ft_O, 4)) (ci := 3) ⟨hx, hb, hml, hown, htb⟩ hK hC (gw_V kw_168 kw_169 kw_170 kw_1 kw_171) (show mn_O_input.cls = cn_O ∧ mn_O_input.cls ≠ "java/lang/invoke/MethodHandle" ∧ mn_O_input.cls ≠ "java/lang/invoke/VarHandle" ∧ (parseMethodDescriptor mn_O_input.desc).map (fun d => d.parameters.length) = some 2 by decide +kernel) rfl h01 22 24 hl1 hl2a (by decide) (by decide) hP hD hS hA hl.1 (lv_room (Nat.le_of_ble_eq_true rfl)) dc_L_law_146 ⟨Nat.le_of_ble_eq_true rfl, Nat.le_of_ble_eq_true rfl⟩ (fun z H locs hP hD hS => ?_)
          refine lv_aload_n hx hb dc_L_law_149 rfl (lv_at hl 1 rfl) ?_
          refine lv_aload_n hx hb dc_L_law_150 rfl (lv_at hl 3 rfl) ?_
          refine lv_iload_n hx hb dc_L_law_151 rfl (lv_at hl 0 rfl) ?_
          refine lv_iconst (v := nI 1) hx hb dc_L_law_152 (by decide) ?_
          refine lv_iadd hx hb dc_L_law_153 ?_
          refine tp_i (y := nI (x + 1)) (nI_add _ _) ?_
          refine wl_ld (k := x + 1) hx hb hScr hbl hbA hS (by omega) hL dc_L_law_154 ?_
          refine lv_aload_n hx hb dc_L_law_155 rfl (lv_at hl 3 rfl) ?_
          refine lv_iload_n hx hb dc_L_law_156 rfl (lv_at hl 0 rfl) ?_
          refine lv_iconst (v := nI 2) hx hb dc_L_law_157 (by decide) ?_
          refine lv_iadd hx hb dc_L_law_158 ?_
          refine tp_i (y := nI (x + 2)) (nI_add _ _) ?_
          refine wl_ld (k := x + 2) hx hb hScr hbl hbA hS (by omega) hL dc_L_law_159 ?_
          refine lw_i (rest := [.int res]) (q := (cn_R, ft_R, 27)) (ci := 4) ⟨hx, hb, hml, hown, htb⟩ hK hR (gw_V kw_454 kw_455 kw_456 kw_5 kw_457) (show mn_R_input.cls = cn_R ∧ mn_R_input.cls ≠ "java/lang/invoke/MethodHandle" ∧ mn_R_input.cls ≠ "java/lang/invoke/VarHandle" ∧ (parseMethodDescriptor mn_R_input.desc).map (fun d => d.parameters.length) = some 2 by decide +kernel) rfl h02 24 22 hl2a hln1 (by decide) (by decide) hP hD hS hA hl.1 (lv_room (Nat.le_of_ble_eq_true rfl)) dc_L_law_160 ⟨Nat.le_of_ble_eq_true rfl, Nat.le_of_ble_eq_true rfl⟩ (fun z H locs hP hD hS => ?_)
          obtain ⟨mkn, e3⟩ := h3 z
          rw [e3] at hP hD
          refine lv_icmp_eq (tgt := 559) hx hb dc_L_law_163 (by decide) (fun _ => ?_) (fun hc => absurd rfl hc)
          exact hct _ _ _ ⟨⟨w1n, w2n, mkn, hRel, hP, hD⟩, hS, hl⟩
        · refine lv_tableIn (tgt := 168) (off := 136) hx hb dc_L_law_32 (by decide +kernel) (by decide +kernel) (by decide +kernel) (by decide) ?_
          obtain ⟨w1n, w2n, w3, res, hC, hR, h3, hRel⟩ := st_deliver l dC dI cI cJ cZ cP p1 u_1 r pf hpf mk (by omega) hRel (xs (x + 1))
          obtain ⟨hl2a, f2, h02⟩ := hl2 mk
          obtain ⟨hln1, _, hln2⟩ := Rel_len hRel
          refine lv_aload_n hx hb dc_L_law_168 rfl (lv_at hl 2 rfl) ?_
          refine lv_aload_n hx hb dc_L_law_169 rfl (lv_at hl 3 rfl) ?_
          refine lv_iload_n hx hb dc_L_law_170 rfl (lv_at hl 0 rfl) ?_
          refine lv_iconst (v := nI 1) hx hb dc_L_law_171 (by decide) ?_
          refine lv_iadd hx hb dc_L_law_172 ?_
          refine tp_i (y := nI (x + 1)) (nI_add _ _) ?_
          refine wl_ld (k := x + 1) hx hb hScr hbl hbA hS (by omega) hL dc_L_law_173 ?_
          refine lw_i (rest := []) (q := (cn_O, ft_O, 4)) (ci := 3) ⟨hx, hb, hml, hown, htb⟩ hK hC (gw_V kw_179 kw_180 kw_181 kw_1 kw_182) (show mn_O_deliver.cls = cn_O ∧ mn_O_deliver.cls ≠ "java/lang/invoke/MethodHandle" ∧ mn_O_deliver.cls ≠ "java/lang/invoke/VarHandle" ∧ (parseMethodDescriptor mn_O_deliver.desc).map (fun d => d.parameters.length) = some 1 by decide +kernel) rfl h01 22 24 hl1 hl2a (by decide) (by decide) hP hD hS hA hl.1 (lv_room (Nat.le_of_ble_eq_true rfl)) dc_L_law_174 ⟨Nat.le_of_ble_eq_true rfl, Nat.le_of_ble_eq_true rfl⟩ (fun z H locs hP hD hS => ?_)
          refine lv_aload_n hx hb dc_L_law_177 rfl (lv_at hl 1 rfl) ?_
          refine lv_aload_n hx hb dc_L_law_178 rfl (lv_at hl 3 rfl) ?_
          refine lv_iload_n hx hb dc_L_law_179 rfl (lv_at hl 0 rfl) ?_
          refine lv_iconst (v := nI 1) hx hb dc_L_law_180 (by decide) ?_
          refine lv_iadd hx hb dc_L_law_181 ?_
          refine tp_i (y := nI (x + 1)) (nI_add _ _) ?_
          refine wl_ld (k := x + 1) hx hb hScr hbl hbA hS (by omega) hL dc_L_law_182 ?_
          refine lw_i (rest := [.int res]) (q := (cn_R, ft_R, 27)) (ci := 4) ⟨hx, hb, hml, hown, htb⟩ hK hR (gw_V kw_466 kw_467 kw_468 kw_5 kw_469) (show mn_R_deliver.cls = cn_R ∧ mn_R_deliver.cls ≠ "java/lang/invoke/MethodHandle" ∧ mn_R_deliver.cls ≠ "java/lang/invoke/VarHandle" ∧ (parseMethodDescriptor mn_R_deliver.desc).map (fun d => d.parameters.length) = some 1 by decide +kernel) rfl h02 24 22 hl2a hln1 (by decide) (by decide) hP hD hS hA hl.1 (lv_room (Nat.le_of_ble_eq_true rfl)) dc_L_law_183 ⟨Nat.le_of_ble_eq_true rfl, Nat.le_of_ble_eq_true rfl⟩ (fun z H locs hP hD hS => ?_)
          obtain ⟨mkn, e3⟩ := h3 z
          rw [e3] at hP hD
          refine lv_icmp_eq (tgt := 559) hx hb dc_L_law_186 (by decide) (fun _ => ?_) (fun hc => absurd rfl hc)
          exact hct _ _ _ ⟨⟨w1n, w2n, mkn, hRel, hP, hD⟩, hS, hl⟩
        · refine lv_tableIn (tgt := 191) (off := 159) hx hb dc_L_law_32 (by decide +kernel) (by decide +kernel) (by decide +kernel) (by decide) ?_
          obtain ⟨w1n, w2n, w3, res, hC, hR, h3, hRel⟩ := st_lose l dC dI cI cJ cZ cP p1 u_1 r pf hpf mk (by omega) hRel (xs (x + 1))
          obtain ⟨hl2a, f2, h02⟩ := hl2 mk
          obtain ⟨hln1, _, hln2⟩ := Rel_len hRel
          refine lv_aload_n hx hb dc_L_law_191 rfl (lv_at hl 2 rfl) ?_
          refine lv_aload_n hx hb dc_L_law_192 rfl (lv_at hl 3 rfl) ?_
          refine lv_iload_n hx hb dc_L_law_193 rfl (lv_at hl 0 rfl) ?_
          refine lv_iconst (v := nI 1) hx hb dc_L_law_194 (by decide) ?_
          refine lv_iadd hx hb dc_L_law_195 ?_
          refine tp_i (y := nI (x + 1)) (nI_add _ _) ?_
          refine wl_ld (k := x + 1) hx hb hScr hbl hbA hS (by omega) hL dc_L_law_196 ?_
          refine lw_i (rest := []) (q := (cn_O, ft_O, 4)) (ci := 3) ⟨hx, hb, hml, hown, htb⟩ hK hC (gw_V kw_238 kw_239 kw_240 kw_1 kw_241) (show mn_O_lose.cls = cn_O ∧ mn_O_lose.cls ≠ "java/lang/invoke/MethodHandle" ∧ mn_O_lose.cls ≠ "java/lang/invoke/VarHandle" ∧ (parseMethodDescriptor mn_O_lose.desc).map (fun d => d.parameters.length) = some 1 by decide +kernel) rfl h01 22 24 hl1 hl2a (by decide) (by decide) hP hD hS hA hl.1 (lv_room (Nat.le_of_ble_eq_true rfl)) dc_L_law_197 ⟨Nat.le_of_ble_eq_true rfl, Nat.le_of_ble_eq_true rfl⟩ (fun z H locs hP hD hS => ?_)
          refine lv_aload_n hx hb dc_L_law_200 rfl (lv_at hl 1 rfl) ?_
          refine lv_aload_n hx hb dc_L_law_201 rfl (lv_at hl 3 rfl) ?_
          refine lv_iload_n hx hb dc_L_law_202 rfl (lv_at hl 0 rfl) ?_
          refine lv_iconst (v := nI 1) hx hb dc_L_law_203 (by decide) ?_
          refine lv_iadd hx hb dc_L_law_204 ?_
          refine tp_i (y := nI (x + 1)) (nI_add _ _) ?_
          refine wl_ld (k := x + 1) hx hb hScr hbl hbA hS (by omega) hL dc_L_law_205 ?_
          refine lw_i (rest := [.int res]) (q := (cn_R, ft_R, 27)) (ci := 4) ⟨hx, hb, hml, hown, htb⟩ hK hR (gw_V kw_494 kw_495 kw_496 kw_5 kw_497) (show mn_R_lose.cls = cn_R ∧ mn_R_lose.cls ≠ "java/lang/invoke/MethodHandle" ∧ mn_R_lose.cls ≠ "java/lang/invoke/VarHandle" ∧ (parseMethodDescriptor mn_R_lose.desc).map (fun d => d.parameters.length) = some 1 by decide +kernel) rfl h02 24 22 hl2a hln1 (by decide) (by decide) hP hD hS hA hl.1 (lv_room (Nat.le_of_ble_eq_true rfl)) dc_L_law_206 ⟨Nat.le_of_ble_eq_true rfl, Nat.le_of_ble_eq_true rfl⟩ (fun z H locs hP hD hS => ?_)
          obtain ⟨mkn, e3⟩ := h3 z
          rw [e3] at hP hD
          refine lv_icmp_eq (tgt := 559) hx hb dc_L_law_209 (by decide) (fun _ => ?_) (fun hc => absurd rfl hc)
          exact hct _ _ _ ⟨⟨w1n, w2n, mkn, hRel, hP, hD⟩, hS, hl⟩
        · refine lv_tableIn (tgt := 214) (off := 182) hx hb dc_L_law_32 (by decide +kernel) (by decide +kernel) (by decide +kernel) (by decide) ?_
          obtain ⟨w1n, w2n, w3, res, hC, hR, h3, hRel⟩ := st_resend l dC dI cI cJ cZ cP p1 u_1 r pf hpf mk (by omega) hRel (xs (x + 1))
          obtain ⟨hl2a, f2, h02⟩ := hl2 mk
          obtain ⟨hln1, _, hln2⟩ := Rel_len hRel
          refine lv_aload_n hx hb dc_L_law_214 rfl (lv_at hl 2 rfl) ?_
          refine lv_aload_n hx hb dc_L_law_215 rfl (lv_at hl 3 rfl) ?_
          refine lv_iload_n hx hb dc_L_law_216 rfl (lv_at hl 0 rfl) ?_
          refine lv_iconst (v := nI 1) hx hb dc_L_law_217 (by decide) ?_
          refine lv_iadd hx hb dc_L_law_218 ?_
          refine tp_i (y := nI (x + 1)) (nI_add _ _) ?_
          refine wl_ld (k := x + 1) hx hb hScr hbl hbA hS (by omega) hL dc_L_law_219 ?_
          refine lw_i (rest := []) (q := (cn_O, ft_O, 4)) (ci := 3) ⟨hx, hb, hml, hown, htb⟩ hK hC (gw_V kw_242 kw_243 kw_244 kw_1 kw_245) (show mn_O_resend.cls = cn_O ∧ mn_O_resend.cls ≠ "java/lang/invoke/MethodHandle" ∧ mn_O_resend.cls ≠ "java/lang/invoke/VarHandle" ∧ (parseMethodDescriptor mn_O_resend.desc).map (fun d => d.parameters.length) = some 1 by decide +kernel) rfl h01 22 24 hl1 hl2a (by decide) (by decide) hP hD hS hA hl.1 (lv_room (Nat.le_of_ble_eq_true rfl)) dc_L_law_220 ⟨Nat.le_of_ble_eq_true rfl, Nat.le_of_ble_eq_true rfl⟩ (fun z H locs hP hD hS => ?_)
          refine lv_aload_n hx hb dc_L_law_223 rfl (lv_at hl 1 rfl) ?_
          refine lv_aload_n hx hb dc_L_law_224 rfl (lv_at hl 3 rfl) ?_
          refine lv_iload_n hx hb dc_L_law_225 rfl (lv_at hl 0 rfl) ?_
          refine lv_iconst (v := nI 1) hx hb dc_L_law_226 (by decide) ?_
          refine lv_iadd hx hb dc_L_law_227 ?_
          refine tp_i (y := nI (x + 1)) (nI_add _ _) ?_
          refine wl_ld (k := x + 1) hx hb hScr hbl hbA hS (by omega) hL dc_L_law_228 ?_
          refine lw_i (rest := [.int res]) (q := (cn_R, ft_R, 27)) (ci := 4) ⟨hx, hb, hml, hown, htb⟩ hK hR (gw_V kw_498 kw_499 kw_500 kw_5 kw_501) (show mn_R_resend.cls = cn_R ∧ mn_R_resend.cls ≠ "java/lang/invoke/MethodHandle" ∧ mn_R_resend.cls ≠ "java/lang/invoke/VarHandle" ∧ (parseMethodDescriptor mn_R_resend.desc).map (fun d => d.parameters.length) = some 1 by decide +kernel) rfl h02 24 22 hl2a hln1 (by decide) (by decide) hP hD hS hA hl.1 (lv_room (Nat.le_of_ble_eq_true rfl)) dc_L_law_229 ⟨Nat.le_of_ble_eq_true rfl, Nat.le_of_ble_eq_true rfl⟩ (fun z H locs hP hD hS => ?_)
          obtain ⟨mkn, e3⟩ := h3 z
          rw [e3] at hP hD
          refine lv_icmp_eq (tgt := 559) hx hb dc_L_law_232 (by decide) (fun _ => ?_) (fun hc => absurd rfl hc)
          exact hct _ _ _ ⟨⟨w1n, w2n, mkn, hRel, hP, hD⟩, hS, hl⟩
        · refine lv_tableIn (tgt := 237) (off := 205) hx hb dc_L_law_32 (by decide +kernel) (by decide +kernel) (by decide +kernel) (by decide) ?_
          obtain ⟨w1n, w2n, w3, res, hC, hR, h3, hRel⟩ := st_flush l dC dI cI cJ cZ cP p1 u_1 r pf hpf mk (by omega) hRel (xs (x + 1))
          obtain ⟨hl2a, f2, h02⟩ := hl2 mk
          obtain ⟨hln1, _, hln2⟩ := Rel_len hRel
          refine lv_aload_n hx hb dc_L_law_237 rfl (lv_at hl 2 rfl) ?_
          refine lv_aload_n hx hb dc_L_law_238 rfl (lv_at hl 3 rfl) ?_
          refine lv_iload_n hx hb dc_L_law_239 rfl (lv_at hl 0 rfl) ?_
          refine lv_iconst (v := nI 1) hx hb dc_L_law_240 (by decide) ?_
          refine lv_iadd hx hb dc_L_law_241 ?_
          refine tp_i (y := nI (x + 1)) (nI_add _ _) ?_
          refine wl_ld (k := x + 1) hx hb hScr hbl hbA hS (by omega) hL dc_L_law_242 ?_
          refine lw_i (rest := []) (q := (cn_O, ft_O, 4)) (ci := 3) ⟨hx, hb, hml, hown, htb⟩ hK hC (gw_V kw_254 kw_255 kw_256 kw_1 kw_257) (show mn_O_flush.cls = cn_O ∧ mn_O_flush.cls ≠ "java/lang/invoke/MethodHandle" ∧ mn_O_flush.cls ≠ "java/lang/invoke/VarHandle" ∧ (parseMethodDescriptor mn_O_flush.desc).map (fun d => d.parameters.length) = some 1 by decide +kernel) rfl h01 22 24 hl1 hl2a (by decide) (by decide) hP hD hS hA hl.1 (lv_room (Nat.le_of_ble_eq_true rfl)) dc_L_law_243 ⟨Nat.le_of_ble_eq_true rfl, Nat.le_of_ble_eq_true rfl⟩ (fun z H locs hP hD hS => ?_)
          refine lv_aload_n hx hb dc_L_law_246 rfl (lv_at hl 1 rfl) ?_
          refine lv_aload_n hx hb dc_L_law_247 rfl (lv_at hl 3 rfl) ?_
          refine lv_iload_n hx hb dc_L_law_248 rfl (lv_at hl 0 rfl) ?_
          refine lv_iconst (v := nI 1) hx hb dc_L_law_249 (by decide) ?_
          refine lv_iadd hx hb dc_L_law_250 ?_
          refine tp_i (y := nI (x + 1)) (nI_add _ _) ?_
          refine wl_ld (k := x + 1) hx hb hScr hbl hbA hS (by omega) hL dc_L_law_251 ?_
          refine lw_i (rest := [.int res]) (q := (cn_R, ft_R, 27)) (ci := 4) ⟨hx, hb, hml, hown, htb⟩ hK hR (gw_V kw_510 kw_511 kw_512 kw_5 kw_513) (show mn_R_flush.cls = cn_R ∧ mn_R_flush.cls ≠ "java/lang/invoke/MethodHandle" ∧ mn_R_flush.cls ≠ "java/lang/invoke/VarHandle" ∧ (parseMethodDescriptor mn_R_flush.desc).map (fun d => d.parameters.length) = some 1 by decide +kernel) rfl h02 24 22 hl2a hln1 (by decide) (by decide) hP hD hS hA hl.1 (lv_room (Nat.le_of_ble_eq_true rfl)) dc_L_law_252 ⟨Nat.le_of_ble_eq_true rfl, Nat.le_of_ble_eq_true rfl⟩ (fun z H locs hP hD hS => ?_)
          obtain ⟨mkn, e3⟩ := h3 z
          rw [e3] at hP hD
          refine lv_icmp_eq (tgt := 559) hx hb dc_L_law_255 (by decide) (fun _ => ?_) (fun hc => absurd rfl hc)
          exact hct _ _ _ ⟨⟨w1n, w2n, mkn, hRel, hP, hD⟩, hS, hl⟩
        · refine lv_tableIn (tgt := 260) (off := 228) hx hb dc_L_law_32 (by decide +kernel) (by decide +kernel) (by decide +kernel) (by decide) ?_
          obtain ⟨w1n, w2n, w3, res, hC, hR, h3, hRel⟩ := st_checkpoint l dC dI cI cJ cZ cP p1 u_1 r pf hpf mk (by omega) hRel (xs (x + 1))
          obtain ⟨hl2a, f2, h02⟩ := hl2 mk
          obtain ⟨hln1, _, hln2⟩ := Rel_len hRel
          refine lv_aload_n hx hb dc_L_law_260 rfl (lv_at hl 2 rfl) ?_
          refine lv_aload_n hx hb dc_L_law_261 rfl (lv_at hl 3 rfl) ?_
          refine lv_iload_n hx hb dc_L_law_262 rfl (lv_at hl 0 rfl) ?_
          refine lv_iconst (v := nI 1) hx hb dc_L_law_263 (by decide) ?_
          refine lv_iadd hx hb dc_L_law_264 ?_
          refine tp_i (y := nI (x + 1)) (nI_add _ _) ?_
          refine wl_ld (k := x + 1) hx hb hScr hbl hbA hS (by omega) hL dc_L_law_265 ?_
          refine lw_i (rest := []) (q := (cn_O, ft_O, 4)) (ci := 3) ⟨hx, hb, hml, hown, htb⟩ hK hC (gw_V kw_258 kw_259 kw_260 kw_1 kw_261) (show mn_O_checkpoint.cls = cn_O ∧ mn_O_checkpoint.cls ≠ "java/lang/invoke/MethodHandle" ∧ mn_O_checkpoint.cls ≠ "java/lang/invoke/VarHandle" ∧ (parseMethodDescriptor mn_O_checkpoint.desc).map (fun d => d.parameters.length) = some 1 by decide +kernel) rfl h01 22 24 hl1 hl2a (by decide) (by decide) hP hD hS hA hl.1 (lv_room (Nat.le_of_ble_eq_true rfl)) dc_L_law_266 ⟨Nat.le_of_ble_eq_true rfl, Nat.le_of_ble_eq_true rfl⟩ (fun z H locs hP hD hS => ?_)
          refine lv_aload_n hx hb dc_L_law_269 rfl (lv_at hl 1 rfl) ?_
          refine lv_aload_n hx hb dc_L_law_270 rfl (lv_at hl 3 rfl) ?_
          refine lv_iload_n hx hb dc_L_law_271 rfl (lv_at hl 0 rfl) ?_
          refine lv_iconst (v := nI 1) hx hb dc_L_law_272 (by decide) ?_
          refine lv_iadd hx hb dc_L_law_273 ?_
          refine tp_i (y := nI (x + 1)) (nI_add _ _) ?_
          refine wl_ld (k := x + 1) hx hb hScr hbl hbA hS (by omega) hL dc_L_law_274 ?_
          refine lw_i (rest := [.int res]) (q := (cn_R, ft_R, 27)) (ci := 4) ⟨hx, hb, hml, hown, htb⟩ hK hR (gw_V kw_514 kw_515 kw_516 kw_5 kw_517) (show mn_R_checkpoint.cls = cn_R ∧ mn_R_checkpoint.cls ≠ "java/lang/invoke/MethodHandle" ∧ mn_R_checkpoint.cls ≠ "java/lang/invoke/VarHandle" ∧ (parseMethodDescriptor mn_R_checkpoint.desc).map (fun d => d.parameters.length) = some 1 by decide +kernel) rfl h02 24 22 hl2a hln1 (by decide) (by decide) hP hD hS hA hl.1 (lv_room (Nat.le_of_ble_eq_true rfl)) dc_L_law_275 ⟨Nat.le_of_ble_eq_true rfl, Nat.le_of_ble_eq_true rfl⟩ (fun z H locs hP hD hS => ?_)
          obtain ⟨mkn, e3⟩ := h3 z
          rw [e3] at hP hD
          refine lv_icmp_eq (tgt := 559) hx hb dc_L_law_278 (by decide) (fun _ => ?_) (fun hc => absurd rfl hc)
          exact hct _ _ _ ⟨⟨w1n, w2n, mkn, hRel, hP, hD⟩, hS, hl⟩
        · refine lv_tableIn (tgt := 283) (off := 251) hx hb dc_L_law_32 (by decide +kernel) (by decide +kernel) (by decide +kernel) (by decide) ?_
          obtain ⟨w1n, w2n, w3, res, hC, hR, h3, hRel⟩ := st_crash l dC dI cI cJ cZ cP p1 u_1 r pf hpf mk (by omega) hRel (xs (x + 1))
          obtain ⟨hl2a, f2, h02⟩ := hl2 mk
          obtain ⟨hln1, _, hln2⟩ := Rel_len hRel
          refine lv_aload_n hx hb dc_L_law_283 rfl (lv_at hl 2 rfl) ?_
          refine lv_aload_n hx hb dc_L_law_284 rfl (lv_at hl 3 rfl) ?_
          refine lv_iload_n hx hb dc_L_law_285 rfl (lv_at hl 0 rfl) ?_
          refine lv_iconst (v := nI 1) hx hb dc_L_law_286 (by decide) ?_
          refine lv_iadd hx hb dc_L_law_287 ?_
          refine tp_i (y := nI (x + 1)) (nI_add _ _) ?_
          refine wl_ld (k := x + 1) hx hb hScr hbl hbA hS (by omega) hL dc_L_law_288 ?_
          refine lw_i (rest := []) (q := (cn_O, ft_O, 4)) (ci := 3) ⟨hx, hb, hml, hown, htb⟩ hK hC (gw_V kw_266 kw_267 kw_268 kw_1 kw_269) (show mn_O_crash.cls = cn_O ∧ mn_O_crash.cls ≠ "java/lang/invoke/MethodHandle" ∧ mn_O_crash.cls ≠ "java/lang/invoke/VarHandle" ∧ (parseMethodDescriptor mn_O_crash.desc).map (fun d => d.parameters.length) = some 1 by decide +kernel) rfl h01 22 24 hl1 hl2a (by decide) (by decide) hP hD hS hA hl.1 (lv_room (Nat.le_of_ble_eq_true rfl)) dc_L_law_289 ⟨Nat.le_of_ble_eq_true rfl, Nat.le_of_ble_eq_true rfl⟩ (fun z H locs hP hD hS => ?_)
          refine lv_aload_n hx hb dc_L_law_292 rfl (lv_at hl 1 rfl) ?_
          refine lv_aload_n hx hb dc_L_law_293 rfl (lv_at hl 3 rfl) ?_
          refine lv_iload_n hx hb dc_L_law_294 rfl (lv_at hl 0 rfl) ?_
          refine lv_iconst (v := nI 1) hx hb dc_L_law_295 (by decide) ?_
          refine lv_iadd hx hb dc_L_law_296 ?_
          refine tp_i (y := nI (x + 1)) (nI_add _ _) ?_
          refine wl_ld (k := x + 1) hx hb hScr hbl hbA hS (by omega) hL dc_L_law_297 ?_
          refine lw_i (rest := [.int res]) (q := (cn_R, ft_R, 27)) (ci := 4) ⟨hx, hb, hml, hown, htb⟩ hK hR (gw_V kw_518 kw_519 kw_520 kw_5 kw_521) (show mn_R_crash.cls = cn_R ∧ mn_R_crash.cls ≠ "java/lang/invoke/MethodHandle" ∧ mn_R_crash.cls ≠ "java/lang/invoke/VarHandle" ∧ (parseMethodDescriptor mn_R_crash.desc).map (fun d => d.parameters.length) = some 1 by decide +kernel) rfl h02 24 22 hl2a hln1 (by decide) (by decide) hP hD hS hA hl.1 (lv_room (Nat.le_of_ble_eq_true rfl)) dc_L_law_298 ⟨Nat.le_of_ble_eq_true rfl, Nat.le_of_ble_eq_true rfl⟩ (fun z H locs hP hD hS => ?_)
          obtain ⟨mkn, e3⟩ := h3 z
          rw [e3] at hP hD
          refine lv_icmp_eq (tgt := 559) hx hb dc_L_law_301 (by decide) (fun _ => ?_) (fun hc => absurd rfl hc)
          exact hct _ _ _ ⟨⟨w1n, w2n, mkn, hRel, hP, hD⟩, hS, hl⟩
        · refine lv_tableIn (tgt := 306) (off := 274) hx hb dc_L_law_32 (by decide +kernel) (by decide +kernel) (by decide +kernel) (by decide) ?_
          obtain ⟨w1n, w2n, w3, res, hC, hR, h3, hRel⟩ := st_restart l dC dI cI cJ cZ cP p1 u_1 r pf hpf mk (by omega) hRel (xs (x + 1))
          obtain ⟨hl2a, f2, h02⟩ := hl2 mk
          obtain ⟨hln1, _, hln2⟩ := Rel_len hRel
          refine lv_aload_n hx hb dc_L_law_306 rfl (lv_at hl 2 rfl) ?_
          refine lv_aload_n hx hb dc_L_law_307 rfl (lv_at hl 3 rfl) ?_
          refine lv_iload_n hx hb dc_L_law_308 rfl (lv_at hl 0 rfl) ?_
          refine lv_iconst (v := nI 1) hx hb dc_L_law_309 (by decide) ?_
          refine lv_iadd hx hb dc_L_law_310 ?_
          refine tp_i (y := nI (x + 1)) (nI_add _ _) ?_
          refine wl_ld (k := x + 1) hx hb hScr hbl hbA hS (by omega) hL dc_L_law_311 ?_
          refine lw_i (rest := []) (q := (cn_O, ft_O, 4)) (ci := 3) ⟨hx, hb, hml, hown, htb⟩ hK hC (gw_V kw_274 kw_275 kw_276 kw_1 kw_277) (show mn_O_restart.cls = cn_O ∧ mn_O_restart.cls ≠ "java/lang/invoke/MethodHandle" ∧ mn_O_restart.cls ≠ "java/lang/invoke/VarHandle" ∧ (parseMethodDescriptor mn_O_restart.desc).map (fun d => d.parameters.length) = some 1 by decide +kernel) rfl h01 22 24 hl1 hl2a (by decide) (by decide) hP hD hS hA hl.1 (lv_room (Nat.le_of_ble_eq_true rfl)) dc_L_law_312 ⟨Nat.le_of_ble_eq_true rfl, Nat.le_of_ble_eq_true rfl⟩ (fun z H locs hP hD hS => ?_)
          refine lv_aload_n hx hb dc_L_law_315 rfl (lv_at hl 1 rfl) ?_
          refine lv_aload_n hx hb dc_L_law_316 rfl (lv_at hl 3 rfl) ?_
          refine lv_iload_n hx hb dc_L_law_317 rfl (lv_at hl 0 rfl) ?_
          refine lv_iconst (v := nI 1) hx hb dc_L_law_318 (by decide) ?_
          refine lv_iadd hx hb dc_L_law_319 ?_
          refine tp_i (y := nI (x + 1)) (nI_add _ _) ?_
          refine wl_ld (k := x + 1) hx hb hScr hbl hbA hS (by omega) hL dc_L_law_320 ?_
          refine lw_i (rest := [.int res]) (q := (cn_R, ft_R, 27)) (ci := 4) ⟨hx, hb, hml, hown, htb⟩ hK hR (gw_V kw_522 kw_523 kw_524 kw_5 kw_525) (show mn_R_restart.cls = cn_R ∧ mn_R_restart.cls ≠ "java/lang/invoke/MethodHandle" ∧ mn_R_restart.cls ≠ "java/lang/invoke/VarHandle" ∧ (parseMethodDescriptor mn_R_restart.desc).map (fun d => d.parameters.length) = some 1 by decide +kernel) rfl h02 24 22 hl2a hln1 (by decide) (by decide) hP hD hS hA hl.1 (lv_room (Nat.le_of_ble_eq_true rfl)) dc_L_law_321 ⟨Nat.le_of_ble_eq_true rfl, Nat.le_of_ble_eq_true rfl⟩ (fun z H locs hP hD hS => ?_)
          obtain ⟨mkn, e3⟩ := h3 z
          rw [e3] at hP hD
          refine lv_icmp_eq (tgt := 559) hx hb dc_L_law_324 (by decide) (fun _ => ?_) (fun hc => absurd rfl hc)
          exact hct _ _ _ ⟨⟨w1n, w2n, mkn, hRel, hP, hD⟩, hS, hl⟩
        · refine lv_tableIn (tgt := 329) (off := 297) hx hb dc_L_law_32 (by decide +kernel) (by decide +kernel) (by decide +kernel) (by decide) ?_
          obtain ⟨w1n, w2n, w3, res, hC, hR, h3, hRel⟩ := st_learn l dC dI cI cJ cZ cP p1 u_1 r pf hpf mk (by omega) hRel (xs (x + 1))
          obtain ⟨hl2a, f2, h02⟩ := hl2 mk
          obtain ⟨hln1, _, hln2⟩ := Rel_len hRel
          refine lv_aload_n hx hb dc_L_law_329 rfl (lv_at hl 2 rfl) ?_
          refine lv_aload_n hx hb dc_L_law_330 rfl (lv_at hl 3 rfl) ?_
          refine lv_iload_n hx hb dc_L_law_331 rfl (lv_at hl 0 rfl) ?_
          refine lv_iconst (v := nI 1) hx hb dc_L_law_332 (by decide) ?_
          refine lv_iadd hx hb dc_L_law_333 ?_
          refine tp_i (y := nI (x + 1)) (nI_add _ _) ?_
          refine wl_ld (k := x + 1) hx hb hScr hbl hbA hS (by omega) hL dc_L_law_334 ?_
          refine lw_i (rest := []) (q := (cn_O, ft_O, 4)) (ci := 3) ⟨hx, hb, hml, hown, htb⟩ hK hC (gw_V kw_306 kw_307 kw_308 kw_1 kw_309) (show mn_O_learn.cls = cn_O ∧ mn_O_learn.cls ≠ "java/lang/invoke/MethodHandle" ∧ mn_O_learn.cls ≠ "java/lang/invoke/VarHandle" ∧ (parseMethodDescriptor mn_O_learn.desc).map (fun d => d.parameters.length) = some 1 by decide +kernel) rfl h01 22 24 hl1 hl2a (by decide) (by decide) hP hD hS hA hl.1 (lv_room (Nat.le_of_ble_eq_true rfl)) dc_L_law_335 ⟨Nat.le_of_ble_eq_true rfl, Nat.le_of_ble_eq_true rfl⟩ (fun z H locs hP hD hS => ?_)
          refine lv_aload_n hx hb dc_L_law_338 rfl (lv_at hl 1 rfl) ?_
          refine lv_aload_n hx hb dc_L_law_339 rfl (lv_at hl 3 rfl) ?_
          refine lv_iload_n hx hb dc_L_law_340 rfl (lv_at hl 0 rfl) ?_
          refine lv_iconst (v := nI 1) hx hb dc_L_law_341 (by decide) ?_
          refine lv_iadd hx hb dc_L_law_342 ?_
          refine tp_i (y := nI (x + 1)) (nI_add _ _) ?_
          refine wl_ld (k := x + 1) hx hb hScr hbl hbA hS (by omega) hL dc_L_law_343 ?_
          refine lw_i (rest := [.int res]) (q := (cn_R, ft_R, 27)) (ci := 4) ⟨hx, hb, hml, hown, htb⟩ hK hR (gw_V kw_538 kw_539 kw_540 kw_5 kw_541) (show mn_R_learn.cls = cn_R ∧ mn_R_learn.cls ≠ "java/lang/invoke/MethodHandle" ∧ mn_R_learn.cls ≠ "java/lang/invoke/VarHandle" ∧ (parseMethodDescriptor mn_R_learn.desc).map (fun d => d.parameters.length) = some 1 by decide +kernel) rfl h02 24 22 hl2a hln1 (by decide) (by decide) hP hD hS hA hl.1 (lv_room (Nat.le_of_ble_eq_true rfl)) dc_L_law_344 ⟨Nat.le_of_ble_eq_true rfl, Nat.le_of_ble_eq_true rfl⟩ (fun z H locs hP hD hS => ?_)
          obtain ⟨mkn, e3⟩ := h3 z
          rw [e3] at hP hD
          refine lv_icmp_eq (tgt := 559) hx hb dc_L_law_347 (by decide) (fun _ => ?_) (fun hc => absurd rfl hc)
          exact hct _ _ _ ⟨⟨w1n, w2n, mkn, hRel, hP, hD⟩, hS, hl⟩
        · refine lv_tableIn (tgt := 352) (off := 320) hx hb dc_L_law_32 (by decide +kernel) (by decide +kernel) (by decide +kernel) (by decide) ?_
          obtain ⟨w1n, w2n, w3, res, hC, hR, h3, hRel⟩ := st_release l dC dI cI cJ cZ cP p1 u_1 r pf hpf mk (by omega) hRel (xs (x + 1))
          obtain ⟨hl2a, f2, h02⟩ := hl2 mk
          obtain ⟨hln1, _, hln2⟩ := Rel_len hRel
          refine lv_aload_n hx hb dc_L_law_352 rfl (lv_at hl 2 rfl) ?_
          refine lv_aload_n hx hb dc_L_law_353 rfl (lv_at hl 3 rfl) ?_
          refine lv_iload_n hx hb dc_L_law_354 rfl (lv_at hl 0 rfl) ?_
          refine lv_iconst (v := nI 1) hx hb dc_L_law_355 (by decide) ?_
          refine lv_iadd hx hb dc_L_law_356 ?_
          refine tp_i (y := nI (x + 1)) (nI_add _ _) ?_
          refine wl_ld (k := x + 1) hx hb hScr hbl hbA hS (by omega) hL dc_L_law_357 ?_
          refine lw_i (rest := []) (q := (cn_O, ft_O, 4)) (ci := 3) ⟨hx, hb, hml, hown, htb⟩ hK hC (gw_V kw_310 kw_311 kw_312 kw_1 kw_313) (show mn_O_release.cls = cn_O ∧ mn_O_release.cls ≠ "java/lang/invoke/MethodHandle" ∧ mn_O_release.cls ≠ "java/lang/invoke/VarHandle" ∧ (parseMethodDescriptor mn_O_release.desc).map (fun d => d.parameters.length) = some 1 by decide +kernel) rfl h01 22 24 hl1 hl2a (by decide) (by decide) hP hD hS hA hl.1 (lv_room (Nat.le_of_ble_eq_true rfl)) dc_L_law_358 ⟨Nat.le_of_ble_eq_true rfl, Nat.le_of_ble_eq_true rfl⟩ (fun z H locs hP hD hS => ?_)
          refine lv_aload_n hx hb dc_L_law_361 rfl (lv_at hl 1 rfl) ?_
          refine lv_aload_n hx hb dc_L_law_362 rfl (lv_at hl 3 rfl) ?_
          refine lv_iload_n hx hb dc_L_law_363 rfl (lv_at hl 0 rfl) ?_
          refine lv_iconst (v := nI 1) hx hb dc_L_law_364 (by decide) ?_
          refine lv_iadd hx hb dc_L_law_365 ?_
          refine tp_i (y := nI (x + 1)) (nI_add _ _) ?_
          refine wl_ld (k := x + 1) hx hb hScr hbl hbA hS (by omega) hL dc_L_law_366 ?_
          refine lw_i (rest := [.int res]) (q := (cn_R, ft_R, 27)) (ci := 4) ⟨hx, hb, hml, hown, htb⟩ hK hR (gw_V kw_542 kw_543 kw_544 kw_5 kw_545) (show mn_R_release.cls = cn_R ∧ mn_R_release.cls ≠ "java/lang/invoke/MethodHandle" ∧ mn_R_release.cls ≠ "java/lang/invoke/VarHandle" ∧ (parseMethodDescriptor mn_R_release.desc).map (fun d => d.parameters.length) = some 1 by decide +kernel) rfl h02 24 22 hl2a hln1 (by decide) (by decide) hP hD hS hA hl.1 (lv_room (Nat.le_of_ble_eq_true rfl)) dc_L_law_367 ⟨Nat.le_of_ble_eq_true rfl, Nat.le_of_ble_eq_true rfl⟩ (fun z H locs hP hD hS => ?_)
          obtain ⟨mkn, e3⟩ := h3 z
          rw [e3] at hP hD
          refine lv_icmp_eq (tgt := 559) hx hb dc_L_law_370 (by decide) (fun _ => ?_) (fun hc => absurd rfl hc)
          exact hct _ _ _ ⟨⟨w1n, w2n, mkn, hRel, hP, hD⟩, hS, hl⟩
        · refine lv_tableIn (tgt := 375) (off := 343) hx hb dc_L_law_32 (by decide +kernel) (by decide +kernel) (by decide +kernel) (by decide) ?_
          obtain ⟨w1n, w2n, w3, res, hC, hR, h3, hRel⟩ := st_released l dC dI cI cJ cZ cP p1 u_1 r pf hpf mk (by omega) hRel (xs (x + 1)) (xs (x + 2))
          obtain ⟨hl2a, f2, h02⟩ := hl2 mk
          obtain ⟨hln1, _, hln2⟩ := Rel_len hRel
          refine lv_aload_n hx hb dc_L_law_375 rfl (lv_at hl 2 rfl) ?_
          refine lv_aload_n hx hb dc_L_law_376 rfl (lv_at hl 3 rfl) ?_
          refine lv_iload_n hx hb dc_L_law_377 rfl (lv_at hl 0 rfl) ?_
          refine lv_iconst (v := nI 1) hx hb dc_L_law_378 (by decide) ?_
          refine lv_iadd hx hb dc_L_law_379 ?_
          refine tp_i (y := nI (x + 1)) (nI_add _ _) ?_
          refine wl_ld (k := x + 1) hx hb hScr hbl hbA hS (by omega) hL dc_L_law_380 ?_
          refine lv_aload_n hx hb dc_L_law_381 rfl (lv_at hl 3 rfl) ?_
          refine lv_iload_n hx hb dc_L_law_382 rfl (lv_at hl 0 rfl) ?_
          refine lv_iconst (v := nI 2) hx hb dc_L_law_383 (by decide) ?_
          refine lv_iadd hx hb dc_L_law_384 ?_
          refine tp_i (y := nI (x + 2)) (nI_add _ _) ?_
          refine wl_ld (k := x + 2) hx hb hScr hbl hbA hS (by omega) hL dc_L_law_385 ?_
          refine lw_i (rest := []) (q := (cn_O, ft_O, 4)) (ci := 3) ⟨hx, hb, hml, hown, htb⟩ hK hC (gw_V kw_323 kw_324 kw_325 kw_1 kw_326) (show mn_O_released.cls = cn_O ∧ mn_O_released.cls ≠ "java/lang/invoke/MethodHandle" ∧ mn_O_released.cls ≠ "java/lang/invoke/VarHandle" ∧ (parseMethodDescriptor mn_O_released.desc).map (fun d => d.parameters.length) = some 2 by decide +kernel) rfl h01 22 24 hl1 hl2a (by decide) (by decide) hP hD hS hA hl.1 (lv_room (Nat.le_of_ble_eq_true rfl)) dc_L_law_386 ⟨Nat.le_of_ble_eq_true rfl, Nat.le_of_ble_eq_true rfl⟩ (fun z H locs hP hD hS => ?_)
          refine lv_aload_n hx hb dc_L_law_389 rfl (lv_at hl 1 rfl) ?_
          refine lv_aload_n hx hb dc_L_law_390 rfl (lv_at hl 3 rfl) ?_
          refine lv_iload_n hx hb dc_L_law_391 rfl (lv_at hl 0 rfl) ?_
          refine lv_iconst (v := nI 1) hx hb dc_L_law_392 (by decide) ?_
          refine lv_iadd hx hb dc_L_law_393 ?_
          refine tp_i (y := nI (x + 1)) (nI_add _ _) ?_
          refine wl_ld (k := x + 1) hx hb hScr hbl hbA hS (by omega) hL dc_L_law_394 ?_
          refine lv_aload_n hx hb dc_L_law_395 rfl (lv_at hl 3 rfl) ?_
          refine lv_iload_n hx hb dc_L_law_396 rfl (lv_at hl 0 rfl) ?_
          refine lv_iconst (v := nI 2) hx hb dc_L_law_397 (by decide) ?_
          refine lv_iadd hx hb dc_L_law_398 ?_
          refine tp_i (y := nI (x + 2)) (nI_add _ _) ?_
          refine wl_ld (k := x + 2) hx hb hScr hbl hbA hS (by omega) hL dc_L_law_399 ?_
          refine lw_i (rest := [.int res]) (q := (cn_R, ft_R, 27)) (ci := 4) ⟨hx, hb, hml, hown, htb⟩ hK hR (gw_V kw_550 kw_551 kw_552 kw_5 kw_553) (show mn_R_released.cls = cn_R ∧ mn_R_released.cls ≠ "java/lang/invoke/MethodHandle" ∧ mn_R_released.cls ≠ "java/lang/invoke/VarHandle" ∧ (parseMethodDescriptor mn_R_released.desc).map (fun d => d.parameters.length) = some 2 by decide +kernel) rfl h02 24 22 hl2a hln1 (by decide) (by decide) hP hD hS hA hl.1 (lv_room (Nat.le_of_ble_eq_true rfl)) dc_L_law_400 ⟨Nat.le_of_ble_eq_true rfl, Nat.le_of_ble_eq_true rfl⟩ (fun z H locs hP hD hS => ?_)
          obtain ⟨mkn, e3⟩ := h3 z
          rw [e3] at hP hD
          refine lv_icmp_eq (tgt := 559) hx hb dc_L_law_403 (by decide) (fun _ => ?_) (fun hc => absurd rfl hc)
          exact hct _ _ _ ⟨⟨w1n, w2n, mkn, hRel, hP, hD⟩, hS, hl⟩
        · refine lv_tableIn (tgt := 408) (off := 376) hx hb dc_L_law_32 (by decide +kernel) (by decide +kernel) (by decide +kernel) (by decide) ?_
          obtain ⟨w1n, w2n, w3, res, hC, hR, h3, hRel⟩ := st_outputs l dC dI cI cJ cZ cP p1 u_1 r pf hpf mk (by omega) hRel (xs (x + 1))
          obtain ⟨hl2a, f2, h02⟩ := hl2 mk
          obtain ⟨hln1, _, hln2⟩ := Rel_len hRel
          refine lv_aload_n hx hb dc_L_law_408 rfl (lv_at hl 2 rfl) ?_
          refine lv_aload_n hx hb dc_L_law_409 rfl (lv_at hl 3 rfl) ?_
          refine lv_iload_n hx hb dc_L_law_410 rfl (lv_at hl 0 rfl) ?_
          refine lv_iconst (v := nI 1) hx hb dc_L_law_411 (by decide) ?_
          refine lv_iadd hx hb dc_L_law_412 ?_
          refine tp_i (y := nI (x + 1)) (nI_add _ _) ?_
          refine wl_ld (k := x + 1) hx hb hScr hbl hbA hS (by omega) hL dc_L_law_413 ?_
          refine lw_i (rest := []) (q := (cn_O, ft_O, 4)) (ci := 3) ⟨hx, hb, hml, hown, htb⟩ hK hC (gw_V kw_327 kw_328 kw_329 kw_1 kw_330) (show mn_O_outputs.cls = cn_O ∧ mn_O_outputs.cls ≠ "java/lang/invoke/MethodHandle" ∧ mn_O_outputs.cls ≠ "java/lang/invoke/VarHandle" ∧ (parseMethodDescriptor mn_O_outputs.desc).map (fun d => d.parameters.length) = some 1 by decide +kernel) rfl h01 22 24 hl1 hl2a (by decide) (by decide) hP hD hS hA hl.1 (lv_room (Nat.le_of_ble_eq_true rfl)) dc_L_law_414 ⟨Nat.le_of_ble_eq_true rfl, Nat.le_of_ble_eq_true rfl⟩ (fun z H locs hP hD hS => ?_)
          refine lv_aload_n hx hb dc_L_law_417 rfl (lv_at hl 1 rfl) ?_
          refine lv_aload_n hx hb dc_L_law_418 rfl (lv_at hl 3 rfl) ?_
          refine lv_iload_n hx hb dc_L_law_419 rfl (lv_at hl 0 rfl) ?_
          refine lv_iconst (v := nI 1) hx hb dc_L_law_420 (by decide) ?_
          refine lv_iadd hx hb dc_L_law_421 ?_
          refine tp_i (y := nI (x + 1)) (nI_add _ _) ?_
          refine wl_ld (k := x + 1) hx hb hScr hbl hbA hS (by omega) hL dc_L_law_422 ?_
          refine lw_i (rest := [.int res]) (q := (cn_R, ft_R, 27)) (ci := 4) ⟨hx, hb, hml, hown, htb⟩ hK hR (gw_V kw_554 kw_555 kw_556 kw_5 kw_557) (show mn_R_outputs.cls = cn_R ∧ mn_R_outputs.cls ≠ "java/lang/invoke/MethodHandle" ∧ mn_R_outputs.cls ≠ "java/lang/invoke/VarHandle" ∧ (parseMethodDescriptor mn_R_outputs.desc).map (fun d => d.parameters.length) = some 1 by decide +kernel) rfl h02 24 22 hl2a hln1 (by decide) (by decide) hP hD hS hA hl.1 (lv_room (Nat.le_of_ble_eq_true rfl)) dc_L_law_423 ⟨Nat.le_of_ble_eq_true rfl, Nat.le_of_ble_eq_true rfl⟩ (fun z H locs hP hD hS => ?_)
          obtain ⟨mkn, e3⟩ := h3 z
          rw [e3] at hP hD
          refine lv_icmp_eq (tgt := 559) hx hb dc_L_law_426 (by decide) (fun _ => ?_) (fun hc => absurd rfl hc)
          exact hct _ _ _ ⟨⟨w1n, w2n, mkn, hRel, hP, hD⟩, hS, hl⟩
        · refine lv_tableIn (tgt := 431) (off := 399) hx hb dc_L_law_32 (by decide +kernel) (by decide +kernel) (by decide +kernel) (by decide) ?_
          obtain ⟨w1n, w2n, w3, res, hC, hR, h3, hRel⟩ := st_state l dC dI cI cJ cZ cP p1 u_1 r pf hpf mk (by omega) hRel (xs (x + 1))
          obtain ⟨hl2a, f2, h02⟩ := hl2 mk
          obtain ⟨hln1, _, hln2⟩ := Rel_len hRel
          refine lv_aload_n hx hb dc_L_law_431 rfl (lv_at hl 2 rfl) ?_
          refine lv_aload_n hx hb dc_L_law_432 rfl (lv_at hl 3 rfl) ?_
          refine lv_iload_n hx hb dc_L_law_433 rfl (lv_at hl 0 rfl) ?_
          refine lv_iconst (v := nI 1) hx hb dc_L_law_434 (by decide) ?_
          refine lv_iadd hx hb dc_L_law_435 ?_
          refine tp_i (y := nI (x + 1)) (nI_add _ _) ?_
          refine wl_ld (k := x + 1) hx hb hScr hbl hbA hS (by omega) hL dc_L_law_436 ?_
          refine lw_i (rest := []) (q := (cn_O, ft_O, 4)) (ci := 3) ⟨hx, hb, hml, hown, htb⟩ hK hC (gw_V kw_331 kw_332 kw_333 kw_1 kw_334) (show mn_O_state.cls = cn_O ∧ mn_O_state.cls ≠ "java/lang/invoke/MethodHandle" ∧ mn_O_state.cls ≠ "java/lang/invoke/VarHandle" ∧ (parseMethodDescriptor mn_O_state.desc).map (fun d => d.parameters.length) = some 1 by decide +kernel) rfl h01 22 24 hl1 hl2a (by decide) (by decide) hP hD hS hA hl.1 (lv_room (Nat.le_of_ble_eq_true rfl)) dc_L_law_437 ⟨Nat.le_of_ble_eq_true rfl, Nat.le_of_ble_eq_true rfl⟩ (fun z H locs hP hD hS => ?_)
          refine lv_aload_n hx hb dc_L_law_440 rfl (lv_at hl 1 rfl) ?_
          refine lv_aload_n hx hb dc_L_law_441 rfl (lv_at hl 3 rfl) ?_
          refine lv_iload_n hx hb dc_L_law_442 rfl (lv_at hl 0 rfl) ?_
          refine lv_iconst (v := nI 1) hx hb dc_L_law_443 (by decide) ?_
          refine lv_iadd hx hb dc_L_law_444 ?_
          refine tp_i (y := nI (x + 1)) (nI_add _ _) ?_
          refine wl_ld (k := x + 1) hx hb hScr hbl hbA hS (by omega) hL dc_L_law_445 ?_
          refine lw_i (rest := [.int res]) (q := (cn_R, ft_R, 27)) (ci := 4) ⟨hx, hb, hml, hown, htb⟩ hK hR (gw_V kw_558 kw_559 kw_560 kw_5 kw_561) (show mn_R_state.cls = cn_R ∧ mn_R_state.cls ≠ "java/lang/invoke/MethodHandle" ∧ mn_R_state.cls ≠ "java/lang/invoke/VarHandle" ∧ (parseMethodDescriptor mn_R_state.desc).map (fun d => d.parameters.length) = some 1 by decide +kernel) rfl h02 24 22 hl2a hln1 (by decide) (by decide) hP hD hS hA hl.1 (lv_room (Nat.le_of_ble_eq_true rfl)) dc_L_law_446 ⟨Nat.le_of_ble_eq_true rfl, Nat.le_of_ble_eq_true rfl⟩ (fun z H locs hP hD hS => ?_)
          obtain ⟨mkn, e3⟩ := h3 z
          rw [e3] at hP hD
          refine lv_icmp_eq (tgt := 559) hx hb dc_L_law_449 (by decide) (fun _ => ?_) (fun hc => absurd rfl hc)
          exact hct _ _ _ ⟨⟨w1n, w2n, mkn, hRel, hP, hD⟩, hS, hl⟩
        · refine lv_tableIn (tgt := 454) (off := 422) hx hb dc_L_law_32 (by decide +kernel) (by decide +kernel) (by decide +kernel) (by decide) ?_
          obtain ⟨w1n, w2n, w3, res, hC, hR, h3, hRel⟩ := st_length l dC dI cI cJ cZ cP p1 u_1 r pf hpf mk (by omega) hRel (xs (x + 1))
          obtain ⟨hl2a, f2, h02⟩ := hl2 mk
          obtain ⟨hln1, _, hln2⟩ := Rel_len hRel
          refine lv_aload_n hx hb dc_L_law_454 rfl (lv_at hl 2 rfl) ?_
          refine lv_aload_n hx hb dc_L_law_455 rfl (lv_at hl 3 rfl) ?_
          refine lv_iload_n hx hb dc_L_law_456 rfl (lv_at hl 0 rfl) ?_
          refine lv_iconst (v := nI 1) hx hb dc_L_law_457 (by decide) ?_
          refine lv_iadd hx hb dc_L_law_458 ?_
          refine tp_i (y := nI (x + 1)) (nI_add _ _) ?_
          refine wl_ld (k := x + 1) hx hb hScr hbl hbA hS (by omega) hL dc_L_law_459 ?_
          refine lw_i (rest := []) (q := (cn_O, ft_O, 4)) (ci := 3) ⟨hx, hb, hml, hown, htb⟩ hK hC (gw_V kw_335 kw_336 kw_337 kw_1 kw_338) (show mn_O_length.cls = cn_O ∧ mn_O_length.cls ≠ "java/lang/invoke/MethodHandle" ∧ mn_O_length.cls ≠ "java/lang/invoke/VarHandle" ∧ (parseMethodDescriptor mn_O_length.desc).map (fun d => d.parameters.length) = some 1 by decide +kernel) rfl h01 22 24 hl1 hl2a (by decide) (by decide) hP hD hS hA hl.1 (lv_room (Nat.le_of_ble_eq_true rfl)) dc_L_law_460 ⟨Nat.le_of_ble_eq_true rfl, Nat.le_of_ble_eq_true rfl⟩ (fun z H locs hP hD hS => ?_)
          refine lv_aload_n hx hb dc_L_law_463 rfl (lv_at hl 1 rfl) ?_
          refine lv_aload_n hx hb dc_L_law_464 rfl (lv_at hl 3 rfl) ?_
          refine lv_iload_n hx hb dc_L_law_465 rfl (lv_at hl 0 rfl) ?_
          refine lv_iconst (v := nI 1) hx hb dc_L_law_466 (by decide) ?_
          refine lv_iadd hx hb dc_L_law_467 ?_
          refine tp_i (y := nI (x + 1)) (nI_add _ _) ?_
          refine wl_ld (k := x + 1) hx hb hScr hbl hbA hS (by omega) hL dc_L_law_468 ?_
          refine lw_i (rest := [.int res]) (q := (cn_R, ft_R, 27)) (ci := 4) ⟨hx, hb, hml, hown, htb⟩ hK hR (gw_V kw_562 kw_563 kw_564 kw_5 kw_565) (show mn_R_length.cls = cn_R ∧ mn_R_length.cls ≠ "java/lang/invoke/MethodHandle" ∧ mn_R_length.cls ≠ "java/lang/invoke/VarHandle" ∧ (parseMethodDescriptor mn_R_length.desc).map (fun d => d.parameters.length) = some 1 by decide +kernel) rfl h02 24 22 hl2a hln1 (by decide) (by decide) hP hD hS hA hl.1 (lv_room (Nat.le_of_ble_eq_true rfl)) dc_L_law_469 ⟨Nat.le_of_ble_eq_true rfl, Nat.le_of_ble_eq_true rfl⟩ (fun z H locs hP hD hS => ?_)
          obtain ⟨mkn, e3⟩ := h3 z
          rw [e3] at hP hD
          refine lv_icmp_eq (tgt := 559) hx hb dc_L_law_472 (by decide) (fun _ => ?_) (fun hc => absurd rfl hc)
          exact hct _ _ _ ⟨⟨w1n, w2n, mkn, hRel, hP, hD⟩, hS, hl⟩
        · refine lv_tableIn (tgt := 477) (off := 445) hx hb dc_L_law_32 (by decide +kernel) (by decide +kernel) (by decide +kernel) (by decide) ?_
          obtain ⟨w1n, w2n, w3, res, hC, hR, h3, hRel⟩ := st_known l dC dI cI cJ cZ cP p1 u_1 r pf hpf mk (by omega) hRel (xs (x + 1))
          obtain ⟨hl2a, f2, h02⟩ := hl2 mk
          obtain ⟨hln1, _, hln2⟩ := Rel_len hRel
          refine lv_aload_n hx hb dc_L_law_477 rfl (lv_at hl 2 rfl) ?_
          refine lv_aload_n hx hb dc_L_law_478 rfl (lv_at hl 3 rfl) ?_
          refine lv_iload_n hx hb dc_L_law_479 rfl (lv_at hl 0 rfl) ?_
          refine lv_iconst (v := nI 1) hx hb dc_L_law_480 (by decide) ?_
          refine lv_iadd hx hb dc_L_law_481 ?_
          refine tp_i (y := nI (x + 1)) (nI_add _ _) ?_
          refine wl_ld (k := x + 1) hx hb hScr hbl hbA hS (by omega) hL dc_L_law_482 ?_
          refine lw_i (rest := []) (q := (cn_O, ft_O, 4)) (ci := 3) ⟨hx, hb, hml, hown, htb⟩ hK hC (gw_V kw_339 kw_340 kw_341 kw_1 kw_342) (show mn_O_known.cls = cn_O ∧ mn_O_known.cls ≠ "java/lang/invoke/MethodHandle" ∧ mn_O_known.cls ≠ "java/lang/invoke/VarHandle" ∧ (parseMethodDescriptor mn_O_known.desc).map (fun d => d.parameters.length) = some 1 by decide +kernel) rfl h01 22 24 hl1 hl2a (by decide) (by decide) hP hD hS hA hl.1 (lv_room (Nat.le_of_ble_eq_true rfl)) dc_L_law_483 ⟨Nat.le_of_ble_eq_true rfl, Nat.le_of_ble_eq_true rfl⟩ (fun z H locs hP hD hS => ?_)
          refine lv_aload_n hx hb dc_L_law_486 rfl (lv_at hl 1 rfl) ?_
          refine lv_aload_n hx hb dc_L_law_487 rfl (lv_at hl 3 rfl) ?_
          refine lv_iload_n hx hb dc_L_law_488 rfl (lv_at hl 0 rfl) ?_
          refine lv_iconst (v := nI 1) hx hb dc_L_law_489 (by decide) ?_
          refine lv_iadd hx hb dc_L_law_490 ?_
          refine tp_i (y := nI (x + 1)) (nI_add _ _) ?_
          refine wl_ld (k := x + 1) hx hb hScr hbl hbA hS (by omega) hL dc_L_law_491 ?_
          refine lw_i (rest := [.int res]) (q := (cn_R, ft_R, 27)) (ci := 4) ⟨hx, hb, hml, hown, htb⟩ hK hR (gw_V kw_566 kw_567 kw_568 kw_5 kw_569) (show mn_R_known.cls = cn_R ∧ mn_R_known.cls ≠ "java/lang/invoke/MethodHandle" ∧ mn_R_known.cls ≠ "java/lang/invoke/VarHandle" ∧ (parseMethodDescriptor mn_R_known.desc).map (fun d => d.parameters.length) = some 1 by decide +kernel) rfl h02 24 22 hl2a hln1 (by decide) (by decide) hP hD hS hA hl.1 (lv_room (Nat.le_of_ble_eq_true rfl)) dc_L_law_492 ⟨Nat.le_of_ble_eq_true rfl, Nat.le_of_ble_eq_true rfl⟩ (fun z H locs hP hD hS => ?_)
          obtain ⟨mkn, e3⟩ := h3 z
          rw [e3] at hP hD
          refine lv_icmp_eq (tgt := 559) hx hb dc_L_law_495 (by decide) (fun _ => ?_) (fun hc => absurd rfl hc)
          exact hct _ _ _ ⟨⟨w1n, w2n, mkn, hRel, hP, hD⟩, hS, hl⟩
        · refine lv_tableIn (tgt := 500) (off := 468) hx hb dc_L_law_32 (by decide +kernel) (by decide +kernel) (by decide +kernel) (by decide) ?_
          obtain ⟨w1n, w2n, w3, res, hC, hR, h3, hRel⟩ := st_status l dC dI cI cJ cZ cP p1 u_1 r pf hpf mk (by omega) hRel (xs (x + 1))
          obtain ⟨hl2a, f2, h02⟩ := hl2 mk
          obtain ⟨hln1, _, hln2⟩ := Rel_len hRel
          refine lv_aload_n hx hb dc_L_law_500 rfl (lv_at hl 2 rfl) ?_
          refine lv_aload_n hx hb dc_L_law_501 rfl (lv_at hl 3 rfl) ?_
          refine lv_iload_n hx hb dc_L_law_502 rfl (lv_at hl 0 rfl) ?_
          refine lv_iconst (v := nI 1) hx hb dc_L_law_503 (by decide) ?_
          refine lv_iadd hx hb dc_L_law_504 ?_
          refine tp_i (y := nI (x + 1)) (nI_add _ _) ?_
          refine wl_ld (k := x + 1) hx hb hScr hbl hbA hS (by omega) hL dc_L_law_505 ?_
          refine lw_i (rest := []) (q := (cn_O, ft_O, 4)) (ci := 3) ⟨hx, hb, hml, hown, htb⟩ hK hC (gw_V kw_343 kw_344 kw_345 kw_1 kw_346) (show mn_O_status.cls = cn_O ∧ mn_O_status.cls ≠ "java/lang/invoke/MethodHandle" ∧ mn_O_status.cls ≠ "java/lang/invoke/VarHandle" ∧ (parseMethodDescriptor mn_O_status.desc).map (fun d => d.parameters.length) = some 1 by decide +kernel) rfl h01 22 24 hl1 hl2a (by decide) (by decide) hP hD hS hA hl.1 (lv_room (Nat.le_of_ble_eq_true rfl)) dc_L_law_506 ⟨Nat.le_of_ble_eq_true rfl, Nat.le_of_ble_eq_true rfl⟩ (fun z H locs hP hD hS => ?_)
          refine lv_aload_n hx hb dc_L_law_509 rfl (lv_at hl 1 rfl) ?_
          refine lv_aload_n hx hb dc_L_law_510 rfl (lv_at hl 3 rfl) ?_
          refine lv_iload_n hx hb dc_L_law_511 rfl (lv_at hl 0 rfl) ?_
          refine lv_iconst (v := nI 1) hx hb dc_L_law_512 (by decide) ?_
          refine lv_iadd hx hb dc_L_law_513 ?_
          refine tp_i (y := nI (x + 1)) (nI_add _ _) ?_
          refine wl_ld (k := x + 1) hx hb hScr hbl hbA hS (by omega) hL dc_L_law_514 ?_
          refine lw_i (rest := [.int res]) (q := (cn_R, ft_R, 27)) (ci := 4) ⟨hx, hb, hml, hown, htb⟩ hK hR (gw_V kw_570 kw_571 kw_572 kw_5 kw_573) (show mn_R_status.cls = cn_R ∧ mn_R_status.cls ≠ "java/lang/invoke/MethodHandle" ∧ mn_R_status.cls ≠ "java/lang/invoke/VarHandle" ∧ (parseMethodDescriptor mn_R_status.desc).map (fun d => d.parameters.length) = some 1 by decide +kernel) rfl h02 24 22 hl2a hln1 (by decide) (by decide) hP hD hS hA hl.1 (lv_room (Nat.le_of_ble_eq_true rfl)) dc_L_law_515 ⟨Nat.le_of_ble_eq_true rfl, Nat.le_of_ble_eq_true rfl⟩ (fun z H locs hP hD hS => ?_)
          obtain ⟨mkn, e3⟩ := h3 z
          rw [e3] at hP hD
          refine lv_icmp_eq (tgt := 559) hx hb dc_L_law_518 (by decide) (fun _ => ?_) (fun hc => absurd rfl hc)
          exact hct _ _ _ ⟨⟨w1n, w2n, mkn, hRel, hP, hD⟩, hS, hl⟩
        · refine lv_tableIn (tgt := 523) (off := 491) hx hb dc_L_law_32 (by decide +kernel) (by decide +kernel) (by decide +kernel) (by decide) ?_
          obtain ⟨w1n, w2n, w3, res, hC, hR, h3, hRel⟩ := st_orphans l dC dI cI cJ cZ cP p1 u_1 r pf hpf mk (by omega) hRel 
          obtain ⟨hl2a, f2, h02⟩ := hl2 mk
          obtain ⟨hln1, _, hln2⟩ := Rel_len hRel
          refine lv_aload_n hx hb dc_L_law_523 rfl (lv_at hl 2 rfl) ?_
          refine lw_i (rest := []) (q := (cn_O, ft_O, 4)) (ci := 3) ⟨hx, hb, hml, hown, htb⟩ hK hC (gw_V kw_348 kw_349 kw_350 kw_1 kw_351) (show mn_O_orphans.cls = cn_O ∧ mn_O_orphans.cls ≠ "java/lang/invoke/MethodHandle" ∧ mn_O_orphans.cls ≠ "java/lang/invoke/VarHandle" ∧ (parseMethodDescriptor mn_O_orphans.desc).map (fun d => d.parameters.length) = some 0 by decide +kernel) rfl h01 22 24 hl1 hl2a (by decide) (by decide) hP hD hS hA hl.1 (lv_room (Nat.le_of_ble_eq_true rfl)) dc_L_law_524 ⟨Nat.le_of_ble_eq_true rfl, Nat.le_of_ble_eq_true rfl⟩ (fun z H locs hP hD hS => ?_)
          refine lv_aload_n hx hb dc_L_law_527 rfl (lv_at hl 1 rfl) ?_
          refine lw_i (rest := [.int res]) (q := (cn_R, ft_R, 27)) (ci := 4) ⟨hx, hb, hml, hown, htb⟩ hK hR (gw_V kw_574 kw_575 kw_576 kw_5 kw_577) (show mn_R_orphans.cls = cn_R ∧ mn_R_orphans.cls ≠ "java/lang/invoke/MethodHandle" ∧ mn_R_orphans.cls ≠ "java/lang/invoke/VarHandle" ∧ (parseMethodDescriptor mn_R_orphans.desc).map (fun d => d.parameters.length) = some 0 by decide +kernel) rfl h02 24 22 hl2a hln1 (by decide) (by decide) hP hD hS hA hl.1 (lv_room (Nat.le_of_ble_eq_true rfl)) dc_L_law_528 ⟨Nat.le_of_ble_eq_true rfl, Nat.le_of_ble_eq_true rfl⟩ (fun z H locs hP hD hS => ?_)
          obtain ⟨mkn, e3⟩ := h3 z
          rw [e3] at hP hD
          refine lv_icmp_eq (tgt := 559) hx hb dc_L_law_531 (by decide) (fun _ => ?_) (fun hc => absurd rfl hc)
          exact hct _ _ _ ⟨⟨w1n, w2n, mkn, hRel, hP, hD⟩, hS, hl⟩
        · refine lv_tableIn (tgt := 536) (off := 504) hx hb dc_L_law_32 (by decide +kernel) (by decide +kernel) (by decide +kernel) (by decide) ?_
          obtain ⟨w1n, w2n, w3, res, hC, hR, h3, hRel⟩ := st_replayed l dC dI cI cJ cZ cP p1 u_1 r pf hpf mk (by omega) hRel (xs (x + 1))
          obtain ⟨hl2a, f2, h02⟩ := hl2 mk
          obtain ⟨hln1, _, hln2⟩ := Rel_len hRel
          refine lv_aload_n hx hb dc_L_law_536 rfl (lv_at hl 2 rfl) ?_
          refine lv_aload_n hx hb dc_L_law_537 rfl (lv_at hl 3 rfl) ?_
          refine lv_iload_n hx hb dc_L_law_538 rfl (lv_at hl 0 rfl) ?_
          refine lv_iconst (v := nI 1) hx hb dc_L_law_539 (by decide) ?_
          refine lv_iadd hx hb dc_L_law_540 ?_
          refine tp_i (y := nI (x + 1)) (nI_add _ _) ?_
          refine wl_ld (k := x + 1) hx hb hScr hbl hbA hS (by omega) hL dc_L_law_541 ?_
          refine lw_i (rest := []) (q := (cn_O, ft_O, 4)) (ci := 3) ⟨hx, hb, hml, hown, htb⟩ hK hC (gw_V kw_356 kw_357 kw_358 kw_1 kw_359) (show mn_O_replayed.cls = cn_O ∧ mn_O_replayed.cls ≠ "java/lang/invoke/MethodHandle" ∧ mn_O_replayed.cls ≠ "java/lang/invoke/VarHandle" ∧ (parseMethodDescriptor mn_O_replayed.desc).map (fun d => d.parameters.length) = some 1 by decide +kernel) rfl h01 22 24 hl1 hl2a (by decide) (by decide) hP hD hS hA hl.1 (lv_room (Nat.le_of_ble_eq_true rfl)) dc_L_law_542 ⟨Nat.le_of_ble_eq_true rfl, Nat.le_of_ble_eq_true rfl⟩ (fun z H locs hP hD hS => ?_)
          refine lv_aload_n hx hb dc_L_law_545 rfl (lv_at hl 1 rfl) ?_
          refine lv_aload_n hx hb dc_L_law_546 rfl (lv_at hl 3 rfl) ?_
          refine lv_iload_n hx hb dc_L_law_547 rfl (lv_at hl 0 rfl) ?_
          refine lv_iconst (v := nI 1) hx hb dc_L_law_548 (by decide) ?_
          refine lv_iadd hx hb dc_L_law_549 ?_
          refine tp_i (y := nI (x + 1)) (nI_add _ _) ?_
          refine wl_ld (k := x + 1) hx hb hScr hbl hbA hS (by omega) hL dc_L_law_550 ?_
          refine lw_i (rest := [.int res]) (q := (cn_R, ft_R, 27)) (ci := 4) ⟨hx, hb, hml, hown, htb⟩ hK hR (gw_V kw_582 kw_583 kw_584 kw_5 kw_585) (show mn_R_replayed.cls = cn_R ∧ mn_R_replayed.cls ≠ "java/lang/invoke/MethodHandle" ∧ mn_R_replayed.cls ≠ "java/lang/invoke/VarHandle" ∧ (parseMethodDescriptor mn_R_replayed.desc).map (fun d => d.parameters.length) = some 1 by decide +kernel) rfl h02 24 22 hl2a hln1 (by decide) (by decide) hP hD hS hA hl.1 (lv_room (Nat.le_of_ble_eq_true rfl)) dc_L_law_551 ⟨Nat.le_of_ble_eq_true rfl, Nat.le_of_ble_eq_true rfl⟩ (fun z H locs hP hD hS => ?_)
          obtain ⟨mkn, e3⟩ := h3 z
          rw [e3] at hP hD
          refine lv_icmp_eq (tgt := 559) hx hb dc_L_law_554 (by decide) (fun _ => ?_) (fun hc => absurd rfl hc)
          exact hct _ _ _ ⟨⟨w1n, w2n, mkn, hRel, hP, hD⟩, hS, hl⟩
