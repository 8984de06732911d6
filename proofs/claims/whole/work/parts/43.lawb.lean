theorem rg_fm {ws : va_W} : ∀ {is : List Nat} {wc : va_W}, is.map (fun i => ws[i]?) = wc.map some → is.filterMap (fun i => ws[i]?) = wc
  | [], [], _ => rfl
  | [], _ :: _, h => by cases h
  | _ :: _, [], h => by cases h
  | i :: is, q :: wc, h => by
    simp only [List.map_cons, List.cons.injEq] at h
    rw [List.filterMap_cons, h.1]
    dsimp only
    rw [rg_fm h.2]
theorem rg_1 (wa wb : va_W) : (List.range wa.length).map (fun i => (wa ++ wb)[i]?) = wa.map some := by
  apply List.ext_getElem?
  intro i
  by_cases h : i < wa.length
  · rw [List.getElem?_map, List.getElem?_map, List.getElem?_range h, List.getElem?_eq_getElem h]
    simp only [Option.map_some]
    rw [List.getElem?_append_left h, List.getElem?_eq_getElem h]
  · rw [List.getElem?_eq_none (by simp; omega), List.getElem?_eq_none (by simp; omega)]
theorem rg_2 (wa wb : va_W) : ((List.range wb.length).map (· + wa.length)).map (fun i => (wa ++ wb)[i]?) = wb.map some := by
  apply List.ext_getElem?
  intro i
  by_cases h : i < wb.length
  · rw [List.getElem?_map, List.getElem?_map, List.getElem?_map, List.getElem?_range h, List.getElem?_eq_getElem h]
    simp only [Option.map_some]
    rw [List.getElem?_append_right (by omega), Nat.add_sub_cancel, List.getElem?_eq_getElem h]
  · rw [List.getElem?_eq_none (by simp; omega), List.getElem?_eq_none (by simp; omega)]
theorem lp_c {L x : Nat} (hL : L ≤ 1536) (hx : x ≤ 1540) : (nI L - nI 3 < nI x) ↔ L < x + 3 := by
  by_cases h : 3 ≤ L
  · rw [pk_sub h, nI_ltI (by omega) (by omega)]
    omega
  · have hn : ∀ L, L < 3 → (nI L - nI 3).toInt < 0 := by decide +kernel
    have := hn L (by omega)
    constructor
    · intro _; omega
    · intro _
      refine Int32.lt_iff_toInt_lt.mpr ?_
      rw [nI_toInt (by omega)]
      omega
section LWB
variable {p : Program} {l : Launch} {e : Env} {s : State} {m : MethodId} {args : Array Value} {below : List Frame} {meth : Method} {c : Code} {H : Heap} {locs : List Loc} {cells slots : Nat} {Q : State → Prop}
variable {pc : Nat} {ls : Array Slot} {rest : List Value} {A : Nat → Prop} {H0 : Heap} {D : va_G} {tys : List (ClassId × FieldType)} {wa wb : va_W} {w3 : (Nat → Bool) → va_W} {res : Int32} {y : MethodName} {bts : ByteArray} {n : Nat} {rt : Option FieldType} {b ci : Nat} {q : vw_C} {As : List Value} {index : Nat} {fs : List Value}
theorem pr_1 (hP : va_P D clsL (wa ++ wb) H) (hK : va_K D clsL tys s) (hD : va_D A (wa ++ wb)) (hn1 : va_nd (List.range wa.length) = true) (hci : clsL[ci]? = some q) (h0 : wa[0]? = some (b, .inr (ci, fs))) : PreV s H q.1 b (va_Pc (.ref b :: As) (cw_pre D tys wa H.size)) As := by
  refine pr_V hP hK hD (va_recv hK hP (ci := ci) (q0 := 0) (fs := fs) hci ?_) (List.range wa.length) hn1 (rg_fm (rg_1 wa wb)) (rg_1 wa wb)
  have hl : 0 < wa.length := (List.getElem?_eq_some_iff.mp h0).1
  rw [List.getElem?_append_left hl]
  exact h0
theorem lw_i (S : CallFix p m c code 4 s args gtbl cn_L) (hK : va_K D clsL tys s) (hm : okI l y bts n rt D tys (.ref b :: As) wa w3 res) (hG : GoodIn gtbl (wsV cn_L index q.1 y (wsT y bts n rt)))
    (hd : y.cls = q.1 ∧ y.cls ≠ "java/lang/invoke/MethodHandle" ∧ y.cls ≠ "java/lang/invoke/VarHandle" ∧ (parseMethodDescriptor y.desc).map (fun d => d.parameters.length) = some As.length) (hci : clsL[ci]? = some q) (h0 : wa[0]? = some (b, .inr (ci, fs))) (n1 n2 : Nat) (h1 : wa.length = n1) (h2 : wb.length = n2) (hn1 : va_nd (List.range n1) = true) (hn2 : va_nd ((List.range n2).map (· + n1)) = true)
    (hP : va_P D clsL (wa ++ wb) H) (hD : va_D A (wa ++ wb)) (hS : va_S A H0 H locs) (hA : ∀ q, H0.size ≤ q → A q) (hsz : ls.size = 4) (hW : 2 * (F0 m pc ls (As.reverse ++ .ref b :: rest)).monitorRoom + (rest.map fun v => v.category).sum ≤ 8) (hdg : decode code pc = .ok (.invokevirtual index, 3)) (hf : cells + 0 ≤ room_1.cells ∧ slots + 0 ≤ room_1.slots)
    (kk : ∀ (u : Nat → Bool) (H1 : Heap) (locs1 : List Loc), va_P D clsL (wb ++ w3 u) H1 → va_D A (wb ++ w3 u) → va_S A H0 H1 locs1 → W p l e room_1 s m args below meth c H1 locs1 cells slots Q (F0 m (pc + 3) ls (.int res :: rest))) : W p l e room_1 s m args below meth c H locs cells slots Q (F0 m pc ls (As.reverse ++ .ref b :: rest)) := by
  subst h1; subst h2
  obtain ⟨rm, hrm, hmm⟩ := hm
  exact cl_ix hP hD hS hA (List.range wa.length) ((List.range wb.length).map (· + wa.length)) (rg_1 wa wb) (rg_2 wa wb) hn2 (fun i hi hj => by simp at hi hj; omega)
    (va_runV (As := As) (rest := rest) S (hmm H.size) (cwV As.length S.2.2.2.2 hG rfl hrm.1 hrm.2.1 hd ⟨hrm.2.2.1, hrm.2.2.2⟩) (pr_1 hP hK hD hn1 hci h0) rfl rfl hsz rfl hW hdg hf) kk
theorem lw_v (S : CallFix p m c code 4 s args gtbl cn_L) (hK : va_K D clsL tys s) (hm : okV l y bts n rt D tys (.ref b :: As) wa w3) (hG : GoodIn gtbl (wsV cn_L index q.1 y (wsT y bts n rt)))
    (hd : y.cls = q.1 ∧ y.cls ≠ "java/lang/invoke/MethodHandle" ∧ y.cls ≠ "java/lang/invoke/VarHandle" ∧ (parseMethodDescriptor y.desc).map (fun d => d.parameters.length) = some As.length) (hci : clsL[ci]? = some q) (h0 : wa[0]? = some (b, .inr (ci, fs))) (n1 n2 : Nat) (h1 : wa.length = n1) (h2 : wb.length = n2) (hn1 : va_nd (List.range n1) = true) (hn2 : va_nd ((List.range n2).map (· + n1)) = true)
    (hP : va_P D clsL (wa ++ wb) H) (hD : va_D A (wa ++ wb)) (hS : va_S A H0 H locs) (hA : ∀ q, H0.size ≤ q → A q) (hsz : ls.size = 4) (hW : 2 * (F0 m pc ls (As.reverse ++ .ref b :: rest)).monitorRoom + (rest.map fun v => v.category).sum ≤ 8) (hdg : decode code pc = .ok (.invokevirtual index, 3)) (hf : cells + 0 ≤ room_1.cells ∧ slots + 0 ≤ room_1.slots)
    (kk : ∀ (u : Nat → Bool) (H1 : Heap) (locs1 : List Loc), va_P D clsL (wb ++ w3 u) H1 → va_D A (wb ++ w3 u) → va_S A H0 H1 locs1 → W p l e room_1 s m args below meth c H1 locs1 cells slots Q (F0 m (pc + 3) ls rest)) : W p l e room_1 s m args below meth c H locs cells slots Q (F0 m pc ls (As.reverse ++ .ref b :: rest)) := by
  subst h1; subst h2
  obtain ⟨rm, hrm, hmm⟩ := hm
  exact cl_vx hP hD hS hA (List.range wa.length) ((List.range wb.length).map (· + wa.length)) (rg_1 wa wb) (rg_2 wa wb) hn2 (fun i hi hj => by simp at hi hj; omega)
    (va_runV (As := As) (rest := rest) S (hmm H.size) (cwV As.length S.2.2.2.2 hG rfl hrm.1 hrm.2.1 hd ⟨hrm.2.2.1, hrm.2.2.2⟩) (pr_1 hP hK hD hn1 hci h0) rfl rfl hsz rfl hW hdg hf) kk
theorem wl_ld {R : Room} {cc : ByteArray} {L : Nat} {xs : Nat → Int32} (hexec : p.tables.exec = Jvm.exec) (hb : c.code = cc) (hX : va_X b L xs s H0) (hbl : b < H0.size) (hbA : ¬ A b) (hS : va_S A H0 H locs) {k : Nat} (hk : k < L) (hL : L ≤ 1536) (hdg : decode cc pc = .ok (.iaload, 1))
    (kk : W p l e R s m args below meth c H locs cells slots Q (F0 m (pc + 1) ls (.int (xs k) :: rest))) : W p l e R s m args below meth c H locs cells slots Q (F0 m pc ls (.int (nI k) :: .ref b :: rest)) := by
  refine va_sld hexec hb hX hbl hbA hS (vp_in_nI hk (by omega)) hdg ?_
  rw [nI_clamp (by omega)]
  exact kk
end LWB
section RLF
variable {cI cJ cZ cP : ClassId} {o0 : Nat} {u r : Nat → Nat} {pf : Nat → Option Nat} {x : Nat} {w1 : va_W} {w2 : (Nat → Bool) → va_W}
theorem Rel_len (h : Rel cI cJ cZ cP o0 u r pf x w1 w2) : w1.length = 22 ∧ (∃ fs, w1[0]? = some (o0, .inr (3, fs))) ∧ ∀ mk, (w2 mk).length = 24 ∧ ∃ fs, (w2 mk)[0]? = some (r 0, .inr (4, fs)) := by
  obtain ⟨cn, mn, mi, nn, sv, rc, an, vs, tg, sr, kn, su, dn, n, oc, le, rp, ll, li, lc, kc, ch, ou, sS, lS, rS, dp, bf, sb, lo, fr, ot, cc, lt, sd, sh, hI, hx, rfl, rfl⟩ := h
  exact ⟨rfl, ⟨_, rfl⟩, fun mk => ⟨rfl, _, rfl⟩⟩
theorem Rel_up {x' : Nat} (hx : x ≤ x') (h : Rel cI cJ cZ cP o0 u r pf x w1 w2) : Rel cI cJ cZ cP o0 u r pf x' w1 w2 := by
  obtain ⟨cn, mn, mi, nn, sv, rc, an, vs, tg, sr, kn, su, dn, n, oc, le, rp, ll, li, lc, kc, ch, ou, sS, lS, rS, dp, bf, sb, lo, fr, ot, cc, lt, sd, sh, hI, h1, h2, h3⟩ := h
  exact ⟨cn, mn, mi, nn, sv, rc, an, vs, tg, sr, kn, su, dn, n, oc, le, rp, ll, li, lc, kc, ch, ou, sS, lS, rS, dp, bf, sb, lo, fr, ot, cc, lt, sd, sh, hI, Nat.le_trans h1 hx, h2, h3⟩
end RLF
