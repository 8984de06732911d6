-- the frame rule for whole contracts
theorem Met_con {l : Launch} {y : MethodName} {ws : List Cond} {rm : Room} {Pc Pc' : Array Value → State → Prop} {Qc Qc' : Array Value → State → Outcome → State → Prop} {mc ms : Nat} {free free' : Addr → Prop}
    (h : Met l y ws rm Pc Qc mc ms free) (hp : ∀ a s, Pc' a s → Pc a s) (hq : ∀ a s o t, Pc' a s → Qc a s o t → Qc' a s o t) (hf : ∀ q, free q → free' q) : Met l y ws rm Pc' Qc' mc ms free' := by
  intro p e h1 h2 h3 s m args below hs ha hP hK
  obtain ⟨n, o, a1, a2, a3, a4, L, a5, a6⟩ := h p e h1 h2 h3 s m args below hs ha (hp _ _ hP) hK
  exact ⟨n, o, a1, a2, a3, hq _ _ _ _ hP a4, L, a5, fun q hq => hf _ (a6 q hq)⟩
def rmOk (rm : Room) (n : Nat) : Prop := rm.cells = 0 ∧ rm.slots = 0 ∧ rm.frames + 1 ≤ 7 ∧ 8 + (n + 11) + rm.locals ≤ 230
def okI (l : Launch) (y : MethodName) (c : ByteArray) (n : Nat) (rt : Option FieldType) (D : va_G) (tys : List (ClassId × FieldType)) (av : List Value) (ws : va_W) (ws' : (Nat → Bool) → va_W) (res : Int32) : Prop := ∃ rm : Room, rmOk rm n ∧ ∀ sz, mt_Ix l y c n rt rm D tys sz av ws ws' res 0 0
def okV (l : Launch) (y : MethodName) (c : ByteArray) (n : Nat) (rt : Option FieldType) (D : va_G) (tys : List (ClassId × FieldType)) (av : List Value) (ws : va_W) (ws' : (Nat → Bool) → va_W) : Prop := ∃ rm : Room, rmOk rm n ∧ ∀ sz, mt_Vx l y c n rt rm D tys sz av ws ws' 0 0
section LF
variable {l : Launch} {y : MethodName} {c : ByteArray} {n : Nat} {rt : Option FieldType} {rm : Room} {D : va_G} {tys : List (ClassId × FieldType)} {av : List Value} {ws wc : va_W} {res : Int32}
theorem lf_pre {sz : Nat} (isC : List Nat) (hC1 : isC.filterMap (fun i => ws[i]?) = wc) (hC : isC.map (fun i => ws[i]?) = wc.map some) (hnC : va_nd isC = true) (a : Array Value) (s : State) (h : va_Pc av (cw_pre D tys ws sz) a s) : va_Pc av (cw_pre D tys wc sz) a s := by
  obtain ⟨h0, h1, hP, hK, hD⟩ := h
  exact ⟨h0, h1, hP.sub isC hC1, hK, hD.sub isC hnC hC⟩
theorem lf_A {sz : Nat} (isC : List Nat) (hC : isC.map (fun i => ws[i]?) = wc.map some) (q : Nat) (h : va_A wc sz q) : va_A ws sz q := by
  rcases h with ⟨k, e, h⟩ | h
  · have h1 : (isC.map (fun i => ws[i]?))[k]? = some (some (q, e)) := by rw [hC, List.getElem?_map, h]; rfl
    rw [List.getElem?_map] at h1
    cases hi : isC[k]? with
    | none => rw [hi] at h1; cases h1
    | some i => rw [hi] at h1; exact Or.inl ⟨i, e, Option.some.inj h1⟩
  · exact Or.inr h
theorem lf_post {sz : Nat} {w1 w' : va_W} (isC isR is2 : List Nat) (hC : isC.map (fun i => ws[i]?) = wc.map some) (hR : isR.map (fun i => ws[i]?) = (isR.filterMap (fun i => ws[i]?)).map some) (hnR : va_nd isR = true) (hdis : ∀ i ∈ isR, i ∉ isC)
    (h1 : is2.filterMap (fun i => (isR.filterMap (fun i => ws[i]?) ++ w1)[i]?) = w') (h2 : is2.map (fun i => (isR.filterMap (fun i => ws[i]?) ++ w1)[i]?) = w'.map some) (hn2 : va_nd is2 = true) {s t : State} (hpre : cw_pre D tys ws sz s) (hpost : cw_post D tys (va_A wc sz) w1 t) (hF : va_F (va_A wc sz) s t) : cw_post D tys (va_A ws sz) w' t ∧ va_F (va_A ws sz) s t := by
  obtain ⟨e0, hP, hK, hD⟩ := hpre
  obtain ⟨gP, gK, gD⟩ := hpost
  subst e0
  have hFc := lf_A (sz := s.heap.size) isC hC
  obtain ⟨j1, j2⟩ := va_join hP (hD.self (sz := s.heap.size)) isC isR hC hR hnR hdis (fun q h9 h10 => hF.2 q h9 h10) hFc gP gD
  exact ⟨⟨j1.sub is2 h1, gK, j2.sub is2 hn2 h2⟩, hF.1, fun q h9 h10 => hF.2 q h9 (fun z => h10 (hFc q z))⟩
theorem lf_I {w1 w' : va_W} (hm : ∀ sz, mt_I l y c n rt rm D tys sz av wc w1 res 0 0) (isC isR is2 : List Nat) (hC1 : isC.filterMap (fun i => ws[i]?) = wc) (hC : isC.map (fun i => ws[i]?) = wc.map some) (hnC : va_nd isC = true) (hR : isR.map (fun i => ws[i]?) = (isR.filterMap (fun i => ws[i]?)).map some) (hnR : va_nd isR = true) (hdis : ∀ i ∈ isR, i ∉ isC)
    (h1 : is2.filterMap (fun i => (isR.filterMap (fun i => ws[i]?) ++ w1)[i]?) = w') (h2 : is2.map (fun i => (isR.filterMap (fun i => ws[i]?) ++ w1)[i]?) = w'.map some) (hn2 : va_nd is2 = true) (hrm : rmOk rm n) : okI l y c n rt D tys av ws (fun _ => w') res := by
  refine ⟨rm, hrm, fun sz => Met_con (hm sz) (lf_pre isC hC1 hC hnC) (fun a s o t hp hq => ?_) (lf_A isC hC)⟩
  obtain ⟨⟨r, u, q1, q2, q3⟩, q4⟩ := hq
  obtain ⟨g1, g2⟩ := lf_post isC isR is2 hC hR hnR hdis h1 h2 hn2 hp.2 q3 q4
  exact ⟨⟨r, fun _ => false, q1, q2, g1⟩, g2⟩
theorem lf_V {w1 w' : va_W} (hm : ∀ sz, mt_V l y c n rt rm D tys sz av wc w1 0 0) (isC isR is2 : List Nat) (hC1 : isC.filterMap (fun i => ws[i]?) = wc) (hC : isC.map (fun i => ws[i]?) = wc.map some) (hnC : va_nd isC = true) (hR : isR.map (fun i => ws[i]?) = (isR.filterMap (fun i => ws[i]?)).map some) (hnR : va_nd isR = true) (hdis : ∀ i ∈ isR, i ∉ isC)
    (h1 : is2.filterMap (fun i => (isR.filterMap (fun i => ws[i]?) ++ w1)[i]?) = w') (h2 : is2.map (fun i => (isR.filterMap (fun i => ws[i]?) ++ w1)[i]?) = w'.map some) (hn2 : va_nd is2 = true) (hrm : rmOk rm n) : okV l y c n rt D tys av ws (fun _ => w') := by
  refine ⟨rm, hrm, fun sz => Met_con (hm sz) (lf_pre isC hC1 hC hnC) (fun a s o t hp hq => ?_) (lf_A isC hC)⟩
  obtain ⟨⟨u, q1, q2, q3⟩, q4⟩ := hq
  obtain ⟨g1, g2⟩ := lf_post isC isR is2 hC hR hnR hdis h1 h2 hn2 hp.2 q3 q4
  exact ⟨⟨fun _ => false, q1, q2, g1⟩, g2⟩
theorem lf_Ix {w1 w' : (Nat → Bool) → va_W} (hm : ∀ sz, mt_Ix l y c n rt rm D tys sz av wc w1 res 0 0) (isC isR is2 : List Nat) (hC1 : isC.filterMap (fun i => ws[i]?) = wc) (hC : isC.map (fun i => ws[i]?) = wc.map some) (hnC : va_nd isC = true) (hR : isR.map (fun i => ws[i]?) = (isR.filterMap (fun i => ws[i]?)).map some) (hnR : va_nd isR = true) (hdis : ∀ i ∈ isR, i ∉ isC)
    (h1 : ∀ u, is2.filterMap (fun i => (isR.filterMap (fun i => ws[i]?) ++ w1 u)[i]?) = w' u) (h2 : ∀ u, is2.map (fun i => (isR.filterMap (fun i => ws[i]?) ++ w1 u)[i]?) = (w' u).map some) (hn2 : va_nd is2 = true) (hrm : rmOk rm n) : okI l y c n rt D tys av ws w' res := by
  refine ⟨rm, hrm, fun sz => Met_con (hm sz) (lf_pre isC hC1 hC hnC) (fun a s o t hp hq => ?_) (lf_A isC hC)⟩
  obtain ⟨⟨r, u, q1, q2, q3⟩, q4⟩ := hq
  obtain ⟨g1, g2⟩ := lf_post isC isR is2 hC hR hnR hdis (h1 u) (h2 u) hn2 hp.2 q3 q4
  exact ⟨⟨r, u, q1, q2, g1⟩, g2⟩
end LF
-- the worlds of the class and of the reference
abbrev wC (o0 : Nat) (u : Nat → Nat) (cI cJ cP : ClassId) (pf : Nat → Option Nat) (nn : Nat) (dn : Nat → Bool) (n oc le : Nat → Nat) (ll li : Nat → Int64) (lc kc : Nat → Nat) (rp : Nat → Int32) (ch : Nat → Nat → Nat) (ou : Nat → Nat → Int32) (cn : Nat) (sS lS rS : Int64) (sv : Nat → Int32) (rc : Nat → Nat) (an : Nat → Option Nat) (dp : Nat → Int64) (mn mi : Nat) (vs : Nat → Int32) (tg : Nat → Nat) (sr : Nat → Option Nat) (kn su : Nat → Nat) : va_W :=
  [zO o0 (u 0) (u 10) (u 15) nn, (u 0, .inl (cP, 3, .inr (.inr (.inr (.inr pf))))),
   zP (u 1) (u 2) (u 3) (dn 0) (n 0) (oc 0) (le 0) (ll 0) (li 0) (lc 0) (kc 0) (rp 0), (u 2, .inl (cI, 40, .inl (nF (ch 0)))), (u 3, .inl (cI, 40, .inl (ou 0))),
   zP (u 4) (u 5) (u 6) (dn 1) (n 1) (oc 1) (le 1) (ll 1) (li 1) (lc 1) (kc 1) (rp 1), (u 5, .inl (cI, 40, .inl (nF (ch 1)))), (u 6, .inl (cI, 40, .inl (ou 1))),
   zP (u 7) (u 8) (u 9) (dn 2) (n 2) (oc 2) (le 2) (ll 2) (li 2) (lc 2) (kc 2) (rp 2), (u 8, .inl (cI, 40, .inl (nF (ch 2)))), (u 9, .inl (cI, 40, .inl (ou 2))),
   zI (u 10) (u 11) (u 12) (u 13) (u 14) cn sS lS rS, (u 11, .inl (cI, 40, .inl sv)), (u 12, .inl (cI, 40, .inl (nF rc))), (u 13, .inl (cI, 40, .inl (oF an))), (u 14, .inl (cJ, 40, .inr (.inl dp))),
   zM (u 15) (u 16) (u 17) (u 18) (u 19) (u 20) mn mi, (u 16, .inl (cI, 104, .inl vs)), (u 17, .inl (cI, 104, .inl (nF tg))), (u 18, .inl (cI, 104, .inl (oF sr))), (u 19, .inl (cI, 104, .inl (nF kn))), (u 20, .inl (cI, 104, .inl (nF su)))]
abbrev wR (r : Nat → Nat) (cI cZ : ClassId) (cn mn mi nn : Nat) (bf : Nat → Option Nat) (rc : Nat → Nat) (sv : Nat → Int32) (sb lo : Nat → Bool) (fr : Nat → Nat) (an : Nat → Option Nat) (ot mk : Nat → Bool) (vs : Nat → Int32) (tg su : Nat → Nat) (sr : Nat → Option Nat) (kn : Nat → Nat) (dw : Nat → Bool) (cc lg ler : Nat → Nat) (lt sd : Nat → Option Nat) (pl sh : Nat → Int32) (sn : Nat → Nat) : va_W :=
  [zR r cn mn mi nn, (r 1, .inl (cI, 40, .inl (oF bf))), (r 2, .inl (cI, 40, .inl (nF rc))), (r 3, .inl (cI, 40, .inl sv)), (r 4, .inl (cZ, 40, .inl (bF sb))), (r 5, .inl (cZ, 40, .inl (bF lo))), (r 6, .inl (cI, 40, .inl (nF fr))), (r 7, .inl (cI, 40, .inl (oF an))), (r 8, .inl (cZ, 40, .inl (bF ot))), (r 9, .inl (cZ, 40, .inl (bF mk))),
   (r 12, .inl (cI, 104, .inl vs)), (r 13, .inl (cI, 104, .inl (nF tg))), (r 14, .inl (cI, 104, .inl (nF su))), (r 15, .inl (cI, 104, .inl (oF sr))), (r 16, .inl (cI, 104, .inl (nF kn))),
   (r 18, .inl (cZ, 3, .inl (bF dw))), (r 19, .inl (cI, 120, .inl (nF cc))), (r 20, .inl (cI, 3, .inl (nF lg))), (r 21, .inl (cI, 3, .inl (nF ler))), (r 22, .inl (cI, 3, .inl (oF lt))), (r 23, .inl (cI, 3, .inl (oF sd))), (r 24, .inl (cI, 3, .inl pl)), (r 25, .inl (cI, 120, .inl sh)), (r 26, .inl (cI, 3, .inl (nF sn)))]
